/-! How many variables are whole -/
def wsm (f : Int → Int) : Nat → Int
  | 0 => 0
  | n + 1 => wsm f n + f ((n + 1 : Nat) : Int)
theorem wsm_cg {f g : Int → Int} : ∀ n : Nat, (∀ j : Int, 1 ≤ j → j ≤ n → g j = f j) → wsm g n = wsm f n := by
  intro n
  induction n with
  | zero => intro _; rfl
  | succ n ih =>
    intro h
    show wsm g n + g ((n + 1 : Nat) : Int) = wsm f n + f ((n + 1 : Nat) : Int)
    rw [ih (fun j a b => h j a (by omega)), h _ (by omega) (by omega)]
theorem wsm_put {S : sS} {k : Nat} {m z : Int} (h : 0 ≤ m) : wsm ((uA S k (m + 1) z).2.1 k) (m + 1).toNat = wsm (S.2.1 k) m.toNat + z := by
  rw [show (m + 1).toNat = m.toNat + 1 by omega]
  show wsm ((uA S k (m + 1) z).2.1 k) m.toNat + (uA S k (m + 1) z).2.1 k ((m.toNat + 1 : Nat) : Int) = _
  rw [show ((m.toNat + 1 : Nat) : Int) = m + 1 by omega, uA_on, wsm_cg (f := S.2.1 k) m.toNat (fun j a b => uA_ne (fun h => by have h2 := h.2; omega))]
/-- of the model o: whether it is a max, how many of its variables are whole -/
def WXc (S : sS) (o : Nat) (M : sM) : Prop := S.1 o 4 = M.2.2.2.2.2.2.1 ∧ wsm (S.2.1 (o + 2)) (S.1 o 2).toNat = M.2.2.2.2.1
theorem WXc.of {S u : sS} {o : Nat} {M M2 : sM} (h : WXc S o M) (e4 : u.1 o 4 = S.1 o 4) (e2 : u.1 o 2 = S.1 o 2) (er : u.2.1 (o + 2) = S.2.1 (o + 2)) (m1 : M2.2.2.2.2.1 = M.2.2.2.2.1) (m2 : M2.2.2.2.2.2.2.1 = M.2.2.2.2.2.2.1) : WXc u o M2 := by
  unfold WXc; rw [e4, e2, er, m1, m2]; exact h
/-- another model stands -/
def OTc (S u : sS) (y : Nat) : Prop := u.1 y 2 = S.1 y 2 ∧ u.1 y 3 = S.1 y 3 ∧ u.1 y 4 = S.1 y 4 ∧ u.2.1 (y + 2) = S.2.1 (y + 2) ∧ u.2.1 (y + 1) = S.2.1 (y + 1)
theorem OTc.tr {S u w : sS} {y : Nat} (h : OTc S u y) (h2 : OTc u w y) : OTc S w y := ⟨h2.1.trans h.1, h2.2.1.trans h.2.1, h2.2.2.1.trans h.2.2.1, h2.2.2.2.1.trans h.2.2.2.1, h2.2.2.2.2.trans h.2.2.2.2⟩
theorem OTc.rf {S : sS} {y : Nat} : OTc S S y := ⟨rfl, rfl, rfl, rfl, rfl⟩
theorem mdl_outQ {o : Nat} (m : mdl o) : pQ o = false ∧ pQ (o + 2) = false ∧ pQ (o + 1) = false := by
  have a : ∀ o, o < 231 → tau o = .inl 3 → pQ o = false ∧ pQ (o + 2) = false ∧ pQ (o + 1) = false := by decide +kernel
  exact a o (mdl_k m) m.1
theorem mdl_out2 {o : Nat} (m : mdl o) : pT (o + 2) = false ∧ pU (o + 2) = false ∧ pV (o + 2) = false := by
  have a : ∀ o, o < 231 → tau o = .inl 3 → pT (o + 2) = false ∧ pU (o + 2) = false ∧ pV (o + 2) = false := by decide +kernel
  exact a o (mdl_k m) m.1
theorem mdl_out1 {o : Nat} (m : mdl o) : pT (o + 1) = false ∧ pU (o + 1) = false ∧ pV (o + 1) = false := by
  have a : ∀ o, o < 231 → tau o = .inl 3 → pT (o + 1) = false ∧ pU (o + 1) = false ∧ pV (o + 1) = false := by decide +kernel
  exact a o (mdl_k m) m.1
set_option maxRecDepth 100000 in
set_option maxHeartbeats 4000000 in
theorem f_X3_setNumber (l : Launch) (G : sG) (S : sS) {o : Nat} {k j v : Int} (hI : cX G S 0 0 0) (hm : mdl o) (hk : 0 ≤ k ∧ k ≤ 16) (hj : 0 ≤ j ∧ j ≤ 12) (hv : -2147483648 ≤ v ∧ v ≤ 2147483647) : Met l yX3_setNumber (.code yX3_setNumber cX3_setNumber 5 none :: tb) (rmk 1 0 0) (sPc G 294 S [.ref (G.2.2.1 + o), .int (iv k), .int (iv j), .long (jv v)]) (sQv G 294 (fun u => cX G u 0 0 0 ∧ Fr S u (pM o) ∧ (u.1 o 2 = S.1 o 2 ∧ u.1 o 3 = S.1 o 3 ∧ u.1 o 4 = S.1 o 4 ∧ Hd (u.2.1 (o + 2) = S.2.1 (o + 2)) ∧ Hd (∀ x, u.2.1 (o + 1) x = if x = 13 * k + j then v else S.2.1 (o + 1) x)))) 0 0 (sF G) := by
  refine sEnter (by decide) (Nat.le_of_ble_eq_true rfl) ?_
  intro p e s m args below meth c Cx hr hlk hnm hW ls hl
  have Cx : sC G p m c cX3_setNumber 5 s args RX3 := Cx
  obtain ⟨hx, hb, hml, hown, hts⟩ := id Cx.1
  have hL : sL G [] := sL_nil
  have hl : lv_has ls 5 [(0, .ref (G.2.2.1 + o)), (1, .int (iv k)), (2, .int (iv j)), (3, .long (jv v))] := hl
  have hW0 := hW
  refine lv_aload_n hx hb dX3_setNumber_0 rfl (lv_at hl 0 rfl) ?_
  refine g_X3_11 Cx hW (k := o) (mdl_l hm) hm.1 (v := .ref (G.2.2.1 + (o + 1))) (hI.rq.2.2 o (mdl_k hm) hm.1).1 dX3_setNumber_1 ?_
  refine lv_iload_n hx hb dX3_setNumber_4 rfl (lv_at hl 1 rfl) ?_
  refine lv_bipush (v := iv 13) hx hb dX3_setNumber_5 (by decide) ?_
  refine r_imul hx hb dX3_setNumber_7 ?_
  refine lv_iload_n hx hb dX3_setNumber_8 rfl (lv_at hl 2 rfl) ?_
  refine r_iadd hx hb dX3_setNumber_9 ?_
  refine lv_lload_n hx hb dX3_setNumber_10 rfl (lv_at hl 3 rfl) ?_
  refine r_l2i hx hb dX3_setNumber_11 ?_
  refine rIast Cx hW hL (k := o + 1) (mdl_l1 hm) hm.2.1 (by decide) (by omega) (by omega) dX3_setNumber_12 (fun H locs hW hL => ?_)
  have F_1 : Fr S (uA S (o + 1) ((k * 13) + j) v) (pM o) := (Fr.rf : Fr S S (pM o)).A pM_1
  have i_2 : cX G (uA S (o + 1) ((k * 13) + j) v) 0 0 0 := hI.mA hm ⟨by omega, by omega⟩
  have q_3 : 0 ≤ S.1 o 2 ∧ S.1 o 2 ≤ 12 := hI.fi o 2 3 (mdl_k hm) hm.1
  have lk_4 : (uA S (o + 1) ((k * 13) + j) v).1 o 2 = S.1 o 2 := uA_f
  have q_5 : 0 ≤ S.1 o 3 ∧ S.1 o 3 ≤ 16 := hI.fi o 3 3 (mdl_k hm) hm.1
  have lk_6 : (uA S (o + 1) ((k * 13) + j) v).1 o 3 = S.1 o 3 := uA_f
  have q_7 : 0 ≤ S.1 o 4 ∧ S.1 o 4 ≤ 1 := hI.fi o 4 3 (mdl_k hm) hm.1
  have lk_8 : (uA S (o + 1) ((k * 13) + j) v).1 o 4 = S.1 o 4 := uA_f
  exact sVret Cx hr hlk hW hL ⟨i_2, F_1, ⟨by omega, by omega, by omega, (show (uA S (o + 1) ((k * 13) + j) v).2.1 (o + 2) = S.2.1 (o + 2) from funext fun x => uA_ne (fun h => absurd h.1 (tau_ne hm.2.2.1 hm.2.1 (fun h => by cases h)))), (fun x => by by_cases z : x = 13 * k + j; (rw [if_pos z, uA_get, if_pos ⟨rfl, by omega⟩]); (rw [if_neg z, uA_get, if_neg (fun h => z (by have := h.2; omega))]))⟩⟩ dX3_setNumber_13

set_option maxRecDepth 100000 in
set_option maxHeartbeats 4000000 in
theorem f_X3_addVariables (l : Launch) (G : sG) (S : sS) {o : Nat} {k z : Int} (hI : cX G S 0 0 0) (hm : mdl o) (hk : 0 ≤ k ∧ S.1 o 2 + k ≤ 12) (hz : 0 ≤ z ∧ z ≤ 1) : Met l yX3_addVariables (.code yX3_addVariables cX3_addVariables 4 none :: tb) (rmk 1 0 0) (sPc G 294 S [.ref (G.2.2.1 + o), .int (iv k), .int (iv z)]) (sQv G 294 (fun u => cX G u 0 0 0 ∧ Fr S u (pM o) ∧ (u.1 o 2 = S.1 o 2 + k ∧ u.1 o 3 = S.1 o 3 ∧ u.1 o 4 = S.1 o 4 ∧ Hd (wsm (u.2.1 (o + 2)) (u.1 o 2).toNat = wsm (S.2.1 (o + 2)) (S.1 o 2).toNat + (if z = 0 then 0 else k)) ∧ Hd (∀ x, S.1 o 2 < x → x ≤ S.1 o 2 + k → u.2.1 (o + 2) x = z) ∧ Hd (∀ x, x ≤ S.1 o 2 → u.2.1 (o + 2) x = S.2.1 (o + 2) x) ∧ Hd (u.2.1 (o + 1) = S.2.1 (o + 1))))) 0 0 (sF G) := by
  refine sEnter (by decide) (Nat.le_of_ble_eq_true rfl) ?_
  intro p e s m args below meth c Cx hr hlk hnm hW ls hl
  have Cx : sC G p m c cX3_addVariables 4 s args RX3 := Cx
  obtain ⟨hx, hb, hml, hown, hts⟩ := id Cx.1
  have hL : sL G [] := sL_nil
  have hl : lv_has ls 4 [(0, .ref (G.2.2.1 + o)), (1, .int (iv k)), (2, .int (iv z))] := hl
  have hW0 := hW
  have q_1 : 0 ≤ S.1 o 2 ∧ S.1 o 2 ≤ 12 := hI.fi o 2 3 (mdl_k hm) hm.1
  refine lv_iconst (v := iv 0) hx hb dX3_addVariables_0 (by decide) ?_
  refine lv_istore_n (lv' := [(3, .int (iv 0)), (0, .ref (G.2.2.1 + o)), (1, .int (iv k)), (2, .int (iv z))]) hx hb dX3_addVariables_1 rfl hl (by decide) rfl (fun ls hl => ?_)
  have loop_2 : ∀ (fuel : Nat) (S2 : sS) (i : Int) (H : Heap) (locs : List Loc) (ls : Array Slot), (k - i).toNat < fuel → (cX G S2 0 0 0) → (Fr S S2 (pM o)) → (Fr S S2 (pM o)) → (0 ≤ i ∧ i ≤ k ∧ S2.1 o 2 = S.1 o 2 + i) → (S2.1 o 3 = S.1 o 3 ∧ S2.1 o 4 = S.1 o 4) → (Hd (wsm (S2.2.1 (o + 2)) (S2.1 o 2).toNat = wsm (S.2.1 (o + 2)) (S.1 o 2).toNat + (if z = 0 then 0 else i))) → (Hd (∀ x, S.1 o 2 < x → x ≤ S.1 o 2 + i → S2.2.1 (o + 2) x = z)) → (Hd (∀ x, x ≤ S.1 o 2 → S2.2.1 (o + 2) x = S.2.1 (o + 2) x)) → (Hd (S2.2.1 (o + 1) = S.2.1 (o + 1))) → sW G 294 S2 H → sL G locs → lv_has ls 4 [(3, .int (iv i)), (0, .ref (G.2.2.1 + o)), (1, .int (iv k)), (2, .int (iv z))] → W p l e (rmk 1 0 0) s m args below meth c H locs 0 0 (MQ below (sQv G 294 (fun u => cX G u 0 0 0 ∧ Fr S u (pM o) ∧ (u.1 o 2 = S.1 o 2 + k ∧ u.1 o 3 = S.1 o 3 ∧ u.1 o 4 = S.1 o 4 ∧ Hd (wsm (u.2.1 (o + 2)) (u.1 o 2).toNat = wsm (S.2.1 (o + 2)) (S.1 o 2).toNat + (if z = 0 then 0 else k)) ∧ Hd (∀ x, S.1 o 2 < x → x ≤ S.1 o 2 + k → u.2.1 (o + 2) x = z) ∧ Hd (∀ x, x ≤ S.1 o 2 → u.2.1 (o + 2) x = S.2.1 (o + 2) x) ∧ Hd (u.2.1 (o + 1) = S.2.1 (o + 1))))) args s 0 0 (sF G)) (F0 m 2 ls []) := by
    intro fuel
    induction fuel with
    | zero => intro S2 i H locs ls hmeas hI2 hFm2 hL2_ hi h3 hw hx2 hz2 hn2 hW hL hl; exact absurd hmeas (Nat.not_lt_zero _)
    | succ fuel ih_2 =>
      intro S2 i H locs ls hmeas hI2 hFm2 hL2_ hi h3 hw hx2 hz2 hn2 hW hL hl
      refine lv_iload_n hx hb dX3_addVariables_2 rfl (lv_at hl 0 rfl) ?_
      refine lv_iload_n hx hb dX3_addVariables_3 rfl (lv_at hl 2 rfl) ?_
      refine r_icmp_ge (tgt := 42) hx hb ⟨(by omega), (by omega)⟩ ⟨(by omega), (by omega)⟩ dX3_addVariables_4 (by decide) (fun c_2 => ?_) (fun c_2 => ?_)
      · have q_3 : 0 ≤ S2.1 o 2 ∧ S2.1 o 2 ≤ 12 := hI2.fi o 2 3 (mdl_k hm) hm.1
        have q_4 : 0 ≤ S2.1 o 3 ∧ S2.1 o 3 ≤ 16 := hI2.fi o 3 3 (mdl_k hm) hm.1
        have q_5 : 0 ≤ S2.1 o 4 ∧ S2.1 o 4 ≤ 1 := hI2.fi o 4 3 (mdl_k hm) hm.1
        exact sVret Cx hr hlk hW hL ⟨hI2, hFm2, ⟨by omega, by omega, by omega, (by have y := hw; rw [show i = k by omega] at y; exact y), (fun x a b => hx2 x a (by omega)), hz2, hn2⟩⟩ dX3_addVariables_42
      · refine lv_aload_n hx hb dX3_addVariables_7 rfl (lv_at hl 1 rfl) ?_
        have q_6 : 0 ≤ S2.1 o 2 ∧ S2.1 o 2 ≤ 12 := hI2.fi o 2 3 (mdl_k hm) hm.1
        refine g_X3_19 Cx hW (k := o) (mdl_l hm) hm.1 (v := S2.1 o 2) rfl dX3_addVariables_8 ?_
        refine lv_bipush (v := iv 12) hx hb dX3_addVariables_11 (by decide) ?_
        refine r_icmp_ge (tgt := 42) hx hb ⟨(by omega), (by omega)⟩ ⟨(by omega), (by omega)⟩ dX3_addVariables_13 (by decide) (fun c_7 => ?_) (fun c_7 => ?_)
        · have q_8 : 0 ≤ S2.1 o 3 ∧ S2.1 o 3 ≤ 16 := hI2.fi o 3 3 (mdl_k hm) hm.1
          have q_9 : 0 ≤ S2.1 o 4 ∧ S2.1 o 4 ≤ 1 := hI2.fi o 4 3 (mdl_k hm) hm.1
          exact sVret Cx hr hlk hW hL ⟨hI2, hFm2, ⟨by omega, by omega, by omega, (by have y := hw; rw [show i = k by omega] at y; exact y), (fun x a b => hx2 x a (by omega)), hz2, hn2⟩⟩ dX3_addVariables_42
        · refine lv_aload_n hx hb dX3_addVariables_16 rfl (lv_at hl 1 rfl) ?_
          refine lv_dup hx hb dX3_addVariables_17 rfl ?_
          refine g_X3_19 Cx hW (k := o) (mdl_l hm) hm.1 (v := S2.1 o 2) rfl dX3_addVariables_18 ?_
          refine lv_iconst (v := iv 1) hx hb dX3_addVariables_21 (by decide) ?_
          refine r_iadd hx hb dX3_addVariables_22 ?_
          refine p_X3_19 Cx hW hL (k := o) (mdl_l hm) hm.1 dX3_addVariables_23 (fun H locs hW hL => ?_)
          have F_10 : Fr S (uF S2 o 2 ((S2.1 o 2) + 1)) (pM o) := hFm2.F pM_0
          have F_11 : Fr S (uF S2 o 2 ((S2.1 o 2) + 1)) (pM o) := hL2_.F pM_0
          have i_12 : cX G (uF S2 o 2 ((S2.1 o 2) + 1)) 0 0 0 := hI2.F hm.1 rfl (show 0 ≤ (S2.1 o 2) + 1 ∧ (S2.1 o 2) + 1 ≤ 12 from ⟨by omega, by omega⟩)
          refine lv_aload_n hx hb dX3_addVariables_26 rfl (lv_at hl 1 rfl) ?_
          refine g_X3_15 Cx hW (k := o) (mdl_l hm) hm.1 (v := .ref (G.2.2.1 + (o + 2))) (i_12.rq.2.2 o (mdl_k hm) hm.1).2 dX3_addVariables_27 ?_
          refine lv_aload_n hx hb dX3_addVariables_30 rfl (lv_at hl 1 rfl) ?_
          refine g_X3_19 Cx hW (k := o) (mdl_l hm) hm.1 (v := (S2.1 o 2) + 1) uF_on dX3_addVariables_31 ?_
          refine lv_iload_n hx hb dX3_addVariables_34 rfl (lv_at hl 3 rfl) ?_
          refine rZast Cx hW hL (k := o + 2) (mdl_l2 hm) hm.2.2.1 (by decide) (by omega) (by omega) (nar_z (by omega)) dX3_addVariables_35 (fun H locs hW hL => ?_)
          have F_13 : Fr S (uA (uF S2 o 2 ((S2.1 o 2) + 1)) (o + 2) ((S2.1 o 2) + 1) z) (pM o) := F_10.A pM_2
          have F_14 : Fr S (uA (uF S2 o 2 ((S2.1 o 2) + 1)) (o + 2) ((S2.1 o 2) + 1) z) (pM o) := F_11.A pM_2
          have i_15 : cX G (uA (uF S2 o 2 ((S2.1 o 2) + 1)) (o + 2) ((S2.1 o 2) + 1) z) 0 0 0 := i_12.mZ hm ⟨by omega, by omega⟩
          refine lv_iinc (v := iv (i + 1)) (lv' := [(3, .int (iv (i + 1))), (0, .ref (G.2.2.1 + o)), (1, .int (iv k)), (2, .int (iv z))]) hx hb dX3_addVariables_36 hl (k := 0) rfl ((Int32.ofInt_add _ _).symm) (by decide) rfl (fun ls hl => ?_)
          refine lv_goto (tgt := 2) hx hb dX3_addVariables_39 (by decide) ?_
          have lk_16 : (uA (uF S2 o 2 ((S2.1 o 2) + 1)) (o + 2) ((S2.1 o 2) + 1) z).1 o 2 = (S2.1 o 2) + 1 := (uA_f).trans (uF_on)
          have q_17 : 0 ≤ S2.1 o 3 ∧ S2.1 o 3 ≤ 16 := hI2.fi o 3 3 (mdl_k hm) hm.1
          have lk_18 : (uA (uF S2 o 2 ((S2.1 o 2) + 1)) (o + 2) ((S2.1 o 2) + 1) z).1 o 3 = S2.1 o 3 := (uA_f).trans (uF_ne (fun h => absurd h.2 (by decide)))
          have q_19 : 0 ≤ S2.1 o 4 ∧ S2.1 o 4 ≤ 1 := hI2.fi o 4 3 (mdl_k hm) hm.1
          have lk_20 : (uA (uF S2 o 2 ((S2.1 o 2) + 1)) (o + 2) ((S2.1 o 2) + 1) z).1 o 4 = S2.1 o 4 := (uA_f).trans (uF_ne (fun h => absurd h.2 (by decide)))
          exact ih_2 (uA (uF S2 o 2 ((S2.1 o 2) + 1)) (o + 2) ((S2.1 o 2) + 1) z) (i + 1) _ _ _ (by omega) i_15 F_13 F_14 (by omega) (by omega) (by rw [show (uA (uF S2 o 2 ((S2.1 o 2) + 1)) (o + 2) ((S2.1 o 2) + 1) z).1 o 2 = S2.1 o 2 + 1 by omega]; rw [wsm_put (by omega)]; show wsm (S2.2.1 (o + 2)) (S2.1 o 2).toNat + z = _; rw [hw]; split <;> omega) (fun x a b => by by_cases q : x = S2.1 o 2 + 1; (rw [q]; exact uA_on); (refine (uA_ne (fun h => q h.2)).trans (hx2 x a (by omega)))) (fun x a => (uA_ne (fun h => by have := h.2; omega)).trans (hz2 x a)) (show _ = _ from (funext fun x => uA_ne (fun h => absurd h.1 (by omega))).trans hn2) hW hL (lv_sub hl [0, 1, 2, 3] rfl)
  have q_21 : 0 ≤ S.1 o 3 ∧ S.1 o 3 ≤ 16 := hI.fi o 3 3 (mdl_k hm) hm.1
  have q_22 : 0 ≤ S.1 o 4 ∧ S.1 o 4 ≤ 1 := hI.fi o 4 3 (mdl_k hm) hm.1
  exact loop_2 (_ + 1) S 0 _ _ _ (Nat.lt_succ_self _) hI (Fr.rf : Fr S S (pM o)) Fr.rf (by omega) (by omega) (show wsm (S.2.1 (o + 2)) (S.1 o 2).toNat = wsm (S.2.1 (o + 2)) (S.1 o 2).toNat + (if z = 0 then 0 else 0) by split <;> omega) (fun x a b => absurd b (by omega)) (fun x _ => rfl) (show _ = _ from rfl) hW hL (lv_sub hl [0, 1, 2, 3] rfl)

set_option maxRecDepth 100000 in
set_option maxHeartbeats 4000000 in
theorem f_X3_addRow_1 (l : Launch) (G : sG) (S : sS) {o q : Nat} (hI : cX G S 0 0 0) (hm : mdl o) (hq : tau q = .inr (.long, 13) ∧ q < 231) (hvb : Hd (∀ j, 0 ≤ j → j ≤ 12 → -99999 ≤ S.2.2.1 q j ∧ S.2.2.1 q j ≤ 99999)) (h15 : S.1 o 3 ≤ 15) : Met l yX3_addRow (.code yX3_addRow cX3_addRow 4 none :: tb) (rmk 2 0 0) (sPc G 294 S [.ref (G.2.2.1 + o), .ref (G.2.2.1 + q), .int (iv 1)]) (sQv G 294 (fun u => cX G u 0 0 0 ∧ Fr S u (pM o) ∧ (u.1 o 2 = S.1 o 2 ∧ u.1 o 3 = S.1 o 3 + 1 ∧ u.1 o 4 = S.1 o 4 ∧ Hd (u.2.1 (o + 2) = S.2.1 (o + 2)) ∧ Hd (∀ x, x < 13 * (S.1 o 3 + 1) → u.2.1 (o + 1) x = S.2.1 (o + 1) x) ∧ Hd (∀ j, 0 ≤ j → j ≤ S.1 o 2 → u.2.1 (o + 1) (13 * (S.1 o 3 + 1) + j) = lin (S.2.2.1 q) (1) j)))) 0 0 (sF G) := by
  refine sEnter (by decide) (Nat.le_of_ble_eq_true rfl) ?_
  intro p e s m args below meth c Cx hr hlk hnm hW ls hl
  have Cx : sC G p m c cX3_addRow 4 s args RX3 := Cx
  obtain ⟨hx, hb, hml, hown, hts⟩ := id Cx.1
  have hL : sL G [] := sL_nil
  have hl : lv_has ls 4 [(0, .ref (G.2.2.1 + o)), (1, .ref (G.2.2.1 + q)), (2, .int (iv 1))] := hl
  have hW0 := hW
  refine lv_aload_n hx hb dX3_addRow_0 rfl (lv_at hl 0 rfl) ?_
  have q_1 : 0 ≤ S.1 o 3 ∧ S.1 o 3 ≤ 16 := hI.fi o 3 3 (mdl_k hm) hm.1
  refine g_X3_23 Cx hW (k := o) (mdl_l hm) hm.1 (v := S.1 o 3) rfl dX3_addRow_1 ?_
  refine lv_bipush (v := iv 16) hx hb dX3_addRow_4 (by decide) ?_
  refine r_icmp_lt (tgt := 10) hx hb ⟨(by omega), (by omega)⟩ ⟨(by omega), (by omega)⟩ dX3_addRow_6 (by decide) (fun c_2 => ?_) (fun c_2 => ?_)
  · refine lv_aload_n hx hb dX3_addRow_10 rfl (lv_at hl 0 rfl) ?_
    refine lv_dup hx hb dX3_addRow_11 rfl ?_
    refine g_X3_23 Cx hW (k := o) (mdl_l hm) hm.1 (v := S.1 o 3) rfl dX3_addRow_12 ?_
    refine lv_iconst (v := iv 1) hx hb dX3_addRow_15 (by decide) ?_
    refine r_iadd hx hb dX3_addRow_16 ?_
    refine p_X3_23 Cx hW hL (k := o) (mdl_l hm) hm.1 dX3_addRow_17 (fun H locs hW hL => ?_)
    have F_3 : Fr S (uF S o 3 ((S.1 o 3) + 1)) (pM o) := (Fr.rf : Fr S S (pM o)).F pM_0
    have i_4 : cX G (uF S o 3 ((S.1 o 3) + 1)) 0 0 0 := hI.F hm.1 rfl (show 0 ≤ (S.1 o 3) + 1 ∧ (S.1 o 3) + 1 ≤ 16 from ⟨by omega, by omega⟩)
    have hb0 := hvb 0 (by omega) (by omega)
    refine lv_aload_n hx hb dX3_addRow_20 rfl (lv_at hl 0 rfl) ?_
    refine lv_aload_n hx hb dX3_addRow_21 rfl (lv_at hl 0 rfl) ?_
    refine g_X3_23 Cx hW (k := o) (mdl_l hm) hm.1 (v := (S.1 o 3) + 1) uF_on dX3_addRow_22 ?_
    refine lv_iconst (v := iv 0) hx hb dX3_addRow_25 (by decide) ?_
    refine lv_iload_n hx hb dX3_addRow_26 rfl (lv_at hl 2 rfl) ?_
    refine r_ineg hx hb dX3_addRow_27 ?_
    refine r_i (b := (-1)) (by omega) ?_
    refine r_i2l hx hb ⟨(by omega), (by omega)⟩ dX3_addRow_28 ?_
    refine lv_aload_n hx hb dX3_addRow_29 rfl (lv_at hl 1 rfl) ?_
    refine lv_iconst (v := iv 0) hx hb dX3_addRow_30 (by decide) ?_
    refine rLald Cx hW (k := q) (Nat.lt_trans hq.2 (by decide)) hq.1 (by decide) (by omega) (by omega) dX3_addRow_31 ?_
    have q_5 : -9223372036854775808 ≤ S.2.2.1 q 0 ∧ S.2.2.1 q 0 ≤ 9223372036854775807 := hI.li q 0 hq.2
    refine r_j (b := S.2.2.1 q 0) uF_l ?_
    refine r_lmul hx hb dX3_addRow_32 ?_
    have q_6 : 0 ≤ S.1 o 2 ∧ S.1 o 2 ≤ 12 := hI.fi o 2 3 (mdl_k hm) hm.1
    have lk_7 : (uF S o 3 ((S.1 o 3) + 1)).1 o 2 = S.1 o 2 := uF_ne (fun h => absurd h.2 (by decide))
    have lk_8 : (uF S o 3 ((S.1 o 3) + 1)).1 o 3 = (S.1 o 3) + 1 := uF_on
    have q_9 : 0 ≤ S.1 o 4 ∧ S.1 o 4 ≤ 1 := hI.fi o 4 3 (mdl_k hm) hm.1
    have lk_10 : (uF S o 3 ((S.1 o 3) + 1)).1 o 4 = S.1 o 4 := uF_ne (fun h => absurd h.2 (by decide))
    refine sBv (sV (As := [.int (iv ((S.1 o 3) + 1)), .int (iv 0), .long (jv (((-1)) * (S.2.2.1 q 0)))]) (rest := []) (k := o) Cx (f_X3_setNumber l G (uF S o 3 ((S.1 o 3) + 1)) (o := o) (k := (S.1 o 3) + 1) (j := 0) (v := ((-1)) * (S.2.2.1 q 0)) i_4 hm (by omega) (by omega) (by omega)) (c_X3_30 Cx rfl rfl (rmk_ok (by omega) (by decide))) hW (mdl_l hm) hm.1 rfl rfl hl.1 rfl (Nat.le_of_ble_eq_true rfl) dX3_addRow_33 ⟨Nat.le_of_ble_eq_true rfl, Nat.le_of_ble_eq_true rfl⟩) hL (fun u_11 H locs k_12 hW hL => ?_)
    obtain ⟨iu_11, fu_11, xu_11⟩ := k_12
    have F_13 := F_3.trans fu_11
    have hsu_11 : Hd (∀ x, u_11.2.1 (o + 1) x = if x = 13 * (S.1 o 3 + 1) + 0 then lin (S.2.2.1 q) (1) 0 else S.2.1 (o + 1) x) := fun x => by by_cases z : x = 13 * (S.1 o 3 + 1) + 0; (exact (xu_11.2.2.2.2 x).trans ((if_pos (by omega)).trans ((show _ = lin (S.2.2.1 q) (1) 0 by unfold lin; rw [if_pos rfl]; omega).trans (if_pos z).symm))); (exact (xu_11.2.2.2.2 x).trans ((if_neg (by omega)).trans (if_neg z).symm))
    refine lv_iconst (v := iv 1) hx hb dX3_addRow_36 (by decide) ?_
    refine lv_istore_n (lv' := [(3, .int (iv 1)), (0, .ref (G.2.2.1 + o)), (1, .ref (G.2.2.1 + q)), (2, .int (iv 1))]) hx hb dX3_addRow_37 rfl hl (by decide) rfl (fun ls hl => ?_)
    have loop_38 : ∀ (fuel : Nat) (S38 : sS) (j : Int) (H : Heap) (locs : List Loc) (ls : Array Slot), (13 - j).toNat < fuel → (cX G S38 0 0 0) → (Fr S S38 (pM o)) → (Fr u_11 S38 (pM o)) → (1 ≤ j ∧ j ≤ 13) → (j ≤ S.1 o 2 + 1) → (S38.1 o 2 = S.1 o 2 ∧ S38.1 o 3 = S.1 o 3 + 1 ∧ S38.1 o 4 = S.1 o 4) → (Hd (S38.2.1 (o + 2) = S.2.1 (o + 2))) → (Hd (∀ x, x < 13 * (S.1 o 3 + 1) → S38.2.1 (o + 1) x = S.2.1 (o + 1) x)) → (Hd (∀ i, 0 ≤ i → i < j → S38.2.1 (o + 1) (13 * (S.1 o 3 + 1) + i) = lin (S.2.2.1 q) (1) i)) → sW G 294 S38 H → sL G locs → lv_has ls 4 [(3, .int (iv j)), (0, .ref (G.2.2.1 + o)), (1, .ref (G.2.2.1 + q)), (2, .int (iv 1))] → W p l e (rmk 2 0 0) s m args below meth c H locs 0 0 (MQ below (sQv G 294 (fun u => cX G u 0 0 0 ∧ Fr S u (pM o) ∧ (u.1 o 2 = S.1 o 2 ∧ u.1 o 3 = S.1 o 3 + 1 ∧ u.1 o 4 = S.1 o 4 ∧ Hd (u.2.1 (o + 2) = S.2.1 (o + 2)) ∧ Hd (∀ x, x < 13 * (S.1 o 3 + 1) → u.2.1 (o + 1) x = S.2.1 (o + 1) x) ∧ Hd (∀ j, 0 ≤ j → j ≤ S.1 o 2 → u.2.1 (o + 1) (13 * (S.1 o 3 + 1) + j) = lin (S.2.2.1 q) (1) j)))) args s 0 0 (sF G)) (F0 m 38 ls []) := by
      intro fuel
      induction fuel with
      | zero => intro S38 j H locs ls hmeas hI38 hFm38 hL38_ hj hjn hr3 hkp hlo hvs hW hL hl; exact absurd hmeas (Nat.not_lt_zero _)
      | succ fuel ih_38 =>
        intro S38 j H locs ls hmeas hI38 hFm38 hL38_ hj hjn hr3 hkp hlo hvs hW hL hl
        refine lv_iload_n hx hb dX3_addRow_38 rfl (lv_at hl 0 rfl) ?_
        refine lv_aload_n hx hb dX3_addRow_39 rfl (lv_at hl 1 rfl) ?_
        have q_14 : 0 ≤ S38.1 o 2 ∧ S38.1 o 2 ≤ 12 := hI38.fi o 2 3 (mdl_k hm) hm.1
        refine g_X3_19 Cx hW (k := o) (mdl_l hm) hm.1 (v := S38.1 o 2) rfl dX3_addRow_40 ?_
        refine r_icmp_gt (tgt := 67) hx hb ⟨(by omega), (by omega)⟩ ⟨(by omega), (by omega)⟩ dX3_addRow_43 (by decide) (fun c_15 => ?_) (fun c_15 => ?_)
        · have q_16 : 0 ≤ S38.1 o 3 ∧ S38.1 o 3 ≤ 16 := hI38.fi o 3 3 (mdl_k hm) hm.1
          have q_17 : 0 ≤ S38.1 o 4 ∧ S38.1 o 4 ≤ 1 := hI38.fi o 4 3 (mdl_k hm) hm.1
          exact sVret Cx hr hlk hW hL ⟨hI38, hFm38, ⟨by omega, by omega, by omega, hkp, hlo, (fun i a b => hvs i a (by omega))⟩⟩ dX3_addRow_67
        · have hbj := hvb j (by omega) (by omega)
          refine lv_aload_n hx hb dX3_addRow_46 rfl (lv_at hl 1 rfl) ?_
          refine lv_aload_n hx hb dX3_addRow_47 rfl (lv_at hl 1 rfl) ?_
          have q_18 : 0 ≤ S38.1 o 3 ∧ S38.1 o 3 ≤ 16 := hI38.fi o 3 3 (mdl_k hm) hm.1
          refine g_X3_23 Cx hW (k := o) (mdl_l hm) hm.1 (v := S38.1 o 3) rfl dX3_addRow_48 ?_
          refine lv_iload_n hx hb dX3_addRow_51 rfl (lv_at hl 0 rfl) ?_
          refine lv_iload_n hx hb dX3_addRow_52 rfl (lv_at hl 3 rfl) ?_
          refine r_i2l hx hb ⟨(by omega), (by omega)⟩ dX3_addRow_53 ?_
          refine lv_aload_n hx hb dX3_addRow_54 rfl (lv_at hl 2 rfl) ?_
          refine lv_iload_n hx hb dX3_addRow_55 rfl (lv_at hl 0 rfl) ?_
          refine rLald Cx hW (k := q) (Nat.lt_trans hq.2 (by decide)) hq.1 (by decide) (by omega) (by omega) dX3_addRow_56 ?_
          have q_19 : -9223372036854775808 ≤ S.2.2.1 q j ∧ S.2.2.1 q j ≤ 9223372036854775807 := hI.li q j hq.2
          refine r_j (b := S.2.2.1 q j) (((hL38_ q (pM_no (tau_ne hq.1 hm.1 (fun h => by cases h)) (tau_ne hq.1 hm.2.1 (fun h => by cases h)) (tau_ne hq.1 hm.2.2.1 (fun h => by cases h)))).2.2.1 j).trans (((fu_11 q (pM_no (tau_ne hq.1 hm.1 (fun h => by cases h)) (tau_ne hq.1 hm.2.1 (fun h => by cases h)) (tau_ne hq.1 hm.2.2.1 (fun h => by cases h)))).2.2.1 j).trans (uF_l))) ?_
          refine r_lmul hx hb dX3_addRow_57 ?_
          have q_20 : 0 ≤ S38.1 o 4 ∧ S38.1 o 4 ≤ 1 := hI38.fi o 4 3 (mdl_k hm) hm.1
          refine sBv (sV (As := [.int (iv (S38.1 o 3)), .int (iv j), .long (jv (1 * (S.2.2.1 q j)))]) (rest := []) (k := o) Cx (f_X3_setNumber l G S38 (o := o) (k := S38.1 o 3) (j := j) (v := 1 * (S.2.2.1 q j)) hI38 hm (by omega) (by omega) (by omega)) (c_X3_30 Cx rfl rfl (rmk_ok (by omega) (by decide))) hW (mdl_l hm) hm.1 rfl rfl hl.1 rfl (Nat.le_of_ble_eq_true rfl) dX3_addRow_58 ⟨Nat.le_of_ble_eq_true rfl, Nat.le_of_ble_eq_true rfl⟩) hL (fun u_21 H locs k_22 hW hL => ?_)
          obtain ⟨iu_21, fu_21, xu_21⟩ := k_22
          have F_23 := hFm38.trans fu_21
          have F_24 := hL38_.trans fu_21
          have hsu_21 : Hd (∀ x, u_21.2.1 (o + 1) x = if x = 13 * (S.1 o 3 + 1) + j then lin (S.2.2.1 q) (1) j else S38.2.1 (o + 1) x) := fun x => by by_cases z : x = 13 * (S.1 o 3 + 1) + j; (exact (xu_21.2.2.2.2 x).trans ((if_pos (by omega)).trans ((show _ = lin (S.2.2.1 q) (1) j by unfold lin; rw [if_neg (by omega)] <;> omega).trans (if_pos z).symm))); (exact (xu_21.2.2.2.2 x).trans ((if_neg (by omega)).trans (if_neg z).symm))
          refine lv_iinc (v := iv (j + 1)) (lv' := [(3, .int (iv (j + 1))), (0, .ref (G.2.2.1 + o)), (1, .ref (G.2.2.1 + q)), (2, .int (iv 1))]) hx hb dX3_addRow_61 hl (k := 0) rfl ((Int32.ofInt_add _ _).symm) (by decide) rfl (fun ls hl => ?_)
          refine lv_goto (tgt := 38) hx hb dX3_addRow_64 (by decide) ?_
          have q_25 : 0 ≤ u_21.1 o 2 ∧ u_21.1 o 2 ≤ 12 := iu_21.fi o 2 3 (mdl_k hm) hm.1
          have q_26 : 0 ≤ u_21.1 o 3 ∧ u_21.1 o 3 ≤ 16 := iu_21.fi o 3 3 (mdl_k hm) hm.1
          have q_27 : 0 ≤ u_21.1 o 4 ∧ u_21.1 o 4 ≤ 1 := iu_21.fi o 4 3 (mdl_k hm) hm.1
          exact ih_38 u_21 (j + 1) _ _ _ (by omega) iu_21 F_23 F_24 (by omega) (by omega) (by omega) ((show u_21.2.1 (o + 2) = S38.2.1 (o + 2) from xu_21.2.2.2.1).trans hkp) (fun x a => (hsu_21 x).trans ((if_neg (by omega)).trans (hlo x a))) (fun i a b => by by_cases z : i = j; (rw [z]; exact (hsu_21 _).trans (if_pos rfl)); exact (hsu_21 _).trans ((if_neg (by omega)).trans (hvs i a (by omega)))) hW hL (lv_sub hl [0, 1, 2, 3] rfl)
    have q_28 : 0 ≤ u_11.1 o 2 ∧ u_11.1 o 2 ≤ 12 := iu_11.fi o 2 3 (mdl_k hm) hm.1
    have q_29 : 0 ≤ u_11.1 o 3 ∧ u_11.1 o 3 ≤ 16 := iu_11.fi o 3 3 (mdl_k hm) hm.1
    have q_30 : 0 ≤ u_11.1 o 4 ∧ u_11.1 o 4 ≤ 1 := iu_11.fi o 4 3 (mdl_k hm) hm.1
    exact loop_38 (_ + 1) u_11 1 _ _ _ (Nat.lt_succ_self _) iu_11 F_13 Fr.rf (by omega) (by omega) (by omega) ((show u_11.2.1 (o + 2) = (uF S o 3 ((S.1 o 3) + 1)).2.1 (o + 2) from xu_11.2.2.2.1).trans (show (uF S o 3 ((S.1 o 3) + 1)).2.1 (o + 2) = S.2.1 (o + 2) from funext fun x => uF_a)) (fun x a => (hsu_11 x).trans (if_neg (by omega))) (fun i a b => by rw [show i = 0 by omega]; exact (hsu_11 _).trans (if_pos rfl)) hW hL (lv_sub hl [0, 1, 2, 3] rfl)
  · exfalso; omega

set_option maxRecDepth 100000 in
set_option maxHeartbeats 4000000 in
theorem f_X3_addRow_m (l : Launch) (G : sG) (S : sS) {o q : Nat} (hI : cX G S 0 0 0) (hm : mdl o) (hq : tau q = .inr (.long, 13) ∧ q < 231) (hvb : Hd (∀ j, 0 ≤ j → j ≤ 12 → -99999 ≤ S.2.2.1 q j ∧ S.2.2.1 q j ≤ 99999)) (h15 : S.1 o 3 ≤ 15) : Met l yX3_addRow (.code yX3_addRow cX3_addRow 4 none :: tb) (rmk 2 0 0) (sPc G 294 S [.ref (G.2.2.1 + o), .ref (G.2.2.1 + q), .int (iv ((-1)))]) (sQv G 294 (fun u => cX G u 0 0 0 ∧ Fr S u (pM o) ∧ (u.1 o 2 = S.1 o 2 ∧ u.1 o 3 = S.1 o 3 + 1 ∧ u.1 o 4 = S.1 o 4 ∧ Hd (u.2.1 (o + 2) = S.2.1 (o + 2)) ∧ Hd (∀ x, x < 13 * (S.1 o 3 + 1) → u.2.1 (o + 1) x = S.2.1 (o + 1) x) ∧ Hd (∀ j, 0 ≤ j → j ≤ S.1 o 2 → u.2.1 (o + 1) (13 * (S.1 o 3 + 1) + j) = lin (S.2.2.1 q) ((-1)) j)))) 0 0 (sF G) := by
  refine sEnter (by decide) (Nat.le_of_ble_eq_true rfl) ?_
  intro p e s m args below meth c Cx hr hlk hnm hW ls hl
  have Cx : sC G p m c cX3_addRow 4 s args RX3 := Cx
  obtain ⟨hx, hb, hml, hown, hts⟩ := id Cx.1
  have hL : sL G [] := sL_nil
  have hl : lv_has ls 4 [(0, .ref (G.2.2.1 + o)), (1, .ref (G.2.2.1 + q)), (2, .int (iv ((-1))))] := hl
  have hW0 := hW
  refine lv_aload_n hx hb dX3_addRow_0 rfl (lv_at hl 0 rfl) ?_
  have q_1 : 0 ≤ S.1 o 3 ∧ S.1 o 3 ≤ 16 := hI.fi o 3 3 (mdl_k hm) hm.1
  refine g_X3_23 Cx hW (k := o) (mdl_l hm) hm.1 (v := S.1 o 3) rfl dX3_addRow_1 ?_
  refine lv_bipush (v := iv 16) hx hb dX3_addRow_4 (by decide) ?_
  refine r_icmp_lt (tgt := 10) hx hb ⟨(by omega), (by omega)⟩ ⟨(by omega), (by omega)⟩ dX3_addRow_6 (by decide) (fun c_2 => ?_) (fun c_2 => ?_)
  · refine lv_aload_n hx hb dX3_addRow_10 rfl (lv_at hl 0 rfl) ?_
    refine lv_dup hx hb dX3_addRow_11 rfl ?_
    refine g_X3_23 Cx hW (k := o) (mdl_l hm) hm.1 (v := S.1 o 3) rfl dX3_addRow_12 ?_
    refine lv_iconst (v := iv 1) hx hb dX3_addRow_15 (by decide) ?_
    refine r_iadd hx hb dX3_addRow_16 ?_
    refine p_X3_23 Cx hW hL (k := o) (mdl_l hm) hm.1 dX3_addRow_17 (fun H locs hW hL => ?_)
    have F_3 : Fr S (uF S o 3 ((S.1 o 3) + 1)) (pM o) := (Fr.rf : Fr S S (pM o)).F pM_0
    have i_4 : cX G (uF S o 3 ((S.1 o 3) + 1)) 0 0 0 := hI.F hm.1 rfl (show 0 ≤ (S.1 o 3) + 1 ∧ (S.1 o 3) + 1 ≤ 16 from ⟨by omega, by omega⟩)
    have hb0 := hvb 0 (by omega) (by omega)
    refine lv_aload_n hx hb dX3_addRow_20 rfl (lv_at hl 0 rfl) ?_
    refine lv_aload_n hx hb dX3_addRow_21 rfl (lv_at hl 0 rfl) ?_
    refine g_X3_23 Cx hW (k := o) (mdl_l hm) hm.1 (v := (S.1 o 3) + 1) uF_on dX3_addRow_22 ?_
    refine lv_iconst (v := iv 0) hx hb dX3_addRow_25 (by decide) ?_
    refine lv_iload_n hx hb dX3_addRow_26 rfl (lv_at hl 2 rfl) ?_
    refine r_ineg hx hb dX3_addRow_27 ?_
    refine r_i (b := 1) (by omega) ?_
    refine r_i2l hx hb ⟨(by omega), (by omega)⟩ dX3_addRow_28 ?_
    refine lv_aload_n hx hb dX3_addRow_29 rfl (lv_at hl 1 rfl) ?_
    refine lv_iconst (v := iv 0) hx hb dX3_addRow_30 (by decide) ?_
    refine rLald Cx hW (k := q) (Nat.lt_trans hq.2 (by decide)) hq.1 (by decide) (by omega) (by omega) dX3_addRow_31 ?_
    have q_5 : -9223372036854775808 ≤ S.2.2.1 q 0 ∧ S.2.2.1 q 0 ≤ 9223372036854775807 := hI.li q 0 hq.2
    refine r_j (b := S.2.2.1 q 0) uF_l ?_
    refine r_lmul hx hb dX3_addRow_32 ?_
    have q_6 : 0 ≤ S.1 o 2 ∧ S.1 o 2 ≤ 12 := hI.fi o 2 3 (mdl_k hm) hm.1
    have lk_7 : (uF S o 3 ((S.1 o 3) + 1)).1 o 2 = S.1 o 2 := uF_ne (fun h => absurd h.2 (by decide))
    have lk_8 : (uF S o 3 ((S.1 o 3) + 1)).1 o 3 = (S.1 o 3) + 1 := uF_on
    have q_9 : 0 ≤ S.1 o 4 ∧ S.1 o 4 ≤ 1 := hI.fi o 4 3 (mdl_k hm) hm.1
    have lk_10 : (uF S o 3 ((S.1 o 3) + 1)).1 o 4 = S.1 o 4 := uF_ne (fun h => absurd h.2 (by decide))
    refine sBv (sV (As := [.int (iv ((S.1 o 3) + 1)), .int (iv 0), .long (jv (1 * (S.2.2.1 q 0)))]) (rest := []) (k := o) Cx (f_X3_setNumber l G (uF S o 3 ((S.1 o 3) + 1)) (o := o) (k := (S.1 o 3) + 1) (j := 0) (v := 1 * (S.2.2.1 q 0)) i_4 hm (by omega) (by omega) (by omega)) (c_X3_30 Cx rfl rfl (rmk_ok (by omega) (by decide))) hW (mdl_l hm) hm.1 rfl rfl hl.1 rfl (Nat.le_of_ble_eq_true rfl) dX3_addRow_33 ⟨Nat.le_of_ble_eq_true rfl, Nat.le_of_ble_eq_true rfl⟩) hL (fun u_11 H locs k_12 hW hL => ?_)
    obtain ⟨iu_11, fu_11, xu_11⟩ := k_12
    have F_13 := F_3.trans fu_11
    have hsu_11 : Hd (∀ x, u_11.2.1 (o + 1) x = if x = 13 * (S.1 o 3 + 1) + 0 then lin (S.2.2.1 q) ((-1)) 0 else S.2.1 (o + 1) x) := fun x => by by_cases z : x = 13 * (S.1 o 3 + 1) + 0; (exact (xu_11.2.2.2.2 x).trans ((if_pos (by omega)).trans ((show _ = lin (S.2.2.1 q) ((-1)) 0 by unfold lin; rw [if_pos rfl]; omega).trans (if_pos z).symm))); (exact (xu_11.2.2.2.2 x).trans ((if_neg (by omega)).trans (if_neg z).symm))
    refine lv_iconst (v := iv 1) hx hb dX3_addRow_36 (by decide) ?_
    refine lv_istore_n (lv' := [(3, .int (iv 1)), (0, .ref (G.2.2.1 + o)), (1, .ref (G.2.2.1 + q)), (2, .int (iv ((-1))))]) hx hb dX3_addRow_37 rfl hl (by decide) rfl (fun ls hl => ?_)
    have loop_38 : ∀ (fuel : Nat) (S38 : sS) (j : Int) (H : Heap) (locs : List Loc) (ls : Array Slot), (13 - j).toNat < fuel → (cX G S38 0 0 0) → (Fr S S38 (pM o)) → (Fr u_11 S38 (pM o)) → (1 ≤ j ∧ j ≤ 13) → (j ≤ S.1 o 2 + 1) → (S38.1 o 2 = S.1 o 2 ∧ S38.1 o 3 = S.1 o 3 + 1 ∧ S38.1 o 4 = S.1 o 4) → (Hd (S38.2.1 (o + 2) = S.2.1 (o + 2))) → (Hd (∀ x, x < 13 * (S.1 o 3 + 1) → S38.2.1 (o + 1) x = S.2.1 (o + 1) x)) → (Hd (∀ i, 0 ≤ i → i < j → S38.2.1 (o + 1) (13 * (S.1 o 3 + 1) + i) = lin (S.2.2.1 q) ((-1)) i)) → sW G 294 S38 H → sL G locs → lv_has ls 4 [(3, .int (iv j)), (0, .ref (G.2.2.1 + o)), (1, .ref (G.2.2.1 + q)), (2, .int (iv ((-1))))] → W p l e (rmk 2 0 0) s m args below meth c H locs 0 0 (MQ below (sQv G 294 (fun u => cX G u 0 0 0 ∧ Fr S u (pM o) ∧ (u.1 o 2 = S.1 o 2 ∧ u.1 o 3 = S.1 o 3 + 1 ∧ u.1 o 4 = S.1 o 4 ∧ Hd (u.2.1 (o + 2) = S.2.1 (o + 2)) ∧ Hd (∀ x, x < 13 * (S.1 o 3 + 1) → u.2.1 (o + 1) x = S.2.1 (o + 1) x) ∧ Hd (∀ j, 0 ≤ j → j ≤ S.1 o 2 → u.2.1 (o + 1) (13 * (S.1 o 3 + 1) + j) = lin (S.2.2.1 q) ((-1)) j)))) args s 0 0 (sF G)) (F0 m 38 ls []) := by
      intro fuel
      induction fuel with
      | zero => intro S38 j H locs ls hmeas hI38 hFm38 hL38_ hj hjn hr3 hkp hlo hvs hW hL hl; exact absurd hmeas (Nat.not_lt_zero _)
      | succ fuel ih_38 =>
        intro S38 j H locs ls hmeas hI38 hFm38 hL38_ hj hjn hr3 hkp hlo hvs hW hL hl
        refine lv_iload_n hx hb dX3_addRow_38 rfl (lv_at hl 0 rfl) ?_
        refine lv_aload_n hx hb dX3_addRow_39 rfl (lv_at hl 1 rfl) ?_
        have q_14 : 0 ≤ S38.1 o 2 ∧ S38.1 o 2 ≤ 12 := hI38.fi o 2 3 (mdl_k hm) hm.1
        refine g_X3_19 Cx hW (k := o) (mdl_l hm) hm.1 (v := S38.1 o 2) rfl dX3_addRow_40 ?_
        refine r_icmp_gt (tgt := 67) hx hb ⟨(by omega), (by omega)⟩ ⟨(by omega), (by omega)⟩ dX3_addRow_43 (by decide) (fun c_15 => ?_) (fun c_15 => ?_)
        · have q_16 : 0 ≤ S38.1 o 3 ∧ S38.1 o 3 ≤ 16 := hI38.fi o 3 3 (mdl_k hm) hm.1
          have q_17 : 0 ≤ S38.1 o 4 ∧ S38.1 o 4 ≤ 1 := hI38.fi o 4 3 (mdl_k hm) hm.1
          exact sVret Cx hr hlk hW hL ⟨hI38, hFm38, ⟨by omega, by omega, by omega, hkp, hlo, (fun i a b => hvs i a (by omega))⟩⟩ dX3_addRow_67
        · have hbj := hvb j (by omega) (by omega)
          refine lv_aload_n hx hb dX3_addRow_46 rfl (lv_at hl 1 rfl) ?_
          refine lv_aload_n hx hb dX3_addRow_47 rfl (lv_at hl 1 rfl) ?_
          have q_18 : 0 ≤ S38.1 o 3 ∧ S38.1 o 3 ≤ 16 := hI38.fi o 3 3 (mdl_k hm) hm.1
          refine g_X3_23 Cx hW (k := o) (mdl_l hm) hm.1 (v := S38.1 o 3) rfl dX3_addRow_48 ?_
          refine lv_iload_n hx hb dX3_addRow_51 rfl (lv_at hl 0 rfl) ?_
          refine lv_iload_n hx hb dX3_addRow_52 rfl (lv_at hl 3 rfl) ?_
          refine r_i2l hx hb ⟨(by omega), (by omega)⟩ dX3_addRow_53 ?_
          refine lv_aload_n hx hb dX3_addRow_54 rfl (lv_at hl 2 rfl) ?_
          refine lv_iload_n hx hb dX3_addRow_55 rfl (lv_at hl 0 rfl) ?_
          refine rLald Cx hW (k := q) (Nat.lt_trans hq.2 (by decide)) hq.1 (by decide) (by omega) (by omega) dX3_addRow_56 ?_
          have q_19 : -9223372036854775808 ≤ S.2.2.1 q j ∧ S.2.2.1 q j ≤ 9223372036854775807 := hI.li q j hq.2
          refine r_j (b := S.2.2.1 q j) (((hL38_ q (pM_no (tau_ne hq.1 hm.1 (fun h => by cases h)) (tau_ne hq.1 hm.2.1 (fun h => by cases h)) (tau_ne hq.1 hm.2.2.1 (fun h => by cases h)))).2.2.1 j).trans (((fu_11 q (pM_no (tau_ne hq.1 hm.1 (fun h => by cases h)) (tau_ne hq.1 hm.2.1 (fun h => by cases h)) (tau_ne hq.1 hm.2.2.1 (fun h => by cases h)))).2.2.1 j).trans (uF_l))) ?_
          refine r_lmul hx hb dX3_addRow_57 ?_
          have q_20 : 0 ≤ S38.1 o 4 ∧ S38.1 o 4 ≤ 1 := hI38.fi o 4 3 (mdl_k hm) hm.1
          refine sBv (sV (As := [.int (iv (S38.1 o 3)), .int (iv j), .long (jv (((-1)) * (S.2.2.1 q j)))]) (rest := []) (k := o) Cx (f_X3_setNumber l G S38 (o := o) (k := S38.1 o 3) (j := j) (v := ((-1)) * (S.2.2.1 q j)) hI38 hm (by omega) (by omega) (by omega)) (c_X3_30 Cx rfl rfl (rmk_ok (by omega) (by decide))) hW (mdl_l hm) hm.1 rfl rfl hl.1 rfl (Nat.le_of_ble_eq_true rfl) dX3_addRow_58 ⟨Nat.le_of_ble_eq_true rfl, Nat.le_of_ble_eq_true rfl⟩) hL (fun u_21 H locs k_22 hW hL => ?_)
          obtain ⟨iu_21, fu_21, xu_21⟩ := k_22
          have F_23 := hFm38.trans fu_21
          have F_24 := hL38_.trans fu_21
          have hsu_21 : Hd (∀ x, u_21.2.1 (o + 1) x = if x = 13 * (S.1 o 3 + 1) + j then lin (S.2.2.1 q) ((-1)) j else S38.2.1 (o + 1) x) := fun x => by by_cases z : x = 13 * (S.1 o 3 + 1) + j; (exact (xu_21.2.2.2.2 x).trans ((if_pos (by omega)).trans ((show _ = lin (S.2.2.1 q) ((-1)) j by unfold lin; rw [if_neg (by omega)] <;> omega).trans (if_pos z).symm))); (exact (xu_21.2.2.2.2 x).trans ((if_neg (by omega)).trans (if_neg z).symm))
          refine lv_iinc (v := iv (j + 1)) (lv' := [(3, .int (iv (j + 1))), (0, .ref (G.2.2.1 + o)), (1, .ref (G.2.2.1 + q)), (2, .int (iv ((-1))))]) hx hb dX3_addRow_61 hl (k := 0) rfl ((Int32.ofInt_add _ _).symm) (by decide) rfl (fun ls hl => ?_)
          refine lv_goto (tgt := 38) hx hb dX3_addRow_64 (by decide) ?_
          have q_25 : 0 ≤ u_21.1 o 2 ∧ u_21.1 o 2 ≤ 12 := iu_21.fi o 2 3 (mdl_k hm) hm.1
          have q_26 : 0 ≤ u_21.1 o 3 ∧ u_21.1 o 3 ≤ 16 := iu_21.fi o 3 3 (mdl_k hm) hm.1
          have q_27 : 0 ≤ u_21.1 o 4 ∧ u_21.1 o 4 ≤ 1 := iu_21.fi o 4 3 (mdl_k hm) hm.1
          exact ih_38 u_21 (j + 1) _ _ _ (by omega) iu_21 F_23 F_24 (by omega) (by omega) (by omega) ((show u_21.2.1 (o + 2) = S38.2.1 (o + 2) from xu_21.2.2.2.1).trans hkp) (fun x a => (hsu_21 x).trans ((if_neg (by omega)).trans (hlo x a))) (fun i a b => by by_cases z : i = j; (rw [z]; exact (hsu_21 _).trans (if_pos rfl)); exact (hsu_21 _).trans ((if_neg (by omega)).trans (hvs i a (by omega)))) hW hL (lv_sub hl [0, 1, 2, 3] rfl)
    have q_28 : 0 ≤ u_11.1 o 2 ∧ u_11.1 o 2 ≤ 12 := iu_11.fi o 2 3 (mdl_k hm) hm.1
    have q_29 : 0 ≤ u_11.1 o 3 ∧ u_11.1 o 3 ≤ 16 := iu_11.fi o 3 3 (mdl_k hm) hm.1
    have q_30 : 0 ≤ u_11.1 o 4 ∧ u_11.1 o 4 ≤ 1 := iu_11.fi o 4 3 (mdl_k hm) hm.1
    exact loop_38 (_ + 1) u_11 1 _ _ _ (Nat.lt_succ_self _) iu_11 F_13 Fr.rf (by omega) (by omega) (by omega) ((show u_11.2.1 (o + 2) = (uF S o 3 ((S.1 o 3) + 1)).2.1 (o + 2) from xu_11.2.2.2.1).trans (show (uF S o 3 ((S.1 o 3) + 1)).2.1 (o + 2) = S.2.1 (o + 2) from funext fun x => uF_a)) (fun x a => (hsu_11 x).trans (if_neg (by omega))) (fun i a b => by rw [show i = 0 by omega]; exact (hsu_11 _).trans (if_pos rfl)) hW hL (lv_sub hl [0, 1, 2, 3] rfl)
  · exfalso; omega

set_option maxRecDepth 100000 in
set_option maxHeartbeats 4000000 in
theorem f_X3_setGoal (l : Launch) (G : sG) (S : sS) {o q : Nat} {t : Int} (hI : cX G S 0 0 0) (hm : mdl o) (hq : tau q = .inr (.long, 13) ∧ q < 231) (hvb : Hd (∀ j, 0 ≤ j → j ≤ 12 → -99999 ≤ S.2.2.1 q j ∧ S.2.2.1 q j ≤ 99999)) (ht : 0 ≤ t ∧ t ≤ 1) : Met l yX3_setGoal (.code yX3_setGoal cX3_setGoal 4 none :: tb) (rmk 2 0 0) (sPc G 294 S [.ref (G.2.2.1 + o), .ref (G.2.2.1 + q), .int (iv t)]) (sQv G 294 (fun u => cX G u 0 0 0 ∧ Fr S u (pM o) ∧ (u.1 o 2 = S.1 o 2 ∧ u.1 o 3 = S.1 o 3 ∧ u.1 o 4 = t ∧ Hd (u.2.1 (o + 2) = S.2.1 (o + 2)) ∧ Hd (∀ x, 13 ≤ x → u.2.1 (o + 1) x = S.2.1 (o + 1) x) ∧ Hd (∀ j, 0 ≤ j → j ≤ S.1 o 2 → u.2.1 (o + 1) j = gol t (S.2.2.1 q) j)))) 0 0 (sF G) := by
  refine sEnter (by decide) (Nat.le_of_ble_eq_true rfl) ?_
  intro p e s m args below meth c Cx hr hlk hnm hW ls hl
  have Cx : sC G p m c cX3_setGoal 4 s args RX3 := Cx
  obtain ⟨hx, hb, hml, hown, hts⟩ := id Cx.1
  have hL : sL G [] := sL_nil
  have hl : lv_has ls 4 [(0, .ref (G.2.2.1 + o)), (1, .ref (G.2.2.1 + q)), (2, .int (iv t))] := hl
  have hW0 := hW
  refine lv_aload_n hx hb dX3_setGoal_0 rfl (lv_at hl 0 rfl) ?_
  refine lv_iload_n hx hb dX3_setGoal_1 rfl (lv_at hl 2 rfl) ?_
  refine p_X3_26 Cx hW hL (k := o) (mdl_l hm) hm.1 (by omega) dX3_setGoal_2 (fun H locs hW hL => ?_)
  have F_1 : Fr S (uF S o 4 t) (pM o) := (Fr.rf : Fr S S (pM o)).F pM_0
  have i_2 : cX G (uF S o 4 t) 0 0 0 := hI.F hm.1 rfl (show 0 ≤ t ∧ t ≤ 1 from ⟨by omega, by omega⟩)
  refine lv_iconst (v := iv 0) hx hb dX3_setGoal_5 (by decide) ?_
  refine lv_istore_n (lv' := [(3, .int (iv 0)), (0, .ref (G.2.2.1 + o)), (1, .ref (G.2.2.1 + q)), (2, .int (iv t))]) hx hb dX3_setGoal_6 rfl hl (by decide) rfl (fun ls hl => ?_)
  have loop_7 : ∀ (fuel : Nat) (S7 : sS) (j : Int) (H : Heap) (locs : List Loc) (ls : Array Slot), (13 - j).toNat < fuel → (cX G S7 0 0 0) → (Fr S S7 (pM o)) → (Fr ((uF S o 4 t)) S7 (pM o)) → (0 ≤ j ∧ j ≤ 13) → (j ≤ S.1 o 2 + 1) → (S7.1 o 2 = S.1 o 2 ∧ S7.1 o 3 = S.1 o 3 ∧ S7.1 o 4 = t) → (Hd (S7.2.1 (o + 2) = S.2.1 (o + 2))) → (Hd (∀ x, 13 ≤ x → S7.2.1 (o + 1) x = S.2.1 (o + 1) x)) → (Hd (∀ i, 0 ≤ i → i < j → S7.2.1 (o + 1) i = gol t (S.2.2.1 q) i)) → sW G 294 S7 H → sL G locs → lv_has ls 4 [(3, .int (iv j)), (0, .ref (G.2.2.1 + o)), (1, .ref (G.2.2.1 + q)), (2, .int (iv t))] → W p l e (rmk 2 0 0) s m args below meth c H locs 0 0 (MQ below (sQv G 294 (fun u => cX G u 0 0 0 ∧ Fr S u (pM o) ∧ (u.1 o 2 = S.1 o 2 ∧ u.1 o 3 = S.1 o 3 ∧ u.1 o 4 = t ∧ Hd (u.2.1 (o + 2) = S.2.1 (o + 2)) ∧ Hd (∀ x, 13 ≤ x → u.2.1 (o + 1) x = S.2.1 (o + 1) x) ∧ Hd (∀ j, 0 ≤ j → j ≤ S.1 o 2 → u.2.1 (o + 1) j = gol t (S.2.2.1 q) j)))) args s 0 0 (sF G)) (F0 m 7 ls []) := by
    intro fuel
    induction fuel with
    | zero => intro S7 j H locs ls hmeas hI7 hFm7 hL7_ hj hjn hr3 hkp hlo hvs hW hL hl; exact absurd hmeas (Nat.not_lt_zero _)
    | succ fuel ih_7 =>
      intro S7 j H locs ls hmeas hI7 hFm7 hL7_ hj hjn hr3 hkp hlo hvs hW hL hl
      refine lv_iload_n hx hb dX3_setGoal_7 rfl (lv_at hl 0 rfl) ?_
      refine lv_aload_n hx hb dX3_setGoal_8 rfl (lv_at hl 1 rfl) ?_
      have q_3 : 0 ≤ S7.1 o 2 ∧ S7.1 o 2 ≤ 12 := hI7.fi o 2 3 (mdl_k hm) hm.1
      refine g_X3_19 Cx hW (k := o) (mdl_l hm) hm.1 (v := S7.1 o 2) rfl dX3_setGoal_9 ?_
      refine r_icmp_gt (tgt := 41) hx hb ⟨(by omega), (by omega)⟩ ⟨(by omega), (by omega)⟩ dX3_setGoal_12 (by decide) (fun c_4 => ?_) (fun c_4 => ?_)
      · have q_5 : 0 ≤ S7.1 o 3 ∧ S7.1 o 3 ≤ 16 := hI7.fi o 3 3 (mdl_k hm) hm.1
        have q_6 : 0 ≤ S7.1 o 4 ∧ S7.1 o 4 ≤ 1 := hI7.fi o 4 3 (mdl_k hm) hm.1
        exact sVret Cx hr hlk hW hL ⟨hI7, hFm7, ⟨by omega, by omega, by omega, hkp, hlo, (fun i a b => hvs i a (by omega))⟩⟩ dX3_setGoal_41
      · have hbj := hvb j (by omega) (by omega)
        refine lv_aload_n hx hb dX3_setGoal_15 rfl (lv_at hl 1 rfl) ?_
        refine lv_iconst (v := iv 0) hx hb dX3_setGoal_16 (by decide) ?_
        refine lv_iload_n hx hb dX3_setGoal_17 rfl (lv_at hl 0 rfl) ?_
        refine lv_iload_n hx hb dX3_setGoal_18 rfl (lv_at hl 3 rfl) ?_
        refine r_if_eq (tgt := 28) hx hb ⟨(by omega), (by omega)⟩ dX3_setGoal_19 (by decide) (fun c_7 => ?_) (fun c_7 => ?_)
        · refine lv_aload_n hx hb dX3_setGoal_28 rfl (lv_at hl 2 rfl) ?_
          refine lv_iload_n hx hb dX3_setGoal_29 rfl (lv_at hl 0 rfl) ?_
          refine rLald Cx hW (k := q) (Nat.lt_trans hq.2 (by decide)) hq.1 (by decide) (by omega) (by omega) dX3_setGoal_30 ?_
          have q_8 : -9223372036854775808 ≤ S.2.2.1 q j ∧ S.2.2.1 q j ≤ 9223372036854775807 := hI.li q j hq.2
          refine r_j (b := S.2.2.1 q j) (((hL7_ q (pM_no (tau_ne hq.1 hm.1 (fun h => by cases h)) (tau_ne hq.1 hm.2.1 (fun h => by cases h)) (tau_ne hq.1 hm.2.2.1 (fun h => by cases h)))).2.2.1 j).trans (uF_l)) ?_
          refine r_lneg hx hb dX3_setGoal_31 ?_
          have q_9 : 0 ≤ S7.1 o 3 ∧ S7.1 o 3 ≤ 16 := hI7.fi o 3 3 (mdl_k hm) hm.1
          have q_10 : 0 ≤ S7.1 o 4 ∧ S7.1 o 4 ≤ 1 := hI7.fi o 4 3 (mdl_k hm) hm.1
          refine sBv (sV (As := [.int (iv 0), .int (iv j), .long (jv (-(S.2.2.1 q j)))]) (rest := []) (k := o) Cx (f_X3_setNumber l G S7 (o := o) (k := 0) (j := j) (v := -(S.2.2.1 q j)) hI7 hm (by omega) (by omega) (by omega)) (c_X3_30 Cx rfl rfl (rmk_ok (by omega) (by decide))) hW (mdl_l hm) hm.1 rfl rfl hl.1 rfl (Nat.le_of_ble_eq_true rfl) dX3_setGoal_32 ⟨Nat.le_of_ble_eq_true rfl, Nat.le_of_ble_eq_true rfl⟩) hL (fun u_11 H locs k_12 hW hL => ?_)
          obtain ⟨iu_11, fu_11, xu_11⟩ := k_12
          have F_13 := hFm7.trans fu_11
          have F_14 := hL7_.trans fu_11
          have hsu_11 : Hd (∀ x, u_11.2.1 (o + 1) x = if x = j then gol t (S.2.2.1 q) j else S7.2.1 (o + 1) x) := fun x => by by_cases z : x = j; (exact (xu_11.2.2.2.2 x).trans ((if_pos (by omega)).trans ((show _ = gol t (S.2.2.1 q) j by unfold gol; first | (rw [if_pos (by omega)]; done) | (rw [if_neg (by omega)]; done) | (rw [if_pos (by omega)]; omega) | (rw [if_neg (by omega)]; omega)).trans (if_pos z).symm))); (exact (xu_11.2.2.2.2 x).trans ((if_neg (by omega)).trans (if_neg z).symm))
          refine lv_iinc (v := iv (j + 1)) (lv' := [(3, .int (iv (j + 1))), (0, .ref (G.2.2.1 + o)), (1, .ref (G.2.2.1 + q)), (2, .int (iv t))]) hx hb dX3_setGoal_35 hl (k := 0) rfl ((Int32.ofInt_add _ _).symm) (by decide) rfl (fun ls hl => ?_)
          refine lv_goto (tgt := 7) hx hb dX3_setGoal_38 (by decide) ?_
          have q_15 : 0 ≤ u_11.1 o 2 ∧ u_11.1 o 2 ≤ 12 := iu_11.fi o 2 3 (mdl_k hm) hm.1
          have q_16 : 0 ≤ u_11.1 o 3 ∧ u_11.1 o 3 ≤ 16 := iu_11.fi o 3 3 (mdl_k hm) hm.1
          have q_17 : 0 ≤ u_11.1 o 4 ∧ u_11.1 o 4 ≤ 1 := iu_11.fi o 4 3 (mdl_k hm) hm.1
          exact ih_7 u_11 (j + 1) _ _ _ (by omega) iu_11 F_13 F_14 (by omega) (by omega) (by omega) ((show u_11.2.1 (o + 2) = S7.2.1 (o + 2) from xu_11.2.2.2.1).trans hkp) (fun x a => (hsu_11 x).trans ((if_neg (by omega)).trans (hlo x a))) (fun i a b => by by_cases z : i = j; (rw [z]; exact (hsu_11 _).trans (if_pos rfl)); exact (hsu_11 _).trans ((if_neg z).trans (hvs i a (by omega)))) hW hL (lv_sub hl [0, 1, 2, 3] rfl)
        · refine lv_aload_n hx hb dX3_setGoal_22 rfl (lv_at hl 2 rfl) ?_
          refine lv_iload_n hx hb dX3_setGoal_23 rfl (lv_at hl 0 rfl) ?_
          refine rLald Cx hW (k := q) (Nat.lt_trans hq.2 (by decide)) hq.1 (by decide) (by omega) (by omega) dX3_setGoal_24 ?_
          have q_18 : -9223372036854775808 ≤ S.2.2.1 q j ∧ S.2.2.1 q j ≤ 9223372036854775807 := hI.li q j hq.2
          refine r_j (b := S.2.2.1 q j) (((hL7_ q (pM_no (tau_ne hq.1 hm.1 (fun h => by cases h)) (tau_ne hq.1 hm.2.1 (fun h => by cases h)) (tau_ne hq.1 hm.2.2.1 (fun h => by cases h)))).2.2.1 j).trans (uF_l)) ?_
          refine lv_goto (tgt := 32) hx hb dX3_setGoal_25 (by decide) ?_
          have q_19 : 0 ≤ S7.1 o 3 ∧ S7.1 o 3 ≤ 16 := hI7.fi o 3 3 (mdl_k hm) hm.1
          have q_20 : 0 ≤ S7.1 o 4 ∧ S7.1 o 4 ≤ 1 := hI7.fi o 4 3 (mdl_k hm) hm.1
          refine sBv (sV (As := [.int (iv 0), .int (iv j), .long (jv (S.2.2.1 q j))]) (rest := []) (k := o) Cx (f_X3_setNumber l G S7 (o := o) (k := 0) (j := j) (v := S.2.2.1 q j) hI7 hm (by omega) (by omega) (by omega)) (c_X3_30 Cx rfl rfl (rmk_ok (by omega) (by decide))) hW (mdl_l hm) hm.1 rfl rfl hl.1 rfl (Nat.le_of_ble_eq_true rfl) dX3_setGoal_32 ⟨Nat.le_of_ble_eq_true rfl, Nat.le_of_ble_eq_true rfl⟩) hL (fun u_21 H locs k_22 hW hL => ?_)
          obtain ⟨iu_21, fu_21, xu_21⟩ := k_22
          have F_23 := hFm7.trans fu_21
          have F_24 := hL7_.trans fu_21
          have hsu_21 : Hd (∀ x, u_21.2.1 (o + 1) x = if x = j then gol t (S.2.2.1 q) j else S7.2.1 (o + 1) x) := fun x => by by_cases z : x = j; (exact (xu_21.2.2.2.2 x).trans ((if_pos (by omega)).trans ((show _ = gol t (S.2.2.1 q) j by unfold gol; first | (rw [if_pos (by omega)]; done) | (rw [if_neg (by omega)]; done) | (rw [if_pos (by omega)]; omega) | (rw [if_neg (by omega)]; omega)).trans (if_pos z).symm))); (exact (xu_21.2.2.2.2 x).trans ((if_neg (by omega)).trans (if_neg z).symm))
          refine lv_iinc (v := iv (j + 1)) (lv' := [(3, .int (iv (j + 1))), (0, .ref (G.2.2.1 + o)), (1, .ref (G.2.2.1 + q)), (2, .int (iv t))]) hx hb dX3_setGoal_35 hl (k := 0) rfl ((Int32.ofInt_add _ _).symm) (by decide) rfl (fun ls hl => ?_)
          refine lv_goto (tgt := 7) hx hb dX3_setGoal_38 (by decide) ?_
          have q_25 : 0 ≤ u_21.1 o 2 ∧ u_21.1 o 2 ≤ 12 := iu_21.fi o 2 3 (mdl_k hm) hm.1
          have q_26 : 0 ≤ u_21.1 o 3 ∧ u_21.1 o 3 ≤ 16 := iu_21.fi o 3 3 (mdl_k hm) hm.1
          have q_27 : 0 ≤ u_21.1 o 4 ∧ u_21.1 o 4 ≤ 1 := iu_21.fi o 4 3 (mdl_k hm) hm.1
          exact ih_7 u_21 (j + 1) _ _ _ (by omega) iu_21 F_23 F_24 (by omega) (by omega) (by omega) ((show u_21.2.1 (o + 2) = S7.2.1 (o + 2) from xu_21.2.2.2.1).trans hkp) (fun x a => (hsu_21 x).trans ((if_neg (by omega)).trans (hlo x a))) (fun i a b => by by_cases z : i = j; (rw [z]; exact (hsu_21 _).trans (if_pos rfl)); exact (hsu_21 _).trans ((if_neg z).trans (hvs i a (by omega)))) hW hL (lv_sub hl [0, 1, 2, 3] rfl)
  have q_28 : 0 ≤ S.1 o 2 ∧ S.1 o 2 ≤ 12 := hI.fi o 2 3 (mdl_k hm) hm.1
  have lk_29 : (uF S o 4 t).1 o 2 = S.1 o 2 := uF_ne (fun h => absurd h.2 (by decide))
  have q_30 : 0 ≤ S.1 o 3 ∧ S.1 o 3 ≤ 16 := hI.fi o 3 3 (mdl_k hm) hm.1
  have lk_31 : (uF S o 4 t).1 o 3 = S.1 o 3 := uF_ne (fun h => absurd h.2 (by decide))
  have lk_32 : (uF S o 4 t).1 o 4 = t := uF_on
  exact loop_7 (_ + 1) (uF S o 4 t) 0 _ _ _ (Nat.lt_succ_self _) i_2 F_1 Fr.rf (by omega) (by omega) (by omega) (show (uF S o 4 t).2.1 (o + 2) = S.2.1 (o + 2) from funext fun x => uF_a) (fun x a => rfl) (fun i a b => absurd b (by omega)) hW hL (lv_sub hl [0, 1, 2, 3] rfl)
