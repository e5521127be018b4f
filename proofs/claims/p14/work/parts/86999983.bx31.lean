/-- one step of a multiple that is added -/
theorem mmad {a c d g y l k P o x : Int} (h1 : a + c * P = o + g * d) (h2 : l + k * 1000000000 = x + g * y + c) : a + l * P + k * (1000000000 * P) = (o + x * P) + g * (d + y * P) := by
  grind
/-- one row of a product -/
theorem mprod {A B X R cy Pi Pb Va x : Int} (h1 : X + cy * Pb = B + x * R) (h2 : A + Pi * B = Va * R) : (A + Pi * X) + cy * (Pi * Pb) = (Va + x * Pi) * R := by
  grind
theorem V_spl {f : Int → Int} {i n : Int} (h0 : 0 ≤ i) (h1 : 0 ≤ n) : V f 0 (i + n).toNat = V f 0 i.toNat + pw i.toNat * V f i n.toNat := by
  rw [show (i + n).toNat = i.toNat + n.toNat by omega, V_app, show (0 : Int) + (i.toNat : Int) = i by omega]
theorem pw_spl {i n : Int} (h0 : 0 ≤ i) (h1 : 0 ≤ n) : pw (i + n).toNat = pw i.toNat * pw n.toNat := by
  rw [show (i + n).toNat = i.toNat + n.toNat by omega, pw_add]
theorem V_z {f : Int → Int} {n : Int} (h : ∀ j, 0 ≤ j → j < n → f j = 0) : V f 0 n.toNat = 0 := V_cut (m := 0) (Nat.zero_le _) (fun j a b => h j (by omega) (by omega))
theorem V_lo {f g : Int → Int} {n : Int} (h : ∀ j, 0 ≤ j → j < n → f j = g j) : V f 0 n.toNat = V g 0 n.toNat := V_cg (fun i a b => by rw [show (0 : Int) + i = i by omega]; exact h i a (by omega))
theorem V_lo2 {f g : Int → Int} {s n : Int} (h : ∀ j, s ≤ j → j < s + n → f j = g j) : V f s n.toNat = V g s n.toNat := V_cg (fun i a b => h (s + i) (by omega) (by omega))
set_option maxRecDepth 100000 in
set_option maxHeartbeats 4000000 in
theorem b_J7_fill (l : Launch) (G : sG) (S : sS) {o : Nat} {n : Int} (hI : cX G S o 0 0) (ho : tau o = .inl 0) (hn : 0 ≤ n ∧ n ≤ 32) : Met l yJ7_fill_fda19 (.code yJ7_fill_fda19 cJ7_fill_fda19 5 none :: tb) (rmk 2 0 0) (sPc G 294 S [.ref (G.2.2.1 + (o + 1)), .int (iv 0), .int (iv n), .int (iv 0)]) (sQv G 294 (fun u => cX G u o 0 0 ∧ Fr S u (pB o) ∧ (u.1 = S.1 ∧ Hd (∀ j, 0 ≤ j → j < n → u.2.1 (o + 1) j = 0)))) 0 0 (sF G) := by
  refine sEnterF (by decide) (Nat.le_of_ble_eq_true rfl) ?_
  intro p e s m args below meth c Cx hr hlk hnm hW ls hl
  have Cx : sC G p m c cJ7_fill_fda19 5 s args RJ7 := Cx
  obtain ⟨hx, hb, hml, hown, hts⟩ := id Cx.1
  have hL : sL G [] := sL_nil
  have hl : lv_has ls 5 [(0, .ref (G.2.2.1 + (o + 1))), (1, .int (iv 0)), (2, .int (iv n)), (3, .int (iv 0))] := hl
  have hW0 := hW
  refine lv_aload_n hx hb dJ7_fill_fda19_0 rfl (lv_at hl 0 rfl) ?_
  refine sAlen Cx hW (k := o + 1) (big_l1 ho) (big_row ho).1 0 rfl dJ7_fill_fda19_1 ?_
  refine lv_iload_n hx hb dJ7_fill_fda19_2 rfl (lv_at hl 1 rfl) ?_
  refine lv_iload_n hx hb dJ7_fill_fda19_3 rfl (lv_at hl 2 rfl) ?_
  refine sBv (sSt (As := [.int (iv 32), .int (iv 0), .int (iv n)]) (rest := []) Cx (s_J7_rangeCheck_23922 l G S (n := n) (by omega)) (c_J7_13 Cx rfl rfl (rmk_ok (by omega) (by decide))) hW rfl hl.1 rfl (Nat.le_of_ble_eq_true rfl) dJ7_fill_fda19_4 ⟨Nat.le_of_ble_eq_true rfl, Nat.le_of_ble_eq_true rfl⟩) hL (fun u_1 H locs k_2 hW hL => ?_)
  rw [k_2] at hW
  refine lv_iload_n hx hb dJ7_fill_fda19_7 rfl (lv_at hl 1 rfl) ?_
  refine lv_istore (lv' := [(4, .int (iv 0)), (0, .ref (G.2.2.1 + (o + 1))), (1, .int (iv 0)), (2, .int (iv n)), (3, .int (iv 0))]) hx hb dJ7_fill_fda19_8 hl (by decide) rfl (fun ls hl => ?_)
  have loop_10 : ∀ (fuel : Nat) (S10 : sS) (i : Int) (H : Heap) (locs : List Loc) (ls : Array Slot), (n - i).toNat < fuel → (cX G S10 o 0 0) → (Fr S S10 (pB o)) → (Fr S S10 (pB o)) → (0 ≤ i ∧ i ≤ n) → (S10.1 = S.1) → (Hd (∀ j, 0 ≤ j → j < i → S10.2.1 (o + 1) j = 0)) → sW G 294 S10 H → sL G locs → lv_has ls 5 [(4, .int (iv i)), (0, .ref (G.2.2.1 + (o + 1))), (1, .int (iv 0)), (2, .int (iv n)), (3, .int (iv 0))] → W p l e (rmk 2 0 0) s m args below meth c H locs 0 0 (MQ below (sQv G 294 (fun u => cX G u o 0 0 ∧ Fr S u (pB o) ∧ (u.1 = S.1 ∧ Hd (∀ j, 0 ≤ j → j < n → u.2.1 (o + 1) j = 0)))) args s 0 0 (sF G)) (F0 m 10 ls []) := by
    intro fuel
    induction fuel with
    | zero => intro S10 i H locs ls hmeas hI10 hFm10 hL10_ hi h1 hz hW hL hl; exact absurd hmeas (Nat.not_lt_zero _)
    | succ fuel ih_10 =>
      intro S10 i H locs ls hmeas hI10 hFm10 hL10_ hi h1 hz hW hL hl
      refine lv_iload hx hb dJ7_fill_fda19_10 (lv_at hl 0 rfl) ?_
      refine lv_iload_n hx hb dJ7_fill_fda19_12 rfl (lv_at hl 3 rfl) ?_
      refine r_icmp_ge (tgt := 27) hx hb ⟨(by omega), (by omega)⟩ ⟨(by omega), (by omega)⟩ dJ7_fill_fda19_13 (by decide) (fun c_3 => ?_) (fun c_3 => ?_)
      · exact sVret Cx hr hlk hW hL ⟨hI10, hFm10, ⟨h1, fun j a b => hz j a (by omega)⟩⟩ dJ7_fill_fda19_27
      · refine lv_aload_n hx hb dJ7_fill_fda19_16 rfl (lv_at hl 1 rfl) ?_
        refine lv_iload hx hb dJ7_fill_fda19_17 (lv_at hl 0 rfl) ?_
        refine lv_iload_n hx hb dJ7_fill_fda19_19 rfl (lv_at hl 4 rfl) ?_
        refine rIast Cx hW hL (k := o + 1) (big_l1 ho) (big_row ho).1 (by decide) (by omega) (by omega) dJ7_fill_fda19_20 (fun H locs hW hL => ?_)
        have F_4 : Fr S (uA S10 (o + 1) i 0) (pB o) := hFm10.A pB_1
        have F_5 : Fr S (uA S10 (o + 1) i 0) (pB o) := hL10_.A pB_1
        have i_6 : cX G (uA S10 (o + 1) i 0) o 0 0 := hI10.limb (Or.inl (exq_s ho)) ho ⟨(by omega), (by omega)⟩
        refine lv_iinc (v := iv (i + 1)) (lv' := [(4, .int (iv (i + 1))), (0, .ref (G.2.2.1 + (o + 1))), (1, .int (iv 0)), (2, .int (iv n)), (3, .int (iv 0))]) hx hb dJ7_fill_fda19_21 hl (k := 0) rfl ((Int32.ofInt_add _ _).symm) (by decide) rfl (fun ls hl => ?_)
        refine lv_goto (tgt := 10) hx hb dJ7_fill_fda19_24 (by decide) ?_
        exact ih_10 (uA S10 (o + 1) i 0) (i + 1) _ _ _ (by omega) i_6 F_4 F_5 (by omega) h1 (fun j a b => by rw [uA_get]; split; (rfl); (rename_i q; exact hz j a (by omega))) hW hL (lv_sub hl [0, 1, 2, 3, 4] rfl)
  exact loop_10 (_ + 1) S 0 _ _ _ (Nat.lt_succ_self _) hI (Fr.rf : Fr S S (pB o)) Fr.rf (by omega) rfl (fun j a b => absurd b (by omega)) hW hL (lv_sub hl [0, 1, 2, 3, 4] rfl)

set_option maxRecDepth 100000 in
set_option maxHeartbeats 4000000 in
theorem b_X0_product (l : Launch) (G : sG) (S : sS) {o a b : Nat} (hI : cX G S 0 0 0) (ho : tau o = .inl 0) (ha : tau a = .inl 0) (hbb : tau b = .inl 0) (noa : Hd (o ≠ a)) (nob : Hd (o ≠ b)) : Met l yX0_product (.code yX0_product cX0_product 12 none :: tb) (rmk 3 0 0) (sPc G 294 S [.ref (G.2.2.1 + o), .ref (G.2.2.1 + a), .ref (G.2.2.1 + b)]) (sQv G 294 (fun u => cX G u 0 0 0 ∧ Fr S u (pB o) ∧ (u.1 o 1 ≤ S.1 a 1 + S.1 b 1 ∧ Hd (S.1 a 1 + S.1 b 1 ≤ 32 → bv u o = bv S a * bv S b) ∧ Hd (bs u o)))) 0 0 (sF G) := by
  refine sEnter (by decide) (Nat.le_of_ble_eq_true rfl) ?_
  intro p e s m args below meth c Cx hr hlk hnm hW ls hl
  have Cx : sC G p m c cX0_product 12 s args RX0 := Cx
  obtain ⟨hx, hb, hml, hown, hts⟩ := id Cx.1
  have hL : sL G [] := sL_nil
  have hl : lv_has ls 12 [(0, .ref (G.2.2.1 + o)), (1, .ref (G.2.2.1 + a)), (2, .ref (G.2.2.1 + b))] := hl
  have hW0 := hW
  refine lv_aload_n hx hb dX0_product_0 rfl (lv_at hl 1 rfl) ?_
  have q_1 : 0 ≤ S.1 a 1 ∧ S.1 a 1 ≤ 32 := hI.fi a 1 0 (big_lt ha) ha
  refine g_X0_24 Cx hW (k := a) (big_l ha) ha (v := S.1 a 1) rfl dX0_product_1 ?_
  refine lv_aload_n hx hb dX0_product_4 rfl (lv_at hl 2 rfl) ?_
  have q_2 : 0 ≤ S.1 b 1 ∧ S.1 b 1 ≤ 32 := hI.fi b 1 0 (big_lt hbb) hbb
  refine g_X0_24 Cx hW (k := b) (big_l hbb) hbb (v := S.1 b 1) rfl dX0_product_5 ?_
  refine r_iadd hx hb dX0_product_8 ?_
  refine lv_istore_n (lv' := [(3, .int (iv ((S.1 a 1) + (S.1 b 1)))), (0, .ref (G.2.2.1 + o)), (1, .ref (G.2.2.1 + a)), (2, .ref (G.2.2.1 + b))]) hx hb dX0_product_9 rfl hl (by decide) rfl (fun ls hl => ?_)
  refine lv_aload_n hx hb dX0_product_10 rfl (lv_at hl 2 rfl) ?_
  have q_3 : (-1) ≤ S.1 a 2 ∧ S.1 a 2 ≤ 1 := hI.fi a 2 0 (big_lt ha) ha
  refine g_X0_34 Cx hW (k := a) (big_l ha) ha (v := S.1 a 2) rfl dX0_product_11 ?_
  refine r_if_eq (tgt := 30) hx hb ⟨(by omega), (by omega)⟩ dX0_product_14 (by decide) (fun c_4 => ?_) (fun c_4 => ?_)
  · refine lv_aload_n hx hb dX0_product_30 rfl (lv_at hl 1 rfl) ?_
    refine lv_lconst (v := jv 0) hx hb dX0_product_31 (by decide) ?_
    refine sBv (sV (As := [.long (jv 0)]) (rest := []) (k := o) Cx (s_X0_put l G S (o := o) (v := 0) hI ho (by omega)) (c_X0_62 Cx rfl rfl (rmk_ok (by omega) (by decide))) hW (big_l ho) ho rfl rfl hl.1 rfl (Nat.le_of_ble_eq_true rfl) dX0_product_32 ⟨Nat.le_of_ble_eq_true rfl, Nat.le_of_ble_eq_true rfl⟩) hL (fun u_5 H locs k_6 hW hL => ?_)
    obtain ⟨iu_5, fu_5, xu_5⟩ := k_6
    have F_7 := (Fr.rf : Fr S S (pB o)).trans fu_5
    have q_8 : 0 ≤ u_5.1 o 1 ∧ u_5.1 o 1 ≤ 32 := iu_5.fi o 1 0 (big_lt ho) ho
    exact sVret Cx hr hlk hW hL ⟨iu_5, F_7, ⟨(by omega), (fun h32 => by show _ = _; have e := xu_5.2.2.1 rfl; unfold bv; rw [e.2, Int.zero_mul]; first | (exfalso; omega) | (rw [show S.1 a 2 = 0 by omega, Int.zero_mul, Int.zero_mul]) | (rw [show S.1 b 2 = 0 by omega, Int.zero_mul, Int.mul_zero])), ⟨fun q => absurd (xu_5.2.2.1 rfl).2 q, fun _ => (xu_5.2.2.1 rfl).1⟩⟩⟩ dX0_product_35
  · refine lv_aload_n hx hb dX0_product_17 rfl (lv_at hl 3 rfl) ?_
    have q_9 : (-1) ≤ S.1 b 2 ∧ S.1 b 2 ≤ 1 := hI.fi b 2 0 (big_lt hbb) hbb
    refine g_X0_34 Cx hW (k := b) (big_l hbb) hbb (v := S.1 b 2) rfl dX0_product_18 ?_
    refine r_if_eq (tgt := 30) hx hb ⟨(by omega), (by omega)⟩ dX0_product_21 (by decide) (fun c_10 => ?_) (fun c_10 => ?_)
    · refine lv_aload_n hx hb dX0_product_30 rfl (lv_at hl 1 rfl) ?_
      refine lv_lconst (v := jv 0) hx hb dX0_product_31 (by decide) ?_
      refine sBv (sV (As := [.long (jv 0)]) (rest := []) (k := o) Cx (s_X0_put l G S (o := o) (v := 0) hI ho (by omega)) (c_X0_62 Cx rfl rfl (rmk_ok (by omega) (by decide))) hW (big_l ho) ho rfl rfl hl.1 rfl (Nat.le_of_ble_eq_true rfl) dX0_product_32 ⟨Nat.le_of_ble_eq_true rfl, Nat.le_of_ble_eq_true rfl⟩) hL (fun u_11 H locs k_12 hW hL => ?_)
      obtain ⟨iu_11, fu_11, xu_11⟩ := k_12
      have F_13 := (Fr.rf : Fr S S (pB o)).trans fu_11
      have q_14 : 0 ≤ u_11.1 o 1 ∧ u_11.1 o 1 ≤ 32 := iu_11.fi o 1 0 (big_lt ho) ho
      exact sVret Cx hr hlk hW hL ⟨iu_11, F_13, ⟨(by omega), (fun h32 => by show _ = _; have e := xu_11.2.2.1 rfl; unfold bv; rw [e.2, Int.zero_mul]; first | (exfalso; omega) | (rw [show S.1 a 2 = 0 by omega, Int.zero_mul, Int.zero_mul]) | (rw [show S.1 b 2 = 0 by omega, Int.zero_mul, Int.mul_zero])), ⟨fun q => absurd (xu_11.2.2.1 rfl).2 q, fun _ => (xu_11.2.2.1 rfl).1⟩⟩⟩ dX0_product_35
    · refine lv_iload_n hx hb dX0_product_24 rfl (lv_at hl 0 rfl) ?_
      refine lv_bipush (v := iv 32) hx hb dX0_product_25 (by decide) ?_
      refine r_icmp_le (tgt := 36) hx hb ⟨(by omega), (by omega)⟩ ⟨(by omega), (by omega)⟩ dX0_product_27 (by decide) (fun c_15 => ?_) (fun c_15 => ?_)
      · have j_16 := hI.exB o
        refine lv_aload_n hx hb dX0_product_36 rfl (lv_at hl 1 rfl) ?_
        refine g_X0_9 Cx hW (k := o) (big_l ho) ho (v := .ref (G.2.2.1 + (o + 1))) (j_16.rq.1 o ho) dX0_product_37 ?_
        refine lv_iconst (v := iv 0) hx hb dX0_product_40 (by decide) ?_
        refine lv_iload_n hx hb dX0_product_41 rfl (lv_at hl 0 rfl) ?_
        refine lv_iconst (v := iv 0) hx hb dX0_product_42 (by decide) ?_
        refine sBv (sSt (As := [.ref (G.2.2.1 + (o + 1)), .int (iv 0), .int (iv ((S.1 a 1) + (S.1 b 1))), .int (iv 0)]) (rest := []) Cx (b_J7_fill l G S (o := o) (n := (S.1 a 1) + (S.1 b 1)) j_16 ho (by omega)) (c_X0_66 Cx rfl rfl (rmk_ok (by omega) (by decide))) hW rfl hl.1 rfl (Nat.le_of_ble_eq_true rfl) dX0_product_43 ⟨Nat.le_of_ble_eq_true rfl, Nat.le_of_ble_eq_true rfl⟩) hL (fun u_17 H locs k_18 hW hL => ?_)
        obtain ⟨iu_17, fu_17, xu_17⟩ := k_18
        have F_19 := (Fr.rf : Fr S S (pB o)).trans fu_17
        have hc0 : u_17.1 = S.1 := xu_17.1
        have hz0 := xu_17.2
        refine lv_iconst (v := iv 0) hx hb dX0_product_46 (by decide) ?_
        refine lv_istore (lv' := [(4, .int (iv 0)), (3, .int (iv ((S.1 a 1) + (S.1 b 1)))), (0, .ref (G.2.2.1 + o)), (1, .ref (G.2.2.1 + a)), (2, .ref (G.2.2.1 + b))]) hx hb dX0_product_47 hl (by decide) rfl (fun ls hl => ?_)
        have loop_49 : ∀ (fuel : Nat) (S49 : sS) (i : Int) (H : Heap) (locs : List Loc) (ls : Array Slot), (S.1 a 1 - i).toNat < fuel → (cX G S49 o 0 0) → (Fr S S49 (pB o)) → (Fr u_17 S49 (pB o)) → (0 ≤ i ∧ i ≤ S.1 a 1) → (S49.1 = S.1) → (Hd (∀ q, i + S.1 b 1 ≤ q → q < S.1 a 1 + S.1 b 1 → S49.2.1 (o + 1) q = 0)) → (Hd (V (S49.2.1 (o + 1)) 0 (i + S.1 b 1).toNat = V (S.2.1 (a + 1)) 0 i.toNat * VR S b)) → sW G 294 S49 H → sL G locs → lv_has ls 12 [(4, .int (iv i)), (3, .int (iv ((S.1 a 1) + (S.1 b 1)))), (0, .ref (G.2.2.1 + o)), (1, .ref (G.2.2.1 + a)), (2, .ref (G.2.2.1 + b))] → W p l e (rmk 3 0 0) s m args below meth c H locs 0 0 (MQ below (sQv G 294 (fun u => cX G u 0 0 0 ∧ Fr S u (pB o) ∧ (u.1 o 1 ≤ S.1 a 1 + S.1 b 1 ∧ Hd (S.1 a 1 + S.1 b 1 ≤ 32 → bv u o = bv S a * bv S b) ∧ Hd (bs u o)))) args s 0 0 (sF G)) (F0 m 49 ls []) := by
          intro fuel
          induction fuel with
          | zero => intro S49 i H locs ls hmeas hI49 hFm49 hL49_ hi hc hz hval hW hL hl; exact absurd hmeas (Nat.not_lt_zero _)
          | succ fuel ih_49 =>
            intro S49 i H locs ls hmeas hI49 hFm49 hL49_ hi hc hz hval hW hL hl
            refine lv_iload hx hb dX0_product_49 (lv_at hl 0 rfl) ?_
            refine lv_aload_n hx hb dX0_product_51 rfl (lv_at hl 3 rfl) ?_
            refine g_X0_24 Cx hW (k := a) (big_l ha) ha (v := S.1 a 1) (((hL49_ a (pB_no (neS noa) (tau_ne ha (big_row ho).1 (fun h => by cases h)))).1 1).trans ((fu_17 a (pB_no (neS noa) (tau_ne ha (big_row ho).1 (fun h => by cases h)))).1 1)) dX0_product_52 ?_
            refine r_icmp_ge (tgt := 166) hx hb ⟨(by omega), (by omega)⟩ ⟨(by omega), (by omega)⟩ dX0_product_55 (by decide) (fun c_20 => ?_) (fun c_20 => ?_)
            · refine lv_aload_n hx hb dX0_product_166 rfl (lv_at hl 2 rfl) ?_
              refine lv_iload_n hx hb dX0_product_167 rfl (lv_at hl 1 rfl) ?_
              refine p_X0_24 Cx hW hL (k := o) (big_l ho) ho dX0_product_168 (fun H locs hW hL => ?_)
              have F_21 : Fr S (uF S49 o 1 ((S.1 a 1) + (S.1 b 1))) (pB o) := hFm49.F pB_0
              have F_22 : Fr u_17 (uF S49 o 1 ((S.1 a 1) + (S.1 b 1))) (pB o) := hL49_.F pB_0
              have i_23 : cX G (uF S49 o 1 ((S.1 a 1) + (S.1 b 1))) o 0 0 := hI49.cnt (exq_s ho) ho ⟨by omega, by omega⟩
              refine lv_aload_n hx hb dX0_product_171 rfl (lv_at hl 2 rfl) ?_
              refine lv_aload_n hx hb dX0_product_172 rfl (lv_at hl 3 rfl) ?_
              refine g_X0_34 Cx hW (k := a) (big_l ha) ha (v := S.1 a 2) ((uF_ne (fun h => absurd h.2 (by decide))).trans (((hL49_ a (pB_no (neS noa) (tau_ne ha (big_row ho).1 (fun h => by cases h)))).1 2).trans ((fu_17 a (pB_no (neS noa) (tau_ne ha (big_row ho).1 (fun h => by cases h)))).1 2))) dX0_product_173 ?_
              refine lv_aload_n hx hb dX0_product_176 rfl (lv_at hl 4 rfl) ?_
              refine g_X0_34 Cx hW (k := b) (big_l hbb) hbb (v := S.1 b 2) ((uF_ne (fun h => absurd h.2 (by decide))).trans (((hL49_ b (pB_no (neS nob) (tau_ne hbb (big_row ho).1 (fun h => by cases h)))).1 2).trans ((fu_17 b (pB_no (neS nob) (tau_ne hbb (big_row ho).1 (fun h => by cases h)))).1 2))) dX0_product_177 ?_
              refine r_imul hx hb dX0_product_180 ?_
              obtain ⟨ps, eps⟩ : ∃ z : Int, z = (S.1 a 2) * (S.1 b 2) := ⟨_, rfl⟩
              refine r_i (b := ps) eps.symm ?_
              have hps : -1 ≤ ps ∧ ps ≤ 1 := by rw [eps]; exact mul_s (by omega) (by omega)
              refine p_X0_34 Cx hW hL (k := o) (big_l ho) ho dX0_product_181 (fun H locs hW hL => ?_)
              have F_24 : Fr S (uF (uF S49 o 1 ((S.1 a 1) + (S.1 b 1))) o 2 ps) (pB o) := F_21.F pB_0
              have F_25 : Fr u_17 (uF (uF S49 o 1 ((S.1 a 1) + (S.1 b 1))) o 2 ps) (pB o) := F_22.F pB_0
              have i_26 : cX G (uF (uF S49 o 1 ((S.1 a 1) + (S.1 b 1))) o 2 ps) o 0 0 := i_23.F ho rfl (show (-1) ≤ ps ∧ ps ≤ 1 from ⟨by omega, by omega⟩)
              refine lv_aload_n hx hb dX0_product_184 rfl (lv_at hl 2 rfl) ?_
              have lk_27 : (uF (uF S49 o 1 ((S.1 a 1) + (S.1 b 1))) o 2 ps).1 o 1 = (S.1 a 1) + (S.1 b 1) := (uF_ne (fun h => absurd h.2 (by decide))).trans (uF_on)
              have lk_28 : (uF (uF S49 o 1 ((S.1 a 1) + (S.1 b 1))) o 2 ps).1 o 2 = ps := uF_on
              refine sBv (sV (As := []) (rest := []) (k := o) Cx (s_X0_trim l G (uF (uF S49 o 1 ((S.1 a 1) + (S.1 b 1))) o 2 ps) (o := o) i_26 ho) (c_X0_59 Cx rfl rfl (rmk_ok (by omega) (by decide))) hW (big_l ho) ho rfl rfl hl.1 rfl (Nat.le_of_ble_eq_true rfl) dX0_product_185 ⟨Nat.le_of_ble_eq_true rfl, Nat.le_of_ble_eq_true rfl⟩) hL (fun u_29 H locs k_30 hW hL => ?_)
              obtain ⟨iu_29, fu_29, xu_29⟩ := k_30
              have F_31 := F_24.trans fu_29
              have F_32 := F_25.trans fu_29
              have q_33 : 0 ≤ u_29.1 o 1 ∧ u_29.1 o 1 ≤ 32 := iu_29.fi o 1 0 (big_lt ho) ho
              exact sVret Cx hr hlk hW hL ⟨iu_29, F_31, ⟨(by have := xu_29.1; rw [uF_i (by decide), uF_on] at this; omega), (fun _ => by show _ = _; have e := tr_bv (S := (uF (uF S49 o 1 ((S.1 a 1) + (S.1 b 1))) o 2 ps)) (u := u_29) (o := o) (by have cu : 0 ≤ u_29.1 o 1 ∧ u_29.1 o 1 ≤ 32 := iu_29.fi o 1 0 (big_lt ho) ho; omega) xu_29.1 xu_29.2.2.1 xu_29.2.2.2.2.1 xu_29.2.2.2.2.2.2; have e2 : _ = _ := hval; rw [e, VR_F (by omega), show (uF (uF S49 o 1 ((S.1 a 1) + (S.1 b 1))) o 2 ps).1 o 2 = ps from uF_on, eps]; unfold bv VR; unfold VR at e2; rw [uF_on]; show _ * V (S49.2.1 (o + 1)) 0 _ = _; rw [show S.1 a 1 + S.1 b 1 = i + S.1 b 1 by omega, e2, show i = S.1 a 1 by omega]; grind), ⟨fun q => by have cu : 0 ≤ u_29.1 o 1 ∧ u_29.1 o 1 ≤ 32 := iu_29.fi o 1 0 (big_lt ho) ho; by_cases z : 0 < u_29.1 o 1; (exact z); (exact absurd (xu_29.2.2.2.2.2.1 (by omega)) q), fun q => xu_29.2.2.2.2.1 (by rw [q, show (uF (uF S49 o 1 ((S.1 a 1) + (S.1 b 1))) o 2 ps).1 o 2 = ps from uF_on]; intro z; rw [eps] at z; rcases Int.mul_eq_zero.mp z.symm with y | y <;> omega)⟩⟩⟩ dX0_product_188
            · refine lv_aload_n hx hb dX0_product_58 rfl (lv_at hl 3 rfl) ?_
              refine g_X0_9 Cx hW (k := a) (big_l ha) ha (v := .ref (G.2.2.1 + (a + 1))) (hI49.rq.1 a ha) dX0_product_59 ?_
              refine lv_iload hx hb dX0_product_62 (lv_at hl 0 rfl) ?_
              refine rIald Cx hW (k := a + 1) (big_l1 ha) (big_row ha).1 (by decide) (by omega) (by omega) dX0_product_64 ?_
              have q_34 := limbR j_16 ha i
              refine r_i (b := S.2.1 (a + 1) i) (((hL49_ (a + 1) (pB_no (tau_ne (big_row ha).1 ho (fun h => by cases h)) (ne1S noa))).2.1 i).trans ((fu_17 (a + 1) (pB_no (tau_ne (big_row ha).1 ho (fun h => by cases h)) (ne1S noa))).2.1 i)) ?_
              refine r_i2l hx hb ⟨(by omega), (by omega)⟩ dX0_product_65 ?_
              refine lv_lstore (lv' := [(5, .long (jv (S.2.1 (a + 1) i))), (4, .int (iv i)), (3, .int (iv ((S.1 a 1) + (S.1 b 1)))), (0, .ref (G.2.2.1 + o)), (1, .ref (G.2.2.1 + a)), (2, .ref (G.2.2.1 + b))]) hx hb dX0_product_66 hl (by decide) rfl (fun ls hl => ?_)
              refine lv_lconst (v := jv 0) hx hb dX0_product_68 (by decide) ?_
              refine lv_lstore (lv' := [(7, .long (jv 0)), (5, .long (jv (S.2.1 (a + 1) i))), (4, .int (iv i)), (3, .int (iv ((S.1 a 1) + (S.1 b 1)))), (0, .ref (G.2.2.1 + o)), (1, .ref (G.2.2.1 + a)), (2, .ref (G.2.2.1 + b))]) hx hb dX0_product_69 hl (by decide) rfl (fun ls hl => ?_)
              refine lv_iconst (v := iv 0) hx hb dX0_product_71 (by decide) ?_
              refine lv_istore (lv' := [(9, .int (iv 0)), (7, .long (jv 0)), (5, .long (jv (S.2.1 (a + 1) i))), (4, .int (iv i)), (3, .int (iv ((S.1 a 1) + (S.1 b 1)))), (0, .ref (G.2.2.1 + o)), (1, .ref (G.2.2.1 + a)), (2, .ref (G.2.2.1 + b))]) hx hb dX0_product_72 hl (by decide) rfl (fun ls hl => ?_)
              have loop_74 : ∀ (fuel : Nat) (S74 : sS) (j : Int) (cy : Int) (H : Heap) (locs : List Loc) (ls : Array Slot), (S.1 b 1 - j).toNat < fuel → (cX G S74 o 0 0) → (Fr S S74 (pB o)) → (Fr u_17 S74 (pB o)) → (Fr S49 S74 (pB o)) → (0 ≤ cy ∧ cy ≤ 999999999) → (0 ≤ j ∧ j ≤ S.1 b 1) → (S74.1 = S.1) → (Hd (∀ q, q < i ∨ i + j ≤ q → S74.2.1 (o + 1) q = S49.2.1 (o + 1) q)) → (Hd (V (S74.2.1 (o + 1)) i j.toNat + cy * pw j.toNat = V (S49.2.1 (o + 1)) i j.toNat + S.2.1 (a + 1) i * V (S.2.1 (b + 1)) 0 j.toNat)) → sW G 294 S74 H → sL G locs → lv_has ls 12 [(9, .int (iv j)), (7, .long (jv cy)), (5, .long (jv (S.2.1 (a + 1) i))), (4, .int (iv i)), (3, .int (iv ((S.1 a 1) + (S.1 b 1)))), (0, .ref (G.2.2.1 + o)), (1, .ref (G.2.2.1 + a)), (2, .ref (G.2.2.1 + b))] → W p l e (rmk 3 0 0) s m args below meth c H locs 0 0 (MQ below (sQv G 294 (fun u => cX G u 0 0 0 ∧ Fr S u (pB o) ∧ (u.1 o 1 ≤ S.1 a 1 + S.1 b 1 ∧ Hd (S.1 a 1 + S.1 b 1 ≤ 32 → bv u o = bv S a * bv S b) ∧ Hd (bs u o)))) args s 0 0 (sF G)) (F0 m 74 ls []) := by
                intro fuel
                induction fuel with
                | zero => intro S74 j cy H locs ls hmeas hI74 hFm74 hFL4974 hL74_ hcy hj hc2 hun2 hv2 hW hL hl; exact absurd hmeas (Nat.not_lt_zero _)
                | succ fuel ih_74 =>
                  intro S74 j cy H locs ls hmeas hI74 hFm74 hFL4974 hL74_ hcy hj hc2 hun2 hv2 hW hL hl
                  refine lv_iload hx hb dX0_product_74 (lv_at hl 0 rfl) ?_
                  refine lv_aload_n hx hb dX0_product_76 rfl (lv_at hl 7 rfl) ?_
                  refine g_X0_24 Cx hW (k := b) (big_l hbb) hbb (v := S.1 b 1) (((hL74_ b (pB_no (neS nob) (tau_ne hbb (big_row ho).1 (fun h => by cases h)))).1 1).trans (((hL49_ b (pB_no (neS nob) (tau_ne hbb (big_row ho).1 (fun h => by cases h)))).1 1).trans ((fu_17 b (pB_no (neS nob) (tau_ne hbb (big_row ho).1 (fun h => by cases h)))).1 1))) dX0_product_77 ?_
                  refine r_icmp_ge (tgt := 145) hx hb ⟨(by omega), (by omega)⟩ ⟨(by omega), (by omega)⟩ dX0_product_80 (by decide) (fun c_35 => ?_) (fun c_35 => ?_)
                  · refine lv_aload_n hx hb dX0_product_145 rfl (lv_at hl 5 rfl) ?_
                    refine g_X0_9 Cx hW (k := o) (big_l ho) ho (v := .ref (G.2.2.1 + (o + 1))) (hI74.rq.1 o ho) dX0_product_146 ?_
                    refine lv_iload hx hb dX0_product_149 (lv_at hl 3 rfl) ?_
                    refine lv_aload_n hx hb dX0_product_151 rfl (lv_at hl 7 rfl) ?_
                    refine g_X0_24 Cx hW (k := b) (big_l hbb) hbb (v := S.1 b 1) (((hL74_ b (pB_no (neS nob) (tau_ne hbb (big_row ho).1 (fun h => by cases h)))).1 1).trans (((hL49_ b (pB_no (neS nob) (tau_ne hbb (big_row ho).1 (fun h => by cases h)))).1 1).trans ((fu_17 b (pB_no (neS nob) (tau_ne hbb (big_row ho).1 (fun h => by cases h)))).1 1))) dX0_product_152 ?_
                    refine r_iadd hx hb dX0_product_155 ?_
                    refine lv_lload hx hb dX0_product_156 (lv_at hl 1 rfl) ?_
                    refine r_l2i hx hb dX0_product_158 ?_
                    refine rIast Cx hW hL (k := o + 1) (big_l1 ho) (big_row ho).1 (by decide) (by omega) (by omega) dX0_product_159 (fun H locs hW hL => ?_)
                    have F_36 : Fr S (uA S74 (o + 1) (i + (S.1 b 1)) cy) (pB o) := hFm74.A pB_1
                    have F_37 : Fr u_17 (uA S74 (o + 1) (i + (S.1 b 1)) cy) (pB o) := hFL4974.A pB_1
                    have F_38 : Fr S49 (uA S74 (o + 1) (i + (S.1 b 1)) cy) (pB o) := hL74_.A pB_1
                    have i_39 : cX G (uA S74 (o + 1) (i + (S.1 b 1)) cy) o 0 0 := hI74.limb (Or.inl (exq_s ho)) ho ⟨(by omega), (by omega)⟩
                    refine lv_iinc (v := iv (i + 1)) (lv' := [(4, .int (iv (i + 1))), (9, .int (iv j)), (7, .long (jv cy)), (5, .long (jv (S.2.1 (a + 1) i))), (3, .int (iv ((S.1 a 1) + (S.1 b 1)))), (0, .ref (G.2.2.1 + o)), (1, .ref (G.2.2.1 + a)), (2, .ref (G.2.2.1 + b))]) hx hb dX0_product_160 hl (k := 3) rfl ((Int32.ofInt_add _ _).symm) (by decide) rfl (fun ls hl => ?_)
                    refine lv_goto (tgt := 49) hx hb dX0_product_163 (by decide) ?_
                    exact ih_49 (uA S74 (o + 1) (i + (S.1 b 1)) cy) (i + 1) _ _ _ (by omega) i_39 F_36 F_37 (by omega) hc2 (fun q a b => by rw [uA_ne (by omega), hun2 q (by omega)]; exact hz q (by omega) (by omega)) (show _ = _ by have e1 : _ = _ := hv2; have e2 : _ = _ := hval; rw [show j = S.1 b 1 by omega] at e1; rw [V_spl (by omega) (by omega)] at e2; rw [show i + 1 + S.1 b 1 = i + S.1 b 1 + 1 by omega, V_upd (by omega) (by omega), V_spl (by omega) (by omega), pw_spl (by omega) (by omega), V_stp (by omega), show (0 : Int) + i = i by omega, V_lo (f := S74.2.1 (o + 1)) (g := S49.2.1 (o + 1)) (n := i) (fun q a b => hun2 q (by omega))]; exact mprod e1 e2) hW hL (lv_sub hl [0, 4, 5, 6, 7] rfl)
                  · refine lv_aload_n hx hb dX0_product_83 rfl (lv_at hl 5 rfl) ?_
                    refine g_X0_9 Cx hW (k := o) (big_l ho) ho (v := .ref (G.2.2.1 + (o + 1))) (hI74.rq.1 o ho) dX0_product_84 ?_
                    refine lv_iload hx hb dX0_product_87 (lv_at hl 3 rfl) ?_
                    refine lv_iload hx hb dX0_product_89 (lv_at hl 0 rfl) ?_
                    refine r_iadd hx hb dX0_product_91 ?_
                    refine rIald Cx hW (k := o + 1) (big_l1 ho) (big_row ho).1 (by decide) (by omega) (by omega) dX0_product_92 ?_
                    have q_40 := limbR hI74 ho (i + j)
                    refine r_i (b := S74.2.1 (o + 1) (i + j)) rfl ?_
                    refine r_i2l hx hb ⟨(by omega), (by omega)⟩ dX0_product_93 ?_
                    refine lv_lload hx hb dX0_product_94 (lv_at hl 2 rfl) ?_
                    refine lv_aload_n hx hb dX0_product_96 rfl (lv_at hl 7 rfl) ?_
                    refine g_X0_9 Cx hW (k := b) (big_l hbb) hbb (v := .ref (G.2.2.1 + (b + 1))) (hI74.rq.1 b hbb) dX0_product_97 ?_
                    refine lv_iload hx hb dX0_product_100 (lv_at hl 0 rfl) ?_
                    refine rIald Cx hW (k := b + 1) (big_l1 hbb) (big_row hbb).1 (by decide) (by omega) (by omega) dX0_product_102 ?_
                    have q_41 := limbR j_16 hbb j
                    refine r_i (b := S.2.1 (b + 1) j) (((hL74_ (b + 1) (pB_no (tau_ne (big_row hbb).1 ho (fun h => by cases h)) (ne1S nob))).2.1 j).trans (((hL49_ (b + 1) (pB_no (tau_ne (big_row hbb).1 ho (fun h => by cases h)) (ne1S nob))).2.1 j).trans ((fu_17 (b + 1) (pB_no (tau_ne (big_row hbb).1 ho (fun h => by cases h)) (ne1S nob))).2.1 j))) ?_
                    refine r_i2l hx hb ⟨(by omega), (by omega)⟩ dX0_product_103 ?_
                    refine r_lmul hx hb dX0_product_104 ?_
                    obtain ⟨pq, epq⟩ : ∃ z : Int, z = (S.2.1 (a + 1) i) * (S.2.1 (b + 1) j) := ⟨_, rfl⟩
                    refine r_j (b := pq) epq.symm ?_
                    have hpq : 0 ≤ pq ∧ pq ≤ 999999999 * 999999999 := by rw [epq]; exact mul_r (by omega) (by omega) (by omega) (by omega)
                    refine r_ladd hx hb dX0_product_105 ?_
                    refine lv_lload hx hb dX0_product_106 (lv_at hl 1 rfl) ?_
                    refine r_ladd hx hb dX0_product_108 ?_
                    refine lv_lstore (lv' := [(10, .long (jv (((S74.2.1 (o + 1) (i + j)) + pq) + cy))), (9, .int (iv j)), (7, .long (jv cy)), (5, .long (jv (S.2.1 (a + 1) i))), (4, .int (iv i)), (3, .int (iv ((S.1 a 1) + (S.1 b 1)))), (0, .ref (G.2.2.1 + o)), (1, .ref (G.2.2.1 + a)), (2, .ref (G.2.2.1 + b))]) hx hb dX0_product_109 hl (by decide) rfl (fun ls hl => ?_)
                    refine lv_lload hx hb dX0_product_111 (lv_at hl 0 rfl) ?_
                    refine lv_ldc2 hx hb hown (hts _ w_1163) dX0_product_113 ?_
                    refine r_ldiv hx hb ⟨(by omega), (by omega)⟩ ⟨(by omega), (by omega)⟩ (by omega) dX0_product_116 ?_
                    obtain ⟨cz, ecz⟩ : ∃ z : Int, z = (((S74.2.1 (o + 1) (i + j)) + pq) + cy).tdiv 1000000000 := ⟨_, rfl⟩
                    have hcz := tdivL (a := ((S74.2.1 (o + 1) (i + j)) + pq) + cy) (b := 1000000000) (by omega)
                    rw [← ecz] at hcz
                    refine r_j (b := cz) ecz.symm ?_
                    clear ecz
                    refine lv_lstore (lv' := [(7, .long (jv cz)), (10, .long (jv (((S74.2.1 (o + 1) (i + j)) + pq) + cy))), (9, .int (iv j)), (5, .long (jv (S.2.1 (a + 1) i))), (4, .int (iv i)), (3, .int (iv ((S.1 a 1) + (S.1 b 1)))), (0, .ref (G.2.2.1 + o)), (1, .ref (G.2.2.1 + a)), (2, .ref (G.2.2.1 + b))]) hx hb dX0_product_117 hl (by decide) rfl (fun ls hl => ?_)
                    refine lv_aload_n hx hb dX0_product_119 rfl (lv_at hl 6 rfl) ?_
                    refine g_X0_9 Cx hW (k := o) (big_l ho) ho (v := .ref (G.2.2.1 + (o + 1))) (hI74.rq.1 o ho) dX0_product_120 ?_
                    refine lv_iload hx hb dX0_product_123 (lv_at hl 4 rfl) ?_
                    refine lv_iload hx hb dX0_product_125 (lv_at hl 2 rfl) ?_
                    refine r_iadd hx hb dX0_product_127 ?_
                    refine lv_lload hx hb dX0_product_128 (lv_at hl 1 rfl) ?_
                    refine lv_lload hx hb dX0_product_130 (lv_at hl 0 rfl) ?_
                    refine lv_ldc2 hx hb hown (hts _ w_1163) dX0_product_132 ?_
                    refine r_lmul hx hb dX0_product_135 ?_
                    refine r_lsub hx hb dX0_product_136 ?_
                    refine r_l2i hx hb dX0_product_137 ?_
                    refine rIast Cx hW hL (k := o + 1) (big_l1 ho) (big_row ho).1 (by decide) (by omega) (by omega) dX0_product_138 (fun H locs hW hL => ?_)
                    have F_42 : Fr S (uA S74 (o + 1) (i + j) ((((S74.2.1 (o + 1) (i + j)) + pq) + cy) - (cz * 1000000000))) (pB o) := hFm74.A pB_1
                    have F_43 : Fr u_17 (uA S74 (o + 1) (i + j) ((((S74.2.1 (o + 1) (i + j)) + pq) + cy) - (cz * 1000000000))) (pB o) := hFL4974.A pB_1
                    have F_44 : Fr S49 (uA S74 (o + 1) (i + j) ((((S74.2.1 (o + 1) (i + j)) + pq) + cy) - (cz * 1000000000))) (pB o) := hL74_.A pB_1
                    have i_45 : cX G (uA S74 (o + 1) (i + j) ((((S74.2.1 (o + 1) (i + j)) + pq) + cy) - (cz * 1000000000))) o 0 0 := hI74.limb (Or.inl (exq_s ho)) ho ⟨(by omega), (by omega)⟩
                    refine lv_iinc (v := iv (j + 1)) (lv' := [(9, .int (iv (j + 1))), (7, .long (jv cz)), (10, .long (jv (((S74.2.1 (o + 1) (i + j)) + pq) + cy))), (5, .long (jv (S.2.1 (a + 1) i))), (4, .int (iv i)), (3, .int (iv ((S.1 a 1) + (S.1 b 1)))), (0, .ref (G.2.2.1 + o)), (1, .ref (G.2.2.1 + a)), (2, .ref (G.2.2.1 + b))]) hx hb dX0_product_139 hl (k := 2) rfl ((Int32.ofInt_add _ _).symm) (by decide) rfl (fun ls hl => ?_)
                    refine lv_goto (tgt := 74) hx hb dX0_product_142 (by decide) ?_
                    exact ih_74 (uA S74 (o + 1) (i + j) ((((S74.2.1 (o + 1) (i + j)) + pq) + cy) - (cz * 1000000000))) (j + 1) cz _ _ _ (by omega) i_45 F_42 F_43 F_44 (by omega) (by omega) hc2 (fun q a => by rw [uA_ne (by omega)]; exact hun2 q (by omega)) (show _ = _ by rw [V_upd (by omega) rfl, pw_stp (by omega), V_stp (by omega), V_stp (by omega)]; refine mmad hv2 ?_; rw [show (0 : Int) + j = j by omega, ← epq, ← hun2 (i + j) (by omega)]; omega) hW hL (lv_sub hl [0, 1, 3, 4, 5, 6, 7, 8] rfl)
              exact loop_74 (_ + 1) S49 0 0 _ _ _ (Nat.lt_succ_self _) hI49 hFm49 hL49_ Fr.rf (by omega) (by omega) hc (fun q _ => rfl) (show (0 : Int) + 0 * 1 = 0 + S.2.1 (a + 1) i * 0 by omega) hW hL (lv_sub hl [0, 1, 2, 3, 4, 5, 6, 7] rfl)
        exact loop_49 (_ + 1) u_17 0 _ _ _ (Nat.lt_succ_self _) iu_17 F_19 Fr.rf (by omega) hc0 (fun q a b => hz0 q (by omega) (by omega)) (show _ = (0 : Int) * _ by rw [Int.zero_mul]; exact V_z (fun j a b => hz0 j a (by omega))) hW hL (lv_sub hl [0, 1, 2, 3, 4] rfl)
      · refine lv_aload_n hx hb dX0_product_30 rfl (lv_at hl 1 rfl) ?_
        refine lv_lconst (v := jv 0) hx hb dX0_product_31 (by decide) ?_
        refine sBv (sV (As := [.long (jv 0)]) (rest := []) (k := o) Cx (s_X0_put l G S (o := o) (v := 0) hI ho (by omega)) (c_X0_62 Cx rfl rfl (rmk_ok (by omega) (by decide))) hW (big_l ho) ho rfl rfl hl.1 rfl (Nat.le_of_ble_eq_true rfl) dX0_product_32 ⟨Nat.le_of_ble_eq_true rfl, Nat.le_of_ble_eq_true rfl⟩) hL (fun u_46 H locs k_47 hW hL => ?_)
        obtain ⟨iu_46, fu_46, xu_46⟩ := k_47
        have F_48 := (Fr.rf : Fr S S (pB o)).trans fu_46
        have q_49 : 0 ≤ u_46.1 o 1 ∧ u_46.1 o 1 ≤ 32 := iu_46.fi o 1 0 (big_lt ho) ho
        exact sVret Cx hr hlk hW hL ⟨iu_46, F_48, ⟨(by omega), (fun h32 => by show _ = _; have e := xu_46.2.2.1 rfl; unfold bv; rw [e.2, Int.zero_mul]; first | (exfalso; omega) | (rw [show S.1 a 2 = 0 by omega, Int.zero_mul, Int.zero_mul]) | (rw [show S.1 b 2 = 0 by omega, Int.zero_mul, Int.mul_zero])), ⟨fun q => absurd (xu_46.2.2.1 rfl).2 q, fun _ => (xu_46.2.2.1 rfl).1⟩⟩⟩ dX0_product_35
