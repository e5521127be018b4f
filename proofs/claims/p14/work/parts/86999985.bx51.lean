/-- one digit of a long division -/
theorem dlst {T Q P D A X Y r : Int} (h1 : T = Q * (1000000000 * P) * D + (A + P * X)) (h2 : X = r * D + Y) : T = (r + 1000000000 * Q) * P * D + (A + P * Y) := by
  subst h2; rw [h1]; grind
theorem dlend {f x r z : Int} (hf : 1 ≤ f) (h0 : 0 ≤ r) (h1 : r < f) (h : f * x + r = f * z) : x = z := by
  rcases Int.lt_or_le x z with q | q
  · exfalso
    have : f * (x + 1) ≤ f * z := Int.mul_le_mul_of_nonneg_left (by omega) (by omega)
    rw [Int.mul_add] at this
    omega
  · rcases Int.lt_or_le z x with q2 | q2
    · exfalso
      have : f * (z + 1) ≤ f * x := Int.mul_le_mul_of_nonneg_left (by omega) (by omega)
      rw [Int.mul_add] at this
      omega
    · omega

theorem dl_in {q o : Int → Int} {at0 L w T D : Int} (h0 : at0 = L - w) (h : V o 0 (L + 1).toNat = T) : T = V q (at0 + 1) (L - w - at0).toNat * pw (at0 + 1).toNat * D + V o 0 (at0 + 1 + w).toNat := by
  subst h0
  rw [show (L - w - (L - w)).toNat = 0 by omega, show L - w + 1 + w = L + 1 by omega, h]
  show T = (0 : Int) * _ * _ + T
  rw [Int.zero_mul, Int.zero_mul, Int.zero_add]
theorem dl_st {q q2 o o1 o2 : Int → Int} {at0 at1 L w T r D : Int} (ha : 0 ≤ at0 ∧ at0 ≤ L - w) (hw : 0 ≤ w) (h : T = V q (at0 + 1) (L - w - at0).toNat * pw (at0 + 1).toNat * D + V o 0 (at0 + 1 + w).toNat) (hd : V o at0 (w + 1).toNat = r * D + V o1 at0 w.toNat) (e : o2 = o1) (ho : ∀ j, j < at0 → o1 j = o j) (hq : ∀ j, at0 < j → q2 j = q j) (hq0 : q2 at0 = r) (h1 : at1 = at0 - 1) : T = V q2 (at1 + 1) (L - w - at1).toNat * pw (at1 + 1).toNat * D + V o2 0 (at1 + 1 + w).toNat := by
  subst e; subst h1
  rw [show at0 - 1 + 1 = at0 by omega, show L - w - (at0 - 1) = L - w - at0 + 1 by omega, V_frontI (by omega), hq0, V_spl (f := o2) (by omega) hw, V_lo2 (f := q2) (g := q) (s := at0 + 1) (n := L - w - at0) (fun j a b => hq j (by omega)), V_lo (f := o2) (g := o) (n := at0) (fun j a b => ho j b)]
  rw [pw_stp (by omega), show at0 + 1 + w = at0 + (w + 1) by omega, V_spl (f := o) (by omega) (by omega)] at h
  exact dlst h hd
theorem dl_out {q o : Int → Int} {at0 L w T D f X : Int} (ha : at0 = -1) (h : f * T = V q (at0 + 1) (L - w - at0).toNat * pw (at0 + 1).toNat * D + V o 0 (at0 + 1 + w).toNat) (hD : D = f * X) : f * T = V q 0 (L - w + 1).toNat * (f * X) + V o (at0 + 1) w.toNat := by
  subst ha; subst hD
  rw [show (-1 : Int) + 1 = 0 by omega, show L - w - -1 = L - w + 1 by omega, show (0 : Int) + w = w by omega, show pw (0 : Int).toNat = 1 from rfl, Int.mul_one] at h
  rw [show (-1 : Int) + 1 = 0 by omega]
  exact h
theorem dl_fin {f T Q D R r x : Int} (hf : 1 ≤ f) (h0 : 0 ≤ r) (h1 : r < f) (hr : f * x + r = R) (h : f * T = Q * (f * D) + R) : T = Q * D + x := by
  have e := dlend (f := f) (x := x) (r := r) (z := T - Q * D) hf h0 h1 (by rw [hr, Int.mul_sub, h]; grind)
  omega
set_option maxRecDepth 100000 in
set_option maxHeartbeats 4000000 in
theorem b_X0_reduce (l : Launch) (G : sG) (S : sS) {o : Nat} {y : Int} (hI : cX G S 0 0 0) (ho : tau o = .inl 0) (hy : -2147483648 ≤ y ∧ y ≤ 1000000000) : Met l yX0_reduce (.code yX0_reduce cX0_reduce 7 (some .int) :: tb) (rmk 1 0 0) (sPc G 294 S [.ref (G.2.2.1 + o), .int (iv y)]) (sQi G 294 (fun r u => cX G u 0 0 0 ∧ Fr S u (pB o) ∧ (u.1 o 1 ≤ S.1 o 1 ∧ 0 ≤ r ∧ r ≤ 999999999 ∧ (u.1 o 2 = S.1 o 2 ∨ u.1 o 2 = 0) ∧ Hd (0 < y → r < y ∧ y * VR u o + r = VR S o) ∧ Hd (0 < y → (u.1 o 1 = 0 → u.1 o 2 = 0) ∧ (u.1 o 1 ≠ 0 → u.1 o 2 = S.1 o 2))))) 0 0 (sF G) := by
  refine sEnter (by decide) (Nat.le_of_ble_eq_true rfl) ?_
  intro p e s m args below meth c Cx hr hlk hnm hW ls hl
  have Cx : sC G p m c cX0_reduce 7 s args RX0 := Cx
  obtain ⟨hx, hb, hml, hown, hts⟩ := id Cx.1
  have hL : sL G [] := sL_nil
  have hl : lv_has ls 7 [(0, .ref (G.2.2.1 + o)), (1, .int (iv y))] := hl
  have hW0 := hW
  refine lv_iload_n hx hb dX0_reduce_0 rfl (lv_at hl 1 rfl) ?_
  refine r_if_gt (tgt := 6) hx hb ⟨(by omega), (by omega)⟩ dX0_reduce_1 (by decide) (fun c_1 => ?_) (fun c_1 => ?_)
  · have j_2 := hI.exB o
    refine lv_lconst (v := jv 0) hx hb dX0_reduce_6 (by decide) ?_
    refine lv_lstore_n (lv' := [(2, .long (jv 0)), (0, .ref (G.2.2.1 + o)), (1, .int (iv y))]) hx hb dX0_reduce_7 rfl hl (by decide) rfl (fun ls hl => ?_)
    refine lv_aload_n hx hb dX0_reduce_8 rfl (lv_at hl 1 rfl) ?_
    have q_3 : 0 ≤ S.1 o 1 ∧ S.1 o 1 ≤ 32 := j_2.fi o 1 0 (big_lt ho) ho
    refine g_X0_24 Cx hW (k := o) (big_l ho) ho (v := S.1 o 1) rfl dX0_reduce_9 ?_
    refine lv_iconst (v := iv 1) hx hb dX0_reduce_12 (by decide) ?_
    refine r_isub hx hb dX0_reduce_13 ?_
    refine lv_istore (lv' := [(4, .int (iv ((S.1 o 1) - 1))), (2, .long (jv 0)), (0, .ref (G.2.2.1 + o)), (1, .int (iv y))]) hx hb dX0_reduce_14 hl (by decide) rfl (fun ls hl => ?_)
    have loop_16 : ∀ (fuel : Nat) (S16 : sS) (i : Int) (w : Int) (H : Heap) (locs : List Loc) (ls : Array Slot), (i + 1).toNat < fuel → (cX G S16 o 0 0) → (Fr S S16 (pB o)) → (Fr S S16 (pB o)) → (-1 ≤ i ∧ i < S.1 o 1) → (0 ≤ w ∧ w < y) → (S16.1 = S.1) → (∀ j, j ≤ i → S16.2.1 (o + 1) j = S.2.1 (o + 1) j) → (Hd (VR S o = y * (V (S16.2.1 (o + 1)) (i + 1) (S.1 o 1 - 1 - i).toNat * pw (i + 1).toNat) + w * pw (i + 1).toNat + V (S.2.1 (o + 1)) 0 (i + 1).toNat)) → sW G 294 S16 H → sL G locs → lv_has ls 7 [(4, .int (iv i)), (2, .long (jv w)), (0, .ref (G.2.2.1 + o)), (1, .int (iv y))] → W p l e (rmk 1 0 0) s m args below meth c H locs 0 0 (MQ below (sQi G 294 (fun r u => cX G u 0 0 0 ∧ Fr S u (pB o) ∧ (u.1 o 1 ≤ S.1 o 1 ∧ 0 ≤ r ∧ r ≤ 999999999 ∧ (u.1 o 2 = S.1 o 2 ∨ u.1 o 2 = 0) ∧ Hd (0 < y → r < y ∧ y * VR u o + r = VR S o) ∧ Hd (0 < y → (u.1 o 1 = 0 → u.1 o 2 = 0) ∧ (u.1 o 1 ≠ 0 → u.1 o 2 = S.1 o 2))))) args s 0 0 (sF G)) (F0 m 16 ls []) := by
      intro fuel
      induction fuel with
      | zero => intro S16 i w H locs ls hmeas hI16 hFm16 hL16_ hi hw hc hun hval hW hL hl; exact absurd hmeas (Nat.not_lt_zero _)
      | succ fuel ih_16 =>
        intro S16 i w H locs ls hmeas hI16 hFm16 hL16_ hi hw hc hun hval hW hL hl
        have hc1 : S16.1 o 1 = S.1 o 1 := by rw [hc]
        refine lv_iload hx hb dX0_reduce_16 (lv_at hl 0 rfl) ?_
        refine r_if_lt (tgt := 62) hx hb ⟨(by omega), (by omega)⟩ dX0_reduce_18 (by decide) (fun c_4 => ?_) (fun c_4 => ?_)
        · have loop_62 : ∀ (fuel : Nat) (S62 : sS)  (H : Heap) (locs : List Loc) (ls : Array Slot), (S62.1 o 1).toNat < fuel → (cX G S62 o 0 0) → (Fr S S62 (pB o)) → (Fr S S62 (pB o)) → (Fr S16 S62 (pB o)) → (S62.1 o 1 ≤ S.1 o 1) → (S62.1 o 2 = S.1 o 2) → (S62.2 = S16.2) → (∀ j, S62.1 o 1 ≤ j → j < S.1 o 1 → S16.2.1 (o + 1) j = 0) → sW G 294 S62 H → sL G locs → lv_has ls 7 [(4, .int (iv i)), (2, .long (jv w)), (0, .ref (G.2.2.1 + o)), (1, .int (iv y))] → W p l e (rmk 1 0 0) s m args below meth c H locs 0 0 (MQ below (sQi G 294 (fun r u => cX G u 0 0 0 ∧ Fr S u (pB o) ∧ (u.1 o 1 ≤ S.1 o 1 ∧ 0 ≤ r ∧ r ≤ 999999999 ∧ (u.1 o 2 = S.1 o 2 ∨ u.1 o 2 = 0) ∧ Hd (0 < y → r < y ∧ y * VR u o + r = VR S o) ∧ Hd (0 < y → (u.1 o 1 = 0 → u.1 o 2 = 0) ∧ (u.1 o 1 ≠ 0 → u.1 o 2 = S.1 o 2))))) args s 0 0 (sF G)) (F0 m 62 ls []) := by
            intro fuel
            induction fuel with
            | zero => intro S62  H locs ls hmeas hI62 hFm62 hFL1662 hL62_ hc2 hs2 h22 hz2 hW hL hl; exact absurd hmeas (Nat.not_lt_zero _)
            | succ fuel ih_62 =>
              intro S62  H locs ls hmeas hI62 hFm62 hFL1662 hL62_ hc2 hs2 h22 hz2 hW hL hl
              refine lv_aload_n hx hb dX0_reduce_62 rfl (lv_at hl 2 rfl) ?_
              have q_5 : 0 ≤ S62.1 o 1 ∧ S62.1 o 1 ≤ 32 := hI62.fi o 1 0 (big_lt ho) ho
              refine g_X0_24 Cx hW (k := o) (big_l ho) ho (v := S62.1 o 1) rfl dX0_reduce_63 ?_
              refine r_if_le (tgt := 96) hx hb ⟨(by omega), (by omega)⟩ dX0_reduce_66 (by decide) (fun c_6 => ?_) (fun c_6 => ?_)
              · refine lv_aload_n hx hb dX0_reduce_96 rfl (lv_at hl 2 rfl) ?_
                refine lv_aload_n hx hb dX0_reduce_97 rfl (lv_at hl 2 rfl) ?_
                refine g_X0_24 Cx hW (k := o) (big_l ho) ho (v := S62.1 o 1) rfl dX0_reduce_98 ?_
                refine r_if_ne (tgt := 108) hx hb ⟨(by omega), (by omega)⟩ dX0_reduce_101 (by decide) (fun c_7 => ?_) (fun c_7 => ?_)
                · refine lv_aload_n hx hb dX0_reduce_108 rfl (lv_at hl 2 rfl) ?_
                  have q_8 : (-1) ≤ S62.1 o 2 ∧ S62.1 o 2 ≤ 1 := hI62.fi o 2 0 (big_lt ho) ho
                  refine g_X0_34 Cx hW (k := o) (big_l ho) ho (v := S62.1 o 2) rfl dX0_reduce_109 ?_
                  refine p_X0_34 Cx hW hL (k := o) (big_l ho) ho dX0_reduce_112 (fun H locs hW hL => ?_)
                  have F_9 : Fr S (uF S62 o 2 (S62.1 o 2)) (pB o) := hFm62.F pB_0
                  have F_10 : Fr S (uF S62 o 2 (S62.1 o 2)) (pB o) := hFL1662.F pB_0
                  have F_11 : Fr S16 (uF S62 o 2 (S62.1 o 2)) (pB o) := hL62_.F pB_0
                  have i_12 : cX G (uF S62 o 2 (S62.1 o 2)) o 0 0 := hI62.F ho rfl (show (-1) ≤ S62.1 o 2 ∧ S62.1 o 2 ≤ 1 from ⟨by omega, by omega⟩)
                  refine lv_lload_n hx hb dX0_reduce_115 rfl (lv_at hl 1 rfl) ?_
                  refine r_l2i hx hb dX0_reduce_116 ?_
                  have j_13 : cX G (uF S62 o 2 (S62.1 o 2)) 0 0 0 := i_12.inB ho (by intro q; rw [uF_i (by decide)] at q ⊢; first | omega | assumption)
                  have lk_14 : (uF S62 o 2 (S62.1 o 2)).1 o 1 = S62.1 o 1 := uF_ne (fun h => absurd h.2 (by decide))
                  have lk_15 : (uF S62 o 2 (S62.1 o 2)).1 o 2 = S62.1 o 2 := uF_on
                  exact sIret Cx hr hlk hW hL ⟨j_13, F_9, ⟨by rw [uF_i (by decide)]; omega, by omega, by omega, by rw [uF_on]; omega, fun q => ⟨by omega, by have e := hval; have e1 : i = -1 := (by omega); rw [e1] at e; unfold VR at e ⊢; rw [uF_i (by decide)]; show y * V (S62.2.1 (o + 1)) 0 (S62.1 o 1).toNat + w = _; rw [h22, ← VR_trim (by omega) hc2 hz2, e]; have e2 : (S.1 o 1 - 1 - -1) = S.1 o 1 := (by omega); rw [e2]; show _ = y * (V _ 0 _ * 1) + w * 1 + 0; rw [Int.mul_one, Int.mul_one]; omega⟩, fun q => ⟨fun z => by rw [uF_i (by decide)] at z; first | (rw [uF_on]; done) | (rw [uF_on]; omega), fun z => by rw [uF_i (by decide)] at z; first | (rw [uF_on]; done) | (rw [uF_on]; omega)⟩⟩⟩ dX0_reduce_117
                · refine lv_iconst (v := iv 0) hx hb dX0_reduce_104 (by decide) ?_
                  refine lv_goto (tgt := 112) hx hb dX0_reduce_105 (by decide) ?_
                  refine p_X0_34 Cx hW hL (k := o) (big_l ho) ho dX0_reduce_112 (fun H locs hW hL => ?_)
                  have F_16 : Fr S (uF S62 o 2 0) (pB o) := hFm62.F pB_0
                  have F_17 : Fr S (uF S62 o 2 0) (pB o) := hFL1662.F pB_0
                  have F_18 : Fr S16 (uF S62 o 2 0) (pB o) := hL62_.F pB_0
                  have i_19 : cX G (uF S62 o 2 0) o 0 0 := hI62.F ho rfl (show (-1) ≤ 0 ∧ 0 ≤ 1 from ⟨by omega, by omega⟩)
                  refine lv_lload_n hx hb dX0_reduce_115 rfl (lv_at hl 1 rfl) ?_
                  refine r_l2i hx hb dX0_reduce_116 ?_
                  have j_20 : cX G (uF S62 o 2 0) 0 0 0 := i_19.inB ho (by intro q; rw [uF_i (by decide)] at q ⊢; first | omega | assumption)
                  have lk_21 : (uF S62 o 2 0).1 o 1 = S62.1 o 1 := uF_ne (fun h => absurd h.2 (by decide))
                  have lk_22 : (uF S62 o 2 0).1 o 2 = 0 := uF_on
                  exact sIret Cx hr hlk hW hL ⟨j_20, F_16, ⟨by rw [uF_i (by decide)]; omega, by omega, by omega, by rw [uF_on]; omega, fun q => ⟨by omega, by have e := hval; have e1 : i = -1 := (by omega); rw [e1] at e; unfold VR at e ⊢; rw [uF_i (by decide)]; show y * V (S62.2.1 (o + 1)) 0 (S62.1 o 1).toNat + w = _; rw [h22, ← VR_trim (by omega) hc2 hz2, e]; have e2 : (S.1 o 1 - 1 - -1) = S.1 o 1 := (by omega); rw [e2]; show _ = y * (V _ 0 _ * 1) + w * 1 + 0; rw [Int.mul_one, Int.mul_one]; omega⟩, fun q => ⟨fun z => by rw [uF_i (by decide)] at z; first | (rw [uF_on]; done) | (rw [uF_on]; omega), fun z => by rw [uF_i (by decide)] at z; first | (rw [uF_on]; done) | (rw [uF_on]; omega)⟩⟩⟩ dX0_reduce_117
              · refine lv_aload_n hx hb dX0_reduce_69 rfl (lv_at hl 2 rfl) ?_
                refine g_X0_9 Cx hW (k := o) (big_l ho) ho (v := .ref (G.2.2.1 + (o + 1))) (hI62.rq.1 o ho) dX0_reduce_70 ?_
                refine lv_aload_n hx hb dX0_reduce_73 rfl (lv_at hl 2 rfl) ?_
                refine g_X0_24 Cx hW (k := o) (big_l ho) ho (v := S62.1 o 1) rfl dX0_reduce_74 ?_
                refine lv_iconst (v := iv 1) hx hb dX0_reduce_77 (by decide) ?_
                refine r_isub hx hb dX0_reduce_78 ?_
                refine rIald Cx hW (k := o + 1) (big_l1 ho) (big_row ho).1 (by decide) (by omega) (by omega) dX0_reduce_79 ?_
                have q_23 := limbR hI62 ho ((S62.1 o 1) - 1)
                refine r_i (b := S62.2.1 (o + 1) ((S62.1 o 1) - 1)) rfl ?_
                refine r_if_ne (tgt := 96) hx hb ⟨(by omega), (by omega)⟩ dX0_reduce_80 (by decide) (fun c_24 => ?_) (fun c_24 => ?_)
                · refine lv_aload_n hx hb dX0_reduce_96 rfl (lv_at hl 2 rfl) ?_
                  refine lv_aload_n hx hb dX0_reduce_97 rfl (lv_at hl 2 rfl) ?_
                  refine g_X0_24 Cx hW (k := o) (big_l ho) ho (v := S62.1 o 1) rfl dX0_reduce_98 ?_
                  refine r_if_ne (tgt := 108) hx hb ⟨(by omega), (by omega)⟩ dX0_reduce_101 (by decide) (fun c_25 => ?_) (fun c_25 => ?_)
                  · refine lv_aload_n hx hb dX0_reduce_108 rfl (lv_at hl 2 rfl) ?_
                    have q_26 : (-1) ≤ S62.1 o 2 ∧ S62.1 o 2 ≤ 1 := hI62.fi o 2 0 (big_lt ho) ho
                    refine g_X0_34 Cx hW (k := o) (big_l ho) ho (v := S62.1 o 2) rfl dX0_reduce_109 ?_
                    refine p_X0_34 Cx hW hL (k := o) (big_l ho) ho dX0_reduce_112 (fun H locs hW hL => ?_)
                    have F_27 : Fr S (uF S62 o 2 (S62.1 o 2)) (pB o) := hFm62.F pB_0
                    have F_28 : Fr S (uF S62 o 2 (S62.1 o 2)) (pB o) := hFL1662.F pB_0
                    have F_29 : Fr S16 (uF S62 o 2 (S62.1 o 2)) (pB o) := hL62_.F pB_0
                    have i_30 : cX G (uF S62 o 2 (S62.1 o 2)) o 0 0 := hI62.F ho rfl (show (-1) ≤ S62.1 o 2 ∧ S62.1 o 2 ≤ 1 from ⟨by omega, by omega⟩)
                    refine lv_lload_n hx hb dX0_reduce_115 rfl (lv_at hl 1 rfl) ?_
                    refine r_l2i hx hb dX0_reduce_116 ?_
                    have j_31 : cX G (uF S62 o 2 (S62.1 o 2)) 0 0 0 := i_30.inB ho (by intro q; rw [uF_i (by decide)] at q ⊢; first | omega | assumption)
                    have lk_32 : (uF S62 o 2 (S62.1 o 2)).1 o 1 = S62.1 o 1 := uF_ne (fun h => absurd h.2 (by decide))
                    have lk_33 : (uF S62 o 2 (S62.1 o 2)).1 o 2 = S62.1 o 2 := uF_on
                    exact sIret Cx hr hlk hW hL ⟨j_31, F_27, ⟨by rw [uF_i (by decide)]; omega, by omega, by omega, by rw [uF_on]; omega, fun q => ⟨by omega, by have e := hval; have e1 : i = -1 := (by omega); rw [e1] at e; unfold VR at e ⊢; rw [uF_i (by decide)]; show y * V (S62.2.1 (o + 1)) 0 (S62.1 o 1).toNat + w = _; rw [h22, ← VR_trim (by omega) hc2 hz2, e]; have e2 : (S.1 o 1 - 1 - -1) = S.1 o 1 := (by omega); rw [e2]; show _ = y * (V _ 0 _ * 1) + w * 1 + 0; rw [Int.mul_one, Int.mul_one]; omega⟩, fun q => ⟨fun z => by rw [uF_i (by decide)] at z; first | (rw [uF_on]; done) | (rw [uF_on]; omega), fun z => by rw [uF_i (by decide)] at z; first | (rw [uF_on]; done) | (rw [uF_on]; omega)⟩⟩⟩ dX0_reduce_117
                  · refine lv_iconst (v := iv 0) hx hb dX0_reduce_104 (by decide) ?_
                    refine lv_goto (tgt := 112) hx hb dX0_reduce_105 (by decide) ?_
                    refine p_X0_34 Cx hW hL (k := o) (big_l ho) ho dX0_reduce_112 (fun H locs hW hL => ?_)
                    have F_34 : Fr S (uF S62 o 2 0) (pB o) := hFm62.F pB_0
                    have F_35 : Fr S (uF S62 o 2 0) (pB o) := hFL1662.F pB_0
                    have F_36 : Fr S16 (uF S62 o 2 0) (pB o) := hL62_.F pB_0
                    have i_37 : cX G (uF S62 o 2 0) o 0 0 := hI62.F ho rfl (show (-1) ≤ 0 ∧ 0 ≤ 1 from ⟨by omega, by omega⟩)
                    refine lv_lload_n hx hb dX0_reduce_115 rfl (lv_at hl 1 rfl) ?_
                    refine r_l2i hx hb dX0_reduce_116 ?_
                    have j_38 : cX G (uF S62 o 2 0) 0 0 0 := i_37.inB ho (by intro q; rw [uF_i (by decide)] at q ⊢; first | omega | assumption)
                    have lk_39 : (uF S62 o 2 0).1 o 1 = S62.1 o 1 := uF_ne (fun h => absurd h.2 (by decide))
                    have lk_40 : (uF S62 o 2 0).1 o 2 = 0 := uF_on
                    exact sIret Cx hr hlk hW hL ⟨j_38, F_34, ⟨by rw [uF_i (by decide)]; omega, by omega, by omega, by rw [uF_on]; omega, fun q => ⟨by omega, by have e := hval; have e1 : i = -1 := (by omega); rw [e1] at e; unfold VR at e ⊢; rw [uF_i (by decide)]; show y * V (S62.2.1 (o + 1)) 0 (S62.1 o 1).toNat + w = _; rw [h22, ← VR_trim (by omega) hc2 hz2, e]; have e2 : (S.1 o 1 - 1 - -1) = S.1 o 1 := (by omega); rw [e2]; show _ = y * (V _ 0 _ * 1) + w * 1 + 0; rw [Int.mul_one, Int.mul_one]; omega⟩, fun q => ⟨fun z => by rw [uF_i (by decide)] at z; first | (rw [uF_on]; done) | (rw [uF_on]; omega), fun z => by rw [uF_i (by decide)] at z; first | (rw [uF_on]; done) | (rw [uF_on]; omega)⟩⟩⟩ dX0_reduce_117
                · refine lv_aload_n hx hb dX0_reduce_83 rfl (lv_at hl 2 rfl) ?_
                  refine lv_dup hx hb dX0_reduce_84 rfl ?_
                  refine g_X0_24 Cx hW (k := o) (big_l ho) ho (v := S62.1 o 1) rfl dX0_reduce_85 ?_
                  refine lv_iconst (v := iv 1) hx hb dX0_reduce_88 (by decide) ?_
                  refine r_isub hx hb dX0_reduce_89 ?_
                  refine p_X0_24 Cx hW hL (k := o) (big_l ho) ho dX0_reduce_90 (fun H locs hW hL => ?_)
                  have F_41 : Fr S (uF S62 o 1 ((S62.1 o 1) - 1)) (pB o) := hFm62.F pB_0
                  have F_42 : Fr S (uF S62 o 1 ((S62.1 o 1) - 1)) (pB o) := hFL1662.F pB_0
                  have F_43 : Fr S16 (uF S62 o 1 ((S62.1 o 1) - 1)) (pB o) := hL62_.F pB_0
                  have i_44 : cX G (uF S62 o 1 ((S62.1 o 1) - 1)) o 0 0 := hI62.cnt (exq_s ho) ho ⟨by omega, by omega⟩
                  refine lv_goto (tgt := 62) hx hb dX0_reduce_93 (by decide) ?_
                  have lk_45 : (uF S62 o 1 ((S62.1 o 1) - 1)).1 o 1 = (S62.1 o 1) - 1 := uF_on
                  have q_46 : (-1) ≤ S62.1 o 2 ∧ S62.1 o 2 ≤ 1 := hI62.fi o 2 0 (big_lt ho) ho
                  have lk_47 : (uF S62 o 1 ((S62.1 o 1) - 1)).1 o 2 = S62.1 o 2 := uF_ne (fun h => absurd h.2 (by decide))
                  exact ih_62 (uF S62 o 1 ((S62.1 o 1) - 1))  _ _ _ (by rw [uF_on]; omega) i_44 F_41 F_42 F_43 (by rw [uF_on]; omega) ((uF_i (by decide)).trans hs2) h22 (fun j j0 j1 => by rw [uF_on] at j0; by_cases e : j = S62.1 o 1 - 1; rw [e, ← h22]; assumption; exact hz2 j (by omega) j1) hW hL (lv_sub hl [0, 1, 2, 3] rfl)
          have q_48 : 0 ≤ S16.1 o 1 ∧ S16.1 o 1 ≤ 32 := hI16.fi o 1 0 (big_lt ho) ho
          have q_49 : (-1) ≤ S16.1 o 2 ∧ S16.1 o 2 ≤ 1 := hI16.fi o 2 0 (big_lt ho) ho
          exact loop_62 (_ + 1) S16  _ _ _ (Nat.lt_succ_self _) hI16 hFm16 hL16_ Fr.rf (by omega) (by rw [hc]) rfl (fun j j0 j1 => absurd j1 (by omega)) hW hL (lv_sub hl [0, 1, 2, 3] rfl)
        · refine lv_lload_n hx hb dX0_reduce_21 rfl (lv_at hl 1 rfl) ?_
          refine lv_ldc2 hx hb hown (hts _ w_1163) dX0_reduce_22 ?_
          refine r_lmul hx hb dX0_reduce_25 ?_
          refine lv_aload_n hx hb dX0_reduce_26 rfl (lv_at hl 2 rfl) ?_
          refine g_X0_9 Cx hW (k := o) (big_l ho) ho (v := .ref (G.2.2.1 + (o + 1))) (hI16.rq.1 o ho) dX0_reduce_27 ?_
          refine lv_iload hx hb dX0_reduce_30 (lv_at hl 0 rfl) ?_
          refine rIald Cx hW (k := o + 1) (big_l1 ho) (big_row ho).1 (by decide) (by omega) (by omega) dX0_reduce_32 ?_
          have q_50 := limbR hI16 ho i
          refine r_i (b := S16.2.1 (o + 1) i) rfl ?_
          refine r_i2l hx hb ⟨(by omega), (by omega)⟩ dX0_reduce_33 ?_
          refine r_ladd hx hb dX0_reduce_34 ?_
          refine lv_lstore (lv' := [(5, .long (jv ((w * 1000000000) + (S16.2.1 (o + 1) i)))), (4, .int (iv i)), (2, .long (jv w)), (0, .ref (G.2.2.1 + o)), (1, .int (iv y))]) hx hb dX0_reduce_35 hl (by decide) rfl (fun ls hl => ?_)
          refine lv_aload_n hx hb dX0_reduce_37 rfl (lv_at hl 3 rfl) ?_
          refine g_X0_9 Cx hW (k := o) (big_l ho) ho (v := .ref (G.2.2.1 + (o + 1))) (hI16.rq.1 o ho) dX0_reduce_38 ?_
          refine lv_iload hx hb dX0_reduce_41 (lv_at hl 1 rfl) ?_
          refine lv_lload hx hb dX0_reduce_43 (lv_at hl 0 rfl) ?_
          refine lv_iload_n hx hb dX0_reduce_45 rfl (lv_at hl 4 rfl) ?_
          refine r_i2l hx hb ⟨(by omega), (by omega)⟩ dX0_reduce_46 ?_
          refine r_ldiv hx hb ⟨(by omega), (by omega)⟩ ⟨(by omega), (by omega)⟩ (by omega) dX0_reduce_47 ?_
          obtain ⟨qz, eqz⟩ : ∃ z : Int, z = ((w * 1000000000) + (S16.2.1 (o + 1) i)).tdiv y := ⟨_, rfl⟩
          have hqz := divV (a := (w * 1000000000) + (S16.2.1 (o + 1) i)) (b := y) (by omega) (by omega) (M := 1000000000) (by omega)
          rw [← eqz] at hqz
          refine r_j (b := qz) eqz.symm ?_
          refine r_l2i hx hb dX0_reduce_48 ?_
          refine rIast Cx hW hL (k := o + 1) (big_l1 ho) (big_row ho).1 (by decide) (by omega) (by omega) dX0_reduce_49 (fun H locs hW hL => ?_)
          have F_51 : Fr S (uA S16 (o + 1) i qz) (pB o) := hFm16.A pB_1
          have F_52 : Fr S (uA S16 (o + 1) i qz) (pB o) := hL16_.A pB_1
          have i_53 : cX G (uA S16 (o + 1) i qz) o 0 0 := hI16.limb (Or.inl (exq_s ho)) ho ⟨(by omega), (by omega)⟩
          refine lv_lload hx hb dX0_reduce_50 (lv_at hl 0 rfl) ?_
          refine lv_iload_n hx hb dX0_reduce_52 rfl (lv_at hl 4 rfl) ?_
          refine r_i2l hx hb ⟨(by omega), (by omega)⟩ dX0_reduce_53 ?_
          refine r_lrem hx hb ⟨(by omega), (by omega)⟩ ⟨(by omega), (by omega)⟩ (by omega) dX0_reduce_54 ?_
          obtain ⟨rz, erz⟩ : ∃ z : Int, z = ((w * 1000000000) + (S16.2.1 (o + 1) i)).tmod y := ⟨_, rfl⟩
          have hrz := modV (a := (w * 1000000000) + (S16.2.1 (o + 1) i)) (b := y) (by omega) (by omega)
          rw [← erz] at hrz
          refine r_j (b := rz) erz.symm ?_
          have hqr : qz * y + rz = w * 1000000000 + S16.2.1 (o + 1) i := by rw [eqz, erz]; exact tdm _ _
          clear eqz erz
          refine lv_lstore_n (lv' := [(2, .long (jv rz)), (5, .long (jv ((w * 1000000000) + (S16.2.1 (o + 1) i)))), (4, .int (iv i)), (0, .ref (G.2.2.1 + o)), (1, .int (iv y))]) hx hb dX0_reduce_55 rfl hl (by decide) rfl (fun ls hl => ?_)
          refine lv_iinc (v := iv (i + (-1))) (lv' := [(4, .int (iv (i + (-1)))), (2, .long (jv rz)), (5, .long (jv ((w * 1000000000) + (S16.2.1 (o + 1) i)))), (0, .ref (G.2.2.1 + o)), (1, .int (iv y))]) hx hb dX0_reduce_56 hl (k := 2) rfl ((Int32.ofInt_add _ _).symm) (by decide) rfl (fun ls hl => ?_)
          refine lv_goto (tgt := 16) hx hb dX0_reduce_59 (by decide) ?_
          exact ih_16 (uA S16 (o + 1) i qz) (i + (-1)) rz _ _ _ (by omega) i_53 F_51 F_52 (by omega) (by omega) hc (fun j j0 => by rw [uA_ne (by omega)]; exact hun j (by omega)) (show _ = _ by rw [show i + -1 + 1 = i by omega, show S.1 o 1 - 1 - (i + -1) = S.1 o 1 - 1 - i + 1 by omega, V_frontI (by omega), uA_on, show V ((uA S16 (o + 1) i qz).2.1 (o + 1)) (i + 1) (S.1 o 1 - 1 - i).toNat = V (S16.2.1 (o + 1)) (i + 1) (S.1 o 1 - 1 - i).toNat from V_same (by omega)]; refine dstep (w := w) (l := S.2.1 (o + 1) i) ?_ (by rw [← hun i (by omega)]; omega); have e := hval; rw [V_stp (by omega), pw_stp (by omega), show (0 : Int) + i = i by omega] at e; rw [e]; omega) hW hL (lv_sub hl [0, 1, 3, 4] rfl)
    exact loop_16 (_ + 1) S ((S.1 o 1) - 1) 0 _ _ _ (Nat.lt_succ_self _) j_2 (Fr.rf : Fr S S (pB o)) Fr.rf (by omega) (by omega) rfl (fun j _ => rfl) (show _ = _ by unfold VR; rw [show S.1 o 1 - 1 - (S.1 o 1 - 1) = 0 by omega, show S.1 o 1 - 1 + 1 = S.1 o 1 by omega]; show _ = y * (0 * _) + 0 * _ + _; rw [Int.zero_mul]; omega) hW hL (lv_sub hl [0, 1, 2, 3] rfl)
  · refine lv_iconst (v := iv 0) hx hb dX0_reduce_4 (by decide) ?_
    have q_54 : 0 ≤ S.1 o 1 ∧ S.1 o 1 ≤ 32 := hI.fi o 1 0 (big_lt ho) ho
    have q_55 : (-1) ≤ S.1 o 2 ∧ S.1 o 2 ≤ 1 := hI.fi o 2 0 (big_lt ho) ho
    exact sIret Cx hr hlk hW hL ⟨hI, (Fr.rf : Fr S S (pB o)), (⟨by omega, by omega, by omega, by omega, fun q => absurd q (by omega), fun q => absurd q (by omega)⟩)⟩ dX0_reduce_5

set_option maxRecDepth 100000 in
set_option maxHeartbeats 4000000 in
theorem b_X0_trim_2 (l : Launch) (G : sG) (S : sS) {o z : Nat} (hI : cX G S (z + 1000 * o) 0 0) (ho : tau o = .inl 0) (hz : tau z = .inl 0) (nzo : z ≠ o) : Met l yX0_trim (.code yX0_trim cX0_trim 1 none :: tb) (rmk 1 0 0) (sPc G 294 S [.ref (G.2.2.1 + o)]) (sQv G 294 (fun u => cX G u z 0 0 ∧ Fr S u (pB o) ∧ (u.1 o 1 ≤ S.1 o 1 ∧ (u.1 o 2 = S.1 o 2 ∨ u.1 o 2 = 0) ∧ u.2 = S.2 ∧ (u.1 o 2 ≠ S.1 o 2 → u.1 o 1 = 0) ∧ (u.1 o 1 = 0 → u.1 o 2 = 0) ∧ ∀ j, u.1 o 1 ≤ j → j < S.1 o 1 → S.2.1 (o + 1) j = 0))) 0 0 (sF G) := by
  refine sEnter (by decide) (Nat.le_of_ble_eq_true rfl) ?_
  intro p e s m args below meth c Cx hr hlk hnm hW ls hl
  have Cx : sC G p m c cX0_trim 1 s args RX0 := Cx
  obtain ⟨hx, hb, hml, hown, hts⟩ := id Cx.1
  have hL : sL G [] := sL_nil
  have hl : lv_has ls 1 [(0, .ref (G.2.2.1 + o))] := hl
  have hW0 := hW
  have loop_0 : ∀ (fuel : Nat) (S0 : sS)  (H : Heap) (locs : List Loc) (ls : Array Slot), (S0.1 o 1).toNat < fuel → (cX G S0 (z + 1000 * o) 0 0) → (Fr S S0 (pB o)) → (Fr S S0 (pB o)) → (S0.1 o 1 ≤ S.1 o 1) → (S0.1 o 2 = S.1 o 2) → (S0.2 = S.2) → (∀ j, S0.1 o 1 ≤ j → j < S.1 o 1 → S.2.1 (o + 1) j = 0) → sW G 294 S0 H → sL G locs → lv_has ls 1 [(0, .ref (G.2.2.1 + o))] → W p l e (rmk 1 0 0) s m args below meth c H locs 0 0 (MQ below (sQv G 294 (fun u => cX G u z 0 0 ∧ Fr S u (pB o) ∧ (u.1 o 1 ≤ S.1 o 1 ∧ (u.1 o 2 = S.1 o 2 ∨ u.1 o 2 = 0) ∧ u.2 = S.2 ∧ (u.1 o 2 ≠ S.1 o 2 → u.1 o 1 = 0) ∧ (u.1 o 1 = 0 → u.1 o 2 = 0) ∧ ∀ j, u.1 o 1 ≤ j → j < S.1 o 1 → S.2.1 (o + 1) j = 0))) args s 0 0 (sF G)) (F0 m 0 ls []) := by
    intro fuel
    induction fuel with
    | zero => intro S0  H locs ls hmeas hI0 hFm0 hL0_ hc hs h2 hzz hW hL hl; exact absurd hmeas (Nat.not_lt_zero _)
    | succ fuel ih_0 =>
      intro S0  H locs ls hmeas hI0 hFm0 hL0_ hc hs h2 hzz hW hL hl
      refine lv_aload_n hx hb dX0_trim_0 rfl (lv_at hl 0 rfl) ?_
      have q_1 : 0 ≤ S0.1 o 1 ∧ S0.1 o 1 ≤ 32 := hI0.fi o 1 0 (big_lt ho) ho
      refine g_X0_24 Cx hW (k := o) (big_l ho) ho (v := S0.1 o 1) rfl dX0_trim_1 ?_
      refine r_if_le (tgt := 34) hx hb ⟨(by omega), (by omega)⟩ dX0_trim_4 (by decide) (fun c_2 => ?_) (fun c_2 => ?_)
      · refine lv_aload_n hx hb dX0_trim_34 rfl (lv_at hl 0 rfl) ?_
        refine g_X0_24 Cx hW (k := o) (big_l ho) ho (v := S0.1 o 1) rfl dX0_trim_35 ?_
        refine r_if_ne (tgt := 46) hx hb ⟨(by omega), (by omega)⟩ dX0_trim_38 (by decide) (fun c_3 => ?_) (fun c_3 => ?_)
        · have j_4 : cX G S0 z 0 0 := hI0.inB2 hz (fun q => by first | omega | assumption)
          have q_5 : (-1) ≤ S0.1 o 2 ∧ S0.1 o 2 ≤ 1 := j_4.fi o 2 0 (big_lt ho) ho
          exact sVret Cx hr hlk hW hL ⟨j_4, hFm0, ⟨hc, Or.inl hs, h2, fun q => absurd hs q, fun q => by omega, hzz⟩⟩ dX0_trim_46
        · refine lv_aload_n hx hb dX0_trim_41 rfl (lv_at hl 0 rfl) ?_
          refine lv_iconst (v := iv 0) hx hb dX0_trim_42 (by decide) ?_
          refine p_X0_34 Cx hW hL (k := o) (big_l ho) ho dX0_trim_43 (fun H locs hW hL => ?_)
          have F_6 : Fr S (uF S0 o 2 0) (pB o) := hFm0.F pB_0
          have F_7 : Fr S (uF S0 o 2 0) (pB o) := hL0_.F pB_0
          have i_8 : cX G (uF S0 o 2 0) (z + 1000 * o) 0 0 := hI0.F ho rfl (show (-1) ≤ 0 ∧ 0 ≤ 1 from ⟨by omega, by omega⟩)
          have j_9 : cX G (uF S0 o 2 0) z 0 0 := i_8.inB2 hz (fun q => by rw [uF_i (by decide)] at q; first | omega | assumption)
          have lk_10 : (uF S0 o 2 0).1 o 1 = S0.1 o 1 := uF_ne (fun h => absurd h.2 (by decide))
          have lk_11 : (uF S0 o 2 0).1 o 2 = 0 := uF_on
          exact sVret Cx hr hlk hW hL ⟨j_9, F_6, ⟨by rw [uF_i (by decide)]; omega, Or.inr uF_on, h2, fun _ => by rw [uF_i (by decide)]; omega, fun _ => uF_on, fun j j0 j1 => by rw [uF_i (by decide)] at j0; exact hzz j j0 j1⟩⟩ dX0_trim_46
      · refine lv_aload_n hx hb dX0_trim_7 rfl (lv_at hl 0 rfl) ?_
        refine g_X0_9 Cx hW (k := o) (big_l ho) ho (v := .ref (G.2.2.1 + (o + 1))) (hI0.rq.1 o ho) dX0_trim_8 ?_
        refine lv_aload_n hx hb dX0_trim_11 rfl (lv_at hl 0 rfl) ?_
        refine g_X0_24 Cx hW (k := o) (big_l ho) ho (v := S0.1 o 1) rfl dX0_trim_12 ?_
        refine lv_iconst (v := iv 1) hx hb dX0_trim_15 (by decide) ?_
        refine r_isub hx hb dX0_trim_16 ?_
        refine rIald Cx hW (k := o + 1) (big_l1 ho) (big_row ho).1 (by decide) (by omega) (by omega) dX0_trim_17 ?_
        have q_12 := limbR hI0 ho ((S0.1 o 1) - 1)
        refine r_i (b := S0.2.1 (o + 1) ((S0.1 o 1) - 1)) rfl ?_
        refine r_if_ne (tgt := 34) hx hb ⟨(by omega), (by omega)⟩ dX0_trim_18 (by decide) (fun c_13 => ?_) (fun c_13 => ?_)
        · refine lv_aload_n hx hb dX0_trim_34 rfl (lv_at hl 0 rfl) ?_
          refine g_X0_24 Cx hW (k := o) (big_l ho) ho (v := S0.1 o 1) rfl dX0_trim_35 ?_
          refine r_if_ne (tgt := 46) hx hb ⟨(by omega), (by omega)⟩ dX0_trim_38 (by decide) (fun c_14 => ?_) (fun c_14 => ?_)
          · have j_15 : cX G S0 z 0 0 := hI0.inB2 hz (fun q => by first | omega | assumption)
            have q_16 : (-1) ≤ S0.1 o 2 ∧ S0.1 o 2 ≤ 1 := j_15.fi o 2 0 (big_lt ho) ho
            exact sVret Cx hr hlk hW hL ⟨j_15, hFm0, ⟨hc, Or.inl hs, h2, fun q => absurd hs q, fun q => by omega, hzz⟩⟩ dX0_trim_46
          · refine lv_aload_n hx hb dX0_trim_41 rfl (lv_at hl 0 rfl) ?_
            refine lv_iconst (v := iv 0) hx hb dX0_trim_42 (by decide) ?_
            refine p_X0_34 Cx hW hL (k := o) (big_l ho) ho dX0_trim_43 (fun H locs hW hL => ?_)
            have F_17 : Fr S (uF S0 o 2 0) (pB o) := hFm0.F pB_0
            have F_18 : Fr S (uF S0 o 2 0) (pB o) := hL0_.F pB_0
            have i_19 : cX G (uF S0 o 2 0) (z + 1000 * o) 0 0 := hI0.F ho rfl (show (-1) ≤ 0 ∧ 0 ≤ 1 from ⟨by omega, by omega⟩)
            have j_20 : cX G (uF S0 o 2 0) z 0 0 := i_19.inB2 hz (fun q => by rw [uF_i (by decide)] at q; first | omega | assumption)
            have lk_21 : (uF S0 o 2 0).1 o 1 = S0.1 o 1 := uF_ne (fun h => absurd h.2 (by decide))
            have lk_22 : (uF S0 o 2 0).1 o 2 = 0 := uF_on
            exact sVret Cx hr hlk hW hL ⟨j_20, F_17, ⟨by rw [uF_i (by decide)]; omega, Or.inr uF_on, h2, fun _ => by rw [uF_i (by decide)]; omega, fun _ => uF_on, fun j j0 j1 => by rw [uF_i (by decide)] at j0; exact hzz j j0 j1⟩⟩ dX0_trim_46
        · refine lv_aload_n hx hb dX0_trim_21 rfl (lv_at hl 0 rfl) ?_
          refine lv_dup hx hb dX0_trim_22 rfl ?_
          refine g_X0_24 Cx hW (k := o) (big_l ho) ho (v := S0.1 o 1) rfl dX0_trim_23 ?_
          refine lv_iconst (v := iv 1) hx hb dX0_trim_26 (by decide) ?_
          refine r_isub hx hb dX0_trim_27 ?_
          refine p_X0_24 Cx hW hL (k := o) (big_l ho) ho dX0_trim_28 (fun H locs hW hL => ?_)
          have F_23 : Fr S (uF S0 o 1 ((S0.1 o 1) - 1)) (pB o) := hFm0.F pB_0
          have F_24 : Fr S (uF S0 o 1 ((S0.1 o 1) - 1)) (pB o) := hL0_.F pB_0
          have i_25 : cX G (uF S0 o 1 ((S0.1 o 1) - 1)) (z + 1000 * o) 0 0 := hI0.cnt (exq_2 hz) ho ⟨by omega, by omega⟩
          refine lv_goto (tgt := 0) hx hb dX0_trim_31 (by decide) ?_
          have lk_26 : (uF S0 o 1 ((S0.1 o 1) - 1)).1 o 1 = (S0.1 o 1) - 1 := uF_on
          have q_27 : (-1) ≤ S0.1 o 2 ∧ S0.1 o 2 ≤ 1 := hI0.fi o 2 0 (big_lt ho) ho
          have lk_28 : (uF S0 o 1 ((S0.1 o 1) - 1)).1 o 2 = S0.1 o 2 := uF_ne (fun h => absurd h.2 (by decide))
          exact ih_0 (uF S0 o 1 ((S0.1 o 1) - 1))  _ _ _ (by rw [uF_on]; omega) i_25 F_23 F_24 (by rw [uF_on]; omega) ((uF_i (by decide)).trans hs) h2 (fun j j0 j1 => by rw [uF_on] at j0; by_cases e : j = S0.1 o 1 - 1; rw [e, ← h2]; assumption; exact hzz j (by omega) j1) hW hL (lv_sub hl [0] rfl)
  have q_29 : 0 ≤ S.1 o 1 ∧ S.1 o 1 ≤ 32 := hI.fi o 1 0 (big_lt ho) ho
  have q_30 : (-1) ≤ S.1 o 2 ∧ S.1 o 2 ≤ 1 := hI.fi o 2 0 (big_lt ho) ho
  exact loop_0 (_ + 1) S  _ _ _ (Nat.lt_succ_self _) hI (Fr.rf : Fr S S (pB o)) Fr.rf (Int.le_refl _) rfl rfl (fun j j0 j1 => absurd j1 (by omega)) hW hL (lv_sub hl [0] rfl)

set_option maxRecDepth 100000 in
set_option maxHeartbeats 4000000 in
theorem b_X0_divideLong (l : Launch) (G : sG) (S : sS) {o b q h : Nat} (hI : cX G S 0 0 0) (ho : tau o = .inl 0) (hbb : tau b = .inl 0) (hq : tau q = .inl 0) (hh : tau h = .inl 0) (nob : Hd (o ≠ b)) (noq : Hd (o ≠ q)) (noh : Hd (o ≠ h)) (nbq : Hd (b ≠ q)) (nbh : Hd (b ≠ h)) (nqh : Hd (q ≠ h)) (hq0 : S.1 q 1 = 0) (hq02 : S.1 q 2 = 0) (hbo : S.1 b 1 ≤ S.1 o 1) : Met l yX0_divideLong (.code yX0_divideLong cX0_divideLong 8 none :: tb) (rmk 3 0 0) (sPc G 294 S [.ref (G.2.2.1 + o), .ref (G.2.2.1 + b), .ref (G.2.2.1 + q), .ref (G.2.2.1 + h)]) (sQv G 294 (fun u => cX G u 0 0 0 ∧ Fr S u (pD o q h) ∧ (u.1 o 1 ≤ S.1 o 1 ∧ u.1 q 1 ≤ S.1 o 1 ∧ 0 ≤ u.1 q 2 ∧ (u.1 o 2 = S.1 o 2 ∨ u.1 o 2 = 0) ∧ Hd (S.1 o 1 ≤ 31 → 2 ≤ S.1 b 1 → VR u o < VR S b) ∧ Hd (S.1 o 1 ≤ 31 → 2 ≤ S.1 b 1 → VR S o = VR u q * VR S b + VR u o ∧ bs u q ∧ (u.1 o 1 = 0 → u.1 o 2 = 0) ∧ (u.1 o 1 ≠ 0 → u.1 o 2 = S.1 o 2))))) 0 0 (sF G) := by
  refine sEnter (by decide) (Nat.le_of_ble_eq_true rfl) ?_
  intro p e s m args below meth c Cx hr hlk hnm hW ls hl
  have Cx : sC G p m c cX0_divideLong 8 s args RX0 := Cx
  obtain ⟨hx, hb, hml, hown, hts⟩ := id Cx.1
  have hL : sL G [] := sL_nil
  have hl : lv_has ls 8 [(0, .ref (G.2.2.1 + o)), (1, .ref (G.2.2.1 + b)), (2, .ref (G.2.2.1 + q)), (3, .ref (G.2.2.1 + h))] := hl
  have hW0 := hW
  refine lv_aload_n hx hb dX0_divideLong_0 rfl (lv_at hl 1 rfl) ?_
  have q_1 : 0 ≤ S.1 b 1 ∧ S.1 b 1 ≤ 32 := hI.fi b 1 0 (big_lt hbb) hbb
  refine g_X0_24 Cx hW (k := b) (big_l hbb) hbb (v := S.1 b 1) rfl dX0_divideLong_1 ?_
  refine lv_istore (lv' := [(4, .int (iv (S.1 b 1))), (0, .ref (G.2.2.1 + o)), (1, .ref (G.2.2.1 + b)), (2, .ref (G.2.2.1 + q)), (3, .ref (G.2.2.1 + h))]) hx hb dX0_divideLong_4 hl (by decide) rfl (fun ls hl => ?_)
  refine lv_aload_n hx hb dX0_divideLong_6 rfl (lv_at hl 1 rfl) ?_
  have q_2 : 0 ≤ S.1 o 1 ∧ S.1 o 1 ≤ 32 := hI.fi o 1 0 (big_lt ho) ho
  refine g_X0_24 Cx hW (k := o) (big_l ho) ho (v := S.1 o 1) rfl dX0_divideLong_7 ?_
  refine lv_istore (lv' := [(5, .int (iv (S.1 o 1))), (4, .int (iv (S.1 b 1))), (0, .ref (G.2.2.1 + o)), (1, .ref (G.2.2.1 + b)), (2, .ref (G.2.2.1 + q)), (3, .ref (G.2.2.1 + h))]) hx hb dX0_divideLong_10 hl (by decide) rfl (fun ls hl => ?_)
  refine lv_iload hx hb dX0_divideLong_12 (lv_at hl 0 rfl) ?_
  refine lv_bipush (v := iv 32) hx hb dX0_divideLong_14 (by decide) ?_
  refine r_icmp_ge (tgt := 25) hx hb ⟨(by omega), (by omega)⟩ ⟨(by omega), (by omega)⟩ dX0_divideLong_16 (by decide) (fun c_3 => ?_) (fun c_3 => ?_)
  · have q_4 : 0 ≤ S.1 q 1 ∧ S.1 q 1 ≤ 32 := hI.fi q 1 0 (big_lt hq) hq
    have q_5 : (-1) ≤ S.1 q 2 ∧ S.1 q 2 ≤ 1 := hI.fi q 2 0 (big_lt hq) hq
    have q_6 : (-1) ≤ S.1 o 2 ∧ S.1 o 2 ≤ 1 := hI.fi o 2 0 (big_lt ho) ho
    exact sVret Cx hr hlk hW hL ⟨hI, (Fr.rf : Fr S S (pD o q h)), ⟨by omega, by omega, by omega, by omega, fun q1 q2 => absurd q1 (by omega), fun q1 q2 => absurd q1 (by omega)⟩⟩ dX0_divideLong_25
  · refine lv_iload hx hb dX0_divideLong_19 (lv_at hl 1 rfl) ?_
    refine lv_iconst (v := iv 2) hx hb dX0_divideLong_21 (by decide) ?_
    refine r_icmp_ge (tgt := 26) hx hb ⟨(by omega), (by omega)⟩ ⟨(by omega), (by omega)⟩ dX0_divideLong_22 (by decide) (fun c_7 => ?_) (fun c_7 => ?_)
    · have hnbb := nbH hI hbb (by omega)
      refine lv_ldc hx hb hown (hts _ w_1293) dX0_divideLong_26 ?_
      refine lv_aload_n hx hb dX0_divideLong_28 rfl (lv_at hl 3 rfl) ?_
      refine g_X0_9 Cx hW (k := b) (big_l hbb) hbb (v := .ref (G.2.2.1 + (b + 1))) (hI.rq.1 b hbb) dX0_divideLong_29 ?_
      refine lv_iload hx hb dX0_divideLong_32 (lv_at hl 1 rfl) ?_
      refine lv_iconst (v := iv 1) hx hb dX0_divideLong_34 (by decide) ?_
      refine r_isub hx hb dX0_divideLong_35 ?_
      refine rIald Cx hW (k := b + 1) (big_l1 hbb) (big_row hbb).1 (by decide) (by omega) (by omega) dX0_divideLong_36 ?_
      have q_8 := limbR hI hbb ((S.1 b 1) - 1)
      refine r_i (b := S.2.1 (b + 1) ((S.1 b 1) - 1)) rfl ?_
      refine lv_iconst (v := iv 1) hx hb dX0_divideLong_37 (by decide) ?_
      refine r_iadd hx hb dX0_divideLong_38 ?_
      refine r_idiv hx hb ⟨(by omega), (by omega)⟩ ⟨(by omega), (by omega)⟩ (by omega) dX0_divideLong_39 ?_
      obtain ⟨f, ef⟩ : ∃ z : Int, z = (1000000000 : Int).tdiv ((S.2.1 (b + 1) ((S.1 b 1) - 1)) + 1) := ⟨_, rfl⟩
      have hf := divQ (a := 1000000000) (b := (S.2.1 (b + 1) ((S.1 b 1) - 1)) + 1) (by omega) (by omega)
      rw [← ef] at hf
      refine r_i (b := f) ef.symm ?_
      clear ef
      have hkf := kn_f (t := S.2.1 (b + 1) (S.1 b 1 - 1)) (f := f) (by omega) (by omega) hf.2.1 hf.2.2
      refine lv_istore (lv' := [(6, .int (iv f)), (5, .int (iv (S.1 o 1))), (4, .int (iv (S.1 b 1))), (0, .ref (G.2.2.1 + o)), (1, .ref (G.2.2.1 + b)), (2, .ref (G.2.2.1 + q)), (3, .ref (G.2.2.1 + h))]) hx hb dX0_divideLong_40 hl (by decide) rfl (fun ls hl => ?_)
      refine lv_aload_n hx hb dX0_divideLong_42 rfl (lv_at hl 6 rfl) ?_
      refine lv_aload_n hx hb dX0_divideLong_43 rfl (lv_at hl 4 rfl) ?_
      have q_9 : (-1) ≤ S.1 b 2 ∧ S.1 b 2 ≤ 1 := hI.fi b 2 0 (big_lt hbb) hbb
      refine sBv (sV (As := [.ref (G.2.2.1 + b)]) (rest := []) (k := h) Cx (s_X0_copy l G S (o := h) (a := b) hI hh hbb) (c_X0_72 Cx rfl rfl (rmk_ok (by omega) (by decide))) hW (big_l hh) hh rfl rfl hl.1 rfl (Nat.le_of_ble_eq_true rfl) dX0_divideLong_44 ⟨Nat.le_of_ble_eq_true rfl, Nat.le_of_ble_eq_true rfl⟩) hL (fun u_10 H locs k_11 hW hL => ?_)
      obtain ⟨iu_10, fu_10, xu_10⟩ := k_11
      have F_12 := (Fr.rf : Fr S S (pD o q h)).trans (fu_10.to (pB_sub (pD_3 pB_0) (pD_3 pB_1)))
      have etop : u_10.2.1 (h + 1) (u_10.1 h 1 - 1) = S.2.1 (b + 1) (S.1 b 1 - 1) := by rw [xu_10.1]; exact xu_10.2.2 _ (by omega) (by omega)
      have eVb : V (u_10.2.1 (h + 1)) 0 (u_10.1 h 1).toNat = VR S b := by unfold VR; rw [xu_10.1]; exact V_cg (fun i i0 i1 => xu_10.2.2 (0 + i) (by omega) (by omega))
      have ec : u_10.1 h 1 = S.1 b 1 := xu_10.1
      refine lv_aload_n hx hb dX0_divideLong_47 rfl (lv_at hl 6 rfl) ?_
      refine lv_iload hx hb dX0_divideLong_48 (lv_at hl 0 rfl) ?_
      have q_13 : 0 ≤ u_10.1 h 1 ∧ u_10.1 h 1 ≤ 32 := iu_10.fi h 1 0 (big_lt hh) hh
      refine sBv (sV (As := [.int (iv f)]) (rest := []) (k := h) Cx (t_X0_scale_n l G u_10 (o := h) (f := f) iu_10 hh (by omega) (by omega) (by rw [etop]; exact hkf.2.2.1)) (c_X0_105 Cx rfl rfl (rmk_ok (by omega) (by decide))) hW (big_l hh) hh rfl rfl hl.1 rfl (Nat.le_of_ble_eq_true rfl) dX0_divideLong_50 ⟨Nat.le_of_ble_eq_true rfl, Nat.le_of_ble_eq_true rfl⟩) hL (fun u_14 H locs k_15 hW hL => ?_)
      obtain ⟨iu_14, fu_14, xu_14⟩ := k_15
      have F_16 := F_12.trans (fu_14.to (pB_sub (pD_3 pB_0) (pD_3 pB_1)))
      obtain ⟨hf1, ehf1⟩ : ∃ z : Int → Int, z = u_14.2.1 (h + 1) := ⟨_, rfl⟩
      have hVh : V hf1 0 (S.1 b 1).toNat = f * VR S b := by have e := xu_14.2.1; rw [eVb, ec] at e; rw [ehf1]; exact e
      have hlead : 500000000 ≤ hf1 (S.1 b 1 - 1) := by have e := xu_14.2.2; rw [etop, ec] at e; rw [ehf1]; have := hkf.2.2.2; omega
      refine lv_aload_n hx hb dX0_divideLong_53 rfl (lv_at hl 3 rfl) ?_
      refine lv_iload hx hb dX0_divideLong_54 (lv_at hl 0 rfl) ?_
      have lk_17 : u_14.1 o 1 = S.1 o 1 := ((fu_14 o (pB_no (neD noh) (tau_ne ho (big_row hh).1 (fun h => by cases h)))).1 1).trans ((fu_10 o (pB_no (neD noh) (tau_ne ho (big_row hh).1 (fun h => by cases h)))).1 1)
      refine sBv (sV (As := [.int (iv f)]) (rest := []) (k := o) Cx (t_X0_scale_x l G u_14 (o := o) (f := f) iu_14 ho (by omega) (by omega)) (c_X0_105 Cx rfl rfl (rmk_ok (by omega) (by decide))) hW (big_l ho) ho rfl rfl hl.1 rfl (Nat.le_of_ble_eq_true rfl) dX0_divideLong_56 ⟨Nat.le_of_ble_eq_true rfl, Nat.le_of_ble_eq_true rfl⟩) hL (fun u_18 H locs k_19 hW hL => ?_)
      obtain ⟨iu_18, fu_18, xu_18⟩ := k_19
      have F_20 := F_16.trans (fu_18.to (pB_sub (pD_1 pB_0) (pD_1 pB_1)))
      have hhl0 : u_18.2.1 (h + 1) = hf1 := by rw [ehf1]; exact funext (fun j => (fu_18 (h + 1) (pB_no (tau_ne (big_row hh).1 ho (fun h => by cases h)) (ne1S noh))).2.1 j)
      have eo1 : u_14.1 o 1 = S.1 o 1 := ((fu_14 o (pB_no (neD noh) (tau_ne ho (big_row hh).1 (fun h => by cases h)))).1 1).trans ((fu_10 o (pB_no (neD noh) (tau_ne ho (big_row hh).1 (fun h => by cases h)))).1 1)
      have eS : V (u_14.2.1 (o + 1)) 0 (S.1 o 1).toNat = VR S o := V_cg (fun j _ _ => by have := (fun j => (((fu_14 (o + 1) (pB_no (tau_ne (big_row ho).1 hh (fun h => by cases h)) (ne1 noh))).2.1 j).trans ((fu_10 (o + 1) (pB_no (tau_ne (big_row ho).1 hh (fun h => by cases h)) (ne1 noh))).2.1 j) : u_14.2.1 (o + 1) j = S.2.1 (o + 1) j)) (0 + j); exact this)
      have hVo : V (u_18.2.1 (o + 1)) 0 (S.1 o 1 + 1).toNat = f * VR S o := by have e := xu_18.2; rw [eo1, eS] at e; exact e
      have hbg := VR_ge hI hbb (by omega)
      have hst : V (u_18.2.1 (o + 1)) (S.1 o 1 - S.1 b 1 + 1) (S.1 b 1).toNat < f * VR S b := by have e := kn_start (g := u_18.2.1 (o + 1)) (s := S.2.1 (o + 1)) (f := f) (Vb := VR S b) (len := (S.1 o 1).toNat) (w := (S.1 b 1).toNat) hkf.1 (by omega) (by omega) (fun j _ => (limbR iu_18 ho j).1) (by rw [show (S.1 o 1).toNat + 1 = (S.1 o 1 + 1).toNat by omega]; exact hVo) (VR_lt hI ho) (by rw [show (S.1 b 1).toNat - 1 = (S.1 b 1 - 1).toNat by omega]; exact hbg); rw [show ((S.1 o 1).toNat : Int) - ((S.1 b 1).toNat : Int) + 1 = S.1 o 1 - S.1 b 1 + 1 by omega] at e; exact e
      have hq00 : u_18.1 q 1 = 0 := (((fu_18 q (pB_no (neS noq) (tau_ne hq (big_row ho).1 (fun h => by cases h)))).1 1).trans (((fu_14 q (pB_no (neD nqh) (tau_ne hq (big_row hh).1 (fun h => by cases h)))).1 1).trans ((fu_10 q (pB_no (neD nqh) (tau_ne hq (big_row hh).1 (fun h => by cases h)))).1 1))).trans hq0
      have ho00 : u_18.1 o 1 = S.1 o 1 := (congrFun (congrFun xu_18.1 o) 1).trans eo1
      have ho02 : u_18.1 o 2 = S.1 o 2 := (congrFun (congrFun xu_18.1 o) 2).trans (((fu_14 o (pB_no (neD noh) (tau_ne ho (big_row hh).1 (fun h => by cases h)))).1 2).trans ((fu_10 o (pB_no (neD noh) (tau_ne ho (big_row hh).1 (fun h => by cases h)))).1 2))
      refine lv_iload hx hb dX0_divideLong_59 (lv_at hl 1 rfl) ?_
      refine lv_iload hx hb dX0_divideLong_61 (lv_at hl 2 rfl) ?_
      refine r_isub hx hb dX0_divideLong_63 ?_
      refine lv_istore (lv' := [(7, .int (iv ((S.1 o 1) - (S.1 b 1)))), (6, .int (iv f)), (5, .int (iv (S.1 o 1))), (4, .int (iv (S.1 b 1))), (0, .ref (G.2.2.1 + o)), (1, .ref (G.2.2.1 + b)), (2, .ref (G.2.2.1 + q)), (3, .ref (G.2.2.1 + h))]) hx hb dX0_divideLong_64 hl (by decide) rfl (fun ls hl => ?_)
      have loop_66 : ∀ (fuel : Nat) (S66 : sS) (at0 : Int) (H : Heap) (locs : List Loc) (ls : Array Slot), (at0 + 1).toNat < fuel → (cX G S66 o 0 0) → (Fr S S66 (pD o q h)) → (Fr u_18 S66 (pD o q q)) → (-1 ≤ at0 ∧ at0 ≤ S.1 o 1 - S.1 b 1) → (S66.1 q 1 = 0) → (S66.1 o 1 = S.1 o 1 ∧ S66.1 o 2 = S.1 o 2) → (S66.2.1 (h + 1) = hf1) → (Hd (V (S66.2.1 (o + 1)) (at0 + 1) (S.1 b 1).toNat < V hf1 0 (S.1 b 1).toNat)) → (Hd (f * VR S o = V (S66.2.1 (q + 1)) (at0 + 1) (S.1 o 1 - S.1 b 1 - at0).toNat * pw (at0 + 1).toNat * V hf1 0 (S.1 b 1).toNat + V (S66.2.1 (o + 1)) 0 (at0 + 1 + S.1 b 1).toNat)) → sW G 294 S66 H → sL G locs → lv_has ls 8 [(7, .int (iv at0)), (6, .int (iv f)), (5, .int (iv (S.1 o 1))), (4, .int (iv (S.1 b 1))), (0, .ref (G.2.2.1 + o)), (1, .ref (G.2.2.1 + b)), (2, .ref (G.2.2.1 + q)), (3, .ref (G.2.2.1 + h))] → W p l e (rmk 3 0 0) s m args below meth c H locs 0 0 (MQ below (sQv G 294 (fun u => cX G u 0 0 0 ∧ Fr S u (pD o q h) ∧ (u.1 o 1 ≤ S.1 o 1 ∧ u.1 q 1 ≤ S.1 o 1 ∧ 0 ≤ u.1 q 2 ∧ (u.1 o 2 = S.1 o 2 ∨ u.1 o 2 = 0) ∧ Hd (S.1 o 1 ≤ 31 → 2 ≤ S.1 b 1 → VR u o < VR S b) ∧ Hd (S.1 o 1 ≤ 31 → 2 ≤ S.1 b 1 → VR S o = VR u q * VR S b + VR u o ∧ bs u q ∧ (u.1 o 1 = 0 → u.1 o 2 = 0) ∧ (u.1 o 1 ≠ 0 → u.1 o 2 = S.1 o 2))))) args s 0 0 (sF G)) (F0 m 66 ls []) := by
        intro fuel
        induction fuel with
        | zero => intro S66 at0 H locs ls hmeas hI66 hFm66 hL66_ hat hq66 ho66 hhl hV66 hN66 hW hL hl; exact absurd hmeas (Nat.not_lt_zero _)
        | succ fuel ih_66 =>
          intro S66 at0 H locs ls hmeas hI66 hFm66 hL66_ hat hq66 ho66 hhl hV66 hN66 hW hL hl
          refine lv_iload hx hb dX0_divideLong_66 (lv_at hl 0 rfl) ?_
          refine r_if_lt (tgt := 93) hx hb ⟨(by omega), (by omega)⟩ dX0_divideLong_68 (by decide) (fun c_21 => ?_) (fun c_21 => ?_)
          · have j_22 := hI66.exB2 ho q
            refine lv_aload_n hx hb dX0_divideLong_93 rfl (lv_at hl 6 rfl) ?_
            refine lv_iload hx hb dX0_divideLong_94 (lv_at hl 2 rfl) ?_
            refine lv_iload hx hb dX0_divideLong_96 (lv_at hl 3 rfl) ?_
            refine r_isub hx hb dX0_divideLong_98 ?_
            refine lv_iconst (v := iv 1) hx hb dX0_divideLong_99 (by decide) ?_
            refine r_iadd hx hb dX0_divideLong_100 ?_
            refine p_X0_24 Cx hW hL (k := q) (big_l hq) hq dX0_divideLong_101 (fun H locs hW hL => ?_)
            have F_23 : Fr S (uF S66 q 1 (((S.1 o 1) - (S.1 b 1)) + 1)) (pD o q h) := hFm66.F (pD_2 pB_0)
            have F_24 : Fr u_18 (uF S66 q 1 (((S.1 o 1) - (S.1 b 1)) + 1)) (pD o q q) := hL66_.F (pD_3 pB_0)
            have i_25 : cX G (uF S66 q 1 (((S.1 o 1) - (S.1 b 1)) + 1)) (o + 1000 * q) 0 0 := j_22.cnt (exq_2 ho) hq ⟨by omega, by omega⟩
            refine lv_aload_n hx hb dX0_divideLong_104 rfl (lv_at hl 6 rfl) ?_
            refine lv_iconst (v := iv 1) hx hb dX0_divideLong_105 (by decide) ?_
            refine p_X0_34 Cx hW hL (k := q) (big_l hq) hq dX0_divideLong_106 (fun H locs hW hL => ?_)
            have F_26 : Fr S (uF (uF S66 q 1 (((S.1 o 1) - (S.1 b 1)) + 1)) q 2 1) (pD o q h) := F_23.F (pD_2 pB_0)
            have F_27 : Fr u_18 (uF (uF S66 q 1 (((S.1 o 1) - (S.1 b 1)) + 1)) q 2 1) (pD o q q) := F_24.F (pD_3 pB_0)
            have i_28 : cX G (uF (uF S66 q 1 (((S.1 o 1) - (S.1 b 1)) + 1)) q 2 1) (o + 1000 * q) 0 0 := i_25.F hq rfl (show (-1) ≤ 1 ∧ 1 ≤ 1 from ⟨by omega, by omega⟩)
            refine lv_aload_n hx hb dX0_divideLong_109 rfl (lv_at hl 6 rfl) ?_
            refine sBv (sV (As := []) (rest := []) (k := q) Cx (b_X0_trim_2 l G (uF (uF S66 q 1 (((S.1 o 1) - (S.1 b 1)) + 1)) q 2 1) (o := q) (z := o) i_28 hq ho (neD noq)) (c_X0_59 Cx rfl rfl (rmk_ok (by omega) (by decide))) hW (big_l hq) hq rfl rfl hl.1 rfl (Nat.le_of_ble_eq_true rfl) dX0_divideLong_110 ⟨Nat.le_of_ble_eq_true rfl, Nat.le_of_ble_eq_true rfl⟩) hL (fun u_29 H locs k_30 hW hL => ?_)
            obtain ⟨iu_29, fu_29, xu_29⟩ := k_30
            have F_31 := F_26.trans (fu_29.to (pB_sub (pD_2 pB_0) (pD_2 pB_1)))
            have F_32 := F_27.trans (fu_29.to (pB_sub (pD_3 pB_0) (pD_3 pB_1)))
            have hq110 := xu_29
            refine lv_aload_n hx hb dX0_divideLong_113 rfl (lv_at hl 4 rfl) ?_
            refine lv_iload hx hb dX0_divideLong_114 (lv_at hl 3 rfl) ?_
            refine p_X0_24 Cx hW hL (k := o) (big_l ho) ho dX0_divideLong_116 (fun H locs hW hL => ?_)
            have F_33 : Fr S (uF u_29 o 1 (S.1 b 1)) (pD o q h) := F_31.F (pD_1 pB_0)
            have F_34 : Fr u_18 (uF u_29 o 1 (S.1 b 1)) (pD o q q) := F_32.F (pD_1 pB_0)
            have i_35 : cX G (uF u_29 o 1 (S.1 b 1)) o 0 0 := iu_29.cnt (exq_s ho) ho ⟨by omega, by omega⟩
            refine lv_aload_n hx hb dX0_divideLong_119 rfl (lv_at hl 4 rfl) ?_
            have lk_36 : (uF u_29 o 1 (S.1 b 1)).1 o 1 = S.1 b 1 := uF_on
            have q_37 : (-1) ≤ S66.1 o 2 ∧ S66.1 o 2 ≤ 1 := j_22.fi o 2 0 (big_lt ho) ho
            have lk_38 : (uF u_29 o 1 (S.1 b 1)).1 o 2 = S66.1 o 2 := (uF_ne (fun h => absurd h.2 (by decide))).trans (((fu_29 o (pB_no (neD noq) (tau_ne ho (big_row hq).1 (fun h => by cases h)))).1 2).trans ((uF_ne (fun h => absurd h.1 (neD noq))).trans (uF_ne (fun h => absurd h.2 (by decide)))))
            refine sBv (sV (As := []) (rest := []) (k := o) Cx (s_X0_trim l G (uF u_29 o 1 (S.1 b 1)) (o := o) i_35 ho) (c_X0_59 Cx rfl rfl (rmk_ok (by omega) (by decide))) hW (big_l ho) ho rfl rfl hl.1 rfl (Nat.le_of_ble_eq_true rfl) dX0_divideLong_120 ⟨Nat.le_of_ble_eq_true rfl, Nat.le_of_ble_eq_true rfl⟩) hL (fun u_39 H locs k_40 hW hL => ?_)
            obtain ⟨iu_39, fu_39, xu_39⟩ := k_40
            have F_41 := F_33.trans (fu_39.to (pB_sub (pD_1 pB_0) (pD_1 pB_1)))
            have F_42 := F_34.trans (fu_39.to (pB_sub (pD_1 pB_0) (pD_1 pB_1)))
            have ho120 := xu_39
            refine lv_aload_n hx hb dX0_divideLong_123 rfl (lv_at hl 4 rfl) ?_
            refine lv_iload hx hb dX0_divideLong_124 (lv_at hl 1 rfl) ?_
            have q_43 : 0 ≤ u_39.1 o 1 ∧ u_39.1 o 1 ≤ 32 := iu_39.fi o 1 0 (big_lt ho) ho
            have q_44 : (-1) ≤ u_39.1 o 2 ∧ u_39.1 o 2 ≤ 1 := iu_39.fi o 2 0 (big_lt ho) ho
            refine sBi (sV (As := [.int (iv f)]) (rest := []) (k := o) Cx (b_X0_reduce l G u_39 (o := o) (y := f) iu_39 ho (by omega)) (c_X0_91 Cx rfl rfl (rmk_ok (by omega) (by decide))) hW (big_l ho) ho rfl rfl hl.1 rfl (Nat.le_of_ble_eq_true rfl) dX0_divideLong_126 ⟨Nat.le_of_ble_eq_true rfl, Nat.le_of_ble_eq_true rfl⟩) hL (fun r_47 u_45 H locs k_46 hW hL => ?_)
            obtain ⟨iu_45, fu_45, xu_45⟩ := k_46
            have F_48 := F_41.trans (fu_45.to (pB_sub (pD_1 pB_0) (pD_1 pB_1)))
            have F_49 := F_42.trans (fu_45.to (pB_sub (pD_1 pB_0) (pD_1 pB_1)))
            have ho126 := xu_45
            refine lv_pop hx hb dX0_divideLong_129 rfl ?_
            have q_50 : 0 ≤ u_45.1 o 1 ∧ u_45.1 o 1 ≤ 32 := iu_45.fi o 1 0 (big_lt ho) ho
            have q_51 : 0 ≤ u_29.1 q 1 ∧ u_29.1 q 1 ≤ 32 := iu_29.fi q 1 0 (big_lt hq) hq
            have lk_52 : u_45.1 q 1 = u_29.1 q 1 := ((fu_45 q (pB_no (neS noq) (tau_ne hq (big_row ho).1 (fun h => by cases h)))).1 1).trans (((fu_39 q (pB_no (neS noq) (tau_ne hq (big_row ho).1 (fun h => by cases h)))).1 1).trans (uF_ne (fun h => absurd h.1 (neS noq))))
            have q_53 : (-1) ≤ u_29.1 q 2 ∧ u_29.1 q 2 ≤ 1 := iu_29.fi q 2 0 (big_lt hq) hq
            have lk_54 : u_45.1 q 2 = u_29.1 q 2 := ((fu_45 q (pB_no (neS noq) (tau_ne hq (big_row ho).1 (fun h => by cases h)))).1 2).trans (((fu_39 q (pB_no (neS noq) (tau_ne hq (big_row ho).1 (fun h => by cases h)))).1 2).trans (uF_ne (fun h => absurd h.2 (by decide))))
            have q_55 : (-1) ≤ u_45.1 o 2 ∧ u_45.1 o 2 ≤ 1 := iu_45.fi o 2 0 (big_lt ho) ho
            exact sVret Cx hr hlk hW hL ⟨iu_45, F_48, ⟨by have e1 := ho126.1; have e2 := ho120.1; rw [uF_on] at e2; omega, by have e : u_45.1 q 1 = u_29.1 q 1 := ((fu_45 q (pB_no (neS noq) (tau_ne hq (big_row ho).1 (fun h => by cases h)))).1 1).trans (((fu_39 q (pB_no (neS noq) (tau_ne hq (big_row ho).1 (fun h => by cases h)))).1 1).trans (uF_ne (fun h => absurd h.1 (neS noq)))); have e2 := hq110.1; rw [uF_i (by decide), uF_on] at e2; omega, by have e : u_45.1 q 2 = u_29.1 q 2 := ((fu_45 q (pB_no (neS noq) (tau_ne hq (big_row ho).1 (fun h => by cases h)))).1 2).trans (((fu_39 q (pB_no (neS noq) (tau_ne hq (big_row ho).1 (fun h => by cases h)))).1 2).trans (uF_ne (fun h => absurd h.2 (by decide)))); have e2 := hq110.2.1; rw [uF_on] at e2; omega, by have e2 := ho120.2.1; have e1 := ho126.2.2.2.1; have e3 : (uF u_29 o 1 (S.1 b 1)).1 o 2 = S66.1 o 2 := (uF_ne (fun h => absurd h.2 (by decide))).trans (((fu_29 o (pB_no (neD noq) (tau_ne ho (big_row hq).1 (fun h => by cases h)))).1 2).trans ((uF_ne (fun h => absurd h.1 (neD noq))).trans (uF_ne (fun h => absurd h.2 (by decide))))); have e4 := ho66.2; omega, fun q1 q2 => by have e1 := (ho126.2.2.2.2.1 (by omega)).2; have e2 : V ((uF u_29 o 1 (S.1 b 1)).2.1 (o + 1)) 0 (S.1 b 1).toNat = V ((uF u_29 o 1 (S.1 b 1)).2.1 (o + 1)) 0 (u_39.1 o 1).toNat := VR_trim (by have := iu_39.fi o 1 0 (big_lt ho) ho; exact this.1) (by have e5 := ho120.1; rw [uF_on] at e5; exact e5) (fun j j0 j1 => ho120.2.2.2.2.2.2 j j0 (by rw [uF_on]; exact j1)); have e3 : VR u_39 o = V ((uF u_29 o 1 (S.1 b 1)).2.1 (o + 1)) 0 (S.1 b 1).toNat := (by unfold VR; rw [ho120.2.2.1]; exact e2.symm); have e4 : V ((uF u_29 o 1 (S.1 b 1)).2.1 (o + 1)) 0 (S.1 b 1).toNat = V (S66.2.1 (o + 1)) (at0 + 1) (S.1 b 1).toNat := (by rw [show at0 + 1 = 0 by omega]; exact V_cg (fun j _ _ => by have := (fun j => ((uF_a).trans (((fu_29 (o + 1) (pB_no (tau_ne (big_row ho).1 hq (fun h => by cases h)) (ne1 noq))).2.1 j).trans ((uF_a).trans (uF_a))) : (uF u_29 o 1 (S.1 b 1)).2.1 (o + 1) j = S66.2.1 (o + 1) j)) (0 + j); exact this)); have e6 : V (S66.2.1 (o + 1)) (at0 + 1) (S.1 b 1).toNat < V hf1 0 (S.1 b 1).toNat := hV66; have e7 : f * VR u_45 o < f * VR S b := (by omega); exact Int.lt_of_mul_lt_mul_left e7 (by omega), fun q1 q2 => ⟨by have c1 := hq110.1; rw [uF_i (by decide), uF_on] at c1; have vq : VR u_45 q = V (S66.2.1 (q + 1)) 0 (S.1 o 1 - S.1 b 1 + 1).toNat := ((VR_fr fu_45 (pB_no (neS noq) (tau_ne hq (big_row ho).1 (fun h => by cases h))) (pB_no (tau_ne (big_row hq).1 ho (fun h => by cases h)) (ne1S noq))).trans ((VR_fr fu_39 (pB_no (neS noq) (tau_ne hq (big_row ho).1 (fun h => by cases h))) (pB_no (tau_ne (big_row hq).1 ho (fun h => by cases h)) (ne1S noq))).trans (VR_F (fun h => absurd h.1 (neD noq))))).trans (by unfold VR; rw [hq110.2.2.1]; show V (S66.2.1 (q + 1)) 0 _ = _; exact (VR_trim (by have cu : 0 ≤ u_29.1 q 1 ∧ u_29.1 q 1 ≤ 32 := iu_29.fi q 1 0 (big_lt hq) hq; exact cu.1) (by omega) (fun j j0 j1 => hq110.2.2.2.2.2 j j0 (by rw [uF_i (by decide), uF_on]; omega))).symm); have c2 := ho120.1; rw [uF_on] at c2; have e2 : V ((uF u_29 o 1 (S.1 b 1)).2.1 (o + 1)) 0 (S.1 b 1).toNat = V ((uF u_29 o 1 (S.1 b 1)).2.1 (o + 1)) 0 (u_39.1 o 1).toNat := VR_trim (by have cu : 0 ≤ u_39.1 o 1 ∧ u_39.1 o 1 ≤ 32 := iu_39.fi o 1 0 (big_lt ho) ho; exact cu.1) (by omega) (fun j j0 j1 => ho120.2.2.2.2.2.2 j j0 (by rw [uF_on]; exact j1)); have e3 : VR u_39 o = V ((uF u_29 o 1 (S.1 b 1)).2.1 (o + 1)) 0 (S.1 b 1).toNat := (by unfold VR; rw [ho120.2.2.1]; exact e2.symm); have e4 : V ((uF u_29 o 1 (S.1 b 1)).2.1 (o + 1)) 0 (S.1 b 1).toNat = V (S66.2.1 (o + 1)) (at0 + 1) (S.1 b 1).toNat := (by rw [show at0 + 1 = 0 by omega]; exact V_cg (fun j _ _ => by have := (fun j => ((uF_a).trans (((fu_29 (o + 1) (pB_no (tau_ne (big_row ho).1 hq (fun h => by cases h)) (ne1 noq))).2.1 j).trans ((uF_a).trans (uF_a))) : (uF u_29 o 1 (S.1 b 1)).2.1 (o + 1) j = S66.2.1 (o + 1) j)) (0 + j); exact this)); have r0 := ho126.2.2.2.2.1 (by omega); have ze := dl_fin (f := f) (x := VR u_45 o) (by omega) ho126.2.1 r0.1 (r0.2.trans (e3.trans e4)) (dl_out (by omega) hN66 hVh); rw [← vq] at ze; exact ze, ⟨fun z => by have g1 : u_45.1 q 1 = u_29.1 q 1 := ((fu_45 q (pB_no (neS noq) (tau_ne hq (big_row ho).1 (fun h => by cases h)))).1 1).trans (((fu_39 q (pB_no (neS noq) (tau_ne hq (big_row ho).1 (fun h => by cases h)))).1 1).trans (uF_ne (fun h => absurd h.1 (neS noq)))); have g2 : u_45.1 q 2 = u_29.1 q 2 := ((fu_45 q (pB_no (neS noq) (tau_ne hq (big_row ho).1 (fun h => by cases h)))).1 2).trans (((fu_39 q (pB_no (neS noq) (tau_ne hq (big_row ho).1 (fun h => by cases h)))).1 2).trans (uF_ne (fun h => absurd h.2 (by decide)))); have h2 := hq110.2.2.2.1; have h3 := hq110.2.2.2.2.1; rw [uF_on] at h2; have cu : 0 ≤ u_29.1 q 1 ∧ u_29.1 q 1 ≤ 32 := iu_29.fi q 1 0 (big_lt hq) hq; rw [g1]; rw [g2] at z; by_cases y : u_29.1 q 1 = 0; (exact absurd (h3 y) z); omega, fun z => by have g1 : u_45.1 q 1 = u_29.1 q 1 := ((fu_45 q (pB_no (neS noq) (tau_ne hq (big_row ho).1 (fun h => by cases h)))).1 1).trans (((fu_39 q (pB_no (neS noq) (tau_ne hq (big_row ho).1 (fun h => by cases h)))).1 1).trans (uF_ne (fun h => absurd h.1 (neS noq)))); have g2 : u_45.1 q 2 = u_29.1 q 2 := ((fu_45 q (pB_no (neS noq) (tau_ne hq (big_row ho).1 (fun h => by cases h)))).1 2).trans (((fu_39 q (pB_no (neS noq) (tau_ne hq (big_row ho).1 (fun h => by cases h)))).1 2).trans (uF_ne (fun h => absurd h.2 (by decide)))); have h2 := hq110.2.2.2.1; have h3 := hq110.2.2.2.2.1; rw [uF_on] at h2; have cu : 0 ≤ u_29.1 q 1 ∧ u_29.1 q 1 ≤ 32 := iu_29.fi q 1 0 (big_lt hq) hq; rw [g1]; rw [g2] at z; exact h2 (by omega)⟩, fun z => by have j0 := ho126.2.2.2.2.2 (by omega); have j1 := ho126.1; have j2 := ho120.2.2.2.2.1; have j3 : (uF u_29 o 1 (S.1 b 1)).1 o 2 = S66.1 o 2 := (uF_ne (fun h => absurd h.2 (by decide))).trans (((fu_29 o (pB_no (neD noq) (tau_ne ho (big_row hq).1 (fun h => by cases h)))).1 2).trans ((uF_ne (fun h => absurd h.1 (neD noq))).trans (uF_ne (fun h => absurd h.2 (by decide))))); have j4 := ho66.2; have cu : 0 ≤ u_45.1 o 1 ∧ u_45.1 o 1 ≤ 32 := iu_45.fi o 1 0 (big_lt ho) ho; exact j0.1 z, fun z => by have j0 := ho126.2.2.2.2.2 (by omega); have j1 := ho126.1; have j2 := ho120.2.2.2.2.1; have j3 : (uF u_29 o 1 (S.1 b 1)).1 o 2 = S66.1 o 2 := (uF_ne (fun h => absurd h.2 (by decide))).trans (((fu_29 o (pB_no (neD noq) (tau_ne ho (big_row hq).1 (fun h => by cases h)))).1 2).trans ((uF_ne (fun h => absurd h.1 (neD noq))).trans (uF_ne (fun h => absurd h.2 (by decide))))); have j4 := ho66.2; have cu : 0 ≤ u_45.1 o 1 ∧ u_45.1 o 1 ≤ 32 := iu_45.fi o 1 0 (big_lt ho) ho; rw [j0.2 z]; by_cases y : u_39.1 o 2 = (uF u_29 o 1 (S.1 b 1)).1 o 2; (rw [y]; omega); (have := j2 y; exfalso; omega)⟩⟩⟩ dX0_divideLong_130
          · refine lv_aload_n hx hb dX0_divideLong_71 rfl (lv_at hl 6 rfl) ?_
            refine g_X0_9 Cx hW (k := q) (big_l hq) hq (v := .ref (G.2.2.1 + (q + 1))) (hI66.rq.1 q hq) dX0_divideLong_72 ?_
            refine lv_iload hx hb dX0_divideLong_75 (lv_at hl 0 rfl) ?_
            refine lv_aload_n hx hb dX0_divideLong_77 rfl (lv_at hl 4 rfl) ?_
            refine lv_iload hx hb dX0_divideLong_78 (lv_at hl 0 rfl) ?_
            refine lv_aload_n hx hb dX0_divideLong_80 rfl (lv_at hl 7 rfl) ?_
            refine lv_iload hx hb dX0_divideLong_81 (lv_at hl 3 rfl) ?_
            refine sBi (sV (As := [.int (iv at0), .ref (G.2.2.1 + h), .int (iv (S.1 b 1))]) (rest := [.int (iv at0), .ref (G.2.2.1 + (q + 1))]) (k := o) Cx (b_X0_digitAt l G S66 (o := o) (a := at0) (h := h) (w := S.1 b 1) hI66 ho hh (neD noh) (by omega) (by rw [hhl]; exact hlead) (by rw [hhl, V_frontI (by omega)]; have e1 := hV66; have e2 := limbR hI66 ho at0; have e3 : V (S66.2.1 (o + 1)) (at0 + 1) (S.1 b 1).toNat < V hf1 0 (S.1 b 1).toNat := e1; omega)) (c_X0_109 Cx rfl rfl (rmk_ok (by omega) (by decide))) hW (big_l ho) ho rfl rfl hl.1 rfl (Nat.le_of_ble_eq_true rfl) dX0_divideLong_83 ⟨Nat.le_of_ble_eq_true rfl, Nat.le_of_ble_eq_true rfl⟩) hL (fun r_58 u_56 H locs k_57 hW hL => ?_)
            obtain ⟨iu_56, fu_56, xu_56⟩ := k_57
            have F_59 := hFm66.trans (fu_56.to (pB_sub (pD_1 pB_0) (pD_1 pB_1)))
            have F_60 := hL66_.trans (fu_56.to (pB_sub (pD_1 pB_0) (pD_1 pB_1)))
            have hq1 : u_56.1 q 1 = 0 := by rw [xu_56.2.2.1]; exact hq66
            have ho1 : u_56.1 o 1 = S.1 o 1 ∧ u_56.1 o 2 = S.1 o 2 := by rw [xu_56.2.2.1]; exact ho66
            have hh1 : u_56.2.1 (h + 1) = hf1 := (funext (fun j => (fu_56 (h + 1) (pB_no (tau_ne (big_row hh).1 ho (fun h => by cases h)) (ne1S noh))).2.1 j)).trans hhl
            have hV1 : V (u_56.2.1 (o + 1)) at0 (S.1 b 1).toNat < V hf1 0 (S.1 b 1).toNat := by have e := xu_56.2.2.2.2.1; rw [hhl] at e; exact e
            have hd83 : V (S66.2.1 (o + 1)) at0 (S.1 b 1 + 1).toNat = r_58 * V hf1 0 (S.1 b 1).toNat + V (u_56.2.1 (o + 1)) at0 (S.1 b 1).toNat := by have e := xu_56.2.2.2.2.2.2; rw [hhl] at e; exact e
            refine rIast Cx hW hL (k := q + 1) (big_l1 hq) (big_row hq).1 (by decide) (by omega) (by omega) dX0_divideLong_86 (fun H locs hW hL => ?_)
            have F_61 : Fr S (uA u_56 (q + 1) at0 r_58) (pD o q h) := F_59.A (pD_2 pB_1)
            have F_62 : Fr u_18 (uA u_56 (q + 1) at0 r_58) (pD o q q) := F_60.A (pD_3 pB_1)
            have i_63 : cX G (uA u_56 (q + 1) at0 r_58) o 0 0 := iu_56.limb (Or.inr hq1) hq ⟨(by omega), (by omega)⟩
            refine lv_iinc (v := iv (at0 + (-1))) (lv' := [(7, .int (iv (at0 + (-1)))), (6, .int (iv f)), (5, .int (iv (S.1 o 1))), (4, .int (iv (S.1 b 1))), (0, .ref (G.2.2.1 + o)), (1, .ref (G.2.2.1 + b)), (2, .ref (G.2.2.1 + q)), (3, .ref (G.2.2.1 + h))]) hx hb dX0_divideLong_87 hl (k := 0) rfl ((Int32.ofInt_add _ _).symm) (by decide) rfl (fun ls hl => ?_)
            refine lv_goto (tgt := 66) hx hb dX0_divideLong_90 (by decide) ?_
            have q_64 : 0 ≤ S66.1 q 1 ∧ S66.1 q 1 ≤ 32 := hI66.fi q 1 0 (big_lt hq) hq
            have lk_65 : (uA u_56 (q + 1) at0 r_58).1 q 1 = S66.1 q 1 := (uA_f).trans ((fu_56 q (pB_no (neS noq) (tau_ne hq (big_row ho).1 (fun h => by cases h)))).1 1)
            have q_66 : 0 ≤ u_56.1 o 1 ∧ u_56.1 o 1 ≤ 32 := iu_56.fi o 1 0 (big_lt ho) ho
            have lk_67 : (uA u_56 (q + 1) at0 r_58).1 o 1 = u_56.1 o 1 := uA_f
            have q_68 : (-1) ≤ u_56.1 o 2 ∧ u_56.1 o 2 ≤ 1 := iu_56.fi o 2 0 (big_lt ho) ho
            have lk_69 : (uA u_56 (q + 1) at0 r_58).1 o 2 = u_56.1 o 2 := uA_f
            exact ih_66 (uA u_56 (q + 1) at0 r_58) (at0 + (-1)) _ _ _ (by omega) i_63 F_61 F_62 (by omega) hq1 ho1 ((funext (fun j => uA_ne (fun z => absurd z.1 (ne1S nqh)))).trans hh1) (show _ < _ by rw [show at0 + -1 + 1 = at0 by omega, show V ((uA u_56 (q + 1) at0 _).2.1 (o + 1)) at0 (S.1 b 1).toNat = V (u_56.2.1 (o + 1)) at0 (S.1 b 1).toNat from V_cg (fun j _ _ => uA_ne (fun z => absurd z.1 (ne1 noq)))]; exact hV1) (dl_st (by omega) (by omega) hN66 hd83 (funext (fun j => uA_ne (fun z => absurd z.1 (ne1 noq)))) (fun j a => xu_56.2.2.2.2.2.1 j (Or.inl a)) (fun j a => (uA_ne (by omega)).trans ((fu_56 (q + 1) (pB_no (tau_ne (big_row hq).1 ho (fun h => by cases h)) (ne1S noq))).2.1 j)) uA_on (by omega)) hW hL (lv_sub hl [0, 1, 2, 3, 4, 5, 6, 7] rfl)
      have q_70 : 0 ≤ S.1 q 1 ∧ S.1 q 1 ≤ 32 := hI.fi q 1 0 (big_lt hq) hq
      have lk_71 : u_18.1 q 1 = S.1 q 1 := ((fu_18 q (pB_no (neS noq) (tau_ne hq (big_row ho).1 (fun h => by cases h)))).1 1).trans (((fu_14 q (pB_no (neD nqh) (tau_ne hq (big_row hh).1 (fun h => by cases h)))).1 1).trans ((fu_10 q (pB_no (neD nqh) (tau_ne hq (big_row hh).1 (fun h => by cases h)))).1 1))
      have q_72 : 0 ≤ u_18.1 o 1 ∧ u_18.1 o 1 ≤ 32 := iu_18.fi o 1 0 (big_lt ho) ho
      have q_73 : (-1) ≤ u_18.1 o 2 ∧ u_18.1 o 2 ≤ 1 := iu_18.fi o 2 0 (big_lt ho) ho
      exact loop_66 (_ + 1) u_18 ((S.1 o 1) - (S.1 b 1)) _ _ _ (Nat.lt_succ_self _) iu_18 F_20 Fr.rf (by omega) hq00 ⟨ho00, ho02⟩ hhl0 (show _ < _ by rw [hVh]; exact hst) (dl_in (by omega) hVo) hW hL (lv_sub hl [0, 1, 2, 3, 4, 5, 6, 7] rfl)
    · have q_74 : 0 ≤ S.1 q 1 ∧ S.1 q 1 ≤ 32 := hI.fi q 1 0 (big_lt hq) hq
      have q_75 : (-1) ≤ S.1 q 2 ∧ S.1 q 2 ≤ 1 := hI.fi q 2 0 (big_lt hq) hq
      have q_76 : (-1) ≤ S.1 o 2 ∧ S.1 o 2 ≤ 1 := hI.fi o 2 0 (big_lt ho) ho
      exact sVret Cx hr hlk hW hL ⟨hI, (Fr.rf : Fr S S (pD o q h)), ⟨by omega, by omega, by omega, by omega, fun q1 q2 => absurd q1 (by omega), fun q1 q2 => absurd q1 (by omega)⟩⟩ dX0_divideLong_25
