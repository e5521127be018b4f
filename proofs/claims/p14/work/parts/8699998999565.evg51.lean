theorem mdl_oHE {o : Nat} (m : mdl o) : (pH o = false ∧ pE o = false) ∧ (pH (o + 2) = false ∧ pE (o + 2) = false) ∧ pH (o + 1) = false ∧ pE (o + 1) = false := by
  have a : ∀ o, o < 231 → tau o = .inl 3 → (pH o = false ∧ pE o = false) ∧ (pH (o + 2) = false ∧ pE (o + 2) = false) ∧ pH (o + 1) = false ∧ pE (o + 1) = false := by decide +kernel
  exact a o (mdl_k m) m.1
theorem XAc.md {S : sS} {o : Nat} {X : sX} (h : XAc S o 1 X) : MDv S o (S.1 o 2) (S.1 o 3) (S.1 o 4) X.1 X.2 := ⟨rfl, rfl, rfl, fun k j a b c d => by rw [show k * 13 + j = 13 * k + j by omega]; exact h.2.1 rfl k j a b c d, fun j a b => h.2.2 j a b⟩
set_option maxRecDepth 100000 in
set_option maxHeartbeats 4000000 in
theorem f_X3_wholes (l : Launch) (G : sG) (S : sS) {o : Nat} (hI : cX G S 0 0 0) (hm : mdl o) : Met l yX3_wholes (.code yX3_wholes cX3_wholes 3 (some .int) :: tb) (rmk 1 0 0) (sPc G 294 S [.ref (G.2.2.1 + o)]) (sQi G 294 (fun r u => u = S ∧ ((0 ≤ r ∧ r ≤ 12) ∧ r = wsm (S.2.1 (o + 2)) (S.1 o 2).toNat))) 0 0 (sF G) := by
  refine sEnter (by decide) (Nat.le_of_ble_eq_true rfl) ?_
  intro p e s m args below meth c Cx hr hlk hnm hW ls hl
  have Cx : sC G p m c cX3_wholes 3 s args RX3 := Cx
  obtain ⟨hx, hb, hml, hown, hts⟩ := id Cx.1
  have hL : sL G [] := sL_nil
  have hl : lv_has ls 3 [(0, .ref (G.2.2.1 + o))] := hl
  have hW0 := hW
  have q_1 : 0 ≤ S.1 o 2 ∧ S.1 o 2 ≤ 12 := hI.fi o 2 3 (mdl_k hm) hm.1
  refine lv_iconst (v := iv 0) hx hb dX3_wholes_0 (by decide) ?_
  refine lv_istore_n (lv' := [(1, .int (iv 0)), (0, .ref (G.2.2.1 + o))]) hx hb dX3_wholes_1 rfl hl (by decide) rfl (fun ls hl => ?_)
  refine lv_iconst (v := iv 1) hx hb dX3_wholes_2 (by decide) ?_
  refine lv_istore_n (lv' := [(2, .int (iv 1)), (1, .int (iv 0)), (0, .ref (G.2.2.1 + o))]) hx hb dX3_wholes_3 rfl hl (by decide) rfl (fun ls hl => ?_)
  have loop_4 : ∀ (fuel : Nat) (j : Int) (f : Int) (H : Heap) (locs : List Loc) (ls : Array Slot), (13 - j).toNat < fuel → (1 ≤ j ∧ j ≤ 13 ∧ j ≤ S.1 o 2 + 1) → (0 ≤ f ∧ f < j) → (Hd (f = wsm (S.2.1 (o + 2)) (j - 1).toNat)) → sW G 294 S H → sL G locs → lv_has ls 3 [(2, .int (iv j)), (1, .int (iv f)), (0, .ref (G.2.2.1 + o))] → W p l e (rmk 1 0 0) s m args below meth c H locs 0 0 (MQ below (sQi G 294 (fun r u => u = S ∧ ((0 ≤ r ∧ r ≤ 12) ∧ r = wsm (S.2.1 (o + 2)) (S.1 o 2).toNat))) args s 0 0 (sF G)) (F0 m 4 ls []) := by
    intro fuel
    induction fuel with
    | zero => intro j f H locs ls hmeas hj hf hw hW hL hl; exact absurd hmeas (Nat.not_lt_zero _)
    | succ fuel ih_4 =>
      intro j f H locs ls hmeas hj hf hw hW hL hl
      refine lv_iload_n hx hb dX3_wholes_4 rfl (lv_at hl 0 rfl) ?_
      refine lv_aload_n hx hb dX3_wholes_5 rfl (lv_at hl 2 rfl) ?_
      refine g_X3_19 Cx hW (k := o) (mdl_l hm) hm.1 (v := S.1 o 2) rfl dX3_wholes_6 ?_
      refine r_icmp_gt (tgt := 30) hx hb ⟨(by omega), (by omega)⟩ ⟨(by omega), (by omega)⟩ dX3_wholes_9 (by decide) (fun c_2 => ?_) (fun c_2 => ?_)
      · refine lv_iload_n hx hb dX3_wholes_30 rfl (lv_at hl 1 rfl) ?_
        exact sIret Cx hr hlk hW hL ⟨rfl, ⟨(by omega), (by rw [show S.1 o 2 = j - 1 by omega]; exact hw)⟩⟩ dX3_wholes_31
      · refine lv_aload_n hx hb dX3_wholes_12 rfl (lv_at hl 2 rfl) ?_
        refine g_X3_15 Cx hW (k := o) (mdl_l hm) hm.1 (v := .ref (G.2.2.1 + (o + 2))) (hI.rq.2.2 o (mdl_k hm) hm.1).2 dX3_wholes_13 ?_
        refine lv_iload_n hx hb dX3_wholes_16 rfl (lv_at hl 0 rfl) ?_
        refine rZald Cx hW (k := o + 2) (mdl_l2 hm) hm.2.2.1 (by decide) (by omega) (by omega) dX3_wholes_17 ?_
        have q_3 : 0 ≤ S.2.1 (o + 2) j ∧ S.2.1 (o + 2) j ≤ 1 := mdl_r2 hm hI j 
        refine r_i (b := S.2.1 (o + 2) j) rfl ?_
        refine r_if_eq (tgt := 24) hx hb ⟨(by omega), (by omega)⟩ dX3_wholes_18 (by decide) (fun c_4 => ?_) (fun c_4 => ?_)
        · refine lv_iinc (v := iv (j + 1)) (lv' := [(2, .int (iv (j + 1))), (1, .int (iv f)), (0, .ref (G.2.2.1 + o))]) hx hb dX3_wholes_24 hl (k := 0) rfl ((Int32.ofInt_add _ _).symm) (by decide) rfl (fun ls hl => ?_)
          refine lv_goto (tgt := 4) hx hb dX3_wholes_27 (by decide) ?_
          exact ih_4 (j + 1) f _ _ _ (by omega) (by omega) (by omega) (by have y : f = _ := hw; have z := wsm_st (f := S.2.1 (o + 2)) (j := j) (by omega); show _ = _; rw [z]; omega) hW hL (lv_sub hl [0, 1, 2] rfl)
        · refine lv_iinc (v := iv (f + 1)) (lv' := [(1, .int (iv (f + 1))), (2, .int (iv j)), (0, .ref (G.2.2.1 + o))]) hx hb dX3_wholes_21 hl (k := 1) rfl ((Int32.ofInt_add _ _).symm) (by decide) rfl (fun ls hl => ?_)
          refine lv_iinc (v := iv (j + 1)) (lv' := [(2, .int (iv (j + 1))), (1, .int (iv (f + 1))), (0, .ref (G.2.2.1 + o))]) hx hb dX3_wholes_24 hl (k := 1) rfl ((Int32.ofInt_add _ _).symm) (by decide) rfl (fun ls hl => ?_)
          refine lv_goto (tgt := 4) hx hb dX3_wholes_27 (by decide) ?_
          exact ih_4 (j + 1) (f + 1) _ _ _ (by omega) (by omega) (by omega) (by have y : f = _ := hw; have z := wsm_st (f := S.2.1 (o + 2)) (j := j) (by omega); show _ = _; rw [z]; omega) hW hL (lv_sub hl [0, 1, 2] rfl)
  exact loop_4 (_ + 1) 1 0 _ _ _ (Nat.lt_succ_self _) (by omega) (by omega) (show (0 : Int) = wsm (S.2.1 (o + 2)) (1 - 1 : Int).toNat from rfl) hW hL (lv_sub hl [0, 1, 2] rfl)

set_option maxRecDepth 100000 in
set_option maxHeartbeats 4000000 in
theorem f_X11_size (l : Launch) (G : sG) (S : sS) {k : Int} {y : Nat} (hI : cX G S 0 0 0) (hk : -2147483648 ≤ k ∧ k ≤ 2147483647) (hmy : mdl y) (h5 : S.2.2.2 0 5 = .ref (G.2.2.1 + y)) : Met l yX11_size (.code yX11_size cX11_size 2 (some .int) :: tb) (rmk 2 0 0) (sPc G 294 S [.ref (G.2.2.1 + 0), .int (iv k)]) (sQi G 294 (fun r u => u = S ∧ (Hd ((k < 0 ∨ 3 < k → r = -1) ∧ (0 ≤ k ∧ k ≤ 3 → S.1 0 7 = 0 → r = 0) ∧ (0 ≤ k ∧ k ≤ 3 ∧ S.1 0 7 ≠ 0 → (k = 0 → r = S.1 y 2) ∧ (k = 1 → r = S.1 y 3) ∧ (k = 2 → r = wsm (S.2.1 (y + 2)) (S.1 y 2).toNat) ∧ (k = 3 → r = S.1 y 4)))))) 0 0 (sF G) := by
  refine sEnter (by decide) (Nat.le_of_ble_eq_true rfl) ?_
  intro p e s m args below meth c Cx hr hlk hnm hW ls hl
  have Cx : sC G p m c cX11_size 2 s args RX11 := Cx
  obtain ⟨hx, hb, hml, hown, hts⟩ := id Cx.1
  have hL : sL G [] := sL_nil
  have hl : lv_has ls 2 [(0, .ref (G.2.2.1 + 0)), (1, .int (iv k))] := hl
  have hW0 := hW
  refine lv_iload_n hx hb dX11_size_0 rfl (lv_at hl 1 rfl) ?_
  refine r_if_lt (tgt := 9) hx hb ⟨(by omega), (by omega)⟩ dX11_size_1 (by decide) (fun c_1 => ?_) (fun c_1 => ?_)
  · refine lv_iconst (v := iv (-1)) hx hb dX11_size_9 (by decide) ?_
    exact sIret Cx hr hlk hW hL ⟨rfl, (by refine ⟨fun _ => ?_, fun _ _ => ?_, fun _ => ⟨fun _ => ?_, fun _ => ?_, fun _ => ?_, fun _ => ?_⟩⟩ <;> omega)⟩ dX11_size_10
  · refine lv_iload_n hx hb dX11_size_4 rfl (lv_at hl 1 rfl) ?_
    refine lv_iconst (v := iv 3) hx hb dX11_size_5 (by decide) ?_
    refine r_icmp_le (tgt := 11) hx hb ⟨(by omega), (by omega)⟩ ⟨(by omega), (by omega)⟩ dX11_size_6 (by decide) (fun c_2 => ?_) (fun c_2 => ?_)
    · refine lv_aload_n hx hb dX11_size_11 rfl (lv_at hl 0 rfl) ?_
      have q_3 : 0 ≤ S.1 0 7 ∧ S.1 0 7 ≤ 1 := hI.fi 0 7 11 (by decide) rfl
      refine g_X11_79 Cx hW (k := 0) (by decide) rfl (v := S.1 0 7) rfl dX11_size_12 ?_
      refine r_if_ne (tgt := 20) hx hb ⟨(by omega), (by omega)⟩ dX11_size_15 (by decide) (fun c_4 => ?_) (fun c_4 => ?_)
      · refine lv_iload_n hx hb dX11_size_20 rfl (lv_at hl 1 rfl) ?_
        by_cases c_5 : k = 0
        · refine lv_tableIn (off := 27) (tgt := 48) hx hb dX11_size_21 (by rw [c_5]; decide) (by rw [c_5]; decide) (by rw [c_5]; decide) (by decide) ?_
          refine lv_aload_n hx hb dX11_size_48 rfl (lv_at hl 0 rfl) ?_
          refine g_X11_24 Cx hW (k := 0) (by decide) rfl (v := .ref (G.2.2.1 + y)) h5 dX11_size_49 ?_
          have q_6 : 0 ≤ S.1 y 2 ∧ S.1 y 2 ≤ 12 := hI.fi y 2 3 (mdl_k hmy) hmy.1
          refine g_X11_86 Cx hW (k := y) (mdl_l hmy) hmy.1 (v := S.1 y 2) rfl dX11_size_52 ?_
          exact sIret Cx hr hlk hW hL ⟨rfl, (by refine ⟨fun _ => ?_, fun _ _ => ?_, fun _ => ⟨fun _ => ?_, fun _ => ?_, fun _ => ?_, fun _ => ?_⟩⟩ <;> omega)⟩ dX11_size_55
        by_cases c_7 : k = 1
        · refine lv_tableIn (off := 35) (tgt := 56) hx hb dX11_size_21 (by rw [c_7]; decide) (by rw [c_7]; decide) (by rw [c_7]; decide) (by decide) ?_
          refine lv_aload_n hx hb dX11_size_56 rfl (lv_at hl 0 rfl) ?_
          refine g_X11_24 Cx hW (k := 0) (by decide) rfl (v := .ref (G.2.2.1 + y)) h5 dX11_size_57 ?_
          have q_8 : 0 ≤ S.1 y 3 ∧ S.1 y 3 ≤ 16 := hI.fi y 3 3 (mdl_k hmy) hmy.1
          refine g_X11_89 Cx hW (k := y) (mdl_l hmy) hmy.1 (v := S.1 y 3) rfl dX11_size_60 ?_
          exact sIret Cx hr hlk hW hL ⟨rfl, (by refine ⟨fun _ => ?_, fun _ _ => ?_, fun _ => ⟨fun _ => ?_, fun _ => ?_, fun _ => ?_, fun _ => ?_⟩⟩ <;> omega)⟩ dX11_size_63
        by_cases c_9 : k = 2
        · refine lv_tableIn (off := 43) (tgt := 64) hx hb dX11_size_21 (by rw [c_9]; decide) (by rw [c_9]; decide) (by rw [c_9]; decide) (by decide) ?_
          refine lv_aload_n hx hb dX11_size_64 rfl (lv_at hl 0 rfl) ?_
          refine g_X11_24 Cx hW (k := 0) (by decide) rfl (v := .ref (G.2.2.1 + y)) h5 dX11_size_65 ?_
          have q_10 : 0 ≤ S.1 y 2 ∧ S.1 y 2 ≤ 12 := hI.fi y 2 3 (mdl_k hmy) hmy.1
          refine sBi (sV (As := []) (rest := []) (k := y) Cx (f_X3_wholes l G S (o := y) hI hmy) (c_X11_92 Cx rfl rfl (rmk_ok (by omega) (by decide))) hW (mdl_l hmy) hmy.1 rfl rfl hl.1 rfl (Nat.le_of_ble_eq_true rfl) dX11_size_68 ⟨Nat.le_of_ble_eq_true rfl, Nat.le_of_ble_eq_true rfl⟩) hL (fun r_13 u_11 H locs k_12 hW hL => ?_)
          obtain ⟨eu_11, xu_11⟩ := k_12
          rw [eu_11] at hW
          exact sIret Cx hr hlk hW hL ⟨rfl, (by have y9 := xu_11.2; refine ⟨fun _ => ?_, fun _ _ => ?_, fun _ => ⟨fun _ => ?_, fun _ => ?_, fun _ => ?_, fun _ => ?_⟩⟩ <;> omega)⟩ dX11_size_71
        refine lv_tableOut (tgt := 72) hx hb dX11_size_21 (by rw [iv_toInt ⟨(by omega), (by omega)⟩]; omega) (by decide) ?_
        refine lv_aload_n hx hb dX11_size_72 rfl (lv_at hl 0 rfl) ?_
        refine g_X11_24 Cx hW (k := 0) (by decide) rfl (v := .ref (G.2.2.1 + y)) h5 dX11_size_73 ?_
        have q_14 : 0 ≤ S.1 y 4 ∧ S.1 y 4 ≤ 1 := hI.fi y 4 3 (mdl_k hmy) hmy.1
        refine g_X11_95 Cx hW (k := y) (mdl_l hmy) hmy.1 (v := S.1 y 4) rfl dX11_size_76 ?_
        refine r_if_eq (tgt := 86) hx hb ⟨(by omega), (by omega)⟩ dX11_size_79 (by decide) (fun c_15 => ?_) (fun c_15 => ?_)
        · refine lv_iconst (v := iv 0) hx hb dX11_size_86 (by decide) ?_
          exact sIret Cx hr hlk hW hL ⟨rfl, (by refine ⟨fun _ => ?_, fun _ _ => ?_, fun _ => ⟨fun _ => ?_, fun _ => ?_, fun _ => ?_, fun _ => ?_⟩⟩ <;> omega)⟩ dX11_size_87
        · refine lv_iconst (v := iv 1) hx hb dX11_size_82 (by decide) ?_
          refine lv_goto (tgt := 87) hx hb dX11_size_83 (by decide) ?_
          exact sIret Cx hr hlk hW hL ⟨rfl, (by refine ⟨fun _ => ?_, fun _ _ => ?_, fun _ => ⟨fun _ => ?_, fun _ => ?_, fun _ => ?_, fun _ => ?_⟩⟩ <;> omega)⟩ dX11_size_87
      · refine lv_iconst (v := iv 0) hx hb dX11_size_18 (by decide) ?_
        exact sIret Cx hr hlk hW hL ⟨rfl, (by refine ⟨fun _ => ?_, fun _ _ => ?_, fun _ => ⟨fun _ => ?_, fun _ => ?_, fun _ => ?_, fun _ => ?_⟩⟩ <;> omega)⟩ dX11_size_19
    · refine lv_iconst (v := iv (-1)) hx hb dX11_size_9 (by decide) ?_
      exact sIret Cx hr hlk hW hL ⟨rfl, (by refine ⟨fun _ => ?_, fun _ _ => ?_, fun _ => ⟨fun _ => ?_, fun _ => ?_, fun _ => ?_, fun _ => ?_⟩⟩ <;> omega)⟩ dX11_size_10

set_option maxRecDepth 100000 in
set_option maxHeartbeats 4000000 in
theorem f_X11_check (l : Launch) (G : sG) (S : sS) {y : Nat} (hI : cX G S 0 0 0) (hmy : mdl y) : Met l yX11_check (.code yX11_check cX11_check 1 (some .int) :: tb) (rmk 10 0 0) (sPc G 294 S [.ref (G.2.2.1 + 0)]) (sQi G 294 (fun r u => cX G u 0 0 0 ∧ Fr S u pZz ∧ (u.1 1 1 = 0 ∧ u.1 0 7 = S.1 0 7 ∧ u.1 0 8 = S.1 0 8 ∧ Hd (OTc S u y ∧ u.2.2.2 0 5 = S.2.2.2 0 5 ∧ u.2.2.2 0 6 = S.2.2.2 0 6)))) 0 0 (sF G) := by
  refine sEnter (by decide) (Nat.le_of_ble_eq_true rfl) ?_
  intro p e s m args below meth c Cx hr hlk hnm hW ls hl
  have Cx : sC G p m c cX11_check 1 s args RX11 := Cx
  obtain ⟨hx, hb, hml, hown, hts⟩ := id Cx.1
  have hL : sL G [] := sL_nil
  have hl : lv_has ls 1 [(0, .ref (G.2.2.1 + 0))] := hl
  have hW0 := hW
  refine lv_aload_n hx hb dX11_check_0 rfl (lv_at hl 0 rfl) ?_
  refine lv_iconst (v := iv 0) hx hb dX11_check_1 (by decide) ?_
  refine p_X11_71 Cx hW hL (k := 0) (by decide) rfl dX11_check_2 (fun H locs hW hL => ?_)
  have F_1 : Fr S (uF S 0 9 0) pZz := (Fr.rf : Fr S S pZz).F rfl
  have i_2 : cX G (uF S 0 9 0) 0 0 0 := hI.F rfl rfl (show (-2147483648) ≤ 0 ∧ 0 ≤ 2147483647 from ⟨by omega, by omega⟩)
  refine lv_aload_n hx hb dX11_check_5 rfl (lv_at hl 0 rfl) ?_
  refine lv_iconst (v := iv (-1)) hx hb dX11_check_6 (by decide) ?_
  refine p_X11_52 Cx hW hL (k := 0) (by decide) rfl dX11_check_7 (fun H locs hW hL => ?_)
  have F_3 : Fr S (uF (uF S 0 9 0) 0 10 ((-1))) pZz := F_1.F rfl
  have i_4 : cX G (uF (uF S 0 9 0) 0 10 ((-1))) 0 0 0 := i_2.F rfl rfl (show (-2147483648) ≤ (-1) ∧ (-1) ≤ 2147483647 from ⟨by omega, by omega⟩)
  refine lv_aload_n hx hb dX11_check_10 rfl (lv_at hl 0 rfl) ?_
  have q_5 : 0 ≤ S.1 0 7 ∧ S.1 0 7 ≤ 1 := hI.fi 0 7 11 (by decide) rfl
  refine g_X11_79 Cx hW (k := 0) (by decide) rfl (v := S.1 0 7) ((uF_ne (fun h => absurd h.2 (by decide))).trans (uF_ne (fun h => absurd h.2 (by decide)))) dX11_check_11 ?_
  refine r_if_ne (tgt := 26) hx hb ⟨(by omega), (by omega)⟩ dX11_check_14 (by decide) (fun c_6 => ?_) (fun c_6 => ?_)
  · refine lv_aload_n hx hb dX11_check_26 rfl (lv_at hl 0 rfl) ?_
    refine lv_aload_n hx hb dX11_check_27 rfl (lv_at hl 0 rfl) ?_
    refine g_X11_48 Cx hW (k := 0) (by decide) rfl (v := .ref (G.2.2.1 + 188)) (rf_0_4 i_4) dX11_check_28 ?_
    refine lv_aload_n hx hb dX11_check_31 rfl (lv_at hl 0 rfl) ?_
    refine g_X11_14 Cx hW (k := 0) (by decide) rfl (v := .ref (G.2.2.1 + 1)) (rf_0_0 i_4) dX11_check_32 ?_
    refine lv_aload_n hx hb dX11_check_35 rfl (lv_at hl 0 rfl) ?_
    obtain ⟨o_7, mo_7, eo_7⟩ := rm_0_5 hI
    refine g_X11_24 Cx hW (k := 0) (by decide) rfl (v := .ref (G.2.2.1 + o_7)) (((uF_r).trans (uF_r)).trans eo_7) dX11_check_36 ?_
    refine sBi (sV (As := [.ref (G.2.2.1 + 1), .ref (G.2.2.1 + o_7)]) (rest := [.ref (G.2.2.1 + 0)]) (k := 188) Cx (z_X1_hold l G (uF (uF S 0 9 0) 0 10 ((-1))) (o := o_7) i_4 mo_7) (c_X11_153 Cx rfl rfl (rmk_ok (by omega) (by decide))) hW (by decide) rfl rfl rfl hl.1 rfl (Nat.le_of_ble_eq_true rfl) dX11_check_39 ⟨Nat.le_of_ble_eq_true rfl, Nat.le_of_ble_eq_true rfl⟩) hL (fun r_10 u_8 H locs k_9 hW hL => ?_)
    obtain ⟨iu_8, fu_8, xu_8⟩ := k_9
    have F_11 := F_3.trans (fu_8.to pEz_Zz)
    refine p_X11_71 Cx hW hL (k := 0) (by decide) rfl dX11_check_42 (fun H locs hW hL => ?_)
    have F_12 : Fr S (uF u_8 0 9 r_10) pZz := F_11.F rfl
    have i_13 : cX G (uF u_8 0 9 r_10) 0 0 0 := iu_8.F rfl rfl (show (-2147483648) ≤ r_10 ∧ r_10 ≤ 2147483647 from ⟨by omega, by omega⟩)
    refine lv_aload_n hx hb dX11_check_45 rfl (lv_at hl 0 rfl) ?_
    refine lv_aload_n hx hb dX11_check_46 rfl (lv_at hl 0 rfl) ?_
    refine g_X11_48 Cx hW (k := 0) (by decide) rfl (v := .ref (G.2.2.1 + 188)) (rf_0_4 i_13) dX11_check_47 ?_
    refine sBi (sV (As := []) (rest := [.ref (G.2.2.1 + 0)]) (k := 188) Cx (s_X1_faultPlace l G (uF u_8 0 9 r_10)  i_13) (c_X11_156 Cx rfl rfl (rmk_ok (by omega) (by decide))) hW (by decide) rfl rfl rfl hl.1 rfl (Nat.le_of_ble_eq_true rfl) dX11_check_50 ⟨Nat.le_of_ble_eq_true rfl, Nat.le_of_ble_eq_true rfl⟩) hL (fun r_16 u_14 H locs k_15 hW hL => ?_)
    obtain ⟨eu_14, xu_14⟩ := k_15
    rw [eu_14] at hW
    refine p_X11_52 Cx hW hL (k := 0) (by decide) rfl dX11_check_53 (fun H locs hW hL => ?_)
    have F_17 : Fr S (uF (uF u_8 0 9 r_10) 0 10 r_16) pZz := F_12.F rfl
    have i_18 : cX G (uF (uF u_8 0 9 r_10) 0 10 r_16) 0 0 0 := i_13.F rfl rfl (show (-2147483648) ≤ r_16 ∧ r_16 ≤ 2147483647 from ⟨by omega, by omega⟩)
    refine lv_aload_n hx hb dX11_check_56 rfl (lv_at hl 0 rfl) ?_
    refine g_X11_14 Cx hW (k := 0) (by decide) rfl (v := .ref (G.2.2.1 + 1)) (rf_0_0 i_18) dX11_check_57 ?_
    refine sBv (sV (As := []) (rest := []) (k := 1) Cx (s_X10_clear l G (uF (uF u_8 0 9 r_10) 0 10 r_16) (o := 1) (N := 30000) i_18 ⟨by decide, rfl, rfl, rfl, rfl, by decide⟩) (c_X11_76 Cx rfl rfl (rmk_ok (by omega) (by decide))) hW (by decide) rfl rfl rfl hl.1 rfl (Nat.le_of_ble_eq_true rfl) dX11_check_60 ⟨Nat.le_of_ble_eq_true rfl, Nat.le_of_ble_eq_true rfl⟩) hL (fun u_19 H locs k_20 hW hL => ?_)
    obtain ⟨iu_19, fu_19, xu_19⟩ := k_20
    have F_21 := F_17.trans (fu_19.to (pB_sub rfl rfl))
    refine lv_aload_n hx hb dX11_check_63 rfl (lv_at hl 0 rfl) ?_
    refine g_X11_71 Cx hW (k := 0) (by decide) rfl (v := r_10) (((fu_19 0 rfl).1 9).trans ((uF_ne (fun h => absurd h.2 (by decide))).trans (uF_on))) dX11_check_64 ?_
    have q_22 : 0 ≤ u_19.1 1 1 ∧ u_19.1 1 1 ≤ 30000 := iu_19.fi 1 1 10 (by decide) rfl
    have lk_23 : u_19.1 0 7 = S.1 0 7 := ((fu_19 0 rfl).1 7).trans ((uF_ne (fun h => absurd h.2 (by decide))).trans ((uF_ne (fun h => absurd h.2 (by decide))).trans (((fu_8 0 rfl).1 7).trans ((uF_ne (fun h => absurd h.2 (by decide))).trans (uF_ne (fun h => absurd h.2 (by decide)))))))
    have q_24 : 0 ≤ S.1 0 8 ∧ S.1 0 8 ≤ 1 := hI.fi 0 8 11 (by decide) rfl
    have lk_25 : u_19.1 0 8 = S.1 0 8 := ((fu_19 0 rfl).1 8).trans ((uF_ne (fun h => absurd h.2 (by decide))).trans ((uF_ne (fun h => absurd h.2 (by decide))).trans (((fu_8 0 rfl).1 8).trans ((uF_ne (fun h => absurd h.2 (by decide))).trans (uF_ne (fun h => absurd h.2 (by decide)))))))
    exact sIret Cx hr hlk hW hL ⟨iu_19, F_21, ⟨(by omega), (show u_19.1 0 7 = S.1 0 7 from ((fu_19 0 rfl).1 7).trans ((uF_ne (fun h => absurd h.2 (by decide))).trans ((uF_ne (fun h => absurd h.2 (by decide))).trans (((fu_8 0 rfl).1 7).trans ((uF_ne (fun h => absurd h.2 (by decide))).trans (uF_ne (fun h => absurd h.2 (by decide)))))))), (show u_19.1 0 8 = S.1 0 8 from ((fu_19 0 rfl).1 8).trans ((uF_ne (fun h => absurd h.2 (by decide))).trans ((uF_ne (fun h => absurd h.2 (by decide))).trans (((fu_8 0 rfl).1 8).trans ((uF_ne (fun h => absurd h.2 (by decide))).trans (uF_ne (fun h => absurd h.2 (by decide)))))))), ⟨(show OTc S u_19 y from ⟨(((fu_19 y (pB_no (tau_ne hmy.1 (rfl : tau 1 = .inl 10) (fun h => by cases h)) (tau_ne hmy.1 (rfl : tau 2 = .inr (.byte, 30000)) (fun h => by cases h)))).1 2).trans ((uF_ne (fun h => absurd h.2 (by decide))).trans ((uF_ne (fun h => absurd h.2 (by decide))).trans (((fu_8 y (mdl_oEz hmy).1).1 2).trans ((uF_ne (fun h => absurd h.2 (by decide))).trans (uF_ne (fun h => absurd h.2 (by decide)))))))), (((fu_19 y (pB_no (tau_ne hmy.1 (rfl : tau 1 = .inl 10) (fun h => by cases h)) (tau_ne hmy.1 (rfl : tau 2 = .inr (.byte, 30000)) (fun h => by cases h)))).1 3).trans ((uF_ne (fun h => absurd h.2 (by decide))).trans ((uF_ne (fun h => absurd h.2 (by decide))).trans (((fu_8 y (mdl_oEz hmy).1).1 3).trans ((uF_ne (fun h => absurd h.2 (by decide))).trans (uF_ne (fun h => absurd h.2 (by decide)))))))), (((fu_19 y (pB_no (tau_ne hmy.1 (rfl : tau 1 = .inl 10) (fun h => by cases h)) (tau_ne hmy.1 (rfl : tau 2 = .inr (.byte, 30000)) (fun h => by cases h)))).1 4).trans ((uF_ne (fun h => absurd h.2 (by decide))).trans ((uF_ne (fun h => absurd h.2 (by decide))).trans (((fu_8 y (mdl_oEz hmy).1).1 4).trans ((uF_ne (fun h => absurd h.2 (by decide))).trans (uF_ne (fun h => absurd h.2 (by decide)))))))), (funext fun x => ((fu_19 (y + 2) (pB_no (tau_ne hmy.2.2.1 (rfl : tau 1 = .inl 10) (fun h => by cases h)) (tau_ne hmy.2.2.1 (rfl : tau 2 = .inr (.byte, 30000)) (fun h => by cases h)))).2.1 x).trans ((uF_a).trans ((uF_a).trans (((fu_8 (y + 2) (mdl_oEz hmy).2.1).2.1 x).trans ((uF_a).trans (uF_a)))))), (funext fun x => ((fu_19 (y + 1) (pB_no (tau_ne hmy.2.1 (rfl : tau 1 = .inl 10) (fun h => by cases h)) (tau_ne hmy.2.1 (rfl : tau 2 = .inr (.byte, 30000)) (fun h => by cases h)))).2.1 x).trans ((uF_a).trans ((uF_a).trans (((fu_8 (y + 1) (mdl_oEz hmy).2.2).2.1 x).trans ((uF_a).trans (uF_a))))))⟩), (show u_19.2.2.2 0 5 = S.2.2.2 0 5 from ((fu_19 0 rfl).2.2.2 5).trans ((uF_r).trans ((uF_r).trans (((fu_8 0 rfl).2.2.2 5).trans ((uF_r).trans (uF_r)))))), (show u_19.2.2.2 0 6 = S.2.2.2 0 6 from ((fu_19 0 rfl).2.2.2 6).trans ((uF_r).trans ((uF_r).trans (((fu_8 0 rfl).2.2.2 6).trans ((uF_r).trans (uF_r))))))⟩⟩⟩ dX11_check_67
  · refine lv_aload_n hx hb dX11_check_17 rfl (lv_at hl 0 rfl) ?_
    refine g_X11_14 Cx hW (k := 0) (by decide) rfl (v := .ref (G.2.2.1 + 1)) (rf_0_0 i_4) dX11_check_18 ?_
    refine sBv (sV (As := []) (rest := []) (k := 1) Cx (s_X10_clear l G (uF (uF S 0 9 0) 0 10 ((-1))) (o := 1) (N := 30000) i_4 ⟨by decide, rfl, rfl, rfl, rfl, by decide⟩) (c_X11_76 Cx rfl rfl (rmk_ok (by omega) (by decide))) hW (by decide) rfl rfl rfl hl.1 rfl (Nat.le_of_ble_eq_true rfl) dX11_check_21 ⟨Nat.le_of_ble_eq_true rfl, Nat.le_of_ble_eq_true rfl⟩) hL (fun u_26 H locs k_27 hW hL => ?_)
    obtain ⟨iu_26, fu_26, xu_26⟩ := k_27
    have F_28 := F_3.trans (fu_26.to (pB_sub rfl rfl))
    refine lv_iconst (v := iv (-1)) hx hb dX11_check_24 (by decide) ?_
    have q_29 : 0 ≤ u_26.1 1 1 ∧ u_26.1 1 1 ≤ 30000 := iu_26.fi 1 1 10 (by decide) rfl
    have lk_30 : u_26.1 0 7 = S.1 0 7 := ((fu_26 0 rfl).1 7).trans ((uF_ne (fun h => absurd h.2 (by decide))).trans (uF_ne (fun h => absurd h.2 (by decide))))
    have q_31 : 0 ≤ S.1 0 8 ∧ S.1 0 8 ≤ 1 := hI.fi 0 8 11 (by decide) rfl
    have lk_32 : u_26.1 0 8 = S.1 0 8 := ((fu_26 0 rfl).1 8).trans ((uF_ne (fun h => absurd h.2 (by decide))).trans (uF_ne (fun h => absurd h.2 (by decide))))
    exact sIret Cx hr hlk hW hL ⟨iu_26, F_28, ⟨(by omega), (show u_26.1 0 7 = S.1 0 7 from ((fu_26 0 rfl).1 7).trans ((uF_ne (fun h => absurd h.2 (by decide))).trans (uF_ne (fun h => absurd h.2 (by decide))))), (show u_26.1 0 8 = S.1 0 8 from ((fu_26 0 rfl).1 8).trans ((uF_ne (fun h => absurd h.2 (by decide))).trans (uF_ne (fun h => absurd h.2 (by decide))))), ⟨(show OTc S u_26 y from ⟨(((fu_26 y (pB_no (tau_ne hmy.1 (rfl : tau 1 = .inl 10) (fun h => by cases h)) (tau_ne hmy.1 (rfl : tau 2 = .inr (.byte, 30000)) (fun h => by cases h)))).1 2).trans ((uF_ne (fun h => absurd h.2 (by decide))).trans (uF_ne (fun h => absurd h.2 (by decide))))), (((fu_26 y (pB_no (tau_ne hmy.1 (rfl : tau 1 = .inl 10) (fun h => by cases h)) (tau_ne hmy.1 (rfl : tau 2 = .inr (.byte, 30000)) (fun h => by cases h)))).1 3).trans ((uF_ne (fun h => absurd h.2 (by decide))).trans (uF_ne (fun h => absurd h.2 (by decide))))), (((fu_26 y (pB_no (tau_ne hmy.1 (rfl : tau 1 = .inl 10) (fun h => by cases h)) (tau_ne hmy.1 (rfl : tau 2 = .inr (.byte, 30000)) (fun h => by cases h)))).1 4).trans ((uF_ne (fun h => absurd h.2 (by decide))).trans (uF_ne (fun h => absurd h.2 (by decide))))), (funext fun x => ((fu_26 (y + 2) (pB_no (tau_ne hmy.2.2.1 (rfl : tau 1 = .inl 10) (fun h => by cases h)) (tau_ne hmy.2.2.1 (rfl : tau 2 = .inr (.byte, 30000)) (fun h => by cases h)))).2.1 x).trans ((uF_a).trans (uF_a))), (funext fun x => ((fu_26 (y + 1) (pB_no (tau_ne hmy.2.1 (rfl : tau 1 = .inl 10) (fun h => by cases h)) (tau_ne hmy.2.1 (rfl : tau 2 = .inr (.byte, 30000)) (fun h => by cases h)))).2.1 x).trans ((uF_a).trans (uF_a)))⟩), (show u_26.2.2.2 0 5 = S.2.2.2 0 5 from ((fu_26 0 rfl).2.2.2 5).trans ((uF_r).trans (uF_r))), (show u_26.2.2.2 0 6 = S.2.2.2 0 6 from ((fu_26 0 rfl).2.2.2 6).trans ((uF_r).trans (uF_r)))⟩⟩⟩ dX11_check_25

set_option maxRecDepth 100000 in
set_option maxHeartbeats 4000000 in
theorem f_X11_tell (l : Launch) (G : sG) (S : sS) {y z : Nat} {b : Int → Int} (hI : cX G S 0 0 0) (hmz : mdl z) (hmy : mdl y) (hny : Hd (y ≠ z)) (h56 : S.2.2.2 0 5 = .ref (G.2.2.1 + y) ∧ S.2.2.2 0 6 = .ref (G.2.2.1 + z)) (hag : Hd (agr (S.2.1 2) b (S.1 1 1))) : Met l yX11_tell (.code yX11_tell cX11_tell 2 (some .int) :: tb) (rmk 136 0 0) (sPc G 294 S [.ref (G.2.2.1 + 0)]) (sQi G 294 (fun r u => cX G u 0 0 0 ∧ Fr S u pZz ∧ (u.1 1 1 = 0 ∧ (0 ≤ r ∧ r ≤ 7) ∧ Hd (r = 0 → (∃ M X, tOX b (S.1 1 1) M X ∧ MSc u z M ∧ XAc u z 1 X) ∧ u.1 0 7 = 1 ∧ u.1 0 8 = 0 ∧ u.2.2.2 0 5 = .ref (G.2.2.1 + z) ∧ u.2.2.2 0 6 = .ref (G.2.2.1 + y)) ∧ Hd (r ≠ 0 → ¬ tOK b (S.1 1 1) ∧ u.1 0 7 = S.1 0 7 ∧ u.1 0 8 = S.1 0 8 ∧ OTc S u y ∧ u.2.2.2 0 5 = S.2.2.2 0 5 ∧ u.2.2.2 0 6 = S.2.2.2 0 6)))) 0 0 (sF G) := by
  refine sEnter (by decide) (Nat.le_of_ble_eq_true rfl) ?_
  intro p e s m args below meth c Cx hr hlk hnm hW ls hl
  have Cx : sC G p m c cX11_tell 2 s args RX11 := Cx
  obtain ⟨hx, hb, hml, hown, hts⟩ := id Cx.1
  have hL : sL G [] := sL_nil
  have hl : lv_has ls 2 [(0, .ref (G.2.2.1 + 0))] := hl
  have hW0 := hW
  have hny1 : y ≠ z := hny
  refine lv_aload_n hx hb dX11_tell_0 rfl (lv_at hl 0 rfl) ?_
  refine lv_aload_n hx hb dX11_tell_1 rfl (lv_at hl 0 rfl) ?_
  refine g_X11_34 Cx hW (k := 0) (by decide) rfl (v := .ref (G.2.2.1 + 11)) (rf_0_2 hI) dX11_tell_2 ?_
  refine lv_aload_n hx hb dX11_tell_5 rfl (lv_at hl 0 rfl) ?_
  refine g_X11_14 Cx hW (k := 0) (by decide) rfl (v := .ref (G.2.2.1 + 1)) (rf_0_0 hI) dX11_tell_6 ?_
  refine lv_aload_n hx hb dX11_tell_9 rfl (lv_at hl 0 rfl) ?_
  refine g_X11_28 Cx hW (k := 0) (by decide) rfl (v := .ref (G.2.2.1 + z)) h56.2 dX11_tell_10 ?_
  have q_1 : 0 ≤ S.1 1 1 ∧ S.1 1 1 ≤ 30000 := hI.fi 1 1 10 (by decide) rfl
  refine sBi (sV (As := [.ref (G.2.2.1 + 1), .ref (G.2.2.1 + z)]) (rest := [.ref (G.2.2.1 + 0)]) (k := 11) Cx (f_X9_read l G S (t := 1) (o := z) (N := 30000) (b := b) hI ⟨by decide, rfl, rfl, rfl, rfl, by decide⟩ hmz hmy hny hag) (c_X11_67 Cx rfl rfl (rmk_ok (by omega) (by decide))) hW (by decide) rfl rfl rfl hl.1 rfl (Nat.le_of_ble_eq_true rfl) dX11_tell_13 ⟨Nat.le_of_ble_eq_true rfl, Nat.le_of_ble_eq_true rfl⟩) hL (fun r_4 u_2 H locs k_3 hW hL => ?_)
  obtain ⟨iu_2, fu_2, xu_2⟩ := k_3
  have F_5 := (Fr.rf : Fr S S pZz).trans (fu_2.to pI_Zz)
  have qu_2 := xu_2.2.2.2
  refine p_X11_71 Cx hW hL (k := 0) (by decide) rfl dX11_tell_16 (fun H locs hW hL => ?_)
  have F_6 : Fr S (uF u_2 0 9 r_4) pZz := F_5.F rfl
  have i_7 : cX G (uF u_2 0 9 r_4) 0 0 0 := iu_2.F rfl rfl (show (-2147483648) ≤ r_4 ∧ r_4 ≤ 2147483647 from ⟨by omega, by omega⟩)
  refine lv_aload_n hx hb dX11_tell_19 rfl (lv_at hl 0 rfl) ?_
  refine lv_aload_n hx hb dX11_tell_20 rfl (lv_at hl 0 rfl) ?_
  refine g_X11_34 Cx hW (k := 0) (by decide) rfl (v := .ref (G.2.2.1 + 11)) (rf_0_2 i_7) dX11_tell_21 ?_
  refine sBi (sV (As := []) (rest := [.ref (G.2.2.1 + 0)]) (k := 11) Cx (s_X9_faultPlace l G (uF u_2 0 9 r_4)  i_7) (c_X11_74 Cx rfl rfl (rmk_ok (by omega) (by decide))) hW (by decide) rfl rfl rfl hl.1 rfl (Nat.le_of_ble_eq_true rfl) dX11_tell_24 ⟨Nat.le_of_ble_eq_true rfl, Nat.le_of_ble_eq_true rfl⟩) hL (fun r_10 u_8 H locs k_9 hW hL => ?_)
  obtain ⟨eu_8, xu_8⟩ := k_9
  rw [eu_8] at hW
  refine p_X11_52 Cx hW hL (k := 0) (by decide) rfl dX11_tell_27 (fun H locs hW hL => ?_)
  have F_11 : Fr S (uF (uF u_2 0 9 r_4) 0 10 r_10) pZz := F_6.F rfl
  have i_12 : cX G (uF (uF u_2 0 9 r_4) 0 10 r_10) 0 0 0 := i_7.F rfl rfl (show (-2147483648) ≤ r_10 ∧ r_10 ≤ 2147483647 from ⟨by omega, by omega⟩)
  refine lv_aload_n hx hb dX11_tell_30 rfl (lv_at hl 0 rfl) ?_
  refine g_X11_14 Cx hW (k := 0) (by decide) rfl (v := .ref (G.2.2.1 + 1)) (rf_0_0 i_12) dX11_tell_31 ?_
  refine sBv (sV (As := []) (rest := []) (k := 1) Cx (s_X10_clear l G (uF (uF u_2 0 9 r_4) 0 10 r_10) (o := 1) (N := 30000) i_12 ⟨by decide, rfl, rfl, rfl, rfl, by decide⟩) (c_X11_76 Cx rfl rfl (rmk_ok (by omega) (by decide))) hW (by decide) rfl rfl rfl hl.1 rfl (Nat.le_of_ble_eq_true rfl) dX11_tell_34 ⟨Nat.le_of_ble_eq_true rfl, Nat.le_of_ble_eq_true rfl⟩) hL (fun u_13 H locs k_14 hW hL => ?_)
  obtain ⟨iu_13, fu_13, xu_13⟩ := k_14
  have F_15 := F_11.trans (fu_13.to (pB_sub rfl rfl))
  refine lv_aload_n hx hb dX11_tell_37 rfl (lv_at hl 0 rfl) ?_
  refine g_X11_71 Cx hW (k := 0) (by decide) rfl (v := r_4) (((fu_13 0 rfl).1 9).trans ((uF_ne (fun h => absurd h.2 (by decide))).trans (uF_on))) dX11_tell_38 ?_
  refine r_if_ne (tgt := 72) hx hb ⟨(by omega), (by omega)⟩ dX11_tell_41 (by decide) (fun c_16 => ?_) (fun c_16 => ?_)
  · refine lv_aload_n hx hb dX11_tell_72 rfl (lv_at hl 0 rfl) ?_
    refine g_X11_71 Cx hW (k := 0) (by decide) rfl (v := r_4) (((fu_13 0 rfl).1 9).trans ((uF_ne (fun h => absurd h.2 (by decide))).trans (uF_on))) dX11_tell_73 ?_
    have q_17 : 0 ≤ u_13.1 1 1 ∧ u_13.1 1 1 ≤ 30000 := iu_13.fi 1 1 10 (by decide) rfl
    have q_18 : 0 ≤ S.1 0 7 ∧ S.1 0 7 ≤ 1 := hI.fi 0 7 11 (by decide) rfl
    have lk_19 : u_13.1 0 7 = S.1 0 7 := ((fu_13 0 rfl).1 7).trans ((uF_ne (fun h => absurd h.2 (by decide))).trans ((uF_ne (fun h => absurd h.2 (by decide))).trans ((fu_2 0 rfl).1 7)))
    have q_20 : 0 ≤ S.1 0 8 ∧ S.1 0 8 ≤ 1 := hI.fi 0 8 11 (by decide) rfl
    have lk_21 : u_13.1 0 8 = S.1 0 8 := ((fu_13 0 rfl).1 8).trans ((uF_ne (fun h => absurd h.2 (by decide))).trans ((uF_ne (fun h => absurd h.2 (by decide))).trans ((fu_2 0 rfl).1 8)))
    exact sIret Cx hr hlk hW hL ⟨iu_13, F_15, ⟨(by omega), (by have y := xu_2.1; omega), (fun h => absurd h (by omega)), (fun _ => ⟨(fun z => absurd (xu_2.2.2.1 z) (by omega)), (show u_13.1 0 7 = S.1 0 7 from ((fu_13 0 rfl).1 7).trans ((uF_ne (fun h => absurd h.2 (by decide))).trans ((uF_ne (fun h => absurd h.2 (by decide))).trans ((fu_2 0 rfl).1 7)))), (show u_13.1 0 8 = S.1 0 8 from ((fu_13 0 rfl).1 8).trans ((uF_ne (fun h => absurd h.2 (by decide))).trans ((uF_ne (fun h => absurd h.2 (by decide))).trans ((fu_2 0 rfl).1 8)))), ⟨(qu_2.tr (show OTc u_2 u_13 y from ⟨(((fu_13 y (pB_no (tau_ne hmy.1 (rfl : tau 1 = .inl 10) (fun h => by cases h)) (tau_ne hmy.1 (rfl : tau 2 = .inr (.byte, 30000)) (fun h => by cases h)))).1 2).trans ((uF_ne (fun h => absurd h.2 (by decide))).trans (uF_ne (fun h => absurd h.2 (by decide))))), (((fu_13 y (pB_no (tau_ne hmy.1 (rfl : tau 1 = .inl 10) (fun h => by cases h)) (tau_ne hmy.1 (rfl : tau 2 = .inr (.byte, 30000)) (fun h => by cases h)))).1 3).trans ((uF_ne (fun h => absurd h.2 (by decide))).trans (uF_ne (fun h => absurd h.2 (by decide))))), (((fu_13 y (pB_no (tau_ne hmy.1 (rfl : tau 1 = .inl 10) (fun h => by cases h)) (tau_ne hmy.1 (rfl : tau 2 = .inr (.byte, 30000)) (fun h => by cases h)))).1 4).trans ((uF_ne (fun h => absurd h.2 (by decide))).trans (uF_ne (fun h => absurd h.2 (by decide))))), (funext fun x => ((fu_13 (y + 2) (pB_no (tau_ne hmy.2.2.1 (rfl : tau 1 = .inl 10) (fun h => by cases h)) (tau_ne hmy.2.2.1 (rfl : tau 2 = .inr (.byte, 30000)) (fun h => by cases h)))).2.1 x).trans ((uF_a).trans (uF_a))), (funext fun x => ((fu_13 (y + 1) (pB_no (tau_ne hmy.2.1 (rfl : tau 1 = .inl 10) (fun h => by cases h)) (tau_ne hmy.2.1 (rfl : tau 2 = .inr (.byte, 30000)) (fun h => by cases h)))).2.1 x).trans ((uF_a).trans (uF_a)))⟩)), (show u_13.2.2.2 0 5 = S.2.2.2 0 5 from ((fu_13 0 rfl).2.2.2 5).trans ((uF_r).trans ((uF_r).trans ((fu_2 0 rfl).2.2.2 5)))), (show u_13.2.2.2 0 6 = S.2.2.2 0 6 from ((fu_13 0 rfl).2.2.2 6).trans ((uF_r).trans ((uF_r).trans ((fu_2 0 rfl).2.2.2 6))))⟩⟩)⟩⟩ dX11_tell_76
  · refine lv_aload_n hx hb dX11_tell_44 rfl (lv_at hl 0 rfl) ?_
    refine g_X11_24 Cx hW (k := 0) (by decide) rfl (v := .ref (G.2.2.1 + y)) ((((fu_13 0 rfl).2.2.2 5).trans ((uF_r).trans ((uF_r).trans ((fu_2 0 rfl).2.2.2 5)))).trans h56.1) dX11_tell_45 ?_
    refine lv_astore_n (lv' := [(1, .ref (G.2.2.1 + y)), (0, .ref (G.2.2.1 + 0))]) hx hb dX11_tell_48 rfl hl (by decide) rfl (fun ls hl => ?_)
    refine lv_aload_n hx hb dX11_tell_49 rfl (lv_at hl 1 rfl) ?_
    refine lv_aload_n hx hb dX11_tell_50 rfl (lv_at hl 1 rfl) ?_
    refine g_X11_28 Cx hW (k := 0) (by decide) rfl (v := .ref (G.2.2.1 + z)) ((((fu_13 0 rfl).2.2.2 6).trans ((uF_r).trans ((uF_r).trans ((fu_2 0 rfl).2.2.2 6)))).trans h56.2) dX11_tell_51 ?_
    refine p_X11_24 Cx hW hL (k := 0) (by decide) rfl dX11_tell_54 (fun H locs hW hL => ?_)
    have F_22 : Fr S (uR u_13 0 5 (.ref (G.2.2.1 + z))) pZz := F_15.R rfl
    refine lv_aload_n hx hb dX11_tell_57 rfl (lv_at hl 1 rfl) ?_
    refine lv_aload_n hx hb dX11_tell_58 rfl (lv_at hl 0 rfl) ?_
    refine p_X11_28 Cx hW hL (k := 0) (by decide) rfl dX11_tell_59 (fun H locs hW hL => ?_)
    have F_23 : Fr S (uR (uR u_13 0 5 (.ref (G.2.2.1 + z))) 0 6 (.ref (G.2.2.1 + y))) pZz := F_22.R rfl
    have i_24 : cX G (uR (uR u_13 0 5 (.ref (G.2.2.1 + z))) 0 6 (.ref (G.2.2.1 + y))) 0 0 0 := iu_13.swapM ((((fu_13 0 rfl).2.2.2 5).trans ((uF_r).trans ((uF_r).trans ((fu_2 0 rfl).2.2.2 5)))).trans h56.1) ((((fu_13 0 rfl).2.2.2 6).trans ((uF_r).trans ((uF_r).trans ((fu_2 0 rfl).2.2.2 6)))).trans h56.2)
    refine lv_aload_n hx hb dX11_tell_62 rfl (lv_at hl 1 rfl) ?_
    refine lv_iconst (v := iv 1) hx hb dX11_tell_63 (by decide) ?_
    refine p_X11_79 Cx hW hL (k := 0) (by decide) rfl (by omega) dX11_tell_64 (fun H locs hW hL => ?_)
    have F_25 : Fr S (uF (uR (uR u_13 0 5 (.ref (G.2.2.1 + z))) 0 6 (.ref (G.2.2.1 + y))) 0 7 1) pZz := F_23.F rfl
    have i_26 : cX G (uF (uR (uR u_13 0 5 (.ref (G.2.2.1 + z))) 0 6 (.ref (G.2.2.1 + y))) 0 7 1) 0 0 0 := i_24.F rfl rfl (show 0 ≤ 1 ∧ 1 ≤ 1 from ⟨by omega, by omega⟩)
    refine lv_aload_n hx hb dX11_tell_67 rfl (lv_at hl 1 rfl) ?_
    refine lv_iconst (v := iv 0) hx hb dX11_tell_68 (by decide) ?_
    refine p_X11_83 Cx hW hL (k := 0) (by decide) rfl (by omega) dX11_tell_69 (fun H locs hW hL => ?_)
    have F_27 : Fr S (uF (uF (uR (uR u_13 0 5 (.ref (G.2.2.1 + z))) 0 6 (.ref (G.2.2.1 + y))) 0 7 1) 0 8 0) pZz := F_25.F rfl
    have i_28 : cX G (uF (uF (uR (uR u_13 0 5 (.ref (G.2.2.1 + z))) 0 6 (.ref (G.2.2.1 + y))) 0 7 1) 0 8 0) 0 0 0 := i_26.F rfl rfl (show 0 ≤ 0 ∧ 0 ≤ 1 from ⟨by omega, by omega⟩)
    refine lv_aload_n hx hb dX11_tell_72 rfl (lv_at hl 1 rfl) ?_
    refine g_X11_71 Cx hW (k := 0) (by decide) rfl (v := r_4) ((uF_ne (fun h => absurd h.2 (by decide))).trans ((uF_ne (fun h => absurd h.2 (by decide))).trans ((uR_f).trans ((uR_f).trans (((fu_13 0 rfl).1 9).trans ((uF_ne (fun h => absurd h.2 (by decide))).trans (uF_on))))))) dX11_tell_73 ?_
    have q_29 : 0 ≤ u_13.1 1 1 ∧ u_13.1 1 1 ≤ 30000 := iu_13.fi 1 1 10 (by decide) rfl
    have lk_30 : (uF (uF (uR (uR u_13 0 5 (.ref (G.2.2.1 + z))) 0 6 (.ref (G.2.2.1 + y))) 0 7 1) 0 8 0).1 1 1 = u_13.1 1 1 := (uF_ne (fun h => absurd h.2 (by decide))).trans ((uF_ne (fun h => absurd h.2 (by decide))).trans ((uR_f).trans (uR_f)))
    have lk_31 : (uF (uF (uR (uR u_13 0 5 (.ref (G.2.2.1 + z))) 0 6 (.ref (G.2.2.1 + y))) 0 7 1) 0 8 0).1 0 7 = 1 := (uF_ne (fun h => absurd h.2 (by decide))).trans (uF_on)
    have lk_32 : (uF (uF (uR (uR u_13 0 5 (.ref (G.2.2.1 + z))) 0 6 (.ref (G.2.2.1 + y))) 0 7 1) 0 8 0).1 0 8 = 0 := uF_on
    exact sIret Cx hr hlk hW hL ⟨i_28, F_27, ⟨(by omega), (by have y := xu_2.1; omega), (fun _ => ⟨(by obtain ⟨M, X, t1, t2, t3⟩ := xu_2.2.1 (by omega); exact ⟨M, X, t1, (by unfold MSc; rw [(show (uF (uF (uR (uR u_13 0 5 (.ref (G.2.2.1 + z))) 0 6 (.ref (G.2.2.1 + y))) 0 7 1) 0 8 0).1 z 2 = u_2.1 z 2 from (uF_ne (fun h => absurd h.2 (by decide))).trans ((uF_ne (fun h => absurd h.2 (by decide))).trans ((uR_f).trans ((uR_f).trans (((fu_13 z (pB_no (tau_ne hmz.1 (rfl : tau 1 = .inl 10) (fun h => by cases h)) (tau_ne hmz.1 (rfl : tau 2 = .inr (.byte, 30000)) (fun h => by cases h)))).1 2).trans ((uF_ne (fun h => absurd h.2 (by decide))).trans (uF_ne (fun h => absurd h.2 (by decide))))))))), (show (uF (uF (uR (uR u_13 0 5 (.ref (G.2.2.1 + z))) 0 6 (.ref (G.2.2.1 + y))) 0 7 1) 0 8 0).1 z 3 = u_2.1 z 3 from (uF_ne (fun h => absurd h.2 (by decide))).trans ((uF_ne (fun h => absurd h.2 (by decide))).trans ((uR_f).trans ((uR_f).trans (((fu_13 z (pB_no (tau_ne hmz.1 (rfl : tau 1 = .inl 10) (fun h => by cases h)) (tau_ne hmz.1 (rfl : tau 2 = .inr (.byte, 30000)) (fun h => by cases h)))).1 3).trans ((uF_ne (fun h => absurd h.2 (by decide))).trans (uF_ne (fun h => absurd h.2 (by decide))))))))), (show (uF (uF (uR (uR u_13 0 5 (.ref (G.2.2.1 + z))) 0 6 (.ref (G.2.2.1 + y))) 0 7 1) 0 8 0).1 z 4 = u_2.1 z 4 from (uF_ne (fun h => absurd h.2 (by decide))).trans ((uF_ne (fun h => absurd h.2 (by decide))).trans ((uR_f).trans ((uR_f).trans (((fu_13 z (pB_no (tau_ne hmz.1 (rfl : tau 1 = .inl 10) (fun h => by cases h)) (tau_ne hmz.1 (rfl : tau 2 = .inr (.byte, 30000)) (fun h => by cases h)))).1 4).trans ((uF_ne (fun h => absurd h.2 (by decide))).trans (uF_ne (fun h => absurd h.2 (by decide))))))))), (show (uF (uF (uR (uR u_13 0 5 (.ref (G.2.2.1 + z))) 0 6 (.ref (G.2.2.1 + y))) 0 7 1) 0 8 0).2.1 (z + 2) = u_2.2.1 (z + 2) from funext fun x => (uF_a).trans ((uF_a).trans ((uR_a).trans ((uR_a).trans (((fu_13 (z + 2) (pB_no (tau_ne hmz.2.2.1 (rfl : tau 1 = .inl 10) (fun h => by cases h)) (tau_ne hmz.2.2.1 (rfl : tau 2 = .inr (.byte, 30000)) (fun h => by cases h)))).2.1 x).trans ((uF_a).trans (uF_a)))))))]; exact t2), XAc.of t3 (show (uF (uF (uR (uR u_13 0 5 (.ref (G.2.2.1 + z))) 0 6 (.ref (G.2.2.1 + y))) 0 7 1) 0 8 0).1 z 2 = u_2.1 z 2 from (uF_ne (fun h => absurd h.2 (by decide))).trans ((uF_ne (fun h => absurd h.2 (by decide))).trans ((uR_f).trans ((uR_f).trans (((fu_13 z (pB_no (tau_ne hmz.1 (rfl : tau 1 = .inl 10) (fun h => by cases h)) (tau_ne hmz.1 (rfl : tau 2 = .inr (.byte, 30000)) (fun h => by cases h)))).1 2).trans ((uF_ne (fun h => absurd h.2 (by decide))).trans (uF_ne (fun h => absurd h.2 (by decide))))))))) (show (uF (uF (uR (uR u_13 0 5 (.ref (G.2.2.1 + z))) 0 6 (.ref (G.2.2.1 + y))) 0 7 1) 0 8 0).1 z 3 = u_2.1 z 3 from (uF_ne (fun h => absurd h.2 (by decide))).trans ((uF_ne (fun h => absurd h.2 (by decide))).trans ((uR_f).trans ((uR_f).trans (((fu_13 z (pB_no (tau_ne hmz.1 (rfl : tau 1 = .inl 10) (fun h => by cases h)) (tau_ne hmz.1 (rfl : tau 2 = .inr (.byte, 30000)) (fun h => by cases h)))).1 3).trans ((uF_ne (fun h => absurd h.2 (by decide))).trans (uF_ne (fun h => absurd h.2 (by decide))))))))) (show (uF (uF (uR (uR u_13 0 5 (.ref (G.2.2.1 + z))) 0 6 (.ref (G.2.2.1 + y))) 0 7 1) 0 8 0).2.1 (z + 1) = u_2.2.1 (z + 1) from funext fun x => (uF_a).trans ((uF_a).trans ((uR_a).trans ((uR_a).trans (((fu_13 (z + 1) (pB_no (tau_ne hmz.2.1 (rfl : tau 1 = .inl 10) (fun h => by cases h)) (tau_ne hmz.2.1 (rfl : tau 2 = .inr (.byte, 30000)) (fun h => by cases h)))).2.1 x).trans ((uF_a).trans (uF_a))))))) (show (uF (uF (uR (uR u_13 0 5 (.ref (G.2.2.1 + z))) 0 6 (.ref (G.2.2.1 + y))) 0 7 1) 0 8 0).2.1 (z + 2) = u_2.2.1 (z + 2) from funext fun x => (uF_a).trans ((uF_a).trans ((uR_a).trans ((uR_a).trans (((fu_13 (z + 2) (pB_no (tau_ne hmz.2.2.1 (rfl : tau 1 = .inl 10) (fun h => by cases h)) (tau_ne hmz.2.2.1 (rfl : tau 2 = .inr (.byte, 30000)) (fun h => by cases h)))).2.1 x).trans ((uF_a).trans (uF_a)))))))⟩), (show (uF (uF (uR (uR u_13 0 5 (.ref (G.2.2.1 + z))) 0 6 (.ref (G.2.2.1 + y))) 0 7 1) 0 8 0).1 0 7 = 1 from (uF_ne (fun h => absurd h.2 (by decide))).trans (uF_on)), (show (uF (uF (uR (uR u_13 0 5 (.ref (G.2.2.1 + z))) 0 6 (.ref (G.2.2.1 + y))) 0 7 1) 0 8 0).1 0 8 = 0 from uF_on), (show (uF (uF (uR (uR u_13 0 5 (.ref (G.2.2.1 + z))) 0 6 (.ref (G.2.2.1 + y))) 0 7 1) 0 8 0).2.2.2 0 5 = .ref (G.2.2.1 + z) from ((uF_r).trans ((uF_r).trans ((uR_ne (fun h => absurd h.2 (by decide))).trans (uR_on))))), (show (uF (uF (uR (uR u_13 0 5 (.ref (G.2.2.1 + z))) 0 6 (.ref (G.2.2.1 + y))) 0 7 1) 0 8 0).2.2.2 0 6 = .ref (G.2.2.1 + y) from ((uF_r).trans ((uF_r).trans (uR_on))))⟩), (fun h => absurd (by omega) h)⟩⟩ dX11_tell_76
