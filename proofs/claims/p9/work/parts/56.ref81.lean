theorem NO.sm {f : Int → Int} {p L : Int} (h : NO f p L) (h0 : 0 ≤ nv f p ∧ nv f p ≤ 999999999) : NO f p 1 := by
  have a := nv_abs h
  exact ⟨h.lim (n := 1) (by show nu f p < 1000000000 * 1; omega), h.2⟩
set_option maxRecDepth 100000 in
set_option maxHeartbeats 4000000 in
theorem s_X12_say (l : Launch) (G : sG) (S : sS) {si : Nat} (hI : dX G S) (hsi : si < 38) (hts : 0 ≤ S.1 231 86 ∧ S.1 231 86 ≤ 35900) : Met l yX12_say (.code yX12_say cX12_say 3 none :: tb) (rmk 5 0 0) (sPc G 294 S [.ref (G.2.2.1 + 231), .ref (G.1.2 100 si)]) (sQv G 294 (fun u => dX G u ∧ Fr S u (pl [231, 276]) ∧ FF S u (fl [86]) ∧ (S.1 231 86 ≤ u.1 231 86 ∧ u.1 231 86 ≤ S.1 231 86 + 1 + (strN.getD si 0 : Nat)))) 0 0 (sF G) := by
  refine sEnter (by decide) (Nat.le_of_ble_eq_true rfl) ?_
  intro p e s m args below meth c Cx hr hlk hnm hW ls hl
  have Cx : sC G p m c cX12_say 3 s args RX12 := Cx
  obtain ⟨hx, hb, hml, hown, hts⟩ := id Cx.1
  have hL : sL G [] := sL_nil
  have hl : lv_has ls 3 [(0, .ref (G.2.2.1 + 231)), (1, .ref (G.1.2 100 si))] := hl
  have hW0 := hW
  have hnr := strN_r si hsi
  have join_28 : ∀ (S28 : sS)  (H : Heap) (locs : List Loc) (ls : Array Slot), (dX G S28) → (Fr S S28 (pl [231, 276])) → (Fr S S28 (pl [231, 276])) → (FF S S28 (fl [86])) → (FF S S28 (fl [86])) → (S.1 231 86 ≤ S28.1 231 86 ∧ S28.1 231 86 ≤ S.1 231 86 + 1) → sW G 294 S28 H → sL G locs → lv_has ls 3 [(0, .ref (G.2.2.1 + 231)), (1, .ref (G.1.2 100 si))] → W p l e (rmk 5 0 0) s m args below meth c H locs 0 0 (MQ below (sQv G 294 (fun u => dX G u ∧ Fr S u (pl [231, 276]) ∧ FF S u (fl [86]) ∧ (S.1 231 86 ≤ u.1 231 86 ∧ u.1 231 86 ≤ S.1 231 86 + 1 + (strN.getD si 0 : Nat)))) args s 0 0 (sF G)) (F0 m 28 ls []) := by
    intro S28  H locs ls hI28 hFm28 hL28_ hGm28 gL28_ h28 hW hL hl
    refine lv_iconst (v := iv 0) hx hb dX12_say_28 (by decide) ?_
    refine lv_istore_n (lv' := [(2, .int (iv 0)), (0, .ref (G.2.2.1 + 231)), (1, .ref (G.1.2 100 si))]) hx hb dX12_say_29 rfl hl (by decide) rfl (fun ls hl => ?_)
    have loop_30 : ∀ (fuel : Nat) (S30 : sS) (k : Int) (H : Heap) (locs : List Loc) (ls : Array Slot), (71 - k).toNat < fuel → (dX G S30) → (Fr S S30 (pl [231, 276])) → (Fr S S30 (pl [231, 276])) → (Fr S28 S30 (pl [231, 276])) → (FF S S30 (fl [86])) → (FF S S30 (fl [86])) → (FF S28 S30 (fl [86])) → (0 ≤ k ∧ k ≤ (strN.getD si 0 : Nat)) → (S.1 231 86 ≤ S30.1 231 86 ∧ S30.1 231 86 ≤ S.1 231 86 + 1 + k) → sW G 294 S30 H → sL G locs → lv_has ls 3 [(2, .int (iv k)), (0, .ref (G.2.2.1 + 231)), (1, .ref (G.1.2 100 si))] → W p l e (rmk 5 0 0) s m args below meth c H locs 0 0 (MQ below (sQv G 294 (fun u => dX G u ∧ Fr S u (pl [231, 276]) ∧ FF S u (fl [86]) ∧ (S.1 231 86 ≤ u.1 231 86 ∧ u.1 231 86 ≤ S.1 231 86 + 1 + (strN.getD si 0 : Nat)))) args s 0 0 (sF G)) (F0 m 30 ls []) := by
      intro fuel
      induction fuel with
      | zero => intro S30 k H locs ls hmeas hI30 hFm30 hFL2830 hL30_ hGm30 hGL2830 gL30_ hk h30 hW hL hl; exact absurd hmeas (Nat.not_lt_zero _)
      | succ fuel ih_30 =>
        intro S30 k H locs ls hmeas hI30 hFm30 hFL2830 hL30_ hGm30 hGL2830 gL30_ hk h30 hW hL hl
        refine lv_iload_n hx hb dX12_say_30 rfl (lv_at hl 0 rfl) ?_
        refine lv_aload_n hx hb dX12_say_31 rfl (lv_at hl 2 rfl) ?_
        refine sBi (sVz (As := []) (rest := [.int (iv k)]) (a := G.1.2 100 si) Cx (s_J0_length_8abf5 l G S30 (si := si) hsi) (c_X12_279 Cx rfl rfl (rmk_ok (by omega) (by decide))) hW (zRecv Cx hW0 hW hsi) rfl hl.1 rfl (Nat.le_of_ble_eq_true rfl) dX12_say_32 ⟨Nat.le_of_ble_eq_true rfl, Nat.le_of_ble_eq_true rfl⟩) hL (fun r_3 u_1 H locs k_2 hW hL => ?_)
        obtain ⟨eu_1, xu_1⟩ := k_2
        rw [eu_1] at hW
        refine r_icmp_ge (tgt := 69) hx hb ⟨(by omega), (by omega)⟩ ⟨(by omega), (by omega)⟩ dX12_say_35 (by decide) (fun c_4 => ?_) (fun c_4 => ?_)
        · have q_5 : (-2147483648) ≤ S30.1 231 86 ∧ S30.1 231 86 ≤ 2147483647 := hI30.fi 86
          exact sVret Cx hr hlk hW hL ⟨hI30, hFm30, hGm30, (by omega)⟩ dX12_say_69
        · refine lv_aload_n hx hb dX12_say_38 rfl (lv_at hl 1 rfl) ?_
          refine g_X12_148 Cx hW (k := 231) (by decide) rfl (v := .ref (G.2.2.1 + 276)) (rd_85 hI30) dX12_say_39 ?_
          refine lv_aload_n hx hb dX12_say_42 rfl (lv_at hl 1 rfl) ?_
          have q_6 : (-2147483648) ≤ S30.1 231 86 ∧ S30.1 231 86 ≤ 2147483647 := hI30.fi 86
          refine g_X12_523 Cx hW (k := 231) (by decide) rfl (v := S30.1 231 86) rfl dX12_say_43 ?_
          refine lv_aload_n hx hb dX12_say_46 rfl (lv_at hl 2 rfl) ?_
          refine lv_iload_n hx hb dX12_say_47 rfl (lv_at hl 0 rfl) ?_
          refine sBi (sVz (As := [.int (iv k)]) (rest := [.int (iv (S30.1 231 86)), .ref (G.2.2.1 + 276)]) (a := G.1.2 100 si) Cx (s_J0_charAt_5068e l G S30 (si := si) (k := k) hsi (by omega)) (c_X12_285 Cx rfl rfl (rmk_ok (by omega) (by decide))) hW (zRecv Cx hW0 hW hsi) rfl hl.1 rfl (Nat.le_of_ble_eq_true rfl) dX12_say_48 ⟨Nat.le_of_ble_eq_true rfl, Nat.le_of_ble_eq_true rfl⟩) hL (fun r_9 u_7 H locs k_8 hW hL => ?_)
          obtain ⟨eu_7, xu_7⟩ := k_8
          rw [eu_7] at hW
          refine r_i2b hx hb dX12_say_51 (fun z_10 hz_10 kz_10 => ?_)
          refine rBast Cx hW hL (k := 276) (by decide) rfl (by decide) (by omega) (by omega) (nar_b (by omega) (by omega)) dX12_say_52 (fun H locs hW hL => ?_)
          have F_11 : Fr S (uA S30 276 (S30.1 231 86) z_10) (pl [231, 276]) := hFm30.A rfl
          have F_12 : Fr S (uA S30 276 (S30.1 231 86) z_10) (pl [231, 276]) := hFL2830.A rfl
          have F_13 : Fr S28 (uA S30 276 (S30.1 231 86) z_10) (pl [231, 276]) := hL30_.A rfl
          have i_14 : dX G (uA S30 276 (S30.1 231 86) z_10) := hI30.A (k := 276) (show (-128) ≤ z_10 ∧ z_10 ≤ 127 from ⟨by omega, by omega⟩)
          refine lv_aload_n hx hb dX12_say_53 rfl (lv_at hl 1 rfl) ?_
          refine lv_dup hx hb dX12_say_54 rfl ?_
          refine g_X12_523 Cx hW (k := 231) (by decide) rfl (v := S30.1 231 86) uA_f dX12_say_55 ?_
          refine lv_iconst (v := iv 1) hx hb dX12_say_58 (by decide) ?_
          refine r_iadd hx hb dX12_say_59 ?_
          refine p_X12_523 Cx hW hL (k := 231) (by decide) rfl dX12_say_60 (fun H locs hW hL => ?_)
          have F_15 : Fr S (uF (uA S30 276 (S30.1 231 86) z_10) 231 86 ((S30.1 231 86) + 1)) (pl [231, 276]) := F_11.F rfl
          have F_16 : Fr S (uF (uA S30 276 (S30.1 231 86) z_10) 231 86 ((S30.1 231 86) + 1)) (pl [231, 276]) := F_12.F rfl
          have F_17 : Fr S28 (uF (uA S30 276 (S30.1 231 86) z_10) 231 86 ((S30.1 231 86) + 1)) (pl [231, 276]) := F_13.F rfl
          have g_18 : FF S (uF (uA S30 276 (S30.1 231 86) z_10) 231 86 ((S30.1 231 86) + 1)) (fl [86]) := FF.F hGm30 rfl
          have g_19 : FF S (uF (uA S30 276 (S30.1 231 86) z_10) 231 86 ((S30.1 231 86) + 1)) (fl [86]) := FF.F hGL2830 rfl
          have g_20 : FF S28 (uF (uA S30 276 (S30.1 231 86) z_10) 231 86 ((S30.1 231 86) + 1)) (fl [86]) := FF.F gL30_ rfl
          have i_21 : dX G (uF (uA S30 276 (S30.1 231 86) z_10) 231 86 ((S30.1 231 86) + 1)) := i_14.F (i := 86) (show (-2147483648) ≤ (S30.1 231 86) + 1 ∧ (S30.1 231 86) + 1 ≤ 2147483647 from ⟨by omega, by omega⟩)
          refine lv_iinc (v := iv (k + 1)) (lv' := [(2, .int (iv (k + 1))), (0, .ref (G.2.2.1 + 231)), (1, .ref (G.1.2 100 si))]) hx hb dX12_say_63 hl (k := 0) rfl ((Int32.ofInt_add _ _).symm) (by decide) rfl (fun ls hl => ?_)
          refine lv_goto (tgt := 30) hx hb dX12_say_66 (by decide) ?_
          have lk_22 : (uF (uA S30 276 (S30.1 231 86) z_10) 231 86 ((S30.1 231 86) + 1)).1 231 86 = (S30.1 231 86) + 1 := uF_on
          exact ih_30 (uF (uA S30 276 (S30.1 231 86) z_10) 231 86 ((S30.1 231 86) + 1)) (k + 1) _ _ _ (by omega) i_21 F_15 F_16 F_17 g_18 g_19 g_20 (by omega) (by omega) hW hL (lv_sub hl [0, 1, 2] rfl)
    have q_23 : (-2147483648) ≤ S28.1 231 86 ∧ S28.1 231 86 ≤ 2147483647 := hI28.fi 86
    exact loop_30 (_ + 1) S28 0 _ _ _ (Nat.lt_succ_self _) hI28 hFm28 hL28_ Fr.rf hGm28 gL28_ FF.rf (by omega) (by omega) hW hL (lv_sub hl [0, 1, 2] rfl)
  refine lv_aload_n hx hb dX12_say_0 rfl (lv_at hl 0 rfl) ?_
  have q_24 : (-2147483648) ≤ S.1 231 86 ∧ S.1 231 86 ≤ 2147483647 := hI.fi 86
  refine g_X12_523 Cx hW (k := 231) (by decide) rfl (v := S.1 231 86) rfl dX12_say_1 ?_
  refine r_if_le (tgt := 28) hx hb ⟨(by omega), (by omega)⟩ dX12_say_4 (by decide) (fun c_25 => ?_) (fun c_25 => ?_)
  · exact join_28 S  _ _ _ hI (Fr.rf : Fr S S (pl [231, 276])) (Fr.rf : Fr S S (pl [231, 276])) FF.rf (FF.rf : FF S S (fl [86])) (by omega) hW hL (lv_sub hl [0, 1] rfl)
  · refine lv_aload_n hx hb dX12_say_7 rfl (lv_at hl 0 rfl) ?_
    refine g_X12_148 Cx hW (k := 231) (by decide) rfl (v := .ref (G.2.2.1 + 276)) (rd_85 hI) dX12_say_8 ?_
    refine lv_aload_n hx hb dX12_say_11 rfl (lv_at hl 0 rfl) ?_
    refine g_X12_523 Cx hW (k := 231) (by decide) rfl (v := S.1 231 86) rfl dX12_say_12 ?_
    refine lv_bipush (v := iv 32) hx hb dX12_say_15 (by decide) ?_
    refine rBast Cx hW hL (k := 276) (by decide) rfl (by decide) (by omega) (by omega) (nar_b (by omega) (by omega)) dX12_say_17 (fun H locs hW hL => ?_)
    have F_26 : Fr S (uA S 276 (S.1 231 86) 32) (pl [231, 276]) := (Fr.rf : Fr S S (pl [231, 276])).A rfl
    have F_27 : Fr S (uA S 276 (S.1 231 86) 32) (pl [231, 276]) := (Fr.rf : Fr S S (pl [231, 276])).A rfl
    have i_28 : dX G (uA S 276 (S.1 231 86) 32) := hI.A (k := 276) (show (-128) ≤ 32 ∧ 32 ≤ 127 from ⟨by omega, by omega⟩)
    refine lv_aload_n hx hb dX12_say_18 rfl (lv_at hl 0 rfl) ?_
    refine lv_dup hx hb dX12_say_19 rfl ?_
    refine g_X12_523 Cx hW (k := 231) (by decide) rfl (v := S.1 231 86) uA_f dX12_say_20 ?_
    refine lv_iconst (v := iv 1) hx hb dX12_say_23 (by decide) ?_
    refine r_iadd hx hb dX12_say_24 ?_
    refine p_X12_523 Cx hW hL (k := 231) (by decide) rfl dX12_say_25 (fun H locs hW hL => ?_)
    have F_29 : Fr S (uF (uA S 276 (S.1 231 86) 32) 231 86 ((S.1 231 86) + 1)) (pl [231, 276]) := F_26.F rfl
    have F_30 : Fr S (uF (uA S 276 (S.1 231 86) 32) 231 86 ((S.1 231 86) + 1)) (pl [231, 276]) := F_27.F rfl
    have g_31 : FF S (uF (uA S 276 (S.1 231 86) 32) 231 86 ((S.1 231 86) + 1)) (fl [86]) := FF.F FF.rf rfl
    have g_32 : FF S (uF (uA S 276 (S.1 231 86) 32) 231 86 ((S.1 231 86) + 1)) (fl [86]) := FF.F (FF.rf : FF S S (fl [86])) rfl
    have i_33 : dX G (uF (uA S 276 (S.1 231 86) 32) 231 86 ((S.1 231 86) + 1)) := i_28.F (i := 86) (show (-2147483648) ≤ (S.1 231 86) + 1 ∧ (S.1 231 86) + 1 ≤ 2147483647 from ⟨by omega, by omega⟩)
    have lk_34 : (uF (uA S 276 (S.1 231 86) 32) 231 86 ((S.1 231 86) + 1)).1 231 86 = (S.1 231 86) + 1 := uF_on
    exact join_28 (uF (uA S 276 (S.1 231 86) 32) 231 86 ((S.1 231 86) + 1))  _ _ _ i_33 F_29 F_30 g_31 g_32 (by omega) hW hL (lv_sub hl [0, 1] rfl)

set_option maxRecDepth 100000 in
set_option maxHeartbeats 4000000 in
theorem s_X12_sayLetters (l : Launch) (G : sG) (S : sS)  (hI : dX G S) (hps : 0 ≤ S.1 231 86 ∧ S.1 231 86 ≤ 35000) (hle : 0 ≤ S.1 231 6 ∧ S.1 231 6 ≤ 576) : Met l yX12_sayLetters (.code yX12_sayLetters cX12_sayLetters 2 none :: tb) (rmk 1 0 0) (sPc G 294 S [.ref (G.2.2.1 + 231)]) (sQv G 294 (fun u => dX G u ∧ Fr S u (pl [231, 276]) ∧ FF S u (fl [86]) ∧ (u.1 231 86 = S.1 231 86 + 1 + S.1 231 6))) 0 0 (sF G) := by
  refine sEnter (by decide) (Nat.le_of_ble_eq_true rfl) ?_
  intro p e s m args below meth c Cx hr hlk hnm hW ls hl
  have Cx : sC G p m c cX12_sayLetters 2 s args RX12 := Cx
  obtain ⟨hx, hb, hml, hown, hts⟩ := id Cx.1
  have hL : sL G [] := sL_nil
  have hl : lv_has ls 2 [(0, .ref (G.2.2.1 + 231))] := hl
  have hW0 := hW
  refine lv_aload_n hx hb dX12_sayLetters_0 rfl (lv_at hl 0 rfl) ?_
  refine g_X12_148 Cx hW (k := 231) (by decide) rfl (v := .ref (G.2.2.1 + 276)) (rd_85 hI) dX12_sayLetters_1 ?_
  refine lv_aload_n hx hb dX12_sayLetters_4 rfl (lv_at hl 0 rfl) ?_
  have q_1 : (-2147483648) ≤ S.1 231 86 ∧ S.1 231 86 ≤ 2147483647 := hI.fi 86
  refine g_X12_523 Cx hW (k := 231) (by decide) rfl (v := S.1 231 86) rfl dX12_sayLetters_5 ?_
  refine lv_bipush (v := iv 32) hx hb dX12_sayLetters_8 (by decide) ?_
  refine rBast Cx hW hL (k := 276) (by decide) rfl (by decide) (by omega) (by omega) (nar_b (by omega) (by omega)) dX12_sayLetters_10 (fun H locs hW hL => ?_)
  have F_2 : Fr S (uA S 276 (S.1 231 86) 32) (pl [231, 276]) := (Fr.rf : Fr S S (pl [231, 276])).A rfl
  have i_3 : dX G (uA S 276 (S.1 231 86) 32) := hI.A (k := 276) (show (-128) ≤ 32 ∧ 32 ≤ 127 from ⟨by omega, by omega⟩)
  refine lv_aload_n hx hb dX12_sayLetters_11 rfl (lv_at hl 0 rfl) ?_
  refine lv_dup hx hb dX12_sayLetters_12 rfl ?_
  refine g_X12_523 Cx hW (k := 231) (by decide) rfl (v := S.1 231 86) uA_f dX12_sayLetters_13 ?_
  refine lv_iconst (v := iv 1) hx hb dX12_sayLetters_16 (by decide) ?_
  refine r_iadd hx hb dX12_sayLetters_17 ?_
  refine p_X12_523 Cx hW hL (k := 231) (by decide) rfl dX12_sayLetters_18 (fun H locs hW hL => ?_)
  have F_4 : Fr S (uF (uA S 276 (S.1 231 86) 32) 231 86 ((S.1 231 86) + 1)) (pl [231, 276]) := F_2.F rfl
  have g_5 : FF S (uF (uA S 276 (S.1 231 86) 32) 231 86 ((S.1 231 86) + 1)) (fl [86]) := FF.F FF.rf rfl
  have i_6 : dX G (uF (uA S 276 (S.1 231 86) 32) 231 86 ((S.1 231 86) + 1)) := i_3.F (i := 86) (show (-2147483648) ≤ (S.1 231 86) + 1 ∧ (S.1 231 86) + 1 ≤ 2147483647 from ⟨by omega, by omega⟩)
  refine lv_iconst (v := iv 0) hx hb dX12_sayLetters_21 (by decide) ?_
  refine lv_istore_n (lv' := [(1, .int (iv 0)), (0, .ref (G.2.2.1 + 231))]) hx hb dX12_sayLetters_22 rfl hl (by decide) rfl (fun ls hl => ?_)
  have loop_23 : ∀ (fuel : Nat) (S23 : sS) (k : Int) (H : Heap) (locs : List Loc) (ls : Array Slot), (600 - k).toNat < fuel → (dX G S23) → (Fr S S23 (pl [231, 276])) → (Fr ((uF (uA S 276 (S.1 231 86) 32) 231 86 ((S.1 231 86) + 1))) S23 (pl [231, 276])) → (FF S S23 (fl [86])) → (FF ((uF (uA S 276 (S.1 231 86) 32) 231 86 ((S.1 231 86) + 1))) S23 (fl [86])) → (0 ≤ k ∧ k ≤ S.1 231 6) → (S23.1 231 86 = S.1 231 86 + 1 + k) → sW G 294 S23 H → sL G locs → lv_has ls 2 [(1, .int (iv k)), (0, .ref (G.2.2.1 + 231))] → W p l e (rmk 1 0 0) s m args below meth c H locs 0 0 (MQ below (sQv G 294 (fun u => dX G u ∧ Fr S u (pl [231, 276]) ∧ FF S u (fl [86]) ∧ (u.1 231 86 = S.1 231 86 + 1 + S.1 231 6))) args s 0 0 (sF G)) (F0 m 23 ls []) := by
    intro fuel
    induction fuel with
    | zero => intro S23 k H locs ls hmeas hI23 hFm23 hL23_ hGm23 gL23_ hk h23 hW hL hl; exact absurd hmeas (Nat.not_lt_zero _)
    | succ fuel ih_23 =>
      intro S23 k H locs ls hmeas hI23 hFm23 hL23_ hGm23 gL23_ hk h23 hW hL hl
      refine lv_iload_n hx hb dX12_sayLetters_23 rfl (lv_at hl 0 rfl) ?_
      refine lv_aload_n hx hb dX12_sayLetters_24 rfl (lv_at hl 1 rfl) ?_
      have q_7 : (-2147483648) ≤ S.1 231 6 ∧ S.1 231 6 ≤ 2147483647 := hI.fi 6
      refine g_X12_259 Cx hW (k := 231) (by decide) rfl (v := S.1 231 6) ((gL23_ 6 rfl).trans ((uF_ne (fun h => absurd h.2 (by decide))).trans (uA_f))) dX12_sayLetters_25 ?_
      refine r_icmp_ge (tgt := 62) hx hb ⟨(by omega), (by omega)⟩ ⟨(by omega), (by omega)⟩ dX12_sayLetters_28 (by decide) (fun c_8 => ?_) (fun c_8 => ?_)
      · have q_9 : (-2147483648) ≤ S23.1 231 86 ∧ S23.1 231 86 ≤ 2147483647 := hI23.fi 86
        exact sVret Cx hr hlk hW hL ⟨hI23, hFm23, hGm23, (by omega)⟩ dX12_sayLetters_62
      · refine lv_aload_n hx hb dX12_sayLetters_31 rfl (lv_at hl 1 rfl) ?_
        refine g_X12_148 Cx hW (k := 231) (by decide) rfl (v := .ref (G.2.2.1 + 276)) (rd_85 hI23) dX12_sayLetters_32 ?_
        refine lv_aload_n hx hb dX12_sayLetters_35 rfl (lv_at hl 1 rfl) ?_
        have q_10 : (-2147483648) ≤ S23.1 231 86 ∧ S23.1 231 86 ≤ 2147483647 := hI23.fi 86
        refine g_X12_523 Cx hW (k := 231) (by decide) rfl (v := S23.1 231 86) rfl dX12_sayLetters_36 ?_
        refine lv_aload_n hx hb dX12_sayLetters_39 rfl (lv_at hl 1 rfl) ?_
        refine g_X12_23 Cx hW (k := 231) (by decide) rfl (v := .ref (G.2.2.1 + 236)) (rd_5 hI23) dX12_sayLetters_40 ?_
        refine lv_iload_n hx hb dX12_sayLetters_43 rfl (lv_at hl 0 rfl) ?_
        refine rBald Cx hW (k := 236) (by decide) rfl (by decide) (by omega) (by omega) dX12_sayLetters_44 ?_
        have q_11 : (-128) ≤ S.2.1 236 k ∧ S.2.1 236 k ≤ 127 := hI.ai 236 k
        refine r_i (b := S.2.1 236 k) (((hL23_ 236 rfl).2.1 k).trans ((uF_a).trans (uA_ne (fun h => absurd h.1 (by decide))))) ?_
        refine rBast Cx hW hL (k := 276) (by decide) rfl (by decide) (by omega) (by omega) (nar_b (by omega) (by omega)) dX12_sayLetters_45 (fun H locs hW hL => ?_)
        have F_12 : Fr S (uA S23 276 (S23.1 231 86) (S.2.1 236 k)) (pl [231, 276]) := hFm23.A rfl
        have F_13 : Fr ((uF (uA S 276 (S.1 231 86) 32) 231 86 ((S.1 231 86) + 1))) (uA S23 276 (S23.1 231 86) (S.2.1 236 k)) (pl [231, 276]) := hL23_.A rfl
        have i_14 : dX G (uA S23 276 (S23.1 231 86) (S.2.1 236 k)) := hI23.A (k := 276) (show (-128) ≤ S.2.1 236 k ∧ S.2.1 236 k ≤ 127 from ⟨by omega, by omega⟩)
        refine lv_aload_n hx hb dX12_sayLetters_46 rfl (lv_at hl 1 rfl) ?_
        refine lv_dup hx hb dX12_sayLetters_47 rfl ?_
        refine g_X12_523 Cx hW (k := 231) (by decide) rfl (v := S23.1 231 86) uA_f dX12_sayLetters_48 ?_
        refine lv_iconst (v := iv 1) hx hb dX12_sayLetters_51 (by decide) ?_
        refine r_iadd hx hb dX12_sayLetters_52 ?_
        refine p_X12_523 Cx hW hL (k := 231) (by decide) rfl dX12_sayLetters_53 (fun H locs hW hL => ?_)
        have F_15 : Fr S (uF (uA S23 276 (S23.1 231 86) (S.2.1 236 k)) 231 86 ((S23.1 231 86) + 1)) (pl [231, 276]) := F_12.F rfl
        have F_16 : Fr ((uF (uA S 276 (S.1 231 86) 32) 231 86 ((S.1 231 86) + 1))) (uF (uA S23 276 (S23.1 231 86) (S.2.1 236 k)) 231 86 ((S23.1 231 86) + 1)) (pl [231, 276]) := F_13.F rfl
        have g_17 : FF S (uF (uA S23 276 (S23.1 231 86) (S.2.1 236 k)) 231 86 ((S23.1 231 86) + 1)) (fl [86]) := FF.F hGm23 rfl
        have g_18 : FF ((uF (uA S 276 (S.1 231 86) 32) 231 86 ((S.1 231 86) + 1))) (uF (uA S23 276 (S23.1 231 86) (S.2.1 236 k)) 231 86 ((S23.1 231 86) + 1)) (fl [86]) := FF.F gL23_ rfl
        have i_19 : dX G (uF (uA S23 276 (S23.1 231 86) (S.2.1 236 k)) 231 86 ((S23.1 231 86) + 1)) := i_14.F (i := 86) (show (-2147483648) ≤ (S23.1 231 86) + 1 ∧ (S23.1 231 86) + 1 ≤ 2147483647 from ⟨by omega, by omega⟩)
        refine lv_iinc (v := iv (k + 1)) (lv' := [(1, .int (iv (k + 1))), (0, .ref (G.2.2.1 + 231))]) hx hb dX12_sayLetters_56 hl (k := 0) rfl ((Int32.ofInt_add _ _).symm) (by decide) rfl (fun ls hl => ?_)
        refine lv_goto (tgt := 23) hx hb dX12_sayLetters_59 (by decide) ?_
        have lk_20 : (uF (uA S23 276 (S23.1 231 86) (S.2.1 236 k)) 231 86 ((S23.1 231 86) + 1)).1 231 86 = (S23.1 231 86) + 1 := uF_on
        exact ih_23 (uF (uA S23 276 (S23.1 231 86) (S.2.1 236 k)) 231 86 ((S23.1 231 86) + 1)) (k + 1) _ _ _ (by omega) i_19 F_15 F_16 g_17 g_18 (by omega) (by omega) hW hL (lv_sub hl [0, 1] rfl)
  have lk_21 : (uF (uA S 276 (S.1 231 86) 32) 231 86 ((S.1 231 86) + 1)).1 231 86 = (S.1 231 86) + 1 := uF_on
  exact loop_23 (_ + 1) (uF (uA S 276 (S.1 231 86) 32) 231 86 ((S.1 231 86) + 1)) 0 _ _ _ (Nat.lt_succ_self _) i_6 F_4 Fr.rf g_5 FF.rf (by omega) (by omega) hW hL (lv_sub hl [0, 1] rfl)

set_option maxRecDepth 100000 in
set_option maxHeartbeats 4000000 in
theorem s_X12_clearMultipliers (l : Launch) (G : sG) (S : sS)  (hI : dX G S) : Met l yX12_clearMultipliers (.code yX12_clearMultipliers cX12_clearMultipliers 2 none :: tb) (rmk 1 0 0) (sPc G 294 S [.ref (G.2.2.1 + 231)]) (sQv G 294 (fun u => dX G u ∧ Fr S u (pl [278]) ∧ FF S u (fl []) ∧ (∀ k, 0 ≤ k → k ≤ 40 → u.2.1 278 (8 * k) = 0))) 0 0 (sF G) := by
  refine sEnter (by decide) (Nat.le_of_ble_eq_true rfl) ?_
  intro p e s m args below meth c Cx hr hlk hnm hW ls hl
  have Cx : sC G p m c cX12_clearMultipliers 2 s args RX12 := Cx
  obtain ⟨hx, hb, hml, hown, hts⟩ := id Cx.1
  have hL : sL G [] := sL_nil
  have hl : lv_has ls 2 [(0, .ref (G.2.2.1 + 231))] := hl
  have hW0 := hW
  refine lv_iconst (v := iv 0) hx hb dX12_clearMultipliers_0 (by decide) ?_
  refine lv_istore_n (lv' := [(1, .int (iv 0)), (0, .ref (G.2.2.1 + 231))]) hx hb dX12_clearMultipliers_1 rfl hl (by decide) rfl (fun ls hl => ?_)
  have loop_2 : ∀ (fuel : Nat) (S2 : sS) (k : Int) (H : Heap) (locs : List Loc) (ls : Array Slot), (41 - k).toNat < fuel → (dX G S2) → (Fr S S2 (pl [278])) → (Fr S S2 (pl [278])) → (FF S S2 (fl [])) → (FF S S2 (fl [])) → (0 ≤ k ∧ k ≤ 41) → (∀ t, 0 ≤ t → t < k → S2.2.1 278 (8 * t) = 0) → sW G 294 S2 H → sL G locs → lv_has ls 2 [(1, .int (iv k)), (0, .ref (G.2.2.1 + 231))] → W p l e (rmk 1 0 0) s m args below meth c H locs 0 0 (MQ below (sQv G 294 (fun u => dX G u ∧ Fr S u (pl [278]) ∧ FF S u (fl []) ∧ (∀ k, 0 ≤ k → k ≤ 40 → u.2.1 278 (8 * k) = 0))) args s 0 0 (sF G)) (F0 m 2 ls []) := by
    intro fuel
    induction fuel with
    | zero => intro S2 k H locs ls hmeas hI2 hFm2 hL2_ hGm2 gL2_ hk hz hW hL hl; exact absurd hmeas (Nat.not_lt_zero _)
    | succ fuel ih_2 =>
      intro S2 k H locs ls hmeas hI2 hFm2 hL2_ hGm2 gL2_ hk hz hW hL hl
      refine lv_iload_n hx hb dX12_clearMultipliers_2 rfl (lv_at hl 0 rfl) ?_
      refine lv_bipush (v := iv 40) hx hb dX12_clearMultipliers_3 (by decide) ?_
      refine r_icmp_gt (tgt := 24) hx hb ⟨(by omega), (by omega)⟩ ⟨(by omega), (by omega)⟩ dX12_clearMultipliers_5 (by decide) (fun c_1 => ?_) (fun c_1 => ?_)
      · exact sVret Cx hr hlk hW hL ⟨hI2, hFm2, hGm2, (fun t a b => hz t a (by omega))⟩ dX12_clearMultipliers_24
      · refine lv_aload_n hx hb dX12_clearMultipliers_8 rfl (lv_at hl 1 rfl) ?_
        refine g_X12_154 Cx hW (k := 231) (by decide) rfl (v := .ref (G.2.2.1 + 278)) (rd_88 hI2) dX12_clearMultipliers_9 ?_
        refine lv_bipush (v := iv 8) hx hb dX12_clearMultipliers_12 (by decide) ?_
        refine lv_iload_n hx hb dX12_clearMultipliers_14 rfl (lv_at hl 0 rfl) ?_
        refine r_imul hx hb dX12_clearMultipliers_15 ?_
        refine lv_iconst (v := iv 0) hx hb dX12_clearMultipliers_16 (by decide) ?_
        refine rIast Cx hW hL (k := 278) (by decide) rfl (by decide) (by omega) (by omega) dX12_clearMultipliers_17 (fun H locs hW hL => ?_)
        have F_2 : Fr S (uA S2 278 (8 * k) 0) (pl [278]) := hFm2.A rfl
        have F_3 : Fr S (uA S2 278 (8 * k) 0) (pl [278]) := hL2_.A rfl
        have i_4 : dX G (uA S2 278 (8 * k) 0) := hI2.A (k := 278) (show (-2147483648) ≤ 0 ∧ 0 ≤ 2147483647 from ⟨by omega, by omega⟩)
        refine lv_iinc (v := iv (k + 1)) (lv' := [(1, .int (iv (k + 1))), (0, .ref (G.2.2.1 + 231))]) hx hb dX12_clearMultipliers_18 hl (k := 0) rfl ((Int32.ofInt_add _ _).symm) (by decide) rfl (fun ls hl => ?_)
        refine lv_goto (tgt := 2) hx hb dX12_clearMultipliers_21 (by decide) ?_
        exact ih_2 (uA S2 278 (8 * k) 0) (k + 1) _ _ _ (by omega) i_4 F_2 F_3 hGm2 gL2_ (by omega) (fun t a b => by rw [uA_get]; split; rfl; rename_i q; exact hz t a (by omega)) hW hL (lv_sub hl [0, 1] rfl)
  exact loop_2 (_ + 1) S 0 _ _ _ (Nat.lt_succ_self _) hI (Fr.rf : Fr S S (pl [278])) Fr.rf FF.rf FF.rf (by omega) (fun t a b => absurd b (by omega)) hW hL (lv_sub hl [0, 1] rfl)
