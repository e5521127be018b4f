theorem NO.sm {f : Int → Int} {p L : Int} (h : NO f p L) (h0 : 0 ≤ nv f p ∧ nv f p ≤ 999999999) : NO f p 1 := by
  have a := nv_abs h
  exact ⟨h.lim (n := 1) (by show nu f p < 1000000000 * 1; omega), h.2⟩
set_option maxRecDepth 100000 in
set_option maxHeartbeats 4000000 in
theorem s_X12_write (l : Launch) (G : sG) (S : sS) {si : Nat} (hI : dX G S) (hsi : si < 38) (hts : 0 ≤ S.1 231 84 ∧ S.1 231 84 ≤ 33900) : Met l yX12_write (.code yX12_write cX12_write 3 none :: tb) (rmk 5 0 0) (sPc G 294 S [.ref (G.2.2.1 + 231), .ref (G.1.2 100 si)]) (sQv G 294 (fun u => dX G u ∧ Fr S u (pl [231, 275]) ∧ FF S u (fl [84]) ∧ (S.1 231 84 ≤ u.1 231 84 ∧ u.1 231 84 ≤ S.1 231 84 + 1 + (strN.getD si 0 : Nat)))) 0 0 (sF G) := by
  refine sEnter (by decide) (Nat.le_of_ble_eq_true rfl) ?_
  intro p e s m args below meth c Cx hr hlk hnm hW ls hl
  have Cx : sC G p m c cX12_write 3 s args RX12 := Cx
  obtain ⟨hx, hb, hml, hown, hts⟩ := id Cx.1
  have hL : sL G [] := sL_nil
  have hl : lv_has ls 3 [(0, .ref (G.2.2.1 + 231)), (1, .ref (G.1.2 100 si))] := hl
  have hW0 := hW
  have hnr := strN_r si hsi
  have join_28 : ∀ (S28 : sS)  (H : Heap) (locs : List Loc) (ls : Array Slot), (dX G S28) → (Fr S S28 (pl [231, 275])) → (Fr S S28 (pl [231, 275])) → (FF S S28 (fl [84])) → (FF S S28 (fl [84])) → (S.1 231 84 ≤ S28.1 231 84 ∧ S28.1 231 84 ≤ S.1 231 84 + 1) → sW G 294 S28 H → sL G locs → lv_has ls 3 [(0, .ref (G.2.2.1 + 231)), (1, .ref (G.1.2 100 si))] → W p l e (rmk 5 0 0) s m args below meth c H locs 0 0 (MQ below (sQv G 294 (fun u => dX G u ∧ Fr S u (pl [231, 275]) ∧ FF S u (fl [84]) ∧ (S.1 231 84 ≤ u.1 231 84 ∧ u.1 231 84 ≤ S.1 231 84 + 1 + (strN.getD si 0 : Nat)))) args s 0 0 (sF G)) (F0 m 28 ls []) := by
    intro S28  H locs ls hI28 hFm28 hL28_ hGm28 gL28_ h28 hW hL hl
    refine lv_iconst (v := iv 0) hx hb dX12_write_28 (by decide) ?_
    refine lv_istore_n (lv' := [(2, .int (iv 0)), (0, .ref (G.2.2.1 + 231)), (1, .ref (G.1.2 100 si))]) hx hb dX12_write_29 rfl hl (by decide) rfl (fun ls hl => ?_)
    have loop_30 : ∀ (fuel : Nat) (S30 : sS) (k : Int) (H : Heap) (locs : List Loc) (ls : Array Slot), (71 - k).toNat < fuel → (dX G S30) → (Fr S S30 (pl [231, 275])) → (Fr S S30 (pl [231, 275])) → (Fr S28 S30 (pl [231, 275])) → (FF S S30 (fl [84])) → (FF S S30 (fl [84])) → (FF S28 S30 (fl [84])) → (0 ≤ k ∧ k ≤ (strN.getD si 0 : Nat)) → (S.1 231 84 ≤ S30.1 231 84 ∧ S30.1 231 84 ≤ S.1 231 84 + 1 + k) → sW G 294 S30 H → sL G locs → lv_has ls 3 [(2, .int (iv k)), (0, .ref (G.2.2.1 + 231)), (1, .ref (G.1.2 100 si))] → W p l e (rmk 5 0 0) s m args below meth c H locs 0 0 (MQ below (sQv G 294 (fun u => dX G u ∧ Fr S u (pl [231, 275]) ∧ FF S u (fl [84]) ∧ (S.1 231 84 ≤ u.1 231 84 ∧ u.1 231 84 ≤ S.1 231 84 + 1 + (strN.getD si 0 : Nat)))) args s 0 0 (sF G)) (F0 m 30 ls []) := by
      intro fuel
      induction fuel with
      | zero => intro S30 k H locs ls hmeas hI30 hFm30 hFL2830 hL30_ hGm30 hGL2830 gL30_ hk h30 hW hL hl; exact absurd hmeas (Nat.not_lt_zero _)
      | succ fuel ih_30 =>
        intro S30 k H locs ls hmeas hI30 hFm30 hFL2830 hL30_ hGm30 hGL2830 gL30_ hk h30 hW hL hl
        refine lv_iload_n hx hb dX12_write_30 rfl (lv_at hl 0 rfl) ?_
        refine lv_aload_n hx hb dX12_write_31 rfl (lv_at hl 2 rfl) ?_
        refine sBi (sVz (As := []) (rest := [.int (iv k)]) (a := G.1.2 100 si) Cx (s_J0_length_8abf5 l G S30 (si := si) hsi) (c_X12_279 Cx rfl rfl (rmk_ok (by omega) (by decide))) hW (zRecv Cx hW0 hW hsi) rfl hl.1 rfl (Nat.le_of_ble_eq_true rfl) dX12_write_32 ⟨Nat.le_of_ble_eq_true rfl, Nat.le_of_ble_eq_true rfl⟩) hL (fun r_3 u_1 H locs k_2 hW hL => ?_)
        obtain ⟨eu_1, xu_1⟩ := k_2
        rw [eu_1] at hW
        refine r_icmp_ge (tgt := 69) hx hb ⟨(by omega), (by omega)⟩ ⟨(by omega), (by omega)⟩ dX12_write_35 (by decide) (fun c_4 => ?_) (fun c_4 => ?_)
        · have q_5 : (-2147483648) ≤ S30.1 231 84 ∧ S30.1 231 84 ≤ 2147483647 := hI30.fi 84
          exact sVret Cx hr hlk hW hL ⟨hI30, hFm30, hGm30, (by omega)⟩ dX12_write_69
        · refine lv_aload_n hx hb dX12_write_38 rfl (lv_at hl 1 rfl) ?_
          refine g_X12_144 Cx hW (k := 231) (by decide) rfl (v := .ref (G.2.2.1 + 275)) (rd_83 hI30) dX12_write_39 ?_
          refine lv_aload_n hx hb dX12_write_42 rfl (lv_at hl 1 rfl) ?_
          have q_6 : (-2147483648) ≤ S30.1 231 84 ∧ S30.1 231 84 ≤ 2147483647 := hI30.fi 84
          refine g_X12_520 Cx hW (k := 231) (by decide) rfl (v := S30.1 231 84) rfl dX12_write_43 ?_
          refine lv_aload_n hx hb dX12_write_46 rfl (lv_at hl 2 rfl) ?_
          refine lv_iload_n hx hb dX12_write_47 rfl (lv_at hl 0 rfl) ?_
          refine sBi (sVz (As := [.int (iv k)]) (rest := [.int (iv (S30.1 231 84)), .ref (G.2.2.1 + 275)]) (a := G.1.2 100 si) Cx (s_J0_charAt_5068e l G S30 (si := si) (k := k) hsi (by omega)) (c_X12_285 Cx rfl rfl (rmk_ok (by omega) (by decide))) hW (zRecv Cx hW0 hW hsi) rfl hl.1 rfl (Nat.le_of_ble_eq_true rfl) dX12_write_48 ⟨Nat.le_of_ble_eq_true rfl, Nat.le_of_ble_eq_true rfl⟩) hL (fun r_9 u_7 H locs k_8 hW hL => ?_)
          obtain ⟨eu_7, xu_7⟩ := k_8
          rw [eu_7] at hW
          refine r_i2b hx hb dX12_write_51 (fun z_10 hz_10 kz_10 => ?_)
          refine rBast Cx hW hL (k := 275) (by decide) rfl (by decide) (by omega) (by omega) (nar_b (by omega) (by omega)) dX12_write_52 (fun H locs hW hL => ?_)
          have F_11 : Fr S (uA S30 275 (S30.1 231 84) z_10) (pl [231, 275]) := hFm30.A rfl
          have F_12 : Fr S (uA S30 275 (S30.1 231 84) z_10) (pl [231, 275]) := hFL2830.A rfl
          have F_13 : Fr S28 (uA S30 275 (S30.1 231 84) z_10) (pl [231, 275]) := hL30_.A rfl
          have i_14 : dX G (uA S30 275 (S30.1 231 84) z_10) := hI30.A (k := 275) (show (-128) ≤ z_10 ∧ z_10 ≤ 127 from ⟨by omega, by omega⟩)
          refine lv_aload_n hx hb dX12_write_53 rfl (lv_at hl 1 rfl) ?_
          refine lv_dup hx hb dX12_write_54 rfl ?_
          refine g_X12_520 Cx hW (k := 231) (by decide) rfl (v := S30.1 231 84) uA_f dX12_write_55 ?_
          refine lv_iconst (v := iv 1) hx hb dX12_write_58 (by decide) ?_
          refine r_iadd hx hb dX12_write_59 ?_
          refine p_X12_520 Cx hW hL (k := 231) (by decide) rfl dX12_write_60 (fun H locs hW hL => ?_)
          have F_15 : Fr S (uF (uA S30 275 (S30.1 231 84) z_10) 231 84 ((S30.1 231 84) + 1)) (pl [231, 275]) := F_11.F rfl
          have F_16 : Fr S (uF (uA S30 275 (S30.1 231 84) z_10) 231 84 ((S30.1 231 84) + 1)) (pl [231, 275]) := F_12.F rfl
          have F_17 : Fr S28 (uF (uA S30 275 (S30.1 231 84) z_10) 231 84 ((S30.1 231 84) + 1)) (pl [231, 275]) := F_13.F rfl
          have g_18 : FF S (uF (uA S30 275 (S30.1 231 84) z_10) 231 84 ((S30.1 231 84) + 1)) (fl [84]) := FF.F hGm30 rfl
          have g_19 : FF S (uF (uA S30 275 (S30.1 231 84) z_10) 231 84 ((S30.1 231 84) + 1)) (fl [84]) := FF.F hGL2830 rfl
          have g_20 : FF S28 (uF (uA S30 275 (S30.1 231 84) z_10) 231 84 ((S30.1 231 84) + 1)) (fl [84]) := FF.F gL30_ rfl
          have i_21 : dX G (uF (uA S30 275 (S30.1 231 84) z_10) 231 84 ((S30.1 231 84) + 1)) := i_14.F (i := 84) (show (-2147483648) ≤ (S30.1 231 84) + 1 ∧ (S30.1 231 84) + 1 ≤ 2147483647 from ⟨by omega, by omega⟩)
          refine lv_iinc (v := iv (k + 1)) (lv' := [(2, .int (iv (k + 1))), (0, .ref (G.2.2.1 + 231)), (1, .ref (G.1.2 100 si))]) hx hb dX12_write_63 hl (k := 0) rfl ((Int32.ofInt_add _ _).symm) (by decide) rfl (fun ls hl => ?_)
          refine lv_goto (tgt := 30) hx hb dX12_write_66 (by decide) ?_
          have lk_22 : (uF (uA S30 275 (S30.1 231 84) z_10) 231 84 ((S30.1 231 84) + 1)).1 231 84 = (S30.1 231 84) + 1 := uF_on
          exact ih_30 (uF (uA S30 275 (S30.1 231 84) z_10) 231 84 ((S30.1 231 84) + 1)) (k + 1) _ _ _ (by omega) i_21 F_15 F_16 F_17 g_18 g_19 g_20 (by omega) (by omega) hW hL (lv_sub hl [0, 1, 2] rfl)
    have q_23 : (-2147483648) ≤ S28.1 231 84 ∧ S28.1 231 84 ≤ 2147483647 := hI28.fi 84
    exact loop_30 (_ + 1) S28 0 _ _ _ (Nat.lt_succ_self _) hI28 hFm28 hL28_ Fr.rf hGm28 gL28_ FF.rf (by omega) (by omega) hW hL (lv_sub hl [0, 1, 2] rfl)
  refine lv_aload_n hx hb dX12_write_0 rfl (lv_at hl 0 rfl) ?_
  have q_24 : (-2147483648) ≤ S.1 231 84 ∧ S.1 231 84 ≤ 2147483647 := hI.fi 84
  refine g_X12_520 Cx hW (k := 231) (by decide) rfl (v := S.1 231 84) rfl dX12_write_1 ?_
  refine r_if_le (tgt := 28) hx hb ⟨(by omega), (by omega)⟩ dX12_write_4 (by decide) (fun c_25 => ?_) (fun c_25 => ?_)
  · exact join_28 S  _ _ _ hI (Fr.rf : Fr S S (pl [231, 275])) (Fr.rf : Fr S S (pl [231, 275])) FF.rf (FF.rf : FF S S (fl [84])) (by omega) hW hL (lv_sub hl [0, 1] rfl)
  · refine lv_aload_n hx hb dX12_write_7 rfl (lv_at hl 0 rfl) ?_
    refine g_X12_144 Cx hW (k := 231) (by decide) rfl (v := .ref (G.2.2.1 + 275)) (rd_83 hI) dX12_write_8 ?_
    refine lv_aload_n hx hb dX12_write_11 rfl (lv_at hl 0 rfl) ?_
    refine g_X12_520 Cx hW (k := 231) (by decide) rfl (v := S.1 231 84) rfl dX12_write_12 ?_
    refine lv_bipush (v := iv 32) hx hb dX12_write_15 (by decide) ?_
    refine rBast Cx hW hL (k := 275) (by decide) rfl (by decide) (by omega) (by omega) (nar_b (by omega) (by omega)) dX12_write_17 (fun H locs hW hL => ?_)
    have F_26 : Fr S (uA S 275 (S.1 231 84) 32) (pl [231, 275]) := (Fr.rf : Fr S S (pl [231, 275])).A rfl
    have F_27 : Fr S (uA S 275 (S.1 231 84) 32) (pl [231, 275]) := (Fr.rf : Fr S S (pl [231, 275])).A rfl
    have i_28 : dX G (uA S 275 (S.1 231 84) 32) := hI.A (k := 275) (show (-128) ≤ 32 ∧ 32 ≤ 127 from ⟨by omega, by omega⟩)
    refine lv_aload_n hx hb dX12_write_18 rfl (lv_at hl 0 rfl) ?_
    refine lv_dup hx hb dX12_write_19 rfl ?_
    refine g_X12_520 Cx hW (k := 231) (by decide) rfl (v := S.1 231 84) uA_f dX12_write_20 ?_
    refine lv_iconst (v := iv 1) hx hb dX12_write_23 (by decide) ?_
    refine r_iadd hx hb dX12_write_24 ?_
    refine p_X12_520 Cx hW hL (k := 231) (by decide) rfl dX12_write_25 (fun H locs hW hL => ?_)
    have F_29 : Fr S (uF (uA S 275 (S.1 231 84) 32) 231 84 ((S.1 231 84) + 1)) (pl [231, 275]) := F_26.F rfl
    have F_30 : Fr S (uF (uA S 275 (S.1 231 84) 32) 231 84 ((S.1 231 84) + 1)) (pl [231, 275]) := F_27.F rfl
    have g_31 : FF S (uF (uA S 275 (S.1 231 84) 32) 231 84 ((S.1 231 84) + 1)) (fl [84]) := FF.F FF.rf rfl
    have g_32 : FF S (uF (uA S 275 (S.1 231 84) 32) 231 84 ((S.1 231 84) + 1)) (fl [84]) := FF.F (FF.rf : FF S S (fl [84])) rfl
    have i_33 : dX G (uF (uA S 275 (S.1 231 84) 32) 231 84 ((S.1 231 84) + 1)) := i_28.F (i := 84) (show (-2147483648) ≤ (S.1 231 84) + 1 ∧ (S.1 231 84) + 1 ≤ 2147483647 from ⟨by omega, by omega⟩)
    have lk_34 : (uF (uA S 275 (S.1 231 84) 32) 231 84 ((S.1 231 84) + 1)).1 231 84 = (S.1 231 84) + 1 := uF_on
    exact join_28 (uF (uA S 275 (S.1 231 84) 32) 231 84 ((S.1 231 84) + 1))  _ _ _ i_33 F_29 F_30 g_31 g_32 (by omega) hW hL (lv_sub hl [0, 1] rfl)

set_option maxRecDepth 100000 in
set_option maxHeartbeats 4000000 in
theorem s_X12_say (l : Launch) (G : sG) (S : sS) {si : Nat} (hI : dX G S) (hsi : si < 38) (hts : 0 ≤ S.1 231 86 ∧ S.1 231 86 ≤ 35900) : Met l yX12_say (.code yX12_say cX12_say 3 none :: tb) (rmk 5 0 0) (sPc G 294 S [.ref (G.2.2.1 + 231), .ref (G.1.2 100 si)]) (sQv G 294 (fun u => dX G u ∧ Fr S u (pl [231, 276]) ∧ FF S u (fl [86]) ∧ (S.1 231 86 ≤ u.1 231 86 ∧ u.1 231 86 ≤ S.1 231 86 + 1 + (strN.getD si 0 : Nat)))) 0 0 (sF G) := by
  refine sEnter (by decide) (Nat.le_of_ble_eq_true rfl) ?_
  intro p e s m args below meth c Cx hr hlk hnm hW ls hl
  have Cx : sC G p m c cX12_say 3 s args RX12 := Cx
  obtain ⟨hx, hb, hml, hown, hts⟩ := id Cx.1
  have hL : sL G [] := sL_nil
  have hl : lv_has ls 3 [(0, .ref (G.2.2.1 + 231)), (1, .ref (G.1.2 100 si))] := hl
  have hW0 := hW
  have hnr := strN_r si hsi
  have join_28 : ∀ (S28 : sS)  (H : Heap) (locs : List Loc) (ls : Array Slot), (dX G S28) → (Fr S S28 (pl [231, 276])) → (Fr S S28 (pl [231, 276])) → (FF S S28 (fl [86])) → (FF S S28 (fl [86])) → (S.1 231 86 ≤ S28.1 231 86 ∧ S28.1 231 86 ≤ S.1 231 86 + 1) → sW G 294 S28 H → sL G locs → lv_has ls 3 [(0, .ref (G.2.2.1 + 231)), (1, .ref (G.1.2 100 si))] → W p l e (rmk 5 0 0) s m args below meth c H locs 0 0 (MQ below (sQv G 294 (fun u => dX G u ∧ Fr S u (pl [231, 276]) ∧ FF S u (fl [86]) ∧ (S.1 231 86 ≤ u.1 231 86 ∧ u.1 231 86 ≤ S.1 231 86 + 1 + (strN.getD si 0 : Nat)))) args s 0 0 (sF G)) (F0 m 28 ls []) := by
    intro S28  H locs ls hI28 hFm28 hL28_ hGm28 gL28_ h28 hW hL hl
    refine lv_iconst (v := iv 0) hx hb dX12_say_28 (by decide) ?_
    refine lv_istore_n (lv' := [(2, .int (iv 0)), (0, .ref (G.2.2.1 + 231)), (1, .ref (G.1.2 100 si))]) hx hb dX12_say_29 rfl hl (by decide) rfl (fun ls hl => ?_)
    have loop_30 : ∀ (fuel : Nat) (S30 : sS) (k : Int) (H : Heap) (locs : List Loc) (ls : Array Slot), (71 - k).toNat < fuel → (dX G S30) → (Fr S S30 (pl [231, 276])) → (Fr S S30 (pl [231, 276])) → (Fr S28 S30 (pl [231, 276])) → (FF S S30 (fl [86])) → (FF S S30 (fl [86])) → (FF S28 S30 (fl [86])) → (0 ≤ k ∧ k ≤ (strN.getD si 0 : Nat)) → (S.1 231 86 ≤ S30.1 231 86 ∧ S30.1 231 86 ≤ S.1 231 86 + 1 + k) → sW G 294 S30 H → sL G locs → lv_has ls 3 [(2, .int (iv k)), (0, .ref (G.2.2.1 + 231)), (1, .ref (G.1.2 100 si))] → W p l e (rmk 5 0 0) s m args below meth c H locs 0 0 (MQ below (sQv G 294 (fun u => dX G u ∧ Fr S u (pl [231, 276]) ∧ FF S u (fl [86]) ∧ (S.1 231 86 ≤ u.1 231 86 ∧ u.1 231 86 ≤ S.1 231 86 + 1 + (strN.getD si 0 : Nat)))) args s 0 0 (sF G)) (F0 m 30 ls []) := by
      intro fuel
      induction fuel with
      | zero => intro S30 k H locs ls hmeas hI30 hFm30 hFL2830 hL30_ hGm30 hGL2830 gL30_ hk h30 hW hL hl; exact absurd hmeas (Nat.not_lt_zero _)
      | succ fuel ih_30 =>
        intro S30 k H locs ls hmeas hI30 hFm30 hFL2830 hL30_ hGm30 hGL2830 gL30_ hk h30 hW hL hl
        refine lv_iload_n hx hb dX12_say_30 rfl (lv_at hl 0 rfl) ?_
        refine lv_aload_n hx hb dX12_say_31 rfl (lv_at hl 2 rfl) ?_
        refine sBi (sVz (As := []) (rest := [.int (iv k)]) (a := G.1.2 100 si) Cx (s_J0_length_8abf5 l G S30 (si := si) hsi) (c_X12_279 Cx rfl rfl (rmk_ok (by omega) (by decide))) hW (zRecv Cx hW0 hW hsi) rfl hl.1 rfl (Nat.le_of_ble_eq_true rfl) dX12_say_32 ⟨Nat.le_of_ble_eq_true rfl, Nat.le_of_ble_eq_true rfl⟩) hL (fun r_3 u_1 H locs k_2 hW hL => ?_)
        obtain ⟨eu_1, xu_1⟩ := k_2
        rw [eu_1] at hW
        refine r_icmp_ge (tgt := 69) hx hb ⟨(by omega), (by omega)⟩ ⟨(by omega), (by omega)⟩ dX12_say_35 (by decide) (fun c_4 => ?_) (fun c_4 => ?_)
        · have q_5 : (-2147483648) ≤ S30.1 231 86 ∧ S30.1 231 86 ≤ 2147483647 := hI30.fi 86
          exact sVret Cx hr hlk hW hL ⟨hI30, hFm30, hGm30, (by omega)⟩ dX12_say_69
        · refine lv_aload_n hx hb dX12_say_38 rfl (lv_at hl 1 rfl) ?_
          refine g_X12_148 Cx hW (k := 231) (by decide) rfl (v := .ref (G.2.2.1 + 276)) (rd_85 hI30) dX12_say_39 ?_
          refine lv_aload_n hx hb dX12_say_42 rfl (lv_at hl 1 rfl) ?_
          have q_6 : (-2147483648) ≤ S30.1 231 86 ∧ S30.1 231 86 ≤ 2147483647 := hI30.fi 86
          refine g_X12_523 Cx hW (k := 231) (by decide) rfl (v := S30.1 231 86) rfl dX12_say_43 ?_
          refine lv_aload_n hx hb dX12_say_46 rfl (lv_at hl 2 rfl) ?_
          refine lv_iload_n hx hb dX12_say_47 rfl (lv_at hl 0 rfl) ?_
          refine sBi (sVz (As := [.int (iv k)]) (rest := [.int (iv (S30.1 231 86)), .ref (G.2.2.1 + 276)]) (a := G.1.2 100 si) Cx (s_J0_charAt_5068e l G S30 (si := si) (k := k) hsi (by omega)) (c_X12_285 Cx rfl rfl (rmk_ok (by omega) (by decide))) hW (zRecv Cx hW0 hW hsi) rfl hl.1 rfl (Nat.le_of_ble_eq_true rfl) dX12_say_48 ⟨Nat.le_of_ble_eq_true rfl, Nat.le_of_ble_eq_true rfl⟩) hL (fun r_9 u_7 H locs k_8 hW hL => ?_)
          obtain ⟨eu_7, xu_7⟩ := k_8
          rw [eu_7] at hW
          refine r_i2b hx hb dX12_say_51 (fun z_10 hz_10 kz_10 => ?_)
          refine rBast Cx hW hL (k := 276) (by decide) rfl (by decide) (by omega) (by omega) (nar_b (by omega) (by omega)) dX12_say_52 (fun H locs hW hL => ?_)
          have F_11 : Fr S (uA S30 276 (S30.1 231 86) z_10) (pl [231, 276]) := hFm30.A rfl
          have F_12 : Fr S (uA S30 276 (S30.1 231 86) z_10) (pl [231, 276]) := hFL2830.A rfl
          have F_13 : Fr S28 (uA S30 276 (S30.1 231 86) z_10) (pl [231, 276]) := hL30_.A rfl
          have i_14 : dX G (uA S30 276 (S30.1 231 86) z_10) := hI30.A (k := 276) (show (-128) ≤ z_10 ∧ z_10 ≤ 127 from ⟨by omega, by omega⟩)
          refine lv_aload_n hx hb dX12_say_53 rfl (lv_at hl 1 rfl) ?_
          refine lv_dup hx hb dX12_say_54 rfl ?_
          refine g_X12_523 Cx hW (k := 231) (by decide) rfl (v := S30.1 231 86) uA_f dX12_say_55 ?_
          refine lv_iconst (v := iv 1) hx hb dX12_say_58 (by decide) ?_
          refine r_iadd hx hb dX12_say_59 ?_
          refine p_X12_523 Cx hW hL (k := 231) (by decide) rfl dX12_say_60 (fun H locs hW hL => ?_)
          have F_15 : Fr S (uF (uA S30 276 (S30.1 231 86) z_10) 231 86 ((S30.1 231 86) + 1)) (pl [231, 276]) := F_11.F rfl
          have F_16 : Fr S (uF (uA S30 276 (S30.1 231 86) z_10) 231 86 ((S30.1 231 86) + 1)) (pl [231, 276]) := F_12.F rfl
          have F_17 : Fr S28 (uF (uA S30 276 (S30.1 231 86) z_10) 231 86 ((S30.1 231 86) + 1)) (pl [231, 276]) := F_13.F rfl
          have g_18 : FF S (uF (uA S30 276 (S30.1 231 86) z_10) 231 86 ((S30.1 231 86) + 1)) (fl [86]) := FF.F hGm30 rfl
          have g_19 : FF S (uF (uA S30 276 (S30.1 231 86) z_10) 231 86 ((S30.1 231 86) + 1)) (fl [86]) := FF.F hGL2830 rfl
          have g_20 : FF S28 (uF (uA S30 276 (S30.1 231 86) z_10) 231 86 ((S30.1 231 86) + 1)) (fl [86]) := FF.F gL30_ rfl
          have i_21 : dX G (uF (uA S30 276 (S30.1 231 86) z_10) 231 86 ((S30.1 231 86) + 1)) := i_14.F (i := 86) (show (-2147483648) ≤ (S30.1 231 86) + 1 ∧ (S30.1 231 86) + 1 ≤ 2147483647 from ⟨by omega, by omega⟩)
          refine lv_iinc (v := iv (k + 1)) (lv' := [(2, .int (iv (k + 1))), (0, .ref (G.2.2.1 + 231)), (1, .ref (G.1.2 100 si))]) hx hb dX12_say_63 hl (k := 0) rfl ((Int32.ofInt_add _ _).symm) (by decide) rfl (fun ls hl => ?_)
          refine lv_goto (tgt := 30) hx hb dX12_say_66 (by decide) ?_
          have lk_22 : (uF (uA S30 276 (S30.1 231 86) z_10) 231 86 ((S30.1 231 86) + 1)).1 231 86 = (S30.1 231 86) + 1 := uF_on
          exact ih_30 (uF (uA S30 276 (S30.1 231 86) z_10) 231 86 ((S30.1 231 86) + 1)) (k + 1) _ _ _ (by omega) i_21 F_15 F_16 F_17 g_18 g_19 g_20 (by omega) (by omega) hW hL (lv_sub hl [0, 1, 2] rfl)
    have q_23 : (-2147483648) ≤ S28.1 231 86 ∧ S28.1 231 86 ≤ 2147483647 := hI28.fi 86
    exact loop_30 (_ + 1) S28 0 _ _ _ (Nat.lt_succ_self _) hI28 hFm28 hL28_ Fr.rf hGm28 gL28_ FF.rf (by omega) (by omega) hW hL (lv_sub hl [0, 1, 2] rfl)
  refine lv_aload_n hx hb dX12_say_0 rfl (lv_at hl 0 rfl) ?_
  have q_24 : (-2147483648) ≤ S.1 231 86 ∧ S.1 231 86 ≤ 2147483647 := hI.fi 86
  refine g_X12_523 Cx hW (k := 231) (by decide) rfl (v := S.1 231 86) rfl dX12_say_1 ?_
  refine r_if_le (tgt := 28) hx hb ⟨(by omega), (by omega)⟩ dX12_say_4 (by decide) (fun c_25 => ?_) (fun c_25 => ?_)
  · exact join_28 S  _ _ _ hI (Fr.rf : Fr S S (pl [231, 276])) (Fr.rf : Fr S S (pl [231, 276])) FF.rf (FF.rf : FF S S (fl [86])) (by omega) hW hL (lv_sub hl [0, 1] rfl)
  · refine lv_aload_n hx hb dX12_say_7 rfl (lv_at hl 0 rfl) ?_
    refine g_X12_148 Cx hW (k := 231) (by decide) rfl (v := .ref (G.2.2.1 + 276)) (rd_85 hI) dX12_say_8 ?_
    refine lv_aload_n hx hb dX12_say_11 rfl (lv_at hl 0 rfl) ?_
    refine g_X12_523 Cx hW (k := 231) (by decide) rfl (v := S.1 231 86) rfl dX12_say_12 ?_
    refine lv_bipush (v := iv 32) hx hb dX12_say_15 (by decide) ?_
    refine rBast Cx hW hL (k := 276) (by decide) rfl (by decide) (by omega) (by omega) (nar_b (by omega) (by omega)) dX12_say_17 (fun H locs hW hL => ?_)
    have F_26 : Fr S (uA S 276 (S.1 231 86) 32) (pl [231, 276]) := (Fr.rf : Fr S S (pl [231, 276])).A rfl
    have F_27 : Fr S (uA S 276 (S.1 231 86) 32) (pl [231, 276]) := (Fr.rf : Fr S S (pl [231, 276])).A rfl
    have i_28 : dX G (uA S 276 (S.1 231 86) 32) := hI.A (k := 276) (show (-128) ≤ 32 ∧ 32 ≤ 127 from ⟨by omega, by omega⟩)
    refine lv_aload_n hx hb dX12_say_18 rfl (lv_at hl 0 rfl) ?_
    refine lv_dup hx hb dX12_say_19 rfl ?_
    refine g_X12_523 Cx hW (k := 231) (by decide) rfl (v := S.1 231 86) uA_f dX12_say_20 ?_
    refine lv_iconst (v := iv 1) hx hb dX12_say_23 (by decide) ?_
    refine r_iadd hx hb dX12_say_24 ?_
    refine p_X12_523 Cx hW hL (k := 231) (by decide) rfl dX12_say_25 (fun H locs hW hL => ?_)
    have F_29 : Fr S (uF (uA S 276 (S.1 231 86) 32) 231 86 ((S.1 231 86) + 1)) (pl [231, 276]) := F_26.F rfl
    have F_30 : Fr S (uF (uA S 276 (S.1 231 86) 32) 231 86 ((S.1 231 86) + 1)) (pl [231, 276]) := F_27.F rfl
    have g_31 : FF S (uF (uA S 276 (S.1 231 86) 32) 231 86 ((S.1 231 86) + 1)) (fl [86]) := FF.F FF.rf rfl
    have g_32 : FF S (uF (uA S 276 (S.1 231 86) 32) 231 86 ((S.1 231 86) + 1)) (fl [86]) := FF.F (FF.rf : FF S S (fl [86])) rfl
    have i_33 : dX G (uF (uA S 276 (S.1 231 86) 32) 231 86 ((S.1 231 86) + 1)) := i_28.F (i := 86) (show (-2147483648) ≤ (S.1 231 86) + 1 ∧ (S.1 231 86) + 1 ≤ 2147483647 from ⟨by omega, by omega⟩)
    have lk_34 : (uF (uA S 276 (S.1 231 86) 32) 231 86 ((S.1 231 86) + 1)).1 231 86 = (S.1 231 86) + 1 := uF_on
    exact join_28 (uF (uA S 276 (S.1 231 86) 32) 231 86 ((S.1 231 86) + 1))  _ _ _ i_33 F_29 F_30 g_31 g_32 (by omega) hW hL (lv_sub hl [0, 1] rfl)

set_option maxRecDepth 100000 in
set_option maxHeartbeats 4000000 in
theorem s_X12_writeNumber (l : Launch) (G : sG) (S : sS) {ka Nka : Nat} {po La : Int} (hI : dX G S) (hika : ia ka Nka) (nka231 : Hd (ka ≠ 231)) (nka236 : Hd (ka ≠ 236)) (nka275 : Hd (ka ≠ 275)) (hR : (0 ≤ po ∧ po + La < Nka) ∧ La ≤ 60) (hts : 0 ≤ S.1 231 84 ∧ S.1 231 84 ≤ 33000) (hA : NO (S.2.1 ka) po La) : Met l yX12_writeNumber (.code yX12_writeNumber cX12_writeNumber 4 none :: tb) (rmk 4 0 0) (sPc G 294 S [.ref (G.2.2.1 + 231), .ref (G.2.2.1 + ka), .int (iv po)]) (sQv G 294 (fun u => dX G u ∧ Fr S u (pl [231, 236, 275]) ∧ FF S u (fl [6, 84]) ∧ (S.1 231 84 ≤ u.1 231 84 ∧ u.1 231 84 ≤ S.1 231 84 + 9 * La + 3))) 0 0 (sF G) := by
  refine sEnter (by decide) (Nat.le_of_ble_eq_true rfl) ?_
  intro p e s m args below meth c Cx hr hlk hnm hW ls hl
  have Cx : sC G p m c cX12_writeNumber 4 s args RX12 := Cx
  obtain ⟨hx, hb, hml, hown, hts⟩ := id Cx.1
  have hL : sL G [] := sL_nil
  have hl : lv_has ls 4 [(0, .ref (G.2.2.1 + 231)), (1, .ref (G.2.2.1 + ka)), (2, .int (iv po))] := hl
  have hW0 := hW
  have hN := hika.2.2.2.1
  have hA1 := hA.b
  refine lv_aload_n hx hb dX12_writeNumber_0 rfl (lv_at hl 0 rfl) ?_
  refine g_X12_144 Cx hW (k := 231) (by decide) rfl (v := .ref (G.2.2.1 + 275)) (rd_83 hI) dX12_writeNumber_1 ?_
  refine lv_aload_n hx hb dX12_writeNumber_4 rfl (lv_at hl 0 rfl) ?_
  have q_1 : (-2147483648) ≤ S.1 231 84 ∧ S.1 231 84 ≤ 2147483647 := hI.fi 84
  refine g_X12_520 Cx hW (k := 231) (by decide) rfl (v := S.1 231 84) rfl dX12_writeNumber_5 ?_
  refine lv_bipush (v := iv 32) hx hb dX12_writeNumber_8 (by decide) ?_
  refine rBast Cx hW hL (k := 275) (by decide) rfl (by decide) (by omega) (by omega) (nar_b (by omega) (by omega)) dX12_writeNumber_10 (fun H locs hW hL => ?_)
  have F_2 : Fr S (uA S 275 (S.1 231 84) 32) (pl [231, 236, 275]) := (Fr.rf : Fr S S (pl [231, 236, 275])).A rfl
  have i_3 : dX G (uA S 275 (S.1 231 84) 32) := hI.A (k := 275) (show (-128) ≤ 32 ∧ 32 ≤ 127 from ⟨by omega, by omega⟩)
  refine lv_aload_n hx hb dX12_writeNumber_11 rfl (lv_at hl 0 rfl) ?_
  refine lv_dup hx hb dX12_writeNumber_12 rfl ?_
  refine g_X12_520 Cx hW (k := 231) (by decide) rfl (v := S.1 231 84) uA_f dX12_writeNumber_13 ?_
  refine lv_iconst (v := iv 1) hx hb dX12_writeNumber_16 (by decide) ?_
  refine r_iadd hx hb dX12_writeNumber_17 ?_
  refine p_X12_520 Cx hW hL (k := 231) (by decide) rfl dX12_writeNumber_18 (fun H locs hW hL => ?_)
  have F_4 : Fr S (uF (uA S 275 (S.1 231 84) 32) 231 84 ((S.1 231 84) + 1)) (pl [231, 236, 275]) := F_2.F rfl
  have g_5 : FF S (uF (uA S 275 (S.1 231 84) 32) 231 84 ((S.1 231 84) + 1)) (fl [6, 84]) := FF.F FF.rf rfl
  have i_6 : dX G (uF (uA S 275 (S.1 231 84) 32) 231 84 ((S.1 231 84) + 1)) := i_3.F (i := 84) (show (-2147483648) ≤ (S.1 231 84) + 1 ∧ (S.1 231 84) + 1 ≤ 2147483647 from ⟨by omega, by omega⟩)
  refine lv_aload_n hx hb dX12_writeNumber_21 rfl (lv_at hl 0 rfl) ?_
  refine lv_iconst (v := iv 0) hx hb dX12_writeNumber_22 (by decide) ?_
  refine p_X12_259 Cx hW hL (k := 231) (by decide) rfl dX12_writeNumber_23 (fun H locs hW hL => ?_)
  have F_7 : Fr S (uF (uF (uA S 275 (S.1 231 84) 32) 231 84 ((S.1 231 84) + 1)) 231 6 0) (pl [231, 236, 275]) := F_4.F rfl
  have g_8 : FF S (uF (uF (uA S 275 (S.1 231 84) 32) 231 84 ((S.1 231 84) + 1)) 231 6 0) (fl [6, 84]) := FF.F g_5 rfl
  have i_9 : dX G (uF (uF (uA S 275 (S.1 231 84) 32) 231 84 ((S.1 231 84) + 1)) 231 6 0) := i_6.F (i := 6) (show (-2147483648) ≤ 0 ∧ 0 ≤ 2147483647 from ⟨by omega, by omega⟩)
  refine lv_aload_n hx hb dX12_writeNumber_26 rfl (lv_at hl 0 rfl) ?_
  refine lv_aload_n hx hb dX12_writeNumber_27 rfl (lv_at hl 1 rfl) ?_
  refine lv_iload_n hx hb dX12_writeNumber_28 rfl (lv_at hl 2 rfl) ?_
  have lk_10 : (uF (uF (uA S 275 (S.1 231 84) 32) 231 84 ((S.1 231 84) + 1)) 231 6 0).1 231 6 = 0 := uF_on
  refine sBv (sV (As := [.ref (G.2.2.1 + ka), .int (iv po)]) (rest := []) (k := 231) Cx (s_X12_spell l G (uF (uF (uA S 275 (S.1 231 84) 32) 231 84 ((S.1 231 84) + 1)) 231 6 0) (ka := ka) (po := po) (Nka := Nka) (La := La) i_9 hika (by omega) (by omega) (by rw [show (uF (uF (uA S 275 (S.1 231 84) 32) 231 84 ((S.1 231 84) + 1)) 231 6 0).2.1 ka = S.2.1 ka from (funext fun j => (uF_a).trans ((uF_a).trans (uA_ne (fun h => absurd h.1 (neD nka275)))) : (uF (uF (uA S 275 (S.1 231 84) 32) 231 84 ((S.1 231 84) + 1)) 231 6 0).2.1 ka = S.2.1 ka)]; exact hA) (neD nka231) (neD nka236)) (c_X12_594 Cx rfl rfl (rmk_ok (by omega) (by decide))) hW (by decide) rfl rfl rfl hl.1 rfl (Nat.le_of_ble_eq_true rfl) dX12_writeNumber_29 ⟨Nat.le_of_ble_eq_true rfl, Nat.le_of_ble_eq_true rfl⟩) hL (fun u_11 H locs k_12 hW hL => ?_)
  obtain ⟨iu_11, fu_11, gu_11, xu_11⟩ := k_12
  have F_13 := F_7.trans (fu_11.to (pl_sub (by decide)))
  have g_14 : FF S u_11 (fl [6, 84]) := FF.trans g_8 (FF.to gu_11 (fl_sub (by decide)))
  refine lv_iconst (v := iv 0) hx hb dX12_writeNumber_32 (by decide) ?_
  refine lv_istore_n (lv' := [(3, .int (iv 0)), (0, .ref (G.2.2.1 + 231)), (1, .ref (G.2.2.1 + ka)), (2, .int (iv po))]) hx hb dX12_writeNumber_33 rfl hl (by decide) rfl (fun ls hl => ?_)
  have loop_34 : ∀ (fuel : Nat) (S34 : sS) (k : Int) (H : Heap) (locs : List Loc) (ls : Array Slot), (600 - k).toNat < fuel → (dX G S34) → (Fr S S34 (pl [231, 236, 275])) → (Fr u_11 S34 (pl [231, 275])) → (FF S S34 (fl [6, 84])) → (FF u_11 S34 (fl [84])) → (0 ≤ k ∧ k ≤ u_11.1 231 6) → (S34.1 231 84 = S.1 231 84 + 1 + k) → sW G 294 S34 H → sL G locs → lv_has ls 4 [(3, .int (iv k)), (0, .ref (G.2.2.1 + 231)), (1, .ref (G.2.2.1 + ka)), (2, .int (iv po))] → W p l e (rmk 4 0 0) s m args below meth c H locs 0 0 (MQ below (sQv G 294 (fun u => dX G u ∧ Fr S u (pl [231, 236, 275]) ∧ FF S u (fl [6, 84]) ∧ (S.1 231 84 ≤ u.1 231 84 ∧ u.1 231 84 ≤ S.1 231 84 + 9 * La + 3))) args s 0 0 (sF G)) (F0 m 34 ls []) := by
    intro fuel
    induction fuel with
    | zero => intro S34 k H locs ls hmeas hI34 hFm34 hL34_ hGm34 gL34_ hk h34 hW hL hl; exact absurd hmeas (Nat.not_lt_zero _)
    | succ fuel ih_34 =>
      intro S34 k H locs ls hmeas hI34 hFm34 hL34_ hGm34 gL34_ hk h34 hW hL hl
      refine lv_iload_n hx hb dX12_writeNumber_34 rfl (lv_at hl 0 rfl) ?_
      refine lv_aload_n hx hb dX12_writeNumber_35 rfl (lv_at hl 1 rfl) ?_
      have q_15 : (-2147483648) ≤ u_11.1 231 6 ∧ u_11.1 231 6 ≤ 2147483647 := iu_11.fi 6
      refine g_X12_259 Cx hW (k := 231) (by decide) rfl (v := u_11.1 231 6) (gL34_ 6 rfl) dX12_writeNumber_36 ?_
      refine r_icmp_ge (tgt := 73) hx hb ⟨(by omega), (by omega)⟩ ⟨(by omega), (by omega)⟩ dX12_writeNumber_39 (by decide) (fun c_16 => ?_) (fun c_16 => ?_)
      · have q_17 : (-2147483648) ≤ S34.1 231 84 ∧ S34.1 231 84 ≤ 2147483647 := hI34.fi 84
        exact sVret Cx hr hlk hW hL ⟨hI34, hFm34, hGm34, (by omega)⟩ dX12_writeNumber_73
      · refine lv_aload_n hx hb dX12_writeNumber_42 rfl (lv_at hl 1 rfl) ?_
        refine g_X12_144 Cx hW (k := 231) (by decide) rfl (v := .ref (G.2.2.1 + 275)) (rd_83 hI34) dX12_writeNumber_43 ?_
        refine lv_aload_n hx hb dX12_writeNumber_46 rfl (lv_at hl 1 rfl) ?_
        have q_18 : (-2147483648) ≤ S34.1 231 84 ∧ S34.1 231 84 ≤ 2147483647 := hI34.fi 84
        refine g_X12_520 Cx hW (k := 231) (by decide) rfl (v := S34.1 231 84) rfl dX12_writeNumber_47 ?_
        refine lv_aload_n hx hb dX12_writeNumber_50 rfl (lv_at hl 1 rfl) ?_
        refine g_X12_23 Cx hW (k := 231) (by decide) rfl (v := .ref (G.2.2.1 + 236)) (rd_5 hI34) dX12_writeNumber_51 ?_
        refine lv_iload_n hx hb dX12_writeNumber_54 rfl (lv_at hl 0 rfl) ?_
        refine rBald Cx hW (k := 236) (by decide) rfl (by decide) (by omega) (by omega) dX12_writeNumber_55 ?_
        have q_19 : (-128) ≤ u_11.2.1 236 k ∧ u_11.2.1 236 k ≤ 127 := iu_11.ai 236 k
        refine r_i (b := u_11.2.1 236 k) ((hL34_ 236 rfl).2.1 k) ?_
        refine rBast Cx hW hL (k := 275) (by decide) rfl (by decide) (by omega) (by omega) (nar_b (by omega) (by omega)) dX12_writeNumber_56 (fun H locs hW hL => ?_)
        have F_20 : Fr S (uA S34 275 (S34.1 231 84) (u_11.2.1 236 k)) (pl [231, 236, 275]) := hFm34.A rfl
        have F_21 : Fr u_11 (uA S34 275 (S34.1 231 84) (u_11.2.1 236 k)) (pl [231, 275]) := hL34_.A rfl
        have i_22 : dX G (uA S34 275 (S34.1 231 84) (u_11.2.1 236 k)) := hI34.A (k := 275) (show (-128) ≤ u_11.2.1 236 k ∧ u_11.2.1 236 k ≤ 127 from ⟨by omega, by omega⟩)
        refine lv_aload_n hx hb dX12_writeNumber_57 rfl (lv_at hl 1 rfl) ?_
        refine lv_dup hx hb dX12_writeNumber_58 rfl ?_
        refine g_X12_520 Cx hW (k := 231) (by decide) rfl (v := S34.1 231 84) uA_f dX12_writeNumber_59 ?_
        refine lv_iconst (v := iv 1) hx hb dX12_writeNumber_62 (by decide) ?_
        refine r_iadd hx hb dX12_writeNumber_63 ?_
        refine p_X12_520 Cx hW hL (k := 231) (by decide) rfl dX12_writeNumber_64 (fun H locs hW hL => ?_)
        have F_23 : Fr S (uF (uA S34 275 (S34.1 231 84) (u_11.2.1 236 k)) 231 84 ((S34.1 231 84) + 1)) (pl [231, 236, 275]) := F_20.F rfl
        have F_24 : Fr u_11 (uF (uA S34 275 (S34.1 231 84) (u_11.2.1 236 k)) 231 84 ((S34.1 231 84) + 1)) (pl [231, 275]) := F_21.F rfl
        have g_25 : FF S (uF (uA S34 275 (S34.1 231 84) (u_11.2.1 236 k)) 231 84 ((S34.1 231 84) + 1)) (fl [6, 84]) := FF.F hGm34 rfl
        have g_26 : FF u_11 (uF (uA S34 275 (S34.1 231 84) (u_11.2.1 236 k)) 231 84 ((S34.1 231 84) + 1)) (fl [84]) := FF.F gL34_ rfl
        have i_27 : dX G (uF (uA S34 275 (S34.1 231 84) (u_11.2.1 236 k)) 231 84 ((S34.1 231 84) + 1)) := i_22.F (i := 84) (show (-2147483648) ≤ (S34.1 231 84) + 1 ∧ (S34.1 231 84) + 1 ≤ 2147483647 from ⟨by omega, by omega⟩)
        refine lv_iinc (v := iv (k + 1)) (lv' := [(3, .int (iv (k + 1))), (0, .ref (G.2.2.1 + 231)), (1, .ref (G.2.2.1 + ka)), (2, .int (iv po))]) hx hb dX12_writeNumber_67 hl (k := 0) rfl ((Int32.ofInt_add _ _).symm) (by decide) rfl (fun ls hl => ?_)
        refine lv_goto (tgt := 34) hx hb dX12_writeNumber_70 (by decide) ?_
        have lk_28 : (uF (uA S34 275 (S34.1 231 84) (u_11.2.1 236 k)) 231 84 ((S34.1 231 84) + 1)).1 231 84 = (S34.1 231 84) + 1 := uF_on
        exact ih_34 (uF (uA S34 275 (S34.1 231 84) (u_11.2.1 236 k)) 231 84 ((S34.1 231 84) + 1)) (k + 1) _ _ _ (by omega) i_27 F_23 F_24 g_25 g_26 (by omega) (by omega) hW hL (lv_sub hl [0, 1, 2, 3] rfl)
  have lk_29 : u_11.1 231 84 = (S.1 231 84) + 1 := (gu_11 84 rfl).trans ((uF_ne (fun h => absurd h.2 (by decide))).trans (uF_on))
  exact loop_34 (_ + 1) u_11 0 _ _ _ (Nat.lt_succ_self _) iu_11 F_13 Fr.rf g_14 FF.rf (by omega) (by omega) hW hL (lv_sub hl [0, 1, 2, 3] rfl)

set_option maxRecDepth 100000 in
set_option maxHeartbeats 4000000 in
theorem s_X12_writeSmall (l : Launch) (G : sG) (S : sS) {v : Int} (hI : dX G S) (hv : 0 ≤ v ∧ v ≤ 999999999) (hts : 0 ≤ S.1 231 84 ∧ S.1 231 84 ≤ 33000) : Met l yX12_writeSmall (.code yX12_writeSmall cX12_writeSmall 3 none :: tb) (rmk 5 0 0) (sPc G 294 S [.ref (G.2.2.1 + 231), .long (jv v)]) (sQv G 294 (fun u => dX G u ∧ Fr S u (pl [231, 236, 275, 277]) ∧ FF S u (fl [6, 84]) ∧ (S.1 231 84 ≤ u.1 231 84 ∧ u.1 231 84 ≤ S.1 231 84 + 12))) 0 0 (sF G) := by
  refine sEnter (by decide) (Nat.le_of_ble_eq_true rfl) ?_
  intro p e s m args below meth c Cx hr hlk hnm hW ls hl
  have Cx : sC G p m c cX12_writeSmall 3 s args RX12 := Cx
  obtain ⟨hx, hb, hml, hown, hts⟩ := id Cx.1
  have hL : sL G [] := sL_nil
  have hl : lv_has ls 3 [(0, .ref (G.2.2.1 + 231)), (1, .long (jv v))] := hl
  have hW0 := hW
  refine lv_aload_n hx hb dX12_writeSmall_0 rfl (lv_at hl 0 rfl) ?_
  refine g_X12_151 Cx hW (k := 231) (by decide) rfl (v := .ref (G.2.2.1 + 277)) (rd_87 hI) dX12_writeSmall_1 ?_
  refine lv_iconst (v := iv 0) hx hb dX12_writeSmall_4 (by decide) ?_
  refine lv_lload_n hx hb dX12_writeSmall_5 rfl (lv_at hl 1 rfl) ?_
  refine sBv (sSt (As := [.ref (G.2.2.1 + 277), .int (iv 0), .long (jv v)]) (rest := []) Cx (s_X12_put l G S (ka := 277) (po := 0) (v := v) (Nka := 4) hI ⟨rfl, by decide, by decide, by decide, rfl⟩ (by omega) (by omega)) (c_X12_241 Cx rfl rfl (rmk_ok (by omega) (by decide))) hW rfl hl.1 rfl (Nat.le_of_ble_eq_true rfl) dX12_writeSmall_6 ⟨Nat.le_of_ble_eq_true rfl, Nat.le_of_ble_eq_true rfl⟩) hL (fun u_1 H locs k_2 hW hL => ?_)
  obtain ⟨iu_1, fu_1, xu_1⟩ := k_2
  have F_3 := (Fr.rf : Fr S S (pl [231, 236, 275, 277])).trans (fu_1.to (p1_sub rfl))
  have g_4 : FF S u_1 (fl [6, 84]) := FF.fr FF.rf fu_1 rfl
  refine lv_aload_n hx hb dX12_writeSmall_9 rfl (lv_at hl 0 rfl) ?_
  refine lv_aload_n hx hb dX12_writeSmall_10 rfl (lv_at hl 0 rfl) ?_
  refine g_X12_151 Cx hW (k := 231) (by decide) rfl (v := .ref (G.2.2.1 + 277)) (rd_87 iu_1) dX12_writeSmall_11 ?_
  refine lv_iconst (v := iv 0) hx hb dX12_writeSmall_14 (by decide) ?_
  have q_5 : (-2147483648) ≤ S.1 231 84 ∧ S.1 231 84 ≤ 2147483647 := hI.fi 84
  have lk_6 : u_1.1 231 84 = S.1 231 84 := (fu_1 231 rfl).1 84
  refine sBv (sV (As := [.ref (G.2.2.1 + 277), .int (iv 0)]) (rest := []) (k := 231) Cx (s_X12_writeNumber l G u_1 (ka := 277) (po := 0) (Nka := 4) (La := 1) iu_1 ⟨rfl, by decide, by decide, by decide, rfl⟩ (show (277 : Nat) ≠ 231 by decide) (show (277 : Nat) ≠ 236 by decide) (show (277 : Nat) ≠ 275 by decide) (by omega) (by omega) (xu_1.1.sm (by rw [xu_1.2.1]; omega))) (c_X12_597 Cx rfl rfl (rmk_ok (by omega) (by decide))) hW (by decide) rfl rfl rfl hl.1 rfl (Nat.le_of_ble_eq_true rfl) dX12_writeSmall_15 ⟨Nat.le_of_ble_eq_true rfl, Nat.le_of_ble_eq_true rfl⟩) hL (fun u_7 H locs k_8 hW hL => ?_)
  obtain ⟨iu_7, fu_7, gu_7, xu_7⟩ := k_8
  have F_9 := F_3.trans (fu_7.to (pl_sub (by decide)))
  have g_10 : FF S u_7 (fl [6, 84]) := FF.trans g_4 (FF.to gu_7 (fl_sub (by decide)))
  have q_11 : (-2147483648) ≤ u_7.1 231 84 ∧ u_7.1 231 84 ≤ 2147483647 := iu_7.fi 84
  exact sVret Cx hr hlk hW hL ⟨iu_7, F_9, g_10, (by omega)⟩ dX12_writeSmall_18

set_option maxRecDepth 100000 in
set_option maxHeartbeats 4000000 in
theorem s_X12_sayLetters (l : Launch) (G : sG) (S : sS)  (hI : dX G S) (hps : 0 ≤ S.1 231 86 ∧ S.1 231 86 ≤ 35000) (hle : 0 ≤ S.1 231 6 ∧ S.1 231 6 ≤ 576) : Met l yX12_sayLetters (.code yX12_sayLetters cX12_sayLetters 2 none :: tb) (rmk 1 0 0) (sPc G 294 S [.ref (G.2.2.1 + 231)]) (sQv G 294 (fun u => dX G u ∧ Fr S u (pl [231, 276]) ∧ FF S u (fl [86]) ∧ (u.1 231 86 = S.1 231 86 + 1 + S.1 231 6))) 0 0 (sF G) := by
  refine sEnter (by decide) (Nat.le_of_ble_eq_true rfl) ?_
  intro p e s m args below meth c Cx hr hlk hnm hW ls hl
  have Cx : sC G p m c cX12_sayLetters 2 s args RX12 := Cx
  obtain ⟨hx, hb, hml, hown, hts⟩ := id Cx.1
  have hL : sL G [] := sL_nil
  have hl : lv_has ls 2 [(0, .ref (G.2.2.1 + 231))] := hl
  have hW0 := hW
  refine lv_aload_n hx hb dX12_sayLetters_0 rfl (lv_at hl 0 rfl) ?_
  refine g_X12_148 Cx hW (k := 231) (by decide) rfl (v := .ref (G.2.2.1 + 276)) (rd_85 hI) dX12_sayLetters_1 ?_
  refine lv_aload_n hx hb dX12_sayLetters_4 rfl (lv_at hl 0 rfl) ?_
  have q_1 : (-2147483648) ≤ S.1 231 86 ∧ S.1 231 86 ≤ 2147483647 := hI.fi 86
  refine g_X12_523 Cx hW (k := 231) (by decide) rfl (v := S.1 231 86) rfl dX12_sayLetters_5 ?_
  refine lv_bipush (v := iv 32) hx hb dX12_sayLetters_8 (by decide) ?_
  refine rBast Cx hW hL (k := 276) (by decide) rfl (by decide) (by omega) (by omega) (nar_b (by omega) (by omega)) dX12_sayLetters_10 (fun H locs hW hL => ?_)
  have F_2 : Fr S (uA S 276 (S.1 231 86) 32) (pl [231, 276]) := (Fr.rf : Fr S S (pl [231, 276])).A rfl
  have i_3 : dX G (uA S 276 (S.1 231 86) 32) := hI.A (k := 276) (show (-128) ≤ 32 ∧ 32 ≤ 127 from ⟨by omega, by omega⟩)
  refine lv_aload_n hx hb dX12_sayLetters_11 rfl (lv_at hl 0 rfl) ?_
  refine lv_dup hx hb dX12_sayLetters_12 rfl ?_
  refine g_X12_523 Cx hW (k := 231) (by decide) rfl (v := S.1 231 86) uA_f dX12_sayLetters_13 ?_
  refine lv_iconst (v := iv 1) hx hb dX12_sayLetters_16 (by decide) ?_
  refine r_iadd hx hb dX12_sayLetters_17 ?_
  refine p_X12_523 Cx hW hL (k := 231) (by decide) rfl dX12_sayLetters_18 (fun H locs hW hL => ?_)
  have F_4 : Fr S (uF (uA S 276 (S.1 231 86) 32) 231 86 ((S.1 231 86) + 1)) (pl [231, 276]) := F_2.F rfl
  have g_5 : FF S (uF (uA S 276 (S.1 231 86) 32) 231 86 ((S.1 231 86) + 1)) (fl [86]) := FF.F FF.rf rfl
  have i_6 : dX G (uF (uA S 276 (S.1 231 86) 32) 231 86 ((S.1 231 86) + 1)) := i_3.F (i := 86) (show (-2147483648) ≤ (S.1 231 86) + 1 ∧ (S.1 231 86) + 1 ≤ 2147483647 from ⟨by omega, by omega⟩)
  refine lv_iconst (v := iv 0) hx hb dX12_sayLetters_21 (by decide) ?_
  refine lv_istore_n (lv' := [(1, .int (iv 0)), (0, .ref (G.2.2.1 + 231))]) hx hb dX12_sayLetters_22 rfl hl (by decide) rfl (fun ls hl => ?_)
  have loop_23 : ∀ (fuel : Nat) (S23 : sS) (k : Int) (H : Heap) (locs : List Loc) (ls : Array Slot), (600 - k).toNat < fuel → (dX G S23) → (Fr S S23 (pl [231, 276])) → (Fr ((uF (uA S 276 (S.1 231 86) 32) 231 86 ((S.1 231 86) + 1))) S23 (pl [231, 276])) → (FF S S23 (fl [86])) → (FF ((uF (uA S 276 (S.1 231 86) 32) 231 86 ((S.1 231 86) + 1))) S23 (fl [86])) → (0 ≤ k ∧ k ≤ S.1 231 6) → (S23.1 231 86 = S.1 231 86 + 1 + k) → sW G 294 S23 H → sL G locs → lv_has ls 2 [(1, .int (iv k)), (0, .ref (G.2.2.1 + 231))] → W p l e (rmk 1 0 0) s m args below meth c H locs 0 0 (MQ below (sQv G 294 (fun u => dX G u ∧ Fr S u (pl [231, 276]) ∧ FF S u (fl [86]) ∧ (u.1 231 86 = S.1 231 86 + 1 + S.1 231 6))) args s 0 0 (sF G)) (F0 m 23 ls []) := by
    intro fuel
    induction fuel with
    | zero => intro S23 k H locs ls hmeas hI23 hFm23 hL23_ hGm23 gL23_ hk h23 hW hL hl; exact absurd hmeas (Nat.not_lt_zero _)
    | succ fuel ih_23 =>
      intro S23 k H locs ls hmeas hI23 hFm23 hL23_ hGm23 gL23_ hk h23 hW hL hl
      refine lv_iload_n hx hb dX12_sayLetters_23 rfl (lv_at hl 0 rfl) ?_
      refine lv_aload_n hx hb dX12_sayLetters_24 rfl (lv_at hl 1 rfl) ?_
      have q_7 : (-2147483648) ≤ S.1 231 6 ∧ S.1 231 6 ≤ 2147483647 := hI.fi 6
      refine g_X12_259 Cx hW (k := 231) (by decide) rfl (v := S.1 231 6) ((gL23_ 6 rfl).trans ((uF_ne (fun h => absurd h.2 (by decide))).trans (uA_f))) dX12_sayLetters_25 ?_
      refine r_icmp_ge (tgt := 62) hx hb ⟨(by omega), (by omega)⟩ ⟨(by omega), (by omega)⟩ dX12_sayLetters_28 (by decide) (fun c_8 => ?_) (fun c_8 => ?_)
      · have q_9 : (-2147483648) ≤ S23.1 231 86 ∧ S23.1 231 86 ≤ 2147483647 := hI23.fi 86
        exact sVret Cx hr hlk hW hL ⟨hI23, hFm23, hGm23, (by omega)⟩ dX12_sayLetters_62
      · refine lv_aload_n hx hb dX12_sayLetters_31 rfl (lv_at hl 1 rfl) ?_
        refine g_X12_148 Cx hW (k := 231) (by decide) rfl (v := .ref (G.2.2.1 + 276)) (rd_85 hI23) dX12_sayLetters_32 ?_
        refine lv_aload_n hx hb dX12_sayLetters_35 rfl (lv_at hl 1 rfl) ?_
        have q_10 : (-2147483648) ≤ S23.1 231 86 ∧ S23.1 231 86 ≤ 2147483647 := hI23.fi 86
        refine g_X12_523 Cx hW (k := 231) (by decide) rfl (v := S23.1 231 86) rfl dX12_sayLetters_36 ?_
        refine lv_aload_n hx hb dX12_sayLetters_39 rfl (lv_at hl 1 rfl) ?_
        refine g_X12_23 Cx hW (k := 231) (by decide) rfl (v := .ref (G.2.2.1 + 236)) (rd_5 hI23) dX12_sayLetters_40 ?_
        refine lv_iload_n hx hb dX12_sayLetters_43 rfl (lv_at hl 0 rfl) ?_
        refine rBald Cx hW (k := 236) (by decide) rfl (by decide) (by omega) (by omega) dX12_sayLetters_44 ?_
        have q_11 : (-128) ≤ S.2.1 236 k ∧ S.2.1 236 k ≤ 127 := hI.ai 236 k
        refine r_i (b := S.2.1 236 k) (((hL23_ 236 rfl).2.1 k).trans ((uF_a).trans (uA_ne (fun h => absurd h.1 (by decide))))) ?_
        refine rBast Cx hW hL (k := 276) (by decide) rfl (by decide) (by omega) (by omega) (nar_b (by omega) (by omega)) dX12_sayLetters_45 (fun H locs hW hL => ?_)
        have F_12 : Fr S (uA S23 276 (S23.1 231 86) (S.2.1 236 k)) (pl [231, 276]) := hFm23.A rfl
        have F_13 : Fr ((uF (uA S 276 (S.1 231 86) 32) 231 86 ((S.1 231 86) + 1))) (uA S23 276 (S23.1 231 86) (S.2.1 236 k)) (pl [231, 276]) := hL23_.A rfl
        have i_14 : dX G (uA S23 276 (S23.1 231 86) (S.2.1 236 k)) := hI23.A (k := 276) (show (-128) ≤ S.2.1 236 k ∧ S.2.1 236 k ≤ 127 from ⟨by omega, by omega⟩)
        refine lv_aload_n hx hb dX12_sayLetters_46 rfl (lv_at hl 1 rfl) ?_
        refine lv_dup hx hb dX12_sayLetters_47 rfl ?_
        refine g_X12_523 Cx hW (k := 231) (by decide) rfl (v := S23.1 231 86) uA_f dX12_sayLetters_48 ?_
        refine lv_iconst (v := iv 1) hx hb dX12_sayLetters_51 (by decide) ?_
        refine r_iadd hx hb dX12_sayLetters_52 ?_
        refine p_X12_523 Cx hW hL (k := 231) (by decide) rfl dX12_sayLetters_53 (fun H locs hW hL => ?_)
        have F_15 : Fr S (uF (uA S23 276 (S23.1 231 86) (S.2.1 236 k)) 231 86 ((S23.1 231 86) + 1)) (pl [231, 276]) := F_12.F rfl
        have F_16 : Fr ((uF (uA S 276 (S.1 231 86) 32) 231 86 ((S.1 231 86) + 1))) (uF (uA S23 276 (S23.1 231 86) (S.2.1 236 k)) 231 86 ((S23.1 231 86) + 1)) (pl [231, 276]) := F_13.F rfl
        have g_17 : FF S (uF (uA S23 276 (S23.1 231 86) (S.2.1 236 k)) 231 86 ((S23.1 231 86) + 1)) (fl [86]) := FF.F hGm23 rfl
        have g_18 : FF ((uF (uA S 276 (S.1 231 86) 32) 231 86 ((S.1 231 86) + 1))) (uF (uA S23 276 (S23.1 231 86) (S.2.1 236 k)) 231 86 ((S23.1 231 86) + 1)) (fl [86]) := FF.F gL23_ rfl
        have i_19 : dX G (uF (uA S23 276 (S23.1 231 86) (S.2.1 236 k)) 231 86 ((S23.1 231 86) + 1)) := i_14.F (i := 86) (show (-2147483648) ≤ (S23.1 231 86) + 1 ∧ (S23.1 231 86) + 1 ≤ 2147483647 from ⟨by omega, by omega⟩)
        refine lv_iinc (v := iv (k + 1)) (lv' := [(1, .int (iv (k + 1))), (0, .ref (G.2.2.1 + 231))]) hx hb dX12_sayLetters_56 hl (k := 0) rfl ((Int32.ofInt_add _ _).symm) (by decide) rfl (fun ls hl => ?_)
        refine lv_goto (tgt := 23) hx hb dX12_sayLetters_59 (by decide) ?_
        have lk_20 : (uF (uA S23 276 (S23.1 231 86) (S.2.1 236 k)) 231 86 ((S23.1 231 86) + 1)).1 231 86 = (S23.1 231 86) + 1 := uF_on
        exact ih_23 (uF (uA S23 276 (S23.1 231 86) (S.2.1 236 k)) 231 86 ((S23.1 231 86) + 1)) (k + 1) _ _ _ (by omega) i_19 F_15 F_16 g_17 g_18 (by omega) (by omega) hW hL (lv_sub hl [0, 1] rfl)
  have lk_21 : (uF (uA S 276 (S.1 231 86) 32) 231 86 ((S.1 231 86) + 1)).1 231 86 = (S.1 231 86) + 1 := uF_on
  exact loop_23 (_ + 1) (uF (uA S 276 (S.1 231 86) 32) 231 86 ((S.1 231 86) + 1)) 0 _ _ _ (Nat.lt_succ_self _) i_6 F_4 Fr.rf g_5 FF.rf (by omega) (by omega) hW hL (lv_sub hl [0, 1] rfl)

set_option maxRecDepth 100000 in
set_option maxHeartbeats 4000000 in
theorem s_X12_clearMultipliers (l : Launch) (G : sG) (S : sS)  (hI : dX G S) : Met l yX12_clearMultipliers (.code yX12_clearMultipliers cX12_clearMultipliers 2 none :: tb) (rmk 1 0 0) (sPc G 294 S [.ref (G.2.2.1 + 231)]) (sQv G 294 (fun u => dX G u ∧ Fr S u (pl [278]) ∧ FF S u (fl []) ∧ (∀ k, 0 ≤ k → k ≤ 40 → u.2.1 278 (8 * k) = 0))) 0 0 (sF G) := by
  refine sEnter (by decide) (Nat.le_of_ble_eq_true rfl) ?_
  intro p e s m args below meth c Cx hr hlk hnm hW ls hl
  have Cx : sC G p m c cX12_clearMultipliers 2 s args RX12 := Cx
  obtain ⟨hx, hb, hml, hown, hts⟩ := id Cx.1
  have hL : sL G [] := sL_nil
  have hl : lv_has ls 2 [(0, .ref (G.2.2.1 + 231))] := hl
  have hW0 := hW
  refine lv_iconst (v := iv 0) hx hb dX12_clearMultipliers_0 (by decide) ?_
  refine lv_istore_n (lv' := [(1, .int (iv 0)), (0, .ref (G.2.2.1 + 231))]) hx hb dX12_clearMultipliers_1 rfl hl (by decide) rfl (fun ls hl => ?_)
  have loop_2 : ∀ (fuel : Nat) (S2 : sS) (k : Int) (H : Heap) (locs : List Loc) (ls : Array Slot), (41 - k).toNat < fuel → (dX G S2) → (Fr S S2 (pl [278])) → (Fr S S2 (pl [278])) → (FF S S2 (fl [])) → (FF S S2 (fl [])) → (0 ≤ k ∧ k ≤ 41) → (∀ t, 0 ≤ t → t < k → S2.2.1 278 (8 * t) = 0) → sW G 294 S2 H → sL G locs → lv_has ls 2 [(1, .int (iv k)), (0, .ref (G.2.2.1 + 231))] → W p l e (rmk 1 0 0) s m args below meth c H locs 0 0 (MQ below (sQv G 294 (fun u => dX G u ∧ Fr S u (pl [278]) ∧ FF S u (fl []) ∧ (∀ k, 0 ≤ k → k ≤ 40 → u.2.1 278 (8 * k) = 0))) args s 0 0 (sF G)) (F0 m 2 ls []) := by
    intro fuel
    induction fuel with
    | zero => intro S2 k H locs ls hmeas hI2 hFm2 hL2_ hGm2 gL2_ hk hz hW hL hl; exact absurd hmeas (Nat.not_lt_zero _)
    | succ fuel ih_2 =>
      intro S2 k H locs ls hmeas hI2 hFm2 hL2_ hGm2 gL2_ hk hz hW hL hl
      refine lv_iload_n hx hb dX12_clearMultipliers_2 rfl (lv_at hl 0 rfl) ?_
      refine lv_bipush (v := iv 40) hx hb dX12_clearMultipliers_3 (by decide) ?_
      refine r_icmp_gt (tgt := 24) hx hb ⟨(by omega), (by omega)⟩ ⟨(by omega), (by omega)⟩ dX12_clearMultipliers_5 (by decide) (fun c_1 => ?_) (fun c_1 => ?_)
      · exact sVret Cx hr hlk hW hL ⟨hI2, hFm2, hGm2, (fun t a b => hz t a (by omega))⟩ dX12_clearMultipliers_24
      · refine lv_aload_n hx hb dX12_clearMultipliers_8 rfl (lv_at hl 1 rfl) ?_
        refine g_X12_154 Cx hW (k := 231) (by decide) rfl (v := .ref (G.2.2.1 + 278)) (rd_88 hI2) dX12_clearMultipliers_9 ?_
        refine lv_bipush (v := iv 8) hx hb dX12_clearMultipliers_12 (by decide) ?_
        refine lv_iload_n hx hb dX12_clearMultipliers_14 rfl (lv_at hl 0 rfl) ?_
        refine r_imul hx hb dX12_clearMultipliers_15 ?_
        refine lv_iconst (v := iv 0) hx hb dX12_clearMultipliers_16 (by decide) ?_
        refine rIast Cx hW hL (k := 278) (by decide) rfl (by decide) (by omega) (by omega) dX12_clearMultipliers_17 (fun H locs hW hL => ?_)
        have F_2 : Fr S (uA S2 278 (8 * k) 0) (pl [278]) := hFm2.A rfl
        have F_3 : Fr S (uA S2 278 (8 * k) 0) (pl [278]) := hL2_.A rfl
        have i_4 : dX G (uA S2 278 (8 * k) 0) := hI2.A (k := 278) (show (-2147483648) ≤ 0 ∧ 0 ≤ 2147483647 from ⟨by omega, by omega⟩)
        refine lv_iinc (v := iv (k + 1)) (lv' := [(1, .int (iv (k + 1))), (0, .ref (G.2.2.1 + 231))]) hx hb dX12_clearMultipliers_18 hl (k := 0) rfl ((Int32.ofInt_add _ _).symm) (by decide) rfl (fun ls hl => ?_)
        refine lv_goto (tgt := 2) hx hb dX12_clearMultipliers_21 (by decide) ?_
        exact ih_2 (uA S2 278 (8 * k) 0) (k + 1) _ _ _ (by omega) i_4 F_2 F_3 hGm2 gL2_ (by omega) (fun t a b => by rw [uA_get]; split; rfl; rename_i q; exact hz t a (by omega)) hW hL (lv_sub hl [0, 1] rfl)
  exact loop_2 (_ + 1) S 0 _ _ _ (Nat.lt_succ_self _) hI (Fr.rf : Fr S S (pl [278])) Fr.rf FF.rf FF.rf (by omega) (fun t a b => absurd b (by omega)) hW hL (lv_sub hl [0, 1] rfl)
