/-- how many digits were looked at, by the power of ten that is next -/
def dgs (b : Int) : Int := if b = 100000000 then 0 else if b = 10000000 then 1 else if b = 1000000 then 2 else if b = 100000 then 3 else if b = 10000 then 4 else if b = 1000 then 5 else if b = 100 then 6 else if b = 10 then 7 else if b = 1 then 8 else 9
theorem dgs_r {b : Int} (h : b = 100000000 ∨ b = 10000000 ∨ b = 1000000 ∨ b = 100000 ∨ b = 10000 ∨ b = 1000 ∨ b = 100 ∨ b = 10 ∨ b = 1 ∨ b = 0) : 0 ≤ dgs b ∧ dgs b ≤ 9 ∧ (0 < b → dgs b ≤ 8 ∧ dgs (b / 10) = dgs b + 1) ∧ (b = 0 → dgs b = 9) := by
  rcases h with q | q | q | q | q | q | q | q | q | q <;> (rw [q]; decide)
theorem divR {a b : Int} (h0 : 0 ≤ a) (hb : 0 < b) : 0 ≤ a.tdiv b ∧ a.tdiv b ≤ a := by
  rw [Int.tdiv_eq_ediv_of_nonneg h0]
  exact ⟨Int.ediv_nonneg h0 (by omega), Int.ediv_le_self b h0⟩
set_option maxRecDepth 100000 in
set_option maxHeartbeats 4000000 in
theorem s_X12_letter (l : Launch) (G : sG) (S : sS) {ch : Int} (hI : dX G S) (hch : -2147483648 ≤ ch ∧ ch ≤ 2147483647) (hle : 0 ≤ S.1 231 6 ∧ S.1 231 6 < 576) : Met l yX12_letter (.code yX12_letter cX12_letter 2 none :: tb) (rmk 1 0 0) (sPc G 294 S [.ref (G.2.2.1 + 231), .int (iv ch)]) (sQv G 294 (fun u => dX G u ∧ Fr S u (pl [231, 236]) ∧ FF S u (fl [6]) ∧ (u.1 231 6 = S.1 231 6 + 1))) 0 0 (sF G) := by
  refine sEnter (by decide) (Nat.le_of_ble_eq_true rfl) ?_
  intro p e s m args below meth c Cx hr hlk hnm hW ls hl
  have Cx : sC G p m c cX12_letter 2 s args RX12 := Cx
  obtain ⟨hx, hb, hml, hown, hts⟩ := id Cx.1
  have hL : sL G [] := sL_nil
  have hl : lv_has ls 2 [(0, .ref (G.2.2.1 + 231)), (1, .int (iv ch))] := hl
  have hW0 := hW
  refine lv_aload_n hx hb dX12_letter_0 rfl (lv_at hl 0 rfl) ?_
  refine g_X12_23 Cx hW (k := 231) (by decide) rfl (v := .ref (G.2.2.1 + 236)) (rd_5 hI) dX12_letter_1 ?_
  refine lv_aload_n hx hb dX12_letter_4 rfl (lv_at hl 0 rfl) ?_
  have q_1 : (-2147483648) ≤ S.1 231 6 ∧ S.1 231 6 ≤ 2147483647 := hI.fi 6
  refine g_X12_259 Cx hW (k := 231) (by decide) rfl (v := S.1 231 6) rfl dX12_letter_5 ?_
  refine lv_iload_n hx hb dX12_letter_8 rfl (lv_at hl 1 rfl) ?_
  refine r_i2b hx hb dX12_letter_9 (fun z_2 hz_2 kz_2 => ?_)
  refine rBast Cx hW hL (k := 236) (by decide) rfl (by decide) (by omega) (by omega) (nar_b (by omega) (by omega)) dX12_letter_10 (fun H locs hW hL => ?_)
  have F_3 : Fr S (uA S 236 (S.1 231 6) z_2) (pl [231, 236]) := (Fr.rf : Fr S S (pl [231, 236])).A rfl
  have i_4 : dX G (uA S 236 (S.1 231 6) z_2) := hI.A (k := 236) (show (-128) ≤ z_2 ∧ z_2 ≤ 127 from ⟨by omega, by omega⟩)
  refine lv_aload_n hx hb dX12_letter_11 rfl (lv_at hl 0 rfl) ?_
  refine lv_dup hx hb dX12_letter_12 rfl ?_
  refine g_X12_259 Cx hW (k := 231) (by decide) rfl (v := S.1 231 6) uA_f dX12_letter_13 ?_
  refine lv_iconst (v := iv 1) hx hb dX12_letter_16 (by decide) ?_
  refine r_iadd hx hb dX12_letter_17 ?_
  refine p_X12_259 Cx hW hL (k := 231) (by decide) rfl dX12_letter_18 (fun H locs hW hL => ?_)
  have F_5 : Fr S (uF (uA S 236 (S.1 231 6) z_2) 231 6 ((S.1 231 6) + 1)) (pl [231, 236]) := F_3.F rfl
  have g_6 : FF S (uF (uA S 236 (S.1 231 6) z_2) 231 6 ((S.1 231 6) + 1)) (fl [6]) := FF.F FF.rf rfl
  have i_7 : dX G (uF (uA S 236 (S.1 231 6) z_2) 231 6 ((S.1 231 6) + 1)) := i_4.F (i := 6) (show (-2147483648) ≤ (S.1 231 6) + 1 ∧ (S.1 231 6) + 1 ≤ 2147483647 from ⟨by omega, by omega⟩)
  have lk_8 : (uF (uA S 236 (S.1 231 6) z_2) 231 6 ((S.1 231 6) + 1)).1 231 6 = (S.1 231 6) + 1 := uF_on
  exact sVret Cx hr hlk hW hL ⟨i_7, F_5, g_6, (by omega)⟩ dX12_letter_21

set_option maxRecDepth 100000 in
set_option maxHeartbeats 4000000 in
theorem s_X12_spell (l : Launch) (G : sG) (S : sS) {ka Nka : Nat} {po La : Int} (hI : dX G S) (hika : ia ka Nka) (hR : (0 ≤ po ∧ po + La < Nka) ∧ La ≤ 63) (hle : 0 ≤ S.1 231 6 ∧ S.1 231 6 + 9 * La + 2 ≤ 576) (hA : NO (S.2.1 ka) po La) (nka1 : Hd (ka ≠ 231)) (nka6 : Hd (ka ≠ 236)) : Met l yX12_spell (.code yX12_spell cX12_spell 8 none :: tb) (rmk 3 0 0) (sPc G 294 S [.ref (G.2.2.1 + 231), .ref (G.2.2.1 + ka), .int (iv po)]) (sQv G 294 (fun u => dX G u ∧ Fr S u (pl [231, 236]) ∧ FF S u (fl [6]) ∧ (S.1 231 6 ≤ u.1 231 6 ∧ u.1 231 6 ≤ S.1 231 6 + 9 * La + 2))) 0 0 (sF G) := by
  refine sEnter (by decide) (Nat.le_of_ble_eq_true rfl) ?_
  intro p e s m args below meth c Cx hr hlk hnm hW ls hl
  have Cx : sC G p m c cX12_spell 8 s args RX12 := Cx
  obtain ⟨hx, hb, hml, hown, hts⟩ := id Cx.1
  have hL : sL G [] := sL_nil
  have hl : lv_has ls 8 [(0, .ref (G.2.2.1 + 231)), (1, .ref (G.2.2.1 + ka)), (2, .int (iv po))] := hl
  have hW0 := hW
  have hN := hika.2.2.2.1
  have hA1 := hA.b
  have hA0 := hA.1
  have hAn := al_0 (S.2.1 ka) po
  refine lv_aload_n hx hb dX12_spell_0 rfl (lv_at hl 1 rfl) ?_
  refine lv_iload_n hx hb dX12_spell_1 rfl (lv_at hl 2 rfl) ?_
  refine sBi (sSt (As := [.ref (G.2.2.1 + ka), .int (iv po)]) (rest := []) Cx (s_X12_limbs l G S (ka := ka) (po := po) (Nka := Nka) hI hika (by omega) (by omega)) (c_X12_221 Cx rfl rfl (rmk_ok (by omega) (by decide))) hW rfl hl.1 rfl (Nat.le_of_ble_eq_true rfl) dX12_spell_2 ⟨Nat.le_of_ble_eq_true rfl, Nat.le_of_ble_eq_true rfl⟩) hL (fun n u_1 H locs k_2 hW hL => ?_)
  obtain ⟨eu_1, xu_1⟩ := k_2
  rw [eu_1] at hW
  refine lv_istore_n (lv' := [(3, .int (iv n)), (0, .ref (G.2.2.1 + 231)), (1, .ref (G.2.2.1 + ka)), (2, .int (iv po))]) hx hb dX12_spell_5 rfl hl (by decide) rfl (fun ls hl => ?_)
  have join_18 : ∀ (S18 : sS)  (H : Heap) (locs : List Loc) (ls : Array Slot), (dX G S18) → (Fr S S18 (pl [231, 236])) → (Fr S S18 (pl [231, 236])) → (FF S S18 (fl [6])) → (FF S S18 (fl [6])) → (S.1 231 6 ≤ S18.1 231 6 ∧ S18.1 231 6 ≤ S.1 231 6 + 1) → sW G 294 S18 H → sL G locs → lv_has ls 8 [(3, .int (iv n)), (0, .ref (G.2.2.1 + 231)), (1, .ref (G.2.2.1 + ka)), (2, .int (iv po))] → W p l e (rmk 3 0 0) s m args below meth c H locs 0 0 (MQ below (sQv G 294 (fun u => dX G u ∧ Fr S u (pl [231, 236]) ∧ FF S u (fl [6]) ∧ (S.1 231 6 ≤ u.1 231 6 ∧ u.1 231 6 ≤ S.1 231 6 + 9 * La + 2))) args s 0 0 (sF G)) (F0 m 18 ls []) := by
    intro S18  H locs ls hI18 hFm18 hL18_ hGm18 gL18_ h18 hW hL hl
    have join_28 : ∀ (S28 : sS)  (H : Heap) (locs : List Loc) (ls : Array Slot), (dX G S28) → (Fr S S28 (pl [231, 236])) → (Fr S S28 (pl [231, 236])) → (Fr S18 S28 (pl [231, 236])) → (FF S S28 (fl [6])) → (FF S S28 (fl [6])) → (FF S18 S28 (fl [6])) → (S.1 231 6 ≤ S28.1 231 6 ∧ S28.1 231 6 ≤ S.1 231 6 + 2) → sW G 294 S28 H → sL G locs → lv_has ls 8 [(3, .int (iv n)), (0, .ref (G.2.2.1 + 231)), (1, .ref (G.2.2.1 + ka)), (2, .int (iv po))] → W p l e (rmk 3 0 0) s m args below meth c H locs 0 0 (MQ below (sQv G 294 (fun u => dX G u ∧ Fr S u (pl [231, 236]) ∧ FF S u (fl [6]) ∧ (S.1 231 6 ≤ u.1 231 6 ∧ u.1 231 6 ≤ S.1 231 6 + 9 * La + 2))) args s 0 0 (sF G)) (F0 m 28 ls []) := by
      intro S28  H locs ls hI28 hFm28 hFL1828 hL28_ hGm28 hGL1828 gL28_ h28 hW hL hl
      refine lv_iload_n hx hb dX12_spell_28 rfl (lv_at hl 0 rfl) ?_
      refine lv_istore (lv' := [(4, .int (iv n)), (3, .int (iv n)), (0, .ref (G.2.2.1 + 231)), (1, .ref (G.2.2.1 + ka)), (2, .int (iv po))]) hx hb dX12_spell_29 hl (by decide) rfl (fun ls hl => ?_)
      have loop_31 : ∀ (fuel : Nat) (S31 : sS) (k : Int) (H : Heap) (locs : List Loc) (ls : Array Slot), k.toNat < fuel → (dX G S31) → (Fr S S31 (pl [231, 236])) → (Fr S S31 (pl [231, 236])) → (Fr S18 S31 (pl [231, 236])) → (Fr S28 S31 (pl [231, 236])) → (FF S S31 (fl [6])) → (FF S S31 (fl [6])) → (FF S18 S31 (fl [6])) → (FF S28 S31 (fl [6])) → (0 ≤ k ∧ k ≤ n) → (S.1 231 6 ≤ S31.1 231 6 ∧ S31.1 231 6 ≤ S.1 231 6 + 2 + 9 * (n - k)) → sW G 294 S31 H → sL G locs → lv_has ls 8 [(4, .int (iv k)), (3, .int (iv n)), (0, .ref (G.2.2.1 + 231)), (1, .ref (G.2.2.1 + ka)), (2, .int (iv po))] → W p l e (rmk 3 0 0) s m args below meth c H locs 0 0 (MQ below (sQv G 294 (fun u => dX G u ∧ Fr S u (pl [231, 236]) ∧ FF S u (fl [6]) ∧ (S.1 231 6 ≤ u.1 231 6 ∧ u.1 231 6 ≤ S.1 231 6 + 9 * La + 2))) args s 0 0 (sF G)) (F0 m 31 ls []) := by
        intro fuel
        induction fuel with
        | zero => intro S31 k H locs ls hmeas hI31 hFm31 hFL1831 hFL2831 hL31_ hGm31 hGL1831 hGL2831 gL31_ hk h31 hW hL hl; exact absurd hmeas (Nat.not_lt_zero _)
        | succ fuel ih_31 =>
          intro S31 k H locs ls hmeas hI31 hFm31 hFL1831 hFL2831 hL31_ hGm31 hGL1831 hGL2831 gL31_ hk h31 hW hL hl
          refine lv_iload hx hb dX12_spell_31 (lv_at hl 0 rfl) ?_
          refine r_if_le (tgt := 123) hx hb ⟨(by omega), (by omega)⟩ dX12_spell_33 (by decide) (fun c_3 => ?_) (fun c_3 => ?_)
          · have q_4 : (-2147483648) ≤ S31.1 231 6 ∧ S31.1 231 6 ≤ 2147483647 := hI31.fi 6
            exact sVret Cx hr hlk hW hL ⟨hI31, hFm31, hGm31, (by omega)⟩ dX12_spell_123
          · refine lv_ldcw hx hb hown (hts _ w_2561) dX12_spell_36 ?_
            refine lv_istore (lv' := [(5, .int (iv 100000000)), (4, .int (iv k)), (3, .int (iv n)), (0, .ref (G.2.2.1 + 231)), (1, .ref (G.2.2.1 + ka)), (2, .int (iv po))]) hx hb dX12_spell_39 hl (by decide) rfl (fun ls hl => ?_)
            have join_52 : ∀ (an : Int) (H : Heap) (locs : List Loc) (ls : Array Slot), (0 ≤ an ∧ an ≤ 1) → sW G 294 S31 H → sL G locs → lv_has ls 8 [(5, .int (iv 100000000)), (4, .int (iv k)), (3, .int (iv n)), (0, .ref (G.2.2.1 + 231)), (1, .ref (G.2.2.1 + ka)), (2, .int (iv po))] → W p l e (rmk 3 0 0) s m args below meth c H locs 0 0 (MQ below (sQv G 294 (fun u => dX G u ∧ Fr S u (pl [231, 236]) ∧ FF S u (fl [6]) ∧ (S.1 231 6 ≤ u.1 231 6 ∧ u.1 231 6 ≤ S.1 231 6 + 9 * La + 2))) args s 0 0 (sF G)) (F0 m 52 ls [.int (iv an)]) := by
              intro an H locs ls han hW hL hl
              refine lv_istore (lv' := [(6, .int (iv an)), (5, .int (iv 100000000)), (4, .int (iv k)), (3, .int (iv n)), (0, .ref (G.2.2.1 + 231)), (1, .ref (G.2.2.1 + ka)), (2, .int (iv po))]) hx hb dX12_spell_52 hl (by decide) rfl (fun ls hl => ?_)
              have hak : 0 ≤ S.2.1 ka (po + k) ∧ S.2.1 ka (po + k) ≤ 999999999 := hA.2.1 _ (by omega) (by omega)
              refine lv_aload_n hx hb dX12_spell_54 rfl (lv_at hl 5 rfl) ?_
              refine lv_iload_n hx hb dX12_spell_55 rfl (lv_at hl 6 rfl) ?_
              refine lv_iload hx hb dX12_spell_56 (lv_at hl 2 rfl) ?_
              refine r_iadd hx hb dX12_spell_58 ?_
              refine rIald Cx hW (k := ka) hika.lt hika.1 (by omega) (by omega) (by omega) dX12_spell_59 ?_
              have q_5 : (-2147483648) ≤ S.2.1 ka (po + k) ∧ S.2.1 ka (po + k) ≤ 2147483647 := hI.aj hika.ge (po + k)
              refine r_i (b := S.2.1 ka (po + k)) (((hL31_ ka (pl_c (neD nka1) (pl_c (neD nka6) rfl))).2.1 (po + k)).trans (((hL28_ ka (pl_c (neD nka1) (pl_c (neD nka6) rfl))).2.1 (po + k)).trans ((hL18_ ka (pl_c (neD nka1) (pl_c (neD nka6) rfl))).2.1 (po + k)))) ?_
              refine lv_istore (lv' := [(7, .int (iv (S.2.1 ka (po + k)))), (6, .int (iv an)), (5, .int (iv 100000000)), (4, .int (iv k)), (3, .int (iv n)), (0, .ref (G.2.2.1 + 231)), (1, .ref (G.2.2.1 + ka)), (2, .int (iv po))]) hx hb dX12_spell_60 hl (by decide) rfl (fun ls hl => ?_)
              have loop_62 : ∀ (fuel : Nat) (S62 : sS) (an0 : Int) (by0 : Int) (H : Heap) (locs : List Loc) (ls : Array Slot), by0.toNat < fuel → (dX G S62) → (Fr S S62 (pl [231, 236])) → (Fr S S62 (pl [231, 236])) → (Fr S18 S62 (pl [231, 236])) → (Fr S28 S62 (pl [231, 236])) → (Fr S31 S62 (pl [231, 236])) → (FF S S62 (fl [6])) → (FF S S62 (fl [6])) → (FF S18 S62 (fl [6])) → (FF S28 S62 (fl [6])) → (FF S31 S62 (fl [6])) → ((by0 = 100000000 ∨ by0 = 10000000 ∨ by0 = 1000000 ∨ by0 = 100000 ∨ by0 = 10000 ∨ by0 = 1000 ∨ by0 = 100 ∨ by0 = 10 ∨ by0 = 1 ∨ by0 = 0)) → (0 ≤ an0 ∧ an0 ≤ 1) → (S.1 231 6 ≤ S62.1 231 6 ∧ S62.1 231 6 ≤ S.1 231 6 + 2 + 9 * (n - k) + dgs by0) → sW G 294 S62 H → sL G locs → lv_has ls 8 [(7, .int (iv (S.2.1 ka (po + k)))), (6, .int (iv an0)), (5, .int (iv by0)), (4, .int (iv k)), (3, .int (iv n)), (0, .ref (G.2.2.1 + 231)), (1, .ref (G.2.2.1 + ka)), (2, .int (iv po))] → W p l e (rmk 3 0 0) s m args below meth c H locs 0 0 (MQ below (sQv G 294 (fun u => dX G u ∧ Fr S u (pl [231, 236]) ∧ FF S u (fl [6]) ∧ (S.1 231 6 ≤ u.1 231 6 ∧ u.1 231 6 ≤ S.1 231 6 + 9 * La + 2))) args s 0 0 (sF G)) (F0 m 62 ls []) := by
                intro fuel
                induction fuel with
                | zero => intro S62 an0 by0 H locs ls hmeas hI62 hFm62 hFL1862 hFL2862 hFL3162 hL62_ hGm62 hGL1862 hGL2862 hGL3162 gL62_ hby ha0 h62 hW hL hl; exact absurd hmeas (Nat.not_lt_zero _)
                | succ fuel ih_62 =>
                  intro S62 an0 by0 H locs ls hmeas hI62 hFm62 hFL1862 hFL2862 hFL3162 hL62_ hGm62 hGL1862 hGL2862 hGL3162 gL62_ hby ha0 h62 hW hL hl
                  have hdg0 := dgs_r hby
                  refine lv_iload hx hb dX12_spell_62 (lv_at hl 2 rfl) ?_
                  refine r_if_le (tgt := 117) hx hb ⟨(by omega), (by omega)⟩ dX12_spell_64 (by decide) (fun c_6 => ?_) (fun c_6 => ?_)
                  · refine lv_iinc (v := iv (k + (-1))) (lv' := [(4, .int (iv (k + (-1)))), (7, .int (iv (S.2.1 ka (po + k)))), (6, .int (iv an0)), (5, .int (iv by0)), (3, .int (iv n)), (0, .ref (G.2.2.1 + 231)), (1, .ref (G.2.2.1 + ka)), (2, .int (iv po))]) hx hb dX12_spell_117 hl (k := 3) rfl ((Int32.ofInt_add _ _).symm) (by decide) rfl (fun ls hl => ?_)
                    refine lv_goto (tgt := 31) hx hb dX12_spell_120 (by decide) ?_
                    have q_7 : (-2147483648) ≤ S62.1 231 6 ∧ S62.1 231 6 ≤ 2147483647 := hI62.fi 6
                    exact ih_31 S62 (k + (-1)) _ _ _ (by omega) hI62 hFm62 hFL1862 hFL2862 hFL3162 hGm62 hGL1862 hGL2862 hGL3162 (by omega) (by omega) hW hL (lv_sub hl [0, 4, 5, 6, 7] rfl)
                  · have join_85 : ∀ (an2 : Int) (H : Heap) (locs : List Loc) (ls : Array Slot), (0 ≤ an2 ∧ an2 ≤ 1) → sW G 294 S62 H → sL G locs → lv_has ls 8 [(7, .int (iv (S.2.1 ka (po + k)))), (6, .int (iv an0)), (5, .int (iv by0)), (4, .int (iv k)), (3, .int (iv n)), (0, .ref (G.2.2.1 + 231)), (1, .ref (G.2.2.1 + ka)), (2, .int (iv po))] → W p l e (rmk 3 0 0) s m args below meth c H locs 0 0 (MQ below (sQv G 294 (fun u => dX G u ∧ Fr S u (pl [231, 236]) ∧ FF S u (fl [6]) ∧ (S.1 231 6 ≤ u.1 231 6 ∧ u.1 231 6 ≤ S.1 231 6 + 9 * La + 2))) args s 0 0 (sF G)) (F0 m 85 ls [.int (iv an2)]) := by
                      intro an2 H locs ls han2 hW hL hl
                      refine lv_istore (lv' := [(6, .int (iv an2)), (7, .int (iv (S.2.1 ka (po + k)))), (5, .int (iv by0)), (4, .int (iv k)), (3, .int (iv n)), (0, .ref (G.2.2.1 + 231)), (1, .ref (G.2.2.1 + ka)), (2, .int (iv po))]) hx hb dX12_spell_85 hl (by decide) rfl (fun ls hl => ?_)
                      have join_107 : ∀ (S107 : sS)  (H : Heap) (locs : List Loc) (ls : Array Slot), (dX G S107) → (Fr S S107 (pl [231, 236])) → (Fr S S107 (pl [231, 236])) → (Fr S18 S107 (pl [231, 236])) → (Fr S28 S107 (pl [231, 236])) → (Fr S31 S107 (pl [231, 236])) → (Fr S62 S107 (pl [231, 236])) → (FF S S107 (fl [6])) → (FF S S107 (fl [6])) → (FF S18 S107 (fl [6])) → (FF S28 S107 (fl [6])) → (FF S31 S107 (fl [6])) → (FF S62 S107 (fl [6])) → (S.1 231 6 ≤ S107.1 231 6 ∧ S107.1 231 6 ≤ S.1 231 6 + 2 + 9 * (n - k) + dgs by0 + 1) → sW G 294 S107 H → sL G locs → lv_has ls 8 [(6, .int (iv an2)), (7, .int (iv (S.2.1 ka (po + k)))), (5, .int (iv by0)), (4, .int (iv k)), (3, .int (iv n)), (0, .ref (G.2.2.1 + 231)), (1, .ref (G.2.2.1 + ka)), (2, .int (iv po))] → W p l e (rmk 3 0 0) s m args below meth c H locs 0 0 (MQ below (sQv G 294 (fun u => dX G u ∧ Fr S u (pl [231, 236]) ∧ FF S u (fl [6]) ∧ (S.1 231 6 ≤ u.1 231 6 ∧ u.1 231 6 ≤ S.1 231 6 + 9 * La + 2))) args s 0 0 (sF G)) (F0 m 107 ls []) := by
                        intro S107  H locs ls hI107 hFm107 hFL18107 hFL28107 hFL31107 hFL62107 hL107_ hGm107 hGL18107 hGL28107 hGL31107 hGL62107 gL107_ h107 hW hL hl
                        refine lv_iload hx hb dX12_spell_107 (lv_at hl 2 rfl) ?_
                        refine lv_bipush (v := iv 10) hx hb dX12_spell_109 (by decide) ?_
                        refine r_idiv hx hb ⟨(by omega), (by omega)⟩ ⟨(by omega), (by omega)⟩ (by omega) dX12_spell_111 ?_
                        refine r_i (b := by0 / 10) (Int.tdiv_eq_ediv_of_nonneg (by omega)) ?_
                        refine lv_istore (lv' := [(5, .int (iv (by0 / 10))), (6, .int (iv an2)), (7, .int (iv (S.2.1 ka (po + k)))), (4, .int (iv k)), (3, .int (iv n)), (0, .ref (G.2.2.1 + 231)), (1, .ref (G.2.2.1 + ka)), (2, .int (iv po))]) hx hb dX12_spell_112 hl (by decide) rfl (fun ls hl => ?_)
                        refine lv_goto (tgt := 62) hx hb dX12_spell_114 (by decide) ?_
                        have q_8 : (-2147483648) ≤ S107.1 231 6 ∧ S107.1 231 6 ≤ 2147483647 := hI107.fi 6
                        exact ih_62 S107 an2 (by0 / 10) _ _ _ (by omega) hI107 hFm107 hFL18107 hFL28107 hFL31107 hFL62107 hGm107 hGL18107 hGL28107 hGL31107 hGL62107 (by omega) (by omega) (by have e := hdg0.2.2.1 (by omega); omega) hW hL (lv_sub hl [2, 1, 0, 3, 4, 5, 6, 7] rfl)
                      refine lv_iload hx hb dX12_spell_87 (lv_at hl 0 rfl) ?_
                      refine r_if_eq (tgt := 107) hx hb ⟨(by omega), (by omega)⟩ dX12_spell_89 (by decide) (fun c_9 => ?_) (fun c_9 => ?_)
                      · have q_10 : (-2147483648) ≤ S62.1 231 6 ∧ S62.1 231 6 ≤ 2147483647 := hI62.fi 6
                        exact join_107 S62  _ _ _ hI62 hFm62 hFL1862 hFL2862 hFL3162 hL62_ (Fr.rf : Fr S62 S62 (pl [231, 236])) hGm62 hGL1862 hGL2862 hGL3162 gL62_ (FF.rf : FF S62 S62 (fl [6])) (by omega) hW hL (lv_sub hl [0, 1, 2, 3, 4, 5, 6, 7] rfl)
                      · refine lv_aload_n hx hb dX12_spell_92 rfl (lv_at hl 5 rfl) ?_
                        refine lv_bipush (v := iv 48) hx hb dX12_spell_93 (by decide) ?_
                        refine lv_iload hx hb dX12_spell_95 (lv_at hl 1 rfl) ?_
                        refine lv_iload hx hb dX12_spell_97 (lv_at hl 2 rfl) ?_
                        refine r_idiv hx hb ⟨(by omega), (by omega)⟩ ⟨(by omega), (by omega)⟩ (by omega) dX12_spell_99 ?_
                        obtain ⟨d2, ed2⟩ : ∃ z : Int, z = (S.2.1 ka (po + k)).tdiv by0 := ⟨_, rfl⟩
                        have hd2 := divR (a := S.2.1 ka (po + k)) (b := by0) (by omega) (by omega)
                        rw [← ed2] at hd2
                        refine r_i (b := d2) ed2.symm ?_
                        clear ed2
                        refine lv_bipush (v := iv 10) hx hb dX12_spell_100 (by decide) ?_
                        refine r_irem hx hb ⟨(by omega), (by omega)⟩ ⟨(by omega), (by omega)⟩ (by omega) dX12_spell_102 ?_
                        obtain ⟨z_11, ez_11⟩ : ∃ z : Int, z = d2.tmod 10 := ⟨_, rfl⟩
                        have hz_11 := tmodL (a := d2) (b := 10) (by omega)
                        rw [← ez_11] at hz_11
                        refine r_i (b := z_11) ez_11.symm ?_
                        clear ez_11
                        refine r_iadd hx hb dX12_spell_103 ?_
                        have q_12 : (-2147483648) ≤ S62.1 231 6 ∧ S62.1 231 6 ≤ 2147483647 := hI62.fi 6
                        refine sBv (sV (As := [.int (iv (48 + z_11))]) (rest := []) (k := 231) Cx (s_X12_letter l G S62 (ch := 48 + z_11) hI62 (by omega) (by omega)) (c_X12_262 Cx rfl rfl (rmk_ok (by omega) (by decide))) hW (by decide) rfl rfl rfl hl.1 rfl (Nat.le_of_ble_eq_true rfl) dX12_spell_104 ⟨Nat.le_of_ble_eq_true rfl, Nat.le_of_ble_eq_true rfl⟩) hL (fun u_13 H locs k_14 hW hL => ?_)
                        obtain ⟨iu_13, fu_13, gu_13, xu_13⟩ := k_14
                        have F_15 := hFm62.trans fu_13
                        have F_16 := hFL1862.trans fu_13
                        have F_17 := hFL2862.trans fu_13
                        have F_18 := hFL3162.trans fu_13
                        have F_19 := hL62_.trans fu_13
                        have F_20 := (Fr.rf : Fr S62 S62 (pl [231, 236])).trans fu_13
                        have g_21 : FF S u_13 (fl [6]) := FF.trans hGm62 (FF.to gu_13 (fl_sub (by decide)))
                        have g_22 : FF S u_13 (fl [6]) := FF.trans hGL1862 (FF.to gu_13 (fl_sub (by decide)))
                        have g_23 : FF S18 u_13 (fl [6]) := FF.trans hGL2862 (FF.to gu_13 (fl_sub (by decide)))
                        have g_24 : FF S28 u_13 (fl [6]) := FF.trans hGL3162 (FF.to gu_13 (fl_sub (by decide)))
                        have g_25 : FF S31 u_13 (fl [6]) := FF.trans gL62_ (FF.to gu_13 (fl_sub (by decide)))
                        have g_26 : FF S62 u_13 (fl [6]) := FF.trans (FF.rf : FF S62 S62 (fl [6])) (FF.to gu_13 (fl_sub (by decide)))
                        have q_27 : (-2147483648) ≤ u_13.1 231 6 ∧ u_13.1 231 6 ≤ 2147483647 := iu_13.fi 6
                        exact join_107 u_13  _ _ _ iu_13 F_15 F_16 F_17 F_18 F_19 F_20 g_21 g_22 g_23 g_24 g_25 g_26 (by omega) hW hL (lv_sub hl [0, 1, 2, 3, 4, 5, 6, 7] rfl)
                    refine lv_iload hx hb dX12_spell_67 (lv_at hl 1 rfl) ?_
                    refine r_if_ne (tgt := 80) hx hb ⟨(by omega), (by omega)⟩ dX12_spell_69 (by decide) (fun c_28 => ?_) (fun c_28 => ?_)
                    · refine lv_iconst (v := iv 1) hx hb dX12_spell_80 (by decide) ?_
                      refine lv_goto (tgt := 85) hx hb dX12_spell_81 (by decide) ?_
                      exact join_85 1 _ _ _ (by omega) hW hL (lv_sub hl [0, 1, 2, 3, 4, 5, 6, 7] rfl)
                    · refine lv_iload hx hb dX12_spell_72 (lv_at hl 0 rfl) ?_
                      refine lv_iload hx hb dX12_spell_74 (lv_at hl 2 rfl) ?_
                      refine r_idiv hx hb ⟨(by omega), (by omega)⟩ ⟨(by omega), (by omega)⟩ (by omega) dX12_spell_76 ?_
                      obtain ⟨d1, ed1⟩ : ∃ z : Int, z = (S.2.1 ka (po + k)).tdiv by0 := ⟨_, rfl⟩
                      have hd1 := divR (a := S.2.1 ka (po + k)) (b := by0) (by omega) (by omega)
                      rw [← ed1] at hd1
                      refine r_i (b := d1) ed1.symm ?_
                      clear ed1
                      refine r_if_le (tgt := 84) hx hb ⟨(by omega), (by omega)⟩ dX12_spell_77 (by decide) (fun c_29 => ?_) (fun c_29 => ?_)
                      · refine lv_iconst (v := iv 0) hx hb dX12_spell_84 (by decide) ?_
                        exact join_85 0 _ _ _ (by omega) hW hL (lv_sub hl [0, 1, 2, 3, 4, 5, 6, 7] rfl)
                      · refine lv_iconst (v := iv 1) hx hb dX12_spell_80 (by decide) ?_
                        refine lv_goto (tgt := 85) hx hb dX12_spell_81 (by decide) ?_
                        exact join_85 1 _ _ _ (by omega) hW hL (lv_sub hl [0, 1, 2, 3, 4, 5, 6, 7] rfl)
              have q_30 : (-2147483648) ≤ S31.1 231 6 ∧ S31.1 231 6 ≤ 2147483647 := hI31.fi 6
              exact loop_62 (_ + 1) S31 an 100000000 _ _ _ (Nat.lt_succ_self _) hI31 hFm31 hFL1831 hFL2831 hL31_ Fr.rf hGm31 hGL1831 hGL2831 gL31_ FF.rf (by omega) (by omega) (by have e : dgs 100000000 = 0 := rfl; omega) hW hL (lv_sub hl [0, 1, 2, 3, 4, 5, 6, 7] rfl)
            refine lv_iload hx hb dX12_spell_41 (lv_at hl 1 rfl) ?_
            refine lv_iload_n hx hb dX12_spell_43 rfl (lv_at hl 2 rfl) ?_
            refine r_icmp_ge (tgt := 51) hx hb ⟨(by omega), (by omega)⟩ ⟨(by omega), (by omega)⟩ dX12_spell_44 (by decide) (fun c_31 => ?_) (fun c_31 => ?_)
            · refine lv_iconst (v := iv 0) hx hb dX12_spell_51 (by decide) ?_
              exact join_52 0 _ _ _ (by omega) hW hL (lv_sub hl [0, 1, 2, 3, 4, 5] rfl)
            · refine lv_iconst (v := iv 1) hx hb dX12_spell_47 (by decide) ?_
              refine lv_goto (tgt := 52) hx hb dX12_spell_48 (by decide) ?_
              exact join_52 1 _ _ _ (by omega) hW hL (lv_sub hl [0, 1, 2, 3, 4, 5] rfl)
      have q_32 : (-2147483648) ≤ S28.1 231 6 ∧ S28.1 231 6 ≤ 2147483647 := hI28.fi 6
      exact loop_31 (_ + 1) S28 n _ _ _ (Nat.lt_succ_self _) hI28 hFm28 hFL1828 hL28_ Fr.rf hGm28 hGL1828 gL28_ FF.rf (by omega) (by omega) hW hL (lv_sub hl [0, 1, 2, 3, 4] rfl)
    refine lv_iload_n hx hb dX12_spell_18 rfl (lv_at hl 0 rfl) ?_
    refine r_if_ne (tgt := 28) hx hb ⟨(by omega), (by omega)⟩ dX12_spell_19 (by decide) (fun c_33 => ?_) (fun c_33 => ?_)
    · have q_34 : (-2147483648) ≤ S18.1 231 6 ∧ S18.1 231 6 ≤ 2147483647 := hI18.fi 6
      exact join_28 S18  _ _ _ hI18 hFm18 hL18_ (Fr.rf : Fr S18 S18 (pl [231, 236])) hGm18 gL18_ (FF.rf : FF S18 S18 (fl [6])) (by omega) hW hL (lv_sub hl [0, 1, 2, 3] rfl)
    · refine lv_aload_n hx hb dX12_spell_22 rfl (lv_at hl 1 rfl) ?_
      refine lv_bipush (v := iv 48) hx hb dX12_spell_23 (by decide) ?_
      have q_35 : (-2147483648) ≤ S18.1 231 6 ∧ S18.1 231 6 ≤ 2147483647 := hI18.fi 6
      refine sBv (sV (As := [.int (iv 48)]) (rest := []) (k := 231) Cx (s_X12_letter l G S18 (ch := 48) hI18 (by omega) (by omega)) (c_X12_262 Cx rfl rfl (rmk_ok (by omega) (by decide))) hW (by decide) rfl rfl rfl hl.1 rfl (Nat.le_of_ble_eq_true rfl) dX12_spell_25 ⟨Nat.le_of_ble_eq_true rfl, Nat.le_of_ble_eq_true rfl⟩) hL (fun u_36 H locs k_37 hW hL => ?_)
      obtain ⟨iu_36, fu_36, gu_36, xu_36⟩ := k_37
      have F_38 := hFm18.trans fu_36
      have F_39 := hL18_.trans fu_36
      have F_40 := (Fr.rf : Fr S18 S18 (pl [231, 236])).trans fu_36
      have g_41 : FF S u_36 (fl [6]) := FF.trans hGm18 (FF.to gu_36 (fl_sub (by decide)))
      have g_42 : FF S u_36 (fl [6]) := FF.trans gL18_ (FF.to gu_36 (fl_sub (by decide)))
      have g_43 : FF S18 u_36 (fl [6]) := FF.trans (FF.rf : FF S18 S18 (fl [6])) (FF.to gu_36 (fl_sub (by decide)))
      have q_44 : (-2147483648) ≤ u_36.1 231 6 ∧ u_36.1 231 6 ≤ 2147483647 := iu_36.fi 6
      exact join_28 u_36  _ _ _ iu_36 F_38 F_39 F_40 g_41 g_42 g_43 (by omega) hW hL (lv_sub hl [0, 1, 2, 3] rfl)
  refine lv_aload_n hx hb dX12_spell_6 rfl (lv_at hl 2 rfl) ?_
  refine lv_iload_n hx hb dX12_spell_7 rfl (lv_at hl 3 rfl) ?_
  refine rIald Cx hW (k := ka) hika.lt hika.1 (by omega) (by omega) (by omega) dX12_spell_8 ?_
  have q_45 : (-2147483648) ≤ S.2.1 ka po ∧ S.2.1 ka po ≤ 2147483647 := hI.aj hika.ge po
  refine r_i (b := S.2.1 ka po) rfl ?_
  refine r_if_ge (tgt := 18) hx hb ⟨(by omega), (by omega)⟩ dX12_spell_9 (by decide) (fun c_46 => ?_) (fun c_46 => ?_)
  · have q_47 : (-2147483648) ≤ S.1 231 6 ∧ S.1 231 6 ≤ 2147483647 := hI.fi 6
    exact join_18 S  _ _ _ hI (Fr.rf : Fr S S (pl [231, 236])) (Fr.rf : Fr S S (pl [231, 236])) FF.rf (FF.rf : FF S S (fl [6])) (by omega) hW hL (lv_sub hl [0, 1, 2, 3] rfl)
  · refine lv_aload_n hx hb dX12_spell_12 rfl (lv_at hl 1 rfl) ?_
    refine lv_bipush (v := iv 45) hx hb dX12_spell_13 (by decide) ?_
    have q_48 : (-2147483648) ≤ S.1 231 6 ∧ S.1 231 6 ≤ 2147483647 := hI.fi 6
    refine sBv (sV (As := [.int (iv 45)]) (rest := []) (k := 231) Cx (s_X12_letter l G S (ch := 45) hI (by omega) (by omega)) (c_X12_262 Cx rfl rfl (rmk_ok (by omega) (by decide))) hW (by decide) rfl rfl rfl hl.1 rfl (Nat.le_of_ble_eq_true rfl) dX12_spell_15 ⟨Nat.le_of_ble_eq_true rfl, Nat.le_of_ble_eq_true rfl⟩) hL (fun u_49 H locs k_50 hW hL => ?_)
    obtain ⟨iu_49, fu_49, gu_49, xu_49⟩ := k_50
    have F_51 := (Fr.rf : Fr S S (pl [231, 236])).trans fu_49
    have F_52 := (Fr.rf : Fr S S (pl [231, 236])).trans fu_49
    have g_53 : FF S u_49 (fl [6]) := FF.trans FF.rf (FF.to gu_49 (fl_sub (by decide)))
    have g_54 : FF S u_49 (fl [6]) := FF.trans (FF.rf : FF S S (fl [6])) (FF.to gu_49 (fl_sub (by decide)))
    have q_55 : (-2147483648) ≤ u_49.1 231 6 ∧ u_49.1 231 6 ≤ 2147483647 := iu_49.fi 6
    exact join_18 u_49  _ _ _ iu_49 F_51 F_52 g_53 g_54 (by omega) hW hL (lv_sub hl [0, 1, 2, 3] rfl)
