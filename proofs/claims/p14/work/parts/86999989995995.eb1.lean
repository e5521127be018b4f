/-! The reference's texts by their bytes -/
def LSr (S : sS) (f arr : Nat) (L : List Int) : Prop := S.1 231 f = (L.length : Int) ∧ ∀ k : Nat, k < L.length → S.2.1 arr (k : Int) = L.getD k 0
theorem LSr.put {S u : sS} {f arr : Nat} {L : List Int} {x : Int} (h : LSr S f arr L) (h1 : u.1 231 f = S.1 231 f + 1) (h2 : ∀ j, u.2.1 arr j = if j = S.1 231 f then x else S.2.1 arr j) : LSr u f arr (L ++ [x]) := by
  have len : (L ++ [x]).length = L.length + 1 := by rw [List.length_append]; rfl
  have e := h.1
  refine ⟨by rw [len]; omega, fun k hk => ?_⟩
  rw [len] at hk
  rw [h2, getD_app]
  by_cases z : k < L.length
  · rw [if_neg (by omega), if_pos z]; exact h.2 k z
  · rw [if_pos (by omega), if_neg z, if_pos (by omega)]
theorem LSr.of {S u : sS} {f arr : Nat} {L : List Int} (h : LSr S f arr L) (h1 : u.1 231 f = S.1 231 f) (h2 : u.2.1 arr = S.2.1 arr) : LSr u f arr L := by unfold LSr; rw [h1, h2]; exact h
theorem LSr.eq {S : sS} {f arr : Nat} {L M : List Int} (h : LSr S f arr L) (e : L = M) : LSr S f arr M := by rw [← e]; exact h
theorem LSr.nil {S : sS} {f arr : Nat} (h : S.1 231 f = 0) : LSr S f arr [] := ⟨h, fun k hk => absurd hk (Nat.not_lt_zero k)⟩
theorem nm_nv {f : Int → Int} {p L : Int} (h : NO f p L) : nmT (nv f p) = sgT (f p) ++ dgz (nu f p).toNat := by
  have s := h.sgn
  have a := nv_abs h
  have n0 := h.nu0
  unfold nmT sgT
  rcases (by omega : f p < 0 ∨ f p = 0 ∨ 0 < f p) with q | q | q
  · have v := s.1.mpr q
    have e := a.2 (by omega)
    rw [if_neg (by omega), if_pos v, if_pos q, show (-nv f p).toNat = (nu f p).toNat by omega]; rfl
  · have v := s.2.2.mpr q
    have e := a.1 (by omega)
    rw [if_pos v, if_neg (by omega), if_pos q, show (nu f p).toNat = 0 by omega]; rfl
  · have v := s.2.1.mpr q
    have e := a.1 (by omega)
    rw [if_neg (by omega), if_neg (by omega), if_neg (by omega), if_neg (by omega), show (nv f p).toNat = (nu f p).toNat by omega]; rfl
theorem V_topp {f : Int → Int} {s : Int} {n : Nat} (hf : ∀ j, s ≤ j → j ≤ s + n → 0 ≤ f j) (ht : f (s + n) ≠ 0) : 0 < V f s (n + 1) := by
  show 0 < V f s n + f (s + (n : Int)) * pw n
  have a : 0 ≤ V f s n := V_0 (fun i a b => hf i a (by omega))
  have b := hf (s + n) (by omega) (by omega)
  have c : 1 * pw n ≤ f (s + (n : Int)) * pw n := Int.mul_le_mul_of_nonneg_right (by omega) (Int.le_of_lt (pw_pos n))
  have d := pw_pos n
  omega
theorem dg_q {X un un2 : Int} (hu : unS un) (h2 : un2 = un / 10) : pfx X un2 = X / un := by
  obtain ⟨t0, t1, t2, t3, t4, t5, t6, t7, t8, t9, t10⟩ := pfx_t (X := X)
  unfold unS at hu
  rcases hu with e | e | e | e | e | e | e | e | e <;> subst e
  · rw [show un2 = 10000000 by omega, t2]
  · rw [show un2 = 1000000 by omega, t3]
  · rw [show un2 = 100000 by omega, t4]
  · rw [show un2 = 10000 by omega, t5]
  · rw [show un2 = 1000 by omega, t6]
  · rw [show un2 = 100 by omega, t7]
  · rw [show un2 = 10 by omega, t8]
  · rw [show un2 = 1 by omega, t9]
  · rw [show un2 = 0 by omega, t10]; omega
theorem dgs_u {b : Int} (h : unS b ∨ b = 0) (hb : 0 < b) : dgs (b / 10) = dgs b + 1 := by
  have e := dgs_r (b := b) (by unfold unS at h; omega)
  exact (e.2.2.1 hb).2
theorem dgs_b {b : Int} (h : unS b ∨ b = 0) : 0 ≤ dgs b ∧ dgs b ≤ 9 ∧ (0 < b → dgs b ≤ 8) ∧ (b = 0 → dgs b = 9) := by
  have e := dgs_r (b := b) (by unfold unS at h; omega)
  exact ⟨e.1, e.2.1, fun q => (e.2.2.1 q).1, fun q => by rw [q]; rfl⟩
set_option maxRecDepth 100000 in
set_option maxHeartbeats 4000000 in
theorem r_X12_letter (l : Launch) (G : sG) (S : sS) {ch : Int} {L : List Int} (hI : dX G S) (hch : 0 ≤ ch ∧ ch ≤ 127) (hle : 0 ≤ S.1 231 6 ∧ S.1 231 6 < 576) (hlt : Hd (LSr S 6 236 L)) : Met l yX12_letter (.code yX12_letter cX12_letter 2 none :: tb) (rmk 1 0 0) (sPc G 294 S [.ref (G.2.2.1 + 231), .int (iv ch)]) (sQv G 294 (fun u => dX G u ∧ Fr S u (pl [231, 236]) ∧ FF S u (fl [6]) ∧ (u.1 231 6 = S.1 231 6 + 1 ∧ Hd (LSr u 6 236 (L ++ [ch]))))) 0 0 (sF G) := by
  refine sEnter (by decide) (Nat.le_of_ble_eq_true rfl) ?_
  intro p e s m args below meth c Cx hr hlk hnm hW ls hl
  have Cx : sC G p m c cX12_letter 2 s args RX12 := Cx
  obtain ⟨hx, hb, hml, hown, hts⟩ := id Cx.1
  have hL : sL G [] := sL_nil
  have hl : lv_has ls 2 [(0, .ref (G.2.2.1 + 231)), (1, .int (iv ch))] := hl
  have hW0 := hW
  refine lv_aload_n hx hb dX12_letter_0 rfl (lv_at hl 0 rfl) ?_
  refine g_X12_23 Cx hW (k := 231) (by decide) rfl (v := .ref (G.2.2.1 + 236)) (rd_5 hI) dX12_letter_1 ?_
  refine lv_aload_n hx hb dX12_letter_4 rfl (lv_at hl 0 rfl) ?_
  have q_1 : (-2147483648) ≤ S.1 231 6 ∧ S.1 231 6 ≤ 2147483647 := hI.fi 6
  refine g_X12_259 Cx hW (k := 231) (by decide) rfl (v := S.1 231 6) rfl dX12_letter_5 ?_
  refine lv_iload_n hx hb dX12_letter_8 rfl (lv_at hl 1 rfl) ?_
  refine r_i2bE hx hb ⟨(by omega), (by omega)⟩ dX12_letter_9 (fun z_2 hz_2 kz_2 ez_2 => ?_)
  refine rBast Cx hW hL (k := 236) (by decide) rfl (by decide) (by omega) (by omega) (nar_b (by omega) (by omega)) dX12_letter_10 (fun H locs hW hL => ?_)
  have F_3 : Fr S (uA S 236 (S.1 231 6) z_2) (pl [231, 236]) := (Fr.rf : Fr S S (pl [231, 236])).A rfl
  have i_4 : dX G (uA S 236 (S.1 231 6) z_2) := hI.A (k := 236) (show (-128) ≤ z_2 ∧ z_2 ≤ 127 from ⟨by omega, by omega⟩)
  refine lv_aload_n hx hb dX12_letter_11 rfl (lv_at hl 0 rfl) ?_
  refine lv_dup hx hb dX12_letter_12 rfl ?_
  refine g_X12_259 Cx hW (k := 231) (by decide) rfl (v := S.1 231 6) uA_f dX12_letter_13 ?_
  refine lv_iconst (v := iv 1) hx hb dX12_letter_16 (by decide) ?_
  refine r_iadd hx hb dX12_letter_17 ?_
  refine p_X12_259 Cx hW hL (k := 231) (by decide) rfl dX12_letter_18 (fun H locs hW hL => ?_)
  have F_5 : Fr S (uF (uA S 236 (S.1 231 6) z_2) 231 6 ((S.1 231 6) + 1)) (pl [231, 236]) := F_3.F rfl
  have g_6 : FF S (uF (uA S 236 (S.1 231 6) z_2) 231 6 ((S.1 231 6) + 1)) (fl [6]) := FF.F FF.rf rfl
  have i_7 : dX G (uF (uA S 236 (S.1 231 6) z_2) 231 6 ((S.1 231 6) + 1)) := i_4.F (i := 6) (show (-2147483648) ≤ (S.1 231 6) + 1 ∧ (S.1 231 6) + 1 ≤ 2147483647 from ⟨by omega, by omega⟩)
  have lk_8 : (uF (uA S 236 (S.1 231 6) z_2) 231 6 ((S.1 231 6) + 1)).1 231 6 = (S.1 231 6) + 1 := uF_on
  exact sVret Cx hr hlk hW hL ⟨i_7, F_5, g_6, ⟨uF_on, (LSr.put (x := ch) hlt uF_on (fun j => by show (uA S 236 (S.1 231 6) z_2).2.1 236 j = _; rw [uA_get]; by_cases q : j = S.1 231 6; (focus (rw [if_pos ⟨rfl, by omega⟩, if_pos q]; (try omega))); (rw [if_neg (fun y => q (by have := y.2; omega)), if_neg q])))⟩⟩ dX12_letter_21

set_option maxRecDepth 100000 in
set_option maxHeartbeats 4000000 in
theorem r_X12_spell (l : Launch) (G : sG) (S : sS) {ka Nka : Nat} {po La : Int} {L : List Int} (hI : dX G S) (hika : ia ka Nka) (hR : (0 ≤ po ∧ po + La < Nka) ∧ La ≤ 63) (hle : 0 ≤ S.1 231 6 ∧ S.1 231 6 + 9 * La + 2 ≤ 576) (hA : NO (S.2.1 ka) po La) (nka1 : Hd (ka ≠ 231)) (nka6 : Hd (ka ≠ 236)) (hlt : Hd (LSr S 6 236 L)) : Met l yX12_spell (.code yX12_spell cX12_spell 8 none :: tb) (rmk 3 0 0) (sPc G 294 S [.ref (G.2.2.1 + 231), .ref (G.2.2.1 + ka), .int (iv po)]) (sQv G 294 (fun u => dX G u ∧ Fr S u (pl [231, 236]) ∧ FF S u (fl [6]) ∧ (S.1 231 6 ≤ u.1 231 6 ∧ u.1 231 6 ≤ S.1 231 6 + 9 * La + 2 ∧ Hd (LSr u 6 236 (L ++ nmT (nv (S.2.1 ka) po)))))) 0 0 (sF G) := by
  refine sEnter (by decide) (Nat.le_of_ble_eq_true rfl) ?_
  intro p e s m args below meth c Cx hr hlk hnm hW ls hl
  have Cx : sC G p m c cX12_spell 8 s args RX12 := Cx
  obtain ⟨hx, hb, hml, hown, hts⟩ := id Cx.1
  have hL : sL G [] := sL_nil
  have hl : lv_has ls 8 [(0, .ref (G.2.2.1 + 231)), (1, .ref (G.2.2.1 + ka)), (2, .int (iv po))] := hl
  have hW0 := hW
  have hN := hika.2.2.2.1
  have hA1 := hA.b
  have hA0 := hA.1
  have hAn := al_0 (S.2.1 ka) po
  refine lv_aload_n hx hb dX12_spell_0 rfl (lv_at hl 1 rfl) ?_
  refine lv_iload_n hx hb dX12_spell_1 rfl (lv_at hl 2 rfl) ?_
  refine sBi (sSt (As := [.ref (G.2.2.1 + ka), .int (iv po)]) (rest := []) Cx (s_X12_limbs l G S (ka := ka) (po := po) (Nka := Nka) hI hika (by omega) (by omega)) (c_X12_221 Cx rfl rfl (rmk_ok (by omega) (by decide))) hW rfl hl.1 rfl (Nat.le_of_ble_eq_true rfl) dX12_spell_2 ⟨Nat.le_of_ble_eq_true rfl, Nat.le_of_ble_eq_true rfl⟩) hL (fun n u_1 H locs k_2 hW hL => ?_)
  obtain ⟨eu_1, xu_1⟩ := k_2
  rw [eu_1] at hW
  have hnal : n = al (S.2.1 ka) po := by omega
  refine lv_istore_n (lv' := [(3, .int (iv n)), (0, .ref (G.2.2.1 + 231)), (1, .ref (G.2.2.1 + ka)), (2, .int (iv po))]) hx hb dX12_spell_5 rfl hl (by decide) rfl (fun ls hl => ?_)
  have join_18 : ∀ (S18 : sS)  (H : Heap) (locs : List Loc) (ls : Array Slot), (dX G S18) → (Fr S S18 (pl [231, 236])) → (Fr S S18 (pl [231, 236])) → (FF S S18 (fl [6])) → (FF S S18 (fl [6])) → (S.1 231 6 ≤ S18.1 231 6 ∧ S18.1 231 6 ≤ S.1 231 6 + 1) → (Hd (LSr S18 6 236 (L ++ (if S.2.1 ka po < 0 then [45] else [])))) → sW G 294 S18 H → sL G locs → lv_has ls 8 [(3, .int (iv n)), (0, .ref (G.2.2.1 + 231)), (1, .ref (G.2.2.1 + ka)), (2, .int (iv po))] → W p l e (rmk 3 0 0) s m args below meth c H locs 0 0 (MQ below (sQv G 294 (fun u => dX G u ∧ Fr S u (pl [231, 236]) ∧ FF S u (fl [6]) ∧ (S.1 231 6 ≤ u.1 231 6 ∧ u.1 231 6 ≤ S.1 231 6 + 9 * La + 2 ∧ Hd (LSr u 6 236 (L ++ nmT (nv (S.2.1 ka) po)))))) args s 0 0 (sF G)) (F0 m 18 ls []) := by
    intro S18  H locs ls hI18 hFm18 hL18_ hGm18 gL18_ h18 l18 hW hL hl
    have join_28 : ∀ (S28 : sS)  (H : Heap) (locs : List Loc) (ls : Array Slot), (dX G S28) → (Fr S S28 (pl [231, 236])) → (Fr S S28 (pl [231, 236])) → (Fr S18 S28 (pl [231, 236])) → (FF S S28 (fl [6])) → (FF S S28 (fl [6])) → (FF S18 S28 (fl [6])) → (S.1 231 6 ≤ S28.1 231 6 ∧ S28.1 231 6 ≤ S.1 231 6 + 2) → (Hd (LSr S28 6 236 (L ++ sgT (S.2.1 ka po)))) → sW G 294 S28 H → sL G locs → lv_has ls 8 [(3, .int (iv n)), (0, .ref (G.2.2.1 + 231)), (1, .ref (G.2.2.1 + ka)), (2, .int (iv po))] → W p l e (rmk 3 0 0) s m args below meth c H locs 0 0 (MQ below (sQv G 294 (fun u => dX G u ∧ Fr S u (pl [231, 236]) ∧ FF S u (fl [6]) ∧ (S.1 231 6 ≤ u.1 231 6 ∧ u.1 231 6 ≤ S.1 231 6 + 9 * La + 2 ∧ Hd (LSr u 6 236 (L ++ nmT (nv (S.2.1 ka) po)))))) args s 0 0 (sF G)) (F0 m 28 ls []) := by
      intro S28  H locs ls hI28 hFm28 hFL1828 hL28_ hGm28 hGL1828 gL28_ h28 l28 hW hL hl
      refine lv_iload_n hx hb dX12_spell_28 rfl (lv_at hl 0 rfl) ?_
      refine lv_istore (lv' := [(4, .int (iv n)), (3, .int (iv n)), (0, .ref (G.2.2.1 + 231)), (1, .ref (G.2.2.1 + ka)), (2, .int (iv po))]) hx hb dX12_spell_29 hl (by decide) rfl (fun ls hl => ?_)
      have loop_31 : ∀ (fuel : Nat) (S31 : sS) (k : Int) (H : Heap) (locs : List Loc) (ls : Array Slot), k.toNat < fuel → (dX G S31) → (Fr S S31 (pl [231, 236])) → (Fr S S31 (pl [231, 236])) → (Fr S18 S31 (pl [231, 236])) → (Fr S28 S31 (pl [231, 236])) → (FF S S31 (fl [6])) → (FF S S31 (fl [6])) → (FF S18 S31 (fl [6])) → (FF S28 S31 (fl [6])) → (0 ≤ k ∧ k ≤ n) → (S.1 231 6 ≤ S31.1 231 6 ∧ S31.1 231 6 ≤ S.1 231 6 + 2 + 9 * (n - k)) → (Hd (LSr S31 6 236 (L ++ sgT (S.2.1 ka po) ++ dgz ((V (S.2.1 ka) (po + k + 1) (n - k).toNat)).toNat))) → sW G 294 S31 H → sL G locs → lv_has ls 8 [(4, .int (iv k)), (3, .int (iv n)), (0, .ref (G.2.2.1 + 231)), (1, .ref (G.2.2.1 + ka)), (2, .int (iv po))] → W p l e (rmk 3 0 0) s m args below meth c H locs 0 0 (MQ below (sQv G 294 (fun u => dX G u ∧ Fr S u (pl [231, 236]) ∧ FF S u (fl [6]) ∧ (S.1 231 6 ≤ u.1 231 6 ∧ u.1 231 6 ≤ S.1 231 6 + 9 * La + 2 ∧ Hd (LSr u 6 236 (L ++ nmT (nv (S.2.1 ka) po)))))) args s 0 0 (sF G)) (F0 m 31 ls []) := by
        intro fuel
        induction fuel with
        | zero => intro S31 k H locs ls hmeas hI31 hFm31 hFL1831 hFL2831 hL31_ hGm31 hGL1831 hGL2831 gL31_ hk h31 l31 hW hL hl; exact absurd hmeas (Nat.not_lt_zero _)
        | succ fuel ih_31 =>
          intro S31 k H locs ls hmeas hI31 hFm31 hFL1831 hFL2831 hL31_ hGm31 hGL1831 hGL2831 gL31_ hk h31 l31 hW hL hl
          refine lv_iload hx hb dX12_spell_31 (lv_at hl 0 rfl) ?_
          refine r_if_le (tgt := 123) hx hb ⟨(by omega), (by omega)⟩ dX12_spell_33 (by decide) (fun c_3 => ?_) (fun c_3 => ?_)
          · have q_4 : (-2147483648) ≤ S31.1 231 6 ∧ S31.1 231 6 ≤ 2147483647 := hI31.fi 6
            exact sVret Cx hr hlk hW hL ⟨hI31, hFm31, hGm31, ⟨by omega, by omega, LSr.eq l31 (by rw [nm_nv hA, show k = 0 by omega, List.append_assoc, show (n - 0).toNat = (al (S.2.1 ka) po).toNat by omega, show po + 0 + 1 = po + 1 by omega]; rfl)⟩⟩ dX12_spell_123
          · refine lv_ldcw hx hb hown (hts _ w_2561) dX12_spell_36 ?_
            refine lv_istore (lv' := [(5, .int (iv 100000000)), (4, .int (iv k)), (3, .int (iv n)), (0, .ref (G.2.2.1 + 231)), (1, .ref (G.2.2.1 + ka)), (2, .int (iv po))]) hx hb dX12_spell_39 hl (by decide) rfl (fun ls hl => ?_)
            refine lv_iload hx hb dX12_spell_41 (lv_at hl 1 rfl) ?_
            refine lv_iload_n hx hb dX12_spell_43 rfl (lv_at hl 2 rfl) ?_
            refine r_icmp_ge (tgt := 51) hx hb ⟨(by omega), (by omega)⟩ ⟨(by omega), (by omega)⟩ dX12_spell_44 (by decide) (fun c_5 => ?_) (fun c_5 => ?_)
            · refine lv_iconst (v := iv 0) hx hb dX12_spell_51 (by decide) ?_
              refine lv_istore (lv' := [(6, .int (iv 0)), (5, .int (iv 100000000)), (4, .int (iv k)), (3, .int (iv n)), (0, .ref (G.2.2.1 + 231)), (1, .ref (G.2.2.1 + ka)), (2, .int (iv po))]) hx hb dX12_spell_52 hl (by decide) rfl (fun ls hl => ?_)
              have hak : 0 ≤ S.2.1 ka (po + k) ∧ S.2.1 ka (po + k) ≤ 999999999 := hA.2.1 _ (by omega) (by omega)
              have hvu : (V (S.2.1 ka) (po + k) (n - k + 1).toNat) = (V (S.2.1 ka) (po + k + 1) (n - k).toNat) * 1000000000 + S.2.1 ka (po + k) := by rw [show (n - k + 1).toNat = (n - k).toNat + 1 by omega, V_hd]; omega
              have hH0 : 0 ≤ (V (S.2.1 ka) (po + k + 1) (n - k).toNat) := V_0 (fun j a b => (hA.2.1 j (by omega) (by omega)).1)
              have hHp : k < n → 0 < (V (S.2.1 ka) (po + k + 1) (n - k).toNat) := fun q => by rw [show (n - k).toNat = (n - k - 1).toNat + 1 by omega]; exact V_topp (fun j a b => (hA.2.1 j (by omega) (by omega)).1) (by rw [show po + k + 1 + (((n - k - 1).toNat : Nat) : Int) = po + al (S.2.1 ka) po by omega]; exact hA.2.2 (by omega))
              have hHz : k = n → (V (S.2.1 ka) (po + k + 1) (n - k).toNat) = 0 := fun q => by rw [show (n - k).toNat = 0 by omega]; rfl
              refine lv_aload_n hx hb dX12_spell_54 rfl (lv_at hl 5 rfl) ?_
              refine lv_iload_n hx hb dX12_spell_55 rfl (lv_at hl 6 rfl) ?_
              refine lv_iload hx hb dX12_spell_56 (lv_at hl 2 rfl) ?_
              refine r_iadd hx hb dX12_spell_58 ?_
              refine rIald Cx hW (k := ka) hika.lt hika.1 (by omega) (by omega) (by omega) dX12_spell_59 ?_
              have q_6 : (-2147483648) ≤ S.2.1 ka (po + k) ∧ S.2.1 ka (po + k) ≤ 2147483647 := hI.aj hika.ge (po + k)
              refine r_i (b := S.2.1 ka (po + k)) (((hL31_ ka (pl_c (neD nka1) (pl_c (neD nka6) rfl))).2.1 (po + k)).trans (((hL28_ ka (pl_c (neD nka1) (pl_c (neD nka6) rfl))).2.1 (po + k)).trans ((hL18_ ka (pl_c (neD nka1) (pl_c (neD nka6) rfl))).2.1 (po + k)))) ?_
              refine lv_istore (lv' := [(7, .int (iv (S.2.1 ka (po + k)))), (6, .int (iv 0)), (5, .int (iv 100000000)), (4, .int (iv k)), (3, .int (iv n)), (0, .ref (G.2.2.1 + 231)), (1, .ref (G.2.2.1 + ka)), (2, .int (iv po))]) hx hb dX12_spell_60 hl (by decide) rfl (fun ls hl => ?_)
              have loop_62 : ∀ (fuel : Nat) (S62 : sS) (an0 : Int) (by0 : Int) (H : Heap) (locs : List Loc) (ls : Array Slot), by0.toNat < fuel → (dX G S62) → (Fr S S62 (pl [231, 236])) → (Fr S S62 (pl [231, 236])) → (Fr S18 S62 (pl [231, 236])) → (Fr S28 S62 (pl [231, 236])) → (Fr S31 S62 (pl [231, 236])) → (FF S S62 (fl [6])) → (FF S S62 (fl [6])) → (FF S18 S62 (fl [6])) → (FF S28 S62 (fl [6])) → (FF S31 S62 (fl [6])) → (Hd (unS by0) ∨ by0 = 0) → (0 ≤ by0 ∧ by0 ≤ 100000000) → (0 ≤ an0 ∧ an0 ≤ 1) → (an0 = 0 → k = n) → (an0 = 1 ↔ pfx (V (S.2.1 ka) (po + k) (n - k + 1).toNat) by0 ≠ 0) → (S.1 231 6 ≤ S62.1 231 6 ∧ S62.1 231 6 ≤ S.1 231 6 + 2 + 9 * (n - k) + dgs by0) → (Hd (LSr S62 6 236 (L ++ sgT (S.2.1 ka po) ++ dgz (pfx (V (S.2.1 ka) (po + k) (n - k + 1).toNat) by0).toNat))) → sW G 294 S62 H → sL G locs → lv_has ls 8 [(7, .int (iv (S.2.1 ka (po + k)))), (6, .int (iv an0)), (5, .int (iv by0)), (4, .int (iv k)), (3, .int (iv n)), (0, .ref (G.2.2.1 + 231)), (1, .ref (G.2.2.1 + ka)), (2, .int (iv po))] → W p l e (rmk 3 0 0) s m args below meth c H locs 0 0 (MQ below (sQv G 294 (fun u => dX G u ∧ Fr S u (pl [231, 236]) ∧ FF S u (fl [6]) ∧ (S.1 231 6 ≤ u.1 231 6 ∧ u.1 231 6 ≤ S.1 231 6 + 9 * La + 2 ∧ Hd (LSr u 6 236 (L ++ nmT (nv (S.2.1 ka) po)))))) args s 0 0 (sF G)) (F0 m 62 ls []) := by
                intro fuel
                induction fuel with
                | zero => intro S62 an0 by0 H locs ls hmeas hI62 hFm62 hFL1862 hFL2862 hFL3162 hL62_ hGm62 hGL1862 hGL2862 hGL3162 gL62_ hby hbb ha0 hah hap h62 l62 hW hL hl; exact absurd hmeas (Nat.not_lt_zero _)
                | succ fuel ih_62 =>
                  intro S62 an0 by0 H locs ls hmeas hI62 hFm62 hFL1862 hFL2862 hFL3162 hL62_ hGm62 hGL1862 hGL2862 hGL3162 gL62_ hby hbb ha0 hah hap h62 l62 hW hL hl
                  have hdg0 := dgs_b hby
                  refine lv_iload hx hb dX12_spell_62 (lv_at hl 2 rfl) ?_
                  refine r_if_le (tgt := 117) hx hb ⟨(by omega), (by omega)⟩ dX12_spell_64 (by decide) (fun c_7 => ?_) (fun c_7 => ?_)
                  · refine lv_iinc (v := iv (k + (-1))) (lv' := [(4, .int (iv (k + (-1)))), (7, .int (iv (S.2.1 ka (po + k)))), (6, .int (iv an0)), (5, .int (iv by0)), (3, .int (iv n)), (0, .ref (G.2.2.1 + 231)), (1, .ref (G.2.2.1 + ka)), (2, .int (iv po))]) hx hb dX12_spell_117 hl (k := 3) rfl ((Int32.ofInt_add _ _).symm) (by decide) rfl (fun ls hl => ?_)
                    refine lv_goto (tgt := 31) hx hb dX12_spell_120 (by decide) ?_
                    have q_8 : (-2147483648) ≤ S62.1 231 6 ∧ S62.1 231 6 ≤ 2147483647 := hI62.fi 6
                    exact ih_31 S62 (k + (-1)) _ _ _ (by omega) hI62 hFm62 hFL1862 hFL2862 hFL3162 hGm62 hGL1862 hGL2862 hGL3162 (by omega) (by omega) (LSr.eq l62 (by rw [show by0 = 0 by omega, show po + (k + -1) + 1 = po + k by omega, show n - (k + -1) = n - k + 1 by omega]; rfl)) hW hL (lv_sub hl [0, 4, 5, 6, 7] rfl)
                  · refine lv_iload hx hb dX12_spell_67 (lv_at hl 1 rfl) ?_
                    refine r_if_ne (tgt := 80) hx hb ⟨(by omega), (by omega)⟩ dX12_spell_69 (by decide) (fun c_9 => ?_) (fun c_9 => ?_)
                    · refine lv_iconst (v := iv 1) hx hb dX12_spell_80 (by decide) ?_
                      refine lv_goto (tgt := 85) hx hb dX12_spell_81 (by decide) ?_
                      refine lv_istore (lv' := [(6, .int (iv 1)), (7, .int (iv (S.2.1 ka (po + k)))), (5, .int (iv by0)), (4, .int (iv k)), (3, .int (iv n)), (0, .ref (G.2.2.1 + 231)), (1, .ref (G.2.2.1 + ka)), (2, .int (iv po))]) hx hb dX12_spell_85 hl (by decide) rfl (fun ls hl => ?_)
                      refine lv_iload hx hb dX12_spell_87 (lv_at hl 0 rfl) ?_
                      refine r_if_eq (tgt := 107) hx hb ⟨(by omega), (by omega)⟩ dX12_spell_89 (by decide) (fun c => absurd c (by omega)) (fun _ => ?_)
                      refine lv_aload_n hx hb dX12_spell_92 rfl (lv_at hl 5 rfl) ?_
                      refine lv_bipush (v := iv 48) hx hb dX12_spell_93 (by decide) ?_
                      refine lv_iload hx hb dX12_spell_95 (lv_at hl 1 rfl) ?_
                      refine lv_iload hx hb dX12_spell_97 (lv_at hl 2 rfl) ?_
                      refine r_idiv hx hb ⟨(by omega), (by omega)⟩ ⟨(by omega), (by omega)⟩ (by omega) dX12_spell_99 ?_
                      obtain ⟨d2, ed2⟩ : ∃ z : Int, z = (S.2.1 ka (po + k)).tdiv by0 := ⟨_, rfl⟩
                      have hd2 := tdv (a := S.2.1 ka (po + k)) (b := by0) (by omega) (by omega)
                      rw [← ed2] at hd2
                      refine r_i (b := d2) ed2.symm ?_
                      refine lv_bipush (v := iv 10) hx hb dX12_spell_100 (by decide) ?_
                      refine r_irem hx hb ⟨(by omega), (by omega)⟩ ⟨(by omega), (by omega)⟩ (by omega) dX12_spell_102 ?_
                      obtain ⟨dg0, edg0⟩ : ∃ z : Int, z = d2.tmod 10 := ⟨_, rfl⟩
                      have hdg0 := tmodL (a := d2) (b := 10) (by omega)
                      rw [← edg0] at hdg0
                      refine r_i (b := dg0) edg0.symm ?_
                      clear edg0
                      refine r_iadd hx hb dX12_spell_103 ?_
                      have q_10 : (-2147483648) ≤ S62.1 231 6 ∧ S62.1 231 6 ≤ 2147483647 := hI62.fi 6
                      refine sBv (sV (As := [.int (iv (48 + dg0))]) (rest := []) (k := 231) Cx (r_X12_letter l G S62 (ch := 48 + dg0) (L := (L ++ sgT (S.2.1 ka po) ++ dgz (pfx (V (S.2.1 ka) (po + k) (n - k + 1).toNat) by0).toNat)) hI62 (by omega) (by omega) l62) (c_X12_262 Cx rfl rfl (rmk_ok (by omega) (by decide))) hW (by decide) rfl rfl rfl hl.1 rfl (Nat.le_of_ble_eq_true rfl) dX12_spell_104 ⟨Nat.le_of_ble_eq_true rfl, Nat.le_of_ble_eq_true rfl⟩) hL (fun u_11 H locs k_12 hW hL => ?_)
                      obtain ⟨iu_11, fu_11, gu_11, xu_11⟩ := k_12
                      have F_13 := hFm62.trans fu_11
                      have F_14 := hFL1862.trans fu_11
                      have F_15 := hFL2862.trans fu_11
                      have F_16 := hFL3162.trans fu_11
                      have F_17 := hL62_.trans fu_11
                      have g_18 : FF S u_11 (fl [6]) := FF.trans hGm62 (FF.to gu_11 (fl_sub (by decide)))
                      have g_19 : FF S u_11 (fl [6]) := FF.trans hGL1862 (FF.to gu_11 (fl_sub (by decide)))
                      have g_20 : FF S18 u_11 (fl [6]) := FF.trans hGL2862 (FF.to gu_11 (fl_sub (by decide)))
                      have g_21 : FF S28 u_11 (fl [6]) := FF.trans hGL3162 (FF.to gu_11 (fl_sub (by decide)))
                      have g_22 : FF S31 u_11 (fl [6]) := FF.trans gL62_ (FF.to gu_11 (fl_sub (by decide)))
                      refine lv_iload hx hb dX12_spell_107 (lv_at hl 2 rfl) ?_
                      refine lv_bipush (v := iv 10) hx hb dX12_spell_109 (by decide) ?_
                      refine r_idiv hx hb ⟨(by omega), (by omega)⟩ ⟨(by omega), (by omega)⟩ (by omega) dX12_spell_111 ?_
                      obtain ⟨un2, eun2⟩ : ∃ z : Int, z = by0.tdiv 10 := ⟨_, rfl⟩
                      have hun2 := tdivL (a := by0) (b := 10) (by omega)
                      rw [← eun2] at hun2
                      refine r_i (b := un2) eun2.symm ?_
                      clear eun2
                      obtain ⟨dg, edg⟩ : ∃ dg, dg = (S.2.1 ka (po + k) / by0) % 10 := ⟨_, rfl⟩
                      have hds : (0 ≤ dg ∧ dg ≤ 9) ∧ pfx (V (S.2.1 ka) (po + k) (n - k + 1).toNat) un2 = 10 * pfx (V (S.2.1 ka) (po + k) (n - k + 1).toNat) by0 + dg ∧ 0 ≤ pfx (V (S.2.1 ka) (po + k) (n - k + 1).toNat) by0 ∧ (unS un2 ∨ un2 = 0) := dg_st (X := (V (S.2.1 ka) (po + k) (n - k + 1).toNat)) (H := (V (S.2.1 ka) (po + k + 1) (n - k).toNat)) (l := S.2.1 ka (po + k)) (un := by0) (dq := S.2.1 ka (po + k) / by0) (dg := dg) (un2 := un2) hvu hH0 hak (by rcases hby with q | q; exact q; exact absurd q (by omega)) rfl (by omega) (by omega)
                      have hdq := dg_q (X := (V (S.2.1 ka) (po + k) (n - k + 1).toNat)) (un := by0) (un2 := un2) (by rcases hby with q | q; exact q; exact absurd q (by omega)) (by omega)
                      have hxl : k = n → (V (S.2.1 ka) (po + k) (n - k + 1).toNat) / by0 = S.2.1 ka (po + k) / by0 := fun q => by rw [hvu, hHz q, Int.zero_mul, Int.zero_add]
                      refine lv_istore (lv' := [(5, .int (iv un2)), (6, .int (iv 1)), (7, .int (iv (S.2.1 ka (po + k)))), (4, .int (iv k)), (3, .int (iv n)), (0, .ref (G.2.2.1 + 231)), (1, .ref (G.2.2.1 + ka)), (2, .int (iv po))]) hx hb dX12_spell_112 hl (by decide) rfl (fun ls hl => ?_)
                      refine lv_goto (tgt := 62) hx hb dX12_spell_114 (by decide) ?_
                      have q_23 : (-2147483648) ≤ u_11.1 231 6 ∧ u_11.1 231 6 ≤ 2147483647 := iu_11.fi 6
                      exact ih_62 u_11 1 un2 _ _ _ (by omega) iu_11 F_13 F_14 F_15 F_16 F_17 g_18 g_19 g_20 g_21 g_22 hds.2.2.2 (by omega) (by omega) (by omega) (by have h1 := hds.1; have h2 := hds.2.1; have h3 := hds.2.2.1; first | omega | (have h4 := hdq; have h5 := hxl (hah (by omega)); have h6 := hd1.1; omega)) (by have e := dgs_u hby (by omega); have e2 : by0 / 10 = un2 := (by omega); rw [e2] at e; omega) (LSr.eq xu_11.2 (by rw [List.append_assoc, hds.2.1, show (48 : Int) + dg0 = 48 + dg by omega, dgz_i hds.2.2.1 hds.1 (by have h1 := hds.1; have h2 := hds.2.1; have h3 := hds.2.2.1; first | omega | (have h4 := hdq; have h5 := hxl (hah (by omega)); have h6 := hd1.1; omega))])) hW hL (lv_sub hl [2, 1, 0, 3, 4, 5, 6, 7] rfl)
                    · refine lv_iload hx hb dX12_spell_72 (lv_at hl 0 rfl) ?_
                      refine lv_iload hx hb dX12_spell_74 (lv_at hl 2 rfl) ?_
                      refine r_idiv hx hb ⟨(by omega), (by omega)⟩ ⟨(by omega), (by omega)⟩ (by omega) dX12_spell_76 ?_
                      obtain ⟨d1, ed1⟩ : ∃ z : Int, z = (S.2.1 ka (po + k)).tdiv by0 := ⟨_, rfl⟩
                      have hd1 := tdv (a := S.2.1 ka (po + k)) (b := by0) (by omega) (by omega)
                      rw [← ed1] at hd1
                      refine r_i (b := d1) ed1.symm ?_
                      refine r_if_le (tgt := 84) hx hb ⟨(by omega), (by omega)⟩ dX12_spell_77 (by decide) (fun c_24 => ?_) (fun c_24 => ?_)
                      · refine lv_iconst (v := iv 0) hx hb dX12_spell_84 (by decide) ?_
                        refine lv_istore (lv' := [(6, .int (iv 0)), (7, .int (iv (S.2.1 ka (po + k)))), (5, .int (iv by0)), (4, .int (iv k)), (3, .int (iv n)), (0, .ref (G.2.2.1 + 231)), (1, .ref (G.2.2.1 + ka)), (2, .int (iv po))]) hx hb dX12_spell_85 hl (by decide) rfl (fun ls hl => ?_)
                        refine lv_iload hx hb dX12_spell_87 (lv_at hl 0 rfl) ?_
                        refine r_if_eq (tgt := 107) hx hb ⟨(by omega), (by omega)⟩ dX12_spell_89 (by decide) (fun _ => ?_) (fun c => absurd (by omega) c)
                        refine lv_iload hx hb dX12_spell_107 (lv_at hl 2 rfl) ?_
                        refine lv_bipush (v := iv 10) hx hb dX12_spell_109 (by decide) ?_
                        refine r_idiv hx hb ⟨(by omega), (by omega)⟩ ⟨(by omega), (by omega)⟩ (by omega) dX12_spell_111 ?_
                        obtain ⟨un2, eun2⟩ : ∃ z : Int, z = by0.tdiv 10 := ⟨_, rfl⟩
                        have hun2 := tdivL (a := by0) (b := 10) (by omega)
                        rw [← eun2] at hun2
                        refine r_i (b := un2) eun2.symm ?_
                        clear eun2
                        obtain ⟨dg, edg⟩ : ∃ dg, dg = (S.2.1 ka (po + k) / by0) % 10 := ⟨_, rfl⟩
                        have hds : (0 ≤ dg ∧ dg ≤ 9) ∧ pfx (V (S.2.1 ka) (po + k) (n - k + 1).toNat) un2 = 10 * pfx (V (S.2.1 ka) (po + k) (n - k + 1).toNat) by0 + dg ∧ 0 ≤ pfx (V (S.2.1 ka) (po + k) (n - k + 1).toNat) by0 ∧ (unS un2 ∨ un2 = 0) := dg_st (X := (V (S.2.1 ka) (po + k) (n - k + 1).toNat)) (H := (V (S.2.1 ka) (po + k + 1) (n - k).toNat)) (l := S.2.1 ka (po + k)) (un := by0) (dq := S.2.1 ka (po + k) / by0) (dg := dg) (un2 := un2) hvu hH0 hak (by rcases hby with q | q; exact q; exact absurd q (by omega)) rfl (by omega) (by omega)
                        have hdq := dg_q (X := (V (S.2.1 ka) (po + k) (n - k + 1).toNat)) (un := by0) (un2 := un2) (by rcases hby with q | q; exact q; exact absurd q (by omega)) (by omega)
                        have hxl : k = n → (V (S.2.1 ka) (po + k) (n - k + 1).toNat) / by0 = S.2.1 ka (po + k) / by0 := fun q => by rw [hvu, hHz q, Int.zero_mul, Int.zero_add]
                        refine lv_istore (lv' := [(5, .int (iv un2)), (6, .int (iv 0)), (7, .int (iv (S.2.1 ka (po + k)))), (4, .int (iv k)), (3, .int (iv n)), (0, .ref (G.2.2.1 + 231)), (1, .ref (G.2.2.1 + ka)), (2, .int (iv po))]) hx hb dX12_spell_112 hl (by decide) rfl (fun ls hl => ?_)
                        refine lv_goto (tgt := 62) hx hb dX12_spell_114 (by decide) ?_
                        have q_25 : (-2147483648) ≤ S62.1 231 6 ∧ S62.1 231 6 ≤ 2147483647 := hI62.fi 6
                        exact ih_62 S62 0 un2 _ _ _ (by omega) hI62 hFm62 hFL1862 hFL2862 hFL3162 hL62_ hGm62 hGL1862 hGL2862 hGL3162 gL62_ hds.2.2.2 (by omega) (by omega) (by omega) (by have h1 := hds.1; have h2 := hds.2.1; have h3 := hds.2.2.1; first | omega | (have h4 := hdq; have h5 := hxl (hah (by omega)); have h6 := hd1.1; omega)) (by have e := dgs_u hby (by omega); have e2 : by0 / 10 = un2 := (by omega); rw [e2] at e; omega) (LSr.eq l62 (by rw [hds.2.1, show 10 * pfx (V (S.2.1 ka) (po + k) (n - k + 1).toNat) by0 + dg = pfx (V (S.2.1 ka) (po + k) (n - k + 1).toNat) by0 by have h1 := hds.1; have h2 := hds.2.1; have h3 := hds.2.2.1; have h4 := hdq; have h5 := hxl (hah (by omega)); have h6 := hd1.1; omega])) hW hL (lv_sub hl [2, 1, 0, 3, 4, 5, 6, 7] rfl)
                      · refine lv_iconst (v := iv 1) hx hb dX12_spell_80 (by decide) ?_
                        refine lv_goto (tgt := 85) hx hb dX12_spell_81 (by decide) ?_
                        refine lv_istore (lv' := [(6, .int (iv 1)), (7, .int (iv (S.2.1 ka (po + k)))), (5, .int (iv by0)), (4, .int (iv k)), (3, .int (iv n)), (0, .ref (G.2.2.1 + 231)), (1, .ref (G.2.2.1 + ka)), (2, .int (iv po))]) hx hb dX12_spell_85 hl (by decide) rfl (fun ls hl => ?_)
                        refine lv_iload hx hb dX12_spell_87 (lv_at hl 0 rfl) ?_
                        refine r_if_eq (tgt := 107) hx hb ⟨(by omega), (by omega)⟩ dX12_spell_89 (by decide) (fun c => absurd c (by omega)) (fun _ => ?_)
                        refine lv_aload_n hx hb dX12_spell_92 rfl (lv_at hl 5 rfl) ?_
                        refine lv_bipush (v := iv 48) hx hb dX12_spell_93 (by decide) ?_
                        refine lv_iload hx hb dX12_spell_95 (lv_at hl 1 rfl) ?_
                        refine lv_iload hx hb dX12_spell_97 (lv_at hl 2 rfl) ?_
                        refine r_idiv hx hb ⟨(by omega), (by omega)⟩ ⟨(by omega), (by omega)⟩ (by omega) dX12_spell_99 ?_
                        obtain ⟨d2, ed2⟩ : ∃ z : Int, z = (S.2.1 ka (po + k)).tdiv by0 := ⟨_, rfl⟩
                        have hd2 := tdv (a := S.2.1 ka (po + k)) (b := by0) (by omega) (by omega)
                        rw [← ed2] at hd2
                        refine r_i (b := d2) ed2.symm ?_
                        refine lv_bipush (v := iv 10) hx hb dX12_spell_100 (by decide) ?_
                        refine r_irem hx hb ⟨(by omega), (by omega)⟩ ⟨(by omega), (by omega)⟩ (by omega) dX12_spell_102 ?_
                        obtain ⟨dg0, edg0⟩ : ∃ z : Int, z = d2.tmod 10 := ⟨_, rfl⟩
                        have hdg0 := tmodL (a := d2) (b := 10) (by omega)
                        rw [← edg0] at hdg0
                        refine r_i (b := dg0) edg0.symm ?_
                        clear edg0
                        refine r_iadd hx hb dX12_spell_103 ?_
                        have q_26 : (-2147483648) ≤ S62.1 231 6 ∧ S62.1 231 6 ≤ 2147483647 := hI62.fi 6
                        refine sBv (sV (As := [.int (iv (48 + dg0))]) (rest := []) (k := 231) Cx (r_X12_letter l G S62 (ch := 48 + dg0) (L := (L ++ sgT (S.2.1 ka po) ++ dgz (pfx (V (S.2.1 ka) (po + k) (n - k + 1).toNat) by0).toNat)) hI62 (by omega) (by omega) l62) (c_X12_262 Cx rfl rfl (rmk_ok (by omega) (by decide))) hW (by decide) rfl rfl rfl hl.1 rfl (Nat.le_of_ble_eq_true rfl) dX12_spell_104 ⟨Nat.le_of_ble_eq_true rfl, Nat.le_of_ble_eq_true rfl⟩) hL (fun u_27 H locs k_28 hW hL => ?_)
                        obtain ⟨iu_27, fu_27, gu_27, xu_27⟩ := k_28
                        have F_29 := hFm62.trans fu_27
                        have F_30 := hFL1862.trans fu_27
                        have F_31 := hFL2862.trans fu_27
                        have F_32 := hFL3162.trans fu_27
                        have F_33 := hL62_.trans fu_27
                        have g_34 : FF S u_27 (fl [6]) := FF.trans hGm62 (FF.to gu_27 (fl_sub (by decide)))
                        have g_35 : FF S u_27 (fl [6]) := FF.trans hGL1862 (FF.to gu_27 (fl_sub (by decide)))
                        have g_36 : FF S18 u_27 (fl [6]) := FF.trans hGL2862 (FF.to gu_27 (fl_sub (by decide)))
                        have g_37 : FF S28 u_27 (fl [6]) := FF.trans hGL3162 (FF.to gu_27 (fl_sub (by decide)))
                        have g_38 : FF S31 u_27 (fl [6]) := FF.trans gL62_ (FF.to gu_27 (fl_sub (by decide)))
                        refine lv_iload hx hb dX12_spell_107 (lv_at hl 2 rfl) ?_
                        refine lv_bipush (v := iv 10) hx hb dX12_spell_109 (by decide) ?_
                        refine r_idiv hx hb ⟨(by omega), (by omega)⟩ ⟨(by omega), (by omega)⟩ (by omega) dX12_spell_111 ?_
                        obtain ⟨un2, eun2⟩ : ∃ z : Int, z = by0.tdiv 10 := ⟨_, rfl⟩
                        have hun2 := tdivL (a := by0) (b := 10) (by omega)
                        rw [← eun2] at hun2
                        refine r_i (b := un2) eun2.symm ?_
                        clear eun2
                        obtain ⟨dg, edg⟩ : ∃ dg, dg = (S.2.1 ka (po + k) / by0) % 10 := ⟨_, rfl⟩
                        have hds : (0 ≤ dg ∧ dg ≤ 9) ∧ pfx (V (S.2.1 ka) (po + k) (n - k + 1).toNat) un2 = 10 * pfx (V (S.2.1 ka) (po + k) (n - k + 1).toNat) by0 + dg ∧ 0 ≤ pfx (V (S.2.1 ka) (po + k) (n - k + 1).toNat) by0 ∧ (unS un2 ∨ un2 = 0) := dg_st (X := (V (S.2.1 ka) (po + k) (n - k + 1).toNat)) (H := (V (S.2.1 ka) (po + k + 1) (n - k).toNat)) (l := S.2.1 ka (po + k)) (un := by0) (dq := S.2.1 ka (po + k) / by0) (dg := dg) (un2 := un2) hvu hH0 hak (by rcases hby with q | q; exact q; exact absurd q (by omega)) rfl (by omega) (by omega)
                        have hdq := dg_q (X := (V (S.2.1 ka) (po + k) (n - k + 1).toNat)) (un := by0) (un2 := un2) (by rcases hby with q | q; exact q; exact absurd q (by omega)) (by omega)
                        have hxl : k = n → (V (S.2.1 ka) (po + k) (n - k + 1).toNat) / by0 = S.2.1 ka (po + k) / by0 := fun q => by rw [hvu, hHz q, Int.zero_mul, Int.zero_add]
                        refine lv_istore (lv' := [(5, .int (iv un2)), (6, .int (iv 1)), (7, .int (iv (S.2.1 ka (po + k)))), (4, .int (iv k)), (3, .int (iv n)), (0, .ref (G.2.2.1 + 231)), (1, .ref (G.2.2.1 + ka)), (2, .int (iv po))]) hx hb dX12_spell_112 hl (by decide) rfl (fun ls hl => ?_)
                        refine lv_goto (tgt := 62) hx hb dX12_spell_114 (by decide) ?_
                        have q_39 : (-2147483648) ≤ u_27.1 231 6 ∧ u_27.1 231 6 ≤ 2147483647 := iu_27.fi 6
                        exact ih_62 u_27 1 un2 _ _ _ (by omega) iu_27 F_29 F_30 F_31 F_32 F_33 g_34 g_35 g_36 g_37 g_38 hds.2.2.2 (by omega) (by omega) (by omega) (by have h1 := hds.1; have h2 := hds.2.1; have h3 := hds.2.2.1; first | omega | (have h4 := hdq; have h5 := hxl (hah (by omega)); have h6 := hd1.1; omega)) (by have e := dgs_u hby (by omega); have e2 : by0 / 10 = un2 := (by omega); rw [e2] at e; omega) (LSr.eq xu_27.2 (by rw [List.append_assoc, hds.2.1, show (48 : Int) + dg0 = 48 + dg by omega, dgz_i hds.2.2.1 hds.1 (by have h1 := hds.1; have h2 := hds.2.1; have h3 := hds.2.2.1; first | omega | (have h4 := hdq; have h5 := hxl (hah (by omega)); have h6 := hd1.1; omega))])) hW hL (lv_sub hl [2, 1, 0, 3, 4, 5, 6, 7] rfl)
              have q_40 : (-2147483648) ≤ S31.1 231 6 ∧ S31.1 231 6 ≤ 2147483647 := hI31.fi 6
              exact loop_62 (_ + 1) S31 0 100000000 _ _ _ (Nat.lt_succ_self _) hI31 hFm31 hFL1831 hFL2831 hL31_ Fr.rf hGm31 hGL1831 hGL2831 gL31_ FF.rf (.inl (.inl rfl)) (by omega) (by omega) (by omega) (by rw [hvu, pfx_i hak]; first | (have := hHp (by omega); omega) | (have := hHz (by omega); omega)) (by have e : dgs 100000000 = 0 := rfl; omega) (LSr.eq l31 (by rw [hvu, pfx_i hak])) hW hL (lv_sub hl [0, 1, 2, 3, 4, 5, 6, 7] rfl)
            · refine lv_iconst (v := iv 1) hx hb dX12_spell_47 (by decide) ?_
              refine lv_goto (tgt := 52) hx hb dX12_spell_48 (by decide) ?_
              refine lv_istore (lv' := [(6, .int (iv 1)), (5, .int (iv 100000000)), (4, .int (iv k)), (3, .int (iv n)), (0, .ref (G.2.2.1 + 231)), (1, .ref (G.2.2.1 + ka)), (2, .int (iv po))]) hx hb dX12_spell_52 hl (by decide) rfl (fun ls hl => ?_)
              have hak : 0 ≤ S.2.1 ka (po + k) ∧ S.2.1 ka (po + k) ≤ 999999999 := hA.2.1 _ (by omega) (by omega)
              have hvu : (V (S.2.1 ka) (po + k) (n - k + 1).toNat) = (V (S.2.1 ka) (po + k + 1) (n - k).toNat) * 1000000000 + S.2.1 ka (po + k) := by rw [show (n - k + 1).toNat = (n - k).toNat + 1 by omega, V_hd]; omega
              have hH0 : 0 ≤ (V (S.2.1 ka) (po + k + 1) (n - k).toNat) := V_0 (fun j a b => (hA.2.1 j (by omega) (by omega)).1)
              have hHp : k < n → 0 < (V (S.2.1 ka) (po + k + 1) (n - k).toNat) := fun q => by rw [show (n - k).toNat = (n - k - 1).toNat + 1 by omega]; exact V_topp (fun j a b => (hA.2.1 j (by omega) (by omega)).1) (by rw [show po + k + 1 + (((n - k - 1).toNat : Nat) : Int) = po + al (S.2.1 ka) po by omega]; exact hA.2.2 (by omega))
              have hHz : k = n → (V (S.2.1 ka) (po + k + 1) (n - k).toNat) = 0 := fun q => by rw [show (n - k).toNat = 0 by omega]; rfl
              refine lv_aload_n hx hb dX12_spell_54 rfl (lv_at hl 5 rfl) ?_
              refine lv_iload_n hx hb dX12_spell_55 rfl (lv_at hl 6 rfl) ?_
              refine lv_iload hx hb dX12_spell_56 (lv_at hl 2 rfl) ?_
              refine r_iadd hx hb dX12_spell_58 ?_
              refine rIald Cx hW (k := ka) hika.lt hika.1 (by omega) (by omega) (by omega) dX12_spell_59 ?_
              have q_41 : (-2147483648) ≤ S.2.1 ka (po + k) ∧ S.2.1 ka (po + k) ≤ 2147483647 := hI.aj hika.ge (po + k)
              refine r_i (b := S.2.1 ka (po + k)) (((hL31_ ka (pl_c (neD nka1) (pl_c (neD nka6) rfl))).2.1 (po + k)).trans (((hL28_ ka (pl_c (neD nka1) (pl_c (neD nka6) rfl))).2.1 (po + k)).trans ((hL18_ ka (pl_c (neD nka1) (pl_c (neD nka6) rfl))).2.1 (po + k)))) ?_
              refine lv_istore (lv' := [(7, .int (iv (S.2.1 ka (po + k)))), (6, .int (iv 1)), (5, .int (iv 100000000)), (4, .int (iv k)), (3, .int (iv n)), (0, .ref (G.2.2.1 + 231)), (1, .ref (G.2.2.1 + ka)), (2, .int (iv po))]) hx hb dX12_spell_60 hl (by decide) rfl (fun ls hl => ?_)
              have loop_62 : ∀ (fuel : Nat) (S62 : sS) (an0 : Int) (by0 : Int) (H : Heap) (locs : List Loc) (ls : Array Slot), by0.toNat < fuel → (dX G S62) → (Fr S S62 (pl [231, 236])) → (Fr S S62 (pl [231, 236])) → (Fr S18 S62 (pl [231, 236])) → (Fr S28 S62 (pl [231, 236])) → (Fr S31 S62 (pl [231, 236])) → (FF S S62 (fl [6])) → (FF S S62 (fl [6])) → (FF S18 S62 (fl [6])) → (FF S28 S62 (fl [6])) → (FF S31 S62 (fl [6])) → (Hd (unS by0) ∨ by0 = 0) → (0 ≤ by0 ∧ by0 ≤ 100000000) → (0 ≤ an0 ∧ an0 ≤ 1) → (an0 = 0 → k = n) → (an0 = 1 ↔ pfx (V (S.2.1 ka) (po + k) (n - k + 1).toNat) by0 ≠ 0) → (S.1 231 6 ≤ S62.1 231 6 ∧ S62.1 231 6 ≤ S.1 231 6 + 2 + 9 * (n - k) + dgs by0) → (Hd (LSr S62 6 236 (L ++ sgT (S.2.1 ka po) ++ dgz (pfx (V (S.2.1 ka) (po + k) (n - k + 1).toNat) by0).toNat))) → sW G 294 S62 H → sL G locs → lv_has ls 8 [(7, .int (iv (S.2.1 ka (po + k)))), (6, .int (iv an0)), (5, .int (iv by0)), (4, .int (iv k)), (3, .int (iv n)), (0, .ref (G.2.2.1 + 231)), (1, .ref (G.2.2.1 + ka)), (2, .int (iv po))] → W p l e (rmk 3 0 0) s m args below meth c H locs 0 0 (MQ below (sQv G 294 (fun u => dX G u ∧ Fr S u (pl [231, 236]) ∧ FF S u (fl [6]) ∧ (S.1 231 6 ≤ u.1 231 6 ∧ u.1 231 6 ≤ S.1 231 6 + 9 * La + 2 ∧ Hd (LSr u 6 236 (L ++ nmT (nv (S.2.1 ka) po)))))) args s 0 0 (sF G)) (F0 m 62 ls []) := by
                intro fuel
                induction fuel with
                | zero => intro S62 an0 by0 H locs ls hmeas hI62 hFm62 hFL1862 hFL2862 hFL3162 hL62_ hGm62 hGL1862 hGL2862 hGL3162 gL62_ hby hbb ha0 hah hap h62 l62 hW hL hl; exact absurd hmeas (Nat.not_lt_zero _)
                | succ fuel ih_62 =>
                  intro S62 an0 by0 H locs ls hmeas hI62 hFm62 hFL1862 hFL2862 hFL3162 hL62_ hGm62 hGL1862 hGL2862 hGL3162 gL62_ hby hbb ha0 hah hap h62 l62 hW hL hl
                  have hdg0 := dgs_b hby
                  refine lv_iload hx hb dX12_spell_62 (lv_at hl 2 rfl) ?_
                  refine r_if_le (tgt := 117) hx hb ⟨(by omega), (by omega)⟩ dX12_spell_64 (by decide) (fun c_42 => ?_) (fun c_42 => ?_)
                  · refine lv_iinc (v := iv (k + (-1))) (lv' := [(4, .int (iv (k + (-1)))), (7, .int (iv (S.2.1 ka (po + k)))), (6, .int (iv an0)), (5, .int (iv by0)), (3, .int (iv n)), (0, .ref (G.2.2.1 + 231)), (1, .ref (G.2.2.1 + ka)), (2, .int (iv po))]) hx hb dX12_spell_117 hl (k := 3) rfl ((Int32.ofInt_add _ _).symm) (by decide) rfl (fun ls hl => ?_)
                    refine lv_goto (tgt := 31) hx hb dX12_spell_120 (by decide) ?_
                    have q_43 : (-2147483648) ≤ S62.1 231 6 ∧ S62.1 231 6 ≤ 2147483647 := hI62.fi 6
                    exact ih_31 S62 (k + (-1)) _ _ _ (by omega) hI62 hFm62 hFL1862 hFL2862 hFL3162 hGm62 hGL1862 hGL2862 hGL3162 (by omega) (by omega) (LSr.eq l62 (by rw [show by0 = 0 by omega, show po + (k + -1) + 1 = po + k by omega, show n - (k + -1) = n - k + 1 by omega]; rfl)) hW hL (lv_sub hl [0, 4, 5, 6, 7] rfl)
                  · refine lv_iload hx hb dX12_spell_67 (lv_at hl 1 rfl) ?_
                    refine r_if_ne (tgt := 80) hx hb ⟨(by omega), (by omega)⟩ dX12_spell_69 (by decide) (fun c_44 => ?_) (fun c_44 => ?_)
                    · refine lv_iconst (v := iv 1) hx hb dX12_spell_80 (by decide) ?_
                      refine lv_goto (tgt := 85) hx hb dX12_spell_81 (by decide) ?_
                      refine lv_istore (lv' := [(6, .int (iv 1)), (7, .int (iv (S.2.1 ka (po + k)))), (5, .int (iv by0)), (4, .int (iv k)), (3, .int (iv n)), (0, .ref (G.2.2.1 + 231)), (1, .ref (G.2.2.1 + ka)), (2, .int (iv po))]) hx hb dX12_spell_85 hl (by decide) rfl (fun ls hl => ?_)
                      refine lv_iload hx hb dX12_spell_87 (lv_at hl 0 rfl) ?_
                      refine r_if_eq (tgt := 107) hx hb ⟨(by omega), (by omega)⟩ dX12_spell_89 (by decide) (fun c => absurd c (by omega)) (fun _ => ?_)
                      refine lv_aload_n hx hb dX12_spell_92 rfl (lv_at hl 5 rfl) ?_
                      refine lv_bipush (v := iv 48) hx hb dX12_spell_93 (by decide) ?_
                      refine lv_iload hx hb dX12_spell_95 (lv_at hl 1 rfl) ?_
                      refine lv_iload hx hb dX12_spell_97 (lv_at hl 2 rfl) ?_
                      refine r_idiv hx hb ⟨(by omega), (by omega)⟩ ⟨(by omega), (by omega)⟩ (by omega) dX12_spell_99 ?_
                      obtain ⟨d2, ed2⟩ : ∃ z : Int, z = (S.2.1 ka (po + k)).tdiv by0 := ⟨_, rfl⟩
                      have hd2 := tdv (a := S.2.1 ka (po + k)) (b := by0) (by omega) (by omega)
                      rw [← ed2] at hd2
                      refine r_i (b := d2) ed2.symm ?_
                      refine lv_bipush (v := iv 10) hx hb dX12_spell_100 (by decide) ?_
                      refine r_irem hx hb ⟨(by omega), (by omega)⟩ ⟨(by omega), (by omega)⟩ (by omega) dX12_spell_102 ?_
                      obtain ⟨dg0, edg0⟩ : ∃ z : Int, z = d2.tmod 10 := ⟨_, rfl⟩
                      have hdg0 := tmodL (a := d2) (b := 10) (by omega)
                      rw [← edg0] at hdg0
                      refine r_i (b := dg0) edg0.symm ?_
                      clear edg0
                      refine r_iadd hx hb dX12_spell_103 ?_
                      have q_45 : (-2147483648) ≤ S62.1 231 6 ∧ S62.1 231 6 ≤ 2147483647 := hI62.fi 6
                      refine sBv (sV (As := [.int (iv (48 + dg0))]) (rest := []) (k := 231) Cx (r_X12_letter l G S62 (ch := 48 + dg0) (L := (L ++ sgT (S.2.1 ka po) ++ dgz (pfx (V (S.2.1 ka) (po + k) (n - k + 1).toNat) by0).toNat)) hI62 (by omega) (by omega) l62) (c_X12_262 Cx rfl rfl (rmk_ok (by omega) (by decide))) hW (by decide) rfl rfl rfl hl.1 rfl (Nat.le_of_ble_eq_true rfl) dX12_spell_104 ⟨Nat.le_of_ble_eq_true rfl, Nat.le_of_ble_eq_true rfl⟩) hL (fun u_46 H locs k_47 hW hL => ?_)
                      obtain ⟨iu_46, fu_46, gu_46, xu_46⟩ := k_47
                      have F_48 := hFm62.trans fu_46
                      have F_49 := hFL1862.trans fu_46
                      have F_50 := hFL2862.trans fu_46
                      have F_51 := hFL3162.trans fu_46
                      have F_52 := hL62_.trans fu_46
                      have g_53 : FF S u_46 (fl [6]) := FF.trans hGm62 (FF.to gu_46 (fl_sub (by decide)))
                      have g_54 : FF S u_46 (fl [6]) := FF.trans hGL1862 (FF.to gu_46 (fl_sub (by decide)))
                      have g_55 : FF S18 u_46 (fl [6]) := FF.trans hGL2862 (FF.to gu_46 (fl_sub (by decide)))
                      have g_56 : FF S28 u_46 (fl [6]) := FF.trans hGL3162 (FF.to gu_46 (fl_sub (by decide)))
                      have g_57 : FF S31 u_46 (fl [6]) := FF.trans gL62_ (FF.to gu_46 (fl_sub (by decide)))
                      refine lv_iload hx hb dX12_spell_107 (lv_at hl 2 rfl) ?_
                      refine lv_bipush (v := iv 10) hx hb dX12_spell_109 (by decide) ?_
                      refine r_idiv hx hb ⟨(by omega), (by omega)⟩ ⟨(by omega), (by omega)⟩ (by omega) dX12_spell_111 ?_
                      obtain ⟨un2, eun2⟩ : ∃ z : Int, z = by0.tdiv 10 := ⟨_, rfl⟩
                      have hun2 := tdivL (a := by0) (b := 10) (by omega)
                      rw [← eun2] at hun2
                      refine r_i (b := un2) eun2.symm ?_
                      clear eun2
                      obtain ⟨dg, edg⟩ : ∃ dg, dg = (S.2.1 ka (po + k) / by0) % 10 := ⟨_, rfl⟩
                      have hds : (0 ≤ dg ∧ dg ≤ 9) ∧ pfx (V (S.2.1 ka) (po + k) (n - k + 1).toNat) un2 = 10 * pfx (V (S.2.1 ka) (po + k) (n - k + 1).toNat) by0 + dg ∧ 0 ≤ pfx (V (S.2.1 ka) (po + k) (n - k + 1).toNat) by0 ∧ (unS un2 ∨ un2 = 0) := dg_st (X := (V (S.2.1 ka) (po + k) (n - k + 1).toNat)) (H := (V (S.2.1 ka) (po + k + 1) (n - k).toNat)) (l := S.2.1 ka (po + k)) (un := by0) (dq := S.2.1 ka (po + k) / by0) (dg := dg) (un2 := un2) hvu hH0 hak (by rcases hby with q | q; exact q; exact absurd q (by omega)) rfl (by omega) (by omega)
                      have hdq := dg_q (X := (V (S.2.1 ka) (po + k) (n - k + 1).toNat)) (un := by0) (un2 := un2) (by rcases hby with q | q; exact q; exact absurd q (by omega)) (by omega)
                      have hxl : k = n → (V (S.2.1 ka) (po + k) (n - k + 1).toNat) / by0 = S.2.1 ka (po + k) / by0 := fun q => by rw [hvu, hHz q, Int.zero_mul, Int.zero_add]
                      refine lv_istore (lv' := [(5, .int (iv un2)), (6, .int (iv 1)), (7, .int (iv (S.2.1 ka (po + k)))), (4, .int (iv k)), (3, .int (iv n)), (0, .ref (G.2.2.1 + 231)), (1, .ref (G.2.2.1 + ka)), (2, .int (iv po))]) hx hb dX12_spell_112 hl (by decide) rfl (fun ls hl => ?_)
                      refine lv_goto (tgt := 62) hx hb dX12_spell_114 (by decide) ?_
                      have q_58 : (-2147483648) ≤ u_46.1 231 6 ∧ u_46.1 231 6 ≤ 2147483647 := iu_46.fi 6
                      exact ih_62 u_46 1 un2 _ _ _ (by omega) iu_46 F_48 F_49 F_50 F_51 F_52 g_53 g_54 g_55 g_56 g_57 hds.2.2.2 (by omega) (by omega) (by omega) (by have h1 := hds.1; have h2 := hds.2.1; have h3 := hds.2.2.1; first | omega | (have h4 := hdq; have h5 := hxl (hah (by omega)); have h6 := hd1.1; omega)) (by have e := dgs_u hby (by omega); have e2 : by0 / 10 = un2 := (by omega); rw [e2] at e; omega) (LSr.eq xu_46.2 (by rw [List.append_assoc, hds.2.1, show (48 : Int) + dg0 = 48 + dg by omega, dgz_i hds.2.2.1 hds.1 (by have h1 := hds.1; have h2 := hds.2.1; have h3 := hds.2.2.1; first | omega | (have h4 := hdq; have h5 := hxl (hah (by omega)); have h6 := hd1.1; omega))])) hW hL (lv_sub hl [2, 1, 0, 3, 4, 5, 6, 7] rfl)
                    · refine lv_iload hx hb dX12_spell_72 (lv_at hl 0 rfl) ?_
                      refine lv_iload hx hb dX12_spell_74 (lv_at hl 2 rfl) ?_
                      refine r_idiv hx hb ⟨(by omega), (by omega)⟩ ⟨(by omega), (by omega)⟩ (by omega) dX12_spell_76 ?_
                      obtain ⟨d1, ed1⟩ : ∃ z : Int, z = (S.2.1 ka (po + k)).tdiv by0 := ⟨_, rfl⟩
                      have hd1 := tdv (a := S.2.1 ka (po + k)) (b := by0) (by omega) (by omega)
                      rw [← ed1] at hd1
                      refine r_i (b := d1) ed1.symm ?_
                      refine r_if_le (tgt := 84) hx hb ⟨(by omega), (by omega)⟩ dX12_spell_77 (by decide) (fun c_59 => ?_) (fun c_59 => ?_)
                      · refine lv_iconst (v := iv 0) hx hb dX12_spell_84 (by decide) ?_
                        refine lv_istore (lv' := [(6, .int (iv 0)), (7, .int (iv (S.2.1 ka (po + k)))), (5, .int (iv by0)), (4, .int (iv k)), (3, .int (iv n)), (0, .ref (G.2.2.1 + 231)), (1, .ref (G.2.2.1 + ka)), (2, .int (iv po))]) hx hb dX12_spell_85 hl (by decide) rfl (fun ls hl => ?_)
                        refine lv_iload hx hb dX12_spell_87 (lv_at hl 0 rfl) ?_
                        refine r_if_eq (tgt := 107) hx hb ⟨(by omega), (by omega)⟩ dX12_spell_89 (by decide) (fun _ => ?_) (fun c => absurd (by omega) c)
                        refine lv_iload hx hb dX12_spell_107 (lv_at hl 2 rfl) ?_
                        refine lv_bipush (v := iv 10) hx hb dX12_spell_109 (by decide) ?_
                        refine r_idiv hx hb ⟨(by omega), (by omega)⟩ ⟨(by omega), (by omega)⟩ (by omega) dX12_spell_111 ?_
                        obtain ⟨un2, eun2⟩ : ∃ z : Int, z = by0.tdiv 10 := ⟨_, rfl⟩
                        have hun2 := tdivL (a := by0) (b := 10) (by omega)
                        rw [← eun2] at hun2
                        refine r_i (b := un2) eun2.symm ?_
                        clear eun2
                        obtain ⟨dg, edg⟩ : ∃ dg, dg = (S.2.1 ka (po + k) / by0) % 10 := ⟨_, rfl⟩
                        have hds : (0 ≤ dg ∧ dg ≤ 9) ∧ pfx (V (S.2.1 ka) (po + k) (n - k + 1).toNat) un2 = 10 * pfx (V (S.2.1 ka) (po + k) (n - k + 1).toNat) by0 + dg ∧ 0 ≤ pfx (V (S.2.1 ka) (po + k) (n - k + 1).toNat) by0 ∧ (unS un2 ∨ un2 = 0) := dg_st (X := (V (S.2.1 ka) (po + k) (n - k + 1).toNat)) (H := (V (S.2.1 ka) (po + k + 1) (n - k).toNat)) (l := S.2.1 ka (po + k)) (un := by0) (dq := S.2.1 ka (po + k) / by0) (dg := dg) (un2 := un2) hvu hH0 hak (by rcases hby with q | q; exact q; exact absurd q (by omega)) rfl (by omega) (by omega)
                        have hdq := dg_q (X := (V (S.2.1 ka) (po + k) (n - k + 1).toNat)) (un := by0) (un2 := un2) (by rcases hby with q | q; exact q; exact absurd q (by omega)) (by omega)
                        have hxl : k = n → (V (S.2.1 ka) (po + k) (n - k + 1).toNat) / by0 = S.2.1 ka (po + k) / by0 := fun q => by rw [hvu, hHz q, Int.zero_mul, Int.zero_add]
                        refine lv_istore (lv' := [(5, .int (iv un2)), (6, .int (iv 0)), (7, .int (iv (S.2.1 ka (po + k)))), (4, .int (iv k)), (3, .int (iv n)), (0, .ref (G.2.2.1 + 231)), (1, .ref (G.2.2.1 + ka)), (2, .int (iv po))]) hx hb dX12_spell_112 hl (by decide) rfl (fun ls hl => ?_)
                        refine lv_goto (tgt := 62) hx hb dX12_spell_114 (by decide) ?_
                        have q_60 : (-2147483648) ≤ S62.1 231 6 ∧ S62.1 231 6 ≤ 2147483647 := hI62.fi 6
                        exact ih_62 S62 0 un2 _ _ _ (by omega) hI62 hFm62 hFL1862 hFL2862 hFL3162 hL62_ hGm62 hGL1862 hGL2862 hGL3162 gL62_ hds.2.2.2 (by omega) (by omega) (by omega) (by have h1 := hds.1; have h2 := hds.2.1; have h3 := hds.2.2.1; first | omega | (have h4 := hdq; have h5 := hxl (hah (by omega)); have h6 := hd1.1; omega)) (by have e := dgs_u hby (by omega); have e2 : by0 / 10 = un2 := (by omega); rw [e2] at e; omega) (LSr.eq l62 (by rw [hds.2.1, show 10 * pfx (V (S.2.1 ka) (po + k) (n - k + 1).toNat) by0 + dg = pfx (V (S.2.1 ka) (po + k) (n - k + 1).toNat) by0 by have h1 := hds.1; have h2 := hds.2.1; have h3 := hds.2.2.1; have h4 := hdq; have h5 := hxl (hah (by omega)); have h6 := hd1.1; omega])) hW hL (lv_sub hl [2, 1, 0, 3, 4, 5, 6, 7] rfl)
                      · refine lv_iconst (v := iv 1) hx hb dX12_spell_80 (by decide) ?_
                        refine lv_goto (tgt := 85) hx hb dX12_spell_81 (by decide) ?_
                        refine lv_istore (lv' := [(6, .int (iv 1)), (7, .int (iv (S.2.1 ka (po + k)))), (5, .int (iv by0)), (4, .int (iv k)), (3, .int (iv n)), (0, .ref (G.2.2.1 + 231)), (1, .ref (G.2.2.1 + ka)), (2, .int (iv po))]) hx hb dX12_spell_85 hl (by decide) rfl (fun ls hl => ?_)
                        refine lv_iload hx hb dX12_spell_87 (lv_at hl 0 rfl) ?_
                        refine r_if_eq (tgt := 107) hx hb ⟨(by omega), (by omega)⟩ dX12_spell_89 (by decide) (fun c => absurd c (by omega)) (fun _ => ?_)
                        refine lv_aload_n hx hb dX12_spell_92 rfl (lv_at hl 5 rfl) ?_
                        refine lv_bipush (v := iv 48) hx hb dX12_spell_93 (by decide) ?_
                        refine lv_iload hx hb dX12_spell_95 (lv_at hl 1 rfl) ?_
                        refine lv_iload hx hb dX12_spell_97 (lv_at hl 2 rfl) ?_
                        refine r_idiv hx hb ⟨(by omega), (by omega)⟩ ⟨(by omega), (by omega)⟩ (by omega) dX12_spell_99 ?_
                        obtain ⟨d2, ed2⟩ : ∃ z : Int, z = (S.2.1 ka (po + k)).tdiv by0 := ⟨_, rfl⟩
                        have hd2 := tdv (a := S.2.1 ka (po + k)) (b := by0) (by omega) (by omega)
                        rw [← ed2] at hd2
                        refine r_i (b := d2) ed2.symm ?_
                        refine lv_bipush (v := iv 10) hx hb dX12_spell_100 (by decide) ?_
                        refine r_irem hx hb ⟨(by omega), (by omega)⟩ ⟨(by omega), (by omega)⟩ (by omega) dX12_spell_102 ?_
                        obtain ⟨dg0, edg0⟩ : ∃ z : Int, z = d2.tmod 10 := ⟨_, rfl⟩
                        have hdg0 := tmodL (a := d2) (b := 10) (by omega)
                        rw [← edg0] at hdg0
                        refine r_i (b := dg0) edg0.symm ?_
                        clear edg0
                        refine r_iadd hx hb dX12_spell_103 ?_
                        have q_61 : (-2147483648) ≤ S62.1 231 6 ∧ S62.1 231 6 ≤ 2147483647 := hI62.fi 6
                        refine sBv (sV (As := [.int (iv (48 + dg0))]) (rest := []) (k := 231) Cx (r_X12_letter l G S62 (ch := 48 + dg0) (L := (L ++ sgT (S.2.1 ka po) ++ dgz (pfx (V (S.2.1 ka) (po + k) (n - k + 1).toNat) by0).toNat)) hI62 (by omega) (by omega) l62) (c_X12_262 Cx rfl rfl (rmk_ok (by omega) (by decide))) hW (by decide) rfl rfl rfl hl.1 rfl (Nat.le_of_ble_eq_true rfl) dX12_spell_104 ⟨Nat.le_of_ble_eq_true rfl, Nat.le_of_ble_eq_true rfl⟩) hL (fun u_62 H locs k_63 hW hL => ?_)
                        obtain ⟨iu_62, fu_62, gu_62, xu_62⟩ := k_63
                        have F_64 := hFm62.trans fu_62
                        have F_65 := hFL1862.trans fu_62
                        have F_66 := hFL2862.trans fu_62
                        have F_67 := hFL3162.trans fu_62
                        have F_68 := hL62_.trans fu_62
                        have g_69 : FF S u_62 (fl [6]) := FF.trans hGm62 (FF.to gu_62 (fl_sub (by decide)))
                        have g_70 : FF S u_62 (fl [6]) := FF.trans hGL1862 (FF.to gu_62 (fl_sub (by decide)))
                        have g_71 : FF S18 u_62 (fl [6]) := FF.trans hGL2862 (FF.to gu_62 (fl_sub (by decide)))
                        have g_72 : FF S28 u_62 (fl [6]) := FF.trans hGL3162 (FF.to gu_62 (fl_sub (by decide)))
                        have g_73 : FF S31 u_62 (fl [6]) := FF.trans gL62_ (FF.to gu_62 (fl_sub (by decide)))
                        refine lv_iload hx hb dX12_spell_107 (lv_at hl 2 rfl) ?_
                        refine lv_bipush (v := iv 10) hx hb dX12_spell_109 (by decide) ?_
                        refine r_idiv hx hb ⟨(by omega), (by omega)⟩ ⟨(by omega), (by omega)⟩ (by omega) dX12_spell_111 ?_
                        obtain ⟨un2, eun2⟩ : ∃ z : Int, z = by0.tdiv 10 := ⟨_, rfl⟩
                        have hun2 := tdivL (a := by0) (b := 10) (by omega)
                        rw [← eun2] at hun2
                        refine r_i (b := un2) eun2.symm ?_
                        clear eun2
                        obtain ⟨dg, edg⟩ : ∃ dg, dg = (S.2.1 ka (po + k) / by0) % 10 := ⟨_, rfl⟩
                        have hds : (0 ≤ dg ∧ dg ≤ 9) ∧ pfx (V (S.2.1 ka) (po + k) (n - k + 1).toNat) un2 = 10 * pfx (V (S.2.1 ka) (po + k) (n - k + 1).toNat) by0 + dg ∧ 0 ≤ pfx (V (S.2.1 ka) (po + k) (n - k + 1).toNat) by0 ∧ (unS un2 ∨ un2 = 0) := dg_st (X := (V (S.2.1 ka) (po + k) (n - k + 1).toNat)) (H := (V (S.2.1 ka) (po + k + 1) (n - k).toNat)) (l := S.2.1 ka (po + k)) (un := by0) (dq := S.2.1 ka (po + k) / by0) (dg := dg) (un2 := un2) hvu hH0 hak (by rcases hby with q | q; exact q; exact absurd q (by omega)) rfl (by omega) (by omega)
                        have hdq := dg_q (X := (V (S.2.1 ka) (po + k) (n - k + 1).toNat)) (un := by0) (un2 := un2) (by rcases hby with q | q; exact q; exact absurd q (by omega)) (by omega)
                        have hxl : k = n → (V (S.2.1 ka) (po + k) (n - k + 1).toNat) / by0 = S.2.1 ka (po + k) / by0 := fun q => by rw [hvu, hHz q, Int.zero_mul, Int.zero_add]
                        refine lv_istore (lv' := [(5, .int (iv un2)), (6, .int (iv 1)), (7, .int (iv (S.2.1 ka (po + k)))), (4, .int (iv k)), (3, .int (iv n)), (0, .ref (G.2.2.1 + 231)), (1, .ref (G.2.2.1 + ka)), (2, .int (iv po))]) hx hb dX12_spell_112 hl (by decide) rfl (fun ls hl => ?_)
                        refine lv_goto (tgt := 62) hx hb dX12_spell_114 (by decide) ?_
                        have q_74 : (-2147483648) ≤ u_62.1 231 6 ∧ u_62.1 231 6 ≤ 2147483647 := iu_62.fi 6
                        exact ih_62 u_62 1 un2 _ _ _ (by omega) iu_62 F_64 F_65 F_66 F_67 F_68 g_69 g_70 g_71 g_72 g_73 hds.2.2.2 (by omega) (by omega) (by omega) (by have h1 := hds.1; have h2 := hds.2.1; have h3 := hds.2.2.1; first | omega | (have h4 := hdq; have h5 := hxl (hah (by omega)); have h6 := hd1.1; omega)) (by have e := dgs_u hby (by omega); have e2 : by0 / 10 = un2 := (by omega); rw [e2] at e; omega) (LSr.eq xu_62.2 (by rw [List.append_assoc, hds.2.1, show (48 : Int) + dg0 = 48 + dg by omega, dgz_i hds.2.2.1 hds.1 (by have h1 := hds.1; have h2 := hds.2.1; have h3 := hds.2.2.1; first | omega | (have h4 := hdq; have h5 := hxl (hah (by omega)); have h6 := hd1.1; omega))])) hW hL (lv_sub hl [2, 1, 0, 3, 4, 5, 6, 7] rfl)
              have q_75 : (-2147483648) ≤ S31.1 231 6 ∧ S31.1 231 6 ≤ 2147483647 := hI31.fi 6
              exact loop_62 (_ + 1) S31 1 100000000 _ _ _ (Nat.lt_succ_self _) hI31 hFm31 hFL1831 hFL2831 hL31_ Fr.rf hGm31 hGL1831 hGL2831 gL31_ FF.rf (.inl (.inl rfl)) (by omega) (by omega) (by omega) (by rw [hvu, pfx_i hak]; first | (have := hHp (by omega); omega) | (have := hHz (by omega); omega)) (by have e : dgs 100000000 = 0 := rfl; omega) (LSr.eq l31 (by rw [hvu, pfx_i hak])) hW hL (lv_sub hl [0, 1, 2, 3, 4, 5, 6, 7] rfl)
      have q_76 : (-2147483648) ≤ S28.1 231 6 ∧ S28.1 231 6 ≤ 2147483647 := hI28.fi 6
      exact loop_31 (_ + 1) S28 n _ _ _ (Nat.lt_succ_self _) hI28 hFm28 hFL1828 hL28_ Fr.rf hGm28 hGL1828 gL28_ FF.rf (by omega) (by omega) (LSr.eq l28 (by rw [show (n - n).toNat = 0 by omega]; exact (List.append_nil _).symm)) hW hL (lv_sub hl [0, 1, 2, 3, 4] rfl)
    refine lv_iload_n hx hb dX12_spell_18 rfl (lv_at hl 0 rfl) ?_
    refine r_if_ne (tgt := 28) hx hb ⟨(by omega), (by omega)⟩ dX12_spell_19 (by decide) (fun c_77 => ?_) (fun c_77 => ?_)
    · have q_78 : (-2147483648) ≤ S18.1 231 6 ∧ S18.1 231 6 ≤ 2147483647 := hI18.fi 6
      exact join_28 S18  _ _ _ hI18 hFm18 hL18_ (Fr.rf : Fr S18 S18 (pl [231, 236])) hGm18 gL18_ (FF.rf : FF S18 S18 (fl [6])) (by omega) (LSr.eq l18 (show L ++ (if S.2.1 ka po < 0 then [45] else []) = L ++ sgT (S.2.1 ka po) from (by have hal := al_e (f := S.2.1 ka) (p := po); unfold sgT; rcases (by omega : S.2.1 ka po < 0 ∨ 0 < S.2.1 ka po) with q | q; (rw [if_pos q, if_pos q]); (rw [if_neg (by omega), if_neg (by omega), if_neg (by omega)])))) hW hL (lv_sub hl [0, 1, 2, 3] rfl)
    · refine lv_aload_n hx hb dX12_spell_22 rfl (lv_at hl 1 rfl) ?_
      refine lv_bipush (v := iv 48) hx hb dX12_spell_23 (by decide) ?_
      have q_79 : (-2147483648) ≤ S18.1 231 6 ∧ S18.1 231 6 ≤ 2147483647 := hI18.fi 6
      refine sBv (sV (As := [.int (iv 48)]) (rest := []) (k := 231) Cx (r_X12_letter l G S18 (ch := 48) (L := (L ++ (if S.2.1 ka po < 0 then [45] else []))) hI18 (by omega) (by omega) l18) (c_X12_262 Cx rfl rfl (rmk_ok (by omega) (by decide))) hW (by decide) rfl rfl rfl hl.1 rfl (Nat.le_of_ble_eq_true rfl) dX12_spell_25 ⟨Nat.le_of_ble_eq_true rfl, Nat.le_of_ble_eq_true rfl⟩) hL (fun u_80 H locs k_81 hW hL => ?_)
      obtain ⟨iu_80, fu_80, gu_80, xu_80⟩ := k_81
      have F_82 := hFm18.trans fu_80
      have F_83 := hL18_.trans fu_80
      have F_84 := (Fr.rf : Fr S18 S18 (pl [231, 236])).trans fu_80
      have g_85 : FF S u_80 (fl [6]) := FF.trans hGm18 (FF.to gu_80 (fl_sub (by decide)))
      have g_86 : FF S u_80 (fl [6]) := FF.trans gL18_ (FF.to gu_80 (fl_sub (by decide)))
      have g_87 : FF S18 u_80 (fl [6]) := FF.trans (FF.rf : FF S18 S18 (fl [6])) (FF.to gu_80 (fl_sub (by decide)))
      have q_88 : (-2147483648) ≤ u_80.1 231 6 ∧ u_80.1 231 6 ≤ 2147483647 := iu_80.fi 6
      exact join_28 u_80  _ _ _ iu_80 F_82 F_83 F_84 g_85 g_86 g_87 (by omega) (LSr.eq xu_80.2 (show ((L ++ (if S.2.1 ka po < 0 then [45] else []))) ++ [48] = L ++ sgT (S.2.1 ka po) from (by have hal := al_e (f := S.2.1 ka) (p := po); unfold sgT; rw [if_neg (by omega), if_neg (by omega), if_pos (by omega), List.append_nil]))) hW hL (lv_sub hl [0, 1, 2, 3] rfl)
  refine lv_aload_n hx hb dX12_spell_6 rfl (lv_at hl 2 rfl) ?_
  refine lv_iload_n hx hb dX12_spell_7 rfl (lv_at hl 3 rfl) ?_
  refine rIald Cx hW (k := ka) hika.lt hika.1 (by omega) (by omega) (by omega) dX12_spell_8 ?_
  have q_89 : (-2147483648) ≤ S.2.1 ka po ∧ S.2.1 ka po ≤ 2147483647 := hI.aj hika.ge po
  refine r_i (b := S.2.1 ka po) rfl ?_
  refine r_if_ge (tgt := 18) hx hb ⟨(by omega), (by omega)⟩ dX12_spell_9 (by decide) (fun c_90 => ?_) (fun c_90 => ?_)
  · have q_91 : (-2147483648) ≤ S.1 231 6 ∧ S.1 231 6 ≤ 2147483647 := hI.fi 6
    exact join_18 S  _ _ _ hI (Fr.rf : Fr S S (pl [231, 236])) (Fr.rf : Fr S S (pl [231, 236])) FF.rf (FF.rf : FF S S (fl [6])) (by omega) (LSr.eq hlt (show L = L ++ (if S.2.1 ka po < 0 then [45] else []) from (by rw [if_neg (by omega), List.append_nil]))) hW hL (lv_sub hl [0, 1, 2, 3] rfl)
  · refine lv_aload_n hx hb dX12_spell_12 rfl (lv_at hl 1 rfl) ?_
    refine lv_bipush (v := iv 45) hx hb dX12_spell_13 (by decide) ?_
    have q_92 : (-2147483648) ≤ S.1 231 6 ∧ S.1 231 6 ≤ 2147483647 := hI.fi 6
    refine sBv (sV (As := [.int (iv 45)]) (rest := []) (k := 231) Cx (r_X12_letter l G S (ch := 45) (L := L) hI (by omega) (by omega) hlt) (c_X12_262 Cx rfl rfl (rmk_ok (by omega) (by decide))) hW (by decide) rfl rfl rfl hl.1 rfl (Nat.le_of_ble_eq_true rfl) dX12_spell_15 ⟨Nat.le_of_ble_eq_true rfl, Nat.le_of_ble_eq_true rfl⟩) hL (fun u_93 H locs k_94 hW hL => ?_)
    obtain ⟨iu_93, fu_93, gu_93, xu_93⟩ := k_94
    have F_95 := (Fr.rf : Fr S S (pl [231, 236])).trans fu_93
    have F_96 := (Fr.rf : Fr S S (pl [231, 236])).trans fu_93
    have g_97 : FF S u_93 (fl [6]) := FF.trans FF.rf (FF.to gu_93 (fl_sub (by decide)))
    have g_98 : FF S u_93 (fl [6]) := FF.trans (FF.rf : FF S S (fl [6])) (FF.to gu_93 (fl_sub (by decide)))
    have q_99 : (-2147483648) ≤ u_93.1 231 6 ∧ u_93.1 231 6 ≤ 2147483647 := iu_93.fi 6
    exact join_18 u_93  _ _ _ iu_93 F_95 F_96 g_97 g_98 (by omega) (LSr.eq xu_93.2 (show L ++ [45] = L ++ (if S.2.1 ka po < 0 then [45] else []) from (by rw [if_pos (by omega)]))) hW hL (lv_sub hl [0, 1, 2, 3] rfl)

set_option maxRecDepth 100000 in
set_option maxHeartbeats 4000000 in
theorem r_X12_write (l : Launch) (G : sG) (S : sS) {si : Nat} {T : List Int} (hI : dX G S) (hsi : si < 38) (hts : 0 ≤ S.1 231 84 ∧ S.1 231 84 ≤ 33900) (htr : Hd (LSr S 84 275 T)) : Met l yX12_write (.code yX12_write cX12_write 3 none :: tb) (rmk 5 0 0) (sPc G 294 S [.ref (G.2.2.1 + 231), .ref (G.1.2 100 si)]) (sQv G 294 (fun u => dX G u ∧ Fr S u (pl [231, 275]) ∧ FF S u (fl [84]) ∧ (S.1 231 84 ≤ u.1 231 84 ∧ u.1 231 84 ≤ S.1 231 84 + 1 + (strN.getD si 0 : Nat) ∧ Hd (LSr u 84 275 (tkn T (strB.getD si [])))))) 0 0 (sF G) := by
  refine sEnter (by decide) (Nat.le_of_ble_eq_true rfl) ?_
  intro p e s m args below meth c Cx hr hlk hnm hW ls hl
  have Cx : sC G p m c cX12_write 3 s args RX12 := Cx
  obtain ⟨hx, hb, hml, hown, hts⟩ := id Cx.1
  have hL : sL G [] := sL_nil
  have hl : lv_has ls 3 [(0, .ref (G.2.2.1 + 231)), (1, .ref (G.1.2 100 si))] := hl
  have hW0 := hW
  have hnr := strN_r si hsi
  have join_28 : ∀ (S28 : sS)  (H : Heap) (locs : List Loc) (ls : Array Slot), (dX G S28) → (Fr S S28 (pl [231, 275])) → (Fr S S28 (pl [231, 275])) → (FF S S28 (fl [84])) → (FF S S28 (fl [84])) → (S.1 231 84 ≤ S28.1 231 84 ∧ S28.1 231 84 ≤ S.1 231 84 + 1) → (Hd (LSr S28 84 275 (T ++ spT T))) → sW G 294 S28 H → sL G locs → lv_has ls 3 [(0, .ref (G.2.2.1 + 231)), (1, .ref (G.1.2 100 si))] → W p l e (rmk 5 0 0) s m args below meth c H locs 0 0 (MQ below (sQv G 294 (fun u => dX G u ∧ Fr S u (pl [231, 275]) ∧ FF S u (fl [84]) ∧ (S.1 231 84 ≤ u.1 231 84 ∧ u.1 231 84 ≤ S.1 231 84 + 1 + (strN.getD si 0 : Nat) ∧ Hd (LSr u 84 275 (tkn T (strB.getD si [])))))) args s 0 0 (sF G)) (F0 m 28 ls []) := by
    intro S28  H locs ls hI28 hFm28 hL28_ hGm28 gL28_ h28 l28 hW hL hl
    refine lv_iconst (v := iv 0) hx hb dX12_write_28 (by decide) ?_
    refine lv_istore_n (lv' := [(2, .int (iv 0)), (0, .ref (G.2.2.1 + 231)), (1, .ref (G.1.2 100 si))]) hx hb dX12_write_29 rfl hl (by decide) rfl (fun ls hl => ?_)
    have loop_30 : ∀ (fuel : Nat) (S30 : sS) (k : Int) (H : Heap) (locs : List Loc) (ls : Array Slot), (71 - k).toNat < fuel → (dX G S30) → (Fr S S30 (pl [231, 275])) → (Fr S S30 (pl [231, 275])) → (Fr S28 S30 (pl [231, 275])) → (FF S S30 (fl [84])) → (FF S S30 (fl [84])) → (FF S28 S30 (fl [84])) → (0 ≤ k ∧ k ≤ (strN.getD si 0 : Nat)) → (S.1 231 84 ≤ S30.1 231 84 ∧ S30.1 231 84 ≤ S.1 231 84 + 1 + k) → (Hd (LSr S30 84 275 (T ++ spT T ++ (strB.getD si []).take k.toNat))) → sW G 294 S30 H → sL G locs → lv_has ls 3 [(2, .int (iv k)), (0, .ref (G.2.2.1 + 231)), (1, .ref (G.1.2 100 si))] → W p l e (rmk 5 0 0) s m args below meth c H locs 0 0 (MQ below (sQv G 294 (fun u => dX G u ∧ Fr S u (pl [231, 275]) ∧ FF S u (fl [84]) ∧ (S.1 231 84 ≤ u.1 231 84 ∧ u.1 231 84 ≤ S.1 231 84 + 1 + (strN.getD si 0 : Nat) ∧ Hd (LSr u 84 275 (tkn T (strB.getD si [])))))) args s 0 0 (sF G)) (F0 m 30 ls []) := by
      intro fuel
      induction fuel with
      | zero => intro S30 k H locs ls hmeas hI30 hFm30 hFL2830 hL30_ hGm30 hGL2830 gL30_ hk h30 l30 hW hL hl; exact absurd hmeas (Nat.not_lt_zero _)
      | succ fuel ih_30 =>
        intro S30 k H locs ls hmeas hI30 hFm30 hFL2830 hL30_ hGm30 hGL2830 gL30_ hk h30 l30 hW hL hl
        refine lv_iload_n hx hb dX12_write_30 rfl (lv_at hl 0 rfl) ?_
        refine lv_aload_n hx hb dX12_write_31 rfl (lv_at hl 2 rfl) ?_
        refine sBi (sVz (As := []) (rest := [.int (iv k)]) (a := G.1.2 100 si) Cx (s_J0_length_8abf5 l G S30 (si := si) hsi) (c_X12_279 Cx rfl rfl (rmk_ok (by omega) (by decide))) hW (zRecv Cx hW0 hW hsi) rfl hl.1 rfl (Nat.le_of_ble_eq_true rfl) dX12_write_32 ⟨Nat.le_of_ble_eq_true rfl, Nat.le_of_ble_eq_true rfl⟩) hL (fun r_3 u_1 H locs k_2 hW hL => ?_)
        obtain ⟨eu_1, xu_1⟩ := k_2
        rw [eu_1] at hW
        refine r_icmp_ge (tgt := 69) hx hb ⟨(by omega), (by omega)⟩ ⟨(by omega), (by omega)⟩ dX12_write_35 (by decide) (fun c_4 => ?_) (fun c_4 => ?_)
        · have q_5 : (-2147483648) ≤ S30.1 231 84 ∧ S30.1 231 84 ≤ 2147483647 := hI30.fi 84
          exact sVret Cx hr hlk hW hL ⟨hI30, hFm30, hGm30, ⟨by omega, by omega, LSr.eq l30 (by rw [tkn_e, List.take_of_length_le (by rw [strB_len si hsi]; omega)])⟩⟩ dX12_write_69
        · refine lv_aload_n hx hb dX12_write_38 rfl (lv_at hl 1 rfl) ?_
          refine g_X12_144 Cx hW (k := 231) (by decide) rfl (v := .ref (G.2.2.1 + 275)) (rd_83 hI30) dX12_write_39 ?_
          refine lv_aload_n hx hb dX12_write_42 rfl (lv_at hl 1 rfl) ?_
          have q_6 : (-2147483648) ≤ S30.1 231 84 ∧ S30.1 231 84 ≤ 2147483647 := hI30.fi 84
          refine g_X12_520 Cx hW (k := 231) (by decide) rfl (v := S30.1 231 84) rfl dX12_write_43 ?_
          refine lv_aload_n hx hb dX12_write_46 rfl (lv_at hl 2 rfl) ?_
          refine lv_iload_n hx hb dX12_write_47 rfl (lv_at hl 0 rfl) ?_
          refine sBi (sVz (As := [.int (iv k)]) (rest := [.int (iv (S30.1 231 84)), .ref (G.2.2.1 + 275)]) (a := G.1.2 100 si) Cx (v_J0_charAt l G S30 (si := si) (k := k) hsi (by omega)) (c_X12_285 Cx rfl rfl (rmk_ok (by omega) (by decide))) hW (zRecv Cx hW0 hW hsi) rfl hl.1 rfl (Nat.le_of_ble_eq_true rfl) dX12_write_48 ⟨Nat.le_of_ble_eq_true rfl, Nat.le_of_ble_eq_true rfl⟩) hL (fun r_9 u_7 H locs k_8 hW hL => ?_)
          obtain ⟨eu_7, xu_7⟩ := k_8
          rw [eu_7] at hW
          refine r_i2bE hx hb ⟨(by omega), (by omega)⟩ dX12_write_51 (fun z_10 hz_10 kz_10 ez_10 => ?_)
          refine rBast Cx hW hL (k := 275) (by decide) rfl (by decide) (by omega) (by omega) (nar_b (by omega) (by omega)) dX12_write_52 (fun H locs hW hL => ?_)
          have F_11 : Fr S (uA S30 275 (S30.1 231 84) z_10) (pl [231, 275]) := hFm30.A rfl
          have F_12 : Fr S (uA S30 275 (S30.1 231 84) z_10) (pl [231, 275]) := hFL2830.A rfl
          have F_13 : Fr S28 (uA S30 275 (S30.1 231 84) z_10) (pl [231, 275]) := hL30_.A rfl
          have i_14 : dX G (uA S30 275 (S30.1 231 84) z_10) := hI30.A (k := 275) (show (-128) ≤ z_10 ∧ z_10 ≤ 127 from ⟨by omega, by omega⟩)
          refine lv_aload_n hx hb dX12_write_53 rfl (lv_at hl 1 rfl) ?_
          refine lv_dup hx hb dX12_write_54 rfl ?_
          refine g_X12_520 Cx hW (k := 231) (by decide) rfl (v := S30.1 231 84) uA_f dX12_write_55 ?_
          refine lv_iconst (v := iv 1) hx hb dX12_write_58 (by decide) ?_
          refine r_iadd hx hb dX12_write_59 ?_
          refine p_X12_520 Cx hW hL (k := 231) (by decide) rfl dX12_write_60 (fun H locs hW hL => ?_)
          have F_15 : Fr S (uF (uA S30 275 (S30.1 231 84) z_10) 231 84 ((S30.1 231 84) + 1)) (pl [231, 275]) := F_11.F rfl
          have F_16 : Fr S (uF (uA S30 275 (S30.1 231 84) z_10) 231 84 ((S30.1 231 84) + 1)) (pl [231, 275]) := F_12.F rfl
          have F_17 : Fr S28 (uF (uA S30 275 (S30.1 231 84) z_10) 231 84 ((S30.1 231 84) + 1)) (pl [231, 275]) := F_13.F rfl
          have g_18 : FF S (uF (uA S30 275 (S30.1 231 84) z_10) 231 84 ((S30.1 231 84) + 1)) (fl [84]) := FF.F hGm30 rfl
          have g_19 : FF S (uF (uA S30 275 (S30.1 231 84) z_10) 231 84 ((S30.1 231 84) + 1)) (fl [84]) := FF.F hGL2830 rfl
          have g_20 : FF S28 (uF (uA S30 275 (S30.1 231 84) z_10) 231 84 ((S30.1 231 84) + 1)) (fl [84]) := FF.F gL30_ rfl
          have i_21 : dX G (uF (uA S30 275 (S30.1 231 84) z_10) 231 84 ((S30.1 231 84) + 1)) := i_14.F (i := 84) (show (-2147483648) ≤ (S30.1 231 84) + 1 ∧ (S30.1 231 84) + 1 ≤ 2147483647 from ⟨by omega, by omega⟩)
          refine lv_iinc (v := iv (k + 1)) (lv' := [(2, .int (iv (k + 1))), (0, .ref (G.2.2.1 + 231)), (1, .ref (G.1.2 100 si))]) hx hb dX12_write_63 hl (k := 0) rfl ((Int32.ofInt_add _ _).symm) (by decide) rfl (fun ls hl => ?_)
          refine lv_goto (tgt := 30) hx hb dX12_write_66 (by decide) ?_
          have lk_22 : (uF (uA S30 275 (S30.1 231 84) z_10) 231 84 ((S30.1 231 84) + 1)).1 231 84 = (S30.1 231 84) + 1 := uF_on
          exact ih_30 (uF (uA S30 275 (S30.1 231 84) z_10) 231 84 ((S30.1 231 84) + 1)) (k + 1) _ _ _ (by omega) i_21 F_15 F_16 F_17 g_18 g_19 g_20 (by omega) (by omega) (LSr.eq (LSr.put (x := r_9) l30 uF_on (fun j => by show (uA S30 275 (S30.1 231 84) z_10).2.1 275 j = _; rw [uA_get]; by_cases q : j = S30.1 231 84; (focus (rw [if_pos ⟨rfl, by omega⟩, if_pos q]; (try omega))); (rw [if_neg (fun y => q (by have := y.2; omega)), if_neg q]))) (by rw [List.append_assoc, show (k + 1).toNat = k.toNat + 1 by omega, take_s (by rw [strB_len si hsi]; omega), xu_7.1]; rfl)) hW hL (lv_sub hl [0, 1, 2] rfl)
    have q_23 : (-2147483648) ≤ S28.1 231 84 ∧ S28.1 231 84 ≤ 2147483647 := hI28.fi 84
    exact loop_30 (_ + 1) S28 0 _ _ _ (Nat.lt_succ_self _) hI28 hFm28 hL28_ Fr.rf hGm28 gL28_ FF.rf (by omega) (by omega) (LSr.eq l28 (by rw [show ((0 : Int)).toNat = 0 from rfl, List.take_zero, List.append_nil])) hW hL (lv_sub hl [0, 1, 2] rfl)
  refine lv_aload_n hx hb dX12_write_0 rfl (lv_at hl 0 rfl) ?_
  have q_24 : (-2147483648) ≤ S.1 231 84 ∧ S.1 231 84 ≤ 2147483647 := hI.fi 84
  refine g_X12_520 Cx hW (k := 231) (by decide) rfl (v := S.1 231 84) rfl dX12_write_1 ?_
  refine r_if_le (tgt := 28) hx hb ⟨(by omega), (by omega)⟩ dX12_write_4 (by decide) (fun c_25 => ?_) (fun c_25 => ?_)
  · exact join_28 S  _ _ _ hI (Fr.rf : Fr S S (pl [231, 275])) (Fr.rf : Fr S S (pl [231, 275])) FF.rf (FF.rf : FF S S (fl [84])) (by omega) (LSr.eq htr (by unfold spT; rw [if_pos (by have := htr.1; omega), List.append_nil])) hW hL (lv_sub hl [0, 1] rfl)
  · refine lv_aload_n hx hb dX12_write_7 rfl (lv_at hl 0 rfl) ?_
    refine g_X12_144 Cx hW (k := 231) (by decide) rfl (v := .ref (G.2.2.1 + 275)) (rd_83 hI) dX12_write_8 ?_
    refine lv_aload_n hx hb dX12_write_11 rfl (lv_at hl 0 rfl) ?_
    refine g_X12_520 Cx hW (k := 231) (by decide) rfl (v := S.1 231 84) rfl dX12_write_12 ?_
    refine lv_bipush (v := iv 32) hx hb dX12_write_15 (by decide) ?_
    refine rBast Cx hW hL (k := 275) (by decide) rfl (by decide) (by omega) (by omega) (nar_b (by omega) (by omega)) dX12_write_17 (fun H locs hW hL => ?_)
    have F_26 : Fr S (uA S 275 (S.1 231 84) 32) (pl [231, 275]) := (Fr.rf : Fr S S (pl [231, 275])).A rfl
    have F_27 : Fr S (uA S 275 (S.1 231 84) 32) (pl [231, 275]) := (Fr.rf : Fr S S (pl [231, 275])).A rfl
    have i_28 : dX G (uA S 275 (S.1 231 84) 32) := hI.A (k := 275) (show (-128) ≤ 32 ∧ 32 ≤ 127 from ⟨by omega, by omega⟩)
    refine lv_aload_n hx hb dX12_write_18 rfl (lv_at hl 0 rfl) ?_
    refine lv_dup hx hb dX12_write_19 rfl ?_
    refine g_X12_520 Cx hW (k := 231) (by decide) rfl (v := S.1 231 84) uA_f dX12_write_20 ?_
    refine lv_iconst (v := iv 1) hx hb dX12_write_23 (by decide) ?_
    refine r_iadd hx hb dX12_write_24 ?_
    refine p_X12_520 Cx hW hL (k := 231) (by decide) rfl dX12_write_25 (fun H locs hW hL => ?_)
    have F_29 : Fr S (uF (uA S 275 (S.1 231 84) 32) 231 84 ((S.1 231 84) + 1)) (pl [231, 275]) := F_26.F rfl
    have F_30 : Fr S (uF (uA S 275 (S.1 231 84) 32) 231 84 ((S.1 231 84) + 1)) (pl [231, 275]) := F_27.F rfl
    have g_31 : FF S (uF (uA S 275 (S.1 231 84) 32) 231 84 ((S.1 231 84) + 1)) (fl [84]) := FF.F FF.rf rfl
    have g_32 : FF S (uF (uA S 275 (S.1 231 84) 32) 231 84 ((S.1 231 84) + 1)) (fl [84]) := FF.F (FF.rf : FF S S (fl [84])) rfl
    have i_33 : dX G (uF (uA S 275 (S.1 231 84) 32) 231 84 ((S.1 231 84) + 1)) := i_28.F (i := 84) (show (-2147483648) ≤ (S.1 231 84) + 1 ∧ (S.1 231 84) + 1 ≤ 2147483647 from ⟨by omega, by omega⟩)
    have lk_34 : (uF (uA S 275 (S.1 231 84) 32) 231 84 ((S.1 231 84) + 1)).1 231 84 = (S.1 231 84) + 1 := uF_on
    exact join_28 (uF (uA S 275 (S.1 231 84) 32) 231 84 ((S.1 231 84) + 1))  _ _ _ i_33 F_29 F_30 g_31 g_32 (by omega) (LSr.eq (LSr.put (x := 32) htr uF_on (fun j => by show (uA S 275 (S.1 231 84) 32).2.1 275 j = _; rw [uA_get]; by_cases q : j = S.1 231 84; (focus (rw [if_pos ⟨rfl, by omega⟩, if_pos q]; (try omega))); (rw [if_neg (fun y => q (by have := y.2; omega)), if_neg q]))) (by unfold spT; rw [if_neg (by have := htr.1; omega)])) hW hL (lv_sub hl [0, 1] rfl)

set_option maxRecDepth 100000 in
set_option maxHeartbeats 4000000 in
theorem r_X12_say (l : Launch) (G : sG) (S : sS) {si : Nat} {T : List Int} (hI : dX G S) (hsi : si < 38) (hts : 0 ≤ S.1 231 86 ∧ S.1 231 86 ≤ 35900) (hps : Hd (LSr S 86 276 T)) : Met l yX12_say (.code yX12_say cX12_say 3 none :: tb) (rmk 5 0 0) (sPc G 294 S [.ref (G.2.2.1 + 231), .ref (G.1.2 100 si)]) (sQv G 294 (fun u => dX G u ∧ Fr S u (pl [231, 276]) ∧ FF S u (fl [86]) ∧ (S.1 231 86 ≤ u.1 231 86 ∧ u.1 231 86 ≤ S.1 231 86 + 1 + (strN.getD si 0 : Nat) ∧ Hd (LSr u 86 276 (tkn T (strB.getD si [])))))) 0 0 (sF G) := by
  refine sEnter (by decide) (Nat.le_of_ble_eq_true rfl) ?_
  intro p e s m args below meth c Cx hr hlk hnm hW ls hl
  have Cx : sC G p m c cX12_say 3 s args RX12 := Cx
  obtain ⟨hx, hb, hml, hown, hts⟩ := id Cx.1
  have hL : sL G [] := sL_nil
  have hl : lv_has ls 3 [(0, .ref (G.2.2.1 + 231)), (1, .ref (G.1.2 100 si))] := hl
  have hW0 := hW
  have hnr := strN_r si hsi
  have join_28 : ∀ (S28 : sS)  (H : Heap) (locs : List Loc) (ls : Array Slot), (dX G S28) → (Fr S S28 (pl [231, 276])) → (Fr S S28 (pl [231, 276])) → (FF S S28 (fl [86])) → (FF S S28 (fl [86])) → (S.1 231 86 ≤ S28.1 231 86 ∧ S28.1 231 86 ≤ S.1 231 86 + 1) → (Hd (LSr S28 86 276 (T ++ spT T))) → sW G 294 S28 H → sL G locs → lv_has ls 3 [(0, .ref (G.2.2.1 + 231)), (1, .ref (G.1.2 100 si))] → W p l e (rmk 5 0 0) s m args below meth c H locs 0 0 (MQ below (sQv G 294 (fun u => dX G u ∧ Fr S u (pl [231, 276]) ∧ FF S u (fl [86]) ∧ (S.1 231 86 ≤ u.1 231 86 ∧ u.1 231 86 ≤ S.1 231 86 + 1 + (strN.getD si 0 : Nat) ∧ Hd (LSr u 86 276 (tkn T (strB.getD si [])))))) args s 0 0 (sF G)) (F0 m 28 ls []) := by
    intro S28  H locs ls hI28 hFm28 hL28_ hGm28 gL28_ h28 l28 hW hL hl
    refine lv_iconst (v := iv 0) hx hb dX12_say_28 (by decide) ?_
    refine lv_istore_n (lv' := [(2, .int (iv 0)), (0, .ref (G.2.2.1 + 231)), (1, .ref (G.1.2 100 si))]) hx hb dX12_say_29 rfl hl (by decide) rfl (fun ls hl => ?_)
    have loop_30 : ∀ (fuel : Nat) (S30 : sS) (k : Int) (H : Heap) (locs : List Loc) (ls : Array Slot), (71 - k).toNat < fuel → (dX G S30) → (Fr S S30 (pl [231, 276])) → (Fr S S30 (pl [231, 276])) → (Fr S28 S30 (pl [231, 276])) → (FF S S30 (fl [86])) → (FF S S30 (fl [86])) → (FF S28 S30 (fl [86])) → (0 ≤ k ∧ k ≤ (strN.getD si 0 : Nat)) → (S.1 231 86 ≤ S30.1 231 86 ∧ S30.1 231 86 ≤ S.1 231 86 + 1 + k) → (Hd (LSr S30 86 276 (T ++ spT T ++ (strB.getD si []).take k.toNat))) → sW G 294 S30 H → sL G locs → lv_has ls 3 [(2, .int (iv k)), (0, .ref (G.2.2.1 + 231)), (1, .ref (G.1.2 100 si))] → W p l e (rmk 5 0 0) s m args below meth c H locs 0 0 (MQ below (sQv G 294 (fun u => dX G u ∧ Fr S u (pl [231, 276]) ∧ FF S u (fl [86]) ∧ (S.1 231 86 ≤ u.1 231 86 ∧ u.1 231 86 ≤ S.1 231 86 + 1 + (strN.getD si 0 : Nat) ∧ Hd (LSr u 86 276 (tkn T (strB.getD si [])))))) args s 0 0 (sF G)) (F0 m 30 ls []) := by
      intro fuel
      induction fuel with
      | zero => intro S30 k H locs ls hmeas hI30 hFm30 hFL2830 hL30_ hGm30 hGL2830 gL30_ hk h30 l30 hW hL hl; exact absurd hmeas (Nat.not_lt_zero _)
      | succ fuel ih_30 =>
        intro S30 k H locs ls hmeas hI30 hFm30 hFL2830 hL30_ hGm30 hGL2830 gL30_ hk h30 l30 hW hL hl
        refine lv_iload_n hx hb dX12_say_30 rfl (lv_at hl 0 rfl) ?_
        refine lv_aload_n hx hb dX12_say_31 rfl (lv_at hl 2 rfl) ?_
        refine sBi (sVz (As := []) (rest := [.int (iv k)]) (a := G.1.2 100 si) Cx (s_J0_length_8abf5 l G S30 (si := si) hsi) (c_X12_279 Cx rfl rfl (rmk_ok (by omega) (by decide))) hW (zRecv Cx hW0 hW hsi) rfl hl.1 rfl (Nat.le_of_ble_eq_true rfl) dX12_say_32 ⟨Nat.le_of_ble_eq_true rfl, Nat.le_of_ble_eq_true rfl⟩) hL (fun r_3 u_1 H locs k_2 hW hL => ?_)
        obtain ⟨eu_1, xu_1⟩ := k_2
        rw [eu_1] at hW
        refine r_icmp_ge (tgt := 69) hx hb ⟨(by omega), (by omega)⟩ ⟨(by omega), (by omega)⟩ dX12_say_35 (by decide) (fun c_4 => ?_) (fun c_4 => ?_)
        · have q_5 : (-2147483648) ≤ S30.1 231 86 ∧ S30.1 231 86 ≤ 2147483647 := hI30.fi 86
          exact sVret Cx hr hlk hW hL ⟨hI30, hFm30, hGm30, ⟨by omega, by omega, LSr.eq l30 (by rw [tkn_e, List.take_of_length_le (by rw [strB_len si hsi]; omega)])⟩⟩ dX12_say_69
        · refine lv_aload_n hx hb dX12_say_38 rfl (lv_at hl 1 rfl) ?_
          refine g_X12_148 Cx hW (k := 231) (by decide) rfl (v := .ref (G.2.2.1 + 276)) (rd_85 hI30) dX12_say_39 ?_
          refine lv_aload_n hx hb dX12_say_42 rfl (lv_at hl 1 rfl) ?_
          have q_6 : (-2147483648) ≤ S30.1 231 86 ∧ S30.1 231 86 ≤ 2147483647 := hI30.fi 86
          refine g_X12_523 Cx hW (k := 231) (by decide) rfl (v := S30.1 231 86) rfl dX12_say_43 ?_
          refine lv_aload_n hx hb dX12_say_46 rfl (lv_at hl 2 rfl) ?_
          refine lv_iload_n hx hb dX12_say_47 rfl (lv_at hl 0 rfl) ?_
          refine sBi (sVz (As := [.int (iv k)]) (rest := [.int (iv (S30.1 231 86)), .ref (G.2.2.1 + 276)]) (a := G.1.2 100 si) Cx (v_J0_charAt l G S30 (si := si) (k := k) hsi (by omega)) (c_X12_285 Cx rfl rfl (rmk_ok (by omega) (by decide))) hW (zRecv Cx hW0 hW hsi) rfl hl.1 rfl (Nat.le_of_ble_eq_true rfl) dX12_say_48 ⟨Nat.le_of_ble_eq_true rfl, Nat.le_of_ble_eq_true rfl⟩) hL (fun r_9 u_7 H locs k_8 hW hL => ?_)
          obtain ⟨eu_7, xu_7⟩ := k_8
          rw [eu_7] at hW
          refine r_i2bE hx hb ⟨(by omega), (by omega)⟩ dX12_say_51 (fun z_10 hz_10 kz_10 ez_10 => ?_)
          refine rBast Cx hW hL (k := 276) (by decide) rfl (by decide) (by omega) (by omega) (nar_b (by omega) (by omega)) dX12_say_52 (fun H locs hW hL => ?_)
          have F_11 : Fr S (uA S30 276 (S30.1 231 86) z_10) (pl [231, 276]) := hFm30.A rfl
          have F_12 : Fr S (uA S30 276 (S30.1 231 86) z_10) (pl [231, 276]) := hFL2830.A rfl
          have F_13 : Fr S28 (uA S30 276 (S30.1 231 86) z_10) (pl [231, 276]) := hL30_.A rfl
          have i_14 : dX G (uA S30 276 (S30.1 231 86) z_10) := hI30.A (k := 276) (show (-128) ≤ z_10 ∧ z_10 ≤ 127 from ⟨by omega, by omega⟩)
          refine lv_aload_n hx hb dX12_say_53 rfl (lv_at hl 1 rfl) ?_
          refine lv_dup hx hb dX12_say_54 rfl ?_
          refine g_X12_523 Cx hW (k := 231) (by decide) rfl (v := S30.1 231 86) uA_f dX12_say_55 ?_
          refine lv_iconst (v := iv 1) hx hb dX12_say_58 (by decide) ?_
          refine r_iadd hx hb dX12_say_59 ?_
          refine p_X12_523 Cx hW hL (k := 231) (by decide) rfl dX12_say_60 (fun H locs hW hL => ?_)
          have F_15 : Fr S (uF (uA S30 276 (S30.1 231 86) z_10) 231 86 ((S30.1 231 86) + 1)) (pl [231, 276]) := F_11.F rfl
          have F_16 : Fr S (uF (uA S30 276 (S30.1 231 86) z_10) 231 86 ((S30.1 231 86) + 1)) (pl [231, 276]) := F_12.F rfl
          have F_17 : Fr S28 (uF (uA S30 276 (S30.1 231 86) z_10) 231 86 ((S30.1 231 86) + 1)) (pl [231, 276]) := F_13.F rfl
          have g_18 : FF S (uF (uA S30 276 (S30.1 231 86) z_10) 231 86 ((S30.1 231 86) + 1)) (fl [86]) := FF.F hGm30 rfl
          have g_19 : FF S (uF (uA S30 276 (S30.1 231 86) z_10) 231 86 ((S30.1 231 86) + 1)) (fl [86]) := FF.F hGL2830 rfl
          have g_20 : FF S28 (uF (uA S30 276 (S30.1 231 86) z_10) 231 86 ((S30.1 231 86) + 1)) (fl [86]) := FF.F gL30_ rfl
          have i_21 : dX G (uF (uA S30 276 (S30.1 231 86) z_10) 231 86 ((S30.1 231 86) + 1)) := i_14.F (i := 86) (show (-2147483648) ≤ (S30.1 231 86) + 1 ∧ (S30.1 231 86) + 1 ≤ 2147483647 from ⟨by omega, by omega⟩)
          refine lv_iinc (v := iv (k + 1)) (lv' := [(2, .int (iv (k + 1))), (0, .ref (G.2.2.1 + 231)), (1, .ref (G.1.2 100 si))]) hx hb dX12_say_63 hl (k := 0) rfl ((Int32.ofInt_add _ _).symm) (by decide) rfl (fun ls hl => ?_)
          refine lv_goto (tgt := 30) hx hb dX12_say_66 (by decide) ?_
          have lk_22 : (uF (uA S30 276 (S30.1 231 86) z_10) 231 86 ((S30.1 231 86) + 1)).1 231 86 = (S30.1 231 86) + 1 := uF_on
          exact ih_30 (uF (uA S30 276 (S30.1 231 86) z_10) 231 86 ((S30.1 231 86) + 1)) (k + 1) _ _ _ (by omega) i_21 F_15 F_16 F_17 g_18 g_19 g_20 (by omega) (by omega) (LSr.eq (LSr.put (x := r_9) l30 uF_on (fun j => by show (uA S30 276 (S30.1 231 86) z_10).2.1 276 j = _; rw [uA_get]; by_cases q : j = S30.1 231 86; (focus (rw [if_pos ⟨rfl, by omega⟩, if_pos q]; (try omega))); (rw [if_neg (fun y => q (by have := y.2; omega)), if_neg q]))) (by rw [List.append_assoc, show (k + 1).toNat = k.toNat + 1 by omega, take_s (by rw [strB_len si hsi]; omega), xu_7.1]; rfl)) hW hL (lv_sub hl [0, 1, 2] rfl)
    have q_23 : (-2147483648) ≤ S28.1 231 86 ∧ S28.1 231 86 ≤ 2147483647 := hI28.fi 86
    exact loop_30 (_ + 1) S28 0 _ _ _ (Nat.lt_succ_self _) hI28 hFm28 hL28_ Fr.rf hGm28 gL28_ FF.rf (by omega) (by omega) (LSr.eq l28 (by rw [show ((0 : Int)).toNat = 0 from rfl, List.take_zero, List.append_nil])) hW hL (lv_sub hl [0, 1, 2] rfl)
  refine lv_aload_n hx hb dX12_say_0 rfl (lv_at hl 0 rfl) ?_
  have q_24 : (-2147483648) ≤ S.1 231 86 ∧ S.1 231 86 ≤ 2147483647 := hI.fi 86
  refine g_X12_523 Cx hW (k := 231) (by decide) rfl (v := S.1 231 86) rfl dX12_say_1 ?_
  refine r_if_le (tgt := 28) hx hb ⟨(by omega), (by omega)⟩ dX12_say_4 (by decide) (fun c_25 => ?_) (fun c_25 => ?_)
  · exact join_28 S  _ _ _ hI (Fr.rf : Fr S S (pl [231, 276])) (Fr.rf : Fr S S (pl [231, 276])) FF.rf (FF.rf : FF S S (fl [86])) (by omega) (LSr.eq hps (by unfold spT; rw [if_pos (by have := hps.1; omega), List.append_nil])) hW hL (lv_sub hl [0, 1] rfl)
  · refine lv_aload_n hx hb dX12_say_7 rfl (lv_at hl 0 rfl) ?_
    refine g_X12_148 Cx hW (k := 231) (by decide) rfl (v := .ref (G.2.2.1 + 276)) (rd_85 hI) dX12_say_8 ?_
    refine lv_aload_n hx hb dX12_say_11 rfl (lv_at hl 0 rfl) ?_
    refine g_X12_523 Cx hW (k := 231) (by decide) rfl (v := S.1 231 86) rfl dX12_say_12 ?_
    refine lv_bipush (v := iv 32) hx hb dX12_say_15 (by decide) ?_
    refine rBast Cx hW hL (k := 276) (by decide) rfl (by decide) (by omega) (by omega) (nar_b (by omega) (by omega)) dX12_say_17 (fun H locs hW hL => ?_)
    have F_26 : Fr S (uA S 276 (S.1 231 86) 32) (pl [231, 276]) := (Fr.rf : Fr S S (pl [231, 276])).A rfl
    have F_27 : Fr S (uA S 276 (S.1 231 86) 32) (pl [231, 276]) := (Fr.rf : Fr S S (pl [231, 276])).A rfl
    have i_28 : dX G (uA S 276 (S.1 231 86) 32) := hI.A (k := 276) (show (-128) ≤ 32 ∧ 32 ≤ 127 from ⟨by omega, by omega⟩)
    refine lv_aload_n hx hb dX12_say_18 rfl (lv_at hl 0 rfl) ?_
    refine lv_dup hx hb dX12_say_19 rfl ?_
    refine g_X12_523 Cx hW (k := 231) (by decide) rfl (v := S.1 231 86) uA_f dX12_say_20 ?_
    refine lv_iconst (v := iv 1) hx hb dX12_say_23 (by decide) ?_
    refine r_iadd hx hb dX12_say_24 ?_
    refine p_X12_523 Cx hW hL (k := 231) (by decide) rfl dX12_say_25 (fun H locs hW hL => ?_)
    have F_29 : Fr S (uF (uA S 276 (S.1 231 86) 32) 231 86 ((S.1 231 86) + 1)) (pl [231, 276]) := F_26.F rfl
    have F_30 : Fr S (uF (uA S 276 (S.1 231 86) 32) 231 86 ((S.1 231 86) + 1)) (pl [231, 276]) := F_27.F rfl
    have g_31 : FF S (uF (uA S 276 (S.1 231 86) 32) 231 86 ((S.1 231 86) + 1)) (fl [86]) := FF.F FF.rf rfl
    have g_32 : FF S (uF (uA S 276 (S.1 231 86) 32) 231 86 ((S.1 231 86) + 1)) (fl [86]) := FF.F (FF.rf : FF S S (fl [86])) rfl
    have i_33 : dX G (uF (uA S 276 (S.1 231 86) 32) 231 86 ((S.1 231 86) + 1)) := i_28.F (i := 86) (show (-2147483648) ≤ (S.1 231 86) + 1 ∧ (S.1 231 86) + 1 ≤ 2147483647 from ⟨by omega, by omega⟩)
    have lk_34 : (uF (uA S 276 (S.1 231 86) 32) 231 86 ((S.1 231 86) + 1)).1 231 86 = (S.1 231 86) + 1 := uF_on
    exact join_28 (uF (uA S 276 (S.1 231 86) 32) 231 86 ((S.1 231 86) + 1))  _ _ _ i_33 F_29 F_30 g_31 g_32 (by omega) (LSr.eq (LSr.put (x := 32) hps uF_on (fun j => by show (uA S 276 (S.1 231 86) 32).2.1 276 j = _; rw [uA_get]; by_cases q : j = S.1 231 86; (focus (rw [if_pos ⟨rfl, by omega⟩, if_pos q]; (try omega))); (rw [if_neg (fun y => q (by have := y.2; omega)), if_neg q]))) (by unfold spT; rw [if_neg (by have := hps.1; omega)])) hW hL (lv_sub hl [0, 1] rfl)

set_option maxRecDepth 100000 in
set_option maxHeartbeats 4000000 in
theorem r_X12_writeNumber (l : Launch) (G : sG) (S : sS) {ka Nka : Nat} {po La : Int} {T : List Int} (hI : dX G S) (hika : ia ka Nka) (nka231 : Hd (ka ≠ 231)) (nka236 : Hd (ka ≠ 236)) (nka275 : Hd (ka ≠ 275)) (hR : (0 ≤ po ∧ po + La < Nka) ∧ La ≤ 60) (hts : 0 ≤ S.1 231 84 ∧ S.1 231 84 ≤ 33000) (hA : NO (S.2.1 ka) po La) (htr : Hd (LSr S 84 275 T)) : Met l yX12_writeNumber (.code yX12_writeNumber cX12_writeNumber 4 none :: tb) (rmk 4 0 0) (sPc G 294 S [.ref (G.2.2.1 + 231), .ref (G.2.2.1 + ka), .int (iv po)]) (sQv G 294 (fun u => dX G u ∧ Fr S u (pl [231, 236, 275]) ∧ FF S u (fl [6, 84]) ∧ (S.1 231 84 ≤ u.1 231 84 ∧ u.1 231 84 ≤ S.1 231 84 + 9 * La + 3 ∧ Hd (LSr u 84 275 (T ++ [32] ++ nmT (nv (S.2.1 ka) po)))))) 0 0 (sF G) := by
  refine sEnter (by decide) (Nat.le_of_ble_eq_true rfl) ?_
  intro p e s m args below meth c Cx hr hlk hnm hW ls hl
  have Cx : sC G p m c cX12_writeNumber 4 s args RX12 := Cx
  obtain ⟨hx, hb, hml, hown, hts⟩ := id Cx.1
  have hL : sL G [] := sL_nil
  have hl : lv_has ls 4 [(0, .ref (G.2.2.1 + 231)), (1, .ref (G.2.2.1 + ka)), (2, .int (iv po))] := hl
  have hW0 := hW
  have hN := hika.2.2.2.1
  have hA1 := hA.b
  refine lv_aload_n hx hb dX12_writeNumber_0 rfl (lv_at hl 0 rfl) ?_
  refine g_X12_144 Cx hW (k := 231) (by decide) rfl (v := .ref (G.2.2.1 + 275)) (rd_83 hI) dX12_writeNumber_1 ?_
  refine lv_aload_n hx hb dX12_writeNumber_4 rfl (lv_at hl 0 rfl) ?_
  have q_1 : (-2147483648) ≤ S.1 231 84 ∧ S.1 231 84 ≤ 2147483647 := hI.fi 84
  refine g_X12_520 Cx hW (k := 231) (by decide) rfl (v := S.1 231 84) rfl dX12_writeNumber_5 ?_
  refine lv_bipush (v := iv 32) hx hb dX12_writeNumber_8 (by decide) ?_
  refine rBast Cx hW hL (k := 275) (by decide) rfl (by decide) (by omega) (by omega) (nar_b (by omega) (by omega)) dX12_writeNumber_10 (fun H locs hW hL => ?_)
  have F_2 : Fr S (uA S 275 (S.1 231 84) 32) (pl [231, 236, 275]) := (Fr.rf : Fr S S (pl [231, 236, 275])).A rfl
  have i_3 : dX G (uA S 275 (S.1 231 84) 32) := hI.A (k := 275) (show (-128) ≤ 32 ∧ 32 ≤ 127 from ⟨by omega, by omega⟩)
  refine lv_aload_n hx hb dX12_writeNumber_11 rfl (lv_at hl 0 rfl) ?_
  refine lv_dup hx hb dX12_writeNumber_12 rfl ?_
  refine g_X12_520 Cx hW (k := 231) (by decide) rfl (v := S.1 231 84) uA_f dX12_writeNumber_13 ?_
  refine lv_iconst (v := iv 1) hx hb dX12_writeNumber_16 (by decide) ?_
  refine r_iadd hx hb dX12_writeNumber_17 ?_
  refine p_X12_520 Cx hW hL (k := 231) (by decide) rfl dX12_writeNumber_18 (fun H locs hW hL => ?_)
  have F_4 : Fr S (uF (uA S 275 (S.1 231 84) 32) 231 84 ((S.1 231 84) + 1)) (pl [231, 236, 275]) := F_2.F rfl
  have g_5 : FF S (uF (uA S 275 (S.1 231 84) 32) 231 84 ((S.1 231 84) + 1)) (fl [6, 84]) := FF.F FF.rf rfl
  have i_6 : dX G (uF (uA S 275 (S.1 231 84) 32) 231 84 ((S.1 231 84) + 1)) := i_3.F (i := 84) (show (-2147483648) ≤ (S.1 231 84) + 1 ∧ (S.1 231 84) + 1 ≤ 2147483647 from ⟨by omega, by omega⟩)
  refine lv_aload_n hx hb dX12_writeNumber_21 rfl (lv_at hl 0 rfl) ?_
  refine lv_iconst (v := iv 0) hx hb dX12_writeNumber_22 (by decide) ?_
  refine p_X12_259 Cx hW hL (k := 231) (by decide) rfl dX12_writeNumber_23 (fun H locs hW hL => ?_)
  have F_7 : Fr S (uF (uF (uA S 275 (S.1 231 84) 32) 231 84 ((S.1 231 84) + 1)) 231 6 0) (pl [231, 236, 275]) := F_4.F rfl
  have g_8 : FF S (uF (uF (uA S 275 (S.1 231 84) 32) 231 84 ((S.1 231 84) + 1)) 231 6 0) (fl [6, 84]) := FF.F g_5 rfl
  have i_9 : dX G (uF (uF (uA S 275 (S.1 231 84) 32) 231 84 ((S.1 231 84) + 1)) 231 6 0) := i_6.F (i := 6) (show (-2147483648) ≤ 0 ∧ 0 ≤ 2147483647 from ⟨by omega, by omega⟩)
  refine lv_aload_n hx hb dX12_writeNumber_26 rfl (lv_at hl 0 rfl) ?_
  refine lv_aload_n hx hb dX12_writeNumber_27 rfl (lv_at hl 1 rfl) ?_
  refine lv_iload_n hx hb dX12_writeNumber_28 rfl (lv_at hl 2 rfl) ?_
  have lk_10 : (uF (uF (uA S 275 (S.1 231 84) 32) 231 84 ((S.1 231 84) + 1)) 231 6 0).1 231 6 = 0 := uF_on
  refine sBv (sV (As := [.ref (G.2.2.1 + ka), .int (iv po)]) (rest := []) (k := 231) Cx (r_X12_spell l G (uF (uF (uA S 275 (S.1 231 84) 32) 231 84 ((S.1 231 84) + 1)) 231 6 0) (ka := ka) (po := po) (Nka := Nka) (La := La) (L := ([])) i_9 hika (by omega) (by omega) (by rw [show (uF (uF (uA S 275 (S.1 231 84) 32) 231 84 ((S.1 231 84) + 1)) 231 6 0).2.1 ka = S.2.1 ka from (funext fun j => (uF_a).trans ((uF_a).trans (uA_ne (fun h => absurd h.1 (neD nka275)))) : (uF (uF (uA S 275 (S.1 231 84) 32) 231 84 ((S.1 231 84) + 1)) 231 6 0).2.1 ka = S.2.1 ka)]; exact hA) (neD nka231) (neD nka236) (LSr.nil uF_on)) (c_X12_594 Cx rfl rfl (rmk_ok (by omega) (by decide))) hW (by decide) rfl rfl rfl hl.1 rfl (Nat.le_of_ble_eq_true rfl) dX12_writeNumber_29 ⟨Nat.le_of_ble_eq_true rfl, Nat.le_of_ble_eq_true rfl⟩) hL (fun u_11 H locs k_12 hW hL => ?_)
  obtain ⟨iu_11, fu_11, gu_11, xu_11⟩ := k_12
  have F_13 := F_7.trans (fu_11.to (pl_sub (by decide)))
  have g_14 : FF S u_11 (fl [6, 84]) := FF.trans g_8 (FF.to gu_11 (fl_sub (by decide)))
  have hsp : Hd (LSr u_11 6 236 (nmT (nv (S.2.1 ka) po))) := LSr.eq xu_11.2.2 (by rw [List.nil_append, show (uF (uF (uA S 275 (S.1 231 84) 32) 231 84 ((S.1 231 84) + 1)) 231 6 0).2.1 ka = S.2.1 ka from (funext fun j => (uF_a).trans ((uF_a).trans (uA_ne (fun h => absurd h.1 (neD nka275)))) : (uF (uF (uA S 275 (S.1 231 84) 32) 231 84 ((S.1 231 84) + 1)) 231 6 0).2.1 ka = S.2.1 ka)])
  have hsp1 := hsp.1
  have ht1 : Hd (LSr (uF (uA S 275 (S.1 231 84) 32) 231 84 ((S.1 231 84) + 1)) 84 275 (T ++ [32])) := (LSr.put (x := 32) htr uF_on (fun j => by show (uA S 275 (S.1 231 84) 32).2.1 275 j = _; rw [uA_get]; by_cases q : j = S.1 231 84; (focus (rw [if_pos ⟨rfl, by omega⟩, if_pos q]; (try omega))); (rw [if_neg (fun y => q (by have := y.2; omega)), if_neg q])))
  refine lv_iconst (v := iv 0) hx hb dX12_writeNumber_32 (by decide) ?_
  refine lv_istore_n (lv' := [(3, .int (iv 0)), (0, .ref (G.2.2.1 + 231)), (1, .ref (G.2.2.1 + ka)), (2, .int (iv po))]) hx hb dX12_writeNumber_33 rfl hl (by decide) rfl (fun ls hl => ?_)
  have loop_34 : ∀ (fuel : Nat) (S34 : sS) (k : Int) (H : Heap) (locs : List Loc) (ls : Array Slot), (600 - k).toNat < fuel → (dX G S34) → (Fr S S34 (pl [231, 236, 275])) → (Fr u_11 S34 (pl [231, 275])) → (FF S S34 (fl [6, 84])) → (FF u_11 S34 (fl [84])) → (0 ≤ k ∧ k ≤ u_11.1 231 6) → (S34.1 231 84 = S.1 231 84 + 1 + k) → (Hd (LSr S34 6 236 (nmT (nv (S.2.1 ka) po)))) → (k ≤ ((nmT (nv (S.2.1 ka) po)).length : Int) ∧ S34.1 231 6 = ((nmT (nv (S.2.1 ka) po)).length : Int)) → (Hd (LSr S34 84 275 (T ++ [32] ++ (nmT (nv (S.2.1 ka) po)).take k.toNat))) → sW G 294 S34 H → sL G locs → lv_has ls 4 [(3, .int (iv k)), (0, .ref (G.2.2.1 + 231)), (1, .ref (G.2.2.1 + ka)), (2, .int (iv po))] → W p l e (rmk 4 0 0) s m args below meth c H locs 0 0 (MQ below (sQv G 294 (fun u => dX G u ∧ Fr S u (pl [231, 236, 275]) ∧ FF S u (fl [6, 84]) ∧ (S.1 231 84 ≤ u.1 231 84 ∧ u.1 231 84 ≤ S.1 231 84 + 9 * La + 3 ∧ Hd (LSr u 84 275 (T ++ [32] ++ nmT (nv (S.2.1 ka) po)))))) args s 0 0 (sF G)) (F0 m 34 ls []) := by
    intro fuel
    induction fuel with
    | zero => intro S34 k H locs ls hmeas hI34 hFm34 hL34_ hGm34 gL34_ hk h34 ll34 hkl l34 hW hL hl; exact absurd hmeas (Nat.not_lt_zero _)
    | succ fuel ih_34 =>
      intro S34 k H locs ls hmeas hI34 hFm34 hL34_ hGm34 gL34_ hk h34 ll34 hkl l34 hW hL hl
      refine lv_iload_n hx hb dX12_writeNumber_34 rfl (lv_at hl 0 rfl) ?_
      refine lv_aload_n hx hb dX12_writeNumber_35 rfl (lv_at hl 1 rfl) ?_
      have q_15 : (-2147483648) ≤ u_11.1 231 6 ∧ u_11.1 231 6 ≤ 2147483647 := iu_11.fi 6
      refine g_X12_259 Cx hW (k := 231) (by decide) rfl (v := u_11.1 231 6) (gL34_ 6 rfl) dX12_writeNumber_36 ?_
      refine r_icmp_ge (tgt := 73) hx hb ⟨(by omega), (by omega)⟩ ⟨(by omega), (by omega)⟩ dX12_writeNumber_39 (by decide) (fun c_16 => ?_) (fun c_16 => ?_)
      · have q_17 : (-2147483648) ≤ S34.1 231 84 ∧ S34.1 231 84 ≤ 2147483647 := hI34.fi 84
        exact sVret Cx hr hlk hW hL ⟨hI34, hFm34, hGm34, ⟨by omega, by omega, LSr.eq l34 (by rw [List.take_of_length_le (by omega)])⟩⟩ dX12_writeNumber_73
      · refine lv_aload_n hx hb dX12_writeNumber_42 rfl (lv_at hl 1 rfl) ?_
        refine g_X12_144 Cx hW (k := 231) (by decide) rfl (v := .ref (G.2.2.1 + 275)) (rd_83 hI34) dX12_writeNumber_43 ?_
        refine lv_aload_n hx hb dX12_writeNumber_46 rfl (lv_at hl 1 rfl) ?_
        have q_18 : (-2147483648) ≤ S34.1 231 84 ∧ S34.1 231 84 ≤ 2147483647 := hI34.fi 84
        refine g_X12_520 Cx hW (k := 231) (by decide) rfl (v := S34.1 231 84) rfl dX12_writeNumber_47 ?_
        refine lv_aload_n hx hb dX12_writeNumber_50 rfl (lv_at hl 1 rfl) ?_
        refine g_X12_23 Cx hW (k := 231) (by decide) rfl (v := .ref (G.2.2.1 + 236)) (rd_5 hI34) dX12_writeNumber_51 ?_
        refine lv_iload_n hx hb dX12_writeNumber_54 rfl (lv_at hl 0 rfl) ?_
        refine rBald Cx hW (k := 236) (by decide) rfl (by decide) (by omega) (by omega) dX12_writeNumber_55 ?_
        have q_19 : (-128) ≤ u_11.2.1 236 k ∧ u_11.2.1 236 k ≤ 127 := iu_11.ai 236 k
        refine r_i (b := u_11.2.1 236 k) ((hL34_ 236 rfl).2.1 k) ?_
        have hrd : u_11.2.1 236 k = (nmT (nv (S.2.1 ka) po)).getD k.toNat 0 := by have e := ll34.2 k.toNat (by omega); rw [show ((k.toNat : Nat) : Int) = k by omega] at e; exact ((hL34_ 236 rfl).2.1 k : S34.2.1 236 k = u_11.2.1 236 k).symm.trans e
        refine rBast Cx hW hL (k := 275) (by decide) rfl (by decide) (by omega) (by omega) (nar_b (by omega) (by omega)) dX12_writeNumber_56 (fun H locs hW hL => ?_)
        have F_20 : Fr S (uA S34 275 (S34.1 231 84) (u_11.2.1 236 k)) (pl [231, 236, 275]) := hFm34.A rfl
        have F_21 : Fr u_11 (uA S34 275 (S34.1 231 84) (u_11.2.1 236 k)) (pl [231, 275]) := hL34_.A rfl
        have i_22 : dX G (uA S34 275 (S34.1 231 84) (u_11.2.1 236 k)) := hI34.A (k := 275) (show (-128) ≤ u_11.2.1 236 k ∧ u_11.2.1 236 k ≤ 127 from ⟨by omega, by omega⟩)
        refine lv_aload_n hx hb dX12_writeNumber_57 rfl (lv_at hl 1 rfl) ?_
        refine lv_dup hx hb dX12_writeNumber_58 rfl ?_
        refine g_X12_520 Cx hW (k := 231) (by decide) rfl (v := S34.1 231 84) uA_f dX12_writeNumber_59 ?_
        refine lv_iconst (v := iv 1) hx hb dX12_writeNumber_62 (by decide) ?_
        refine r_iadd hx hb dX12_writeNumber_63 ?_
        refine p_X12_520 Cx hW hL (k := 231) (by decide) rfl dX12_writeNumber_64 (fun H locs hW hL => ?_)
        have F_23 : Fr S (uF (uA S34 275 (S34.1 231 84) (u_11.2.1 236 k)) 231 84 ((S34.1 231 84) + 1)) (pl [231, 236, 275]) := F_20.F rfl
        have F_24 : Fr u_11 (uF (uA S34 275 (S34.1 231 84) (u_11.2.1 236 k)) 231 84 ((S34.1 231 84) + 1)) (pl [231, 275]) := F_21.F rfl
        have g_25 : FF S (uF (uA S34 275 (S34.1 231 84) (u_11.2.1 236 k)) 231 84 ((S34.1 231 84) + 1)) (fl [6, 84]) := FF.F hGm34 rfl
        have g_26 : FF u_11 (uF (uA S34 275 (S34.1 231 84) (u_11.2.1 236 k)) 231 84 ((S34.1 231 84) + 1)) (fl [84]) := FF.F gL34_ rfl
        have i_27 : dX G (uF (uA S34 275 (S34.1 231 84) (u_11.2.1 236 k)) 231 84 ((S34.1 231 84) + 1)) := i_22.F (i := 84) (show (-2147483648) ≤ (S34.1 231 84) + 1 ∧ (S34.1 231 84) + 1 ≤ 2147483647 from ⟨by omega, by omega⟩)
        refine lv_iinc (v := iv (k + 1)) (lv' := [(3, .int (iv (k + 1))), (0, .ref (G.2.2.1 + 231)), (1, .ref (G.2.2.1 + ka)), (2, .int (iv po))]) hx hb dX12_writeNumber_67 hl (k := 0) rfl ((Int32.ofInt_add _ _).symm) (by decide) rfl (fun ls hl => ?_)
        refine lv_goto (tgt := 34) hx hb dX12_writeNumber_70 (by decide) ?_
        have lk_28 : (uF (uA S34 275 (S34.1 231 84) (u_11.2.1 236 k)) 231 84 ((S34.1 231 84) + 1)).1 231 84 = (S34.1 231 84) + 1 := uF_on
        have lk_29 : (uF (uA S34 275 (S34.1 231 84) (u_11.2.1 236 k)) 231 84 ((S34.1 231 84) + 1)).1 231 6 = u_11.1 231 6 := (uF_ne (fun h => absurd h.2 (by decide))).trans ((uA_f).trans (gL34_ 6 rfl))
        exact ih_34 (uF (uA S34 275 (S34.1 231 84) (u_11.2.1 236 k)) 231 84 ((S34.1 231 84) + 1)) (k + 1) _ _ _ (by omega) i_27 F_23 F_24 g_25 g_26 (by omega) (by omega) (LSr.of ll34 ((uF_ne (fun h => absurd h.2 (by decide))).trans (uA_f)) (funext fun x => (uF_a).trans (uA_ne (fun h => absurd h.1 (by decide))))) (by omega) (LSr.eq (LSr.put (x := (nmT (nv (S.2.1 ka) po)).getD k.toNat 0) l34 uF_on (fun j => by show (uA S34 275 (S34.1 231 84) (u_11.2.1 236 k)).2.1 275 j = _; rw [uA_get]; by_cases q : j = S34.1 231 84; (focus (rw [if_pos ⟨rfl, by omega⟩, if_pos q]; (try omega))); (rw [if_neg (fun y => q (by have := y.2; omega)), if_neg q]))) (by rw [List.append_assoc, show (k + 1).toNat = k.toNat + 1 by omega, take_s (by omega)])) hW hL (lv_sub hl [0, 1, 2, 3] rfl)
  have lk_30 : u_11.1 231 84 = (S.1 231 84) + 1 := (gu_11 84 rfl).trans ((uF_ne (fun h => absurd h.2 (by decide))).trans (uF_on))
  have q_31 : (-2147483648) ≤ u_11.1 231 6 ∧ u_11.1 231 6 ≤ 2147483647 := iu_11.fi 6
  exact loop_34 (_ + 1) u_11 0 _ _ _ (Nat.lt_succ_self _) iu_11 F_13 Fr.rf g_14 FF.rf (by omega) (by omega) hsp (by omega) (LSr.eq (LSr.of ht1 ((gu_11 84 rfl).trans (uF_ne (fun h => absurd h.2 (by decide)))) (funext fun x => ((fu_11 275 rfl).2.1 x).trans (uF_a))) (by rw [show ((0 : Int)).toNat = 0 from rfl, List.take_zero, List.append_nil])) hW hL (lv_sub hl [0, 1, 2, 3] rfl)

set_option maxRecDepth 100000 in
set_option maxHeartbeats 4000000 in
theorem r_X12_writeSmall (l : Launch) (G : sG) (S : sS) {v : Int} {T : List Int} (hI : dX G S) (hv : 0 ≤ v ∧ v ≤ 999999999) (hts : 0 ≤ S.1 231 84 ∧ S.1 231 84 ≤ 33000) (htr : Hd (LSr S 84 275 T)) : Met l yX12_writeSmall (.code yX12_writeSmall cX12_writeSmall 3 none :: tb) (rmk 5 0 0) (sPc G 294 S [.ref (G.2.2.1 + 231), .long (jv v)]) (sQv G 294 (fun u => dX G u ∧ Fr S u (pl [231, 236, 275, 277]) ∧ FF S u (fl [6, 84]) ∧ (S.1 231 84 ≤ u.1 231 84 ∧ u.1 231 84 ≤ S.1 231 84 + 12 ∧ Hd (LSr u 84 275 (T ++ [32] ++ nmT v))))) 0 0 (sF G) := by
  refine sEnter (by decide) (Nat.le_of_ble_eq_true rfl) ?_
  intro p e s m args below meth c Cx hr hlk hnm hW ls hl
  have Cx : sC G p m c cX12_writeSmall 3 s args RX12 := Cx
  obtain ⟨hx, hb, hml, hown, hts⟩ := id Cx.1
  have hL : sL G [] := sL_nil
  have hl : lv_has ls 3 [(0, .ref (G.2.2.1 + 231)), (1, .long (jv v))] := hl
  have hW0 := hW
  refine lv_aload_n hx hb dX12_writeSmall_0 rfl (lv_at hl 0 rfl) ?_
  refine g_X12_151 Cx hW (k := 231) (by decide) rfl (v := .ref (G.2.2.1 + 277)) (rd_87 hI) dX12_writeSmall_1 ?_
  refine lv_iconst (v := iv 0) hx hb dX12_writeSmall_4 (by decide) ?_
  refine lv_lload_n hx hb dX12_writeSmall_5 rfl (lv_at hl 1 rfl) ?_
  refine sBv (sSt (As := [.ref (G.2.2.1 + 277), .int (iv 0), .long (jv v)]) (rest := []) Cx (s_X12_put l G S (ka := 277) (po := 0) (v := v) (Nka := 4) hI ⟨rfl, by decide, by decide, by decide, rfl⟩ (by omega) (by omega)) (c_X12_241 Cx rfl rfl (rmk_ok (by omega) (by decide))) hW rfl hl.1 rfl (Nat.le_of_ble_eq_true rfl) dX12_writeSmall_6 ⟨Nat.le_of_ble_eq_true rfl, Nat.le_of_ble_eq_true rfl⟩) hL (fun u_1 H locs k_2 hW hL => ?_)
  obtain ⟨iu_1, fu_1, xu_1⟩ := k_2
  have F_3 := (Fr.rf : Fr S S (pl [231, 236, 275, 277])).trans (fu_1.to (p1_sub rfl))
  have g_4 : FF S u_1 (fl [6, 84]) := FF.fr FF.rf fu_1 rfl
  refine lv_aload_n hx hb dX12_writeSmall_9 rfl (lv_at hl 0 rfl) ?_
  refine lv_aload_n hx hb dX12_writeSmall_10 rfl (lv_at hl 0 rfl) ?_
  refine g_X12_151 Cx hW (k := 231) (by decide) rfl (v := .ref (G.2.2.1 + 277)) (rd_87 iu_1) dX12_writeSmall_11 ?_
  refine lv_iconst (v := iv 0) hx hb dX12_writeSmall_14 (by decide) ?_
  have q_5 : (-2147483648) ≤ S.1 231 84 ∧ S.1 231 84 ≤ 2147483647 := hI.fi 84
  have lk_6 : u_1.1 231 84 = S.1 231 84 := (fu_1 231 rfl).1 84
  refine sBv (sV (As := [.ref (G.2.2.1 + 277), .int (iv 0)]) (rest := []) (k := 231) Cx (r_X12_writeNumber l G u_1 (ka := 277) (po := 0) (Nka := 4) (La := 1) (T := T) iu_1 ⟨rfl, by decide, by decide, by decide, rfl⟩ (show (277 : Nat) ≠ 231 by decide) (show (277 : Nat) ≠ 236 by decide) (show (277 : Nat) ≠ 275 by decide) (by omega) (by omega) (xu_1.1.sm (by rw [xu_1.2.1]; omega)) (LSr.of htr ((fu_1 231 rfl).1 84) (funext fun x => (fu_1 275 rfl).2.1 x))) (c_X12_597 Cx rfl rfl (rmk_ok (by omega) (by decide))) hW (by decide) rfl rfl rfl hl.1 rfl (Nat.le_of_ble_eq_true rfl) dX12_writeSmall_15 ⟨Nat.le_of_ble_eq_true rfl, Nat.le_of_ble_eq_true rfl⟩) hL (fun u_7 H locs k_8 hW hL => ?_)
  obtain ⟨iu_7, fu_7, gu_7, xu_7⟩ := k_8
  have F_9 := F_3.trans (fu_7.to (pl_sub (by decide)))
  have g_10 : FF S u_7 (fl [6, 84]) := FF.trans g_4 (FF.to gu_7 (fl_sub (by decide)))
  have q_11 : (-2147483648) ≤ u_7.1 231 84 ∧ u_7.1 231 84 ≤ 2147483647 := iu_7.fi 84
  exact sVret Cx hr hlk hW hL ⟨iu_7, F_9, g_10, ⟨by omega, by omega, LSr.eq xu_7.2.2 (by rw [xu_1.2.1])⟩⟩ dX12_writeSmall_18
