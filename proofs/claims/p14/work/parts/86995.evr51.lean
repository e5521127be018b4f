def BDr (u : sS) (ix : Int) : Prop := ∀ t, 0 ≤ t → t < 13 → (-1000000 ≤ u.2.2.1 257 (ix + t) ∧ u.2.2.1 257 (ix + t) ≤ 1000000) ∧ (-1000000 ≤ u.2.2.1 257 (ix + 13 + t) ∧ u.2.2.1 257 (ix + 13 + t) ≤ 1000000)
theorem BDr.of {u : sS} {ix : Int} (h : vb9 (fvr u ix)) (h' : vb9 (fvr u (ix + 13))) : BDr u ix := fun t a b => by
  have x : -99999 ≤ u.2.2.1 257 (ix + t) ∧ u.2.2.1 257 (ix + t) ≤ 99999 := h t a b
  have y : -99999 ≤ u.2.2.1 257 (ix + 13 + t) ∧ u.2.2.1 257 (ix + 13 + t) ≤ 99999 := h' t a b
  omega
set_option maxRecDepth 100000 in
set_option maxHeartbeats 4000000 in
theorem e_X12_expression (l : Launch) (G : sG) (S : sS) {N : sN} {k v : Int → Int} {T pz q ix : Int} {n d1 D : Nat} (hI : dX G S) (hkr : Hd (KRr S k v T)) (hNr : Hd (NRr N k v S)) (hK_ : Hd (NK N)) (hTV : Hd (TVn k v)) (hf0 : S.1 231 20 = 0) (hc : S.1 231 24 = pz) (hlk : 0 ≤ S.1 231 42 ∧ S.1 231 42 ≤ 20000) (h1 : d1 < D) (h8 : 10 ≤ D) (hnm : N.1 + n ≤ 128) (hqb : 0 ≤ pz ∧ q ≤ T - 1) (hP : Hd (PXr l G d1 n)) (hix : 0 ≤ ix ∧ ix + (39 * n + 26) + 12 < 1820) (hgx : Hd (ogU T k (ogF T k n) pz = some q)) : Met l yX12_expression (.code yX12_expression cX12_expression 5 none :: tb) (rmk D 0 0) (sPc G 294 S [.ref (G.2.2.1 + 231), .int (iv ix)]) (sQv G 294 (fun u => dX G u ∧ Fr S u (pl [231, 248, 249, 250, 251, 252, 257, 258]) ∧ FF S u (fl [20, 21, 24, 25, 42, 43]) ∧ (EOr S u N k v q (eU T k (eF T k v n N) (S.1 231 42) pz) ix ∧ (0 ≤ u.1 231 24 ∧ u.1 231 24 ≤ q)))) 0 0 (sF G) := by
  refine sEnter (by decide) (Nat.le_of_ble_eq_true rfl) ?_
  intro p e s m args below meth c Cx hr hlk hnm hW ls hl
  have Cx : sC G p m c cX12_expression 5 s args RX12 := Cx
  obtain ⟨hx, hb, hml, hown, hts⟩ := id Cx.1
  have hL : sL G [] := sL_nil
  have hl : lv_has ls 5 [(0, .ref (G.2.2.1 + 231)), (1, .int (iv ix))] := hl
  have hW0 := hW
  obtain ⟨K, hK⟩ : ∃ z, S.2.1 244 = z := ⟨_, rfl⟩
  obtain ⟨V, hV⟩ : ∃ z, S.2.1 247 = z := ⟨_, rfl⟩
  obtain ⟨Fm, hFm⟩ : ∃ z, S.2.1 245 = z := ⟨_, rfl⟩
  obtain ⟨Wd, hWd⟩ : ∃ z, S.2.1 246 = z := ⟨_, rfl⟩
  have hkk : kr K V T = k := (by rw [← hK, ← hV]; exact hkr.1)
  have hTb := hkr.2.1
  have hN1 := hNr.1
  obtain ⟨q0, hg0, hw0⟩ := ogB hgx
  have hq0 := ogP_inc (ogF_inc n) _ _ hg0
  have hsT : Hd (∀ p, (fun p => k p = 21 ∨ k p = 22) p → p < T) := (fun p c => (hkr.lt (c := k p) rfl (fun z => by have c : k p = 21 ∨ k p = 22 := c; omega)).2)
  have hRi : Hd (RInc (eP T k (eF T k v n N))) := eP_inc (eF_inc n N)
  have hgR : Hd (∀ p q, (fun p => k p = 21 ∨ k p = 22) p → (fun p => ogP T k (ogF T k n) (p + 1)) p = some q → p < q) := (fun p q _ h => by have h : ogP T k (ogF T k n) (p + 1) = some q := h; have h2 := ogP_inc (ogF_inc n) _ _ h; omega)
  have hqq := ogW_le hgR _ _ hw0
  refine lv_aload_n hx hb dX12_expression_0 rfl (lv_at hl 0 rfl) ?_
  refine lv_iload_n hx hb dX12_expression_1 rfl (lv_at hl 1 rfl) ?_
  have q_1 : (-2147483648) ≤ S.1 231 20 ∧ S.1 231 20 ≤ 2147483647 := hI.fi 20
  have q_2 : (-2147483648) ≤ S.1 231 24 ∧ S.1 231 24 ≤ 2147483647 := hI.fi 24
  have q_3 : (-2147483648) ≤ S.1 231 42 ∧ S.1 231 42 ≤ 2147483647 := hI.fi 42
  refine sBv (sV (As := [.int (iv ix)]) (rest := []) (k := 231) Cx (hP S N k v T (pz) q0 ix hI ⟨hNr, hK_, hTV, hkr, (by omega), (by omega), (by omega), ⟨by omega, by omega⟩⟩ (by omega) (by omega) (by omega) hg0) (c_X12_423 Cx rfl rfl (rmk_ok (by omega) (by decide))) hW (by decide) rfl rfl rfl hl.1 rfl (Nat.le_of_ble_eq_true rfl) dX12_expression_2 ⟨Nat.le_of_ble_eq_true rfl, Nat.le_of_ble_eq_true rfl⟩) hL (fun u_4 H locs k_5 hW hL => ?_)
  obtain ⟨iu_4, fu_4, gu_4, xu_4, yu_4⟩ := k_5
  have F_6 := (Fr.rf : Fr S S (pl [231, 248, 249, 250, 251, 252, 257, 258])).trans fu_4
  have g_7 : FF S u_4 (fl [20, 21, 24, 25, 42, 43]) := FF.trans FF.rf (FF.to gu_4 (fl_sub (by decide)))
  refine lv_iload_n hx hb dX12_expression_5 rfl (lv_at hl 1 rfl) ?_
  refine lv_bipush (v := iv 12) hx hb dX12_expression_6 (by decide) ?_
  refine r_iadd hx hb dX12_expression_8 ?_
  refine lv_iconst (v := iv 1) hx hb dX12_expression_9 (by decide) ?_
  refine r_iadd hx hb dX12_expression_10 ?_
  refine lv_istore_n (lv' := [(2, .int (iv ((ix + 12) + 1))), (0, .ref (G.2.2.1 + 231)), (1, .int (iv ix))]) hx hb dX12_expression_11 rfl hl (by decide) rfl (fun ls hl => ?_)
  have loop_12 : ∀ (fuel : Nat) (S12 : sS)  (H : Heap) (locs : List Loc) (ls : Array Slot), (if S12.1 231 20 = 0 then (T - S12.1 231 24).toNat + 1 else 0) < fuel → (dX G S12) → (Fr S S12 (pl [231, 248, 249, 250, 251, 252, 257, 258])) → (Fr u_4 S12 (pl [231, 248, 249, 250, 251, 252, 257, 258])) → (FF S S12 (fl [20, 21, 24, 25, 42, 43])) → (FF u_4 S12 (fl [20, 21, 24, 25, 42, 43])) → (Hd (∀ j, j < ix → S12.2.2.1 257 j = S.2.2.1 257 j)) → (Hd (S12.1 231 20 = 0 → ∃ Va, eU T k (eF T k v n N) (S.1 231 42) pz = eL T (fun p => k p = 21 ∨ k p = 22) (eP T k (eF T k v n N)) (oAdd k) (S12.1 231 24, Va, S12.1 231 42) ∧ veq (fvr S12 ix) Va ∧ vb9 Va ∧ NRr N k v S12 ∧ ogW T (fun p => k p = 21 ∨ k p = 22) (fun p => ogP T k (ogF T k n) (p + 1)) (S12.1 231 24) = some q ∧ (0 ≤ S12.1 231 42 ∧ S12.1 231 42 ≤ 20000) ∧ pz < S12.1 231 24)) → (Hd (S12.1 231 20 ≠ 0 → eU T k (eF T k v n N) (S.1 231 42) pz = none)) → (0 ≤ S12.1 231 24 ∧ S12.1 231 24 ≤ q) → sW G 294 S12 H → sL G locs → lv_has ls 5 [(2, .int (iv ((ix + 12) + 1))), (0, .ref (G.2.2.1 + 231)), (1, .int (iv ix))] → W p l e (rmk D 0 0) s m args below meth c H locs 0 0 (MQ below (sQv G 294 (fun u => dX G u ∧ Fr S u (pl [231, 248, 249, 250, 251, 252, 257, 258]) ∧ FF S u (fl [20, 21, 24, 25, 42, 43]) ∧ (EOr S u N k v q (eU T k (eF T k v n N) (S.1 231 42) pz) ix ∧ (0 ≤ u.1 231 24 ∧ u.1 231 24 ≤ q)))) args s 0 0 (sF G)) (F0 m 12 ls []) := by
    intro fuel
    induction fuel with
    | zero => intro S12  H locs ls hmeas hI12 hFm12 hL12_ hGm12 gL12_ hlo hOK hNO hcu hW hL hl; exact absurd hmeas (Nat.not_lt_zero _)
    | succ fuel ih_12 =>
      intro S12  H locs ls hmeas hI12 hFm12 hL12_ hGm12 gL12_ hlo hOK hNO hcu hW hL hl
      have hm12 := hmeas
      refine lv_aload_n hx hb dX12_expression_12 rfl (lv_at hl 1 rfl) ?_
      have q_8 : (-2147483648) ≤ S12.1 231 20 ∧ S12.1 231 20 ≤ 2147483647 := hI12.fi 20
      refine g_X12_270 Cx hW (k := 231) (by decide) rfl (v := S12.1 231 20) rfl dX12_expression_13 ?_
      refine r_if_ne (tgt := 143) hx hb ⟨(by omega), (by omega)⟩ dX12_expression_16 (by decide) (fun c_9 => ?_) (fun c_9 => ?_)
      · have q_10 : (-2147483648) ≤ S12.1 231 24 ∧ S12.1 231 24 ≤ 2147483647 := hI12.fi 24
        have q_11 : (-2147483648) ≤ S12.1 231 42 ∧ S12.1 231 42 ≤ 2147483647 := hI12.fi 42
        exact sVret Cx hr hlk hW hL ⟨hI12, hFm12, hGm12, ⟨⟨hlo, (fun h => absurd h (by omega)), (fun _ => hNO (by omega))⟩, (by have e7c := (show S12.1 231 24 = S12.1 231 24 from rfl); omega)⟩⟩ dX12_expression_143
      · obtain ⟨Va, eG, wV, bV, nV, hw, lV, pV_⟩ := hOK (by omega)
        have hwl := ogW_le hgR _ _ hw
        refine lv_aload_n hx hb dX12_expression_19 rfl (lv_at hl 1 rfl) ?_
        refine lv_bipush (v := iv 43) hx hb dX12_expression_20 (by decide) ?_
        have q_12 : (-2147483648) ≤ S12.1 231 24 ∧ S12.1 231 24 ≤ 2147483647 := hI12.fi 24
        refine sBi (sV (As := [.int (iv 43)]) (rest := []) (k := 231) Cx (s_X12_isSign l G S12 (sv := 43) (K := K) (V := V) (pz := S12.1 231 24) hI12 (by omega) ((funext fun j => ((hL12_ 244 rfl).2.1 j).trans ((fu_4 244 rfl).2.1 j) : S12.2.1 244 = S.2.1 244).trans hK) ((funext fun j => ((hL12_ 247 rfl).2.1 j).trans ((fu_4 247 rfl).2.1 j) : S12.2.1 247 = S.2.1 247).trans hV) (by omega) (by omega)) (c_X12_318 Cx rfl rfl (rmk_ok (by omega) (by decide))) hW (by decide) rfl rfl rfl hl.1 rfl (Nat.le_of_ble_eq_true rfl) dX12_expression_22 ⟨Nat.le_of_ble_eq_true rfl, Nat.le_of_ble_eq_true rfl⟩) hL (fun r_15 u_13 H locs k_14 hW hL => ?_)
        obtain ⟨eu_13, xu_13⟩ := k_14
        rw [eu_13] at hW
        have tu_13a : Hd (r_15 = 1 → k (S12.1 231 24) = 21) := (fun h => by rw [← hkk]; exact (osg_43 K V T _).1 (by omega) (by omega) (xu_13.2.1 h))
        have tu_13b : Hd (r_15 ≠ 1 → k (S12.1 231 24) ≠ 21) := (fun h z => xu_13.2.2 h ((osg_43 K V T _).2 (by rw [hkk]; exact z)))
        refine r_if_ne (tgt := 37) hx hb ⟨(by omega), (by omega)⟩ dX12_expression_25 (by decide) (fun c_16 => ?_) (fun c_16 => ?_)
        · have hk9 : k (S12.1 231 24) = 21 := tu_13a (by omega)
          have hst : Hd ((fun p => k p = 21 ∨ k p = 22) (S12.1 231 24)) := .inl hk9
          have vs9 : V (S12.1 231 24) = 43 := (xu_13.2.1 (by omega)).2
          obtain ⟨q2, hg2, hw2⟩ := ogW_ii hsT hgR hst hw
          have hg2 : ogP T k (ogF T k n) (S12.1 231 24 + 1) = some q2 := hg2
          have hq2 := ogP_inc (ogF_inc n) _ _ hg2; have hql := ogW_le hgR _ _ hw2
          refine lv_aload_n hx hb dX12_expression_37 rfl (lv_at hl 1 rfl) ?_
          refine g_X12_315 Cx hW (k := 231) (by decide) rfl (v := S12.1 231 24) rfl dX12_expression_38 ?_
          refine lv_istore_n (lv' := [(3, .int (iv (S12.1 231 24))), (2, .int (iv ((ix + 12) + 1))), (0, .ref (G.2.2.1 + 231)), (1, .int (iv ix))]) hx hb dX12_expression_41 rfl hl (by decide) rfl (fun ls hl => ?_)
          refine lv_aload_n hx hb dX12_expression_42 rfl (lv_at hl 2 rfl) ?_
          refine lv_dup hx hb dX12_expression_43 rfl ?_
          refine g_X12_315 Cx hW (k := 231) (by decide) rfl (v := S12.1 231 24) rfl dX12_expression_44 ?_
          refine lv_iconst (v := iv 1) hx hb dX12_expression_47 (by decide) ?_
          refine r_iadd hx hb dX12_expression_48 ?_
          refine p_X12_315 Cx hW hL (k := 231) (by decide) rfl dX12_expression_49 (fun H locs hW hL => ?_)
          have F_17 : Fr S (uF S12 231 24 ((S12.1 231 24) + 1)) (pl [231, 248, 249, 250, 251, 252, 257, 258]) := hFm12.F rfl
          have F_18 : Fr u_4 (uF S12 231 24 ((S12.1 231 24) + 1)) (pl [231, 248, 249, 250, 251, 252, 257, 258]) := hL12_.F rfl
          have g_19 : FF S (uF S12 231 24 ((S12.1 231 24) + 1)) (fl [20, 21, 24, 25, 42, 43]) := FF.F hGm12 rfl
          have g_20 : FF u_4 (uF S12 231 24 ((S12.1 231 24) + 1)) (fl [20, 21, 24, 25, 42, 43]) := FF.F gL12_ rfl
          have i_21 : dX G (uF S12 231 24 ((S12.1 231 24) + 1)) := hI12.F (i := 24) (show (-2147483648) ≤ (S12.1 231 24) + 1 ∧ (S12.1 231 24) + 1 ≤ 2147483647 from ⟨by omega, by omega⟩)
          refine lv_aload_n hx hb dX12_expression_52 rfl (lv_at hl 2 rfl) ?_
          refine lv_iload_n hx hb dX12_expression_53 rfl (lv_at hl 1 rfl) ?_
          have lk_22 : (uF S12 231 24 ((S12.1 231 24) + 1)).1 231 20 = S12.1 231 20 := uF_ne (fun h => absurd h.2 (by decide))
          have lk_23 : (uF S12 231 24 ((S12.1 231 24) + 1)).1 231 24 = (S12.1 231 24) + 1 := uF_on
          have q_24 : (-2147483648) ≤ S12.1 231 42 ∧ S12.1 231 42 ≤ 2147483647 := hI12.fi 42
          have lk_25 : (uF S12 231 24 ((S12.1 231 24) + 1)).1 231 42 = S12.1 231 42 := uF_ne (fun h => absurd h.2 (by decide))
          have nr_26 : NRr N k v (uF S12 231 24 ((S12.1 231 24) + 1)) := nV.of (uF_ne (fun h => absurd h.2 (by decide))) (funext fun j => uF_a) (funext fun j => uF_a) (funext fun j => uF_a) (funext fun j => uF_a) (funext fun j => uF_a) (funext fun j => uF_a)
          have kr_27 : KRr (uF S12 231 24 ((S12.1 231 24) + 1)) k v T := hkr.of (funext fun j => (uF_a).trans (((hL12_ 243 rfl).2.1 j).trans ((fu_4 243 rfl).2.1 j))) (funext fun j => (uF_a).trans (((hL12_ 244 rfl).2.1 j).trans ((fu_4 244 rfl).2.1 j))) (funext fun j => (uF_a).trans (((hL12_ 245 rfl).2.1 j).trans ((fu_4 245 rfl).2.1 j))) (funext fun j => (uF_a).trans (((hL12_ 246 rfl).2.1 j).trans ((fu_4 246 rfl).2.1 j))) (funext fun j => (uF_a).trans (((hL12_ 247 rfl).2.1 j).trans ((fu_4 247 rfl).2.1 j)))
          refine sBv (sV (As := [.int (iv ((ix + 12) + 1))]) (rest := []) (k := 231) Cx (hP (uF S12 231 24 ((S12.1 231 24) + 1)) N k v T (S12.1 231 24 + 1) q2 ((ix + 12) + 1) i_21 ⟨nr_26, hK_, hTV, kr_27, (by omega), (by omega), (by omega), ⟨by omega, by omega⟩⟩ (by omega) (by omega) (by omega) hg2) (c_X12_423 Cx rfl rfl (rmk_ok (by omega) (by decide))) hW (by decide) rfl rfl rfl hl.1 rfl (Nat.le_of_ble_eq_true rfl) dX12_expression_54 ⟨Nat.le_of_ble_eq_true rfl, Nat.le_of_ble_eq_true rfl⟩) hL (fun u_28 H locs k_29 hW hL => ?_)
          obtain ⟨iu_28, fu_28, gu_28, xu_28, yu_28⟩ := k_29
          have F_30 := F_17.trans fu_28
          have F_31 := F_18.trans fu_28
          have g_32 : FF S u_28 (fl [20, 21, 24, 25, 42, 43]) := FF.trans g_19 (FF.to gu_28 (fl_sub (by decide)))
          have g_33 : FF u_4 u_28 (fl [20, 21, 24, 25, 42, 43]) := FF.trans g_20 (FF.to gu_28 (fl_sub (by decide)))
          refine lv_iconst (v := iv 0) hx hb dX12_expression_57 (by decide) ?_
          refine lv_istore (lv' := [(4, .int (iv 0)), (3, .int (iv (S12.1 231 24))), (2, .int (iv ((ix + 12) + 1))), (0, .ref (G.2.2.1 + 231)), (1, .int (iv ix))]) hx hb dX12_expression_58 hl (by decide) rfl (fun ls hl => ?_)
          have loop_60 : ∀ (fuel : Nat) (S60 : sS) (kk : Int) (H : Heap) (locs : List Loc) (ls : Array Slot), (13 - kk).toNat < fuel → (dX G S60) → (Fr S S60 (pl [231, 248, 249, 250, 251, 252, 257, 258])) → (Fr u_4 S60 (pl [231, 248, 249, 250, 251, 252, 257, 258])) → (Fr u_28 S60 (pl [257])) → (FF S S60 (fl [20, 21, 24, 25, 42, 43])) → (FF u_4 S60 (fl [20, 21, 24, 25, 42, 43])) → (FF u_28 S60 (fl [])) → (0 ≤ kk ∧ kk ≤ 13) → (Hd (∀ j, (j < ix ∨ ix + 13 ≤ j) → S60.2.2.1 257 j = u_28.2.2.1 257 j)) → (Hd (BDr u_28 ix → ∀ t, 0 ≤ t → t < 13 → S60.2.2.1 257 (ix + t) = if t < kk then u_28.2.2.1 257 (ix + t) + 1 * u_28.2.2.1 257 (ix + 13 + t) else u_28.2.2.1 257 (ix + t))) → sW G 294 S60 H → sL G locs → lv_has ls 5 [(4, .int (iv kk)), (3, .int (iv (S12.1 231 24))), (2, .int (iv ((ix + 12) + 1))), (0, .ref (G.2.2.1 + 231)), (1, .int (iv ix))] → W p l e (rmk D 0 0) s m args below meth c H locs 0 0 (MQ below (sQv G 294 (fun u => dX G u ∧ Fr S u (pl [231, 248, 249, 250, 251, 252, 257, 258]) ∧ FF S u (fl [20, 21, 24, 25, 42, 43]) ∧ (EOr S u N k v q (eU T k (eF T k v n N) (S.1 231 42) pz) ix ∧ (0 ≤ u.1 231 24 ∧ u.1 231 24 ≤ q)))) args s 0 0 (sF G)) (F0 m 60 ls []) := by
            intro fuel
            induction fuel with
            | zero => intro S60 kk H locs ls hmeas hI60 hFm60 hFL1260 hL60_ hGm60 hGL1260 gL60_ hk hl2 hrow hW hL hl; exact absurd hmeas (Nat.not_lt_zero _)
            | succ fuel ih_60 =>
              intro S60 kk H locs ls hmeas hI60 hFm60 hFL1260 hL60_ hGm60 hGL1260 gL60_ hk hl2 hrow hW hL hl
              refine lv_iload hx hb dX12_expression_60 (lv_at hl 0 rfl) ?_
              refine lv_bipush (v := iv 12) hx hb dX12_expression_62 (by decide) ?_
              refine r_icmp_gt (tgt := 118) hx hb ⟨(by omega), (by omega)⟩ ⟨(by omega), (by omega)⟩ dX12_expression_64 (by decide) (fun c_34 => ?_) (fun c_34 => ?_)
              · refine lv_aload_n hx hb dX12_expression_118 rfl (lv_at hl 3 rfl) ?_
                have q_35 : (-2147483648) ≤ u_28.1 231 20 ∧ u_28.1 231 20 ≤ 2147483647 := iu_28.fi 20
                refine g_X12_270 Cx hW (k := 231) (by decide) rfl (v := u_28.1 231 20) (gL60_ 20 rfl) dX12_expression_119 ?_
                refine r_if_ne (tgt := 140) hx hb ⟨(by omega), (by omega)⟩ dX12_expression_122 (by decide) (fun c_36 => ?_) (fun c_36 => ?_)
                · refine lv_goto (tgt := 12) hx hb dX12_expression_140 (by decide) ?_
                  have lk_37 : S60.1 231 20 = u_28.1 231 20 := gL60_ 20 rfl
                  have q_38 : (-2147483648) ≤ u_28.1 231 24 ∧ u_28.1 231 24 ≤ 2147483647 := iu_28.fi 24
                  have lk_39 : S60.1 231 24 = u_28.1 231 24 := gL60_ 24 rfl
                  have q_40 : (-2147483648) ≤ u_28.1 231 42 ∧ u_28.1 231 42 ≤ 2147483647 := iu_28.fi 42
                  have lk_41 : S60.1 231 42 = u_28.1 231 42 := gL60_ 42 rfl
                  exact ih_12 S60  _ _ _ (by rw [if_pos (show S12.1 231 20 = 0 by omega)] at hm12; split <;> omega) hI60 hFm60 hFL1260 hGm60 hGL1260 (fun j a => (rfl).trans ((hl2 j (.inl a)).trans ((xu_28.1 j (by omega)).trans (hlo j a)))) (fun h => absurd h (by have e9 := (show S60.1 231 20 = u_28.1 231 20 from gL60_ 20 rfl); omega)) (fun _ => by have q9 := xu_28.2.2 (by have e9 := (show S60.1 231 20 = u_28.1 231 20 from gL60_ 20 rfl); omega); rw [show (uF S12 231 24 ((S12.1 231 24) + 1)).1 231 42 = S12.1 231 42 by omega] at q9; rw [eG]; exact eL_f1 (st := (fun p => k p = 21 ∨ k p = 22)) hst q9) (by omega) hW hL (lv_sub hl [2, 3, 4] rfl)
                · obtain ⟨Vb, e1, w1, b1, l1, c1_, n1⟩ := xu_28.2.1 (by have e9 := (show S60.1 231 20 = u_28.1 231 20 from gL60_ 20 rfl); omega)
                  rw [show (uF S12 231 24 ((S12.1 231 24) + 1)).1 231 42 = S12.1 231 42 by omega] at e1
                  have wP : veq (fvr u_28 ix) Va := (fun j a b => by show u_28.2.2.1 257 (ix + j) = _; rw [xu_28.1 (ix + j) (by omega)]; exact wV j a b)
                  have w1 : veq (fvr u_28 (ix + 13)) Vb := (by have z := w1; rw [show ix + 12 + 1 = ix + 13 by omega] at z; exact z)
                  have wS : veq (fvr S60 ix) (vad Va Vb 1) := (fun j a b => by show S60.2.2.1 257 (ix + j) = Va j + 1 * Vb j; rw [hrow (BDr.of (bV.eq wP) (b1.eq w1)) j a b, if_pos (by omega), ← wP j a b, ← w1 j a b]; rfl)
                  refine lv_aload_n hx hb dX12_expression_125 rfl (lv_at hl 3 rfl) ?_
                  refine lv_iload_n hx hb dX12_expression_126 rfl (lv_at hl 4 rfl) ?_
                  refine sBi (sV (As := [.int (iv ix)]) (rest := []) (k := 231) Cx (e_X12_isGreat l G S60 (ix := ix) hI60 (by omega)) (c_X12_416 Cx rfl rfl (rmk_ok (by omega) (by decide))) hW (by decide) rfl rfl rfl hl.1 rfl (Nat.le_of_ble_eq_true rfl) dX12_expression_127 ⟨Nat.le_of_ble_eq_true rfl, Nat.le_of_ble_eq_true rfl⟩) hL (fun r_44 u_42 H locs k_43 hW hL => ?_)
                  obtain ⟨eu_42, xu_42⟩ := k_43
                  rw [eu_42] at hW
                  refine r_if_eq (tgt := 140) hx hb ⟨(by omega), (by omega)⟩ dX12_expression_130 (by decide) (fun c_45 => ?_) (fun c_45 => ?_)
                  · have ngr : Hd (¬ grt (vad Va Vb 1)) := (fun z => xu_42.2.2 (by omega) ((veq_grt wS).mpr z))
                    refine lv_goto (tgt := 12) hx hb dX12_expression_140 (by decide) ?_
                    have lk_46 : S60.1 231 20 = u_28.1 231 20 := gL60_ 20 rfl
                    have q_47 : (-2147483648) ≤ u_28.1 231 24 ∧ u_28.1 231 24 ≤ 2147483647 := iu_28.fi 24
                    have lk_48 : S60.1 231 24 = u_28.1 231 24 := gL60_ 24 rfl
                    have q_49 : (-2147483648) ≤ u_28.1 231 42 ∧ u_28.1 231 42 ≤ 2147483647 := iu_28.fi 42
                    have lk_50 : S60.1 231 42 = u_28.1 231 42 := gL60_ 42 rfl
                    have nr_51 : NRr N k v S60 := n1.of (gL60_ 25 rfl) (funext fun j => (hL60_ 248 rfl).2.1 j) (funext fun j => (hL60_ 249 rfl).2.1 j) (funext fun j => (hL60_ 250 rfl).2.1 j) (funext fun j => (hL60_ 251 rfl).2.1 j) (funext fun j => (hL60_ 252 rfl).2.1 j) (funext fun j => (hL60_ 253 rfl).2.1 j)
                    exact ih_12 S60  _ _ _ (by rw [if_pos (show S12.1 231 20 = 0 by omega)] at hm12; split <;> omega) hI60 hFm60 hFL1260 hGm60 hGL1260 (fun j a => (rfl).trans ((hl2 j (.inl a)).trans ((xu_28.1 j (by omega)).trans (hlo j a)))) (fun _ => ⟨vad Va Vb 1, (by rw [eG, eL_so (st := (fun p => k p = 21 ∨ k p = 22)) hsT hRi hst e1 (oAdd_s (if_pos hk9) ngr), show S60.1 231 24 = q2 by have z := (show S60.1 231 24 = u_28.1 231 24 from gL60_ 24 rfl); omega, show S60.1 231 42 = u_28.1 231 42 from (show S60.1 231 42 = u_28.1 231 42 from gL60_ 42 rfl)]), wS, vb9_n ngr, nr_51, (by rw [show S60.1 231 24 = q2 by have z := (show S60.1 231 24 = u_28.1 231 24 from gL60_ 24 rfl); omega]; exact hw2), (by rw [show S60.1 231 42 = u_28.1 231 42 from (show S60.1 231 42 = u_28.1 231 42 from gL60_ 42 rfl)]; exact l1), (by rw [show S60.1 231 24 = q2 by have z := (show S60.1 231 24 = u_28.1 231 24 from gL60_ 24 rfl); omega]; omega)⟩) (fun h => absurd (show S60.1 231 20 = 0 by have e9 := (show S60.1 231 20 = u_28.1 231 20 from gL60_ 20 rfl); omega) h) (by omega) hW hL (lv_sub hl [2, 3, 4] rfl)
                  · refine lv_aload_n hx hb dX12_expression_133 rfl (lv_at hl 3 rfl) ?_
                    refine lv_bipush (v := iv 6) hx hb dX12_expression_134 (by decide) ?_
                    refine lv_iload_n hx hb dX12_expression_136 rfl (lv_at hl 1 rfl) ?_
                    refine sBv (sV (As := [.int (iv 6), .int (iv (S12.1 231 24))]) (rest := []) (k := 231) Cx (s_X12_wrong l G S60 (cd := 6) (tk := S12.1 231 24) hI60 (by omega) (by omega)) (c_X12_321 Cx rfl rfl (rmk_ok (by omega) (by decide))) hW (by decide) rfl rfl rfl hl.1 rfl (Nat.le_of_ble_eq_true rfl) dX12_expression_137 ⟨Nat.le_of_ble_eq_true rfl, Nat.le_of_ble_eq_true rfl⟩) hL (fun u_52 H locs k_53 hW hL => ?_)
                    obtain ⟨iu_52, fu_52, gu_52, xu_52⟩ := k_53
                    have F_54 := hFm60.trans (fu_52.to (pl_sub (by decide)))
                    have F_55 := hFL1260.trans (fu_52.to (pl_sub (by decide)))
                    have g_56 : FF S u_52 (fl [20, 21, 24, 25, 42, 43]) := FF.trans hGm60 (FF.to gu_52 (fl_sub (by decide)))
                    have g_57 : FF u_4 u_52 (fl [20, 21, 24, 25, 42, 43]) := FF.trans hGL1260 (FF.to gu_52 (fl_sub (by decide)))
                    refine lv_goto (tgt := 12) hx hb dX12_expression_140 (by decide) ?_
                    have q_59 : (-2147483648) ≤ u_52.1 231 20 ∧ u_52.1 231 20 ≤ 2147483647 := iu_52.fi 20
                    have q_60 : (-2147483648) ≤ u_28.1 231 24 ∧ u_28.1 231 24 ≤ 2147483647 := iu_28.fi 24
                    have lk_61 : u_52.1 231 24 = u_28.1 231 24 := (gu_52 24 rfl).trans (gL60_ 24 rfl)
                    have q_62 : (-2147483648) ≤ u_28.1 231 42 ∧ u_28.1 231 42 ≤ 2147483647 := iu_28.fi 42
                    have lk_63 : u_52.1 231 42 = u_28.1 231 42 := (gu_52 42 rfl).trans (gL60_ 42 rfl)
                    exact ih_12 u_52  _ _ _ (by rw [if_pos (show S12.1 231 20 = 0 by omega)] at hm12; split <;> omega) iu_52 F_54 F_55 g_56 g_57 (fun j a => ((fu_52 257 rfl).2.2.1 j).trans ((hl2 j (.inl a)).trans ((xu_28.1 j (by omega)).trans (hlo j a)))) (fun h => absurd h (by have e9 := (show u_52.1 231 20 = u_52.1 231 20 from rfl); have a9 := xu_52; omega)) (fun _ => by rw [eG]; exact eL_f2 (st := (fun p => k p = 21 ∨ k p = 22)) hst e1 (oAdd_g (if_pos hk9) ((veq_grt wS).mp (xu_42.2.1 (by omega))))) (by omega) hW hL (lv_sub hl [2, 3, 4] rfl)
              · refine lv_aload_n hx hb dX12_expression_67 rfl (lv_at hl 3 rfl) ?_
                refine g_X12_88 Cx hW (k := 231) (by decide) rfl (v := .ref (G.2.2.1 + 257)) (rd_41 hI60) dX12_expression_68 ?_
                refine lv_iload_n hx hb dX12_expression_71 rfl (lv_at hl 4 rfl) ?_
                refine lv_iload hx hb dX12_expression_72 (lv_at hl 0 rfl) ?_
                refine r_iadd hx hb dX12_expression_74 ?_
                refine lv_dup2_11 hx hb dX12_expression_75 rfl rfl ?_
                refine rLald Cx hW (k := 257) (by decide) rfl (by decide) (by omega) (by omega) dX12_expression_76 ?_
                have q_64 : -9223372036854775808 ≤ S60.2.2.1 257 (ix + kk) ∧ S60.2.2.1 257 (ix + kk) ≤ 9223372036854775807 := hI60.li 257 (ix + kk)
                refine r_j (b := S60.2.2.1 257 (ix + kk)) rfl ?_
                refine lv_aload_n hx hb dX12_expression_77 rfl (lv_at hl 3 rfl) ?_
                refine g_X12_56 Cx hW (k := 231) (by decide) rfl (v := .ref (G.2.2.1 + 247)) (rd_18 hI60) dX12_expression_78 ?_
                refine lv_iload_n hx hb dX12_expression_81 rfl (lv_at hl 1 rfl) ?_
                refine rIald Cx hW (k := 247) (by decide) rfl (by decide) (by omega) (by omega) dX12_expression_82 ?_
                have q_65 : (-2147483648) ≤ S.2.1 247 (S12.1 231 24) ∧ S.2.1 247 (S12.1 231 24) ≤ 2147483647 := hI.ai 247 (S12.1 231 24)
                refine r_i (b := S.2.1 247 (S12.1 231 24)) (((hL60_ 247 rfl).2.1 (S12.1 231 24)).trans (((fu_28 247 rfl).2.1 (S12.1 231 24)).trans ((uF_a).trans (((hL12_ 247 rfl).2.1 (S12.1 231 24)).trans ((fu_4 247 rfl).2.1 (S12.1 231 24)))))) ?_
                have hr2 : V (S12.1 231 24) = S.2.1 247 (S12.1 231 24) := (by rw [← hV])
                refine lv_bipush (v := iv 43) hx hb dX12_expression_83 (by decide) ?_
                refine r_icmp_ne (tgt := 100) hx hb ⟨(by omega), (by omega)⟩ ⟨(by omega), (by omega)⟩ dX12_expression_85 (by decide) (fun c_66 => ?_) (fun c_66 => ?_)
                · exfalso; omega
                · refine lv_aload_n hx hb dX12_expression_88 rfl (lv_at hl 3 rfl) ?_
                  refine g_X12_88 Cx hW (k := 231) (by decide) rfl (v := .ref (G.2.2.1 + 257)) (rd_41 hI60) dX12_expression_89 ?_
                  refine lv_iload_n hx hb dX12_expression_92 rfl (lv_at hl 2 rfl) ?_
                  refine lv_iload hx hb dX12_expression_93 (lv_at hl 0 rfl) ?_
                  refine r_iadd hx hb dX12_expression_95 ?_
                  refine rLald Cx hW (k := 257) (by decide) rfl (by decide) (by omega) (by omega) dX12_expression_96 ?_
                  have q_67 : -9223372036854775808 ≤ S60.2.2.1 257 (((ix + 12) + 1) + kk) ∧ S60.2.2.1 257 (((ix + 12) + 1) + kk) ≤ 9223372036854775807 := hI60.li 257 (((ix + 12) + 1) + kk)
                  refine r_j (b := S60.2.2.1 257 (((ix + 12) + 1) + kk)) rfl ?_
                  refine lv_goto (tgt := 110) hx hb dX12_expression_97 (by decide) ?_
                  refine r_ladd hx hb dX12_expression_110 ?_
                  obtain ⟨za, eza, lza, hza, fza⟩ := jv_h ((S60.2.2.1 257 (ix + kk)) + (S60.2.2.1 257 (((ix + 12) + 1) + kk)))
                  rw [eza]
                  refine rLast Cx hW hL (k := 257) (by decide) rfl (by decide) (by omega) (by omega) dX12_expression_111 (fun H locs hW hL => ?_)
                  have F_68 : Fr S (uL S60 257 (ix + kk) za) (pl [231, 248, 249, 250, 251, 252, 257, 258]) := hFm60.L rfl
                  have F_69 : Fr u_4 (uL S60 257 (ix + kk) za) (pl [231, 248, 249, 250, 251, 252, 257, 258]) := hFL1260.L rfl
                  have F_70 : Fr u_28 (uL S60 257 (ix + kk) za) (pl [257]) := hL60_.L rfl
                  have i_71 : dX G (uL S60 257 (ix + kk) za) := hI60.L ⟨by omega, by omega⟩
                  refine lv_iinc (v := iv (kk + 1)) (lv' := [(4, .int (iv (kk + 1))), (3, .int (iv (S12.1 231 24))), (2, .int (iv ((ix + 12) + 1))), (0, .ref (G.2.2.1 + 231)), (1, .int (iv ix))]) hx hb dX12_expression_112 hl (k := 0) rfl ((Int32.ofInt_add _ _).symm) (by decide) rfl (fun ls hl => ?_)
                  refine lv_goto (tgt := 60) hx hb dX12_expression_115 (by decide) ?_
                  exact ih_60 (uL S60 257 (ix + kk) za) (kk + 1) _ _ _ (by omega) i_71 F_68 F_69 F_70 hGm60 hGL1260 gL60_ (by omega) (fun j a => (uL_ne (fun h => by have h2 := h.2; omega)).trans (hl2 j a)) (fun hb9 t a b => by by_cases z : t = kk; (rw [z, uL_on, if_pos (by omega)]; have c1 := hrow hb9 kk (by omega) (by omega); rw [if_neg (by omega)] at c1; have c2 : S60.2.2.1 257 (ix + 12 + 1 + kk) = u_28.2.2.1 257 (ix + 13 + kk) := (by rw [← hl2 (ix + 13 + kk) (by omega)]; exact congrArg _ (by omega)); have hb1 := hb9 kk (by omega) (by omega); have za1 := fza (by omega) (by omega); omega); (rw [uL_ne (fun h => z (by have h2 := h.2; omega)), hrow hb9 t a b]; by_cases y : t < kk; (rw [if_pos y, if_pos (by omega)]); (rw [if_neg y, if_neg (by omega)]))) hW hL (lv_sub hl [0, 1, 2, 3, 4] rfl)
          exact loop_60 (_ + 1) u_28 0 _ _ _ (Nat.lt_succ_self _) iu_28 F_30 F_31 Fr.rf g_32 g_33 FF.rf (by omega) (fun j a => rfl) (fun _ t a b => (if_neg (by omega)).symm) hW hL (lv_sub hl [0, 1, 2, 3, 4] rfl)
        · refine lv_aload_n hx hb dX12_expression_28 rfl (lv_at hl 1 rfl) ?_
          refine lv_bipush (v := iv 45) hx hb dX12_expression_29 (by decide) ?_
          refine sBi (sV (As := [.int (iv 45)]) (rest := []) (k := 231) Cx (s_X12_isSign l G S12 (sv := 45) (K := K) (V := V) (pz := S12.1 231 24) hI12 (by omega) ((funext fun j => ((hL12_ 244 rfl).2.1 j).trans ((fu_4 244 rfl).2.1 j) : S12.2.1 244 = S.2.1 244).trans hK) ((funext fun j => ((hL12_ 247 rfl).2.1 j).trans ((fu_4 247 rfl).2.1 j) : S12.2.1 247 = S.2.1 247).trans hV) (by omega) (by omega)) (c_X12_318 Cx rfl rfl (rmk_ok (by omega) (by decide))) hW (by decide) rfl rfl rfl hl.1 rfl (Nat.le_of_ble_eq_true rfl) dX12_expression_31 ⟨Nat.le_of_ble_eq_true rfl, Nat.le_of_ble_eq_true rfl⟩) hL (fun r_74 u_72 H locs k_73 hW hL => ?_)
          obtain ⟨eu_72, xu_72⟩ := k_73
          rw [eu_72] at hW
          have tu_72a : Hd (r_74 = 1 → k (S12.1 231 24) = 22) := (fun h => by rw [← hkk]; exact (osg_45 K V T _).1 (by omega) (by omega) (xu_72.2.1 h))
          have tu_72b : Hd (r_74 ≠ 1 → k (S12.1 231 24) ≠ 22) := (fun h z => xu_72.2.2 h ((osg_45 K V T _).2 (by rw [hkk]; exact z)))
          refine r_if_eq (tgt := 143) hx hb ⟨(by omega), (by omega)⟩ dX12_expression_34 (by decide) (fun c_75 => ?_) (fun c_75 => ?_)
          · have q_76 : (-2147483648) ≤ S12.1 231 42 ∧ S12.1 231 42 ≤ 2147483647 := hI12.fi 42
            exact sVret Cx hr hlk hW hL ⟨hI12, hFm12, hGm12, ⟨(by have hns : Hd (¬ (fun p => k p = 21 ∨ k p = 22) (S12.1 231 24)) := (fun z => z.elim (tu_13b (by omega)) (tu_72b (by omega))); have hqe := ogW_q (st := (fun p => k p = 21 ∨ k p = 22)) hns hw; exact ⟨hlo, (fun _ => ⟨Va, (by rw [eG, eL_no (st := (fun p => k p = 21 ∨ k p = 22)) hns, ← hqe]), wV, bV, lV, hqe, nV⟩), (fun h => absurd (by omega) h)⟩), (by have e7c := (show S12.1 231 24 = S12.1 231 24 from rfl); omega)⟩⟩ dX12_expression_143
          · have hk9 : k (S12.1 231 24) = 22 := tu_72a (by omega)
            have hst : Hd ((fun p => k p = 21 ∨ k p = 22) (S12.1 231 24)) := .inr hk9
            have vs9 : V (S12.1 231 24) = 45 := (xu_72.2.1 (by omega)).2
            obtain ⟨q2, hg2, hw2⟩ := ogW_ii hsT hgR hst hw
            have hg2 : ogP T k (ogF T k n) (S12.1 231 24 + 1) = some q2 := hg2
            have hq2 := ogP_inc (ogF_inc n) _ _ hg2; have hql := ogW_le hgR _ _ hw2
            refine lv_aload_n hx hb dX12_expression_37 rfl (lv_at hl 1 rfl) ?_
            refine g_X12_315 Cx hW (k := 231) (by decide) rfl (v := S12.1 231 24) rfl dX12_expression_38 ?_
            refine lv_istore_n (lv' := [(3, .int (iv (S12.1 231 24))), (2, .int (iv ((ix + 12) + 1))), (0, .ref (G.2.2.1 + 231)), (1, .int (iv ix))]) hx hb dX12_expression_41 rfl hl (by decide) rfl (fun ls hl => ?_)
            refine lv_aload_n hx hb dX12_expression_42 rfl (lv_at hl 2 rfl) ?_
            refine lv_dup hx hb dX12_expression_43 rfl ?_
            refine g_X12_315 Cx hW (k := 231) (by decide) rfl (v := S12.1 231 24) rfl dX12_expression_44 ?_
            refine lv_iconst (v := iv 1) hx hb dX12_expression_47 (by decide) ?_
            refine r_iadd hx hb dX12_expression_48 ?_
            refine p_X12_315 Cx hW hL (k := 231) (by decide) rfl dX12_expression_49 (fun H locs hW hL => ?_)
            have F_77 : Fr S (uF S12 231 24 ((S12.1 231 24) + 1)) (pl [231, 248, 249, 250, 251, 252, 257, 258]) := hFm12.F rfl
            have F_78 : Fr u_4 (uF S12 231 24 ((S12.1 231 24) + 1)) (pl [231, 248, 249, 250, 251, 252, 257, 258]) := hL12_.F rfl
            have g_79 : FF S (uF S12 231 24 ((S12.1 231 24) + 1)) (fl [20, 21, 24, 25, 42, 43]) := FF.F hGm12 rfl
            have g_80 : FF u_4 (uF S12 231 24 ((S12.1 231 24) + 1)) (fl [20, 21, 24, 25, 42, 43]) := FF.F gL12_ rfl
            have i_81 : dX G (uF S12 231 24 ((S12.1 231 24) + 1)) := hI12.F (i := 24) (show (-2147483648) ≤ (S12.1 231 24) + 1 ∧ (S12.1 231 24) + 1 ≤ 2147483647 from ⟨by omega, by omega⟩)
            refine lv_aload_n hx hb dX12_expression_52 rfl (lv_at hl 2 rfl) ?_
            refine lv_iload_n hx hb dX12_expression_53 rfl (lv_at hl 1 rfl) ?_
            have lk_82 : (uF S12 231 24 ((S12.1 231 24) + 1)).1 231 20 = S12.1 231 20 := uF_ne (fun h => absurd h.2 (by decide))
            have lk_83 : (uF S12 231 24 ((S12.1 231 24) + 1)).1 231 24 = (S12.1 231 24) + 1 := uF_on
            have q_84 : (-2147483648) ≤ S12.1 231 42 ∧ S12.1 231 42 ≤ 2147483647 := hI12.fi 42
            have lk_85 : (uF S12 231 24 ((S12.1 231 24) + 1)).1 231 42 = S12.1 231 42 := uF_ne (fun h => absurd h.2 (by decide))
            have nr_86 : NRr N k v (uF S12 231 24 ((S12.1 231 24) + 1)) := nV.of (uF_ne (fun h => absurd h.2 (by decide))) (funext fun j => uF_a) (funext fun j => uF_a) (funext fun j => uF_a) (funext fun j => uF_a) (funext fun j => uF_a) (funext fun j => uF_a)
            have kr_87 : KRr (uF S12 231 24 ((S12.1 231 24) + 1)) k v T := hkr.of (funext fun j => (uF_a).trans (((hL12_ 243 rfl).2.1 j).trans ((fu_4 243 rfl).2.1 j))) (funext fun j => (uF_a).trans (((hL12_ 244 rfl).2.1 j).trans ((fu_4 244 rfl).2.1 j))) (funext fun j => (uF_a).trans (((hL12_ 245 rfl).2.1 j).trans ((fu_4 245 rfl).2.1 j))) (funext fun j => (uF_a).trans (((hL12_ 246 rfl).2.1 j).trans ((fu_4 246 rfl).2.1 j))) (funext fun j => (uF_a).trans (((hL12_ 247 rfl).2.1 j).trans ((fu_4 247 rfl).2.1 j)))
            refine sBv (sV (As := [.int (iv ((ix + 12) + 1))]) (rest := []) (k := 231) Cx (hP (uF S12 231 24 ((S12.1 231 24) + 1)) N k v T (S12.1 231 24 + 1) q2 ((ix + 12) + 1) i_81 ⟨nr_86, hK_, hTV, kr_87, (by omega), (by omega), (by omega), ⟨by omega, by omega⟩⟩ (by omega) (by omega) (by omega) hg2) (c_X12_423 Cx rfl rfl (rmk_ok (by omega) (by decide))) hW (by decide) rfl rfl rfl hl.1 rfl (Nat.le_of_ble_eq_true rfl) dX12_expression_54 ⟨Nat.le_of_ble_eq_true rfl, Nat.le_of_ble_eq_true rfl⟩) hL (fun u_88 H locs k_89 hW hL => ?_)
            obtain ⟨iu_88, fu_88, gu_88, xu_88, yu_88⟩ := k_89
            have F_90 := F_77.trans fu_88
            have F_91 := F_78.trans fu_88
            have g_92 : FF S u_88 (fl [20, 21, 24, 25, 42, 43]) := FF.trans g_79 (FF.to gu_88 (fl_sub (by decide)))
            have g_93 : FF u_4 u_88 (fl [20, 21, 24, 25, 42, 43]) := FF.trans g_80 (FF.to gu_88 (fl_sub (by decide)))
            refine lv_iconst (v := iv 0) hx hb dX12_expression_57 (by decide) ?_
            refine lv_istore (lv' := [(4, .int (iv 0)), (3, .int (iv (S12.1 231 24))), (2, .int (iv ((ix + 12) + 1))), (0, .ref (G.2.2.1 + 231)), (1, .int (iv ix))]) hx hb dX12_expression_58 hl (by decide) rfl (fun ls hl => ?_)
            have loop_60 : ∀ (fuel : Nat) (S60 : sS) (kk : Int) (H : Heap) (locs : List Loc) (ls : Array Slot), (13 - kk).toNat < fuel → (dX G S60) → (Fr S S60 (pl [231, 248, 249, 250, 251, 252, 257, 258])) → (Fr u_4 S60 (pl [231, 248, 249, 250, 251, 252, 257, 258])) → (Fr u_88 S60 (pl [257])) → (FF S S60 (fl [20, 21, 24, 25, 42, 43])) → (FF u_4 S60 (fl [20, 21, 24, 25, 42, 43])) → (FF u_88 S60 (fl [])) → (0 ≤ kk ∧ kk ≤ 13) → (Hd (∀ j, (j < ix ∨ ix + 13 ≤ j) → S60.2.2.1 257 j = u_88.2.2.1 257 j)) → (Hd (BDr u_88 ix → ∀ t, 0 ≤ t → t < 13 → S60.2.2.1 257 (ix + t) = if t < kk then u_88.2.2.1 257 (ix + t) + (-1) * u_88.2.2.1 257 (ix + 13 + t) else u_88.2.2.1 257 (ix + t))) → sW G 294 S60 H → sL G locs → lv_has ls 5 [(4, .int (iv kk)), (3, .int (iv (S12.1 231 24))), (2, .int (iv ((ix + 12) + 1))), (0, .ref (G.2.2.1 + 231)), (1, .int (iv ix))] → W p l e (rmk D 0 0) s m args below meth c H locs 0 0 (MQ below (sQv G 294 (fun u => dX G u ∧ Fr S u (pl [231, 248, 249, 250, 251, 252, 257, 258]) ∧ FF S u (fl [20, 21, 24, 25, 42, 43]) ∧ (EOr S u N k v q (eU T k (eF T k v n N) (S.1 231 42) pz) ix ∧ (0 ≤ u.1 231 24 ∧ u.1 231 24 ≤ q)))) args s 0 0 (sF G)) (F0 m 60 ls []) := by
              intro fuel
              induction fuel with
              | zero => intro S60 kk H locs ls hmeas hI60 hFm60 hFL1260 hL60_ hGm60 hGL1260 gL60_ hk hl2 hrow hW hL hl; exact absurd hmeas (Nat.not_lt_zero _)
              | succ fuel ih_60 =>
                intro S60 kk H locs ls hmeas hI60 hFm60 hFL1260 hL60_ hGm60 hGL1260 gL60_ hk hl2 hrow hW hL hl
                refine lv_iload hx hb dX12_expression_60 (lv_at hl 0 rfl) ?_
                refine lv_bipush (v := iv 12) hx hb dX12_expression_62 (by decide) ?_
                refine r_icmp_gt (tgt := 118) hx hb ⟨(by omega), (by omega)⟩ ⟨(by omega), (by omega)⟩ dX12_expression_64 (by decide) (fun c_94 => ?_) (fun c_94 => ?_)
                · refine lv_aload_n hx hb dX12_expression_118 rfl (lv_at hl 3 rfl) ?_
                  have q_95 : (-2147483648) ≤ u_88.1 231 20 ∧ u_88.1 231 20 ≤ 2147483647 := iu_88.fi 20
                  refine g_X12_270 Cx hW (k := 231) (by decide) rfl (v := u_88.1 231 20) (gL60_ 20 rfl) dX12_expression_119 ?_
                  refine r_if_ne (tgt := 140) hx hb ⟨(by omega), (by omega)⟩ dX12_expression_122 (by decide) (fun c_96 => ?_) (fun c_96 => ?_)
                  · refine lv_goto (tgt := 12) hx hb dX12_expression_140 (by decide) ?_
                    have lk_97 : S60.1 231 20 = u_88.1 231 20 := gL60_ 20 rfl
                    have q_98 : (-2147483648) ≤ u_88.1 231 24 ∧ u_88.1 231 24 ≤ 2147483647 := iu_88.fi 24
                    have lk_99 : S60.1 231 24 = u_88.1 231 24 := gL60_ 24 rfl
                    have q_100 : (-2147483648) ≤ u_88.1 231 42 ∧ u_88.1 231 42 ≤ 2147483647 := iu_88.fi 42
                    have lk_101 : S60.1 231 42 = u_88.1 231 42 := gL60_ 42 rfl
                    exact ih_12 S60  _ _ _ (by rw [if_pos (show S12.1 231 20 = 0 by omega)] at hm12; split <;> omega) hI60 hFm60 hFL1260 hGm60 hGL1260 (fun j a => (rfl).trans ((hl2 j (.inl a)).trans ((xu_88.1 j (by omega)).trans (hlo j a)))) (fun h => absurd h (by have e9 := (show S60.1 231 20 = u_88.1 231 20 from gL60_ 20 rfl); omega)) (fun _ => by have q9 := xu_88.2.2 (by have e9 := (show S60.1 231 20 = u_88.1 231 20 from gL60_ 20 rfl); omega); rw [show (uF S12 231 24 ((S12.1 231 24) + 1)).1 231 42 = S12.1 231 42 by omega] at q9; rw [eG]; exact eL_f1 (st := (fun p => k p = 21 ∨ k p = 22)) hst q9) (by omega) hW hL (lv_sub hl [2, 3, 4] rfl)
                  · obtain ⟨Vb, e1, w1, b1, l1, c1_, n1⟩ := xu_88.2.1 (by have e9 := (show S60.1 231 20 = u_88.1 231 20 from gL60_ 20 rfl); omega)
                    rw [show (uF S12 231 24 ((S12.1 231 24) + 1)).1 231 42 = S12.1 231 42 by omega] at e1
                    have wP : veq (fvr u_88 ix) Va := (fun j a b => by show u_88.2.2.1 257 (ix + j) = _; rw [xu_88.1 (ix + j) (by omega)]; exact wV j a b)
                    have w1 : veq (fvr u_88 (ix + 13)) Vb := (by have z := w1; rw [show ix + 12 + 1 = ix + 13 by omega] at z; exact z)
                    have wS : veq (fvr S60 ix) (vad Va Vb (-1)) := (fun j a b => by show S60.2.2.1 257 (ix + j) = Va j + (-1) * Vb j; rw [hrow (BDr.of (bV.eq wP) (b1.eq w1)) j a b, if_pos (by omega), ← wP j a b, ← w1 j a b]; rfl)
                    refine lv_aload_n hx hb dX12_expression_125 rfl (lv_at hl 3 rfl) ?_
                    refine lv_iload_n hx hb dX12_expression_126 rfl (lv_at hl 4 rfl) ?_
                    refine sBi (sV (As := [.int (iv ix)]) (rest := []) (k := 231) Cx (e_X12_isGreat l G S60 (ix := ix) hI60 (by omega)) (c_X12_416 Cx rfl rfl (rmk_ok (by omega) (by decide))) hW (by decide) rfl rfl rfl hl.1 rfl (Nat.le_of_ble_eq_true rfl) dX12_expression_127 ⟨Nat.le_of_ble_eq_true rfl, Nat.le_of_ble_eq_true rfl⟩) hL (fun r_104 u_102 H locs k_103 hW hL => ?_)
                    obtain ⟨eu_102, xu_102⟩ := k_103
                    rw [eu_102] at hW
                    refine r_if_eq (tgt := 140) hx hb ⟨(by omega), (by omega)⟩ dX12_expression_130 (by decide) (fun c_105 => ?_) (fun c_105 => ?_)
                    · have ngr : Hd (¬ grt (vad Va Vb (-1))) := (fun z => xu_102.2.2 (by omega) ((veq_grt wS).mpr z))
                      refine lv_goto (tgt := 12) hx hb dX12_expression_140 (by decide) ?_
                      have lk_106 : S60.1 231 20 = u_88.1 231 20 := gL60_ 20 rfl
                      have q_107 : (-2147483648) ≤ u_88.1 231 24 ∧ u_88.1 231 24 ≤ 2147483647 := iu_88.fi 24
                      have lk_108 : S60.1 231 24 = u_88.1 231 24 := gL60_ 24 rfl
                      have q_109 : (-2147483648) ≤ u_88.1 231 42 ∧ u_88.1 231 42 ≤ 2147483647 := iu_88.fi 42
                      have lk_110 : S60.1 231 42 = u_88.1 231 42 := gL60_ 42 rfl
                      have nr_111 : NRr N k v S60 := n1.of (gL60_ 25 rfl) (funext fun j => (hL60_ 248 rfl).2.1 j) (funext fun j => (hL60_ 249 rfl).2.1 j) (funext fun j => (hL60_ 250 rfl).2.1 j) (funext fun j => (hL60_ 251 rfl).2.1 j) (funext fun j => (hL60_ 252 rfl).2.1 j) (funext fun j => (hL60_ 253 rfl).2.1 j)
                      exact ih_12 S60  _ _ _ (by rw [if_pos (show S12.1 231 20 = 0 by omega)] at hm12; split <;> omega) hI60 hFm60 hFL1260 hGm60 hGL1260 (fun j a => (rfl).trans ((hl2 j (.inl a)).trans ((xu_88.1 j (by omega)).trans (hlo j a)))) (fun _ => ⟨vad Va Vb (-1), (by rw [eG, eL_so (st := (fun p => k p = 21 ∨ k p = 22)) hsT hRi hst e1 (oAdd_s (if_neg (by omega)) ngr), show S60.1 231 24 = q2 by have z := (show S60.1 231 24 = u_88.1 231 24 from gL60_ 24 rfl); omega, show S60.1 231 42 = u_88.1 231 42 from (show S60.1 231 42 = u_88.1 231 42 from gL60_ 42 rfl)]), wS, vb9_n ngr, nr_111, (by rw [show S60.1 231 24 = q2 by have z := (show S60.1 231 24 = u_88.1 231 24 from gL60_ 24 rfl); omega]; exact hw2), (by rw [show S60.1 231 42 = u_88.1 231 42 from (show S60.1 231 42 = u_88.1 231 42 from gL60_ 42 rfl)]; exact l1), (by rw [show S60.1 231 24 = q2 by have z := (show S60.1 231 24 = u_88.1 231 24 from gL60_ 24 rfl); omega]; omega)⟩) (fun h => absurd (show S60.1 231 20 = 0 by have e9 := (show S60.1 231 20 = u_88.1 231 20 from gL60_ 20 rfl); omega) h) (by omega) hW hL (lv_sub hl [2, 3, 4] rfl)
                    · refine lv_aload_n hx hb dX12_expression_133 rfl (lv_at hl 3 rfl) ?_
                      refine lv_bipush (v := iv 6) hx hb dX12_expression_134 (by decide) ?_
                      refine lv_iload_n hx hb dX12_expression_136 rfl (lv_at hl 1 rfl) ?_
                      refine sBv (sV (As := [.int (iv 6), .int (iv (S12.1 231 24))]) (rest := []) (k := 231) Cx (s_X12_wrong l G S60 (cd := 6) (tk := S12.1 231 24) hI60 (by omega) (by omega)) (c_X12_321 Cx rfl rfl (rmk_ok (by omega) (by decide))) hW (by decide) rfl rfl rfl hl.1 rfl (Nat.le_of_ble_eq_true rfl) dX12_expression_137 ⟨Nat.le_of_ble_eq_true rfl, Nat.le_of_ble_eq_true rfl⟩) hL (fun u_112 H locs k_113 hW hL => ?_)
                      obtain ⟨iu_112, fu_112, gu_112, xu_112⟩ := k_113
                      have F_114 := hFm60.trans (fu_112.to (pl_sub (by decide)))
                      have F_115 := hFL1260.trans (fu_112.to (pl_sub (by decide)))
                      have g_116 : FF S u_112 (fl [20, 21, 24, 25, 42, 43]) := FF.trans hGm60 (FF.to gu_112 (fl_sub (by decide)))
                      have g_117 : FF u_4 u_112 (fl [20, 21, 24, 25, 42, 43]) := FF.trans hGL1260 (FF.to gu_112 (fl_sub (by decide)))
                      refine lv_goto (tgt := 12) hx hb dX12_expression_140 (by decide) ?_
                      have q_119 : (-2147483648) ≤ u_112.1 231 20 ∧ u_112.1 231 20 ≤ 2147483647 := iu_112.fi 20
                      have q_120 : (-2147483648) ≤ u_88.1 231 24 ∧ u_88.1 231 24 ≤ 2147483647 := iu_88.fi 24
                      have lk_121 : u_112.1 231 24 = u_88.1 231 24 := (gu_112 24 rfl).trans (gL60_ 24 rfl)
                      have q_122 : (-2147483648) ≤ u_88.1 231 42 ∧ u_88.1 231 42 ≤ 2147483647 := iu_88.fi 42
                      have lk_123 : u_112.1 231 42 = u_88.1 231 42 := (gu_112 42 rfl).trans (gL60_ 42 rfl)
                      exact ih_12 u_112  _ _ _ (by rw [if_pos (show S12.1 231 20 = 0 by omega)] at hm12; split <;> omega) iu_112 F_114 F_115 g_116 g_117 (fun j a => ((fu_112 257 rfl).2.2.1 j).trans ((hl2 j (.inl a)).trans ((xu_88.1 j (by omega)).trans (hlo j a)))) (fun h => absurd h (by have e9 := (show u_112.1 231 20 = u_112.1 231 20 from rfl); have a9 := xu_112; omega)) (fun _ => by rw [eG]; exact eL_f2 (st := (fun p => k p = 21 ∨ k p = 22)) hst e1 (oAdd_g (if_neg (by omega)) ((veq_grt wS).mp (xu_102.2.1 (by omega))))) (by omega) hW hL (lv_sub hl [2, 3, 4] rfl)
                · refine lv_aload_n hx hb dX12_expression_67 rfl (lv_at hl 3 rfl) ?_
                  refine g_X12_88 Cx hW (k := 231) (by decide) rfl (v := .ref (G.2.2.1 + 257)) (rd_41 hI60) dX12_expression_68 ?_
                  refine lv_iload_n hx hb dX12_expression_71 rfl (lv_at hl 4 rfl) ?_
                  refine lv_iload hx hb dX12_expression_72 (lv_at hl 0 rfl) ?_
                  refine r_iadd hx hb dX12_expression_74 ?_
                  refine lv_dup2_11 hx hb dX12_expression_75 rfl rfl ?_
                  refine rLald Cx hW (k := 257) (by decide) rfl (by decide) (by omega) (by omega) dX12_expression_76 ?_
                  have q_124 : -9223372036854775808 ≤ S60.2.2.1 257 (ix + kk) ∧ S60.2.2.1 257 (ix + kk) ≤ 9223372036854775807 := hI60.li 257 (ix + kk)
                  refine r_j (b := S60.2.2.1 257 (ix + kk)) rfl ?_
                  refine lv_aload_n hx hb dX12_expression_77 rfl (lv_at hl 3 rfl) ?_
                  refine g_X12_56 Cx hW (k := 231) (by decide) rfl (v := .ref (G.2.2.1 + 247)) (rd_18 hI60) dX12_expression_78 ?_
                  refine lv_iload_n hx hb dX12_expression_81 rfl (lv_at hl 1 rfl) ?_
                  refine rIald Cx hW (k := 247) (by decide) rfl (by decide) (by omega) (by omega) dX12_expression_82 ?_
                  have q_125 : (-2147483648) ≤ S.2.1 247 (S12.1 231 24) ∧ S.2.1 247 (S12.1 231 24) ≤ 2147483647 := hI.ai 247 (S12.1 231 24)
                  refine r_i (b := S.2.1 247 (S12.1 231 24)) (((hL60_ 247 rfl).2.1 (S12.1 231 24)).trans (((fu_88 247 rfl).2.1 (S12.1 231 24)).trans ((uF_a).trans (((hL12_ 247 rfl).2.1 (S12.1 231 24)).trans ((fu_4 247 rfl).2.1 (S12.1 231 24)))))) ?_
                  have hr2 : V (S12.1 231 24) = S.2.1 247 (S12.1 231 24) := (by rw [← hV])
                  refine lv_bipush (v := iv 43) hx hb dX12_expression_83 (by decide) ?_
                  refine r_icmp_ne (tgt := 100) hx hb ⟨(by omega), (by omega)⟩ ⟨(by omega), (by omega)⟩ dX12_expression_85 (by decide) (fun c_126 => ?_) (fun c_126 => ?_)
                  · refine lv_aload_n hx hb dX12_expression_100 rfl (lv_at hl 3 rfl) ?_
                    refine g_X12_88 Cx hW (k := 231) (by decide) rfl (v := .ref (G.2.2.1 + 257)) (rd_41 hI60) dX12_expression_101 ?_
                    refine lv_iload_n hx hb dX12_expression_104 rfl (lv_at hl 2 rfl) ?_
                    refine lv_iload hx hb dX12_expression_105 (lv_at hl 0 rfl) ?_
                    refine r_iadd hx hb dX12_expression_107 ?_
                    refine rLald Cx hW (k := 257) (by decide) rfl (by decide) (by omega) (by omega) dX12_expression_108 ?_
                    have q_127 : -9223372036854775808 ≤ S60.2.2.1 257 (((ix + 12) + 1) + kk) ∧ S60.2.2.1 257 (((ix + 12) + 1) + kk) ≤ 9223372036854775807 := hI60.li 257 (((ix + 12) + 1) + kk)
                    refine r_j (b := S60.2.2.1 257 (((ix + 12) + 1) + kk)) rfl ?_
                    refine r_lneg hx hb dX12_expression_109 ?_
                    obtain ⟨zn, ezn, lzn, hzn, fzn⟩ := jv_h (-(S60.2.2.1 257 (((ix + 12) + 1) + kk)))
                    rw [ezn]
                    refine r_ladd hx hb dX12_expression_110 ?_
                    obtain ⟨za, eza, lza, hza, fza⟩ := jv_h ((S60.2.2.1 257 (ix + kk)) + zn)
                    rw [eza]
                    refine rLast Cx hW hL (k := 257) (by decide) rfl (by decide) (by omega) (by omega) dX12_expression_111 (fun H locs hW hL => ?_)
                    have F_128 : Fr S (uL S60 257 (ix + kk) za) (pl [231, 248, 249, 250, 251, 252, 257, 258]) := hFm60.L rfl
                    have F_129 : Fr u_4 (uL S60 257 (ix + kk) za) (pl [231, 248, 249, 250, 251, 252, 257, 258]) := hFL1260.L rfl
                    have F_130 : Fr u_88 (uL S60 257 (ix + kk) za) (pl [257]) := hL60_.L rfl
                    have i_131 : dX G (uL S60 257 (ix + kk) za) := hI60.L ⟨by omega, by omega⟩
                    refine lv_iinc (v := iv (kk + 1)) (lv' := [(4, .int (iv (kk + 1))), (3, .int (iv (S12.1 231 24))), (2, .int (iv ((ix + 12) + 1))), (0, .ref (G.2.2.1 + 231)), (1, .int (iv ix))]) hx hb dX12_expression_112 hl (k := 0) rfl ((Int32.ofInt_add _ _).symm) (by decide) rfl (fun ls hl => ?_)
                    refine lv_goto (tgt := 60) hx hb dX12_expression_115 (by decide) ?_
                    exact ih_60 (uL S60 257 (ix + kk) za) (kk + 1) _ _ _ (by omega) i_131 F_128 F_129 F_130 hGm60 hGL1260 gL60_ (by omega) (fun j a => (uL_ne (fun h => by have h2 := h.2; omega)).trans (hl2 j a)) (fun hb9 t a b => by by_cases z : t = kk; (rw [z, uL_on, if_pos (by omega)]; have c1 := hrow hb9 kk (by omega) (by omega); rw [if_neg (by omega)] at c1; have c2 : S60.2.2.1 257 (ix + 12 + 1 + kk) = u_88.2.2.1 257 (ix + 13 + kk) := (by rw [← hl2 (ix + 13 + kk) (by omega)]; exact congrArg _ (by omega)); have hb1 := hb9 kk (by omega) (by omega); have zn1 := fzn (by omega) (by omega); have za1 := fza (by omega) (by omega); omega); (rw [uL_ne (fun h => z (by have h2 := h.2; omega)), hrow hb9 t a b]; by_cases y : t < kk; (rw [if_pos y, if_pos (by omega)]); (rw [if_neg y, if_neg (by omega)]))) hW hL (lv_sub hl [0, 1, 2, 3, 4] rfl)
                  · exfalso; omega
            exact loop_60 (_ + 1) u_88 0 _ _ _ (Nat.lt_succ_self _) iu_88 F_90 F_91 Fr.rf g_92 g_93 FF.rf (by omega) (fun j a => rfl) (fun _ t a b => (if_neg (by omega)).symm) hW hL (lv_sub hl [0, 1, 2, 3, 4] rfl)
  have q_132 : (-2147483648) ≤ u_4.1 231 20 ∧ u_4.1 231 20 ≤ 2147483647 := iu_4.fi 20
  have q_133 : (-2147483648) ≤ u_4.1 231 24 ∧ u_4.1 231 24 ≤ 2147483647 := iu_4.fi 24
  have q_134 : (-2147483648) ≤ u_4.1 231 42 ∧ u_4.1 231 42 ≤ 2147483647 := iu_4.fi 42
  exact loop_12 (_ + 1) u_4  _ _ _ (Nat.lt_succ_self _) iu_4 F_6 Fr.rf g_7 FF.rf xu_4.1 (fun h => by obtain ⟨V0, e0, w0, b0, l0, c0, n0⟩ := xu_4.2.1 h; exact ⟨V0, (by rw [c0]; unfold eU; rw [e0]; rfl), w0, b0, n0, (by rw [c0]; exact hw0), l0, (by omega)⟩) (fun h => by unfold eU; rw [xu_4.2.2 h]; rfl) (by omega) hW hL (lv_sub hl [0, 1, 2] rfl)
