/-! The reference's F, T and E, exactly -/
def EHr (S : sS) (N : sN) (k v : Int → Int) (T pz : Int) : Prop := NRr N k v S ∧ NK N ∧ TVn k v ∧ KRr S k v T ∧ S.1 231 20 = 0 ∧ S.1 231 24 = pz ∧ 0 ≤ pz ∧ (0 ≤ S.1 231 42 ∧ S.1 231 42 ≤ 20000)
def FXr (l : Launch) (G : sG) (D n : Nat) : Prop := ∀ (S : sS) (N : sN) (k v : Int → Int) (T pz q ix : Int), dX G S → EHr S N k v T pz → N.1 + n ≤ 128 → q ≤ T - 1 → (0 ≤ ix ∧ ix + 39 * n + 12 < 1820) → ogF T k n pz = some q → Met l yX12_factor (.code yX12_factor cX12_factor 3 none :: tb) (rmk D 0 0) (sPc G 294 S [.ref (G.2.2.1 + 231), .int (iv ix)]) (sQv G 294 (fun u => dX G u ∧ Fr S u (pl [231, 248, 249, 250, 251, 252, 257, 258]) ∧ FF S u (fl [20, 21, 24, 25, 42, 43]) ∧ (EOr S u N k v q (eF T k v n N (S.1 231 42) pz) ix) ∧ (0 ≤ u.1 231 24 ∧ u.1 231 24 ≤ q))) 0 0 (sF G)
def PXr (l : Launch) (G : sG) (D n : Nat) : Prop := ∀ (S : sS) (N : sN) (k v : Int → Int) (T pz q ix : Int), dX G S → EHr S N k v T pz → N.1 + n ≤ 128 → q ≤ T - 1 → (0 ≤ ix ∧ ix + (39 * n + 13) + 12 < 1820) → ogP T k (ogF T k n) pz = some q → Met l yX12_product (.code yX12_product cX12_product 8 none :: tb) (rmk D 0 0) (sPc G 294 S [.ref (G.2.2.1 + 231), .int (iv ix)]) (sQv G 294 (fun u => dX G u ∧ Fr S u (pl [231, 248, 249, 250, 251, 252, 257, 258]) ∧ FF S u (fl [20, 21, 24, 25, 42, 43]) ∧ (EOr S u N k v q (eP T k (eF T k v n N) (S.1 231 42) pz) ix) ∧ (0 ≤ u.1 231 24 ∧ u.1 231 24 ≤ q))) 0 0 (sF G)
def EXr (l : Launch) (G : sG) (D n : Nat) : Prop := ∀ (S : sS) (N : sN) (k v : Int → Int) (T pz q ix : Int), dX G S → EHr S N k v T pz → N.1 + n ≤ 128 → q ≤ T - 1 → (0 ≤ ix ∧ ix + (39 * n + 26) + 12 < 1820) → ogU T k (ogF T k n) pz = some q → Met l yX12_expression (.code yX12_expression cX12_expression 5 none :: tb) (rmk D 0 0) (sPc G 294 S [.ref (G.2.2.1 + 231), .int (iv ix)]) (sQv G 294 (fun u => dX G u ∧ Fr S u (pl [231, 248, 249, 250, 251, 252, 257, 258]) ∧ FF S u (fl [20, 21, 24, 25, 42, 43]) ∧ (EOr S u N k v q (eU T k (eF T k v n N) (S.1 231 42) pz) ix) ∧ (0 ≤ u.1 231 24 ∧ u.1 231 24 ≤ q))) 0 0 (sF G)
theorem vml_f {V W g : Int → Int} (h : ¬ hsv W) (e : veq g (fun j => W 0 * V j)) : veq g (vml V W) := fun j a b => by
  rw [e j a b]; show W 0 * V j = _; unfold vml
  by_cases c : j = 0
  · rw [if_pos c, c, Int.mul_comm]
  · rw [if_neg c, hsv_0 h j (by omega) b, Int.mul_zero, Int.add_zero, Int.mul_comm]
theorem vml_n {V W g : Int → Int} (h : ¬ hsv V) (e : veq g (fun j => V 0 * W j)) : veq g (vml V W) := fun j a b => by
  rw [e j a b]; show V 0 * W j = _; unfold vml
  by_cases c : j = 0
  · rw [if_pos c, c]
  · rw [if_neg c, hsv_0 h j (by omega) b, Int.zero_mul, Int.zero_add]
set_option maxRecDepth 100000 in
set_option maxHeartbeats 4000000 in
theorem e_X12_product (l : Launch) (G : sG) (S : sS) {N : sN} {k v : Int → Int} {T pz q ix : Int} {n d1 D : Nat} (hI : dX G S) (hkr : Hd (KRr S k v T)) (hNr : Hd (NRr N k v S)) (hK_ : Hd (NK N)) (hTV : Hd (TVn k v)) (hf0 : S.1 231 20 = 0) (hc : S.1 231 24 = pz) (hlk : 0 ≤ S.1 231 42 ∧ S.1 231 42 ≤ 20000) (h1 : d1 < D) (h8 : 10 ≤ D) (hnm : N.1 + n ≤ 128) (hqb : 0 ≤ pz ∧ q ≤ T - 1) (hF : Hd (FXr l G d1 n)) (hix : 0 ≤ ix ∧ ix + (39 * n + 13) + 12 < 1820) (hgx : Hd (ogP T k (ogF T k n) pz = some q)) : Met l yX12_product (.code yX12_product cX12_product 8 none :: tb) (rmk D 0 0) (sPc G 294 S [.ref (G.2.2.1 + 231), .int (iv ix)]) (sQv G 294 (fun u => dX G u ∧ Fr S u (pl [231, 248, 249, 250, 251, 252, 257, 258]) ∧ FF S u (fl [20, 21, 24, 25, 42, 43]) ∧ (EOr S u N k v q (eP T k (eF T k v n N) (S.1 231 42) pz) ix ∧ (0 ≤ u.1 231 24 ∧ u.1 231 24 ≤ q)))) 0 0 (sF G) := by
  refine sEnter (by decide) (Nat.le_of_ble_eq_true rfl) ?_
  intro p e s m args below meth c Cx hr hlk hnm hW ls hl
  have Cx : sC G p m c cX12_product 8 s args RX12 := Cx
  obtain ⟨hx, hb, hml, hown, hts⟩ := id Cx.1
  have hL : sL G [] := sL_nil
  have hl : lv_has ls 8 [(0, .ref (G.2.2.1 + 231)), (1, .int (iv ix))] := hl
  have hW0 := hW
  obtain ⟨K, hK⟩ : ∃ z, S.2.1 244 = z := ⟨_, rfl⟩
  obtain ⟨V, hV⟩ : ∃ z, S.2.1 247 = z := ⟨_, rfl⟩
  obtain ⟨Fm, hFm⟩ : ∃ z, S.2.1 245 = z := ⟨_, rfl⟩
  obtain ⟨Wd, hWd⟩ : ∃ z, S.2.1 246 = z := ⟨_, rfl⟩
  have hkk : kr K V T = k := (by rw [← hK, ← hV]; exact hkr.1)
  have hTb := hkr.2.1
  have hN1 := hNr.1
  obtain ⟨q0, hg0, hw0⟩ := ogB hgx
  have hq0 := ogF_inc n _ _ hg0
  have hsT : Hd (∀ p, (fun p => k p = 23) p → p < T) := (fun p c => (hkr.lt (show k p = 23 from c) (by decide)).2)
  have hRi : Hd (RInc (eF T k v n N)) := eF_inc n N
  have hgR : Hd (∀ p q, (fun p => k p = 23) p → (fun p => ogF T k n (p + 1)) p = some q → p < q) := (fun p q _ h => by have h : ogF T k n (p + 1) = some q := h; have h2 := ogF_inc n _ _ h; omega)
  have hqq := ogW_le hgR _ _ hw0
  refine lv_aload_n hx hb dX12_product_0 rfl (lv_at hl 0 rfl) ?_
  refine lv_iload_n hx hb dX12_product_1 rfl (lv_at hl 1 rfl) ?_
  have q_1 : (-2147483648) ≤ S.1 231 20 ∧ S.1 231 20 ≤ 2147483647 := hI.fi 20
  have q_2 : (-2147483648) ≤ S.1 231 24 ∧ S.1 231 24 ≤ 2147483647 := hI.fi 24
  have q_3 : (-2147483648) ≤ S.1 231 42 ∧ S.1 231 42 ≤ 2147483647 := hI.fi 42
  refine sBv (sV (As := [.int (iv ix)]) (rest := []) (k := 231) Cx (hF S N k v T (pz) q0 ix hI ⟨hNr, hK_, hTV, hkr, (by omega), (by omega), (by omega), ⟨by omega, by omega⟩⟩ (by omega) (by omega) (by omega) hg0) (c_X12_426 Cx rfl rfl (rmk_ok (by omega) (by decide))) hW (by decide) rfl rfl rfl hl.1 rfl (Nat.le_of_ble_eq_true rfl) dX12_product_2 ⟨Nat.le_of_ble_eq_true rfl, Nat.le_of_ble_eq_true rfl⟩) hL (fun u_4 H locs k_5 hW hL => ?_)
  obtain ⟨iu_4, fu_4, gu_4, xu_4, yu_4⟩ := k_5
  have F_6 := (Fr.rf : Fr S S (pl [231, 248, 249, 250, 251, 252, 257, 258])).trans fu_4
  have g_7 : FF S u_4 (fl [20, 21, 24, 25, 42, 43]) := FF.trans FF.rf (FF.to gu_4 (fl_sub (by decide)))
  refine lv_iload_n hx hb dX12_product_5 rfl (lv_at hl 1 rfl) ?_
  refine lv_bipush (v := iv 12) hx hb dX12_product_6 (by decide) ?_
  refine r_iadd hx hb dX12_product_8 ?_
  refine lv_iconst (v := iv 1) hx hb dX12_product_9 (by decide) ?_
  refine r_iadd hx hb dX12_product_10 ?_
  refine lv_istore_n (lv' := [(2, .int (iv ((ix + 12) + 1))), (0, .ref (G.2.2.1 + 231)), (1, .int (iv ix))]) hx hb dX12_product_11 rfl hl (by decide) rfl (fun ls hl => ?_)
  have loop_12 : ∀ (fuel : Nat) (S12 : sS)  (H : Heap) (locs : List Loc) (ls : Array Slot), (if S12.1 231 20 = 0 then (T - S12.1 231 24).toNat + 1 else 0) < fuel → (dX G S12) → (Fr S S12 (pl [231, 248, 249, 250, 251, 252, 257, 258])) → (Fr u_4 S12 (pl [231, 248, 249, 250, 251, 252, 257, 258])) → (FF S S12 (fl [20, 21, 24, 25, 42, 43])) → (FF u_4 S12 (fl [20, 21, 24, 25, 42, 43])) → (Hd (∀ j, j < ix → S12.2.2.1 257 j = S.2.2.1 257 j)) → (Hd (S12.1 231 20 = 0 → ∃ Va, eP T k (eF T k v n N) (S.1 231 42) pz = eL T (fun p => k p = 23) (eF T k v n N) (fun _ => oMul) (S12.1 231 24, Va, S12.1 231 42) ∧ veq (fvr S12 ix) Va ∧ vb9 Va ∧ NRr N k v S12 ∧ ogW T (fun p => k p = 23) (fun p => ogF T k n (p + 1)) (S12.1 231 24) = some q ∧ (0 ≤ S12.1 231 42 ∧ S12.1 231 42 ≤ 20000) ∧ pz < S12.1 231 24)) → (Hd (S12.1 231 20 ≠ 0 → eP T k (eF T k v n N) (S.1 231 42) pz = none)) → (0 ≤ S12.1 231 24 ∧ S12.1 231 24 ≤ q) → sW G 294 S12 H → sL G locs → lv_has ls 8 [(2, .int (iv ((ix + 12) + 1))), (0, .ref (G.2.2.1 + 231)), (1, .int (iv ix))] → W p l e (rmk D 0 0) s m args below meth c H locs 0 0 (MQ below (sQv G 294 (fun u => dX G u ∧ Fr S u (pl [231, 248, 249, 250, 251, 252, 257, 258]) ∧ FF S u (fl [20, 21, 24, 25, 42, 43]) ∧ (EOr S u N k v q (eP T k (eF T k v n N) (S.1 231 42) pz) ix ∧ (0 ≤ u.1 231 24 ∧ u.1 231 24 ≤ q)))) args s 0 0 (sF G)) (F0 m 12 ls []) := by
    intro fuel
    induction fuel with
    | zero => intro S12  H locs ls hmeas hI12 hFm12 hL12_ hGm12 gL12_ hlo hOK hNO hcu hW hL hl; exact absurd hmeas (Nat.not_lt_zero _)
    | succ fuel ih_12 =>
      intro S12  H locs ls hmeas hI12 hFm12 hL12_ hGm12 gL12_ hlo hOK hNO hcu hW hL hl
      have hm12 := hmeas
      refine lv_aload_n hx hb dX12_product_12 rfl (lv_at hl 1 rfl) ?_
      have q_8 : (-2147483648) ≤ S12.1 231 20 ∧ S12.1 231 20 ≤ 2147483647 := hI12.fi 20
      refine g_X12_270 Cx hW (k := 231) (by decide) rfl (v := S12.1 231 20) rfl dX12_product_13 ?_
      refine r_if_ne (tgt := 177) hx hb ⟨(by omega), (by omega)⟩ dX12_product_16 (by decide) (fun c_9 => ?_) (fun c_9 => ?_)
      · have q_10 : (-2147483648) ≤ S12.1 231 24 ∧ S12.1 231 24 ≤ 2147483647 := hI12.fi 24
        have q_11 : (-2147483648) ≤ S12.1 231 42 ∧ S12.1 231 42 ≤ 2147483647 := hI12.fi 42
        exact sVret Cx hr hlk hW hL ⟨hI12, hFm12, hGm12, ⟨⟨hlo, (fun h => absurd h (by omega)), (fun _ => hNO (by omega))⟩, (by have e7c := (show S12.1 231 24 = S12.1 231 24 from rfl); omega)⟩⟩ dX12_product_177
      · obtain ⟨Va, eG, wV, bV, nV, hw, lV, pV_⟩ := hOK (by omega)
        have hwl := ogW_le hgR _ _ hw
        refine lv_aload_n hx hb dX12_product_19 rfl (lv_at hl 1 rfl) ?_
        refine lv_bipush (v := iv 42) hx hb dX12_product_20 (by decide) ?_
        have q_12 : (-2147483648) ≤ S12.1 231 24 ∧ S12.1 231 24 ≤ 2147483647 := hI12.fi 24
        refine sBi (sV (As := [.int (iv 42)]) (rest := []) (k := 231) Cx (s_X12_isSign l G S12 (sv := 42) (K := K) (V := V) (pz := S12.1 231 24) hI12 (by omega) ((funext fun j => ((hL12_ 244 rfl).2.1 j).trans ((fu_4 244 rfl).2.1 j) : S12.2.1 244 = S.2.1 244).trans hK) ((funext fun j => ((hL12_ 247 rfl).2.1 j).trans ((fu_4 247 rfl).2.1 j) : S12.2.1 247 = S.2.1 247).trans hV) (by omega) (by omega)) (c_X12_318 Cx rfl rfl (rmk_ok (by omega) (by decide))) hW (by decide) rfl rfl rfl hl.1 rfl (Nat.le_of_ble_eq_true rfl) dX12_product_22 ⟨Nat.le_of_ble_eq_true rfl, Nat.le_of_ble_eq_true rfl⟩) hL (fun r_15 u_13 H locs k_14 hW hL => ?_)
        obtain ⟨eu_13, xu_13⟩ := k_14
        rw [eu_13] at hW
        have tu_13a : Hd (r_15 = 1 → k (S12.1 231 24) = 23) := (fun h => by rw [← hkk]; exact (osg_42 K V T _).1 (by omega) (by omega) (xu_13.2.1 h))
        have tu_13b : Hd (r_15 ≠ 1 → k (S12.1 231 24) ≠ 23) := (fun h z => xu_13.2.2 h ((osg_42 K V T _).2 (by rw [hkk]; exact z)))
        refine r_if_eq (tgt := 177) hx hb ⟨(by omega), (by omega)⟩ dX12_product_25 (by decide) (fun c_16 => ?_) (fun c_16 => ?_)
        · have q_17 : (-2147483648) ≤ S12.1 231 42 ∧ S12.1 231 42 ≤ 2147483647 := hI12.fi 42
          exact sVret Cx hr hlk hW hL ⟨hI12, hFm12, hGm12, ⟨(by have hns : Hd (¬ (fun p => k p = 23) (S12.1 231 24)) := tu_13b (by omega); have hqe := ogW_q (st := (fun p => k p = 23)) hns hw; exact ⟨hlo, (fun _ => ⟨Va, (by rw [eG, eL_no (st := (fun p => k p = 23)) hns, ← hqe]), wV, bV, lV, hqe, nV⟩), (fun h => absurd (by omega) h)⟩), (by have e7c := (show S12.1 231 24 = S12.1 231 24 from rfl); omega)⟩⟩ dX12_product_177
        · have hst : Hd ((fun p => k p = 23) (S12.1 231 24)) := tu_13a (by omega)
          obtain ⟨q2, hg2, hw2⟩ := ogW_ii hsT hgR hst hw
          have hg2 : ogF T k n (S12.1 231 24 + 1) = some q2 := hg2
          have hq2 := ogF_inc n _ _ hg2; have hql := ogW_le hgR _ _ hw2
          refine lv_aload_n hx hb dX12_product_28 rfl (lv_at hl 1 rfl) ?_
          refine g_X12_315 Cx hW (k := 231) (by decide) rfl (v := S12.1 231 24) rfl dX12_product_29 ?_
          refine lv_istore_n (lv' := [(3, .int (iv (S12.1 231 24))), (2, .int (iv ((ix + 12) + 1))), (0, .ref (G.2.2.1 + 231)), (1, .int (iv ix))]) hx hb dX12_product_32 rfl hl (by decide) rfl (fun ls hl => ?_)
          refine lv_aload_n hx hb dX12_product_33 rfl (lv_at hl 2 rfl) ?_
          refine lv_dup hx hb dX12_product_34 rfl ?_
          refine g_X12_315 Cx hW (k := 231) (by decide) rfl (v := S12.1 231 24) rfl dX12_product_35 ?_
          refine lv_iconst (v := iv 1) hx hb dX12_product_38 (by decide) ?_
          refine r_iadd hx hb dX12_product_39 ?_
          refine p_X12_315 Cx hW hL (k := 231) (by decide) rfl dX12_product_40 (fun H locs hW hL => ?_)
          have F_18 : Fr S (uF S12 231 24 ((S12.1 231 24) + 1)) (pl [231, 248, 249, 250, 251, 252, 257, 258]) := hFm12.F rfl
          have F_19 : Fr u_4 (uF S12 231 24 ((S12.1 231 24) + 1)) (pl [231, 248, 249, 250, 251, 252, 257, 258]) := hL12_.F rfl
          have g_20 : FF S (uF S12 231 24 ((S12.1 231 24) + 1)) (fl [20, 21, 24, 25, 42, 43]) := FF.F hGm12 rfl
          have g_21 : FF u_4 (uF S12 231 24 ((S12.1 231 24) + 1)) (fl [20, 21, 24, 25, 42, 43]) := FF.F gL12_ rfl
          have i_22 : dX G (uF S12 231 24 ((S12.1 231 24) + 1)) := hI12.F (i := 24) (show (-2147483648) ≤ (S12.1 231 24) + 1 ∧ (S12.1 231 24) + 1 ≤ 2147483647 from ⟨by omega, by omega⟩)
          refine lv_aload_n hx hb dX12_product_43 rfl (lv_at hl 2 rfl) ?_
          refine lv_iload_n hx hb dX12_product_44 rfl (lv_at hl 1 rfl) ?_
          have lk_23 : (uF S12 231 24 ((S12.1 231 24) + 1)).1 231 20 = S12.1 231 20 := uF_ne (fun h => absurd h.2 (by decide))
          have lk_24 : (uF S12 231 24 ((S12.1 231 24) + 1)).1 231 24 = (S12.1 231 24) + 1 := uF_on
          have q_25 : (-2147483648) ≤ S12.1 231 42 ∧ S12.1 231 42 ≤ 2147483647 := hI12.fi 42
          have lk_26 : (uF S12 231 24 ((S12.1 231 24) + 1)).1 231 42 = S12.1 231 42 := uF_ne (fun h => absurd h.2 (by decide))
          have nr_27 : NRr N k v (uF S12 231 24 ((S12.1 231 24) + 1)) := nV.of (uF_ne (fun h => absurd h.2 (by decide))) (funext fun j => uF_a) (funext fun j => uF_a) (funext fun j => uF_a) (funext fun j => uF_a) (funext fun j => uF_a) (funext fun j => uF_a)
          have kr_28 : KRr (uF S12 231 24 ((S12.1 231 24) + 1)) k v T := hkr.of (funext fun j => (uF_a).trans (((hL12_ 243 rfl).2.1 j).trans ((fu_4 243 rfl).2.1 j))) (funext fun j => (uF_a).trans (((hL12_ 244 rfl).2.1 j).trans ((fu_4 244 rfl).2.1 j))) (funext fun j => (uF_a).trans (((hL12_ 245 rfl).2.1 j).trans ((fu_4 245 rfl).2.1 j))) (funext fun j => (uF_a).trans (((hL12_ 246 rfl).2.1 j).trans ((fu_4 246 rfl).2.1 j))) (funext fun j => (uF_a).trans (((hL12_ 247 rfl).2.1 j).trans ((fu_4 247 rfl).2.1 j)))
          refine sBv (sV (As := [.int (iv ((ix + 12) + 1))]) (rest := []) (k := 231) Cx (hF (uF S12 231 24 ((S12.1 231 24) + 1)) N k v T (S12.1 231 24 + 1) q2 ((ix + 12) + 1) i_22 ⟨nr_27, hK_, hTV, kr_28, (by omega), (by omega), (by omega), ⟨by omega, by omega⟩⟩ (by omega) (by omega) (by omega) hg2) (c_X12_426 Cx rfl rfl (rmk_ok (by omega) (by decide))) hW (by decide) rfl rfl rfl hl.1 rfl (Nat.le_of_ble_eq_true rfl) dX12_product_45 ⟨Nat.le_of_ble_eq_true rfl, Nat.le_of_ble_eq_true rfl⟩) hL (fun u_29 H locs k_30 hW hL => ?_)
          obtain ⟨iu_29, fu_29, gu_29, xu_29, yu_29⟩ := k_30
          have F_31 := F_18.trans fu_29
          have F_32 := F_19.trans fu_29
          have g_33 : FF S u_29 (fl [20, 21, 24, 25, 42, 43]) := FF.trans g_20 (FF.to gu_29 (fl_sub (by decide)))
          have g_34 : FF u_4 u_29 (fl [20, 21, 24, 25, 42, 43]) := FF.trans g_21 (FF.to gu_29 (fl_sub (by decide)))
          refine lv_aload_n hx hb dX12_product_48 rfl (lv_at hl 2 rfl) ?_
          have q_35 : (-2147483648) ≤ u_29.1 231 20 ∧ u_29.1 231 20 ≤ 2147483647 := iu_29.fi 20
          refine g_X12_270 Cx hW (k := 231) (by decide) rfl (v := u_29.1 231 20) rfl dX12_product_49 ?_
          refine r_if_eq (tgt := 56) hx hb ⟨(by omega), (by omega)⟩ dX12_product_52 (by decide) (fun c_36 => ?_) (fun c_36 => ?_)
          · obtain ⟨Vb, e1, w1, b1, l1, c1_, n1⟩ := xu_29.2.1 (by omega)
            rw [show (uF S12 231 24 ((S12.1 231 24) + 1)).1 231 42 = S12.1 231 42 by omega] at e1
            have wP : veq (fvr u_29 ix) Va := (fun j a b => by show u_29.2.2.1 257 (ix + j) = _; rw [xu_29.1 (ix + j) (by omega)]; exact wV j a b)
            have w1 : veq (fvr u_29 (ix + 13)) Vb := (by have z := w1; rw [show ix + 12 + 1 = ix + 13 by omega] at z; exact z)
            refine lv_aload_n hx hb dX12_product_56 rfl (lv_at hl 2 rfl) ?_
            refine lv_iload_n hx hb dX12_product_57 rfl (lv_at hl 3 rfl) ?_
            refine sBi (sV (As := [.int (iv ix)]) (rest := []) (k := 231) Cx (e_X12_hasVariables l G u_29 (ix := ix) iu_29 (by omega)) (c_X12_428 Cx rfl rfl (rmk_ok (by omega) (by decide))) hW (by decide) rfl rfl rfl hl.1 rfl (Nat.le_of_ble_eq_true rfl) dX12_product_58 ⟨Nat.le_of_ble_eq_true rfl, Nat.le_of_ble_eq_true rfl⟩) hL (fun r_39 u_37 H locs k_38 hW hL => ?_)
            obtain ⟨eu_37, xu_37⟩ := k_38
            rw [eu_37] at hW
            refine lv_istore (lv' := [(4, .int (iv r_39)), (3, .int (iv (S12.1 231 24))), (2, .int (iv ((ix + 12) + 1))), (0, .ref (G.2.2.1 + 231)), (1, .int (iv ix))]) hx hb dX12_product_61 hl (by decide) rfl (fun ls hl => ?_)
            refine lv_iload hx hb dX12_product_63 (lv_at hl 0 rfl) ?_
            refine r_if_eq (tgt := 83) hx hb ⟨(by omega), (by omega)⟩ dX12_product_65 (by decide) (fun c_40 => ?_) (fun c_40 => ?_)
            · refine lv_iload hx hb dX12_product_83 (lv_at hl 0 rfl) ?_
              refine r_if_eq (tgt := 97) hx hb ⟨(by omega), (by omega)⟩ dX12_product_85 (by decide) (fun c_41 => ?_) (fun c_41 => ?_)
              · have hf1 : Hd (¬ hsv Va) := (fun z => xu_37.2.2 (by omega) ((veq_hsv wP).mpr z))
                have hnl : Hd (¬ (hsv Va ∧ hsv Vb)) := (fun z => hf1 z.1)
                refine lv_aload_n hx hb dX12_product_97 rfl (lv_at hl 3 rfl) ?_
                refine g_X12_88 Cx hW (k := 231) (by decide) rfl (v := .ref (G.2.2.1 + 257)) (rd_41 iu_29) dX12_product_98 ?_
                refine lv_iload_n hx hb dX12_product_101 rfl (lv_at hl 4 rfl) ?_
                refine rLald Cx hW (k := 257) (by decide) rfl (by decide) (by omega) (by omega) dX12_product_102 ?_
                have q_42 : -9223372036854775808 ≤ u_29.2.2.1 257 ix ∧ u_29.2.2.1 257 ix ≤ 9223372036854775807 := iu_29.li 257 ix
                refine r_j (b := u_29.2.2.1 257 ix) rfl ?_
                refine lv_lstore (lv' := [(5, .long (jv (u_29.2.2.1 257 ix))), (4, .int (iv r_39)), (3, .int (iv (S12.1 231 24))), (2, .int (iv ((ix + 12) + 1))), (0, .ref (G.2.2.1 + 231)), (1, .int (iv ix))]) hx hb dX12_product_103 hl (by decide) rfl (fun ls hl => ?_)
                obtain ⟨byv, hbyv⟩ : ∃ z : Int, z = u_29.2.2.1 257 ix := ⟨_, rfl⟩
                have hbb : -99999 ≤ u_29.2.2.1 257 ix ∧ u_29.2.2.1 257 ix ≤ 99999 := (by have z := (bV.eq wP) 0 (by decide) (by decide); have z : -99999 ≤ u_29.2.2.1 257 (ix + 0) ∧ u_29.2.2.1 257 (ix + 0) ≤ 99999 := z; rw [show ix + 0 = ix by omega] at z; exact z)
                refine lv_iconst (v := iv 0) hx hb dX12_product_105 (by decide) ?_
                refine lv_istore (lv' := [(7, .int (iv 0)), (5, .long (jv (u_29.2.2.1 257 ix))), (4, .int (iv r_39)), (3, .int (iv (S12.1 231 24))), (2, .int (iv ((ix + 12) + 1))), (0, .ref (G.2.2.1 + 231)), (1, .int (iv ix))]) hx hb dX12_product_106 hl (by decide) rfl (fun ls hl => ?_)
                have loop_108 : ∀ (fuel : Nat) (S108 : sS) (kk : Int) (H : Heap) (locs : List Loc) (ls : Array Slot), (13 - kk).toNat < fuel → (dX G S108) → (Fr S S108 (pl [231, 248, 249, 250, 251, 252, 257, 258])) → (Fr u_4 S108 (pl [231, 248, 249, 250, 251, 252, 257, 258])) → (Fr u_29 S108 (pl [257])) → (FF S S108 (fl [20, 21, 24, 25, 42, 43])) → (FF u_4 S108 (fl [20, 21, 24, 25, 42, 43])) → (FF u_29 S108 (fl [])) → (0 ≤ kk ∧ kk ≤ 13) → (Hd (∀ j, (j < ix ∨ ix + 13 ≤ j) → S108.2.2.1 257 j = u_29.2.2.1 257 j)) → (Hd (∀ t, 0 ≤ t → t < 13 → S108.2.2.1 257 (ix + t) = if t < kk then (u_29.2.2.1 257 ix) * u_29.2.2.1 257 (ix + 13 + t) else u_29.2.2.1 257 (ix + t))) → sW G 294 S108 H → sL G locs → lv_has ls 8 [(7, .int (iv kk)), (5, .long (jv (u_29.2.2.1 257 ix))), (4, .int (iv r_39)), (3, .int (iv (S12.1 231 24))), (2, .int (iv ((ix + 12) + 1))), (0, .ref (G.2.2.1 + 231)), (1, .int (iv ix))] → W p l e (rmk D 0 0) s m args below meth c H locs 0 0 (MQ below (sQv G 294 (fun u => dX G u ∧ Fr S u (pl [231, 248, 249, 250, 251, 252, 257, 258]) ∧ FF S u (fl [20, 21, 24, 25, 42, 43]) ∧ (EOr S u N k v q (eP T k (eF T k v n N) (S.1 231 42) pz) ix ∧ (0 ≤ u.1 231 24 ∧ u.1 231 24 ≤ q)))) args s 0 0 (sF G)) (F0 m 108 ls []) := by
                  intro fuel
                  induction fuel with
                  | zero => intro S108 kk H locs ls hmeas hI108 hFm108 hFL12108 hL108_ hGm108 hGL12108 gL108_ hk hl2 hrow hW hL hl; exact absurd hmeas (Nat.not_lt_zero _)
                  | succ fuel ih_108 =>
                    intro S108 kk H locs ls hmeas hI108 hFm108 hFL12108 hL108_ hGm108 hGL12108 gL108_ hk hl2 hrow hW hL hl
                    refine lv_iload hx hb dX12_product_108 (lv_at hl 0 rfl) ?_
                    refine lv_bipush (v := iv 12) hx hb dX12_product_110 (by decide) ?_
                    refine r_icmp_gt (tgt := 159) hx hb ⟨(by omega), (by omega)⟩ ⟨(by omega), (by omega)⟩ dX12_product_112 (by decide) (fun c_43 => ?_) (fun c_43 => ?_)
                    · have wS : veq (fvr S108 ix) (vml Va Vb) := (vml_n hf1 (fun j a b => by show S108.2.2.1 257 (ix + j) = _; rw [hrow j a b, if_pos (by omega), show u_29.2.2.1 257 ix = Va 0 from (by have z := wP 0 (by decide) (by decide); have z : u_29.2.2.1 257 (ix + 0) = Va 0 := z; rw [show ix + 0 = ix by omega] at z; exact z)]; exact congrArg (Va 0 * ·) (w1 j a b)))
                      refine lv_aload_n hx hb dX12_product_159 rfl (lv_at hl 5 rfl) ?_
                      refine lv_iload_n hx hb dX12_product_160 rfl (lv_at hl 6 rfl) ?_
                      refine sBi (sV (As := [.int (iv ix)]) (rest := []) (k := 231) Cx (e_X12_isGreat l G S108 (ix := ix) hI108 (by omega)) (c_X12_416 Cx rfl rfl (rmk_ok (by omega) (by decide))) hW (by decide) rfl rfl rfl hl.1 rfl (Nat.le_of_ble_eq_true rfl) dX12_product_161 ⟨Nat.le_of_ble_eq_true rfl, Nat.le_of_ble_eq_true rfl⟩) hL (fun r_46 u_44 H locs k_45 hW hL => ?_)
                      obtain ⟨eu_44, xu_44⟩ := k_45
                      rw [eu_44] at hW
                      refine r_if_eq (tgt := 174) hx hb ⟨(by omega), (by omega)⟩ dX12_product_164 (by decide) (fun c_47 => ?_) (fun c_47 => ?_)
                      · have ngr : Hd (¬ grt (vml Va Vb)) := (fun z => xu_44.2.2 (by omega) ((veq_grt wS).mpr z))
                        refine lv_goto (tgt := 12) hx hb dX12_product_174 (by decide) ?_
                        have lk_48 : S108.1 231 20 = u_29.1 231 20 := gL108_ 20 rfl
                        have q_49 : (-2147483648) ≤ u_29.1 231 24 ∧ u_29.1 231 24 ≤ 2147483647 := iu_29.fi 24
                        have lk_50 : S108.1 231 24 = u_29.1 231 24 := gL108_ 24 rfl
                        have q_51 : (-2147483648) ≤ u_29.1 231 42 ∧ u_29.1 231 42 ≤ 2147483647 := iu_29.fi 42
                        have lk_52 : S108.1 231 42 = u_29.1 231 42 := gL108_ 42 rfl
                        have nr_53 : NRr N k v S108 := n1.of (gL108_ 25 rfl) (funext fun j => (hL108_ 248 rfl).2.1 j) (funext fun j => (hL108_ 249 rfl).2.1 j) (funext fun j => (hL108_ 250 rfl).2.1 j) (funext fun j => (hL108_ 251 rfl).2.1 j) (funext fun j => (hL108_ 252 rfl).2.1 j) (funext fun j => (hL108_ 253 rfl).2.1 j)
                        exact ih_12 S108  _ _ _ (by rw [if_pos (show S12.1 231 20 = 0 by omega)] at hm12; split <;> omega) hI108 hFm108 hFL12108 hGm108 hGL12108 (fun j a => (rfl).trans ((hl2 j (.inl a)).trans ((xu_29.1 j (by omega)).trans (hlo j a)))) (fun _ => ⟨vml Va Vb, (by rw [eG, eL_so (st := (fun p => k p = 23)) hsT hRi hst e1 (oMul_s hnl ngr), show S108.1 231 24 = q2 by have z := (show S108.1 231 24 = u_29.1 231 24 from gL108_ 24 rfl); omega, show S108.1 231 42 = u_29.1 231 42 from (show S108.1 231 42 = u_29.1 231 42 from gL108_ 42 rfl)]), wS, vb9_n ngr, nr_53, (by rw [show S108.1 231 24 = q2 by have z := (show S108.1 231 24 = u_29.1 231 24 from gL108_ 24 rfl); omega]; exact hw2), (by rw [show S108.1 231 42 = u_29.1 231 42 from (show S108.1 231 42 = u_29.1 231 42 from gL108_ 42 rfl)]; exact l1), (by rw [show S108.1 231 24 = q2 by have z := (show S108.1 231 24 = u_29.1 231 24 from gL108_ 24 rfl); omega]; omega)⟩) (fun h => absurd (show S108.1 231 20 = 0 by have e9 := (show S108.1 231 20 = u_29.1 231 20 from gL108_ 20 rfl); omega) h) (by omega) hW hL (lv_sub hl [4, 5, 6] rfl)
                      · refine lv_aload_n hx hb dX12_product_167 rfl (lv_at hl 5 rfl) ?_
                        refine lv_bipush (v := iv 6) hx hb dX12_product_168 (by decide) ?_
                        refine lv_iload_n hx hb dX12_product_170 rfl (lv_at hl 3 rfl) ?_
                        refine sBv (sV (As := [.int (iv 6), .int (iv (S12.1 231 24))]) (rest := []) (k := 231) Cx (s_X12_wrong l G S108 (cd := 6) (tk := S12.1 231 24) hI108 (by omega) (by omega)) (c_X12_321 Cx rfl rfl (rmk_ok (by omega) (by decide))) hW (by decide) rfl rfl rfl hl.1 rfl (Nat.le_of_ble_eq_true rfl) dX12_product_171 ⟨Nat.le_of_ble_eq_true rfl, Nat.le_of_ble_eq_true rfl⟩) hL (fun u_54 H locs k_55 hW hL => ?_)
                        obtain ⟨iu_54, fu_54, gu_54, xu_54⟩ := k_55
                        have F_56 := hFm108.trans (fu_54.to (pl_sub (by decide)))
                        have F_57 := hFL12108.trans (fu_54.to (pl_sub (by decide)))
                        have g_58 : FF S u_54 (fl [20, 21, 24, 25, 42, 43]) := FF.trans hGm108 (FF.to gu_54 (fl_sub (by decide)))
                        have g_59 : FF u_4 u_54 (fl [20, 21, 24, 25, 42, 43]) := FF.trans hGL12108 (FF.to gu_54 (fl_sub (by decide)))
                        refine lv_goto (tgt := 12) hx hb dX12_product_174 (by decide) ?_
                        have q_61 : (-2147483648) ≤ u_54.1 231 20 ∧ u_54.1 231 20 ≤ 2147483647 := iu_54.fi 20
                        have q_62 : (-2147483648) ≤ u_29.1 231 24 ∧ u_29.1 231 24 ≤ 2147483647 := iu_29.fi 24
                        have lk_63 : u_54.1 231 24 = u_29.1 231 24 := (gu_54 24 rfl).trans (gL108_ 24 rfl)
                        have q_64 : (-2147483648) ≤ u_29.1 231 42 ∧ u_29.1 231 42 ≤ 2147483647 := iu_29.fi 42
                        have lk_65 : u_54.1 231 42 = u_29.1 231 42 := (gu_54 42 rfl).trans (gL108_ 42 rfl)
                        exact ih_12 u_54  _ _ _ (by rw [if_pos (show S12.1 231 20 = 0 by omega)] at hm12; split <;> omega) iu_54 F_56 F_57 g_58 g_59 (fun j a => ((fu_54 257 rfl).2.2.1 j).trans ((hl2 j (.inl a)).trans ((xu_29.1 j (by omega)).trans (hlo j a)))) (fun h => absurd h (by have e9 := (show u_54.1 231 20 = u_54.1 231 20 from rfl); have a9 := xu_54; omega)) (fun _ => by rw [eG]; exact eL_f2 (st := (fun p => k p = 23)) hst e1 (oMul_g hnl ((veq_grt wS).mp (xu_44.2.1 (by omega))))) (by omega) hW hL (lv_sub hl [4, 5, 6] rfl)
                    · refine lv_aload_n hx hb dX12_product_115 rfl (lv_at hl 5 rfl) ?_
                      refine g_X12_88 Cx hW (k := 231) (by decide) rfl (v := .ref (G.2.2.1 + 257)) (rd_41 hI108) dX12_product_116 ?_
                      refine lv_iload_n hx hb dX12_product_119 rfl (lv_at hl 6 rfl) ?_
                      refine lv_iload hx hb dX12_product_120 (lv_at hl 0 rfl) ?_
                      refine r_iadd hx hb dX12_product_122 ?_
                      refine lv_lload hx hb dX12_product_123 (lv_at hl 1 rfl) ?_
                      refine lv_iload hx hb dX12_product_125 (lv_at hl 2 rfl) ?_
                      refine r_if_eq (tgt := 142) hx hb ⟨(by omega), (by omega)⟩ dX12_product_127 (by decide) (fun c_66 => ?_) (fun c_66 => ?_)
                      · refine lv_aload_n hx hb dX12_product_142 rfl (lv_at hl 5 rfl) ?_
                        refine g_X12_88 Cx hW (k := 231) (by decide) rfl (v := .ref (G.2.2.1 + 257)) (rd_41 hI108) dX12_product_143 ?_
                        refine lv_iload_n hx hb dX12_product_146 rfl (lv_at hl 4 rfl) ?_
                        refine lv_iload hx hb dX12_product_147 (lv_at hl 0 rfl) ?_
                        refine r_iadd hx hb dX12_product_149 ?_
                        refine rLald Cx hW (k := 257) (by decide) rfl (by decide) (by omega) (by omega) dX12_product_150 ?_
                        have q_67 : -9223372036854775808 ≤ S108.2.2.1 257 (((ix + 12) + 1) + kk) ∧ S108.2.2.1 257 (((ix + 12) + 1) + kk) ≤ 9223372036854775807 := hI108.li 257 (((ix + 12) + 1) + kk)
                        refine r_j (b := S108.2.2.1 257 (((ix + 12) + 1) + kk)) rfl ?_
                        have xr : S108.2.2.1 257 (((ix + 12) + 1) + kk) = u_29.2.2.1 257 (ix + 13 + kk) := (by rw [← hl2 (ix + 13 + kk) (by omega)]; exact congrArg _ (by omega))
                        have xb : -99999 ≤ S108.2.2.1 257 (((ix + 12) + 1) + kk) ∧ S108.2.2.1 257 (((ix + 12) + 1) + kk) ≤ 99999 := (by rw [xr]; exact (b1.eq w1) kk (by omega) (by omega))
                        have mb := mulb hbb xb
                        refine r_lmul hx hb dX12_product_151 ?_
                        obtain ⟨pr, epr⟩ : ∃ z : Int, z = (u_29.2.2.1 257 ix) * (S108.2.2.1 257 (((ix + 12) + 1) + kk)) := ⟨_, rfl⟩
                        refine r_j (b := pr) epr.symm ?_
                        refine rLast Cx hW hL (k := 257) (by decide) rfl (by decide) (by omega) (by omega) dX12_product_152 (fun H locs hW hL => ?_)
                        have F_68 : Fr S (uL S108 257 (ix + kk) pr) (pl [231, 248, 249, 250, 251, 252, 257, 258]) := hFm108.L rfl
                        have F_69 : Fr u_4 (uL S108 257 (ix + kk) pr) (pl [231, 248, 249, 250, 251, 252, 257, 258]) := hFL12108.L rfl
                        have F_70 : Fr u_29 (uL S108 257 (ix + kk) pr) (pl [257]) := hL108_.L rfl
                        have i_71 : dX G (uL S108 257 (ix + kk) pr) := hI108.L ⟨by omega, by omega⟩
                        refine lv_iinc (v := iv (kk + 1)) (lv' := [(7, .int (iv (kk + 1))), (5, .long (jv (u_29.2.2.1 257 ix))), (4, .int (iv r_39)), (3, .int (iv (S12.1 231 24))), (2, .int (iv ((ix + 12) + 1))), (0, .ref (G.2.2.1 + 231)), (1, .int (iv ix))]) hx hb dX12_product_153 hl (k := 0) rfl ((Int32.ofInt_add _ _).symm) (by decide) rfl (fun ls hl => ?_)
                        refine lv_goto (tgt := 108) hx hb dX12_product_156 (by decide) ?_
                        exact ih_108 (uL S108 257 (ix + kk) pr) (kk + 1) _ _ _ (by omega) i_71 F_68 F_69 F_70 hGm108 hGL12108 gL108_ (by omega) (fun j a => (uL_ne (fun h => by have h2 := h.2; omega)).trans (hl2 j a)) (fun t a b => by by_cases z : t = kk; (rw [z, uL_on, if_pos (by omega), epr, xr]); (rw [uL_ne (fun h => z (by have h2 := h.2; omega)), hrow t a b]; by_cases y : t < kk; (rw [if_pos y, if_pos (by omega)]); (rw [if_neg y, if_neg (by omega)]))) hW hL (lv_sub hl [0, 1, 2, 3, 4, 5, 6] rfl)
                      · exfalso; omega
                exact loop_108 (_ + 1) u_29 0 _ _ _ (Nat.lt_succ_self _) iu_29 F_31 F_32 Fr.rf g_33 g_34 FF.rf (by omega) (fun j a => rfl) (fun t a b => (if_neg (by omega)).symm) hW hL (lv_sub hl [0, 1, 2, 3, 4, 5, 6] rfl)
              · have hnl : Hd (¬ (hsv Va ∧ hsv Vb)) := (fun z => xu_37.2.2 (by omega) ((veq_hsv wP).mpr z.1))
                have hf1 : Hd (¬ hsv Vb) := (fun z => hnl ⟨(veq_hsv wP).mp (xu_37.2.1 (by omega)), z⟩)
                refine lv_aload_n hx hb dX12_product_88 rfl (lv_at hl 3 rfl) ?_
                refine g_X12_88 Cx hW (k := 231) (by decide) rfl (v := .ref (G.2.2.1 + 257)) (rd_41 iu_29) dX12_product_89 ?_
                refine lv_iload_n hx hb dX12_product_92 rfl (lv_at hl 2 rfl) ?_
                refine rLald Cx hW (k := 257) (by decide) rfl (by decide) (by omega) (by omega) dX12_product_93 ?_
                have q_72 : -9223372036854775808 ≤ u_29.2.2.1 257 ((ix + 12) + 1) ∧ u_29.2.2.1 257 ((ix + 12) + 1) ≤ 9223372036854775807 := iu_29.li 257 ((ix + 12) + 1)
                refine r_j (b := u_29.2.2.1 257 ((ix + 12) + 1)) rfl ?_
                refine lv_goto (tgt := 103) hx hb dX12_product_94 (by decide) ?_
                refine lv_lstore (lv' := [(5, .long (jv (u_29.2.2.1 257 ((ix + 12) + 1)))), (4, .int (iv r_39)), (3, .int (iv (S12.1 231 24))), (2, .int (iv ((ix + 12) + 1))), (0, .ref (G.2.2.1 + 231)), (1, .int (iv ix))]) hx hb dX12_product_103 hl (by decide) rfl (fun ls hl => ?_)
                obtain ⟨byv, hbyv⟩ : ∃ z : Int, z = u_29.2.2.1 257 ((ix + 12) + 1) := ⟨_, rfl⟩
                have hbb : -99999 ≤ u_29.2.2.1 257 ((ix + 12) + 1) ∧ u_29.2.2.1 257 ((ix + 12) + 1) ≤ 99999 := (by have z := (b1.eq w1) 0 (by decide) (by decide); have z : -99999 ≤ u_29.2.2.1 257 (ix + 13 + 0) ∧ u_29.2.2.1 257 (ix + 13 + 0) ≤ 99999 := z; rw [show ix + 13 + 0 = ix + 12 + 1 by omega] at z; exact z)
                refine lv_iconst (v := iv 0) hx hb dX12_product_105 (by decide) ?_
                refine lv_istore (lv' := [(7, .int (iv 0)), (5, .long (jv (u_29.2.2.1 257 ((ix + 12) + 1)))), (4, .int (iv r_39)), (3, .int (iv (S12.1 231 24))), (2, .int (iv ((ix + 12) + 1))), (0, .ref (G.2.2.1 + 231)), (1, .int (iv ix))]) hx hb dX12_product_106 hl (by decide) rfl (fun ls hl => ?_)
                have loop_108 : ∀ (fuel : Nat) (S108 : sS) (kk : Int) (H : Heap) (locs : List Loc) (ls : Array Slot), (13 - kk).toNat < fuel → (dX G S108) → (Fr S S108 (pl [231, 248, 249, 250, 251, 252, 257, 258])) → (Fr u_4 S108 (pl [231, 248, 249, 250, 251, 252, 257, 258])) → (Fr u_29 S108 (pl [257])) → (FF S S108 (fl [20, 21, 24, 25, 42, 43])) → (FF u_4 S108 (fl [20, 21, 24, 25, 42, 43])) → (FF u_29 S108 (fl [])) → (0 ≤ kk ∧ kk ≤ 13) → (Hd (∀ j, (j < ix ∨ ix + 13 ≤ j) → S108.2.2.1 257 j = u_29.2.2.1 257 j)) → (Hd (∀ t, 0 ≤ t → t < 13 → S108.2.2.1 257 (ix + t) = if t < kk then (u_29.2.2.1 257 ((ix + 12) + 1)) * u_29.2.2.1 257 (ix + t) else u_29.2.2.1 257 (ix + t))) → sW G 294 S108 H → sL G locs → lv_has ls 8 [(7, .int (iv kk)), (5, .long (jv (u_29.2.2.1 257 ((ix + 12) + 1)))), (4, .int (iv r_39)), (3, .int (iv (S12.1 231 24))), (2, .int (iv ((ix + 12) + 1))), (0, .ref (G.2.2.1 + 231)), (1, .int (iv ix))] → W p l e (rmk D 0 0) s m args below meth c H locs 0 0 (MQ below (sQv G 294 (fun u => dX G u ∧ Fr S u (pl [231, 248, 249, 250, 251, 252, 257, 258]) ∧ FF S u (fl [20, 21, 24, 25, 42, 43]) ∧ (EOr S u N k v q (eP T k (eF T k v n N) (S.1 231 42) pz) ix ∧ (0 ≤ u.1 231 24 ∧ u.1 231 24 ≤ q)))) args s 0 0 (sF G)) (F0 m 108 ls []) := by
                  intro fuel
                  induction fuel with
                  | zero => intro S108 kk H locs ls hmeas hI108 hFm108 hFL12108 hL108_ hGm108 hGL12108 gL108_ hk hl2 hrow hW hL hl; exact absurd hmeas (Nat.not_lt_zero _)
                  | succ fuel ih_108 =>
                    intro S108 kk H locs ls hmeas hI108 hFm108 hFL12108 hL108_ hGm108 hGL12108 gL108_ hk hl2 hrow hW hL hl
                    refine lv_iload hx hb dX12_product_108 (lv_at hl 0 rfl) ?_
                    refine lv_bipush (v := iv 12) hx hb dX12_product_110 (by decide) ?_
                    refine r_icmp_gt (tgt := 159) hx hb ⟨(by omega), (by omega)⟩ ⟨(by omega), (by omega)⟩ dX12_product_112 (by decide) (fun c_73 => ?_) (fun c_73 => ?_)
                    · have wS : veq (fvr S108 ix) (vml Va Vb) := (vml_f hf1 (fun j a b => by show S108.2.2.1 257 (ix + j) = _; rw [hrow j a b, if_pos (by omega), show u_29.2.2.1 257 ((ix + 12) + 1) = Vb 0 from (by have z := w1 0 (by decide) (by decide); have z : u_29.2.2.1 257 (ix + 13 + 0) = Vb 0 := z; rw [show ix + 13 + 0 = ix + 12 + 1 by omega] at z; exact z)]; exact congrArg (Vb 0 * ·) (wP j a b)))
                      refine lv_aload_n hx hb dX12_product_159 rfl (lv_at hl 5 rfl) ?_
                      refine lv_iload_n hx hb dX12_product_160 rfl (lv_at hl 6 rfl) ?_
                      refine sBi (sV (As := [.int (iv ix)]) (rest := []) (k := 231) Cx (e_X12_isGreat l G S108 (ix := ix) hI108 (by omega)) (c_X12_416 Cx rfl rfl (rmk_ok (by omega) (by decide))) hW (by decide) rfl rfl rfl hl.1 rfl (Nat.le_of_ble_eq_true rfl) dX12_product_161 ⟨Nat.le_of_ble_eq_true rfl, Nat.le_of_ble_eq_true rfl⟩) hL (fun r_76 u_74 H locs k_75 hW hL => ?_)
                      obtain ⟨eu_74, xu_74⟩ := k_75
                      rw [eu_74] at hW
                      refine r_if_eq (tgt := 174) hx hb ⟨(by omega), (by omega)⟩ dX12_product_164 (by decide) (fun c_77 => ?_) (fun c_77 => ?_)
                      · have ngr : Hd (¬ grt (vml Va Vb)) := (fun z => xu_74.2.2 (by omega) ((veq_grt wS).mpr z))
                        refine lv_goto (tgt := 12) hx hb dX12_product_174 (by decide) ?_
                        have lk_78 : S108.1 231 20 = u_29.1 231 20 := gL108_ 20 rfl
                        have q_79 : (-2147483648) ≤ u_29.1 231 24 ∧ u_29.1 231 24 ≤ 2147483647 := iu_29.fi 24
                        have lk_80 : S108.1 231 24 = u_29.1 231 24 := gL108_ 24 rfl
                        have q_81 : (-2147483648) ≤ u_29.1 231 42 ∧ u_29.1 231 42 ≤ 2147483647 := iu_29.fi 42
                        have lk_82 : S108.1 231 42 = u_29.1 231 42 := gL108_ 42 rfl
                        have nr_83 : NRr N k v S108 := n1.of (gL108_ 25 rfl) (funext fun j => (hL108_ 248 rfl).2.1 j) (funext fun j => (hL108_ 249 rfl).2.1 j) (funext fun j => (hL108_ 250 rfl).2.1 j) (funext fun j => (hL108_ 251 rfl).2.1 j) (funext fun j => (hL108_ 252 rfl).2.1 j) (funext fun j => (hL108_ 253 rfl).2.1 j)
                        exact ih_12 S108  _ _ _ (by rw [if_pos (show S12.1 231 20 = 0 by omega)] at hm12; split <;> omega) hI108 hFm108 hFL12108 hGm108 hGL12108 (fun j a => (rfl).trans ((hl2 j (.inl a)).trans ((xu_29.1 j (by omega)).trans (hlo j a)))) (fun _ => ⟨vml Va Vb, (by rw [eG, eL_so (st := (fun p => k p = 23)) hsT hRi hst e1 (oMul_s hnl ngr), show S108.1 231 24 = q2 by have z := (show S108.1 231 24 = u_29.1 231 24 from gL108_ 24 rfl); omega, show S108.1 231 42 = u_29.1 231 42 from (show S108.1 231 42 = u_29.1 231 42 from gL108_ 42 rfl)]), wS, vb9_n ngr, nr_83, (by rw [show S108.1 231 24 = q2 by have z := (show S108.1 231 24 = u_29.1 231 24 from gL108_ 24 rfl); omega]; exact hw2), (by rw [show S108.1 231 42 = u_29.1 231 42 from (show S108.1 231 42 = u_29.1 231 42 from gL108_ 42 rfl)]; exact l1), (by rw [show S108.1 231 24 = q2 by have z := (show S108.1 231 24 = u_29.1 231 24 from gL108_ 24 rfl); omega]; omega)⟩) (fun h => absurd (show S108.1 231 20 = 0 by have e9 := (show S108.1 231 20 = u_29.1 231 20 from gL108_ 20 rfl); omega) h) (by omega) hW hL (lv_sub hl [4, 5, 6] rfl)
                      · refine lv_aload_n hx hb dX12_product_167 rfl (lv_at hl 5 rfl) ?_
                        refine lv_bipush (v := iv 6) hx hb dX12_product_168 (by decide) ?_
                        refine lv_iload_n hx hb dX12_product_170 rfl (lv_at hl 3 rfl) ?_
                        refine sBv (sV (As := [.int (iv 6), .int (iv (S12.1 231 24))]) (rest := []) (k := 231) Cx (s_X12_wrong l G S108 (cd := 6) (tk := S12.1 231 24) hI108 (by omega) (by omega)) (c_X12_321 Cx rfl rfl (rmk_ok (by omega) (by decide))) hW (by decide) rfl rfl rfl hl.1 rfl (Nat.le_of_ble_eq_true rfl) dX12_product_171 ⟨Nat.le_of_ble_eq_true rfl, Nat.le_of_ble_eq_true rfl⟩) hL (fun u_84 H locs k_85 hW hL => ?_)
                        obtain ⟨iu_84, fu_84, gu_84, xu_84⟩ := k_85
                        have F_86 := hFm108.trans (fu_84.to (pl_sub (by decide)))
                        have F_87 := hFL12108.trans (fu_84.to (pl_sub (by decide)))
                        have g_88 : FF S u_84 (fl [20, 21, 24, 25, 42, 43]) := FF.trans hGm108 (FF.to gu_84 (fl_sub (by decide)))
                        have g_89 : FF u_4 u_84 (fl [20, 21, 24, 25, 42, 43]) := FF.trans hGL12108 (FF.to gu_84 (fl_sub (by decide)))
                        refine lv_goto (tgt := 12) hx hb dX12_product_174 (by decide) ?_
                        have q_91 : (-2147483648) ≤ u_84.1 231 20 ∧ u_84.1 231 20 ≤ 2147483647 := iu_84.fi 20
                        have q_92 : (-2147483648) ≤ u_29.1 231 24 ∧ u_29.1 231 24 ≤ 2147483647 := iu_29.fi 24
                        have lk_93 : u_84.1 231 24 = u_29.1 231 24 := (gu_84 24 rfl).trans (gL108_ 24 rfl)
                        have q_94 : (-2147483648) ≤ u_29.1 231 42 ∧ u_29.1 231 42 ≤ 2147483647 := iu_29.fi 42
                        have lk_95 : u_84.1 231 42 = u_29.1 231 42 := (gu_84 42 rfl).trans (gL108_ 42 rfl)
                        exact ih_12 u_84  _ _ _ (by rw [if_pos (show S12.1 231 20 = 0 by omega)] at hm12; split <;> omega) iu_84 F_86 F_87 g_88 g_89 (fun j a => ((fu_84 257 rfl).2.2.1 j).trans ((hl2 j (.inl a)).trans ((xu_29.1 j (by omega)).trans (hlo j a)))) (fun h => absurd h (by have e9 := (show u_84.1 231 20 = u_84.1 231 20 from rfl); have a9 := xu_84; omega)) (fun _ => by rw [eG]; exact eL_f2 (st := (fun p => k p = 23)) hst e1 (oMul_g hnl ((veq_grt wS).mp (xu_74.2.1 (by omega))))) (by omega) hW hL (lv_sub hl [4, 5, 6] rfl)
                    · refine lv_aload_n hx hb dX12_product_115 rfl (lv_at hl 5 rfl) ?_
                      refine g_X12_88 Cx hW (k := 231) (by decide) rfl (v := .ref (G.2.2.1 + 257)) (rd_41 hI108) dX12_product_116 ?_
                      refine lv_iload_n hx hb dX12_product_119 rfl (lv_at hl 6 rfl) ?_
                      refine lv_iload hx hb dX12_product_120 (lv_at hl 0 rfl) ?_
                      refine r_iadd hx hb dX12_product_122 ?_
                      refine lv_lload hx hb dX12_product_123 (lv_at hl 1 rfl) ?_
                      refine lv_iload hx hb dX12_product_125 (lv_at hl 2 rfl) ?_
                      refine r_if_eq (tgt := 142) hx hb ⟨(by omega), (by omega)⟩ dX12_product_127 (by decide) (fun c_96 => ?_) (fun c_96 => ?_)
                      · exfalso; omega
                      · refine lv_aload_n hx hb dX12_product_130 rfl (lv_at hl 5 rfl) ?_
                        refine g_X12_88 Cx hW (k := 231) (by decide) rfl (v := .ref (G.2.2.1 + 257)) (rd_41 hI108) dX12_product_131 ?_
                        refine lv_iload_n hx hb dX12_product_134 rfl (lv_at hl 6 rfl) ?_
                        refine lv_iload hx hb dX12_product_135 (lv_at hl 0 rfl) ?_
                        refine r_iadd hx hb dX12_product_137 ?_
                        refine rLald Cx hW (k := 257) (by decide) rfl (by decide) (by omega) (by omega) dX12_product_138 ?_
                        have q_97 : -9223372036854775808 ≤ S108.2.2.1 257 (ix + kk) ∧ S108.2.2.1 257 (ix + kk) ≤ 9223372036854775807 := hI108.li 257 (ix + kk)
                        refine r_j (b := S108.2.2.1 257 (ix + kk)) rfl ?_
                        refine lv_goto (tgt := 151) hx hb dX12_product_139 (by decide) ?_
                        have xr : S108.2.2.1 257 (ix + kk) = u_29.2.2.1 257 (ix + kk) := (by have z := hrow kk (by omega) (by omega); rw [if_neg (by omega)] at z; exact z)
                        have xb : -99999 ≤ S108.2.2.1 257 (ix + kk) ∧ S108.2.2.1 257 (ix + kk) ≤ 99999 := (by rw [xr]; exact (bV.eq wP) kk (by omega) (by omega))
                        have mb := mulb hbb xb
                        refine r_lmul hx hb dX12_product_151 ?_
                        obtain ⟨pr, epr⟩ : ∃ z : Int, z = (u_29.2.2.1 257 ((ix + 12) + 1)) * (S108.2.2.1 257 (ix + kk)) := ⟨_, rfl⟩
                        refine r_j (b := pr) epr.symm ?_
                        refine rLast Cx hW hL (k := 257) (by decide) rfl (by decide) (by omega) (by omega) dX12_product_152 (fun H locs hW hL => ?_)
                        have F_98 : Fr S (uL S108 257 (ix + kk) pr) (pl [231, 248, 249, 250, 251, 252, 257, 258]) := hFm108.L rfl
                        have F_99 : Fr u_4 (uL S108 257 (ix + kk) pr) (pl [231, 248, 249, 250, 251, 252, 257, 258]) := hFL12108.L rfl
                        have F_100 : Fr u_29 (uL S108 257 (ix + kk) pr) (pl [257]) := hL108_.L rfl
                        have i_101 : dX G (uL S108 257 (ix + kk) pr) := hI108.L ⟨by omega, by omega⟩
                        refine lv_iinc (v := iv (kk + 1)) (lv' := [(7, .int (iv (kk + 1))), (5, .long (jv (u_29.2.2.1 257 ((ix + 12) + 1)))), (4, .int (iv r_39)), (3, .int (iv (S12.1 231 24))), (2, .int (iv ((ix + 12) + 1))), (0, .ref (G.2.2.1 + 231)), (1, .int (iv ix))]) hx hb dX12_product_153 hl (k := 0) rfl ((Int32.ofInt_add _ _).symm) (by decide) rfl (fun ls hl => ?_)
                        refine lv_goto (tgt := 108) hx hb dX12_product_156 (by decide) ?_
                        exact ih_108 (uL S108 257 (ix + kk) pr) (kk + 1) _ _ _ (by omega) i_101 F_98 F_99 F_100 hGm108 hGL12108 gL108_ (by omega) (fun j a => (uL_ne (fun h => by have h2 := h.2; omega)).trans (hl2 j a)) (fun t a b => by by_cases z : t = kk; (rw [z, uL_on, if_pos (by omega), epr, xr]); (rw [uL_ne (fun h => z (by have h2 := h.2; omega)), hrow t a b]; by_cases y : t < kk; (rw [if_pos y, if_pos (by omega)]); (rw [if_neg y, if_neg (by omega)]))) hW hL (lv_sub hl [0, 1, 2, 3, 4, 5, 6] rfl)
                exact loop_108 (_ + 1) u_29 0 _ _ _ (Nat.lt_succ_self _) iu_29 F_31 F_32 Fr.rf g_33 g_34 FF.rf (by omega) (fun j a => rfl) (fun t a b => (if_neg (by omega)).symm) hW hL (lv_sub hl [0, 1, 2, 3, 4, 5, 6] rfl)
            · refine lv_aload_n hx hb dX12_product_68 rfl (lv_at hl 3 rfl) ?_
              refine lv_iload_n hx hb dX12_product_69 rfl (lv_at hl 2 rfl) ?_
              refine sBi (sV (As := [.int (iv ((ix + 12) + 1))]) (rest := []) (k := 231) Cx (e_X12_hasVariables l G u_29 (ix := (ix + 12) + 1) iu_29 (by omega)) (c_X12_428 Cx rfl rfl (rmk_ok (by omega) (by decide))) hW (by decide) rfl rfl rfl hl.1 rfl (Nat.le_of_ble_eq_true rfl) dX12_product_70 ⟨Nat.le_of_ble_eq_true rfl, Nat.le_of_ble_eq_true rfl⟩) hL (fun r_104 u_102 H locs k_103 hW hL => ?_)
              obtain ⟨eu_102, xu_102⟩ := k_103
              rw [eu_102] at hW
              refine r_if_eq (tgt := 83) hx hb ⟨(by omega), (by omega)⟩ dX12_product_73 (by decide) (fun c_105 => ?_) (fun c_105 => ?_)
              · refine lv_iload hx hb dX12_product_83 (lv_at hl 0 rfl) ?_
                refine r_if_eq (tgt := 97) hx hb ⟨(by omega), (by omega)⟩ dX12_product_85 (by decide) (fun c_106 => ?_) (fun c_106 => ?_)
                · have hf1 : Hd (¬ hsv Va) := (fun z => xu_37.2.2 (by omega) ((veq_hsv wP).mpr z))
                  have hnl : Hd (¬ (hsv Va ∧ hsv Vb)) := (fun z => hf1 z.1)
                  refine lv_aload_n hx hb dX12_product_97 rfl (lv_at hl 3 rfl) ?_
                  refine g_X12_88 Cx hW (k := 231) (by decide) rfl (v := .ref (G.2.2.1 + 257)) (rd_41 iu_29) dX12_product_98 ?_
                  refine lv_iload_n hx hb dX12_product_101 rfl (lv_at hl 4 rfl) ?_
                  refine rLald Cx hW (k := 257) (by decide) rfl (by decide) (by omega) (by omega) dX12_product_102 ?_
                  have q_107 : -9223372036854775808 ≤ u_29.2.2.1 257 ix ∧ u_29.2.2.1 257 ix ≤ 9223372036854775807 := iu_29.li 257 ix
                  refine r_j (b := u_29.2.2.1 257 ix) rfl ?_
                  refine lv_lstore (lv' := [(5, .long (jv (u_29.2.2.1 257 ix))), (4, .int (iv r_39)), (3, .int (iv (S12.1 231 24))), (2, .int (iv ((ix + 12) + 1))), (0, .ref (G.2.2.1 + 231)), (1, .int (iv ix))]) hx hb dX12_product_103 hl (by decide) rfl (fun ls hl => ?_)
                  obtain ⟨byv, hbyv⟩ : ∃ z : Int, z = u_29.2.2.1 257 ix := ⟨_, rfl⟩
                  have hbb : -99999 ≤ u_29.2.2.1 257 ix ∧ u_29.2.2.1 257 ix ≤ 99999 := (by have z := (bV.eq wP) 0 (by decide) (by decide); have z : -99999 ≤ u_29.2.2.1 257 (ix + 0) ∧ u_29.2.2.1 257 (ix + 0) ≤ 99999 := z; rw [show ix + 0 = ix by omega] at z; exact z)
                  refine lv_iconst (v := iv 0) hx hb dX12_product_105 (by decide) ?_
                  refine lv_istore (lv' := [(7, .int (iv 0)), (5, .long (jv (u_29.2.2.1 257 ix))), (4, .int (iv r_39)), (3, .int (iv (S12.1 231 24))), (2, .int (iv ((ix + 12) + 1))), (0, .ref (G.2.2.1 + 231)), (1, .int (iv ix))]) hx hb dX12_product_106 hl (by decide) rfl (fun ls hl => ?_)
                  have loop_108 : ∀ (fuel : Nat) (S108 : sS) (kk : Int) (H : Heap) (locs : List Loc) (ls : Array Slot), (13 - kk).toNat < fuel → (dX G S108) → (Fr S S108 (pl [231, 248, 249, 250, 251, 252, 257, 258])) → (Fr u_4 S108 (pl [231, 248, 249, 250, 251, 252, 257, 258])) → (Fr u_29 S108 (pl [257])) → (FF S S108 (fl [20, 21, 24, 25, 42, 43])) → (FF u_4 S108 (fl [20, 21, 24, 25, 42, 43])) → (FF u_29 S108 (fl [])) → (0 ≤ kk ∧ kk ≤ 13) → (Hd (∀ j, (j < ix ∨ ix + 13 ≤ j) → S108.2.2.1 257 j = u_29.2.2.1 257 j)) → (Hd (∀ t, 0 ≤ t → t < 13 → S108.2.2.1 257 (ix + t) = if t < kk then (u_29.2.2.1 257 ix) * u_29.2.2.1 257 (ix + 13 + t) else u_29.2.2.1 257 (ix + t))) → sW G 294 S108 H → sL G locs → lv_has ls 8 [(7, .int (iv kk)), (5, .long (jv (u_29.2.2.1 257 ix))), (4, .int (iv r_39)), (3, .int (iv (S12.1 231 24))), (2, .int (iv ((ix + 12) + 1))), (0, .ref (G.2.2.1 + 231)), (1, .int (iv ix))] → W p l e (rmk D 0 0) s m args below meth c H locs 0 0 (MQ below (sQv G 294 (fun u => dX G u ∧ Fr S u (pl [231, 248, 249, 250, 251, 252, 257, 258]) ∧ FF S u (fl [20, 21, 24, 25, 42, 43]) ∧ (EOr S u N k v q (eP T k (eF T k v n N) (S.1 231 42) pz) ix ∧ (0 ≤ u.1 231 24 ∧ u.1 231 24 ≤ q)))) args s 0 0 (sF G)) (F0 m 108 ls []) := by
                    intro fuel
                    induction fuel with
                    | zero => intro S108 kk H locs ls hmeas hI108 hFm108 hFL12108 hL108_ hGm108 hGL12108 gL108_ hk hl2 hrow hW hL hl; exact absurd hmeas (Nat.not_lt_zero _)
                    | succ fuel ih_108 =>
                      intro S108 kk H locs ls hmeas hI108 hFm108 hFL12108 hL108_ hGm108 hGL12108 gL108_ hk hl2 hrow hW hL hl
                      refine lv_iload hx hb dX12_product_108 (lv_at hl 0 rfl) ?_
                      refine lv_bipush (v := iv 12) hx hb dX12_product_110 (by decide) ?_
                      refine r_icmp_gt (tgt := 159) hx hb ⟨(by omega), (by omega)⟩ ⟨(by omega), (by omega)⟩ dX12_product_112 (by decide) (fun c_108 => ?_) (fun c_108 => ?_)
                      · have wS : veq (fvr S108 ix) (vml Va Vb) := (vml_n hf1 (fun j a b => by show S108.2.2.1 257 (ix + j) = _; rw [hrow j a b, if_pos (by omega), show u_29.2.2.1 257 ix = Va 0 from (by have z := wP 0 (by decide) (by decide); have z : u_29.2.2.1 257 (ix + 0) = Va 0 := z; rw [show ix + 0 = ix by omega] at z; exact z)]; exact congrArg (Va 0 * ·) (w1 j a b)))
                        refine lv_aload_n hx hb dX12_product_159 rfl (lv_at hl 5 rfl) ?_
                        refine lv_iload_n hx hb dX12_product_160 rfl (lv_at hl 6 rfl) ?_
                        refine sBi (sV (As := [.int (iv ix)]) (rest := []) (k := 231) Cx (e_X12_isGreat l G S108 (ix := ix) hI108 (by omega)) (c_X12_416 Cx rfl rfl (rmk_ok (by omega) (by decide))) hW (by decide) rfl rfl rfl hl.1 rfl (Nat.le_of_ble_eq_true rfl) dX12_product_161 ⟨Nat.le_of_ble_eq_true rfl, Nat.le_of_ble_eq_true rfl⟩) hL (fun r_111 u_109 H locs k_110 hW hL => ?_)
                        obtain ⟨eu_109, xu_109⟩ := k_110
                        rw [eu_109] at hW
                        refine r_if_eq (tgt := 174) hx hb ⟨(by omega), (by omega)⟩ dX12_product_164 (by decide) (fun c_112 => ?_) (fun c_112 => ?_)
                        · have ngr : Hd (¬ grt (vml Va Vb)) := (fun z => xu_109.2.2 (by omega) ((veq_grt wS).mpr z))
                          refine lv_goto (tgt := 12) hx hb dX12_product_174 (by decide) ?_
                          have lk_113 : S108.1 231 20 = u_29.1 231 20 := gL108_ 20 rfl
                          have q_114 : (-2147483648) ≤ u_29.1 231 24 ∧ u_29.1 231 24 ≤ 2147483647 := iu_29.fi 24
                          have lk_115 : S108.1 231 24 = u_29.1 231 24 := gL108_ 24 rfl
                          have q_116 : (-2147483648) ≤ u_29.1 231 42 ∧ u_29.1 231 42 ≤ 2147483647 := iu_29.fi 42
                          have lk_117 : S108.1 231 42 = u_29.1 231 42 := gL108_ 42 rfl
                          have nr_118 : NRr N k v S108 := n1.of (gL108_ 25 rfl) (funext fun j => (hL108_ 248 rfl).2.1 j) (funext fun j => (hL108_ 249 rfl).2.1 j) (funext fun j => (hL108_ 250 rfl).2.1 j) (funext fun j => (hL108_ 251 rfl).2.1 j) (funext fun j => (hL108_ 252 rfl).2.1 j) (funext fun j => (hL108_ 253 rfl).2.1 j)
                          exact ih_12 S108  _ _ _ (by rw [if_pos (show S12.1 231 20 = 0 by omega)] at hm12; split <;> omega) hI108 hFm108 hFL12108 hGm108 hGL12108 (fun j a => (rfl).trans ((hl2 j (.inl a)).trans ((xu_29.1 j (by omega)).trans (hlo j a)))) (fun _ => ⟨vml Va Vb, (by rw [eG, eL_so (st := (fun p => k p = 23)) hsT hRi hst e1 (oMul_s hnl ngr), show S108.1 231 24 = q2 by have z := (show S108.1 231 24 = u_29.1 231 24 from gL108_ 24 rfl); omega, show S108.1 231 42 = u_29.1 231 42 from (show S108.1 231 42 = u_29.1 231 42 from gL108_ 42 rfl)]), wS, vb9_n ngr, nr_118, (by rw [show S108.1 231 24 = q2 by have z := (show S108.1 231 24 = u_29.1 231 24 from gL108_ 24 rfl); omega]; exact hw2), (by rw [show S108.1 231 42 = u_29.1 231 42 from (show S108.1 231 42 = u_29.1 231 42 from gL108_ 42 rfl)]; exact l1), (by rw [show S108.1 231 24 = q2 by have z := (show S108.1 231 24 = u_29.1 231 24 from gL108_ 24 rfl); omega]; omega)⟩) (fun h => absurd (show S108.1 231 20 = 0 by have e9 := (show S108.1 231 20 = u_29.1 231 20 from gL108_ 20 rfl); omega) h) (by omega) hW hL (lv_sub hl [4, 5, 6] rfl)
                        · refine lv_aload_n hx hb dX12_product_167 rfl (lv_at hl 5 rfl) ?_
                          refine lv_bipush (v := iv 6) hx hb dX12_product_168 (by decide) ?_
                          refine lv_iload_n hx hb dX12_product_170 rfl (lv_at hl 3 rfl) ?_
                          refine sBv (sV (As := [.int (iv 6), .int (iv (S12.1 231 24))]) (rest := []) (k := 231) Cx (s_X12_wrong l G S108 (cd := 6) (tk := S12.1 231 24) hI108 (by omega) (by omega)) (c_X12_321 Cx rfl rfl (rmk_ok (by omega) (by decide))) hW (by decide) rfl rfl rfl hl.1 rfl (Nat.le_of_ble_eq_true rfl) dX12_product_171 ⟨Nat.le_of_ble_eq_true rfl, Nat.le_of_ble_eq_true rfl⟩) hL (fun u_119 H locs k_120 hW hL => ?_)
                          obtain ⟨iu_119, fu_119, gu_119, xu_119⟩ := k_120
                          have F_121 := hFm108.trans (fu_119.to (pl_sub (by decide)))
                          have F_122 := hFL12108.trans (fu_119.to (pl_sub (by decide)))
                          have g_123 : FF S u_119 (fl [20, 21, 24, 25, 42, 43]) := FF.trans hGm108 (FF.to gu_119 (fl_sub (by decide)))
                          have g_124 : FF u_4 u_119 (fl [20, 21, 24, 25, 42, 43]) := FF.trans hGL12108 (FF.to gu_119 (fl_sub (by decide)))
                          refine lv_goto (tgt := 12) hx hb dX12_product_174 (by decide) ?_
                          have q_126 : (-2147483648) ≤ u_119.1 231 20 ∧ u_119.1 231 20 ≤ 2147483647 := iu_119.fi 20
                          have q_127 : (-2147483648) ≤ u_29.1 231 24 ∧ u_29.1 231 24 ≤ 2147483647 := iu_29.fi 24
                          have lk_128 : u_119.1 231 24 = u_29.1 231 24 := (gu_119 24 rfl).trans (gL108_ 24 rfl)
                          have q_129 : (-2147483648) ≤ u_29.1 231 42 ∧ u_29.1 231 42 ≤ 2147483647 := iu_29.fi 42
                          have lk_130 : u_119.1 231 42 = u_29.1 231 42 := (gu_119 42 rfl).trans (gL108_ 42 rfl)
                          exact ih_12 u_119  _ _ _ (by rw [if_pos (show S12.1 231 20 = 0 by omega)] at hm12; split <;> omega) iu_119 F_121 F_122 g_123 g_124 (fun j a => ((fu_119 257 rfl).2.2.1 j).trans ((hl2 j (.inl a)).trans ((xu_29.1 j (by omega)).trans (hlo j a)))) (fun h => absurd h (by have e9 := (show u_119.1 231 20 = u_119.1 231 20 from rfl); have a9 := xu_119; omega)) (fun _ => by rw [eG]; exact eL_f2 (st := (fun p => k p = 23)) hst e1 (oMul_g hnl ((veq_grt wS).mp (xu_109.2.1 (by omega))))) (by omega) hW hL (lv_sub hl [4, 5, 6] rfl)
                      · refine lv_aload_n hx hb dX12_product_115 rfl (lv_at hl 5 rfl) ?_
                        refine g_X12_88 Cx hW (k := 231) (by decide) rfl (v := .ref (G.2.2.1 + 257)) (rd_41 hI108) dX12_product_116 ?_
                        refine lv_iload_n hx hb dX12_product_119 rfl (lv_at hl 6 rfl) ?_
                        refine lv_iload hx hb dX12_product_120 (lv_at hl 0 rfl) ?_
                        refine r_iadd hx hb dX12_product_122 ?_
                        refine lv_lload hx hb dX12_product_123 (lv_at hl 1 rfl) ?_
                        refine lv_iload hx hb dX12_product_125 (lv_at hl 2 rfl) ?_
                        refine r_if_eq (tgt := 142) hx hb ⟨(by omega), (by omega)⟩ dX12_product_127 (by decide) (fun c_131 => ?_) (fun c_131 => ?_)
                        · refine lv_aload_n hx hb dX12_product_142 rfl (lv_at hl 5 rfl) ?_
                          refine g_X12_88 Cx hW (k := 231) (by decide) rfl (v := .ref (G.2.2.1 + 257)) (rd_41 hI108) dX12_product_143 ?_
                          refine lv_iload_n hx hb dX12_product_146 rfl (lv_at hl 4 rfl) ?_
                          refine lv_iload hx hb dX12_product_147 (lv_at hl 0 rfl) ?_
                          refine r_iadd hx hb dX12_product_149 ?_
                          refine rLald Cx hW (k := 257) (by decide) rfl (by decide) (by omega) (by omega) dX12_product_150 ?_
                          have q_132 : -9223372036854775808 ≤ S108.2.2.1 257 (((ix + 12) + 1) + kk) ∧ S108.2.2.1 257 (((ix + 12) + 1) + kk) ≤ 9223372036854775807 := hI108.li 257 (((ix + 12) + 1) + kk)
                          refine r_j (b := S108.2.2.1 257 (((ix + 12) + 1) + kk)) rfl ?_
                          have xr : S108.2.2.1 257 (((ix + 12) + 1) + kk) = u_29.2.2.1 257 (ix + 13 + kk) := (by rw [← hl2 (ix + 13 + kk) (by omega)]; exact congrArg _ (by omega))
                          have xb : -99999 ≤ S108.2.2.1 257 (((ix + 12) + 1) + kk) ∧ S108.2.2.1 257 (((ix + 12) + 1) + kk) ≤ 99999 := (by rw [xr]; exact (b1.eq w1) kk (by omega) (by omega))
                          have mb := mulb hbb xb
                          refine r_lmul hx hb dX12_product_151 ?_
                          obtain ⟨pr, epr⟩ : ∃ z : Int, z = (u_29.2.2.1 257 ix) * (S108.2.2.1 257 (((ix + 12) + 1) + kk)) := ⟨_, rfl⟩
                          refine r_j (b := pr) epr.symm ?_
                          refine rLast Cx hW hL (k := 257) (by decide) rfl (by decide) (by omega) (by omega) dX12_product_152 (fun H locs hW hL => ?_)
                          have F_133 : Fr S (uL S108 257 (ix + kk) pr) (pl [231, 248, 249, 250, 251, 252, 257, 258]) := hFm108.L rfl
                          have F_134 : Fr u_4 (uL S108 257 (ix + kk) pr) (pl [231, 248, 249, 250, 251, 252, 257, 258]) := hFL12108.L rfl
                          have F_135 : Fr u_29 (uL S108 257 (ix + kk) pr) (pl [257]) := hL108_.L rfl
                          have i_136 : dX G (uL S108 257 (ix + kk) pr) := hI108.L ⟨by omega, by omega⟩
                          refine lv_iinc (v := iv (kk + 1)) (lv' := [(7, .int (iv (kk + 1))), (5, .long (jv (u_29.2.2.1 257 ix))), (4, .int (iv r_39)), (3, .int (iv (S12.1 231 24))), (2, .int (iv ((ix + 12) + 1))), (0, .ref (G.2.2.1 + 231)), (1, .int (iv ix))]) hx hb dX12_product_153 hl (k := 0) rfl ((Int32.ofInt_add _ _).symm) (by decide) rfl (fun ls hl => ?_)
                          refine lv_goto (tgt := 108) hx hb dX12_product_156 (by decide) ?_
                          exact ih_108 (uL S108 257 (ix + kk) pr) (kk + 1) _ _ _ (by omega) i_136 F_133 F_134 F_135 hGm108 hGL12108 gL108_ (by omega) (fun j a => (uL_ne (fun h => by have h2 := h.2; omega)).trans (hl2 j a)) (fun t a b => by by_cases z : t = kk; (rw [z, uL_on, if_pos (by omega), epr, xr]); (rw [uL_ne (fun h => z (by have h2 := h.2; omega)), hrow t a b]; by_cases y : t < kk; (rw [if_pos y, if_pos (by omega)]); (rw [if_neg y, if_neg (by omega)]))) hW hL (lv_sub hl [0, 1, 2, 3, 4, 5, 6] rfl)
                        · exfalso; omega
                  exact loop_108 (_ + 1) u_29 0 _ _ _ (Nat.lt_succ_self _) iu_29 F_31 F_32 Fr.rf g_33 g_34 FF.rf (by omega) (fun j a => rfl) (fun t a b => (if_neg (by omega)).symm) hW hL (lv_sub hl [0, 1, 2, 3, 4, 5, 6] rfl)
                · have hnl : Hd (¬ (hsv Va ∧ hsv Vb)) := (fun z => xu_102.2.2 (by omega) ((veq_hsv (by have y := w1; rw [show ix + 13 = ix + 12 + 1 by omega] at y; exact y)).mpr z.2))
                  have hf1 : Hd (¬ hsv Vb) := (fun z => hnl ⟨(veq_hsv wP).mp (xu_37.2.1 (by omega)), z⟩)
                  refine lv_aload_n hx hb dX12_product_88 rfl (lv_at hl 3 rfl) ?_
                  refine g_X12_88 Cx hW (k := 231) (by decide) rfl (v := .ref (G.2.2.1 + 257)) (rd_41 iu_29) dX12_product_89 ?_
                  refine lv_iload_n hx hb dX12_product_92 rfl (lv_at hl 2 rfl) ?_
                  refine rLald Cx hW (k := 257) (by decide) rfl (by decide) (by omega) (by omega) dX12_product_93 ?_
                  have q_137 : -9223372036854775808 ≤ u_29.2.2.1 257 ((ix + 12) + 1) ∧ u_29.2.2.1 257 ((ix + 12) + 1) ≤ 9223372036854775807 := iu_29.li 257 ((ix + 12) + 1)
                  refine r_j (b := u_29.2.2.1 257 ((ix + 12) + 1)) rfl ?_
                  refine lv_goto (tgt := 103) hx hb dX12_product_94 (by decide) ?_
                  refine lv_lstore (lv' := [(5, .long (jv (u_29.2.2.1 257 ((ix + 12) + 1)))), (4, .int (iv r_39)), (3, .int (iv (S12.1 231 24))), (2, .int (iv ((ix + 12) + 1))), (0, .ref (G.2.2.1 + 231)), (1, .int (iv ix))]) hx hb dX12_product_103 hl (by decide) rfl (fun ls hl => ?_)
                  obtain ⟨byv, hbyv⟩ : ∃ z : Int, z = u_29.2.2.1 257 ((ix + 12) + 1) := ⟨_, rfl⟩
                  have hbb : -99999 ≤ u_29.2.2.1 257 ((ix + 12) + 1) ∧ u_29.2.2.1 257 ((ix + 12) + 1) ≤ 99999 := (by have z := (b1.eq w1) 0 (by decide) (by decide); have z : -99999 ≤ u_29.2.2.1 257 (ix + 13 + 0) ∧ u_29.2.2.1 257 (ix + 13 + 0) ≤ 99999 := z; rw [show ix + 13 + 0 = ix + 12 + 1 by omega] at z; exact z)
                  refine lv_iconst (v := iv 0) hx hb dX12_product_105 (by decide) ?_
                  refine lv_istore (lv' := [(7, .int (iv 0)), (5, .long (jv (u_29.2.2.1 257 ((ix + 12) + 1)))), (4, .int (iv r_39)), (3, .int (iv (S12.1 231 24))), (2, .int (iv ((ix + 12) + 1))), (0, .ref (G.2.2.1 + 231)), (1, .int (iv ix))]) hx hb dX12_product_106 hl (by decide) rfl (fun ls hl => ?_)
                  have loop_108 : ∀ (fuel : Nat) (S108 : sS) (kk : Int) (H : Heap) (locs : List Loc) (ls : Array Slot), (13 - kk).toNat < fuel → (dX G S108) → (Fr S S108 (pl [231, 248, 249, 250, 251, 252, 257, 258])) → (Fr u_4 S108 (pl [231, 248, 249, 250, 251, 252, 257, 258])) → (Fr u_29 S108 (pl [257])) → (FF S S108 (fl [20, 21, 24, 25, 42, 43])) → (FF u_4 S108 (fl [20, 21, 24, 25, 42, 43])) → (FF u_29 S108 (fl [])) → (0 ≤ kk ∧ kk ≤ 13) → (Hd (∀ j, (j < ix ∨ ix + 13 ≤ j) → S108.2.2.1 257 j = u_29.2.2.1 257 j)) → (Hd (∀ t, 0 ≤ t → t < 13 → S108.2.2.1 257 (ix + t) = if t < kk then (u_29.2.2.1 257 ((ix + 12) + 1)) * u_29.2.2.1 257 (ix + t) else u_29.2.2.1 257 (ix + t))) → sW G 294 S108 H → sL G locs → lv_has ls 8 [(7, .int (iv kk)), (5, .long (jv (u_29.2.2.1 257 ((ix + 12) + 1)))), (4, .int (iv r_39)), (3, .int (iv (S12.1 231 24))), (2, .int (iv ((ix + 12) + 1))), (0, .ref (G.2.2.1 + 231)), (1, .int (iv ix))] → W p l e (rmk D 0 0) s m args below meth c H locs 0 0 (MQ below (sQv G 294 (fun u => dX G u ∧ Fr S u (pl [231, 248, 249, 250, 251, 252, 257, 258]) ∧ FF S u (fl [20, 21, 24, 25, 42, 43]) ∧ (EOr S u N k v q (eP T k (eF T k v n N) (S.1 231 42) pz) ix ∧ (0 ≤ u.1 231 24 ∧ u.1 231 24 ≤ q)))) args s 0 0 (sF G)) (F0 m 108 ls []) := by
                    intro fuel
                    induction fuel with
                    | zero => intro S108 kk H locs ls hmeas hI108 hFm108 hFL12108 hL108_ hGm108 hGL12108 gL108_ hk hl2 hrow hW hL hl; exact absurd hmeas (Nat.not_lt_zero _)
                    | succ fuel ih_108 =>
                      intro S108 kk H locs ls hmeas hI108 hFm108 hFL12108 hL108_ hGm108 hGL12108 gL108_ hk hl2 hrow hW hL hl
                      refine lv_iload hx hb dX12_product_108 (lv_at hl 0 rfl) ?_
                      refine lv_bipush (v := iv 12) hx hb dX12_product_110 (by decide) ?_
                      refine r_icmp_gt (tgt := 159) hx hb ⟨(by omega), (by omega)⟩ ⟨(by omega), (by omega)⟩ dX12_product_112 (by decide) (fun c_138 => ?_) (fun c_138 => ?_)
                      · have wS : veq (fvr S108 ix) (vml Va Vb) := (vml_f hf1 (fun j a b => by show S108.2.2.1 257 (ix + j) = _; rw [hrow j a b, if_pos (by omega), show u_29.2.2.1 257 ((ix + 12) + 1) = Vb 0 from (by have z := w1 0 (by decide) (by decide); have z : u_29.2.2.1 257 (ix + 13 + 0) = Vb 0 := z; rw [show ix + 13 + 0 = ix + 12 + 1 by omega] at z; exact z)]; exact congrArg (Vb 0 * ·) (wP j a b)))
                        refine lv_aload_n hx hb dX12_product_159 rfl (lv_at hl 5 rfl) ?_
                        refine lv_iload_n hx hb dX12_product_160 rfl (lv_at hl 6 rfl) ?_
                        refine sBi (sV (As := [.int (iv ix)]) (rest := []) (k := 231) Cx (e_X12_isGreat l G S108 (ix := ix) hI108 (by omega)) (c_X12_416 Cx rfl rfl (rmk_ok (by omega) (by decide))) hW (by decide) rfl rfl rfl hl.1 rfl (Nat.le_of_ble_eq_true rfl) dX12_product_161 ⟨Nat.le_of_ble_eq_true rfl, Nat.le_of_ble_eq_true rfl⟩) hL (fun r_141 u_139 H locs k_140 hW hL => ?_)
                        obtain ⟨eu_139, xu_139⟩ := k_140
                        rw [eu_139] at hW
                        refine r_if_eq (tgt := 174) hx hb ⟨(by omega), (by omega)⟩ dX12_product_164 (by decide) (fun c_142 => ?_) (fun c_142 => ?_)
                        · have ngr : Hd (¬ grt (vml Va Vb)) := (fun z => xu_139.2.2 (by omega) ((veq_grt wS).mpr z))
                          refine lv_goto (tgt := 12) hx hb dX12_product_174 (by decide) ?_
                          have lk_143 : S108.1 231 20 = u_29.1 231 20 := gL108_ 20 rfl
                          have q_144 : (-2147483648) ≤ u_29.1 231 24 ∧ u_29.1 231 24 ≤ 2147483647 := iu_29.fi 24
                          have lk_145 : S108.1 231 24 = u_29.1 231 24 := gL108_ 24 rfl
                          have q_146 : (-2147483648) ≤ u_29.1 231 42 ∧ u_29.1 231 42 ≤ 2147483647 := iu_29.fi 42
                          have lk_147 : S108.1 231 42 = u_29.1 231 42 := gL108_ 42 rfl
                          have nr_148 : NRr N k v S108 := n1.of (gL108_ 25 rfl) (funext fun j => (hL108_ 248 rfl).2.1 j) (funext fun j => (hL108_ 249 rfl).2.1 j) (funext fun j => (hL108_ 250 rfl).2.1 j) (funext fun j => (hL108_ 251 rfl).2.1 j) (funext fun j => (hL108_ 252 rfl).2.1 j) (funext fun j => (hL108_ 253 rfl).2.1 j)
                          exact ih_12 S108  _ _ _ (by rw [if_pos (show S12.1 231 20 = 0 by omega)] at hm12; split <;> omega) hI108 hFm108 hFL12108 hGm108 hGL12108 (fun j a => (rfl).trans ((hl2 j (.inl a)).trans ((xu_29.1 j (by omega)).trans (hlo j a)))) (fun _ => ⟨vml Va Vb, (by rw [eG, eL_so (st := (fun p => k p = 23)) hsT hRi hst e1 (oMul_s hnl ngr), show S108.1 231 24 = q2 by have z := (show S108.1 231 24 = u_29.1 231 24 from gL108_ 24 rfl); omega, show S108.1 231 42 = u_29.1 231 42 from (show S108.1 231 42 = u_29.1 231 42 from gL108_ 42 rfl)]), wS, vb9_n ngr, nr_148, (by rw [show S108.1 231 24 = q2 by have z := (show S108.1 231 24 = u_29.1 231 24 from gL108_ 24 rfl); omega]; exact hw2), (by rw [show S108.1 231 42 = u_29.1 231 42 from (show S108.1 231 42 = u_29.1 231 42 from gL108_ 42 rfl)]; exact l1), (by rw [show S108.1 231 24 = q2 by have z := (show S108.1 231 24 = u_29.1 231 24 from gL108_ 24 rfl); omega]; omega)⟩) (fun h => absurd (show S108.1 231 20 = 0 by have e9 := (show S108.1 231 20 = u_29.1 231 20 from gL108_ 20 rfl); omega) h) (by omega) hW hL (lv_sub hl [4, 5, 6] rfl)
                        · refine lv_aload_n hx hb dX12_product_167 rfl (lv_at hl 5 rfl) ?_
                          refine lv_bipush (v := iv 6) hx hb dX12_product_168 (by decide) ?_
                          refine lv_iload_n hx hb dX12_product_170 rfl (lv_at hl 3 rfl) ?_
                          refine sBv (sV (As := [.int (iv 6), .int (iv (S12.1 231 24))]) (rest := []) (k := 231) Cx (s_X12_wrong l G S108 (cd := 6) (tk := S12.1 231 24) hI108 (by omega) (by omega)) (c_X12_321 Cx rfl rfl (rmk_ok (by omega) (by decide))) hW (by decide) rfl rfl rfl hl.1 rfl (Nat.le_of_ble_eq_true rfl) dX12_product_171 ⟨Nat.le_of_ble_eq_true rfl, Nat.le_of_ble_eq_true rfl⟩) hL (fun u_149 H locs k_150 hW hL => ?_)
                          obtain ⟨iu_149, fu_149, gu_149, xu_149⟩ := k_150
                          have F_151 := hFm108.trans (fu_149.to (pl_sub (by decide)))
                          have F_152 := hFL12108.trans (fu_149.to (pl_sub (by decide)))
                          have g_153 : FF S u_149 (fl [20, 21, 24, 25, 42, 43]) := FF.trans hGm108 (FF.to gu_149 (fl_sub (by decide)))
                          have g_154 : FF u_4 u_149 (fl [20, 21, 24, 25, 42, 43]) := FF.trans hGL12108 (FF.to gu_149 (fl_sub (by decide)))
                          refine lv_goto (tgt := 12) hx hb dX12_product_174 (by decide) ?_
                          have q_156 : (-2147483648) ≤ u_149.1 231 20 ∧ u_149.1 231 20 ≤ 2147483647 := iu_149.fi 20
                          have q_157 : (-2147483648) ≤ u_29.1 231 24 ∧ u_29.1 231 24 ≤ 2147483647 := iu_29.fi 24
                          have lk_158 : u_149.1 231 24 = u_29.1 231 24 := (gu_149 24 rfl).trans (gL108_ 24 rfl)
                          have q_159 : (-2147483648) ≤ u_29.1 231 42 ∧ u_29.1 231 42 ≤ 2147483647 := iu_29.fi 42
                          have lk_160 : u_149.1 231 42 = u_29.1 231 42 := (gu_149 42 rfl).trans (gL108_ 42 rfl)
                          exact ih_12 u_149  _ _ _ (by rw [if_pos (show S12.1 231 20 = 0 by omega)] at hm12; split <;> omega) iu_149 F_151 F_152 g_153 g_154 (fun j a => ((fu_149 257 rfl).2.2.1 j).trans ((hl2 j (.inl a)).trans ((xu_29.1 j (by omega)).trans (hlo j a)))) (fun h => absurd h (by have e9 := (show u_149.1 231 20 = u_149.1 231 20 from rfl); have a9 := xu_149; omega)) (fun _ => by rw [eG]; exact eL_f2 (st := (fun p => k p = 23)) hst e1 (oMul_g hnl ((veq_grt wS).mp (xu_139.2.1 (by omega))))) (by omega) hW hL (lv_sub hl [4, 5, 6] rfl)
                      · refine lv_aload_n hx hb dX12_product_115 rfl (lv_at hl 5 rfl) ?_
                        refine g_X12_88 Cx hW (k := 231) (by decide) rfl (v := .ref (G.2.2.1 + 257)) (rd_41 hI108) dX12_product_116 ?_
                        refine lv_iload_n hx hb dX12_product_119 rfl (lv_at hl 6 rfl) ?_
                        refine lv_iload hx hb dX12_product_120 (lv_at hl 0 rfl) ?_
                        refine r_iadd hx hb dX12_product_122 ?_
                        refine lv_lload hx hb dX12_product_123 (lv_at hl 1 rfl) ?_
                        refine lv_iload hx hb dX12_product_125 (lv_at hl 2 rfl) ?_
                        refine r_if_eq (tgt := 142) hx hb ⟨(by omega), (by omega)⟩ dX12_product_127 (by decide) (fun c_161 => ?_) (fun c_161 => ?_)
                        · exfalso; omega
                        · refine lv_aload_n hx hb dX12_product_130 rfl (lv_at hl 5 rfl) ?_
                          refine g_X12_88 Cx hW (k := 231) (by decide) rfl (v := .ref (G.2.2.1 + 257)) (rd_41 hI108) dX12_product_131 ?_
                          refine lv_iload_n hx hb dX12_product_134 rfl (lv_at hl 6 rfl) ?_
                          refine lv_iload hx hb dX12_product_135 (lv_at hl 0 rfl) ?_
                          refine r_iadd hx hb dX12_product_137 ?_
                          refine rLald Cx hW (k := 257) (by decide) rfl (by decide) (by omega) (by omega) dX12_product_138 ?_
                          have q_162 : -9223372036854775808 ≤ S108.2.2.1 257 (ix + kk) ∧ S108.2.2.1 257 (ix + kk) ≤ 9223372036854775807 := hI108.li 257 (ix + kk)
                          refine r_j (b := S108.2.2.1 257 (ix + kk)) rfl ?_
                          refine lv_goto (tgt := 151) hx hb dX12_product_139 (by decide) ?_
                          have xr : S108.2.2.1 257 (ix + kk) = u_29.2.2.1 257 (ix + kk) := (by have z := hrow kk (by omega) (by omega); rw [if_neg (by omega)] at z; exact z)
                          have xb : -99999 ≤ S108.2.2.1 257 (ix + kk) ∧ S108.2.2.1 257 (ix + kk) ≤ 99999 := (by rw [xr]; exact (bV.eq wP) kk (by omega) (by omega))
                          have mb := mulb hbb xb
                          refine r_lmul hx hb dX12_product_151 ?_
                          obtain ⟨pr, epr⟩ : ∃ z : Int, z = (u_29.2.2.1 257 ((ix + 12) + 1)) * (S108.2.2.1 257 (ix + kk)) := ⟨_, rfl⟩
                          refine r_j (b := pr) epr.symm ?_
                          refine rLast Cx hW hL (k := 257) (by decide) rfl (by decide) (by omega) (by omega) dX12_product_152 (fun H locs hW hL => ?_)
                          have F_163 : Fr S (uL S108 257 (ix + kk) pr) (pl [231, 248, 249, 250, 251, 252, 257, 258]) := hFm108.L rfl
                          have F_164 : Fr u_4 (uL S108 257 (ix + kk) pr) (pl [231, 248, 249, 250, 251, 252, 257, 258]) := hFL12108.L rfl
                          have F_165 : Fr u_29 (uL S108 257 (ix + kk) pr) (pl [257]) := hL108_.L rfl
                          have i_166 : dX G (uL S108 257 (ix + kk) pr) := hI108.L ⟨by omega, by omega⟩
                          refine lv_iinc (v := iv (kk + 1)) (lv' := [(7, .int (iv (kk + 1))), (5, .long (jv (u_29.2.2.1 257 ((ix + 12) + 1)))), (4, .int (iv r_39)), (3, .int (iv (S12.1 231 24))), (2, .int (iv ((ix + 12) + 1))), (0, .ref (G.2.2.1 + 231)), (1, .int (iv ix))]) hx hb dX12_product_153 hl (k := 0) rfl ((Int32.ofInt_add _ _).symm) (by decide) rfl (fun ls hl => ?_)
                          refine lv_goto (tgt := 108) hx hb dX12_product_156 (by decide) ?_
                          exact ih_108 (uL S108 257 (ix + kk) pr) (kk + 1) _ _ _ (by omega) i_166 F_163 F_164 F_165 hGm108 hGL12108 gL108_ (by omega) (fun j a => (uL_ne (fun h => by have h2 := h.2; omega)).trans (hl2 j a)) (fun t a b => by by_cases z : t = kk; (rw [z, uL_on, if_pos (by omega), epr, xr]); (rw [uL_ne (fun h => z (by have h2 := h.2; omega)), hrow t a b]; by_cases y : t < kk; (rw [if_pos y, if_pos (by omega)]); (rw [if_neg y, if_neg (by omega)]))) hW hL (lv_sub hl [0, 1, 2, 3, 4, 5, 6] rfl)
                  exact loop_108 (_ + 1) u_29 0 _ _ _ (Nat.lt_succ_self _) iu_29 F_31 F_32 Fr.rf g_33 g_34 FF.rf (by omega) (fun j a => rfl) (fun t a b => (if_neg (by omega)).symm) hW hL (lv_sub hl [0, 1, 2, 3, 4, 5, 6] rfl)
              · refine lv_aload_n hx hb dX12_product_76 rfl (lv_at hl 3 rfl) ?_
                refine lv_iconst (v := iv 4) hx hb dX12_product_77 (by decide) ?_
                refine lv_iload_n hx hb dX12_product_78 rfl (lv_at hl 1 rfl) ?_
                refine sBv (sV (As := [.int (iv 4), .int (iv (S12.1 231 24))]) (rest := []) (k := 231) Cx (s_X12_wrong l G u_29 (cd := 4) (tk := S12.1 231 24) iu_29 (by omega) (by omega)) (c_X12_321 Cx rfl rfl (rmk_ok (by omega) (by decide))) hW (by decide) rfl rfl rfl hl.1 rfl (Nat.le_of_ble_eq_true rfl) dX12_product_79 ⟨Nat.le_of_ble_eq_true rfl, Nat.le_of_ble_eq_true rfl⟩) hL (fun u_167 H locs k_168 hW hL => ?_)
                obtain ⟨iu_167, fu_167, gu_167, xu_167⟩ := k_168
                have F_169 := F_31.trans (fu_167.to (pl_sub (by decide)))
                have F_170 := F_32.trans (fu_167.to (pl_sub (by decide)))
                have g_171 : FF S u_167 (fl [20, 21, 24, 25, 42, 43]) := FF.trans g_33 (FF.to gu_167 (fl_sub (by decide)))
                have g_172 : FF u_4 u_167 (fl [20, 21, 24, 25, 42, 43]) := FF.trans g_34 (FF.to gu_167 (fl_sub (by decide)))
                have q_173 : (-2147483648) ≤ u_29.1 231 24 ∧ u_29.1 231 24 ≤ 2147483647 := iu_29.fi 24
                have lk_174 : u_167.1 231 24 = u_29.1 231 24 := gu_167 24 rfl
                have q_175 : (-2147483648) ≤ u_167.1 231 20 ∧ u_167.1 231 20 ≤ 2147483647 := iu_167.fi 20
                have q_176 : (-2147483648) ≤ u_29.1 231 42 ∧ u_29.1 231 42 ≤ 2147483647 := iu_29.fi 42
                have lk_177 : u_167.1 231 42 = u_29.1 231 42 := gu_167 42 rfl
                exact sVret Cx hr hlk hW hL ⟨iu_167, F_169, g_171, ⟨⟨(fun j a => ((fu_167 257 rfl).2.2.1 j).trans ((xu_29.1 j (by omega)).trans (hlo j a))), (fun h => absurd h (by have e9 := (show u_167.1 231 20 = u_167.1 231 20 from rfl); have a9 := xu_167; omega)), (fun _ => by rw [eG]; exact eL_f2 (st := (fun p => k p = 23)) hst e1 (oMul_n ⟨(veq_hsv wP).mp (xu_37.2.1 (by omega)), (veq_hsv (by have y := w1; rw [show ix + 13 = ix + 12 + 1 by omega] at y; exact y)).mp (xu_102.2.1 (by omega))⟩))⟩, (by have e7c := (show u_167.1 231 24 = u_29.1 231 24 from gu_167 24 rfl); omega)⟩⟩ dX12_product_82
          · have q_178 : (-2147483648) ≤ u_29.1 231 24 ∧ u_29.1 231 24 ≤ 2147483647 := iu_29.fi 24
            have q_179 : (-2147483648) ≤ u_29.1 231 42 ∧ u_29.1 231 42 ≤ 2147483647 := iu_29.fi 42
            exact sVret Cx hr hlk hW hL ⟨iu_29, F_31, g_33, ⟨⟨(fun j a => (xu_29.1 j (by omega)).trans (hlo j a)), (fun h => absurd h (by omega)), (fun _ => by have q9 := xu_29.2.2 (by omega); rw [show (uF S12 231 24 ((S12.1 231 24) + 1)).1 231 42 = S12.1 231 42 by omega] at q9; rw [eG]; exact eL_f1 (st := (fun p => k p = 23)) hst q9)⟩, (by have e7c := (show u_29.1 231 24 = u_29.1 231 24 from rfl); omega)⟩⟩ dX12_product_55
  have q_180 : (-2147483648) ≤ u_4.1 231 20 ∧ u_4.1 231 20 ≤ 2147483647 := iu_4.fi 20
  have q_181 : (-2147483648) ≤ u_4.1 231 24 ∧ u_4.1 231 24 ≤ 2147483647 := iu_4.fi 24
  have q_182 : (-2147483648) ≤ u_4.1 231 42 ∧ u_4.1 231 42 ≤ 2147483647 := iu_4.fi 42
  exact loop_12 (_ + 1) u_4  _ _ _ (Nat.lt_succ_self _) iu_4 F_6 Fr.rf g_7 FF.rf xu_4.1 (fun h => by obtain ⟨V0, e0, w0, b0, l0, c0, n0⟩ := xu_4.2.1 h; exact ⟨V0, (by rw [c0]; unfold eP; rw [e0]; rfl), w0, b0, n0, (by rw [c0]; exact hw0), l0, (by omega)⟩) (fun h => by unfold eP; rw [xu_4.2.2 h]; rfl) (by omega) hW hL (lv_sub hl [0, 1, 2] rfl)
