theorem veq_cp {S : sS} {k0 k1 : Nat} {V : Int → Int} (h : veq (S.2.2.1 k0) V) : veq ((uD S k0 0 k1 0 13).2.2.1 k1) V := fun j a b => by
  rw [uD_get, if_pos ⟨rfl, by omega, by omega⟩, show (0 : Int) + (j - 0) = j by omega]; exact h j a b
set_option maxRecDepth 100000 in
set_option maxHeartbeats 4000000 in
theorem e_X9_term (l : Launch) (G : sG) (S : sS) {N : sN} {k v : Int → Int} {T pz q dd : Int} {dn qP qF n d1 D : Nat} (hI : cX G S 0 0 0) (hdd : 0 ≤ dd ∧ dd ≤ 29) (hN : Hd (NRc N S)) (hK : Hd (NK N)) (hTV : Hd (TVn k v)) (hkv : Hd (KV S k v T)) (hfk : S.1 11 14 = 0) (hat : S.1 11 13 = pz) (hpz : 0 ≤ pz ∧ pz ≤ 2000) (hlk : 0 ≤ S.1 11 12 ∧ S.1 11 12 ≤ 20000) (hdn : dd = (dn : Int)) (h1 : d1 < D) (h4 : 8 ≤ D) (hn : (n : Int) = 30 - dd) (hnm : N.1 + n ≤ 128) (hqb : q ≤ 2001) (hqP : qP = 52 + dn) (hqF : qF = 84 + dn) (hF : FX l G d1 dd dn) (hgx : Hd (ogP T k (ogF T k n) pz = some q)) : Met l yX9_term (.code yX9_term cX9_term 5 (some .boolean) :: tb) (rmk D 0 0) (sPc G 294 S [.ref (G.2.2.1 + 11), .int (iv dd)]) (sQi G 294 (fun r u => cX G u 0 0 0 ∧ Fr S u (pEx (dn + 1) dn dn) ∧ (EO S u N q r (eP T k (eF T k v n N) (S.1 11 12) pz) qP))) 0 0 (sF G) := by
  refine sEnter (by decide) (Nat.le_of_ble_eq_true rfl) ?_
  intro p e s m args below meth c Cx hr hlk hnm hW ls hl
  have Cx : sC G p m c cX9_term 5 s args RX9 := Cx
  obtain ⟨hx, hb, hml, hown, hts⟩ := id Cx.1
  have hL : sL G [] := sL_nil
  have hl : lv_has ls 5 [(0, .ref (G.2.2.1 + 11)), (1, .int (iv dd))] := hl
  have hW0 := hW
  have lqP := lr_51 hqP (by omega)
  have lqF := lr_83 hqF (by omega)
  have hkn : 0 ≤ S.1 11 9 ∧ S.1 11 9 ≤ 128 := hI.fi 11 9 9 (by decide) rfl
  have hTb : 0 ≤ S.1 12 3 ∧ S.1 12 3 ≤ 2001 := hI.fi 12 3 8 (by decide) rfl
  have hTe := hkv.2.2
  have hN1 := hN.1
  obtain ⟨q0, hg0, hw0⟩ := ogB hgx
  have hq0 := ogF_inc n _ _ hg0
  have hsT : Hd (∀ p, (fun p => k p = 23) p → p < T) := (fun p c => hkv.lt rfl (fun z => by have c : k p = 23 := c; omega))
  have hRi : Hd (RInc (eF T k v n N)) := (eF_inc n N)
  have hgR : Hd (∀ p q, (fun p => k p = 23) p → (fun p => ogF T k n (p + 1)) p = some q → p < q) := (fun p q _ h => by have h : ogF T k n (p + 1) = some q := h; have h2 := ogF_inc n _ _ h; omega)
  have hqq := ogW_le hgR _ _ hw0
  refine lv_aload_n hx hb dX9_term_0 rfl (lv_at hl 0 rfl) ?_
  refine lv_iload_n hx hb dX9_term_1 rfl (lv_at hl 1 rfl) ?_
  have q_1 : 0 ≤ S.1 11 10 ∧ S.1 11 10 ≤ 8 := hI.fi 11 10 9 (by decide) rfl
  have q_2 : 0 ≤ S.1 11 11 ∧ S.1 11 11 ≤ 12 := hI.fi 11 11 9 (by decide) rfl
  have q_3 : (-2147483648) ≤ S.1 11 12 ∧ S.1 11 12 ≤ 2147483647 := hI.fi 11 12 9 (by decide) rfl
  have q_4 : (-2147483648) ≤ S.1 11 13 ∧ S.1 11 13 ≤ 2147483647 := hI.fi 11 13 9 (by decide) rfl
  have q_5 : 0 ≤ S.1 11 14 ∧ S.1 11 14 ≤ 7 := hI.fi 11 14 9 (by decide) rfl
  have q_6 : 0 ≤ S.1 11 9 ∧ S.1 11 9 ≤ 128 := hI.fi 11 9 9 (by decide) rfl
  refine sBi (sV (As := [.int (iv dd)]) (rest := []) (k := 11) Cx (hF S N k v T (pz) q0 n hI ⟨hN, hK, hTV, hkv, (by omega), (by omega), (by omega), ⟨by omega, by omega⟩⟩ (by omega) (by omega) (by omega) hg0) (c_X9_211 Cx rfl rfl (rmk_ok (by omega) (by decide))) hW (by decide) rfl rfl rfl hl.1 rfl (Nat.le_of_ble_eq_true rfl) dX9_term_2 ⟨Nat.le_of_ble_eq_true rfl, Nat.le_of_ble_eq_true rfl⟩) hL (fun r_9 u_7 H locs k_8 hW hL => ?_)
  obtain ⟨iu_7, fu_7, xu_7⟩ := k_8
  have yu_7 := xu_7.1.2
  have F_10 := (Fr.rf : Fr S S (pEx (dn + 1) dn dn)).trans (fu_7.to (pEx_s (by omega) (by omega) (by omega)))
  refine r_if_ne (tgt := 10) hx hb ⟨(by omega), (by omega)⟩ dX9_term_5 (by decide) (fun c_11 => ?_) (fun c_11 => ?_)
  · obtain ⟨V0, e0, w0, b0, l0, pp0, ff0, n0⟩ := xu_7.2.1 (by omega)
    rw [← hqF] at w0
    refine lv_aload_n hx hb dX9_term_10 rfl (lv_at hl 0 rfl) ?_
    refine g_X9_34 Cx hW (k := 11) (by decide) rfl (v := .ref (G.2.2.1 + 51)) (rf_11_5 iu_7) dX9_term_11 ?_
    refine lv_iload_n hx hb dX9_term_14 rfl (lv_at hl 1 rfl) ?_
    refine rAald Cx hW (k := 51) (by decide) rfl (by decide) (by omega) (by omega) (r2_51f iu_7 hqP (by omega) (by omega)) dX9_term_15 ?_
    refine lv_astore_n (lv' := [(2, .ref (G.2.2.1 + qP)), (0, .ref (G.2.2.1 + 11)), (1, .int (iv dd))]) hx hb dX9_term_16 rfl hl (by decide) rfl (fun ls hl => ?_)
    refine lv_aload_n hx hb dX9_term_17 rfl (lv_at hl 1 rfl) ?_
    refine g_X9_37 Cx hW (k := 11) (by decide) rfl (v := .ref (G.2.2.1 + 83)) (rf_11_6 iu_7) dX9_term_18 ?_
    refine lv_iload_n hx hb dX9_term_21 rfl (lv_at hl 2 rfl) ?_
    refine rAald Cx hW (k := 83) (by decide) rfl (by decide) (by omega) (by omega) (r2_83f iu_7 hqF (by omega) (by omega)) dX9_term_22 ?_
    refine lv_iconst (v := iv 0) hx hb dX9_term_23 (by decide) ?_
    refine lv_aload_n hx hb dX9_term_24 rfl (lv_at hl 0 rfl) ?_
    refine lv_iconst (v := iv 0) hx hb dX9_term_25 (by decide) ?_
    refine lv_bipush (v := iv 13) hx hb dX9_term_26 (by decide) ?_
    refine rCopyL Cx hW hL (hml.trans hl.1.symm) w_1087 w_1089 w_1088 w_224 (k0 := qF) (k1 := qP) (lr_l lqF) lqF.1 (lr_l lqP) lqP.1 (by decide) (by decide) (by omega) (by omega) (by omega) (by omega) (by omega) (rmk_f (by omega)) (rmk_l (by omega) (by decide)) dX9_term_28 (fun H locs hW hL => ?_)
    have F_12 : Fr S (uD u_7 qF 0 qP 0 13) (pEx (dn + 1) dn dn) := F_10.D (pEx_y (by omega))
    have F_13 : Fr u_7 (uD u_7 qF 0 qP 0 13) pR3 := (Fr.rf : Fr u_7 u_7 pR3).D (lr_R lqP)
    have i_14 : cX G (uD u_7 qF 0 qP 0 13) 0 0 0 := iu_7.D (lr_k lqF)
    have q_15 : 0 ≤ u_7.1 11 10 ∧ u_7.1 11 10 ≤ 8 := iu_7.fi 11 10 9 (by decide) rfl
    have lk_16 : (uD u_7 qF 0 qP 0 13).1 11 10 = u_7.1 11 10 := uD_f
    have q_17 : 0 ≤ u_7.1 11 11 ∧ u_7.1 11 11 ≤ 12 := iu_7.fi 11 11 9 (by decide) rfl
    have lk_18 : (uD u_7 qF 0 qP 0 13).1 11 11 = u_7.1 11 11 := uD_f
    have q_19 : (-2147483648) ≤ u_7.1 11 12 ∧ u_7.1 11 12 ≤ 2147483647 := iu_7.fi 11 12 9 (by decide) rfl
    have lk_20 : (uD u_7 qF 0 qP 0 13).1 11 12 = u_7.1 11 12 := uD_f
    have q_21 : (-2147483648) ≤ u_7.1 11 13 ∧ u_7.1 11 13 ≤ 2147483647 := iu_7.fi 11 13 9 (by decide) rfl
    have lk_22 : (uD u_7 qF 0 qP 0 13).1 11 13 = u_7.1 11 13 := uD_f
    have q_23 : 0 ≤ u_7.1 11 14 ∧ u_7.1 11 14 ≤ 7 := iu_7.fi 11 14 9 (by decide) rfl
    have lk_24 : (uD u_7 qF 0 qP 0 13).1 11 14 = u_7.1 11 14 := uD_f
    have q_25 : 0 ≤ u_7.1 11 9 ∧ u_7.1 11 9 ≤ 128 := iu_7.fi 11 9 9 (by decide) rfl
    have lk_26 : (uD u_7 qF 0 qP 0 13).1 11 9 = u_7.1 11 9 := uD_f
    have nr_27 : NRc N (uD u_7 qF 0 qP 0 13) := n0.of (by omega) (fun j => (F_13 16 rfl).2.2.1 j) (fun j => (F_13 17 rfl).2.1 j) (fun j => (F_13 18 rfl).2.1 j)
    refine lv_iconst (v := iv 0) hx hb dX9_term_31 (by decide) ?_
    refine lv_istore_n (lv' := [(3, .int (iv 0)), (2, .ref (G.2.2.1 + qP)), (0, .ref (G.2.2.1 + 11)), (1, .int (iv dd))]) hx hb dX9_term_32 rfl hl (by decide) rfl (fun ls hl => ?_)
    have loop_33 : ∀ (fuel : Nat) (S33 : sS) (i : Int) (H : Heap) (locs : List Loc) (ls : Array Slot), (2001 - i).toNat < fuel → (cX G S33 0 0 0) → (Fr S S33 (pEx (dn + 1) dn dn)) → (Fr ((uD u_7 qF 0 qP 0 13)) S33 (pEx (dn + 1) dn dn)) → (Hd (RK S S33)) → (0 ≤ i ∧ i ≤ 2001) → (pz + 1 + i ≤ S33.1 11 13) → (S33.1 11 14 = 0 ∧ S33.1 11 10 = S.1 11 10 ∧ S33.1 11 11 = S.1 11 11) → (0 ≤ S33.1 11 12 ∧ S33.1 11 12 ≤ 20000) → (Hd (NRc N S33)) → (Hd (ogW T (fun p => k p = 23) (fun p => ogF T k n (p + 1)) (S33.1 11 13) = some q)) → (Hd (∃ V, eP T k (eF T k v n N) (S.1 11 12) pz = eL T (fun p => k p = 23) (eF T k v n N) (fun _ => oMul) (S33.1 11 13, V, S33.1 11 12) ∧ veq (S33.2.2.1 qP) V ∧ vb9 V)) → sW G 294 S33 H → sL G locs → lv_has ls 5 [(3, .int (iv i)), (2, .ref (G.2.2.1 + qP)), (0, .ref (G.2.2.1 + 11)), (1, .int (iv dd))] → W p l e (rmk D 0 0) s m args below meth c H locs 0 0 (MQ below (sQi G 294 (fun r u => cX G u 0 0 0 ∧ Fr S u (pEx (dn + 1) dn dn) ∧ (EO S u N q r (eP T k (eF T k v n N) (S.1 11 12) pz) qP))) args s 0 0 (sF G)) (F0 m 33 ls []) := by
      intro fuel
      induction fuel with
      | zero => intro S33 i H locs ls hmeas hI33 hFm33 hL33_ hRK hi hp hfL hlL hNL hw hG hW hL hl; exact absurd hmeas (Nat.not_lt_zero _)
      | succ fuel ih_33 =>
        intro S33 i H locs ls hmeas hI33 hFm33 hL33_ hRK hi hp hfL hlL hNL hw hG hW hL hl
        obtain ⟨V, eG, wV, bV⟩ := hG
        have hwl := ogW_le hgR _ _ hw
        refine lv_iload_n hx hb dX9_term_33 rfl (lv_at hl 0 rfl) ?_
        refine lv_aload_n hx hb dX9_term_34 rfl (lv_at hl 2 rfl) ?_
        refine g_X9_14 Cx hW (k := 11) (by decide) rfl (v := .ref (G.2.2.1 + 12)) (rf_11_0 hI33) dX9_term_35 ?_
        have q_28 : 0 ≤ S.1 12 3 ∧ S.1 12 3 ≤ 2001 := hI.fi 12 3 8 (by decide) rfl
        have lk_29 : S33.1 12 3 = S.1 12 3 := ((hL33_ 12 (pEx_n (by omega))).1 3).trans ((uD_f).trans ((fu_7 12 (pEx_n (by omega))).1 3))
        refine sBi (sV (As := []) (rest := [.int (iv i)]) (k := 12) Cx (s_X8_tokenCount l G S33  hI33) (c_X9_92 Cx rfl rfl (rmk_ok (by omega) (by decide))) hW (by decide) rfl rfl rfl hl.1 rfl (Nat.le_of_ble_eq_true rfl) dX9_term_38 ⟨Nat.le_of_ble_eq_true rfl, Nat.le_of_ble_eq_true rfl⟩) hL (fun r_32 u_30 H locs k_31 hW hL => ?_)
        obtain ⟨eu_30, xu_30⟩ := k_31
        rw [eu_30] at hW
        refine r_icmp_ge (tgt := 145) hx hb ⟨(by omega), (by omega)⟩ ⟨(by omega), (by omega)⟩ dX9_term_41 (by decide) (fun c_33 => ?_) (fun c_33 => ?_)
        · refine lv_iconst (v := iv 1) hx hb dX9_term_145 (by decide) ?_
          have q_34 : 0 ≤ S33.1 11 10 ∧ S33.1 11 10 ≤ 8 := hI33.fi 11 10 9 (by decide) rfl
          have q_35 : 0 ≤ S33.1 11 11 ∧ S33.1 11 11 ≤ 12 := hI33.fi 11 11 9 (by decide) rfl
          have q_36 : (-2147483648) ≤ S33.1 11 12 ∧ S33.1 11 12 ≤ 2147483647 := hI33.fi 11 12 9 (by decide) rfl
          have q_37 : (-2147483648) ≤ S33.1 11 13 ∧ S33.1 11 13 ≤ 2147483647 := hI33.fi 11 13 9 (by decide) rfl
          have q_38 : 0 ≤ S33.1 11 14 ∧ S33.1 11 14 ≤ 7 := hI33.fi 11 14 9 (by decide) rfl
          have q_39 : 0 ≤ S33.1 11 9 ∧ S33.1 11 9 ≤ 128 := hI33.fi 11 9 9 (by decide) rfl
          exact sZret Cx hr hlk hW hL (by omega) ⟨hI33, hFm33, (by have hns : Hd (¬ (fun p => k p = 23) (S33.1 11 13)) := (show ¬ (k (S33.1 11 13) = 23) by rw [hkv.z (S33.1 11 13) (by omega)]; decide); have hqe := ogW_q (st := (fun p => k p = 23)) hns hw; exact ⟨⟨⟨(fun i => (hRK i)), (fun h => absurd h (by decide))⟩, by omega, by omega, by omega, by omega⟩, (fun _ => ⟨V, (by rw [eG, eL_no (st := (fun p => k p = 23)) hns, ← hqe]), wV, bV, ⟨by omega, by omega⟩, (by omega), (by omega), hNL⟩), (fun h => absurd h (by decide))⟩)⟩ dX9_term_146
        · refine lv_aload_n hx hb dX9_term_44 rfl (lv_at hl 2 rfl) ?_
          refine g_X9_14 Cx hW (k := 11) (by decide) rfl (v := .ref (G.2.2.1 + 12)) (rf_11_0 hI33) dX9_term_45 ?_
          refine lv_aload_n hx hb dX9_term_48 rfl (lv_at hl 2 rfl) ?_
          have q_40 : (-2147483648) ≤ S33.1 11 13 ∧ S33.1 11 13 ≤ 2147483647 := hI33.fi 11 13 9 (by decide) rfl
          refine g_X9_89 Cx hW (k := 11) (by decide) rfl (v := S33.1 11 13) rfl dX9_term_49 ?_
          refine sBi (sV (As := [.int (iv (S33.1 11 13))]) (rest := []) (k := 12) Cx (s_X8_kind l G S33 (k := S33.1 11 13) hI33 (by omega)) (c_X9_95 Cx rfl rfl (rmk_ok (by omega) (by decide))) hW (by decide) rfl rfl rfl hl.1 rfl (Nat.le_of_ble_eq_true rfl) dX9_term_52 ⟨Nat.le_of_ble_eq_true rfl, Nat.le_of_ble_eq_true rfl⟩) hL (fun r_43 u_41 H locs k_42 hW hL => ?_)
          obtain ⟨eu_41, xu_41⟩ := k_42
          rw [eu_41] at hW
          have kv_44 : KV S33 k v T := hkv.fr hFm33 (pEx_n (by omega)) (pEx_n (by omega)) (pEx_n (by omega))
          have kp : r_43 = k (S33.1 11 13) := (by rw [← kv_44.1]; exact xu_41.1)
          refine lv_bipush (v := iv 23) hx hb dX9_term_55 (by decide) ?_
          refine r_icmp_ne (tgt := 145) hx hb ⟨(by omega), (by omega)⟩ ⟨(by omega), (by omega)⟩ dX9_term_57 (by decide) (fun c_45 => ?_) (fun c_45 => ?_)
          · refine lv_iconst (v := iv 1) hx hb dX9_term_145 (by decide) ?_
            have q_46 : 0 ≤ S33.1 11 10 ∧ S33.1 11 10 ≤ 8 := hI33.fi 11 10 9 (by decide) rfl
            have q_47 : 0 ≤ S33.1 11 11 ∧ S33.1 11 11 ≤ 12 := hI33.fi 11 11 9 (by decide) rfl
            have q_48 : (-2147483648) ≤ S33.1 11 12 ∧ S33.1 11 12 ≤ 2147483647 := hI33.fi 11 12 9 (by decide) rfl
            have q_49 : 0 ≤ S33.1 11 14 ∧ S33.1 11 14 ≤ 7 := hI33.fi 11 14 9 (by decide) rfl
            have q_50 : 0 ≤ S33.1 11 9 ∧ S33.1 11 9 ≤ 128 := hI33.fi 11 9 9 (by decide) rfl
            exact sZret Cx hr hlk hW hL (by omega) ⟨hI33, hFm33, (by have hns : Hd (¬ (fun p => k p = 23) (S33.1 11 13)) := (show ¬ (k (S33.1 11 13) = 23) by omega); have hqe := ogW_q (st := (fun p => k p = 23)) hns hw; exact ⟨⟨⟨(fun i => (hRK i)), (fun h => absurd h (by decide))⟩, by omega, by omega, by omega, by omega⟩, (fun _ => ⟨V, (by rw [eG, eL_no (st := (fun p => k p = 23)) hns, ← hqe]), wV, bV, ⟨by omega, by omega⟩, (by omega), (by omega), hNL⟩), (fun h => absurd h (by decide))⟩)⟩ dX9_term_146
          · have hst : Hd ((fun p => k p = 23) (S33.1 11 13)) := (show k (S33.1 11 13) = 23 by omega)
            obtain ⟨q2, hg2, hw2⟩ := ogW_ii hsT hgR hst hw
            have hg2 : ogF T k n (S33.1 11 13 + 1) = some q2 := hg2
            have hq2 := ogF_inc n _ _ hg2
            have hpT := hsT _ hst
            have hql := ogW_le hgR _ _ hw2
            refine lv_aload_n hx hb dX9_term_60 rfl (lv_at hl 2 rfl) ?_
            refine g_X9_89 Cx hW (k := 11) (by decide) rfl (v := S33.1 11 13) rfl dX9_term_61 ?_
            refine lv_istore (lv' := [(4, .int (iv (S33.1 11 13))), (3, .int (iv i)), (2, .ref (G.2.2.1 + qP)), (0, .ref (G.2.2.1 + 11)), (1, .int (iv dd))]) hx hb dX9_term_64 hl (by decide) rfl (fun ls hl => ?_)
            refine lv_aload_n hx hb dX9_term_66 rfl (lv_at hl 3 rfl) ?_
            refine lv_dup hx hb dX9_term_67 rfl ?_
            refine g_X9_89 Cx hW (k := 11) (by decide) rfl (v := S33.1 11 13) rfl dX9_term_68 ?_
            refine lv_iconst (v := iv 1) hx hb dX9_term_71 (by decide) ?_
            refine r_iadd hx hb dX9_term_72 ?_
            refine p_X9_89 Cx hW hL (k := 11) (by decide) rfl dX9_term_73 (fun H locs hW hL => ?_)
            have F_51 : Fr S (uF S33 11 13 ((S33.1 11 13) + 1)) (pEx (dn + 1) dn dn) := hFm33.F (pEx_y (by omega))
            have F_52 : Fr ((uD u_7 qF 0 qP 0 13)) (uF S33 11 13 ((S33.1 11 13) + 1)) (pEx (dn + 1) dn dn) := hL33_.F (pEx_y (by omega))
            have F_53 : Fr S33 (uF S33 11 13 ((S33.1 11 13) + 1)) pR3 := (Fr.rf : Fr S33 S33 pR3).F rfl
            have F_54 : Fr S33 (uF S33 11 13 ((S33.1 11 13) + 1)) (pEx (dn + 1) (dn + 1) dn) := (Fr.rf : Fr S33 S33 (pEx (dn + 1) (dn + 1) dn)).F (pEx_y (by omega))
            have i_55 : cX G (uF S33 11 13 ((S33.1 11 13) + 1)) 0 0 0 := hI33.F rfl rfl (show (-2147483648) ≤ (S33.1 11 13) + 1 ∧ (S33.1 11 13) + 1 ≤ 2147483647 from ⟨by omega, by omega⟩)
            refine lv_aload_n hx hb dX9_term_76 rfl (lv_at hl 3 rfl) ?_
            refine lv_iload_n hx hb dX9_term_77 rfl (lv_at hl 4 rfl) ?_
            have q_56 : 0 ≤ S33.1 11 10 ∧ S33.1 11 10 ≤ 8 := hI33.fi 11 10 9 (by decide) rfl
            have lk_57 : (uF S33 11 13 ((S33.1 11 13) + 1)).1 11 10 = S33.1 11 10 := uF_ne (fun h => absurd h.2 (by decide))
            have q_58 : 0 ≤ S33.1 11 11 ∧ S33.1 11 11 ≤ 12 := hI33.fi 11 11 9 (by decide) rfl
            have lk_59 : (uF S33 11 13 ((S33.1 11 13) + 1)).1 11 11 = S33.1 11 11 := uF_ne (fun h => absurd h.2 (by decide))
            have q_60 : (-2147483648) ≤ S33.1 11 12 ∧ S33.1 11 12 ≤ 2147483647 := hI33.fi 11 12 9 (by decide) rfl
            have lk_61 : (uF S33 11 13 ((S33.1 11 13) + 1)).1 11 12 = S33.1 11 12 := uF_ne (fun h => absurd h.2 (by decide))
            have lk_62 : (uF S33 11 13 ((S33.1 11 13) + 1)).1 11 13 = (S33.1 11 13) + 1 := uF_on
            have q_63 : 0 ≤ S33.1 11 14 ∧ S33.1 11 14 ≤ 7 := hI33.fi 11 14 9 (by decide) rfl
            have lk_64 : (uF S33 11 13 ((S33.1 11 13) + 1)).1 11 14 = S33.1 11 14 := uF_ne (fun h => absurd h.2 (by decide))
            have q_65 : 0 ≤ S33.1 11 9 ∧ S33.1 11 9 ≤ 128 := hI33.fi 11 9 9 (by decide) rfl
            have lk_66 : (uF S33 11 13 ((S33.1 11 13) + 1)).1 11 9 = S33.1 11 9 := uF_ne (fun h => absurd h.2 (by decide))
            have nr_67 : NRc N (uF S33 11 13 ((S33.1 11 13) + 1)) := hNL.of (by omega) (fun j => (F_53 16 rfl).2.2.1 j) (fun j => (F_53 17 rfl).2.1 j) (fun j => (F_53 18 rfl).2.1 j)
            have kv_68 : KV (uF S33 11 13 ((S33.1 11 13) + 1)) k v T := hkv.fr F_51 (pEx_n (by omega)) (pEx_n (by omega)) (pEx_n (by omega))
            refine sBi (sV (As := [.int (iv dd)]) (rest := []) (k := 11) Cx (hF (uF S33 11 13 ((S33.1 11 13) + 1)) N k v T (S33.1 11 13 + 1) q2 n i_55 ⟨nr_67, hK, hTV, kv_68, (by omega), (by omega), (by omega), ⟨by omega, by omega⟩⟩ (by omega) (by omega) (by omega) hg2) (c_X9_211 Cx rfl rfl (rmk_ok (by omega) (by decide))) hW (by decide) rfl rfl rfl hl.1 rfl (Nat.le_of_ble_eq_true rfl) dX9_term_78 ⟨Nat.le_of_ble_eq_true rfl, Nat.le_of_ble_eq_true rfl⟩) hL (fun r_71 u_69 H locs k_70 hW hL => ?_)
            obtain ⟨iu_69, fu_69, xu_69⟩ := k_70
            have yu_69 := xu_69.1.2
            have F_72 := F_51.trans (fu_69.to (pEx_s (by omega) (by omega) (by omega)))
            have F_73 := F_52.trans (fu_69.to (pEx_s (by omega) (by omega) (by omega)))
            have F_74 := F_54.trans fu_69
            refine r_if_ne (tgt := 86) hx hb ⟨(by omega), (by omega)⟩ dX9_term_81 (by decide) (fun c_75 => ?_) (fun c_75 => ?_)
            · obtain ⟨V1, e1, w1, b1, l1, pp1, f1, n1⟩ := xu_69.2.1 (by omega)
              rw [← hqF] at w1
              rw [show (uF S33 11 13 ((S33.1 11 13) + 1)).1 11 12 = S33.1 11 12 by omega] at e1
              have wP : veq (u_69.2.2.1 qP) V := veq_tr (fun j a b => (F_74 qP (pEx_n (by omega))).2.2.1 j) wV
              refine lv_aload_n hx hb dX9_term_86 rfl (lv_at hl 2 rfl) ?_
              refine sBi (sSt (As := [.ref (G.2.2.1 + qP)]) (rest := []) Cx (e_X9_hasCoefficient l G u_69 (qa := qP) iu_69 lqP) (c_X9_214 Cx rfl rfl (rmk_ok (by omega) (by decide))) hW rfl hl.1 rfl (Nat.le_of_ble_eq_true rfl) dX9_term_87 ⟨Nat.le_of_ble_eq_true rfl, Nat.le_of_ble_eq_true rfl⟩) hL (fun r_78 u_76 H locs k_77 hW hL => ?_)
              obtain ⟨eu_76, xu_76⟩ := k_77
              rw [eu_76] at hW
              refine r_if_eq (tgt := 113) hx hb ⟨(by omega), (by omega)⟩ dX9_term_90 (by decide) (fun c_79 => ?_) (fun c_79 => ?_)
              · have hnl : Hd (¬ (hsv V ∧ hsv V1)) := (fun z => xu_76.2.2 (by omega) ((veq_hsv wP).mpr z.1))
                refine lv_aload_n hx hb dX9_term_113 rfl (lv_at hl 2 rfl) ?_
                refine lv_aload_n hx hb dX9_term_114 rfl (lv_at hl 3 rfl) ?_
                refine g_X9_37 Cx hW (k := 11) (by decide) rfl (v := .ref (G.2.2.1 + 83)) (rf_11_6 iu_69) dX9_term_115 ?_
                refine lv_iload_n hx hb dX9_term_118 rfl (lv_at hl 4 rfl) ?_
                refine rAald Cx hW (k := 83) (by decide) rfl (by decide) (by omega) (by omega) (r2_83f iu_69 hqF (by omega) (by omega)) dX9_term_119 ?_
                refine sBv (sSt (As := [.ref (G.2.2.1 + qP), .ref (G.2.2.1 + qF)]) (rest := []) Cx (e_X9_multiply l G u_69 (qa := qP) (qb := qF) iu_69 lqP lqF (by omega) (bV.eq wP) (b1.eq w1)) (c_X9_217 Cx rfl rfl (rmk_ok (by omega) (by decide))) hW rfl hl.1 rfl (Nat.le_of_ble_eq_true rfl) dX9_term_120 ⟨Nat.le_of_ble_eq_true rfl, Nat.le_of_ble_eq_true rfl⟩) hL (fun u_80 H locs k_81 hW hL => ?_)
                obtain ⟨iu_80, fu_80, xu_80⟩ := k_81
                have F_82 := F_72.trans (fu_80.to (p1_sub (pEx_y (by omega))))
                have F_83 := F_73.trans (fu_80.to (p1_sub (pEx_y (by omega))))
                have F_84 := (Fr.rf : Fr u_69 u_69 pR3).trans (fu_80.to (p1_sub (lr_R lqP)))
                have wS : veq (u_80.2.2.1 qP) (vml V V1) := veq_tr xu_80 (veq_vml wP w1)
                refine lv_aload_n hx hb dX9_term_123 rfl (lv_at hl 2 rfl) ?_
                refine sBi (sSt (As := [.ref (G.2.2.1 + qP)]) (rest := []) Cx (e_X9_isGreat l G u_80 (qa := qP) iu_80 lqP (vbd_ml bV b1 hnl wS)) (c_X9_189 Cx rfl rfl (rmk_ok (by omega) (by decide))) hW rfl hl.1 rfl (Nat.le_of_ble_eq_true rfl) dX9_term_124 ⟨Nat.le_of_ble_eq_true rfl, Nat.le_of_ble_eq_true rfl⟩) hL (fun r_87 u_85 H locs k_86 hW hL => ?_)
                obtain ⟨eu_85, xu_85⟩ := k_86
                rw [eu_85] at hW
                refine r_if_eq (tgt := 139) hx hb ⟨(by omega), (by omega)⟩ dX9_term_127 (by decide) (fun c_88 => ?_) (fun c_88 => ?_)
                · have ngr : Hd (¬ grt (vml V V1)) := (fun z => xu_85.2.2 (by omega) ((veq_grt wS).mpr z))
                  refine lv_iinc (v := iv (i + 1)) (lv' := [(3, .int (iv (i + 1))), (4, .int (iv (S33.1 11 13))), (2, .ref (G.2.2.1 + qP)), (0, .ref (G.2.2.1 + 11)), (1, .int (iv dd))]) hx hb dX9_term_139 hl (k := 1) rfl ((Int32.ofInt_add _ _).symm) (by decide) rfl (fun ls hl => ?_)
                  refine lv_goto (tgt := 33) hx hb dX9_term_142 (by decide) ?_
                  have q_89 : 0 ≤ u_69.1 11 10 ∧ u_69.1 11 10 ≤ 8 := iu_69.fi 11 10 9 (by decide) rfl
                  have lk_90 : u_80.1 11 10 = u_69.1 11 10 := (fu_80 11 (p1_no (tau_ne (rfl : tau 11 = .inl 9) lqP.1 (fun h => by cases h)))).1 10
                  have q_91 : 0 ≤ u_69.1 11 11 ∧ u_69.1 11 11 ≤ 12 := iu_69.fi 11 11 9 (by decide) rfl
                  have lk_92 : u_80.1 11 11 = u_69.1 11 11 := (fu_80 11 (p1_no (tau_ne (rfl : tau 11 = .inl 9) lqP.1 (fun h => by cases h)))).1 11
                  have q_93 : (-2147483648) ≤ u_69.1 11 12 ∧ u_69.1 11 12 ≤ 2147483647 := iu_69.fi 11 12 9 (by decide) rfl
                  have lk_94 : u_80.1 11 12 = u_69.1 11 12 := (fu_80 11 (p1_no (tau_ne (rfl : tau 11 = .inl 9) lqP.1 (fun h => by cases h)))).1 12
                  have q_95 : (-2147483648) ≤ u_69.1 11 13 ∧ u_69.1 11 13 ≤ 2147483647 := iu_69.fi 11 13 9 (by decide) rfl
                  have lk_96 : u_80.1 11 13 = u_69.1 11 13 := (fu_80 11 (p1_no (tau_ne (rfl : tau 11 = .inl 9) lqP.1 (fun h => by cases h)))).1 13
                  have q_97 : 0 ≤ u_69.1 11 14 ∧ u_69.1 11 14 ≤ 7 := iu_69.fi 11 14 9 (by decide) rfl
                  have lk_98 : u_80.1 11 14 = u_69.1 11 14 := (fu_80 11 (p1_no (tau_ne (rfl : tau 11 = .inl 9) lqP.1 (fun h => by cases h)))).1 14
                  have q_99 : 0 ≤ u_69.1 11 9 ∧ u_69.1 11 9 ≤ 128 := iu_69.fi 11 9 9 (by decide) rfl
                  have lk_100 : u_80.1 11 9 = u_69.1 11 9 := (fu_80 11 (p1_no (tau_ne (rfl : tau 11 = .inl 9) lqP.1 (fun h => by cases h)))).1 9
                  have nr_101 : NRc N u_80 := n1.of (by omega) (fun j => (F_84 16 rfl).2.2.1 j) (fun j => (F_84 17 rfl).2.1 j) (fun j => (F_84 18 rfl).2.1 j)
                  exact ih_33 u_80 (i + 1) _ _ _ (by omega) iu_80 F_82 F_83 (fun i => (((fu_80 11 (p1_no (tau_ne (rfl : tau 11 = .inl 9) lqP.1 (fun h => by cases h)))).2.2.2 i).trans ((xu_69.1.1.1 i).trans (hRK i)))) (by omega) (by omega) (by omega) (by omega) nr_101 (by rw [show u_80.1 11 13 = q2 by omega]; exact hw2) ⟨(vml V V1), (by rw [eG, eL_so (st := (fun p => k p = 23)) hsT hRi hst e1 (oMul_s hnl ngr), show u_80.1 11 13 = q2 by omega, show u_80.1 11 12 = u_69.1 11 12 by omega]), wS, vb9_n ngr⟩ hW hL (lv_sub hl [0, 2, 3, 4] rfl)
                · refine lv_aload_n hx hb dX9_term_130 rfl (lv_at hl 3 rfl) ?_
                  refine lv_bipush (v := iv 6) hx hb dX9_term_131 (by decide) ?_
                  refine lv_iload hx hb dX9_term_133 (lv_at hl 0 rfl) ?_
                  have q_102 : (-2147483648) ≤ u_69.1 11 13 ∧ u_69.1 11 13 ≤ 2147483647 := iu_69.fi 11 13 9 (by decide) rfl
                  have lk_103 : u_80.1 11 13 = u_69.1 11 13 := (fu_80 11 (p1_no (tau_ne (rfl : tau 11 = .inl 9) lqP.1 (fun h => by cases h)))).1 13
                  have q_104 : 0 ≤ u_69.1 11 9 ∧ u_69.1 11 9 ≤ 128 := iu_69.fi 11 9 9 (by decide) rfl
                  have lk_105 : u_80.1 11 9 = u_69.1 11 9 := (fu_80 11 (p1_no (tau_ne (rfl : tau 11 = .inl 9) lqP.1 (fun h => by cases h)))).1 9
                  have q_106 : 0 ≤ u_69.1 11 10 ∧ u_69.1 11 10 ≤ 8 := iu_69.fi 11 10 9 (by decide) rfl
                  have lk_107 : u_80.1 11 10 = u_69.1 11 10 := (fu_80 11 (p1_no (tau_ne (rfl : tau 11 = .inl 9) lqP.1 (fun h => by cases h)))).1 10
                  have q_108 : 0 ≤ u_69.1 11 11 ∧ u_69.1 11 11 ≤ 12 := iu_69.fi 11 11 9 (by decide) rfl
                  have lk_109 : u_80.1 11 11 = u_69.1 11 11 := (fu_80 11 (p1_no (tau_ne (rfl : tau 11 = .inl 9) lqP.1 (fun h => by cases h)))).1 11
                  have q_110 : (-2147483648) ≤ u_69.1 11 12 ∧ u_69.1 11 12 ≤ 2147483647 := iu_69.fi 11 12 9 (by decide) rfl
                  have lk_111 : u_80.1 11 12 = u_69.1 11 12 := (fu_80 11 (p1_no (tau_ne (rfl : tau 11 = .inl 9) lqP.1 (fun h => by cases h)))).1 12
                  refine sBi (sV (As := [.int (iv 6), .int (iv (S33.1 11 13))]) (rest := []) (k := 11) Cx (e_X9_fail l G u_80 (k := 6) (tk := S33.1 11 13) iu_80 (by omega) (by omega)) (c_X9_132 Cx rfl rfl (rmk_ok (by omega) (by decide))) hW (by decide) rfl rfl rfl hl.1 rfl (Nat.le_of_ble_eq_true rfl) dX9_term_135 ⟨Nat.le_of_ble_eq_true rfl, Nat.le_of_ble_eq_true rfl⟩) hL (fun r_114 u_112 H locs k_113 hW hL => ?_)
                  obtain ⟨iu_112, fu_112, xu_112⟩ := k_113
                  have F_115 := F_82.trans (fu_112.to (p1_sub (pEx_y (by omega))))
                  have F_116 := F_83.trans (fu_112.to (p1_sub (pEx_y (by omega))))
                  have F_117 := F_84.trans (fu_112.to (p1_sub rfl))
                  have q_118 : 0 ≤ u_112.1 11 10 ∧ u_112.1 11 10 ≤ 8 := iu_112.fi 11 10 9 (by decide) rfl
                  have q_119 : 0 ≤ u_112.1 11 11 ∧ u_112.1 11 11 ≤ 12 := iu_112.fi 11 11 9 (by decide) rfl
                  have q_120 : (-2147483648) ≤ u_112.1 11 12 ∧ u_112.1 11 12 ≤ 2147483647 := iu_112.fi 11 12 9 (by decide) rfl
                  have q_121 : (-2147483648) ≤ u_112.1 11 13 ∧ u_112.1 11 13 ≤ 2147483647 := iu_112.fi 11 13 9 (by decide) rfl
                  have q_122 : 0 ≤ u_112.1 11 14 ∧ u_112.1 11 14 ≤ 7 := iu_112.fi 11 14 9 (by decide) rfl
                  have q_123 : 0 ≤ u_112.1 11 9 ∧ u_112.1 11 9 ≤ 128 := iu_112.fi 11 9 9 (by decide) rfl
                  exact sZret Cx hr hlk hW hL (by omega) ⟨iu_112, F_115, ⟨⟨⟨(fun i => ((xu_112.2.2.2.2.2.2.2 i).trans (((fu_80 11 (p1_no (tau_ne (rfl : tau 11 = .inl 9) lqP.1 (fun h => by cases h)))).2.2.2 i).trans ((xu_69.1.1.1 i).trans (hRK i))))), (fun _ => by first | omega | exact xu_112.1.1.2 (by omega))⟩, by omega, by omega, by omega, by omega⟩, (fun h => absurd h (by omega)), (fun _ => (by rw [eG]; exact eL_f2 (st := (fun p => k p = 23)) hst e1 (oMul_g hnl ((veq_grt wS).mp (xu_85.2.1 (by omega))))))⟩⟩ dX9_term_138
              · refine lv_aload_n hx hb dX9_term_93 rfl (lv_at hl 3 rfl) ?_
                refine g_X9_37 Cx hW (k := 11) (by decide) rfl (v := .ref (G.2.2.1 + 83)) (rf_11_6 iu_69) dX9_term_94 ?_
                refine lv_iload_n hx hb dX9_term_97 rfl (lv_at hl 4 rfl) ?_
                refine rAald Cx hW (k := 83) (by decide) rfl (by decide) (by omega) (by omega) (r2_83f iu_69 hqF (by omega) (by omega)) dX9_term_98 ?_
                refine sBi (sSt (As := [.ref (G.2.2.1 + qF)]) (rest := []) Cx (e_X9_hasCoefficient l G u_69 (qa := qF) iu_69 lqF) (c_X9_214 Cx rfl rfl (rmk_ok (by omega) (by decide))) hW rfl hl.1 rfl (Nat.le_of_ble_eq_true rfl) dX9_term_99 ⟨Nat.le_of_ble_eq_true rfl, Nat.le_of_ble_eq_true rfl⟩) hL (fun r_126 u_124 H locs k_125 hW hL => ?_)
                obtain ⟨eu_124, xu_124⟩ := k_125
                rw [eu_124] at hW
                refine r_if_eq (tgt := 113) hx hb ⟨(by omega), (by omega)⟩ dX9_term_102 (by decide) (fun c_127 => ?_) (fun c_127 => ?_)
                · have hnl : Hd (¬ (hsv V ∧ hsv V1)) := (fun z => xu_124.2.2 (by omega) ((veq_hsv w1).mpr z.2))
                  refine lv_aload_n hx hb dX9_term_113 rfl (lv_at hl 2 rfl) ?_
                  refine lv_aload_n hx hb dX9_term_114 rfl (lv_at hl 3 rfl) ?_
                  refine g_X9_37 Cx hW (k := 11) (by decide) rfl (v := .ref (G.2.2.1 + 83)) (rf_11_6 iu_69) dX9_term_115 ?_
                  refine lv_iload_n hx hb dX9_term_118 rfl (lv_at hl 4 rfl) ?_
                  refine rAald Cx hW (k := 83) (by decide) rfl (by decide) (by omega) (by omega) (r2_83f iu_69 hqF (by omega) (by omega)) dX9_term_119 ?_
                  refine sBv (sSt (As := [.ref (G.2.2.1 + qP), .ref (G.2.2.1 + qF)]) (rest := []) Cx (e_X9_multiply l G u_69 (qa := qP) (qb := qF) iu_69 lqP lqF (by omega) (bV.eq wP) (b1.eq w1)) (c_X9_217 Cx rfl rfl (rmk_ok (by omega) (by decide))) hW rfl hl.1 rfl (Nat.le_of_ble_eq_true rfl) dX9_term_120 ⟨Nat.le_of_ble_eq_true rfl, Nat.le_of_ble_eq_true rfl⟩) hL (fun u_128 H locs k_129 hW hL => ?_)
                  obtain ⟨iu_128, fu_128, xu_128⟩ := k_129
                  have F_130 := F_72.trans (fu_128.to (p1_sub (pEx_y (by omega))))
                  have F_131 := F_73.trans (fu_128.to (p1_sub (pEx_y (by omega))))
                  have F_132 := (Fr.rf : Fr u_69 u_69 pR3).trans (fu_128.to (p1_sub (lr_R lqP)))
                  have wS : veq (u_128.2.2.1 qP) (vml V V1) := veq_tr xu_128 (veq_vml wP w1)
                  refine lv_aload_n hx hb dX9_term_123 rfl (lv_at hl 2 rfl) ?_
                  refine sBi (sSt (As := [.ref (G.2.2.1 + qP)]) (rest := []) Cx (e_X9_isGreat l G u_128 (qa := qP) iu_128 lqP (vbd_ml bV b1 hnl wS)) (c_X9_189 Cx rfl rfl (rmk_ok (by omega) (by decide))) hW rfl hl.1 rfl (Nat.le_of_ble_eq_true rfl) dX9_term_124 ⟨Nat.le_of_ble_eq_true rfl, Nat.le_of_ble_eq_true rfl⟩) hL (fun r_135 u_133 H locs k_134 hW hL => ?_)
                  obtain ⟨eu_133, xu_133⟩ := k_134
                  rw [eu_133] at hW
                  refine r_if_eq (tgt := 139) hx hb ⟨(by omega), (by omega)⟩ dX9_term_127 (by decide) (fun c_136 => ?_) (fun c_136 => ?_)
                  · have ngr : Hd (¬ grt (vml V V1)) := (fun z => xu_133.2.2 (by omega) ((veq_grt wS).mpr z))
                    refine lv_iinc (v := iv (i + 1)) (lv' := [(3, .int (iv (i + 1))), (4, .int (iv (S33.1 11 13))), (2, .ref (G.2.2.1 + qP)), (0, .ref (G.2.2.1 + 11)), (1, .int (iv dd))]) hx hb dX9_term_139 hl (k := 1) rfl ((Int32.ofInt_add _ _).symm) (by decide) rfl (fun ls hl => ?_)
                    refine lv_goto (tgt := 33) hx hb dX9_term_142 (by decide) ?_
                    have q_137 : 0 ≤ u_69.1 11 10 ∧ u_69.1 11 10 ≤ 8 := iu_69.fi 11 10 9 (by decide) rfl
                    have lk_138 : u_128.1 11 10 = u_69.1 11 10 := (fu_128 11 (p1_no (tau_ne (rfl : tau 11 = .inl 9) lqP.1 (fun h => by cases h)))).1 10
                    have q_139 : 0 ≤ u_69.1 11 11 ∧ u_69.1 11 11 ≤ 12 := iu_69.fi 11 11 9 (by decide) rfl
                    have lk_140 : u_128.1 11 11 = u_69.1 11 11 := (fu_128 11 (p1_no (tau_ne (rfl : tau 11 = .inl 9) lqP.1 (fun h => by cases h)))).1 11
                    have q_141 : (-2147483648) ≤ u_69.1 11 12 ∧ u_69.1 11 12 ≤ 2147483647 := iu_69.fi 11 12 9 (by decide) rfl
                    have lk_142 : u_128.1 11 12 = u_69.1 11 12 := (fu_128 11 (p1_no (tau_ne (rfl : tau 11 = .inl 9) lqP.1 (fun h => by cases h)))).1 12
                    have q_143 : (-2147483648) ≤ u_69.1 11 13 ∧ u_69.1 11 13 ≤ 2147483647 := iu_69.fi 11 13 9 (by decide) rfl
                    have lk_144 : u_128.1 11 13 = u_69.1 11 13 := (fu_128 11 (p1_no (tau_ne (rfl : tau 11 = .inl 9) lqP.1 (fun h => by cases h)))).1 13
                    have q_145 : 0 ≤ u_69.1 11 14 ∧ u_69.1 11 14 ≤ 7 := iu_69.fi 11 14 9 (by decide) rfl
                    have lk_146 : u_128.1 11 14 = u_69.1 11 14 := (fu_128 11 (p1_no (tau_ne (rfl : tau 11 = .inl 9) lqP.1 (fun h => by cases h)))).1 14
                    have q_147 : 0 ≤ u_69.1 11 9 ∧ u_69.1 11 9 ≤ 128 := iu_69.fi 11 9 9 (by decide) rfl
                    have lk_148 : u_128.1 11 9 = u_69.1 11 9 := (fu_128 11 (p1_no (tau_ne (rfl : tau 11 = .inl 9) lqP.1 (fun h => by cases h)))).1 9
                    have nr_149 : NRc N u_128 := n1.of (by omega) (fun j => (F_132 16 rfl).2.2.1 j) (fun j => (F_132 17 rfl).2.1 j) (fun j => (F_132 18 rfl).2.1 j)
                    exact ih_33 u_128 (i + 1) _ _ _ (by omega) iu_128 F_130 F_131 (fun i => (((fu_128 11 (p1_no (tau_ne (rfl : tau 11 = .inl 9) lqP.1 (fun h => by cases h)))).2.2.2 i).trans ((xu_69.1.1.1 i).trans (hRK i)))) (by omega) (by omega) (by omega) (by omega) nr_149 (by rw [show u_128.1 11 13 = q2 by omega]; exact hw2) ⟨(vml V V1), (by rw [eG, eL_so (st := (fun p => k p = 23)) hsT hRi hst e1 (oMul_s hnl ngr), show u_128.1 11 13 = q2 by omega, show u_128.1 11 12 = u_69.1 11 12 by omega]), wS, vb9_n ngr⟩ hW hL (lv_sub hl [0, 2, 3, 4] rfl)
                  · refine lv_aload_n hx hb dX9_term_130 rfl (lv_at hl 3 rfl) ?_
                    refine lv_bipush (v := iv 6) hx hb dX9_term_131 (by decide) ?_
                    refine lv_iload hx hb dX9_term_133 (lv_at hl 0 rfl) ?_
                    have q_150 : (-2147483648) ≤ u_69.1 11 13 ∧ u_69.1 11 13 ≤ 2147483647 := iu_69.fi 11 13 9 (by decide) rfl
                    have lk_151 : u_128.1 11 13 = u_69.1 11 13 := (fu_128 11 (p1_no (tau_ne (rfl : tau 11 = .inl 9) lqP.1 (fun h => by cases h)))).1 13
                    have q_152 : 0 ≤ u_69.1 11 9 ∧ u_69.1 11 9 ≤ 128 := iu_69.fi 11 9 9 (by decide) rfl
                    have lk_153 : u_128.1 11 9 = u_69.1 11 9 := (fu_128 11 (p1_no (tau_ne (rfl : tau 11 = .inl 9) lqP.1 (fun h => by cases h)))).1 9
                    have q_154 : 0 ≤ u_69.1 11 10 ∧ u_69.1 11 10 ≤ 8 := iu_69.fi 11 10 9 (by decide) rfl
                    have lk_155 : u_128.1 11 10 = u_69.1 11 10 := (fu_128 11 (p1_no (tau_ne (rfl : tau 11 = .inl 9) lqP.1 (fun h => by cases h)))).1 10
                    have q_156 : 0 ≤ u_69.1 11 11 ∧ u_69.1 11 11 ≤ 12 := iu_69.fi 11 11 9 (by decide) rfl
                    have lk_157 : u_128.1 11 11 = u_69.1 11 11 := (fu_128 11 (p1_no (tau_ne (rfl : tau 11 = .inl 9) lqP.1 (fun h => by cases h)))).1 11
                    have q_158 : (-2147483648) ≤ u_69.1 11 12 ∧ u_69.1 11 12 ≤ 2147483647 := iu_69.fi 11 12 9 (by decide) rfl
                    have lk_159 : u_128.1 11 12 = u_69.1 11 12 := (fu_128 11 (p1_no (tau_ne (rfl : tau 11 = .inl 9) lqP.1 (fun h => by cases h)))).1 12
                    refine sBi (sV (As := [.int (iv 6), .int (iv (S33.1 11 13))]) (rest := []) (k := 11) Cx (e_X9_fail l G u_128 (k := 6) (tk := S33.1 11 13) iu_128 (by omega) (by omega)) (c_X9_132 Cx rfl rfl (rmk_ok (by omega) (by decide))) hW (by decide) rfl rfl rfl hl.1 rfl (Nat.le_of_ble_eq_true rfl) dX9_term_135 ⟨Nat.le_of_ble_eq_true rfl, Nat.le_of_ble_eq_true rfl⟩) hL (fun r_162 u_160 H locs k_161 hW hL => ?_)
                    obtain ⟨iu_160, fu_160, xu_160⟩ := k_161
                    have F_163 := F_130.trans (fu_160.to (p1_sub (pEx_y (by omega))))
                    have F_164 := F_131.trans (fu_160.to (p1_sub (pEx_y (by omega))))
                    have F_165 := F_132.trans (fu_160.to (p1_sub rfl))
                    have q_166 : 0 ≤ u_160.1 11 10 ∧ u_160.1 11 10 ≤ 8 := iu_160.fi 11 10 9 (by decide) rfl
                    have q_167 : 0 ≤ u_160.1 11 11 ∧ u_160.1 11 11 ≤ 12 := iu_160.fi 11 11 9 (by decide) rfl
                    have q_168 : (-2147483648) ≤ u_160.1 11 12 ∧ u_160.1 11 12 ≤ 2147483647 := iu_160.fi 11 12 9 (by decide) rfl
                    have q_169 : (-2147483648) ≤ u_160.1 11 13 ∧ u_160.1 11 13 ≤ 2147483647 := iu_160.fi 11 13 9 (by decide) rfl
                    have q_170 : 0 ≤ u_160.1 11 14 ∧ u_160.1 11 14 ≤ 7 := iu_160.fi 11 14 9 (by decide) rfl
                    have q_171 : 0 ≤ u_160.1 11 9 ∧ u_160.1 11 9 ≤ 128 := iu_160.fi 11 9 9 (by decide) rfl
                    exact sZret Cx hr hlk hW hL (by omega) ⟨iu_160, F_163, ⟨⟨⟨(fun i => ((xu_160.2.2.2.2.2.2.2 i).trans (((fu_128 11 (p1_no (tau_ne (rfl : tau 11 = .inl 9) lqP.1 (fun h => by cases h)))).2.2.2 i).trans ((xu_69.1.1.1 i).trans (hRK i))))), (fun _ => by first | omega | exact xu_160.1.1.2 (by omega))⟩, by omega, by omega, by omega, by omega⟩, (fun h => absurd h (by omega)), (fun _ => (by rw [eG]; exact eL_f2 (st := (fun p => k p = 23)) hst e1 (oMul_g hnl ((veq_grt wS).mp (xu_133.2.1 (by omega))))))⟩⟩ dX9_term_138
                · refine lv_aload_n hx hb dX9_term_105 rfl (lv_at hl 3 rfl) ?_
                  refine lv_iconst (v := iv 4) hx hb dX9_term_106 (by decide) ?_
                  refine lv_iload hx hb dX9_term_107 (lv_at hl 0 rfl) ?_
                  have q_172 : (-2147483648) ≤ u_69.1 11 13 ∧ u_69.1 11 13 ≤ 2147483647 := iu_69.fi 11 13 9 (by decide) rfl
                  have q_173 : 0 ≤ u_69.1 11 9 ∧ u_69.1 11 9 ≤ 128 := iu_69.fi 11 9 9 (by decide) rfl
                  have q_174 : 0 ≤ u_69.1 11 10 ∧ u_69.1 11 10 ≤ 8 := iu_69.fi 11 10 9 (by decide) rfl
                  have q_175 : 0 ≤ u_69.1 11 11 ∧ u_69.1 11 11 ≤ 12 := iu_69.fi 11 11 9 (by decide) rfl
                  have q_176 : (-2147483648) ≤ u_69.1 11 12 ∧ u_69.1 11 12 ≤ 2147483647 := iu_69.fi 11 12 9 (by decide) rfl
                  refine sBi (sV (As := [.int (iv 4), .int (iv (S33.1 11 13))]) (rest := []) (k := 11) Cx (e_X9_fail l G u_69 (k := 4) (tk := S33.1 11 13) iu_69 (by omega) (by omega)) (c_X9_132 Cx rfl rfl (rmk_ok (by omega) (by decide))) hW (by decide) rfl rfl rfl hl.1 rfl (Nat.le_of_ble_eq_true rfl) dX9_term_109 ⟨Nat.le_of_ble_eq_true rfl, Nat.le_of_ble_eq_true rfl⟩) hL (fun r_179 u_177 H locs k_178 hW hL => ?_)
                  obtain ⟨iu_177, fu_177, xu_177⟩ := k_178
                  have F_180 := F_72.trans (fu_177.to (p1_sub (pEx_y (by omega))))
                  have F_181 := F_73.trans (fu_177.to (p1_sub (pEx_y (by omega))))
                  have F_182 := F_74.trans (fu_177.to (p1_sub (pEx_y (by omega))))
                  have F_183 := (Fr.rf : Fr u_69 u_69 pR3).trans (fu_177.to (p1_sub rfl))
                  have q_184 : 0 ≤ u_177.1 11 10 ∧ u_177.1 11 10 ≤ 8 := iu_177.fi 11 10 9 (by decide) rfl
                  have q_185 : 0 ≤ u_177.1 11 11 ∧ u_177.1 11 11 ≤ 12 := iu_177.fi 11 11 9 (by decide) rfl
                  have q_186 : (-2147483648) ≤ u_177.1 11 12 ∧ u_177.1 11 12 ≤ 2147483647 := iu_177.fi 11 12 9 (by decide) rfl
                  have q_187 : (-2147483648) ≤ u_177.1 11 13 ∧ u_177.1 11 13 ≤ 2147483647 := iu_177.fi 11 13 9 (by decide) rfl
                  have q_188 : 0 ≤ u_177.1 11 14 ∧ u_177.1 11 14 ≤ 7 := iu_177.fi 11 14 9 (by decide) rfl
                  have q_189 : 0 ≤ u_177.1 11 9 ∧ u_177.1 11 9 ≤ 128 := iu_177.fi 11 9 9 (by decide) rfl
                  exact sZret Cx hr hlk hW hL (by omega) ⟨iu_177, F_180, ⟨⟨⟨(fun i => ((xu_177.2.2.2.2.2.2.2 i).trans ((xu_69.1.1.1 i).trans (hRK i)))), (fun _ => by first | omega | exact xu_177.1.1.2 (by omega))⟩, by omega, by omega, by omega, by omega⟩, (fun h => absurd h (by omega)), (fun _ => (by rw [eG]; exact eL_f2 (st := (fun p => k p = 23)) hst e1 (oMul_n ⟨(veq_hsv wP).mp (xu_76.2.1 (by omega)), (veq_hsv w1).mp (xu_124.2.1 (by omega))⟩)))⟩⟩ dX9_term_112
            · refine lv_iconst (v := iv 0) hx hb dX9_term_84 (by decide) ?_
              have q_190 : 0 ≤ u_69.1 11 10 ∧ u_69.1 11 10 ≤ 8 := iu_69.fi 11 10 9 (by decide) rfl
              have q_191 : 0 ≤ u_69.1 11 11 ∧ u_69.1 11 11 ≤ 12 := iu_69.fi 11 11 9 (by decide) rfl
              have q_192 : (-2147483648) ≤ u_69.1 11 12 ∧ u_69.1 11 12 ≤ 2147483647 := iu_69.fi 11 12 9 (by decide) rfl
              have q_193 : (-2147483648) ≤ u_69.1 11 13 ∧ u_69.1 11 13 ≤ 2147483647 := iu_69.fi 11 13 9 (by decide) rfl
              have q_194 : 0 ≤ u_69.1 11 14 ∧ u_69.1 11 14 ≤ 7 := iu_69.fi 11 14 9 (by decide) rfl
              have q_195 : 0 ≤ u_69.1 11 9 ∧ u_69.1 11 9 ≤ 128 := iu_69.fi 11 9 9 (by decide) rfl
              exact sZret Cx hr hlk hW hL (by omega) ⟨iu_69, F_72, ⟨⟨⟨(fun i => ((xu_69.1.1.1 i).trans (hRK i))), (fun _ => by first | omega | exact xu_69.1.1.2 (by omega))⟩, by omega, by omega, by omega, by omega⟩, (fun h => absurd h (by omega)), (fun _ => (by have q9 := xu_69.2.2 (by omega); rw [show (uF S33 11 13 ((S33.1 11 13) + 1)).1 11 12 = S33.1 11 12 by omega] at q9; rw [eG]; exact eL_f1 (st := (fun p => k p = 23)) hst q9))⟩⟩ dX9_term_85
    exact loop_33 (_ + 1) (uD u_7 qF 0 qP 0 13) 0 _ _ _ (Nat.lt_succ_self _) i_14 F_12 Fr.rf (fun i => (xu_7.1.1.1 i)) (by omega) (by omega) (by omega) (by omega) nr_27 (by rw [show (uD u_7 qF 0 qP 0 13).1 11 13 = q0 by omega]; exact hw0) ⟨V0, (by rw [show (uD u_7 qF 0 qP 0 13).1 11 13 = q0 by omega, show (uD u_7 qF 0 qP 0 13).1 11 12 = u_7.1 11 12 by omega]; unfold eP; rw [e0]; rfl), (veq_cp w0), b0⟩ hW hL (lv_sub hl [0, 1, 2, 3] rfl)
  · refine lv_iconst (v := iv 0) hx hb dX9_term_8 (by decide) ?_
    have q_196 : 0 ≤ u_7.1 11 10 ∧ u_7.1 11 10 ≤ 8 := iu_7.fi 11 10 9 (by decide) rfl
    have q_197 : 0 ≤ u_7.1 11 11 ∧ u_7.1 11 11 ≤ 12 := iu_7.fi 11 11 9 (by decide) rfl
    have q_198 : (-2147483648) ≤ u_7.1 11 12 ∧ u_7.1 11 12 ≤ 2147483647 := iu_7.fi 11 12 9 (by decide) rfl
    have q_199 : (-2147483648) ≤ u_7.1 11 13 ∧ u_7.1 11 13 ≤ 2147483647 := iu_7.fi 11 13 9 (by decide) rfl
    have q_200 : 0 ≤ u_7.1 11 14 ∧ u_7.1 11 14 ≤ 7 := iu_7.fi 11 14 9 (by decide) rfl
    have q_201 : 0 ≤ u_7.1 11 9 ∧ u_7.1 11 9 ≤ 128 := iu_7.fi 11 9 9 (by decide) rfl
    exact sZret Cx hr hlk hW hL (by omega) ⟨iu_7, F_10, ⟨⟨⟨(fun i => (xu_7.1.1.1 i)), (fun _ => by first | omega | exact xu_7.1.1.2 (by omega))⟩, by omega, by omega, by omega, by omega⟩, (fun h => absurd h (by omega)), (fun _ => (by have q9 := xu_7.2.2 (by omega); unfold eP; rw [q9]; rfl))⟩⟩ dX9_term_9

set_option maxRecDepth 100000 in
set_option maxHeartbeats 4000000 in
theorem e_X9_expression (l : Launch) (G : sG) (S : sS) {N : sN} {k v : Int → Int} {T pz q dd : Int} {dn qS qP n d1 D : Nat} (hI : cX G S 0 0 0) (hdd : 0 ≤ dd ∧ dd ≤ 29) (hN : Hd (NRc N S)) (hK : Hd (NK N)) (hTV : Hd (TVn k v)) (hkv : Hd (KV S k v T)) (hfk : S.1 11 14 = 0) (hat : S.1 11 13 = pz) (hpz : 0 ≤ pz ∧ pz ≤ 2000) (hlk : 0 ≤ S.1 11 12 ∧ S.1 11 12 ≤ 20000) (hdn : dd = (dn : Int)) (h1 : d1 < D) (h4 : 8 ≤ D) (hn : (n : Int) = 30 - dd) (hnm : N.1 + n ≤ 128) (hqb : q ≤ 2001) (hqS : qS = 20 + dn) (hqP : qP = 52 + dn) (hT : TX l G d1 dd dn) (hgx : Hd (ogU T k (ogF T k n) pz = some q)) : Met l yX9_expression (.code yX9_expression cX9_expression 6 (some .boolean) :: tb) (rmk D 0 0) (sPc G 294 S [.ref (G.2.2.1 + 11), .int (iv dd)]) (sQi G 294 (fun r u => cX G u 0 0 0 ∧ Fr S u (pEx dn dn dn) ∧ (EO S u N q r (eU T k (eF T k v n N) (S.1 11 12) pz) qS))) 0 0 (sF G) := by
  refine sEnter (by decide) (Nat.le_of_ble_eq_true rfl) ?_
  intro p e s m args below meth c Cx hr hlk hnm hW ls hl
  have Cx : sC G p m c cX9_expression 6 s args RX9 := Cx
  obtain ⟨hx, hb, hml, hown, hts⟩ := id Cx.1
  have hL : sL G [] := sL_nil
  have hl : lv_has ls 6 [(0, .ref (G.2.2.1 + 11)), (1, .int (iv dd))] := hl
  have hW0 := hW
  have lqS := lr_19 hqS (by omega)
  have lqP := lr_51 hqP (by omega)
  have hkn : 0 ≤ S.1 11 9 ∧ S.1 11 9 ≤ 128 := hI.fi 11 9 9 (by decide) rfl
  have hTb : 0 ≤ S.1 12 3 ∧ S.1 12 3 ≤ 2001 := hI.fi 12 3 8 (by decide) rfl
  have hTe := hkv.2.2
  have hN1 := hN.1
  obtain ⟨q0, hg0, hw0⟩ := ogB hgx
  have hq0 := ogP_inc (ogF_inc n) _ _ hg0
  have hsT : Hd (∀ p, (fun p => k p = 21 ∨ k p = 22) p → p < T) := (fun p c => hkv.lt rfl (fun z => by have c : k p = 21 ∨ k p = 22 := c; omega))
  have hRi : Hd (RInc (eP T k (eF T k v n N))) := (eP_inc (eF_inc n N))
  have hgR : Hd (∀ p q, (fun p => k p = 21 ∨ k p = 22) p → (fun p => ogP T k (ogF T k n) (p + 1)) p = some q → p < q) := (fun p q _ h => by have h : ogP T k (ogF T k n) (p + 1) = some q := h; have h2 := ogP_inc (ogF_inc n) _ _ h; omega)
  have hqq := ogW_le hgR _ _ hw0
  refine lv_iload_n hx hb dX9_expression_0 rfl (lv_at hl 1 rfl) ?_
  refine lv_bipush (v := iv 30) hx hb dX9_expression_1 (by decide) ?_
  refine r_icmp_lt (tgt := 16) hx hb ⟨(by omega), (by omega)⟩ ⟨(by omega), (by omega)⟩ dX9_expression_3 (by decide) (fun c_1 => ?_) (fun c_1 => ?_)
  · refine lv_aload_n hx hb dX9_expression_16 rfl (lv_at hl 0 rfl) ?_
    refine lv_iload_n hx hb dX9_expression_17 rfl (lv_at hl 1 rfl) ?_
    have q_2 : 0 ≤ S.1 11 10 ∧ S.1 11 10 ≤ 8 := hI.fi 11 10 9 (by decide) rfl
    have q_3 : 0 ≤ S.1 11 11 ∧ S.1 11 11 ≤ 12 := hI.fi 11 11 9 (by decide) rfl
    have q_4 : (-2147483648) ≤ S.1 11 12 ∧ S.1 11 12 ≤ 2147483647 := hI.fi 11 12 9 (by decide) rfl
    have q_5 : (-2147483648) ≤ S.1 11 13 ∧ S.1 11 13 ≤ 2147483647 := hI.fi 11 13 9 (by decide) rfl
    have q_6 : 0 ≤ S.1 11 14 ∧ S.1 11 14 ≤ 7 := hI.fi 11 14 9 (by decide) rfl
    have q_7 : 0 ≤ S.1 11 9 ∧ S.1 11 9 ≤ 128 := hI.fi 11 9 9 (by decide) rfl
    refine sBi (sV (As := [.int (iv dd)]) (rest := []) (k := 11) Cx (hT S N k v T (pz) q0 n hI ⟨hN, hK, hTV, hkv, (by omega), (by omega), (by omega), ⟨by omega, by omega⟩⟩ (by omega) (by omega) (by omega) hg0) (c_X9_208 Cx rfl rfl (rmk_ok (by omega) (by decide))) hW (by decide) rfl rfl rfl hl.1 rfl (Nat.le_of_ble_eq_true rfl) dX9_expression_18 ⟨Nat.le_of_ble_eq_true rfl, Nat.le_of_ble_eq_true rfl⟩) hL (fun r_10 u_8 H locs k_9 hW hL => ?_)
    obtain ⟨iu_8, fu_8, xu_8⟩ := k_9
    have yu_8 := xu_8.1.2
    have F_11 := (Fr.rf : Fr S S (pEx dn dn dn)).trans (fu_8.to (pEx_s (by omega) (by omega) (by omega)))
    refine r_if_ne (tgt := 26) hx hb ⟨(by omega), (by omega)⟩ dX9_expression_21 (by decide) (fun c_12 => ?_) (fun c_12 => ?_)
    · obtain ⟨V0, e0, w0, b0, l0, pp0, ff0, n0⟩ := xu_8.2.1 (by omega)
      rw [← hqP] at w0
      refine lv_aload_n hx hb dX9_expression_26 rfl (lv_at hl 0 rfl) ?_
      refine g_X9_31 Cx hW (k := 11) (by decide) rfl (v := .ref (G.2.2.1 + 19)) (rf_11_4 iu_8) dX9_expression_27 ?_
      refine lv_iload_n hx hb dX9_expression_30 rfl (lv_at hl 1 rfl) ?_
      refine rAald Cx hW (k := 19) (by decide) rfl (by decide) (by omega) (by omega) (r2_19f iu_8 hqS (by omega) (by omega)) dX9_expression_31 ?_
      refine lv_astore_n (lv' := [(2, .ref (G.2.2.1 + qS)), (0, .ref (G.2.2.1 + 11)), (1, .int (iv dd))]) hx hb dX9_expression_32 rfl hl (by decide) rfl (fun ls hl => ?_)
      refine lv_aload_n hx hb dX9_expression_33 rfl (lv_at hl 1 rfl) ?_
      refine g_X9_34 Cx hW (k := 11) (by decide) rfl (v := .ref (G.2.2.1 + 51)) (rf_11_5 iu_8) dX9_expression_34 ?_
      refine lv_iload_n hx hb dX9_expression_37 rfl (lv_at hl 2 rfl) ?_
      refine rAald Cx hW (k := 51) (by decide) rfl (by decide) (by omega) (by omega) (r2_51f iu_8 hqP (by omega) (by omega)) dX9_expression_38 ?_
      refine lv_iconst (v := iv 0) hx hb dX9_expression_39 (by decide) ?_
      refine lv_aload_n hx hb dX9_expression_40 rfl (lv_at hl 0 rfl) ?_
      refine lv_iconst (v := iv 0) hx hb dX9_expression_41 (by decide) ?_
      refine lv_bipush (v := iv 13) hx hb dX9_expression_42 (by decide) ?_
      refine rCopyL Cx hW hL (hml.trans hl.1.symm) w_1087 w_1089 w_1088 w_224 (k0 := qP) (k1 := qS) (lr_l lqP) lqP.1 (lr_l lqS) lqS.1 (by decide) (by decide) (by omega) (by omega) (by omega) (by omega) (by omega) (rmk_f (by omega)) (rmk_l (by omega) (by decide)) dX9_expression_44 (fun H locs hW hL => ?_)
      have F_13 : Fr S (uD u_8 qP 0 qS 0 13) (pEx dn dn dn) := F_11.D (pEx_y (by omega))
      have F_14 : Fr u_8 (uD u_8 qP 0 qS 0 13) pR3 := (Fr.rf : Fr u_8 u_8 pR3).D (lr_R lqS)
      have i_15 : cX G (uD u_8 qP 0 qS 0 13) 0 0 0 := iu_8.D (lr_k lqP)
      have q_16 : 0 ≤ u_8.1 11 10 ∧ u_8.1 11 10 ≤ 8 := iu_8.fi 11 10 9 (by decide) rfl
      have lk_17 : (uD u_8 qP 0 qS 0 13).1 11 10 = u_8.1 11 10 := uD_f
      have q_18 : 0 ≤ u_8.1 11 11 ∧ u_8.1 11 11 ≤ 12 := iu_8.fi 11 11 9 (by decide) rfl
      have lk_19 : (uD u_8 qP 0 qS 0 13).1 11 11 = u_8.1 11 11 := uD_f
      have q_20 : (-2147483648) ≤ u_8.1 11 12 ∧ u_8.1 11 12 ≤ 2147483647 := iu_8.fi 11 12 9 (by decide) rfl
      have lk_21 : (uD u_8 qP 0 qS 0 13).1 11 12 = u_8.1 11 12 := uD_f
      have q_22 : (-2147483648) ≤ u_8.1 11 13 ∧ u_8.1 11 13 ≤ 2147483647 := iu_8.fi 11 13 9 (by decide) rfl
      have lk_23 : (uD u_8 qP 0 qS 0 13).1 11 13 = u_8.1 11 13 := uD_f
      have q_24 : 0 ≤ u_8.1 11 14 ∧ u_8.1 11 14 ≤ 7 := iu_8.fi 11 14 9 (by decide) rfl
      have lk_25 : (uD u_8 qP 0 qS 0 13).1 11 14 = u_8.1 11 14 := uD_f
      have q_26 : 0 ≤ u_8.1 11 9 ∧ u_8.1 11 9 ≤ 128 := iu_8.fi 11 9 9 (by decide) rfl
      have lk_27 : (uD u_8 qP 0 qS 0 13).1 11 9 = u_8.1 11 9 := uD_f
      have nr_28 : NRc N (uD u_8 qP 0 qS 0 13) := n0.of (by omega) (fun j => (F_14 16 rfl).2.2.1 j) (fun j => (F_14 17 rfl).2.1 j) (fun j => (F_14 18 rfl).2.1 j)
      refine lv_iconst (v := iv 0) hx hb dX9_expression_47 (by decide) ?_
      refine lv_istore_n (lv' := [(3, .int (iv 0)), (2, .ref (G.2.2.1 + qS)), (0, .ref (G.2.2.1 + 11)), (1, .int (iv dd))]) hx hb dX9_expression_48 rfl hl (by decide) rfl (fun ls hl => ?_)
      have loop_49 : ∀ (fuel : Nat) (S49 : sS) (i : Int) (H : Heap) (locs : List Loc) (ls : Array Slot), (2001 - i).toNat < fuel → (cX G S49 0 0 0) → (Fr S S49 (pEx dn dn dn)) → (Fr ((uD u_8 qP 0 qS 0 13)) S49 (pEx dn dn dn)) → (Hd (RK S S49)) → (0 ≤ i ∧ i ≤ 2001) → (pz + 1 + i ≤ S49.1 11 13) → (S49.1 11 14 = 0 ∧ S49.1 11 10 = S.1 11 10 ∧ S49.1 11 11 = S.1 11 11) → (0 ≤ S49.1 11 12 ∧ S49.1 11 12 ≤ 20000) → (Hd (NRc N S49)) → (Hd (ogW T (fun p => k p = 21 ∨ k p = 22) (fun p => ogP T k (ogF T k n) (p + 1)) (S49.1 11 13) = some q)) → (Hd (∃ V, eU T k (eF T k v n N) (S.1 11 12) pz = eL T (fun p => k p = 21 ∨ k p = 22) (eP T k (eF T k v n N)) (oAdd k) (S49.1 11 13, V, S49.1 11 12) ∧ veq (S49.2.2.1 qS) V ∧ vb9 V)) → sW G 294 S49 H → sL G locs → lv_has ls 6 [(3, .int (iv i)), (2, .ref (G.2.2.1 + qS)), (0, .ref (G.2.2.1 + 11)), (1, .int (iv dd))] → W p l e (rmk D 0 0) s m args below meth c H locs 0 0 (MQ below (sQi G 294 (fun r u => cX G u 0 0 0 ∧ Fr S u (pEx dn dn dn) ∧ (EO S u N q r (eU T k (eF T k v n N) (S.1 11 12) pz) qS))) args s 0 0 (sF G)) (F0 m 49 ls []) := by
        intro fuel
        induction fuel with
        | zero => intro S49 i H locs ls hmeas hI49 hFm49 hL49_ hRK hi hp hfL hlL hNL hw hG hW hL hl; exact absurd hmeas (Nat.not_lt_zero _)
        | succ fuel ih_49 =>
          intro S49 i H locs ls hmeas hI49 hFm49 hL49_ hRK hi hp hfL hlL hNL hw hG hW hL hl
          obtain ⟨V, eG, wV, bV⟩ := hG
          have hwl := ogW_le hgR _ _ hw
          refine lv_iload_n hx hb dX9_expression_49 rfl (lv_at hl 0 rfl) ?_
          refine lv_aload_n hx hb dX9_expression_50 rfl (lv_at hl 2 rfl) ?_
          refine g_X9_14 Cx hW (k := 11) (by decide) rfl (v := .ref (G.2.2.1 + 12)) (rf_11_0 hI49) dX9_expression_51 ?_
          have q_29 : 0 ≤ S.1 12 3 ∧ S.1 12 3 ≤ 2001 := hI.fi 12 3 8 (by decide) rfl
          have lk_30 : S49.1 12 3 = S.1 12 3 := ((hL49_ 12 (pEx_n (by omega))).1 3).trans ((uD_f).trans ((fu_8 12 (pEx_n (by omega))).1 3))
          refine sBi (sV (As := []) (rest := [.int (iv i)]) (k := 12) Cx (s_X8_tokenCount l G S49  hI49) (c_X9_92 Cx rfl rfl (rmk_ok (by omega) (by decide))) hW (by decide) rfl rfl rfl hl.1 rfl (Nat.le_of_ble_eq_true rfl) dX9_expression_54 ⟨Nat.le_of_ble_eq_true rfl, Nat.le_of_ble_eq_true rfl⟩) hL (fun r_33 u_31 H locs k_32 hW hL => ?_)
          obtain ⟨eu_31, xu_31⟩ := k_32
          rw [eu_31] at hW
          refine r_icmp_ge (tgt := 157) hx hb ⟨(by omega), (by omega)⟩ ⟨(by omega), (by omega)⟩ dX9_expression_57 (by decide) (fun c_34 => ?_) (fun c_34 => ?_)
          · refine lv_iconst (v := iv 1) hx hb dX9_expression_157 (by decide) ?_
            have q_35 : 0 ≤ S49.1 11 10 ∧ S49.1 11 10 ≤ 8 := hI49.fi 11 10 9 (by decide) rfl
            have q_36 : 0 ≤ S49.1 11 11 ∧ S49.1 11 11 ≤ 12 := hI49.fi 11 11 9 (by decide) rfl
            have q_37 : (-2147483648) ≤ S49.1 11 12 ∧ S49.1 11 12 ≤ 2147483647 := hI49.fi 11 12 9 (by decide) rfl
            have q_38 : (-2147483648) ≤ S49.1 11 13 ∧ S49.1 11 13 ≤ 2147483647 := hI49.fi 11 13 9 (by decide) rfl
            have q_39 : 0 ≤ S49.1 11 14 ∧ S49.1 11 14 ≤ 7 := hI49.fi 11 14 9 (by decide) rfl
            have q_40 : 0 ≤ S49.1 11 9 ∧ S49.1 11 9 ≤ 128 := hI49.fi 11 9 9 (by decide) rfl
            exact sZret Cx hr hlk hW hL (by omega) ⟨hI49, hFm49, (by have hns : Hd (¬ (fun p => k p = 21 ∨ k p = 22) (S49.1 11 13)) := (show ¬ (k (S49.1 11 13) = 21 ∨ k (S49.1 11 13) = 22) by rw [hkv.z (S49.1 11 13) (by omega)]; decide); have hqe := ogW_q (st := (fun p => k p = 21 ∨ k p = 22)) hns hw; exact ⟨⟨⟨(fun i => (hRK i)), (fun h => absurd h (by decide))⟩, by omega, by omega, by omega, by omega⟩, (fun _ => ⟨V, (by rw [eG, eL_no (st := (fun p => k p = 21 ∨ k p = 22)) hns, ← hqe]), wV, bV, ⟨by omega, by omega⟩, (by omega), (by omega), hNL⟩), (fun h => absurd h (by decide))⟩)⟩ dX9_expression_158
          · refine lv_aload_n hx hb dX9_expression_60 rfl (lv_at hl 2 rfl) ?_
            have q_41 : (-2147483648) ≤ S49.1 11 13 ∧ S49.1 11 13 ≤ 2147483647 := hI49.fi 11 13 9 (by decide) rfl
            refine g_X9_89 Cx hW (k := 11) (by decide) rfl (v := S49.1 11 13) rfl dX9_expression_61 ?_
            refine lv_istore (lv' := [(4, .int (iv (S49.1 11 13))), (3, .int (iv i)), (2, .ref (G.2.2.1 + qS)), (0, .ref (G.2.2.1 + 11)), (1, .int (iv dd))]) hx hb dX9_expression_64 hl (by decide) rfl (fun ls hl => ?_)
            refine lv_aload_n hx hb dX9_expression_66 rfl (lv_at hl 3 rfl) ?_
            refine g_X9_14 Cx hW (k := 11) (by decide) rfl (v := .ref (G.2.2.1 + 12)) (rf_11_0 hI49) dX9_expression_67 ?_
            refine lv_iload hx hb dX9_expression_70 (lv_at hl 0 rfl) ?_
            refine sBi (sV (As := [.int (iv (S49.1 11 13))]) (rest := []) (k := 12) Cx (s_X8_kind l G S49 (k := S49.1 11 13) hI49 (by omega)) (c_X9_95 Cx rfl rfl (rmk_ok (by omega) (by decide))) hW (by decide) rfl rfl rfl hl.1 rfl (Nat.le_of_ble_eq_true rfl) dX9_expression_72 ⟨Nat.le_of_ble_eq_true rfl, Nat.le_of_ble_eq_true rfl⟩) hL (fun r_44 u_42 H locs k_43 hW hL => ?_)
            obtain ⟨eu_42, xu_42⟩ := k_43
            rw [eu_42] at hW
            have kv_45 : KV S49 k v T := hkv.fr hFm49 (pEx_n (by omega)) (pEx_n (by omega)) (pEx_n (by omega))
            have kp : r_44 = k (S49.1 11 13) := (by rw [← kv_45.1]; exact xu_42.1)
            refine lv_istore (lv' := [(5, .int (iv r_44)), (4, .int (iv (S49.1 11 13))), (3, .int (iv i)), (2, .ref (G.2.2.1 + qS)), (0, .ref (G.2.2.1 + 11)), (1, .int (iv dd))]) hx hb dX9_expression_75 hl (by decide) rfl (fun ls hl => ?_)
            refine lv_iload hx hb dX9_expression_77 (lv_at hl 0 rfl) ?_
            refine lv_bipush (v := iv 21) hx hb dX9_expression_79 (by decide) ?_
            refine r_icmp_eq (tgt := 93) hx hb ⟨(by omega), (by omega)⟩ ⟨(by omega), (by omega)⟩ dX9_expression_81 (by decide) (fun c_46 => ?_) (fun c_46 => ?_)
            · have hst : Hd ((fun p => k p = 21 ∨ k p = 22) (S49.1 11 13)) := (show k (S49.1 11 13) = 21 ∨ k (S49.1 11 13) = 22 by omega)
              obtain ⟨q2, hg2, hw2⟩ := ogW_ii hsT hgR hst hw
              have hg2 : ogP T k (ogF T k n) (S49.1 11 13 + 1) = some q2 := hg2
              have hq2 := ogP_inc (ogF_inc n) _ _ hg2
              have hpT := hsT _ hst
              have hql := ogW_le hgR _ _ hw2
              refine lv_aload_n hx hb dX9_expression_93 rfl (lv_at hl 4 rfl) ?_
              refine lv_dup hx hb dX9_expression_94 rfl ?_
              refine g_X9_89 Cx hW (k := 11) (by decide) rfl (v := S49.1 11 13) rfl dX9_expression_95 ?_
              refine lv_iconst (v := iv 1) hx hb dX9_expression_98 (by decide) ?_
              refine r_iadd hx hb dX9_expression_99 ?_
              refine p_X9_89 Cx hW hL (k := 11) (by decide) rfl dX9_expression_100 (fun H locs hW hL => ?_)
              have F_47 : Fr S (uF S49 11 13 ((S49.1 11 13) + 1)) (pEx dn dn dn) := hFm49.F (pEx_y (by omega))
              have F_48 : Fr ((uD u_8 qP 0 qS 0 13)) (uF S49 11 13 ((S49.1 11 13) + 1)) (pEx dn dn dn) := hL49_.F (pEx_y (by omega))
              have F_49 : Fr S49 (uF S49 11 13 ((S49.1 11 13) + 1)) pR3 := (Fr.rf : Fr S49 S49 pR3).F rfl
              have F_50 : Fr S49 (uF S49 11 13 ((S49.1 11 13) + 1)) (pEx (dn + 1) dn dn) := (Fr.rf : Fr S49 S49 (pEx (dn + 1) dn dn)).F (pEx_y (by omega))
              have i_51 : cX G (uF S49 11 13 ((S49.1 11 13) + 1)) 0 0 0 := hI49.F rfl rfl (show (-2147483648) ≤ (S49.1 11 13) + 1 ∧ (S49.1 11 13) + 1 ≤ 2147483647 from ⟨by omega, by omega⟩)
              refine lv_aload_n hx hb dX9_expression_103 rfl (lv_at hl 4 rfl) ?_
              refine lv_iload_n hx hb dX9_expression_104 rfl (lv_at hl 5 rfl) ?_
              have q_52 : 0 ≤ S49.1 11 10 ∧ S49.1 11 10 ≤ 8 := hI49.fi 11 10 9 (by decide) rfl
              have lk_53 : (uF S49 11 13 ((S49.1 11 13) + 1)).1 11 10 = S49.1 11 10 := uF_ne (fun h => absurd h.2 (by decide))
              have q_54 : 0 ≤ S49.1 11 11 ∧ S49.1 11 11 ≤ 12 := hI49.fi 11 11 9 (by decide) rfl
              have lk_55 : (uF S49 11 13 ((S49.1 11 13) + 1)).1 11 11 = S49.1 11 11 := uF_ne (fun h => absurd h.2 (by decide))
              have q_56 : (-2147483648) ≤ S49.1 11 12 ∧ S49.1 11 12 ≤ 2147483647 := hI49.fi 11 12 9 (by decide) rfl
              have lk_57 : (uF S49 11 13 ((S49.1 11 13) + 1)).1 11 12 = S49.1 11 12 := uF_ne (fun h => absurd h.2 (by decide))
              have lk_58 : (uF S49 11 13 ((S49.1 11 13) + 1)).1 11 13 = (S49.1 11 13) + 1 := uF_on
              have q_59 : 0 ≤ S49.1 11 14 ∧ S49.1 11 14 ≤ 7 := hI49.fi 11 14 9 (by decide) rfl
              have lk_60 : (uF S49 11 13 ((S49.1 11 13) + 1)).1 11 14 = S49.1 11 14 := uF_ne (fun h => absurd h.2 (by decide))
              have q_61 : 0 ≤ S49.1 11 9 ∧ S49.1 11 9 ≤ 128 := hI49.fi 11 9 9 (by decide) rfl
              have lk_62 : (uF S49 11 13 ((S49.1 11 13) + 1)).1 11 9 = S49.1 11 9 := uF_ne (fun h => absurd h.2 (by decide))
              have nr_63 : NRc N (uF S49 11 13 ((S49.1 11 13) + 1)) := hNL.of (by omega) (fun j => (F_49 16 rfl).2.2.1 j) (fun j => (F_49 17 rfl).2.1 j) (fun j => (F_49 18 rfl).2.1 j)
              have kv_64 : KV (uF S49 11 13 ((S49.1 11 13) + 1)) k v T := hkv.fr F_47 (pEx_n (by omega)) (pEx_n (by omega)) (pEx_n (by omega))
              refine sBi (sV (As := [.int (iv dd)]) (rest := []) (k := 11) Cx (hT (uF S49 11 13 ((S49.1 11 13) + 1)) N k v T (S49.1 11 13 + 1) q2 n i_51 ⟨nr_63, hK, hTV, kv_64, (by omega), (by omega), (by omega), ⟨by omega, by omega⟩⟩ (by omega) (by omega) (by omega) hg2) (c_X9_208 Cx rfl rfl (rmk_ok (by omega) (by decide))) hW (by decide) rfl rfl rfl hl.1 rfl (Nat.le_of_ble_eq_true rfl) dX9_expression_105 ⟨Nat.le_of_ble_eq_true rfl, Nat.le_of_ble_eq_true rfl⟩) hL (fun r_67 u_65 H locs k_66 hW hL => ?_)
              obtain ⟨iu_65, fu_65, xu_65⟩ := k_66
              have yu_65 := xu_65.1.2
              have F_68 := F_47.trans (fu_65.to (pEx_s (by omega) (by omega) (by omega)))
              have F_69 := F_48.trans (fu_65.to (pEx_s (by omega) (by omega) (by omega)))
              have F_70 := F_50.trans fu_65
              refine r_if_ne (tgt := 113) hx hb ⟨(by omega), (by omega)⟩ dX9_expression_108 (by decide) (fun c_71 => ?_) (fun c_71 => ?_)
              · obtain ⟨V1, e1, w1, b1, l1, pp1, f1, n1⟩ := xu_65.2.1 (by omega)
                rw [← hqP] at w1
                rw [show (uF S49 11 13 ((S49.1 11 13) + 1)).1 11 12 = S49.1 11 12 by omega] at e1
                have wP : veq (u_65.2.2.1 qS) V := veq_tr (fun j a b => (F_70 qS (pEx_n (by omega))).2.2.1 j) wV
                refine lv_aload_n hx hb dX9_expression_113 rfl (lv_at hl 3 rfl) ?_
                refine lv_aload_n hx hb dX9_expression_114 rfl (lv_at hl 4 rfl) ?_
                refine g_X9_34 Cx hW (k := 11) (by decide) rfl (v := .ref (G.2.2.1 + 51)) (rf_11_5 iu_65) dX9_expression_115 ?_
                refine lv_iload_n hx hb dX9_expression_118 rfl (lv_at hl 5 rfl) ?_
                refine rAald Cx hW (k := 51) (by decide) rfl (by decide) (by omega) (by omega) (r2_51f iu_65 hqP (by omega) (by omega)) dX9_expression_119 ?_
                refine lv_iload hx hb dX9_expression_120 (lv_at hl 0 rfl) ?_
                refine lv_bipush (v := iv 21) hx hb dX9_expression_122 (by decide) ?_
                refine r_icmp_ne (tgt := 131) hx hb ⟨(by omega), (by omega)⟩ ⟨(by omega), (by omega)⟩ dX9_expression_124 (by decide) (fun c_72 => ?_) (fun c_72 => ?_)
                · exfalso; omega
                · refine lv_iconst (v := iv 1) hx hb dX9_expression_127 (by decide) ?_
                  refine lv_goto (tgt := 132) hx hb dX9_expression_128 (by decide) ?_
                  refine sBv (sSt (As := [.ref (G.2.2.1 + qS), .ref (G.2.2.1 + qP), .int (iv 1)]) (rest := []) Cx (e_X9_addTo l G u_65 (qa := qS) (qb := qP) (t := 1) iu_65 lqS lqP (by omega) (by omega) (bV.eq wP).bd (b1.eq w1).bd) (c_X9_185 Cx rfl rfl (rmk_ok (by omega) (by decide))) hW rfl hl.1 rfl (Nat.le_of_ble_eq_true rfl) dX9_expression_132 ⟨Nat.le_of_ble_eq_true rfl, Nat.le_of_ble_eq_true rfl⟩) hL (fun u_73 H locs k_74 hW hL => ?_)
                  obtain ⟨iu_73, fu_73, xu_73⟩ := k_74
                  have F_75 := F_68.trans (fu_73.to (p1_sub (pEx_y (by omega))))
                  have F_76 := F_69.trans (fu_73.to (p1_sub (pEx_y (by omega))))
                  have F_77 := (Fr.rf : Fr u_65 u_65 pR3).trans (fu_73.to (p1_sub (lr_R lqS)))
                  have wS : veq (u_73.2.2.1 qS) (vad V V1 1) := veq_tr xu_73 (veq_vad wP w1)
                  refine lv_aload_n hx hb dX9_expression_135 rfl (lv_at hl 3 rfl) ?_
                  refine sBi (sSt (As := [.ref (G.2.2.1 + qS)]) (rest := []) Cx (e_X9_isGreat l G u_73 (qa := qS) iu_73 lqS (vbd_ad bV b1 (.inl rfl) wS)) (c_X9_189 Cx rfl rfl (rmk_ok (by omega) (by decide))) hW rfl hl.1 rfl (Nat.le_of_ble_eq_true rfl) dX9_expression_136 ⟨Nat.le_of_ble_eq_true rfl, Nat.le_of_ble_eq_true rfl⟩) hL (fun r_80 u_78 H locs k_79 hW hL => ?_)
                  obtain ⟨eu_78, xu_78⟩ := k_79
                  rw [eu_78] at hW
                  refine r_if_eq (tgt := 151) hx hb ⟨(by omega), (by omega)⟩ dX9_expression_139 (by decide) (fun c_81 => ?_) (fun c_81 => ?_)
                  · have ngr : Hd (¬ grt (vad V V1 1)) := (fun z => xu_78.2.2 (by omega) ((veq_grt wS).mpr z))
                    refine lv_iinc (v := iv (i + 1)) (lv' := [(3, .int (iv (i + 1))), (5, .int (iv r_44)), (4, .int (iv (S49.1 11 13))), (2, .ref (G.2.2.1 + qS)), (0, .ref (G.2.2.1 + 11)), (1, .int (iv dd))]) hx hb dX9_expression_151 hl (k := 2) rfl ((Int32.ofInt_add _ _).symm) (by decide) rfl (fun ls hl => ?_)
                    refine lv_goto (tgt := 49) hx hb dX9_expression_154 (by decide) ?_
                    have q_82 : 0 ≤ u_65.1 11 10 ∧ u_65.1 11 10 ≤ 8 := iu_65.fi 11 10 9 (by decide) rfl
                    have lk_83 : u_73.1 11 10 = u_65.1 11 10 := (fu_73 11 (p1_no (tau_ne (rfl : tau 11 = .inl 9) lqS.1 (fun h => by cases h)))).1 10
                    have q_84 : 0 ≤ u_65.1 11 11 ∧ u_65.1 11 11 ≤ 12 := iu_65.fi 11 11 9 (by decide) rfl
                    have lk_85 : u_73.1 11 11 = u_65.1 11 11 := (fu_73 11 (p1_no (tau_ne (rfl : tau 11 = .inl 9) lqS.1 (fun h => by cases h)))).1 11
                    have q_86 : (-2147483648) ≤ u_65.1 11 12 ∧ u_65.1 11 12 ≤ 2147483647 := iu_65.fi 11 12 9 (by decide) rfl
                    have lk_87 : u_73.1 11 12 = u_65.1 11 12 := (fu_73 11 (p1_no (tau_ne (rfl : tau 11 = .inl 9) lqS.1 (fun h => by cases h)))).1 12
                    have q_88 : (-2147483648) ≤ u_65.1 11 13 ∧ u_65.1 11 13 ≤ 2147483647 := iu_65.fi 11 13 9 (by decide) rfl
                    have lk_89 : u_73.1 11 13 = u_65.1 11 13 := (fu_73 11 (p1_no (tau_ne (rfl : tau 11 = .inl 9) lqS.1 (fun h => by cases h)))).1 13
                    have q_90 : 0 ≤ u_65.1 11 14 ∧ u_65.1 11 14 ≤ 7 := iu_65.fi 11 14 9 (by decide) rfl
                    have lk_91 : u_73.1 11 14 = u_65.1 11 14 := (fu_73 11 (p1_no (tau_ne (rfl : tau 11 = .inl 9) lqS.1 (fun h => by cases h)))).1 14
                    have q_92 : 0 ≤ u_65.1 11 9 ∧ u_65.1 11 9 ≤ 128 := iu_65.fi 11 9 9 (by decide) rfl
                    have lk_93 : u_73.1 11 9 = u_65.1 11 9 := (fu_73 11 (p1_no (tau_ne (rfl : tau 11 = .inl 9) lqS.1 (fun h => by cases h)))).1 9
                    have nr_94 : NRc N u_73 := n1.of (by omega) (fun j => (F_77 16 rfl).2.2.1 j) (fun j => (F_77 17 rfl).2.1 j) (fun j => (F_77 18 rfl).2.1 j)
                    exact ih_49 u_73 (i + 1) _ _ _ (by omega) iu_73 F_75 F_76 (fun i => (((fu_73 11 (p1_no (tau_ne (rfl : tau 11 = .inl 9) lqS.1 (fun h => by cases h)))).2.2.2 i).trans ((xu_65.1.1.1 i).trans (hRK i)))) (by omega) (by omega) (by omega) (by omega) nr_94 (by rw [show u_73.1 11 13 = q2 by omega]; exact hw2) ⟨(vad V V1 1), (by rw [eG, eL_so (st := (fun p => k p = 21 ∨ k p = 22)) hsT hRi hst e1 (oAdd_s (if_pos (by omega)) ngr), show u_73.1 11 13 = q2 by omega, show u_73.1 11 12 = u_65.1 11 12 by omega]), wS, vb9_n ngr⟩ hW hL (lv_sub hl [0, 3, 4, 5] rfl)
                  · refine lv_aload_n hx hb dX9_expression_142 rfl (lv_at hl 4 rfl) ?_
                    refine lv_bipush (v := iv 6) hx hb dX9_expression_143 (by decide) ?_
                    refine lv_iload hx hb dX9_expression_145 (lv_at hl 1 rfl) ?_
                    have q_95 : (-2147483648) ≤ u_65.1 11 13 ∧ u_65.1 11 13 ≤ 2147483647 := iu_65.fi 11 13 9 (by decide) rfl
                    have lk_96 : u_73.1 11 13 = u_65.1 11 13 := (fu_73 11 (p1_no (tau_ne (rfl : tau 11 = .inl 9) lqS.1 (fun h => by cases h)))).1 13
                    have q_97 : 0 ≤ u_65.1 11 9 ∧ u_65.1 11 9 ≤ 128 := iu_65.fi 11 9 9 (by decide) rfl
                    have lk_98 : u_73.1 11 9 = u_65.1 11 9 := (fu_73 11 (p1_no (tau_ne (rfl : tau 11 = .inl 9) lqS.1 (fun h => by cases h)))).1 9
                    have q_99 : 0 ≤ u_65.1 11 10 ∧ u_65.1 11 10 ≤ 8 := iu_65.fi 11 10 9 (by decide) rfl
                    have lk_100 : u_73.1 11 10 = u_65.1 11 10 := (fu_73 11 (p1_no (tau_ne (rfl : tau 11 = .inl 9) lqS.1 (fun h => by cases h)))).1 10
                    have q_101 : 0 ≤ u_65.1 11 11 ∧ u_65.1 11 11 ≤ 12 := iu_65.fi 11 11 9 (by decide) rfl
                    have lk_102 : u_73.1 11 11 = u_65.1 11 11 := (fu_73 11 (p1_no (tau_ne (rfl : tau 11 = .inl 9) lqS.1 (fun h => by cases h)))).1 11
                    have q_103 : (-2147483648) ≤ u_65.1 11 12 ∧ u_65.1 11 12 ≤ 2147483647 := iu_65.fi 11 12 9 (by decide) rfl
                    have lk_104 : u_73.1 11 12 = u_65.1 11 12 := (fu_73 11 (p1_no (tau_ne (rfl : tau 11 = .inl 9) lqS.1 (fun h => by cases h)))).1 12
                    refine sBi (sV (As := [.int (iv 6), .int (iv (S49.1 11 13))]) (rest := []) (k := 11) Cx (e_X9_fail l G u_73 (k := 6) (tk := S49.1 11 13) iu_73 (by omega) (by omega)) (c_X9_132 Cx rfl rfl (rmk_ok (by omega) (by decide))) hW (by decide) rfl rfl rfl hl.1 rfl (Nat.le_of_ble_eq_true rfl) dX9_expression_147 ⟨Nat.le_of_ble_eq_true rfl, Nat.le_of_ble_eq_true rfl⟩) hL (fun r_107 u_105 H locs k_106 hW hL => ?_)
                    obtain ⟨iu_105, fu_105, xu_105⟩ := k_106
                    have F_108 := F_75.trans (fu_105.to (p1_sub (pEx_y (by omega))))
                    have F_109 := F_76.trans (fu_105.to (p1_sub (pEx_y (by omega))))
                    have F_110 := F_77.trans (fu_105.to (p1_sub rfl))
                    have q_111 : 0 ≤ u_105.1 11 10 ∧ u_105.1 11 10 ≤ 8 := iu_105.fi 11 10 9 (by decide) rfl
                    have q_112 : 0 ≤ u_105.1 11 11 ∧ u_105.1 11 11 ≤ 12 := iu_105.fi 11 11 9 (by decide) rfl
                    have q_113 : (-2147483648) ≤ u_105.1 11 12 ∧ u_105.1 11 12 ≤ 2147483647 := iu_105.fi 11 12 9 (by decide) rfl
                    have q_114 : (-2147483648) ≤ u_105.1 11 13 ∧ u_105.1 11 13 ≤ 2147483647 := iu_105.fi 11 13 9 (by decide) rfl
                    have q_115 : 0 ≤ u_105.1 11 14 ∧ u_105.1 11 14 ≤ 7 := iu_105.fi 11 14 9 (by decide) rfl
                    have q_116 : 0 ≤ u_105.1 11 9 ∧ u_105.1 11 9 ≤ 128 := iu_105.fi 11 9 9 (by decide) rfl
                    exact sZret Cx hr hlk hW hL (by omega) ⟨iu_105, F_108, ⟨⟨⟨(fun i => ((xu_105.2.2.2.2.2.2.2 i).trans (((fu_73 11 (p1_no (tau_ne (rfl : tau 11 = .inl 9) lqS.1 (fun h => by cases h)))).2.2.2 i).trans ((xu_65.1.1.1 i).trans (hRK i))))), (fun _ => by first | omega | exact xu_105.1.1.2 (by omega))⟩, by omega, by omega, by omega, by omega⟩, (fun h => absurd h (by omega)), (fun _ => (by rw [eG]; exact eL_f2 (st := (fun p => k p = 21 ∨ k p = 22)) hst e1 (oAdd_g (if_pos (by omega)) ((veq_grt wS).mp (xu_78.2.1 (by omega))))))⟩⟩ dX9_expression_150
              · refine lv_iconst (v := iv 0) hx hb dX9_expression_111 (by decide) ?_
                have q_117 : 0 ≤ u_65.1 11 10 ∧ u_65.1 11 10 ≤ 8 := iu_65.fi 11 10 9 (by decide) rfl
                have q_118 : 0 ≤ u_65.1 11 11 ∧ u_65.1 11 11 ≤ 12 := iu_65.fi 11 11 9 (by decide) rfl
                have q_119 : (-2147483648) ≤ u_65.1 11 12 ∧ u_65.1 11 12 ≤ 2147483647 := iu_65.fi 11 12 9 (by decide) rfl
                have q_120 : (-2147483648) ≤ u_65.1 11 13 ∧ u_65.1 11 13 ≤ 2147483647 := iu_65.fi 11 13 9 (by decide) rfl
                have q_121 : 0 ≤ u_65.1 11 14 ∧ u_65.1 11 14 ≤ 7 := iu_65.fi 11 14 9 (by decide) rfl
                have q_122 : 0 ≤ u_65.1 11 9 ∧ u_65.1 11 9 ≤ 128 := iu_65.fi 11 9 9 (by decide) rfl
                exact sZret Cx hr hlk hW hL (by omega) ⟨iu_65, F_68, ⟨⟨⟨(fun i => ((xu_65.1.1.1 i).trans (hRK i))), (fun _ => by first | omega | exact xu_65.1.1.2 (by omega))⟩, by omega, by omega, by omega, by omega⟩, (fun h => absurd h (by omega)), (fun _ => (by have q9 := xu_65.2.2 (by omega); rw [show (uF S49 11 13 ((S49.1 11 13) + 1)).1 11 12 = S49.1 11 12 by omega] at q9; rw [eG]; exact eL_f1 (st := (fun p => k p = 21 ∨ k p = 22)) hst q9))⟩⟩ dX9_expression_112
            · refine lv_iload hx hb dX9_expression_84 (lv_at hl 0 rfl) ?_
              refine lv_bipush (v := iv 22) hx hb dX9_expression_86 (by decide) ?_
              refine r_icmp_eq (tgt := 93) hx hb ⟨(by omega), (by omega)⟩ ⟨(by omega), (by omega)⟩ dX9_expression_88 (by decide) (fun c_123 => ?_) (fun c_123 => ?_)
              · have hst : Hd ((fun p => k p = 21 ∨ k p = 22) (S49.1 11 13)) := (show k (S49.1 11 13) = 21 ∨ k (S49.1 11 13) = 22 by omega)
                obtain ⟨q2, hg2, hw2⟩ := ogW_ii hsT hgR hst hw
                have hg2 : ogP T k (ogF T k n) (S49.1 11 13 + 1) = some q2 := hg2
                have hq2 := ogP_inc (ogF_inc n) _ _ hg2
                have hpT := hsT _ hst
                have hql := ogW_le hgR _ _ hw2
                refine lv_aload_n hx hb dX9_expression_93 rfl (lv_at hl 4 rfl) ?_
                refine lv_dup hx hb dX9_expression_94 rfl ?_
                refine g_X9_89 Cx hW (k := 11) (by decide) rfl (v := S49.1 11 13) rfl dX9_expression_95 ?_
                refine lv_iconst (v := iv 1) hx hb dX9_expression_98 (by decide) ?_
                refine r_iadd hx hb dX9_expression_99 ?_
                refine p_X9_89 Cx hW hL (k := 11) (by decide) rfl dX9_expression_100 (fun H locs hW hL => ?_)
                have F_124 : Fr S (uF S49 11 13 ((S49.1 11 13) + 1)) (pEx dn dn dn) := hFm49.F (pEx_y (by omega))
                have F_125 : Fr ((uD u_8 qP 0 qS 0 13)) (uF S49 11 13 ((S49.1 11 13) + 1)) (pEx dn dn dn) := hL49_.F (pEx_y (by omega))
                have F_126 : Fr S49 (uF S49 11 13 ((S49.1 11 13) + 1)) pR3 := (Fr.rf : Fr S49 S49 pR3).F rfl
                have F_127 : Fr S49 (uF S49 11 13 ((S49.1 11 13) + 1)) (pEx (dn + 1) dn dn) := (Fr.rf : Fr S49 S49 (pEx (dn + 1) dn dn)).F (pEx_y (by omega))
                have i_128 : cX G (uF S49 11 13 ((S49.1 11 13) + 1)) 0 0 0 := hI49.F rfl rfl (show (-2147483648) ≤ (S49.1 11 13) + 1 ∧ (S49.1 11 13) + 1 ≤ 2147483647 from ⟨by omega, by omega⟩)
                refine lv_aload_n hx hb dX9_expression_103 rfl (lv_at hl 4 rfl) ?_
                refine lv_iload_n hx hb dX9_expression_104 rfl (lv_at hl 5 rfl) ?_
                have q_129 : 0 ≤ S49.1 11 10 ∧ S49.1 11 10 ≤ 8 := hI49.fi 11 10 9 (by decide) rfl
                have lk_130 : (uF S49 11 13 ((S49.1 11 13) + 1)).1 11 10 = S49.1 11 10 := uF_ne (fun h => absurd h.2 (by decide))
                have q_131 : 0 ≤ S49.1 11 11 ∧ S49.1 11 11 ≤ 12 := hI49.fi 11 11 9 (by decide) rfl
                have lk_132 : (uF S49 11 13 ((S49.1 11 13) + 1)).1 11 11 = S49.1 11 11 := uF_ne (fun h => absurd h.2 (by decide))
                have q_133 : (-2147483648) ≤ S49.1 11 12 ∧ S49.1 11 12 ≤ 2147483647 := hI49.fi 11 12 9 (by decide) rfl
                have lk_134 : (uF S49 11 13 ((S49.1 11 13) + 1)).1 11 12 = S49.1 11 12 := uF_ne (fun h => absurd h.2 (by decide))
                have lk_135 : (uF S49 11 13 ((S49.1 11 13) + 1)).1 11 13 = (S49.1 11 13) + 1 := uF_on
                have q_136 : 0 ≤ S49.1 11 14 ∧ S49.1 11 14 ≤ 7 := hI49.fi 11 14 9 (by decide) rfl
                have lk_137 : (uF S49 11 13 ((S49.1 11 13) + 1)).1 11 14 = S49.1 11 14 := uF_ne (fun h => absurd h.2 (by decide))
                have q_138 : 0 ≤ S49.1 11 9 ∧ S49.1 11 9 ≤ 128 := hI49.fi 11 9 9 (by decide) rfl
                have lk_139 : (uF S49 11 13 ((S49.1 11 13) + 1)).1 11 9 = S49.1 11 9 := uF_ne (fun h => absurd h.2 (by decide))
                have nr_140 : NRc N (uF S49 11 13 ((S49.1 11 13) + 1)) := hNL.of (by omega) (fun j => (F_126 16 rfl).2.2.1 j) (fun j => (F_126 17 rfl).2.1 j) (fun j => (F_126 18 rfl).2.1 j)
                have kv_141 : KV (uF S49 11 13 ((S49.1 11 13) + 1)) k v T := hkv.fr F_124 (pEx_n (by omega)) (pEx_n (by omega)) (pEx_n (by omega))
                refine sBi (sV (As := [.int (iv dd)]) (rest := []) (k := 11) Cx (hT (uF S49 11 13 ((S49.1 11 13) + 1)) N k v T (S49.1 11 13 + 1) q2 n i_128 ⟨nr_140, hK, hTV, kv_141, (by omega), (by omega), (by omega), ⟨by omega, by omega⟩⟩ (by omega) (by omega) (by omega) hg2) (c_X9_208 Cx rfl rfl (rmk_ok (by omega) (by decide))) hW (by decide) rfl rfl rfl hl.1 rfl (Nat.le_of_ble_eq_true rfl) dX9_expression_105 ⟨Nat.le_of_ble_eq_true rfl, Nat.le_of_ble_eq_true rfl⟩) hL (fun r_144 u_142 H locs k_143 hW hL => ?_)
                obtain ⟨iu_142, fu_142, xu_142⟩ := k_143
                have yu_142 := xu_142.1.2
                have F_145 := F_124.trans (fu_142.to (pEx_s (by omega) (by omega) (by omega)))
                have F_146 := F_125.trans (fu_142.to (pEx_s (by omega) (by omega) (by omega)))
                have F_147 := F_127.trans fu_142
                refine r_if_ne (tgt := 113) hx hb ⟨(by omega), (by omega)⟩ dX9_expression_108 (by decide) (fun c_148 => ?_) (fun c_148 => ?_)
                · obtain ⟨V1, e1, w1, b1, l1, pp1, f1, n1⟩ := xu_142.2.1 (by omega)
                  rw [← hqP] at w1
                  rw [show (uF S49 11 13 ((S49.1 11 13) + 1)).1 11 12 = S49.1 11 12 by omega] at e1
                  have wP : veq (u_142.2.2.1 qS) V := veq_tr (fun j a b => (F_147 qS (pEx_n (by omega))).2.2.1 j) wV
                  refine lv_aload_n hx hb dX9_expression_113 rfl (lv_at hl 3 rfl) ?_
                  refine lv_aload_n hx hb dX9_expression_114 rfl (lv_at hl 4 rfl) ?_
                  refine g_X9_34 Cx hW (k := 11) (by decide) rfl (v := .ref (G.2.2.1 + 51)) (rf_11_5 iu_142) dX9_expression_115 ?_
                  refine lv_iload_n hx hb dX9_expression_118 rfl (lv_at hl 5 rfl) ?_
                  refine rAald Cx hW (k := 51) (by decide) rfl (by decide) (by omega) (by omega) (r2_51f iu_142 hqP (by omega) (by omega)) dX9_expression_119 ?_
                  refine lv_iload hx hb dX9_expression_120 (lv_at hl 0 rfl) ?_
                  refine lv_bipush (v := iv 21) hx hb dX9_expression_122 (by decide) ?_
                  refine r_icmp_ne (tgt := 131) hx hb ⟨(by omega), (by omega)⟩ ⟨(by omega), (by omega)⟩ dX9_expression_124 (by decide) (fun c_149 => ?_) (fun c_149 => ?_)
                  · refine lv_iconst (v := iv (-1)) hx hb dX9_expression_131 (by decide) ?_
                    refine sBv (sSt (As := [.ref (G.2.2.1 + qS), .ref (G.2.2.1 + qP), .int (iv ((-1)))]) (rest := []) Cx (e_X9_addTo l G u_142 (qa := qS) (qb := qP) (t := (-1)) iu_142 lqS lqP (by omega) (by omega) (bV.eq wP).bd (b1.eq w1).bd) (c_X9_185 Cx rfl rfl (rmk_ok (by omega) (by decide))) hW rfl hl.1 rfl (Nat.le_of_ble_eq_true rfl) dX9_expression_132 ⟨Nat.le_of_ble_eq_true rfl, Nat.le_of_ble_eq_true rfl⟩) hL (fun u_150 H locs k_151 hW hL => ?_)
                    obtain ⟨iu_150, fu_150, xu_150⟩ := k_151
                    have F_152 := F_145.trans (fu_150.to (p1_sub (pEx_y (by omega))))
                    have F_153 := F_146.trans (fu_150.to (p1_sub (pEx_y (by omega))))
                    have F_154 := (Fr.rf : Fr u_142 u_142 pR3).trans (fu_150.to (p1_sub (lr_R lqS)))
                    have wS : veq (u_150.2.2.1 qS) (vad V V1 (-1)) := veq_tr xu_150 (veq_vad wP w1)
                    refine lv_aload_n hx hb dX9_expression_135 rfl (lv_at hl 3 rfl) ?_
                    refine sBi (sSt (As := [.ref (G.2.2.1 + qS)]) (rest := []) Cx (e_X9_isGreat l G u_150 (qa := qS) iu_150 lqS (vbd_ad bV b1 (.inr rfl) wS)) (c_X9_189 Cx rfl rfl (rmk_ok (by omega) (by decide))) hW rfl hl.1 rfl (Nat.le_of_ble_eq_true rfl) dX9_expression_136 ⟨Nat.le_of_ble_eq_true rfl, Nat.le_of_ble_eq_true rfl⟩) hL (fun r_157 u_155 H locs k_156 hW hL => ?_)
                    obtain ⟨eu_155, xu_155⟩ := k_156
                    rw [eu_155] at hW
                    refine r_if_eq (tgt := 151) hx hb ⟨(by omega), (by omega)⟩ dX9_expression_139 (by decide) (fun c_158 => ?_) (fun c_158 => ?_)
                    · have ngr : Hd (¬ grt (vad V V1 (-1))) := (fun z => xu_155.2.2 (by omega) ((veq_grt wS).mpr z))
                      refine lv_iinc (v := iv (i + 1)) (lv' := [(3, .int (iv (i + 1))), (5, .int (iv r_44)), (4, .int (iv (S49.1 11 13))), (2, .ref (G.2.2.1 + qS)), (0, .ref (G.2.2.1 + 11)), (1, .int (iv dd))]) hx hb dX9_expression_151 hl (k := 2) rfl ((Int32.ofInt_add _ _).symm) (by decide) rfl (fun ls hl => ?_)
                      refine lv_goto (tgt := 49) hx hb dX9_expression_154 (by decide) ?_
                      have q_159 : 0 ≤ u_142.1 11 10 ∧ u_142.1 11 10 ≤ 8 := iu_142.fi 11 10 9 (by decide) rfl
                      have lk_160 : u_150.1 11 10 = u_142.1 11 10 := (fu_150 11 (p1_no (tau_ne (rfl : tau 11 = .inl 9) lqS.1 (fun h => by cases h)))).1 10
                      have q_161 : 0 ≤ u_142.1 11 11 ∧ u_142.1 11 11 ≤ 12 := iu_142.fi 11 11 9 (by decide) rfl
                      have lk_162 : u_150.1 11 11 = u_142.1 11 11 := (fu_150 11 (p1_no (tau_ne (rfl : tau 11 = .inl 9) lqS.1 (fun h => by cases h)))).1 11
                      have q_163 : (-2147483648) ≤ u_142.1 11 12 ∧ u_142.1 11 12 ≤ 2147483647 := iu_142.fi 11 12 9 (by decide) rfl
                      have lk_164 : u_150.1 11 12 = u_142.1 11 12 := (fu_150 11 (p1_no (tau_ne (rfl : tau 11 = .inl 9) lqS.1 (fun h => by cases h)))).1 12
                      have q_165 : (-2147483648) ≤ u_142.1 11 13 ∧ u_142.1 11 13 ≤ 2147483647 := iu_142.fi 11 13 9 (by decide) rfl
                      have lk_166 : u_150.1 11 13 = u_142.1 11 13 := (fu_150 11 (p1_no (tau_ne (rfl : tau 11 = .inl 9) lqS.1 (fun h => by cases h)))).1 13
                      have q_167 : 0 ≤ u_142.1 11 14 ∧ u_142.1 11 14 ≤ 7 := iu_142.fi 11 14 9 (by decide) rfl
                      have lk_168 : u_150.1 11 14 = u_142.1 11 14 := (fu_150 11 (p1_no (tau_ne (rfl : tau 11 = .inl 9) lqS.1 (fun h => by cases h)))).1 14
                      have q_169 : 0 ≤ u_142.1 11 9 ∧ u_142.1 11 9 ≤ 128 := iu_142.fi 11 9 9 (by decide) rfl
                      have lk_170 : u_150.1 11 9 = u_142.1 11 9 := (fu_150 11 (p1_no (tau_ne (rfl : tau 11 = .inl 9) lqS.1 (fun h => by cases h)))).1 9
                      have nr_171 : NRc N u_150 := n1.of (by omega) (fun j => (F_154 16 rfl).2.2.1 j) (fun j => (F_154 17 rfl).2.1 j) (fun j => (F_154 18 rfl).2.1 j)
                      exact ih_49 u_150 (i + 1) _ _ _ (by omega) iu_150 F_152 F_153 (fun i => (((fu_150 11 (p1_no (tau_ne (rfl : tau 11 = .inl 9) lqS.1 (fun h => by cases h)))).2.2.2 i).trans ((xu_142.1.1.1 i).trans (hRK i)))) (by omega) (by omega) (by omega) (by omega) nr_171 (by rw [show u_150.1 11 13 = q2 by omega]; exact hw2) ⟨(vad V V1 (-1)), (by rw [eG, eL_so (st := (fun p => k p = 21 ∨ k p = 22)) hsT hRi hst e1 (oAdd_s (if_neg (by omega)) ngr), show u_150.1 11 13 = q2 by omega, show u_150.1 11 12 = u_142.1 11 12 by omega]), wS, vb9_n ngr⟩ hW hL (lv_sub hl [0, 3, 4, 5] rfl)
                    · refine lv_aload_n hx hb dX9_expression_142 rfl (lv_at hl 4 rfl) ?_
                      refine lv_bipush (v := iv 6) hx hb dX9_expression_143 (by decide) ?_
                      refine lv_iload hx hb dX9_expression_145 (lv_at hl 1 rfl) ?_
                      have q_172 : (-2147483648) ≤ u_142.1 11 13 ∧ u_142.1 11 13 ≤ 2147483647 := iu_142.fi 11 13 9 (by decide) rfl
                      have lk_173 : u_150.1 11 13 = u_142.1 11 13 := (fu_150 11 (p1_no (tau_ne (rfl : tau 11 = .inl 9) lqS.1 (fun h => by cases h)))).1 13
                      have q_174 : 0 ≤ u_142.1 11 9 ∧ u_142.1 11 9 ≤ 128 := iu_142.fi 11 9 9 (by decide) rfl
                      have lk_175 : u_150.1 11 9 = u_142.1 11 9 := (fu_150 11 (p1_no (tau_ne (rfl : tau 11 = .inl 9) lqS.1 (fun h => by cases h)))).1 9
                      have q_176 : 0 ≤ u_142.1 11 10 ∧ u_142.1 11 10 ≤ 8 := iu_142.fi 11 10 9 (by decide) rfl
                      have lk_177 : u_150.1 11 10 = u_142.1 11 10 := (fu_150 11 (p1_no (tau_ne (rfl : tau 11 = .inl 9) lqS.1 (fun h => by cases h)))).1 10
                      have q_178 : 0 ≤ u_142.1 11 11 ∧ u_142.1 11 11 ≤ 12 := iu_142.fi 11 11 9 (by decide) rfl
                      have lk_179 : u_150.1 11 11 = u_142.1 11 11 := (fu_150 11 (p1_no (tau_ne (rfl : tau 11 = .inl 9) lqS.1 (fun h => by cases h)))).1 11
                      have q_180 : (-2147483648) ≤ u_142.1 11 12 ∧ u_142.1 11 12 ≤ 2147483647 := iu_142.fi 11 12 9 (by decide) rfl
                      have lk_181 : u_150.1 11 12 = u_142.1 11 12 := (fu_150 11 (p1_no (tau_ne (rfl : tau 11 = .inl 9) lqS.1 (fun h => by cases h)))).1 12
                      refine sBi (sV (As := [.int (iv 6), .int (iv (S49.1 11 13))]) (rest := []) (k := 11) Cx (e_X9_fail l G u_150 (k := 6) (tk := S49.1 11 13) iu_150 (by omega) (by omega)) (c_X9_132 Cx rfl rfl (rmk_ok (by omega) (by decide))) hW (by decide) rfl rfl rfl hl.1 rfl (Nat.le_of_ble_eq_true rfl) dX9_expression_147 ⟨Nat.le_of_ble_eq_true rfl, Nat.le_of_ble_eq_true rfl⟩) hL (fun r_184 u_182 H locs k_183 hW hL => ?_)
                      obtain ⟨iu_182, fu_182, xu_182⟩ := k_183
                      have F_185 := F_152.trans (fu_182.to (p1_sub (pEx_y (by omega))))
                      have F_186 := F_153.trans (fu_182.to (p1_sub (pEx_y (by omega))))
                      have F_187 := F_154.trans (fu_182.to (p1_sub rfl))
                      have q_188 : 0 ≤ u_182.1 11 10 ∧ u_182.1 11 10 ≤ 8 := iu_182.fi 11 10 9 (by decide) rfl
                      have q_189 : 0 ≤ u_182.1 11 11 ∧ u_182.1 11 11 ≤ 12 := iu_182.fi 11 11 9 (by decide) rfl
                      have q_190 : (-2147483648) ≤ u_182.1 11 12 ∧ u_182.1 11 12 ≤ 2147483647 := iu_182.fi 11 12 9 (by decide) rfl
                      have q_191 : (-2147483648) ≤ u_182.1 11 13 ∧ u_182.1 11 13 ≤ 2147483647 := iu_182.fi 11 13 9 (by decide) rfl
                      have q_192 : 0 ≤ u_182.1 11 14 ∧ u_182.1 11 14 ≤ 7 := iu_182.fi 11 14 9 (by decide) rfl
                      have q_193 : 0 ≤ u_182.1 11 9 ∧ u_182.1 11 9 ≤ 128 := iu_182.fi 11 9 9 (by decide) rfl
                      exact sZret Cx hr hlk hW hL (by omega) ⟨iu_182, F_185, ⟨⟨⟨(fun i => ((xu_182.2.2.2.2.2.2.2 i).trans (((fu_150 11 (p1_no (tau_ne (rfl : tau 11 = .inl 9) lqS.1 (fun h => by cases h)))).2.2.2 i).trans ((xu_142.1.1.1 i).trans (hRK i))))), (fun _ => by first | omega | exact xu_182.1.1.2 (by omega))⟩, by omega, by omega, by omega, by omega⟩, (fun h => absurd h (by omega)), (fun _ => (by rw [eG]; exact eL_f2 (st := (fun p => k p = 21 ∨ k p = 22)) hst e1 (oAdd_g (if_neg (by omega)) ((veq_grt wS).mp (xu_155.2.1 (by omega))))))⟩⟩ dX9_expression_150
                  · exfalso; omega
                · refine lv_iconst (v := iv 0) hx hb dX9_expression_111 (by decide) ?_
                  have q_194 : 0 ≤ u_142.1 11 10 ∧ u_142.1 11 10 ≤ 8 := iu_142.fi 11 10 9 (by decide) rfl
                  have q_195 : 0 ≤ u_142.1 11 11 ∧ u_142.1 11 11 ≤ 12 := iu_142.fi 11 11 9 (by decide) rfl
                  have q_196 : (-2147483648) ≤ u_142.1 11 12 ∧ u_142.1 11 12 ≤ 2147483647 := iu_142.fi 11 12 9 (by decide) rfl
                  have q_197 : (-2147483648) ≤ u_142.1 11 13 ∧ u_142.1 11 13 ≤ 2147483647 := iu_142.fi 11 13 9 (by decide) rfl
                  have q_198 : 0 ≤ u_142.1 11 14 ∧ u_142.1 11 14 ≤ 7 := iu_142.fi 11 14 9 (by decide) rfl
                  have q_199 : 0 ≤ u_142.1 11 9 ∧ u_142.1 11 9 ≤ 128 := iu_142.fi 11 9 9 (by decide) rfl
                  exact sZret Cx hr hlk hW hL (by omega) ⟨iu_142, F_145, ⟨⟨⟨(fun i => ((xu_142.1.1.1 i).trans (hRK i))), (fun _ => by first | omega | exact xu_142.1.1.2 (by omega))⟩, by omega, by omega, by omega, by omega⟩, (fun h => absurd h (by omega)), (fun _ => (by have q9 := xu_142.2.2 (by omega); rw [show (uF S49 11 13 ((S49.1 11 13) + 1)).1 11 12 = S49.1 11 12 by omega] at q9; rw [eG]; exact eL_f1 (st := (fun p => k p = 21 ∨ k p = 22)) hst q9))⟩⟩ dX9_expression_112
              · refine lv_iconst (v := iv 1) hx hb dX9_expression_91 (by decide) ?_
                have q_200 : 0 ≤ S49.1 11 10 ∧ S49.1 11 10 ≤ 8 := hI49.fi 11 10 9 (by decide) rfl
                have q_201 : 0 ≤ S49.1 11 11 ∧ S49.1 11 11 ≤ 12 := hI49.fi 11 11 9 (by decide) rfl
                have q_202 : (-2147483648) ≤ S49.1 11 12 ∧ S49.1 11 12 ≤ 2147483647 := hI49.fi 11 12 9 (by decide) rfl
                have q_203 : 0 ≤ S49.1 11 14 ∧ S49.1 11 14 ≤ 7 := hI49.fi 11 14 9 (by decide) rfl
                have q_204 : 0 ≤ S49.1 11 9 ∧ S49.1 11 9 ≤ 128 := hI49.fi 11 9 9 (by decide) rfl
                exact sZret Cx hr hlk hW hL (by omega) ⟨hI49, hFm49, (by have hns : Hd (¬ (fun p => k p = 21 ∨ k p = 22) (S49.1 11 13)) := (show ¬ (k (S49.1 11 13) = 21 ∨ k (S49.1 11 13) = 22) by omega); have hqe := ogW_q (st := (fun p => k p = 21 ∨ k p = 22)) hns hw; exact ⟨⟨⟨(fun i => (hRK i)), (fun h => absurd h (by decide))⟩, by omega, by omega, by omega, by omega⟩, (fun _ => ⟨V, (by rw [eG, eL_no (st := (fun p => k p = 21 ∨ k p = 22)) hns, ← hqe]), wV, bV, ⟨by omega, by omega⟩, (by omega), (by omega), hNL⟩), (fun h => absurd h (by decide))⟩)⟩ dX9_expression_92
      exact loop_49 (_ + 1) (uD u_8 qP 0 qS 0 13) 0 _ _ _ (Nat.lt_succ_self _) i_15 F_13 Fr.rf (fun i => (xu_8.1.1.1 i)) (by omega) (by omega) (by omega) (by omega) nr_28 (by rw [show (uD u_8 qP 0 qS 0 13).1 11 13 = q0 by omega]; exact hw0) ⟨V0, (by rw [show (uD u_8 qP 0 qS 0 13).1 11 13 = q0 by omega, show (uD u_8 qP 0 qS 0 13).1 11 12 = u_8.1 11 12 by omega]; unfold eU; rw [e0]; rfl), (veq_cp w0), b0⟩ hW hL (lv_sub hl [0, 1, 2, 3] rfl)
    · refine lv_iconst (v := iv 0) hx hb dX9_expression_24 (by decide) ?_
      have q_205 : 0 ≤ u_8.1 11 10 ∧ u_8.1 11 10 ≤ 8 := iu_8.fi 11 10 9 (by decide) rfl
      have q_206 : 0 ≤ u_8.1 11 11 ∧ u_8.1 11 11 ≤ 12 := iu_8.fi 11 11 9 (by decide) rfl
      have q_207 : (-2147483648) ≤ u_8.1 11 12 ∧ u_8.1 11 12 ≤ 2147483647 := iu_8.fi 11 12 9 (by decide) rfl
      have q_208 : (-2147483648) ≤ u_8.1 11 13 ∧ u_8.1 11 13 ≤ 2147483647 := iu_8.fi 11 13 9 (by decide) rfl
      have q_209 : 0 ≤ u_8.1 11 14 ∧ u_8.1 11 14 ≤ 7 := iu_8.fi 11 14 9 (by decide) rfl
      have q_210 : 0 ≤ u_8.1 11 9 ∧ u_8.1 11 9 ≤ 128 := iu_8.fi 11 9 9 (by decide) rfl
      exact sZret Cx hr hlk hW hL (by omega) ⟨iu_8, F_11, ⟨⟨⟨(fun i => (xu_8.1.1.1 i)), (fun _ => by first | omega | exact xu_8.1.1.2 (by omega))⟩, by omega, by omega, by omega, by omega⟩, (fun h => absurd h (by omega)), (fun _ => (by have q9 := xu_8.2.2 (by omega); unfold eU; rw [q9]; rfl))⟩⟩ dX9_expression_25
  · exfalso; omega

theorem telX (l : Launch) (G : sG) : ∀ (n : Nat) (dd : Int) (dn : Nat), dd = (dn : Int) → dd ≤ 30 → 30 - dd ≤ n → FX l G (4 * n + 10) dd dn ∧ TX l G (4 * n + 11) dd dn ∧ EX l G (4 * n + 12) dd dn := by
  intro n
  have pz_le : ∀ {S : sS} {k v : Int → Int} {T pz : Int}, cX G S 0 0 0 → KV S k v T → k pz ≠ 0 → pz ≤ 2000 := fun {S k v T pz} hI hkv hk => by
    have a : 0 ≤ S.1 12 3 ∧ S.1 12 3 ≤ 2001 := hI.fi 12 3 8 (by decide) rfl
    have b := hkv.2.2; have c := hkv.lt rfl hk; omega
  have top : ∀ (D1 D2 D3 : Nat) (dn : Nat), FX l G D1 30 dn ∧ TX l G D2 30 dn ∧ EX l G D3 30 dn := fun D1 D2 D3 dn => by
    refine ⟨fun S N k v T pz q m hI hE hm hN hq hg => ?_, fun S N k v T pz q m hI hE hm hN hq hg => ?_, fun S N k v T pz q m hI hE hm hN hq hg => ?_⟩
    · rw [show m = 0 by omega] at hg; cases hg
    · rw [show m = 0 by omega] at hg; cases hg
    · rw [show m = 0 by omega] at hg; cases hg
  have fin : ∀ (n : Nat) (dd : Int) (dn : Nat), dd = (dn : Int) → dd ≤ 29 → FX l G (4 * n + 10) dd dn → FX l G (4 * n + 10) dd dn ∧ TX l G (4 * n + 11) dd dn ∧ EX l G (4 * n + 12) dd dn := fun n dd dn h0 h1 hF =>
    have hT : TX l G (4 * n + 11) dd dn := fun S N k v T pz q m hI hE hm hN hq hg => e_X9_term l G S (d1 := 4 * n + 10) hI ⟨by omega, h1⟩ hE.1 hE.2.1 hE.2.2.1 hE.2.2.2.1 hE.2.2.2.2.1 hE.2.2.2.2.2.1 ⟨hE.2.2.2.2.2.2.1, pz_le hI hE.2.2.2.1 (by obtain ⟨a, z, _⟩ := ogB hg; exact ogF_k z)⟩ hE.2.2.2.2.2.2.2 h0 (by omega) (by omega) hm hN hq rfl rfl hF hg
    ⟨hF, hT, fun S N k v T pz q m hI hE hm hN hq hg => e_X9_expression l G S (d1 := 4 * n + 11) hI ⟨by omega, h1⟩ hE.1 hE.2.1 hE.2.2.1 hE.2.2.2.1 hE.2.2.2.2.1 hE.2.2.2.2.2.1 ⟨hE.2.2.2.2.2.2.1, pz_le hI hE.2.2.2.1 (ogU_k hg)⟩ hE.2.2.2.2.2.2.2 h0 (by omega) (by omega) hm hN hq rfl rfl hT hg⟩
  induction n with
  | zero => intro dd dn h0 h1 h2; rw [show dd = 30 by omega]; exact top _ _ _ _
  | succ n ih =>
    intro dd dn h0 h1 h2
    by_cases c : dd = 30
    · rw [c]; exact top _ _ _ _
    · have hi := ih (dd + 1) (dn + 1) (by omega) (by omega) (by omega)
      refine fin (n + 1) dd dn h0 (by omega) (fun S N k v T pz q m hI hE hm hN hq hg => ?_)
      obtain ⟨m', e⟩ : ∃ m' : Nat, m = m' + 1 := ⟨m - 1, by omega⟩
      rw [e] at hg ⊢
      exact e_X9_factor l G S (dm := 4 * n + 13) (d1 := 4 * n + 12) (d2 := 4 * n + 10) hI ⟨by omega, by omega⟩ hE.1 hE.2.1 hE.2.2.1 hE.2.2.2.1 hE.2.2.2.2.1 hE.2.2.2.2.2.1 ⟨hE.2.2.2.2.2.2.1, pz_le hI hE.2.2.2.1 (ogF_k hg)⟩ hE.2.2.2.2.2.2.2 h0 (by omega) (by omega) (by omega) (by omega) hi.2.2 hi.1 (by omega) (by omega) rfl hg hq
theorem telE (l : Launch) (G : sG) : EX l G 132 0 0 := (telX l G 30 0 0 rfl (by decide) (by decide)).2.2
