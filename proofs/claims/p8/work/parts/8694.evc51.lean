theorem veq_cp {S : sS} {k0 k1 : Nat} {V : Int → Int} (h : veq (S.2.2.1 k0) V) : veq ((uD S k0 0 k1 0 13).2.2.1 k1) V := fun j a b => by
  rw [uD_get, if_pos ⟨rfl, by omega, by omega⟩, show (0 : Int) + (j - 0) = j by omega]; exact h j a b
set_option maxRecDepth 100000 in
set_option maxHeartbeats 4000000 in
theorem e_X9_term (l : Launch) (G : sG) (S : sS) {N : sN} {k v : Int → Int} {T pz q dd : Int} {dn qP qF n d1 D : Nat} (hI : cX G S 0 0 0) (hdd : 0 ≤ dd ∧ dd ≤ 29) (hN : Hd (NRc N S)) (hK : Hd (NK N)) (hTV : Hd (TVn k v)) (hkv : Hd (KV S k v T)) (hfk : S.1 11 14 = 0) (hat : S.1 11 13 = pz) (hpz : 0 ≤ pz ∧ pz ≤ 2000) (hlk : 0 ≤ S.1 11 12 ∧ S.1 11 12 ≤ 20000) (hdn : dd = (dn : Int)) (h1 : d1 < D) (h4 : 8 ≤ D) (hn : (n : Int) = 30 - dd) (hnm : N.1 + n ≤ 128) (hqb : q ≤ 2001) (hqP : qP = 52 + dn) (hqF : qF = 84 + dn) (hF : FX l G d1 dd dn) (hgx : Hd (ogP T k (ogF T k n) pz = some q)) : Met l yX9_term (.code yX9_term cX9_term 5 (some .boolean) :: tb) (rmk D 0 0) (sPc G 294 S [.ref (G.2.2.1 + 11), .int (iv dd)]) (sQi G 294 (fun r u => cX G u 0 0 0 ∧ Fr S u (pE (dn + 1) dn dn) ∧ (EO u N q r (eP T k (eF T k v n N) (S.1 11 12) pz) qP))) 0 0 (sF G) := by
  refine sEnter (by decide) (Nat.le_of_ble_eq_true rfl) ?_
  intro p e s m args below meth c Cx hr hlk hnm hW ls hl
  have Cx : sC G p m c cX9_term 5 s args RX9 := Cx
  obtain ⟨hx, hb, hml, hown, hts⟩ := id Cx.1
  have hL : sL G [] := sL_nil
  have hl : lv_has ls 5 [(0, .ref (G.2.2.1 + 11)), (1, .int (iv dd))] := hl
  have hW0 := hW
  have lqP := lr_51 hqP (by omega)
  have lqF := lr_83 hqF (by omega)
  have hkn : 0 ≤ S.1 11 9 ∧ S.1 11 9 ≤ 128 := hI.fi 11 9 9 (by decide) rfl
  have hTb : 0 ≤ S.1 12 3 ∧ S.1 12 3 ≤ 2001 := hI.fi 12 3 8 (by decide) rfl
  have hTe := hkv.2.2
  have hN1 := hN.1
  obtain ⟨q0, hg0, hw0⟩ := ogB hgx
  have hq0 := ogF_inc n _ _ hg0
  have hsT : Hd (∀ p, (fun p => k p = 23) p → p < T) := (fun p c => hkv.lt rfl (fun z => by have c : k p = 23 := c; omega))
  have hRi : Hd (RInc (eF T k v n N)) := (eF_inc n N)
  have hgR : Hd (∀ p q, (fun p => k p = 23) p → (fun p => ogF T k n (p + 1)) p = some q → p < q) := (fun p q _ h => by have h : ogF T k n (p + 1) = some q := h; have h2 := ogF_inc n _ _ h; omega)
  have hqq := ogW_le hgR _ _ hw0
  refine lv_aload_n hx hb dX9_term_0 rfl (lv_at hl 0 rfl) ?_
  refine lv_iload_n hx hb dX9_term_1 rfl (lv_at hl 1 rfl) ?_
  have q_1 : (-2147483648) ≤ S.1 11 12 ∧ S.1 11 12 ≤ 2147483647 := hI.fi 11 12 9 (by decide) rfl
  have q_2 : (-2147483648) ≤ S.1 11 13 ∧ S.1 11 13 ≤ 2147483647 := hI.fi 11 13 9 (by decide) rfl
  have q_3 : 0 ≤ S.1 11 14 ∧ S.1 11 14 ≤ 7 := hI.fi 11 14 9 (by decide) rfl
  have q_4 : 0 ≤ S.1 11 9 ∧ S.1 11 9 ≤ 128 := hI.fi 11 9 9 (by decide) rfl
  refine sBi (sV (As := [.int (iv dd)]) (rest := []) (k := 11) Cx (hF S N k v T (pz) q0 n hI ⟨hN, hK, hTV, hkv, (by omega), (by omega), (by omega), ⟨by omega, by omega⟩⟩ (by omega) (by omega) (by omega) hg0) (c_X9_211 Cx rfl rfl (rmk_ok (by omega) (by decide))) hW (by decide) rfl rfl rfl hl.1 rfl (Nat.le_of_ble_eq_true rfl) dX9_term_2 ⟨Nat.le_of_ble_eq_true rfl, Nat.le_of_ble_eq_true rfl⟩) hL (fun r_7 u_5 H locs k_6 hW hL => ?_)
  obtain ⟨iu_5, fu_5, xu_5⟩ := k_6
  have yu_5 := xu_5.1
  have F_8 := (Fr.rf : Fr S S (pE (dn + 1) dn dn)).trans (fu_5.to (pE_s (by omega) (by omega) (by omega)))
  refine r_if_ne (tgt := 10) hx hb ⟨(by omega), (by omega)⟩ dX9_term_5 (by decide) (fun c_9 => ?_) (fun c_9 => ?_)
  · obtain ⟨V0, e0, w0, b0, l0, pp0, ff0, n0⟩ := xu_5.2.1 (by omega)
    rw [← hqF] at w0
    refine lv_aload_n hx hb dX9_term_10 rfl (lv_at hl 0 rfl) ?_
    refine g_X9_34 Cx hW (k := 11) (by decide) rfl (v := .ref (G.2.2.1 + 51)) (rf_11_5 iu_5) dX9_term_11 ?_
    refine lv_iload_n hx hb dX9_term_14 rfl (lv_at hl 1 rfl) ?_
    refine rAald Cx hW (k := 51) (by decide) rfl (by decide) (by omega) (by omega) (r2_51f iu_5 hqP (by omega) (by omega)) dX9_term_15 ?_
    refine lv_astore_n (lv' := [(2, .ref (G.2.2.1 + qP)), (0, .ref (G.2.2.1 + 11)), (1, .int (iv dd))]) hx hb dX9_term_16 rfl hl (by decide) rfl (fun ls hl => ?_)
    refine lv_aload_n hx hb dX9_term_17 rfl (lv_at hl 1 rfl) ?_
    refine g_X9_37 Cx hW (k := 11) (by decide) rfl (v := .ref (G.2.2.1 + 83)) (rf_11_6 iu_5) dX9_term_18 ?_
    refine lv_iload_n hx hb dX9_term_21 rfl (lv_at hl 2 rfl) ?_
    refine rAald Cx hW (k := 83) (by decide) rfl (by decide) (by omega) (by omega) (r2_83f iu_5 hqF (by omega) (by omega)) dX9_term_22 ?_
    refine lv_iconst (v := iv 0) hx hb dX9_term_23 (by decide) ?_
    refine lv_aload_n hx hb dX9_term_24 rfl (lv_at hl 0 rfl) ?_
    refine lv_iconst (v := iv 0) hx hb dX9_term_25 (by decide) ?_
    refine lv_bipush (v := iv 13) hx hb dX9_term_26 (by decide) ?_
    refine rCopyL Cx hW hL (hml.trans hl.1.symm) w_1087 w_1089 w_1088 w_224 (k0 := qF) (k1 := qP) (lr_l lqF) lqF.1 (lr_l lqP) lqP.1 (by decide) (by decide) (by omega) (by omega) (by omega) (by omega) (by omega) (rmk_f (by omega)) (rmk_l (by omega) (by decide)) dX9_term_28 (fun H locs hW hL => ?_)
    have F_10 : Fr S (uD u_5 qF 0 qP 0 13) (pE (dn + 1) dn dn) := F_8.D (pE_y (by omega))
    have F_11 : Fr u_5 (uD u_5 qF 0 qP 0 13) pR3 := (Fr.rf : Fr u_5 u_5 pR3).D (lr_R lqP)
    have i_12 : cX G (uD u_5 qF 0 qP 0 13) 0 0 0 := iu_5.D (lr_k lqF)
    have q_13 : (-2147483648) ≤ u_5.1 11 12 ∧ u_5.1 11 12 ≤ 2147483647 := iu_5.fi 11 12 9 (by decide) rfl
    have lk_14 : (uD u_5 qF 0 qP 0 13).1 11 12 = u_5.1 11 12 := uD_f
    have q_15 : (-2147483648) ≤ u_5.1 11 13 ∧ u_5.1 11 13 ≤ 2147483647 := iu_5.fi 11 13 9 (by decide) rfl
    have lk_16 : (uD u_5 qF 0 qP 0 13).1 11 13 = u_5.1 11 13 := uD_f
    have q_17 : 0 ≤ u_5.1 11 14 ∧ u_5.1 11 14 ≤ 7 := iu_5.fi 11 14 9 (by decide) rfl
    have lk_18 : (uD u_5 qF 0 qP 0 13).1 11 14 = u_5.1 11 14 := uD_f
    have q_19 : 0 ≤ u_5.1 11 9 ∧ u_5.1 11 9 ≤ 128 := iu_5.fi 11 9 9 (by decide) rfl
    have lk_20 : (uD u_5 qF 0 qP 0 13).1 11 9 = u_5.1 11 9 := uD_f
    have nr_21 : NRc N (uD u_5 qF 0 qP 0 13) := n0.of (by omega) (fun j => (F_11 16 rfl).2.2.1 j) (fun j => (F_11 17 rfl).2.1 j) (fun j => (F_11 18 rfl).2.1 j)
    refine lv_iconst (v := iv 0) hx hb dX9_term_31 (by decide) ?_
    refine lv_istore_n (lv' := [(3, .int (iv 0)), (2, .ref (G.2.2.1 + qP)), (0, .ref (G.2.2.1 + 11)), (1, .int (iv dd))]) hx hb dX9_term_32 rfl hl (by decide) rfl (fun ls hl => ?_)
    have loop_33 : ∀ (fuel : Nat) (S33 : sS) (i : Int) (H : Heap) (locs : List Loc) (ls : Array Slot), (2001 - i).toNat < fuel → (cX G S33 0 0 0) → (Fr S S33 (pE (dn + 1) dn dn)) → (Fr ((uD u_5 qF 0 qP 0 13)) S33 (pE (dn + 1) dn dn)) → (0 ≤ i ∧ i ≤ 2001) → (pz + 1 + i ≤ S33.1 11 13) → (S33.1 11 14 = 0) → (0 ≤ S33.1 11 12 ∧ S33.1 11 12 ≤ 20000) → (Hd (NRc N S33)) → (Hd (ogW T (fun p => k p = 23) (fun p => ogF T k n (p + 1)) (S33.1 11 13) = some q)) → (Hd (∃ V, eP T k (eF T k v n N) (S.1 11 12) pz = eL T (fun p => k p = 23) (eF T k v n N) (fun _ => oMul) (S33.1 11 13, V, S33.1 11 12) ∧ veq (S33.2.2.1 qP) V ∧ vb9 V)) → sW G 294 S33 H → sL G locs → lv_has ls 5 [(3, .int (iv i)), (2, .ref (G.2.2.1 + qP)), (0, .ref (G.2.2.1 + 11)), (1, .int (iv dd))] → W p l e (rmk D 0 0) s m args below meth c H locs 0 0 (MQ below (sQi G 294 (fun r u => cX G u 0 0 0 ∧ Fr S u (pE (dn + 1) dn dn) ∧ (EO u N q r (eP T k (eF T k v n N) (S.1 11 12) pz) qP))) args s 0 0 (sF G)) (F0 m 33 ls []) := by
      intro fuel
      induction fuel with
      | zero => intro S33 i H locs ls hmeas hI33 hFm33 hL33_ hi hp hfL hlL hNL hw hG hW hL hl; exact absurd hmeas (Nat.not_lt_zero _)
      | succ fuel ih_33 =>
        intro S33 i H locs ls hmeas hI33 hFm33 hL33_ hi hp hfL hlL hNL hw hG hW hL hl
        obtain ⟨V, eG, wV, bV⟩ := hG
        have hwl := ogW_le hgR _ _ hw
        refine lv_iload_n hx hb dX9_term_33 rfl (lv_at hl 0 rfl) ?_
        refine lv_aload_n hx hb dX9_term_34 rfl (lv_at hl 2 rfl) ?_
        refine g_X9_14 Cx hW (k := 11) (by decide) rfl (v := .ref (G.2.2.1 + 12)) (rf_11_0 hI33) dX9_term_35 ?_
        have q_22 : 0 ≤ S.1 12 3 ∧ S.1 12 3 ≤ 2001 := hI.fi 12 3 8 (by decide) rfl
        have lk_23 : S33.1 12 3 = S.1 12 3 := ((hL33_ 12 (pE_n (by omega))).1 3).trans ((uD_f).trans ((fu_5 12 (pE_n (by omega))).1 3))
        refine sBi (sV (As := []) (rest := [.int (iv i)]) (k := 12) Cx (s_X8_tokenCount l G S33  hI33) (c_X9_92 Cx rfl rfl (rmk_ok (by omega) (by decide))) hW (by decide) rfl rfl rfl hl.1 rfl (Nat.le_of_ble_eq_true rfl) dX9_term_38 ⟨Nat.le_of_ble_eq_true rfl, Nat.le_of_ble_eq_true rfl⟩) hL (fun r_26 u_24 H locs k_25 hW hL => ?_)
        obtain ⟨eu_24, xu_24⟩ := k_25
        rw [eu_24] at hW
        refine r_icmp_ge (tgt := 145) hx hb ⟨(by omega), (by omega)⟩ ⟨(by omega), (by omega)⟩ dX9_term_41 (by decide) (fun c_27 => ?_) (fun c_27 => ?_)
        · refine lv_iconst (v := iv 1) hx hb dX9_term_145 (by decide) ?_
          have q_28 : (-2147483648) ≤ S33.1 11 12 ∧ S33.1 11 12 ≤ 2147483647 := hI33.fi 11 12 9 (by decide) rfl
          have q_29 : (-2147483648) ≤ S33.1 11 13 ∧ S33.1 11 13 ≤ 2147483647 := hI33.fi 11 13 9 (by decide) rfl
          have q_30 : 0 ≤ S33.1 11 14 ∧ S33.1 11 14 ≤ 7 := hI33.fi 11 14 9 (by decide) rfl
          have q_31 : 0 ≤ S33.1 11 9 ∧ S33.1 11 9 ≤ 128 := hI33.fi 11 9 9 (by decide) rfl
          exact sZret Cx hr hlk hW hL (by omega) ⟨hI33, hFm33, (by have hns : Hd (¬ (fun p => k p = 23) (S33.1 11 13)) := (show ¬ k (S33.1 11 13) = 23 by rw [hkv.z (S33.1 11 13) (by omega)]; decide); have hqe := ogW_q hns hw; exact ⟨(by omega), (fun _ => ⟨V, (by rw [eG, eL_no hns, ← hqe]), wV, bV, ⟨by omega, by omega⟩, (by omega), (by omega), hNL⟩), (fun h => absurd h (by decide))⟩)⟩ dX9_term_146
        · refine lv_aload_n hx hb dX9_term_44 rfl (lv_at hl 2 rfl) ?_
          refine g_X9_14 Cx hW (k := 11) (by decide) rfl (v := .ref (G.2.2.1 + 12)) (rf_11_0 hI33) dX9_term_45 ?_
          refine lv_aload_n hx hb dX9_term_48 rfl (lv_at hl 2 rfl) ?_
          have q_32 : (-2147483648) ≤ S33.1 11 13 ∧ S33.1 11 13 ≤ 2147483647 := hI33.fi 11 13 9 (by decide) rfl
          refine g_X9_89 Cx hW (k := 11) (by decide) rfl (v := S33.1 11 13) rfl dX9_term_49 ?_
          refine sBi (sV (As := [.int (iv (S33.1 11 13))]) (rest := []) (k := 12) Cx (s_X8_kind l G S33 (k := S33.1 11 13) hI33 (by omega)) (c_X9_95 Cx rfl rfl (rmk_ok (by omega) (by decide))) hW (by decide) rfl rfl rfl hl.1 rfl (Nat.le_of_ble_eq_true rfl) dX9_term_52 ⟨Nat.le_of_ble_eq_true rfl, Nat.le_of_ble_eq_true rfl⟩) hL (fun r_35 u_33 H locs k_34 hW hL => ?_)
          obtain ⟨eu_33, xu_33⟩ := k_34
          rw [eu_33] at hW
          have kv_36 : KV S33 k v T := hkv.fr hFm33 (pE_n (by omega)) (pE_n (by omega)) (pE_n (by omega))
          have kp : r_35 = k (S33.1 11 13) := (by rw [← kv_36.1]; exact xu_33.1)
          refine lv_bipush (v := iv 23) hx hb dX9_term_55 (by decide) ?_
          refine r_icmp_ne (tgt := 145) hx hb ⟨(by omega), (by omega)⟩ ⟨(by omega), (by omega)⟩ dX9_term_57 (by decide) (fun c_37 => ?_) (fun c_37 => ?_)
          · refine lv_iconst (v := iv 1) hx hb dX9_term_145 (by decide) ?_
            have q_38 : (-2147483648) ≤ S33.1 11 12 ∧ S33.1 11 12 ≤ 2147483647 := hI33.fi 11 12 9 (by decide) rfl
            have q_39 : 0 ≤ S33.1 11 14 ∧ S33.1 11 14 ≤ 7 := hI33.fi 11 14 9 (by decide) rfl
            have q_40 : 0 ≤ S33.1 11 9 ∧ S33.1 11 9 ≤ 128 := hI33.fi 11 9 9 (by decide) rfl
            exact sZret Cx hr hlk hW hL (by omega) ⟨hI33, hFm33, (by have hns : Hd (¬ (fun p => k p = 23) (S33.1 11 13)) := (show ¬ k (S33.1 11 13) = 23 by omega); have hqe := ogW_q hns hw; exact ⟨(by omega), (fun _ => ⟨V, (by rw [eG, eL_no hns, ← hqe]), wV, bV, ⟨by omega, by omega⟩, (by omega), (by omega), hNL⟩), (fun h => absurd h (by decide))⟩)⟩ dX9_term_146
          · have hst : Hd ((fun p => k p = 23) (S33.1 11 13)) := (show k (S33.1 11 13) = 23 by omega)
            obtain ⟨q2, hg2, hw2⟩ := ogW_ii hsT hgR hst hw
            have hg2 : ogF T k n (S33.1 11 13 + 1) = some q2 := hg2
            have hq2 := ogF_inc n _ _ hg2
            have hpT := hsT _ hst
            have hql := ogW_le hgR _ _ hw2
            refine lv_aload_n hx hb dX9_term_60 rfl (lv_at hl 2 rfl) ?_
            refine g_X9_89 Cx hW (k := 11) (by decide) rfl (v := S33.1 11 13) rfl dX9_term_61 ?_
            refine lv_istore (lv' := [(4, .int (iv (S33.1 11 13))), (3, .int (iv i)), (2, .ref (G.2.2.1 + qP)), (0, .ref (G.2.2.1 + 11)), (1, .int (iv dd))]) hx hb dX9_term_64 hl (by decide) rfl (fun ls hl => ?_)
            refine lv_aload_n hx hb dX9_term_66 rfl (lv_at hl 3 rfl) ?_
            refine lv_dup hx hb dX9_term_67 rfl ?_
            refine g_X9_89 Cx hW (k := 11) (by decide) rfl (v := S33.1 11 13) rfl dX9_term_68 ?_
            refine lv_iconst (v := iv 1) hx hb dX9_term_71 (by decide) ?_
            refine r_iadd hx hb dX9_term_72 ?_
            refine p_X9_89 Cx hW hL (k := 11) (by decide) rfl dX9_term_73 (fun H locs hW hL => ?_)
            have F_41 : Fr S (uF S33 11 13 ((S33.1 11 13) + 1)) (pE (dn + 1) dn dn) := hFm33.F (pE_y (by omega))
            have F_42 : Fr ((uD u_5 qF 0 qP 0 13)) (uF S33 11 13 ((S33.1 11 13) + 1)) (pE (dn + 1) dn dn) := hL33_.F (pE_y (by omega))
            have F_43 : Fr S33 (uF S33 11 13 ((S33.1 11 13) + 1)) pR3 := (Fr.rf : Fr S33 S33 pR3).F rfl
            have F_44 : Fr S33 (uF S33 11 13 ((S33.1 11 13) + 1)) (pE (dn + 1) (dn + 1) dn) := (Fr.rf : Fr S33 S33 (pE (dn + 1) (dn + 1) dn)).F (pE_y (by omega))
            have i_45 : cX G (uF S33 11 13 ((S33.1 11 13) + 1)) 0 0 0 := hI33.F rfl rfl (show (-2147483648) ≤ (S33.1 11 13) + 1 ∧ (S33.1 11 13) + 1 ≤ 2147483647 from ⟨by omega, by omega⟩)
            refine lv_aload_n hx hb dX9_term_76 rfl (lv_at hl 3 rfl) ?_
            refine lv_iload_n hx hb dX9_term_77 rfl (lv_at hl 4 rfl) ?_
            have q_46 : (-2147483648) ≤ S33.1 11 12 ∧ S33.1 11 12 ≤ 2147483647 := hI33.fi 11 12 9 (by decide) rfl
            have lk_47 : (uF S33 11 13 ((S33.1 11 13) + 1)).1 11 12 = S33.1 11 12 := uF_ne (fun h => absurd h.2 (by decide))
            have lk_48 : (uF S33 11 13 ((S33.1 11 13) + 1)).1 11 13 = (S33.1 11 13) + 1 := uF_on
            have q_49 : 0 ≤ S33.1 11 14 ∧ S33.1 11 14 ≤ 7 := hI33.fi 11 14 9 (by decide) rfl
            have lk_50 : (uF S33 11 13 ((S33.1 11 13) + 1)).1 11 14 = S33.1 11 14 := uF_ne (fun h => absurd h.2 (by decide))
            have q_51 : 0 ≤ S33.1 11 9 ∧ S33.1 11 9 ≤ 128 := hI33.fi 11 9 9 (by decide) rfl
            have lk_52 : (uF S33 11 13 ((S33.1 11 13) + 1)).1 11 9 = S33.1 11 9 := uF_ne (fun h => absurd h.2 (by decide))
            have nr_53 : NRc N (uF S33 11 13 ((S33.1 11 13) + 1)) := hNL.of (by omega) (fun j => (F_43 16 rfl).2.2.1 j) (fun j => (F_43 17 rfl).2.1 j) (fun j => (F_43 18 rfl).2.1 j)
            have kv_54 : KV (uF S33 11 13 ((S33.1 11 13) + 1)) k v T := hkv.fr F_41 (pE_n (by omega)) (pE_n (by omega)) (pE_n (by omega))
            refine sBi (sV (As := [.int (iv dd)]) (rest := []) (k := 11) Cx (hF (uF S33 11 13 ((S33.1 11 13) + 1)) N k v T (S33.1 11 13 + 1) q2 n i_45 ⟨nr_53, hK, hTV, kv_54, (by omega), (by omega), (by omega), ⟨by omega, by omega⟩⟩ (by omega) (by omega) (by omega) hg2) (c_X9_211 Cx rfl rfl (rmk_ok (by omega) (by decide))) hW (by decide) rfl rfl rfl hl.1 rfl (Nat.le_of_ble_eq_true rfl) dX9_term_78 ⟨Nat.le_of_ble_eq_true rfl, Nat.le_of_ble_eq_true rfl⟩) hL (fun r_57 u_55 H locs k_56 hW hL => ?_)
            obtain ⟨iu_55, fu_55, xu_55⟩ := k_56
            have yu_55 := xu_55.1
            have F_58 := F_41.trans (fu_55.to (pE_s (by omega) (by omega) (by omega)))
            have F_59 := F_42.trans (fu_55.to (pE_s (by omega) (by omega) (by omega)))
            have F_60 := F_44.trans fu_55
            refine r_if_ne (tgt := 86) hx hb ⟨(by omega), (by omega)⟩ dX9_term_81 (by decide) (fun c_61 => ?_) (fun c_61 => ?_)
            · obtain ⟨V1, e1, w1, b1, l1, pp1, f1, n1⟩ := xu_55.2.1 (by omega)
              rw [← hqF] at w1
              rw [show (uF S33 11 13 ((S33.1 11 13) + 1)).1 11 12 = S33.1 11 12 by omega] at e1
              have wP : veq (u_55.2.2.1 qP) V := veq_tr (fun j a b => (F_60 qP (pE_n (by omega))).2.2.1 j) wV
              refine lv_aload_n hx hb dX9_term_86 rfl (lv_at hl 2 rfl) ?_
              refine sBi (sSt (As := [.ref (G.2.2.1 + qP)]) (rest := []) Cx (e_X9_hasCoefficient l G u_55 (qa := qP) iu_55 lqP) (c_X9_214 Cx rfl rfl (rmk_ok (by omega) (by decide))) hW rfl hl.1 rfl (Nat.le_of_ble_eq_true rfl) dX9_term_87 ⟨Nat.le_of_ble_eq_true rfl, Nat.le_of_ble_eq_true rfl⟩) hL (fun r_64 u_62 H locs k_63 hW hL => ?_)
              obtain ⟨eu_62, xu_62⟩ := k_63
              rw [eu_62] at hW
              refine r_if_eq (tgt := 113) hx hb ⟨(by omega), (by omega)⟩ dX9_term_90 (by decide) (fun c_65 => ?_) (fun c_65 => ?_)
              · have hnl : Hd (¬ (hsv V ∧ hsv V1)) := (fun z => xu_62.2.2 (by omega) ((veq_hsv wP).mpr z.1))
                refine lv_aload_n hx hb dX9_term_113 rfl (lv_at hl 2 rfl) ?_
                refine lv_aload_n hx hb dX9_term_114 rfl (lv_at hl 3 rfl) ?_
                refine g_X9_37 Cx hW (k := 11) (by decide) rfl (v := .ref (G.2.2.1 + 83)) (rf_11_6 iu_55) dX9_term_115 ?_
                refine lv_iload_n hx hb dX9_term_118 rfl (lv_at hl 4 rfl) ?_
                refine rAald Cx hW (k := 83) (by decide) rfl (by decide) (by omega) (by omega) (r2_83f iu_55 hqF (by omega) (by omega)) dX9_term_119 ?_
                refine sBv (sSt (As := [.ref (G.2.2.1 + qP), .ref (G.2.2.1 + qF)]) (rest := []) Cx (e_X9_multiply l G u_55 (qa := qP) (qb := qF) iu_55 lqP lqF (by omega) (bV.eq wP) (b1.eq w1)) (c_X9_217 Cx rfl rfl (rmk_ok (by omega) (by decide))) hW rfl hl.1 rfl (Nat.le_of_ble_eq_true rfl) dX9_term_120 ⟨Nat.le_of_ble_eq_true rfl, Nat.le_of_ble_eq_true rfl⟩) hL (fun u_66 H locs k_67 hW hL => ?_)
                obtain ⟨iu_66, fu_66, xu_66⟩ := k_67
                have F_68 := F_58.trans (fu_66.to (p1_sub (pE_y (by omega))))
                have F_69 := F_59.trans (fu_66.to (p1_sub (pE_y (by omega))))
                have F_70 := (Fr.rf : Fr u_55 u_55 pR3).trans (fu_66.to (p1_sub (lr_R lqP)))
                have wS : veq (u_66.2.2.1 qP) (vml V V1) := veq_tr xu_66 (veq_vml wP w1)
                refine lv_aload_n hx hb dX9_term_123 rfl (lv_at hl 2 rfl) ?_
                refine sBi (sSt (As := [.ref (G.2.2.1 + qP)]) (rest := []) Cx (e_X9_isGreat l G u_66 (qa := qP) iu_66 lqP (vbd_ml bV b1 hnl wS)) (c_X9_189 Cx rfl rfl (rmk_ok (by omega) (by decide))) hW rfl hl.1 rfl (Nat.le_of_ble_eq_true rfl) dX9_term_124 ⟨Nat.le_of_ble_eq_true rfl, Nat.le_of_ble_eq_true rfl⟩) hL (fun r_73 u_71 H locs k_72 hW hL => ?_)
                obtain ⟨eu_71, xu_71⟩ := k_72
                rw [eu_71] at hW
                refine r_if_eq (tgt := 139) hx hb ⟨(by omega), (by omega)⟩ dX9_term_127 (by decide) (fun c_74 => ?_) (fun c_74 => ?_)
                · have ngr : Hd (¬ grt (vml V V1)) := (fun z => xu_71.2.2 (by omega) ((veq_grt wS).mpr z))
                  refine lv_iinc (v := iv (i + 1)) (lv' := [(3, .int (iv (i + 1))), (4, .int (iv (S33.1 11 13))), (2, .ref (G.2.2.1 + qP)), (0, .ref (G.2.2.1 + 11)), (1, .int (iv dd))]) hx hb dX9_term_139 hl (k := 1) rfl ((Int32.ofInt_add _ _).symm) (by decide) rfl (fun ls hl => ?_)
                  refine lv_goto (tgt := 33) hx hb dX9_term_142 (by decide) ?_
                  have q_75 : (-2147483648) ≤ u_55.1 11 12 ∧ u_55.1 11 12 ≤ 2147483647 := iu_55.fi 11 12 9 (by decide) rfl
                  have lk_76 : u_66.1 11 12 = u_55.1 11 12 := (fu_66 11 (p1_no (tau_ne (rfl : tau 11 = .inl 9) lqP.1 (fun h => by cases h)))).1 12
                  have q_77 : (-2147483648) ≤ u_55.1 11 13 ∧ u_55.1 11 13 ≤ 2147483647 := iu_55.fi 11 13 9 (by decide) rfl
                  have lk_78 : u_66.1 11 13 = u_55.1 11 13 := (fu_66 11 (p1_no (tau_ne (rfl : tau 11 = .inl 9) lqP.1 (fun h => by cases h)))).1 13
                  have q_79 : 0 ≤ u_55.1 11 14 ∧ u_55.1 11 14 ≤ 7 := iu_55.fi 11 14 9 (by decide) rfl
                  have lk_80 : u_66.1 11 14 = u_55.1 11 14 := (fu_66 11 (p1_no (tau_ne (rfl : tau 11 = .inl 9) lqP.1 (fun h => by cases h)))).1 14
                  have q_81 : 0 ≤ u_55.1 11 9 ∧ u_55.1 11 9 ≤ 128 := iu_55.fi 11 9 9 (by decide) rfl
                  have lk_82 : u_66.1 11 9 = u_55.1 11 9 := (fu_66 11 (p1_no (tau_ne (rfl : tau 11 = .inl 9) lqP.1 (fun h => by cases h)))).1 9
                  have nr_83 : NRc N u_66 := n1.of (by omega) (fun j => (F_70 16 rfl).2.2.1 j) (fun j => (F_70 17 rfl).2.1 j) (fun j => (F_70 18 rfl).2.1 j)
                  exact ih_33 u_66 (i + 1) _ _ _ (by omega) iu_66 F_68 F_69 (by omega) (by omega) (by omega) (by omega) nr_83 (by rw [show u_66.1 11 13 = q2 by omega]; exact hw2) ⟨(vml V V1), (by rw [eG, eL_so hsT hRi hst e1 (oMul_s hnl ngr), show u_66.1 11 13 = q2 by omega, show u_66.1 11 12 = u_55.1 11 12 by omega]), wS, vb9_n ngr⟩ hW hL (lv_sub hl [0, 2, 3, 4] rfl)
                · refine lv_aload_n hx hb dX9_term_130 rfl (lv_at hl 3 rfl) ?_
                  refine lv_bipush (v := iv 6) hx hb dX9_term_131 (by decide) ?_
                  refine lv_iload hx hb dX9_term_133 (lv_at hl 0 rfl) ?_
                  have q_84 : (-2147483648) ≤ u_55.1 11 13 ∧ u_55.1 11 13 ≤ 2147483647 := iu_55.fi 11 13 9 (by decide) rfl
                  have lk_85 : u_66.1 11 13 = u_55.1 11 13 := (fu_66 11 (p1_no (tau_ne (rfl : tau 11 = .inl 9) lqP.1 (fun h => by cases h)))).1 13
                  have q_86 : 0 ≤ u_55.1 11 9 ∧ u_55.1 11 9 ≤ 128 := iu_55.fi 11 9 9 (by decide) rfl
                  have lk_87 : u_66.1 11 9 = u_55.1 11 9 := (fu_66 11 (p1_no (tau_ne (rfl : tau 11 = .inl 9) lqP.1 (fun h => by cases h)))).1 9
                  have q_88 : 0 ≤ u_55.1 11 10 ∧ u_55.1 11 10 ≤ 8 := iu_55.fi 11 10 9 (by decide) rfl
                  have lk_89 : u_66.1 11 10 = u_55.1 11 10 := (fu_66 11 (p1_no (tau_ne (rfl : tau 11 = .inl 9) lqP.1 (fun h => by cases h)))).1 10
                  have q_90 : 0 ≤ u_55.1 11 11 ∧ u_55.1 11 11 ≤ 12 := iu_55.fi 11 11 9 (by decide) rfl
                  have lk_91 : u_66.1 11 11 = u_55.1 11 11 := (fu_66 11 (p1_no (tau_ne (rfl : tau 11 = .inl 9) lqP.1 (fun h => by cases h)))).1 11
                  have q_92 : (-2147483648) ≤ u_55.1 11 12 ∧ u_55.1 11 12 ≤ 2147483647 := iu_55.fi 11 12 9 (by decide) rfl
                  have lk_93 : u_66.1 11 12 = u_55.1 11 12 := (fu_66 11 (p1_no (tau_ne (rfl : tau 11 = .inl 9) lqP.1 (fun h => by cases h)))).1 12
                  refine sBi (sV (As := [.int (iv 6), .int (iv (S33.1 11 13))]) (rest := []) (k := 11) Cx (e_X9_fail l G u_66 (k := 6) (tk := S33.1 11 13) iu_66 (by omega) (by omega)) (c_X9_132 Cx rfl rfl (rmk_ok (by omega) (by decide))) hW (by decide) rfl rfl rfl hl.1 rfl (Nat.le_of_ble_eq_true rfl) dX9_term_135 ⟨Nat.le_of_ble_eq_true rfl, Nat.le_of_ble_eq_true rfl⟩) hL (fun r_96 u_94 H locs k_95 hW hL => ?_)
                  obtain ⟨iu_94, fu_94, xu_94⟩ := k_95
                  have F_97 := F_68.trans (fu_94.to (p1_sub (pE_y (by omega))))
                  have F_98 := F_69.trans (fu_94.to (p1_sub (pE_y (by omega))))
                  have F_99 := F_70.trans (fu_94.to (p1_sub rfl))
                  have q_100 : (-2147483648) ≤ u_94.1 11 12 ∧ u_94.1 11 12 ≤ 2147483647 := iu_94.fi 11 12 9 (by decide) rfl
                  have q_101 : (-2147483648) ≤ u_94.1 11 13 ∧ u_94.1 11 13 ≤ 2147483647 := iu_94.fi 11 13 9 (by decide) rfl
                  have q_102 : 0 ≤ u_94.1 11 14 ∧ u_94.1 11 14 ≤ 7 := iu_94.fi 11 14 9 (by decide) rfl
                  have q_103 : 0 ≤ u_94.1 11 9 ∧ u_94.1 11 9 ≤ 128 := iu_94.fi 11 9 9 (by decide) rfl
                  exact sZret Cx hr hlk hW hL (by omega) ⟨iu_94, F_97, ⟨(by omega), (fun h => absurd h (by omega)), (fun _ => (by rw [eG]; exact eL_f2 hst e1 (oMul_g hnl ((veq_grt wS).mp (xu_71.2.1 (by omega))))))⟩⟩ dX9_term_138
              · refine lv_aload_n hx hb dX9_term_93 rfl (lv_at hl 3 rfl) ?_
                refine g_X9_37 Cx hW (k := 11) (by decide) rfl (v := .ref (G.2.2.1 + 83)) (rf_11_6 iu_55) dX9_term_94 ?_
                refine lv_iload_n hx hb dX9_term_97 rfl (lv_at hl 4 rfl) ?_
                refine rAald Cx hW (k := 83) (by decide) rfl (by decide) (by omega) (by omega) (r2_83f iu_55 hqF (by omega) (by omega)) dX9_term_98 ?_
                refine sBi (sSt (As := [.ref (G.2.2.1 + qF)]) (rest := []) Cx (e_X9_hasCoefficient l G u_55 (qa := qF) iu_55 lqF) (c_X9_214 Cx rfl rfl (rmk_ok (by omega) (by decide))) hW rfl hl.1 rfl (Nat.le_of_ble_eq_true rfl) dX9_term_99 ⟨Nat.le_of_ble_eq_true rfl, Nat.le_of_ble_eq_true rfl⟩) hL (fun r_106 u_104 H locs k_105 hW hL => ?_)
                obtain ⟨eu_104, xu_104⟩ := k_105
                rw [eu_104] at hW
                refine r_if_eq (tgt := 113) hx hb ⟨(by omega), (by omega)⟩ dX9_term_102 (by decide) (fun c_107 => ?_) (fun c_107 => ?_)
                · have hnl : Hd (¬ (hsv V ∧ hsv V1)) := (fun z => xu_104.2.2 (by omega) ((veq_hsv w1).mpr z.2))
                  refine lv_aload_n hx hb dX9_term_113 rfl (lv_at hl 2 rfl) ?_
                  refine lv_aload_n hx hb dX9_term_114 rfl (lv_at hl 3 rfl) ?_
                  refine g_X9_37 Cx hW (k := 11) (by decide) rfl (v := .ref (G.2.2.1 + 83)) (rf_11_6 iu_55) dX9_term_115 ?_
                  refine lv_iload_n hx hb dX9_term_118 rfl (lv_at hl 4 rfl) ?_
                  refine rAald Cx hW (k := 83) (by decide) rfl (by decide) (by omega) (by omega) (r2_83f iu_55 hqF (by omega) (by omega)) dX9_term_119 ?_
                  refine sBv (sSt (As := [.ref (G.2.2.1 + qP), .ref (G.2.2.1 + qF)]) (rest := []) Cx (e_X9_multiply l G u_55 (qa := qP) (qb := qF) iu_55 lqP lqF (by omega) (bV.eq wP) (b1.eq w1)) (c_X9_217 Cx rfl rfl (rmk_ok (by omega) (by decide))) hW rfl hl.1 rfl (Nat.le_of_ble_eq_true rfl) dX9_term_120 ⟨Nat.le_of_ble_eq_true rfl, Nat.le_of_ble_eq_true rfl⟩) hL (fun u_108 H locs k_109 hW hL => ?_)
                  obtain ⟨iu_108, fu_108, xu_108⟩ := k_109
                  have F_110 := F_58.trans (fu_108.to (p1_sub (pE_y (by omega))))
                  have F_111 := F_59.trans (fu_108.to (p1_sub (pE_y (by omega))))
                  have F_112 := (Fr.rf : Fr u_55 u_55 pR3).trans (fu_108.to (p1_sub (lr_R lqP)))
                  have wS : veq (u_108.2.2.1 qP) (vml V V1) := veq_tr xu_108 (veq_vml wP w1)
                  refine lv_aload_n hx hb dX9_term_123 rfl (lv_at hl 2 rfl) ?_
                  refine sBi (sSt (As := [.ref (G.2.2.1 + qP)]) (rest := []) Cx (e_X9_isGreat l G u_108 (qa := qP) iu_108 lqP (vbd_ml bV b1 hnl wS)) (c_X9_189 Cx rfl rfl (rmk_ok (by omega) (by decide))) hW rfl hl.1 rfl (Nat.le_of_ble_eq_true rfl) dX9_term_124 ⟨Nat.le_of_ble_eq_true rfl, Nat.le_of_ble_eq_true rfl⟩) hL (fun r_115 u_113 H locs k_114 hW hL => ?_)
                  obtain ⟨eu_113, xu_113⟩ := k_114
                  rw [eu_113] at hW
                  refine r_if_eq (tgt := 139) hx hb ⟨(by omega), (by omega)⟩ dX9_term_127 (by decide) (fun c_116 => ?_) (fun c_116 => ?_)
                  · have ngr : Hd (¬ grt (vml V V1)) := (fun z => xu_113.2.2 (by omega) ((veq_grt wS).mpr z))
                    refine lv_iinc (v := iv (i + 1)) (lv' := [(3, .int (iv (i + 1))), (4, .int (iv (S33.1 11 13))), (2, .ref (G.2.2.1 + qP)), (0, .ref (G.2.2.1 + 11)), (1, .int (iv dd))]) hx hb dX9_term_139 hl (k := 1) rfl ((Int32.ofInt_add _ _).symm) (by decide) rfl (fun ls hl => ?_)
                    refine lv_goto (tgt := 33) hx hb dX9_term_142 (by decide) ?_
                    have q_117 : (-2147483648) ≤ u_55.1 11 12 ∧ u_55.1 11 12 ≤ 2147483647 := iu_55.fi 11 12 9 (by decide) rfl
                    have lk_118 : u_108.1 11 12 = u_55.1 11 12 := (fu_108 11 (p1_no (tau_ne (rfl : tau 11 = .inl 9) lqP.1 (fun h => by cases h)))).1 12
                    have q_119 : (-2147483648) ≤ u_55.1 11 13 ∧ u_55.1 11 13 ≤ 2147483647 := iu_55.fi 11 13 9 (by decide) rfl
                    have lk_120 : u_108.1 11 13 = u_55.1 11 13 := (fu_108 11 (p1_no (tau_ne (rfl : tau 11 = .inl 9) lqP.1 (fun h => by cases h)))).1 13
                    have q_121 : 0 ≤ u_55.1 11 14 ∧ u_55.1 11 14 ≤ 7 := iu_55.fi 11 14 9 (by decide) rfl
                    have lk_122 : u_108.1 11 14 = u_55.1 11 14 := (fu_108 11 (p1_no (tau_ne (rfl : tau 11 = .inl 9) lqP.1 (fun h => by cases h)))).1 14
                    have q_123 : 0 ≤ u_55.1 11 9 ∧ u_55.1 11 9 ≤ 128 := iu_55.fi 11 9 9 (by decide) rfl
                    have lk_124 : u_108.1 11 9 = u_55.1 11 9 := (fu_108 11 (p1_no (tau_ne (rfl : tau 11 = .inl 9) lqP.1 (fun h => by cases h)))).1 9
                    have nr_125 : NRc N u_108 := n1.of (by omega) (fun j => (F_112 16 rfl).2.2.1 j) (fun j => (F_112 17 rfl).2.1 j) (fun j => (F_112 18 rfl).2.1 j)
                    exact ih_33 u_108 (i + 1) _ _ _ (by omega) iu_108 F_110 F_111 (by omega) (by omega) (by omega) (by omega) nr_125 (by rw [show u_108.1 11 13 = q2 by omega]; exact hw2) ⟨(vml V V1), (by rw [eG, eL_so hsT hRi hst e1 (oMul_s hnl ngr), show u_108.1 11 13 = q2 by omega, show u_108.1 11 12 = u_55.1 11 12 by omega]), wS, vb9_n ngr⟩ hW hL (lv_sub hl [0, 2, 3, 4] rfl)
                  · refine lv_aload_n hx hb dX9_term_130 rfl (lv_at hl 3 rfl) ?_
                    refine lv_bipush (v := iv 6) hx hb dX9_term_131 (by decide) ?_
                    refine lv_iload hx hb dX9_term_133 (lv_at hl 0 rfl) ?_
                    have q_126 : (-2147483648) ≤ u_55.1 11 13 ∧ u_55.1 11 13 ≤ 2147483647 := iu_55.fi 11 13 9 (by decide) rfl
                    have lk_127 : u_108.1 11 13 = u_55.1 11 13 := (fu_108 11 (p1_no (tau_ne (rfl : tau 11 = .inl 9) lqP.1 (fun h => by cases h)))).1 13
                    have q_128 : 0 ≤ u_55.1 11 9 ∧ u_55.1 11 9 ≤ 128 := iu_55.fi 11 9 9 (by decide) rfl
                    have lk_129 : u_108.1 11 9 = u_55.1 11 9 := (fu_108 11 (p1_no (tau_ne (rfl : tau 11 = .inl 9) lqP.1 (fun h => by cases h)))).1 9
                    have q_130 : 0 ≤ u_55.1 11 10 ∧ u_55.1 11 10 ≤ 8 := iu_55.fi 11 10 9 (by decide) rfl
                    have lk_131 : u_108.1 11 10 = u_55.1 11 10 := (fu_108 11 (p1_no (tau_ne (rfl : tau 11 = .inl 9) lqP.1 (fun h => by cases h)))).1 10
                    have q_132 : 0 ≤ u_55.1 11 11 ∧ u_55.1 11 11 ≤ 12 := iu_55.fi 11 11 9 (by decide) rfl
                    have lk_133 : u_108.1 11 11 = u_55.1 11 11 := (fu_108 11 (p1_no (tau_ne (rfl : tau 11 = .inl 9) lqP.1 (fun h => by cases h)))).1 11
                    have q_134 : (-2147483648) ≤ u_55.1 11 12 ∧ u_55.1 11 12 ≤ 2147483647 := iu_55.fi 11 12 9 (by decide) rfl
                    have lk_135 : u_108.1 11 12 = u_55.1 11 12 := (fu_108 11 (p1_no (tau_ne (rfl : tau 11 = .inl 9) lqP.1 (fun h => by cases h)))).1 12
                    refine sBi (sV (As := [.int (iv 6), .int (iv (S33.1 11 13))]) (rest := []) (k := 11) Cx (e_X9_fail l G u_108 (k := 6) (tk := S33.1 11 13) iu_108 (by omega) (by omega)) (c_X9_132 Cx rfl rfl (rmk_ok (by omega) (by decide))) hW (by decide) rfl rfl rfl hl.1 rfl (Nat.le_of_ble_eq_true rfl) dX9_term_135 ⟨Nat.le_of_ble_eq_true rfl, Nat.le_of_ble_eq_true rfl⟩) hL (fun r_138 u_136 H locs k_137 hW hL => ?_)
                    obtain ⟨iu_136, fu_136, xu_136⟩ := k_137
                    have F_139 := F_110.trans (fu_136.to (p1_sub (pE_y (by omega))))
                    have F_140 := F_111.trans (fu_136.to (p1_sub (pE_y (by omega))))
                    have F_141 := F_112.trans (fu_136.to (p1_sub rfl))
                    have q_142 : (-2147483648) ≤ u_136.1 11 12 ∧ u_136.1 11 12 ≤ 2147483647 := iu_136.fi 11 12 9 (by decide) rfl
                    have q_143 : (-2147483648) ≤ u_136.1 11 13 ∧ u_136.1 11 13 ≤ 2147483647 := iu_136.fi 11 13 9 (by decide) rfl
                    have q_144 : 0 ≤ u_136.1 11 14 ∧ u_136.1 11 14 ≤ 7 := iu_136.fi 11 14 9 (by decide) rfl
                    have q_145 : 0 ≤ u_136.1 11 9 ∧ u_136.1 11 9 ≤ 128 := iu_136.fi 11 9 9 (by decide) rfl
                    exact sZret Cx hr hlk hW hL (by omega) ⟨iu_136, F_139, ⟨(by omega), (fun h => absurd h (by omega)), (fun _ => (by rw [eG]; exact eL_f2 hst e1 (oMul_g hnl ((veq_grt wS).mp (xu_113.2.1 (by omega))))))⟩⟩ dX9_term_138
                · refine lv_aload_n hx hb dX9_term_105 rfl (lv_at hl 3 rfl) ?_
                  refine lv_iconst (v := iv 4) hx hb dX9_term_106 (by decide) ?_
                  refine lv_iload hx hb dX9_term_107 (lv_at hl 0 rfl) ?_
                  have q_146 : (-2147483648) ≤ u_55.1 11 13 ∧ u_55.1 11 13 ≤ 2147483647 := iu_55.fi 11 13 9 (by decide) rfl
                  have q_147 : 0 ≤ u_55.1 11 9 ∧ u_55.1 11 9 ≤ 128 := iu_55.fi 11 9 9 (by decide) rfl
                  have q_148 : 0 ≤ u_55.1 11 10 ∧ u_55.1 11 10 ≤ 8 := iu_55.fi 11 10 9 (by decide) rfl
                  have q_149 : 0 ≤ u_55.1 11 11 ∧ u_55.1 11 11 ≤ 12 := iu_55.fi 11 11 9 (by decide) rfl
                  have q_150 : (-2147483648) ≤ u_55.1 11 12 ∧ u_55.1 11 12 ≤ 2147483647 := iu_55.fi 11 12 9 (by decide) rfl
                  refine sBi (sV (As := [.int (iv 4), .int (iv (S33.1 11 13))]) (rest := []) (k := 11) Cx (e_X9_fail l G u_55 (k := 4) (tk := S33.1 11 13) iu_55 (by omega) (by omega)) (c_X9_132 Cx rfl rfl (rmk_ok (by omega) (by decide))) hW (by decide) rfl rfl rfl hl.1 rfl (Nat.le_of_ble_eq_true rfl) dX9_term_109 ⟨Nat.le_of_ble_eq_true rfl, Nat.le_of_ble_eq_true rfl⟩) hL (fun r_153 u_151 H locs k_152 hW hL => ?_)
                  obtain ⟨iu_151, fu_151, xu_151⟩ := k_152
                  have F_154 := F_58.trans (fu_151.to (p1_sub (pE_y (by omega))))
                  have F_155 := F_59.trans (fu_151.to (p1_sub (pE_y (by omega))))
                  have F_156 := F_60.trans (fu_151.to (p1_sub (pE_y (by omega))))
                  have F_157 := (Fr.rf : Fr u_55 u_55 pR3).trans (fu_151.to (p1_sub rfl))
                  have q_158 : (-2147483648) ≤ u_151.1 11 12 ∧ u_151.1 11 12 ≤ 2147483647 := iu_151.fi 11 12 9 (by decide) rfl
                  have q_159 : (-2147483648) ≤ u_151.1 11 13 ∧ u_151.1 11 13 ≤ 2147483647 := iu_151.fi 11 13 9 (by decide) rfl
                  have q_160 : 0 ≤ u_151.1 11 14 ∧ u_151.1 11 14 ≤ 7 := iu_151.fi 11 14 9 (by decide) rfl
                  have q_161 : 0 ≤ u_151.1 11 9 ∧ u_151.1 11 9 ≤ 128 := iu_151.fi 11 9 9 (by decide) rfl
                  exact sZret Cx hr hlk hW hL (by omega) ⟨iu_151, F_154, ⟨(by omega), (fun h => absurd h (by omega)), (fun _ => (by rw [eG]; exact eL_f2 hst e1 (oMul_n ⟨(veq_hsv wP).mp (xu_62.2.1 (by omega)), (veq_hsv w1).mp (xu_104.2.1 (by omega))⟩)))⟩⟩ dX9_term_112
            · refine lv_iconst (v := iv 0) hx hb dX9_term_84 (by decide) ?_
              have q_162 : (-2147483648) ≤ u_55.1 11 12 ∧ u_55.1 11 12 ≤ 2147483647 := iu_55.fi 11 12 9 (by decide) rfl
              have q_163 : (-2147483648) ≤ u_55.1 11 13 ∧ u_55.1 11 13 ≤ 2147483647 := iu_55.fi 11 13 9 (by decide) rfl
              have q_164 : 0 ≤ u_55.1 11 14 ∧ u_55.1 11 14 ≤ 7 := iu_55.fi 11 14 9 (by decide) rfl
              have q_165 : 0 ≤ u_55.1 11 9 ∧ u_55.1 11 9 ≤ 128 := iu_55.fi 11 9 9 (by decide) rfl
              exact sZret Cx hr hlk hW hL (by omega) ⟨iu_55, F_58, ⟨(by omega), (fun h => absurd h (by omega)), (fun _ => (by have q9 := xu_55.2.2 (by omega); rw [show (uF S33 11 13 ((S33.1 11 13) + 1)).1 11 12 = S33.1 11 12 by omega] at q9; rw [eG]; exact eL_f1 hst q9))⟩⟩ dX9_term_85
    exact loop_33 (_ + 1) (uD u_5 qF 0 qP 0 13) 0 _ _ _ (Nat.lt_succ_self _) i_12 F_10 Fr.rf (by omega) (by omega) (by omega) (by omega) nr_21 (by rw [show (uD u_5 qF 0 qP 0 13).1 11 13 = q0 by omega]; exact hw0) ⟨V0, (by rw [show (uD u_5 qF 0 qP 0 13).1 11 13 = q0 by omega, show (uD u_5 qF 0 qP 0 13).1 11 12 = u_5.1 11 12 by omega]; unfold eP; rw [e0]; rfl), (veq_cp w0), b0⟩ hW hL (lv_sub hl [0, 1, 2, 3] rfl)
  · refine lv_iconst (v := iv 0) hx hb dX9_term_8 (by decide) ?_
    have q_166 : (-2147483648) ≤ u_5.1 11 12 ∧ u_5.1 11 12 ≤ 2147483647 := iu_5.fi 11 12 9 (by decide) rfl
    have q_167 : (-2147483648) ≤ u_5.1 11 13 ∧ u_5.1 11 13 ≤ 2147483647 := iu_5.fi 11 13 9 (by decide) rfl
    have q_168 : 0 ≤ u_5.1 11 14 ∧ u_5.1 11 14 ≤ 7 := iu_5.fi 11 14 9 (by decide) rfl
    have q_169 : 0 ≤ u_5.1 11 9 ∧ u_5.1 11 9 ≤ 128 := iu_5.fi 11 9 9 (by decide) rfl
    exact sZret Cx hr hlk hW hL (by omega) ⟨iu_5, F_8, ⟨(by omega), (fun h => absurd h (by omega)), (fun _ => (by have q9 := xu_5.2.2 (by omega); unfold eP; rw [q9]; rfl))⟩⟩ dX9_term_9

set_option maxRecDepth 100000 in
set_option maxHeartbeats 4000000 in
theorem e_X9_expression (l : Launch) (G : sG) (S : sS) {N : sN} {k v : Int → Int} {T pz q dd : Int} {dn qS qP n d1 D : Nat} (hI : cX G S 0 0 0) (hdd : 0 ≤ dd ∧ dd ≤ 29) (hN : Hd (NRc N S)) (hK : Hd (NK N)) (hTV : Hd (TVn k v)) (hkv : Hd (KV S k v T)) (hfk : S.1 11 14 = 0) (hat : S.1 11 13 = pz) (hpz : 0 ≤ pz ∧ pz ≤ 2000) (hlk : 0 ≤ S.1 11 12 ∧ S.1 11 12 ≤ 20000) (hdn : dd = (dn : Int)) (h1 : d1 < D) (h4 : 8 ≤ D) (hn : (n : Int) = 30 - dd) (hnm : N.1 + n ≤ 128) (hqb : q ≤ 2001) (hqS : qS = 20 + dn) (hqP : qP = 52 + dn) (hT : TX l G d1 dd dn) (hgx : Hd (ogU T k (ogF T k n) pz = some q)) : Met l yX9_expression (.code yX9_expression cX9_expression 6 (some .boolean) :: tb) (rmk D 0 0) (sPc G 294 S [.ref (G.2.2.1 + 11), .int (iv dd)]) (sQi G 294 (fun r u => cX G u 0 0 0 ∧ Fr S u (pE dn dn dn) ∧ (EO u N q r (eU T k (eF T k v n N) (S.1 11 12) pz) qS))) 0 0 (sF G) := by
  refine sEnter (by decide) (Nat.le_of_ble_eq_true rfl) ?_
  intro p e s m args below meth c Cx hr hlk hnm hW ls hl
  have Cx : sC G p m c cX9_expression 6 s args RX9 := Cx
  obtain ⟨hx, hb, hml, hown, hts⟩ := id Cx.1
  have hL : sL G [] := sL_nil
  have hl : lv_has ls 6 [(0, .ref (G.2.2.1 + 11)), (1, .int (iv dd))] := hl
  have hW0 := hW
  have lqS := lr_19 hqS (by omega)
  have lqP := lr_51 hqP (by omega)
  have hkn : 0 ≤ S.1 11 9 ∧ S.1 11 9 ≤ 128 := hI.fi 11 9 9 (by decide) rfl
  have hTb : 0 ≤ S.1 12 3 ∧ S.1 12 3 ≤ 2001 := hI.fi 12 3 8 (by decide) rfl
  have hTe := hkv.2.2
  have hN1 := hN.1
  obtain ⟨q0, hg0, hw0⟩ := ogB hgx
  have hq0 := ogP_inc (ogF_inc n) _ _ hg0
  have hsT : Hd (∀ p, (fun p => k p = 21 ∨ k p = 22) p → p < T) := (fun p c => hkv.lt rfl (fun z => by have c : k p = 21 ∨ k p = 22 := c; omega))
  have hRi : Hd (RInc (eP T k (eF T k v n N))) := (eP_inc (eF_inc n N))
  have hgR : Hd (∀ p q, (fun p => k p = 21 ∨ k p = 22) p → (fun p => ogP T k (ogF T k n) (p + 1)) p = some q → p < q) := (fun p q _ h => by have h : ogP T k (ogF T k n) (p + 1) = some q := h; have h2 := ogP_inc (ogF_inc n) _ _ h; omega)
  have hqq := ogW_le hgR _ _ hw0
  refine lv_iload_n hx hb dX9_expression_0 rfl (lv_at hl 1 rfl) ?_
  refine lv_bipush (v := iv 30) hx hb dX9_expression_1 (by decide) ?_
  refine r_icmp_lt (tgt := 16) hx hb ⟨(by omega), (by omega)⟩ ⟨(by omega), (by omega)⟩ dX9_expression_3 (by decide) (fun c_1 => ?_) (fun c_1 => ?_)
  · refine lv_aload_n hx hb dX9_expression_16 rfl (lv_at hl 0 rfl) ?_
    refine lv_iload_n hx hb dX9_expression_17 rfl (lv_at hl 1 rfl) ?_
    have q_2 : (-2147483648) ≤ S.1 11 12 ∧ S.1 11 12 ≤ 2147483647 := hI.fi 11 12 9 (by decide) rfl
    have q_3 : (-2147483648) ≤ S.1 11 13 ∧ S.1 11 13 ≤ 2147483647 := hI.fi 11 13 9 (by decide) rfl
    have q_4 : 0 ≤ S.1 11 14 ∧ S.1 11 14 ≤ 7 := hI.fi 11 14 9 (by decide) rfl
    have q_5 : 0 ≤ S.1 11 9 ∧ S.1 11 9 ≤ 128 := hI.fi 11 9 9 (by decide) rfl
    refine sBi (sV (As := [.int (iv dd)]) (rest := []) (k := 11) Cx (hT S N k v T (pz) q0 n hI ⟨hN, hK, hTV, hkv, (by omega), (by omega), (by omega), ⟨by omega, by omega⟩⟩ (by omega) (by omega) (by omega) hg0) (c_X9_208 Cx rfl rfl (rmk_ok (by omega) (by decide))) hW (by decide) rfl rfl rfl hl.1 rfl (Nat.le_of_ble_eq_true rfl) dX9_expression_18 ⟨Nat.le_of_ble_eq_true rfl, Nat.le_of_ble_eq_true rfl⟩) hL (fun r_8 u_6 H locs k_7 hW hL => ?_)
    obtain ⟨iu_6, fu_6, xu_6⟩ := k_7
    have yu_6 := xu_6.1
    have F_9 := (Fr.rf : Fr S S (pE dn dn dn)).trans (fu_6.to (pE_s (by omega) (by omega) (by omega)))
    refine r_if_ne (tgt := 26) hx hb ⟨(by omega), (by omega)⟩ dX9_expression_21 (by decide) (fun c_10 => ?_) (fun c_10 => ?_)
    · obtain ⟨V0, e0, w0, b0, l0, pp0, ff0, n0⟩ := xu_6.2.1 (by omega)
      rw [← hqP] at w0
      refine lv_aload_n hx hb dX9_expression_26 rfl (lv_at hl 0 rfl) ?_
      refine g_X9_31 Cx hW (k := 11) (by decide) rfl (v := .ref (G.2.2.1 + 19)) (rf_11_4 iu_6) dX9_expression_27 ?_
      refine lv_iload_n hx hb dX9_expression_30 rfl (lv_at hl 1 rfl) ?_
      refine rAald Cx hW (k := 19) (by decide) rfl (by decide) (by omega) (by omega) (r2_19f iu_6 hqS (by omega) (by omega)) dX9_expression_31 ?_
      refine lv_astore_n (lv' := [(2, .ref (G.2.2.1 + qS)), (0, .ref (G.2.2.1 + 11)), (1, .int (iv dd))]) hx hb dX9_expression_32 rfl hl (by decide) rfl (fun ls hl => ?_)
      refine lv_aload_n hx hb dX9_expression_33 rfl (lv_at hl 1 rfl) ?_
      refine g_X9_34 Cx hW (k := 11) (by decide) rfl (v := .ref (G.2.2.1 + 51)) (rf_11_5 iu_6) dX9_expression_34 ?_
      refine lv_iload_n hx hb dX9_expression_37 rfl (lv_at hl 2 rfl) ?_
      refine rAald Cx hW (k := 51) (by decide) rfl (by decide) (by omega) (by omega) (r2_51f iu_6 hqP (by omega) (by omega)) dX9_expression_38 ?_
      refine lv_iconst (v := iv 0) hx hb dX9_expression_39 (by decide) ?_
      refine lv_aload_n hx hb dX9_expression_40 rfl (lv_at hl 0 rfl) ?_
      refine lv_iconst (v := iv 0) hx hb dX9_expression_41 (by decide) ?_
      refine lv_bipush (v := iv 13) hx hb dX9_expression_42 (by decide) ?_
      refine rCopyL Cx hW hL (hml.trans hl.1.symm) w_1087 w_1089 w_1088 w_224 (k0 := qP) (k1 := qS) (lr_l lqP) lqP.1 (lr_l lqS) lqS.1 (by decide) (by decide) (by omega) (by omega) (by omega) (by omega) (by omega) (rmk_f (by omega)) (rmk_l (by omega) (by decide)) dX9_expression_44 (fun H locs hW hL => ?_)
      have F_11 : Fr S (uD u_6 qP 0 qS 0 13) (pE dn dn dn) := F_9.D (pE_y (by omega))
      have F_12 : Fr u_6 (uD u_6 qP 0 qS 0 13) pR3 := (Fr.rf : Fr u_6 u_6 pR3).D (lr_R lqS)
      have i_13 : cX G (uD u_6 qP 0 qS 0 13) 0 0 0 := iu_6.D (lr_k lqP)
      have q_14 : (-2147483648) ≤ u_6.1 11 12 ∧ u_6.1 11 12 ≤ 2147483647 := iu_6.fi 11 12 9 (by decide) rfl
      have lk_15 : (uD u_6 qP 0 qS 0 13).1 11 12 = u_6.1 11 12 := uD_f
      have q_16 : (-2147483648) ≤ u_6.1 11 13 ∧ u_6.1 11 13 ≤ 2147483647 := iu_6.fi 11 13 9 (by decide) rfl
      have lk_17 : (uD u_6 qP 0 qS 0 13).1 11 13 = u_6.1 11 13 := uD_f
      have q_18 : 0 ≤ u_6.1 11 14 ∧ u_6.1 11 14 ≤ 7 := iu_6.fi 11 14 9 (by decide) rfl
      have lk_19 : (uD u_6 qP 0 qS 0 13).1 11 14 = u_6.1 11 14 := uD_f
      have q_20 : 0 ≤ u_6.1 11 9 ∧ u_6.1 11 9 ≤ 128 := iu_6.fi 11 9 9 (by decide) rfl
      have lk_21 : (uD u_6 qP 0 qS 0 13).1 11 9 = u_6.1 11 9 := uD_f
      have nr_22 : NRc N (uD u_6 qP 0 qS 0 13) := n0.of (by omega) (fun j => (F_12 16 rfl).2.2.1 j) (fun j => (F_12 17 rfl).2.1 j) (fun j => (F_12 18 rfl).2.1 j)
      refine lv_iconst (v := iv 0) hx hb dX9_expression_47 (by decide) ?_
      refine lv_istore_n (lv' := [(3, .int (iv 0)), (2, .ref (G.2.2.1 + qS)), (0, .ref (G.2.2.1 + 11)), (1, .int (iv dd))]) hx hb dX9_expression_48 rfl hl (by decide) rfl (fun ls hl => ?_)
      have loop_49 : ∀ (fuel : Nat) (S49 : sS) (i : Int) (H : Heap) (locs : List Loc) (ls : Array Slot), (2001 - i).toNat < fuel → (cX G S49 0 0 0) → (Fr S S49 (pE dn dn dn)) → (Fr ((uD u_6 qP 0 qS 0 13)) S49 (pE dn dn dn)) → (0 ≤ i ∧ i ≤ 2001) → (pz + 1 + i ≤ S49.1 11 13) → (S49.1 11 14 = 0) → (0 ≤ S49.1 11 12 ∧ S49.1 11 12 ≤ 20000) → (Hd (NRc N S49)) → (Hd (ogW T (fun p => k p = 21 ∨ k p = 22) (fun p => ogP T k (ogF T k n) (p + 1)) (S49.1 11 13) = some q)) → (Hd (∃ V, eU T k (eF T k v n N) (S.1 11 12) pz = eL T (fun p => k p = 21 ∨ k p = 22) (eP T k (eF T k v n N)) (oAdd k) (S49.1 11 13, V, S49.1 11 12) ∧ veq (S49.2.2.1 qS) V ∧ vb9 V)) → sW G 294 S49 H → sL G locs → lv_has ls 6 [(3, .int (iv i)), (2, .ref (G.2.2.1 + qS)), (0, .ref (G.2.2.1 + 11)), (1, .int (iv dd))] → W p l e (rmk D 0 0) s m args below meth c H locs 0 0 (MQ below (sQi G 294 (fun r u => cX G u 0 0 0 ∧ Fr S u (pE dn dn dn) ∧ (EO u N q r (eU T k (eF T k v n N) (S.1 11 12) pz) qS))) args s 0 0 (sF G)) (F0 m 49 ls []) := by
        intro fuel
        induction fuel with
        | zero => intro S49 i H locs ls hmeas hI49 hFm49 hL49_ hi hp hfL hlL hNL hw hG hW hL hl; exact absurd hmeas (Nat.not_lt_zero _)
        | succ fuel ih_49 =>
          intro S49 i H locs ls hmeas hI49 hFm49 hL49_ hi hp hfL hlL hNL hw hG hW hL hl
          obtain ⟨V, eG, wV, bV⟩ := hG
          have hwl := ogW_le hgR _ _ hw
          refine lv_iload_n hx hb dX9_expression_49 rfl (lv_at hl 0 rfl) ?_
          refine lv_aload_n hx hb dX9_expression_50 rfl (lv_at hl 2 rfl) ?_
          refine g_X9_14 Cx hW (k := 11) (by decide) rfl (v := .ref (G.2.2.1 + 12)) (rf_11_0 hI49) dX9_expression_51 ?_
          have q_23 : 0 ≤ S.1 12 3 ∧ S.1 12 3 ≤ 2001 := hI.fi 12 3 8 (by decide) rfl
          have lk_24 : S49.1 12 3 = S.1 12 3 := ((hL49_ 12 (pE_n (by omega))).1 3).trans ((uD_f).trans ((fu_6 12 (pE_n (by omega))).1 3))
          refine sBi (sV (As := []) (rest := [.int (iv i)]) (k := 12) Cx (s_X8_tokenCount l G S49  hI49) (c_X9_92 Cx rfl rfl (rmk_ok (by omega) (by decide))) hW (by decide) rfl rfl rfl hl.1 rfl (Nat.le_of_ble_eq_true rfl) dX9_expression_54 ⟨Nat.le_of_ble_eq_true rfl, Nat.le_of_ble_eq_true rfl⟩) hL (fun r_27 u_25 H locs k_26 hW hL => ?_)
          obtain ⟨eu_25, xu_25⟩ := k_26
          rw [eu_25] at hW
          refine r_icmp_ge (tgt := 157) hx hb ⟨(by omega), (by omega)⟩ ⟨(by omega), (by omega)⟩ dX9_expression_57 (by decide) (fun c_28 => ?_) (fun c_28 => ?_)
          · refine lv_iconst (v := iv 1) hx hb dX9_expression_157 (by decide) ?_
            have q_29 : (-2147483648) ≤ S49.1 11 12 ∧ S49.1 11 12 ≤ 2147483647 := hI49.fi 11 12 9 (by decide) rfl
            have q_30 : (-2147483648) ≤ S49.1 11 13 ∧ S49.1 11 13 ≤ 2147483647 := hI49.fi 11 13 9 (by decide) rfl
            have q_31 : 0 ≤ S49.1 11 14 ∧ S49.1 11 14 ≤ 7 := hI49.fi 11 14 9 (by decide) rfl
            have q_32 : 0 ≤ S49.1 11 9 ∧ S49.1 11 9 ≤ 128 := hI49.fi 11 9 9 (by decide) rfl
            exact sZret Cx hr hlk hW hL (by omega) ⟨hI49, hFm49, (by have hns : Hd (¬ (fun p => k p = 21 ∨ k p = 22) (S49.1 11 13)) := (show ¬ k (S49.1 11 13) = 21 ∨ k (S49.1 11 13) = 22 by rw [hkv.z (S49.1 11 13) (by omega)]; decide); have hqe := ogW_q hns hw; exact ⟨(by omega), (fun _ => ⟨V, (by rw [eG, eL_no hns, ← hqe]), wV, bV, ⟨by omega, by omega⟩, (by omega), (by omega), hNL⟩), (fun h => absurd h (by decide))⟩)⟩ dX9_expression_158
          · refine lv_aload_n hx hb dX9_expression_60 rfl (lv_at hl 2 rfl) ?_
            have q_33 : (-2147483648) ≤ S49.1 11 13 ∧ S49.1 11 13 ≤ 2147483647 := hI49.fi 11 13 9 (by decide) rfl
            refine g_X9_89 Cx hW (k := 11) (by decide) rfl (v := S49.1 11 13) rfl dX9_expression_61 ?_
            refine lv_istore (lv' := [(4, .int (iv (S49.1 11 13))), (3, .int (iv i)), (2, .ref (G.2.2.1 + qS)), (0, .ref (G.2.2.1 + 11)), (1, .int (iv dd))]) hx hb dX9_expression_64 hl (by decide) rfl (fun ls hl => ?_)
            refine lv_aload_n hx hb dX9_expression_66 rfl (lv_at hl 3 rfl) ?_
            refine g_X9_14 Cx hW (k := 11) (by decide) rfl (v := .ref (G.2.2.1 + 12)) (rf_11_0 hI49) dX9_expression_67 ?_
            refine lv_iload hx hb dX9_expression_70 (lv_at hl 0 rfl) ?_
            refine sBi (sV (As := [.int (iv (S49.1 11 13))]) (rest := []) (k := 12) Cx (s_X8_kind l G S49 (k := S49.1 11 13) hI49 (by omega)) (c_X9_95 Cx rfl rfl (rmk_ok (by omega) (by decide))) hW (by decide) rfl rfl rfl hl.1 rfl (Nat.le_of_ble_eq_true rfl) dX9_expression_72 ⟨Nat.le_of_ble_eq_true rfl, Nat.le_of_ble_eq_true rfl⟩) hL (fun r_36 u_34 H locs k_35 hW hL => ?_)
            obtain ⟨eu_34, xu_34⟩ := k_35
            rw [eu_34] at hW
            have kv_37 : KV S49 k v T := hkv.fr hFm49 (pE_n (by omega)) (pE_n (by omega)) (pE_n (by omega))
            have kp : r_36 = k (S49.1 11 13) := (by rw [← kv_37.1]; exact xu_34.1)
            refine lv_istore (lv' := [(5, .int (iv r_36)), (4, .int (iv (S49.1 11 13))), (3, .int (iv i)), (2, .ref (G.2.2.1 + qS)), (0, .ref (G.2.2.1 + 11)), (1, .int (iv dd))]) hx hb dX9_expression_75 hl (by decide) rfl (fun ls hl => ?_)
            refine lv_iload hx hb dX9_expression_77 (lv_at hl 0 rfl) ?_
            refine lv_bipush (v := iv 21) hx hb dX9_expression_79 (by decide) ?_
            refine r_icmp_eq (tgt := 93) hx hb ⟨(by omega), (by omega)⟩ ⟨(by omega), (by omega)⟩ dX9_expression_81 (by decide) (fun c_38 => ?_) (fun c_38 => ?_)
            · have hst : Hd ((fun p => k p = 21 ∨ k p = 22) (S49.1 11 13)) := (show k (S49.1 11 13) = 21 ∨ k (S49.1 11 13) = 22 by omega)
              obtain ⟨q2, hg2, hw2⟩ := ogW_ii hsT hgR hst hw
              have hg2 : ogP T k (ogF T k n) (S49.1 11 13 + 1) = some q2 := hg2
              have hq2 := ogP_inc (ogF_inc n) _ _ hg2
              have hpT := hsT _ hst
              have hql := ogW_le hgR _ _ hw2
              refine lv_aload_n hx hb dX9_expression_93 rfl (lv_at hl 4 rfl) ?_
              refine lv_dup hx hb dX9_expression_94 rfl ?_
              refine g_X9_89 Cx hW (k := 11) (by decide) rfl (v := S49.1 11 13) rfl dX9_expression_95 ?_
              refine lv_iconst (v := iv 1) hx hb dX9_expression_98 (by decide) ?_
              refine r_iadd hx hb dX9_expression_99 ?_
              refine p_X9_89 Cx hW hL (k := 11) (by decide) rfl dX9_expression_100 (fun H locs hW hL => ?_)
              have F_39 : Fr S (uF S49 11 13 ((S49.1 11 13) + 1)) (pE dn dn dn) := hFm49.F (pE_y (by omega))
              have F_40 : Fr ((uD u_6 qP 0 qS 0 13)) (uF S49 11 13 ((S49.1 11 13) + 1)) (pE dn dn dn) := hL49_.F (pE_y (by omega))
              have F_41 : Fr S49 (uF S49 11 13 ((S49.1 11 13) + 1)) pR3 := (Fr.rf : Fr S49 S49 pR3).F rfl
              have F_42 : Fr S49 (uF S49 11 13 ((S49.1 11 13) + 1)) (pE (dn + 1) dn dn) := (Fr.rf : Fr S49 S49 (pE (dn + 1) dn dn)).F (pE_y (by omega))
              have i_43 : cX G (uF S49 11 13 ((S49.1 11 13) + 1)) 0 0 0 := hI49.F rfl rfl (show (-2147483648) ≤ (S49.1 11 13) + 1 ∧ (S49.1 11 13) + 1 ≤ 2147483647 from ⟨by omega, by omega⟩)
              refine lv_aload_n hx hb dX9_expression_103 rfl (lv_at hl 4 rfl) ?_
              refine lv_iload_n hx hb dX9_expression_104 rfl (lv_at hl 5 rfl) ?_
              have q_44 : (-2147483648) ≤ S49.1 11 12 ∧ S49.1 11 12 ≤ 2147483647 := hI49.fi 11 12 9 (by decide) rfl
              have lk_45 : (uF S49 11 13 ((S49.1 11 13) + 1)).1 11 12 = S49.1 11 12 := uF_ne (fun h => absurd h.2 (by decide))
              have lk_46 : (uF S49 11 13 ((S49.1 11 13) + 1)).1 11 13 = (S49.1 11 13) + 1 := uF_on
              have q_47 : 0 ≤ S49.1 11 14 ∧ S49.1 11 14 ≤ 7 := hI49.fi 11 14 9 (by decide) rfl
              have lk_48 : (uF S49 11 13 ((S49.1 11 13) + 1)).1 11 14 = S49.1 11 14 := uF_ne (fun h => absurd h.2 (by decide))
              have q_49 : 0 ≤ S49.1 11 9 ∧ S49.1 11 9 ≤ 128 := hI49.fi 11 9 9 (by decide) rfl
              have lk_50 : (uF S49 11 13 ((S49.1 11 13) + 1)).1 11 9 = S49.1 11 9 := uF_ne (fun h => absurd h.2 (by decide))
              have nr_51 : NRc N (uF S49 11 13 ((S49.1 11 13) + 1)) := hNL.of (by omega) (fun j => (F_41 16 rfl).2.2.1 j) (fun j => (F_41 17 rfl).2.1 j) (fun j => (F_41 18 rfl).2.1 j)
              have kv_52 : KV (uF S49 11 13 ((S49.1 11 13) + 1)) k v T := hkv.fr F_39 (pE_n (by omega)) (pE_n (by omega)) (pE_n (by omega))
              refine sBi (sV (As := [.int (iv dd)]) (rest := []) (k := 11) Cx (hT (uF S49 11 13 ((S49.1 11 13) + 1)) N k v T (S49.1 11 13 + 1) q2 n i_43 ⟨nr_51, hK, hTV, kv_52, (by omega), (by omega), (by omega), ⟨by omega, by omega⟩⟩ (by omega) (by omega) (by omega) hg2) (c_X9_208 Cx rfl rfl (rmk_ok (by omega) (by decide))) hW (by decide) rfl rfl rfl hl.1 rfl (Nat.le_of_ble_eq_true rfl) dX9_expression_105 ⟨Nat.le_of_ble_eq_true rfl, Nat.le_of_ble_eq_true rfl⟩) hL (fun r_55 u_53 H locs k_54 hW hL => ?_)
              obtain ⟨iu_53, fu_53, xu_53⟩ := k_54
              have yu_53 := xu_53.1
              have F_56 := F_39.trans (fu_53.to (pE_s (by omega) (by omega) (by omega)))
              have F_57 := F_40.trans (fu_53.to (pE_s (by omega) (by omega) (by omega)))
              have F_58 := F_42.trans fu_53
              refine r_if_ne (tgt := 113) hx hb ⟨(by omega), (by omega)⟩ dX9_expression_108 (by decide) (fun c_59 => ?_) (fun c_59 => ?_)
              · obtain ⟨V1, e1, w1, b1, l1, pp1, f1, n1⟩ := xu_53.2.1 (by omega)
                rw [← hqP] at w1
                rw [show (uF S49 11 13 ((S49.1 11 13) + 1)).1 11 12 = S49.1 11 12 by omega] at e1
                have wP : veq (u_53.2.2.1 qS) V := veq_tr (fun j a b => (F_58 qS (pE_n (by omega))).2.2.1 j) wV
                refine lv_aload_n hx hb dX9_expression_113 rfl (lv_at hl 3 rfl) ?_
                refine lv_aload_n hx hb dX9_expression_114 rfl (lv_at hl 4 rfl) ?_
                refine g_X9_34 Cx hW (k := 11) (by decide) rfl (v := .ref (G.2.2.1 + 51)) (rf_11_5 iu_53) dX9_expression_115 ?_
                refine lv_iload_n hx hb dX9_expression_118 rfl (lv_at hl 5 rfl) ?_
                refine rAald Cx hW (k := 51) (by decide) rfl (by decide) (by omega) (by omega) (r2_51f iu_53 hqP (by omega) (by omega)) dX9_expression_119 ?_
                refine lv_iload hx hb dX9_expression_120 (lv_at hl 0 rfl) ?_
                refine lv_bipush (v := iv 21) hx hb dX9_expression_122 (by decide) ?_
                refine r_icmp_ne (tgt := 131) hx hb ⟨(by omega), (by omega)⟩ ⟨(by omega), (by omega)⟩ dX9_expression_124 (by decide) (fun c_60 => ?_) (fun c_60 => ?_)
                · exfalso; omega
                · refine lv_iconst (v := iv 1) hx hb dX9_expression_127 (by decide) ?_
                  refine lv_goto (tgt := 132) hx hb dX9_expression_128 (by decide) ?_
                  refine sBv (sSt (As := [.ref (G.2.2.1 + qS), .ref (G.2.2.1 + qP), .int (iv 1)]) (rest := []) Cx (e_X9_addTo l G u_53 (qa := qS) (qb := qP) (t := 1) iu_53 lqS lqP (by omega) (by omega) (bV.eq wP).bd (b1.eq w1).bd) (c_X9_185 Cx rfl rfl (rmk_ok (by omega) (by decide))) hW rfl hl.1 rfl (Nat.le_of_ble_eq_true rfl) dX9_expression_132 ⟨Nat.le_of_ble_eq_true rfl, Nat.le_of_ble_eq_true rfl⟩) hL (fun u_61 H locs k_62 hW hL => ?_)
                  obtain ⟨iu_61, fu_61, xu_61⟩ := k_62
                  have F_63 := F_56.trans (fu_61.to (p1_sub (pE_y (by omega))))
                  have F_64 := F_57.trans (fu_61.to (p1_sub (pE_y (by omega))))
                  have F_65 := (Fr.rf : Fr u_53 u_53 pR3).trans (fu_61.to (p1_sub (lr_R lqS)))
                  have wS : veq (u_61.2.2.1 qS) (vad V V1 1) := veq_tr xu_61 (veq_vad wP w1)
                  refine lv_aload_n hx hb dX9_expression_135 rfl (lv_at hl 3 rfl) ?_
                  refine sBi (sSt (As := [.ref (G.2.2.1 + qS)]) (rest := []) Cx (e_X9_isGreat l G u_61 (qa := qS) iu_61 lqS (vbd_ad bV b1 (.inl rfl) wS)) (c_X9_189 Cx rfl rfl (rmk_ok (by omega) (by decide))) hW rfl hl.1 rfl (Nat.le_of_ble_eq_true rfl) dX9_expression_136 ⟨Nat.le_of_ble_eq_true rfl, Nat.le_of_ble_eq_true rfl⟩) hL (fun r_68 u_66 H locs k_67 hW hL => ?_)
                  obtain ⟨eu_66, xu_66⟩ := k_67
                  rw [eu_66] at hW
                  refine r_if_eq (tgt := 151) hx hb ⟨(by omega), (by omega)⟩ dX9_expression_139 (by decide) (fun c_69 => ?_) (fun c_69 => ?_)
                  · have ngr : Hd (¬ grt (vad V V1 1)) := (fun z => xu_66.2.2 (by omega) ((veq_grt wS).mpr z))
                    refine lv_iinc (v := iv (i + 1)) (lv' := [(3, .int (iv (i + 1))), (5, .int (iv r_36)), (4, .int (iv (S49.1 11 13))), (2, .ref (G.2.2.1 + qS)), (0, .ref (G.2.2.1 + 11)), (1, .int (iv dd))]) hx hb dX9_expression_151 hl (k := 2) rfl ((Int32.ofInt_add _ _).symm) (by decide) rfl (fun ls hl => ?_)
                    refine lv_goto (tgt := 49) hx hb dX9_expression_154 (by decide) ?_
                    have q_70 : (-2147483648) ≤ u_53.1 11 12 ∧ u_53.1 11 12 ≤ 2147483647 := iu_53.fi 11 12 9 (by decide) rfl
                    have lk_71 : u_61.1 11 12 = u_53.1 11 12 := (fu_61 11 (p1_no (tau_ne (rfl : tau 11 = .inl 9) lqS.1 (fun h => by cases h)))).1 12
                    have q_72 : (-2147483648) ≤ u_53.1 11 13 ∧ u_53.1 11 13 ≤ 2147483647 := iu_53.fi 11 13 9 (by decide) rfl
                    have lk_73 : u_61.1 11 13 = u_53.1 11 13 := (fu_61 11 (p1_no (tau_ne (rfl : tau 11 = .inl 9) lqS.1 (fun h => by cases h)))).1 13
                    have q_74 : 0 ≤ u_53.1 11 14 ∧ u_53.1 11 14 ≤ 7 := iu_53.fi 11 14 9 (by decide) rfl
                    have lk_75 : u_61.1 11 14 = u_53.1 11 14 := (fu_61 11 (p1_no (tau_ne (rfl : tau 11 = .inl 9) lqS.1 (fun h => by cases h)))).1 14
                    have q_76 : 0 ≤ u_53.1 11 9 ∧ u_53.1 11 9 ≤ 128 := iu_53.fi 11 9 9 (by decide) rfl
                    have lk_77 : u_61.1 11 9 = u_53.1 11 9 := (fu_61 11 (p1_no (tau_ne (rfl : tau 11 = .inl 9) lqS.1 (fun h => by cases h)))).1 9
                    have nr_78 : NRc N u_61 := n1.of (by omega) (fun j => (F_65 16 rfl).2.2.1 j) (fun j => (F_65 17 rfl).2.1 j) (fun j => (F_65 18 rfl).2.1 j)
                    exact ih_49 u_61 (i + 1) _ _ _ (by omega) iu_61 F_63 F_64 (by omega) (by omega) (by omega) (by omega) nr_78 (by rw [show u_61.1 11 13 = q2 by omega]; exact hw2) ⟨(vad V V1 1), (by rw [eG, eL_so hsT hRi hst e1 (oAdd_s (if_pos (by omega)) ngr), show u_61.1 11 13 = q2 by omega, show u_61.1 11 12 = u_53.1 11 12 by omega]), wS, vb9_n ngr⟩ hW hL (lv_sub hl [0, 3, 4, 5] rfl)
                  · refine lv_aload_n hx hb dX9_expression_142 rfl (lv_at hl 4 rfl) ?_
                    refine lv_bipush (v := iv 6) hx hb dX9_expression_143 (by decide) ?_
                    refine lv_iload hx hb dX9_expression_145 (lv_at hl 1 rfl) ?_
                    have q_79 : (-2147483648) ≤ u_53.1 11 13 ∧ u_53.1 11 13 ≤ 2147483647 := iu_53.fi 11 13 9 (by decide) rfl
                    have lk_80 : u_61.1 11 13 = u_53.1 11 13 := (fu_61 11 (p1_no (tau_ne (rfl : tau 11 = .inl 9) lqS.1 (fun h => by cases h)))).1 13
                    have q_81 : 0 ≤ u_53.1 11 9 ∧ u_53.1 11 9 ≤ 128 := iu_53.fi 11 9 9 (by decide) rfl
                    have lk_82 : u_61.1 11 9 = u_53.1 11 9 := (fu_61 11 (p1_no (tau_ne (rfl : tau 11 = .inl 9) lqS.1 (fun h => by cases h)))).1 9
                    have q_83 : 0 ≤ u_53.1 11 10 ∧ u_53.1 11 10 ≤ 8 := iu_53.fi 11 10 9 (by decide) rfl
                    have lk_84 : u_61.1 11 10 = u_53.1 11 10 := (fu_61 11 (p1_no (tau_ne (rfl : tau 11 = .inl 9) lqS.1 (fun h => by cases h)))).1 10
                    have q_85 : 0 ≤ u_53.1 11 11 ∧ u_53.1 11 11 ≤ 12 := iu_53.fi 11 11 9 (by decide) rfl
                    have lk_86 : u_61.1 11 11 = u_53.1 11 11 := (fu_61 11 (p1_no (tau_ne (rfl : tau 11 = .inl 9) lqS.1 (fun h => by cases h)))).1 11
                    have q_87 : (-2147483648) ≤ u_53.1 11 12 ∧ u_53.1 11 12 ≤ 2147483647 := iu_53.fi 11 12 9 (by decide) rfl
                    have lk_88 : u_61.1 11 12 = u_53.1 11 12 := (fu_61 11 (p1_no (tau_ne (rfl : tau 11 = .inl 9) lqS.1 (fun h => by cases h)))).1 12
                    refine sBi (sV (As := [.int (iv 6), .int (iv (S49.1 11 13))]) (rest := []) (k := 11) Cx (e_X9_fail l G u_61 (k := 6) (tk := S49.1 11 13) iu_61 (by omega) (by omega)) (c_X9_132 Cx rfl rfl (rmk_ok (by omega) (by decide))) hW (by decide) rfl rfl rfl hl.1 rfl (Nat.le_of_ble_eq_true rfl) dX9_expression_147 ⟨Nat.le_of_ble_eq_true rfl, Nat.le_of_ble_eq_true rfl⟩) hL (fun r_91 u_89 H locs k_90 hW hL => ?_)
                    obtain ⟨iu_89, fu_89, xu_89⟩ := k_90
                    have F_92 := F_63.trans (fu_89.to (p1_sub (pE_y (by omega))))
                    have F_93 := F_64.trans (fu_89.to (p1_sub (pE_y (by omega))))
                    have F_94 := F_65.trans (fu_89.to (p1_sub rfl))
                    have q_95 : (-2147483648) ≤ u_89.1 11 12 ∧ u_89.1 11 12 ≤ 2147483647 := iu_89.fi 11 12 9 (by decide) rfl
                    have q_96 : (-2147483648) ≤ u_89.1 11 13 ∧ u_89.1 11 13 ≤ 2147483647 := iu_89.fi 11 13 9 (by decide) rfl
                    have q_97 : 0 ≤ u_89.1 11 14 ∧ u_89.1 11 14 ≤ 7 := iu_89.fi 11 14 9 (by decide) rfl
                    have q_98 : 0 ≤ u_89.1 11 9 ∧ u_89.1 11 9 ≤ 128 := iu_89.fi 11 9 9 (by decide) rfl
                    exact sZret Cx hr hlk hW hL (by omega) ⟨iu_89, F_92, ⟨(by omega), (fun h => absurd h (by omega)), (fun _ => (by rw [eG]; exact eL_f2 hst e1 (oAdd_g (if_pos (by omega)) ((veq_grt wS).mp (xu_66.2.1 (by omega))))))⟩⟩ dX9_expression_150
              · refine lv_iconst (v := iv 0) hx hb dX9_expression_111 (by decide) ?_
                have q_99 : (-2147483648) ≤ u_53.1 11 12 ∧ u_53.1 11 12 ≤ 2147483647 := iu_53.fi 11 12 9 (by decide) rfl
                have q_100 : (-2147483648) ≤ u_53.1 11 13 ∧ u_53.1 11 13 ≤ 2147483647 := iu_53.fi 11 13 9 (by decide) rfl
                have q_101 : 0 ≤ u_53.1 11 14 ∧ u_53.1 11 14 ≤ 7 := iu_53.fi 11 14 9 (by decide) rfl
                have q_102 : 0 ≤ u_53.1 11 9 ∧ u_53.1 11 9 ≤ 128 := iu_53.fi 11 9 9 (by decide) rfl
                exact sZret Cx hr hlk hW hL (by omega) ⟨iu_53, F_56, ⟨(by omega), (fun h => absurd h (by omega)), (fun _ => (by have q9 := xu_53.2.2 (by omega); rw [show (uF S49 11 13 ((S49.1 11 13) + 1)).1 11 12 = S49.1 11 12 by omega] at q9; rw [eG]; exact eL_f1 hst q9))⟩⟩ dX9_expression_112
            · refine lv_iload hx hb dX9_expression_84 (lv_at hl 0 rfl) ?_
              refine lv_bipush (v := iv 22) hx hb dX9_expression_86 (by decide) ?_
              refine r_icmp_eq (tgt := 93) hx hb ⟨(by omega), (by omega)⟩ ⟨(by omega), (by omega)⟩ dX9_expression_88 (by decide) (fun c_103 => ?_) (fun c_103 => ?_)
              · have hst : Hd ((fun p => k p = 21 ∨ k p = 22) (S49.1 11 13)) := (show k (S49.1 11 13) = 21 ∨ k (S49.1 11 13) = 22 by omega)
                obtain ⟨q2, hg2, hw2⟩ := ogW_ii hsT hgR hst hw
                have hg2 : ogP T k (ogF T k n) (S49.1 11 13 + 1) = some q2 := hg2
                have hq2 := ogP_inc (ogF_inc n) _ _ hg2
                have hpT := hsT _ hst
                have hql := ogW_le hgR _ _ hw2
                refine lv_aload_n hx hb dX9_expression_93 rfl (lv_at hl 4 rfl) ?_
                refine lv_dup hx hb dX9_expression_94 rfl ?_
                refine g_X9_89 Cx hW (k := 11) (by decide) rfl (v := S49.1 11 13) rfl dX9_expression_95 ?_
                refine lv_iconst (v := iv 1) hx hb dX9_expression_98 (by decide) ?_
                refine r_iadd hx hb dX9_expression_99 ?_
                refine p_X9_89 Cx hW hL (k := 11) (by decide) rfl dX9_expression_100 (fun H locs hW hL => ?_)
                have F_104 : Fr S (uF S49 11 13 ((S49.1 11 13) + 1)) (pE dn dn dn) := hFm49.F (pE_y (by omega))
                have F_105 : Fr ((uD u_6 qP 0 qS 0 13)) (uF S49 11 13 ((S49.1 11 13) + 1)) (pE dn dn dn) := hL49_.F (pE_y (by omega))
                have F_106 : Fr S49 (uF S49 11 13 ((S49.1 11 13) + 1)) pR3 := (Fr.rf : Fr S49 S49 pR3).F rfl
                have F_107 : Fr S49 (uF S49 11 13 ((S49.1 11 13) + 1)) (pE (dn + 1) dn dn) := (Fr.rf : Fr S49 S49 (pE (dn + 1) dn dn)).F (pE_y (by omega))
                have i_108 : cX G (uF S49 11 13 ((S49.1 11 13) + 1)) 0 0 0 := hI49.F rfl rfl (show (-2147483648) ≤ (S49.1 11 13) + 1 ∧ (S49.1 11 13) + 1 ≤ 2147483647 from ⟨by omega, by omega⟩)
                refine lv_aload_n hx hb dX9_expression_103 rfl (lv_at hl 4 rfl) ?_
                refine lv_iload_n hx hb dX9_expression_104 rfl (lv_at hl 5 rfl) ?_
                have q_109 : (-2147483648) ≤ S49.1 11 12 ∧ S49.1 11 12 ≤ 2147483647 := hI49.fi 11 12 9 (by decide) rfl
                have lk_110 : (uF S49 11 13 ((S49.1 11 13) + 1)).1 11 12 = S49.1 11 12 := uF_ne (fun h => absurd h.2 (by decide))
                have lk_111 : (uF S49 11 13 ((S49.1 11 13) + 1)).1 11 13 = (S49.1 11 13) + 1 := uF_on
                have q_112 : 0 ≤ S49.1 11 14 ∧ S49.1 11 14 ≤ 7 := hI49.fi 11 14 9 (by decide) rfl
                have lk_113 : (uF S49 11 13 ((S49.1 11 13) + 1)).1 11 14 = S49.1 11 14 := uF_ne (fun h => absurd h.2 (by decide))
                have q_114 : 0 ≤ S49.1 11 9 ∧ S49.1 11 9 ≤ 128 := hI49.fi 11 9 9 (by decide) rfl
                have lk_115 : (uF S49 11 13 ((S49.1 11 13) + 1)).1 11 9 = S49.1 11 9 := uF_ne (fun h => absurd h.2 (by decide))
                have nr_116 : NRc N (uF S49 11 13 ((S49.1 11 13) + 1)) := hNL.of (by omega) (fun j => (F_106 16 rfl).2.2.1 j) (fun j => (F_106 17 rfl).2.1 j) (fun j => (F_106 18 rfl).2.1 j)
                have kv_117 : KV (uF S49 11 13 ((S49.1 11 13) + 1)) k v T := hkv.fr F_104 (pE_n (by omega)) (pE_n (by omega)) (pE_n (by omega))
                refine sBi (sV (As := [.int (iv dd)]) (rest := []) (k := 11) Cx (hT (uF S49 11 13 ((S49.1 11 13) + 1)) N k v T (S49.1 11 13 + 1) q2 n i_108 ⟨nr_116, hK, hTV, kv_117, (by omega), (by omega), (by omega), ⟨by omega, by omega⟩⟩ (by omega) (by omega) (by omega) hg2) (c_X9_208 Cx rfl rfl (rmk_ok (by omega) (by decide))) hW (by decide) rfl rfl rfl hl.1 rfl (Nat.le_of_ble_eq_true rfl) dX9_expression_105 ⟨Nat.le_of_ble_eq_true rfl, Nat.le_of_ble_eq_true rfl⟩) hL (fun r_120 u_118 H locs k_119 hW hL => ?_)
                obtain ⟨iu_118, fu_118, xu_118⟩ := k_119
                have yu_118 := xu_118.1
                have F_121 := F_104.trans (fu_118.to (pE_s (by omega) (by omega) (by omega)))
                have F_122 := F_105.trans (fu_118.to (pE_s (by omega) (by omega) (by omega)))
                have F_123 := F_107.trans fu_118
                refine r_if_ne (tgt := 113) hx hb ⟨(by omega), (by omega)⟩ dX9_expression_108 (by decide) (fun c_124 => ?_) (fun c_124 => ?_)
                · obtain ⟨V1, e1, w1, b1, l1, pp1, f1, n1⟩ := xu_118.2.1 (by omega)
                  rw [← hqP] at w1
                  rw [show (uF S49 11 13 ((S49.1 11 13) + 1)).1 11 12 = S49.1 11 12 by omega] at e1
                  have wP : veq (u_118.2.2.1 qS) V := veq_tr (fun j a b => (F_123 qS (pE_n (by omega))).2.2.1 j) wV
                  refine lv_aload_n hx hb dX9_expression_113 rfl (lv_at hl 3 rfl) ?_
                  refine lv_aload_n hx hb dX9_expression_114 rfl (lv_at hl 4 rfl) ?_
                  refine g_X9_34 Cx hW (k := 11) (by decide) rfl (v := .ref (G.2.2.1 + 51)) (rf_11_5 iu_118) dX9_expression_115 ?_
                  refine lv_iload_n hx hb dX9_expression_118 rfl (lv_at hl 5 rfl) ?_
                  refine rAald Cx hW (k := 51) (by decide) rfl (by decide) (by omega) (by omega) (r2_51f iu_118 hqP (by omega) (by omega)) dX9_expression_119 ?_
                  refine lv_iload hx hb dX9_expression_120 (lv_at hl 0 rfl) ?_
                  refine lv_bipush (v := iv 21) hx hb dX9_expression_122 (by decide) ?_
                  refine r_icmp_ne (tgt := 131) hx hb ⟨(by omega), (by omega)⟩ ⟨(by omega), (by omega)⟩ dX9_expression_124 (by decide) (fun c_125 => ?_) (fun c_125 => ?_)
                  · refine lv_iconst (v := iv (-1)) hx hb dX9_expression_131 (by decide) ?_
                    refine sBv (sSt (As := [.ref (G.2.2.1 + qS), .ref (G.2.2.1 + qP), .int (iv ((-1)))]) (rest := []) Cx (e_X9_addTo l G u_118 (qa := qS) (qb := qP) (t := (-1)) iu_118 lqS lqP (by omega) (by omega) (bV.eq wP).bd (b1.eq w1).bd) (c_X9_185 Cx rfl rfl (rmk_ok (by omega) (by decide))) hW rfl hl.1 rfl (Nat.le_of_ble_eq_true rfl) dX9_expression_132 ⟨Nat.le_of_ble_eq_true rfl, Nat.le_of_ble_eq_true rfl⟩) hL (fun u_126 H locs k_127 hW hL => ?_)
                    obtain ⟨iu_126, fu_126, xu_126⟩ := k_127
                    have F_128 := F_121.trans (fu_126.to (p1_sub (pE_y (by omega))))
                    have F_129 := F_122.trans (fu_126.to (p1_sub (pE_y (by omega))))
                    have F_130 := (Fr.rf : Fr u_118 u_118 pR3).trans (fu_126.to (p1_sub (lr_R lqS)))
                    have wS : veq (u_126.2.2.1 qS) (vad V V1 (-1)) := veq_tr xu_126 (veq_vad wP w1)
                    refine lv_aload_n hx hb dX9_expression_135 rfl (lv_at hl 3 rfl) ?_
                    refine sBi (sSt (As := [.ref (G.2.2.1 + qS)]) (rest := []) Cx (e_X9_isGreat l G u_126 (qa := qS) iu_126 lqS (vbd_ad bV b1 (.inr rfl) wS)) (c_X9_189 Cx rfl rfl (rmk_ok (by omega) (by decide))) hW rfl hl.1 rfl (Nat.le_of_ble_eq_true rfl) dX9_expression_136 ⟨Nat.le_of_ble_eq_true rfl, Nat.le_of_ble_eq_true rfl⟩) hL (fun r_133 u_131 H locs k_132 hW hL => ?_)
                    obtain ⟨eu_131, xu_131⟩ := k_132
                    rw [eu_131] at hW
                    refine r_if_eq (tgt := 151) hx hb ⟨(by omega), (by omega)⟩ dX9_expression_139 (by decide) (fun c_134 => ?_) (fun c_134 => ?_)
                    · have ngr : Hd (¬ grt (vad V V1 (-1))) := (fun z => xu_131.2.2 (by omega) ((veq_grt wS).mpr z))
                      refine lv_iinc (v := iv (i + 1)) (lv' := [(3, .int (iv (i + 1))), (5, .int (iv r_36)), (4, .int (iv (S49.1 11 13))), (2, .ref (G.2.2.1 + qS)), (0, .ref (G.2.2.1 + 11)), (1, .int (iv dd))]) hx hb dX9_expression_151 hl (k := 2) rfl ((Int32.ofInt_add _ _).symm) (by decide) rfl (fun ls hl => ?_)
                      refine lv_goto (tgt := 49) hx hb dX9_expression_154 (by decide) ?_
                      have q_135 : (-2147483648) ≤ u_118.1 11 12 ∧ u_118.1 11 12 ≤ 2147483647 := iu_118.fi 11 12 9 (by decide) rfl
                      have lk_136 : u_126.1 11 12 = u_118.1 11 12 := (fu_126 11 (p1_no (tau_ne (rfl : tau 11 = .inl 9) lqS.1 (fun h => by cases h)))).1 12
                      have q_137 : (-2147483648) ≤ u_118.1 11 13 ∧ u_118.1 11 13 ≤ 2147483647 := iu_118.fi 11 13 9 (by decide) rfl
                      have lk_138 : u_126.1 11 13 = u_118.1 11 13 := (fu_126 11 (p1_no (tau_ne (rfl : tau 11 = .inl 9) lqS.1 (fun h => by cases h)))).1 13
                      have q_139 : 0 ≤ u_118.1 11 14 ∧ u_118.1 11 14 ≤ 7 := iu_118.fi 11 14 9 (by decide) rfl
                      have lk_140 : u_126.1 11 14 = u_118.1 11 14 := (fu_126 11 (p1_no (tau_ne (rfl : tau 11 = .inl 9) lqS.1 (fun h => by cases h)))).1 14
                      have q_141 : 0 ≤ u_118.1 11 9 ∧ u_118.1 11 9 ≤ 128 := iu_118.fi 11 9 9 (by decide) rfl
                      have lk_142 : u_126.1 11 9 = u_118.1 11 9 := (fu_126 11 (p1_no (tau_ne (rfl : tau 11 = .inl 9) lqS.1 (fun h => by cases h)))).1 9
                      have nr_143 : NRc N u_126 := n1.of (by omega) (fun j => (F_130 16 rfl).2.2.1 j) (fun j => (F_130 17 rfl).2.1 j) (fun j => (F_130 18 rfl).2.1 j)
                      exact ih_49 u_126 (i + 1) _ _ _ (by omega) iu_126 F_128 F_129 (by omega) (by omega) (by omega) (by omega) nr_143 (by rw [show u_126.1 11 13 = q2 by omega]; exact hw2) ⟨(vad V V1 (-1)), (by rw [eG, eL_so hsT hRi hst e1 (oAdd_s (if_neg (by omega)) ngr), show u_126.1 11 13 = q2 by omega, show u_126.1 11 12 = u_118.1 11 12 by omega]), wS, vb9_n ngr⟩ hW hL (lv_sub hl [0, 3, 4, 5] rfl)
                    · refine lv_aload_n hx hb dX9_expression_142 rfl (lv_at hl 4 rfl) ?_
                      refine lv_bipush (v := iv 6) hx hb dX9_expression_143 (by decide) ?_
                      refine lv_iload hx hb dX9_expression_145 (lv_at hl 1 rfl) ?_
                      have q_144 : (-2147483648) ≤ u_118.1 11 13 ∧ u_118.1 11 13 ≤ 2147483647 := iu_118.fi 11 13 9 (by decide) rfl
                      have lk_145 : u_126.1 11 13 = u_118.1 11 13 := (fu_126 11 (p1_no (tau_ne (rfl : tau 11 = .inl 9) lqS.1 (fun h => by cases h)))).1 13
                      have q_146 : 0 ≤ u_118.1 11 9 ∧ u_118.1 11 9 ≤ 128 := iu_118.fi 11 9 9 (by decide) rfl
                      have lk_147 : u_126.1 11 9 = u_118.1 11 9 := (fu_126 11 (p1_no (tau_ne (rfl : tau 11 = .inl 9) lqS.1 (fun h => by cases h)))).1 9
                      have q_148 : 0 ≤ u_118.1 11 10 ∧ u_118.1 11 10 ≤ 8 := iu_118.fi 11 10 9 (by decide) rfl
                      have lk_149 : u_126.1 11 10 = u_118.1 11 10 := (fu_126 11 (p1_no (tau_ne (rfl : tau 11 = .inl 9) lqS.1 (fun h => by cases h)))).1 10
                      have q_150 : 0 ≤ u_118.1 11 11 ∧ u_118.1 11 11 ≤ 12 := iu_118.fi 11 11 9 (by decide) rfl
                      have lk_151 : u_126.1 11 11 = u_118.1 11 11 := (fu_126 11 (p1_no (tau_ne (rfl : tau 11 = .inl 9) lqS.1 (fun h => by cases h)))).1 11
                      have q_152 : (-2147483648) ≤ u_118.1 11 12 ∧ u_118.1 11 12 ≤ 2147483647 := iu_118.fi 11 12 9 (by decide) rfl
                      have lk_153 : u_126.1 11 12 = u_118.1 11 12 := (fu_126 11 (p1_no (tau_ne (rfl : tau 11 = .inl 9) lqS.1 (fun h => by cases h)))).1 12
                      refine sBi (sV (As := [.int (iv 6), .int (iv (S49.1 11 13))]) (rest := []) (k := 11) Cx (e_X9_fail l G u_126 (k := 6) (tk := S49.1 11 13) iu_126 (by omega) (by omega)) (c_X9_132 Cx rfl rfl (rmk_ok (by omega) (by decide))) hW (by decide) rfl rfl rfl hl.1 rfl (Nat.le_of_ble_eq_true rfl) dX9_expression_147 ⟨Nat.le_of_ble_eq_true rfl, Nat.le_of_ble_eq_true rfl⟩) hL (fun r_156 u_154 H locs k_155 hW hL => ?_)
                      obtain ⟨iu_154, fu_154, xu_154⟩ := k_155
                      have F_157 := F_128.trans (fu_154.to (p1_sub (pE_y (by omega))))
                      have F_158 := F_129.trans (fu_154.to (p1_sub (pE_y (by omega))))
                      have F_159 := F_130.trans (fu_154.to (p1_sub rfl))
                      have q_160 : (-2147483648) ≤ u_154.1 11 12 ∧ u_154.1 11 12 ≤ 2147483647 := iu_154.fi 11 12 9 (by decide) rfl
                      have q_161 : (-2147483648) ≤ u_154.1 11 13 ∧ u_154.1 11 13 ≤ 2147483647 := iu_154.fi 11 13 9 (by decide) rfl
                      have q_162 : 0 ≤ u_154.1 11 14 ∧ u_154.1 11 14 ≤ 7 := iu_154.fi 11 14 9 (by decide) rfl
                      have q_163 : 0 ≤ u_154.1 11 9 ∧ u_154.1 11 9 ≤ 128 := iu_154.fi 11 9 9 (by decide) rfl
                      exact sZret Cx hr hlk hW hL (by omega) ⟨iu_154, F_157, ⟨(by omega), (fun h => absurd h (by omega)), (fun _ => (by rw [eG]; exact eL_f2 hst e1 (oAdd_g (if_neg (by omega)) ((veq_grt wS).mp (xu_131.2.1 (by omega))))))⟩⟩ dX9_expression_150
                  · exfalso; omega
                · refine lv_iconst (v := iv 0) hx hb dX9_expression_111 (by decide) ?_
                  have q_164 : (-2147483648) ≤ u_118.1 11 12 ∧ u_118.1 11 12 ≤ 2147483647 := iu_118.fi 11 12 9 (by decide) rfl
                  have q_165 : (-2147483648) ≤ u_118.1 11 13 ∧ u_118.1 11 13 ≤ 2147483647 := iu_118.fi 11 13 9 (by decide) rfl
                  have q_166 : 0 ≤ u_118.1 11 14 ∧ u_118.1 11 14 ≤ 7 := iu_118.fi 11 14 9 (by decide) rfl
                  have q_167 : 0 ≤ u_118.1 11 9 ∧ u_118.1 11 9 ≤ 128 := iu_118.fi 11 9 9 (by decide) rfl
                  exact sZret Cx hr hlk hW hL (by omega) ⟨iu_118, F_121, ⟨(by omega), (fun h => absurd h (by omega)), (fun _ => (by have q9 := xu_118.2.2 (by omega); rw [show (uF S49 11 13 ((S49.1 11 13) + 1)).1 11 12 = S49.1 11 12 by omega] at q9; rw [eG]; exact eL_f1 hst q9))⟩⟩ dX9_expression_112
              · refine lv_iconst (v := iv 1) hx hb dX9_expression_91 (by decide) ?_
                have q_168 : (-2147483648) ≤ S49.1 11 12 ∧ S49.1 11 12 ≤ 2147483647 := hI49.fi 11 12 9 (by decide) rfl
                have q_169 : 0 ≤ S49.1 11 14 ∧ S49.1 11 14 ≤ 7 := hI49.fi 11 14 9 (by decide) rfl
                have q_170 : 0 ≤ S49.1 11 9 ∧ S49.1 11 9 ≤ 128 := hI49.fi 11 9 9 (by decide) rfl
                exact sZret Cx hr hlk hW hL (by omega) ⟨hI49, hFm49, (by have hns : Hd (¬ (fun p => k p = 21 ∨ k p = 22) (S49.1 11 13)) := (show ¬ k (S49.1 11 13) = 21 ∨ k (S49.1 11 13) = 22 by omega); have hqe := ogW_q hns hw; exact ⟨(by omega), (fun _ => ⟨V, (by rw [eG, eL_no hns, ← hqe]), wV, bV, ⟨by omega, by omega⟩, (by omega), (by omega), hNL⟩), (fun h => absurd h (by decide))⟩)⟩ dX9_expression_92
      exact loop_49 (_ + 1) (uD u_6 qP 0 qS 0 13) 0 _ _ _ (Nat.lt_succ_self _) i_13 F_11 Fr.rf (by omega) (by omega) (by omega) (by omega) nr_22 (by rw [show (uD u_6 qP 0 qS 0 13).1 11 13 = q0 by omega]; exact hw0) ⟨V0, (by rw [show (uD u_6 qP 0 qS 0 13).1 11 13 = q0 by omega, show (uD u_6 qP 0 qS 0 13).1 11 12 = u_6.1 11 12 by omega]; unfold eU; rw [e0]; rfl), (veq_cp w0), b0⟩ hW hL (lv_sub hl [0, 1, 2, 3] rfl)
    · refine lv_iconst (v := iv 0) hx hb dX9_expression_24 (by decide) ?_
      have q_171 : (-2147483648) ≤ u_6.1 11 12 ∧ u_6.1 11 12 ≤ 2147483647 := iu_6.fi 11 12 9 (by decide) rfl
      have q_172 : (-2147483648) ≤ u_6.1 11 13 ∧ u_6.1 11 13 ≤ 2147483647 := iu_6.fi 11 13 9 (by decide) rfl
      have q_173 : 0 ≤ u_6.1 11 14 ∧ u_6.1 11 14 ≤ 7 := iu_6.fi 11 14 9 (by decide) rfl
      have q_174 : 0 ≤ u_6.1 11 9 ∧ u_6.1 11 9 ≤ 128 := iu_6.fi 11 9 9 (by decide) rfl
      exact sZret Cx hr hlk hW hL (by omega) ⟨iu_6, F_9, ⟨(by omega), (fun h => absurd h (by omega)), (fun _ => (by have q9 := xu_6.2.2 (by omega); unfold eU; rw [q9]; rfl))⟩⟩ dX9_expression_25
  · exfalso; omega

theorem telX (l : Launch) (G : sG) : ∀ (n : Nat) (dd : Int) (dn : Nat), dd = (dn : Int) → dd ≤ 30 → 30 - dd ≤ n → FX l G (4 * n + 10) dd dn ∧ TX l G (4 * n + 11) dd dn ∧ EX l G (4 * n + 12) dd dn := by
  intro n
  have pz_le : ∀ {S : sS} {k v : Int → Int} {T pz : Int}, cX G S 0 0 0 → KV S k v T → k pz ≠ 0 → pz ≤ 2000 := fun {S k v T pz} hI hkv hk => by
    have a : 0 ≤ S.1 12 3 ∧ S.1 12 3 ≤ 2001 := hI.fi 12 3 8 (by decide) rfl
    have b := hkv.2.2; have c := hkv.lt rfl hk; omega
  have top : ∀ (D1 D2 D3 : Nat) (dn : Nat), FX l G D1 30 dn ∧ TX l G D2 30 dn ∧ EX l G D3 30 dn := fun D1 D2 D3 dn => by
    refine ⟨fun S N k v T pz q m hI hE hm hN hq hg => ?_, fun S N k v T pz q m hI hE hm hN hq hg => ?_, fun S N k v T pz q m hI hE hm hN hq hg => ?_⟩
    · rw [show m = 0 by omega] at hg; cases hg
    · rw [show m = 0 by omega] at hg; cases hg
    · rw [show m = 0 by omega] at hg; cases hg
  have fin : ∀ (n : Nat) (dd : Int) (dn : Nat), dd = (dn : Int) → dd ≤ 29 → FX l G (4 * n + 10) dd dn → FX l G (4 * n + 10) dd dn ∧ TX l G (4 * n + 11) dd dn ∧ EX l G (4 * n + 12) dd dn := fun n dd dn h0 h1 hF =>
    have hT : TX l G (4 * n + 11) dd dn := fun S N k v T pz q m hI hE hm hN hq hg => e_X9_term l G S (d1 := 4 * n + 10) hI ⟨by omega, h1⟩ hE.1 hE.2.1 hE.2.2.1 hE.2.2.2.1 hE.2.2.2.2.1 hE.2.2.2.2.2.1 ⟨hE.2.2.2.2.2.2.1, pz_le hI hE.2.2.2.1 (by obtain ⟨a, z, _⟩ := ogB hg; exact ogF_k z)⟩ hE.2.2.2.2.2.2.2 h0 (by omega) (by omega) hm hN hq rfl rfl hF hg
    ⟨hF, hT, fun S N k v T pz q m hI hE hm hN hq hg => e_X9_expression l G S (d1 := 4 * n + 11) hI ⟨by omega, h1⟩ hE.1 hE.2.1 hE.2.2.1 hE.2.2.2.1 hE.2.2.2.2.1 hE.2.2.2.2.2.1 ⟨hE.2.2.2.2.2.2.1, pz_le hI hE.2.2.2.1 (ogU_k hg)⟩ hE.2.2.2.2.2.2.2 h0 (by omega) (by omega) hm hN hq rfl rfl hT hg⟩
  induction n with
  | zero => intro dd dn h0 h1 h2; rw [show dd = 30 by omega]; exact top _ _ _ _
  | succ n ih =>
    intro dd dn h0 h1 h2
    by_cases c : dd = 30
    · rw [c]; exact top _ _ _ _
    · have hi := ih (dd + 1) (dn + 1) (by omega) (by omega) (by omega)
      refine fin (n + 1) dd dn h0 (by omega) (fun S N k v T pz q m hI hE hm hN hq hg => ?_)
      obtain ⟨m', e⟩ : ∃ m' : Nat, m = m' + 1 := ⟨m - 1, by omega⟩
      rw [e] at hg ⊢
      exact e_X9_factor l G S (dm := 4 * n + 13) (d1 := 4 * n + 12) (d2 := 4 * n + 10) hI ⟨by omega, by omega⟩ hE.1 hE.2.1 hE.2.2.1 hE.2.2.2.1 hE.2.2.2.2.1 hE.2.2.2.2.2.1 ⟨hE.2.2.2.2.2.2.1, pz_le hI hE.2.2.2.1 (ogF_k hg)⟩ hE.2.2.2.2.2.2.2 h0 (by omega) (by omega) (by omega) (by omega) hi.2.2 hi.1 (by omega) (by omega) rfl hg hq
theorem telE (l : Launch) (G : sG) : EX l G 132 0 0 := (telX l G 30 0 0 rfl (by decide) (by decide)).2.2
