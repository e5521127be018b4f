theorem ngr_b {a : Int → Int} (h : ¬ grt a) (j : Int) (h0 : 0 ≤ j) (h1 : j ≤ 12) : -99999 ≤ a j ∧ a j ≤ 99999 := by
  have e : ((((⟨j.toNat, by omega⟩ : Fin 13).val : Nat)) : Int) = j := by show ((j.toNat : Nat) : Int) = j; omega
  by_cases c : 99999 < a j ∨ a j < -99999
  · exact absurd ⟨⟨j.toNat, by omega⟩, by rw [e]; exact c⟩ h
  · omega
theorem aDr_3 {T : Int} {k v : Int → Int} {M : sM} {p s lo hi : Int} {A : Int → Int → Int} (h0 : 0 ≤ M.1.1) (c : k (p + 2) = 17) (e : isS (rN M (v (p + 1))) (v (p + 5))) (hs : s = eFind (rN M (v (p + 1))) (v (p + 5))) (hlo : lo = M.1.2.2.1 s 1) (hhi : hi = M.1.2.2.1 s 2) : aDr T k v M p A = aRn T k v (rN M (v (p + 1))) (v (p + 3)) (p + 8) (hi + 1 - lo).toNat lo A M.2.2.2.2.2.1 M.2.2.2.2.2.2.2 := by
  have e2 : isS M.1 (v (p + 5)) := (isS_add h0 (by decide)).mp e
  have e3 : eFind M.1 (v (p + 5)) = s := by rw [hs]; exact (eFind_add_s h0 e2).symm
  unfold aDr; rw [if_pos c, e3]
  have e4 : siz M.1 s = hi + 1 - lo := by
    unfold siz; rw [if_neg (by have := e2.1; rw [e3] at this; omega)]; omega
  rw [e4, ← hlo]; rfl
set_option maxRecDepth 100000 in
set_option maxHeartbeats 4000000 in
theorem f_X9_tellGoal (l : Launch) (G : sG) (S : sS) {M : sM} {k v : Int → Int} {T pz q : Int} {o : Nat} {y : Nat} (hI : cX G S 0 0 0) (hm : mdl o) (hM : Hd (MRc M S G o)) (hTV : Hd (TVn k v)) (hkv : Hd (KV S k v T)) (hfk : S.1 11 14 = 0) (hat : S.1 11 13 = pz) (hpz : 0 ≤ pz ∧ pz ≤ 2000) (hqb : q ≤ 2001) (hmy : mdl y) (hny : Hd (y ≠ o)) (hg : Hd (∃ q1, ogU T k (ogF T k 30) (pz + 1) = some q1 ∧ k q1 = 15 ∧ q = q1 + 1)) : Met l yX9_tellGoal (.code yX9_tellGoal cX9_tellGoal 2 (some .boolean) :: tb) (rmk 133 0 0) (sPc G 294 S [.ref (G.2.2.1 + 11)]) (sQi G 294 (fun r u => cX G u 0 0 0 ∧ Fr S u pG ∧ (MOc S u G o q r (eDg T k v M pz) ∧ Hd (r = 1 → WXc S o M → ∀ M2, eDg T k v M pz = some (M2, q) → WXc u o M2) ∧ Hd (r = 1 → ∀ X, XAc S o 0 X → XAc u o 1 (aDg T k v M pz X.1, X.2)) ∧ Hd (OTc S u y)))) 0 0 (sF G) := by
  refine sEnter (by decide) (Nat.le_of_ble_eq_true rfl) ?_
  intro p e s m args below meth c Cx hr hlk hnm hW ls hl
  have Cx : sC G p m c cX9_tellGoal 2 s args RX9 := Cx
  obtain ⟨hx, hb, hml, hown, hts⟩ := id Cx.1
  have hL : sL G [] := sL_nil
  have hl : lv_has ls 2 [(0, .ref (G.2.2.1 + 11))] := hl
  have hW0 := hW
  obtain ⟨hN, hK, d0, d1, d2, d3, d4, ds, hbs, hrf⟩ := id hM
  have hkn : 0 ≤ S.1 11 9 ∧ S.1 11 9 ≤ 128 := hI.fi 11 9 9 (by decide) rfl
  have hTb : 0 ≤ S.1 12 3 ∧ S.1 12 3 ≤ 2001 := hI.fi 12 3 8 (by decide) rfl
  have hTe := hkv.2.2
  have hN1 := hN.1
  have hny1 : y ≠ o := hny
  obtain ⟨qS, hqS⟩ : ∃ z : Nat, z = 20 + 0 := ⟨_, rfl⟩
  have lqS := lr_19 (dn := 0) hqS (by omega)
  obtain ⟨q1, hg1, hg15, hq1⟩ := hg
  refine lv_aload_n hx hb dX9_tellGoal_0 rfl (lv_at hl 0 rfl) ?_
  refine g_X9_14 Cx hW (k := 11) (by decide) rfl (v := .ref (G.2.2.1 + 12)) (rf_11_0 hI) dX9_tellGoal_1 ?_
  refine lv_aload_n hx hb dX9_tellGoal_4 rfl (lv_at hl 0 rfl) ?_
  have q_1 : (-2147483648) ≤ S.1 11 13 ∧ S.1 11 13 ≤ 2147483647 := hI.fi 11 13 9 (by decide) rfl
  refine g_X9_89 Cx hW (k := 11) (by decide) rfl (v := S.1 11 13) rfl dX9_tellGoal_5 ?_
  refine sBi (sV (As := [.int (iv (S.1 11 13))]) (rest := []) (k := 12) Cx (s_X8_kind l G S (k := S.1 11 13) hI (by omega)) (c_X9_95 Cx rfl rfl (rmk_ok (by omega) (by decide))) hW (by decide) rfl rfl rfl hl.1 rfl (Nat.le_of_ble_eq_true rfl) dX9_tellGoal_8 ⟨Nat.le_of_ble_eq_true rfl, Nat.le_of_ble_eq_true rfl⟩) hL (fun r_4 u_2 H locs k_3 hW hL => ?_)
  obtain ⟨eu_2, xu_2⟩ := k_3
  rw [eu_2] at hW
  have kz : r_4 = k pz := (by rw [← hkv.1]; exact xu_2.1.trans (congrArg (kd S) (by omega)))
  refine lv_iconst (v := iv 4) hx hb dX9_tellGoal_11 (by decide) ?_
  refine r_icmp_ne (tgt := 19) hx hb ⟨(by omega), (by omega)⟩ ⟨(by omega), (by omega)⟩ dX9_tellGoal_12 (by decide) (fun c_5 => ?_) (fun c_5 => ?_)
  · refine lv_iconst (v := iv 0) hx hb dX9_tellGoal_19 (by decide) ?_
    refine lv_istore_n (lv' := [(1, .int (iv 0)), (0, .ref (G.2.2.1 + 11))]) hx hb dX9_tellGoal_20 rfl hl (by decide) rfl (fun ls hl => ?_)
    refine lv_aload_n hx hb dX9_tellGoal_21 rfl (lv_at hl 1 rfl) ?_
    refine lv_dup hx hb dX9_tellGoal_22 rfl ?_
    refine g_X9_89 Cx hW (k := 11) (by decide) rfl (v := S.1 11 13) rfl dX9_tellGoal_23 ?_
    refine lv_iconst (v := iv 1) hx hb dX9_tellGoal_26 (by decide) ?_
    refine r_iadd hx hb dX9_tellGoal_27 ?_
    refine p_X9_89 Cx hW hL (k := 11) (by decide) rfl dX9_tellGoal_28 (fun H locs hW hL => ?_)
    have F_6 : Fr S (uF S 11 13 ((S.1 11 13) + 1)) pG := (Fr.rf : Fr S S pG).F rfl
    have F_7 : Fr S (uF S 11 13 ((S.1 11 13) + 1)) pRm := (Fr.rf : Fr S S pRm).F rfl
    have i_8 : cX G (uF S 11 13 ((S.1 11 13) + 1)) 0 0 0 := hI.F rfl rfl (show (-2147483648) ≤ (S.1 11 13) + 1 ∧ (S.1 11 13) + 1 ≤ 2147483647 from ⟨by omega, by omega⟩)
    refine lv_aload_n hx hb dX9_tellGoal_31 rfl (lv_at hl 1 rfl) ?_
    refine lv_iconst (v := iv 0) hx hb dX9_tellGoal_32 (by decide) ?_
    have q_9 : 0 ≤ S.1 11 9 ∧ S.1 11 9 ≤ 128 := hI.fi 11 9 9 (by decide) rfl
    have lk_10 : (uF S 11 13 ((S.1 11 13) + 1)).1 11 9 = S.1 11 9 := uF_ne (fun h => absurd h.2 (by decide))
    have q_11 : 0 ≤ S.1 11 10 ∧ S.1 11 10 ≤ 8 := hI.fi 11 10 9 (by decide) rfl
    have lk_12 : (uF S 11 13 ((S.1 11 13) + 1)).1 11 10 = S.1 11 10 := uF_ne (fun h => absurd h.2 (by decide))
    have q_13 : 0 ≤ S.1 11 11 ∧ S.1 11 11 ≤ 12 := hI.fi 11 11 9 (by decide) rfl
    have lk_14 : (uF S 11 13 ((S.1 11 13) + 1)).1 11 11 = S.1 11 11 := uF_ne (fun h => absurd h.2 (by decide))
    have q_15 : (-2147483648) ≤ S.1 11 12 ∧ S.1 11 12 ≤ 2147483647 := hI.fi 11 12 9 (by decide) rfl
    have lk_16 : (uF S 11 13 ((S.1 11 13) + 1)).1 11 12 = S.1 11 12 := uF_ne (fun h => absurd h.2 (by decide))
    have lk_17 : (uF S 11 13 ((S.1 11 13) + 1)).1 11 13 = (S.1 11 13) + 1 := uF_on
    have q_18 : 0 ≤ S.1 11 14 ∧ S.1 11 14 ≤ 7 := hI.fi 11 14 9 (by decide) rfl
    have lk_19 : (uF S 11 13 ((S.1 11 13) + 1)).1 11 14 = S.1 11 14 := uF_ne (fun h => absurd h.2 (by decide))
    have q_20 : 0 ≤ S.1 o 2 ∧ S.1 o 2 ≤ 12 := hI.fi o 2 3 (mdl_k hm) hm.1
    have lk_21 : (uF S 11 13 ((S.1 11 13) + 1)).1 o 2 = S.1 o 2 := uF_ne (fun h => absurd h.2 (by decide))
    have q_22 : 0 ≤ S.1 o 3 ∧ S.1 o 3 ≤ 16 := hI.fi o 3 3 (mdl_k hm) hm.1
    have lk_23 : (uF S 11 13 ((S.1 11 13) + 1)).1 o 3 = S.1 o 3 := uF_ne (fun h => absurd h.2 (by decide))
    have nr_24 : NRc M.1 (uF S 11 13 ((S.1 11 13) + 1)) := hN.of (by omega) (fun j => (F_7 16 rfl).2.2.1 j) (fun j => (F_7 17 rfl).2.1 j) (fun j => (F_7 18 rfl).2.1 j)
    have kv_25 : KV (uF S 11 13 ((S.1 11 13) + 1)) k v T := hkv.fr F_6 rfl rfl rfl
    refine sBi (sV (As := [.int (iv 0)]) (rest := []) (k := 11) Cx ((telE l G) (uF S 11 13 ((S.1 11 13) + 1)) M.1 k v T (pz + 1) q1 30 i_8 ⟨nr_24, hK, hTV, kv_25, (by omega), (by omega), (by omega), ⟨by omega, by omega⟩⟩ (by decide) (by omega) (by omega) hg1) (c_X9_166 Cx rfl rfl (rmk_ok (by omega) (by decide))) hW (by decide) rfl rfl rfl hl.1 rfl (Nat.le_of_ble_eq_true rfl) dX9_tellGoal_33 ⟨Nat.le_of_ble_eq_true rfl, Nat.le_of_ble_eq_true rfl⟩) hL (fun r_28 u_26 H locs k_27 hW hL => ?_)
    obtain ⟨iu_26, fu_26, xu_26⟩ := k_27
    have yu_26 := xu_26.1.2
    have F_29 := F_6.trans (fu_26.to (fun k h => pV_G k (pEx_V k h)))
    refine r_if_ne (tgt := 41) hx hb ⟨(by omega), (by omega)⟩ dX9_tellGoal_36 (by decide) (fun c_30 => ?_) (fun c_30 => ?_)
    · obtain ⟨V1, e1, w1, bb1, l1, pp1, f1, n1⟩ := xu_26.2.1 (by omega)
      rw [← hqS] at w1
      refine lv_aload_n hx hb dX9_tellGoal_41 rfl (lv_at hl 1 rfl) ?_
      refine g_X9_46 Cx hW (k := 11) (by decide) rfl (v := .ref (G.2.2.1 + o)) (((fun i => (xu_26.1.1.1 i)) 8).trans hrf) dX9_tellGoal_42 ?_
      refine lv_aload_n hx hb dX9_tellGoal_45 rfl (lv_at hl 1 rfl) ?_
      refine g_X9_31 Cx hW (k := 11) (by decide) rfl (v := .ref (G.2.2.1 + 19)) (rf_11_4 iu_26) dX9_tellGoal_46 ?_
      refine lv_iconst (v := iv 0) hx hb dX9_tellGoal_49 (by decide) ?_
      refine rAald Cx hW (k := 19) (by decide) rfl (by decide) (by omega) (by omega) (r2_19f (dn := 0) iu_26 hqS (by omega) (by omega)) dX9_tellGoal_50 ?_
      refine lv_iload_n hx hb dX9_tellGoal_51 rfl (lv_at hl 0 rfl) ?_
      have lk_31 : u_26.1 o 2 = S.1 o 2 := ((fu_26 o (pEx_o (mdl_out hm).2.2)).1 2).trans (uF_ne (fun h => absurd h.2 (by decide)))
      have lk_32 : u_26.1 o 3 = S.1 o 3 := ((fu_26 o (pEx_o (mdl_out hm).2.2)).1 3).trans (uF_ne (fun h => absurd h.2 (by decide)))
      refine sBv (sV (As := [.ref (G.2.2.1 + qS), .int (iv 0)]) (rest := []) (k := o) Cx (f_X3_setGoal l G u_26 (o := o) (q := qS) (t := 0) iu_26 hm (lr_h lqS) (fun j a b => by rw [(show u_26.2.2.1 qS j = u_26.2.2.1 qS j from rfl), w1 j a (by omega)]; exact bb1 j a (by omega)) (by omega)) (c_X9_169 Cx rfl rfl (rmk_ok (by omega) (by decide))) hW (mdl_l hm) hm.1 rfl rfl hl.1 rfl (Nat.le_of_ble_eq_true rfl) dX9_tellGoal_52 ⟨Nat.le_of_ble_eq_true rfl, Nat.le_of_ble_eq_true rfl⟩) hL (fun u_33 H locs k_34 hW hL => ?_)
      obtain ⟨iu_33, fu_33, xu_33⟩ := k_34
      have F_35 := F_29.trans (fu_33.to (pM_sub (mdl_pG hm).1 (mdl_pG hm).2.1 (mdl_pG hm).2.2))
      have F_36 := (Fr.rf : Fr u_26 u_26 pRm).trans (fu_33.to (pM_sub (mdl_Rm hm).1 (mdl_Rm hm).2.1 (mdl_Rm hm).2.2))
      refine lv_aload_n hx hb dX9_tellGoal_55 rfl (lv_at hl 1 rfl) ?_
      refine lv_dup hx hb dX9_tellGoal_56 rfl ?_
      have q_37 : (-2147483648) ≤ u_26.1 11 13 ∧ u_26.1 11 13 ≤ 2147483647 := iu_26.fi 11 13 9 (by decide) rfl
      refine g_X9_89 Cx hW (k := 11) (by decide) rfl (v := u_26.1 11 13) ((fu_33 11 (pM_no (tau_ne (rfl : tau 11 = .inl 9) hm.1 (fun h => by cases h)) (tau_ne (rfl : tau 11 = .inl 9) hm.2.1 (fun h => by cases h)) (tau_ne (rfl : tau 11 = .inl 9) hm.2.2.1 (fun h => by cases h)))).1 13) dX9_tellGoal_57 ?_
      refine lv_iconst (v := iv 1) hx hb dX9_tellGoal_60 (by decide) ?_
      refine r_iadd hx hb dX9_tellGoal_61 ?_
      refine p_X9_89 Cx hW hL (k := 11) (by decide) rfl dX9_tellGoal_62 (fun H locs hW hL => ?_)
      have F_38 : Fr S (uF u_33 11 13 ((u_26.1 11 13) + 1)) pG := F_35.F rfl
      have F_39 : Fr u_26 (uF u_33 11 13 ((u_26.1 11 13) + 1)) pRm := F_36.F rfl
      have i_40 : cX G (uF u_33 11 13 ((u_26.1 11 13) + 1)) 0 0 0 := iu_33.F rfl rfl (show (-2147483648) ≤ (u_26.1 11 13) + 1 ∧ (u_26.1 11 13) + 1 ≤ 2147483647 from ⟨by omega, by omega⟩)
      refine lv_iconst (v := iv 1) hx hb dX9_tellGoal_65 (by decide) ?_
      have q_41 : 0 ≤ u_26.1 11 9 ∧ u_26.1 11 9 ≤ 128 := iu_26.fi 11 9 9 (by decide) rfl
      have lk_42 : (uF u_33 11 13 ((u_26.1 11 13) + 1)).1 11 9 = u_26.1 11 9 := (uF_ne (fun h => absurd h.2 (by decide))).trans ((fu_33 11 (pM_no (tau_ne (rfl : tau 11 = .inl 9) hm.1 (fun h => by cases h)) (tau_ne (rfl : tau 11 = .inl 9) hm.2.1 (fun h => by cases h)) (tau_ne (rfl : tau 11 = .inl 9) hm.2.2.1 (fun h => by cases h)))).1 9)
      have q_43 : 0 ≤ u_26.1 11 10 ∧ u_26.1 11 10 ≤ 8 := iu_26.fi 11 10 9 (by decide) rfl
      have lk_44 : (uF u_33 11 13 ((u_26.1 11 13) + 1)).1 11 10 = u_26.1 11 10 := (uF_ne (fun h => absurd h.2 (by decide))).trans ((fu_33 11 (pM_no (tau_ne (rfl : tau 11 = .inl 9) hm.1 (fun h => by cases h)) (tau_ne (rfl : tau 11 = .inl 9) hm.2.1 (fun h => by cases h)) (tau_ne (rfl : tau 11 = .inl 9) hm.2.2.1 (fun h => by cases h)))).1 10)
      have q_45 : 0 ≤ u_26.1 11 11 ∧ u_26.1 11 11 ≤ 12 := iu_26.fi 11 11 9 (by decide) rfl
      have lk_46 : (uF u_33 11 13 ((u_26.1 11 13) + 1)).1 11 11 = u_26.1 11 11 := (uF_ne (fun h => absurd h.2 (by decide))).trans ((fu_33 11 (pM_no (tau_ne (rfl : tau 11 = .inl 9) hm.1 (fun h => by cases h)) (tau_ne (rfl : tau 11 = .inl 9) hm.2.1 (fun h => by cases h)) (tau_ne (rfl : tau 11 = .inl 9) hm.2.2.1 (fun h => by cases h)))).1 11)
      have q_47 : (-2147483648) ≤ u_26.1 11 12 ∧ u_26.1 11 12 ≤ 2147483647 := iu_26.fi 11 12 9 (by decide) rfl
      have lk_48 : (uF u_33 11 13 ((u_26.1 11 13) + 1)).1 11 12 = u_26.1 11 12 := (uF_ne (fun h => absurd h.2 (by decide))).trans ((fu_33 11 (pM_no (tau_ne (rfl : tau 11 = .inl 9) hm.1 (fun h => by cases h)) (tau_ne (rfl : tau 11 = .inl 9) hm.2.1 (fun h => by cases h)) (tau_ne (rfl : tau 11 = .inl 9) hm.2.2.1 (fun h => by cases h)))).1 12)
      have lk_49 : (uF u_33 11 13 ((u_26.1 11 13) + 1)).1 11 13 = (u_26.1 11 13) + 1 := uF_on
      have q_50 : 0 ≤ u_26.1 11 14 ∧ u_26.1 11 14 ≤ 7 := iu_26.fi 11 14 9 (by decide) rfl
      have lk_51 : (uF u_33 11 13 ((u_26.1 11 13) + 1)).1 11 14 = u_26.1 11 14 := (uF_ne (fun h => absurd h.2 (by decide))).trans ((fu_33 11 (pM_no (tau_ne (rfl : tau 11 = .inl 9) hm.1 (fun h => by cases h)) (tau_ne (rfl : tau 11 = .inl 9) hm.2.1 (fun h => by cases h)) (tau_ne (rfl : tau 11 = .inl 9) hm.2.2.1 (fun h => by cases h)))).1 14)
      have q_52 : 0 ≤ u_33.1 o 2 ∧ u_33.1 o 2 ≤ 12 := iu_33.fi o 2 3 (mdl_k hm) hm.1
      have lk_53 : (uF u_33 11 13 ((u_26.1 11 13) + 1)).1 o 2 = u_33.1 o 2 := uF_ne (fun h => absurd h.2 (by decide))
      have q_54 : 0 ≤ u_33.1 o 3 ∧ u_33.1 o 3 ≤ 16 := iu_33.fi o 3 3 (mdl_k hm) hm.1
      have lk_55 : (uF u_33 11 13 ((u_26.1 11 13) + 1)).1 o 3 = u_33.1 o 3 := uF_ne (fun h => absurd h.2 (by decide))
      have nr_56 : NRc M.1 (uF u_33 11 13 ((u_26.1 11 13) + 1)) := n1.of (by omega) (fun j => (F_39 16 rfl).2.2.1 j) (fun j => (F_39 17 rfl).2.1 j) (fun j => (F_39 18 rfl).2.1 j)
      have q_57 : 0 ≤ u_33.1 o 4 ∧ u_33.1 o 4 ≤ 1 := iu_33.fi o 4 3 (mdl_k hm) hm.1
      have lk_58 : (uF u_33 11 13 ((u_26.1 11 13) + 1)).1 o 4 = u_33.1 o 4 := uF_ne (fun h => absurd h.2 (by decide))
      exact sZret Cx hr hlk hW hL (by omega) ⟨i_40, F_38, ⟨⟨⟨⟨(fun i => (((fu_33 11 (pM_no (tau_ne (rfl : tau 11 = .inl 9) hm.1 (fun h => by cases h)) (tau_ne (rfl : tau 11 = .inl 9) hm.2.1 (fun h => by cases h)) (tau_ne (rfl : tau 11 = .inl 9) hm.2.2.1 (fun h => by cases h)))).2.2.2 i).trans (xu_26.1.1.1 i))), (fun h => absurd h (by decide))⟩, by omega, by omega⟩, (fun _ => ⟨_, (by rw [show (uF S 11 13 ((S.1 11 13) + 1)).1 11 12 = M.2.2.2.2.2.2.2 by omega] at e1; unfold eDg; rw [e1, Option.bind_some, hq1]), hM.goal nr_56 (by omega) (by omega) (by omega) (by omega) ⟨(show (uF u_33 11 13 ((u_26.1 11 13) + 1)).1 11 12 = u_26.1 11 12 by omega), (by show 0 ≤ u_26.1 11 12; omega), (by show u_26.1 11 12 ≤ 20000; omega)⟩ ((fun i => (((fu_33 11 (pM_no (tau_ne (rfl : tau 11 = .inl 9) hm.1 (fun h => by cases h)) (tau_ne (rfl : tau 11 = .inl 9) hm.2.1 (fun h => by cases h)) (tau_ne (rfl : tau 11 = .inl 9) hm.2.2.1 (fun h => by cases h)))).2.2.2 i).trans (xu_26.1.1.1 i))) 8), (by omega), (by omega)⟩), (fun h => absurd h (by decide))⟩, (fun _ hw M2 e => by have d := eDg_w e; have y4 := xu_33.2.2.1; exact ⟨(by rw [d.2]; split <;> omega), (by rw [d.1, ← hw.2, ((show (uF u_33 11 13 ((u_26.1 11 13) + 1)).2.1 (o + 2) = u_33.2.1 (o + 2) from funext fun x => uF_a).trans ((show u_33.2.1 (o + 2) = u_26.2.1 (o + 2) from xu_33.2.2.2.1).trans ((show u_26.2.1 (o + 2) = (uF S 11 13 ((S.1 11 13) + 1)).2.1 (o + 2) from funext fun x => (fu_26 (o + 2) (pEx_o (mdl_out2 hm).2.2)).2.1 x).trans (show (uF S 11 13 ((S.1 11 13) + 1)).2.1 (o + 2) = S.2.1 (o + 2) from funext fun x => uF_a)))), show (uF u_33 11 13 ((u_26.1 11 13) + 1)).1 o 2 = S.1 o 2 by omega])⟩), (fun _ X hX => by have hXb := (XAc.of (S := S) (u := u_26) hX (((fu_26 o (pEx_o (mdl_out hm).2.2)).1 2).trans (uF_ne (fun h => absurd h.2 (by decide)))) (((fu_26 o (pEx_o (mdl_out hm).2.2)).1 3).trans (uF_ne (fun h => absurd h.2 (by decide)))) (funext fun x => ((fu_26 (o + 1) (pEx_o (mdl_out1 hm).2.2)).2.1 x).trans (uF_a)) (funext fun x => ((fu_26 (o + 2) (pEx_o (mdl_out2 hm).2.2)).2.1 x).trans (uF_a))); have hXu : XAc u_33 o 1 (aDg T k v M pz X.1, X.2) := XAc.goal (y := (q1, V1, u_26.1 11 12)) (t := 0) (f := u_26.2.2.1 qS) hXb (by have e9 := e1; rw [show (uF S 11 13 ((S.1 11 13) + 1)).1 11 12 = M.2.2.2.2.2.2.2 by omega] at e9; exact e9) (if_neg (by omega)).symm (by omega) (by omega) (by omega) xu_33.2.2.2.1 (fun j a b => (show u_26.2.2.1 qS j = u_26.2.2.1 qS j from rfl).trans (w1 j a (by omega))) xu_33.2.2.2.2.2; exact (XAc.of (S := u_33) (u := (uF u_33 11 13 ((u_26.1 11 13) + 1))) hXu (uF_ne (fun h => absurd h.2 (by decide))) (uF_ne (fun h => absurd h.2 (by decide))) (funext fun x => uF_a) (funext fun x => uF_a))), (show OTc S (uF u_33 11 13 ((u_26.1 11 13) + 1)) y from ⟨((uF_ne (fun h => absurd h.2 (by decide))).trans (((fu_33 y (pM_no (neD hny) (tau_ne hmy.1 hm.2.1 (fun h => by cases h)) (tau_ne hmy.1 hm.2.2.1 (fun h => by cases h)))).1 2).trans (((fu_26 y (pEx_o (mdl_out hmy).2.2)).1 2).trans (uF_ne (fun h => absurd h.2 (by decide)))))), ((uF_ne (fun h => absurd h.2 (by decide))).trans (((fu_33 y (pM_no (neD hny) (tau_ne hmy.1 hm.2.1 (fun h => by cases h)) (tau_ne hmy.1 hm.2.2.1 (fun h => by cases h)))).1 3).trans (((fu_26 y (pEx_o (mdl_out hmy).2.2)).1 3).trans (uF_ne (fun h => absurd h.2 (by decide)))))), ((uF_ne (fun h => absurd h.2 (by decide))).trans (((fu_33 y (pM_no (neD hny) (tau_ne hmy.1 hm.2.1 (fun h => by cases h)) (tau_ne hmy.1 hm.2.2.1 (fun h => by cases h)))).1 4).trans (((fu_26 y (pEx_o (mdl_out hmy).2.2)).1 4).trans (uF_ne (fun h => absurd h.2 (by decide)))))), (funext fun x => (uF_a).trans (((fu_33 (y + 2) (pM_no (tau_ne hmy.2.2.1 hm.1 (fun h => by cases h)) (tau_ne hmy.2.2.1 hm.2.1 (fun h => by cases h)) (by omega))).2.1 x).trans (((fu_26 (y + 2) (pEx_o (mdl_out2 hmy).2.2)).2.1 x).trans (uF_a)))), (funext fun x => (uF_a).trans (((fu_33 (y + 1) (pM_no (tau_ne hmy.2.1 hm.1 (fun h => by cases h)) (ne1 hny) (tau_ne hmy.2.1 hm.2.2.1 (fun h => by cases h)))).2.1 x).trans (((fu_26 (y + 1) (pEx_o (mdl_out1 hmy).2.2)).2.1 x).trans (uF_a))))⟩)⟩⟩ dX9_tellGoal_66
    · refine lv_iconst (v := iv 0) hx hb dX9_tellGoal_39 (by decide) ?_
      have q_59 : 0 ≤ u_26.1 11 9 ∧ u_26.1 11 9 ≤ 128 := iu_26.fi 11 9 9 (by decide) rfl
      have q_60 : 0 ≤ u_26.1 11 10 ∧ u_26.1 11 10 ≤ 8 := iu_26.fi 11 10 9 (by decide) rfl
      have q_61 : 0 ≤ u_26.1 11 11 ∧ u_26.1 11 11 ≤ 12 := iu_26.fi 11 11 9 (by decide) rfl
      have q_62 : (-2147483648) ≤ u_26.1 11 12 ∧ u_26.1 11 12 ≤ 2147483647 := iu_26.fi 11 12 9 (by decide) rfl
      have q_63 : (-2147483648) ≤ u_26.1 11 13 ∧ u_26.1 11 13 ≤ 2147483647 := iu_26.fi 11 13 9 (by decide) rfl
      have q_64 : 0 ≤ u_26.1 11 14 ∧ u_26.1 11 14 ≤ 7 := iu_26.fi 11 14 9 (by decide) rfl
      have lk_65 : u_26.1 o 2 = S.1 o 2 := ((fu_26 o (pEx_o (mdl_out hm).2.2)).1 2).trans (uF_ne (fun h => absurd h.2 (by decide)))
      have lk_66 : u_26.1 o 3 = S.1 o 3 := ((fu_26 o (pEx_o (mdl_out hm).2.2)).1 3).trans (uF_ne (fun h => absurd h.2 (by decide)))
      exact sZret Cx hr hlk hW hL (by omega) ⟨iu_26, F_29, ⟨⟨⟨⟨(fun i => (xu_26.1.1.1 i)), (fun _ => by first | omega | exact xu_26.1.1.2 (by omega))⟩, by omega, by omega⟩, (fun h => absurd h (by omega)), (fun _ => (by have q9 := xu_26.2.2 (by omega); rw [show (uF S 11 13 ((S.1 11 13) + 1)).1 11 12 = M.2.2.2.2.2.2.2 by omega] at q9; unfold eDg; rw [q9]; rfl))⟩, (fun h => absurd h (by omega)), (fun h => absurd h (by omega)), (show OTc S u_26 y from ⟨(((fu_26 y (pEx_o (mdl_out hmy).2.2)).1 2).trans (uF_ne (fun h => absurd h.2 (by decide)))), (((fu_26 y (pEx_o (mdl_out hmy).2.2)).1 3).trans (uF_ne (fun h => absurd h.2 (by decide)))), (((fu_26 y (pEx_o (mdl_out hmy).2.2)).1 4).trans (uF_ne (fun h => absurd h.2 (by decide)))), (funext fun x => ((fu_26 (y + 2) (pEx_o (mdl_out2 hmy).2.2)).2.1 x).trans (uF_a)), (funext fun x => ((fu_26 (y + 1) (pEx_o (mdl_out1 hmy).2.2)).2.1 x).trans (uF_a))⟩)⟩⟩ dX9_tellGoal_40
  · refine lv_iconst (v := iv 1) hx hb dX9_tellGoal_15 (by decide) ?_
    refine lv_goto (tgt := 20) hx hb dX9_tellGoal_16 (by decide) ?_
    refine lv_istore_n (lv' := [(1, .int (iv 1)), (0, .ref (G.2.2.1 + 11))]) hx hb dX9_tellGoal_20 rfl hl (by decide) rfl (fun ls hl => ?_)
    refine lv_aload_n hx hb dX9_tellGoal_21 rfl (lv_at hl 1 rfl) ?_
    refine lv_dup hx hb dX9_tellGoal_22 rfl ?_
    refine g_X9_89 Cx hW (k := 11) (by decide) rfl (v := S.1 11 13) rfl dX9_tellGoal_23 ?_
    refine lv_iconst (v := iv 1) hx hb dX9_tellGoal_26 (by decide) ?_
    refine r_iadd hx hb dX9_tellGoal_27 ?_
    refine p_X9_89 Cx hW hL (k := 11) (by decide) rfl dX9_tellGoal_28 (fun H locs hW hL => ?_)
    have F_67 : Fr S (uF S 11 13 ((S.1 11 13) + 1)) pG := (Fr.rf : Fr S S pG).F rfl
    have F_68 : Fr S (uF S 11 13 ((S.1 11 13) + 1)) pRm := (Fr.rf : Fr S S pRm).F rfl
    have i_69 : cX G (uF S 11 13 ((S.1 11 13) + 1)) 0 0 0 := hI.F rfl rfl (show (-2147483648) ≤ (S.1 11 13) + 1 ∧ (S.1 11 13) + 1 ≤ 2147483647 from ⟨by omega, by omega⟩)
    refine lv_aload_n hx hb dX9_tellGoal_31 rfl (lv_at hl 1 rfl) ?_
    refine lv_iconst (v := iv 0) hx hb dX9_tellGoal_32 (by decide) ?_
    have q_70 : 0 ≤ S.1 11 9 ∧ S.1 11 9 ≤ 128 := hI.fi 11 9 9 (by decide) rfl
    have lk_71 : (uF S 11 13 ((S.1 11 13) + 1)).1 11 9 = S.1 11 9 := uF_ne (fun h => absurd h.2 (by decide))
    have q_72 : 0 ≤ S.1 11 10 ∧ S.1 11 10 ≤ 8 := hI.fi 11 10 9 (by decide) rfl
    have lk_73 : (uF S 11 13 ((S.1 11 13) + 1)).1 11 10 = S.1 11 10 := uF_ne (fun h => absurd h.2 (by decide))
    have q_74 : 0 ≤ S.1 11 11 ∧ S.1 11 11 ≤ 12 := hI.fi 11 11 9 (by decide) rfl
    have lk_75 : (uF S 11 13 ((S.1 11 13) + 1)).1 11 11 = S.1 11 11 := uF_ne (fun h => absurd h.2 (by decide))
    have q_76 : (-2147483648) ≤ S.1 11 12 ∧ S.1 11 12 ≤ 2147483647 := hI.fi 11 12 9 (by decide) rfl
    have lk_77 : (uF S 11 13 ((S.1 11 13) + 1)).1 11 12 = S.1 11 12 := uF_ne (fun h => absurd h.2 (by decide))
    have lk_78 : (uF S 11 13 ((S.1 11 13) + 1)).1 11 13 = (S.1 11 13) + 1 := uF_on
    have q_79 : 0 ≤ S.1 11 14 ∧ S.1 11 14 ≤ 7 := hI.fi 11 14 9 (by decide) rfl
    have lk_80 : (uF S 11 13 ((S.1 11 13) + 1)).1 11 14 = S.1 11 14 := uF_ne (fun h => absurd h.2 (by decide))
    have q_81 : 0 ≤ S.1 o 2 ∧ S.1 o 2 ≤ 12 := hI.fi o 2 3 (mdl_k hm) hm.1
    have lk_82 : (uF S 11 13 ((S.1 11 13) + 1)).1 o 2 = S.1 o 2 := uF_ne (fun h => absurd h.2 (by decide))
    have q_83 : 0 ≤ S.1 o 3 ∧ S.1 o 3 ≤ 16 := hI.fi o 3 3 (mdl_k hm) hm.1
    have lk_84 : (uF S 11 13 ((S.1 11 13) + 1)).1 o 3 = S.1 o 3 := uF_ne (fun h => absurd h.2 (by decide))
    have nr_85 : NRc M.1 (uF S 11 13 ((S.1 11 13) + 1)) := hN.of (by omega) (fun j => (F_68 16 rfl).2.2.1 j) (fun j => (F_68 17 rfl).2.1 j) (fun j => (F_68 18 rfl).2.1 j)
    have kv_86 : KV (uF S 11 13 ((S.1 11 13) + 1)) k v T := hkv.fr F_67 rfl rfl rfl
    refine sBi (sV (As := [.int (iv 0)]) (rest := []) (k := 11) Cx ((telE l G) (uF S 11 13 ((S.1 11 13) + 1)) M.1 k v T (pz + 1) q1 30 i_69 ⟨nr_85, hK, hTV, kv_86, (by omega), (by omega), (by omega), ⟨by omega, by omega⟩⟩ (by decide) (by omega) (by omega) hg1) (c_X9_166 Cx rfl rfl (rmk_ok (by omega) (by decide))) hW (by decide) rfl rfl rfl hl.1 rfl (Nat.le_of_ble_eq_true rfl) dX9_tellGoal_33 ⟨Nat.le_of_ble_eq_true rfl, Nat.le_of_ble_eq_true rfl⟩) hL (fun r_89 u_87 H locs k_88 hW hL => ?_)
    obtain ⟨iu_87, fu_87, xu_87⟩ := k_88
    have yu_87 := xu_87.1.2
    have F_90 := F_67.trans (fu_87.to (fun k h => pV_G k (pEx_V k h)))
    refine r_if_ne (tgt := 41) hx hb ⟨(by omega), (by omega)⟩ dX9_tellGoal_36 (by decide) (fun c_91 => ?_) (fun c_91 => ?_)
    · obtain ⟨V1, e1, w1, bb1, l1, pp1, f1, n1⟩ := xu_87.2.1 (by omega)
      rw [← hqS] at w1
      refine lv_aload_n hx hb dX9_tellGoal_41 rfl (lv_at hl 1 rfl) ?_
      refine g_X9_46 Cx hW (k := 11) (by decide) rfl (v := .ref (G.2.2.1 + o)) (((fun i => (xu_87.1.1.1 i)) 8).trans hrf) dX9_tellGoal_42 ?_
      refine lv_aload_n hx hb dX9_tellGoal_45 rfl (lv_at hl 1 rfl) ?_
      refine g_X9_31 Cx hW (k := 11) (by decide) rfl (v := .ref (G.2.2.1 + 19)) (rf_11_4 iu_87) dX9_tellGoal_46 ?_
      refine lv_iconst (v := iv 0) hx hb dX9_tellGoal_49 (by decide) ?_
      refine rAald Cx hW (k := 19) (by decide) rfl (by decide) (by omega) (by omega) (r2_19f (dn := 0) iu_87 hqS (by omega) (by omega)) dX9_tellGoal_50 ?_
      refine lv_iload_n hx hb dX9_tellGoal_51 rfl (lv_at hl 0 rfl) ?_
      have lk_92 : u_87.1 o 2 = S.1 o 2 := ((fu_87 o (pEx_o (mdl_out hm).2.2)).1 2).trans (uF_ne (fun h => absurd h.2 (by decide)))
      have lk_93 : u_87.1 o 3 = S.1 o 3 := ((fu_87 o (pEx_o (mdl_out hm).2.2)).1 3).trans (uF_ne (fun h => absurd h.2 (by decide)))
      refine sBv (sV (As := [.ref (G.2.2.1 + qS), .int (iv 1)]) (rest := []) (k := o) Cx (f_X3_setGoal l G u_87 (o := o) (q := qS) (t := 1) iu_87 hm (lr_h lqS) (fun j a b => by rw [(show u_87.2.2.1 qS j = u_87.2.2.1 qS j from rfl), w1 j a (by omega)]; exact bb1 j a (by omega)) (by omega)) (c_X9_169 Cx rfl rfl (rmk_ok (by omega) (by decide))) hW (mdl_l hm) hm.1 rfl rfl hl.1 rfl (Nat.le_of_ble_eq_true rfl) dX9_tellGoal_52 ⟨Nat.le_of_ble_eq_true rfl, Nat.le_of_ble_eq_true rfl⟩) hL (fun u_94 H locs k_95 hW hL => ?_)
      obtain ⟨iu_94, fu_94, xu_94⟩ := k_95
      have F_96 := F_90.trans (fu_94.to (pM_sub (mdl_pG hm).1 (mdl_pG hm).2.1 (mdl_pG hm).2.2))
      have F_97 := (Fr.rf : Fr u_87 u_87 pRm).trans (fu_94.to (pM_sub (mdl_Rm hm).1 (mdl_Rm hm).2.1 (mdl_Rm hm).2.2))
      refine lv_aload_n hx hb dX9_tellGoal_55 rfl (lv_at hl 1 rfl) ?_
      refine lv_dup hx hb dX9_tellGoal_56 rfl ?_
      have q_98 : (-2147483648) ≤ u_87.1 11 13 ∧ u_87.1 11 13 ≤ 2147483647 := iu_87.fi 11 13 9 (by decide) rfl
      refine g_X9_89 Cx hW (k := 11) (by decide) rfl (v := u_87.1 11 13) ((fu_94 11 (pM_no (tau_ne (rfl : tau 11 = .inl 9) hm.1 (fun h => by cases h)) (tau_ne (rfl : tau 11 = .inl 9) hm.2.1 (fun h => by cases h)) (tau_ne (rfl : tau 11 = .inl 9) hm.2.2.1 (fun h => by cases h)))).1 13) dX9_tellGoal_57 ?_
      refine lv_iconst (v := iv 1) hx hb dX9_tellGoal_60 (by decide) ?_
      refine r_iadd hx hb dX9_tellGoal_61 ?_
      refine p_X9_89 Cx hW hL (k := 11) (by decide) rfl dX9_tellGoal_62 (fun H locs hW hL => ?_)
      have F_99 : Fr S (uF u_94 11 13 ((u_87.1 11 13) + 1)) pG := F_96.F rfl
      have F_100 : Fr u_87 (uF u_94 11 13 ((u_87.1 11 13) + 1)) pRm := F_97.F rfl
      have i_101 : cX G (uF u_94 11 13 ((u_87.1 11 13) + 1)) 0 0 0 := iu_94.F rfl rfl (show (-2147483648) ≤ (u_87.1 11 13) + 1 ∧ (u_87.1 11 13) + 1 ≤ 2147483647 from ⟨by omega, by omega⟩)
      refine lv_iconst (v := iv 1) hx hb dX9_tellGoal_65 (by decide) ?_
      have q_102 : 0 ≤ u_87.1 11 9 ∧ u_87.1 11 9 ≤ 128 := iu_87.fi 11 9 9 (by decide) rfl
      have lk_103 : (uF u_94 11 13 ((u_87.1 11 13) + 1)).1 11 9 = u_87.1 11 9 := (uF_ne (fun h => absurd h.2 (by decide))).trans ((fu_94 11 (pM_no (tau_ne (rfl : tau 11 = .inl 9) hm.1 (fun h => by cases h)) (tau_ne (rfl : tau 11 = .inl 9) hm.2.1 (fun h => by cases h)) (tau_ne (rfl : tau 11 = .inl 9) hm.2.2.1 (fun h => by cases h)))).1 9)
      have q_104 : 0 ≤ u_87.1 11 10 ∧ u_87.1 11 10 ≤ 8 := iu_87.fi 11 10 9 (by decide) rfl
      have lk_105 : (uF u_94 11 13 ((u_87.1 11 13) + 1)).1 11 10 = u_87.1 11 10 := (uF_ne (fun h => absurd h.2 (by decide))).trans ((fu_94 11 (pM_no (tau_ne (rfl : tau 11 = .inl 9) hm.1 (fun h => by cases h)) (tau_ne (rfl : tau 11 = .inl 9) hm.2.1 (fun h => by cases h)) (tau_ne (rfl : tau 11 = .inl 9) hm.2.2.1 (fun h => by cases h)))).1 10)
      have q_106 : 0 ≤ u_87.1 11 11 ∧ u_87.1 11 11 ≤ 12 := iu_87.fi 11 11 9 (by decide) rfl
      have lk_107 : (uF u_94 11 13 ((u_87.1 11 13) + 1)).1 11 11 = u_87.1 11 11 := (uF_ne (fun h => absurd h.2 (by decide))).trans ((fu_94 11 (pM_no (tau_ne (rfl : tau 11 = .inl 9) hm.1 (fun h => by cases h)) (tau_ne (rfl : tau 11 = .inl 9) hm.2.1 (fun h => by cases h)) (tau_ne (rfl : tau 11 = .inl 9) hm.2.2.1 (fun h => by cases h)))).1 11)
      have q_108 : (-2147483648) ≤ u_87.1 11 12 ∧ u_87.1 11 12 ≤ 2147483647 := iu_87.fi 11 12 9 (by decide) rfl
      have lk_109 : (uF u_94 11 13 ((u_87.1 11 13) + 1)).1 11 12 = u_87.1 11 12 := (uF_ne (fun h => absurd h.2 (by decide))).trans ((fu_94 11 (pM_no (tau_ne (rfl : tau 11 = .inl 9) hm.1 (fun h => by cases h)) (tau_ne (rfl : tau 11 = .inl 9) hm.2.1 (fun h => by cases h)) (tau_ne (rfl : tau 11 = .inl 9) hm.2.2.1 (fun h => by cases h)))).1 12)
      have lk_110 : (uF u_94 11 13 ((u_87.1 11 13) + 1)).1 11 13 = (u_87.1 11 13) + 1 := uF_on
      have q_111 : 0 ≤ u_87.1 11 14 ∧ u_87.1 11 14 ≤ 7 := iu_87.fi 11 14 9 (by decide) rfl
      have lk_112 : (uF u_94 11 13 ((u_87.1 11 13) + 1)).1 11 14 = u_87.1 11 14 := (uF_ne (fun h => absurd h.2 (by decide))).trans ((fu_94 11 (pM_no (tau_ne (rfl : tau 11 = .inl 9) hm.1 (fun h => by cases h)) (tau_ne (rfl : tau 11 = .inl 9) hm.2.1 (fun h => by cases h)) (tau_ne (rfl : tau 11 = .inl 9) hm.2.2.1 (fun h => by cases h)))).1 14)
      have q_113 : 0 ≤ u_94.1 o 2 ∧ u_94.1 o 2 ≤ 12 := iu_94.fi o 2 3 (mdl_k hm) hm.1
      have lk_114 : (uF u_94 11 13 ((u_87.1 11 13) + 1)).1 o 2 = u_94.1 o 2 := uF_ne (fun h => absurd h.2 (by decide))
      have q_115 : 0 ≤ u_94.1 o 3 ∧ u_94.1 o 3 ≤ 16 := iu_94.fi o 3 3 (mdl_k hm) hm.1
      have lk_116 : (uF u_94 11 13 ((u_87.1 11 13) + 1)).1 o 3 = u_94.1 o 3 := uF_ne (fun h => absurd h.2 (by decide))
      have nr_117 : NRc M.1 (uF u_94 11 13 ((u_87.1 11 13) + 1)) := n1.of (by omega) (fun j => (F_100 16 rfl).2.2.1 j) (fun j => (F_100 17 rfl).2.1 j) (fun j => (F_100 18 rfl).2.1 j)
      have q_118 : 0 ≤ u_94.1 o 4 ∧ u_94.1 o 4 ≤ 1 := iu_94.fi o 4 3 (mdl_k hm) hm.1
      have lk_119 : (uF u_94 11 13 ((u_87.1 11 13) + 1)).1 o 4 = u_94.1 o 4 := uF_ne (fun h => absurd h.2 (by decide))
      exact sZret Cx hr hlk hW hL (by omega) ⟨i_101, F_99, ⟨⟨⟨⟨(fun i => (((fu_94 11 (pM_no (tau_ne (rfl : tau 11 = .inl 9) hm.1 (fun h => by cases h)) (tau_ne (rfl : tau 11 = .inl 9) hm.2.1 (fun h => by cases h)) (tau_ne (rfl : tau 11 = .inl 9) hm.2.2.1 (fun h => by cases h)))).2.2.2 i).trans (xu_87.1.1.1 i))), (fun h => absurd h (by decide))⟩, by omega, by omega⟩, (fun _ => ⟨_, (by rw [show (uF S 11 13 ((S.1 11 13) + 1)).1 11 12 = M.2.2.2.2.2.2.2 by omega] at e1; unfold eDg; rw [e1, Option.bind_some, hq1]), hM.goal nr_117 (by omega) (by omega) (by omega) (by omega) ⟨(show (uF u_94 11 13 ((u_87.1 11 13) + 1)).1 11 12 = u_87.1 11 12 by omega), (by show 0 ≤ u_87.1 11 12; omega), (by show u_87.1 11 12 ≤ 20000; omega)⟩ ((fun i => (((fu_94 11 (pM_no (tau_ne (rfl : tau 11 = .inl 9) hm.1 (fun h => by cases h)) (tau_ne (rfl : tau 11 = .inl 9) hm.2.1 (fun h => by cases h)) (tau_ne (rfl : tau 11 = .inl 9) hm.2.2.1 (fun h => by cases h)))).2.2.2 i).trans (xu_87.1.1.1 i))) 8), (by omega), (by omega)⟩), (fun h => absurd h (by decide))⟩, (fun _ hw M2 e => by have d := eDg_w e; have y4 := xu_94.2.2.1; exact ⟨(by rw [d.2]; split <;> omega), (by rw [d.1, ← hw.2, ((show (uF u_94 11 13 ((u_87.1 11 13) + 1)).2.1 (o + 2) = u_94.2.1 (o + 2) from funext fun x => uF_a).trans ((show u_94.2.1 (o + 2) = u_87.2.1 (o + 2) from xu_94.2.2.2.1).trans ((show u_87.2.1 (o + 2) = (uF S 11 13 ((S.1 11 13) + 1)).2.1 (o + 2) from funext fun x => (fu_87 (o + 2) (pEx_o (mdl_out2 hm).2.2)).2.1 x).trans (show (uF S 11 13 ((S.1 11 13) + 1)).2.1 (o + 2) = S.2.1 (o + 2) from funext fun x => uF_a)))), show (uF u_94 11 13 ((u_87.1 11 13) + 1)).1 o 2 = S.1 o 2 by omega])⟩), (fun _ X hX => by have hXb := (XAc.of (S := S) (u := u_87) hX (((fu_87 o (pEx_o (mdl_out hm).2.2)).1 2).trans (uF_ne (fun h => absurd h.2 (by decide)))) (((fu_87 o (pEx_o (mdl_out hm).2.2)).1 3).trans (uF_ne (fun h => absurd h.2 (by decide)))) (funext fun x => ((fu_87 (o + 1) (pEx_o (mdl_out1 hm).2.2)).2.1 x).trans (uF_a)) (funext fun x => ((fu_87 (o + 2) (pEx_o (mdl_out2 hm).2.2)).2.1 x).trans (uF_a))); have hXu : XAc u_94 o 1 (aDg T k v M pz X.1, X.2) := XAc.goal (y := (q1, V1, u_87.1 11 12)) (t := 1) (f := u_87.2.2.1 qS) hXb (by have e9 := e1; rw [show (uF S 11 13 ((S.1 11 13) + 1)).1 11 12 = M.2.2.2.2.2.2.2 by omega] at e9; exact e9) (if_pos (by omega)).symm (by omega) (by omega) (by omega) xu_94.2.2.2.1 (fun j a b => (show u_87.2.2.1 qS j = u_87.2.2.1 qS j from rfl).trans (w1 j a (by omega))) xu_94.2.2.2.2.2; exact (XAc.of (S := u_94) (u := (uF u_94 11 13 ((u_87.1 11 13) + 1))) hXu (uF_ne (fun h => absurd h.2 (by decide))) (uF_ne (fun h => absurd h.2 (by decide))) (funext fun x => uF_a) (funext fun x => uF_a))), (show OTc S (uF u_94 11 13 ((u_87.1 11 13) + 1)) y from ⟨((uF_ne (fun h => absurd h.2 (by decide))).trans (((fu_94 y (pM_no (neD hny) (tau_ne hmy.1 hm.2.1 (fun h => by cases h)) (tau_ne hmy.1 hm.2.2.1 (fun h => by cases h)))).1 2).trans (((fu_87 y (pEx_o (mdl_out hmy).2.2)).1 2).trans (uF_ne (fun h => absurd h.2 (by decide)))))), ((uF_ne (fun h => absurd h.2 (by decide))).trans (((fu_94 y (pM_no (neD hny) (tau_ne hmy.1 hm.2.1 (fun h => by cases h)) (tau_ne hmy.1 hm.2.2.1 (fun h => by cases h)))).1 3).trans (((fu_87 y (pEx_o (mdl_out hmy).2.2)).1 3).trans (uF_ne (fun h => absurd h.2 (by decide)))))), ((uF_ne (fun h => absurd h.2 (by decide))).trans (((fu_94 y (pM_no (neD hny) (tau_ne hmy.1 hm.2.1 (fun h => by cases h)) (tau_ne hmy.1 hm.2.2.1 (fun h => by cases h)))).1 4).trans (((fu_87 y (pEx_o (mdl_out hmy).2.2)).1 4).trans (uF_ne (fun h => absurd h.2 (by decide)))))), (funext fun x => (uF_a).trans (((fu_94 (y + 2) (pM_no (tau_ne hmy.2.2.1 hm.1 (fun h => by cases h)) (tau_ne hmy.2.2.1 hm.2.1 (fun h => by cases h)) (by omega))).2.1 x).trans (((fu_87 (y + 2) (pEx_o (mdl_out2 hmy).2.2)).2.1 x).trans (uF_a)))), (funext fun x => (uF_a).trans (((fu_94 (y + 1) (pM_no (tau_ne hmy.2.1 hm.1 (fun h => by cases h)) (ne1 hny) (tau_ne hmy.2.1 hm.2.2.1 (fun h => by cases h)))).2.1 x).trans (((fu_87 (y + 1) (pEx_o (mdl_out1 hmy).2.2)).2.1 x).trans (uF_a))))⟩)⟩⟩ dX9_tellGoal_66
    · refine lv_iconst (v := iv 0) hx hb dX9_tellGoal_39 (by decide) ?_
      have q_120 : 0 ≤ u_87.1 11 9 ∧ u_87.1 11 9 ≤ 128 := iu_87.fi 11 9 9 (by decide) rfl
      have q_121 : 0 ≤ u_87.1 11 10 ∧ u_87.1 11 10 ≤ 8 := iu_87.fi 11 10 9 (by decide) rfl
      have q_122 : 0 ≤ u_87.1 11 11 ∧ u_87.1 11 11 ≤ 12 := iu_87.fi 11 11 9 (by decide) rfl
      have q_123 : (-2147483648) ≤ u_87.1 11 12 ∧ u_87.1 11 12 ≤ 2147483647 := iu_87.fi 11 12 9 (by decide) rfl
      have q_124 : (-2147483648) ≤ u_87.1 11 13 ∧ u_87.1 11 13 ≤ 2147483647 := iu_87.fi 11 13 9 (by decide) rfl
      have q_125 : 0 ≤ u_87.1 11 14 ∧ u_87.1 11 14 ≤ 7 := iu_87.fi 11 14 9 (by decide) rfl
      have lk_126 : u_87.1 o 2 = S.1 o 2 := ((fu_87 o (pEx_o (mdl_out hm).2.2)).1 2).trans (uF_ne (fun h => absurd h.2 (by decide)))
      have lk_127 : u_87.1 o 3 = S.1 o 3 := ((fu_87 o (pEx_o (mdl_out hm).2.2)).1 3).trans (uF_ne (fun h => absurd h.2 (by decide)))
      exact sZret Cx hr hlk hW hL (by omega) ⟨iu_87, F_90, ⟨⟨⟨⟨(fun i => (xu_87.1.1.1 i)), (fun _ => by first | omega | exact xu_87.1.1.2 (by omega))⟩, by omega, by omega⟩, (fun h => absurd h (by omega)), (fun _ => (by have q9 := xu_87.2.2 (by omega); rw [show (uF S 11 13 ((S.1 11 13) + 1)).1 11 12 = M.2.2.2.2.2.2.2 by omega] at q9; unfold eDg; rw [q9]; rfl))⟩, (fun h => absurd h (by omega)), (fun h => absurd h (by omega)), (show OTc S u_87 y from ⟨(((fu_87 y (pEx_o (mdl_out hmy).2.2)).1 2).trans (uF_ne (fun h => absurd h.2 (by decide)))), (((fu_87 y (pEx_o (mdl_out hmy).2.2)).1 3).trans (uF_ne (fun h => absurd h.2 (by decide)))), (((fu_87 y (pEx_o (mdl_out hmy).2.2)).1 4).trans (uF_ne (fun h => absurd h.2 (by decide)))), (funext fun x => ((fu_87 (y + 2) (pEx_o (mdl_out2 hmy).2.2)).2.1 x).trans (uF_a)), (funext fun x => ((fu_87 (y + 1) (pEx_o (mdl_out1 hmy).2.2)).2.1 x).trans (uF_a))⟩)⟩⟩ dX9_tellGoal_40

set_option maxRecDepth 100000 in
set_option maxHeartbeats 4000000 in
theorem f_X9_tellOneRow (l : Launch) (G : sG) (S : sS) {N : sN} {k v : Int → Int} {T pz q a1 b1 nm : Int} {o y : Nat} (hI : cX G S 0 0 0) (hnm : -2147483648 ≤ nm ∧ nm ≤ 2147483647) (hm : mdl o) (hN : Hd (NRc N S)) (hK : Hd (NK N)) (hTV : Hd (TVn k v)) (hkv : Hd (KV S k v T)) (hfk : S.1 11 14 = 0) (hat : S.1 11 13 = pz) (hpz : 0 ≤ pz ∧ pz ≤ 2001) (hlk : 0 ≤ S.1 11 12 ∧ S.1 11 12 ≤ 20000) (hnm : N.1 + 30 ≤ 128) (hrf : Hd (S.2.2.2 11 8 = .ref (G.2.2.1 + o))) (h16 : 0 ≤ S.1 o 3 ∧ S.1 o 3 ≤ 16) (hg : Hd (ogU T k (ogF T k 30) pz = some a1)) (hg2 : Hd (k a1 = 25 ∨ k a1 = 26 ∨ k a1 = 13)) (hg3 : Hd (ogU T k (ogF T k 30) (a1 + 1) = some b1)) (hq : q = b1 + 1) (hb1 : b1 ≤ 2000) (hmy : mdl y) (hny : Hd (y ≠ o)) : Met l yX9_tellOneRow (.code yX9_tellOneRow cX9_tellOneRow 5 (some .boolean) :: tb) (rmk 133 0 0) (sPc G 294 S [.ref (G.2.2.1 + 11), .int (iv nm)]) (sQi G 294 (fun r u => cX G u 0 0 0 ∧ Fr S u pG ∧ (ROc S u N o q r (eRo T k v N (S.1 o 3) (S.1 11 12) pz) ∧ Hd (u.1 o 4 = S.1 o 4 ∧ u.2.1 (o + 2) = S.2.1 (o + 2)) ∧ Hd (r = 1 → ∀ X, XAc S o 1 X → XAc u o 1 (aRo T k v N X.1 (S.1 o 3) (S.1 11 12) pz, X.2)) ∧ Hd (OTc S u y)))) 0 0 (sF G) := by
  refine sEnter (by decide) (Nat.le_of_ble_eq_true rfl) ?_
  intro p e s m args below meth c Cx hr hlk hnm hW ls hl
  have Cx : sC G p m c cX9_tellOneRow 5 s args RX9 := Cx
  obtain ⟨hx, hb, hml, hown, hts⟩ := id Cx.1
  have hL : sL G [] := sL_nil
  have hl : lv_has ls 5 [(0, .ref (G.2.2.1 + 11)), (1, .int (iv nm))] := hl
  have hW0 := hW
  have hkn : 0 ≤ S.1 11 9 ∧ S.1 11 9 ≤ 128 := hI.fi 11 9 9 (by decide) rfl
  have hTb : 0 ≤ S.1 12 3 ∧ S.1 12 3 ≤ 2001 := hI.fi 12 3 8 (by decide) rfl
  have hTe := hkv.2.2
  have hN1 := hN.1
  have hny1 : y ≠ o := hny
  obtain ⟨qS, hqS⟩ : ∃ z : Nat, z = 20 + 0 := ⟨_, rfl⟩
  have lqS := lr_19 (dn := 0) hqS (by omega)
  have ha1 := ogU_inc (ogF_inc 30) _ _ hg; have hb2 := ogU_inc (ogF_inc 30) _ _ hg3
  refine lv_aload_n hx hb dX9_tellOneRow_0 rfl (lv_at hl 0 rfl) ?_
  refine lv_iconst (v := iv 0) hx hb dX9_tellOneRow_1 (by decide) ?_
  have q_1 : 0 ≤ S.1 11 9 ∧ S.1 11 9 ≤ 128 := hI.fi 11 9 9 (by decide) rfl
  have q_2 : 0 ≤ S.1 11 10 ∧ S.1 11 10 ≤ 8 := hI.fi 11 10 9 (by decide) rfl
  have q_3 : 0 ≤ S.1 11 11 ∧ S.1 11 11 ≤ 12 := hI.fi 11 11 9 (by decide) rfl
  have q_4 : (-2147483648) ≤ S.1 11 12 ∧ S.1 11 12 ≤ 2147483647 := hI.fi 11 12 9 (by decide) rfl
  have q_5 : (-2147483648) ≤ S.1 11 13 ∧ S.1 11 13 ≤ 2147483647 := hI.fi 11 13 9 (by decide) rfl
  have q_6 : 0 ≤ S.1 11 14 ∧ S.1 11 14 ≤ 7 := hI.fi 11 14 9 (by decide) rfl
  have q_7 : 0 ≤ S.1 o 2 ∧ S.1 o 2 ≤ 12 := hI.fi o 2 3 (mdl_k hm) hm.1
  have q_8 : 0 ≤ S.1 o 3 ∧ S.1 o 3 ≤ 16 := hI.fi o 3 3 (mdl_k hm) hm.1
  refine sBi (sV (As := [.int (iv 0)]) (rest := []) (k := 11) Cx ((telE l G) S N k v T (pz) a1 30 hI ⟨hN, hK, hTV, hkv, (by omega), (by omega), (by omega), ⟨by omega, by omega⟩⟩ (by decide) (by omega) (by omega) hg) (c_X9_166 Cx rfl rfl (rmk_ok (by omega) (by decide))) hW (by decide) rfl rfl rfl hl.1 rfl (Nat.le_of_ble_eq_true rfl) dX9_tellOneRow_2 ⟨Nat.le_of_ble_eq_true rfl, Nat.le_of_ble_eq_true rfl⟩) hL (fun r_11 u_9 H locs k_10 hW hL => ?_)
  obtain ⟨iu_9, fu_9, xu_9⟩ := k_10
  have yu_9 := xu_9.1.2
  have F_12 := (Fr.rf : Fr S S pG).trans (fu_9.to (fun k h => pV_G k (pEx_V k h)))
  refine r_if_ne (tgt := 10) hx hb ⟨(by omega), (by omega)⟩ dX9_tellOneRow_5 (by decide) (fun c_13 => ?_) (fun c_13 => ?_)
  · obtain ⟨V1, e1, w1, bb1, l1, pp1, f1, n1⟩ := xu_9.2.1 (by omega)
    rw [← hqS] at w1
    refine lv_aload_n hx hb dX9_tellOneRow_10 rfl (lv_at hl 0 rfl) ?_
    refine g_X9_31 Cx hW (k := 11) (by decide) rfl (v := .ref (G.2.2.1 + 19)) (rf_11_4 iu_9) dX9_tellOneRow_11 ?_
    refine lv_iconst (v := iv 0) hx hb dX9_tellOneRow_14 (by decide) ?_
    refine rAald Cx hW (k := 19) (by decide) rfl (by decide) (by omega) (by omega) (r2_19f (dn := 0) iu_9 hqS (by omega) (by omega)) dX9_tellOneRow_15 ?_
    refine lv_iconst (v := iv 0) hx hb dX9_tellOneRow_16 (by decide) ?_
    refine lv_aload_n hx hb dX9_tellOneRow_17 rfl (lv_at hl 0 rfl) ?_
    refine g_X9_40 Cx hW (k := 11) (by decide) rfl (v := .ref (G.2.2.1 + 115)) (rf_11_7 iu_9) dX9_tellOneRow_18 ?_
    refine lv_iconst (v := iv 0) hx hb dX9_tellOneRow_21 (by decide) ?_
    refine lv_bipush (v := iv 13) hx hb dX9_tellOneRow_22 (by decide) ?_
    refine rCopyL Cx hW hL (hml.trans hl.1.symm) w_1087 w_1089 w_1088 w_224 (k0 := qS) (k1 := 115) (lr_l lqS) lqS.1 (by decide) rfl (by decide) (by decide) (by omega) (by omega) (by omega) (by omega) (by omega) (rmk_f (by omega)) (rmk_l (by omega) (by decide)) dX9_tellOneRow_24 (fun H locs hW hL => ?_)
    have F_14 : Fr S (uD u_9 qS 0 115 0 13) pG := F_12.D rfl
    have F_15 : Fr u_9 (uD u_9 qS 0 115 0 13) pRm := (Fr.rf : Fr u_9 u_9 pRm).D rfl
    have i_16 : cX G (uD u_9 qS 0 115 0 13) 0 0 0 := iu_9.D (lr_k lqS)
    refine lv_aload_n hx hb dX9_tellOneRow_27 rfl (lv_at hl 0 rfl) ?_
    have q_17 : (-2147483648) ≤ u_9.1 11 13 ∧ u_9.1 11 13 ≤ 2147483647 := iu_9.fi 11 13 9 (by decide) rfl
    refine g_X9_89 Cx hW (k := 11) (by decide) rfl (v := u_9.1 11 13) uD_f dX9_tellOneRow_28 ?_
    refine lv_istore_n (lv' := [(2, .int (iv (u_9.1 11 13))), (0, .ref (G.2.2.1 + 11)), (1, .int (iv nm))]) hx hb dX9_tellOneRow_31 rfl hl (by decide) rfl (fun ls hl => ?_)
    refine lv_aload_n hx hb dX9_tellOneRow_32 rfl (lv_at hl 1 rfl) ?_
    refine lv_dup hx hb dX9_tellOneRow_33 rfl ?_
    refine g_X9_89 Cx hW (k := 11) (by decide) rfl (v := u_9.1 11 13) uD_f dX9_tellOneRow_34 ?_
    refine lv_iconst (v := iv 1) hx hb dX9_tellOneRow_37 (by decide) ?_
    refine r_iadd hx hb dX9_tellOneRow_38 ?_
    refine p_X9_89 Cx hW hL (k := 11) (by decide) rfl dX9_tellOneRow_39 (fun H locs hW hL => ?_)
    have F_18 : Fr S (uF (uD u_9 qS 0 115 0 13) 11 13 ((u_9.1 11 13) + 1)) pG := F_14.F rfl
    have F_19 : Fr u_9 (uF (uD u_9 qS 0 115 0 13) 11 13 ((u_9.1 11 13) + 1)) pRm := F_15.F rfl
    have F_20 : Fr ((uD u_9 qS 0 115 0 13)) (uF (uD u_9 qS 0 115 0 13) 11 13 ((u_9.1 11 13) + 1)) (pEx 0 0 0) := (Fr.rf : Fr (uD u_9 qS 0 115 0 13) (uD u_9 qS 0 115 0 13) (pEx 0 0 0)).F (pEx_y (by omega))
    have i_21 : cX G (uF (uD u_9 qS 0 115 0 13) 11 13 ((u_9.1 11 13) + 1)) 0 0 0 := i_16.F rfl rfl (show (-2147483648) ≤ (u_9.1 11 13) + 1 ∧ (u_9.1 11 13) + 1 ≤ 2147483647 from ⟨by omega, by omega⟩)
    refine lv_aload_n hx hb dX9_tellOneRow_42 rfl (lv_at hl 1 rfl) ?_
    refine lv_iconst (v := iv 0) hx hb dX9_tellOneRow_43 (by decide) ?_
    have q_22 : 0 ≤ u_9.1 11 9 ∧ u_9.1 11 9 ≤ 128 := iu_9.fi 11 9 9 (by decide) rfl
    have lk_23 : (uF (uD u_9 qS 0 115 0 13) 11 13 ((u_9.1 11 13) + 1)).1 11 9 = u_9.1 11 9 := (uF_ne (fun h => absurd h.2 (by decide))).trans (uD_f)
    have q_24 : 0 ≤ u_9.1 11 10 ∧ u_9.1 11 10 ≤ 8 := iu_9.fi 11 10 9 (by decide) rfl
    have lk_25 : (uF (uD u_9 qS 0 115 0 13) 11 13 ((u_9.1 11 13) + 1)).1 11 10 = u_9.1 11 10 := (uF_ne (fun h => absurd h.2 (by decide))).trans (uD_f)
    have q_26 : 0 ≤ u_9.1 11 11 ∧ u_9.1 11 11 ≤ 12 := iu_9.fi 11 11 9 (by decide) rfl
    have lk_27 : (uF (uD u_9 qS 0 115 0 13) 11 13 ((u_9.1 11 13) + 1)).1 11 11 = u_9.1 11 11 := (uF_ne (fun h => absurd h.2 (by decide))).trans (uD_f)
    have q_28 : (-2147483648) ≤ u_9.1 11 12 ∧ u_9.1 11 12 ≤ 2147483647 := iu_9.fi 11 12 9 (by decide) rfl
    have lk_29 : (uF (uD u_9 qS 0 115 0 13) 11 13 ((u_9.1 11 13) + 1)).1 11 12 = u_9.1 11 12 := (uF_ne (fun h => absurd h.2 (by decide))).trans (uD_f)
    have lk_30 : (uF (uD u_9 qS 0 115 0 13) 11 13 ((u_9.1 11 13) + 1)).1 11 13 = (u_9.1 11 13) + 1 := uF_on
    have q_31 : 0 ≤ u_9.1 11 14 ∧ u_9.1 11 14 ≤ 7 := iu_9.fi 11 14 9 (by decide) rfl
    have lk_32 : (uF (uD u_9 qS 0 115 0 13) 11 13 ((u_9.1 11 13) + 1)).1 11 14 = u_9.1 11 14 := (uF_ne (fun h => absurd h.2 (by decide))).trans (uD_f)
    have lk_33 : (uF (uD u_9 qS 0 115 0 13) 11 13 ((u_9.1 11 13) + 1)).1 o 2 = S.1 o 2 := (uF_ne (fun h => absurd h.2 (by decide))).trans ((uD_f).trans ((fu_9 o (pEx_o (mdl_out hm).2.2)).1 2))
    have lk_34 : (uF (uD u_9 qS 0 115 0 13) 11 13 ((u_9.1 11 13) + 1)).1 o 3 = S.1 o 3 := (uF_ne (fun h => absurd h.2 (by decide))).trans ((uD_f).trans ((fu_9 o (pEx_o (mdl_out hm).2.2)).1 3))
    have nr_35 : NRc N (uF (uD u_9 qS 0 115 0 13) 11 13 ((u_9.1 11 13) + 1)) := n1.of (by omega) (fun j => (F_19 16 rfl).2.2.1 j) (fun j => (F_19 17 rfl).2.1 j) (fun j => (F_19 18 rfl).2.1 j)
    have kv_36 : KV (uF (uD u_9 qS 0 115 0 13) 11 13 ((u_9.1 11 13) + 1)) k v T := hkv.fr F_18 rfl rfl rfl
    refine sBi (sV (As := [.int (iv 0)]) (rest := []) (k := 11) Cx ((telE l G) (uF (uD u_9 qS 0 115 0 13) 11 13 ((u_9.1 11 13) + 1)) N k v T (a1 + 1) b1 30 i_21 ⟨nr_35, hK, hTV, kv_36, (by omega), (by omega), (by omega), ⟨by omega, by omega⟩⟩ (by decide) (by omega) (by omega) hg3) (c_X9_166 Cx rfl rfl (rmk_ok (by omega) (by decide))) hW (by decide) rfl rfl rfl hl.1 rfl (Nat.le_of_ble_eq_true rfl) dX9_tellOneRow_44 ⟨Nat.le_of_ble_eq_true rfl, Nat.le_of_ble_eq_true rfl⟩) hL (fun r_39 u_37 H locs k_38 hW hL => ?_)
    obtain ⟨iu_37, fu_37, xu_37⟩ := k_38
    have yu_37 := xu_37.1.2
    have F_40 := F_18.trans (fu_37.to (fun k h => pV_G k (pEx_V k h)))
    have F_41 := F_20.trans fu_37
    refine r_if_ne (tgt := 52) hx hb ⟨(by omega), (by omega)⟩ dX9_tellOneRow_47 (by decide) (fun c_42 => ?_) (fun c_42 => ?_)
    · obtain ⟨V2, e2, w2, bb2, l2, pp2, f2, n2⟩ := xu_37.2.1 (by omega)
      rw [← hqS] at w2
      have wL : veq (u_37.2.2.1 115) V1 := veq_tr (fun j a b => (F_41 115 (pEx_n (by omega))).2.2.1 j) (veq_cp w1)
      refine lv_aload_n hx hb dX9_tellOneRow_52 rfl (lv_at hl 1 rfl) ?_
      refine g_X9_40 Cx hW (k := 11) (by decide) rfl (v := .ref (G.2.2.1 + 115)) (rf_11_7 iu_37) dX9_tellOneRow_53 ?_
      refine lv_aload_n hx hb dX9_tellOneRow_56 rfl (lv_at hl 1 rfl) ?_
      refine g_X9_31 Cx hW (k := 11) (by decide) rfl (v := .ref (G.2.2.1 + 19)) (rf_11_4 iu_37) dX9_tellOneRow_57 ?_
      refine lv_iconst (v := iv 0) hx hb dX9_tellOneRow_60 (by decide) ?_
      refine rAald Cx hW (k := 19) (by decide) rfl (by decide) (by omega) (by omega) (r2_19f (dn := 0) iu_37 hqS (by omega) (by omega)) dX9_tellOneRow_61 ?_
      refine lv_iconst (v := iv (-1)) hx hb dX9_tellOneRow_62 (by decide) ?_
      refine sBv (sSt (As := [.ref (G.2.2.1 + 115), .ref (G.2.2.1 + qS), .int (iv ((-1)))]) (rest := []) Cx (e_X9_addTo l G u_37 (qa := 115) (qb := qS) (t := (-1)) iu_37 ⟨rfl, by decide, by decide⟩ lqS (by omega) (by omega) (bb1.eq wL).bd (bb2.eq w2).bd) (c_X9_185 Cx rfl rfl (rmk_ok (by omega) (by decide))) hW rfl hl.1 rfl (Nat.le_of_ble_eq_true rfl) dX9_tellOneRow_63 ⟨Nat.le_of_ble_eq_true rfl, Nat.le_of_ble_eq_true rfl⟩) hL (fun u_43 H locs k_44 hW hL => ?_)
      obtain ⟨iu_43, fu_43, xu_43⟩ := k_44
      have F_45 := F_40.trans (fu_43.to (p1_sub rfl))
      have F_46 := (Fr.rf : Fr u_37 u_37 pRm).trans (fu_43.to (p1_sub rfl))
      have wS : veq (u_43.2.2.1 115) (vad V1 V2 (-1)) := veq_tr xu_43 (veq_vad wL w2)
      refine lv_aload_n hx hb dX9_tellOneRow_66 rfl (lv_at hl 1 rfl) ?_
      refine g_X9_40 Cx hW (k := 11) (by decide) rfl (v := .ref (G.2.2.1 + 115)) (rf_11_7 iu_43) dX9_tellOneRow_67 ?_
      refine sBi (sSt (As := [.ref (G.2.2.1 + 115)]) (rest := []) Cx (e_X9_isGreat l G u_43 (qa := 115) iu_43 ⟨rfl, by decide, by decide⟩ (vbd_ad bb1 bb2 (.inr rfl) wS)) (c_X9_189 Cx rfl rfl (rmk_ok (by omega) (by decide))) hW rfl hl.1 rfl (Nat.le_of_ble_eq_true rfl) dX9_tellOneRow_70 ⟨Nat.le_of_ble_eq_true rfl, Nat.le_of_ble_eq_true rfl⟩) hL (fun r_49 u_47 H locs k_48 hW hL => ?_)
      obtain ⟨eu_47, xu_47⟩ := k_48
      rw [eu_47] at hW
      refine r_if_eq (tgt := 84) hx hb ⟨(by omega), (by omega)⟩ dX9_tellOneRow_73 (by decide) (fun c_50 => ?_) (fun c_50 => ?_)
      · have ngr : Hd (¬ grt (vad V1 V2 (-1))) := (fun z => xu_47.2.2 (by omega) ((veq_grt wS).mpr z))
        refine lv_aload_n hx hb dX9_tellOneRow_84 rfl (lv_at hl 1 rfl) ?_
        refine g_X9_14 Cx hW (k := 11) (by decide) rfl (v := .ref (G.2.2.1 + 12)) (rf_11_0 iu_43) dX9_tellOneRow_85 ?_
        refine lv_iload_n hx hb dX9_tellOneRow_88 rfl (lv_at hl 0 rfl) ?_
        refine sBi (sV (As := [.int (iv (u_9.1 11 13))]) (rest := []) (k := 12) Cx (s_X8_kind l G u_43 (k := u_9.1 11 13) iu_43 (by omega)) (c_X9_95 Cx rfl rfl (rmk_ok (by omega) (by decide))) hW (by decide) rfl rfl rfl hl.1 rfl (Nat.le_of_ble_eq_true rfl) dX9_tellOneRow_89 ⟨Nat.le_of_ble_eq_true rfl, Nat.le_of_ble_eq_true rfl⟩) hL (fun r_53 u_51 H locs k_52 hW hL => ?_)
        obtain ⟨eu_51, xu_51⟩ := k_52
        rw [eu_51] at hW
        have kv_54 : KV u_43 k v T := hkv.fr F_45 rfl rfl rfl
        have ka : r_53 = k a1 := (by rw [← kv_54.1]; exact xu_51.1.trans (congrArg (kd _) (by omega)))
        refine lv_istore_n (lv' := [(3, .int (iv r_53)), (2, .int (iv (u_9.1 11 13))), (0, .ref (G.2.2.1 + 11)), (1, .int (iv nm))]) hx hb dX9_tellOneRow_92 rfl hl (by decide) rfl (fun ls hl => ?_)
        refine lv_iload_n hx hb dX9_tellOneRow_93 rfl (lv_at hl 0 rfl) ?_
        refine lv_bipush (v := iv 13) hx hb dX9_tellOneRow_94 (by decide) ?_
        refine r_icmp_ne (tgt := 103) hx hb ⟨(by omega), (by omega)⟩ ⟨(by omega), (by omega)⟩ dX9_tellOneRow_96 (by decide) (fun c_55 => ?_) (fun c_55 => ?_)
        · refine lv_iconst (v := iv 1) hx hb dX9_tellOneRow_103 (by decide) ?_
          refine lv_istore (lv' := [(4, .int (iv 1)), (3, .int (iv r_53)), (2, .int (iv (u_9.1 11 13))), (0, .ref (G.2.2.1 + 11)), (1, .int (iv nm))]) hx hb dX9_tellOneRow_104 hl (by decide) rfl (fun ls hl => ?_)
          refine lv_aload_n hx hb dX9_tellOneRow_106 rfl (lv_at hl 3 rfl) ?_
          refine g_X9_46 Cx hW (k := 11) (by decide) rfl (v := .ref (G.2.2.1 + o)) (((fun i => (((fu_43 11 rfl).2.2.2 i).trans ((xu_37.1.1.1 i).trans (xu_9.1.1.1 i)))) 8).trans hrf) dX9_tellOneRow_107 ?_
          refine g_X9_193 Cx hW (k := o) (mdl_l hm) hm.1 (v := S.1 o 3) (((fu_43 o (p1_no (tau_ne hm.1 (rfl : tau 115 = .inr (.long, 13)) (fun h => by cases h)))).1 3).trans (((fu_37 o (pEx_o (mdl_out hm).2.2)).1 3).trans ((uF_ne (fun h => absurd h.2 (by decide))).trans ((uD_f).trans ((fu_9 o (pEx_o (mdl_out hm).2.2)).1 3))))) dX9_tellOneRow_110 ?_
          refine lv_iload hx hb dX9_tellOneRow_113 (lv_at hl 0 rfl) ?_
          refine r_iadd hx hb dX9_tellOneRow_115 ?_
          refine lv_bipush (v := iv 16) hx hb dX9_tellOneRow_116 (by decide) ?_
          refine r_icmp_le (tgt := 129) hx hb ⟨(by omega), (by omega)⟩ ⟨(by omega), (by omega)⟩ dX9_tellOneRow_118 (by decide) (fun c_56 => ?_) (fun c_56 => ?_)
          · refine lv_iload_n hx hb dX9_tellOneRow_129 rfl (lv_at hl 1 rfl) ?_
            refine lv_bipush (v := iv 26) hx hb dX9_tellOneRow_130 (by decide) ?_
            refine r_icmp_eq (tgt := 147) hx hb ⟨(by omega), (by omega)⟩ ⟨(by omega), (by omega)⟩ dX9_tellOneRow_132 (by decide) (fun c_57 => ?_) (fun c_57 => ?_)
            · refine lv_iload_n hx hb dX9_tellOneRow_147 rfl (lv_at hl 1 rfl) ?_
              refine lv_bipush (v := iv 25) hx hb dX9_tellOneRow_148 (by decide) ?_
              refine r_icmp_eq (tgt := 165) hx hb ⟨(by omega), (by omega)⟩ ⟨(by omega), (by omega)⟩ dX9_tellOneRow_150 (by decide) (fun c_58 => ?_) (fun c_58 => ?_)
              · exfalso; omega
              · refine lv_aload_n hx hb dX9_tellOneRow_153 rfl (lv_at hl 3 rfl) ?_
                refine g_X9_46 Cx hW (k := 11) (by decide) rfl (v := .ref (G.2.2.1 + o)) (((fun i => (((fu_43 11 rfl).2.2.2 i).trans ((xu_37.1.1.1 i).trans (xu_9.1.1.1 i)))) 8).trans hrf) dX9_tellOneRow_154 ?_
                refine lv_aload_n hx hb dX9_tellOneRow_157 rfl (lv_at hl 3 rfl) ?_
                refine g_X9_40 Cx hW (k := 11) (by decide) rfl (v := .ref (G.2.2.1 + 115)) (rf_11_7 iu_43) dX9_tellOneRow_158 ?_
                refine lv_iconst (v := iv (-1)) hx hb dX9_tellOneRow_161 (by decide) ?_
                have lk_59 : u_43.1 o 3 = S.1 o 3 := ((fu_43 o (p1_no (tau_ne hm.1 (rfl : tau 115 = .inr (.long, 13)) (fun h => by cases h)))).1 3).trans (((fu_37 o (pEx_o (mdl_out hm).2.2)).1 3).trans ((uF_ne (fun h => absurd h.2 (by decide))).trans ((uD_f).trans ((fu_9 o (pEx_o (mdl_out hm).2.2)).1 3))))
                have lk_60 : u_43.1 o 2 = S.1 o 2 := ((fu_43 o (p1_no (tau_ne hm.1 (rfl : tau 115 = .inr (.long, 13)) (fun h => by cases h)))).1 2).trans (((fu_37 o (pEx_o (mdl_out hm).2.2)).1 2).trans ((uF_ne (fun h => absurd h.2 (by decide))).trans ((uD_f).trans ((fu_9 o (pEx_o (mdl_out hm).2.2)).1 2))))
                have q_61 : 0 ≤ S.1 o 4 ∧ S.1 o 4 ≤ 1 := hI.fi o 4 3 (mdl_k hm) hm.1
                have lk_62 : u_43.1 o 4 = S.1 o 4 := ((fu_43 o (p1_no (tau_ne hm.1 (rfl : tau 115 = .inr (.long, 13)) (fun h => by cases h)))).1 4).trans (((fu_37 o (pEx_o (mdl_out hm).2.2)).1 4).trans ((uF_ne (fun h => absurd h.2 (by decide))).trans ((uD_f).trans ((fu_9 o (pEx_o (mdl_out hm).2.2)).1 4))))
                refine sBv (sV (As := [.ref (G.2.2.1 + 115), .int (iv ((-1)))]) (rest := []) (k := o) Cx (f_X3_addRow_m l G u_43 (o := o) (q := 115) iu_43 hm ⟨rfl, by decide⟩ (fun j a b => by rw [(show u_43.2.2.1 115 j = u_43.2.2.1 115 j from rfl), wS j a (by omega)]; exact ngr_b ngr j a b) (by omega)) (c_X9_196 Cx rfl rfl (rmk_ok (by omega) (by decide))) hW (mdl_l hm) hm.1 rfl rfl hl.1 rfl (Nat.le_of_ble_eq_true rfl) dX9_tellOneRow_162 ⟨Nat.le_of_ble_eq_true rfl, Nat.le_of_ble_eq_true rfl⟩) hL (fun u_63 H locs k_64 hW hL => ?_)
                obtain ⟨iu_63, fu_63, xu_63⟩ := k_64
                have F_65 := F_45.trans (fu_63.to (pM_sub (mdl_pG hm).1 (mdl_pG hm).2.1 (mdl_pG hm).2.2))
                have F_66 := F_46.trans (fu_63.to (pM_sub (mdl_Rm hm).1 (mdl_Rm hm).2.1 (mdl_Rm hm).2.2))
                refine lv_aload_n hx hb dX9_tellOneRow_165 rfl (lv_at hl 3 rfl) ?_
                refine lv_dup hx hb dX9_tellOneRow_166 rfl ?_
                have q_67 : (-2147483648) ≤ u_37.1 11 13 ∧ u_37.1 11 13 ≤ 2147483647 := iu_37.fi 11 13 9 (by decide) rfl
                refine g_X9_89 Cx hW (k := 11) (by decide) rfl (v := u_37.1 11 13) (((fu_63 11 (pM_no (tau_ne (rfl : tau 11 = .inl 9) hm.1 (fun h => by cases h)) (tau_ne (rfl : tau 11 = .inl 9) hm.2.1 (fun h => by cases h)) (tau_ne (rfl : tau 11 = .inl 9) hm.2.2.1 (fun h => by cases h)))).1 13).trans ((fu_43 11 rfl).1 13)) dX9_tellOneRow_167 ?_
                refine lv_iconst (v := iv 1) hx hb dX9_tellOneRow_170 (by decide) ?_
                refine r_iadd hx hb dX9_tellOneRow_171 ?_
                refine p_X9_89 Cx hW hL (k := 11) (by decide) rfl dX9_tellOneRow_172 (fun H locs hW hL => ?_)
                have F_68 : Fr S (uF u_63 11 13 ((u_37.1 11 13) + 1)) pG := F_65.F rfl
                have F_69 : Fr u_37 (uF u_63 11 13 ((u_37.1 11 13) + 1)) pRm := F_66.F rfl
                have i_70 : cX G (uF u_63 11 13 ((u_37.1 11 13) + 1)) 0 0 0 := iu_63.F rfl rfl (show (-2147483648) ≤ (u_37.1 11 13) + 1 ∧ (u_37.1 11 13) + 1 ≤ 2147483647 from ⟨by omega, by omega⟩)
                refine lv_iconst (v := iv 1) hx hb dX9_tellOneRow_175 (by decide) ?_
                have q_71 : 0 ≤ u_63.1 o 4 ∧ u_63.1 o 4 ≤ 1 := iu_63.fi o 4 3 (mdl_k hm) hm.1
                have lk_72 : (uF u_63 11 13 ((u_37.1 11 13) + 1)).1 o 4 = u_63.1 o 4 := uF_ne (fun h => absurd h.2 (by decide))
                have q_73 : 0 ≤ u_37.1 11 9 ∧ u_37.1 11 9 ≤ 128 := iu_37.fi 11 9 9 (by decide) rfl
                have lk_74 : (uF u_63 11 13 ((u_37.1 11 13) + 1)).1 11 9 = u_37.1 11 9 := (uF_ne (fun h => absurd h.2 (by decide))).trans (((fu_63 11 (pM_no (tau_ne (rfl : tau 11 = .inl 9) hm.1 (fun h => by cases h)) (tau_ne (rfl : tau 11 = .inl 9) hm.2.1 (fun h => by cases h)) (tau_ne (rfl : tau 11 = .inl 9) hm.2.2.1 (fun h => by cases h)))).1 9).trans ((fu_43 11 rfl).1 9))
                have q_75 : 0 ≤ u_37.1 11 10 ∧ u_37.1 11 10 ≤ 8 := iu_37.fi 11 10 9 (by decide) rfl
                have lk_76 : (uF u_63 11 13 ((u_37.1 11 13) + 1)).1 11 10 = u_37.1 11 10 := (uF_ne (fun h => absurd h.2 (by decide))).trans (((fu_63 11 (pM_no (tau_ne (rfl : tau 11 = .inl 9) hm.1 (fun h => by cases h)) (tau_ne (rfl : tau 11 = .inl 9) hm.2.1 (fun h => by cases h)) (tau_ne (rfl : tau 11 = .inl 9) hm.2.2.1 (fun h => by cases h)))).1 10).trans ((fu_43 11 rfl).1 10))
                have q_77 : 0 ≤ u_37.1 11 11 ∧ u_37.1 11 11 ≤ 12 := iu_37.fi 11 11 9 (by decide) rfl
                have lk_78 : (uF u_63 11 13 ((u_37.1 11 13) + 1)).1 11 11 = u_37.1 11 11 := (uF_ne (fun h => absurd h.2 (by decide))).trans (((fu_63 11 (pM_no (tau_ne (rfl : tau 11 = .inl 9) hm.1 (fun h => by cases h)) (tau_ne (rfl : tau 11 = .inl 9) hm.2.1 (fun h => by cases h)) (tau_ne (rfl : tau 11 = .inl 9) hm.2.2.1 (fun h => by cases h)))).1 11).trans ((fu_43 11 rfl).1 11))
                have q_79 : (-2147483648) ≤ u_37.1 11 12 ∧ u_37.1 11 12 ≤ 2147483647 := iu_37.fi 11 12 9 (by decide) rfl
                have lk_80 : (uF u_63 11 13 ((u_37.1 11 13) + 1)).1 11 12 = u_37.1 11 12 := (uF_ne (fun h => absurd h.2 (by decide))).trans (((fu_63 11 (pM_no (tau_ne (rfl : tau 11 = .inl 9) hm.1 (fun h => by cases h)) (tau_ne (rfl : tau 11 = .inl 9) hm.2.1 (fun h => by cases h)) (tau_ne (rfl : tau 11 = .inl 9) hm.2.2.1 (fun h => by cases h)))).1 12).trans ((fu_43 11 rfl).1 12))
                have lk_81 : (uF u_63 11 13 ((u_37.1 11 13) + 1)).1 11 13 = (u_37.1 11 13) + 1 := uF_on
                have q_82 : 0 ≤ u_37.1 11 14 ∧ u_37.1 11 14 ≤ 7 := iu_37.fi 11 14 9 (by decide) rfl
                have lk_83 : (uF u_63 11 13 ((u_37.1 11 13) + 1)).1 11 14 = u_37.1 11 14 := (uF_ne (fun h => absurd h.2 (by decide))).trans (((fu_63 11 (pM_no (tau_ne (rfl : tau 11 = .inl 9) hm.1 (fun h => by cases h)) (tau_ne (rfl : tau 11 = .inl 9) hm.2.1 (fun h => by cases h)) (tau_ne (rfl : tau 11 = .inl 9) hm.2.2.1 (fun h => by cases h)))).1 14).trans ((fu_43 11 rfl).1 14))
                have q_84 : 0 ≤ u_63.1 o 2 ∧ u_63.1 o 2 ≤ 12 := iu_63.fi o 2 3 (mdl_k hm) hm.1
                have lk_85 : (uF u_63 11 13 ((u_37.1 11 13) + 1)).1 o 2 = u_63.1 o 2 := uF_ne (fun h => absurd h.2 (by decide))
                have q_86 : 0 ≤ u_63.1 o 3 ∧ u_63.1 o 3 ≤ 16 := iu_63.fi o 3 3 (mdl_k hm) hm.1
                have lk_87 : (uF u_63 11 13 ((u_37.1 11 13) + 1)).1 o 3 = u_63.1 o 3 := uF_ne (fun h => absurd h.2 (by decide))
                have nr_88 : NRc N (uF u_63 11 13 ((u_37.1 11 13) + 1)) := n2.of (by omega) (fun j => (F_69 16 rfl).2.2.1 j) (fun j => (F_69 17 rfl).2.1 j) (fun j => (F_69 18 rfl).2.1 j)
                exact sZret Cx hr hlk hW hL (by omega) ⟨i_70, F_68, ⟨⟨⟨⟨(fun i => (((fu_63 11 (pM_no (tau_ne (rfl : tau 11 = .inl 9) hm.1 (fun h => by cases h)) (tau_ne (rfl : tau 11 = .inl 9) hm.2.1 (fun h => by cases h)) (tau_ne (rfl : tau 11 = .inl 9) hm.2.2.1 (fun h => by cases h)))).2.2.2 i).trans (((fu_43 11 rfl).2.2.2 i).trans ((xu_37.1.1.1 i).trans (xu_9.1.1.1 i))))), (fun h => absurd h (by decide))⟩, by omega, by omega, by omega, by omega, by omega⟩, (fun _ => ⟨(by rw [eRo_4 e1 (by rw [show (uF (uD u_9 qS 0 115 0 13) 11 13 ((u_9.1 11 13) + 1)).1 11 12 = u_9.1 11 12 by omega] at e2; exact e2) ngr (by rw [(show (if k a1 = 13 then (2 : Int) else 1) = 1 from if_neg (by omega))]; omega), (show (if k a1 = 13 then (2 : Int) else 1) = 1 from if_neg (by omega)), show (uF u_63 11 13 ((u_37.1 11 13) + 1)).1 o 3 = S.1 o 3 + 1 by omega, show (uF u_63 11 13 ((u_37.1 11 13) + 1)).1 11 12 = u_37.1 11 12 by omega, show q = b1 + 1 by omega]), ⟨by omega, by omega⟩, ⟨by omega, by omega⟩, (by omega), (by omega), nr_88⟩), (fun h => absurd h (by decide))⟩, ⟨(by omega), ((show (uF u_63 11 13 ((u_37.1 11 13) + 1)).2.1 (o + 2) = u_63.2.1 (o + 2) from funext fun x => uF_a).trans ((show u_63.2.1 (o + 2) = u_43.2.1 (o + 2) from xu_63.2.2.2.1).trans ((show u_43.2.1 (o + 2) = u_37.2.1 (o + 2) from funext fun x => (fu_43 (o + 2) (p1_no (tau_ne hm.2.2.1 (rfl : tau 115 = .inr (.long, 13)) (fun h => by cases h)))).2.1 x).trans ((show u_37.2.1 (o + 2) = (uF (uD u_9 qS 0 115 0 13) 11 13 ((u_9.1 11 13) + 1)).2.1 (o + 2) from funext fun x => (fu_37 (o + 2) (pEx_o (mdl_out2 hm).2.2)).2.1 x).trans ((show (uF (uD u_9 qS 0 115 0 13) 11 13 ((u_9.1 11 13) + 1)).2.1 (o + 2) = (uD u_9 qS 0 115 0 13).2.1 (o + 2) from funext fun x => uF_a).trans ((show (uD u_9 qS 0 115 0 13).2.1 (o + 2) = u_9.2.1 (o + 2) from funext fun x => uD_a).trans (show u_9.2.1 (o + 2) = S.2.1 (o + 2) from funext fun x => (fu_9 (o + 2) (pEx_o (mdl_out2 hm).2.2)).2.1 x)))))))⟩, (fun _ X hX => by have hb0 := (XAc.of (S := S) (u := u_43) hX (((fu_43 o (p1_no (tau_ne hm.1 (rfl : tau 115 = .inr (.long, 13)) (fun h => by cases h)))).1 2).trans (((fu_37 o (pEx_o (mdl_out hm).2.2)).1 2).trans ((uF_ne (fun h => absurd h.2 (by decide))).trans ((uD_f).trans ((fu_9 o (pEx_o (mdl_out hm).2.2)).1 2))))) (((fu_43 o (p1_no (tau_ne hm.1 (rfl : tau 115 = .inr (.long, 13)) (fun h => by cases h)))).1 3).trans (((fu_37 o (pEx_o (mdl_out hm).2.2)).1 3).trans ((uF_ne (fun h => absurd h.2 (by decide))).trans ((uD_f).trans ((fu_9 o (pEx_o (mdl_out hm).2.2)).1 3))))) (funext fun x => ((fu_43 (o + 1) (p1_no (tau_ne hm.2.1 (rfl : tau 115 = .inr (.long, 13)) (fun h => by cases h)))).2.1 x).trans (((fu_37 (o + 1) (pEx_o (mdl_out1 hm).2.2)).2.1 x).trans ((uF_a).trans ((uD_a).trans ((fu_9 (o + 1) (pEx_o (mdl_out1 hm).2.2)).2.1 x))))) (funext fun x => ((fu_43 (o + 2) (p1_no (tau_ne hm.2.2.1 (rfl : tau 115 = .inr (.long, 13)) (fun h => by cases h)))).2.1 x).trans (((fu_37 (o + 2) (pEx_o (mdl_out2 hm).2.2)).2.1 x).trans ((uF_a).trans ((uD_a).trans ((fu_9 (o + 2) (pEx_o (mdl_out2 hm).2.2)).2.1 x)))))); have hu0 : XAc u_63 o 1 (upA (X.1) (S.1 o 3 + 1) (lin (vad V1 V2 (-1)) ((-1))), X.2) := (by have y := XAc.row (A := X.1) (wh := X.2) (d := (vad V1 V2 (-1))) (f := u_43.2.2.1 115) (t := (-1)) hb0 (by omega) (by omega) (by omega) xu_63.2.2.2.1 (fun j a b => (show u_43.2.2.1 115 j = u_43.2.2.1 115 j from rfl).trans (wS j a (by omega))) xu_63.2.2.2.2.1 xu_63.2.2.2.2.2; rw [show u_43.1 o 3 = S.1 o 3 by omega] at y; exact y); rw [aRo_e (A := X.1) (m := S.1 o 3) e1 (by rw [show (uF (uD u_9 qS 0 115 0 13) 11 13 ((u_9.1 11 13) + 1)).1 11 12 = u_9.1 11 12 by omega] at e2; exact e2)]; unfold rwA; show XAc _ o 1 ((if k a1 = 13 then _ else if k a1 = 26 then _ else _), X.2); rw [if_neg (by omega), if_pos (by omega)]; exact (XAc.of (S := u_63) (u := (uF u_63 11 13 ((u_37.1 11 13) + 1))) hu0 (uF_ne (fun h => absurd h.2 (by decide))) (uF_ne (fun h => absurd h.2 (by decide))) (funext fun x => uF_a) (funext fun x => uF_a))), (show OTc S (uF u_63 11 13 ((u_37.1 11 13) + 1)) y from ⟨((uF_ne (fun h => absurd h.2 (by decide))).trans (((fu_63 y (pM_no (neD hny) (tau_ne hmy.1 hm.2.1 (fun h => by cases h)) (tau_ne hmy.1 hm.2.2.1 (fun h => by cases h)))).1 2).trans (((fu_43 y (p1_no (tau_ne hmy.1 (rfl : tau 115 = .inr (.long, 13)) (fun h => by cases h)))).1 2).trans (((fu_37 y (pEx_o (mdl_out hmy).2.2)).1 2).trans ((uF_ne (fun h => absurd h.2 (by decide))).trans ((uD_f).trans ((fu_9 y (pEx_o (mdl_out hmy).2.2)).1 2))))))), ((uF_ne (fun h => absurd h.2 (by decide))).trans (((fu_63 y (pM_no (neD hny) (tau_ne hmy.1 hm.2.1 (fun h => by cases h)) (tau_ne hmy.1 hm.2.2.1 (fun h => by cases h)))).1 3).trans (((fu_43 y (p1_no (tau_ne hmy.1 (rfl : tau 115 = .inr (.long, 13)) (fun h => by cases h)))).1 3).trans (((fu_37 y (pEx_o (mdl_out hmy).2.2)).1 3).trans ((uF_ne (fun h => absurd h.2 (by decide))).trans ((uD_f).trans ((fu_9 y (pEx_o (mdl_out hmy).2.2)).1 3))))))), ((uF_ne (fun h => absurd h.2 (by decide))).trans (((fu_63 y (pM_no (neD hny) (tau_ne hmy.1 hm.2.1 (fun h => by cases h)) (tau_ne hmy.1 hm.2.2.1 (fun h => by cases h)))).1 4).trans (((fu_43 y (p1_no (tau_ne hmy.1 (rfl : tau 115 = .inr (.long, 13)) (fun h => by cases h)))).1 4).trans (((fu_37 y (pEx_o (mdl_out hmy).2.2)).1 4).trans ((uF_ne (fun h => absurd h.2 (by decide))).trans ((uD_f).trans ((fu_9 y (pEx_o (mdl_out hmy).2.2)).1 4))))))), (funext fun x => (uF_a).trans (((fu_63 (y + 2) (pM_no (tau_ne hmy.2.2.1 hm.1 (fun h => by cases h)) (tau_ne hmy.2.2.1 hm.2.1 (fun h => by cases h)) (by omega))).2.1 x).trans (((fu_43 (y + 2) (p1_no (tau_ne hmy.2.2.1 (rfl : tau 115 = .inr (.long, 13)) (fun h => by cases h)))).2.1 x).trans (((fu_37 (y + 2) (pEx_o (mdl_out2 hmy).2.2)).2.1 x).trans ((uF_a).trans ((uD_a).trans ((fu_9 (y + 2) (pEx_o (mdl_out2 hmy).2.2)).2.1 x))))))), (funext fun x => (uF_a).trans (((fu_63 (y + 1) (pM_no (tau_ne hmy.2.1 hm.1 (fun h => by cases h)) (ne1 hny) (tau_ne hmy.2.1 hm.2.2.1 (fun h => by cases h)))).2.1 x).trans (((fu_43 (y + 1) (p1_no (tau_ne hmy.2.1 (rfl : tau 115 = .inr (.long, 13)) (fun h => by cases h)))).2.1 x).trans (((fu_37 (y + 1) (pEx_o (mdl_out1 hmy).2.2)).2.1 x).trans ((uF_a).trans ((uD_a).trans ((fu_9 (y + 1) (pEx_o (mdl_out1 hmy).2.2)).2.1 x)))))))⟩)⟩⟩ dX9_tellOneRow_176
            · refine lv_aload_n hx hb dX9_tellOneRow_135 rfl (lv_at hl 3 rfl) ?_
              refine g_X9_46 Cx hW (k := 11) (by decide) rfl (v := .ref (G.2.2.1 + o)) (((fun i => (((fu_43 11 rfl).2.2.2 i).trans ((xu_37.1.1.1 i).trans (xu_9.1.1.1 i)))) 8).trans hrf) dX9_tellOneRow_136 ?_
              refine lv_aload_n hx hb dX9_tellOneRow_139 rfl (lv_at hl 3 rfl) ?_
              refine g_X9_40 Cx hW (k := 11) (by decide) rfl (v := .ref (G.2.2.1 + 115)) (rf_11_7 iu_43) dX9_tellOneRow_140 ?_
              refine lv_iconst (v := iv 1) hx hb dX9_tellOneRow_143 (by decide) ?_
              have lk_89 : u_43.1 o 3 = S.1 o 3 := ((fu_43 o (p1_no (tau_ne hm.1 (rfl : tau 115 = .inr (.long, 13)) (fun h => by cases h)))).1 3).trans (((fu_37 o (pEx_o (mdl_out hm).2.2)).1 3).trans ((uF_ne (fun h => absurd h.2 (by decide))).trans ((uD_f).trans ((fu_9 o (pEx_o (mdl_out hm).2.2)).1 3))))
              have lk_90 : u_43.1 o 2 = S.1 o 2 := ((fu_43 o (p1_no (tau_ne hm.1 (rfl : tau 115 = .inr (.long, 13)) (fun h => by cases h)))).1 2).trans (((fu_37 o (pEx_o (mdl_out hm).2.2)).1 2).trans ((uF_ne (fun h => absurd h.2 (by decide))).trans ((uD_f).trans ((fu_9 o (pEx_o (mdl_out hm).2.2)).1 2))))
              have q_91 : 0 ≤ S.1 o 4 ∧ S.1 o 4 ≤ 1 := hI.fi o 4 3 (mdl_k hm) hm.1
              have lk_92 : u_43.1 o 4 = S.1 o 4 := ((fu_43 o (p1_no (tau_ne hm.1 (rfl : tau 115 = .inr (.long, 13)) (fun h => by cases h)))).1 4).trans (((fu_37 o (pEx_o (mdl_out hm).2.2)).1 4).trans ((uF_ne (fun h => absurd h.2 (by decide))).trans ((uD_f).trans ((fu_9 o (pEx_o (mdl_out hm).2.2)).1 4))))
              refine sBv (sV (As := [.ref (G.2.2.1 + 115), .int (iv 1)]) (rest := []) (k := o) Cx (f_X3_addRow_1 l G u_43 (o := o) (q := 115) iu_43 hm ⟨rfl, by decide⟩ (fun j a b => by rw [(show u_43.2.2.1 115 j = u_43.2.2.1 115 j from rfl), wS j a (by omega)]; exact ngr_b ngr j a b) (by omega)) (c_X9_196 Cx rfl rfl (rmk_ok (by omega) (by decide))) hW (mdl_l hm) hm.1 rfl rfl hl.1 rfl (Nat.le_of_ble_eq_true rfl) dX9_tellOneRow_144 ⟨Nat.le_of_ble_eq_true rfl, Nat.le_of_ble_eq_true rfl⟩) hL (fun u_93 H locs k_94 hW hL => ?_)
              obtain ⟨iu_93, fu_93, xu_93⟩ := k_94
              have F_95 := F_45.trans (fu_93.to (pM_sub (mdl_pG hm).1 (mdl_pG hm).2.1 (mdl_pG hm).2.2))
              have F_96 := F_46.trans (fu_93.to (pM_sub (mdl_Rm hm).1 (mdl_Rm hm).2.1 (mdl_Rm hm).2.2))
              refine lv_iload_n hx hb dX9_tellOneRow_147 rfl (lv_at hl 1 rfl) ?_
              refine lv_bipush (v := iv 25) hx hb dX9_tellOneRow_148 (by decide) ?_
              refine r_icmp_eq (tgt := 165) hx hb ⟨(by omega), (by omega)⟩ ⟨(by omega), (by omega)⟩ dX9_tellOneRow_150 (by decide) (fun c_97 => ?_) (fun c_97 => ?_)
              · refine lv_aload_n hx hb dX9_tellOneRow_165 rfl (lv_at hl 3 rfl) ?_
                refine lv_dup hx hb dX9_tellOneRow_166 rfl ?_
                have q_98 : (-2147483648) ≤ u_37.1 11 13 ∧ u_37.1 11 13 ≤ 2147483647 := iu_37.fi 11 13 9 (by decide) rfl
                refine g_X9_89 Cx hW (k := 11) (by decide) rfl (v := u_37.1 11 13) (((fu_93 11 (pM_no (tau_ne (rfl : tau 11 = .inl 9) hm.1 (fun h => by cases h)) (tau_ne (rfl : tau 11 = .inl 9) hm.2.1 (fun h => by cases h)) (tau_ne (rfl : tau 11 = .inl 9) hm.2.2.1 (fun h => by cases h)))).1 13).trans ((fu_43 11 rfl).1 13)) dX9_tellOneRow_167 ?_
                refine lv_iconst (v := iv 1) hx hb dX9_tellOneRow_170 (by decide) ?_
                refine r_iadd hx hb dX9_tellOneRow_171 ?_
                refine p_X9_89 Cx hW hL (k := 11) (by decide) rfl dX9_tellOneRow_172 (fun H locs hW hL => ?_)
                have F_99 : Fr S (uF u_93 11 13 ((u_37.1 11 13) + 1)) pG := F_95.F rfl
                have F_100 : Fr u_37 (uF u_93 11 13 ((u_37.1 11 13) + 1)) pRm := F_96.F rfl
                have i_101 : cX G (uF u_93 11 13 ((u_37.1 11 13) + 1)) 0 0 0 := iu_93.F rfl rfl (show (-2147483648) ≤ (u_37.1 11 13) + 1 ∧ (u_37.1 11 13) + 1 ≤ 2147483647 from ⟨by omega, by omega⟩)
                refine lv_iconst (v := iv 1) hx hb dX9_tellOneRow_175 (by decide) ?_
                have q_102 : 0 ≤ u_93.1 o 4 ∧ u_93.1 o 4 ≤ 1 := iu_93.fi o 4 3 (mdl_k hm) hm.1
                have lk_103 : (uF u_93 11 13 ((u_37.1 11 13) + 1)).1 o 4 = u_93.1 o 4 := uF_ne (fun h => absurd h.2 (by decide))
                have q_104 : 0 ≤ u_37.1 11 9 ∧ u_37.1 11 9 ≤ 128 := iu_37.fi 11 9 9 (by decide) rfl
                have lk_105 : (uF u_93 11 13 ((u_37.1 11 13) + 1)).1 11 9 = u_37.1 11 9 := (uF_ne (fun h => absurd h.2 (by decide))).trans (((fu_93 11 (pM_no (tau_ne (rfl : tau 11 = .inl 9) hm.1 (fun h => by cases h)) (tau_ne (rfl : tau 11 = .inl 9) hm.2.1 (fun h => by cases h)) (tau_ne (rfl : tau 11 = .inl 9) hm.2.2.1 (fun h => by cases h)))).1 9).trans ((fu_43 11 rfl).1 9))
                have q_106 : 0 ≤ u_37.1 11 10 ∧ u_37.1 11 10 ≤ 8 := iu_37.fi 11 10 9 (by decide) rfl
                have lk_107 : (uF u_93 11 13 ((u_37.1 11 13) + 1)).1 11 10 = u_37.1 11 10 := (uF_ne (fun h => absurd h.2 (by decide))).trans (((fu_93 11 (pM_no (tau_ne (rfl : tau 11 = .inl 9) hm.1 (fun h => by cases h)) (tau_ne (rfl : tau 11 = .inl 9) hm.2.1 (fun h => by cases h)) (tau_ne (rfl : tau 11 = .inl 9) hm.2.2.1 (fun h => by cases h)))).1 10).trans ((fu_43 11 rfl).1 10))
                have q_108 : 0 ≤ u_37.1 11 11 ∧ u_37.1 11 11 ≤ 12 := iu_37.fi 11 11 9 (by decide) rfl
                have lk_109 : (uF u_93 11 13 ((u_37.1 11 13) + 1)).1 11 11 = u_37.1 11 11 := (uF_ne (fun h => absurd h.2 (by decide))).trans (((fu_93 11 (pM_no (tau_ne (rfl : tau 11 = .inl 9) hm.1 (fun h => by cases h)) (tau_ne (rfl : tau 11 = .inl 9) hm.2.1 (fun h => by cases h)) (tau_ne (rfl : tau 11 = .inl 9) hm.2.2.1 (fun h => by cases h)))).1 11).trans ((fu_43 11 rfl).1 11))
                have q_110 : (-2147483648) ≤ u_37.1 11 12 ∧ u_37.1 11 12 ≤ 2147483647 := iu_37.fi 11 12 9 (by decide) rfl
                have lk_111 : (uF u_93 11 13 ((u_37.1 11 13) + 1)).1 11 12 = u_37.1 11 12 := (uF_ne (fun h => absurd h.2 (by decide))).trans (((fu_93 11 (pM_no (tau_ne (rfl : tau 11 = .inl 9) hm.1 (fun h => by cases h)) (tau_ne (rfl : tau 11 = .inl 9) hm.2.1 (fun h => by cases h)) (tau_ne (rfl : tau 11 = .inl 9) hm.2.2.1 (fun h => by cases h)))).1 12).trans ((fu_43 11 rfl).1 12))
                have lk_112 : (uF u_93 11 13 ((u_37.1 11 13) + 1)).1 11 13 = (u_37.1 11 13) + 1 := uF_on
                have q_113 : 0 ≤ u_37.1 11 14 ∧ u_37.1 11 14 ≤ 7 := iu_37.fi 11 14 9 (by decide) rfl
                have lk_114 : (uF u_93 11 13 ((u_37.1 11 13) + 1)).1 11 14 = u_37.1 11 14 := (uF_ne (fun h => absurd h.2 (by decide))).trans (((fu_93 11 (pM_no (tau_ne (rfl : tau 11 = .inl 9) hm.1 (fun h => by cases h)) (tau_ne (rfl : tau 11 = .inl 9) hm.2.1 (fun h => by cases h)) (tau_ne (rfl : tau 11 = .inl 9) hm.2.2.1 (fun h => by cases h)))).1 14).trans ((fu_43 11 rfl).1 14))
                have q_115 : 0 ≤ u_93.1 o 2 ∧ u_93.1 o 2 ≤ 12 := iu_93.fi o 2 3 (mdl_k hm) hm.1
                have lk_116 : (uF u_93 11 13 ((u_37.1 11 13) + 1)).1 o 2 = u_93.1 o 2 := uF_ne (fun h => absurd h.2 (by decide))
                have q_117 : 0 ≤ u_93.1 o 3 ∧ u_93.1 o 3 ≤ 16 := iu_93.fi o 3 3 (mdl_k hm) hm.1
                have lk_118 : (uF u_93 11 13 ((u_37.1 11 13) + 1)).1 o 3 = u_93.1 o 3 := uF_ne (fun h => absurd h.2 (by decide))
                have nr_119 : NRc N (uF u_93 11 13 ((u_37.1 11 13) + 1)) := n2.of (by omega) (fun j => (F_100 16 rfl).2.2.1 j) (fun j => (F_100 17 rfl).2.1 j) (fun j => (F_100 18 rfl).2.1 j)
                exact sZret Cx hr hlk hW hL (by omega) ⟨i_101, F_99, ⟨⟨⟨⟨(fun i => (((fu_93 11 (pM_no (tau_ne (rfl : tau 11 = .inl 9) hm.1 (fun h => by cases h)) (tau_ne (rfl : tau 11 = .inl 9) hm.2.1 (fun h => by cases h)) (tau_ne (rfl : tau 11 = .inl 9) hm.2.2.1 (fun h => by cases h)))).2.2.2 i).trans (((fu_43 11 rfl).2.2.2 i).trans ((xu_37.1.1.1 i).trans (xu_9.1.1.1 i))))), (fun h => absurd h (by decide))⟩, by omega, by omega, by omega, by omega, by omega⟩, (fun _ => ⟨(by rw [eRo_4 e1 (by rw [show (uF (uD u_9 qS 0 115 0 13) 11 13 ((u_9.1 11 13) + 1)).1 11 12 = u_9.1 11 12 by omega] at e2; exact e2) ngr (by rw [(show (if k a1 = 13 then (2 : Int) else 1) = 1 from if_neg (by omega))]; omega), (show (if k a1 = 13 then (2 : Int) else 1) = 1 from if_neg (by omega)), show (uF u_93 11 13 ((u_37.1 11 13) + 1)).1 o 3 = S.1 o 3 + 1 by omega, show (uF u_93 11 13 ((u_37.1 11 13) + 1)).1 11 12 = u_37.1 11 12 by omega, show q = b1 + 1 by omega]), ⟨by omega, by omega⟩, ⟨by omega, by omega⟩, (by omega), (by omega), nr_119⟩), (fun h => absurd h (by decide))⟩, ⟨(by omega), ((show (uF u_93 11 13 ((u_37.1 11 13) + 1)).2.1 (o + 2) = u_93.2.1 (o + 2) from funext fun x => uF_a).trans ((show u_93.2.1 (o + 2) = u_43.2.1 (o + 2) from xu_93.2.2.2.1).trans ((show u_43.2.1 (o + 2) = u_37.2.1 (o + 2) from funext fun x => (fu_43 (o + 2) (p1_no (tau_ne hm.2.2.1 (rfl : tau 115 = .inr (.long, 13)) (fun h => by cases h)))).2.1 x).trans ((show u_37.2.1 (o + 2) = (uF (uD u_9 qS 0 115 0 13) 11 13 ((u_9.1 11 13) + 1)).2.1 (o + 2) from funext fun x => (fu_37 (o + 2) (pEx_o (mdl_out2 hm).2.2)).2.1 x).trans ((show (uF (uD u_9 qS 0 115 0 13) 11 13 ((u_9.1 11 13) + 1)).2.1 (o + 2) = (uD u_9 qS 0 115 0 13).2.1 (o + 2) from funext fun x => uF_a).trans ((show (uD u_9 qS 0 115 0 13).2.1 (o + 2) = u_9.2.1 (o + 2) from funext fun x => uD_a).trans (show u_9.2.1 (o + 2) = S.2.1 (o + 2) from funext fun x => (fu_9 (o + 2) (pEx_o (mdl_out2 hm).2.2)).2.1 x)))))))⟩, (fun _ X hX => by have hb0 := (XAc.of (S := S) (u := u_43) hX (((fu_43 o (p1_no (tau_ne hm.1 (rfl : tau 115 = .inr (.long, 13)) (fun h => by cases h)))).1 2).trans (((fu_37 o (pEx_o (mdl_out hm).2.2)).1 2).trans ((uF_ne (fun h => absurd h.2 (by decide))).trans ((uD_f).trans ((fu_9 o (pEx_o (mdl_out hm).2.2)).1 2))))) (((fu_43 o (p1_no (tau_ne hm.1 (rfl : tau 115 = .inr (.long, 13)) (fun h => by cases h)))).1 3).trans (((fu_37 o (pEx_o (mdl_out hm).2.2)).1 3).trans ((uF_ne (fun h => absurd h.2 (by decide))).trans ((uD_f).trans ((fu_9 o (pEx_o (mdl_out hm).2.2)).1 3))))) (funext fun x => ((fu_43 (o + 1) (p1_no (tau_ne hm.2.1 (rfl : tau 115 = .inr (.long, 13)) (fun h => by cases h)))).2.1 x).trans (((fu_37 (o + 1) (pEx_o (mdl_out1 hm).2.2)).2.1 x).trans ((uF_a).trans ((uD_a).trans ((fu_9 (o + 1) (pEx_o (mdl_out1 hm).2.2)).2.1 x))))) (funext fun x => ((fu_43 (o + 2) (p1_no (tau_ne hm.2.2.1 (rfl : tau 115 = .inr (.long, 13)) (fun h => by cases h)))).2.1 x).trans (((fu_37 (o + 2) (pEx_o (mdl_out2 hm).2.2)).2.1 x).trans ((uF_a).trans ((uD_a).trans ((fu_9 (o + 2) (pEx_o (mdl_out2 hm).2.2)).2.1 x)))))); have hu0 : XAc u_93 o 1 (upA (X.1) (S.1 o 3 + 1) (lin (vad V1 V2 (-1)) (1)), X.2) := (by have y := XAc.row (A := X.1) (wh := X.2) (d := (vad V1 V2 (-1))) (f := u_43.2.2.1 115) (t := 1) hb0 (by omega) (by omega) (by omega) xu_93.2.2.2.1 (fun j a b => (show u_43.2.2.1 115 j = u_43.2.2.1 115 j from rfl).trans (wS j a (by omega))) xu_93.2.2.2.2.1 xu_93.2.2.2.2.2; rw [show u_43.1 o 3 = S.1 o 3 by omega] at y; exact y); rw [aRo_e (A := X.1) (m := S.1 o 3) e1 (by rw [show (uF (uD u_9 qS 0 115 0 13) 11 13 ((u_9.1 11 13) + 1)).1 11 12 = u_9.1 11 12 by omega] at e2; exact e2)]; unfold rwA; show XAc _ o 1 ((if k a1 = 13 then _ else if k a1 = 26 then _ else _), X.2); rw [if_neg (by omega), if_neg (by omega)]; exact (XAc.of (S := u_93) (u := (uF u_93 11 13 ((u_37.1 11 13) + 1))) hu0 (uF_ne (fun h => absurd h.2 (by decide))) (uF_ne (fun h => absurd h.2 (by decide))) (funext fun x => uF_a) (funext fun x => uF_a))), (show OTc S (uF u_93 11 13 ((u_37.1 11 13) + 1)) y from ⟨((uF_ne (fun h => absurd h.2 (by decide))).trans (((fu_93 y (pM_no (neD hny) (tau_ne hmy.1 hm.2.1 (fun h => by cases h)) (tau_ne hmy.1 hm.2.2.1 (fun h => by cases h)))).1 2).trans (((fu_43 y (p1_no (tau_ne hmy.1 (rfl : tau 115 = .inr (.long, 13)) (fun h => by cases h)))).1 2).trans (((fu_37 y (pEx_o (mdl_out hmy).2.2)).1 2).trans ((uF_ne (fun h => absurd h.2 (by decide))).trans ((uD_f).trans ((fu_9 y (pEx_o (mdl_out hmy).2.2)).1 2))))))), ((uF_ne (fun h => absurd h.2 (by decide))).trans (((fu_93 y (pM_no (neD hny) (tau_ne hmy.1 hm.2.1 (fun h => by cases h)) (tau_ne hmy.1 hm.2.2.1 (fun h => by cases h)))).1 3).trans (((fu_43 y (p1_no (tau_ne hmy.1 (rfl : tau 115 = .inr (.long, 13)) (fun h => by cases h)))).1 3).trans (((fu_37 y (pEx_o (mdl_out hmy).2.2)).1 3).trans ((uF_ne (fun h => absurd h.2 (by decide))).trans ((uD_f).trans ((fu_9 y (pEx_o (mdl_out hmy).2.2)).1 3))))))), ((uF_ne (fun h => absurd h.2 (by decide))).trans (((fu_93 y (pM_no (neD hny) (tau_ne hmy.1 hm.2.1 (fun h => by cases h)) (tau_ne hmy.1 hm.2.2.1 (fun h => by cases h)))).1 4).trans (((fu_43 y (p1_no (tau_ne hmy.1 (rfl : tau 115 = .inr (.long, 13)) (fun h => by cases h)))).1 4).trans (((fu_37 y (pEx_o (mdl_out hmy).2.2)).1 4).trans ((uF_ne (fun h => absurd h.2 (by decide))).trans ((uD_f).trans ((fu_9 y (pEx_o (mdl_out hmy).2.2)).1 4))))))), (funext fun x => (uF_a).trans (((fu_93 (y + 2) (pM_no (tau_ne hmy.2.2.1 hm.1 (fun h => by cases h)) (tau_ne hmy.2.2.1 hm.2.1 (fun h => by cases h)) (by omega))).2.1 x).trans (((fu_43 (y + 2) (p1_no (tau_ne hmy.2.2.1 (rfl : tau 115 = .inr (.long, 13)) (fun h => by cases h)))).2.1 x).trans (((fu_37 (y + 2) (pEx_o (mdl_out2 hmy).2.2)).2.1 x).trans ((uF_a).trans ((uD_a).trans ((fu_9 (y + 2) (pEx_o (mdl_out2 hmy).2.2)).2.1 x))))))), (funext fun x => (uF_a).trans (((fu_93 (y + 1) (pM_no (tau_ne hmy.2.1 hm.1 (fun h => by cases h)) (ne1 hny) (tau_ne hmy.2.1 hm.2.2.1 (fun h => by cases h)))).2.1 x).trans (((fu_43 (y + 1) (p1_no (tau_ne hmy.2.1 (rfl : tau 115 = .inr (.long, 13)) (fun h => by cases h)))).2.1 x).trans (((fu_37 (y + 1) (pEx_o (mdl_out1 hmy).2.2)).2.1 x).trans ((uF_a).trans ((uD_a).trans ((fu_9 (y + 1) (pEx_o (mdl_out1 hmy).2.2)).2.1 x)))))))⟩)⟩⟩ dX9_tellOneRow_176
              · exfalso; rcases hg2 with z | z | z <;> omega
          · refine lv_aload_n hx hb dX9_tellOneRow_121 rfl (lv_at hl 3 rfl) ?_
            refine lv_bipush (v := iv 7) hx hb dX9_tellOneRow_122 (by decide) ?_
            refine lv_iload_n hx hb dX9_tellOneRow_124 rfl (lv_at hl 4 rfl) ?_
            have q_120 : (-2147483648) ≤ u_37.1 11 13 ∧ u_37.1 11 13 ≤ 2147483647 := iu_37.fi 11 13 9 (by decide) rfl
            have lk_121 : u_43.1 11 13 = u_37.1 11 13 := (fu_43 11 rfl).1 13
            have q_122 : 0 ≤ u_37.1 11 9 ∧ u_37.1 11 9 ≤ 128 := iu_37.fi 11 9 9 (by decide) rfl
            have lk_123 : u_43.1 11 9 = u_37.1 11 9 := (fu_43 11 rfl).1 9
            have q_124 : 0 ≤ u_37.1 11 10 ∧ u_37.1 11 10 ≤ 8 := iu_37.fi 11 10 9 (by decide) rfl
            have lk_125 : u_43.1 11 10 = u_37.1 11 10 := (fu_43 11 rfl).1 10
            have q_126 : 0 ≤ u_37.1 11 11 ∧ u_37.1 11 11 ≤ 12 := iu_37.fi 11 11 9 (by decide) rfl
            have lk_127 : u_43.1 11 11 = u_37.1 11 11 := (fu_43 11 rfl).1 11
            have q_128 : (-2147483648) ≤ u_37.1 11 12 ∧ u_37.1 11 12 ≤ 2147483647 := iu_37.fi 11 12 9 (by decide) rfl
            have lk_129 : u_43.1 11 12 = u_37.1 11 12 := (fu_43 11 rfl).1 12
            refine sBi (sV (As := [.int (iv 7), .int (iv nm)]) (rest := []) (k := 11) Cx (e_X9_fail l G u_43 (k := 7) (tk := nm) iu_43 (by omega) (by omega)) (c_X9_132 Cx rfl rfl (rmk_ok (by omega) (by decide))) hW (by decide) rfl rfl rfl hl.1 rfl (Nat.le_of_ble_eq_true rfl) dX9_tellOneRow_125 ⟨Nat.le_of_ble_eq_true rfl, Nat.le_of_ble_eq_true rfl⟩) hL (fun r_132 u_130 H locs k_131 hW hL => ?_)
            obtain ⟨iu_130, fu_130, xu_130⟩ := k_131
            have F_133 := F_45.trans (fu_130.to (fun k h => pV_G k ((fun k h => pU_V k ((fun k h => pT_U k (p11_T k h)) k h)) k h)))
            have F_134 := F_46.trans (fu_130.to (p1_sub rfl))
            have q_135 : 0 ≤ S.1 o 4 ∧ S.1 o 4 ≤ 1 := hI.fi o 4 3 (mdl_k hm) hm.1
            have lk_136 : u_130.1 o 4 = S.1 o 4 := ((fu_130 o (p1_no (tau_ne hm.1 (rfl : tau 11 = .inl 9) (fun h => by cases h)))).1 4).trans (((fu_43 o (p1_no (tau_ne hm.1 (rfl : tau 115 = .inr (.long, 13)) (fun h => by cases h)))).1 4).trans (((fu_37 o (pEx_o (mdl_out hm).2.2)).1 4).trans ((uF_ne (fun h => absurd h.2 (by decide))).trans ((uD_f).trans ((fu_9 o (pEx_o (mdl_out hm).2.2)).1 4)))))
            have q_137 : 0 ≤ u_130.1 11 9 ∧ u_130.1 11 9 ≤ 128 := iu_130.fi 11 9 9 (by decide) rfl
            have q_138 : 0 ≤ u_130.1 11 10 ∧ u_130.1 11 10 ≤ 8 := iu_130.fi 11 10 9 (by decide) rfl
            have q_139 : 0 ≤ u_130.1 11 11 ∧ u_130.1 11 11 ≤ 12 := iu_130.fi 11 11 9 (by decide) rfl
            have q_140 : (-2147483648) ≤ u_130.1 11 12 ∧ u_130.1 11 12 ≤ 2147483647 := iu_130.fi 11 12 9 (by decide) rfl
            have q_141 : (-2147483648) ≤ u_130.1 11 13 ∧ u_130.1 11 13 ≤ 2147483647 := iu_130.fi 11 13 9 (by decide) rfl
            have q_142 : 0 ≤ u_130.1 11 14 ∧ u_130.1 11 14 ≤ 7 := iu_130.fi 11 14 9 (by decide) rfl
            have lk_143 : u_130.1 o 2 = S.1 o 2 := ((fu_130 o (p1_no (tau_ne hm.1 (rfl : tau 11 = .inl 9) (fun h => by cases h)))).1 2).trans (((fu_43 o (p1_no (tau_ne hm.1 (rfl : tau 115 = .inr (.long, 13)) (fun h => by cases h)))).1 2).trans (((fu_37 o (pEx_o (mdl_out hm).2.2)).1 2).trans ((uF_ne (fun h => absurd h.2 (by decide))).trans ((uD_f).trans ((fu_9 o (pEx_o (mdl_out hm).2.2)).1 2)))))
            have lk_144 : u_130.1 o 3 = S.1 o 3 := ((fu_130 o (p1_no (tau_ne hm.1 (rfl : tau 11 = .inl 9) (fun h => by cases h)))).1 3).trans (((fu_43 o (p1_no (tau_ne hm.1 (rfl : tau 115 = .inr (.long, 13)) (fun h => by cases h)))).1 3).trans (((fu_37 o (pEx_o (mdl_out hm).2.2)).1 3).trans ((uF_ne (fun h => absurd h.2 (by decide))).trans ((uD_f).trans ((fu_9 o (pEx_o (mdl_out hm).2.2)).1 3)))))
            exact sZret Cx hr hlk hW hL (by omega) ⟨iu_130, F_133, ⟨⟨⟨⟨(fun i => ((xu_130.2.2.2.2.2.2.2 i).trans (((fu_43 11 rfl).2.2.2 i).trans ((xu_37.1.1.1 i).trans (xu_9.1.1.1 i))))), (fun _ => by first | omega | exact xu_130.1.1.2 (by omega))⟩, by omega, by omega, by omega, by omega, by omega⟩, (fun h => absurd h (by omega)), (fun _ => (eRo_3 e1 (by rw [show (uF (uD u_9 qS 0 115 0 13) 11 13 ((u_9.1 11 13) + 1)).1 11 12 = u_9.1 11 12 by omega] at e2; exact e2) (.inr (by rw [(show (if k a1 = 13 then (2 : Int) else 1) = 1 from if_neg (by omega))]; omega))))⟩, ⟨(by omega), ((show u_130.2.1 (o + 2) = u_43.2.1 (o + 2) from funext fun x => (fu_130 (o + 2) (p1_no (tau_ne hm.2.2.1 (rfl : tau 11 = .inl 9) (fun h => by cases h)))).2.1 x).trans ((show u_43.2.1 (o + 2) = u_37.2.1 (o + 2) from funext fun x => (fu_43 (o + 2) (p1_no (tau_ne hm.2.2.1 (rfl : tau 115 = .inr (.long, 13)) (fun h => by cases h)))).2.1 x).trans ((show u_37.2.1 (o + 2) = (uF (uD u_9 qS 0 115 0 13) 11 13 ((u_9.1 11 13) + 1)).2.1 (o + 2) from funext fun x => (fu_37 (o + 2) (pEx_o (mdl_out2 hm).2.2)).2.1 x).trans ((show (uF (uD u_9 qS 0 115 0 13) 11 13 ((u_9.1 11 13) + 1)).2.1 (o + 2) = (uD u_9 qS 0 115 0 13).2.1 (o + 2) from funext fun x => uF_a).trans ((show (uD u_9 qS 0 115 0 13).2.1 (o + 2) = u_9.2.1 (o + 2) from funext fun x => uD_a).trans (show u_9.2.1 (o + 2) = S.2.1 (o + 2) from funext fun x => (fu_9 (o + 2) (pEx_o (mdl_out2 hm).2.2)).2.1 x))))))⟩, (fun h => absurd h (by omega)), (show OTc S u_130 y from ⟨(((fu_130 y (p1_no (tau_ne hmy.1 (rfl : tau 11 = .inl 9) (fun h => by cases h)))).1 2).trans (((fu_43 y (p1_no (tau_ne hmy.1 (rfl : tau 115 = .inr (.long, 13)) (fun h => by cases h)))).1 2).trans (((fu_37 y (pEx_o (mdl_out hmy).2.2)).1 2).trans ((uF_ne (fun h => absurd h.2 (by decide))).trans ((uD_f).trans ((fu_9 y (pEx_o (mdl_out hmy).2.2)).1 2)))))), (((fu_130 y (p1_no (tau_ne hmy.1 (rfl : tau 11 = .inl 9) (fun h => by cases h)))).1 3).trans (((fu_43 y (p1_no (tau_ne hmy.1 (rfl : tau 115 = .inr (.long, 13)) (fun h => by cases h)))).1 3).trans (((fu_37 y (pEx_o (mdl_out hmy).2.2)).1 3).trans ((uF_ne (fun h => absurd h.2 (by decide))).trans ((uD_f).trans ((fu_9 y (pEx_o (mdl_out hmy).2.2)).1 3)))))), (((fu_130 y (p1_no (tau_ne hmy.1 (rfl : tau 11 = .inl 9) (fun h => by cases h)))).1 4).trans (((fu_43 y (p1_no (tau_ne hmy.1 (rfl : tau 115 = .inr (.long, 13)) (fun h => by cases h)))).1 4).trans (((fu_37 y (pEx_o (mdl_out hmy).2.2)).1 4).trans ((uF_ne (fun h => absurd h.2 (by decide))).trans ((uD_f).trans ((fu_9 y (pEx_o (mdl_out hmy).2.2)).1 4)))))), (funext fun x => ((fu_130 (y + 2) (p1_no (tau_ne hmy.2.2.1 (rfl : tau 11 = .inl 9) (fun h => by cases h)))).2.1 x).trans (((fu_43 (y + 2) (p1_no (tau_ne hmy.2.2.1 (rfl : tau 115 = .inr (.long, 13)) (fun h => by cases h)))).2.1 x).trans (((fu_37 (y + 2) (pEx_o (mdl_out2 hmy).2.2)).2.1 x).trans ((uF_a).trans ((uD_a).trans ((fu_9 (y + 2) (pEx_o (mdl_out2 hmy).2.2)).2.1 x)))))), (funext fun x => ((fu_130 (y + 1) (p1_no (tau_ne hmy.2.1 (rfl : tau 11 = .inl 9) (fun h => by cases h)))).2.1 x).trans (((fu_43 (y + 1) (p1_no (tau_ne hmy.2.1 (rfl : tau 115 = .inr (.long, 13)) (fun h => by cases h)))).2.1 x).trans (((fu_37 (y + 1) (pEx_o (mdl_out1 hmy).2.2)).2.1 x).trans ((uF_a).trans ((uD_a).trans ((fu_9 (y + 1) (pEx_o (mdl_out1 hmy).2.2)).2.1 x))))))⟩)⟩⟩ dX9_tellOneRow_128
        · refine lv_iconst (v := iv 2) hx hb dX9_tellOneRow_99 (by decide) ?_
          refine lv_goto (tgt := 104) hx hb dX9_tellOneRow_100 (by decide) ?_
          refine lv_istore (lv' := [(4, .int (iv 2)), (3, .int (iv r_53)), (2, .int (iv (u_9.1 11 13))), (0, .ref (G.2.2.1 + 11)), (1, .int (iv nm))]) hx hb dX9_tellOneRow_104 hl (by decide) rfl (fun ls hl => ?_)
          refine lv_aload_n hx hb dX9_tellOneRow_106 rfl (lv_at hl 3 rfl) ?_
          refine g_X9_46 Cx hW (k := 11) (by decide) rfl (v := .ref (G.2.2.1 + o)) (((fun i => (((fu_43 11 rfl).2.2.2 i).trans ((xu_37.1.1.1 i).trans (xu_9.1.1.1 i)))) 8).trans hrf) dX9_tellOneRow_107 ?_
          refine g_X9_193 Cx hW (k := o) (mdl_l hm) hm.1 (v := S.1 o 3) (((fu_43 o (p1_no (tau_ne hm.1 (rfl : tau 115 = .inr (.long, 13)) (fun h => by cases h)))).1 3).trans (((fu_37 o (pEx_o (mdl_out hm).2.2)).1 3).trans ((uF_ne (fun h => absurd h.2 (by decide))).trans ((uD_f).trans ((fu_9 o (pEx_o (mdl_out hm).2.2)).1 3))))) dX9_tellOneRow_110 ?_
          refine lv_iload hx hb dX9_tellOneRow_113 (lv_at hl 0 rfl) ?_
          refine r_iadd hx hb dX9_tellOneRow_115 ?_
          refine lv_bipush (v := iv 16) hx hb dX9_tellOneRow_116 (by decide) ?_
          refine r_icmp_le (tgt := 129) hx hb ⟨(by omega), (by omega)⟩ ⟨(by omega), (by omega)⟩ dX9_tellOneRow_118 (by decide) (fun c_145 => ?_) (fun c_145 => ?_)
          · refine lv_iload_n hx hb dX9_tellOneRow_129 rfl (lv_at hl 1 rfl) ?_
            refine lv_bipush (v := iv 26) hx hb dX9_tellOneRow_130 (by decide) ?_
            refine r_icmp_eq (tgt := 147) hx hb ⟨(by omega), (by omega)⟩ ⟨(by omega), (by omega)⟩ dX9_tellOneRow_132 (by decide) (fun c_146 => ?_) (fun c_146 => ?_)
            · exfalso; omega
            · refine lv_aload_n hx hb dX9_tellOneRow_135 rfl (lv_at hl 3 rfl) ?_
              refine g_X9_46 Cx hW (k := 11) (by decide) rfl (v := .ref (G.2.2.1 + o)) (((fun i => (((fu_43 11 rfl).2.2.2 i).trans ((xu_37.1.1.1 i).trans (xu_9.1.1.1 i)))) 8).trans hrf) dX9_tellOneRow_136 ?_
              refine lv_aload_n hx hb dX9_tellOneRow_139 rfl (lv_at hl 3 rfl) ?_
              refine g_X9_40 Cx hW (k := 11) (by decide) rfl (v := .ref (G.2.2.1 + 115)) (rf_11_7 iu_43) dX9_tellOneRow_140 ?_
              refine lv_iconst (v := iv 1) hx hb dX9_tellOneRow_143 (by decide) ?_
              have lk_147 : u_43.1 o 3 = S.1 o 3 := ((fu_43 o (p1_no (tau_ne hm.1 (rfl : tau 115 = .inr (.long, 13)) (fun h => by cases h)))).1 3).trans (((fu_37 o (pEx_o (mdl_out hm).2.2)).1 3).trans ((uF_ne (fun h => absurd h.2 (by decide))).trans ((uD_f).trans ((fu_9 o (pEx_o (mdl_out hm).2.2)).1 3))))
              have lk_148 : u_43.1 o 2 = S.1 o 2 := ((fu_43 o (p1_no (tau_ne hm.1 (rfl : tau 115 = .inr (.long, 13)) (fun h => by cases h)))).1 2).trans (((fu_37 o (pEx_o (mdl_out hm).2.2)).1 2).trans ((uF_ne (fun h => absurd h.2 (by decide))).trans ((uD_f).trans ((fu_9 o (pEx_o (mdl_out hm).2.2)).1 2))))
              have q_149 : 0 ≤ S.1 o 4 ∧ S.1 o 4 ≤ 1 := hI.fi o 4 3 (mdl_k hm) hm.1
              have lk_150 : u_43.1 o 4 = S.1 o 4 := ((fu_43 o (p1_no (tau_ne hm.1 (rfl : tau 115 = .inr (.long, 13)) (fun h => by cases h)))).1 4).trans (((fu_37 o (pEx_o (mdl_out hm).2.2)).1 4).trans ((uF_ne (fun h => absurd h.2 (by decide))).trans ((uD_f).trans ((fu_9 o (pEx_o (mdl_out hm).2.2)).1 4))))
              refine sBv (sV (As := [.ref (G.2.2.1 + 115), .int (iv 1)]) (rest := []) (k := o) Cx (f_X3_addRow_1 l G u_43 (o := o) (q := 115) iu_43 hm ⟨rfl, by decide⟩ (fun j a b => by rw [(show u_43.2.2.1 115 j = u_43.2.2.1 115 j from rfl), wS j a (by omega)]; exact ngr_b ngr j a b) (by omega)) (c_X9_196 Cx rfl rfl (rmk_ok (by omega) (by decide))) hW (mdl_l hm) hm.1 rfl rfl hl.1 rfl (Nat.le_of_ble_eq_true rfl) dX9_tellOneRow_144 ⟨Nat.le_of_ble_eq_true rfl, Nat.le_of_ble_eq_true rfl⟩) hL (fun u_151 H locs k_152 hW hL => ?_)
              obtain ⟨iu_151, fu_151, xu_151⟩ := k_152
              have F_153 := F_45.trans (fu_151.to (pM_sub (mdl_pG hm).1 (mdl_pG hm).2.1 (mdl_pG hm).2.2))
              have F_154 := F_46.trans (fu_151.to (pM_sub (mdl_Rm hm).1 (mdl_Rm hm).2.1 (mdl_Rm hm).2.2))
              refine lv_iload_n hx hb dX9_tellOneRow_147 rfl (lv_at hl 1 rfl) ?_
              refine lv_bipush (v := iv 25) hx hb dX9_tellOneRow_148 (by decide) ?_
              refine r_icmp_eq (tgt := 165) hx hb ⟨(by omega), (by omega)⟩ ⟨(by omega), (by omega)⟩ dX9_tellOneRow_150 (by decide) (fun c_155 => ?_) (fun c_155 => ?_)
              · exfalso; omega
              · refine lv_aload_n hx hb dX9_tellOneRow_153 rfl (lv_at hl 3 rfl) ?_
                refine g_X9_46 Cx hW (k := 11) (by decide) rfl (v := .ref (G.2.2.1 + o)) (((fun i => (((fu_151 11 (pM_no (tau_ne (rfl : tau 11 = .inl 9) hm.1 (fun h => by cases h)) (tau_ne (rfl : tau 11 = .inl 9) hm.2.1 (fun h => by cases h)) (tau_ne (rfl : tau 11 = .inl 9) hm.2.2.1 (fun h => by cases h)))).2.2.2 i).trans (((fu_43 11 rfl).2.2.2 i).trans ((xu_37.1.1.1 i).trans (xu_9.1.1.1 i))))) 8).trans hrf) dX9_tellOneRow_154 ?_
                refine lv_aload_n hx hb dX9_tellOneRow_157 rfl (lv_at hl 3 rfl) ?_
                refine g_X9_40 Cx hW (k := 11) (by decide) rfl (v := .ref (G.2.2.1 + 115)) (rf_11_7 iu_151) dX9_tellOneRow_158 ?_
                refine lv_iconst (v := iv (-1)) hx hb dX9_tellOneRow_161 (by decide) ?_
                have q_156 : 0 ≤ u_151.1 o 3 ∧ u_151.1 o 3 ≤ 16 := iu_151.fi o 3 3 (mdl_k hm) hm.1
                have q_157 : 0 ≤ u_151.1 o 2 ∧ u_151.1 o 2 ≤ 12 := iu_151.fi o 2 3 (mdl_k hm) hm.1
                have q_158 : 0 ≤ u_151.1 o 4 ∧ u_151.1 o 4 ≤ 1 := iu_151.fi o 4 3 (mdl_k hm) hm.1
                refine sBv (sV (As := [.ref (G.2.2.1 + 115), .int (iv ((-1)))]) (rest := []) (k := o) Cx (f_X3_addRow_m l G u_151 (o := o) (q := 115) iu_151 hm ⟨rfl, by decide⟩ (fun j a b => by rw [(show u_151.2.2.1 115 j = u_43.2.2.1 115 j from (fu_151 115 (pM_no (tau_ne (rfl : tau 115 = .inr (.long, 13)) hm.1 (fun h => by cases h)) (tau_ne (rfl : tau 115 = .inr (.long, 13)) hm.2.1 (fun h => by cases h)) (tau_ne (rfl : tau 115 = .inr (.long, 13)) hm.2.2.1 (fun h => by cases h)))).2.2.1 j), wS j a (by omega)]; exact ngr_b ngr j a b) (by omega)) (c_X9_196 Cx rfl rfl (rmk_ok (by omega) (by decide))) hW (mdl_l hm) hm.1 rfl rfl hl.1 rfl (Nat.le_of_ble_eq_true rfl) dX9_tellOneRow_162 ⟨Nat.le_of_ble_eq_true rfl, Nat.le_of_ble_eq_true rfl⟩) hL (fun u_159 H locs k_160 hW hL => ?_)
                obtain ⟨iu_159, fu_159, xu_159⟩ := k_160
                have F_161 := F_153.trans (fu_159.to (pM_sub (mdl_pG hm).1 (mdl_pG hm).2.1 (mdl_pG hm).2.2))
                have F_162 := F_154.trans (fu_159.to (pM_sub (mdl_Rm hm).1 (mdl_Rm hm).2.1 (mdl_Rm hm).2.2))
                refine lv_aload_n hx hb dX9_tellOneRow_165 rfl (lv_at hl 3 rfl) ?_
                refine lv_dup hx hb dX9_tellOneRow_166 rfl ?_
                have q_163 : (-2147483648) ≤ u_37.1 11 13 ∧ u_37.1 11 13 ≤ 2147483647 := iu_37.fi 11 13 9 (by decide) rfl
                refine g_X9_89 Cx hW (k := 11) (by decide) rfl (v := u_37.1 11 13) (((fu_159 11 (pM_no (tau_ne (rfl : tau 11 = .inl 9) hm.1 (fun h => by cases h)) (tau_ne (rfl : tau 11 = .inl 9) hm.2.1 (fun h => by cases h)) (tau_ne (rfl : tau 11 = .inl 9) hm.2.2.1 (fun h => by cases h)))).1 13).trans (((fu_151 11 (pM_no (tau_ne (rfl : tau 11 = .inl 9) hm.1 (fun h => by cases h)) (tau_ne (rfl : tau 11 = .inl 9) hm.2.1 (fun h => by cases h)) (tau_ne (rfl : tau 11 = .inl 9) hm.2.2.1 (fun h => by cases h)))).1 13).trans ((fu_43 11 rfl).1 13))) dX9_tellOneRow_167 ?_
                refine lv_iconst (v := iv 1) hx hb dX9_tellOneRow_170 (by decide) ?_
                refine r_iadd hx hb dX9_tellOneRow_171 ?_
                refine p_X9_89 Cx hW hL (k := 11) (by decide) rfl dX9_tellOneRow_172 (fun H locs hW hL => ?_)
                have F_164 : Fr S (uF u_159 11 13 ((u_37.1 11 13) + 1)) pG := F_161.F rfl
                have F_165 : Fr u_37 (uF u_159 11 13 ((u_37.1 11 13) + 1)) pRm := F_162.F rfl
                have i_166 : cX G (uF u_159 11 13 ((u_37.1 11 13) + 1)) 0 0 0 := iu_159.F rfl rfl (show (-2147483648) ≤ (u_37.1 11 13) + 1 ∧ (u_37.1 11 13) + 1 ≤ 2147483647 from ⟨by omega, by omega⟩)
                refine lv_iconst (v := iv 1) hx hb dX9_tellOneRow_175 (by decide) ?_
                have q_167 : 0 ≤ u_159.1 o 4 ∧ u_159.1 o 4 ≤ 1 := iu_159.fi o 4 3 (mdl_k hm) hm.1
                have lk_168 : (uF u_159 11 13 ((u_37.1 11 13) + 1)).1 o 4 = u_159.1 o 4 := uF_ne (fun h => absurd h.2 (by decide))
                have q_169 : 0 ≤ u_37.1 11 9 ∧ u_37.1 11 9 ≤ 128 := iu_37.fi 11 9 9 (by decide) rfl
                have lk_170 : (uF u_159 11 13 ((u_37.1 11 13) + 1)).1 11 9 = u_37.1 11 9 := (uF_ne (fun h => absurd h.2 (by decide))).trans (((fu_159 11 (pM_no (tau_ne (rfl : tau 11 = .inl 9) hm.1 (fun h => by cases h)) (tau_ne (rfl : tau 11 = .inl 9) hm.2.1 (fun h => by cases h)) (tau_ne (rfl : tau 11 = .inl 9) hm.2.2.1 (fun h => by cases h)))).1 9).trans (((fu_151 11 (pM_no (tau_ne (rfl : tau 11 = .inl 9) hm.1 (fun h => by cases h)) (tau_ne (rfl : tau 11 = .inl 9) hm.2.1 (fun h => by cases h)) (tau_ne (rfl : tau 11 = .inl 9) hm.2.2.1 (fun h => by cases h)))).1 9).trans ((fu_43 11 rfl).1 9)))
                have q_171 : 0 ≤ u_37.1 11 10 ∧ u_37.1 11 10 ≤ 8 := iu_37.fi 11 10 9 (by decide) rfl
                have lk_172 : (uF u_159 11 13 ((u_37.1 11 13) + 1)).1 11 10 = u_37.1 11 10 := (uF_ne (fun h => absurd h.2 (by decide))).trans (((fu_159 11 (pM_no (tau_ne (rfl : tau 11 = .inl 9) hm.1 (fun h => by cases h)) (tau_ne (rfl : tau 11 = .inl 9) hm.2.1 (fun h => by cases h)) (tau_ne (rfl : tau 11 = .inl 9) hm.2.2.1 (fun h => by cases h)))).1 10).trans (((fu_151 11 (pM_no (tau_ne (rfl : tau 11 = .inl 9) hm.1 (fun h => by cases h)) (tau_ne (rfl : tau 11 = .inl 9) hm.2.1 (fun h => by cases h)) (tau_ne (rfl : tau 11 = .inl 9) hm.2.2.1 (fun h => by cases h)))).1 10).trans ((fu_43 11 rfl).1 10)))
                have q_173 : 0 ≤ u_37.1 11 11 ∧ u_37.1 11 11 ≤ 12 := iu_37.fi 11 11 9 (by decide) rfl
                have lk_174 : (uF u_159 11 13 ((u_37.1 11 13) + 1)).1 11 11 = u_37.1 11 11 := (uF_ne (fun h => absurd h.2 (by decide))).trans (((fu_159 11 (pM_no (tau_ne (rfl : tau 11 = .inl 9) hm.1 (fun h => by cases h)) (tau_ne (rfl : tau 11 = .inl 9) hm.2.1 (fun h => by cases h)) (tau_ne (rfl : tau 11 = .inl 9) hm.2.2.1 (fun h => by cases h)))).1 11).trans (((fu_151 11 (pM_no (tau_ne (rfl : tau 11 = .inl 9) hm.1 (fun h => by cases h)) (tau_ne (rfl : tau 11 = .inl 9) hm.2.1 (fun h => by cases h)) (tau_ne (rfl : tau 11 = .inl 9) hm.2.2.1 (fun h => by cases h)))).1 11).trans ((fu_43 11 rfl).1 11)))
                have q_175 : (-2147483648) ≤ u_37.1 11 12 ∧ u_37.1 11 12 ≤ 2147483647 := iu_37.fi 11 12 9 (by decide) rfl
                have lk_176 : (uF u_159 11 13 ((u_37.1 11 13) + 1)).1 11 12 = u_37.1 11 12 := (uF_ne (fun h => absurd h.2 (by decide))).trans (((fu_159 11 (pM_no (tau_ne (rfl : tau 11 = .inl 9) hm.1 (fun h => by cases h)) (tau_ne (rfl : tau 11 = .inl 9) hm.2.1 (fun h => by cases h)) (tau_ne (rfl : tau 11 = .inl 9) hm.2.2.1 (fun h => by cases h)))).1 12).trans (((fu_151 11 (pM_no (tau_ne (rfl : tau 11 = .inl 9) hm.1 (fun h => by cases h)) (tau_ne (rfl : tau 11 = .inl 9) hm.2.1 (fun h => by cases h)) (tau_ne (rfl : tau 11 = .inl 9) hm.2.2.1 (fun h => by cases h)))).1 12).trans ((fu_43 11 rfl).1 12)))
                have lk_177 : (uF u_159 11 13 ((u_37.1 11 13) + 1)).1 11 13 = (u_37.1 11 13) + 1 := uF_on
                have q_178 : 0 ≤ u_37.1 11 14 ∧ u_37.1 11 14 ≤ 7 := iu_37.fi 11 14 9 (by decide) rfl
                have lk_179 : (uF u_159 11 13 ((u_37.1 11 13) + 1)).1 11 14 = u_37.1 11 14 := (uF_ne (fun h => absurd h.2 (by decide))).trans (((fu_159 11 (pM_no (tau_ne (rfl : tau 11 = .inl 9) hm.1 (fun h => by cases h)) (tau_ne (rfl : tau 11 = .inl 9) hm.2.1 (fun h => by cases h)) (tau_ne (rfl : tau 11 = .inl 9) hm.2.2.1 (fun h => by cases h)))).1 14).trans (((fu_151 11 (pM_no (tau_ne (rfl : tau 11 = .inl 9) hm.1 (fun h => by cases h)) (tau_ne (rfl : tau 11 = .inl 9) hm.2.1 (fun h => by cases h)) (tau_ne (rfl : tau 11 = .inl 9) hm.2.2.1 (fun h => by cases h)))).1 14).trans ((fu_43 11 rfl).1 14)))
                have q_180 : 0 ≤ u_159.1 o 2 ∧ u_159.1 o 2 ≤ 12 := iu_159.fi o 2 3 (mdl_k hm) hm.1
                have lk_181 : (uF u_159 11 13 ((u_37.1 11 13) + 1)).1 o 2 = u_159.1 o 2 := uF_ne (fun h => absurd h.2 (by decide))
                have q_182 : 0 ≤ u_159.1 o 3 ∧ u_159.1 o 3 ≤ 16 := iu_159.fi o 3 3 (mdl_k hm) hm.1
                have lk_183 : (uF u_159 11 13 ((u_37.1 11 13) + 1)).1 o 3 = u_159.1 o 3 := uF_ne (fun h => absurd h.2 (by decide))
                have nr_184 : NRc N (uF u_159 11 13 ((u_37.1 11 13) + 1)) := n2.of (by omega) (fun j => (F_165 16 rfl).2.2.1 j) (fun j => (F_165 17 rfl).2.1 j) (fun j => (F_165 18 rfl).2.1 j)
                exact sZret Cx hr hlk hW hL (by omega) ⟨i_166, F_164, ⟨⟨⟨⟨(fun i => (((fu_159 11 (pM_no (tau_ne (rfl : tau 11 = .inl 9) hm.1 (fun h => by cases h)) (tau_ne (rfl : tau 11 = .inl 9) hm.2.1 (fun h => by cases h)) (tau_ne (rfl : tau 11 = .inl 9) hm.2.2.1 (fun h => by cases h)))).2.2.2 i).trans (((fu_151 11 (pM_no (tau_ne (rfl : tau 11 = .inl 9) hm.1 (fun h => by cases h)) (tau_ne (rfl : tau 11 = .inl 9) hm.2.1 (fun h => by cases h)) (tau_ne (rfl : tau 11 = .inl 9) hm.2.2.1 (fun h => by cases h)))).2.2.2 i).trans (((fu_43 11 rfl).2.2.2 i).trans ((xu_37.1.1.1 i).trans (xu_9.1.1.1 i)))))), (fun h => absurd h (by decide))⟩, by omega, by omega, by omega, by omega, by omega⟩, (fun _ => ⟨(by rw [eRo_4 e1 (by rw [show (uF (uD u_9 qS 0 115 0 13) 11 13 ((u_9.1 11 13) + 1)).1 11 12 = u_9.1 11 12 by omega] at e2; exact e2) ngr (by rw [(show (if k a1 = 13 then (2 : Int) else 1) = 2 from if_pos (by omega))]; omega), (show (if k a1 = 13 then (2 : Int) else 1) = 2 from if_pos (by omega)), show (uF u_159 11 13 ((u_37.1 11 13) + 1)).1 o 3 = S.1 o 3 + 2 by omega, show (uF u_159 11 13 ((u_37.1 11 13) + 1)).1 11 12 = u_37.1 11 12 by omega, show q = b1 + 1 by omega]), ⟨by omega, by omega⟩, ⟨by omega, by omega⟩, (by omega), (by omega), nr_184⟩), (fun h => absurd h (by decide))⟩, ⟨(by omega), ((show (uF u_159 11 13 ((u_37.1 11 13) + 1)).2.1 (o + 2) = u_159.2.1 (o + 2) from funext fun x => uF_a).trans ((show u_159.2.1 (o + 2) = u_151.2.1 (o + 2) from xu_159.2.2.2.1).trans ((show u_151.2.1 (o + 2) = u_43.2.1 (o + 2) from xu_151.2.2.2.1).trans ((show u_43.2.1 (o + 2) = u_37.2.1 (o + 2) from funext fun x => (fu_43 (o + 2) (p1_no (tau_ne hm.2.2.1 (rfl : tau 115 = .inr (.long, 13)) (fun h => by cases h)))).2.1 x).trans ((show u_37.2.1 (o + 2) = (uF (uD u_9 qS 0 115 0 13) 11 13 ((u_9.1 11 13) + 1)).2.1 (o + 2) from funext fun x => (fu_37 (o + 2) (pEx_o (mdl_out2 hm).2.2)).2.1 x).trans ((show (uF (uD u_9 qS 0 115 0 13) 11 13 ((u_9.1 11 13) + 1)).2.1 (o + 2) = (uD u_9 qS 0 115 0 13).2.1 (o + 2) from funext fun x => uF_a).trans ((show (uD u_9 qS 0 115 0 13).2.1 (o + 2) = u_9.2.1 (o + 2) from funext fun x => uD_a).trans (show u_9.2.1 (o + 2) = S.2.1 (o + 2) from funext fun x => (fu_9 (o + 2) (pEx_o (mdl_out2 hm).2.2)).2.1 x))))))))⟩, (fun _ X hX => by have hb0 := (XAc.of (S := S) (u := u_43) hX (((fu_43 o (p1_no (tau_ne hm.1 (rfl : tau 115 = .inr (.long, 13)) (fun h => by cases h)))).1 2).trans (((fu_37 o (pEx_o (mdl_out hm).2.2)).1 2).trans ((uF_ne (fun h => absurd h.2 (by decide))).trans ((uD_f).trans ((fu_9 o (pEx_o (mdl_out hm).2.2)).1 2))))) (((fu_43 o (p1_no (tau_ne hm.1 (rfl : tau 115 = .inr (.long, 13)) (fun h => by cases h)))).1 3).trans (((fu_37 o (pEx_o (mdl_out hm).2.2)).1 3).trans ((uF_ne (fun h => absurd h.2 (by decide))).trans ((uD_f).trans ((fu_9 o (pEx_o (mdl_out hm).2.2)).1 3))))) (funext fun x => ((fu_43 (o + 1) (p1_no (tau_ne hm.2.1 (rfl : tau 115 = .inr (.long, 13)) (fun h => by cases h)))).2.1 x).trans (((fu_37 (o + 1) (pEx_o (mdl_out1 hm).2.2)).2.1 x).trans ((uF_a).trans ((uD_a).trans ((fu_9 (o + 1) (pEx_o (mdl_out1 hm).2.2)).2.1 x))))) (funext fun x => ((fu_43 (o + 2) (p1_no (tau_ne hm.2.2.1 (rfl : tau 115 = .inr (.long, 13)) (fun h => by cases h)))).2.1 x).trans (((fu_37 (o + 2) (pEx_o (mdl_out2 hm).2.2)).2.1 x).trans ((uF_a).trans ((uD_a).trans ((fu_9 (o + 2) (pEx_o (mdl_out2 hm).2.2)).2.1 x)))))); have hu0 : XAc u_151 o 1 (upA (X.1) (S.1 o 3 + 1) (lin (vad V1 V2 (-1)) (1)), X.2) := (by have y := XAc.row (A := X.1) (wh := X.2) (d := (vad V1 V2 (-1))) (f := u_43.2.2.1 115) (t := 1) hb0 (by omega) (by omega) (by omega) xu_151.2.2.2.1 (fun j a b => (show u_43.2.2.1 115 j = u_43.2.2.1 115 j from rfl).trans (wS j a (by omega))) xu_151.2.2.2.2.1 xu_151.2.2.2.2.2; rw [show u_43.1 o 3 = S.1 o 3 by omega] at y; exact y); have hb1 := hu0; have hu1 : XAc u_159 o 1 (upA (upA (X.1) (S.1 o 3 + 1) (lin (vad V1 V2 (-1)) (1))) (S.1 o 3 + 1 + 1) (lin (vad V1 V2 (-1)) ((-1))), X.2) := (by have y := XAc.row (A := upA (X.1) (S.1 o 3 + 1) (lin (vad V1 V2 (-1)) (1))) (wh := X.2) (d := (vad V1 V2 (-1))) (f := u_151.2.2.1 115) (t := (-1)) hb1 (by omega) (by omega) (by omega) xu_159.2.2.2.1 (fun j a b => (show u_151.2.2.1 115 j = u_43.2.2.1 115 j from (fu_151 115 (pM_no (tau_ne (rfl : tau 115 = .inr (.long, 13)) hm.1 (fun h => by cases h)) (tau_ne (rfl : tau 115 = .inr (.long, 13)) hm.2.1 (fun h => by cases h)) (tau_ne (rfl : tau 115 = .inr (.long, 13)) hm.2.2.1 (fun h => by cases h)))).2.2.1 j).trans (wS j a (by omega))) xu_159.2.2.2.2.1 xu_159.2.2.2.2.2; rw [show u_151.1 o 3 = S.1 o 3 + 1 by omega] at y; exact y); rw [aRo_e (A := X.1) (m := S.1 o 3) e1 (by rw [show (uF (uD u_9 qS 0 115 0 13) 11 13 ((u_9.1 11 13) + 1)).1 11 12 = u_9.1 11 12 by omega] at e2; exact e2)]; unfold rwA; show XAc _ o 1 ((if k a1 = 13 then _ else if k a1 = 26 then _ else _), X.2); rw [if_pos (by omega)]; exact (XAc.of (S := u_159) (u := (uF u_159 11 13 ((u_37.1 11 13) + 1))) hu1 (uF_ne (fun h => absurd h.2 (by decide))) (uF_ne (fun h => absurd h.2 (by decide))) (funext fun x => uF_a) (funext fun x => uF_a))), (show OTc S (uF u_159 11 13 ((u_37.1 11 13) + 1)) y from ⟨((uF_ne (fun h => absurd h.2 (by decide))).trans (((fu_159 y (pM_no (neD hny) (tau_ne hmy.1 hm.2.1 (fun h => by cases h)) (tau_ne hmy.1 hm.2.2.1 (fun h => by cases h)))).1 2).trans (((fu_151 y (pM_no (neD hny) (tau_ne hmy.1 hm.2.1 (fun h => by cases h)) (tau_ne hmy.1 hm.2.2.1 (fun h => by cases h)))).1 2).trans (((fu_43 y (p1_no (tau_ne hmy.1 (rfl : tau 115 = .inr (.long, 13)) (fun h => by cases h)))).1 2).trans (((fu_37 y (pEx_o (mdl_out hmy).2.2)).1 2).trans ((uF_ne (fun h => absurd h.2 (by decide))).trans ((uD_f).trans ((fu_9 y (pEx_o (mdl_out hmy).2.2)).1 2)))))))), ((uF_ne (fun h => absurd h.2 (by decide))).trans (((fu_159 y (pM_no (neD hny) (tau_ne hmy.1 hm.2.1 (fun h => by cases h)) (tau_ne hmy.1 hm.2.2.1 (fun h => by cases h)))).1 3).trans (((fu_151 y (pM_no (neD hny) (tau_ne hmy.1 hm.2.1 (fun h => by cases h)) (tau_ne hmy.1 hm.2.2.1 (fun h => by cases h)))).1 3).trans (((fu_43 y (p1_no (tau_ne hmy.1 (rfl : tau 115 = .inr (.long, 13)) (fun h => by cases h)))).1 3).trans (((fu_37 y (pEx_o (mdl_out hmy).2.2)).1 3).trans ((uF_ne (fun h => absurd h.2 (by decide))).trans ((uD_f).trans ((fu_9 y (pEx_o (mdl_out hmy).2.2)).1 3)))))))), ((uF_ne (fun h => absurd h.2 (by decide))).trans (((fu_159 y (pM_no (neD hny) (tau_ne hmy.1 hm.2.1 (fun h => by cases h)) (tau_ne hmy.1 hm.2.2.1 (fun h => by cases h)))).1 4).trans (((fu_151 y (pM_no (neD hny) (tau_ne hmy.1 hm.2.1 (fun h => by cases h)) (tau_ne hmy.1 hm.2.2.1 (fun h => by cases h)))).1 4).trans (((fu_43 y (p1_no (tau_ne hmy.1 (rfl : tau 115 = .inr (.long, 13)) (fun h => by cases h)))).1 4).trans (((fu_37 y (pEx_o (mdl_out hmy).2.2)).1 4).trans ((uF_ne (fun h => absurd h.2 (by decide))).trans ((uD_f).trans ((fu_9 y (pEx_o (mdl_out hmy).2.2)).1 4)))))))), (funext fun x => (uF_a).trans (((fu_159 (y + 2) (pM_no (tau_ne hmy.2.2.1 hm.1 (fun h => by cases h)) (tau_ne hmy.2.2.1 hm.2.1 (fun h => by cases h)) (by omega))).2.1 x).trans (((fu_151 (y + 2) (pM_no (tau_ne hmy.2.2.1 hm.1 (fun h => by cases h)) (tau_ne hmy.2.2.1 hm.2.1 (fun h => by cases h)) (by omega))).2.1 x).trans (((fu_43 (y + 2) (p1_no (tau_ne hmy.2.2.1 (rfl : tau 115 = .inr (.long, 13)) (fun h => by cases h)))).2.1 x).trans (((fu_37 (y + 2) (pEx_o (mdl_out2 hmy).2.2)).2.1 x).trans ((uF_a).trans ((uD_a).trans ((fu_9 (y + 2) (pEx_o (mdl_out2 hmy).2.2)).2.1 x)))))))), (funext fun x => (uF_a).trans (((fu_159 (y + 1) (pM_no (tau_ne hmy.2.1 hm.1 (fun h => by cases h)) (ne1 hny) (tau_ne hmy.2.1 hm.2.2.1 (fun h => by cases h)))).2.1 x).trans (((fu_151 (y + 1) (pM_no (tau_ne hmy.2.1 hm.1 (fun h => by cases h)) (ne1 hny) (tau_ne hmy.2.1 hm.2.2.1 (fun h => by cases h)))).2.1 x).trans (((fu_43 (y + 1) (p1_no (tau_ne hmy.2.1 (rfl : tau 115 = .inr (.long, 13)) (fun h => by cases h)))).2.1 x).trans (((fu_37 (y + 1) (pEx_o (mdl_out1 hmy).2.2)).2.1 x).trans ((uF_a).trans ((uD_a).trans ((fu_9 (y + 1) (pEx_o (mdl_out1 hmy).2.2)).2.1 x))))))))⟩)⟩⟩ dX9_tellOneRow_176
          · refine lv_aload_n hx hb dX9_tellOneRow_121 rfl (lv_at hl 3 rfl) ?_
            refine lv_bipush (v := iv 7) hx hb dX9_tellOneRow_122 (by decide) ?_
            refine lv_iload_n hx hb dX9_tellOneRow_124 rfl (lv_at hl 4 rfl) ?_
            have q_185 : (-2147483648) ≤ u_37.1 11 13 ∧ u_37.1 11 13 ≤ 2147483647 := iu_37.fi 11 13 9 (by decide) rfl
            have lk_186 : u_43.1 11 13 = u_37.1 11 13 := (fu_43 11 rfl).1 13
            have q_187 : 0 ≤ u_37.1 11 9 ∧ u_37.1 11 9 ≤ 128 := iu_37.fi 11 9 9 (by decide) rfl
            have lk_188 : u_43.1 11 9 = u_37.1 11 9 := (fu_43 11 rfl).1 9
            have q_189 : 0 ≤ u_37.1 11 10 ∧ u_37.1 11 10 ≤ 8 := iu_37.fi 11 10 9 (by decide) rfl
            have lk_190 : u_43.1 11 10 = u_37.1 11 10 := (fu_43 11 rfl).1 10
            have q_191 : 0 ≤ u_37.1 11 11 ∧ u_37.1 11 11 ≤ 12 := iu_37.fi 11 11 9 (by decide) rfl
            have lk_192 : u_43.1 11 11 = u_37.1 11 11 := (fu_43 11 rfl).1 11
            have q_193 : (-2147483648) ≤ u_37.1 11 12 ∧ u_37.1 11 12 ≤ 2147483647 := iu_37.fi 11 12 9 (by decide) rfl
            have lk_194 : u_43.1 11 12 = u_37.1 11 12 := (fu_43 11 rfl).1 12
            refine sBi (sV (As := [.int (iv 7), .int (iv nm)]) (rest := []) (k := 11) Cx (e_X9_fail l G u_43 (k := 7) (tk := nm) iu_43 (by omega) (by omega)) (c_X9_132 Cx rfl rfl (rmk_ok (by omega) (by decide))) hW (by decide) rfl rfl rfl hl.1 rfl (Nat.le_of_ble_eq_true rfl) dX9_tellOneRow_125 ⟨Nat.le_of_ble_eq_true rfl, Nat.le_of_ble_eq_true rfl⟩) hL (fun r_197 u_195 H locs k_196 hW hL => ?_)
            obtain ⟨iu_195, fu_195, xu_195⟩ := k_196
            have F_198 := F_45.trans (fu_195.to (fun k h => pV_G k ((fun k h => pU_V k ((fun k h => pT_U k (p11_T k h)) k h)) k h)))
            have F_199 := F_46.trans (fu_195.to (p1_sub rfl))
            have q_200 : 0 ≤ S.1 o 4 ∧ S.1 o 4 ≤ 1 := hI.fi o 4 3 (mdl_k hm) hm.1
            have lk_201 : u_195.1 o 4 = S.1 o 4 := ((fu_195 o (p1_no (tau_ne hm.1 (rfl : tau 11 = .inl 9) (fun h => by cases h)))).1 4).trans (((fu_43 o (p1_no (tau_ne hm.1 (rfl : tau 115 = .inr (.long, 13)) (fun h => by cases h)))).1 4).trans (((fu_37 o (pEx_o (mdl_out hm).2.2)).1 4).trans ((uF_ne (fun h => absurd h.2 (by decide))).trans ((uD_f).trans ((fu_9 o (pEx_o (mdl_out hm).2.2)).1 4)))))
            have q_202 : 0 ≤ u_195.1 11 9 ∧ u_195.1 11 9 ≤ 128 := iu_195.fi 11 9 9 (by decide) rfl
            have q_203 : 0 ≤ u_195.1 11 10 ∧ u_195.1 11 10 ≤ 8 := iu_195.fi 11 10 9 (by decide) rfl
            have q_204 : 0 ≤ u_195.1 11 11 ∧ u_195.1 11 11 ≤ 12 := iu_195.fi 11 11 9 (by decide) rfl
            have q_205 : (-2147483648) ≤ u_195.1 11 12 ∧ u_195.1 11 12 ≤ 2147483647 := iu_195.fi 11 12 9 (by decide) rfl
            have q_206 : (-2147483648) ≤ u_195.1 11 13 ∧ u_195.1 11 13 ≤ 2147483647 := iu_195.fi 11 13 9 (by decide) rfl
            have q_207 : 0 ≤ u_195.1 11 14 ∧ u_195.1 11 14 ≤ 7 := iu_195.fi 11 14 9 (by decide) rfl
            have lk_208 : u_195.1 o 2 = S.1 o 2 := ((fu_195 o (p1_no (tau_ne hm.1 (rfl : tau 11 = .inl 9) (fun h => by cases h)))).1 2).trans (((fu_43 o (p1_no (tau_ne hm.1 (rfl : tau 115 = .inr (.long, 13)) (fun h => by cases h)))).1 2).trans (((fu_37 o (pEx_o (mdl_out hm).2.2)).1 2).trans ((uF_ne (fun h => absurd h.2 (by decide))).trans ((uD_f).trans ((fu_9 o (pEx_o (mdl_out hm).2.2)).1 2)))))
            have lk_209 : u_195.1 o 3 = S.1 o 3 := ((fu_195 o (p1_no (tau_ne hm.1 (rfl : tau 11 = .inl 9) (fun h => by cases h)))).1 3).trans (((fu_43 o (p1_no (tau_ne hm.1 (rfl : tau 115 = .inr (.long, 13)) (fun h => by cases h)))).1 3).trans (((fu_37 o (pEx_o (mdl_out hm).2.2)).1 3).trans ((uF_ne (fun h => absurd h.2 (by decide))).trans ((uD_f).trans ((fu_9 o (pEx_o (mdl_out hm).2.2)).1 3)))))
            exact sZret Cx hr hlk hW hL (by omega) ⟨iu_195, F_198, ⟨⟨⟨⟨(fun i => ((xu_195.2.2.2.2.2.2.2 i).trans (((fu_43 11 rfl).2.2.2 i).trans ((xu_37.1.1.1 i).trans (xu_9.1.1.1 i))))), (fun _ => by first | omega | exact xu_195.1.1.2 (by omega))⟩, by omega, by omega, by omega, by omega, by omega⟩, (fun h => absurd h (by omega)), (fun _ => (eRo_3 e1 (by rw [show (uF (uD u_9 qS 0 115 0 13) 11 13 ((u_9.1 11 13) + 1)).1 11 12 = u_9.1 11 12 by omega] at e2; exact e2) (.inr (by rw [(show (if k a1 = 13 then (2 : Int) else 1) = 2 from if_pos (by omega))]; omega))))⟩, ⟨(by omega), ((show u_195.2.1 (o + 2) = u_43.2.1 (o + 2) from funext fun x => (fu_195 (o + 2) (p1_no (tau_ne hm.2.2.1 (rfl : tau 11 = .inl 9) (fun h => by cases h)))).2.1 x).trans ((show u_43.2.1 (o + 2) = u_37.2.1 (o + 2) from funext fun x => (fu_43 (o + 2) (p1_no (tau_ne hm.2.2.1 (rfl : tau 115 = .inr (.long, 13)) (fun h => by cases h)))).2.1 x).trans ((show u_37.2.1 (o + 2) = (uF (uD u_9 qS 0 115 0 13) 11 13 ((u_9.1 11 13) + 1)).2.1 (o + 2) from funext fun x => (fu_37 (o + 2) (pEx_o (mdl_out2 hm).2.2)).2.1 x).trans ((show (uF (uD u_9 qS 0 115 0 13) 11 13 ((u_9.1 11 13) + 1)).2.1 (o + 2) = (uD u_9 qS 0 115 0 13).2.1 (o + 2) from funext fun x => uF_a).trans ((show (uD u_9 qS 0 115 0 13).2.1 (o + 2) = u_9.2.1 (o + 2) from funext fun x => uD_a).trans (show u_9.2.1 (o + 2) = S.2.1 (o + 2) from funext fun x => (fu_9 (o + 2) (pEx_o (mdl_out2 hm).2.2)).2.1 x))))))⟩, (fun h => absurd h (by omega)), (show OTc S u_195 y from ⟨(((fu_195 y (p1_no (tau_ne hmy.1 (rfl : tau 11 = .inl 9) (fun h => by cases h)))).1 2).trans (((fu_43 y (p1_no (tau_ne hmy.1 (rfl : tau 115 = .inr (.long, 13)) (fun h => by cases h)))).1 2).trans (((fu_37 y (pEx_o (mdl_out hmy).2.2)).1 2).trans ((uF_ne (fun h => absurd h.2 (by decide))).trans ((uD_f).trans ((fu_9 y (pEx_o (mdl_out hmy).2.2)).1 2)))))), (((fu_195 y (p1_no (tau_ne hmy.1 (rfl : tau 11 = .inl 9) (fun h => by cases h)))).1 3).trans (((fu_43 y (p1_no (tau_ne hmy.1 (rfl : tau 115 = .inr (.long, 13)) (fun h => by cases h)))).1 3).trans (((fu_37 y (pEx_o (mdl_out hmy).2.2)).1 3).trans ((uF_ne (fun h => absurd h.2 (by decide))).trans ((uD_f).trans ((fu_9 y (pEx_o (mdl_out hmy).2.2)).1 3)))))), (((fu_195 y (p1_no (tau_ne hmy.1 (rfl : tau 11 = .inl 9) (fun h => by cases h)))).1 4).trans (((fu_43 y (p1_no (tau_ne hmy.1 (rfl : tau 115 = .inr (.long, 13)) (fun h => by cases h)))).1 4).trans (((fu_37 y (pEx_o (mdl_out hmy).2.2)).1 4).trans ((uF_ne (fun h => absurd h.2 (by decide))).trans ((uD_f).trans ((fu_9 y (pEx_o (mdl_out hmy).2.2)).1 4)))))), (funext fun x => ((fu_195 (y + 2) (p1_no (tau_ne hmy.2.2.1 (rfl : tau 11 = .inl 9) (fun h => by cases h)))).2.1 x).trans (((fu_43 (y + 2) (p1_no (tau_ne hmy.2.2.1 (rfl : tau 115 = .inr (.long, 13)) (fun h => by cases h)))).2.1 x).trans (((fu_37 (y + 2) (pEx_o (mdl_out2 hmy).2.2)).2.1 x).trans ((uF_a).trans ((uD_a).trans ((fu_9 (y + 2) (pEx_o (mdl_out2 hmy).2.2)).2.1 x)))))), (funext fun x => ((fu_195 (y + 1) (p1_no (tau_ne hmy.2.1 (rfl : tau 11 = .inl 9) (fun h => by cases h)))).2.1 x).trans (((fu_43 (y + 1) (p1_no (tau_ne hmy.2.1 (rfl : tau 115 = .inr (.long, 13)) (fun h => by cases h)))).2.1 x).trans (((fu_37 (y + 1) (pEx_o (mdl_out1 hmy).2.2)).2.1 x).trans ((uF_a).trans ((uD_a).trans ((fu_9 (y + 1) (pEx_o (mdl_out1 hmy).2.2)).2.1 x))))))⟩)⟩⟩ dX9_tellOneRow_128
      · refine lv_aload_n hx hb dX9_tellOneRow_76 rfl (lv_at hl 1 rfl) ?_
        refine lv_bipush (v := iv 6) hx hb dX9_tellOneRow_77 (by decide) ?_
        refine lv_iload_n hx hb dX9_tellOneRow_79 rfl (lv_at hl 0 rfl) ?_
        have q_210 : (-2147483648) ≤ u_37.1 11 13 ∧ u_37.1 11 13 ≤ 2147483647 := iu_37.fi 11 13 9 (by decide) rfl
        have lk_211 : u_43.1 11 13 = u_37.1 11 13 := (fu_43 11 rfl).1 13
        have q_212 : 0 ≤ u_37.1 11 9 ∧ u_37.1 11 9 ≤ 128 := iu_37.fi 11 9 9 (by decide) rfl
        have lk_213 : u_43.1 11 9 = u_37.1 11 9 := (fu_43 11 rfl).1 9
        have q_214 : 0 ≤ u_37.1 11 10 ∧ u_37.1 11 10 ≤ 8 := iu_37.fi 11 10 9 (by decide) rfl
        have lk_215 : u_43.1 11 10 = u_37.1 11 10 := (fu_43 11 rfl).1 10
        have q_216 : 0 ≤ u_37.1 11 11 ∧ u_37.1 11 11 ≤ 12 := iu_37.fi 11 11 9 (by decide) rfl
        have lk_217 : u_43.1 11 11 = u_37.1 11 11 := (fu_43 11 rfl).1 11
        have q_218 : (-2147483648) ≤ u_37.1 11 12 ∧ u_37.1 11 12 ≤ 2147483647 := iu_37.fi 11 12 9 (by decide) rfl
        have lk_219 : u_43.1 11 12 = u_37.1 11 12 := (fu_43 11 rfl).1 12
        refine sBi (sV (As := [.int (iv 6), .int (iv (u_9.1 11 13))]) (rest := []) (k := 11) Cx (e_X9_fail l G u_43 (k := 6) (tk := u_9.1 11 13) iu_43 (by omega) (by omega)) (c_X9_132 Cx rfl rfl (rmk_ok (by omega) (by decide))) hW (by decide) rfl rfl rfl hl.1 rfl (Nat.le_of_ble_eq_true rfl) dX9_tellOneRow_80 ⟨Nat.le_of_ble_eq_true rfl, Nat.le_of_ble_eq_true rfl⟩) hL (fun r_222 u_220 H locs k_221 hW hL => ?_)
        obtain ⟨iu_220, fu_220, xu_220⟩ := k_221
        have F_223 := F_45.trans (fu_220.to (fun k h => pV_G k ((fun k h => pU_V k ((fun k h => pT_U k (p11_T k h)) k h)) k h)))
        have F_224 := F_46.trans (fu_220.to (p1_sub rfl))
        have q_225 : 0 ≤ S.1 o 4 ∧ S.1 o 4 ≤ 1 := hI.fi o 4 3 (mdl_k hm) hm.1
        have lk_226 : u_220.1 o 4 = S.1 o 4 := ((fu_220 o (p1_no (tau_ne hm.1 (rfl : tau 11 = .inl 9) (fun h => by cases h)))).1 4).trans (((fu_43 o (p1_no (tau_ne hm.1 (rfl : tau 115 = .inr (.long, 13)) (fun h => by cases h)))).1 4).trans (((fu_37 o (pEx_o (mdl_out hm).2.2)).1 4).trans ((uF_ne (fun h => absurd h.2 (by decide))).trans ((uD_f).trans ((fu_9 o (pEx_o (mdl_out hm).2.2)).1 4)))))
        have q_227 : 0 ≤ u_220.1 11 9 ∧ u_220.1 11 9 ≤ 128 := iu_220.fi 11 9 9 (by decide) rfl
        have q_228 : 0 ≤ u_220.1 11 10 ∧ u_220.1 11 10 ≤ 8 := iu_220.fi 11 10 9 (by decide) rfl
        have q_229 : 0 ≤ u_220.1 11 11 ∧ u_220.1 11 11 ≤ 12 := iu_220.fi 11 11 9 (by decide) rfl
        have q_230 : (-2147483648) ≤ u_220.1 11 12 ∧ u_220.1 11 12 ≤ 2147483647 := iu_220.fi 11 12 9 (by decide) rfl
        have q_231 : (-2147483648) ≤ u_220.1 11 13 ∧ u_220.1 11 13 ≤ 2147483647 := iu_220.fi 11 13 9 (by decide) rfl
        have q_232 : 0 ≤ u_220.1 11 14 ∧ u_220.1 11 14 ≤ 7 := iu_220.fi 11 14 9 (by decide) rfl
        have lk_233 : u_220.1 o 2 = S.1 o 2 := ((fu_220 o (p1_no (tau_ne hm.1 (rfl : tau 11 = .inl 9) (fun h => by cases h)))).1 2).trans (((fu_43 o (p1_no (tau_ne hm.1 (rfl : tau 115 = .inr (.long, 13)) (fun h => by cases h)))).1 2).trans (((fu_37 o (pEx_o (mdl_out hm).2.2)).1 2).trans ((uF_ne (fun h => absurd h.2 (by decide))).trans ((uD_f).trans ((fu_9 o (pEx_o (mdl_out hm).2.2)).1 2)))))
        have lk_234 : u_220.1 o 3 = S.1 o 3 := ((fu_220 o (p1_no (tau_ne hm.1 (rfl : tau 11 = .inl 9) (fun h => by cases h)))).1 3).trans (((fu_43 o (p1_no (tau_ne hm.1 (rfl : tau 115 = .inr (.long, 13)) (fun h => by cases h)))).1 3).trans (((fu_37 o (pEx_o (mdl_out hm).2.2)).1 3).trans ((uF_ne (fun h => absurd h.2 (by decide))).trans ((uD_f).trans ((fu_9 o (pEx_o (mdl_out hm).2.2)).1 3)))))
        exact sZret Cx hr hlk hW hL (by omega) ⟨iu_220, F_223, ⟨⟨⟨⟨(fun i => ((xu_220.2.2.2.2.2.2.2 i).trans (((fu_43 11 rfl).2.2.2 i).trans ((xu_37.1.1.1 i).trans (xu_9.1.1.1 i))))), (fun _ => by first | omega | exact xu_220.1.1.2 (by omega))⟩, by omega, by omega, by omega, by omega, by omega⟩, (fun h => absurd h (by omega)), (fun _ => (eRo_3 e1 (by rw [show (uF (uD u_9 qS 0 115 0 13) 11 13 ((u_9.1 11 13) + 1)).1 11 12 = u_9.1 11 12 by omega] at e2; exact e2) (.inl ((veq_grt wS).mp (xu_47.2.1 (by omega))))))⟩, ⟨(by omega), ((show u_220.2.1 (o + 2) = u_43.2.1 (o + 2) from funext fun x => (fu_220 (o + 2) (p1_no (tau_ne hm.2.2.1 (rfl : tau 11 = .inl 9) (fun h => by cases h)))).2.1 x).trans ((show u_43.2.1 (o + 2) = u_37.2.1 (o + 2) from funext fun x => (fu_43 (o + 2) (p1_no (tau_ne hm.2.2.1 (rfl : tau 115 = .inr (.long, 13)) (fun h => by cases h)))).2.1 x).trans ((show u_37.2.1 (o + 2) = (uF (uD u_9 qS 0 115 0 13) 11 13 ((u_9.1 11 13) + 1)).2.1 (o + 2) from funext fun x => (fu_37 (o + 2) (pEx_o (mdl_out2 hm).2.2)).2.1 x).trans ((show (uF (uD u_9 qS 0 115 0 13) 11 13 ((u_9.1 11 13) + 1)).2.1 (o + 2) = (uD u_9 qS 0 115 0 13).2.1 (o + 2) from funext fun x => uF_a).trans ((show (uD u_9 qS 0 115 0 13).2.1 (o + 2) = u_9.2.1 (o + 2) from funext fun x => uD_a).trans (show u_9.2.1 (o + 2) = S.2.1 (o + 2) from funext fun x => (fu_9 (o + 2) (pEx_o (mdl_out2 hm).2.2)).2.1 x))))))⟩, (fun h => absurd h (by omega)), (show OTc S u_220 y from ⟨(((fu_220 y (p1_no (tau_ne hmy.1 (rfl : tau 11 = .inl 9) (fun h => by cases h)))).1 2).trans (((fu_43 y (p1_no (tau_ne hmy.1 (rfl : tau 115 = .inr (.long, 13)) (fun h => by cases h)))).1 2).trans (((fu_37 y (pEx_o (mdl_out hmy).2.2)).1 2).trans ((uF_ne (fun h => absurd h.2 (by decide))).trans ((uD_f).trans ((fu_9 y (pEx_o (mdl_out hmy).2.2)).1 2)))))), (((fu_220 y (p1_no (tau_ne hmy.1 (rfl : tau 11 = .inl 9) (fun h => by cases h)))).1 3).trans (((fu_43 y (p1_no (tau_ne hmy.1 (rfl : tau 115 = .inr (.long, 13)) (fun h => by cases h)))).1 3).trans (((fu_37 y (pEx_o (mdl_out hmy).2.2)).1 3).trans ((uF_ne (fun h => absurd h.2 (by decide))).trans ((uD_f).trans ((fu_9 y (pEx_o (mdl_out hmy).2.2)).1 3)))))), (((fu_220 y (p1_no (tau_ne hmy.1 (rfl : tau 11 = .inl 9) (fun h => by cases h)))).1 4).trans (((fu_43 y (p1_no (tau_ne hmy.1 (rfl : tau 115 = .inr (.long, 13)) (fun h => by cases h)))).1 4).trans (((fu_37 y (pEx_o (mdl_out hmy).2.2)).1 4).trans ((uF_ne (fun h => absurd h.2 (by decide))).trans ((uD_f).trans ((fu_9 y (pEx_o (mdl_out hmy).2.2)).1 4)))))), (funext fun x => ((fu_220 (y + 2) (p1_no (tau_ne hmy.2.2.1 (rfl : tau 11 = .inl 9) (fun h => by cases h)))).2.1 x).trans (((fu_43 (y + 2) (p1_no (tau_ne hmy.2.2.1 (rfl : tau 115 = .inr (.long, 13)) (fun h => by cases h)))).2.1 x).trans (((fu_37 (y + 2) (pEx_o (mdl_out2 hmy).2.2)).2.1 x).trans ((uF_a).trans ((uD_a).trans ((fu_9 (y + 2) (pEx_o (mdl_out2 hmy).2.2)).2.1 x)))))), (funext fun x => ((fu_220 (y + 1) (p1_no (tau_ne hmy.2.1 (rfl : tau 11 = .inl 9) (fun h => by cases h)))).2.1 x).trans (((fu_43 (y + 1) (p1_no (tau_ne hmy.2.1 (rfl : tau 115 = .inr (.long, 13)) (fun h => by cases h)))).2.1 x).trans (((fu_37 (y + 1) (pEx_o (mdl_out1 hmy).2.2)).2.1 x).trans ((uF_a).trans ((uD_a).trans ((fu_9 (y + 1) (pEx_o (mdl_out1 hmy).2.2)).2.1 x))))))⟩)⟩⟩ dX9_tellOneRow_83
    · refine lv_iconst (v := iv 0) hx hb dX9_tellOneRow_50 (by decide) ?_
      have q_235 : 0 ≤ S.1 o 4 ∧ S.1 o 4 ≤ 1 := hI.fi o 4 3 (mdl_k hm) hm.1
      have lk_236 : u_37.1 o 4 = S.1 o 4 := ((fu_37 o (pEx_o (mdl_out hm).2.2)).1 4).trans ((uF_ne (fun h => absurd h.2 (by decide))).trans ((uD_f).trans ((fu_9 o (pEx_o (mdl_out hm).2.2)).1 4)))
      have q_237 : 0 ≤ u_37.1 11 9 ∧ u_37.1 11 9 ≤ 128 := iu_37.fi 11 9 9 (by decide) rfl
      have q_238 : 0 ≤ u_37.1 11 10 ∧ u_37.1 11 10 ≤ 8 := iu_37.fi 11 10 9 (by decide) rfl
      have q_239 : 0 ≤ u_37.1 11 11 ∧ u_37.1 11 11 ≤ 12 := iu_37.fi 11 11 9 (by decide) rfl
      have q_240 : (-2147483648) ≤ u_37.1 11 12 ∧ u_37.1 11 12 ≤ 2147483647 := iu_37.fi 11 12 9 (by decide) rfl
      have q_241 : (-2147483648) ≤ u_37.1 11 13 ∧ u_37.1 11 13 ≤ 2147483647 := iu_37.fi 11 13 9 (by decide) rfl
      have q_242 : 0 ≤ u_37.1 11 14 ∧ u_37.1 11 14 ≤ 7 := iu_37.fi 11 14 9 (by decide) rfl
      have lk_243 : u_37.1 o 2 = S.1 o 2 := ((fu_37 o (pEx_o (mdl_out hm).2.2)).1 2).trans ((uF_ne (fun h => absurd h.2 (by decide))).trans ((uD_f).trans ((fu_9 o (pEx_o (mdl_out hm).2.2)).1 2)))
      have lk_244 : u_37.1 o 3 = S.1 o 3 := ((fu_37 o (pEx_o (mdl_out hm).2.2)).1 3).trans ((uF_ne (fun h => absurd h.2 (by decide))).trans ((uD_f).trans ((fu_9 o (pEx_o (mdl_out hm).2.2)).1 3)))
      exact sZret Cx hr hlk hW hL (by omega) ⟨iu_37, F_40, ⟨⟨⟨⟨(fun i => ((xu_37.1.1.1 i).trans (xu_9.1.1.1 i))), (fun _ => by first | omega | exact xu_37.1.1.2 (by omega))⟩, by omega, by omega, by omega, by omega, by omega⟩, (fun h => absurd h (by omega)), (fun _ => (by have q9 := xu_37.2.2 (by omega); rw [show (uF (uD u_9 qS 0 115 0 13) 11 13 ((u_9.1 11 13) + 1)).1 11 12 = u_9.1 11 12 by omega] at q9; exact eRo_2 e1 q9))⟩, ⟨(by omega), ((show u_37.2.1 (o + 2) = (uF (uD u_9 qS 0 115 0 13) 11 13 ((u_9.1 11 13) + 1)).2.1 (o + 2) from funext fun x => (fu_37 (o + 2) (pEx_o (mdl_out2 hm).2.2)).2.1 x).trans ((show (uF (uD u_9 qS 0 115 0 13) 11 13 ((u_9.1 11 13) + 1)).2.1 (o + 2) = (uD u_9 qS 0 115 0 13).2.1 (o + 2) from funext fun x => uF_a).trans ((show (uD u_9 qS 0 115 0 13).2.1 (o + 2) = u_9.2.1 (o + 2) from funext fun x => uD_a).trans (show u_9.2.1 (o + 2) = S.2.1 (o + 2) from funext fun x => (fu_9 (o + 2) (pEx_o (mdl_out2 hm).2.2)).2.1 x))))⟩, (fun h => absurd h (by omega)), (show OTc S u_37 y from ⟨(((fu_37 y (pEx_o (mdl_out hmy).2.2)).1 2).trans ((uF_ne (fun h => absurd h.2 (by decide))).trans ((uD_f).trans ((fu_9 y (pEx_o (mdl_out hmy).2.2)).1 2)))), (((fu_37 y (pEx_o (mdl_out hmy).2.2)).1 3).trans ((uF_ne (fun h => absurd h.2 (by decide))).trans ((uD_f).trans ((fu_9 y (pEx_o (mdl_out hmy).2.2)).1 3)))), (((fu_37 y (pEx_o (mdl_out hmy).2.2)).1 4).trans ((uF_ne (fun h => absurd h.2 (by decide))).trans ((uD_f).trans ((fu_9 y (pEx_o (mdl_out hmy).2.2)).1 4)))), (funext fun x => ((fu_37 (y + 2) (pEx_o (mdl_out2 hmy).2.2)).2.1 x).trans ((uF_a).trans ((uD_a).trans ((fu_9 (y + 2) (pEx_o (mdl_out2 hmy).2.2)).2.1 x)))), (funext fun x => ((fu_37 (y + 1) (pEx_o (mdl_out1 hmy).2.2)).2.1 x).trans ((uF_a).trans ((uD_a).trans ((fu_9 (y + 1) (pEx_o (mdl_out1 hmy).2.2)).2.1 x))))⟩)⟩⟩ dX9_tellOneRow_51
  · refine lv_iconst (v := iv 0) hx hb dX9_tellOneRow_8 (by decide) ?_
    have q_245 : 0 ≤ S.1 o 4 ∧ S.1 o 4 ≤ 1 := hI.fi o 4 3 (mdl_k hm) hm.1
    have lk_246 : u_9.1 o 4 = S.1 o 4 := (fu_9 o (pEx_o (mdl_out hm).2.2)).1 4
    have q_247 : 0 ≤ u_9.1 11 9 ∧ u_9.1 11 9 ≤ 128 := iu_9.fi 11 9 9 (by decide) rfl
    have q_248 : 0 ≤ u_9.1 11 10 ∧ u_9.1 11 10 ≤ 8 := iu_9.fi 11 10 9 (by decide) rfl
    have q_249 : 0 ≤ u_9.1 11 11 ∧ u_9.1 11 11 ≤ 12 := iu_9.fi 11 11 9 (by decide) rfl
    have q_250 : (-2147483648) ≤ u_9.1 11 12 ∧ u_9.1 11 12 ≤ 2147483647 := iu_9.fi 11 12 9 (by decide) rfl
    have q_251 : (-2147483648) ≤ u_9.1 11 13 ∧ u_9.1 11 13 ≤ 2147483647 := iu_9.fi 11 13 9 (by decide) rfl
    have q_252 : 0 ≤ u_9.1 11 14 ∧ u_9.1 11 14 ≤ 7 := iu_9.fi 11 14 9 (by decide) rfl
    have lk_253 : u_9.1 o 2 = S.1 o 2 := (fu_9 o (pEx_o (mdl_out hm).2.2)).1 2
    have lk_254 : u_9.1 o 3 = S.1 o 3 := (fu_9 o (pEx_o (mdl_out hm).2.2)).1 3
    exact sZret Cx hr hlk hW hL (by omega) ⟨iu_9, F_12, ⟨⟨⟨⟨(fun i => (xu_9.1.1.1 i)), (fun _ => by first | omega | exact xu_9.1.1.2 (by omega))⟩, by omega, by omega, by omega, by omega, by omega⟩, (fun h => absurd h (by omega)), (fun _ => (eRo_1 (xu_9.2.2 (by omega))))⟩, ⟨(by omega), (show u_9.2.1 (o + 2) = S.2.1 (o + 2) from funext fun x => (fu_9 (o + 2) (pEx_o (mdl_out2 hm).2.2)).2.1 x)⟩, (fun h => absurd h (by omega)), (show OTc S u_9 y from ⟨((fu_9 y (pEx_o (mdl_out hmy).2.2)).1 2), ((fu_9 y (pEx_o (mdl_out hmy).2.2)).1 3), ((fu_9 y (pEx_o (mdl_out hmy).2.2)).1 4), (funext fun x => (fu_9 (y + 2) (pEx_o (mdl_out2 hmy).2.2)).2.1 x), (funext fun x => (fu_9 (y + 1) (pEx_o (mdl_out1 hmy).2.2)).2.1 x)⟩)⟩⟩ dX9_tellOneRow_9

set_option maxRecDepth 100000 in
set_option maxHeartbeats 4000000 in
theorem f_X9_tellRow (l : Launch) (G : sG) (S : sS) {M : sM} {k v : Int → Int} {T pz q : Int} {o : Nat} {y : Nat} (hI : cX G S 0 0 0) (hm : mdl o) (hM : Hd (MRc M S G o)) (hTV : Hd (TVn k v)) (hkv : Hd (KV S k v T)) (hfk : S.1 11 14 = 0) (hat : S.1 11 13 = pz) (hpz : 0 ≤ pz ∧ pz ≤ 2000) (hqb : q ≤ 2001) (hmy : mdl y) (hny : Hd (y ≠ o)) (hg : Hd (∃ b a1 b1, ((k (pz + 2) ≠ 17 ∧ b = pz + 2) ∨ (k (pz + 2) = 17 ∧ b = pz + 7)) ∧ k b = 24 ∧ ogU T k (ogF T k 30) (b + 1) = some a1 ∧ (k a1 = 25 ∨ k a1 = 26 ∨ k a1 = 13) ∧ ogU T k (ogF T k 30) (a1 + 1) = some b1 ∧ k b1 = 15 ∧ q = b1 + 1)) : Met l yX9_tellRow (.code yX9_tellRow cX9_tellRow 7 (some .boolean) :: tb) (rmk 134 0 0) (sPc G 294 S [.ref (G.2.2.1 + 11)]) (sQi G 294 (fun r u => cX G u 0 0 0 ∧ Fr S u pG ∧ (MOc S u G o q r (eDr T k v M pz) ∧ Hd (r = 1 → WXc S o M → ∀ M2, eDr T k v M pz = some (M2, q) → WXc u o M2) ∧ Hd (r = 1 → ∀ X, XAc S o 1 X → XAc u o 1 (aDr T k v M pz X.1, X.2)) ∧ Hd (OTc S u y)))) 0 0 (sF G) := by
  refine sEnter (by decide) (Nat.le_of_ble_eq_true rfl) ?_
  intro p e s m args below meth c Cx hr hlk hnm hW ls hl
  have Cx : sC G p m c cX9_tellRow 7 s args RX9 := Cx
  obtain ⟨hx, hb, hml, hown, hts⟩ := id Cx.1
  have hL : sL G [] := sL_nil
  have hl : lv_has ls 7 [(0, .ref (G.2.2.1 + 11))] := hl
  have hW0 := hW
  obtain ⟨hN, hK, d0, d1, d2, d3, d4, ds, hbs, hrf⟩ := id hM
  have hkn : 0 ≤ S.1 11 9 ∧ S.1 11 9 ≤ 128 := hI.fi 11 9 9 (by decide) rfl
  have hTb : 0 ≤ S.1 12 3 ∧ S.1 12 3 ≤ 2001 := hI.fi 12 3 8 (by decide) rfl
  have hTe := hkv.2.2
  have hN1 := hN.1
  have hny1 : y ≠ o := hny
  obtain ⟨b, a1, b1, hri, hb24, hE1, hrel, hE2, hb15, hgq⟩ := hg
  have hri : Hd _ := hri; have hrel : Hd _ := hrel; have hbl := hkv.lt hb24 (by decide); have hb1l := hkv.lt hb15 (by decide)
  refine lv_aload_n hx hb dX9_tellRow_0 rfl (lv_at hl 0 rfl) ?_
  have q_1 : (-2147483648) ≤ S.1 11 13 ∧ S.1 11 13 ≤ 2147483647 := hI.fi 11 13 9 (by decide) rfl
  refine g_X9_89 Cx hW (k := 11) (by decide) rfl (v := S.1 11 13) rfl dX9_tellRow_1 ?_
  refine lv_iconst (v := iv 1) hx hb dX9_tellRow_4 (by decide) ?_
  refine r_iadd hx hb dX9_tellRow_5 ?_
  refine lv_istore_n (lv' := [(1, .int (iv ((S.1 11 13) + 1))), (0, .ref (G.2.2.1 + 11))]) hx hb dX9_tellRow_6 rfl hl (by decide) rfl (fun ls hl => ?_)
  refine lv_aload_n hx hb dX9_tellRow_7 rfl (lv_at hl 1 rfl) ?_
  refine lv_iload_n hx hb dX9_tellRow_8 rfl (lv_at hl 0 rfl) ?_
  refine lv_bipush (v := iv 10) hx hb dX9_tellRow_9 (by decide) ?_
  have q_2 : 0 ≤ S.1 11 10 ∧ S.1 11 10 ≤ 8 := hI.fi 11 10 9 (by decide) rfl
  have q_3 : 0 ≤ S.1 11 11 ∧ S.1 11 11 ≤ 12 := hI.fi 11 11 9 (by decide) rfl
  have q_4 : (-2147483648) ≤ S.1 11 12 ∧ S.1 11 12 ≤ 2147483647 := hI.fi 11 12 9 (by decide) rfl
  have q_5 : 0 ≤ S.1 11 9 ∧ S.1 11 9 ≤ 128 := hI.fi 11 9 9 (by decide) rfl
  have q_6 : 0 ≤ S.1 11 14 ∧ S.1 11 14 ≤ 7 := hI.fi 11 14 9 (by decide) rfl
  refine sBi (sV (As := [.int (iv ((S.1 11 13) + 1)), .int (iv 10)]) (rest := []) (k := 11) Cx (e_X9_learn l G S (tk := (S.1 11 13) + 1) (so := 10) hI (by omega) (by omega)) (c_X9_140 Cx rfl rfl (rmk_ok (by omega) (by decide))) hW (by decide) rfl rfl rfl hl.1 rfl (Nat.le_of_ble_eq_true rfl) dX9_tellRow_11 ⟨Nat.le_of_ble_eq_true rfl, Nat.le_of_ble_eq_true rfl⟩) hL (fun r_9 u_7 H locs k_8 hW hL => ?_)
  obtain ⟨iu_7, fu_7, xu_7⟩ := k_8
  have F_10 := (Fr.rf : Fr S S pG).trans (fu_7.to (fun k h => pV_G k ((fun k h => pU_V k (pT_U k h)) k h)))
  have zt : vd S (S.1 11 13 + 1) = v (pz + 1) := (by rw [hkv.2.1, hat])
  refine r_if_ge (tgt := 19) hx hb ⟨(by omega), (by omega)⟩ dX9_tellRow_14 (by decide) (fun c_11 => ?_) (fun c_11 => ?_)
  · obtain ⟨hr0, h14, hne, hle⟩ := xu_7.2.1 (by omega)
    rw [zt] at hne hle
    have hfn : eFind M.1 (v (pz + 1)) = -1 := (by rw [hN.find]; exact hne)
    have hq0 : LQ S u_7 M.1.1 (v (pz + 1)) 10 (-1) (-1) := hle.lq (by omega)
    have hk9 := hq0.1
    have hN1r : NRc (rN M (v (pz + 1))) u_7 := hN.added hK NF_10 (by omega) hq0.1 hq0.2.1 hq0.2.2.1 (fun s _ _ _ o _ _ => (fu_7 18 rfl).2.1 _) hq0.2.2.2.1 (fun z => absurd (fct0.symm.trans z) (by decide)) (fun z => absurd (fct0.symm.trans z) (by decide)) (fun z => by rcases z with z | z <;> exact absurd (fct0.symm.trans z) (by decide)) (fun z => by rcases z with z | z <;> exact absurd (fct0.symm.trans z) (by decide)) (fun z => absurd (fct0.symm.trans z) (by decide))
    have hK1 : NK (rN M (v (pz + 1))) := hK.added (by omega) hfn NF_10
    have hn1e : (rN M (v (pz + 1))).1 = M.1.1 + 1 := rfl
    refine lv_aload_n hx hb dX9_tellRow_19 rfl (lv_at hl 1 rfl) ?_
    refine lv_dup hx hb dX9_tellRow_20 rfl ?_
    have q_12 : (-2147483648) ≤ u_7.1 11 13 ∧ u_7.1 11 13 ≤ 2147483647 := iu_7.fi 11 13 9 (by decide) rfl
    refine g_X9_89 Cx hW (k := 11) (by decide) rfl (v := u_7.1 11 13) rfl dX9_tellRow_21 ?_
    refine lv_iconst (v := iv 2) hx hb dX9_tellRow_24 (by decide) ?_
    refine r_iadd hx hb dX9_tellRow_25 ?_
    refine p_X9_89 Cx hW hL (k := 11) (by decide) rfl dX9_tellRow_26 (fun H locs hW hL => ?_)
    have F_13 : Fr S (uF u_7 11 13 ((u_7.1 11 13) + 2)) pG := F_10.F rfl
    have F_14 : Fr u_7 (uF u_7 11 13 ((u_7.1 11 13) + 2)) pRm := (Fr.rf : Fr u_7 u_7 pRm).F rfl
    have F_15 : Fr u_7 (uF u_7 11 13 ((u_7.1 11 13) + 2)) pRm := (Fr.rf : Fr u_7 u_7 pRm).F rfl
    have i_16 : cX G (uF u_7 11 13 ((u_7.1 11 13) + 2)) 0 0 0 := iu_7.F rfl rfl (show (-2147483648) ≤ (u_7.1 11 13) + 2 ∧ (u_7.1 11 13) + 2 ≤ 2147483647 from ⟨by omega, by omega⟩)
    refine lv_aload_n hx hb dX9_tellRow_29 rfl (lv_at hl 1 rfl) ?_
    refine g_X9_14 Cx hW (k := 11) (by decide) rfl (v := .ref (G.2.2.1 + 12)) (rf_11_0 i_16) dX9_tellRow_30 ?_
    refine lv_aload_n hx hb dX9_tellRow_33 rfl (lv_at hl 1 rfl) ?_
    refine g_X9_89 Cx hW (k := 11) (by decide) rfl (v := (u_7.1 11 13) + 2) uF_on dX9_tellRow_34 ?_
    refine sBi (sV (As := [.int (iv ((u_7.1 11 13) + 2))]) (rest := []) (k := 12) Cx (s_X8_kind l G (uF u_7 11 13 ((u_7.1 11 13) + 2)) (k := (u_7.1 11 13) + 2) i_16 (by omega)) (c_X9_95 Cx rfl rfl (rmk_ok (by omega) (by decide))) hW (by decide) rfl rfl rfl hl.1 rfl (Nat.le_of_ble_eq_true rfl) dX9_tellRow_37 ⟨Nat.le_of_ble_eq_true rfl, Nat.le_of_ble_eq_true rfl⟩) hL (fun r_19 u_17 H locs k_18 hW hL => ?_)
    obtain ⟨eu_17, xu_17⟩ := k_18
    rw [eu_17] at hW
    have kv_20 : KV (uF u_7 11 13 ((u_7.1 11 13) + 2)) k v T := hkv.fr F_13 rfl rfl rfl
    have k2 : r_19 = k (pz + 2) := (by rw [← kv_20.1]; exact xu_17.1.trans (congrArg (kd _) (by omega)))
    refine lv_bipush (v := iv 17) hx hb dX9_tellRow_40 (by decide) ?_
    refine r_icmp_eq (tgt := 61) hx hb ⟨(by omega), (by omega)⟩ ⟨(by omega), (by omega)⟩ dX9_tellRow_42 (by decide) (fun c_21 => ?_) (fun c_21 => ?_)
    · have hb0 : b = pz + 7 := (by rcases hri with z | z; (exact absurd (by omega) z.1); (exact z.2))
      have hga : Hd (ogU T k (ogF T k 30) (pz + 8) = some a1) := (by rw [show pz + 8 = b + 1 by omega]; exact hE1)
      refine lv_aload_n hx hb dX9_tellRow_61 rfl (lv_at hl 1 rfl) ?_
      refine lv_aload_n hx hb dX9_tellRow_62 rfl (lv_at hl 1 rfl) ?_
      refine g_X9_14 Cx hW (k := 11) (by decide) rfl (v := .ref (G.2.2.1 + 12)) (rf_11_0 i_16) dX9_tellRow_63 ?_
      refine lv_aload_n hx hb dX9_tellRow_66 rfl (lv_at hl 1 rfl) ?_
      refine g_X9_89 Cx hW (k := 11) (by decide) rfl (v := (u_7.1 11 13) + 2) uF_on dX9_tellRow_67 ?_
      refine lv_iconst (v := iv 3) hx hb dX9_tellRow_70 (by decide) ?_
      refine r_iadd hx hb dX9_tellRow_71 ?_
      refine sBl (sV (As := [.int (iv (((u_7.1 11 13) + 2) + 3))]) (rest := [.ref (G.2.2.1 + 11)]) (k := 12) Cx (s_X8_value l G (uF u_7 11 13 ((u_7.1 11 13) + 2)) (k := ((u_7.1 11 13) + 2) + 3) i_16 (by omega)) (c_X9_124 Cx rfl rfl (rmk_ok (by omega) (by decide))) hW (by decide) rfl rfl rfl hl.1 rfl (Nat.le_of_ble_eq_true rfl) dX9_tellRow_72 ⟨Nat.le_of_ble_eq_true rfl, Nat.le_of_ble_eq_true rfl⟩) hL (fun r_24 u_22 H locs k_23 hW hL => ?_)
      obtain ⟨eu_22, xu_22⟩ := k_23
      rw [eu_22] at hW
      have vx5 : r_24 = v (pz + 5) := (by rw [← kv_20.2.1]; exact xu_22.1.trans (congrArg (vd _) (by omega)))
      have q_25 : 0 ≤ u_7.1 11 9 ∧ u_7.1 11 9 ≤ 128 := iu_7.fi 11 9 9 (by decide) rfl
      have lk_26 : (uF u_7 11 13 ((u_7.1 11 13) + 2)).1 11 9 = u_7.1 11 9 := uF_ne (fun h => absurd h.2 (by decide))
      refine sBi (sV (As := [.long (jv r_24)]) (rest := []) (k := 11) Cx (e_X9_find l G (uF u_7 11 13 ((u_7.1 11 13) + 2)) (nm := r_24) i_16 (by omega)) (c_X9_128 Cx rfl rfl (rmk_ok (by omega) (by decide))) hW (by decide) rfl rfl rfl hl.1 rfl (Nat.le_of_ble_eq_true rfl) dX9_tellRow_75 ⟨Nat.le_of_ble_eq_true rfl, Nat.le_of_ble_eq_true rfl⟩) hL (fun r_29 u_27 H locs k_28 hW hL => ?_)
      obtain ⟨eu_27, xu_27⟩ := k_28
      rw [eu_27] at hW
      have nr_30 : NRc (rN M (v (pz + 1))) (uF u_7 11 13 ((u_7.1 11 13) + 2)) := hN1r.of (by omega) (fun j => (F_15 16 rfl).2.2.1 j) (fun j => (F_15 17 rfl).2.1 j) (fun j => (F_15 18 rfl).2.1 j)
      have f0 : r_29 = eFind (rN M (v (pz + 1))) (v (pz + 5)) := (by rw [nr_30.find, ← vx5]; exact xu_27.2)
      refine lv_istore_n (lv' := [(2, .int (iv r_29)), (1, .int (iv ((S.1 11 13) + 1))), (0, .ref (G.2.2.1 + 11))]) hx hb dX9_tellRow_78 rfl hl (by decide) rfl (fun ls hl => ?_)
      refine lv_aload_n hx hb dX9_tellRow_79 rfl (lv_at hl 2 rfl) ?_
      refine lv_aload_n hx hb dX9_tellRow_80 rfl (lv_at hl 2 rfl) ?_
      refine g_X9_89 Cx hW (k := 11) (by decide) rfl (v := (u_7.1 11 13) + 2) uF_on dX9_tellRow_81 ?_
      refine lv_iconst (v := iv 1) hx hb dX9_tellRow_84 (by decide) ?_
      refine r_iadd hx hb dX9_tellRow_85 ?_
      refine lv_iconst (v := iv 2) hx hb dX9_tellRow_86 (by decide) ?_
      have q_31 : 0 ≤ u_7.1 11 10 ∧ u_7.1 11 10 ≤ 8 := iu_7.fi 11 10 9 (by decide) rfl
      have lk_32 : (uF u_7 11 13 ((u_7.1 11 13) + 2)).1 11 10 = u_7.1 11 10 := uF_ne (fun h => absurd h.2 (by decide))
      have q_33 : 0 ≤ u_7.1 11 11 ∧ u_7.1 11 11 ≤ 12 := iu_7.fi 11 11 9 (by decide) rfl
      have lk_34 : (uF u_7 11 13 ((u_7.1 11 13) + 2)).1 11 11 = u_7.1 11 11 := uF_ne (fun h => absurd h.2 (by decide))
      have q_35 : (-2147483648) ≤ u_7.1 11 12 ∧ u_7.1 11 12 ≤ 2147483647 := iu_7.fi 11 12 9 (by decide) rfl
      have lk_36 : (uF u_7 11 13 ((u_7.1 11 13) + 2)).1 11 12 = u_7.1 11 12 := uF_ne (fun h => absurd h.2 (by decide))
      have lk_37 : (uF u_7 11 13 ((u_7.1 11 13) + 2)).1 11 13 = (u_7.1 11 13) + 2 := uF_on
      have q_38 : 0 ≤ u_7.1 11 14 ∧ u_7.1 11 14 ≤ 7 := iu_7.fi 11 14 9 (by decide) rfl
      have lk_39 : (uF u_7 11 13 ((u_7.1 11 13) + 2)).1 11 14 = u_7.1 11 14 := uF_ne (fun h => absurd h.2 (by decide))
      have q_40 : 0 ≤ S.1 o 2 ∧ S.1 o 2 ≤ 12 := hI.fi o 2 3 (mdl_k hm) hm.1
      have lk_41 : (uF u_7 11 13 ((u_7.1 11 13) + 2)).1 o 2 = S.1 o 2 := (uF_ne (fun h => absurd h.2 (by decide))).trans ((fu_7 o (mdl_out hm).1).1 2)
      have q_42 : 0 ≤ S.1 o 3 ∧ S.1 o 3 ≤ 16 := hI.fi o 3 3 (mdl_k hm) hm.1
      have lk_43 : (uF u_7 11 13 ((u_7.1 11 13) + 2)).1 o 3 = S.1 o 3 := (uF_ne (fun h => absurd h.2 (by decide))).trans ((fu_7 o (mdl_out hm).1).1 3)
      refine sBi (sV (As := [.int (iv (((u_7.1 11 13) + 2) + 1)), .int (iv 2)]) (rest := []) (k := 11) Cx (e_X9_learn l G (uF u_7 11 13 ((u_7.1 11 13) + 2)) (tk := ((u_7.1 11 13) + 2) + 1) (so := 2) i_16 (by omega) (by omega)) (c_X9_140 Cx rfl rfl (rmk_ok (by omega) (by decide))) hW (by decide) rfl rfl rfl hl.1 rfl (Nat.le_of_ble_eq_true rfl) dX9_tellRow_87 ⟨Nat.le_of_ble_eq_true rfl, Nat.le_of_ble_eq_true rfl⟩) hL (fun r_46 u_44 H locs k_45 hW hL => ?_)
      obtain ⟨iu_44, fu_44, xu_44⟩ := k_45
      have F_47 := F_13.trans (fu_44.to (fun k h => pV_G k ((fun k h => pU_V k (pT_U k h)) k h)))
      have zt2 : vd (uF u_7 11 13 ((u_7.1 11 13) + 2)) (((u_7.1 11 13) + 2) + 1) = v (pz + 3) := (by rw [kv_20.2.1, show ((u_7.1 11 13) + 2) + 1 = pz + 3 by omega])
      refine lv_istore_n (lv' := [(3, .int (iv r_46)), (2, .int (iv r_29)), (1, .int (iv ((S.1 11 13) + 1))), (0, .ref (G.2.2.1 + 11))]) hx hb dX9_tellRow_90 rfl hl (by decide) rfl (fun ls hl => ?_)
      refine lv_iload_n hx hb dX9_tellRow_91 rfl (lv_at hl 0 rfl) ?_
      refine r_if_ge (tgt := 97) hx hb ⟨(by omega), (by omega)⟩ dX9_tellRow_92 (by decide) (fun c_48 => ?_) (fun c_48 => ?_)
      · obtain ⟨hr1, h142, hne2, hle2⟩ := xu_44.2.1 (by omega)
        rw [zt2] at hne2 hle2
        have hfn2 : eFind (rN M (v (pz + 1))) (v (pz + 3)) = -1 := (by rw [nr_30.find]; exact hne2)
        have hp0 := NRc.pushed nr_30 hK1 hle2 (by omega)
        have hpf : Hd (∀ s, 0 ≤ s → s < (rN M (v (pz + 1))).1 → fc u_44 s 0 = (rN M (v (pz + 1))).2.2.1 s 0) := (fun s a b => by rw [← (hp0.2.2 s a (show s < (rN M (v (pz + 1))).1 + 1 by omega)).1]; exact if_neg (by omega))
        refine lv_aload_n hx hb dX9_tellRow_97 rfl (lv_at hl 3 rfl) ?_
        refine lv_iload_n hx hb dX9_tellRow_98 rfl (lv_at hl 1 rfl) ?_
        refine lv_bipush (v := iv 6) hx hb dX9_tellRow_99 (by decide) ?_
        refine sBi (sV (As := [.int (iv r_29), .int (iv 6)]) (rest := []) (k := 11) Cx (e_X9_isSort l G u_44 (s0 := r_29) (k := 6) iu_44 (by omega) (by omega)) (c_X9_146 Cx rfl rfl (rmk_ok (by omega) (by decide))) hW (by decide) rfl rfl rfl hl.1 rfl (Nat.le_of_ble_eq_true rfl) dX9_tellRow_101 ⟨Nat.le_of_ble_eq_true rfl, Nat.le_of_ble_eq_true rfl⟩) hL (fun r_51 u_49 H locs k_50 hW hL => ?_)
        obtain ⟨eu_49, xu_49⟩ := k_50
        rw [eu_49] at hW
        refine r_if_ne (tgt := 119) hx hb ⟨(by omega), (by omega)⟩ dX9_tellRow_104 (by decide) (fun c_52 => ?_) (fun c_52 => ?_)
        · have hs6 := xu_49.2.1 (by omega)
          have hsl := eFind_lt (N := rN M (v (pz + 1))) (x := v (pz + 5)) (by omega)
          have hsN : 0 ≤ r_29 ∧ r_29 < (rN M (v (pz + 1))).1 := ⟨hs6.1, by omega⟩
          have h6 : (rN M (v (pz + 1))).2.2.1 r_29 0 = 6 := (hpf _ hsN.1 hsN.2).symm.trans hs6.2
          have hsm : r_29 ≠ M.1.1 := (fun z => by have h7 := h6; rw [z] at h7; have h8 : (rN M (v (pz + 1))).2.2.1 M.1.1 = _ := add_n; rw [h8] at h7; exact absurd h7 (by decide))
          have ea : (rN M (v (pz + 1))).2.2.1 r_29 = M.1.2.2.1 r_29 := add_o hsm
          have hb6 := (hK1.2 _ hsN.1 hsN.2).2.1 h6
          have he6 := hp0.set6 hsN.1 hsN.2 h6
          rw [ea] at hb6 he6
          refine lv_aload_n hx hb dX9_tellRow_119 rfl (lv_at hl 3 rfl) ?_
          have q_53 : (-2147483648) ≤ u_44.1 11 13 ∧ u_44.1 11 13 ≤ 2147483647 := iu_44.fi 11 13 9 (by decide) rfl
          refine g_X9_89 Cx hW (k := 11) (by decide) rfl (v := u_44.1 11 13) rfl dX9_tellRow_120 ?_
          refine lv_bipush (v := iv 6) hx hb dX9_tellRow_123 (by decide) ?_
          refine r_iadd hx hb dX9_tellRow_125 ?_
          refine lv_istore (lv' := [(4, .int (iv ((u_44.1 11 13) + 6))), (3, .int (iv r_46)), (2, .int (iv r_29)), (1, .int (iv ((S.1 11 13) + 1))), (0, .ref (G.2.2.1 + 11))]) hx hb dX9_tellRow_126 hl (by decide) rfl (fun ls hl => ?_)
          refine lv_aload_n hx hb dX9_tellRow_128 rfl (lv_at hl 4 rfl) ?_
          refine lv_iload_n hx hb dX9_tellRow_129 rfl (lv_at hl 2 rfl) ?_
          refine lv_iconst (v := iv 2) hx hb dX9_tellRow_130 (by decide) ?_
          refine sBi (sV (As := [.int (iv r_29), .int (iv 2)]) (rest := []) (k := 11) Cx (s_X9_fact l G u_44 (s0 := r_29) (q := 2) iu_44 (by omega) (by omega)) (c_X9_120 Cx rfl rfl (rmk_ok (by omega) (by decide))) hW (by decide) rfl rfl rfl hl.1 rfl (Nat.le_of_ble_eq_true rfl) dX9_tellRow_131 ⟨Nat.le_of_ble_eq_true rfl, Nat.le_of_ble_eq_true rfl⟩) hL (fun r_56 u_54 H locs k_55 hW hL => ?_)
          obtain ⟨eu_54, xu_54⟩ := k_55
          rw [eu_54] at hW
          have yu_54 := xu_54.2
          unfold fr8 at yu_54
          have ehi : r_56 = M.1.2.2.1 r_29 2 := xu_54.1.trans he6.2
          refine lv_istore (lv' := [(5, .int (iv r_56)), (4, .int (iv ((u_44.1 11 13) + 6))), (3, .int (iv r_46)), (2, .int (iv r_29)), (1, .int (iv ((S.1 11 13) + 1))), (0, .ref (G.2.2.1 + 11))]) hx hb dX9_tellRow_134 hl (by decide) rfl (fun ls hl => ?_)
          refine lv_aload_n hx hb dX9_tellRow_136 rfl (lv_at hl 5 rfl) ?_
          refine lv_iload_n hx hb dX9_tellRow_137 rfl (lv_at hl 3 rfl) ?_
          refine lv_iconst (v := iv 1) hx hb dX9_tellRow_138 (by decide) ?_
          refine sBi (sV (As := [.int (iv r_29), .int (iv 1)]) (rest := []) (k := 11) Cx (s_X9_fact l G u_44 (s0 := r_29) (q := 1) iu_44 (by omega) (by omega)) (c_X9_120 Cx rfl rfl (rmk_ok (by omega) (by decide))) hW (by decide) rfl rfl rfl hl.1 rfl (Nat.le_of_ble_eq_true rfl) dX9_tellRow_139 ⟨Nat.le_of_ble_eq_true rfl, Nat.le_of_ble_eq_true rfl⟩) hL (fun r_59 u_57 H locs k_58 hW hL => ?_)
          obtain ⟨eu_57, xu_57⟩ := k_58
          rw [eu_57] at hW
          have yu_57 := xu_57.2
          unfold fr8 at yu_57
          have elo : r_59 = M.1.2.2.1 r_29 1 := xu_57.1.trans he6.1
          have q_60 : 0 ≤ u_44.1 11 9 ∧ u_44.1 11 9 ≤ 128 := iu_44.fi 11 9 9 (by decide) rfl
          have q_61 : 0 ≤ u_44.1 11 10 ∧ u_44.1 11 10 ≤ 8 := iu_44.fi 11 10 9 (by decide) rfl
          have q_62 : 0 ≤ u_44.1 11 11 ∧ u_44.1 11 11 ≤ 12 := iu_44.fi 11 11 9 (by decide) rfl
          have q_63 : (-2147483648) ≤ u_44.1 11 12 ∧ u_44.1 11 12 ≤ 2147483647 := iu_44.fi 11 12 9 (by decide) rfl
          have q_64 : 0 ≤ u_44.1 11 14 ∧ u_44.1 11 14 ≤ 7 := iu_44.fi 11 14 9 (by decide) rfl
          have lk_65 : u_44.1 o 2 = S.1 o 2 := ((fu_44 o (mdl_out hm).1).1 2).trans ((uF_ne (fun h => absurd h.2 (by decide))).trans ((fu_7 o (mdl_out hm).1).1 2))
          have lk_66 : u_44.1 o 3 = S.1 o 3 := ((fu_44 o (mdl_out hm).1).1 3).trans ((uF_ne (fun h => absurd h.2 (by decide))).trans ((fu_7 o (mdl_out hm).1).1 3))
          refine lv_istore (lv' := [(6, .int (iv r_59)), (5, .int (iv r_56)), (4, .int (iv ((u_44.1 11 13) + 6))), (3, .int (iv r_46)), (2, .int (iv r_29)), (1, .int (iv ((S.1 11 13) + 1))), (0, .ref (G.2.2.1 + 11))]) hx hb dX9_tellRow_142 hl (by decide) rfl (fun ls hl => ?_)
          have loop_144 : ∀ (fuel : Nat) (S144 : sS) (va : Int) (H : Heap) (locs : List Loc) (ls : Array Slot), (r_56 + 1 - va).toNat < fuel → (cX G S144 0 0 0) → (Fr S S144 pG) → (Fr u_44 S144 pG) → (Hd (RK S S144)) → (r_59 ≤ va ∧ va ≤ r_56 + 1) → (Hd (r_59 < va → S144.1 11 13 = q ∧ S.1 o 3 < S144.1 o 3)) → (S144.1 11 14 = 0 ∧ S144.1 11 10 = S.1 11 10 ∧ S144.1 11 11 = S.1 11 11) → (S144.1 o 2 = S.1 o 2 ∧ S.1 o 3 ≤ S144.1 o 3 ∧ S144.1 o 3 ≤ 16 ∧ S144.1 o 4 = S.1 o 4) → (Hd (S144.2.1 (o + 2) = S.2.1 (o + 2))) → (Hd (OTc S S144 y)) → (Hd (∀ X, XAc S o 1 X → ∃ A, XAc S144 o 1 (A, X.2) ∧ aRn T k v (rN M (v (pz + 1))) (v (pz + 3)) (pz + 8) (r_56 + 1 - va).toNat va A (S144.1 o 3) (S144.1 11 12) = aDr T k v M pz X.1)) → (0 ≤ S144.1 11 12 ∧ S144.1 11 12 ≤ 20000) → (Hd (∃ w, NRc (push (rN M (v (pz + 1))) (v (pz + 3)) w) S144)) → (Hd (eDr T k v M pz = (eRn T k v (rN M (v (pz + 1))) (v (pz + 3)) (pz + 8) (r_56 + 1 - va).toNat va (S144.1 o 3) (S144.1 11 12) q).bind (fun y => some (rM M (v (pz + 1)) y, y.2.2)))) → sW G 294 S144 H → sL G locs → lv_has ls 7 [(6, .int (iv va)), (5, .int (iv r_56)), (4, .int (iv ((u_44.1 11 13) + 6))), (3, .int (iv r_46)), (2, .int (iv r_29)), (1, .int (iv ((S.1 11 13) + 1))), (0, .ref (G.2.2.1 + 11))] → W p l e (rmk 134 0 0) s m args below meth c H locs 0 0 (MQ below (sQi G 294 (fun r u => cX G u 0 0 0 ∧ Fr S u pG ∧ (MOc S u G o q r (eDr T k v M pz) ∧ Hd (r = 1 → WXc S o M → ∀ M2, eDr T k v M pz = some (M2, q) → WXc u o M2) ∧ Hd (r = 1 → ∀ X, XAc S o 1 X → XAc u o 1 (aDr T k v M pz X.1, X.2)) ∧ Hd (OTc S u y)))) args s 0 0 (sF G)) (F0 m 144 ls []) := by
            intro fuel
            induction fuel with
            | zero => intro S144 va H locs ls hmeas hI144 hFm144 hL144_ hRK hva hpo hf81 hmo hkm hyy hXA hl81 hNP hTO hW hL hl; exact absurd hmeas (Nat.not_lt_zero _)
            | succ fuel ih_144 =>
              intro S144 va H locs ls hmeas hI144 hFm144 hL144_ hRK hva hpo hf81 hmo hkm hyy hXA hl81 hNP hTO hW hL hl
              obtain ⟨w0, hNw⟩ := hNP
              have hk81 : M.1.1 + 1 + 1 = S144.1 11 9 := hNw.1.1
              refine lv_iload hx hb dX9_tellRow_144 (lv_at hl 0 rfl) ?_
              refine lv_iload hx hb dX9_tellRow_146 (lv_at hl 1 rfl) ?_
              refine r_icmp_gt (tgt := 181) hx hb ⟨(by omega), (by omega)⟩ ⟨(by omega), (by omega)⟩ dX9_tellRow_148 (by decide) (fun c_67 => ?_) (fun c_67 => ?_)
              · refine lv_aload_n hx hb dX9_tellRow_181 rfl (lv_at hl 6 rfl) ?_
                have q_68 : 0 ≤ S144.1 11 9 ∧ S144.1 11 9 ≤ 128 := hI144.fi 11 9 9 (by decide) rfl
                refine sBv (sV (As := []) (rest := []) (k := 11) Cx (s_X9_forgetLast l G S144  hI144 (by omega)) (c_X9_176 Cx rfl rfl (rmk_ok (by omega) (by decide))) hW (by decide) rfl rfl rfl hl.1 rfl (Nat.le_of_ble_eq_true rfl) dX9_tellRow_182 ⟨Nat.le_of_ble_eq_true rfl, Nat.le_of_ble_eq_true rfl⟩) hL (fun u_69 H locs k_70 hW hL => ?_)
                obtain ⟨iu_69, fu_69, xu_69⟩ := k_70
                have F_71 := hFm144.trans (fu_69.to (fun k h => pV_G k ((fun k h => pU_V k ((fun k h => pT_U k (p11_T k h)) k h)) k h)))
                have F_72 := hL144_.trans (fu_69.to (fun k h => pV_G k ((fun k h => pU_V k ((fun k h => pT_U k (p11_T k h)) k h)) k h)))
                have F_73 := (Fr.rf : Fr S144 S144 pRm).trans (fu_69.to (p1_sub rfl))
                have g9 : u_69.1 11 9 = S144.1 11 9 - 1 := (by rw [xu_69]; exact uF_on)
                have g10 : u_69.1 11 10 = S144.1 11 10 := (by rw [xu_69]; exact uF_i (by decide))
                have g11 : u_69.1 11 11 = S144.1 11 11 := (by rw [xu_69]; exact uF_i (by decide))
                have g12 : u_69.1 11 12 = S144.1 11 12 := (by rw [xu_69]; exact uF_i (by decide))
                have g13 : u_69.1 11 13 = S144.1 11 13 := (by rw [xu_69]; exact uF_i (by decide))
                have g14 : u_69.1 11 14 = S144.1 11 14 := (by rw [xu_69]; exact uF_i (by decide))
                have hpq := hpo (by omega)
                refine lv_iconst (v := iv 1) hx hb dX9_tellRow_185 (by decide) ?_
                have q_74 : 0 ≤ u_69.1 11 9 ∧ u_69.1 11 9 ≤ 128 := iu_69.fi 11 9 9 (by decide) rfl
                have q_75 : 0 ≤ u_69.1 11 10 ∧ u_69.1 11 10 ≤ 8 := iu_69.fi 11 10 9 (by decide) rfl
                have q_76 : 0 ≤ u_69.1 11 11 ∧ u_69.1 11 11 ≤ 12 := iu_69.fi 11 11 9 (by decide) rfl
                have q_77 : (-2147483648) ≤ u_69.1 11 12 ∧ u_69.1 11 12 ≤ 2147483647 := iu_69.fi 11 12 9 (by decide) rfl
                have q_78 : (-2147483648) ≤ u_69.1 11 13 ∧ u_69.1 11 13 ≤ 2147483647 := iu_69.fi 11 13 9 (by decide) rfl
                have q_79 : 0 ≤ u_69.1 11 14 ∧ u_69.1 11 14 ≤ 7 := iu_69.fi 11 14 9 (by decide) rfl
                have q_80 : 0 ≤ S144.1 o 2 ∧ S144.1 o 2 ≤ 12 := hI144.fi o 2 3 (mdl_k hm) hm.1
                have lk_81 : u_69.1 o 2 = S144.1 o 2 := (fu_69 o (p1_no (tau_ne hm.1 (rfl : tau 11 = .inl 9) (fun h => by cases h)))).1 2
                have q_82 : 0 ≤ S144.1 o 3 ∧ S144.1 o 3 ≤ 16 := hI144.fi o 3 3 (mdl_k hm) hm.1
                have lk_83 : u_69.1 o 3 = S144.1 o 3 := (fu_69 o (p1_no (tau_ne hm.1 (rfl : tau 11 = .inl 9) (fun h => by cases h)))).1 3
                have nr_84 : NRc (rN M (v (pz + 1))) u_69 := hNw.pop hK1 (by omega) (by omega) (fun j => (F_73 16 rfl).2.2.1 j) (fun j => (F_73 17 rfl).2.1 j) (fun j => (F_73 18 rfl).2.1 j)
                have q_85 : 0 ≤ S144.1 o 4 ∧ S144.1 o 4 ≤ 1 := hI144.fi o 4 3 (mdl_k hm) hm.1
                have lk_86 : u_69.1 o 4 = S144.1 o 4 := (fu_69 o (p1_no (tau_ne hm.1 (rfl : tau 11 = .inl 9) (fun h => by cases h)))).1 4
                exact sZret Cx hr hlk hW hL (by omega) ⟨iu_69, F_71, ⟨⟨⟨⟨(fun i => (((RK_F xu_69) i).trans (hRK i))), (fun h => absurd h (by decide))⟩, by omega, by omega⟩, (fun _ => ⟨_, (by rw [hTO, eRn_z (by omega)]; rfl), hM.row hfn nr_84 (by omega) (by omega) (by omega) ⟨(show u_69.1 o 3 = S144.1 o 3 by omega), by omega, by omega⟩ ⟨(show u_69.1 11 12 = S144.1 11 12 by omega), hl81⟩ ((fun i => (((RK_F xu_69) i).trans (hRK i))) 8), (by omega), (by omega)⟩), (fun h => absurd h (by decide))⟩, (fun _ hw M2 e => hw.of (by omega) (by omega) ((show u_69.2.1 (o + 2) = S144.2.1 (o + 2) from funext fun x => (fu_69 (o + 2) (p1_no (tau_ne hm.2.2.1 (rfl : tau 11 = .inl 9) (fun h => by cases h)))).2.1 x).trans hkm) (eDr_w e).1 (eDr_w e).2), (fun _ X hX => by obtain ⟨A9, y, y2⟩ := hXA X hX; rw [aRn_z (by omega)] at y2; rw [← y2]; exact (XAc.of (S := S144) (u := u_69) y ((fu_69 o (p1_no (tau_ne hm.1 (rfl : tau 11 = .inl 9) (fun h => by cases h)))).1 2) ((fu_69 o (p1_no (tau_ne hm.1 (rfl : tau 11 = .inl 9) (fun h => by cases h)))).1 3) (funext fun x => (fu_69 (o + 1) (p1_no (tau_ne hm.2.1 (rfl : tau 11 = .inl 9) (fun h => by cases h)))).2.1 x) (funext fun x => (fu_69 (o + 2) (p1_no (tau_ne hm.2.2.1 (rfl : tau 11 = .inl 9) (fun h => by cases h)))).2.1 x))), (hyy.tr (show OTc S144 u_69 y from ⟨((fu_69 y (p1_no (tau_ne hmy.1 (rfl : tau 11 = .inl 9) (fun h => by cases h)))).1 2), ((fu_69 y (p1_no (tau_ne hmy.1 (rfl : tau 11 = .inl 9) (fun h => by cases h)))).1 3), ((fu_69 y (p1_no (tau_ne hmy.1 (rfl : tau 11 = .inl 9) (fun h => by cases h)))).1 4), (funext fun x => (fu_69 (y + 2) (p1_no (tau_ne hmy.2.2.1 (rfl : tau 11 = .inl 9) (fun h => by cases h)))).2.1 x), (funext fun x => (fu_69 (y + 1) (p1_no (tau_ne hmy.2.1 (rfl : tau 11 = .inl 9) (fun h => by cases h)))).2.1 x)⟩))⟩⟩ dX9_tellRow_186
              · refine lv_aload_n hx hb dX9_tellRow_151 rfl (lv_at hl 6 rfl) ?_
                refine lv_iload_n hx hb dX9_tellRow_152 rfl (lv_at hl 3 rfl) ?_
                refine lv_iconst (v := iv 1) hx hb dX9_tellRow_153 (by decide) ?_
                refine lv_iload hx hb dX9_tellRow_154 (lv_at hl 0 rfl) ?_
                refine sBv (sV (As := [.int (iv r_46), .int (iv 1), .int (iv va)]) (rest := []) (k := 11) Cx (s_X9_setFact l G S144 (s0 := r_46) (q := 1) (v := va) hI144 (by omega) (by omega) (by unfold fr8; omega) (by omega)) (c_X9_136 Cx rfl rfl (rmk_ok (by omega) (by decide))) hW (by decide) rfl rfl rfl hl.1 rfl (Nat.le_of_ble_eq_true rfl) dX9_tellRow_156 ⟨Nat.le_of_ble_eq_true rfl, Nat.le_of_ble_eq_true rfl⟩) hL (fun u_87 H locs k_88 hW hL => ?_)
                obtain ⟨iu_87, fu_87, xu_87⟩ := k_88
                have F_89 := hFm144.trans (fu_87.to (fun k h => pV_G k ((fun k h => pU_V k ((fun k h => pT_U k (p17_T k h)) k h)) k h)))
                have F_90 := hL144_.trans (fu_87.to (fun k h => pV_G k ((fun k h => pU_V k ((fun k h => pT_U k (p17_T k h)) k h)) k h)))
                have hnv : NRc (push (rN M (v (pz + 1))) (v (pz + 3)) va) u_87 := hNw.low hK1 (by omega) (by omega) xu_87
                have hKv : NK (push (rN M (v (pz + 1))) (v (pz + 3)) va) := NK.pushed hK1 (by omega) hfn2 (by omega)
                have s9u_87 : u_87.1 11 9 = S144.1 11 9 := (by rw [xu_87]; rfl)
                have s10u_87 : u_87.1 11 10 = S144.1 11 10 := (by rw [xu_87]; rfl)
                have s11u_87 : u_87.1 11 11 = S144.1 11 11 := (by rw [xu_87]; rfl)
                have s12u_87 : u_87.1 11 12 = S144.1 11 12 := (by rw [xu_87]; rfl)
                have s13u_87 : u_87.1 11 13 = S144.1 11 13 := (by rw [xu_87]; rfl)
                have s14u_87 : u_87.1 11 14 = S144.1 11 14 := (by rw [xu_87]; rfl)
                refine lv_aload_n hx hb dX9_tellRow_159 rfl (lv_at hl 6 rfl) ?_
                refine lv_iload hx hb dX9_tellRow_160 (lv_at hl 2 rfl) ?_
                refine p_X9_89 Cx hW hL (k := 11) (by decide) rfl dX9_tellRow_162 (fun H locs hW hL => ?_)
                have F_91 : Fr S (uF u_87 11 13 ((u_44.1 11 13) + 6)) pG := F_89.F rfl
                have F_92 : Fr u_44 (uF u_87 11 13 ((u_44.1 11 13) + 6)) pG := F_90.F rfl
                have F_93 : Fr u_87 (uF u_87 11 13 ((u_44.1 11 13) + 6)) pRm := (Fr.rf : Fr u_87 u_87 pRm).F rfl
                have i_94 : cX G (uF u_87 11 13 ((u_44.1 11 13) + 6)) 0 0 0 := iu_87.F rfl rfl (show (-2147483648) ≤ (u_44.1 11 13) + 6 ∧ (u_44.1 11 13) + 6 ≤ 2147483647 from ⟨by omega, by omega⟩)
                refine lv_aload_n hx hb dX9_tellRow_165 rfl (lv_at hl 6 rfl) ?_
                refine lv_iload_n hx hb dX9_tellRow_166 rfl (lv_at hl 5 rfl) ?_
                have q_95 : 0 ≤ S144.1 11 9 ∧ S144.1 11 9 ≤ 128 := hI144.fi 11 9 9 (by decide) rfl
                have lk_96 : (uF u_87 11 13 ((u_44.1 11 13) + 6)).1 11 9 = S144.1 11 9 := (uF_ne (fun h => absurd h.2 (by decide))).trans ((fu_87 11 rfl).1 9)
                have q_97 : 0 ≤ S144.1 11 10 ∧ S144.1 11 10 ≤ 8 := hI144.fi 11 10 9 (by decide) rfl
                have lk_98 : (uF u_87 11 13 ((u_44.1 11 13) + 6)).1 11 10 = S144.1 11 10 := (uF_ne (fun h => absurd h.2 (by decide))).trans ((fu_87 11 rfl).1 10)
                have q_99 : 0 ≤ S144.1 11 11 ∧ S144.1 11 11 ≤ 12 := hI144.fi 11 11 9 (by decide) rfl
                have lk_100 : (uF u_87 11 13 ((u_44.1 11 13) + 6)).1 11 11 = S144.1 11 11 := (uF_ne (fun h => absurd h.2 (by decide))).trans ((fu_87 11 rfl).1 11)
                have q_101 : (-2147483648) ≤ S144.1 11 12 ∧ S144.1 11 12 ≤ 2147483647 := hI144.fi 11 12 9 (by decide) rfl
                have lk_102 : (uF u_87 11 13 ((u_44.1 11 13) + 6)).1 11 12 = S144.1 11 12 := (uF_ne (fun h => absurd h.2 (by decide))).trans ((fu_87 11 rfl).1 12)
                have lk_103 : (uF u_87 11 13 ((u_44.1 11 13) + 6)).1 11 13 = (u_44.1 11 13) + 6 := uF_on
                have q_104 : 0 ≤ S144.1 11 14 ∧ S144.1 11 14 ≤ 7 := hI144.fi 11 14 9 (by decide) rfl
                have lk_105 : (uF u_87 11 13 ((u_44.1 11 13) + 6)).1 11 14 = S144.1 11 14 := (uF_ne (fun h => absurd h.2 (by decide))).trans ((fu_87 11 rfl).1 14)
                have q_106 : 0 ≤ S144.1 o 2 ∧ S144.1 o 2 ≤ 12 := hI144.fi o 2 3 (mdl_k hm) hm.1
                have lk_107 : (uF u_87 11 13 ((u_44.1 11 13) + 6)).1 o 2 = S144.1 o 2 := (uF_ne (fun h => absurd h.2 (by decide))).trans ((fu_87 o (p1_no (tau_ne hm.1 (rfl : tau 17 = .inr (.int, 768)) (fun h => by cases h)))).1 2)
                have q_108 : 0 ≤ S144.1 o 3 ∧ S144.1 o 3 ≤ 16 := hI144.fi o 3 3 (mdl_k hm) hm.1
                have lk_109 : (uF u_87 11 13 ((u_44.1 11 13) + 6)).1 o 3 = S144.1 o 3 := (uF_ne (fun h => absurd h.2 (by decide))).trans ((fu_87 o (p1_no (tau_ne hm.1 (rfl : tau 17 = .inr (.int, 768)) (fun h => by cases h)))).1 3)
                have q_110 : 0 ≤ S144.1 o 4 ∧ S144.1 o 4 ≤ 1 := hI144.fi o 4 3 (mdl_k hm) hm.1
                have lk_111 : (uF u_87 11 13 ((u_44.1 11 13) + 6)).1 o 4 = S144.1 o 4 := (uF_ne (fun h => absurd h.2 (by decide))).trans ((fu_87 o (p1_no (tau_ne hm.1 (rfl : tau 17 = .inr (.int, 768)) (fun h => by cases h)))).1 4)
                have nr_112 : NRc (push (rN M (v (pz + 1))) (v (pz + 3)) va) (uF u_87 11 13 ((u_44.1 11 13) + 6)) := hnv.of (by omega) (fun j => (F_93 16 rfl).2.2.1 j) (fun j => (F_93 17 rfl).2.1 j) (fun j => (F_93 18 rfl).2.1 j)
                have kv_113 : KV (uF u_87 11 13 ((u_44.1 11 13) + 6)) k v T := hkv.fr F_91 rfl rfl rfl
                refine sBi (sV (As := [.int (iv ((S.1 11 13) + 1))]) (rest := []) (k := 11) Cx (f_X9_tellOneRow l G (uF u_87 11 13 ((u_44.1 11 13) + 6)) (nm := (S.1 11 13) + 1) (k := k) (v := v) (T := T) (q := q) (a1 := a1) (b1 := b1) (o := o) (N := push (rN M (v (pz + 1))) (v (pz + 3)) va) (pz := pz + 8) i_94 (by omega) hm nr_112 hKv hTV kv_113 (by omega) (by omega) (by omega) (by omega) (show M.1.1 + 1 + 1 + 30 ≤ 128 by omega) (((fun i => (((fu_87 11 rfl).2.2.2 i).trans (hRK i))) 8).trans hrf) (by omega) hga hrel hE2 (by omega) (by omega) hmy hny) (c_X9_173 Cx rfl rfl (rmk_ok (by omega) (by decide))) hW (by decide) rfl rfl rfl hl.1 rfl (Nat.le_of_ble_eq_true rfl) dX9_tellRow_167 ⟨Nat.le_of_ble_eq_true rfl, Nat.le_of_ble_eq_true rfl⟩) hL (fun r_116 u_114 H locs k_115 hW hL => ?_)
                obtain ⟨iu_114, fu_114, xu_114⟩ := k_115
                have F_117 := F_91.trans fu_114
                have F_118 := F_92.trans fu_114
                obtain ⟨xu_114, ku_114, au_114, qu_114⟩ := xu_114
                have k4u_114 := ku_114.1
                have yu_114 := xu_114.1.2
                refine r_if_ne (tgt := 175) hx hb ⟨(by omega), (by omega)⟩ dX9_tellRow_170 (by decide) (fun c_119 => ?_) (fun c_119 => ?_)
                · obtain ⟨e1, m1, l1, pp1, f1, n1⟩ := xu_114.2.1 (by omega)
                  rw [show (uF u_87 11 13 ((u_44.1 11 13) + 6)).1 o 3 = S144.1 o 3 by omega, show (uF u_87 11 13 ((u_44.1 11 13) + 6)).1 11 12 = S144.1 11 12 by omega] at e1
                  refine lv_iinc (v := iv (va + 1)) (lv' := [(6, .int (iv (va + 1))), (5, .int (iv r_56)), (4, .int (iv ((u_44.1 11 13) + 6))), (3, .int (iv r_46)), (2, .int (iv r_29)), (1, .int (iv ((S.1 11 13) + 1))), (0, .ref (G.2.2.1 + 11))]) hx hb dX9_tellRow_175 hl (k := 0) rfl ((Int32.ofInt_add _ _).symm) (by decide) rfl (fun ls hl => ?_)
                  refine lv_goto (tgt := 144) hx hb dX9_tellRow_178 (by decide) ?_
                  have q_120 : 0 ≤ u_114.1 11 9 ∧ u_114.1 11 9 ≤ 128 := iu_114.fi 11 9 9 (by decide) rfl
                  have q_121 : 0 ≤ u_114.1 11 10 ∧ u_114.1 11 10 ≤ 8 := iu_114.fi 11 10 9 (by decide) rfl
                  have q_122 : 0 ≤ u_114.1 11 11 ∧ u_114.1 11 11 ≤ 12 := iu_114.fi 11 11 9 (by decide) rfl
                  have q_123 : (-2147483648) ≤ u_114.1 11 12 ∧ u_114.1 11 12 ≤ 2147483647 := iu_114.fi 11 12 9 (by decide) rfl
                  have q_124 : (-2147483648) ≤ u_114.1 11 13 ∧ u_114.1 11 13 ≤ 2147483647 := iu_114.fi 11 13 9 (by decide) rfl
                  have q_125 : 0 ≤ u_114.1 11 14 ∧ u_114.1 11 14 ≤ 7 := iu_114.fi 11 14 9 (by decide) rfl
                  have q_126 : 0 ≤ u_114.1 o 2 ∧ u_114.1 o 2 ≤ 12 := iu_114.fi o 2 3 (mdl_k hm) hm.1
                  have q_127 : 0 ≤ u_114.1 o 3 ∧ u_114.1 o 3 ≤ 16 := iu_114.fi o 3 3 (mdl_k hm) hm.1
                  have q_128 : 0 ≤ u_114.1 o 4 ∧ u_114.1 o 4 ≤ 1 := iu_114.fi o 4 3 (mdl_k hm) hm.1
                  exact ih_144 u_114 (va + 1) _ _ _ (by omega) iu_114 F_117 F_118 (fun i => ((xu_114.1.1.1 i).trans (((fu_87 11 rfl).2.2.2 i).trans (hRK i)))) (by omega) (fun _ => ⟨by omega, by omega⟩) (by omega) (by omega) ((show u_114.2.1 (o + 2) = (uF u_87 11 13 ((u_44.1 11 13) + 6)).2.1 (o + 2) from ku_114.2).trans ((show (uF u_87 11 13 ((u_44.1 11 13) + 6)).2.1 (o + 2) = u_87.2.1 (o + 2) from funext fun x => uF_a).trans ((show u_87.2.1 (o + 2) = S144.2.1 (o + 2) from funext fun x => (fu_87 (o + 2) (p1_no (tau_ne hm.2.2.1 (rfl : tau 17 = .inr (.int, 768)) (fun h => by cases h)))).2.1 x).trans hkm))) ((hyy.tr (show OTc S144 (uF u_87 11 13 ((u_44.1 11 13) + 6)) y from ⟨((uF_ne (fun h => absurd h.2 (by decide))).trans ((fu_87 y (p1_no (tau_ne hmy.1 (rfl : tau 17 = .inr (.int, 768)) (fun h => by cases h)))).1 2)), ((uF_ne (fun h => absurd h.2 (by decide))).trans ((fu_87 y (p1_no (tau_ne hmy.1 (rfl : tau 17 = .inr (.int, 768)) (fun h => by cases h)))).1 3)), ((uF_ne (fun h => absurd h.2 (by decide))).trans ((fu_87 y (p1_no (tau_ne hmy.1 (rfl : tau 17 = .inr (.int, 768)) (fun h => by cases h)))).1 4)), (funext fun x => (uF_a).trans ((fu_87 (y + 2) (p1_no (tau_ne hmy.2.2.1 (rfl : tau 17 = .inr (.int, 768)) (fun h => by cases h)))).2.1 x)), (funext fun x => (uF_a).trans ((fu_87 (y + 1) (p1_no (tau_ne hmy.2.1 (rfl : tau 17 = .inr (.int, 768)) (by decide)))).2.1 x))⟩)).tr qu_114) (fun X hX => by obtain ⟨A9, y, y2⟩ := hXA X hX; have y3 := au_114 (by omega) (A9, X.2) (XAc.of (S := S144) (u := (uF u_87 11 13 ((u_44.1 11 13) + 6))) y ((uF_ne (fun h => absurd h.2 (by decide))).trans ((fu_87 o (p1_no (tau_ne hm.1 (rfl : tau 17 = .inr (.int, 768)) (fun h => by cases h)))).1 2)) ((uF_ne (fun h => absurd h.2 (by decide))).trans ((fu_87 o (p1_no (tau_ne hm.1 (rfl : tau 17 = .inr (.int, 768)) (fun h => by cases h)))).1 3)) (funext fun x => (uF_a).trans ((fu_87 (o + 1) (p1_no (tau_ne hm.2.1 (rfl : tau 17 = .inr (.int, 768)) (by decide)))).2.1 x)) (funext fun x => (uF_a).trans ((fu_87 (o + 2) (p1_no (tau_ne hm.2.2.1 (rfl : tau 17 = .inr (.int, 768)) (fun h => by cases h)))).2.1 x))); rw [show (uF u_87 11 13 ((u_44.1 11 13) + 6)).1 o 3 = S144.1 o 3 by omega, show (uF u_87 11 13 ((u_44.1 11 13) + 6)).1 11 12 = S144.1 11 12 by omega] at y3; refine ⟨_, y3, ?_⟩; rw [← y2, aRn_s (by omega) e1, show u_114.1 o 3 = u_114.1 o 3 by omega, show u_114.1 11 12 = u_114.1 11 12 by omega]) (by omega) ⟨_, n1⟩ (by rw [hTO, eRn_s (by omega) e1]; rfl) hW hL (lv_sub hl [0, 1, 2, 3, 4, 5, 6] rfl)
                · refine lv_iconst (v := iv 0) hx hb dX9_tellRow_173 (by decide) ?_
                  have q_129 : 0 ≤ u_114.1 11 9 ∧ u_114.1 11 9 ≤ 128 := iu_114.fi 11 9 9 (by decide) rfl
                  have q_130 : 0 ≤ u_114.1 11 10 ∧ u_114.1 11 10 ≤ 8 := iu_114.fi 11 10 9 (by decide) rfl
                  have q_131 : 0 ≤ u_114.1 11 11 ∧ u_114.1 11 11 ≤ 12 := iu_114.fi 11 11 9 (by decide) rfl
                  have q_132 : (-2147483648) ≤ u_114.1 11 12 ∧ u_114.1 11 12 ≤ 2147483647 := iu_114.fi 11 12 9 (by decide) rfl
                  have q_133 : (-2147483648) ≤ u_114.1 11 13 ∧ u_114.1 11 13 ≤ 2147483647 := iu_114.fi 11 13 9 (by decide) rfl
                  have q_134 : 0 ≤ u_114.1 11 14 ∧ u_114.1 11 14 ≤ 7 := iu_114.fi 11 14 9 (by decide) rfl
                  have q_135 : 0 ≤ u_114.1 o 2 ∧ u_114.1 o 2 ≤ 12 := iu_114.fi o 2 3 (mdl_k hm) hm.1
                  have q_136 : 0 ≤ u_114.1 o 3 ∧ u_114.1 o 3 ≤ 16 := iu_114.fi o 3 3 (mdl_k hm) hm.1
                  have q_137 : 0 ≤ u_114.1 o 4 ∧ u_114.1 o 4 ≤ 1 := iu_114.fi o 4 3 (mdl_k hm) hm.1
                  exact sZret Cx hr hlk hW hL (by omega) ⟨iu_114, F_117, ⟨⟨⟨⟨(fun i => ((xu_114.1.1.1 i).trans (((fu_87 11 rfl).2.2.2 i).trans (hRK i)))), (fun _ => by first | omega | exact xu_114.1.1.2 (by omega))⟩, by omega, by omega⟩, (fun h => absurd h (by omega)), (fun _ => (by have q9 := xu_114.2.2 (by omega); rw [show (uF u_87 11 13 ((u_44.1 11 13) + 6)).1 o 3 = S144.1 o 3 by omega, show (uF u_87 11 13 ((u_44.1 11 13) + 6)).1 11 12 = S144.1 11 12 by omega] at q9; rw [hTO, eRn_n (by omega) q9]; rfl))⟩, (fun _ hw M2 e => hw.of (by omega) (by omega) ((show u_114.2.1 (o + 2) = (uF u_87 11 13 ((u_44.1 11 13) + 6)).2.1 (o + 2) from ku_114.2).trans ((show (uF u_87 11 13 ((u_44.1 11 13) + 6)).2.1 (o + 2) = u_87.2.1 (o + 2) from funext fun x => uF_a).trans ((show u_87.2.1 (o + 2) = S144.2.1 (o + 2) from funext fun x => (fu_87 (o + 2) (p1_no (tau_ne hm.2.2.1 (rfl : tau 17 = .inr (.int, 768)) (fun h => by cases h)))).2.1 x).trans hkm))) (eDr_w e).1 (eDr_w e).2), (fun h => absurd h (by omega)), ((hyy.tr (show OTc S144 (uF u_87 11 13 ((u_44.1 11 13) + 6)) y from ⟨((uF_ne (fun h => absurd h.2 (by decide))).trans ((fu_87 y (p1_no (tau_ne hmy.1 (rfl : tau 17 = .inr (.int, 768)) (fun h => by cases h)))).1 2)), ((uF_ne (fun h => absurd h.2 (by decide))).trans ((fu_87 y (p1_no (tau_ne hmy.1 (rfl : tau 17 = .inr (.int, 768)) (fun h => by cases h)))).1 3)), ((uF_ne (fun h => absurd h.2 (by decide))).trans ((fu_87 y (p1_no (tau_ne hmy.1 (rfl : tau 17 = .inr (.int, 768)) (fun h => by cases h)))).1 4)), (funext fun x => (uF_a).trans ((fu_87 (y + 2) (p1_no (tau_ne hmy.2.2.1 (rfl : tau 17 = .inr (.int, 768)) (fun h => by cases h)))).2.1 x)), (funext fun x => (uF_a).trans ((fu_87 (y + 1) (p1_no (tau_ne hmy.2.1 (rfl : tau 17 = .inr (.int, 768)) (by decide)))).2.1 x))⟩)).tr qu_114)⟩⟩ dX9_tellRow_174
          have q_138 : 0 ≤ S.1 o 4 ∧ S.1 o 4 ≤ 1 := hI.fi o 4 3 (mdl_k hm) hm.1
          have lk_139 : u_44.1 o 4 = S.1 o 4 := ((fu_44 o (mdl_out hm).1).1 4).trans ((uF_ne (fun h => absurd h.2 (by decide))).trans ((fu_7 o (mdl_out hm).1).1 4))
          exact loop_144 (_ + 1) u_44 r_59 _ _ _ (Nat.lt_succ_self _) iu_44 F_47 Fr.rf (fun i => ((xu_44.1.1.1 i).trans (xu_7.1.1.1 i))) (by omega) (fun z => absurd z (by omega)) (by omega) (by omega) ((show u_44.2.1 (o + 2) = (uF u_7 11 13 ((u_7.1 11 13) + 2)).2.1 (o + 2) from funext fun x => (fu_44 (o + 2) (mdl_out2 hm).1).2.1 x).trans ((show (uF u_7 11 13 ((u_7.1 11 13) + 2)).2.1 (o + 2) = u_7.2.1 (o + 2) from funext fun x => uF_a).trans (show u_7.2.1 (o + 2) = S.2.1 (o + 2) from funext fun x => (fu_7 (o + 2) (mdl_out2 hm).1).2.1 x))) (show OTc S u_44 y from ⟨(((fu_44 y (mdl_out hmy).1).1 2).trans ((uF_ne (fun h => absurd h.2 (by decide))).trans ((fu_7 y (mdl_out hmy).1).1 2))), (((fu_44 y (mdl_out hmy).1).1 3).trans ((uF_ne (fun h => absurd h.2 (by decide))).trans ((fu_7 y (mdl_out hmy).1).1 3))), (((fu_44 y (mdl_out hmy).1).1 4).trans ((uF_ne (fun h => absurd h.2 (by decide))).trans ((fu_7 y (mdl_out hmy).1).1 4))), (funext fun x => ((fu_44 (y + 2) (mdl_out2 hmy).1).2.1 x).trans ((uF_a).trans ((fu_7 (y + 2) (mdl_out2 hmy).1).2.1 x))), (funext fun x => ((fu_44 (y + 1) (mdl_out1 hmy).1).2.1 x).trans ((uF_a).trans ((fu_7 (y + 1) (mdl_out1 hmy).1).2.1 x)))⟩) (fun X hX => ⟨X.1, (XAc.of (S := S) (u := u_44) hX (((fu_44 o (mdl_out hm).1).1 2).trans ((uF_ne (fun h => absurd h.2 (by decide))).trans ((fu_7 o (mdl_out hm).1).1 2))) (((fu_44 o (mdl_out hm).1).1 3).trans ((uF_ne (fun h => absurd h.2 (by decide))).trans ((fu_7 o (mdl_out hm).1).1 3))) (funext fun x => ((fu_44 (o + 1) (mdl_out1 hm).1).2.1 x).trans ((uF_a).trans ((fu_7 (o + 1) (mdl_out1 hm).1).2.1 x))) (funext fun x => ((fu_44 (o + 2) (mdl_out2 hm).1).2.1 x).trans ((uF_a).trans ((fu_7 (o + 2) (mdl_out2 hm).1).2.1 x)))), (by rw [show u_44.1 o 3 = M.2.2.2.2.2.1 by omega, show u_44.1 11 12 = M.2.2.2.2.2.2.2 by omega]; exact (aDr_3 (by omega) (by omega) (by rw [isS, ← f0]; exact ⟨hsN.1, h6⟩) f0 elo ehi).symm)⟩) (by omega) ⟨_, hp0⟩ (by rw [eDr_3 (by omega) hfn (by omega) hfn2 (by rw [isS, ← f0]; exact ⟨hsN.1, h6⟩) f0 elo ehi, eRn_p (y0 := q) (by omega), show u_44.1 o 3 = M.2.2.2.2.2.1 by omega, show u_44.1 11 12 = M.2.2.2.2.2.2.2 by omega]; rfl) hW hL (lv_sub hl [0, 1, 2, 3, 4, 5, 6] rfl)
        · refine lv_aload_n hx hb dX9_tellRow_107 rfl (lv_at hl 3 rfl) ?_
          refine lv_iconst (v := iv 2) hx hb dX9_tellRow_108 (by decide) ?_
          refine lv_aload_n hx hb dX9_tellRow_109 rfl (lv_at hl 3 rfl) ?_
          have q_140 : (-2147483648) ≤ u_44.1 11 13 ∧ u_44.1 11 13 ≤ 2147483647 := iu_44.fi 11 13 9 (by decide) rfl
          refine g_X9_89 Cx hW (k := 11) (by decide) rfl (v := u_44.1 11 13) rfl dX9_tellRow_110 ?_
          refine lv_iconst (v := iv 3) hx hb dX9_tellRow_113 (by decide) ?_
          refine r_iadd hx hb dX9_tellRow_114 ?_
          have q_141 : 0 ≤ u_44.1 11 9 ∧ u_44.1 11 9 ≤ 128 := iu_44.fi 11 9 9 (by decide) rfl
          have q_142 : 0 ≤ u_44.1 11 10 ∧ u_44.1 11 10 ≤ 8 := iu_44.fi 11 10 9 (by decide) rfl
          have q_143 : 0 ≤ u_44.1 11 11 ∧ u_44.1 11 11 ≤ 12 := iu_44.fi 11 11 9 (by decide) rfl
          have q_144 : (-2147483648) ≤ u_44.1 11 12 ∧ u_44.1 11 12 ≤ 2147483647 := iu_44.fi 11 12 9 (by decide) rfl
          refine sBi (sV (As := [.int (iv 2), .int (iv ((u_44.1 11 13) + 3))]) (rest := []) (k := 11) Cx (e_X9_fail l G u_44 (k := 2) (tk := (u_44.1 11 13) + 3) iu_44 (by omega) (by omega)) (c_X9_132 Cx rfl rfl (rmk_ok (by omega) (by decide))) hW (by decide) rfl rfl rfl hl.1 rfl (Nat.le_of_ble_eq_true rfl) dX9_tellRow_115 ⟨Nat.le_of_ble_eq_true rfl, Nat.le_of_ble_eq_true rfl⟩) hL (fun r_147 u_145 H locs k_146 hW hL => ?_)
          obtain ⟨iu_145, fu_145, xu_145⟩ := k_146
          have F_148 := F_47.trans (fu_145.to (fun k h => pV_G k ((fun k h => pU_V k ((fun k h => pT_U k (p11_T k h)) k h)) k h)))
          have F_149 := (Fr.rf : Fr u_44 u_44 pRm).trans (fu_145.to (p1_sub rfl))
          have q_150 : 0 ≤ u_145.1 11 9 ∧ u_145.1 11 9 ≤ 128 := iu_145.fi 11 9 9 (by decide) rfl
          have q_151 : 0 ≤ u_145.1 11 10 ∧ u_145.1 11 10 ≤ 8 := iu_145.fi 11 10 9 (by decide) rfl
          have q_152 : 0 ≤ u_145.1 11 11 ∧ u_145.1 11 11 ≤ 12 := iu_145.fi 11 11 9 (by decide) rfl
          have q_153 : (-2147483648) ≤ u_145.1 11 12 ∧ u_145.1 11 12 ≤ 2147483647 := iu_145.fi 11 12 9 (by decide) rfl
          have q_154 : (-2147483648) ≤ u_145.1 11 13 ∧ u_145.1 11 13 ≤ 2147483647 := iu_145.fi 11 13 9 (by decide) rfl
          have q_155 : 0 ≤ u_145.1 11 14 ∧ u_145.1 11 14 ≤ 7 := iu_145.fi 11 14 9 (by decide) rfl
          have lk_156 : u_145.1 o 2 = S.1 o 2 := ((fu_145 o (p1_no (tau_ne hm.1 (rfl : tau 11 = .inl 9) (fun h => by cases h)))).1 2).trans (((fu_44 o (mdl_out hm).1).1 2).trans ((uF_ne (fun h => absurd h.2 (by decide))).trans ((fu_7 o (mdl_out hm).1).1 2)))
          have lk_157 : u_145.1 o 3 = S.1 o 3 := ((fu_145 o (p1_no (tau_ne hm.1 (rfl : tau 11 = .inl 9) (fun h => by cases h)))).1 3).trans (((fu_44 o (mdl_out hm).1).1 3).trans ((uF_ne (fun h => absurd h.2 (by decide))).trans ((fu_7 o (mdl_out hm).1).1 3)))
          have q_158 : 0 ≤ S.1 o 4 ∧ S.1 o 4 ≤ 1 := hI.fi o 4 3 (mdl_k hm) hm.1
          have lk_159 : u_145.1 o 4 = S.1 o 4 := ((fu_145 o (p1_no (tau_ne hm.1 (rfl : tau 11 = .inl 9) (fun h => by cases h)))).1 4).trans (((fu_44 o (mdl_out hm).1).1 4).trans ((uF_ne (fun h => absurd h.2 (by decide))).trans ((fu_7 o (mdl_out hm).1).1 4)))
          exact sZret Cx hr hlk hW hL (by omega) ⟨iu_145, F_148, ⟨⟨⟨⟨(fun i => ((xu_145.2.2.2.2.2.2.2 i).trans ((xu_44.1.1.1 i).trans (xu_7.1.1.1 i)))), (fun _ => by first | omega | exact xu_145.1.1.2 (by omega))⟩, by omega, by omega⟩, (fun h => absurd h (by omega)), (fun _ => (eDr_2 hfn (by omega) (fun z => xu_49.2.2 (by omega) (by rw [f0]; exact ⟨z.2.1, (hpf _ z.2.1 (eFind_lt (by omega)).2).trans z.2.2⟩))))⟩, (fun _ hw M2 e => hw.of (by omega) (by omega) ((show u_145.2.1 (o + 2) = u_44.2.1 (o + 2) from funext fun x => (fu_145 (o + 2) (p1_no (tau_ne hm.2.2.1 (rfl : tau 11 = .inl 9) (fun h => by cases h)))).2.1 x).trans ((show u_44.2.1 (o + 2) = (uF u_7 11 13 ((u_7.1 11 13) + 2)).2.1 (o + 2) from funext fun x => (fu_44 (o + 2) (mdl_out2 hm).1).2.1 x).trans ((show (uF u_7 11 13 ((u_7.1 11 13) + 2)).2.1 (o + 2) = u_7.2.1 (o + 2) from funext fun x => uF_a).trans (show u_7.2.1 (o + 2) = S.2.1 (o + 2) from funext fun x => (fu_7 (o + 2) (mdl_out2 hm).1).2.1 x)))) (eDr_w e).1 (eDr_w e).2), (fun h => absurd h (by omega)), (show OTc S u_145 y from ⟨(((fu_145 y (p1_no (tau_ne hmy.1 (rfl : tau 11 = .inl 9) (fun h => by cases h)))).1 2).trans (((fu_44 y (mdl_out hmy).1).1 2).trans ((uF_ne (fun h => absurd h.2 (by decide))).trans ((fu_7 y (mdl_out hmy).1).1 2)))), (((fu_145 y (p1_no (tau_ne hmy.1 (rfl : tau 11 = .inl 9) (fun h => by cases h)))).1 3).trans (((fu_44 y (mdl_out hmy).1).1 3).trans ((uF_ne (fun h => absurd h.2 (by decide))).trans ((fu_7 y (mdl_out hmy).1).1 3)))), (((fu_145 y (p1_no (tau_ne hmy.1 (rfl : tau 11 = .inl 9) (fun h => by cases h)))).1 4).trans (((fu_44 y (mdl_out hmy).1).1 4).trans ((uF_ne (fun h => absurd h.2 (by decide))).trans ((fu_7 y (mdl_out hmy).1).1 4)))), (funext fun x => ((fu_145 (y + 2) (p1_no (tau_ne hmy.2.2.1 (rfl : tau 11 = .inl 9) (fun h => by cases h)))).2.1 x).trans (((fu_44 (y + 2) (mdl_out2 hmy).1).2.1 x).trans ((uF_a).trans ((fu_7 (y + 2) (mdl_out2 hmy).1).2.1 x)))), (funext fun x => ((fu_145 (y + 1) (p1_no (tau_ne hmy.2.1 (rfl : tau 11 = .inl 9) (fun h => by cases h)))).2.1 x).trans (((fu_44 (y + 1) (mdl_out1 hmy).1).2.1 x).trans ((uF_a).trans ((fu_7 (y + 1) (mdl_out1 hmy).1).2.1 x))))⟩)⟩⟩ dX9_tellRow_118
      · refine lv_iconst (v := iv 0) hx hb dX9_tellRow_95 (by decide) ?_
        have q_160 : 0 ≤ u_44.1 11 9 ∧ u_44.1 11 9 ≤ 128 := iu_44.fi 11 9 9 (by decide) rfl
        have q_161 : 0 ≤ u_44.1 11 10 ∧ u_44.1 11 10 ≤ 8 := iu_44.fi 11 10 9 (by decide) rfl
        have q_162 : 0 ≤ u_44.1 11 11 ∧ u_44.1 11 11 ≤ 12 := iu_44.fi 11 11 9 (by decide) rfl
        have q_163 : (-2147483648) ≤ u_44.1 11 12 ∧ u_44.1 11 12 ≤ 2147483647 := iu_44.fi 11 12 9 (by decide) rfl
        have q_164 : (-2147483648) ≤ u_44.1 11 13 ∧ u_44.1 11 13 ≤ 2147483647 := iu_44.fi 11 13 9 (by decide) rfl
        have q_165 : 0 ≤ u_44.1 11 14 ∧ u_44.1 11 14 ≤ 7 := iu_44.fi 11 14 9 (by decide) rfl
        have lk_166 : u_44.1 o 2 = S.1 o 2 := ((fu_44 o (mdl_out hm).1).1 2).trans ((uF_ne (fun h => absurd h.2 (by decide))).trans ((fu_7 o (mdl_out hm).1).1 2))
        have lk_167 : u_44.1 o 3 = S.1 o 3 := ((fu_44 o (mdl_out hm).1).1 3).trans ((uF_ne (fun h => absurd h.2 (by decide))).trans ((fu_7 o (mdl_out hm).1).1 3))
        have q_168 : 0 ≤ S.1 o 4 ∧ S.1 o 4 ≤ 1 := hI.fi o 4 3 (mdl_k hm) hm.1
        have lk_169 : u_44.1 o 4 = S.1 o 4 := ((fu_44 o (mdl_out hm).1).1 4).trans ((uF_ne (fun h => absurd h.2 (by decide))).trans ((fu_7 o (mdl_out hm).1).1 4))
        exact sZret Cx hr hlk hW hL (by omega) ⟨iu_44, F_47, ⟨⟨⟨⟨(fun i => ((xu_44.1.1.1 i).trans (xu_7.1.1.1 i))), (fun _ => by first | omega | exact xu_44.1.1.2 (by omega))⟩, by omega, by omega⟩, (fun h => absurd h (by omega)), (fun _ => (by have q0 : 0 ≤ eFind (rN M (v (pz + 1))) (v (pz + 3)) := (by rw [nr_30.find]; rcases xu_44.2.2 (by omega) with z | z; (rw [zt2] at z; exact z); (exfalso; omega)); exact eDr_2 hfn (by omega) (fun z => by have z1 := z.1; omega)))⟩, (fun _ hw M2 e => hw.of (by omega) (by omega) ((show u_44.2.1 (o + 2) = (uF u_7 11 13 ((u_7.1 11 13) + 2)).2.1 (o + 2) from funext fun x => (fu_44 (o + 2) (mdl_out2 hm).1).2.1 x).trans ((show (uF u_7 11 13 ((u_7.1 11 13) + 2)).2.1 (o + 2) = u_7.2.1 (o + 2) from funext fun x => uF_a).trans (show u_7.2.1 (o + 2) = S.2.1 (o + 2) from funext fun x => (fu_7 (o + 2) (mdl_out2 hm).1).2.1 x))) (eDr_w e).1 (eDr_w e).2), (fun h => absurd h (by omega)), (show OTc S u_44 y from ⟨(((fu_44 y (mdl_out hmy).1).1 2).trans ((uF_ne (fun h => absurd h.2 (by decide))).trans ((fu_7 y (mdl_out hmy).1).1 2))), (((fu_44 y (mdl_out hmy).1).1 3).trans ((uF_ne (fun h => absurd h.2 (by decide))).trans ((fu_7 y (mdl_out hmy).1).1 3))), (((fu_44 y (mdl_out hmy).1).1 4).trans ((uF_ne (fun h => absurd h.2 (by decide))).trans ((fu_7 y (mdl_out hmy).1).1 4))), (funext fun x => ((fu_44 (y + 2) (mdl_out2 hmy).1).2.1 x).trans ((uF_a).trans ((fu_7 (y + 2) (mdl_out2 hmy).1).2.1 x))), (funext fun x => ((fu_44 (y + 1) (mdl_out1 hmy).1).2.1 x).trans ((uF_a).trans ((fu_7 (y + 1) (mdl_out1 hmy).1).2.1 x)))⟩)⟩⟩ dX9_tellRow_96
    · have hb0 : b = pz + 2 := (by rcases hri with z | z; (exact z.2); (exact absurd z.1 (by omega)))
      have hga : Hd (ogU T k (ogF T k 30) (pz + 3) = some a1) := (by rw [show pz + 3 = b + 1 by omega]; exact hE1)
      refine lv_aload_n hx hb dX9_tellRow_45 rfl (lv_at hl 1 rfl) ?_
      refine lv_dup hx hb dX9_tellRow_46 rfl ?_
      refine g_X9_89 Cx hW (k := 11) (by decide) rfl (v := (u_7.1 11 13) + 2) uF_on dX9_tellRow_47 ?_
      refine lv_iconst (v := iv 1) hx hb dX9_tellRow_50 (by decide) ?_
      refine r_iadd hx hb dX9_tellRow_51 ?_
      refine p_X9_89 Cx hW hL (k := 11) (by decide) rfl dX9_tellRow_52 (fun H locs hW hL => ?_)
      have F_170 : Fr S (uF (uF u_7 11 13 ((u_7.1 11 13) + 2)) 11 13 (((u_7.1 11 13) + 2) + 1)) pG := F_13.F rfl
      have F_171 : Fr u_7 (uF (uF u_7 11 13 ((u_7.1 11 13) + 2)) 11 13 (((u_7.1 11 13) + 2) + 1)) pRm := F_14.F rfl
      have F_172 : Fr u_7 (uF (uF u_7 11 13 ((u_7.1 11 13) + 2)) 11 13 (((u_7.1 11 13) + 2) + 1)) pRm := F_15.F rfl
      have i_173 : cX G (uF (uF u_7 11 13 ((u_7.1 11 13) + 2)) 11 13 (((u_7.1 11 13) + 2) + 1)) 0 0 0 := i_16.F rfl rfl (show (-2147483648) ≤ ((u_7.1 11 13) + 2) + 1 ∧ ((u_7.1 11 13) + 2) + 1 ≤ 2147483647 from ⟨by omega, by omega⟩)
      refine lv_aload_n hx hb dX9_tellRow_55 rfl (lv_at hl 1 rfl) ?_
      refine lv_iload_n hx hb dX9_tellRow_56 rfl (lv_at hl 0 rfl) ?_
      have q_174 : 0 ≤ u_7.1 11 9 ∧ u_7.1 11 9 ≤ 128 := iu_7.fi 11 9 9 (by decide) rfl
      have lk_175 : (uF (uF u_7 11 13 ((u_7.1 11 13) + 2)) 11 13 (((u_7.1 11 13) + 2) + 1)).1 11 9 = u_7.1 11 9 := (uF_ne (fun h => absurd h.2 (by decide))).trans (uF_ne (fun h => absurd h.2 (by decide)))
      have q_176 : 0 ≤ u_7.1 11 10 ∧ u_7.1 11 10 ≤ 8 := iu_7.fi 11 10 9 (by decide) rfl
      have lk_177 : (uF (uF u_7 11 13 ((u_7.1 11 13) + 2)) 11 13 (((u_7.1 11 13) + 2) + 1)).1 11 10 = u_7.1 11 10 := (uF_ne (fun h => absurd h.2 (by decide))).trans (uF_ne (fun h => absurd h.2 (by decide)))
      have q_178 : 0 ≤ u_7.1 11 11 ∧ u_7.1 11 11 ≤ 12 := iu_7.fi 11 11 9 (by decide) rfl
      have lk_179 : (uF (uF u_7 11 13 ((u_7.1 11 13) + 2)) 11 13 (((u_7.1 11 13) + 2) + 1)).1 11 11 = u_7.1 11 11 := (uF_ne (fun h => absurd h.2 (by decide))).trans (uF_ne (fun h => absurd h.2 (by decide)))
      have q_180 : (-2147483648) ≤ u_7.1 11 12 ∧ u_7.1 11 12 ≤ 2147483647 := iu_7.fi 11 12 9 (by decide) rfl
      have lk_181 : (uF (uF u_7 11 13 ((u_7.1 11 13) + 2)) 11 13 (((u_7.1 11 13) + 2) + 1)).1 11 12 = u_7.1 11 12 := (uF_ne (fun h => absurd h.2 (by decide))).trans (uF_ne (fun h => absurd h.2 (by decide)))
      have lk_182 : (uF (uF u_7 11 13 ((u_7.1 11 13) + 2)) 11 13 (((u_7.1 11 13) + 2) + 1)).1 11 13 = ((u_7.1 11 13) + 2) + 1 := uF_on
      have q_183 : 0 ≤ u_7.1 11 14 ∧ u_7.1 11 14 ≤ 7 := iu_7.fi 11 14 9 (by decide) rfl
      have lk_184 : (uF (uF u_7 11 13 ((u_7.1 11 13) + 2)) 11 13 (((u_7.1 11 13) + 2) + 1)).1 11 14 = u_7.1 11 14 := (uF_ne (fun h => absurd h.2 (by decide))).trans (uF_ne (fun h => absurd h.2 (by decide)))
      have q_185 : 0 ≤ S.1 o 2 ∧ S.1 o 2 ≤ 12 := hI.fi o 2 3 (mdl_k hm) hm.1
      have lk_186 : (uF (uF u_7 11 13 ((u_7.1 11 13) + 2)) 11 13 (((u_7.1 11 13) + 2) + 1)).1 o 2 = S.1 o 2 := (uF_ne (fun h => absurd h.2 (by decide))).trans ((uF_ne (fun h => absurd h.2 (by decide))).trans ((fu_7 o (mdl_out hm).1).1 2))
      have q_187 : 0 ≤ S.1 o 3 ∧ S.1 o 3 ≤ 16 := hI.fi o 3 3 (mdl_k hm) hm.1
      have lk_188 : (uF (uF u_7 11 13 ((u_7.1 11 13) + 2)) 11 13 (((u_7.1 11 13) + 2) + 1)).1 o 3 = S.1 o 3 := (uF_ne (fun h => absurd h.2 (by decide))).trans ((uF_ne (fun h => absurd h.2 (by decide))).trans ((fu_7 o (mdl_out hm).1).1 3))
      have q_189 : 0 ≤ S.1 o 4 ∧ S.1 o 4 ≤ 1 := hI.fi o 4 3 (mdl_k hm) hm.1
      have lk_190 : (uF (uF u_7 11 13 ((u_7.1 11 13) + 2)) 11 13 (((u_7.1 11 13) + 2) + 1)).1 o 4 = S.1 o 4 := (uF_ne (fun h => absurd h.2 (by decide))).trans ((uF_ne (fun h => absurd h.2 (by decide))).trans ((fu_7 o (mdl_out hm).1).1 4))
      have nr_191 : NRc (rN M (v (pz + 1))) (uF (uF u_7 11 13 ((u_7.1 11 13) + 2)) 11 13 (((u_7.1 11 13) + 2) + 1)) := hN1r.of (by omega) (fun j => (F_172 16 rfl).2.2.1 j) (fun j => (F_172 17 rfl).2.1 j) (fun j => (F_172 18 rfl).2.1 j)
      have kv_192 : KV (uF (uF u_7 11 13 ((u_7.1 11 13) + 2)) 11 13 (((u_7.1 11 13) + 2) + 1)) k v T := hkv.fr F_170 rfl rfl rfl
      refine sBi (sV (As := [.int (iv ((S.1 11 13) + 1))]) (rest := []) (k := 11) Cx (f_X9_tellOneRow l G (uF (uF u_7 11 13 ((u_7.1 11 13) + 2)) 11 13 (((u_7.1 11 13) + 2) + 1)) (nm := (S.1 11 13) + 1) (k := k) (v := v) (T := T) (q := q) (a1 := a1) (b1 := b1) (o := o) (N := rN M (v (pz + 1))) (pz := pz + 3) i_173 (by omega) hm nr_191 hK1 hTV kv_192 (by omega) (by omega) (by omega) (by omega) (show M.1.1 + 1 + 30 ≤ 128 by omega) (((fun i => (xu_7.1.1.1 i)) 8).trans hrf) (by omega) hga hrel hE2 (by omega) (by omega) hmy hny) (c_X9_173 Cx rfl rfl (rmk_ok (by omega) (by decide))) hW (by decide) rfl rfl rfl hl.1 rfl (Nat.le_of_ble_eq_true rfl) dX9_tellRow_57 ⟨Nat.le_of_ble_eq_true rfl, Nat.le_of_ble_eq_true rfl⟩) hL (fun r_195 u_193 H locs k_194 hW hL => ?_)
      obtain ⟨iu_193, fu_193, xu_193⟩ := k_194
      have F_196 := F_170.trans fu_193
      obtain ⟨xu_193, ku_193, au_193, qu_193⟩ := xu_193
      have k4u_193 := ku_193.1
      have yu_193 := xu_193.1.2
      have q_197 : 0 ≤ u_193.1 11 9 ∧ u_193.1 11 9 ≤ 128 := iu_193.fi 11 9 9 (by decide) rfl
      have q_198 : 0 ≤ u_193.1 11 10 ∧ u_193.1 11 10 ≤ 8 := iu_193.fi 11 10 9 (by decide) rfl
      have q_199 : 0 ≤ u_193.1 11 11 ∧ u_193.1 11 11 ≤ 12 := iu_193.fi 11 11 9 (by decide) rfl
      have q_200 : (-2147483648) ≤ u_193.1 11 12 ∧ u_193.1 11 12 ≤ 2147483647 := iu_193.fi 11 12 9 (by decide) rfl
      have q_201 : (-2147483648) ≤ u_193.1 11 13 ∧ u_193.1 11 13 ≤ 2147483647 := iu_193.fi 11 13 9 (by decide) rfl
      have q_202 : 0 ≤ u_193.1 11 14 ∧ u_193.1 11 14 ≤ 7 := iu_193.fi 11 14 9 (by decide) rfl
      have q_203 : 0 ≤ u_193.1 o 2 ∧ u_193.1 o 2 ≤ 12 := iu_193.fi o 2 3 (mdl_k hm) hm.1
      have q_204 : 0 ≤ u_193.1 o 3 ∧ u_193.1 o 3 ≤ 16 := iu_193.fi o 3 3 (mdl_k hm) hm.1
      have q_205 : 0 ≤ u_193.1 o 4 ∧ u_193.1 o 4 ≤ 1 := iu_193.fi o 4 3 (mdl_k hm) hm.1
      exact sZret Cx hr hlk hW hL (by omega) ⟨iu_193, F_196, ⟨⟨⟨⟨(fun i => ((xu_193.1.1.1 i).trans (xu_7.1.1.1 i))), (fun h => xu_193.1.1.2 h)⟩, by omega, by omega⟩, (fun h => by obtain ⟨q9, m1, l1, pp1, f1, n1⟩ := xu_193.2.1 h; rw [show (uF (uF u_7 11 13 ((u_7.1 11 13) + 2)) 11 13 (((u_7.1 11 13) + 2) + 1)).1 o 3 = M.2.2.2.2.2.1 by omega, show (uF (uF u_7 11 13 ((u_7.1 11 13) + 2)) 11 13 (((u_7.1 11 13) + 2) + 1)).1 11 12 = M.2.2.2.2.2.2.2 by omega] at q9; exact ⟨_, (by rw [eDr_1 hfn (by omega), q9]; rfl), hM.row hfn n1 (by omega) (by omega) (by omega) ⟨rfl, by omega, by omega⟩ ⟨rfl, l1⟩ ((fun i => ((xu_193.1.1.1 i).trans (xu_7.1.1.1 i))) 8), pp1, f1⟩), (fun h => by have q9 := xu_193.2.2 h; rw [show (uF (uF u_7 11 13 ((u_7.1 11 13) + 2)) 11 13 (((u_7.1 11 13) + 2) + 1)).1 o 3 = M.2.2.2.2.2.1 by omega, show (uF (uF u_7 11 13 ((u_7.1 11 13) + 2)) 11 13 (((u_7.1 11 13) + 2) + 1)).1 11 12 = M.2.2.2.2.2.2.2 by omega] at q9; rw [eDr_1 hfn (by omega), q9]; rfl)⟩, (fun _ hw M2 e => hw.of (by omega) (by omega) ((show u_193.2.1 (o + 2) = (uF (uF u_7 11 13 ((u_7.1 11 13) + 2)) 11 13 (((u_7.1 11 13) + 2) + 1)).2.1 (o + 2) from ku_193.2).trans ((show (uF (uF u_7 11 13 ((u_7.1 11 13) + 2)) 11 13 (((u_7.1 11 13) + 2) + 1)).2.1 (o + 2) = (uF u_7 11 13 ((u_7.1 11 13) + 2)).2.1 (o + 2) from funext fun x => uF_a).trans ((show (uF u_7 11 13 ((u_7.1 11 13) + 2)).2.1 (o + 2) = u_7.2.1 (o + 2) from funext fun x => uF_a).trans (show u_7.2.1 (o + 2) = S.2.1 (o + 2) from funext fun x => (fu_7 (o + 2) (mdl_out2 hm).1).2.1 x)))) (eDr_w e).1 (eDr_w e).2), (fun h X hX => by have y := au_193 h X (XAc.of (S := S) (u := (uF (uF u_7 11 13 ((u_7.1 11 13) + 2)) 11 13 (((u_7.1 11 13) + 2) + 1))) hX ((uF_ne (fun h => absurd h.2 (by decide))).trans ((uF_ne (fun h => absurd h.2 (by decide))).trans ((fu_7 o (mdl_out hm).1).1 2))) ((uF_ne (fun h => absurd h.2 (by decide))).trans ((uF_ne (fun h => absurd h.2 (by decide))).trans ((fu_7 o (mdl_out hm).1).1 3))) (funext fun x => (uF_a).trans ((uF_a).trans ((fu_7 (o + 1) (mdl_out1 hm).1).2.1 x))) (funext fun x => (uF_a).trans ((uF_a).trans ((fu_7 (o + 2) (mdl_out2 hm).1).2.1 x)))); unfold aDr; rw [if_neg (show ¬ k (pz + 2) = 17 by omega), show M.2.2.2.2.2.1 = (uF (uF u_7 11 13 ((u_7.1 11 13) + 2)) 11 13 (((u_7.1 11 13) + 2) + 1)).1 o 3 by omega, show M.2.2.2.2.2.2.2 = (uF (uF u_7 11 13 ((u_7.1 11 13) + 2)) 11 13 (((u_7.1 11 13) + 2) + 1)).1 11 12 by omega]; exact y), ((show OTc S (uF (uF u_7 11 13 ((u_7.1 11 13) + 2)) 11 13 (((u_7.1 11 13) + 2) + 1)) y from ⟨((uF_ne (fun h => absurd h.2 (by decide))).trans ((uF_ne (fun h => absurd h.2 (by decide))).trans ((fu_7 y (mdl_out hmy).1).1 2))), ((uF_ne (fun h => absurd h.2 (by decide))).trans ((uF_ne (fun h => absurd h.2 (by decide))).trans ((fu_7 y (mdl_out hmy).1).1 3))), ((uF_ne (fun h => absurd h.2 (by decide))).trans ((uF_ne (fun h => absurd h.2 (by decide))).trans ((fu_7 y (mdl_out hmy).1).1 4))), (funext fun x => (uF_a).trans ((uF_a).trans ((fu_7 (y + 2) (mdl_out2 hmy).1).2.1 x))), (funext fun x => (uF_a).trans ((uF_a).trans ((fu_7 (y + 1) (mdl_out1 hmy).1).2.1 x)))⟩).tr qu_193)⟩⟩ dX9_tellRow_60
  · refine lv_iconst (v := iv 0) hx hb dX9_tellRow_17 (by decide) ?_
    have q_206 : 0 ≤ u_7.1 11 9 ∧ u_7.1 11 9 ≤ 128 := iu_7.fi 11 9 9 (by decide) rfl
    have q_207 : 0 ≤ u_7.1 11 10 ∧ u_7.1 11 10 ≤ 8 := iu_7.fi 11 10 9 (by decide) rfl
    have q_208 : 0 ≤ u_7.1 11 11 ∧ u_7.1 11 11 ≤ 12 := iu_7.fi 11 11 9 (by decide) rfl
    have q_209 : (-2147483648) ≤ u_7.1 11 12 ∧ u_7.1 11 12 ≤ 2147483647 := iu_7.fi 11 12 9 (by decide) rfl
    have q_210 : (-2147483648) ≤ u_7.1 11 13 ∧ u_7.1 11 13 ≤ 2147483647 := iu_7.fi 11 13 9 (by decide) rfl
    have q_211 : 0 ≤ u_7.1 11 14 ∧ u_7.1 11 14 ≤ 7 := iu_7.fi 11 14 9 (by decide) rfl
    have q_212 : 0 ≤ S.1 o 2 ∧ S.1 o 2 ≤ 12 := hI.fi o 2 3 (mdl_k hm) hm.1
    have lk_213 : u_7.1 o 2 = S.1 o 2 := (fu_7 o (mdl_out hm).1).1 2
    have q_214 : 0 ≤ S.1 o 3 ∧ S.1 o 3 ≤ 16 := hI.fi o 3 3 (mdl_k hm) hm.1
    have lk_215 : u_7.1 o 3 = S.1 o 3 := (fu_7 o (mdl_out hm).1).1 3
    have q_216 : 0 ≤ S.1 o 4 ∧ S.1 o 4 ≤ 1 := hI.fi o 4 3 (mdl_k hm) hm.1
    have lk_217 : u_7.1 o 4 = S.1 o 4 := (fu_7 o (mdl_out hm).1).1 4
    exact sZret Cx hr hlk hW hL (by omega) ⟨iu_7, F_10, ⟨⟨⟨⟨(fun i => (xu_7.1.1.1 i)), (fun _ => by first | omega | exact xu_7.1.1.2 (by omega))⟩, by omega, by omega⟩, (fun h => absurd h (by omega)), (fun _ => (by have q0 : 0 ≤ eFind M.1 (v (pz + 1)) := (by rw [hN.find]; rcases xu_7.2.2 (by omega) with z | z; (rw [zt] at z; exact z); (exfalso; omega)); exact eDr_0 (by omega)))⟩, (fun _ hw M2 e => hw.of (by omega) (by omega) (show u_7.2.1 (o + 2) = S.2.1 (o + 2) from funext fun x => (fu_7 (o + 2) (mdl_out2 hm).1).2.1 x) (eDr_w e).1 (eDr_w e).2), (fun h => absurd h (by omega)), (show OTc S u_7 y from ⟨((fu_7 y (mdl_out hmy).1).1 2), ((fu_7 y (mdl_out hmy).1).1 3), ((fu_7 y (mdl_out hmy).1).1 4), (funext fun x => (fu_7 (y + 2) (mdl_out2 hmy).1).2.1 x), (funext fun x => (fu_7 (y + 1) (mdl_out1 hmy).1).2.1 x)⟩)⟩⟩ dX9_tellRow_18
