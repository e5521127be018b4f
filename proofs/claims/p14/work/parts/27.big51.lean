set_option maxRecDepth 100000 in
set_option maxHeartbeats 4000000 in
theorem s_X0_divideLong (l : Launch) (G : sG) (S : sS) {o b q h : Nat} (hI : cX G S 0 0 0) (ho : tau o = .inl 0) (hbb : tau b = .inl 0) (hq : tau q = .inl 0) (hh : tau h = .inl 0) (nob : Hd (o ≠ b)) (noq : Hd (o ≠ q)) (noh : Hd (o ≠ h)) (nbq : Hd (b ≠ q)) (nbh : Hd (b ≠ h)) (nqh : Hd (q ≠ h)) (hq0 : S.1 q 1 = 0) (hq02 : S.1 q 2 = 0) (hbo : S.1 b 1 ≤ S.1 o 1) : Met l yX0_divideLong (.code yX0_divideLong cX0_divideLong 8 none :: tb) (rmk 3 0 0) (sPc G 294 S [.ref (G.2.2.1 + o), .ref (G.2.2.1 + b), .ref (G.2.2.1 + q), .ref (G.2.2.1 + h)]) (sQv G 294 (fun u => cX G u 0 0 0 ∧ Fr S u (pD o q h) ∧ (u.1 o 1 ≤ S.1 o 1 ∧ u.1 q 1 ≤ S.1 o 1 ∧ 0 ≤ u.1 q 2 ∧ (u.1 o 2 = S.1 o 2 ∨ u.1 o 2 = 0) ∧ Hd (S.1 o 1 ≤ 31 → 2 ≤ S.1 b 1 → VR u o < VR S b)))) 0 0 (sF G) := by
  refine sEnter (by decide) (Nat.le_of_ble_eq_true rfl) ?_
  intro p e s m args below meth c Cx hr hlk hnm hW ls hl
  have Cx : sC G p m c cX0_divideLong 8 s args RX0 := Cx
  obtain ⟨hx, hb, hml, hown, hts⟩ := id Cx.1
  have hL : sL G [] := sL_nil
  have hl : lv_has ls 8 [(0, .ref (G.2.2.1 + o)), (1, .ref (G.2.2.1 + b)), (2, .ref (G.2.2.1 + q)), (3, .ref (G.2.2.1 + h))] := hl
  have hW0 := hW
  refine lv_aload_n hx hb dX0_divideLong_0 rfl (lv_at hl 1 rfl) ?_
  have q_1 : 0 ≤ S.1 b 1 ∧ S.1 b 1 ≤ 32 := hI.fi b 1 0 (big_lt hbb) hbb
  refine g_X0_24 Cx hW (k := b) (big_l hbb) hbb (v := S.1 b 1) rfl dX0_divideLong_1 ?_
  refine lv_istore (lv' := [(4, .int (iv (S.1 b 1))), (0, .ref (G.2.2.1 + o)), (1, .ref (G.2.2.1 + b)), (2, .ref (G.2.2.1 + q)), (3, .ref (G.2.2.1 + h))]) hx hb dX0_divideLong_4 hl (by decide) rfl (fun ls hl => ?_)
  refine lv_aload_n hx hb dX0_divideLong_6 rfl (lv_at hl 1 rfl) ?_
  have q_2 : 0 ≤ S.1 o 1 ∧ S.1 o 1 ≤ 32 := hI.fi o 1 0 (big_lt ho) ho
  refine g_X0_24 Cx hW (k := o) (big_l ho) ho (v := S.1 o 1) rfl dX0_divideLong_7 ?_
  refine lv_istore (lv' := [(5, .int (iv (S.1 o 1))), (4, .int (iv (S.1 b 1))), (0, .ref (G.2.2.1 + o)), (1, .ref (G.2.2.1 + b)), (2, .ref (G.2.2.1 + q)), (3, .ref (G.2.2.1 + h))]) hx hb dX0_divideLong_10 hl (by decide) rfl (fun ls hl => ?_)
  refine lv_iload hx hb dX0_divideLong_12 (lv_at hl 0 rfl) ?_
  refine lv_bipush (v := iv 32) hx hb dX0_divideLong_14 (by decide) ?_
  refine r_icmp_ge (tgt := 25) hx hb ⟨(by omega), (by omega)⟩ ⟨(by omega), (by omega)⟩ dX0_divideLong_16 (by decide) (fun c_3 => ?_) (fun c_3 => ?_)
  · have q_4 : 0 ≤ S.1 q 1 ∧ S.1 q 1 ≤ 32 := hI.fi q 1 0 (big_lt hq) hq
    have q_5 : (-1) ≤ S.1 q 2 ∧ S.1 q 2 ≤ 1 := hI.fi q 2 0 (big_lt hq) hq
    have q_6 : (-1) ≤ S.1 o 2 ∧ S.1 o 2 ≤ 1 := hI.fi o 2 0 (big_lt ho) ho
    exact sVret Cx hr hlk hW hL ⟨hI, (Fr.rf : Fr S S (pD o q h)), ⟨by omega, by omega, by omega, by omega, fun q1 q2 => absurd q1 (by omega)⟩⟩ dX0_divideLong_25
  · refine lv_iload hx hb dX0_divideLong_19 (lv_at hl 1 rfl) ?_
    refine lv_iconst (v := iv 2) hx hb dX0_divideLong_21 (by decide) ?_
    refine r_icmp_ge (tgt := 26) hx hb ⟨(by omega), (by omega)⟩ ⟨(by omega), (by omega)⟩ dX0_divideLong_22 (by decide) (fun c_7 => ?_) (fun c_7 => ?_)
    · have hnbb := nbH hI hbb (by omega)
      refine lv_ldc hx hb hown (hts _ w_1293) dX0_divideLong_26 ?_
      refine lv_aload_n hx hb dX0_divideLong_28 rfl (lv_at hl 3 rfl) ?_
      refine g_X0_9 Cx hW (k := b) (big_l hbb) hbb (v := .ref (G.2.2.1 + (b + 1))) (hI.rq.1 b hbb) dX0_divideLong_29 ?_
      refine lv_iload hx hb dX0_divideLong_32 (lv_at hl 1 rfl) ?_
      refine lv_iconst (v := iv 1) hx hb dX0_divideLong_34 (by decide) ?_
      refine r_isub hx hb dX0_divideLong_35 ?_
      refine rIald Cx hW (k := b + 1) (big_l1 hbb) (big_row hbb).1 (by decide) (by omega) (by omega) dX0_divideLong_36 ?_
      have q_8 := limbR hI hbb ((S.1 b 1) - 1)
      refine r_i (b := S.2.1 (b + 1) ((S.1 b 1) - 1)) rfl ?_
      refine lv_iconst (v := iv 1) hx hb dX0_divideLong_37 (by decide) ?_
      refine r_iadd hx hb dX0_divideLong_38 ?_
      refine r_idiv hx hb ⟨(by omega), (by omega)⟩ ⟨(by omega), (by omega)⟩ (by omega) dX0_divideLong_39 ?_
      obtain ⟨f, ef⟩ : ∃ z : Int, z = (1000000000 : Int).tdiv ((S.2.1 (b + 1) ((S.1 b 1) - 1)) + 1) := ⟨_, rfl⟩
      have hf := divQ (a := 1000000000) (b := (S.2.1 (b + 1) ((S.1 b 1) - 1)) + 1) (by omega) (by omega)
      rw [← ef] at hf
      refine r_i (b := f) ef.symm ?_
      clear ef
      have hkf := kn_f (t := S.2.1 (b + 1) (S.1 b 1 - 1)) (f := f) (by omega) (by omega) hf.2.1 hf.2.2
      refine lv_istore (lv' := [(6, .int (iv f)), (5, .int (iv (S.1 o 1))), (4, .int (iv (S.1 b 1))), (0, .ref (G.2.2.1 + o)), (1, .ref (G.2.2.1 + b)), (2, .ref (G.2.2.1 + q)), (3, .ref (G.2.2.1 + h))]) hx hb dX0_divideLong_40 hl (by decide) rfl (fun ls hl => ?_)
      refine lv_aload_n hx hb dX0_divideLong_42 rfl (lv_at hl 6 rfl) ?_
      refine lv_aload_n hx hb dX0_divideLong_43 rfl (lv_at hl 4 rfl) ?_
      have q_9 : (-1) ≤ S.1 b 2 ∧ S.1 b 2 ≤ 1 := hI.fi b 2 0 (big_lt hbb) hbb
      refine sBv (sV (As := [.ref (G.2.2.1 + b)]) (rest := []) (k := h) Cx (s_X0_copy l G S (o := h) (a := b) hI hh hbb) (c_X0_72 Cx rfl rfl (rmk_ok (by omega) (by decide))) hW (big_l hh) hh rfl rfl hl.1 rfl (Nat.le_of_ble_eq_true rfl) dX0_divideLong_44 ⟨Nat.le_of_ble_eq_true rfl, Nat.le_of_ble_eq_true rfl⟩) hL (fun u_10 H locs k_11 hW hL => ?_)
      obtain ⟨iu_10, fu_10, xu_10⟩ := k_11
      have F_12 := (Fr.rf : Fr S S (pD o q h)).trans (fu_10.to (pB_sub (pD_3 pB_0) (pD_3 pB_1)))
      have etop : u_10.2.1 (h + 1) (u_10.1 h 1 - 1) = S.2.1 (b + 1) (S.1 b 1 - 1) := by rw [xu_10.1]; exact xu_10.2.2 _ (by omega) (by omega)
      have eVb : V (u_10.2.1 (h + 1)) 0 (u_10.1 h 1).toNat = VR S b := by unfold VR; rw [xu_10.1]; exact V_cg (fun i i0 i1 => xu_10.2.2 (0 + i) (by omega) (by omega))
      have ec : u_10.1 h 1 = S.1 b 1 := xu_10.1
      refine lv_aload_n hx hb dX0_divideLong_47 rfl (lv_at hl 6 rfl) ?_
      refine lv_iload hx hb dX0_divideLong_48 (lv_at hl 0 rfl) ?_
      have q_13 : 0 ≤ u_10.1 h 1 ∧ u_10.1 h 1 ≤ 32 := iu_10.fi h 1 0 (big_lt hh) hh
      refine sBv (sV (As := [.int (iv f)]) (rest := []) (k := h) Cx (t_X0_scale_n l G u_10 (o := h) (f := f) iu_10 hh (by omega) (by omega) (by rw [etop]; exact hkf.2.2.1)) (c_X0_105 Cx rfl rfl (rmk_ok (by omega) (by decide))) hW (big_l hh) hh rfl rfl hl.1 rfl (Nat.le_of_ble_eq_true rfl) dX0_divideLong_50 ⟨Nat.le_of_ble_eq_true rfl, Nat.le_of_ble_eq_true rfl⟩) hL (fun u_14 H locs k_15 hW hL => ?_)
      obtain ⟨iu_14, fu_14, xu_14⟩ := k_15
      have F_16 := F_12.trans (fu_14.to (pB_sub (pD_3 pB_0) (pD_3 pB_1)))
      obtain ⟨hf1, ehf1⟩ : ∃ z : Int → Int, z = u_14.2.1 (h + 1) := ⟨_, rfl⟩
      have hVh : V hf1 0 (S.1 b 1).toNat = f * VR S b := by have e := xu_14.2.1; rw [eVb, ec] at e; rw [ehf1]; exact e
      have hlead : 500000000 ≤ hf1 (S.1 b 1 - 1) := by have e := xu_14.2.2; rw [etop, ec] at e; rw [ehf1]; have := hkf.2.2.2; omega
      refine lv_aload_n hx hb dX0_divideLong_53 rfl (lv_at hl 3 rfl) ?_
      refine lv_iload hx hb dX0_divideLong_54 (lv_at hl 0 rfl) ?_
      have lk_17 : u_14.1 o 1 = S.1 o 1 := ((fu_14 o (pB_no (neD noh) (tau_ne ho (big_row hh).1 (fun h => by cases h)))).1 1).trans ((fu_10 o (pB_no (neD noh) (tau_ne ho (big_row hh).1 (fun h => by cases h)))).1 1)
      refine sBv (sV (As := [.int (iv f)]) (rest := []) (k := o) Cx (t_X0_scale_x l G u_14 (o := o) (f := f) iu_14 ho (by omega) (by omega)) (c_X0_105 Cx rfl rfl (rmk_ok (by omega) (by decide))) hW (big_l ho) ho rfl rfl hl.1 rfl (Nat.le_of_ble_eq_true rfl) dX0_divideLong_56 ⟨Nat.le_of_ble_eq_true rfl, Nat.le_of_ble_eq_true rfl⟩) hL (fun u_18 H locs k_19 hW hL => ?_)
      obtain ⟨iu_18, fu_18, xu_18⟩ := k_19
      have F_20 := F_16.trans (fu_18.to (pB_sub (pD_1 pB_0) (pD_1 pB_1)))
      have hhl0 : u_18.2.1 (h + 1) = hf1 := by rw [ehf1]; exact funext (fun j => (fu_18 (h + 1) (pB_no (tau_ne (big_row hh).1 ho (fun h => by cases h)) (ne1S noh))).2.1 j)
      have eo1 : u_14.1 o 1 = S.1 o 1 := ((fu_14 o (pB_no (neD noh) (tau_ne ho (big_row hh).1 (fun h => by cases h)))).1 1).trans ((fu_10 o (pB_no (neD noh) (tau_ne ho (big_row hh).1 (fun h => by cases h)))).1 1)
      have eS : V (u_14.2.1 (o + 1)) 0 (S.1 o 1).toNat = VR S o := V_cg (fun j _ _ => by have := (fun j => (((fu_14 (o + 1) (pB_no (tau_ne (big_row ho).1 hh (fun h => by cases h)) (ne1 noh))).2.1 j).trans ((fu_10 (o + 1) (pB_no (tau_ne (big_row ho).1 hh (fun h => by cases h)) (ne1 noh))).2.1 j) : u_14.2.1 (o + 1) j = S.2.1 (o + 1) j)) (0 + j); exact this)
      have hVo : V (u_18.2.1 (o + 1)) 0 (S.1 o 1 + 1).toNat = f * VR S o := by have e := xu_18.2; rw [eo1, eS] at e; exact e
      have hbg := VR_ge hI hbb (by omega)
      have hst : V (u_18.2.1 (o + 1)) (S.1 o 1 - S.1 b 1 + 1) (S.1 b 1).toNat < f * VR S b := by have e := kn_start (g := u_18.2.1 (o + 1)) (s := S.2.1 (o + 1)) (f := f) (Vb := VR S b) (len := (S.1 o 1).toNat) (w := (S.1 b 1).toNat) hkf.1 (by omega) (by omega) (fun j _ => (limbR iu_18 ho j).1) (by rw [show (S.1 o 1).toNat + 1 = (S.1 o 1 + 1).toNat by omega]; exact hVo) (VR_lt hI ho) (by rw [show (S.1 b 1).toNat - 1 = (S.1 b 1 - 1).toNat by omega]; exact hbg); rw [show ((S.1 o 1).toNat : Int) - ((S.1 b 1).toNat : Int) + 1 = S.1 o 1 - S.1 b 1 + 1 by omega] at e; exact e
      have hq00 : u_18.1 q 1 = 0 := (((fu_18 q (pB_no (neS noq) (tau_ne hq (big_row ho).1 (fun h => by cases h)))).1 1).trans (((fu_14 q (pB_no (neD nqh) (tau_ne hq (big_row hh).1 (fun h => by cases h)))).1 1).trans ((fu_10 q (pB_no (neD nqh) (tau_ne hq (big_row hh).1 (fun h => by cases h)))).1 1))).trans hq0
      have ho00 : u_18.1 o 1 = S.1 o 1 := (congrFun (congrFun xu_18.1 o) 1).trans eo1
      have ho02 : u_18.1 o 2 = S.1 o 2 := (congrFun (congrFun xu_18.1 o) 2).trans (((fu_14 o (pB_no (neD noh) (tau_ne ho (big_row hh).1 (fun h => by cases h)))).1 2).trans ((fu_10 o (pB_no (neD noh) (tau_ne ho (big_row hh).1 (fun h => by cases h)))).1 2))
      refine lv_iload hx hb dX0_divideLong_59 (lv_at hl 1 rfl) ?_
      refine lv_iload hx hb dX0_divideLong_61 (lv_at hl 2 rfl) ?_
      refine r_isub hx hb dX0_divideLong_63 ?_
      refine lv_istore (lv' := [(7, .int (iv ((S.1 o 1) - (S.1 b 1)))), (6, .int (iv f)), (5, .int (iv (S.1 o 1))), (4, .int (iv (S.1 b 1))), (0, .ref (G.2.2.1 + o)), (1, .ref (G.2.2.1 + b)), (2, .ref (G.2.2.1 + q)), (3, .ref (G.2.2.1 + h))]) hx hb dX0_divideLong_64 hl (by decide) rfl (fun ls hl => ?_)
      have loop_66 : ∀ (fuel : Nat) (S66 : sS) (at0 : Int) (H : Heap) (locs : List Loc) (ls : Array Slot), (at0 + 1).toNat < fuel → (cX G S66 o 0 0) → (Fr S S66 (pD o q h)) → (Fr u_18 S66 (pD o q q)) → (-1 ≤ at0 ∧ at0 ≤ S.1 o 1 - S.1 b 1) → (S66.1 q 1 = 0) → (S66.1 o 1 = S.1 o 1 ∧ S66.1 o 2 = S.1 o 2) → (S66.2.1 (h + 1) = hf1) → (Hd (V (S66.2.1 (o + 1)) (at0 + 1) (S.1 b 1).toNat < V hf1 0 (S.1 b 1).toNat)) → sW G 294 S66 H → sL G locs → lv_has ls 8 [(7, .int (iv at0)), (6, .int (iv f)), (5, .int (iv (S.1 o 1))), (4, .int (iv (S.1 b 1))), (0, .ref (G.2.2.1 + o)), (1, .ref (G.2.2.1 + b)), (2, .ref (G.2.2.1 + q)), (3, .ref (G.2.2.1 + h))] → W p l e (rmk 3 0 0) s m args below meth c H locs 0 0 (MQ below (sQv G 294 (fun u => cX G u 0 0 0 ∧ Fr S u (pD o q h) ∧ (u.1 o 1 ≤ S.1 o 1 ∧ u.1 q 1 ≤ S.1 o 1 ∧ 0 ≤ u.1 q 2 ∧ (u.1 o 2 = S.1 o 2 ∨ u.1 o 2 = 0) ∧ Hd (S.1 o 1 ≤ 31 → 2 ≤ S.1 b 1 → VR u o < VR S b)))) args s 0 0 (sF G)) (F0 m 66 ls []) := by
        intro fuel
        induction fuel with
        | zero => intro S66 at0 H locs ls hmeas hI66 hFm66 hL66_ hat hq66 ho66 hhl hV66 hW hL hl; exact absurd hmeas (Nat.not_lt_zero _)
        | succ fuel ih_66 =>
          intro S66 at0 H locs ls hmeas hI66 hFm66 hL66_ hat hq66 ho66 hhl hV66 hW hL hl
          refine lv_iload hx hb dX0_divideLong_66 (lv_at hl 0 rfl) ?_
          refine r_if_lt (tgt := 93) hx hb ⟨(by omega), (by omega)⟩ dX0_divideLong_68 (by decide) (fun c_21 => ?_) (fun c_21 => ?_)
          · have j_22 := hI66.exB2 ho q
            refine lv_aload_n hx hb dX0_divideLong_93 rfl (lv_at hl 6 rfl) ?_
            refine lv_iload hx hb dX0_divideLong_94 (lv_at hl 2 rfl) ?_
            refine lv_iload hx hb dX0_divideLong_96 (lv_at hl 3 rfl) ?_
            refine r_isub hx hb dX0_divideLong_98 ?_
            refine lv_iconst (v := iv 1) hx hb dX0_divideLong_99 (by decide) ?_
            refine r_iadd hx hb dX0_divideLong_100 ?_
            refine p_X0_24 Cx hW hL (k := q) (big_l hq) hq dX0_divideLong_101 (fun H locs hW hL => ?_)
            have F_23 : Fr S (uF S66 q 1 (((S.1 o 1) - (S.1 b 1)) + 1)) (pD o q h) := hFm66.F (pD_2 pB_0)
            have F_24 : Fr u_18 (uF S66 q 1 (((S.1 o 1) - (S.1 b 1)) + 1)) (pD o q q) := hL66_.F (pD_3 pB_0)
            have i_25 : cX G (uF S66 q 1 (((S.1 o 1) - (S.1 b 1)) + 1)) (o + 1000 * q) 0 0 := j_22.cnt (exq_2 ho) hq ⟨by omega, by omega⟩
            refine lv_aload_n hx hb dX0_divideLong_104 rfl (lv_at hl 6 rfl) ?_
            refine lv_iconst (v := iv 1) hx hb dX0_divideLong_105 (by decide) ?_
            refine p_X0_34 Cx hW hL (k := q) (big_l hq) hq dX0_divideLong_106 (fun H locs hW hL => ?_)
            have F_26 : Fr S (uF (uF S66 q 1 (((S.1 o 1) - (S.1 b 1)) + 1)) q 2 1) (pD o q h) := F_23.F (pD_2 pB_0)
            have F_27 : Fr u_18 (uF (uF S66 q 1 (((S.1 o 1) - (S.1 b 1)) + 1)) q 2 1) (pD o q q) := F_24.F (pD_3 pB_0)
            have i_28 : cX G (uF (uF S66 q 1 (((S.1 o 1) - (S.1 b 1)) + 1)) q 2 1) (o + 1000 * q) 0 0 := i_25.F hq rfl (show (-1) ≤ 1 ∧ 1 ≤ 1 from ⟨by omega, by omega⟩)
            refine lv_aload_n hx hb dX0_divideLong_109 rfl (lv_at hl 6 rfl) ?_
            refine sBv (sV (As := []) (rest := []) (k := q) Cx (t_X0_trim_2 l G (uF (uF S66 q 1 (((S.1 o 1) - (S.1 b 1)) + 1)) q 2 1) (o := q) (z := o) i_28 hq ho (neD noq)) (c_X0_59 Cx rfl rfl (rmk_ok (by omega) (by decide))) hW (big_l hq) hq rfl rfl hl.1 rfl (Nat.le_of_ble_eq_true rfl) dX0_divideLong_110 ⟨Nat.le_of_ble_eq_true rfl, Nat.le_of_ble_eq_true rfl⟩) hL (fun u_29 H locs k_30 hW hL => ?_)
            obtain ⟨iu_29, fu_29, xu_29⟩ := k_30
            have F_31 := F_26.trans (fu_29.to (pB_sub (pD_2 pB_0) (pD_2 pB_1)))
            have F_32 := F_27.trans (fu_29.to (pB_sub (pD_3 pB_0) (pD_3 pB_1)))
            have hq110 := xu_29
            refine lv_aload_n hx hb dX0_divideLong_113 rfl (lv_at hl 4 rfl) ?_
            refine lv_iload hx hb dX0_divideLong_114 (lv_at hl 3 rfl) ?_
            refine p_X0_24 Cx hW hL (k := o) (big_l ho) ho dX0_divideLong_116 (fun H locs hW hL => ?_)
            have F_33 : Fr S (uF u_29 o 1 (S.1 b 1)) (pD o q h) := F_31.F (pD_1 pB_0)
            have F_34 : Fr u_18 (uF u_29 o 1 (S.1 b 1)) (pD o q q) := F_32.F (pD_1 pB_0)
            have i_35 : cX G (uF u_29 o 1 (S.1 b 1)) o 0 0 := iu_29.cnt (exq_s ho) ho ⟨by omega, by omega⟩
            refine lv_aload_n hx hb dX0_divideLong_119 rfl (lv_at hl 4 rfl) ?_
            have lk_36 : (uF u_29 o 1 (S.1 b 1)).1 o 1 = S.1 b 1 := uF_on
            have q_37 : (-1) ≤ S66.1 o 2 ∧ S66.1 o 2 ≤ 1 := j_22.fi o 2 0 (big_lt ho) ho
            have lk_38 : (uF u_29 o 1 (S.1 b 1)).1 o 2 = S66.1 o 2 := (uF_ne (fun h => absurd h.2 (by decide))).trans (((fu_29 o (pB_no (neD noq) (tau_ne ho (big_row hq).1 (fun h => by cases h)))).1 2).trans ((uF_ne (fun h => absurd h.1 (neD noq))).trans (uF_ne (fun h => absurd h.2 (by decide)))))
            refine sBv (sV (As := []) (rest := []) (k := o) Cx (s_X0_trim l G (uF u_29 o 1 (S.1 b 1)) (o := o) i_35 ho) (c_X0_59 Cx rfl rfl (rmk_ok (by omega) (by decide))) hW (big_l ho) ho rfl rfl hl.1 rfl (Nat.le_of_ble_eq_true rfl) dX0_divideLong_120 ⟨Nat.le_of_ble_eq_true rfl, Nat.le_of_ble_eq_true rfl⟩) hL (fun u_39 H locs k_40 hW hL => ?_)
            obtain ⟨iu_39, fu_39, xu_39⟩ := k_40
            have F_41 := F_33.trans (fu_39.to (pB_sub (pD_1 pB_0) (pD_1 pB_1)))
            have F_42 := F_34.trans (fu_39.to (pB_sub (pD_1 pB_0) (pD_1 pB_1)))
            have ho120 := xu_39
            refine lv_aload_n hx hb dX0_divideLong_123 rfl (lv_at hl 4 rfl) ?_
            refine lv_iload hx hb dX0_divideLong_124 (lv_at hl 1 rfl) ?_
            have q_43 : 0 ≤ u_39.1 o 1 ∧ u_39.1 o 1 ≤ 32 := iu_39.fi o 1 0 (big_lt ho) ho
            have q_44 : (-1) ≤ u_39.1 o 2 ∧ u_39.1 o 2 ≤ 1 := iu_39.fi o 2 0 (big_lt ho) ho
            refine sBi (sV (As := [.int (iv f)]) (rest := []) (k := o) Cx (s_X0_reduce l G u_39 (o := o) (y := f) iu_39 ho (by omega)) (c_X0_91 Cx rfl rfl (rmk_ok (by omega) (by decide))) hW (big_l ho) ho rfl rfl hl.1 rfl (Nat.le_of_ble_eq_true rfl) dX0_divideLong_126 ⟨Nat.le_of_ble_eq_true rfl, Nat.le_of_ble_eq_true rfl⟩) hL (fun r_47 u_45 H locs k_46 hW hL => ?_)
            obtain ⟨iu_45, fu_45, xu_45⟩ := k_46
            have F_48 := F_41.trans (fu_45.to (pB_sub (pD_1 pB_0) (pD_1 pB_1)))
            have F_49 := F_42.trans (fu_45.to (pB_sub (pD_1 pB_0) (pD_1 pB_1)))
            have ho126 := xu_45
            refine lv_pop hx hb dX0_divideLong_129 rfl ?_
            have q_50 : 0 ≤ u_45.1 o 1 ∧ u_45.1 o 1 ≤ 32 := iu_45.fi o 1 0 (big_lt ho) ho
            have q_51 : 0 ≤ u_29.1 q 1 ∧ u_29.1 q 1 ≤ 32 := iu_29.fi q 1 0 (big_lt hq) hq
            have lk_52 : u_45.1 q 1 = u_29.1 q 1 := ((fu_45 q (pB_no (neS noq) (tau_ne hq (big_row ho).1 (fun h => by cases h)))).1 1).trans (((fu_39 q (pB_no (neS noq) (tau_ne hq (big_row ho).1 (fun h => by cases h)))).1 1).trans (uF_ne (fun h => absurd h.1 (neS noq))))
            have q_53 : (-1) ≤ u_29.1 q 2 ∧ u_29.1 q 2 ≤ 1 := iu_29.fi q 2 0 (big_lt hq) hq
            have lk_54 : u_45.1 q 2 = u_29.1 q 2 := ((fu_45 q (pB_no (neS noq) (tau_ne hq (big_row ho).1 (fun h => by cases h)))).1 2).trans (((fu_39 q (pB_no (neS noq) (tau_ne hq (big_row ho).1 (fun h => by cases h)))).1 2).trans (uF_ne (fun h => absurd h.2 (by decide))))
            have q_55 : (-1) ≤ u_45.1 o 2 ∧ u_45.1 o 2 ≤ 1 := iu_45.fi o 2 0 (big_lt ho) ho
            exact sVret Cx hr hlk hW hL ⟨iu_45, F_48, ⟨by have e1 := ho126.1; have e2 := ho120.1; rw [uF_on] at e2; omega, by have e : u_45.1 q 1 = u_29.1 q 1 := ((fu_45 q (pB_no (neS noq) (tau_ne hq (big_row ho).1 (fun h => by cases h)))).1 1).trans (((fu_39 q (pB_no (neS noq) (tau_ne hq (big_row ho).1 (fun h => by cases h)))).1 1).trans (uF_ne (fun h => absurd h.1 (neS noq)))); have e2 := hq110.1; rw [uF_i (by decide), uF_on] at e2; omega, by have e : u_45.1 q 2 = u_29.1 q 2 := ((fu_45 q (pB_no (neS noq) (tau_ne hq (big_row ho).1 (fun h => by cases h)))).1 2).trans (((fu_39 q (pB_no (neS noq) (tau_ne hq (big_row ho).1 (fun h => by cases h)))).1 2).trans (uF_ne (fun h => absurd h.2 (by decide)))); have e2 := hq110.2.1; rw [uF_on] at e2; omega, by have e2 := ho120.2.1; have e1 := ho126.2.2.2.1; have e3 : (uF u_29 o 1 (S.1 b 1)).1 o 2 = S66.1 o 2 := (uF_ne (fun h => absurd h.2 (by decide))).trans (((fu_29 o (pB_no (neD noq) (tau_ne ho (big_row hq).1 (fun h => by cases h)))).1 2).trans ((uF_ne (fun h => absurd h.1 (neD noq))).trans (uF_ne (fun h => absurd h.2 (by decide))))); have e4 := ho66.2; omega, fun q1 q2 => by have e1 := (ho126.2.2.2.2 (by omega)).2; have e2 : V ((uF u_29 o 1 (S.1 b 1)).2.1 (o + 1)) 0 (S.1 b 1).toNat = V ((uF u_29 o 1 (S.1 b 1)).2.1 (o + 1)) 0 (u_39.1 o 1).toNat := VR_trim (by have := iu_39.fi o 1 0 (big_lt ho) ho; exact this.1) (by have e5 := ho120.1; rw [uF_on] at e5; exact e5) (fun j j0 j1 => ho120.2.2.2.2.2.2 j j0 (by rw [uF_on]; exact j1)); have e3 : VR u_39 o = V ((uF u_29 o 1 (S.1 b 1)).2.1 (o + 1)) 0 (S.1 b 1).toNat := (by unfold VR; rw [ho120.2.2.1]; exact e2.symm); have e4 : V ((uF u_29 o 1 (S.1 b 1)).2.1 (o + 1)) 0 (S.1 b 1).toNat = V (S66.2.1 (o + 1)) (at0 + 1) (S.1 b 1).toNat := (by rw [show at0 + 1 = 0 by omega]; exact V_cg (fun j _ _ => by have := (fun j => ((uF_a).trans (((fu_29 (o + 1) (pB_no (tau_ne (big_row ho).1 hq (fun h => by cases h)) (ne1 noq))).2.1 j).trans ((uF_a).trans (uF_a))) : (uF u_29 o 1 (S.1 b 1)).2.1 (o + 1) j = S66.2.1 (o + 1) j)) (0 + j); exact this)); have e6 : V (S66.2.1 (o + 1)) (at0 + 1) (S.1 b 1).toNat < V hf1 0 (S.1 b 1).toNat := hV66; have e7 : f * VR u_45 o < f * VR S b := (by omega); exact Int.lt_of_mul_lt_mul_left e7 (by omega)⟩⟩ dX0_divideLong_130
          · refine lv_aload_n hx hb dX0_divideLong_71 rfl (lv_at hl 6 rfl) ?_
            refine g_X0_9 Cx hW (k := q) (big_l hq) hq (v := .ref (G.2.2.1 + (q + 1))) (hI66.rq.1 q hq) dX0_divideLong_72 ?_
            refine lv_iload hx hb dX0_divideLong_75 (lv_at hl 0 rfl) ?_
            refine lv_aload_n hx hb dX0_divideLong_77 rfl (lv_at hl 4 rfl) ?_
            refine lv_iload hx hb dX0_divideLong_78 (lv_at hl 0 rfl) ?_
            refine lv_aload_n hx hb dX0_divideLong_80 rfl (lv_at hl 7 rfl) ?_
            refine lv_iload hx hb dX0_divideLong_81 (lv_at hl 3 rfl) ?_
            refine sBi (sV (As := [.int (iv at0), .ref (G.2.2.1 + h), .int (iv (S.1 b 1))]) (rest := [.int (iv at0), .ref (G.2.2.1 + (q + 1))]) (k := o) Cx (s_X0_digitAt l G S66 (o := o) (a := at0) (h := h) (w := S.1 b 1) hI66 ho hh (neD noh) (by omega) (by rw [hhl]; exact hlead) (by rw [hhl, V_frontI (by omega)]; have e1 := hV66; have e2 := limbR hI66 ho at0; have e3 : V (S66.2.1 (o + 1)) (at0 + 1) (S.1 b 1).toNat < V hf1 0 (S.1 b 1).toNat := e1; omega)) (c_X0_109 Cx rfl rfl (rmk_ok (by omega) (by decide))) hW (big_l ho) ho rfl rfl hl.1 rfl (Nat.le_of_ble_eq_true rfl) dX0_divideLong_83 ⟨Nat.le_of_ble_eq_true rfl, Nat.le_of_ble_eq_true rfl⟩) hL (fun r_58 u_56 H locs k_57 hW hL => ?_)
            obtain ⟨iu_56, fu_56, xu_56⟩ := k_57
            have F_59 := hFm66.trans (fu_56.to (pB_sub (pD_1 pB_0) (pD_1 pB_1)))
            have F_60 := hL66_.trans (fu_56.to (pB_sub (pD_1 pB_0) (pD_1 pB_1)))
            have hq1 : u_56.1 q 1 = 0 := by rw [xu_56.2.2.1]; exact hq66
            have ho1 : u_56.1 o 1 = S.1 o 1 ∧ u_56.1 o 2 = S.1 o 2 := by rw [xu_56.2.2.1]; exact ho66
            have hh1 : u_56.2.1 (h + 1) = hf1 := (funext (fun j => (fu_56 (h + 1) (pB_no (tau_ne (big_row hh).1 ho (fun h => by cases h)) (ne1S noh))).2.1 j)).trans hhl
            have hV1 : V (u_56.2.1 (o + 1)) at0 (S.1 b 1).toNat < V hf1 0 (S.1 b 1).toNat := by have e := xu_56.2.2.2.2.1; rw [hhl] at e; exact e
            refine rIast Cx hW hL (k := q + 1) (big_l1 hq) (big_row hq).1 (by decide) (by omega) (by omega) dX0_divideLong_86 (fun H locs hW hL => ?_)
            have F_61 : Fr S (uA u_56 (q + 1) at0 r_58) (pD o q h) := F_59.A (pD_2 pB_1)
            have F_62 : Fr u_18 (uA u_56 (q + 1) at0 r_58) (pD o q q) := F_60.A (pD_3 pB_1)
            have i_63 : cX G (uA u_56 (q + 1) at0 r_58) o 0 0 := iu_56.limb (Or.inr hq1) hq ⟨(by omega), (by omega)⟩
            refine lv_iinc (v := iv (at0 + (-1))) (lv' := [(7, .int (iv (at0 + (-1)))), (6, .int (iv f)), (5, .int (iv (S.1 o 1))), (4, .int (iv (S.1 b 1))), (0, .ref (G.2.2.1 + o)), (1, .ref (G.2.2.1 + b)), (2, .ref (G.2.2.1 + q)), (3, .ref (G.2.2.1 + h))]) hx hb dX0_divideLong_87 hl (k := 0) rfl ((Int32.ofInt_add _ _).symm) (by decide) rfl (fun ls hl => ?_)
            refine lv_goto (tgt := 66) hx hb dX0_divideLong_90 (by decide) ?_
            have q_64 : 0 ≤ S66.1 q 1 ∧ S66.1 q 1 ≤ 32 := hI66.fi q 1 0 (big_lt hq) hq
            have lk_65 : (uA u_56 (q + 1) at0 r_58).1 q 1 = S66.1 q 1 := (uA_f).trans ((fu_56 q (pB_no (neS noq) (tau_ne hq (big_row ho).1 (fun h => by cases h)))).1 1)
            have q_66 : 0 ≤ u_56.1 o 1 ∧ u_56.1 o 1 ≤ 32 := iu_56.fi o 1 0 (big_lt ho) ho
            have lk_67 : (uA u_56 (q + 1) at0 r_58).1 o 1 = u_56.1 o 1 := uA_f
            have q_68 : (-1) ≤ u_56.1 o 2 ∧ u_56.1 o 2 ≤ 1 := iu_56.fi o 2 0 (big_lt ho) ho
            have lk_69 : (uA u_56 (q + 1) at0 r_58).1 o 2 = u_56.1 o 2 := uA_f
            exact ih_66 (uA u_56 (q + 1) at0 r_58) (at0 + (-1)) _ _ _ (by omega) i_63 F_61 F_62 (by omega) hq1 ho1 ((funext (fun j => uA_ne (fun z => absurd z.1 (ne1S nqh)))).trans hh1) (show _ < _ by rw [show at0 + -1 + 1 = at0 by omega, show V ((uA u_56 (q + 1) at0 _).2.1 (o + 1)) at0 (S.1 b 1).toNat = V (u_56.2.1 (o + 1)) at0 (S.1 b 1).toNat from V_cg (fun j _ _ => uA_ne (fun z => absurd z.1 (ne1 noq)))]; exact hV1) hW hL (lv_sub hl [0, 1, 2, 3, 4, 5, 6, 7] rfl)
      have q_70 : 0 ≤ S.1 q 1 ∧ S.1 q 1 ≤ 32 := hI.fi q 1 0 (big_lt hq) hq
      have lk_71 : u_18.1 q 1 = S.1 q 1 := ((fu_18 q (pB_no (neS noq) (tau_ne hq (big_row ho).1 (fun h => by cases h)))).1 1).trans (((fu_14 q (pB_no (neD nqh) (tau_ne hq (big_row hh).1 (fun h => by cases h)))).1 1).trans ((fu_10 q (pB_no (neD nqh) (tau_ne hq (big_row hh).1 (fun h => by cases h)))).1 1))
      have q_72 : 0 ≤ u_18.1 o 1 ∧ u_18.1 o 1 ≤ 32 := iu_18.fi o 1 0 (big_lt ho) ho
      have q_73 : (-1) ≤ u_18.1 o 2 ∧ u_18.1 o 2 ≤ 1 := iu_18.fi o 2 0 (big_lt ho) ho
      exact loop_66 (_ + 1) u_18 ((S.1 o 1) - (S.1 b 1)) _ _ _ (Nat.lt_succ_self _) iu_18 F_20 Fr.rf (by omega) hq00 ⟨ho00, ho02⟩ hhl0 (show _ < _ by rw [hVh]; exact hst) hW hL (lv_sub hl [0, 1, 2, 3, 4, 5, 6, 7] rfl)
    · have q_74 : 0 ≤ S.1 q 1 ∧ S.1 q 1 ≤ 32 := hI.fi q 1 0 (big_lt hq) hq
      have q_75 : (-1) ≤ S.1 q 2 ∧ S.1 q 2 ≤ 1 := hI.fi q 2 0 (big_lt hq) hq
      have q_76 : (-1) ≤ S.1 o 2 ∧ S.1 o 2 ≤ 1 := hI.fi o 2 0 (big_lt ho) ho
      exact sVret Cx hr hlk hW hL ⟨hI, (Fr.rf : Fr S S (pD o q h)), ⟨by omega, by omega, by omega, by omega, fun q1 q2 => absurd q1 (by omega)⟩⟩ dX0_divideLong_25

set_option maxRecDepth 100000 in
set_option maxHeartbeats 4000000 in
theorem s_X0_divide (l : Launch) (G : sG) (S : sS) {o b q h : Nat} {n : Int} (hI : cX G S 0 0 0) (ho : tau o = .inl 0) (hbb : tau b = .inl 0) (hq : tau q = .inl 0) (hh : tau h = .inl 0) (nob : Hd (o ≠ b)) (noq : Hd (o ≠ q)) (noh : Hd (o ≠ h)) (nbq : Hd (b ≠ q)) (nbh : Hd (b ≠ h)) (nqh : Hd (q ≠ h)) (hn0 : 1 ≤ n ∧ n ≤ 30 ∧ S.1 o 1 ≤ n ∧ S.1 b 1 ≤ 30) : Met l yX0_divide (.code yX0_divide cX0_divide 5 none :: tb) (rmk 4 0 0) (sPc G 294 S [.ref (G.2.2.1 + o), .ref (G.2.2.1 + b), .ref (G.2.2.1 + q), .ref (G.2.2.1 + h)]) (sQv G 294 (fun u => cX G u 0 0 0 ∧ Fr S u (pD o q h) ∧ ((u.1 o 1 ≤ S.1 o 1 ∨ u.1 o 1 ≤ S.1 b 1) ∧ u.1 q 1 ≤ n + 1 ∧ Hd (u.1 q 1 = n + 1 → u.2.1 (q + 1) n ≤ 1) ∧ Hd (0 ≤ S.1 o 2 → u.1 q 1 ≤ n) ∧ (1 ≤ S.1 b 1 → 0 < S.1 b 2 → 0 ≤ u.1 o 2) ∧ (S.1 b 2 ≤ 0 → u.1 o 1 = S.1 o 1 ∧ u.1 o 2 = S.1 o 2)))) 0 0 (sF G) := by
  refine sEnter (by decide) (Nat.le_of_ble_eq_true rfl) ?_
  intro p e s m args below meth c Cx hr hlk hnm hW ls hl
  have Cx : sC G p m c cX0_divide 5 s args RX0 := Cx
  obtain ⟨hx, hb, hml, hown, hts⟩ := id Cx.1
  have hL : sL G [] := sL_nil
  have hl : lv_has ls 5 [(0, .ref (G.2.2.1 + o)), (1, .ref (G.2.2.1 + b)), (2, .ref (G.2.2.1 + q)), (3, .ref (G.2.2.1 + h))] := hl
  have hW0 := hW
  refine lv_aload_n hx hb dX0_divide_0 rfl (lv_at hl 2 rfl) ?_
  refine lv_lconst (v := jv 0) hx hb dX0_divide_1 (by decide) ?_
  refine sBv (sV (As := [.long (jv 0)]) (rest := []) (k := q) Cx (s_X0_put l G S (o := q) (v := 0) hI hq (by omega)) (c_X0_62 Cx rfl rfl (rmk_ok (by omega) (by decide))) hW (big_l hq) hq rfl rfl hl.1 rfl (Nat.le_of_ble_eq_true rfl) dX0_divide_2 ⟨Nat.le_of_ble_eq_true rfl, Nat.le_of_ble_eq_true rfl⟩) hL (fun u_1 H locs k_2 hW hL => ?_)
  obtain ⟨iu_1, fu_1, xu_1⟩ := k_2
  have F_3 := (Fr.rf : Fr S S (pD o q h)).trans (fu_1.to (pB_sub (pD_2 pB_0) (pD_2 pB_1)))
  refine lv_aload_n hx hb dX0_divide_5 rfl (lv_at hl 1 rfl) ?_
  have q_4 : (-1) ≤ S.1 b 2 ∧ S.1 b 2 ≤ 1 := hI.fi b 2 0 (big_lt hbb) hbb
  refine g_X0_34 Cx hW (k := b) (big_l hbb) hbb (v := S.1 b 2) ((fu_1 b (pB_no (neD nbq) (tau_ne hbb (big_row hq).1 (fun h => by cases h)))).1 2) dX0_divide_6 ?_
  refine r_if_gt (tgt := 13) hx hb ⟨(by omega), (by omega)⟩ dX0_divide_9 (by decide) (fun c_5 => ?_) (fun c_5 => ?_)
  · refine lv_aload_n hx hb dX0_divide_13 rfl (lv_at hl 0 rfl) ?_
    have q_6 : (-1) ≤ S.1 o 2 ∧ S.1 o 2 ≤ 1 := hI.fi o 2 0 (big_lt ho) ho
    refine g_X0_34 Cx hW (k := o) (big_l ho) ho (v := S.1 o 2) ((fu_1 o (pB_no (neD noq) (tau_ne ho (big_row hq).1 (fun h => by cases h)))).1 2) dX0_divide_14 ?_
    refine r_if_ge (tgt := 24) hx hb ⟨(by omega), (by omega)⟩ dX0_divide_17 (by decide) (fun c_7 => ?_) (fun c_7 => ?_)
    · refine lv_iconst (v := iv 0) hx hb dX0_divide_24 (by decide) ?_
      refine lv_istore (lv' := [(4, .int (iv 0)), (0, .ref (G.2.2.1 + o)), (1, .ref (G.2.2.1 + b)), (2, .ref (G.2.2.1 + q)), (3, .ref (G.2.2.1 + h))]) hx hb dX0_divide_25 hl (by decide) rfl (fun ls hl => ?_)
      refine lv_aload_n hx hb dX0_divide_27 rfl (lv_at hl 1 rfl) ?_
      refine lv_aload_n hx hb dX0_divide_28 rfl (lv_at hl 1 rfl) ?_
      refine g_X0_34 Cx hW (k := o) (big_l ho) ho (v := S.1 o 2) ((fu_1 o (pB_no (neD noq) (tau_ne ho (big_row hq).1 (fun h => by cases h)))).1 2) dX0_divide_29 ?_
      refine r_abs hx hb (hml.trans hl.1.symm) hown (hts _ w_1155) (hts _ w_1156) (hts _ w_206) (hts _ w_1157) (rmk_f (by omega)) (rmk_l (by omega) (Nat.le_of_ble_eq_true rfl)) (Nat.le_of_ble_eq_true rfl) (Nat.le_of_ble_eq_true rfl) ⟨(by omega), (by omega)⟩ dX0_divide_32 (fun z_8 hz_8 => ?_)
      refine p_X0_34 Cx hW hL (k := o) (big_l ho) ho dX0_divide_35 (fun H locs hW hL => ?_)
      have F_9 : Fr S (uF u_1 o 2 z_8) (pD o q h) := F_3.F (pD_1 pB_0)
      have i_10 : cX G (uF u_1 o 2 z_8) 0 0 0 := iu_1.F ho rfl (show (-1) ≤ z_8 ∧ z_8 ≤ 1 from ⟨by omega, by omega⟩)
      refine lv_aload_n hx hb dX0_divide_38 rfl (lv_at hl 2 rfl) ?_
      have q_11 : 0 ≤ S.1 b 1 ∧ S.1 b 1 ≤ 32 := hI.fi b 1 0 (big_lt hbb) hbb
      refine g_X0_24 Cx hW (k := b) (big_l hbb) hbb (v := S.1 b 1) ((uF_ne (fun h => absurd h.2 (by decide))).trans ((fu_1 b (pB_no (neD nbq) (tau_ne hbb (big_row hq).1 (fun h => by cases h)))).1 1)) dX0_divide_39 ?_
      refine lv_iconst (v := iv 1) hx hb dX0_divide_42 (by decide) ?_
      refine r_icmp_ne (tgt := 69) hx hb ⟨(by omega), (by omega)⟩ ⟨(by omega), (by omega)⟩ dX0_divide_43 (by decide) (fun c_12 => ?_) (fun c_12 => ?_)
      · refine lv_aload_n hx hb dX0_divide_69 rfl (lv_at hl 1 rfl) ?_
        refine lv_aload_n hx hb dX0_divide_70 rfl (lv_at hl 2 rfl) ?_
        have lk_13 : (uF u_1 o 2 z_8).1 b 1 = S.1 b 1 := (uF_ne (fun h => absurd h.2 (by decide))).trans ((fu_1 b (pB_no (neD nbq) (tau_ne hbb (big_row hq).1 (fun h => by cases h)))).1 1)
        have q_14 : 0 ≤ S.1 o 1 ∧ S.1 o 1 ≤ 32 := hI.fi o 1 0 (big_lt ho) ho
        have lk_15 : (uF u_1 o 2 z_8).1 o 1 = S.1 o 1 := (uF_ne (fun h => absurd h.2 (by decide))).trans ((fu_1 o (pB_no (neD noq) (tau_ne ho (big_row hq).1 (fun h => by cases h)))).1 1)
        refine sBi (sV (As := [.ref (G.2.2.1 + b)]) (rest := []) (k := o) Cx (s_X0_compareSize l G (uF u_1 o 2 z_8) (o := o) (a := b) i_10 ho hbb) (c_X0_79 Cx rfl rfl (rmk_ok (by omega) (by decide))) hW (big_l ho) ho rfl rfl hl.1 rfl (Nat.le_of_ble_eq_true rfl) dX0_divide_71 ⟨Nat.le_of_ble_eq_true rfl, Nat.le_of_ble_eq_true rfl⟩) hL (fun r_18 u_16 H locs k_17 hW hL => ?_)
        obtain ⟨eu_16, xu_16⟩ := k_17
        rw [eu_16] at hW
        have hkc : Hd (r_18 < 0 → VR (uF u_1 o 2 z_8) o < VR S b) := fun q => by have e := xu_16.2.2.2.2.2 q; have e2 : VR (uF u_1 o 2 z_8) b = VR S b := (VR_F (fun h => absurd h.2 (by decide))).trans (VR_fr fu_1 (pB_no (neD nbq) (tau_ne hbb (big_row hq).1 (fun h => by cases h))) (pB_no (tau_ne (big_row hbb).1 hq (fun h => by cases h)) (ne1 nbq))); rw [e2] at e; exact e
        refine r_if_lt (tgt := 84) hx hb ⟨(by omega), (by omega)⟩ dX0_divide_74 (by decide) (fun c_19 => ?_) (fun c_19 => ?_)
        · refine lv_iload hx hb dX0_divide_84 (lv_at hl 0 rfl) ?_
          refine r_if_eq (tgt := 121) hx hb ⟨(by omega), (by omega)⟩ dX0_divide_86 (by decide) (fun _ => ?_) (fun c => absurd (by omega) c)
          have q_20 : 0 ≤ u_1.1 q 1 ∧ u_1.1 q 1 ≤ 32 := iu_1.fi q 1 0 (big_lt hq) hq
          have lk_21 : (uF u_1 o 2 z_8).1 q 1 = u_1.1 q 1 := uF_ne (fun h => absurd h.2 (by decide))
          have lk_22 : (uF u_1 o 2 z_8).1 o 2 = z_8 := uF_on
          exact sVret Cx hr hlk hW hL ⟨i_10, F_9, ⟨by omega, by omega, fun z => absurd z (by omega), fun z => by omega, by omega, by omega⟩⟩ dX0_divide_121
        · refine lv_aload_n hx hb dX0_divide_77 rfl (lv_at hl 1 rfl) ?_
          refine lv_aload_n hx hb dX0_divide_78 rfl (lv_at hl 2 rfl) ?_
          refine lv_aload_n hx hb dX0_divide_79 rfl (lv_at hl 3 rfl) ?_
          refine lv_aload_n hx hb dX0_divide_80 rfl (lv_at hl 4 rfl) ?_
          have q_23 : 0 ≤ u_1.1 q 1 ∧ u_1.1 q 1 ≤ 32 := iu_1.fi q 1 0 (big_lt hq) hq
          have lk_24 : (uF u_1 o 2 z_8).1 q 1 = u_1.1 q 1 := uF_ne (fun h => absurd h.2 (by decide))
          have q_25 : (-1) ≤ u_1.1 q 2 ∧ u_1.1 q 2 ≤ 1 := iu_1.fi q 2 0 (big_lt hq) hq
          have lk_26 : (uF u_1 o 2 z_8).1 q 2 = u_1.1 q 2 := uF_ne (fun h => absurd h.1 (neS noq))
          have lk_27 : (uF u_1 o 2 z_8).1 o 2 = z_8 := uF_on
          refine sBv (sV (As := [.ref (G.2.2.1 + b), .ref (G.2.2.1 + q), .ref (G.2.2.1 + h)]) (rest := []) (k := o) Cx (s_X0_divideLong l G (uF u_1 o 2 z_8) (o := o) (b := b) (q := q) (h := h) i_10 ho hbb hq hh (neD nob) (neD noq) (neD noh) (neD nbq) (neD nbh) (neD nqh) (by omega) (by omega) (by omega)) (c_X0_94 Cx rfl rfl (rmk_ok (by omega) (by decide))) hW (big_l ho) ho rfl rfl hl.1 rfl (Nat.le_of_ble_eq_true rfl) dX0_divide_81 ⟨Nat.le_of_ble_eq_true rfl, Nat.le_of_ble_eq_true rfl⟩) hL (fun u_28 H locs k_29 hW hL => ?_)
          obtain ⟨iu_28, fu_28, xu_28⟩ := k_29
          have F_30 := F_9.trans fu_28
          have hkd : Hd (1 ≤ S.1 b 1 → VR u_28 o < VR S b) := fun _ => by have e := xu_28.2.2.2.2 (by omega) (by omega); have e2 : VR (uF u_1 o 2 z_8) b = VR S b := (VR_F (fun h => absurd h.2 (by decide))).trans (VR_fr fu_1 (pB_no (neD nbq) (tau_ne hbb (big_row hq).1 (fun h => by cases h))) (pB_no (tau_ne (big_row hbb).1 hq (fun h => by cases h)) (ne1 nbq))); rw [e2] at e; exact e
          refine lv_iload hx hb dX0_divide_84 (lv_at hl 0 rfl) ?_
          refine r_if_eq (tgt := 121) hx hb ⟨(by omega), (by omega)⟩ dX0_divide_86 (by decide) (fun _ => ?_) (fun c => absurd (by omega) c)
          have q_31 : 0 ≤ u_28.1 o 1 ∧ u_28.1 o 1 ≤ 32 := iu_28.fi o 1 0 (big_lt ho) ho
          have q_32 : 0 ≤ u_28.1 q 1 ∧ u_28.1 q 1 ≤ 32 := iu_28.fi q 1 0 (big_lt hq) hq
          have q_33 : (-1) ≤ u_28.1 o 2 ∧ u_28.1 o 2 ≤ 1 := iu_28.fi o 2 0 (big_lt ho) ho
          exact sVret Cx hr hlk hW hL ⟨iu_28, F_30, ⟨by omega, by omega, fun z => absurd z (by omega), fun z => by omega, by omega, by omega⟩⟩ dX0_divide_121
      · have hb0 : S.2.1 (b + 1) 0 ≠ 0 := by have e := nbH hI hbb (by omega); rw [show S.1 b 1 - 1 = 0 by omega] at e; exact e
        have hb00 := limbR hI hbb 0
        refine lv_aload_n hx hb dX0_divide_46 rfl (lv_at hl 3 rfl) ?_
        refine lv_aload_n hx hb dX0_divide_47 rfl (lv_at hl 1 rfl) ?_
        have q_34 : 0 ≤ S.1 o 1 ∧ S.1 o 1 ≤ 32 := hI.fi o 1 0 (big_lt ho) ho
        have lk_35 : (uF u_1 o 2 z_8).1 o 1 = S.1 o 1 := (uF_ne (fun h => absurd h.2 (by decide))).trans ((fu_1 o (pB_no (neD noq) (tau_ne ho (big_row hq).1 (fun h => by cases h)))).1 1)
        have lk_36 : (uF u_1 o 2 z_8).1 o 2 = z_8 := uF_on
        refine sBv (sV (As := [.ref (G.2.2.1 + o)]) (rest := []) (k := q) Cx (s_X0_copy l G (uF u_1 o 2 z_8) (o := q) (a := o) i_10 hq ho) (c_X0_72 Cx rfl rfl (rmk_ok (by omega) (by decide))) hW (big_l hq) hq rfl rfl hl.1 rfl (Nat.le_of_ble_eq_true rfl) dX0_divide_48 ⟨Nat.le_of_ble_eq_true rfl, Nat.le_of_ble_eq_true rfl⟩) hL (fun u_37 H locs k_38 hW hL => ?_)
        obtain ⟨iu_37, fu_37, xu_37⟩ := k_38
        have F_39 := F_9.trans (fu_37.to (pB_sub (pD_2 pB_0) (pD_2 pB_1)))
        refine lv_aload_n hx hb dX0_divide_51 rfl (lv_at hl 1 rfl) ?_
        refine lv_aload_n hx hb dX0_divide_52 rfl (lv_at hl 3 rfl) ?_
        refine lv_aload_n hx hb dX0_divide_53 rfl (lv_at hl 2 rfl) ?_
        refine g_X0_9 Cx hW (k := b) (big_l hbb) hbb (v := .ref (G.2.2.1 + (b + 1))) (iu_37.rq.1 b hbb) dX0_divide_54 ?_
        refine lv_iconst (v := iv 0) hx hb dX0_divide_57 (by decide) ?_
        refine rIald Cx hW (k := b + 1) (big_l1 hbb) (big_row hbb).1 (by decide) (by omega) (by omega) dX0_divide_58 ?_
        have q_40 := limbR hI hbb 0
        refine r_i (b := S.2.1 (b + 1) 0) (((fu_37 (b + 1) (pB_no (tau_ne (big_row hbb).1 hq (fun h => by cases h)) (ne1 nbq))).2.1 0).trans ((uF_a).trans ((fu_1 (b + 1) (pB_no (tau_ne (big_row hbb).1 hq (fun h => by cases h)) (ne1 nbq))).2.1 0))) ?_
        have q_41 : 0 ≤ u_37.1 q 1 ∧ u_37.1 q 1 ≤ 32 := iu_37.fi q 1 0 (big_lt hq) hq
        have q_42 : (-1) ≤ u_37.1 q 2 ∧ u_37.1 q 2 ≤ 1 := iu_37.fi q 2 0 (big_lt hq) hq
        refine sBi (sV (As := [.int (iv (S.2.1 (b + 1) 0))]) (rest := [.ref (G.2.2.1 + o)]) (k := q) Cx (s_X0_reduce l G u_37 (o := q) (y := S.2.1 (b + 1) 0) iu_37 hq (by omega)) (c_X0_91 Cx rfl rfl (rmk_ok (by omega) (by decide))) hW (big_l hq) hq rfl rfl hl.1 rfl (Nat.le_of_ble_eq_true rfl) dX0_divide_59 ⟨Nat.le_of_ble_eq_true rfl, Nat.le_of_ble_eq_true rfl⟩) hL (fun r_45 u_43 H locs k_44 hW hL => ?_)
        obtain ⟨iu_43, fu_43, xu_43⟩ := k_44
        have F_46 := F_39.trans (fu_43.to (pB_sub (pD_2 pB_0) (pD_2 pB_1)))
        refine r_i2l hx hb ⟨(by omega), (by omega)⟩ dX0_divide_62 ?_
        refine sBv (sV (As := [.long (jv r_45)]) (rest := []) (k := o) Cx (s_X0_put l G u_43 (o := o) (v := r_45) iu_43 ho (by omega)) (c_X0_62 Cx rfl rfl (rmk_ok (by omega) (by decide))) hW (big_l ho) ho rfl rfl hl.1 rfl (Nat.le_of_ble_eq_true rfl) dX0_divide_63 ⟨Nat.le_of_ble_eq_true rfl, Nat.le_of_ble_eq_true rfl⟩) hL (fun u_47 H locs k_48 hW hL => ?_)
        obtain ⟨iu_47, fu_47, xu_47⟩ := k_48
        have F_49 := F_46.trans (fu_47.to (pB_sub (pD_1 pB_0) (pD_1 pB_1)))
        have hkd : Hd (1 ≤ S.1 b 1 → VR u_47 o < VR S b) := fun _ => by rw [xu_47.2.2.2.2 (by omega) (by omega)]; have e := (xu_43.2.2.2.2 (by omega)).1; have e2 : VR S b = S.2.1 (b + 1) 0 := (by unfold VR; rw [show S.1 b 1 = 1 by omega]; show 0 + S.2.1 (b + 1) (0 + ((0 : Nat) : Int)) * 1 = _; rw [show (0 : Int) + ((0 : Nat) : Int) = 0 by omega]; omega); omega
        refine lv_goto (tgt := 84) hx hb dX0_divide_66 (by decide) ?_
        refine lv_iload hx hb dX0_divide_84 (lv_at hl 0 rfl) ?_
        refine r_if_eq (tgt := 121) hx hb ⟨(by omega), (by omega)⟩ dX0_divide_86 (by decide) (fun _ => ?_) (fun c => absurd (by omega) c)
        have q_50 : 0 ≤ u_47.1 o 1 ∧ u_47.1 o 1 ≤ 32 := iu_47.fi o 1 0 (big_lt ho) ho
        have q_51 : 0 ≤ u_43.1 q 1 ∧ u_43.1 q 1 ≤ 32 := iu_43.fi q 1 0 (big_lt hq) hq
        have lk_52 : u_47.1 q 1 = u_43.1 q 1 := (fu_47 q (pB_no (neS noq) (tau_ne hq (big_row ho).1 (fun h => by cases h)))).1 1
        have q_53 : (-1) ≤ u_47.1 o 2 ∧ u_47.1 o 2 ≤ 1 := iu_47.fi o 2 0 (big_lt ho) ho
        exact sVret Cx hr hlk hW hL ⟨iu_47, F_49, ⟨by omega, by omega, fun z => absurd z (by omega), fun z => by omega, by omega, by omega⟩⟩ dX0_divide_121
    · refine lv_iconst (v := iv 1) hx hb dX0_divide_20 (by decide) ?_
      refine lv_goto (tgt := 25) hx hb dX0_divide_21 (by decide) ?_
      refine lv_istore (lv' := [(4, .int (iv 1)), (0, .ref (G.2.2.1 + o)), (1, .ref (G.2.2.1 + b)), (2, .ref (G.2.2.1 + q)), (3, .ref (G.2.2.1 + h))]) hx hb dX0_divide_25 hl (by decide) rfl (fun ls hl => ?_)
      refine lv_aload_n hx hb dX0_divide_27 rfl (lv_at hl 1 rfl) ?_
      refine lv_aload_n hx hb dX0_divide_28 rfl (lv_at hl 1 rfl) ?_
      refine g_X0_34 Cx hW (k := o) (big_l ho) ho (v := S.1 o 2) ((fu_1 o (pB_no (neD noq) (tau_ne ho (big_row hq).1 (fun h => by cases h)))).1 2) dX0_divide_29 ?_
      refine r_abs hx hb (hml.trans hl.1.symm) hown (hts _ w_1155) (hts _ w_1156) (hts _ w_206) (hts _ w_1157) (rmk_f (by omega)) (rmk_l (by omega) (Nat.le_of_ble_eq_true rfl)) (Nat.le_of_ble_eq_true rfl) (Nat.le_of_ble_eq_true rfl) ⟨(by omega), (by omega)⟩ dX0_divide_32 (fun z_54 hz_54 => ?_)
      refine p_X0_34 Cx hW hL (k := o) (big_l ho) ho dX0_divide_35 (fun H locs hW hL => ?_)
      have F_55 : Fr S (uF u_1 o 2 z_54) (pD o q h) := F_3.F (pD_1 pB_0)
      have i_56 : cX G (uF u_1 o 2 z_54) 0 0 0 := iu_1.F ho rfl (show (-1) ≤ z_54 ∧ z_54 ≤ 1 from ⟨by omega, by omega⟩)
      refine lv_aload_n hx hb dX0_divide_38 rfl (lv_at hl 2 rfl) ?_
      have q_57 : 0 ≤ S.1 b 1 ∧ S.1 b 1 ≤ 32 := hI.fi b 1 0 (big_lt hbb) hbb
      refine g_X0_24 Cx hW (k := b) (big_l hbb) hbb (v := S.1 b 1) ((uF_ne (fun h => absurd h.2 (by decide))).trans ((fu_1 b (pB_no (neD nbq) (tau_ne hbb (big_row hq).1 (fun h => by cases h)))).1 1)) dX0_divide_39 ?_
      refine lv_iconst (v := iv 1) hx hb dX0_divide_42 (by decide) ?_
      refine r_icmp_ne (tgt := 69) hx hb ⟨(by omega), (by omega)⟩ ⟨(by omega), (by omega)⟩ dX0_divide_43 (by decide) (fun c_58 => ?_) (fun c_58 => ?_)
      · refine lv_aload_n hx hb dX0_divide_69 rfl (lv_at hl 1 rfl) ?_
        refine lv_aload_n hx hb dX0_divide_70 rfl (lv_at hl 2 rfl) ?_
        have lk_59 : (uF u_1 o 2 z_54).1 b 1 = S.1 b 1 := (uF_ne (fun h => absurd h.2 (by decide))).trans ((fu_1 b (pB_no (neD nbq) (tau_ne hbb (big_row hq).1 (fun h => by cases h)))).1 1)
        have q_60 : 0 ≤ S.1 o 1 ∧ S.1 o 1 ≤ 32 := hI.fi o 1 0 (big_lt ho) ho
        have lk_61 : (uF u_1 o 2 z_54).1 o 1 = S.1 o 1 := (uF_ne (fun h => absurd h.2 (by decide))).trans ((fu_1 o (pB_no (neD noq) (tau_ne ho (big_row hq).1 (fun h => by cases h)))).1 1)
        refine sBi (sV (As := [.ref (G.2.2.1 + b)]) (rest := []) (k := o) Cx (s_X0_compareSize l G (uF u_1 o 2 z_54) (o := o) (a := b) i_56 ho hbb) (c_X0_79 Cx rfl rfl (rmk_ok (by omega) (by decide))) hW (big_l ho) ho rfl rfl hl.1 rfl (Nat.le_of_ble_eq_true rfl) dX0_divide_71 ⟨Nat.le_of_ble_eq_true rfl, Nat.le_of_ble_eq_true rfl⟩) hL (fun r_64 u_62 H locs k_63 hW hL => ?_)
        obtain ⟨eu_62, xu_62⟩ := k_63
        rw [eu_62] at hW
        have hkc : Hd (r_64 < 0 → VR (uF u_1 o 2 z_54) o < VR S b) := fun q => by have e := xu_62.2.2.2.2.2 q; have e2 : VR (uF u_1 o 2 z_54) b = VR S b := (VR_F (fun h => absurd h.2 (by decide))).trans (VR_fr fu_1 (pB_no (neD nbq) (tau_ne hbb (big_row hq).1 (fun h => by cases h))) (pB_no (tau_ne (big_row hbb).1 hq (fun h => by cases h)) (ne1 nbq))); rw [e2] at e; exact e
        refine r_if_lt (tgt := 84) hx hb ⟨(by omega), (by omega)⟩ dX0_divide_74 (by decide) (fun c_65 => ?_) (fun c_65 => ?_)
        · refine lv_iload hx hb dX0_divide_84 (lv_at hl 0 rfl) ?_
          refine r_if_eq (tgt := 121) hx hb ⟨(by omega), (by omega)⟩ dX0_divide_86 (by decide) (fun c => absurd c (by omega)) (fun _ => ?_)
          refine lv_aload_n hx hb dX0_divide_89 rfl (lv_at hl 3 rfl) ?_
          have q_66 : 0 ≤ u_1.1 q 1 ∧ u_1.1 q 1 ≤ 32 := iu_1.fi q 1 0 (big_lt hq) hq
          have lk_67 : (uF u_1 o 2 z_54).1 q 1 = u_1.1 q 1 := uF_ne (fun h => absurd h.2 (by decide))
          have q_68 : (-1) ≤ u_1.1 q 2 ∧ u_1.1 q 2 ≤ 1 := iu_1.fi q 2 0 (big_lt hq) hq
          have lk_69 : (uF u_1 o 2 z_54).1 q 2 = u_1.1 q 2 := uF_ne (fun h => absurd h.1 (neS noq))
          refine sBv (sV (As := []) (rest := []) (k := q) Cx (s_X0_turn l G (uF u_1 o 2 z_54) (o := q) i_56 hq) (c_X0_98 Cx rfl rfl (rmk_ok (by omega) (by decide))) hW (big_l hq) hq rfl rfl hl.1 rfl (Nat.le_of_ble_eq_true rfl) dX0_divide_90 ⟨Nat.le_of_ble_eq_true rfl, Nat.le_of_ble_eq_true rfl⟩) hL (fun u_70 H locs k_71 hW hL => ?_)
          obtain ⟨iu_70, fu_70, xu_70⟩ := k_71
          have F_72 := F_55.trans (fu_70.to (pB_sub (pD_2 pB_0) (pD_2 pB_1)))
          refine lv_aload_n hx hb dX0_divide_93 rfl (lv_at hl 1 rfl) ?_
          refine g_X0_34 Cx hW (k := o) (big_l ho) ho (v := z_54) (((fu_70 o (pB_no (neD noq) (tau_ne ho (big_row hq).1 (fun h => by cases h)))).1 2).trans (uF_on)) dX0_divide_94 ?_
          refine r_if_eq (tgt := 121) hx hb ⟨(by omega), (by omega)⟩ dX0_divide_97 (by decide) (fun c_73 => ?_) (fun c_73 => ?_)
          · have lk_74 : u_70.1 o 1 = S.1 o 1 := ((fu_70 o (pB_no (neD noq) (tau_ne ho (big_row hq).1 (fun h => by cases h)))).1 1).trans ((uF_ne (fun h => absurd h.2 (by decide))).trans ((fu_1 o (pB_no (neD noq) (tau_ne ho (big_row hq).1 (fun h => by cases h)))).1 1))
            have q_75 : 0 ≤ u_70.1 q 1 ∧ u_70.1 q 1 ≤ 32 := iu_70.fi q 1 0 (big_lt hq) hq
            have lk_76 : u_70.1 o 2 = z_54 := ((fu_70 o (pB_no (neD noq) (tau_ne ho (big_row hq).1 (fun h => by cases h)))).1 2).trans (uF_on)
            exact sVret Cx hr hlk hW hL ⟨iu_70, F_72, ⟨by omega, by omega, fun z => absurd z (by omega), fun z => by omega, by omega, by omega⟩⟩ dX0_divide_121
          · refine lv_aload_n hx hb dX0_divide_100 rfl (lv_at hl 4 rfl) ?_
            refine lv_lconst (v := jv 1) hx hb dX0_divide_101 (by decide) ?_
            refine sBv (sV (As := [.long (jv 1)]) (rest := []) (k := h) Cx (s_X0_put l G u_70 (o := h) (v := 1) iu_70 hh (by omega)) (c_X0_62 Cx rfl rfl (rmk_ok (by omega) (by decide))) hW (big_l hh) hh rfl rfl hl.1 rfl (Nat.le_of_ble_eq_true rfl) dX0_divide_102 ⟨Nat.le_of_ble_eq_true rfl, Nat.le_of_ble_eq_true rfl⟩) hL (fun u_77 H locs k_78 hW hL => ?_)
            obtain ⟨iu_77, fu_77, xu_77⟩ := k_78
            have F_79 := F_72.trans (fu_77.to (pB_sub (pD_3 pB_0) (pD_3 pB_1)))
            refine lv_aload_n hx hb dX0_divide_105 rfl (lv_at hl 3 rfl) ?_
            refine lv_aload_n hx hb dX0_divide_106 rfl (lv_at hl 4 rfl) ?_
            refine lv_iconst (v := iv (-1)) hx hb dX0_divide_107 (by decide) ?_
            have q_80 : 0 ≤ u_77.1 h 1 ∧ u_77.1 h 1 ≤ 32 := iu_77.fi h 1 0 (big_lt hh) hh
            have q_81 : 0 ≤ u_70.1 q 1 ∧ u_70.1 q 1 ≤ 32 := iu_70.fi q 1 0 (big_lt hq) hq
            have lk_82 : u_77.1 q 1 = u_70.1 q 1 := (fu_77 q (pB_no (neD nqh) (tau_ne hq (big_row hh).1 (fun h => by cases h)))).1 1
            have q_83 : (-1) ≤ u_70.1 q 2 ∧ u_70.1 q 2 ≤ 1 := iu_70.fi q 2 0 (big_lt hq) hq
            have lk_84 : u_77.1 q 2 = u_70.1 q 2 := (fu_77 q (pB_no (neD nqh) (tau_ne hq (big_row hh).1 (fun h => by cases h)))).1 2
            have q_85 : (-1) ≤ u_77.1 h 2 ∧ u_77.1 h 2 ≤ 1 := iu_77.fi h 2 0 (big_lt hh) hh
            refine sBv (sV (As := [.ref (G.2.2.1 + h), .int (iv ((-1)))]) (rest := []) (k := q) Cx (t_X0_add_m l G u_77 (o := q) (a := h) (n := n) (t := 0) iu_77 hq hh (neD nqh) (by omega) (fun z => absurd z (by omega))) (c_X0_101 Cx rfl rfl (rmk_ok (by omega) (by decide))) hW (big_l hq) hq rfl rfl hl.1 rfl (Nat.le_of_ble_eq_true rfl) dX0_divide_108 ⟨Nat.le_of_ble_eq_true rfl, Nat.le_of_ble_eq_true rfl⟩) hL (fun u_86 H locs k_87 hW hL => ?_)
            obtain ⟨iu_86, fu_86, xu_86⟩ := k_87
            have F_88 := F_79.trans (fu_86.to (pB_sub (pD_2 pB_0) (pD_2 pB_1)))
            refine lv_aload_n hx hb dX0_divide_111 rfl (lv_at hl 1 rfl) ?_
            have lk_89 : u_86.1 o 1 = S.1 o 1 := ((fu_86 o (pB_no (neD noq) (tau_ne ho (big_row hq).1 (fun h => by cases h)))).1 1).trans (((fu_77 o (pB_no (neD noh) (tau_ne ho (big_row hh).1 (fun h => by cases h)))).1 1).trans (((fu_70 o (pB_no (neD noq) (tau_ne ho (big_row hq).1 (fun h => by cases h)))).1 1).trans ((uF_ne (fun h => absurd h.2 (by decide))).trans ((fu_1 o (pB_no (neD noq) (tau_ne ho (big_row hq).1 (fun h => by cases h)))).1 1))))
            have lk_90 : u_86.1 o 2 = z_54 := ((fu_86 o (pB_no (neD noq) (tau_ne ho (big_row hq).1 (fun h => by cases h)))).1 2).trans (((fu_77 o (pB_no (neD noh) (tau_ne ho (big_row hh).1 (fun h => by cases h)))).1 2).trans (((fu_70 o (pB_no (neD noq) (tau_ne ho (big_row hq).1 (fun h => by cases h)))).1 2).trans (uF_on)))
            refine sBv (sV (As := []) (rest := []) (k := o) Cx (s_X0_turn l G u_86 (o := o) iu_86 ho) (c_X0_98 Cx rfl rfl (rmk_ok (by omega) (by decide))) hW (big_l ho) ho rfl rfl hl.1 rfl (Nat.le_of_ble_eq_true rfl) dX0_divide_112 ⟨Nat.le_of_ble_eq_true rfl, Nat.le_of_ble_eq_true rfl⟩) hL (fun u_91 H locs k_92 hW hL => ?_)
            obtain ⟨iu_91, fu_91, xu_91⟩ := k_92
            have F_93 := F_88.trans (fu_91.to (pB_sub (pD_1 pB_0) (pD_1 pB_1)))
            have hvo : Hd (1 ≤ S.1 b 1 → VR u_91 o < VR S b) := fun q => by rw [VR_tn xu_91.1 xu_91.2.2]; have e : VR u_86 o = VR (uF u_1 o 2 z_54) o := (VR_fr fu_86 (pB_no (neD noq) (tau_ne ho (big_row hq).1 (fun h => by cases h))) (pB_no (tau_ne (big_row ho).1 hq (fun h => by cases h)) (ne1 noq))).trans ((VR_fr fu_77 (pB_no (neD noh) (tau_ne ho (big_row hh).1 (fun h => by cases h))) (pB_no (tau_ne (big_row ho).1 hh (fun h => by cases h)) (ne1 noh))).trans (VR_fr fu_70 (pB_no (neD noq) (tau_ne ho (big_row hq).1 (fun h => by cases h))) (pB_no (tau_ne (big_row ho).1 hq (fun h => by cases h)) (ne1 noq)))); rw [e]; first | exact hkd q | exact hkc (by omega)
            refine lv_aload_n hx hb dX0_divide_115 rfl (lv_at hl 1 rfl) ?_
            refine lv_aload_n hx hb dX0_divide_116 rfl (lv_at hl 2 rfl) ?_
            refine lv_iconst (v := iv 1) hx hb dX0_divide_117 (by decide) ?_
            have lk_94 : u_91.1 b 1 = S.1 b 1 := ((fu_91 b (pB_no (neS nob) (tau_ne hbb (big_row ho).1 (fun h => by cases h)))).1 1).trans (((fu_86 b (pB_no (neD nbq) (tau_ne hbb (big_row hq).1 (fun h => by cases h)))).1 1).trans (((fu_77 b (pB_no (neD nbh) (tau_ne hbb (big_row hh).1 (fun h => by cases h)))).1 1).trans (((fu_70 b (pB_no (neD nbq) (tau_ne hbb (big_row hq).1 (fun h => by cases h)))).1 1).trans ((uF_ne (fun h => absurd h.2 (by decide))).trans ((fu_1 b (pB_no (neD nbq) (tau_ne hbb (big_row hq).1 (fun h => by cases h)))).1 1)))))
            have q_95 : 0 ≤ u_91.1 o 1 ∧ u_91.1 o 1 ≤ 32 := iu_91.fi o 1 0 (big_lt ho) ho
            have q_96 : (-1) ≤ u_91.1 o 2 ∧ u_91.1 o 2 ≤ 1 := iu_91.fi o 2 0 (big_lt ho) ho
            have lk_97 : u_91.1 b 2 = S.1 b 2 := ((fu_91 b (pB_no (neS nob) (tau_ne hbb (big_row ho).1 (fun h => by cases h)))).1 2).trans (((fu_86 b (pB_no (neD nbq) (tau_ne hbb (big_row hq).1 (fun h => by cases h)))).1 2).trans (((fu_77 b (pB_no (neD nbh) (tau_ne hbb (big_row hh).1 (fun h => by cases h)))).1 2).trans (((fu_70 b (pB_no (neD nbq) (tau_ne hbb (big_row hq).1 (fun h => by cases h)))).1 2).trans ((uF_ne (fun h => absurd h.1 (neS nob))).trans ((fu_1 b (pB_no (neD nbq) (tau_ne hbb (big_row hq).1 (fun h => by cases h)))).1 2)))))
            refine sBv (sV (As := [.ref (G.2.2.1 + b), .int (iv 1)]) (rest := []) (k := o) Cx (t_X0_add_p l G u_91 (o := o) (a := b) (n := 30) (t := 0) iu_91 ho hbb (neD nob) (by omega) (fun z => absurd z (by omega))) (c_X0_101 Cx rfl rfl (rmk_ok (by omega) (by decide))) hW (big_l ho) ho rfl rfl hl.1 rfl (Nat.le_of_ble_eq_true rfl) dX0_divide_118 ⟨Nat.le_of_ble_eq_true rfl, Nat.le_of_ble_eq_true rfl⟩) hL (fun u_98 H locs k_99 hW hL => ?_)
            obtain ⟨iu_98, fu_98, xu_98⟩ := k_99
            have F_100 := F_93.trans (fu_98.to (pB_sub (pD_1 pB_0) (pD_1 pB_1)))
            have hsg : 1 ≤ S.1 b 1 → 0 ≤ u_98.1 o 2 := fun q => xu_98.2.2.2 (by omega) (by omega) (by have e : VR u_91 b = VR S b := (VR_fr fu_91 (pB_no (neS nob) (tau_ne hbb (big_row ho).1 (fun h => by cases h))) (pB_no (tau_ne (big_row hbb).1 ho (fun h => by cases h)) (ne1S nob))).trans ((VR_fr fu_86 (pB_no (neD nbq) (tau_ne hbb (big_row hq).1 (fun h => by cases h))) (pB_no (tau_ne (big_row hbb).1 hq (fun h => by cases h)) (ne1 nbq))).trans ((VR_fr fu_77 (pB_no (neD nbh) (tau_ne hbb (big_row hh).1 (fun h => by cases h))) (pB_no (tau_ne (big_row hbb).1 hh (fun h => by cases h)) (ne1 nbh))).trans ((VR_fr fu_70 (pB_no (neD nbq) (tau_ne hbb (big_row hq).1 (fun h => by cases h))) (pB_no (tau_ne (big_row hbb).1 hq (fun h => by cases h)) (ne1 nbq))).trans ((VR_F (fun h => absurd h.2 (by decide))).trans (VR_fr fu_1 (pB_no (neD nbq) (tau_ne hbb (big_row hq).1 (fun h => by cases h))) (pB_no (tau_ne (big_row hbb).1 hq (fun h => by cases h)) (ne1 nbq))))))); rw [e]; exact hvo q)
            have hop := xu_98.2.2.1 (by omega)
            have q_101 : 0 ≤ u_98.1 o 1 ∧ u_98.1 o 1 ≤ 32 := iu_98.fi o 1 0 (big_lt ho) ho
            have q_102 : 0 ≤ u_86.1 q 1 ∧ u_86.1 q 1 ≤ 32 := iu_86.fi q 1 0 (big_lt hq) hq
            have lk_103 : u_98.1 q 1 = u_86.1 q 1 := ((fu_98 q (pB_no (neS noq) (tau_ne hq (big_row ho).1 (fun h => by cases h)))).1 1).trans ((fu_91 q (pB_no (neS noq) (tau_ne hq (big_row ho).1 (fun h => by cases h)))).1 1)
            have q_104 : (-1) ≤ u_98.1 o 2 ∧ u_98.1 o 2 ≤ 1 := iu_98.fi o 2 0 (big_lt ho) ho
            exact sVret Cx hr hlk hW hL ⟨iu_98, F_100, ⟨by omega, by omega, fun z => by have e : u_98.2.1 (q + 1) n = u_86.2.1 (q + 1) n := ((fu_98 (q + 1) (pB_no (tau_ne (big_row hq).1 ho (fun h => by cases h)) (ne1S noq))).2.1 n).trans ((fu_91 (q + 1) (pB_no (tau_ne (big_row hq).1 ho (fun h => by cases h)) (ne1S noq))).2.1 n); rw [e]; exact xu_86.2.1 (by omega), fun z => absurd z (by omega), by omega, by omega⟩⟩ dX0_divide_121
        · refine lv_aload_n hx hb dX0_divide_77 rfl (lv_at hl 1 rfl) ?_
          refine lv_aload_n hx hb dX0_divide_78 rfl (lv_at hl 2 rfl) ?_
          refine lv_aload_n hx hb dX0_divide_79 rfl (lv_at hl 3 rfl) ?_
          refine lv_aload_n hx hb dX0_divide_80 rfl (lv_at hl 4 rfl) ?_
          have q_105 : 0 ≤ u_1.1 q 1 ∧ u_1.1 q 1 ≤ 32 := iu_1.fi q 1 0 (big_lt hq) hq
          have lk_106 : (uF u_1 o 2 z_54).1 q 1 = u_1.1 q 1 := uF_ne (fun h => absurd h.2 (by decide))
          have q_107 : (-1) ≤ u_1.1 q 2 ∧ u_1.1 q 2 ≤ 1 := iu_1.fi q 2 0 (big_lt hq) hq
          have lk_108 : (uF u_1 o 2 z_54).1 q 2 = u_1.1 q 2 := uF_ne (fun h => absurd h.1 (neS noq))
          have lk_109 : (uF u_1 o 2 z_54).1 o 2 = z_54 := uF_on
          refine sBv (sV (As := [.ref (G.2.2.1 + b), .ref (G.2.2.1 + q), .ref (G.2.2.1 + h)]) (rest := []) (k := o) Cx (s_X0_divideLong l G (uF u_1 o 2 z_54) (o := o) (b := b) (q := q) (h := h) i_56 ho hbb hq hh (neD nob) (neD noq) (neD noh) (neD nbq) (neD nbh) (neD nqh) (by omega) (by omega) (by omega)) (c_X0_94 Cx rfl rfl (rmk_ok (by omega) (by decide))) hW (big_l ho) ho rfl rfl hl.1 rfl (Nat.le_of_ble_eq_true rfl) dX0_divide_81 ⟨Nat.le_of_ble_eq_true rfl, Nat.le_of_ble_eq_true rfl⟩) hL (fun u_110 H locs k_111 hW hL => ?_)
          obtain ⟨iu_110, fu_110, xu_110⟩ := k_111
          have F_112 := F_55.trans fu_110
          have hkd : Hd (1 ≤ S.1 b 1 → VR u_110 o < VR S b) := fun _ => by have e := xu_110.2.2.2.2 (by omega) (by omega); have e2 : VR (uF u_1 o 2 z_54) b = VR S b := (VR_F (fun h => absurd h.2 (by decide))).trans (VR_fr fu_1 (pB_no (neD nbq) (tau_ne hbb (big_row hq).1 (fun h => by cases h))) (pB_no (tau_ne (big_row hbb).1 hq (fun h => by cases h)) (ne1 nbq))); rw [e2] at e; exact e
          refine lv_iload hx hb dX0_divide_84 (lv_at hl 0 rfl) ?_
          refine r_if_eq (tgt := 121) hx hb ⟨(by omega), (by omega)⟩ dX0_divide_86 (by decide) (fun c => absurd c (by omega)) (fun _ => ?_)
          refine lv_aload_n hx hb dX0_divide_89 rfl (lv_at hl 3 rfl) ?_
          have q_113 : 0 ≤ u_110.1 q 1 ∧ u_110.1 q 1 ≤ 32 := iu_110.fi q 1 0 (big_lt hq) hq
          have q_114 : (-1) ≤ u_110.1 q 2 ∧ u_110.1 q 2 ≤ 1 := iu_110.fi q 2 0 (big_lt hq) hq
          refine sBv (sV (As := []) (rest := []) (k := q) Cx (s_X0_turn l G u_110 (o := q) iu_110 hq) (c_X0_98 Cx rfl rfl (rmk_ok (by omega) (by decide))) hW (big_l hq) hq rfl rfl hl.1 rfl (Nat.le_of_ble_eq_true rfl) dX0_divide_90 ⟨Nat.le_of_ble_eq_true rfl, Nat.le_of_ble_eq_true rfl⟩) hL (fun u_115 H locs k_116 hW hL => ?_)
          obtain ⟨iu_115, fu_115, xu_115⟩ := k_116
          have F_117 := F_112.trans (fu_115.to (pB_sub (pD_2 pB_0) (pD_2 pB_1)))
          refine lv_aload_n hx hb dX0_divide_93 rfl (lv_at hl 1 rfl) ?_
          have q_118 : (-1) ≤ u_110.1 o 2 ∧ u_110.1 o 2 ≤ 1 := iu_110.fi o 2 0 (big_lt ho) ho
          refine g_X0_34 Cx hW (k := o) (big_l ho) ho (v := u_110.1 o 2) ((fu_115 o (pB_no (neD noq) (tau_ne ho (big_row hq).1 (fun h => by cases h)))).1 2) dX0_divide_94 ?_
          refine r_if_eq (tgt := 121) hx hb ⟨(by omega), (by omega)⟩ dX0_divide_97 (by decide) (fun c_119 => ?_) (fun c_119 => ?_)
          · have q_120 : 0 ≤ u_110.1 o 1 ∧ u_110.1 o 1 ≤ 32 := iu_110.fi o 1 0 (big_lt ho) ho
            have lk_121 : u_115.1 o 1 = u_110.1 o 1 := (fu_115 o (pB_no (neD noq) (tau_ne ho (big_row hq).1 (fun h => by cases h)))).1 1
            have q_122 : 0 ≤ u_115.1 q 1 ∧ u_115.1 q 1 ≤ 32 := iu_115.fi q 1 0 (big_lt hq) hq
            have lk_123 : u_115.1 o 2 = u_110.1 o 2 := (fu_115 o (pB_no (neD noq) (tau_ne ho (big_row hq).1 (fun h => by cases h)))).1 2
            exact sVret Cx hr hlk hW hL ⟨iu_115, F_117, ⟨by omega, by omega, fun z => absurd z (by omega), fun z => by omega, by omega, by omega⟩⟩ dX0_divide_121
          · refine lv_aload_n hx hb dX0_divide_100 rfl (lv_at hl 4 rfl) ?_
            refine lv_lconst (v := jv 1) hx hb dX0_divide_101 (by decide) ?_
            refine sBv (sV (As := [.long (jv 1)]) (rest := []) (k := h) Cx (s_X0_put l G u_115 (o := h) (v := 1) iu_115 hh (by omega)) (c_X0_62 Cx rfl rfl (rmk_ok (by omega) (by decide))) hW (big_l hh) hh rfl rfl hl.1 rfl (Nat.le_of_ble_eq_true rfl) dX0_divide_102 ⟨Nat.le_of_ble_eq_true rfl, Nat.le_of_ble_eq_true rfl⟩) hL (fun u_124 H locs k_125 hW hL => ?_)
            obtain ⟨iu_124, fu_124, xu_124⟩ := k_125
            have F_126 := F_117.trans (fu_124.to (pB_sub (pD_3 pB_0) (pD_3 pB_1)))
            refine lv_aload_n hx hb dX0_divide_105 rfl (lv_at hl 3 rfl) ?_
            refine lv_aload_n hx hb dX0_divide_106 rfl (lv_at hl 4 rfl) ?_
            refine lv_iconst (v := iv (-1)) hx hb dX0_divide_107 (by decide) ?_
            have q_127 : 0 ≤ u_124.1 h 1 ∧ u_124.1 h 1 ≤ 32 := iu_124.fi h 1 0 (big_lt hh) hh
            have q_128 : 0 ≤ u_115.1 q 1 ∧ u_115.1 q 1 ≤ 32 := iu_115.fi q 1 0 (big_lt hq) hq
            have lk_129 : u_124.1 q 1 = u_115.1 q 1 := (fu_124 q (pB_no (neD nqh) (tau_ne hq (big_row hh).1 (fun h => by cases h)))).1 1
            have q_130 : (-1) ≤ u_115.1 q 2 ∧ u_115.1 q 2 ≤ 1 := iu_115.fi q 2 0 (big_lt hq) hq
            have lk_131 : u_124.1 q 2 = u_115.1 q 2 := (fu_124 q (pB_no (neD nqh) (tau_ne hq (big_row hh).1 (fun h => by cases h)))).1 2
            have q_132 : (-1) ≤ u_124.1 h 2 ∧ u_124.1 h 2 ≤ 1 := iu_124.fi h 2 0 (big_lt hh) hh
            refine sBv (sV (As := [.ref (G.2.2.1 + h), .int (iv ((-1)))]) (rest := []) (k := q) Cx (t_X0_add_m l G u_124 (o := q) (a := h) (n := n) (t := 0) iu_124 hq hh (neD nqh) (by omega) (fun z => absurd z (by omega))) (c_X0_101 Cx rfl rfl (rmk_ok (by omega) (by decide))) hW (big_l hq) hq rfl rfl hl.1 rfl (Nat.le_of_ble_eq_true rfl) dX0_divide_108 ⟨Nat.le_of_ble_eq_true rfl, Nat.le_of_ble_eq_true rfl⟩) hL (fun u_133 H locs k_134 hW hL => ?_)
            obtain ⟨iu_133, fu_133, xu_133⟩ := k_134
            have F_135 := F_126.trans (fu_133.to (pB_sub (pD_2 pB_0) (pD_2 pB_1)))
            refine lv_aload_n hx hb dX0_divide_111 rfl (lv_at hl 1 rfl) ?_
            have q_136 : 0 ≤ u_110.1 o 1 ∧ u_110.1 o 1 ≤ 32 := iu_110.fi o 1 0 (big_lt ho) ho
            have lk_137 : u_133.1 o 1 = u_110.1 o 1 := ((fu_133 o (pB_no (neD noq) (tau_ne ho (big_row hq).1 (fun h => by cases h)))).1 1).trans (((fu_124 o (pB_no (neD noh) (tau_ne ho (big_row hh).1 (fun h => by cases h)))).1 1).trans ((fu_115 o (pB_no (neD noq) (tau_ne ho (big_row hq).1 (fun h => by cases h)))).1 1))
            have lk_138 : u_133.1 o 2 = u_110.1 o 2 := ((fu_133 o (pB_no (neD noq) (tau_ne ho (big_row hq).1 (fun h => by cases h)))).1 2).trans (((fu_124 o (pB_no (neD noh) (tau_ne ho (big_row hh).1 (fun h => by cases h)))).1 2).trans ((fu_115 o (pB_no (neD noq) (tau_ne ho (big_row hq).1 (fun h => by cases h)))).1 2))
            refine sBv (sV (As := []) (rest := []) (k := o) Cx (s_X0_turn l G u_133 (o := o) iu_133 ho) (c_X0_98 Cx rfl rfl (rmk_ok (by omega) (by decide))) hW (big_l ho) ho rfl rfl hl.1 rfl (Nat.le_of_ble_eq_true rfl) dX0_divide_112 ⟨Nat.le_of_ble_eq_true rfl, Nat.le_of_ble_eq_true rfl⟩) hL (fun u_139 H locs k_140 hW hL => ?_)
            obtain ⟨iu_139, fu_139, xu_139⟩ := k_140
            have F_141 := F_135.trans (fu_139.to (pB_sub (pD_1 pB_0) (pD_1 pB_1)))
            have hvo : Hd (1 ≤ S.1 b 1 → VR u_139 o < VR S b) := fun q => by rw [VR_tn xu_139.1 xu_139.2.2]; have e : VR u_133 o = VR u_110 o := (VR_fr fu_133 (pB_no (neD noq) (tau_ne ho (big_row hq).1 (fun h => by cases h))) (pB_no (tau_ne (big_row ho).1 hq (fun h => by cases h)) (ne1 noq))).trans ((VR_fr fu_124 (pB_no (neD noh) (tau_ne ho (big_row hh).1 (fun h => by cases h))) (pB_no (tau_ne (big_row ho).1 hh (fun h => by cases h)) (ne1 noh))).trans (VR_fr fu_115 (pB_no (neD noq) (tau_ne ho (big_row hq).1 (fun h => by cases h))) (pB_no (tau_ne (big_row ho).1 hq (fun h => by cases h)) (ne1 noq)))); rw [e]; first | exact hkd q | exact hkc (by omega)
            refine lv_aload_n hx hb dX0_divide_115 rfl (lv_at hl 1 rfl) ?_
            refine lv_aload_n hx hb dX0_divide_116 rfl (lv_at hl 2 rfl) ?_
            refine lv_iconst (v := iv 1) hx hb dX0_divide_117 (by decide) ?_
            have lk_142 : u_139.1 b 1 = S.1 b 1 := ((fu_139 b (pB_no (neS nob) (tau_ne hbb (big_row ho).1 (fun h => by cases h)))).1 1).trans (((fu_133 b (pB_no (neD nbq) (tau_ne hbb (big_row hq).1 (fun h => by cases h)))).1 1).trans (((fu_124 b (pB_no (neD nbh) (tau_ne hbb (big_row hh).1 (fun h => by cases h)))).1 1).trans (((fu_115 b (pB_no (neD nbq) (tau_ne hbb (big_row hq).1 (fun h => by cases h)))).1 1).trans (((fu_110 b (pD_no (pB_no (neS nob) (tau_ne hbb (big_row ho).1 (fun h => by cases h))) (pB_no (neD nbq) (tau_ne hbb (big_row hq).1 (fun h => by cases h))) (pB_no (neD nbh) (tau_ne hbb (big_row hh).1 (fun h => by cases h))))).1 1).trans ((uF_ne (fun h => absurd h.2 (by decide))).trans ((fu_1 b (pB_no (neD nbq) (tau_ne hbb (big_row hq).1 (fun h => by cases h)))).1 1))))))
            have q_143 : 0 ≤ u_139.1 o 1 ∧ u_139.1 o 1 ≤ 32 := iu_139.fi o 1 0 (big_lt ho) ho
            have q_144 : (-1) ≤ u_139.1 o 2 ∧ u_139.1 o 2 ≤ 1 := iu_139.fi o 2 0 (big_lt ho) ho
            have lk_145 : u_139.1 b 2 = S.1 b 2 := ((fu_139 b (pB_no (neS nob) (tau_ne hbb (big_row ho).1 (fun h => by cases h)))).1 2).trans (((fu_133 b (pB_no (neD nbq) (tau_ne hbb (big_row hq).1 (fun h => by cases h)))).1 2).trans (((fu_124 b (pB_no (neD nbh) (tau_ne hbb (big_row hh).1 (fun h => by cases h)))).1 2).trans (((fu_115 b (pB_no (neD nbq) (tau_ne hbb (big_row hq).1 (fun h => by cases h)))).1 2).trans (((fu_110 b (pD_no (pB_no (neS nob) (tau_ne hbb (big_row ho).1 (fun h => by cases h))) (pB_no (neD nbq) (tau_ne hbb (big_row hq).1 (fun h => by cases h))) (pB_no (neD nbh) (tau_ne hbb (big_row hh).1 (fun h => by cases h))))).1 2).trans ((uF_ne (fun h => absurd h.1 (neS nob))).trans ((fu_1 b (pB_no (neD nbq) (tau_ne hbb (big_row hq).1 (fun h => by cases h)))).1 2))))))
            refine sBv (sV (As := [.ref (G.2.2.1 + b), .int (iv 1)]) (rest := []) (k := o) Cx (t_X0_add_p l G u_139 (o := o) (a := b) (n := 30) (t := 0) iu_139 ho hbb (neD nob) (by omega) (fun z => absurd z (by omega))) (c_X0_101 Cx rfl rfl (rmk_ok (by omega) (by decide))) hW (big_l ho) ho rfl rfl hl.1 rfl (Nat.le_of_ble_eq_true rfl) dX0_divide_118 ⟨Nat.le_of_ble_eq_true rfl, Nat.le_of_ble_eq_true rfl⟩) hL (fun u_146 H locs k_147 hW hL => ?_)
            obtain ⟨iu_146, fu_146, xu_146⟩ := k_147
            have F_148 := F_141.trans (fu_146.to (pB_sub (pD_1 pB_0) (pD_1 pB_1)))
            have hsg : 1 ≤ S.1 b 1 → 0 ≤ u_146.1 o 2 := fun q => xu_146.2.2.2 (by omega) (by omega) (by have e : VR u_139 b = VR S b := (VR_fr fu_139 (pB_no (neS nob) (tau_ne hbb (big_row ho).1 (fun h => by cases h))) (pB_no (tau_ne (big_row hbb).1 ho (fun h => by cases h)) (ne1S nob))).trans ((VR_fr fu_133 (pB_no (neD nbq) (tau_ne hbb (big_row hq).1 (fun h => by cases h))) (pB_no (tau_ne (big_row hbb).1 hq (fun h => by cases h)) (ne1 nbq))).trans ((VR_fr fu_124 (pB_no (neD nbh) (tau_ne hbb (big_row hh).1 (fun h => by cases h))) (pB_no (tau_ne (big_row hbb).1 hh (fun h => by cases h)) (ne1 nbh))).trans ((VR_fr fu_115 (pB_no (neD nbq) (tau_ne hbb (big_row hq).1 (fun h => by cases h))) (pB_no (tau_ne (big_row hbb).1 hq (fun h => by cases h)) (ne1 nbq))).trans ((VR_fr fu_110 (pD_no (pB_no (neS nob) (tau_ne hbb (big_row ho).1 (fun h => by cases h))) (pB_no (neD nbq) (tau_ne hbb (big_row hq).1 (fun h => by cases h))) (pB_no (neD nbh) (tau_ne hbb (big_row hh).1 (fun h => by cases h)))) (pD_no (pB_no (tau_ne (big_row hbb).1 ho (fun h => by cases h)) (ne1S nob)) (pB_no (tau_ne (big_row hbb).1 hq (fun h => by cases h)) (ne1 nbq)) (pB_no (tau_ne (big_row hbb).1 hh (fun h => by cases h)) (ne1 nbh)))).trans ((VR_F (fun h => absurd h.2 (by decide))).trans (VR_fr fu_1 (pB_no (neD nbq) (tau_ne hbb (big_row hq).1 (fun h => by cases h))) (pB_no (tau_ne (big_row hbb).1 hq (fun h => by cases h)) (ne1 nbq)))))))); rw [e]; exact hvo q)
            have hop := xu_146.2.2.1 (by omega)
            have q_149 : 0 ≤ u_146.1 o 1 ∧ u_146.1 o 1 ≤ 32 := iu_146.fi o 1 0 (big_lt ho) ho
            have q_150 : 0 ≤ u_133.1 q 1 ∧ u_133.1 q 1 ≤ 32 := iu_133.fi q 1 0 (big_lt hq) hq
            have lk_151 : u_146.1 q 1 = u_133.1 q 1 := ((fu_146 q (pB_no (neS noq) (tau_ne hq (big_row ho).1 (fun h => by cases h)))).1 1).trans ((fu_139 q (pB_no (neS noq) (tau_ne hq (big_row ho).1 (fun h => by cases h)))).1 1)
            have q_152 : (-1) ≤ u_146.1 o 2 ∧ u_146.1 o 2 ≤ 1 := iu_146.fi o 2 0 (big_lt ho) ho
            exact sVret Cx hr hlk hW hL ⟨iu_146, F_148, ⟨by omega, by omega, fun z => by have e : u_146.2.1 (q + 1) n = u_133.2.1 (q + 1) n := ((fu_146 (q + 1) (pB_no (tau_ne (big_row hq).1 ho (fun h => by cases h)) (ne1S noq))).2.1 n).trans ((fu_139 (q + 1) (pB_no (tau_ne (big_row hq).1 ho (fun h => by cases h)) (ne1S noq))).2.1 n); rw [e]; exact xu_133.2.1 (by omega), fun z => absurd z (by omega), by omega, by omega⟩⟩ dX0_divide_121
      · have hb0 : S.2.1 (b + 1) 0 ≠ 0 := by have e := nbH hI hbb (by omega); rw [show S.1 b 1 - 1 = 0 by omega] at e; exact e
        have hb00 := limbR hI hbb 0
        refine lv_aload_n hx hb dX0_divide_46 rfl (lv_at hl 3 rfl) ?_
        refine lv_aload_n hx hb dX0_divide_47 rfl (lv_at hl 1 rfl) ?_
        have q_153 : 0 ≤ S.1 o 1 ∧ S.1 o 1 ≤ 32 := hI.fi o 1 0 (big_lt ho) ho
        have lk_154 : (uF u_1 o 2 z_54).1 o 1 = S.1 o 1 := (uF_ne (fun h => absurd h.2 (by decide))).trans ((fu_1 o (pB_no (neD noq) (tau_ne ho (big_row hq).1 (fun h => by cases h)))).1 1)
        have lk_155 : (uF u_1 o 2 z_54).1 o 2 = z_54 := uF_on
        refine sBv (sV (As := [.ref (G.2.2.1 + o)]) (rest := []) (k := q) Cx (s_X0_copy l G (uF u_1 o 2 z_54) (o := q) (a := o) i_56 hq ho) (c_X0_72 Cx rfl rfl (rmk_ok (by omega) (by decide))) hW (big_l hq) hq rfl rfl hl.1 rfl (Nat.le_of_ble_eq_true rfl) dX0_divide_48 ⟨Nat.le_of_ble_eq_true rfl, Nat.le_of_ble_eq_true rfl⟩) hL (fun u_156 H locs k_157 hW hL => ?_)
        obtain ⟨iu_156, fu_156, xu_156⟩ := k_157
        have F_158 := F_55.trans (fu_156.to (pB_sub (pD_2 pB_0) (pD_2 pB_1)))
        refine lv_aload_n hx hb dX0_divide_51 rfl (lv_at hl 1 rfl) ?_
        refine lv_aload_n hx hb dX0_divide_52 rfl (lv_at hl 3 rfl) ?_
        refine lv_aload_n hx hb dX0_divide_53 rfl (lv_at hl 2 rfl) ?_
        refine g_X0_9 Cx hW (k := b) (big_l hbb) hbb (v := .ref (G.2.2.1 + (b + 1))) (iu_156.rq.1 b hbb) dX0_divide_54 ?_
        refine lv_iconst (v := iv 0) hx hb dX0_divide_57 (by decide) ?_
        refine rIald Cx hW (k := b + 1) (big_l1 hbb) (big_row hbb).1 (by decide) (by omega) (by omega) dX0_divide_58 ?_
        have q_159 := limbR hI hbb 0
        refine r_i (b := S.2.1 (b + 1) 0) (((fu_156 (b + 1) (pB_no (tau_ne (big_row hbb).1 hq (fun h => by cases h)) (ne1 nbq))).2.1 0).trans ((uF_a).trans ((fu_1 (b + 1) (pB_no (tau_ne (big_row hbb).1 hq (fun h => by cases h)) (ne1 nbq))).2.1 0))) ?_
        have q_160 : 0 ≤ u_156.1 q 1 ∧ u_156.1 q 1 ≤ 32 := iu_156.fi q 1 0 (big_lt hq) hq
        have q_161 : (-1) ≤ u_156.1 q 2 ∧ u_156.1 q 2 ≤ 1 := iu_156.fi q 2 0 (big_lt hq) hq
        refine sBi (sV (As := [.int (iv (S.2.1 (b + 1) 0))]) (rest := [.ref (G.2.2.1 + o)]) (k := q) Cx (s_X0_reduce l G u_156 (o := q) (y := S.2.1 (b + 1) 0) iu_156 hq (by omega)) (c_X0_91 Cx rfl rfl (rmk_ok (by omega) (by decide))) hW (big_l hq) hq rfl rfl hl.1 rfl (Nat.le_of_ble_eq_true rfl) dX0_divide_59 ⟨Nat.le_of_ble_eq_true rfl, Nat.le_of_ble_eq_true rfl⟩) hL (fun r_164 u_162 H locs k_163 hW hL => ?_)
        obtain ⟨iu_162, fu_162, xu_162⟩ := k_163
        have F_165 := F_158.trans (fu_162.to (pB_sub (pD_2 pB_0) (pD_2 pB_1)))
        refine r_i2l hx hb ⟨(by omega), (by omega)⟩ dX0_divide_62 ?_
        refine sBv (sV (As := [.long (jv r_164)]) (rest := []) (k := o) Cx (s_X0_put l G u_162 (o := o) (v := r_164) iu_162 ho (by omega)) (c_X0_62 Cx rfl rfl (rmk_ok (by omega) (by decide))) hW (big_l ho) ho rfl rfl hl.1 rfl (Nat.le_of_ble_eq_true rfl) dX0_divide_63 ⟨Nat.le_of_ble_eq_true rfl, Nat.le_of_ble_eq_true rfl⟩) hL (fun u_166 H locs k_167 hW hL => ?_)
        obtain ⟨iu_166, fu_166, xu_166⟩ := k_167
        have F_168 := F_165.trans (fu_166.to (pB_sub (pD_1 pB_0) (pD_1 pB_1)))
        have hkd : Hd (1 ≤ S.1 b 1 → VR u_166 o < VR S b) := fun _ => by rw [xu_166.2.2.2.2 (by omega) (by omega)]; have e := (xu_162.2.2.2.2 (by omega)).1; have e2 : VR S b = S.2.1 (b + 1) 0 := (by unfold VR; rw [show S.1 b 1 = 1 by omega]; show 0 + S.2.1 (b + 1) (0 + ((0 : Nat) : Int)) * 1 = _; rw [show (0 : Int) + ((0 : Nat) : Int) = 0 by omega]; omega); omega
        refine lv_goto (tgt := 84) hx hb dX0_divide_66 (by decide) ?_
        refine lv_iload hx hb dX0_divide_84 (lv_at hl 0 rfl) ?_
        refine r_if_eq (tgt := 121) hx hb ⟨(by omega), (by omega)⟩ dX0_divide_86 (by decide) (fun c => absurd c (by omega)) (fun _ => ?_)
        refine lv_aload_n hx hb dX0_divide_89 rfl (lv_at hl 3 rfl) ?_
        have q_169 : 0 ≤ u_162.1 q 1 ∧ u_162.1 q 1 ≤ 32 := iu_162.fi q 1 0 (big_lt hq) hq
        have lk_170 : u_166.1 q 1 = u_162.1 q 1 := (fu_166 q (pB_no (neS noq) (tau_ne hq (big_row ho).1 (fun h => by cases h)))).1 1
        have q_171 : (-1) ≤ u_162.1 q 2 ∧ u_162.1 q 2 ≤ 1 := iu_162.fi q 2 0 (big_lt hq) hq
        have lk_172 : u_166.1 q 2 = u_162.1 q 2 := (fu_166 q (pB_no (neS noq) (tau_ne hq (big_row ho).1 (fun h => by cases h)))).1 2
        refine sBv (sV (As := []) (rest := []) (k := q) Cx (s_X0_turn l G u_166 (o := q) iu_166 hq) (c_X0_98 Cx rfl rfl (rmk_ok (by omega) (by decide))) hW (big_l hq) hq rfl rfl hl.1 rfl (Nat.le_of_ble_eq_true rfl) dX0_divide_90 ⟨Nat.le_of_ble_eq_true rfl, Nat.le_of_ble_eq_true rfl⟩) hL (fun u_173 H locs k_174 hW hL => ?_)
        obtain ⟨iu_173, fu_173, xu_173⟩ := k_174
        have F_175 := F_168.trans (fu_173.to (pB_sub (pD_2 pB_0) (pD_2 pB_1)))
        refine lv_aload_n hx hb dX0_divide_93 rfl (lv_at hl 1 rfl) ?_
        have q_176 : (-1) ≤ u_166.1 o 2 ∧ u_166.1 o 2 ≤ 1 := iu_166.fi o 2 0 (big_lt ho) ho
        refine g_X0_34 Cx hW (k := o) (big_l ho) ho (v := u_166.1 o 2) ((fu_173 o (pB_no (neD noq) (tau_ne ho (big_row hq).1 (fun h => by cases h)))).1 2) dX0_divide_94 ?_
        refine r_if_eq (tgt := 121) hx hb ⟨(by omega), (by omega)⟩ dX0_divide_97 (by decide) (fun c_177 => ?_) (fun c_177 => ?_)
        · have q_178 : 0 ≤ u_166.1 o 1 ∧ u_166.1 o 1 ≤ 32 := iu_166.fi o 1 0 (big_lt ho) ho
          have lk_179 : u_173.1 o 1 = u_166.1 o 1 := (fu_173 o (pB_no (neD noq) (tau_ne ho (big_row hq).1 (fun h => by cases h)))).1 1
          have q_180 : 0 ≤ u_173.1 q 1 ∧ u_173.1 q 1 ≤ 32 := iu_173.fi q 1 0 (big_lt hq) hq
          have lk_181 : u_173.1 o 2 = u_166.1 o 2 := (fu_173 o (pB_no (neD noq) (tau_ne ho (big_row hq).1 (fun h => by cases h)))).1 2
          exact sVret Cx hr hlk hW hL ⟨iu_173, F_175, ⟨by omega, by omega, fun z => absurd z (by omega), fun z => by omega, by omega, by omega⟩⟩ dX0_divide_121
        · refine lv_aload_n hx hb dX0_divide_100 rfl (lv_at hl 4 rfl) ?_
          refine lv_lconst (v := jv 1) hx hb dX0_divide_101 (by decide) ?_
          refine sBv (sV (As := [.long (jv 1)]) (rest := []) (k := h) Cx (s_X0_put l G u_173 (o := h) (v := 1) iu_173 hh (by omega)) (c_X0_62 Cx rfl rfl (rmk_ok (by omega) (by decide))) hW (big_l hh) hh rfl rfl hl.1 rfl (Nat.le_of_ble_eq_true rfl) dX0_divide_102 ⟨Nat.le_of_ble_eq_true rfl, Nat.le_of_ble_eq_true rfl⟩) hL (fun u_182 H locs k_183 hW hL => ?_)
          obtain ⟨iu_182, fu_182, xu_182⟩ := k_183
          have F_184 := F_175.trans (fu_182.to (pB_sub (pD_3 pB_0) (pD_3 pB_1)))
          refine lv_aload_n hx hb dX0_divide_105 rfl (lv_at hl 3 rfl) ?_
          refine lv_aload_n hx hb dX0_divide_106 rfl (lv_at hl 4 rfl) ?_
          refine lv_iconst (v := iv (-1)) hx hb dX0_divide_107 (by decide) ?_
          have q_185 : 0 ≤ u_182.1 h 1 ∧ u_182.1 h 1 ≤ 32 := iu_182.fi h 1 0 (big_lt hh) hh
          have q_186 : 0 ≤ u_173.1 q 1 ∧ u_173.1 q 1 ≤ 32 := iu_173.fi q 1 0 (big_lt hq) hq
          have lk_187 : u_182.1 q 1 = u_173.1 q 1 := (fu_182 q (pB_no (neD nqh) (tau_ne hq (big_row hh).1 (fun h => by cases h)))).1 1
          have q_188 : (-1) ≤ u_173.1 q 2 ∧ u_173.1 q 2 ≤ 1 := iu_173.fi q 2 0 (big_lt hq) hq
          have lk_189 : u_182.1 q 2 = u_173.1 q 2 := (fu_182 q (pB_no (neD nqh) (tau_ne hq (big_row hh).1 (fun h => by cases h)))).1 2
          have q_190 : (-1) ≤ u_182.1 h 2 ∧ u_182.1 h 2 ≤ 1 := iu_182.fi h 2 0 (big_lt hh) hh
          refine sBv (sV (As := [.ref (G.2.2.1 + h), .int (iv ((-1)))]) (rest := []) (k := q) Cx (t_X0_add_m l G u_182 (o := q) (a := h) (n := n) (t := 0) iu_182 hq hh (neD nqh) (by omega) (fun z => absurd z (by omega))) (c_X0_101 Cx rfl rfl (rmk_ok (by omega) (by decide))) hW (big_l hq) hq rfl rfl hl.1 rfl (Nat.le_of_ble_eq_true rfl) dX0_divide_108 ⟨Nat.le_of_ble_eq_true rfl, Nat.le_of_ble_eq_true rfl⟩) hL (fun u_191 H locs k_192 hW hL => ?_)
          obtain ⟨iu_191, fu_191, xu_191⟩ := k_192
          have F_193 := F_184.trans (fu_191.to (pB_sub (pD_2 pB_0) (pD_2 pB_1)))
          refine lv_aload_n hx hb dX0_divide_111 rfl (lv_at hl 1 rfl) ?_
          have q_194 : 0 ≤ u_166.1 o 1 ∧ u_166.1 o 1 ≤ 32 := iu_166.fi o 1 0 (big_lt ho) ho
          have lk_195 : u_191.1 o 1 = u_166.1 o 1 := ((fu_191 o (pB_no (neD noq) (tau_ne ho (big_row hq).1 (fun h => by cases h)))).1 1).trans (((fu_182 o (pB_no (neD noh) (tau_ne ho (big_row hh).1 (fun h => by cases h)))).1 1).trans ((fu_173 o (pB_no (neD noq) (tau_ne ho (big_row hq).1 (fun h => by cases h)))).1 1))
          have lk_196 : u_191.1 o 2 = u_166.1 o 2 := ((fu_191 o (pB_no (neD noq) (tau_ne ho (big_row hq).1 (fun h => by cases h)))).1 2).trans (((fu_182 o (pB_no (neD noh) (tau_ne ho (big_row hh).1 (fun h => by cases h)))).1 2).trans ((fu_173 o (pB_no (neD noq) (tau_ne ho (big_row hq).1 (fun h => by cases h)))).1 2))
          refine sBv (sV (As := []) (rest := []) (k := o) Cx (s_X0_turn l G u_191 (o := o) iu_191 ho) (c_X0_98 Cx rfl rfl (rmk_ok (by omega) (by decide))) hW (big_l ho) ho rfl rfl hl.1 rfl (Nat.le_of_ble_eq_true rfl) dX0_divide_112 ⟨Nat.le_of_ble_eq_true rfl, Nat.le_of_ble_eq_true rfl⟩) hL (fun u_197 H locs k_198 hW hL => ?_)
          obtain ⟨iu_197, fu_197, xu_197⟩ := k_198
          have F_199 := F_193.trans (fu_197.to (pB_sub (pD_1 pB_0) (pD_1 pB_1)))
          have hvo : Hd (1 ≤ S.1 b 1 → VR u_197 o < VR S b) := fun q => by rw [VR_tn xu_197.1 xu_197.2.2]; have e : VR u_191 o = VR u_166 o := (VR_fr fu_191 (pB_no (neD noq) (tau_ne ho (big_row hq).1 (fun h => by cases h))) (pB_no (tau_ne (big_row ho).1 hq (fun h => by cases h)) (ne1 noq))).trans ((VR_fr fu_182 (pB_no (neD noh) (tau_ne ho (big_row hh).1 (fun h => by cases h))) (pB_no (tau_ne (big_row ho).1 hh (fun h => by cases h)) (ne1 noh))).trans (VR_fr fu_173 (pB_no (neD noq) (tau_ne ho (big_row hq).1 (fun h => by cases h))) (pB_no (tau_ne (big_row ho).1 hq (fun h => by cases h)) (ne1 noq)))); rw [e]; first | exact hkd q | exact hkc (by omega)
          refine lv_aload_n hx hb dX0_divide_115 rfl (lv_at hl 1 rfl) ?_
          refine lv_aload_n hx hb dX0_divide_116 rfl (lv_at hl 2 rfl) ?_
          refine lv_iconst (v := iv 1) hx hb dX0_divide_117 (by decide) ?_
          have lk_200 : u_197.1 b 1 = S.1 b 1 := ((fu_197 b (pB_no (neS nob) (tau_ne hbb (big_row ho).1 (fun h => by cases h)))).1 1).trans (((fu_191 b (pB_no (neD nbq) (tau_ne hbb (big_row hq).1 (fun h => by cases h)))).1 1).trans (((fu_182 b (pB_no (neD nbh) (tau_ne hbb (big_row hh).1 (fun h => by cases h)))).1 1).trans (((fu_173 b (pB_no (neD nbq) (tau_ne hbb (big_row hq).1 (fun h => by cases h)))).1 1).trans (((fu_166 b (pB_no (neS nob) (tau_ne hbb (big_row ho).1 (fun h => by cases h)))).1 1).trans (((fu_162 b (pB_no (neD nbq) (tau_ne hbb (big_row hq).1 (fun h => by cases h)))).1 1).trans (((fu_156 b (pB_no (neD nbq) (tau_ne hbb (big_row hq).1 (fun h => by cases h)))).1 1).trans ((uF_ne (fun h => absurd h.2 (by decide))).trans ((fu_1 b (pB_no (neD nbq) (tau_ne hbb (big_row hq).1 (fun h => by cases h)))).1 1))))))))
          have q_201 : 0 ≤ u_197.1 o 1 ∧ u_197.1 o 1 ≤ 32 := iu_197.fi o 1 0 (big_lt ho) ho
          have q_202 : (-1) ≤ u_197.1 o 2 ∧ u_197.1 o 2 ≤ 1 := iu_197.fi o 2 0 (big_lt ho) ho
          have lk_203 : u_197.1 b 2 = S.1 b 2 := ((fu_197 b (pB_no (neS nob) (tau_ne hbb (big_row ho).1 (fun h => by cases h)))).1 2).trans (((fu_191 b (pB_no (neD nbq) (tau_ne hbb (big_row hq).1 (fun h => by cases h)))).1 2).trans (((fu_182 b (pB_no (neD nbh) (tau_ne hbb (big_row hh).1 (fun h => by cases h)))).1 2).trans (((fu_173 b (pB_no (neD nbq) (tau_ne hbb (big_row hq).1 (fun h => by cases h)))).1 2).trans (((fu_166 b (pB_no (neS nob) (tau_ne hbb (big_row ho).1 (fun h => by cases h)))).1 2).trans (((fu_162 b (pB_no (neD nbq) (tau_ne hbb (big_row hq).1 (fun h => by cases h)))).1 2).trans (((fu_156 b (pB_no (neD nbq) (tau_ne hbb (big_row hq).1 (fun h => by cases h)))).1 2).trans ((uF_ne (fun h => absurd h.1 (neS nob))).trans ((fu_1 b (pB_no (neD nbq) (tau_ne hbb (big_row hq).1 (fun h => by cases h)))).1 2))))))))
          refine sBv (sV (As := [.ref (G.2.2.1 + b), .int (iv 1)]) (rest := []) (k := o) Cx (t_X0_add_p l G u_197 (o := o) (a := b) (n := 30) (t := 0) iu_197 ho hbb (neD nob) (by omega) (fun z => absurd z (by omega))) (c_X0_101 Cx rfl rfl (rmk_ok (by omega) (by decide))) hW (big_l ho) ho rfl rfl hl.1 rfl (Nat.le_of_ble_eq_true rfl) dX0_divide_118 ⟨Nat.le_of_ble_eq_true rfl, Nat.le_of_ble_eq_true rfl⟩) hL (fun u_204 H locs k_205 hW hL => ?_)
          obtain ⟨iu_204, fu_204, xu_204⟩ := k_205
          have F_206 := F_199.trans (fu_204.to (pB_sub (pD_1 pB_0) (pD_1 pB_1)))
          have hsg : 1 ≤ S.1 b 1 → 0 ≤ u_204.1 o 2 := fun q => xu_204.2.2.2 (by omega) (by omega) (by have e : VR u_197 b = VR S b := (VR_fr fu_197 (pB_no (neS nob) (tau_ne hbb (big_row ho).1 (fun h => by cases h))) (pB_no (tau_ne (big_row hbb).1 ho (fun h => by cases h)) (ne1S nob))).trans ((VR_fr fu_191 (pB_no (neD nbq) (tau_ne hbb (big_row hq).1 (fun h => by cases h))) (pB_no (tau_ne (big_row hbb).1 hq (fun h => by cases h)) (ne1 nbq))).trans ((VR_fr fu_182 (pB_no (neD nbh) (tau_ne hbb (big_row hh).1 (fun h => by cases h))) (pB_no (tau_ne (big_row hbb).1 hh (fun h => by cases h)) (ne1 nbh))).trans ((VR_fr fu_173 (pB_no (neD nbq) (tau_ne hbb (big_row hq).1 (fun h => by cases h))) (pB_no (tau_ne (big_row hbb).1 hq (fun h => by cases h)) (ne1 nbq))).trans ((VR_fr fu_166 (pB_no (neS nob) (tau_ne hbb (big_row ho).1 (fun h => by cases h))) (pB_no (tau_ne (big_row hbb).1 ho (fun h => by cases h)) (ne1S nob))).trans ((VR_fr fu_162 (pB_no (neD nbq) (tau_ne hbb (big_row hq).1 (fun h => by cases h))) (pB_no (tau_ne (big_row hbb).1 hq (fun h => by cases h)) (ne1 nbq))).trans ((VR_fr fu_156 (pB_no (neD nbq) (tau_ne hbb (big_row hq).1 (fun h => by cases h))) (pB_no (tau_ne (big_row hbb).1 hq (fun h => by cases h)) (ne1 nbq))).trans ((VR_F (fun h => absurd h.2 (by decide))).trans (VR_fr fu_1 (pB_no (neD nbq) (tau_ne hbb (big_row hq).1 (fun h => by cases h))) (pB_no (tau_ne (big_row hbb).1 hq (fun h => by cases h)) (ne1 nbq)))))))))); rw [e]; exact hvo q)
          have hop := xu_204.2.2.1 (by omega)
          have q_207 : 0 ≤ u_204.1 o 1 ∧ u_204.1 o 1 ≤ 32 := iu_204.fi o 1 0 (big_lt ho) ho
          have q_208 : 0 ≤ u_191.1 q 1 ∧ u_191.1 q 1 ≤ 32 := iu_191.fi q 1 0 (big_lt hq) hq
          have lk_209 : u_204.1 q 1 = u_191.1 q 1 := ((fu_204 q (pB_no (neS noq) (tau_ne hq (big_row ho).1 (fun h => by cases h)))).1 1).trans ((fu_197 q (pB_no (neS noq) (tau_ne hq (big_row ho).1 (fun h => by cases h)))).1 1)
          have q_210 : (-1) ≤ u_204.1 o 2 ∧ u_204.1 o 2 ≤ 1 := iu_204.fi o 2 0 (big_lt ho) ho
          exact sVret Cx hr hlk hW hL ⟨iu_204, F_206, ⟨by omega, by omega, fun z => by have e : u_204.2.1 (q + 1) n = u_191.2.1 (q + 1) n := ((fu_204 (q + 1) (pB_no (tau_ne (big_row hq).1 ho (fun h => by cases h)) (ne1S noq))).2.1 n).trans ((fu_197 (q + 1) (pB_no (tau_ne (big_row hq).1 ho (fun h => by cases h)) (ne1S noq))).2.1 n); rw [e]; exact xu_191.2.1 (by omega), fun z => absurd z (by omega), by omega, by omega⟩⟩ dX0_divide_121
  · have q_211 : 0 ≤ S.1 o 1 ∧ S.1 o 1 ≤ 32 := hI.fi o 1 0 (big_lt ho) ho
    have lk_212 : u_1.1 o 1 = S.1 o 1 := (fu_1 o (pB_no (neD noq) (tau_ne ho (big_row hq).1 (fun h => by cases h)))).1 1
    have q_213 : 0 ≤ u_1.1 q 1 ∧ u_1.1 q 1 ≤ 32 := iu_1.fi q 1 0 (big_lt hq) hq
    have q_214 : (-1) ≤ S.1 o 2 ∧ S.1 o 2 ≤ 1 := hI.fi o 2 0 (big_lt ho) ho
    have lk_215 : u_1.1 o 2 = S.1 o 2 := (fu_1 o (pB_no (neD noq) (tau_ne ho (big_row hq).1 (fun h => by cases h)))).1 2
    exact sVret Cx hr hlk hW hL ⟨iu_1, F_3, ⟨by omega, by omega, fun z => absurd z (by omega), fun z => by omega, by omega, by omega⟩⟩ dX0_divide_12
