theorem VR_c {S : sS} {o : Nat} (h0 : 0 ≤ S.1 o 1) (h : VR S o ≠ 0) : 0 < S.1 o 1 := by
  by_cases q : 0 < S.1 o 1
  · exact q
  · refine absurd ?_ h
    unfold VR
    rw [show S.1 o 1 = 0 by omega]; rfl
theorem tr_bv {S u : sS} {o : Nat} (h0 : 0 ≤ u.1 o 1) (h1 : u.1 o 1 ≤ S.1 o 1) (h2 : u.2 = S.2) (h3 : u.1 o 2 ≠ S.1 o 2 → u.1 o 1 = 0) (hz : ∀ j, u.1 o 1 ≤ j → j < S.1 o 1 → S.2.1 (o + 1) j = 0) : bv u o = S.1 o 2 * VR S o := by
  have e : VR S o = VR u o := by
    unfold VR; rw [h2]; exact VR_trim h0 h1 hz
  unfold bv
  by_cases q : u.1 o 2 = S.1 o 2
  · rw [q, e]
  · have z := h3 q
    have e0 : VR u o = 0 := by unfold VR; rw [z]; rfl
    rw [e, e0, Int.mul_zero, Int.mul_zero]
theorem VR_cp {S u : sS} {o a : Nat} (h1 : u.1 o 1 = S.1 a 1) (h2 : ∀ j, 0 ≤ j → j < S.1 a 1 → u.2.1 (o + 1) j = S.2.1 (a + 1) j) : VR u o = VR S a := by
  unfold VR; rw [h1]
  exact V_cg (fun i a b => by rw [show (0 : Int) + i = i by omega]; exact h2 i a (by omega))
set_option maxRecDepth 100000 in
set_option maxHeartbeats 4000000 in
theorem b_X0_add_p (l : Launch) (G : sG) (S : sS) {o a : Nat} {n t : Int} (hI : cX G S 0 0 0) (ho : tau o = .inl 0) (ha : tau a = .inl 0) (noa : Hd (o ≠ a)) (hnt : (0 ≤ n ∧ n ≤ 30) ∧ (0 ≤ t ∧ t ≤ 999999990) ∧ S.1 a 1 ≤ n ∧ S.1 o 1 ≤ n + 1) (hnt2 : Hd (S.1 o 1 = n + 1 → S.2.1 (o + 1) n ≤ t)) (hbo : Hd (bs S o)) (hba : Hd (bs S a)) : Met l yX0_add (.code yX0_add cX0_add 5 none :: tb) (rmk 3 0 0) (sPc G 294 S [.ref (G.2.2.1 + o), .ref (G.2.2.1 + a), .int (iv 1)]) (sQv G 294 (fun u => cX G u 0 0 0 ∧ Fr S u (pB o) ∧ (u.1 o 1 ≤ n + 1 ∧ (u.1 o 1 = n + 1 → u.2.1 (o + 1) n ≤ t + 1) ∧ Hd ((S.1 o 2 ≤ 0 ∧ 0 ≤ S.1 a 2 ∨ 0 ≤ S.1 o 2 ∧ S.1 a 2 ≤ 0) → u.1 o 1 ≤ S.1 o 1 ∨ u.1 o 1 ≤ S.1 a 1) ∧ Hd (S.1 o 2 < 0 → 0 < S.1 a 2 → VR S o < VR S a → 0 ≤ u.1 o 2) ∧ Hd (bv u o = bv S o + 1 * bv S a) ∧ Hd (bs u o)))) 0 0 (sF G) := by
  refine sEnter (by decide) (Nat.le_of_ble_eq_true rfl) ?_
  intro p e s m args below meth c Cx hr hlk hnm hW ls hl
  have Cx : sC G p m c cX0_add 5 s args RX0 := Cx
  obtain ⟨hx, hb, hml, hown, hts⟩ := id Cx.1
  have hL : sL G [] := sL_nil
  have hl : lv_has ls 5 [(0, .ref (G.2.2.1 + o)), (1, .ref (G.2.2.1 + a)), (2, .int (iv 1))] := hl
  have hW0 := hW
  have so : -1 ≤ S.1 o 2 ∧ S.1 o 2 ≤ 1 := hI.fi o 2 0 (big_lt ho) ho; have sa : -1 ≤ S.1 a 2 ∧ S.1 a 2 ≤ 1 := hI.fi a 2 0 (big_lt ha) ha; have co : 0 ≤ S.1 o 1 ∧ S.1 o 1 ≤ 32 := hI.fi o 1 0 (big_lt ho) ho; have ca : 0 ≤ S.1 a 1 ∧ S.1 a 1 ≤ 32 := hI.fi a 1 0 (big_lt ha) ha; have vo := VR_0 hI ho; have va := VR_0 hI ha
  refine lv_iload_n hx hb dX0_add_0 rfl (lv_at hl 2 rfl) ?_
  refine lv_aload_n hx hb dX0_add_1 rfl (lv_at hl 1 rfl) ?_
  have q_1 : (-1) ≤ S.1 a 2 ∧ S.1 a 2 ≤ 1 := hI.fi a 2 0 (big_lt ha) ha
  refine g_X0_34 Cx hW (k := a) (big_l ha) ha (v := S.1 a 2) rfl dX0_add_2 ?_
  refine r_imul hx hb dX0_add_5 ?_
  refine lv_istore_n (lv' := [(3, .int (iv (1 * (S.1 a 2)))), (0, .ref (G.2.2.1 + o)), (1, .ref (G.2.2.1 + a)), (2, .int (iv 1))]) hx hb dX0_add_6 rfl hl (by decide) rfl (fun ls hl => ?_)
  refine lv_iload_n hx hb dX0_add_7 rfl (lv_at hl 0 rfl) ?_
  refine r_if_ne (tgt := 12) hx hb ⟨(by omega), (by omega)⟩ dX0_add_8 (by decide) (fun c_2 => ?_) (fun c_2 => ?_)
  · refine lv_aload_n hx hb dX0_add_12 rfl (lv_at hl 1 rfl) ?_
    have q_3 : (-1) ≤ S.1 o 2 ∧ S.1 o 2 ≤ 1 := hI.fi o 2 0 (big_lt ho) ho
    refine g_X0_34 Cx hW (k := o) (big_l ho) ho (v := S.1 o 2) rfl dX0_add_13 ?_
    refine r_if_ne (tgt := 32) hx hb ⟨(by omega), (by omega)⟩ dX0_add_16 (by decide) (fun c_4 => ?_) (fun c_4 => ?_)
    · refine lv_aload_n hx hb dX0_add_32 rfl (lv_at hl 1 rfl) ?_
      refine g_X0_34 Cx hW (k := o) (big_l ho) ho (v := S.1 o 2) rfl dX0_add_33 ?_
      refine lv_iload_n hx hb dX0_add_36 rfl (lv_at hl 0 rfl) ?_
      refine r_icmp_ne (tgt := 48) hx hb ⟨(by omega), (by omega)⟩ ⟨(by omega), (by omega)⟩ dX0_add_37 (by decide) (fun c_5 => ?_) (fun c_5 => ?_)
      · refine lv_aload_n hx hb dX0_add_48 rfl (lv_at hl 1 rfl) ?_
        refine lv_aload_n hx hb dX0_add_49 rfl (lv_at hl 2 rfl) ?_
        have q_6 : 0 ≤ S.1 a 1 ∧ S.1 a 1 ≤ 32 := hI.fi a 1 0 (big_lt ha) ha
        have q_7 : 0 ≤ S.1 o 1 ∧ S.1 o 1 ≤ 32 := hI.fi o 1 0 (big_lt ho) ho
        refine sBi (sV (As := [.ref (G.2.2.1 + a)]) (rest := []) (k := o) Cx (b_X0_compareSize l G S (o := o) (a := a) hI ho ha) (c_X0_79 Cx rfl rfl (rmk_ok (by omega) (by decide))) hW (big_l ho) ho rfl rfl hl.1 rfl (Nat.le_of_ble_eq_true rfl) dX0_add_50 ⟨Nat.le_of_ble_eq_true rfl, Nat.le_of_ble_eq_true rfl⟩) hL (fun r_10 u_8 H locs k_9 hW hL => ?_)
        obtain ⟨eu_8, xu_8⟩ := k_9
        rw [eu_8] at hW
        have hcs := xu_8.2.2.2.2.1
        have hcl := xu_8.2.2.2.2.2.1
        refine lv_istore (lv' := [(4, .int (iv r_10)), (3, .int (iv (1 * (S.1 a 2)))), (0, .ref (G.2.2.1 + o)), (1, .ref (G.2.2.1 + a)), (2, .int (iv 1))]) hx hb dX0_add_53 hl (by decide) rfl (fun ls hl => ?_)
        refine lv_iload hx hb dX0_add_55 (lv_at hl 0 rfl) ?_
        refine r_if_lt (tgt := 69) hx hb ⟨(by omega), (by omega)⟩ dX0_add_57 (by decide) (fun c_11 => ?_) (fun c_11 => ?_)
        · refine lv_aload_n hx hb dX0_add_69 rfl (lv_at hl 2 rfl) ?_
          refine lv_aload_n hx hb dX0_add_70 rfl (lv_at hl 3 rfl) ?_
          refine lv_aload_n hx hb dX0_add_71 rfl (lv_at hl 2 rfl) ?_
          refine sBv (sV (As := [.ref (G.2.2.1 + a), .ref (G.2.2.1 + o)]) (rest := []) (k := o) Cx (b_X0_takeSize_2 l G S (o := o) (a := a) hI ho ha (neD noa)) (c_X0_83 Cx rfl rfl (rmk_ok (by omega) (by decide))) hW (big_l ho) ho rfl rfl hl.1 rfl (Nat.le_of_ble_eq_true rfl) dX0_add_72 ⟨Nat.le_of_ble_eq_true rfl, Nat.le_of_ble_eq_true rfl⟩) hL (fun u_12 H locs k_13 hW hL => ?_)
          obtain ⟨iu_12, fu_12, xu_12⟩ := k_13
          have F_14 := (Fr.rf : Fr S S (pB o)).trans fu_12
          refine lv_aload_n hx hb dX0_add_75 rfl (lv_at hl 2 rfl) ?_
          refine lv_iload_n hx hb dX0_add_76 rfl (lv_at hl 1 rfl) ?_
          refine p_X0_34 Cx hW hL (k := o) (big_l ho) ho dX0_add_77 (fun H locs hW hL => ?_)
          have F_15 : Fr S (uF u_12 o 2 (1 * (S.1 a 2))) (pB o) := F_14.F pB_0
          have i_16 : cX G (uF u_12 o 2 (1 * (S.1 a 2))) o 0 0 := iu_12.F ho rfl (show (-1) ≤ 1 * (S.1 a 2) ∧ 1 * (S.1 a 2) ≤ 1 from ⟨by omega, by omega⟩)
          refine lv_aload_n hx hb dX0_add_80 rfl (lv_at hl 2 rfl) ?_
          have q_17 : 0 ≤ u_12.1 o 1 ∧ u_12.1 o 1 ≤ 32 := iu_12.fi o 1 0 (big_lt ho) ho
          have lk_18 : (uF u_12 o 2 (1 * (S.1 a 2))).1 o 1 = u_12.1 o 1 := uF_ne (fun h => absurd h.2 (by decide))
          have lk_19 : (uF u_12 o 2 (1 * (S.1 a 2))).1 o 2 = 1 * (S.1 a 2) := uF_on
          refine sBv (sV (As := []) (rest := []) (k := o) Cx (s_X0_trim l G (uF u_12 o 2 (1 * (S.1 a 2))) (o := o) i_16 ho) (c_X0_59 Cx rfl rfl (rmk_ok (by omega) (by decide))) hW (big_l ho) ho rfl rfl hl.1 rfl (Nat.le_of_ble_eq_true rfl) dX0_add_81 ⟨Nat.le_of_ble_eq_true rfl, Nat.le_of_ble_eq_true rfl⟩) hL (fun u_20 H locs k_21 hW hL => ?_)
          obtain ⟨iu_20, fu_20, xu_20⟩ := k_21
          have F_22 := F_15.trans fu_20
          have q_23 : 0 ≤ u_20.1 o 1 ∧ u_20.1 o 1 ≤ 32 := iu_20.fi o 1 0 (big_lt ho) ho
          have q_24 : (-1) ≤ u_20.1 o 2 ∧ u_20.1 o 2 ≤ 1 := iu_20.fi o 2 0 (big_lt ho) ho
          exact sVret Cx hr hlk hW hL ⟨iu_20, F_22, ⟨by have := xu_20.1; rw [uF_i (by decide)] at this; omega, fun q => by have := xu_20.1; rw [uF_i (by decide)] at this; omega, fun _ => Or.inr (by have := xu_20.1; rw [uF_i (by decide)] at this; omega), fun q1 q2 _ => by have e := xu_20.2.1; rw [uF_on] at e; omega, (by show _ = _; have e := tr_bv (S := (uF u_12 o 2 (1 * (S.1 a 2)))) (u := u_20) (o := o) (by have cu : 0 ≤ u_20.1 o 1 ∧ u_20.1 o 1 ≤ 32 := iu_20.fi o 1 0 (big_lt ho) ho; omega) xu_20.1 xu_20.2.2.1 xu_20.2.2.2.2.1 xu_20.2.2.2.2.2.2; rw [e, VR_F (by omega), show VR u_12 o = VR S a - VR S o from xu_12.2.2 (Int.le_of_lt (hcl (by omega))), show (uF u_12 o 2 (1 * (S.1 a 2))).1 o 2 = 1 * (S.1 a 2) from uF_on]; unfold bv; rcases (by omega : S.1 o 2 = -1 ∨ S.1 o 2 = 0 ∨ S.1 o 2 = 1) with z | z | z <;> rcases (by omega : S.1 a 2 = -1 ∨ S.1 a 2 = 0 ∨ S.1 a 2 = 1) with z2 | z2 | z2 <;> rw [z, z2] <;> omega), ⟨fun q => by have cu : 0 ≤ u_20.1 o 1 ∧ u_20.1 o 1 ≤ 32 := iu_20.fi o 1 0 (big_lt ho) ho; by_cases z : 0 < u_20.1 o 1; (exact z); (exact absurd (xu_20.2.2.2.2.2.1 (by omega)) q), fun q => xu_20.2.2.2.2.1 (by rw [q, show (uF u_12 o 2 (1 * (S.1 a 2))).1 o 2 = 1 * (S.1 a 2) from uF_on]; omega)⟩⟩⟩ dX0_add_84
        · refine lv_aload_n hx hb dX0_add_60 rfl (lv_at hl 2 rfl) ?_
          refine lv_aload_n hx hb dX0_add_61 rfl (lv_at hl 2 rfl) ?_
          refine lv_aload_n hx hb dX0_add_62 rfl (lv_at hl 3 rfl) ?_
          refine sBv (sV (As := [.ref (G.2.2.1 + o), .ref (G.2.2.1 + a)]) (rest := []) (k := o) Cx (b_X0_takeSize_1 l G S (o := o) (a := a) hI ho ha (neD noa)) (c_X0_83 Cx rfl rfl (rmk_ok (by omega) (by decide))) hW (big_l ho) ho rfl rfl hl.1 rfl (Nat.le_of_ble_eq_true rfl) dX0_add_63 ⟨Nat.le_of_ble_eq_true rfl, Nat.le_of_ble_eq_true rfl⟩) hL (fun u_25 H locs k_26 hW hL => ?_)
          obtain ⟨iu_25, fu_25, xu_25⟩ := k_26
          have F_27 := (Fr.rf : Fr S S (pB o)).trans fu_25
          refine lv_goto (tgt := 80) hx hb dX0_add_66 (by decide) ?_
          refine lv_aload_n hx hb dX0_add_80 rfl (lv_at hl 2 rfl) ?_
          have q_28 : 0 ≤ u_25.1 o 1 ∧ u_25.1 o 1 ≤ 32 := iu_25.fi o 1 0 (big_lt ho) ho
          have q_29 : (-1) ≤ u_25.1 o 2 ∧ u_25.1 o 2 ≤ 1 := iu_25.fi o 2 0 (big_lt ho) ho
          refine sBv (sV (As := []) (rest := []) (k := o) Cx (s_X0_trim l G u_25 (o := o) iu_25 ho) (c_X0_59 Cx rfl rfl (rmk_ok (by omega) (by decide))) hW (big_l ho) ho rfl rfl hl.1 rfl (Nat.le_of_ble_eq_true rfl) dX0_add_81 ⟨Nat.le_of_ble_eq_true rfl, Nat.le_of_ble_eq_true rfl⟩) hL (fun u_30 H locs k_31 hW hL => ?_)
          obtain ⟨iu_30, fu_30, xu_30⟩ := k_31
          have F_32 := F_27.trans fu_30
          have q_33 : 0 ≤ u_30.1 o 1 ∧ u_30.1 o 1 ≤ 32 := iu_30.fi o 1 0 (big_lt ho) ho
          have q_34 : (-1) ≤ u_30.1 o 2 ∧ u_30.1 o 2 ≤ 1 := iu_30.fi o 2 0 (big_lt ho) ho
          exact sVret Cx hr hlk hW hL ⟨iu_30, F_32, ⟨by omega, fun q => by have e1 : u_30.1 o 1 = u_25.1 o 1 := (by omega); have e2 := xu_30.2.2.1; show u_30.2.1 (o + 1) n ≤ t + 1; rw [e2]; have e3 := xu_25.2.2.1 (by omega); have e4 := hnt2 (by omega); rw [show S.1 o 1 - 1 = n by omega] at e3; omega, fun _ => Or.inl (by omega), fun _ _ q => absurd (hcs (by omega)) (Int.not_le.mpr q), (by show _ = _; have e := tr_bv (S := u_25) (u := u_30) (o := o) (by have cu : 0 ≤ u_30.1 o 1 ∧ u_30.1 o 1 ≤ 32 := iu_30.fi o 1 0 (big_lt ho) ho; omega) xu_30.1 xu_30.2.2.1 xu_30.2.2.2.2.1 xu_30.2.2.2.2.2.2; rw [e, show VR u_25 o = VR S o - VR S a from xu_25.2.2.2 (hcs (by omega)), show u_25.1 o 2 = S.1 o 2 from xu_25.2.1]; unfold bv; rcases (by omega : S.1 o 2 = -1 ∨ S.1 o 2 = 0 ∨ S.1 o 2 = 1) with z | z | z <;> rcases (by omega : S.1 a 2 = -1 ∨ S.1 a 2 = 0 ∨ S.1 a 2 = 1) with z2 | z2 | z2 <;> rw [z, z2] <;> omega), ⟨fun q => by have cu : 0 ≤ u_30.1 o 1 ∧ u_30.1 o 1 ≤ 32 := iu_30.fi o 1 0 (big_lt ho) ho; by_cases z : 0 < u_30.1 o 1; (exact z); (exact absurd (xu_30.2.2.2.2.2.1 (by omega)) q), fun q => xu_30.2.2.2.2.1 (by have e1 := xu_25.2.1; omega)⟩⟩⟩ dX0_add_84
      · refine lv_aload_n hx hb dX0_add_40 rfl (lv_at hl 1 rfl) ?_
        refine lv_aload_n hx hb dX0_add_41 rfl (lv_at hl 2 rfl) ?_
        have q_35 : 0 ≤ S.1 a 1 ∧ S.1 a 1 ≤ 32 := hI.fi a 1 0 (big_lt ha) ha
        have q_36 : 0 ≤ S.1 o 1 ∧ S.1 o 1 ≤ 32 := hI.fi o 1 0 (big_lt ho) ho
        refine sBv (sV (As := [.ref (G.2.2.1 + a)]) (rest := []) (k := o) Cx (b_X0_addSize l G S (o := o) (a := a) (n := n) (t := t) hI ho ha (neD noa) (by omega) hnt2) (c_X0_76 Cx rfl rfl (rmk_ok (by omega) (by decide))) hW (big_l ho) ho rfl rfl hl.1 rfl (Nat.le_of_ble_eq_true rfl) dX0_add_42 ⟨Nat.le_of_ble_eq_true rfl, Nat.le_of_ble_eq_true rfl⟩) hL (fun u_37 H locs k_38 hW hL => ?_)
        obtain ⟨iu_37, fu_37, xu_37⟩ := k_38
        have F_39 := (Fr.rf : Fr S S (pB o)).trans fu_37
        refine lv_goto (tgt := 84) hx hb dX0_add_45 (by decide) ?_
        have q_40 : 0 ≤ u_37.1 o 1 ∧ u_37.1 o 1 ≤ 32 := iu_37.fi o 1 0 (big_lt ho) ho
        have q_41 : (-1) ≤ u_37.1 o 2 ∧ u_37.1 o 2 ≤ 1 := iu_37.fi o 2 0 (big_lt ho) ho
        exact sVret Cx hr hlk hW hL ⟨iu_37, F_39, ⟨xu_37.1, xu_37.2.1, fun q => absurd q (by omega), fun q1 q2 _ => absurd q1 (by omega), (by show _ = _; have e : VR u_37 o = VR S o + VR S a := xu_37.2.2.2; have e1 := xu_37.2.2.1; unfold bv; rw [e, e1]; rcases (by omega : S.1 o 2 = -1 ∨ S.1 o 2 = 0 ∨ S.1 o 2 = 1) with z | z | z <;> rcases (by omega : S.1 a 2 = -1 ∨ S.1 a 2 = 0 ∨ S.1 a 2 = 1) with z2 | z2 | z2 <;> rw [z, z2] <;> omega), ⟨fun _ => by have e : VR u_37 o = VR S o + VR S a := xu_37.2.2.2; have p1 := VR_p hI ho (hbo.1 (by omega)); have cu : 0 ≤ u_37.1 o 1 ∧ u_37.1 o 1 ≤ 32 := iu_37.fi o 1 0 (big_lt ho) ho; exact VR_c (by omega) (by omega), fun q => by have e1 := xu_37.2.2.1; exfalso; omega⟩⟩⟩ dX0_add_84
    · refine lv_aload_n hx hb dX0_add_19 rfl (lv_at hl 1 rfl) ?_
      refine lv_aload_n hx hb dX0_add_20 rfl (lv_at hl 2 rfl) ?_
      have q_42 : 0 ≤ S.1 a 1 ∧ S.1 a 1 ≤ 32 := hI.fi a 1 0 (big_lt ha) ha
      refine sBv (sV (As := [.ref (G.2.2.1 + a)]) (rest := []) (k := o) Cx (s_X0_copy l G S (o := o) (a := a) hI ho ha) (c_X0_72 Cx rfl rfl (rmk_ok (by omega) (by decide))) hW (big_l ho) ho rfl rfl hl.1 rfl (Nat.le_of_ble_eq_true rfl) dX0_add_21 ⟨Nat.le_of_ble_eq_true rfl, Nat.le_of_ble_eq_true rfl⟩) hL (fun u_43 H locs k_44 hW hL => ?_)
      obtain ⟨iu_43, fu_43, xu_43⟩ := k_44
      have F_45 := (Fr.rf : Fr S S (pB o)).trans fu_43
      refine lv_aload_n hx hb dX0_add_24 rfl (lv_at hl 1 rfl) ?_
      refine lv_iload_n hx hb dX0_add_25 rfl (lv_at hl 0 rfl) ?_
      refine p_X0_34 Cx hW hL (k := o) (big_l ho) ho dX0_add_26 (fun H locs hW hL => ?_)
      have F_46 : Fr S (uF u_43 o 2 (1 * (S.1 a 2))) (pB o) := F_45.F pB_0
      have i_47 : cX G (uF u_43 o 2 (1 * (S.1 a 2))) 0 0 0 := iu_43.F ho rfl (show (-1) ≤ 1 * (S.1 a 2) ∧ 1 * (S.1 a 2) ≤ 1 from ⟨by omega, by omega⟩)
      refine lv_goto (tgt := 84) hx hb dX0_add_29 (by decide) ?_
      have q_48 : 0 ≤ u_43.1 o 1 ∧ u_43.1 o 1 ≤ 32 := iu_43.fi o 1 0 (big_lt ho) ho
      have lk_49 : (uF u_43 o 2 (1 * (S.1 a 2))).1 o 1 = u_43.1 o 1 := uF_ne (fun h => absurd h.2 (by decide))
      have lk_50 : (uF u_43 o 2 (1 * (S.1 a 2))).1 o 2 = 1 * (S.1 a 2) := uF_on
      exact sVret Cx hr hlk hW hL ⟨i_47, F_46, ⟨by rw [uF_i (by decide)]; omega, fun q => by rw [uF_i (by decide)] at q; omega, fun _ => Or.inr (by rw [uF_i (by decide)]; omega), fun q _ _ => absurd q (by omega), (by show _ = _; have e := VR_cp (S := S) (u := u_43) (o := o) (a := a) (by omega) xu_43.2.2; unfold bv; rw [uF_on, VR_F (by omega), e, show S.1 o 2 = 0 by omega]; rcases (by omega : S.1 a 2 = -1 ∨ S.1 a 2 = 0 ∨ S.1 a 2 = 1) with z | z | z <;> rw [z] <;> omega), ⟨fun q => by have q1 := xu_43.1; show 0 < (uF u_43 o 2 _).1 o 1; rw [uF_i (by decide)]; have z2 := hba.1 (by omega); omega, fun q => by rw [uF_on] at q; exfalso; omega⟩⟩⟩ dX0_add_84
  · have q_51 : 0 ≤ S.1 o 1 ∧ S.1 o 1 ≤ 32 := hI.fi o 1 0 (big_lt ho) ho
    have q_52 : (-1) ≤ S.1 o 2 ∧ S.1 o 2 ≤ 1 := hI.fi o 2 0 (big_lt ho) ho
    exact sVret Cx hr hlk hW hL ⟨hI, (Fr.rf : Fr S S (pB o)), ⟨by omega, fun q => by have := hnt2 q; omega, fun _ => Or.inl (Int.le_refl _), fun _ q _ => absurd q (by omega), (show bv S o = bv S o + 1 * bv S a by unfold bv; rw [show S.1 a 2 = 0 by omega, Int.zero_mul]; omega), hbo⟩⟩ dX0_add_11

set_option maxRecDepth 100000 in
set_option maxHeartbeats 4000000 in
theorem b_X0_add_m (l : Launch) (G : sG) (S : sS) {o a : Nat} {n t : Int} (hI : cX G S 0 0 0) (ho : tau o = .inl 0) (ha : tau a = .inl 0) (noa : Hd (o ≠ a)) (hnt : (0 ≤ n ∧ n ≤ 30) ∧ (0 ≤ t ∧ t ≤ 999999990) ∧ S.1 a 1 ≤ n ∧ S.1 o 1 ≤ n + 1) (hnt2 : Hd (S.1 o 1 = n + 1 → S.2.1 (o + 1) n ≤ t)) (hbo : Hd (bs S o)) (hba : Hd (bs S a)) : Met l yX0_add (.code yX0_add cX0_add 5 none :: tb) (rmk 3 0 0) (sPc G 294 S [.ref (G.2.2.1 + o), .ref (G.2.2.1 + a), .int (iv ((-1)))]) (sQv G 294 (fun u => cX G u 0 0 0 ∧ Fr S u (pB o) ∧ (u.1 o 1 ≤ n + 1 ∧ (u.1 o 1 = n + 1 → u.2.1 (o + 1) n ≤ t + 1) ∧ Hd ((S.1 o 2 ≤ 0 ∧ S.1 a 2 ≤ 0 ∨ 0 ≤ S.1 o 2 ∧ 0 ≤ S.1 a 2) → u.1 o 1 ≤ S.1 o 1 ∨ u.1 o 1 ≤ S.1 a 1) ∧ Hd (bv u o = bv S o + (-1) * bv S a) ∧ Hd (bs u o)))) 0 0 (sF G) := by
  refine sEnter (by decide) (Nat.le_of_ble_eq_true rfl) ?_
  intro p e s m args below meth c Cx hr hlk hnm hW ls hl
  have Cx : sC G p m c cX0_add 5 s args RX0 := Cx
  obtain ⟨hx, hb, hml, hown, hts⟩ := id Cx.1
  have hL : sL G [] := sL_nil
  have hl : lv_has ls 5 [(0, .ref (G.2.2.1 + o)), (1, .ref (G.2.2.1 + a)), (2, .int (iv ((-1))))] := hl
  have hW0 := hW
  have so : -1 ≤ S.1 o 2 ∧ S.1 o 2 ≤ 1 := hI.fi o 2 0 (big_lt ho) ho; have sa : -1 ≤ S.1 a 2 ∧ S.1 a 2 ≤ 1 := hI.fi a 2 0 (big_lt ha) ha; have co : 0 ≤ S.1 o 1 ∧ S.1 o 1 ≤ 32 := hI.fi o 1 0 (big_lt ho) ho; have ca : 0 ≤ S.1 a 1 ∧ S.1 a 1 ≤ 32 := hI.fi a 1 0 (big_lt ha) ha; have vo := VR_0 hI ho; have va := VR_0 hI ha
  refine lv_iload_n hx hb dX0_add_0 rfl (lv_at hl 2 rfl) ?_
  refine lv_aload_n hx hb dX0_add_1 rfl (lv_at hl 1 rfl) ?_
  have q_1 : (-1) ≤ S.1 a 2 ∧ S.1 a 2 ≤ 1 := hI.fi a 2 0 (big_lt ha) ha
  refine g_X0_34 Cx hW (k := a) (big_l ha) ha (v := S.1 a 2) rfl dX0_add_2 ?_
  refine r_imul hx hb dX0_add_5 ?_
  refine lv_istore_n (lv' := [(3, .int (iv (((-1)) * (S.1 a 2)))), (0, .ref (G.2.2.1 + o)), (1, .ref (G.2.2.1 + a)), (2, .int (iv ((-1))))]) hx hb dX0_add_6 rfl hl (by decide) rfl (fun ls hl => ?_)
  refine lv_iload_n hx hb dX0_add_7 rfl (lv_at hl 0 rfl) ?_
  refine r_if_ne (tgt := 12) hx hb ⟨(by omega), (by omega)⟩ dX0_add_8 (by decide) (fun c_2 => ?_) (fun c_2 => ?_)
  · refine lv_aload_n hx hb dX0_add_12 rfl (lv_at hl 1 rfl) ?_
    have q_3 : (-1) ≤ S.1 o 2 ∧ S.1 o 2 ≤ 1 := hI.fi o 2 0 (big_lt ho) ho
    refine g_X0_34 Cx hW (k := o) (big_l ho) ho (v := S.1 o 2) rfl dX0_add_13 ?_
    refine r_if_ne (tgt := 32) hx hb ⟨(by omega), (by omega)⟩ dX0_add_16 (by decide) (fun c_4 => ?_) (fun c_4 => ?_)
    · refine lv_aload_n hx hb dX0_add_32 rfl (lv_at hl 1 rfl) ?_
      refine g_X0_34 Cx hW (k := o) (big_l ho) ho (v := S.1 o 2) rfl dX0_add_33 ?_
      refine lv_iload_n hx hb dX0_add_36 rfl (lv_at hl 0 rfl) ?_
      refine r_icmp_ne (tgt := 48) hx hb ⟨(by omega), (by omega)⟩ ⟨(by omega), (by omega)⟩ dX0_add_37 (by decide) (fun c_5 => ?_) (fun c_5 => ?_)
      · refine lv_aload_n hx hb dX0_add_48 rfl (lv_at hl 1 rfl) ?_
        refine lv_aload_n hx hb dX0_add_49 rfl (lv_at hl 2 rfl) ?_
        have q_6 : 0 ≤ S.1 a 1 ∧ S.1 a 1 ≤ 32 := hI.fi a 1 0 (big_lt ha) ha
        have q_7 : 0 ≤ S.1 o 1 ∧ S.1 o 1 ≤ 32 := hI.fi o 1 0 (big_lt ho) ho
        refine sBi (sV (As := [.ref (G.2.2.1 + a)]) (rest := []) (k := o) Cx (b_X0_compareSize l G S (o := o) (a := a) hI ho ha) (c_X0_79 Cx rfl rfl (rmk_ok (by omega) (by decide))) hW (big_l ho) ho rfl rfl hl.1 rfl (Nat.le_of_ble_eq_true rfl) dX0_add_50 ⟨Nat.le_of_ble_eq_true rfl, Nat.le_of_ble_eq_true rfl⟩) hL (fun r_10 u_8 H locs k_9 hW hL => ?_)
        obtain ⟨eu_8, xu_8⟩ := k_9
        rw [eu_8] at hW
        have hcs := xu_8.2.2.2.2.1
        have hcl := xu_8.2.2.2.2.2.1
        refine lv_istore (lv' := [(4, .int (iv r_10)), (3, .int (iv (((-1)) * (S.1 a 2)))), (0, .ref (G.2.2.1 + o)), (1, .ref (G.2.2.1 + a)), (2, .int (iv ((-1))))]) hx hb dX0_add_53 hl (by decide) rfl (fun ls hl => ?_)
        refine lv_iload hx hb dX0_add_55 (lv_at hl 0 rfl) ?_
        refine r_if_lt (tgt := 69) hx hb ⟨(by omega), (by omega)⟩ dX0_add_57 (by decide) (fun c_11 => ?_) (fun c_11 => ?_)
        · refine lv_aload_n hx hb dX0_add_69 rfl (lv_at hl 2 rfl) ?_
          refine lv_aload_n hx hb dX0_add_70 rfl (lv_at hl 3 rfl) ?_
          refine lv_aload_n hx hb dX0_add_71 rfl (lv_at hl 2 rfl) ?_
          refine sBv (sV (As := [.ref (G.2.2.1 + a), .ref (G.2.2.1 + o)]) (rest := []) (k := o) Cx (b_X0_takeSize_2 l G S (o := o) (a := a) hI ho ha (neD noa)) (c_X0_83 Cx rfl rfl (rmk_ok (by omega) (by decide))) hW (big_l ho) ho rfl rfl hl.1 rfl (Nat.le_of_ble_eq_true rfl) dX0_add_72 ⟨Nat.le_of_ble_eq_true rfl, Nat.le_of_ble_eq_true rfl⟩) hL (fun u_12 H locs k_13 hW hL => ?_)
          obtain ⟨iu_12, fu_12, xu_12⟩ := k_13
          have F_14 := (Fr.rf : Fr S S (pB o)).trans fu_12
          refine lv_aload_n hx hb dX0_add_75 rfl (lv_at hl 2 rfl) ?_
          refine lv_iload_n hx hb dX0_add_76 rfl (lv_at hl 1 rfl) ?_
          refine p_X0_34 Cx hW hL (k := o) (big_l ho) ho dX0_add_77 (fun H locs hW hL => ?_)
          have F_15 : Fr S (uF u_12 o 2 (((-1)) * (S.1 a 2))) (pB o) := F_14.F pB_0
          have i_16 : cX G (uF u_12 o 2 (((-1)) * (S.1 a 2))) o 0 0 := iu_12.F ho rfl (show (-1) ≤ ((-1)) * (S.1 a 2) ∧ ((-1)) * (S.1 a 2) ≤ 1 from ⟨by omega, by omega⟩)
          refine lv_aload_n hx hb dX0_add_80 rfl (lv_at hl 2 rfl) ?_
          have q_17 : 0 ≤ u_12.1 o 1 ∧ u_12.1 o 1 ≤ 32 := iu_12.fi o 1 0 (big_lt ho) ho
          have lk_18 : (uF u_12 o 2 (((-1)) * (S.1 a 2))).1 o 1 = u_12.1 o 1 := uF_ne (fun h => absurd h.2 (by decide))
          have lk_19 : (uF u_12 o 2 (((-1)) * (S.1 a 2))).1 o 2 = ((-1)) * (S.1 a 2) := uF_on
          refine sBv (sV (As := []) (rest := []) (k := o) Cx (s_X0_trim l G (uF u_12 o 2 (((-1)) * (S.1 a 2))) (o := o) i_16 ho) (c_X0_59 Cx rfl rfl (rmk_ok (by omega) (by decide))) hW (big_l ho) ho rfl rfl hl.1 rfl (Nat.le_of_ble_eq_true rfl) dX0_add_81 ⟨Nat.le_of_ble_eq_true rfl, Nat.le_of_ble_eq_true rfl⟩) hL (fun u_20 H locs k_21 hW hL => ?_)
          obtain ⟨iu_20, fu_20, xu_20⟩ := k_21
          have F_22 := F_15.trans fu_20
          have q_23 : 0 ≤ u_20.1 o 1 ∧ u_20.1 o 1 ≤ 32 := iu_20.fi o 1 0 (big_lt ho) ho
          exact sVret Cx hr hlk hW hL ⟨iu_20, F_22, ⟨by have := xu_20.1; rw [uF_i (by decide)] at this; omega, fun q => by have := xu_20.1; rw [uF_i (by decide)] at this; omega, fun _ => Or.inr (by have := xu_20.1; rw [uF_i (by decide)] at this; omega), (by show _ = _; have e := tr_bv (S := (uF u_12 o 2 (((-1)) * (S.1 a 2)))) (u := u_20) (o := o) (by have cu : 0 ≤ u_20.1 o 1 ∧ u_20.1 o 1 ≤ 32 := iu_20.fi o 1 0 (big_lt ho) ho; omega) xu_20.1 xu_20.2.2.1 xu_20.2.2.2.2.1 xu_20.2.2.2.2.2.2; rw [e, VR_F (by omega), show VR u_12 o = VR S a - VR S o from xu_12.2.2 (Int.le_of_lt (hcl (by omega))), show (uF u_12 o 2 (((-1)) * (S.1 a 2))).1 o 2 = ((-1)) * (S.1 a 2) from uF_on]; unfold bv; rcases (by omega : S.1 o 2 = -1 ∨ S.1 o 2 = 0 ∨ S.1 o 2 = 1) with z | z | z <;> rcases (by omega : S.1 a 2 = -1 ∨ S.1 a 2 = 0 ∨ S.1 a 2 = 1) with z2 | z2 | z2 <;> rw [z, z2] <;> omega), ⟨fun q => by have cu : 0 ≤ u_20.1 o 1 ∧ u_20.1 o 1 ≤ 32 := iu_20.fi o 1 0 (big_lt ho) ho; by_cases z : 0 < u_20.1 o 1; (exact z); (exact absurd (xu_20.2.2.2.2.2.1 (by omega)) q), fun q => xu_20.2.2.2.2.1 (by rw [q, show (uF u_12 o 2 (((-1)) * (S.1 a 2))).1 o 2 = ((-1)) * (S.1 a 2) from uF_on]; omega)⟩⟩⟩ dX0_add_84
        · refine lv_aload_n hx hb dX0_add_60 rfl (lv_at hl 2 rfl) ?_
          refine lv_aload_n hx hb dX0_add_61 rfl (lv_at hl 2 rfl) ?_
          refine lv_aload_n hx hb dX0_add_62 rfl (lv_at hl 3 rfl) ?_
          refine sBv (sV (As := [.ref (G.2.2.1 + o), .ref (G.2.2.1 + a)]) (rest := []) (k := o) Cx (b_X0_takeSize_1 l G S (o := o) (a := a) hI ho ha (neD noa)) (c_X0_83 Cx rfl rfl (rmk_ok (by omega) (by decide))) hW (big_l ho) ho rfl rfl hl.1 rfl (Nat.le_of_ble_eq_true rfl) dX0_add_63 ⟨Nat.le_of_ble_eq_true rfl, Nat.le_of_ble_eq_true rfl⟩) hL (fun u_24 H locs k_25 hW hL => ?_)
          obtain ⟨iu_24, fu_24, xu_24⟩ := k_25
          have F_26 := (Fr.rf : Fr S S (pB o)).trans fu_24
          refine lv_goto (tgt := 80) hx hb dX0_add_66 (by decide) ?_
          refine lv_aload_n hx hb dX0_add_80 rfl (lv_at hl 2 rfl) ?_
          have q_27 : 0 ≤ u_24.1 o 1 ∧ u_24.1 o 1 ≤ 32 := iu_24.fi o 1 0 (big_lt ho) ho
          have q_28 : (-1) ≤ u_24.1 o 2 ∧ u_24.1 o 2 ≤ 1 := iu_24.fi o 2 0 (big_lt ho) ho
          refine sBv (sV (As := []) (rest := []) (k := o) Cx (s_X0_trim l G u_24 (o := o) iu_24 ho) (c_X0_59 Cx rfl rfl (rmk_ok (by omega) (by decide))) hW (big_l ho) ho rfl rfl hl.1 rfl (Nat.le_of_ble_eq_true rfl) dX0_add_81 ⟨Nat.le_of_ble_eq_true rfl, Nat.le_of_ble_eq_true rfl⟩) hL (fun u_29 H locs k_30 hW hL => ?_)
          obtain ⟨iu_29, fu_29, xu_29⟩ := k_30
          have F_31 := F_26.trans fu_29
          have q_32 : 0 ≤ u_29.1 o 1 ∧ u_29.1 o 1 ≤ 32 := iu_29.fi o 1 0 (big_lt ho) ho
          exact sVret Cx hr hlk hW hL ⟨iu_29, F_31, ⟨by omega, fun q => by have e1 : u_29.1 o 1 = u_24.1 o 1 := (by omega); have e2 := xu_29.2.2.1; show u_29.2.1 (o + 1) n ≤ t + 1; rw [e2]; have e3 := xu_24.2.2.1 (by omega); have e4 := hnt2 (by omega); rw [show S.1 o 1 - 1 = n by omega] at e3; omega, fun _ => Or.inl (by omega), (by show _ = _; have e := tr_bv (S := u_24) (u := u_29) (o := o) (by have cu : 0 ≤ u_29.1 o 1 ∧ u_29.1 o 1 ≤ 32 := iu_29.fi o 1 0 (big_lt ho) ho; omega) xu_29.1 xu_29.2.2.1 xu_29.2.2.2.2.1 xu_29.2.2.2.2.2.2; rw [e, show VR u_24 o = VR S o - VR S a from xu_24.2.2.2 (hcs (by omega)), show u_24.1 o 2 = S.1 o 2 from xu_24.2.1]; unfold bv; rcases (by omega : S.1 o 2 = -1 ∨ S.1 o 2 = 0 ∨ S.1 o 2 = 1) with z | z | z <;> rcases (by omega : S.1 a 2 = -1 ∨ S.1 a 2 = 0 ∨ S.1 a 2 = 1) with z2 | z2 | z2 <;> rw [z, z2] <;> omega), ⟨fun q => by have cu : 0 ≤ u_29.1 o 1 ∧ u_29.1 o 1 ≤ 32 := iu_29.fi o 1 0 (big_lt ho) ho; by_cases z : 0 < u_29.1 o 1; (exact z); (exact absurd (xu_29.2.2.2.2.2.1 (by omega)) q), fun q => xu_29.2.2.2.2.1 (by have e1 := xu_24.2.1; omega)⟩⟩⟩ dX0_add_84
      · refine lv_aload_n hx hb dX0_add_40 rfl (lv_at hl 1 rfl) ?_
        refine lv_aload_n hx hb dX0_add_41 rfl (lv_at hl 2 rfl) ?_
        have q_33 : 0 ≤ S.1 a 1 ∧ S.1 a 1 ≤ 32 := hI.fi a 1 0 (big_lt ha) ha
        have q_34 : 0 ≤ S.1 o 1 ∧ S.1 o 1 ≤ 32 := hI.fi o 1 0 (big_lt ho) ho
        refine sBv (sV (As := [.ref (G.2.2.1 + a)]) (rest := []) (k := o) Cx (b_X0_addSize l G S (o := o) (a := a) (n := n) (t := t) hI ho ha (neD noa) (by omega) hnt2) (c_X0_76 Cx rfl rfl (rmk_ok (by omega) (by decide))) hW (big_l ho) ho rfl rfl hl.1 rfl (Nat.le_of_ble_eq_true rfl) dX0_add_42 ⟨Nat.le_of_ble_eq_true rfl, Nat.le_of_ble_eq_true rfl⟩) hL (fun u_35 H locs k_36 hW hL => ?_)
        obtain ⟨iu_35, fu_35, xu_35⟩ := k_36
        have F_37 := (Fr.rf : Fr S S (pB o)).trans fu_35
        refine lv_goto (tgt := 84) hx hb dX0_add_45 (by decide) ?_
        have q_38 : 0 ≤ u_35.1 o 1 ∧ u_35.1 o 1 ≤ 32 := iu_35.fi o 1 0 (big_lt ho) ho
        exact sVret Cx hr hlk hW hL ⟨iu_35, F_37, ⟨xu_35.1, xu_35.2.1, fun q => absurd q (by omega), (by show _ = _; have e : VR u_35 o = VR S o + VR S a := xu_35.2.2.2; have e1 := xu_35.2.2.1; unfold bv; rw [e, e1]; rcases (by omega : S.1 o 2 = -1 ∨ S.1 o 2 = 0 ∨ S.1 o 2 = 1) with z | z | z <;> rcases (by omega : S.1 a 2 = -1 ∨ S.1 a 2 = 0 ∨ S.1 a 2 = 1) with z2 | z2 | z2 <;> rw [z, z2] <;> omega), ⟨fun _ => by have e : VR u_35 o = VR S o + VR S a := xu_35.2.2.2; have p1 := VR_p hI ho (hbo.1 (by omega)); have cu : 0 ≤ u_35.1 o 1 ∧ u_35.1 o 1 ≤ 32 := iu_35.fi o 1 0 (big_lt ho) ho; exact VR_c (by omega) (by omega), fun q => by have e1 := xu_35.2.2.1; exfalso; omega⟩⟩⟩ dX0_add_84
    · refine lv_aload_n hx hb dX0_add_19 rfl (lv_at hl 1 rfl) ?_
      refine lv_aload_n hx hb dX0_add_20 rfl (lv_at hl 2 rfl) ?_
      have q_39 : 0 ≤ S.1 a 1 ∧ S.1 a 1 ≤ 32 := hI.fi a 1 0 (big_lt ha) ha
      refine sBv (sV (As := [.ref (G.2.2.1 + a)]) (rest := []) (k := o) Cx (s_X0_copy l G S (o := o) (a := a) hI ho ha) (c_X0_72 Cx rfl rfl (rmk_ok (by omega) (by decide))) hW (big_l ho) ho rfl rfl hl.1 rfl (Nat.le_of_ble_eq_true rfl) dX0_add_21 ⟨Nat.le_of_ble_eq_true rfl, Nat.le_of_ble_eq_true rfl⟩) hL (fun u_40 H locs k_41 hW hL => ?_)
      obtain ⟨iu_40, fu_40, xu_40⟩ := k_41
      have F_42 := (Fr.rf : Fr S S (pB o)).trans fu_40
      refine lv_aload_n hx hb dX0_add_24 rfl (lv_at hl 1 rfl) ?_
      refine lv_iload_n hx hb dX0_add_25 rfl (lv_at hl 0 rfl) ?_
      refine p_X0_34 Cx hW hL (k := o) (big_l ho) ho dX0_add_26 (fun H locs hW hL => ?_)
      have F_43 : Fr S (uF u_40 o 2 (((-1)) * (S.1 a 2))) (pB o) := F_42.F pB_0
      have i_44 : cX G (uF u_40 o 2 (((-1)) * (S.1 a 2))) 0 0 0 := iu_40.F ho rfl (show (-1) ≤ ((-1)) * (S.1 a 2) ∧ ((-1)) * (S.1 a 2) ≤ 1 from ⟨by omega, by omega⟩)
      refine lv_goto (tgt := 84) hx hb dX0_add_29 (by decide) ?_
      have q_45 : 0 ≤ u_40.1 o 1 ∧ u_40.1 o 1 ≤ 32 := iu_40.fi o 1 0 (big_lt ho) ho
      have lk_46 : (uF u_40 o 2 (((-1)) * (S.1 a 2))).1 o 1 = u_40.1 o 1 := uF_ne (fun h => absurd h.2 (by decide))
      exact sVret Cx hr hlk hW hL ⟨i_44, F_43, ⟨by rw [uF_i (by decide)]; omega, fun q => by rw [uF_i (by decide)] at q; omega, fun _ => Or.inr (by rw [uF_i (by decide)]; omega), (by show _ = _; have e := VR_cp (S := S) (u := u_40) (o := o) (a := a) (by omega) xu_40.2.2; unfold bv; rw [uF_on, VR_F (by omega), e, show S.1 o 2 = 0 by omega]; rcases (by omega : S.1 a 2 = -1 ∨ S.1 a 2 = 0 ∨ S.1 a 2 = 1) with z | z | z <;> rw [z] <;> omega), ⟨fun q => by have q1 := xu_40.1; show 0 < (uF u_40 o 2 _).1 o 1; rw [uF_i (by decide)]; have z2 := hba.1 (by omega); omega, fun q => by rw [uF_on] at q; exfalso; omega⟩⟩⟩ dX0_add_84
  · have q_47 : 0 ≤ S.1 o 1 ∧ S.1 o 1 ≤ 32 := hI.fi o 1 0 (big_lt ho) ho
    exact sVret Cx hr hlk hW hL ⟨hI, (Fr.rf : Fr S S (pB o)), ⟨by omega, fun q => by have := hnt2 q; omega, fun _ => Or.inl (Int.le_refl _), (show bv S o = bv S o + (-1) * bv S a by unfold bv; rw [show S.1 a 2 = 0 by omega, Int.zero_mul]; omega), hbo⟩⟩ dX0_add_11
