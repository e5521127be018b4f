set_option maxRecDepth 100000 in
set_option maxHeartbeats 4000000 in
theorem s_X0_put (l : Launch) (G : sG) (S : sS) {o : Nat} {v : Int} (hI : cX G S 0 0 0) (ho : tau o = .inl 0) (hv : -9223372036854775808 ≤ v ∧ v ≤ 9223372036854775807) : Met l yX0_put (.code yX0_put cX0_put 6 none :: tb) (rmk 2 0 0) (sPc G 294 S [.ref (G.2.2.1 + o), .long (jv v)]) (sQv G 294 (fun u => cX G u 0 0 0 ∧ Fr S u (pB o) ∧ (u.1 o 1 ≤ 3 ∧ (0 ≤ v → v ≤ 999999999 → u.1 o 1 ≤ 1) ∧ (v = 0 → u.1 o 1 = 0 ∧ u.1 o 2 = 0) ∧ (0 ≤ v → 0 ≤ u.1 o 2) ∧ Hd (0 ≤ v → v ≤ 999999999 → VR u o = v)))) 0 0 (sF G) := by
  refine sEnter (by decide) (Nat.le_of_ble_eq_true rfl) ?_
  intro p e s m args below meth c Cx hr hlk hnm hW ls hl
  have Cx : sC G p m c cX0_put 6 s args RX0 := Cx
  obtain ⟨hx, hb, hml, hown, hts⟩ := id Cx.1
  have hL : sL G [] := sL_nil
  have hl : lv_has ls 6 [(0, .ref (G.2.2.1 + o)), (1, .long (jv v))] := hl
  have hW0 := hW
  have j_1 := hI.exB o
  refine lv_lload_n hx hb dX0_put_0 rfl (lv_at hl 1 rfl) ?_
  refine lv_lstore_n (lv' := [(3, .long (jv v)), (0, .ref (G.2.2.1 + o)), (1, .long (jv v))]) hx hb dX0_put_1 rfl hl (by decide) rfl (fun ls hl => ?_)
  refine lv_aload_n hx hb dX0_put_2 rfl (lv_at hl 1 rfl) ?_
  refine lv_iconst (v := iv 0) hx hb dX0_put_3 (by decide) ?_
  refine p_X0_24 Cx hW hL (k := o) (big_l ho) ho dX0_put_4 (fun H locs hW hL => ?_)
  have F_2 : Fr S (uF S o 1 0) (pB o) := (Fr.rf : Fr S S (pB o)).F pB_0
  have i_3 : cX G (uF S o 1 0) o 0 0 := j_1.cnt (exq_s ho) ho ⟨by omega, by omega⟩
  refine lv_iconst (v := iv 0) hx hb dX0_put_7 (by decide) ?_
  refine lv_istore (lv' := [(5, .int (iv 0)), (3, .long (jv v)), (0, .ref (G.2.2.1 + o)), (1, .long (jv v))]) hx hb dX0_put_8 hl (by decide) rfl (fun ls hl => ?_)
  have loop_10 : ∀ (fuel : Nat) (S10 : sS) (i : Int) (w : Int) (H : Heap) (locs : List Loc) (ls : Array Slot), (3 - i).toNat < fuel → (cX G S10 o 0 0) → (Fr S S10 (pB o)) → (Fr ((uF S o 1 0)) S10 (pB o)) → (0 ≤ i ∧ i ≤ 3) → (-9223372036854775808 ≤ w ∧ w ≤ 9223372036854775807) → (S10.1 o 1 ≤ i) → (0 < S10.1 o 1 → S10.2.1 (o + 1) (S10.1 o 1 - 1) ≠ 0) → (0 ≤ v → v ≤ 999999999 → (i = 0 → w = v) ∧ (1 ≤ i → w = 0 ∧ S10.1 o 1 ≤ 1)) → (v = 0 → w = 0 ∧ S10.1 o 1 = 0) → (Hd (0 ≤ v → v ≤ 999999999 → 1 ≤ i → S10.2.1 (o + 1) 0 = v ∧ (v ≠ 0 → S10.1 o 1 = 1))) → sW G 294 S10 H → sL G locs → lv_has ls 6 [(5, .int (iv i)), (3, .long (jv w)), (0, .ref (G.2.2.1 + o)), (1, .long (jv v))] → W p l e (rmk 2 0 0) s m args below meth c H locs 0 0 (MQ below (sQv G 294 (fun u => cX G u 0 0 0 ∧ Fr S u (pB o) ∧ (u.1 o 1 ≤ 3 ∧ (0 ≤ v → v ≤ 999999999 → u.1 o 1 ≤ 1) ∧ (v = 0 → u.1 o 1 = 0 ∧ u.1 o 2 = 0) ∧ (0 ≤ v → 0 ≤ u.1 o 2) ∧ Hd (0 ≤ v → v ≤ 999999999 → VR u o = v)))) args s 0 0 (sF G)) (F0 m 10 ls []) := by
    intro fuel
    induction fuel with
    | zero => intro S10 i w H locs ls hmeas hI10 hFm10 hL10_ hi hw hc hn hv1 hv0 hl0 hW hL hl; exact absurd hmeas (Nat.not_lt_zero _)
    | succ fuel ih_10 =>
      intro S10 i w H locs ls hmeas hI10 hFm10 hL10_ hi hw hc hn hv1 hv0 hl0 hW hL hl
      refine lv_iload hx hb dX0_put_10 (lv_at hl 0 rfl) ?_
      refine lv_iconst (v := iv 3) hx hb dX0_put_12 (by decide) ?_
      refine r_icmp_ge (tgt := 62) hx hb ⟨(by omega), (by omega)⟩ ⟨(by omega), (by omega)⟩ dX0_put_13 (by decide) (fun c_4 => ?_) (fun c_4 => ?_)
      · refine lv_aload_n hx hb dX0_put_62 rfl (lv_at hl 2 rfl) ?_
        refine lv_lload_n hx hb dX0_put_63 rfl (lv_at hl 3 rfl) ?_
        refine sBi (sSt (As := [.long (jv v)]) (rest := [.ref (G.2.2.1 + o)]) Cx (t_J13_signum_95d88 l G S10 (a := v) (by omega)) (c_X0_28 Cx rfl rfl (rmk_ok (by omega) (by decide))) hW rfl hl.1 rfl (Nat.le_of_ble_eq_true rfl) dX0_put_64 ⟨Nat.le_of_ble_eq_true rfl, Nat.le_of_ble_eq_true rfl⟩) hL (fun r_7 u_5 H locs k_6 hW hL => ?_)
        obtain ⟨eu_5, xu_5⟩ := k_6
        rw [eu_5] at hW
        have yu_5 : (v < 0 → r_7 = -1) ∧ (v = 0 → r_7 = 0) ∧ (0 < v → r_7 = 1) := sgn3 xu_5
        clear xu_5
        refine p_X0_34 Cx hW hL (k := o) (big_l ho) ho dX0_put_67 (fun H locs hW hL => ?_)
        have F_8 : Fr S (uF S10 o 2 r_7) (pB o) := hFm10.F pB_0
        have F_9 : Fr ((uF S o 1 0)) (uF S10 o 2 r_7) (pB o) := hL10_.F pB_0
        have i_10 : cX G (uF S10 o 2 r_7) o 0 0 := hI10.F ho rfl (show (-1) ≤ r_7 ∧ r_7 ≤ 1 from ⟨by omega, by omega⟩)
        have j_11 : cX G (uF S10 o 2 r_7) 0 0 0 := i_10.inB ho (by intro q; rw [uF_i (by decide)] at q ⊢; exact hn q)
        have q_12 : 0 ≤ S10.1 o 1 ∧ S10.1 o 1 ≤ 32 := hI10.fi o 1 0 (big_lt ho) ho
        have lk_13 : (uF S10 o 2 r_7).1 o 1 = S10.1 o 1 := uF_ne (fun h => absurd h.2 (by decide))
        have lk_14 : (uF S10 o 2 r_7).1 o 2 = r_7 := uF_on
        exact sVret Cx hr hlk hW hL ⟨j_11, F_8, ⟨by rw [uF_i (by decide)]; omega, by rw [uF_i (by decide)]; omega, by rw [uF_i (by decide), uF_on]; omega, by rw [uF_on]; omega, fun q1 q2 => by have e := hl0 q1 q2 (by omega); unfold VR; rw [uF_i (by decide)]; exact V_one (fun z => (hv0 z).2) (fun z => ⟨e.2 z, e.1⟩)⟩⟩ dX0_put_70
      · refine lv_aload_n hx hb dX0_put_16 rfl (lv_at hl 2 rfl) ?_
        refine g_X0_9 Cx hW (k := o) (big_l ho) ho (v := .ref (G.2.2.1 + (o + 1))) (hI10.rq.1 o ho) dX0_put_17 ?_
        refine lv_iload hx hb dX0_put_20 (lv_at hl 0 rfl) ?_
        refine lv_lload_n hx hb dX0_put_22 rfl (lv_at hl 1 rfl) ?_
        refine lv_ldc2 hx hb hown (hts _ w_1163) dX0_put_23 ?_
        refine r_lrem hx hb ⟨(by omega), (by omega)⟩ ⟨(by omega), (by omega)⟩ (by omega) dX0_put_26 ?_
        obtain ⟨z_15, ez_15⟩ : ∃ z : Int, z = w.tmod 1000000000 := ⟨_, rfl⟩
        have hz_15 := tmodL (a := w) (b := 1000000000) (by omega)
        rw [← ez_15] at hz_15
        refine r_j (b := z_15) ez_15.symm ?_
        clear ez_15
        refine r_absl hx hb (hml.trans hl.1.symm) hown (hts _ w_1184) (hts _ w_1080) (hts _ w_206) (hts _ w_1081) (rmk_f (by omega)) (rmk_l (by omega) (Nat.le_of_ble_eq_true rfl)) (Nat.le_of_ble_eq_true rfl) (Nat.le_of_ble_eq_true rfl) ⟨(by omega), (by omega)⟩ dX0_put_27 (fun z_16 hz_16 => ?_)
        refine r_l2i hx hb dX0_put_30 ?_
        refine rIast Cx hW hL (k := o + 1) (big_l1 ho) (big_row ho).1 (by decide) (by omega) (by omega) dX0_put_31 (fun H locs hW hL => ?_)
        have F_17 : Fr S (uA S10 (o + 1) i z_16) (pB o) := hFm10.A pB_1
        have F_18 : Fr ((uF S o 1 0)) (uA S10 (o + 1) i z_16) (pB o) := hL10_.A pB_1
        have i_19 : cX G (uA S10 (o + 1) i z_16) o 0 0 := hI10.limb (Or.inl (exq_s ho)) ho ⟨(by omega), (by omega)⟩
        refine lv_lload_n hx hb dX0_put_32 rfl (lv_at hl 1 rfl) ?_
        refine lv_ldc2 hx hb hown (hts _ w_1163) dX0_put_33 ?_
        refine r_ldiv hx hb ⟨(by omega), (by omega)⟩ ⟨(by omega), (by omega)⟩ (by omega) dX0_put_36 ?_
        obtain ⟨z_20, ez_20⟩ : ∃ z : Int, z = w.tdiv 1000000000 := ⟨_, rfl⟩
        have hz_20 := tdivL (a := w) (b := 1000000000) (by omega)
        rw [← ez_20] at hz_20
        refine r_j (b := z_20) ez_20.symm ?_
        clear ez_20
        refine lv_lstore_n (lv' := [(3, .long (jv z_20)), (5, .int (iv i)), (0, .ref (G.2.2.1 + o)), (1, .long (jv v))]) hx hb dX0_put_37 rfl hl (by decide) rfl (fun ls hl => ?_)
        refine lv_aload_n hx hb dX0_put_38 rfl (lv_at hl 2 rfl) ?_
        refine g_X0_9 Cx hW (k := o) (big_l ho) ho (v := .ref (G.2.2.1 + (o + 1))) (i_19.rq.1 o ho) dX0_put_39 ?_
        refine lv_iload hx hb dX0_put_42 (lv_at hl 1 rfl) ?_
        refine rIald Cx hW (k := o + 1) (big_l1 ho) (big_row ho).1 (by decide) (by omega) (by omega) dX0_put_44 ?_
        refine r_i (b := z_16) uA_on ?_
        refine r_if_eq (tgt := 56) hx hb ⟨(by omega), (by omega)⟩ dX0_put_45 (by decide) (fun c_21 => ?_) (fun c_21 => ?_)
        · refine lv_iinc (v := iv (i + 1)) (lv' := [(5, .int (iv (i + 1))), (3, .long (jv z_20)), (0, .ref (G.2.2.1 + o)), (1, .long (jv v))]) hx hb dX0_put_56 hl (k := 1) rfl ((Int32.ofInt_add _ _).symm) (by decide) rfl (fun ls hl => ?_)
          refine lv_goto (tgt := 10) hx hb dX0_put_59 (by decide) ?_
          have q_22 : 0 ≤ S10.1 o 1 ∧ S10.1 o 1 ≤ 32 := hI10.fi o 1 0 (big_lt ho) ho
          have lk_23 : (uA S10 (o + 1) i z_16).1 o 1 = S10.1 o 1 := uA_f
          exact ih_10 (uA S10 (o + 1) i z_16) (i + 1) z_20 _ _ _ (by omega) i_19 F_17 F_18 (by omega) (by omega) (show S10.1 o 1 ≤ _ by omega) (by intro q; show (uA S10 (o + 1) i _).2.1 (o + 1) (S10.1 o 1 - 1) ≠ 0; rw [uA_ne (by have : S10.1 o 1 ≤ i := hc; omega)]; exact hn q) (show 0 ≤ v → v ≤ 999999999 → (_ = 0 → _ = v) ∧ (_ → _ ∧ S10.1 o 1 ≤ 1) by omega) (show v = 0 → _ ∧ S10.1 o 1 = 0 by omega) (fun q1 q2 q3 => by have e1 := hv1 q1 q2; rcases (by omega : i = 0 ∨ 1 ≤ i) with q | q; refine ⟨?_, fun _ => ?_⟩; rw [q, uA_on]; omega; exfalso; omega; have e2 := hl0 q1 q2 q; refine ⟨?_, e2.2⟩; rw [uA_ne (by omega)]; exact e2.1) hW hL (lv_sub hl [0, 1, 2, 3] rfl)
        · refine lv_aload_n hx hb dX0_put_48 rfl (lv_at hl 2 rfl) ?_
          refine lv_iload hx hb dX0_put_49 (lv_at hl 1 rfl) ?_
          refine lv_iconst (v := iv 1) hx hb dX0_put_51 (by decide) ?_
          refine r_iadd hx hb dX0_put_52 ?_
          refine p_X0_24 Cx hW hL (k := o) (big_l ho) ho dX0_put_53 (fun H locs hW hL => ?_)
          have F_24 : Fr S (uF (uA S10 (o + 1) i z_16) o 1 (i + 1)) (pB o) := F_17.F pB_0
          have F_25 : Fr ((uF S o 1 0)) (uF (uA S10 (o + 1) i z_16) o 1 (i + 1)) (pB o) := F_18.F pB_0
          have i_26 : cX G (uF (uA S10 (o + 1) i z_16) o 1 (i + 1)) o 0 0 := i_19.cnt (exq_s ho) ho ⟨by omega, by omega⟩
          refine lv_iinc (v := iv (i + 1)) (lv' := [(5, .int (iv (i + 1))), (3, .long (jv z_20)), (0, .ref (G.2.2.1 + o)), (1, .long (jv v))]) hx hb dX0_put_56 hl (k := 1) rfl ((Int32.ofInt_add _ _).symm) (by decide) rfl (fun ls hl => ?_)
          refine lv_goto (tgt := 10) hx hb dX0_put_59 (by decide) ?_
          have lk_27 : (uF (uA S10 (o + 1) i z_16) o 1 (i + 1)).1 o 1 = i + 1 := uF_on
          exact ih_10 (uF (uA S10 (o + 1) i z_16) o 1 (i + 1)) (i + 1) z_20 _ _ _ (by omega) i_26 F_24 F_25 (by omega) (by omega) (by rw [uF_on]; omega) (by rw [uF_on]; intro q; show (uA S10 (o + 1) i _).2.1 (o + 1) (i + 1 - 1) ≠ 0; rw [show i + 1 - 1 = i by omega, uA_on]; omega) (by rw [uF_on]; omega) (by rw [uF_on]; omega) (fun q1 q2 q3 => by have e1 := hv1 q1 q2; rcases (by omega : i = 0 ∨ 1 ≤ i) with q | q; refine ⟨?_, fun _ => ?_⟩; show (uA S10 (o + 1) i _).2.1 (o + 1) 0 = v; rw [q, uA_on]; omega; rw [uF_on]; omega; exfalso; omega) hW hL (lv_sub hl [0, 1, 2, 3] rfl)
  have lk_28 : (uF S o 1 0).1 o 1 = 0 := uF_on
  exact loop_10 (_ + 1) (uF S o 1 0) 0 v _ _ _ (Nat.lt_succ_self _) i_3 F_2 Fr.rf (by omega) (by omega) (by rw [uF_on]; omega) (by rw [uF_on]; intro q; omega) (by omega) (by rw [uF_on]; omega) (fun _ _ q => absurd q (by omega)) hW hL (lv_sub hl [0, 1, 2, 3] rfl)

set_option maxRecDepth 100000 in
set_option maxHeartbeats 4000000 in
theorem s_X0_turn (l : Launch) (G : sG) (S : sS) {o : Nat} (hI : cX G S 0 0 0) (ho : tau o = .inl 0) : Met l yX0_turn (.code yX0_turn cX0_turn 1 none :: tb) (rmk 1 0 0) (sPc G 294 S [.ref (G.2.2.1 + o)]) (sQv G 294 (fun u => cX G u 0 0 0 ∧ Fr S u (pB o) ∧ (u.1 o 1 = S.1 o 1 ∧ u.1 o 2 = -S.1 o 2 ∧ u.2 = S.2))) 0 0 (sF G) := by
  refine sEnter (by decide) (Nat.le_of_ble_eq_true rfl) ?_
  intro p e s m args below meth c Cx hr hlk hnm hW ls hl
  have Cx : sC G p m c cX0_turn 1 s args RX0 := Cx
  obtain ⟨hx, hb, hml, hown, hts⟩ := id Cx.1
  have hL : sL G [] := sL_nil
  have hl : lv_has ls 1 [(0, .ref (G.2.2.1 + o))] := hl
  have hW0 := hW
  refine lv_aload_n hx hb dX0_turn_0 rfl (lv_at hl 0 rfl) ?_
  refine lv_aload_n hx hb dX0_turn_1 rfl (lv_at hl 0 rfl) ?_
  have q_1 : (-1) ≤ S.1 o 2 ∧ S.1 o 2 ≤ 1 := hI.fi o 2 0 (big_lt ho) ho
  refine g_X0_34 Cx hW (k := o) (big_l ho) ho (v := S.1 o 2) rfl dX0_turn_2 ?_
  refine r_ineg hx hb dX0_turn_5 ?_
  refine p_X0_34 Cx hW hL (k := o) (big_l ho) ho dX0_turn_6 (fun H locs hW hL => ?_)
  have F_2 : Fr S (uF S o 2 (-(S.1 o 2))) (pB o) := (Fr.rf : Fr S S (pB o)).F pB_0
  have i_3 : cX G (uF S o 2 (-(S.1 o 2))) 0 0 0 := hI.F ho rfl (show (-1) ≤ -(S.1 o 2) ∧ -(S.1 o 2) ≤ 1 from ⟨by omega, by omega⟩)
  have q_4 : 0 ≤ S.1 o 1 ∧ S.1 o 1 ≤ 32 := hI.fi o 1 0 (big_lt ho) ho
  have lk_5 : (uF S o 2 (-(S.1 o 2))).1 o 1 = S.1 o 1 := uF_ne (fun h => absurd h.2 (by decide))
  have lk_6 : (uF S o 2 (-(S.1 o 2))).1 o 2 = -(S.1 o 2) := uF_on
  exact sVret Cx hr hlk hW hL ⟨i_3, F_2, ⟨uF_i (by decide), uF_on, rfl⟩⟩ dX0_turn_9

set_option maxRecDepth 100000 in
set_option maxHeartbeats 4000000 in
theorem s_X0_trim (l : Launch) (G : sG) (S : sS) {o : Nat} (hI : cX G S o 0 0) (ho : tau o = .inl 0) : Met l yX0_trim (.code yX0_trim cX0_trim 1 none :: tb) (rmk 1 0 0) (sPc G 294 S [.ref (G.2.2.1 + o)]) (sQv G 294 (fun u => cX G u 0 0 0 ∧ Fr S u (pB o) ∧ (u.1 o 1 ≤ S.1 o 1 ∧ (u.1 o 2 = S.1 o 2 ∨ u.1 o 2 = 0) ∧ u.2 = S.2 ∧ (S.2.1 (o + 1) (S.1 o 1 - 1) ≠ 0 → u.1 o 1 = S.1 o 1) ∧ (u.1 o 2 ≠ S.1 o 2 → u.1 o 1 = 0) ∧ (u.1 o 1 = 0 → u.1 o 2 = 0) ∧ ∀ j, u.1 o 1 ≤ j → j < S.1 o 1 → S.2.1 (o + 1) j = 0))) 0 0 (sF G) := by
  refine sEnter (by decide) (Nat.le_of_ble_eq_true rfl) ?_
  intro p e s m args below meth c Cx hr hlk hnm hW ls hl
  have Cx : sC G p m c cX0_trim 1 s args RX0 := Cx
  obtain ⟨hx, hb, hml, hown, hts⟩ := id Cx.1
  have hL : sL G [] := sL_nil
  have hl : lv_has ls 1 [(0, .ref (G.2.2.1 + o))] := hl
  have hW0 := hW
  have loop_0 : ∀ (fuel : Nat) (S0 : sS)  (H : Heap) (locs : List Loc) (ls : Array Slot), (S0.1 o 1).toNat < fuel → (cX G S0 o 0 0) → (Fr S S0 (pB o)) → (Fr S S0 (pB o)) → (S0.1 o 1 ≤ S.1 o 1) → (S0.1 o 2 = S.1 o 2) → (S0.2 = S.2) → (S.2.1 (o + 1) (S.1 o 1 - 1) ≠ 0 → S0.1 o 1 = S.1 o 1) → (∀ j, S0.1 o 1 ≤ j → j < S.1 o 1 → S.2.1 (o + 1) j = 0) → sW G 294 S0 H → sL G locs → lv_has ls 1 [(0, .ref (G.2.2.1 + o))] → W p l e (rmk 1 0 0) s m args below meth c H locs 0 0 (MQ below (sQv G 294 (fun u => cX G u 0 0 0 ∧ Fr S u (pB o) ∧ (u.1 o 1 ≤ S.1 o 1 ∧ (u.1 o 2 = S.1 o 2 ∨ u.1 o 2 = 0) ∧ u.2 = S.2 ∧ (S.2.1 (o + 1) (S.1 o 1 - 1) ≠ 0 → u.1 o 1 = S.1 o 1) ∧ (u.1 o 2 ≠ S.1 o 2 → u.1 o 1 = 0) ∧ (u.1 o 1 = 0 → u.1 o 2 = 0) ∧ ∀ j, u.1 o 1 ≤ j → j < S.1 o 1 → S.2.1 (o + 1) j = 0))) args s 0 0 (sF G)) (F0 m 0 ls []) := by
    intro fuel
    induction fuel with
    | zero => intro S0  H locs ls hmeas hI0 hFm0 hL0_ hc hs h2 ht hz hW hL hl; exact absurd hmeas (Nat.not_lt_zero _)
    | succ fuel ih_0 =>
      intro S0  H locs ls hmeas hI0 hFm0 hL0_ hc hs h2 ht hz hW hL hl
      refine lv_aload_n hx hb dX0_trim_0 rfl (lv_at hl 0 rfl) ?_
      have q_1 : 0 ≤ S0.1 o 1 ∧ S0.1 o 1 ≤ 32 := hI0.fi o 1 0 (big_lt ho) ho
      refine g_X0_24 Cx hW (k := o) (big_l ho) ho (v := S0.1 o 1) rfl dX0_trim_1 ?_
      refine r_if_le (tgt := 34) hx hb ⟨(by omega), (by omega)⟩ dX0_trim_4 (by decide) (fun c_2 => ?_) (fun c_2 => ?_)
      · refine lv_aload_n hx hb dX0_trim_34 rfl (lv_at hl 0 rfl) ?_
        refine g_X0_24 Cx hW (k := o) (big_l ho) ho (v := S0.1 o 1) rfl dX0_trim_35 ?_
        refine r_if_ne (tgt := 46) hx hb ⟨(by omega), (by omega)⟩ dX0_trim_38 (by decide) (fun c_3 => ?_) (fun c_3 => ?_)
        · have j_4 : cX G S0 0 0 0 := hI0.inB ho (fun q => by first | omega | assumption)
          exact sVret Cx hr hlk hW hL ⟨j_4, hFm0, hc, Or.inl hs, h2, ht, fun q => absurd hs q, fun q => by omega, hz⟩ dX0_trim_46
        · refine lv_aload_n hx hb dX0_trim_41 rfl (lv_at hl 0 rfl) ?_
          refine lv_iconst (v := iv 0) hx hb dX0_trim_42 (by decide) ?_
          refine p_X0_34 Cx hW hL (k := o) (big_l ho) ho dX0_trim_43 (fun H locs hW hL => ?_)
          have F_5 : Fr S (uF S0 o 2 0) (pB o) := hFm0.F pB_0
          have F_6 : Fr S (uF S0 o 2 0) (pB o) := hL0_.F pB_0
          have i_7 : cX G (uF S0 o 2 0) o 0 0 := hI0.F ho rfl (show (-1) ≤ 0 ∧ 0 ≤ 1 from ⟨by omega, by omega⟩)
          have j_8 : cX G (uF S0 o 2 0) 0 0 0 := i_7.inB ho (fun q => by rw [uF_i (by decide)] at q; first | omega | assumption)
          exact sVret Cx hr hlk hW hL ⟨j_8, F_5, by rw [uF_i (by decide)]; omega, Or.inr uF_on, h2, fun q => by rw [uF_i (by decide)]; exact ht q, fun _ => by rw [uF_i (by decide)]; omega, fun _ => uF_on, fun j j0 j1 => by rw [uF_i (by decide)] at j0; exact hz j j0 j1⟩ dX0_trim_46
      · refine lv_aload_n hx hb dX0_trim_7 rfl (lv_at hl 0 rfl) ?_
        refine g_X0_9 Cx hW (k := o) (big_l ho) ho (v := .ref (G.2.2.1 + (o + 1))) (hI0.rq.1 o ho) dX0_trim_8 ?_
        refine lv_aload_n hx hb dX0_trim_11 rfl (lv_at hl 0 rfl) ?_
        refine g_X0_24 Cx hW (k := o) (big_l ho) ho (v := S0.1 o 1) rfl dX0_trim_12 ?_
        refine lv_iconst (v := iv 1) hx hb dX0_trim_15 (by decide) ?_
        refine r_isub hx hb dX0_trim_16 ?_
        refine rIald Cx hW (k := o + 1) (big_l1 ho) (big_row ho).1 (by decide) (by omega) (by omega) dX0_trim_17 ?_
        have q_9 := limbR hI0 ho ((S0.1 o 1) - 1)
        refine r_i (b := S0.2.1 (o + 1) ((S0.1 o 1) - 1)) rfl ?_
        refine r_if_ne (tgt := 34) hx hb ⟨(by omega), (by omega)⟩ dX0_trim_18 (by decide) (fun c_10 => ?_) (fun c_10 => ?_)
        · refine lv_aload_n hx hb dX0_trim_34 rfl (lv_at hl 0 rfl) ?_
          refine g_X0_24 Cx hW (k := o) (big_l ho) ho (v := S0.1 o 1) rfl dX0_trim_35 ?_
          refine r_if_ne (tgt := 46) hx hb ⟨(by omega), (by omega)⟩ dX0_trim_38 (by decide) (fun c_11 => ?_) (fun c_11 => ?_)
          · have j_12 : cX G S0 0 0 0 := hI0.inB ho (fun q => by first | omega | assumption)
            exact sVret Cx hr hlk hW hL ⟨j_12, hFm0, hc, Or.inl hs, h2, ht, fun q => absurd hs q, fun q => by omega, hz⟩ dX0_trim_46
          · refine lv_aload_n hx hb dX0_trim_41 rfl (lv_at hl 0 rfl) ?_
            refine lv_iconst (v := iv 0) hx hb dX0_trim_42 (by decide) ?_
            refine p_X0_34 Cx hW hL (k := o) (big_l ho) ho dX0_trim_43 (fun H locs hW hL => ?_)
            have F_13 : Fr S (uF S0 o 2 0) (pB o) := hFm0.F pB_0
            have F_14 : Fr S (uF S0 o 2 0) (pB o) := hL0_.F pB_0
            have i_15 : cX G (uF S0 o 2 0) o 0 0 := hI0.F ho rfl (show (-1) ≤ 0 ∧ 0 ≤ 1 from ⟨by omega, by omega⟩)
            have j_16 : cX G (uF S0 o 2 0) 0 0 0 := i_15.inB ho (fun q => by rw [uF_i (by decide)] at q; first | omega | assumption)
            exact sVret Cx hr hlk hW hL ⟨j_16, F_13, by rw [uF_i (by decide)]; omega, Or.inr uF_on, h2, fun q => by rw [uF_i (by decide)]; exact ht q, fun _ => by rw [uF_i (by decide)]; omega, fun _ => uF_on, fun j j0 j1 => by rw [uF_i (by decide)] at j0; exact hz j j0 j1⟩ dX0_trim_46
        · refine lv_aload_n hx hb dX0_trim_21 rfl (lv_at hl 0 rfl) ?_
          refine lv_dup hx hb dX0_trim_22 rfl ?_
          refine g_X0_24 Cx hW (k := o) (big_l ho) ho (v := S0.1 o 1) rfl dX0_trim_23 ?_
          refine lv_iconst (v := iv 1) hx hb dX0_trim_26 (by decide) ?_
          refine r_isub hx hb dX0_trim_27 ?_
          refine p_X0_24 Cx hW hL (k := o) (big_l ho) ho dX0_trim_28 (fun H locs hW hL => ?_)
          have F_17 : Fr S (uF S0 o 1 ((S0.1 o 1) - 1)) (pB o) := hFm0.F pB_0
          have F_18 : Fr S (uF S0 o 1 ((S0.1 o 1) - 1)) (pB o) := hL0_.F pB_0
          have i_19 : cX G (uF S0 o 1 ((S0.1 o 1) - 1)) o 0 0 := hI0.cnt (exq_s ho) ho ⟨by omega, by omega⟩
          refine lv_goto (tgt := 0) hx hb dX0_trim_31 (by decide) ?_
          have lk_20 : (uF S0 o 1 ((S0.1 o 1) - 1)).1 o 1 = (S0.1 o 1) - 1 := uF_on
          have q_21 : (-1) ≤ S0.1 o 2 ∧ S0.1 o 2 ≤ 1 := hI0.fi o 2 0 (big_lt ho) ho
          have lk_22 : (uF S0 o 1 ((S0.1 o 1) - 1)).1 o 2 = S0.1 o 2 := uF_ne (fun h => absurd h.2 (by decide))
          exact ih_0 (uF S0 o 1 ((S0.1 o 1) - 1))  _ _ _ (by rw [uF_on]; omega) i_19 F_17 F_18 (by rw [uF_on]; omega) ((uF_i (by decide)).trans hs) h2 (fun q => absurd (by have e1 := ht q; rw [← h2, ← e1]; assumption) q) (fun j j0 j1 => by rw [uF_on] at j0; by_cases e : j = S0.1 o 1 - 1; rw [e, ← h2]; assumption; exact hz j (by omega) j1) hW hL (lv_sub hl [0] rfl)
  have q_23 : 0 ≤ S.1 o 1 ∧ S.1 o 1 ≤ 32 := hI.fi o 1 0 (big_lt ho) ho
  have q_24 : (-1) ≤ S.1 o 2 ∧ S.1 o 2 ≤ 1 := hI.fi o 2 0 (big_lt ho) ho
  exact loop_0 (_ + 1) S  _ _ _ (Nat.lt_succ_self _) hI (Fr.rf : Fr S S (pB o)) Fr.rf (Int.le_refl _) rfl rfl (fun _ => rfl) (fun j j0 j1 => absurd j1 (by omega)) hW hL (lv_sub hl [0] rfl)

set_option maxRecDepth 100000 in
set_option maxHeartbeats 4000000 in
theorem s_X0_copy (l : Launch) (G : sG) (S : sS) {o a : Nat} (hI : cX G S 0 0 0) (ho : tau o = .inl 0) (ha : tau a = .inl 0) : Met l yX0_copy (.code yX0_copy cX0_copy 2 none :: tb) (rmk 2 0 0) (sPc G 294 S [.ref (G.2.2.1 + o), .ref (G.2.2.1 + a)]) (sQv G 294 (fun u => cX G u 0 0 0 ∧ Fr S u (pB o) ∧ (u.1 o 1 = S.1 a 1 ∧ u.1 o 2 = S.1 a 2 ∧ ∀ j, 0 ≤ j → j < S.1 a 1 → u.2.1 (o + 1) j = S.2.1 (a + 1) j))) 0 0 (sF G) := by
  refine sEnter (by decide) (Nat.le_of_ble_eq_true rfl) ?_
  intro p e s m args below meth c Cx hr hlk hnm hW ls hl
  have Cx : sC G p m c cX0_copy 2 s args RX0 := Cx
  obtain ⟨hx, hb, hml, hown, hts⟩ := id Cx.1
  have hL : sL G [] := sL_nil
  have hl : lv_has ls 2 [(0, .ref (G.2.2.1 + o)), (1, .ref (G.2.2.1 + a))] := hl
  have hW0 := hW
  have j_1 := hI.exB o
  refine lv_aload_n hx hb dX0_copy_0 rfl (lv_at hl 1 rfl) ?_
  refine g_X0_9 Cx hW (k := a) (big_l ha) ha (v := .ref (G.2.2.1 + (a + 1))) (j_1.rq.1 a ha) dX0_copy_1 ?_
  refine lv_iconst (v := iv 0) hx hb dX0_copy_4 (by decide) ?_
  refine lv_aload_n hx hb dX0_copy_5 rfl (lv_at hl 0 rfl) ?_
  refine g_X0_9 Cx hW (k := o) (big_l ho) ho (v := .ref (G.2.2.1 + (o + 1))) (j_1.rq.1 o ho) dX0_copy_6 ?_
  refine lv_iconst (v := iv 0) hx hb dX0_copy_9 (by decide) ?_
  refine lv_aload_n hx hb dX0_copy_10 rfl (lv_at hl 1 rfl) ?_
  have q_2 : 0 ≤ S.1 a 1 ∧ S.1 a 1 ≤ 32 := j_1.fi a 1 0 (big_lt ha) ha
  refine g_X0_24 Cx hW (k := a) (big_l ha) ha (v := S.1 a 1) rfl dX0_copy_11 ?_
  refine rCopyI Cx hW hL (hml.trans hl.1.symm) w_1287 w_1089 w_1088 w_224 (k0 := a + 1) (k1 := o + 1) (big_l1 ha) (big_row ha).1 (big_l1 ho) (big_row ho).1 (by decide) (by decide) (by omega) (by omega) (by omega) (by omega) (by omega) (rmk_f (by omega)) (rmk_l (by omega) (by decide)) dX0_copy_14 (fun H locs hW hL => ?_)
  have F_3 : Fr S (uC S (a + 1) 0 (o + 1) 0 (S.1 a 1)) (pB o) := (Fr.rf : Fr S S (pB o)).C pB_1
  have i_4 : cX G (uC S (a + 1) 0 (o + 1) 0 (S.1 a 1)) o 0 0 := j_1.limbC (exq_s ho) ho ha
  refine lv_aload_n hx hb dX0_copy_17 rfl (lv_at hl 0 rfl) ?_
  refine lv_aload_n hx hb dX0_copy_18 rfl (lv_at hl 1 rfl) ?_
  refine g_X0_24 Cx hW (k := a) (big_l ha) ha (v := S.1 a 1) uC_f dX0_copy_19 ?_
  refine p_X0_24 Cx hW hL (k := o) (big_l ho) ho dX0_copy_22 (fun H locs hW hL => ?_)
  have F_5 : Fr S (uF (uC S (a + 1) 0 (o + 1) 0 (S.1 a 1)) o 1 (S.1 a 1)) (pB o) := F_3.F pB_0
  have i_6 : cX G (uF (uC S (a + 1) 0 (o + 1) 0 (S.1 a 1)) o 1 (S.1 a 1)) o 0 0 := i_4.cnt (exq_s ho) ho ⟨by omega, by omega⟩
  refine lv_aload_n hx hb dX0_copy_25 rfl (lv_at hl 0 rfl) ?_
  refine lv_aload_n hx hb dX0_copy_26 rfl (lv_at hl 1 rfl) ?_
  have q_7 : (-1) ≤ S.1 a 2 ∧ S.1 a 2 ≤ 1 := j_1.fi a 2 0 (big_lt ha) ha
  refine g_X0_34 Cx hW (k := a) (big_l ha) ha (v := S.1 a 2) ((uF_ne (fun h => absurd h.2 (by decide))).trans (uC_f)) dX0_copy_27 ?_
  refine p_X0_34 Cx hW hL (k := o) (big_l ho) ho dX0_copy_30 (fun H locs hW hL => ?_)
  have F_8 : Fr S (uF (uF (uC S (a + 1) 0 (o + 1) 0 (S.1 a 1)) o 1 (S.1 a 1)) o 2 (S.1 a 2)) (pB o) := F_5.F pB_0
  have i_9 : cX G (uF (uF (uC S (a + 1) 0 (o + 1) 0 (S.1 a 1)) o 1 (S.1 a 1)) o 2 (S.1 a 2)) o 0 0 := i_6.F ho rfl (show (-1) ≤ S.1 a 2 ∧ S.1 a 2 ≤ 1 from ⟨by omega, by omega⟩)
  have j_10 : cX G (uF (uF (uC S (a + 1) 0 (o + 1) 0 (S.1 a 1)) o 1 (S.1 a 1)) o 2 (S.1 a 2)) 0 0 0 := i_9.inB ho (by intro q; rw [uF_i (by decide), uF_on] at q ⊢; show (uC S (a + 1) 0 (o + 1) 0 (S.1 a 1)).2.1 (o + 1) (S.1 a 1 - 1) ≠ 0; rw [uC_get, if_pos ⟨rfl, by omega, by omega⟩, show (0 : Int) + (S.1 a 1 - 1 - 0) = S.1 a 1 - 1 by omega]; exact hI.nb a ha (exq0 ha) q)
  have lk_11 : (uF (uF (uC S (a + 1) 0 (o + 1) 0 (S.1 a 1)) o 1 (S.1 a 1)) o 2 (S.1 a 2)).1 o 1 = S.1 a 1 := (uF_ne (fun h => absurd h.2 (by decide))).trans (uF_on)
  have lk_12 : (uF (uF (uC S (a + 1) 0 (o + 1) 0 (S.1 a 1)) o 1 (S.1 a 1)) o 2 (S.1 a 2)).1 o 2 = S.1 a 2 := uF_on
  exact sVret Cx hr hlk hW hL ⟨j_10, F_8, ⟨(uF_i (by decide)).trans uF_on, uF_on, fun j j0 j1 => by show (uC S (a + 1) 0 (o + 1) 0 (S.1 a 1)).2.1 (o + 1) j = _; rw [uC_get, if_pos ⟨rfl, by omega, by omega⟩, show (0 : Int) + (j - 0) = j by omega]⟩⟩ dX0_copy_33

set_option maxRecDepth 100000 in
set_option maxHeartbeats 4000000 in
theorem s_X0_load (l : Launch) (G : sG) (S : sS) {o k N : Nat} {a : Int} (hI : cX G S 0 0 0) (ho : tau o = .inl 0) (hk : sla k N) (hat : a % 8 = 0 ∧ 0 ≤ a ∧ a + 7 < N) : Met l yX0_load (.code yX0_load cX0_load 5 none :: tb) (rmk 2 0 0) (sPc G 294 S [.ref (G.2.2.1 + o), .ref (G.2.2.1 + k), .int (iv a)]) (sQv G 294 (fun u => cX G u 0 0 0 ∧ Fr S u (pB o) ∧ (u.1 o 1 ≤ slotL k ∧ (u.1 o 1 = 7 → u.2.1 (o + 1) 6 ≤ slotT k) ∧ (0 ≤ S.2.1 k a → u.1 o 1 = S.2.1 k a) ∧ (S.2.1 k a ≤ 0 → u.1 o 1 = -S.2.1 k a) ∧ (0 < S.2.1 k a → u.1 o 2 = 1) ∧ (S.2.1 k a < 0 → u.1 o 2 = -1) ∧ (S.2.1 k a = 0 → u.1 o 2 = 0)))) 0 0 (sF G) := by
  refine sEnter (by decide) (Nat.le_of_ble_eq_true rfl) ?_
  intro p e s m args below meth c Cx hr hlk hnm hW ls hl
  have Cx : sC G p m c cX0_load 5 s args RX0 := Cx
  obtain ⟨hx, hb, hml, hown, hts⟩ := id Cx.1
  have hL : sL G [] := sL_nil
  have hl : lv_has ls 5 [(0, .ref (G.2.2.1 + o)), (1, .ref (G.2.2.1 + k)), (2, .int (iv a))] := hl
  have hW0 := hW
  have hss : SlotOK (S.2.1 k) a (slotL k) (slotT k) := hI.sl (by omega) (by omega) (by rw [hk.2.2.2.2.1]; omega)
  have hL7 := slotL7 k
  have hh := hss.1
  have hN5 := hk.2.2.1
  have j_1 := hI.exB o
  refine lv_aload_n hx hb dX0_load_0 rfl (lv_at hl 1 rfl) ?_
  refine lv_iload_n hx hb dX0_load_1 rfl (lv_at hl 2 rfl) ?_
  refine rIald Cx hW (k := k) (Nat.lt_trans hk.1 (by decide)) hk.2.1 (by omega) (by omega) (by omega) dX0_load_2 ?_
  have q_2 : (-2147483648) ≤ S.2.1 k a ∧ S.2.1 k a ≤ 2147483647 := sla_r hk j_1 a 
  refine r_i (b := S.2.1 k a) rfl ?_
  refine lv_istore_n (lv' := [(3, .int (iv (S.2.1 k a))), (0, .ref (G.2.2.1 + o)), (1, .ref (G.2.2.1 + k)), (2, .int (iv a))]) hx hb dX0_load_3 rfl hl (by decide) rfl (fun ls hl => ?_)
  refine lv_aload_n hx hb dX0_load_4 rfl (lv_at hl 1 rfl) ?_
  refine lv_iload_n hx hb dX0_load_5 rfl (lv_at hl 0 rfl) ?_
  refine sBi (sSt (As := [.int (iv (S.2.1 k a))]) (rest := [.ref (G.2.2.1 + o)]) Cx (t_J6_signum_0f7a4 l G S (a := S.2.1 k a) (by omega)) (c_X0_43 Cx rfl rfl (rmk_ok (by omega) (by decide))) hW rfl hl.1 rfl (Nat.le_of_ble_eq_true rfl) dX0_load_6 ⟨Nat.le_of_ble_eq_true rfl, Nat.le_of_ble_eq_true rfl⟩) hL (fun r_5 u_3 H locs k_4 hW hL => ?_)
  obtain ⟨eu_3, xu_3⟩ := k_4
  rw [eu_3] at hW
  have yu_3 : ((S.2.1 k a) < 0 → r_5 = -1) ∧ ((S.2.1 k a) = 0 → r_5 = 0) ∧ (0 < (S.2.1 k a) → r_5 = 1) := sgn3 xu_3
  clear xu_3
  refine p_X0_34 Cx hW hL (k := o) (big_l ho) ho dX0_load_9 (fun H locs hW hL => ?_)
  have F_6 : Fr S (uF S o 2 r_5) (pB o) := (Fr.rf : Fr S S (pB o)).F pB_0
  have i_7 : cX G (uF S o 2 r_5) o 0 0 := j_1.F ho rfl (show (-1) ≤ r_5 ∧ r_5 ≤ 1 from ⟨by omega, by omega⟩)
  refine lv_aload_n hx hb dX0_load_12 rfl (lv_at hl 1 rfl) ?_
  refine lv_iload_n hx hb dX0_load_13 rfl (lv_at hl 0 rfl) ?_
  refine r_abs hx hb (hml.trans hl.1.symm) hown (hts _ w_1155) (hts _ w_1156) (hts _ w_206) (hts _ w_1157) (rmk_f (by omega)) (rmk_l (by omega) (Nat.le_of_ble_eq_true rfl)) (Nat.le_of_ble_eq_true rfl) (Nat.le_of_ble_eq_true rfl) ⟨(by omega), (by omega)⟩ dX0_load_14 (fun z_8 hz_8 => ?_)
  refine lv_bipush (v := iv 7) hx hb dX0_load_17 (by decide) ?_
  refine r_min hx hb (hml.trans hl.1.symm) hown (hts _ w_1158) (hts _ w_777) (hts _ w_206) (hts _ w_778) (rmk_f (by omega)) (rmk_l (by omega) (Nat.le_of_ble_eq_true rfl)) (Nat.le_of_ble_eq_true rfl) (Nat.le_of_ble_eq_true rfl) ⟨(by omega), (by omega)⟩ ⟨(by omega), (by omega)⟩ dX0_load_19 (fun z_9 hz_9 => ?_)
  refine p_X0_24 Cx hW hL (k := o) (big_l ho) ho dX0_load_22 (fun H locs hW hL => ?_)
  have F_10 : Fr S (uF (uF S o 2 r_5) o 1 z_9) (pB o) := F_6.F pB_0
  have i_11 : cX G (uF (uF S o 2 r_5) o 1 z_9) o 0 0 := i_7.cnt (exq_s ho) ho ⟨by omega, by omega⟩
  refine lv_iconst (v := iv 0) hx hb dX0_load_25 (by decide) ?_
  refine lv_istore (lv' := [(4, .int (iv 0)), (3, .int (iv (S.2.1 k a))), (0, .ref (G.2.2.1 + o)), (1, .ref (G.2.2.1 + k)), (2, .int (iv a))]) hx hb dX0_load_26 hl (by decide) rfl (fun ls hl => ?_)
  have loop_28 : ∀ (fuel : Nat) (S28 : sS) (i : Int) (H : Heap) (locs : List Loc) (ls : Array Slot), (S28.1 o 1 - i).toNat < fuel → (cX G S28 o 0 0) → (Fr S S28 (pB o)) → (Fr ((uF (uF S o 2 r_5) o 1 z_9)) S28 (pB o)) → (0 ≤ i ∧ i ≤ S28.1 o 1) → ((0 ≤ S.2.1 k a → S28.1 o 1 = S.2.1 k a) ∧ (S.2.1 k a ≤ 0 → S28.1 o 1 = -S.2.1 k a)) → ((0 < S.2.1 k a → S28.1 o 2 = 1) ∧ (S.2.1 k a < 0 → S28.1 o 2 = -1) ∧ (S.2.1 k a = 0 → S28.1 o 2 = 0)) → (∀ j, 0 ≤ j → j < i → S28.2.1 (o + 1) j = S.2.1 k (a + 1 + j)) → sW G 294 S28 H → sL G locs → lv_has ls 5 [(4, .int (iv i)), (3, .int (iv (S.2.1 k a))), (0, .ref (G.2.2.1 + o)), (1, .ref (G.2.2.1 + k)), (2, .int (iv a))] → W p l e (rmk 2 0 0) s m args below meth c H locs 0 0 (MQ below (sQv G 294 (fun u => cX G u 0 0 0 ∧ Fr S u (pB o) ∧ (u.1 o 1 ≤ slotL k ∧ (u.1 o 1 = 7 → u.2.1 (o + 1) 6 ≤ slotT k) ∧ (0 ≤ S.2.1 k a → u.1 o 1 = S.2.1 k a) ∧ (S.2.1 k a ≤ 0 → u.1 o 1 = -S.2.1 k a) ∧ (0 < S.2.1 k a → u.1 o 2 = 1) ∧ (S.2.1 k a < 0 → u.1 o 2 = -1) ∧ (S.2.1 k a = 0 → u.1 o 2 = 0)))) args s 0 0 (sF G)) (F0 m 28 ls []) := by
    intro fuel
    induction fuel with
    | zero => intro S28 i H locs ls hmeas hI28 hFm28 hL28_ hi hc hsg hm hW hL hl; exact absurd hmeas (Nat.not_lt_zero _)
    | succ fuel ih_28 =>
      intro S28 i H locs ls hmeas hI28 hFm28 hL28_ hi hc hsg hm hW hL hl
      refine lv_iload hx hb dX0_load_28 (lv_at hl 0 rfl) ?_
      refine lv_aload_n hx hb dX0_load_30 rfl (lv_at hl 2 rfl) ?_
      have q_12 : 0 ≤ S28.1 o 1 ∧ S28.1 o 1 ≤ 32 := hI28.fi o 1 0 (big_lt ho) ho
      refine g_X0_24 Cx hW (k := o) (big_l ho) ho (v := S28.1 o 1) rfl dX0_load_31 ?_
      refine r_icmp_ge (tgt := 58) hx hb ⟨(by omega), (by omega)⟩ ⟨(by omega), (by omega)⟩ dX0_load_34 (by decide) (fun c_13 => ?_) (fun c_13 => ?_)
      · have j_14 : cX G S28 0 0 0 := hI28.inB ho (fun q => by rw [hm _ (by omega) (by omega), show a + 1 + (S28.1 o 1 - 1) = a + S28.1 o 1 by omega]; exact slot_top hss hc q)
        have q_15 : (-1) ≤ S28.1 o 2 ∧ S28.1 o 2 ≤ 1 := j_14.fi o 2 0 (big_lt ho) ho
        exact sVret Cx hr hlk hW hL ⟨j_14, hFm28, ⟨by omega, fun q => by rw [hm 6 (by omega) (by omega), show a + 1 + 6 = a + 7 by omega]; exact hss.2.2.2.2 (by omega), hc.1, hc.2, hsg.1, hsg.2.1, hsg.2.2⟩⟩ dX0_load_58
      · refine lv_aload_n hx hb dX0_load_37 rfl (lv_at hl 2 rfl) ?_
        refine g_X0_9 Cx hW (k := o) (big_l ho) ho (v := .ref (G.2.2.1 + (o + 1))) (hI28.rq.1 o ho) dX0_load_38 ?_
        refine lv_iload hx hb dX0_load_41 (lv_at hl 0 rfl) ?_
        refine lv_aload_n hx hb dX0_load_43 rfl (lv_at hl 3 rfl) ?_
        refine lv_iload_n hx hb dX0_load_44 rfl (lv_at hl 4 rfl) ?_
        refine lv_iconst (v := iv 1) hx hb dX0_load_45 (by decide) ?_
        refine r_iadd hx hb dX0_load_46 ?_
        refine lv_iload hx hb dX0_load_47 (lv_at hl 0 rfl) ?_
        refine r_iadd hx hb dX0_load_49 ?_
        refine rIald Cx hW (k := k) (Nat.lt_trans hk.1 (by decide)) hk.2.1 (by omega) (by omega) (by omega) dX0_load_50 ?_
        have q_16 : (-2147483648) ≤ S.2.1 k ((a + 1) + i) ∧ S.2.1 k ((a + 1) + i) ≤ 2147483647 := sla_r hk j_1 ((a + 1) + i) 
        refine r_i (b := S.2.1 k ((a + 1) + i)) (((hL28_ k (pB_no (tau_ne hk.2.1 ho (fun h => by cases h)) (ac_ne hk.2.2.2.1 (big_row ho).2.1 (by decide)))).2.1 ((a + 1) + i)).trans ((uF_a).trans (uF_a))) ?_
        refine rIast Cx hW hL (k := o + 1) (big_l1 ho) (big_row ho).1 (by decide) (by have := hss.2.1 (a + 1 + i) (by omega) (by omega); omega) (by have := hss.2.1 (a + 1 + i) (by omega) (by omega); omega) dX0_load_51 (fun H locs hW hL => ?_)
        have F_17 : Fr S (uA S28 (o + 1) i (S.2.1 k ((a + 1) + i))) (pB o) := hFm28.A pB_1
        have F_18 : Fr ((uF (uF S o 2 r_5) o 1 z_9)) (uA S28 (o + 1) i (S.2.1 k ((a + 1) + i))) (pB o) := hL28_.A pB_1
        have i_19 : cX G (uA S28 (o + 1) i (S.2.1 k ((a + 1) + i))) o 0 0 := hI28.limb (Or.inl (exq_s ho)) ho ⟨(by have := hss.2.1 (a + 1 + i) (by omega) (by omega); omega), (by have := hss.2.1 (a + 1 + i) (by omega) (by omega); omega)⟩
        refine lv_iinc (v := iv (i + 1)) (lv' := [(4, .int (iv (i + 1))), (3, .int (iv (S.2.1 k a))), (0, .ref (G.2.2.1 + o)), (1, .ref (G.2.2.1 + k)), (2, .int (iv a))]) hx hb dX0_load_52 hl (k := 0) rfl ((Int32.ofInt_add _ _).symm) (by decide) rfl (fun ls hl => ?_)
        refine lv_goto (tgt := 28) hx hb dX0_load_55 (by decide) ?_
        have lk_20 : (uA S28 (o + 1) i (S.2.1 k ((a + 1) + i))).1 o 1 = S28.1 o 1 := uA_f
        have q_21 : (-1) ≤ S28.1 o 2 ∧ S28.1 o 2 ≤ 1 := hI28.fi o 2 0 (big_lt ho) ho
        have lk_22 : (uA S28 (o + 1) i (S.2.1 k ((a + 1) + i))).1 o 2 = S28.1 o 2 := uA_f
        exact ih_28 (uA S28 (o + 1) i (S.2.1 k ((a + 1) + i))) (i + 1) _ _ _ (show (S28.1 o 1 - (i + 1)).toNat < fuel by omega) i_19 F_17 F_18 (show 0 ≤ i + 1 ∧ i + 1 ≤ S28.1 o 1 by omega) hc hsg (fun j j0 j1 => by rw [uA_get]; split; rename_i q; rw [q.2]; rename_i q; exact hm j j0 (by omega)) hW hL (lv_sub hl [0, 1, 2, 3, 4] rfl)
  have lk_23 : (uF (uF S o 2 r_5) o 1 z_9).1 o 1 = z_9 := uF_on
  have lk_24 : (uF (uF S o 2 r_5) o 1 z_9).1 o 2 = r_5 := (uF_ne (fun h => absurd h.2 (by decide))).trans (uF_on)
  exact loop_28 (_ + 1) (uF (uF S o 2 r_5) o 1 z_9) 0 _ _ _ (Nat.lt_succ_self _) i_11 F_10 Fr.rf (by rw [uF_on]; omega) (by rw [uF_on]; omega) (by rw [uF_i (by decide), uF_on]; omega) (fun j j0 j1 => absurd j1 (by omega)) hW hL (lv_sub hl [0, 1, 2, 3, 4] rfl)

set_option maxRecDepth 100000 in
set_option maxHeartbeats 4000000 in
theorem s_X0_save (l : Launch) (G : sG) (S : sS) {o k N : Nat} {a : Int} (hI : cX G S 0 0 0) (ho : tau o = .inl 0) (hk : sla k N) (hat : a % 8 = 0 ∧ 0 ≤ a ∧ a + 7 < N) (hcn : S.1 o 1 ≤ slotL k ∧ (S.1 o 1 = 7 → S.2.1 (o + 1) 6 ≤ slotT k)) (hd0 : Hd (dc k → a = 0 → 0 ≤ S.1 o 2)) : Met l yX0_save (.code yX0_save cX0_save 5 none :: tb) (rmk 2 0 0) (sPc G 294 S [.ref (G.2.2.1 + o), .ref (G.2.2.1 + k), .int (iv a)]) (sQv G 294 (fun u => cX G u 0 0 0 ∧ Fr S u (p1 k))) 0 0 (sF G) := by
  refine sEnter (by decide) (Nat.le_of_ble_eq_true rfl) ?_
  intro p e s m args below meth c Cx hr hlk hnm hW ls hl
  have Cx : sC G p m c cX0_save 5 s args RX0 := Cx
  obtain ⟨hx, hb, hml, hown, hts⟩ := id Cx.1
  have hL : sL G [] := sL_nil
  have hl : lv_has ls 5 [(0, .ref (G.2.2.1 + o)), (1, .ref (G.2.2.1 + k)), (2, .int (iv a))] := hl
  have hW0 := hW
  have hss : SlotOK (S.2.1 k) a (slotL k) (slotT k) := hI.sl (by omega) (by omega) (by rw [hk.2.2.2.2.1]; omega)
  have hL7 := slotL7 k
  have hh := hss.1
  have hN5 := hk.2.2.1
  have hnb := nbH hI ho
  have j_1 := hI.exS k a
  refine lv_aload_n hx hb dX0_save_0 rfl (lv_at hl 0 rfl) ?_
  have q_2 : 0 ≤ S.1 o 1 ∧ S.1 o 1 ≤ 32 := j_1.fi o 1 0 (big_lt ho) ho
  refine g_X0_24 Cx hW (k := o) (big_l ho) ho (v := S.1 o 1) rfl dX0_save_1 ?_
  refine lv_bipush (v := iv 7) hx hb dX0_save_4 (by decide) ?_
  refine r_min hx hb (hml.trans hl.1.symm) hown (hts _ w_1158) (hts _ w_777) (hts _ w_206) (hts _ w_778) (rmk_f (by omega)) (rmk_l (by omega) (Nat.le_of_ble_eq_true rfl)) (Nat.le_of_ble_eq_true rfl) (Nat.le_of_ble_eq_true rfl) ⟨(by omega), (by omega)⟩ ⟨(by omega), (by omega)⟩ dX0_save_6 (fun z_3 hz_3 => ?_)
  refine lv_istore_n (lv' := [(3, .int (iv z_3)), (0, .ref (G.2.2.1 + o)), (1, .ref (G.2.2.1 + k)), (2, .int (iv a))]) hx hb dX0_save_9 rfl hl (by decide) rfl (fun ls hl => ?_)
  refine lv_aload_n hx hb dX0_save_10 rfl (lv_at hl 2 rfl) ?_
  refine lv_iload_n hx hb dX0_save_11 rfl (lv_at hl 3 rfl) ?_
  refine lv_aload_n hx hb dX0_save_12 rfl (lv_at hl 1 rfl) ?_
  have q_4 : (-1) ≤ S.1 o 2 ∧ S.1 o 2 ≤ 1 := j_1.fi o 2 0 (big_lt ho) ho
  refine g_X0_34 Cx hW (k := o) (big_l ho) ho (v := S.1 o 2) rfl dX0_save_13 ?_
  refine r_if_ge (tgt := 24) hx hb ⟨(by omega), (by omega)⟩ dX0_save_16 (by decide) (fun c_5 => ?_) (fun c_5 => ?_)
  · refine lv_iload_n hx hb dX0_save_24 rfl (lv_at hl 0 rfl) ?_
    refine rIast Cx hW hL (k := k) (Nat.lt_trans hk.1 (by decide)) hk.2.1 (by omega) (by omega) (by omega) dX0_save_25 (fun H locs hW hL => ?_)
    have F_6 : Fr S (uA S k a z_3) (p1 k) := (Fr.rf : Fr S S (p1 k)).A p1_0
    have i_7 : cX G (uA S k a z_3) 0 k a := j_1.slot hk.2.2.2.1 ⟨by omega, by omega, by omega⟩ ⟨(by omega), (by omega)⟩ (fun q1 q2 => by have := hd0 q1 (by omega); omega)
    refine lv_iconst (v := iv 0) hx hb dX0_save_26 (by decide) ?_
    refine lv_istore (lv' := [(4, .int (iv 0)), (3, .int (iv z_3)), (0, .ref (G.2.2.1 + o)), (1, .ref (G.2.2.1 + k)), (2, .int (iv a))]) hx hb dX0_save_27 hl (by decide) rfl (fun ls hl => ?_)
    have loop_29 : ∀ (fuel : Nat) (S29 : sS) (i : Int) (H : Heap) (locs : List Loc) (ls : Array Slot), (S.1 o 1 - i).toNat < fuel → (cX G S29 0 k a) → (Fr S S29 (p1 k)) → (Fr ((uA S k a z_3)) S29 (p1 k)) → (0 ≤ i ∧ i ≤ S.1 o 1) → (S29.2.1 k a = S.1 o 1 ∨ S29.2.1 k a = -S.1 o 1) → (∀ i, a < i → i < a + 8 → 0 ≤ S29.2.1 k i ∧ S29.2.1 k i ≤ 999999999) → (∀ j, 0 ≤ j → j < i → S29.2.1 k (a + 1 + j) = S.2.1 (o + 1) j) → sW G 294 S29 H → sL G locs → lv_has ls 5 [(4, .int (iv i)), (3, .int (iv z_3)), (0, .ref (G.2.2.1 + o)), (1, .ref (G.2.2.1 + k)), (2, .int (iv a))] → W p l e (rmk 2 0 0) s m args below meth c H locs 0 0 (MQ below (sQv G 294 (fun u => cX G u 0 0 0 ∧ Fr S u (p1 k))) args s 0 0 (sF G)) (F0 m 29 ls []) := by
      intro fuel
      induction fuel with
      | zero => intro S29 i H locs ls hmeas hI29 hFm29 hL29_ hi hh2 hrr hm hW hL hl; exact absurd hmeas (Nat.not_lt_zero _)
      | succ fuel ih_29 =>
        intro S29 i H locs ls hmeas hI29 hFm29 hL29_ hi hh2 hrr hm hW hL hl
        refine lv_iload hx hb dX0_save_29 (lv_at hl 0 rfl) ?_
        refine lv_iload_n hx hb dX0_save_31 rfl (lv_at hl 1 rfl) ?_
        refine r_icmp_ge (tgt := 56) hx hb ⟨(by omega), (by omega)⟩ ⟨(by omega), (by omega)⟩ dX0_save_32 (by decide) (fun c_8 => ?_) (fun c_8 => ?_)
        · have j_9 : cX G S29 0 0 0 := hI29.inS (fun _ => slot_mk (c := S.1 o 1) hh2 (by omega) hrr (fun q => by rw [show a + S.1 o 1 = a + 1 + (S.1 o 1 - 1) by omega, hm _ (by omega) (by omega)]; exact hnb q) (fun q => by rw [show a + 7 = a + 1 + 6 by omega, hm 6 (by omega) (by omega)]; exact hcn.2 q))
          exact sVret Cx hr hlk hW hL ⟨j_9, hFm29⟩ dX0_save_56
        · refine lv_aload_n hx hb dX0_save_35 rfl (lv_at hl 3 rfl) ?_
          refine lv_iload_n hx hb dX0_save_36 rfl (lv_at hl 4 rfl) ?_
          refine lv_iconst (v := iv 1) hx hb dX0_save_37 (by decide) ?_
          refine r_iadd hx hb dX0_save_38 ?_
          refine lv_iload hx hb dX0_save_39 (lv_at hl 0 rfl) ?_
          refine r_iadd hx hb dX0_save_41 ?_
          refine lv_aload_n hx hb dX0_save_42 rfl (lv_at hl 2 rfl) ?_
          refine g_X0_9 Cx hW (k := o) (big_l ho) ho (v := .ref (G.2.2.1 + (o + 1))) (hI29.rq.1 o ho) dX0_save_43 ?_
          refine lv_iload hx hb dX0_save_46 (lv_at hl 0 rfl) ?_
          refine rIald Cx hW (k := o + 1) (big_l1 ho) (big_row ho).1 (by decide) (by omega) (by omega) dX0_save_48 ?_
          have q_10 := limbR j_1 ho i
          refine r_i (b := S.2.1 (o + 1) i) (((hL29_ (o + 1) (p1_no (ac_ne (big_row ho).2.1 hk.2.2.2.1 (by decide)))).2.1 i).trans (uA_ne (fun h => absurd h.1 (ac_ne (big_row ho).2.1 hk.2.2.2.1 (by decide))))) ?_
          refine rIast Cx hW hL (k := k) (Nat.lt_trans hk.1 (by decide)) hk.2.1 (by omega) (by omega) (by omega) dX0_save_49 (fun H locs hW hL => ?_)
          have F_11 : Fr S (uA S29 k ((a + 1) + i) (S.2.1 (o + 1) i)) (p1 k) := hFm29.A p1_0
          have F_12 : Fr ((uA S k a z_3)) (uA S29 k ((a + 1) + i) (S.2.1 (o + 1) i)) (p1 k) := hL29_.A p1_0
          have i_13 : cX G (uA S29 k ((a + 1) + i) (S.2.1 (o + 1) i)) 0 k a := hI29.slot hk.2.2.2.1 ⟨by omega, by omega, by omega⟩ ⟨(by omega), (by omega)⟩ (fun _ q => by omega)
          refine lv_iinc (v := iv (i + 1)) (lv' := [(4, .int (iv (i + 1))), (3, .int (iv z_3)), (0, .ref (G.2.2.1 + o)), (1, .ref (G.2.2.1 + k)), (2, .int (iv a))]) hx hb dX0_save_50 hl (k := 0) rfl ((Int32.ofInt_add _ _).symm) (by decide) rfl (fun ls hl => ?_)
          refine lv_goto (tgt := 29) hx hb dX0_save_53 (by decide) ?_
          exact ih_29 (uA S29 k ((a + 1) + i) (S.2.1 (o + 1) i)) (i + 1) _ _ _ (by omega) i_13 F_11 F_12 (by omega) (by rw [uA_ne (by omega)]; exact hh2) (fun j j0 j1 => by rw [uA_get]; split; exact ⟨by omega, by omega⟩; exact hrr j j0 j1) (fun j j0 j1 => by rw [uA_get]; split; rename_i q; rw [show j = i by omega]; rename_i q; exact hm j j0 (by omega)) hW hL (lv_sub hl [0, 1, 2, 3, 4] rfl)
    exact loop_29 (_ + 1) (uA S k a z_3) 0 _ _ _ (Nat.lt_succ_self _) i_7 F_6 Fr.rf (by omega) (by rw [uA_on]; omega) (fun j j0 j1 => by rw [uA_ne (by omega)]; exact hss.2.1 j j0 j1) (fun j j0 j1 => absurd j1 (by omega)) hW hL (lv_sub hl [0, 1, 2, 3, 4] rfl)
  · refine lv_iload_n hx hb dX0_save_19 rfl (lv_at hl 0 rfl) ?_
    refine r_ineg hx hb dX0_save_20 ?_
    refine lv_goto (tgt := 25) hx hb dX0_save_21 (by decide) ?_
    refine rIast Cx hW hL (k := k) (Nat.lt_trans hk.1 (by decide)) hk.2.1 (by omega) (by omega) (by omega) dX0_save_25 (fun H locs hW hL => ?_)
    have F_14 : Fr S (uA S k a (-z_3)) (p1 k) := (Fr.rf : Fr S S (p1 k)).A p1_0
    have i_15 : cX G (uA S k a (-z_3)) 0 k a := j_1.slot hk.2.2.2.1 ⟨by omega, by omega, by omega⟩ ⟨(by omega), (by omega)⟩ (fun q1 q2 => by have := hd0 q1 (by omega); omega)
    refine lv_iconst (v := iv 0) hx hb dX0_save_26 (by decide) ?_
    refine lv_istore (lv' := [(4, .int (iv 0)), (3, .int (iv z_3)), (0, .ref (G.2.2.1 + o)), (1, .ref (G.2.2.1 + k)), (2, .int (iv a))]) hx hb dX0_save_27 hl (by decide) rfl (fun ls hl => ?_)
    have loop_29 : ∀ (fuel : Nat) (S29 : sS) (i : Int) (H : Heap) (locs : List Loc) (ls : Array Slot), (S.1 o 1 - i).toNat < fuel → (cX G S29 0 k a) → (Fr S S29 (p1 k)) → (Fr ((uA S k a (-z_3))) S29 (p1 k)) → (0 ≤ i ∧ i ≤ S.1 o 1) → (S29.2.1 k a = S.1 o 1 ∨ S29.2.1 k a = -S.1 o 1) → (∀ i, a < i → i < a + 8 → 0 ≤ S29.2.1 k i ∧ S29.2.1 k i ≤ 999999999) → (∀ j, 0 ≤ j → j < i → S29.2.1 k (a + 1 + j) = S.2.1 (o + 1) j) → sW G 294 S29 H → sL G locs → lv_has ls 5 [(4, .int (iv i)), (3, .int (iv z_3)), (0, .ref (G.2.2.1 + o)), (1, .ref (G.2.2.1 + k)), (2, .int (iv a))] → W p l e (rmk 2 0 0) s m args below meth c H locs 0 0 (MQ below (sQv G 294 (fun u => cX G u 0 0 0 ∧ Fr S u (p1 k))) args s 0 0 (sF G)) (F0 m 29 ls []) := by
      intro fuel
      induction fuel with
      | zero => intro S29 i H locs ls hmeas hI29 hFm29 hL29_ hi hh2 hrr hm hW hL hl; exact absurd hmeas (Nat.not_lt_zero _)
      | succ fuel ih_29 =>
        intro S29 i H locs ls hmeas hI29 hFm29 hL29_ hi hh2 hrr hm hW hL hl
        refine lv_iload hx hb dX0_save_29 (lv_at hl 0 rfl) ?_
        refine lv_iload_n hx hb dX0_save_31 rfl (lv_at hl 1 rfl) ?_
        refine r_icmp_ge (tgt := 56) hx hb ⟨(by omega), (by omega)⟩ ⟨(by omega), (by omega)⟩ dX0_save_32 (by decide) (fun c_16 => ?_) (fun c_16 => ?_)
        · have j_17 : cX G S29 0 0 0 := hI29.inS (fun _ => slot_mk (c := S.1 o 1) hh2 (by omega) hrr (fun q => by rw [show a + S.1 o 1 = a + 1 + (S.1 o 1 - 1) by omega, hm _ (by omega) (by omega)]; exact hnb q) (fun q => by rw [show a + 7 = a + 1 + 6 by omega, hm 6 (by omega) (by omega)]; exact hcn.2 q))
          exact sVret Cx hr hlk hW hL ⟨j_17, hFm29⟩ dX0_save_56
        · refine lv_aload_n hx hb dX0_save_35 rfl (lv_at hl 3 rfl) ?_
          refine lv_iload_n hx hb dX0_save_36 rfl (lv_at hl 4 rfl) ?_
          refine lv_iconst (v := iv 1) hx hb dX0_save_37 (by decide) ?_
          refine r_iadd hx hb dX0_save_38 ?_
          refine lv_iload hx hb dX0_save_39 (lv_at hl 0 rfl) ?_
          refine r_iadd hx hb dX0_save_41 ?_
          refine lv_aload_n hx hb dX0_save_42 rfl (lv_at hl 2 rfl) ?_
          refine g_X0_9 Cx hW (k := o) (big_l ho) ho (v := .ref (G.2.2.1 + (o + 1))) (hI29.rq.1 o ho) dX0_save_43 ?_
          refine lv_iload hx hb dX0_save_46 (lv_at hl 0 rfl) ?_
          refine rIald Cx hW (k := o + 1) (big_l1 ho) (big_row ho).1 (by decide) (by omega) (by omega) dX0_save_48 ?_
          have q_18 := limbR j_1 ho i
          refine r_i (b := S.2.1 (o + 1) i) (((hL29_ (o + 1) (p1_no (ac_ne (big_row ho).2.1 hk.2.2.2.1 (by decide)))).2.1 i).trans (uA_ne (fun h => absurd h.1 (ac_ne (big_row ho).2.1 hk.2.2.2.1 (by decide))))) ?_
          refine rIast Cx hW hL (k := k) (Nat.lt_trans hk.1 (by decide)) hk.2.1 (by omega) (by omega) (by omega) dX0_save_49 (fun H locs hW hL => ?_)
          have F_19 : Fr S (uA S29 k ((a + 1) + i) (S.2.1 (o + 1) i)) (p1 k) := hFm29.A p1_0
          have F_20 : Fr ((uA S k a (-z_3))) (uA S29 k ((a + 1) + i) (S.2.1 (o + 1) i)) (p1 k) := hL29_.A p1_0
          have i_21 : cX G (uA S29 k ((a + 1) + i) (S.2.1 (o + 1) i)) 0 k a := hI29.slot hk.2.2.2.1 ⟨by omega, by omega, by omega⟩ ⟨(by omega), (by omega)⟩ (fun _ q => by omega)
          refine lv_iinc (v := iv (i + 1)) (lv' := [(4, .int (iv (i + 1))), (3, .int (iv z_3)), (0, .ref (G.2.2.1 + o)), (1, .ref (G.2.2.1 + k)), (2, .int (iv a))]) hx hb dX0_save_50 hl (k := 0) rfl ((Int32.ofInt_add _ _).symm) (by decide) rfl (fun ls hl => ?_)
          refine lv_goto (tgt := 29) hx hb dX0_save_53 (by decide) ?_
          exact ih_29 (uA S29 k ((a + 1) + i) (S.2.1 (o + 1) i)) (i + 1) _ _ _ (by omega) i_21 F_19 F_20 (by omega) (by rw [uA_ne (by omega)]; exact hh2) (fun j j0 j1 => by rw [uA_get]; split; exact ⟨by omega, by omega⟩; exact hrr j j0 j1) (fun j j0 j1 => by rw [uA_get]; split; rename_i q; rw [show j = i by omega]; rename_i q; exact hm j j0 (by omega)) hW hL (lv_sub hl [0, 1, 2, 3, 4] rfl)
    exact loop_29 (_ + 1) (uA S k a (-z_3)) 0 _ _ _ (Nat.lt_succ_self _) i_15 F_14 Fr.rf (by omega) (by rw [uA_on]; omega) (fun j j0 j1 => by rw [uA_ne (by omega)]; exact hss.2.1 j j0 j1) (fun j j0 j1 => absurd j1 (by omega)) hW hL (lv_sub hl [0, 1, 2, 3, 4] rfl)
