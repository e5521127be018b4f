set_option maxRecDepth 100000 in
set_option maxHeartbeats 4000000 in
theorem s_X0_store (l : Launch) (G : sG) (S : sS) {k N : Nat} {a v : Int} (hI : cX G S 0 0 0) (hk : sla k N) (hat : a % 8 = 0 ∧ 0 ≤ a ∧ a + 7 < N) (hv : -9223372036854775807 ≤ v ∧ v ≤ 9223372036854775807) (hd0 : Hd (dc k → a = 0 → 0 ≤ v)) : Met l yX0_store (.code yX0_store cX0_store 8 none :: tb) (rmk 2 0 0) (sPc G 294 S [.ref (G.2.2.1 + k), .int (iv a), .long (jv v)]) (sQv G 294 (fun u => cX G u 0 0 0 ∧ Fr S u (p1 k))) 0 0 (sF G) := by
  refine sEnter (by decide) (Nat.le_of_ble_eq_true rfl) ?_
  intro p e s m args below meth c Cx hr hlk hnm hW ls hl
  have Cx : sC G p m c cX0_store 8 s args RX0 := Cx
  obtain ⟨hx, hb, hml, hown, hts⟩ := id Cx.1
  have hL : sL G [] := sL_nil
  have hl : lv_has ls 8 [(0, .ref (G.2.2.1 + k)), (1, .int (iv a)), (2, .long (jv v))] := hl
  have hW0 := hW
  have hss : SlotOK (S.2.1 k) a (slotL k) (slotT k) := hI.sl (by omega) (by omega) (by rw [hk.2.2.2.2.1]; omega)
  have hL6 := slotL6 k
  have hN5 := hk.2.2.1
  have j_1 := hI.exS k a
  refine lv_lload_n hx hb dX0_store_0 rfl (lv_at hl 2 rfl) ?_
  refine r_absl hx hb (hml.trans hl.1.symm) hown (hts _ w_1184) (hts _ w_1080) (hts _ w_206) (hts _ w_1081) (rmk_f (by omega)) (rmk_l (by omega) (Nat.le_of_ble_eq_true rfl)) (Nat.le_of_ble_eq_true rfl) (Nat.le_of_ble_eq_true rfl) ⟨(by omega), (by omega)⟩ dX0_store_1 (fun z_2 hz_2 => ?_)
  refine lv_lstore (lv' := [(4, .long (jv z_2)), (0, .ref (G.2.2.1 + k)), (1, .int (iv a)), (2, .long (jv v))]) hx hb dX0_store_4 hl (by decide) rfl (fun ls hl => ?_)
  refine lv_iconst (v := iv 0) hx hb dX0_store_6 (by decide) ?_
  refine lv_istore (lv' := [(6, .int (iv 0)), (4, .long (jv z_2)), (0, .ref (G.2.2.1 + k)), (1, .int (iv a)), (2, .long (jv v))]) hx hb dX0_store_7 hl (by decide) rfl (fun ls hl => ?_)
  refine lv_iconst (v := iv 1) hx hb dX0_store_9 (by decide) ?_
  refine lv_istore (lv' := [(7, .int (iv 1)), (6, .int (iv 0)), (4, .long (jv z_2)), (0, .ref (G.2.2.1 + k)), (1, .int (iv a)), (2, .long (jv v))]) hx hb dX0_store_10 hl (by decide) rfl (fun ls hl => ?_)
  have loop_12 : ∀ (fuel : Nat) (S12 : sS) (i : Int) (us : Int) (w : Int) (H : Heap) (locs : List Loc) (ls : Array Slot), (4 - i).toNat < fuel → (cX G S12 0 k a) → (Fr S S12 (p1 k)) → (Fr S S12 (p1 k)) → (1 ≤ i ∧ i ≤ 4 ∧ us = i - 1) → (0 ≤ w) → ((i = 1 ∧ w ≤ 9223372036854775807) ∨ (i = 2 ∧ w ≤ 9223372036) ∨ (i = 3 ∧ w ≤ 9) ∨ (i = 4 ∧ w = 0)) → (∀ j, a < j → j < a + 8 → 0 ≤ S12.2.1 k j ∧ S12.2.1 k j ≤ 999999999) → (Hd (0 < us → w = 0 → S12.2.1 k (a + us) ≠ 0)) → sW G 294 S12 H → sL G locs → lv_has ls 8 [(7, .int (iv i)), (6, .int (iv us)), (4, .long (jv w)), (0, .ref (G.2.2.1 + k)), (1, .int (iv a)), (2, .long (jv v))] → W p l e (rmk 2 0 0) s m args below meth c H locs 0 0 (MQ below (sQv G 294 (fun u => cX G u 0 0 0 ∧ Fr S u (p1 k))) args s 0 0 (sF G)) (F0 m 12 ls []) := by
    intro fuel
    induction fuel with
    | zero => intro S12 i us w H locs ls hmeas hI12 hFm12 hL12_ hi hw0 hw hrr htp hW hL hl; exact absurd hmeas (Nat.not_lt_zero _)
    | succ fuel ih_12 =>
      intro S12 i us w H locs ls hmeas hI12 hFm12 hL12_ hi hw0 hw hrr htp hW hL hl
      refine lv_iload hx hb dX0_store_12 (lv_at hl 0 rfl) ?_
      refine lv_iconst (v := iv 3) hx hb dX0_store_14 (by decide) ?_
      refine r_icmp_gt (tgt := 56) hx hb ⟨(by omega), (by omega)⟩ ⟨(by omega), (by omega)⟩ dX0_store_15 (by decide) (fun c_3 => ?_) (fun c_3 => ?_)
      · refine lv_aload_n hx hb dX0_store_56 rfl (lv_at hl 3 rfl) ?_
        refine lv_iload_n hx hb dX0_store_57 rfl (lv_at hl 4 rfl) ?_
        refine lv_lload_n hx hb dX0_store_58 rfl (lv_at hl 5 rfl) ?_
        refine lv_lconst (v := jv 0) hx hb dX0_store_59 (by decide) ?_
        refine r_lcmp hx hb ⟨(by omega), (by omega)⟩ ⟨(by omega), (by omega)⟩ dX0_store_60 (fun z_4 az_4 bz_4 cz_4 => ?_)
        refine r_if_ge (tgt := 70) hx hb ⟨(by omega), (by omega)⟩ dX0_store_61 (by decide) (fun c_5 => ?_) (fun c_5 => ?_)
        · refine lv_iload hx hb dX0_store_70 (lv_at hl 1 rfl) ?_
          refine rIast Cx hW hL (k := k) (Nat.lt_trans hk.1 (by decide)) hk.2.1 (by omega) (by omega) (by omega) dX0_store_72 (fun H locs hW hL => ?_)
          have F_6 : Fr S (uA S12 k a us) (p1 k) := hFm12.A p1_0
          have F_7 : Fr S (uA S12 k a us) (p1 k) := hL12_.A p1_0
          have i_8 : cX G (uA S12 k a us) 0 k a := hI12.slot hk.2.2.2.1 ⟨by omega, by omega, by omega⟩ ⟨(by omega), (by omega)⟩ (fun q1 q2 => by have := hd0 q1 (by omega); omega)
          have j_9 : cX G (uA S12 k a us) 0 0 0 := i_8.inS (fun _ => slot_mk (c := us) (by rw [uA_on]; omega) (by omega) (fun j j0 j1 => by rw [uA_ne (by omega)]; exact hrr j j0 j1) (fun q => by rw [uA_ne (by omega)]; exact htp q (by omega)) (fun q => by omega))
          exact sVret Cx hr hlk hW hL ⟨j_9, F_6⟩ dX0_store_73
        · refine lv_iload hx hb dX0_store_64 (lv_at hl 1 rfl) ?_
          refine r_ineg hx hb dX0_store_66 ?_
          refine lv_goto (tgt := 72) hx hb dX0_store_67 (by decide) ?_
          refine rIast Cx hW hL (k := k) (Nat.lt_trans hk.1 (by decide)) hk.2.1 (by omega) (by omega) (by omega) dX0_store_72 (fun H locs hW hL => ?_)
          have F_10 : Fr S (uA S12 k a (-us)) (p1 k) := hFm12.A p1_0
          have F_11 : Fr S (uA S12 k a (-us)) (p1 k) := hL12_.A p1_0
          have i_12 : cX G (uA S12 k a (-us)) 0 k a := hI12.slot hk.2.2.2.1 ⟨by omega, by omega, by omega⟩ ⟨(by omega), (by omega)⟩ (fun q1 q2 => by have := hd0 q1 (by omega); omega)
          have j_13 : cX G (uA S12 k a (-us)) 0 0 0 := i_12.inS (fun _ => slot_mk (c := us) (by rw [uA_on]; omega) (by omega) (fun j j0 j1 => by rw [uA_ne (by omega)]; exact hrr j j0 j1) (fun q => by rw [uA_ne (by omega)]; exact htp q (by omega)) (fun q => by omega))
          exact sVret Cx hr hlk hW hL ⟨j_13, F_10⟩ dX0_store_73
      · refine lv_lload hx hb dX0_store_18 (lv_at hl 2 rfl) ?_
        refine lv_lconst (v := jv 0) hx hb dX0_store_20 (by decide) ?_
        refine r_lcmp hx hb ⟨(by omega), (by omega)⟩ ⟨(by omega), (by omega)⟩ dX0_store_21 (fun z_14 az_14 bz_14 cz_14 => ?_)
        refine r_if_eq (tgt := 56) hx hb ⟨(by omega), (by omega)⟩ dX0_store_22 (by decide) (fun c_15 => ?_) (fun c_15 => ?_)
        · refine lv_aload_n hx hb dX0_store_56 rfl (lv_at hl 3 rfl) ?_
          refine lv_iload_n hx hb dX0_store_57 rfl (lv_at hl 4 rfl) ?_
          refine lv_lload_n hx hb dX0_store_58 rfl (lv_at hl 5 rfl) ?_
          refine lv_lconst (v := jv 0) hx hb dX0_store_59 (by decide) ?_
          refine r_lcmp hx hb ⟨(by omega), (by omega)⟩ ⟨(by omega), (by omega)⟩ dX0_store_60 (fun z_16 az_16 bz_16 cz_16 => ?_)
          refine r_if_ge (tgt := 70) hx hb ⟨(by omega), (by omega)⟩ dX0_store_61 (by decide) (fun c_17 => ?_) (fun c_17 => ?_)
          · refine lv_iload hx hb dX0_store_70 (lv_at hl 1 rfl) ?_
            refine rIast Cx hW hL (k := k) (Nat.lt_trans hk.1 (by decide)) hk.2.1 (by omega) (by omega) (by omega) dX0_store_72 (fun H locs hW hL => ?_)
            have F_18 : Fr S (uA S12 k a us) (p1 k) := hFm12.A p1_0
            have F_19 : Fr S (uA S12 k a us) (p1 k) := hL12_.A p1_0
            have i_20 : cX G (uA S12 k a us) 0 k a := hI12.slot hk.2.2.2.1 ⟨by omega, by omega, by omega⟩ ⟨(by omega), (by omega)⟩ (fun q1 q2 => by have := hd0 q1 (by omega); omega)
            have j_21 : cX G (uA S12 k a us) 0 0 0 := i_20.inS (fun _ => slot_mk (c := us) (by rw [uA_on]; omega) (by omega) (fun j j0 j1 => by rw [uA_ne (by omega)]; exact hrr j j0 j1) (fun q => by rw [uA_ne (by omega)]; exact htp q (by omega)) (fun q => by omega))
            exact sVret Cx hr hlk hW hL ⟨j_21, F_18⟩ dX0_store_73
          · refine lv_iload hx hb dX0_store_64 (lv_at hl 1 rfl) ?_
            refine r_ineg hx hb dX0_store_66 ?_
            refine lv_goto (tgt := 72) hx hb dX0_store_67 (by decide) ?_
            refine rIast Cx hW hL (k := k) (Nat.lt_trans hk.1 (by decide)) hk.2.1 (by omega) (by omega) (by omega) dX0_store_72 (fun H locs hW hL => ?_)
            have F_22 : Fr S (uA S12 k a (-us)) (p1 k) := hFm12.A p1_0
            have F_23 : Fr S (uA S12 k a (-us)) (p1 k) := hL12_.A p1_0
            have i_24 : cX G (uA S12 k a (-us)) 0 k a := hI12.slot hk.2.2.2.1 ⟨by omega, by omega, by omega⟩ ⟨(by omega), (by omega)⟩ (fun q1 q2 => by have := hd0 q1 (by omega); omega)
            have j_25 : cX G (uA S12 k a (-us)) 0 0 0 := i_24.inS (fun _ => slot_mk (c := us) (by rw [uA_on]; omega) (by omega) (fun j j0 j1 => by rw [uA_ne (by omega)]; exact hrr j j0 j1) (fun q => by rw [uA_ne (by omega)]; exact htp q (by omega)) (fun q => by omega))
            exact sVret Cx hr hlk hW hL ⟨j_25, F_22⟩ dX0_store_73
        · refine lv_aload_n hx hb dX0_store_25 rfl (lv_at hl 3 rfl) ?_
          refine lv_iload_n hx hb dX0_store_26 rfl (lv_at hl 4 rfl) ?_
          refine lv_iload hx hb dX0_store_27 (lv_at hl 0 rfl) ?_
          refine r_iadd hx hb dX0_store_29 ?_
          refine lv_lload hx hb dX0_store_30 (lv_at hl 2 rfl) ?_
          refine lv_ldc2 hx hb hown (hts _ w_1163) dX0_store_32 ?_
          refine r_lrem hx hb ⟨(by omega), (by omega)⟩ ⟨(by omega), (by omega)⟩ (by omega) dX0_store_35 ?_
          obtain ⟨z_26, ez_26⟩ : ∃ z : Int, z = w.tmod 1000000000 := ⟨_, rfl⟩
          have hz_26 := tmodL (a := w) (b := 1000000000) (by omega)
          rw [← ez_26] at hz_26
          refine r_j (b := z_26) ez_26.symm ?_
          clear ez_26
          refine r_l2i hx hb dX0_store_36 ?_
          refine rIast Cx hW hL (k := k) (Nat.lt_trans hk.1 (by decide)) hk.2.1 (by omega) (by omega) (by omega) dX0_store_37 (fun H locs hW hL => ?_)
          have F_27 : Fr S (uA S12 k (a + i) z_26) (p1 k) := hFm12.A p1_0
          have F_28 : Fr S (uA S12 k (a + i) z_26) (p1 k) := hL12_.A p1_0
          have i_29 : cX G (uA S12 k (a + i) z_26) 0 k a := hI12.slot hk.2.2.2.1 ⟨by omega, by omega, by omega⟩ ⟨(by omega), (by omega)⟩ (fun _ q => by omega)
          refine lv_lload hx hb dX0_store_38 (lv_at hl 2 rfl) ?_
          refine lv_ldc2 hx hb hown (hts _ w_1163) dX0_store_40 ?_
          refine r_ldiv hx hb ⟨(by omega), (by omega)⟩ ⟨(by omega), (by omega)⟩ (by omega) dX0_store_43 ?_
          obtain ⟨z_30, ez_30⟩ : ∃ z : Int, z = w.tdiv 1000000000 := ⟨_, rfl⟩
          have hz_30 := tdivL (a := w) (b := 1000000000) (by omega)
          rw [← ez_30] at hz_30
          refine r_j (b := z_30) ez_30.symm ?_
          clear ez_30
          refine lv_lstore (lv' := [(4, .long (jv z_30)), (7, .int (iv i)), (6, .int (iv us)), (0, .ref (G.2.2.1 + k)), (1, .int (iv a)), (2, .long (jv v))]) hx hb dX0_store_44 hl (by decide) rfl (fun ls hl => ?_)
          refine lv_iload hx hb dX0_store_46 (lv_at hl 1 rfl) ?_
          refine lv_istore (lv' := [(6, .int (iv i)), (4, .long (jv z_30)), (7, .int (iv i)), (0, .ref (G.2.2.1 + k)), (1, .int (iv a)), (2, .long (jv v))]) hx hb dX0_store_48 hl (by decide) rfl (fun ls hl => ?_)
          refine lv_iinc (v := iv (i + 1)) (lv' := [(7, .int (iv (i + 1))), (6, .int (iv i)), (4, .long (jv z_30)), (0, .ref (G.2.2.1 + k)), (1, .int (iv a)), (2, .long (jv v))]) hx hb dX0_store_50 hl (k := 2) rfl ((Int32.ofInt_add _ _).symm) (by decide) rfl (fun ls hl => ?_)
          refine lv_goto (tgt := 12) hx hb dX0_store_53 (by decide) ?_
          exact ih_12 (uA S12 k (a + i) z_26) (i + 1) i z_30 _ _ _ (by omega) i_29 F_27 F_28 (by omega) (by omega) (by omega) (fun j j0 j1 => by rw [uA_get]; split; exact ⟨by omega, by omega⟩; exact hrr j j0 j1) (fun q q2 => by rw [uA_on]; omega) hW hL (lv_sub hl [0, 1, 2, 3, 4, 5] rfl)
  exact loop_12 (_ + 1) S 1 0 z_2 _ _ _ (Nat.lt_succ_self _) j_1 (Fr.rf : Fr S S (p1 k)) Fr.rf (by omega) (by omega) (by omega) hss.2.1 (fun q _ => absurd q (by omega)) hW hL (lv_sub hl [0, 1, 2, 3, 4, 5] rfl)

set_option maxRecDepth 100000 in
set_option maxHeartbeats 4000000 in
theorem s_J7_rangeCheck_23922 (l : Launch) (G : sG) (S : sS) {n : Int} (hn : 0 ≤ n ∧ n ≤ 32) : Met l yJ7_rangeCheck_23922 (.code yJ7_rangeCheck_23922 cJ7_rangeCheck_23922 3 none :: tb) (rmk 1 0 0) (sPc G 294 S [.int (iv 32), .int (iv 0), .int (iv n)]) (sQv G 294 (fun u => u = S)) 0 0 (sF G) := by
  refine sEnterF (by decide) (Nat.le_of_ble_eq_true rfl) ?_
  intro p e s m args below meth c Cx hr hlk hnm hW ls hl
  have Cx : sC G p m c cJ7_rangeCheck_23922 3 s args RJ7 := Cx
  obtain ⟨hx, hb, hml, hown, hts⟩ := id Cx.1
  have hL : sL G [] := sL_nil
  have hl : lv_has ls 3 [(0, .int (iv 32)), (1, .int (iv 0)), (2, .int (iv n))] := hl
  have hW0 := hW
  refine lv_iload_n hx hb dJ7_rangeCheck_23922_0 rfl (lv_at hl 1 rfl) ?_
  refine lv_iload_n hx hb dJ7_rangeCheck_23922_1 rfl (lv_at hl 2 rfl) ?_
  refine r_icmp_le (tgt := 46) hx hb ⟨(by omega), (by omega)⟩ ⟨(by omega), (by omega)⟩ dJ7_rangeCheck_23922_2 (by decide) (fun _ => ?_) (fun c => absurd (by omega) c)
  refine lv_iload_n hx hb dJ7_rangeCheck_23922_46 rfl (lv_at hl 1 rfl) ?_
  refine r_if_ge (tgt := 59) hx hb ⟨(by omega), (by omega)⟩ dJ7_rangeCheck_23922_47 (by decide) (fun _ => ?_) (fun c => absurd (by omega) c)
  refine lv_iload_n hx hb dJ7_rangeCheck_23922_59 rfl (lv_at hl 2 rfl) ?_
  refine lv_iload_n hx hb dJ7_rangeCheck_23922_60 rfl (lv_at hl 0 rfl) ?_
  refine r_icmp_le (tgt := 73) hx hb ⟨(by omega), (by omega)⟩ ⟨(by omega), (by omega)⟩ dJ7_rangeCheck_23922_61 (by decide) (fun _ => ?_) (fun c => absurd (by omega) c)
  exact sVret Cx hr hlk hW hL rfl dJ7_rangeCheck_23922_73

set_option maxRecDepth 100000 in
set_option maxHeartbeats 4000000 in
theorem s_J7_fill_fda19 (l : Launch) (G : sG) (S : sS) {o : Nat} {n : Int} (hI : cX G S o 0 0) (ho : tau o = .inl 0) (hn : 0 ≤ n ∧ n ≤ 32) : Met l yJ7_fill_fda19 (.code yJ7_fill_fda19 cJ7_fill_fda19 5 none :: tb) (rmk 2 0 0) (sPc G 294 S [.ref (G.2.2.1 + (o + 1)), .int (iv 0), .int (iv n), .int (iv 0)]) (sQv G 294 (fun u => cX G u o 0 0 ∧ Fr S u (pB o) ∧ (u.1 = S.1))) 0 0 (sF G) := by
  refine sEnterF (by decide) (Nat.le_of_ble_eq_true rfl) ?_
  intro p e s m args below meth c Cx hr hlk hnm hW ls hl
  have Cx : sC G p m c cJ7_fill_fda19 5 s args RJ7 := Cx
  obtain ⟨hx, hb, hml, hown, hts⟩ := id Cx.1
  have hL : sL G [] := sL_nil
  have hl : lv_has ls 5 [(0, .ref (G.2.2.1 + (o + 1))), (1, .int (iv 0)), (2, .int (iv n)), (3, .int (iv 0))] := hl
  have hW0 := hW
  refine lv_aload_n hx hb dJ7_fill_fda19_0 rfl (lv_at hl 0 rfl) ?_
  refine sAlen Cx hW (k := o + 1) (big_l1 ho) (big_row ho).1 0 rfl dJ7_fill_fda19_1 ?_
  refine lv_iload_n hx hb dJ7_fill_fda19_2 rfl (lv_at hl 1 rfl) ?_
  refine lv_iload_n hx hb dJ7_fill_fda19_3 rfl (lv_at hl 2 rfl) ?_
  refine sBv (sSt (As := [.int (iv 32), .int (iv 0), .int (iv n)]) (rest := []) Cx (s_J7_rangeCheck_23922 l G S (n := n) (by omega)) (c_J7_13 Cx rfl rfl (rmk_ok (by omega) (by decide))) hW rfl hl.1 rfl (Nat.le_of_ble_eq_true rfl) dJ7_fill_fda19_4 ⟨Nat.le_of_ble_eq_true rfl, Nat.le_of_ble_eq_true rfl⟩) hL (fun u_1 H locs k_2 hW hL => ?_)
  rw [k_2] at hW
  refine lv_iload_n hx hb dJ7_fill_fda19_7 rfl (lv_at hl 1 rfl) ?_
  refine lv_istore (lv' := [(4, .int (iv 0)), (0, .ref (G.2.2.1 + (o + 1))), (1, .int (iv 0)), (2, .int (iv n)), (3, .int (iv 0))]) hx hb dJ7_fill_fda19_8 hl (by decide) rfl (fun ls hl => ?_)
  have loop_10 : ∀ (fuel : Nat) (S10 : sS) (i : Int) (H : Heap) (locs : List Loc) (ls : Array Slot), (n - i).toNat < fuel → (cX G S10 o 0 0) → (Fr S S10 (pB o)) → (Fr S S10 (pB o)) → (0 ≤ i ∧ i ≤ n) → (S10.1 = S.1) → sW G 294 S10 H → sL G locs → lv_has ls 5 [(4, .int (iv i)), (0, .ref (G.2.2.1 + (o + 1))), (1, .int (iv 0)), (2, .int (iv n)), (3, .int (iv 0))] → W p l e (rmk 2 0 0) s m args below meth c H locs 0 0 (MQ below (sQv G 294 (fun u => cX G u o 0 0 ∧ Fr S u (pB o) ∧ (u.1 = S.1))) args s 0 0 (sF G)) (F0 m 10 ls []) := by
    intro fuel
    induction fuel with
    | zero => intro S10 i H locs ls hmeas hI10 hFm10 hL10_ hi h1 hW hL hl; exact absurd hmeas (Nat.not_lt_zero _)
    | succ fuel ih_10 =>
      intro S10 i H locs ls hmeas hI10 hFm10 hL10_ hi h1 hW hL hl
      refine lv_iload hx hb dJ7_fill_fda19_10 (lv_at hl 0 rfl) ?_
      refine lv_iload_n hx hb dJ7_fill_fda19_12 rfl (lv_at hl 3 rfl) ?_
      refine r_icmp_ge (tgt := 27) hx hb ⟨(by omega), (by omega)⟩ ⟨(by omega), (by omega)⟩ dJ7_fill_fda19_13 (by decide) (fun c_3 => ?_) (fun c_3 => ?_)
      · exact sVret Cx hr hlk hW hL ⟨hI10, hFm10, h1⟩ dJ7_fill_fda19_27
      · refine lv_aload_n hx hb dJ7_fill_fda19_16 rfl (lv_at hl 1 rfl) ?_
        refine lv_iload hx hb dJ7_fill_fda19_17 (lv_at hl 0 rfl) ?_
        refine lv_iload_n hx hb dJ7_fill_fda19_19 rfl (lv_at hl 4 rfl) ?_
        refine rIast Cx hW hL (k := o + 1) (big_l1 ho) (big_row ho).1 (by decide) (by omega) (by omega) dJ7_fill_fda19_20 (fun H locs hW hL => ?_)
        have F_4 : Fr S (uA S10 (o + 1) i 0) (pB o) := hFm10.A pB_1
        have F_5 : Fr S (uA S10 (o + 1) i 0) (pB o) := hL10_.A pB_1
        have i_6 : cX G (uA S10 (o + 1) i 0) o 0 0 := hI10.limb (Or.inl (exq_s ho)) ho ⟨(by omega), (by omega)⟩
        refine lv_iinc (v := iv (i + 1)) (lv' := [(4, .int (iv (i + 1))), (0, .ref (G.2.2.1 + (o + 1))), (1, .int (iv 0)), (2, .int (iv n)), (3, .int (iv 0))]) hx hb dJ7_fill_fda19_21 hl (k := 0) rfl ((Int32.ofInt_add _ _).symm) (by decide) rfl (fun ls hl => ?_)
        refine lv_goto (tgt := 10) hx hb dJ7_fill_fda19_24 (by decide) ?_
        exact ih_10 (uA S10 (o + 1) i 0) (i + 1) _ _ _ (by omega) i_6 F_4 F_5 (by omega) h1 hW hL (lv_sub hl [0, 1, 2, 3, 4] rfl)
  exact loop_10 (_ + 1) S 0 _ _ _ (Nat.lt_succ_self _) hI (Fr.rf : Fr S S (pB o)) Fr.rf (by omega) rfl hW hL (lv_sub hl [0, 1, 2, 3, 4] rfl)

set_option maxRecDepth 100000 in
set_option maxHeartbeats 4000000 in
theorem s_X0_product (l : Launch) (G : sG) (S : sS) {o a b : Nat} (hI : cX G S 0 0 0) (ho : tau o = .inl 0) (ha : tau a = .inl 0) (hbb : tau b = .inl 0) (noa : Hd (o ≠ a)) (nob : Hd (o ≠ b)) : Met l yX0_product (.code yX0_product cX0_product 12 none :: tb) (rmk 3 0 0) (sPc G 294 S [.ref (G.2.2.1 + o), .ref (G.2.2.1 + a), .ref (G.2.2.1 + b)]) (sQv G 294 (fun u => cX G u 0 0 0 ∧ Fr S u (pB o) ∧ (u.1 o 1 ≤ S.1 a 1 + S.1 b 1))) 0 0 (sF G) := by
  refine sEnter (by decide) (Nat.le_of_ble_eq_true rfl) ?_
  intro p e s m args below meth c Cx hr hlk hnm hW ls hl
  have Cx : sC G p m c cX0_product 12 s args RX0 := Cx
  obtain ⟨hx, hb, hml, hown, hts⟩ := id Cx.1
  have hL : sL G [] := sL_nil
  have hl : lv_has ls 12 [(0, .ref (G.2.2.1 + o)), (1, .ref (G.2.2.1 + a)), (2, .ref (G.2.2.1 + b))] := hl
  have hW0 := hW
  refine lv_aload_n hx hb dX0_product_0 rfl (lv_at hl 1 rfl) ?_
  have q_1 : 0 ≤ S.1 a 1 ∧ S.1 a 1 ≤ 32 := hI.fi a 1 0 (big_lt ha) ha
  refine g_X0_24 Cx hW (k := a) (big_l ha) ha (v := S.1 a 1) rfl dX0_product_1 ?_
  refine lv_aload_n hx hb dX0_product_4 rfl (lv_at hl 2 rfl) ?_
  have q_2 : 0 ≤ S.1 b 1 ∧ S.1 b 1 ≤ 32 := hI.fi b 1 0 (big_lt hbb) hbb
  refine g_X0_24 Cx hW (k := b) (big_l hbb) hbb (v := S.1 b 1) rfl dX0_product_5 ?_
  refine r_iadd hx hb dX0_product_8 ?_
  refine lv_istore_n (lv' := [(3, .int (iv ((S.1 a 1) + (S.1 b 1)))), (0, .ref (G.2.2.1 + o)), (1, .ref (G.2.2.1 + a)), (2, .ref (G.2.2.1 + b))]) hx hb dX0_product_9 rfl hl (by decide) rfl (fun ls hl => ?_)
  refine lv_aload_n hx hb dX0_product_10 rfl (lv_at hl 2 rfl) ?_
  have q_3 : (-1) ≤ S.1 a 2 ∧ S.1 a 2 ≤ 1 := hI.fi a 2 0 (big_lt ha) ha
  refine g_X0_34 Cx hW (k := a) (big_l ha) ha (v := S.1 a 2) rfl dX0_product_11 ?_
  refine r_if_eq (tgt := 30) hx hb ⟨(by omega), (by omega)⟩ dX0_product_14 (by decide) (fun c_4 => ?_) (fun c_4 => ?_)
  · refine lv_aload_n hx hb dX0_product_30 rfl (lv_at hl 1 rfl) ?_
    refine lv_lconst (v := jv 0) hx hb dX0_product_31 (by decide) ?_
    refine sBv (sV (As := [.long (jv 0)]) (rest := []) (k := o) Cx (s_X0_put l G S (o := o) (v := 0) hI ho (by omega)) (c_X0_62 Cx rfl rfl (rmk_ok (by omega) (by decide))) hW (big_l ho) ho rfl rfl hl.1 rfl (Nat.le_of_ble_eq_true rfl) dX0_product_32 ⟨Nat.le_of_ble_eq_true rfl, Nat.le_of_ble_eq_true rfl⟩) hL (fun u_5 H locs k_6 hW hL => ?_)
    obtain ⟨iu_5, fu_5, xu_5⟩ := k_6
    have F_7 := (Fr.rf : Fr S S (pB o)).trans fu_5
    have q_8 : 0 ≤ u_5.1 o 1 ∧ u_5.1 o 1 ≤ 32 := iu_5.fi o 1 0 (big_lt ho) ho
    exact sVret Cx hr hlk hW hL ⟨iu_5, F_7, (by omega)⟩ dX0_product_35
  · refine lv_aload_n hx hb dX0_product_17 rfl (lv_at hl 3 rfl) ?_
    have q_9 : (-1) ≤ S.1 b 2 ∧ S.1 b 2 ≤ 1 := hI.fi b 2 0 (big_lt hbb) hbb
    refine g_X0_34 Cx hW (k := b) (big_l hbb) hbb (v := S.1 b 2) rfl dX0_product_18 ?_
    refine r_if_eq (tgt := 30) hx hb ⟨(by omega), (by omega)⟩ dX0_product_21 (by decide) (fun c_10 => ?_) (fun c_10 => ?_)
    · refine lv_aload_n hx hb dX0_product_30 rfl (lv_at hl 1 rfl) ?_
      refine lv_lconst (v := jv 0) hx hb dX0_product_31 (by decide) ?_
      refine sBv (sV (As := [.long (jv 0)]) (rest := []) (k := o) Cx (s_X0_put l G S (o := o) (v := 0) hI ho (by omega)) (c_X0_62 Cx rfl rfl (rmk_ok (by omega) (by decide))) hW (big_l ho) ho rfl rfl hl.1 rfl (Nat.le_of_ble_eq_true rfl) dX0_product_32 ⟨Nat.le_of_ble_eq_true rfl, Nat.le_of_ble_eq_true rfl⟩) hL (fun u_11 H locs k_12 hW hL => ?_)
      obtain ⟨iu_11, fu_11, xu_11⟩ := k_12
      have F_13 := (Fr.rf : Fr S S (pB o)).trans fu_11
      have q_14 : 0 ≤ u_11.1 o 1 ∧ u_11.1 o 1 ≤ 32 := iu_11.fi o 1 0 (big_lt ho) ho
      exact sVret Cx hr hlk hW hL ⟨iu_11, F_13, (by omega)⟩ dX0_product_35
    · refine lv_iload_n hx hb dX0_product_24 rfl (lv_at hl 0 rfl) ?_
      refine lv_bipush (v := iv 32) hx hb dX0_product_25 (by decide) ?_
      refine r_icmp_le (tgt := 36) hx hb ⟨(by omega), (by omega)⟩ ⟨(by omega), (by omega)⟩ dX0_product_27 (by decide) (fun c_15 => ?_) (fun c_15 => ?_)
      · have j_16 := hI.exB o
        refine lv_aload_n hx hb dX0_product_36 rfl (lv_at hl 1 rfl) ?_
        refine g_X0_9 Cx hW (k := o) (big_l ho) ho (v := .ref (G.2.2.1 + (o + 1))) (j_16.rq.1 o ho) dX0_product_37 ?_
        refine lv_iconst (v := iv 0) hx hb dX0_product_40 (by decide) ?_
        refine lv_iload_n hx hb dX0_product_41 rfl (lv_at hl 0 rfl) ?_
        refine lv_iconst (v := iv 0) hx hb dX0_product_42 (by decide) ?_
        refine sBv (sSt (As := [.ref (G.2.2.1 + (o + 1)), .int (iv 0), .int (iv ((S.1 a 1) + (S.1 b 1))), .int (iv 0)]) (rest := []) Cx (s_J7_fill_fda19 l G S (o := o) (n := (S.1 a 1) + (S.1 b 1)) j_16 ho (by omega)) (c_X0_66 Cx rfl rfl (rmk_ok (by omega) (by decide))) hW rfl hl.1 rfl (Nat.le_of_ble_eq_true rfl) dX0_product_43 ⟨Nat.le_of_ble_eq_true rfl, Nat.le_of_ble_eq_true rfl⟩) hL (fun u_17 H locs k_18 hW hL => ?_)
        obtain ⟨iu_17, fu_17, xu_17⟩ := k_18
        have F_19 := (Fr.rf : Fr S S (pB o)).trans fu_17
        have hc0 : u_17.1 = S.1 := xu_17
        refine lv_iconst (v := iv 0) hx hb dX0_product_46 (by decide) ?_
        refine lv_istore (lv' := [(4, .int (iv 0)), (3, .int (iv ((S.1 a 1) + (S.1 b 1)))), (0, .ref (G.2.2.1 + o)), (1, .ref (G.2.2.1 + a)), (2, .ref (G.2.2.1 + b))]) hx hb dX0_product_47 hl (by decide) rfl (fun ls hl => ?_)
        have loop_49 : ∀ (fuel : Nat) (S49 : sS) (i : Int) (H : Heap) (locs : List Loc) (ls : Array Slot), (S.1 a 1 - i).toNat < fuel → (cX G S49 o 0 0) → (Fr S S49 (pB o)) → (Fr u_17 S49 (pB o)) → (0 ≤ i ∧ i ≤ S.1 a 1) → (S49.1 = S.1) → sW G 294 S49 H → sL G locs → lv_has ls 12 [(4, .int (iv i)), (3, .int (iv ((S.1 a 1) + (S.1 b 1)))), (0, .ref (G.2.2.1 + o)), (1, .ref (G.2.2.1 + a)), (2, .ref (G.2.2.1 + b))] → W p l e (rmk 3 0 0) s m args below meth c H locs 0 0 (MQ below (sQv G 294 (fun u => cX G u 0 0 0 ∧ Fr S u (pB o) ∧ (u.1 o 1 ≤ S.1 a 1 + S.1 b 1))) args s 0 0 (sF G)) (F0 m 49 ls []) := by
          intro fuel
          induction fuel with
          | zero => intro S49 i H locs ls hmeas hI49 hFm49 hL49_ hi hc hW hL hl; exact absurd hmeas (Nat.not_lt_zero _)
          | succ fuel ih_49 =>
            intro S49 i H locs ls hmeas hI49 hFm49 hL49_ hi hc hW hL hl
            refine lv_iload hx hb dX0_product_49 (lv_at hl 0 rfl) ?_
            refine lv_aload_n hx hb dX0_product_51 rfl (lv_at hl 3 rfl) ?_
            refine g_X0_24 Cx hW (k := a) (big_l ha) ha (v := S.1 a 1) (((hL49_ a (pB_no (neS noa) (tau_ne ha (big_row ho).1 (fun h => by cases h)))).1 1).trans ((fu_17 a (pB_no (neS noa) (tau_ne ha (big_row ho).1 (fun h => by cases h)))).1 1)) dX0_product_52 ?_
            refine r_icmp_ge (tgt := 166) hx hb ⟨(by omega), (by omega)⟩ ⟨(by omega), (by omega)⟩ dX0_product_55 (by decide) (fun c_20 => ?_) (fun c_20 => ?_)
            · refine lv_aload_n hx hb dX0_product_166 rfl (lv_at hl 2 rfl) ?_
              refine lv_iload_n hx hb dX0_product_167 rfl (lv_at hl 1 rfl) ?_
              refine p_X0_24 Cx hW hL (k := o) (big_l ho) ho dX0_product_168 (fun H locs hW hL => ?_)
              have F_21 : Fr S (uF S49 o 1 ((S.1 a 1) + (S.1 b 1))) (pB o) := hFm49.F pB_0
              have F_22 : Fr u_17 (uF S49 o 1 ((S.1 a 1) + (S.1 b 1))) (pB o) := hL49_.F pB_0
              have i_23 : cX G (uF S49 o 1 ((S.1 a 1) + (S.1 b 1))) o 0 0 := hI49.cnt (exq_s ho) ho ⟨by omega, by omega⟩
              refine lv_aload_n hx hb dX0_product_171 rfl (lv_at hl 2 rfl) ?_
              refine lv_aload_n hx hb dX0_product_172 rfl (lv_at hl 3 rfl) ?_
              refine g_X0_34 Cx hW (k := a) (big_l ha) ha (v := S.1 a 2) ((uF_ne (fun h => absurd h.2 (by decide))).trans (((hL49_ a (pB_no (neS noa) (tau_ne ha (big_row ho).1 (fun h => by cases h)))).1 2).trans ((fu_17 a (pB_no (neS noa) (tau_ne ha (big_row ho).1 (fun h => by cases h)))).1 2))) dX0_product_173 ?_
              refine lv_aload_n hx hb dX0_product_176 rfl (lv_at hl 4 rfl) ?_
              refine g_X0_34 Cx hW (k := b) (big_l hbb) hbb (v := S.1 b 2) ((uF_ne (fun h => absurd h.2 (by decide))).trans (((hL49_ b (pB_no (neS nob) (tau_ne hbb (big_row ho).1 (fun h => by cases h)))).1 2).trans ((fu_17 b (pB_no (neS nob) (tau_ne hbb (big_row ho).1 (fun h => by cases h)))).1 2))) dX0_product_177 ?_
              refine r_imul hx hb dX0_product_180 ?_
              obtain ⟨ps, eps⟩ : ∃ z : Int, z = (S.1 a 2) * (S.1 b 2) := ⟨_, rfl⟩
              refine r_i (b := ps) eps.symm ?_
              have hps : -1 ≤ ps ∧ ps ≤ 1 := by rw [eps]; exact mul_s (by omega) (by omega)
              refine p_X0_34 Cx hW hL (k := o) (big_l ho) ho dX0_product_181 (fun H locs hW hL => ?_)
              have F_24 : Fr S (uF (uF S49 o 1 ((S.1 a 1) + (S.1 b 1))) o 2 ps) (pB o) := F_21.F pB_0
              have F_25 : Fr u_17 (uF (uF S49 o 1 ((S.1 a 1) + (S.1 b 1))) o 2 ps) (pB o) := F_22.F pB_0
              have i_26 : cX G (uF (uF S49 o 1 ((S.1 a 1) + (S.1 b 1))) o 2 ps) o 0 0 := i_23.F ho rfl (show (-1) ≤ ps ∧ ps ≤ 1 from ⟨by omega, by omega⟩)
              refine lv_aload_n hx hb dX0_product_184 rfl (lv_at hl 2 rfl) ?_
              have lk_27 : (uF (uF S49 o 1 ((S.1 a 1) + (S.1 b 1))) o 2 ps).1 o 1 = (S.1 a 1) + (S.1 b 1) := (uF_ne (fun h => absurd h.2 (by decide))).trans (uF_on)
              have lk_28 : (uF (uF S49 o 1 ((S.1 a 1) + (S.1 b 1))) o 2 ps).1 o 2 = ps := uF_on
              refine sBv (sV (As := []) (rest := []) (k := o) Cx (s_X0_trim l G (uF (uF S49 o 1 ((S.1 a 1) + (S.1 b 1))) o 2 ps) (o := o) i_26 ho) (c_X0_59 Cx rfl rfl (rmk_ok (by omega) (by decide))) hW (big_l ho) ho rfl rfl hl.1 rfl (Nat.le_of_ble_eq_true rfl) dX0_product_185 ⟨Nat.le_of_ble_eq_true rfl, Nat.le_of_ble_eq_true rfl⟩) hL (fun u_29 H locs k_30 hW hL => ?_)
              obtain ⟨iu_29, fu_29, xu_29⟩ := k_30
              have F_31 := F_24.trans fu_29
              have F_32 := F_25.trans fu_29
              have q_33 : 0 ≤ u_29.1 o 1 ∧ u_29.1 o 1 ≤ 32 := iu_29.fi o 1 0 (big_lt ho) ho
              exact sVret Cx hr hlk hW hL ⟨iu_29, F_31, (by have := xu_29.1; rw [uF_i (by decide), uF_on] at this; omega)⟩ dX0_product_188
            · refine lv_aload_n hx hb dX0_product_58 rfl (lv_at hl 3 rfl) ?_
              refine g_X0_9 Cx hW (k := a) (big_l ha) ha (v := .ref (G.2.2.1 + (a + 1))) (hI49.rq.1 a ha) dX0_product_59 ?_
              refine lv_iload hx hb dX0_product_62 (lv_at hl 0 rfl) ?_
              refine rIald Cx hW (k := a + 1) (big_l1 ha) (big_row ha).1 (by decide) (by omega) (by omega) dX0_product_64 ?_
              have q_34 := limbR j_16 ha i
              refine r_i (b := S.2.1 (a + 1) i) (((hL49_ (a + 1) (pB_no (tau_ne (big_row ha).1 ho (fun h => by cases h)) (ne1S noa))).2.1 i).trans ((fu_17 (a + 1) (pB_no (tau_ne (big_row ha).1 ho (fun h => by cases h)) (ne1S noa))).2.1 i)) ?_
              refine r_i2l hx hb ⟨(by omega), (by omega)⟩ dX0_product_65 ?_
              refine lv_lstore (lv' := [(5, .long (jv (S.2.1 (a + 1) i))), (4, .int (iv i)), (3, .int (iv ((S.1 a 1) + (S.1 b 1)))), (0, .ref (G.2.2.1 + o)), (1, .ref (G.2.2.1 + a)), (2, .ref (G.2.2.1 + b))]) hx hb dX0_product_66 hl (by decide) rfl (fun ls hl => ?_)
              refine lv_lconst (v := jv 0) hx hb dX0_product_68 (by decide) ?_
              refine lv_lstore (lv' := [(7, .long (jv 0)), (5, .long (jv (S.2.1 (a + 1) i))), (4, .int (iv i)), (3, .int (iv ((S.1 a 1) + (S.1 b 1)))), (0, .ref (G.2.2.1 + o)), (1, .ref (G.2.2.1 + a)), (2, .ref (G.2.2.1 + b))]) hx hb dX0_product_69 hl (by decide) rfl (fun ls hl => ?_)
              refine lv_iconst (v := iv 0) hx hb dX0_product_71 (by decide) ?_
              refine lv_istore (lv' := [(9, .int (iv 0)), (7, .long (jv 0)), (5, .long (jv (S.2.1 (a + 1) i))), (4, .int (iv i)), (3, .int (iv ((S.1 a 1) + (S.1 b 1)))), (0, .ref (G.2.2.1 + o)), (1, .ref (G.2.2.1 + a)), (2, .ref (G.2.2.1 + b))]) hx hb dX0_product_72 hl (by decide) rfl (fun ls hl => ?_)
              have loop_74 : ∀ (fuel : Nat) (S74 : sS) (j : Int) (cy : Int) (H : Heap) (locs : List Loc) (ls : Array Slot), (S.1 b 1 - j).toNat < fuel → (cX G S74 o 0 0) → (Fr S S74 (pB o)) → (Fr u_17 S74 (pB o)) → (Fr S49 S74 (pB o)) → (0 ≤ cy ∧ cy ≤ 999999999) → (0 ≤ j ∧ j ≤ S.1 b 1) → (S74.1 = S.1) → sW G 294 S74 H → sL G locs → lv_has ls 12 [(9, .int (iv j)), (7, .long (jv cy)), (5, .long (jv (S.2.1 (a + 1) i))), (4, .int (iv i)), (3, .int (iv ((S.1 a 1) + (S.1 b 1)))), (0, .ref (G.2.2.1 + o)), (1, .ref (G.2.2.1 + a)), (2, .ref (G.2.2.1 + b))] → W p l e (rmk 3 0 0) s m args below meth c H locs 0 0 (MQ below (sQv G 294 (fun u => cX G u 0 0 0 ∧ Fr S u (pB o) ∧ (u.1 o 1 ≤ S.1 a 1 + S.1 b 1))) args s 0 0 (sF G)) (F0 m 74 ls []) := by
                intro fuel
                induction fuel with
                | zero => intro S74 j cy H locs ls hmeas hI74 hFm74 hFL4974 hL74_ hcy hj hc2 hW hL hl; exact absurd hmeas (Nat.not_lt_zero _)
                | succ fuel ih_74 =>
                  intro S74 j cy H locs ls hmeas hI74 hFm74 hFL4974 hL74_ hcy hj hc2 hW hL hl
                  refine lv_iload hx hb dX0_product_74 (lv_at hl 0 rfl) ?_
                  refine lv_aload_n hx hb dX0_product_76 rfl (lv_at hl 7 rfl) ?_
                  refine g_X0_24 Cx hW (k := b) (big_l hbb) hbb (v := S.1 b 1) (((hL74_ b (pB_no (neS nob) (tau_ne hbb (big_row ho).1 (fun h => by cases h)))).1 1).trans (((hL49_ b (pB_no (neS nob) (tau_ne hbb (big_row ho).1 (fun h => by cases h)))).1 1).trans ((fu_17 b (pB_no (neS nob) (tau_ne hbb (big_row ho).1 (fun h => by cases h)))).1 1))) dX0_product_77 ?_
                  refine r_icmp_ge (tgt := 145) hx hb ⟨(by omega), (by omega)⟩ ⟨(by omega), (by omega)⟩ dX0_product_80 (by decide) (fun c_35 => ?_) (fun c_35 => ?_)
                  · refine lv_aload_n hx hb dX0_product_145 rfl (lv_at hl 5 rfl) ?_
                    refine g_X0_9 Cx hW (k := o) (big_l ho) ho (v := .ref (G.2.2.1 + (o + 1))) (hI74.rq.1 o ho) dX0_product_146 ?_
                    refine lv_iload hx hb dX0_product_149 (lv_at hl 3 rfl) ?_
                    refine lv_aload_n hx hb dX0_product_151 rfl (lv_at hl 7 rfl) ?_
                    refine g_X0_24 Cx hW (k := b) (big_l hbb) hbb (v := S.1 b 1) (((hL74_ b (pB_no (neS nob) (tau_ne hbb (big_row ho).1 (fun h => by cases h)))).1 1).trans (((hL49_ b (pB_no (neS nob) (tau_ne hbb (big_row ho).1 (fun h => by cases h)))).1 1).trans ((fu_17 b (pB_no (neS nob) (tau_ne hbb (big_row ho).1 (fun h => by cases h)))).1 1))) dX0_product_152 ?_
                    refine r_iadd hx hb dX0_product_155 ?_
                    refine lv_lload hx hb dX0_product_156 (lv_at hl 1 rfl) ?_
                    refine r_l2i hx hb dX0_product_158 ?_
                    refine rIast Cx hW hL (k := o + 1) (big_l1 ho) (big_row ho).1 (by decide) (by omega) (by omega) dX0_product_159 (fun H locs hW hL => ?_)
                    have F_36 : Fr S (uA S74 (o + 1) (i + (S.1 b 1)) cy) (pB o) := hFm74.A pB_1
                    have F_37 : Fr u_17 (uA S74 (o + 1) (i + (S.1 b 1)) cy) (pB o) := hFL4974.A pB_1
                    have F_38 : Fr S49 (uA S74 (o + 1) (i + (S.1 b 1)) cy) (pB o) := hL74_.A pB_1
                    have i_39 : cX G (uA S74 (o + 1) (i + (S.1 b 1)) cy) o 0 0 := hI74.limb (Or.inl (exq_s ho)) ho ⟨(by omega), (by omega)⟩
                    refine lv_iinc (v := iv (i + 1)) (lv' := [(4, .int (iv (i + 1))), (9, .int (iv j)), (7, .long (jv cy)), (5, .long (jv (S.2.1 (a + 1) i))), (3, .int (iv ((S.1 a 1) + (S.1 b 1)))), (0, .ref (G.2.2.1 + o)), (1, .ref (G.2.2.1 + a)), (2, .ref (G.2.2.1 + b))]) hx hb dX0_product_160 hl (k := 3) rfl ((Int32.ofInt_add _ _).symm) (by decide) rfl (fun ls hl => ?_)
                    refine lv_goto (tgt := 49) hx hb dX0_product_163 (by decide) ?_
                    exact ih_49 (uA S74 (o + 1) (i + (S.1 b 1)) cy) (i + 1) _ _ _ (by omega) i_39 F_36 F_37 (by omega) hc2 hW hL (lv_sub hl [0, 4, 5, 6, 7] rfl)
                  · refine lv_aload_n hx hb dX0_product_83 rfl (lv_at hl 5 rfl) ?_
                    refine g_X0_9 Cx hW (k := o) (big_l ho) ho (v := .ref (G.2.2.1 + (o + 1))) (hI74.rq.1 o ho) dX0_product_84 ?_
                    refine lv_iload hx hb dX0_product_87 (lv_at hl 3 rfl) ?_
                    refine lv_iload hx hb dX0_product_89 (lv_at hl 0 rfl) ?_
                    refine r_iadd hx hb dX0_product_91 ?_
                    refine rIald Cx hW (k := o + 1) (big_l1 ho) (big_row ho).1 (by decide) (by omega) (by omega) dX0_product_92 ?_
                    have q_40 := limbR hI74 ho (i + j)
                    refine r_i (b := S74.2.1 (o + 1) (i + j)) rfl ?_
                    refine r_i2l hx hb ⟨(by omega), (by omega)⟩ dX0_product_93 ?_
                    refine lv_lload hx hb dX0_product_94 (lv_at hl 2 rfl) ?_
                    refine lv_aload_n hx hb dX0_product_96 rfl (lv_at hl 7 rfl) ?_
                    refine g_X0_9 Cx hW (k := b) (big_l hbb) hbb (v := .ref (G.2.2.1 + (b + 1))) (hI74.rq.1 b hbb) dX0_product_97 ?_
                    refine lv_iload hx hb dX0_product_100 (lv_at hl 0 rfl) ?_
                    refine rIald Cx hW (k := b + 1) (big_l1 hbb) (big_row hbb).1 (by decide) (by omega) (by omega) dX0_product_102 ?_
                    have q_41 := limbR j_16 hbb j
                    refine r_i (b := S.2.1 (b + 1) j) (((hL74_ (b + 1) (pB_no (tau_ne (big_row hbb).1 ho (fun h => by cases h)) (ne1S nob))).2.1 j).trans (((hL49_ (b + 1) (pB_no (tau_ne (big_row hbb).1 ho (fun h => by cases h)) (ne1S nob))).2.1 j).trans ((fu_17 (b + 1) (pB_no (tau_ne (big_row hbb).1 ho (fun h => by cases h)) (ne1S nob))).2.1 j))) ?_
                    refine r_i2l hx hb ⟨(by omega), (by omega)⟩ dX0_product_103 ?_
                    refine r_lmul hx hb dX0_product_104 ?_
                    obtain ⟨pq, epq⟩ : ∃ z : Int, z = (S.2.1 (a + 1) i) * (S.2.1 (b + 1) j) := ⟨_, rfl⟩
                    refine r_j (b := pq) epq.symm ?_
                    have hpq : 0 ≤ pq ∧ pq ≤ 999999999 * 999999999 := by rw [epq]; exact mul_r (by omega) (by omega) (by omega) (by omega)
                    refine r_ladd hx hb dX0_product_105 ?_
                    refine lv_lload hx hb dX0_product_106 (lv_at hl 1 rfl) ?_
                    refine r_ladd hx hb dX0_product_108 ?_
                    refine lv_lstore (lv' := [(10, .long (jv (((S74.2.1 (o + 1) (i + j)) + pq) + cy))), (9, .int (iv j)), (7, .long (jv cy)), (5, .long (jv (S.2.1 (a + 1) i))), (4, .int (iv i)), (3, .int (iv ((S.1 a 1) + (S.1 b 1)))), (0, .ref (G.2.2.1 + o)), (1, .ref (G.2.2.1 + a)), (2, .ref (G.2.2.1 + b))]) hx hb dX0_product_109 hl (by decide) rfl (fun ls hl => ?_)
                    refine lv_lload hx hb dX0_product_111 (lv_at hl 0 rfl) ?_
                    refine lv_ldc2 hx hb hown (hts _ w_1163) dX0_product_113 ?_
                    refine r_ldiv hx hb ⟨(by omega), (by omega)⟩ ⟨(by omega), (by omega)⟩ (by omega) dX0_product_116 ?_
                    obtain ⟨cz, ecz⟩ : ∃ z : Int, z = (((S74.2.1 (o + 1) (i + j)) + pq) + cy).tdiv 1000000000 := ⟨_, rfl⟩
                    have hcz := tdivL (a := ((S74.2.1 (o + 1) (i + j)) + pq) + cy) (b := 1000000000) (by omega)
                    rw [← ecz] at hcz
                    refine r_j (b := cz) ecz.symm ?_
                    clear ecz
                    refine lv_lstore (lv' := [(7, .long (jv cz)), (10, .long (jv (((S74.2.1 (o + 1) (i + j)) + pq) + cy))), (9, .int (iv j)), (5, .long (jv (S.2.1 (a + 1) i))), (4, .int (iv i)), (3, .int (iv ((S.1 a 1) + (S.1 b 1)))), (0, .ref (G.2.2.1 + o)), (1, .ref (G.2.2.1 + a)), (2, .ref (G.2.2.1 + b))]) hx hb dX0_product_117 hl (by decide) rfl (fun ls hl => ?_)
                    refine lv_aload_n hx hb dX0_product_119 rfl (lv_at hl 6 rfl) ?_
                    refine g_X0_9 Cx hW (k := o) (big_l ho) ho (v := .ref (G.2.2.1 + (o + 1))) (hI74.rq.1 o ho) dX0_product_120 ?_
                    refine lv_iload hx hb dX0_product_123 (lv_at hl 4 rfl) ?_
                    refine lv_iload hx hb dX0_product_125 (lv_at hl 2 rfl) ?_
                    refine r_iadd hx hb dX0_product_127 ?_
                    refine lv_lload hx hb dX0_product_128 (lv_at hl 1 rfl) ?_
                    refine lv_lload hx hb dX0_product_130 (lv_at hl 0 rfl) ?_
                    refine lv_ldc2 hx hb hown (hts _ w_1163) dX0_product_132 ?_
                    refine r_lmul hx hb dX0_product_135 ?_
                    refine r_lsub hx hb dX0_product_136 ?_
                    refine r_l2i hx hb dX0_product_137 ?_
                    refine rIast Cx hW hL (k := o + 1) (big_l1 ho) (big_row ho).1 (by decide) (by omega) (by omega) dX0_product_138 (fun H locs hW hL => ?_)
                    have F_42 : Fr S (uA S74 (o + 1) (i + j) ((((S74.2.1 (o + 1) (i + j)) + pq) + cy) - (cz * 1000000000))) (pB o) := hFm74.A pB_1
                    have F_43 : Fr u_17 (uA S74 (o + 1) (i + j) ((((S74.2.1 (o + 1) (i + j)) + pq) + cy) - (cz * 1000000000))) (pB o) := hFL4974.A pB_1
                    have F_44 : Fr S49 (uA S74 (o + 1) (i + j) ((((S74.2.1 (o + 1) (i + j)) + pq) + cy) - (cz * 1000000000))) (pB o) := hL74_.A pB_1
                    have i_45 : cX G (uA S74 (o + 1) (i + j) ((((S74.2.1 (o + 1) (i + j)) + pq) + cy) - (cz * 1000000000))) o 0 0 := hI74.limb (Or.inl (exq_s ho)) ho ⟨(by omega), (by omega)⟩
                    refine lv_iinc (v := iv (j + 1)) (lv' := [(9, .int (iv (j + 1))), (7, .long (jv cz)), (10, .long (jv (((S74.2.1 (o + 1) (i + j)) + pq) + cy))), (5, .long (jv (S.2.1 (a + 1) i))), (4, .int (iv i)), (3, .int (iv ((S.1 a 1) + (S.1 b 1)))), (0, .ref (G.2.2.1 + o)), (1, .ref (G.2.2.1 + a)), (2, .ref (G.2.2.1 + b))]) hx hb dX0_product_139 hl (k := 2) rfl ((Int32.ofInt_add _ _).symm) (by decide) rfl (fun ls hl => ?_)
                    refine lv_goto (tgt := 74) hx hb dX0_product_142 (by decide) ?_
                    exact ih_74 (uA S74 (o + 1) (i + j) ((((S74.2.1 (o + 1) (i + j)) + pq) + cy) - (cz * 1000000000))) (j + 1) cz _ _ _ (by omega) i_45 F_42 F_43 F_44 (by omega) (by omega) hc2 hW hL (lv_sub hl [0, 1, 3, 4, 5, 6, 7, 8] rfl)
              exact loop_74 (_ + 1) S49 0 0 _ _ _ (Nat.lt_succ_self _) hI49 hFm49 hL49_ Fr.rf (by omega) (by omega) hc hW hL (lv_sub hl [0, 1, 2, 3, 4, 5, 6, 7] rfl)
        exact loop_49 (_ + 1) u_17 0 _ _ _ (Nat.lt_succ_self _) iu_17 F_19 Fr.rf (by omega) hc0 hW hL (lv_sub hl [0, 1, 2, 3, 4] rfl)
      · refine lv_aload_n hx hb dX0_product_30 rfl (lv_at hl 1 rfl) ?_
        refine lv_lconst (v := jv 0) hx hb dX0_product_31 (by decide) ?_
        refine sBv (sV (As := [.long (jv 0)]) (rest := []) (k := o) Cx (s_X0_put l G S (o := o) (v := 0) hI ho (by omega)) (c_X0_62 Cx rfl rfl (rmk_ok (by omega) (by decide))) hW (big_l ho) ho rfl rfl hl.1 rfl (Nat.le_of_ble_eq_true rfl) dX0_product_32 ⟨Nat.le_of_ble_eq_true rfl, Nat.le_of_ble_eq_true rfl⟩) hL (fun u_46 H locs k_47 hW hL => ?_)
        obtain ⟨iu_46, fu_46, xu_46⟩ := k_47
        have F_48 := (Fr.rf : Fr S S (pB o)).trans fu_46
        have q_49 : 0 ≤ u_46.1 o 1 ∧ u_46.1 o 1 ≤ 32 := iu_46.fi o 1 0 (big_lt ho) ho
        exact sVret Cx hr hlk hW hL ⟨iu_46, F_48, (by omega)⟩ dX0_product_35

set_option maxRecDepth 100000 in
set_option maxHeartbeats 4000000 in
theorem s_X0_reduce (l : Launch) (G : sG) (S : sS) {o : Nat} {y : Int} (hI : cX G S 0 0 0) (ho : tau o = .inl 0) (hy : -2147483648 ≤ y ∧ y ≤ 1000000000) : Met l yX0_reduce (.code yX0_reduce cX0_reduce 7 (some .int) :: tb) (rmk 1 0 0) (sPc G 294 S [.ref (G.2.2.1 + o), .int (iv y)]) (sQi G 294 (fun r u => cX G u 0 0 0 ∧ Fr S u (pB o) ∧ (u.1 o 1 ≤ S.1 o 1 ∧ 0 ≤ r ∧ r ≤ 999999999 ∧ (u.1 o 2 = S.1 o 2 ∨ u.1 o 2 = 0) ∧ Hd (0 < y → r < y ∧ y * VR u o + r = VR S o)))) 0 0 (sF G) := by
  refine sEnter (by decide) (Nat.le_of_ble_eq_true rfl) ?_
  intro p e s m args below meth c Cx hr hlk hnm hW ls hl
  have Cx : sC G p m c cX0_reduce 7 s args RX0 := Cx
  obtain ⟨hx, hb, hml, hown, hts⟩ := id Cx.1
  have hL : sL G [] := sL_nil
  have hl : lv_has ls 7 [(0, .ref (G.2.2.1 + o)), (1, .int (iv y))] := hl
  have hW0 := hW
  refine lv_iload_n hx hb dX0_reduce_0 rfl (lv_at hl 1 rfl) ?_
  refine r_if_gt (tgt := 6) hx hb ⟨(by omega), (by omega)⟩ dX0_reduce_1 (by decide) (fun c_1 => ?_) (fun c_1 => ?_)
  · have j_2 := hI.exB o
    refine lv_lconst (v := jv 0) hx hb dX0_reduce_6 (by decide) ?_
    refine lv_lstore_n (lv' := [(2, .long (jv 0)), (0, .ref (G.2.2.1 + o)), (1, .int (iv y))]) hx hb dX0_reduce_7 rfl hl (by decide) rfl (fun ls hl => ?_)
    refine lv_aload_n hx hb dX0_reduce_8 rfl (lv_at hl 1 rfl) ?_
    have q_3 : 0 ≤ S.1 o 1 ∧ S.1 o 1 ≤ 32 := j_2.fi o 1 0 (big_lt ho) ho
    refine g_X0_24 Cx hW (k := o) (big_l ho) ho (v := S.1 o 1) rfl dX0_reduce_9 ?_
    refine lv_iconst (v := iv 1) hx hb dX0_reduce_12 (by decide) ?_
    refine r_isub hx hb dX0_reduce_13 ?_
    refine lv_istore (lv' := [(4, .int (iv ((S.1 o 1) - 1))), (2, .long (jv 0)), (0, .ref (G.2.2.1 + o)), (1, .int (iv y))]) hx hb dX0_reduce_14 hl (by decide) rfl (fun ls hl => ?_)
    have loop_16 : ∀ (fuel : Nat) (S16 : sS) (i : Int) (w : Int) (H : Heap) (locs : List Loc) (ls : Array Slot), (i + 1).toNat < fuel → (cX G S16 o 0 0) → (Fr S S16 (pB o)) → (Fr S S16 (pB o)) → (-1 ≤ i ∧ i < S.1 o 1) → (0 ≤ w ∧ w < y) → (S16.1 = S.1) → (∀ j, j ≤ i → S16.2.1 (o + 1) j = S.2.1 (o + 1) j) → (Hd (VR S o = y * (V (S16.2.1 (o + 1)) (i + 1) (S.1 o 1 - 1 - i).toNat * pw (i + 1).toNat) + w * pw (i + 1).toNat + V (S.2.1 (o + 1)) 0 (i + 1).toNat)) → sW G 294 S16 H → sL G locs → lv_has ls 7 [(4, .int (iv i)), (2, .long (jv w)), (0, .ref (G.2.2.1 + o)), (1, .int (iv y))] → W p l e (rmk 1 0 0) s m args below meth c H locs 0 0 (MQ below (sQi G 294 (fun r u => cX G u 0 0 0 ∧ Fr S u (pB o) ∧ (u.1 o 1 ≤ S.1 o 1 ∧ 0 ≤ r ∧ r ≤ 999999999 ∧ (u.1 o 2 = S.1 o 2 ∨ u.1 o 2 = 0) ∧ Hd (0 < y → r < y ∧ y * VR u o + r = VR S o)))) args s 0 0 (sF G)) (F0 m 16 ls []) := by
      intro fuel
      induction fuel with
      | zero => intro S16 i w H locs ls hmeas hI16 hFm16 hL16_ hi hw hc hun hval hW hL hl; exact absurd hmeas (Nat.not_lt_zero _)
      | succ fuel ih_16 =>
        intro S16 i w H locs ls hmeas hI16 hFm16 hL16_ hi hw hc hun hval hW hL hl
        have hc1 : S16.1 o 1 = S.1 o 1 := by rw [hc]
        refine lv_iload hx hb dX0_reduce_16 (lv_at hl 0 rfl) ?_
        refine r_if_lt (tgt := 62) hx hb ⟨(by omega), (by omega)⟩ dX0_reduce_18 (by decide) (fun c_4 => ?_) (fun c_4 => ?_)
        · have loop_62 : ∀ (fuel : Nat) (S62 : sS)  (H : Heap) (locs : List Loc) (ls : Array Slot), (S62.1 o 1).toNat < fuel → (cX G S62 o 0 0) → (Fr S S62 (pB o)) → (Fr S S62 (pB o)) → (Fr S16 S62 (pB o)) → (S62.1 o 1 ≤ S.1 o 1) → (S62.1 o 2 = S.1 o 2) → (S62.2 = S16.2) → (∀ j, S62.1 o 1 ≤ j → j < S.1 o 1 → S16.2.1 (o + 1) j = 0) → sW G 294 S62 H → sL G locs → lv_has ls 7 [(4, .int (iv i)), (2, .long (jv w)), (0, .ref (G.2.2.1 + o)), (1, .int (iv y))] → W p l e (rmk 1 0 0) s m args below meth c H locs 0 0 (MQ below (sQi G 294 (fun r u => cX G u 0 0 0 ∧ Fr S u (pB o) ∧ (u.1 o 1 ≤ S.1 o 1 ∧ 0 ≤ r ∧ r ≤ 999999999 ∧ (u.1 o 2 = S.1 o 2 ∨ u.1 o 2 = 0) ∧ Hd (0 < y → r < y ∧ y * VR u o + r = VR S o)))) args s 0 0 (sF G)) (F0 m 62 ls []) := by
            intro fuel
            induction fuel with
            | zero => intro S62  H locs ls hmeas hI62 hFm62 hFL1662 hL62_ hc2 hs2 h22 hz2 hW hL hl; exact absurd hmeas (Nat.not_lt_zero _)
            | succ fuel ih_62 =>
              intro S62  H locs ls hmeas hI62 hFm62 hFL1662 hL62_ hc2 hs2 h22 hz2 hW hL hl
              refine lv_aload_n hx hb dX0_reduce_62 rfl (lv_at hl 2 rfl) ?_
              have q_5 : 0 ≤ S62.1 o 1 ∧ S62.1 o 1 ≤ 32 := hI62.fi o 1 0 (big_lt ho) ho
              refine g_X0_24 Cx hW (k := o) (big_l ho) ho (v := S62.1 o 1) rfl dX0_reduce_63 ?_
              refine r_if_le (tgt := 96) hx hb ⟨(by omega), (by omega)⟩ dX0_reduce_66 (by decide) (fun c_6 => ?_) (fun c_6 => ?_)
              · refine lv_aload_n hx hb dX0_reduce_96 rfl (lv_at hl 2 rfl) ?_
                refine lv_aload_n hx hb dX0_reduce_97 rfl (lv_at hl 2 rfl) ?_
                refine g_X0_24 Cx hW (k := o) (big_l ho) ho (v := S62.1 o 1) rfl dX0_reduce_98 ?_
                refine r_if_ne (tgt := 108) hx hb ⟨(by omega), (by omega)⟩ dX0_reduce_101 (by decide) (fun c_7 => ?_) (fun c_7 => ?_)
                · refine lv_aload_n hx hb dX0_reduce_108 rfl (lv_at hl 2 rfl) ?_
                  have q_8 : (-1) ≤ S62.1 o 2 ∧ S62.1 o 2 ≤ 1 := hI62.fi o 2 0 (big_lt ho) ho
                  refine g_X0_34 Cx hW (k := o) (big_l ho) ho (v := S62.1 o 2) rfl dX0_reduce_109 ?_
                  refine p_X0_34 Cx hW hL (k := o) (big_l ho) ho dX0_reduce_112 (fun H locs hW hL => ?_)
                  have F_9 : Fr S (uF S62 o 2 (S62.1 o 2)) (pB o) := hFm62.F pB_0
                  have F_10 : Fr S (uF S62 o 2 (S62.1 o 2)) (pB o) := hFL1662.F pB_0
                  have F_11 : Fr S16 (uF S62 o 2 (S62.1 o 2)) (pB o) := hL62_.F pB_0
                  have i_12 : cX G (uF S62 o 2 (S62.1 o 2)) o 0 0 := hI62.F ho rfl (show (-1) ≤ S62.1 o 2 ∧ S62.1 o 2 ≤ 1 from ⟨by omega, by omega⟩)
                  refine lv_lload_n hx hb dX0_reduce_115 rfl (lv_at hl 1 rfl) ?_
                  refine r_l2i hx hb dX0_reduce_116 ?_
                  have j_13 : cX G (uF S62 o 2 (S62.1 o 2)) 0 0 0 := i_12.inB ho (by intro q; rw [uF_i (by decide)] at q ⊢; first | omega | assumption)
                  have lk_14 : (uF S62 o 2 (S62.1 o 2)).1 o 1 = S62.1 o 1 := uF_ne (fun h => absurd h.2 (by decide))
                  have lk_15 : (uF S62 o 2 (S62.1 o 2)).1 o 2 = S62.1 o 2 := uF_on
                  exact sIret Cx hr hlk hW hL ⟨j_13, F_9, ⟨by rw [uF_i (by decide)]; omega, by omega, by omega, by rw [uF_on]; omega, fun q => ⟨by omega, by have e := hval; have e1 : i = -1 := (by omega); rw [e1] at e; unfold VR at e ⊢; rw [uF_i (by decide)]; show y * V (S62.2.1 (o + 1)) 0 (S62.1 o 1).toNat + w = _; rw [h22, ← VR_trim (by omega) hc2 hz2, e]; have e2 : (S.1 o 1 - 1 - -1) = S.1 o 1 := (by omega); rw [e2]; show _ = y * (V _ 0 _ * 1) + w * 1 + 0; rw [Int.mul_one, Int.mul_one]; omega⟩⟩⟩ dX0_reduce_117
                · refine lv_iconst (v := iv 0) hx hb dX0_reduce_104 (by decide) ?_
                  refine lv_goto (tgt := 112) hx hb dX0_reduce_105 (by decide) ?_
                  refine p_X0_34 Cx hW hL (k := o) (big_l ho) ho dX0_reduce_112 (fun H locs hW hL => ?_)
                  have F_16 : Fr S (uF S62 o 2 0) (pB o) := hFm62.F pB_0
                  have F_17 : Fr S (uF S62 o 2 0) (pB o) := hFL1662.F pB_0
                  have F_18 : Fr S16 (uF S62 o 2 0) (pB o) := hL62_.F pB_0
                  have i_19 : cX G (uF S62 o 2 0) o 0 0 := hI62.F ho rfl (show (-1) ≤ 0 ∧ 0 ≤ 1 from ⟨by omega, by omega⟩)
                  refine lv_lload_n hx hb dX0_reduce_115 rfl (lv_at hl 1 rfl) ?_
                  refine r_l2i hx hb dX0_reduce_116 ?_
                  have j_20 : cX G (uF S62 o 2 0) 0 0 0 := i_19.inB ho (by intro q; rw [uF_i (by decide)] at q ⊢; first | omega | assumption)
                  have lk_21 : (uF S62 o 2 0).1 o 1 = S62.1 o 1 := uF_ne (fun h => absurd h.2 (by decide))
                  have lk_22 : (uF S62 o 2 0).1 o 2 = 0 := uF_on
                  exact sIret Cx hr hlk hW hL ⟨j_20, F_16, ⟨by rw [uF_i (by decide)]; omega, by omega, by omega, by rw [uF_on]; omega, fun q => ⟨by omega, by have e := hval; have e1 : i = -1 := (by omega); rw [e1] at e; unfold VR at e ⊢; rw [uF_i (by decide)]; show y * V (S62.2.1 (o + 1)) 0 (S62.1 o 1).toNat + w = _; rw [h22, ← VR_trim (by omega) hc2 hz2, e]; have e2 : (S.1 o 1 - 1 - -1) = S.1 o 1 := (by omega); rw [e2]; show _ = y * (V _ 0 _ * 1) + w * 1 + 0; rw [Int.mul_one, Int.mul_one]; omega⟩⟩⟩ dX0_reduce_117
              · refine lv_aload_n hx hb dX0_reduce_69 rfl (lv_at hl 2 rfl) ?_
                refine g_X0_9 Cx hW (k := o) (big_l ho) ho (v := .ref (G.2.2.1 + (o + 1))) (hI62.rq.1 o ho) dX0_reduce_70 ?_
                refine lv_aload_n hx hb dX0_reduce_73 rfl (lv_at hl 2 rfl) ?_
                refine g_X0_24 Cx hW (k := o) (big_l ho) ho (v := S62.1 o 1) rfl dX0_reduce_74 ?_
                refine lv_iconst (v := iv 1) hx hb dX0_reduce_77 (by decide) ?_
                refine r_isub hx hb dX0_reduce_78 ?_
                refine rIald Cx hW (k := o + 1) (big_l1 ho) (big_row ho).1 (by decide) (by omega) (by omega) dX0_reduce_79 ?_
                have q_23 := limbR hI62 ho ((S62.1 o 1) - 1)
                refine r_i (b := S62.2.1 (o + 1) ((S62.1 o 1) - 1)) rfl ?_
                refine r_if_ne (tgt := 96) hx hb ⟨(by omega), (by omega)⟩ dX0_reduce_80 (by decide) (fun c_24 => ?_) (fun c_24 => ?_)
                · refine lv_aload_n hx hb dX0_reduce_96 rfl (lv_at hl 2 rfl) ?_
                  refine lv_aload_n hx hb dX0_reduce_97 rfl (lv_at hl 2 rfl) ?_
                  refine g_X0_24 Cx hW (k := o) (big_l ho) ho (v := S62.1 o 1) rfl dX0_reduce_98 ?_
                  refine r_if_ne (tgt := 108) hx hb ⟨(by omega), (by omega)⟩ dX0_reduce_101 (by decide) (fun c_25 => ?_) (fun c_25 => ?_)
                  · refine lv_aload_n hx hb dX0_reduce_108 rfl (lv_at hl 2 rfl) ?_
                    have q_26 : (-1) ≤ S62.1 o 2 ∧ S62.1 o 2 ≤ 1 := hI62.fi o 2 0 (big_lt ho) ho
                    refine g_X0_34 Cx hW (k := o) (big_l ho) ho (v := S62.1 o 2) rfl dX0_reduce_109 ?_
                    refine p_X0_34 Cx hW hL (k := o) (big_l ho) ho dX0_reduce_112 (fun H locs hW hL => ?_)
                    have F_27 : Fr S (uF S62 o 2 (S62.1 o 2)) (pB o) := hFm62.F pB_0
                    have F_28 : Fr S (uF S62 o 2 (S62.1 o 2)) (pB o) := hFL1662.F pB_0
                    have F_29 : Fr S16 (uF S62 o 2 (S62.1 o 2)) (pB o) := hL62_.F pB_0
                    have i_30 : cX G (uF S62 o 2 (S62.1 o 2)) o 0 0 := hI62.F ho rfl (show (-1) ≤ S62.1 o 2 ∧ S62.1 o 2 ≤ 1 from ⟨by omega, by omega⟩)
                    refine lv_lload_n hx hb dX0_reduce_115 rfl (lv_at hl 1 rfl) ?_
                    refine r_l2i hx hb dX0_reduce_116 ?_
                    have j_31 : cX G (uF S62 o 2 (S62.1 o 2)) 0 0 0 := i_30.inB ho (by intro q; rw [uF_i (by decide)] at q ⊢; first | omega | assumption)
                    have lk_32 : (uF S62 o 2 (S62.1 o 2)).1 o 1 = S62.1 o 1 := uF_ne (fun h => absurd h.2 (by decide))
                    have lk_33 : (uF S62 o 2 (S62.1 o 2)).1 o 2 = S62.1 o 2 := uF_on
                    exact sIret Cx hr hlk hW hL ⟨j_31, F_27, ⟨by rw [uF_i (by decide)]; omega, by omega, by omega, by rw [uF_on]; omega, fun q => ⟨by omega, by have e := hval; have e1 : i = -1 := (by omega); rw [e1] at e; unfold VR at e ⊢; rw [uF_i (by decide)]; show y * V (S62.2.1 (o + 1)) 0 (S62.1 o 1).toNat + w = _; rw [h22, ← VR_trim (by omega) hc2 hz2, e]; have e2 : (S.1 o 1 - 1 - -1) = S.1 o 1 := (by omega); rw [e2]; show _ = y * (V _ 0 _ * 1) + w * 1 + 0; rw [Int.mul_one, Int.mul_one]; omega⟩⟩⟩ dX0_reduce_117
                  · refine lv_iconst (v := iv 0) hx hb dX0_reduce_104 (by decide) ?_
                    refine lv_goto (tgt := 112) hx hb dX0_reduce_105 (by decide) ?_
                    refine p_X0_34 Cx hW hL (k := o) (big_l ho) ho dX0_reduce_112 (fun H locs hW hL => ?_)
                    have F_34 : Fr S (uF S62 o 2 0) (pB o) := hFm62.F pB_0
                    have F_35 : Fr S (uF S62 o 2 0) (pB o) := hFL1662.F pB_0
                    have F_36 : Fr S16 (uF S62 o 2 0) (pB o) := hL62_.F pB_0
                    have i_37 : cX G (uF S62 o 2 0) o 0 0 := hI62.F ho rfl (show (-1) ≤ 0 ∧ 0 ≤ 1 from ⟨by omega, by omega⟩)
                    refine lv_lload_n hx hb dX0_reduce_115 rfl (lv_at hl 1 rfl) ?_
                    refine r_l2i hx hb dX0_reduce_116 ?_
                    have j_38 : cX G (uF S62 o 2 0) 0 0 0 := i_37.inB ho (by intro q; rw [uF_i (by decide)] at q ⊢; first | omega | assumption)
                    have lk_39 : (uF S62 o 2 0).1 o 1 = S62.1 o 1 := uF_ne (fun h => absurd h.2 (by decide))
                    have lk_40 : (uF S62 o 2 0).1 o 2 = 0 := uF_on
                    exact sIret Cx hr hlk hW hL ⟨j_38, F_34, ⟨by rw [uF_i (by decide)]; omega, by omega, by omega, by rw [uF_on]; omega, fun q => ⟨by omega, by have e := hval; have e1 : i = -1 := (by omega); rw [e1] at e; unfold VR at e ⊢; rw [uF_i (by decide)]; show y * V (S62.2.1 (o + 1)) 0 (S62.1 o 1).toNat + w = _; rw [h22, ← VR_trim (by omega) hc2 hz2, e]; have e2 : (S.1 o 1 - 1 - -1) = S.1 o 1 := (by omega); rw [e2]; show _ = y * (V _ 0 _ * 1) + w * 1 + 0; rw [Int.mul_one, Int.mul_one]; omega⟩⟩⟩ dX0_reduce_117
                · refine lv_aload_n hx hb dX0_reduce_83 rfl (lv_at hl 2 rfl) ?_
                  refine lv_dup hx hb dX0_reduce_84 rfl ?_
                  refine g_X0_24 Cx hW (k := o) (big_l ho) ho (v := S62.1 o 1) rfl dX0_reduce_85 ?_
                  refine lv_iconst (v := iv 1) hx hb dX0_reduce_88 (by decide) ?_
                  refine r_isub hx hb dX0_reduce_89 ?_
                  refine p_X0_24 Cx hW hL (k := o) (big_l ho) ho dX0_reduce_90 (fun H locs hW hL => ?_)
                  have F_41 : Fr S (uF S62 o 1 ((S62.1 o 1) - 1)) (pB o) := hFm62.F pB_0
                  have F_42 : Fr S (uF S62 o 1 ((S62.1 o 1) - 1)) (pB o) := hFL1662.F pB_0
                  have F_43 : Fr S16 (uF S62 o 1 ((S62.1 o 1) - 1)) (pB o) := hL62_.F pB_0
                  have i_44 : cX G (uF S62 o 1 ((S62.1 o 1) - 1)) o 0 0 := hI62.cnt (exq_s ho) ho ⟨by omega, by omega⟩
                  refine lv_goto (tgt := 62) hx hb dX0_reduce_93 (by decide) ?_
                  have lk_45 : (uF S62 o 1 ((S62.1 o 1) - 1)).1 o 1 = (S62.1 o 1) - 1 := uF_on
                  have q_46 : (-1) ≤ S62.1 o 2 ∧ S62.1 o 2 ≤ 1 := hI62.fi o 2 0 (big_lt ho) ho
                  have lk_47 : (uF S62 o 1 ((S62.1 o 1) - 1)).1 o 2 = S62.1 o 2 := uF_ne (fun h => absurd h.2 (by decide))
                  exact ih_62 (uF S62 o 1 ((S62.1 o 1) - 1))  _ _ _ (by rw [uF_on]; omega) i_44 F_41 F_42 F_43 (by rw [uF_on]; omega) ((uF_i (by decide)).trans hs2) h22 (fun j j0 j1 => by rw [uF_on] at j0; by_cases e : j = S62.1 o 1 - 1; rw [e, ← h22]; assumption; exact hz2 j (by omega) j1) hW hL (lv_sub hl [0, 1, 2, 3] rfl)
          have q_48 : 0 ≤ S16.1 o 1 ∧ S16.1 o 1 ≤ 32 := hI16.fi o 1 0 (big_lt ho) ho
          have q_49 : (-1) ≤ S16.1 o 2 ∧ S16.1 o 2 ≤ 1 := hI16.fi o 2 0 (big_lt ho) ho
          exact loop_62 (_ + 1) S16  _ _ _ (Nat.lt_succ_self _) hI16 hFm16 hL16_ Fr.rf (by omega) (by rw [hc]) rfl (fun j j0 j1 => absurd j1 (by omega)) hW hL (lv_sub hl [0, 1, 2, 3] rfl)
        · refine lv_lload_n hx hb dX0_reduce_21 rfl (lv_at hl 1 rfl) ?_
          refine lv_ldc2 hx hb hown (hts _ w_1163) dX0_reduce_22 ?_
          refine r_lmul hx hb dX0_reduce_25 ?_
          refine lv_aload_n hx hb dX0_reduce_26 rfl (lv_at hl 2 rfl) ?_
          refine g_X0_9 Cx hW (k := o) (big_l ho) ho (v := .ref (G.2.2.1 + (o + 1))) (hI16.rq.1 o ho) dX0_reduce_27 ?_
          refine lv_iload hx hb dX0_reduce_30 (lv_at hl 0 rfl) ?_
          refine rIald Cx hW (k := o + 1) (big_l1 ho) (big_row ho).1 (by decide) (by omega) (by omega) dX0_reduce_32 ?_
          have q_50 := limbR hI16 ho i
          refine r_i (b := S16.2.1 (o + 1) i) rfl ?_
          refine r_i2l hx hb ⟨(by omega), (by omega)⟩ dX0_reduce_33 ?_
          refine r_ladd hx hb dX0_reduce_34 ?_
          refine lv_lstore (lv' := [(5, .long (jv ((w * 1000000000) + (S16.2.1 (o + 1) i)))), (4, .int (iv i)), (2, .long (jv w)), (0, .ref (G.2.2.1 + o)), (1, .int (iv y))]) hx hb dX0_reduce_35 hl (by decide) rfl (fun ls hl => ?_)
          refine lv_aload_n hx hb dX0_reduce_37 rfl (lv_at hl 3 rfl) ?_
          refine g_X0_9 Cx hW (k := o) (big_l ho) ho (v := .ref (G.2.2.1 + (o + 1))) (hI16.rq.1 o ho) dX0_reduce_38 ?_
          refine lv_iload hx hb dX0_reduce_41 (lv_at hl 1 rfl) ?_
          refine lv_lload hx hb dX0_reduce_43 (lv_at hl 0 rfl) ?_
          refine lv_iload_n hx hb dX0_reduce_45 rfl (lv_at hl 4 rfl) ?_
          refine r_i2l hx hb ⟨(by omega), (by omega)⟩ dX0_reduce_46 ?_
          refine r_ldiv hx hb ⟨(by omega), (by omega)⟩ ⟨(by omega), (by omega)⟩ (by omega) dX0_reduce_47 ?_
          obtain ⟨qz, eqz⟩ : ∃ z : Int, z = ((w * 1000000000) + (S16.2.1 (o + 1) i)).tdiv y := ⟨_, rfl⟩
          have hqz := divV (a := (w * 1000000000) + (S16.2.1 (o + 1) i)) (b := y) (by omega) (by omega) (M := 1000000000) (by omega)
          rw [← eqz] at hqz
          refine r_j (b := qz) eqz.symm ?_
          refine r_l2i hx hb dX0_reduce_48 ?_
          refine rIast Cx hW hL (k := o + 1) (big_l1 ho) (big_row ho).1 (by decide) (by omega) (by omega) dX0_reduce_49 (fun H locs hW hL => ?_)
          have F_51 : Fr S (uA S16 (o + 1) i qz) (pB o) := hFm16.A pB_1
          have F_52 : Fr S (uA S16 (o + 1) i qz) (pB o) := hL16_.A pB_1
          have i_53 : cX G (uA S16 (o + 1) i qz) o 0 0 := hI16.limb (Or.inl (exq_s ho)) ho ⟨(by omega), (by omega)⟩
          refine lv_lload hx hb dX0_reduce_50 (lv_at hl 0 rfl) ?_
          refine lv_iload_n hx hb dX0_reduce_52 rfl (lv_at hl 4 rfl) ?_
          refine r_i2l hx hb ⟨(by omega), (by omega)⟩ dX0_reduce_53 ?_
          refine r_lrem hx hb ⟨(by omega), (by omega)⟩ ⟨(by omega), (by omega)⟩ (by omega) dX0_reduce_54 ?_
          obtain ⟨rz, erz⟩ : ∃ z : Int, z = ((w * 1000000000) + (S16.2.1 (o + 1) i)).tmod y := ⟨_, rfl⟩
          have hrz := modV (a := (w * 1000000000) + (S16.2.1 (o + 1) i)) (b := y) (by omega) (by omega)
          rw [← erz] at hrz
          refine r_j (b := rz) erz.symm ?_
          have hqr : qz * y + rz = w * 1000000000 + S16.2.1 (o + 1) i := by rw [eqz, erz]; exact tdm _ _
          clear eqz erz
          refine lv_lstore_n (lv' := [(2, .long (jv rz)), (5, .long (jv ((w * 1000000000) + (S16.2.1 (o + 1) i)))), (4, .int (iv i)), (0, .ref (G.2.2.1 + o)), (1, .int (iv y))]) hx hb dX0_reduce_55 rfl hl (by decide) rfl (fun ls hl => ?_)
          refine lv_iinc (v := iv (i + (-1))) (lv' := [(4, .int (iv (i + (-1)))), (2, .long (jv rz)), (5, .long (jv ((w * 1000000000) + (S16.2.1 (o + 1) i)))), (0, .ref (G.2.2.1 + o)), (1, .int (iv y))]) hx hb dX0_reduce_56 hl (k := 2) rfl ((Int32.ofInt_add _ _).symm) (by decide) rfl (fun ls hl => ?_)
          refine lv_goto (tgt := 16) hx hb dX0_reduce_59 (by decide) ?_
          exact ih_16 (uA S16 (o + 1) i qz) (i + (-1)) rz _ _ _ (by omega) i_53 F_51 F_52 (by omega) (by omega) hc (fun j j0 => by rw [uA_ne (by omega)]; exact hun j (by omega)) (show _ = _ by rw [show i + -1 + 1 = i by omega, show S.1 o 1 - 1 - (i + -1) = S.1 o 1 - 1 - i + 1 by omega, V_frontI (by omega), uA_on, show V ((uA S16 (o + 1) i qz).2.1 (o + 1)) (i + 1) (S.1 o 1 - 1 - i).toNat = V (S16.2.1 (o + 1)) (i + 1) (S.1 o 1 - 1 - i).toNat from V_same (by omega)]; refine dstep (w := w) (l := S.2.1 (o + 1) i) ?_ (by rw [← hun i (by omega)]; omega); have e := hval; rw [V_stp (by omega), pw_stp (by omega), show (0 : Int) + i = i by omega] at e; rw [e]; omega) hW hL (lv_sub hl [0, 1, 3, 4] rfl)
    exact loop_16 (_ + 1) S ((S.1 o 1) - 1) 0 _ _ _ (Nat.lt_succ_self _) j_2 (Fr.rf : Fr S S (pB o)) Fr.rf (by omega) (by omega) rfl (fun j _ => rfl) (show _ = _ by unfold VR; rw [show S.1 o 1 - 1 - (S.1 o 1 - 1) = 0 by omega, show S.1 o 1 - 1 + 1 = S.1 o 1 by omega]; show _ = y * (0 * _) + 0 * _ + _; rw [Int.zero_mul]; omega) hW hL (lv_sub hl [0, 1, 2, 3] rfl)
  · refine lv_iconst (v := iv 0) hx hb dX0_reduce_4 (by decide) ?_
    have q_54 : 0 ≤ S.1 o 1 ∧ S.1 o 1 ≤ 32 := hI.fi o 1 0 (big_lt ho) ho
    have q_55 : (-1) ≤ S.1 o 2 ∧ S.1 o 2 ≤ 1 := hI.fi o 2 0 (big_lt ho) ho
    exact sIret Cx hr hlk hW hL ⟨hI, (Fr.rf : Fr S S (pB o)), (⟨by omega, by omega, by omega, by omega, fun q => absurd q (by omega)⟩)⟩ dX0_reduce_5
