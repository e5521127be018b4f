def wct (f : Int → Int) : Nat → Int
  | 0 => 0
  | n + 1 => wct f n + f ((n + 1 : Nat) : Int)
theorem wct_st {f : Int → Int} {j : Int} (h : 1 ≤ j) : wct f (j + 1 - 1).toNat = wct f (j - 1).toNat + f j := by
  rw [show (j + 1 - 1).toNat = (j - 1).toNat + 1 by omega]
  show wct f (j - 1).toNat + f (((j - 1).toNat + 1 : Nat) : Int) = _
  rw [show (((j - 1).toNat + 1 : Nat) : Int) = j by omega]
/-- a model by its numbers -/
def MDv (S : sS) (o : Nat) (n m mx : Int) (A : Int → Int → Int) (wh : Int → Int) : Prop := S.1 o 2 = n ∧ S.1 o 3 = m ∧ S.1 o 4 = mx ∧ (∀ k j, 0 ≤ k → k ≤ m → 0 ≤ j → j ≤ n → S.2.1 (o + 1) (k * 13 + j) = A k j) ∧ ∀ j, 1 ≤ j → j ≤ n → S.2.1 (o + 2) j = wh j
theorem MDv.of {S u : sS} {o : Nat} {n m mx : Int} {A : Int → Int → Int} {wh : Int → Int} (h : MDv S o n m mx A wh) (e2 : u.1 o 2 = S.1 o 2) (e3 : u.1 o 3 = S.1 o 3) (e4 : u.1 o 4 = S.1 o 4) (a1 : u.2.1 (o + 1) = S.2.1 (o + 1)) (a2 : u.2.1 (o + 2) = S.2.1 (o + 2)) : MDv u o n m mx A wh := by
  unfold MDv; rw [e2, e3, e4, a1, a2]; exact h
theorem wct_cg {f g : Int → Int} : ∀ n : Nat, (∀ j : Int, 1 ≤ j → j ≤ n → g j = f j) → wct g n = wct f n := by
  intro n
  induction n with
  | zero => intro _; rfl
  | succ n ih =>
    intro h
    show wct g n + g ((n + 1 : Nat) : Int) = wct f n + f ((n + 1 : Nat) : Int)
    rw [ih (fun j a b => h j a (by omega)), h _ (by omega) (by omega)]
set_option maxRecDepth 100000 in
set_option maxHeartbeats 4000000 in
theorem b_X6_addCut_193 (l : Launch) (G : sG) (S : sS) {n cc : Int} {RR : Int → Int → Int} {ff : Int → Int} (hI : cX G S 0 0 0) (hq : S.1 213 1 ≤ 30) (hR : Hd (RWv S n cc RR)) (hF : Hd (FCv S ff)) (hbq : Hd (bs S 213)) (hq0 : 0 < S.1 213 2) : Met l yX6_addCut (.code yX6_addCut cX6_addCut 3 (some .boolean) :: tb) (rmk 5 0 0) (sPc G 294 S [.ref (G.2.2.1 + 193), .ref (G.2.2.1 + 213)]) (sQi G 294 (fun r u => cX G u 0 0 0 ∧ Fr S u pRw ∧ (0 ≤ r ∧ r ≤ 1 ∧ Hd (r = 1 → cc < 40 ∧ RWv u n (cc + 1) (upR RR (cc + 1) (fun j => smf ff RR j cc.toNat / bv S 213)) ∧ ∀ j, 0 ≤ j → j ≤ n → ¬ lg60 (smf ff RR j cc.toNat / bv S 213)) ∧ Hd (r = 0 → 40 ≤ cc ∨ ∃ j, 0 ≤ j ∧ j ≤ n ∧ lg60 (smf ff RR j cc.toNat / bv S 213))))) 0 0 (sF G) := by
  refine sEnter (by decide) (Nat.le_of_ble_eq_true rfl) ?_
  intro p e s m args below meth c Cx hr hlk hnm hW ls hl
  have Cx : sC G p m c cX6_addCut 3 s args RX6 := Cx
  obtain ⟨hx, hb, hml, hown, hts⟩ := id Cx.1
  have hL : sL G [] := sL_nil
  have hl : lv_has ls 3 [(0, .ref (G.2.2.1 + 193)), (1, .ref (G.2.2.1 + 213))] := hl
  have hW0 := hW
  have hn0 : 0 ≤ S.1 193 8 ∧ S.1 193 8 ≤ 12 := hI.fi 193 8 6 (by decide) rfl; have hc0 : 0 ≤ S.1 193 9 ∧ S.1 193 9 ≤ 40 := hI.fi 193 9 6 (by decide) rfl; have hR1 := hR.1; have hR2 := hR.2.1
  refine lv_aload_n hx hb dX6_addCut_0 rfl (lv_at hl 0 rfl) ?_
  have q_1 : 0 ≤ S.1 193 9 ∧ S.1 193 9 ≤ 40 := hI.fi 193 9 6 (by decide) rfl
  refine sBi (sV (As := []) (rest := []) (k := 193) Cx (s_X6_isFull_193 l G S  hI) (c_X6_97 Cx rfl rfl (rmk_ok (by omega) (by decide))) hW (by decide) rfl rfl rfl hl.1 rfl (Nat.le_of_ble_eq_true rfl) dX6_addCut_1 ⟨Nat.le_of_ble_eq_true rfl, Nat.le_of_ble_eq_true rfl⟩) hL (fun r_4 u_2 H locs k_3 hW hL => ?_)
  obtain ⟨eu_2, xu_2⟩ := k_3
  rw [eu_2] at hW
  refine r_if_eq (tgt := 9) hx hb ⟨(by omega), (by omega)⟩ dX6_addCut_4 (by decide) (fun c_5 => ?_) (fun c_5 => ?_)
  · refine lv_iconst (v := iv 0) hx hb dX6_addCut_9 (by decide) ?_
    refine lv_istore_n (lv' := [(2, .int (iv 0)), (0, .ref (G.2.2.1 + 193)), (1, .ref (G.2.2.1 + 213))]) hx hb dX6_addCut_10 rfl hl (by decide) rfl (fun ls hl => ?_)
    have loop_11 : ∀ (fuel : Nat) (S11 : sS) (j : Int) (H : Heap) (locs : List Loc) (ls : Array Slot), (13 - j).toNat < fuel → (cX G S11 0 0 0) → (Fr S S11 pRw) → (Fr S S11 pRw) → (0 ≤ j ∧ j ≤ 13) → (S11.1 213 1 ≤ 30) → (S11.1 213 2 = S.1 213 2) → (j ≤ n + 1) → (S11.1 193 9 = cc ∧ S11.1 193 8 = n) → (Hd (RWv S11 n cc RR)) → (Hd (FCv S11 ff)) → (Hd (bs S11 213)) → (bv S11 213 = bv S 213) → (Hd (∀ i, 0 ≤ i → i < j → nv (S11.2.1 194) (((cc + 1) * 13 + i) * 8) = smf ff RR i cc.toNat / bv S 213 ∧ ¬ lg60 (smf ff RR i cc.toNat / bv S 213))) → sW G 294 S11 H → sL G locs → lv_has ls 3 [(2, .int (iv j)), (0, .ref (G.2.2.1 + 193)), (1, .ref (G.2.2.1 + 213))] → W p l e (rmk 5 0 0) s m args below meth c H locs 0 0 (MQ below (sQi G 294 (fun r u => cX G u 0 0 0 ∧ Fr S u pRw ∧ (0 ≤ r ∧ r ≤ 1 ∧ Hd (r = 1 → cc < 40 ∧ RWv u n (cc + 1) (upR RR (cc + 1) (fun j => smf ff RR j cc.toNat / bv S 213)) ∧ ∀ j, 0 ≤ j → j ≤ n → ¬ lg60 (smf ff RR j cc.toNat / bv S 213)) ∧ Hd (r = 0 → 40 ≤ cc ∨ ∃ j, 0 ≤ j ∧ j ≤ n ∧ lg60 (smf ff RR j cc.toNat / bv S 213))))) args s 0 0 (sF G)) (F0 m 11 ls []) := by
      intro fuel
      induction fuel with
      | zero => intro S11 j H locs ls hmeas hI11 hFm11 hL11_ hj hq2 hs2 hjn hcf hRl hFl hbl hvl hnl hW hL hl; exact absurd hmeas (Nat.not_lt_zero _)
      | succ fuel ih_11 =>
        intro S11 j H locs ls hmeas hI11 hFm11 hL11_ hj hq2 hs2 hjn hcf hRl hFl hbl hvl hnl hW hL hl
        refine lv_iload_n hx hb dX6_addCut_11 rfl (lv_at hl 0 rfl) ?_
        refine lv_aload_n hx hb dX6_addCut_12 rfl (lv_at hl 1 rfl) ?_
        have q_6 : 0 ≤ S11.1 193 8 ∧ S11.1 193 8 ≤ 12 := hI11.fi 193 8 6 (by decide) rfl
        refine g_X6_46 Cx hW (k := 193) (by decide) rfl (v := S11.1 193 8) rfl dX6_addCut_13 ?_
        refine r_icmp_gt (tgt := 85) hx hb ⟨(by omega), (by omega)⟩ ⟨(by omega), (by omega)⟩ dX6_addCut_16 (by decide) (fun c_7 => ?_) (fun c_7 => ?_)
        · refine lv_aload_n hx hb dX6_addCut_85 rfl (lv_at hl 1 rfl) ?_
          refine lv_dup hx hb dX6_addCut_86 rfl ?_
          have q_8 : 0 ≤ S11.1 193 9 ∧ S11.1 193 9 ≤ 40 := hI11.fi 193 9 6 (by decide) rfl
          refine g_X6_50 Cx hW (k := 193) (by decide) rfl (v := S11.1 193 9) rfl dX6_addCut_87 ?_
          refine lv_iconst (v := iv 1) hx hb dX6_addCut_90 (by decide) ?_
          refine r_iadd hx hb dX6_addCut_91 ?_
          refine p_X6_50 Cx hW hL (k := 193) (by decide) rfl dX6_addCut_92 (fun H locs hW hL => ?_)
          have F_9 : Fr S (uF S11 193 9 ((S11.1 193 9) + 1)) pRw := hFm11.F rfl
          have F_10 : Fr S (uF S11 193 9 ((S11.1 193 9) + 1)) pRw := hL11_.F rfl
          have i_11 : cX G (uF S11 193 9 ((S11.1 193 9) + 1)) 0 0 0 := hI11.F rfl rfl (show 0 ≤ (S11.1 193 9) + 1 ∧ (S11.1 193 9) + 1 ≤ 40 from ⟨by omega, by omega⟩)
          refine lv_iconst (v := iv 1) hx hb dX6_addCut_95 (by decide) ?_
          exact sZret Cx hr hlk hW hL (by omega) ⟨i_11, F_9, ⟨(by omega), (by omega), (fun _ => ⟨by omega, RWv.up hRl ((uF_ne (by decide)).trans hRl.1) (uF_on.trans (by have := hRl.2.1; omega)) rfl (fun i a b => (hnl i a (by omega)).1), fun i a b => (hnl i a (by omega)).2⟩), (fun q => absurd q (by omega))⟩⟩ dX6_addCut_96
        · refine lv_aload_n hx hb dX6_addCut_19 rfl (lv_at hl 1 rfl) ?_
          refine lv_iload_n hx hb dX6_addCut_20 rfl (lv_at hl 0 rfl) ?_
          refine lv_aload_n hx hb dX6_addCut_21 rfl (lv_at hl 1 rfl) ?_
          refine g_X6_31 Cx hW (k := 193) (by decide) rfl (v := .ref (G.2.2.1 + 202)) (rf_193_5 hI11) dX6_addCut_22 ?_
          refine sBv (sV (As := [.int (iv j), .ref (G.2.2.1 + 202)]) (rest := []) (k := 193) Cx (b_X6_combine_193_202 l G S11 (j := j) (n := n) (cc := cc) (RR := RR) (ff := ff) hI11 (by omega) hRl hFl (by omega)) (c_X6_101 Cx rfl rfl (rmk_ok (by omega) (by decide))) hW (by decide) rfl rfl rfl hl.1 rfl (Nat.le_of_ble_eq_true rfl) dX6_addCut_25 ⟨Nat.le_of_ble_eq_true rfl, Nat.le_of_ble_eq_true rfl⟩) hL (fun u_12 H locs k_13 hW hL => ?_)
          obtain ⟨iu_12, fu_12, xu_12⟩ := k_13
          have F_14 := hFm11.trans (fu_12.to (pK_sub rgW_193 rfl rfl))
          have F_15 := hL11_.trans (fu_12.to (pK_sub rgW_193 rfl rfl))
          have bv_16 : bv u_12 202 = smf ff RR j cc.toNat := xu_12.2.2.1
          refine lv_aload_n hx hb dX6_addCut_28 rfl (lv_at hl 1 rfl) ?_
          refine g_X6_31 Cx hW (k := 193) (by decide) rfl (v := .ref (G.2.2.1 + 202)) (rf_193_5 iu_12) dX6_addCut_29 ?_
          refine lv_aload_n hx hb dX6_addCut_32 rfl (lv_at hl 2 rfl) ?_
          refine lv_aload_n hx hb dX6_addCut_33 rfl (lv_at hl 1 rfl) ?_
          refine g_X6_34 Cx hW (k := 193) (by decide) rfl (v := .ref (G.2.2.1 + 204)) (rf_193_6 iu_12) dX6_addCut_34 ?_
          refine lv_aload_n hx hb dX6_addCut_37 rfl (lv_at hl 1 rfl) ?_
          refine g_X6_37 Cx hW (k := 193) (by decide) rfl (v := .ref (G.2.2.1 + 206)) (rf_193_7 iu_12) dX6_addCut_38 ?_
          have q_17 : 0 ≤ u_12.1 202 1 ∧ u_12.1 202 1 ≤ 32 := iu_12.fi 202 1 0 (by decide) rfl
          have q_18 : 0 ≤ S.1 213 1 ∧ S.1 213 1 ≤ 32 := hI.fi 213 1 0 (by decide) rfl
          have lk_19 : u_12.1 213 1 = S.1 213 1 := ((fu_12 213 rfl).1 1).trans ((hL11_ 213 rfl).1 1)
          have q_20 : (-1) ≤ u_12.1 202 2 ∧ u_12.1 202 2 ≤ 1 := iu_12.fi 202 2 0 (by decide) rfl
          have q_21 : (-1) ≤ S.1 213 2 ∧ S.1 213 2 ≤ 1 := hI.fi 213 2 0 (by decide) rfl
          have lk_22 : u_12.1 213 2 = S.1 213 2 := ((fu_12 213 rfl).1 2).trans ((hL11_ 213 rfl).1 2)
          refine sBv (sV (As := [.ref (G.2.2.1 + 213), .ref (G.2.2.1 + 204), .ref (G.2.2.1 + 206)]) (rest := []) (k := 202) Cx (b_X0_divide l G u_12 (o := 202) (b := 213) (q := 204) (h := 206) (n := 15) iu_12 rfl rfl rfl rfl (show (202 : Nat) ≠ 213 by decide) (show (202 : Nat) ≠ 204 by decide) (show (202 : Nat) ≠ 206 by decide) (show (213 : Nat) ≠ 204 by decide) (show (213 : Nat) ≠ 206 by decide) (show (204 : Nat) ≠ 206 by decide) (show Hd (bs u_12 202) from xu_12.2.2.2) (show Hd (bs u_12 213) from (bs_fr fu_12 rfl hbl)) (by omega)) (c_X6_105 Cx rfl rfl (rmk_ok (by omega) (by decide))) hW (by decide) rfl rfl rfl hl.1 rfl (Nat.le_of_ble_eq_true rfl) dX6_addCut_41 ⟨Nat.le_of_ble_eq_true rfl, Nat.le_of_ble_eq_true rfl⟩) hL (fun u_23 H locs k_24 hW hL => ?_)
          obtain ⟨iu_23, fu_23, xu_23⟩ := k_24
          have F_25 := F_14.trans (fu_23.to (pD_sub (pB_sub rfl rfl) (pB_sub rfl rfl) (pB_sub rfl rfl)))
          have F_26 := F_15.trans (fu_23.to (pD_sub (pB_sub rfl rfl) (pB_sub rfl rfl) (pB_sub rfl rfl)))
          have bv_27 : bv u_23 204 = (smf ff RR j cc.toNat) / (bv S 213) := (by have e : bv u_23 204 = _ := (xu_23.2.2.2.2.2.2.1 (by omega)).1; rw [(show bv u_12 202 = smf ff RR j cc.toNat from bv_16), (show bv u_12 213 = bv S 213 from (bv_fr fu_12 rfl rfl).trans (hvl))] at e; exact e)
          have bv_28 : bv u_23 202 = (smf ff RR j cc.toNat) % (bv S 213) := (by have e : bv u_23 202 = _ := (xu_23.2.2.2.2.2.2.1 (by omega)).2; rw [(show bv u_12 202 = smf ff RR j cc.toNat from bv_16), (show bv u_12 213 = bv S 213 from (bv_fr fu_12 rfl rfl).trans (hvl))] at e; exact e)
          refine lv_aload_n hx hb dX6_addCut_44 rfl (lv_at hl 1 rfl) ?_
          refine g_X6_34 Cx hW (k := 193) (by decide) rfl (v := .ref (G.2.2.1 + 204)) (rf_193_6 iu_23) dX6_addCut_45 ?_
          have q_29 : 0 ≤ u_23.1 204 1 ∧ u_23.1 204 1 ≤ 32 := iu_23.fi 204 1 0 (by decide) rfl
          refine sBi (sV (As := []) (rest := []) (k := 204) Cx (b_X0_digitCount l G u_23 (o := 204) iu_23 rfl) (c_X6_109 Cx rfl rfl (rmk_ok (by omega) (by decide))) hW (by decide) rfl rfl rfl hl.1 rfl (Nat.le_of_ble_eq_true rfl) dX6_addCut_48 ⟨Nat.le_of_ble_eq_true rfl, Nat.le_of_ble_eq_true rfl⟩) hL (fun r_32 u_30 H locs k_31 hW hL => ?_)
          obtain ⟨eu_30, xu_30⟩ := k_31
          rw [eu_30] at hW
          refine lv_bipush (v := iv 60) hx hb dX6_addCut_51 (by decide) ?_
          refine r_icmp_le (tgt := 58) hx hb ⟨(by omega), (by omega)⟩ ⟨(by omega), (by omega)⟩ dX6_addCut_53 (by decide) (fun c_33 => ?_) (fun c_33 => ?_)
          · refine lv_aload_n hx hb dX6_addCut_58 rfl (lv_at hl 1 rfl) ?_
            refine g_X6_34 Cx hW (k := 193) (by decide) rfl (v := .ref (G.2.2.1 + 204)) (rf_193_6 iu_23) dX6_addCut_59 ?_
            refine lv_aload_n hx hb dX6_addCut_62 rfl (lv_at hl 1 rfl) ?_
            refine g_X6_13 Cx hW (k := 193) (by decide) rfl (v := .ref (G.2.2.1 + 194)) (rf_193_0 iu_23) dX6_addCut_63 ?_
            refine lv_aload_n hx hb dX6_addCut_66 rfl (lv_at hl 1 rfl) ?_
            have q_34 : 0 ≤ S11.1 193 9 ∧ S11.1 193 9 ≤ 40 := hI11.fi 193 9 6 (by decide) rfl
            refine g_X6_50 Cx hW (k := 193) (by decide) rfl (v := S11.1 193 9) (((fu_23 193 rfl).1 9).trans ((fu_12 193 rfl).1 9)) dX6_addCut_67 ?_
            refine lv_iconst (v := iv 1) hx hb dX6_addCut_70 (by decide) ?_
            refine r_iadd hx hb dX6_addCut_71 ?_
            refine lv_iload_n hx hb dX6_addCut_72 rfl (lv_at hl 0 rfl) ?_
            refine sBi (sSt (As := [.int (iv ((S11.1 193 9) + 1)), .int (iv j)]) (rest := [.ref (G.2.2.1 + 194), .ref (G.2.2.1 + 204)]) Cx (s_X6_at l G u_23 (k := (S11.1 193 9) + 1) (j := j) (by omega) (by omega)) (c_X6_53 Cx rfl rfl (rmk_ok (by omega) (by decide))) hW rfl hl.1 rfl (Nat.le_of_ble_eq_true rfl) dX6_addCut_73 ⟨Nat.le_of_ble_eq_true rfl, Nat.le_of_ble_eq_true rfl⟩) hL (fun r_37 u_35 H locs k_36 hW hL => ?_)
            obtain ⟨eu_35, xu_35⟩ := k_36
            rw [eu_35] at hW
            have q_38 : (-1) ≤ u_23.1 204 2 ∧ u_23.1 204 2 ≤ 1 := iu_23.fi 204 2 0 (by decide) rfl
            refine sBv (sV (As := [.ref (G.2.2.1 + 194), .int (iv r_37)]) (rest := []) (k := 204) Cx (b_X0_save l G u_23 (o := 204) (k := 194) (a := r_37) (N := 4264) iu_23 rfl ⟨by decide, rfl, by decide, rfl, rfl, rfl⟩ (by omega) (show _ ≤ (7 : Int) ∧ (_ → _ ≤ (999999999 : Int)) from ⟨by omega, fun _ => by have := limbR iu_23 (rfl : tau 204 = .inl 0) 6; omega⟩) (fun q _ => by rcases q with q | q <;> exact absurd q (by decide))) (c_X6_83 Cx rfl rfl (rmk_ok (by omega) (by decide))) hW (by decide) rfl rfl rfl hl.1 rfl (Nat.le_of_ble_eq_true rfl) dX6_addCut_76 ⟨Nat.le_of_ble_eq_true rfl, Nat.le_of_ble_eq_true rfl⟩) hL (fun u_39 H locs k_40 hW hL => ?_)
            obtain ⟨iu_39, fu_39, xu_39⟩ := k_40
            have F_41 := F_25.trans (fu_39.to (p1_sub rfl))
            have F_42 := F_26.trans (fu_39.to (p1_sub rfl))
            refine lv_iinc (v := iv (j + 1)) (lv' := [(2, .int (iv (j + 1))), (0, .ref (G.2.2.1 + 193)), (1, .ref (G.2.2.1 + 213))]) hx hb dX6_addCut_79 hl (k := 0) rfl ((Int32.ofInt_add _ _).symm) (by decide) rfl (fun ls hl => ?_)
            refine lv_goto (tgt := 11) hx hb dX6_addCut_82 (by decide) ?_
            have lk_43 : u_39.1 213 1 = S.1 213 1 := ((fu_39 213 rfl).1 1).trans (((fu_23 213 rfl).1 1).trans (((fu_12 213 rfl).1 1).trans ((hL11_ 213 rfl).1 1)))
            have lk_44 : u_39.1 213 2 = S.1 213 2 := ((fu_39 213 rfl).1 2).trans (((fu_23 213 rfl).1 2).trans (((fu_12 213 rfl).1 2).trans ((hL11_ 213 rfl).1 2)))
            have lk_45 : u_39.1 193 9 = S11.1 193 9 := ((fu_39 193 rfl).1 9).trans (((fu_23 193 rfl).1 9).trans ((fu_12 193 rfl).1 9))
            have lk_46 : u_39.1 193 8 = S11.1 193 8 := ((fu_39 193 rfl).1 8).trans (((fu_23 193 rfl).1 8).trans ((fu_12 193 rfl).1 8))
            exact ih_11 u_39 (j + 1) _ _ _ (by omega) iu_39 F_41 F_42 (by omega) (by omega) (by omega) (by omega) (by omega) (RWv.sv (RWv.of hRl (show u_23.1 193 8 = S11.1 193 8 from ((fu_23 193 rfl).1 8).trans ((fu_12 193 rfl).1 8)) (show u_23.1 193 9 = S11.1 193 9 from ((fu_23 193 rfl).1 9).trans ((fu_12 193 rfl).1 9)) (show u_23.2.1 194 = S11.2.1 194 from funext fun x => ((fu_23 194 rfl).2.1 x).trans ((fu_12 194 rfl).2.1 x))) iu_23 (by omega) (by omega) (show r_37 = ((cc + 1) * 13 + j) * 8 by omega) (by omega) ((fu_39 193 rfl).1 8) ((fu_39 193 rfl).1 9) xu_39.2) (FCv.of hFl (show u_39.2.1 195 = S11.2.1 195 from funext fun x => ((fu_39 195 rfl).2.1 x).trans (((fu_23 195 rfl).2.1 x).trans ((fu_12 195 rfl).2.1 x)))) (show Hd (bs u_39 213) from (bs_fr fu_39 rfl (bs_fr fu_23 rfl (bs_fr fu_12 rfl hbl)))) (show bv u_39 213 = bv S 213 from (bv_fr fu_39 rfl rfl).trans ((bv_fr fu_23 rfl rfl).trans ((bv_fr fu_12 rfl rfl).trans (hvl)))) (fun i a b => by by_cases q : i = j; (rw [q, ← show r_37 = ((cc + 1) * 13 + j) * 8 by omega, xu_39.1 (show Hd (bs u_23 204) from xu_23.2.2.2.2.2.2.2.1), (show bv u_23 204 = (smf ff RR j cc.toNat) / (bv S 213) from bv_27)]; refine ⟨rfl, fun z => ?_⟩; have y := xu_30.2.2.2; rw [show (_ ↔ _) = _ from rfl] at y; exact absurd (y.mpr ((lg_B iu_23 rfl (show Hd (bs u_23 204) from xu_23.2.2.2.2.2.2.2.1)).mpr (by rw [(show bv u_23 204 = (smf ff RR j cc.toNat) / (bv S 213) from bv_27)]; exact z))) (by omega)); (have e := hnl i a (by omega); rw [nv_sv iu_23 (by omega) xu_39.2 (by omega), (show u_23.2.1 194 = S11.2.1 194 from funext fun x => ((fu_23 194 rfl).2.1 x).trans ((fu_12 194 rfl).2.1 x))]; exact e)) hW hL (lv_sub hl [0, 1, 2] rfl)
          · refine lv_iconst (v := iv 0) hx hb dX6_addCut_56 (by decide) ?_
            exact sZret Cx hr hlk hW hL (by omega) ⟨iu_23, F_25, ⟨(by omega), (by omega), (fun q => absurd q (by omega)), (fun _ => .inr ⟨j, by omega, by omega, by have y := (xu_30.2.2.2).mp (by omega); have z := (lg_B iu_23 rfl (show Hd (bs u_23 204) from xu_23.2.2.2.2.2.2.2.1)).mp y; rw [(show bv u_23 204 = (smf ff RR j cc.toNat) / (bv S 213) from bv_27)] at z; exact z⟩)⟩⟩ dX6_addCut_57
    have q_47 : 0 ≤ S.1 213 1 ∧ S.1 213 1 ≤ 32 := hI.fi 213 1 0 (by decide) rfl
    have q_48 : (-1) ≤ S.1 213 2 ∧ S.1 213 2 ≤ 1 := hI.fi 213 2 0 (by decide) rfl
    have q_49 : 0 ≤ S.1 193 8 ∧ S.1 193 8 ≤ 12 := hI.fi 193 8 6 (by decide) rfl
    exact loop_11 (_ + 1) S 0 _ _ _ (Nat.lt_succ_self _) hI (Fr.rf : Fr S S pRw) Fr.rf (by omega) (by omega) (by omega) (by omega) (by omega) hR hF (show Hd (bs S 213) from hbq) (show bv S 213 = bv S 213 from rfl) (fun i a b => absurd b (by omega)) hW hL (lv_sub hl [0, 1, 2] rfl)
  · refine lv_iconst (v := iv 0) hx hb dX6_addCut_7 (by decide) ?_
    exact sZret Cx hr hlk hW hL (by omega) ⟨hI, (Fr.rf : Fr S S pRw), ⟨(by omega), (by omega), (fun q => absurd q (by omega)), (fun _ => .inl (by omega))⟩⟩ dX6_addCut_8

set_option maxRecDepth 100000 in
set_option maxHeartbeats 4000000 in
theorem b_X6_addLimit_193 (l : Launch) (G : sG) (S : sS) {z ab : Int} {n cc : Int} {RR : Int → Int → Int} (hI : cX G S 0 0 0) (hz : -2147483648 ≤ z ∧ z ≤ 2147483647) (hab : 0 ≤ ab ∧ ab ≤ 1) (hv : S.1 219 1 ≤ 7) (hv6 : Hd (S.1 219 1 = 7 → S.2.1 220 6 ≤ 999999)) (hR : Hd (RWv S n cc RR)) (hbv : Hd (bs S 219)) : Met l yX6_addLimit (.code yX6_addLimit cX6_addLimit 5 none :: tb) (rmk 4 0 0) (sPc G 294 S [.ref (G.2.2.1 + 193), .int (iv z), .ref (G.2.2.1 + 219), .int (iv ab)]) (sQv G 294 (fun u => cX G u 0 0 0 ∧ Fr S u pRw ∧ (Hd (cc < 40 → 1 ≤ z → z ≤ n → RWv u n (cc + 1) (upR RR (cc + 1) (limr z (bv S 219) ab)))))) 0 0 (sF G) := by
  refine sEnter (by decide) (Nat.le_of_ble_eq_true rfl) ?_
  intro p e s m args below meth c Cx hr hlk hnm hW ls hl
  have Cx : sC G p m c cX6_addLimit 5 s args RX6 := Cx
  obtain ⟨hx, hb, hml, hown, hts⟩ := id Cx.1
  have hL : sL G [] := sL_nil
  have hl : lv_has ls 5 [(0, .ref (G.2.2.1 + 193)), (1, .int (iv z)), (2, .ref (G.2.2.1 + 219)), (3, .int (iv ab))] := hl
  have hW0 := hW
  have hn0 : 0 ≤ S.1 193 8 ∧ S.1 193 8 ≤ 12 := hI.fi 193 8 6 (by decide) rfl; have hc0 : 0 ≤ S.1 193 9 ∧ S.1 193 9 ≤ 40 := hI.fi 193 9 6 (by decide) rfl; have hR1 := hR.1; have hR2 := hR.2.1
  refine lv_aload_n hx hb dX6_addLimit_0 rfl (lv_at hl 0 rfl) ?_
  have q_1 : 0 ≤ S.1 193 9 ∧ S.1 193 9 ≤ 40 := hI.fi 193 9 6 (by decide) rfl
  refine sBi (sV (As := []) (rest := []) (k := 193) Cx (s_X6_isFull_193 l G S  hI) (c_X6_97 Cx rfl rfl (rmk_ok (by omega) (by decide))) hW (by decide) rfl rfl rfl hl.1 rfl (Nat.le_of_ble_eq_true rfl) dX6_addLimit_1 ⟨Nat.le_of_ble_eq_true rfl, Nat.le_of_ble_eq_true rfl⟩) hL (fun r_4 u_2 H locs k_3 hW hL => ?_)
  obtain ⟨eu_2, xu_2⟩ := k_3
  rw [eu_2] at hW
  refine r_if_ne (tgt := 20) hx hb ⟨(by omega), (by omega)⟩ dX6_addLimit_4 (by decide) (fun c_5 => ?_) (fun c_5 => ?_)
  · exact sVret Cx hr hlk hW hL ⟨hI, (Fr.rf : Fr S S pRw), (fun a b d => by exfalso; omega)⟩ dX6_addLimit_20
  · refine lv_iload_n hx hb dX6_addLimit_7 rfl (lv_at hl 1 rfl) ?_
    refine lv_iconst (v := iv 1) hx hb dX6_addLimit_8 (by decide) ?_
    refine r_icmp_lt (tgt := 20) hx hb ⟨(by omega), (by omega)⟩ ⟨(by omega), (by omega)⟩ dX6_addLimit_9 (by decide) (fun c_6 => ?_) (fun c_6 => ?_)
    · exact sVret Cx hr hlk hW hL ⟨hI, (Fr.rf : Fr S S pRw), (fun a b d => by exfalso; omega)⟩ dX6_addLimit_20
    · refine lv_iload_n hx hb dX6_addLimit_12 rfl (lv_at hl 1 rfl) ?_
      refine lv_aload_n hx hb dX6_addLimit_13 rfl (lv_at hl 0 rfl) ?_
      have q_7 : 0 ≤ S.1 193 8 ∧ S.1 193 8 ≤ 12 := hI.fi 193 8 6 (by decide) rfl
      refine g_X6_46 Cx hW (k := 193) (by decide) rfl (v := S.1 193 8) rfl dX6_addLimit_14 ?_
      refine r_icmp_le (tgt := 21) hx hb ⟨(by omega), (by omega)⟩ ⟨(by omega), (by omega)⟩ dX6_addLimit_17 (by decide) (fun c_8 => ?_) (fun c_8 => ?_)
      · refine lv_aload_n hx hb dX6_addLimit_21 rfl (lv_at hl 0 rfl) ?_
        refine lv_dup hx hb dX6_addLimit_22 rfl ?_
        refine g_X6_50 Cx hW (k := 193) (by decide) rfl (v := S.1 193 9) rfl dX6_addLimit_23 ?_
        refine lv_iconst (v := iv 1) hx hb dX6_addLimit_26 (by decide) ?_
        refine r_iadd hx hb dX6_addLimit_27 ?_
        refine p_X6_50 Cx hW hL (k := 193) (by decide) rfl dX6_addLimit_28 (fun H locs hW hL => ?_)
        have F_9 : Fr S (uF S 193 9 ((S.1 193 9) + 1)) pRw := (Fr.rf : Fr S S pRw).F rfl
        have i_10 : cX G (uF S 193 9 ((S.1 193 9) + 1)) 0 0 0 := hI.F rfl rfl (show 0 ≤ (S.1 193 9) + 1 ∧ (S.1 193 9) + 1 ≤ 40 from ⟨by omega, by omega⟩)
        refine lv_iconst (v := iv 1) hx hb dX6_addLimit_31 (by decide) ?_
        refine lv_istore (lv' := [(4, .int (iv 1)), (0, .ref (G.2.2.1 + 193)), (1, .int (iv z)), (2, .ref (G.2.2.1 + 219)), (3, .int (iv ab))]) hx hb dX6_addLimit_32 hl (by decide) rfl (fun ls hl => ?_)
        have loop_34 : ∀ (fuel : Nat) (S34 : sS) (j : Int) (H : Heap) (locs : List Loc) (ls : Array Slot), (13 - j).toNat < fuel → (cX G S34 0 0 0) → (Fr S S34 pRw) → (Fr ((uF S 193 9 ((S.1 193 9) + 1))) S34 pRw) → (1 ≤ j ∧ j ≤ 13) → (j ≤ n + 1) → (S34.1 193 9 = cc + 1 ∧ S34.1 193 8 = n) → (S34.1 219 1 ≤ 7) → (Hd (S34.1 219 1 = 7 → S34.2.1 220 6 ≤ 999999)) → (Hd (RRv S34 n cc RR)) → (Hd (bs S34 219)) → (bv S34 219 = bv S 219) → (Hd (∀ i, 1 ≤ i → i < j → nv (S34.2.1 194) (((cc + 1) * 13 + i) * 8) = limr z (bv S 219) ab i)) → sW G 294 S34 H → sL G locs → lv_has ls 5 [(4, .int (iv j)), (0, .ref (G.2.2.1 + 193)), (1, .int (iv z)), (2, .ref (G.2.2.1 + 219)), (3, .int (iv ab))] → W p l e (rmk 4 0 0) s m args below meth c H locs 0 0 (MQ below (sQv G 294 (fun u => cX G u 0 0 0 ∧ Fr S u pRw ∧ (Hd (cc < 40 → 1 ≤ z → z ≤ n → RWv u n (cc + 1) (upR RR (cc + 1) (limr z (bv S 219) ab)))))) args s 0 0 (sF G)) (F0 m 34 ls []) := by
          intro fuel
          induction fuel with
          | zero => intro S34 j H locs ls hmeas hI34 hFm34 hL34_ hj hjn hcf hv34 hv64 hRl hbl hvl hnl hW hL hl; exact absurd hmeas (Nat.not_lt_zero _)
          | succ fuel ih_34 =>
            intro S34 j H locs ls hmeas hI34 hFm34 hL34_ hj hjn hcf hv34 hv64 hRl hbl hvl hnl hW hL hl
            refine lv_iload hx hb dX6_addLimit_34 (lv_at hl 0 rfl) ?_
            refine lv_aload_n hx hb dX6_addLimit_36 rfl (lv_at hl 1 rfl) ?_
            have q_11 : 0 ≤ S34.1 193 8 ∧ S34.1 193 8 ≤ 12 := hI34.fi 193 8 6 (by decide) rfl
            refine g_X6_46 Cx hW (k := 193) (by decide) rfl (v := S34.1 193 8) rfl dX6_addLimit_37 ?_
            refine r_icmp_gt (tgt := 86) hx hb ⟨(by omega), (by omega)⟩ ⟨(by omega), (by omega)⟩ dX6_addLimit_40 (by decide) (fun c_12 => ?_) (fun c_12 => ?_)
            · refine lv_aload_n hx hb dX6_addLimit_86 rfl (lv_at hl 1 rfl) ?_
              refine g_X6_31 Cx hW (k := 193) (by decide) rfl (v := .ref (G.2.2.1 + 202)) (rf_193_5 hI34) dX6_addLimit_87 ?_
              refine lv_aload_n hx hb dX6_addLimit_90 rfl (lv_at hl 3 rfl) ?_
              have q_13 : 0 ≤ S.1 219 1 ∧ S.1 219 1 ≤ 32 := hI.fi 219 1 0 (by decide) rfl
              have lk_14 : S34.1 219 1 = S.1 219 1 := ((hL34_ 219 rfl).1 1).trans (uF_ne (fun h => absurd h.2 (by decide)))
              have q_15 : (-1) ≤ S.1 219 2 ∧ S.1 219 2 ≤ 1 := hI.fi 219 2 0 (by decide) rfl
              have lk_16 : S34.1 219 2 = S.1 219 2 := ((hL34_ 219 rfl).1 2).trans (uF_ne (fun h => absurd h.2 (by decide)))
              refine sBv (sV (As := [.ref (G.2.2.1 + 219)]) (rest := []) (k := 202) Cx (s_X0_copy l G S34 (o := 202) (a := 219) hI34 rfl rfl) (c_X6_115 Cx rfl rfl (rmk_ok (by omega) (by decide))) hW (by decide) rfl rfl rfl hl.1 rfl (Nat.le_of_ble_eq_true rfl) dX6_addLimit_91 ⟨Nat.le_of_ble_eq_true rfl, Nat.le_of_ble_eq_true rfl⟩) hL (fun u_17 H locs k_18 hW hL => ?_)
              obtain ⟨iu_17, fu_17, xu_17⟩ := k_18
              have F_19 := hFm34.trans (fu_17.to (pB_sub rfl rfl))
              have F_20 := hL34_.trans (fu_17.to (pB_sub rfl rfl))
              have bv_21 : bv u_17 202 = bv S 219 := (cp_bv xu_17.1 xu_17.2.1 xu_17.2.2).trans ((show bv S34 219 = bv S 219 from hvl))
              have hsm : Hd (u_17.1 202 1 = 7 → u_17.2.1 203 6 ≤ 999999) := fun q => by rw [xu_17.2.2 6 (by omega) (by omega)]; exact hv64 (by omega)
              have join_125 : ∀ (S125 : sS)  (H : Heap) (locs : List Loc) (ls : Array Slot), (cX G S125 0 0 0) → (Fr S S125 pRw) → (Fr ((uF S 193 9 ((S.1 193 9) + 1))) S125 pRw) → (Fr u_17 S125 pRw) → (S125.1 202 1 ≤ 7) → (S125.1 193 9 = cc + 1 ∧ S125.1 193 8 = n) → (Hd (bs S125 202)) → (bv S125 202 = limr z (bv S 219) ab 0) → (Hd (RRv S125 n cc RR)) → (Hd (∀ i, 1 ≤ i → i ≤ n → nv (S125.2.1 194) (((cc + 1) * 13 + i) * 8) = limr z (bv S 219) ab i)) → sW G 294 S125 H → sL G locs → lv_has ls 5 [(4, .int (iv j)), (0, .ref (G.2.2.1 + 193)), (1, .int (iv z)), (2, .ref (G.2.2.1 + 219)), (3, .int (iv ab))] → W p l e (rmk 4 0 0) s m args below meth c H locs 0 0 (MQ below (sQv G 294 (fun u => cX G u 0 0 0 ∧ Fr S u pRw ∧ (Hd (cc < 40 → 1 ≤ z → z ≤ n → RWv u n (cc + 1) (upR RR (cc + 1) (limr z (bv S 219) ab)))))) args s 0 0 (sF G)) (F0 m 125 ls []) := by
                intro S125  H locs ls hI125 hFm125 hFL34125 hL125_ hs7 hcf5 hb5 hv5 hR5 hn5 hW hL hl
                refine lv_aload_n hx hb dX6_addLimit_125 rfl (lv_at hl 1 rfl) ?_
                refine g_X6_31 Cx hW (k := 193) (by decide) rfl (v := .ref (G.2.2.1 + 202)) (rf_193_5 hI125) dX6_addLimit_126 ?_
                refine lv_aload_n hx hb dX6_addLimit_129 rfl (lv_at hl 1 rfl) ?_
                refine g_X6_13 Cx hW (k := 193) (by decide) rfl (v := .ref (G.2.2.1 + 194)) (rf_193_0 hI125) dX6_addLimit_130 ?_
                refine lv_aload_n hx hb dX6_addLimit_133 rfl (lv_at hl 1 rfl) ?_
                have q_22 : 0 ≤ S125.1 193 9 ∧ S125.1 193 9 ≤ 40 := hI125.fi 193 9 6 (by decide) rfl
                refine g_X6_50 Cx hW (k := 193) (by decide) rfl (v := S125.1 193 9) rfl dX6_addLimit_134 ?_
                refine lv_iconst (v := iv 0) hx hb dX6_addLimit_137 (by decide) ?_
                refine sBi (sSt (As := [.int (iv (S125.1 193 9)), .int (iv 0)]) (rest := [.ref (G.2.2.1 + 194), .ref (G.2.2.1 + 202)]) Cx (s_X6_at l G S125 (k := S125.1 193 9) (j := 0) (by omega) (by omega)) (c_X6_53 Cx rfl rfl (rmk_ok (by omega) (by decide))) hW rfl hl.1 rfl (Nat.le_of_ble_eq_true rfl) dX6_addLimit_138 ⟨Nat.le_of_ble_eq_true rfl, Nat.le_of_ble_eq_true rfl⟩) hL (fun r_25 u_23 H locs k_24 hW hL => ?_)
                obtain ⟨eu_23, xu_23⟩ := k_24
                rw [eu_23] at hW
                have q_26 : 0 ≤ S125.1 202 1 ∧ S125.1 202 1 ≤ 32 := hI125.fi 202 1 0 (by decide) rfl
                have q_27 : (-1) ≤ S125.1 202 2 ∧ S125.1 202 2 ≤ 1 := hI125.fi 202 2 0 (by decide) rfl
                refine sBv (sV (As := [.ref (G.2.2.1 + 194), .int (iv r_25)]) (rest := []) (k := 202) Cx (b_X0_save l G S125 (o := 202) (k := 194) (a := r_25) (N := 4264) hI125 rfl ⟨by decide, rfl, by decide, rfl, rfl, rfl⟩ (by omega) (show _ ≤ (7 : Int) ∧ (_ → _ ≤ (999999999 : Int)) from ⟨by omega, fun _ => by have := limbR hI125 (rfl : tau 202 = .inl 0) 6; omega⟩) (fun q _ => by rcases q with q | q <;> exact absurd q (by decide))) (c_X6_83 Cx rfl rfl (rmk_ok (by omega) (by decide))) hW (by decide) rfl rfl rfl hl.1 rfl (Nat.le_of_ble_eq_true rfl) dX6_addLimit_141 ⟨Nat.le_of_ble_eq_true rfl, Nat.le_of_ble_eq_true rfl⟩) hL (fun u_28 H locs k_29 hW hL => ?_)
                obtain ⟨iu_28, fu_28, xu_28⟩ := k_29
                have F_30 := hFm125.trans (fu_28.to (p1_sub rfl))
                have F_31 := hFL34125.trans (fu_28.to (p1_sub rfl))
                have F_32 := hL125_.trans (fu_28.to (p1_sub rfl))
                have q_33 : 0 ≤ S125.1 193 8 ∧ S125.1 193 8 ≤ 12 := hI125.fi 193 8 6 (by decide) rfl
                have lk_34 : u_28.1 193 8 = S125.1 193 8 := (fu_28 193 rfl).1 8
                have lk_35 : u_28.1 193 9 = S125.1 193 9 := (fu_28 193 rfl).1 9
                exact sVret Cx hr hlk hW hL ⟨iu_28, F_30, (fun _ _ _ => by have hq := (RRv.sv hR5 hI125 (by omega) (by omega) (show r_25 = ((cc + 1) * 13 + 0) * 8 by omega) (by omega) xu_28.2); refine ⟨by omega, by omega, fun k i k0 k1 i0 i1 => ?_⟩; unfold upR; by_cases q : k = cc + 1; (rw [if_pos q, q]; by_cases y : i = 0; (rw [y, ← show r_25 = ((cc + 1) * 13 + 0) * 8 by omega, xu_28.1 (show Hd (bs S125 202) from hb5), (show bv S125 202 = limr z (bv S 219) ab 0 from hv5)]); (rw [nv_sv hI125 (by omega) xu_28.2 (by omega), (show S125.2.1 194 = S125.2.1 194 from funext fun x => rfl)]; exact hn5 i (by omega) (by omega))); (rw [if_neg q]; exact hq k i k0 (by omega) i0 i1))⟩ dX6_addLimit_144
              refine lv_iload_n hx hb dX6_addLimit_94 rfl (lv_at hl 4 rfl) ?_
              refine r_if_eq (tgt := 125) hx hb ⟨(by omega), (by omega)⟩ dX6_addLimit_95 (by decide) (fun c_36 => ?_) (fun c_36 => ?_)
              · have q_37 : 0 ≤ u_17.1 202 1 ∧ u_17.1 202 1 ≤ 32 := iu_17.fi 202 1 0 (by decide) rfl
                have q_38 : 0 ≤ S34.1 193 9 ∧ S34.1 193 9 ≤ 40 := hI34.fi 193 9 6 (by decide) rfl
                have lk_39 : u_17.1 193 9 = S34.1 193 9 := (fu_17 193 rfl).1 9
                have lk_40 : u_17.1 193 8 = S34.1 193 8 := (fu_17 193 rfl).1 8
                exact join_125 u_17  _ _ _ iu_17 F_19 F_20 (Fr.rf : Fr u_17 u_17 pRw) (by omega) (by omega) (show Hd (bs u_17 202) from (cp_bs xu_17.1 xu_17.2.1 (show Hd (bs S34 219) from hbl))) (show _ = _ by rw [(show bv u_17 202 = bv S 219 from bv_21)]; unfold limr; rw [if_pos rfl]; first | rw [if_pos (by omega)] | rw [if_neg (by omega)]) (RRv.of hRl (show u_17.2.1 194 = S34.2.1 194 from funext fun x => (fu_17 194 rfl).2.1 x)) (fun i a b => by rw [(show u_17.2.1 194 = S34.2.1 194 from funext fun x => (fu_17 194 rfl).2.1 x)]; exact hnl i a (by omega)) hW hL (lv_sub hl [0, 1, 2, 3, 4] rfl)
              · refine lv_aload_n hx hb dX6_addLimit_98 rfl (lv_at hl 1 rfl) ?_
                refine g_X6_37 Cx hW (k := 193) (by decide) rfl (v := .ref (G.2.2.1 + 206)) (rf_193_7 iu_17) dX6_addLimit_99 ?_
                refine lv_lconst (v := jv 1) hx hb dX6_addLimit_102 (by decide) ?_
                refine sBv (sV (As := [.long (jv 1)]) (rest := []) (k := 206) Cx (b_X0_put l G u_17 (o := 206) (v := 1) iu_17 rfl (by omega)) (c_X6_86 Cx rfl rfl (rmk_ok (by omega) (by decide))) hW (by decide) rfl rfl rfl hl.1 rfl (Nat.le_of_ble_eq_true rfl) dX6_addLimit_103 ⟨Nat.le_of_ble_eq_true rfl, Nat.le_of_ble_eq_true rfl⟩) hL (fun u_41 H locs k_42 hW hL => ?_)
                obtain ⟨iu_41, fu_41, xu_41⟩ := k_42
                have F_43 := F_19.trans (fu_41.to (pB_sub rfl rfl))
                have F_44 := F_20.trans (fu_41.to (pB_sub rfl rfl))
                have F_45 := (Fr.rf : Fr u_17 u_17 pRw).trans (fu_41.to (pB_sub rfl rfl))
                have bv_46 : bv u_41 206 = 1 := (xu_41.2.2.2.2.2 (by decide) (by decide)).1
                refine lv_aload_n hx hb dX6_addLimit_106 rfl (lv_at hl 1 rfl) ?_
                refine g_X6_31 Cx hW (k := 193) (by decide) rfl (v := .ref (G.2.2.1 + 202)) (rf_193_5 iu_41) dX6_addLimit_107 ?_
                refine lv_aload_n hx hb dX6_addLimit_110 rfl (lv_at hl 1 rfl) ?_
                refine g_X6_37 Cx hW (k := 193) (by decide) rfl (v := .ref (G.2.2.1 + 206)) (rf_193_7 iu_41) dX6_addLimit_111 ?_
                refine lv_iconst (v := iv 1) hx hb dX6_addLimit_114 (by decide) ?_
                have q_47 : 0 ≤ u_41.1 206 1 ∧ u_41.1 206 1 ≤ 32 := iu_41.fi 206 1 0 (by decide) rfl
                have q_48 : 0 ≤ u_17.1 202 1 ∧ u_17.1 202 1 ≤ 32 := iu_17.fi 202 1 0 (by decide) rfl
                have lk_49 : u_41.1 202 1 = u_17.1 202 1 := (fu_41 202 rfl).1 1
                have q_50 : (-1) ≤ u_17.1 202 2 ∧ u_17.1 202 2 ≤ 1 := iu_17.fi 202 2 0 (by decide) rfl
                have lk_51 : u_41.1 202 2 = u_17.1 202 2 := (fu_41 202 rfl).1 2
                have q_52 : (-1) ≤ u_41.1 206 2 ∧ u_41.1 206 2 ≤ 1 := iu_41.fi 206 2 0 (by decide) rfl
                refine sBv (sV (As := [.ref (G.2.2.1 + 206), .int (iv 1)]) (rest := []) (k := 202) Cx (b_X0_add_p l G u_41 (o := 202) (a := 206) (n := 6) (t := 999999) iu_41 rfl rfl (show (202 : Nat) ≠ 206 by decide) (by omega) (fun q => by have e : u_41.2.1 203 6 = _ := (fu_41 203 rfl).2.1 6; rw [e]; exact hsm (by omega)) (show Hd (bs u_41 202) from (bs_fr fu_41 rfl (cp_bs xu_17.1 xu_17.2.1 (show Hd (bs S34 219) from hbl)))) (show Hd (bs u_41 206) from (xu_41.2.2.2.2.2 (by decide) (by decide)).2)) (c_X6_93 Cx rfl rfl (rmk_ok (by omega) (by decide))) hW (by decide) rfl rfl rfl hl.1 rfl (Nat.le_of_ble_eq_true rfl) dX6_addLimit_115 ⟨Nat.le_of_ble_eq_true rfl, Nat.le_of_ble_eq_true rfl⟩) hL (fun u_53 H locs k_54 hW hL => ?_)
                obtain ⟨iu_53, fu_53, xu_53⟩ := k_54
                have F_55 := F_43.trans (fu_53.to (pB_sub rfl rfl))
                have F_56 := F_44.trans (fu_53.to (pB_sub rfl rfl))
                have F_57 := F_45.trans (fu_53.to (pB_sub rfl rfl))
                have bv_58 : bv u_53 202 = bv S 219 + 1 := (by have e : bv u_53 202 = _ := xu_53.2.2.2.2.1; rw [(show bv u_41 202 = bv S 219 from (bv_fr fu_41 rfl rfl).trans (bv_21)), (show bv u_41 206 = 1 from bv_46)] at e; omega)
                refine lv_aload_n hx hb dX6_addLimit_118 rfl (lv_at hl 1 rfl) ?_
                refine g_X6_31 Cx hW (k := 193) (by decide) rfl (v := .ref (G.2.2.1 + 202)) (rf_193_5 iu_53) dX6_addLimit_119 ?_
                have q_59 : 0 ≤ u_53.1 202 1 ∧ u_53.1 202 1 ≤ 32 := iu_53.fi 202 1 0 (by decide) rfl
                have q_60 : (-1) ≤ u_53.1 202 2 ∧ u_53.1 202 2 ≤ 1 := iu_53.fi 202 2 0 (by decide) rfl
                refine sBv (sV (As := []) (rest := []) (k := 202) Cx (s_X0_turn l G u_53 (o := 202) iu_53 rfl) (c_X6_119 Cx rfl rfl (rmk_ok (by omega) (by decide))) hW (by decide) rfl rfl rfl hl.1 rfl (Nat.le_of_ble_eq_true rfl) dX6_addLimit_122 ⟨Nat.le_of_ble_eq_true rfl, Nat.le_of_ble_eq_true rfl⟩) hL (fun u_61 H locs k_62 hW hL => ?_)
                obtain ⟨iu_61, fu_61, xu_61⟩ := k_62
                have F_63 := F_55.trans (fu_61.to (pB_sub rfl rfl))
                have F_64 := F_56.trans (fu_61.to (pB_sub rfl rfl))
                have F_65 := F_57.trans (fu_61.to (pB_sub rfl rfl))
                have bv_66 : bv u_61 202 = -(bv S 219 + 1) := (tn_bv xu_61.1 xu_61.2.1 xu_61.2.2).trans (congrArg _ ((show bv u_53 202 = bv S 219 + 1 from bv_58)))
                have q_67 : 0 ≤ u_61.1 202 1 ∧ u_61.1 202 1 ≤ 32 := iu_61.fi 202 1 0 (by decide) rfl
                have q_68 : 0 ≤ S34.1 193 9 ∧ S34.1 193 9 ≤ 40 := hI34.fi 193 9 6 (by decide) rfl
                have lk_69 : u_61.1 193 9 = S34.1 193 9 := ((fu_61 193 rfl).1 9).trans (((fu_53 193 rfl).1 9).trans (((fu_41 193 rfl).1 9).trans ((fu_17 193 rfl).1 9)))
                have lk_70 : u_61.1 193 8 = S34.1 193 8 := ((fu_61 193 rfl).1 8).trans (((fu_53 193 rfl).1 8).trans (((fu_41 193 rfl).1 8).trans ((fu_17 193 rfl).1 8)))
                exact join_125 u_61  _ _ _ iu_61 F_63 F_64 F_65 (by omega) (by omega) (show Hd (bs u_61 202) from (tn_bs xu_61.1 xu_61.2.1 (show Hd (bs u_53 202) from xu_53.2.2.2.2.2))) (show _ = _ by rw [(show bv u_61 202 = -(bv S 219 + 1) from bv_66)]; unfold limr; rw [if_pos rfl]; first | rw [if_pos (by omega)] | rw [if_neg (by omega)]) (RRv.of hRl (show u_61.2.1 194 = S34.2.1 194 from funext fun x => ((fu_61 194 rfl).2.1 x).trans (((fu_53 194 rfl).2.1 x).trans (((fu_41 194 rfl).2.1 x).trans ((fu_17 194 rfl).2.1 x))))) (fun i a b => by rw [(show u_61.2.1 194 = S34.2.1 194 from funext fun x => ((fu_61 194 rfl).2.1 x).trans (((fu_53 194 rfl).2.1 x).trans (((fu_41 194 rfl).2.1 x).trans ((fu_17 194 rfl).2.1 x))))]; exact hnl i a (by omega)) hW hL (lv_sub hl [0, 1, 2, 3, 4] rfl)
            · refine lv_aload_n hx hb dX6_addLimit_43 rfl (lv_at hl 1 rfl) ?_
              refine g_X6_13 Cx hW (k := 193) (by decide) rfl (v := .ref (G.2.2.1 + 194)) (rf_193_0 hI34) dX6_addLimit_44 ?_
              refine lv_aload_n hx hb dX6_addLimit_47 rfl (lv_at hl 1 rfl) ?_
              have q_71 : 0 ≤ S34.1 193 9 ∧ S34.1 193 9 ≤ 40 := hI34.fi 193 9 6 (by decide) rfl
              refine g_X6_50 Cx hW (k := 193) (by decide) rfl (v := S34.1 193 9) rfl dX6_addLimit_48 ?_
              refine lv_iload hx hb dX6_addLimit_51 (lv_at hl 0 rfl) ?_
              refine sBi (sSt (As := [.int (iv (S34.1 193 9)), .int (iv j)]) (rest := [.ref (G.2.2.1 + 194)]) Cx (s_X6_at l G S34 (k := S34.1 193 9) (j := j) (by omega) (by omega)) (c_X6_53 Cx rfl rfl (rmk_ok (by omega) (by decide))) hW rfl hl.1 rfl (Nat.le_of_ble_eq_true rfl) dX6_addLimit_53 ⟨Nat.le_of_ble_eq_true rfl, Nat.le_of_ble_eq_true rfl⟩) hL (fun r_74 u_72 H locs k_73 hW hL => ?_)
              obtain ⟨eu_72, xu_72⟩ := k_73
              rw [eu_72] at hW
              refine lv_iload hx hb dX6_addLimit_56 (lv_at hl 0 rfl) ?_
              refine lv_iload_n hx hb dX6_addLimit_58 rfl (lv_at hl 2 rfl) ?_
              refine r_icmp_eq (tgt := 66) hx hb ⟨(by omega), (by omega)⟩ ⟨(by omega), (by omega)⟩ dX6_addLimit_59 (by decide) (fun c_75 => ?_) (fun c_75 => ?_)
              · refine lv_iload_n hx hb dX6_addLimit_66 rfl (lv_at hl 4 rfl) ?_
                refine r_if_eq (tgt := 76) hx hb ⟨(by omega), (by omega)⟩ dX6_addLimit_67 (by decide) (fun c_76 => ?_) (fun c_76 => ?_)
                · refine lv_lconst (v := jv 1) hx hb dX6_addLimit_76 (by decide) ?_
                  refine sBv (sSt (As := [.ref (G.2.2.1 + 194), .int (iv r_74), .long (jv 1)]) (rest := []) Cx (b_X0_store l G S34 (k := 194) (a := r_74) (v := 1) (N := 4264) hI34 ⟨by decide, rfl, by decide, rfl, rfl, rfl⟩ (by omega) (by omega) (fun q _ => by rcases q with q | q <;> exact absurd q (by decide))) (c_X6_60 Cx rfl rfl (rmk_ok (by omega) (by decide))) hW rfl hl.1 rfl (Nat.le_of_ble_eq_true rfl) dX6_addLimit_77 ⟨Nat.le_of_ble_eq_true rfl, Nat.le_of_ble_eq_true rfl⟩) hL (fun u_77 H locs k_78 hW hL => ?_)
                  obtain ⟨iu_77, fu_77, xu_77⟩ := k_78
                  have F_79 := hFm34.trans (fu_77.to (p1_sub rfl))
                  have F_80 := hL34_.trans (fu_77.to (p1_sub rfl))
                  refine lv_iinc (v := iv (j + 1)) (lv' := [(4, .int (iv (j + 1))), (0, .ref (G.2.2.1 + 193)), (1, .int (iv z)), (2, .ref (G.2.2.1 + 219)), (3, .int (iv ab))]) hx hb dX6_addLimit_80 hl (k := 0) rfl ((Int32.ofInt_add _ _).symm) (by decide) rfl (fun ls hl => ?_)
                  refine lv_goto (tgt := 34) hx hb dX6_addLimit_83 (by decide) ?_
                  have lk_81 : u_77.1 193 9 = S34.1 193 9 := (fu_77 193 rfl).1 9
                  have lk_82 : u_77.1 193 8 = S34.1 193 8 := (fu_77 193 rfl).1 8
                  have q_83 : 0 ≤ S.1 219 1 ∧ S.1 219 1 ≤ 32 := hI.fi 219 1 0 (by decide) rfl
                  have lk_84 : u_77.1 219 1 = S.1 219 1 := ((fu_77 219 rfl).1 1).trans (((hL34_ 219 rfl).1 1).trans (uF_ne (fun h => absurd h.2 (by decide))))
                  exact ih_34 u_77 (j + 1) _ _ _ (by omega) iu_77 F_79 F_80 (by omega) (by omega) (by omega) (by omega) (fun q => by have e : u_77.2.1 220 6 = S.2.1 220 6 := ((fu_77 220 rfl).2.1 6).trans (((hL34_ 220 rfl).2.1 6).trans (uF_a)); rw [e]; exact hv6 (by omega)) (RRv.sv hRl hI34 (by omega) (by omega) (show r_74 = ((cc + 1) * 13 + j) * 8 by omega) (by omega) xu_77.2) (show Hd (bs u_77 219) from (bs_fr fu_77 rfl hbl)) (show bv u_77 219 = bv S 219 from (bv_fr fu_77 rfl rfl).trans (hvl)) (fun i a b => by by_cases q : i = j; (rw [q, ← show r_74 = ((cc + 1) * 13 + j) * 8 by omega]; refine (show nv _ _ = _ from xu_77.1).trans ?_; unfold limr; rw [if_neg (by omega)]; first | rw [if_pos (by omega), if_pos (by omega)] | rw [if_pos (by omega), if_neg (by omega)] | rw [if_neg (by omega)]); (have e := hnl i a (by omega); rw [nv_sv hI34 (by omega) xu_77.2 (by omega), (show S34.2.1 194 = S34.2.1 194 from funext fun x => rfl)]; exact e)) hW hL (lv_sub hl [0, 1, 2, 3, 4] rfl)
                · refine lv_ldc2 hx hb hown (hts _ w_1551) dX6_addLimit_70 ?_
                  refine lv_goto (tgt := 77) hx hb dX6_addLimit_73 (by decide) ?_
                  refine sBv (sSt (As := [.ref (G.2.2.1 + 194), .int (iv r_74), .long (jv ((-1)))]) (rest := []) Cx (b_X0_store l G S34 (k := 194) (a := r_74) (v := (-1)) (N := 4264) hI34 ⟨by decide, rfl, by decide, rfl, rfl, rfl⟩ (by omega) (by omega) (fun q _ => by rcases q with q | q <;> exact absurd q (by decide))) (c_X6_60 Cx rfl rfl (rmk_ok (by omega) (by decide))) hW rfl hl.1 rfl (Nat.le_of_ble_eq_true rfl) dX6_addLimit_77 ⟨Nat.le_of_ble_eq_true rfl, Nat.le_of_ble_eq_true rfl⟩) hL (fun u_85 H locs k_86 hW hL => ?_)
                  obtain ⟨iu_85, fu_85, xu_85⟩ := k_86
                  have F_87 := hFm34.trans (fu_85.to (p1_sub rfl))
                  have F_88 := hL34_.trans (fu_85.to (p1_sub rfl))
                  refine lv_iinc (v := iv (j + 1)) (lv' := [(4, .int (iv (j + 1))), (0, .ref (G.2.2.1 + 193)), (1, .int (iv z)), (2, .ref (G.2.2.1 + 219)), (3, .int (iv ab))]) hx hb dX6_addLimit_80 hl (k := 0) rfl ((Int32.ofInt_add _ _).symm) (by decide) rfl (fun ls hl => ?_)
                  refine lv_goto (tgt := 34) hx hb dX6_addLimit_83 (by decide) ?_
                  have lk_89 : u_85.1 193 9 = S34.1 193 9 := (fu_85 193 rfl).1 9
                  have lk_90 : u_85.1 193 8 = S34.1 193 8 := (fu_85 193 rfl).1 8
                  have q_91 : 0 ≤ S.1 219 1 ∧ S.1 219 1 ≤ 32 := hI.fi 219 1 0 (by decide) rfl
                  have lk_92 : u_85.1 219 1 = S.1 219 1 := ((fu_85 219 rfl).1 1).trans (((hL34_ 219 rfl).1 1).trans (uF_ne (fun h => absurd h.2 (by decide))))
                  exact ih_34 u_85 (j + 1) _ _ _ (by omega) iu_85 F_87 F_88 (by omega) (by omega) (by omega) (by omega) (fun q => by have e : u_85.2.1 220 6 = S.2.1 220 6 := ((fu_85 220 rfl).2.1 6).trans (((hL34_ 220 rfl).2.1 6).trans (uF_a)); rw [e]; exact hv6 (by omega)) (RRv.sv hRl hI34 (by omega) (by omega) (show r_74 = ((cc + 1) * 13 + j) * 8 by omega) (by omega) xu_85.2) (show Hd (bs u_85 219) from (bs_fr fu_85 rfl hbl)) (show bv u_85 219 = bv S 219 from (bv_fr fu_85 rfl rfl).trans (hvl)) (fun i a b => by by_cases q : i = j; (rw [q, ← show r_74 = ((cc + 1) * 13 + j) * 8 by omega]; refine (show nv _ _ = _ from xu_85.1).trans ?_; unfold limr; rw [if_neg (by omega)]; first | rw [if_pos (by omega), if_pos (by omega)] | rw [if_pos (by omega), if_neg (by omega)] | rw [if_neg (by omega)]); (have e := hnl i a (by omega); rw [nv_sv hI34 (by omega) xu_85.2 (by omega), (show S34.2.1 194 = S34.2.1 194 from funext fun x => rfl)]; exact e)) hW hL (lv_sub hl [0, 1, 2, 3, 4] rfl)
              · refine lv_lconst (v := jv 0) hx hb dX6_addLimit_62 (by decide) ?_
                refine lv_goto (tgt := 77) hx hb dX6_addLimit_63 (by decide) ?_
                refine sBv (sSt (As := [.ref (G.2.2.1 + 194), .int (iv r_74), .long (jv 0)]) (rest := []) Cx (b_X0_store l G S34 (k := 194) (a := r_74) (v := 0) (N := 4264) hI34 ⟨by decide, rfl, by decide, rfl, rfl, rfl⟩ (by omega) (by omega) (fun q _ => by rcases q with q | q <;> exact absurd q (by decide))) (c_X6_60 Cx rfl rfl (rmk_ok (by omega) (by decide))) hW rfl hl.1 rfl (Nat.le_of_ble_eq_true rfl) dX6_addLimit_77 ⟨Nat.le_of_ble_eq_true rfl, Nat.le_of_ble_eq_true rfl⟩) hL (fun u_93 H locs k_94 hW hL => ?_)
                obtain ⟨iu_93, fu_93, xu_93⟩ := k_94
                have F_95 := hFm34.trans (fu_93.to (p1_sub rfl))
                have F_96 := hL34_.trans (fu_93.to (p1_sub rfl))
                refine lv_iinc (v := iv (j + 1)) (lv' := [(4, .int (iv (j + 1))), (0, .ref (G.2.2.1 + 193)), (1, .int (iv z)), (2, .ref (G.2.2.1 + 219)), (3, .int (iv ab))]) hx hb dX6_addLimit_80 hl (k := 0) rfl ((Int32.ofInt_add _ _).symm) (by decide) rfl (fun ls hl => ?_)
                refine lv_goto (tgt := 34) hx hb dX6_addLimit_83 (by decide) ?_
                have lk_97 : u_93.1 193 9 = S34.1 193 9 := (fu_93 193 rfl).1 9
                have lk_98 : u_93.1 193 8 = S34.1 193 8 := (fu_93 193 rfl).1 8
                have q_99 : 0 ≤ S.1 219 1 ∧ S.1 219 1 ≤ 32 := hI.fi 219 1 0 (by decide) rfl
                have lk_100 : u_93.1 219 1 = S.1 219 1 := ((fu_93 219 rfl).1 1).trans (((hL34_ 219 rfl).1 1).trans (uF_ne (fun h => absurd h.2 (by decide))))
                exact ih_34 u_93 (j + 1) _ _ _ (by omega) iu_93 F_95 F_96 (by omega) (by omega) (by omega) (by omega) (fun q => by have e : u_93.2.1 220 6 = S.2.1 220 6 := ((fu_93 220 rfl).2.1 6).trans (((hL34_ 220 rfl).2.1 6).trans (uF_a)); rw [e]; exact hv6 (by omega)) (RRv.sv hRl hI34 (by omega) (by omega) (show r_74 = ((cc + 1) * 13 + j) * 8 by omega) (by omega) xu_93.2) (show Hd (bs u_93 219) from (bs_fr fu_93 rfl hbl)) (show bv u_93 219 = bv S 219 from (bv_fr fu_93 rfl rfl).trans (hvl)) (fun i a b => by by_cases q : i = j; (rw [q, ← show r_74 = ((cc + 1) * 13 + j) * 8 by omega]; refine (show nv _ _ = _ from xu_93.1).trans ?_; unfold limr; rw [if_neg (by omega)]; first | rw [if_pos (by omega), if_pos (by omega)] | rw [if_pos (by omega), if_neg (by omega)] | rw [if_neg (by omega)]); (have e := hnl i a (by omega); rw [nv_sv hI34 (by omega) xu_93.2 (by omega), (show S34.2.1 194 = S34.2.1 194 from funext fun x => rfl)]; exact e)) hW hL (lv_sub hl [0, 1, 2, 3, 4] rfl)
        have lk_101 : (uF S 193 9 ((S.1 193 9) + 1)).1 193 9 = (S.1 193 9) + 1 := uF_on
        have lk_102 : (uF S 193 9 ((S.1 193 9) + 1)).1 193 8 = S.1 193 8 := uF_ne (fun h => absurd h.2 (by decide))
        have q_103 : 0 ≤ S.1 219 1 ∧ S.1 219 1 ≤ 32 := hI.fi 219 1 0 (by decide) rfl
        have lk_104 : (uF S 193 9 ((S.1 193 9) + 1)).1 219 1 = S.1 219 1 := uF_ne (fun h => absurd h.2 (by decide))
        exact loop_34 (_ + 1) (uF S 193 9 ((S.1 193 9) + 1)) 1 _ _ _ (Nat.lt_succ_self _) i_10 F_9 Fr.rf (by omega) (by omega) (by omega) (by omega) (fun q => by have e : (uF S 193 9 ((S.1 193 9) + 1)).2.1 220 6 = S.2.1 220 6 := uF_a; rw [e]; exact hv6 (by omega)) (RRv.of hR.2.2 (show (uF S 193 9 ((S.1 193 9) + 1)).2.1 194 = S.2.1 194 from funext fun x => uF_a)) (show Hd (bs (uF S 193 9 ((S.1 193 9) + 1)) 219) from (bs_F (fun h => absurd h (by decide)) hbv)) (show bv (uF S 193 9 ((S.1 193 9) + 1)) 219 = bv S 219 from bv_F (fun h => absurd h (by decide))) (fun i a b => absurd b (by omega)) hW hL (lv_sub hl [0, 1, 2, 3, 4] rfl)
      · exact sVret Cx hr hlk hW hL ⟨hI, (Fr.rf : Fr S S pRw), (fun a b d => by exfalso; omega)⟩ dX6_addLimit_20

set_option maxRecDepth 100000 in
set_option maxHeartbeats 4000000 in
theorem b_X6_keep_193 (l : Launch) (G : sG) (S : sS) {k : Int} {n cc : Int} {RR : Int → Int → Int} (hI : cX G S 0 0 0) (hk : -2147483648 ≤ k ∧ k ≤ 2147483647) (hR : Hd (RWv S n cc RR)) : Met l yX6_keep (.code yX6_keep cX6_keep 2 none :: tb) (rmk 2 0 0) (sPc G 294 S [.ref (G.2.2.1 + 193), .int (iv k)]) (sQv G 294 (fun u => cX G u 0 0 0 ∧ Fr S u (p1 193) ∧ (Hd (0 ≤ k → k ≤ cc → RWv u n k RR)))) 0 0 (sF G) := by
  refine sEnter (by decide) (Nat.le_of_ble_eq_true rfl) ?_
  intro p e s m args below meth c Cx hr hlk hnm hW ls hl
  have Cx : sC G p m c cX6_keep 2 s args RX6 := Cx
  obtain ⟨hx, hb, hml, hown, hts⟩ := id Cx.1
  have hL : sL G [] := sL_nil
  have hl : lv_has ls 2 [(0, .ref (G.2.2.1 + 193)), (1, .int (iv k))] := hl
  have hW0 := hW
  have hn0 : 0 ≤ S.1 193 8 ∧ S.1 193 8 ≤ 12 := hI.fi 193 8 6 (by decide) rfl; have hc0 : 0 ≤ S.1 193 9 ∧ S.1 193 9 ≤ 40 := hI.fi 193 9 6 (by decide) rfl; have hR1 := hR.1; have hR2 := hR.2.1
  refine lv_aload_n hx hb dX6_keep_0 rfl (lv_at hl 0 rfl) ?_
  refine lv_aload_n hx hb dX6_keep_1 rfl (lv_at hl 0 rfl) ?_
  have q_1 : 0 ≤ S.1 193 9 ∧ S.1 193 9 ≤ 40 := hI.fi 193 9 6 (by decide) rfl
  refine g_X6_50 Cx hW (k := 193) (by decide) rfl (v := S.1 193 9) rfl dX6_keep_2 ?_
  refine lv_iload_n hx hb dX6_keep_5 rfl (lv_at hl 1 rfl) ?_
  refine lv_iconst (v := iv 0) hx hb dX6_keep_6 (by decide) ?_
  refine r_max hx hb (hml.trans hl.1.symm) hown (hts _ w_1571) (hts _ w_242) (hts _ w_206) (hts _ w_243) (rmk_f (by omega)) (rmk_l (by omega) (Nat.le_of_ble_eq_true rfl)) (Nat.le_of_ble_eq_true rfl) (Nat.le_of_ble_eq_true rfl) ⟨(by omega), (by omega)⟩ ⟨(by omega), (by omega)⟩ dX6_keep_7 (fun z_2 hz_2 => ?_)
  refine r_min hx hb (hml.trans hl.1.symm) hown (hts _ w_1572) (hts _ w_777) (hts _ w_206) (hts _ w_778) (rmk_f (by omega)) (rmk_l (by omega) (Nat.le_of_ble_eq_true rfl)) (Nat.le_of_ble_eq_true rfl) (Nat.le_of_ble_eq_true rfl) ⟨(by omega), (by omega)⟩ ⟨(by omega), (by omega)⟩ dX6_keep_10 (fun z_3 hz_3 => ?_)
  refine p_X6_50 Cx hW hL (k := 193) (by decide) rfl dX6_keep_13 (fun H locs hW hL => ?_)
  have F_4 : Fr S (uF S 193 9 z_3) (p1 193) := (Fr.rf : Fr S S (p1 193)).F rfl
  have i_5 : cX G (uF S 193 9 z_3) 0 0 0 := hI.F rfl rfl (show 0 ≤ z_3 ∧ z_3 ≤ 40 from ⟨by omega, by omega⟩)
  exact sVret Cx hr hlk hW hL ⟨i_5, F_4, (fun a b => ⟨(uF_ne (by decide)).trans hR.1, uF_on.trans (by omega), fun i j i0 i1 j0 j1 => hR.2.2 i j i0 (by omega) j0 j1⟩)⟩ dX6_keep_16

set_option maxRecDepth 100000 in
set_option maxHeartbeats 4000000 in
theorem b_X3_number (l : Launch) (G : sG) (S : sS) {o : Nat} {k j : Int} (hI : cX G S 0 0 0) (hm : mdl o) (hk : 0 ≤ k ∧ k ≤ 16) (hj : 0 ≤ j ∧ j ≤ 12) : Met l yX3_number (.code yX3_number cX3_number 3 (some .int) :: tb) (rmk 1 0 0) (sPc G 294 S [.ref (G.2.2.1 + o), .int (iv k), .int (iv j)]) (sQi G 294 (fun r u => u = S ∧ (r = S.2.1 (o + 1) (k * 13 + j) ∧ -2147483648 ≤ r ∧ r ≤ 2147483647))) 0 0 (sF G) := by
  refine sEnter (by decide) (Nat.le_of_ble_eq_true rfl) ?_
  intro p e s m args below meth c Cx hr hlk hnm hW ls hl
  have Cx : sC G p m c cX3_number 3 s args RX3 := Cx
  obtain ⟨hx, hb, hml, hown, hts⟩ := id Cx.1
  have hL : sL G [] := sL_nil
  have hl : lv_has ls 3 [(0, .ref (G.2.2.1 + o)), (1, .int (iv k)), (2, .int (iv j))] := hl
  have hW0 := hW
  refine lv_aload_n hx hb dX3_number_0 rfl (lv_at hl 0 rfl) ?_
  refine g_X3_11 Cx hW (k := o) (mdl_l hm) hm.1 (v := .ref (G.2.2.1 + (o + 1))) (hI.rq.2.2 o (mdl_k hm) hm.1).1 dX3_number_1 ?_
  refine lv_iload_n hx hb dX3_number_4 rfl (lv_at hl 1 rfl) ?_
  refine lv_bipush (v := iv 13) hx hb dX3_number_5 (by decide) ?_
  refine r_imul hx hb dX3_number_7 ?_
  refine lv_iload_n hx hb dX3_number_8 rfl (lv_at hl 2 rfl) ?_
  refine r_iadd hx hb dX3_number_9 ?_
  refine rIald Cx hW (k := o + 1) (mdl_l1 hm) hm.2.1 (by decide) (by omega) (by omega) dX3_number_10 ?_
  have q_1 : (-2147483648) ≤ S.2.1 (o + 1) ((k * 13) + j) ∧ S.2.1 (o + 1) ((k * 13) + j) ≤ 2147483647 := mdl_r1 hm hI ((k * 13) + j) 
  refine r_i (b := S.2.1 (o + 1) ((k * 13) + j)) rfl ?_
  exact sIret Cx hr hlk hW hL ⟨rfl, ⟨(show S.2.1 (o + 1) ((k * 13) + j) = _ from rfl), by omega, by omega⟩⟩ dX3_number_11

set_option maxRecDepth 100000 in
set_option maxHeartbeats 4000000 in
theorem b_X3_wholes (l : Launch) (G : sG) (S : sS) {o : Nat} (hI : cX G S 0 0 0) (hm : mdl o) : Met l yX3_wholes (.code yX3_wholes cX3_wholes 3 (some .int) :: tb) (rmk 1 0 0) (sPc G 294 S [.ref (G.2.2.1 + o)]) (sQi G 294 (fun r u => u = S ∧ (0 ≤ r ∧ r ≤ 12 ∧ Hd (r = wct (S.2.1 (o + 2)) (S.1 o 2).toNat)))) 0 0 (sF G) := by
  refine sEnter (by decide) (Nat.le_of_ble_eq_true rfl) ?_
  intro p e s m args below meth c Cx hr hlk hnm hW ls hl
  have Cx : sC G p m c cX3_wholes 3 s args RX3 := Cx
  obtain ⟨hx, hb, hml, hown, hts⟩ := id Cx.1
  have hL : sL G [] := sL_nil
  have hl : lv_has ls 3 [(0, .ref (G.2.2.1 + o))] := hl
  have hW0 := hW
  have hv12 : 0 ≤ S.1 o 2 ∧ S.1 o 2 ≤ 12 := hI.fi o 2 3 (mdl_k hm) hm.1
  refine lv_iconst (v := iv 0) hx hb dX3_wholes_0 (by decide) ?_
  refine lv_istore_n (lv' := [(1, .int (iv 0)), (0, .ref (G.2.2.1 + o))]) hx hb dX3_wholes_1 rfl hl (by decide) rfl (fun ls hl => ?_)
  refine lv_iconst (v := iv 1) hx hb dX3_wholes_2 (by decide) ?_
  refine lv_istore_n (lv' := [(2, .int (iv 1)), (1, .int (iv 0)), (0, .ref (G.2.2.1 + o))]) hx hb dX3_wholes_3 rfl hl (by decide) rfl (fun ls hl => ?_)
  have loop_4 : ∀ (fuel : Nat) (j : Int) (f : Int) (H : Heap) (locs : List Loc) (ls : Array Slot), (13 - j).toNat < fuel → (1 ≤ j ∧ j ≤ 13) → (0 ≤ f ∧ f < j) → (j ≤ S.1 o 2 + 1) → (Hd (f = wct (S.2.1 (o + 2)) (j - 1).toNat)) → sW G 294 S H → sL G locs → lv_has ls 3 [(2, .int (iv j)), (1, .int (iv f)), (0, .ref (G.2.2.1 + o))] → W p l e (rmk 1 0 0) s m args below meth c H locs 0 0 (MQ below (sQi G 294 (fun r u => u = S ∧ (0 ≤ r ∧ r ≤ 12 ∧ Hd (r = wct (S.2.1 (o + 2)) (S.1 o 2).toNat)))) args s 0 0 (sF G)) (F0 m 4 ls []) := by
    intro fuel
    induction fuel with
    | zero => intro j f H locs ls hmeas hj hf hjn hw hW hL hl; exact absurd hmeas (Nat.not_lt_zero _)
    | succ fuel ih_4 =>
      intro j f H locs ls hmeas hj hf hjn hw hW hL hl
      refine lv_iload_n hx hb dX3_wholes_4 rfl (lv_at hl 0 rfl) ?_
      refine lv_aload_n hx hb dX3_wholes_5 rfl (lv_at hl 2 rfl) ?_
      have q_1 : 0 ≤ S.1 o 2 ∧ S.1 o 2 ≤ 12 := hI.fi o 2 3 (mdl_k hm) hm.1
      refine g_X3_19 Cx hW (k := o) (mdl_l hm) hm.1 (v := S.1 o 2) rfl dX3_wholes_6 ?_
      refine r_icmp_gt (tgt := 30) hx hb ⟨(by omega), (by omega)⟩ ⟨(by omega), (by omega)⟩ dX3_wholes_9 (by decide) (fun c_2 => ?_) (fun c_2 => ?_)
      · refine lv_iload_n hx hb dX3_wholes_30 rfl (lv_at hl 1 rfl) ?_
        exact sIret Cx hr hlk hW hL ⟨rfl, ⟨by omega, by omega, (show _ = _ by rw [show S.1 o 2 = j - 1 by omega]; exact hw)⟩⟩ dX3_wholes_31
      · refine lv_aload_n hx hb dX3_wholes_12 rfl (lv_at hl 2 rfl) ?_
        refine g_X3_15 Cx hW (k := o) (mdl_l hm) hm.1 (v := .ref (G.2.2.1 + (o + 2))) (hI.rq.2.2 o (mdl_k hm) hm.1).2 dX3_wholes_13 ?_
        refine lv_iload_n hx hb dX3_wholes_16 rfl (lv_at hl 0 rfl) ?_
        refine rZald Cx hW (k := o + 2) (mdl_l2 hm) hm.2.2.1 (by decide) (by omega) (by omega) dX3_wholes_17 ?_
        have q_3 : 0 ≤ S.2.1 (o + 2) j ∧ S.2.1 (o + 2) j ≤ 1 := mdl_r2 hm hI j 
        refine r_i (b := S.2.1 (o + 2) j) rfl ?_
        refine r_if_eq (tgt := 24) hx hb ⟨(by omega), (by omega)⟩ dX3_wholes_18 (by decide) (fun c_4 => ?_) (fun c_4 => ?_)
        · refine lv_iinc (v := iv (j + 1)) (lv' := [(2, .int (iv (j + 1))), (1, .int (iv f)), (0, .ref (G.2.2.1 + o))]) hx hb dX3_wholes_24 hl (k := 0) rfl ((Int32.ofInt_add _ _).symm) (by decide) rfl (fun ls hl => ?_)
          refine lv_goto (tgt := 4) hx hb dX3_wholes_27 (by decide) ?_
          exact ih_4 (j + 1) f _ _ _ (by omega) (by omega) (by omega) (by omega) (show _ = _ by rw [wct_st (by omega), ← (show f = _ from hw)]; omega) hW hL (lv_sub hl [0, 1, 2] rfl)
        · refine lv_iinc (v := iv (f + 1)) (lv' := [(1, .int (iv (f + 1))), (2, .int (iv j)), (0, .ref (G.2.2.1 + o))]) hx hb dX3_wholes_21 hl (k := 1) rfl ((Int32.ofInt_add _ _).symm) (by decide) rfl (fun ls hl => ?_)
          refine lv_iinc (v := iv (j + 1)) (lv' := [(2, .int (iv (j + 1))), (1, .int (iv (f + 1))), (0, .ref (G.2.2.1 + o))]) hx hb dX3_wholes_24 hl (k := 1) rfl ((Int32.ofInt_add _ _).symm) (by decide) rfl (fun ls hl => ?_)
          refine lv_goto (tgt := 4) hx hb dX3_wholes_27 (by decide) ?_
          exact ih_4 (j + 1) (f + 1) _ _ _ (by omega) (by omega) (by omega) (by omega) (show _ = _ by rw [wct_st (by omega), ← (show f = _ from hw)]; omega) hW hL (lv_sub hl [0, 1, 2] rfl)
  exact loop_4 (_ + 1) 1 0 _ _ _ (Nat.lt_succ_self _) (by omega) (by omega) (by omega) (show (0 : Int) = _ from rfl) hW hL (lv_sub hl [0, 1, 2] rfl)

set_option maxRecDepth 100000 in
set_option maxHeartbeats 4000000 in
theorem b_X3_isWhole (l : Launch) (G : sG) (S : sS) {o : Nat} {j : Int} (hI : cX G S 0 0 0) (hm : mdl o) (hj : -2147483648 ≤ j ∧ j ≤ 2147483647) : Met l yX3_isWhole (.code yX3_isWhole cX3_isWhole 2 (some .boolean) :: tb) (rmk 1 0 0) (sPc G 294 S [.ref (G.2.2.1 + o), .int (iv j)]) (sQi G 294 (fun r u => u = S ∧ (0 ≤ r ∧ r ≤ 1 ∧ (r = 1 → 1 ≤ j ∧ j ≤ S.1 o 2) ∧ Hd (r = 1 ↔ 1 ≤ j ∧ j ≤ S.1 o 2 ∧ S.2.1 (o + 2) j = 1)))) 0 0 (sF G) := by
  refine sEnter (by decide) (Nat.le_of_ble_eq_true rfl) ?_
  intro p e s m args below meth c Cx hr hlk hnm hW ls hl
  have Cx : sC G p m c cX3_isWhole 2 s args RX3 := Cx
  obtain ⟨hx, hb, hml, hown, hts⟩ := id Cx.1
  have hL : sL G [] := sL_nil
  have hl : lv_has ls 2 [(0, .ref (G.2.2.1 + o)), (1, .int (iv j))] := hl
  have hW0 := hW
  refine lv_iload_n hx hb dX3_isWhole_0 rfl (lv_at hl 1 rfl) ?_
  refine lv_iconst (v := iv 1) hx hb dX3_isWhole_1 (by decide) ?_
  refine r_icmp_lt (tgt := 26) hx hb ⟨(by omega), (by omega)⟩ ⟨(by omega), (by omega)⟩ dX3_isWhole_2 (by decide) (fun c_1 => ?_) (fun c_1 => ?_)
  · refine lv_iconst (v := iv 0) hx hb dX3_isWhole_26 (by decide) ?_
    exact sZret Cx hr hlk hW hL (by omega) ⟨rfl, ⟨by omega, by omega, by omega, (show _ ↔ _ by omega)⟩⟩ dX3_isWhole_27
  · refine lv_iload_n hx hb dX3_isWhole_5 rfl (lv_at hl 1 rfl) ?_
    refine lv_aload_n hx hb dX3_isWhole_6 rfl (lv_at hl 0 rfl) ?_
    have q_2 : 0 ≤ S.1 o 2 ∧ S.1 o 2 ≤ 12 := hI.fi o 2 3 (mdl_k hm) hm.1
    refine g_X3_19 Cx hW (k := o) (mdl_l hm) hm.1 (v := S.1 o 2) rfl dX3_isWhole_7 ?_
    refine r_icmp_gt (tgt := 26) hx hb ⟨(by omega), (by omega)⟩ ⟨(by omega), (by omega)⟩ dX3_isWhole_10 (by decide) (fun c_3 => ?_) (fun c_3 => ?_)
    · refine lv_iconst (v := iv 0) hx hb dX3_isWhole_26 (by decide) ?_
      exact sZret Cx hr hlk hW hL (by omega) ⟨rfl, ⟨by omega, by omega, by omega, (show _ ↔ _ by omega)⟩⟩ dX3_isWhole_27
    · refine lv_aload_n hx hb dX3_isWhole_13 rfl (lv_at hl 0 rfl) ?_
      refine g_X3_15 Cx hW (k := o) (mdl_l hm) hm.1 (v := .ref (G.2.2.1 + (o + 2))) (hI.rq.2.2 o (mdl_k hm) hm.1).2 dX3_isWhole_14 ?_
      refine lv_iload_n hx hb dX3_isWhole_17 rfl (lv_at hl 1 rfl) ?_
      refine rZald Cx hW (k := o + 2) (mdl_l2 hm) hm.2.2.1 (by decide) (by omega) (by omega) dX3_isWhole_18 ?_
      have q_4 : 0 ≤ S.2.1 (o + 2) j ∧ S.2.1 (o + 2) j ≤ 1 := mdl_r2 hm hI j 
      refine r_i (b := S.2.1 (o + 2) j) rfl ?_
      refine r_if_eq (tgt := 26) hx hb ⟨(by omega), (by omega)⟩ dX3_isWhole_19 (by decide) (fun c_5 => ?_) (fun c_5 => ?_)
      · refine lv_iconst (v := iv 0) hx hb dX3_isWhole_26 (by decide) ?_
        exact sZret Cx hr hlk hW hL (by omega) ⟨rfl, ⟨by omega, by omega, by omega, (show _ ↔ _ by omega)⟩⟩ dX3_isWhole_27
      · refine lv_iconst (v := iv 1) hx hb dX3_isWhole_22 (by decide) ?_
        refine lv_goto (tgt := 27) hx hb dX3_isWhole_23 (by decide) ?_
        exact sZret Cx hr hlk hW hL (by omega) ⟨rfl, ⟨by omega, by omega, by omega, (show _ ↔ _ by omega)⟩⟩ dX3_isWhole_27

set_option maxRecDepth 100000 in
set_option maxHeartbeats 4000000 in
theorem b_X3_isAllWhole (l : Launch) (G : sG) (S : sS) {o : Nat} (hI : cX G S 0 0 0) (hm : mdl o) : Met l yX3_isAllWhole (.code yX3_isAllWhole cX3_isAllWhole 1 (some .boolean) :: tb) (rmk 2 0 0) (sPc G 294 S [.ref (G.2.2.1 + o)]) (sQi G 294 (fun r u => u = S ∧ (0 ≤ r ∧ r ≤ 1 ∧ Hd (r = 1 ↔ wct (S.2.1 (o + 2)) (S.1 o 2).toNat = S.1 o 2)))) 0 0 (sF G) := by
  refine sEnter (by decide) (Nat.le_of_ble_eq_true rfl) ?_
  intro p e s m args below meth c Cx hr hlk hnm hW ls hl
  have Cx : sC G p m c cX3_isAllWhole 1 s args RX3 := Cx
  obtain ⟨hx, hb, hml, hown, hts⟩ := id Cx.1
  have hL : sL G [] := sL_nil
  have hl : lv_has ls 1 [(0, .ref (G.2.2.1 + o))] := hl
  have hW0 := hW
  refine lv_aload_n hx hb dX3_isAllWhole_0 rfl (lv_at hl 0 rfl) ?_
  have q_1 : 0 ≤ S.1 o 2 ∧ S.1 o 2 ≤ 12 := hI.fi o 2 3 (mdl_k hm) hm.1
  refine sBi (sV (As := []) (rest := []) (k := o) Cx (b_X3_wholes l G S (o := o) hI hm) (c_X3_34 Cx rfl rfl (rmk_ok (by omega) (by decide))) hW (mdl_l hm) hm.1 rfl rfl hl.1 rfl (Nat.le_of_ble_eq_true rfl) dX3_isAllWhole_1 ⟨Nat.le_of_ble_eq_true rfl, Nat.le_of_ble_eq_true rfl⟩) hL (fun r_4 u_2 H locs k_3 hW hL => ?_)
  obtain ⟨eu_2, xu_2⟩ := k_3
  rw [eu_2] at hW
  refine lv_aload_n hx hb dX3_isAllWhole_4 rfl (lv_at hl 0 rfl) ?_
  refine g_X3_19 Cx hW (k := o) (mdl_l hm) hm.1 (v := S.1 o 2) rfl dX3_isAllWhole_5 ?_
  refine r_icmp_ne (tgt := 15) hx hb ⟨(by omega), (by omega)⟩ ⟨(by omega), (by omega)⟩ dX3_isAllWhole_8 (by decide) (fun c_5 => ?_) (fun c_5 => ?_)
  · refine lv_iconst (v := iv 0) hx hb dX3_isAllWhole_15 (by decide) ?_
    exact sZret Cx hr hlk hW hL (by omega) ⟨rfl, ⟨by omega, by omega, (show _ ↔ _ by rw [← (show r_4 = _ from xu_2.2.2)]; omega)⟩⟩ dX3_isAllWhole_16
  · refine lv_iconst (v := iv 1) hx hb dX3_isAllWhole_11 (by decide) ?_
    refine lv_goto (tgt := 16) hx hb dX3_isAllWhole_12 (by decide) ?_
    exact sZret Cx hr hlk hW hL (by omega) ⟨rfl, ⟨by omega, by omega, (show _ ↔ _ by rw [← (show r_4 = _ from xu_2.2.2)]; omega)⟩⟩ dX3_isAllWhole_16

set_option maxRecDepth 100000 in
set_option maxHeartbeats 4000000 in
theorem b_X3_isGoalWhole (l : Launch) (G : sG) (S : sS) {o : Nat} (hI : cX G S 0 0 0) (hm : mdl o) : Met l yX3_isGoalWhole (.code yX3_isGoalWhole cX3_isGoalWhole 2 (some .boolean) :: tb) (rmk 2 0 0) (sPc G 294 S [.ref (G.2.2.1 + o)]) (sQi G 294 (fun r u => u = S ∧ (0 ≤ r ∧ r ≤ 1 ∧ Hd (r = 1 ↔ ∀ i, 1 ≤ i → i ≤ S.1 o 2 → S.2.1 (o + 1) (0 * 13 + i) ≠ 0 → S.2.1 (o + 2) i = 1)))) 0 0 (sF G) := by
  refine sEnter (by decide) (Nat.le_of_ble_eq_true rfl) ?_
  intro p e s m args below meth c Cx hr hlk hnm hW ls hl
  have Cx : sC G p m c cX3_isGoalWhole 2 s args RX3 := Cx
  obtain ⟨hx, hb, hml, hown, hts⟩ := id Cx.1
  have hL : sL G [] := sL_nil
  have hl : lv_has ls 2 [(0, .ref (G.2.2.1 + o))] := hl
  have hW0 := hW
  refine lv_iconst (v := iv 1) hx hb dX3_isGoalWhole_0 (by decide) ?_
  refine lv_istore_n (lv' := [(1, .int (iv 1)), (0, .ref (G.2.2.1 + o))]) hx hb dX3_isGoalWhole_1 rfl hl (by decide) rfl (fun ls hl => ?_)
  have loop_2 : ∀ (fuel : Nat) (j : Int) (H : Heap) (locs : List Loc) (ls : Array Slot), (13 - j).toNat < fuel → (1 ≤ j ∧ j ≤ 13) → (Hd (∀ i, 1 ≤ i → i < j → S.2.1 (o + 1) (0 * 13 + i) ≠ 0 → S.2.1 (o + 2) i = 1)) → sW G 294 S H → sL G locs → lv_has ls 2 [(1, .int (iv j)), (0, .ref (G.2.2.1 + o))] → W p l e (rmk 2 0 0) s m args below meth c H locs 0 0 (MQ below (sQi G 294 (fun r u => u = S ∧ (0 ≤ r ∧ r ≤ 1 ∧ Hd (r = 1 ↔ ∀ i, 1 ≤ i → i ≤ S.1 o 2 → S.2.1 (o + 1) (0 * 13 + i) ≠ 0 → S.2.1 (o + 2) i = 1)))) args s 0 0 (sF G)) (F0 m 2 ls []) := by
    intro fuel
    induction fuel with
    | zero => intro j H locs ls hmeas hj hg hW hL hl; exact absurd hmeas (Nat.not_lt_zero _)
    | succ fuel ih_2 =>
      intro j H locs ls hmeas hj hg hW hL hl
      refine lv_iload_n hx hb dX3_isGoalWhole_2 rfl (lv_at hl 0 rfl) ?_
      refine lv_aload_n hx hb dX3_isGoalWhole_3 rfl (lv_at hl 1 rfl) ?_
      have q_1 : 0 ≤ S.1 o 2 ∧ S.1 o 2 ≤ 12 := hI.fi o 2 3 (mdl_k hm) hm.1
      refine g_X3_19 Cx hW (k := o) (mdl_l hm) hm.1 (v := S.1 o 2) rfl dX3_isGoalWhole_4 ?_
      refine r_icmp_gt (tgt := 36) hx hb ⟨(by omega), (by omega)⟩ ⟨(by omega), (by omega)⟩ dX3_isGoalWhole_7 (by decide) (fun c_2 => ?_) (fun c_2 => ?_)
      · refine lv_iconst (v := iv 1) hx hb dX3_isGoalWhole_36 (by decide) ?_
        exact sZret Cx hr hlk hW hL (by omega) ⟨rfl, ⟨by omega, by omega, (show _ ↔ _ from ⟨fun _ i a b => hg i a (by omega), fun _ => rfl⟩)⟩⟩ dX3_isGoalWhole_37
      · refine lv_aload_n hx hb dX3_isGoalWhole_10 rfl (lv_at hl 1 rfl) ?_
        refine lv_iconst (v := iv 0) hx hb dX3_isGoalWhole_11 (by decide) ?_
        refine lv_iload_n hx hb dX3_isGoalWhole_12 rfl (lv_at hl 0 rfl) ?_
        refine sBi (sV (As := [.int (iv 0), .int (iv j)]) (rest := []) (k := o) Cx (b_X3_number l G S (o := o) (k := 0) (j := j) hI hm (by omega) (by omega)) (c_X3_38 Cx rfl rfl (rmk_ok (by omega) (by decide))) hW (mdl_l hm) hm.1 rfl rfl hl.1 rfl (Nat.le_of_ble_eq_true rfl) dX3_isGoalWhole_13 ⟨Nat.le_of_ble_eq_true rfl, Nat.le_of_ble_eq_true rfl⟩) hL (fun r_5 u_3 H locs k_4 hW hL => ?_)
        obtain ⟨eu_3, xu_3⟩ := k_4
        rw [eu_3] at hW
        refine r_if_eq (tgt := 30) hx hb ⟨(by omega), (by omega)⟩ dX3_isGoalWhole_16 (by decide) (fun c_6 => ?_) (fun c_6 => ?_)
        · refine lv_iinc (v := iv (j + 1)) (lv' := [(1, .int (iv (j + 1))), (0, .ref (G.2.2.1 + o))]) hx hb dX3_isGoalWhole_30 hl (k := 0) rfl ((Int32.ofInt_add _ _).symm) (by decide) rfl (fun ls hl => ?_)
          refine lv_goto (tgt := 2) hx hb dX3_isGoalWhole_33 (by decide) ?_
          exact ih_2 (j + 1) _ _ _ (by omega) (by omega) (fun i a b d => by by_cases q : i = j; (rw [q] at d ⊢; have e2 := xu_3.1; omega); exact hg i a (by omega) d) hW hL (lv_sub hl [0, 1] rfl)
        · refine lv_aload_n hx hb dX3_isGoalWhole_19 rfl (lv_at hl 1 rfl) ?_
          refine g_X3_15 Cx hW (k := o) (mdl_l hm) hm.1 (v := .ref (G.2.2.1 + (o + 2))) (hI.rq.2.2 o (mdl_k hm) hm.1).2 dX3_isGoalWhole_20 ?_
          refine lv_iload_n hx hb dX3_isGoalWhole_23 rfl (lv_at hl 0 rfl) ?_
          refine rZald Cx hW (k := o + 2) (mdl_l2 hm) hm.2.2.1 (by decide) (by omega) (by omega) dX3_isGoalWhole_24 ?_
          have q_7 : 0 ≤ S.2.1 (o + 2) j ∧ S.2.1 (o + 2) j ≤ 1 := mdl_r2 hm hI j 
          refine r_i (b := S.2.1 (o + 2) j) rfl ?_
          refine r_if_ne (tgt := 30) hx hb ⟨(by omega), (by omega)⟩ dX3_isGoalWhole_25 (by decide) (fun c_8 => ?_) (fun c_8 => ?_)
          · refine lv_iinc (v := iv (j + 1)) (lv' := [(1, .int (iv (j + 1))), (0, .ref (G.2.2.1 + o))]) hx hb dX3_isGoalWhole_30 hl (k := 0) rfl ((Int32.ofInt_add _ _).symm) (by decide) rfl (fun ls hl => ?_)
            refine lv_goto (tgt := 2) hx hb dX3_isGoalWhole_33 (by decide) ?_
            exact ih_2 (j + 1) _ _ _ (by omega) (by omega) (fun i a b d => by by_cases q : i = j; (rw [q] at d ⊢; have e2 := xu_3.1; omega); exact hg i a (by omega) d) hW hL (lv_sub hl [0, 1] rfl)
          · refine lv_iconst (v := iv 0) hx hb dX3_isGoalWhole_28 (by decide) ?_
            exact sZret Cx hr hlk hW hL (by omega) ⟨rfl, ⟨by omega, by omega, (show _ ↔ _ from ⟨fun q => absurd q (by omega), fun q => by have e := q j (by omega) (by omega) (by have e2 := xu_3.1; omega); exfalso; omega⟩)⟩⟩ dX3_isGoalWhole_29
  exact loop_2 (_ + 1) 1 _ _ _ (Nat.lt_succ_self _) (by omega) (fun i a b => absurd b (by omega)) hW hL (lv_sub hl [0, 1] rfl)

set_option maxRecDepth 100000 in
set_option maxHeartbeats 4000000 in
theorem b_X6_take_193 (l : Launch) (G : sG) (S : sS) {md : Nat} (hI : cX G S 0 0 0) (hm2 : mdl md) : Met l yX6_take (.code yX6_take cX6_take 4 none :: tb) (rmk 3 0 0) (sPc G 294 S [.ref (G.2.2.1 + 193), .ref (G.2.2.1 + md)]) (sQv G 294 (fun u => cX G u 0 0 0 ∧ Fr S u pRw ∧ (Hd (RWv u (S.1 md 2) (S.1 md 3) (fun k j => S.2.1 (md + 1) (k * 13 + j))) ∧ Hd (FCv u (fun _ => 0))))) 0 0 (sF G) := by
  refine sEnter (by decide) (Nat.le_of_ble_eq_true rfl) ?_
  intro p e s m args below meth c Cx hr hlk hnm hW ls hl
  have Cx : sC G p m c cX6_take 4 s args RX6 := Cx
  obtain ⟨hx, hb, hml, hown, hts⟩ := id Cx.1
  have hL : sL G [] := sL_nil
  have hl : lv_has ls 4 [(0, .ref (G.2.2.1 + 193)), (1, .ref (G.2.2.1 + md))] := hl
  have hW0 := hW
  have hv12 : 0 ≤ S.1 md 2 ∧ S.1 md 2 ≤ 12 := hI.fi md 2 3 (mdl_k hm2) hm2.1; have hv16 : 0 ≤ S.1 md 3 ∧ S.1 md 3 ≤ 16 := hI.fi md 3 3 (mdl_k hm2) hm2.1
  refine lv_aload_n hx hb dX6_take_0 rfl (lv_at hl 0 rfl) ?_
  refine lv_aload_n hx hb dX6_take_1 rfl (lv_at hl 1 rfl) ?_
  have q_1 : 0 ≤ S.1 md 2 ∧ S.1 md 2 ≤ 12 := hI.fi md 2 3 (mdl_k hm2) hm2.1
  refine g_X6_40 Cx hW (k := md) (mdl_l hm2) hm2.1 (v := S.1 md 2) rfl dX6_take_2 ?_
  refine p_X6_46 Cx hW hL (k := 193) (by decide) rfl dX6_take_5 (fun H locs hW hL => ?_)
  have F_2 : Fr S (uF S 193 8 (S.1 md 2)) pRw := (Fr.rf : Fr S S pRw).F rfl
  have i_3 : cX G (uF S 193 8 (S.1 md 2)) 0 0 0 := hI.F rfl rfl (show 0 ≤ S.1 md 2 ∧ S.1 md 2 ≤ 12 from ⟨by omega, by omega⟩)
  refine lv_aload_n hx hb dX6_take_8 rfl (lv_at hl 0 rfl) ?_
  refine lv_aload_n hx hb dX6_take_9 rfl (lv_at hl 1 rfl) ?_
  have q_4 : 0 ≤ S.1 md 3 ∧ S.1 md 3 ≤ 16 := hI.fi md 3 3 (mdl_k hm2) hm2.1
  refine g_X6_47 Cx hW (k := md) (mdl_l hm2) hm2.1 (v := S.1 md 3) (uF_ne (fun h => absurd h.2 (by decide))) dX6_take_10 ?_
  refine p_X6_50 Cx hW hL (k := 193) (by decide) rfl dX6_take_13 (fun H locs hW hL => ?_)
  have F_5 : Fr S (uF (uF S 193 8 (S.1 md 2)) 193 9 (S.1 md 3)) pRw := F_2.F rfl
  have i_6 : cX G (uF (uF S 193 8 (S.1 md 2)) 193 9 (S.1 md 3)) 0 0 0 := i_3.F rfl rfl (show 0 ≤ S.1 md 3 ∧ S.1 md 3 ≤ 40 from ⟨by omega, by omega⟩)
  refine lv_iconst (v := iv 0) hx hb dX6_take_16 (by decide) ?_
  refine lv_istore_n (lv' := [(2, .int (iv 0)), (0, .ref (G.2.2.1 + 193)), (1, .ref (G.2.2.1 + md))]) hx hb dX6_take_17 rfl hl (by decide) rfl (fun ls hl => ?_)
  have loop_18 : ∀ (fuel : Nat) (S18 : sS) (k : Int) (H : Heap) (locs : List Loc) (ls : Array Slot), (17 - k).toNat < fuel → (cX G S18 0 0 0) → (Fr S S18 pRw) → (Fr ((uF (uF S 193 8 (S.1 md 2)) 193 9 (S.1 md 3))) S18 pRw) → (0 ≤ k ∧ k ≤ 17) → (k ≤ S.1 md 3 + 1) → (S18.1 193 8 = S.1 md 2 ∧ S18.1 193 9 = S.1 md 3) → (Hd (∀ pp i, 0 ≤ pp → pp < k → 0 ≤ i → i ≤ S.1 md 2 → nv (S18.2.1 194) ((pp * 13 + i) * 8) = S.2.1 (md + 1) (pp * 13 + i))) → sW G 294 S18 H → sL G locs → lv_has ls 4 [(2, .int (iv k)), (0, .ref (G.2.2.1 + 193)), (1, .ref (G.2.2.1 + md))] → W p l e (rmk 3 0 0) s m args below meth c H locs 0 0 (MQ below (sQv G 294 (fun u => cX G u 0 0 0 ∧ Fr S u pRw ∧ (Hd (RWv u (S.1 md 2) (S.1 md 3) (fun k j => S.2.1 (md + 1) (k * 13 + j))) ∧ Hd (FCv u (fun _ => 0))))) args s 0 0 (sF G)) (F0 m 18 ls []) := by
    intro fuel
    induction fuel with
    | zero => intro S18 k H locs ls hmeas hI18 hFm18 hL18_ hk hkm hfl hnk hW hL hl; exact absurd hmeas (Nat.not_lt_zero _)
    | succ fuel ih_18 =>
      intro S18 k H locs ls hmeas hI18 hFm18 hL18_ hk hkm hfl hnk hW hL hl
      refine lv_iload_n hx hb dX6_take_18 rfl (lv_at hl 0 rfl) ?_
      refine lv_aload_n hx hb dX6_take_19 rfl (lv_at hl 1 rfl) ?_
      have q_7 : 0 ≤ S18.1 193 9 ∧ S18.1 193 9 ≤ 40 := hI18.fi 193 9 6 (by decide) rfl
      refine g_X6_50 Cx hW (k := 193) (by decide) rfl (v := S18.1 193 9) rfl dX6_take_20 ?_
      refine r_icmp_gt (tgt := 67) hx hb ⟨(by omega), (by omega)⟩ ⟨(by omega), (by omega)⟩ dX6_take_23 (by decide) (fun c_8 => ?_) (fun c_8 => ?_)
      · refine lv_aload_n hx hb dX6_take_67 rfl (lv_at hl 1 rfl) ?_
        refine sBv (sV (As := []) (rest := []) (k := 193) Cx (b_X6_clearFactors_193 l G S18  hI18) (c_X6_64 Cx rfl rfl (rmk_ok (by omega) (by decide))) hW (by decide) rfl rfl rfl hl.1 rfl (Nat.le_of_ble_eq_true rfl) dX6_take_68 ⟨Nat.le_of_ble_eq_true rfl, Nat.le_of_ble_eq_true rfl⟩) hL (fun u_9 H locs k_10 hW hL => ?_)
        obtain ⟨iu_9, fu_9, xu_9⟩ := k_10
        have F_11 := hFm18.trans (fu_9.to (p1_sub rfl))
        have F_12 := hL18_.trans (fu_9.to (p1_sub rfl))
        have q_13 : 0 ≤ S18.1 193 8 ∧ S18.1 193 8 ≤ 12 := hI18.fi 193 8 6 (by decide) rfl
        have lk_14 : u_9.1 193 8 = S18.1 193 8 := (fu_9 193 rfl).1 8
        have lk_15 : u_9.1 193 9 = S18.1 193 9 := (fu_9 193 rfl).1 9
        exact sVret Cx hr hlk hW hL ⟨iu_9, F_11, ⟨⟨by omega, by omega, fun pp i a b d e => by rw [(show u_9.2.1 194 = S18.2.1 194 from funext fun x => (fu_9 194 rfl).2.1 x)]; exact hnk pp i a (by omega) d e⟩, xu_9⟩⟩ dX6_take_71
      · refine lv_iconst (v := iv 0) hx hb dX6_take_26 (by decide) ?_
        refine lv_istore_n (lv' := [(3, .int (iv 0)), (2, .int (iv k)), (0, .ref (G.2.2.1 + 193)), (1, .ref (G.2.2.1 + md))]) hx hb dX6_take_27 rfl hl (by decide) rfl (fun ls hl => ?_)
        have loop_28 : ∀ (fuel : Nat) (S28 : sS) (j : Int) (H : Heap) (locs : List Loc) (ls : Array Slot), (13 - j).toNat < fuel → (cX G S28 0 0 0) → (Fr S S28 pRw) → (Fr ((uF (uF S 193 8 (S.1 md 2)) 193 9 (S.1 md 3))) S28 pRw) → (Fr S18 S28 pRw) → (0 ≤ j ∧ j ≤ 13) → (j ≤ S.1 md 2 + 1) → (S28.1 193 8 = S.1 md 2 ∧ S28.1 193 9 = S.1 md 3) → (Hd (∀ pp i, 0 ≤ pp → pp < k → 0 ≤ i → i ≤ S.1 md 2 → nv (S28.2.1 194) ((pp * 13 + i) * 8) = S.2.1 (md + 1) (pp * 13 + i))) → (Hd (∀ i, 0 ≤ i → i < j → nv (S28.2.1 194) ((k * 13 + i) * 8) = S.2.1 (md + 1) (k * 13 + i))) → sW G 294 S28 H → sL G locs → lv_has ls 4 [(3, .int (iv j)), (2, .int (iv k)), (0, .ref (G.2.2.1 + 193)), (1, .ref (G.2.2.1 + md))] → W p l e (rmk 3 0 0) s m args below meth c H locs 0 0 (MQ below (sQv G 294 (fun u => cX G u 0 0 0 ∧ Fr S u pRw ∧ (Hd (RWv u (S.1 md 2) (S.1 md 3) (fun k j => S.2.1 (md + 1) (k * 13 + j))) ∧ Hd (FCv u (fun _ => 0))))) args s 0 0 (sF G)) (F0 m 28 ls []) := by
          intro fuel
          induction fuel with
          | zero => intro S28 j H locs ls hmeas hI28 hFm28 hFL1828 hL28_ hj hjm hfm hnk2 hnj hW hL hl; exact absurd hmeas (Nat.not_lt_zero _)
          | succ fuel ih_28 =>
            intro S28 j H locs ls hmeas hI28 hFm28 hFL1828 hL28_ hj hjm hfm hnk2 hnj hW hL hl
            refine lv_iload_n hx hb dX6_take_28 rfl (lv_at hl 0 rfl) ?_
            refine lv_aload_n hx hb dX6_take_29 rfl (lv_at hl 2 rfl) ?_
            have q_16 : 0 ≤ S28.1 193 8 ∧ S28.1 193 8 ≤ 12 := hI28.fi 193 8 6 (by decide) rfl
            refine g_X6_46 Cx hW (k := 193) (by decide) rfl (v := S28.1 193 8) rfl dX6_take_30 ?_
            refine r_icmp_gt (tgt := 61) hx hb ⟨(by omega), (by omega)⟩ ⟨(by omega), (by omega)⟩ dX6_take_33 (by decide) (fun c_17 => ?_) (fun c_17 => ?_)
            · refine lv_iinc (v := iv (k + 1)) (lv' := [(2, .int (iv (k + 1))), (3, .int (iv j)), (0, .ref (G.2.2.1 + 193)), (1, .ref (G.2.2.1 + md))]) hx hb dX6_take_61 hl (k := 1) rfl ((Int32.ofInt_add _ _).symm) (by decide) rfl (fun ls hl => ?_)
              refine lv_goto (tgt := 18) hx hb dX6_take_64 (by decide) ?_
              have q_18 : 0 ≤ S28.1 193 9 ∧ S28.1 193 9 ≤ 40 := hI28.fi 193 9 6 (by decide) rfl
              exact ih_18 S28 (k + 1) _ _ _ (by omega) hI28 hFm28 hFL1828 (by omega) (by omega) (by omega) (fun pp i a b d e => by by_cases q : pp = k; (rw [q]; exact hnj i d (by omega)); exact hnk2 pp i a (by omega) d e) hW hL (lv_sub hl [0, 2, 3] rfl)
            · refine lv_aload_n hx hb dX6_take_36 rfl (lv_at hl 2 rfl) ?_
              refine g_X6_13 Cx hW (k := 193) (by decide) rfl (v := .ref (G.2.2.1 + 194)) (rf_193_0 hI28) dX6_take_37 ?_
              refine lv_iload_n hx hb dX6_take_40 rfl (lv_at hl 1 rfl) ?_
              refine lv_iload_n hx hb dX6_take_41 rfl (lv_at hl 0 rfl) ?_
              refine sBi (sSt (As := [.int (iv k), .int (iv j)]) (rest := [.ref (G.2.2.1 + 194)]) Cx (s_X6_at l G S28 (k := k) (j := j) (by omega) (by omega)) (c_X6_53 Cx rfl rfl (rmk_ok (by omega) (by decide))) hW rfl hl.1 rfl (Nat.le_of_ble_eq_true rfl) dX6_take_42 ⟨Nat.le_of_ble_eq_true rfl, Nat.le_of_ble_eq_true rfl⟩) hL (fun r_21 u_19 H locs k_20 hW hL => ?_)
              obtain ⟨eu_19, xu_19⟩ := k_20
              rw [eu_19] at hW
              refine lv_aload_n hx hb dX6_take_45 rfl (lv_at hl 3 rfl) ?_
              refine lv_iload_n hx hb dX6_take_46 rfl (lv_at hl 1 rfl) ?_
              refine lv_iload_n hx hb dX6_take_47 rfl (lv_at hl 0 rfl) ?_
              refine sBi (sV (As := [.int (iv k), .int (iv j)]) (rest := [.int (iv r_21), .ref (G.2.2.1 + 194)]) (k := md) Cx (b_X3_number l G S28 (o := md) (k := k) (j := j) hI28 hm2 (by omega) (by omega)) (c_X6_57 Cx rfl rfl (rmk_ok (by omega) (by decide))) hW (mdl_l hm2) hm2.1 rfl rfl hl.1 rfl (Nat.le_of_ble_eq_true rfl) dX6_take_48 ⟨Nat.le_of_ble_eq_true rfl, Nat.le_of_ble_eq_true rfl⟩) hL (fun r_24 u_22 H locs k_23 hW hL => ?_)
              obtain ⟨eu_22, xu_22⟩ := k_23
              rw [eu_22] at hW
              have hnb : r_24 = S.2.1 (md + 1) (k * 13 + j) := xu_22.1.trans (show S28.2.1 (md + 1) (k * 13 + j) = S.2.1 (md + 1) (k * 13 + j) from ((hL28_ (md + 1) (mo_pRw hm2).2.1).2.1 (k * 13 + j)).trans (((hL18_ (md + 1) (mo_pRw hm2).2.1).2.1 (k * 13 + j)).trans ((uF_a).trans (uF_a))))
              refine r_i2l hx hb ⟨(by omega), (by omega)⟩ dX6_take_51 ?_
              refine sBv (sSt (As := [.ref (G.2.2.1 + 194), .int (iv r_21), .long (jv r_24)]) (rest := []) Cx (b_X0_store l G S28 (k := 194) (a := r_21) (v := r_24) (N := 4264) hI28 ⟨by decide, rfl, by decide, rfl, rfl, rfl⟩ (by omega) (by omega) (fun q _ => by rcases q with q | q <;> exact absurd q (by decide))) (c_X6_60 Cx rfl rfl (rmk_ok (by omega) (by decide))) hW rfl hl.1 rfl (Nat.le_of_ble_eq_true rfl) dX6_take_52 ⟨Nat.le_of_ble_eq_true rfl, Nat.le_of_ble_eq_true rfl⟩) hL (fun u_25 H locs k_26 hW hL => ?_)
              obtain ⟨iu_25, fu_25, xu_25⟩ := k_26
              have F_27 := hFm28.trans (fu_25.to (p1_sub rfl))
              have F_28 := hFL1828.trans (fu_25.to (p1_sub rfl))
              have F_29 := hL28_.trans (fu_25.to (p1_sub rfl))
              refine lv_iinc (v := iv (j + 1)) (lv' := [(3, .int (iv (j + 1))), (2, .int (iv k)), (0, .ref (G.2.2.1 + 193)), (1, .ref (G.2.2.1 + md))]) hx hb dX6_take_55 hl (k := 0) rfl ((Int32.ofInt_add _ _).symm) (by decide) rfl (fun ls hl => ?_)
              refine lv_goto (tgt := 28) hx hb dX6_take_58 (by decide) ?_
              have lk_30 : u_25.1 193 8 = S28.1 193 8 := (fu_25 193 rfl).1 8
              have q_31 : 0 ≤ S28.1 193 9 ∧ S28.1 193 9 ≤ 40 := hI28.fi 193 9 6 (by decide) rfl
              have lk_32 : u_25.1 193 9 = S28.1 193 9 := (fu_25 193 rfl).1 9
              exact ih_28 u_25 (j + 1) _ _ _ (by omega) iu_25 F_27 F_28 F_29 (by omega) (by omega) (by omega) (fun pp i a b d e => by rw [nv_sv hI28 (by omega) xu_25.2 (by omega)]; exact hnk2 pp i a b d e) (fun i a b => by by_cases q : i = j; (rw [q, ← show r_21 = (k * 13 + j) * 8 by omega]; exact (show nv _ _ = _ from xu_25.1).trans hnb); (have e := hnj i a (by omega); rw [nv_sv hI28 (by omega) xu_25.2 (by omega)]; exact e)) hW hL (lv_sub hl [0, 1, 2, 3] rfl)
        have q_33 : 0 ≤ S18.1 193 8 ∧ S18.1 193 8 ≤ 12 := hI18.fi 193 8 6 (by decide) rfl
        exact loop_28 (_ + 1) S18 0 _ _ _ (Nat.lt_succ_self _) hI18 hFm18 hL18_ Fr.rf (by omega) (by omega) (by omega) hnk (fun i a b => absurd b (by omega)) hW hL (lv_sub hl [0, 1, 2, 3] rfl)
  have lk_34 : (uF (uF S 193 8 (S.1 md 2)) 193 9 (S.1 md 3)).1 193 8 = S.1 md 2 := (uF_ne (fun h => absurd h.2 (by decide))).trans (uF_on)
  have lk_35 : (uF (uF S 193 8 (S.1 md 2)) 193 9 (S.1 md 3)).1 193 9 = S.1 md 3 := uF_on
  exact loop_18 (_ + 1) (uF (uF S 193 8 (S.1 md 2)) 193 9 (S.1 md 3)) 0 _ _ _ (Nat.lt_succ_self _) i_6 F_5 Fr.rf (by omega) (by omega) (by omega) (fun pp i a b => absurd b (by omega)) hW hL (lv_sub hl [0, 1, 2] rfl)
