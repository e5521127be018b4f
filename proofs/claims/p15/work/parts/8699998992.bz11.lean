theorem gTr_cg {kp vp : Int → Int} {F : Nat} {a b c d : Int} (h1 : a = b) (h2 : c = d) : gTr kp vp F a c = gTr kp vp F b d := by rw [h1, h2]
set_option maxRecDepth 100000 in
set_option maxHeartbeats 4000000 in
theorem b_X4_passTree (l : Launch) (G : sG) (S : sS) {T : Int} {kp vp : Int → Int} (hI : cX G S 0 0 0) (hrt : RT G S) (hPS : PS S) (hPT : Hd (PT S T kp vp)) (hKS : Hd (KS T kp)) (hta : S.1 189 3 < T ∧ T ≤ 30001) : Met l yX4_passTree (.code yX4_passTree cX4_passTree 4 (some .boolean) :: tb) (rmk 4 0 0) (sPc G 294 S [.ref (G.2.2.1 + 189)]) (sQi G 294 (fun r u => cX G u 0 0 0 ∧ Fr S u (p1 189) ∧ ((0 ≤ r ∧ r ≤ 1) ∧ PR S u ∧ Hd (r = 1 → gTr kp vp 30001 (S.1 189 3) 1 = some (u.1 189 3) ∧ u.1 189 3 < T) ∧ Hd (r = 0 → gTr kp vp 30001 (S.1 189 3) 1 = none)))) 0 0 (sF G) := by
  refine sEnter (by decide) (Nat.le_of_ble_eq_true rfl) ?_
  intro p e s m args below meth c Cx hr hlk hnm hW ls hl
  have Cx : sC G p m c cX4_passTree 4 s args RX4 := Cx
  obtain ⟨hx, hb, hml, hown, hts⟩ := id Cx.1
  have hL : sL G [] := sL_nil
  have hl : lv_has ls 4 [(0, .ref (G.2.2.1 + 189))] := hl
  have hW0 := hW
  have pr_0 : PR S S := PR.rf hPS
  have hat0 : 0 ≤ S.1 189 3 ∧ S.1 189 3 ≤ 1000000000 := hI.fi 189 3 4 (by decide) rfl
  refine lv_iconst (v := iv 1) hx hb dX4_passTree_0 (by decide) ?_
  refine lv_istore_n (lv' := [(1, .int (iv 1)), (0, .ref (G.2.2.1 + 189))]) hx hb dX4_passTree_1 rfl hl (by decide) rfl (fun ls hl => ?_)
  refine lv_iconst (v := iv 0) hx hb dX4_passTree_2 (by decide) ?_
  refine lv_istore_n (lv' := [(2, .int (iv 0)), (1, .int (iv 1)), (0, .ref (G.2.2.1 + 189))]) hx hb dX4_passTree_3 rfl hl (by decide) rfl (fun ls hl => ?_)
  have loop_4 : ∀ (fuel : Nat) (S4 : sS) (i : Int) (due : Int) (H : Heap) (locs : List Loc) (ls : Array Slot), (30001 - i).toNat < fuel → (cX G S4 0 0 0) → (Fr S S4 (p1 189)) → (Fr S S4 (p1 189)) → (0 ≤ i ∧ i ≤ 30001) → (0 ≤ due ∧ due ≤ i + 1) → (S4.1 189 3 < T) → (Hd (gTr kp vp (30001 - i).toNat (S4.1 189 3) due = gTr kp vp 30001 (S.1 189 3) 1)) → (PR S S4) → sW G 294 S4 H → sL G locs → lv_has ls 4 [(2, .int (iv i)), (1, .int (iv due)), (0, .ref (G.2.2.1 + 189))] → W p l e (rmk 4 0 0) s m args below meth c H locs 0 0 (MQ below (sQi G 294 (fun r u => cX G u 0 0 0 ∧ Fr S u (p1 189) ∧ ((0 ≤ r ∧ r ≤ 1) ∧ PR S u ∧ Hd (r = 1 → gTr kp vp 30001 (S.1 189 3) 1 = some (u.1 189 3) ∧ u.1 189 3 < T) ∧ Hd (r = 0 → gTr kp vp 30001 (S.1 189 3) 1 = none)))) args s 0 0 (sF G)) (F0 m 4 ls []) := by
    intro fuel
    induction fuel with
    | zero => intro S4 i due H locs ls hmeas hI4 hFm4 hL4_ hi hdu hat4 hG hPR4 hW hL hl; exact absurd hmeas (Nat.not_lt_zero _)
    | succ fuel ih_4 =>
      intro S4 i due H locs ls hmeas hI4 hFm4 hL4_ hi hdu hat4 hG hPR4 hW hL hl
      refine lv_iload_n hx hb dX4_passTree_4 rfl (lv_at hl 0 rfl) ?_
      refine lv_sipush (v := iv 30000) hx hb dX4_passTree_5 (by decide) ?_
      refine r_icmp_gt (tgt := 115) hx hb ⟨(by omega), (by omega)⟩ ⟨(by omega), (by omega)⟩ dX4_passTree_8 (by decide) (fun c_1 => ?_) (fun c_1 => ?_)
      · refine lv_iload_n hx hb dX4_passTree_115 rfl (lv_at hl 1 rfl) ?_
        refine r_if_ne (tgt := 123) hx hb ⟨(by omega), (by omega)⟩ dX4_passTree_116 (by decide) (fun c_2 => ?_) (fun c_2 => ?_)
        · refine lv_iconst (v := iv 0) hx hb dX4_passTree_123 (by decide) ?_
          have q_3 : 0 ≤ S4.1 189 3 ∧ S4.1 189 3 ≤ 1000000000 := hI4.fi 189 3 4 (by decide) rfl
          exact sZret Cx hr hlk hW hL (by omega) ⟨hI4, hFm4, ⟨(by omega), hPR4, (fun q => absurd q (by omega)), (fun _ => (by rw [← (show _ = gTr kp vp 30001 (S.1 189 3) 1 from hG)]; first | (exfalso; omega) | (rw [show (30001 - i).toNat = 0 by omega]; exact gTr_0n (by omega))))⟩⟩ dX4_passTree_124
        · refine lv_iconst (v := iv 1) hx hb dX4_passTree_119 (by decide) ?_
          refine lv_goto (tgt := 124) hx hb dX4_passTree_120 (by decide) ?_
          have q_4 : 0 ≤ S4.1 189 3 ∧ S4.1 189 3 ≤ 1000000000 := hI4.fi 189 3 4 (by decide) rfl
          exact sZret Cx hr hlk hW hL (by omega) ⟨hI4, hFm4, ⟨(by omega), hPR4, (fun _ => ⟨(by rw [← (show _ = gTr kp vp 30001 (S.1 189 3) 1 from hG)]; rw [show due = 0 by omega, gTr_z]), by omega⟩), (fun q => absurd q (by omega))⟩⟩ dX4_passTree_124
      · refine lv_iload_n hx hb dX4_passTree_11 rfl (lv_at hl 1 rfl) ?_
        refine r_if_le (tgt := 115) hx hb ⟨(by omega), (by omega)⟩ dX4_passTree_12 (by decide) (fun c_5 => ?_) (fun c_5 => ?_)
        · refine lv_iload_n hx hb dX4_passTree_115 rfl (lv_at hl 1 rfl) ?_
          refine r_if_ne (tgt := 123) hx hb ⟨(by omega), (by omega)⟩ dX4_passTree_116 (by decide) (fun c_6 => ?_) (fun c_6 => ?_)
          · refine lv_iconst (v := iv 0) hx hb dX4_passTree_123 (by decide) ?_
            have q_7 : 0 ≤ S4.1 189 3 ∧ S4.1 189 3 ≤ 1000000000 := hI4.fi 189 3 4 (by decide) rfl
            exact sZret Cx hr hlk hW hL (by omega) ⟨hI4, hFm4, ⟨(by omega), hPR4, (fun q => absurd q (by omega)), (fun _ => (by rw [← (show _ = gTr kp vp 30001 (S.1 189 3) 1 from hG)]; first | (exfalso; omega) | (rw [show (30001 - i).toNat = 0 by omega]; exact gTr_0n (by omega))))⟩⟩ dX4_passTree_124
          · refine lv_iconst (v := iv 1) hx hb dX4_passTree_119 (by decide) ?_
            refine lv_goto (tgt := 124) hx hb dX4_passTree_120 (by decide) ?_
            have q_8 : 0 ≤ S4.1 189 3 ∧ S4.1 189 3 ≤ 1000000000 := hI4.fi 189 3 4 (by decide) rfl
            exact sZret Cx hr hlk hW hL (by omega) ⟨hI4, hFm4, ⟨(by omega), hPR4, (fun _ => ⟨(by rw [← (show _ = gTr kp vp 30001 (S.1 189 3) 1 from hG)]; rw [show due = 0 by omega, gTr_z]), by omega⟩), (fun q => absurd q (by omega))⟩⟩ dX4_passTree_124
        · refine lv_aload_n hx hb dX4_passTree_15 rfl (lv_at hl 2 rfl) ?_
          have q_9 : 0 ≤ S4.1 189 3 ∧ S4.1 189 3 ≤ 1000000000 := hI4.fi 189 3 4 (by decide) rfl
          have q_10 : 0 ≤ S4.1 189 2 ∧ S4.1 189 2 ≤ 30001 := hI4.fi 189 2 4 (by decide) rfl
          refine sBi (sV (As := []) (rest := []) (k := 189) Cx (s_X4_kind l G S4  hI4) (c_X4_119 Cx rfl rfl (rmk_ok (by omega) (by decide))) hW (by decide) rfl rfl rfl hl.1 rfl (Nat.le_of_ble_eq_true rfl) dX4_passTree_16 ⟨Nat.le_of_ble_eq_true rfl, Nat.le_of_ble_eq_true rfl⟩) hL (fun r_13 u_11 H locs k_12 hW hL => ?_)
          obtain ⟨eu_11, xu_11⟩ := k_12
          rw [eu_11] at hW
          have kk_14 : r_13 = kp (S4.1 189 3) := PT.k (PT.pr hPT hPR4 ((hFm4 1 rfl).1 1)) (by have q : 0 ≤ S4.1 189 3 ∧ S4.1 189 3 ≤ 1000000000 := hI4.fi 189 3 4 (by decide) rfl; exact q.1) (by omega) xu_11.2.1 xu_11.2.2
          refine lv_istore_n (lv' := [(3, .int (iv r_13)), (2, .int (iv i)), (1, .int (iv due)), (0, .ref (G.2.2.1 + 189))]) hx hb dX4_passTree_19 rfl hl (by decide) rfl (fun ls hl => ?_)
          refine lv_iload_n hx hb dX4_passTree_20 rfl (lv_at hl 0 rfl) ?_
          refine lv_bipush (v := iv 12) hx hb dX4_passTree_21 (by decide) ?_
          refine r_icmp_lt (tgt := 32) hx hb ⟨(by omega), (by omega)⟩ ⟨(by omega), (by omega)⟩ dX4_passTree_23 (by decide) (fun c_15 => ?_) (fun c_15 => ?_)
          · refine lv_iconst (v := iv 0) hx hb dX4_passTree_32 (by decide) ?_
            exact sZret Cx hr hlk hW hL (by omega) ⟨hI4, hFm4, ⟨(by omega), hPR4, (fun q => absurd q (by omega)), (fun _ => (by rw [← (show _ = gTr kp vp 30001 (S.1 189 3) 1 from hG), (show (30001 - i).toNat = (30001 - (i + 1)).toNat + 1 by omega)]; exact gTr_x (by omega) (by omega)))⟩⟩ dX4_passTree_33
          · refine lv_iload_n hx hb dX4_passTree_26 rfl (lv_at hl 0 rfl) ?_
            refine lv_bipush (v := iv 15) hx hb dX4_passTree_27 (by decide) ?_
            refine r_icmp_le (tgt := 34) hx hb ⟨(by omega), (by omega)⟩ ⟨(by omega), (by omega)⟩ dX4_passTree_29 (by decide) (fun c_16 => ?_) (fun c_16 => ?_)
            · have hs1 := (hKS (S4.1 189 3) (by omega) (by omega)).2
              refine lv_aload_n hx hb dX4_passTree_34 rfl (lv_at hl 3 rfl) ?_
              refine lv_dup hx hb dX4_passTree_35 rfl ?_
              refine g_X4_40 Cx hW (k := 189) (by decide) rfl (v := S4.1 189 3) rfl dX4_passTree_36 ?_
              refine lv_iconst (v := iv 1) hx hb dX4_passTree_39 (by decide) ?_
              refine r_iadd hx hb dX4_passTree_40 ?_
              refine p_X4_40 Cx hW hL (k := 189) (by decide) rfl dX4_passTree_41 (fun H locs hW hL => ?_)
              have kg_u_11 := xu_11.2.1 (by omega)
              have kf_u_11 := xu_11.2.1 (by omega)
              have F_17 : Fr S (uF S4 189 3 ((S4.1 189 3) + 1)) (p1 189) := hFm4.F rfl
              have F_18 : Fr S (uF S4 189 3 ((S4.1 189 3) + 1)) (p1 189) := hL4_.F rfl
              have i_19 : cX G (uF S4 189 3 ((S4.1 189 3) + 1)) 0 0 0 := hI4.F rfl rfl (show 0 ≤ (S4.1 189 3) + 1 ∧ (S4.1 189 3) + 1 ≤ 1000000000 from ⟨by omega, by omega⟩)
              have pr_20 : PR S (uF S4 189 3 ((S4.1 189 3) + 1)) := PR.step hPR4 (by omega) kf_u_11.1 (by rw [kf_u_11.2]; omega)
              refine lv_iload_n hx hb dX4_passTree_44 rfl (lv_at hl 0 rfl) ?_
              refine lv_bipush (v := iv 12) hx hb dX4_passTree_45 (by decide) ?_
              refine r_icmp_ne (tgt := 69) hx hb ⟨(by omega), (by omega)⟩ ⟨(by omega), (by omega)⟩ dX4_passTree_47 (by decide) (fun c_21 => ?_) (fun c_21 => ?_)
              · refine lv_aload_n hx hb dX4_passTree_69 rfl (lv_at hl 3 rfl) ?_
                have lk_22 : (uF S4 189 3 ((S4.1 189 3) + 1)).1 189 3 = (S4.1 189 3) + 1 := uF_on
                refine sBi (sV (As := []) (rest := []) (k := 189) Cx (b_X4_passAbove l G (uF S4 189 3 ((S4.1 189 3) + 1)) (T := T) (kp := kp) (vp := vp) i_19 (rt_pr pr_20 hrt) pr_20.2.2 (PT.pr hPT pr_20 ((F_17 1 rfl).1 1)) hKS (by omega)) (c_X4_125 Cx rfl rfl (rmk_ok (by omega) (by decide))) hW (by decide) rfl rfl rfl hl.1 rfl (Nat.le_of_ble_eq_true rfl) dX4_passTree_70 ⟨Nat.le_of_ble_eq_true rfl, Nat.le_of_ble_eq_true rfl⟩) hL (fun r_25 u_23 H locs k_24 hW hL => ?_)
                obtain ⟨iu_23, fu_23, xu_23⟩ := k_24
                have F_26 := F_17.trans fu_23
                have F_27 := F_18.trans fu_23
                have yu_23 : Hd ((r_25 = 1 → gAb kp vp (S4.1 189 3 + 1) ∧ u_23.1 189 3 = S4.1 189 3 + 1 + 1 ∧ S4.1 189 3 + 1 + 1 < T) ∧ (r_25 = 0 → ¬ gAb kp vp (S4.1 189 3 + 1) ∧ u_23.1 189 3 = S4.1 189 3 + 1)) := by have h1 := (show _ → _ from xu_23.2.2.1); have h2 := (show _ → _ from xu_23.2.2.2); rw [show (uF S4 189 3 ((S4.1 189 3) + 1)).1 189 3 = S4.1 189 3 + 1 by omega] at h1 h2; exact ⟨h1, h2⟩
                have ycu_23 : r_25 = 1 → u_23.1 189 3 = S4.1 189 3 + 1 + 1 ∧ S4.1 189 3 + 1 + 1 < T := fun q => (yu_23.1 q).2
                have pr_28 := PR.trans pr_20 xu_23.2.1
                refine r_if_eq (tgt := 83) hx hb ⟨(by omega), (by omega)⟩ dX4_passTree_73 (by decide) (fun c_29 => ?_) (fun c_29 => ?_)
                · refine lv_iconst (v := iv 0) hx hb dX4_passTree_83 (by decide) ?_
                  have q_30 : 0 ≤ u_23.1 189 3 ∧ u_23.1 189 3 ≤ 1000000000 := iu_23.fi 189 3 4 (by decide) rfl
                  exact sZret Cx hr hlk hW hL (by omega) ⟨iu_23, F_26, ⟨(by omega), pr_28, (fun q => absurd q (by omega)), (fun _ => (by rw [← (show _ = gTr kp vp 30001 (S.1 189 3) 1 from hG), (show (30001 - i).toNat = (30001 - (i + 1)).toNat + 1 by omega)]; exact gTr_pa (by omega) (by omega) (yu_23.2 (by omega)).1))⟩⟩ dX4_passTree_84
                · refine lv_aload_n hx hb dX4_passTree_76 rfl (lv_at hl 3 rfl) ?_
                  have q_31 : 0 ≤ u_23.1 189 3 ∧ u_23.1 189 3 ≤ 1000000000 := iu_23.fi 189 3 4 (by decide) rfl
                  refine sBi (sV (As := []) (rest := []) (k := 189) Cx (b_X4_passPairs l G u_23 (T := T) (kp := kp) (vp := vp) iu_23 (rt_pr pr_28 hrt) pr_28.2.2 (PT.pr hPT pr_28 ((F_26 1 rfl).1 1)) hKS (by omega)) (c_X4_135 Cx rfl rfl (rmk_ok (by omega) (by decide))) hW (by decide) rfl rfl rfl hl.1 rfl (Nat.le_of_ble_eq_true rfl) dX4_passTree_77 ⟨Nat.le_of_ble_eq_true rfl, Nat.le_of_ble_eq_true rfl⟩) hL (fun r_34 u_32 H locs k_33 hW hL => ?_)
                  obtain ⟨iu_32, fu_32, xu_32⟩ := k_33
                  have F_35 := F_26.trans fu_32
                  have F_36 := F_27.trans fu_32
                  have yu_32 : Hd ((r_34 = 1 → gPr kp 30001 (S4.1 189 3 + 2) = some (u_32.1 189 3) ∧ u_32.1 189 3 < T) ∧ (r_34 = 0 → gPr kp 30001 (S4.1 189 3 + 2) = none)) := by have h1 := (show _ → _ from xu_32.2.2.1); have h2 := (show _ → _ from xu_32.2.2.2); rw [show u_23.1 189 3 = S4.1 189 3 + 2 by omega] at h1 h2; exact ⟨h1, h2⟩
                  have ycu_32 : r_34 = 1 → u_32.1 189 3 < T := fun q => (yu_32.1 q).2
                  have pr_37 := PR.trans pr_28 xu_32.2.1
                  refine r_if_ne (tgt := 85) hx hb ⟨(by omega), (by omega)⟩ dX4_passTree_80 (by decide) (fun c_38 => ?_) (fun c_38 => ?_)
                  · refine lv_iload_n hx hb dX4_passTree_85 rfl (lv_at hl 2 rfl) ?_
                    refine lv_iload_n hx hb dX4_passTree_86 rfl (lv_at hl 0 rfl) ?_
                    refine lv_bipush (v := iv 12) hx hb dX4_passTree_87 (by decide) ?_
                    refine r_icmp_ne (tgt := 96) hx hb ⟨(by omega), (by omega)⟩ ⟨(by omega), (by omega)⟩ dX4_passTree_89 (by decide) (fun c_39 => ?_) (fun c_39 => ?_)
                    · refine lv_iload_n hx hb dX4_passTree_96 rfl (lv_at hl 0 rfl) ?_
                      refine lv_bipush (v := iv 13) hx hb dX4_passTree_97 (by decide) ?_
                      refine r_icmp_ne (tgt := 106) hx hb ⟨(by omega), (by omega)⟩ ⟨(by omega), (by omega)⟩ dX4_passTree_99 (by decide) (fun c_40 => ?_) (fun c_40 => ?_)
                      · refine lv_iconst (v := iv (-1)) hx hb dX4_passTree_106 (by decide) ?_
                        refine r_iadd hx hb dX4_passTree_107 ?_
                        refine lv_istore_n (lv' := [(1, .int (iv (due + ((-1))))), (3, .int (iv r_13)), (2, .int (iv i)), (0, .ref (G.2.2.1 + 189))]) hx hb dX4_passTree_108 rfl hl (by decide) rfl (fun ls hl => ?_)
                        refine lv_iinc (v := iv (i + 1)) (lv' := [(2, .int (iv (i + 1))), (1, .int (iv (due + ((-1))))), (3, .int (iv r_13)), (0, .ref (G.2.2.1 + 189))]) hx hb dX4_passTree_109 hl (k := 2) rfl ((Int32.ofInt_add _ _).symm) (by decide) rfl (fun ls hl => ?_)
                        refine lv_goto (tgt := 4) hx hb dX4_passTree_112 (by decide) ?_
                        have q_41 : 0 ≤ u_32.1 189 3 ∧ u_32.1 189 3 ≤ 1000000000 := iu_32.fi 189 3 4 (by decide) rfl
                        exact ih_4 u_32 (i + 1) (due + ((-1))) _ _ _ (by omega) iu_32 F_35 F_36 (by omega) (by omega) (by omega) (show _ = _ by first | (exfalso; omega) | (rw [← (show _ = gTr kp vp 30001 (S.1 189 3) 1 from hG), (show (30001 - i).toNat = (30001 - (i + 1)).toNat + 1 by omega)]; rw [gTr_p (by omega) (by omega) (yu_23.1 (by omega)).1 (yu_32.1 (by omega)).1]; first | (rw [if_pos (by omega)]; exact gTr_cg (by omega) (by omega)) | (rw [if_neg (by omega)]; exact gTr_cg (by omega) (by omega)))) pr_37 hW hL (lv_sub hl [0, 1, 3] rfl)
                      · refine lv_iconst (v := iv 0) hx hb dX4_passTree_102 (by decide) ?_
                        refine lv_goto (tgt := 107) hx hb dX4_passTree_103 (by decide) ?_
                        refine r_iadd hx hb dX4_passTree_107 ?_
                        refine lv_istore_n (lv' := [(1, .int (iv (due + 0))), (3, .int (iv r_13)), (2, .int (iv i)), (0, .ref (G.2.2.1 + 189))]) hx hb dX4_passTree_108 rfl hl (by decide) rfl (fun ls hl => ?_)
                        refine lv_iinc (v := iv (i + 1)) (lv' := [(2, .int (iv (i + 1))), (1, .int (iv (due + 0))), (3, .int (iv r_13)), (0, .ref (G.2.2.1 + 189))]) hx hb dX4_passTree_109 hl (k := 2) rfl ((Int32.ofInt_add _ _).symm) (by decide) rfl (fun ls hl => ?_)
                        refine lv_goto (tgt := 4) hx hb dX4_passTree_112 (by decide) ?_
                        have q_42 : 0 ≤ u_32.1 189 3 ∧ u_32.1 189 3 ≤ 1000000000 := iu_32.fi 189 3 4 (by decide) rfl
                        exact ih_4 u_32 (i + 1) (due + 0) _ _ _ (by omega) iu_32 F_35 F_36 (by omega) (by omega) (by omega) (show _ = _ by first | (exfalso; omega) | (rw [← (show _ = gTr kp vp 30001 (S.1 189 3) 1 from hG), (show (30001 - i).toNat = (30001 - (i + 1)).toNat + 1 by omega)]; rw [gTr_p (by omega) (by omega) (yu_23.1 (by omega)).1 (yu_32.1 (by omega)).1]; first | (rw [if_pos (by omega)]; exact gTr_cg (by omega) (by omega)) | (rw [if_neg (by omega)]; exact gTr_cg (by omega) (by omega)))) pr_37 hW hL (lv_sub hl [0, 1, 3] rfl)
                    · refine lv_iconst (v := iv 1) hx hb dX4_passTree_92 (by decide) ?_
                      refine lv_goto (tgt := 107) hx hb dX4_passTree_93 (by decide) ?_
                      refine r_iadd hx hb dX4_passTree_107 ?_
                      refine lv_istore_n (lv' := [(1, .int (iv (due + 1))), (3, .int (iv r_13)), (2, .int (iv i)), (0, .ref (G.2.2.1 + 189))]) hx hb dX4_passTree_108 rfl hl (by decide) rfl (fun ls hl => ?_)
                      refine lv_iinc (v := iv (i + 1)) (lv' := [(2, .int (iv (i + 1))), (1, .int (iv (due + 1))), (3, .int (iv r_13)), (0, .ref (G.2.2.1 + 189))]) hx hb dX4_passTree_109 hl (k := 2) rfl ((Int32.ofInt_add _ _).symm) (by decide) rfl (fun ls hl => ?_)
                      refine lv_goto (tgt := 4) hx hb dX4_passTree_112 (by decide) ?_
                      have q_43 : 0 ≤ u_32.1 189 3 ∧ u_32.1 189 3 ≤ 1000000000 := iu_32.fi 189 3 4 (by decide) rfl
                      exact ih_4 u_32 (i + 1) (due + 1) _ _ _ (by omega) iu_32 F_35 F_36 (by omega) (by omega) (by omega) (show _ = _ by first | (exfalso; omega) | (rw [← (show _ = gTr kp vp 30001 (S.1 189 3) 1 from hG), (show (30001 - i).toNat = (30001 - (i + 1)).toNat + 1 by omega)]; rw [gTr_p (by omega) (by omega) (yu_23.1 (by omega)).1 (yu_32.1 (by omega)).1]; first | (rw [if_pos (by omega)]; exact gTr_cg (by omega) (by omega)) | (rw [if_neg (by omega)]; exact gTr_cg (by omega) (by omega)))) pr_37 hW hL (lv_sub hl [0, 1, 3] rfl)
                  · refine lv_iconst (v := iv 0) hx hb dX4_passTree_83 (by decide) ?_
                    have q_44 : 0 ≤ u_32.1 189 3 ∧ u_32.1 189 3 ≤ 1000000000 := iu_32.fi 189 3 4 (by decide) rfl
                    exact sZret Cx hr hlk hW hL (by omega) ⟨iu_32, F_35, ⟨(by omega), pr_37, (fun q => absurd q (by omega)), (fun _ => (by rw [← (show _ = gTr kp vp 30001 (S.1 189 3) 1 from hG), (show (30001 - i).toNat = (30001 - (i + 1)).toNat + 1 by omega)]; exact gTr_pp (by omega) (by omega) (yu_23.1 (by omega)).1 (yu_32.2 (by omega))))⟩⟩ dX4_passTree_84
              · refine lv_aload_n hx hb dX4_passTree_50 rfl (lv_at hl 3 rfl) ?_
                refine lv_iconst (v := iv 2) hx hb dX4_passTree_51 (by decide) ?_
                have lk_45 : (uF S4 189 3 ((S4.1 189 3) + 1)).1 189 3 = (S4.1 189 3) + 1 := uF_on
                refine sBi (sV (As := [.int (iv 2)]) (rest := []) (k := 189) Cx (b_X4_pass l G (uF S4 189 3 ((S4.1 189 3) + 1)) (kd := 2) (T := T) (kp := kp) (vp := vp) i_19 (by omega) (rt_pr pr_20 hrt) pr_20.2.2 (PT.pr hPT pr_20 ((F_17 1 rfl).1 1)) hKS (by omega)) (c_X4_122 Cx rfl rfl (rmk_ok (by omega) (by decide))) hW (by decide) rfl rfl rfl hl.1 rfl (Nat.le_of_ble_eq_true rfl) dX4_passTree_52 ⟨Nat.le_of_ble_eq_true rfl, Nat.le_of_ble_eq_true rfl⟩) hL (fun r_48 u_46 H locs k_47 hW hL => ?_)
                obtain ⟨iu_46, fu_46, xu_46⟩ := k_47
                have F_49 := F_17.trans fu_46
                have F_50 := F_18.trans fu_46
                have yu_46 : (r_48 = 1 → kp (S4.1 189 3 + 1) = 2 ∧ u_46.1 189 3 = S4.1 189 3 + 1 + 1 ∧ S4.1 189 3 + 1 + 1 < T) ∧ (r_48 = 0 → ¬ (kp (S4.1 189 3 + 1) = 2) ∧ u_46.1 189 3 = S4.1 189 3 + 1) := by have h1 := (show _ → _ from xu_46.2.2.1); have h2 := (show _ → _ from xu_46.2.2.2); rw [show (uF S4 189 3 ((S4.1 189 3) + 1)).1 189 3 = S4.1 189 3 + 1 by omega] at h1 h2; exact ⟨h1, h2⟩
                have yau_46 := yu_46.1; have ybu_46 := yu_46.2; clear yu_46
                have pr_51 := PR.trans pr_20 xu_46.2.1
                refine r_if_eq (tgt := 83) hx hb ⟨(by omega), (by omega)⟩ dX4_passTree_55 (by decide) (fun c_52 => ?_) (fun c_52 => ?_)
                · refine lv_iconst (v := iv 0) hx hb dX4_passTree_83 (by decide) ?_
                  have q_53 : 0 ≤ u_46.1 189 3 ∧ u_46.1 189 3 ≤ 1000000000 := iu_46.fi 189 3 4 (by decide) rfl
                  exact sZret Cx hr hlk hW hL (by omega) ⟨iu_46, F_49, ⟨(by omega), pr_51, (fun q => absurd q (by omega)), (fun _ => (by rw [← (show _ = gTr kp vp 30001 (S.1 189 3) 1 from hG), (show (30001 - i).toNat = (30001 - (i + 1)).toNat + 1 by omega)]; exact gTr_bx (by omega) (by omega) (by omega)))⟩⟩ dX4_passTree_84
                · refine lv_aload_n hx hb dX4_passTree_58 rfl (lv_at hl 3 rfl) ?_
                  refine lv_iconst (v := iv 2) hx hb dX4_passTree_59 (by decide) ?_
                  have q_54 : 0 ≤ u_46.1 189 3 ∧ u_46.1 189 3 ≤ 1000000000 := iu_46.fi 189 3 4 (by decide) rfl
                  refine sBi (sV (As := [.int (iv 2)]) (rest := []) (k := 189) Cx (b_X4_pass l G u_46 (kd := 2) (T := T) (kp := kp) (vp := vp) iu_46 (by omega) (rt_pr pr_51 hrt) pr_51.2.2 (PT.pr hPT pr_51 ((F_49 1 rfl).1 1)) hKS (by omega)) (c_X4_122 Cx rfl rfl (rmk_ok (by omega) (by decide))) hW (by decide) rfl rfl rfl hl.1 rfl (Nat.le_of_ble_eq_true rfl) dX4_passTree_60 ⟨Nat.le_of_ble_eq_true rfl, Nat.le_of_ble_eq_true rfl⟩) hL (fun r_57 u_55 H locs k_56 hW hL => ?_)
                  obtain ⟨iu_55, fu_55, xu_55⟩ := k_56
                  have F_58 := F_49.trans fu_55
                  have F_59 := F_50.trans fu_55
                  have yu_55 : (r_57 = 1 → kp (S4.1 189 3 + 2) = 2 ∧ u_55.1 189 3 = S4.1 189 3 + 2 + 1 ∧ S4.1 189 3 + 2 + 1 < T) ∧ (r_57 = 0 → ¬ (kp (S4.1 189 3 + 2) = 2) ∧ u_55.1 189 3 = S4.1 189 3 + 2) := by have h1 := (show _ → _ from xu_55.2.2.1); have h2 := (show _ → _ from xu_55.2.2.2); rw [show u_46.1 189 3 = S4.1 189 3 + 2 by omega] at h1 h2; exact ⟨h1, h2⟩
                  have yau_55 := yu_55.1; have ybu_55 := yu_55.2; clear yu_55
                  have pr_60 := PR.trans pr_51 xu_55.2.1
                  refine r_if_eq (tgt := 83) hx hb ⟨(by omega), (by omega)⟩ dX4_passTree_63 (by decide) (fun c_61 => ?_) (fun c_61 => ?_)
                  · refine lv_iconst (v := iv 0) hx hb dX4_passTree_83 (by decide) ?_
                    have q_62 : 0 ≤ u_55.1 189 3 ∧ u_55.1 189 3 ≤ 1000000000 := iu_55.fi 189 3 4 (by decide) rfl
                    exact sZret Cx hr hlk hW hL (by omega) ⟨iu_55, F_58, ⟨(by omega), pr_60, (fun q => absurd q (by omega)), (fun _ => (by rw [← (show _ = gTr kp vp 30001 (S.1 189 3) 1 from hG), (show (30001 - i).toNat = (30001 - (i + 1)).toNat + 1 by omega)]; exact gTr_bx (by omega) (by omega) (by omega)))⟩⟩ dX4_passTree_84
                  · refine lv_goto (tgt := 85) hx hb dX4_passTree_66 (by decide) ?_
                    refine lv_iload_n hx hb dX4_passTree_85 rfl (lv_at hl 2 rfl) ?_
                    refine lv_iload_n hx hb dX4_passTree_86 rfl (lv_at hl 0 rfl) ?_
                    refine lv_bipush (v := iv 12) hx hb dX4_passTree_87 (by decide) ?_
                    refine r_icmp_ne (tgt := 96) hx hb ⟨(by omega), (by omega)⟩ ⟨(by omega), (by omega)⟩ dX4_passTree_89 (by decide) (fun c_63 => ?_) (fun c_63 => ?_)
                    · refine lv_iload_n hx hb dX4_passTree_96 rfl (lv_at hl 0 rfl) ?_
                      refine lv_bipush (v := iv 13) hx hb dX4_passTree_97 (by decide) ?_
                      refine r_icmp_ne (tgt := 106) hx hb ⟨(by omega), (by omega)⟩ ⟨(by omega), (by omega)⟩ dX4_passTree_99 (by decide) (fun c_64 => ?_) (fun c_64 => ?_)
                      · refine lv_iconst (v := iv (-1)) hx hb dX4_passTree_106 (by decide) ?_
                        refine r_iadd hx hb dX4_passTree_107 ?_
                        refine lv_istore_n (lv' := [(1, .int (iv (due + ((-1))))), (3, .int (iv r_13)), (2, .int (iv i)), (0, .ref (G.2.2.1 + 189))]) hx hb dX4_passTree_108 rfl hl (by decide) rfl (fun ls hl => ?_)
                        refine lv_iinc (v := iv (i + 1)) (lv' := [(2, .int (iv (i + 1))), (1, .int (iv (due + ((-1))))), (3, .int (iv r_13)), (0, .ref (G.2.2.1 + 189))]) hx hb dX4_passTree_109 hl (k := 2) rfl ((Int32.ofInt_add _ _).symm) (by decide) rfl (fun ls hl => ?_)
                        refine lv_goto (tgt := 4) hx hb dX4_passTree_112 (by decide) ?_
                        have q_65 : 0 ≤ u_55.1 189 3 ∧ u_55.1 189 3 ≤ 1000000000 := iu_55.fi 189 3 4 (by decide) rfl
                        exact ih_4 u_55 (i + 1) (due + ((-1))) _ _ _ (by omega) iu_55 F_58 F_59 (by omega) (by omega) (by omega) (show _ = _ by first | (exfalso; omega) | (rw [← (show _ = gTr kp vp 30001 (S.1 189 3) 1 from hG), (show (30001 - i).toNat = (30001 - (i + 1)).toNat + 1 by omega)]; rw [gTr_b (by omega) (by omega) (by omega) (by omega)]; exact gTr_cg (by omega) (by omega))) pr_60 hW hL (lv_sub hl [0, 1, 3] rfl)
                      · refine lv_iconst (v := iv 0) hx hb dX4_passTree_102 (by decide) ?_
                        refine lv_goto (tgt := 107) hx hb dX4_passTree_103 (by decide) ?_
                        refine r_iadd hx hb dX4_passTree_107 ?_
                        refine lv_istore_n (lv' := [(1, .int (iv (due + 0))), (3, .int (iv r_13)), (2, .int (iv i)), (0, .ref (G.2.2.1 + 189))]) hx hb dX4_passTree_108 rfl hl (by decide) rfl (fun ls hl => ?_)
                        refine lv_iinc (v := iv (i + 1)) (lv' := [(2, .int (iv (i + 1))), (1, .int (iv (due + 0))), (3, .int (iv r_13)), (0, .ref (G.2.2.1 + 189))]) hx hb dX4_passTree_109 hl (k := 2) rfl ((Int32.ofInt_add _ _).symm) (by decide) rfl (fun ls hl => ?_)
                        refine lv_goto (tgt := 4) hx hb dX4_passTree_112 (by decide) ?_
                        have q_66 : 0 ≤ u_55.1 189 3 ∧ u_55.1 189 3 ≤ 1000000000 := iu_55.fi 189 3 4 (by decide) rfl
                        exact ih_4 u_55 (i + 1) (due + 0) _ _ _ (by omega) iu_55 F_58 F_59 (by omega) (by omega) (by omega) (show _ = _ by first | (exfalso; omega) | (rw [← (show _ = gTr kp vp 30001 (S.1 189 3) 1 from hG), (show (30001 - i).toNat = (30001 - (i + 1)).toNat + 1 by omega)]; rw [gTr_b (by omega) (by omega) (by omega) (by omega)]; exact gTr_cg (by omega) (by omega))) pr_60 hW hL (lv_sub hl [0, 1, 3] rfl)
                    · refine lv_iconst (v := iv 1) hx hb dX4_passTree_92 (by decide) ?_
                      refine lv_goto (tgt := 107) hx hb dX4_passTree_93 (by decide) ?_
                      refine r_iadd hx hb dX4_passTree_107 ?_
                      refine lv_istore_n (lv' := [(1, .int (iv (due + 1))), (3, .int (iv r_13)), (2, .int (iv i)), (0, .ref (G.2.2.1 + 189))]) hx hb dX4_passTree_108 rfl hl (by decide) rfl (fun ls hl => ?_)
                      refine lv_iinc (v := iv (i + 1)) (lv' := [(2, .int (iv (i + 1))), (1, .int (iv (due + 1))), (3, .int (iv r_13)), (0, .ref (G.2.2.1 + 189))]) hx hb dX4_passTree_109 hl (k := 2) rfl ((Int32.ofInt_add _ _).symm) (by decide) rfl (fun ls hl => ?_)
                      refine lv_goto (tgt := 4) hx hb dX4_passTree_112 (by decide) ?_
                      have q_67 : 0 ≤ u_55.1 189 3 ∧ u_55.1 189 3 ≤ 1000000000 := iu_55.fi 189 3 4 (by decide) rfl
                      exact ih_4 u_55 (i + 1) (due + 1) _ _ _ (by omega) iu_55 F_58 F_59 (by omega) (by omega) (by omega) (show _ = _ by first | (exfalso; omega) | (rw [← (show _ = gTr kp vp 30001 (S.1 189 3) 1 from hG), (show (30001 - i).toNat = (30001 - (i + 1)).toNat + 1 by omega)]; rw [gTr_b (by omega) (by omega) (by omega) (by omega)]; exact gTr_cg (by omega) (by omega))) pr_60 hW hL (lv_sub hl [0, 1, 3] rfl)
            · refine lv_iconst (v := iv 0) hx hb dX4_passTree_32 (by decide) ?_
              exact sZret Cx hr hlk hW hL (by omega) ⟨hI4, hFm4, ⟨(by omega), hPR4, (fun q => absurd q (by omega)), (fun _ => (by rw [← (show _ = gTr kp vp 30001 (S.1 189 3) 1 from hG), (show (30001 - i).toNat = (30001 - (i + 1)).toNat + 1 by omega)]; exact gTr_x (by omega) (by omega)))⟩⟩ dX4_passTree_33
  have q_68 : 0 ≤ S.1 189 3 ∧ S.1 189 3 ≤ 1000000000 := hI.fi 189 3 4 (by decide) rfl
  exact loop_4 (_ + 1) S 0 1 _ _ _ (Nat.lt_succ_self _) hI (Fr.rf : Fr S S (p1 189)) Fr.rf (by omega) (by omega) (by omega) (show _ = _ from rfl) pr_0 hW hL (lv_sub hl [0, 1, 2] rfl)

set_option maxRecDepth 100000 in
set_option maxHeartbeats 4000000 in
theorem b_X4_isProof (l : Launch) (G : sG) (S : sS) {vs : Int} {T : Int} {kp vp : Int → Int} (hI : cX G S 0 0 0) (hvs : 0 ≤ vs ∧ vs ≤ 12) (hrt : RT G S) (hPS : PS S) (hPT : Hd (PT S T kp vp)) (hKS : Hd (KS T kp)) (hta : S.1 189 3 < T ∧ T ≤ 30001) (hRO : RO S) (ha0 : S.1 189 3 = 0) : Met l yX4_isProof (.code yX4_isProof cX4_isProof 3 (some .boolean) :: tb) (rmk 5 0 0) (sPc G 294 S [.ref (G.2.2.1 + 189), .int (iv vs)]) (sQi G 294 (fun r u => cX G u 0 0 0 ∧ Fr S u (p1 189) ∧ ((0 ≤ r ∧ r ≤ 1) ∧ PR S u ∧ Hd (r = 1 → DA u) ∧ Hd (r = 1 ↔ isP kp vp vs)))) 0 0 (sF G) := by
  refine sEnter (by decide) (Nat.le_of_ble_eq_true rfl) ?_
  intro p e s m args below meth c Cx hr hlk hnm hW ls hl
  have Cx : sC G p m c cX4_isProof 3 s args RX4 := Cx
  obtain ⟨hx, hb, hml, hown, hts⟩ := id Cx.1
  have hL : sL G [] := sL_nil
  have hl : lv_has ls 3 [(0, .ref (G.2.2.1 + 189)), (1, .int (iv vs))] := hl
  have hW0 := hW
  have pr_0 : PR S S := PR.rf hPS
  have hat0 : 0 ≤ S.1 189 3 ∧ S.1 189 3 ≤ 1000000000 := hI.fi 189 3 4 (by decide) rfl
  refine lv_aload_n hx hb dX4_isProof_0 rfl (lv_at hl 0 rfl) ?_
  have q_1 : 0 ≤ S.1 189 3 ∧ S.1 189 3 ≤ 1000000000 := hI.fi 189 3 4 (by decide) rfl
  have q_2 : 0 ≤ S.1 189 2 ∧ S.1 189 2 ≤ 30001 := hI.fi 189 2 4 (by decide) rfl
  refine sBi (sV (As := []) (rest := []) (k := 189) Cx (s_X4_kind l G S  hI) (c_X4_119 Cx rfl rfl (rmk_ok (by omega) (by decide))) hW (by decide) rfl rfl rfl hl.1 rfl (Nat.le_of_ble_eq_true rfl) dX4_isProof_1 ⟨Nat.le_of_ble_eq_true rfl, Nat.le_of_ble_eq_true rfl⟩) hL (fun hd0 u_3 H locs k_4 hW hL => ?_)
  obtain ⟨eu_3, xu_3⟩ := k_4
  rw [eu_3] at hW
  have kk_5 : hd0 = kp (S.1 189 3) := PT.k (PT.pr hPT pr_0 (((Fr.rf : Fr S S (p1 189)) 1 rfl).1 1)) (by have q : 0 ≤ S.1 189 3 ∧ S.1 189 3 ≤ 1000000000 := hI.fi 189 3 4 (by decide) rfl; exact q.1) (by omega) xu_3.2.1 xu_3.2.2
  rw [ha0] at kk_5
  refine lv_istore_n (lv' := [(2, .int (iv hd0)), (0, .ref (G.2.2.1 + 189)), (1, .int (iv vs))]) hx hb dX4_isProof_4 rfl hl (by decide) rfl (fun ls hl => ?_)
  have join_25 : ∀  (H : Heap) (locs : List Loc) (ls : Array Slot), (hd0 = 7 ∨ hd0 = 8 ∨ hd0 = 9) → sW G 294 S H → sL G locs → lv_has ls 3 [(2, .int (iv hd0)), (0, .ref (G.2.2.1 + 189)), (1, .int (iv vs))] → W p l e (rmk 5 0 0) s m args below meth c H locs 0 0 (MQ below (sQi G 294 (fun r u => cX G u 0 0 0 ∧ Fr S u (p1 189) ∧ ((0 ≤ r ∧ r ≤ 1) ∧ PR S u ∧ Hd (r = 1 → DA u) ∧ Hd (r = 1 ↔ isP kp vp vs)))) args s 0 0 (sF G)) (F0 m 25 ls []) := by
    intro  H locs ls hkn hW hL hl
    have hs0 := (hKS 0 (by omega) (by omega)).2
    refine lv_aload_n hx hb dX4_isProof_25 rfl (lv_at hl 1 rfl) ?_
    refine lv_dup hx hb dX4_isProof_26 rfl ?_
    refine g_X4_40 Cx hW (k := 189) (by decide) rfl (v := S.1 189 3) rfl dX4_isProof_27 ?_
    refine lv_iconst (v := iv 1) hx hb dX4_isProof_30 (by decide) ?_
    refine r_iadd hx hb dX4_isProof_31 ?_
    refine p_X4_40 Cx hW hL (k := 189) (by decide) rfl dX4_isProof_32 (fun H locs hW hL => ?_)
    have kg_u_3 := xu_3.2.1 (by omega)
    have kf_u_3 := xu_3.2.1 (by omega)
    have F_6 : Fr S (uF S 189 3 ((S.1 189 3) + 1)) (p1 189) := (Fr.rf : Fr S S (p1 189)).F rfl
    have i_7 : cX G (uF S 189 3 ((S.1 189 3) + 1)) 0 0 0 := hI.F rfl rfl (show 0 ≤ (S.1 189 3) + 1 ∧ (S.1 189 3) + 1 ≤ 1000000000 from ⟨by omega, by omega⟩)
    have pr_8 : PR S (uF S 189 3 ((S.1 189 3) + 1)) := PR.step pr_0 (by omega) kf_u_3.1 (by rw [kf_u_3.2]; omega)
    refine lv_iload_n hx hb dX4_isProof_35 rfl (lv_at hl 0 rfl) ?_
    refine lv_bipush (v := iv 7) hx hb dX4_isProof_36 (by decide) ?_
    refine r_icmp_ne (tgt := 66) hx hb ⟨(by omega), (by omega)⟩ ⟨(by omega), (by omega)⟩ dX4_isProof_38 (by decide) (fun c_9 => ?_) (fun c_9 => ?_)
    · refine lv_iload_n hx hb dX4_isProof_66 rfl (lv_at hl 0 rfl) ?_
      refine lv_bipush (v := iv 8) hx hb dX4_isProof_67 (by decide) ?_
      refine r_icmp_eq (tgt := 91) hx hb ⟨(by omega), (by omega)⟩ ⟨(by omega), (by omega)⟩ dX4_isProof_69 (by decide) (fun c_10 => ?_) (fun c_10 => ?_)
      · refine lv_iload_n hx hb dX4_isProof_91 rfl (lv_at hl 0 rfl) ?_
        refine lv_bipush (v := iv 9) hx hb dX4_isProof_92 (by decide) ?_
        refine r_icmp_ne (tgt := 127) hx hb ⟨(by omega), (by omega)⟩ ⟨(by omega), (by omega)⟩ dX4_isProof_94 (by decide) (fun c_11 => ?_) (fun c_11 => ?_)
        · refine lv_aload_n hx hb dX4_isProof_127 rfl (lv_at hl 1 rfl) ?_
          have lk_12 : (uF S 189 3 ((S.1 189 3) + 1)).1 189 3 = (S.1 189 3) + 1 := uF_on
          refine sBi (sV (As := []) (rest := []) (k := 189) Cx (b_X4_passTree l G (uF S 189 3 ((S.1 189 3) + 1)) (T := T) (kp := kp) (vp := vp) i_7 (rt_pr pr_8 hrt) pr_8.2.2 (PT.pr hPT pr_8 ((F_6 1 rfl).1 1)) hKS (by omega)) (c_X4_132 Cx rfl rfl (rmk_ok (by omega) (by decide))) hW (by decide) rfl rfl rfl hl.1 rfl (Nat.le_of_ble_eq_true rfl) dX4_isProof_128 ⟨Nat.le_of_ble_eq_true rfl, Nat.le_of_ble_eq_true rfl⟩) hL (fun r_15 u_13 H locs k_14 hW hL => ?_)
          obtain ⟨iu_13, fu_13, xu_13⟩ := k_14
          have F_16 := F_6.trans fu_13
          have yu_13 : Hd ((r_15 = 1 → gTr kp vp 30001 (1) 1 = some (u_13.1 189 3) ∧ u_13.1 189 3 < T) ∧ (r_15 = 0 → gTr kp vp 30001 (1) 1 = none)) := by have h1 := (show _ → _ from xu_13.2.2.1); have h2 := (show _ → _ from xu_13.2.2.2); rw [show (uF S 189 3 ((S.1 189 3) + 1)).1 189 3 = 1 by omega] at h1 h2; exact ⟨h1, h2⟩
          have ycu_13 : r_15 = 1 → u_13.1 189 3 < T := fun q => (yu_13.1 q).2
          have pr_17 := PR.trans pr_8 xu_13.2.1
          refine r_if_eq (tgt := 145) hx hb ⟨(by omega), (by omega)⟩ dX4_isProof_131 (by decide) (fun c_18 => ?_) (fun c_18 => ?_)
          · refine lv_iconst (v := iv 0) hx hb dX4_isProof_145 (by decide) ?_
            have q_19 : 0 ≤ u_13.1 189 3 ∧ u_13.1 189 3 ≤ 1000000000 := iu_13.fi 189 3 4 (by decide) rfl
            exact sZret Cx hr hlk hW hL (by omega) ⟨iu_13, F_16, ⟨(by omega), pr_17, fun q => absurd q (by omega), (show _ ↔ _ from ⟨fun q => absurd q (by omega), fun q => by rcases q with ⟨q0, q1, qq, q3, q4, q5, e, q6, q7⟩ | ⟨q0, e, q6, q7⟩ | ⟨q0, q1, q2, q3, q4, q5⟩ <;> first | (exfalso; omega) | (exact absurd ((yu_13.2 (by omega)).symm.trans q6) (by intro z; cases z)) | (have z := Option.some.inj (((yu_13.1 (by omega)).1).symm.trans q6); rw [← z] at q7; exfalso; omega)⟩)⟩⟩ dX4_isProof_146
          · refine lv_aload_n hx hb dX4_isProof_134 rfl (lv_at hl 1 rfl) ?_
            have q_20 : 0 ≤ u_13.1 189 3 ∧ u_13.1 189 3 ≤ 1000000000 := iu_13.fi 189 3 4 (by decide) rfl
            have q_21 : 0 ≤ u_13.1 189 2 ∧ u_13.1 189 2 ≤ 30001 := iu_13.fi 189 2 4 (by decide) rfl
            refine sBi (sV (As := []) (rest := []) (k := 189) Cx (s_X4_kind l G u_13  iu_13) (c_X4_119 Cx rfl rfl (rmk_ok (by omega) (by decide))) hW (by decide) rfl rfl rfl hl.1 rfl (Nat.le_of_ble_eq_true rfl) dX4_isProof_135 ⟨Nat.le_of_ble_eq_true rfl, Nat.le_of_ble_eq_true rfl⟩) hL (fun r_24 u_22 H locs k_23 hW hL => ?_)
            obtain ⟨eu_22, xu_22⟩ := k_23
            rw [eu_22] at hW
            have kk_25 : r_24 = kp (u_13.1 189 3) := PT.k (PT.pr hPT pr_17 ((F_16 1 rfl).1 1)) (by have q : 0 ≤ u_13.1 189 3 ∧ u_13.1 189 3 ≤ 1000000000 := iu_13.fi 189 3 4 (by decide) rfl; exact q.1) (by omega) xu_22.2.1 xu_22.2.2
            refine r_if_ne (tgt := 145) hx hb ⟨(by omega), (by omega)⟩ dX4_isProof_138 (by decide) (fun c_26 => ?_) (fun c_26 => ?_)
            · refine lv_iconst (v := iv 0) hx hb dX4_isProof_145 (by decide) ?_
              exact sZret Cx hr hlk hW hL (by omega) ⟨iu_13, F_16, ⟨(by omega), pr_17, fun q => absurd q (by omega), (show _ ↔ _ from ⟨fun q => absurd q (by omega), fun q => by rcases q with ⟨q0, q1, qq, q3, q4, q5, e, q6, q7⟩ | ⟨q0, e, q6, q7⟩ | ⟨q0, q1, q2, q3, q4, q5⟩ <;> first | (exfalso; omega) | (exact absurd ((yu_13.2 (by omega)).symm.trans q6) (by intro z; cases z)) | (have z := Option.some.inj (((yu_13.1 (by omega)).1).symm.trans q6); rw [← z] at q7; exfalso; omega)⟩)⟩⟩ dX4_isProof_146
            · refine lv_iconst (v := iv 1) hx hb dX4_isProof_141 (by decide) ?_
              refine lv_goto (tgt := 146) hx hb dX4_isProof_142 (by decide) ?_
              exact sZret Cx hr hlk hW hL (by omega) ⟨iu_13, F_16, ⟨(by omega), pr_17, fun _ => DA_of hRO pr_17 ((F_16 1 rfl).1 1) (iu_13.fi 189 3 4 (by decide) rfl).1 (xu_22.2.2 (by omega)), (show _ ↔ _ from ⟨fun _ => by first | (exfalso; omega) | exact .inr (.inl ⟨by omega, ⟨u_13.1 189 3, (yu_13.1 (by omega)).1, by omega⟩⟩), fun _ => rfl⟩)⟩⟩ dX4_isProof_146
        · refine lv_aload_n hx hb dX4_isProof_97 rfl (lv_at hl 1 rfl) ?_
          refine lv_bipush (v := iv 11) hx hb dX4_isProof_98 (by decide) ?_
          have lk_27 : (uF S 189 3 ((S.1 189 3) + 1)).1 189 3 = (S.1 189 3) + 1 := uF_on
          refine sBi (sV (As := [.int (iv 11)]) (rest := []) (k := 189) Cx (b_X4_pass l G (uF S 189 3 ((S.1 189 3) + 1)) (kd := 11) (T := T) (kp := kp) (vp := vp) i_7 (by omega) (rt_pr pr_8 hrt) pr_8.2.2 (PT.pr hPT pr_8 ((F_6 1 rfl).1 1)) hKS (by omega)) (c_X4_122 Cx rfl rfl (rmk_ok (by omega) (by decide))) hW (by decide) rfl rfl rfl hl.1 rfl (Nat.le_of_ble_eq_true rfl) dX4_isProof_100 ⟨Nat.le_of_ble_eq_true rfl, Nat.le_of_ble_eq_true rfl⟩) hL (fun r_30 u_28 H locs k_29 hW hL => ?_)
          obtain ⟨iu_28, fu_28, xu_28⟩ := k_29
          have F_31 := F_6.trans fu_28
          have yu_28 : (r_30 = 1 → kp (vs + 4) = 11 ∧ u_28.1 189 3 = vs + 4 + 1 ∧ vs + 4 + 1 < T) ∧ (r_30 = 0 → ¬ (kp (vs + 4) = 11) ∧ u_28.1 189 3 = vs + 4) := by have h1 := (show _ → _ from xu_28.2.2.1); have h2 := (show _ → _ from xu_28.2.2.2); rw [show (uF S 189 3 ((S.1 189 3) + 1)).1 189 3 = vs + 4 by omega] at h1 h2; exact ⟨h1, h2⟩
          have yau_28 := yu_28.1; have ybu_28 := yu_28.2; clear yu_28
          have pr_32 := PR.trans pr_8 xu_28.2.1
          refine r_if_eq (tgt := 125) hx hb ⟨(by omega), (by omega)⟩ dX4_isProof_103 (by decide) (fun c_33 => ?_) (fun c_33 => ?_)
          · refine lv_iconst (v := iv 0) hx hb dX4_isProof_125 (by decide) ?_
            have q_34 : 0 ≤ u_28.1 189 3 ∧ u_28.1 189 3 ≤ 1000000000 := iu_28.fi 189 3 4 (by decide) rfl
            exact sZret Cx hr hlk hW hL (by omega) ⟨iu_28, F_31, ⟨(by omega), pr_32, fun q => absurd q (by omega), (show _ ↔ _ from ⟨fun q => absurd q (by omega), fun q => by rcases q with ⟨q0, q1, qq, q3, q4, q5, e, q6, q7⟩ | ⟨q0, e, q6, q7⟩ | ⟨q0, q1, q2, q3, q4, q5⟩ <;> first | (exfalso; omega)⟩)⟩⟩ dX4_isProof_126
          · refine lv_aload_n hx hb dX4_isProof_106 rfl (lv_at hl 1 rfl) ?_
            refine lv_iload_n hx hb dX4_isProof_107 rfl (lv_at hl 2 rfl) ?_
            have q_35 : 0 ≤ u_28.1 189 3 ∧ u_28.1 189 3 ≤ 1000000000 := iu_28.fi 189 3 4 (by decide) rfl
            refine sBi (sV (As := [.int (iv vs)]) (rest := []) (k := 189) Cx (b_X4_passPoint l G u_28 (vs := vs) (T := T) (kp := kp) (vp := vp) iu_28 (by omega) (rt_pr pr_32 hrt) pr_32.2.2 (PT.pr hPT pr_32 ((F_31 1 rfl).1 1)) hKS (by omega)) (c_X4_129 Cx rfl rfl (rmk_ok (by omega) (by decide))) hW (by decide) rfl rfl rfl hl.1 rfl (Nat.le_of_ble_eq_true rfl) dX4_isProof_108 ⟨Nat.le_of_ble_eq_true rfl, Nat.le_of_ble_eq_true rfl⟩) hL (fun r_38 u_36 H locs k_37 hW hL => ?_)
            obtain ⟨iu_36, fu_36, xu_36⟩ := k_37
            have F_39 := F_31.trans fu_36
            have yu_36 : Hd ((r_38 = 1 → gPn kp vp vs (vs + 5) ∧ u_36.1 189 3 = vs + 5 + vs + 2 ∧ vs + 5 + vs + 2 < T) ∧ (r_38 = 0 → ¬ gPn kp vp vs (vs + 5))) := by have h1 := (show _ → _ from xu_36.2.2.1); have h2 := (show _ → _ from xu_36.2.2.2); rw [show u_28.1 189 3 = vs + 5 by omega] at h1 h2; exact ⟨h1, h2⟩
            have ycu_36 : r_38 = 1 → u_36.1 189 3 = vs + 5 + vs + 2 ∧ vs + 5 + vs + 2 < T := fun q => (yu_36.1 q).2
            have pr_40 := PR.trans pr_32 xu_36.2.1
            refine r_if_eq (tgt := 125) hx hb ⟨(by omega), (by omega)⟩ dX4_isProof_111 (by decide) (fun c_41 => ?_) (fun c_41 => ?_)
            · refine lv_iconst (v := iv 0) hx hb dX4_isProof_125 (by decide) ?_
              have q_42 : 0 ≤ u_36.1 189 3 ∧ u_36.1 189 3 ≤ 1000000000 := iu_36.fi 189 3 4 (by decide) rfl
              exact sZret Cx hr hlk hW hL (by omega) ⟨iu_36, F_39, ⟨(by omega), pr_40, fun q => absurd q (by omega), (show _ ↔ _ from ⟨fun q => absurd q (by omega), fun q => by rcases q with ⟨q0, q1, qq, q3, q4, q5, e, q6, q7⟩ | ⟨q0, e, q6, q7⟩ | ⟨q0, q1, q2, q3, q4, q5⟩ <;> first | (exfalso; omega) | (exfalso; exact yu_36.2 (by omega) q4)⟩)⟩⟩ dX4_isProof_126
            · refine lv_aload_n hx hb dX4_isProof_114 rfl (lv_at hl 1 rfl) ?_
              have q_43 : 0 ≤ u_36.1 189 3 ∧ u_36.1 189 3 ≤ 1000000000 := iu_36.fi 189 3 4 (by decide) rfl
              have q_44 : 0 ≤ u_36.1 189 2 ∧ u_36.1 189 2 ≤ 30001 := iu_36.fi 189 2 4 (by decide) rfl
              refine sBi (sV (As := []) (rest := []) (k := 189) Cx (s_X4_kind l G u_36  iu_36) (c_X4_119 Cx rfl rfl (rmk_ok (by omega) (by decide))) hW (by decide) rfl rfl rfl hl.1 rfl (Nat.le_of_ble_eq_true rfl) dX4_isProof_115 ⟨Nat.le_of_ble_eq_true rfl, Nat.le_of_ble_eq_true rfl⟩) hL (fun r_47 u_45 H locs k_46 hW hL => ?_)
              obtain ⟨eu_45, xu_45⟩ := k_46
              rw [eu_45] at hW
              have kk_48 : r_47 = kp (u_36.1 189 3) := PT.k (PT.pr hPT pr_40 ((F_39 1 rfl).1 1)) (by have q : 0 ≤ u_36.1 189 3 ∧ u_36.1 189 3 ≤ 1000000000 := iu_36.fi 189 3 4 (by decide) rfl; exact q.1) (by omega) xu_45.2.1 xu_45.2.2
              have hke : r_47 = kp (vs + 5 + vs + 2) := by rw [show vs + 5 + vs + 2 = u_36.1 189 3 by omega]; exact kk_48
              refine r_if_ne (tgt := 125) hx hb ⟨(by omega), (by omega)⟩ dX4_isProof_118 (by decide) (fun c_49 => ?_) (fun c_49 => ?_)
              · refine lv_iconst (v := iv 0) hx hb dX4_isProof_125 (by decide) ?_
                exact sZret Cx hr hlk hW hL (by omega) ⟨iu_36, F_39, ⟨(by omega), pr_40, fun q => absurd q (by omega), (show _ ↔ _ from ⟨fun q => absurd q (by omega), fun q => by rcases q with ⟨q0, q1, qq, q3, q4, q5, e, q6, q7⟩ | ⟨q0, e, q6, q7⟩ | ⟨q0, q1, q2, q3, q4, q5⟩ <;> first | (exfalso; omega) | (exfalso; exact yu_36.2 (by omega) q4)⟩)⟩⟩ dX4_isProof_126
              · refine lv_iconst (v := iv 1) hx hb dX4_isProof_121 (by decide) ?_
                refine lv_goto (tgt := 126) hx hb dX4_isProof_122 (by decide) ?_
                exact sZret Cx hr hlk hW hL (by omega) ⟨iu_36, F_39, ⟨(by omega), pr_40, fun _ => DA_of hRO pr_40 ((F_39 1 rfl).1 1) (iu_36.fi 189 3 4 (by decide) rfl).1 (xu_45.2.2 (by omega)), (show _ ↔ _ from ⟨fun _ => by first | (exfalso; omega) | exact .inr (.inr ⟨by omega, by omega, (yzz.1 (by omega)).1, by have := yau_28; omega, (yu_36.1 (by omega)).1, by omega⟩), fun _ => rfl⟩)⟩⟩ dX4_isProof_126
      · refine lv_aload_n hx hb dX4_isProof_72 rfl (lv_at hl 1 rfl) ?_
        refine lv_bipush (v := iv 10) hx hb dX4_isProof_73 (by decide) ?_
        have lk_50 : (uF S 189 3 ((S.1 189 3) + 1)).1 189 3 = (S.1 189 3) + 1 := uF_on
        refine sBi (sV (As := [.int (iv 10)]) (rest := []) (k := 189) Cx (b_X4_pass l G (uF S 189 3 ((S.1 189 3) + 1)) (kd := 10) (T := T) (kp := kp) (vp := vp) i_7 (by omega) (rt_pr pr_8 hrt) pr_8.2.2 (PT.pr hPT pr_8 ((F_6 1 rfl).1 1)) hKS (by omega)) (c_X4_122 Cx rfl rfl (rmk_ok (by omega) (by decide))) hW (by decide) rfl rfl rfl hl.1 rfl (Nat.le_of_ble_eq_true rfl) dX4_isProof_75 ⟨Nat.le_of_ble_eq_true rfl, Nat.le_of_ble_eq_true rfl⟩) hL (fun r_53 u_51 H locs k_52 hW hL => ?_)
        obtain ⟨iu_51, fu_51, xu_51⟩ := k_52
        have F_54 := F_6.trans fu_51
        have yu_51 : (r_53 = 1 → kp (1) = 10 ∧ u_51.1 189 3 = 1 + 1 ∧ 1 + 1 < T) ∧ (r_53 = 0 → ¬ (kp (1) = 10) ∧ u_51.1 189 3 = 1) := by have h1 := (show _ → _ from xu_51.2.2.1); have h2 := (show _ → _ from xu_51.2.2.2); rw [show (uF S 189 3 ((S.1 189 3) + 1)).1 189 3 = 1 by omega] at h1 h2; exact ⟨h1, h2⟩
        have yau_51 := yu_51.1; have ybu_51 := yu_51.2; clear yu_51
        have pr_55 := PR.trans pr_8 xu_51.2.1
        refine r_if_eq (tgt := 89) hx hb ⟨(by omega), (by omega)⟩ dX4_isProof_78 (by decide) (fun c_56 => ?_) (fun c_56 => ?_)
        · refine lv_iconst (v := iv 0) hx hb dX4_isProof_89 (by decide) ?_
          have q_57 : 0 ≤ u_51.1 189 3 ∧ u_51.1 189 3 ≤ 1000000000 := iu_51.fi 189 3 4 (by decide) rfl
          exact sZret Cx hr hlk hW hL (by omega) ⟨iu_51, F_54, ⟨(by omega), pr_55, fun q => absurd q (by omega), (show _ ↔ _ from ⟨fun q => absurd q (by omega), fun q => by rcases q with ⟨q0, q1, qq, q3, q4, q5, e, q6, q7⟩ | ⟨q0, e, q6, q7⟩ | ⟨q0, q1, q2, q3, q4, q5⟩ <;> first | (exfalso; omega)⟩)⟩⟩ dX4_isProof_90
        · refine lv_aload_n hx hb dX4_isProof_81 rfl (lv_at hl 1 rfl) ?_
          refine lv_iload_n hx hb dX4_isProof_82 rfl (lv_at hl 2 rfl) ?_
          have q_58 : 0 ≤ u_51.1 189 3 ∧ u_51.1 189 3 ≤ 1000000000 := iu_51.fi 189 3 4 (by decide) rfl
          refine sBi (sV (As := [.int (iv vs)]) (rest := []) (k := 189) Cx (b_X4_passPoint l G u_51 (vs := vs) (T := T) (kp := kp) (vp := vp) iu_51 (by omega) (rt_pr pr_55 hrt) pr_55.2.2 (PT.pr hPT pr_55 ((F_54 1 rfl).1 1)) hKS (by omega)) (c_X4_129 Cx rfl rfl (rmk_ok (by omega) (by decide))) hW (by decide) rfl rfl rfl hl.1 rfl (Nat.le_of_ble_eq_true rfl) dX4_isProof_83 ⟨Nat.le_of_ble_eq_true rfl, Nat.le_of_ble_eq_true rfl⟩) hL (fun r_61 u_59 H locs k_60 hW hL => ?_)
          obtain ⟨iu_59, fu_59, xu_59⟩ := k_60
          have F_62 := F_54.trans fu_59
          have yu_59 : Hd ((r_61 = 1 → gPn kp vp vs (2) ∧ u_59.1 189 3 = 2 + vs + 2 ∧ 2 + vs + 2 < T) ∧ (r_61 = 0 → ¬ gPn kp vp vs (2))) := by have h1 := (show _ → _ from xu_59.2.2.1); have h2 := (show _ → _ from xu_59.2.2.2); rw [show u_51.1 189 3 = 2 by omega] at h1 h2; exact ⟨h1, h2⟩
          have ycu_59 : r_61 = 1 → u_59.1 189 3 = 2 + vs + 2 ∧ 2 + vs + 2 < T := fun q => (yu_59.1 q).2
          have pr_63 := PR.trans pr_55 xu_59.2.1
          refine r_if_ne (tgt := 91) hx hb ⟨(by omega), (by omega)⟩ dX4_isProof_86 (by decide) (fun c_64 => ?_) (fun c_64 => ?_)
          · refine lv_iload_n hx hb dX4_isProof_91 rfl (lv_at hl 0 rfl) ?_
            refine lv_bipush (v := iv 9) hx hb dX4_isProof_92 (by decide) ?_
            refine r_icmp_ne (tgt := 127) hx hb ⟨(by omega), (by omega)⟩ ⟨(by omega), (by omega)⟩ dX4_isProof_94 (by decide) (fun c_65 => ?_) (fun c_65 => ?_)
            · refine lv_aload_n hx hb dX4_isProof_127 rfl (lv_at hl 1 rfl) ?_
              have q_66 : 0 ≤ u_59.1 189 3 ∧ u_59.1 189 3 ≤ 1000000000 := iu_59.fi 189 3 4 (by decide) rfl
              refine sBi (sV (As := []) (rest := []) (k := 189) Cx (b_X4_passTree l G u_59 (T := T) (kp := kp) (vp := vp) iu_59 (rt_pr pr_63 hrt) pr_63.2.2 (PT.pr hPT pr_63 ((F_62 1 rfl).1 1)) hKS (by omega)) (c_X4_132 Cx rfl rfl (rmk_ok (by omega) (by decide))) hW (by decide) rfl rfl rfl hl.1 rfl (Nat.le_of_ble_eq_true rfl) dX4_isProof_128 ⟨Nat.le_of_ble_eq_true rfl, Nat.le_of_ble_eq_true rfl⟩) hL (fun r_69 u_67 H locs k_68 hW hL => ?_)
              obtain ⟨iu_67, fu_67, xu_67⟩ := k_68
              have F_70 := F_62.trans fu_67
              have yu_67 : Hd ((r_69 = 1 → gTr kp vp 30001 (1) 1 = some (u_67.1 189 3) ∧ u_67.1 189 3 < T) ∧ (r_69 = 0 → gTr kp vp 30001 (1) 1 = none)) := by have h1 := (show _ → _ from xu_67.2.2.1); have h2 := (show _ → _ from xu_67.2.2.2); rw [show u_59.1 189 3 = 1 by omega] at h1 h2; exact ⟨h1, h2⟩
              have ycu_67 : r_69 = 1 → u_67.1 189 3 < T := fun q => (yu_67.1 q).2
              have pr_71 := PR.trans pr_63 xu_67.2.1
              refine r_if_eq (tgt := 145) hx hb ⟨(by omega), (by omega)⟩ dX4_isProof_131 (by decide) (fun c_72 => ?_) (fun c_72 => ?_)
              · refine lv_iconst (v := iv 0) hx hb dX4_isProof_145 (by decide) ?_
                have q_73 : 0 ≤ u_67.1 189 3 ∧ u_67.1 189 3 ≤ 1000000000 := iu_67.fi 189 3 4 (by decide) rfl
                exact sZret Cx hr hlk hW hL (by omega) ⟨iu_67, F_70, ⟨(by omega), pr_71, fun q => absurd q (by omega), (show _ ↔ _ from ⟨fun q => absurd q (by omega), fun q => by rcases q with ⟨q0, q1, qq, q3, q4, q5, e, q6, q7⟩ | ⟨q0, e, q6, q7⟩ | ⟨q0, q1, q2, q3, q4, q5⟩ <;> first | (exfalso; omega) | (exfalso; exact yu_59.2 (by omega) q5) | (exfalso; exact yu_59.2 (by omega) q2) | (exact absurd ((yu_67.2 (by omega)).symm.trans q6) (by intro z; cases z)) | (have z := Option.some.inj (((yu_67.1 (by omega)).1).symm.trans q6); rw [← z] at q7; exfalso; omega)⟩)⟩⟩ dX4_isProof_146
              · refine lv_aload_n hx hb dX4_isProof_134 rfl (lv_at hl 1 rfl) ?_
                have q_74 : 0 ≤ u_67.1 189 3 ∧ u_67.1 189 3 ≤ 1000000000 := iu_67.fi 189 3 4 (by decide) rfl
                have q_75 : 0 ≤ u_67.1 189 2 ∧ u_67.1 189 2 ≤ 30001 := iu_67.fi 189 2 4 (by decide) rfl
                refine sBi (sV (As := []) (rest := []) (k := 189) Cx (s_X4_kind l G u_67  iu_67) (c_X4_119 Cx rfl rfl (rmk_ok (by omega) (by decide))) hW (by decide) rfl rfl rfl hl.1 rfl (Nat.le_of_ble_eq_true rfl) dX4_isProof_135 ⟨Nat.le_of_ble_eq_true rfl, Nat.le_of_ble_eq_true rfl⟩) hL (fun r_78 u_76 H locs k_77 hW hL => ?_)
                obtain ⟨eu_76, xu_76⟩ := k_77
                rw [eu_76] at hW
                have kk_79 : r_78 = kp (u_67.1 189 3) := PT.k (PT.pr hPT pr_71 ((F_70 1 rfl).1 1)) (by have q : 0 ≤ u_67.1 189 3 ∧ u_67.1 189 3 ≤ 1000000000 := iu_67.fi 189 3 4 (by decide) rfl; exact q.1) (by omega) xu_76.2.1 xu_76.2.2
                refine r_if_ne (tgt := 145) hx hb ⟨(by omega), (by omega)⟩ dX4_isProof_138 (by decide) (fun c_80 => ?_) (fun c_80 => ?_)
                · refine lv_iconst (v := iv 0) hx hb dX4_isProof_145 (by decide) ?_
                  exact sZret Cx hr hlk hW hL (by omega) ⟨iu_67, F_70, ⟨(by omega), pr_71, fun q => absurd q (by omega), (show _ ↔ _ from ⟨fun q => absurd q (by omega), fun q => by rcases q with ⟨q0, q1, qq, q3, q4, q5, e, q6, q7⟩ | ⟨q0, e, q6, q7⟩ | ⟨q0, q1, q2, q3, q4, q5⟩ <;> first | (exfalso; omega) | (exfalso; exact yu_59.2 (by omega) q5) | (exfalso; exact yu_59.2 (by omega) q2) | (exact absurd ((yu_67.2 (by omega)).symm.trans q6) (by intro z; cases z)) | (have z := Option.some.inj (((yu_67.1 (by omega)).1).symm.trans q6); rw [← z] at q7; exfalso; omega)⟩)⟩⟩ dX4_isProof_146
                · refine lv_iconst (v := iv 1) hx hb dX4_isProof_141 (by decide) ?_
                  refine lv_goto (tgt := 146) hx hb dX4_isProof_142 (by decide) ?_
                  exact sZret Cx hr hlk hW hL (by omega) ⟨iu_67, F_70, ⟨(by omega), pr_71, fun _ => DA_of hRO pr_71 ((F_70 1 rfl).1 1) (iu_67.fi 189 3 4 (by decide) rfl).1 (xu_76.2.2 (by omega)), (show _ ↔ _ from ⟨fun _ => by first | (exfalso; omega) | exact .inr (.inl ⟨by omega, ⟨u_67.1 189 3, (yu_67.1 (by omega)).1, by omega⟩⟩), fun _ => rfl⟩)⟩⟩ dX4_isProof_146
            · refine lv_aload_n hx hb dX4_isProof_97 rfl (lv_at hl 1 rfl) ?_
              refine lv_bipush (v := iv 11) hx hb dX4_isProof_98 (by decide) ?_
              have q_81 : 0 ≤ u_59.1 189 3 ∧ u_59.1 189 3 ≤ 1000000000 := iu_59.fi 189 3 4 (by decide) rfl
              refine sBi (sV (As := [.int (iv 11)]) (rest := []) (k := 189) Cx (b_X4_pass l G u_59 (kd := 11) (T := T) (kp := kp) (vp := vp) iu_59 (by omega) (rt_pr pr_63 hrt) pr_63.2.2 (PT.pr hPT pr_63 ((F_62 1 rfl).1 1)) hKS (by omega)) (c_X4_122 Cx rfl rfl (rmk_ok (by omega) (by decide))) hW (by decide) rfl rfl rfl hl.1 rfl (Nat.le_of_ble_eq_true rfl) dX4_isProof_100 ⟨Nat.le_of_ble_eq_true rfl, Nat.le_of_ble_eq_true rfl⟩) hL (fun r_84 u_82 H locs k_83 hW hL => ?_)
              obtain ⟨iu_82, fu_82, xu_82⟩ := k_83
              have F_85 := F_62.trans fu_82
              have yu_82 : (r_84 = 1 → kp (vs + 4) = 11 ∧ u_82.1 189 3 = vs + 4 + 1 ∧ vs + 4 + 1 < T) ∧ (r_84 = 0 → ¬ (kp (vs + 4) = 11) ∧ u_82.1 189 3 = vs + 4) := by have h1 := (show _ → _ from xu_82.2.2.1); have h2 := (show _ → _ from xu_82.2.2.2); rw [show u_59.1 189 3 = vs + 4 by omega] at h1 h2; exact ⟨h1, h2⟩
              have yau_82 := yu_82.1; have ybu_82 := yu_82.2; clear yu_82
              have pr_86 := PR.trans pr_63 xu_82.2.1
              refine r_if_eq (tgt := 125) hx hb ⟨(by omega), (by omega)⟩ dX4_isProof_103 (by decide) (fun c_87 => ?_) (fun c_87 => ?_)
              · refine lv_iconst (v := iv 0) hx hb dX4_isProof_125 (by decide) ?_
                have q_88 : 0 ≤ u_82.1 189 3 ∧ u_82.1 189 3 ≤ 1000000000 := iu_82.fi 189 3 4 (by decide) rfl
                exact sZret Cx hr hlk hW hL (by omega) ⟨iu_82, F_85, ⟨(by omega), pr_86, fun q => absurd q (by omega), (show _ ↔ _ from ⟨fun q => absurd q (by omega), fun q => by rcases q with ⟨q0, q1, qq, q3, q4, q5, e, q6, q7⟩ | ⟨q0, e, q6, q7⟩ | ⟨q0, q1, q2, q3, q4, q5⟩ <;> first | (exfalso; omega) | (exfalso; exact yu_59.2 (by omega) q5) | (exfalso; exact yu_59.2 (by omega) q2)⟩)⟩⟩ dX4_isProof_126
              · refine lv_aload_n hx hb dX4_isProof_106 rfl (lv_at hl 1 rfl) ?_
                refine lv_iload_n hx hb dX4_isProof_107 rfl (lv_at hl 2 rfl) ?_
                have q_89 : 0 ≤ u_82.1 189 3 ∧ u_82.1 189 3 ≤ 1000000000 := iu_82.fi 189 3 4 (by decide) rfl
                refine sBi (sV (As := [.int (iv vs)]) (rest := []) (k := 189) Cx (b_X4_passPoint l G u_82 (vs := vs) (T := T) (kp := kp) (vp := vp) iu_82 (by omega) (rt_pr pr_86 hrt) pr_86.2.2 (PT.pr hPT pr_86 ((F_85 1 rfl).1 1)) hKS (by omega)) (c_X4_129 Cx rfl rfl (rmk_ok (by omega) (by decide))) hW (by decide) rfl rfl rfl hl.1 rfl (Nat.le_of_ble_eq_true rfl) dX4_isProof_108 ⟨Nat.le_of_ble_eq_true rfl, Nat.le_of_ble_eq_true rfl⟩) hL (fun r_92 u_90 H locs k_91 hW hL => ?_)
                obtain ⟨iu_90, fu_90, xu_90⟩ := k_91
                have F_93 := F_85.trans fu_90
                have yu_90 : Hd ((r_92 = 1 → gPn kp vp vs (vs + 5) ∧ u_90.1 189 3 = vs + 5 + vs + 2 ∧ vs + 5 + vs + 2 < T) ∧ (r_92 = 0 → ¬ gPn kp vp vs (vs + 5))) := by have h1 := (show _ → _ from xu_90.2.2.1); have h2 := (show _ → _ from xu_90.2.2.2); rw [show u_82.1 189 3 = vs + 5 by omega] at h1 h2; exact ⟨h1, h2⟩
                have ycu_90 : r_92 = 1 → u_90.1 189 3 = vs + 5 + vs + 2 ∧ vs + 5 + vs + 2 < T := fun q => (yu_90.1 q).2
                have pr_94 := PR.trans pr_86 xu_90.2.1
                refine r_if_eq (tgt := 125) hx hb ⟨(by omega), (by omega)⟩ dX4_isProof_111 (by decide) (fun c_95 => ?_) (fun c_95 => ?_)
                · refine lv_iconst (v := iv 0) hx hb dX4_isProof_125 (by decide) ?_
                  have q_96 : 0 ≤ u_90.1 189 3 ∧ u_90.1 189 3 ≤ 1000000000 := iu_90.fi 189 3 4 (by decide) rfl
                  exact sZret Cx hr hlk hW hL (by omega) ⟨iu_90, F_93, ⟨(by omega), pr_94, fun q => absurd q (by omega), (show _ ↔ _ from ⟨fun q => absurd q (by omega), fun q => by rcases q with ⟨q0, q1, qq, q3, q4, q5, e, q6, q7⟩ | ⟨q0, e, q6, q7⟩ | ⟨q0, q1, q2, q3, q4, q5⟩ <;> first | (exfalso; omega) | (exfalso; exact yu_59.2 (by omega) q5) | (exfalso; exact yu_59.2 (by omega) q2) | (exfalso; exact yu_90.2 (by omega) q4)⟩)⟩⟩ dX4_isProof_126
                · refine lv_aload_n hx hb dX4_isProof_114 rfl (lv_at hl 1 rfl) ?_
                  have q_97 : 0 ≤ u_90.1 189 3 ∧ u_90.1 189 3 ≤ 1000000000 := iu_90.fi 189 3 4 (by decide) rfl
                  have q_98 : 0 ≤ u_90.1 189 2 ∧ u_90.1 189 2 ≤ 30001 := iu_90.fi 189 2 4 (by decide) rfl
                  refine sBi (sV (As := []) (rest := []) (k := 189) Cx (s_X4_kind l G u_90  iu_90) (c_X4_119 Cx rfl rfl (rmk_ok (by omega) (by decide))) hW (by decide) rfl rfl rfl hl.1 rfl (Nat.le_of_ble_eq_true rfl) dX4_isProof_115 ⟨Nat.le_of_ble_eq_true rfl, Nat.le_of_ble_eq_true rfl⟩) hL (fun r_101 u_99 H locs k_100 hW hL => ?_)
                  obtain ⟨eu_99, xu_99⟩ := k_100
                  rw [eu_99] at hW
                  have kk_102 : r_101 = kp (u_90.1 189 3) := PT.k (PT.pr hPT pr_94 ((F_93 1 rfl).1 1)) (by have q : 0 ≤ u_90.1 189 3 ∧ u_90.1 189 3 ≤ 1000000000 := iu_90.fi 189 3 4 (by decide) rfl; exact q.1) (by omega) xu_99.2.1 xu_99.2.2
                  have hke : r_101 = kp (vs + 5 + vs + 2) := by rw [show vs + 5 + vs + 2 = u_90.1 189 3 by omega]; exact kk_102
                  refine r_if_ne (tgt := 125) hx hb ⟨(by omega), (by omega)⟩ dX4_isProof_118 (by decide) (fun c_103 => ?_) (fun c_103 => ?_)
                  · refine lv_iconst (v := iv 0) hx hb dX4_isProof_125 (by decide) ?_
                    exact sZret Cx hr hlk hW hL (by omega) ⟨iu_90, F_93, ⟨(by omega), pr_94, fun q => absurd q (by omega), (show _ ↔ _ from ⟨fun q => absurd q (by omega), fun q => by rcases q with ⟨q0, q1, qq, q3, q4, q5, e, q6, q7⟩ | ⟨q0, e, q6, q7⟩ | ⟨q0, q1, q2, q3, q4, q5⟩ <;> first | (exfalso; omega) | (exfalso; exact yu_59.2 (by omega) q5) | (exfalso; exact yu_59.2 (by omega) q2) | (exfalso; exact yu_90.2 (by omega) q4)⟩)⟩⟩ dX4_isProof_126
                  · refine lv_iconst (v := iv 1) hx hb dX4_isProof_121 (by decide) ?_
                    refine lv_goto (tgt := 126) hx hb dX4_isProof_122 (by decide) ?_
                    exact sZret Cx hr hlk hW hL (by omega) ⟨iu_90, F_93, ⟨(by omega), pr_94, fun _ => DA_of hRO pr_94 ((F_93 1 rfl).1 1) (iu_90.fi 189 3 4 (by decide) rfl).1 (xu_99.2.2 (by omega)), (show _ ↔ _ from ⟨fun _ => by first | (exfalso; omega) | exact .inr (.inr ⟨by omega, by omega, (yu_59.1 (by omega)).1, by have := yau_82; omega, (yu_90.1 (by omega)).1, by omega⟩), fun _ => rfl⟩)⟩⟩ dX4_isProof_126
          · refine lv_iconst (v := iv 0) hx hb dX4_isProof_89 (by decide) ?_
            have q_104 : 0 ≤ u_59.1 189 3 ∧ u_59.1 189 3 ≤ 1000000000 := iu_59.fi 189 3 4 (by decide) rfl
            exact sZret Cx hr hlk hW hL (by omega) ⟨iu_59, F_62, ⟨(by omega), pr_63, fun q => absurd q (by omega), (show _ ↔ _ from ⟨fun q => absurd q (by omega), fun q => by rcases q with ⟨q0, q1, qq, q3, q4, q5, e, q6, q7⟩ | ⟨q0, e, q6, q7⟩ | ⟨q0, q1, q2, q3, q4, q5⟩ <;> first | (exfalso; omega) | (exfalso; exact yu_59.2 (by omega) q5) | (exfalso; exact yu_59.2 (by omega) q2)⟩)⟩⟩ dX4_isProof_90
    · refine lv_aload_n hx hb dX4_isProof_41 rfl (lv_at hl 1 rfl) ?_
      refine lv_iconst (v := iv 2) hx hb dX4_isProof_42 (by decide) ?_
      have lk_105 : (uF S 189 3 ((S.1 189 3) + 1)).1 189 3 = (S.1 189 3) + 1 := uF_on
      refine sBi (sV (As := [.int (iv 2)]) (rest := []) (k := 189) Cx (b_X4_pass l G (uF S 189 3 ((S.1 189 3) + 1)) (kd := 2) (T := T) (kp := kp) (vp := vp) i_7 (by omega) (rt_pr pr_8 hrt) pr_8.2.2 (PT.pr hPT pr_8 ((F_6 1 rfl).1 1)) hKS (by omega)) (c_X4_122 Cx rfl rfl (rmk_ok (by omega) (by decide))) hW (by decide) rfl rfl rfl hl.1 rfl (Nat.le_of_ble_eq_true rfl) dX4_isProof_43 ⟨Nat.le_of_ble_eq_true rfl, Nat.le_of_ble_eq_true rfl⟩) hL (fun r_108 u_106 H locs k_107 hW hL => ?_)
      obtain ⟨iu_106, fu_106, xu_106⟩ := k_107
      have F_109 := F_6.trans fu_106
      have yu_106 : (r_108 = 1 → kp (1) = 2 ∧ u_106.1 189 3 = 1 + 1 ∧ 1 + 1 < T) ∧ (r_108 = 0 → ¬ (kp (1) = 2) ∧ u_106.1 189 3 = 1) := by have h1 := (show _ → _ from xu_106.2.2.1); have h2 := (show _ → _ from xu_106.2.2.2); rw [show (uF S 189 3 ((S.1 189 3) + 1)).1 189 3 = 1 by omega] at h1 h2; exact ⟨h1, h2⟩
      have yau_106 := yu_106.1; have ybu_106 := yu_106.2; clear yu_106
      have pr_110 := PR.trans pr_8 xu_106.2.1
      refine r_if_eq (tgt := 64) hx hb ⟨(by omega), (by omega)⟩ dX4_isProof_46 (by decide) (fun c_111 => ?_) (fun c_111 => ?_)
      · refine lv_iconst (v := iv 0) hx hb dX4_isProof_64 (by decide) ?_
        have q_112 : 0 ≤ u_106.1 189 3 ∧ u_106.1 189 3 ≤ 1000000000 := iu_106.fi 189 3 4 (by decide) rfl
        exact sZret Cx hr hlk hW hL (by omega) ⟨iu_106, F_109, ⟨(by omega), pr_110, fun q => absurd q (by omega), (show _ ↔ _ from ⟨fun q => absurd q (by omega), fun q => by rcases q with ⟨q0, q1, qq, q3, q4, q5, e, q6, q7⟩ | ⟨q0, e, q6, q7⟩ | ⟨q0, q1, q2, q3, q4, q5⟩ <;> first | (exfalso; omega)⟩)⟩⟩ dX4_isProof_65
      · refine lv_aload_n hx hb dX4_isProof_49 rfl (lv_at hl 1 rfl) ?_
        refine lv_iconst (v := iv 3) hx hb dX4_isProof_50 (by decide) ?_
        have q_113 : 0 ≤ u_106.1 189 3 ∧ u_106.1 189 3 ≤ 1000000000 := iu_106.fi 189 3 4 (by decide) rfl
        refine sBi (sV (As := [.int (iv 3)]) (rest := []) (k := 189) Cx (b_X4_pass l G u_106 (kd := 3) (T := T) (kp := kp) (vp := vp) iu_106 (by omega) (rt_pr pr_110 hrt) pr_110.2.2 (PT.pr hPT pr_110 ((F_109 1 rfl).1 1)) hKS (by omega)) (c_X4_122 Cx rfl rfl (rmk_ok (by omega) (by decide))) hW (by decide) rfl rfl rfl hl.1 rfl (Nat.le_of_ble_eq_true rfl) dX4_isProof_51 ⟨Nat.le_of_ble_eq_true rfl, Nat.le_of_ble_eq_true rfl⟩) hL (fun r_116 u_114 H locs k_115 hW hL => ?_)
        obtain ⟨iu_114, fu_114, xu_114⟩ := k_115
        have F_117 := F_109.trans fu_114
        have yu_114 : (r_116 = 1 → kp (2) = 3 ∧ u_114.1 189 3 = 2 + 1 ∧ 2 + 1 < T) ∧ (r_116 = 0 → ¬ (kp (2) = 3) ∧ u_114.1 189 3 = 2) := by have h1 := (show _ → _ from xu_114.2.2.1); have h2 := (show _ → _ from xu_114.2.2.2); rw [show u_106.1 189 3 = 2 by omega] at h1 h2; exact ⟨h1, h2⟩
        have yau_114 := yu_114.1; have ybu_114 := yu_114.2; clear yu_114
        have pr_118 := PR.trans pr_110 xu_114.2.1
        refine r_if_eq (tgt := 64) hx hb ⟨(by omega), (by omega)⟩ dX4_isProof_54 (by decide) (fun c_119 => ?_) (fun c_119 => ?_)
        · refine lv_iconst (v := iv 0) hx hb dX4_isProof_64 (by decide) ?_
          have q_120 : 0 ≤ u_114.1 189 3 ∧ u_114.1 189 3 ≤ 1000000000 := iu_114.fi 189 3 4 (by decide) rfl
          exact sZret Cx hr hlk hW hL (by omega) ⟨iu_114, F_117, ⟨(by omega), pr_118, fun q => absurd q (by omega), (show _ ↔ _ from ⟨fun q => absurd q (by omega), fun q => by rcases q with ⟨q0, q1, qq, q3, q4, q5, e, q6, q7⟩ | ⟨q0, e, q6, q7⟩ | ⟨q0, q1, q2, q3, q4, q5⟩ <;> first | (exfalso; omega)⟩)⟩⟩ dX4_isProof_65
        · refine lv_aload_n hx hb dX4_isProof_57 rfl (lv_at hl 1 rfl) ?_
          have q_121 : 0 ≤ u_114.1 189 3 ∧ u_114.1 189 3 ≤ 1000000000 := iu_114.fi 189 3 4 (by decide) rfl
          refine sBi (sV (As := []) (rest := []) (k := 189) Cx (b_X4_passAbove l G u_114 (T := T) (kp := kp) (vp := vp) iu_114 (rt_pr pr_118 hrt) pr_118.2.2 (PT.pr hPT pr_118 ((F_117 1 rfl).1 1)) hKS (by omega)) (c_X4_125 Cx rfl rfl (rmk_ok (by omega) (by decide))) hW (by decide) rfl rfl rfl hl.1 rfl (Nat.le_of_ble_eq_true rfl) dX4_isProof_58 ⟨Nat.le_of_ble_eq_true rfl, Nat.le_of_ble_eq_true rfl⟩) hL (fun r_124 u_122 H locs k_123 hW hL => ?_)
          obtain ⟨iu_122, fu_122, xu_122⟩ := k_123
          have F_125 := F_117.trans fu_122
          have yu_122 : Hd ((r_124 = 1 → gAb kp vp (3) ∧ u_122.1 189 3 = 3 + 1 ∧ 3 + 1 < T) ∧ (r_124 = 0 → ¬ gAb kp vp (3) ∧ u_122.1 189 3 = 3)) := by have h1 := (show _ → _ from xu_122.2.2.1); have h2 := (show _ → _ from xu_122.2.2.2); rw [show u_114.1 189 3 = 3 by omega] at h1 h2; exact ⟨h1, h2⟩
          have ycu_122 : r_124 = 1 → u_122.1 189 3 = 3 + 1 ∧ 3 + 1 < T := fun q => (yu_122.1 q).2
          have pr_126 := PR.trans pr_118 xu_122.2.1
          refine r_if_ne (tgt := 66) hx hb ⟨(by omega), (by omega)⟩ dX4_isProof_61 (by decide) (fun c_127 => ?_) (fun c_127 => ?_)
          · refine lv_iload_n hx hb dX4_isProof_66 rfl (lv_at hl 0 rfl) ?_
            refine lv_bipush (v := iv 8) hx hb dX4_isProof_67 (by decide) ?_
            refine r_icmp_eq (tgt := 91) hx hb ⟨(by omega), (by omega)⟩ ⟨(by omega), (by omega)⟩ dX4_isProof_69 (by decide) (fun c_128 => ?_) (fun c_128 => ?_)
            · refine lv_iload_n hx hb dX4_isProof_91 rfl (lv_at hl 0 rfl) ?_
              refine lv_bipush (v := iv 9) hx hb dX4_isProof_92 (by decide) ?_
              refine r_icmp_ne (tgt := 127) hx hb ⟨(by omega), (by omega)⟩ ⟨(by omega), (by omega)⟩ dX4_isProof_94 (by decide) (fun c_129 => ?_) (fun c_129 => ?_)
              · refine lv_aload_n hx hb dX4_isProof_127 rfl (lv_at hl 1 rfl) ?_
                have q_130 : 0 ≤ u_122.1 189 3 ∧ u_122.1 189 3 ≤ 1000000000 := iu_122.fi 189 3 4 (by decide) rfl
                refine sBi (sV (As := []) (rest := []) (k := 189) Cx (b_X4_passTree l G u_122 (T := T) (kp := kp) (vp := vp) iu_122 (rt_pr pr_126 hrt) pr_126.2.2 (PT.pr hPT pr_126 ((F_125 1 rfl).1 1)) hKS (by omega)) (c_X4_132 Cx rfl rfl (rmk_ok (by omega) (by decide))) hW (by decide) rfl rfl rfl hl.1 rfl (Nat.le_of_ble_eq_true rfl) dX4_isProof_128 ⟨Nat.le_of_ble_eq_true rfl, Nat.le_of_ble_eq_true rfl⟩) hL (fun r_133 u_131 H locs k_132 hW hL => ?_)
                obtain ⟨iu_131, fu_131, xu_131⟩ := k_132
                have F_134 := F_125.trans fu_131
                have yu_131 : Hd ((r_133 = 1 → gTr kp vp 30001 (vs + 7) 1 = some (u_131.1 189 3) ∧ u_131.1 189 3 < T) ∧ (r_133 = 0 → gTr kp vp 30001 (vs + 7) 1 = none)) := by have h1 := (show _ → _ from xu_131.2.2.1); have h2 := (show _ → _ from xu_131.2.2.2); rw [show u_122.1 189 3 = vs + 7 by omega] at h1 h2; exact ⟨h1, h2⟩
                have ycu_131 : r_133 = 1 → u_131.1 189 3 < T := fun q => (yu_131.1 q).2
                have pr_135 := PR.trans pr_126 xu_131.2.1
                refine r_if_eq (tgt := 145) hx hb ⟨(by omega), (by omega)⟩ dX4_isProof_131 (by decide) (fun c_136 => ?_) (fun c_136 => ?_)
                · refine lv_iconst (v := iv 0) hx hb dX4_isProof_145 (by decide) ?_
                  have q_137 : 0 ≤ u_131.1 189 3 ∧ u_131.1 189 3 ≤ 1000000000 := iu_131.fi 189 3 4 (by decide) rfl
                  exact sZret Cx hr hlk hW hL (by omega) ⟨iu_131, F_134, ⟨(by omega), pr_135, fun q => absurd q (by omega), (show _ ↔ _ from ⟨fun q => absurd q (by omega), fun q => by rcases q with ⟨q0, q1, qq, q3, q4, q5, e, q6, q7⟩ | ⟨q0, e, q6, q7⟩ | ⟨q0, q1, q2, q3, q4, q5⟩ <;> first | (exfalso; omega) | (exfalso; exact (yu_122.2 (by omega)).1 q3) | (exact absurd ((yu_131.2 (by omega)).symm.trans q6) (by intro z; cases z)) | (have z := Option.some.inj (((yu_131.1 (by omega)).1).symm.trans q6); rw [← z] at q7; exfalso; omega)⟩)⟩⟩ dX4_isProof_146
                · refine lv_aload_n hx hb dX4_isProof_134 rfl (lv_at hl 1 rfl) ?_
                  have q_138 : 0 ≤ u_131.1 189 3 ∧ u_131.1 189 3 ≤ 1000000000 := iu_131.fi 189 3 4 (by decide) rfl
                  have q_139 : 0 ≤ u_131.1 189 2 ∧ u_131.1 189 2 ≤ 30001 := iu_131.fi 189 2 4 (by decide) rfl
                  refine sBi (sV (As := []) (rest := []) (k := 189) Cx (s_X4_kind l G u_131  iu_131) (c_X4_119 Cx rfl rfl (rmk_ok (by omega) (by decide))) hW (by decide) rfl rfl rfl hl.1 rfl (Nat.le_of_ble_eq_true rfl) dX4_isProof_135 ⟨Nat.le_of_ble_eq_true rfl, Nat.le_of_ble_eq_true rfl⟩) hL (fun r_142 u_140 H locs k_141 hW hL => ?_)
                  obtain ⟨eu_140, xu_140⟩ := k_141
                  rw [eu_140] at hW
                  have kk_143 : r_142 = kp (u_131.1 189 3) := PT.k (PT.pr hPT pr_135 ((F_134 1 rfl).1 1)) (by have q : 0 ≤ u_131.1 189 3 ∧ u_131.1 189 3 ≤ 1000000000 := iu_131.fi 189 3 4 (by decide) rfl; exact q.1) (by omega) xu_140.2.1 xu_140.2.2
                  refine r_if_ne (tgt := 145) hx hb ⟨(by omega), (by omega)⟩ dX4_isProof_138 (by decide) (fun c_144 => ?_) (fun c_144 => ?_)
                  · refine lv_iconst (v := iv 0) hx hb dX4_isProof_145 (by decide) ?_
                    exact sZret Cx hr hlk hW hL (by omega) ⟨iu_131, F_134, ⟨(by omega), pr_135, fun q => absurd q (by omega), (show _ ↔ _ from ⟨fun q => absurd q (by omega), fun q => by rcases q with ⟨q0, q1, qq, q3, q4, q5, e, q6, q7⟩ | ⟨q0, e, q6, q7⟩ | ⟨q0, q1, q2, q3, q4, q5⟩ <;> first | (exfalso; omega) | (exfalso; exact (yu_122.2 (by omega)).1 q3) | (exact absurd ((yu_131.2 (by omega)).symm.trans q6) (by intro z; cases z)) | (have z := Option.some.inj (((yu_131.1 (by omega)).1).symm.trans q6); rw [← z] at q7; exfalso; omega)⟩)⟩⟩ dX4_isProof_146
                  · refine lv_iconst (v := iv 1) hx hb dX4_isProof_141 (by decide) ?_
                    refine lv_goto (tgt := 146) hx hb dX4_isProof_142 (by decide) ?_
                    exact sZret Cx hr hlk hW hL (by omega) ⟨iu_131, F_134, ⟨(by omega), pr_135, fun _ => DA_of hRO pr_135 ((F_134 1 rfl).1 1) (iu_131.fi 189 3 4 (by decide) rfl).1 (xu_140.2.2 (by omega)), (show _ ↔ _ from ⟨fun _ => by first | (exfalso; omega) | exact .inl ⟨by omega, by omega, by omega, (yu_122.1 (by omega)).1, by omega, (yzz.1 (by omega)).1, ⟨u_131.1 189 3, (yu_131.1 (by omega)).1, by omega⟩⟩, fun _ => rfl⟩)⟩⟩ dX4_isProof_146
              · refine lv_aload_n hx hb dX4_isProof_97 rfl (lv_at hl 1 rfl) ?_
                refine lv_bipush (v := iv 11) hx hb dX4_isProof_98 (by decide) ?_
                have q_145 : 0 ≤ u_122.1 189 3 ∧ u_122.1 189 3 ≤ 1000000000 := iu_122.fi 189 3 4 (by decide) rfl
                refine sBi (sV (As := [.int (iv 11)]) (rest := []) (k := 189) Cx (b_X4_pass l G u_122 (kd := 11) (T := T) (kp := kp) (vp := vp) iu_122 (by omega) (rt_pr pr_126 hrt) pr_126.2.2 (PT.pr hPT pr_126 ((F_125 1 rfl).1 1)) hKS (by omega)) (c_X4_122 Cx rfl rfl (rmk_ok (by omega) (by decide))) hW (by decide) rfl rfl rfl hl.1 rfl (Nat.le_of_ble_eq_true rfl) dX4_isProof_100 ⟨Nat.le_of_ble_eq_true rfl, Nat.le_of_ble_eq_true rfl⟩) hL (fun r_148 u_146 H locs k_147 hW hL => ?_)
                obtain ⟨iu_146, fu_146, xu_146⟩ := k_147
                have F_149 := F_125.trans fu_146
                have yu_146 : (r_148 = 1 → kp (vs + 4) = 11 ∧ u_146.1 189 3 = vs + 4 + 1 ∧ vs + 4 + 1 < T) ∧ (r_148 = 0 → ¬ (kp (vs + 4) = 11) ∧ u_146.1 189 3 = vs + 4) := by have h1 := (show _ → _ from xu_146.2.2.1); have h2 := (show _ → _ from xu_146.2.2.2); rw [show u_122.1 189 3 = vs + 4 by omega] at h1 h2; exact ⟨h1, h2⟩
                have yau_146 := yu_146.1; have ybu_146 := yu_146.2; clear yu_146
                have pr_150 := PR.trans pr_126 xu_146.2.1
                refine r_if_eq (tgt := 125) hx hb ⟨(by omega), (by omega)⟩ dX4_isProof_103 (by decide) (fun c_151 => ?_) (fun c_151 => ?_)
                · refine lv_iconst (v := iv 0) hx hb dX4_isProof_125 (by decide) ?_
                  have q_152 : 0 ≤ u_146.1 189 3 ∧ u_146.1 189 3 ≤ 1000000000 := iu_146.fi 189 3 4 (by decide) rfl
                  exact sZret Cx hr hlk hW hL (by omega) ⟨iu_146, F_149, ⟨(by omega), pr_150, fun q => absurd q (by omega), (show _ ↔ _ from ⟨fun q => absurd q (by omega), fun q => by rcases q with ⟨q0, q1, qq, q3, q4, q5, e, q6, q7⟩ | ⟨q0, e, q6, q7⟩ | ⟨q0, q1, q2, q3, q4, q5⟩ <;> first | (exfalso; omega) | (exfalso; exact (yu_122.2 (by omega)).1 q3)⟩)⟩⟩ dX4_isProof_126
                · refine lv_aload_n hx hb dX4_isProof_106 rfl (lv_at hl 1 rfl) ?_
                  refine lv_iload_n hx hb dX4_isProof_107 rfl (lv_at hl 2 rfl) ?_
                  have q_153 : 0 ≤ u_146.1 189 3 ∧ u_146.1 189 3 ≤ 1000000000 := iu_146.fi 189 3 4 (by decide) rfl
                  refine sBi (sV (As := [.int (iv vs)]) (rest := []) (k := 189) Cx (b_X4_passPoint l G u_146 (vs := vs) (T := T) (kp := kp) (vp := vp) iu_146 (by omega) (rt_pr pr_150 hrt) pr_150.2.2 (PT.pr hPT pr_150 ((F_149 1 rfl).1 1)) hKS (by omega)) (c_X4_129 Cx rfl rfl (rmk_ok (by omega) (by decide))) hW (by decide) rfl rfl rfl hl.1 rfl (Nat.le_of_ble_eq_true rfl) dX4_isProof_108 ⟨Nat.le_of_ble_eq_true rfl, Nat.le_of_ble_eq_true rfl⟩) hL (fun r_156 u_154 H locs k_155 hW hL => ?_)
                  obtain ⟨iu_154, fu_154, xu_154⟩ := k_155
                  have F_157 := F_149.trans fu_154
                  have yu_154 : Hd ((r_156 = 1 → gPn kp vp vs (vs + 5) ∧ u_154.1 189 3 = vs + 5 + vs + 2 ∧ vs + 5 + vs + 2 < T) ∧ (r_156 = 0 → ¬ gPn kp vp vs (vs + 5))) := by have h1 := (show _ → _ from xu_154.2.2.1); have h2 := (show _ → _ from xu_154.2.2.2); rw [show u_146.1 189 3 = vs + 5 by omega] at h1 h2; exact ⟨h1, h2⟩
                  have ycu_154 : r_156 = 1 → u_154.1 189 3 = vs + 5 + vs + 2 ∧ vs + 5 + vs + 2 < T := fun q => (yu_154.1 q).2
                  have pr_158 := PR.trans pr_150 xu_154.2.1
                  refine r_if_eq (tgt := 125) hx hb ⟨(by omega), (by omega)⟩ dX4_isProof_111 (by decide) (fun c_159 => ?_) (fun c_159 => ?_)
                  · refine lv_iconst (v := iv 0) hx hb dX4_isProof_125 (by decide) ?_
                    have q_160 : 0 ≤ u_154.1 189 3 ∧ u_154.1 189 3 ≤ 1000000000 := iu_154.fi 189 3 4 (by decide) rfl
                    exact sZret Cx hr hlk hW hL (by omega) ⟨iu_154, F_157, ⟨(by omega), pr_158, fun q => absurd q (by omega), (show _ ↔ _ from ⟨fun q => absurd q (by omega), fun q => by rcases q with ⟨q0, q1, qq, q3, q4, q5, e, q6, q7⟩ | ⟨q0, e, q6, q7⟩ | ⟨q0, q1, q2, q3, q4, q5⟩ <;> first | (exfalso; omega) | (exfalso; exact (yu_122.2 (by omega)).1 q3) | (exfalso; exact yu_154.2 (by omega) q4)⟩)⟩⟩ dX4_isProof_126
                  · refine lv_aload_n hx hb dX4_isProof_114 rfl (lv_at hl 1 rfl) ?_
                    have q_161 : 0 ≤ u_154.1 189 3 ∧ u_154.1 189 3 ≤ 1000000000 := iu_154.fi 189 3 4 (by decide) rfl
                    have q_162 : 0 ≤ u_154.1 189 2 ∧ u_154.1 189 2 ≤ 30001 := iu_154.fi 189 2 4 (by decide) rfl
                    refine sBi (sV (As := []) (rest := []) (k := 189) Cx (s_X4_kind l G u_154  iu_154) (c_X4_119 Cx rfl rfl (rmk_ok (by omega) (by decide))) hW (by decide) rfl rfl rfl hl.1 rfl (Nat.le_of_ble_eq_true rfl) dX4_isProof_115 ⟨Nat.le_of_ble_eq_true rfl, Nat.le_of_ble_eq_true rfl⟩) hL (fun r_165 u_163 H locs k_164 hW hL => ?_)
                    obtain ⟨eu_163, xu_163⟩ := k_164
                    rw [eu_163] at hW
                    have kk_166 : r_165 = kp (u_154.1 189 3) := PT.k (PT.pr hPT pr_158 ((F_157 1 rfl).1 1)) (by have q : 0 ≤ u_154.1 189 3 ∧ u_154.1 189 3 ≤ 1000000000 := iu_154.fi 189 3 4 (by decide) rfl; exact q.1) (by omega) xu_163.2.1 xu_163.2.2
                    have hke : r_165 = kp (vs + 5 + vs + 2) := by rw [show vs + 5 + vs + 2 = u_154.1 189 3 by omega]; exact kk_166
                    refine r_if_ne (tgt := 125) hx hb ⟨(by omega), (by omega)⟩ dX4_isProof_118 (by decide) (fun c_167 => ?_) (fun c_167 => ?_)
                    · refine lv_iconst (v := iv 0) hx hb dX4_isProof_125 (by decide) ?_
                      exact sZret Cx hr hlk hW hL (by omega) ⟨iu_154, F_157, ⟨(by omega), pr_158, fun q => absurd q (by omega), (show _ ↔ _ from ⟨fun q => absurd q (by omega), fun q => by rcases q with ⟨q0, q1, qq, q3, q4, q5, e, q6, q7⟩ | ⟨q0, e, q6, q7⟩ | ⟨q0, q1, q2, q3, q4, q5⟩ <;> first | (exfalso; omega) | (exfalso; exact (yu_122.2 (by omega)).1 q3) | (exfalso; exact yu_154.2 (by omega) q4)⟩)⟩⟩ dX4_isProof_126
                    · refine lv_iconst (v := iv 1) hx hb dX4_isProof_121 (by decide) ?_
                      refine lv_goto (tgt := 126) hx hb dX4_isProof_122 (by decide) ?_
                      exact sZret Cx hr hlk hW hL (by omega) ⟨iu_154, F_157, ⟨(by omega), pr_158, fun _ => DA_of hRO pr_158 ((F_157 1 rfl).1 1) (iu_154.fi 189 3 4 (by decide) rfl).1 (xu_163.2.2 (by omega)), (show _ ↔ _ from ⟨fun _ => by first | (exfalso; omega) | exact .inr (.inr ⟨by omega, by omega, (yzz.1 (by omega)).1, by have := yau_146; omega, (yu_154.1 (by omega)).1, by omega⟩), fun _ => rfl⟩)⟩⟩ dX4_isProof_126
            · refine lv_aload_n hx hb dX4_isProof_72 rfl (lv_at hl 1 rfl) ?_
              refine lv_bipush (v := iv 10) hx hb dX4_isProof_73 (by decide) ?_
              have q_168 : 0 ≤ u_122.1 189 3 ∧ u_122.1 189 3 ≤ 1000000000 := iu_122.fi 189 3 4 (by decide) rfl
              refine sBi (sV (As := [.int (iv 10)]) (rest := []) (k := 189) Cx (b_X4_pass l G u_122 (kd := 10) (T := T) (kp := kp) (vp := vp) iu_122 (by omega) (rt_pr pr_126 hrt) pr_126.2.2 (PT.pr hPT pr_126 ((F_125 1 rfl).1 1)) hKS (by omega)) (c_X4_122 Cx rfl rfl (rmk_ok (by omega) (by decide))) hW (by decide) rfl rfl rfl hl.1 rfl (Nat.le_of_ble_eq_true rfl) dX4_isProof_75 ⟨Nat.le_of_ble_eq_true rfl, Nat.le_of_ble_eq_true rfl⟩) hL (fun r_171 u_169 H locs k_170 hW hL => ?_)
              obtain ⟨iu_169, fu_169, xu_169⟩ := k_170
              have F_172 := F_125.trans fu_169
              have yu_169 : (r_171 = 1 → kp (4) = 10 ∧ u_169.1 189 3 = 4 + 1 ∧ 4 + 1 < T) ∧ (r_171 = 0 → ¬ (kp (4) = 10) ∧ u_169.1 189 3 = 4) := by have h1 := (show _ → _ from xu_169.2.2.1); have h2 := (show _ → _ from xu_169.2.2.2); rw [show u_122.1 189 3 = 4 by omega] at h1 h2; exact ⟨h1, h2⟩
              have yau_169 := yu_169.1; have ybu_169 := yu_169.2; clear yu_169
              have pr_173 := PR.trans pr_126 xu_169.2.1
              refine r_if_eq (tgt := 89) hx hb ⟨(by omega), (by omega)⟩ dX4_isProof_78 (by decide) (fun c_174 => ?_) (fun c_174 => ?_)
              · refine lv_iconst (v := iv 0) hx hb dX4_isProof_89 (by decide) ?_
                have q_175 : 0 ≤ u_169.1 189 3 ∧ u_169.1 189 3 ≤ 1000000000 := iu_169.fi 189 3 4 (by decide) rfl
                exact sZret Cx hr hlk hW hL (by omega) ⟨iu_169, F_172, ⟨(by omega), pr_173, fun q => absurd q (by omega), (show _ ↔ _ from ⟨fun q => absurd q (by omega), fun q => by rcases q with ⟨q0, q1, qq, q3, q4, q5, e, q6, q7⟩ | ⟨q0, e, q6, q7⟩ | ⟨q0, q1, q2, q3, q4, q5⟩ <;> first | (exfalso; omega) | (exfalso; exact (yu_122.2 (by omega)).1 q3)⟩)⟩⟩ dX4_isProof_90
              · refine lv_aload_n hx hb dX4_isProof_81 rfl (lv_at hl 1 rfl) ?_
                refine lv_iload_n hx hb dX4_isProof_82 rfl (lv_at hl 2 rfl) ?_
                have q_176 : 0 ≤ u_169.1 189 3 ∧ u_169.1 189 3 ≤ 1000000000 := iu_169.fi 189 3 4 (by decide) rfl
                refine sBi (sV (As := [.int (iv vs)]) (rest := []) (k := 189) Cx (b_X4_passPoint l G u_169 (vs := vs) (T := T) (kp := kp) (vp := vp) iu_169 (by omega) (rt_pr pr_173 hrt) pr_173.2.2 (PT.pr hPT pr_173 ((F_172 1 rfl).1 1)) hKS (by omega)) (c_X4_129 Cx rfl rfl (rmk_ok (by omega) (by decide))) hW (by decide) rfl rfl rfl hl.1 rfl (Nat.le_of_ble_eq_true rfl) dX4_isProof_83 ⟨Nat.le_of_ble_eq_true rfl, Nat.le_of_ble_eq_true rfl⟩) hL (fun r_179 u_177 H locs k_178 hW hL => ?_)
                obtain ⟨iu_177, fu_177, xu_177⟩ := k_178
                have F_180 := F_172.trans fu_177
                have yu_177 : Hd ((r_179 = 1 → gPn kp vp vs (5) ∧ u_177.1 189 3 = 5 + vs + 2 ∧ 5 + vs + 2 < T) ∧ (r_179 = 0 → ¬ gPn kp vp vs (5))) := by have h1 := (show _ → _ from xu_177.2.2.1); have h2 := (show _ → _ from xu_177.2.2.2); rw [show u_169.1 189 3 = 5 by omega] at h1 h2; exact ⟨h1, h2⟩
                have ycu_177 : r_179 = 1 → u_177.1 189 3 = 5 + vs + 2 ∧ 5 + vs + 2 < T := fun q => (yu_177.1 q).2
                have pr_181 := PR.trans pr_173 xu_177.2.1
                refine r_if_ne (tgt := 91) hx hb ⟨(by omega), (by omega)⟩ dX4_isProof_86 (by decide) (fun c_182 => ?_) (fun c_182 => ?_)
                · refine lv_iload_n hx hb dX4_isProof_91 rfl (lv_at hl 0 rfl) ?_
                  refine lv_bipush (v := iv 9) hx hb dX4_isProof_92 (by decide) ?_
                  refine r_icmp_ne (tgt := 127) hx hb ⟨(by omega), (by omega)⟩ ⟨(by omega), (by omega)⟩ dX4_isProof_94 (by decide) (fun c_183 => ?_) (fun c_183 => ?_)
                  · refine lv_aload_n hx hb dX4_isProof_127 rfl (lv_at hl 1 rfl) ?_
                    have q_184 : 0 ≤ u_177.1 189 3 ∧ u_177.1 189 3 ≤ 1000000000 := iu_177.fi 189 3 4 (by decide) rfl
                    refine sBi (sV (As := []) (rest := []) (k := 189) Cx (b_X4_passTree l G u_177 (T := T) (kp := kp) (vp := vp) iu_177 (rt_pr pr_181 hrt) pr_181.2.2 (PT.pr hPT pr_181 ((F_180 1 rfl).1 1)) hKS (by omega)) (c_X4_132 Cx rfl rfl (rmk_ok (by omega) (by decide))) hW (by decide) rfl rfl rfl hl.1 rfl (Nat.le_of_ble_eq_true rfl) dX4_isProof_128 ⟨Nat.le_of_ble_eq_true rfl, Nat.le_of_ble_eq_true rfl⟩) hL (fun r_187 u_185 H locs k_186 hW hL => ?_)
                    obtain ⟨iu_185, fu_185, xu_185⟩ := k_186
                    have F_188 := F_180.trans fu_185
                    have yu_185 : Hd ((r_187 = 1 → gTr kp vp 30001 (vs + 7) 1 = some (u_185.1 189 3) ∧ u_185.1 189 3 < T) ∧ (r_187 = 0 → gTr kp vp 30001 (vs + 7) 1 = none)) := by have h1 := (show _ → _ from xu_185.2.2.1); have h2 := (show _ → _ from xu_185.2.2.2); rw [show u_177.1 189 3 = vs + 7 by omega] at h1 h2; exact ⟨h1, h2⟩
                    have ycu_185 : r_187 = 1 → u_185.1 189 3 < T := fun q => (yu_185.1 q).2
                    have pr_189 := PR.trans pr_181 xu_185.2.1
                    refine r_if_eq (tgt := 145) hx hb ⟨(by omega), (by omega)⟩ dX4_isProof_131 (by decide) (fun c_190 => ?_) (fun c_190 => ?_)
                    · refine lv_iconst (v := iv 0) hx hb dX4_isProof_145 (by decide) ?_
                      have q_191 : 0 ≤ u_185.1 189 3 ∧ u_185.1 189 3 ≤ 1000000000 := iu_185.fi 189 3 4 (by decide) rfl
                      exact sZret Cx hr hlk hW hL (by omega) ⟨iu_185, F_188, ⟨(by omega), pr_189, fun q => absurd q (by omega), (show _ ↔ _ from ⟨fun q => absurd q (by omega), fun q => by rcases q with ⟨q0, q1, qq, q3, q4, q5, e, q6, q7⟩ | ⟨q0, e, q6, q7⟩ | ⟨q0, q1, q2, q3, q4, q5⟩ <;> first | (exfalso; omega) | (exfalso; exact (yu_122.2 (by omega)).1 q3) | (exfalso; exact yu_177.2 (by omega) q5) | (exfalso; exact yu_177.2 (by omega) q2) | (exact absurd ((yu_185.2 (by omega)).symm.trans q6) (by intro z; cases z)) | (have z := Option.some.inj (((yu_185.1 (by omega)).1).symm.trans q6); rw [← z] at q7; exfalso; omega)⟩)⟩⟩ dX4_isProof_146
                    · refine lv_aload_n hx hb dX4_isProof_134 rfl (lv_at hl 1 rfl) ?_
                      have q_192 : 0 ≤ u_185.1 189 3 ∧ u_185.1 189 3 ≤ 1000000000 := iu_185.fi 189 3 4 (by decide) rfl
                      have q_193 : 0 ≤ u_185.1 189 2 ∧ u_185.1 189 2 ≤ 30001 := iu_185.fi 189 2 4 (by decide) rfl
                      refine sBi (sV (As := []) (rest := []) (k := 189) Cx (s_X4_kind l G u_185  iu_185) (c_X4_119 Cx rfl rfl (rmk_ok (by omega) (by decide))) hW (by decide) rfl rfl rfl hl.1 rfl (Nat.le_of_ble_eq_true rfl) dX4_isProof_135 ⟨Nat.le_of_ble_eq_true rfl, Nat.le_of_ble_eq_true rfl⟩) hL (fun r_196 u_194 H locs k_195 hW hL => ?_)
                      obtain ⟨eu_194, xu_194⟩ := k_195
                      rw [eu_194] at hW
                      have kk_197 : r_196 = kp (u_185.1 189 3) := PT.k (PT.pr hPT pr_189 ((F_188 1 rfl).1 1)) (by have q : 0 ≤ u_185.1 189 3 ∧ u_185.1 189 3 ≤ 1000000000 := iu_185.fi 189 3 4 (by decide) rfl; exact q.1) (by omega) xu_194.2.1 xu_194.2.2
                      refine r_if_ne (tgt := 145) hx hb ⟨(by omega), (by omega)⟩ dX4_isProof_138 (by decide) (fun c_198 => ?_) (fun c_198 => ?_)
                      · refine lv_iconst (v := iv 0) hx hb dX4_isProof_145 (by decide) ?_
                        exact sZret Cx hr hlk hW hL (by omega) ⟨iu_185, F_188, ⟨(by omega), pr_189, fun q => absurd q (by omega), (show _ ↔ _ from ⟨fun q => absurd q (by omega), fun q => by rcases q with ⟨q0, q1, qq, q3, q4, q5, e, q6, q7⟩ | ⟨q0, e, q6, q7⟩ | ⟨q0, q1, q2, q3, q4, q5⟩ <;> first | (exfalso; omega) | (exfalso; exact (yu_122.2 (by omega)).1 q3) | (exfalso; exact yu_177.2 (by omega) q5) | (exfalso; exact yu_177.2 (by omega) q2) | (exact absurd ((yu_185.2 (by omega)).symm.trans q6) (by intro z; cases z)) | (have z := Option.some.inj (((yu_185.1 (by omega)).1).symm.trans q6); rw [← z] at q7; exfalso; omega)⟩)⟩⟩ dX4_isProof_146
                      · refine lv_iconst (v := iv 1) hx hb dX4_isProof_141 (by decide) ?_
                        refine lv_goto (tgt := 146) hx hb dX4_isProof_142 (by decide) ?_
                        exact sZret Cx hr hlk hW hL (by omega) ⟨iu_185, F_188, ⟨(by omega), pr_189, fun _ => DA_of hRO pr_189 ((F_188 1 rfl).1 1) (iu_185.fi 189 3 4 (by decide) rfl).1 (xu_194.2.2 (by omega)), (show _ ↔ _ from ⟨fun _ => by first | (exfalso; omega) | exact .inl ⟨by omega, by omega, by omega, (yu_122.1 (by omega)).1, by omega, (yu_177.1 (by omega)).1, ⟨u_185.1 189 3, (yu_185.1 (by omega)).1, by omega⟩⟩, fun _ => rfl⟩)⟩⟩ dX4_isProof_146
                  · refine lv_aload_n hx hb dX4_isProof_97 rfl (lv_at hl 1 rfl) ?_
                    refine lv_bipush (v := iv 11) hx hb dX4_isProof_98 (by decide) ?_
                    have q_199 : 0 ≤ u_177.1 189 3 ∧ u_177.1 189 3 ≤ 1000000000 := iu_177.fi 189 3 4 (by decide) rfl
                    refine sBi (sV (As := [.int (iv 11)]) (rest := []) (k := 189) Cx (b_X4_pass l G u_177 (kd := 11) (T := T) (kp := kp) (vp := vp) iu_177 (by omega) (rt_pr pr_181 hrt) pr_181.2.2 (PT.pr hPT pr_181 ((F_180 1 rfl).1 1)) hKS (by omega)) (c_X4_122 Cx rfl rfl (rmk_ok (by omega) (by decide))) hW (by decide) rfl rfl rfl hl.1 rfl (Nat.le_of_ble_eq_true rfl) dX4_isProof_100 ⟨Nat.le_of_ble_eq_true rfl, Nat.le_of_ble_eq_true rfl⟩) hL (fun r_202 u_200 H locs k_201 hW hL => ?_)
                    obtain ⟨iu_200, fu_200, xu_200⟩ := k_201
                    have F_203 := F_180.trans fu_200
                    have yu_200 : (r_202 = 1 → kp (vs + 4) = 11 ∧ u_200.1 189 3 = vs + 4 + 1 ∧ vs + 4 + 1 < T) ∧ (r_202 = 0 → ¬ (kp (vs + 4) = 11) ∧ u_200.1 189 3 = vs + 4) := by have h1 := (show _ → _ from xu_200.2.2.1); have h2 := (show _ → _ from xu_200.2.2.2); rw [show u_177.1 189 3 = vs + 4 by omega] at h1 h2; exact ⟨h1, h2⟩
                    have yau_200 := yu_200.1; have ybu_200 := yu_200.2; clear yu_200
                    have pr_204 := PR.trans pr_181 xu_200.2.1
                    refine r_if_eq (tgt := 125) hx hb ⟨(by omega), (by omega)⟩ dX4_isProof_103 (by decide) (fun c_205 => ?_) (fun c_205 => ?_)
                    · refine lv_iconst (v := iv 0) hx hb dX4_isProof_125 (by decide) ?_
                      have q_206 : 0 ≤ u_200.1 189 3 ∧ u_200.1 189 3 ≤ 1000000000 := iu_200.fi 189 3 4 (by decide) rfl
                      exact sZret Cx hr hlk hW hL (by omega) ⟨iu_200, F_203, ⟨(by omega), pr_204, fun q => absurd q (by omega), (show _ ↔ _ from ⟨fun q => absurd q (by omega), fun q => by rcases q with ⟨q0, q1, qq, q3, q4, q5, e, q6, q7⟩ | ⟨q0, e, q6, q7⟩ | ⟨q0, q1, q2, q3, q4, q5⟩ <;> first | (exfalso; omega) | (exfalso; exact (yu_122.2 (by omega)).1 q3) | (exfalso; exact yu_177.2 (by omega) q5) | (exfalso; exact yu_177.2 (by omega) q2)⟩)⟩⟩ dX4_isProof_126
                    · refine lv_aload_n hx hb dX4_isProof_106 rfl (lv_at hl 1 rfl) ?_
                      refine lv_iload_n hx hb dX4_isProof_107 rfl (lv_at hl 2 rfl) ?_
                      have q_207 : 0 ≤ u_200.1 189 3 ∧ u_200.1 189 3 ≤ 1000000000 := iu_200.fi 189 3 4 (by decide) rfl
                      refine sBi (sV (As := [.int (iv vs)]) (rest := []) (k := 189) Cx (b_X4_passPoint l G u_200 (vs := vs) (T := T) (kp := kp) (vp := vp) iu_200 (by omega) (rt_pr pr_204 hrt) pr_204.2.2 (PT.pr hPT pr_204 ((F_203 1 rfl).1 1)) hKS (by omega)) (c_X4_129 Cx rfl rfl (rmk_ok (by omega) (by decide))) hW (by decide) rfl rfl rfl hl.1 rfl (Nat.le_of_ble_eq_true rfl) dX4_isProof_108 ⟨Nat.le_of_ble_eq_true rfl, Nat.le_of_ble_eq_true rfl⟩) hL (fun r_210 u_208 H locs k_209 hW hL => ?_)
                      obtain ⟨iu_208, fu_208, xu_208⟩ := k_209
                      have F_211 := F_203.trans fu_208
                      have yu_208 : Hd ((r_210 = 1 → gPn kp vp vs (vs + 5) ∧ u_208.1 189 3 = vs + 5 + vs + 2 ∧ vs + 5 + vs + 2 < T) ∧ (r_210 = 0 → ¬ gPn kp vp vs (vs + 5))) := by have h1 := (show _ → _ from xu_208.2.2.1); have h2 := (show _ → _ from xu_208.2.2.2); rw [show u_200.1 189 3 = vs + 5 by omega] at h1 h2; exact ⟨h1, h2⟩
                      have ycu_208 : r_210 = 1 → u_208.1 189 3 = vs + 5 + vs + 2 ∧ vs + 5 + vs + 2 < T := fun q => (yu_208.1 q).2
                      have pr_212 := PR.trans pr_204 xu_208.2.1
                      refine r_if_eq (tgt := 125) hx hb ⟨(by omega), (by omega)⟩ dX4_isProof_111 (by decide) (fun c_213 => ?_) (fun c_213 => ?_)
                      · refine lv_iconst (v := iv 0) hx hb dX4_isProof_125 (by decide) ?_
                        have q_214 : 0 ≤ u_208.1 189 3 ∧ u_208.1 189 3 ≤ 1000000000 := iu_208.fi 189 3 4 (by decide) rfl
                        exact sZret Cx hr hlk hW hL (by omega) ⟨iu_208, F_211, ⟨(by omega), pr_212, fun q => absurd q (by omega), (show _ ↔ _ from ⟨fun q => absurd q (by omega), fun q => by rcases q with ⟨q0, q1, qq, q3, q4, q5, e, q6, q7⟩ | ⟨q0, e, q6, q7⟩ | ⟨q0, q1, q2, q3, q4, q5⟩ <;> first | (exfalso; omega) | (exfalso; exact (yu_122.2 (by omega)).1 q3) | (exfalso; exact yu_177.2 (by omega) q5) | (exfalso; exact yu_177.2 (by omega) q2) | (exfalso; exact yu_208.2 (by omega) q4)⟩)⟩⟩ dX4_isProof_126
                      · refine lv_aload_n hx hb dX4_isProof_114 rfl (lv_at hl 1 rfl) ?_
                        have q_215 : 0 ≤ u_208.1 189 3 ∧ u_208.1 189 3 ≤ 1000000000 := iu_208.fi 189 3 4 (by decide) rfl
                        have q_216 : 0 ≤ u_208.1 189 2 ∧ u_208.1 189 2 ≤ 30001 := iu_208.fi 189 2 4 (by decide) rfl
                        refine sBi (sV (As := []) (rest := []) (k := 189) Cx (s_X4_kind l G u_208  iu_208) (c_X4_119 Cx rfl rfl (rmk_ok (by omega) (by decide))) hW (by decide) rfl rfl rfl hl.1 rfl (Nat.le_of_ble_eq_true rfl) dX4_isProof_115 ⟨Nat.le_of_ble_eq_true rfl, Nat.le_of_ble_eq_true rfl⟩) hL (fun r_219 u_217 H locs k_218 hW hL => ?_)
                        obtain ⟨eu_217, xu_217⟩ := k_218
                        rw [eu_217] at hW
                        have kk_220 : r_219 = kp (u_208.1 189 3) := PT.k (PT.pr hPT pr_212 ((F_211 1 rfl).1 1)) (by have q : 0 ≤ u_208.1 189 3 ∧ u_208.1 189 3 ≤ 1000000000 := iu_208.fi 189 3 4 (by decide) rfl; exact q.1) (by omega) xu_217.2.1 xu_217.2.2
                        have hke : r_219 = kp (vs + 5 + vs + 2) := by rw [show vs + 5 + vs + 2 = u_208.1 189 3 by omega]; exact kk_220
                        refine r_if_ne (tgt := 125) hx hb ⟨(by omega), (by omega)⟩ dX4_isProof_118 (by decide) (fun c_221 => ?_) (fun c_221 => ?_)
                        · refine lv_iconst (v := iv 0) hx hb dX4_isProof_125 (by decide) ?_
                          exact sZret Cx hr hlk hW hL (by omega) ⟨iu_208, F_211, ⟨(by omega), pr_212, fun q => absurd q (by omega), (show _ ↔ _ from ⟨fun q => absurd q (by omega), fun q => by rcases q with ⟨q0, q1, qq, q3, q4, q5, e, q6, q7⟩ | ⟨q0, e, q6, q7⟩ | ⟨q0, q1, q2, q3, q4, q5⟩ <;> first | (exfalso; omega) | (exfalso; exact (yu_122.2 (by omega)).1 q3) | (exfalso; exact yu_177.2 (by omega) q5) | (exfalso; exact yu_177.2 (by omega) q2) | (exfalso; exact yu_208.2 (by omega) q4)⟩)⟩⟩ dX4_isProof_126
                        · refine lv_iconst (v := iv 1) hx hb dX4_isProof_121 (by decide) ?_
                          refine lv_goto (tgt := 126) hx hb dX4_isProof_122 (by decide) ?_
                          exact sZret Cx hr hlk hW hL (by omega) ⟨iu_208, F_211, ⟨(by omega), pr_212, fun _ => DA_of hRO pr_212 ((F_211 1 rfl).1 1) (iu_208.fi 189 3 4 (by decide) rfl).1 (xu_217.2.2 (by omega)), (show _ ↔ _ from ⟨fun _ => by first | (exfalso; omega) | exact .inr (.inr ⟨by omega, by omega, (yu_177.1 (by omega)).1, by have := yau_200; omega, (yu_208.1 (by omega)).1, by omega⟩), fun _ => rfl⟩)⟩⟩ dX4_isProof_126
                · refine lv_iconst (v := iv 0) hx hb dX4_isProof_89 (by decide) ?_
                  have q_222 : 0 ≤ u_177.1 189 3 ∧ u_177.1 189 3 ≤ 1000000000 := iu_177.fi 189 3 4 (by decide) rfl
                  exact sZret Cx hr hlk hW hL (by omega) ⟨iu_177, F_180, ⟨(by omega), pr_181, fun q => absurd q (by omega), (show _ ↔ _ from ⟨fun q => absurd q (by omega), fun q => by rcases q with ⟨q0, q1, qq, q3, q4, q5, e, q6, q7⟩ | ⟨q0, e, q6, q7⟩ | ⟨q0, q1, q2, q3, q4, q5⟩ <;> first | (exfalso; omega) | (exfalso; exact (yu_122.2 (by omega)).1 q3) | (exfalso; exact yu_177.2 (by omega) q5) | (exfalso; exact yu_177.2 (by omega) q2)⟩)⟩⟩ dX4_isProof_90
          · refine lv_iconst (v := iv 0) hx hb dX4_isProof_64 (by decide) ?_
            have q_223 : 0 ≤ u_122.1 189 3 ∧ u_122.1 189 3 ≤ 1000000000 := iu_122.fi 189 3 4 (by decide) rfl
            exact sZret Cx hr hlk hW hL (by omega) ⟨iu_122, F_125, ⟨(by omega), pr_126, fun q => absurd q (by omega), (show _ ↔ _ from ⟨fun q => absurd q (by omega), fun q => by rcases q with ⟨q0, q1, qq, q3, q4, q5, e, q6, q7⟩ | ⟨q0, e, q6, q7⟩ | ⟨q0, q1, q2, q3, q4, q5⟩ <;> first | (exfalso; omega) | (exfalso; exact (yu_122.2 (by omega)).1 q3)⟩)⟩⟩ dX4_isProof_65
  refine lv_iload_n hx hb dX4_isProof_5 rfl (lv_at hl 0 rfl) ?_
  refine lv_bipush (v := iv 7) hx hb dX4_isProof_6 (by decide) ?_
  refine r_icmp_eq (tgt := 25) hx hb ⟨(by omega), (by omega)⟩ ⟨(by omega), (by omega)⟩ dX4_isProof_8 (by decide) (fun c_224 => ?_) (fun c_224 => ?_)
  · exact join_25  _ _ _ (by omega) hW hL (lv_sub hl [0, 1, 2] rfl)
  · refine lv_iload_n hx hb dX4_isProof_11 rfl (lv_at hl 0 rfl) ?_
    refine lv_bipush (v := iv 8) hx hb dX4_isProof_12 (by decide) ?_
    refine r_icmp_eq (tgt := 25) hx hb ⟨(by omega), (by omega)⟩ ⟨(by omega), (by omega)⟩ dX4_isProof_14 (by decide) (fun c_225 => ?_) (fun c_225 => ?_)
    · exact join_25  _ _ _ (by omega) hW hL (lv_sub hl [0, 1, 2] rfl)
    · refine lv_iload_n hx hb dX4_isProof_17 rfl (lv_at hl 0 rfl) ?_
      refine lv_bipush (v := iv 9) hx hb dX4_isProof_18 (by decide) ?_
      refine r_icmp_eq (tgt := 25) hx hb ⟨(by omega), (by omega)⟩ ⟨(by omega), (by omega)⟩ dX4_isProof_20 (by decide) (fun c_226 => ?_) (fun c_226 => ?_)
      · exact join_25  _ _ _ (by omega) hW hL (lv_sub hl [0, 1, 2] rfl)
      · refine lv_iconst (v := iv 0) hx hb dX4_isProof_23 (by decide) ?_
        exact sZret Cx hr hlk hW hL (by omega) ⟨hI, (Fr.rf : Fr S S (p1 189)), ⟨(by omega), pr_0, fun q => absurd q (by omega), (show _ ↔ _ from ⟨fun q => absurd q (by omega), fun q => by rcases q with ⟨q0, q1, qq, q3, q4, q5, e, q6, q7⟩ | ⟨q0, e, q6, q7⟩ | ⟨q0, q1, q2, q3, q4, q5⟩ <;> first | (exfalso; omega)⟩)⟩⟩ dX4_isProof_24
