section
variable {kp vp : Int → Int} {F : Nat} {t d e : Int}
theorem gPr_go (h : kp t = 2) (h1 : kp (t + 1) = 4) (h2 : kp (t + 2) = 2) : gPr kp (F + 1) t = gPr kp F (t + 3) := by
  show (if kp t = 2 then (if kp (t + 1) = 4 ∧ kp (t + 2) = 2 then gPr kp F (t + 3) else none) else if kp t = 5 then some (t + 1) else none) = _
  rw [if_pos h, if_pos ⟨h1, h2⟩]
theorem gPr_no (h : kp t = 2) (h1 : ¬ (kp (t + 1) = 4 ∧ kp (t + 2) = 2)) : gPr kp (F + 1) t = none := by
  show (if kp t = 2 then (if kp (t + 1) = 4 ∧ kp (t + 2) = 2 then gPr kp F (t + 3) else none) else if kp t = 5 then some (t + 1) else none) = _
  rw [if_pos h, if_neg h1]
theorem gPr_y (h : kp t = 5) : gPr kp (F + 1) t = some (t + 1) := by
  show (if kp t = 2 then (if kp (t + 1) = 4 ∧ kp (t + 2) = 2 then gPr kp F (t + 3) else none) else if kp t = 5 then some (t + 1) else none) = _
  rw [if_neg (by omega), if_pos h]
theorem gPr_n (h : kp t ≠ 2) (h1 : kp t ≠ 5) : gPr kp (F + 1) t = none := by
  show (if kp t = 2 then (if kp (t + 1) = 4 ∧ kp (t + 2) = 2 then gPr kp F (t + 3) else none) else if kp t = 5 then some (t + 1) else none) = _
  rw [if_neg h, if_neg h1]
theorem gTr_u : gTr kp vp (F + 1) t d = (if d = 0 then some t else if kp t = 12 then (if kp (t + 1) = 2 ∧ kp (t + 2) = 2 then gTr kp vp F (t + 3) (d + 1) else none) else if kp t = 13 ∨ kp t = 14 ∨ kp t = 15 then (if kp (t + 1) = 2 ∧ 0 < vp (t + 1) then (gPr kp 30001 (t + 2)).bind (fun e => gTr kp vp F e (if kp t = 13 then d else d - 1)) else none) else none) := rfl
theorem gTr_z : gTr kp vp F t 0 = some t := by
  cases F with
  | zero => rfl
  | succ F => rfl
theorem gTr_b (hd : d ≠ 0) (h : kp t = 12) (h1 : kp (t + 1) = 2) (h2 : kp (t + 2) = 2) : gTr kp vp (F + 1) t d = gTr kp vp F (t + 3) (d + 1) := by
  rw [gTr_u, if_neg hd, if_pos h, if_pos ⟨h1, h2⟩]
theorem gTr_bx (hd : d ≠ 0) (h : kp t = 12) (h1 : ¬ (kp (t + 1) = 2 ∧ kp (t + 2) = 2)) : gTr kp vp (F + 1) t d = none := by
  rw [gTr_u, if_neg hd, if_pos h, if_neg h1]
theorem gTr_p (hd : d ≠ 0) (h : kp t = 13 ∨ kp t = 14 ∨ kp t = 15) (h1 : gAb kp vp (t + 1)) (h2 : gPr kp 30001 (t + 2) = some e) : gTr kp vp (F + 1) t d = gTr kp vp F e (if kp t = 13 then d else d - 1) := by
  rw [gTr_u, if_neg hd, if_neg (by omega), if_pos h, if_pos (show kp (t + 1) = 2 ∧ 0 < vp (t + 1) from h1), h2]; rfl
theorem gTr_pa (hd : d ≠ 0) (h : kp t = 13 ∨ kp t = 14 ∨ kp t = 15) (h1 : ¬ gAb kp vp (t + 1)) : gTr kp vp (F + 1) t d = none := by
  rw [gTr_u, if_neg hd, if_neg (by omega), if_pos h, if_neg (show ¬ (kp (t + 1) = 2 ∧ 0 < vp (t + 1)) from h1)]
theorem gTr_pp (hd : d ≠ 0) (h : kp t = 13 ∨ kp t = 14 ∨ kp t = 15) (h1 : gAb kp vp (t + 1)) (h2 : gPr kp 30001 (t + 2) = none) : gTr kp vp (F + 1) t d = none := by
  rw [gTr_u, if_neg hd, if_neg (by omega), if_pos h, if_pos (show kp (t + 1) = 2 ∧ 0 < vp (t + 1) from h1), h2]; rfl
theorem gTr_x (hd : d ≠ 0) (h : kp t < 12 ∨ 15 < kp t) : gTr kp vp (F + 1) t d = none := by
  rw [gTr_u, if_neg hd, if_neg (by omega), if_neg (by omega)]
theorem gTr_0n (hd : d ≠ 0) : gTr kp vp 0 t d = none := by
  show (if d = 0 then some t else none) = none
  rw [if_neg hd]
end
/-- that the tokens are one PROOF -/
def isP (kp vp : Int → Int) (n : Int) : Prop := (kp 0 = 7 ∧ kp 1 = 2 ∧ kp 2 = 3 ∧ gAb kp vp 3 ∧ kp 4 = 10 ∧ gPn kp vp n 5 ∧ ∃ e, gTr kp vp 30001 (n + 7) 1 = some e ∧ kp e = 0) ∨ (kp 0 = 8 ∧ ∃ e, gTr kp vp 30001 1 1 = some e ∧ kp e = 0) ∨ (kp 0 = 9 ∧ kp 1 = 10 ∧ gPn kp vp n 2 ∧ kp (n + 4) = 11 ∧ gPn kp vp n (n + 5) ∧ kp (n + 5 + n + 2) = 0)
set_option maxRecDepth 100000 in
set_option maxHeartbeats 4000000 in
theorem b_X4_passPoint (l : Launch) (G : sG) (S : sS) {vs : Int} {T : Int} {kp vp : Int → Int} (hI : cX G S 0 0 0) (hvs : 0 ≤ vs ∧ vs ≤ 12) (hrt : RT G S) (hPS : PS S) (hPT : Hd (PT S T kp vp)) (hKS : Hd (KS T kp)) (hta : S.1 189 3 < T ∧ T ≤ 30001) : Met l yX4_passPoint (.code yX4_passPoint cX4_passPoint 3 (some .boolean) :: tb) (rmk 4 0 0) (sPc G 294 S [.ref (G.2.2.1 + 189), .int (iv vs)]) (sQi G 294 (fun r u => cX G u 0 0 0 ∧ Fr S u (p1 189) ∧ ((0 ≤ r ∧ r ≤ 1) ∧ PR S u ∧ Hd (r = 1 → gPn kp vp vs (S.1 189 3) ∧ u.1 189 3 = S.1 189 3 + vs + 2 ∧ S.1 189 3 + vs + 2 < T) ∧ Hd (r = 0 → ¬ gPn kp vp vs (S.1 189 3))))) 0 0 (sF G) := by
  refine sEnter (by decide) (Nat.le_of_ble_eq_true rfl) ?_
  intro p e s m args below meth c Cx hr hlk hnm hW ls hl
  have Cx : sC G p m c cX4_passPoint 3 s args RX4 := Cx
  obtain ⟨hx, hb, hml, hown, hts⟩ := id Cx.1
  have hL : sL G [] := sL_nil
  have hl : lv_has ls 3 [(0, .ref (G.2.2.1 + 189)), (1, .int (iv vs))] := hl
  have hW0 := hW
  have pr_0 : PR S S := PR.rf hPS
  have hat0 : 0 ≤ S.1 189 3 ∧ S.1 189 3 ≤ 1000000000 := hI.fi 189 3 4 (by decide) rfl
  refine lv_iconst (v := iv 1) hx hb dX4_passPoint_0 (by decide) ?_
  refine lv_istore_n (lv' := [(2, .int (iv 1)), (0, .ref (G.2.2.1 + 189)), (1, .int (iv vs))]) hx hb dX4_passPoint_1 rfl hl (by decide) rfl (fun ls hl => ?_)
  have loop_2 : ∀ (fuel : Nat) (S2 : sS) (j : Int) (H : Heap) (locs : List Loc) (ls : Array Slot), (13 - j).toNat < fuel → (cX G S2 0 0 0) → (Fr S S2 (p1 189)) → (Fr S S2 (p1 189)) → (1 ≤ j ∧ j ≤ 13) → (j ≤ vs + 1) → (S2.1 189 3 = S.1 189 3 + j - 1 ∧ S2.1 189 3 < T) → (Hd (∀ i, 0 ≤ i → i < j - 1 → kp (S.1 189 3 + i) = 2)) → (PR S S2) → sW G 294 S2 H → sL G locs → lv_has ls 3 [(2, .int (iv j)), (0, .ref (G.2.2.1 + 189)), (1, .int (iv vs))] → W p l e (rmk 4 0 0) s m args below meth c H locs 0 0 (MQ below (sQi G 294 (fun r u => cX G u 0 0 0 ∧ Fr S u (p1 189) ∧ ((0 ≤ r ∧ r ≤ 1) ∧ PR S u ∧ Hd (r = 1 → gPn kp vp vs (S.1 189 3) ∧ u.1 189 3 = S.1 189 3 + vs + 2 ∧ S.1 189 3 + vs + 2 < T) ∧ Hd (r = 0 → ¬ gPn kp vp vs (S.1 189 3))))) args s 0 0 (sF G)) (F0 m 2 ls []) := by
    intro fuel
    induction fuel with
    | zero => intro S2 j H locs ls hmeas hI2 hFm2 hL2_ hj hjn ha2 hz hPR2 hW hL hl; exact absurd hmeas (Nat.not_lt_zero _)
    | succ fuel ih_2 =>
      intro S2 j H locs ls hmeas hI2 hFm2 hL2_ hj hjn ha2 hz hPR2 hW hL hl
      refine lv_iload_n hx hb dX4_passPoint_2 rfl (lv_at hl 0 rfl) ?_
      refine lv_iload_n hx hb dX4_passPoint_3 rfl (lv_at hl 2 rfl) ?_
      refine r_icmp_gt (tgt := 23) hx hb ⟨(by omega), (by omega)⟩ ⟨(by omega), (by omega)⟩ dX4_passPoint_4 (by decide) (fun c_1 => ?_) (fun c_1 => ?_)
      · refine lv_aload_n hx hb dX4_passPoint_23 rfl (lv_at hl 1 rfl) ?_
        refine lv_iconst (v := iv 3) hx hb dX4_passPoint_24 (by decide) ?_
        have q_2 : 0 ≤ S2.1 189 3 ∧ S2.1 189 3 ≤ 1000000000 := hI2.fi 189 3 4 (by decide) rfl
        refine sBi (sV (As := [.int (iv 3)]) (rest := []) (k := 189) Cx (b_X4_pass l G S2 (kd := 3) (T := T) (kp := kp) (vp := vp) hI2 (by omega) (rt_pr hPR2 hrt) hPR2.2.2 (PT.pr hPT hPR2 ((hFm2 1 rfl).1 1)) hKS (by omega)) (c_X4_122 Cx rfl rfl (rmk_ok (by omega) (by decide))) hW (by decide) rfl rfl rfl hl.1 rfl (Nat.le_of_ble_eq_true rfl) dX4_passPoint_25 ⟨Nat.le_of_ble_eq_true rfl, Nat.le_of_ble_eq_true rfl⟩) hL (fun r_5 u_3 H locs k_4 hW hL => ?_)
        obtain ⟨iu_3, fu_3, xu_3⟩ := k_4
        have F_6 := hFm2.trans fu_3
        have F_7 := hL2_.trans fu_3
        have yu_3 : (r_5 = 1 → kp (S.1 189 3 + j - 1) = 3 ∧ u_3.1 189 3 = S.1 189 3 + j - 1 + 1 ∧ S.1 189 3 + j - 1 + 1 < T) ∧ (r_5 = 0 → ¬ (kp (S.1 189 3 + j - 1) = 3) ∧ u_3.1 189 3 = S.1 189 3 + j - 1) := by have h1 := (show _ → _ from xu_3.2.2.1); have h2 := (show _ → _ from xu_3.2.2.2); rw [show S2.1 189 3 = S.1 189 3 + j - 1 by omega] at h1 h2; exact ⟨h1, h2⟩
        have yau_3 := yu_3.1; have ybu_3 := yu_3.2; clear yu_3
        have pr_8 := PR.trans hPR2 xu_3.2.1
        refine r_if_eq (tgt := 42) hx hb ⟨(by omega), (by omega)⟩ dX4_passPoint_28 (by decide) (fun c_9 => ?_) (fun c_9 => ?_)
        · refine lv_iconst (v := iv 0) hx hb dX4_passPoint_42 (by decide) ?_
          have q_10 : 0 ≤ u_3.1 189 3 ∧ u_3.1 189 3 ≤ 1000000000 := iu_3.fi 189 3 4 (by decide) rfl
          exact sZret Cx hr hlk hW hL (by omega) ⟨iu_3, F_6, ⟨(by omega), pr_8, (fun q => absurd q (by omega)), (fun _ q => by have z := q.2.1; rw [show S.1 189 3 + vs = S.1 189 3 + j - 1 by omega] at z; exact (ybu_3 (by omega)).1 z)⟩⟩ dX4_passPoint_43
        · refine lv_aload_n hx hb dX4_passPoint_31 rfl (lv_at hl 1 rfl) ?_
          have q_11 : 0 ≤ u_3.1 189 3 ∧ u_3.1 189 3 ≤ 1000000000 := iu_3.fi 189 3 4 (by decide) rfl
          refine sBi (sV (As := []) (rest := []) (k := 189) Cx (b_X4_passAbove l G u_3 (T := T) (kp := kp) (vp := vp) iu_3 (rt_pr pr_8 hrt) pr_8.2.2 (PT.pr hPT pr_8 ((F_6 1 rfl).1 1)) hKS (by omega)) (c_X4_125 Cx rfl rfl (rmk_ok (by omega) (by decide))) hW (by decide) rfl rfl rfl hl.1 rfl (Nat.le_of_ble_eq_true rfl) dX4_passPoint_32 ⟨Nat.le_of_ble_eq_true rfl, Nat.le_of_ble_eq_true rfl⟩) hL (fun r_14 u_12 H locs k_13 hW hL => ?_)
          obtain ⟨iu_12, fu_12, xu_12⟩ := k_13
          have F_15 := F_6.trans fu_12
          have F_16 := F_7.trans fu_12
          have yu_12 : Hd ((r_14 = 1 → gAb kp vp (S.1 189 3 + j - 1 + 1) ∧ u_12.1 189 3 = S.1 189 3 + j - 1 + 1 + 1 ∧ S.1 189 3 + j - 1 + 1 + 1 < T) ∧ (r_14 = 0 → ¬ gAb kp vp (S.1 189 3 + j - 1 + 1) ∧ u_12.1 189 3 = S.1 189 3 + j - 1 + 1)) := by have h1 := (show _ → _ from xu_12.2.2.1); have h2 := (show _ → _ from xu_12.2.2.2); rw [show u_3.1 189 3 = S.1 189 3 + j - 1 + 1 by omega] at h1 h2; exact ⟨h1, h2⟩
          have ycu_12 : r_14 = 1 → u_12.1 189 3 = S.1 189 3 + j - 1 + 1 + 1 ∧ S.1 189 3 + j - 1 + 1 + 1 < T := fun q => (yu_12.1 q).2
          have pr_17 := PR.trans pr_8 xu_12.2.1
          refine r_if_eq (tgt := 42) hx hb ⟨(by omega), (by omega)⟩ dX4_passPoint_35 (by decide) (fun c_18 => ?_) (fun c_18 => ?_)
          · refine lv_iconst (v := iv 0) hx hb dX4_passPoint_42 (by decide) ?_
            have q_19 : 0 ≤ u_12.1 189 3 ∧ u_12.1 189 3 ≤ 1000000000 := iu_12.fi 189 3 4 (by decide) rfl
            exact sZret Cx hr hlk hW hL (by omega) ⟨iu_12, F_15, ⟨(by omega), pr_17, (fun q => absurd q (by omega)), (fun _ q => by have z := q.2.2; rw [show S.1 189 3 + vs + 1 = S.1 189 3 + j - 1 + 1 by omega] at z; exact (yu_12.2 (by omega)).1 z)⟩⟩ dX4_passPoint_43
          · refine lv_iconst (v := iv 1) hx hb dX4_passPoint_38 (by decide) ?_
            refine lv_goto (tgt := 43) hx hb dX4_passPoint_39 (by decide) ?_
            have q_20 : 0 ≤ u_12.1 189 3 ∧ u_12.1 189 3 ≤ 1000000000 := iu_12.fi 189 3 4 (by decide) rfl
            exact sZret Cx hr hlk hW hL (by omega) ⟨iu_12, F_15, ⟨(by omega), pr_17, (fun _ => ⟨⟨fun i a c => hz i a (by omega), by rw [show S.1 189 3 + vs = S.1 189 3 + j - 1 by omega]; omega, by rw [show S.1 189 3 + vs + 1 = S.1 189 3 + j - 1 + 1 by omega]; exact (yu_12.1 (by omega)).1⟩, by omega, by omega⟩), (fun q => absurd q (by omega))⟩⟩ dX4_passPoint_43
      · refine lv_aload_n hx hb dX4_passPoint_7 rfl (lv_at hl 1 rfl) ?_
        refine lv_iconst (v := iv 2) hx hb dX4_passPoint_8 (by decide) ?_
        have q_21 : 0 ≤ S2.1 189 3 ∧ S2.1 189 3 ≤ 1000000000 := hI2.fi 189 3 4 (by decide) rfl
        refine sBi (sV (As := [.int (iv 2)]) (rest := []) (k := 189) Cx (b_X4_pass l G S2 (kd := 2) (T := T) (kp := kp) (vp := vp) hI2 (by omega) (rt_pr hPR2 hrt) hPR2.2.2 (PT.pr hPT hPR2 ((hFm2 1 rfl).1 1)) hKS (by omega)) (c_X4_122 Cx rfl rfl (rmk_ok (by omega) (by decide))) hW (by decide) rfl rfl rfl hl.1 rfl (Nat.le_of_ble_eq_true rfl) dX4_passPoint_9 ⟨Nat.le_of_ble_eq_true rfl, Nat.le_of_ble_eq_true rfl⟩) hL (fun r_24 u_22 H locs k_23 hW hL => ?_)
        obtain ⟨iu_22, fu_22, xu_22⟩ := k_23
        have F_25 := hFm2.trans fu_22
        have F_26 := hL2_.trans fu_22
        have yu_22 : (r_24 = 1 → kp (S.1 189 3 + j - 1) = 2 ∧ u_22.1 189 3 = S.1 189 3 + j - 1 + 1 ∧ S.1 189 3 + j - 1 + 1 < T) ∧ (r_24 = 0 → ¬ (kp (S.1 189 3 + j - 1) = 2) ∧ u_22.1 189 3 = S.1 189 3 + j - 1) := by have h1 := (show _ → _ from xu_22.2.2.1); have h2 := (show _ → _ from xu_22.2.2.2); rw [show S2.1 189 3 = S.1 189 3 + j - 1 by omega] at h1 h2; exact ⟨h1, h2⟩
        have yau_22 := yu_22.1; have ybu_22 := yu_22.2; clear yu_22
        have pr_27 := PR.trans hPR2 xu_22.2.1
        refine r_if_ne (tgt := 17) hx hb ⟨(by omega), (by omega)⟩ dX4_passPoint_12 (by decide) (fun c_28 => ?_) (fun c_28 => ?_)
        · refine lv_iinc (v := iv (j + 1)) (lv' := [(2, .int (iv (j + 1))), (0, .ref (G.2.2.1 + 189)), (1, .int (iv vs))]) hx hb dX4_passPoint_17 hl (k := 0) rfl ((Int32.ofInt_add _ _).symm) (by decide) rfl (fun ls hl => ?_)
          refine lv_goto (tgt := 2) hx hb dX4_passPoint_20 (by decide) ?_
          have q_29 : 0 ≤ u_22.1 189 3 ∧ u_22.1 189 3 ≤ 1000000000 := iu_22.fi 189 3 4 (by decide) rfl
          exact ih_2 u_22 (j + 1) _ _ _ (by omega) iu_22 F_25 F_26 (by omega) (by omega) (by omega) (fun i a c => by by_cases q : i = j - 1; (rw [q, show S.1 189 3 + (j - 1) = S.1 189 3 + j - 1 by omega]; omega); exact hz i a (by omega)) pr_27 hW hL (lv_sub hl [0, 1, 2] rfl)
        · refine lv_iconst (v := iv 0) hx hb dX4_passPoint_15 (by decide) ?_
          have q_30 : 0 ≤ u_22.1 189 3 ∧ u_22.1 189 3 ≤ 1000000000 := iu_22.fi 189 3 4 (by decide) rfl
          exact sZret Cx hr hlk hW hL (by omega) ⟨iu_22, F_25, ⟨(by omega), pr_27, (fun q => absurd q (by omega)), (fun _ q => by have z := q.1 (j - 1) (by omega) (by omega); rw [show S.1 189 3 + (j - 1) = S.1 189 3 + j - 1 by omega] at z; exact (ybu_22 (by omega)).1 z)⟩⟩ dX4_passPoint_16
  have q_31 : 0 ≤ S.1 189 3 ∧ S.1 189 3 ≤ 1000000000 := hI.fi 189 3 4 (by decide) rfl
  exact loop_2 (_ + 1) S 1 _ _ _ (Nat.lt_succ_self _) hI (Fr.rf : Fr S S (p1 189)) Fr.rf (by omega) (by omega) (by omega) (fun i a c => absurd c (by omega)) pr_0 hW hL (lv_sub hl [0, 1, 2] rfl)

set_option maxRecDepth 100000 in
set_option maxHeartbeats 4000000 in
theorem b_X4_passPairs (l : Launch) (G : sG) (S : sS) {T : Int} {kp vp : Int → Int} (hI : cX G S 0 0 0) (hrt : RT G S) (hPS : PS S) (hPT : Hd (PT S T kp vp)) (hKS : Hd (KS T kp)) (hta : S.1 189 3 < T ∧ T ≤ 30001) : Met l yX4_passPairs (.code yX4_passPairs cX4_passPairs 2 (some .boolean) :: tb) (rmk 3 0 0) (sPc G 294 S [.ref (G.2.2.1 + 189)]) (sQi G 294 (fun r u => cX G u 0 0 0 ∧ Fr S u (p1 189) ∧ ((0 ≤ r ∧ r ≤ 1) ∧ PR S u ∧ Hd (r = 1 → gPr kp 30001 (S.1 189 3) = some (u.1 189 3) ∧ u.1 189 3 < T) ∧ Hd (r = 0 → gPr kp 30001 (S.1 189 3) = none)))) 0 0 (sF G) := by
  refine sEnter (by decide) (Nat.le_of_ble_eq_true rfl) ?_
  intro p e s m args below meth c Cx hr hlk hnm hW ls hl
  have Cx : sC G p m c cX4_passPairs 2 s args RX4 := Cx
  obtain ⟨hx, hb, hml, hown, hts⟩ := id Cx.1
  have hL : sL G [] := sL_nil
  have hl : lv_has ls 2 [(0, .ref (G.2.2.1 + 189))] := hl
  have hW0 := hW
  have pr_0 : PR S S := PR.rf hPS
  have hat0 : 0 ≤ S.1 189 3 ∧ S.1 189 3 ≤ 1000000000 := hI.fi 189 3 4 (by decide) rfl
  refine lv_iconst (v := iv 0) hx hb dX4_passPairs_0 (by decide) ?_
  refine lv_istore_n (lv' := [(1, .int (iv 0)), (0, .ref (G.2.2.1 + 189))]) hx hb dX4_passPairs_1 rfl hl (by decide) rfl (fun ls hl => ?_)
  have loop_2 : ∀ (fuel : Nat) (S2 : sS) (i : Int) (H : Heap) (locs : List Loc) (ls : Array Slot), (30001 - i).toNat < fuel → (cX G S2 0 0 0) → (Fr S S2 (p1 189)) → (Fr S S2 (p1 189)) → (0 ≤ i ∧ i ≤ 30001) → (S2.1 189 3 = S.1 189 3 + 3 * i ∧ S2.1 189 3 < T) → (Hd (gPr kp (30001 - i).toNat (S2.1 189 3) = gPr kp 30001 (S.1 189 3))) → (PR S S2) → sW G 294 S2 H → sL G locs → lv_has ls 2 [(1, .int (iv i)), (0, .ref (G.2.2.1 + 189))] → W p l e (rmk 3 0 0) s m args below meth c H locs 0 0 (MQ below (sQi G 294 (fun r u => cX G u 0 0 0 ∧ Fr S u (p1 189) ∧ ((0 ≤ r ∧ r ≤ 1) ∧ PR S u ∧ Hd (r = 1 → gPr kp 30001 (S.1 189 3) = some (u.1 189 3) ∧ u.1 189 3 < T) ∧ Hd (r = 0 → gPr kp 30001 (S.1 189 3) = none)))) args s 0 0 (sF G)) (F0 m 2 ls []) := by
    intro fuel
    induction fuel with
    | zero => intro S2 i H locs ls hmeas hI2 hFm2 hL2_ hi ha2 hG hPR2 hW hL hl; exact absurd hmeas (Nat.not_lt_zero _)
    | succ fuel ih_2 =>
      intro S2 i H locs ls hmeas hI2 hFm2 hL2_ hi ha2 hG hPR2 hW hL hl
      refine lv_iload_n hx hb dX4_passPairs_2 rfl (lv_at hl 0 rfl) ?_
      refine lv_sipush (v := iv 30000) hx hb dX4_passPairs_3 (by decide) ?_
      refine r_icmp_gt (tgt := 41) hx hb ⟨(by omega), (by omega)⟩ ⟨(by omega), (by omega)⟩ dX4_passPairs_6 (by decide) (fun c_1 => ?_) (fun c_1 => ?_)
      · exfalso; omega
      · refine lv_aload_n hx hb dX4_passPairs_9 rfl (lv_at hl 1 rfl) ?_
        refine lv_iconst (v := iv 2) hx hb dX4_passPairs_10 (by decide) ?_
        have q_2 : 0 ≤ S2.1 189 3 ∧ S2.1 189 3 ≤ 1000000000 := hI2.fi 189 3 4 (by decide) rfl
        refine sBi (sV (As := [.int (iv 2)]) (rest := []) (k := 189) Cx (b_X4_pass l G S2 (kd := 2) (T := T) (kp := kp) (vp := vp) hI2 (by omega) (rt_pr hPR2 hrt) hPR2.2.2 (PT.pr hPT hPR2 ((hFm2 1 rfl).1 1)) hKS (by omega)) (c_X4_122 Cx rfl rfl (rmk_ok (by omega) (by decide))) hW (by decide) rfl rfl rfl hl.1 rfl (Nat.le_of_ble_eq_true rfl) dX4_passPairs_11 ⟨Nat.le_of_ble_eq_true rfl, Nat.le_of_ble_eq_true rfl⟩) hL (fun r_5 u_3 H locs k_4 hW hL => ?_)
        obtain ⟨iu_3, fu_3, xu_3⟩ := k_4
        have F_6 := hFm2.trans fu_3
        have F_7 := hL2_.trans fu_3
        have yu_3 : (r_5 = 1 → kp (S2.1 189 3) = 2 ∧ u_3.1 189 3 = S2.1 189 3 + 1 ∧ S2.1 189 3 + 1 < T) ∧ (r_5 = 0 → ¬ (kp (S2.1 189 3) = 2) ∧ u_3.1 189 3 = S2.1 189 3) := by have h1 := (show _ → _ from xu_3.2.2.1); have h2 := (show _ → _ from xu_3.2.2.2); rw [show S2.1 189 3 = S2.1 189 3 by omega] at h1 h2; exact ⟨h1, h2⟩
        have yau_3 := yu_3.1; have ybu_3 := yu_3.2; clear yu_3
        have pr_8 := PR.trans hPR2 xu_3.2.1
        refine r_if_eq (tgt := 41) hx hb ⟨(by omega), (by omega)⟩ dX4_passPairs_14 (by decide) (fun c_9 => ?_) (fun c_9 => ?_)
        · refine lv_aload_n hx hb dX4_passPairs_41 rfl (lv_at hl 1 rfl) ?_
          refine lv_iconst (v := iv 5) hx hb dX4_passPairs_42 (by decide) ?_
          have q_10 : 0 ≤ u_3.1 189 3 ∧ u_3.1 189 3 ≤ 1000000000 := iu_3.fi 189 3 4 (by decide) rfl
          refine sBi (sV (As := [.int (iv 5)]) (rest := []) (k := 189) Cx (b_X4_pass l G u_3 (kd := 5) (T := T) (kp := kp) (vp := vp) iu_3 (by omega) (rt_pr pr_8 hrt) pr_8.2.2 (PT.pr hPT pr_8 ((F_6 1 rfl).1 1)) hKS (by omega)) (c_X4_122 Cx rfl rfl (rmk_ok (by omega) (by decide))) hW (by decide) rfl rfl rfl hl.1 rfl (Nat.le_of_ble_eq_true rfl) dX4_passPairs_43 ⟨Nat.le_of_ble_eq_true rfl, Nat.le_of_ble_eq_true rfl⟩) hL (fun r_13 u_11 H locs k_12 hW hL => ?_)
          obtain ⟨iu_11, fu_11, xu_11⟩ := k_12
          have F_14 := F_6.trans fu_11
          have F_15 := F_7.trans fu_11
          have yu_11 : (r_13 = 1 → kp (S2.1 189 3) = 5 ∧ u_11.1 189 3 = S2.1 189 3 + 1 ∧ S2.1 189 3 + 1 < T) ∧ (r_13 = 0 → ¬ (kp (S2.1 189 3) = 5) ∧ u_11.1 189 3 = S2.1 189 3) := by have h1 := (show _ → _ from xu_11.2.2.1); have h2 := (show _ → _ from xu_11.2.2.2); rw [show u_3.1 189 3 = S2.1 189 3 by omega] at h1 h2; exact ⟨h1, h2⟩
          have yau_11 := yu_11.1; have ybu_11 := yu_11.2; clear yu_11
          have pr_16 := PR.trans pr_8 xu_11.2.1
          have q_17 : 0 ≤ u_11.1 189 3 ∧ u_11.1 189 3 ≤ 1000000000 := iu_11.fi 189 3 4 (by decide) rfl
          exact sZret Cx hr hlk hW hL (by omega) ⟨iu_11, F_14, ⟨(by omega), pr_16, (fun _ => ⟨(by rw [← (show _ = gPr kp 30001 (S.1 189 3) from hG), (show (30001 - i).toNat = (30000 - i).toNat + 1 by omega)]; rw [gPr_y (by omega)]; congr 1; omega), by omega⟩), (fun _ => (by rw [← (show _ = gPr kp 30001 (S.1 189 3) from hG), (show (30001 - i).toNat = (30000 - i).toNat + 1 by omega)]; exact gPr_n (by omega) (by omega)))⟩⟩ dX4_passPairs_46
        · refine lv_aload_n hx hb dX4_passPairs_17 rfl (lv_at hl 1 rfl) ?_
          refine lv_iconst (v := iv 4) hx hb dX4_passPairs_18 (by decide) ?_
          have q_18 : 0 ≤ u_3.1 189 3 ∧ u_3.1 189 3 ≤ 1000000000 := iu_3.fi 189 3 4 (by decide) rfl
          refine sBi (sV (As := [.int (iv 4)]) (rest := []) (k := 189) Cx (b_X4_pass l G u_3 (kd := 4) (T := T) (kp := kp) (vp := vp) iu_3 (by omega) (rt_pr pr_8 hrt) pr_8.2.2 (PT.pr hPT pr_8 ((F_6 1 rfl).1 1)) hKS (by omega)) (c_X4_122 Cx rfl rfl (rmk_ok (by omega) (by decide))) hW (by decide) rfl rfl rfl hl.1 rfl (Nat.le_of_ble_eq_true rfl) dX4_passPairs_19 ⟨Nat.le_of_ble_eq_true rfl, Nat.le_of_ble_eq_true rfl⟩) hL (fun r_21 u_19 H locs k_20 hW hL => ?_)
          obtain ⟨iu_19, fu_19, xu_19⟩ := k_20
          have F_22 := F_6.trans fu_19
          have F_23 := F_7.trans fu_19
          have yu_19 : (r_21 = 1 → kp (S2.1 189 3 + 1) = 4 ∧ u_19.1 189 3 = S2.1 189 3 + 1 + 1 ∧ S2.1 189 3 + 1 + 1 < T) ∧ (r_21 = 0 → ¬ (kp (S2.1 189 3 + 1) = 4) ∧ u_19.1 189 3 = S2.1 189 3 + 1) := by have h1 := (show _ → _ from xu_19.2.2.1); have h2 := (show _ → _ from xu_19.2.2.2); rw [show u_3.1 189 3 = S2.1 189 3 + 1 by omega] at h1 h2; exact ⟨h1, h2⟩
          have yau_19 := yu_19.1; have ybu_19 := yu_19.2; clear yu_19
          have pr_24 := PR.trans pr_8 xu_19.2.1
          refine r_if_eq (tgt := 33) hx hb ⟨(by omega), (by omega)⟩ dX4_passPairs_22 (by decide) (fun c_25 => ?_) (fun c_25 => ?_)
          · refine lv_iconst (v := iv 0) hx hb dX4_passPairs_33 (by decide) ?_
            have q_26 : 0 ≤ u_19.1 189 3 ∧ u_19.1 189 3 ≤ 1000000000 := iu_19.fi 189 3 4 (by decide) rfl
            exact sZret Cx hr hlk hW hL (by omega) ⟨iu_19, F_22, ⟨(by omega), pr_24, (fun q => absurd q (by omega)), (fun _ => (by rw [← (show _ = gPr kp 30001 (S.1 189 3) from hG), (show (30001 - i).toNat = (30000 - i).toNat + 1 by omega)]; exact gPr_no (by omega) (by omega)))⟩⟩ dX4_passPairs_34
          · refine lv_aload_n hx hb dX4_passPairs_25 rfl (lv_at hl 1 rfl) ?_
            refine lv_iconst (v := iv 2) hx hb dX4_passPairs_26 (by decide) ?_
            have q_27 : 0 ≤ u_19.1 189 3 ∧ u_19.1 189 3 ≤ 1000000000 := iu_19.fi 189 3 4 (by decide) rfl
            refine sBi (sV (As := [.int (iv 2)]) (rest := []) (k := 189) Cx (b_X4_pass l G u_19 (kd := 2) (T := T) (kp := kp) (vp := vp) iu_19 (by omega) (rt_pr pr_24 hrt) pr_24.2.2 (PT.pr hPT pr_24 ((F_22 1 rfl).1 1)) hKS (by omega)) (c_X4_122 Cx rfl rfl (rmk_ok (by omega) (by decide))) hW (by decide) rfl rfl rfl hl.1 rfl (Nat.le_of_ble_eq_true rfl) dX4_passPairs_27 ⟨Nat.le_of_ble_eq_true rfl, Nat.le_of_ble_eq_true rfl⟩) hL (fun r_30 u_28 H locs k_29 hW hL => ?_)
            obtain ⟨iu_28, fu_28, xu_28⟩ := k_29
            have F_31 := F_22.trans fu_28
            have F_32 := F_23.trans fu_28
            have yu_28 : (r_30 = 1 → kp (S2.1 189 3 + 2) = 2 ∧ u_28.1 189 3 = S2.1 189 3 + 2 + 1 ∧ S2.1 189 3 + 2 + 1 < T) ∧ (r_30 = 0 → ¬ (kp (S2.1 189 3 + 2) = 2) ∧ u_28.1 189 3 = S2.1 189 3 + 2) := by have h1 := (show _ → _ from xu_28.2.2.1); have h2 := (show _ → _ from xu_28.2.2.2); rw [show u_19.1 189 3 = S2.1 189 3 + 2 by omega] at h1 h2; exact ⟨h1, h2⟩
            have yau_28 := yu_28.1; have ybu_28 := yu_28.2; clear yu_28
            have pr_33 := PR.trans pr_24 xu_28.2.1
            refine r_if_ne (tgt := 35) hx hb ⟨(by omega), (by omega)⟩ dX4_passPairs_30 (by decide) (fun c_34 => ?_) (fun c_34 => ?_)
            · refine lv_iinc (v := iv (i + 1)) (lv' := [(1, .int (iv (i + 1))), (0, .ref (G.2.2.1 + 189))]) hx hb dX4_passPairs_35 hl (k := 0) rfl ((Int32.ofInt_add _ _).symm) (by decide) rfl (fun ls hl => ?_)
              refine lv_goto (tgt := 2) hx hb dX4_passPairs_38 (by decide) ?_
              have q_35 : 0 ≤ u_28.1 189 3 ∧ u_28.1 189 3 ≤ 1000000000 := iu_28.fi 189 3 4 (by decide) rfl
              exact ih_2 u_28 (i + 1) _ _ _ (by omega) iu_28 F_31 F_32 (by omega) (by omega) (show _ = _ by rw [← (show _ = gPr kp 30001 (S.1 189 3) from hG), show (30001 - i).toNat = (30001 - (i + 1)).toNat + 1 by omega, gPr_go (by omega) (by omega) (by omega), show u_28.1 189 3 = S2.1 189 3 + 3 by omega]) pr_33 hW hL (lv_sub hl [0, 1] rfl)
            · refine lv_iconst (v := iv 0) hx hb dX4_passPairs_33 (by decide) ?_
              have q_36 : 0 ≤ u_28.1 189 3 ∧ u_28.1 189 3 ≤ 1000000000 := iu_28.fi 189 3 4 (by decide) rfl
              exact sZret Cx hr hlk hW hL (by omega) ⟨iu_28, F_31, ⟨(by omega), pr_33, (fun q => absurd q (by omega)), (fun _ => (by rw [← (show _ = gPr kp 30001 (S.1 189 3) from hG), (show (30001 - i).toNat = (30000 - i).toNat + 1 by omega)]; exact gPr_no (by omega) (by omega)))⟩⟩ dX4_passPairs_34
  have q_37 : 0 ≤ S.1 189 3 ∧ S.1 189 3 ≤ 1000000000 := hI.fi 189 3 4 (by decide) rfl
  exact loop_2 (_ + 1) S 0 _ _ _ (Nat.lt_succ_self _) hI (Fr.rf : Fr S S (p1 189)) Fr.rf (by omega) (by omega) (show _ = _ from rfl) pr_0 hW hL (lv_sub hl [0, 1] rfl)
