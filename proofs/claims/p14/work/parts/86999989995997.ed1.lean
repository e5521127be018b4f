/-! The reference's leaves -/
noncomputable def mlo (d : dT) (i v : Int) : Int := cif (pOf d v ≠ 0) (d.2.1 i (pOf d v)) 0
noncomputable def mlj (d : dT) (i v : Int) (j : Nat) : Int := cif (pick (fun t => d.2.2.2.1 t = v) (fun _ _ => False) j ≠ 0) (d.2.1 i (pick (fun t => d.2.2.2.1 t = v) (fun _ _ => False) j)) 0
theorem mlj_a {d : dT} {i v : Int} : mlj d i v d.2.2.2.2.2.toNat = mlo d i v := rfl
theorem mlj_0 {d : dT} {i v : Int} : mlj d i v ((1 : Int) - 1).toNat = 0 := cif_f (fun h => h rfl)
theorem mlj_y {d : dT} {i v n hw j : Int} (hx : dIx n hw d) (hj : 1 ≤ j ∧ j ≤ d.2.2.2.2.2) (e : d.2.2.2.1 j = v) : mlj d i v (j + 1 - 1).toNat = d.2.1 i j := by
  have p : pick (fun t => d.2.2.2.1 t = v) (fun _ _ => False) (j + 1 - 1).toNat = j := pick_f hj.1 (by omega) e (fun t a b q => by have := hx.2.2.2.1 t j a (by omega) hj.1 hj.2 (by rw [q, e]); omega)
  unfold mlj
  rw [p, cif_t (by omega)]
theorem mlj_n {d : dT} {i v j : Int} (hj : 1 ≤ j) (e : d.2.2.2.1 j ≠ v) : mlj d i v (j + 1 - 1).toNat = mlj d i v (j - 1).toNat := by
  have p : pick (fun t => d.2.2.2.1 t = v) (fun _ _ => False) (j + 1 - 1).toNat = pick (fun t => d.2.2.2.1 t = v) (fun _ _ => False) (j - 1).toNat := (pick_n hj rfl (fun q => e q.1)).symm
  unfold mlj
  rw [p]
theorem mlt_o {d : dT} {i v : Int} (h : ¬ (1 ≤ i ∧ d.2.2.1 i = v)) : mlt d i v = mlo d i v := by
  unfold mlt mlo
  by_cases q : pOf d v ≠ 0
  · rw [cif_t q, cif_t q]
  · rw [cif_f q, cif_f q, cif_f h]
theorem mlt_b {d : dT} {i v n hw : Int} (hx : dIx n hw d) (hi : 1 ≤ i ∧ i ≤ d.2.2.2.2.1) (hp : 0 ≤ d.2.2.2.2.2) (e : d.2.2.1 i = v) : mlt d i v = d.1 := by
  unfold mlt
  rw [cif_f (fun q => ?_), cif_t ⟨hi.1, e⟩]
  have z := pOf_i q hp
  exact hx.2.2.2.2 i _ hi.1 hi.2 z.1.1 z.1.2 (by rw [e, z.2])
theorem tkn_ne {L t : List Int} (h : L ≠ []) : L ++ [32] ++ t = tkn L t := by
  rw [tkn_e]
  unfold spT
  rw [if_neg (fun z => h (List.eq_nil_of_length_eq_zero z))]
theorem tkn_nn {L t : List Int} (h : t ≠ []) : tkn L t ≠ [] := by
  rw [tkn_e]
  intro z
  have := List.append_eq_nil_iff.mp z
  exact h this.2
theorem nmT_nn (v : Int) : nmT v ≠ [] := by
  unfold nmT
  by_cases q : v = 0
  · rw [if_pos q]; intro z; cases z
  · rw [if_neg q]
    by_cases y : v < 0
    · rw [if_pos y]; intro z; cases z
    · rw [if_neg y, dgz_s (by omega)]
      intro z
      have := List.append_eq_nil_iff.mp z
      cases this.2
theorem prT_nn {L : List Int} {k v : Int} (h : L ≠ []) : prT L k v ≠ [] := by
  unfold prT
  split
  · exact h
  · exact tkn_nn (nmT_nn v)
theorem psT_nn {f : Int → Int} {L : List Int} (h : L ≠ []) : ∀ k : Nat, psT f L k ≠ []
  | 0 => h
  | k + 1 => prT_nn (psT_nn h k)
set_option maxRecDepth 100000 in
set_option maxHeartbeats 4000000 in
theorem r_X12_isWholeGoal (l : Launch) (G : sG) (S : sS)  (hI : dX G S) (hM : MD S) (hwr : Hd (∀ i, 1 ≤ i → i ≤ S.1 231 46 → 0 ≤ S.2.1 259 i ∧ S.2.1 259 i ≤ 1)) : Met l yX12_isWholeGoal (.code yX12_isWholeGoal cX12_isWholeGoal 2 (some .boolean) :: tb) (rmk 1 0 0) (sPc G 294 S [.ref (G.2.2.1 + 231)]) (sQi G 294 (fun r u => u = S ∧ (0 ≤ r ∧ r ≤ 1 ∧ Hd (r = 1 ↔ ∀ i, 1 ≤ i → i ≤ S.1 231 46 → S.2.2.1 260 i ≠ 0 → S.2.1 259 i = 1)))) 0 0 (sF G) := by
  refine sEnter (by decide) (Nat.le_of_ble_eq_true rfl) ?_
  intro p e s m args below meth c Cx hr hlk hnm hW ls hl
  have Cx : sC G p m c cX12_isWholeGoal 2 s args RX12 := Cx
  obtain ⟨hx, hb, hml, hown, hts⟩ := id Cx.1
  have hL : sL G [] := sL_nil
  have hl : lv_has ls 2 [(0, .ref (G.2.2.1 + 231))] := hl
  have hW0 := hW
  have hm1 : (0 ≤ S.1 231 46 ∧ S.1 231 46 ≤ 12) ∧ (0 ≤ S.1 231 47 ∧ S.1 231 47 ≤ 16) ∧ 0 ≤ S.1 231 63 ∧ S.1 231 63 ≤ 40 := hM
  refine lv_iconst (v := iv 1) hx hb dX12_isWholeGoal_0 (by decide) ?_
  refine lv_istore_n (lv' := [(1, .int (iv 1)), (0, .ref (G.2.2.1 + 231))]) hx hb dX12_isWholeGoal_1 rfl hl (by decide) rfl (fun ls hl => ?_)
  have loop_2 : ∀ (fuel : Nat) (j : Int) (H : Heap) (locs : List Loc) (ls : Array Slot), (13 - j).toNat < fuel → (1 ≤ j ∧ j ≤ 13) → (j ≤ S.1 231 46 + 1) → (Hd (∀ i, 1 ≤ i → i < j → S.2.2.1 260 i ≠ 0 → S.2.1 259 i = 1)) → sW G 294 S H → sL G locs → lv_has ls 2 [(1, .int (iv j)), (0, .ref (G.2.2.1 + 231))] → W p l e (rmk 1 0 0) s m args below meth c H locs 0 0 (MQ below (sQi G 294 (fun r u => u = S ∧ (0 ≤ r ∧ r ≤ 1 ∧ Hd (r = 1 ↔ ∀ i, 1 ≤ i → i ≤ S.1 231 46 → S.2.2.1 260 i ≠ 0 → S.2.1 259 i = 1)))) args s 0 0 (sF G)) (F0 m 2 ls []) := by
    intro fuel
    induction fuel with
    | zero => intro j H locs ls hmeas hj hjn hg hW hL hl; exact absurd hmeas (Nat.not_lt_zero _)
    | succ fuel ih_2 =>
      intro j H locs ls hmeas hj hjn hg hW hL hl
      refine lv_iload_n hx hb dX12_isWholeGoal_2 rfl (lv_at hl 0 rfl) ?_
      refine lv_aload_n hx hb dX12_isWholeGoal_3 rfl (lv_at hl 1 rfl) ?_
      have q_1 : (-2147483648) ≤ S.1 231 46 ∧ S.1 231 46 ≤ 2147483647 := hI.fi 46
      refine g_X12_465 Cx hW (k := 231) (by decide) rfl (v := S.1 231 46) rfl dX12_isWholeGoal_4 ?_
      refine r_icmp_gt (tgt := 38) hx hb ⟨(by omega), (by omega)⟩ ⟨(by omega), (by omega)⟩ dX12_isWholeGoal_7 (by decide) (fun c_2 => ?_) (fun c_2 => ?_)
      · refine lv_iconst (v := iv 1) hx hb dX12_isWholeGoal_38 (by decide) ?_
        exact sZret Cx hr hlk hW hL (by omega) ⟨rfl, ⟨by omega, by omega, (show _ ↔ _ from ⟨fun _ i a b => hg i a (by omega), fun _ => rfl⟩)⟩⟩ dX12_isWholeGoal_39
      · refine lv_aload_n hx hb dX12_isWholeGoal_10 rfl (lv_at hl 1 rfl) ?_
        refine g_X12_97 Cx hW (k := 231) (by decide) rfl (v := .ref (G.2.2.1 + 260)) (rd_51 hI) dX12_isWholeGoal_11 ?_
        refine lv_iload_n hx hb dX12_isWholeGoal_14 rfl (lv_at hl 0 rfl) ?_
        refine rLald Cx hW (k := 260) (by decide) rfl (by decide) (by omega) (by omega) dX12_isWholeGoal_15 ?_
        have q_3 : -9223372036854775808 ≤ S.2.2.1 260 j ∧ S.2.2.1 260 j ≤ 9223372036854775807 := hI.li 260 j
        refine r_j (b := S.2.2.1 260 j) rfl ?_
        refine lv_lconst (v := jv 0) hx hb dX12_isWholeGoal_16 (by decide) ?_
        refine r_lcmp hx hb ⟨(by omega), (by omega)⟩ ⟨(by omega), (by omega)⟩ dX12_isWholeGoal_17 (fun z_4 az_4 bz_4 cz_4 => ?_)
        refine r_if_eq (tgt := 32) hx hb ⟨(by omega), (by omega)⟩ dX12_isWholeGoal_18 (by decide) (fun c_5 => ?_) (fun c_5 => ?_)
        · refine lv_iinc (v := iv (j + 1)) (lv' := [(1, .int (iv (j + 1))), (0, .ref (G.2.2.1 + 231))]) hx hb dX12_isWholeGoal_32 hl (k := 0) rfl ((Int32.ofInt_add _ _).symm) (by decide) rfl (fun ls hl => ?_)
          refine lv_goto (tgt := 2) hx hb dX12_isWholeGoal_35 (by decide) ?_
          exact ih_2 (j + 1) _ _ _ (by omega) (by omega) (by omega) (fun i a b z => by by_cases e : i = j; (rw [e] at z ⊢; omega); exact hg i a (by omega) z) hW hL (lv_sub hl [0, 1] rfl)
        · have hwj := hwr j (by omega) (by omega)
          refine lv_aload_n hx hb dX12_isWholeGoal_21 rfl (lv_at hl 1 rfl) ?_
          refine g_X12_94 Cx hW (k := 231) (by decide) rfl (v := .ref (G.2.2.1 + 259)) (rd_50 hI) dX12_isWholeGoal_22 ?_
          refine lv_iload_n hx hb dX12_isWholeGoal_25 rfl (lv_at hl 0 rfl) ?_
          refine rZald Cx hW (k := 259) (by decide) rfl (by decide) (by omega) (by omega) dX12_isWholeGoal_26 ?_
          have q_6 : 0 ≤ S.2.1 259 j ∧ S.2.1 259 j ≤ 1 := hI.ai 259 j
          refine r_i (b := S.2.1 259 j) rfl ?_
          refine r_if_ne (tgt := 32) hx hb ⟨(by omega), (by omega)⟩ dX12_isWholeGoal_27 (by decide) (fun c_7 => ?_) (fun c_7 => ?_)
          · refine lv_iinc (v := iv (j + 1)) (lv' := [(1, .int (iv (j + 1))), (0, .ref (G.2.2.1 + 231))]) hx hb dX12_isWholeGoal_32 hl (k := 0) rfl ((Int32.ofInt_add _ _).symm) (by decide) rfl (fun ls hl => ?_)
            refine lv_goto (tgt := 2) hx hb dX12_isWholeGoal_35 (by decide) ?_
            exact ih_2 (j + 1) _ _ _ (by omega) (by omega) (by omega) (fun i a b z => by by_cases e : i = j; (rw [e] at z ⊢; omega); exact hg i a (by omega) z) hW hL (lv_sub hl [0, 1] rfl)
          · refine lv_iconst (v := iv 0) hx hb dX12_isWholeGoal_30 (by decide) ?_
            exact sZret Cx hr hlk hW hL (by omega) ⟨rfl, ⟨by omega, by omega, (show _ ↔ _ from ⟨fun z => absurd z (by omega), fun z => by have e := z j (by omega) (by omega) (by omega); exfalso; omega⟩)⟩⟩ dX12_isWholeGoal_31
  exact loop_2 (_ + 1) 1 _ _ _ (Nat.lt_succ_self _) (by omega) (by omega) (fun i a b => absurd b (by omega)) hW hL (lv_sub hl [0, 1] rfl)

set_option maxRecDepth 100000 in
set_option maxHeartbeats 4000000 in
theorem r_X12_isNoBetter (l : Launch) (G : sG) (S : sS)  (hI : dX G S) (hM : MD S) (hD : DOK S) (hBS : BS S) (hwr : Hd (∀ i, 1 ≤ i → i ≤ S.1 231 46 → 0 ≤ S.2.1 259 i ∧ S.2.1 259 i ≤ 1)) : Met l yX12_isNoBetter (.code yX12_isNoBetter cX12_isNoBetter 1 (some .boolean) :: tb) (rmk 6 0 0) (sPc G 294 S [.ref (G.2.2.1 + 231)]) (sQi G 294 (fun r u => dX G u ∧ Fr S u (pl [233, 234, 235, 237, 238, 240]) ∧ FF S u (fl []) ∧ (0 ≤ r ∧ r ≤ 1 ∧ Hd (r = 1 ↔ ((∀ i, 1 ≤ i → i ≤ S.1 231 46 → S.2.2.1 260 i ≠ 0 → S.2.1 259 i = 1) → nv (S.2.1 262) 0 / nv (S.2.1 264) 0 * nv (S.2.1 273) 0 ≤ nv (S.2.1 272) 0) ∧ (¬ (∀ i, 1 ≤ i → i ≤ S.1 231 46 → S.2.2.1 260 i ≠ 0 → S.2.1 259 i = 1) → nv (S.2.1 262) 0 * nv (S.2.1 273) 0 ≤ nv (S.2.1 272) 0 * nv (S.2.1 264) 0))))) 0 0 (sF G) := by
  refine sEnter (by decide) (Nat.le_of_ble_eq_true rfl) ?_
  intro p e s m args below meth c Cx hr hlk hnm hW ls hl
  have Cx : sC G p m c cX12_isNoBetter 1 s args RX12 := Cx
  obtain ⟨hx, hb, hml, hown, hts⟩ := id Cx.1
  have hL : sL G [] := sL_nil
  have hl : lv_has ls 1 [(0, .ref (G.2.2.1 + 231))] := hl
  have hW0 := hW
  have hd1 := hD.1
  have hds := hD.2.2.1.sgn
  have hdp := hD.2.2.2
  have hN00 := hD.at (i := 0) (j := 0) (p := 0) (by omega) (by omega) (by omega) rfl
  refine lv_aload_n hx hb dX12_isNoBetter_0 rfl (lv_at hl 0 rfl) ?_
  have q_1 : (-2147483648) ≤ S.1 231 46 ∧ S.1 231 46 ≤ 2147483647 := hI.fi 46
  refine sBi (sV (As := []) (rest := []) (k := 231) Cx (r_X12_isWholeGoal l G S  hI hM hwr) (c_X12_628 Cx rfl rfl (rmk_ok (by omega) (by decide))) hW (by decide) rfl rfl rfl hl.1 rfl (Nat.le_of_ble_eq_true rfl) dX12_isNoBetter_1 ⟨Nat.le_of_ble_eq_true rfl, Nat.le_of_ble_eq_true rfl⟩) hL (fun r_4 u_2 H locs k_3 hW hL => ?_)
  obtain ⟨eu_2, xu_2⟩ := k_3
  rw [eu_2] at hW
  refine r_if_eq (tgt := 71) hx hb ⟨(by omega), (by omega)⟩ dX12_isNoBetter_4 (by decide) (fun c_5 => ?_) (fun c_5 => ?_)
  · refine lv_aload_n hx hb dX12_isNoBetter_71 rfl (lv_at hl 0 rfl) ?_
    refine g_X12_103 Cx hW (k := 231) (by decide) rfl (v := .ref (G.2.2.1 + 262)) (rd_53 hI) dX12_isNoBetter_72 ?_
    refine lv_iconst (v := iv 0) hx hb dX12_isNoBetter_75 (by decide) ?_
    refine lv_aload_n hx hb dX12_isNoBetter_76 rfl (lv_at hl 0 rfl) ?_
    refine g_X12_137 Cx hW (k := 231) (by decide) rfl (v := .ref (G.2.2.1 + 273)) (rd_81 hI) dX12_isNoBetter_77 ?_
    refine lv_iconst (v := iv 0) hx hb dX12_isNoBetter_80 (by decide) ?_
    refine lv_aload_n hx hb dX12_isNoBetter_81 rfl (lv_at hl 0 rfl) ?_
    refine g_X12_26 Cx hW (k := 231) (by decide) rfl (v := .ref (G.2.2.1 + 237)) (rd_7 hI) dX12_isNoBetter_82 ?_
    refine lv_iconst (v := iv 0) hx hb dX12_isNoBetter_85 (by decide) ?_
    refine sBv (sSt (As := [.ref (G.2.2.1 + 262), .int (iv 0), .ref (G.2.2.1 + 273), .int (iv 0), .ref (G.2.2.1 + 237), .int (iv 0)]) (rest := []) Cx (s_X12_multiply l G S (ka := 262) (po := 0) (kb := 273) (qo := 0) (kc := 237) (ro := 0) (Nka := 5280) (Nkb := 8) (Nkc := 68) (La := 6) (Lb := 6) hI ⟨rfl, by decide, by decide, by decide, rfl⟩ ⟨rfl, by decide, by decide, by decide, rfl⟩ ⟨rfl, by decide, by decide, by decide, rfl⟩ (show (237 : Nat) ≠ 273 by decide) (show (237 : Nat) ≠ 262 by decide) (by omega) hN00 hBS.2.1) (c_X12_548 Cx rfl rfl (rmk_ok (by omega) (by decide))) hW rfl hl.1 rfl (Nat.le_of_ble_eq_true rfl) dX12_isNoBetter_86 ⟨Nat.le_of_ble_eq_true rfl, Nat.le_of_ble_eq_true rfl⟩) hL (fun u_6 H locs k_7 hW hL => ?_)
    obtain ⟨iu_6, fu_6, xu_6⟩ := k_7
    have F_8 := (Fr.rf : Fr S S (pl [233, 234, 235, 237, 238, 240])).trans (fu_6.to (p1_sub rfl))
    have g_9 : FF S u_6 (fl []) := FF.fr FF.rf fu_6 rfl
    refine lv_aload_n hx hb dX12_isNoBetter_89 rfl (lv_at hl 0 rfl) ?_
    refine g_X12_134 Cx hW (k := 231) (by decide) rfl (v := .ref (G.2.2.1 + 272)) (rd_80 iu_6) dX12_isNoBetter_90 ?_
    refine lv_iconst (v := iv 0) hx hb dX12_isNoBetter_93 (by decide) ?_
    refine lv_aload_n hx hb dX12_isNoBetter_94 rfl (lv_at hl 0 rfl) ?_
    refine g_X12_109 Cx hW (k := 231) (by decide) rfl (v := .ref (G.2.2.1 + 264)) (rd_55 iu_6) dX12_isNoBetter_95 ?_
    refine lv_iconst (v := iv 0) hx hb dX12_isNoBetter_98 (by decide) ?_
    refine lv_aload_n hx hb dX12_isNoBetter_99 rfl (lv_at hl 0 rfl) ?_
    refine g_X12_29 Cx hW (k := 231) (by decide) rfl (v := .ref (G.2.2.1 + 238)) (rd_8 iu_6) dX12_isNoBetter_100 ?_
    refine lv_iconst (v := iv 0) hx hb dX12_isNoBetter_103 (by decide) ?_
    refine sBv (sSt (As := [.ref (G.2.2.1 + 272), .int (iv 0), .ref (G.2.2.1 + 264), .int (iv 0), .ref (G.2.2.1 + 238), .int (iv 0)]) (rest := []) Cx (s_X12_multiply l G u_6 (ka := 272) (po := 0) (kb := 264) (qo := 0) (kc := 238) (ro := 0) (Nka := 8) (Nkb := 8) (Nkc := 68) (La := 6) (Lb := 6) iu_6 ⟨rfl, by decide, by decide, by decide, rfl⟩ ⟨rfl, by decide, by decide, by decide, rfl⟩ ⟨rfl, by decide, by decide, by decide, rfl⟩ (show (238 : Nat) ≠ 264 by decide) (show (238 : Nat) ≠ 272 by decide) (by omega) (by rw [show u_6.2.1 272 = S.2.1 272 from (funext fun j => (fu_6 272 rfl).2.1 j : u_6.2.1 272 = S.2.1 272)]; exact hBS.1) (by rw [show u_6.2.1 264 = S.2.1 264 from (funext fun j => (fu_6 264 rfl).2.1 j : u_6.2.1 264 = S.2.1 264)]; exact hD.2.2.1)) (c_X12_548 Cx rfl rfl (rmk_ok (by omega) (by decide))) hW rfl hl.1 rfl (Nat.le_of_ble_eq_true rfl) dX12_isNoBetter_104 ⟨Nat.le_of_ble_eq_true rfl, Nat.le_of_ble_eq_true rfl⟩) hL (fun u_10 H locs k_11 hW hL => ?_)
    obtain ⟨iu_10, fu_10, xu_10⟩ := k_11
    have F_12 := F_8.trans (fu_10.to (p1_sub rfl))
    have g_13 : FF S u_10 (fl []) := FF.fr g_9 fu_10 rfl
    refine lv_aload_n hx hb dX12_isNoBetter_107 rfl (lv_at hl 0 rfl) ?_
    refine g_X12_26 Cx hW (k := 231) (by decide) rfl (v := .ref (G.2.2.1 + 237)) (rd_7 iu_10) dX12_isNoBetter_108 ?_
    refine lv_iconst (v := iv 0) hx hb dX12_isNoBetter_111 (by decide) ?_
    refine lv_aload_n hx hb dX12_isNoBetter_112 rfl (lv_at hl 0 rfl) ?_
    refine g_X12_29 Cx hW (k := 231) (by decide) rfl (v := .ref (G.2.2.1 + 238)) (rd_8 iu_10) dX12_isNoBetter_113 ?_
    refine lv_iconst (v := iv 0) hx hb dX12_isNoBetter_116 (by decide) ?_
    refine sBi (sSt (As := [.ref (G.2.2.1 + 237), .int (iv 0), .ref (G.2.2.1 + 238), .int (iv 0)]) (rest := []) Cx (s_X12_compare l G u_10 (ka := 237) (po := 0) (kb := 238) (qo := 0) (Nka := 68) (Nkb := 68) (La := 12) (Lb := 12) iu_10 ⟨rfl, by decide, by decide, by decide, rfl⟩ ⟨rfl, by decide, by decide, by decide, rfl⟩ (by omega) (by rw [show u_10.2.1 237 = u_6.2.1 237 from (funext fun j => (fu_10 237 rfl).2.1 j : u_10.2.1 237 = u_6.2.1 237)]; exact xu_6.1) xu_10.1) (c_X12_552 Cx rfl rfl (rmk_ok (by omega) (by decide))) hW rfl hl.1 rfl (Nat.le_of_ble_eq_true rfl) dX12_isNoBetter_117 ⟨Nat.le_of_ble_eq_true rfl, Nat.le_of_ble_eq_true rfl⟩) hL (fun r_16 u_14 H locs k_15 hW hL => ?_)
    obtain ⟨eu_14, xu_14⟩ := k_15
    rw [eu_14] at hW
    have yu_14 := xu_14.2
    unfold Hd at yu_14
    refine r_if_gt (tgt := 127) hx hb ⟨(by omega), (by omega)⟩ dX12_isNoBetter_120 (by decide) (fun c_17 => ?_) (fun c_17 => ?_)
    · refine lv_iconst (v := iv 0) hx hb dX12_isNoBetter_127 (by decide) ?_
      exact sZret Cx hr hlk hW hL (by omega) ⟨iu_10, F_12, g_13, (by have ng : ¬ (∀ i, 1 ≤ i → i ≤ S.1 231 46 → S.2.2.1 260 i ≠ 0 → S.2.1 259 i = 1) := fun z => absurd ((xu_2.2.2).mpr z) (by omega); have y := xu_14.2; have e1 : nv (u_10.2.1 237) 0 = nv (S.2.1 262) 0 * nv (S.2.1 273) 0 := (by rw [show u_10.2.1 237 = u_6.2.1 237 from (funext fun j => (fu_10 237 rfl).2.1 j : u_10.2.1 237 = u_6.2.1 237), xu_6.2.1]); have e2 : nv (u_10.2.1 238) 0 = nv (S.2.1 272) 0 * nv (S.2.1 264) 0 := (by rw [xu_10.2.1, show u_6.2.1 272 = S.2.1 272 from (funext fun j => (fu_6 272 rfl).2.1 j : u_6.2.1 272 = S.2.1 272), show u_6.2.1 264 = S.2.1 264 from (funext fun j => (fu_6 264 rfl).2.1 j : u_6.2.1 264 = S.2.1 264)]); rw [e1, e2] at y; have y1 := y.1; have y2 := y.2.1; have y3 := y.2.2; refine ⟨by omega, by omega, (show _ ↔ _ from ⟨fun z => ⟨fun z2 => absurd z2 ng, fun _ => by omega⟩, fun z => by have z1 := z.2 ng; omega⟩)⟩)⟩ dX12_isNoBetter_128
    · refine lv_iconst (v := iv 1) hx hb dX12_isNoBetter_123 (by decide) ?_
      refine lv_goto (tgt := 128) hx hb dX12_isNoBetter_124 (by decide) ?_
      exact sZret Cx hr hlk hW hL (by omega) ⟨iu_10, F_12, g_13, (by have ng : ¬ (∀ i, 1 ≤ i → i ≤ S.1 231 46 → S.2.2.1 260 i ≠ 0 → S.2.1 259 i = 1) := fun z => absurd ((xu_2.2.2).mpr z) (by omega); have y := xu_14.2; have e1 : nv (u_10.2.1 237) 0 = nv (S.2.1 262) 0 * nv (S.2.1 273) 0 := (by rw [show u_10.2.1 237 = u_6.2.1 237 from (funext fun j => (fu_10 237 rfl).2.1 j : u_10.2.1 237 = u_6.2.1 237), xu_6.2.1]); have e2 : nv (u_10.2.1 238) 0 = nv (S.2.1 272) 0 * nv (S.2.1 264) 0 := (by rw [xu_10.2.1, show u_6.2.1 272 = S.2.1 272 from (funext fun j => (fu_6 272 rfl).2.1 j : u_6.2.1 272 = S.2.1 272), show u_6.2.1 264 = S.2.1 264 from (funext fun j => (fu_6 264 rfl).2.1 j : u_6.2.1 264 = S.2.1 264)]); rw [e1, e2] at y; have y1 := y.1; have y2 := y.2.1; have y3 := y.2.2; refine ⟨by omega, by omega, (show _ ↔ _ from ⟨fun z => ⟨fun z2 => absurd z2 ng, fun _ => by omega⟩, fun z => by have z1 := z.2 ng; omega⟩)⟩)⟩ dX12_isNoBetter_128
  · refine lv_aload_n hx hb dX12_isNoBetter_7 rfl (lv_at hl 0 rfl) ?_
    refine lv_aload_n hx hb dX12_isNoBetter_8 rfl (lv_at hl 0 rfl) ?_
    refine g_X12_103 Cx hW (k := 231) (by decide) rfl (v := .ref (G.2.2.1 + 262)) (rd_53 hI) dX12_isNoBetter_9 ?_
    refine lv_iconst (v := iv 0) hx hb dX12_isNoBetter_12 (by decide) ?_
    refine lv_aload_n hx hb dX12_isNoBetter_13 rfl (lv_at hl 0 rfl) ?_
    refine g_X12_109 Cx hW (k := 231) (by decide) rfl (v := .ref (G.2.2.1 + 264)) (rd_55 hI) dX12_isNoBetter_14 ?_
    refine lv_iconst (v := iv 0) hx hb dX12_isNoBetter_17 (by decide) ?_
    refine lv_aload_n hx hb dX12_isNoBetter_18 rfl (lv_at hl 0 rfl) ?_
    refine g_X12_26 Cx hW (k := 231) (by decide) rfl (v := .ref (G.2.2.1 + 237)) (rd_7 hI) dX12_isNoBetter_19 ?_
    refine lv_iconst (v := iv 0) hx hb dX12_isNoBetter_22 (by decide) ?_
    refine lv_aload_n hx hb dX12_isNoBetter_23 rfl (lv_at hl 0 rfl) ?_
    refine g_X12_35 Cx hW (k := 231) (by decide) rfl (v := .ref (G.2.2.1 + 240)) (rd_10 hI) dX12_isNoBetter_24 ?_
    refine lv_iconst (v := iv 0) hx hb dX12_isNoBetter_27 (by decide) ?_
    refine sBv (sV (As := [.ref (G.2.2.1 + 262), .int (iv 0), .ref (G.2.2.1 + 264), .int (iv 0), .ref (G.2.2.1 + 237), .int (iv 0), .ref (G.2.2.1 + 240), .int (iv 0)]) (rest := []) (k := 231) Cx (s_X12_divide l G S (ka := 262) (po := 0) (kb := 264) (qo := 0) (kc := 237) (ro := 0) (kd := 240) (eo := 0) (Nka := 5280) (Nkb := 8) (Nkc := 68) (Nkd := 68) (La := 6) (Lb := 6) (Ld := 7) hI ⟨rfl, by decide, by decide, by decide, rfl⟩ ⟨rfl, by decide, by decide, by decide, rfl⟩ ⟨rfl, by decide, by decide, by decide, rfl⟩ ⟨rfl, by decide, by decide, by decide, rfl⟩ (show (237 : Nat) ≠ 262 by decide) (show (240 : Nat) ≠ 262 by decide) (show (237 : Nat) ≠ 264 by decide) (show (240 : Nat) ≠ 264 by decide) (show (237 : Nat) ≠ 240 by decide) (show (262 : Nat) ≠ 233 by decide) (show (264 : Nat) ≠ 233 by decide) (show (264 : Nat) ≠ 234 by decide) (show (264 : Nat) ≠ 235 by decide) (show (237 : Nat) ≠ 233 by decide) (show (237 : Nat) ≠ 234 by decide) (show (237 : Nat) ≠ 235 by decide) (show (240 : Nat) ≠ 233 by decide) (show (240 : Nat) ≠ 234 by decide) (show (240 : Nat) ≠ 235 by decide) (by omega) (by omega) hN00 hD.2.2.1) (c_X12_266 Cx rfl rfl (rmk_ok (by omega) (by decide))) hW (by decide) rfl rfl rfl hl.1 rfl (Nat.le_of_ble_eq_true rfl) dX12_isNoBetter_28 ⟨Nat.le_of_ble_eq_true rfl, Nat.le_of_ble_eq_true rfl⟩) hL (fun u_18 H locs k_19 hW hL => ?_)
    obtain ⟨iu_18, fu_18, xu_18⟩ := k_19
    have F_20 := (Fr.rf : Fr S S (pl [233, 234, 235, 237, 238, 240])).trans (fu_18.to (pl_sub (by decide)))
    have g_21 : FF S u_18 (fl []) := FF.fr FF.rf fu_18 rfl
    refine lv_aload_n hx hb dX12_isNoBetter_31 rfl (lv_at hl 0 rfl) ?_
    refine g_X12_26 Cx hW (k := 231) (by decide) rfl (v := .ref (G.2.2.1 + 237)) (rd_7 iu_18) dX12_isNoBetter_32 ?_
    refine lv_iconst (v := iv 0) hx hb dX12_isNoBetter_35 (by decide) ?_
    refine lv_aload_n hx hb dX12_isNoBetter_36 rfl (lv_at hl 0 rfl) ?_
    refine g_X12_137 Cx hW (k := 231) (by decide) rfl (v := .ref (G.2.2.1 + 273)) (rd_81 iu_18) dX12_isNoBetter_37 ?_
    refine lv_iconst (v := iv 0) hx hb dX12_isNoBetter_40 (by decide) ?_
    refine lv_aload_n hx hb dX12_isNoBetter_41 rfl (lv_at hl 0 rfl) ?_
    refine g_X12_29 Cx hW (k := 231) (by decide) rfl (v := .ref (G.2.2.1 + 238)) (rd_8 iu_18) dX12_isNoBetter_42 ?_
    refine lv_iconst (v := iv 0) hx hb dX12_isNoBetter_45 (by decide) ?_
    refine sBv (sSt (As := [.ref (G.2.2.1 + 237), .int (iv 0), .ref (G.2.2.1 + 273), .int (iv 0), .ref (G.2.2.1 + 238), .int (iv 0)]) (rest := []) Cx (s_X12_multiply l G u_18 (ka := 237) (po := 0) (kb := 273) (qo := 0) (kc := 238) (ro := 0) (Nka := 68) (Nkb := 8) (Nkc := 68) (La := 7) (Lb := 6) iu_18 ⟨rfl, by decide, by decide, by decide, rfl⟩ ⟨rfl, by decide, by decide, by decide, rfl⟩ ⟨rfl, by decide, by decide, by decide, rfl⟩ (show (238 : Nat) ≠ 273 by decide) (show (238 : Nat) ≠ 237 by decide) (by omega) xu_18.1 (by rw [show u_18.2.1 273 = S.2.1 273 from (funext fun j => (fu_18 273 rfl).2.1 j : u_18.2.1 273 = S.2.1 273)]; exact hBS.2.1)) (c_X12_548 Cx rfl rfl (rmk_ok (by omega) (by decide))) hW rfl hl.1 rfl (Nat.le_of_ble_eq_true rfl) dX12_isNoBetter_46 ⟨Nat.le_of_ble_eq_true rfl, Nat.le_of_ble_eq_true rfl⟩) hL (fun u_22 H locs k_23 hW hL => ?_)
    obtain ⟨iu_22, fu_22, xu_22⟩ := k_23
    have F_24 := F_20.trans (fu_22.to (p1_sub rfl))
    have g_25 : FF S u_22 (fl []) := FF.fr g_21 fu_22 rfl
    refine lv_aload_n hx hb dX12_isNoBetter_49 rfl (lv_at hl 0 rfl) ?_
    refine g_X12_29 Cx hW (k := 231) (by decide) rfl (v := .ref (G.2.2.1 + 238)) (rd_8 iu_22) dX12_isNoBetter_50 ?_
    refine lv_iconst (v := iv 0) hx hb dX12_isNoBetter_53 (by decide) ?_
    refine lv_aload_n hx hb dX12_isNoBetter_54 rfl (lv_at hl 0 rfl) ?_
    refine g_X12_134 Cx hW (k := 231) (by decide) rfl (v := .ref (G.2.2.1 + 272)) (rd_80 iu_22) dX12_isNoBetter_55 ?_
    refine lv_iconst (v := iv 0) hx hb dX12_isNoBetter_58 (by decide) ?_
    refine sBi (sSt (As := [.ref (G.2.2.1 + 238), .int (iv 0), .ref (G.2.2.1 + 272), .int (iv 0)]) (rest := []) Cx (s_X12_compare l G u_22 (ka := 238) (po := 0) (kb := 272) (qo := 0) (Nka := 68) (Nkb := 8) (La := 13) (Lb := 6) iu_22 ⟨rfl, by decide, by decide, by decide, rfl⟩ ⟨rfl, by decide, by decide, by decide, rfl⟩ (by omega) xu_22.1 (by rw [show u_22.2.1 272 = S.2.1 272 from (funext fun j => ((fu_22 272 rfl).2.1 j).trans ((fu_18 272 rfl).2.1 j) : u_22.2.1 272 = S.2.1 272)]; exact hBS.1)) (c_X12_552 Cx rfl rfl (rmk_ok (by omega) (by decide))) hW rfl hl.1 rfl (Nat.le_of_ble_eq_true rfl) dX12_isNoBetter_59 ⟨Nat.le_of_ble_eq_true rfl, Nat.le_of_ble_eq_true rfl⟩) hL (fun r_28 u_26 H locs k_27 hW hL => ?_)
    obtain ⟨eu_26, xu_26⟩ := k_27
    rw [eu_26] at hW
    have yu_26 := xu_26.2
    unfold Hd at yu_26
    refine r_if_gt (tgt := 69) hx hb ⟨(by omega), (by omega)⟩ dX12_isNoBetter_62 (by decide) (fun c_29 => ?_) (fun c_29 => ?_)
    · refine lv_iconst (v := iv 0) hx hb dX12_isNoBetter_69 (by decide) ?_
      exact sZret Cx hr hlk hW hL (by omega) ⟨iu_22, F_24, g_25, (by have gw := (xu_2.2.2).mp (by omega); have y := xu_26.2; have ed := xu_18.2.2.1; have eq := (ediv_u (a := nv (S.2.1 262) 0) (b := nv (S.2.1 264) 0) (q := nv (u_18.2.1 237) 0) (r := nv (u_18.2.1 240) 0) (by rw [ed.1, Int.mul_comm]) ed.2.1 ed.2.2).1; have e1 : nv (u_22.2.1 238) 0 = nv (S.2.1 262) 0 / nv (S.2.1 264) 0 * nv (S.2.1 273) 0 := (by rw [xu_22.2.1, show u_18.2.1 273 = S.2.1 273 from (funext fun j => (fu_18 273 rfl).2.1 j : u_18.2.1 273 = S.2.1 273), eq]); have e2 : nv (u_22.2.1 272) 0 = nv (S.2.1 272) 0 := (by rw [show u_22.2.1 272 = S.2.1 272 from (funext fun j => ((fu_22 272 rfl).2.1 j).trans ((fu_18 272 rfl).2.1 j) : u_22.2.1 272 = S.2.1 272)]); rw [e1, e2] at y; have y1 := y.1; have y2 := y.2.1; have y3 := y.2.2; refine ⟨by omega, by omega, (show _ ↔ _ from ⟨fun z => ⟨fun _ => by omega, fun z2 => absurd gw z2⟩, fun z => by have z1 := z.1 gw; omega⟩)⟩)⟩ dX12_isNoBetter_70
    · refine lv_iconst (v := iv 1) hx hb dX12_isNoBetter_65 (by decide) ?_
      refine lv_goto (tgt := 70) hx hb dX12_isNoBetter_66 (by decide) ?_
      exact sZret Cx hr hlk hW hL (by omega) ⟨iu_22, F_24, g_25, (by have gw := (xu_2.2.2).mp (by omega); have y := xu_26.2; have ed := xu_18.2.2.1; have eq := (ediv_u (a := nv (S.2.1 262) 0) (b := nv (S.2.1 264) 0) (q := nv (u_18.2.1 237) 0) (r := nv (u_18.2.1 240) 0) (by rw [ed.1, Int.mul_comm]) ed.2.1 ed.2.2).1; have e1 : nv (u_22.2.1 238) 0 = nv (S.2.1 262) 0 / nv (S.2.1 264) 0 * nv (S.2.1 273) 0 := (by rw [xu_22.2.1, show u_18.2.1 273 = S.2.1 273 from (funext fun j => (fu_18 273 rfl).2.1 j : u_18.2.1 273 = S.2.1 273), eq]); have e2 : nv (u_22.2.1 272) 0 = nv (S.2.1 272) 0 := (by rw [show u_22.2.1 272 = S.2.1 272 from (funext fun j => ((fu_22 272 rfl).2.1 j).trans ((fu_18 272 rfl).2.1 j) : u_22.2.1 272 = S.2.1 272)]); rw [e1, e2] at y; have y1 := y.1; have y2 := y.2.1; have y3 := y.2.2; refine ⟨by omega, by omega, (show _ ↔ _ from ⟨fun z => ⟨fun _ => by omega, fun z2 => absurd gw z2⟩, fun z => by have z1 := z.1 gw; omega⟩)⟩)⟩ dX12_isNoBetter_70

set_option maxRecDepth 100000 in
set_option maxHeartbeats 4000000 in
theorem r_X12_multipliersOf (l : Launch) (G : sG) (S : sS) {ri ii n : Int} {hw : Int} {d : dT} (hI : dX G S) (hD : DOK S) (hM : MD S) (hBO : BO S) (hR : Hd (DRr S hw d)) (hxi : Hd (dIx n hw d)) (hri : (0 ≤ ri ∧ ri ≤ S.1 231 58 + 1) ∧ (ri = 1 → S.1 231 60 = 1)) (hri2 : ri = rI ii) (hii : (-1 ≤ ii ∧ ii ≤ d.2.2.2.2.1) ∧ (ii = -1 → hw = 1)) (hn46 : S.1 231 46 = n) : Met l yX12_multipliersOf (.code yX12_multipliersOf cX12_multipliersOf 3 none :: tb) (rmk 4 0 0) (sPc G 294 S [.ref (G.2.2.1 + 231), .int (iv ri)]) (sQv G 294 (fun u => dX G u ∧ Fr S u (pl [278]) ∧ FF S u (fl []) ∧ (MO u ∧ Hd (∀ k, 1 ≤ k → k ≤ 40 → nv (u.2.1 278) (8 * k) = mlo d ii (n + k))))) 0 0 (sF G) := by
  refine sEnter (by decide) (Nat.le_of_ble_eq_true rfl) ?_
  intro p e s m args below meth c Cx hr hlk hnm hW ls hl
  have Cx : sC G p m c cX12_multipliersOf 3 s args RX12 := Cx
  obtain ⟨hx, hb, hml, hown, hts⟩ := id Cx.1
  have hL : sL G [] := sL_nil
  have hl : lv_has ls 3 [(0, .ref (G.2.2.1 + 231)), (1, .int (iv ri))] := hl
  have hW0 := hW
  have hd1 := hD.1
  have hm1 : (0 ≤ S.1 231 46 ∧ S.1 231 46 ≤ 12) ∧ (0 ≤ S.1 231 47 ∧ S.1 231 47 ≤ 16) ∧ 0 ≤ S.1 231 63 ∧ S.1 231 63 ≤ 40 := hM
  have hr58 := hR.2.2.2.2.1; have hr59 := hR.2.2.2.2.2.1; have hr60 := hR.2.2.2.2.2.2
  refine lv_aload_n hx hb dX12_multipliersOf_0 rfl (lv_at hl 0 rfl) ?_
  refine sBv (sV (As := []) (rest := []) (k := 231) Cx (s_X12_clearMultipliers l G S  hI) (c_X12_600 Cx rfl rfl (rmk_ok (by omega) (by decide))) hW (by decide) rfl rfl rfl hl.1 rfl (Nat.le_of_ble_eq_true rfl) dX12_multipliersOf_1 ⟨Nat.le_of_ble_eq_true rfl, Nat.le_of_ble_eq_true rfl⟩) hL (fun u_1 H locs k_2 hW hL => ?_)
  obtain ⟨iu_1, fu_1, gu_1, xu_1⟩ := k_2
  have F_3 := (Fr.rf : Fr S S (pl [278])).trans fu_1
  have g_4 : FF S u_1 (fl []) := FF.trans FF.rf (FF.to gu_1 (fl_sub (by decide)))
  have hz0 : MO u_1 := fun k a b => NO_z (xu_1 k a b) (by omega)
  have hv0 : Hd (∀ k, 1 ≤ k → k ≤ 40 → nv (u_1.2.1 278) (8 * k) = mlj d ii (n + k) ((1 : Int) - 1).toNat) := fun k a b => by rw [nv_z (xu_1 k (by omega) b)]; exact mlj_0.symm
  refine lv_iconst (v := iv 1) hx hb dX12_multipliersOf_4 (by decide) ?_
  refine lv_istore_n (lv' := [(2, .int (iv 1)), (0, .ref (G.2.2.1 + 231)), (1, .int (iv ri))]) hx hb dX12_multipliersOf_5 rfl hl (by decide) rfl (fun ls hl => ?_)
  have loop_6 : ∀ (fuel : Nat) (S6 : sS) (j : Int) (H : Heap) (locs : List Loc) (ls : Array Slot), (14 - j).toNat < fuel → (dX G S6) → (Fr S S6 (pl [278])) → (Fr u_1 S6 (pl [278])) → (FF S S6 (fl [])) → (FF u_1 S6 (fl [])) → (1 ≤ j ∧ j ≤ 14) → (j ≤ d.2.2.2.2.2 + 1) → (MO S6) → (Hd (∀ k, 1 ≤ k → k ≤ 40 → nv (S6.2.1 278) (8 * k) = mlj d ii (n + k) ((j : Int) - 1).toNat)) → sW G 294 S6 H → sL G locs → lv_has ls 3 [(2, .int (iv j)), (0, .ref (G.2.2.1 + 231)), (1, .int (iv ri))] → W p l e (rmk 4 0 0) s m args below meth c H locs 0 0 (MQ below (sQv G 294 (fun u => dX G u ∧ Fr S u (pl [278]) ∧ FF S u (fl []) ∧ (MO u ∧ Hd (∀ k, 1 ≤ k → k ≤ 40 → nv (u.2.1 278) (8 * k) = mlo d ii (n + k))))) args s 0 0 (sF G)) (F0 m 6 ls []) := by
    intro fuel
    induction fuel with
    | zero => intro S6 j H locs ls hmeas hI6 hFm6 hL6_ hGm6 gL6_ hj hjp hz6 hv6 hW hL hl; exact absurd hmeas (Nat.not_lt_zero _)
    | succ fuel ih_6 =>
      intro S6 j H locs ls hmeas hI6 hFm6 hL6_ hGm6 gL6_ hj hjp hz6 hv6 hW hL hl
      refine lv_iload_n hx hb dX12_multipliersOf_6 rfl (lv_at hl 0 rfl) ?_
      refine lv_aload_n hx hb dX12_multipliersOf_7 rfl (lv_at hl 1 rfl) ?_
      have q_5 : (-2147483648) ≤ S.1 231 59 ∧ S.1 231 59 ≤ 2147483647 := hI.fi 59
      refine g_X12_526 Cx hW (k := 231) (by decide) rfl (v := S.1 231 59) ((gL6_ 59 rfl).trans (gu_1 59 rfl)) dX12_multipliersOf_8 ?_
      refine r_icmp_gt (tgt := 64) hx hb ⟨(by omega), (by omega)⟩ ⟨(by omega), (by omega)⟩ dX12_multipliersOf_11 (by decide) (fun c_6 => ?_) (fun c_6 => ?_)
      · exact sVret Cx hr hlk hW hL ⟨hI6, hFm6, hGm6, ⟨hz6, fun k a b => by rw [hv6 k a b, show j - 1 = d.2.2.2.2.2 by omega]; rfl⟩⟩ dX12_multipliersOf_64
      · have hoj := hBO.2 j (by omega) (by omega)
        have join_58 : ∀ (S58 : sS)  (H : Heap) (locs : List Loc) (ls : Array Slot), (dX G S58) → (Fr S S58 (pl [278])) → (Fr u_1 S58 (pl [278])) → (Fr S6 S58 (pl [278])) → (FF S S58 (fl [])) → (FF u_1 S58 (fl [])) → (FF S6 S58 (fl [])) → (MO S58) → (Hd (∀ k, 1 ≤ k → k ≤ 40 → nv (S58.2.1 278) (8 * k) = mlj d ii (n + k) ((j + 1 : Int) - 1).toNat)) → sW G 294 S58 H → sL G locs → lv_has ls 3 [(2, .int (iv j)), (0, .ref (G.2.2.1 + 231)), (1, .int (iv ri))] → W p l e (rmk 4 0 0) s m args below meth c H locs 0 0 (MQ below (sQv G 294 (fun u => dX G u ∧ Fr S u (pl [278]) ∧ FF S u (fl []) ∧ (MO u ∧ Hd (∀ k, 1 ≤ k → k ≤ 40 → nv (u.2.1 278) (8 * k) = mlo d ii (n + k))))) args s 0 0 (sF G)) (F0 m 58 ls []) := by
          intro S58  H locs ls hI58 hFm58 hFL658 hL58_ hGm58 hGL658 gL58_ hz58 hv58 hW hL hl
          refine lv_iinc (v := iv (j + 1)) (lv' := [(2, .int (iv (j + 1))), (0, .ref (G.2.2.1 + 231)), (1, .int (iv ri))]) hx hb dX12_multipliersOf_58 hl (k := 0) rfl ((Int32.ofInt_add _ _).symm) (by decide) rfl (fun ls hl => ?_)
          refine lv_goto (tgt := 6) hx hb dX12_multipliersOf_61 (by decide) ?_
          exact ih_6 S58 (j + 1) _ _ _ (by omega) hI58 hFm58 hFL658 hGm58 hGL658 (by omega) (by omega) hz58 hv58 hW hL (lv_sub hl [0, 1, 2] rfl)
        refine lv_aload_n hx hb dX12_multipliersOf_14 rfl (lv_at hl 1 rfl) ?_
        refine g_X12_115 Cx hW (k := 231) (by decide) rfl (v := .ref (G.2.2.1 + 266)) (rd_57 hI6) dX12_multipliersOf_15 ?_
        refine lv_iload_n hx hb dX12_multipliersOf_18 rfl (lv_at hl 0 rfl) ?_
        refine rIald Cx hW (k := 266) (by decide) rfl (by decide) (by omega) (by omega) dX12_multipliersOf_19 ?_
        have q_7 : (-2147483648) ≤ S.2.1 266 j ∧ S.2.1 266 j ≤ 2147483647 := hI.ai 266 j
        refine r_i (b := S.2.1 266 j) (((hL6_ 266 rfl).2.1 j).trans ((fu_1 266 rfl).2.1 j)) ?_
        refine lv_aload_n hx hb dX12_multipliersOf_20 rfl (lv_at hl 1 rfl) ?_
        have q_8 : (-2147483648) ≤ S.1 231 46 ∧ S.1 231 46 ≤ 2147483647 := hI.fi 46
        refine g_X12_465 Cx hW (k := 231) (by decide) rfl (v := S.1 231 46) ((gL6_ 46 rfl).trans (gu_1 46 rfl)) dX12_multipliersOf_21 ?_
        refine r_icmp_le (tgt := 58) hx hb ⟨(by omega), (by omega)⟩ ⟨(by omega), (by omega)⟩ dX12_multipliersOf_24 (by decide) (fun c_9 => ?_) (fun c_9 => ?_)
        · exact join_58 S6  _ _ _ hI6 hFm6 hL6_ (Fr.rf : Fr S6 S6 (pl [278])) hGm6 gL6_ (FF.rf : FF S6 S6 (fl [])) hz6 (fun k a b => by rw [hv6 k a b]; exact (mlj_n (by omega) (by rw [← hR.2.2.2.1 j (by omega) (by omega)]; omega)).symm) hW hL (lv_sub hl [0, 1, 2] rfl)
        · refine lv_aload_n hx hb dX12_multipliersOf_27 rfl (lv_at hl 1 rfl) ?_
          refine g_X12_103 Cx hW (k := 231) (by decide) rfl (v := .ref (G.2.2.1 + 262)) (rd_53 hI6) dX12_multipliersOf_28 ?_
          refine lv_aload_n hx hb dX12_multipliersOf_31 rfl (lv_at hl 1 rfl) ?_
          refine lv_iload_n hx hb dX12_multipliersOf_32 rfl (lv_at hl 2 rfl) ?_
          refine lv_iload_n hx hb dX12_multipliersOf_33 rfl (lv_at hl 0 rfl) ?_
          refine sBi (sV (As := [.int (iv ri), .int (iv j)]) (rest := [.ref (G.2.2.1 + 262)]) (k := 231) Cx (s_X12_cell l G S6 (i := ri) (j := j) (by omega) (by omega)) (c_X12_529 Cx rfl rfl (rmk_ok (by omega) (by decide))) hW (by decide) rfl rfl rfl hl.1 rfl (Nat.le_of_ble_eq_true rfl) dX12_multipliersOf_34 ⟨Nat.le_of_ble_eq_true rfl, Nat.le_of_ble_eq_true rfl⟩) hL (fun cq u_10 H locs k_11 hW hL => ?_)
          obtain ⟨eu_10, xu_10⟩ := k_11
          rw [eu_10] at hW
          refine lv_aload_n hx hb dX12_multipliersOf_37 rfl (lv_at hl 1 rfl) ?_
          refine g_X12_154 Cx hW (k := 231) (by decide) rfl (v := .ref (G.2.2.1 + 278)) (rd_88 hI6) dX12_multipliersOf_38 ?_
          refine lv_bipush (v := iv 8) hx hb dX12_multipliersOf_41 (by decide) ?_
          refine lv_aload_n hx hb dX12_multipliersOf_43 rfl (lv_at hl 1 rfl) ?_
          refine g_X12_115 Cx hW (k := 231) (by decide) rfl (v := .ref (G.2.2.1 + 266)) (rd_57 hI6) dX12_multipliersOf_44 ?_
          refine lv_iload_n hx hb dX12_multipliersOf_47 rfl (lv_at hl 0 rfl) ?_
          refine rIald Cx hW (k := 266) (by decide) rfl (by decide) (by omega) (by omega) dX12_multipliersOf_48 ?_
          refine r_i (b := S.2.1 266 j) (((hL6_ 266 rfl).2.1 j).trans ((fu_1 266 rfl).2.1 j)) ?_
          refine lv_aload_n hx hb dX12_multipliersOf_49 rfl (lv_at hl 1 rfl) ?_
          refine g_X12_465 Cx hW (k := 231) (by decide) rfl (v := S.1 231 46) ((gL6_ 46 rfl).trans (gu_1 46 rfl)) dX12_multipliersOf_50 ?_
          refine r_isub hx hb dX12_multipliersOf_53 ?_
          refine r_imul hx hb dX12_multipliersOf_54 ?_
          refine sBv (sSt (As := [.ref (G.2.2.1 + 262), .int (iv cq), .ref (G.2.2.1 + 278), .int (iv (8 * ((S.2.1 266 j) - (S.1 231 46))))]) (rest := []) Cx (s_X12_copy l G S6 (ka := 262) (po := cq) (kb := 278) (qo := 8 * ((S.2.1 266 j) - (S.1 231 46))) (Nka := 5280) (Nkb := 336) (La := 6) hI6 ⟨rfl, by decide, by decide, by decide, rfl⟩ ⟨rfl, by decide, by decide, by decide, rfl⟩ (show (278 : Nat) ≠ 262 by decide) (by omega) (by rw [show S6.2.1 262 = S.2.1 262 from (funext fun j => ((hL6_ 262 rfl).2.1 j).trans ((fu_1 262 rfl).2.1 j) : S6.2.1 262 = S.2.1 262)]; exact hD.at (i := ri) (j := j) (by omega) (by omega) (by omega) (by omega))) (c_X12_233 Cx rfl rfl (rmk_ok (by omega) (by decide))) hW rfl hl.1 rfl (Nat.le_of_ble_eq_true rfl) dX12_multipliersOf_55 ⟨Nat.le_of_ble_eq_true rfl, Nat.le_of_ble_eq_true rfl⟩) hL (fun u_12 H locs k_13 hW hL => ?_)
          obtain ⟨iu_12, fu_12, xu_12⟩ := k_13
          have F_14 := hFm6.trans (fu_12.to (p1_sub rfl))
          have F_15 := hL6_.trans (fu_12.to (p1_sub rfl))
          have F_16 := (Fr.rf : Fr S6 S6 (pl [278])).trans (fu_12.to (p1_sub rfl))
          have g_17 : FF S u_12 (fl []) := FF.fr hGm6 fu_12 rfl
          have g_18 : FF u_1 u_12 (fl []) := FF.fr gL6_ fu_12 rfl
          have g_19 : FF S6 u_12 (fl []) := FF.fr (FF.rf : FF S6 S6 (fl [])) fu_12 rfl
          exact join_58 u_12  _ _ _ iu_12 F_14 F_15 F_16 g_17 g_18 g_19 (fun k a b => if e : k = S.2.1 266 j - S.1 231 46 then (by rw [show 8 * k = 8 * (S.2.1 266 j - S.1 231 46) by omega]; exact xu_12.1.1) else ((hz6 k a b).same (fun x x0 x1 => xu_12.2 x (c8_far e ⟨x0, x1⟩))).1) (fun k a b => by by_cases e : k = (S.2.1 266 j - S.1 231 46); (rw [show 8 * k = 8 * (S.2.1 266 j - S.1 231 46) by omega, xu_12.1.2.1, show S6.2.1 262 = S.2.1 262 from (funext fun j => ((hL6_ 262 rfl).2.1 j).trans ((fu_1 262 rfl).2.1 j) : S6.2.1 262 = S.2.1 262), (hR.vv (i := ii) (j := j) (c := cq) (by omega) (by omega) (by omega) (by rw [← hri2]; omega))]; exact (mlj_y hxi (by omega) (by rw [← hR.2.2.2.1 j (by omega) (by omega)]; omega)).symm); (rw [((hz6 k (by omega) b).same (fun x x0 x1 => xu_12.2 x (c8_far e ⟨x0, x1⟩))).2, hv6 k a b]; exact (mlj_n (by omega) (by rw [← hR.2.2.2.1 j (by omega) (by omega)]; omega)).symm)) hW hL (lv_sub hl [0, 1, 2] rfl)
  exact loop_6 (_ + 1) u_1 1 _ _ _ (Nat.lt_succ_self _) iu_1 F_3 Fr.rf g_4 FF.rf (by omega) (by omega) hz0 hv0 hW hL (lv_sub hl [0, 1, 2] rfl)

set_option maxRecDepth 100000 in
set_option maxHeartbeats 4000000 in
theorem r_X12_writePairs (l : Launch) (G : sG) (S : sS) {si : Nat} {T : List Int} (hI : dX G S) (hsi : si < 38) (hsl : ((strN.getD si 0 : Nat) : Int) ≤ 10) (hsn : strB.getD si [] ≠ []) (hD : DOK S) (hM : MD S) (hMO : MO S) (hts : 0 ≤ S.1 231 84 ∧ S.1 231 84 ≤ 30000) (htr : Hd (LSr S 84 275 T)) : Met l yX12_writePairs (.code yX12_writePairs cX12_writePairs 3 none :: tb) (rmk 6 0 0) (sPc G 294 S [.ref (G.2.2.1 + 231), .ref (G.1.2 100 si)]) (sQv G 294 (fun u => dX G u ∧ Fr S u (pl [231, 236, 275, 277]) ∧ FF S u (fl [6, 61, 84]) ∧ ((0 ≤ u.1 231 84 ∧ u.1 231 84 ≤ 33000) ∧ (30000 < u.1 231 84 → u.1 231 61 = 6) ∧ (u.1 231 84 ≤ 30000 → u.1 231 61 = S.1 231 61) ∧ Hd (LSr u 84 275 (tkn (psT (fun k => nv (S.2.1 278) (8 * k)) (tkn (tkn T (strB.getD si [])) (nmT (nv (S.2.1 264) 0))) (S.1 231 63).toNat) [59]))))) 0 0 (sF G) := by
  refine sEnter (by decide) (Nat.le_of_ble_eq_true rfl) ?_
  intro p e s m args below meth c Cx hr hlk hnm hW ls hl
  have Cx : sC G p m c cX12_writePairs 3 s args RX12 := Cx
  obtain ⟨hx, hb, hml, hown, hts⟩ := id Cx.1
  have hL : sL G [] := sL_nil
  have hl : lv_has ls 3 [(0, .ref (G.2.2.1 + 231)), (1, .ref (G.1.2 100 si))] := hl
  have hW0 := hW
  have hd1 := hD.1
  have hm1 : (0 ≤ S.1 231 46 ∧ S.1 231 46 ≤ 12) ∧ (0 ≤ S.1 231 47 ∧ S.1 231 47 ≤ 16) ∧ 0 ≤ S.1 231 63 ∧ S.1 231 63 ≤ 40 := hM
  refine lv_aload_n hx hb dX12_writePairs_0 rfl (lv_at hl 0 rfl) ?_
  refine lv_aload_n hx hb dX12_writePairs_1 rfl (lv_at hl 1 rfl) ?_
  have q_1 : (-2147483648) ≤ S.1 231 84 ∧ S.1 231 84 ≤ 2147483647 := hI.fi 84
  refine sBv (sV (As := [.ref (G.1.2 100 si)]) (rest := []) (k := 231) Cx (r_X12_write l G S (si := si) (T := T) hI hsi (by omega) htr) (c_X12_603 Cx rfl rfl (rmk_ok (by omega) (by decide))) hW (by decide) rfl rfl rfl hl.1 rfl (Nat.le_of_ble_eq_true rfl) dX12_writePairs_2 ⟨Nat.le_of_ble_eq_true rfl, Nat.le_of_ble_eq_true rfl⟩) hL (fun u_2 H locs k_3 hW hL => ?_)
  obtain ⟨iu_2, fu_2, gu_2, xu_2⟩ := k_3
  have F_4 := (Fr.rf : Fr S S (pl [231, 236, 275, 277])).trans (fu_2.to (pl_sub (by decide)))
  have g_5 : FF S u_2 (fl [6, 61, 84]) := FF.trans FF.rf (FF.to gu_2 (fl_sub (by decide)))
  refine lv_aload_n hx hb dX12_writePairs_5 rfl (lv_at hl 0 rfl) ?_
  refine lv_aload_n hx hb dX12_writePairs_6 rfl (lv_at hl 0 rfl) ?_
  refine g_X12_109 Cx hW (k := 231) (by decide) rfl (v := .ref (G.2.2.1 + 264)) (rd_55 iu_2) dX12_writePairs_7 ?_
  refine lv_iconst (v := iv 0) hx hb dX12_writePairs_10 (by decide) ?_
  have q_6 : (-2147483648) ≤ u_2.1 231 84 ∧ u_2.1 231 84 ≤ 2147483647 := iu_2.fi 84
  refine sBv (sV (As := [.ref (G.2.2.1 + 264), .int (iv 0)]) (rest := []) (k := 231) Cx (r_X12_writeNumber l G u_2 (ka := 264) (po := 0) (Nka := 8) (La := 6) (T := (tkn T (strB.getD si []))) iu_2 ⟨rfl, by decide, by decide, by decide, rfl⟩ (show (264 : Nat) ≠ 231 by decide) (show (264 : Nat) ≠ 236 by decide) (show (264 : Nat) ≠ 275 by decide) (by omega) (by omega) (by rw [show u_2.2.1 264 = S.2.1 264 from (funext fun j => (fu_2 264 rfl).2.1 j : u_2.2.1 264 = S.2.1 264)]; exact hD.2.2.1) xu_2.2.2) (c_X12_597 Cx rfl rfl (rmk_ok (by omega) (by decide))) hW (by decide) rfl rfl rfl hl.1 rfl (Nat.le_of_ble_eq_true rfl) dX12_writePairs_11 ⟨Nat.le_of_ble_eq_true rfl, Nat.le_of_ble_eq_true rfl⟩) hL (fun u_7 H locs k_8 hW hL => ?_)
  obtain ⟨iu_7, fu_7, gu_7, xu_7⟩ := k_8
  have F_9 := F_4.trans (fu_7.to (pl_sub (by decide)))
  have g_10 : FF S u_7 (fl [6, 61, 84]) := FF.trans g_5 (FF.to gu_7 (fl_sub (by decide)))
  refine lv_iconst (v := iv 1) hx hb dX12_writePairs_14 (by decide) ?_
  refine lv_istore_n (lv' := [(2, .int (iv 1)), (0, .ref (G.2.2.1 + 231)), (1, .ref (G.1.2 100 si))]) hx hb dX12_writePairs_15 rfl hl (by decide) rfl (fun ls hl => ?_)
  have loop_16 : ∀ (fuel : Nat) (S16 : sS) (k : Int) (H : Heap) (locs : List Loc) (ls : Array Slot), (41 - k).toNat < fuel → (dX G S16) → (Fr S S16 (pl [231, 236, 275, 277])) → (Fr u_7 S16 (pl [231, 236, 275, 277])) → (FF S S16 (fl [6, 61, 84])) → (FF u_7 S16 (fl [6, 84])) → (1 ≤ k ∧ k ≤ 41) → (k ≤ S.1 231 63 + 1) → (0 ≤ S16.1 231 84 ∧ S16.1 231 84 ≤ S.1 231 84 + 70 + 71 * (k - 1)) → (Hd (LSr S16 84 275 (psT (fun k => nv (S.2.1 278) (8 * k)) (tkn (tkn T (strB.getD si [])) (nmT (nv (S.2.1 264) 0))) (k - 1).toNat))) → sW G 294 S16 H → sL G locs → lv_has ls 3 [(2, .int (iv k)), (0, .ref (G.2.2.1 + 231)), (1, .ref (G.1.2 100 si))] → W p l e (rmk 6 0 0) s m args below meth c H locs 0 0 (MQ below (sQv G 294 (fun u => dX G u ∧ Fr S u (pl [231, 236, 275, 277]) ∧ FF S u (fl [6, 61, 84]) ∧ ((0 ≤ u.1 231 84 ∧ u.1 231 84 ≤ 33000) ∧ (30000 < u.1 231 84 → u.1 231 61 = 6) ∧ (u.1 231 84 ≤ 30000 → u.1 231 61 = S.1 231 61) ∧ Hd (LSr u 84 275 (tkn (psT (fun k => nv (S.2.1 278) (8 * k)) (tkn (tkn T (strB.getD si [])) (nmT (nv (S.2.1 264) 0))) (S.1 231 63).toNat) [59]))))) args s 0 0 (sF G)) (F0 m 16 ls []) := by
    intro fuel
    induction fuel with
    | zero => intro S16 k H locs ls hmeas hI16 hFm16 hL16_ hGm16 gL16_ hk hkn h16 l16 hW hL hl; exact absurd hmeas (Nat.not_lt_zero _)
    | succ fuel ih_16 =>
      intro S16 k H locs ls hmeas hI16 hFm16 hL16_ hGm16 gL16_ hk hkn h16 l16 hW hL hl
      refine lv_iload_n hx hb dX12_writePairs_16 rfl (lv_at hl 0 rfl) ?_
      refine lv_aload_n hx hb dX12_writePairs_17 rfl (lv_at hl 1 rfl) ?_
      have q_11 : (-2147483648) ≤ S.1 231 63 ∧ S.1 231 63 ≤ 2147483647 := hI.fi 63
      refine g_X12_480 Cx hW (k := 231) (by decide) rfl (v := S.1 231 63) ((gL16_ 63 rfl).trans ((gu_7 63 rfl).trans (gu_2 63 rfl))) dX12_writePairs_18 ?_
      refine r_icmp_gt (tgt := 70) hx hb ⟨(by omega), (by omega)⟩ ⟨(by omega), (by omega)⟩ dX12_writePairs_21 (by decide) (fun c_12 => ?_) (fun c_12 => ?_)
      · refine lv_aload_n hx hb dX12_writePairs_70 rfl (lv_at hl 1 rfl) ?_
        refine zLdcw Cx 26 (by decide) ⟨rfl, rfl⟩ dX12_writePairs_71 ?_
        have q_13 : (-2147483648) ≤ S16.1 231 84 ∧ S16.1 231 84 ≤ 2147483647 := hI16.fi 84
        refine sBv (sV (As := [.ref (G.1.2 100 26)]) (rest := []) (k := 231) Cx (r_X12_write l G S16 (si := 26) (T := (psT (fun k => nv (S.2.1 278) (8 * k)) (tkn (tkn T (strB.getD si [])) (nmT (nv (S.2.1 264) 0))) (k - 1).toNat)) hI16 (by decide) (by omega) l16) (c_X12_603 Cx rfl rfl (rmk_ok (by omega) (by decide))) hW (by decide) rfl rfl rfl hl.1 rfl (Nat.le_of_ble_eq_true rfl) dX12_writePairs_74 ⟨Nat.le_of_ble_eq_true rfl, Nat.le_of_ble_eq_true rfl⟩) hL (fun u_14 H locs k_15 hW hL => ?_)
        obtain ⟨iu_14, fu_14, gu_14, xu_14⟩ := k_15
        have F_16 := hFm16.trans (fu_14.to (pl_sub (by decide)))
        have F_17 := hL16_.trans (fu_14.to (pl_sub (by decide)))
        have g_18 : FF S u_14 (fl [6, 61, 84]) := FF.trans hGm16 (FF.to gu_14 (fl_sub (by decide)))
        have g_19 : FF u_7 u_14 (fl [6, 84]) := FF.trans gL16_ (FF.to gu_14 (fl_sub (by decide)))
        have hsu_14 : ((strN.getD 26 0 : Nat) : Int) = 1 := rfl
        refine lv_aload_n hx hb dX12_writePairs_77 rfl (lv_at hl 1 rfl) ?_
        have q_20 : (-2147483648) ≤ u_14.1 231 84 ∧ u_14.1 231 84 ≤ 2147483647 := iu_14.fi 84
        refine g_X12_520 Cx hW (k := 231) (by decide) rfl (v := u_14.1 231 84) rfl dX12_writePairs_78 ?_
        refine lv_sipush (v := iv 30000) hx hb dX12_writePairs_81 (by decide) ?_
        refine r_icmp_le (tgt := 93) hx hb ⟨(by omega), (by omega)⟩ ⟨(by omega), (by omega)⟩ dX12_writePairs_84 (by decide) (fun c_21 => ?_) (fun c_21 => ?_)
        · have q_22 : (-2147483648) ≤ S.1 231 61 ∧ S.1 231 61 ≤ 2147483647 := hI.fi 61
          have lk_23 : u_14.1 231 61 = S.1 231 61 := (gu_14 61 rfl).trans ((gL16_ 61 rfl).trans ((gu_7 61 rfl).trans (gu_2 61 rfl)))
          exact sVret Cx hr hlk hW hL ⟨iu_14, F_16, g_18, ⟨by omega, by omega, by omega, LSr.eq xu_14.2.2 (by rw [show k - 1 = S.1 231 63 by omega]; rfl)⟩⟩ dX12_writePairs_93
        · refine lv_aload_n hx hb dX12_writePairs_87 rfl (lv_at hl 1 rfl) ?_
          refine lv_bipush (v := iv 6) hx hb dX12_writePairs_88 (by decide) ?_
          refine p_X12_477 Cx hW hL (k := 231) (by decide) rfl dX12_writePairs_90 (fun H locs hW hL => ?_)
          have F_24 : Fr S (uF u_14 231 61 6) (pl [231, 236, 275, 277]) := F_16.F rfl
          have F_25 : Fr u_7 (uF u_14 231 61 6) (pl [231, 236, 275, 277]) := F_17.F rfl
          have g_26 : FF S (uF u_14 231 61 6) (fl [6, 61, 84]) := FF.F g_18 rfl
          have i_27 : dX G (uF u_14 231 61 6) := iu_14.F (i := 61) (show (-2147483648) ≤ 6 ∧ 6 ≤ 2147483647 from ⟨by omega, by omega⟩)
          have lk_28 : (uF u_14 231 61 6).1 231 84 = u_14.1 231 84 := uF_ne (fun h => absurd h.2 (by decide))
          have lk_29 : (uF u_14 231 61 6).1 231 61 = 6 := uF_on
          exact sVret Cx hr hlk hW hL ⟨i_27, F_24, g_26, ⟨by omega, by omega, by omega, LSr.eq (LSr.of xu_14.2.2 (uF_ne (fun h => absurd h.2 (by decide))) (funext fun x => uF_a)) (by rw [show k - 1 = S.1 231 63 by omega]; rfl)⟩⟩ dX12_writePairs_93
      · have join_64 : ∀ (S64 : sS)  (H : Heap) (locs : List Loc) (ls : Array Slot), (dX G S64) → (Fr S S64 (pl [231, 236, 275, 277])) → (Fr u_7 S64 (pl [231, 236, 275, 277])) → (Fr S16 S64 (pl [231, 236, 275, 277])) → (FF S S64 (fl [6, 61, 84])) → (FF u_7 S64 (fl [6, 84])) → (FF S16 S64 (fl [6, 84])) → (0 ≤ S64.1 231 84 ∧ S64.1 231 84 ≤ S.1 231 84 + 70 + 71 * k) → (Hd (LSr S64 84 275 (psT (fun k => nv (S.2.1 278) (8 * k)) (tkn (tkn T (strB.getD si [])) (nmT (nv (S.2.1 264) 0))) (k + 1 - 1).toNat))) → sW G 294 S64 H → sL G locs → lv_has ls 3 [(2, .int (iv k)), (0, .ref (G.2.2.1 + 231)), (1, .ref (G.1.2 100 si))] → W p l e (rmk 6 0 0) s m args below meth c H locs 0 0 (MQ below (sQv G 294 (fun u => dX G u ∧ Fr S u (pl [231, 236, 275, 277]) ∧ FF S u (fl [6, 61, 84]) ∧ ((0 ≤ u.1 231 84 ∧ u.1 231 84 ≤ 33000) ∧ (30000 < u.1 231 84 → u.1 231 61 = 6) ∧ (u.1 231 84 ≤ 30000 → u.1 231 61 = S.1 231 61) ∧ Hd (LSr u 84 275 (tkn (psT (fun k => nv (S.2.1 278) (8 * k)) (tkn (tkn T (strB.getD si [])) (nmT (nv (S.2.1 264) 0))) (S.1 231 63).toNat) [59]))))) args s 0 0 (sF G)) (F0 m 64 ls []) := by
          intro S64  H locs ls hI64 hFm64 hFL1664 hL64_ hGm64 hGL1664 gL64_ h64 l64 hW hL hl
          refine lv_iinc (v := iv (k + 1)) (lv' := [(2, .int (iv (k + 1))), (0, .ref (G.2.2.1 + 231)), (1, .ref (G.1.2 100 si))]) hx hb dX12_writePairs_64 hl (k := 0) rfl ((Int32.ofInt_add _ _).symm) (by decide) rfl (fun ls hl => ?_)
          refine lv_goto (tgt := 16) hx hb dX12_writePairs_67 (by decide) ?_
          have q_30 : (-2147483648) ≤ S64.1 231 84 ∧ S64.1 231 84 ≤ 2147483647 := hI64.fi 84
          exact ih_16 S64 (k + 1) _ _ _ (by omega) hI64 hFm64 hFL1664 hGm64 hGL1664 (by omega) (by omega) (by omega) l64 hW hL (lv_sub hl [0, 1, 2] rfl)
        refine lv_aload_n hx hb dX12_writePairs_24 rfl (lv_at hl 1 rfl) ?_
        refine g_X12_154 Cx hW (k := 231) (by decide) rfl (v := .ref (G.2.2.1 + 278)) (rd_88 hI16) dX12_writePairs_25 ?_
        refine lv_bipush (v := iv 8) hx hb dX12_writePairs_28 (by decide) ?_
        refine lv_iload_n hx hb dX12_writePairs_30 rfl (lv_at hl 0 rfl) ?_
        refine r_imul hx hb dX12_writePairs_31 ?_
        refine rIald Cx hW (k := 278) (by decide) rfl (by decide) (by omega) (by omega) dX12_writePairs_32 ?_
        have q_31 : (-2147483648) ≤ S.2.1 278 (8 * k) ∧ S.2.1 278 (8 * k) ≤ 2147483647 := hI.ai 278 (8 * k)
        refine r_i (b := S.2.1 278 (8 * k)) (((hL16_ 278 rfl).2.1 (8 * k)).trans (((fu_7 278 rfl).2.1 (8 * k)).trans ((fu_2 278 rfl).2.1 (8 * k)))) ?_
        refine r_if_ne (tgt := 39) hx hb ⟨(by omega), (by omega)⟩ dX12_writePairs_33 (by decide) (fun c_32 => ?_) (fun c_32 => ?_)
        · refine lv_aload_n hx hb dX12_writePairs_39 rfl (lv_at hl 1 rfl) ?_
          refine lv_iload_n hx hb dX12_writePairs_40 rfl (lv_at hl 0 rfl) ?_
          refine r_i2l hx hb ⟨(by omega), (by omega)⟩ dX12_writePairs_41 ?_
          have q_33 : (-2147483648) ≤ S16.1 231 84 ∧ S16.1 231 84 ≤ 2147483647 := hI16.fi 84
          refine sBv (sV (As := [.long (jv k)]) (rest := []) (k := 231) Cx (r_X12_writeSmall l G S16 (v := k) (T := (psT (fun k => nv (S.2.1 278) (8 * k)) (tkn (tkn T (strB.getD si [])) (nmT (nv (S.2.1 264) 0))) (k - 1).toNat)) hI16 (by omega) (by omega) l16) (c_X12_607 Cx rfl rfl (rmk_ok (by omega) (by decide))) hW (by decide) rfl rfl rfl hl.1 rfl (Nat.le_of_ble_eq_true rfl) dX12_writePairs_42 ⟨Nat.le_of_ble_eq_true rfl, Nat.le_of_ble_eq_true rfl⟩) hL (fun u_34 H locs k_35 hW hL => ?_)
          obtain ⟨iu_34, fu_34, gu_34, xu_34⟩ := k_35
          have F_36 := hFm16.trans fu_34
          have F_37 := hL16_.trans fu_34
          have F_38 := (Fr.rf : Fr S16 S16 (pl [231, 236, 275, 277])).trans fu_34
          have g_39 : FF S u_34 (fl [6, 61, 84]) := FF.trans hGm16 (FF.to gu_34 (fl_sub (by decide)))
          have g_40 : FF u_7 u_34 (fl [6, 84]) := FF.trans gL16_ (FF.to gu_34 (fl_sub (by decide)))
          have g_41 : FF S16 u_34 (fl [6, 84]) := FF.trans (FF.rf : FF S16 S16 (fl [6, 84])) (FF.to gu_34 (fl_sub (by decide)))
          refine lv_aload_n hx hb dX12_writePairs_45 rfl (lv_at hl 1 rfl) ?_
          refine zLdcw Cx 25 (by decide) ⟨rfl, rfl⟩ dX12_writePairs_46 ?_
          have q_42 : (-2147483648) ≤ u_34.1 231 84 ∧ u_34.1 231 84 ≤ 2147483647 := iu_34.fi 84
          refine sBv (sV (As := [.ref (G.1.2 100 25)]) (rest := []) (k := 231) Cx (r_X12_write l G u_34 (si := 25) (T := (((psT (fun k => nv (S.2.1 278) (8 * k)) (tkn (tkn T (strB.getD si [])) (nmT (nv (S.2.1 264) 0))) (k - 1).toNat)) ++ [32] ++ nmT k)) iu_34 (by decide) (by omega) xu_34.2.2) (c_X12_603 Cx rfl rfl (rmk_ok (by omega) (by decide))) hW (by decide) rfl rfl rfl hl.1 rfl (Nat.le_of_ble_eq_true rfl) dX12_writePairs_49 ⟨Nat.le_of_ble_eq_true rfl, Nat.le_of_ble_eq_true rfl⟩) hL (fun u_43 H locs k_44 hW hL => ?_)
          obtain ⟨iu_43, fu_43, gu_43, xu_43⟩ := k_44
          have F_45 := F_36.trans (fu_43.to (pl_sub (by decide)))
          have F_46 := F_37.trans (fu_43.to (pl_sub (by decide)))
          have F_47 := F_38.trans (fu_43.to (pl_sub (by decide)))
          have g_48 : FF S u_43 (fl [6, 61, 84]) := FF.trans g_39 (FF.to gu_43 (fl_sub (by decide)))
          have g_49 : FF u_7 u_43 (fl [6, 84]) := FF.trans g_40 (FF.to gu_43 (fl_sub (by decide)))
          have g_50 : FF S16 u_43 (fl [6, 84]) := FF.trans g_41 (FF.to gu_43 (fl_sub (by decide)))
          have hsu_43 : ((strN.getD 25 0 : Nat) : Int) = 1 := rfl
          refine lv_aload_n hx hb dX12_writePairs_52 rfl (lv_at hl 1 rfl) ?_
          refine lv_aload_n hx hb dX12_writePairs_53 rfl (lv_at hl 1 rfl) ?_
          refine g_X12_154 Cx hW (k := 231) (by decide) rfl (v := .ref (G.2.2.1 + 278)) (rd_88 iu_43) dX12_writePairs_54 ?_
          refine lv_bipush (v := iv 8) hx hb dX12_writePairs_57 (by decide) ?_
          refine lv_iload_n hx hb dX12_writePairs_59 rfl (lv_at hl 0 rfl) ?_
          refine r_imul hx hb dX12_writePairs_60 ?_
          have q_51 : (-2147483648) ≤ u_43.1 231 84 ∧ u_43.1 231 84 ≤ 2147483647 := iu_43.fi 84
          refine sBv (sV (As := [.ref (G.2.2.1 + 278), .int (iv (8 * k))]) (rest := []) (k := 231) Cx (r_X12_writeNumber l G u_43 (ka := 278) (po := 8 * k) (Nka := 336) (La := 6) (T := (tkn ((((psT (fun k => nv (S.2.1 278) (8 * k)) (tkn (tkn T (strB.getD si [])) (nmT (nv (S.2.1 264) 0))) (k - 1).toNat)) ++ [32] ++ nmT k)) (strB.getD 25 []))) iu_43 ⟨rfl, by decide, by decide, by decide, rfl⟩ (show (278 : Nat) ≠ 231 by decide) (show (278 : Nat) ≠ 236 by decide) (show (278 : Nat) ≠ 275 by decide) (by omega) (by omega) (by rw [show u_43.2.1 278 = S.2.1 278 from (funext fun j => ((fu_43 278 rfl).2.1 j).trans (((fu_34 278 rfl).2.1 j).trans (((hL16_ 278 rfl).2.1 j).trans (((fu_7 278 rfl).2.1 j).trans ((fu_2 278 rfl).2.1 j)))) : u_43.2.1 278 = S.2.1 278)]; exact hMO k (by omega) (by omega)) xu_43.2.2) (c_X12_597 Cx rfl rfl (rmk_ok (by omega) (by decide))) hW (by decide) rfl rfl rfl hl.1 rfl (Nat.le_of_ble_eq_true rfl) dX12_writePairs_61 ⟨Nat.le_of_ble_eq_true rfl, Nat.le_of_ble_eq_true rfl⟩) hL (fun u_52 H locs k_53 hW hL => ?_)
          obtain ⟨iu_52, fu_52, gu_52, xu_52⟩ := k_53
          have F_54 := F_45.trans (fu_52.to (pl_sub (by decide)))
          have F_55 := F_46.trans (fu_52.to (pl_sub (by decide)))
          have F_56 := F_47.trans (fu_52.to (pl_sub (by decide)))
          have g_57 : FF S u_52 (fl [6, 61, 84]) := FF.trans g_48 (FF.to gu_52 (fl_sub (by decide)))
          have g_58 : FF u_7 u_52 (fl [6, 84]) := FF.trans g_49 (FF.to gu_52 (fl_sub (by decide)))
          have g_59 : FF S16 u_52 (fl [6, 84]) := FF.trans g_50 (FF.to gu_52 (fl_sub (by decide)))
          have q_60 : (-2147483648) ≤ u_52.1 231 84 ∧ u_52.1 231 84 ≤ 2147483647 := iu_52.fi 84
          exact join_64 u_52  _ _ _ iu_52 F_54 F_55 F_56 g_57 g_58 g_59 (by omega) (LSr.eq xu_52.2.2 (by rw [psT_s (by omega), tkn_ne (psT_nn (tkn_nn (nmT_nn _)) _), show nv (u_43.2.1 278) _ = nv (S.2.1 278) (8 * k) by rw [show u_43.2.1 278 = S.2.1 278 from (funext fun j => ((fu_43 278 rfl).2.1 j).trans (((fu_34 278 rfl).2.1 j).trans (((hL16_ 278 rfl).2.1 j).trans (((fu_7 278 rfl).2.1 j).trans ((fu_2 278 rfl).2.1 j)))) : u_43.2.1 278 = S.2.1 278)], tkn_ne (tkn_nn (by decide))]; unfold prT; rw [if_neg (fun z => by have e := ((hMO k (by omega) (by omega)).sgn.2.2).mp z; omega)]; rfl)) hW hL (lv_sub hl [0, 1, 2] rfl)
        · refine lv_goto (tgt := 64) hx hb dX12_writePairs_36 (by decide) ?_
          have q_61 : (-2147483648) ≤ S16.1 231 84 ∧ S16.1 231 84 ≤ 2147483647 := hI16.fi 84
          exact join_64 S16  _ _ _ hI16 hFm16 hL16_ (Fr.rf : Fr S16 S16 (pl [231, 236, 275, 277])) hGm16 gL16_ (FF.rf : FF S16 S16 (fl [6, 84])) (by omega) (LSr.eq l16 (by rw [psT_s (by omega)]; unfold prT; rw [if_pos (show nv (S.2.1 278) (8 * k) = 0 from ((hMO k (by omega) (by omega)).sgn.2.2).mpr (by omega))])) hW hL (lv_sub hl [0, 1, 2] rfl)
  have q_62 : (-2147483648) ≤ u_7.1 231 84 ∧ u_7.1 231 84 ≤ 2147483647 := iu_7.fi 84
  exact loop_16 (_ + 1) u_7 1 _ _ _ (Nat.lt_succ_self _) iu_7 F_9 Fr.rf g_10 FF.rf (by omega) (by omega) (by omega) (LSr.eq xu_7.2.2 (by rw [show nv (u_2.2.1 264) 0 = nv (S.2.1 264) 0 by rw [show u_2.2.1 264 = S.2.1 264 from (funext fun j => (fu_2 264 rfl).2.1 j : u_2.2.1 264 = S.2.1 264)]]; exact tkn_ne (tkn_nn hsn))) hW hL (lv_sub hl [0, 1, 2] rfl)
