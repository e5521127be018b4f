theorem NO.sm {f : Int → Int} {p L : Int} (h : NO f p L) (h0 : 0 ≤ nv f p ∧ nv f p ≤ 999999999) : NO f p 1 := by
  have a := nv_abs h
  exact ⟨h.lim (n := 1) (by show nu f p < 1000000000 * 1; omega), h.2⟩
set_option maxRecDepth 100000 in
set_option maxHeartbeats 4000000 in
theorem s_X12_clearMultipliers (l : Launch) (G : sG) (S : sS)  (hI : dX G S) : Met l yX12_clearMultipliers (.code yX12_clearMultipliers cX12_clearMultipliers 2 none :: tb) (rmk 1 0 0) (sPc G 294 S [.ref (G.2.2.1 + 231)]) (sQv G 294 (fun u => dX G u ∧ Fr S u (pl [278]) ∧ FF S u (fl []) ∧ (∀ k, 0 ≤ k → k ≤ 40 → u.2.1 278 (8 * k) = 0))) 0 0 (sF G) := by
  refine sEnter (by decide) (Nat.le_of_ble_eq_true rfl) ?_
  intro p e s m args below meth c Cx hr hlk hnm hW ls hl
  have Cx : sC G p m c cX12_clearMultipliers 2 s args RX12 := Cx
  obtain ⟨hx, hb, hml, hown, hts⟩ := id Cx.1
  have hL : sL G [] := sL_nil
  have hl : lv_has ls 2 [(0, .ref (G.2.2.1 + 231))] := hl
  have hW0 := hW
  refine lv_iconst (v := iv 0) hx hb dX12_clearMultipliers_0 (by decide) ?_
  refine lv_istore_n (lv' := [(1, .int (iv 0)), (0, .ref (G.2.2.1 + 231))]) hx hb dX12_clearMultipliers_1 rfl hl (by decide) rfl (fun ls hl => ?_)
  have loop_2 : ∀ (fuel : Nat) (S2 : sS) (k : Int) (H : Heap) (locs : List Loc) (ls : Array Slot), (41 - k).toNat < fuel → (dX G S2) → (Fr S S2 (pl [278])) → (Fr S S2 (pl [278])) → (FF S S2 (fl [])) → (FF S S2 (fl [])) → (0 ≤ k ∧ k ≤ 41) → (∀ t, 0 ≤ t → t < k → S2.2.1 278 (8 * t) = 0) → sW G 294 S2 H → sL G locs → lv_has ls 2 [(1, .int (iv k)), (0, .ref (G.2.2.1 + 231))] → W p l e (rmk 1 0 0) s m args below meth c H locs 0 0 (MQ below (sQv G 294 (fun u => dX G u ∧ Fr S u (pl [278]) ∧ FF S u (fl []) ∧ (∀ k, 0 ≤ k → k ≤ 40 → u.2.1 278 (8 * k) = 0))) args s 0 0 (sF G)) (F0 m 2 ls []) := by
    intro fuel
    induction fuel with
    | zero => intro S2 k H locs ls hmeas hI2 hFm2 hL2_ hGm2 gL2_ hk hz hW hL hl; exact absurd hmeas (Nat.not_lt_zero _)
    | succ fuel ih_2 =>
      intro S2 k H locs ls hmeas hI2 hFm2 hL2_ hGm2 gL2_ hk hz hW hL hl
      refine lv_iload_n hx hb dX12_clearMultipliers_2 rfl (lv_at hl 0 rfl) ?_
      refine lv_bipush (v := iv 40) hx hb dX12_clearMultipliers_3 (by decide) ?_
      refine r_icmp_gt (tgt := 24) hx hb ⟨(by omega), (by omega)⟩ ⟨(by omega), (by omega)⟩ dX12_clearMultipliers_5 (by decide) (fun c_1 => ?_) (fun c_1 => ?_)
      · exact sVret Cx hr hlk hW hL ⟨hI2, hFm2, hGm2, (fun t a b => hz t a (by omega))⟩ dX12_clearMultipliers_24
      · refine lv_aload_n hx hb dX12_clearMultipliers_8 rfl (lv_at hl 1 rfl) ?_
        refine g_X12_154 Cx hW (k := 231) (by decide) rfl (v := .ref (G.2.2.1 + 278)) (rd_88 hI2) dX12_clearMultipliers_9 ?_
        refine lv_bipush (v := iv 8) hx hb dX12_clearMultipliers_12 (by decide) ?_
        refine lv_iload_n hx hb dX12_clearMultipliers_14 rfl (lv_at hl 0 rfl) ?_
        refine r_imul hx hb dX12_clearMultipliers_15 ?_
        refine lv_iconst (v := iv 0) hx hb dX12_clearMultipliers_16 (by decide) ?_
        refine rIast Cx hW hL (k := 278) (by decide) rfl (by decide) (by omega) (by omega) dX12_clearMultipliers_17 (fun H locs hW hL => ?_)
        have F_2 : Fr S (uA S2 278 (8 * k) 0) (pl [278]) := hFm2.A rfl
        have F_3 : Fr S (uA S2 278 (8 * k) 0) (pl [278]) := hL2_.A rfl
        have i_4 : dX G (uA S2 278 (8 * k) 0) := hI2.A (k := 278) (show (-2147483648) ≤ 0 ∧ 0 ≤ 2147483647 from ⟨by omega, by omega⟩)
        refine lv_iinc (v := iv (k + 1)) (lv' := [(1, .int (iv (k + 1))), (0, .ref (G.2.2.1 + 231))]) hx hb dX12_clearMultipliers_18 hl (k := 0) rfl ((Int32.ofInt_add _ _).symm) (by decide) rfl (fun ls hl => ?_)
        refine lv_goto (tgt := 2) hx hb dX12_clearMultipliers_21 (by decide) ?_
        exact ih_2 (uA S2 278 (8 * k) 0) (k + 1) _ _ _ (by omega) i_4 F_2 F_3 hGm2 gL2_ (by omega) (fun t a b => by rw [uA_get]; split; rfl; rename_i q; exact hz t a (by omega)) hW hL (lv_sub hl [0, 1] rfl)
  exact loop_2 (_ + 1) S 0 _ _ _ (Nat.lt_succ_self _) hI (Fr.rf : Fr S S (pl [278])) Fr.rf FF.rf FF.rf (by omega) (fun t a b => absurd b (by omega)) hW hL (lv_sub hl [0, 1] rfl)
