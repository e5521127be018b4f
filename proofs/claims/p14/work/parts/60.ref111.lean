theorem NO_z {f : Int → Int} {p L : Int} (h : f p = 0) (hL : 0 ≤ L) : NO f p L := by
  have a := al_e (f := f) (p := p)
  exact ⟨by omega, fun i i0 i1 => by omega, fun z => absurd (by omega : al f p = 0) z⟩
def MD (S : sS) : Prop := (0 ≤ S.1 231 46 ∧ S.1 231 46 ≤ 12) ∧ (0 ≤ S.1 231 47 ∧ S.1 231 47 ≤ 16) ∧ 0 ≤ S.1 231 63 ∧ S.1 231 63 ≤ 40
def BO (S : sS) : Prop := (∀ i, 1 ≤ i → i ≤ S.1 231 58 → 0 ≤ S.2.1 265 i ∧ S.2.1 265 i ≤ S.1 231 46 + S.1 231 63) ∧ ∀ j, 1 ≤ j → j ≤ S.1 231 59 → 0 ≤ S.2.1 266 j ∧ S.2.1 266 j ≤ S.1 231 46 + S.1 231 63
/-- the multipliers -/
def MO (S : sS) : Prop := ∀ k, 0 ≤ k → k ≤ 40 → NO (S.2.1 278) (8 * k) 6
/-- the best point -/
def BS (S : sS) : Prop := NO (S.2.1 272) 0 6 ∧ NO (S.2.1 273) 0 6 ∧ 0 < nv (S.2.1 273) 0 ∧ ∀ j, 1 ≤ j → j ≤ S.1 231 46 → NO (S.2.1 274) (8 * j) 6
theorem c8_far {a k x : Int} (ne : a ≠ k) (hx : 8 * a ≤ x ∧ x ≤ 8 * a + 6) : x < 8 * k ∨ 8 * k + 6 < x := by omega
theorem WX.out {S : sS} (h : WX S) {r : Int} (hr : 1 ≤ r ∧ r ≤ S.1 231 58) (e : S.2.1 265 r = 0) : ∃ j, 1 ≤ j ∧ j ≤ S.1 231 59 ∧ TV S (r + 1) j ≠ 0 := by
  rcases h with ⟨r0, h0, hb0, hbn, hon, hwx, hj⟩ | ⟨hn, _⟩
  · by_cases q : r = r0
    · rw [q]; exact hj
    · exact absurd e (hbn r hr.1 hr.2 q)
  · exact absurd e (hn r hr.1 hr.2)
theorem TV_z {S : sS} (hD : DOK S) {i j : Int} (hi : 0 ≤ i ∧ i ≤ S.1 231 58 + 1) (hw : i = 1 → S.1 231 60 = 1) (hj : 0 ≤ j ∧ j ≤ S.1 231 59) : TV S i j = 0 ↔ S.2.1 262 (8 * (15 * i + j)) = 0 := (hD.at hi hw hj rfl).sgn.2.2
set_option maxRecDepth 100000 in
set_option maxHeartbeats 4000000 in
theorem s_X12_isWholeGoal (l : Launch) (G : sG) (S : sS)  (hI : dX G S) (hM : MD S) : Met l yX12_isWholeGoal (.code yX12_isWholeGoal cX12_isWholeGoal 2 (some .boolean) :: tb) (rmk 1 0 0) (sPc G 294 S [.ref (G.2.2.1 + 231)]) (sQi G 294 (fun r u => u = S ∧ (0 ≤ r ∧ r ≤ 1))) 0 0 (sF G) := by
  refine sEnter (by decide) (Nat.le_of_ble_eq_true rfl) ?_
  intro p e s m args below meth c Cx hr hlk hnm hW ls hl
  have Cx : sC G p m c cX12_isWholeGoal 2 s args RX12 := Cx
  obtain ⟨hx, hb, hml, hown, hts⟩ := id Cx.1
  have hL : sL G [] := sL_nil
  have hl : lv_has ls 2 [(0, .ref (G.2.2.1 + 231))] := hl
  have hW0 := hW
  have hm1 : (0 ≤ S.1 231 46 ∧ S.1 231 46 ≤ 12) ∧ (0 ≤ S.1 231 47 ∧ S.1 231 47 ≤ 16) ∧ 0 ≤ S.1 231 63 ∧ S.1 231 63 ≤ 40 := hM
  refine lv_iconst (v := iv 1) hx hb dX12_isWholeGoal_0 (by decide) ?_
  refine lv_istore_n (lv' := [(1, .int (iv 1)), (0, .ref (G.2.2.1 + 231))]) hx hb dX12_isWholeGoal_1 rfl hl (by decide) rfl (fun ls hl => ?_)
  have loop_2 : ∀ (fuel : Nat) (j : Int) (H : Heap) (locs : List Loc) (ls : Array Slot), (13 - j).toNat < fuel → (1 ≤ j ∧ j ≤ 13) → sW G 294 S H → sL G locs → lv_has ls 2 [(1, .int (iv j)), (0, .ref (G.2.2.1 + 231))] → W p l e (rmk 1 0 0) s m args below meth c H locs 0 0 (MQ below (sQi G 294 (fun r u => u = S ∧ (0 ≤ r ∧ r ≤ 1))) args s 0 0 (sF G)) (F0 m 2 ls []) := by
    intro fuel
    induction fuel with
    | zero => intro j H locs ls hmeas hj hW hL hl; exact absurd hmeas (Nat.not_lt_zero _)
    | succ fuel ih_2 =>
      intro j H locs ls hmeas hj hW hL hl
      refine lv_iload_n hx hb dX12_isWholeGoal_2 rfl (lv_at hl 0 rfl) ?_
      refine lv_aload_n hx hb dX12_isWholeGoal_3 rfl (lv_at hl 1 rfl) ?_
      have q_1 : (-2147483648) ≤ S.1 231 46 ∧ S.1 231 46 ≤ 2147483647 := hI.fi 46
      refine g_X12_465 Cx hW (k := 231) (by decide) rfl (v := S.1 231 46) rfl dX12_isWholeGoal_4 ?_
      refine r_icmp_gt (tgt := 38) hx hb ⟨(by omega), (by omega)⟩ ⟨(by omega), (by omega)⟩ dX12_isWholeGoal_7 (by decide) (fun c_2 => ?_) (fun c_2 => ?_)
      · refine lv_iconst (v := iv 1) hx hb dX12_isWholeGoal_38 (by decide) ?_
        exact sZret Cx hr hlk hW hL (by omega) ⟨rfl, (by omega)⟩ dX12_isWholeGoal_39
      · refine lv_aload_n hx hb dX12_isWholeGoal_10 rfl (lv_at hl 1 rfl) ?_
        refine g_X12_97 Cx hW (k := 231) (by decide) rfl (v := .ref (G.2.2.1 + 260)) (rd_51 hI) dX12_isWholeGoal_11 ?_
        refine lv_iload_n hx hb dX12_isWholeGoal_14 rfl (lv_at hl 0 rfl) ?_
        refine rLald Cx hW (k := 260) (by decide) rfl (by decide) (by omega) (by omega) dX12_isWholeGoal_15 ?_
        have q_3 : -9223372036854775808 ≤ S.2.2.1 260 j ∧ S.2.2.1 260 j ≤ 9223372036854775807 := hI.li 260 j
        refine r_j (b := S.2.2.1 260 j) rfl ?_
        refine lv_lconst (v := jv 0) hx hb dX12_isWholeGoal_16 (by decide) ?_
        refine r_lcmp hx hb ⟨(by omega), (by omega)⟩ ⟨(by omega), (by omega)⟩ dX12_isWholeGoal_17 (fun z_4 az_4 bz_4 cz_4 => ?_)
        refine r_if_eq (tgt := 32) hx hb ⟨(by omega), (by omega)⟩ dX12_isWholeGoal_18 (by decide) (fun c_5 => ?_) (fun c_5 => ?_)
        · refine lv_iinc (v := iv (j + 1)) (lv' := [(1, .int (iv (j + 1))), (0, .ref (G.2.2.1 + 231))]) hx hb dX12_isWholeGoal_32 hl (k := 0) rfl ((Int32.ofInt_add _ _).symm) (by decide) rfl (fun ls hl => ?_)
          refine lv_goto (tgt := 2) hx hb dX12_isWholeGoal_35 (by decide) ?_
          exact ih_2 (j + 1) _ _ _ (by omega) (by omega) hW hL (lv_sub hl [0, 1] rfl)
        · refine lv_aload_n hx hb dX12_isWholeGoal_21 rfl (lv_at hl 1 rfl) ?_
          refine g_X12_94 Cx hW (k := 231) (by decide) rfl (v := .ref (G.2.2.1 + 259)) (rd_50 hI) dX12_isWholeGoal_22 ?_
          refine lv_iload_n hx hb dX12_isWholeGoal_25 rfl (lv_at hl 0 rfl) ?_
          refine rZald Cx hW (k := 259) (by decide) rfl (by decide) (by omega) (by omega) dX12_isWholeGoal_26 ?_
          have q_6 : 0 ≤ S.2.1 259 j ∧ S.2.1 259 j ≤ 1 := hI.ai 259 j
          refine r_i (b := S.2.1 259 j) rfl ?_
          refine r_if_ne (tgt := 32) hx hb ⟨(by omega), (by omega)⟩ dX12_isWholeGoal_27 (by decide) (fun c_7 => ?_) (fun c_7 => ?_)
          · refine lv_iinc (v := iv (j + 1)) (lv' := [(1, .int (iv (j + 1))), (0, .ref (G.2.2.1 + 231))]) hx hb dX12_isWholeGoal_32 hl (k := 0) rfl ((Int32.ofInt_add _ _).symm) (by decide) rfl (fun ls hl => ?_)
            refine lv_goto (tgt := 2) hx hb dX12_isWholeGoal_35 (by decide) ?_
            exact ih_2 (j + 1) _ _ _ (by omega) (by omega) hW hL (lv_sub hl [0, 1] rfl)
          · refine lv_iconst (v := iv 0) hx hb dX12_isWholeGoal_30 (by decide) ?_
            exact sZret Cx hr hlk hW hL (by omega) ⟨rfl, (by omega)⟩ dX12_isWholeGoal_31
  exact loop_2 (_ + 1) 1 _ _ _ (Nat.lt_succ_self _) (by omega) hW hL (lv_sub hl [0, 1] rfl)
