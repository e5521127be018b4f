/-! forms -/
theorem fB_c {u : sS} {ix v : Int} (h1 : u.2.2.1 257 ix = v) (h2 : ∀ t, 1 ≤ t → t ≤ 12 → u.2.2.1 257 (ix + t) = 0) (hv : -99999 ≤ v ∧ v ≤ 99999) : fB u ix := fun k a b => by
  by_cases z : k = 0
  · rw [z, Int.add_zero, h1]; exact hv
  · rw [h2 k (by omega) b]; decide
theorem fB_p {u : sS} {ix i : Int} (h : fB u ix) : fB (uL u 257 i 1) ix := fun k a b => by
  by_cases z : ix + k = i
  · rw [show (uL u 257 i 1).2.2.1 257 (ix + k) = 1 from by rw [z]; exact uL_on]; decide
  · rw [uL_ne (fun h => z h.2)]; exact h k a b
set_option maxRecDepth 100000 in
set_option maxHeartbeats 4000000 in
theorem s_X12_named (l : Launch) (G : sG) (S : sS) {K V Fm Wd : Int → Int} {T : Int} {pz q ix : Int} (hI : dX G S) (hK : S.2.1 244 = K) (hV : S.2.1 247 = V) (hFm : S.2.1 245 = Fm) (hWd : S.2.1 246 = Wd) (hQ : gQ K V Fm Wd T) (h20 : S.1 231 20 = 0) (hNX : NX S T) (h25 : S.1 231 25 ≤ 700) (hc : S.1 231 24 = pz) (hg : gN K V pz q) (hpq : 0 ≤ pz ∧ q ≤ T - 1) (hix : 0 ≤ ix ∧ ix + 12 < 1820) : Met l yX12_named (.code yX12_named cX12_named 10 none :: tb) (rmk 3 0 0) (sPc G 294 S [.ref (G.2.2.1 + 231), .int (iv ix)]) (sQv G 294 (fun u => dX G u ∧ Fr S u (pl [231, 257, 258]) ∧ FF S u (fl [20, 21, 24, 43]) ∧ ((pz ≤ u.1 231 24 ∧ u.1 231 24 ≤ q) ∧ Hd (u.1 231 20 = 0 → u.1 231 24 = q ∧ fB u ix)))) 0 0 (sF G) := by
  refine sEnter (by decide) (Nat.le_of_ble_eq_true rfl) ?_
  intro p e s m args below meth c Cx hr hlk hnm hW ls hl
  have Cx : sC G p m c cX12_named 10 s args RX12 := Cx
  obtain ⟨hx, hb, hml, hown, hts⟩ := id Cx.1
  have hL : sL G [] := sL_nil
  have hl : lv_has ls 10 [(0, .ref (G.2.2.1 + 231)), (1, .int (iv ix))] := hl
  have hW0 := hW
  have hQ1 := hQ.1
  have hlt := gN_lt hg
  have hn0 := hNX.1.1
  refine lv_aload_n hx hb dX12_named_0 rfl (lv_at hl 0 rfl) ?_
  have q_1 : (-2147483648) ≤ S.1 231 24 ∧ S.1 231 24 ≤ 2147483647 := hI.fi 24
  refine g_X12_315 Cx hW (k := 231) (by decide) rfl (v := S.1 231 24) rfl dX12_named_1 ?_
  refine lv_istore_n (lv' := [(2, .int (iv (S.1 231 24))), (0, .ref (G.2.2.1 + 231)), (1, .int (iv ix))]) hx hb dX12_named_4 rfl hl (by decide) rfl (fun ls hl => ?_)
  refine lv_aload_n hx hb dX12_named_5 rfl (lv_at hl 1 rfl) ?_
  refine lv_iload_n hx hb dX12_named_6 rfl (lv_at hl 0 rfl) ?_
  have q_2 : (-2147483648) ≤ S.1 231 25 ∧ S.1 231 25 ≤ 2147483647 := hI.fi 25
  refine sBi (sV (As := [.int (iv (S.1 231 24))]) (rest := []) (k := 231) Cx (s_X12_find l G S (tk := S.1 231 24) (K := K) (V := V) (Fm := Fm) (Wd := Wd) (T := T) hI hK hV hFm hWd hQ (hNX).nt (by omega) (by omega)) (c_X12_361 Cx rfl rfl (rmk_ok (by omega) (by decide))) hW (by decide) rfl rfl rfl hl.1 rfl (Nat.le_of_ble_eq_true rfl) dX12_named_7 ⟨Nat.le_of_ble_eq_true rfl, Nat.le_of_ble_eq_true rfl⟩) hL (fun j u_3 H locs k_4 hW hL => ?_)
  obtain ⟨eu_3, xu_3⟩ := k_4
  rw [eu_3] at hW
  refine lv_istore_n (lv' := [(3, .int (iv j)), (2, .int (iv (S.1 231 24))), (0, .ref (G.2.2.1 + 231)), (1, .int (iv ix))]) hx hb dX12_named_10 rfl hl (by decide) rfl (fun ls hl => ?_)
  refine lv_aload_n hx hb dX12_named_11 rfl (lv_at hl 2 rfl) ?_
  refine lv_dup hx hb dX12_named_12 rfl ?_
  refine g_X12_315 Cx hW (k := 231) (by decide) rfl (v := S.1 231 24) rfl dX12_named_13 ?_
  refine lv_iconst (v := iv 1) hx hb dX12_named_16 (by decide) ?_
  refine r_iadd hx hb dX12_named_17 ?_
  refine p_X12_315 Cx hW hL (k := 231) (by decide) rfl dX12_named_18 (fun H locs hW hL => ?_)
  have F_5 : Fr S (uF S 231 24 ((S.1 231 24) + 1)) (pl [231, 257, 258]) := (Fr.rf : Fr S S (pl [231, 257, 258])).F rfl
  have g_6 : FF S (uF S 231 24 ((S.1 231 24) + 1)) (fl [20, 21, 24, 43]) := FF.F FF.rf rfl
  have i_7 : dX G (uF S 231 24 ((S.1 231 24) + 1)) := hI.F (i := 24) (show (-2147483648) ≤ (S.1 231 24) + 1 ∧ (S.1 231 24) + 1 ≤ 2147483647 from ⟨by omega, by omega⟩)
  refine lv_aload_n hx hb dX12_named_21 rfl (lv_at hl 2 rfl) ?_
  refine lv_bipush (v := iv 91) hx hb dX12_named_22 (by decide) ?_
  have lk_8 : (uF S 231 24 ((S.1 231 24) + 1)).1 231 24 = (S.1 231 24) + 1 := uF_on
  refine sBi (sV (As := [.int (iv 91)]) (rest := []) (k := 231) Cx (s_X12_isSign l G (uF S 231 24 ((S.1 231 24) + 1)) (sv := 91) (K := K) (V := V) (pz := (pz) + 1) i_7 (by omega) ((funext fun j => uF_a : (uF S 231 24 ((S.1 231 24) + 1)).2.1 244 = S.2.1 244).trans hK) ((funext fun j => uF_a : (uF S 231 24 ((S.1 231 24) + 1)).2.1 247 = S.2.1 247).trans hV) (by omega) (by omega)) (c_X12_318 Cx rfl rfl (rmk_ok (by omega) (by decide))) hW (by decide) rfl rfl rfl hl.1 rfl (Nat.le_of_ble_eq_true rfl) dX12_named_24 ⟨Nat.le_of_ble_eq_true rfl, Nat.le_of_ble_eq_true rfl⟩) hL (fun br u_9 H locs k_10 hW hL => ?_)
  obtain ⟨eu_9, xu_9⟩ := k_10
  rw [eu_9] at hW
  refine lv_istore (lv' := [(4, .int (iv br)), (3, .int (iv j)), (2, .int (iv (S.1 231 24))), (0, .ref (G.2.2.1 + 231)), (1, .int (iv ix))]) hx hb dX12_named_27 hl (by decide) rfl (fun ls hl => ?_)
  refine lv_iload_n hx hb dX12_named_29 rfl (lv_at hl 1 rfl) ?_
  refine lv_iconst (v := iv (-1)) hx hb dX12_named_30 (by decide) ?_
  refine r_icmp_ne (tgt := 38) hx hb ⟨(by omega), (by omega)⟩ ⟨(by omega), (by omega)⟩ dX12_named_31 (by decide) (fun c_11 => ?_) (fun c_11 => ?_)
  · have hok := hNX.1.2 j (by omega) (by omega)
    refine lv_aload_n hx hb dX12_named_38 rfl (lv_at hl 3 rfl) ?_
    refine g_X12_62 Cx hW (k := 231) (by decide) rfl (v := .ref (G.2.2.1 + 249)) (rd_27 i_7) dX12_named_39 ?_
    refine lv_iload_n hx hb dX12_named_42 rfl (lv_at hl 1 rfl) ?_
    refine rIald Cx hW (k := 249) (by decide) rfl (by decide) (by omega) (by omega) dX12_named_43 ?_
    have q_12 : (-2147483648) ≤ S.2.1 249 j ∧ S.2.1 249 j ≤ 2147483647 := hI.ai 249 j
    refine r_i (b := S.2.1 249 j) uF_a ?_
    refine lv_istore (lv' := [(5, .int (iv (S.2.1 249 j))), (4, .int (iv br)), (3, .int (iv j)), (2, .int (iv (S.1 231 24))), (0, .ref (G.2.2.1 + 231)), (1, .int (iv ix))]) hx hb dX12_named_44 hl (by decide) rfl (fun ls hl => ?_)
    have join_167 : ∀ (S167 : sS)  (H : Heap) (locs : List Loc) (ls : Array Slot), (dX G S167) → (Fr S S167 (pl [231, 257, 258])) → (Fr ((uF S 231 24 ((S.1 231 24) + 1))) S167 (pl [231, 258])) → (FF S S167 (fl [20, 21, 24, 43])) → (FF ((uF S 231 24 ((S.1 231 24) + 1))) S167 (fl [20, 21, 24, 43])) → (S.2.1 249 j = 2 ∨ S.2.1 249 j = 3) → (S167.1 231 20 = 0 ∧ S167.1 231 24 = q ∧ 0 ≤ S167.1 231 43 ∧ S167.1 231 43 ≤ 2) → (∀ x, 0 ≤ x → x < S167.1 231 43 → -300000 ≤ S167.2.1 258 x ∧ S167.2.1 258 x ≤ 300000) → sW G 294 S167 H → sL G locs → lv_has ls 10 [(5, .int (iv (S.2.1 249 j))), (4, .int (iv br)), (3, .int (iv j)), (2, .int (iv (S.1 231 24))), (0, .ref (G.2.2.1 + 231)), (1, .int (iv ix))] → W p l e (rmk 3 0 0) s m args below meth c H locs 0 0 (MQ below (sQv G 294 (fun u => dX G u ∧ Fr S u (pl [231, 257, 258]) ∧ FF S u (fl [20, 21, 24, 43]) ∧ ((pz ≤ u.1 231 24 ∧ u.1 231 24 ≤ q) ∧ Hd (u.1 231 20 = 0 → u.1 231 24 = q ∧ fB u ix)))) args s 0 0 (sF G)) (F0 m 167 ls []) := by
      intro S167  H locs ls hI167 hFm167 hL167_ hGm167 gL167_ hs23 h167 h167r hW hL hl
      have hij := hok.2.2.1 hs23
      have join_196 : ∀ (dm : Int) (H : Heap) (locs : List Loc) (ls : Array Slot), ((dm = 2 ∧ S.2.1 251 j ≠ -1) ∨ (dm = 1 ∧ S.2.1 251 j = -1 ∧ S.2.1 250 j ≠ -1) ∨ (dm = 0 ∧ S.2.1 251 j = -1 ∧ S.2.1 250 j = -1)) → sW G 294 S167 H → sL G locs → lv_has ls 10 [(5, .int (iv (S.2.1 249 j))), (4, .int (iv br)), (3, .int (iv j)), (2, .int (iv (S.1 231 24))), (0, .ref (G.2.2.1 + 231)), (1, .int (iv ix))] → W p l e (rmk 3 0 0) s m args below meth c H locs 0 0 (MQ below (sQv G 294 (fun u => dX G u ∧ Fr S u (pl [231, 257, 258]) ∧ FF S u (fl [20, 21, 24, 43]) ∧ ((pz ≤ u.1 231 24 ∧ u.1 231 24 ≤ q) ∧ Hd (u.1 231 20 = 0 → u.1 231 24 = q ∧ fB u ix)))) args s 0 0 (sF G)) (F0 m 196 ls [.int (iv dm)]) := by
        intro dm H locs ls hdm hW hL hl
        refine lv_istore (lv' := [(6, .int (iv dm)), (5, .int (iv (S.2.1 249 j))), (4, .int (iv br)), (3, .int (iv j)), (2, .int (iv (S.1 231 24))), (0, .ref (G.2.2.1 + 231)), (1, .int (iv ix))]) hx hb dX12_named_196 hl (by decide) rfl (fun ls hl => ?_)
        have join_213 : ∀ (S213 : sS)  (H : Heap) (locs : List Loc) (ls : Array Slot), (dX G S213) → (Fr S S213 (pl [231, 257, 258])) → (Fr ((uF S 231 24 ((S.1 231 24) + 1))) S213 (pl [231, 258])) → (Fr S167 S213 (pl [231])) → (FF S S213 (fl [20, 21, 24, 43])) → (FF ((uF S 231 24 ((S.1 231 24) + 1))) S213 (fl [20, 21, 24, 43])) → (FF S167 S213 (fl [20, 21])) → (Hd (S213.1 231 20 = 0 → S167.1 231 43 = dm)) → sW G 294 S213 H → sL G locs → lv_has ls 10 [(6, .int (iv dm)), (5, .int (iv (S.2.1 249 j))), (4, .int (iv br)), (3, .int (iv j)), (2, .int (iv (S.1 231 24))), (0, .ref (G.2.2.1 + 231)), (1, .int (iv ix))] → W p l e (rmk 3 0 0) s m args below meth c H locs 0 0 (MQ below (sQv G 294 (fun u => dX G u ∧ Fr S u (pl [231, 257, 258]) ∧ FF S u (fl [20, 21, 24, 43]) ∧ ((pz ≤ u.1 231 24 ∧ u.1 231 24 ≤ q) ∧ Hd (u.1 231 20 = 0 → u.1 231 24 = q ∧ fB u ix)))) args s 0 0 (sF G)) (F0 m 213 ls []) := by
          intro S213  H locs ls hI213 hFm213 hFL167213 hL213_ hGm213 hGL167213 gL213_ h213 hW hL hl
          refine lv_iconst (v := iv 0) hx hb dX12_named_213 (by decide) ?_
          refine lv_istore (lv' := [(7, .int (iv 0)), (6, .int (iv dm)), (5, .int (iv (S.2.1 249 j))), (4, .int (iv br)), (3, .int (iv j)), (2, .int (iv (S.1 231 24))), (0, .ref (G.2.2.1 + 231)), (1, .int (iv ix))]) hx hb dX12_named_214 hl (by decide) rfl (fun ls hl => ?_)
          refine lv_iconst (v := iv 0) hx hb dX12_named_216 (by decide) ?_
          refine lv_istore (lv' := [(8, .int (iv 0)), (7, .int (iv 0)), (6, .int (iv dm)), (5, .int (iv (S.2.1 249 j))), (4, .int (iv br)), (3, .int (iv j)), (2, .int (iv (S.1 231 24))), (0, .ref (G.2.2.1 + 231)), (1, .int (iv ix))]) hx hb dX12_named_217 hl (by decide) rfl (fun ls hl => ?_)
          have loop_219 : ∀ (fuel : Nat) (S219 : sS) (i : Int) (plc : Int) (H : Heap) (locs : List Loc) (ls : Array Slot), (dm - i).toNat < fuel → (dX G S219) → (Fr S S219 (pl [231, 257, 258])) → (Fr ((uF S 231 24 ((S.1 231 24) + 1))) S219 (pl [231, 258])) → (Fr S167 S219 (pl [231])) → (Fr S213 S219 (pl [231])) → (FF S S219 (fl [20, 21, 24, 43])) → (FF ((uF S 231 24 ((S.1 231 24) + 1))) S219 (fl [20, 21, 24, 43])) → (FF S167 S219 (fl [20, 21])) → (FF S213 S219 (fl [20, 21])) → (0 ≤ i ∧ i ≤ dm) → (Hd (S219.1 231 20 = 0 → S167.1 231 43 = dm ∧ ((i = 0 ∧ plc = 0) ∨ (i = 1 ∧ 0 ≤ plc ∧ plc < nSz S (S.2.1 250 j)) ∨ (i = 2 ∧ 0 ≤ plc ∧ plc < nSz S (S.2.1 250 j) * nSz S (S.2.1 251 j))))) → sW G 294 S219 H → sL G locs → lv_has ls 10 [(8, .int (iv i)), (7, .int (iv plc)), (6, .int (iv dm)), (5, .int (iv (S.2.1 249 j))), (4, .int (iv br)), (3, .int (iv j)), (2, .int (iv (S.1 231 24))), (0, .ref (G.2.2.1 + 231)), (1, .int (iv ix))] → W p l e (rmk 3 0 0) s m args below meth c H locs 0 0 (MQ below (sQv G 294 (fun u => dX G u ∧ Fr S u (pl [231, 257, 258]) ∧ FF S u (fl [20, 21, 24, 43]) ∧ ((pz ≤ u.1 231 24 ∧ u.1 231 24 ≤ q) ∧ Hd (u.1 231 20 = 0 → u.1 231 24 = q ∧ fB u ix)))) args s 0 0 (sF G)) (F0 m 219 ls []) := by
            intro fuel
            induction fuel with
            | zero => intro S219 i plc H locs ls hmeas hI219 hFm219 hFL167219 hFL213219 hL219_ hGm219 hGL167219 hGL213219 gL219_ hi hpl hW hL hl; exact absurd hmeas (Nat.not_lt_zero _)
            | succ fuel ih_219 =>
              intro S219 i plc H locs ls hmeas hI219 hFm219 hFL167219 hFL213219 hL219_ hGm219 hGL167219 hGL213219 gL219_ hi hpl hW hL hl
              refine lv_iload hx hb dX12_named_219 (lv_at hl 0 rfl) ?_
              refine lv_iload hx hb dX12_named_221 (lv_at hl 2 rfl) ?_
              refine r_icmp_ge (tgt := 328) hx hb ⟨(by omega), (by omega)⟩ ⟨(by omega), (by omega)⟩ dX12_named_223 (by decide) (fun c_13 => ?_) (fun c_13 => ?_)
              · refine lv_aload_n hx hb dX12_named_328 rfl (lv_at hl 7 rfl) ?_
                have q_14 : (-2147483648) ≤ S219.1 231 20 ∧ S219.1 231 20 ≤ 2147483647 := hI219.fi 20
                refine g_X12_270 Cx hW (k := 231) (by decide) rfl (v := S219.1 231 20) rfl dX12_named_329 ?_
                refine r_if_eq (tgt := 336) hx hb ⟨(by omega), (by omega)⟩ dX12_named_332 (by decide) (fun c_15 => ?_) (fun c_15 => ?_)
                · have hp9 := hpl (by omega)
                  have hpz : 0 ≤ plc ∧ plc < nSz S (S.2.1 250 j) * nSz S (S.2.1 251 j) := by rcases hdm with ⟨y1, y2⟩ | ⟨y1, y2, y3⟩ | ⟨y1, y2, y3⟩; (exact (by rcases hp9.2 with y | y | y; (omega); (omega); exact y.2)); (rw [show nSz S (S.2.1 251 j) = 1 by unfold nSz; rw [if_pos y2], Int.mul_one]; omega); (rw [show nSz S (S.2.1 251 j) = 1 by unfold nSz; rw [if_pos y2], show nSz S (S.2.1 250 j) = 1 by unfold nSz; rw [if_pos y3]]; omega)
                  have hN35 := hNX.2.2.2
                  have hN32 := hNX.2.2.1
                  refine lv_aload_n hx hb dX12_named_336 rfl (lv_at hl 7 rfl) ?_
                  refine lv_iload_n hx hb dX12_named_337 rfl (lv_at hl 8 rfl) ?_
                  refine lv_iload hx hb dX12_named_338 (lv_at hl 3 rfl) ?_
                  refine lv_iconst (v := iv 2) hx hb dX12_named_340 (by decide) ?_
                  refine r_icmp_ne (tgt := 362) hx hb ⟨(by omega), (by omega)⟩ ⟨(by omega), (by omega)⟩ dX12_named_341 (by decide) (fun c_16 => ?_) (fun c_16 => ?_)
                  · refine lv_lconst (v := jv 0) hx hb dX12_named_362 (by decide) ?_
                    refine sBv (sV (As := [.int (iv ix), .long (jv 0)]) (rest := []) (k := 231) Cx (s_X12_constant l G S219 (ix := ix) (v := 0) hI219 (by omega) (by omega)) (c_X12_431 Cx rfl rfl (rmk_ok (by omega) (by decide))) hW (by decide) rfl rfl rfl hl.1 rfl (Nat.le_of_ble_eq_true rfl) dX12_named_363 ⟨Nat.le_of_ble_eq_true rfl, Nat.le_of_ble_eq_true rfl⟩) hL (fun u_17 H locs k_18 hW hL => ?_)
                    obtain ⟨iu_17, fu_17, gu_17, xu_17⟩ := k_18
                    have F_19 := hFm219.trans (fu_17.to (pl_sub (by decide)))
                    have g_20 : FF S u_17 (fl [20, 21, 24, 43]) := FF.trans hGm219 (FF.to gu_17 (fl_sub (by decide)))
                    have g_21 : FF ((uF S 231 24 ((S.1 231 24) + 1))) u_17 (fl [20, 21, 24, 43]) := FF.trans hGL167219 (FF.to gu_17 (fl_sub (by decide)))
                    have g_22 : FF S167 u_17 (fl [20, 21]) := FF.trans hGL213219 (FF.to gu_17 (fl_sub (by decide)))
                    have g_23 : FF S213 u_17 (fl [20, 21]) := FF.trans gL219_ (FF.to gu_17 (fl_sub (by decide)))
                    refine lv_iload hx hb dX12_named_366 (lv_at hl 3 rfl) ?_
                    refine lv_iconst (v := iv 3) hx hb dX12_named_368 (by decide) ?_
                    refine r_icmp_ne (tgt := 389) hx hb ⟨(by omega), (by omega)⟩ ⟨(by omega), (by omega)⟩ dX12_named_369 (by decide) (fun c_24 => ?_) (fun c_24 => ?_)
                    · have q_25 : (-2147483648) ≤ S167.1 231 24 ∧ S167.1 231 24 ≤ 2147483647 := hI167.fi 24
                      have lk_26 : u_17.1 231 24 = S167.1 231 24 := (gu_17 24 rfl).trans ((gL219_ 24 rfl).trans (gL213_ 24 rfl))
                      have lk_27 : u_17.1 231 20 = S219.1 231 20 := gu_17 20 rfl
                      exact sVret Cx hr hlk hW hL ⟨iu_17, F_19, g_20, ⟨(by have e7 := (show u_17.1 231 24 = S167.1 231 24 from (gu_17 24 rfl).trans ((gL219_ 24 rfl).trans (gL213_ 24 rfl))); omega), (fun _ => ⟨(by have e7 := (show u_17.1 231 24 = S167.1 231 24 from (gu_17 24 rfl).trans ((gL219_ 24 rfl).trans (gL213_ 24 rfl))); omega), (fB_c xu_17.1 xu_17.2 (by omega))⟩)⟩⟩ dX12_named_389
                    · have h52 := hok.2.2.2.2.1 (by omega)
                      refine lv_aload_n hx hb dX12_named_372 rfl (lv_at hl 7 rfl) ?_
                      refine g_X12_88 Cx hW (k := 231) (by decide) rfl (v := .ref (G.2.2.1 + 257)) (rd_41 iu_17) dX12_named_373 ?_
                      refine lv_iload_n hx hb dX12_named_376 rfl (lv_at hl 8 rfl) ?_
                      refine lv_aload_n hx hb dX12_named_377 rfl (lv_at hl 7 rfl) ?_
                      refine g_X12_71 Cx hW (k := 231) (by decide) rfl (v := .ref (G.2.2.1 + 252)) (rd_30 iu_17) dX12_named_378 ?_
                      refine lv_iload_n hx hb dX12_named_381 rfl (lv_at hl 5 rfl) ?_
                      refine rIald Cx hW (k := 252) (by decide) rfl (by decide) (by omega) (by omega) dX12_named_382 ?_
                      have q_28 : (-2147483648) ≤ S.2.1 252 j ∧ S.2.1 252 j ≤ 2147483647 := hI.ai 252 j
                      refine r_i (b := S.2.1 252 j) (((fu_17 252 rfl).2.1 j).trans (((hL219_ 252 rfl).2.1 j).trans (((hL213_ 252 rfl).2.1 j).trans (((hL167_ 252 rfl).2.1 j).trans (uF_a))))) ?_
                      refine r_iadd hx hb dX12_named_383 ?_
                      refine lv_iload hx hb dX12_named_384 (lv_at hl 1 rfl) ?_
                      refine r_iadd hx hb dX12_named_386 ?_
                      refine lv_lconst (v := jv 1) hx hb dX12_named_387 (by decide) ?_
                      refine rLast Cx hW hL (k := 257) (by decide) rfl (by decide) (by omega) (by omega) dX12_named_388 (fun H locs hW hL => ?_)
                      have F_29 : Fr S (uL u_17 257 ((ix + (S.2.1 252 j)) + plc) 1) (pl [231, 257, 258]) := F_19.L rfl
                      have i_30 : dX G (uL u_17 257 ((ix + (S.2.1 252 j)) + plc) 1) := iu_17.L ⟨by omega, by omega⟩
                      have q_31 : (-2147483648) ≤ S167.1 231 24 ∧ S167.1 231 24 ≤ 2147483647 := hI167.fi 24
                      have lk_32 : (uL u_17 257 ((ix + (S.2.1 252 j)) + plc) 1).1 231 24 = S167.1 231 24 := (uL_f).trans ((gu_17 24 rfl).trans ((gL219_ 24 rfl).trans (gL213_ 24 rfl)))
                      have lk_33 : (uL u_17 257 ((ix + (S.2.1 252 j)) + plc) 1).1 231 20 = S219.1 231 20 := (uL_f).trans (gu_17 20 rfl)
                      exact sVret Cx hr hlk hW hL ⟨i_30, F_29, g_20, ⟨(by have e7 := (show (uL u_17 257 ((ix + (S.2.1 252 j)) + plc) 1).1 231 24 = S167.1 231 24 from (uL_f).trans ((gu_17 24 rfl).trans ((gL219_ 24 rfl).trans (gL213_ 24 rfl)))); omega), (fun _ => ⟨(by have e7 := (show (uL u_17 257 ((ix + (S.2.1 252 j)) + plc) 1).1 231 24 = S167.1 231 24 from (uL_f).trans ((gu_17 24 rfl).trans ((gL219_ 24 rfl).trans (gL213_ 24 rfl)))); omega), (fB_p (fB_c xu_17.1 xu_17.2 (by omega)))⟩)⟩⟩ dX12_named_389
                  · have h42 := hok.2.2.2.1 (by omega)
                    have hpv := hNX.2.1 (S.2.1 252 j + plc) (by omega) (by omega)
                    refine lv_aload_n hx hb dX12_named_344 rfl (lv_at hl 7 rfl) ?_
                    refine g_X12_74 Cx hW (k := 231) (by decide) rfl (v := .ref (G.2.2.1 + 253)) (rd_31 hI219) dX12_named_345 ?_
                    refine lv_aload_n hx hb dX12_named_348 rfl (lv_at hl 7 rfl) ?_
                    refine g_X12_71 Cx hW (k := 231) (by decide) rfl (v := .ref (G.2.2.1 + 252)) (rd_30 hI219) dX12_named_349 ?_
                    refine lv_iload_n hx hb dX12_named_352 rfl (lv_at hl 5 rfl) ?_
                    refine rIald Cx hW (k := 252) (by decide) rfl (by decide) (by omega) (by omega) dX12_named_353 ?_
                    have q_34 : (-2147483648) ≤ S.2.1 252 j ∧ S.2.1 252 j ≤ 2147483647 := hI.ai 252 j
                    refine r_i (b := S.2.1 252 j) (((hL219_ 252 rfl).2.1 j).trans (((hL213_ 252 rfl).2.1 j).trans (((hL167_ 252 rfl).2.1 j).trans (uF_a)))) ?_
                    refine lv_iload hx hb dX12_named_354 (lv_at hl 1 rfl) ?_
                    refine r_iadd hx hb dX12_named_356 ?_
                    refine rIald Cx hW (k := 253) (by decide) rfl (by decide) (by omega) (by omega) dX12_named_357 ?_
                    have q_35 : (-2147483648) ≤ S.2.1 253 ((S.2.1 252 j) + plc) ∧ S.2.1 253 ((S.2.1 252 j) + plc) ≤ 2147483647 := hI.ai 253 ((S.2.1 252 j) + plc)
                    refine r_i (b := S.2.1 253 ((S.2.1 252 j) + plc)) (((hL219_ 253 rfl).2.1 ((S.2.1 252 j) + plc)).trans (((hL213_ 253 rfl).2.1 ((S.2.1 252 j) + plc)).trans (((hL167_ 253 rfl).2.1 ((S.2.1 252 j) + plc)).trans (uF_a)))) ?_
                    refine r_i2l hx hb ⟨(by omega), (by omega)⟩ dX12_named_358 ?_
                    refine lv_goto (tgt := 363) hx hb dX12_named_359 (by decide) ?_
                    refine sBv (sV (As := [.int (iv ix), .long (jv (S.2.1 253 ((S.2.1 252 j) + plc)))]) (rest := []) (k := 231) Cx (s_X12_constant l G S219 (ix := ix) (v := S.2.1 253 ((S.2.1 252 j) + plc)) hI219 (by omega) (by omega)) (c_X12_431 Cx rfl rfl (rmk_ok (by omega) (by decide))) hW (by decide) rfl rfl rfl hl.1 rfl (Nat.le_of_ble_eq_true rfl) dX12_named_363 ⟨Nat.le_of_ble_eq_true rfl, Nat.le_of_ble_eq_true rfl⟩) hL (fun u_36 H locs k_37 hW hL => ?_)
                    obtain ⟨iu_36, fu_36, gu_36, xu_36⟩ := k_37
                    have F_38 := hFm219.trans (fu_36.to (pl_sub (by decide)))
                    have g_39 : FF S u_36 (fl [20, 21, 24, 43]) := FF.trans hGm219 (FF.to gu_36 (fl_sub (by decide)))
                    have g_40 : FF ((uF S 231 24 ((S.1 231 24) + 1))) u_36 (fl [20, 21, 24, 43]) := FF.trans hGL167219 (FF.to gu_36 (fl_sub (by decide)))
                    have g_41 : FF S167 u_36 (fl [20, 21]) := FF.trans hGL213219 (FF.to gu_36 (fl_sub (by decide)))
                    have g_42 : FF S213 u_36 (fl [20, 21]) := FF.trans gL219_ (FF.to gu_36 (fl_sub (by decide)))
                    refine lv_iload hx hb dX12_named_366 (lv_at hl 3 rfl) ?_
                    refine lv_iconst (v := iv 3) hx hb dX12_named_368 (by decide) ?_
                    refine r_icmp_ne (tgt := 389) hx hb ⟨(by omega), (by omega)⟩ ⟨(by omega), (by omega)⟩ dX12_named_369 (by decide) (fun c_43 => ?_) (fun c_43 => ?_)
                    · have q_44 : (-2147483648) ≤ S167.1 231 24 ∧ S167.1 231 24 ≤ 2147483647 := hI167.fi 24
                      have lk_45 : u_36.1 231 24 = S167.1 231 24 := (gu_36 24 rfl).trans ((gL219_ 24 rfl).trans (gL213_ 24 rfl))
                      have lk_46 : u_36.1 231 20 = S219.1 231 20 := gu_36 20 rfl
                      exact sVret Cx hr hlk hW hL ⟨iu_36, F_38, g_39, ⟨(by have e7 := (show u_36.1 231 24 = S167.1 231 24 from (gu_36 24 rfl).trans ((gL219_ 24 rfl).trans (gL213_ 24 rfl))); omega), (fun _ => ⟨(by have e7 := (show u_36.1 231 24 = S167.1 231 24 from (gu_36 24 rfl).trans ((gL219_ 24 rfl).trans (gL213_ 24 rfl))); omega), (fB_c xu_36.1 xu_36.2 (by omega))⟩)⟩⟩ dX12_named_389
                    · have h52 := hok.2.2.2.2.1 (by omega)
                      refine lv_aload_n hx hb dX12_named_372 rfl (lv_at hl 7 rfl) ?_
                      refine g_X12_88 Cx hW (k := 231) (by decide) rfl (v := .ref (G.2.2.1 + 257)) (rd_41 iu_36) dX12_named_373 ?_
                      refine lv_iload_n hx hb dX12_named_376 rfl (lv_at hl 8 rfl) ?_
                      refine lv_aload_n hx hb dX12_named_377 rfl (lv_at hl 7 rfl) ?_
                      refine g_X12_71 Cx hW (k := 231) (by decide) rfl (v := .ref (G.2.2.1 + 252)) (rd_30 iu_36) dX12_named_378 ?_
                      refine lv_iload_n hx hb dX12_named_381 rfl (lv_at hl 5 rfl) ?_
                      refine rIald Cx hW (k := 252) (by decide) rfl (by decide) (by omega) (by omega) dX12_named_382 ?_
                      refine r_i (b := S.2.1 252 j) (((fu_36 252 rfl).2.1 j).trans (((hL219_ 252 rfl).2.1 j).trans (((hL213_ 252 rfl).2.1 j).trans (((hL167_ 252 rfl).2.1 j).trans (uF_a))))) ?_
                      refine r_iadd hx hb dX12_named_383 ?_
                      refine lv_iload hx hb dX12_named_384 (lv_at hl 1 rfl) ?_
                      refine r_iadd hx hb dX12_named_386 ?_
                      refine lv_lconst (v := jv 1) hx hb dX12_named_387 (by decide) ?_
                      refine rLast Cx hW hL (k := 257) (by decide) rfl (by decide) (by omega) (by omega) dX12_named_388 (fun H locs hW hL => ?_)
                      have F_47 : Fr S (uL u_36 257 ((ix + (S.2.1 252 j)) + plc) 1) (pl [231, 257, 258]) := F_38.L rfl
                      have i_48 : dX G (uL u_36 257 ((ix + (S.2.1 252 j)) + plc) 1) := iu_36.L ⟨by omega, by omega⟩
                      have q_49 : (-2147483648) ≤ S167.1 231 24 ∧ S167.1 231 24 ≤ 2147483647 := hI167.fi 24
                      have lk_50 : (uL u_36 257 ((ix + (S.2.1 252 j)) + plc) 1).1 231 24 = S167.1 231 24 := (uL_f).trans ((gu_36 24 rfl).trans ((gL219_ 24 rfl).trans (gL213_ 24 rfl)))
                      have lk_51 : (uL u_36 257 ((ix + (S.2.1 252 j)) + plc) 1).1 231 20 = S219.1 231 20 := (uL_f).trans (gu_36 20 rfl)
                      exact sVret Cx hr hlk hW hL ⟨i_48, F_47, g_39, ⟨(by have e7 := (show (uL u_36 257 ((ix + (S.2.1 252 j)) + plc) 1).1 231 24 = S167.1 231 24 from (uL_f).trans ((gu_36 24 rfl).trans ((gL219_ 24 rfl).trans (gL213_ 24 rfl)))); omega), (fun _ => ⟨(by have e7 := (show (uL u_36 257 ((ix + (S.2.1 252 j)) + plc) 1).1 231 24 = S167.1 231 24 from (uL_f).trans ((gu_36 24 rfl).trans ((gL219_ 24 rfl).trans (gL213_ 24 rfl)))); omega), (fB_p (fB_c xu_36.1 xu_36.2 (by omega)))⟩)⟩⟩ dX12_named_389
                · have q_52 : (-2147483648) ≤ S167.1 231 24 ∧ S167.1 231 24 ≤ 2147483647 := hI167.fi 24
                  have lk_53 : S219.1 231 24 = S167.1 231 24 := (gL219_ 24 rfl).trans (gL213_ 24 rfl)
                  exact sVret Cx hr hlk hW hL ⟨hI219, hFm219, hGm219, ⟨(by have e7 := (show S219.1 231 24 = S167.1 231 24 from (gL219_ 24 rfl).trans (gL213_ 24 rfl)); omega), (fun h => absurd h (by have e9 := (show S219.1 231 20 = S219.1 231 20 from rfl); omega))⟩⟩ dX12_named_335
              · refine lv_aload_n hx hb dX12_named_226 rfl (lv_at hl 7 rfl) ?_
                have q_54 : (-2147483648) ≤ S219.1 231 20 ∧ S219.1 231 20 ≤ 2147483647 := hI219.fi 20
                refine g_X12_270 Cx hW (k := 231) (by decide) rfl (v := S219.1 231 20) rfl dX12_named_227 ?_
                refine r_if_ne (tgt := 328) hx hb ⟨(by omega), (by omega)⟩ dX12_named_230 (by decide) (fun c_55 => ?_) (fun c_55 => ?_)
                · refine lv_aload_n hx hb dX12_named_328 rfl (lv_at hl 7 rfl) ?_
                  refine g_X12_270 Cx hW (k := 231) (by decide) rfl (v := S219.1 231 20) rfl dX12_named_329 ?_
                  refine r_if_eq (tgt := 336) hx hb ⟨(by omega), (by omega)⟩ dX12_named_332 (by decide) (fun c_56 => ?_) (fun c_56 => ?_)
                  · have hp9 := hpl (by omega)
                    have hpz : 0 ≤ plc ∧ plc < nSz S (S.2.1 250 j) * nSz S (S.2.1 251 j) := by rcases hdm with ⟨y1, y2⟩ | ⟨y1, y2, y3⟩ | ⟨y1, y2, y3⟩; (exact (by rcases hp9.2 with y | y | y; (omega); (omega); exact y.2)); (rw [show nSz S (S.2.1 251 j) = 1 by unfold nSz; rw [if_pos y2], Int.mul_one]; omega); (rw [show nSz S (S.2.1 251 j) = 1 by unfold nSz; rw [if_pos y2], show nSz S (S.2.1 250 j) = 1 by unfold nSz; rw [if_pos y3]]; omega)
                    have hN35 := hNX.2.2.2
                    have hN32 := hNX.2.2.1
                    refine lv_aload_n hx hb dX12_named_336 rfl (lv_at hl 7 rfl) ?_
                    refine lv_iload_n hx hb dX12_named_337 rfl (lv_at hl 8 rfl) ?_
                    refine lv_iload hx hb dX12_named_338 (lv_at hl 3 rfl) ?_
                    refine lv_iconst (v := iv 2) hx hb dX12_named_340 (by decide) ?_
                    refine r_icmp_ne (tgt := 362) hx hb ⟨(by omega), (by omega)⟩ ⟨(by omega), (by omega)⟩ dX12_named_341 (by decide) (fun c_57 => ?_) (fun c_57 => ?_)
                    · refine lv_lconst (v := jv 0) hx hb dX12_named_362 (by decide) ?_
                      refine sBv (sV (As := [.int (iv ix), .long (jv 0)]) (rest := []) (k := 231) Cx (s_X12_constant l G S219 (ix := ix) (v := 0) hI219 (by omega) (by omega)) (c_X12_431 Cx rfl rfl (rmk_ok (by omega) (by decide))) hW (by decide) rfl rfl rfl hl.1 rfl (Nat.le_of_ble_eq_true rfl) dX12_named_363 ⟨Nat.le_of_ble_eq_true rfl, Nat.le_of_ble_eq_true rfl⟩) hL (fun u_58 H locs k_59 hW hL => ?_)
                      obtain ⟨iu_58, fu_58, gu_58, xu_58⟩ := k_59
                      have F_60 := hFm219.trans (fu_58.to (pl_sub (by decide)))
                      have g_61 : FF S u_58 (fl [20, 21, 24, 43]) := FF.trans hGm219 (FF.to gu_58 (fl_sub (by decide)))
                      have g_62 : FF ((uF S 231 24 ((S.1 231 24) + 1))) u_58 (fl [20, 21, 24, 43]) := FF.trans hGL167219 (FF.to gu_58 (fl_sub (by decide)))
                      have g_63 : FF S167 u_58 (fl [20, 21]) := FF.trans hGL213219 (FF.to gu_58 (fl_sub (by decide)))
                      have g_64 : FF S213 u_58 (fl [20, 21]) := FF.trans gL219_ (FF.to gu_58 (fl_sub (by decide)))
                      refine lv_iload hx hb dX12_named_366 (lv_at hl 3 rfl) ?_
                      refine lv_iconst (v := iv 3) hx hb dX12_named_368 (by decide) ?_
                      refine r_icmp_ne (tgt := 389) hx hb ⟨(by omega), (by omega)⟩ ⟨(by omega), (by omega)⟩ dX12_named_369 (by decide) (fun c_65 => ?_) (fun c_65 => ?_)
                      · have q_66 : (-2147483648) ≤ S167.1 231 24 ∧ S167.1 231 24 ≤ 2147483647 := hI167.fi 24
                        have lk_67 : u_58.1 231 24 = S167.1 231 24 := (gu_58 24 rfl).trans ((gL219_ 24 rfl).trans (gL213_ 24 rfl))
                        have lk_68 : u_58.1 231 20 = S219.1 231 20 := gu_58 20 rfl
                        exact sVret Cx hr hlk hW hL ⟨iu_58, F_60, g_61, ⟨(by have e7 := (show u_58.1 231 24 = S167.1 231 24 from (gu_58 24 rfl).trans ((gL219_ 24 rfl).trans (gL213_ 24 rfl))); omega), (fun _ => ⟨(by have e7 := (show u_58.1 231 24 = S167.1 231 24 from (gu_58 24 rfl).trans ((gL219_ 24 rfl).trans (gL213_ 24 rfl))); omega), (fB_c xu_58.1 xu_58.2 (by omega))⟩)⟩⟩ dX12_named_389
                      · have h52 := hok.2.2.2.2.1 (by omega)
                        refine lv_aload_n hx hb dX12_named_372 rfl (lv_at hl 7 rfl) ?_
                        refine g_X12_88 Cx hW (k := 231) (by decide) rfl (v := .ref (G.2.2.1 + 257)) (rd_41 iu_58) dX12_named_373 ?_
                        refine lv_iload_n hx hb dX12_named_376 rfl (lv_at hl 8 rfl) ?_
                        refine lv_aload_n hx hb dX12_named_377 rfl (lv_at hl 7 rfl) ?_
                        refine g_X12_71 Cx hW (k := 231) (by decide) rfl (v := .ref (G.2.2.1 + 252)) (rd_30 iu_58) dX12_named_378 ?_
                        refine lv_iload_n hx hb dX12_named_381 rfl (lv_at hl 5 rfl) ?_
                        refine rIald Cx hW (k := 252) (by decide) rfl (by decide) (by omega) (by omega) dX12_named_382 ?_
                        have q_69 : (-2147483648) ≤ S.2.1 252 j ∧ S.2.1 252 j ≤ 2147483647 := hI.ai 252 j
                        refine r_i (b := S.2.1 252 j) (((fu_58 252 rfl).2.1 j).trans (((hL219_ 252 rfl).2.1 j).trans (((hL213_ 252 rfl).2.1 j).trans (((hL167_ 252 rfl).2.1 j).trans (uF_a))))) ?_
                        refine r_iadd hx hb dX12_named_383 ?_
                        refine lv_iload hx hb dX12_named_384 (lv_at hl 1 rfl) ?_
                        refine r_iadd hx hb dX12_named_386 ?_
                        refine lv_lconst (v := jv 1) hx hb dX12_named_387 (by decide) ?_
                        refine rLast Cx hW hL (k := 257) (by decide) rfl (by decide) (by omega) (by omega) dX12_named_388 (fun H locs hW hL => ?_)
                        have F_70 : Fr S (uL u_58 257 ((ix + (S.2.1 252 j)) + plc) 1) (pl [231, 257, 258]) := F_60.L rfl
                        have i_71 : dX G (uL u_58 257 ((ix + (S.2.1 252 j)) + plc) 1) := iu_58.L ⟨by omega, by omega⟩
                        have q_72 : (-2147483648) ≤ S167.1 231 24 ∧ S167.1 231 24 ≤ 2147483647 := hI167.fi 24
                        have lk_73 : (uL u_58 257 ((ix + (S.2.1 252 j)) + plc) 1).1 231 24 = S167.1 231 24 := (uL_f).trans ((gu_58 24 rfl).trans ((gL219_ 24 rfl).trans (gL213_ 24 rfl)))
                        have lk_74 : (uL u_58 257 ((ix + (S.2.1 252 j)) + plc) 1).1 231 20 = S219.1 231 20 := (uL_f).trans (gu_58 20 rfl)
                        exact sVret Cx hr hlk hW hL ⟨i_71, F_70, g_61, ⟨(by have e7 := (show (uL u_58 257 ((ix + (S.2.1 252 j)) + plc) 1).1 231 24 = S167.1 231 24 from (uL_f).trans ((gu_58 24 rfl).trans ((gL219_ 24 rfl).trans (gL213_ 24 rfl)))); omega), (fun _ => ⟨(by have e7 := (show (uL u_58 257 ((ix + (S.2.1 252 j)) + plc) 1).1 231 24 = S167.1 231 24 from (uL_f).trans ((gu_58 24 rfl).trans ((gL219_ 24 rfl).trans (gL213_ 24 rfl)))); omega), (fB_p (fB_c xu_58.1 xu_58.2 (by omega)))⟩)⟩⟩ dX12_named_389
                    · have h42 := hok.2.2.2.1 (by omega)
                      have hpv := hNX.2.1 (S.2.1 252 j + plc) (by omega) (by omega)
                      refine lv_aload_n hx hb dX12_named_344 rfl (lv_at hl 7 rfl) ?_
                      refine g_X12_74 Cx hW (k := 231) (by decide) rfl (v := .ref (G.2.2.1 + 253)) (rd_31 hI219) dX12_named_345 ?_
                      refine lv_aload_n hx hb dX12_named_348 rfl (lv_at hl 7 rfl) ?_
                      refine g_X12_71 Cx hW (k := 231) (by decide) rfl (v := .ref (G.2.2.1 + 252)) (rd_30 hI219) dX12_named_349 ?_
                      refine lv_iload_n hx hb dX12_named_352 rfl (lv_at hl 5 rfl) ?_
                      refine rIald Cx hW (k := 252) (by decide) rfl (by decide) (by omega) (by omega) dX12_named_353 ?_
                      have q_75 : (-2147483648) ≤ S.2.1 252 j ∧ S.2.1 252 j ≤ 2147483647 := hI.ai 252 j
                      refine r_i (b := S.2.1 252 j) (((hL219_ 252 rfl).2.1 j).trans (((hL213_ 252 rfl).2.1 j).trans (((hL167_ 252 rfl).2.1 j).trans (uF_a)))) ?_
                      refine lv_iload hx hb dX12_named_354 (lv_at hl 1 rfl) ?_
                      refine r_iadd hx hb dX12_named_356 ?_
                      refine rIald Cx hW (k := 253) (by decide) rfl (by decide) (by omega) (by omega) dX12_named_357 ?_
                      have q_76 : (-2147483648) ≤ S.2.1 253 ((S.2.1 252 j) + plc) ∧ S.2.1 253 ((S.2.1 252 j) + plc) ≤ 2147483647 := hI.ai 253 ((S.2.1 252 j) + plc)
                      refine r_i (b := S.2.1 253 ((S.2.1 252 j) + plc)) (((hL219_ 253 rfl).2.1 ((S.2.1 252 j) + plc)).trans (((hL213_ 253 rfl).2.1 ((S.2.1 252 j) + plc)).trans (((hL167_ 253 rfl).2.1 ((S.2.1 252 j) + plc)).trans (uF_a)))) ?_
                      refine r_i2l hx hb ⟨(by omega), (by omega)⟩ dX12_named_358 ?_
                      refine lv_goto (tgt := 363) hx hb dX12_named_359 (by decide) ?_
                      refine sBv (sV (As := [.int (iv ix), .long (jv (S.2.1 253 ((S.2.1 252 j) + plc)))]) (rest := []) (k := 231) Cx (s_X12_constant l G S219 (ix := ix) (v := S.2.1 253 ((S.2.1 252 j) + plc)) hI219 (by omega) (by omega)) (c_X12_431 Cx rfl rfl (rmk_ok (by omega) (by decide))) hW (by decide) rfl rfl rfl hl.1 rfl (Nat.le_of_ble_eq_true rfl) dX12_named_363 ⟨Nat.le_of_ble_eq_true rfl, Nat.le_of_ble_eq_true rfl⟩) hL (fun u_77 H locs k_78 hW hL => ?_)
                      obtain ⟨iu_77, fu_77, gu_77, xu_77⟩ := k_78
                      have F_79 := hFm219.trans (fu_77.to (pl_sub (by decide)))
                      have g_80 : FF S u_77 (fl [20, 21, 24, 43]) := FF.trans hGm219 (FF.to gu_77 (fl_sub (by decide)))
                      have g_81 : FF ((uF S 231 24 ((S.1 231 24) + 1))) u_77 (fl [20, 21, 24, 43]) := FF.trans hGL167219 (FF.to gu_77 (fl_sub (by decide)))
                      have g_82 : FF S167 u_77 (fl [20, 21]) := FF.trans hGL213219 (FF.to gu_77 (fl_sub (by decide)))
                      have g_83 : FF S213 u_77 (fl [20, 21]) := FF.trans gL219_ (FF.to gu_77 (fl_sub (by decide)))
                      refine lv_iload hx hb dX12_named_366 (lv_at hl 3 rfl) ?_
                      refine lv_iconst (v := iv 3) hx hb dX12_named_368 (by decide) ?_
                      refine r_icmp_ne (tgt := 389) hx hb ⟨(by omega), (by omega)⟩ ⟨(by omega), (by omega)⟩ dX12_named_369 (by decide) (fun c_84 => ?_) (fun c_84 => ?_)
                      · have q_85 : (-2147483648) ≤ S167.1 231 24 ∧ S167.1 231 24 ≤ 2147483647 := hI167.fi 24
                        have lk_86 : u_77.1 231 24 = S167.1 231 24 := (gu_77 24 rfl).trans ((gL219_ 24 rfl).trans (gL213_ 24 rfl))
                        have lk_87 : u_77.1 231 20 = S219.1 231 20 := gu_77 20 rfl
                        exact sVret Cx hr hlk hW hL ⟨iu_77, F_79, g_80, ⟨(by have e7 := (show u_77.1 231 24 = S167.1 231 24 from (gu_77 24 rfl).trans ((gL219_ 24 rfl).trans (gL213_ 24 rfl))); omega), (fun _ => ⟨(by have e7 := (show u_77.1 231 24 = S167.1 231 24 from (gu_77 24 rfl).trans ((gL219_ 24 rfl).trans (gL213_ 24 rfl))); omega), (fB_c xu_77.1 xu_77.2 (by omega))⟩)⟩⟩ dX12_named_389
                      · have h52 := hok.2.2.2.2.1 (by omega)
                        refine lv_aload_n hx hb dX12_named_372 rfl (lv_at hl 7 rfl) ?_
                        refine g_X12_88 Cx hW (k := 231) (by decide) rfl (v := .ref (G.2.2.1 + 257)) (rd_41 iu_77) dX12_named_373 ?_
                        refine lv_iload_n hx hb dX12_named_376 rfl (lv_at hl 8 rfl) ?_
                        refine lv_aload_n hx hb dX12_named_377 rfl (lv_at hl 7 rfl) ?_
                        refine g_X12_71 Cx hW (k := 231) (by decide) rfl (v := .ref (G.2.2.1 + 252)) (rd_30 iu_77) dX12_named_378 ?_
                        refine lv_iload_n hx hb dX12_named_381 rfl (lv_at hl 5 rfl) ?_
                        refine rIald Cx hW (k := 252) (by decide) rfl (by decide) (by omega) (by omega) dX12_named_382 ?_
                        refine r_i (b := S.2.1 252 j) (((fu_77 252 rfl).2.1 j).trans (((hL219_ 252 rfl).2.1 j).trans (((hL213_ 252 rfl).2.1 j).trans (((hL167_ 252 rfl).2.1 j).trans (uF_a))))) ?_
                        refine r_iadd hx hb dX12_named_383 ?_
                        refine lv_iload hx hb dX12_named_384 (lv_at hl 1 rfl) ?_
                        refine r_iadd hx hb dX12_named_386 ?_
                        refine lv_lconst (v := jv 1) hx hb dX12_named_387 (by decide) ?_
                        refine rLast Cx hW hL (k := 257) (by decide) rfl (by decide) (by omega) (by omega) dX12_named_388 (fun H locs hW hL => ?_)
                        have F_88 : Fr S (uL u_77 257 ((ix + (S.2.1 252 j)) + plc) 1) (pl [231, 257, 258]) := F_79.L rfl
                        have i_89 : dX G (uL u_77 257 ((ix + (S.2.1 252 j)) + plc) 1) := iu_77.L ⟨by omega, by omega⟩
                        have q_90 : (-2147483648) ≤ S167.1 231 24 ∧ S167.1 231 24 ≤ 2147483647 := hI167.fi 24
                        have lk_91 : (uL u_77 257 ((ix + (S.2.1 252 j)) + plc) 1).1 231 24 = S167.1 231 24 := (uL_f).trans ((gu_77 24 rfl).trans ((gL219_ 24 rfl).trans (gL213_ 24 rfl)))
                        have lk_92 : (uL u_77 257 ((ix + (S.2.1 252 j)) + plc) 1).1 231 20 = S219.1 231 20 := (uL_f).trans (gu_77 20 rfl)
                        exact sVret Cx hr hlk hW hL ⟨i_89, F_88, g_80, ⟨(by have e7 := (show (uL u_77 257 ((ix + (S.2.1 252 j)) + plc) 1).1 231 24 = S167.1 231 24 from (uL_f).trans ((gu_77 24 rfl).trans ((gL219_ 24 rfl).trans (gL213_ 24 rfl)))); omega), (fun _ => ⟨(by have e7 := (show (uL u_77 257 ((ix + (S.2.1 252 j)) + plc) 1).1 231 24 = S167.1 231 24 from (uL_f).trans ((gu_77 24 rfl).trans ((gL219_ 24 rfl).trans (gL213_ 24 rfl)))); omega), (fB_p (fB_c xu_77.1 xu_77.2 (by omega)))⟩)⟩⟩ dX12_named_389
                  · have q_93 : (-2147483648) ≤ S167.1 231 24 ∧ S167.1 231 24 ≤ 2147483647 := hI167.fi 24
                    have lk_94 : S219.1 231 24 = S167.1 231 24 := (gL219_ 24 rfl).trans (gL213_ 24 rfl)
                    exact sVret Cx hr hlk hW hL ⟨hI219, hFm219, hGm219, ⟨(by have e7 := (show S219.1 231 24 = S167.1 231 24 from (gL219_ 24 rfl).trans (gL213_ 24 rfl)); omega), (fun h => absurd h (by have e9 := (show S219.1 231 20 = S219.1 231 20 from rfl); omega))⟩⟩ dX12_named_335
                · have hp9 := hpl (by omega)
                  have hl12 : nSz S (S.2.1 250 j) ≤ 12 := (nSx.r (NX.sx hNX hij.1 (by omega))).2
                  refine lv_iload hx hb dX12_named_233 (lv_at hl 0 rfl) ?_
                  refine r_if_ne (tgt := 247) hx hb ⟨(by omega), (by omega)⟩ dX12_named_235 (by decide) (fun c_95 => ?_) (fun c_95 => ?_)
                  · refine lv_aload_n hx hb dX12_named_247 rfl (lv_at hl 7 rfl) ?_
                    refine g_X12_68 Cx hW (k := 231) (by decide) rfl (v := .ref (G.2.2.1 + 251)) (rd_29 hI219) dX12_named_248 ?_
                    refine lv_iload_n hx hb dX12_named_251 rfl (lv_at hl 5 rfl) ?_
                    refine rIald Cx hW (k := 251) (by decide) rfl (by decide) (by omega) (by omega) dX12_named_252 ?_
                    have q_96 : (-2147483648) ≤ S.2.1 251 j ∧ S.2.1 251 j ≤ 2147483647 := hI.ai 251 j
                    refine r_i (b := S.2.1 251 j) (((hL219_ 251 rfl).2.1 j).trans (((hL213_ 251 rfl).2.1 j).trans (((hL167_ 251 rfl).2.1 j).trans (uF_a)))) ?_
                    refine lv_istore (lv' := [(9, .int (iv (S.2.1 251 j))), (8, .int (iv i)), (7, .int (iv plc)), (6, .int (iv dm)), (5, .int (iv (S.2.1 249 j))), (4, .int (iv br)), (3, .int (iv j)), (2, .int (iv (S.1 231 24))), (0, .ref (G.2.2.1 + 231)), (1, .int (iv ix))]) hx hb dX12_named_253 hl (by decide) rfl (fun ls hl => ?_)
                    obtain ⟨k1, k2, k3⟩ : 0 ≤ S.2.1 251 j ∧ S.2.1 251 j < S.1 231 25 ∧ S.2.1 249 (S.2.1 251 j) = 1 := by rcases hij.2.1 with q0 | q0; (exact absurd q0 (by omega)); exact q0
                    have hst := (hNX.1.2 (S.2.1 251 j) k1 k2).2.1 k3
                    have hi5 := h167r i (by omega) (by omega)
                    have hsz : nSz S (S.2.1 251 j) = S.2.1 251 (S.2.1 251 j) - S.2.1 250 (S.2.1 251 j) + 1 := by unfold nSz; rw [if_neg (by omega)]
                    refine lv_aload_n hx hb dX12_named_255 rfl (lv_at hl 8 rfl) ?_
                    refine g_X12_91 Cx hW (k := 231) (by decide) rfl (v := .ref (G.2.2.1 + 258)) (rd_44 hI219) dX12_named_256 ?_
                    refine lv_iload hx hb dX12_named_259 (lv_at hl 1 rfl) ?_
                    refine rIald Cx hW (k := 258) (by decide) rfl (by decide) (by omega) (by omega) dX12_named_261 ?_
                    have q_97 : (-2147483648) ≤ S167.2.1 258 i ∧ S167.2.1 258 i ≤ 2147483647 := hI167.ai 258 i
                    refine r_i (b := S167.2.1 258 i) (((hL219_ 258 rfl).2.1 i).trans ((hL213_ 258 rfl).2.1 i)) ?_
                    refine lv_aload_n hx hb dX12_named_262 rfl (lv_at hl 8 rfl) ?_
                    refine g_X12_65 Cx hW (k := 231) (by decide) rfl (v := .ref (G.2.2.1 + 250)) (rd_28 hI219) dX12_named_263 ?_
                    refine lv_iload hx hb dX12_named_266 (lv_at hl 0 rfl) ?_
                    refine rIald Cx hW (k := 250) (by decide) rfl (by decide) (by omega) (by omega) dX12_named_268 ?_
                    have q_98 : (-2147483648) ≤ S.2.1 250 (S.2.1 251 j) ∧ S.2.1 250 (S.2.1 251 j) ≤ 2147483647 := hI.ai 250 (S.2.1 251 j)
                    refine r_i (b := S.2.1 250 (S.2.1 251 j)) (((hL219_ 250 rfl).2.1 (S.2.1 251 j)).trans (((hL213_ 250 rfl).2.1 (S.2.1 251 j)).trans (((hL167_ 250 rfl).2.1 (S.2.1 251 j)).trans (uF_a)))) ?_
                    refine r_icmp_lt (tgt := 289) hx hb ⟨(by omega), (by omega)⟩ ⟨(by omega), (by omega)⟩ dX12_named_269 (by decide) (fun c_99 => ?_) (fun c_99 => ?_)
                    · refine lv_aload_n hx hb dX12_named_289 rfl (lv_at hl 8 rfl) ?_
                      refine lv_iconst (v := iv 5) hx hb dX12_named_290 (by decide) ?_
                      refine lv_iload_n hx hb dX12_named_291 rfl (lv_at hl 7 rfl) ?_
                      refine sBv (sV (As := [.int (iv 5), .int (iv (S.1 231 24))]) (rest := []) (k := 231) Cx (s_X12_wrong l G S219 (cd := 5) (tk := S.1 231 24) hI219 (by omega) (by omega)) (c_X12_321 Cx rfl rfl (rmk_ok (by omega) (by decide))) hW (by decide) rfl rfl rfl hl.1 rfl (Nat.le_of_ble_eq_true rfl) dX12_named_292 ⟨Nat.le_of_ble_eq_true rfl, Nat.le_of_ble_eq_true rfl⟩) hL (fun u_100 H locs k_101 hW hL => ?_)
                      obtain ⟨iu_100, fu_100, gu_100, xu_100⟩ := k_101
                      have F_102 := hFm219.trans (fu_100.to (pl_sub (by decide)))
                      have F_103 := hFL167219.trans (fu_100.to (pl_sub (by decide)))
                      have F_104 := hFL213219.trans fu_100
                      have F_105 := hL219_.trans fu_100
                      have g_106 : FF S u_100 (fl [20, 21, 24, 43]) := FF.trans hGm219 (FF.to gu_100 (fl_sub (by decide)))
                      have g_107 : FF ((uF S 231 24 ((S.1 231 24) + 1))) u_100 (fl [20, 21, 24, 43]) := FF.trans hGL167219 (FF.to gu_100 (fl_sub (by decide)))
                      have g_108 : FF S167 u_100 (fl [20, 21]) := FF.trans hGL213219 (FF.to gu_100 (fl_sub (by decide)))
                      have g_109 : FF S213 u_100 (fl [20, 21]) := FF.trans gL219_ (FF.to gu_100 (fl_sub (by decide)))
                      refine lv_iload hx hb dX12_named_295 (lv_at hl 2 rfl) ?_
                      refine lv_aload_n hx hb dX12_named_297 rfl (lv_at hl 8 rfl) ?_
                      refine lv_iload hx hb dX12_named_298 (lv_at hl 0 rfl) ?_
                      refine sBi (sV (As := [.int (iv (S.2.1 251 j))]) (rest := [.int (iv plc)]) (k := 231) Cx (s_X12_sizeOf l G u_100 (i := S.2.1 251 j) iu_100 (nSx.cg (S := S) (NX.sx hNX hij.2.1 (by omega)) (fun _ => ⟨((fu_100 250 rfl).2.1 ((S.2.1 251 j))).trans (((hL219_ 250 rfl).2.1 ((S.2.1 251 j))).trans (((hL213_ 250 rfl).2.1 ((S.2.1 251 j))).trans (((hL167_ 250 rfl).2.1 ((S.2.1 251 j))).trans (uF_a)))), ((fu_100 251 rfl).2.1 ((S.2.1 251 j))).trans (((hL219_ 251 rfl).2.1 ((S.2.1 251 j))).trans (((hL213_ 251 rfl).2.1 ((S.2.1 251 j))).trans (((hL167_ 251 rfl).2.1 ((S.2.1 251 j))).trans (uF_a))))⟩)).1) (c_X12_410 Cx rfl rfl (rmk_ok (by omega) (by decide))) hW (by decide) rfl rfl rfl hl.1 rfl (Nat.le_of_ble_eq_true rfl) dX12_named_300 ⟨Nat.le_of_ble_eq_true rfl, Nat.le_of_ble_eq_true rfl⟩) hL (fun r_112 u_110 H locs k_111 hW hL => ?_)
                      obtain ⟨eu_110, xu_110⟩ := k_111
                      rw [eu_110] at hW
                      have hr9 : r_112 = nSz S (S.2.1 251 j) := xu_110.1.trans ((nSx.cg (S := S) (NX.sx hNX hij.2.1 (by omega)) (fun _ => ⟨((fu_100 250 rfl).2.1 ((S.2.1 251 j))).trans (((hL219_ 250 rfl).2.1 ((S.2.1 251 j))).trans (((hL213_ 250 rfl).2.1 ((S.2.1 251 j))).trans (((hL167_ 250 rfl).2.1 ((S.2.1 251 j))).trans (uF_a)))), ((fu_100 251 rfl).2.1 ((S.2.1 251 j))).trans (((hL219_ 251 rfl).2.1 ((S.2.1 251 j))).trans (((hL213_ 251 rfl).2.1 ((S.2.1 251 j))).trans (((hL167_ 251 rfl).2.1 ((S.2.1 251 j))).trans (uF_a))))⟩)).2)
                      refine r_imul hx hb dX12_named_303 ?_
                      refine lv_aload_n hx hb dX12_named_304 rfl (lv_at hl 8 rfl) ?_
                      refine g_X12_91 Cx hW (k := 231) (by decide) rfl (v := .ref (G.2.2.1 + 258)) (rd_44 iu_100) dX12_named_305 ?_
                      refine lv_iload hx hb dX12_named_308 (lv_at hl 1 rfl) ?_
                      refine rIald Cx hW (k := 258) (by decide) rfl (by decide) (by omega) (by omega) dX12_named_310 ?_
                      refine r_i (b := S167.2.1 258 i) (((fu_100 258 rfl).2.1 i).trans (((hL219_ 258 rfl).2.1 i).trans ((hL213_ 258 rfl).2.1 i))) ?_
                      refine r_iadd hx hb dX12_named_311 ?_
                      refine lv_aload_n hx hb dX12_named_312 rfl (lv_at hl 8 rfl) ?_
                      refine g_X12_65 Cx hW (k := 231) (by decide) rfl (v := .ref (G.2.2.1 + 250)) (rd_28 iu_100) dX12_named_313 ?_
                      refine lv_iload hx hb dX12_named_316 (lv_at hl 0 rfl) ?_
                      refine rIald Cx hW (k := 250) (by decide) rfl (by decide) (by omega) (by omega) dX12_named_318 ?_
                      refine r_i (b := S.2.1 250 (S.2.1 251 j)) (((fu_100 250 rfl).2.1 (S.2.1 251 j)).trans (((hL219_ 250 rfl).2.1 (S.2.1 251 j)).trans (((hL213_ 250 rfl).2.1 (S.2.1 251 j)).trans (((hL167_ 250 rfl).2.1 (S.2.1 251 j)).trans (uF_a))))) ?_
                      refine r_isub hx hb dX12_named_319 ?_
                      refine lv_istore (lv' := [(7, .int (iv (((plc * r_112) + (S167.2.1 258 i)) - (S.2.1 250 (S.2.1 251 j))))), (9, .int (iv (S.2.1 251 j))), (8, .int (iv i)), (6, .int (iv dm)), (5, .int (iv (S.2.1 249 j))), (4, .int (iv br)), (3, .int (iv j)), (2, .int (iv (S.1 231 24))), (0, .ref (G.2.2.1 + 231)), (1, .int (iv ix))]) hx hb dX12_named_320 hl (by decide) rfl (fun ls hl => ?_)
                      refine lv_iinc (v := iv (i + 1)) (lv' := [(8, .int (iv (i + 1))), (7, .int (iv (((plc * r_112) + (S167.2.1 258 i)) - (S.2.1 250 (S.2.1 251 j))))), (9, .int (iv (S.2.1 251 j))), (6, .int (iv dm)), (5, .int (iv (S.2.1 249 j))), (4, .int (iv br)), (3, .int (iv j)), (2, .int (iv (S.1 231 24))), (0, .ref (G.2.2.1 + 231)), (1, .int (iv ix))]) hx hb dX12_named_322 hl (k := 2) rfl ((Int32.ofInt_add _ _).symm) (by decide) rfl (fun ls hl => ?_)
                      refine lv_goto (tgt := 219) hx hb dX12_named_325 (by decide) ?_
                      have q_113 : (-2147483648) ≤ u_100.1 231 20 ∧ u_100.1 231 20 ≤ 2147483647 := iu_100.fi 20
                      exact ih_219 u_100 (i + 1) (((plc * r_112) + (S167.2.1 258 i)) - (S.2.1 250 (S.2.1 251 j))) _ _ _ (by omega) iu_100 F_102 F_103 F_104 F_105 g_106 g_107 g_108 g_109 (by omega) (fun h => absurd h (by have e9 := (show u_100.1 231 20 = u_100.1 231 20 from rfl); have a9 := xu_100; omega)) hW hL (lv_sub hl [0, 1, 3, 4, 5, 6, 7, 8, 9] rfl)
                    · refine lv_aload_n hx hb dX12_named_272 rfl (lv_at hl 8 rfl) ?_
                      refine g_X12_91 Cx hW (k := 231) (by decide) rfl (v := .ref (G.2.2.1 + 258)) (rd_44 hI219) dX12_named_273 ?_
                      refine lv_iload hx hb dX12_named_276 (lv_at hl 1 rfl) ?_
                      refine rIald Cx hW (k := 258) (by decide) rfl (by decide) (by omega) (by omega) dX12_named_278 ?_
                      refine r_i (b := S167.2.1 258 i) (((hL219_ 258 rfl).2.1 i).trans ((hL213_ 258 rfl).2.1 i)) ?_
                      refine lv_aload_n hx hb dX12_named_279 rfl (lv_at hl 8 rfl) ?_
                      refine g_X12_68 Cx hW (k := 231) (by decide) rfl (v := .ref (G.2.2.1 + 251)) (rd_29 hI219) dX12_named_280 ?_
                      refine lv_iload hx hb dX12_named_283 (lv_at hl 0 rfl) ?_
                      refine rIald Cx hW (k := 251) (by decide) rfl (by decide) (by omega) (by omega) dX12_named_285 ?_
                      have q_114 : (-2147483648) ≤ S.2.1 251 (S.2.1 251 j) ∧ S.2.1 251 (S.2.1 251 j) ≤ 2147483647 := hI.ai 251 (S.2.1 251 j)
                      refine r_i (b := S.2.1 251 (S.2.1 251 j)) (((hL219_ 251 rfl).2.1 (S.2.1 251 j)).trans (((hL213_ 251 rfl).2.1 (S.2.1 251 j)).trans (((hL167_ 251 rfl).2.1 (S.2.1 251 j)).trans (uF_a)))) ?_
                      refine r_icmp_le (tgt := 295) hx hb ⟨(by omega), (by omega)⟩ ⟨(by omega), (by omega)⟩ dX12_named_286 (by decide) (fun c_115 => ?_) (fun c_115 => ?_)
                      · refine lv_iload hx hb dX12_named_295 (lv_at hl 2 rfl) ?_
                        refine lv_aload_n hx hb dX12_named_297 rfl (lv_at hl 8 rfl) ?_
                        refine lv_iload hx hb dX12_named_298 (lv_at hl 0 rfl) ?_
                        refine sBi (sV (As := [.int (iv (S.2.1 251 j))]) (rest := [.int (iv plc)]) (k := 231) Cx (s_X12_sizeOf l G S219 (i := S.2.1 251 j) hI219 (nSx.cg (S := S) (NX.sx hNX hij.2.1 (by omega)) (fun _ => ⟨((hL219_ 250 rfl).2.1 ((S.2.1 251 j))).trans (((hL213_ 250 rfl).2.1 ((S.2.1 251 j))).trans (((hL167_ 250 rfl).2.1 ((S.2.1 251 j))).trans (uF_a))), ((hL219_ 251 rfl).2.1 ((S.2.1 251 j))).trans (((hL213_ 251 rfl).2.1 ((S.2.1 251 j))).trans (((hL167_ 251 rfl).2.1 ((S.2.1 251 j))).trans (uF_a)))⟩)).1) (c_X12_410 Cx rfl rfl (rmk_ok (by omega) (by decide))) hW (by decide) rfl rfl rfl hl.1 rfl (Nat.le_of_ble_eq_true rfl) dX12_named_300 ⟨Nat.le_of_ble_eq_true rfl, Nat.le_of_ble_eq_true rfl⟩) hL (fun r_118 u_116 H locs k_117 hW hL => ?_)
                        obtain ⟨eu_116, xu_116⟩ := k_117
                        rw [eu_116] at hW
                        have hr9 : r_118 = nSz S (S.2.1 251 j) := xu_116.1.trans ((nSx.cg (S := S) (NX.sx hNX hij.2.1 (by omega)) (fun _ => ⟨((hL219_ 250 rfl).2.1 ((S.2.1 251 j))).trans (((hL213_ 250 rfl).2.1 ((S.2.1 251 j))).trans (((hL167_ 250 rfl).2.1 ((S.2.1 251 j))).trans (uF_a))), ((hL219_ 251 rfl).2.1 ((S.2.1 251 j))).trans (((hL213_ 251 rfl).2.1 ((S.2.1 251 j))).trans (((hL167_ 251 rfl).2.1 ((S.2.1 251 j))).trans (uF_a)))⟩)).2)
                        refine r_imul hx hb dX12_named_303 ?_
                        refine lv_aload_n hx hb dX12_named_304 rfl (lv_at hl 8 rfl) ?_
                        refine g_X12_91 Cx hW (k := 231) (by decide) rfl (v := .ref (G.2.2.1 + 258)) (rd_44 hI219) dX12_named_305 ?_
                        refine lv_iload hx hb dX12_named_308 (lv_at hl 1 rfl) ?_
                        refine rIald Cx hW (k := 258) (by decide) rfl (by decide) (by omega) (by omega) dX12_named_310 ?_
                        refine r_i (b := S167.2.1 258 i) (((hL219_ 258 rfl).2.1 i).trans ((hL213_ 258 rfl).2.1 i)) ?_
                        refine r_iadd hx hb dX12_named_311 ?_
                        refine lv_aload_n hx hb dX12_named_312 rfl (lv_at hl 8 rfl) ?_
                        refine g_X12_65 Cx hW (k := 231) (by decide) rfl (v := .ref (G.2.2.1 + 250)) (rd_28 hI219) dX12_named_313 ?_
                        refine lv_iload hx hb dX12_named_316 (lv_at hl 0 rfl) ?_
                        refine rIald Cx hW (k := 250) (by decide) rfl (by decide) (by omega) (by omega) dX12_named_318 ?_
                        refine r_i (b := S.2.1 250 (S.2.1 251 j)) (((hL219_ 250 rfl).2.1 (S.2.1 251 j)).trans (((hL213_ 250 rfl).2.1 (S.2.1 251 j)).trans (((hL167_ 250 rfl).2.1 (S.2.1 251 j)).trans (uF_a)))) ?_
                        refine r_isub hx hb dX12_named_319 ?_
                        refine lv_istore (lv' := [(7, .int (iv (((plc * r_118) + (S167.2.1 258 i)) - (S.2.1 250 (S.2.1 251 j))))), (9, .int (iv (S.2.1 251 j))), (8, .int (iv i)), (6, .int (iv dm)), (5, .int (iv (S.2.1 249 j))), (4, .int (iv br)), (3, .int (iv j)), (2, .int (iv (S.1 231 24))), (0, .ref (G.2.2.1 + 231)), (1, .int (iv ix))]) hx hb dX12_named_320 hl (by decide) rfl (fun ls hl => ?_)
                        refine lv_iinc (v := iv (i + 1)) (lv' := [(8, .int (iv (i + 1))), (7, .int (iv (((plc * r_118) + (S167.2.1 258 i)) - (S.2.1 250 (S.2.1 251 j))))), (9, .int (iv (S.2.1 251 j))), (6, .int (iv dm)), (5, .int (iv (S.2.1 249 j))), (4, .int (iv br)), (3, .int (iv j)), (2, .int (iv (S.1 231 24))), (0, .ref (G.2.2.1 + 231)), (1, .int (iv ix))]) hx hb dX12_named_322 hl (k := 2) rfl ((Int32.ofInt_add _ _).symm) (by decide) rfl (fun ls hl => ?_)
                        refine lv_goto (tgt := 219) hx hb dX12_named_325 (by decide) ?_
                        exact ih_219 S219 (i + 1) (((plc * r_118) + (S167.2.1 258 i)) - (S.2.1 250 (S.2.1 251 j))) _ _ _ (by omega) hI219 hFm219 hFL167219 hFL213219 hL219_ hGm219 hGL167219 hGL213219 gL219_ (by omega) (fun h => ⟨(by omega), .inr (.inr ⟨(by omega), (by have hm := pl_2 (a := plc) (s := nSz S (S.2.1 250 j)) (b := S167.2.1 258 i - S.2.1 250 (S.2.1 251 j)) (t := r_118) (by omega) (by omega); rw [← hr9]; omega)⟩)⟩) hW hL (lv_sub hl [0, 1, 3, 4, 5, 6, 7, 8, 9] rfl)
                      · refine lv_aload_n hx hb dX12_named_289 rfl (lv_at hl 8 rfl) ?_
                        refine lv_iconst (v := iv 5) hx hb dX12_named_290 (by decide) ?_
                        refine lv_iload_n hx hb dX12_named_291 rfl (lv_at hl 7 rfl) ?_
                        refine sBv (sV (As := [.int (iv 5), .int (iv (S.1 231 24))]) (rest := []) (k := 231) Cx (s_X12_wrong l G S219 (cd := 5) (tk := S.1 231 24) hI219 (by omega) (by omega)) (c_X12_321 Cx rfl rfl (rmk_ok (by omega) (by decide))) hW (by decide) rfl rfl rfl hl.1 rfl (Nat.le_of_ble_eq_true rfl) dX12_named_292 ⟨Nat.le_of_ble_eq_true rfl, Nat.le_of_ble_eq_true rfl⟩) hL (fun u_119 H locs k_120 hW hL => ?_)
                        obtain ⟨iu_119, fu_119, gu_119, xu_119⟩ := k_120
                        have F_121 := hFm219.trans (fu_119.to (pl_sub (by decide)))
                        have F_122 := hFL167219.trans (fu_119.to (pl_sub (by decide)))
                        have F_123 := hFL213219.trans fu_119
                        have F_124 := hL219_.trans fu_119
                        have g_125 : FF S u_119 (fl [20, 21, 24, 43]) := FF.trans hGm219 (FF.to gu_119 (fl_sub (by decide)))
                        have g_126 : FF ((uF S 231 24 ((S.1 231 24) + 1))) u_119 (fl [20, 21, 24, 43]) := FF.trans hGL167219 (FF.to gu_119 (fl_sub (by decide)))
                        have g_127 : FF S167 u_119 (fl [20, 21]) := FF.trans hGL213219 (FF.to gu_119 (fl_sub (by decide)))
                        have g_128 : FF S213 u_119 (fl [20, 21]) := FF.trans gL219_ (FF.to gu_119 (fl_sub (by decide)))
                        refine lv_iload hx hb dX12_named_295 (lv_at hl 2 rfl) ?_
                        refine lv_aload_n hx hb dX12_named_297 rfl (lv_at hl 8 rfl) ?_
                        refine lv_iload hx hb dX12_named_298 (lv_at hl 0 rfl) ?_
                        refine sBi (sV (As := [.int (iv (S.2.1 251 j))]) (rest := [.int (iv plc)]) (k := 231) Cx (s_X12_sizeOf l G u_119 (i := S.2.1 251 j) iu_119 (nSx.cg (S := S) (NX.sx hNX hij.2.1 (by omega)) (fun _ => ⟨((fu_119 250 rfl).2.1 ((S.2.1 251 j))).trans (((hL219_ 250 rfl).2.1 ((S.2.1 251 j))).trans (((hL213_ 250 rfl).2.1 ((S.2.1 251 j))).trans (((hL167_ 250 rfl).2.1 ((S.2.1 251 j))).trans (uF_a)))), ((fu_119 251 rfl).2.1 ((S.2.1 251 j))).trans (((hL219_ 251 rfl).2.1 ((S.2.1 251 j))).trans (((hL213_ 251 rfl).2.1 ((S.2.1 251 j))).trans (((hL167_ 251 rfl).2.1 ((S.2.1 251 j))).trans (uF_a))))⟩)).1) (c_X12_410 Cx rfl rfl (rmk_ok (by omega) (by decide))) hW (by decide) rfl rfl rfl hl.1 rfl (Nat.le_of_ble_eq_true rfl) dX12_named_300 ⟨Nat.le_of_ble_eq_true rfl, Nat.le_of_ble_eq_true rfl⟩) hL (fun r_131 u_129 H locs k_130 hW hL => ?_)
                        obtain ⟨eu_129, xu_129⟩ := k_130
                        rw [eu_129] at hW
                        have hr9 : r_131 = nSz S (S.2.1 251 j) := xu_129.1.trans ((nSx.cg (S := S) (NX.sx hNX hij.2.1 (by omega)) (fun _ => ⟨((fu_119 250 rfl).2.1 ((S.2.1 251 j))).trans (((hL219_ 250 rfl).2.1 ((S.2.1 251 j))).trans (((hL213_ 250 rfl).2.1 ((S.2.1 251 j))).trans (((hL167_ 250 rfl).2.1 ((S.2.1 251 j))).trans (uF_a)))), ((fu_119 251 rfl).2.1 ((S.2.1 251 j))).trans (((hL219_ 251 rfl).2.1 ((S.2.1 251 j))).trans (((hL213_ 251 rfl).2.1 ((S.2.1 251 j))).trans (((hL167_ 251 rfl).2.1 ((S.2.1 251 j))).trans (uF_a))))⟩)).2)
                        refine r_imul hx hb dX12_named_303 ?_
                        refine lv_aload_n hx hb dX12_named_304 rfl (lv_at hl 8 rfl) ?_
                        refine g_X12_91 Cx hW (k := 231) (by decide) rfl (v := .ref (G.2.2.1 + 258)) (rd_44 iu_119) dX12_named_305 ?_
                        refine lv_iload hx hb dX12_named_308 (lv_at hl 1 rfl) ?_
                        refine rIald Cx hW (k := 258) (by decide) rfl (by decide) (by omega) (by omega) dX12_named_310 ?_
                        refine r_i (b := S167.2.1 258 i) (((fu_119 258 rfl).2.1 i).trans (((hL219_ 258 rfl).2.1 i).trans ((hL213_ 258 rfl).2.1 i))) ?_
                        refine r_iadd hx hb dX12_named_311 ?_
                        refine lv_aload_n hx hb dX12_named_312 rfl (lv_at hl 8 rfl) ?_
                        refine g_X12_65 Cx hW (k := 231) (by decide) rfl (v := .ref (G.2.2.1 + 250)) (rd_28 iu_119) dX12_named_313 ?_
                        refine lv_iload hx hb dX12_named_316 (lv_at hl 0 rfl) ?_
                        refine rIald Cx hW (k := 250) (by decide) rfl (by decide) (by omega) (by omega) dX12_named_318 ?_
                        refine r_i (b := S.2.1 250 (S.2.1 251 j)) (((fu_119 250 rfl).2.1 (S.2.1 251 j)).trans (((hL219_ 250 rfl).2.1 (S.2.1 251 j)).trans (((hL213_ 250 rfl).2.1 (S.2.1 251 j)).trans (((hL167_ 250 rfl).2.1 (S.2.1 251 j)).trans (uF_a))))) ?_
                        refine r_isub hx hb dX12_named_319 ?_
                        refine lv_istore (lv' := [(7, .int (iv (((plc * r_131) + (S167.2.1 258 i)) - (S.2.1 250 (S.2.1 251 j))))), (9, .int (iv (S.2.1 251 j))), (8, .int (iv i)), (6, .int (iv dm)), (5, .int (iv (S.2.1 249 j))), (4, .int (iv br)), (3, .int (iv j)), (2, .int (iv (S.1 231 24))), (0, .ref (G.2.2.1 + 231)), (1, .int (iv ix))]) hx hb dX12_named_320 hl (by decide) rfl (fun ls hl => ?_)
                        refine lv_iinc (v := iv (i + 1)) (lv' := [(8, .int (iv (i + 1))), (7, .int (iv (((plc * r_131) + (S167.2.1 258 i)) - (S.2.1 250 (S.2.1 251 j))))), (9, .int (iv (S.2.1 251 j))), (6, .int (iv dm)), (5, .int (iv (S.2.1 249 j))), (4, .int (iv br)), (3, .int (iv j)), (2, .int (iv (S.1 231 24))), (0, .ref (G.2.2.1 + 231)), (1, .int (iv ix))]) hx hb dX12_named_322 hl (k := 2) rfl ((Int32.ofInt_add _ _).symm) (by decide) rfl (fun ls hl => ?_)
                        refine lv_goto (tgt := 219) hx hb dX12_named_325 (by decide) ?_
                        have q_132 : (-2147483648) ≤ u_119.1 231 20 ∧ u_119.1 231 20 ≤ 2147483647 := iu_119.fi 20
                        exact ih_219 u_119 (i + 1) (((plc * r_131) + (S167.2.1 258 i)) - (S.2.1 250 (S.2.1 251 j))) _ _ _ (by omega) iu_119 F_121 F_122 F_123 F_124 g_125 g_126 g_127 g_128 (by omega) (fun h => absurd h (by have e9 := (show u_119.1 231 20 = u_119.1 231 20 from rfl); have a9 := xu_119; omega)) hW hL (lv_sub hl [0, 1, 3, 4, 5, 6, 7, 8, 9] rfl)
                  · refine lv_aload_n hx hb dX12_named_238 rfl (lv_at hl 7 rfl) ?_
                    refine g_X12_65 Cx hW (k := 231) (by decide) rfl (v := .ref (G.2.2.1 + 250)) (rd_28 hI219) dX12_named_239 ?_
                    refine lv_iload_n hx hb dX12_named_242 rfl (lv_at hl 5 rfl) ?_
                    refine rIald Cx hW (k := 250) (by decide) rfl (by decide) (by omega) (by omega) dX12_named_243 ?_
                    have q_133 : (-2147483648) ≤ S.2.1 250 j ∧ S.2.1 250 j ≤ 2147483647 := hI.ai 250 j
                    refine r_i (b := S.2.1 250 j) (((hL219_ 250 rfl).2.1 j).trans (((hL213_ 250 rfl).2.1 j).trans (((hL167_ 250 rfl).2.1 j).trans (uF_a)))) ?_
                    refine lv_goto (tgt := 253) hx hb dX12_named_244 (by decide) ?_
                    refine lv_istore (lv' := [(9, .int (iv (S.2.1 250 j))), (8, .int (iv i)), (7, .int (iv plc)), (6, .int (iv dm)), (5, .int (iv (S.2.1 249 j))), (4, .int (iv br)), (3, .int (iv j)), (2, .int (iv (S.1 231 24))), (0, .ref (G.2.2.1 + 231)), (1, .int (iv ix))]) hx hb dX12_named_253 hl (by decide) rfl (fun ls hl => ?_)
                    obtain ⟨k1, k2, k3⟩ : 0 ≤ S.2.1 250 j ∧ S.2.1 250 j < S.1 231 25 ∧ S.2.1 249 (S.2.1 250 j) = 1 := by rcases hij.1 with q0 | q0; (exact absurd q0 (by omega)); exact q0
                    have hst := (hNX.1.2 (S.2.1 250 j) k1 k2).2.1 k3
                    have hi5 := h167r i (by omega) (by omega)
                    have hsz : nSz S (S.2.1 250 j) = S.2.1 251 (S.2.1 250 j) - S.2.1 250 (S.2.1 250 j) + 1 := by unfold nSz; rw [if_neg (by omega)]
                    refine lv_aload_n hx hb dX12_named_255 rfl (lv_at hl 8 rfl) ?_
                    refine g_X12_91 Cx hW (k := 231) (by decide) rfl (v := .ref (G.2.2.1 + 258)) (rd_44 hI219) dX12_named_256 ?_
                    refine lv_iload hx hb dX12_named_259 (lv_at hl 1 rfl) ?_
                    refine rIald Cx hW (k := 258) (by decide) rfl (by decide) (by omega) (by omega) dX12_named_261 ?_
                    have q_134 : (-2147483648) ≤ S167.2.1 258 i ∧ S167.2.1 258 i ≤ 2147483647 := hI167.ai 258 i
                    refine r_i (b := S167.2.1 258 i) (((hL219_ 258 rfl).2.1 i).trans ((hL213_ 258 rfl).2.1 i)) ?_
                    refine lv_aload_n hx hb dX12_named_262 rfl (lv_at hl 8 rfl) ?_
                    refine g_X12_65 Cx hW (k := 231) (by decide) rfl (v := .ref (G.2.2.1 + 250)) (rd_28 hI219) dX12_named_263 ?_
                    refine lv_iload hx hb dX12_named_266 (lv_at hl 0 rfl) ?_
                    refine rIald Cx hW (k := 250) (by decide) rfl (by decide) (by omega) (by omega) dX12_named_268 ?_
                    have q_135 : (-2147483648) ≤ S.2.1 250 (S.2.1 250 j) ∧ S.2.1 250 (S.2.1 250 j) ≤ 2147483647 := hI.ai 250 (S.2.1 250 j)
                    refine r_i (b := S.2.1 250 (S.2.1 250 j)) (((hL219_ 250 rfl).2.1 (S.2.1 250 j)).trans (((hL213_ 250 rfl).2.1 (S.2.1 250 j)).trans (((hL167_ 250 rfl).2.1 (S.2.1 250 j)).trans (uF_a)))) ?_
                    refine r_icmp_lt (tgt := 289) hx hb ⟨(by omega), (by omega)⟩ ⟨(by omega), (by omega)⟩ dX12_named_269 (by decide) (fun c_136 => ?_) (fun c_136 => ?_)
                    · refine lv_aload_n hx hb dX12_named_289 rfl (lv_at hl 8 rfl) ?_
                      refine lv_iconst (v := iv 5) hx hb dX12_named_290 (by decide) ?_
                      refine lv_iload_n hx hb dX12_named_291 rfl (lv_at hl 7 rfl) ?_
                      refine sBv (sV (As := [.int (iv 5), .int (iv (S.1 231 24))]) (rest := []) (k := 231) Cx (s_X12_wrong l G S219 (cd := 5) (tk := S.1 231 24) hI219 (by omega) (by omega)) (c_X12_321 Cx rfl rfl (rmk_ok (by omega) (by decide))) hW (by decide) rfl rfl rfl hl.1 rfl (Nat.le_of_ble_eq_true rfl) dX12_named_292 ⟨Nat.le_of_ble_eq_true rfl, Nat.le_of_ble_eq_true rfl⟩) hL (fun u_137 H locs k_138 hW hL => ?_)
                      obtain ⟨iu_137, fu_137, gu_137, xu_137⟩ := k_138
                      have F_139 := hFm219.trans (fu_137.to (pl_sub (by decide)))
                      have F_140 := hFL167219.trans (fu_137.to (pl_sub (by decide)))
                      have F_141 := hFL213219.trans fu_137
                      have F_142 := hL219_.trans fu_137
                      have g_143 : FF S u_137 (fl [20, 21, 24, 43]) := FF.trans hGm219 (FF.to gu_137 (fl_sub (by decide)))
                      have g_144 : FF ((uF S 231 24 ((S.1 231 24) + 1))) u_137 (fl [20, 21, 24, 43]) := FF.trans hGL167219 (FF.to gu_137 (fl_sub (by decide)))
                      have g_145 : FF S167 u_137 (fl [20, 21]) := FF.trans hGL213219 (FF.to gu_137 (fl_sub (by decide)))
                      have g_146 : FF S213 u_137 (fl [20, 21]) := FF.trans gL219_ (FF.to gu_137 (fl_sub (by decide)))
                      refine lv_iload hx hb dX12_named_295 (lv_at hl 2 rfl) ?_
                      refine lv_aload_n hx hb dX12_named_297 rfl (lv_at hl 8 rfl) ?_
                      refine lv_iload hx hb dX12_named_298 (lv_at hl 0 rfl) ?_
                      refine sBi (sV (As := [.int (iv (S.2.1 250 j))]) (rest := [.int (iv plc)]) (k := 231) Cx (s_X12_sizeOf l G u_137 (i := S.2.1 250 j) iu_137 (nSx.cg (S := S) (NX.sx hNX hij.1 (by omega)) (fun _ => ⟨((fu_137 250 rfl).2.1 ((S.2.1 250 j))).trans (((hL219_ 250 rfl).2.1 ((S.2.1 250 j))).trans (((hL213_ 250 rfl).2.1 ((S.2.1 250 j))).trans (((hL167_ 250 rfl).2.1 ((S.2.1 250 j))).trans (uF_a)))), ((fu_137 251 rfl).2.1 ((S.2.1 250 j))).trans (((hL219_ 251 rfl).2.1 ((S.2.1 250 j))).trans (((hL213_ 251 rfl).2.1 ((S.2.1 250 j))).trans (((hL167_ 251 rfl).2.1 ((S.2.1 250 j))).trans (uF_a))))⟩)).1) (c_X12_410 Cx rfl rfl (rmk_ok (by omega) (by decide))) hW (by decide) rfl rfl rfl hl.1 rfl (Nat.le_of_ble_eq_true rfl) dX12_named_300 ⟨Nat.le_of_ble_eq_true rfl, Nat.le_of_ble_eq_true rfl⟩) hL (fun r_149 u_147 H locs k_148 hW hL => ?_)
                      obtain ⟨eu_147, xu_147⟩ := k_148
                      rw [eu_147] at hW
                      have hr9 : r_149 = nSz S (S.2.1 250 j) := xu_147.1.trans ((nSx.cg (S := S) (NX.sx hNX hij.1 (by omega)) (fun _ => ⟨((fu_137 250 rfl).2.1 ((S.2.1 250 j))).trans (((hL219_ 250 rfl).2.1 ((S.2.1 250 j))).trans (((hL213_ 250 rfl).2.1 ((S.2.1 250 j))).trans (((hL167_ 250 rfl).2.1 ((S.2.1 250 j))).trans (uF_a)))), ((fu_137 251 rfl).2.1 ((S.2.1 250 j))).trans (((hL219_ 251 rfl).2.1 ((S.2.1 250 j))).trans (((hL213_ 251 rfl).2.1 ((S.2.1 250 j))).trans (((hL167_ 251 rfl).2.1 ((S.2.1 250 j))).trans (uF_a))))⟩)).2)
                      refine r_imul hx hb dX12_named_303 ?_
                      refine lv_aload_n hx hb dX12_named_304 rfl (lv_at hl 8 rfl) ?_
                      refine g_X12_91 Cx hW (k := 231) (by decide) rfl (v := .ref (G.2.2.1 + 258)) (rd_44 iu_137) dX12_named_305 ?_
                      refine lv_iload hx hb dX12_named_308 (lv_at hl 1 rfl) ?_
                      refine rIald Cx hW (k := 258) (by decide) rfl (by decide) (by omega) (by omega) dX12_named_310 ?_
                      refine r_i (b := S167.2.1 258 i) (((fu_137 258 rfl).2.1 i).trans (((hL219_ 258 rfl).2.1 i).trans ((hL213_ 258 rfl).2.1 i))) ?_
                      refine r_iadd hx hb dX12_named_311 ?_
                      refine lv_aload_n hx hb dX12_named_312 rfl (lv_at hl 8 rfl) ?_
                      refine g_X12_65 Cx hW (k := 231) (by decide) rfl (v := .ref (G.2.2.1 + 250)) (rd_28 iu_137) dX12_named_313 ?_
                      refine lv_iload hx hb dX12_named_316 (lv_at hl 0 rfl) ?_
                      refine rIald Cx hW (k := 250) (by decide) rfl (by decide) (by omega) (by omega) dX12_named_318 ?_
                      refine r_i (b := S.2.1 250 (S.2.1 250 j)) (((fu_137 250 rfl).2.1 (S.2.1 250 j)).trans (((hL219_ 250 rfl).2.1 (S.2.1 250 j)).trans (((hL213_ 250 rfl).2.1 (S.2.1 250 j)).trans (((hL167_ 250 rfl).2.1 (S.2.1 250 j)).trans (uF_a))))) ?_
                      refine r_isub hx hb dX12_named_319 ?_
                      refine lv_istore (lv' := [(7, .int (iv (((plc * r_149) + (S167.2.1 258 i)) - (S.2.1 250 (S.2.1 250 j))))), (9, .int (iv (S.2.1 250 j))), (8, .int (iv i)), (6, .int (iv dm)), (5, .int (iv (S.2.1 249 j))), (4, .int (iv br)), (3, .int (iv j)), (2, .int (iv (S.1 231 24))), (0, .ref (G.2.2.1 + 231)), (1, .int (iv ix))]) hx hb dX12_named_320 hl (by decide) rfl (fun ls hl => ?_)
                      refine lv_iinc (v := iv (i + 1)) (lv' := [(8, .int (iv (i + 1))), (7, .int (iv (((plc * r_149) + (S167.2.1 258 i)) - (S.2.1 250 (S.2.1 250 j))))), (9, .int (iv (S.2.1 250 j))), (6, .int (iv dm)), (5, .int (iv (S.2.1 249 j))), (4, .int (iv br)), (3, .int (iv j)), (2, .int (iv (S.1 231 24))), (0, .ref (G.2.2.1 + 231)), (1, .int (iv ix))]) hx hb dX12_named_322 hl (k := 2) rfl ((Int32.ofInt_add _ _).symm) (by decide) rfl (fun ls hl => ?_)
                      refine lv_goto (tgt := 219) hx hb dX12_named_325 (by decide) ?_
                      have q_150 : (-2147483648) ≤ u_137.1 231 20 ∧ u_137.1 231 20 ≤ 2147483647 := iu_137.fi 20
                      exact ih_219 u_137 (i + 1) (((plc * r_149) + (S167.2.1 258 i)) - (S.2.1 250 (S.2.1 250 j))) _ _ _ (by omega) iu_137 F_139 F_140 F_141 F_142 g_143 g_144 g_145 g_146 (by omega) (fun h => absurd h (by have e9 := (show u_137.1 231 20 = u_137.1 231 20 from rfl); have a9 := xu_137; omega)) hW hL (lv_sub hl [0, 1, 3, 4, 5, 6, 7, 8, 9] rfl)
                    · refine lv_aload_n hx hb dX12_named_272 rfl (lv_at hl 8 rfl) ?_
                      refine g_X12_91 Cx hW (k := 231) (by decide) rfl (v := .ref (G.2.2.1 + 258)) (rd_44 hI219) dX12_named_273 ?_
                      refine lv_iload hx hb dX12_named_276 (lv_at hl 1 rfl) ?_
                      refine rIald Cx hW (k := 258) (by decide) rfl (by decide) (by omega) (by omega) dX12_named_278 ?_
                      refine r_i (b := S167.2.1 258 i) (((hL219_ 258 rfl).2.1 i).trans ((hL213_ 258 rfl).2.1 i)) ?_
                      refine lv_aload_n hx hb dX12_named_279 rfl (lv_at hl 8 rfl) ?_
                      refine g_X12_68 Cx hW (k := 231) (by decide) rfl (v := .ref (G.2.2.1 + 251)) (rd_29 hI219) dX12_named_280 ?_
                      refine lv_iload hx hb dX12_named_283 (lv_at hl 0 rfl) ?_
                      refine rIald Cx hW (k := 251) (by decide) rfl (by decide) (by omega) (by omega) dX12_named_285 ?_
                      have q_151 : (-2147483648) ≤ S.2.1 251 (S.2.1 250 j) ∧ S.2.1 251 (S.2.1 250 j) ≤ 2147483647 := hI.ai 251 (S.2.1 250 j)
                      refine r_i (b := S.2.1 251 (S.2.1 250 j)) (((hL219_ 251 rfl).2.1 (S.2.1 250 j)).trans (((hL213_ 251 rfl).2.1 (S.2.1 250 j)).trans (((hL167_ 251 rfl).2.1 (S.2.1 250 j)).trans (uF_a)))) ?_
                      refine r_icmp_le (tgt := 295) hx hb ⟨(by omega), (by omega)⟩ ⟨(by omega), (by omega)⟩ dX12_named_286 (by decide) (fun c_152 => ?_) (fun c_152 => ?_)
                      · refine lv_iload hx hb dX12_named_295 (lv_at hl 2 rfl) ?_
                        refine lv_aload_n hx hb dX12_named_297 rfl (lv_at hl 8 rfl) ?_
                        refine lv_iload hx hb dX12_named_298 (lv_at hl 0 rfl) ?_
                        refine sBi (sV (As := [.int (iv (S.2.1 250 j))]) (rest := [.int (iv plc)]) (k := 231) Cx (s_X12_sizeOf l G S219 (i := S.2.1 250 j) hI219 (nSx.cg (S := S) (NX.sx hNX hij.1 (by omega)) (fun _ => ⟨((hL219_ 250 rfl).2.1 ((S.2.1 250 j))).trans (((hL213_ 250 rfl).2.1 ((S.2.1 250 j))).trans (((hL167_ 250 rfl).2.1 ((S.2.1 250 j))).trans (uF_a))), ((hL219_ 251 rfl).2.1 ((S.2.1 250 j))).trans (((hL213_ 251 rfl).2.1 ((S.2.1 250 j))).trans (((hL167_ 251 rfl).2.1 ((S.2.1 250 j))).trans (uF_a)))⟩)).1) (c_X12_410 Cx rfl rfl (rmk_ok (by omega) (by decide))) hW (by decide) rfl rfl rfl hl.1 rfl (Nat.le_of_ble_eq_true rfl) dX12_named_300 ⟨Nat.le_of_ble_eq_true rfl, Nat.le_of_ble_eq_true rfl⟩) hL (fun r_155 u_153 H locs k_154 hW hL => ?_)
                        obtain ⟨eu_153, xu_153⟩ := k_154
                        rw [eu_153] at hW
                        have hr9 : r_155 = nSz S (S.2.1 250 j) := xu_153.1.trans ((nSx.cg (S := S) (NX.sx hNX hij.1 (by omega)) (fun _ => ⟨((hL219_ 250 rfl).2.1 ((S.2.1 250 j))).trans (((hL213_ 250 rfl).2.1 ((S.2.1 250 j))).trans (((hL167_ 250 rfl).2.1 ((S.2.1 250 j))).trans (uF_a))), ((hL219_ 251 rfl).2.1 ((S.2.1 250 j))).trans (((hL213_ 251 rfl).2.1 ((S.2.1 250 j))).trans (((hL167_ 251 rfl).2.1 ((S.2.1 250 j))).trans (uF_a)))⟩)).2)
                        refine r_imul hx hb dX12_named_303 ?_
                        refine lv_aload_n hx hb dX12_named_304 rfl (lv_at hl 8 rfl) ?_
                        refine g_X12_91 Cx hW (k := 231) (by decide) rfl (v := .ref (G.2.2.1 + 258)) (rd_44 hI219) dX12_named_305 ?_
                        refine lv_iload hx hb dX12_named_308 (lv_at hl 1 rfl) ?_
                        refine rIald Cx hW (k := 258) (by decide) rfl (by decide) (by omega) (by omega) dX12_named_310 ?_
                        refine r_i (b := S167.2.1 258 i) (((hL219_ 258 rfl).2.1 i).trans ((hL213_ 258 rfl).2.1 i)) ?_
                        refine r_iadd hx hb dX12_named_311 ?_
                        refine lv_aload_n hx hb dX12_named_312 rfl (lv_at hl 8 rfl) ?_
                        refine g_X12_65 Cx hW (k := 231) (by decide) rfl (v := .ref (G.2.2.1 + 250)) (rd_28 hI219) dX12_named_313 ?_
                        refine lv_iload hx hb dX12_named_316 (lv_at hl 0 rfl) ?_
                        refine rIald Cx hW (k := 250) (by decide) rfl (by decide) (by omega) (by omega) dX12_named_318 ?_
                        refine r_i (b := S.2.1 250 (S.2.1 250 j)) (((hL219_ 250 rfl).2.1 (S.2.1 250 j)).trans (((hL213_ 250 rfl).2.1 (S.2.1 250 j)).trans (((hL167_ 250 rfl).2.1 (S.2.1 250 j)).trans (uF_a)))) ?_
                        refine r_isub hx hb dX12_named_319 ?_
                        refine lv_istore (lv' := [(7, .int (iv (((plc * r_155) + (S167.2.1 258 i)) - (S.2.1 250 (S.2.1 250 j))))), (9, .int (iv (S.2.1 250 j))), (8, .int (iv i)), (6, .int (iv dm)), (5, .int (iv (S.2.1 249 j))), (4, .int (iv br)), (3, .int (iv j)), (2, .int (iv (S.1 231 24))), (0, .ref (G.2.2.1 + 231)), (1, .int (iv ix))]) hx hb dX12_named_320 hl (by decide) rfl (fun ls hl => ?_)
                        refine lv_iinc (v := iv (i + 1)) (lv' := [(8, .int (iv (i + 1))), (7, .int (iv (((plc * r_155) + (S167.2.1 258 i)) - (S.2.1 250 (S.2.1 250 j))))), (9, .int (iv (S.2.1 250 j))), (6, .int (iv dm)), (5, .int (iv (S.2.1 249 j))), (4, .int (iv br)), (3, .int (iv j)), (2, .int (iv (S.1 231 24))), (0, .ref (G.2.2.1 + 231)), (1, .int (iv ix))]) hx hb dX12_named_322 hl (k := 2) rfl ((Int32.ofInt_add _ _).symm) (by decide) rfl (fun ls hl => ?_)
                        refine lv_goto (tgt := 219) hx hb dX12_named_325 (by decide) ?_
                        exact ih_219 S219 (i + 1) (((plc * r_155) + (S167.2.1 258 i)) - (S.2.1 250 (S.2.1 250 j))) _ _ _ (by omega) hI219 hFm219 hFL167219 hFL213219 hL219_ hGm219 hGL167219 hGL213219 gL219_ (by omega) (fun h => ⟨(by omega), .inr (.inl ⟨(by omega), (by have hm : plc * r_155 = 0 := (by rw [show plc = 0 by omega, Int.zero_mul]); omega)⟩)⟩) hW hL (lv_sub hl [0, 1, 3, 4, 5, 6, 7, 8, 9] rfl)
                      · refine lv_aload_n hx hb dX12_named_289 rfl (lv_at hl 8 rfl) ?_
                        refine lv_iconst (v := iv 5) hx hb dX12_named_290 (by decide) ?_
                        refine lv_iload_n hx hb dX12_named_291 rfl (lv_at hl 7 rfl) ?_
                        refine sBv (sV (As := [.int (iv 5), .int (iv (S.1 231 24))]) (rest := []) (k := 231) Cx (s_X12_wrong l G S219 (cd := 5) (tk := S.1 231 24) hI219 (by omega) (by omega)) (c_X12_321 Cx rfl rfl (rmk_ok (by omega) (by decide))) hW (by decide) rfl rfl rfl hl.1 rfl (Nat.le_of_ble_eq_true rfl) dX12_named_292 ⟨Nat.le_of_ble_eq_true rfl, Nat.le_of_ble_eq_true rfl⟩) hL (fun u_156 H locs k_157 hW hL => ?_)
                        obtain ⟨iu_156, fu_156, gu_156, xu_156⟩ := k_157
                        have F_158 := hFm219.trans (fu_156.to (pl_sub (by decide)))
                        have F_159 := hFL167219.trans (fu_156.to (pl_sub (by decide)))
                        have F_160 := hFL213219.trans fu_156
                        have F_161 := hL219_.trans fu_156
                        have g_162 : FF S u_156 (fl [20, 21, 24, 43]) := FF.trans hGm219 (FF.to gu_156 (fl_sub (by decide)))
                        have g_163 : FF ((uF S 231 24 ((S.1 231 24) + 1))) u_156 (fl [20, 21, 24, 43]) := FF.trans hGL167219 (FF.to gu_156 (fl_sub (by decide)))
                        have g_164 : FF S167 u_156 (fl [20, 21]) := FF.trans hGL213219 (FF.to gu_156 (fl_sub (by decide)))
                        have g_165 : FF S213 u_156 (fl [20, 21]) := FF.trans gL219_ (FF.to gu_156 (fl_sub (by decide)))
                        refine lv_iload hx hb dX12_named_295 (lv_at hl 2 rfl) ?_
                        refine lv_aload_n hx hb dX12_named_297 rfl (lv_at hl 8 rfl) ?_
                        refine lv_iload hx hb dX12_named_298 (lv_at hl 0 rfl) ?_
                        refine sBi (sV (As := [.int (iv (S.2.1 250 j))]) (rest := [.int (iv plc)]) (k := 231) Cx (s_X12_sizeOf l G u_156 (i := S.2.1 250 j) iu_156 (nSx.cg (S := S) (NX.sx hNX hij.1 (by omega)) (fun _ => ⟨((fu_156 250 rfl).2.1 ((S.2.1 250 j))).trans (((hL219_ 250 rfl).2.1 ((S.2.1 250 j))).trans (((hL213_ 250 rfl).2.1 ((S.2.1 250 j))).trans (((hL167_ 250 rfl).2.1 ((S.2.1 250 j))).trans (uF_a)))), ((fu_156 251 rfl).2.1 ((S.2.1 250 j))).trans (((hL219_ 251 rfl).2.1 ((S.2.1 250 j))).trans (((hL213_ 251 rfl).2.1 ((S.2.1 250 j))).trans (((hL167_ 251 rfl).2.1 ((S.2.1 250 j))).trans (uF_a))))⟩)).1) (c_X12_410 Cx rfl rfl (rmk_ok (by omega) (by decide))) hW (by decide) rfl rfl rfl hl.1 rfl (Nat.le_of_ble_eq_true rfl) dX12_named_300 ⟨Nat.le_of_ble_eq_true rfl, Nat.le_of_ble_eq_true rfl⟩) hL (fun r_168 u_166 H locs k_167 hW hL => ?_)
                        obtain ⟨eu_166, xu_166⟩ := k_167
                        rw [eu_166] at hW
                        have hr9 : r_168 = nSz S (S.2.1 250 j) := xu_166.1.trans ((nSx.cg (S := S) (NX.sx hNX hij.1 (by omega)) (fun _ => ⟨((fu_156 250 rfl).2.1 ((S.2.1 250 j))).trans (((hL219_ 250 rfl).2.1 ((S.2.1 250 j))).trans (((hL213_ 250 rfl).2.1 ((S.2.1 250 j))).trans (((hL167_ 250 rfl).2.1 ((S.2.1 250 j))).trans (uF_a)))), ((fu_156 251 rfl).2.1 ((S.2.1 250 j))).trans (((hL219_ 251 rfl).2.1 ((S.2.1 250 j))).trans (((hL213_ 251 rfl).2.1 ((S.2.1 250 j))).trans (((hL167_ 251 rfl).2.1 ((S.2.1 250 j))).trans (uF_a))))⟩)).2)
                        refine r_imul hx hb dX12_named_303 ?_
                        refine lv_aload_n hx hb dX12_named_304 rfl (lv_at hl 8 rfl) ?_
                        refine g_X12_91 Cx hW (k := 231) (by decide) rfl (v := .ref (G.2.2.1 + 258)) (rd_44 iu_156) dX12_named_305 ?_
                        refine lv_iload hx hb dX12_named_308 (lv_at hl 1 rfl) ?_
                        refine rIald Cx hW (k := 258) (by decide) rfl (by decide) (by omega) (by omega) dX12_named_310 ?_
                        refine r_i (b := S167.2.1 258 i) (((fu_156 258 rfl).2.1 i).trans (((hL219_ 258 rfl).2.1 i).trans ((hL213_ 258 rfl).2.1 i))) ?_
                        refine r_iadd hx hb dX12_named_311 ?_
                        refine lv_aload_n hx hb dX12_named_312 rfl (lv_at hl 8 rfl) ?_
                        refine g_X12_65 Cx hW (k := 231) (by decide) rfl (v := .ref (G.2.2.1 + 250)) (rd_28 iu_156) dX12_named_313 ?_
                        refine lv_iload hx hb dX12_named_316 (lv_at hl 0 rfl) ?_
                        refine rIald Cx hW (k := 250) (by decide) rfl (by decide) (by omega) (by omega) dX12_named_318 ?_
                        refine r_i (b := S.2.1 250 (S.2.1 250 j)) (((fu_156 250 rfl).2.1 (S.2.1 250 j)).trans (((hL219_ 250 rfl).2.1 (S.2.1 250 j)).trans (((hL213_ 250 rfl).2.1 (S.2.1 250 j)).trans (((hL167_ 250 rfl).2.1 (S.2.1 250 j)).trans (uF_a))))) ?_
                        refine r_isub hx hb dX12_named_319 ?_
                        refine lv_istore (lv' := [(7, .int (iv (((plc * r_168) + (S167.2.1 258 i)) - (S.2.1 250 (S.2.1 250 j))))), (9, .int (iv (S.2.1 250 j))), (8, .int (iv i)), (6, .int (iv dm)), (5, .int (iv (S.2.1 249 j))), (4, .int (iv br)), (3, .int (iv j)), (2, .int (iv (S.1 231 24))), (0, .ref (G.2.2.1 + 231)), (1, .int (iv ix))]) hx hb dX12_named_320 hl (by decide) rfl (fun ls hl => ?_)
                        refine lv_iinc (v := iv (i + 1)) (lv' := [(8, .int (iv (i + 1))), (7, .int (iv (((plc * r_168) + (S167.2.1 258 i)) - (S.2.1 250 (S.2.1 250 j))))), (9, .int (iv (S.2.1 250 j))), (6, .int (iv dm)), (5, .int (iv (S.2.1 249 j))), (4, .int (iv br)), (3, .int (iv j)), (2, .int (iv (S.1 231 24))), (0, .ref (G.2.2.1 + 231)), (1, .int (iv ix))]) hx hb dX12_named_322 hl (k := 2) rfl ((Int32.ofInt_add _ _).symm) (by decide) rfl (fun ls hl => ?_)
                        refine lv_goto (tgt := 219) hx hb dX12_named_325 (by decide) ?_
                        have q_169 : (-2147483648) ≤ u_156.1 231 20 ∧ u_156.1 231 20 ≤ 2147483647 := iu_156.fi 20
                        exact ih_219 u_156 (i + 1) (((plc * r_168) + (S167.2.1 258 i)) - (S.2.1 250 (S.2.1 250 j))) _ _ _ (by omega) iu_156 F_158 F_159 F_160 F_161 g_162 g_163 g_164 g_165 (by omega) (fun h => absurd h (by have e9 := (show u_156.1 231 20 = u_156.1 231 20 from rfl); have a9 := xu_156; omega)) hW hL (lv_sub hl [0, 1, 3, 4, 5, 6, 7, 8, 9] rfl)
          have q_170 : (-2147483648) ≤ S213.1 231 20 ∧ S213.1 231 20 ≤ 2147483647 := hI213.fi 20
          exact loop_219 (_ + 1) S213 0 0 _ _ _ (Nat.lt_succ_self _) hI213 hFm213 hFL167213 hL213_ Fr.rf hGm213 hGL167213 gL213_ FF.rf (by omega) (fun h => ⟨h213 h, .inl ⟨rfl, rfl⟩⟩) hW hL (lv_sub hl [0, 1, 2, 3, 4, 5, 6, 7, 8] rfl)
        refine lv_aload_n hx hb dX12_named_198 rfl (lv_at hl 5 rfl) ?_
        have q_171 : (-2147483648) ≤ S167.1 231 43 ∧ S167.1 231 43 ≤ 2147483647 := hI167.fi 43
        refine g_X12_441 Cx hW (k := 231) (by decide) rfl (v := S167.1 231 43) rfl dX12_named_199 ?_
        refine lv_iload hx hb dX12_named_202 (lv_at hl 0 rfl) ?_
        refine r_icmp_eq (tgt := 213) hx hb ⟨(by omega), (by omega)⟩ ⟨(by omega), (by omega)⟩ dX12_named_204 (by decide) (fun c_172 => ?_) (fun c_172 => ?_)
        · have q_173 : (-2147483648) ≤ S167.1 231 20 ∧ S167.1 231 20 ≤ 2147483647 := hI167.fi 20
          exact join_213 S167  _ _ _ hI167 hFm167 hL167_ (Fr.rf : Fr S167 S167 (pl [231])) hGm167 gL167_ (FF.rf : FF S167 S167 (fl [20, 21])) (fun _ => by omega) hW hL (lv_sub hl [0, 1, 2, 3, 4, 5, 6] rfl)
        · refine lv_aload_n hx hb dX12_named_207 rfl (lv_at hl 5 rfl) ?_
          refine lv_iconst (v := iv 2) hx hb dX12_named_208 (by decide) ?_
          refine lv_iload_n hx hb dX12_named_209 rfl (lv_at hl 4 rfl) ?_
          refine sBv (sV (As := [.int (iv 2), .int (iv (S.1 231 24))]) (rest := []) (k := 231) Cx (s_X12_wrong l G S167 (cd := 2) (tk := S.1 231 24) hI167 (by omega) (by omega)) (c_X12_321 Cx rfl rfl (rmk_ok (by omega) (by decide))) hW (by decide) rfl rfl rfl hl.1 rfl (Nat.le_of_ble_eq_true rfl) dX12_named_210 ⟨Nat.le_of_ble_eq_true rfl, Nat.le_of_ble_eq_true rfl⟩) hL (fun u_174 H locs k_175 hW hL => ?_)
          obtain ⟨iu_174, fu_174, gu_174, xu_174⟩ := k_175
          have F_176 := hFm167.trans (fu_174.to (pl_sub (by decide)))
          have F_177 := hL167_.trans (fu_174.to (pl_sub (by decide)))
          have F_178 := (Fr.rf : Fr S167 S167 (pl [231])).trans fu_174
          have g_179 : FF S u_174 (fl [20, 21, 24, 43]) := FF.trans hGm167 (FF.to gu_174 (fl_sub (by decide)))
          have g_180 : FF ((uF S 231 24 ((S.1 231 24) + 1))) u_174 (fl [20, 21, 24, 43]) := FF.trans gL167_ (FF.to gu_174 (fl_sub (by decide)))
          have g_181 : FF S167 u_174 (fl [20, 21]) := FF.trans (FF.rf : FF S167 S167 (fl [20, 21])) (FF.to gu_174 (fl_sub (by decide)))
          have q_182 : (-2147483648) ≤ u_174.1 231 20 ∧ u_174.1 231 20 ≤ 2147483647 := iu_174.fi 20
          exact join_213 u_174  _ _ _ iu_174 F_176 F_177 F_178 g_179 g_180 g_181 (fun h => absurd h (by have e9 := (show u_174.1 231 20 = u_174.1 231 20 from rfl); have a9 := xu_174; omega)) hW hL (lv_sub hl [0, 1, 2, 3, 4, 5, 6] rfl)
      refine lv_aload_n hx hb dX12_named_167 rfl (lv_at hl 4 rfl) ?_
      refine g_X12_68 Cx hW (k := 231) (by decide) rfl (v := .ref (G.2.2.1 + 251)) (rd_29 hI167) dX12_named_168 ?_
      refine lv_iload_n hx hb dX12_named_171 rfl (lv_at hl 2 rfl) ?_
      refine rIald Cx hW (k := 251) (by decide) rfl (by decide) (by omega) (by omega) dX12_named_172 ?_
      have q_183 : (-2147483648) ≤ S.2.1 251 j ∧ S.2.1 251 j ≤ 2147483647 := hI.ai 251 j
      refine r_i (b := S.2.1 251 j) (((hL167_ 251 rfl).2.1 j).trans (uF_a)) ?_
      refine lv_iconst (v := iv (-1)) hx hb dX12_named_173 (by decide) ?_
      refine r_icmp_eq (tgt := 181) hx hb ⟨(by omega), (by omega)⟩ ⟨(by omega), (by omega)⟩ dX12_named_174 (by decide) (fun c_184 => ?_) (fun c_184 => ?_)
      · refine lv_aload_n hx hb dX12_named_181 rfl (lv_at hl 4 rfl) ?_
        refine g_X12_65 Cx hW (k := 231) (by decide) rfl (v := .ref (G.2.2.1 + 250)) (rd_28 hI167) dX12_named_182 ?_
        refine lv_iload_n hx hb dX12_named_185 rfl (lv_at hl 2 rfl) ?_
        refine rIald Cx hW (k := 250) (by decide) rfl (by decide) (by omega) (by omega) dX12_named_186 ?_
        have q_185 : (-2147483648) ≤ S.2.1 250 j ∧ S.2.1 250 j ≤ 2147483647 := hI.ai 250 j
        refine r_i (b := S.2.1 250 j) (((hL167_ 250 rfl).2.1 j).trans (uF_a)) ?_
        refine lv_iconst (v := iv (-1)) hx hb dX12_named_187 (by decide) ?_
        refine r_icmp_eq (tgt := 195) hx hb ⟨(by omega), (by omega)⟩ ⟨(by omega), (by omega)⟩ dX12_named_188 (by decide) (fun c_186 => ?_) (fun c_186 => ?_)
        · refine lv_iconst (v := iv 0) hx hb dX12_named_195 (by decide) ?_
          exact join_196 0 _ _ _ (by omega) hW hL (lv_sub hl [0, 1, 2, 3, 4, 5] rfl)
        · refine lv_iconst (v := iv 1) hx hb dX12_named_191 (by decide) ?_
          refine lv_goto (tgt := 196) hx hb dX12_named_192 (by decide) ?_
          exact join_196 1 _ _ _ (by omega) hW hL (lv_sub hl [0, 1, 2, 3, 4, 5] rfl)
      · refine lv_iconst (v := iv 2) hx hb dX12_named_177 (by decide) ?_
        refine lv_goto (tgt := 196) hx hb dX12_named_178 (by decide) ?_
        exact join_196 2 _ _ _ (by omega) hW hL (lv_sub hl [0, 1, 2, 3, 4, 5] rfl)
    refine lv_iload hx hb dX12_named_46 (lv_at hl 0 rfl) ?_
    refine lv_iconst (v := iv 2) hx hb dX12_named_48 (by decide) ?_
    refine r_icmp_eq (tgt := 76) hx hb ⟨(by omega), (by omega)⟩ ⟨(by omega), (by omega)⟩ dX12_named_49 (by decide) (fun c_187 => ?_) (fun c_187 => ?_)
    · refine lv_iload hx hb dX12_named_76 (lv_at hl 0 rfl) ?_
      refine lv_iconst (v := iv 5) hx hb dX12_named_78 (by decide) ?_
      refine r_icmp_ne (tgt := 95) hx hb ⟨(by omega), (by omega)⟩ ⟨(by omega), (by omega)⟩ dX12_named_79 (by decide) (fun _ => ?_) (fun c => absurd c (by omega))
      refine lv_aload_n hx hb dX12_named_95 rfl (lv_at hl 4 rfl) ?_
      refine lv_iconst (v := iv 0) hx hb dX12_named_96 (by decide) ?_
      refine p_X12_441 Cx hW hL (k := 231) (by decide) rfl dX12_named_97 (fun H locs hW hL => ?_)
      have F_188 : Fr S (uF (uF S 231 24 ((S.1 231 24) + 1)) 231 43 0) (pl [231, 257, 258]) := F_5.F rfl
      have F_189 : Fr ((uF S 231 24 ((S.1 231 24) + 1))) (uF (uF S 231 24 ((S.1 231 24) + 1)) 231 43 0) (pl [231, 258]) := (Fr.rf : Fr (uF S 231 24 ((S.1 231 24) + 1)) (uF S 231 24 ((S.1 231 24) + 1)) (pl [231, 258])).F rfl
      have g_190 : FF S (uF (uF S 231 24 ((S.1 231 24) + 1)) 231 43 0) (fl [20, 21, 24, 43]) := FF.F g_6 rfl
      have g_191 : FF ((uF S 231 24 ((S.1 231 24) + 1))) (uF (uF S 231 24 ((S.1 231 24) + 1)) 231 43 0) (fl [20, 21, 24, 43]) := FF.F (FF.rf : FF ((uF S 231 24 ((S.1 231 24) + 1))) ((uF S 231 24 ((S.1 231 24) + 1))) (fl [20, 21, 24, 43])) rfl
      have i_192 : dX G (uF (uF S 231 24 ((S.1 231 24) + 1)) 231 43 0) := i_7.F (i := 43) (show (-2147483648) ≤ 0 ∧ 0 ≤ 2147483647 from ⟨by omega, by omega⟩)
      refine lv_iload hx hb dX12_named_100 (lv_at hl 1 rfl) ?_
      refine r_if_eq (tgt := 159) hx hb ⟨(by omega), (by omega)⟩ dX12_named_102 (by decide) (fun c_193 => ?_) (fun c_193 => ?_)
      · have hq9 : q = pz + 1 := by rcases hg.2 with h | h; (exact h.2); exact absurd h.1 (xu_9.2.2 (by omega))
        refine lv_aload_n hx hb dX12_named_159 rfl (lv_at hl 4 rfl) ?_
        have q_194 : (-2147483648) ≤ S.1 231 20 ∧ S.1 231 20 ≤ 2147483647 := hI.fi 20
        refine g_X12_270 Cx hW (k := 231) (by decide) rfl (v := S.1 231 20) ((uF_ne (fun h => absurd h.2 (by decide))).trans (uF_ne (fun h => absurd h.2 (by decide)))) dX12_named_160 ?_
        refine r_if_eq (tgt := 167) hx hb ⟨(by omega), (by omega)⟩ dX12_named_163 (by decide) (fun _ => ?_) (fun c => absurd (by omega) c)
        have lk_195 : (uF (uF S 231 24 ((S.1 231 24) + 1)) 231 43 0).1 231 20 = S.1 231 20 := (uF_ne (fun h => absurd h.2 (by decide))).trans (uF_ne (fun h => absurd h.2 (by decide)))
        have lk_196 : (uF (uF S 231 24 ((S.1 231 24) + 1)) 231 43 0).1 231 24 = (S.1 231 24) + 1 := (uF_ne (fun h => absurd h.2 (by decide))).trans (uF_on)
        have lk_197 : (uF (uF S 231 24 ((S.1 231 24) + 1)) 231 43 0).1 231 43 = 0 := uF_on
        exact join_167 (uF (uF S 231 24 ((S.1 231 24) + 1)) 231 43 0)  _ _ _ i_192 F_188 F_189 g_190 g_191 (by omega) (by have e6 := (show (uF (uF S 231 24 ((S.1 231 24) + 1)) 231 43 0).1 231 43 = 0 from uF_on); have e7 := (show (uF (uF S 231 24 ((S.1 231 24) + 1)) 231 43 0).1 231 24 = (S.1 231 24) + 1 from (uF_ne (fun h => absurd h.2 (by decide))).trans (uF_on)); have e8 := (show (uF (uF S 231 24 ((S.1 231 24) + 1)) 231 43 0).1 231 20 = S.1 231 20 from (uF_ne (fun h => absurd h.2 (by decide))).trans (uF_ne (fun h => absurd h.2 (by decide)))); omega) (fun x a b => absurd b (by omega)) hW hL (lv_sub hl [0, 1, 2, 3, 4, 5] rfl)
      · obtain ⟨a, hx1, hg2⟩ : ∃ a, gX K V (pz + 1 + 1) a ∧ ((¬ gS K V a 44 ∧ gs K V 93 a q) ∨ (gS K V a 44 ∧ ∃ b, gX K V (a + 1) b ∧ gs K V 93 b q)) := by rcases hg.2 with h | h; (exact absurd (xu_9.2.1 (by omega)) h.1); exact h.2
        have ha9 : a + 1 ≤ q := by rcases hg2 with h | h; (have := h.2.2; omega); (obtain ⟨_, b, h1, h2⟩ := h; have := gX_lt h1; have := h2.2; omega)
        have ha8 := gX_lt hx1
        refine lv_aload_n hx hb dX12_named_105 rfl (lv_at hl 4 rfl) ?_
        refine lv_dup hx hb dX12_named_106 rfl ?_
        refine g_X12_315 Cx hW (k := 231) (by decide) rfl (v := (S.1 231 24) + 1) ((uF_ne (fun h => absurd h.2 (by decide))).trans (uF_on)) dX12_named_107 ?_
        refine lv_iconst (v := iv 1) hx hb dX12_named_110 (by decide) ?_
        refine r_iadd hx hb dX12_named_111 ?_
        refine p_X12_315 Cx hW hL (k := 231) (by decide) rfl dX12_named_112 (fun H locs hW hL => ?_)
        have F_198 : Fr S (uF (uF (uF S 231 24 ((S.1 231 24) + 1)) 231 43 0) 231 24 (((S.1 231 24) + 1) + 1)) (pl [231, 257, 258]) := F_188.F rfl
        have F_199 : Fr ((uF S 231 24 ((S.1 231 24) + 1))) (uF (uF (uF S 231 24 ((S.1 231 24) + 1)) 231 43 0) 231 24 (((S.1 231 24) + 1) + 1)) (pl [231, 258]) := F_189.F rfl
        have g_200 : FF S (uF (uF (uF S 231 24 ((S.1 231 24) + 1)) 231 43 0) 231 24 (((S.1 231 24) + 1) + 1)) (fl [20, 21, 24, 43]) := FF.F g_190 rfl
        have g_201 : FF ((uF S 231 24 ((S.1 231 24) + 1))) (uF (uF (uF S 231 24 ((S.1 231 24) + 1)) 231 43 0) 231 24 (((S.1 231 24) + 1) + 1)) (fl [20, 21, 24, 43]) := FF.F g_191 rfl
        have i_202 : dX G (uF (uF (uF S 231 24 ((S.1 231 24) + 1)) 231 43 0) 231 24 (((S.1 231 24) + 1) + 1)) := i_192.F (i := 24) (show (-2147483648) ≤ ((S.1 231 24) + 1) + 1 ∧ ((S.1 231 24) + 1) + 1 ≤ 2147483647 from ⟨by omega, by omega⟩)
        refine lv_aload_n hx hb dX12_named_115 rfl (lv_at hl 4 rfl) ?_
        have q_203 : (-2147483648) ≤ S.1 231 20 ∧ S.1 231 20 ≤ 2147483647 := hI.fi 20
        have lk_204 : (uF (uF (uF S 231 24 ((S.1 231 24) + 1)) 231 43 0) 231 24 (((S.1 231 24) + 1) + 1)).1 231 20 = S.1 231 20 := (uF_ne (fun h => absurd h.2 (by decide))).trans ((uF_ne (fun h => absurd h.2 (by decide))).trans (uF_ne (fun h => absurd h.2 (by decide))))
        have lk_205 : (uF (uF (uF S 231 24 ((S.1 231 24) + 1)) 231 43 0) 231 24 (((S.1 231 24) + 1) + 1)).1 231 25 = S.1 231 25 := (uF_ne (fun h => absurd h.2 (by decide))).trans ((uF_ne (fun h => absurd h.2 (by decide))).trans (uF_ne (fun h => absurd h.2 (by decide))))
        have lk_206 : (uF (uF (uF S 231 24 ((S.1 231 24) + 1)) 231 43 0) 231 24 (((S.1 231 24) + 1) + 1)).1 231 24 = ((S.1 231 24) + 1) + 1 := uF_on
        have lk_207 : (uF (uF (uF S 231 24 ((S.1 231 24) + 1)) 231 43 0) 231 24 (((S.1 231 24) + 1) + 1)).1 231 43 = 0 := (uF_ne (fun h => absurd h.2 (by decide))).trans (uF_on)
        refine sBv (sV (As := []) (rest := []) (k := 231) Cx (s_X12_index l G (uF (uF (uF S 231 24 ((S.1 231 24) + 1)) 231 43 0) 231 24 (((S.1 231 24) + 1) + 1)) (K := K) (V := V) (Fm := Fm) (Wd := Wd) (T := T) (pz := ((pz) + 1) + 1) (q := a) i_202 ((funext fun j => (uF_a).trans ((uF_a).trans (uF_a)) : (uF (uF (uF S 231 24 ((S.1 231 24) + 1)) 231 43 0) 231 24 (((S.1 231 24) + 1) + 1)).2.1 244 = S.2.1 244).trans hK) ((funext fun j => (uF_a).trans ((uF_a).trans (uF_a)) : (uF (uF (uF S 231 24 ((S.1 231 24) + 1)) 231 43 0) 231 24 (((S.1 231 24) + 1) + 1)).2.1 247 = S.2.1 247).trans hV) ((funext fun j => (uF_a).trans ((uF_a).trans (uF_a)) : (uF (uF (uF S 231 24 ((S.1 231 24) + 1)) 231 43 0) 231 24 (((S.1 231 24) + 1) + 1)).2.1 245 = S.2.1 245).trans hFm) ((funext fun j => (uF_a).trans ((uF_a).trans (uF_a)) : (uF (uF (uF S 231 24 ((S.1 231 24) + 1)) 231 43 0) 231 24 (((S.1 231 24) + 1) + 1)).2.1 246 = S.2.1 246).trans hWd) hQ (fun _ => (NX.cg (S := S) (u := (uF (uF (uF S 231 24 ((S.1 231 24) + 1)) 231 43 0) 231 24 (((S.1 231 24) + 1) + 1))) hNX (NR.eq (funext fun j => (uF_a).trans ((uF_a).trans (uF_a))) (funext fun j => (uF_a).trans ((uF_a).trans (uF_a))) (funext fun j => (uF_a).trans ((uF_a).trans (uF_a))) (funext fun j => (uF_a).trans ((uF_a).trans (uF_a))) (funext fun j => (uF_a).trans ((uF_a).trans (uF_a)))) ((uF_ne (fun h => absurd h.2 (by decide))).trans ((uF_ne (fun h => absurd h.2 (by decide))).trans (uF_ne (fun h => absurd h.2 (by decide))))) ((uF_ne (fun h => absurd h.2 (by decide))).trans ((uF_ne (fun h => absurd h.2 (by decide))).trans (uF_ne (fun h => absurd h.2 (by decide))))) ((uF_ne (fun h => absurd h.2 (by decide))).trans ((uF_ne (fun h => absurd h.2 (by decide))).trans (uF_ne (fun h => absurd h.2 (by decide))))) (funext fun j => (uF_a).trans ((uF_a).trans (uF_a))))) (fun _ => by omega) (by omega) hx1 (by omega) (fun _ => by omega)) (c_X12_444 Cx rfl rfl (rmk_ok (by omega) (by decide))) hW (by decide) rfl rfl rfl hl.1 rfl (Nat.le_of_ble_eq_true rfl) dX12_named_116 ⟨Nat.le_of_ble_eq_true rfl, Nat.le_of_ble_eq_true rfl⟩) hL (fun u_208 H locs k_209 hW hL => ?_)
        obtain ⟨iu_208, fu_208, gu_208, xu_208⟩ := k_209
        have F_210 := F_198.trans (fu_208.to (pl_sub (by decide)))
        have F_211 := F_199.trans fu_208
        have g_212 : FF S u_208 (fl [20, 21, 24, 43]) := FF.trans g_200 (FF.to gu_208 (fl_sub (by decide)))
        have g_213 : FF ((uF S 231 24 ((S.1 231 24) + 1))) u_208 (fl [20, 21, 24, 43]) := FF.trans g_201 (FF.to gu_208 (fl_sub (by decide)))
        refine lv_aload_n hx hb dX12_named_119 rfl (lv_at hl 4 rfl) ?_
        have q_214 : (-2147483648) ≤ u_208.1 231 20 ∧ u_208.1 231 20 ≤ 2147483647 := iu_208.fi 20
        refine g_X12_270 Cx hW (k := 231) (by decide) rfl (v := u_208.1 231 20) rfl dX12_named_120 ?_
        refine r_if_ne (tgt := 149) hx hb ⟨(by omega), (by omega)⟩ dX12_named_123 (by decide) (fun c_215 => ?_) (fun c_215 => ?_)
        · refine lv_aload_n hx hb dX12_named_149 rfl (lv_at hl 4 rfl) ?_
          refine lv_dup hx hb dX12_named_150 rfl ?_
          have q_216 : (-2147483648) ≤ u_208.1 231 24 ∧ u_208.1 231 24 ≤ 2147483647 := iu_208.fi 24
          refine g_X12_315 Cx hW (k := 231) (by decide) rfl (v := u_208.1 231 24) rfl dX12_named_151 ?_
          refine lv_iconst (v := iv 1) hx hb dX12_named_154 (by decide) ?_
          refine r_iadd hx hb dX12_named_155 ?_
          refine p_X12_315 Cx hW hL (k := 231) (by decide) rfl dX12_named_156 (fun H locs hW hL => ?_)
          have F_217 : Fr S (uF u_208 231 24 ((u_208.1 231 24) + 1)) (pl [231, 257, 258]) := F_210.F rfl
          have F_218 : Fr ((uF S 231 24 ((S.1 231 24) + 1))) (uF u_208 231 24 ((u_208.1 231 24) + 1)) (pl [231, 258]) := F_211.F rfl
          have g_219 : FF S (uF u_208 231 24 ((u_208.1 231 24) + 1)) (fl [20, 21, 24, 43]) := FF.F g_212 rfl
          have g_220 : FF ((uF S 231 24 ((S.1 231 24) + 1))) (uF u_208 231 24 ((u_208.1 231 24) + 1)) (fl [20, 21, 24, 43]) := FF.F g_213 rfl
          have i_221 : dX G (uF u_208 231 24 ((u_208.1 231 24) + 1)) := iu_208.F (i := 24) (show (-2147483648) ≤ (u_208.1 231 24) + 1 ∧ (u_208.1 231 24) + 1 ≤ 2147483647 from ⟨by omega, by omega⟩)
          refine lv_aload_n hx hb dX12_named_159 rfl (lv_at hl 4 rfl) ?_
          refine g_X12_270 Cx hW (k := 231) (by decide) rfl (v := u_208.1 231 20) (uF_ne (fun h => absurd h.2 (by decide))) dX12_named_160 ?_
          refine r_if_eq (tgt := 167) hx hb ⟨(by omega), (by omega)⟩ dX12_named_163 (by decide) (fun c => absurd c (by omega)) (fun _ => ?_)
          have lk_222 : (uF u_208 231 24 ((u_208.1 231 24) + 1)).1 231 24 = (u_208.1 231 24) + 1 := uF_on
          have lk_223 : (uF u_208 231 24 ((u_208.1 231 24) + 1)).1 231 20 = u_208.1 231 20 := uF_ne (fun h => absurd h.2 (by decide))
          exact sVret Cx hr hlk hW hL ⟨i_221, F_217, g_219, ⟨(by have e7 := (show (uF u_208 231 24 ((u_208.1 231 24) + 1)).1 231 24 = (u_208.1 231 24) + 1 from uF_on); omega), (fun h => absurd h (by have e9 := (show (uF u_208 231 24 ((u_208.1 231 24) + 1)).1 231 20 = u_208.1 231 20 from uF_ne (fun h => absurd h.2 (by decide))); omega))⟩⟩ dX12_named_166
        · have b1 := xu_208.2 (by omega)
          refine lv_aload_n hx hb dX12_named_126 rfl (lv_at hl 4 rfl) ?_
          refine lv_bipush (v := iv 44) hx hb dX12_named_127 (by decide) ?_
          have q_224 : (-2147483648) ≤ u_208.1 231 24 ∧ u_208.1 231 24 ≤ 2147483647 := iu_208.fi 24
          refine sBi (sV (As := [.int (iv 44)]) (rest := []) (k := 231) Cx (s_X12_isSign l G u_208 (sv := 44) (K := K) (V := V) (pz := a) iu_208 (by omega) ((funext fun j => ((fu_208 244 rfl).2.1 j).trans ((uF_a).trans ((uF_a).trans (uF_a))) : u_208.2.1 244 = S.2.1 244).trans hK) ((funext fun j => ((fu_208 247 rfl).2.1 j).trans ((uF_a).trans ((uF_a).trans (uF_a))) : u_208.2.1 247 = S.2.1 247).trans hV) (by omega) (by omega)) (c_X12_318 Cx rfl rfl (rmk_ok (by omega) (by decide))) hW (by decide) rfl rfl rfl hl.1 rfl (Nat.le_of_ble_eq_true rfl) dX12_named_129 ⟨Nat.le_of_ble_eq_true rfl, Nat.le_of_ble_eq_true rfl⟩) hL (fun r_227 u_225 H locs k_226 hW hL => ?_)
          obtain ⟨eu_225, xu_225⟩ := k_226
          rw [eu_225] at hW
          refine r_if_eq (tgt := 149) hx hb ⟨(by omega), (by omega)⟩ dX12_named_132 (by decide) (fun c_228 => ?_) (fun c_228 => ?_)
          · have hq9 : q = a + 1 := by rcases hg2 with h | h; (exact h.2.2); exact absurd h.1 (xu_225.2.2 (by omega))
            refine lv_aload_n hx hb dX12_named_149 rfl (lv_at hl 4 rfl) ?_
            refine lv_dup hx hb dX12_named_150 rfl ?_
            refine g_X12_315 Cx hW (k := 231) (by decide) rfl (v := u_208.1 231 24) rfl dX12_named_151 ?_
            refine lv_iconst (v := iv 1) hx hb dX12_named_154 (by decide) ?_
            refine r_iadd hx hb dX12_named_155 ?_
            refine p_X12_315 Cx hW hL (k := 231) (by decide) rfl dX12_named_156 (fun H locs hW hL => ?_)
            have F_229 : Fr S (uF u_208 231 24 ((u_208.1 231 24) + 1)) (pl [231, 257, 258]) := F_210.F rfl
            have F_230 : Fr ((uF S 231 24 ((S.1 231 24) + 1))) (uF u_208 231 24 ((u_208.1 231 24) + 1)) (pl [231, 258]) := F_211.F rfl
            have g_231 : FF S (uF u_208 231 24 ((u_208.1 231 24) + 1)) (fl [20, 21, 24, 43]) := FF.F g_212 rfl
            have g_232 : FF ((uF S 231 24 ((S.1 231 24) + 1))) (uF u_208 231 24 ((u_208.1 231 24) + 1)) (fl [20, 21, 24, 43]) := FF.F g_213 rfl
            have i_233 : dX G (uF u_208 231 24 ((u_208.1 231 24) + 1)) := iu_208.F (i := 24) (show (-2147483648) ≤ (u_208.1 231 24) + 1 ∧ (u_208.1 231 24) + 1 ≤ 2147483647 from ⟨by omega, by omega⟩)
            refine lv_aload_n hx hb dX12_named_159 rfl (lv_at hl 4 rfl) ?_
            refine g_X12_270 Cx hW (k := 231) (by decide) rfl (v := u_208.1 231 20) (uF_ne (fun h => absurd h.2 (by decide))) dX12_named_160 ?_
            refine r_if_eq (tgt := 167) hx hb ⟨(by omega), (by omega)⟩ dX12_named_163 (by decide) (fun _ => ?_) (fun c => absurd (by omega) c)
            have lk_234 : (uF u_208 231 24 ((u_208.1 231 24) + 1)).1 231 20 = u_208.1 231 20 := uF_ne (fun h => absurd h.2 (by decide))
            have lk_235 : (uF u_208 231 24 ((u_208.1 231 24) + 1)).1 231 24 = (u_208.1 231 24) + 1 := uF_on
            have q_236 : (-2147483648) ≤ u_208.1 231 43 ∧ u_208.1 231 43 ≤ 2147483647 := iu_208.fi 43
            have lk_237 : (uF u_208 231 24 ((u_208.1 231 24) + 1)).1 231 43 = u_208.1 231 43 := uF_ne (fun h => absurd h.2 (by decide))
            exact join_167 (uF u_208 231 24 ((u_208.1 231 24) + 1))  _ _ _ i_233 F_229 F_230 g_231 g_232 (by omega) (by have e6 := (show (uF u_208 231 24 ((u_208.1 231 24) + 1)).1 231 43 = u_208.1 231 43 from uF_ne (fun h => absurd h.2 (by decide))); have e7 := (show (uF u_208 231 24 ((u_208.1 231 24) + 1)).1 231 24 = (u_208.1 231 24) + 1 from uF_on); have e8 := (show (uF u_208 231 24 ((u_208.1 231 24) + 1)).1 231 20 = u_208.1 231 20 from uF_ne (fun h => absurd h.2 (by decide))); omega) (fun x a b => by rw [show x = 0 by omega, show (uF u_208 231 24 ((u_208.1 231 24) + 1)).2.1 258 0 = u_208.2.1 258 0 from uF_a]; exact b1.2.2.2.2) hW hL (lv_sub hl [0, 1, 2, 3, 4, 5] rfl)
          · obtain ⟨b, hx2, hs2⟩ : ∃ b, gX K V (a + 1) b ∧ gs K V 93 b q := by rcases hg2 with h | h; (exact absurd (xu_225.2.1 (by omega)) h.1); exact h.2
            have hb9 := hs2.2
            have hb8 := gX_lt hx2
            refine lv_aload_n hx hb dX12_named_135 rfl (lv_at hl 4 rfl) ?_
            refine lv_dup hx hb dX12_named_136 rfl ?_
            refine g_X12_315 Cx hW (k := 231) (by decide) rfl (v := u_208.1 231 24) rfl dX12_named_137 ?_
            refine lv_iconst (v := iv 1) hx hb dX12_named_140 (by decide) ?_
            refine r_iadd hx hb dX12_named_141 ?_
            refine p_X12_315 Cx hW hL (k := 231) (by decide) rfl dX12_named_142 (fun H locs hW hL => ?_)
            have F_238 : Fr S (uF u_208 231 24 ((u_208.1 231 24) + 1)) (pl [231, 257, 258]) := F_210.F rfl
            have F_239 : Fr ((uF S 231 24 ((S.1 231 24) + 1))) (uF u_208 231 24 ((u_208.1 231 24) + 1)) (pl [231, 258]) := F_211.F rfl
            have g_240 : FF S (uF u_208 231 24 ((u_208.1 231 24) + 1)) (fl [20, 21, 24, 43]) := FF.F g_212 rfl
            have g_241 : FF ((uF S 231 24 ((S.1 231 24) + 1))) (uF u_208 231 24 ((u_208.1 231 24) + 1)) (fl [20, 21, 24, 43]) := FF.F g_213 rfl
            have i_242 : dX G (uF u_208 231 24 ((u_208.1 231 24) + 1)) := iu_208.F (i := 24) (show (-2147483648) ≤ (u_208.1 231 24) + 1 ∧ (u_208.1 231 24) + 1 ≤ 2147483647 from ⟨by omega, by omega⟩)
            refine lv_aload_n hx hb dX12_named_145 rfl (lv_at hl 4 rfl) ?_
            have lk_243 : (uF u_208 231 24 ((u_208.1 231 24) + 1)).1 231 20 = u_208.1 231 20 := uF_ne (fun h => absurd h.2 (by decide))
            have lk_244 : (uF u_208 231 24 ((u_208.1 231 24) + 1)).1 231 25 = S.1 231 25 := (uF_ne (fun h => absurd h.2 (by decide))).trans ((gu_208 25 rfl).trans ((uF_ne (fun h => absurd h.2 (by decide))).trans ((uF_ne (fun h => absurd h.2 (by decide))).trans (uF_ne (fun h => absurd h.2 (by decide))))))
            have lk_245 : (uF u_208 231 24 ((u_208.1 231 24) + 1)).1 231 24 = (u_208.1 231 24) + 1 := uF_on
            have q_246 : (-2147483648) ≤ u_208.1 231 43 ∧ u_208.1 231 43 ≤ 2147483647 := iu_208.fi 43
            have lk_247 : (uF u_208 231 24 ((u_208.1 231 24) + 1)).1 231 43 = u_208.1 231 43 := uF_ne (fun h => absurd h.2 (by decide))
            refine sBv (sV (As := []) (rest := []) (k := 231) Cx (s_X12_index l G (uF u_208 231 24 ((u_208.1 231 24) + 1)) (K := K) (V := V) (Fm := Fm) (Wd := Wd) (T := T) (pz := a + 1) (q := b) i_242 ((funext fun j => (uF_a).trans (((fu_208 244 rfl).2.1 j).trans ((uF_a).trans ((uF_a).trans (uF_a)))) : (uF u_208 231 24 ((u_208.1 231 24) + 1)).2.1 244 = S.2.1 244).trans hK) ((funext fun j => (uF_a).trans (((fu_208 247 rfl).2.1 j).trans ((uF_a).trans ((uF_a).trans (uF_a)))) : (uF u_208 231 24 ((u_208.1 231 24) + 1)).2.1 247 = S.2.1 247).trans hV) ((funext fun j => (uF_a).trans (((fu_208 245 rfl).2.1 j).trans ((uF_a).trans ((uF_a).trans (uF_a)))) : (uF u_208 231 24 ((u_208.1 231 24) + 1)).2.1 245 = S.2.1 245).trans hFm) ((funext fun j => (uF_a).trans (((fu_208 246 rfl).2.1 j).trans ((uF_a).trans ((uF_a).trans (uF_a)))) : (uF u_208 231 24 ((u_208.1 231 24) + 1)).2.1 246 = S.2.1 246).trans hWd) hQ (fun _ => (NX.cg (S := S) (u := (uF u_208 231 24 ((u_208.1 231 24) + 1))) hNX (NR.eq (funext fun j => (uF_a).trans (((fu_208 248 rfl).2.1 j).trans ((uF_a).trans ((uF_a).trans (uF_a))))) (funext fun j => (uF_a).trans (((fu_208 249 rfl).2.1 j).trans ((uF_a).trans ((uF_a).trans (uF_a))))) (funext fun j => (uF_a).trans (((fu_208 250 rfl).2.1 j).trans ((uF_a).trans ((uF_a).trans (uF_a))))) (funext fun j => (uF_a).trans (((fu_208 251 rfl).2.1 j).trans ((uF_a).trans ((uF_a).trans (uF_a))))) (funext fun j => (uF_a).trans (((fu_208 252 rfl).2.1 j).trans ((uF_a).trans ((uF_a).trans (uF_a)))))) ((uF_ne (fun h => absurd h.2 (by decide))).trans ((gu_208 25 rfl).trans ((uF_ne (fun h => absurd h.2 (by decide))).trans ((uF_ne (fun h => absurd h.2 (by decide))).trans (uF_ne (fun h => absurd h.2 (by decide))))))) ((uF_ne (fun h => absurd h.2 (by decide))).trans ((gu_208 32 rfl).trans ((uF_ne (fun h => absurd h.2 (by decide))).trans ((uF_ne (fun h => absurd h.2 (by decide))).trans (uF_ne (fun h => absurd h.2 (by decide))))))) ((uF_ne (fun h => absurd h.2 (by decide))).trans ((gu_208 35 rfl).trans ((uF_ne (fun h => absurd h.2 (by decide))).trans ((uF_ne (fun h => absurd h.2 (by decide))).trans (uF_ne (fun h => absurd h.2 (by decide))))))) (funext fun j => (uF_a).trans (((fu_208 253 rfl).2.1 j).trans ((uF_a).trans ((uF_a).trans (uF_a))))))) (fun _ => by omega) (by omega) hx2 (by omega) (fun _ => by omega)) (c_X12_444 Cx rfl rfl (rmk_ok (by omega) (by decide))) hW (by decide) rfl rfl rfl hl.1 rfl (Nat.le_of_ble_eq_true rfl) dX12_named_146 ⟨Nat.le_of_ble_eq_true rfl, Nat.le_of_ble_eq_true rfl⟩) hL (fun u_248 H locs k_249 hW hL => ?_)
            obtain ⟨iu_248, fu_248, gu_248, xu_248⟩ := k_249
            have F_250 := F_238.trans (fu_248.to (pl_sub (by decide)))
            have F_251 := F_239.trans fu_248
            have g_252 : FF S u_248 (fl [20, 21, 24, 43]) := FF.trans g_240 (FF.to gu_248 (fl_sub (by decide)))
            have g_253 : FF ((uF S 231 24 ((S.1 231 24) + 1))) u_248 (fl [20, 21, 24, 43]) := FF.trans g_241 (FF.to gu_248 (fl_sub (by decide)))
            refine lv_aload_n hx hb dX12_named_149 rfl (lv_at hl 4 rfl) ?_
            refine lv_dup hx hb dX12_named_150 rfl ?_
            have q_254 : (-2147483648) ≤ u_248.1 231 24 ∧ u_248.1 231 24 ≤ 2147483647 := iu_248.fi 24
            refine g_X12_315 Cx hW (k := 231) (by decide) rfl (v := u_248.1 231 24) rfl dX12_named_151 ?_
            refine lv_iconst (v := iv 1) hx hb dX12_named_154 (by decide) ?_
            refine r_iadd hx hb dX12_named_155 ?_
            refine p_X12_315 Cx hW hL (k := 231) (by decide) rfl dX12_named_156 (fun H locs hW hL => ?_)
            have F_255 : Fr S (uF u_248 231 24 ((u_248.1 231 24) + 1)) (pl [231, 257, 258]) := F_250.F rfl
            have F_256 : Fr ((uF S 231 24 ((S.1 231 24) + 1))) (uF u_248 231 24 ((u_248.1 231 24) + 1)) (pl [231, 258]) := F_251.F rfl
            have g_257 : FF S (uF u_248 231 24 ((u_248.1 231 24) + 1)) (fl [20, 21, 24, 43]) := FF.F g_252 rfl
            have g_258 : FF ((uF S 231 24 ((S.1 231 24) + 1))) (uF u_248 231 24 ((u_248.1 231 24) + 1)) (fl [20, 21, 24, 43]) := FF.F g_253 rfl
            have i_259 : dX G (uF u_248 231 24 ((u_248.1 231 24) + 1)) := iu_248.F (i := 24) (show (-2147483648) ≤ (u_248.1 231 24) + 1 ∧ (u_248.1 231 24) + 1 ≤ 2147483647 from ⟨by omega, by omega⟩)
            refine lv_aload_n hx hb dX12_named_159 rfl (lv_at hl 4 rfl) ?_
            have q_260 : (-2147483648) ≤ u_248.1 231 20 ∧ u_248.1 231 20 ≤ 2147483647 := iu_248.fi 20
            refine g_X12_270 Cx hW (k := 231) (by decide) rfl (v := u_248.1 231 20) (uF_ne (fun h => absurd h.2 (by decide))) dX12_named_160 ?_
            refine r_if_eq (tgt := 167) hx hb ⟨(by omega), (by omega)⟩ dX12_named_163 (by decide) (fun c_261 => ?_) (fun c_261 => ?_)
            · have lk_262 : (uF u_248 231 24 ((u_248.1 231 24) + 1)).1 231 20 = u_248.1 231 20 := uF_ne (fun h => absurd h.2 (by decide))
              have lk_263 : (uF u_248 231 24 ((u_248.1 231 24) + 1)).1 231 24 = (u_248.1 231 24) + 1 := uF_on
              have q_264 : (-2147483648) ≤ u_248.1 231 43 ∧ u_248.1 231 43 ≤ 2147483647 := iu_248.fi 43
              have lk_265 : (uF u_248 231 24 ((u_248.1 231 24) + 1)).1 231 43 = u_248.1 231 43 := uF_ne (fun h => absurd h.2 (by decide))
              exact join_167 (uF u_248 231 24 ((u_248.1 231 24) + 1))  _ _ _ i_259 F_255 F_256 g_257 g_258 (by omega) (by have b2 := xu_248.2 (by omega); have e6 := (show (uF u_248 231 24 ((u_248.1 231 24) + 1)).1 231 43 = u_248.1 231 43 from uF_ne (fun h => absurd h.2 (by decide))); have e7 := (show (uF u_248 231 24 ((u_248.1 231 24) + 1)).1 231 24 = (u_248.1 231 24) + 1 from uF_on); have e8 := (show (uF u_248 231 24 ((u_248.1 231 24) + 1)).1 231 20 = u_248.1 231 20 from uF_ne (fun h => absurd h.2 (by decide))); omega) (fun x a b => by have b2 := xu_248.2 (by omega); rw [(show (uF u_208 231 24 ((u_208.1 231 24) + 1)).1 231 43 = u_208.1 231 43 from uF_ne (fun h => absurd h.2 (by decide))), show u_208.1 231 43 = 1 by omega] at b2; rw [show (uF u_248 231 24 ((u_248.1 231 24) + 1)).2.1 258 x = u_248.2.1 258 x from uF_a]; by_cases q0 : x = 1; (rw [q0]; exact b2.2.2.2.2); (rw [b2.2.2.2.1 x q0, show x = 0 by omega]; exact b1.2.2.2.2)) hW hL (lv_sub hl [0, 1, 2, 3, 4, 5] rfl)
            · have lk_266 : (uF u_248 231 24 ((u_248.1 231 24) + 1)).1 231 24 = (u_248.1 231 24) + 1 := uF_on
              have lk_267 : (uF u_248 231 24 ((u_248.1 231 24) + 1)).1 231 20 = u_248.1 231 20 := uF_ne (fun h => absurd h.2 (by decide))
              exact sVret Cx hr hlk hW hL ⟨i_259, F_255, g_257, ⟨(by have e7 := (show (uF u_248 231 24 ((u_248.1 231 24) + 1)).1 231 24 = (u_248.1 231 24) + 1 from uF_on); omega), (fun h => absurd h (by have e9 := (show (uF u_248 231 24 ((u_248.1 231 24) + 1)).1 231 20 = u_248.1 231 20 from uF_ne (fun h => absurd h.2 (by decide))); omega))⟩⟩ dX12_named_166
    · refine lv_iload hx hb dX12_named_52 (lv_at hl 0 rfl) ?_
      refine lv_iconst (v := iv 3) hx hb dX12_named_54 (by decide) ?_
      refine r_icmp_eq (tgt := 76) hx hb ⟨(by omega), (by omega)⟩ ⟨(by omega), (by omega)⟩ dX12_named_55 (by decide) (fun c_268 => ?_) (fun c_268 => ?_)
      · refine lv_iload hx hb dX12_named_76 (lv_at hl 0 rfl) ?_
        refine lv_iconst (v := iv 5) hx hb dX12_named_78 (by decide) ?_
        refine r_icmp_ne (tgt := 95) hx hb ⟨(by omega), (by omega)⟩ ⟨(by omega), (by omega)⟩ dX12_named_79 (by decide) (fun _ => ?_) (fun c => absurd c (by omega))
        refine lv_aload_n hx hb dX12_named_95 rfl (lv_at hl 4 rfl) ?_
        refine lv_iconst (v := iv 0) hx hb dX12_named_96 (by decide) ?_
        refine p_X12_441 Cx hW hL (k := 231) (by decide) rfl dX12_named_97 (fun H locs hW hL => ?_)
        have F_269 : Fr S (uF (uF S 231 24 ((S.1 231 24) + 1)) 231 43 0) (pl [231, 257, 258]) := F_5.F rfl
        have F_270 : Fr ((uF S 231 24 ((S.1 231 24) + 1))) (uF (uF S 231 24 ((S.1 231 24) + 1)) 231 43 0) (pl [231, 258]) := (Fr.rf : Fr (uF S 231 24 ((S.1 231 24) + 1)) (uF S 231 24 ((S.1 231 24) + 1)) (pl [231, 258])).F rfl
        have g_271 : FF S (uF (uF S 231 24 ((S.1 231 24) + 1)) 231 43 0) (fl [20, 21, 24, 43]) := FF.F g_6 rfl
        have g_272 : FF ((uF S 231 24 ((S.1 231 24) + 1))) (uF (uF S 231 24 ((S.1 231 24) + 1)) 231 43 0) (fl [20, 21, 24, 43]) := FF.F (FF.rf : FF ((uF S 231 24 ((S.1 231 24) + 1))) ((uF S 231 24 ((S.1 231 24) + 1))) (fl [20, 21, 24, 43])) rfl
        have i_273 : dX G (uF (uF S 231 24 ((S.1 231 24) + 1)) 231 43 0) := i_7.F (i := 43) (show (-2147483648) ≤ 0 ∧ 0 ≤ 2147483647 from ⟨by omega, by omega⟩)
        refine lv_iload hx hb dX12_named_100 (lv_at hl 1 rfl) ?_
        refine r_if_eq (tgt := 159) hx hb ⟨(by omega), (by omega)⟩ dX12_named_102 (by decide) (fun c_274 => ?_) (fun c_274 => ?_)
        · have hq9 : q = pz + 1 := by rcases hg.2 with h | h; (exact h.2); exact absurd h.1 (xu_9.2.2 (by omega))
          refine lv_aload_n hx hb dX12_named_159 rfl (lv_at hl 4 rfl) ?_
          have q_275 : (-2147483648) ≤ S.1 231 20 ∧ S.1 231 20 ≤ 2147483647 := hI.fi 20
          refine g_X12_270 Cx hW (k := 231) (by decide) rfl (v := S.1 231 20) ((uF_ne (fun h => absurd h.2 (by decide))).trans (uF_ne (fun h => absurd h.2 (by decide)))) dX12_named_160 ?_
          refine r_if_eq (tgt := 167) hx hb ⟨(by omega), (by omega)⟩ dX12_named_163 (by decide) (fun _ => ?_) (fun c => absurd (by omega) c)
          have lk_276 : (uF (uF S 231 24 ((S.1 231 24) + 1)) 231 43 0).1 231 20 = S.1 231 20 := (uF_ne (fun h => absurd h.2 (by decide))).trans (uF_ne (fun h => absurd h.2 (by decide)))
          have lk_277 : (uF (uF S 231 24 ((S.1 231 24) + 1)) 231 43 0).1 231 24 = (S.1 231 24) + 1 := (uF_ne (fun h => absurd h.2 (by decide))).trans (uF_on)
          have lk_278 : (uF (uF S 231 24 ((S.1 231 24) + 1)) 231 43 0).1 231 43 = 0 := uF_on
          exact join_167 (uF (uF S 231 24 ((S.1 231 24) + 1)) 231 43 0)  _ _ _ i_273 F_269 F_270 g_271 g_272 (by omega) (by have e6 := (show (uF (uF S 231 24 ((S.1 231 24) + 1)) 231 43 0).1 231 43 = 0 from uF_on); have e7 := (show (uF (uF S 231 24 ((S.1 231 24) + 1)) 231 43 0).1 231 24 = (S.1 231 24) + 1 from (uF_ne (fun h => absurd h.2 (by decide))).trans (uF_on)); have e8 := (show (uF (uF S 231 24 ((S.1 231 24) + 1)) 231 43 0).1 231 20 = S.1 231 20 from (uF_ne (fun h => absurd h.2 (by decide))).trans (uF_ne (fun h => absurd h.2 (by decide)))); omega) (fun x a b => absurd b (by omega)) hW hL (lv_sub hl [0, 1, 2, 3, 4, 5] rfl)
        · obtain ⟨a, hx1, hg2⟩ : ∃ a, gX K V (pz + 1 + 1) a ∧ ((¬ gS K V a 44 ∧ gs K V 93 a q) ∨ (gS K V a 44 ∧ ∃ b, gX K V (a + 1) b ∧ gs K V 93 b q)) := by rcases hg.2 with h | h; (exact absurd (xu_9.2.1 (by omega)) h.1); exact h.2
          have ha9 : a + 1 ≤ q := by rcases hg2 with h | h; (have := h.2.2; omega); (obtain ⟨_, b, h1, h2⟩ := h; have := gX_lt h1; have := h2.2; omega)
          have ha8 := gX_lt hx1
          refine lv_aload_n hx hb dX12_named_105 rfl (lv_at hl 4 rfl) ?_
          refine lv_dup hx hb dX12_named_106 rfl ?_
          refine g_X12_315 Cx hW (k := 231) (by decide) rfl (v := (S.1 231 24) + 1) ((uF_ne (fun h => absurd h.2 (by decide))).trans (uF_on)) dX12_named_107 ?_
          refine lv_iconst (v := iv 1) hx hb dX12_named_110 (by decide) ?_
          refine r_iadd hx hb dX12_named_111 ?_
          refine p_X12_315 Cx hW hL (k := 231) (by decide) rfl dX12_named_112 (fun H locs hW hL => ?_)
          have F_279 : Fr S (uF (uF (uF S 231 24 ((S.1 231 24) + 1)) 231 43 0) 231 24 (((S.1 231 24) + 1) + 1)) (pl [231, 257, 258]) := F_269.F rfl
          have F_280 : Fr ((uF S 231 24 ((S.1 231 24) + 1))) (uF (uF (uF S 231 24 ((S.1 231 24) + 1)) 231 43 0) 231 24 (((S.1 231 24) + 1) + 1)) (pl [231, 258]) := F_270.F rfl
          have g_281 : FF S (uF (uF (uF S 231 24 ((S.1 231 24) + 1)) 231 43 0) 231 24 (((S.1 231 24) + 1) + 1)) (fl [20, 21, 24, 43]) := FF.F g_271 rfl
          have g_282 : FF ((uF S 231 24 ((S.1 231 24) + 1))) (uF (uF (uF S 231 24 ((S.1 231 24) + 1)) 231 43 0) 231 24 (((S.1 231 24) + 1) + 1)) (fl [20, 21, 24, 43]) := FF.F g_272 rfl
          have i_283 : dX G (uF (uF (uF S 231 24 ((S.1 231 24) + 1)) 231 43 0) 231 24 (((S.1 231 24) + 1) + 1)) := i_273.F (i := 24) (show (-2147483648) ≤ ((S.1 231 24) + 1) + 1 ∧ ((S.1 231 24) + 1) + 1 ≤ 2147483647 from ⟨by omega, by omega⟩)
          refine lv_aload_n hx hb dX12_named_115 rfl (lv_at hl 4 rfl) ?_
          have q_284 : (-2147483648) ≤ S.1 231 20 ∧ S.1 231 20 ≤ 2147483647 := hI.fi 20
          have lk_285 : (uF (uF (uF S 231 24 ((S.1 231 24) + 1)) 231 43 0) 231 24 (((S.1 231 24) + 1) + 1)).1 231 20 = S.1 231 20 := (uF_ne (fun h => absurd h.2 (by decide))).trans ((uF_ne (fun h => absurd h.2 (by decide))).trans (uF_ne (fun h => absurd h.2 (by decide))))
          have lk_286 : (uF (uF (uF S 231 24 ((S.1 231 24) + 1)) 231 43 0) 231 24 (((S.1 231 24) + 1) + 1)).1 231 25 = S.1 231 25 := (uF_ne (fun h => absurd h.2 (by decide))).trans ((uF_ne (fun h => absurd h.2 (by decide))).trans (uF_ne (fun h => absurd h.2 (by decide))))
          have lk_287 : (uF (uF (uF S 231 24 ((S.1 231 24) + 1)) 231 43 0) 231 24 (((S.1 231 24) + 1) + 1)).1 231 24 = ((S.1 231 24) + 1) + 1 := uF_on
          have lk_288 : (uF (uF (uF S 231 24 ((S.1 231 24) + 1)) 231 43 0) 231 24 (((S.1 231 24) + 1) + 1)).1 231 43 = 0 := (uF_ne (fun h => absurd h.2 (by decide))).trans (uF_on)
          refine sBv (sV (As := []) (rest := []) (k := 231) Cx (s_X12_index l G (uF (uF (uF S 231 24 ((S.1 231 24) + 1)) 231 43 0) 231 24 (((S.1 231 24) + 1) + 1)) (K := K) (V := V) (Fm := Fm) (Wd := Wd) (T := T) (pz := ((pz) + 1) + 1) (q := a) i_283 ((funext fun j => (uF_a).trans ((uF_a).trans (uF_a)) : (uF (uF (uF S 231 24 ((S.1 231 24) + 1)) 231 43 0) 231 24 (((S.1 231 24) + 1) + 1)).2.1 244 = S.2.1 244).trans hK) ((funext fun j => (uF_a).trans ((uF_a).trans (uF_a)) : (uF (uF (uF S 231 24 ((S.1 231 24) + 1)) 231 43 0) 231 24 (((S.1 231 24) + 1) + 1)).2.1 247 = S.2.1 247).trans hV) ((funext fun j => (uF_a).trans ((uF_a).trans (uF_a)) : (uF (uF (uF S 231 24 ((S.1 231 24) + 1)) 231 43 0) 231 24 (((S.1 231 24) + 1) + 1)).2.1 245 = S.2.1 245).trans hFm) ((funext fun j => (uF_a).trans ((uF_a).trans (uF_a)) : (uF (uF (uF S 231 24 ((S.1 231 24) + 1)) 231 43 0) 231 24 (((S.1 231 24) + 1) + 1)).2.1 246 = S.2.1 246).trans hWd) hQ (fun _ => (NX.cg (S := S) (u := (uF (uF (uF S 231 24 ((S.1 231 24) + 1)) 231 43 0) 231 24 (((S.1 231 24) + 1) + 1))) hNX (NR.eq (funext fun j => (uF_a).trans ((uF_a).trans (uF_a))) (funext fun j => (uF_a).trans ((uF_a).trans (uF_a))) (funext fun j => (uF_a).trans ((uF_a).trans (uF_a))) (funext fun j => (uF_a).trans ((uF_a).trans (uF_a))) (funext fun j => (uF_a).trans ((uF_a).trans (uF_a)))) ((uF_ne (fun h => absurd h.2 (by decide))).trans ((uF_ne (fun h => absurd h.2 (by decide))).trans (uF_ne (fun h => absurd h.2 (by decide))))) ((uF_ne (fun h => absurd h.2 (by decide))).trans ((uF_ne (fun h => absurd h.2 (by decide))).trans (uF_ne (fun h => absurd h.2 (by decide))))) ((uF_ne (fun h => absurd h.2 (by decide))).trans ((uF_ne (fun h => absurd h.2 (by decide))).trans (uF_ne (fun h => absurd h.2 (by decide))))) (funext fun j => (uF_a).trans ((uF_a).trans (uF_a))))) (fun _ => by omega) (by omega) hx1 (by omega) (fun _ => by omega)) (c_X12_444 Cx rfl rfl (rmk_ok (by omega) (by decide))) hW (by decide) rfl rfl rfl hl.1 rfl (Nat.le_of_ble_eq_true rfl) dX12_named_116 ⟨Nat.le_of_ble_eq_true rfl, Nat.le_of_ble_eq_true rfl⟩) hL (fun u_289 H locs k_290 hW hL => ?_)
          obtain ⟨iu_289, fu_289, gu_289, xu_289⟩ := k_290
          have F_291 := F_279.trans (fu_289.to (pl_sub (by decide)))
          have F_292 := F_280.trans fu_289
          have g_293 : FF S u_289 (fl [20, 21, 24, 43]) := FF.trans g_281 (FF.to gu_289 (fl_sub (by decide)))
          have g_294 : FF ((uF S 231 24 ((S.1 231 24) + 1))) u_289 (fl [20, 21, 24, 43]) := FF.trans g_282 (FF.to gu_289 (fl_sub (by decide)))
          refine lv_aload_n hx hb dX12_named_119 rfl (lv_at hl 4 rfl) ?_
          have q_295 : (-2147483648) ≤ u_289.1 231 20 ∧ u_289.1 231 20 ≤ 2147483647 := iu_289.fi 20
          refine g_X12_270 Cx hW (k := 231) (by decide) rfl (v := u_289.1 231 20) rfl dX12_named_120 ?_
          refine r_if_ne (tgt := 149) hx hb ⟨(by omega), (by omega)⟩ dX12_named_123 (by decide) (fun c_296 => ?_) (fun c_296 => ?_)
          · refine lv_aload_n hx hb dX12_named_149 rfl (lv_at hl 4 rfl) ?_
            refine lv_dup hx hb dX12_named_150 rfl ?_
            have q_297 : (-2147483648) ≤ u_289.1 231 24 ∧ u_289.1 231 24 ≤ 2147483647 := iu_289.fi 24
            refine g_X12_315 Cx hW (k := 231) (by decide) rfl (v := u_289.1 231 24) rfl dX12_named_151 ?_
            refine lv_iconst (v := iv 1) hx hb dX12_named_154 (by decide) ?_
            refine r_iadd hx hb dX12_named_155 ?_
            refine p_X12_315 Cx hW hL (k := 231) (by decide) rfl dX12_named_156 (fun H locs hW hL => ?_)
            have F_298 : Fr S (uF u_289 231 24 ((u_289.1 231 24) + 1)) (pl [231, 257, 258]) := F_291.F rfl
            have F_299 : Fr ((uF S 231 24 ((S.1 231 24) + 1))) (uF u_289 231 24 ((u_289.1 231 24) + 1)) (pl [231, 258]) := F_292.F rfl
            have g_300 : FF S (uF u_289 231 24 ((u_289.1 231 24) + 1)) (fl [20, 21, 24, 43]) := FF.F g_293 rfl
            have g_301 : FF ((uF S 231 24 ((S.1 231 24) + 1))) (uF u_289 231 24 ((u_289.1 231 24) + 1)) (fl [20, 21, 24, 43]) := FF.F g_294 rfl
            have i_302 : dX G (uF u_289 231 24 ((u_289.1 231 24) + 1)) := iu_289.F (i := 24) (show (-2147483648) ≤ (u_289.1 231 24) + 1 ∧ (u_289.1 231 24) + 1 ≤ 2147483647 from ⟨by omega, by omega⟩)
            refine lv_aload_n hx hb dX12_named_159 rfl (lv_at hl 4 rfl) ?_
            refine g_X12_270 Cx hW (k := 231) (by decide) rfl (v := u_289.1 231 20) (uF_ne (fun h => absurd h.2 (by decide))) dX12_named_160 ?_
            refine r_if_eq (tgt := 167) hx hb ⟨(by omega), (by omega)⟩ dX12_named_163 (by decide) (fun c => absurd c (by omega)) (fun _ => ?_)
            have lk_303 : (uF u_289 231 24 ((u_289.1 231 24) + 1)).1 231 24 = (u_289.1 231 24) + 1 := uF_on
            have lk_304 : (uF u_289 231 24 ((u_289.1 231 24) + 1)).1 231 20 = u_289.1 231 20 := uF_ne (fun h => absurd h.2 (by decide))
            exact sVret Cx hr hlk hW hL ⟨i_302, F_298, g_300, ⟨(by have e7 := (show (uF u_289 231 24 ((u_289.1 231 24) + 1)).1 231 24 = (u_289.1 231 24) + 1 from uF_on); omega), (fun h => absurd h (by have e9 := (show (uF u_289 231 24 ((u_289.1 231 24) + 1)).1 231 20 = u_289.1 231 20 from uF_ne (fun h => absurd h.2 (by decide))); omega))⟩⟩ dX12_named_166
          · have b1 := xu_289.2 (by omega)
            refine lv_aload_n hx hb dX12_named_126 rfl (lv_at hl 4 rfl) ?_
            refine lv_bipush (v := iv 44) hx hb dX12_named_127 (by decide) ?_
            have q_305 : (-2147483648) ≤ u_289.1 231 24 ∧ u_289.1 231 24 ≤ 2147483647 := iu_289.fi 24
            refine sBi (sV (As := [.int (iv 44)]) (rest := []) (k := 231) Cx (s_X12_isSign l G u_289 (sv := 44) (K := K) (V := V) (pz := a) iu_289 (by omega) ((funext fun j => ((fu_289 244 rfl).2.1 j).trans ((uF_a).trans ((uF_a).trans (uF_a))) : u_289.2.1 244 = S.2.1 244).trans hK) ((funext fun j => ((fu_289 247 rfl).2.1 j).trans ((uF_a).trans ((uF_a).trans (uF_a))) : u_289.2.1 247 = S.2.1 247).trans hV) (by omega) (by omega)) (c_X12_318 Cx rfl rfl (rmk_ok (by omega) (by decide))) hW (by decide) rfl rfl rfl hl.1 rfl (Nat.le_of_ble_eq_true rfl) dX12_named_129 ⟨Nat.le_of_ble_eq_true rfl, Nat.le_of_ble_eq_true rfl⟩) hL (fun r_308 u_306 H locs k_307 hW hL => ?_)
            obtain ⟨eu_306, xu_306⟩ := k_307
            rw [eu_306] at hW
            refine r_if_eq (tgt := 149) hx hb ⟨(by omega), (by omega)⟩ dX12_named_132 (by decide) (fun c_309 => ?_) (fun c_309 => ?_)
            · have hq9 : q = a + 1 := by rcases hg2 with h | h; (exact h.2.2); exact absurd h.1 (xu_306.2.2 (by omega))
              refine lv_aload_n hx hb dX12_named_149 rfl (lv_at hl 4 rfl) ?_
              refine lv_dup hx hb dX12_named_150 rfl ?_
              refine g_X12_315 Cx hW (k := 231) (by decide) rfl (v := u_289.1 231 24) rfl dX12_named_151 ?_
              refine lv_iconst (v := iv 1) hx hb dX12_named_154 (by decide) ?_
              refine r_iadd hx hb dX12_named_155 ?_
              refine p_X12_315 Cx hW hL (k := 231) (by decide) rfl dX12_named_156 (fun H locs hW hL => ?_)
              have F_310 : Fr S (uF u_289 231 24 ((u_289.1 231 24) + 1)) (pl [231, 257, 258]) := F_291.F rfl
              have F_311 : Fr ((uF S 231 24 ((S.1 231 24) + 1))) (uF u_289 231 24 ((u_289.1 231 24) + 1)) (pl [231, 258]) := F_292.F rfl
              have g_312 : FF S (uF u_289 231 24 ((u_289.1 231 24) + 1)) (fl [20, 21, 24, 43]) := FF.F g_293 rfl
              have g_313 : FF ((uF S 231 24 ((S.1 231 24) + 1))) (uF u_289 231 24 ((u_289.1 231 24) + 1)) (fl [20, 21, 24, 43]) := FF.F g_294 rfl
              have i_314 : dX G (uF u_289 231 24 ((u_289.1 231 24) + 1)) := iu_289.F (i := 24) (show (-2147483648) ≤ (u_289.1 231 24) + 1 ∧ (u_289.1 231 24) + 1 ≤ 2147483647 from ⟨by omega, by omega⟩)
              refine lv_aload_n hx hb dX12_named_159 rfl (lv_at hl 4 rfl) ?_
              refine g_X12_270 Cx hW (k := 231) (by decide) rfl (v := u_289.1 231 20) (uF_ne (fun h => absurd h.2 (by decide))) dX12_named_160 ?_
              refine r_if_eq (tgt := 167) hx hb ⟨(by omega), (by omega)⟩ dX12_named_163 (by decide) (fun _ => ?_) (fun c => absurd (by omega) c)
              have lk_315 : (uF u_289 231 24 ((u_289.1 231 24) + 1)).1 231 20 = u_289.1 231 20 := uF_ne (fun h => absurd h.2 (by decide))
              have lk_316 : (uF u_289 231 24 ((u_289.1 231 24) + 1)).1 231 24 = (u_289.1 231 24) + 1 := uF_on
              have q_317 : (-2147483648) ≤ u_289.1 231 43 ∧ u_289.1 231 43 ≤ 2147483647 := iu_289.fi 43
              have lk_318 : (uF u_289 231 24 ((u_289.1 231 24) + 1)).1 231 43 = u_289.1 231 43 := uF_ne (fun h => absurd h.2 (by decide))
              exact join_167 (uF u_289 231 24 ((u_289.1 231 24) + 1))  _ _ _ i_314 F_310 F_311 g_312 g_313 (by omega) (by have e6 := (show (uF u_289 231 24 ((u_289.1 231 24) + 1)).1 231 43 = u_289.1 231 43 from uF_ne (fun h => absurd h.2 (by decide))); have e7 := (show (uF u_289 231 24 ((u_289.1 231 24) + 1)).1 231 24 = (u_289.1 231 24) + 1 from uF_on); have e8 := (show (uF u_289 231 24 ((u_289.1 231 24) + 1)).1 231 20 = u_289.1 231 20 from uF_ne (fun h => absurd h.2 (by decide))); omega) (fun x a b => by rw [show x = 0 by omega, show (uF u_289 231 24 ((u_289.1 231 24) + 1)).2.1 258 0 = u_289.2.1 258 0 from uF_a]; exact b1.2.2.2.2) hW hL (lv_sub hl [0, 1, 2, 3, 4, 5] rfl)
            · obtain ⟨b, hx2, hs2⟩ : ∃ b, gX K V (a + 1) b ∧ gs K V 93 b q := by rcases hg2 with h | h; (exact absurd (xu_306.2.1 (by omega)) h.1); exact h.2
              have hb9 := hs2.2
              have hb8 := gX_lt hx2
              refine lv_aload_n hx hb dX12_named_135 rfl (lv_at hl 4 rfl) ?_
              refine lv_dup hx hb dX12_named_136 rfl ?_
              refine g_X12_315 Cx hW (k := 231) (by decide) rfl (v := u_289.1 231 24) rfl dX12_named_137 ?_
              refine lv_iconst (v := iv 1) hx hb dX12_named_140 (by decide) ?_
              refine r_iadd hx hb dX12_named_141 ?_
              refine p_X12_315 Cx hW hL (k := 231) (by decide) rfl dX12_named_142 (fun H locs hW hL => ?_)
              have F_319 : Fr S (uF u_289 231 24 ((u_289.1 231 24) + 1)) (pl [231, 257, 258]) := F_291.F rfl
              have F_320 : Fr ((uF S 231 24 ((S.1 231 24) + 1))) (uF u_289 231 24 ((u_289.1 231 24) + 1)) (pl [231, 258]) := F_292.F rfl
              have g_321 : FF S (uF u_289 231 24 ((u_289.1 231 24) + 1)) (fl [20, 21, 24, 43]) := FF.F g_293 rfl
              have g_322 : FF ((uF S 231 24 ((S.1 231 24) + 1))) (uF u_289 231 24 ((u_289.1 231 24) + 1)) (fl [20, 21, 24, 43]) := FF.F g_294 rfl
              have i_323 : dX G (uF u_289 231 24 ((u_289.1 231 24) + 1)) := iu_289.F (i := 24) (show (-2147483648) ≤ (u_289.1 231 24) + 1 ∧ (u_289.1 231 24) + 1 ≤ 2147483647 from ⟨by omega, by omega⟩)
              refine lv_aload_n hx hb dX12_named_145 rfl (lv_at hl 4 rfl) ?_
              have lk_324 : (uF u_289 231 24 ((u_289.1 231 24) + 1)).1 231 20 = u_289.1 231 20 := uF_ne (fun h => absurd h.2 (by decide))
              have lk_325 : (uF u_289 231 24 ((u_289.1 231 24) + 1)).1 231 25 = S.1 231 25 := (uF_ne (fun h => absurd h.2 (by decide))).trans ((gu_289 25 rfl).trans ((uF_ne (fun h => absurd h.2 (by decide))).trans ((uF_ne (fun h => absurd h.2 (by decide))).trans (uF_ne (fun h => absurd h.2 (by decide))))))
              have lk_326 : (uF u_289 231 24 ((u_289.1 231 24) + 1)).1 231 24 = (u_289.1 231 24) + 1 := uF_on
              have q_327 : (-2147483648) ≤ u_289.1 231 43 ∧ u_289.1 231 43 ≤ 2147483647 := iu_289.fi 43
              have lk_328 : (uF u_289 231 24 ((u_289.1 231 24) + 1)).1 231 43 = u_289.1 231 43 := uF_ne (fun h => absurd h.2 (by decide))
              refine sBv (sV (As := []) (rest := []) (k := 231) Cx (s_X12_index l G (uF u_289 231 24 ((u_289.1 231 24) + 1)) (K := K) (V := V) (Fm := Fm) (Wd := Wd) (T := T) (pz := a + 1) (q := b) i_323 ((funext fun j => (uF_a).trans (((fu_289 244 rfl).2.1 j).trans ((uF_a).trans ((uF_a).trans (uF_a)))) : (uF u_289 231 24 ((u_289.1 231 24) + 1)).2.1 244 = S.2.1 244).trans hK) ((funext fun j => (uF_a).trans (((fu_289 247 rfl).2.1 j).trans ((uF_a).trans ((uF_a).trans (uF_a)))) : (uF u_289 231 24 ((u_289.1 231 24) + 1)).2.1 247 = S.2.1 247).trans hV) ((funext fun j => (uF_a).trans (((fu_289 245 rfl).2.1 j).trans ((uF_a).trans ((uF_a).trans (uF_a)))) : (uF u_289 231 24 ((u_289.1 231 24) + 1)).2.1 245 = S.2.1 245).trans hFm) ((funext fun j => (uF_a).trans (((fu_289 246 rfl).2.1 j).trans ((uF_a).trans ((uF_a).trans (uF_a)))) : (uF u_289 231 24 ((u_289.1 231 24) + 1)).2.1 246 = S.2.1 246).trans hWd) hQ (fun _ => (NX.cg (S := S) (u := (uF u_289 231 24 ((u_289.1 231 24) + 1))) hNX (NR.eq (funext fun j => (uF_a).trans (((fu_289 248 rfl).2.1 j).trans ((uF_a).trans ((uF_a).trans (uF_a))))) (funext fun j => (uF_a).trans (((fu_289 249 rfl).2.1 j).trans ((uF_a).trans ((uF_a).trans (uF_a))))) (funext fun j => (uF_a).trans (((fu_289 250 rfl).2.1 j).trans ((uF_a).trans ((uF_a).trans (uF_a))))) (funext fun j => (uF_a).trans (((fu_289 251 rfl).2.1 j).trans ((uF_a).trans ((uF_a).trans (uF_a))))) (funext fun j => (uF_a).trans (((fu_289 252 rfl).2.1 j).trans ((uF_a).trans ((uF_a).trans (uF_a)))))) ((uF_ne (fun h => absurd h.2 (by decide))).trans ((gu_289 25 rfl).trans ((uF_ne (fun h => absurd h.2 (by decide))).trans ((uF_ne (fun h => absurd h.2 (by decide))).trans (uF_ne (fun h => absurd h.2 (by decide))))))) ((uF_ne (fun h => absurd h.2 (by decide))).trans ((gu_289 32 rfl).trans ((uF_ne (fun h => absurd h.2 (by decide))).trans ((uF_ne (fun h => absurd h.2 (by decide))).trans (uF_ne (fun h => absurd h.2 (by decide))))))) ((uF_ne (fun h => absurd h.2 (by decide))).trans ((gu_289 35 rfl).trans ((uF_ne (fun h => absurd h.2 (by decide))).trans ((uF_ne (fun h => absurd h.2 (by decide))).trans (uF_ne (fun h => absurd h.2 (by decide))))))) (funext fun j => (uF_a).trans (((fu_289 253 rfl).2.1 j).trans ((uF_a).trans ((uF_a).trans (uF_a))))))) (fun _ => by omega) (by omega) hx2 (by omega) (fun _ => by omega)) (c_X12_444 Cx rfl rfl (rmk_ok (by omega) (by decide))) hW (by decide) rfl rfl rfl hl.1 rfl (Nat.le_of_ble_eq_true rfl) dX12_named_146 ⟨Nat.le_of_ble_eq_true rfl, Nat.le_of_ble_eq_true rfl⟩) hL (fun u_329 H locs k_330 hW hL => ?_)
              obtain ⟨iu_329, fu_329, gu_329, xu_329⟩ := k_330
              have F_331 := F_319.trans (fu_329.to (pl_sub (by decide)))
              have F_332 := F_320.trans fu_329
              have g_333 : FF S u_329 (fl [20, 21, 24, 43]) := FF.trans g_321 (FF.to gu_329 (fl_sub (by decide)))
              have g_334 : FF ((uF S 231 24 ((S.1 231 24) + 1))) u_329 (fl [20, 21, 24, 43]) := FF.trans g_322 (FF.to gu_329 (fl_sub (by decide)))
              refine lv_aload_n hx hb dX12_named_149 rfl (lv_at hl 4 rfl) ?_
              refine lv_dup hx hb dX12_named_150 rfl ?_
              have q_335 : (-2147483648) ≤ u_329.1 231 24 ∧ u_329.1 231 24 ≤ 2147483647 := iu_329.fi 24
              refine g_X12_315 Cx hW (k := 231) (by decide) rfl (v := u_329.1 231 24) rfl dX12_named_151 ?_
              refine lv_iconst (v := iv 1) hx hb dX12_named_154 (by decide) ?_
              refine r_iadd hx hb dX12_named_155 ?_
              refine p_X12_315 Cx hW hL (k := 231) (by decide) rfl dX12_named_156 (fun H locs hW hL => ?_)
              have F_336 : Fr S (uF u_329 231 24 ((u_329.1 231 24) + 1)) (pl [231, 257, 258]) := F_331.F rfl
              have F_337 : Fr ((uF S 231 24 ((S.1 231 24) + 1))) (uF u_329 231 24 ((u_329.1 231 24) + 1)) (pl [231, 258]) := F_332.F rfl
              have g_338 : FF S (uF u_329 231 24 ((u_329.1 231 24) + 1)) (fl [20, 21, 24, 43]) := FF.F g_333 rfl
              have g_339 : FF ((uF S 231 24 ((S.1 231 24) + 1))) (uF u_329 231 24 ((u_329.1 231 24) + 1)) (fl [20, 21, 24, 43]) := FF.F g_334 rfl
              have i_340 : dX G (uF u_329 231 24 ((u_329.1 231 24) + 1)) := iu_329.F (i := 24) (show (-2147483648) ≤ (u_329.1 231 24) + 1 ∧ (u_329.1 231 24) + 1 ≤ 2147483647 from ⟨by omega, by omega⟩)
              refine lv_aload_n hx hb dX12_named_159 rfl (lv_at hl 4 rfl) ?_
              have q_341 : (-2147483648) ≤ u_329.1 231 20 ∧ u_329.1 231 20 ≤ 2147483647 := iu_329.fi 20
              refine g_X12_270 Cx hW (k := 231) (by decide) rfl (v := u_329.1 231 20) (uF_ne (fun h => absurd h.2 (by decide))) dX12_named_160 ?_
              refine r_if_eq (tgt := 167) hx hb ⟨(by omega), (by omega)⟩ dX12_named_163 (by decide) (fun c_342 => ?_) (fun c_342 => ?_)
              · have lk_343 : (uF u_329 231 24 ((u_329.1 231 24) + 1)).1 231 20 = u_329.1 231 20 := uF_ne (fun h => absurd h.2 (by decide))
                have lk_344 : (uF u_329 231 24 ((u_329.1 231 24) + 1)).1 231 24 = (u_329.1 231 24) + 1 := uF_on
                have q_345 : (-2147483648) ≤ u_329.1 231 43 ∧ u_329.1 231 43 ≤ 2147483647 := iu_329.fi 43
                have lk_346 : (uF u_329 231 24 ((u_329.1 231 24) + 1)).1 231 43 = u_329.1 231 43 := uF_ne (fun h => absurd h.2 (by decide))
                exact join_167 (uF u_329 231 24 ((u_329.1 231 24) + 1))  _ _ _ i_340 F_336 F_337 g_338 g_339 (by omega) (by have b2 := xu_329.2 (by omega); have e6 := (show (uF u_329 231 24 ((u_329.1 231 24) + 1)).1 231 43 = u_329.1 231 43 from uF_ne (fun h => absurd h.2 (by decide))); have e7 := (show (uF u_329 231 24 ((u_329.1 231 24) + 1)).1 231 24 = (u_329.1 231 24) + 1 from uF_on); have e8 := (show (uF u_329 231 24 ((u_329.1 231 24) + 1)).1 231 20 = u_329.1 231 20 from uF_ne (fun h => absurd h.2 (by decide))); omega) (fun x a b => by have b2 := xu_329.2 (by omega); rw [(show (uF u_289 231 24 ((u_289.1 231 24) + 1)).1 231 43 = u_289.1 231 43 from uF_ne (fun h => absurd h.2 (by decide))), show u_289.1 231 43 = 1 by omega] at b2; rw [show (uF u_329 231 24 ((u_329.1 231 24) + 1)).2.1 258 x = u_329.2.1 258 x from uF_a]; by_cases q0 : x = 1; (rw [q0]; exact b2.2.2.2.2); (rw [b2.2.2.2.1 x q0, show x = 0 by omega]; exact b1.2.2.2.2)) hW hL (lv_sub hl [0, 1, 2, 3, 4, 5] rfl)
              · have lk_347 : (uF u_329 231 24 ((u_329.1 231 24) + 1)).1 231 24 = (u_329.1 231 24) + 1 := uF_on
                have lk_348 : (uF u_329 231 24 ((u_329.1 231 24) + 1)).1 231 20 = u_329.1 231 20 := uF_ne (fun h => absurd h.2 (by decide))
                exact sVret Cx hr hlk hW hL ⟨i_340, F_336, g_338, ⟨(by have e7 := (show (uF u_329 231 24 ((u_329.1 231 24) + 1)).1 231 24 = (u_329.1 231 24) + 1 from uF_on); omega), (fun h => absurd h (by have e9 := (show (uF u_329 231 24 ((u_329.1 231 24) + 1)).1 231 20 = u_329.1 231 20 from uF_ne (fun h => absurd h.2 (by decide))); omega))⟩⟩ dX12_named_166
      · refine lv_iload hx hb dX12_named_58 (lv_at hl 0 rfl) ?_
        refine lv_iconst (v := iv 5) hx hb dX12_named_60 (by decide) ?_
        refine r_icmp_ne (tgt := 69) hx hb ⟨(by omega), (by omega)⟩ ⟨(by omega), (by omega)⟩ dX12_named_61 (by decide) (fun c_349 => ?_) (fun c_349 => ?_)
        · refine lv_aload_n hx hb dX12_named_69 rfl (lv_at hl 4 rfl) ?_
          refine lv_iconst (v := iv 2) hx hb dX12_named_70 (by decide) ?_
          refine lv_iload_n hx hb dX12_named_71 rfl (lv_at hl 3 rfl) ?_
          refine sBv (sV (As := [.int (iv 2), .int (iv (S.1 231 24))]) (rest := []) (k := 231) Cx (s_X12_wrong l G (uF S 231 24 ((S.1 231 24) + 1)) (cd := 2) (tk := S.1 231 24) i_7 (by omega) (by omega)) (c_X12_321 Cx rfl rfl (rmk_ok (by omega) (by decide))) hW (by decide) rfl rfl rfl hl.1 rfl (Nat.le_of_ble_eq_true rfl) dX12_named_72 ⟨Nat.le_of_ble_eq_true rfl, Nat.le_of_ble_eq_true rfl⟩) hL (fun u_350 H locs k_351 hW hL => ?_)
          obtain ⟨iu_350, fu_350, gu_350, xu_350⟩ := k_351
          have F_352 := F_5.trans (fu_350.to (pl_sub (by decide)))
          have F_353 := (Fr.rf : Fr (uF S 231 24 ((S.1 231 24) + 1)) (uF S 231 24 ((S.1 231 24) + 1)) (pl [231, 258])).trans (fu_350.to (pl_sub (by decide)))
          have g_354 : FF S u_350 (fl [20, 21, 24, 43]) := FF.trans g_6 (FF.to gu_350 (fl_sub (by decide)))
          have g_355 : FF ((uF S 231 24 ((S.1 231 24) + 1))) u_350 (fl [20, 21, 24, 43]) := FF.trans (FF.rf : FF ((uF S 231 24 ((S.1 231 24) + 1))) ((uF S 231 24 ((S.1 231 24) + 1))) (fl [20, 21, 24, 43])) (FF.to gu_350 (fl_sub (by decide)))
          have lk_356 : u_350.1 231 24 = (S.1 231 24) + 1 := (gu_350 24 rfl).trans (uF_on)
          have q_357 : (-2147483648) ≤ u_350.1 231 20 ∧ u_350.1 231 20 ≤ 2147483647 := iu_350.fi 20
          exact sVret Cx hr hlk hW hL ⟨iu_350, F_352, g_354, ⟨(by have e7 := (show u_350.1 231 24 = (S.1 231 24) + 1 from (gu_350 24 rfl).trans (uF_on)); omega), (fun h => absurd h (by have e9 := (show u_350.1 231 20 = u_350.1 231 20 from rfl); have a9 := xu_350; omega))⟩⟩ dX12_named_75
        · refine lv_iload hx hb dX12_named_64 (lv_at hl 1 rfl) ?_
          refine r_if_eq (tgt := 76) hx hb ⟨(by omega), (by omega)⟩ dX12_named_66 (by decide) (fun c_358 => ?_) (fun c_358 => ?_)
          · refine lv_iload hx hb dX12_named_76 (lv_at hl 0 rfl) ?_
            refine lv_iconst (v := iv 5) hx hb dX12_named_78 (by decide) ?_
            refine r_icmp_ne (tgt := 95) hx hb ⟨(by omega), (by omega)⟩ ⟨(by omega), (by omega)⟩ dX12_named_79 (by decide) (fun c => absurd (by omega) c) (fun _ => ?_)
            have h56 := hok.2.2.2.2.2 (by omega)
            have hq9 : q = pz + 1 := by rcases hg.2 with h | h; (exact h.2); exact absurd h.1 (xu_9.2.2 (by omega))
            refine lv_aload_n hx hb dX12_named_82 rfl (lv_at hl 4 rfl) ?_
            refine lv_iload_n hx hb dX12_named_83 rfl (lv_at hl 5 rfl) ?_
            refine lv_aload_n hx hb dX12_named_84 rfl (lv_at hl 4 rfl) ?_
            refine g_X12_71 Cx hW (k := 231) (by decide) rfl (v := .ref (G.2.2.1 + 252)) (rd_30 i_7) dX12_named_85 ?_
            refine lv_iload_n hx hb dX12_named_88 rfl (lv_at hl 2 rfl) ?_
            refine rIald Cx hW (k := 252) (by decide) rfl (by decide) (by omega) (by omega) dX12_named_89 ?_
            have q_359 : (-2147483648) ≤ S.2.1 252 j ∧ S.2.1 252 j ≤ 2147483647 := hI.ai 252 j
            refine r_i (b := S.2.1 252 j) uF_a ?_
            refine r_i2l hx hb ⟨(by omega), (by omega)⟩ dX12_named_90 ?_
            refine sBv (sV (As := [.int (iv ix), .long (jv (S.2.1 252 j))]) (rest := []) (k := 231) Cx (s_X12_constant l G (uF S 231 24 ((S.1 231 24) + 1)) (ix := ix) (v := S.2.1 252 j) i_7 (by omega) (by omega)) (c_X12_431 Cx rfl rfl (rmk_ok (by omega) (by decide))) hW (by decide) rfl rfl rfl hl.1 rfl (Nat.le_of_ble_eq_true rfl) dX12_named_91 ⟨Nat.le_of_ble_eq_true rfl, Nat.le_of_ble_eq_true rfl⟩) hL (fun u_360 H locs k_361 hW hL => ?_)
            obtain ⟨iu_360, fu_360, gu_360, xu_360⟩ := k_361
            have F_362 := F_5.trans (fu_360.to (pl_sub (by decide)))
            have g_363 : FF S u_360 (fl [20, 21, 24, 43]) := FF.trans g_6 (FF.to gu_360 (fl_sub (by decide)))
            have g_364 : FF ((uF S 231 24 ((S.1 231 24) + 1))) u_360 (fl [20, 21, 24, 43]) := FF.trans (FF.rf : FF ((uF S 231 24 ((S.1 231 24) + 1))) ((uF S 231 24 ((S.1 231 24) + 1))) (fl [20, 21, 24, 43])) (FF.to gu_360 (fl_sub (by decide)))
            have lk_365 : u_360.1 231 24 = (S.1 231 24) + 1 := (gu_360 24 rfl).trans (uF_on)
            have q_366 : (-2147483648) ≤ S.1 231 20 ∧ S.1 231 20 ≤ 2147483647 := hI.fi 20
            have lk_367 : u_360.1 231 20 = S.1 231 20 := (gu_360 20 rfl).trans (uF_ne (fun h => absurd h.2 (by decide)))
            exact sVret Cx hr hlk hW hL ⟨iu_360, F_362, g_363, ⟨(by have e7 := (show u_360.1 231 24 = (S.1 231 24) + 1 from (gu_360 24 rfl).trans (uF_on)); omega), (fun _ => ⟨(by have e7 := (show u_360.1 231 24 = (S.1 231 24) + 1 from (gu_360 24 rfl).trans (uF_on)); omega), (fB_c xu_360.1 xu_360.2 (by omega))⟩)⟩⟩ dX12_named_94
          · refine lv_aload_n hx hb dX12_named_69 rfl (lv_at hl 4 rfl) ?_
            refine lv_iconst (v := iv 2) hx hb dX12_named_70 (by decide) ?_
            refine lv_iload_n hx hb dX12_named_71 rfl (lv_at hl 3 rfl) ?_
            refine sBv (sV (As := [.int (iv 2), .int (iv (S.1 231 24))]) (rest := []) (k := 231) Cx (s_X12_wrong l G (uF S 231 24 ((S.1 231 24) + 1)) (cd := 2) (tk := S.1 231 24) i_7 (by omega) (by omega)) (c_X12_321 Cx rfl rfl (rmk_ok (by omega) (by decide))) hW (by decide) rfl rfl rfl hl.1 rfl (Nat.le_of_ble_eq_true rfl) dX12_named_72 ⟨Nat.le_of_ble_eq_true rfl, Nat.le_of_ble_eq_true rfl⟩) hL (fun u_368 H locs k_369 hW hL => ?_)
            obtain ⟨iu_368, fu_368, gu_368, xu_368⟩ := k_369
            have F_370 := F_5.trans (fu_368.to (pl_sub (by decide)))
            have F_371 := (Fr.rf : Fr (uF S 231 24 ((S.1 231 24) + 1)) (uF S 231 24 ((S.1 231 24) + 1)) (pl [231, 258])).trans (fu_368.to (pl_sub (by decide)))
            have g_372 : FF S u_368 (fl [20, 21, 24, 43]) := FF.trans g_6 (FF.to gu_368 (fl_sub (by decide)))
            have g_373 : FF ((uF S 231 24 ((S.1 231 24) + 1))) u_368 (fl [20, 21, 24, 43]) := FF.trans (FF.rf : FF ((uF S 231 24 ((S.1 231 24) + 1))) ((uF S 231 24 ((S.1 231 24) + 1))) (fl [20, 21, 24, 43])) (FF.to gu_368 (fl_sub (by decide)))
            have lk_374 : u_368.1 231 24 = (S.1 231 24) + 1 := (gu_368 24 rfl).trans (uF_on)
            have q_375 : (-2147483648) ≤ u_368.1 231 20 ∧ u_368.1 231 20 ≤ 2147483647 := iu_368.fi 20
            exact sVret Cx hr hlk hW hL ⟨iu_368, F_370, g_372, ⟨(by have e7 := (show u_368.1 231 24 = (S.1 231 24) + 1 from (gu_368 24 rfl).trans (uF_on)); omega), (fun h => absurd h (by have e9 := (show u_368.1 231 20 = u_368.1 231 20 from rfl); have a9 := xu_368; omega))⟩⟩ dX12_named_75
  · refine lv_iconst (v := iv 0) hx hb dX12_named_34 (by decide) ?_
    refine lv_goto (tgt := 44) hx hb dX12_named_35 (by decide) ?_
    refine lv_istore (lv' := [(5, .int (iv 0)), (4, .int (iv br)), (3, .int (iv j)), (2, .int (iv (S.1 231 24))), (0, .ref (G.2.2.1 + 231)), (1, .int (iv ix))]) hx hb dX12_named_44 hl (by decide) rfl (fun ls hl => ?_)
    refine lv_iload hx hb dX12_named_46 (lv_at hl 0 rfl) ?_
    refine lv_iconst (v := iv 2) hx hb dX12_named_48 (by decide) ?_
    refine r_icmp_eq (tgt := 76) hx hb ⟨(by omega), (by omega)⟩ ⟨(by omega), (by omega)⟩ dX12_named_49 (by decide) (fun c => absurd c (by omega)) (fun _ => ?_)
    refine lv_iload hx hb dX12_named_52 (lv_at hl 0 rfl) ?_
    refine lv_iconst (v := iv 3) hx hb dX12_named_54 (by decide) ?_
    refine r_icmp_eq (tgt := 76) hx hb ⟨(by omega), (by omega)⟩ ⟨(by omega), (by omega)⟩ dX12_named_55 (by decide) (fun c => absurd c (by omega)) (fun _ => ?_)
    refine lv_iload hx hb dX12_named_58 (lv_at hl 0 rfl) ?_
    refine lv_iconst (v := iv 5) hx hb dX12_named_60 (by decide) ?_
    refine r_icmp_ne (tgt := 69) hx hb ⟨(by omega), (by omega)⟩ ⟨(by omega), (by omega)⟩ dX12_named_61 (by decide) (fun _ => ?_) (fun c => absurd c (by omega))
    refine lv_aload_n hx hb dX12_named_69 rfl (lv_at hl 4 rfl) ?_
    refine lv_iconst (v := iv 2) hx hb dX12_named_70 (by decide) ?_
    refine lv_iload_n hx hb dX12_named_71 rfl (lv_at hl 3 rfl) ?_
    refine sBv (sV (As := [.int (iv 2), .int (iv (S.1 231 24))]) (rest := []) (k := 231) Cx (s_X12_wrong l G (uF S 231 24 ((S.1 231 24) + 1)) (cd := 2) (tk := S.1 231 24) i_7 (by omega) (by omega)) (c_X12_321 Cx rfl rfl (rmk_ok (by omega) (by decide))) hW (by decide) rfl rfl rfl hl.1 rfl (Nat.le_of_ble_eq_true rfl) dX12_named_72 ⟨Nat.le_of_ble_eq_true rfl, Nat.le_of_ble_eq_true rfl⟩) hL (fun u_376 H locs k_377 hW hL => ?_)
    obtain ⟨iu_376, fu_376, gu_376, xu_376⟩ := k_377
    have F_378 := F_5.trans (fu_376.to (pl_sub (by decide)))
    have g_379 : FF S u_376 (fl [20, 21, 24, 43]) := FF.trans g_6 (FF.to gu_376 (fl_sub (by decide)))
    have lk_380 : u_376.1 231 24 = (S.1 231 24) + 1 := (gu_376 24 rfl).trans (uF_on)
    have q_381 : (-2147483648) ≤ u_376.1 231 20 ∧ u_376.1 231 20 ≤ 2147483647 := iu_376.fi 20
    exact sVret Cx hr hlk hW hL ⟨iu_376, F_378, g_379, ⟨(by have e7 := (show u_376.1 231 24 = (S.1 231 24) + 1 from (gu_376 24 rfl).trans (uF_on)); omega), (fun h => absurd h (by have e9 := (show u_376.1 231 20 = u_376.1 231 20 from rfl); have a9 := xu_376; omega))⟩⟩ dX12_named_75
