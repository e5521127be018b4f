set_option maxRecDepth 100000 in
set_option maxHeartbeats 4000000 in
theorem s_X12_oneRow (l : Launch) (G : sG) (S : sS) {K V Fm Wd : Int → Int} {T : Int} {pz q tk : Int} (hI : dX G S) (hK : S.2.1 244 = K) (hV : S.2.1 247 = V) (hFm : S.2.1 245 = Fm) (hWd : S.2.1 246 = Wd) (hQ : gQ K V Fm Wd T) (h20 : S.1 231 20 = 0) (hNX : Hd (S.1 231 20 = 0 → NX S T)) (h3 : 3 * S.1 231 25 ≤ pz) (hc : S.1 231 24 = pz) (hg : ∃ d, gU K V (gF K V 30) pz d ∧ (gS K V d 2 ∨ gS K V d 3 ∨ gS K V d 61) ∧ ∃ ed, gU K V (gF K V 30) (d + 1) ed ∧ gs K V 59 ed q) (hpq : 0 ≤ pz ∧ q ≤ T - 1) (htk : 0 ≤ tk ∧ tk < T) (h36 : 0 ≤ S.1 231 36 ∧ S.1 231 36 ≤ 16) (hRB : Hd (∀ x, -99999 ≤ S.2.2.1 255 x ∧ S.2.2.1 255 x ≤ 99999)) : Met l yX12_oneRow (.code yX12_oneRow cX12_oneRow 8 none :: tb) (rmk 134 0 0) (sPc G 294 S [.ref (G.2.2.1 + 231), .int (iv tk)]) (sQv G 294 (fun u => dX G u ∧ Fr S u (pl [231, 248, 249, 250, 251, 252, 255, 257, 258]) ∧ FF S u (fl [20, 21, 24, 25, 36, 42, 43]) ∧ (NR S u (S.1 231 25) ∧ S.1 231 25 ≤ u.1 231 25 ∧ Hd (∀ x, -99999 ≤ u.2.2.1 255 x ∧ u.2.2.1 255 x ≤ 99999) ∧ Hd (u.1 231 20 = 0 → NX u T ∧ u.1 231 25 = S.1 231 25 ∧ u.1 231 24 = q ∧ 0 ≤ u.1 231 36 ∧ u.1 231 36 ≤ 16)))) 0 0 (sF G) := by
  refine sEnter (by decide) (Nat.le_of_ble_eq_true rfl) ?_
  intro p e s m args below meth c Cx hr hlk hnm hW ls hl
  have Cx : sC G p m c cX12_oneRow 8 s args RX12 := Cx
  obtain ⟨hx, hb, hml, hown, hts⟩ := id Cx.1
  have hL : sL G [] := sL_nil
  have hl : lv_has ls 8 [(0, .ref (G.2.2.1 + 231)), (1, .int (iv tk))] := hl
  have hW0 := hW
  have hQ1 := hQ.1
  have hn0 := (hNX h20).1.1
  obtain ⟨d, hd, hsd, ed, he, hs⟩ := hg
  have hq2 := hs.2
  have hl1 := gU_lt hd
  have hl2 := gU_lt he
  refine lv_aload_n hx hb dX12_oneRow_0 rfl (lv_at hl 0 rfl) ?_
  refine lv_iconst (v := iv 0) hx hb dX12_oneRow_1 (by decide) ?_
  have q_1 : (-2147483648) ≤ S.1 231 24 ∧ S.1 231 24 ≤ 2147483647 := hI.fi 24
  have q_2 : (-2147483648) ≤ S.1 231 20 ∧ S.1 231 20 ≤ 2147483647 := hI.fi 20
  have q_3 : (-2147483648) ≤ S.1 231 25 ∧ S.1 231 25 ≤ 2147483647 := hI.fi 25
  refine sBv (sV (As := [.int (iv 0)]) (rest := []) (k := 231) Cx ((ex_all l G K V Fm Wd T hQ 30).2.2 S pz d 0 hI hK hV hFm hWd (by omega) (by omega) (fun _ => hd) hNX (fun _ => by omega) (by omega)) (c_X12_398 Cx rfl rfl (rmk_ok (by omega) (by decide))) hW (by decide) rfl rfl rfl hl.1 rfl (Nat.le_of_ble_eq_true rfl) dX12_oneRow_2 ⟨Nat.le_of_ble_eq_true rfl, Nat.le_of_ble_eq_true rfl⟩) hL (fun u_4 H locs k_5 hW hL => ?_)
  obtain ⟨iu_4, fu_4, gu_4, xu_4⟩ := k_5
  have F_6 := (Fr.rf : Fr S S (pl [231, 248, 249, 250, 251, 252, 255, 257, 258])).trans (fu_4.to (pl_sub (by decide)))
  have g_7 : FF S u_4 (fl [20, 21, 24, 25, 36, 42, 43]) := FF.trans FF.rf (FF.to gu_4 (fl_sub (by decide)))
  have nu_4 : Hd (u_4.1 231 20 = 0 → NX u_4 T) := fun h => NX.cg (S := S) (hNX (xu_4.2.2.2 h).1) xu_4.2.1 (xu_4.2.2.2 h).2.2.1 (gu_4 32 rfl) (gu_4 35 rfl) (funext fun j => (fu_4 253 rfl).2.1 j)
  refine lv_aload_n hx hb dX12_oneRow_5 rfl (lv_at hl 0 rfl) ?_
  have q_8 : (-2147483648) ≤ u_4.1 231 24 ∧ u_4.1 231 24 ≤ 2147483647 := iu_4.fi 24
  refine g_X12_315 Cx hW (k := 231) (by decide) rfl (v := u_4.1 231 24) rfl dX12_oneRow_6 ?_
  refine lv_istore_n (lv' := [(2, .int (iv (u_4.1 231 24))), (0, .ref (G.2.2.1 + 231)), (1, .int (iv tk))]) hx hb dX12_oneRow_9 rfl hl (by decide) rfl (fun ls hl => ?_)
  refine lv_aload_n hx hb dX12_oneRow_10 rfl (lv_at hl 1 rfl) ?_
  refine g_X12_56 Cx hW (k := 231) (by decide) rfl (v := .ref (G.2.2.1 + 247)) (rd_18 iu_4) dX12_oneRow_11 ?_
  refine lv_aload_n hx hb dX12_oneRow_14 rfl (lv_at hl 1 rfl) ?_
  refine g_X12_315 Cx hW (k := 231) (by decide) rfl (v := u_4.1 231 24) rfl dX12_oneRow_15 ?_
  refine rIald Cx hW (k := 247) (by decide) rfl (by decide) (by omega) (by omega) dX12_oneRow_18 ?_
  have q_9 : (-2147483648) ≤ S.2.1 247 (u_4.1 231 24) ∧ S.2.1 247 (u_4.1 231 24) ≤ 2147483647 := hI.ai 247 (u_4.1 231 24)
  refine r_i (b := S.2.1 247 (u_4.1 231 24)) ((fu_4 247 rfl).2.1 (u_4.1 231 24)) ?_
  refine lv_istore_n (lv' := [(3, .int (iv (S.2.1 247 (u_4.1 231 24)))), (2, .int (iv (u_4.1 231 24))), (0, .ref (G.2.2.1 + 231)), (1, .int (iv tk))]) hx hb dX12_oneRow_19 rfl hl (by decide) rfl (fun ls hl => ?_)
  refine lv_aload_n hx hb dX12_oneRow_20 rfl (lv_at hl 2 rfl) ?_
  refine lv_dup hx hb dX12_oneRow_21 rfl ?_
  refine g_X12_315 Cx hW (k := 231) (by decide) rfl (v := u_4.1 231 24) rfl dX12_oneRow_22 ?_
  refine lv_iconst (v := iv 1) hx hb dX12_oneRow_25 (by decide) ?_
  refine r_iadd hx hb dX12_oneRow_26 ?_
  refine p_X12_315 Cx hW hL (k := 231) (by decide) rfl dX12_oneRow_27 (fun H locs hW hL => ?_)
  have F_10 : Fr S (uF u_4 231 24 ((u_4.1 231 24) + 1)) (pl [231, 248, 249, 250, 251, 252, 255, 257, 258]) := F_6.F rfl
  have g_11 : FF S (uF u_4 231 24 ((u_4.1 231 24) + 1)) (fl [20, 21, 24, 25, 36, 42, 43]) := FF.F g_7 rfl
  have i_12 : dX G (uF u_4 231 24 ((u_4.1 231 24) + 1)) := iu_4.F (i := 24) (show (-2147483648) ≤ (u_4.1 231 24) + 1 ∧ (u_4.1 231 24) + 1 ≤ 2147483647 from ⟨by omega, by omega⟩)
  refine lv_aload_n hx hb dX12_oneRow_30 rfl (lv_at hl 2 rfl) ?_
  refine lv_bipush (v := iv 13) hx hb dX12_oneRow_31 (by decide) ?_
  have lk_13 : (uF u_4 231 24 ((u_4.1 231 24) + 1)).1 231 24 = (u_4.1 231 24) + 1 := uF_on
  have q_14 : (-2147483648) ≤ u_4.1 231 20 ∧ u_4.1 231 20 ≤ 2147483647 := iu_4.fi 20
  have lk_15 : (uF u_4 231 24 ((u_4.1 231 24) + 1)).1 231 20 = u_4.1 231 20 := uF_ne (fun h => absurd h.2 (by decide))
  have q_16 : (-2147483648) ≤ u_4.1 231 25 ∧ u_4.1 231 25 ≤ 2147483647 := iu_4.fi 25
  have lk_17 : (uF u_4 231 24 ((u_4.1 231 24) + 1)).1 231 25 = u_4.1 231 25 := uF_ne (fun h => absurd h.2 (by decide))
  refine sBv (sV (As := [.int (iv 13)]) (rest := []) (k := 231) Cx ((ex_all l G K V Fm Wd T hQ 30).2.2 (uF u_4 231 24 ((u_4.1 231 24) + 1)) (u_4.1 231 24 + 1) ed 13 i_12 ((funext fun j => (uF_a).trans ((fu_4 244 rfl).2.1 j) : (uF u_4 231 24 ((u_4.1 231 24) + 1)).2.1 244 = S.2.1 244).trans hK) ((funext fun j => (uF_a).trans ((fu_4 247 rfl).2.1 j) : (uF u_4 231 24 ((u_4.1 231 24) + 1)).2.1 247 = S.2.1 247).trans hV) ((funext fun j => (uF_a).trans ((fu_4 245 rfl).2.1 j) : (uF u_4 231 24 ((u_4.1 231 24) + 1)).2.1 245 = S.2.1 245).trans hFm) ((funext fun j => (uF_a).trans ((fu_4 246 rfl).2.1 j) : (uF u_4 231 24 ((u_4.1 231 24) + 1)).2.1 246 = S.2.1 246).trans hWd) (by omega) (by omega) (fun h => by have a9 := xu_4.2.2.2 h; rw [show u_4.1 231 24 + 1 = d + 1 by omega]; exact he) (fun h => (NX.cg (S := u_4) (u := (uF u_4 231 24 ((u_4.1 231 24) + 1))) (nu_4 (by have e9 := (show (uF u_4 231 24 ((u_4.1 231 24) + 1)).1 231 20 = u_4.1 231 20 from uF_ne (fun h => absurd h.2 (by decide))); omega)) (NR.eq (funext fun j => uF_a) (funext fun j => uF_a) (funext fun j => uF_a) (funext fun j => uF_a) (funext fun j => uF_a)) (uF_ne (fun h => absurd h.2 (by decide))) (uF_ne (fun h => absurd h.2 (by decide))) (uF_ne (fun h => absurd h.2 (by decide))) (funext fun j => uF_a))) (fun h => by have a9 := xu_4.2.2.2 h; omega) (by omega)) (c_X12_398 Cx rfl rfl (rmk_ok (by omega) (by decide))) hW (by decide) rfl rfl rfl hl.1 rfl (Nat.le_of_ble_eq_true rfl) dX12_oneRow_33 ⟨Nat.le_of_ble_eq_true rfl, Nat.le_of_ble_eq_true rfl⟩) hL (fun u_18 H locs k_19 hW hL => ?_)
  obtain ⟨iu_18, fu_18, gu_18, xu_18⟩ := k_19
  have F_20 := F_10.trans (fu_18.to (pl_sub (by decide)))
  have g_21 : FF S u_18 (fl [20, 21, 24, 25, 36, 42, 43]) := FF.trans g_11 (FF.to gu_18 (fl_sub (by decide)))
  have nu_18 : Hd (u_18.1 231 20 = 0 → NX u_18 T) := fun h => NX.cg (S := (uF u_4 231 24 ((u_4.1 231 24) + 1))) ((fun h => (NX.cg (S := u_4) (u := (uF u_4 231 24 ((u_4.1 231 24) + 1))) (nu_4 (by have e9 := (show (uF u_4 231 24 ((u_4.1 231 24) + 1)).1 231 20 = u_4.1 231 20 from uF_ne (fun h => absurd h.2 (by decide))); omega)) (NR.eq (funext fun j => uF_a) (funext fun j => uF_a) (funext fun j => uF_a) (funext fun j => uF_a) (funext fun j => uF_a)) (uF_ne (fun h => absurd h.2 (by decide))) (uF_ne (fun h => absurd h.2 (by decide))) (uF_ne (fun h => absurd h.2 (by decide))) (funext fun j => uF_a))) (xu_18.2.2.2 h).1) xu_18.2.1 (xu_18.2.2.2 h).2.2.1 (gu_18 32 rfl) (gu_18 35 rfl) (funext fun j => (fu_18 253 rfl).2.1 j)
  refine lv_aload_n hx hb dX12_oneRow_36 rfl (lv_at hl 2 rfl) ?_
  have q_22 : (-2147483648) ≤ u_18.1 231 20 ∧ u_18.1 231 20 ≤ 2147483647 := iu_18.fi 20
  refine g_X12_270 Cx hW (k := 231) (by decide) rfl (v := u_18.1 231 20) rfl dX12_oneRow_37 ?_
  refine r_if_eq (tgt := 44) hx hb ⟨(by omega), (by omega)⟩ dX12_oneRow_40 (by decide) (fun c_23 => ?_) (fun c_23 => ?_)
  · have a2 := xu_18.2.2.2 (by omega)
    have a1 := xu_4.2.2.2 a2.1
    refine lv_aload_n hx hb dX12_oneRow_44 rfl (lv_at hl 2 rfl) ?_
    refine lv_dup hx hb dX12_oneRow_45 rfl ?_
    have q_24 : (-2147483648) ≤ u_18.1 231 24 ∧ u_18.1 231 24 ≤ 2147483647 := iu_18.fi 24
    refine g_X12_315 Cx hW (k := 231) (by decide) rfl (v := u_18.1 231 24) rfl dX12_oneRow_46 ?_
    refine lv_iconst (v := iv 1) hx hb dX12_oneRow_49 (by decide) ?_
    refine r_iadd hx hb dX12_oneRow_50 ?_
    refine p_X12_315 Cx hW hL (k := 231) (by decide) rfl dX12_oneRow_51 (fun H locs hW hL => ?_)
    have F_25 : Fr S (uF u_18 231 24 ((u_18.1 231 24) + 1)) (pl [231, 248, 249, 250, 251, 252, 255, 257, 258]) := F_20.F rfl
    have g_26 : FF S (uF u_18 231 24 ((u_18.1 231 24) + 1)) (fl [20, 21, 24, 25, 36, 42, 43]) := FF.F g_21 rfl
    have i_27 : dX G (uF u_18 231 24 ((u_18.1 231 24) + 1)) := iu_18.F (i := 24) (show (-2147483648) ≤ (u_18.1 231 24) + 1 ∧ (u_18.1 231 24) + 1 ≤ 2147483647 from ⟨by omega, by omega⟩)
    refine lv_iconst (v := iv 0) hx hb dX12_oneRow_54 (by decide) ?_
    refine lv_istore (lv' := [(4, .int (iv 0)), (3, .int (iv (S.2.1 247 (u_4.1 231 24)))), (2, .int (iv (u_4.1 231 24))), (0, .ref (G.2.2.1 + 231)), (1, .int (iv tk))]) hx hb dX12_oneRow_55 hl (by decide) rfl (fun ls hl => ?_)
    have loop_57 : ∀ (fuel : Nat) (S57 : sS) (k : Int) (H : Heap) (locs : List Loc) (ls : Array Slot), (13 - k).toNat < fuel → (dX G S57) → (Fr S S57 (pl [231, 248, 249, 250, 251, 252, 255, 257, 258])) → (Fr ((uF u_18 231 24 ((u_18.1 231 24) + 1))) S57 (pl [257])) → (FF S S57 (fl [20, 21, 24, 25, 36, 42, 43])) → (FF ((uF u_18 231 24 ((u_18.1 231 24) + 1))) S57 (fl [])) → (0 ≤ k ∧ k ≤ 13) → sW G 294 S57 H → sL G locs → lv_has ls 8 [(4, .int (iv k)), (3, .int (iv (S.2.1 247 (u_4.1 231 24)))), (2, .int (iv (u_4.1 231 24))), (0, .ref (G.2.2.1 + 231)), (1, .int (iv tk))] → W p l e (rmk 134 0 0) s m args below meth c H locs 0 0 (MQ below (sQv G 294 (fun u => dX G u ∧ Fr S u (pl [231, 248, 249, 250, 251, 252, 255, 257, 258]) ∧ FF S u (fl [20, 21, 24, 25, 36, 42, 43]) ∧ (NR S u (S.1 231 25) ∧ S.1 231 25 ≤ u.1 231 25 ∧ Hd (∀ x, -99999 ≤ u.2.2.1 255 x ∧ u.2.2.1 255 x ≤ 99999) ∧ Hd (u.1 231 20 = 0 → NX u T ∧ u.1 231 25 = S.1 231 25 ∧ u.1 231 24 = q ∧ 0 ≤ u.1 231 36 ∧ u.1 231 36 ≤ 16)))) args s 0 0 (sF G)) (F0 m 57 ls []) := by
      intro fuel
      induction fuel with
      | zero => intro S57 k H locs ls hmeas hI57 hFm57 hL57_ hGm57 gL57_ hk hW hL hl; exact absurd hmeas (Nat.not_lt_zero _)
      | succ fuel ih_57 =>
        intro S57 k H locs ls hmeas hI57 hFm57 hL57_ hGm57 gL57_ hk hW hL hl
        refine lv_iload hx hb dX12_oneRow_57 (lv_at hl 0 rfl) ?_
        refine lv_bipush (v := iv 12) hx hb dX12_oneRow_59 (by decide) ?_
        refine r_icmp_gt (tgt := 90) hx hb ⟨(by omega), (by omega)⟩ ⟨(by omega), (by omega)⟩ dX12_oneRow_61 (by decide) (fun c_28 => ?_) (fun c_28 => ?_)
        · refine lv_aload_n hx hb dX12_oneRow_90 rfl (lv_at hl 3 rfl) ?_
          refine lv_iconst (v := iv 0) hx hb dX12_oneRow_91 (by decide) ?_
          refine sBi (sV (As := [.int (iv 0)]) (rest := []) (k := 231) Cx (s_X12_isGreat l G S57 (ix := 0) hI57 (by omega)) (c_X12_416 Cx rfl rfl (rmk_ok (by omega) (by decide))) hW (by decide) rfl rfl rfl hl.1 rfl (Nat.le_of_ble_eq_true rfl) dX12_oneRow_92 ⟨Nat.le_of_ble_eq_true rfl, Nat.le_of_ble_eq_true rfl⟩) hL (fun r_31 u_29 H locs k_30 hW hL => ?_)
          obtain ⟨eu_29, xu_29⟩ := k_30
          rw [eu_29] at hW
          refine r_if_eq (tgt := 105) hx hb ⟨(by omega), (by omega)⟩ dX12_oneRow_95 (by decide) (fun c_32 => ?_) (fun c_32 => ?_)
          · refine lv_aload_n hx hb dX12_oneRow_105 rfl (lv_at hl 3 rfl) ?_
            have q_33 : (-2147483648) ≤ S.1 231 36 ∧ S.1 231 36 ≤ 2147483647 := hI.fi 36
            refine g_X12_382 Cx hW (k := 231) (by decide) rfl (v := S.1 231 36) ((gL57_ 36 rfl).trans ((uF_ne (fun h => absurd h.2 (by decide))).trans ((gu_18 36 rfl).trans ((uF_ne (fun h => absurd h.2 (by decide))).trans (gu_4 36 rfl))))) dX12_oneRow_106 ?_
            refine lv_iload_n hx hb dX12_oneRow_109 rfl (lv_at hl 1 rfl) ?_
            refine lv_bipush (v := iv 61) hx hb dX12_oneRow_110 (by decide) ?_
            refine r_icmp_ne (tgt := 119) hx hb ⟨(by omega), (by omega)⟩ ⟨(by omega), (by omega)⟩ dX12_oneRow_112 (by decide) (fun c_34 => ?_) (fun c_34 => ?_)
            · refine lv_iconst (v := iv 1) hx hb dX12_oneRow_119 (by decide) ?_
              refine r_iadd hx hb dX12_oneRow_120 ?_
              refine lv_bipush (v := iv 16) hx hb dX12_oneRow_121 (by decide) ?_
              refine r_icmp_le (tgt := 133) hx hb ⟨(by omega), (by omega)⟩ ⟨(by omega), (by omega)⟩ dX12_oneRow_123 (by decide) (fun c_35 => ?_) (fun c_35 => ?_)
              · have hfb : ∀ k, 0 ≤ k → k ≤ 12 → -99999 ≤ S57.2.2.1 257 k ∧ S57.2.2.1 257 k ≤ 99999 := fun k a b => by have y := xu_29.2 (by omega) k a b; rw [Int.zero_add] at y; exact y
                refine lv_aload_n hx hb dX12_oneRow_133 rfl (lv_at hl 3 rfl) ?_
                refine g_X12_270 Cx hW (k := 231) (by decide) rfl (v := u_18.1 231 20) ((gL57_ 20 rfl).trans (uF_ne (fun h => absurd h.2 (by decide)))) dX12_oneRow_134 ?_
                refine r_if_eq (tgt := 141) hx hb ⟨(by omega), (by omega)⟩ dX12_oneRow_137 (by decide) (fun _ => ?_) (fun c => absurd (by omega) c)
                refine lv_iconst (v := iv 0) hx hb dX12_oneRow_141 (by decide) ?_
                refine lv_istore (lv' := [(4, .int (iv 0)), (3, .int (iv (S.2.1 247 (u_4.1 231 24)))), (2, .int (iv (u_4.1 231 24))), (0, .ref (G.2.2.1 + 231)), (1, .int (iv tk))]) hx hb dX12_oneRow_142 hl (by decide) rfl (fun ls hl => ?_)
                have loop_144 : ∀ (fuel : Nat) (S144 : sS) (i : Int) (H : Heap) (locs : List Loc) (ls : Array Slot), (1 - i).toNat < fuel → (dX G S144) → (Fr S S144 (pl [231, 248, 249, 250, 251, 252, 255, 257, 258])) → (Fr S57 S144 (pl [231, 255])) → (FF S S144 (fl [20, 21, 24, 25, 36, 42, 43])) → (FF S57 S144 (fl [36])) → (0 ≤ i ∧ i ≤ 1 ∧ S144.1 231 36 = S.1 231 36 + i) → (∀ x, -99999 ≤ S144.2.2.1 255 x ∧ S144.2.2.1 255 x ≤ 99999) → sW G 294 S144 H → sL G locs → lv_has ls 8 [(4, .int (iv i)), (3, .int (iv (S.2.1 247 (u_4.1 231 24)))), (2, .int (iv (u_4.1 231 24))), (0, .ref (G.2.2.1 + 231)), (1, .int (iv tk))] → W p l e (rmk 134 0 0) s m args below meth c H locs 0 0 (MQ below (sQv G 294 (fun u => dX G u ∧ Fr S u (pl [231, 248, 249, 250, 251, 252, 255, 257, 258]) ∧ FF S u (fl [20, 21, 24, 25, 36, 42, 43]) ∧ (NR S u (S.1 231 25) ∧ S.1 231 25 ≤ u.1 231 25 ∧ Hd (∀ x, -99999 ≤ u.2.2.1 255 x ∧ u.2.2.1 255 x ≤ 99999) ∧ Hd (u.1 231 20 = 0 → NX u T ∧ u.1 231 25 = S.1 231 25 ∧ u.1 231 24 = q ∧ 0 ≤ u.1 231 36 ∧ u.1 231 36 ≤ 16)))) args s 0 0 (sF G)) (F0 m 144 ls []) := by
                  intro fuel
                  induction fuel with
                  | zero => intro S144 i H locs ls hmeas hI144 hFm144 hL144_ hGm144 gL144_ hi hB144 hW hL hl; exact absurd hmeas (Nat.not_lt_zero _)
                  | succ fuel ih_144 =>
                    intro S144 i H locs ls hmeas hI144 hFm144 hL144_ hGm144 gL144_ hi hB144 hW hL hl
                    refine lv_iload hx hb dX12_oneRow_144 (lv_at hl 0 rfl) ?_
                    refine lv_iload_n hx hb dX12_oneRow_146 rfl (lv_at hl 1 rfl) ?_
                    refine lv_bipush (v := iv 61) hx hb dX12_oneRow_147 (by decide) ?_
                    refine r_icmp_ne (tgt := 156) hx hb ⟨(by omega), (by omega)⟩ ⟨(by omega), (by omega)⟩ dX12_oneRow_149 (by decide) (fun _ => ?_) (fun c => absurd c (by omega))
                    refine lv_iconst (v := iv 1) hx hb dX12_oneRow_156 (by decide) ?_
                    refine r_icmp_ge (tgt := 280) hx hb ⟨(by omega), (by omega)⟩ ⟨(by omega), (by omega)⟩ dX12_oneRow_157 (by decide) (fun c_36 => ?_) (fun c_36 => ?_)
                    · have q_37 : (-2147483648) ≤ u_18.1 231 25 ∧ u_18.1 231 25 ≤ 2147483647 := iu_18.fi 25
                      have lk_38 : S144.1 231 25 = u_18.1 231 25 := (gL144_ 25 rfl).trans ((gL57_ 25 rfl).trans (uF_ne (fun h => absurd h.2 (by decide))))
                      have lk_39 : S144.1 231 20 = u_18.1 231 20 := (gL144_ 20 rfl).trans ((gL57_ 20 rfl).trans (uF_ne (fun h => absurd h.2 (by decide))))
                      have lk_40 : S144.1 231 24 = (u_18.1 231 24) + 1 := (gL144_ 24 rfl).trans ((gL57_ 24 rfl).trans (uF_on))
                      have q_41 : (-2147483648) ≤ S144.1 231 36 ∧ S144.1 231 36 ≤ 2147483647 := hI144.fi 36
                      exact sVret Cx hr hlk hW hL ⟨hI144, hFm144, hGm144, ⟨(NR.trans (NR.trans (NR.trans xu_4.2.1 (NR.eq (S := u_4) (u := (uF u_4 231 24 ((u_4.1 231 24) + 1))) (funext fun j => uF_a) (funext fun j => uF_a) (funext fun j => uF_a) (funext fun j => uF_a) (funext fun j => uF_a))) (NR.mono xu_18.2.1 (by have y := xu_4.2.2.1; omega))) (NR.eq (S := u_18) (u := S144) (funext fun j => ((hL144_ 248 rfl).2.1 j).trans (((hL57_ 248 rfl).2.1 j).trans (uF_a))) (funext fun j => ((hL144_ 249 rfl).2.1 j).trans (((hL57_ 249 rfl).2.1 j).trans (uF_a))) (funext fun j => ((hL144_ 250 rfl).2.1 j).trans (((hL57_ 250 rfl).2.1 j).trans (uF_a))) (funext fun j => ((hL144_ 251 rfl).2.1 j).trans (((hL57_ 251 rfl).2.1 j).trans (uF_a))) (funext fun j => ((hL144_ 252 rfl).2.1 j).trans (((hL57_ 252 rfl).2.1 j).trans (uF_a))))), (by have e7 := (show S144.1 231 24 = (u_18.1 231 24) + 1 from (gL144_ 24 rfl).trans ((gL57_ 24 rfl).trans (uF_on))); have e6 := (show S144.1 231 25 = u_18.1 231 25 from (gL144_ 25 rfl).trans ((gL57_ 25 rfl).trans (uF_ne (fun h => absurd h.2 (by decide))))); have e8 := (show S144.1 231 20 = u_18.1 231 20 from (gL144_ 20 rfl).trans ((gL57_ 20 rfl).trans (uF_ne (fun h => absurd h.2 (by decide))))); have y1 := xu_4.2.2.1; have y2 := xu_18.2.2.1; omega), hB144, (fun _ => ⟨(NX.cg (S := u_18) (u := S144) (nu_18 (by omega)) (NR.eq (funext fun j => ((hL144_ 248 rfl).2.1 j).trans (((hL57_ 248 rfl).2.1 j).trans (uF_a))) (funext fun j => ((hL144_ 249 rfl).2.1 j).trans (((hL57_ 249 rfl).2.1 j).trans (uF_a))) (funext fun j => ((hL144_ 250 rfl).2.1 j).trans (((hL57_ 250 rfl).2.1 j).trans (uF_a))) (funext fun j => ((hL144_ 251 rfl).2.1 j).trans (((hL57_ 251 rfl).2.1 j).trans (uF_a))) (funext fun j => ((hL144_ 252 rfl).2.1 j).trans (((hL57_ 252 rfl).2.1 j).trans (uF_a)))) ((gL144_ 25 rfl).trans ((gL57_ 25 rfl).trans (uF_ne (fun h => absurd h.2 (by decide))))) ((gL144_ 32 rfl).trans ((gL57_ 32 rfl).trans (uF_ne (fun h => absurd h.2 (by decide))))) ((gL144_ 35 rfl).trans ((gL57_ 35 rfl).trans (uF_ne (fun h => absurd h.2 (by decide))))) (funext fun j => ((hL144_ 253 rfl).2.1 j).trans (((hL57_ 253 rfl).2.1 j).trans (uF_a)))), (by have e7 := (show S144.1 231 24 = (u_18.1 231 24) + 1 from (gL144_ 24 rfl).trans ((gL57_ 24 rfl).trans (uF_on))); have e6 := (show S144.1 231 25 = u_18.1 231 25 from (gL144_ 25 rfl).trans ((gL57_ 25 rfl).trans (uF_ne (fun h => absurd h.2 (by decide))))); have e8 := (show S144.1 231 20 = u_18.1 231 20 from (gL144_ 20 rfl).trans ((gL57_ 20 rfl).trans (uF_ne (fun h => absurd h.2 (by decide))))); have y1 := xu_4.2.2.1; have y2 := xu_18.2.2.1; omega), (by have e7 := (show S144.1 231 24 = (u_18.1 231 24) + 1 from (gL144_ 24 rfl).trans ((gL57_ 24 rfl).trans (uF_on))); have e6 := (show S144.1 231 25 = u_18.1 231 25 from (gL144_ 25 rfl).trans ((gL57_ 25 rfl).trans (uF_ne (fun h => absurd h.2 (by decide))))); have e8 := (show S144.1 231 20 = u_18.1 231 20 from (gL144_ 20 rfl).trans ((gL57_ 20 rfl).trans (uF_ne (fun h => absurd h.2 (by decide))))); have y1 := xu_4.2.2.1; have y2 := xu_18.2.2.1; omega), (by have e3 := (show S144.1 231 36 = S144.1 231 36 from rfl); omega), (by have e3 := (show S144.1 231 36 = S144.1 231 36 from rfl); omega)⟩)⟩⟩ dX12_oneRow_280
                    · have join_176 : ∀ (fg : Int) (H : Heap) (locs : List Loc) (ls : Array Slot), (0 ≤ fg ∧ fg ≤ 1) → sW G 294 S144 H → sL G locs → lv_has ls 8 [(4, .int (iv i)), (3, .int (iv (S.2.1 247 (u_4.1 231 24)))), (2, .int (iv (u_4.1 231 24))), (0, .ref (G.2.2.1 + 231)), (1, .int (iv tk))] → W p l e (rmk 134 0 0) s m args below meth c H locs 0 0 (MQ below (sQv G 294 (fun u => dX G u ∧ Fr S u (pl [231, 248, 249, 250, 251, 252, 255, 257, 258]) ∧ FF S u (fl [20, 21, 24, 25, 36, 42, 43]) ∧ (NR S u (S.1 231 25) ∧ S.1 231 25 ≤ u.1 231 25 ∧ Hd (∀ x, -99999 ≤ u.2.2.1 255 x ∧ u.2.2.1 255 x ≤ 99999) ∧ Hd (u.1 231 20 = 0 → NX u T ∧ u.1 231 25 = S.1 231 25 ∧ u.1 231 24 = q ∧ 0 ≤ u.1 231 36 ∧ u.1 231 36 ≤ 16)))) args s 0 0 (sF G)) (F0 m 176 ls [.int (iv fg)]) := by
                        intro fg H locs ls hfg hW hL hl
                        refine lv_istore (lv' := [(5, .int (iv fg)), (4, .int (iv i)), (3, .int (iv (S.2.1 247 (u_4.1 231 24)))), (2, .int (iv (u_4.1 231 24))), (0, .ref (G.2.2.1 + 231)), (1, .int (iv tk))]) hx hb dX12_oneRow_176 hl (by decide) rfl (fun ls hl => ?_)
                        refine lv_aload_n hx hb dX12_oneRow_178 rfl (lv_at hl 4 rfl) ?_
                        refine lv_dup hx hb dX12_oneRow_179 rfl ?_
                        have q_42 : (-2147483648) ≤ S144.1 231 36 ∧ S144.1 231 36 ≤ 2147483647 := hI144.fi 36
                        refine g_X12_382 Cx hW (k := 231) (by decide) rfl (v := S144.1 231 36) rfl dX12_oneRow_180 ?_
                        refine lv_iconst (v := iv 1) hx hb dX12_oneRow_183 (by decide) ?_
                        refine r_iadd hx hb dX12_oneRow_184 ?_
                        refine p_X12_382 Cx hW hL (k := 231) (by decide) rfl dX12_oneRow_185 (fun H locs hW hL => ?_)
                        have F_43 : Fr S (uF S144 231 36 ((S144.1 231 36) + 1)) (pl [231, 248, 249, 250, 251, 252, 255, 257, 258]) := hFm144.F rfl
                        have F_44 : Fr S57 (uF S144 231 36 ((S144.1 231 36) + 1)) (pl [231, 255]) := hL144_.F rfl
                        have g_45 : FF S (uF S144 231 36 ((S144.1 231 36) + 1)) (fl [20, 21, 24, 25, 36, 42, 43]) := FF.F hGm144 rfl
                        have g_46 : FF S57 (uF S144 231 36 ((S144.1 231 36) + 1)) (fl [36]) := FF.F gL144_ rfl
                        have i_47 : dX G (uF S144 231 36 ((S144.1 231 36) + 1)) := hI144.F (i := 36) (show (-2147483648) ≤ (S144.1 231 36) + 1 ∧ (S144.1 231 36) + 1 ≤ 2147483647 from ⟨by omega, by omega⟩)
                        refine lv_bipush (v := iv 13) hx hb dX12_oneRow_188 (by decide) ?_
                        refine lv_aload_n hx hb dX12_oneRow_190 rfl (lv_at hl 4 rfl) ?_
                        refine g_X12_382 Cx hW (k := 231) (by decide) rfl (v := (S144.1 231 36) + 1) uF_on dX12_oneRow_191 ?_
                        refine r_imul hx hb dX12_oneRow_194 ?_
                        refine lv_istore (lv' := [(6, .int (iv (13 * ((S144.1 231 36) + 1)))), (5, .int (iv fg)), (4, .int (iv i)), (3, .int (iv (S.2.1 247 (u_4.1 231 24)))), (2, .int (iv (u_4.1 231 24))), (0, .ref (G.2.2.1 + 231)), (1, .int (iv tk))]) hx hb dX12_oneRow_195 hl (by decide) rfl (fun ls hl => ?_)
                        refine lv_aload_n hx hb dX12_oneRow_197 rfl (lv_at hl 5 rfl) ?_
                        refine g_X12_81 Cx hW (k := 231) (by decide) rfl (v := .ref (G.2.2.1 + 255)) (rd_38 i_47) dX12_oneRow_198 ?_
                        refine lv_iload hx hb dX12_oneRow_201 (lv_at hl 0 rfl) ?_
                        refine lv_iload hx hb dX12_oneRow_203 (lv_at hl 1 rfl) ?_
                        refine r_if_eq (tgt := 217) hx hb ⟨(by omega), (by omega)⟩ dX12_oneRow_205 (by decide) (fun c_48 => ?_) (fun c_48 => ?_)
                        · have hf0 := hfb 0 (by omega) (by omega)
                          refine lv_aload_n hx hb dX12_oneRow_217 rfl (lv_at hl 5 rfl) ?_
                          refine g_X12_88 Cx hW (k := 231) (by decide) rfl (v := .ref (G.2.2.1 + 257)) (rd_41 i_47) dX12_oneRow_218 ?_
                          refine lv_iconst (v := iv 0) hx hb dX12_oneRow_221 (by decide) ?_
                          refine rLald Cx hW (k := 257) (by decide) rfl (by decide) (by omega) (by omega) dX12_oneRow_222 ?_
                          have q_49 : -9223372036854775808 ≤ S57.2.2.1 257 0 ∧ S57.2.2.1 257 0 ≤ 9223372036854775807 := hI57.li 257 0
                          refine r_j (b := S57.2.2.1 257 0) ((uF_l).trans ((hL144_ 257 rfl).2.2.1 0)) ?_
                          refine r_lneg hx hb dX12_oneRow_223 ?_
                          refine rLast Cx hW hL (k := 255) (by decide) rfl (by decide) (by omega) (by omega) dX12_oneRow_224 (fun H locs hW hL => ?_)
                          have F_50 : Fr S (uL (uF S144 231 36 ((S144.1 231 36) + 1)) 255 (13 * ((S144.1 231 36) + 1)) (-(S57.2.2.1 257 0))) (pl [231, 248, 249, 250, 251, 252, 255, 257, 258]) := F_43.L rfl
                          have F_51 : Fr S57 (uL (uF S144 231 36 ((S144.1 231 36) + 1)) 255 (13 * ((S144.1 231 36) + 1)) (-(S57.2.2.1 257 0))) (pl [231, 255]) := F_44.L rfl
                          have i_52 : dX G (uL (uF S144 231 36 ((S144.1 231 36) + 1)) 255 (13 * ((S144.1 231 36) + 1)) (-(S57.2.2.1 257 0))) := i_47.L ⟨by omega, by omega⟩
                          refine lv_iconst (v := iv 1) hx hb dX12_oneRow_225 (by decide) ?_
                          refine lv_istore (lv' := [(7, .int (iv 1)), (6, .int (iv (13 * ((S144.1 231 36) + 1)))), (5, .int (iv fg)), (4, .int (iv i)), (3, .int (iv (S.2.1 247 (u_4.1 231 24)))), (2, .int (iv (u_4.1 231 24))), (0, .ref (G.2.2.1 + 231)), (1, .int (iv tk))]) hx hb dX12_oneRow_226 hl (by decide) rfl (fun ls hl => ?_)
                          have loop_228 : ∀ (fuel : Nat) (S228 : sS) (k : Int) (H : Heap) (locs : List Loc) (ls : Array Slot), (13 - k).toNat < fuel → (dX G S228) → (Fr S S228 (pl [231, 248, 249, 250, 251, 252, 255, 257, 258])) → (Fr S57 S228 (pl [231, 255])) → (Fr ((uL (uF S144 231 36 ((S144.1 231 36) + 1)) 255 (13 * ((S144.1 231 36) + 1)) (-(S57.2.2.1 257 0)))) S228 (pl [255])) → (FF S S228 (fl [20, 21, 24, 25, 36, 42, 43])) → (FF S57 S228 (fl [36])) → (FF ((uL (uF S144 231 36 ((S144.1 231 36) + 1)) 255 (13 * ((S144.1 231 36) + 1)) (-(S57.2.2.1 257 0)))) S228 (fl [])) → (1 ≤ k ∧ k ≤ 13) → (∀ x, -99999 ≤ S228.2.2.1 255 x ∧ S228.2.2.1 255 x ≤ 99999) → sW G 294 S228 H → sL G locs → lv_has ls 8 [(7, .int (iv k)), (6, .int (iv (13 * ((S144.1 231 36) + 1)))), (5, .int (iv fg)), (4, .int (iv i)), (3, .int (iv (S.2.1 247 (u_4.1 231 24)))), (2, .int (iv (u_4.1 231 24))), (0, .ref (G.2.2.1 + 231)), (1, .int (iv tk))] → W p l e (rmk 134 0 0) s m args below meth c H locs 0 0 (MQ below (sQv G 294 (fun u => dX G u ∧ Fr S u (pl [231, 248, 249, 250, 251, 252, 255, 257, 258]) ∧ FF S u (fl [20, 21, 24, 25, 36, 42, 43]) ∧ (NR S u (S.1 231 25) ∧ S.1 231 25 ≤ u.1 231 25 ∧ Hd (∀ x, -99999 ≤ u.2.2.1 255 x ∧ u.2.2.1 255 x ≤ 99999) ∧ Hd (u.1 231 20 = 0 → NX u T ∧ u.1 231 25 = S.1 231 25 ∧ u.1 231 24 = q ∧ 0 ≤ u.1 231 36 ∧ u.1 231 36 ≤ 16)))) args s 0 0 (sF G)) (F0 m 228 ls []) := by
                            intro fuel
                            induction fuel with
                            | zero => intro S228 k H locs ls hmeas hI228 hFm228 hFL144228 hL228_ hGm228 hGL144228 gL228_ hk hB228 hW hL hl; exact absurd hmeas (Nat.not_lt_zero _)
                            | succ fuel ih_228 =>
                              intro S228 k H locs ls hmeas hI228 hFm228 hFL144228 hL228_ hGm228 hGL144228 gL228_ hk hB228 hW hL hl
                              refine lv_iload hx hb dX12_oneRow_228 (lv_at hl 0 rfl) ?_
                              refine lv_bipush (v := iv 12) hx hb dX12_oneRow_230 (by decide) ?_
                              refine r_icmp_gt (tgt := 274) hx hb ⟨(by omega), (by omega)⟩ ⟨(by omega), (by omega)⟩ dX12_oneRow_232 (by decide) (fun c_53 => ?_) (fun c_53 => ?_)
                              · refine lv_iinc (v := iv (i + 1)) (lv' := [(4, .int (iv (i + 1))), (7, .int (iv k)), (6, .int (iv (13 * ((S144.1 231 36) + 1)))), (5, .int (iv fg)), (3, .int (iv (S.2.1 247 (u_4.1 231 24)))), (2, .int (iv (u_4.1 231 24))), (0, .ref (G.2.2.1 + 231)), (1, .int (iv tk))]) hx hb dX12_oneRow_274 hl (k := 3) rfl ((Int32.ofInt_add _ _).symm) (by decide) rfl (fun ls hl => ?_)
                                refine lv_goto (tgt := 144) hx hb dX12_oneRow_277 (by decide) ?_
                                have lk_54 : S228.1 231 36 = (S144.1 231 36) + 1 := (gL228_ 36 rfl).trans ((uL_f).trans (uF_on))
                                exact ih_144 S228 (i + 1) _ _ _ (by omega) hI228 hFm228 hFL144228 hGm228 hGL144228 (by omega) hB228 hW hL (lv_sub hl [0, 4, 5, 6, 7] rfl)
                              · have hfk := hfb k (by omega) (by omega)
                                refine lv_aload_n hx hb dX12_oneRow_235 rfl (lv_at hl 6 rfl) ?_
                                refine g_X12_81 Cx hW (k := 231) (by decide) rfl (v := .ref (G.2.2.1 + 255)) (rd_38 hI228) dX12_oneRow_236 ?_
                                refine lv_iload hx hb dX12_oneRow_239 (lv_at hl 1 rfl) ?_
                                refine lv_iload hx hb dX12_oneRow_241 (lv_at hl 0 rfl) ?_
                                refine r_iadd hx hb dX12_oneRow_243 ?_
                                refine lv_iload hx hb dX12_oneRow_244 (lv_at hl 2 rfl) ?_
                                refine r_if_eq (tgt := 260) hx hb ⟨(by omega), (by omega)⟩ dX12_oneRow_246 (by decide) (fun c_55 => ?_) (fun c_55 => ?_)
                                · refine lv_aload_n hx hb dX12_oneRow_260 rfl (lv_at hl 6 rfl) ?_
                                  refine g_X12_88 Cx hW (k := 231) (by decide) rfl (v := .ref (G.2.2.1 + 257)) (rd_41 hI228) dX12_oneRow_261 ?_
                                  refine lv_iload hx hb dX12_oneRow_264 (lv_at hl 0 rfl) ?_
                                  refine rLald Cx hW (k := 257) (by decide) rfl (by decide) (by omega) (by omega) dX12_oneRow_266 ?_
                                  have q_56 : -9223372036854775808 ≤ S57.2.2.1 257 k ∧ S57.2.2.1 257 k ≤ 9223372036854775807 := hI57.li 257 k
                                  refine r_j (b := S57.2.2.1 257 k) (((hL228_ 257 rfl).2.2.1 k).trans ((uL_ne (fun h => absurd h.1 (by decide))).trans ((uF_l).trans ((hL144_ 257 rfl).2.2.1 k)))) ?_
                                  refine rLast Cx hW hL (k := 255) (by decide) rfl (by decide) (by omega) (by omega) dX12_oneRow_267 (fun H locs hW hL => ?_)
                                  have F_57 : Fr S (uL S228 255 ((13 * ((S144.1 231 36) + 1)) + k) (S57.2.2.1 257 k)) (pl [231, 248, 249, 250, 251, 252, 255, 257, 258]) := hFm228.L rfl
                                  have F_58 : Fr S57 (uL S228 255 ((13 * ((S144.1 231 36) + 1)) + k) (S57.2.2.1 257 k)) (pl [231, 255]) := hFL144228.L rfl
                                  have F_59 : Fr ((uL (uF S144 231 36 ((S144.1 231 36) + 1)) 255 (13 * ((S144.1 231 36) + 1)) (-(S57.2.2.1 257 0)))) (uL S228 255 ((13 * ((S144.1 231 36) + 1)) + k) (S57.2.2.1 257 k)) (pl [255]) := hL228_.L rfl
                                  have i_60 : dX G (uL S228 255 ((13 * ((S144.1 231 36) + 1)) + k) (S57.2.2.1 257 k)) := hI228.L ⟨by omega, by omega⟩
                                  refine lv_iinc (v := iv (k + 1)) (lv' := [(7, .int (iv (k + 1))), (6, .int (iv (13 * ((S144.1 231 36) + 1)))), (5, .int (iv fg)), (4, .int (iv i)), (3, .int (iv (S.2.1 247 (u_4.1 231 24)))), (2, .int (iv (u_4.1 231 24))), (0, .ref (G.2.2.1 + 231)), (1, .int (iv tk))]) hx hb dX12_oneRow_268 hl (k := 0) rfl ((Int32.ofInt_add _ _).symm) (by decide) rfl (fun ls hl => ?_)
                                  refine lv_goto (tgt := 228) hx hb dX12_oneRow_271 (by decide) ?_
                                  exact ih_228 (uL S228 255 ((13 * ((S144.1 231 36) + 1)) + k) (S57.2.2.1 257 k)) (k + 1) _ _ _ (by omega) i_60 F_57 F_58 F_59 hGm228 hGL144228 gL228_ (by omega) (fun x => by rw [show (uL S228 255 ((13 * ((S144.1 231 36) + 1)) + k) (S57.2.2.1 257 k)).2.2.1 255 x = (uL S228 255 ((13 * ((S144.1 231 36) + 1)) + k) (S57.2.2.1 257 k)).2.2.1 255 x from rfl, uL_get]; split; (omega); (rw [show S228.2.2.1 255 x = S228.2.2.1 255 x from rfl]; exact hB228 x)) hW hL (lv_sub hl [0, 1, 2, 3, 4, 5, 6, 7] rfl)
                                · refine lv_aload_n hx hb dX12_oneRow_249 rfl (lv_at hl 6 rfl) ?_
                                  refine g_X12_88 Cx hW (k := 231) (by decide) rfl (v := .ref (G.2.2.1 + 257)) (rd_41 hI228) dX12_oneRow_250 ?_
                                  refine lv_iload hx hb dX12_oneRow_253 (lv_at hl 0 rfl) ?_
                                  refine rLald Cx hW (k := 257) (by decide) rfl (by decide) (by omega) (by omega) dX12_oneRow_255 ?_
                                  have q_61 : -9223372036854775808 ≤ S57.2.2.1 257 k ∧ S57.2.2.1 257 k ≤ 9223372036854775807 := hI57.li 257 k
                                  refine r_j (b := S57.2.2.1 257 k) (((hL228_ 257 rfl).2.2.1 k).trans ((uL_ne (fun h => absurd h.1 (by decide))).trans ((uF_l).trans ((hL144_ 257 rfl).2.2.1 k)))) ?_
                                  refine r_lneg hx hb dX12_oneRow_256 ?_
                                  refine lv_goto (tgt := 267) hx hb dX12_oneRow_257 (by decide) ?_
                                  refine rLast Cx hW hL (k := 255) (by decide) rfl (by decide) (by omega) (by omega) dX12_oneRow_267 (fun H locs hW hL => ?_)
                                  have F_62 : Fr S (uL S228 255 ((13 * ((S144.1 231 36) + 1)) + k) (-(S57.2.2.1 257 k))) (pl [231, 248, 249, 250, 251, 252, 255, 257, 258]) := hFm228.L rfl
                                  have F_63 : Fr S57 (uL S228 255 ((13 * ((S144.1 231 36) + 1)) + k) (-(S57.2.2.1 257 k))) (pl [231, 255]) := hFL144228.L rfl
                                  have F_64 : Fr ((uL (uF S144 231 36 ((S144.1 231 36) + 1)) 255 (13 * ((S144.1 231 36) + 1)) (-(S57.2.2.1 257 0)))) (uL S228 255 ((13 * ((S144.1 231 36) + 1)) + k) (-(S57.2.2.1 257 k))) (pl [255]) := hL228_.L rfl
                                  have i_65 : dX G (uL S228 255 ((13 * ((S144.1 231 36) + 1)) + k) (-(S57.2.2.1 257 k))) := hI228.L ⟨by omega, by omega⟩
                                  refine lv_iinc (v := iv (k + 1)) (lv' := [(7, .int (iv (k + 1))), (6, .int (iv (13 * ((S144.1 231 36) + 1)))), (5, .int (iv fg)), (4, .int (iv i)), (3, .int (iv (S.2.1 247 (u_4.1 231 24)))), (2, .int (iv (u_4.1 231 24))), (0, .ref (G.2.2.1 + 231)), (1, .int (iv tk))]) hx hb dX12_oneRow_268 hl (k := 0) rfl ((Int32.ofInt_add _ _).symm) (by decide) rfl (fun ls hl => ?_)
                                  refine lv_goto (tgt := 228) hx hb dX12_oneRow_271 (by decide) ?_
                                  exact ih_228 (uL S228 255 ((13 * ((S144.1 231 36) + 1)) + k) (-(S57.2.2.1 257 k))) (k + 1) _ _ _ (by omega) i_65 F_62 F_63 F_64 hGm228 hGL144228 gL228_ (by omega) (fun x => by rw [show (uL S228 255 ((13 * ((S144.1 231 36) + 1)) + k) (-(S57.2.2.1 257 k))).2.2.1 255 x = (uL S228 255 ((13 * ((S144.1 231 36) + 1)) + k) (-(S57.2.2.1 257 k))).2.2.1 255 x from rfl, uL_get]; split; (omega); (rw [show S228.2.2.1 255 x = S228.2.2.1 255 x from rfl]; exact hB228 x)) hW hL (lv_sub hl [0, 1, 2, 3, 4, 5, 6, 7] rfl)
                          exact loop_228 (_ + 1) (uL (uF S144 231 36 ((S144.1 231 36) + 1)) 255 (13 * ((S144.1 231 36) + 1)) (-(S57.2.2.1 257 0))) 1 _ _ _ (Nat.lt_succ_self _) i_52 F_50 F_51 Fr.rf g_45 g_46 FF.rf (by omega) (fun x => by rw [show (uL (uF S144 231 36 ((S144.1 231 36) + 1)) 255 (13 * ((S144.1 231 36) + 1)) (-(S57.2.2.1 257 0))).2.2.1 255 x = (uL (uF S144 231 36 ((S144.1 231 36) + 1)) 255 (13 * ((S144.1 231 36) + 1)) (-(S57.2.2.1 257 0))).2.2.1 255 x from rfl, uL_get]; split; (omega); (rw [show (uF S144 231 36 ((S144.1 231 36) + 1)).2.2.1 255 x = S144.2.2.1 255 x from uF_l]; exact hB144 x)) hW hL (lv_sub hl [0, 1, 2, 3, 4, 5, 6, 7] rfl)
                        · have hf0 := hfb 0 (by omega) (by omega)
                          refine lv_aload_n hx hb dX12_oneRow_208 rfl (lv_at hl 5 rfl) ?_
                          refine g_X12_88 Cx hW (k := 231) (by decide) rfl (v := .ref (G.2.2.1 + 257)) (rd_41 i_47) dX12_oneRow_209 ?_
                          refine lv_iconst (v := iv 0) hx hb dX12_oneRow_212 (by decide) ?_
                          refine rLald Cx hW (k := 257) (by decide) rfl (by decide) (by omega) (by omega) dX12_oneRow_213 ?_
                          have q_66 : -9223372036854775808 ≤ S57.2.2.1 257 0 ∧ S57.2.2.1 257 0 ≤ 9223372036854775807 := hI57.li 257 0
                          refine r_j (b := S57.2.2.1 257 0) ((uF_l).trans ((hL144_ 257 rfl).2.2.1 0)) ?_
                          refine lv_goto (tgt := 224) hx hb dX12_oneRow_214 (by decide) ?_
                          refine rLast Cx hW hL (k := 255) (by decide) rfl (by decide) (by omega) (by omega) dX12_oneRow_224 (fun H locs hW hL => ?_)
                          have F_67 : Fr S (uL (uF S144 231 36 ((S144.1 231 36) + 1)) 255 (13 * ((S144.1 231 36) + 1)) (S57.2.2.1 257 0)) (pl [231, 248, 249, 250, 251, 252, 255, 257, 258]) := F_43.L rfl
                          have F_68 : Fr S57 (uL (uF S144 231 36 ((S144.1 231 36) + 1)) 255 (13 * ((S144.1 231 36) + 1)) (S57.2.2.1 257 0)) (pl [231, 255]) := F_44.L rfl
                          have i_69 : dX G (uL (uF S144 231 36 ((S144.1 231 36) + 1)) 255 (13 * ((S144.1 231 36) + 1)) (S57.2.2.1 257 0)) := i_47.L ⟨by omega, by omega⟩
                          refine lv_iconst (v := iv 1) hx hb dX12_oneRow_225 (by decide) ?_
                          refine lv_istore (lv' := [(7, .int (iv 1)), (6, .int (iv (13 * ((S144.1 231 36) + 1)))), (5, .int (iv fg)), (4, .int (iv i)), (3, .int (iv (S.2.1 247 (u_4.1 231 24)))), (2, .int (iv (u_4.1 231 24))), (0, .ref (G.2.2.1 + 231)), (1, .int (iv tk))]) hx hb dX12_oneRow_226 hl (by decide) rfl (fun ls hl => ?_)
                          have loop_228 : ∀ (fuel : Nat) (S228 : sS) (k : Int) (H : Heap) (locs : List Loc) (ls : Array Slot), (13 - k).toNat < fuel → (dX G S228) → (Fr S S228 (pl [231, 248, 249, 250, 251, 252, 255, 257, 258])) → (Fr S57 S228 (pl [231, 255])) → (Fr ((uL (uF S144 231 36 ((S144.1 231 36) + 1)) 255 (13 * ((S144.1 231 36) + 1)) (S57.2.2.1 257 0))) S228 (pl [255])) → (FF S S228 (fl [20, 21, 24, 25, 36, 42, 43])) → (FF S57 S228 (fl [36])) → (FF ((uL (uF S144 231 36 ((S144.1 231 36) + 1)) 255 (13 * ((S144.1 231 36) + 1)) (S57.2.2.1 257 0))) S228 (fl [])) → (1 ≤ k ∧ k ≤ 13) → (∀ x, -99999 ≤ S228.2.2.1 255 x ∧ S228.2.2.1 255 x ≤ 99999) → sW G 294 S228 H → sL G locs → lv_has ls 8 [(7, .int (iv k)), (6, .int (iv (13 * ((S144.1 231 36) + 1)))), (5, .int (iv fg)), (4, .int (iv i)), (3, .int (iv (S.2.1 247 (u_4.1 231 24)))), (2, .int (iv (u_4.1 231 24))), (0, .ref (G.2.2.1 + 231)), (1, .int (iv tk))] → W p l e (rmk 134 0 0) s m args below meth c H locs 0 0 (MQ below (sQv G 294 (fun u => dX G u ∧ Fr S u (pl [231, 248, 249, 250, 251, 252, 255, 257, 258]) ∧ FF S u (fl [20, 21, 24, 25, 36, 42, 43]) ∧ (NR S u (S.1 231 25) ∧ S.1 231 25 ≤ u.1 231 25 ∧ Hd (∀ x, -99999 ≤ u.2.2.1 255 x ∧ u.2.2.1 255 x ≤ 99999) ∧ Hd (u.1 231 20 = 0 → NX u T ∧ u.1 231 25 = S.1 231 25 ∧ u.1 231 24 = q ∧ 0 ≤ u.1 231 36 ∧ u.1 231 36 ≤ 16)))) args s 0 0 (sF G)) (F0 m 228 ls []) := by
                            intro fuel
                            induction fuel with
                            | zero => intro S228 k H locs ls hmeas hI228 hFm228 hFL144228 hL228_ hGm228 hGL144228 gL228_ hk hB228 hW hL hl; exact absurd hmeas (Nat.not_lt_zero _)
                            | succ fuel ih_228 =>
                              intro S228 k H locs ls hmeas hI228 hFm228 hFL144228 hL228_ hGm228 hGL144228 gL228_ hk hB228 hW hL hl
                              refine lv_iload hx hb dX12_oneRow_228 (lv_at hl 0 rfl) ?_
                              refine lv_bipush (v := iv 12) hx hb dX12_oneRow_230 (by decide) ?_
                              refine r_icmp_gt (tgt := 274) hx hb ⟨(by omega), (by omega)⟩ ⟨(by omega), (by omega)⟩ dX12_oneRow_232 (by decide) (fun c_70 => ?_) (fun c_70 => ?_)
                              · refine lv_iinc (v := iv (i + 1)) (lv' := [(4, .int (iv (i + 1))), (7, .int (iv k)), (6, .int (iv (13 * ((S144.1 231 36) + 1)))), (5, .int (iv fg)), (3, .int (iv (S.2.1 247 (u_4.1 231 24)))), (2, .int (iv (u_4.1 231 24))), (0, .ref (G.2.2.1 + 231)), (1, .int (iv tk))]) hx hb dX12_oneRow_274 hl (k := 3) rfl ((Int32.ofInt_add _ _).symm) (by decide) rfl (fun ls hl => ?_)
                                refine lv_goto (tgt := 144) hx hb dX12_oneRow_277 (by decide) ?_
                                have lk_71 : S228.1 231 36 = (S144.1 231 36) + 1 := (gL228_ 36 rfl).trans ((uL_f).trans (uF_on))
                                exact ih_144 S228 (i + 1) _ _ _ (by omega) hI228 hFm228 hFL144228 hGm228 hGL144228 (by omega) hB228 hW hL (lv_sub hl [0, 4, 5, 6, 7] rfl)
                              · have hfk := hfb k (by omega) (by omega)
                                refine lv_aload_n hx hb dX12_oneRow_235 rfl (lv_at hl 6 rfl) ?_
                                refine g_X12_81 Cx hW (k := 231) (by decide) rfl (v := .ref (G.2.2.1 + 255)) (rd_38 hI228) dX12_oneRow_236 ?_
                                refine lv_iload hx hb dX12_oneRow_239 (lv_at hl 1 rfl) ?_
                                refine lv_iload hx hb dX12_oneRow_241 (lv_at hl 0 rfl) ?_
                                refine r_iadd hx hb dX12_oneRow_243 ?_
                                refine lv_iload hx hb dX12_oneRow_244 (lv_at hl 2 rfl) ?_
                                refine r_if_eq (tgt := 260) hx hb ⟨(by omega), (by omega)⟩ dX12_oneRow_246 (by decide) (fun c_72 => ?_) (fun c_72 => ?_)
                                · refine lv_aload_n hx hb dX12_oneRow_260 rfl (lv_at hl 6 rfl) ?_
                                  refine g_X12_88 Cx hW (k := 231) (by decide) rfl (v := .ref (G.2.2.1 + 257)) (rd_41 hI228) dX12_oneRow_261 ?_
                                  refine lv_iload hx hb dX12_oneRow_264 (lv_at hl 0 rfl) ?_
                                  refine rLald Cx hW (k := 257) (by decide) rfl (by decide) (by omega) (by omega) dX12_oneRow_266 ?_
                                  have q_73 : -9223372036854775808 ≤ S57.2.2.1 257 k ∧ S57.2.2.1 257 k ≤ 9223372036854775807 := hI57.li 257 k
                                  refine r_j (b := S57.2.2.1 257 k) (((hL228_ 257 rfl).2.2.1 k).trans ((uL_ne (fun h => absurd h.1 (by decide))).trans ((uF_l).trans ((hL144_ 257 rfl).2.2.1 k)))) ?_
                                  refine rLast Cx hW hL (k := 255) (by decide) rfl (by decide) (by omega) (by omega) dX12_oneRow_267 (fun H locs hW hL => ?_)
                                  have F_74 : Fr S (uL S228 255 ((13 * ((S144.1 231 36) + 1)) + k) (S57.2.2.1 257 k)) (pl [231, 248, 249, 250, 251, 252, 255, 257, 258]) := hFm228.L rfl
                                  have F_75 : Fr S57 (uL S228 255 ((13 * ((S144.1 231 36) + 1)) + k) (S57.2.2.1 257 k)) (pl [231, 255]) := hFL144228.L rfl
                                  have F_76 : Fr ((uL (uF S144 231 36 ((S144.1 231 36) + 1)) 255 (13 * ((S144.1 231 36) + 1)) (S57.2.2.1 257 0))) (uL S228 255 ((13 * ((S144.1 231 36) + 1)) + k) (S57.2.2.1 257 k)) (pl [255]) := hL228_.L rfl
                                  have i_77 : dX G (uL S228 255 ((13 * ((S144.1 231 36) + 1)) + k) (S57.2.2.1 257 k)) := hI228.L ⟨by omega, by omega⟩
                                  refine lv_iinc (v := iv (k + 1)) (lv' := [(7, .int (iv (k + 1))), (6, .int (iv (13 * ((S144.1 231 36) + 1)))), (5, .int (iv fg)), (4, .int (iv i)), (3, .int (iv (S.2.1 247 (u_4.1 231 24)))), (2, .int (iv (u_4.1 231 24))), (0, .ref (G.2.2.1 + 231)), (1, .int (iv tk))]) hx hb dX12_oneRow_268 hl (k := 0) rfl ((Int32.ofInt_add _ _).symm) (by decide) rfl (fun ls hl => ?_)
                                  refine lv_goto (tgt := 228) hx hb dX12_oneRow_271 (by decide) ?_
                                  exact ih_228 (uL S228 255 ((13 * ((S144.1 231 36) + 1)) + k) (S57.2.2.1 257 k)) (k + 1) _ _ _ (by omega) i_77 F_74 F_75 F_76 hGm228 hGL144228 gL228_ (by omega) (fun x => by rw [show (uL S228 255 ((13 * ((S144.1 231 36) + 1)) + k) (S57.2.2.1 257 k)).2.2.1 255 x = (uL S228 255 ((13 * ((S144.1 231 36) + 1)) + k) (S57.2.2.1 257 k)).2.2.1 255 x from rfl, uL_get]; split; (omega); (rw [show S228.2.2.1 255 x = S228.2.2.1 255 x from rfl]; exact hB228 x)) hW hL (lv_sub hl [0, 1, 2, 3, 4, 5, 6, 7] rfl)
                                · refine lv_aload_n hx hb dX12_oneRow_249 rfl (lv_at hl 6 rfl) ?_
                                  refine g_X12_88 Cx hW (k := 231) (by decide) rfl (v := .ref (G.2.2.1 + 257)) (rd_41 hI228) dX12_oneRow_250 ?_
                                  refine lv_iload hx hb dX12_oneRow_253 (lv_at hl 0 rfl) ?_
                                  refine rLald Cx hW (k := 257) (by decide) rfl (by decide) (by omega) (by omega) dX12_oneRow_255 ?_
                                  have q_78 : -9223372036854775808 ≤ S57.2.2.1 257 k ∧ S57.2.2.1 257 k ≤ 9223372036854775807 := hI57.li 257 k
                                  refine r_j (b := S57.2.2.1 257 k) (((hL228_ 257 rfl).2.2.1 k).trans ((uL_ne (fun h => absurd h.1 (by decide))).trans ((uF_l).trans ((hL144_ 257 rfl).2.2.1 k)))) ?_
                                  refine r_lneg hx hb dX12_oneRow_256 ?_
                                  refine lv_goto (tgt := 267) hx hb dX12_oneRow_257 (by decide) ?_
                                  refine rLast Cx hW hL (k := 255) (by decide) rfl (by decide) (by omega) (by omega) dX12_oneRow_267 (fun H locs hW hL => ?_)
                                  have F_79 : Fr S (uL S228 255 ((13 * ((S144.1 231 36) + 1)) + k) (-(S57.2.2.1 257 k))) (pl [231, 248, 249, 250, 251, 252, 255, 257, 258]) := hFm228.L rfl
                                  have F_80 : Fr S57 (uL S228 255 ((13 * ((S144.1 231 36) + 1)) + k) (-(S57.2.2.1 257 k))) (pl [231, 255]) := hFL144228.L rfl
                                  have F_81 : Fr ((uL (uF S144 231 36 ((S144.1 231 36) + 1)) 255 (13 * ((S144.1 231 36) + 1)) (S57.2.2.1 257 0))) (uL S228 255 ((13 * ((S144.1 231 36) + 1)) + k) (-(S57.2.2.1 257 k))) (pl [255]) := hL228_.L rfl
                                  have i_82 : dX G (uL S228 255 ((13 * ((S144.1 231 36) + 1)) + k) (-(S57.2.2.1 257 k))) := hI228.L ⟨by omega, by omega⟩
                                  refine lv_iinc (v := iv (k + 1)) (lv' := [(7, .int (iv (k + 1))), (6, .int (iv (13 * ((S144.1 231 36) + 1)))), (5, .int (iv fg)), (4, .int (iv i)), (3, .int (iv (S.2.1 247 (u_4.1 231 24)))), (2, .int (iv (u_4.1 231 24))), (0, .ref (G.2.2.1 + 231)), (1, .int (iv tk))]) hx hb dX12_oneRow_268 hl (k := 0) rfl ((Int32.ofInt_add _ _).symm) (by decide) rfl (fun ls hl => ?_)
                                  refine lv_goto (tgt := 228) hx hb dX12_oneRow_271 (by decide) ?_
                                  exact ih_228 (uL S228 255 ((13 * ((S144.1 231 36) + 1)) + k) (-(S57.2.2.1 257 k))) (k + 1) _ _ _ (by omega) i_82 F_79 F_80 F_81 hGm228 hGL144228 gL228_ (by omega) (fun x => by rw [show (uL S228 255 ((13 * ((S144.1 231 36) + 1)) + k) (-(S57.2.2.1 257 k))).2.2.1 255 x = (uL S228 255 ((13 * ((S144.1 231 36) + 1)) + k) (-(S57.2.2.1 257 k))).2.2.1 255 x from rfl, uL_get]; split; (omega); (rw [show S228.2.2.1 255 x = S228.2.2.1 255 x from rfl]; exact hB228 x)) hW hL (lv_sub hl [0, 1, 2, 3, 4, 5, 6, 7] rfl)
                          exact loop_228 (_ + 1) (uL (uF S144 231 36 ((S144.1 231 36) + 1)) 255 (13 * ((S144.1 231 36) + 1)) (S57.2.2.1 257 0)) 1 _ _ _ (Nat.lt_succ_self _) i_69 F_67 F_68 Fr.rf g_45 g_46 FF.rf (by omega) (fun x => by rw [show (uL (uF S144 231 36 ((S144.1 231 36) + 1)) 255 (13 * ((S144.1 231 36) + 1)) (S57.2.2.1 257 0)).2.2.1 255 x = (uL (uF S144 231 36 ((S144.1 231 36) + 1)) 255 (13 * ((S144.1 231 36) + 1)) (S57.2.2.1 257 0)).2.2.1 255 x from rfl, uL_get]; split; (omega); (rw [show (uF S144 231 36 ((S144.1 231 36) + 1)).2.2.1 255 x = S144.2.2.1 255 x from uF_l]; exact hB144 x)) hW hL (lv_sub hl [0, 1, 2, 3, 4, 5, 6, 7] rfl)
                      refine lv_iload_n hx hb dX12_oneRow_160 rfl (lv_at hl 1 rfl) ?_
                      refine lv_iconst (v := iv 3) hx hb dX12_oneRow_161 (by decide) ?_
                      refine r_icmp_eq (tgt := 171) hx hb ⟨(by omega), (by omega)⟩ ⟨(by omega), (by omega)⟩ dX12_oneRow_162 (by decide) (fun c_83 => ?_) (fun c_83 => ?_)
                      · refine lv_iconst (v := iv 1) hx hb dX12_oneRow_171 (by decide) ?_
                        refine lv_goto (tgt := 176) hx hb dX12_oneRow_172 (by decide) ?_
                        exact join_176 1 _ _ _ (by omega) hW hL (lv_sub hl [0, 1, 2, 3, 4] rfl)
                      · refine lv_iload hx hb dX12_oneRow_165 (lv_at hl 0 rfl) ?_
                        refine lv_iconst (v := iv 1) hx hb dX12_oneRow_167 (by decide) ?_
                        refine r_icmp_ne (tgt := 175) hx hb ⟨(by omega), (by omega)⟩ ⟨(by omega), (by omega)⟩ dX12_oneRow_168 (by decide) (fun c_84 => ?_) (fun c_84 => ?_)
                        · refine lv_iconst (v := iv 0) hx hb dX12_oneRow_175 (by decide) ?_
                          exact join_176 0 _ _ _ (by omega) hW hL (lv_sub hl [0, 1, 2, 3, 4] rfl)
                        · refine lv_iconst (v := iv 1) hx hb dX12_oneRow_171 (by decide) ?_
                          refine lv_goto (tgt := 176) hx hb dX12_oneRow_172 (by decide) ?_
                          exact join_176 1 _ _ _ (by omega) hW hL (lv_sub hl [0, 1, 2, 3, 4] rfl)
                have lk_85 : S57.1 231 36 = S.1 231 36 := (gL57_ 36 rfl).trans ((uF_ne (fun h => absurd h.2 (by decide))).trans ((gu_18 36 rfl).trans ((uF_ne (fun h => absurd h.2 (by decide))).trans (gu_4 36 rfl))))
                exact loop_144 (_ + 1) S57 0 _ _ _ (Nat.lt_succ_self _) hI57 hFm57 Fr.rf hGm57 FF.rf (by omega) (fun x => by rw [show S57.2.2.1 255 x = S.2.2.1 255 x from ((hL57_ 255 rfl).2.2.1 x).trans ((uF_l).trans (((fu_18 255 rfl).2.2.1 x).trans ((uF_l).trans ((fu_4 255 rfl).2.2.1 x))))]; exact hRB x) hW hL (lv_sub hl [0, 1, 2, 3, 4] rfl)
              · refine lv_aload_n hx hb dX12_oneRow_126 rfl (lv_at hl 3 rfl) ?_
                refine lv_bipush (v := iv 7) hx hb dX12_oneRow_127 (by decide) ?_
                refine lv_iload_n hx hb dX12_oneRow_129 rfl (lv_at hl 4 rfl) ?_
                refine sBv (sV (As := [.int (iv 7), .int (iv tk)]) (rest := []) (k := 231) Cx (s_X12_wrong l G S57 (cd := 7) (tk := tk) hI57 (by omega) (by omega)) (c_X12_321 Cx rfl rfl (rmk_ok (by omega) (by decide))) hW (by decide) rfl rfl rfl hl.1 rfl (Nat.le_of_ble_eq_true rfl) dX12_oneRow_130 ⟨Nat.le_of_ble_eq_true rfl, Nat.le_of_ble_eq_true rfl⟩) hL (fun u_86 H locs k_87 hW hL => ?_)
                obtain ⟨iu_86, fu_86, gu_86, xu_86⟩ := k_87
                have F_88 := hFm57.trans (fu_86.to (pl_sub (by decide)))
                have g_89 : FF S u_86 (fl [20, 21, 24, 25, 36, 42, 43]) := FF.trans hGm57 (FF.to gu_86 (fl_sub (by decide)))
                refine lv_aload_n hx hb dX12_oneRow_133 rfl (lv_at hl 3 rfl) ?_
                have q_91 : (-2147483648) ≤ u_86.1 231 20 ∧ u_86.1 231 20 ≤ 2147483647 := iu_86.fi 20
                refine g_X12_270 Cx hW (k := 231) (by decide) rfl (v := u_86.1 231 20) rfl dX12_oneRow_134 ?_
                refine r_if_eq (tgt := 141) hx hb ⟨(by omega), (by omega)⟩ dX12_oneRow_137 (by decide) (fun c => absurd c (by omega)) (fun _ => ?_)
                have q_92 : (-2147483648) ≤ u_18.1 231 25 ∧ u_18.1 231 25 ≤ 2147483647 := iu_18.fi 25
                have lk_93 : u_86.1 231 25 = u_18.1 231 25 := (gu_86 25 rfl).trans ((gL57_ 25 rfl).trans (uF_ne (fun h => absurd h.2 (by decide))))
                have lk_94 : u_86.1 231 24 = (u_18.1 231 24) + 1 := (gu_86 24 rfl).trans ((gL57_ 24 rfl).trans (uF_on))
                have lk_95 : u_86.1 231 36 = S.1 231 36 := (gu_86 36 rfl).trans ((gL57_ 36 rfl).trans ((uF_ne (fun h => absurd h.2 (by decide))).trans ((gu_18 36 rfl).trans ((uF_ne (fun h => absurd h.2 (by decide))).trans (gu_4 36 rfl)))))
                exact sVret Cx hr hlk hW hL ⟨iu_86, F_88, g_89, ⟨(NR.trans (NR.trans (NR.trans xu_4.2.1 (NR.eq (S := u_4) (u := (uF u_4 231 24 ((u_4.1 231 24) + 1))) (funext fun j => uF_a) (funext fun j => uF_a) (funext fun j => uF_a) (funext fun j => uF_a) (funext fun j => uF_a))) (NR.mono xu_18.2.1 (by have y := xu_4.2.2.1; omega))) (NR.eq (S := u_18) (u := u_86) (funext fun j => ((fu_86 248 rfl).2.1 j).trans (((hL57_ 248 rfl).2.1 j).trans (uF_a))) (funext fun j => ((fu_86 249 rfl).2.1 j).trans (((hL57_ 249 rfl).2.1 j).trans (uF_a))) (funext fun j => ((fu_86 250 rfl).2.1 j).trans (((hL57_ 250 rfl).2.1 j).trans (uF_a))) (funext fun j => ((fu_86 251 rfl).2.1 j).trans (((hL57_ 251 rfl).2.1 j).trans (uF_a))) (funext fun j => ((fu_86 252 rfl).2.1 j).trans (((hL57_ 252 rfl).2.1 j).trans (uF_a))))), (by have e7 := (show u_86.1 231 24 = (u_18.1 231 24) + 1 from (gu_86 24 rfl).trans ((gL57_ 24 rfl).trans (uF_on))); have e6 := (show u_86.1 231 25 = u_18.1 231 25 from (gu_86 25 rfl).trans ((gL57_ 25 rfl).trans (uF_ne (fun h => absurd h.2 (by decide))))); have e8 := (show u_86.1 231 20 = u_86.1 231 20 from rfl); have y1 := xu_4.2.2.1; have y2 := xu_18.2.2.1; omega), (fun x => by rw [show u_86.2.2.1 255 x = S.2.2.1 255 x from ((fu_86 255 rfl).2.2.1 x).trans (((hL57_ 255 rfl).2.2.1 x).trans ((uF_l).trans (((fu_18 255 rfl).2.2.1 x).trans ((uF_l).trans ((fu_4 255 rfl).2.2.1 x)))))]; exact hRB x), (fun h => absurd h (by have e9 := (show u_86.1 231 20 = u_86.1 231 20 from rfl); have a9 := xu_86; omega))⟩⟩ dX12_oneRow_140
            · refine lv_iconst (v := iv 2) hx hb dX12_oneRow_115 (by decide) ?_
              refine lv_goto (tgt := 120) hx hb dX12_oneRow_116 (by decide) ?_
              refine r_iadd hx hb dX12_oneRow_120 ?_
              refine lv_bipush (v := iv 16) hx hb dX12_oneRow_121 (by decide) ?_
              refine r_icmp_le (tgt := 133) hx hb ⟨(by omega), (by omega)⟩ ⟨(by omega), (by omega)⟩ dX12_oneRow_123 (by decide) (fun c_96 => ?_) (fun c_96 => ?_)
              · have hfb : ∀ k, 0 ≤ k → k ≤ 12 → -99999 ≤ S57.2.2.1 257 k ∧ S57.2.2.1 257 k ≤ 99999 := fun k a b => by have y := xu_29.2 (by omega) k a b; rw [Int.zero_add] at y; exact y
                refine lv_aload_n hx hb dX12_oneRow_133 rfl (lv_at hl 3 rfl) ?_
                refine g_X12_270 Cx hW (k := 231) (by decide) rfl (v := u_18.1 231 20) ((gL57_ 20 rfl).trans (uF_ne (fun h => absurd h.2 (by decide)))) dX12_oneRow_134 ?_
                refine r_if_eq (tgt := 141) hx hb ⟨(by omega), (by omega)⟩ dX12_oneRow_137 (by decide) (fun _ => ?_) (fun c => absurd (by omega) c)
                refine lv_iconst (v := iv 0) hx hb dX12_oneRow_141 (by decide) ?_
                refine lv_istore (lv' := [(4, .int (iv 0)), (3, .int (iv (S.2.1 247 (u_4.1 231 24)))), (2, .int (iv (u_4.1 231 24))), (0, .ref (G.2.2.1 + 231)), (1, .int (iv tk))]) hx hb dX12_oneRow_142 hl (by decide) rfl (fun ls hl => ?_)
                have loop_144 : ∀ (fuel : Nat) (S144 : sS) (i : Int) (H : Heap) (locs : List Loc) (ls : Array Slot), (2 - i).toNat < fuel → (dX G S144) → (Fr S S144 (pl [231, 248, 249, 250, 251, 252, 255, 257, 258])) → (Fr S57 S144 (pl [231, 255])) → (FF S S144 (fl [20, 21, 24, 25, 36, 42, 43])) → (FF S57 S144 (fl [36])) → (0 ≤ i ∧ i ≤ 2 ∧ S144.1 231 36 = S.1 231 36 + i) → (∀ x, -99999 ≤ S144.2.2.1 255 x ∧ S144.2.2.1 255 x ≤ 99999) → sW G 294 S144 H → sL G locs → lv_has ls 8 [(4, .int (iv i)), (3, .int (iv (S.2.1 247 (u_4.1 231 24)))), (2, .int (iv (u_4.1 231 24))), (0, .ref (G.2.2.1 + 231)), (1, .int (iv tk))] → W p l e (rmk 134 0 0) s m args below meth c H locs 0 0 (MQ below (sQv G 294 (fun u => dX G u ∧ Fr S u (pl [231, 248, 249, 250, 251, 252, 255, 257, 258]) ∧ FF S u (fl [20, 21, 24, 25, 36, 42, 43]) ∧ (NR S u (S.1 231 25) ∧ S.1 231 25 ≤ u.1 231 25 ∧ Hd (∀ x, -99999 ≤ u.2.2.1 255 x ∧ u.2.2.1 255 x ≤ 99999) ∧ Hd (u.1 231 20 = 0 → NX u T ∧ u.1 231 25 = S.1 231 25 ∧ u.1 231 24 = q ∧ 0 ≤ u.1 231 36 ∧ u.1 231 36 ≤ 16)))) args s 0 0 (sF G)) (F0 m 144 ls []) := by
                  intro fuel
                  induction fuel with
                  | zero => intro S144 i H locs ls hmeas hI144 hFm144 hL144_ hGm144 gL144_ hi hB144 hW hL hl; exact absurd hmeas (Nat.not_lt_zero _)
                  | succ fuel ih_144 =>
                    intro S144 i H locs ls hmeas hI144 hFm144 hL144_ hGm144 gL144_ hi hB144 hW hL hl
                    refine lv_iload hx hb dX12_oneRow_144 (lv_at hl 0 rfl) ?_
                    refine lv_iload_n hx hb dX12_oneRow_146 rfl (lv_at hl 1 rfl) ?_
                    refine lv_bipush (v := iv 61) hx hb dX12_oneRow_147 (by decide) ?_
                    refine r_icmp_ne (tgt := 156) hx hb ⟨(by omega), (by omega)⟩ ⟨(by omega), (by omega)⟩ dX12_oneRow_149 (by decide) (fun c => absurd (by omega) c) (fun _ => ?_)
                    refine lv_iconst (v := iv 2) hx hb dX12_oneRow_152 (by decide) ?_
                    refine lv_goto (tgt := 157) hx hb dX12_oneRow_153 (by decide) ?_
                    refine r_icmp_ge (tgt := 280) hx hb ⟨(by omega), (by omega)⟩ ⟨(by omega), (by omega)⟩ dX12_oneRow_157 (by decide) (fun c_97 => ?_) (fun c_97 => ?_)
                    · have q_98 : (-2147483648) ≤ u_18.1 231 25 ∧ u_18.1 231 25 ≤ 2147483647 := iu_18.fi 25
                      have lk_99 : S144.1 231 25 = u_18.1 231 25 := (gL144_ 25 rfl).trans ((gL57_ 25 rfl).trans (uF_ne (fun h => absurd h.2 (by decide))))
                      have lk_100 : S144.1 231 20 = u_18.1 231 20 := (gL144_ 20 rfl).trans ((gL57_ 20 rfl).trans (uF_ne (fun h => absurd h.2 (by decide))))
                      have lk_101 : S144.1 231 24 = (u_18.1 231 24) + 1 := (gL144_ 24 rfl).trans ((gL57_ 24 rfl).trans (uF_on))
                      have q_102 : (-2147483648) ≤ S144.1 231 36 ∧ S144.1 231 36 ≤ 2147483647 := hI144.fi 36
                      exact sVret Cx hr hlk hW hL ⟨hI144, hFm144, hGm144, ⟨(NR.trans (NR.trans (NR.trans xu_4.2.1 (NR.eq (S := u_4) (u := (uF u_4 231 24 ((u_4.1 231 24) + 1))) (funext fun j => uF_a) (funext fun j => uF_a) (funext fun j => uF_a) (funext fun j => uF_a) (funext fun j => uF_a))) (NR.mono xu_18.2.1 (by have y := xu_4.2.2.1; omega))) (NR.eq (S := u_18) (u := S144) (funext fun j => ((hL144_ 248 rfl).2.1 j).trans (((hL57_ 248 rfl).2.1 j).trans (uF_a))) (funext fun j => ((hL144_ 249 rfl).2.1 j).trans (((hL57_ 249 rfl).2.1 j).trans (uF_a))) (funext fun j => ((hL144_ 250 rfl).2.1 j).trans (((hL57_ 250 rfl).2.1 j).trans (uF_a))) (funext fun j => ((hL144_ 251 rfl).2.1 j).trans (((hL57_ 251 rfl).2.1 j).trans (uF_a))) (funext fun j => ((hL144_ 252 rfl).2.1 j).trans (((hL57_ 252 rfl).2.1 j).trans (uF_a))))), (by have e7 := (show S144.1 231 24 = (u_18.1 231 24) + 1 from (gL144_ 24 rfl).trans ((gL57_ 24 rfl).trans (uF_on))); have e6 := (show S144.1 231 25 = u_18.1 231 25 from (gL144_ 25 rfl).trans ((gL57_ 25 rfl).trans (uF_ne (fun h => absurd h.2 (by decide))))); have e8 := (show S144.1 231 20 = u_18.1 231 20 from (gL144_ 20 rfl).trans ((gL57_ 20 rfl).trans (uF_ne (fun h => absurd h.2 (by decide))))); have y1 := xu_4.2.2.1; have y2 := xu_18.2.2.1; omega), hB144, (fun _ => ⟨(NX.cg (S := u_18) (u := S144) (nu_18 (by omega)) (NR.eq (funext fun j => ((hL144_ 248 rfl).2.1 j).trans (((hL57_ 248 rfl).2.1 j).trans (uF_a))) (funext fun j => ((hL144_ 249 rfl).2.1 j).trans (((hL57_ 249 rfl).2.1 j).trans (uF_a))) (funext fun j => ((hL144_ 250 rfl).2.1 j).trans (((hL57_ 250 rfl).2.1 j).trans (uF_a))) (funext fun j => ((hL144_ 251 rfl).2.1 j).trans (((hL57_ 251 rfl).2.1 j).trans (uF_a))) (funext fun j => ((hL144_ 252 rfl).2.1 j).trans (((hL57_ 252 rfl).2.1 j).trans (uF_a)))) ((gL144_ 25 rfl).trans ((gL57_ 25 rfl).trans (uF_ne (fun h => absurd h.2 (by decide))))) ((gL144_ 32 rfl).trans ((gL57_ 32 rfl).trans (uF_ne (fun h => absurd h.2 (by decide))))) ((gL144_ 35 rfl).trans ((gL57_ 35 rfl).trans (uF_ne (fun h => absurd h.2 (by decide))))) (funext fun j => ((hL144_ 253 rfl).2.1 j).trans (((hL57_ 253 rfl).2.1 j).trans (uF_a)))), (by have e7 := (show S144.1 231 24 = (u_18.1 231 24) + 1 from (gL144_ 24 rfl).trans ((gL57_ 24 rfl).trans (uF_on))); have e6 := (show S144.1 231 25 = u_18.1 231 25 from (gL144_ 25 rfl).trans ((gL57_ 25 rfl).trans (uF_ne (fun h => absurd h.2 (by decide))))); have e8 := (show S144.1 231 20 = u_18.1 231 20 from (gL144_ 20 rfl).trans ((gL57_ 20 rfl).trans (uF_ne (fun h => absurd h.2 (by decide))))); have y1 := xu_4.2.2.1; have y2 := xu_18.2.2.1; omega), (by have e7 := (show S144.1 231 24 = (u_18.1 231 24) + 1 from (gL144_ 24 rfl).trans ((gL57_ 24 rfl).trans (uF_on))); have e6 := (show S144.1 231 25 = u_18.1 231 25 from (gL144_ 25 rfl).trans ((gL57_ 25 rfl).trans (uF_ne (fun h => absurd h.2 (by decide))))); have e8 := (show S144.1 231 20 = u_18.1 231 20 from (gL144_ 20 rfl).trans ((gL57_ 20 rfl).trans (uF_ne (fun h => absurd h.2 (by decide))))); have y1 := xu_4.2.2.1; have y2 := xu_18.2.2.1; omega), (by have e3 := (show S144.1 231 36 = S144.1 231 36 from rfl); omega), (by have e3 := (show S144.1 231 36 = S144.1 231 36 from rfl); omega)⟩)⟩⟩ dX12_oneRow_280
                    · have join_176 : ∀ (fg : Int) (H : Heap) (locs : List Loc) (ls : Array Slot), (0 ≤ fg ∧ fg ≤ 1) → sW G 294 S144 H → sL G locs → lv_has ls 8 [(4, .int (iv i)), (3, .int (iv (S.2.1 247 (u_4.1 231 24)))), (2, .int (iv (u_4.1 231 24))), (0, .ref (G.2.2.1 + 231)), (1, .int (iv tk))] → W p l e (rmk 134 0 0) s m args below meth c H locs 0 0 (MQ below (sQv G 294 (fun u => dX G u ∧ Fr S u (pl [231, 248, 249, 250, 251, 252, 255, 257, 258]) ∧ FF S u (fl [20, 21, 24, 25, 36, 42, 43]) ∧ (NR S u (S.1 231 25) ∧ S.1 231 25 ≤ u.1 231 25 ∧ Hd (∀ x, -99999 ≤ u.2.2.1 255 x ∧ u.2.2.1 255 x ≤ 99999) ∧ Hd (u.1 231 20 = 0 → NX u T ∧ u.1 231 25 = S.1 231 25 ∧ u.1 231 24 = q ∧ 0 ≤ u.1 231 36 ∧ u.1 231 36 ≤ 16)))) args s 0 0 (sF G)) (F0 m 176 ls [.int (iv fg)]) := by
                        intro fg H locs ls hfg hW hL hl
                        refine lv_istore (lv' := [(5, .int (iv fg)), (4, .int (iv i)), (3, .int (iv (S.2.1 247 (u_4.1 231 24)))), (2, .int (iv (u_4.1 231 24))), (0, .ref (G.2.2.1 + 231)), (1, .int (iv tk))]) hx hb dX12_oneRow_176 hl (by decide) rfl (fun ls hl => ?_)
                        refine lv_aload_n hx hb dX12_oneRow_178 rfl (lv_at hl 4 rfl) ?_
                        refine lv_dup hx hb dX12_oneRow_179 rfl ?_
                        have q_103 : (-2147483648) ≤ S144.1 231 36 ∧ S144.1 231 36 ≤ 2147483647 := hI144.fi 36
                        refine g_X12_382 Cx hW (k := 231) (by decide) rfl (v := S144.1 231 36) rfl dX12_oneRow_180 ?_
                        refine lv_iconst (v := iv 1) hx hb dX12_oneRow_183 (by decide) ?_
                        refine r_iadd hx hb dX12_oneRow_184 ?_
                        refine p_X12_382 Cx hW hL (k := 231) (by decide) rfl dX12_oneRow_185 (fun H locs hW hL => ?_)
                        have F_104 : Fr S (uF S144 231 36 ((S144.1 231 36) + 1)) (pl [231, 248, 249, 250, 251, 252, 255, 257, 258]) := hFm144.F rfl
                        have F_105 : Fr S57 (uF S144 231 36 ((S144.1 231 36) + 1)) (pl [231, 255]) := hL144_.F rfl
                        have g_106 : FF S (uF S144 231 36 ((S144.1 231 36) + 1)) (fl [20, 21, 24, 25, 36, 42, 43]) := FF.F hGm144 rfl
                        have g_107 : FF S57 (uF S144 231 36 ((S144.1 231 36) + 1)) (fl [36]) := FF.F gL144_ rfl
                        have i_108 : dX G (uF S144 231 36 ((S144.1 231 36) + 1)) := hI144.F (i := 36) (show (-2147483648) ≤ (S144.1 231 36) + 1 ∧ (S144.1 231 36) + 1 ≤ 2147483647 from ⟨by omega, by omega⟩)
                        refine lv_bipush (v := iv 13) hx hb dX12_oneRow_188 (by decide) ?_
                        refine lv_aload_n hx hb dX12_oneRow_190 rfl (lv_at hl 4 rfl) ?_
                        refine g_X12_382 Cx hW (k := 231) (by decide) rfl (v := (S144.1 231 36) + 1) uF_on dX12_oneRow_191 ?_
                        refine r_imul hx hb dX12_oneRow_194 ?_
                        refine lv_istore (lv' := [(6, .int (iv (13 * ((S144.1 231 36) + 1)))), (5, .int (iv fg)), (4, .int (iv i)), (3, .int (iv (S.2.1 247 (u_4.1 231 24)))), (2, .int (iv (u_4.1 231 24))), (0, .ref (G.2.2.1 + 231)), (1, .int (iv tk))]) hx hb dX12_oneRow_195 hl (by decide) rfl (fun ls hl => ?_)
                        refine lv_aload_n hx hb dX12_oneRow_197 rfl (lv_at hl 5 rfl) ?_
                        refine g_X12_81 Cx hW (k := 231) (by decide) rfl (v := .ref (G.2.2.1 + 255)) (rd_38 i_108) dX12_oneRow_198 ?_
                        refine lv_iload hx hb dX12_oneRow_201 (lv_at hl 0 rfl) ?_
                        refine lv_iload hx hb dX12_oneRow_203 (lv_at hl 1 rfl) ?_
                        refine r_if_eq (tgt := 217) hx hb ⟨(by omega), (by omega)⟩ dX12_oneRow_205 (by decide) (fun c_109 => ?_) (fun c_109 => ?_)
                        · have hf0 := hfb 0 (by omega) (by omega)
                          refine lv_aload_n hx hb dX12_oneRow_217 rfl (lv_at hl 5 rfl) ?_
                          refine g_X12_88 Cx hW (k := 231) (by decide) rfl (v := .ref (G.2.2.1 + 257)) (rd_41 i_108) dX12_oneRow_218 ?_
                          refine lv_iconst (v := iv 0) hx hb dX12_oneRow_221 (by decide) ?_
                          refine rLald Cx hW (k := 257) (by decide) rfl (by decide) (by omega) (by omega) dX12_oneRow_222 ?_
                          have q_110 : -9223372036854775808 ≤ S57.2.2.1 257 0 ∧ S57.2.2.1 257 0 ≤ 9223372036854775807 := hI57.li 257 0
                          refine r_j (b := S57.2.2.1 257 0) ((uF_l).trans ((hL144_ 257 rfl).2.2.1 0)) ?_
                          refine r_lneg hx hb dX12_oneRow_223 ?_
                          refine rLast Cx hW hL (k := 255) (by decide) rfl (by decide) (by omega) (by omega) dX12_oneRow_224 (fun H locs hW hL => ?_)
                          have F_111 : Fr S (uL (uF S144 231 36 ((S144.1 231 36) + 1)) 255 (13 * ((S144.1 231 36) + 1)) (-(S57.2.2.1 257 0))) (pl [231, 248, 249, 250, 251, 252, 255, 257, 258]) := F_104.L rfl
                          have F_112 : Fr S57 (uL (uF S144 231 36 ((S144.1 231 36) + 1)) 255 (13 * ((S144.1 231 36) + 1)) (-(S57.2.2.1 257 0))) (pl [231, 255]) := F_105.L rfl
                          have i_113 : dX G (uL (uF S144 231 36 ((S144.1 231 36) + 1)) 255 (13 * ((S144.1 231 36) + 1)) (-(S57.2.2.1 257 0))) := i_108.L ⟨by omega, by omega⟩
                          refine lv_iconst (v := iv 1) hx hb dX12_oneRow_225 (by decide) ?_
                          refine lv_istore (lv' := [(7, .int (iv 1)), (6, .int (iv (13 * ((S144.1 231 36) + 1)))), (5, .int (iv fg)), (4, .int (iv i)), (3, .int (iv (S.2.1 247 (u_4.1 231 24)))), (2, .int (iv (u_4.1 231 24))), (0, .ref (G.2.2.1 + 231)), (1, .int (iv tk))]) hx hb dX12_oneRow_226 hl (by decide) rfl (fun ls hl => ?_)
                          have loop_228 : ∀ (fuel : Nat) (S228 : sS) (k : Int) (H : Heap) (locs : List Loc) (ls : Array Slot), (13 - k).toNat < fuel → (dX G S228) → (Fr S S228 (pl [231, 248, 249, 250, 251, 252, 255, 257, 258])) → (Fr S57 S228 (pl [231, 255])) → (Fr ((uL (uF S144 231 36 ((S144.1 231 36) + 1)) 255 (13 * ((S144.1 231 36) + 1)) (-(S57.2.2.1 257 0)))) S228 (pl [255])) → (FF S S228 (fl [20, 21, 24, 25, 36, 42, 43])) → (FF S57 S228 (fl [36])) → (FF ((uL (uF S144 231 36 ((S144.1 231 36) + 1)) 255 (13 * ((S144.1 231 36) + 1)) (-(S57.2.2.1 257 0)))) S228 (fl [])) → (1 ≤ k ∧ k ≤ 13) → (∀ x, -99999 ≤ S228.2.2.1 255 x ∧ S228.2.2.1 255 x ≤ 99999) → sW G 294 S228 H → sL G locs → lv_has ls 8 [(7, .int (iv k)), (6, .int (iv (13 * ((S144.1 231 36) + 1)))), (5, .int (iv fg)), (4, .int (iv i)), (3, .int (iv (S.2.1 247 (u_4.1 231 24)))), (2, .int (iv (u_4.1 231 24))), (0, .ref (G.2.2.1 + 231)), (1, .int (iv tk))] → W p l e (rmk 134 0 0) s m args below meth c H locs 0 0 (MQ below (sQv G 294 (fun u => dX G u ∧ Fr S u (pl [231, 248, 249, 250, 251, 252, 255, 257, 258]) ∧ FF S u (fl [20, 21, 24, 25, 36, 42, 43]) ∧ (NR S u (S.1 231 25) ∧ S.1 231 25 ≤ u.1 231 25 ∧ Hd (∀ x, -99999 ≤ u.2.2.1 255 x ∧ u.2.2.1 255 x ≤ 99999) ∧ Hd (u.1 231 20 = 0 → NX u T ∧ u.1 231 25 = S.1 231 25 ∧ u.1 231 24 = q ∧ 0 ≤ u.1 231 36 ∧ u.1 231 36 ≤ 16)))) args s 0 0 (sF G)) (F0 m 228 ls []) := by
                            intro fuel
                            induction fuel with
                            | zero => intro S228 k H locs ls hmeas hI228 hFm228 hFL144228 hL228_ hGm228 hGL144228 gL228_ hk hB228 hW hL hl; exact absurd hmeas (Nat.not_lt_zero _)
                            | succ fuel ih_228 =>
                              intro S228 k H locs ls hmeas hI228 hFm228 hFL144228 hL228_ hGm228 hGL144228 gL228_ hk hB228 hW hL hl
                              refine lv_iload hx hb dX12_oneRow_228 (lv_at hl 0 rfl) ?_
                              refine lv_bipush (v := iv 12) hx hb dX12_oneRow_230 (by decide) ?_
                              refine r_icmp_gt (tgt := 274) hx hb ⟨(by omega), (by omega)⟩ ⟨(by omega), (by omega)⟩ dX12_oneRow_232 (by decide) (fun c_114 => ?_) (fun c_114 => ?_)
                              · refine lv_iinc (v := iv (i + 1)) (lv' := [(4, .int (iv (i + 1))), (7, .int (iv k)), (6, .int (iv (13 * ((S144.1 231 36) + 1)))), (5, .int (iv fg)), (3, .int (iv (S.2.1 247 (u_4.1 231 24)))), (2, .int (iv (u_4.1 231 24))), (0, .ref (G.2.2.1 + 231)), (1, .int (iv tk))]) hx hb dX12_oneRow_274 hl (k := 3) rfl ((Int32.ofInt_add _ _).symm) (by decide) rfl (fun ls hl => ?_)
                                refine lv_goto (tgt := 144) hx hb dX12_oneRow_277 (by decide) ?_
                                have lk_115 : S228.1 231 36 = (S144.1 231 36) + 1 := (gL228_ 36 rfl).trans ((uL_f).trans (uF_on))
                                exact ih_144 S228 (i + 1) _ _ _ (by omega) hI228 hFm228 hFL144228 hGm228 hGL144228 (by omega) hB228 hW hL (lv_sub hl [0, 4, 5, 6, 7] rfl)
                              · have hfk := hfb k (by omega) (by omega)
                                refine lv_aload_n hx hb dX12_oneRow_235 rfl (lv_at hl 6 rfl) ?_
                                refine g_X12_81 Cx hW (k := 231) (by decide) rfl (v := .ref (G.2.2.1 + 255)) (rd_38 hI228) dX12_oneRow_236 ?_
                                refine lv_iload hx hb dX12_oneRow_239 (lv_at hl 1 rfl) ?_
                                refine lv_iload hx hb dX12_oneRow_241 (lv_at hl 0 rfl) ?_
                                refine r_iadd hx hb dX12_oneRow_243 ?_
                                refine lv_iload hx hb dX12_oneRow_244 (lv_at hl 2 rfl) ?_
                                refine r_if_eq (tgt := 260) hx hb ⟨(by omega), (by omega)⟩ dX12_oneRow_246 (by decide) (fun c_116 => ?_) (fun c_116 => ?_)
                                · refine lv_aload_n hx hb dX12_oneRow_260 rfl (lv_at hl 6 rfl) ?_
                                  refine g_X12_88 Cx hW (k := 231) (by decide) rfl (v := .ref (G.2.2.1 + 257)) (rd_41 hI228) dX12_oneRow_261 ?_
                                  refine lv_iload hx hb dX12_oneRow_264 (lv_at hl 0 rfl) ?_
                                  refine rLald Cx hW (k := 257) (by decide) rfl (by decide) (by omega) (by omega) dX12_oneRow_266 ?_
                                  have q_117 : -9223372036854775808 ≤ S57.2.2.1 257 k ∧ S57.2.2.1 257 k ≤ 9223372036854775807 := hI57.li 257 k
                                  refine r_j (b := S57.2.2.1 257 k) (((hL228_ 257 rfl).2.2.1 k).trans ((uL_ne (fun h => absurd h.1 (by decide))).trans ((uF_l).trans ((hL144_ 257 rfl).2.2.1 k)))) ?_
                                  refine rLast Cx hW hL (k := 255) (by decide) rfl (by decide) (by omega) (by omega) dX12_oneRow_267 (fun H locs hW hL => ?_)
                                  have F_118 : Fr S (uL S228 255 ((13 * ((S144.1 231 36) + 1)) + k) (S57.2.2.1 257 k)) (pl [231, 248, 249, 250, 251, 252, 255, 257, 258]) := hFm228.L rfl
                                  have F_119 : Fr S57 (uL S228 255 ((13 * ((S144.1 231 36) + 1)) + k) (S57.2.2.1 257 k)) (pl [231, 255]) := hFL144228.L rfl
                                  have F_120 : Fr ((uL (uF S144 231 36 ((S144.1 231 36) + 1)) 255 (13 * ((S144.1 231 36) + 1)) (-(S57.2.2.1 257 0)))) (uL S228 255 ((13 * ((S144.1 231 36) + 1)) + k) (S57.2.2.1 257 k)) (pl [255]) := hL228_.L rfl
                                  have i_121 : dX G (uL S228 255 ((13 * ((S144.1 231 36) + 1)) + k) (S57.2.2.1 257 k)) := hI228.L ⟨by omega, by omega⟩
                                  refine lv_iinc (v := iv (k + 1)) (lv' := [(7, .int (iv (k + 1))), (6, .int (iv (13 * ((S144.1 231 36) + 1)))), (5, .int (iv fg)), (4, .int (iv i)), (3, .int (iv (S.2.1 247 (u_4.1 231 24)))), (2, .int (iv (u_4.1 231 24))), (0, .ref (G.2.2.1 + 231)), (1, .int (iv tk))]) hx hb dX12_oneRow_268 hl (k := 0) rfl ((Int32.ofInt_add _ _).symm) (by decide) rfl (fun ls hl => ?_)
                                  refine lv_goto (tgt := 228) hx hb dX12_oneRow_271 (by decide) ?_
                                  exact ih_228 (uL S228 255 ((13 * ((S144.1 231 36) + 1)) + k) (S57.2.2.1 257 k)) (k + 1) _ _ _ (by omega) i_121 F_118 F_119 F_120 hGm228 hGL144228 gL228_ (by omega) (fun x => by rw [show (uL S228 255 ((13 * ((S144.1 231 36) + 1)) + k) (S57.2.2.1 257 k)).2.2.1 255 x = (uL S228 255 ((13 * ((S144.1 231 36) + 1)) + k) (S57.2.2.1 257 k)).2.2.1 255 x from rfl, uL_get]; split; (omega); (rw [show S228.2.2.1 255 x = S228.2.2.1 255 x from rfl]; exact hB228 x)) hW hL (lv_sub hl [0, 1, 2, 3, 4, 5, 6, 7] rfl)
                                · refine lv_aload_n hx hb dX12_oneRow_249 rfl (lv_at hl 6 rfl) ?_
                                  refine g_X12_88 Cx hW (k := 231) (by decide) rfl (v := .ref (G.2.2.1 + 257)) (rd_41 hI228) dX12_oneRow_250 ?_
                                  refine lv_iload hx hb dX12_oneRow_253 (lv_at hl 0 rfl) ?_
                                  refine rLald Cx hW (k := 257) (by decide) rfl (by decide) (by omega) (by omega) dX12_oneRow_255 ?_
                                  have q_122 : -9223372036854775808 ≤ S57.2.2.1 257 k ∧ S57.2.2.1 257 k ≤ 9223372036854775807 := hI57.li 257 k
                                  refine r_j (b := S57.2.2.1 257 k) (((hL228_ 257 rfl).2.2.1 k).trans ((uL_ne (fun h => absurd h.1 (by decide))).trans ((uF_l).trans ((hL144_ 257 rfl).2.2.1 k)))) ?_
                                  refine r_lneg hx hb dX12_oneRow_256 ?_
                                  refine lv_goto (tgt := 267) hx hb dX12_oneRow_257 (by decide) ?_
                                  refine rLast Cx hW hL (k := 255) (by decide) rfl (by decide) (by omega) (by omega) dX12_oneRow_267 (fun H locs hW hL => ?_)
                                  have F_123 : Fr S (uL S228 255 ((13 * ((S144.1 231 36) + 1)) + k) (-(S57.2.2.1 257 k))) (pl [231, 248, 249, 250, 251, 252, 255, 257, 258]) := hFm228.L rfl
                                  have F_124 : Fr S57 (uL S228 255 ((13 * ((S144.1 231 36) + 1)) + k) (-(S57.2.2.1 257 k))) (pl [231, 255]) := hFL144228.L rfl
                                  have F_125 : Fr ((uL (uF S144 231 36 ((S144.1 231 36) + 1)) 255 (13 * ((S144.1 231 36) + 1)) (-(S57.2.2.1 257 0)))) (uL S228 255 ((13 * ((S144.1 231 36) + 1)) + k) (-(S57.2.2.1 257 k))) (pl [255]) := hL228_.L rfl
                                  have i_126 : dX G (uL S228 255 ((13 * ((S144.1 231 36) + 1)) + k) (-(S57.2.2.1 257 k))) := hI228.L ⟨by omega, by omega⟩
                                  refine lv_iinc (v := iv (k + 1)) (lv' := [(7, .int (iv (k + 1))), (6, .int (iv (13 * ((S144.1 231 36) + 1)))), (5, .int (iv fg)), (4, .int (iv i)), (3, .int (iv (S.2.1 247 (u_4.1 231 24)))), (2, .int (iv (u_4.1 231 24))), (0, .ref (G.2.2.1 + 231)), (1, .int (iv tk))]) hx hb dX12_oneRow_268 hl (k := 0) rfl ((Int32.ofInt_add _ _).symm) (by decide) rfl (fun ls hl => ?_)
                                  refine lv_goto (tgt := 228) hx hb dX12_oneRow_271 (by decide) ?_
                                  exact ih_228 (uL S228 255 ((13 * ((S144.1 231 36) + 1)) + k) (-(S57.2.2.1 257 k))) (k + 1) _ _ _ (by omega) i_126 F_123 F_124 F_125 hGm228 hGL144228 gL228_ (by omega) (fun x => by rw [show (uL S228 255 ((13 * ((S144.1 231 36) + 1)) + k) (-(S57.2.2.1 257 k))).2.2.1 255 x = (uL S228 255 ((13 * ((S144.1 231 36) + 1)) + k) (-(S57.2.2.1 257 k))).2.2.1 255 x from rfl, uL_get]; split; (omega); (rw [show S228.2.2.1 255 x = S228.2.2.1 255 x from rfl]; exact hB228 x)) hW hL (lv_sub hl [0, 1, 2, 3, 4, 5, 6, 7] rfl)
                          exact loop_228 (_ + 1) (uL (uF S144 231 36 ((S144.1 231 36) + 1)) 255 (13 * ((S144.1 231 36) + 1)) (-(S57.2.2.1 257 0))) 1 _ _ _ (Nat.lt_succ_self _) i_113 F_111 F_112 Fr.rf g_106 g_107 FF.rf (by omega) (fun x => by rw [show (uL (uF S144 231 36 ((S144.1 231 36) + 1)) 255 (13 * ((S144.1 231 36) + 1)) (-(S57.2.2.1 257 0))).2.2.1 255 x = (uL (uF S144 231 36 ((S144.1 231 36) + 1)) 255 (13 * ((S144.1 231 36) + 1)) (-(S57.2.2.1 257 0))).2.2.1 255 x from rfl, uL_get]; split; (omega); (rw [show (uF S144 231 36 ((S144.1 231 36) + 1)).2.2.1 255 x = S144.2.2.1 255 x from uF_l]; exact hB144 x)) hW hL (lv_sub hl [0, 1, 2, 3, 4, 5, 6, 7] rfl)
                        · have hf0 := hfb 0 (by omega) (by omega)
                          refine lv_aload_n hx hb dX12_oneRow_208 rfl (lv_at hl 5 rfl) ?_
                          refine g_X12_88 Cx hW (k := 231) (by decide) rfl (v := .ref (G.2.2.1 + 257)) (rd_41 i_108) dX12_oneRow_209 ?_
                          refine lv_iconst (v := iv 0) hx hb dX12_oneRow_212 (by decide) ?_
                          refine rLald Cx hW (k := 257) (by decide) rfl (by decide) (by omega) (by omega) dX12_oneRow_213 ?_
                          have q_127 : -9223372036854775808 ≤ S57.2.2.1 257 0 ∧ S57.2.2.1 257 0 ≤ 9223372036854775807 := hI57.li 257 0
                          refine r_j (b := S57.2.2.1 257 0) ((uF_l).trans ((hL144_ 257 rfl).2.2.1 0)) ?_
                          refine lv_goto (tgt := 224) hx hb dX12_oneRow_214 (by decide) ?_
                          refine rLast Cx hW hL (k := 255) (by decide) rfl (by decide) (by omega) (by omega) dX12_oneRow_224 (fun H locs hW hL => ?_)
                          have F_128 : Fr S (uL (uF S144 231 36 ((S144.1 231 36) + 1)) 255 (13 * ((S144.1 231 36) + 1)) (S57.2.2.1 257 0)) (pl [231, 248, 249, 250, 251, 252, 255, 257, 258]) := F_104.L rfl
                          have F_129 : Fr S57 (uL (uF S144 231 36 ((S144.1 231 36) + 1)) 255 (13 * ((S144.1 231 36) + 1)) (S57.2.2.1 257 0)) (pl [231, 255]) := F_105.L rfl
                          have i_130 : dX G (uL (uF S144 231 36 ((S144.1 231 36) + 1)) 255 (13 * ((S144.1 231 36) + 1)) (S57.2.2.1 257 0)) := i_108.L ⟨by omega, by omega⟩
                          refine lv_iconst (v := iv 1) hx hb dX12_oneRow_225 (by decide) ?_
                          refine lv_istore (lv' := [(7, .int (iv 1)), (6, .int (iv (13 * ((S144.1 231 36) + 1)))), (5, .int (iv fg)), (4, .int (iv i)), (3, .int (iv (S.2.1 247 (u_4.1 231 24)))), (2, .int (iv (u_4.1 231 24))), (0, .ref (G.2.2.1 + 231)), (1, .int (iv tk))]) hx hb dX12_oneRow_226 hl (by decide) rfl (fun ls hl => ?_)
                          have loop_228 : ∀ (fuel : Nat) (S228 : sS) (k : Int) (H : Heap) (locs : List Loc) (ls : Array Slot), (13 - k).toNat < fuel → (dX G S228) → (Fr S S228 (pl [231, 248, 249, 250, 251, 252, 255, 257, 258])) → (Fr S57 S228 (pl [231, 255])) → (Fr ((uL (uF S144 231 36 ((S144.1 231 36) + 1)) 255 (13 * ((S144.1 231 36) + 1)) (S57.2.2.1 257 0))) S228 (pl [255])) → (FF S S228 (fl [20, 21, 24, 25, 36, 42, 43])) → (FF S57 S228 (fl [36])) → (FF ((uL (uF S144 231 36 ((S144.1 231 36) + 1)) 255 (13 * ((S144.1 231 36) + 1)) (S57.2.2.1 257 0))) S228 (fl [])) → (1 ≤ k ∧ k ≤ 13) → (∀ x, -99999 ≤ S228.2.2.1 255 x ∧ S228.2.2.1 255 x ≤ 99999) → sW G 294 S228 H → sL G locs → lv_has ls 8 [(7, .int (iv k)), (6, .int (iv (13 * ((S144.1 231 36) + 1)))), (5, .int (iv fg)), (4, .int (iv i)), (3, .int (iv (S.2.1 247 (u_4.1 231 24)))), (2, .int (iv (u_4.1 231 24))), (0, .ref (G.2.2.1 + 231)), (1, .int (iv tk))] → W p l e (rmk 134 0 0) s m args below meth c H locs 0 0 (MQ below (sQv G 294 (fun u => dX G u ∧ Fr S u (pl [231, 248, 249, 250, 251, 252, 255, 257, 258]) ∧ FF S u (fl [20, 21, 24, 25, 36, 42, 43]) ∧ (NR S u (S.1 231 25) ∧ S.1 231 25 ≤ u.1 231 25 ∧ Hd (∀ x, -99999 ≤ u.2.2.1 255 x ∧ u.2.2.1 255 x ≤ 99999) ∧ Hd (u.1 231 20 = 0 → NX u T ∧ u.1 231 25 = S.1 231 25 ∧ u.1 231 24 = q ∧ 0 ≤ u.1 231 36 ∧ u.1 231 36 ≤ 16)))) args s 0 0 (sF G)) (F0 m 228 ls []) := by
                            intro fuel
                            induction fuel with
                            | zero => intro S228 k H locs ls hmeas hI228 hFm228 hFL144228 hL228_ hGm228 hGL144228 gL228_ hk hB228 hW hL hl; exact absurd hmeas (Nat.not_lt_zero _)
                            | succ fuel ih_228 =>
                              intro S228 k H locs ls hmeas hI228 hFm228 hFL144228 hL228_ hGm228 hGL144228 gL228_ hk hB228 hW hL hl
                              refine lv_iload hx hb dX12_oneRow_228 (lv_at hl 0 rfl) ?_
                              refine lv_bipush (v := iv 12) hx hb dX12_oneRow_230 (by decide) ?_
                              refine r_icmp_gt (tgt := 274) hx hb ⟨(by omega), (by omega)⟩ ⟨(by omega), (by omega)⟩ dX12_oneRow_232 (by decide) (fun c_131 => ?_) (fun c_131 => ?_)
                              · refine lv_iinc (v := iv (i + 1)) (lv' := [(4, .int (iv (i + 1))), (7, .int (iv k)), (6, .int (iv (13 * ((S144.1 231 36) + 1)))), (5, .int (iv fg)), (3, .int (iv (S.2.1 247 (u_4.1 231 24)))), (2, .int (iv (u_4.1 231 24))), (0, .ref (G.2.2.1 + 231)), (1, .int (iv tk))]) hx hb dX12_oneRow_274 hl (k := 3) rfl ((Int32.ofInt_add _ _).symm) (by decide) rfl (fun ls hl => ?_)
                                refine lv_goto (tgt := 144) hx hb dX12_oneRow_277 (by decide) ?_
                                have lk_132 : S228.1 231 36 = (S144.1 231 36) + 1 := (gL228_ 36 rfl).trans ((uL_f).trans (uF_on))
                                exact ih_144 S228 (i + 1) _ _ _ (by omega) hI228 hFm228 hFL144228 hGm228 hGL144228 (by omega) hB228 hW hL (lv_sub hl [0, 4, 5, 6, 7] rfl)
                              · have hfk := hfb k (by omega) (by omega)
                                refine lv_aload_n hx hb dX12_oneRow_235 rfl (lv_at hl 6 rfl) ?_
                                refine g_X12_81 Cx hW (k := 231) (by decide) rfl (v := .ref (G.2.2.1 + 255)) (rd_38 hI228) dX12_oneRow_236 ?_
                                refine lv_iload hx hb dX12_oneRow_239 (lv_at hl 1 rfl) ?_
                                refine lv_iload hx hb dX12_oneRow_241 (lv_at hl 0 rfl) ?_
                                refine r_iadd hx hb dX12_oneRow_243 ?_
                                refine lv_iload hx hb dX12_oneRow_244 (lv_at hl 2 rfl) ?_
                                refine r_if_eq (tgt := 260) hx hb ⟨(by omega), (by omega)⟩ dX12_oneRow_246 (by decide) (fun c_133 => ?_) (fun c_133 => ?_)
                                · refine lv_aload_n hx hb dX12_oneRow_260 rfl (lv_at hl 6 rfl) ?_
                                  refine g_X12_88 Cx hW (k := 231) (by decide) rfl (v := .ref (G.2.2.1 + 257)) (rd_41 hI228) dX12_oneRow_261 ?_
                                  refine lv_iload hx hb dX12_oneRow_264 (lv_at hl 0 rfl) ?_
                                  refine rLald Cx hW (k := 257) (by decide) rfl (by decide) (by omega) (by omega) dX12_oneRow_266 ?_
                                  have q_134 : -9223372036854775808 ≤ S57.2.2.1 257 k ∧ S57.2.2.1 257 k ≤ 9223372036854775807 := hI57.li 257 k
                                  refine r_j (b := S57.2.2.1 257 k) (((hL228_ 257 rfl).2.2.1 k).trans ((uL_ne (fun h => absurd h.1 (by decide))).trans ((uF_l).trans ((hL144_ 257 rfl).2.2.1 k)))) ?_
                                  refine rLast Cx hW hL (k := 255) (by decide) rfl (by decide) (by omega) (by omega) dX12_oneRow_267 (fun H locs hW hL => ?_)
                                  have F_135 : Fr S (uL S228 255 ((13 * ((S144.1 231 36) + 1)) + k) (S57.2.2.1 257 k)) (pl [231, 248, 249, 250, 251, 252, 255, 257, 258]) := hFm228.L rfl
                                  have F_136 : Fr S57 (uL S228 255 ((13 * ((S144.1 231 36) + 1)) + k) (S57.2.2.1 257 k)) (pl [231, 255]) := hFL144228.L rfl
                                  have F_137 : Fr ((uL (uF S144 231 36 ((S144.1 231 36) + 1)) 255 (13 * ((S144.1 231 36) + 1)) (S57.2.2.1 257 0))) (uL S228 255 ((13 * ((S144.1 231 36) + 1)) + k) (S57.2.2.1 257 k)) (pl [255]) := hL228_.L rfl
                                  have i_138 : dX G (uL S228 255 ((13 * ((S144.1 231 36) + 1)) + k) (S57.2.2.1 257 k)) := hI228.L ⟨by omega, by omega⟩
                                  refine lv_iinc (v := iv (k + 1)) (lv' := [(7, .int (iv (k + 1))), (6, .int (iv (13 * ((S144.1 231 36) + 1)))), (5, .int (iv fg)), (4, .int (iv i)), (3, .int (iv (S.2.1 247 (u_4.1 231 24)))), (2, .int (iv (u_4.1 231 24))), (0, .ref (G.2.2.1 + 231)), (1, .int (iv tk))]) hx hb dX12_oneRow_268 hl (k := 0) rfl ((Int32.ofInt_add _ _).symm) (by decide) rfl (fun ls hl => ?_)
                                  refine lv_goto (tgt := 228) hx hb dX12_oneRow_271 (by decide) ?_
                                  exact ih_228 (uL S228 255 ((13 * ((S144.1 231 36) + 1)) + k) (S57.2.2.1 257 k)) (k + 1) _ _ _ (by omega) i_138 F_135 F_136 F_137 hGm228 hGL144228 gL228_ (by omega) (fun x => by rw [show (uL S228 255 ((13 * ((S144.1 231 36) + 1)) + k) (S57.2.2.1 257 k)).2.2.1 255 x = (uL S228 255 ((13 * ((S144.1 231 36) + 1)) + k) (S57.2.2.1 257 k)).2.2.1 255 x from rfl, uL_get]; split; (omega); (rw [show S228.2.2.1 255 x = S228.2.2.1 255 x from rfl]; exact hB228 x)) hW hL (lv_sub hl [0, 1, 2, 3, 4, 5, 6, 7] rfl)
                                · refine lv_aload_n hx hb dX12_oneRow_249 rfl (lv_at hl 6 rfl) ?_
                                  refine g_X12_88 Cx hW (k := 231) (by decide) rfl (v := .ref (G.2.2.1 + 257)) (rd_41 hI228) dX12_oneRow_250 ?_
                                  refine lv_iload hx hb dX12_oneRow_253 (lv_at hl 0 rfl) ?_
                                  refine rLald Cx hW (k := 257) (by decide) rfl (by decide) (by omega) (by omega) dX12_oneRow_255 ?_
                                  have q_139 : -9223372036854775808 ≤ S57.2.2.1 257 k ∧ S57.2.2.1 257 k ≤ 9223372036854775807 := hI57.li 257 k
                                  refine r_j (b := S57.2.2.1 257 k) (((hL228_ 257 rfl).2.2.1 k).trans ((uL_ne (fun h => absurd h.1 (by decide))).trans ((uF_l).trans ((hL144_ 257 rfl).2.2.1 k)))) ?_
                                  refine r_lneg hx hb dX12_oneRow_256 ?_
                                  refine lv_goto (tgt := 267) hx hb dX12_oneRow_257 (by decide) ?_
                                  refine rLast Cx hW hL (k := 255) (by decide) rfl (by decide) (by omega) (by omega) dX12_oneRow_267 (fun H locs hW hL => ?_)
                                  have F_140 : Fr S (uL S228 255 ((13 * ((S144.1 231 36) + 1)) + k) (-(S57.2.2.1 257 k))) (pl [231, 248, 249, 250, 251, 252, 255, 257, 258]) := hFm228.L rfl
                                  have F_141 : Fr S57 (uL S228 255 ((13 * ((S144.1 231 36) + 1)) + k) (-(S57.2.2.1 257 k))) (pl [231, 255]) := hFL144228.L rfl
                                  have F_142 : Fr ((uL (uF S144 231 36 ((S144.1 231 36) + 1)) 255 (13 * ((S144.1 231 36) + 1)) (S57.2.2.1 257 0))) (uL S228 255 ((13 * ((S144.1 231 36) + 1)) + k) (-(S57.2.2.1 257 k))) (pl [255]) := hL228_.L rfl
                                  have i_143 : dX G (uL S228 255 ((13 * ((S144.1 231 36) + 1)) + k) (-(S57.2.2.1 257 k))) := hI228.L ⟨by omega, by omega⟩
                                  refine lv_iinc (v := iv (k + 1)) (lv' := [(7, .int (iv (k + 1))), (6, .int (iv (13 * ((S144.1 231 36) + 1)))), (5, .int (iv fg)), (4, .int (iv i)), (3, .int (iv (S.2.1 247 (u_4.1 231 24)))), (2, .int (iv (u_4.1 231 24))), (0, .ref (G.2.2.1 + 231)), (1, .int (iv tk))]) hx hb dX12_oneRow_268 hl (k := 0) rfl ((Int32.ofInt_add _ _).symm) (by decide) rfl (fun ls hl => ?_)
                                  refine lv_goto (tgt := 228) hx hb dX12_oneRow_271 (by decide) ?_
                                  exact ih_228 (uL S228 255 ((13 * ((S144.1 231 36) + 1)) + k) (-(S57.2.2.1 257 k))) (k + 1) _ _ _ (by omega) i_143 F_140 F_141 F_142 hGm228 hGL144228 gL228_ (by omega) (fun x => by rw [show (uL S228 255 ((13 * ((S144.1 231 36) + 1)) + k) (-(S57.2.2.1 257 k))).2.2.1 255 x = (uL S228 255 ((13 * ((S144.1 231 36) + 1)) + k) (-(S57.2.2.1 257 k))).2.2.1 255 x from rfl, uL_get]; split; (omega); (rw [show S228.2.2.1 255 x = S228.2.2.1 255 x from rfl]; exact hB228 x)) hW hL (lv_sub hl [0, 1, 2, 3, 4, 5, 6, 7] rfl)
                          exact loop_228 (_ + 1) (uL (uF S144 231 36 ((S144.1 231 36) + 1)) 255 (13 * ((S144.1 231 36) + 1)) (S57.2.2.1 257 0)) 1 _ _ _ (Nat.lt_succ_self _) i_130 F_128 F_129 Fr.rf g_106 g_107 FF.rf (by omega) (fun x => by rw [show (uL (uF S144 231 36 ((S144.1 231 36) + 1)) 255 (13 * ((S144.1 231 36) + 1)) (S57.2.2.1 257 0)).2.2.1 255 x = (uL (uF S144 231 36 ((S144.1 231 36) + 1)) 255 (13 * ((S144.1 231 36) + 1)) (S57.2.2.1 257 0)).2.2.1 255 x from rfl, uL_get]; split; (omega); (rw [show (uF S144 231 36 ((S144.1 231 36) + 1)).2.2.1 255 x = S144.2.2.1 255 x from uF_l]; exact hB144 x)) hW hL (lv_sub hl [0, 1, 2, 3, 4, 5, 6, 7] rfl)
                      refine lv_iload_n hx hb dX12_oneRow_160 rfl (lv_at hl 1 rfl) ?_
                      refine lv_iconst (v := iv 3) hx hb dX12_oneRow_161 (by decide) ?_
                      refine r_icmp_eq (tgt := 171) hx hb ⟨(by omega), (by omega)⟩ ⟨(by omega), (by omega)⟩ dX12_oneRow_162 (by decide) (fun c_144 => ?_) (fun c_144 => ?_)
                      · refine lv_iconst (v := iv 1) hx hb dX12_oneRow_171 (by decide) ?_
                        refine lv_goto (tgt := 176) hx hb dX12_oneRow_172 (by decide) ?_
                        exact join_176 1 _ _ _ (by omega) hW hL (lv_sub hl [0, 1, 2, 3, 4] rfl)
                      · refine lv_iload hx hb dX12_oneRow_165 (lv_at hl 0 rfl) ?_
                        refine lv_iconst (v := iv 1) hx hb dX12_oneRow_167 (by decide) ?_
                        refine r_icmp_ne (tgt := 175) hx hb ⟨(by omega), (by omega)⟩ ⟨(by omega), (by omega)⟩ dX12_oneRow_168 (by decide) (fun c_145 => ?_) (fun c_145 => ?_)
                        · refine lv_iconst (v := iv 0) hx hb dX12_oneRow_175 (by decide) ?_
                          exact join_176 0 _ _ _ (by omega) hW hL (lv_sub hl [0, 1, 2, 3, 4] rfl)
                        · refine lv_iconst (v := iv 1) hx hb dX12_oneRow_171 (by decide) ?_
                          refine lv_goto (tgt := 176) hx hb dX12_oneRow_172 (by decide) ?_
                          exact join_176 1 _ _ _ (by omega) hW hL (lv_sub hl [0, 1, 2, 3, 4] rfl)
                have lk_146 : S57.1 231 36 = S.1 231 36 := (gL57_ 36 rfl).trans ((uF_ne (fun h => absurd h.2 (by decide))).trans ((gu_18 36 rfl).trans ((uF_ne (fun h => absurd h.2 (by decide))).trans (gu_4 36 rfl))))
                exact loop_144 (_ + 1) S57 0 _ _ _ (Nat.lt_succ_self _) hI57 hFm57 Fr.rf hGm57 FF.rf (by omega) (fun x => by rw [show S57.2.2.1 255 x = S.2.2.1 255 x from ((hL57_ 255 rfl).2.2.1 x).trans ((uF_l).trans (((fu_18 255 rfl).2.2.1 x).trans ((uF_l).trans ((fu_4 255 rfl).2.2.1 x))))]; exact hRB x) hW hL (lv_sub hl [0, 1, 2, 3, 4] rfl)
              · refine lv_aload_n hx hb dX12_oneRow_126 rfl (lv_at hl 3 rfl) ?_
                refine lv_bipush (v := iv 7) hx hb dX12_oneRow_127 (by decide) ?_
                refine lv_iload_n hx hb dX12_oneRow_129 rfl (lv_at hl 4 rfl) ?_
                refine sBv (sV (As := [.int (iv 7), .int (iv tk)]) (rest := []) (k := 231) Cx (s_X12_wrong l G S57 (cd := 7) (tk := tk) hI57 (by omega) (by omega)) (c_X12_321 Cx rfl rfl (rmk_ok (by omega) (by decide))) hW (by decide) rfl rfl rfl hl.1 rfl (Nat.le_of_ble_eq_true rfl) dX12_oneRow_130 ⟨Nat.le_of_ble_eq_true rfl, Nat.le_of_ble_eq_true rfl⟩) hL (fun u_147 H locs k_148 hW hL => ?_)
                obtain ⟨iu_147, fu_147, gu_147, xu_147⟩ := k_148
                have F_149 := hFm57.trans (fu_147.to (pl_sub (by decide)))
                have g_150 : FF S u_147 (fl [20, 21, 24, 25, 36, 42, 43]) := FF.trans hGm57 (FF.to gu_147 (fl_sub (by decide)))
                refine lv_aload_n hx hb dX12_oneRow_133 rfl (lv_at hl 3 rfl) ?_
                have q_152 : (-2147483648) ≤ u_147.1 231 20 ∧ u_147.1 231 20 ≤ 2147483647 := iu_147.fi 20
                refine g_X12_270 Cx hW (k := 231) (by decide) rfl (v := u_147.1 231 20) rfl dX12_oneRow_134 ?_
                refine r_if_eq (tgt := 141) hx hb ⟨(by omega), (by omega)⟩ dX12_oneRow_137 (by decide) (fun c => absurd c (by omega)) (fun _ => ?_)
                have q_153 : (-2147483648) ≤ u_18.1 231 25 ∧ u_18.1 231 25 ≤ 2147483647 := iu_18.fi 25
                have lk_154 : u_147.1 231 25 = u_18.1 231 25 := (gu_147 25 rfl).trans ((gL57_ 25 rfl).trans (uF_ne (fun h => absurd h.2 (by decide))))
                have lk_155 : u_147.1 231 24 = (u_18.1 231 24) + 1 := (gu_147 24 rfl).trans ((gL57_ 24 rfl).trans (uF_on))
                have lk_156 : u_147.1 231 36 = S.1 231 36 := (gu_147 36 rfl).trans ((gL57_ 36 rfl).trans ((uF_ne (fun h => absurd h.2 (by decide))).trans ((gu_18 36 rfl).trans ((uF_ne (fun h => absurd h.2 (by decide))).trans (gu_4 36 rfl)))))
                exact sVret Cx hr hlk hW hL ⟨iu_147, F_149, g_150, ⟨(NR.trans (NR.trans (NR.trans xu_4.2.1 (NR.eq (S := u_4) (u := (uF u_4 231 24 ((u_4.1 231 24) + 1))) (funext fun j => uF_a) (funext fun j => uF_a) (funext fun j => uF_a) (funext fun j => uF_a) (funext fun j => uF_a))) (NR.mono xu_18.2.1 (by have y := xu_4.2.2.1; omega))) (NR.eq (S := u_18) (u := u_147) (funext fun j => ((fu_147 248 rfl).2.1 j).trans (((hL57_ 248 rfl).2.1 j).trans (uF_a))) (funext fun j => ((fu_147 249 rfl).2.1 j).trans (((hL57_ 249 rfl).2.1 j).trans (uF_a))) (funext fun j => ((fu_147 250 rfl).2.1 j).trans (((hL57_ 250 rfl).2.1 j).trans (uF_a))) (funext fun j => ((fu_147 251 rfl).2.1 j).trans (((hL57_ 251 rfl).2.1 j).trans (uF_a))) (funext fun j => ((fu_147 252 rfl).2.1 j).trans (((hL57_ 252 rfl).2.1 j).trans (uF_a))))), (by have e7 := (show u_147.1 231 24 = (u_18.1 231 24) + 1 from (gu_147 24 rfl).trans ((gL57_ 24 rfl).trans (uF_on))); have e6 := (show u_147.1 231 25 = u_18.1 231 25 from (gu_147 25 rfl).trans ((gL57_ 25 rfl).trans (uF_ne (fun h => absurd h.2 (by decide))))); have e8 := (show u_147.1 231 20 = u_147.1 231 20 from rfl); have y1 := xu_4.2.2.1; have y2 := xu_18.2.2.1; omega), (fun x => by rw [show u_147.2.2.1 255 x = S.2.2.1 255 x from ((fu_147 255 rfl).2.2.1 x).trans (((hL57_ 255 rfl).2.2.1 x).trans ((uF_l).trans (((fu_18 255 rfl).2.2.1 x).trans ((uF_l).trans ((fu_4 255 rfl).2.2.1 x)))))]; exact hRB x), (fun h => absurd h (by have e9 := (show u_147.1 231 20 = u_147.1 231 20 from rfl); have a9 := xu_147; omega))⟩⟩ dX12_oneRow_140
          · refine lv_aload_n hx hb dX12_oneRow_98 rfl (lv_at hl 3 rfl) ?_
            refine lv_bipush (v := iv 6) hx hb dX12_oneRow_99 (by decide) ?_
            refine lv_iload_n hx hb dX12_oneRow_101 rfl (lv_at hl 2 rfl) ?_
            refine sBv (sV (As := [.int (iv 6), .int (iv (u_4.1 231 24))]) (rest := []) (k := 231) Cx (s_X12_wrong l G S57 (cd := 6) (tk := u_4.1 231 24) hI57 (by omega) (by omega)) (c_X12_321 Cx rfl rfl (rmk_ok (by omega) (by decide))) hW (by decide) rfl rfl rfl hl.1 rfl (Nat.le_of_ble_eq_true rfl) dX12_oneRow_102 ⟨Nat.le_of_ble_eq_true rfl, Nat.le_of_ble_eq_true rfl⟩) hL (fun u_157 H locs k_158 hW hL => ?_)
            obtain ⟨iu_157, fu_157, gu_157, xu_157⟩ := k_158
            have F_159 := hFm57.trans (fu_157.to (pl_sub (by decide)))
            have g_160 : FF S u_157 (fl [20, 21, 24, 25, 36, 42, 43]) := FF.trans hGm57 (FF.to gu_157 (fl_sub (by decide)))
            refine lv_aload_n hx hb dX12_oneRow_105 rfl (lv_at hl 3 rfl) ?_
            have q_162 : (-2147483648) ≤ S.1 231 36 ∧ S.1 231 36 ≤ 2147483647 := hI.fi 36
            refine g_X12_382 Cx hW (k := 231) (by decide) rfl (v := S.1 231 36) ((gu_157 36 rfl).trans ((gL57_ 36 rfl).trans ((uF_ne (fun h => absurd h.2 (by decide))).trans ((gu_18 36 rfl).trans ((uF_ne (fun h => absurd h.2 (by decide))).trans (gu_4 36 rfl)))))) dX12_oneRow_106 ?_
            refine lv_iload_n hx hb dX12_oneRow_109 rfl (lv_at hl 1 rfl) ?_
            refine lv_bipush (v := iv 61) hx hb dX12_oneRow_110 (by decide) ?_
            refine r_icmp_ne (tgt := 119) hx hb ⟨(by omega), (by omega)⟩ ⟨(by omega), (by omega)⟩ dX12_oneRow_112 (by decide) (fun c_163 => ?_) (fun c_163 => ?_)
            · refine lv_iconst (v := iv 1) hx hb dX12_oneRow_119 (by decide) ?_
              refine r_iadd hx hb dX12_oneRow_120 ?_
              refine lv_bipush (v := iv 16) hx hb dX12_oneRow_121 (by decide) ?_
              refine r_icmp_le (tgt := 133) hx hb ⟨(by omega), (by omega)⟩ ⟨(by omega), (by omega)⟩ dX12_oneRow_123 (by decide) (fun c_164 => ?_) (fun c_164 => ?_)
              · refine lv_aload_n hx hb dX12_oneRow_133 rfl (lv_at hl 3 rfl) ?_
                have q_165 : (-2147483648) ≤ u_157.1 231 20 ∧ u_157.1 231 20 ≤ 2147483647 := iu_157.fi 20
                refine g_X12_270 Cx hW (k := 231) (by decide) rfl (v := u_157.1 231 20) rfl dX12_oneRow_134 ?_
                refine r_if_eq (tgt := 141) hx hb ⟨(by omega), (by omega)⟩ dX12_oneRow_137 (by decide) (fun c => absurd c (by omega)) (fun _ => ?_)
                have q_166 : (-2147483648) ≤ u_18.1 231 25 ∧ u_18.1 231 25 ≤ 2147483647 := iu_18.fi 25
                have lk_167 : u_157.1 231 25 = u_18.1 231 25 := (gu_157 25 rfl).trans ((gL57_ 25 rfl).trans (uF_ne (fun h => absurd h.2 (by decide))))
                have lk_168 : u_157.1 231 24 = (u_18.1 231 24) + 1 := (gu_157 24 rfl).trans ((gL57_ 24 rfl).trans (uF_on))
                have lk_169 : u_157.1 231 36 = S.1 231 36 := (gu_157 36 rfl).trans ((gL57_ 36 rfl).trans ((uF_ne (fun h => absurd h.2 (by decide))).trans ((gu_18 36 rfl).trans ((uF_ne (fun h => absurd h.2 (by decide))).trans (gu_4 36 rfl)))))
                exact sVret Cx hr hlk hW hL ⟨iu_157, F_159, g_160, ⟨(NR.trans (NR.trans (NR.trans xu_4.2.1 (NR.eq (S := u_4) (u := (uF u_4 231 24 ((u_4.1 231 24) + 1))) (funext fun j => uF_a) (funext fun j => uF_a) (funext fun j => uF_a) (funext fun j => uF_a) (funext fun j => uF_a))) (NR.mono xu_18.2.1 (by have y := xu_4.2.2.1; omega))) (NR.eq (S := u_18) (u := u_157) (funext fun j => ((fu_157 248 rfl).2.1 j).trans (((hL57_ 248 rfl).2.1 j).trans (uF_a))) (funext fun j => ((fu_157 249 rfl).2.1 j).trans (((hL57_ 249 rfl).2.1 j).trans (uF_a))) (funext fun j => ((fu_157 250 rfl).2.1 j).trans (((hL57_ 250 rfl).2.1 j).trans (uF_a))) (funext fun j => ((fu_157 251 rfl).2.1 j).trans (((hL57_ 251 rfl).2.1 j).trans (uF_a))) (funext fun j => ((fu_157 252 rfl).2.1 j).trans (((hL57_ 252 rfl).2.1 j).trans (uF_a))))), (by have e7 := (show u_157.1 231 24 = (u_18.1 231 24) + 1 from (gu_157 24 rfl).trans ((gL57_ 24 rfl).trans (uF_on))); have e6 := (show u_157.1 231 25 = u_18.1 231 25 from (gu_157 25 rfl).trans ((gL57_ 25 rfl).trans (uF_ne (fun h => absurd h.2 (by decide))))); have e8 := (show u_157.1 231 20 = u_157.1 231 20 from rfl); have y1 := xu_4.2.2.1; have y2 := xu_18.2.2.1; omega), (fun x => by rw [show u_157.2.2.1 255 x = S.2.2.1 255 x from ((fu_157 255 rfl).2.2.1 x).trans (((hL57_ 255 rfl).2.2.1 x).trans ((uF_l).trans (((fu_18 255 rfl).2.2.1 x).trans ((uF_l).trans ((fu_4 255 rfl).2.2.1 x)))))]; exact hRB x), (fun h => absurd h (by have e9 := (show u_157.1 231 20 = u_157.1 231 20 from rfl); have a9 := xu_157; omega))⟩⟩ dX12_oneRow_140
              · refine lv_aload_n hx hb dX12_oneRow_126 rfl (lv_at hl 3 rfl) ?_
                refine lv_bipush (v := iv 7) hx hb dX12_oneRow_127 (by decide) ?_
                refine lv_iload_n hx hb dX12_oneRow_129 rfl (lv_at hl 4 rfl) ?_
                refine sBv (sV (As := [.int (iv 7), .int (iv tk)]) (rest := []) (k := 231) Cx (s_X12_wrong l G u_157 (cd := 7) (tk := tk) iu_157 (by omega) (by omega)) (c_X12_321 Cx rfl rfl (rmk_ok (by omega) (by decide))) hW (by decide) rfl rfl rfl hl.1 rfl (Nat.le_of_ble_eq_true rfl) dX12_oneRow_130 ⟨Nat.le_of_ble_eq_true rfl, Nat.le_of_ble_eq_true rfl⟩) hL (fun u_170 H locs k_171 hW hL => ?_)
                obtain ⟨iu_170, fu_170, gu_170, xu_170⟩ := k_171
                have F_172 := F_159.trans (fu_170.to (pl_sub (by decide)))
                have g_173 : FF S u_170 (fl [20, 21, 24, 25, 36, 42, 43]) := FF.trans g_160 (FF.to gu_170 (fl_sub (by decide)))
                refine lv_aload_n hx hb dX12_oneRow_133 rfl (lv_at hl 3 rfl) ?_
                have q_174 : (-2147483648) ≤ u_170.1 231 20 ∧ u_170.1 231 20 ≤ 2147483647 := iu_170.fi 20
                refine g_X12_270 Cx hW (k := 231) (by decide) rfl (v := u_170.1 231 20) rfl dX12_oneRow_134 ?_
                refine r_if_eq (tgt := 141) hx hb ⟨(by omega), (by omega)⟩ dX12_oneRow_137 (by decide) (fun c => absurd c (by omega)) (fun _ => ?_)
                have q_175 : (-2147483648) ≤ u_18.1 231 25 ∧ u_18.1 231 25 ≤ 2147483647 := iu_18.fi 25
                have lk_176 : u_170.1 231 25 = u_18.1 231 25 := (gu_170 25 rfl).trans ((gu_157 25 rfl).trans ((gL57_ 25 rfl).trans (uF_ne (fun h => absurd h.2 (by decide)))))
                have lk_177 : u_170.1 231 24 = (u_18.1 231 24) + 1 := (gu_170 24 rfl).trans ((gu_157 24 rfl).trans ((gL57_ 24 rfl).trans (uF_on)))
                have lk_178 : u_170.1 231 36 = S.1 231 36 := (gu_170 36 rfl).trans ((gu_157 36 rfl).trans ((gL57_ 36 rfl).trans ((uF_ne (fun h => absurd h.2 (by decide))).trans ((gu_18 36 rfl).trans ((uF_ne (fun h => absurd h.2 (by decide))).trans (gu_4 36 rfl))))))
                exact sVret Cx hr hlk hW hL ⟨iu_170, F_172, g_173, ⟨(NR.trans (NR.trans (NR.trans xu_4.2.1 (NR.eq (S := u_4) (u := (uF u_4 231 24 ((u_4.1 231 24) + 1))) (funext fun j => uF_a) (funext fun j => uF_a) (funext fun j => uF_a) (funext fun j => uF_a) (funext fun j => uF_a))) (NR.mono xu_18.2.1 (by have y := xu_4.2.2.1; omega))) (NR.eq (S := u_18) (u := u_170) (funext fun j => ((fu_170 248 rfl).2.1 j).trans (((fu_157 248 rfl).2.1 j).trans (((hL57_ 248 rfl).2.1 j).trans (uF_a)))) (funext fun j => ((fu_170 249 rfl).2.1 j).trans (((fu_157 249 rfl).2.1 j).trans (((hL57_ 249 rfl).2.1 j).trans (uF_a)))) (funext fun j => ((fu_170 250 rfl).2.1 j).trans (((fu_157 250 rfl).2.1 j).trans (((hL57_ 250 rfl).2.1 j).trans (uF_a)))) (funext fun j => ((fu_170 251 rfl).2.1 j).trans (((fu_157 251 rfl).2.1 j).trans (((hL57_ 251 rfl).2.1 j).trans (uF_a)))) (funext fun j => ((fu_170 252 rfl).2.1 j).trans (((fu_157 252 rfl).2.1 j).trans (((hL57_ 252 rfl).2.1 j).trans (uF_a)))))), (by have e7 := (show u_170.1 231 24 = (u_18.1 231 24) + 1 from (gu_170 24 rfl).trans ((gu_157 24 rfl).trans ((gL57_ 24 rfl).trans (uF_on)))); have e6 := (show u_170.1 231 25 = u_18.1 231 25 from (gu_170 25 rfl).trans ((gu_157 25 rfl).trans ((gL57_ 25 rfl).trans (uF_ne (fun h => absurd h.2 (by decide)))))); have e8 := (show u_170.1 231 20 = u_170.1 231 20 from rfl); have y1 := xu_4.2.2.1; have y2 := xu_18.2.2.1; omega), (fun x => by rw [show u_170.2.2.1 255 x = S.2.2.1 255 x from ((fu_170 255 rfl).2.2.1 x).trans (((fu_157 255 rfl).2.2.1 x).trans (((hL57_ 255 rfl).2.2.1 x).trans ((uF_l).trans (((fu_18 255 rfl).2.2.1 x).trans ((uF_l).trans ((fu_4 255 rfl).2.2.1 x))))))]; exact hRB x), (fun h => absurd h (by have e9 := (show u_170.1 231 20 = u_170.1 231 20 from rfl); have a9 := xu_170; omega))⟩⟩ dX12_oneRow_140
            · refine lv_iconst (v := iv 2) hx hb dX12_oneRow_115 (by decide) ?_
              refine lv_goto (tgt := 120) hx hb dX12_oneRow_116 (by decide) ?_
              refine r_iadd hx hb dX12_oneRow_120 ?_
              refine lv_bipush (v := iv 16) hx hb dX12_oneRow_121 (by decide) ?_
              refine r_icmp_le (tgt := 133) hx hb ⟨(by omega), (by omega)⟩ ⟨(by omega), (by omega)⟩ dX12_oneRow_123 (by decide) (fun c_179 => ?_) (fun c_179 => ?_)
              · refine lv_aload_n hx hb dX12_oneRow_133 rfl (lv_at hl 3 rfl) ?_
                have q_180 : (-2147483648) ≤ u_157.1 231 20 ∧ u_157.1 231 20 ≤ 2147483647 := iu_157.fi 20
                refine g_X12_270 Cx hW (k := 231) (by decide) rfl (v := u_157.1 231 20) rfl dX12_oneRow_134 ?_
                refine r_if_eq (tgt := 141) hx hb ⟨(by omega), (by omega)⟩ dX12_oneRow_137 (by decide) (fun c => absurd c (by omega)) (fun _ => ?_)
                have q_181 : (-2147483648) ≤ u_18.1 231 25 ∧ u_18.1 231 25 ≤ 2147483647 := iu_18.fi 25
                have lk_182 : u_157.1 231 25 = u_18.1 231 25 := (gu_157 25 rfl).trans ((gL57_ 25 rfl).trans (uF_ne (fun h => absurd h.2 (by decide))))
                have lk_183 : u_157.1 231 24 = (u_18.1 231 24) + 1 := (gu_157 24 rfl).trans ((gL57_ 24 rfl).trans (uF_on))
                have lk_184 : u_157.1 231 36 = S.1 231 36 := (gu_157 36 rfl).trans ((gL57_ 36 rfl).trans ((uF_ne (fun h => absurd h.2 (by decide))).trans ((gu_18 36 rfl).trans ((uF_ne (fun h => absurd h.2 (by decide))).trans (gu_4 36 rfl)))))
                exact sVret Cx hr hlk hW hL ⟨iu_157, F_159, g_160, ⟨(NR.trans (NR.trans (NR.trans xu_4.2.1 (NR.eq (S := u_4) (u := (uF u_4 231 24 ((u_4.1 231 24) + 1))) (funext fun j => uF_a) (funext fun j => uF_a) (funext fun j => uF_a) (funext fun j => uF_a) (funext fun j => uF_a))) (NR.mono xu_18.2.1 (by have y := xu_4.2.2.1; omega))) (NR.eq (S := u_18) (u := u_157) (funext fun j => ((fu_157 248 rfl).2.1 j).trans (((hL57_ 248 rfl).2.1 j).trans (uF_a))) (funext fun j => ((fu_157 249 rfl).2.1 j).trans (((hL57_ 249 rfl).2.1 j).trans (uF_a))) (funext fun j => ((fu_157 250 rfl).2.1 j).trans (((hL57_ 250 rfl).2.1 j).trans (uF_a))) (funext fun j => ((fu_157 251 rfl).2.1 j).trans (((hL57_ 251 rfl).2.1 j).trans (uF_a))) (funext fun j => ((fu_157 252 rfl).2.1 j).trans (((hL57_ 252 rfl).2.1 j).trans (uF_a))))), (by have e7 := (show u_157.1 231 24 = (u_18.1 231 24) + 1 from (gu_157 24 rfl).trans ((gL57_ 24 rfl).trans (uF_on))); have e6 := (show u_157.1 231 25 = u_18.1 231 25 from (gu_157 25 rfl).trans ((gL57_ 25 rfl).trans (uF_ne (fun h => absurd h.2 (by decide))))); have e8 := (show u_157.1 231 20 = u_157.1 231 20 from rfl); have y1 := xu_4.2.2.1; have y2 := xu_18.2.2.1; omega), (fun x => by rw [show u_157.2.2.1 255 x = S.2.2.1 255 x from ((fu_157 255 rfl).2.2.1 x).trans (((hL57_ 255 rfl).2.2.1 x).trans ((uF_l).trans (((fu_18 255 rfl).2.2.1 x).trans ((uF_l).trans ((fu_4 255 rfl).2.2.1 x)))))]; exact hRB x), (fun h => absurd h (by have e9 := (show u_157.1 231 20 = u_157.1 231 20 from rfl); have a9 := xu_157; omega))⟩⟩ dX12_oneRow_140
              · refine lv_aload_n hx hb dX12_oneRow_126 rfl (lv_at hl 3 rfl) ?_
                refine lv_bipush (v := iv 7) hx hb dX12_oneRow_127 (by decide) ?_
                refine lv_iload_n hx hb dX12_oneRow_129 rfl (lv_at hl 4 rfl) ?_
                refine sBv (sV (As := [.int (iv 7), .int (iv tk)]) (rest := []) (k := 231) Cx (s_X12_wrong l G u_157 (cd := 7) (tk := tk) iu_157 (by omega) (by omega)) (c_X12_321 Cx rfl rfl (rmk_ok (by omega) (by decide))) hW (by decide) rfl rfl rfl hl.1 rfl (Nat.le_of_ble_eq_true rfl) dX12_oneRow_130 ⟨Nat.le_of_ble_eq_true rfl, Nat.le_of_ble_eq_true rfl⟩) hL (fun u_185 H locs k_186 hW hL => ?_)
                obtain ⟨iu_185, fu_185, gu_185, xu_185⟩ := k_186
                have F_187 := F_159.trans (fu_185.to (pl_sub (by decide)))
                have g_188 : FF S u_185 (fl [20, 21, 24, 25, 36, 42, 43]) := FF.trans g_160 (FF.to gu_185 (fl_sub (by decide)))
                refine lv_aload_n hx hb dX12_oneRow_133 rfl (lv_at hl 3 rfl) ?_
                have q_189 : (-2147483648) ≤ u_185.1 231 20 ∧ u_185.1 231 20 ≤ 2147483647 := iu_185.fi 20
                refine g_X12_270 Cx hW (k := 231) (by decide) rfl (v := u_185.1 231 20) rfl dX12_oneRow_134 ?_
                refine r_if_eq (tgt := 141) hx hb ⟨(by omega), (by omega)⟩ dX12_oneRow_137 (by decide) (fun c => absurd c (by omega)) (fun _ => ?_)
                have q_190 : (-2147483648) ≤ u_18.1 231 25 ∧ u_18.1 231 25 ≤ 2147483647 := iu_18.fi 25
                have lk_191 : u_185.1 231 25 = u_18.1 231 25 := (gu_185 25 rfl).trans ((gu_157 25 rfl).trans ((gL57_ 25 rfl).trans (uF_ne (fun h => absurd h.2 (by decide)))))
                have lk_192 : u_185.1 231 24 = (u_18.1 231 24) + 1 := (gu_185 24 rfl).trans ((gu_157 24 rfl).trans ((gL57_ 24 rfl).trans (uF_on)))
                have lk_193 : u_185.1 231 36 = S.1 231 36 := (gu_185 36 rfl).trans ((gu_157 36 rfl).trans ((gL57_ 36 rfl).trans ((uF_ne (fun h => absurd h.2 (by decide))).trans ((gu_18 36 rfl).trans ((uF_ne (fun h => absurd h.2 (by decide))).trans (gu_4 36 rfl))))))
                exact sVret Cx hr hlk hW hL ⟨iu_185, F_187, g_188, ⟨(NR.trans (NR.trans (NR.trans xu_4.2.1 (NR.eq (S := u_4) (u := (uF u_4 231 24 ((u_4.1 231 24) + 1))) (funext fun j => uF_a) (funext fun j => uF_a) (funext fun j => uF_a) (funext fun j => uF_a) (funext fun j => uF_a))) (NR.mono xu_18.2.1 (by have y := xu_4.2.2.1; omega))) (NR.eq (S := u_18) (u := u_185) (funext fun j => ((fu_185 248 rfl).2.1 j).trans (((fu_157 248 rfl).2.1 j).trans (((hL57_ 248 rfl).2.1 j).trans (uF_a)))) (funext fun j => ((fu_185 249 rfl).2.1 j).trans (((fu_157 249 rfl).2.1 j).trans (((hL57_ 249 rfl).2.1 j).trans (uF_a)))) (funext fun j => ((fu_185 250 rfl).2.1 j).trans (((fu_157 250 rfl).2.1 j).trans (((hL57_ 250 rfl).2.1 j).trans (uF_a)))) (funext fun j => ((fu_185 251 rfl).2.1 j).trans (((fu_157 251 rfl).2.1 j).trans (((hL57_ 251 rfl).2.1 j).trans (uF_a)))) (funext fun j => ((fu_185 252 rfl).2.1 j).trans (((fu_157 252 rfl).2.1 j).trans (((hL57_ 252 rfl).2.1 j).trans (uF_a)))))), (by have e7 := (show u_185.1 231 24 = (u_18.1 231 24) + 1 from (gu_185 24 rfl).trans ((gu_157 24 rfl).trans ((gL57_ 24 rfl).trans (uF_on)))); have e6 := (show u_185.1 231 25 = u_18.1 231 25 from (gu_185 25 rfl).trans ((gu_157 25 rfl).trans ((gL57_ 25 rfl).trans (uF_ne (fun h => absurd h.2 (by decide)))))); have e8 := (show u_185.1 231 20 = u_185.1 231 20 from rfl); have y1 := xu_4.2.2.1; have y2 := xu_18.2.2.1; omega), (fun x => by rw [show u_185.2.2.1 255 x = S.2.2.1 255 x from ((fu_185 255 rfl).2.2.1 x).trans (((fu_157 255 rfl).2.2.1 x).trans (((hL57_ 255 rfl).2.2.1 x).trans ((uF_l).trans (((fu_18 255 rfl).2.2.1 x).trans ((uF_l).trans ((fu_4 255 rfl).2.2.1 x))))))]; exact hRB x), (fun h => absurd h (by have e9 := (show u_185.1 231 20 = u_185.1 231 20 from rfl); have a9 := xu_185; omega))⟩⟩ dX12_oneRow_140
        · refine lv_aload_n hx hb dX12_oneRow_64 rfl (lv_at hl 3 rfl) ?_
          refine g_X12_88 Cx hW (k := 231) (by decide) rfl (v := .ref (G.2.2.1 + 257)) (rd_41 hI57) dX12_oneRow_65 ?_
          refine lv_iload hx hb dX12_oneRow_68 (lv_at hl 0 rfl) ?_
          refine lv_dup2_11 hx hb dX12_oneRow_70 rfl rfl ?_
          refine rLald Cx hW (k := 257) (by decide) rfl (by decide) (by omega) (by omega) dX12_oneRow_71 ?_
          have q_194 : -9223372036854775808 ≤ S57.2.2.1 257 k ∧ S57.2.2.1 257 k ≤ 9223372036854775807 := hI57.li 257 k
          refine r_j (b := S57.2.2.1 257 k) rfl ?_
          refine lv_aload_n hx hb dX12_oneRow_72 rfl (lv_at hl 3 rfl) ?_
          refine g_X12_88 Cx hW (k := 231) (by decide) rfl (v := .ref (G.2.2.1 + 257)) (rd_41 hI57) dX12_oneRow_73 ?_
          refine lv_bipush (v := iv 13) hx hb dX12_oneRow_76 (by decide) ?_
          refine lv_iload hx hb dX12_oneRow_78 (lv_at hl 0 rfl) ?_
          refine r_iadd hx hb dX12_oneRow_80 ?_
          refine rLald Cx hW (k := 257) (by decide) rfl (by decide) (by omega) (by omega) dX12_oneRow_81 ?_
          have q_195 : -9223372036854775808 ≤ S57.2.2.1 257 (13 + k) ∧ S57.2.2.1 257 (13 + k) ≤ 9223372036854775807 := hI57.li 257 (13 + k)
          refine r_j (b := S57.2.2.1 257 (13 + k)) rfl ?_
          refine r_lsub hx hb dX12_oneRow_82 ?_
          obtain ⟨z_196, ez_196, hz_196, kz_196⟩ := jv_of (jv ((S57.2.2.1 257 k) - (S57.2.2.1 257 (13 + k))))
          rw [ez_196]
          refine rLast Cx hW hL (k := 257) (by decide) rfl (by decide) (by omega) (by omega) dX12_oneRow_83 (fun H locs hW hL => ?_)
          have F_197 : Fr S (uL S57 257 k z_196) (pl [231, 248, 249, 250, 251, 252, 255, 257, 258]) := hFm57.L rfl
          have F_198 : Fr ((uF u_18 231 24 ((u_18.1 231 24) + 1))) (uL S57 257 k z_196) (pl [257]) := hL57_.L rfl
          have i_199 : dX G (uL S57 257 k z_196) := hI57.L ⟨by omega, by omega⟩
          refine lv_iinc (v := iv (k + 1)) (lv' := [(4, .int (iv (k + 1))), (3, .int (iv (S.2.1 247 (u_4.1 231 24)))), (2, .int (iv (u_4.1 231 24))), (0, .ref (G.2.2.1 + 231)), (1, .int (iv tk))]) hx hb dX12_oneRow_84 hl (k := 0) rfl ((Int32.ofInt_add _ _).symm) (by decide) rfl (fun ls hl => ?_)
          refine lv_goto (tgt := 57) hx hb dX12_oneRow_87 (by decide) ?_
          exact ih_57 (uL S57 257 k z_196) (k + 1) _ _ _ (by omega) i_199 F_197 F_198 hGm57 gL57_ (by omega) hW hL (lv_sub hl [0, 1, 2, 3, 4] rfl)
    exact loop_57 (_ + 1) (uF u_18 231 24 ((u_18.1 231 24) + 1)) 0 _ _ _ (Nat.lt_succ_self _) i_27 F_25 Fr.rf g_26 FF.rf (by omega) hW hL (lv_sub hl [0, 1, 2, 3, 4] rfl)
  · have q_200 : (-2147483648) ≤ u_18.1 231 25 ∧ u_18.1 231 25 ≤ 2147483647 := iu_18.fi 25
    have q_201 : (-2147483648) ≤ u_18.1 231 24 ∧ u_18.1 231 24 ≤ 2147483647 := iu_18.fi 24
    have q_202 : (-2147483648) ≤ S.1 231 36 ∧ S.1 231 36 ≤ 2147483647 := hI.fi 36
    have lk_203 : u_18.1 231 36 = S.1 231 36 := (gu_18 36 rfl).trans ((uF_ne (fun h => absurd h.2 (by decide))).trans (gu_4 36 rfl))
    exact sVret Cx hr hlk hW hL ⟨iu_18, F_20, g_21, ⟨(NR.trans (NR.trans xu_4.2.1 (NR.eq (S := u_4) (u := (uF u_4 231 24 ((u_4.1 231 24) + 1))) (funext fun j => uF_a) (funext fun j => uF_a) (funext fun j => uF_a) (funext fun j => uF_a) (funext fun j => uF_a))) (NR.mono xu_18.2.1 (by have y := xu_4.2.2.1; omega))), (by have e7 := (show u_18.1 231 24 = u_18.1 231 24 from rfl); have e6 := (show u_18.1 231 25 = u_18.1 231 25 from rfl); have e8 := (show u_18.1 231 20 = u_18.1 231 20 from rfl); have y1 := xu_4.2.2.1; have y2 := xu_18.2.2.1; omega), (fun x => by rw [show u_18.2.2.1 255 x = S.2.2.1 255 x from ((fu_18 255 rfl).2.2.1 x).trans ((uF_l).trans ((fu_4 255 rfl).2.2.1 x))]; exact hRB x), (fun h => absurd h (by have e9 := (show u_18.1 231 20 = u_18.1 231 20 from rfl); omega))⟩⟩ dX12_oneRow_43
