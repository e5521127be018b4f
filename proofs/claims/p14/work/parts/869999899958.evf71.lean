set_option maxRecDepth 100000 in
set_option maxHeartbeats 4000000 in
theorem f_X12_oneRow (l : Launch) (G : sG) (S : sS) {N : sN} {k v : Int → Int} {T pz q tk : Int} (hI : dX G S) (hkr : Hd (KRr S k v T)) (hNr : Hd (NRr N k v S)) (hK_ : Hd (NK N)) (hTV : Hd (TVn k v)) (hf0 : S.1 231 20 = 0) (hc : S.1 231 24 = pz) (hlk : 0 ≤ S.1 231 42 ∧ S.1 231 42 ≤ 20000) (h36 : 0 ≤ S.1 231 36 ∧ S.1 231 36 ≤ 16) (hnm : N.1 + 30 ≤ 128) (hgr : Hd (gR1 T k pz q)) (hpq : 0 ≤ pz ∧ q ≤ T - 1) (htk : 0 ≤ tk ∧ tk < T) (hRB : Hd (RBu S)) : Met l yX12_oneRow (.code yX12_oneRow cX12_oneRow 8 none :: tb) (rmk 136 0 0) (sPc G 294 S [.ref (G.2.2.1 + 231), .int (iv tk)]) (sQv G 294 (fun u => dX G u ∧ Fr S u (pl [231, 248, 249, 250, 251, 252, 255, 257, 258]) ∧ FF S u (fl [20, 21, 24, 25, 36, 42, 43]) ∧ (ROr S u N k v q (eRo T k v N (S.1 231 36) (S.1 231 42) pz) ∧ Hd (u.1 231 20 = 0 → ∀ X, XAr S 1 X → XAr u 1 (aRo T k v N X.1 (S.1 231 36) (S.1 231 42) pz, X.2))))) 0 0 (sF G) := by
  refine sEnter (by decide) (Nat.le_of_ble_eq_true rfl) ?_
  intro p e s m args below meth c Cx hr hlk hnm hW ls hl
  have Cx : sC G p m c cX12_oneRow 8 s args RX12 := Cx
  obtain ⟨hx, hb, hml, hown, hts⟩ := id Cx.1
  have hL : sL G [] := sL_nil
  have hl : lv_has ls 8 [(0, .ref (G.2.2.1 + 231)), (1, .int (iv tk))] := hl
  have hW0 := hW
  obtain ⟨K, hK⟩ : ∃ z, S.2.1 244 = z := ⟨_, rfl⟩
  obtain ⟨V, hV⟩ : ∃ z, S.2.1 247 = z := ⟨_, rfl⟩
  obtain ⟨Fm, hFm⟩ : ∃ z, S.2.1 245 = z := ⟨_, rfl⟩
  obtain ⟨Wd, hWd⟩ : ∃ z, S.2.1 246 = z := ⟨_, rfl⟩
  have hkk : kr K V T = k := (by rw [← hK, ← hV]; exact hkr.1)
  have hTb := hkr.2.1
  have hN1 := hNr.1
  obtain ⟨a1, b1, hg1, hks, hg2, hk15, hqb⟩ := hgr
  have ha1 := ogU_inc (ogF_inc 30) _ _ hg1
  have hb1 := ogU_inc (ogF_inc 30) _ _ hg2
  have hks : Hd _ := hks
  refine lv_aload_n hx hb dX12_oneRow_0 rfl (lv_at hl 0 rfl) ?_
  refine lv_iconst (v := iv 0) hx hb dX12_oneRow_1 (by decide) ?_
  have q_1 : (-2147483648) ≤ S.1 231 20 ∧ S.1 231 20 ≤ 2147483647 := hI.fi 20
  have q_2 : (-2147483648) ≤ S.1 231 24 ∧ S.1 231 24 ≤ 2147483647 := hI.fi 24
  have q_3 : (-2147483648) ≤ S.1 231 42 ∧ S.1 231 42 ≤ 2147483647 := hI.fi 42
  refine sBv (sV (As := [.int (iv 0)]) (rest := []) (k := 231) Cx (exU l G S N k v T (pz) a1 0 hI ⟨hNr, hK_, hTV, hkr, (by omega), (by omega), (by omega), ⟨by omega, by omega⟩⟩ (by omega) (by omega) (by omega) hg1) (c_X12_398 Cx rfl rfl (rmk_ok (by omega) (by decide))) hW (by decide) rfl rfl rfl hl.1 rfl (Nat.le_of_ble_eq_true rfl) dX12_oneRow_2 ⟨Nat.le_of_ble_eq_true rfl, Nat.le_of_ble_eq_true rfl⟩) hL (fun u_4 H locs k_5 hW hL => ?_)
  obtain ⟨iu_4, fu_4, gu_4, xu_4, yu_4⟩ := k_5
  have F_6 := (Fr.rf : Fr S S (pl [231, 248, 249, 250, 251, 252, 255, 257, 258])).trans (fu_4.to (pl_sub (by decide)))
  have g_7 : FF S u_4 (fl [20, 21, 24, 25, 36, 42, 43]) := FF.trans FF.rf (FF.to gu_4 (fl_sub (by decide)))
  refine lv_aload_n hx hb dX12_oneRow_5 rfl (lv_at hl 0 rfl) ?_
  have q_8 : (-2147483648) ≤ u_4.1 231 24 ∧ u_4.1 231 24 ≤ 2147483647 := iu_4.fi 24
  refine g_X12_315 Cx hW (k := 231) (by decide) rfl (v := u_4.1 231 24) rfl dX12_oneRow_6 ?_
  refine lv_istore_n (lv' := [(2, .int (iv (u_4.1 231 24))), (0, .ref (G.2.2.1 + 231)), (1, .int (iv tk))]) hx hb dX12_oneRow_9 rfl hl (by decide) rfl (fun ls hl => ?_)
  refine lv_aload_n hx hb dX12_oneRow_10 rfl (lv_at hl 1 rfl) ?_
  refine g_X12_56 Cx hW (k := 231) (by decide) rfl (v := .ref (G.2.2.1 + 247)) (rd_18 iu_4) dX12_oneRow_11 ?_
  refine lv_aload_n hx hb dX12_oneRow_14 rfl (lv_at hl 1 rfl) ?_
  refine g_X12_315 Cx hW (k := 231) (by decide) rfl (v := u_4.1 231 24) rfl dX12_oneRow_15 ?_
  refine rIald Cx hW (k := 247) (by decide) rfl (by decide) (by omega) (by omega) dX12_oneRow_18 ?_
  have q_9 : (-2147483648) ≤ S.2.1 247 (u_4.1 231 24) ∧ S.2.1 247 (u_4.1 231 24) ≤ 2147483647 := hI.ai 247 (u_4.1 231 24)
  refine r_i (b := S.2.1 247 (u_4.1 231 24)) ((fu_4 247 rfl).2.1 (u_4.1 231 24)) ?_
  have hr1 : V (u_4.1 231 24) = S.2.1 247 (u_4.1 231 24) := (by rw [← hV])
  refine lv_istore_n (lv' := [(3, .int (iv (S.2.1 247 (u_4.1 231 24)))), (2, .int (iv (u_4.1 231 24))), (0, .ref (G.2.2.1 + 231)), (1, .int (iv tk))]) hx hb dX12_oneRow_19 rfl hl (by decide) rfl (fun ls hl => ?_)
  refine lv_aload_n hx hb dX12_oneRow_20 rfl (lv_at hl 2 rfl) ?_
  refine lv_dup hx hb dX12_oneRow_21 rfl ?_
  refine g_X12_315 Cx hW (k := 231) (by decide) rfl (v := u_4.1 231 24) rfl dX12_oneRow_22 ?_
  refine lv_iconst (v := iv 1) hx hb dX12_oneRow_25 (by decide) ?_
  refine r_iadd hx hb dX12_oneRow_26 ?_
  refine p_X12_315 Cx hW hL (k := 231) (by decide) rfl dX12_oneRow_27 (fun H locs hW hL => ?_)
  have F_10 : Fr S (uF u_4 231 24 ((u_4.1 231 24) + 1)) (pl [231, 248, 249, 250, 251, 252, 255, 257, 258]) := F_6.F rfl
  have g_11 : FF S (uF u_4 231 24 ((u_4.1 231 24) + 1)) (fl [20, 21, 24, 25, 36, 42, 43]) := FF.F g_7 rfl
  have i_12 : dX G (uF u_4 231 24 ((u_4.1 231 24) + 1)) := iu_4.F (i := 24) (show (-2147483648) ≤ (u_4.1 231 24) + 1 ∧ (u_4.1 231 24) + 1 ≤ 2147483647 from ⟨by omega, by omega⟩)
  refine lv_aload_n hx hb dX12_oneRow_30 rfl (lv_at hl 2 rfl) ?_
  refine lv_bipush (v := iv 13) hx hb dX12_oneRow_31 (by decide) ?_
  by_cases hfz : u_4.1 231 20 = 0
  · obtain ⟨V1, e1, w1, b1_, l1, c1, n1⟩ := xu_4.2.1 hfz
    have hhw : S.2.1 247 (u_4.1 231 24) = V a1 := (by rw [← hr1, c1])
    have q_13 : (-2147483648) ≤ u_4.1 231 20 ∧ u_4.1 231 20 ≤ 2147483647 := iu_4.fi 20
    have lk_14 : (uF u_4 231 24 ((u_4.1 231 24) + 1)).1 231 20 = u_4.1 231 20 := uF_ne (fun h => absurd h.2 (by decide))
    have lk_15 : (uF u_4 231 24 ((u_4.1 231 24) + 1)).1 231 24 = (u_4.1 231 24) + 1 := uF_on
    have q_16 : (-2147483648) ≤ u_4.1 231 42 ∧ u_4.1 231 42 ≤ 2147483647 := iu_4.fi 42
    have lk_17 : (uF u_4 231 24 ((u_4.1 231 24) + 1)).1 231 42 = u_4.1 231 42 := uF_ne (fun h => absurd h.2 (by decide))
    have nr_18 : NRr N k v (uF u_4 231 24 ((u_4.1 231 24) + 1)) := n1.of (uF_ne (fun h => absurd h.2 (by decide))) (funext fun j => uF_a) (funext fun j => uF_a) (funext fun j => uF_a) (funext fun j => uF_a) (funext fun j => uF_a) (funext fun j => uF_a)
    have kr_19 : KRr (uF u_4 231 24 ((u_4.1 231 24) + 1)) k v T := hkr.of (funext fun j => (uF_a).trans ((fu_4 243 rfl).2.1 j)) (funext fun j => (uF_a).trans ((fu_4 244 rfl).2.1 j)) (funext fun j => (uF_a).trans ((fu_4 245 rfl).2.1 j)) (funext fun j => (uF_a).trans ((fu_4 246 rfl).2.1 j)) (funext fun j => (uF_a).trans ((fu_4 247 rfl).2.1 j))
    refine sBv (sV (As := [.int (iv 13)]) (rest := []) (k := 231) Cx (exU l G (uF u_4 231 24 ((u_4.1 231 24) + 1)) N k v T (a1 + 1) b1 13 i_12 ⟨nr_18, hK_, hTV, kr_19, (by omega), (by omega), (by omega), ⟨by omega, by omega⟩⟩ (by omega) (by omega) (by omega) hg2) (c_X12_398 Cx rfl rfl (rmk_ok (by omega) (by decide))) hW (by decide) rfl rfl rfl hl.1 rfl (Nat.le_of_ble_eq_true rfl) dX12_oneRow_33 ⟨Nat.le_of_ble_eq_true rfl, Nat.le_of_ble_eq_true rfl⟩) hL (fun u_20 H locs k_21 hW hL => ?_)
    obtain ⟨iu_20, fu_20, gu_20, xu_20, yu_20⟩ := k_21
    have F_22 := F_10.trans (fu_20.to (pl_sub (by decide)))
    have g_23 : FF S u_20 (fl [20, 21, 24, 25, 36, 42, 43]) := FF.trans g_11 (FF.to gu_20 (fl_sub (by decide)))
    refine lv_aload_n hx hb dX12_oneRow_36 rfl (lv_at hl 2 rfl) ?_
    have q_24 : (-2147483648) ≤ u_20.1 231 20 ∧ u_20.1 231 20 ≤ 2147483647 := iu_20.fi 20
    refine g_X12_270 Cx hW (k := 231) (by decide) rfl (v := u_20.1 231 20) rfl dX12_oneRow_37 ?_
    refine r_if_eq (tgt := 44) hx hb ⟨(by omega), (by omega)⟩ dX12_oneRow_40 (by decide) (fun c_25 => ?_) (fun c_25 => ?_)
    · obtain ⟨V2, e2, w2, b2_, l2, c2, n2⟩ := xu_20.2.1 (by omega)
      rw [show (uF u_4 231 24 ((u_4.1 231 24) + 1)).1 231 42 = u_4.1 231 42 by omega] at e2
      have wP : veq (fvr u_20 0) V1 := (fun j a b => by show u_20.2.2.1 257 (0 + j) = _; rw [xu_20.1 (0 + j) (by omega)]; exact w1 j a b)
      have hK4 : K a1 = 4 := (by rcases hks with z | z | z; (exact ((osg_2 K V T a1).2 (by rw [hkk]; exact z)).1); (exact ((osg_3 K V T a1).2 (by rw [hkk]; exact z)).1); (exact ((osg_61 K V T a1).2 (by rw [hkk]; exact z)).1))
      have h26 : V a1 = 3 ↔ k a1 = 26 := ⟨(fun z => by rw [← hkk]; exact (osg_3 K V T a1).1 (by omega) (by omega) ⟨hK4, z⟩), (fun z => ((osg_3 K V T a1).2 (by rw [hkk]; exact z)).2)⟩
      have h261 := h26.mp; have h262 := h26.mpr; clear h26
      have h61 : V a1 = 61 ↔ k a1 = 13 := ⟨(fun z => by rw [← hkk]; exact (osg_61 K V T a1).1 (by omega) (by omega) ⟨hK4, z⟩), (fun z => ((osg_61 K V T a1).2 (by rw [hkk]; exact z)).2)⟩
      refine lv_aload_n hx hb dX12_oneRow_44 rfl (lv_at hl 2 rfl) ?_
      refine lv_dup hx hb dX12_oneRow_45 rfl ?_
      have q_26 : (-2147483648) ≤ u_20.1 231 24 ∧ u_20.1 231 24 ≤ 2147483647 := iu_20.fi 24
      refine g_X12_315 Cx hW (k := 231) (by decide) rfl (v := u_20.1 231 24) rfl dX12_oneRow_46 ?_
      refine lv_iconst (v := iv 1) hx hb dX12_oneRow_49 (by decide) ?_
      refine r_iadd hx hb dX12_oneRow_50 ?_
      refine p_X12_315 Cx hW hL (k := 231) (by decide) rfl dX12_oneRow_51 (fun H locs hW hL => ?_)
      have F_27 : Fr S (uF u_20 231 24 ((u_20.1 231 24) + 1)) (pl [231, 248, 249, 250, 251, 252, 255, 257, 258]) := F_22.F rfl
      have g_28 : FF S (uF u_20 231 24 ((u_20.1 231 24) + 1)) (fl [20, 21, 24, 25, 36, 42, 43]) := FF.F g_23 rfl
      have i_29 : dX G (uF u_20 231 24 ((u_20.1 231 24) + 1)) := iu_20.F (i := 24) (show (-2147483648) ≤ (u_20.1 231 24) + 1 ∧ (u_20.1 231 24) + 1 ≤ 2147483647 from ⟨by omega, by omega⟩)
      refine lv_iconst (v := iv 0) hx hb dX12_oneRow_54 (by decide) ?_
      refine lv_istore (lv' := [(4, .int (iv 0)), (3, .int (iv (S.2.1 247 (u_4.1 231 24)))), (2, .int (iv (u_4.1 231 24))), (0, .ref (G.2.2.1 + 231)), (1, .int (iv tk))]) hx hb dX12_oneRow_55 hl (by decide) rfl (fun ls hl => ?_)
      have loop_57 : ∀ (fuel : Nat) (S57 : sS) (kk : Int) (H : Heap) (locs : List Loc) (ls : Array Slot), (13 - kk).toNat < fuel → (dX G S57) → (Fr S S57 (pl [231, 248, 249, 250, 251, 252, 255, 257, 258])) → (Fr ((uF u_20 231 24 ((u_20.1 231 24) + 1))) S57 (pl [257])) → (FF S S57 (fl [20, 21, 24, 25, 36, 42, 43])) → (FF ((uF u_20 231 24 ((u_20.1 231 24) + 1))) S57 (fl [])) → (0 ≤ kk ∧ kk ≤ 13) → (Hd (∀ j, (j < 0 ∨ 13 ≤ j) → S57.2.2.1 257 j = u_20.2.2.1 257 j)) → (Hd (BD0 u_20 → ∀ t, 0 ≤ t → t < 13 → S57.2.2.1 257 t = if t < kk then u_20.2.2.1 257 t - u_20.2.2.1 257 (13 + t) else u_20.2.2.1 257 t)) → sW G 294 S57 H → sL G locs → lv_has ls 8 [(4, .int (iv kk)), (3, .int (iv (S.2.1 247 (u_4.1 231 24)))), (2, .int (iv (u_4.1 231 24))), (0, .ref (G.2.2.1 + 231)), (1, .int (iv tk))] → W p l e (rmk 136 0 0) s m args below meth c H locs 0 0 (MQ below (sQv G 294 (fun u => dX G u ∧ Fr S u (pl [231, 248, 249, 250, 251, 252, 255, 257, 258]) ∧ FF S u (fl [20, 21, 24, 25, 36, 42, 43]) ∧ (ROr S u N k v q (eRo T k v N (S.1 231 36) (S.1 231 42) pz) ∧ Hd (u.1 231 20 = 0 → ∀ X, XAr S 1 X → XAr u 1 (aRo T k v N X.1 (S.1 231 36) (S.1 231 42) pz, X.2))))) args s 0 0 (sF G)) (F0 m 57 ls []) := by
        intro fuel
        induction fuel with
        | zero => intro S57 kk H locs ls hmeas hI57 hFm57 hL57_ hGm57 gL57_ hk hl2 hrow hW hL hl; exact absurd hmeas (Nat.not_lt_zero _)
        | succ fuel ih_57 =>
          intro S57 kk H locs ls hmeas hI57 hFm57 hL57_ hGm57 gL57_ hk hl2 hrow hW hL hl
          refine lv_iload hx hb dX12_oneRow_57 (lv_at hl 0 rfl) ?_
          refine lv_bipush (v := iv 12) hx hb dX12_oneRow_59 (by decide) ?_
          refine r_icmp_gt (tgt := 90) hx hb ⟨(by omega), (by omega)⟩ ⟨(by omega), (by omega)⟩ dX12_oneRow_61 (by decide) (fun c_30 => ?_) (fun c_30 => ?_)
          · have wS : veq (fvr S57 0) (vad V1 V2 (-1)) := (fun j a b => by show S57.2.2.1 257 (0 + j) = V1 j + (-1) * V2 j; rw [Int.zero_add, hrow (BD0.of (b1_.eq wP) (b2_.eq w2)) j a b, if_pos (by omega)]; have q1 : u_20.2.2.1 257 (0 + j) = V1 j := wP j a b; rw [Int.zero_add] at q1; have q2 : u_20.2.2.1 257 (13 + j) = V2 j := w2 j a b; omega)
            refine lv_aload_n hx hb dX12_oneRow_90 rfl (lv_at hl 3 rfl) ?_
            refine lv_iconst (v := iv 0) hx hb dX12_oneRow_91 (by decide) ?_
            refine sBi (sV (As := [.int (iv 0)]) (rest := []) (k := 231) Cx (e_X12_isGreat l G S57 (ix := 0) hI57 (by omega)) (c_X12_416 Cx rfl rfl (rmk_ok (by omega) (by decide))) hW (by decide) rfl rfl rfl hl.1 rfl (Nat.le_of_ble_eq_true rfl) dX12_oneRow_92 ⟨Nat.le_of_ble_eq_true rfl, Nat.le_of_ble_eq_true rfl⟩) hL (fun r_33 u_31 H locs k_32 hW hL => ?_)
            obtain ⟨eu_31, xu_31⟩ := k_32
            rw [eu_31] at hW
            refine r_if_eq (tgt := 105) hx hb ⟨(by omega), (by omega)⟩ dX12_oneRow_95 (by decide) (fun c_34 => ?_) (fun c_34 => ?_)
            · refine lv_aload_n hx hb dX12_oneRow_105 rfl (lv_at hl 3 rfl) ?_
              have q_35 : (-2147483648) ≤ S.1 231 36 ∧ S.1 231 36 ≤ 2147483647 := hI.fi 36
              refine g_X12_382 Cx hW (k := 231) (by decide) rfl (v := S.1 231 36) ((gL57_ 36 rfl).trans ((uF_ne (fun h => absurd h.2 (by decide))).trans ((gu_20 36 rfl).trans ((uF_ne (fun h => absurd h.2 (by decide))).trans (gu_4 36 rfl))))) dX12_oneRow_106 ?_
              refine lv_iload_n hx hb dX12_oneRow_109 rfl (lv_at hl 1 rfl) ?_
              refine lv_bipush (v := iv 61) hx hb dX12_oneRow_110 (by decide) ?_
              refine r_icmp_ne (tgt := 119) hx hb ⟨(by omega), (by omega)⟩ ⟨(by omega), (by omega)⟩ dX12_oneRow_112 (by decide) (fun c_36 => ?_) (fun c_36 => ?_)
              · have k13 : k a1 ≠ 13 := (fun z => absurd (h61.mpr z) (by omega))
                have hif : (if k a1 = 13 then (2 : Int) else 1) = 1 := if_neg k13
                refine lv_iconst (v := iv 1) hx hb dX12_oneRow_119 (by decide) ?_
                refine r_iadd hx hb dX12_oneRow_120 ?_
                refine lv_bipush (v := iv 16) hx hb dX12_oneRow_121 (by decide) ?_
                refine r_icmp_le (tgt := 133) hx hb ⟨(by omega), (by omega)⟩ ⟨(by omega), (by omega)⟩ dX12_oneRow_123 (by decide) (fun c_37 => ?_) (fun c_37 => ?_)
                · refine lv_aload_n hx hb dX12_oneRow_133 rfl (lv_at hl 3 rfl) ?_
                  refine g_X12_270 Cx hW (k := 231) (by decide) rfl (v := u_20.1 231 20) ((gL57_ 20 rfl).trans (uF_ne (fun h => absurd h.2 (by decide)))) dX12_oneRow_134 ?_
                  refine r_if_eq (tgt := 141) hx hb ⟨(by omega), (by omega)⟩ dX12_oneRow_137 (by decide) (fun _ => ?_) (fun c => absurd (by omega) c)
                  have ngr : ¬ grt (vad V1 V2 (-1)) := (fun z => xu_31.2.2 (by omega) ((veq_grt wS).mpr z))
                  have hfb : ∀ x, 0 ≤ x → x ≤ 12 → -99999 ≤ S57.2.2.1 257 x ∧ S57.2.2.1 257 x ≤ 99999 := (fun x a b => by have y : -99999 ≤ S57.2.2.1 257 (0 + x) ∧ S57.2.2.1 257 (0 + x) ≤ 99999 := ((vb9_n ngr).eq wS) x a (by omega); rw [Int.zero_add] at y; exact y)
                  refine lv_iconst (v := iv 0) hx hb dX12_oneRow_141 (by decide) ?_
                  refine lv_istore (lv' := [(4, .int (iv 0)), (3, .int (iv (S.2.1 247 (u_4.1 231 24)))), (2, .int (iv (u_4.1 231 24))), (0, .ref (G.2.2.1 + 231)), (1, .int (iv tk))]) hx hb dX12_oneRow_142 hl (by decide) rfl (fun ls hl => ?_)
                  have loop_144 : ∀ (fuel : Nat) (S144 : sS) (i : Int) (H : Heap) (locs : List Loc) (ls : Array Slot), (1 - i).toNat < fuel → (dX G S144) → (Fr S S144 (pl [231, 248, 249, 250, 251, 252, 255, 257, 258])) → (Fr S57 S144 (pl [231, 255])) → (FF S S144 (fl [20, 21, 24, 25, 36, 42, 43])) → (FF S57 S144 (fl [36])) → (0 ≤ i ∧ i ≤ 1 ∧ S144.1 231 36 = S.1 231 36 + i) → (∀ x, -99999 ≤ S144.2.2.1 255 x ∧ S144.2.2.1 255 x ≤ 99999) → (Hd (∀ X, XAr S 1 X → XAr S144 1 (rwI X.1 (S.1 231 36) (vad V1 V2 (-1)) (k a1) i, X.2))) → sW G 294 S144 H → sL G locs → lv_has ls 8 [(4, .int (iv i)), (3, .int (iv (S.2.1 247 (u_4.1 231 24)))), (2, .int (iv (u_4.1 231 24))), (0, .ref (G.2.2.1 + 231)), (1, .int (iv tk))] → W p l e (rmk 136 0 0) s m args below meth c H locs 0 0 (MQ below (sQv G 294 (fun u => dX G u ∧ Fr S u (pl [231, 248, 249, 250, 251, 252, 255, 257, 258]) ∧ FF S u (fl [20, 21, 24, 25, 36, 42, 43]) ∧ (ROr S u N k v q (eRo T k v N (S.1 231 36) (S.1 231 42) pz) ∧ Hd (u.1 231 20 = 0 → ∀ X, XAr S 1 X → XAr u 1 (aRo T k v N X.1 (S.1 231 36) (S.1 231 42) pz, X.2))))) args s 0 0 (sF G)) (F0 m 144 ls []) := by
                    intro fuel
                    induction fuel with
                    | zero => intro S144 i H locs ls hmeas hI144 hFm144 hL144_ hGm144 gL144_ hi hB144 hXI hW hL hl; exact absurd hmeas (Nat.not_lt_zero _)
                    | succ fuel ih_144 =>
                      intro S144 i H locs ls hmeas hI144 hFm144 hL144_ hGm144 gL144_ hi hB144 hXI hW hL hl
                      refine lv_iload hx hb dX12_oneRow_144 (lv_at hl 0 rfl) ?_
                      refine lv_iload_n hx hb dX12_oneRow_146 rfl (lv_at hl 1 rfl) ?_
                      refine lv_bipush (v := iv 61) hx hb dX12_oneRow_147 (by decide) ?_
                      refine r_icmp_ne (tgt := 156) hx hb ⟨(by omega), (by omega)⟩ ⟨(by omega), (by omega)⟩ dX12_oneRow_149 (by decide) (fun _ => ?_) (fun c => absurd c (by omega))
                      refine lv_iconst (v := iv 1) hx hb dX12_oneRow_156 (by decide) ?_
                      refine r_icmp_ge (tgt := 280) hx hb ⟨(by omega), (by omega)⟩ ⟨(by omega), (by omega)⟩ dX12_oneRow_157 (by decide) (fun c_38 => ?_) (fun c_38 => ?_)
                      · have lk_39 : S144.1 231 20 = u_20.1 231 20 := (gL144_ 20 rfl).trans ((gL57_ 20 rfl).trans (uF_ne (fun h => absurd h.2 (by decide))))
                        have lk_40 : S144.1 231 24 = (u_20.1 231 24) + 1 := (gL144_ 24 rfl).trans ((gL57_ 24 rfl).trans (uF_on))
                        have q_41 : (-2147483648) ≤ u_20.1 231 42 ∧ u_20.1 231 42 ≤ 2147483647 := iu_20.fi 42
                        have lk_42 : S144.1 231 42 = u_20.1 231 42 := (gL144_ 42 rfl).trans ((gL57_ 42 rfl).trans (uF_ne (fun h => absurd h.2 (by decide))))
                        have q_43 : (-2147483648) ≤ S144.1 231 36 ∧ S144.1 231 36 ≤ 2147483647 := hI144.fi 36
                        have nr_44 : NRr N k v S144 := n2.of ((gL144_ 25 rfl).trans ((gL57_ 25 rfl).trans (uF_ne (fun h => absurd h.2 (by decide))))) (funext fun j => ((hL144_ 248 rfl).2.1 j).trans (((hL57_ 248 rfl).2.1 j).trans (uF_a))) (funext fun j => ((hL144_ 249 rfl).2.1 j).trans (((hL57_ 249 rfl).2.1 j).trans (uF_a))) (funext fun j => ((hL144_ 250 rfl).2.1 j).trans (((hL57_ 250 rfl).2.1 j).trans (uF_a))) (funext fun j => ((hL144_ 251 rfl).2.1 j).trans (((hL57_ 251 rfl).2.1 j).trans (uF_a))) (funext fun j => ((hL144_ 252 rfl).2.1 j).trans (((hL57_ 252 rfl).2.1 j).trans (uF_a))) (funext fun j => ((hL144_ 253 rfl).2.1 j).trans (((hL57_ 253 rfl).2.1 j).trans (uF_a)))
                        exact sVret Cx hr hlk hW hL ⟨hI144, hFm144, hGm144, ⟨⟨hB144, (fun h => absurd (show S144.1 231 20 = 0 by have e9 := (show S144.1 231 20 = u_20.1 231 20 from (gL144_ 20 rfl).trans ((gL57_ 20 rfl).trans (uF_ne (fun h => absurd h.2 (by decide))))); omega) h), (fun _ => ⟨(by rw [eRo_4 e1 e2 ngr (by rw [hif]; omega), hif, show S144.1 231 36 = S.1 231 36 + 1 by have z := (show S144.1 231 36 = S144.1 231 36 from rfl); omega, show S144.1 231 42 = u_20.1 231 42 from (show S144.1 231 42 = u_20.1 231 42 from (gL144_ 42 rfl).trans ((gL57_ 42 rfl).trans (uF_ne (fun h => absurd h.2 (by decide))))), hqb]), nr_44, (by have e7 := (show S144.1 231 24 = (u_20.1 231 24) + 1 from (gL144_ 24 rfl).trans ((gL57_ 24 rfl).trans (uF_on))); omega), (by rw [show S144.1 231 36 = S.1 231 36 + 1 by have z := (show S144.1 231 36 = S144.1 231 36 from rfl); omega]; omega), (by rw [show S144.1 231 42 = u_20.1 231 42 from (show S144.1 231 42 = u_20.1 231 42 from (gL144_ 42 rfl).trans ((gL57_ 42 rfl).trans (uF_ne (fun h => absurd h.2 (by decide)))))]; exact l2)⟩)⟩, (fun _ X hX => by rw [aRo_e e1 e2, ← rwI_1 k13]; have y := hXI X hX; rw [show i = 1 by omega] at y; exact y)⟩⟩ dX12_oneRow_280
                      · have join_176 : ∀ (fg : Int) (H : Heap) (locs : List Loc) (ls : Array Slot), (0 ≤ fg ∧ fg ≤ 1) → ((fg = 1 → V a1 = 3 ∨ i = 1) ∧ (fg = 0 → V a1 ≠ 3 ∧ i ≠ 1)) → sW G 294 S144 H → sL G locs → lv_has ls 8 [(4, .int (iv i)), (3, .int (iv (S.2.1 247 (u_4.1 231 24)))), (2, .int (iv (u_4.1 231 24))), (0, .ref (G.2.2.1 + 231)), (1, .int (iv tk))] → W p l e (rmk 136 0 0) s m args below meth c H locs 0 0 (MQ below (sQv G 294 (fun u => dX G u ∧ Fr S u (pl [231, 248, 249, 250, 251, 252, 255, 257, 258]) ∧ FF S u (fl [20, 21, 24, 25, 36, 42, 43]) ∧ (ROr S u N k v q (eRo T k v N (S.1 231 36) (S.1 231 42) pz) ∧ Hd (u.1 231 20 = 0 → ∀ X, XAr S 1 X → XAr u 1 (aRo T k v N X.1 (S.1 231 36) (S.1 231 42) pz, X.2))))) args s 0 0 (sF G)) (F0 m 176 ls [.int (iv fg)]) := by
                          intro fg H locs ls hfg hfgv hW hL hl
                          refine lv_istore (lv' := [(5, .int (iv fg)), (4, .int (iv i)), (3, .int (iv (S.2.1 247 (u_4.1 231 24)))), (2, .int (iv (u_4.1 231 24))), (0, .ref (G.2.2.1 + 231)), (1, .int (iv tk))]) hx hb dX12_oneRow_176 hl (by decide) rfl (fun ls hl => ?_)
                          refine lv_aload_n hx hb dX12_oneRow_178 rfl (lv_at hl 4 rfl) ?_
                          refine lv_dup hx hb dX12_oneRow_179 rfl ?_
                          have q_45 : (-2147483648) ≤ S144.1 231 36 ∧ S144.1 231 36 ≤ 2147483647 := hI144.fi 36
                          refine g_X12_382 Cx hW (k := 231) (by decide) rfl (v := S144.1 231 36) rfl dX12_oneRow_180 ?_
                          refine lv_iconst (v := iv 1) hx hb dX12_oneRow_183 (by decide) ?_
                          refine r_iadd hx hb dX12_oneRow_184 ?_
                          refine p_X12_382 Cx hW hL (k := 231) (by decide) rfl dX12_oneRow_185 (fun H locs hW hL => ?_)
                          have F_46 : Fr S (uF S144 231 36 ((S144.1 231 36) + 1)) (pl [231, 248, 249, 250, 251, 252, 255, 257, 258]) := hFm144.F rfl
                          have F_47 : Fr S57 (uF S144 231 36 ((S144.1 231 36) + 1)) (pl [231, 255]) := hL144_.F rfl
                          have g_48 : FF S (uF S144 231 36 ((S144.1 231 36) + 1)) (fl [20, 21, 24, 25, 36, 42, 43]) := FF.F hGm144 rfl
                          have g_49 : FF S57 (uF S144 231 36 ((S144.1 231 36) + 1)) (fl [36]) := FF.F gL144_ rfl
                          have i_50 : dX G (uF S144 231 36 ((S144.1 231 36) + 1)) := hI144.F (i := 36) (show (-2147483648) ≤ (S144.1 231 36) + 1 ∧ (S144.1 231 36) + 1 ≤ 2147483647 from ⟨by omega, by omega⟩)
                          refine lv_bipush (v := iv 13) hx hb dX12_oneRow_188 (by decide) ?_
                          refine lv_aload_n hx hb dX12_oneRow_190 rfl (lv_at hl 4 rfl) ?_
                          refine g_X12_382 Cx hW (k := 231) (by decide) rfl (v := (S144.1 231 36) + 1) uF_on dX12_oneRow_191 ?_
                          refine r_imul hx hb dX12_oneRow_194 ?_
                          refine lv_istore (lv' := [(6, .int (iv (13 * ((S144.1 231 36) + 1)))), (5, .int (iv fg)), (4, .int (iv i)), (3, .int (iv (S.2.1 247 (u_4.1 231 24)))), (2, .int (iv (u_4.1 231 24))), (0, .ref (G.2.2.1 + 231)), (1, .int (iv tk))]) hx hb dX12_oneRow_195 hl (by decide) rfl (fun ls hl => ?_)
                          refine lv_aload_n hx hb dX12_oneRow_197 rfl (lv_at hl 5 rfl) ?_
                          refine g_X12_81 Cx hW (k := 231) (by decide) rfl (v := .ref (G.2.2.1 + 255)) (rd_38 i_50) dX12_oneRow_198 ?_
                          refine lv_iload hx hb dX12_oneRow_201 (lv_at hl 0 rfl) ?_
                          refine lv_iload hx hb dX12_oneRow_203 (lv_at hl 1 rfl) ?_
                          refine r_if_eq (tgt := 217) hx hb ⟨(by omega), (by omega)⟩ dX12_oneRow_205 (by decide) (fun c_51 => ?_) (fun c_51 => ?_)
                          · have hf_0 := hfb 0 (by omega) (by omega)
                            have hd0 : S57.2.2.1 257 0 = (vad V1 V2 (-1)) 0 := (by have y : S57.2.2.1 257 (0 + 0) = _ := wS 0 (by omega) (by omega); rw [Int.zero_add] at y; exact y)
                            refine lv_aload_n hx hb dX12_oneRow_217 rfl (lv_at hl 5 rfl) ?_
                            refine g_X12_88 Cx hW (k := 231) (by decide) rfl (v := .ref (G.2.2.1 + 257)) (rd_41 i_50) dX12_oneRow_218 ?_
                            refine lv_iconst (v := iv 0) hx hb dX12_oneRow_221 (by decide) ?_
                            refine rLald Cx hW (k := 257) (by decide) rfl (by decide) (by omega) (by omega) dX12_oneRow_222 ?_
                            have q_52 : -9223372036854775808 ≤ S57.2.2.1 257 0 ∧ S57.2.2.1 257 0 ≤ 9223372036854775807 := hI57.li 257 0
                            refine r_j (b := S57.2.2.1 257 0) ((uF_l).trans ((hL144_ 257 rfl).2.2.1 0)) ?_
                            refine r_lneg hx hb dX12_oneRow_223 ?_
                            refine rLast Cx hW hL (k := 255) (by decide) rfl (by decide) (by omega) (by omega) dX12_oneRow_224 (fun H locs hW hL => ?_)
                            have F_53 : Fr S (uL (uF S144 231 36 ((S144.1 231 36) + 1)) 255 (13 * ((S144.1 231 36) + 1)) (-(S57.2.2.1 257 0))) (pl [231, 248, 249, 250, 251, 252, 255, 257, 258]) := F_46.L rfl
                            have F_54 : Fr S57 (uL (uF S144 231 36 ((S144.1 231 36) + 1)) 255 (13 * ((S144.1 231 36) + 1)) (-(S57.2.2.1 257 0))) (pl [231, 255]) := F_47.L rfl
                            have i_55 : dX G (uL (uF S144 231 36 ((S144.1 231 36) + 1)) 255 (13 * ((S144.1 231 36) + 1)) (-(S57.2.2.1 257 0))) := i_50.L ⟨by omega, by omega⟩
                            refine lv_iconst (v := iv 1) hx hb dX12_oneRow_225 (by decide) ?_
                            refine lv_istore (lv' := [(7, .int (iv 1)), (6, .int (iv (13 * ((S144.1 231 36) + 1)))), (5, .int (iv fg)), (4, .int (iv i)), (3, .int (iv (S.2.1 247 (u_4.1 231 24)))), (2, .int (iv (u_4.1 231 24))), (0, .ref (G.2.2.1 + 231)), (1, .int (iv tk))]) hx hb dX12_oneRow_226 hl (by decide) rfl (fun ls hl => ?_)
                            have loop_228 : ∀ (fuel : Nat) (S228 : sS) (kj : Int) (H : Heap) (locs : List Loc) (ls : Array Slot), (13 - kj).toNat < fuel → (dX G S228) → (Fr S S228 (pl [231, 248, 249, 250, 251, 252, 255, 257, 258])) → (Fr S57 S228 (pl [231, 255])) → (Fr ((uL (uF S144 231 36 ((S144.1 231 36) + 1)) 255 (13 * ((S144.1 231 36) + 1)) (-(S57.2.2.1 257 0)))) S228 (pl [255])) → (FF S S228 (fl [20, 21, 24, 25, 36, 42, 43])) → (FF S57 S228 (fl [36])) → (FF ((uL (uF S144 231 36 ((S144.1 231 36) + 1)) 255 (13 * ((S144.1 231 36) + 1)) (-(S57.2.2.1 257 0)))) S228 (fl [])) → (1 ≤ kj ∧ kj ≤ 13) → (∀ x, -99999 ≤ S228.2.2.1 255 x ∧ S228.2.2.1 255 x ≤ 99999) → (Hd (∀ x, x < (13 * (S144.1 231 36 + 1)) → S228.2.2.1 255 x = S144.2.2.1 255 x)) → (Hd (∀ j, 0 ≤ j → j < kj → S228.2.2.1 255 ((13 * (S144.1 231 36 + 1)) + j) = lin (vad V1 V2 (-1)) (tqr fg) j)) → sW G 294 S228 H → sL G locs → lv_has ls 8 [(7, .int (iv kj)), (6, .int (iv (13 * ((S144.1 231 36) + 1)))), (5, .int (iv fg)), (4, .int (iv i)), (3, .int (iv (S.2.1 247 (u_4.1 231 24)))), (2, .int (iv (u_4.1 231 24))), (0, .ref (G.2.2.1 + 231)), (1, .int (iv tk))] → W p l e (rmk 136 0 0) s m args below meth c H locs 0 0 (MQ below (sQv G 294 (fun u => dX G u ∧ Fr S u (pl [231, 248, 249, 250, 251, 252, 255, 257, 258]) ∧ FF S u (fl [20, 21, 24, 25, 36, 42, 43]) ∧ (ROr S u N k v q (eRo T k v N (S.1 231 36) (S.1 231 42) pz) ∧ Hd (u.1 231 20 = 0 → ∀ X, XAr S 1 X → XAr u 1 (aRo T k v N X.1 (S.1 231 36) (S.1 231 42) pz, X.2))))) args s 0 0 (sF G)) (F0 m 228 ls []) := by
                              intro fuel
                              induction fuel with
                              | zero => intro S228 kj H locs ls hmeas hI228 hFm228 hFL144228 hL228_ hGm228 hGL144228 gL228_ hk hB228 hLo hRo hW hL hl; exact absurd hmeas (Nat.not_lt_zero _)
                              | succ fuel ih_228 =>
                                intro S228 kj H locs ls hmeas hI228 hFm228 hFL144228 hL228_ hGm228 hGL144228 gL228_ hk hB228 hLo hRo hW hL hl
                                refine lv_iload hx hb dX12_oneRow_228 (lv_at hl 0 rfl) ?_
                                refine lv_bipush (v := iv 12) hx hb dX12_oneRow_230 (by decide) ?_
                                refine r_icmp_gt (tgt := 274) hx hb ⟨(by omega), (by omega)⟩ ⟨(by omega), (by omega)⟩ dX12_oneRow_232 (by decide) (fun c_56 => ?_) (fun c_56 => ?_)
                                · refine lv_iinc (v := iv (i + 1)) (lv' := [(4, .int (iv (i + 1))), (7, .int (iv kj)), (6, .int (iv (13 * ((S144.1 231 36) + 1)))), (5, .int (iv fg)), (3, .int (iv (S.2.1 247 (u_4.1 231 24)))), (2, .int (iv (u_4.1 231 24))), (0, .ref (G.2.2.1 + 231)), (1, .int (iv tk))]) hx hb dX12_oneRow_274 hl (k := 3) rfl ((Int32.ofInt_add _ _).symm) (by decide) rfl (fun ls hl => ?_)
                                  refine lv_goto (tgt := 144) hx hb dX12_oneRow_277 (by decide) ?_
                                  have lk_57 : S228.1 231 36 = (S144.1 231 36) + 1 := (gL228_ 36 rfl).trans ((uL_f).trans (uF_on))
                                  exact ih_144 S228 (i + 1) _ _ _ (by omega) hI228 hFm228 hFL144228 hGm228 hGL144228 (by omega) hB228 (fun X hX => XAr.ro (fg := fg) (hXI X hX) (by omega) (by omega) (by omega) (by omega) hfg (by omega) ((gL228_ 35 rfl).trans ((uL_f).trans (uF_ne (fun h => absurd h.2 (by decide))))) (by have e9 := (show S228.1 231 36 = (S144.1 231 36) + 1 from (gL228_ 36 rfl).trans ((uL_f).trans (uF_on))); omega) (funext fun j => ((hL228_ 256 rfl).2.2.1 j).trans ((uL_ne (fun h => absurd h.1 (by decide))).trans (uF_l))) (funext fun j => ((hL228_ 254 rfl).2.1 j).trans ((uL_a).trans (uF_a))) (fun x a => hLo x a) (fun j a c => hRo j a (by omega))) hW hL (lv_sub hl [0, 4, 5, 6, 7] rfl)
                                · have hfk := hfb kj (by omega) (by omega)
                                  have hdk : S57.2.2.1 257 kj = (vad V1 V2 (-1)) kj := (by have y : S57.2.2.1 257 (0 + kj) = _ := wS kj (by omega) (by omega); rw [Int.zero_add] at y; exact y)
                                  refine lv_aload_n hx hb dX12_oneRow_235 rfl (lv_at hl 6 rfl) ?_
                                  refine g_X12_81 Cx hW (k := 231) (by decide) rfl (v := .ref (G.2.2.1 + 255)) (rd_38 hI228) dX12_oneRow_236 ?_
                                  refine lv_iload hx hb dX12_oneRow_239 (lv_at hl 1 rfl) ?_
                                  refine lv_iload hx hb dX12_oneRow_241 (lv_at hl 0 rfl) ?_
                                  refine r_iadd hx hb dX12_oneRow_243 ?_
                                  refine lv_iload hx hb dX12_oneRow_244 (lv_at hl 2 rfl) ?_
                                  refine r_if_eq (tgt := 260) hx hb ⟨(by omega), (by omega)⟩ dX12_oneRow_246 (by decide) (fun c_58 => ?_) (fun c_58 => ?_)
                                  · refine lv_aload_n hx hb dX12_oneRow_260 rfl (lv_at hl 6 rfl) ?_
                                    refine g_X12_88 Cx hW (k := 231) (by decide) rfl (v := .ref (G.2.2.1 + 257)) (rd_41 hI228) dX12_oneRow_261 ?_
                                    refine lv_iload hx hb dX12_oneRow_264 (lv_at hl 0 rfl) ?_
                                    refine rLald Cx hW (k := 257) (by decide) rfl (by decide) (by omega) (by omega) dX12_oneRow_266 ?_
                                    have q_59 : -9223372036854775808 ≤ S57.2.2.1 257 kj ∧ S57.2.2.1 257 kj ≤ 9223372036854775807 := hI57.li 257 kj
                                    refine r_j (b := S57.2.2.1 257 kj) (((hL228_ 257 rfl).2.2.1 kj).trans ((uL_ne (fun h => absurd h.1 (by decide))).trans ((uF_l).trans ((hL144_ 257 rfl).2.2.1 kj)))) ?_
                                    refine rLast Cx hW hL (k := 255) (by decide) rfl (by decide) (by omega) (by omega) dX12_oneRow_267 (fun H locs hW hL => ?_)
                                    have F_60 : Fr S (uL S228 255 ((13 * ((S144.1 231 36) + 1)) + kj) (S57.2.2.1 257 kj)) (pl [231, 248, 249, 250, 251, 252, 255, 257, 258]) := hFm228.L rfl
                                    have F_61 : Fr S57 (uL S228 255 ((13 * ((S144.1 231 36) + 1)) + kj) (S57.2.2.1 257 kj)) (pl [231, 255]) := hFL144228.L rfl
                                    have F_62 : Fr ((uL (uF S144 231 36 ((S144.1 231 36) + 1)) 255 (13 * ((S144.1 231 36) + 1)) (-(S57.2.2.1 257 0)))) (uL S228 255 ((13 * ((S144.1 231 36) + 1)) + kj) (S57.2.2.1 257 kj)) (pl [255]) := hL228_.L rfl
                                    have i_63 : dX G (uL S228 255 ((13 * ((S144.1 231 36) + 1)) + kj) (S57.2.2.1 257 kj)) := hI228.L ⟨by omega, by omega⟩
                                    refine lv_iinc (v := iv (kj + 1)) (lv' := [(7, .int (iv (kj + 1))), (6, .int (iv (13 * ((S144.1 231 36) + 1)))), (5, .int (iv fg)), (4, .int (iv i)), (3, .int (iv (S.2.1 247 (u_4.1 231 24)))), (2, .int (iv (u_4.1 231 24))), (0, .ref (G.2.2.1 + 231)), (1, .int (iv tk))]) hx hb dX12_oneRow_268 hl (k := 0) rfl ((Int32.ofInt_add _ _).symm) (by decide) rfl (fun ls hl => ?_)
                                    refine lv_goto (tgt := 228) hx hb dX12_oneRow_271 (by decide) ?_
                                    exact ih_228 (uL S228 255 ((13 * ((S144.1 231 36) + 1)) + kj) (S57.2.2.1 257 kj)) (kj + 1) _ _ _ (by omega) i_63 F_60 F_61 F_62 hGm228 hGL144228 gL228_ (by omega) (fun x => by rw [show (uL S228 255 ((13 * ((S144.1 231 36) + 1)) + kj) (S57.2.2.1 257 kj)).2.2.1 255 x = (uL S228 255 ((13 * ((S144.1 231 36) + 1)) + kj) (S57.2.2.1 257 kj)).2.2.1 255 x from rfl, uL_get]; split; (omega); (rw [show S228.2.2.1 255 x = S228.2.2.1 255 x from rfl]; exact hB228 x)) (fun x a => by rw [show (uL S228 255 ((13 * ((S144.1 231 36) + 1)) + kj) (S57.2.2.1 257 kj)).2.2.1 255 x = (uL S228 255 ((13 * ((S144.1 231 36) + 1)) + kj) (S57.2.2.1 257 kj)).2.2.1 255 x from rfl, uL_ne (fun h => by have h2 := h.2; omega)]; exact (rfl).trans (hLo x a)) (fun j a b => by by_cases z : j = kj; (rw [z, show (uL S228 255 ((13 * ((S144.1 231 36) + 1)) + kj) (S57.2.2.1 257 kj)).2.2.1 255 ((13 * (S144.1 231 36 + 1)) + kj) = (uL S228 255 ((13 * ((S144.1 231 36) + 1)) + kj) (S57.2.2.1 257 kj)).2.2.1 255 ((13 * (S144.1 231 36 + 1)) + kj) from rfl, uL_get, if_pos ⟨rfl, (by omega)⟩]; unfold lin; rw [if_neg (by omega)]; unfold tqr; first | (rw [if_pos (by omega)]; omega) | (rw [if_neg (by omega)]; omega)); (rw [show (uL S228 255 ((13 * ((S144.1 231 36) + 1)) + kj) (S57.2.2.1 257 kj)).2.2.1 255 ((13 * (S144.1 231 36 + 1)) + j) = (uL S228 255 ((13 * ((S144.1 231 36) + 1)) + kj) (S57.2.2.1 257 kj)).2.2.1 255 ((13 * (S144.1 231 36 + 1)) + j) from rfl, uL_ne (fun h => by have h2 := h.2; omega)]; exact (rfl).trans (hRo j a (by omega)))) hW hL (lv_sub hl [0, 1, 2, 3, 4, 5, 6, 7] rfl)
                                  · refine lv_aload_n hx hb dX12_oneRow_249 rfl (lv_at hl 6 rfl) ?_
                                    refine g_X12_88 Cx hW (k := 231) (by decide) rfl (v := .ref (G.2.2.1 + 257)) (rd_41 hI228) dX12_oneRow_250 ?_
                                    refine lv_iload hx hb dX12_oneRow_253 (lv_at hl 0 rfl) ?_
                                    refine rLald Cx hW (k := 257) (by decide) rfl (by decide) (by omega) (by omega) dX12_oneRow_255 ?_
                                    have q_64 : -9223372036854775808 ≤ S57.2.2.1 257 kj ∧ S57.2.2.1 257 kj ≤ 9223372036854775807 := hI57.li 257 kj
                                    refine r_j (b := S57.2.2.1 257 kj) (((hL228_ 257 rfl).2.2.1 kj).trans ((uL_ne (fun h => absurd h.1 (by decide))).trans ((uF_l).trans ((hL144_ 257 rfl).2.2.1 kj)))) ?_
                                    refine r_lneg hx hb dX12_oneRow_256 ?_
                                    refine lv_goto (tgt := 267) hx hb dX12_oneRow_257 (by decide) ?_
                                    refine rLast Cx hW hL (k := 255) (by decide) rfl (by decide) (by omega) (by omega) dX12_oneRow_267 (fun H locs hW hL => ?_)
                                    have F_65 : Fr S (uL S228 255 ((13 * ((S144.1 231 36) + 1)) + kj) (-(S57.2.2.1 257 kj))) (pl [231, 248, 249, 250, 251, 252, 255, 257, 258]) := hFm228.L rfl
                                    have F_66 : Fr S57 (uL S228 255 ((13 * ((S144.1 231 36) + 1)) + kj) (-(S57.2.2.1 257 kj))) (pl [231, 255]) := hFL144228.L rfl
                                    have F_67 : Fr ((uL (uF S144 231 36 ((S144.1 231 36) + 1)) 255 (13 * ((S144.1 231 36) + 1)) (-(S57.2.2.1 257 0)))) (uL S228 255 ((13 * ((S144.1 231 36) + 1)) + kj) (-(S57.2.2.1 257 kj))) (pl [255]) := hL228_.L rfl
                                    have i_68 : dX G (uL S228 255 ((13 * ((S144.1 231 36) + 1)) + kj) (-(S57.2.2.1 257 kj))) := hI228.L ⟨by omega, by omega⟩
                                    refine lv_iinc (v := iv (kj + 1)) (lv' := [(7, .int (iv (kj + 1))), (6, .int (iv (13 * ((S144.1 231 36) + 1)))), (5, .int (iv fg)), (4, .int (iv i)), (3, .int (iv (S.2.1 247 (u_4.1 231 24)))), (2, .int (iv (u_4.1 231 24))), (0, .ref (G.2.2.1 + 231)), (1, .int (iv tk))]) hx hb dX12_oneRow_268 hl (k := 0) rfl ((Int32.ofInt_add _ _).symm) (by decide) rfl (fun ls hl => ?_)
                                    refine lv_goto (tgt := 228) hx hb dX12_oneRow_271 (by decide) ?_
                                    exact ih_228 (uL S228 255 ((13 * ((S144.1 231 36) + 1)) + kj) (-(S57.2.2.1 257 kj))) (kj + 1) _ _ _ (by omega) i_68 F_65 F_66 F_67 hGm228 hGL144228 gL228_ (by omega) (fun x => by rw [show (uL S228 255 ((13 * ((S144.1 231 36) + 1)) + kj) (-(S57.2.2.1 257 kj))).2.2.1 255 x = (uL S228 255 ((13 * ((S144.1 231 36) + 1)) + kj) (-(S57.2.2.1 257 kj))).2.2.1 255 x from rfl, uL_get]; split; (omega); (rw [show S228.2.2.1 255 x = S228.2.2.1 255 x from rfl]; exact hB228 x)) (fun x a => by rw [show (uL S228 255 ((13 * ((S144.1 231 36) + 1)) + kj) (-(S57.2.2.1 257 kj))).2.2.1 255 x = (uL S228 255 ((13 * ((S144.1 231 36) + 1)) + kj) (-(S57.2.2.1 257 kj))).2.2.1 255 x from rfl, uL_ne (fun h => by have h2 := h.2; omega)]; exact (rfl).trans (hLo x a)) (fun j a b => by by_cases z : j = kj; (rw [z, show (uL S228 255 ((13 * ((S144.1 231 36) + 1)) + kj) (-(S57.2.2.1 257 kj))).2.2.1 255 ((13 * (S144.1 231 36 + 1)) + kj) = (uL S228 255 ((13 * ((S144.1 231 36) + 1)) + kj) (-(S57.2.2.1 257 kj))).2.2.1 255 ((13 * (S144.1 231 36 + 1)) + kj) from rfl, uL_get, if_pos ⟨rfl, (by omega)⟩]; unfold lin; rw [if_neg (by omega)]; unfold tqr; first | (rw [if_pos (by omega)]; omega) | (rw [if_neg (by omega)]; omega)); (rw [show (uL S228 255 ((13 * ((S144.1 231 36) + 1)) + kj) (-(S57.2.2.1 257 kj))).2.2.1 255 ((13 * (S144.1 231 36 + 1)) + j) = (uL S228 255 ((13 * ((S144.1 231 36) + 1)) + kj) (-(S57.2.2.1 257 kj))).2.2.1 255 ((13 * (S144.1 231 36 + 1)) + j) from rfl, uL_ne (fun h => by have h2 := h.2; omega)]; exact (rfl).trans (hRo j a (by omega)))) hW hL (lv_sub hl [0, 1, 2, 3, 4, 5, 6, 7] rfl)
                            exact loop_228 (_ + 1) (uL (uF S144 231 36 ((S144.1 231 36) + 1)) 255 (13 * ((S144.1 231 36) + 1)) (-(S57.2.2.1 257 0))) 1 _ _ _ (Nat.lt_succ_self _) i_55 F_53 F_54 Fr.rf g_48 g_49 FF.rf (by omega) (fun x => by rw [show (uL (uF S144 231 36 ((S144.1 231 36) + 1)) 255 (13 * ((S144.1 231 36) + 1)) (-(S57.2.2.1 257 0))).2.2.1 255 x = (uL (uF S144 231 36 ((S144.1 231 36) + 1)) 255 (13 * ((S144.1 231 36) + 1)) (-(S57.2.2.1 257 0))).2.2.1 255 x from rfl, uL_get]; split; (omega); (rw [show (uF S144 231 36 ((S144.1 231 36) + 1)).2.2.1 255 x = S144.2.2.1 255 x from uF_l]; exact hB144 x)) (fun x a => by rw [show (uL (uF S144 231 36 ((S144.1 231 36) + 1)) 255 (13 * ((S144.1 231 36) + 1)) (-(S57.2.2.1 257 0))).2.2.1 255 x = (uL (uF S144 231 36 ((S144.1 231 36) + 1)) 255 (13 * ((S144.1 231 36) + 1)) (-(S57.2.2.1 257 0))).2.2.1 255 x from rfl, uL_ne (fun h => by have h2 := h.2; omega)]; exact (uF_l)) (fun j a b => by have z : j = 0 := (by omega); rw [z, show (uL (uF S144 231 36 ((S144.1 231 36) + 1)) 255 (13 * ((S144.1 231 36) + 1)) (-(S57.2.2.1 257 0))).2.2.1 255 ((13 * (S144.1 231 36 + 1)) + 0) = (uL (uF S144 231 36 ((S144.1 231 36) + 1)) 255 (13 * ((S144.1 231 36) + 1)) (-(S57.2.2.1 257 0))).2.2.1 255 ((13 * (S144.1 231 36 + 1)) + 0) from rfl, uL_get, if_pos ⟨rfl, (by omega)⟩]; unfold lin; rw [if_pos rfl]; unfold tqr; first | (rw [if_pos (by omega)]; omega) | (rw [if_neg (by omega)]; omega)) hW hL (lv_sub hl [0, 1, 2, 3, 4, 5, 6, 7] rfl)
                          · have hf_0 := hfb 0 (by omega) (by omega)
                            have hd0 : S57.2.2.1 257 0 = (vad V1 V2 (-1)) 0 := (by have y : S57.2.2.1 257 (0 + 0) = _ := wS 0 (by omega) (by omega); rw [Int.zero_add] at y; exact y)
                            refine lv_aload_n hx hb dX12_oneRow_208 rfl (lv_at hl 5 rfl) ?_
                            refine g_X12_88 Cx hW (k := 231) (by decide) rfl (v := .ref (G.2.2.1 + 257)) (rd_41 i_50) dX12_oneRow_209 ?_
                            refine lv_iconst (v := iv 0) hx hb dX12_oneRow_212 (by decide) ?_
                            refine rLald Cx hW (k := 257) (by decide) rfl (by decide) (by omega) (by omega) dX12_oneRow_213 ?_
                            have q_69 : -9223372036854775808 ≤ S57.2.2.1 257 0 ∧ S57.2.2.1 257 0 ≤ 9223372036854775807 := hI57.li 257 0
                            refine r_j (b := S57.2.2.1 257 0) ((uF_l).trans ((hL144_ 257 rfl).2.2.1 0)) ?_
                            refine lv_goto (tgt := 224) hx hb dX12_oneRow_214 (by decide) ?_
                            refine rLast Cx hW hL (k := 255) (by decide) rfl (by decide) (by omega) (by omega) dX12_oneRow_224 (fun H locs hW hL => ?_)
                            have F_70 : Fr S (uL (uF S144 231 36 ((S144.1 231 36) + 1)) 255 (13 * ((S144.1 231 36) + 1)) (S57.2.2.1 257 0)) (pl [231, 248, 249, 250, 251, 252, 255, 257, 258]) := F_46.L rfl
                            have F_71 : Fr S57 (uL (uF S144 231 36 ((S144.1 231 36) + 1)) 255 (13 * ((S144.1 231 36) + 1)) (S57.2.2.1 257 0)) (pl [231, 255]) := F_47.L rfl
                            have i_72 : dX G (uL (uF S144 231 36 ((S144.1 231 36) + 1)) 255 (13 * ((S144.1 231 36) + 1)) (S57.2.2.1 257 0)) := i_50.L ⟨by omega, by omega⟩
                            refine lv_iconst (v := iv 1) hx hb dX12_oneRow_225 (by decide) ?_
                            refine lv_istore (lv' := [(7, .int (iv 1)), (6, .int (iv (13 * ((S144.1 231 36) + 1)))), (5, .int (iv fg)), (4, .int (iv i)), (3, .int (iv (S.2.1 247 (u_4.1 231 24)))), (2, .int (iv (u_4.1 231 24))), (0, .ref (G.2.2.1 + 231)), (1, .int (iv tk))]) hx hb dX12_oneRow_226 hl (by decide) rfl (fun ls hl => ?_)
                            have loop_228 : ∀ (fuel : Nat) (S228 : sS) (kj : Int) (H : Heap) (locs : List Loc) (ls : Array Slot), (13 - kj).toNat < fuel → (dX G S228) → (Fr S S228 (pl [231, 248, 249, 250, 251, 252, 255, 257, 258])) → (Fr S57 S228 (pl [231, 255])) → (Fr ((uL (uF S144 231 36 ((S144.1 231 36) + 1)) 255 (13 * ((S144.1 231 36) + 1)) (S57.2.2.1 257 0))) S228 (pl [255])) → (FF S S228 (fl [20, 21, 24, 25, 36, 42, 43])) → (FF S57 S228 (fl [36])) → (FF ((uL (uF S144 231 36 ((S144.1 231 36) + 1)) 255 (13 * ((S144.1 231 36) + 1)) (S57.2.2.1 257 0))) S228 (fl [])) → (1 ≤ kj ∧ kj ≤ 13) → (∀ x, -99999 ≤ S228.2.2.1 255 x ∧ S228.2.2.1 255 x ≤ 99999) → (Hd (∀ x, x < (13 * (S144.1 231 36 + 1)) → S228.2.2.1 255 x = S144.2.2.1 255 x)) → (Hd (∀ j, 0 ≤ j → j < kj → S228.2.2.1 255 ((13 * (S144.1 231 36 + 1)) + j) = lin (vad V1 V2 (-1)) (tqr fg) j)) → sW G 294 S228 H → sL G locs → lv_has ls 8 [(7, .int (iv kj)), (6, .int (iv (13 * ((S144.1 231 36) + 1)))), (5, .int (iv fg)), (4, .int (iv i)), (3, .int (iv (S.2.1 247 (u_4.1 231 24)))), (2, .int (iv (u_4.1 231 24))), (0, .ref (G.2.2.1 + 231)), (1, .int (iv tk))] → W p l e (rmk 136 0 0) s m args below meth c H locs 0 0 (MQ below (sQv G 294 (fun u => dX G u ∧ Fr S u (pl [231, 248, 249, 250, 251, 252, 255, 257, 258]) ∧ FF S u (fl [20, 21, 24, 25, 36, 42, 43]) ∧ (ROr S u N k v q (eRo T k v N (S.1 231 36) (S.1 231 42) pz) ∧ Hd (u.1 231 20 = 0 → ∀ X, XAr S 1 X → XAr u 1 (aRo T k v N X.1 (S.1 231 36) (S.1 231 42) pz, X.2))))) args s 0 0 (sF G)) (F0 m 228 ls []) := by
                              intro fuel
                              induction fuel with
                              | zero => intro S228 kj H locs ls hmeas hI228 hFm228 hFL144228 hL228_ hGm228 hGL144228 gL228_ hk hB228 hLo hRo hW hL hl; exact absurd hmeas (Nat.not_lt_zero _)
                              | succ fuel ih_228 =>
                                intro S228 kj H locs ls hmeas hI228 hFm228 hFL144228 hL228_ hGm228 hGL144228 gL228_ hk hB228 hLo hRo hW hL hl
                                refine lv_iload hx hb dX12_oneRow_228 (lv_at hl 0 rfl) ?_
                                refine lv_bipush (v := iv 12) hx hb dX12_oneRow_230 (by decide) ?_
                                refine r_icmp_gt (tgt := 274) hx hb ⟨(by omega), (by omega)⟩ ⟨(by omega), (by omega)⟩ dX12_oneRow_232 (by decide) (fun c_73 => ?_) (fun c_73 => ?_)
                                · refine lv_iinc (v := iv (i + 1)) (lv' := [(4, .int (iv (i + 1))), (7, .int (iv kj)), (6, .int (iv (13 * ((S144.1 231 36) + 1)))), (5, .int (iv fg)), (3, .int (iv (S.2.1 247 (u_4.1 231 24)))), (2, .int (iv (u_4.1 231 24))), (0, .ref (G.2.2.1 + 231)), (1, .int (iv tk))]) hx hb dX12_oneRow_274 hl (k := 3) rfl ((Int32.ofInt_add _ _).symm) (by decide) rfl (fun ls hl => ?_)
                                  refine lv_goto (tgt := 144) hx hb dX12_oneRow_277 (by decide) ?_
                                  have lk_74 : S228.1 231 36 = (S144.1 231 36) + 1 := (gL228_ 36 rfl).trans ((uL_f).trans (uF_on))
                                  exact ih_144 S228 (i + 1) _ _ _ (by omega) hI228 hFm228 hFL144228 hGm228 hGL144228 (by omega) hB228 (fun X hX => XAr.ro (fg := fg) (hXI X hX) (by omega) (by omega) (by omega) (by omega) hfg (by omega) ((gL228_ 35 rfl).trans ((uL_f).trans (uF_ne (fun h => absurd h.2 (by decide))))) (by have e9 := (show S228.1 231 36 = (S144.1 231 36) + 1 from (gL228_ 36 rfl).trans ((uL_f).trans (uF_on))); omega) (funext fun j => ((hL228_ 256 rfl).2.2.1 j).trans ((uL_ne (fun h => absurd h.1 (by decide))).trans (uF_l))) (funext fun j => ((hL228_ 254 rfl).2.1 j).trans ((uL_a).trans (uF_a))) (fun x a => hLo x a) (fun j a c => hRo j a (by omega))) hW hL (lv_sub hl [0, 4, 5, 6, 7] rfl)
                                · have hfk := hfb kj (by omega) (by omega)
                                  have hdk : S57.2.2.1 257 kj = (vad V1 V2 (-1)) kj := (by have y : S57.2.2.1 257 (0 + kj) = _ := wS kj (by omega) (by omega); rw [Int.zero_add] at y; exact y)
                                  refine lv_aload_n hx hb dX12_oneRow_235 rfl (lv_at hl 6 rfl) ?_
                                  refine g_X12_81 Cx hW (k := 231) (by decide) rfl (v := .ref (G.2.2.1 + 255)) (rd_38 hI228) dX12_oneRow_236 ?_
                                  refine lv_iload hx hb dX12_oneRow_239 (lv_at hl 1 rfl) ?_
                                  refine lv_iload hx hb dX12_oneRow_241 (lv_at hl 0 rfl) ?_
                                  refine r_iadd hx hb dX12_oneRow_243 ?_
                                  refine lv_iload hx hb dX12_oneRow_244 (lv_at hl 2 rfl) ?_
                                  refine r_if_eq (tgt := 260) hx hb ⟨(by omega), (by omega)⟩ dX12_oneRow_246 (by decide) (fun c_75 => ?_) (fun c_75 => ?_)
                                  · refine lv_aload_n hx hb dX12_oneRow_260 rfl (lv_at hl 6 rfl) ?_
                                    refine g_X12_88 Cx hW (k := 231) (by decide) rfl (v := .ref (G.2.2.1 + 257)) (rd_41 hI228) dX12_oneRow_261 ?_
                                    refine lv_iload hx hb dX12_oneRow_264 (lv_at hl 0 rfl) ?_
                                    refine rLald Cx hW (k := 257) (by decide) rfl (by decide) (by omega) (by omega) dX12_oneRow_266 ?_
                                    have q_76 : -9223372036854775808 ≤ S57.2.2.1 257 kj ∧ S57.2.2.1 257 kj ≤ 9223372036854775807 := hI57.li 257 kj
                                    refine r_j (b := S57.2.2.1 257 kj) (((hL228_ 257 rfl).2.2.1 kj).trans ((uL_ne (fun h => absurd h.1 (by decide))).trans ((uF_l).trans ((hL144_ 257 rfl).2.2.1 kj)))) ?_
                                    refine rLast Cx hW hL (k := 255) (by decide) rfl (by decide) (by omega) (by omega) dX12_oneRow_267 (fun H locs hW hL => ?_)
                                    have F_77 : Fr S (uL S228 255 ((13 * ((S144.1 231 36) + 1)) + kj) (S57.2.2.1 257 kj)) (pl [231, 248, 249, 250, 251, 252, 255, 257, 258]) := hFm228.L rfl
                                    have F_78 : Fr S57 (uL S228 255 ((13 * ((S144.1 231 36) + 1)) + kj) (S57.2.2.1 257 kj)) (pl [231, 255]) := hFL144228.L rfl
                                    have F_79 : Fr ((uL (uF S144 231 36 ((S144.1 231 36) + 1)) 255 (13 * ((S144.1 231 36) + 1)) (S57.2.2.1 257 0))) (uL S228 255 ((13 * ((S144.1 231 36) + 1)) + kj) (S57.2.2.1 257 kj)) (pl [255]) := hL228_.L rfl
                                    have i_80 : dX G (uL S228 255 ((13 * ((S144.1 231 36) + 1)) + kj) (S57.2.2.1 257 kj)) := hI228.L ⟨by omega, by omega⟩
                                    refine lv_iinc (v := iv (kj + 1)) (lv' := [(7, .int (iv (kj + 1))), (6, .int (iv (13 * ((S144.1 231 36) + 1)))), (5, .int (iv fg)), (4, .int (iv i)), (3, .int (iv (S.2.1 247 (u_4.1 231 24)))), (2, .int (iv (u_4.1 231 24))), (0, .ref (G.2.2.1 + 231)), (1, .int (iv tk))]) hx hb dX12_oneRow_268 hl (k := 0) rfl ((Int32.ofInt_add _ _).symm) (by decide) rfl (fun ls hl => ?_)
                                    refine lv_goto (tgt := 228) hx hb dX12_oneRow_271 (by decide) ?_
                                    exact ih_228 (uL S228 255 ((13 * ((S144.1 231 36) + 1)) + kj) (S57.2.2.1 257 kj)) (kj + 1) _ _ _ (by omega) i_80 F_77 F_78 F_79 hGm228 hGL144228 gL228_ (by omega) (fun x => by rw [show (uL S228 255 ((13 * ((S144.1 231 36) + 1)) + kj) (S57.2.2.1 257 kj)).2.2.1 255 x = (uL S228 255 ((13 * ((S144.1 231 36) + 1)) + kj) (S57.2.2.1 257 kj)).2.2.1 255 x from rfl, uL_get]; split; (omega); (rw [show S228.2.2.1 255 x = S228.2.2.1 255 x from rfl]; exact hB228 x)) (fun x a => by rw [show (uL S228 255 ((13 * ((S144.1 231 36) + 1)) + kj) (S57.2.2.1 257 kj)).2.2.1 255 x = (uL S228 255 ((13 * ((S144.1 231 36) + 1)) + kj) (S57.2.2.1 257 kj)).2.2.1 255 x from rfl, uL_ne (fun h => by have h2 := h.2; omega)]; exact (rfl).trans (hLo x a)) (fun j a b => by by_cases z : j = kj; (rw [z, show (uL S228 255 ((13 * ((S144.1 231 36) + 1)) + kj) (S57.2.2.1 257 kj)).2.2.1 255 ((13 * (S144.1 231 36 + 1)) + kj) = (uL S228 255 ((13 * ((S144.1 231 36) + 1)) + kj) (S57.2.2.1 257 kj)).2.2.1 255 ((13 * (S144.1 231 36 + 1)) + kj) from rfl, uL_get, if_pos ⟨rfl, (by omega)⟩]; unfold lin; rw [if_neg (by omega)]; unfold tqr; first | (rw [if_pos (by omega)]; omega) | (rw [if_neg (by omega)]; omega)); (rw [show (uL S228 255 ((13 * ((S144.1 231 36) + 1)) + kj) (S57.2.2.1 257 kj)).2.2.1 255 ((13 * (S144.1 231 36 + 1)) + j) = (uL S228 255 ((13 * ((S144.1 231 36) + 1)) + kj) (S57.2.2.1 257 kj)).2.2.1 255 ((13 * (S144.1 231 36 + 1)) + j) from rfl, uL_ne (fun h => by have h2 := h.2; omega)]; exact (rfl).trans (hRo j a (by omega)))) hW hL (lv_sub hl [0, 1, 2, 3, 4, 5, 6, 7] rfl)
                                  · refine lv_aload_n hx hb dX12_oneRow_249 rfl (lv_at hl 6 rfl) ?_
                                    refine g_X12_88 Cx hW (k := 231) (by decide) rfl (v := .ref (G.2.2.1 + 257)) (rd_41 hI228) dX12_oneRow_250 ?_
                                    refine lv_iload hx hb dX12_oneRow_253 (lv_at hl 0 rfl) ?_
                                    refine rLald Cx hW (k := 257) (by decide) rfl (by decide) (by omega) (by omega) dX12_oneRow_255 ?_
                                    have q_81 : -9223372036854775808 ≤ S57.2.2.1 257 kj ∧ S57.2.2.1 257 kj ≤ 9223372036854775807 := hI57.li 257 kj
                                    refine r_j (b := S57.2.2.1 257 kj) (((hL228_ 257 rfl).2.2.1 kj).trans ((uL_ne (fun h => absurd h.1 (by decide))).trans ((uF_l).trans ((hL144_ 257 rfl).2.2.1 kj)))) ?_
                                    refine r_lneg hx hb dX12_oneRow_256 ?_
                                    refine lv_goto (tgt := 267) hx hb dX12_oneRow_257 (by decide) ?_
                                    refine rLast Cx hW hL (k := 255) (by decide) rfl (by decide) (by omega) (by omega) dX12_oneRow_267 (fun H locs hW hL => ?_)
                                    have F_82 : Fr S (uL S228 255 ((13 * ((S144.1 231 36) + 1)) + kj) (-(S57.2.2.1 257 kj))) (pl [231, 248, 249, 250, 251, 252, 255, 257, 258]) := hFm228.L rfl
                                    have F_83 : Fr S57 (uL S228 255 ((13 * ((S144.1 231 36) + 1)) + kj) (-(S57.2.2.1 257 kj))) (pl [231, 255]) := hFL144228.L rfl
                                    have F_84 : Fr ((uL (uF S144 231 36 ((S144.1 231 36) + 1)) 255 (13 * ((S144.1 231 36) + 1)) (S57.2.2.1 257 0))) (uL S228 255 ((13 * ((S144.1 231 36) + 1)) + kj) (-(S57.2.2.1 257 kj))) (pl [255]) := hL228_.L rfl
                                    have i_85 : dX G (uL S228 255 ((13 * ((S144.1 231 36) + 1)) + kj) (-(S57.2.2.1 257 kj))) := hI228.L ⟨by omega, by omega⟩
                                    refine lv_iinc (v := iv (kj + 1)) (lv' := [(7, .int (iv (kj + 1))), (6, .int (iv (13 * ((S144.1 231 36) + 1)))), (5, .int (iv fg)), (4, .int (iv i)), (3, .int (iv (S.2.1 247 (u_4.1 231 24)))), (2, .int (iv (u_4.1 231 24))), (0, .ref (G.2.2.1 + 231)), (1, .int (iv tk))]) hx hb dX12_oneRow_268 hl (k := 0) rfl ((Int32.ofInt_add _ _).symm) (by decide) rfl (fun ls hl => ?_)
                                    refine lv_goto (tgt := 228) hx hb dX12_oneRow_271 (by decide) ?_
                                    exact ih_228 (uL S228 255 ((13 * ((S144.1 231 36) + 1)) + kj) (-(S57.2.2.1 257 kj))) (kj + 1) _ _ _ (by omega) i_85 F_82 F_83 F_84 hGm228 hGL144228 gL228_ (by omega) (fun x => by rw [show (uL S228 255 ((13 * ((S144.1 231 36) + 1)) + kj) (-(S57.2.2.1 257 kj))).2.2.1 255 x = (uL S228 255 ((13 * ((S144.1 231 36) + 1)) + kj) (-(S57.2.2.1 257 kj))).2.2.1 255 x from rfl, uL_get]; split; (omega); (rw [show S228.2.2.1 255 x = S228.2.2.1 255 x from rfl]; exact hB228 x)) (fun x a => by rw [show (uL S228 255 ((13 * ((S144.1 231 36) + 1)) + kj) (-(S57.2.2.1 257 kj))).2.2.1 255 x = (uL S228 255 ((13 * ((S144.1 231 36) + 1)) + kj) (-(S57.2.2.1 257 kj))).2.2.1 255 x from rfl, uL_ne (fun h => by have h2 := h.2; omega)]; exact (rfl).trans (hLo x a)) (fun j a b => by by_cases z : j = kj; (rw [z, show (uL S228 255 ((13 * ((S144.1 231 36) + 1)) + kj) (-(S57.2.2.1 257 kj))).2.2.1 255 ((13 * (S144.1 231 36 + 1)) + kj) = (uL S228 255 ((13 * ((S144.1 231 36) + 1)) + kj) (-(S57.2.2.1 257 kj))).2.2.1 255 ((13 * (S144.1 231 36 + 1)) + kj) from rfl, uL_get, if_pos ⟨rfl, (by omega)⟩]; unfold lin; rw [if_neg (by omega)]; unfold tqr; first | (rw [if_pos (by omega)]; omega) | (rw [if_neg (by omega)]; omega)); (rw [show (uL S228 255 ((13 * ((S144.1 231 36) + 1)) + kj) (-(S57.2.2.1 257 kj))).2.2.1 255 ((13 * (S144.1 231 36 + 1)) + j) = (uL S228 255 ((13 * ((S144.1 231 36) + 1)) + kj) (-(S57.2.2.1 257 kj))).2.2.1 255 ((13 * (S144.1 231 36 + 1)) + j) from rfl, uL_ne (fun h => by have h2 := h.2; omega)]; exact (rfl).trans (hRo j a (by omega)))) hW hL (lv_sub hl [0, 1, 2, 3, 4, 5, 6, 7] rfl)
                            exact loop_228 (_ + 1) (uL (uF S144 231 36 ((S144.1 231 36) + 1)) 255 (13 * ((S144.1 231 36) + 1)) (S57.2.2.1 257 0)) 1 _ _ _ (Nat.lt_succ_self _) i_72 F_70 F_71 Fr.rf g_48 g_49 FF.rf (by omega) (fun x => by rw [show (uL (uF S144 231 36 ((S144.1 231 36) + 1)) 255 (13 * ((S144.1 231 36) + 1)) (S57.2.2.1 257 0)).2.2.1 255 x = (uL (uF S144 231 36 ((S144.1 231 36) + 1)) 255 (13 * ((S144.1 231 36) + 1)) (S57.2.2.1 257 0)).2.2.1 255 x from rfl, uL_get]; split; (omega); (rw [show (uF S144 231 36 ((S144.1 231 36) + 1)).2.2.1 255 x = S144.2.2.1 255 x from uF_l]; exact hB144 x)) (fun x a => by rw [show (uL (uF S144 231 36 ((S144.1 231 36) + 1)) 255 (13 * ((S144.1 231 36) + 1)) (S57.2.2.1 257 0)).2.2.1 255 x = (uL (uF S144 231 36 ((S144.1 231 36) + 1)) 255 (13 * ((S144.1 231 36) + 1)) (S57.2.2.1 257 0)).2.2.1 255 x from rfl, uL_ne (fun h => by have h2 := h.2; omega)]; exact (uF_l)) (fun j a b => by have z : j = 0 := (by omega); rw [z, show (uL (uF S144 231 36 ((S144.1 231 36) + 1)) 255 (13 * ((S144.1 231 36) + 1)) (S57.2.2.1 257 0)).2.2.1 255 ((13 * (S144.1 231 36 + 1)) + 0) = (uL (uF S144 231 36 ((S144.1 231 36) + 1)) 255 (13 * ((S144.1 231 36) + 1)) (S57.2.2.1 257 0)).2.2.1 255 ((13 * (S144.1 231 36 + 1)) + 0) from rfl, uL_get, if_pos ⟨rfl, (by omega)⟩]; unfold lin; rw [if_pos rfl]; unfold tqr; first | (rw [if_pos (by omega)]; omega) | (rw [if_neg (by omega)]; omega)) hW hL (lv_sub hl [0, 1, 2, 3, 4, 5, 6, 7] rfl)
                        refine lv_iload_n hx hb dX12_oneRow_160 rfl (lv_at hl 1 rfl) ?_
                        refine lv_iconst (v := iv 3) hx hb dX12_oneRow_161 (by decide) ?_
                        refine r_icmp_eq (tgt := 171) hx hb ⟨(by omega), (by omega)⟩ ⟨(by omega), (by omega)⟩ dX12_oneRow_162 (by decide) (fun c_86 => ?_) (fun c_86 => ?_)
                        · refine lv_iconst (v := iv 1) hx hb dX12_oneRow_171 (by decide) ?_
                          refine lv_goto (tgt := 176) hx hb dX12_oneRow_172 (by decide) ?_
                          exact join_176 1 _ _ _ (by omega) (by omega) hW hL (lv_sub hl [0, 1, 2, 3, 4] rfl)
                        · refine lv_iload hx hb dX12_oneRow_165 (lv_at hl 0 rfl) ?_
                          refine lv_iconst (v := iv 1) hx hb dX12_oneRow_167 (by decide) ?_
                          refine r_icmp_ne (tgt := 175) hx hb ⟨(by omega), (by omega)⟩ ⟨(by omega), (by omega)⟩ dX12_oneRow_168 (by decide) (fun c_87 => ?_) (fun c_87 => ?_)
                          · refine lv_iconst (v := iv 0) hx hb dX12_oneRow_175 (by decide) ?_
                            exact join_176 0 _ _ _ (by omega) (by omega) hW hL (lv_sub hl [0, 1, 2, 3, 4] rfl)
                          · refine lv_iconst (v := iv 1) hx hb dX12_oneRow_171 (by decide) ?_
                            refine lv_goto (tgt := 176) hx hb dX12_oneRow_172 (by decide) ?_
                            exact join_176 1 _ _ _ (by omega) (by omega) hW hL (lv_sub hl [0, 1, 2, 3, 4] rfl)
                  have lk_88 : S57.1 231 36 = S.1 231 36 := (gL57_ 36 rfl).trans ((uF_ne (fun h => absurd h.2 (by decide))).trans ((gu_20 36 rfl).trans ((uF_ne (fun h => absurd h.2 (by decide))).trans (gu_4 36 rfl))))
                  exact loop_144 (_ + 1) S57 0 _ _ _ (Nat.lt_succ_self _) hI57 hFm57 Fr.rf hGm57 FF.rf (by omega) (fun x => by rw [show S57.2.2.1 255 x = S.2.2.1 255 x from ((hL57_ 255 rfl).2.2.1 x).trans ((uF_l).trans (((fu_20 255 rfl).2.2.1 x).trans ((uF_l).trans ((fu_4 255 rfl).2.2.1 x))))]; exact hRB x) (fun X hX => (XAr.of (S := S) (u := S57) hX ((gL57_ 35 rfl).trans ((uF_ne (fun h => absurd h.2 (by decide))).trans ((gu_20 35 rfl).trans ((uF_ne (fun h => absurd h.2 (by decide))).trans (gu_4 35 rfl))))) ((gL57_ 36 rfl).trans ((uF_ne (fun h => absurd h.2 (by decide))).trans ((gu_20 36 rfl).trans ((uF_ne (fun h => absurd h.2 (by decide))).trans (gu_4 36 rfl))))) (funext fun j => ((hL57_ 255 rfl).2.2.1 j).trans ((uF_l).trans (((fu_20 255 rfl).2.2.1 j).trans ((uF_l).trans ((fu_4 255 rfl).2.2.1 j))))) (funext fun j => ((hL57_ 256 rfl).2.2.1 j).trans ((uF_l).trans (((fu_20 256 rfl).2.2.1 j).trans ((uF_l).trans ((fu_4 256 rfl).2.2.1 j))))) (funext fun j => ((hL57_ 254 rfl).2.1 j).trans ((uF_a).trans (((fu_20 254 rfl).2.1 j).trans ((uF_a).trans ((fu_4 254 rfl).2.1 j))))))) hW hL (lv_sub hl [0, 1, 2, 3, 4] rfl)
                · refine lv_aload_n hx hb dX12_oneRow_126 rfl (lv_at hl 3 rfl) ?_
                  refine lv_bipush (v := iv 7) hx hb dX12_oneRow_127 (by decide) ?_
                  refine lv_iload_n hx hb dX12_oneRow_129 rfl (lv_at hl 4 rfl) ?_
                  refine sBv (sV (As := [.int (iv 7), .int (iv tk)]) (rest := []) (k := 231) Cx (s_X12_wrong l G S57 (cd := 7) (tk := tk) hI57 (by omega) (by omega)) (c_X12_321 Cx rfl rfl (rmk_ok (by omega) (by decide))) hW (by decide) rfl rfl rfl hl.1 rfl (Nat.le_of_ble_eq_true rfl) dX12_oneRow_130 ⟨Nat.le_of_ble_eq_true rfl, Nat.le_of_ble_eq_true rfl⟩) hL (fun u_89 H locs k_90 hW hL => ?_)
                  obtain ⟨iu_89, fu_89, gu_89, xu_89⟩ := k_90
                  have F_91 := hFm57.trans (fu_89.to (pl_sub (by decide)))
                  have g_92 : FF S u_89 (fl [20, 21, 24, 25, 36, 42, 43]) := FF.trans hGm57 (FF.to gu_89 (fl_sub (by decide)))
                  refine lv_aload_n hx hb dX12_oneRow_133 rfl (lv_at hl 3 rfl) ?_
                  have q_94 : (-2147483648) ≤ u_89.1 231 20 ∧ u_89.1 231 20 ≤ 2147483647 := iu_89.fi 20
                  refine g_X12_270 Cx hW (k := 231) (by decide) rfl (v := u_89.1 231 20) rfl dX12_oneRow_134 ?_
                  refine r_if_eq (tgt := 141) hx hb ⟨(by omega), (by omega)⟩ dX12_oneRow_137 (by decide) (fun c => absurd c (by omega)) (fun _ => ?_)
                  have lk_95 : u_89.1 231 24 = (u_20.1 231 24) + 1 := (gu_89 24 rfl).trans ((gL57_ 24 rfl).trans (uF_on))
                  have q_96 : (-2147483648) ≤ u_20.1 231 42 ∧ u_20.1 231 42 ≤ 2147483647 := iu_20.fi 42
                  have lk_97 : u_89.1 231 42 = u_20.1 231 42 := (gu_89 42 rfl).trans ((gL57_ 42 rfl).trans (uF_ne (fun h => absurd h.2 (by decide))))
                  have lk_98 : u_89.1 231 36 = S.1 231 36 := (gu_89 36 rfl).trans ((gL57_ 36 rfl).trans ((uF_ne (fun h => absurd h.2 (by decide))).trans ((gu_20 36 rfl).trans ((uF_ne (fun h => absurd h.2 (by decide))).trans (gu_4 36 rfl)))))
                  exact sVret Cx hr hlk hW hL ⟨iu_89, F_91, g_92, ⟨⟨(fun x => by rw [show u_89.2.2.1 255 x = S.2.2.1 255 x from ((fu_89 255 rfl).2.2.1 x).trans (((hL57_ 255 rfl).2.2.1 x).trans ((uF_l).trans (((fu_20 255 rfl).2.2.1 x).trans ((uF_l).trans ((fu_4 255 rfl).2.2.1 x)))))]; exact hRB x), (fun _ => eRo_3 e1 e2 (.inr (by rw [hif]; omega))), (fun h => absurd h (by have e9 := (show u_89.1 231 20 = u_89.1 231 20 from rfl); have a9 := xu_89; omega))⟩, (fun h => absurd h (by have e9 := (show u_89.1 231 20 = u_89.1 231 20 from rfl); have a9 := xu_89; omega))⟩⟩ dX12_oneRow_140
              · have k13 : k a1 = 13 := h61.mp (by omega)
                have hif : (if k a1 = 13 then (2 : Int) else 1) = 2 := if_pos k13
                refine lv_iconst (v := iv 2) hx hb dX12_oneRow_115 (by decide) ?_
                refine lv_goto (tgt := 120) hx hb dX12_oneRow_116 (by decide) ?_
                refine r_iadd hx hb dX12_oneRow_120 ?_
                refine lv_bipush (v := iv 16) hx hb dX12_oneRow_121 (by decide) ?_
                refine r_icmp_le (tgt := 133) hx hb ⟨(by omega), (by omega)⟩ ⟨(by omega), (by omega)⟩ dX12_oneRow_123 (by decide) (fun c_99 => ?_) (fun c_99 => ?_)
                · refine lv_aload_n hx hb dX12_oneRow_133 rfl (lv_at hl 3 rfl) ?_
                  refine g_X12_270 Cx hW (k := 231) (by decide) rfl (v := u_20.1 231 20) ((gL57_ 20 rfl).trans (uF_ne (fun h => absurd h.2 (by decide)))) dX12_oneRow_134 ?_
                  refine r_if_eq (tgt := 141) hx hb ⟨(by omega), (by omega)⟩ dX12_oneRow_137 (by decide) (fun _ => ?_) (fun c => absurd (by omega) c)
                  have ngr : ¬ grt (vad V1 V2 (-1)) := (fun z => xu_31.2.2 (by omega) ((veq_grt wS).mpr z))
                  have hfb : ∀ x, 0 ≤ x → x ≤ 12 → -99999 ≤ S57.2.2.1 257 x ∧ S57.2.2.1 257 x ≤ 99999 := (fun x a b => by have y : -99999 ≤ S57.2.2.1 257 (0 + x) ∧ S57.2.2.1 257 (0 + x) ≤ 99999 := ((vb9_n ngr).eq wS) x a (by omega); rw [Int.zero_add] at y; exact y)
                  refine lv_iconst (v := iv 0) hx hb dX12_oneRow_141 (by decide) ?_
                  refine lv_istore (lv' := [(4, .int (iv 0)), (3, .int (iv (S.2.1 247 (u_4.1 231 24)))), (2, .int (iv (u_4.1 231 24))), (0, .ref (G.2.2.1 + 231)), (1, .int (iv tk))]) hx hb dX12_oneRow_142 hl (by decide) rfl (fun ls hl => ?_)
                  have loop_144 : ∀ (fuel : Nat) (S144 : sS) (i : Int) (H : Heap) (locs : List Loc) (ls : Array Slot), (2 - i).toNat < fuel → (dX G S144) → (Fr S S144 (pl [231, 248, 249, 250, 251, 252, 255, 257, 258])) → (Fr S57 S144 (pl [231, 255])) → (FF S S144 (fl [20, 21, 24, 25, 36, 42, 43])) → (FF S57 S144 (fl [36])) → (0 ≤ i ∧ i ≤ 2 ∧ S144.1 231 36 = S.1 231 36 + i) → (∀ x, -99999 ≤ S144.2.2.1 255 x ∧ S144.2.2.1 255 x ≤ 99999) → (Hd (∀ X, XAr S 1 X → XAr S144 1 (rwI X.1 (S.1 231 36) (vad V1 V2 (-1)) (k a1) i, X.2))) → sW G 294 S144 H → sL G locs → lv_has ls 8 [(4, .int (iv i)), (3, .int (iv (S.2.1 247 (u_4.1 231 24)))), (2, .int (iv (u_4.1 231 24))), (0, .ref (G.2.2.1 + 231)), (1, .int (iv tk))] → W p l e (rmk 136 0 0) s m args below meth c H locs 0 0 (MQ below (sQv G 294 (fun u => dX G u ∧ Fr S u (pl [231, 248, 249, 250, 251, 252, 255, 257, 258]) ∧ FF S u (fl [20, 21, 24, 25, 36, 42, 43]) ∧ (ROr S u N k v q (eRo T k v N (S.1 231 36) (S.1 231 42) pz) ∧ Hd (u.1 231 20 = 0 → ∀ X, XAr S 1 X → XAr u 1 (aRo T k v N X.1 (S.1 231 36) (S.1 231 42) pz, X.2))))) args s 0 0 (sF G)) (F0 m 144 ls []) := by
                    intro fuel
                    induction fuel with
                    | zero => intro S144 i H locs ls hmeas hI144 hFm144 hL144_ hGm144 gL144_ hi hB144 hXI hW hL hl; exact absurd hmeas (Nat.not_lt_zero _)
                    | succ fuel ih_144 =>
                      intro S144 i H locs ls hmeas hI144 hFm144 hL144_ hGm144 gL144_ hi hB144 hXI hW hL hl
                      refine lv_iload hx hb dX12_oneRow_144 (lv_at hl 0 rfl) ?_
                      refine lv_iload_n hx hb dX12_oneRow_146 rfl (lv_at hl 1 rfl) ?_
                      refine lv_bipush (v := iv 61) hx hb dX12_oneRow_147 (by decide) ?_
                      refine r_icmp_ne (tgt := 156) hx hb ⟨(by omega), (by omega)⟩ ⟨(by omega), (by omega)⟩ dX12_oneRow_149 (by decide) (fun c => absurd (by omega) c) (fun _ => ?_)
                      refine lv_iconst (v := iv 2) hx hb dX12_oneRow_152 (by decide) ?_
                      refine lv_goto (tgt := 157) hx hb dX12_oneRow_153 (by decide) ?_
                      refine r_icmp_ge (tgt := 280) hx hb ⟨(by omega), (by omega)⟩ ⟨(by omega), (by omega)⟩ dX12_oneRow_157 (by decide) (fun c_100 => ?_) (fun c_100 => ?_)
                      · have lk_101 : S144.1 231 20 = u_20.1 231 20 := (gL144_ 20 rfl).trans ((gL57_ 20 rfl).trans (uF_ne (fun h => absurd h.2 (by decide))))
                        have lk_102 : S144.1 231 24 = (u_20.1 231 24) + 1 := (gL144_ 24 rfl).trans ((gL57_ 24 rfl).trans (uF_on))
                        have q_103 : (-2147483648) ≤ u_20.1 231 42 ∧ u_20.1 231 42 ≤ 2147483647 := iu_20.fi 42
                        have lk_104 : S144.1 231 42 = u_20.1 231 42 := (gL144_ 42 rfl).trans ((gL57_ 42 rfl).trans (uF_ne (fun h => absurd h.2 (by decide))))
                        have q_105 : (-2147483648) ≤ S144.1 231 36 ∧ S144.1 231 36 ≤ 2147483647 := hI144.fi 36
                        have nr_106 : NRr N k v S144 := n2.of ((gL144_ 25 rfl).trans ((gL57_ 25 rfl).trans (uF_ne (fun h => absurd h.2 (by decide))))) (funext fun j => ((hL144_ 248 rfl).2.1 j).trans (((hL57_ 248 rfl).2.1 j).trans (uF_a))) (funext fun j => ((hL144_ 249 rfl).2.1 j).trans (((hL57_ 249 rfl).2.1 j).trans (uF_a))) (funext fun j => ((hL144_ 250 rfl).2.1 j).trans (((hL57_ 250 rfl).2.1 j).trans (uF_a))) (funext fun j => ((hL144_ 251 rfl).2.1 j).trans (((hL57_ 251 rfl).2.1 j).trans (uF_a))) (funext fun j => ((hL144_ 252 rfl).2.1 j).trans (((hL57_ 252 rfl).2.1 j).trans (uF_a))) (funext fun j => ((hL144_ 253 rfl).2.1 j).trans (((hL57_ 253 rfl).2.1 j).trans (uF_a)))
                        exact sVret Cx hr hlk hW hL ⟨hI144, hFm144, hGm144, ⟨⟨hB144, (fun h => absurd (show S144.1 231 20 = 0 by have e9 := (show S144.1 231 20 = u_20.1 231 20 from (gL144_ 20 rfl).trans ((gL57_ 20 rfl).trans (uF_ne (fun h => absurd h.2 (by decide))))); omega) h), (fun _ => ⟨(by rw [eRo_4 e1 e2 ngr (by rw [hif]; omega), hif, show S144.1 231 36 = S.1 231 36 + 2 by have z := (show S144.1 231 36 = S144.1 231 36 from rfl); omega, show S144.1 231 42 = u_20.1 231 42 from (show S144.1 231 42 = u_20.1 231 42 from (gL144_ 42 rfl).trans ((gL57_ 42 rfl).trans (uF_ne (fun h => absurd h.2 (by decide))))), hqb]), nr_106, (by have e7 := (show S144.1 231 24 = (u_20.1 231 24) + 1 from (gL144_ 24 rfl).trans ((gL57_ 24 rfl).trans (uF_on))); omega), (by rw [show S144.1 231 36 = S.1 231 36 + 2 by have z := (show S144.1 231 36 = S144.1 231 36 from rfl); omega]; omega), (by rw [show S144.1 231 42 = u_20.1 231 42 from (show S144.1 231 42 = u_20.1 231 42 from (gL144_ 42 rfl).trans ((gL57_ 42 rfl).trans (uF_ne (fun h => absurd h.2 (by decide)))))]; exact l2)⟩)⟩, (fun _ X hX => by rw [aRo_e e1 e2, ← rwI_2 k13]; have y := hXI X hX; rw [show i = 2 by omega] at y; exact y)⟩⟩ dX12_oneRow_280
                      · have join_176 : ∀ (fg : Int) (H : Heap) (locs : List Loc) (ls : Array Slot), (0 ≤ fg ∧ fg ≤ 1) → ((fg = 1 → V a1 = 3 ∨ i = 1) ∧ (fg = 0 → V a1 ≠ 3 ∧ i ≠ 1)) → sW G 294 S144 H → sL G locs → lv_has ls 8 [(4, .int (iv i)), (3, .int (iv (S.2.1 247 (u_4.1 231 24)))), (2, .int (iv (u_4.1 231 24))), (0, .ref (G.2.2.1 + 231)), (1, .int (iv tk))] → W p l e (rmk 136 0 0) s m args below meth c H locs 0 0 (MQ below (sQv G 294 (fun u => dX G u ∧ Fr S u (pl [231, 248, 249, 250, 251, 252, 255, 257, 258]) ∧ FF S u (fl [20, 21, 24, 25, 36, 42, 43]) ∧ (ROr S u N k v q (eRo T k v N (S.1 231 36) (S.1 231 42) pz) ∧ Hd (u.1 231 20 = 0 → ∀ X, XAr S 1 X → XAr u 1 (aRo T k v N X.1 (S.1 231 36) (S.1 231 42) pz, X.2))))) args s 0 0 (sF G)) (F0 m 176 ls [.int (iv fg)]) := by
                          intro fg H locs ls hfg hfgv hW hL hl
                          refine lv_istore (lv' := [(5, .int (iv fg)), (4, .int (iv i)), (3, .int (iv (S.2.1 247 (u_4.1 231 24)))), (2, .int (iv (u_4.1 231 24))), (0, .ref (G.2.2.1 + 231)), (1, .int (iv tk))]) hx hb dX12_oneRow_176 hl (by decide) rfl (fun ls hl => ?_)
                          refine lv_aload_n hx hb dX12_oneRow_178 rfl (lv_at hl 4 rfl) ?_
                          refine lv_dup hx hb dX12_oneRow_179 rfl ?_
                          have q_107 : (-2147483648) ≤ S144.1 231 36 ∧ S144.1 231 36 ≤ 2147483647 := hI144.fi 36
                          refine g_X12_382 Cx hW (k := 231) (by decide) rfl (v := S144.1 231 36) rfl dX12_oneRow_180 ?_
                          refine lv_iconst (v := iv 1) hx hb dX12_oneRow_183 (by decide) ?_
                          refine r_iadd hx hb dX12_oneRow_184 ?_
                          refine p_X12_382 Cx hW hL (k := 231) (by decide) rfl dX12_oneRow_185 (fun H locs hW hL => ?_)
                          have F_108 : Fr S (uF S144 231 36 ((S144.1 231 36) + 1)) (pl [231, 248, 249, 250, 251, 252, 255, 257, 258]) := hFm144.F rfl
                          have F_109 : Fr S57 (uF S144 231 36 ((S144.1 231 36) + 1)) (pl [231, 255]) := hL144_.F rfl
                          have g_110 : FF S (uF S144 231 36 ((S144.1 231 36) + 1)) (fl [20, 21, 24, 25, 36, 42, 43]) := FF.F hGm144 rfl
                          have g_111 : FF S57 (uF S144 231 36 ((S144.1 231 36) + 1)) (fl [36]) := FF.F gL144_ rfl
                          have i_112 : dX G (uF S144 231 36 ((S144.1 231 36) + 1)) := hI144.F (i := 36) (show (-2147483648) ≤ (S144.1 231 36) + 1 ∧ (S144.1 231 36) + 1 ≤ 2147483647 from ⟨by omega, by omega⟩)
                          refine lv_bipush (v := iv 13) hx hb dX12_oneRow_188 (by decide) ?_
                          refine lv_aload_n hx hb dX12_oneRow_190 rfl (lv_at hl 4 rfl) ?_
                          refine g_X12_382 Cx hW (k := 231) (by decide) rfl (v := (S144.1 231 36) + 1) uF_on dX12_oneRow_191 ?_
                          refine r_imul hx hb dX12_oneRow_194 ?_
                          refine lv_istore (lv' := [(6, .int (iv (13 * ((S144.1 231 36) + 1)))), (5, .int (iv fg)), (4, .int (iv i)), (3, .int (iv (S.2.1 247 (u_4.1 231 24)))), (2, .int (iv (u_4.1 231 24))), (0, .ref (G.2.2.1 + 231)), (1, .int (iv tk))]) hx hb dX12_oneRow_195 hl (by decide) rfl (fun ls hl => ?_)
                          refine lv_aload_n hx hb dX12_oneRow_197 rfl (lv_at hl 5 rfl) ?_
                          refine g_X12_81 Cx hW (k := 231) (by decide) rfl (v := .ref (G.2.2.1 + 255)) (rd_38 i_112) dX12_oneRow_198 ?_
                          refine lv_iload hx hb dX12_oneRow_201 (lv_at hl 0 rfl) ?_
                          refine lv_iload hx hb dX12_oneRow_203 (lv_at hl 1 rfl) ?_
                          refine r_if_eq (tgt := 217) hx hb ⟨(by omega), (by omega)⟩ dX12_oneRow_205 (by decide) (fun c_113 => ?_) (fun c_113 => ?_)
                          · have hf_0 := hfb 0 (by omega) (by omega)
                            have hd0 : S57.2.2.1 257 0 = (vad V1 V2 (-1)) 0 := (by have y : S57.2.2.1 257 (0 + 0) = _ := wS 0 (by omega) (by omega); rw [Int.zero_add] at y; exact y)
                            refine lv_aload_n hx hb dX12_oneRow_217 rfl (lv_at hl 5 rfl) ?_
                            refine g_X12_88 Cx hW (k := 231) (by decide) rfl (v := .ref (G.2.2.1 + 257)) (rd_41 i_112) dX12_oneRow_218 ?_
                            refine lv_iconst (v := iv 0) hx hb dX12_oneRow_221 (by decide) ?_
                            refine rLald Cx hW (k := 257) (by decide) rfl (by decide) (by omega) (by omega) dX12_oneRow_222 ?_
                            have q_114 : -9223372036854775808 ≤ S57.2.2.1 257 0 ∧ S57.2.2.1 257 0 ≤ 9223372036854775807 := hI57.li 257 0
                            refine r_j (b := S57.2.2.1 257 0) ((uF_l).trans ((hL144_ 257 rfl).2.2.1 0)) ?_
                            refine r_lneg hx hb dX12_oneRow_223 ?_
                            refine rLast Cx hW hL (k := 255) (by decide) rfl (by decide) (by omega) (by omega) dX12_oneRow_224 (fun H locs hW hL => ?_)
                            have F_115 : Fr S (uL (uF S144 231 36 ((S144.1 231 36) + 1)) 255 (13 * ((S144.1 231 36) + 1)) (-(S57.2.2.1 257 0))) (pl [231, 248, 249, 250, 251, 252, 255, 257, 258]) := F_108.L rfl
                            have F_116 : Fr S57 (uL (uF S144 231 36 ((S144.1 231 36) + 1)) 255 (13 * ((S144.1 231 36) + 1)) (-(S57.2.2.1 257 0))) (pl [231, 255]) := F_109.L rfl
                            have i_117 : dX G (uL (uF S144 231 36 ((S144.1 231 36) + 1)) 255 (13 * ((S144.1 231 36) + 1)) (-(S57.2.2.1 257 0))) := i_112.L ⟨by omega, by omega⟩
                            refine lv_iconst (v := iv 1) hx hb dX12_oneRow_225 (by decide) ?_
                            refine lv_istore (lv' := [(7, .int (iv 1)), (6, .int (iv (13 * ((S144.1 231 36) + 1)))), (5, .int (iv fg)), (4, .int (iv i)), (3, .int (iv (S.2.1 247 (u_4.1 231 24)))), (2, .int (iv (u_4.1 231 24))), (0, .ref (G.2.2.1 + 231)), (1, .int (iv tk))]) hx hb dX12_oneRow_226 hl (by decide) rfl (fun ls hl => ?_)
                            have loop_228 : ∀ (fuel : Nat) (S228 : sS) (kj : Int) (H : Heap) (locs : List Loc) (ls : Array Slot), (13 - kj).toNat < fuel → (dX G S228) → (Fr S S228 (pl [231, 248, 249, 250, 251, 252, 255, 257, 258])) → (Fr S57 S228 (pl [231, 255])) → (Fr ((uL (uF S144 231 36 ((S144.1 231 36) + 1)) 255 (13 * ((S144.1 231 36) + 1)) (-(S57.2.2.1 257 0)))) S228 (pl [255])) → (FF S S228 (fl [20, 21, 24, 25, 36, 42, 43])) → (FF S57 S228 (fl [36])) → (FF ((uL (uF S144 231 36 ((S144.1 231 36) + 1)) 255 (13 * ((S144.1 231 36) + 1)) (-(S57.2.2.1 257 0)))) S228 (fl [])) → (1 ≤ kj ∧ kj ≤ 13) → (∀ x, -99999 ≤ S228.2.2.1 255 x ∧ S228.2.2.1 255 x ≤ 99999) → (Hd (∀ x, x < (13 * (S144.1 231 36 + 1)) → S228.2.2.1 255 x = S144.2.2.1 255 x)) → (Hd (∀ j, 0 ≤ j → j < kj → S228.2.2.1 255 ((13 * (S144.1 231 36 + 1)) + j) = lin (vad V1 V2 (-1)) (tqr fg) j)) → sW G 294 S228 H → sL G locs → lv_has ls 8 [(7, .int (iv kj)), (6, .int (iv (13 * ((S144.1 231 36) + 1)))), (5, .int (iv fg)), (4, .int (iv i)), (3, .int (iv (S.2.1 247 (u_4.1 231 24)))), (2, .int (iv (u_4.1 231 24))), (0, .ref (G.2.2.1 + 231)), (1, .int (iv tk))] → W p l e (rmk 136 0 0) s m args below meth c H locs 0 0 (MQ below (sQv G 294 (fun u => dX G u ∧ Fr S u (pl [231, 248, 249, 250, 251, 252, 255, 257, 258]) ∧ FF S u (fl [20, 21, 24, 25, 36, 42, 43]) ∧ (ROr S u N k v q (eRo T k v N (S.1 231 36) (S.1 231 42) pz) ∧ Hd (u.1 231 20 = 0 → ∀ X, XAr S 1 X → XAr u 1 (aRo T k v N X.1 (S.1 231 36) (S.1 231 42) pz, X.2))))) args s 0 0 (sF G)) (F0 m 228 ls []) := by
                              intro fuel
                              induction fuel with
                              | zero => intro S228 kj H locs ls hmeas hI228 hFm228 hFL144228 hL228_ hGm228 hGL144228 gL228_ hk hB228 hLo hRo hW hL hl; exact absurd hmeas (Nat.not_lt_zero _)
                              | succ fuel ih_228 =>
                                intro S228 kj H locs ls hmeas hI228 hFm228 hFL144228 hL228_ hGm228 hGL144228 gL228_ hk hB228 hLo hRo hW hL hl
                                refine lv_iload hx hb dX12_oneRow_228 (lv_at hl 0 rfl) ?_
                                refine lv_bipush (v := iv 12) hx hb dX12_oneRow_230 (by decide) ?_
                                refine r_icmp_gt (tgt := 274) hx hb ⟨(by omega), (by omega)⟩ ⟨(by omega), (by omega)⟩ dX12_oneRow_232 (by decide) (fun c_118 => ?_) (fun c_118 => ?_)
                                · refine lv_iinc (v := iv (i + 1)) (lv' := [(4, .int (iv (i + 1))), (7, .int (iv kj)), (6, .int (iv (13 * ((S144.1 231 36) + 1)))), (5, .int (iv fg)), (3, .int (iv (S.2.1 247 (u_4.1 231 24)))), (2, .int (iv (u_4.1 231 24))), (0, .ref (G.2.2.1 + 231)), (1, .int (iv tk))]) hx hb dX12_oneRow_274 hl (k := 3) rfl ((Int32.ofInt_add _ _).symm) (by decide) rfl (fun ls hl => ?_)
                                  refine lv_goto (tgt := 144) hx hb dX12_oneRow_277 (by decide) ?_
                                  have lk_119 : S228.1 231 36 = (S144.1 231 36) + 1 := (gL228_ 36 rfl).trans ((uL_f).trans (uF_on))
                                  exact ih_144 S228 (i + 1) _ _ _ (by omega) hI228 hFm228 hFL144228 hGm228 hGL144228 (by omega) hB228 (fun X hX => XAr.ro (fg := fg) (hXI X hX) (by omega) (by omega) (by omega) (by omega) hfg (by omega) ((gL228_ 35 rfl).trans ((uL_f).trans (uF_ne (fun h => absurd h.2 (by decide))))) (by have e9 := (show S228.1 231 36 = (S144.1 231 36) + 1 from (gL228_ 36 rfl).trans ((uL_f).trans (uF_on))); omega) (funext fun j => ((hL228_ 256 rfl).2.2.1 j).trans ((uL_ne (fun h => absurd h.1 (by decide))).trans (uF_l))) (funext fun j => ((hL228_ 254 rfl).2.1 j).trans ((uL_a).trans (uF_a))) (fun x a => hLo x a) (fun j a c => hRo j a (by omega))) hW hL (lv_sub hl [0, 4, 5, 6, 7] rfl)
                                · have hfk := hfb kj (by omega) (by omega)
                                  have hdk : S57.2.2.1 257 kj = (vad V1 V2 (-1)) kj := (by have y : S57.2.2.1 257 (0 + kj) = _ := wS kj (by omega) (by omega); rw [Int.zero_add] at y; exact y)
                                  refine lv_aload_n hx hb dX12_oneRow_235 rfl (lv_at hl 6 rfl) ?_
                                  refine g_X12_81 Cx hW (k := 231) (by decide) rfl (v := .ref (G.2.2.1 + 255)) (rd_38 hI228) dX12_oneRow_236 ?_
                                  refine lv_iload hx hb dX12_oneRow_239 (lv_at hl 1 rfl) ?_
                                  refine lv_iload hx hb dX12_oneRow_241 (lv_at hl 0 rfl) ?_
                                  refine r_iadd hx hb dX12_oneRow_243 ?_
                                  refine lv_iload hx hb dX12_oneRow_244 (lv_at hl 2 rfl) ?_
                                  refine r_if_eq (tgt := 260) hx hb ⟨(by omega), (by omega)⟩ dX12_oneRow_246 (by decide) (fun c_120 => ?_) (fun c_120 => ?_)
                                  · refine lv_aload_n hx hb dX12_oneRow_260 rfl (lv_at hl 6 rfl) ?_
                                    refine g_X12_88 Cx hW (k := 231) (by decide) rfl (v := .ref (G.2.2.1 + 257)) (rd_41 hI228) dX12_oneRow_261 ?_
                                    refine lv_iload hx hb dX12_oneRow_264 (lv_at hl 0 rfl) ?_
                                    refine rLald Cx hW (k := 257) (by decide) rfl (by decide) (by omega) (by omega) dX12_oneRow_266 ?_
                                    have q_121 : -9223372036854775808 ≤ S57.2.2.1 257 kj ∧ S57.2.2.1 257 kj ≤ 9223372036854775807 := hI57.li 257 kj
                                    refine r_j (b := S57.2.2.1 257 kj) (((hL228_ 257 rfl).2.2.1 kj).trans ((uL_ne (fun h => absurd h.1 (by decide))).trans ((uF_l).trans ((hL144_ 257 rfl).2.2.1 kj)))) ?_
                                    refine rLast Cx hW hL (k := 255) (by decide) rfl (by decide) (by omega) (by omega) dX12_oneRow_267 (fun H locs hW hL => ?_)
                                    have F_122 : Fr S (uL S228 255 ((13 * ((S144.1 231 36) + 1)) + kj) (S57.2.2.1 257 kj)) (pl [231, 248, 249, 250, 251, 252, 255, 257, 258]) := hFm228.L rfl
                                    have F_123 : Fr S57 (uL S228 255 ((13 * ((S144.1 231 36) + 1)) + kj) (S57.2.2.1 257 kj)) (pl [231, 255]) := hFL144228.L rfl
                                    have F_124 : Fr ((uL (uF S144 231 36 ((S144.1 231 36) + 1)) 255 (13 * ((S144.1 231 36) + 1)) (-(S57.2.2.1 257 0)))) (uL S228 255 ((13 * ((S144.1 231 36) + 1)) + kj) (S57.2.2.1 257 kj)) (pl [255]) := hL228_.L rfl
                                    have i_125 : dX G (uL S228 255 ((13 * ((S144.1 231 36) + 1)) + kj) (S57.2.2.1 257 kj)) := hI228.L ⟨by omega, by omega⟩
                                    refine lv_iinc (v := iv (kj + 1)) (lv' := [(7, .int (iv (kj + 1))), (6, .int (iv (13 * ((S144.1 231 36) + 1)))), (5, .int (iv fg)), (4, .int (iv i)), (3, .int (iv (S.2.1 247 (u_4.1 231 24)))), (2, .int (iv (u_4.1 231 24))), (0, .ref (G.2.2.1 + 231)), (1, .int (iv tk))]) hx hb dX12_oneRow_268 hl (k := 0) rfl ((Int32.ofInt_add _ _).symm) (by decide) rfl (fun ls hl => ?_)
                                    refine lv_goto (tgt := 228) hx hb dX12_oneRow_271 (by decide) ?_
                                    exact ih_228 (uL S228 255 ((13 * ((S144.1 231 36) + 1)) + kj) (S57.2.2.1 257 kj)) (kj + 1) _ _ _ (by omega) i_125 F_122 F_123 F_124 hGm228 hGL144228 gL228_ (by omega) (fun x => by rw [show (uL S228 255 ((13 * ((S144.1 231 36) + 1)) + kj) (S57.2.2.1 257 kj)).2.2.1 255 x = (uL S228 255 ((13 * ((S144.1 231 36) + 1)) + kj) (S57.2.2.1 257 kj)).2.2.1 255 x from rfl, uL_get]; split; (omega); (rw [show S228.2.2.1 255 x = S228.2.2.1 255 x from rfl]; exact hB228 x)) (fun x a => by rw [show (uL S228 255 ((13 * ((S144.1 231 36) + 1)) + kj) (S57.2.2.1 257 kj)).2.2.1 255 x = (uL S228 255 ((13 * ((S144.1 231 36) + 1)) + kj) (S57.2.2.1 257 kj)).2.2.1 255 x from rfl, uL_ne (fun h => by have h2 := h.2; omega)]; exact (rfl).trans (hLo x a)) (fun j a b => by by_cases z : j = kj; (rw [z, show (uL S228 255 ((13 * ((S144.1 231 36) + 1)) + kj) (S57.2.2.1 257 kj)).2.2.1 255 ((13 * (S144.1 231 36 + 1)) + kj) = (uL S228 255 ((13 * ((S144.1 231 36) + 1)) + kj) (S57.2.2.1 257 kj)).2.2.1 255 ((13 * (S144.1 231 36 + 1)) + kj) from rfl, uL_get, if_pos ⟨rfl, (by omega)⟩]; unfold lin; rw [if_neg (by omega)]; unfold tqr; first | (rw [if_pos (by omega)]; omega) | (rw [if_neg (by omega)]; omega)); (rw [show (uL S228 255 ((13 * ((S144.1 231 36) + 1)) + kj) (S57.2.2.1 257 kj)).2.2.1 255 ((13 * (S144.1 231 36 + 1)) + j) = (uL S228 255 ((13 * ((S144.1 231 36) + 1)) + kj) (S57.2.2.1 257 kj)).2.2.1 255 ((13 * (S144.1 231 36 + 1)) + j) from rfl, uL_ne (fun h => by have h2 := h.2; omega)]; exact (rfl).trans (hRo j a (by omega)))) hW hL (lv_sub hl [0, 1, 2, 3, 4, 5, 6, 7] rfl)
                                  · refine lv_aload_n hx hb dX12_oneRow_249 rfl (lv_at hl 6 rfl) ?_
                                    refine g_X12_88 Cx hW (k := 231) (by decide) rfl (v := .ref (G.2.2.1 + 257)) (rd_41 hI228) dX12_oneRow_250 ?_
                                    refine lv_iload hx hb dX12_oneRow_253 (lv_at hl 0 rfl) ?_
                                    refine rLald Cx hW (k := 257) (by decide) rfl (by decide) (by omega) (by omega) dX12_oneRow_255 ?_
                                    have q_126 : -9223372036854775808 ≤ S57.2.2.1 257 kj ∧ S57.2.2.1 257 kj ≤ 9223372036854775807 := hI57.li 257 kj
                                    refine r_j (b := S57.2.2.1 257 kj) (((hL228_ 257 rfl).2.2.1 kj).trans ((uL_ne (fun h => absurd h.1 (by decide))).trans ((uF_l).trans ((hL144_ 257 rfl).2.2.1 kj)))) ?_
                                    refine r_lneg hx hb dX12_oneRow_256 ?_
                                    refine lv_goto (tgt := 267) hx hb dX12_oneRow_257 (by decide) ?_
                                    refine rLast Cx hW hL (k := 255) (by decide) rfl (by decide) (by omega) (by omega) dX12_oneRow_267 (fun H locs hW hL => ?_)
                                    have F_127 : Fr S (uL S228 255 ((13 * ((S144.1 231 36) + 1)) + kj) (-(S57.2.2.1 257 kj))) (pl [231, 248, 249, 250, 251, 252, 255, 257, 258]) := hFm228.L rfl
                                    have F_128 : Fr S57 (uL S228 255 ((13 * ((S144.1 231 36) + 1)) + kj) (-(S57.2.2.1 257 kj))) (pl [231, 255]) := hFL144228.L rfl
                                    have F_129 : Fr ((uL (uF S144 231 36 ((S144.1 231 36) + 1)) 255 (13 * ((S144.1 231 36) + 1)) (-(S57.2.2.1 257 0)))) (uL S228 255 ((13 * ((S144.1 231 36) + 1)) + kj) (-(S57.2.2.1 257 kj))) (pl [255]) := hL228_.L rfl
                                    have i_130 : dX G (uL S228 255 ((13 * ((S144.1 231 36) + 1)) + kj) (-(S57.2.2.1 257 kj))) := hI228.L ⟨by omega, by omega⟩
                                    refine lv_iinc (v := iv (kj + 1)) (lv' := [(7, .int (iv (kj + 1))), (6, .int (iv (13 * ((S144.1 231 36) + 1)))), (5, .int (iv fg)), (4, .int (iv i)), (3, .int (iv (S.2.1 247 (u_4.1 231 24)))), (2, .int (iv (u_4.1 231 24))), (0, .ref (G.2.2.1 + 231)), (1, .int (iv tk))]) hx hb dX12_oneRow_268 hl (k := 0) rfl ((Int32.ofInt_add _ _).symm) (by decide) rfl (fun ls hl => ?_)
                                    refine lv_goto (tgt := 228) hx hb dX12_oneRow_271 (by decide) ?_
                                    exact ih_228 (uL S228 255 ((13 * ((S144.1 231 36) + 1)) + kj) (-(S57.2.2.1 257 kj))) (kj + 1) _ _ _ (by omega) i_130 F_127 F_128 F_129 hGm228 hGL144228 gL228_ (by omega) (fun x => by rw [show (uL S228 255 ((13 * ((S144.1 231 36) + 1)) + kj) (-(S57.2.2.1 257 kj))).2.2.1 255 x = (uL S228 255 ((13 * ((S144.1 231 36) + 1)) + kj) (-(S57.2.2.1 257 kj))).2.2.1 255 x from rfl, uL_get]; split; (omega); (rw [show S228.2.2.1 255 x = S228.2.2.1 255 x from rfl]; exact hB228 x)) (fun x a => by rw [show (uL S228 255 ((13 * ((S144.1 231 36) + 1)) + kj) (-(S57.2.2.1 257 kj))).2.2.1 255 x = (uL S228 255 ((13 * ((S144.1 231 36) + 1)) + kj) (-(S57.2.2.1 257 kj))).2.2.1 255 x from rfl, uL_ne (fun h => by have h2 := h.2; omega)]; exact (rfl).trans (hLo x a)) (fun j a b => by by_cases z : j = kj; (rw [z, show (uL S228 255 ((13 * ((S144.1 231 36) + 1)) + kj) (-(S57.2.2.1 257 kj))).2.2.1 255 ((13 * (S144.1 231 36 + 1)) + kj) = (uL S228 255 ((13 * ((S144.1 231 36) + 1)) + kj) (-(S57.2.2.1 257 kj))).2.2.1 255 ((13 * (S144.1 231 36 + 1)) + kj) from rfl, uL_get, if_pos ⟨rfl, (by omega)⟩]; unfold lin; rw [if_neg (by omega)]; unfold tqr; first | (rw [if_pos (by omega)]; omega) | (rw [if_neg (by omega)]; omega)); (rw [show (uL S228 255 ((13 * ((S144.1 231 36) + 1)) + kj) (-(S57.2.2.1 257 kj))).2.2.1 255 ((13 * (S144.1 231 36 + 1)) + j) = (uL S228 255 ((13 * ((S144.1 231 36) + 1)) + kj) (-(S57.2.2.1 257 kj))).2.2.1 255 ((13 * (S144.1 231 36 + 1)) + j) from rfl, uL_ne (fun h => by have h2 := h.2; omega)]; exact (rfl).trans (hRo j a (by omega)))) hW hL (lv_sub hl [0, 1, 2, 3, 4, 5, 6, 7] rfl)
                            exact loop_228 (_ + 1) (uL (uF S144 231 36 ((S144.1 231 36) + 1)) 255 (13 * ((S144.1 231 36) + 1)) (-(S57.2.2.1 257 0))) 1 _ _ _ (Nat.lt_succ_self _) i_117 F_115 F_116 Fr.rf g_110 g_111 FF.rf (by omega) (fun x => by rw [show (uL (uF S144 231 36 ((S144.1 231 36) + 1)) 255 (13 * ((S144.1 231 36) + 1)) (-(S57.2.2.1 257 0))).2.2.1 255 x = (uL (uF S144 231 36 ((S144.1 231 36) + 1)) 255 (13 * ((S144.1 231 36) + 1)) (-(S57.2.2.1 257 0))).2.2.1 255 x from rfl, uL_get]; split; (omega); (rw [show (uF S144 231 36 ((S144.1 231 36) + 1)).2.2.1 255 x = S144.2.2.1 255 x from uF_l]; exact hB144 x)) (fun x a => by rw [show (uL (uF S144 231 36 ((S144.1 231 36) + 1)) 255 (13 * ((S144.1 231 36) + 1)) (-(S57.2.2.1 257 0))).2.2.1 255 x = (uL (uF S144 231 36 ((S144.1 231 36) + 1)) 255 (13 * ((S144.1 231 36) + 1)) (-(S57.2.2.1 257 0))).2.2.1 255 x from rfl, uL_ne (fun h => by have h2 := h.2; omega)]; exact (uF_l)) (fun j a b => by have z : j = 0 := (by omega); rw [z, show (uL (uF S144 231 36 ((S144.1 231 36) + 1)) 255 (13 * ((S144.1 231 36) + 1)) (-(S57.2.2.1 257 0))).2.2.1 255 ((13 * (S144.1 231 36 + 1)) + 0) = (uL (uF S144 231 36 ((S144.1 231 36) + 1)) 255 (13 * ((S144.1 231 36) + 1)) (-(S57.2.2.1 257 0))).2.2.1 255 ((13 * (S144.1 231 36 + 1)) + 0) from rfl, uL_get, if_pos ⟨rfl, (by omega)⟩]; unfold lin; rw [if_pos rfl]; unfold tqr; first | (rw [if_pos (by omega)]; omega) | (rw [if_neg (by omega)]; omega)) hW hL (lv_sub hl [0, 1, 2, 3, 4, 5, 6, 7] rfl)
                          · have hf_0 := hfb 0 (by omega) (by omega)
                            have hd0 : S57.2.2.1 257 0 = (vad V1 V2 (-1)) 0 := (by have y : S57.2.2.1 257 (0 + 0) = _ := wS 0 (by omega) (by omega); rw [Int.zero_add] at y; exact y)
                            refine lv_aload_n hx hb dX12_oneRow_208 rfl (lv_at hl 5 rfl) ?_
                            refine g_X12_88 Cx hW (k := 231) (by decide) rfl (v := .ref (G.2.2.1 + 257)) (rd_41 i_112) dX12_oneRow_209 ?_
                            refine lv_iconst (v := iv 0) hx hb dX12_oneRow_212 (by decide) ?_
                            refine rLald Cx hW (k := 257) (by decide) rfl (by decide) (by omega) (by omega) dX12_oneRow_213 ?_
                            have q_131 : -9223372036854775808 ≤ S57.2.2.1 257 0 ∧ S57.2.2.1 257 0 ≤ 9223372036854775807 := hI57.li 257 0
                            refine r_j (b := S57.2.2.1 257 0) ((uF_l).trans ((hL144_ 257 rfl).2.2.1 0)) ?_
                            refine lv_goto (tgt := 224) hx hb dX12_oneRow_214 (by decide) ?_
                            refine rLast Cx hW hL (k := 255) (by decide) rfl (by decide) (by omega) (by omega) dX12_oneRow_224 (fun H locs hW hL => ?_)
                            have F_132 : Fr S (uL (uF S144 231 36 ((S144.1 231 36) + 1)) 255 (13 * ((S144.1 231 36) + 1)) (S57.2.2.1 257 0)) (pl [231, 248, 249, 250, 251, 252, 255, 257, 258]) := F_108.L rfl
                            have F_133 : Fr S57 (uL (uF S144 231 36 ((S144.1 231 36) + 1)) 255 (13 * ((S144.1 231 36) + 1)) (S57.2.2.1 257 0)) (pl [231, 255]) := F_109.L rfl
                            have i_134 : dX G (uL (uF S144 231 36 ((S144.1 231 36) + 1)) 255 (13 * ((S144.1 231 36) + 1)) (S57.2.2.1 257 0)) := i_112.L ⟨by omega, by omega⟩
                            refine lv_iconst (v := iv 1) hx hb dX12_oneRow_225 (by decide) ?_
                            refine lv_istore (lv' := [(7, .int (iv 1)), (6, .int (iv (13 * ((S144.1 231 36) + 1)))), (5, .int (iv fg)), (4, .int (iv i)), (3, .int (iv (S.2.1 247 (u_4.1 231 24)))), (2, .int (iv (u_4.1 231 24))), (0, .ref (G.2.2.1 + 231)), (1, .int (iv tk))]) hx hb dX12_oneRow_226 hl (by decide) rfl (fun ls hl => ?_)
                            have loop_228 : ∀ (fuel : Nat) (S228 : sS) (kj : Int) (H : Heap) (locs : List Loc) (ls : Array Slot), (13 - kj).toNat < fuel → (dX G S228) → (Fr S S228 (pl [231, 248, 249, 250, 251, 252, 255, 257, 258])) → (Fr S57 S228 (pl [231, 255])) → (Fr ((uL (uF S144 231 36 ((S144.1 231 36) + 1)) 255 (13 * ((S144.1 231 36) + 1)) (S57.2.2.1 257 0))) S228 (pl [255])) → (FF S S228 (fl [20, 21, 24, 25, 36, 42, 43])) → (FF S57 S228 (fl [36])) → (FF ((uL (uF S144 231 36 ((S144.1 231 36) + 1)) 255 (13 * ((S144.1 231 36) + 1)) (S57.2.2.1 257 0))) S228 (fl [])) → (1 ≤ kj ∧ kj ≤ 13) → (∀ x, -99999 ≤ S228.2.2.1 255 x ∧ S228.2.2.1 255 x ≤ 99999) → (Hd (∀ x, x < (13 * (S144.1 231 36 + 1)) → S228.2.2.1 255 x = S144.2.2.1 255 x)) → (Hd (∀ j, 0 ≤ j → j < kj → S228.2.2.1 255 ((13 * (S144.1 231 36 + 1)) + j) = lin (vad V1 V2 (-1)) (tqr fg) j)) → sW G 294 S228 H → sL G locs → lv_has ls 8 [(7, .int (iv kj)), (6, .int (iv (13 * ((S144.1 231 36) + 1)))), (5, .int (iv fg)), (4, .int (iv i)), (3, .int (iv (S.2.1 247 (u_4.1 231 24)))), (2, .int (iv (u_4.1 231 24))), (0, .ref (G.2.2.1 + 231)), (1, .int (iv tk))] → W p l e (rmk 136 0 0) s m args below meth c H locs 0 0 (MQ below (sQv G 294 (fun u => dX G u ∧ Fr S u (pl [231, 248, 249, 250, 251, 252, 255, 257, 258]) ∧ FF S u (fl [20, 21, 24, 25, 36, 42, 43]) ∧ (ROr S u N k v q (eRo T k v N (S.1 231 36) (S.1 231 42) pz) ∧ Hd (u.1 231 20 = 0 → ∀ X, XAr S 1 X → XAr u 1 (aRo T k v N X.1 (S.1 231 36) (S.1 231 42) pz, X.2))))) args s 0 0 (sF G)) (F0 m 228 ls []) := by
                              intro fuel
                              induction fuel with
                              | zero => intro S228 kj H locs ls hmeas hI228 hFm228 hFL144228 hL228_ hGm228 hGL144228 gL228_ hk hB228 hLo hRo hW hL hl; exact absurd hmeas (Nat.not_lt_zero _)
                              | succ fuel ih_228 =>
                                intro S228 kj H locs ls hmeas hI228 hFm228 hFL144228 hL228_ hGm228 hGL144228 gL228_ hk hB228 hLo hRo hW hL hl
                                refine lv_iload hx hb dX12_oneRow_228 (lv_at hl 0 rfl) ?_
                                refine lv_bipush (v := iv 12) hx hb dX12_oneRow_230 (by decide) ?_
                                refine r_icmp_gt (tgt := 274) hx hb ⟨(by omega), (by omega)⟩ ⟨(by omega), (by omega)⟩ dX12_oneRow_232 (by decide) (fun c_135 => ?_) (fun c_135 => ?_)
                                · refine lv_iinc (v := iv (i + 1)) (lv' := [(4, .int (iv (i + 1))), (7, .int (iv kj)), (6, .int (iv (13 * ((S144.1 231 36) + 1)))), (5, .int (iv fg)), (3, .int (iv (S.2.1 247 (u_4.1 231 24)))), (2, .int (iv (u_4.1 231 24))), (0, .ref (G.2.2.1 + 231)), (1, .int (iv tk))]) hx hb dX12_oneRow_274 hl (k := 3) rfl ((Int32.ofInt_add _ _).symm) (by decide) rfl (fun ls hl => ?_)
                                  refine lv_goto (tgt := 144) hx hb dX12_oneRow_277 (by decide) ?_
                                  have lk_136 : S228.1 231 36 = (S144.1 231 36) + 1 := (gL228_ 36 rfl).trans ((uL_f).trans (uF_on))
                                  exact ih_144 S228 (i + 1) _ _ _ (by omega) hI228 hFm228 hFL144228 hGm228 hGL144228 (by omega) hB228 (fun X hX => XAr.ro (fg := fg) (hXI X hX) (by omega) (by omega) (by omega) (by omega) hfg (by omega) ((gL228_ 35 rfl).trans ((uL_f).trans (uF_ne (fun h => absurd h.2 (by decide))))) (by have e9 := (show S228.1 231 36 = (S144.1 231 36) + 1 from (gL228_ 36 rfl).trans ((uL_f).trans (uF_on))); omega) (funext fun j => ((hL228_ 256 rfl).2.2.1 j).trans ((uL_ne (fun h => absurd h.1 (by decide))).trans (uF_l))) (funext fun j => ((hL228_ 254 rfl).2.1 j).trans ((uL_a).trans (uF_a))) (fun x a => hLo x a) (fun j a c => hRo j a (by omega))) hW hL (lv_sub hl [0, 4, 5, 6, 7] rfl)
                                · have hfk := hfb kj (by omega) (by omega)
                                  have hdk : S57.2.2.1 257 kj = (vad V1 V2 (-1)) kj := (by have y : S57.2.2.1 257 (0 + kj) = _ := wS kj (by omega) (by omega); rw [Int.zero_add] at y; exact y)
                                  refine lv_aload_n hx hb dX12_oneRow_235 rfl (lv_at hl 6 rfl) ?_
                                  refine g_X12_81 Cx hW (k := 231) (by decide) rfl (v := .ref (G.2.2.1 + 255)) (rd_38 hI228) dX12_oneRow_236 ?_
                                  refine lv_iload hx hb dX12_oneRow_239 (lv_at hl 1 rfl) ?_
                                  refine lv_iload hx hb dX12_oneRow_241 (lv_at hl 0 rfl) ?_
                                  refine r_iadd hx hb dX12_oneRow_243 ?_
                                  refine lv_iload hx hb dX12_oneRow_244 (lv_at hl 2 rfl) ?_
                                  refine r_if_eq (tgt := 260) hx hb ⟨(by omega), (by omega)⟩ dX12_oneRow_246 (by decide) (fun c_137 => ?_) (fun c_137 => ?_)
                                  · refine lv_aload_n hx hb dX12_oneRow_260 rfl (lv_at hl 6 rfl) ?_
                                    refine g_X12_88 Cx hW (k := 231) (by decide) rfl (v := .ref (G.2.2.1 + 257)) (rd_41 hI228) dX12_oneRow_261 ?_
                                    refine lv_iload hx hb dX12_oneRow_264 (lv_at hl 0 rfl) ?_
                                    refine rLald Cx hW (k := 257) (by decide) rfl (by decide) (by omega) (by omega) dX12_oneRow_266 ?_
                                    have q_138 : -9223372036854775808 ≤ S57.2.2.1 257 kj ∧ S57.2.2.1 257 kj ≤ 9223372036854775807 := hI57.li 257 kj
                                    refine r_j (b := S57.2.2.1 257 kj) (((hL228_ 257 rfl).2.2.1 kj).trans ((uL_ne (fun h => absurd h.1 (by decide))).trans ((uF_l).trans ((hL144_ 257 rfl).2.2.1 kj)))) ?_
                                    refine rLast Cx hW hL (k := 255) (by decide) rfl (by decide) (by omega) (by omega) dX12_oneRow_267 (fun H locs hW hL => ?_)
                                    have F_139 : Fr S (uL S228 255 ((13 * ((S144.1 231 36) + 1)) + kj) (S57.2.2.1 257 kj)) (pl [231, 248, 249, 250, 251, 252, 255, 257, 258]) := hFm228.L rfl
                                    have F_140 : Fr S57 (uL S228 255 ((13 * ((S144.1 231 36) + 1)) + kj) (S57.2.2.1 257 kj)) (pl [231, 255]) := hFL144228.L rfl
                                    have F_141 : Fr ((uL (uF S144 231 36 ((S144.1 231 36) + 1)) 255 (13 * ((S144.1 231 36) + 1)) (S57.2.2.1 257 0))) (uL S228 255 ((13 * ((S144.1 231 36) + 1)) + kj) (S57.2.2.1 257 kj)) (pl [255]) := hL228_.L rfl
                                    have i_142 : dX G (uL S228 255 ((13 * ((S144.1 231 36) + 1)) + kj) (S57.2.2.1 257 kj)) := hI228.L ⟨by omega, by omega⟩
                                    refine lv_iinc (v := iv (kj + 1)) (lv' := [(7, .int (iv (kj + 1))), (6, .int (iv (13 * ((S144.1 231 36) + 1)))), (5, .int (iv fg)), (4, .int (iv i)), (3, .int (iv (S.2.1 247 (u_4.1 231 24)))), (2, .int (iv (u_4.1 231 24))), (0, .ref (G.2.2.1 + 231)), (1, .int (iv tk))]) hx hb dX12_oneRow_268 hl (k := 0) rfl ((Int32.ofInt_add _ _).symm) (by decide) rfl (fun ls hl => ?_)
                                    refine lv_goto (tgt := 228) hx hb dX12_oneRow_271 (by decide) ?_
                                    exact ih_228 (uL S228 255 ((13 * ((S144.1 231 36) + 1)) + kj) (S57.2.2.1 257 kj)) (kj + 1) _ _ _ (by omega) i_142 F_139 F_140 F_141 hGm228 hGL144228 gL228_ (by omega) (fun x => by rw [show (uL S228 255 ((13 * ((S144.1 231 36) + 1)) + kj) (S57.2.2.1 257 kj)).2.2.1 255 x = (uL S228 255 ((13 * ((S144.1 231 36) + 1)) + kj) (S57.2.2.1 257 kj)).2.2.1 255 x from rfl, uL_get]; split; (omega); (rw [show S228.2.2.1 255 x = S228.2.2.1 255 x from rfl]; exact hB228 x)) (fun x a => by rw [show (uL S228 255 ((13 * ((S144.1 231 36) + 1)) + kj) (S57.2.2.1 257 kj)).2.2.1 255 x = (uL S228 255 ((13 * ((S144.1 231 36) + 1)) + kj) (S57.2.2.1 257 kj)).2.2.1 255 x from rfl, uL_ne (fun h => by have h2 := h.2; omega)]; exact (rfl).trans (hLo x a)) (fun j a b => by by_cases z : j = kj; (rw [z, show (uL S228 255 ((13 * ((S144.1 231 36) + 1)) + kj) (S57.2.2.1 257 kj)).2.2.1 255 ((13 * (S144.1 231 36 + 1)) + kj) = (uL S228 255 ((13 * ((S144.1 231 36) + 1)) + kj) (S57.2.2.1 257 kj)).2.2.1 255 ((13 * (S144.1 231 36 + 1)) + kj) from rfl, uL_get, if_pos ⟨rfl, (by omega)⟩]; unfold lin; rw [if_neg (by omega)]; unfold tqr; first | (rw [if_pos (by omega)]; omega) | (rw [if_neg (by omega)]; omega)); (rw [show (uL S228 255 ((13 * ((S144.1 231 36) + 1)) + kj) (S57.2.2.1 257 kj)).2.2.1 255 ((13 * (S144.1 231 36 + 1)) + j) = (uL S228 255 ((13 * ((S144.1 231 36) + 1)) + kj) (S57.2.2.1 257 kj)).2.2.1 255 ((13 * (S144.1 231 36 + 1)) + j) from rfl, uL_ne (fun h => by have h2 := h.2; omega)]; exact (rfl).trans (hRo j a (by omega)))) hW hL (lv_sub hl [0, 1, 2, 3, 4, 5, 6, 7] rfl)
                                  · refine lv_aload_n hx hb dX12_oneRow_249 rfl (lv_at hl 6 rfl) ?_
                                    refine g_X12_88 Cx hW (k := 231) (by decide) rfl (v := .ref (G.2.2.1 + 257)) (rd_41 hI228) dX12_oneRow_250 ?_
                                    refine lv_iload hx hb dX12_oneRow_253 (lv_at hl 0 rfl) ?_
                                    refine rLald Cx hW (k := 257) (by decide) rfl (by decide) (by omega) (by omega) dX12_oneRow_255 ?_
                                    have q_143 : -9223372036854775808 ≤ S57.2.2.1 257 kj ∧ S57.2.2.1 257 kj ≤ 9223372036854775807 := hI57.li 257 kj
                                    refine r_j (b := S57.2.2.1 257 kj) (((hL228_ 257 rfl).2.2.1 kj).trans ((uL_ne (fun h => absurd h.1 (by decide))).trans ((uF_l).trans ((hL144_ 257 rfl).2.2.1 kj)))) ?_
                                    refine r_lneg hx hb dX12_oneRow_256 ?_
                                    refine lv_goto (tgt := 267) hx hb dX12_oneRow_257 (by decide) ?_
                                    refine rLast Cx hW hL (k := 255) (by decide) rfl (by decide) (by omega) (by omega) dX12_oneRow_267 (fun H locs hW hL => ?_)
                                    have F_144 : Fr S (uL S228 255 ((13 * ((S144.1 231 36) + 1)) + kj) (-(S57.2.2.1 257 kj))) (pl [231, 248, 249, 250, 251, 252, 255, 257, 258]) := hFm228.L rfl
                                    have F_145 : Fr S57 (uL S228 255 ((13 * ((S144.1 231 36) + 1)) + kj) (-(S57.2.2.1 257 kj))) (pl [231, 255]) := hFL144228.L rfl
                                    have F_146 : Fr ((uL (uF S144 231 36 ((S144.1 231 36) + 1)) 255 (13 * ((S144.1 231 36) + 1)) (S57.2.2.1 257 0))) (uL S228 255 ((13 * ((S144.1 231 36) + 1)) + kj) (-(S57.2.2.1 257 kj))) (pl [255]) := hL228_.L rfl
                                    have i_147 : dX G (uL S228 255 ((13 * ((S144.1 231 36) + 1)) + kj) (-(S57.2.2.1 257 kj))) := hI228.L ⟨by omega, by omega⟩
                                    refine lv_iinc (v := iv (kj + 1)) (lv' := [(7, .int (iv (kj + 1))), (6, .int (iv (13 * ((S144.1 231 36) + 1)))), (5, .int (iv fg)), (4, .int (iv i)), (3, .int (iv (S.2.1 247 (u_4.1 231 24)))), (2, .int (iv (u_4.1 231 24))), (0, .ref (G.2.2.1 + 231)), (1, .int (iv tk))]) hx hb dX12_oneRow_268 hl (k := 0) rfl ((Int32.ofInt_add _ _).symm) (by decide) rfl (fun ls hl => ?_)
                                    refine lv_goto (tgt := 228) hx hb dX12_oneRow_271 (by decide) ?_
                                    exact ih_228 (uL S228 255 ((13 * ((S144.1 231 36) + 1)) + kj) (-(S57.2.2.1 257 kj))) (kj + 1) _ _ _ (by omega) i_147 F_144 F_145 F_146 hGm228 hGL144228 gL228_ (by omega) (fun x => by rw [show (uL S228 255 ((13 * ((S144.1 231 36) + 1)) + kj) (-(S57.2.2.1 257 kj))).2.2.1 255 x = (uL S228 255 ((13 * ((S144.1 231 36) + 1)) + kj) (-(S57.2.2.1 257 kj))).2.2.1 255 x from rfl, uL_get]; split; (omega); (rw [show S228.2.2.1 255 x = S228.2.2.1 255 x from rfl]; exact hB228 x)) (fun x a => by rw [show (uL S228 255 ((13 * ((S144.1 231 36) + 1)) + kj) (-(S57.2.2.1 257 kj))).2.2.1 255 x = (uL S228 255 ((13 * ((S144.1 231 36) + 1)) + kj) (-(S57.2.2.1 257 kj))).2.2.1 255 x from rfl, uL_ne (fun h => by have h2 := h.2; omega)]; exact (rfl).trans (hLo x a)) (fun j a b => by by_cases z : j = kj; (rw [z, show (uL S228 255 ((13 * ((S144.1 231 36) + 1)) + kj) (-(S57.2.2.1 257 kj))).2.2.1 255 ((13 * (S144.1 231 36 + 1)) + kj) = (uL S228 255 ((13 * ((S144.1 231 36) + 1)) + kj) (-(S57.2.2.1 257 kj))).2.2.1 255 ((13 * (S144.1 231 36 + 1)) + kj) from rfl, uL_get, if_pos ⟨rfl, (by omega)⟩]; unfold lin; rw [if_neg (by omega)]; unfold tqr; first | (rw [if_pos (by omega)]; omega) | (rw [if_neg (by omega)]; omega)); (rw [show (uL S228 255 ((13 * ((S144.1 231 36) + 1)) + kj) (-(S57.2.2.1 257 kj))).2.2.1 255 ((13 * (S144.1 231 36 + 1)) + j) = (uL S228 255 ((13 * ((S144.1 231 36) + 1)) + kj) (-(S57.2.2.1 257 kj))).2.2.1 255 ((13 * (S144.1 231 36 + 1)) + j) from rfl, uL_ne (fun h => by have h2 := h.2; omega)]; exact (rfl).trans (hRo j a (by omega)))) hW hL (lv_sub hl [0, 1, 2, 3, 4, 5, 6, 7] rfl)
                            exact loop_228 (_ + 1) (uL (uF S144 231 36 ((S144.1 231 36) + 1)) 255 (13 * ((S144.1 231 36) + 1)) (S57.2.2.1 257 0)) 1 _ _ _ (Nat.lt_succ_self _) i_134 F_132 F_133 Fr.rf g_110 g_111 FF.rf (by omega) (fun x => by rw [show (uL (uF S144 231 36 ((S144.1 231 36) + 1)) 255 (13 * ((S144.1 231 36) + 1)) (S57.2.2.1 257 0)).2.2.1 255 x = (uL (uF S144 231 36 ((S144.1 231 36) + 1)) 255 (13 * ((S144.1 231 36) + 1)) (S57.2.2.1 257 0)).2.2.1 255 x from rfl, uL_get]; split; (omega); (rw [show (uF S144 231 36 ((S144.1 231 36) + 1)).2.2.1 255 x = S144.2.2.1 255 x from uF_l]; exact hB144 x)) (fun x a => by rw [show (uL (uF S144 231 36 ((S144.1 231 36) + 1)) 255 (13 * ((S144.1 231 36) + 1)) (S57.2.2.1 257 0)).2.2.1 255 x = (uL (uF S144 231 36 ((S144.1 231 36) + 1)) 255 (13 * ((S144.1 231 36) + 1)) (S57.2.2.1 257 0)).2.2.1 255 x from rfl, uL_ne (fun h => by have h2 := h.2; omega)]; exact (uF_l)) (fun j a b => by have z : j = 0 := (by omega); rw [z, show (uL (uF S144 231 36 ((S144.1 231 36) + 1)) 255 (13 * ((S144.1 231 36) + 1)) (S57.2.2.1 257 0)).2.2.1 255 ((13 * (S144.1 231 36 + 1)) + 0) = (uL (uF S144 231 36 ((S144.1 231 36) + 1)) 255 (13 * ((S144.1 231 36) + 1)) (S57.2.2.1 257 0)).2.2.1 255 ((13 * (S144.1 231 36 + 1)) + 0) from rfl, uL_get, if_pos ⟨rfl, (by omega)⟩]; unfold lin; rw [if_pos rfl]; unfold tqr; first | (rw [if_pos (by omega)]; omega) | (rw [if_neg (by omega)]; omega)) hW hL (lv_sub hl [0, 1, 2, 3, 4, 5, 6, 7] rfl)
                        refine lv_iload_n hx hb dX12_oneRow_160 rfl (lv_at hl 1 rfl) ?_
                        refine lv_iconst (v := iv 3) hx hb dX12_oneRow_161 (by decide) ?_
                        refine r_icmp_eq (tgt := 171) hx hb ⟨(by omega), (by omega)⟩ ⟨(by omega), (by omega)⟩ dX12_oneRow_162 (by decide) (fun c_148 => ?_) (fun c_148 => ?_)
                        · refine lv_iconst (v := iv 1) hx hb dX12_oneRow_171 (by decide) ?_
                          refine lv_goto (tgt := 176) hx hb dX12_oneRow_172 (by decide) ?_
                          exact join_176 1 _ _ _ (by omega) (by omega) hW hL (lv_sub hl [0, 1, 2, 3, 4] rfl)
                        · refine lv_iload hx hb dX12_oneRow_165 (lv_at hl 0 rfl) ?_
                          refine lv_iconst (v := iv 1) hx hb dX12_oneRow_167 (by decide) ?_
                          refine r_icmp_ne (tgt := 175) hx hb ⟨(by omega), (by omega)⟩ ⟨(by omega), (by omega)⟩ dX12_oneRow_168 (by decide) (fun c_149 => ?_) (fun c_149 => ?_)
                          · refine lv_iconst (v := iv 0) hx hb dX12_oneRow_175 (by decide) ?_
                            exact join_176 0 _ _ _ (by omega) (by omega) hW hL (lv_sub hl [0, 1, 2, 3, 4] rfl)
                          · refine lv_iconst (v := iv 1) hx hb dX12_oneRow_171 (by decide) ?_
                            refine lv_goto (tgt := 176) hx hb dX12_oneRow_172 (by decide) ?_
                            exact join_176 1 _ _ _ (by omega) (by omega) hW hL (lv_sub hl [0, 1, 2, 3, 4] rfl)
                  have lk_150 : S57.1 231 36 = S.1 231 36 := (gL57_ 36 rfl).trans ((uF_ne (fun h => absurd h.2 (by decide))).trans ((gu_20 36 rfl).trans ((uF_ne (fun h => absurd h.2 (by decide))).trans (gu_4 36 rfl))))
                  exact loop_144 (_ + 1) S57 0 _ _ _ (Nat.lt_succ_self _) hI57 hFm57 Fr.rf hGm57 FF.rf (by omega) (fun x => by rw [show S57.2.2.1 255 x = S.2.2.1 255 x from ((hL57_ 255 rfl).2.2.1 x).trans ((uF_l).trans (((fu_20 255 rfl).2.2.1 x).trans ((uF_l).trans ((fu_4 255 rfl).2.2.1 x))))]; exact hRB x) (fun X hX => (XAr.of (S := S) (u := S57) hX ((gL57_ 35 rfl).trans ((uF_ne (fun h => absurd h.2 (by decide))).trans ((gu_20 35 rfl).trans ((uF_ne (fun h => absurd h.2 (by decide))).trans (gu_4 35 rfl))))) ((gL57_ 36 rfl).trans ((uF_ne (fun h => absurd h.2 (by decide))).trans ((gu_20 36 rfl).trans ((uF_ne (fun h => absurd h.2 (by decide))).trans (gu_4 36 rfl))))) (funext fun j => ((hL57_ 255 rfl).2.2.1 j).trans ((uF_l).trans (((fu_20 255 rfl).2.2.1 j).trans ((uF_l).trans ((fu_4 255 rfl).2.2.1 j))))) (funext fun j => ((hL57_ 256 rfl).2.2.1 j).trans ((uF_l).trans (((fu_20 256 rfl).2.2.1 j).trans ((uF_l).trans ((fu_4 256 rfl).2.2.1 j))))) (funext fun j => ((hL57_ 254 rfl).2.1 j).trans ((uF_a).trans (((fu_20 254 rfl).2.1 j).trans ((uF_a).trans ((fu_4 254 rfl).2.1 j))))))) hW hL (lv_sub hl [0, 1, 2, 3, 4] rfl)
                · refine lv_aload_n hx hb dX12_oneRow_126 rfl (lv_at hl 3 rfl) ?_
                  refine lv_bipush (v := iv 7) hx hb dX12_oneRow_127 (by decide) ?_
                  refine lv_iload_n hx hb dX12_oneRow_129 rfl (lv_at hl 4 rfl) ?_
                  refine sBv (sV (As := [.int (iv 7), .int (iv tk)]) (rest := []) (k := 231) Cx (s_X12_wrong l G S57 (cd := 7) (tk := tk) hI57 (by omega) (by omega)) (c_X12_321 Cx rfl rfl (rmk_ok (by omega) (by decide))) hW (by decide) rfl rfl rfl hl.1 rfl (Nat.le_of_ble_eq_true rfl) dX12_oneRow_130 ⟨Nat.le_of_ble_eq_true rfl, Nat.le_of_ble_eq_true rfl⟩) hL (fun u_151 H locs k_152 hW hL => ?_)
                  obtain ⟨iu_151, fu_151, gu_151, xu_151⟩ := k_152
                  have F_153 := hFm57.trans (fu_151.to (pl_sub (by decide)))
                  have g_154 : FF S u_151 (fl [20, 21, 24, 25, 36, 42, 43]) := FF.trans hGm57 (FF.to gu_151 (fl_sub (by decide)))
                  refine lv_aload_n hx hb dX12_oneRow_133 rfl (lv_at hl 3 rfl) ?_
                  have q_156 : (-2147483648) ≤ u_151.1 231 20 ∧ u_151.1 231 20 ≤ 2147483647 := iu_151.fi 20
                  refine g_X12_270 Cx hW (k := 231) (by decide) rfl (v := u_151.1 231 20) rfl dX12_oneRow_134 ?_
                  refine r_if_eq (tgt := 141) hx hb ⟨(by omega), (by omega)⟩ dX12_oneRow_137 (by decide) (fun c => absurd c (by omega)) (fun _ => ?_)
                  have lk_157 : u_151.1 231 24 = (u_20.1 231 24) + 1 := (gu_151 24 rfl).trans ((gL57_ 24 rfl).trans (uF_on))
                  have q_158 : (-2147483648) ≤ u_20.1 231 42 ∧ u_20.1 231 42 ≤ 2147483647 := iu_20.fi 42
                  have lk_159 : u_151.1 231 42 = u_20.1 231 42 := (gu_151 42 rfl).trans ((gL57_ 42 rfl).trans (uF_ne (fun h => absurd h.2 (by decide))))
                  have lk_160 : u_151.1 231 36 = S.1 231 36 := (gu_151 36 rfl).trans ((gL57_ 36 rfl).trans ((uF_ne (fun h => absurd h.2 (by decide))).trans ((gu_20 36 rfl).trans ((uF_ne (fun h => absurd h.2 (by decide))).trans (gu_4 36 rfl)))))
                  exact sVret Cx hr hlk hW hL ⟨iu_151, F_153, g_154, ⟨⟨(fun x => by rw [show u_151.2.2.1 255 x = S.2.2.1 255 x from ((fu_151 255 rfl).2.2.1 x).trans (((hL57_ 255 rfl).2.2.1 x).trans ((uF_l).trans (((fu_20 255 rfl).2.2.1 x).trans ((uF_l).trans ((fu_4 255 rfl).2.2.1 x)))))]; exact hRB x), (fun _ => eRo_3 e1 e2 (.inr (by rw [hif]; omega))), (fun h => absurd h (by have e9 := (show u_151.1 231 20 = u_151.1 231 20 from rfl); have a9 := xu_151; omega))⟩, (fun h => absurd h (by have e9 := (show u_151.1 231 20 = u_151.1 231 20 from rfl); have a9 := xu_151; omega))⟩⟩ dX12_oneRow_140
            · refine lv_aload_n hx hb dX12_oneRow_98 rfl (lv_at hl 3 rfl) ?_
              refine lv_bipush (v := iv 6) hx hb dX12_oneRow_99 (by decide) ?_
              refine lv_iload_n hx hb dX12_oneRow_101 rfl (lv_at hl 2 rfl) ?_
              refine sBv (sV (As := [.int (iv 6), .int (iv (u_4.1 231 24))]) (rest := []) (k := 231) Cx (s_X12_wrong l G S57 (cd := 6) (tk := u_4.1 231 24) hI57 (by omega) (by omega)) (c_X12_321 Cx rfl rfl (rmk_ok (by omega) (by decide))) hW (by decide) rfl rfl rfl hl.1 rfl (Nat.le_of_ble_eq_true rfl) dX12_oneRow_102 ⟨Nat.le_of_ble_eq_true rfl, Nat.le_of_ble_eq_true rfl⟩) hL (fun u_161 H locs k_162 hW hL => ?_)
              obtain ⟨iu_161, fu_161, gu_161, xu_161⟩ := k_162
              have F_163 := hFm57.trans (fu_161.to (pl_sub (by decide)))
              have g_164 : FF S u_161 (fl [20, 21, 24, 25, 36, 42, 43]) := FF.trans hGm57 (FF.to gu_161 (fl_sub (by decide)))
              refine lv_aload_n hx hb dX12_oneRow_105 rfl (lv_at hl 3 rfl) ?_
              have q_166 : (-2147483648) ≤ S.1 231 36 ∧ S.1 231 36 ≤ 2147483647 := hI.fi 36
              refine g_X12_382 Cx hW (k := 231) (by decide) rfl (v := S.1 231 36) ((gu_161 36 rfl).trans ((gL57_ 36 rfl).trans ((uF_ne (fun h => absurd h.2 (by decide))).trans ((gu_20 36 rfl).trans ((uF_ne (fun h => absurd h.2 (by decide))).trans (gu_4 36 rfl)))))) dX12_oneRow_106 ?_
              refine lv_iload_n hx hb dX12_oneRow_109 rfl (lv_at hl 1 rfl) ?_
              refine lv_bipush (v := iv 61) hx hb dX12_oneRow_110 (by decide) ?_
              refine r_icmp_ne (tgt := 119) hx hb ⟨(by omega), (by omega)⟩ ⟨(by omega), (by omega)⟩ dX12_oneRow_112 (by decide) (fun c_167 => ?_) (fun c_167 => ?_)
              · have k13 : k a1 ≠ 13 := (fun z => absurd (h61.mpr z) (by omega))
                have hif : (if k a1 = 13 then (2 : Int) else 1) = 1 := if_neg k13
                refine lv_iconst (v := iv 1) hx hb dX12_oneRow_119 (by decide) ?_
                refine r_iadd hx hb dX12_oneRow_120 ?_
                refine lv_bipush (v := iv 16) hx hb dX12_oneRow_121 (by decide) ?_
                refine r_icmp_le (tgt := 133) hx hb ⟨(by omega), (by omega)⟩ ⟨(by omega), (by omega)⟩ dX12_oneRow_123 (by decide) (fun c_168 => ?_) (fun c_168 => ?_)
                · refine lv_aload_n hx hb dX12_oneRow_133 rfl (lv_at hl 3 rfl) ?_
                  have q_169 : (-2147483648) ≤ u_161.1 231 20 ∧ u_161.1 231 20 ≤ 2147483647 := iu_161.fi 20
                  refine g_X12_270 Cx hW (k := 231) (by decide) rfl (v := u_161.1 231 20) rfl dX12_oneRow_134 ?_
                  refine r_if_eq (tgt := 141) hx hb ⟨(by omega), (by omega)⟩ dX12_oneRow_137 (by decide) (fun c => absurd c (by omega)) (fun _ => ?_)
                  have lk_170 : u_161.1 231 24 = (u_20.1 231 24) + 1 := (gu_161 24 rfl).trans ((gL57_ 24 rfl).trans (uF_on))
                  have q_171 : (-2147483648) ≤ u_20.1 231 42 ∧ u_20.1 231 42 ≤ 2147483647 := iu_20.fi 42
                  have lk_172 : u_161.1 231 42 = u_20.1 231 42 := (gu_161 42 rfl).trans ((gL57_ 42 rfl).trans (uF_ne (fun h => absurd h.2 (by decide))))
                  have lk_173 : u_161.1 231 36 = S.1 231 36 := (gu_161 36 rfl).trans ((gL57_ 36 rfl).trans ((uF_ne (fun h => absurd h.2 (by decide))).trans ((gu_20 36 rfl).trans ((uF_ne (fun h => absurd h.2 (by decide))).trans (gu_4 36 rfl)))))
                  exact sVret Cx hr hlk hW hL ⟨iu_161, F_163, g_164, ⟨⟨(fun x => by rw [show u_161.2.2.1 255 x = S.2.2.1 255 x from ((fu_161 255 rfl).2.2.1 x).trans (((hL57_ 255 rfl).2.2.1 x).trans ((uF_l).trans (((fu_20 255 rfl).2.2.1 x).trans ((uF_l).trans ((fu_4 255 rfl).2.2.1 x)))))]; exact hRB x), (fun _ => eRo_3 e1 e2 (.inl ((veq_grt wS).mp (xu_31.2.1 (by omega))))), (fun h => absurd h (by have e9 := (show u_161.1 231 20 = u_161.1 231 20 from rfl); have a9 := xu_161; omega))⟩, (fun h => absurd h (by have e9 := (show u_161.1 231 20 = u_161.1 231 20 from rfl); have a9 := xu_161; omega))⟩⟩ dX12_oneRow_140
                · refine lv_aload_n hx hb dX12_oneRow_126 rfl (lv_at hl 3 rfl) ?_
                  refine lv_bipush (v := iv 7) hx hb dX12_oneRow_127 (by decide) ?_
                  refine lv_iload_n hx hb dX12_oneRow_129 rfl (lv_at hl 4 rfl) ?_
                  refine sBv (sV (As := [.int (iv 7), .int (iv tk)]) (rest := []) (k := 231) Cx (s_X12_wrong l G u_161 (cd := 7) (tk := tk) iu_161 (by omega) (by omega)) (c_X12_321 Cx rfl rfl (rmk_ok (by omega) (by decide))) hW (by decide) rfl rfl rfl hl.1 rfl (Nat.le_of_ble_eq_true rfl) dX12_oneRow_130 ⟨Nat.le_of_ble_eq_true rfl, Nat.le_of_ble_eq_true rfl⟩) hL (fun u_174 H locs k_175 hW hL => ?_)
                  obtain ⟨iu_174, fu_174, gu_174, xu_174⟩ := k_175
                  have F_176 := F_163.trans (fu_174.to (pl_sub (by decide)))
                  have g_177 : FF S u_174 (fl [20, 21, 24, 25, 36, 42, 43]) := FF.trans g_164 (FF.to gu_174 (fl_sub (by decide)))
                  refine lv_aload_n hx hb dX12_oneRow_133 rfl (lv_at hl 3 rfl) ?_
                  have q_178 : (-2147483648) ≤ u_174.1 231 20 ∧ u_174.1 231 20 ≤ 2147483647 := iu_174.fi 20
                  refine g_X12_270 Cx hW (k := 231) (by decide) rfl (v := u_174.1 231 20) rfl dX12_oneRow_134 ?_
                  refine r_if_eq (tgt := 141) hx hb ⟨(by omega), (by omega)⟩ dX12_oneRow_137 (by decide) (fun c => absurd c (by omega)) (fun _ => ?_)
                  have lk_179 : u_174.1 231 24 = (u_20.1 231 24) + 1 := (gu_174 24 rfl).trans ((gu_161 24 rfl).trans ((gL57_ 24 rfl).trans (uF_on)))
                  have q_180 : (-2147483648) ≤ u_20.1 231 42 ∧ u_20.1 231 42 ≤ 2147483647 := iu_20.fi 42
                  have lk_181 : u_174.1 231 42 = u_20.1 231 42 := (gu_174 42 rfl).trans ((gu_161 42 rfl).trans ((gL57_ 42 rfl).trans (uF_ne (fun h => absurd h.2 (by decide)))))
                  have lk_182 : u_174.1 231 36 = S.1 231 36 := (gu_174 36 rfl).trans ((gu_161 36 rfl).trans ((gL57_ 36 rfl).trans ((uF_ne (fun h => absurd h.2 (by decide))).trans ((gu_20 36 rfl).trans ((uF_ne (fun h => absurd h.2 (by decide))).trans (gu_4 36 rfl))))))
                  exact sVret Cx hr hlk hW hL ⟨iu_174, F_176, g_177, ⟨⟨(fun x => by rw [show u_174.2.2.1 255 x = S.2.2.1 255 x from ((fu_174 255 rfl).2.2.1 x).trans (((fu_161 255 rfl).2.2.1 x).trans (((hL57_ 255 rfl).2.2.1 x).trans ((uF_l).trans (((fu_20 255 rfl).2.2.1 x).trans ((uF_l).trans ((fu_4 255 rfl).2.2.1 x))))))]; exact hRB x), (fun _ => eRo_3 e1 e2 (.inl ((veq_grt wS).mp (xu_31.2.1 (by omega))))), (fun h => absurd h (by have e9 := (show u_174.1 231 20 = u_174.1 231 20 from rfl); have a9 := xu_174; omega))⟩, (fun h => absurd h (by have e9 := (show u_174.1 231 20 = u_174.1 231 20 from rfl); have a9 := xu_174; omega))⟩⟩ dX12_oneRow_140
              · have k13 : k a1 = 13 := h61.mp (by omega)
                have hif : (if k a1 = 13 then (2 : Int) else 1) = 2 := if_pos k13
                refine lv_iconst (v := iv 2) hx hb dX12_oneRow_115 (by decide) ?_
                refine lv_goto (tgt := 120) hx hb dX12_oneRow_116 (by decide) ?_
                refine r_iadd hx hb dX12_oneRow_120 ?_
                refine lv_bipush (v := iv 16) hx hb dX12_oneRow_121 (by decide) ?_
                refine r_icmp_le (tgt := 133) hx hb ⟨(by omega), (by omega)⟩ ⟨(by omega), (by omega)⟩ dX12_oneRow_123 (by decide) (fun c_183 => ?_) (fun c_183 => ?_)
                · refine lv_aload_n hx hb dX12_oneRow_133 rfl (lv_at hl 3 rfl) ?_
                  have q_184 : (-2147483648) ≤ u_161.1 231 20 ∧ u_161.1 231 20 ≤ 2147483647 := iu_161.fi 20
                  refine g_X12_270 Cx hW (k := 231) (by decide) rfl (v := u_161.1 231 20) rfl dX12_oneRow_134 ?_
                  refine r_if_eq (tgt := 141) hx hb ⟨(by omega), (by omega)⟩ dX12_oneRow_137 (by decide) (fun c => absurd c (by omega)) (fun _ => ?_)
                  have lk_185 : u_161.1 231 24 = (u_20.1 231 24) + 1 := (gu_161 24 rfl).trans ((gL57_ 24 rfl).trans (uF_on))
                  have q_186 : (-2147483648) ≤ u_20.1 231 42 ∧ u_20.1 231 42 ≤ 2147483647 := iu_20.fi 42
                  have lk_187 : u_161.1 231 42 = u_20.1 231 42 := (gu_161 42 rfl).trans ((gL57_ 42 rfl).trans (uF_ne (fun h => absurd h.2 (by decide))))
                  have lk_188 : u_161.1 231 36 = S.1 231 36 := (gu_161 36 rfl).trans ((gL57_ 36 rfl).trans ((uF_ne (fun h => absurd h.2 (by decide))).trans ((gu_20 36 rfl).trans ((uF_ne (fun h => absurd h.2 (by decide))).trans (gu_4 36 rfl)))))
                  exact sVret Cx hr hlk hW hL ⟨iu_161, F_163, g_164, ⟨⟨(fun x => by rw [show u_161.2.2.1 255 x = S.2.2.1 255 x from ((fu_161 255 rfl).2.2.1 x).trans (((hL57_ 255 rfl).2.2.1 x).trans ((uF_l).trans (((fu_20 255 rfl).2.2.1 x).trans ((uF_l).trans ((fu_4 255 rfl).2.2.1 x)))))]; exact hRB x), (fun _ => eRo_3 e1 e2 (.inl ((veq_grt wS).mp (xu_31.2.1 (by omega))))), (fun h => absurd h (by have e9 := (show u_161.1 231 20 = u_161.1 231 20 from rfl); have a9 := xu_161; omega))⟩, (fun h => absurd h (by have e9 := (show u_161.1 231 20 = u_161.1 231 20 from rfl); have a9 := xu_161; omega))⟩⟩ dX12_oneRow_140
                · refine lv_aload_n hx hb dX12_oneRow_126 rfl (lv_at hl 3 rfl) ?_
                  refine lv_bipush (v := iv 7) hx hb dX12_oneRow_127 (by decide) ?_
                  refine lv_iload_n hx hb dX12_oneRow_129 rfl (lv_at hl 4 rfl) ?_
                  refine sBv (sV (As := [.int (iv 7), .int (iv tk)]) (rest := []) (k := 231) Cx (s_X12_wrong l G u_161 (cd := 7) (tk := tk) iu_161 (by omega) (by omega)) (c_X12_321 Cx rfl rfl (rmk_ok (by omega) (by decide))) hW (by decide) rfl rfl rfl hl.1 rfl (Nat.le_of_ble_eq_true rfl) dX12_oneRow_130 ⟨Nat.le_of_ble_eq_true rfl, Nat.le_of_ble_eq_true rfl⟩) hL (fun u_189 H locs k_190 hW hL => ?_)
                  obtain ⟨iu_189, fu_189, gu_189, xu_189⟩ := k_190
                  have F_191 := F_163.trans (fu_189.to (pl_sub (by decide)))
                  have g_192 : FF S u_189 (fl [20, 21, 24, 25, 36, 42, 43]) := FF.trans g_164 (FF.to gu_189 (fl_sub (by decide)))
                  refine lv_aload_n hx hb dX12_oneRow_133 rfl (lv_at hl 3 rfl) ?_
                  have q_193 : (-2147483648) ≤ u_189.1 231 20 ∧ u_189.1 231 20 ≤ 2147483647 := iu_189.fi 20
                  refine g_X12_270 Cx hW (k := 231) (by decide) rfl (v := u_189.1 231 20) rfl dX12_oneRow_134 ?_
                  refine r_if_eq (tgt := 141) hx hb ⟨(by omega), (by omega)⟩ dX12_oneRow_137 (by decide) (fun c => absurd c (by omega)) (fun _ => ?_)
                  have lk_194 : u_189.1 231 24 = (u_20.1 231 24) + 1 := (gu_189 24 rfl).trans ((gu_161 24 rfl).trans ((gL57_ 24 rfl).trans (uF_on)))
                  have q_195 : (-2147483648) ≤ u_20.1 231 42 ∧ u_20.1 231 42 ≤ 2147483647 := iu_20.fi 42
                  have lk_196 : u_189.1 231 42 = u_20.1 231 42 := (gu_189 42 rfl).trans ((gu_161 42 rfl).trans ((gL57_ 42 rfl).trans (uF_ne (fun h => absurd h.2 (by decide)))))
                  have lk_197 : u_189.1 231 36 = S.1 231 36 := (gu_189 36 rfl).trans ((gu_161 36 rfl).trans ((gL57_ 36 rfl).trans ((uF_ne (fun h => absurd h.2 (by decide))).trans ((gu_20 36 rfl).trans ((uF_ne (fun h => absurd h.2 (by decide))).trans (gu_4 36 rfl))))))
                  exact sVret Cx hr hlk hW hL ⟨iu_189, F_191, g_192, ⟨⟨(fun x => by rw [show u_189.2.2.1 255 x = S.2.2.1 255 x from ((fu_189 255 rfl).2.2.1 x).trans (((fu_161 255 rfl).2.2.1 x).trans (((hL57_ 255 rfl).2.2.1 x).trans ((uF_l).trans (((fu_20 255 rfl).2.2.1 x).trans ((uF_l).trans ((fu_4 255 rfl).2.2.1 x))))))]; exact hRB x), (fun _ => eRo_3 e1 e2 (.inl ((veq_grt wS).mp (xu_31.2.1 (by omega))))), (fun h => absurd h (by have e9 := (show u_189.1 231 20 = u_189.1 231 20 from rfl); have a9 := xu_189; omega))⟩, (fun h => absurd h (by have e9 := (show u_189.1 231 20 = u_189.1 231 20 from rfl); have a9 := xu_189; omega))⟩⟩ dX12_oneRow_140
          · refine lv_aload_n hx hb dX12_oneRow_64 rfl (lv_at hl 3 rfl) ?_
            refine g_X12_88 Cx hW (k := 231) (by decide) rfl (v := .ref (G.2.2.1 + 257)) (rd_41 hI57) dX12_oneRow_65 ?_
            refine lv_iload hx hb dX12_oneRow_68 (lv_at hl 0 rfl) ?_
            refine lv_dup2_11 hx hb dX12_oneRow_70 rfl rfl ?_
            refine rLald Cx hW (k := 257) (by decide) rfl (by decide) (by omega) (by omega) dX12_oneRow_71 ?_
            have q_198 : -9223372036854775808 ≤ S57.2.2.1 257 kk ∧ S57.2.2.1 257 kk ≤ 9223372036854775807 := hI57.li 257 kk
            refine r_j (b := S57.2.2.1 257 kk) rfl ?_
            refine lv_aload_n hx hb dX12_oneRow_72 rfl (lv_at hl 3 rfl) ?_
            refine g_X12_88 Cx hW (k := 231) (by decide) rfl (v := .ref (G.2.2.1 + 257)) (rd_41 hI57) dX12_oneRow_73 ?_
            refine lv_bipush (v := iv 13) hx hb dX12_oneRow_76 (by decide) ?_
            refine lv_iload hx hb dX12_oneRow_78 (lv_at hl 0 rfl) ?_
            refine r_iadd hx hb dX12_oneRow_80 ?_
            refine rLald Cx hW (k := 257) (by decide) rfl (by decide) (by omega) (by omega) dX12_oneRow_81 ?_
            have q_199 : -9223372036854775808 ≤ S57.2.2.1 257 (13 + kk) ∧ S57.2.2.1 257 (13 + kk) ≤ 9223372036854775807 := hI57.li 257 (13 + kk)
            refine r_j (b := S57.2.2.1 257 (13 + kk)) rfl ?_
            refine r_lsub hx hb dX12_oneRow_82 ?_
            obtain ⟨zs, ezs, lzs, hzs, fzs⟩ := jv_h ((S57.2.2.1 257 kk) - (S57.2.2.1 257 (13 + kk)))
            rw [ezs]
            refine rLast Cx hW hL (k := 257) (by decide) rfl (by decide) (by omega) (by omega) dX12_oneRow_83 (fun H locs hW hL => ?_)
            have F_200 : Fr S (uL S57 257 kk zs) (pl [231, 248, 249, 250, 251, 252, 255, 257, 258]) := hFm57.L rfl
            have F_201 : Fr ((uF u_20 231 24 ((u_20.1 231 24) + 1))) (uL S57 257 kk zs) (pl [257]) := hL57_.L rfl
            have i_202 : dX G (uL S57 257 kk zs) := hI57.L ⟨by omega, by omega⟩
            refine lv_iinc (v := iv (kk + 1)) (lv' := [(4, .int (iv (kk + 1))), (3, .int (iv (S.2.1 247 (u_4.1 231 24)))), (2, .int (iv (u_4.1 231 24))), (0, .ref (G.2.2.1 + 231)), (1, .int (iv tk))]) hx hb dX12_oneRow_84 hl (k := 0) rfl ((Int32.ofInt_add _ _).symm) (by decide) rfl (fun ls hl => ?_)
            refine lv_goto (tgt := 57) hx hb dX12_oneRow_87 (by decide) ?_
            exact ih_57 (uL S57 257 kk zs) (kk + 1) _ _ _ (by omega) i_202 F_200 F_201 hGm57 gL57_ (by omega) (fun j a => (uL_ne (fun h => by have h2 := h.2; omega)).trans (hl2 j a)) (fun hb9 t a b => by by_cases z : t = kk; (rw [z, uL_on, if_pos (by omega)]; have d1 := hrow hb9 kk (by omega) (by omega); rw [if_neg (by omega)] at d1; have d2 := hl2 (13 + kk) (by omega); have hb1 := hb9 kk (by omega) (by omega); have zs1 := fzs (by omega) (by omega); omega); (rw [uL_ne (fun h => z (by have h2 := h.2; omega)), hrow hb9 t a b]; by_cases y : t < kk; (rw [if_pos y, if_pos (by omega)]); (rw [if_neg y, if_neg (by omega)]))) hW hL (lv_sub hl [0, 1, 2, 3, 4] rfl)
      exact loop_57 (_ + 1) (uF u_20 231 24 ((u_20.1 231 24) + 1)) 0 _ _ _ (Nat.lt_succ_self _) i_29 F_27 Fr.rf g_28 FF.rf (by omega) (fun j a => rfl) (fun _ t a b => (if_neg (by omega)).symm) hW hL (lv_sub hl [0, 1, 2, 3, 4] rfl)
    · have q_203 : (-2147483648) ≤ u_20.1 231 24 ∧ u_20.1 231 24 ≤ 2147483647 := iu_20.fi 24
      have q_204 : (-2147483648) ≤ u_20.1 231 42 ∧ u_20.1 231 42 ≤ 2147483647 := iu_20.fi 42
      have q_205 : (-2147483648) ≤ S.1 231 36 ∧ S.1 231 36 ≤ 2147483647 := hI.fi 36
      have lk_206 : u_20.1 231 36 = S.1 231 36 := (gu_20 36 rfl).trans ((uF_ne (fun h => absurd h.2 (by decide))).trans (gu_4 36 rfl))
      exact sVret Cx hr hlk hW hL ⟨iu_20, F_22, g_23, ⟨⟨(fun x => by rw [show u_20.2.2.1 255 x = S.2.2.1 255 x from ((fu_20 255 rfl).2.2.1 x).trans ((uF_l).trans ((fu_4 255 rfl).2.2.1 x))]; exact hRB x), (fun _ => by have q9 := xu_20.2.2 (by omega); rw [show (uF u_4 231 24 ((u_4.1 231 24) + 1)).1 231 42 = u_4.1 231 42 by omega] at q9; exact eRo_2 e1 q9), (fun h => absurd h (by have e9 := (show u_20.1 231 20 = u_20.1 231 20 from rfl); omega))⟩, (fun h => absurd h (by have e9 := (show u_20.1 231 20 = u_20.1 231 20 from rfl); omega))⟩⟩ dX12_oneRow_43
  · have q_207 : (-2147483648) ≤ u_4.1 231 20 ∧ u_4.1 231 20 ≤ 2147483647 := iu_4.fi 20
    have lk_208 : (uF u_4 231 24 ((u_4.1 231 24) + 1)).1 231 20 = u_4.1 231 20 := uF_ne (fun h => absurd h.2 (by decide))
    refine sBv (sV (As := [.int (iv 13)]) (rest := []) (k := 231) Cx (n_X12_expression l G (uF u_4 231 24 ((u_4.1 231 24) + 1)) (ix := 13) i_12 (by omega) (by omega)) (c_X12_398 Cx rfl rfl (rmk_ok (by omega) (by decide))) hW (by decide) rfl rfl rfl hl.1 rfl (Nat.le_of_ble_eq_true rfl) dX12_oneRow_33 ⟨Nat.le_of_ble_eq_true rfl, Nat.le_of_ble_eq_true rfl⟩) hL (fun u_209 H locs k_210 hW hL => ?_)
    rw [k_210] at hW
    refine lv_aload_n hx hb dX12_oneRow_36 rfl (lv_at hl 2 rfl) ?_
    refine g_X12_270 Cx hW (k := 231) (by decide) rfl (v := u_4.1 231 20) (uF_ne (fun h => absurd h.2 (by decide))) dX12_oneRow_37 ?_
    refine r_if_eq (tgt := 44) hx hb ⟨(by omega), (by omega)⟩ dX12_oneRow_40 (by decide) (fun c => absurd c (by omega)) (fun _ => ?_)
    have lk_211 : (uF u_4 231 24 ((u_4.1 231 24) + 1)).1 231 24 = (u_4.1 231 24) + 1 := uF_on
    have q_212 : (-2147483648) ≤ u_4.1 231 42 ∧ u_4.1 231 42 ≤ 2147483647 := iu_4.fi 42
    have lk_213 : (uF u_4 231 24 ((u_4.1 231 24) + 1)).1 231 42 = u_4.1 231 42 := uF_ne (fun h => absurd h.2 (by decide))
    have q_214 : (-2147483648) ≤ S.1 231 36 ∧ S.1 231 36 ≤ 2147483647 := hI.fi 36
    have lk_215 : (uF u_4 231 24 ((u_4.1 231 24) + 1)).1 231 36 = S.1 231 36 := (uF_ne (fun h => absurd h.2 (by decide))).trans (gu_4 36 rfl)
    exact sVret Cx hr hlk hW hL ⟨i_12, F_10, g_11, ⟨⟨(fun x => by rw [show (uF u_4 231 24 ((u_4.1 231 24) + 1)).2.2.1 255 x = S.2.2.1 255 x from (uF_l).trans ((fu_4 255 rfl).2.2.1 x)]; exact hRB x), (fun _ => eRo_1 (xu_4.2.2 hfz)), (fun h => absurd h (by have e9 := (show (uF u_4 231 24 ((u_4.1 231 24) + 1)).1 231 20 = u_4.1 231 20 from uF_ne (fun h => absurd h.2 (by decide))); omega))⟩, (fun h => absurd h (by have e9 := (show (uF u_4 231 24 ((u_4.1 231 24) + 1)).1 231 20 = u_4.1 231 20 from uF_ne (fun h => absurd h.2 (by decide))); omega))⟩⟩ dX12_oneRow_43
