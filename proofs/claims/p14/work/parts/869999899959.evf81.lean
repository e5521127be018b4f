theorem rb2 {A B C : Prop} (h : A ∧ B ∧ C) : A ∧ B ∧ C := h
set_option maxRecDepth 100000 in
set_option maxHeartbeats 4000000 in
theorem f_X12_tellRow (l : Launch) (G : sG) (S : sS) {M : sM} {k v : Int → Int} {T pz q : Int} (hI : dX G S) (hkr : Hd (KRr S k v T)) (hMr : Hd (MRr M k v S)) (hTV : Hd (TVn k v)) (hf0 : S.1 231 20 = 0) (hc : S.1 231 24 = pz) (hgr : Hd (gRoc T k pz q)) (hk21 : Hd (k (pz + 1) = 2)) (hk35 : Hd (k (pz + 2) = 17 → k (pz + 3) = 2 ∧ k (pz + 5) = 2)) (hpq : 0 ≤ pz ∧ q ≤ T - 1) (hRB : Hd (RBu S)) : Met l yX12_tellRow (.code yX12_tellRow cX12_tellRow 9 none :: tb) (rmk 137 0 0) (sPc G 294 S [.ref (G.2.2.1 + 231)]) (sQv G 294 (fun u => dX G u ∧ Fr S u (pl [231, 248, 249, 250, 251, 252, 255, 257, 258]) ∧ FF S u (fl [20, 21, 24, 25, 36, 42, 43]) ∧ ((Hd (RBu u) ∧ QOr u k v q (eDr T k v M pz)) ∧ Hd (u.1 231 20 = 0 → ∀ X, XAr S 1 X → XAr u 1 (aDr T k v M pz X.1, X.2))))) 0 0 (sF G) := by
  refine sEnter (by decide) (Nat.le_of_ble_eq_true rfl) ?_
  intro p e s m args below meth c Cx hr hlk hnm hW ls hl
  have Cx : sC G p m c cX12_tellRow 9 s args RX12 := Cx
  obtain ⟨hx, hb, hml, hown, hts⟩ := id Cx.1
  have hL : sL G [] := sL_nil
  have hl : lv_has ls 9 [(0, .ref (G.2.2.1 + 231))] := hl
  have hW0 := hW
  obtain ⟨K, hK⟩ : ∃ z, S.2.1 244 = z := ⟨_, rfl⟩
  obtain ⟨V, hV⟩ : ∃ z, S.2.1 247 = z := ⟨_, rfl⟩
  obtain ⟨Fm, hFm⟩ : ∃ z, S.2.1 245 = z := ⟨_, rfl⟩
  obtain ⟨Wd, hWd⟩ : ∃ z, S.2.1 246 = z := ⟨_, rfl⟩
  have hkk : kr K V T = k := (by rw [← hK, ← hV]; exact hkr.1)
  have hTb := hkr.2.1
  have hNr := hMr.1; have hK_ := hMr.2.1; have hN1 := hNr.1
  obtain ⟨m33, m34, m35, m36, m42, mds⟩ := hMr.2.2
  obtain ⟨b, a1, b1, hri, hk24, hg1, hks, hg2, hk15, hqb⟩ := hgr
  have ha1 := ogU_inc (ogF_inc 30) _ _ hg1
  have hb1 := ogU_inc (ogF_inc 30) _ _ hg2
  have hks : Hd _ := hks
  have hbl : pz + 2 ≤ b := (by rcases hri with z | z; (have z2 := z.2; omega); (have z2 := z.2; omega))
  have hri : Hd _ := hri
  refine lv_aload_n hx hb dX12_tellRow_0 rfl (lv_at hl 0 rfl) ?_
  have q_1 : (-2147483648) ≤ S.1 231 24 ∧ S.1 231 24 ≤ 2147483647 := hI.fi 24
  refine g_X12_315 Cx hW (k := 231) (by decide) rfl (v := S.1 231 24) rfl dX12_tellRow_1 ?_
  refine lv_iconst (v := iv 1) hx hb dX12_tellRow_4 (by decide) ?_
  refine r_iadd hx hb dX12_tellRow_5 ?_
  refine lv_istore_n (lv' := [(1, .int (iv ((S.1 231 24) + 1))), (0, .ref (G.2.2.1 + 231))]) hx hb dX12_tellRow_6 rfl hl (by decide) rfl (fun ls hl => ?_)
  refine lv_aload_n hx hb dX12_tellRow_7 rfl (lv_at hl 1 rfl) ?_
  refine lv_iload_n hx hb dX12_tellRow_8 rfl (lv_at hl 0 rfl) ?_
  refine lv_iconst (v := iv 4) hx hb dX12_tellRow_9 (by decide) ?_
  have q_2 : (-2147483648) ≤ S.1 231 20 ∧ S.1 231 20 ≤ 2147483647 := hI.fi 20
  have q_3 : (-2147483648) ≤ S.1 231 25 ∧ S.1 231 25 ≤ 2147483647 := hI.fi 25
  refine sBi (sV (As := [.int (iv ((S.1 231 24) + 1)), .int (iv 4)]) (rest := []) (k := 231) Cx (e_X12_add_ l G S (tk := (S.1 231 24) + 1) (so := 4) hI hkr hNr hK_ (by omega) (by rw [hc]; exact hk21) (by omega) (by omega)) (c_X12_404 Cx rfl rfl (rmk_ok (by omega) (by decide))) hW (by decide) rfl rfl rfl hl.1 rfl (Nat.le_of_ble_eq_true rfl) dX12_tellRow_10 ⟨Nat.le_of_ble_eq_true rfl, Nat.le_of_ble_eq_true rfl⟩) hL (fun r_6 u_4 H locs k_5 hW hL => ?_)
  obtain ⟨iu_4, fu_4, gu_4, xu_4⟩ := k_5
  have F_7 := (Fr.rf : Fr S S (pl [231, 248, 249, 250, 251, 252, 255, 257, 258])).trans (fu_4.to (pl_sub (by decide)))
  have g_8 : FF S u_4 (fl [20, 21, 24, 25, 36, 42, 43]) := FF.trans FF.rf (FF.to gu_4 (fl_sub (by decide)))
  refine lv_istore_n (lv' := [(2, .int (iv r_6)), (1, .int (iv ((S.1 231 24) + 1))), (0, .ref (G.2.2.1 + 231))]) hx hb dX12_tellRow_13 rfl hl (by decide) rfl (fun ls hl => ?_)
  refine lv_aload_n hx hb dX12_tellRow_14 rfl (lv_at hl 2 rfl) ?_
  have q_9 : (-2147483648) ≤ u_4.1 231 20 ∧ u_4.1 231 20 ≤ 2147483647 := iu_4.fi 20
  refine g_X12_270 Cx hW (k := 231) (by decide) rfl (v := u_4.1 231 20) rfl dX12_tellRow_15 ?_
  refine r_if_eq (tgt := 22) hx hb ⟨(by omega), (by omega)⟩ dX12_tellRow_18 (by decide) (fun c_10 => ?_) (fun c_10 => ?_)
  · obtain ⟨hfn0, hr1, h25u, hrw⟩ := xu_4.2.2 (by omega)
    have hfn : eFind M.1 (v (pz + 1)) = -1 := (by rw [← hc]; exact hfn0)
    have hN4 : NRr (rN M (v (pz + 1))) k v u_4 := (by rw [← hc]; exact hNr.added hK_ NF_10 (by omega) (by rw [hc]; exact hk21) h25u hrw (fun s s0 s1 z o o0 o1 => (fu_4 253 rfl).2.1 _) cs_10 (by rw [fct0]; decide) (fun z => absurd (fct0.symm.trans z) (by decide)) (fun z => by rcases z with z | z <;> exact absurd (fct0.symm.trans z) (by decide)) (fun z => absurd (fct0.symm.trans z) (by decide)) (fun z => absurd (fct0.symm.trans z) (by decide)))
    have hK4 : NK (rN M (v (pz + 1))) := hK_.added (by omega) hfn NF_10
    have hn4 : (rN M (v (pz + 1))).1 = M.1.1 + 1 := rfl
    refine lv_aload_n hx hb dX12_tellRow_22 rfl (lv_at hl 2 rfl) ?_
    refine lv_dup hx hb dX12_tellRow_23 rfl ?_
    refine g_X12_315 Cx hW (k := 231) (by decide) rfl (v := S.1 231 24) (gu_4 24 rfl) dX12_tellRow_24 ?_
    refine lv_iconst (v := iv 2) hx hb dX12_tellRow_27 (by decide) ?_
    refine r_iadd hx hb dX12_tellRow_28 ?_
    refine p_X12_315 Cx hW hL (k := 231) (by decide) rfl dX12_tellRow_29 (fun H locs hW hL => ?_)
    have F_11 : Fr S (uF u_4 231 24 ((S.1 231 24) + 2)) (pl [231, 248, 249, 250, 251, 252, 255, 257, 258]) := F_7.F rfl
    have g_12 : FF S (uF u_4 231 24 ((S.1 231 24) + 2)) (fl [20, 21, 24, 25, 36, 42, 43]) := FF.F g_8 rfl
    have i_13 : dX G (uF u_4 231 24 ((S.1 231 24) + 2)) := iu_4.F (i := 24) (show (-2147483648) ≤ (S.1 231 24) + 2 ∧ (S.1 231 24) + 2 ≤ 2147483647 from ⟨by omega, by omega⟩)
    refine lv_iconst (v := iv (-1)) hx hb dX12_tellRow_32 (by decide) ?_
    refine lv_istore_n (lv' := [(3, .int (iv ((-1)))), (2, .int (iv r_6)), (1, .int (iv ((S.1 231 24) + 1))), (0, .ref (G.2.2.1 + 231))]) hx hb dX12_tellRow_33 rfl hl (by decide) rfl (fun ls hl => ?_)
    refine lv_iconst (v := iv (-1)) hx hb dX12_tellRow_34 (by decide) ?_
    refine lv_istore (lv' := [(4, .int (iv ((-1)))), (3, .int (iv ((-1)))), (2, .int (iv r_6)), (1, .int (iv ((S.1 231 24) + 1))), (0, .ref (G.2.2.1 + 231))]) hx hb dX12_tellRow_35 hl (by decide) rfl (fun ls hl => ?_)
    refine lv_aload_n hx hb dX12_tellRow_37 rfl (lv_at hl 4 rfl) ?_
    refine lv_bipush (v := iv 91) hx hb dX12_tellRow_38 (by decide) ?_
    have lk_14 : (uF u_4 231 24 ((S.1 231 24) + 2)).1 231 24 = (S.1 231 24) + 2 := uF_on
    refine sBi (sV (As := [.int (iv 91)]) (rest := []) (k := 231) Cx (s_X12_isSign l G (uF u_4 231 24 ((S.1 231 24) + 2)) (sv := 91) (K := K) (V := V) (pz := (pz) + 2) i_13 (by omega) ((funext fun j => (uF_a).trans ((fu_4 244 rfl).2.1 j) : (uF u_4 231 24 ((S.1 231 24) + 2)).2.1 244 = S.2.1 244).trans hK) ((funext fun j => (uF_a).trans ((fu_4 247 rfl).2.1 j) : (uF u_4 231 24 ((S.1 231 24) + 2)).2.1 247 = S.2.1 247).trans hV) (by omega) (by omega)) (c_X12_318 Cx rfl rfl (rmk_ok (by omega) (by decide))) hW (by decide) rfl rfl rfl hl.1 rfl (Nat.le_of_ble_eq_true rfl) dX12_tellRow_40 ⟨Nat.le_of_ble_eq_true rfl, Nat.le_of_ble_eq_true rfl⟩) hL (fun r_17 u_15 H locs k_16 hW hL => ?_)
    obtain ⟨eu_15, xu_15⟩ := k_16
    rw [eu_15] at hW
    have tu_15a : Hd (r_17 = 1 → k ((pz) + 2) = 17) := (fun h => by rw [← hkk]; exact (osg_91 K V T _).1 (by omega) (by omega) (xu_15.2.1 h))
    have tu_15b : Hd (r_17 ≠ 1 → k ((pz) + 2) ≠ 17) := (fun h z => xu_15.2.2 h ((osg_91 K V T _).2 (by rw [hkk]; exact z)))
    refine r_if_eq (tgt := 100) hx hb ⟨(by omega), (by omega)⟩ dX12_tellRow_43 (by decide) (fun c_18 => ?_) (fun c_18 => ?_)
    · have n17 : k (pz + 2) ≠ 17 := tu_15b (by omega)
      have hb2 : b = pz + 2 := (by rcases hri with z | z; (exact z.2); (exact absurd z.1 n17))
      have hED := eDr_1 (T := T) (p := pz) hfn n17
      have hgo : gR1 T k (pz + 3) q := (by rw [show pz + 3 = b + 1 by omega]; exact ⟨a1, b1, hg1, hks, hg2, hk15, hqb⟩)
      refine lv_aload_n hx hb dX12_tellRow_100 rfl (lv_at hl 4 rfl) ?_
      refine lv_dup hx hb dX12_tellRow_101 rfl ?_
      refine g_X12_315 Cx hW (k := 231) (by decide) rfl (v := (S.1 231 24) + 2) uF_on dX12_tellRow_102 ?_
      refine lv_iconst (v := iv 1) hx hb dX12_tellRow_105 (by decide) ?_
      refine r_iadd hx hb dX12_tellRow_106 ?_
      refine p_X12_315 Cx hW hL (k := 231) (by decide) rfl dX12_tellRow_107 (fun H locs hW hL => ?_)
      have F_19 : Fr S (uF (uF u_4 231 24 ((S.1 231 24) + 2)) 231 24 (((S.1 231 24) + 2) + 1)) (pl [231, 248, 249, 250, 251, 252, 255, 257, 258]) := F_11.F rfl
      have g_20 : FF S (uF (uF u_4 231 24 ((S.1 231 24) + 2)) 231 24 (((S.1 231 24) + 2) + 1)) (fl [20, 21, 24, 25, 36, 42, 43]) := FF.F g_12 rfl
      have i_21 : dX G (uF (uF u_4 231 24 ((S.1 231 24) + 2)) 231 24 (((S.1 231 24) + 2) + 1)) := i_13.F (i := 24) (show (-2147483648) ≤ ((S.1 231 24) + 2) + 1 ∧ ((S.1 231 24) + 2) + 1 ≤ 2147483647 from ⟨by omega, by omega⟩)
      refine lv_aload_n hx hb dX12_tellRow_110 rfl (lv_at hl 4 rfl) ?_
      refine g_X12_315 Cx hW (k := 231) (by decide) rfl (v := ((S.1 231 24) + 2) + 1) uF_on dX12_tellRow_111 ?_
      refine lv_istore (lv' := [(5, .int (iv (((S.1 231 24) + 2) + 1))), (4, .int (iv ((-1)))), (3, .int (iv ((-1)))), (2, .int (iv r_6)), (1, .int (iv ((S.1 231 24) + 1))), (0, .ref (G.2.2.1 + 231))]) hx hb dX12_tellRow_114 hl (by decide) rfl (fun ls hl => ?_)
      refine lv_iload hx hb dX12_tellRow_116 (lv_at hl 1 rfl) ?_
      refine lv_iconst (v := iv (-1)) hx hb dX12_tellRow_118 (by decide) ?_
      refine r_icmp_ne (tgt := 126) hx hb ⟨(by omega), (by omega)⟩ ⟨(by omega), (by omega)⟩ dX12_tellRow_119 (by decide) (fun c => absurd (by omega) c) (fun _ => ?_)
      refine lv_iconst (v := iv 0) hx hb dX12_tellRow_122 (by decide) ?_
      refine lv_goto (tgt := 133) hx hb dX12_tellRow_123 (by decide) ?_
      refine lv_istore (lv' := [(6, .int (iv 0)), (5, .int (iv (((S.1 231 24) + 2) + 1))), (4, .int (iv ((-1)))), (3, .int (iv ((-1)))), (2, .int (iv r_6)), (1, .int (iv ((S.1 231 24) + 1))), (0, .ref (G.2.2.1 + 231))]) hx hb dX12_tellRow_133 hl (by decide) rfl (fun ls hl => ?_)
      refine lv_iload hx hb dX12_tellRow_135 (lv_at hl 2 rfl) ?_
      refine lv_iconst (v := iv (-1)) hx hb dX12_tellRow_137 (by decide) ?_
      refine r_icmp_ne (tgt := 145) hx hb ⟨(by omega), (by omega)⟩ ⟨(by omega), (by omega)⟩ dX12_tellRow_138 (by decide) (fun c => absurd (by omega) c) (fun _ => ?_)
      refine lv_iconst (v := iv 0) hx hb dX12_tellRow_141 (by decide) ?_
      refine lv_goto (tgt := 152) hx hb dX12_tellRow_142 (by decide) ?_
      refine lv_istore (lv' := [(7, .int (iv 0)), (6, .int (iv 0)), (5, .int (iv (((S.1 231 24) + 2) + 1))), (4, .int (iv ((-1)))), (3, .int (iv ((-1)))), (2, .int (iv r_6)), (1, .int (iv ((S.1 231 24) + 1))), (0, .ref (G.2.2.1 + 231))]) hx hb dX12_tellRow_152 hl (by decide) rfl (fun ls hl => ?_)
      refine lv_iload hx hb dX12_tellRow_154 (lv_at hl 1 rfl) ?_
      refine lv_istore (lv' := [(8, .int (iv 0)), (7, .int (iv 0)), (6, .int (iv 0)), (5, .int (iv (((S.1 231 24) + 2) + 1))), (4, .int (iv ((-1)))), (3, .int (iv ((-1)))), (2, .int (iv r_6)), (1, .int (iv ((S.1 231 24) + 1))), (0, .ref (G.2.2.1 + 231))]) hx hb dX12_tellRow_156 hl (by decide) rfl (fun ls hl => ?_)
      have loop_158 : ∀ (fuel : Nat) (S158 : sS) (va : Int) (H : Heap) (locs : List Loc) (ls : Array Slot), (1 - va).toNat < fuel → (dX G S158) → (Fr S S158 (pl [231, 248, 249, 250, 251, 252, 255, 257, 258])) → (Fr ((uF (uF u_4 231 24 ((S.1 231 24) + 2)) 231 24 (((S.1 231 24) + 2) + 1))) S158 (pl [231, 248, 249, 250, 251, 252, 255, 257, 258])) → (FF S S158 (fl [20, 21, 24, 25, 36, 42, 43])) → (FF ((uF (uF u_4 231 24 ((S.1 231 24) + 2)) 231 24 (((S.1 231 24) + 2) + 1))) S158 (fl [20, 21, 24, 25, 36, 42, 43])) → (0 ≤ va ∧ va ≤ 1) → (Hd (RBu S158)) → (Hd (S158.1 231 20 = 0 → (va = 0 → NRr (rN M (v (pz + 1))) k v S158 ∧ S158.1 231 36 = S.1 231 36 ∧ S158.1 231 42 = S.1 231 42) ∧ (va = 1 → eRo T k v (rN M (v (pz + 1))) M.2.2.2.2.2.1 M.2.2.2.2.2.2.2 (pz + 3) = some (S158.1 231 36, S158.1 231 42, q) ∧ NRr (rN M (v (pz + 1))) k v S158 ∧ S158.1 231 24 = q ∧ (S.1 231 36 < S158.1 231 36 ∧ S158.1 231 36 ≤ 16) ∧ (0 ≤ S158.1 231 42 ∧ S158.1 231 42 ≤ 20000)))) → (Hd (S158.1 231 20 ≠ 0 → eRo T k v (rN M (v (pz + 1))) M.2.2.2.2.2.1 M.2.2.2.2.2.2.2 (pz + 3) = none)) → (Hd (S158.1 231 20 = 0 → ∀ X, XAr S 1 X → (va = 0 → XAr S158 1 X) ∧ (va = 1 → XAr S158 1 (aRo T k v (rN M (v (pz + 1))) X.1 M.2.2.2.2.2.1 M.2.2.2.2.2.2.2 (pz + 3), X.2)))) → sW G 294 S158 H → sL G locs → lv_has ls 9 [(8, .int (iv va)), (7, .int (iv 0)), (6, .int (iv 0)), (5, .int (iv (((S.1 231 24) + 2) + 1))), (4, .int (iv ((-1)))), (3, .int (iv ((-1)))), (2, .int (iv r_6)), (1, .int (iv ((S.1 231 24) + 1))), (0, .ref (G.2.2.1 + 231))] → W p l e (rmk 137 0 0) s m args below meth c H locs 0 0 (MQ below (sQv G 294 (fun u => dX G u ∧ Fr S u (pl [231, 248, 249, 250, 251, 252, 255, 257, 258]) ∧ FF S u (fl [20, 21, 24, 25, 36, 42, 43]) ∧ ((Hd (RBu u) ∧ QOr u k v q (eDr T k v M pz)) ∧ Hd (u.1 231 20 = 0 → ∀ X, XAr S 1 X → XAr u 1 (aDr T k v M pz X.1, X.2))))) args s 0 0 (sF G)) (F0 m 158 ls []) := by
        intro fuel
        induction fuel with
        | zero => intro S158 va H locs ls hmeas hI158 hFm158 hL158_ hGm158 gL158_ hva hB hOK hNO hXA hW hL hl; exact absurd hmeas (Nat.not_lt_zero _)
        | succ fuel ih_158 =>
          intro S158 va H locs ls hmeas hI158 hFm158 hL158_ hGm158 gL158_ hva hB hOK hNO hXA hW hL hl
          refine lv_iload hx hb dX12_tellRow_158 (lv_at hl 0 rfl) ?_
          refine lv_iload hx hb dX12_tellRow_160 (lv_at hl 1 rfl) ?_
          refine r_icmp_gt (tgt := 202) hx hb ⟨(by omega), (by omega)⟩ ⟨(by omega), (by omega)⟩ dX12_tellRow_162 (by decide) (fun c_22 => ?_) (fun c_22 => ?_)
          · refine lv_iload_n hx hb dX12_tellRow_202 rfl (lv_at hl 5 rfl) ?_
            refine lv_iconst (v := iv (-1)) hx hb dX12_tellRow_203 (by decide) ?_
            refine r_icmp_eq (tgt := 217) hx hb ⟨(by omega), (by omega)⟩ ⟨(by omega), (by omega)⟩ dX12_tellRow_204 (by decide) (fun _ => ?_) (fun c => absurd (by omega) c)
            have q_23 : (-2147483648) ≤ S158.1 231 20 ∧ S158.1 231 20 ≤ 2147483647 := hI158.fi 20
            have q_24 : (-2147483648) ≤ S158.1 231 24 ∧ S158.1 231 24 ≤ 2147483647 := hI158.fi 24
            have q_25 : (-2147483648) ≤ S158.1 231 42 ∧ S158.1 231 42 ≤ 2147483647 := hI158.fi 42
            have q_26 : (-2147483648) ≤ S158.1 231 36 ∧ S158.1 231 36 ≤ 2147483647 := hI158.fi 36
            have q_27 : (-2147483648) ≤ S158.1 231 25 ∧ S158.1 231 25 ≤ 2147483647 := hI158.fi 25
            exact sVret Cx hr hlk hW hL ⟨hI158, hFm158, hGm158, ⟨(rb2 ⟨hB, (fun h => by rw [hED, hNO h]; rfl), (fun h => by have b9 := (hOK h).2 (by omega); exact ⟨rM M (v (pz + 1)) (S158.1 231 36, S158.1 231 42, q), (by rw [hED, b9.1]; rfl), hMr.row hfn b9.2.1 (show S158.1 231 33 = S.1 231 33 from (gL158_ 33 rfl).trans ((uF_ne (fun h => absurd h.2 (by decide))).trans ((uF_ne (fun h => absurd h.2 (by decide))).trans (gu_4 33 rfl)))) (show S158.1 231 34 = S.1 231 34 from (gL158_ 34 rfl).trans ((uF_ne (fun h => absurd h.2 (by decide))).trans ((uF_ne (fun h => absurd h.2 (by decide))).trans (gu_4 34 rfl)))) (show S158.1 231 35 = S.1 231 35 from (gL158_ 35 rfl).trans ((uF_ne (fun h => absurd h.2 (by decide))).trans ((uF_ne (fun h => absurd h.2 (by decide))).trans (gu_4 35 rfl)))) ⟨rfl, b9.2.2.2.1⟩ ⟨rfl, b9.2.2.2.2⟩, b9.2.2.1⟩)⟩), (fun h X hX => by have y := ((hXA h X hX).2 (by omega)); unfold aDr; rw [if_neg n17]; exact y)⟩⟩ dX12_tellRow_217
          · refine lv_aload_n hx hb dX12_tellRow_165 rfl (lv_at hl 8 rfl) ?_
            have q_28 : (-2147483648) ≤ S158.1 231 20 ∧ S158.1 231 20 ≤ 2147483647 := hI158.fi 20
            refine g_X12_270 Cx hW (k := 231) (by decide) rfl (v := S158.1 231 20) rfl dX12_tellRow_166 ?_
            refine r_if_ne (tgt := 202) hx hb ⟨(by omega), (by omega)⟩ dX12_tellRow_169 (by decide) (fun c_29 => ?_) (fun c_29 => ?_)
            · refine lv_iload_n hx hb dX12_tellRow_202 rfl (lv_at hl 5 rfl) ?_
              refine lv_iconst (v := iv (-1)) hx hb dX12_tellRow_203 (by decide) ?_
              refine r_icmp_eq (tgt := 217) hx hb ⟨(by omega), (by omega)⟩ ⟨(by omega), (by omega)⟩ dX12_tellRow_204 (by decide) (fun _ => ?_) (fun c => absurd (by omega) c)
              have q_30 : (-2147483648) ≤ S158.1 231 24 ∧ S158.1 231 24 ≤ 2147483647 := hI158.fi 24
              have q_31 : (-2147483648) ≤ S158.1 231 42 ∧ S158.1 231 42 ≤ 2147483647 := hI158.fi 42
              have q_32 : (-2147483648) ≤ S158.1 231 36 ∧ S158.1 231 36 ≤ 2147483647 := hI158.fi 36
              have q_33 : (-2147483648) ≤ S158.1 231 25 ∧ S158.1 231 25 ≤ 2147483647 := hI158.fi 25
              exact sVret Cx hr hlk hW hL ⟨hI158, hFm158, hGm158, ⟨(rb2 ⟨hB, (fun h => by rw [hED, hNO h]; rfl), (fun h => by have b9 := (hOK h).2 (absurd h (by omega)); exact ⟨rM M (v (pz + 1)) (S158.1 231 36, S158.1 231 42, q), (by rw [hED, b9.1]; rfl), hMr.row hfn b9.2.1 (show S158.1 231 33 = S.1 231 33 from (gL158_ 33 rfl).trans ((uF_ne (fun h => absurd h.2 (by decide))).trans ((uF_ne (fun h => absurd h.2 (by decide))).trans (gu_4 33 rfl)))) (show S158.1 231 34 = S.1 231 34 from (gL158_ 34 rfl).trans ((uF_ne (fun h => absurd h.2 (by decide))).trans ((uF_ne (fun h => absurd h.2 (by decide))).trans (gu_4 34 rfl)))) (show S158.1 231 35 = S.1 231 35 from (gL158_ 35 rfl).trans ((uF_ne (fun h => absurd h.2 (by decide))).trans ((uF_ne (fun h => absurd h.2 (by decide))).trans (gu_4 35 rfl)))) ⟨rfl, b9.2.2.2.1⟩ ⟨rfl, b9.2.2.2.2⟩, b9.2.2.1⟩)⟩), (fun h X hX => by have y := ((hXA h X hX).2 (absurd h (by omega))); unfold aDr; rw [if_neg n17]; exact y)⟩⟩ dX12_tellRow_217
            · have b0 := (hOK (by omega)).1 (by omega)
              have b36 := b0.2.1; have b42 := b0.2.2
              refine lv_iload_n hx hb dX12_tellRow_172 rfl (lv_at hl 5 rfl) ?_
              refine lv_iconst (v := iv (-1)) hx hb dX12_tellRow_173 (by decide) ?_
              refine r_icmp_eq (tgt := 185) hx hb ⟨(by omega), (by omega)⟩ ⟨(by omega), (by omega)⟩ dX12_tellRow_174 (by decide) (fun _ => ?_) (fun c => absurd (by omega) c)
              refine lv_aload_n hx hb dX12_tellRow_185 rfl (lv_at hl 8 rfl) ?_
              refine lv_iload hx hb dX12_tellRow_186 (lv_at hl 3 rfl) ?_
              refine p_X12_315 Cx hW hL (k := 231) (by decide) rfl dX12_tellRow_188 (fun H locs hW hL => ?_)
              have F_34 : Fr S (uF S158 231 24 (((S.1 231 24) + 2) + 1)) (pl [231, 248, 249, 250, 251, 252, 255, 257, 258]) := hFm158.F rfl
              have F_35 : Fr ((uF (uF u_4 231 24 ((S.1 231 24) + 2)) 231 24 (((S.1 231 24) + 2) + 1))) (uF S158 231 24 (((S.1 231 24) + 2) + 1)) (pl [231, 248, 249, 250, 251, 252, 255, 257, 258]) := hL158_.F rfl
              have g_36 : FF S (uF S158 231 24 (((S.1 231 24) + 2) + 1)) (fl [20, 21, 24, 25, 36, 42, 43]) := FF.F hGm158 rfl
              have g_37 : FF ((uF (uF u_4 231 24 ((S.1 231 24) + 2)) 231 24 (((S.1 231 24) + 2) + 1))) (uF S158 231 24 (((S.1 231 24) + 2) + 1)) (fl [20, 21, 24, 25, 36, 42, 43]) := FF.F gL158_ rfl
              have i_38 : dX G (uF S158 231 24 (((S.1 231 24) + 2) + 1)) := hI158.F (i := 24) (show (-2147483648) ≤ ((S.1 231 24) + 2) + 1 ∧ ((S.1 231 24) + 2) + 1 ≤ 2147483647 from ⟨by omega, by omega⟩)
              refine lv_aload_n hx hb dX12_tellRow_191 rfl (lv_at hl 8 rfl) ?_
              refine lv_iload_n hx hb dX12_tellRow_192 rfl (lv_at hl 7 rfl) ?_
              have lk_39 : (uF S158 231 24 (((S.1 231 24) + 2) + 1)).1 231 20 = S158.1 231 20 := uF_ne (fun h => absurd h.2 (by decide))
              have lk_40 : (uF S158 231 24 (((S.1 231 24) + 2) + 1)).1 231 24 = ((S.1 231 24) + 2) + 1 := uF_on
              have q_41 : (-2147483648) ≤ S158.1 231 42 ∧ S158.1 231 42 ≤ 2147483647 := hI158.fi 42
              have lk_42 : (uF S158 231 24 (((S.1 231 24) + 2) + 1)).1 231 42 = S158.1 231 42 := uF_ne (fun h => absurd h.2 (by decide))
              have q_43 : (-2147483648) ≤ S158.1 231 36 ∧ S158.1 231 36 ≤ 2147483647 := hI158.fi 36
              have lk_44 : (uF S158 231 24 (((S.1 231 24) + 2) + 1)).1 231 36 = S158.1 231 36 := uF_ne (fun h => absurd h.2 (by decide))
              have y36 := (show (uF S158 231 24 (((S.1 231 24) + 2) + 1)).1 231 36 = S158.1 231 36 from uF_ne (fun h => absurd h.2 (by decide)))
              have kr_45 : KRr (uF S158 231 24 (((S.1 231 24) + 2) + 1)) k v T := hkr.of (funext fun j => (uF_a).trans (((hL158_ 243 rfl).2.1 j).trans ((uF_a).trans ((uF_a).trans ((fu_4 243 rfl).2.1 j))))) (funext fun j => (uF_a).trans (((hL158_ 244 rfl).2.1 j).trans ((uF_a).trans ((uF_a).trans ((fu_4 244 rfl).2.1 j))))) (funext fun j => (uF_a).trans (((hL158_ 245 rfl).2.1 j).trans ((uF_a).trans ((uF_a).trans ((fu_4 245 rfl).2.1 j))))) (funext fun j => (uF_a).trans (((hL158_ 246 rfl).2.1 j).trans ((uF_a).trans ((uF_a).trans ((fu_4 246 rfl).2.1 j))))) (funext fun j => (uF_a).trans (((hL158_ 247 rfl).2.1 j).trans ((uF_a).trans ((uF_a).trans ((fu_4 247 rfl).2.1 j)))))
              have nr_46 : NRr (rN M (v (pz + 1))) k v (uF S158 231 24 (((S.1 231 24) + 2) + 1)) := b0.1.of (uF_ne (fun h => absurd h.2 (by decide))) (funext fun j => uF_a) (funext fun j => uF_a) (funext fun j => uF_a) (funext fun j => uF_a) (funext fun j => uF_a) (funext fun j => uF_a)
              refine sBv (sV (As := [.int (iv ((S.1 231 24) + 1))]) (rest := []) (k := 231) Cx (f_X12_oneRow l G (uF S158 231 24 (((S.1 231 24) + 2) + 1)) (tk := (S.1 231 24) + 1) (pz := pz + 3) (q := q) (N := rN M (v (pz + 1))) i_38 kr_45 nr_46 hK4 hTV (by omega) (by omega) (by omega) (by omega) (show M.1.1 + 1 + 30 ≤ 128 by omega) hgo (by omega) (by omega) (fun x => by rw [show (uF S158 231 24 (((S.1 231 24) + 2) + 1)).2.2.1 255 x = S158.2.2.1 255 x from uF_l]; exact hB x)) (c_X12_413 Cx rfl rfl (rmk_ok (by omega) (by decide))) hW (by decide) rfl rfl rfl hl.1 rfl (Nat.le_of_ble_eq_true rfl) dX12_tellRow_193 ⟨Nat.le_of_ble_eq_true rfl, Nat.le_of_ble_eq_true rfl⟩) hL (fun u_47 H locs k_48 hW hL => ?_)
              obtain ⟨iu_47, fu_47, gu_47, xu_47⟩ := k_48
              have F_49 := F_34.trans fu_47
              have F_50 := F_35.trans fu_47
              have g_51 : FF S u_47 (fl [20, 21, 24, 25, 36, 42, 43]) := FF.trans g_36 (FF.to gu_47 (fl_sub (by decide)))
              have g_52 : FF ((uF (uF u_4 231 24 ((S.1 231 24) + 2)) 231 24 (((S.1 231 24) + 2) + 1))) u_47 (fl [20, 21, 24, 25, 36, 42, 43]) := FF.trans g_37 (FF.to gu_47 (fl_sub (by decide)))
              obtain ⟨xu_47, au_47⟩ := xu_47
              refine lv_iinc (v := iv (va + 1)) (lv' := [(8, .int (iv (va + 1))), (7, .int (iv 0)), (6, .int (iv 0)), (5, .int (iv (((S.1 231 24) + 2) + 1))), (4, .int (iv ((-1)))), (3, .int (iv ((-1)))), (2, .int (iv r_6)), (1, .int (iv ((S.1 231 24) + 1))), (0, .ref (G.2.2.1 + 231))]) hx hb dX12_tellRow_196 hl (k := 0) rfl ((Int32.ofInt_add _ _).symm) (by decide) rfl (fun ls hl => ?_)
              refine lv_goto (tgt := 158) hx hb dX12_tellRow_199 (by decide) ?_
              have q_53 : (-2147483648) ≤ u_47.1 231 20 ∧ u_47.1 231 20 ≤ 2147483647 := iu_47.fi 20
              have q_54 : (-2147483648) ≤ u_47.1 231 36 ∧ u_47.1 231 36 ≤ 2147483647 := iu_47.fi 36
              have q_55 : (-2147483648) ≤ u_47.1 231 42 ∧ u_47.1 231 42 ≤ 2147483647 := iu_47.fi 42
              have q_56 : (-2147483648) ≤ u_47.1 231 24 ∧ u_47.1 231 24 ≤ 2147483647 := iu_47.fi 24
              exact ih_158 u_47 (va + 1) _ _ _ (by omega) iu_47 F_49 F_50 g_51 g_52 (by omega) xu_47.1 (fun h => ⟨(fun z => absurd z (by omega)), (fun _ => by obtain ⟨z1, z2, z3, z4, z5⟩ := xu_47.2.2 h; rw [show (uF S158 231 24 (((S.1 231 24) + 2) + 1)).1 231 36 = M.2.2.2.2.2.1 by have z := (show (uF S158 231 24 (((S.1 231 24) + 2) + 1)).1 231 36 = S158.1 231 36 from uF_ne (fun h => absurd h.2 (by decide))); omega, show (uF S158 231 24 (((S.1 231 24) + 2) + 1)).1 231 42 = M.2.2.2.2.2.2.2 by have z := (show (uF S158 231 24 (((S.1 231 24) + 2) + 1)).1 231 42 = S158.1 231 42 from uF_ne (fun h => absurd h.2 (by decide))); omega] at z1; exact ⟨z1, z2, z3, (by omega), z5⟩)⟩) (fun h => by have z := xu_47.2.1 h; rw [show (uF S158 231 24 (((S.1 231 24) + 2) + 1)).1 231 36 = M.2.2.2.2.2.1 by have z := (show (uF S158 231 24 (((S.1 231 24) + 2) + 1)).1 231 36 = S158.1 231 36 from uF_ne (fun h => absurd h.2 (by decide))); omega, show (uF S158 231 24 (((S.1 231 24) + 2) + 1)).1 231 42 = M.2.2.2.2.2.2.2 by have z := (show (uF S158 231 24 (((S.1 231 24) + 2) + 1)).1 231 42 = S158.1 231 42 from uF_ne (fun h => absurd h.2 (by decide))); omega] at z; exact z) (fun h X hX => ⟨(fun z => absurd z (by omega)), (fun _ => by have y := au_47 h X (XAr.of (S := S158) (u := (uF S158 231 24 (((S.1 231 24) + 2) + 1))) ((hXA (by omega) X hX).1 (by omega)) (uF_ne (fun h => absurd h.2 (by decide))) (uF_ne (fun h => absurd h.2 (by decide))) (funext fun j => uF_l) (funext fun j => uF_l) (funext fun j => uF_a)); rw [show (uF S158 231 24 (((S.1 231 24) + 2) + 1)).1 231 36 = M.2.2.2.2.2.1 by have z := (show (uF S158 231 24 (((S.1 231 24) + 2) + 1)).1 231 36 = S158.1 231 36 from uF_ne (fun h => absurd h.2 (by decide))); omega, show (uF S158 231 24 (((S.1 231 24) + 2) + 1)).1 231 42 = M.2.2.2.2.2.2.2 by have z := (show (uF S158 231 24 (((S.1 231 24) + 2) + 1)).1 231 42 = S158.1 231 42 from uF_ne (fun h => absurd h.2 (by decide))); omega] at y; exact y)⟩) hW hL (lv_sub hl [0, 1, 2, 3, 4, 5, 6, 7, 8] rfl)
      have lk_57 : (uF (uF u_4 231 24 ((S.1 231 24) + 2)) 231 24 (((S.1 231 24) + 2) + 1)).1 231 20 = u_4.1 231 20 := (uF_ne (fun h => absurd h.2 (by decide))).trans (uF_ne (fun h => absurd h.2 (by decide)))
      have q_58 : (-2147483648) ≤ S.1 231 36 ∧ S.1 231 36 ≤ 2147483647 := hI.fi 36
      have lk_59 : (uF (uF u_4 231 24 ((S.1 231 24) + 2)) 231 24 (((S.1 231 24) + 2) + 1)).1 231 36 = S.1 231 36 := (uF_ne (fun h => absurd h.2 (by decide))).trans ((uF_ne (fun h => absurd h.2 (by decide))).trans (gu_4 36 rfl))
      have q_60 : (-2147483648) ≤ S.1 231 42 ∧ S.1 231 42 ≤ 2147483647 := hI.fi 42
      have lk_61 : (uF (uF u_4 231 24 ((S.1 231 24) + 2)) 231 24 (((S.1 231 24) + 2) + 1)).1 231 42 = S.1 231 42 := (uF_ne (fun h => absurd h.2 (by decide))).trans ((uF_ne (fun h => absurd h.2 (by decide))).trans (gu_4 42 rfl))
      have lk_62 : (uF (uF u_4 231 24 ((S.1 231 24) + 2)) 231 24 (((S.1 231 24) + 2) + 1)).1 231 24 = ((S.1 231 24) + 2) + 1 := uF_on
      have nr_63 : NRr (rN M (v (pz + 1))) k v (uF (uF u_4 231 24 ((S.1 231 24) + 2)) 231 24 (((S.1 231 24) + 2) + 1)) := hN4.of ((uF_ne (fun h => absurd h.2 (by decide))).trans (uF_ne (fun h => absurd h.2 (by decide)))) (funext fun j => (uF_a).trans (uF_a)) (funext fun j => (uF_a).trans (uF_a)) (funext fun j => (uF_a).trans (uF_a)) (funext fun j => (uF_a).trans (uF_a)) (funext fun j => (uF_a).trans (uF_a)) (funext fun j => (uF_a).trans (uF_a))
      exact loop_158 (_ + 1) (uF (uF u_4 231 24 ((S.1 231 24) + 2)) 231 24 (((S.1 231 24) + 2) + 1)) 0 _ _ _ (Nat.lt_succ_self _) i_21 F_19 Fr.rf g_20 FF.rf (by omega) (fun x => by rw [show (uF (uF u_4 231 24 ((S.1 231 24) + 2)) 231 24 (((S.1 231 24) + 2) + 1)).2.2.1 255 x = S.2.2.1 255 x from (uF_l).trans ((uF_l).trans ((fu_4 255 rfl).2.2.1 x))]; exact hRB x) (fun _ => ⟨(fun _ => ⟨nr_63, (show (uF (uF u_4 231 24 ((S.1 231 24) + 2)) 231 24 (((S.1 231 24) + 2) + 1)).1 231 36 = S.1 231 36 from (uF_ne (fun h => absurd h.2 (by decide))).trans ((uF_ne (fun h => absurd h.2 (by decide))).trans (gu_4 36 rfl))), (show (uF (uF u_4 231 24 ((S.1 231 24) + 2)) 231 24 (((S.1 231 24) + 2) + 1)).1 231 42 = S.1 231 42 from (uF_ne (fun h => absurd h.2 (by decide))).trans ((uF_ne (fun h => absurd h.2 (by decide))).trans (gu_4 42 rfl)))⟩), (fun z => absurd z (by omega))⟩) (fun h => absurd (show (uF (uF u_4 231 24 ((S.1 231 24) + 2)) 231 24 (((S.1 231 24) + 2) + 1)).1 231 20 = 0 by have e9 := (show (uF (uF u_4 231 24 ((S.1 231 24) + 2)) 231 24 (((S.1 231 24) + 2) + 1)).1 231 20 = u_4.1 231 20 from (uF_ne (fun h => absurd h.2 (by decide))).trans (uF_ne (fun h => absurd h.2 (by decide)))); omega) h) (fun _ X hX => ⟨(fun _ => (XAr.of (S := S) (u := (uF (uF u_4 231 24 ((S.1 231 24) + 2)) 231 24 (((S.1 231 24) + 2) + 1))) hX ((uF_ne (fun h => absurd h.2 (by decide))).trans ((uF_ne (fun h => absurd h.2 (by decide))).trans (gu_4 35 rfl))) ((uF_ne (fun h => absurd h.2 (by decide))).trans ((uF_ne (fun h => absurd h.2 (by decide))).trans (gu_4 36 rfl))) (funext fun j => (uF_l).trans ((uF_l).trans ((fu_4 255 rfl).2.2.1 j))) (funext fun j => (uF_l).trans ((uF_l).trans ((fu_4 256 rfl).2.2.1 j))) (funext fun j => (uF_a).trans ((uF_a).trans ((fu_4 254 rfl).2.1 j))))), (fun z => absurd z (by omega))⟩) hW hL (lv_sub hl [0, 1, 2, 3, 4, 5, 6, 7, 8] rfl)
    · have k17 : k (pz + 2) = 17 := tu_15a (by omega)
      have hb7 : b = pz + 7 := (by rcases hri with z | z; (exact absurd k17 z.1); (exact z.2))
      obtain ⟨hk3, hk5⟩ := hk35 k17
      refine lv_aload_n hx hb dX12_tellRow_46 rfl (lv_at hl 4 rfl) ?_
      refine lv_dup hx hb dX12_tellRow_47 rfl ?_
      refine g_X12_315 Cx hW (k := 231) (by decide) rfl (v := (S.1 231 24) + 2) uF_on dX12_tellRow_48 ?_
      refine lv_iconst (v := iv 1) hx hb dX12_tellRow_51 (by decide) ?_
      refine r_iadd hx hb dX12_tellRow_52 ?_
      refine p_X12_315 Cx hW hL (k := 231) (by decide) rfl dX12_tellRow_53 (fun H locs hW hL => ?_)
      have F_64 : Fr S (uF (uF u_4 231 24 ((S.1 231 24) + 2)) 231 24 (((S.1 231 24) + 2) + 1)) (pl [231, 248, 249, 250, 251, 252, 255, 257, 258]) := F_11.F rfl
      have g_65 : FF S (uF (uF u_4 231 24 ((S.1 231 24) + 2)) 231 24 (((S.1 231 24) + 2) + 1)) (fl [20, 21, 24, 25, 36, 42, 43]) := FF.F g_12 rfl
      have i_66 : dX G (uF (uF u_4 231 24 ((S.1 231 24) + 2)) 231 24 (((S.1 231 24) + 2) + 1)) := i_13.F (i := 24) (show (-2147483648) ≤ ((S.1 231 24) + 2) + 1 ∧ ((S.1 231 24) + 2) + 1 ≤ 2147483647 from ⟨by omega, by omega⟩)
      refine lv_aload_n hx hb dX12_tellRow_56 rfl (lv_at hl 4 rfl) ?_
      refine lv_aload_n hx hb dX12_tellRow_57 rfl (lv_at hl 4 rfl) ?_
      refine g_X12_315 Cx hW (k := 231) (by decide) rfl (v := ((S.1 231 24) + 2) + 1) uF_on dX12_tellRow_58 ?_
      refine lv_iconst (v := iv 5) hx hb dX12_tellRow_61 (by decide) ?_
      have lk_67 : (uF (uF u_4 231 24 ((S.1 231 24) + 2)) 231 24 (((S.1 231 24) + 2) + 1)).1 231 20 = u_4.1 231 20 := (uF_ne (fun h => absurd h.2 (by decide))).trans (uF_ne (fun h => absurd h.2 (by decide)))
      have q_68 : (-2147483648) ≤ u_4.1 231 25 ∧ u_4.1 231 25 ≤ 2147483647 := iu_4.fi 25
      have lk_69 : (uF (uF u_4 231 24 ((S.1 231 24) + 2)) 231 24 (((S.1 231 24) + 2) + 1)).1 231 25 = u_4.1 231 25 := (uF_ne (fun h => absurd h.2 (by decide))).trans (uF_ne (fun h => absurd h.2 (by decide)))
      have kr_70 : KRr (uF (uF u_4 231 24 ((S.1 231 24) + 2)) 231 24 (((S.1 231 24) + 2) + 1)) k v T := hkr.of (funext fun j => (uF_a).trans ((uF_a).trans ((fu_4 243 rfl).2.1 j))) (funext fun j => (uF_a).trans ((uF_a).trans ((fu_4 244 rfl).2.1 j))) (funext fun j => (uF_a).trans ((uF_a).trans ((fu_4 245 rfl).2.1 j))) (funext fun j => (uF_a).trans ((uF_a).trans ((fu_4 246 rfl).2.1 j))) (funext fun j => (uF_a).trans ((uF_a).trans ((fu_4 247 rfl).2.1 j)))
      have nr_71 : NRr (rN M (v (pz + 1))) k v (uF (uF u_4 231 24 ((S.1 231 24) + 2)) 231 24 (((S.1 231 24) + 2) + 1)) := hN4.of ((uF_ne (fun h => absurd h.2 (by decide))).trans (uF_ne (fun h => absurd h.2 (by decide)))) (funext fun j => (uF_a).trans (uF_a)) (funext fun j => (uF_a).trans (uF_a)) (funext fun j => (uF_a).trans (uF_a)) (funext fun j => (uF_a).trans (uF_a)) (funext fun j => (uF_a).trans (uF_a)) (funext fun j => (uF_a).trans (uF_a))
      refine sBi (sV (As := [.int (iv (((S.1 231 24) + 2) + 1)), .int (iv 5)]) (rest := []) (k := 231) Cx (e_X12_add_ l G (uF (uF u_4 231 24 ((S.1 231 24) + 2)) 231 24 (((S.1 231 24) + 2) + 1)) (tk := ((S.1 231 24) + 2) + 1) (so := 5) i_66 kr_70 nr_71 hK4 (by omega) (by rw [show ((S.1 231 24) + 2) + 1 = pz + 3 by omega]; exact hk3) (show M.1.1 + 1 < 128 by omega) (by omega)) (c_X12_404 Cx rfl rfl (rmk_ok (by omega) (by decide))) hW (by decide) rfl rfl rfl hl.1 rfl (Nat.le_of_ble_eq_true rfl) dX12_tellRow_62 ⟨Nat.le_of_ble_eq_true rfl, Nat.le_of_ble_eq_true rfl⟩) hL (fun r_74 u_72 H locs k_73 hW hL => ?_)
      obtain ⟨iu_72, fu_72, gu_72, xu_72⟩ := k_73
      have F_75 := F_64.trans (fu_72.to (pl_sub (by decide)))
      have g_76 : FF S u_72 (fl [20, 21, 24, 25, 36, 42, 43]) := FF.trans g_65 (FF.to gu_72 (fl_sub (by decide)))
      refine lv_istore_n (lv' := [(3, .int (iv r_74)), (4, .int (iv ((-1)))), (2, .int (iv r_6)), (1, .int (iv ((S.1 231 24) + 1))), (0, .ref (G.2.2.1 + 231))]) hx hb dX12_tellRow_65 rfl hl (by decide) rfl (fun ls hl => ?_)
      refine lv_aload_n hx hb dX12_tellRow_66 rfl (lv_at hl 4 rfl) ?_
      refine lv_dup hx hb dX12_tellRow_67 rfl ?_
      refine g_X12_315 Cx hW (k := 231) (by decide) rfl (v := ((S.1 231 24) + 2) + 1) ((gu_72 24 rfl).trans (uF_on)) dX12_tellRow_68 ?_
      refine lv_iconst (v := iv 2) hx hb dX12_tellRow_71 (by decide) ?_
      refine r_iadd hx hb dX12_tellRow_72 ?_
      refine p_X12_315 Cx hW hL (k := 231) (by decide) rfl dX12_tellRow_73 (fun H locs hW hL => ?_)
      have F_77 : Fr S (uF u_72 231 24 ((((S.1 231 24) + 2) + 1) + 2)) (pl [231, 248, 249, 250, 251, 252, 255, 257, 258]) := F_75.F rfl
      have g_78 : FF S (uF u_72 231 24 ((((S.1 231 24) + 2) + 1) + 2)) (fl [20, 21, 24, 25, 36, 42, 43]) := FF.F g_76 rfl
      have i_79 : dX G (uF u_72 231 24 ((((S.1 231 24) + 2) + 1) + 2)) := iu_72.F (i := 24) (show (-2147483648) ≤ (((S.1 231 24) + 2) + 1) + 2 ∧ (((S.1 231 24) + 2) + 1) + 2 ≤ 2147483647 from ⟨by omega, by omega⟩)
      refine lv_aload_n hx hb dX12_tellRow_76 rfl (lv_at hl 4 rfl) ?_
      by_cases hfz : u_72.1 231 20 = 0
      · obtain ⟨hfi0, hr3, h25v, hrv⟩ := xu_72.2.2 hfz
        have hfi : eFind (rN M (v (pz + 1))) (v (pz + 3)) = -1 := (by rw [← show ((S.1 231 24) + 2) + 1 = pz + 3 by omega]; exact hfi0)
        have h25X : (uF (uF u_4 231 24 ((S.1 231 24) + 2)) 231 24 (((S.1 231 24) + 2) + 1)).1 231 25 = u_4.1 231 25 := (uF_ne (fun h => absurd h.2 (by decide))).trans (uF_ne (fun h => absurd h.2 (by decide)))
        have hrN : r_74 = M.1.1 + 1 := (by omega)
        have hp0 : NRr (push (rN M (v (pz + 1))) (v (pz + 3)) 0) k v u_72 := (by rw [← show ((S.1 231 24) + 2) + 1 = pz + 3 by omega]; exact NRr.pushed nr_71 hK4 (by rw [show ((S.1 231 24) + 2) + 1 = pz + 3 by omega]; exact hk3) h25v hrv (funext fun j => (fu_72 253 rfl).2.1 j) (show M.1.1 + 1 < 128 by omega))
        have hKp0 : NK (push (rN M (v (pz + 1))) (v (pz + 3)) 0) := NK.pushed hK4 (show 0 ≤ M.1.1 + 1 by omega) hfi (by omega)
        have q_80 : (-2147483648) ≤ u_72.1 231 20 ∧ u_72.1 231 20 ≤ 2147483647 := iu_72.fi 20
        have lk_81 : (uF u_72 231 24 ((((S.1 231 24) + 2) + 1) + 2)).1 231 20 = u_72.1 231 20 := uF_ne (fun h => absurd h.2 (by decide))
        have lk_82 : (uF u_72 231 24 ((((S.1 231 24) + 2) + 1) + 2)).1 231 24 = (((S.1 231 24) + 2) + 1) + 2 := uF_on
        have q_83 : (-2147483648) ≤ S.1 231 42 ∧ S.1 231 42 ≤ 2147483647 := hI.fi 42
        have lk_84 : (uF u_72 231 24 ((((S.1 231 24) + 2) + 1) + 2)).1 231 42 = S.1 231 42 := (uF_ne (fun h => absurd h.2 (by decide))).trans ((gu_72 42 rfl).trans ((uF_ne (fun h => absurd h.2 (by decide))).trans ((uF_ne (fun h => absurd h.2 (by decide))).trans (gu_4 42 rfl))))
        have kr_85 : KRr (uF u_72 231 24 ((((S.1 231 24) + 2) + 1) + 2)) k v T := hkr.of (funext fun j => (uF_a).trans (((fu_72 243 rfl).2.1 j).trans ((uF_a).trans ((uF_a).trans ((fu_4 243 rfl).2.1 j))))) (funext fun j => (uF_a).trans (((fu_72 244 rfl).2.1 j).trans ((uF_a).trans ((uF_a).trans ((fu_4 244 rfl).2.1 j))))) (funext fun j => (uF_a).trans (((fu_72 245 rfl).2.1 j).trans ((uF_a).trans ((uF_a).trans ((fu_4 245 rfl).2.1 j))))) (funext fun j => (uF_a).trans (((fu_72 246 rfl).2.1 j).trans ((uF_a).trans ((uF_a).trans ((fu_4 246 rfl).2.1 j))))) (funext fun j => (uF_a).trans (((fu_72 247 rfl).2.1 j).trans ((uF_a).trans ((uF_a).trans ((fu_4 247 rfl).2.1 j)))))
        have nr_86 : NRr (push (rN M (v (pz + 1))) (v (pz + 3)) 0) k v (uF u_72 231 24 ((((S.1 231 24) + 2) + 1) + 2)) := hp0.of (uF_ne (fun h => absurd h.2 (by decide))) (funext fun j => uF_a) (funext fun j => uF_a) (funext fun j => uF_a) (funext fun j => uF_a) (funext fun j => uF_a) (funext fun j => uF_a)
        refine sBi (sV (As := []) (rest := []) (k := 231) Cx (e_X12_setHere l G (uF u_72 231 24 ((((S.1 231 24) + 2) + 1) + 2)) (pz := (((pz) + 2) + 1) + 2) i_79 kr_85 nr_86 hKp0 (by omega) (by omega) (by rw [show (((pz) + 2) + 1) + 2 = pz + 5 by omega]; exact hk5)) (c_X12_364 Cx rfl rfl (rmk_ok (by omega) (by decide))) hW (by decide) rfl rfl rfl hl.1 rfl (Nat.le_of_ble_eq_true rfl) dX12_tellRow_77 ⟨Nat.le_of_ble_eq_true rfl, Nat.le_of_ble_eq_true rfl⟩) hL (fun s4 u_87 H locs k_88 hW hL => ?_)
        obtain ⟨iu_87, fu_87, gu_87, xu_87⟩ := k_88
        have F_89 := F_77.trans (fu_87.to (pl_sub (by decide)))
        have g_90 : FF S u_87 (fl [20, 21, 24, 25, 36, 42, 43]) := FF.trans g_78 (FF.to gu_87 (fl_sub (by decide)))
        have e24s := xu_87.2.1
        refine lv_istore (lv' := [(4, .int (iv s4)), (3, .int (iv r_74)), (2, .int (iv r_6)), (1, .int (iv ((S.1 231 24) + 1))), (0, .ref (G.2.2.1 + 231))]) hx hb dX12_tellRow_80 hl (by decide) rfl (fun ls hl => ?_)
        refine lv_aload_n hx hb dX12_tellRow_82 rfl (lv_at hl 4 rfl) ?_
        refine lv_dup hx hb dX12_tellRow_83 rfl ?_
        have q_91 : (-2147483648) ≤ u_87.1 231 24 ∧ u_87.1 231 24 ≤ 2147483647 := iu_87.fi 24
        refine g_X12_315 Cx hW (k := 231) (by decide) rfl (v := u_87.1 231 24) rfl dX12_tellRow_84 ?_
        refine lv_iconst (v := iv 1) hx hb dX12_tellRow_87 (by decide) ?_
        refine r_iadd hx hb dX12_tellRow_88 ?_
        refine p_X12_315 Cx hW hL (k := 231) (by decide) rfl dX12_tellRow_89 (fun H locs hW hL => ?_)
        have F_92 : Fr S (uF u_87 231 24 ((u_87.1 231 24) + 1)) (pl [231, 248, 249, 250, 251, 252, 255, 257, 258]) := F_89.F rfl
        have g_93 : FF S (uF u_87 231 24 ((u_87.1 231 24) + 1)) (fl [20, 21, 24, 25, 36, 42, 43]) := FF.F g_90 rfl
        have i_94 : dX G (uF u_87 231 24 ((u_87.1 231 24) + 1)) := iu_87.F (i := 24) (show (-2147483648) ≤ (u_87.1 231 24) + 1 ∧ (u_87.1 231 24) + 1 ≤ 2147483647 from ⟨by omega, by omega⟩)
        refine lv_aload_n hx hb dX12_tellRow_92 rfl (lv_at hl 4 rfl) ?_
        have q_95 : (-2147483648) ≤ u_87.1 231 20 ∧ u_87.1 231 20 ≤ 2147483647 := iu_87.fi 20
        refine g_X12_270 Cx hW (k := 231) (by decide) rfl (v := u_87.1 231 20) (uF_ne (fun h => absurd h.2 (by decide))) dX12_tellRow_93 ?_
        refine r_if_eq (tgt := 100) hx hb ⟨(by omega), (by omega)⟩ dX12_tellRow_96 (by decide) (fun c_96 => ?_) (fun c_96 => ?_)
        · obtain ⟨hsr, hsi⟩ := xu_87.2.2.2 (by omega)
          rw [show (((pz) + 2) + 1) + 2 = pz + 5 by omega] at hsr hsi
          have hs6 : isS (rN M (v (pz + 1))) (v (pz + 5)) := (isS_push (show 0 ≤ M.1.1 + 1 by omega)).mp hsi
          have hsE : s4 = eFind (rN M (v (pz + 1))) (v (pz + 5)) := (by rw [hsr, eFind_push (show 0 ≤ M.1.1 + 1 by omega), if_pos hs6.1])
          have hsm : isS M.1 (v (pz + 5)) := (isS_add (by omega) (by rw [fct0]; decide)).mp hs6
          have hsF : s4 = eFind M.1 (v (pz + 5)) := hsE.trans (eFind_add_s (by omega) hsm)
          have hsl := eFind_lt (N := M.1) (x := v (pz + 5)) (by omega)
          have hsN : 0 ≤ s4 ∧ s4 < M.1.1 := (by have z := hsm.1; omega)
          have h6 : M.1.2.2.1 s4 0 = 6 := (by rw [hsF]; exact hsm.2)
          have h64 : (rN M (v (pz + 1))).2.2.1 s4 = M.1.2.2.1 s4 := add_o (by omega)
          have hb6 := (hK_.2 s4 hsN.1 hsN.2).2.1 h6
          have h66 := hp0.set6 hsN.1 (show s4 < M.1.1 + 1 by omega) (by rw [h64]; exact h6)
          rw [h64] at h66
          have e250 : u_72.2.1 250 s4 = M.1.2.2.1 s4 1 := h66.1; have e251 : u_72.2.1 251 s4 = M.1.2.2.1 s4 2 := h66.2
          have hED := eDr_3 (T := T) (k := k) (v := v) (M := M) (p := pz) (s := s4) (lo := M.1.2.2.1 s4 1) (hi := M.1.2.2.1 s4 2) (by omega) hfn k17 hfi hs6 hsE rfl rfl
          have hgo : gR1 T k (pz + 8) q := (by rw [show pz + 8 = b + 1 by omega]; exact ⟨a1, b1, hg1, hks, hg2, hk15, hqb⟩)
          refine lv_aload_n hx hb dX12_tellRow_100 rfl (lv_at hl 4 rfl) ?_
          refine lv_dup hx hb dX12_tellRow_101 rfl ?_
          refine g_X12_315 Cx hW (k := 231) (by decide) rfl (v := (u_87.1 231 24) + 1) uF_on dX12_tellRow_102 ?_
          refine lv_iconst (v := iv 1) hx hb dX12_tellRow_105 (by decide) ?_
          refine r_iadd hx hb dX12_tellRow_106 ?_
          refine p_X12_315 Cx hW hL (k := 231) (by decide) rfl dX12_tellRow_107 (fun H locs hW hL => ?_)
          have F_97 : Fr S (uF (uF u_87 231 24 ((u_87.1 231 24) + 1)) 231 24 (((u_87.1 231 24) + 1) + 1)) (pl [231, 248, 249, 250, 251, 252, 255, 257, 258]) := F_92.F rfl
          have g_98 : FF S (uF (uF u_87 231 24 ((u_87.1 231 24) + 1)) 231 24 (((u_87.1 231 24) + 1) + 1)) (fl [20, 21, 24, 25, 36, 42, 43]) := FF.F g_93 rfl
          have i_99 : dX G (uF (uF u_87 231 24 ((u_87.1 231 24) + 1)) 231 24 (((u_87.1 231 24) + 1) + 1)) := i_94.F (i := 24) (show (-2147483648) ≤ ((u_87.1 231 24) + 1) + 1 ∧ ((u_87.1 231 24) + 1) + 1 ≤ 2147483647 from ⟨by omega, by omega⟩)
          refine lv_aload_n hx hb dX12_tellRow_110 rfl (lv_at hl 4 rfl) ?_
          refine g_X12_315 Cx hW (k := 231) (by decide) rfl (v := ((u_87.1 231 24) + 1) + 1) uF_on dX12_tellRow_111 ?_
          refine lv_istore (lv' := [(5, .int (iv (((u_87.1 231 24) + 1) + 1))), (4, .int (iv s4)), (3, .int (iv r_74)), (2, .int (iv r_6)), (1, .int (iv ((S.1 231 24) + 1))), (0, .ref (G.2.2.1 + 231))]) hx hb dX12_tellRow_114 hl (by decide) rfl (fun ls hl => ?_)
          refine lv_iload hx hb dX12_tellRow_116 (lv_at hl 1 rfl) ?_
          refine lv_iconst (v := iv (-1)) hx hb dX12_tellRow_118 (by decide) ?_
          refine r_icmp_ne (tgt := 126) hx hb ⟨(by omega), (by omega)⟩ ⟨(by omega), (by omega)⟩ dX12_tellRow_119 (by decide) (fun _ => ?_) (fun c => absurd c (by omega))
          refine lv_aload_n hx hb dX12_tellRow_126 rfl (lv_at hl 5 rfl) ?_
          refine g_X12_65 Cx hW (k := 231) (by decide) rfl (v := .ref (G.2.2.1 + 250)) (rd_28 i_99) dX12_tellRow_127 ?_
          refine lv_iload hx hb dX12_tellRow_130 (lv_at hl 1 rfl) ?_
          refine rIald Cx hW (k := 250) (by decide) rfl (by decide) (by omega) (by omega) dX12_tellRow_132 ?_
          have q_100 : (-2147483648) ≤ u_72.2.1 250 s4 ∧ u_72.2.1 250 s4 ≤ 2147483647 := iu_72.ai 250 s4
          refine r_i (b := u_72.2.1 250 s4) ((uF_a).trans ((uF_a).trans (((fu_87 250 rfl).2.1 s4).trans (uF_a)))) ?_
          refine lv_istore (lv' := [(6, .int (iv (u_72.2.1 250 s4))), (5, .int (iv (((u_87.1 231 24) + 1) + 1))), (4, .int (iv s4)), (3, .int (iv r_74)), (2, .int (iv r_6)), (1, .int (iv ((S.1 231 24) + 1))), (0, .ref (G.2.2.1 + 231))]) hx hb dX12_tellRow_133 hl (by decide) rfl (fun ls hl => ?_)
          refine lv_iload hx hb dX12_tellRow_135 (lv_at hl 2 rfl) ?_
          refine lv_iconst (v := iv (-1)) hx hb dX12_tellRow_137 (by decide) ?_
          refine r_icmp_ne (tgt := 145) hx hb ⟨(by omega), (by omega)⟩ ⟨(by omega), (by omega)⟩ dX12_tellRow_138 (by decide) (fun _ => ?_) (fun c => absurd c (by omega))
          refine lv_aload_n hx hb dX12_tellRow_145 rfl (lv_at hl 6 rfl) ?_
          refine g_X12_68 Cx hW (k := 231) (by decide) rfl (v := .ref (G.2.2.1 + 251)) (rd_29 i_99) dX12_tellRow_146 ?_
          refine lv_iload hx hb dX12_tellRow_149 (lv_at hl 2 rfl) ?_
          refine rIald Cx hW (k := 251) (by decide) rfl (by decide) (by omega) (by omega) dX12_tellRow_151 ?_
          have q_101 : (-2147483648) ≤ u_72.2.1 251 s4 ∧ u_72.2.1 251 s4 ≤ 2147483647 := iu_72.ai 251 s4
          refine r_i (b := u_72.2.1 251 s4) ((uF_a).trans ((uF_a).trans (((fu_87 251 rfl).2.1 s4).trans (uF_a)))) ?_
          refine lv_istore (lv' := [(7, .int (iv (u_72.2.1 251 s4))), (6, .int (iv (u_72.2.1 250 s4))), (5, .int (iv (((u_87.1 231 24) + 1) + 1))), (4, .int (iv s4)), (3, .int (iv r_74)), (2, .int (iv r_6)), (1, .int (iv ((S.1 231 24) + 1))), (0, .ref (G.2.2.1 + 231))]) hx hb dX12_tellRow_152 hl (by decide) rfl (fun ls hl => ?_)
          refine lv_iload hx hb dX12_tellRow_154 (lv_at hl 1 rfl) ?_
          refine lv_istore (lv' := [(8, .int (iv (u_72.2.1 250 s4))), (7, .int (iv (u_72.2.1 251 s4))), (6, .int (iv (u_72.2.1 250 s4))), (5, .int (iv (((u_87.1 231 24) + 1) + 1))), (4, .int (iv s4)), (3, .int (iv r_74)), (2, .int (iv r_6)), (1, .int (iv ((S.1 231 24) + 1))), (0, .ref (G.2.2.1 + 231))]) hx hb dX12_tellRow_156 hl (by decide) rfl (fun ls hl => ?_)
          have loop_158 : ∀ (fuel : Nat) (S158 : sS) (va : Int) (H : Heap) (locs : List Loc) (ls : Array Slot), (M.1.2.2.1 s4 2 + 1 - va).toNat < fuel → (dX G S158) → (Fr S S158 (pl [231, 248, 249, 250, 251, 252, 255, 257, 258])) → (Fr ((uF (uF u_87 231 24 ((u_87.1 231 24) + 1)) 231 24 (((u_87.1 231 24) + 1) + 1))) S158 (pl [231, 248, 249, 250, 251, 252, 255, 257, 258])) → (FF S S158 (fl [20, 21, 24, 25, 36, 42, 43])) → (FF ((uF (uF u_87 231 24 ((u_87.1 231 24) + 1)) 231 24 (((u_87.1 231 24) + 1) + 1))) S158 (fl [20, 21, 24, 25, 36, 42, 43])) → (M.1.2.2.1 s4 1 ≤ va ∧ va ≤ M.1.2.2.1 s4 2 + 1) → (Hd (RBu S158)) → (Hd (S158.1 231 20 = 0 → ∃ w0, eRn T k v (rN M (v (pz + 1))) (v (pz + 3)) (pz + 8) (M.1.2.2.1 s4 2 + 1 - M.1.2.2.1 s4 1).toNat (M.1.2.2.1 s4 1) M.2.2.2.2.2.1 M.2.2.2.2.2.2.2 (pz + 8) = eRn T k v (rN M (v (pz + 1))) (v (pz + 3)) (pz + 8) (M.1.2.2.1 s4 2 + 1 - va).toNat va (S158.1 231 36) (S158.1 231 42) q ∧ NRr (push (rN M (v (pz + 1))) (v (pz + 3)) w0) k v S158 ∧ (S.1 231 36 ≤ S158.1 231 36 ∧ S158.1 231 36 ≤ 16) ∧ (0 ≤ S158.1 231 42 ∧ S158.1 231 42 ≤ 20000) ∧ (M.1.2.2.1 s4 1 < va → S158.1 231 24 = q ∧ S.1 231 36 < S158.1 231 36))) → (Hd (S158.1 231 20 ≠ 0 → eRn T k v (rN M (v (pz + 1))) (v (pz + 3)) (pz + 8) (M.1.2.2.1 s4 2 + 1 - M.1.2.2.1 s4 1).toNat (M.1.2.2.1 s4 1) M.2.2.2.2.2.1 M.2.2.2.2.2.2.2 (pz + 8) = none)) → (Hd (S158.1 231 20 = 0 → ∀ X, XAr S 1 X → ∃ A, XAr S158 1 (A, X.2) ∧ aRn T k v (rN M (v (pz + 1))) (v (pz + 3)) (pz + 8) (M.1.2.2.1 s4 2 + 1 - va).toNat va A (S158.1 231 36) (S158.1 231 42) = aDr T k v M pz X.1)) → sW G 294 S158 H → sL G locs → lv_has ls 9 [(8, .int (iv va)), (7, .int (iv (u_72.2.1 251 s4))), (6, .int (iv (u_72.2.1 250 s4))), (5, .int (iv (((u_87.1 231 24) + 1) + 1))), (4, .int (iv s4)), (3, .int (iv r_74)), (2, .int (iv r_6)), (1, .int (iv ((S.1 231 24) + 1))), (0, .ref (G.2.2.1 + 231))] → W p l e (rmk 137 0 0) s m args below meth c H locs 0 0 (MQ below (sQv G 294 (fun u => dX G u ∧ Fr S u (pl [231, 248, 249, 250, 251, 252, 255, 257, 258]) ∧ FF S u (fl [20, 21, 24, 25, 36, 42, 43]) ∧ ((Hd (RBu u) ∧ QOr u k v q (eDr T k v M pz)) ∧ Hd (u.1 231 20 = 0 → ∀ X, XAr S 1 X → XAr u 1 (aDr T k v M pz X.1, X.2))))) args s 0 0 (sF G)) (F0 m 158 ls []) := by
            intro fuel
            induction fuel with
            | zero => intro S158 va H locs ls hmeas hI158 hFm158 hL158_ hGm158 gL158_ hva hB hOK hNO hXA hW hL hl; exact absurd hmeas (Nat.not_lt_zero _)
            | succ fuel ih_158 =>
              intro S158 va H locs ls hmeas hI158 hFm158 hL158_ hGm158 gL158_ hva hB hOK hNO hXA hW hL hl
              refine lv_iload hx hb dX12_tellRow_158 (lv_at hl 0 rfl) ?_
              refine lv_iload hx hb dX12_tellRow_160 (lv_at hl 1 rfl) ?_
              refine r_icmp_gt (tgt := 202) hx hb ⟨(by omega), (by omega)⟩ ⟨(by omega), (by omega)⟩ dX12_tellRow_162 (by decide) (fun c_102 => ?_) (fun c_102 => ?_)
              · by_cases hgz : S158.1 231 20 = 0
                · obtain ⟨w0, eQ, nV, b36, b42, bq⟩ := hOK hgz
                  have hk96 : M.1.1 + 1 + 1 = S158.1 231 25 := nV.1.1
                  have bq2 := bq (by omega)
                  have hvz : M.1.2.2.1 s4 2 + 1 = va := (by omega)
                  refine lv_iload_n hx hb dX12_tellRow_202 rfl (lv_at hl 5 rfl) ?_
                  refine lv_iconst (v := iv (-1)) hx hb dX12_tellRow_203 (by decide) ?_
                  refine r_icmp_eq (tgt := 217) hx hb ⟨(by omega), (by omega)⟩ ⟨(by omega), (by omega)⟩ dX12_tellRow_204 (by decide) (fun c => absurd c (by omega)) (fun _ => ?_)
                  refine lv_aload_n hx hb dX12_tellRow_207 rfl (lv_at hl 8 rfl) ?_
                  refine lv_dup hx hb dX12_tellRow_208 rfl ?_
                  have q_103 : (-2147483648) ≤ S158.1 231 25 ∧ S158.1 231 25 ≤ 2147483647 := hI158.fi 25
                  refine g_X12_358 Cx hW (k := 231) (by decide) rfl (v := S158.1 231 25) rfl dX12_tellRow_209 ?_
                  refine lv_iconst (v := iv 1) hx hb dX12_tellRow_212 (by decide) ?_
                  refine r_isub hx hb dX12_tellRow_213 ?_
                  refine p_X12_358 Cx hW hL (k := 231) (by decide) rfl dX12_tellRow_214 (fun H locs hW hL => ?_)
                  have F_104 : Fr S (uF S158 231 25 ((S158.1 231 25) - 1)) (pl [231, 248, 249, 250, 251, 252, 255, 257, 258]) := hFm158.F rfl
                  have F_105 : Fr ((uF (uF u_87 231 24 ((u_87.1 231 24) + 1)) 231 24 (((u_87.1 231 24) + 1) + 1))) (uF S158 231 25 ((S158.1 231 25) - 1)) (pl [231, 248, 249, 250, 251, 252, 255, 257, 258]) := hL158_.F rfl
                  have g_106 : FF S (uF S158 231 25 ((S158.1 231 25) - 1)) (fl [20, 21, 24, 25, 36, 42, 43]) := FF.F hGm158 rfl
                  have g_107 : FF ((uF (uF u_87 231 24 ((u_87.1 231 24) + 1)) 231 24 (((u_87.1 231 24) + 1) + 1))) (uF S158 231 25 ((S158.1 231 25) - 1)) (fl [20, 21, 24, 25, 36, 42, 43]) := FF.F gL158_ rfl
                  have i_108 : dX G (uF S158 231 25 ((S158.1 231 25) - 1)) := hI158.F (i := 25) (show (-2147483648) ≤ (S158.1 231 25) - 1 ∧ (S158.1 231 25) - 1 ≤ 2147483647 from ⟨by omega, by omega⟩)
                  have q_109 : (-2147483648) ≤ S158.1 231 20 ∧ S158.1 231 20 ≤ 2147483647 := hI158.fi 20
                  have lk_110 : (uF S158 231 25 ((S158.1 231 25) - 1)).1 231 20 = S158.1 231 20 := uF_ne (fun h => absurd h.2 (by decide))
                  have q_111 : (-2147483648) ≤ S158.1 231 24 ∧ S158.1 231 24 ≤ 2147483647 := hI158.fi 24
                  have lk_112 : (uF S158 231 25 ((S158.1 231 25) - 1)).1 231 24 = S158.1 231 24 := uF_ne (fun h => absurd h.2 (by decide))
                  have q_113 : (-2147483648) ≤ S158.1 231 42 ∧ S158.1 231 42 ≤ 2147483647 := hI158.fi 42
                  have lk_114 : (uF S158 231 25 ((S158.1 231 25) - 1)).1 231 42 = S158.1 231 42 := uF_ne (fun h => absurd h.2 (by decide))
                  have q_115 : (-2147483648) ≤ S158.1 231 36 ∧ S158.1 231 36 ≤ 2147483647 := hI158.fi 36
                  have lk_116 : (uF S158 231 25 ((S158.1 231 25) - 1)).1 231 36 = S158.1 231 36 := uF_ne (fun h => absurd h.2 (by decide))
                  have lk_117 : (uF S158 231 25 ((S158.1 231 25) - 1)).1 231 25 = (S158.1 231 25) - 1 := uF_on
                  exact sVret Cx hr hlk hW hL ⟨i_108, F_104, g_106, ⟨(rb2 ⟨(fun x => by rw [show (uF S158 231 25 ((S158.1 231 25) - 1)).2.2.1 255 x = S158.2.2.1 255 x from uF_l]; exact hB x), (fun h => absurd (show (uF S158 231 25 ((S158.1 231 25) - 1)).1 231 20 = 0 by have e9 := (show (uF S158 231 25 ((S158.1 231 25) - 1)).1 231 20 = S158.1 231 20 from uF_ne (fun h => absurd h.2 (by decide))); omega) h), (fun _ => ⟨rM M (v (pz + 1)) (S158.1 231 36, S158.1 231 42, q), (by rw [hED, eQ, eRn_z hvz]; rfl), hMr.row hfn (nV.pop hK4 (show 0 ≤ M.1.1 + 1 by omega) (by have e6 := (show (uF S158 231 25 ((S158.1 231 25) - 1)).1 231 25 = (S158.1 231 25) - 1 from uF_on); omega) (funext fun j => uF_a) (funext fun j => uF_a) (funext fun j => uF_a) (funext fun j => uF_a) (funext fun j => uF_a) (funext fun j => uF_a)) (show (uF S158 231 25 ((S158.1 231 25) - 1)).1 231 33 = S.1 231 33 from (uF_ne (fun h => absurd h.2 (by decide))).trans ((gL158_ 33 rfl).trans ((uF_ne (fun h => absurd h.2 (by decide))).trans ((uF_ne (fun h => absurd h.2 (by decide))).trans ((gu_87 33 rfl).trans ((uF_ne (fun h => absurd h.2 (by decide))).trans ((gu_72 33 rfl).trans ((uF_ne (fun h => absurd h.2 (by decide))).trans ((uF_ne (fun h => absurd h.2 (by decide))).trans (gu_4 33 rfl)))))))))) (show (uF S158 231 25 ((S158.1 231 25) - 1)).1 231 34 = S.1 231 34 from (uF_ne (fun h => absurd h.2 (by decide))).trans ((gL158_ 34 rfl).trans ((uF_ne (fun h => absurd h.2 (by decide))).trans ((uF_ne (fun h => absurd h.2 (by decide))).trans ((gu_87 34 rfl).trans ((uF_ne (fun h => absurd h.2 (by decide))).trans ((gu_72 34 rfl).trans ((uF_ne (fun h => absurd h.2 (by decide))).trans ((uF_ne (fun h => absurd h.2 (by decide))).trans (gu_4 34 rfl)))))))))) (show (uF S158 231 25 ((S158.1 231 25) - 1)).1 231 35 = S.1 231 35 from (uF_ne (fun h => absurd h.2 (by decide))).trans ((gL158_ 35 rfl).trans ((uF_ne (fun h => absurd h.2 (by decide))).trans ((uF_ne (fun h => absurd h.2 (by decide))).trans ((gu_87 35 rfl).trans ((uF_ne (fun h => absurd h.2 (by decide))).trans ((gu_72 35 rfl).trans ((uF_ne (fun h => absurd h.2 (by decide))).trans ((uF_ne (fun h => absurd h.2 (by decide))).trans (gu_4 35 rfl)))))))))) ⟨(show (uF S158 231 25 ((S158.1 231 25) - 1)).1 231 36 = S158.1 231 36 from uF_ne (fun h => absurd h.2 (by decide))), bq2.2, b36.2⟩ ⟨(show (uF S158 231 25 ((S158.1 231 25) - 1)).1 231 42 = S158.1 231 42 from uF_ne (fun h => absurd h.2 (by decide))), b42⟩, (by have e7 := (show (uF S158 231 25 ((S158.1 231 25) - 1)).1 231 24 = S158.1 231 24 from uF_ne (fun h => absurd h.2 (by decide))); omega)⟩)⟩), (fun _ X hX => by obtain ⟨A9, y, y2⟩ := hXA hgz X hX; rw [aRn_z (by omega)] at y2; rw [← y2]; exact (XAr.of (S := S158) (u := (uF S158 231 25 ((S158.1 231 25) - 1))) y (uF_ne (fun h => absurd h.2 (by decide))) (uF_ne (fun h => absurd h.2 (by decide))) (funext fun j => uF_l) (funext fun j => uF_l) (funext fun j => uF_a)))⟩⟩ dX12_tellRow_217
                · refine lv_iload_n hx hb dX12_tellRow_202 rfl (lv_at hl 5 rfl) ?_
                  refine lv_iconst (v := iv (-1)) hx hb dX12_tellRow_203 (by decide) ?_
                  refine r_icmp_eq (tgt := 217) hx hb ⟨(by omega), (by omega)⟩ ⟨(by omega), (by omega)⟩ dX12_tellRow_204 (by decide) (fun c => absurd c (by omega)) (fun _ => ?_)
                  refine lv_aload_n hx hb dX12_tellRow_207 rfl (lv_at hl 8 rfl) ?_
                  refine lv_dup hx hb dX12_tellRow_208 rfl ?_
                  have q_118 : (-2147483648) ≤ S158.1 231 25 ∧ S158.1 231 25 ≤ 2147483647 := hI158.fi 25
                  refine g_X12_358 Cx hW (k := 231) (by decide) rfl (v := S158.1 231 25) rfl dX12_tellRow_209 ?_
                  refine lv_iconst (v := iv 1) hx hb dX12_tellRow_212 (by decide) ?_
                  refine r_isub hx hb dX12_tellRow_213 ?_
                  obtain ⟨z_119, ez_119, hz_119, kz_119⟩ := iv_of (iv ((S158.1 231 25) - 1))
                  rw [ez_119]
                  refine p_X12_358 Cx hW hL (k := 231) (by decide) rfl dX12_tellRow_214 (fun H locs hW hL => ?_)
                  have F_120 : Fr S (uF S158 231 25 z_119) (pl [231, 248, 249, 250, 251, 252, 255, 257, 258]) := hFm158.F rfl
                  have F_121 : Fr ((uF (uF u_87 231 24 ((u_87.1 231 24) + 1)) 231 24 (((u_87.1 231 24) + 1) + 1))) (uF S158 231 25 z_119) (pl [231, 248, 249, 250, 251, 252, 255, 257, 258]) := hL158_.F rfl
                  have g_122 : FF S (uF S158 231 25 z_119) (fl [20, 21, 24, 25, 36, 42, 43]) := FF.F hGm158 rfl
                  have g_123 : FF ((uF (uF u_87 231 24 ((u_87.1 231 24) + 1)) 231 24 (((u_87.1 231 24) + 1) + 1))) (uF S158 231 25 z_119) (fl [20, 21, 24, 25, 36, 42, 43]) := FF.F gL158_ rfl
                  have i_124 : dX G (uF S158 231 25 z_119) := hI158.F (i := 25) (show (-2147483648) ≤ z_119 ∧ z_119 ≤ 2147483647 from ⟨by omega, by omega⟩)
                  have q_125 : (-2147483648) ≤ S158.1 231 20 ∧ S158.1 231 20 ≤ 2147483647 := hI158.fi 20
                  have lk_126 : (uF S158 231 25 z_119).1 231 20 = S158.1 231 20 := uF_ne (fun h => absurd h.2 (by decide))
                  have q_127 : (-2147483648) ≤ S158.1 231 24 ∧ S158.1 231 24 ≤ 2147483647 := hI158.fi 24
                  have lk_128 : (uF S158 231 25 z_119).1 231 24 = S158.1 231 24 := uF_ne (fun h => absurd h.2 (by decide))
                  have q_129 : (-2147483648) ≤ S158.1 231 42 ∧ S158.1 231 42 ≤ 2147483647 := hI158.fi 42
                  have lk_130 : (uF S158 231 25 z_119).1 231 42 = S158.1 231 42 := uF_ne (fun h => absurd h.2 (by decide))
                  have q_131 : (-2147483648) ≤ S158.1 231 36 ∧ S158.1 231 36 ≤ 2147483647 := hI158.fi 36
                  have lk_132 : (uF S158 231 25 z_119).1 231 36 = S158.1 231 36 := uF_ne (fun h => absurd h.2 (by decide))
                  have lk_133 : (uF S158 231 25 z_119).1 231 25 = z_119 := uF_on
                  exact sVret Cx hr hlk hW hL ⟨i_124, F_120, g_122, ⟨(rb2 ⟨(fun x => by rw [show (uF S158 231 25 z_119).2.2.1 255 x = S158.2.2.1 255 x from uF_l]; exact hB x), (fun _ => by rw [hED, hNO hgz]; rfl), (fun h => absurd h (by have e9 := (show (uF S158 231 25 z_119).1 231 20 = S158.1 231 20 from uF_ne (fun h => absurd h.2 (by decide))); omega))⟩), (fun h => absurd h (by have e9 := (show (uF S158 231 25 z_119).1 231 20 = S158.1 231 20 from uF_ne (fun h => absurd h.2 (by decide))); omega))⟩⟩ dX12_tellRow_217
              · refine lv_aload_n hx hb dX12_tellRow_165 rfl (lv_at hl 8 rfl) ?_
                have q_134 : (-2147483648) ≤ S158.1 231 20 ∧ S158.1 231 20 ≤ 2147483647 := hI158.fi 20
                refine g_X12_270 Cx hW (k := 231) (by decide) rfl (v := S158.1 231 20) rfl dX12_tellRow_166 ?_
                refine r_if_ne (tgt := 202) hx hb ⟨(by omega), (by omega)⟩ dX12_tellRow_169 (by decide) (fun c_135 => ?_) (fun c_135 => ?_)
                · have hgz : ¬ S158.1 231 20 = 0 := (by omega)
                  refine lv_iload_n hx hb dX12_tellRow_202 rfl (lv_at hl 5 rfl) ?_
                  refine lv_iconst (v := iv (-1)) hx hb dX12_tellRow_203 (by decide) ?_
                  refine r_icmp_eq (tgt := 217) hx hb ⟨(by omega), (by omega)⟩ ⟨(by omega), (by omega)⟩ dX12_tellRow_204 (by decide) (fun c => absurd c (by omega)) (fun _ => ?_)
                  refine lv_aload_n hx hb dX12_tellRow_207 rfl (lv_at hl 8 rfl) ?_
                  refine lv_dup hx hb dX12_tellRow_208 rfl ?_
                  have q_136 : (-2147483648) ≤ S158.1 231 25 ∧ S158.1 231 25 ≤ 2147483647 := hI158.fi 25
                  refine g_X12_358 Cx hW (k := 231) (by decide) rfl (v := S158.1 231 25) rfl dX12_tellRow_209 ?_
                  refine lv_iconst (v := iv 1) hx hb dX12_tellRow_212 (by decide) ?_
                  refine r_isub hx hb dX12_tellRow_213 ?_
                  obtain ⟨z_137, ez_137, hz_137, kz_137⟩ := iv_of (iv ((S158.1 231 25) - 1))
                  rw [ez_137]
                  refine p_X12_358 Cx hW hL (k := 231) (by decide) rfl dX12_tellRow_214 (fun H locs hW hL => ?_)
                  have F_138 : Fr S (uF S158 231 25 z_137) (pl [231, 248, 249, 250, 251, 252, 255, 257, 258]) := hFm158.F rfl
                  have F_139 : Fr ((uF (uF u_87 231 24 ((u_87.1 231 24) + 1)) 231 24 (((u_87.1 231 24) + 1) + 1))) (uF S158 231 25 z_137) (pl [231, 248, 249, 250, 251, 252, 255, 257, 258]) := hL158_.F rfl
                  have g_140 : FF S (uF S158 231 25 z_137) (fl [20, 21, 24, 25, 36, 42, 43]) := FF.F hGm158 rfl
                  have g_141 : FF ((uF (uF u_87 231 24 ((u_87.1 231 24) + 1)) 231 24 (((u_87.1 231 24) + 1) + 1))) (uF S158 231 25 z_137) (fl [20, 21, 24, 25, 36, 42, 43]) := FF.F gL158_ rfl
                  have i_142 : dX G (uF S158 231 25 z_137) := hI158.F (i := 25) (show (-2147483648) ≤ z_137 ∧ z_137 ≤ 2147483647 from ⟨by omega, by omega⟩)
                  have lk_143 : (uF S158 231 25 z_137).1 231 20 = S158.1 231 20 := uF_ne (fun h => absurd h.2 (by decide))
                  have q_144 : (-2147483648) ≤ S158.1 231 24 ∧ S158.1 231 24 ≤ 2147483647 := hI158.fi 24
                  have lk_145 : (uF S158 231 25 z_137).1 231 24 = S158.1 231 24 := uF_ne (fun h => absurd h.2 (by decide))
                  have q_146 : (-2147483648) ≤ S158.1 231 42 ∧ S158.1 231 42 ≤ 2147483647 := hI158.fi 42
                  have lk_147 : (uF S158 231 25 z_137).1 231 42 = S158.1 231 42 := uF_ne (fun h => absurd h.2 (by decide))
                  have q_148 : (-2147483648) ≤ S158.1 231 36 ∧ S158.1 231 36 ≤ 2147483647 := hI158.fi 36
                  have lk_149 : (uF S158 231 25 z_137).1 231 36 = S158.1 231 36 := uF_ne (fun h => absurd h.2 (by decide))
                  have lk_150 : (uF S158 231 25 z_137).1 231 25 = z_137 := uF_on
                  exact sVret Cx hr hlk hW hL ⟨i_142, F_138, g_140, ⟨(rb2 ⟨(fun x => by rw [show (uF S158 231 25 z_137).2.2.1 255 x = S158.2.2.1 255 x from uF_l]; exact hB x), (fun _ => by rw [hED, hNO hgz]; rfl), (fun h => absurd h (by have e9 := (show (uF S158 231 25 z_137).1 231 20 = S158.1 231 20 from uF_ne (fun h => absurd h.2 (by decide))); omega))⟩), (fun h => absurd h (by have e9 := (show (uF S158 231 25 z_137).1 231 20 = S158.1 231 20 from uF_ne (fun h => absurd h.2 (by decide))); omega))⟩⟩ dX12_tellRow_217
                · obtain ⟨w0, eQ, nV, b36, b42, bq⟩ := hOK (by omega)
                  have hk96 : M.1.1 + 1 + 1 = S158.1 231 25 := nV.1.1
                  refine lv_iload_n hx hb dX12_tellRow_172 rfl (lv_at hl 5 rfl) ?_
                  refine lv_iconst (v := iv (-1)) hx hb dX12_tellRow_173 (by decide) ?_
                  refine r_icmp_eq (tgt := 185) hx hb ⟨(by omega), (by omega)⟩ ⟨(by omega), (by omega)⟩ dX12_tellRow_174 (by decide) (fun c => absurd c (by omega)) (fun _ => ?_)
                  refine lv_aload_n hx hb dX12_tellRow_177 rfl (lv_at hl 8 rfl) ?_
                  refine g_X12_71 Cx hW (k := 231) (by decide) rfl (v := .ref (G.2.2.1 + 252)) (rd_30 hI158) dX12_tellRow_178 ?_
                  refine lv_iload_n hx hb dX12_tellRow_181 rfl (lv_at hl 5 rfl) ?_
                  refine lv_iload hx hb dX12_tellRow_182 (lv_at hl 0 rfl) ?_
                  refine rIast Cx hW hL (k := 252) (by decide) rfl (by decide) (by omega) (by omega) dX12_tellRow_184 (fun H locs hW hL => ?_)
                  have F_151 : Fr S (uA S158 252 r_74 va) (pl [231, 248, 249, 250, 251, 252, 255, 257, 258]) := hFm158.A rfl
                  have F_152 : Fr ((uF (uF u_87 231 24 ((u_87.1 231 24) + 1)) 231 24 (((u_87.1 231 24) + 1) + 1))) (uA S158 252 r_74 va) (pl [231, 248, 249, 250, 251, 252, 255, 257, 258]) := hL158_.A rfl
                  have i_153 : dX G (uA S158 252 r_74 va) := hI158.A (k := 252) (show (-2147483648) ≤ va ∧ va ≤ 2147483647 from ⟨by omega, by omega⟩)
                  have hnv : NRr (push (rN M (v (pz + 1))) (v (pz + 3)) va) k v (uA S158 252 r_74 va) := nV.low hK4 (show 0 ≤ M.1.1 + 1 by omega) rfl rfl rfl rfl rfl rfl (fun s => by rw [uA_get]; by_cases z : s = M.1.1 + 1; (rw [if_pos ⟨rfl, (by omega)⟩]; exact (if_pos z).symm); (rw [if_neg (fun h => z (by have h2 := h.2; omega))]; exact (if_neg z).symm))
                  have hKv : NK (push (rN M (v (pz + 1))) (v (pz + 3)) va) := NK.pushed hK4 (show 0 ≤ M.1.1 + 1 by omega) hfi (by omega)
                  refine lv_aload_n hx hb dX12_tellRow_185 rfl (lv_at hl 8 rfl) ?_
                  refine lv_iload hx hb dX12_tellRow_186 (lv_at hl 3 rfl) ?_
                  refine p_X12_315 Cx hW hL (k := 231) (by decide) rfl dX12_tellRow_188 (fun H locs hW hL => ?_)
                  have F_154 : Fr S (uF (uA S158 252 r_74 va) 231 24 (((u_87.1 231 24) + 1) + 1)) (pl [231, 248, 249, 250, 251, 252, 255, 257, 258]) := F_151.F rfl
                  have F_155 : Fr ((uF (uF u_87 231 24 ((u_87.1 231 24) + 1)) 231 24 (((u_87.1 231 24) + 1) + 1))) (uF (uA S158 252 r_74 va) 231 24 (((u_87.1 231 24) + 1) + 1)) (pl [231, 248, 249, 250, 251, 252, 255, 257, 258]) := F_152.F rfl
                  have g_156 : FF S (uF (uA S158 252 r_74 va) 231 24 (((u_87.1 231 24) + 1) + 1)) (fl [20, 21, 24, 25, 36, 42, 43]) := FF.F hGm158 rfl
                  have g_157 : FF ((uF (uF u_87 231 24 ((u_87.1 231 24) + 1)) 231 24 (((u_87.1 231 24) + 1) + 1))) (uF (uA S158 252 r_74 va) 231 24 (((u_87.1 231 24) + 1) + 1)) (fl [20, 21, 24, 25, 36, 42, 43]) := FF.F gL158_ rfl
                  have i_158 : dX G (uF (uA S158 252 r_74 va) 231 24 (((u_87.1 231 24) + 1) + 1)) := i_153.F (i := 24) (show (-2147483648) ≤ ((u_87.1 231 24) + 1) + 1 ∧ ((u_87.1 231 24) + 1) + 1 ≤ 2147483647 from ⟨by omega, by omega⟩)
                  refine lv_aload_n hx hb dX12_tellRow_191 rfl (lv_at hl 8 rfl) ?_
                  refine lv_iload_n hx hb dX12_tellRow_192 rfl (lv_at hl 7 rfl) ?_
                  have lk_159 : (uF (uA S158 252 r_74 va) 231 24 (((u_87.1 231 24) + 1) + 1)).1 231 20 = S158.1 231 20 := (uF_ne (fun h => absurd h.2 (by decide))).trans (uA_f)
                  have lk_160 : (uF (uA S158 252 r_74 va) 231 24 (((u_87.1 231 24) + 1) + 1)).1 231 24 = ((u_87.1 231 24) + 1) + 1 := uF_on
                  have q_161 : (-2147483648) ≤ S158.1 231 42 ∧ S158.1 231 42 ≤ 2147483647 := hI158.fi 42
                  have lk_162 : (uF (uA S158 252 r_74 va) 231 24 (((u_87.1 231 24) + 1) + 1)).1 231 42 = S158.1 231 42 := (uF_ne (fun h => absurd h.2 (by decide))).trans (uA_f)
                  have q_163 : (-2147483648) ≤ S158.1 231 36 ∧ S158.1 231 36 ≤ 2147483647 := hI158.fi 36
                  have lk_164 : (uF (uA S158 252 r_74 va) 231 24 (((u_87.1 231 24) + 1) + 1)).1 231 36 = S158.1 231 36 := (uF_ne (fun h => absurd h.2 (by decide))).trans (uA_f)
                  have y36 := (show (uF (uA S158 252 r_74 va) 231 24 (((u_87.1 231 24) + 1) + 1)).1 231 36 = S158.1 231 36 from (uF_ne (fun h => absurd h.2 (by decide))).trans (uA_f))
                  have kr_165 : KRr (uF (uA S158 252 r_74 va) 231 24 (((u_87.1 231 24) + 1) + 1)) k v T := hkr.of (funext fun j => (uF_a).trans ((uA_ne (fun h => absurd h.1 (by decide))).trans (((hL158_ 243 rfl).2.1 j).trans ((uF_a).trans ((uF_a).trans (((fu_87 243 rfl).2.1 j).trans ((uF_a).trans (((fu_72 243 rfl).2.1 j).trans ((uF_a).trans ((uF_a).trans ((fu_4 243 rfl).2.1 j))))))))))) (funext fun j => (uF_a).trans ((uA_ne (fun h => absurd h.1 (by decide))).trans (((hL158_ 244 rfl).2.1 j).trans ((uF_a).trans ((uF_a).trans (((fu_87 244 rfl).2.1 j).trans ((uF_a).trans (((fu_72 244 rfl).2.1 j).trans ((uF_a).trans ((uF_a).trans ((fu_4 244 rfl).2.1 j))))))))))) (funext fun j => (uF_a).trans ((uA_ne (fun h => absurd h.1 (by decide))).trans (((hL158_ 245 rfl).2.1 j).trans ((uF_a).trans ((uF_a).trans (((fu_87 245 rfl).2.1 j).trans ((uF_a).trans (((fu_72 245 rfl).2.1 j).trans ((uF_a).trans ((uF_a).trans ((fu_4 245 rfl).2.1 j))))))))))) (funext fun j => (uF_a).trans ((uA_ne (fun h => absurd h.1 (by decide))).trans (((hL158_ 246 rfl).2.1 j).trans ((uF_a).trans ((uF_a).trans (((fu_87 246 rfl).2.1 j).trans ((uF_a).trans (((fu_72 246 rfl).2.1 j).trans ((uF_a).trans ((uF_a).trans ((fu_4 246 rfl).2.1 j))))))))))) (funext fun j => (uF_a).trans ((uA_ne (fun h => absurd h.1 (by decide))).trans (((hL158_ 247 rfl).2.1 j).trans ((uF_a).trans ((uF_a).trans (((fu_87 247 rfl).2.1 j).trans ((uF_a).trans (((fu_72 247 rfl).2.1 j).trans ((uF_a).trans ((uF_a).trans ((fu_4 247 rfl).2.1 j)))))))))))
                  have nr_166 : NRr (push (rN M (v (pz + 1))) (v (pz + 3)) va) k v (uF (uA S158 252 r_74 va) 231 24 (((u_87.1 231 24) + 1) + 1)) := hnv.of (uF_ne (fun h => absurd h.2 (by decide))) (funext fun j => uF_a) (funext fun j => uF_a) (funext fun j => uF_a) (funext fun j => uF_a) (funext fun j => uF_a) (funext fun j => uF_a)
                  refine sBv (sV (As := [.int (iv ((S.1 231 24) + 1))]) (rest := []) (k := 231) Cx (f_X12_oneRow l G (uF (uA S158 252 r_74 va) 231 24 (((u_87.1 231 24) + 1) + 1)) (tk := (S.1 231 24) + 1) (pz := pz + 8) (q := q) (N := push (rN M (v (pz + 1))) (v (pz + 3)) va) i_158 kr_165 nr_166 hKv hTV (by omega) (by omega) (by omega) (by omega) (show M.1.1 + 1 + 1 + 30 ≤ 128 by omega) hgo (by omega) (by omega) (fun x => by rw [show (uF (uA S158 252 r_74 va) 231 24 (((u_87.1 231 24) + 1) + 1)).2.2.1 255 x = S158.2.2.1 255 x from (uF_l).trans (uA_l)]; exact hB x)) (c_X12_413 Cx rfl rfl (rmk_ok (by omega) (by decide))) hW (by decide) rfl rfl rfl hl.1 rfl (Nat.le_of_ble_eq_true rfl) dX12_tellRow_193 ⟨Nat.le_of_ble_eq_true rfl, Nat.le_of_ble_eq_true rfl⟩) hL (fun u_167 H locs k_168 hW hL => ?_)
                  obtain ⟨iu_167, fu_167, gu_167, xu_167⟩ := k_168
                  have F_169 := F_154.trans fu_167
                  have F_170 := F_155.trans fu_167
                  have g_171 : FF S u_167 (fl [20, 21, 24, 25, 36, 42, 43]) := FF.trans g_156 (FF.to gu_167 (fl_sub (by decide)))
                  have g_172 : FF ((uF (uF u_87 231 24 ((u_87.1 231 24) + 1)) 231 24 (((u_87.1 231 24) + 1) + 1))) u_167 (fl [20, 21, 24, 25, 36, 42, 43]) := FF.trans g_157 (FF.to gu_167 (fl_sub (by decide)))
                  obtain ⟨xu_167, au_167⟩ := xu_167
                  refine lv_iinc (v := iv (va + 1)) (lv' := [(8, .int (iv (va + 1))), (7, .int (iv (u_72.2.1 251 s4))), (6, .int (iv (u_72.2.1 250 s4))), (5, .int (iv (((u_87.1 231 24) + 1) + 1))), (4, .int (iv s4)), (3, .int (iv r_74)), (2, .int (iv r_6)), (1, .int (iv ((S.1 231 24) + 1))), (0, .ref (G.2.2.1 + 231))]) hx hb dX12_tellRow_196 hl (k := 0) rfl ((Int32.ofInt_add _ _).symm) (by decide) rfl (fun ls hl => ?_)
                  refine lv_goto (tgt := 158) hx hb dX12_tellRow_199 (by decide) ?_
                  have q_173 : (-2147483648) ≤ u_167.1 231 20 ∧ u_167.1 231 20 ≤ 2147483647 := iu_167.fi 20
                  have q_174 : (-2147483648) ≤ u_167.1 231 36 ∧ u_167.1 231 36 ≤ 2147483647 := iu_167.fi 36
                  have q_175 : (-2147483648) ≤ u_167.1 231 42 ∧ u_167.1 231 42 ≤ 2147483647 := iu_167.fi 42
                  have q_176 : (-2147483648) ≤ u_167.1 231 24 ∧ u_167.1 231 24 ≤ 2147483647 := iu_167.fi 24
                  exact ih_158 u_167 (va + 1) _ _ _ (by omega) iu_167 F_169 F_170 g_171 g_172 (by omega) xu_167.1 (fun h => by obtain ⟨z1, z2, z3, z4, z5⟩ := xu_167.2.2 h; rw [show (uF (uA S158 252 r_74 va) 231 24 (((u_87.1 231 24) + 1) + 1)).1 231 36 = S158.1 231 36 from (show (uF (uA S158 252 r_74 va) 231 24 (((u_87.1 231 24) + 1) + 1)).1 231 36 = S158.1 231 36 from (uF_ne (fun h => absurd h.2 (by decide))).trans (uA_f)), show (uF (uA S158 252 r_74 va) 231 24 (((u_87.1 231 24) + 1) + 1)).1 231 42 = S158.1 231 42 from (show (uF (uA S158 252 r_74 va) 231 24 (((u_87.1 231 24) + 1) + 1)).1 231 42 = S158.1 231 42 from (uF_ne (fun h => absurd h.2 (by decide))).trans (uA_f))] at z1; exact ⟨va, (by rw [eQ, eRn_s (by omega) z1]), z2, (by omega), z5, (fun _ => ⟨z3, (by omega)⟩)⟩) (fun h => by have z := xu_167.2.1 h; rw [show (uF (uA S158 252 r_74 va) 231 24 (((u_87.1 231 24) + 1) + 1)).1 231 36 = S158.1 231 36 from (show (uF (uA S158 252 r_74 va) 231 24 (((u_87.1 231 24) + 1) + 1)).1 231 36 = S158.1 231 36 from (uF_ne (fun h => absurd h.2 (by decide))).trans (uA_f)), show (uF (uA S158 252 r_74 va) 231 24 (((u_87.1 231 24) + 1) + 1)).1 231 42 = S158.1 231 42 from (show (uF (uA S158 252 r_74 va) 231 24 (((u_87.1 231 24) + 1) + 1)).1 231 42 = S158.1 231 42 from (uF_ne (fun h => absurd h.2 (by decide))).trans (uA_f))] at z; rw [eQ]; exact eRn_n (by omega) z) (fun h X hX => by obtain ⟨A9, y, y2⟩ := hXA (by omega) X hX; obtain ⟨z1, z2, z3, z4, z5⟩ := xu_167.2.2 h; rw [show (uF (uA S158 252 r_74 va) 231 24 (((u_87.1 231 24) + 1) + 1)).1 231 36 = S158.1 231 36 from (show (uF (uA S158 252 r_74 va) 231 24 (((u_87.1 231 24) + 1) + 1)).1 231 36 = S158.1 231 36 from (uF_ne (fun h => absurd h.2 (by decide))).trans (uA_f)), show (uF (uA S158 252 r_74 va) 231 24 (((u_87.1 231 24) + 1) + 1)).1 231 42 = S158.1 231 42 from (show (uF (uA S158 252 r_74 va) 231 24 (((u_87.1 231 24) + 1) + 1)).1 231 42 = S158.1 231 42 from (uF_ne (fun h => absurd h.2 (by decide))).trans (uA_f))] at z1; have y3 := au_167 h (A9, X.2) (XAr.of (S := S158) (u := (uF (uA S158 252 r_74 va) 231 24 (((u_87.1 231 24) + 1) + 1))) y ((uF_ne (fun h => absurd h.2 (by decide))).trans (uA_f)) ((uF_ne (fun h => absurd h.2 (by decide))).trans (uA_f)) (funext fun j => (uF_l).trans (uA_l)) (funext fun j => (uF_l).trans (uA_l)) (funext fun j => (uF_a).trans (uA_ne (fun h => absurd h.1 (by decide))))); rw [show (uF (uA S158 252 r_74 va) 231 24 (((u_87.1 231 24) + 1) + 1)).1 231 36 = S158.1 231 36 from (show (uF (uA S158 252 r_74 va) 231 24 (((u_87.1 231 24) + 1) + 1)).1 231 36 = S158.1 231 36 from (uF_ne (fun h => absurd h.2 (by decide))).trans (uA_f)), show (uF (uA S158 252 r_74 va) 231 24 (((u_87.1 231 24) + 1) + 1)).1 231 42 = S158.1 231 42 from (show (uF (uA S158 252 r_74 va) 231 24 (((u_87.1 231 24) + 1) + 1)).1 231 42 = S158.1 231 42 from (uF_ne (fun h => absurd h.2 (by decide))).trans (uA_f))] at y3; exact ⟨_, y3, (by rw [← y2, aRn_s (by omega) z1])⟩) hW hL (lv_sub hl [0, 1, 2, 3, 4, 5, 6, 7, 8] rfl)
          have lk_177 : (uF (uF u_87 231 24 ((u_87.1 231 24) + 1)) 231 24 (((u_87.1 231 24) + 1) + 1)).1 231 20 = u_87.1 231 20 := (uF_ne (fun h => absurd h.2 (by decide))).trans (uF_ne (fun h => absurd h.2 (by decide)))
          have q_178 : (-2147483648) ≤ S.1 231 36 ∧ S.1 231 36 ≤ 2147483647 := hI.fi 36
          have lk_179 : (uF (uF u_87 231 24 ((u_87.1 231 24) + 1)) 231 24 (((u_87.1 231 24) + 1) + 1)).1 231 36 = S.1 231 36 := (uF_ne (fun h => absurd h.2 (by decide))).trans ((uF_ne (fun h => absurd h.2 (by decide))).trans ((gu_87 36 rfl).trans ((uF_ne (fun h => absurd h.2 (by decide))).trans ((gu_72 36 rfl).trans ((uF_ne (fun h => absurd h.2 (by decide))).trans ((uF_ne (fun h => absurd h.2 (by decide))).trans (gu_4 36 rfl)))))))
          have lk_180 : (uF (uF u_87 231 24 ((u_87.1 231 24) + 1)) 231 24 (((u_87.1 231 24) + 1) + 1)).1 231 42 = S.1 231 42 := (uF_ne (fun h => absurd h.2 (by decide))).trans ((uF_ne (fun h => absurd h.2 (by decide))).trans ((gu_87 42 rfl).trans ((uF_ne (fun h => absurd h.2 (by decide))).trans ((gu_72 42 rfl).trans ((uF_ne (fun h => absurd h.2 (by decide))).trans ((uF_ne (fun h => absurd h.2 (by decide))).trans (gu_4 42 rfl)))))))
          have lk_181 : (uF (uF u_87 231 24 ((u_87.1 231 24) + 1)) 231 24 (((u_87.1 231 24) + 1) + 1)).1 231 24 = ((u_87.1 231 24) + 1) + 1 := uF_on
          have nr_182 : NRr (push (rN M (v (pz + 1))) (v (pz + 3)) 0) k v (uF (uF u_87 231 24 ((u_87.1 231 24) + 1)) 231 24 (((u_87.1 231 24) + 1) + 1)) := hp0.of ((uF_ne (fun h => absurd h.2 (by decide))).trans ((uF_ne (fun h => absurd h.2 (by decide))).trans ((gu_87 25 rfl).trans (uF_ne (fun h => absurd h.2 (by decide)))))) (funext fun j => (uF_a).trans ((uF_a).trans (((fu_87 248 rfl).2.1 j).trans (uF_a)))) (funext fun j => (uF_a).trans ((uF_a).trans (((fu_87 249 rfl).2.1 j).trans (uF_a)))) (funext fun j => (uF_a).trans ((uF_a).trans (((fu_87 250 rfl).2.1 j).trans (uF_a)))) (funext fun j => (uF_a).trans ((uF_a).trans (((fu_87 251 rfl).2.1 j).trans (uF_a)))) (funext fun j => (uF_a).trans ((uF_a).trans (((fu_87 252 rfl).2.1 j).trans (uF_a)))) (funext fun j => (uF_a).trans ((uF_a).trans (((fu_87 253 rfl).2.1 j).trans (uF_a))))
          exact loop_158 (_ + 1) (uF (uF u_87 231 24 ((u_87.1 231 24) + 1)) 231 24 (((u_87.1 231 24) + 1) + 1)) (u_72.2.1 250 s4) _ _ _ (Nat.lt_succ_self _) i_99 F_97 Fr.rf g_98 FF.rf (by omega) (fun x => by rw [show (uF (uF u_87 231 24 ((u_87.1 231 24) + 1)) 231 24 (((u_87.1 231 24) + 1) + 1)).2.2.1 255 x = S.2.2.1 255 x from (uF_l).trans ((uF_l).trans (((fu_87 255 rfl).2.2.1 x).trans ((uF_l).trans (((fu_72 255 rfl).2.2.1 x).trans ((uF_l).trans ((uF_l).trans ((fu_4 255 rfl).2.2.1 x)))))))]; exact hRB x) (fun _ => ⟨0, (by rw [e250, (show (uF (uF u_87 231 24 ((u_87.1 231 24) + 1)) 231 24 (((u_87.1 231 24) + 1) + 1)).1 231 36 = S.1 231 36 from (uF_ne (fun h => absurd h.2 (by decide))).trans ((uF_ne (fun h => absurd h.2 (by decide))).trans ((gu_87 36 rfl).trans ((uF_ne (fun h => absurd h.2 (by decide))).trans ((gu_72 36 rfl).trans ((uF_ne (fun h => absurd h.2 (by decide))).trans ((uF_ne (fun h => absurd h.2 (by decide))).trans (gu_4 36 rfl)))))))), (show (uF (uF u_87 231 24 ((u_87.1 231 24) + 1)) 231 24 (((u_87.1 231 24) + 1) + 1)).1 231 42 = S.1 231 42 from (uF_ne (fun h => absurd h.2 (by decide))).trans ((uF_ne (fun h => absurd h.2 (by decide))).trans ((gu_87 42 rfl).trans ((uF_ne (fun h => absurd h.2 (by decide))).trans ((gu_72 42 rfl).trans ((uF_ne (fun h => absurd h.2 (by decide))).trans ((uF_ne (fun h => absurd h.2 (by decide))).trans (gu_4 42 rfl)))))))), m36.1, m42.1]; exact eRn_p (by omega)), nr_182, (by have y36 := (show (uF (uF u_87 231 24 ((u_87.1 231 24) + 1)) 231 24 (((u_87.1 231 24) + 1) + 1)).1 231 36 = S.1 231 36 from (uF_ne (fun h => absurd h.2 (by decide))).trans ((uF_ne (fun h => absurd h.2 (by decide))).trans ((gu_87 36 rfl).trans ((uF_ne (fun h => absurd h.2 (by decide))).trans ((gu_72 36 rfl).trans ((uF_ne (fun h => absurd h.2 (by decide))).trans ((uF_ne (fun h => absurd h.2 (by decide))).trans (gu_4 36 rfl)))))))); omega), (by have y42 := (show (uF (uF u_87 231 24 ((u_87.1 231 24) + 1)) 231 24 (((u_87.1 231 24) + 1) + 1)).1 231 42 = S.1 231 42 from (uF_ne (fun h => absurd h.2 (by decide))).trans ((uF_ne (fun h => absurd h.2 (by decide))).trans ((gu_87 42 rfl).trans ((uF_ne (fun h => absurd h.2 (by decide))).trans ((gu_72 42 rfl).trans ((uF_ne (fun h => absurd h.2 (by decide))).trans ((uF_ne (fun h => absurd h.2 (by decide))).trans (gu_4 42 rfl)))))))); omega), (fun z => absurd z (by omega))⟩) (fun h => absurd (show (uF (uF u_87 231 24 ((u_87.1 231 24) + 1)) 231 24 (((u_87.1 231 24) + 1) + 1)).1 231 20 = 0 by have e9 := (show (uF (uF u_87 231 24 ((u_87.1 231 24) + 1)) 231 24 (((u_87.1 231 24) + 1) + 1)).1 231 20 = u_87.1 231 20 from (uF_ne (fun h => absurd h.2 (by decide))).trans (uF_ne (fun h => absurd h.2 (by decide)))); omega) h) (fun _ X hX => ⟨X.1, (XAr.of (S := S) (u := (uF (uF u_87 231 24 ((u_87.1 231 24) + 1)) 231 24 (((u_87.1 231 24) + 1) + 1))) hX ((uF_ne (fun h => absurd h.2 (by decide))).trans ((uF_ne (fun h => absurd h.2 (by decide))).trans ((gu_87 35 rfl).trans ((uF_ne (fun h => absurd h.2 (by decide))).trans ((gu_72 35 rfl).trans ((uF_ne (fun h => absurd h.2 (by decide))).trans ((uF_ne (fun h => absurd h.2 (by decide))).trans (gu_4 35 rfl)))))))) ((uF_ne (fun h => absurd h.2 (by decide))).trans ((uF_ne (fun h => absurd h.2 (by decide))).trans ((gu_87 36 rfl).trans ((uF_ne (fun h => absurd h.2 (by decide))).trans ((gu_72 36 rfl).trans ((uF_ne (fun h => absurd h.2 (by decide))).trans ((uF_ne (fun h => absurd h.2 (by decide))).trans (gu_4 36 rfl)))))))) (funext fun j => (uF_l).trans ((uF_l).trans (((fu_87 255 rfl).2.2.1 j).trans ((uF_l).trans (((fu_72 255 rfl).2.2.1 j).trans ((uF_l).trans ((uF_l).trans ((fu_4 255 rfl).2.2.1 j)))))))) (funext fun j => (uF_l).trans ((uF_l).trans (((fu_87 256 rfl).2.2.1 j).trans ((uF_l).trans (((fu_72 256 rfl).2.2.1 j).trans ((uF_l).trans ((uF_l).trans ((fu_4 256 rfl).2.2.1 j)))))))) (funext fun j => (uF_a).trans ((uF_a).trans (((fu_87 254 rfl).2.1 j).trans ((uF_a).trans (((fu_72 254 rfl).2.1 j).trans ((uF_a).trans ((uF_a).trans ((fu_4 254 rfl).2.1 j))))))))), (by rw [e250, (show (uF (uF u_87 231 24 ((u_87.1 231 24) + 1)) 231 24 (((u_87.1 231 24) + 1) + 1)).1 231 36 = S.1 231 36 from (uF_ne (fun h => absurd h.2 (by decide))).trans ((uF_ne (fun h => absurd h.2 (by decide))).trans ((gu_87 36 rfl).trans ((uF_ne (fun h => absurd h.2 (by decide))).trans ((gu_72 36 rfl).trans ((uF_ne (fun h => absurd h.2 (by decide))).trans ((uF_ne (fun h => absurd h.2 (by decide))).trans (gu_4 36 rfl)))))))), (show (uF (uF u_87 231 24 ((u_87.1 231 24) + 1)) 231 24 (((u_87.1 231 24) + 1) + 1)).1 231 42 = S.1 231 42 from (uF_ne (fun h => absurd h.2 (by decide))).trans ((uF_ne (fun h => absurd h.2 (by decide))).trans ((gu_87 42 rfl).trans ((uF_ne (fun h => absurd h.2 (by decide))).trans ((gu_72 42 rfl).trans ((uF_ne (fun h => absurd h.2 (by decide))).trans ((uF_ne (fun h => absurd h.2 (by decide))).trans (gu_4 42 rfl)))))))), m36.1, m42.1]; exact (aDr_3 (by omega) k17 hs6 hsE rfl rfl).symm)⟩) hW hL (lv_sub hl [0, 1, 2, 3, 4, 5, 6, 7, 8] rfl)
        · have lk_183 : (uF u_87 231 24 ((u_87.1 231 24) + 1)).1 231 20 = u_87.1 231 20 := uF_ne (fun h => absurd h.2 (by decide))
          have lk_184 : (uF u_87 231 24 ((u_87.1 231 24) + 1)).1 231 24 = (u_87.1 231 24) + 1 := uF_on
          have lk_185 : (uF u_87 231 24 ((u_87.1 231 24) + 1)).1 231 42 = S.1 231 42 := (uF_ne (fun h => absurd h.2 (by decide))).trans ((gu_87 42 rfl).trans ((uF_ne (fun h => absurd h.2 (by decide))).trans ((gu_72 42 rfl).trans ((uF_ne (fun h => absurd h.2 (by decide))).trans ((uF_ne (fun h => absurd h.2 (by decide))).trans (gu_4 42 rfl))))))
          have q_186 : (-2147483648) ≤ S.1 231 36 ∧ S.1 231 36 ≤ 2147483647 := hI.fi 36
          have lk_187 : (uF u_87 231 24 ((u_87.1 231 24) + 1)).1 231 36 = S.1 231 36 := (uF_ne (fun h => absurd h.2 (by decide))).trans ((gu_87 36 rfl).trans ((uF_ne (fun h => absurd h.2 (by decide))).trans ((gu_72 36 rfl).trans ((uF_ne (fun h => absurd h.2 (by decide))).trans ((uF_ne (fun h => absurd h.2 (by decide))).trans (gu_4 36 rfl))))))
          have q_188 : (-2147483648) ≤ u_72.1 231 25 ∧ u_72.1 231 25 ≤ 2147483647 := iu_72.fi 25
          have lk_189 : (uF u_87 231 24 ((u_87.1 231 24) + 1)).1 231 25 = u_72.1 231 25 := (uF_ne (fun h => absurd h.2 (by decide))).trans ((gu_87 25 rfl).trans (uF_ne (fun h => absurd h.2 (by decide))))
          exact sVret Cx hr hlk hW hL ⟨i_94, F_92, g_93, ⟨(rb2 ⟨(fun x => by rw [show (uF u_87 231 24 ((u_87.1 231 24) + 1)).2.2.1 255 x = S.2.2.1 255 x from (uF_l).trans (((fu_87 255 rfl).2.2.1 x).trans ((uF_l).trans (((fu_72 255 rfl).2.2.1 x).trans ((uF_l).trans ((uF_l).trans ((fu_4 255 rfl).2.2.1 x))))))]; exact hRB x), (fun _ => eDr_2 hfn k17 (fun z => by have z2 := xu_87.2.2.1 (by omega); rw [show (((pz) + 2) + 1) + 2 = pz + 5 by omega] at z2; exact z2 ((isS_push (show 0 ≤ M.1.1 + 1 by omega)).mpr z.2))), (fun h => absurd h (by have e9 := (show (uF u_87 231 24 ((u_87.1 231 24) + 1)).1 231 20 = u_87.1 231 20 from uF_ne (fun h => absurd h.2 (by decide))); omega))⟩), (fun h => absurd h (by have e9 := (show (uF u_87 231 24 ((u_87.1 231 24) + 1)).1 231 20 = u_87.1 231 20 from uF_ne (fun h => absurd h.2 (by decide))); omega))⟩⟩ dX12_tellRow_99
      · have q_190 : (-2147483648) ≤ u_72.1 231 20 ∧ u_72.1 231 20 ≤ 2147483647 := iu_72.fi 20
        have lk_191 : (uF u_72 231 24 ((((S.1 231 24) + 2) + 1) + 2)).1 231 20 = u_72.1 231 20 := uF_ne (fun h => absurd h.2 (by decide))
        have lk_192 : (uF u_72 231 24 ((((S.1 231 24) + 2) + 1) + 2)).1 231 24 = (((S.1 231 24) + 2) + 1) + 2 := uF_on
        have q_193 : (-2147483648) ≤ S.1 231 42 ∧ S.1 231 42 ≤ 2147483647 := hI.fi 42
        have lk_194 : (uF u_72 231 24 ((((S.1 231 24) + 2) + 1) + 2)).1 231 42 = S.1 231 42 := (uF_ne (fun h => absurd h.2 (by decide))).trans ((gu_72 42 rfl).trans ((uF_ne (fun h => absurd h.2 (by decide))).trans ((uF_ne (fun h => absurd h.2 (by decide))).trans (gu_4 42 rfl))))
        refine sBi (sV (As := []) (rest := []) (k := 231) Cx (n_X12_setHere l G (uF u_72 231 24 ((((S.1 231 24) + 2) + 1) + 2))  i_79 (by omega)) (c_X12_364 Cx rfl rfl (rmk_ok (by omega) (by decide))) hW (by decide) rfl rfl rfl hl.1 rfl (Nat.le_of_ble_eq_true rfl) dX12_tellRow_77 ⟨Nat.le_of_ble_eq_true rfl, Nat.le_of_ble_eq_true rfl⟩) hL (fun s4 u_195 H locs k_196 hW hL => ?_)
        obtain ⟨eu_195, xu_195⟩ := k_196
        rw [eu_195] at hW
        refine lv_istore (lv' := [(4, .int (iv s4)), (3, .int (iv r_74)), (2, .int (iv r_6)), (1, .int (iv ((S.1 231 24) + 1))), (0, .ref (G.2.2.1 + 231))]) hx hb dX12_tellRow_80 hl (by decide) rfl (fun ls hl => ?_)
        refine lv_aload_n hx hb dX12_tellRow_82 rfl (lv_at hl 4 rfl) ?_
        refine lv_dup hx hb dX12_tellRow_83 rfl ?_
        refine g_X12_315 Cx hW (k := 231) (by decide) rfl (v := (((S.1 231 24) + 2) + 1) + 2) uF_on dX12_tellRow_84 ?_
        refine lv_iconst (v := iv 1) hx hb dX12_tellRow_87 (by decide) ?_
        refine r_iadd hx hb dX12_tellRow_88 ?_
        refine p_X12_315 Cx hW hL (k := 231) (by decide) rfl dX12_tellRow_89 (fun H locs hW hL => ?_)
        have F_197 : Fr S (uF (uF u_72 231 24 ((((S.1 231 24) + 2) + 1) + 2)) 231 24 (((((S.1 231 24) + 2) + 1) + 2) + 1)) (pl [231, 248, 249, 250, 251, 252, 255, 257, 258]) := F_77.F rfl
        have g_198 : FF S (uF (uF u_72 231 24 ((((S.1 231 24) + 2) + 1) + 2)) 231 24 (((((S.1 231 24) + 2) + 1) + 2) + 1)) (fl [20, 21, 24, 25, 36, 42, 43]) := FF.F g_78 rfl
        have i_199 : dX G (uF (uF u_72 231 24 ((((S.1 231 24) + 2) + 1) + 2)) 231 24 (((((S.1 231 24) + 2) + 1) + 2) + 1)) := i_79.F (i := 24) (show (-2147483648) ≤ ((((S.1 231 24) + 2) + 1) + 2) + 1 ∧ ((((S.1 231 24) + 2) + 1) + 2) + 1 ≤ 2147483647 from ⟨by omega, by omega⟩)
        refine lv_aload_n hx hb dX12_tellRow_92 rfl (lv_at hl 4 rfl) ?_
        refine g_X12_270 Cx hW (k := 231) (by decide) rfl (v := u_72.1 231 20) ((uF_ne (fun h => absurd h.2 (by decide))).trans (uF_ne (fun h => absurd h.2 (by decide)))) dX12_tellRow_93 ?_
        refine r_if_eq (tgt := 100) hx hb ⟨(by omega), (by omega)⟩ dX12_tellRow_96 (by decide) (fun c_200 => ?_) (fun c_200 => ?_)
        · exfalso; omega
        · have lk_201 : (uF (uF u_72 231 24 ((((S.1 231 24) + 2) + 1) + 2)) 231 24 (((((S.1 231 24) + 2) + 1) + 2) + 1)).1 231 20 = u_72.1 231 20 := (uF_ne (fun h => absurd h.2 (by decide))).trans (uF_ne (fun h => absurd h.2 (by decide)))
          have lk_202 : (uF (uF u_72 231 24 ((((S.1 231 24) + 2) + 1) + 2)) 231 24 (((((S.1 231 24) + 2) + 1) + 2) + 1)).1 231 24 = ((((S.1 231 24) + 2) + 1) + 2) + 1 := uF_on
          have lk_203 : (uF (uF u_72 231 24 ((((S.1 231 24) + 2) + 1) + 2)) 231 24 (((((S.1 231 24) + 2) + 1) + 2) + 1)).1 231 42 = S.1 231 42 := (uF_ne (fun h => absurd h.2 (by decide))).trans ((uF_ne (fun h => absurd h.2 (by decide))).trans ((gu_72 42 rfl).trans ((uF_ne (fun h => absurd h.2 (by decide))).trans ((uF_ne (fun h => absurd h.2 (by decide))).trans (gu_4 42 rfl)))))
          have q_204 : (-2147483648) ≤ S.1 231 36 ∧ S.1 231 36 ≤ 2147483647 := hI.fi 36
          have lk_205 : (uF (uF u_72 231 24 ((((S.1 231 24) + 2) + 1) + 2)) 231 24 (((((S.1 231 24) + 2) + 1) + 2) + 1)).1 231 36 = S.1 231 36 := (uF_ne (fun h => absurd h.2 (by decide))).trans ((uF_ne (fun h => absurd h.2 (by decide))).trans ((gu_72 36 rfl).trans ((uF_ne (fun h => absurd h.2 (by decide))).trans ((uF_ne (fun h => absurd h.2 (by decide))).trans (gu_4 36 rfl)))))
          have q_206 : (-2147483648) ≤ u_72.1 231 25 ∧ u_72.1 231 25 ≤ 2147483647 := iu_72.fi 25
          have lk_207 : (uF (uF u_72 231 24 ((((S.1 231 24) + 2) + 1) + 2)) 231 24 (((((S.1 231 24) + 2) + 1) + 2) + 1)).1 231 25 = u_72.1 231 25 := (uF_ne (fun h => absurd h.2 (by decide))).trans (uF_ne (fun h => absurd h.2 (by decide)))
          exact sVret Cx hr hlk hW hL ⟨i_199, F_197, g_198, ⟨(rb2 ⟨(fun x => by rw [show (uF (uF u_72 231 24 ((((S.1 231 24) + 2) + 1) + 2)) 231 24 (((((S.1 231 24) + 2) + 1) + 2) + 1)).2.2.1 255 x = S.2.2.1 255 x from (uF_l).trans ((uF_l).trans (((fu_72 255 rfl).2.2.1 x).trans ((uF_l).trans ((uF_l).trans ((fu_4 255 rfl).2.2.1 x)))))]; exact hRB x), (fun _ => eDr_2 hfn k17 (fun z => by have z1 := z.1; have z2 : 0 ≤ eFind (rN M (v (pz + 1))) (v (pz + 3)) := (by rw [← show ((S.1 231 24) + 2) + 1 = pz + 3 by omega]; exact xu_72.2.1 hfz); omega)), (fun h => absurd h (by have e9 := (show (uF (uF u_72 231 24 ((((S.1 231 24) + 2) + 1) + 2)) 231 24 (((((S.1 231 24) + 2) + 1) + 2) + 1)).1 231 20 = u_72.1 231 20 from (uF_ne (fun h => absurd h.2 (by decide))).trans (uF_ne (fun h => absurd h.2 (by decide)))); omega))⟩), (fun h => absurd h (by have e9 := (show (uF (uF u_72 231 24 ((((S.1 231 24) + 2) + 1) + 2)) 231 24 (((((S.1 231 24) + 2) + 1) + 2) + 1)).1 231 20 = u_72.1 231 20 from (uF_ne (fun h => absurd h.2 (by decide))).trans (uF_ne (fun h => absurd h.2 (by decide)))); omega))⟩⟩ dX12_tellRow_99
  · have lk_208 : u_4.1 231 24 = S.1 231 24 := gu_4 24 rfl
    have q_209 : (-2147483648) ≤ S.1 231 42 ∧ S.1 231 42 ≤ 2147483647 := hI.fi 42
    have lk_210 : u_4.1 231 42 = S.1 231 42 := gu_4 42 rfl
    have q_211 : (-2147483648) ≤ S.1 231 36 ∧ S.1 231 36 ≤ 2147483647 := hI.fi 36
    have lk_212 : u_4.1 231 36 = S.1 231 36 := gu_4 36 rfl
    have q_213 : (-2147483648) ≤ u_4.1 231 25 ∧ u_4.1 231 25 ≤ 2147483647 := iu_4.fi 25
    exact sVret Cx hr hlk hW hL ⟨iu_4, F_7, g_8, ⟨(rb2 ⟨(fun x => by rw [show u_4.2.2.1 255 x = S.2.2.1 255 x from (fu_4 255 rfl).2.2.1 x]; exact hRB x), (fun _ => eDr_0 (by have z2 : 0 ≤ eFind M.1 (v (pz + 1)) := (by rw [← hc]; exact xu_4.2.1 (by omega)); omega)), (fun h => absurd h (by have e9 := (show u_4.1 231 20 = u_4.1 231 20 from rfl); omega))⟩), (fun h => absurd h (by have e9 := (show u_4.1 231 20 = u_4.1 231 20 from rfl); omega))⟩⟩ dX12_tellRow_21
