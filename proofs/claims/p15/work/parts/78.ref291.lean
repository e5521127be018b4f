/-! The second reading: rows -/
theorem gRi_le {K V : Int → Int} {a b : Int} (h : gRi K V a b) : a ≤ b := by
  rcases h with ⟨_, h⟩ | ⟨_, c, h1, d, h2, e, h3, h4⟩
  · omega
  · have := h1.2; have := h2.2; have := h3.2; have := h4.2; omega
theorem gRo_lt {K V : Int → Int} {n : Nat} {p q : Int} (h : gRo K V (gF K V n) p q) : p < q := by
  obtain ⟨a, h1, b, h2, c, h3, d, h4, _, e, h5, h6⟩ := h
  have := h1.2; have := gRi_le h2; have := h3.2; have := gU_lt h4; have := gU_lt h5; have := h6.2
  omega
theorem gT_lt {K V : Int → Int} {p q : Int} (h : gT K V p q) : p + 2 ≤ q := by
  rcases h with ⟨_, a, h1, b, h2, c, h3, d, h4, e, h5, h6⟩ | ⟨_, a, h1, b, h2, c, h3, d, h4, h5⟩ | ⟨_, a, h1, b, h2, ⟨_, h3⟩ | ⟨_, h3⟩⟩
  · have := h1.2; have := h2.2; have := h3.2; have := h4.2; have := h5.2; have := h6.2; omega
  · have := h1.2; have := gI_le h2; have := h3.2; have := gL_lt (fun _ _ t => gV_lt t) h4; have := h5.2; omega
  · have := h1.2; have := gI_le h2; have := h3.2; omega
  · have := h1.2; have := gI_le h2; have := h3.2; omega
set_option maxRecDepth 100000 in
set_option maxHeartbeats 4000000 in
theorem s_X12_tellRow (l : Launch) (G : sG) (S : sS) {K V Fm Wd : Int → Int} {T : Int} {pz q : Int} (hI : dX G S) (hK : S.2.1 244 = K) (hV : S.2.1 247 = V) (hFm : S.2.1 245 = Fm) (hWd : S.2.1 246 = Wd) (hQ : gQ K V Fm Wd T) (h20 : S.1 231 20 = 0) (hNX : Hd (S.1 231 20 = 0 → NX S T)) (h3 : 3 * S.1 231 25 ≤ pz) (hc : S.1 231 24 = pz) (hg : gRo K V (gF K V 30) pz q) (hpq : 0 ≤ pz ∧ q ≤ T - 1) (h36 : 0 ≤ S.1 231 36 ∧ S.1 231 36 ≤ 16) (hRB : Hd (∀ x, -99999 ≤ S.2.2.1 255 x ∧ S.2.2.1 255 x ≤ 99999)) : Met l yX12_tellRow (.code yX12_tellRow cX12_tellRow 9 none :: tb) (rmk 135 0 0) (sPc G 294 S [.ref (G.2.2.1 + 231)]) (sQv G 294 (fun u => dX G u ∧ Fr S u (pl [231, 248, 249, 250, 251, 252, 255, 257, 258]) ∧ FF S u (fl [20, 21, 24, 25, 36, 42, 43]) ∧ (Hd (∀ x, -99999 ≤ u.2.2.1 255 x ∧ u.2.2.1 255 x ≤ 99999) ∧ Hd (u.1 231 20 = 0 → NX u T ∧ u.1 231 25 = S.1 231 25 + 1 ∧ u.1 231 24 = q ∧ 0 ≤ u.1 231 36 ∧ u.1 231 36 ≤ 16)))) 0 0 (sF G) := by
  refine sEnter (by decide) (Nat.le_of_ble_eq_true rfl) ?_
  intro p e s m args below meth c Cx hr hlk hnm hW ls hl
  have Cx : sC G p m c cX12_tellRow 9 s args RX12 := Cx
  obtain ⟨hx, hb, hml, hown, hts⟩ := id Cx.1
  have hL : sL G [] := sL_nil
  have hl : lv_has ls 9 [(0, .ref (G.2.2.1 + 231))] := hl
  have hW0 := hW
  have hQ1 := hQ.1
  have hnx0 := hNX h20
  have hn0 := hnx0.1.1
  obtain ⟨_, ⟨hk1, rfl⟩, b, hri, _, ⟨hs1, rfl⟩, d, hd, hsg, ed, hed, hs2⟩ := hg
  have hq2 := hs2.2
  have hl1 := gU_lt hd
  have hl2 := gU_lt hed
  have hl0 := gRi_le hri
  rw [show pz + 1 + 1 = pz + 2 by omega] at hri
  refine lv_aload_n hx hb dX12_tellRow_0 rfl (lv_at hl 0 rfl) ?_
  have q_1 : (-2147483648) ≤ S.1 231 24 ∧ S.1 231 24 ≤ 2147483647 := hI.fi 24
  refine g_X12_315 Cx hW (k := 231) (by decide) rfl (v := S.1 231 24) rfl dX12_tellRow_1 ?_
  refine lv_iconst (v := iv 1) hx hb dX12_tellRow_4 (by decide) ?_
  refine r_iadd hx hb dX12_tellRow_5 ?_
  refine lv_istore_n (lv' := [(1, .int (iv ((S.1 231 24) + 1))), (0, .ref (G.2.2.1 + 231))]) hx hb dX12_tellRow_6 rfl hl (by decide) rfl (fun ls hl => ?_)
  refine lv_aload_n hx hb dX12_tellRow_7 rfl (lv_at hl 1 rfl) ?_
  refine lv_iload_n hx hb dX12_tellRow_8 rfl (lv_at hl 0 rfl) ?_
  refine lv_iconst (v := iv 4) hx hb dX12_tellRow_9 (by decide) ?_
  have q_2 : (-2147483648) ≤ S.1 231 20 ∧ S.1 231 20 ≤ 2147483647 := hI.fi 20
  have q_3 : (-2147483648) ≤ S.1 231 25 ∧ S.1 231 25 ≤ 2147483647 := hI.fi 25
  refine sBi (sV (As := [.int (iv ((S.1 231 24) + 1)), .int (iv 4)]) (rest := []) (k := 231) Cx (s_X12_add_ l G S (tk := (S.1 231 24) + 1) (so := 4) (K := K) (V := V) (Fm := Fm) (Wd := Wd) (T := T) hI hK hV hFm hWd hQ (fun h => (hNX h).nt) (fun _ => by omega) (by omega) (by omega)) (c_X12_404 Cx rfl rfl (rmk_ok (by omega) (by decide))) hW (by decide) rfl rfl rfl hl.1 rfl (Nat.le_of_ble_eq_true rfl) dX12_tellRow_10 ⟨Nat.le_of_ble_eq_true rfl, Nat.le_of_ble_eq_true rfl⟩) hL (fun r_6 u_4 H locs k_5 hW hL => ?_)
  obtain ⟨iu_4, fu_4, gu_4, xu_4⟩ := k_5
  have F_7 := (Fr.rf : Fr S S (pl [231, 248, 249, 250, 251, 252, 255, 257, 258])).trans (fu_4.to (pl_sub (by decide)))
  have g_8 : FF S u_4 (fl [20, 21, 24, 25, 36, 42, 43]) := FF.trans FF.rf (FF.to gu_4 (fl_sub (by decide)))
  refine lv_istore_n (lv' := [(2, .int (iv r_6)), (1, .int (iv ((S.1 231 24) + 1))), (0, .ref (G.2.2.1 + 231))]) hx hb dX12_tellRow_13 rfl hl (by decide) rfl (fun ls hl => ?_)
  refine lv_aload_n hx hb dX12_tellRow_14 rfl (lv_at hl 2 rfl) ?_
  have q_9 : (-2147483648) ≤ u_4.1 231 20 ∧ u_4.1 231 20 ≤ 2147483647 := iu_4.fi 20
  refine g_X12_270 Cx hW (k := 231) (by decide) rfl (v := u_4.1 231 20) rfl dX12_tellRow_15 ?_
  refine r_if_eq (tgt := 22) hx hb ⟨(by omega), (by omega)⟩ dX12_tellRow_18 (by decide) (fun c_10 => ?_) (fun c_10 => ?_)
  · have a1 := xu_4.2.2 (by omega)
    have hnu : Hd (u_4.1 231 20 = 0 → NX u_4 T) := fun _ => NX.add (S := S) (so := 4) (tk := S.1 231 24 + 1) hnx0 a1.2.2.2 a1.2.2.1 (gu_4 32 rfl) (gu_4 35 rfl) (funext fun j => (fu_4 253 rfl).2.1 j) (by omega) (.inl rfl)
    have hsl : u_4.2.1 249 (S.1 231 25) = 4 := (nRW.at a1.2.2.2).2.1
    have hf1 : u_4.1 231 20 = 0 := by omega
    refine lv_aload_n hx hb dX12_tellRow_22 rfl (lv_at hl 2 rfl) ?_
    refine lv_dup hx hb dX12_tellRow_23 rfl ?_
    refine g_X12_315 Cx hW (k := 231) (by decide) rfl (v := S.1 231 24) (gu_4 24 rfl) dX12_tellRow_24 ?_
    refine lv_iconst (v := iv 2) hx hb dX12_tellRow_27 (by decide) ?_
    refine r_iadd hx hb dX12_tellRow_28 ?_
    refine p_X12_315 Cx hW hL (k := 231) (by decide) rfl dX12_tellRow_29 (fun H locs hW hL => ?_)
    have F_11 : Fr S (uF u_4 231 24 ((S.1 231 24) + 2)) (pl [231, 248, 249, 250, 251, 252, 255, 257, 258]) := F_7.F rfl
    have g_12 : FF S (uF u_4 231 24 ((S.1 231 24) + 2)) (fl [20, 21, 24, 25, 36, 42, 43]) := FF.F g_8 rfl
    have i_13 : dX G (uF u_4 231 24 ((S.1 231 24) + 2)) := iu_4.F (i := 24) (show (-2147483648) ≤ (S.1 231 24) + 2 ∧ (S.1 231 24) + 2 ≤ 2147483647 from ⟨by omega, by omega⟩)
    refine lv_iconst (v := iv (-1)) hx hb dX12_tellRow_32 (by decide) ?_
    refine lv_istore_n (lv' := [(3, .int (iv ((-1)))), (2, .int (iv r_6)), (1, .int (iv ((S.1 231 24) + 1))), (0, .ref (G.2.2.1 + 231))]) hx hb dX12_tellRow_33 rfl hl (by decide) rfl (fun ls hl => ?_)
    refine lv_iconst (v := iv (-1)) hx hb dX12_tellRow_34 (by decide) ?_
    refine lv_istore (lv' := [(4, .int (iv ((-1)))), (3, .int (iv ((-1)))), (2, .int (iv r_6)), (1, .int (iv ((S.1 231 24) + 1))), (0, .ref (G.2.2.1 + 231))]) hx hb dX12_tellRow_35 hl (by decide) rfl (fun ls hl => ?_)
    have join_100 : ∀ (S100 : sS) (sn : Int) (vn : Int) (H : Heap) (locs : List Loc) (ls : Array Slot), (dX G S100) → (Fr S S100 (pl [231, 248, 249, 250, 251, 252, 255, 257, 258])) → (Fr ((uF u_4 231 24 ((S.1 231 24) + 2))) S100 (pl [231, 248, 249, 250, 251, 252])) → (FF S S100 (fl [20, 21, 24, 25, 36, 42, 43])) → (FF ((uF u_4 231 24 ((S.1 231 24) + 2))) S100 (fl [20, 21, 24, 25])) → ((vn = -1 ∧ sn = -1 ∧ S100.1 231 25 = S.1 231 25 + 1) ∨ (vn = S.1 231 25 + 1 ∧ S100.1 231 25 = S.1 231 25 + 2 ∧ 0 ≤ sn ∧ sn < S.1 231 25 ∧ S.2.1 249 sn = 1)) → (S100.1 231 20 = 0 ∧ S100.1 231 24 = b) → (Hd (S100.1 231 20 = 0 → NX S100 T)) → (Hd (vn ≠ -1 → S100.2.1 249 vn = 5)) → ((vn = -1 → b = pz + 2) ∧ (vn ≠ -1 → pz + 7 ≤ b)) → (NR u_4 S100 (S.1 231 25 + 1)) → sW G 294 S100 H → sL G locs → lv_has ls 9 [(4, .int (iv sn)), (3, .int (iv vn)), (2, .int (iv r_6)), (1, .int (iv ((S.1 231 24) + 1))), (0, .ref (G.2.2.1 + 231))] → W p l e (rmk 135 0 0) s m args below meth c H locs 0 0 (MQ below (sQv G 294 (fun u => dX G u ∧ Fr S u (pl [231, 248, 249, 250, 251, 252, 255, 257, 258]) ∧ FF S u (fl [20, 21, 24, 25, 36, 42, 43]) ∧ (Hd (∀ x, -99999 ≤ u.2.2.1 255 x ∧ u.2.2.1 255 x ≤ 99999) ∧ Hd (u.1 231 20 = 0 → NX u T ∧ u.1 231 25 = S.1 231 25 + 1 ∧ u.1 231 24 = q ∧ 0 ≤ u.1 231 36 ∧ u.1 231 36 ≤ 16)))) args s 0 0 (sF G)) (F0 m 100 ls []) := by
      intro S100 sn vn H locs ls hI100 hFm100 hL100_ hGm100 gL100_ hj1 hj2 hj3 hj4 hj5 hR100 hW hL hl
      refine lv_aload_n hx hb dX12_tellRow_100 rfl (lv_at hl 4 rfl) ?_
      refine lv_dup hx hb dX12_tellRow_101 rfl ?_
      have q_14 : (-2147483648) ≤ S100.1 231 24 ∧ S100.1 231 24 ≤ 2147483647 := hI100.fi 24
      refine g_X12_315 Cx hW (k := 231) (by decide) rfl (v := S100.1 231 24) rfl dX12_tellRow_102 ?_
      refine lv_iconst (v := iv 1) hx hb dX12_tellRow_105 (by decide) ?_
      refine r_iadd hx hb dX12_tellRow_106 ?_
      refine p_X12_315 Cx hW hL (k := 231) (by decide) rfl dX12_tellRow_107 (fun H locs hW hL => ?_)
      have F_15 : Fr S (uF S100 231 24 ((S100.1 231 24) + 1)) (pl [231, 248, 249, 250, 251, 252, 255, 257, 258]) := hFm100.F rfl
      have F_16 : Fr ((uF u_4 231 24 ((S.1 231 24) + 2))) (uF S100 231 24 ((S100.1 231 24) + 1)) (pl [231, 248, 249, 250, 251, 252]) := hL100_.F rfl
      have g_17 : FF S (uF S100 231 24 ((S100.1 231 24) + 1)) (fl [20, 21, 24, 25, 36, 42, 43]) := FF.F hGm100 rfl
      have g_18 : FF ((uF u_4 231 24 ((S.1 231 24) + 2))) (uF S100 231 24 ((S100.1 231 24) + 1)) (fl [20, 21, 24, 25]) := FF.F gL100_ rfl
      have i_19 : dX G (uF S100 231 24 ((S100.1 231 24) + 1)) := hI100.F (i := 24) (show (-2147483648) ≤ (S100.1 231 24) + 1 ∧ (S100.1 231 24) + 1 ≤ 2147483647 from ⟨by omega, by omega⟩)
      refine lv_aload_n hx hb dX12_tellRow_110 rfl (lv_at hl 4 rfl) ?_
      refine g_X12_315 Cx hW (k := 231) (by decide) rfl (v := (S100.1 231 24) + 1) uF_on dX12_tellRow_111 ?_
      refine lv_istore (lv' := [(5, .int (iv ((S100.1 231 24) + 1))), (4, .int (iv sn)), (3, .int (iv vn)), (2, .int (iv r_6)), (1, .int (iv ((S.1 231 24) + 1))), (0, .ref (G.2.2.1 + 231))]) hx hb dX12_tellRow_114 hl (by decide) rfl (fun ls hl => ?_)
      refine lv_iload hx hb dX12_tellRow_116 (lv_at hl 1 rfl) ?_
      refine lv_iconst (v := iv (-1)) hx hb dX12_tellRow_118 (by decide) ?_
      refine r_icmp_ne (tgt := 126) hx hb ⟨(by omega), (by omega)⟩ ⟨(by omega), (by omega)⟩ dX12_tellRow_119 (by decide) (fun c_20 => ?_) (fun c_20 => ?_)
      · have hsn : 0 ≤ sn ∧ sn < S.1 231 25 ∧ S.2.1 249 sn = 1 := by rcases hj1 with h | h; (omega); exact h.2.2
        have hst := (hnx0.1.2 sn hsn.1 hsn.2.1).2.1 hsn.2.2
        have hq1 := hR100 sn hsn.1 (by omega)
        have hq2 := a1.2.2.2.nr sn hsn.1 hsn.2.1
        refine lv_aload_n hx hb dX12_tellRow_126 rfl (lv_at hl 5 rfl) ?_
        refine g_X12_65 Cx hW (k := 231) (by decide) rfl (v := .ref (G.2.2.1 + 250)) (rd_28 i_19) dX12_tellRow_127 ?_
        refine lv_iload hx hb dX12_tellRow_130 (lv_at hl 1 rfl) ?_
        refine rIald Cx hW (k := 250) (by decide) rfl (by decide) (by omega) (by omega) dX12_tellRow_132 ?_
        have q_21 : (-2147483648) ≤ S100.2.1 250 sn ∧ S100.2.1 250 sn ≤ 2147483647 := hI100.ai 250 sn
        refine r_i (b := S100.2.1 250 sn) uF_a ?_
        refine lv_istore (lv' := [(6, .int (iv (S100.2.1 250 sn))), (5, .int (iv ((S100.1 231 24) + 1))), (4, .int (iv sn)), (3, .int (iv vn)), (2, .int (iv r_6)), (1, .int (iv ((S.1 231 24) + 1))), (0, .ref (G.2.2.1 + 231))]) hx hb dX12_tellRow_133 hl (by decide) rfl (fun ls hl => ?_)
        refine lv_iload hx hb dX12_tellRow_135 (lv_at hl 2 rfl) ?_
        refine lv_iconst (v := iv (-1)) hx hb dX12_tellRow_137 (by decide) ?_
        refine r_icmp_ne (tgt := 145) hx hb ⟨(by omega), (by omega)⟩ ⟨(by omega), (by omega)⟩ dX12_tellRow_138 (by decide) (fun _ => ?_) (fun c => absurd c (by omega))
        refine lv_aload_n hx hb dX12_tellRow_145 rfl (lv_at hl 6 rfl) ?_
        refine g_X12_68 Cx hW (k := 231) (by decide) rfl (v := .ref (G.2.2.1 + 251)) (rd_29 i_19) dX12_tellRow_146 ?_
        refine lv_iload hx hb dX12_tellRow_149 (lv_at hl 2 rfl) ?_
        refine rIald Cx hW (k := 251) (by decide) rfl (by decide) (by omega) (by omega) dX12_tellRow_151 ?_
        have q_22 : (-2147483648) ≤ S100.2.1 251 sn ∧ S100.2.1 251 sn ≤ 2147483647 := hI100.ai 251 sn
        refine r_i (b := S100.2.1 251 sn) uF_a ?_
        refine lv_istore (lv' := [(7, .int (iv (S100.2.1 251 sn))), (6, .int (iv (S100.2.1 250 sn))), (5, .int (iv ((S100.1 231 24) + 1))), (4, .int (iv sn)), (3, .int (iv vn)), (2, .int (iv r_6)), (1, .int (iv ((S.1 231 24) + 1))), (0, .ref (G.2.2.1 + 231))]) hx hb dX12_tellRow_152 hl (by decide) rfl (fun ls hl => ?_)
        refine lv_iload hx hb dX12_tellRow_154 (lv_at hl 1 rfl) ?_
        refine lv_istore (lv' := [(8, .int (iv (S100.2.1 250 sn))), (7, .int (iv (S100.2.1 251 sn))), (6, .int (iv (S100.2.1 250 sn))), (5, .int (iv ((S100.1 231 24) + 1))), (4, .int (iv sn)), (3, .int (iv vn)), (2, .int (iv r_6)), (1, .int (iv ((S.1 231 24) + 1))), (0, .ref (G.2.2.1 + 231))]) hx hb dX12_tellRow_156 hl (by decide) rfl (fun ls hl => ?_)
        have loop_158 : ∀ (fuel : Nat) (S158 : sS) (va : Int) (H : Heap) (locs : List Loc) (ls : Array Slot), (S100.2.1 251 sn + 1 - va).toNat < fuel → (dX G S158) → (Fr S S158 (pl [231, 248, 249, 250, 251, 252, 255, 257, 258])) → (Fr ((uF S100 231 24 ((S100.1 231 24) + 1))) S158 (pl [231, 248, 249, 250, 251, 252, 255, 257, 258])) → (FF S S158 (fl [20, 21, 24, 25, 36, 42, 43])) → (FF ((uF S100 231 24 ((S100.1 231 24) + 1))) S158 (fl [20, 21, 24, 25, 36, 42, 43])) → (S100.2.1 250 sn ≤ va ∧ va ≤ S100.2.1 251 sn + 1) → (NR u_4 S158 (S.1 231 25 + 1)) → (S100.1 231 25 ≤ S158.1 231 25) → (Hd (∀ x, -99999 ≤ S158.2.2.1 255 x ∧ S158.2.2.1 255 x ≤ 99999)) → (Hd (S158.1 231 20 = 0 → NX S158 T ∧ S158.1 231 25 = S100.1 231 25 ∧ Hd (vn ≠ -1 → S158.2.1 249 vn = 5) ∧ (0 ≤ S158.1 231 36 ∧ S158.1 231 36 ≤ 16) ∧ (S100.2.1 250 sn < va → S158.1 231 24 = q))) → sW G 294 S158 H → sL G locs → lv_has ls 9 [(8, .int (iv va)), (7, .int (iv (S100.2.1 251 sn))), (6, .int (iv (S100.2.1 250 sn))), (5, .int (iv ((S100.1 231 24) + 1))), (4, .int (iv sn)), (3, .int (iv vn)), (2, .int (iv r_6)), (1, .int (iv ((S.1 231 24) + 1))), (0, .ref (G.2.2.1 + 231))] → W p l e (rmk 135 0 0) s m args below meth c H locs 0 0 (MQ below (sQv G 294 (fun u => dX G u ∧ Fr S u (pl [231, 248, 249, 250, 251, 252, 255, 257, 258]) ∧ FF S u (fl [20, 21, 24, 25, 36, 42, 43]) ∧ (Hd (∀ x, -99999 ≤ u.2.2.1 255 x ∧ u.2.2.1 255 x ≤ 99999) ∧ Hd (u.1 231 20 = 0 → NX u T ∧ u.1 231 25 = S.1 231 25 + 1 ∧ u.1 231 24 = q ∧ 0 ≤ u.1 231 36 ∧ u.1 231 36 ≤ 16)))) args s 0 0 (sF G)) (F0 m 158 ls []) := by
          intro fuel
          induction fuel with
          | zero => intro S158 va H locs ls hmeas hI158 hFm158 hL158_ hGm158 gL158_ hva hR158 h25_158 hB158 hN158 hW hL hl; exact absurd hmeas (Nat.not_lt_zero _)
          | succ fuel ih_158 =>
            intro S158 va H locs ls hmeas hI158 hFm158 hL158_ hGm158 gL158_ hva hR158 h25_158 hB158 hN158 hW hL hl
            refine lv_iload hx hb dX12_tellRow_158 (lv_at hl 0 rfl) ?_
            refine lv_iload hx hb dX12_tellRow_160 (lv_at hl 1 rfl) ?_
            refine r_icmp_gt (tgt := 202) hx hb ⟨(by omega), (by omega)⟩ ⟨(by omega), (by omega)⟩ dX12_tellRow_162 (by decide) (fun c_23 => ?_) (fun c_23 => ?_)
            · refine lv_iload_n hx hb dX12_tellRow_202 rfl (lv_at hl 5 rfl) ?_
              refine lv_iconst (v := iv (-1)) hx hb dX12_tellRow_203 (by decide) ?_
              refine r_icmp_eq (tgt := 217) hx hb ⟨(by omega), (by omega)⟩ ⟨(by omega), (by omega)⟩ dX12_tellRow_204 (by decide) (fun c_24 => ?_) (fun c_24 => ?_)
              · have q_25 : (-2147483648) ≤ S158.1 231 20 ∧ S158.1 231 20 ≤ 2147483647 := hI158.fi 20
                have q_26 : (-2147483648) ≤ S158.1 231 25 ∧ S158.1 231 25 ≤ 2147483647 := hI158.fi 25
                have q_27 : (-2147483648) ≤ S158.1 231 24 ∧ S158.1 231 24 ≤ 2147483647 := hI158.fi 24
                have q_28 : (-2147483648) ≤ S158.1 231 36 ∧ S158.1 231 36 ≤ 2147483647 := hI158.fi 36
                exact sVret Cx hr hlk hW hL ⟨hI158, hFm158, hGm158, ⟨hB158, (fun h => by have e6 := (show S158.1 231 25 = S158.1 231 25 from rfl); have e7 := (show S158.1 231 24 = S158.1 231 24 from rfl); have e8 := (show S158.1 231 20 = S158.1 231 20 from rfl); have e3 := (show S158.1 231 36 = S158.1 231 36 from rfl); have b158 := hN158 (by omega); have c158 := b158.2.2.2.2 (by omega); exact ⟨NX.cg (S := u_4) (u := S158) (hnu hf1) (by rw [a1.2.2.1]; exact hR158) (by omega) ((gL158_ 32 rfl).trans ((uF_ne (fun h => absurd h.2 (by decide))).trans ((gL100_ 32 rfl).trans (uF_ne (fun h => absurd h.2 (by decide)))))) ((gL158_ 35 rfl).trans ((uF_ne (fun h => absurd h.2 (by decide))).trans ((gL100_ 35 rfl).trans (uF_ne (fun h => absurd h.2 (by decide)))))) (funext fun j => ((hL158_ 253 rfl).2.1 j).trans ((uF_a).trans (((hL100_ 253 rfl).2.1 j).trans (uF_a)))), by omega, by omega, by omega, by omega⟩)⟩⟩ dX12_tellRow_217
              · refine lv_aload_n hx hb dX12_tellRow_207 rfl (lv_at hl 8 rfl) ?_
                refine lv_dup hx hb dX12_tellRow_208 rfl ?_
                have q_29 : (-2147483648) ≤ S158.1 231 25 ∧ S158.1 231 25 ≤ 2147483647 := hI158.fi 25
                refine g_X12_358 Cx hW (k := 231) (by decide) rfl (v := S158.1 231 25) rfl dX12_tellRow_209 ?_
                refine lv_iconst (v := iv 1) hx hb dX12_tellRow_212 (by decide) ?_
                refine r_isub hx hb dX12_tellRow_213 ?_
                refine p_X12_358 Cx hW hL (k := 231) (by decide) rfl dX12_tellRow_214 (fun H locs hW hL => ?_)
                have F_30 : Fr S (uF S158 231 25 ((S158.1 231 25) - 1)) (pl [231, 248, 249, 250, 251, 252, 255, 257, 258]) := hFm158.F rfl
                have F_31 : Fr ((uF S100 231 24 ((S100.1 231 24) + 1))) (uF S158 231 25 ((S158.1 231 25) - 1)) (pl [231, 248, 249, 250, 251, 252, 255, 257, 258]) := hL158_.F rfl
                have g_32 : FF S (uF S158 231 25 ((S158.1 231 25) - 1)) (fl [20, 21, 24, 25, 36, 42, 43]) := FF.F hGm158 rfl
                have g_33 : FF ((uF S100 231 24 ((S100.1 231 24) + 1))) (uF S158 231 25 ((S158.1 231 25) - 1)) (fl [20, 21, 24, 25, 36, 42, 43]) := FF.F gL158_ rfl
                have i_34 : dX G (uF S158 231 25 ((S158.1 231 25) - 1)) := hI158.F (i := 25) (show (-2147483648) ≤ (S158.1 231 25) - 1 ∧ (S158.1 231 25) - 1 ≤ 2147483647 from ⟨by omega, by omega⟩)
                have q_35 : (-2147483648) ≤ S158.1 231 20 ∧ S158.1 231 20 ≤ 2147483647 := hI158.fi 20
                have lk_36 : (uF S158 231 25 ((S158.1 231 25) - 1)).1 231 20 = S158.1 231 20 := uF_ne (fun h => absurd h.2 (by decide))
                have lk_37 : (uF S158 231 25 ((S158.1 231 25) - 1)).1 231 25 = (S158.1 231 25) - 1 := uF_on
                have q_38 : (-2147483648) ≤ S158.1 231 24 ∧ S158.1 231 24 ≤ 2147483647 := hI158.fi 24
                have lk_39 : (uF S158 231 25 ((S158.1 231 25) - 1)).1 231 24 = S158.1 231 24 := uF_ne (fun h => absurd h.2 (by decide))
                have q_40 : (-2147483648) ≤ S158.1 231 36 ∧ S158.1 231 36 ≤ 2147483647 := hI158.fi 36
                have lk_41 : (uF S158 231 25 ((S158.1 231 25) - 1)).1 231 36 = S158.1 231 36 := uF_ne (fun h => absurd h.2 (by decide))
                exact sVret Cx hr hlk hW hL ⟨i_34, F_30, g_32, ⟨(fun x => by rw [show (uF S158 231 25 ((S158.1 231 25) - 1)).2.2.1 255 x = S158.2.2.1 255 x from uF_l]; exact hB158 x), (fun h => by have e6 := (show (uF S158 231 25 ((S158.1 231 25) - 1)).1 231 25 = (S158.1 231 25) - 1 from uF_on); have e7 := (show (uF S158 231 25 ((S158.1 231 25) - 1)).1 231 24 = S158.1 231 24 from uF_ne (fun h => absurd h.2 (by decide))); have e8 := (show (uF S158 231 25 ((S158.1 231 25) - 1)).1 231 20 = S158.1 231 20 from uF_ne (fun h => absurd h.2 (by decide))); have e3 := (show (uF S158 231 25 ((S158.1 231 25) - 1)).1 231 36 = S158.1 231 36 from uF_ne (fun h => absurd h.2 (by decide))); have b158 := hN158 (by omega); have c158 := b158.2.2.2.2 (by omega); exact ⟨NX.cg (S := u_4) (u := (uF S158 231 25 ((S158.1 231 25) - 1))) (hnu hf1) (by rw [a1.2.2.1]; exact (NR.trans hR158 (NR.eq (S := S158) (u := (uF S158 231 25 ((S158.1 231 25) - 1))) (funext fun j => uF_a) (funext fun j => uF_a) (funext fun j => uF_a) (funext fun j => uF_a) (funext fun j => uF_a)))) (by omega) ((uF_ne (fun h => absurd h.2 (by decide))).trans ((gL158_ 32 rfl).trans ((uF_ne (fun h => absurd h.2 (by decide))).trans ((gL100_ 32 rfl).trans (uF_ne (fun h => absurd h.2 (by decide))))))) ((uF_ne (fun h => absurd h.2 (by decide))).trans ((gL158_ 35 rfl).trans ((uF_ne (fun h => absurd h.2 (by decide))).trans ((gL100_ 35 rfl).trans (uF_ne (fun h => absurd h.2 (by decide))))))) (funext fun j => (uF_a).trans (((hL158_ 253 rfl).2.1 j).trans ((uF_a).trans (((hL100_ 253 rfl).2.1 j).trans (uF_a))))), by omega, by omega, by omega, by omega⟩)⟩⟩ dX12_tellRow_217
            · refine lv_aload_n hx hb dX12_tellRow_165 rfl (lv_at hl 8 rfl) ?_
              have q_42 : (-2147483648) ≤ S158.1 231 20 ∧ S158.1 231 20 ≤ 2147483647 := hI158.fi 20
              refine g_X12_270 Cx hW (k := 231) (by decide) rfl (v := S158.1 231 20) rfl dX12_tellRow_166 ?_
              refine r_if_ne (tgt := 202) hx hb ⟨(by omega), (by omega)⟩ dX12_tellRow_169 (by decide) (fun c_43 => ?_) (fun c_43 => ?_)
              · refine lv_iload_n hx hb dX12_tellRow_202 rfl (lv_at hl 5 rfl) ?_
                refine lv_iconst (v := iv (-1)) hx hb dX12_tellRow_203 (by decide) ?_
                refine r_icmp_eq (tgt := 217) hx hb ⟨(by omega), (by omega)⟩ ⟨(by omega), (by omega)⟩ dX12_tellRow_204 (by decide) (fun c_44 => ?_) (fun c_44 => ?_)
                · have q_45 : (-2147483648) ≤ S158.1 231 25 ∧ S158.1 231 25 ≤ 2147483647 := hI158.fi 25
                  have q_46 : (-2147483648) ≤ S158.1 231 24 ∧ S158.1 231 24 ≤ 2147483647 := hI158.fi 24
                  have q_47 : (-2147483648) ≤ S158.1 231 36 ∧ S158.1 231 36 ≤ 2147483647 := hI158.fi 36
                  exact sVret Cx hr hlk hW hL ⟨hI158, hFm158, hGm158, ⟨hB158, (fun h => absurd h (by have e9 := (show S158.1 231 20 = S158.1 231 20 from rfl); omega))⟩⟩ dX12_tellRow_217
                · refine lv_aload_n hx hb dX12_tellRow_207 rfl (lv_at hl 8 rfl) ?_
                  refine lv_dup hx hb dX12_tellRow_208 rfl ?_
                  have q_48 : (-2147483648) ≤ S158.1 231 25 ∧ S158.1 231 25 ≤ 2147483647 := hI158.fi 25
                  refine g_X12_358 Cx hW (k := 231) (by decide) rfl (v := S158.1 231 25) rfl dX12_tellRow_209 ?_
                  refine lv_iconst (v := iv 1) hx hb dX12_tellRow_212 (by decide) ?_
                  refine r_isub hx hb dX12_tellRow_213 ?_
                  refine p_X12_358 Cx hW hL (k := 231) (by decide) rfl dX12_tellRow_214 (fun H locs hW hL => ?_)
                  have F_49 : Fr S (uF S158 231 25 ((S158.1 231 25) - 1)) (pl [231, 248, 249, 250, 251, 252, 255, 257, 258]) := hFm158.F rfl
                  have F_50 : Fr ((uF S100 231 24 ((S100.1 231 24) + 1))) (uF S158 231 25 ((S158.1 231 25) - 1)) (pl [231, 248, 249, 250, 251, 252, 255, 257, 258]) := hL158_.F rfl
                  have g_51 : FF S (uF S158 231 25 ((S158.1 231 25) - 1)) (fl [20, 21, 24, 25, 36, 42, 43]) := FF.F hGm158 rfl
                  have g_52 : FF ((uF S100 231 24 ((S100.1 231 24) + 1))) (uF S158 231 25 ((S158.1 231 25) - 1)) (fl [20, 21, 24, 25, 36, 42, 43]) := FF.F gL158_ rfl
                  have i_53 : dX G (uF S158 231 25 ((S158.1 231 25) - 1)) := hI158.F (i := 25) (show (-2147483648) ≤ (S158.1 231 25) - 1 ∧ (S158.1 231 25) - 1 ≤ 2147483647 from ⟨by omega, by omega⟩)
                  have lk_54 : (uF S158 231 25 ((S158.1 231 25) - 1)).1 231 20 = S158.1 231 20 := uF_ne (fun h => absurd h.2 (by decide))
                  have lk_55 : (uF S158 231 25 ((S158.1 231 25) - 1)).1 231 25 = (S158.1 231 25) - 1 := uF_on
                  have q_56 : (-2147483648) ≤ S158.1 231 24 ∧ S158.1 231 24 ≤ 2147483647 := hI158.fi 24
                  have lk_57 : (uF S158 231 25 ((S158.1 231 25) - 1)).1 231 24 = S158.1 231 24 := uF_ne (fun h => absurd h.2 (by decide))
                  have q_58 : (-2147483648) ≤ S158.1 231 36 ∧ S158.1 231 36 ≤ 2147483647 := hI158.fi 36
                  have lk_59 : (uF S158 231 25 ((S158.1 231 25) - 1)).1 231 36 = S158.1 231 36 := uF_ne (fun h => absurd h.2 (by decide))
                  exact sVret Cx hr hlk hW hL ⟨i_53, F_49, g_51, ⟨(fun x => by rw [show (uF S158 231 25 ((S158.1 231 25) - 1)).2.2.1 255 x = S158.2.2.1 255 x from uF_l]; exact hB158 x), (fun h => absurd h (by have e9 := (show (uF S158 231 25 ((S158.1 231 25) - 1)).1 231 20 = S158.1 231 20 from uF_ne (fun h => absurd h.2 (by decide))); omega))⟩⟩ dX12_tellRow_217
              · have b158 := hN158 (by omega)
                have hM158 : Hd (S158.1 231 20 = 0 → NX S158 T) := fun _ => b158.1
                refine lv_iload_n hx hb dX12_tellRow_172 rfl (lv_at hl 5 rfl) ?_
                refine lv_iconst (v := iv (-1)) hx hb dX12_tellRow_173 (by decide) ?_
                refine r_icmp_eq (tgt := 185) hx hb ⟨(by omega), (by omega)⟩ ⟨(by omega), (by omega)⟩ dX12_tellRow_174 (by decide) (fun c_60 => ?_) (fun c_60 => ?_)
                · refine lv_aload_n hx hb dX12_tellRow_185 rfl (lv_at hl 8 rfl) ?_
                  refine lv_iload hx hb dX12_tellRow_186 (lv_at hl 3 rfl) ?_
                  refine p_X12_315 Cx hW hL (k := 231) (by decide) rfl dX12_tellRow_188 (fun H locs hW hL => ?_)
                  have F_61 : Fr S (uF S158 231 24 ((S100.1 231 24) + 1)) (pl [231, 248, 249, 250, 251, 252, 255, 257, 258]) := hFm158.F rfl
                  have F_62 : Fr ((uF S100 231 24 ((S100.1 231 24) + 1))) (uF S158 231 24 ((S100.1 231 24) + 1)) (pl [231, 248, 249, 250, 251, 252, 255, 257, 258]) := hL158_.F rfl
                  have g_63 : FF S (uF S158 231 24 ((S100.1 231 24) + 1)) (fl [20, 21, 24, 25, 36, 42, 43]) := FF.F hGm158 rfl
                  have g_64 : FF ((uF S100 231 24 ((S100.1 231 24) + 1))) (uF S158 231 24 ((S100.1 231 24) + 1)) (fl [20, 21, 24, 25, 36, 42, 43]) := FF.F gL158_ rfl
                  have i_65 : dX G (uF S158 231 24 ((S100.1 231 24) + 1)) := hI158.F (i := 24) (show (-2147483648) ≤ (S100.1 231 24) + 1 ∧ (S100.1 231 24) + 1 ≤ 2147483647 from ⟨by omega, by omega⟩)
                  refine lv_aload_n hx hb dX12_tellRow_191 rfl (lv_at hl 8 rfl) ?_
                  refine lv_iload_n hx hb dX12_tellRow_192 rfl (lv_at hl 7 rfl) ?_
                  have lk_66 : (uF S158 231 24 ((S100.1 231 24) + 1)).1 231 20 = S158.1 231 20 := uF_ne (fun h => absurd h.2 (by decide))
                  have q_67 : (-2147483648) ≤ S158.1 231 25 ∧ S158.1 231 25 ≤ 2147483647 := hI158.fi 25
                  have lk_68 : (uF S158 231 24 ((S100.1 231 24) + 1)).1 231 25 = S158.1 231 25 := uF_ne (fun h => absurd h.2 (by decide))
                  have lk_69 : (uF S158 231 24 ((S100.1 231 24) + 1)).1 231 24 = (S100.1 231 24) + 1 := uF_on
                  have q_70 : (-2147483648) ≤ S158.1 231 36 ∧ S158.1 231 36 ≤ 2147483647 := hI158.fi 36
                  have lk_71 : (uF S158 231 24 ((S100.1 231 24) + 1)).1 231 36 = S158.1 231 36 := uF_ne (fun h => absurd h.2 (by decide))
                  refine sBv (sV (As := [.int (iv ((S.1 231 24) + 1))]) (rest := []) (k := 231) Cx (s_X12_oneRow l G (uF S158 231 24 ((S100.1 231 24) + 1)) (tk := (S.1 231 24) + 1) (K := K) (V := V) (Fm := Fm) (Wd := Wd) (T := T) (pz := b + 1) (q := q) i_65 ((funext fun j => (uF_a).trans (((hL158_ 244 rfl).2.1 j).trans ((uF_a).trans (((hL100_ 244 rfl).2.1 j).trans ((uF_a).trans ((fu_4 244 rfl).2.1 j))))) : (uF S158 231 24 ((S100.1 231 24) + 1)).2.1 244 = S.2.1 244).trans hK) ((funext fun j => (uF_a).trans (((hL158_ 247 rfl).2.1 j).trans ((uF_a).trans (((hL100_ 247 rfl).2.1 j).trans ((uF_a).trans ((fu_4 247 rfl).2.1 j))))) : (uF S158 231 24 ((S100.1 231 24) + 1)).2.1 247 = S.2.1 247).trans hV) ((funext fun j => (uF_a).trans (((hL158_ 245 rfl).2.1 j).trans ((uF_a).trans (((hL100_ 245 rfl).2.1 j).trans ((uF_a).trans ((fu_4 245 rfl).2.1 j))))) : (uF S158 231 24 ((S100.1 231 24) + 1)).2.1 245 = S.2.1 245).trans hFm) ((funext fun j => (uF_a).trans (((hL158_ 246 rfl).2.1 j).trans ((uF_a).trans (((hL100_ 246 rfl).2.1 j).trans ((uF_a).trans ((fu_4 246 rfl).2.1 j))))) : (uF S158 231 24 ((S100.1 231 24) + 1)).2.1 246 = S.2.1 246).trans hWd) hQ (by omega) (fun h => (NX.cg (S := S158) (u := (uF S158 231 24 ((S100.1 231 24) + 1))) (hM158 (by have e9 := (show (uF S158 231 24 ((S100.1 231 24) + 1)).1 231 20 = S158.1 231 20 from uF_ne (fun h => absurd h.2 (by decide))); omega)) (NR.eq (funext fun j => uF_a) (funext fun j => uF_a) (funext fun j => uF_a) (funext fun j => uF_a) (funext fun j => uF_a)) (uF_ne (fun h => absurd h.2 (by decide))) (uF_ne (fun h => absurd h.2 (by decide))) (uF_ne (fun h => absurd h.2 (by decide))) (funext fun j => uF_a))) (by omega) (by omega) ⟨d, hd, hsg, ed, hed, hs2⟩ (by omega) (by omega) (by omega) (fun x => by rw [show (uF S158 231 24 ((S100.1 231 24) + 1)).2.2.1 255 x = S158.2.2.1 255 x from uF_l]; exact hB158 x)) (c_X12_413 Cx rfl rfl (rmk_ok (by omega) (by decide))) hW (by decide) rfl rfl rfl hl.1 rfl (Nat.le_of_ble_eq_true rfl) dX12_tellRow_193 ⟨Nat.le_of_ble_eq_true rfl, Nat.le_of_ble_eq_true rfl⟩) hL (fun u_72 H locs k_73 hW hL => ?_)
                  obtain ⟨iu_72, fu_72, gu_72, xu_72⟩ := k_73
                  have F_74 := F_61.trans fu_72
                  have F_75 := F_62.trans fu_72
                  have g_76 : FF S u_72 (fl [20, 21, 24, 25, 36, 42, 43]) := FF.trans g_63 (FF.to gu_72 (fl_sub (by decide)))
                  have g_77 : FF ((uF S100 231 24 ((S100.1 231 24) + 1))) u_72 (fl [20, 21, 24, 25, 36, 42, 43]) := FF.trans g_64 (FF.to gu_72 (fl_sub (by decide)))
                  refine lv_iinc (v := iv (va + 1)) (lv' := [(8, .int (iv (va + 1))), (7, .int (iv (S100.2.1 251 sn))), (6, .int (iv (S100.2.1 250 sn))), (5, .int (iv ((S100.1 231 24) + 1))), (4, .int (iv sn)), (3, .int (iv vn)), (2, .int (iv r_6)), (1, .int (iv ((S.1 231 24) + 1))), (0, .ref (G.2.2.1 + 231))]) hx hb dX12_tellRow_196 hl (k := 0) rfl ((Int32.ofInt_add _ _).symm) (by decide) rfl (fun ls hl => ?_)
                  refine lv_goto (tgt := 158) hx hb dX12_tellRow_199 (by decide) ?_
                  have q_78 : (-2147483648) ≤ u_72.1 231 25 ∧ u_72.1 231 25 ≤ 2147483647 := iu_72.fi 25
                  have q_79 : (-2147483648) ≤ u_72.1 231 20 ∧ u_72.1 231 20 ≤ 2147483647 := iu_72.fi 20
                  have q_80 : (-2147483648) ≤ u_72.1 231 36 ∧ u_72.1 231 36 ≤ 2147483647 := iu_72.fi 36
                  have q_81 : (-2147483648) ≤ u_72.1 231 24 ∧ u_72.1 231 24 ≤ 2147483647 := iu_72.fi 24
                  exact ih_158 u_72 (va + 1) _ _ _ (by omega) iu_72 F_74 F_75 g_76 g_77 (by omega) (NR.trans (NR.trans hR158 (show NR S158 (uF S158 231 24 ((S100.1 231 24) + 1)) (S.1 231 25 + 1) from fun j j0 j1 => ⟨uF_a, uF_a, uF_a, uF_a, uF_a⟩)) (NR.mono xu_72.1 (by have y25 := (show (uF S158 231 24 ((S100.1 231 24) + 1)).1 231 25 = S158.1 231 25 from uF_ne (fun h => absurd h.2 (by decide))); omega))) (by omega) xu_72.2.2.1 (fun h => by have a9 := xu_72.2.2.2 h; have y25 := (show (uF S158 231 24 ((S100.1 231 24) + 1)).1 231 25 = S158.1 231 25 from uF_ne (fun h => absurd h.2 (by decide))); exact ⟨a9.1, (by omega), (fun z => by have y9 := (xu_72.1 vn (by omega) (by omega)).2.1; rw [y9, show (uF S158 231 24 ((S100.1 231 24) + 1)).2.1 249 vn = S158.2.1 249 vn from uF_a]; exact b158.2.2.1 z), (by omega), (fun _ => a9.2.2.1)⟩) hW hL (lv_sub hl [0, 1, 2, 3, 4, 5, 6, 7, 8] rfl)
                · refine lv_aload_n hx hb dX12_tellRow_177 rfl (lv_at hl 8 rfl) ?_
                  refine g_X12_71 Cx hW (k := 231) (by decide) rfl (v := .ref (G.2.2.1 + 252)) (rd_30 hI158) dX12_tellRow_178 ?_
                  refine lv_iload_n hx hb dX12_tellRow_181 rfl (lv_at hl 5 rfl) ?_
                  refine lv_iload hx hb dX12_tellRow_182 (lv_at hl 0 rfl) ?_
                  refine rIast Cx hW hL (k := 252) (by decide) rfl (by decide) (by omega) (by omega) dX12_tellRow_184 (fun H locs hW hL => ?_)
                  have F_82 : Fr S (uA S158 252 vn va) (pl [231, 248, 249, 250, 251, 252, 255, 257, 258]) := hFm158.A rfl
                  have F_83 : Fr ((uF S100 231 24 ((S100.1 231 24) + 1))) (uA S158 252 vn va) (pl [231, 248, 249, 250, 251, 252, 255, 257, 258]) := hL158_.A rfl
                  have i_84 : dX G (uA S158 252 vn va) := hI158.A (k := 252) (show (-2147483648) ≤ va ∧ va ≤ 2147483647 from ⟨by omega, by omega⟩)
                  have hnv : Hd ((uA S158 252 vn va).1 231 20 = 0 → NX (uA S158 252 vn va) T) := fun _ => NX.put5 (S := S158) (j := vn) (v := va) b158.1 (b158.2.2.1 (by omega)) (by omega) rfl rfl rfl rfl (fun x => by rw [uA_get]; by_cases z : x = vn; (rw [if_pos ⟨rfl, z⟩, if_pos z]); rw [if_neg (fun h => z h.2), if_neg z]) rfl rfl rfl rfl
                  refine lv_aload_n hx hb dX12_tellRow_185 rfl (lv_at hl 8 rfl) ?_
                  refine lv_iload hx hb dX12_tellRow_186 (lv_at hl 3 rfl) ?_
                  refine p_X12_315 Cx hW hL (k := 231) (by decide) rfl dX12_tellRow_188 (fun H locs hW hL => ?_)
                  have F_85 : Fr S (uF (uA S158 252 vn va) 231 24 ((S100.1 231 24) + 1)) (pl [231, 248, 249, 250, 251, 252, 255, 257, 258]) := F_82.F rfl
                  have F_86 : Fr ((uF S100 231 24 ((S100.1 231 24) + 1))) (uF (uA S158 252 vn va) 231 24 ((S100.1 231 24) + 1)) (pl [231, 248, 249, 250, 251, 252, 255, 257, 258]) := F_83.F rfl
                  have g_87 : FF S (uF (uA S158 252 vn va) 231 24 ((S100.1 231 24) + 1)) (fl [20, 21, 24, 25, 36, 42, 43]) := FF.F hGm158 rfl
                  have g_88 : FF ((uF S100 231 24 ((S100.1 231 24) + 1))) (uF (uA S158 252 vn va) 231 24 ((S100.1 231 24) + 1)) (fl [20, 21, 24, 25, 36, 42, 43]) := FF.F gL158_ rfl
                  have i_89 : dX G (uF (uA S158 252 vn va) 231 24 ((S100.1 231 24) + 1)) := i_84.F (i := 24) (show (-2147483648) ≤ (S100.1 231 24) + 1 ∧ (S100.1 231 24) + 1 ≤ 2147483647 from ⟨by omega, by omega⟩)
                  refine lv_aload_n hx hb dX12_tellRow_191 rfl (lv_at hl 8 rfl) ?_
                  refine lv_iload_n hx hb dX12_tellRow_192 rfl (lv_at hl 7 rfl) ?_
                  have lk_90 : (uF (uA S158 252 vn va) 231 24 ((S100.1 231 24) + 1)).1 231 20 = S158.1 231 20 := (uF_ne (fun h => absurd h.2 (by decide))).trans (uA_f)
                  have q_91 : (-2147483648) ≤ S158.1 231 25 ∧ S158.1 231 25 ≤ 2147483647 := hI158.fi 25
                  have lk_92 : (uF (uA S158 252 vn va) 231 24 ((S100.1 231 24) + 1)).1 231 25 = S158.1 231 25 := (uF_ne (fun h => absurd h.2 (by decide))).trans (uA_f)
                  have lk_93 : (uF (uA S158 252 vn va) 231 24 ((S100.1 231 24) + 1)).1 231 24 = (S100.1 231 24) + 1 := uF_on
                  have q_94 : (-2147483648) ≤ S158.1 231 36 ∧ S158.1 231 36 ≤ 2147483647 := hI158.fi 36
                  have lk_95 : (uF (uA S158 252 vn va) 231 24 ((S100.1 231 24) + 1)).1 231 36 = S158.1 231 36 := (uF_ne (fun h => absurd h.2 (by decide))).trans (uA_f)
                  refine sBv (sV (As := [.int (iv ((S.1 231 24) + 1))]) (rest := []) (k := 231) Cx (s_X12_oneRow l G (uF (uA S158 252 vn va) 231 24 ((S100.1 231 24) + 1)) (tk := (S.1 231 24) + 1) (K := K) (V := V) (Fm := Fm) (Wd := Wd) (T := T) (pz := b + 1) (q := q) i_89 ((funext fun j => (uF_a).trans ((uA_ne (fun h => absurd h.1 (by decide))).trans (((hL158_ 244 rfl).2.1 j).trans ((uF_a).trans (((hL100_ 244 rfl).2.1 j).trans ((uF_a).trans ((fu_4 244 rfl).2.1 j)))))) : (uF (uA S158 252 vn va) 231 24 ((S100.1 231 24) + 1)).2.1 244 = S.2.1 244).trans hK) ((funext fun j => (uF_a).trans ((uA_ne (fun h => absurd h.1 (by decide))).trans (((hL158_ 247 rfl).2.1 j).trans ((uF_a).trans (((hL100_ 247 rfl).2.1 j).trans ((uF_a).trans ((fu_4 247 rfl).2.1 j)))))) : (uF (uA S158 252 vn va) 231 24 ((S100.1 231 24) + 1)).2.1 247 = S.2.1 247).trans hV) ((funext fun j => (uF_a).trans ((uA_ne (fun h => absurd h.1 (by decide))).trans (((hL158_ 245 rfl).2.1 j).trans ((uF_a).trans (((hL100_ 245 rfl).2.1 j).trans ((uF_a).trans ((fu_4 245 rfl).2.1 j)))))) : (uF (uA S158 252 vn va) 231 24 ((S100.1 231 24) + 1)).2.1 245 = S.2.1 245).trans hFm) ((funext fun j => (uF_a).trans ((uA_ne (fun h => absurd h.1 (by decide))).trans (((hL158_ 246 rfl).2.1 j).trans ((uF_a).trans (((hL100_ 246 rfl).2.1 j).trans ((uF_a).trans ((fu_4 246 rfl).2.1 j)))))) : (uF (uA S158 252 vn va) 231 24 ((S100.1 231 24) + 1)).2.1 246 = S.2.1 246).trans hWd) hQ (by omega) (fun h => (NX.cg (S := (uA S158 252 vn va)) (u := (uF (uA S158 252 vn va) 231 24 ((S100.1 231 24) + 1))) (hnv (by have e9 := (show (uF (uA S158 252 vn va) 231 24 ((S100.1 231 24) + 1)).1 231 20 = (uA S158 252 vn va).1 231 20 from uF_ne (fun h => absurd h.2 (by decide))); omega)) (NR.eq (funext fun j => uF_a) (funext fun j => uF_a) (funext fun j => uF_a) (funext fun j => uF_a) (funext fun j => uF_a)) (uF_ne (fun h => absurd h.2 (by decide))) (uF_ne (fun h => absurd h.2 (by decide))) (uF_ne (fun h => absurd h.2 (by decide))) (funext fun j => uF_a))) (by omega) (by omega) ⟨d, hd, hsg, ed, hed, hs2⟩ (by omega) (by omega) (by omega) (fun x => by rw [show (uF (uA S158 252 vn va) 231 24 ((S100.1 231 24) + 1)).2.2.1 255 x = S158.2.2.1 255 x from (uF_l).trans (uA_l)]; exact hB158 x)) (c_X12_413 Cx rfl rfl (rmk_ok (by omega) (by decide))) hW (by decide) rfl rfl rfl hl.1 rfl (Nat.le_of_ble_eq_true rfl) dX12_tellRow_193 ⟨Nat.le_of_ble_eq_true rfl, Nat.le_of_ble_eq_true rfl⟩) hL (fun u_96 H locs k_97 hW hL => ?_)
                  obtain ⟨iu_96, fu_96, gu_96, xu_96⟩ := k_97
                  have F_98 := F_85.trans fu_96
                  have F_99 := F_86.trans fu_96
                  have g_100 : FF S u_96 (fl [20, 21, 24, 25, 36, 42, 43]) := FF.trans g_87 (FF.to gu_96 (fl_sub (by decide)))
                  have g_101 : FF ((uF S100 231 24 ((S100.1 231 24) + 1))) u_96 (fl [20, 21, 24, 25, 36, 42, 43]) := FF.trans g_88 (FF.to gu_96 (fl_sub (by decide)))
                  refine lv_iinc (v := iv (va + 1)) (lv' := [(8, .int (iv (va + 1))), (7, .int (iv (S100.2.1 251 sn))), (6, .int (iv (S100.2.1 250 sn))), (5, .int (iv ((S100.1 231 24) + 1))), (4, .int (iv sn)), (3, .int (iv vn)), (2, .int (iv r_6)), (1, .int (iv ((S.1 231 24) + 1))), (0, .ref (G.2.2.1 + 231))]) hx hb dX12_tellRow_196 hl (k := 0) rfl ((Int32.ofInt_add _ _).symm) (by decide) rfl (fun ls hl => ?_)
                  refine lv_goto (tgt := 158) hx hb dX12_tellRow_199 (by decide) ?_
                  have q_102 : (-2147483648) ≤ u_96.1 231 25 ∧ u_96.1 231 25 ≤ 2147483647 := iu_96.fi 25
                  have q_103 : (-2147483648) ≤ u_96.1 231 20 ∧ u_96.1 231 20 ≤ 2147483647 := iu_96.fi 20
                  have q_104 : (-2147483648) ≤ u_96.1 231 36 ∧ u_96.1 231 36 ≤ 2147483647 := iu_96.fi 36
                  have q_105 : (-2147483648) ≤ u_96.1 231 24 ∧ u_96.1 231 24 ≤ 2147483647 := iu_96.fi 24
                  exact ih_158 u_96 (va + 1) _ _ _ (by omega) iu_96 F_98 F_99 g_100 g_101 (by omega) (NR.trans (NR.trans hR158 (show NR S158 (uF (uA S158 252 vn va) 231 24 ((S100.1 231 24) + 1)) (S.1 231 25 + 1) from fun j j0 j1 => ⟨(uF_a).trans (uA_ne (fun h => absurd h.1 (by decide))), (uF_a).trans (uA_ne (fun h => absurd h.1 (by decide))), (uF_a).trans (uA_ne (fun h => absurd h.1 (by decide))), (uF_a).trans (uA_ne (fun h => absurd h.1 (by decide))), (uF_a).trans (uA_ne (fun h => (fun y => absurd y (by omega)) h.2))⟩)) (NR.mono xu_96.1 (by have y25 := (show (uF (uA S158 252 vn va) 231 24 ((S100.1 231 24) + 1)).1 231 25 = S158.1 231 25 from (uF_ne (fun h => absurd h.2 (by decide))).trans (uA_f)); omega))) (by omega) xu_96.2.2.1 (fun h => by have a9 := xu_96.2.2.2 h; have y25 := (show (uF (uA S158 252 vn va) 231 24 ((S100.1 231 24) + 1)).1 231 25 = S158.1 231 25 from (uF_ne (fun h => absurd h.2 (by decide))).trans (uA_f)); exact ⟨a9.1, (by omega), (fun z => by have y9 := (xu_96.1 vn (by omega) (by omega)).2.1; rw [y9, show (uF (uA S158 252 vn va) 231 24 ((S100.1 231 24) + 1)).2.1 249 vn = S158.2.1 249 vn from (uF_a).trans (uA_ne (fun h => absurd h.1 (by decide)))]; exact b158.2.2.1 z), (by omega), (fun _ => a9.2.2.1)⟩) hW hL (lv_sub hl [0, 1, 2, 3, 4, 5, 6, 7, 8] rfl)
        have q_106 : (-2147483648) ≤ S100.1 231 25 ∧ S100.1 231 25 ≤ 2147483647 := hI100.fi 25
        have lk_107 : (uF S100 231 24 ((S100.1 231 24) + 1)).1 231 25 = S100.1 231 25 := uF_ne (fun h => absurd h.2 (by decide))
        have q_108 : (-2147483648) ≤ S100.1 231 20 ∧ S100.1 231 20 ≤ 2147483647 := hI100.fi 20
        have lk_109 : (uF S100 231 24 ((S100.1 231 24) + 1)).1 231 20 = S100.1 231 20 := uF_ne (fun h => absurd h.2 (by decide))
        have q_110 : (-2147483648) ≤ S.1 231 36 ∧ S.1 231 36 ≤ 2147483647 := hI.fi 36
        have lk_111 : (uF S100 231 24 ((S100.1 231 24) + 1)).1 231 36 = S.1 231 36 := (uF_ne (fun h => absurd h.2 (by decide))).trans ((gL100_ 36 rfl).trans ((uF_ne (fun h => absurd h.2 (by decide))).trans (gu_4 36 rfl)))
        have lk_112 : (uF S100 231 24 ((S100.1 231 24) + 1)).1 231 24 = (S100.1 231 24) + 1 := uF_on
        exact loop_158 (_ + 1) (uF S100 231 24 ((S100.1 231 24) + 1)) (S100.2.1 250 sn) _ _ _ (Nat.lt_succ_self _) i_19 F_15 Fr.rf g_17 FF.rf (by omega) (NR.trans hR100 (NR.eq (S := S100) (u := (uF S100 231 24 ((S100.1 231 24) + 1))) (funext fun j => uF_a) (funext fun j => uF_a) (funext fun j => uF_a) (funext fun j => uF_a) (funext fun j => uF_a))) (by omega) (fun x => by rw [show (uF S100 231 24 ((S100.1 231 24) + 1)).2.2.1 255 x = S.2.2.1 255 x from (uF_l).trans (((hL100_ 255 rfl).2.2.1 x).trans ((uF_l).trans ((fu_4 255 rfl).2.2.1 x)))]; exact hRB x) (fun _ => ⟨(NX.cg (S := S100) (u := (uF S100 231 24 ((S100.1 231 24) + 1))) (hj3 hj2.1) (NR.eq (funext fun j => uF_a) (funext fun j => uF_a) (funext fun j => uF_a) (funext fun j => uF_a) (funext fun j => uF_a)) (uF_ne (fun h => absurd h.2 (by decide))) (uF_ne (fun h => absurd h.2 (by decide))) (uF_ne (fun h => absurd h.2 (by decide))) (funext fun j => uF_a)), (show (uF S100 231 24 ((S100.1 231 24) + 1)).1 231 25 = S100.1 231 25 from uF_ne (fun h => absurd h.2 (by decide))), (fun z => by rw [show (uF S100 231 24 ((S100.1 231 24) + 1)).2.1 249 vn = S100.2.1 249 vn from uF_a]; exact hj4 z), (by have e3 := (show (uF S100 231 24 ((S100.1 231 24) + 1)).1 231 36 = S.1 231 36 from (uF_ne (fun h => absurd h.2 (by decide))).trans ((gL100_ 36 rfl).trans ((uF_ne (fun h => absurd h.2 (by decide))).trans (gu_4 36 rfl)))); omega), (fun z => absurd z (by omega))⟩) hW hL (lv_sub hl [0, 1, 2, 3, 4, 5, 6, 7, 8] rfl)
      · refine lv_iconst (v := iv 0) hx hb dX12_tellRow_122 (by decide) ?_
        refine lv_goto (tgt := 133) hx hb dX12_tellRow_123 (by decide) ?_
        refine lv_istore (lv' := [(6, .int (iv 0)), (5, .int (iv ((S100.1 231 24) + 1))), (4, .int (iv sn)), (3, .int (iv vn)), (2, .int (iv r_6)), (1, .int (iv ((S.1 231 24) + 1))), (0, .ref (G.2.2.1 + 231))]) hx hb dX12_tellRow_133 hl (by decide) rfl (fun ls hl => ?_)
        refine lv_iload hx hb dX12_tellRow_135 (lv_at hl 2 rfl) ?_
        refine lv_iconst (v := iv (-1)) hx hb dX12_tellRow_137 (by decide) ?_
        refine r_icmp_ne (tgt := 145) hx hb ⟨(by omega), (by omega)⟩ ⟨(by omega), (by omega)⟩ dX12_tellRow_138 (by decide) (fun c => absurd (by omega) c) (fun _ => ?_)
        refine lv_iconst (v := iv 0) hx hb dX12_tellRow_141 (by decide) ?_
        refine lv_goto (tgt := 152) hx hb dX12_tellRow_142 (by decide) ?_
        refine lv_istore (lv' := [(7, .int (iv 0)), (6, .int (iv 0)), (5, .int (iv ((S100.1 231 24) + 1))), (4, .int (iv sn)), (3, .int (iv vn)), (2, .int (iv r_6)), (1, .int (iv ((S.1 231 24) + 1))), (0, .ref (G.2.2.1 + 231))]) hx hb dX12_tellRow_152 hl (by decide) rfl (fun ls hl => ?_)
        refine lv_iload hx hb dX12_tellRow_154 (lv_at hl 1 rfl) ?_
        refine lv_istore (lv' := [(8, .int (iv 0)), (7, .int (iv 0)), (6, .int (iv 0)), (5, .int (iv ((S100.1 231 24) + 1))), (4, .int (iv sn)), (3, .int (iv vn)), (2, .int (iv r_6)), (1, .int (iv ((S.1 231 24) + 1))), (0, .ref (G.2.2.1 + 231))]) hx hb dX12_tellRow_156 hl (by decide) rfl (fun ls hl => ?_)
        have loop_158 : ∀ (fuel : Nat) (S158 : sS) (va : Int) (H : Heap) (locs : List Loc) (ls : Array Slot), (0 + 1 - va).toNat < fuel → (dX G S158) → (Fr S S158 (pl [231, 248, 249, 250, 251, 252, 255, 257, 258])) → (Fr ((uF S100 231 24 ((S100.1 231 24) + 1))) S158 (pl [231, 248, 249, 250, 251, 252, 255, 257, 258])) → (FF S S158 (fl [20, 21, 24, 25, 36, 42, 43])) → (FF ((uF S100 231 24 ((S100.1 231 24) + 1))) S158 (fl [20, 21, 24, 25, 36, 42, 43])) → (0 ≤ va ∧ va ≤ 0 + 1) → (NR u_4 S158 (S.1 231 25 + 1)) → (S100.1 231 25 ≤ S158.1 231 25) → (Hd (∀ x, -99999 ≤ S158.2.2.1 255 x ∧ S158.2.2.1 255 x ≤ 99999)) → (Hd (S158.1 231 20 = 0 → NX S158 T ∧ S158.1 231 25 = S100.1 231 25 ∧ Hd (vn ≠ -1 → S158.2.1 249 vn = 5) ∧ (0 ≤ S158.1 231 36 ∧ S158.1 231 36 ≤ 16) ∧ (0 < va → S158.1 231 24 = q))) → sW G 294 S158 H → sL G locs → lv_has ls 9 [(8, .int (iv va)), (7, .int (iv 0)), (6, .int (iv 0)), (5, .int (iv ((S100.1 231 24) + 1))), (4, .int (iv sn)), (3, .int (iv vn)), (2, .int (iv r_6)), (1, .int (iv ((S.1 231 24) + 1))), (0, .ref (G.2.2.1 + 231))] → W p l e (rmk 135 0 0) s m args below meth c H locs 0 0 (MQ below (sQv G 294 (fun u => dX G u ∧ Fr S u (pl [231, 248, 249, 250, 251, 252, 255, 257, 258]) ∧ FF S u (fl [20, 21, 24, 25, 36, 42, 43]) ∧ (Hd (∀ x, -99999 ≤ u.2.2.1 255 x ∧ u.2.2.1 255 x ≤ 99999) ∧ Hd (u.1 231 20 = 0 → NX u T ∧ u.1 231 25 = S.1 231 25 + 1 ∧ u.1 231 24 = q ∧ 0 ≤ u.1 231 36 ∧ u.1 231 36 ≤ 16)))) args s 0 0 (sF G)) (F0 m 158 ls []) := by
          intro fuel
          induction fuel with
          | zero => intro S158 va H locs ls hmeas hI158 hFm158 hL158_ hGm158 gL158_ hva hR158 h25_158 hB158 hN158 hW hL hl; exact absurd hmeas (Nat.not_lt_zero _)
          | succ fuel ih_158 =>
            intro S158 va H locs ls hmeas hI158 hFm158 hL158_ hGm158 gL158_ hva hR158 h25_158 hB158 hN158 hW hL hl
            refine lv_iload hx hb dX12_tellRow_158 (lv_at hl 0 rfl) ?_
            refine lv_iload hx hb dX12_tellRow_160 (lv_at hl 1 rfl) ?_
            refine r_icmp_gt (tgt := 202) hx hb ⟨(by omega), (by omega)⟩ ⟨(by omega), (by omega)⟩ dX12_tellRow_162 (by decide) (fun c_113 => ?_) (fun c_113 => ?_)
            · refine lv_iload_n hx hb dX12_tellRow_202 rfl (lv_at hl 5 rfl) ?_
              refine lv_iconst (v := iv (-1)) hx hb dX12_tellRow_203 (by decide) ?_
              refine r_icmp_eq (tgt := 217) hx hb ⟨(by omega), (by omega)⟩ ⟨(by omega), (by omega)⟩ dX12_tellRow_204 (by decide) (fun c_114 => ?_) (fun c_114 => ?_)
              · have q_115 : (-2147483648) ≤ S158.1 231 20 ∧ S158.1 231 20 ≤ 2147483647 := hI158.fi 20
                have q_116 : (-2147483648) ≤ S158.1 231 25 ∧ S158.1 231 25 ≤ 2147483647 := hI158.fi 25
                have q_117 : (-2147483648) ≤ S158.1 231 24 ∧ S158.1 231 24 ≤ 2147483647 := hI158.fi 24
                have q_118 : (-2147483648) ≤ S158.1 231 36 ∧ S158.1 231 36 ≤ 2147483647 := hI158.fi 36
                exact sVret Cx hr hlk hW hL ⟨hI158, hFm158, hGm158, ⟨hB158, (fun h => by have e6 := (show S158.1 231 25 = S158.1 231 25 from rfl); have e7 := (show S158.1 231 24 = S158.1 231 24 from rfl); have e8 := (show S158.1 231 20 = S158.1 231 20 from rfl); have e3 := (show S158.1 231 36 = S158.1 231 36 from rfl); have b158 := hN158 (by omega); have c158 := b158.2.2.2.2 (by omega); exact ⟨NX.cg (S := u_4) (u := S158) (hnu hf1) (by rw [a1.2.2.1]; exact hR158) (by omega) ((gL158_ 32 rfl).trans ((uF_ne (fun h => absurd h.2 (by decide))).trans ((gL100_ 32 rfl).trans (uF_ne (fun h => absurd h.2 (by decide)))))) ((gL158_ 35 rfl).trans ((uF_ne (fun h => absurd h.2 (by decide))).trans ((gL100_ 35 rfl).trans (uF_ne (fun h => absurd h.2 (by decide)))))) (funext fun j => ((hL158_ 253 rfl).2.1 j).trans ((uF_a).trans (((hL100_ 253 rfl).2.1 j).trans (uF_a)))), by omega, by omega, by omega, by omega⟩)⟩⟩ dX12_tellRow_217
              · refine lv_aload_n hx hb dX12_tellRow_207 rfl (lv_at hl 8 rfl) ?_
                refine lv_dup hx hb dX12_tellRow_208 rfl ?_
                have q_119 : (-2147483648) ≤ S158.1 231 25 ∧ S158.1 231 25 ≤ 2147483647 := hI158.fi 25
                refine g_X12_358 Cx hW (k := 231) (by decide) rfl (v := S158.1 231 25) rfl dX12_tellRow_209 ?_
                refine lv_iconst (v := iv 1) hx hb dX12_tellRow_212 (by decide) ?_
                refine r_isub hx hb dX12_tellRow_213 ?_
                refine p_X12_358 Cx hW hL (k := 231) (by decide) rfl dX12_tellRow_214 (fun H locs hW hL => ?_)
                have F_120 : Fr S (uF S158 231 25 ((S158.1 231 25) - 1)) (pl [231, 248, 249, 250, 251, 252, 255, 257, 258]) := hFm158.F rfl
                have F_121 : Fr ((uF S100 231 24 ((S100.1 231 24) + 1))) (uF S158 231 25 ((S158.1 231 25) - 1)) (pl [231, 248, 249, 250, 251, 252, 255, 257, 258]) := hL158_.F rfl
                have g_122 : FF S (uF S158 231 25 ((S158.1 231 25) - 1)) (fl [20, 21, 24, 25, 36, 42, 43]) := FF.F hGm158 rfl
                have g_123 : FF ((uF S100 231 24 ((S100.1 231 24) + 1))) (uF S158 231 25 ((S158.1 231 25) - 1)) (fl [20, 21, 24, 25, 36, 42, 43]) := FF.F gL158_ rfl
                have i_124 : dX G (uF S158 231 25 ((S158.1 231 25) - 1)) := hI158.F (i := 25) (show (-2147483648) ≤ (S158.1 231 25) - 1 ∧ (S158.1 231 25) - 1 ≤ 2147483647 from ⟨by omega, by omega⟩)
                have q_125 : (-2147483648) ≤ S158.1 231 20 ∧ S158.1 231 20 ≤ 2147483647 := hI158.fi 20
                have lk_126 : (uF S158 231 25 ((S158.1 231 25) - 1)).1 231 20 = S158.1 231 20 := uF_ne (fun h => absurd h.2 (by decide))
                have lk_127 : (uF S158 231 25 ((S158.1 231 25) - 1)).1 231 25 = (S158.1 231 25) - 1 := uF_on
                have q_128 : (-2147483648) ≤ S158.1 231 24 ∧ S158.1 231 24 ≤ 2147483647 := hI158.fi 24
                have lk_129 : (uF S158 231 25 ((S158.1 231 25) - 1)).1 231 24 = S158.1 231 24 := uF_ne (fun h => absurd h.2 (by decide))
                have q_130 : (-2147483648) ≤ S158.1 231 36 ∧ S158.1 231 36 ≤ 2147483647 := hI158.fi 36
                have lk_131 : (uF S158 231 25 ((S158.1 231 25) - 1)).1 231 36 = S158.1 231 36 := uF_ne (fun h => absurd h.2 (by decide))
                exact sVret Cx hr hlk hW hL ⟨i_124, F_120, g_122, ⟨(fun x => by rw [show (uF S158 231 25 ((S158.1 231 25) - 1)).2.2.1 255 x = S158.2.2.1 255 x from uF_l]; exact hB158 x), (fun h => by have e6 := (show (uF S158 231 25 ((S158.1 231 25) - 1)).1 231 25 = (S158.1 231 25) - 1 from uF_on); have e7 := (show (uF S158 231 25 ((S158.1 231 25) - 1)).1 231 24 = S158.1 231 24 from uF_ne (fun h => absurd h.2 (by decide))); have e8 := (show (uF S158 231 25 ((S158.1 231 25) - 1)).1 231 20 = S158.1 231 20 from uF_ne (fun h => absurd h.2 (by decide))); have e3 := (show (uF S158 231 25 ((S158.1 231 25) - 1)).1 231 36 = S158.1 231 36 from uF_ne (fun h => absurd h.2 (by decide))); have b158 := hN158 (by omega); have c158 := b158.2.2.2.2 (by omega); exact ⟨NX.cg (S := u_4) (u := (uF S158 231 25 ((S158.1 231 25) - 1))) (hnu hf1) (by rw [a1.2.2.1]; exact (NR.trans hR158 (NR.eq (S := S158) (u := (uF S158 231 25 ((S158.1 231 25) - 1))) (funext fun j => uF_a) (funext fun j => uF_a) (funext fun j => uF_a) (funext fun j => uF_a) (funext fun j => uF_a)))) (by omega) ((uF_ne (fun h => absurd h.2 (by decide))).trans ((gL158_ 32 rfl).trans ((uF_ne (fun h => absurd h.2 (by decide))).trans ((gL100_ 32 rfl).trans (uF_ne (fun h => absurd h.2 (by decide))))))) ((uF_ne (fun h => absurd h.2 (by decide))).trans ((gL158_ 35 rfl).trans ((uF_ne (fun h => absurd h.2 (by decide))).trans ((gL100_ 35 rfl).trans (uF_ne (fun h => absurd h.2 (by decide))))))) (funext fun j => (uF_a).trans (((hL158_ 253 rfl).2.1 j).trans ((uF_a).trans (((hL100_ 253 rfl).2.1 j).trans (uF_a))))), by omega, by omega, by omega, by omega⟩)⟩⟩ dX12_tellRow_217
            · refine lv_aload_n hx hb dX12_tellRow_165 rfl (lv_at hl 8 rfl) ?_
              have q_132 : (-2147483648) ≤ S158.1 231 20 ∧ S158.1 231 20 ≤ 2147483647 := hI158.fi 20
              refine g_X12_270 Cx hW (k := 231) (by decide) rfl (v := S158.1 231 20) rfl dX12_tellRow_166 ?_
              refine r_if_ne (tgt := 202) hx hb ⟨(by omega), (by omega)⟩ dX12_tellRow_169 (by decide) (fun c_133 => ?_) (fun c_133 => ?_)
              · refine lv_iload_n hx hb dX12_tellRow_202 rfl (lv_at hl 5 rfl) ?_
                refine lv_iconst (v := iv (-1)) hx hb dX12_tellRow_203 (by decide) ?_
                refine r_icmp_eq (tgt := 217) hx hb ⟨(by omega), (by omega)⟩ ⟨(by omega), (by omega)⟩ dX12_tellRow_204 (by decide) (fun c_134 => ?_) (fun c_134 => ?_)
                · have q_135 : (-2147483648) ≤ S158.1 231 25 ∧ S158.1 231 25 ≤ 2147483647 := hI158.fi 25
                  have q_136 : (-2147483648) ≤ S158.1 231 24 ∧ S158.1 231 24 ≤ 2147483647 := hI158.fi 24
                  have q_137 : (-2147483648) ≤ S158.1 231 36 ∧ S158.1 231 36 ≤ 2147483647 := hI158.fi 36
                  exact sVret Cx hr hlk hW hL ⟨hI158, hFm158, hGm158, ⟨hB158, (fun h => absurd h (by have e9 := (show S158.1 231 20 = S158.1 231 20 from rfl); omega))⟩⟩ dX12_tellRow_217
                · refine lv_aload_n hx hb dX12_tellRow_207 rfl (lv_at hl 8 rfl) ?_
                  refine lv_dup hx hb dX12_tellRow_208 rfl ?_
                  have q_138 : (-2147483648) ≤ S158.1 231 25 ∧ S158.1 231 25 ≤ 2147483647 := hI158.fi 25
                  refine g_X12_358 Cx hW (k := 231) (by decide) rfl (v := S158.1 231 25) rfl dX12_tellRow_209 ?_
                  refine lv_iconst (v := iv 1) hx hb dX12_tellRow_212 (by decide) ?_
                  refine r_isub hx hb dX12_tellRow_213 ?_
                  refine p_X12_358 Cx hW hL (k := 231) (by decide) rfl dX12_tellRow_214 (fun H locs hW hL => ?_)
                  have F_139 : Fr S (uF S158 231 25 ((S158.1 231 25) - 1)) (pl [231, 248, 249, 250, 251, 252, 255, 257, 258]) := hFm158.F rfl
                  have F_140 : Fr ((uF S100 231 24 ((S100.1 231 24) + 1))) (uF S158 231 25 ((S158.1 231 25) - 1)) (pl [231, 248, 249, 250, 251, 252, 255, 257, 258]) := hL158_.F rfl
                  have g_141 : FF S (uF S158 231 25 ((S158.1 231 25) - 1)) (fl [20, 21, 24, 25, 36, 42, 43]) := FF.F hGm158 rfl
                  have g_142 : FF ((uF S100 231 24 ((S100.1 231 24) + 1))) (uF S158 231 25 ((S158.1 231 25) - 1)) (fl [20, 21, 24, 25, 36, 42, 43]) := FF.F gL158_ rfl
                  have i_143 : dX G (uF S158 231 25 ((S158.1 231 25) - 1)) := hI158.F (i := 25) (show (-2147483648) ≤ (S158.1 231 25) - 1 ∧ (S158.1 231 25) - 1 ≤ 2147483647 from ⟨by omega, by omega⟩)
                  have lk_144 : (uF S158 231 25 ((S158.1 231 25) - 1)).1 231 20 = S158.1 231 20 := uF_ne (fun h => absurd h.2 (by decide))
                  have lk_145 : (uF S158 231 25 ((S158.1 231 25) - 1)).1 231 25 = (S158.1 231 25) - 1 := uF_on
                  have q_146 : (-2147483648) ≤ S158.1 231 24 ∧ S158.1 231 24 ≤ 2147483647 := hI158.fi 24
                  have lk_147 : (uF S158 231 25 ((S158.1 231 25) - 1)).1 231 24 = S158.1 231 24 := uF_ne (fun h => absurd h.2 (by decide))
                  have q_148 : (-2147483648) ≤ S158.1 231 36 ∧ S158.1 231 36 ≤ 2147483647 := hI158.fi 36
                  have lk_149 : (uF S158 231 25 ((S158.1 231 25) - 1)).1 231 36 = S158.1 231 36 := uF_ne (fun h => absurd h.2 (by decide))
                  exact sVret Cx hr hlk hW hL ⟨i_143, F_139, g_141, ⟨(fun x => by rw [show (uF S158 231 25 ((S158.1 231 25) - 1)).2.2.1 255 x = S158.2.2.1 255 x from uF_l]; exact hB158 x), (fun h => absurd h (by have e9 := (show (uF S158 231 25 ((S158.1 231 25) - 1)).1 231 20 = S158.1 231 20 from uF_ne (fun h => absurd h.2 (by decide))); omega))⟩⟩ dX12_tellRow_217
              · have b158 := hN158 (by omega)
                have hM158 : Hd (S158.1 231 20 = 0 → NX S158 T) := fun _ => b158.1
                refine lv_iload_n hx hb dX12_tellRow_172 rfl (lv_at hl 5 rfl) ?_
                refine lv_iconst (v := iv (-1)) hx hb dX12_tellRow_173 (by decide) ?_
                refine r_icmp_eq (tgt := 185) hx hb ⟨(by omega), (by omega)⟩ ⟨(by omega), (by omega)⟩ dX12_tellRow_174 (by decide) (fun c_150 => ?_) (fun c_150 => ?_)
                · refine lv_aload_n hx hb dX12_tellRow_185 rfl (lv_at hl 8 rfl) ?_
                  refine lv_iload hx hb dX12_tellRow_186 (lv_at hl 3 rfl) ?_
                  refine p_X12_315 Cx hW hL (k := 231) (by decide) rfl dX12_tellRow_188 (fun H locs hW hL => ?_)
                  have F_151 : Fr S (uF S158 231 24 ((S100.1 231 24) + 1)) (pl [231, 248, 249, 250, 251, 252, 255, 257, 258]) := hFm158.F rfl
                  have F_152 : Fr ((uF S100 231 24 ((S100.1 231 24) + 1))) (uF S158 231 24 ((S100.1 231 24) + 1)) (pl [231, 248, 249, 250, 251, 252, 255, 257, 258]) := hL158_.F rfl
                  have g_153 : FF S (uF S158 231 24 ((S100.1 231 24) + 1)) (fl [20, 21, 24, 25, 36, 42, 43]) := FF.F hGm158 rfl
                  have g_154 : FF ((uF S100 231 24 ((S100.1 231 24) + 1))) (uF S158 231 24 ((S100.1 231 24) + 1)) (fl [20, 21, 24, 25, 36, 42, 43]) := FF.F gL158_ rfl
                  have i_155 : dX G (uF S158 231 24 ((S100.1 231 24) + 1)) := hI158.F (i := 24) (show (-2147483648) ≤ (S100.1 231 24) + 1 ∧ (S100.1 231 24) + 1 ≤ 2147483647 from ⟨by omega, by omega⟩)
                  refine lv_aload_n hx hb dX12_tellRow_191 rfl (lv_at hl 8 rfl) ?_
                  refine lv_iload_n hx hb dX12_tellRow_192 rfl (lv_at hl 7 rfl) ?_
                  have lk_156 : (uF S158 231 24 ((S100.1 231 24) + 1)).1 231 20 = S158.1 231 20 := uF_ne (fun h => absurd h.2 (by decide))
                  have q_157 : (-2147483648) ≤ S158.1 231 25 ∧ S158.1 231 25 ≤ 2147483647 := hI158.fi 25
                  have lk_158 : (uF S158 231 24 ((S100.1 231 24) + 1)).1 231 25 = S158.1 231 25 := uF_ne (fun h => absurd h.2 (by decide))
                  have lk_159 : (uF S158 231 24 ((S100.1 231 24) + 1)).1 231 24 = (S100.1 231 24) + 1 := uF_on
                  have q_160 : (-2147483648) ≤ S158.1 231 36 ∧ S158.1 231 36 ≤ 2147483647 := hI158.fi 36
                  have lk_161 : (uF S158 231 24 ((S100.1 231 24) + 1)).1 231 36 = S158.1 231 36 := uF_ne (fun h => absurd h.2 (by decide))
                  refine sBv (sV (As := [.int (iv ((S.1 231 24) + 1))]) (rest := []) (k := 231) Cx (s_X12_oneRow l G (uF S158 231 24 ((S100.1 231 24) + 1)) (tk := (S.1 231 24) + 1) (K := K) (V := V) (Fm := Fm) (Wd := Wd) (T := T) (pz := b + 1) (q := q) i_155 ((funext fun j => (uF_a).trans (((hL158_ 244 rfl).2.1 j).trans ((uF_a).trans (((hL100_ 244 rfl).2.1 j).trans ((uF_a).trans ((fu_4 244 rfl).2.1 j))))) : (uF S158 231 24 ((S100.1 231 24) + 1)).2.1 244 = S.2.1 244).trans hK) ((funext fun j => (uF_a).trans (((hL158_ 247 rfl).2.1 j).trans ((uF_a).trans (((hL100_ 247 rfl).2.1 j).trans ((uF_a).trans ((fu_4 247 rfl).2.1 j))))) : (uF S158 231 24 ((S100.1 231 24) + 1)).2.1 247 = S.2.1 247).trans hV) ((funext fun j => (uF_a).trans (((hL158_ 245 rfl).2.1 j).trans ((uF_a).trans (((hL100_ 245 rfl).2.1 j).trans ((uF_a).trans ((fu_4 245 rfl).2.1 j))))) : (uF S158 231 24 ((S100.1 231 24) + 1)).2.1 245 = S.2.1 245).trans hFm) ((funext fun j => (uF_a).trans (((hL158_ 246 rfl).2.1 j).trans ((uF_a).trans (((hL100_ 246 rfl).2.1 j).trans ((uF_a).trans ((fu_4 246 rfl).2.1 j))))) : (uF S158 231 24 ((S100.1 231 24) + 1)).2.1 246 = S.2.1 246).trans hWd) hQ (by omega) (fun h => (NX.cg (S := S158) (u := (uF S158 231 24 ((S100.1 231 24) + 1))) (hM158 (by have e9 := (show (uF S158 231 24 ((S100.1 231 24) + 1)).1 231 20 = S158.1 231 20 from uF_ne (fun h => absurd h.2 (by decide))); omega)) (NR.eq (funext fun j => uF_a) (funext fun j => uF_a) (funext fun j => uF_a) (funext fun j => uF_a) (funext fun j => uF_a)) (uF_ne (fun h => absurd h.2 (by decide))) (uF_ne (fun h => absurd h.2 (by decide))) (uF_ne (fun h => absurd h.2 (by decide))) (funext fun j => uF_a))) (by omega) (by omega) ⟨d, hd, hsg, ed, hed, hs2⟩ (by omega) (by omega) (by omega) (fun x => by rw [show (uF S158 231 24 ((S100.1 231 24) + 1)).2.2.1 255 x = S158.2.2.1 255 x from uF_l]; exact hB158 x)) (c_X12_413 Cx rfl rfl (rmk_ok (by omega) (by decide))) hW (by decide) rfl rfl rfl hl.1 rfl (Nat.le_of_ble_eq_true rfl) dX12_tellRow_193 ⟨Nat.le_of_ble_eq_true rfl, Nat.le_of_ble_eq_true rfl⟩) hL (fun u_162 H locs k_163 hW hL => ?_)
                  obtain ⟨iu_162, fu_162, gu_162, xu_162⟩ := k_163
                  have F_164 := F_151.trans fu_162
                  have F_165 := F_152.trans fu_162
                  have g_166 : FF S u_162 (fl [20, 21, 24, 25, 36, 42, 43]) := FF.trans g_153 (FF.to gu_162 (fl_sub (by decide)))
                  have g_167 : FF ((uF S100 231 24 ((S100.1 231 24) + 1))) u_162 (fl [20, 21, 24, 25, 36, 42, 43]) := FF.trans g_154 (FF.to gu_162 (fl_sub (by decide)))
                  refine lv_iinc (v := iv (va + 1)) (lv' := [(8, .int (iv (va + 1))), (7, .int (iv 0)), (6, .int (iv 0)), (5, .int (iv ((S100.1 231 24) + 1))), (4, .int (iv sn)), (3, .int (iv vn)), (2, .int (iv r_6)), (1, .int (iv ((S.1 231 24) + 1))), (0, .ref (G.2.2.1 + 231))]) hx hb dX12_tellRow_196 hl (k := 0) rfl ((Int32.ofInt_add _ _).symm) (by decide) rfl (fun ls hl => ?_)
                  refine lv_goto (tgt := 158) hx hb dX12_tellRow_199 (by decide) ?_
                  have q_168 : (-2147483648) ≤ u_162.1 231 25 ∧ u_162.1 231 25 ≤ 2147483647 := iu_162.fi 25
                  have q_169 : (-2147483648) ≤ u_162.1 231 20 ∧ u_162.1 231 20 ≤ 2147483647 := iu_162.fi 20
                  have q_170 : (-2147483648) ≤ u_162.1 231 36 ∧ u_162.1 231 36 ≤ 2147483647 := iu_162.fi 36
                  have q_171 : (-2147483648) ≤ u_162.1 231 24 ∧ u_162.1 231 24 ≤ 2147483647 := iu_162.fi 24
                  exact ih_158 u_162 (va + 1) _ _ _ (by omega) iu_162 F_164 F_165 g_166 g_167 (by omega) (NR.trans (NR.trans hR158 (show NR S158 (uF S158 231 24 ((S100.1 231 24) + 1)) (S.1 231 25 + 1) from fun j j0 j1 => ⟨uF_a, uF_a, uF_a, uF_a, uF_a⟩)) (NR.mono xu_162.1 (by have y25 := (show (uF S158 231 24 ((S100.1 231 24) + 1)).1 231 25 = S158.1 231 25 from uF_ne (fun h => absurd h.2 (by decide))); omega))) (by omega) xu_162.2.2.1 (fun h => by have a9 := xu_162.2.2.2 h; have y25 := (show (uF S158 231 24 ((S100.1 231 24) + 1)).1 231 25 = S158.1 231 25 from uF_ne (fun h => absurd h.2 (by decide))); exact ⟨a9.1, (by omega), (fun z => by have y9 := (xu_162.1 vn (by omega) (by omega)).2.1; rw [y9, show (uF S158 231 24 ((S100.1 231 24) + 1)).2.1 249 vn = S158.2.1 249 vn from uF_a]; exact b158.2.2.1 z), (by omega), (fun _ => a9.2.2.1)⟩) hW hL (lv_sub hl [0, 1, 2, 3, 4, 5, 6, 7, 8] rfl)
                · refine lv_aload_n hx hb dX12_tellRow_177 rfl (lv_at hl 8 rfl) ?_
                  refine g_X12_71 Cx hW (k := 231) (by decide) rfl (v := .ref (G.2.2.1 + 252)) (rd_30 hI158) dX12_tellRow_178 ?_
                  refine lv_iload_n hx hb dX12_tellRow_181 rfl (lv_at hl 5 rfl) ?_
                  refine lv_iload hx hb dX12_tellRow_182 (lv_at hl 0 rfl) ?_
                  refine rIast Cx hW hL (k := 252) (by decide) rfl (by decide) (by omega) (by omega) dX12_tellRow_184 (fun H locs hW hL => ?_)
                  have F_172 : Fr S (uA S158 252 vn va) (pl [231, 248, 249, 250, 251, 252, 255, 257, 258]) := hFm158.A rfl
                  have F_173 : Fr ((uF S100 231 24 ((S100.1 231 24) + 1))) (uA S158 252 vn va) (pl [231, 248, 249, 250, 251, 252, 255, 257, 258]) := hL158_.A rfl
                  have i_174 : dX G (uA S158 252 vn va) := hI158.A (k := 252) (show (-2147483648) ≤ va ∧ va ≤ 2147483647 from ⟨by omega, by omega⟩)
                  have hnv : Hd ((uA S158 252 vn va).1 231 20 = 0 → NX (uA S158 252 vn va) T) := fun _ => NX.put5 (S := S158) (j := vn) (v := va) b158.1 (b158.2.2.1 (by omega)) (by omega) rfl rfl rfl rfl (fun x => by rw [uA_get]; by_cases z : x = vn; (rw [if_pos ⟨rfl, z⟩, if_pos z]); rw [if_neg (fun h => z h.2), if_neg z]) rfl rfl rfl rfl
                  refine lv_aload_n hx hb dX12_tellRow_185 rfl (lv_at hl 8 rfl) ?_
                  refine lv_iload hx hb dX12_tellRow_186 (lv_at hl 3 rfl) ?_
                  refine p_X12_315 Cx hW hL (k := 231) (by decide) rfl dX12_tellRow_188 (fun H locs hW hL => ?_)
                  have F_175 : Fr S (uF (uA S158 252 vn va) 231 24 ((S100.1 231 24) + 1)) (pl [231, 248, 249, 250, 251, 252, 255, 257, 258]) := F_172.F rfl
                  have F_176 : Fr ((uF S100 231 24 ((S100.1 231 24) + 1))) (uF (uA S158 252 vn va) 231 24 ((S100.1 231 24) + 1)) (pl [231, 248, 249, 250, 251, 252, 255, 257, 258]) := F_173.F rfl
                  have g_177 : FF S (uF (uA S158 252 vn va) 231 24 ((S100.1 231 24) + 1)) (fl [20, 21, 24, 25, 36, 42, 43]) := FF.F hGm158 rfl
                  have g_178 : FF ((uF S100 231 24 ((S100.1 231 24) + 1))) (uF (uA S158 252 vn va) 231 24 ((S100.1 231 24) + 1)) (fl [20, 21, 24, 25, 36, 42, 43]) := FF.F gL158_ rfl
                  have i_179 : dX G (uF (uA S158 252 vn va) 231 24 ((S100.1 231 24) + 1)) := i_174.F (i := 24) (show (-2147483648) ≤ (S100.1 231 24) + 1 ∧ (S100.1 231 24) + 1 ≤ 2147483647 from ⟨by omega, by omega⟩)
                  refine lv_aload_n hx hb dX12_tellRow_191 rfl (lv_at hl 8 rfl) ?_
                  refine lv_iload_n hx hb dX12_tellRow_192 rfl (lv_at hl 7 rfl) ?_
                  have lk_180 : (uF (uA S158 252 vn va) 231 24 ((S100.1 231 24) + 1)).1 231 20 = S158.1 231 20 := (uF_ne (fun h => absurd h.2 (by decide))).trans (uA_f)
                  have q_181 : (-2147483648) ≤ S158.1 231 25 ∧ S158.1 231 25 ≤ 2147483647 := hI158.fi 25
                  have lk_182 : (uF (uA S158 252 vn va) 231 24 ((S100.1 231 24) + 1)).1 231 25 = S158.1 231 25 := (uF_ne (fun h => absurd h.2 (by decide))).trans (uA_f)
                  have lk_183 : (uF (uA S158 252 vn va) 231 24 ((S100.1 231 24) + 1)).1 231 24 = (S100.1 231 24) + 1 := uF_on
                  have q_184 : (-2147483648) ≤ S158.1 231 36 ∧ S158.1 231 36 ≤ 2147483647 := hI158.fi 36
                  have lk_185 : (uF (uA S158 252 vn va) 231 24 ((S100.1 231 24) + 1)).1 231 36 = S158.1 231 36 := (uF_ne (fun h => absurd h.2 (by decide))).trans (uA_f)
                  refine sBv (sV (As := [.int (iv ((S.1 231 24) + 1))]) (rest := []) (k := 231) Cx (s_X12_oneRow l G (uF (uA S158 252 vn va) 231 24 ((S100.1 231 24) + 1)) (tk := (S.1 231 24) + 1) (K := K) (V := V) (Fm := Fm) (Wd := Wd) (T := T) (pz := b + 1) (q := q) i_179 ((funext fun j => (uF_a).trans ((uA_ne (fun h => absurd h.1 (by decide))).trans (((hL158_ 244 rfl).2.1 j).trans ((uF_a).trans (((hL100_ 244 rfl).2.1 j).trans ((uF_a).trans ((fu_4 244 rfl).2.1 j)))))) : (uF (uA S158 252 vn va) 231 24 ((S100.1 231 24) + 1)).2.1 244 = S.2.1 244).trans hK) ((funext fun j => (uF_a).trans ((uA_ne (fun h => absurd h.1 (by decide))).trans (((hL158_ 247 rfl).2.1 j).trans ((uF_a).trans (((hL100_ 247 rfl).2.1 j).trans ((uF_a).trans ((fu_4 247 rfl).2.1 j)))))) : (uF (uA S158 252 vn va) 231 24 ((S100.1 231 24) + 1)).2.1 247 = S.2.1 247).trans hV) ((funext fun j => (uF_a).trans ((uA_ne (fun h => absurd h.1 (by decide))).trans (((hL158_ 245 rfl).2.1 j).trans ((uF_a).trans (((hL100_ 245 rfl).2.1 j).trans ((uF_a).trans ((fu_4 245 rfl).2.1 j)))))) : (uF (uA S158 252 vn va) 231 24 ((S100.1 231 24) + 1)).2.1 245 = S.2.1 245).trans hFm) ((funext fun j => (uF_a).trans ((uA_ne (fun h => absurd h.1 (by decide))).trans (((hL158_ 246 rfl).2.1 j).trans ((uF_a).trans (((hL100_ 246 rfl).2.1 j).trans ((uF_a).trans ((fu_4 246 rfl).2.1 j)))))) : (uF (uA S158 252 vn va) 231 24 ((S100.1 231 24) + 1)).2.1 246 = S.2.1 246).trans hWd) hQ (by omega) (fun h => (NX.cg (S := (uA S158 252 vn va)) (u := (uF (uA S158 252 vn va) 231 24 ((S100.1 231 24) + 1))) (hnv (by have e9 := (show (uF (uA S158 252 vn va) 231 24 ((S100.1 231 24) + 1)).1 231 20 = (uA S158 252 vn va).1 231 20 from uF_ne (fun h => absurd h.2 (by decide))); omega)) (NR.eq (funext fun j => uF_a) (funext fun j => uF_a) (funext fun j => uF_a) (funext fun j => uF_a) (funext fun j => uF_a)) (uF_ne (fun h => absurd h.2 (by decide))) (uF_ne (fun h => absurd h.2 (by decide))) (uF_ne (fun h => absurd h.2 (by decide))) (funext fun j => uF_a))) (by omega) (by omega) ⟨d, hd, hsg, ed, hed, hs2⟩ (by omega) (by omega) (by omega) (fun x => by rw [show (uF (uA S158 252 vn va) 231 24 ((S100.1 231 24) + 1)).2.2.1 255 x = S158.2.2.1 255 x from (uF_l).trans (uA_l)]; exact hB158 x)) (c_X12_413 Cx rfl rfl (rmk_ok (by omega) (by decide))) hW (by decide) rfl rfl rfl hl.1 rfl (Nat.le_of_ble_eq_true rfl) dX12_tellRow_193 ⟨Nat.le_of_ble_eq_true rfl, Nat.le_of_ble_eq_true rfl⟩) hL (fun u_186 H locs k_187 hW hL => ?_)
                  obtain ⟨iu_186, fu_186, gu_186, xu_186⟩ := k_187
                  have F_188 := F_175.trans fu_186
                  have F_189 := F_176.trans fu_186
                  have g_190 : FF S u_186 (fl [20, 21, 24, 25, 36, 42, 43]) := FF.trans g_177 (FF.to gu_186 (fl_sub (by decide)))
                  have g_191 : FF ((uF S100 231 24 ((S100.1 231 24) + 1))) u_186 (fl [20, 21, 24, 25, 36, 42, 43]) := FF.trans g_178 (FF.to gu_186 (fl_sub (by decide)))
                  refine lv_iinc (v := iv (va + 1)) (lv' := [(8, .int (iv (va + 1))), (7, .int (iv 0)), (6, .int (iv 0)), (5, .int (iv ((S100.1 231 24) + 1))), (4, .int (iv sn)), (3, .int (iv vn)), (2, .int (iv r_6)), (1, .int (iv ((S.1 231 24) + 1))), (0, .ref (G.2.2.1 + 231))]) hx hb dX12_tellRow_196 hl (k := 0) rfl ((Int32.ofInt_add _ _).symm) (by decide) rfl (fun ls hl => ?_)
                  refine lv_goto (tgt := 158) hx hb dX12_tellRow_199 (by decide) ?_
                  have q_192 : (-2147483648) ≤ u_186.1 231 25 ∧ u_186.1 231 25 ≤ 2147483647 := iu_186.fi 25
                  have q_193 : (-2147483648) ≤ u_186.1 231 20 ∧ u_186.1 231 20 ≤ 2147483647 := iu_186.fi 20
                  have q_194 : (-2147483648) ≤ u_186.1 231 36 ∧ u_186.1 231 36 ≤ 2147483647 := iu_186.fi 36
                  have q_195 : (-2147483648) ≤ u_186.1 231 24 ∧ u_186.1 231 24 ≤ 2147483647 := iu_186.fi 24
                  exact ih_158 u_186 (va + 1) _ _ _ (by omega) iu_186 F_188 F_189 g_190 g_191 (by omega) (NR.trans (NR.trans hR158 (show NR S158 (uF (uA S158 252 vn va) 231 24 ((S100.1 231 24) + 1)) (S.1 231 25 + 1) from fun j j0 j1 => ⟨(uF_a).trans (uA_ne (fun h => absurd h.1 (by decide))), (uF_a).trans (uA_ne (fun h => absurd h.1 (by decide))), (uF_a).trans (uA_ne (fun h => absurd h.1 (by decide))), (uF_a).trans (uA_ne (fun h => absurd h.1 (by decide))), (uF_a).trans (uA_ne (fun h => (fun y => absurd y (by omega)) h.2))⟩)) (NR.mono xu_186.1 (by have y25 := (show (uF (uA S158 252 vn va) 231 24 ((S100.1 231 24) + 1)).1 231 25 = S158.1 231 25 from (uF_ne (fun h => absurd h.2 (by decide))).trans (uA_f)); omega))) (by omega) xu_186.2.2.1 (fun h => by have a9 := xu_186.2.2.2 h; have y25 := (show (uF (uA S158 252 vn va) 231 24 ((S100.1 231 24) + 1)).1 231 25 = S158.1 231 25 from (uF_ne (fun h => absurd h.2 (by decide))).trans (uA_f)); exact ⟨a9.1, (by omega), (fun z => by have y9 := (xu_186.1 vn (by omega) (by omega)).2.1; rw [y9, show (uF (uA S158 252 vn va) 231 24 ((S100.1 231 24) + 1)).2.1 249 vn = S158.2.1 249 vn from (uF_a).trans (uA_ne (fun h => absurd h.1 (by decide)))]; exact b158.2.2.1 z), (by omega), (fun _ => a9.2.2.1)⟩) hW hL (lv_sub hl [0, 1, 2, 3, 4, 5, 6, 7, 8] rfl)
        have q_196 : (-2147483648) ≤ S100.1 231 25 ∧ S100.1 231 25 ≤ 2147483647 := hI100.fi 25
        have lk_197 : (uF S100 231 24 ((S100.1 231 24) + 1)).1 231 25 = S100.1 231 25 := uF_ne (fun h => absurd h.2 (by decide))
        have q_198 : (-2147483648) ≤ S100.1 231 20 ∧ S100.1 231 20 ≤ 2147483647 := hI100.fi 20
        have lk_199 : (uF S100 231 24 ((S100.1 231 24) + 1)).1 231 20 = S100.1 231 20 := uF_ne (fun h => absurd h.2 (by decide))
        have q_200 : (-2147483648) ≤ S.1 231 36 ∧ S.1 231 36 ≤ 2147483647 := hI.fi 36
        have lk_201 : (uF S100 231 24 ((S100.1 231 24) + 1)).1 231 36 = S.1 231 36 := (uF_ne (fun h => absurd h.2 (by decide))).trans ((gL100_ 36 rfl).trans ((uF_ne (fun h => absurd h.2 (by decide))).trans (gu_4 36 rfl)))
        have lk_202 : (uF S100 231 24 ((S100.1 231 24) + 1)).1 231 24 = (S100.1 231 24) + 1 := uF_on
        exact loop_158 (_ + 1) (uF S100 231 24 ((S100.1 231 24) + 1)) 0 _ _ _ (Nat.lt_succ_self _) i_19 F_15 Fr.rf g_17 FF.rf (by omega) (NR.trans hR100 (NR.eq (S := S100) (u := (uF S100 231 24 ((S100.1 231 24) + 1))) (funext fun j => uF_a) (funext fun j => uF_a) (funext fun j => uF_a) (funext fun j => uF_a) (funext fun j => uF_a))) (by omega) (fun x => by rw [show (uF S100 231 24 ((S100.1 231 24) + 1)).2.2.1 255 x = S.2.2.1 255 x from (uF_l).trans (((hL100_ 255 rfl).2.2.1 x).trans ((uF_l).trans ((fu_4 255 rfl).2.2.1 x)))]; exact hRB x) (fun _ => ⟨(NX.cg (S := S100) (u := (uF S100 231 24 ((S100.1 231 24) + 1))) (hj3 hj2.1) (NR.eq (funext fun j => uF_a) (funext fun j => uF_a) (funext fun j => uF_a) (funext fun j => uF_a) (funext fun j => uF_a)) (uF_ne (fun h => absurd h.2 (by decide))) (uF_ne (fun h => absurd h.2 (by decide))) (uF_ne (fun h => absurd h.2 (by decide))) (funext fun j => uF_a)), (show (uF S100 231 24 ((S100.1 231 24) + 1)).1 231 25 = S100.1 231 25 from uF_ne (fun h => absurd h.2 (by decide))), (fun z => by rw [show (uF S100 231 24 ((S100.1 231 24) + 1)).2.1 249 vn = S100.2.1 249 vn from uF_a]; exact hj4 z), (by have e3 := (show (uF S100 231 24 ((S100.1 231 24) + 1)).1 231 36 = S.1 231 36 from (uF_ne (fun h => absurd h.2 (by decide))).trans ((gL100_ 36 rfl).trans ((uF_ne (fun h => absurd h.2 (by decide))).trans (gu_4 36 rfl)))); omega), (fun z => absurd z (by omega))⟩) hW hL (lv_sub hl [0, 1, 2, 3, 4, 5, 6, 7, 8] rfl)
    refine lv_aload_n hx hb dX12_tellRow_37 rfl (lv_at hl 4 rfl) ?_
    refine lv_bipush (v := iv 91) hx hb dX12_tellRow_38 (by decide) ?_
    have lk_203 : (uF u_4 231 24 ((S.1 231 24) + 2)).1 231 24 = (S.1 231 24) + 2 := uF_on
    refine sBi (sV (As := [.int (iv 91)]) (rest := []) (k := 231) Cx (s_X12_isSign l G (uF u_4 231 24 ((S.1 231 24) + 2)) (sv := 91) (K := K) (V := V) (pz := (pz) + 2) i_13 (by omega) ((funext fun j => (uF_a).trans ((fu_4 244 rfl).2.1 j) : (uF u_4 231 24 ((S.1 231 24) + 2)).2.1 244 = S.2.1 244).trans hK) ((funext fun j => (uF_a).trans ((fu_4 247 rfl).2.1 j) : (uF u_4 231 24 ((S.1 231 24) + 2)).2.1 247 = S.2.1 247).trans hV) (by omega) (by omega)) (c_X12_318 Cx rfl rfl (rmk_ok (by omega) (by decide))) hW (by decide) rfl rfl rfl hl.1 rfl (Nat.le_of_ble_eq_true rfl) dX12_tellRow_40 ⟨Nat.le_of_ble_eq_true rfl, Nat.le_of_ble_eq_true rfl⟩) hL (fun r_206 u_204 H locs k_205 hW hL => ?_)
    obtain ⟨eu_204, xu_204⟩ := k_205
    rw [eu_204] at hW
    refine r_if_eq (tgt := 100) hx hb ⟨(by omega), (by omega)⟩ dX12_tellRow_43 (by decide) (fun c_207 => ?_) (fun c_207 => ?_)
    · have hb0 : b = pz + 2 := by rcases hri with h | h; (exact h.2); exact absurd h.1 (xu_204.2.2 (by omega))
      have q_208 : (-2147483648) ≤ u_4.1 231 25 ∧ u_4.1 231 25 ≤ 2147483647 := iu_4.fi 25
      have lk_209 : (uF u_4 231 24 ((S.1 231 24) + 2)).1 231 25 = u_4.1 231 25 := uF_ne (fun h => absurd h.2 (by decide))
      have lk_210 : (uF u_4 231 24 ((S.1 231 24) + 2)).1 231 20 = u_4.1 231 20 := uF_ne (fun h => absurd h.2 (by decide))
      exact join_100 (uF u_4 231 24 ((S.1 231 24) + 2)) ((-1)) ((-1)) _ _ _ i_13 F_11 (Fr.rf : Fr (uF u_4 231 24 ((S.1 231 24) + 2)) (uF u_4 231 24 ((S.1 231 24) + 2)) (pl [231, 248, 249, 250, 251, 252])) g_12 (FF.rf : FF ((uF u_4 231 24 ((S.1 231 24) + 2))) ((uF u_4 231 24 ((S.1 231 24) + 2))) (fl [20, 21, 24, 25])) (.inl ⟨rfl, rfl, (by have e6 := (show (uF u_4 231 24 ((S.1 231 24) + 2)).1 231 25 = u_4.1 231 25 from uF_ne (fun h => absurd h.2 (by decide))); omega)⟩) (by have e7 := (show (uF u_4 231 24 ((S.1 231 24) + 2)).1 231 24 = (S.1 231 24) + 2 from uF_on); have e8 := (show (uF u_4 231 24 ((S.1 231 24) + 2)).1 231 20 = u_4.1 231 20 from uF_ne (fun h => absurd h.2 (by decide))); have e5 := hb0; omega) (fun h => (NX.cg (S := u_4) (u := (uF u_4 231 24 ((S.1 231 24) + 2))) (hnu (by have e9 := (show (uF u_4 231 24 ((S.1 231 24) + 2)).1 231 20 = u_4.1 231 20 from uF_ne (fun h => absurd h.2 (by decide))); omega)) (NR.eq (funext fun j => uF_a) (funext fun j => uF_a) (funext fun j => uF_a) (funext fun j => uF_a) (funext fun j => uF_a)) (uF_ne (fun h => absurd h.2 (by decide))) (uF_ne (fun h => absurd h.2 (by decide))) (uF_ne (fun h => absurd h.2 (by decide))) (funext fun j => uF_a))) (fun z => absurd rfl z) (by have e5 := hb0; omega) (NR.eq (S := u_4) (u := (uF u_4 231 24 ((S.1 231 24) + 2))) (funext fun j => uF_a) (funext fun j => uF_a) (funext fun j => uF_a) (funext fun j => uF_a) (funext fun j => uF_a)) hW hL (lv_sub hl [0, 1, 2, 3, 4] rfl)
    · have hb1 : b = pz + 7 := by rcases hri with h | ⟨_, c1, h1, d1, h2, e1, h3, h4⟩; (exact absurd (xu_204.2.1 (by omega)) h.1); (have := h1.2; have := h2.2; have := h3.2; have := h4.2; omega)
      refine lv_aload_n hx hb dX12_tellRow_46 rfl (lv_at hl 4 rfl) ?_
      refine lv_dup hx hb dX12_tellRow_47 rfl ?_
      refine g_X12_315 Cx hW (k := 231) (by decide) rfl (v := (S.1 231 24) + 2) uF_on dX12_tellRow_48 ?_
      refine lv_iconst (v := iv 1) hx hb dX12_tellRow_51 (by decide) ?_
      refine r_iadd hx hb dX12_tellRow_52 ?_
      refine p_X12_315 Cx hW hL (k := 231) (by decide) rfl dX12_tellRow_53 (fun H locs hW hL => ?_)
      have F_211 : Fr S (uF (uF u_4 231 24 ((S.1 231 24) + 2)) 231 24 (((S.1 231 24) + 2) + 1)) (pl [231, 248, 249, 250, 251, 252, 255, 257, 258]) := F_11.F rfl
      have F_212 : Fr ((uF u_4 231 24 ((S.1 231 24) + 2))) (uF (uF u_4 231 24 ((S.1 231 24) + 2)) 231 24 (((S.1 231 24) + 2) + 1)) (pl [231, 248, 249, 250, 251, 252]) := (Fr.rf : Fr (uF u_4 231 24 ((S.1 231 24) + 2)) (uF u_4 231 24 ((S.1 231 24) + 2)) (pl [231, 248, 249, 250, 251, 252])).F rfl
      have g_213 : FF S (uF (uF u_4 231 24 ((S.1 231 24) + 2)) 231 24 (((S.1 231 24) + 2) + 1)) (fl [20, 21, 24, 25, 36, 42, 43]) := FF.F g_12 rfl
      have g_214 : FF ((uF u_4 231 24 ((S.1 231 24) + 2))) (uF (uF u_4 231 24 ((S.1 231 24) + 2)) 231 24 (((S.1 231 24) + 2) + 1)) (fl [20, 21, 24, 25]) := FF.F (FF.rf : FF ((uF u_4 231 24 ((S.1 231 24) + 2))) ((uF u_4 231 24 ((S.1 231 24) + 2))) (fl [20, 21, 24, 25])) rfl
      have i_215 : dX G (uF (uF u_4 231 24 ((S.1 231 24) + 2)) 231 24 (((S.1 231 24) + 2) + 1)) := i_13.F (i := 24) (show (-2147483648) ≤ ((S.1 231 24) + 2) + 1 ∧ ((S.1 231 24) + 2) + 1 ≤ 2147483647 from ⟨by omega, by omega⟩)
      refine lv_aload_n hx hb dX12_tellRow_56 rfl (lv_at hl 4 rfl) ?_
      refine lv_aload_n hx hb dX12_tellRow_57 rfl (lv_at hl 4 rfl) ?_
      refine g_X12_315 Cx hW (k := 231) (by decide) rfl (v := ((S.1 231 24) + 2) + 1) uF_on dX12_tellRow_58 ?_
      refine lv_iconst (v := iv 5) hx hb dX12_tellRow_61 (by decide) ?_
      have lk_216 : (uF (uF u_4 231 24 ((S.1 231 24) + 2)) 231 24 (((S.1 231 24) + 2) + 1)).1 231 20 = u_4.1 231 20 := (uF_ne (fun h => absurd h.2 (by decide))).trans (uF_ne (fun h => absurd h.2 (by decide)))
      have q_217 : (-2147483648) ≤ u_4.1 231 25 ∧ u_4.1 231 25 ≤ 2147483647 := iu_4.fi 25
      have lk_218 : (uF (uF u_4 231 24 ((S.1 231 24) + 2)) 231 24 (((S.1 231 24) + 2) + 1)).1 231 25 = u_4.1 231 25 := (uF_ne (fun h => absurd h.2 (by decide))).trans (uF_ne (fun h => absurd h.2 (by decide)))
      refine sBi (sV (As := [.int (iv (((S.1 231 24) + 2) + 1)), .int (iv 5)]) (rest := []) (k := 231) Cx (s_X12_add_ l G (uF (uF u_4 231 24 ((S.1 231 24) + 2)) 231 24 (((S.1 231 24) + 2) + 1)) (tk := ((S.1 231 24) + 2) + 1) (so := 5) (K := K) (V := V) (Fm := Fm) (Wd := Wd) (T := T) i_215 ((funext fun j => (uF_a).trans ((uF_a).trans ((fu_4 244 rfl).2.1 j)) : (uF (uF u_4 231 24 ((S.1 231 24) + 2)) 231 24 (((S.1 231 24) + 2) + 1)).2.1 244 = S.2.1 244).trans hK) ((funext fun j => (uF_a).trans ((uF_a).trans ((fu_4 247 rfl).2.1 j)) : (uF (uF u_4 231 24 ((S.1 231 24) + 2)) 231 24 (((S.1 231 24) + 2) + 1)).2.1 247 = S.2.1 247).trans hV) ((funext fun j => (uF_a).trans ((uF_a).trans ((fu_4 245 rfl).2.1 j)) : (uF (uF u_4 231 24 ((S.1 231 24) + 2)) 231 24 (((S.1 231 24) + 2) + 1)).2.1 245 = S.2.1 245).trans hFm) ((funext fun j => (uF_a).trans ((uF_a).trans ((fu_4 246 rfl).2.1 j)) : (uF (uF u_4 231 24 ((S.1 231 24) + 2)) 231 24 (((S.1 231 24) + 2) + 1)).2.1 246 = S.2.1 246).trans hWd) hQ (fun h => ((fun h => (NX.cg (S := u_4) (u := (uF (uF u_4 231 24 ((S.1 231 24) + 2)) 231 24 (((S.1 231 24) + 2) + 1))) (hnu (by have e9 := (show (uF (uF u_4 231 24 ((S.1 231 24) + 2)) 231 24 (((S.1 231 24) + 2) + 1)).1 231 20 = u_4.1 231 20 from (uF_ne (fun h => absurd h.2 (by decide))).trans (uF_ne (fun h => absurd h.2 (by decide)))); omega)) (NR.eq (funext fun j => (uF_a).trans (uF_a)) (funext fun j => (uF_a).trans (uF_a)) (funext fun j => (uF_a).trans (uF_a)) (funext fun j => (uF_a).trans (uF_a)) (funext fun j => (uF_a).trans (uF_a))) ((uF_ne (fun h => absurd h.2 (by decide))).trans (uF_ne (fun h => absurd h.2 (by decide)))) ((uF_ne (fun h => absurd h.2 (by decide))).trans (uF_ne (fun h => absurd h.2 (by decide)))) ((uF_ne (fun h => absurd h.2 (by decide))).trans (uF_ne (fun h => absurd h.2 (by decide)))) (funext fun j => (uF_a).trans (uF_a)))) h).nt) (fun _ => by omega) (by omega) (by omega)) (c_X12_404 Cx rfl rfl (rmk_ok (by omega) (by decide))) hW (by decide) rfl rfl rfl hl.1 rfl (Nat.le_of_ble_eq_true rfl) dX12_tellRow_62 ⟨Nat.le_of_ble_eq_true rfl, Nat.le_of_ble_eq_true rfl⟩) hL (fun r_221 u_219 H locs k_220 hW hL => ?_)
      obtain ⟨iu_219, fu_219, gu_219, xu_219⟩ := k_220
      have F_222 := F_211.trans (fu_219.to (pl_sub (by decide)))
      have F_223 := F_212.trans fu_219
      have g_224 : FF S u_219 (fl [20, 21, 24, 25, 36, 42, 43]) := FF.trans g_213 (FF.to gu_219 (fl_sub (by decide)))
      have g_225 : FF ((uF u_4 231 24 ((S.1 231 24) + 2))) u_219 (fl [20, 21, 24, 25]) := FF.trans g_214 (FF.to gu_219 (fl_sub (by decide)))
      refine lv_istore_n (lv' := [(3, .int (iv r_221)), (4, .int (iv ((-1)))), (2, .int (iv r_6)), (1, .int (iv ((S.1 231 24) + 1))), (0, .ref (G.2.2.1 + 231))]) hx hb dX12_tellRow_65 rfl hl (by decide) rfl (fun ls hl => ?_)
      have hnu2 : Hd (u_219.1 231 20 = 0 → NX u_219 T) := fun h => NX.add (S := (uF (uF u_4 231 24 ((S.1 231 24) + 2)) 231 24 (((S.1 231 24) + 2) + 1))) (so := 5) (tk := S.1 231 24 + 2 + 1) ((fun h => (NX.cg (S := u_4) (u := (uF (uF u_4 231 24 ((S.1 231 24) + 2)) 231 24 (((S.1 231 24) + 2) + 1))) (hnu (by have e9 := (show (uF (uF u_4 231 24 ((S.1 231 24) + 2)) 231 24 (((S.1 231 24) + 2) + 1)).1 231 20 = u_4.1 231 20 from (uF_ne (fun h => absurd h.2 (by decide))).trans (uF_ne (fun h => absurd h.2 (by decide)))); omega)) (NR.eq (funext fun j => (uF_a).trans (uF_a)) (funext fun j => (uF_a).trans (uF_a)) (funext fun j => (uF_a).trans (uF_a)) (funext fun j => (uF_a).trans (uF_a)) (funext fun j => (uF_a).trans (uF_a))) ((uF_ne (fun h => absurd h.2 (by decide))).trans (uF_ne (fun h => absurd h.2 (by decide)))) ((uF_ne (fun h => absurd h.2 (by decide))).trans (uF_ne (fun h => absurd h.2 (by decide)))) ((uF_ne (fun h => absurd h.2 (by decide))).trans (uF_ne (fun h => absurd h.2 (by decide)))) (funext fun j => (uF_a).trans (uF_a)))) (xu_219.2.2 h).1) (xu_219.2.2 h).2.2.2 (xu_219.2.2 h).2.2.1 (gu_219 32 rfl) (gu_219 35 rfl) (funext fun j => (fu_219 253 rfl).2.1 j) (by omega) (.inr rfl)
      refine lv_aload_n hx hb dX12_tellRow_66 rfl (lv_at hl 4 rfl) ?_
      refine lv_dup hx hb dX12_tellRow_67 rfl ?_
      refine g_X12_315 Cx hW (k := 231) (by decide) rfl (v := ((S.1 231 24) + 2) + 1) ((gu_219 24 rfl).trans (uF_on)) dX12_tellRow_68 ?_
      refine lv_iconst (v := iv 2) hx hb dX12_tellRow_71 (by decide) ?_
      refine r_iadd hx hb dX12_tellRow_72 ?_
      refine p_X12_315 Cx hW hL (k := 231) (by decide) rfl dX12_tellRow_73 (fun H locs hW hL => ?_)
      have F_226 : Fr S (uF u_219 231 24 ((((S.1 231 24) + 2) + 1) + 2)) (pl [231, 248, 249, 250, 251, 252, 255, 257, 258]) := F_222.F rfl
      have F_227 : Fr ((uF u_4 231 24 ((S.1 231 24) + 2))) (uF u_219 231 24 ((((S.1 231 24) + 2) + 1) + 2)) (pl [231, 248, 249, 250, 251, 252]) := F_223.F rfl
      have g_228 : FF S (uF u_219 231 24 ((((S.1 231 24) + 2) + 1) + 2)) (fl [20, 21, 24, 25, 36, 42, 43]) := FF.F g_224 rfl
      have g_229 : FF ((uF u_4 231 24 ((S.1 231 24) + 2))) (uF u_219 231 24 ((((S.1 231 24) + 2) + 1) + 2)) (fl [20, 21, 24, 25]) := FF.F g_225 rfl
      have i_230 : dX G (uF u_219 231 24 ((((S.1 231 24) + 2) + 1) + 2)) := iu_219.F (i := 24) (show (-2147483648) ≤ (((S.1 231 24) + 2) + 1) + 2 ∧ (((S.1 231 24) + 2) + 1) + 2 ≤ 2147483647 from ⟨by omega, by omega⟩)
      refine lv_aload_n hx hb dX12_tellRow_76 rfl (lv_at hl 4 rfl) ?_
      have q_231 : (-2147483648) ≤ u_219.1 231 20 ∧ u_219.1 231 20 ≤ 2147483647 := iu_219.fi 20
      have lk_232 : (uF u_219 231 24 ((((S.1 231 24) + 2) + 1) + 2)).1 231 20 = u_219.1 231 20 := uF_ne (fun h => absurd h.2 (by decide))
      have q_233 : (-2147483648) ≤ u_219.1 231 25 ∧ u_219.1 231 25 ≤ 2147483647 := iu_219.fi 25
      have lk_234 : (uF u_219 231 24 ((((S.1 231 24) + 2) + 1) + 2)).1 231 25 = u_219.1 231 25 := uF_ne (fun h => absurd h.2 (by decide))
      have lk_235 : (uF u_219 231 24 ((((S.1 231 24) + 2) + 1) + 2)).1 231 24 = (((S.1 231 24) + 2) + 1) + 2 := uF_on
      refine sBi (sV (As := []) (rest := []) (k := 231) Cx (s_X12_setHere l G (uF u_219 231 24 ((((S.1 231 24) + 2) + 1) + 2)) (K := K) (V := V) (Fm := Fm) (Wd := Wd) (T := T) (pz := (((pz) + 2) + 1) + 2) i_230 ((funext fun j => (uF_a).trans (((fu_219 244 rfl).2.1 j).trans ((uF_a).trans ((uF_a).trans ((fu_4 244 rfl).2.1 j)))) : (uF u_219 231 24 ((((S.1 231 24) + 2) + 1) + 2)).2.1 244 = S.2.1 244).trans hK) ((funext fun j => (uF_a).trans (((fu_219 247 rfl).2.1 j).trans ((uF_a).trans ((uF_a).trans ((fu_4 247 rfl).2.1 j)))) : (uF u_219 231 24 ((((S.1 231 24) + 2) + 1) + 2)).2.1 247 = S.2.1 247).trans hV) ((funext fun j => (uF_a).trans (((fu_219 245 rfl).2.1 j).trans ((uF_a).trans ((uF_a).trans ((fu_4 245 rfl).2.1 j)))) : (uF u_219 231 24 ((((S.1 231 24) + 2) + 1) + 2)).2.1 245 = S.2.1 245).trans hFm) ((funext fun j => (uF_a).trans (((fu_219 246 rfl).2.1 j).trans ((uF_a).trans ((uF_a).trans ((fu_4 246 rfl).2.1 j)))) : (uF u_219 231 24 ((((S.1 231 24) + 2) + 1) + 2)).2.1 246 = S.2.1 246).trans hWd) hQ (fun h => ((fun h => (NX.cg (S := u_219) (u := (uF u_219 231 24 ((((S.1 231 24) + 2) + 1) + 2))) (hnu2 (by have e9 := (show (uF u_219 231 24 ((((S.1 231 24) + 2) + 1) + 2)).1 231 20 = u_219.1 231 20 from uF_ne (fun h => absurd h.2 (by decide))); omega)) (NR.eq (funext fun j => uF_a) (funext fun j => uF_a) (funext fun j => uF_a) (funext fun j => uF_a) (funext fun j => uF_a)) (uF_ne (fun h => absurd h.2 (by decide))) (uF_ne (fun h => absurd h.2 (by decide))) (uF_ne (fun h => absurd h.2 (by decide))) (funext fun j => uF_a))) h).nt) (fun h => by have a9 := xu_219.2.2 h; have z25 : (uF (uF u_4 231 24 ((S.1 231 24) + 2)) 231 24 (((S.1 231 24) + 2) + 1)).1 231 25 = S.1 231 25 + 1 := a1.2.2.1; have e9 := (show (uF u_219 231 24 ((((S.1 231 24) + 2) + 1) + 2)).1 231 25 = u_219.1 231 25 from uF_ne (fun h => absurd h.2 (by decide))); omega) (by omega) (by omega)) (c_X12_364 Cx rfl rfl (rmk_ok (by omega) (by decide))) hW (by decide) rfl rfl rfl hl.1 rfl (Nat.le_of_ble_eq_true rfl) dX12_tellRow_77 ⟨Nat.le_of_ble_eq_true rfl, Nat.le_of_ble_eq_true rfl⟩) hL (fun r_238 u_236 H locs k_237 hW hL => ?_)
      obtain ⟨iu_236, fu_236, gu_236, xu_236⟩ := k_237
      have F_239 := F_226.trans (fu_236.to (pl_sub (by decide)))
      have F_240 := F_227.trans (fu_236.to (pl_sub (by decide)))
      have g_241 : FF S u_236 (fl [20, 21, 24, 25, 36, 42, 43]) := FF.trans g_228 (FF.to gu_236 (fl_sub (by decide)))
      have g_242 : FF ((uF u_4 231 24 ((S.1 231 24) + 2))) u_236 (fl [20, 21, 24, 25]) := FF.trans g_229 (FF.to gu_236 (fl_sub (by decide)))
      refine lv_istore (lv' := [(4, .int (iv r_238)), (3, .int (iv r_221)), (2, .int (iv r_6)), (1, .int (iv ((S.1 231 24) + 1))), (0, .ref (G.2.2.1 + 231))]) hx hb dX12_tellRow_80 hl (by decide) rfl (fun ls hl => ?_)
      refine lv_aload_n hx hb dX12_tellRow_82 rfl (lv_at hl 4 rfl) ?_
      refine lv_dup hx hb dX12_tellRow_83 rfl ?_
      have q_243 : (-2147483648) ≤ u_236.1 231 24 ∧ u_236.1 231 24 ≤ 2147483647 := iu_236.fi 24
      refine g_X12_315 Cx hW (k := 231) (by decide) rfl (v := u_236.1 231 24) rfl dX12_tellRow_84 ?_
      refine lv_iconst (v := iv 1) hx hb dX12_tellRow_87 (by decide) ?_
      refine r_iadd hx hb dX12_tellRow_88 ?_
      refine p_X12_315 Cx hW hL (k := 231) (by decide) rfl dX12_tellRow_89 (fun H locs hW hL => ?_)
      have F_244 : Fr S (uF u_236 231 24 ((u_236.1 231 24) + 1)) (pl [231, 248, 249, 250, 251, 252, 255, 257, 258]) := F_239.F rfl
      have F_245 : Fr ((uF u_4 231 24 ((S.1 231 24) + 2))) (uF u_236 231 24 ((u_236.1 231 24) + 1)) (pl [231, 248, 249, 250, 251, 252]) := F_240.F rfl
      have g_246 : FF S (uF u_236 231 24 ((u_236.1 231 24) + 1)) (fl [20, 21, 24, 25, 36, 42, 43]) := FF.F g_241 rfl
      have g_247 : FF ((uF u_4 231 24 ((S.1 231 24) + 2))) (uF u_236 231 24 ((u_236.1 231 24) + 1)) (fl [20, 21, 24, 25]) := FF.F g_242 rfl
      have i_248 : dX G (uF u_236 231 24 ((u_236.1 231 24) + 1)) := iu_236.F (i := 24) (show (-2147483648) ≤ (u_236.1 231 24) + 1 ∧ (u_236.1 231 24) + 1 ≤ 2147483647 from ⟨by omega, by omega⟩)
      refine lv_aload_n hx hb dX12_tellRow_92 rfl (lv_at hl 4 rfl) ?_
      have q_249 : (-2147483648) ≤ u_236.1 231 20 ∧ u_236.1 231 20 ≤ 2147483647 := iu_236.fi 20
      refine g_X12_270 Cx hW (k := 231) (by decide) rfl (v := u_236.1 231 20) (uF_ne (fun h => absurd h.2 (by decide))) dX12_tellRow_93 ?_
      refine r_if_eq (tgt := 100) hx hb ⟨(by omega), (by omega)⟩ dX12_tellRow_96 (by decide) (fun c_250 => ?_) (fun c_250 => ?_)
      · have lk_251 : (uF u_236 231 24 ((u_236.1 231 24) + 1)).1 231 25 = u_219.1 231 25 := (uF_ne (fun h => absurd h.2 (by decide))).trans ((gu_236 25 rfl).trans (uF_ne (fun h => absurd h.2 (by decide))))
        have lk_252 : (uF u_236 231 24 ((u_236.1 231 24) + 1)).1 231 20 = u_236.1 231 20 := uF_ne (fun h => absurd h.2 (by decide))
        have lk_253 : (uF u_236 231 24 ((u_236.1 231 24) + 1)).1 231 24 = (u_236.1 231 24) + 1 := uF_on
        exact join_100 (uF u_236 231 24 ((u_236.1 231 24) + 1)) r_238 r_221 _ _ _ i_248 F_244 F_245 g_246 g_247 (by have a3 := xu_236.2.2 (by have e9 := (show (uF u_236 231 24 ((u_236.1 231 24) + 1)).1 231 20 = u_236.1 231 20 from uF_ne (fun h => absurd h.2 (by decide))); omega); have a2 := xu_219.2.2 a3.1; have y25 := (show (uF u_219 231 24 ((((S.1 231 24) + 2) + 1) + 2)).1 231 25 = u_219.1 231 25 from uF_ne (fun h => absurd h.2 (by decide))); have z25 : (uF (uF u_4 231 24 ((S.1 231 24) + 2)) 231 24 (((S.1 231 24) + 2) + 1)).1 231 25 = S.1 231 25 + 1 := a1.2.2.1; have e6 := (show (uF u_236 231 24 ((u_236.1 231 24) + 1)).1 231 25 = u_219.1 231 25 from (uF_ne (fun h => absurd h.2 (by decide))).trans ((gu_236 25 rfl).trans (uF_ne (fun h => absurd h.2 (by decide))))); have k1 : u_219.2.1 249 r_238 = 1 := (show (uF u_219 231 24 ((((S.1 231 24) + 2) + 1) + 2)).2.1 249 r_238 = u_219.2.1 249 r_238 from uF_a).symm.trans a3.2.2.2.2; rw [a2.2.2.2.2.1, z25] at k1; by_cases z1 : r_238 = S.1 231 25 + 1; (rw [if_pos z1] at k1; exact absurd k1 (by decide)); rw [if_neg z1] at k1; have k2 : u_4.2.1 249 r_238 = 1 := k1; by_cases z2 : r_238 = S.1 231 25; (rw [z2, hsl] at k2; exact absurd k2 (by decide)); rw [a1.2.2.2.2.1, if_neg z2] at k2; exact .inr ⟨(by omega), (by omega), (by omega), (by omega), k2⟩) (by have a3 := xu_236.2.2 (by have e9 := (show (uF u_236 231 24 ((u_236.1 231 24) + 1)).1 231 20 = u_236.1 231 20 from uF_ne (fun h => absurd h.2 (by decide))); omega); have a2 := xu_219.2.2 a3.1; have y25 := (show (uF u_219 231 24 ((((S.1 231 24) + 2) + 1) + 2)).1 231 25 = u_219.1 231 25 from uF_ne (fun h => absurd h.2 (by decide))); have z25 : (uF (uF u_4 231 24 ((S.1 231 24) + 2)) 231 24 (((S.1 231 24) + 2) + 1)).1 231 25 = S.1 231 25 + 1 := a1.2.2.1; have e7 := (show (uF u_236 231 24 ((u_236.1 231 24) + 1)).1 231 24 = (u_236.1 231 24) + 1 from uF_on); have e8 := (show (uF u_236 231 24 ((u_236.1 231 24) + 1)).1 231 20 = u_236.1 231 20 from uF_ne (fun h => absurd h.2 (by decide))); have e5 := hb1; omega) (fun _ => by have a3 := xu_236.2.2 (by have e9 := (show (uF u_236 231 24 ((u_236.1 231 24) + 1)).1 231 20 = u_236.1 231 20 from uF_ne (fun h => absurd h.2 (by decide))); omega); have a2 := xu_219.2.2 a3.1; have y25 := (show (uF u_219 231 24 ((((S.1 231 24) + 2) + 1) + 2)).1 231 25 = u_219.1 231 25 from uF_ne (fun h => absurd h.2 (by decide))); have z25 : (uF (uF u_4 231 24 ((S.1 231 24) + 2)) 231 24 (((S.1 231 24) + 2) + 1)).1 231 25 = S.1 231 25 + 1 := a1.2.2.1; exact (NX.cg (S := u_219) (u := (uF u_236 231 24 ((u_236.1 231 24) + 1))) (hnu2 a3.1) (NR.eq (funext fun j => (uF_a).trans (((fu_236 248 rfl).2.1 j).trans (uF_a))) (funext fun j => (uF_a).trans (((fu_236 249 rfl).2.1 j).trans (uF_a))) (funext fun j => (uF_a).trans (((fu_236 250 rfl).2.1 j).trans (uF_a))) (funext fun j => (uF_a).trans (((fu_236 251 rfl).2.1 j).trans (uF_a))) (funext fun j => (uF_a).trans (((fu_236 252 rfl).2.1 j).trans (uF_a)))) ((uF_ne (fun h => absurd h.2 (by decide))).trans ((gu_236 25 rfl).trans (uF_ne (fun h => absurd h.2 (by decide))))) ((uF_ne (fun h => absurd h.2 (by decide))).trans ((gu_236 32 rfl).trans (uF_ne (fun h => absurd h.2 (by decide))))) ((uF_ne (fun h => absurd h.2 (by decide))).trans ((gu_236 35 rfl).trans (uF_ne (fun h => absurd h.2 (by decide))))) (funext fun j => (uF_a).trans (((fu_236 253 rfl).2.1 j).trans (uF_a))))) (fun _ => by have a3 := xu_236.2.2 (by have e9 := (show (uF u_236 231 24 ((u_236.1 231 24) + 1)).1 231 20 = u_236.1 231 20 from uF_ne (fun h => absurd h.2 (by decide))); omega); have a2 := xu_219.2.2 a3.1; have y25 := (show (uF u_219 231 24 ((((S.1 231 24) + 2) + 1) + 2)).1 231 25 = u_219.1 231 25 from uF_ne (fun h => absurd h.2 (by decide))); have z25 : (uF (uF u_4 231 24 ((S.1 231 24) + 2)) 231 24 (((S.1 231 24) + 2) + 1)).1 231 25 = S.1 231 25 + 1 := a1.2.2.1; rw [show (uF u_236 231 24 ((u_236.1 231 24) + 1)).2.1 249 r_221 = u_219.2.1 249 r_221 from (uF_a).trans (((fu_236 249 rfl).2.1 r_221).trans (uF_a)), a2.2.1]; exact (nRW.at a2.2.2.2).2.1) (by have a3 := xu_236.2.2 (by have e9 := (show (uF u_236 231 24 ((u_236.1 231 24) + 1)).1 231 20 = u_236.1 231 20 from uF_ne (fun h => absurd h.2 (by decide))); omega); have a2 := xu_219.2.2 a3.1; have y25 := (show (uF u_219 231 24 ((((S.1 231 24) + 2) + 1) + 2)).1 231 25 = u_219.1 231 25 from uF_ne (fun h => absurd h.2 (by decide))); have z25 : (uF (uF u_4 231 24 ((S.1 231 24) + 2)) 231 24 (((S.1 231 24) + 2) + 1)).1 231 25 = S.1 231 25 + 1 := a1.2.2.1; have e5 := hb1; omega) (by have a3 := xu_236.2.2 (by have e9 := (show (uF u_236 231 24 ((u_236.1 231 24) + 1)).1 231 20 = u_236.1 231 20 from uF_ne (fun h => absurd h.2 (by decide))); omega); have a2 := xu_219.2.2 a3.1; have y25 := (show (uF u_219 231 24 ((((S.1 231 24) + 2) + 1) + 2)).1 231 25 = u_219.1 231 25 from uF_ne (fun h => absurd h.2 (by decide))); have z25 : (uF (uF u_4 231 24 ((S.1 231 24) + 2)) 231 24 (((S.1 231 24) + 2) + 1)).1 231 25 = S.1 231 25 + 1 := a1.2.2.1; exact NR.trans (NR.trans (NR.eq (S := u_4) (u := (uF (uF u_4 231 24 ((S.1 231 24) + 2)) 231 24 (((S.1 231 24) + 2) + 1))) (funext fun j => (uF_a).trans (uF_a)) (funext fun j => (uF_a).trans (uF_a)) (funext fun j => (uF_a).trans (uF_a)) (funext fun j => (uF_a).trans (uF_a)) (funext fun j => (uF_a).trans (uF_a))) (NR.mono a2.2.2.2.nr (by omega))) (NR.eq (S := u_219) (u := (uF u_236 231 24 ((u_236.1 231 24) + 1))) (funext fun j => (uF_a).trans (((fu_236 248 rfl).2.1 j).trans (uF_a))) (funext fun j => (uF_a).trans (((fu_236 249 rfl).2.1 j).trans (uF_a))) (funext fun j => (uF_a).trans (((fu_236 250 rfl).2.1 j).trans (uF_a))) (funext fun j => (uF_a).trans (((fu_236 251 rfl).2.1 j).trans (uF_a))) (funext fun j => (uF_a).trans (((fu_236 252 rfl).2.1 j).trans (uF_a))))) hW hL (lv_sub hl [0, 1, 2, 3, 4] rfl)
      · have lk_254 : (uF u_236 231 24 ((u_236.1 231 24) + 1)).1 231 20 = u_236.1 231 20 := uF_ne (fun h => absurd h.2 (by decide))
        have lk_255 : (uF u_236 231 24 ((u_236.1 231 24) + 1)).1 231 25 = u_219.1 231 25 := (uF_ne (fun h => absurd h.2 (by decide))).trans ((gu_236 25 rfl).trans (uF_ne (fun h => absurd h.2 (by decide))))
        have lk_256 : (uF u_236 231 24 ((u_236.1 231 24) + 1)).1 231 24 = (u_236.1 231 24) + 1 := uF_on
        have q_257 : (-2147483648) ≤ S.1 231 36 ∧ S.1 231 36 ≤ 2147483647 := hI.fi 36
        have lk_258 : (uF u_236 231 24 ((u_236.1 231 24) + 1)).1 231 36 = S.1 231 36 := (uF_ne (fun h => absurd h.2 (by decide))).trans ((gu_236 36 rfl).trans ((uF_ne (fun h => absurd h.2 (by decide))).trans ((gu_219 36 rfl).trans ((uF_ne (fun h => absurd h.2 (by decide))).trans ((uF_ne (fun h => absurd h.2 (by decide))).trans (gu_4 36 rfl))))))
        exact sVret Cx hr hlk hW hL ⟨i_248, F_244, g_246, ⟨(fun x => by rw [show (uF u_236 231 24 ((u_236.1 231 24) + 1)).2.2.1 255 x = S.2.2.1 255 x from (uF_l).trans (((fu_236 255 rfl).2.2.1 x).trans ((uF_l).trans (((fu_219 255 rfl).2.2.1 x).trans ((uF_l).trans ((uF_l).trans ((fu_4 255 rfl).2.2.1 x))))))]; exact hRB x), (fun h => absurd h (by have e9 := (show (uF u_236 231 24 ((u_236.1 231 24) + 1)).1 231 20 = u_236.1 231 20 from uF_ne (fun h => absurd h.2 (by decide))); omega))⟩⟩ dX12_tellRow_99
  · have q_259 : (-2147483648) ≤ u_4.1 231 25 ∧ u_4.1 231 25 ≤ 2147483647 := iu_4.fi 25
    have lk_260 : u_4.1 231 24 = S.1 231 24 := gu_4 24 rfl
    have q_261 : (-2147483648) ≤ S.1 231 36 ∧ S.1 231 36 ≤ 2147483647 := hI.fi 36
    have lk_262 : u_4.1 231 36 = S.1 231 36 := gu_4 36 rfl
    exact sVret Cx hr hlk hW hL ⟨iu_4, F_7, g_8, ⟨(fun x => by rw [show u_4.2.2.1 255 x = S.2.2.1 255 x from (fu_4 255 rfl).2.2.1 x]; exact hRB x), (fun h => absurd h (by have e9 := (show u_4.1 231 20 = u_4.1 231 20 from rfl); omega))⟩⟩ dX12_tellRow_21
