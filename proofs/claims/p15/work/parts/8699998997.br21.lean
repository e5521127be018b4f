/-! The reference reads a proof -/
def KVq (K V : Int → Int) (T : Int) (kp vp : Int → Int) : Prop := KRq K V T kp ∧ ∀ t, 0 ≤ t → t < T → kp t = 2 → vsg (V t) (vp t)
section
variable {K V : Int → Int} {T : Int} {kp vp : Int → Int} {t : Int}
theorem KVq.s (h : KVq K V T kp vp) (h0 : 0 ≤ t) (h1 : t < T) {sv cd : Int} (hc : (sv = 47 ∧ cd = 3) ∨ (sv = 58 ∧ cd = 4) ∨ (sv = 59 ∧ cd = 5)) : gS K V t sv ↔ kp t = cd := by
  have a := h.1 t h0 h1; unfold krq at a; unfold gS; omega
theorem KVq.w (h : KVq K V T kp vp) (h0 : 0 ≤ t) (h1 : t < T) {sv cd : Int} (hc : (sv = 1 ∧ cd = 10) ∨ (sv = 4 ∧ cd = 11)) : gW K V t sv ↔ kp t = cd := by
  have a := h.1 t h0 h1; unfold krq at a; unfold gW; omega
theorem KVq.n (h : KVq K V T kp vp) (h0 : 0 ≤ t) (h1 : t < T) : K t = 2 ↔ kp t = 2 := by
  have a := h.1 t h0 h1; unfold krq at a; omega
theorem KVq.a (h : KVq K V T kp vp) (h0 : 0 ≤ t) (h1 : t < T) : (K t = 2 ∧ 0 < V t) ↔ gAb kp vp t := by
  have a := (h.n h0 h1)
  constructor
  · rintro ⟨x, y⟩
    have b := h.2 t h0 h1 (a.mp x); unfold vsg at b
    exact ⟨a.mp x, by omega⟩
  · rintro ⟨x, y⟩
    have b := h.2 t h0 h1 x; unfold vsg at b
    exact ⟨a.mpr x, by omega⟩
end
/-- PAIRS, read on -/
def PQi (kp : Int → Int) (c0 c : Int) : Prop := ∃ i, 0 ≤ i ∧ c = c0 + 3 * i ∧ gPr kp (30001 - i).toNat c = gPr kp 30001 c0
theorem PQi.zero {kp : Int → Int} {c : Int} : PQi kp c c := ⟨0, by omega, by omega, by rfl⟩
theorem PQi.go {kp : Int → Int} {c0 c c' : Int} (h : PQi kp c0 c) (h0 : 0 ≤ c0 ∧ c ≤ 30000) (k : kp c = 2) (k1 : kp (c + 1) = 4) (k2 : kp (c + 2) = 2) (e : c' = c + 3) : PQi kp c0 c' := by
  obtain ⟨i, i0, i1, i2⟩ := h
  subst e
  refine ⟨i + 1, by omega, by omega, ?_⟩
  rw [← i2, show (30001 - i).toNat = (30001 - (i + 1)).toNat + 1 by omega, gPr_go k k1 k2]
theorem PQi.no {kp : Int → Int} {c0 c : Int} (h : PQi kp c0 c) (h0 : 0 ≤ c0 ∧ c ≤ 30000) (k : kp c = 2) (k1 : ¬ (kp (c + 1) = 4 ∧ kp (c + 2) = 2)) : gPr kp 30001 c0 = none := by
  obtain ⟨i, i0, i1, i2⟩ := h
  rw [← i2, show (30001 - i).toNat = (30001 - (i + 1)).toNat + 1 by omega, gPr_no k k1]
theorem PQi.y {kp : Int → Int} {c0 c : Int} (h : PQi kp c0 c) (h0 : 0 ≤ c0 ∧ c ≤ 30000) (k : kp c = 5) : gPr kp 30001 c0 = some (c + 1) := by
  obtain ⟨i, i0, i1, i2⟩ := h
  rw [← i2, show (30001 - i).toNat = (30001 - (i + 1)).toNat + 1 by omega, gPr_y k]
theorem PQi.n {kp : Int → Int} {c0 c : Int} (h : PQi kp c0 c) (h0 : 0 ≤ c0 ∧ c ≤ 30000) (k : kp c ≠ 2) (k1 : kp c ≠ 5) : gPr kp 30001 c0 = none := by
  obtain ⟨i, i0, i1, i2⟩ := h
  rw [← i2, show (30001 - i).toNat = (30001 - (i + 1)).toNat + 1 by omega, gPr_n k k1]
/-- TREES, read on -/
def TQi (kp vp : Int → Int) (c0 c d : Int) : Prop := ∃ i, 0 ≤ i ∧ 3 * i ≤ c - c0 ∧ gTr kp vp (30001 - i).toNat c d = gTr kp vp 30001 c0 1
section
variable {kp vp : Int → Int} {c0 c c' d d' : Int}
theorem TQi.zero : TQi kp vp c c 1 := ⟨0, by omega, by omega, rfl⟩
theorem TQi.br (h : TQi kp vp c0 c d) (h0 : 0 ≤ c0 ∧ c ≤ 30000) (hd : d ≠ 0) (k : kp c = 12) (k1 : kp (c + 1) = 2) (k2 : kp (c + 2) = 2) (e : c' = c + 3) (e2 : d' = d + 1) : TQi kp vp c0 c' d' := by
  obtain ⟨i, i0, i1, i2⟩ := h
  subst e; subst e2
  refine ⟨i + 1, by omega, by omega, ?_⟩
  rw [← i2, show (30001 - i).toNat = (30001 - (i + 1)).toNat + 1 by omega, gTr_b hd k k1 k2]
theorem TQi.bx (h : TQi kp vp c0 c d) (h0 : 0 ≤ c0 ∧ c ≤ 30000) (hd : d ≠ 0) (k : kp c = 12) (k1 : ¬ (kp (c + 1) = 2 ∧ kp (c + 2) = 2)) : gTr kp vp 30001 c0 1 = none := by
  obtain ⟨i, i0, i1, i2⟩ := h
  rw [← i2, show (30001 - i).toNat = (30001 - (i + 1)).toNat + 1 by omega, gTr_bx hd k k1]
theorem TQi.lf (h : TQi kp vp c0 c d) (h0 : 0 ≤ c0 ∧ c ≤ 30000) (hd : d ≠ 0) (k : kp c = 13 ∨ kp c = 14 ∨ kp c = 15) (k1 : gAb kp vp (c + 1)) (k2 : gPr kp 30001 (c + 2) = some c') (hc : c + 3 ≤ c') (e2 : d' = if kp c = 13 then d else d - 1) : TQi kp vp c0 c' d' := by
  obtain ⟨i, i0, i1, i2⟩ := h
  subst e2
  refine ⟨i + 1, by omega, by omega, ?_⟩
  rw [← i2, show (30001 - i).toNat = (30001 - (i + 1)).toNat + 1 by omega, gTr_p hd k k1 k2]
theorem TQi.la (h : TQi kp vp c0 c d) (h0 : 0 ≤ c0 ∧ c ≤ 30000) (hd : d ≠ 0) (k : kp c = 13 ∨ kp c = 14 ∨ kp c = 15) (k1 : ¬ gAb kp vp (c + 1)) : gTr kp vp 30001 c0 1 = none := by
  obtain ⟨i, i0, i1, i2⟩ := h
  rw [← i2, show (30001 - i).toNat = (30001 - (i + 1)).toNat + 1 by omega, gTr_pa hd k k1]
theorem TQi.lp (h : TQi kp vp c0 c d) (h0 : 0 ≤ c0 ∧ c ≤ 30000) (hd : d ≠ 0) (k : kp c = 13 ∨ kp c = 14 ∨ kp c = 15) (k1 : gAb kp vp (c + 1)) (k2 : gPr kp 30001 (c + 2) = none) : gTr kp vp 30001 c0 1 = none := by
  obtain ⟨i, i0, i1, i2⟩ := h
  rw [← i2, show (30001 - i).toNat = (30001 - (i + 1)).toNat + 1 by omega, gTr_pp hd k k1 k2]
theorem TQi.x (h : TQi kp vp c0 c d) (h0 : 0 ≤ c0 ∧ c ≤ 30000) (hd : d ≠ 0) (k : kp c < 12 ∨ 15 < kp c) : gTr kp vp 30001 c0 1 = none := by
  obtain ⟨i, i0, i1, i2⟩ := h
  rw [← i2, show (30001 - i).toNat = (30001 - (i + 1)).toNat + 1 by omega, gTr_x hd k]
theorem TQi.end (h : TQi kp vp c0 c d) (hd : d = 0) : gTr kp vp 30001 c0 1 = some c := by
  obtain ⟨i, i0, i1, i2⟩ := h
  rw [← i2, hd, gTr_z]
end
set_option maxRecDepth 100000 in
set_option maxHeartbeats 4000000 in
theorem q_X12_wrong (l : Launch) (G : sG) (S : sS) {cd tk : Int} (hI : dX G S) (hcd : 1 ≤ cd ∧ cd ≤ 9) (htk : 0 ≤ tk ∧ tk < 30004) : Met l yX12_wrong (.code yX12_wrong cX12_wrong 3 none :: tb) (rmk 1 0 0) (sPc G 294 S [.ref (G.2.2.1 + 231), .int (iv cd), .int (iv tk)]) (sQv G 294 (fun u => dX G u ∧ Fr S u (pl [231]) ∧ FF S u (fl [20, 21]) ∧ ((S.1 231 20 = 0 → u.1 231 20 = cd) ∧ (S.1 231 20 ≠ 0 → u.1 231 20 = S.1 231 20) ∧ u.1 231 20 ≠ 0))) 0 0 (sF G) := by
  refine sEnter (by decide) (Nat.le_of_ble_eq_true rfl) ?_
  intro p e s m args below meth c Cx hr hlk hnm hW ls hl
  have Cx : sC G p m c cX12_wrong 3 s args RX12 := Cx
  obtain ⟨hx, hb, hml, hown, hts⟩ := id Cx.1
  have hL : sL G [] := sL_nil
  have hl : lv_has ls 3 [(0, .ref (G.2.2.1 + 231)), (1, .int (iv cd)), (2, .int (iv tk))] := hl
  have hW0 := hW
  refine lv_aload_n hx hb dX12_wrong_0 rfl (lv_at hl 0 rfl) ?_
  have q_1 : (-2147483648) ≤ S.1 231 20 ∧ S.1 231 20 ≤ 2147483647 := hI.fi 20
  refine g_X12_270 Cx hW (k := 231) (by decide) rfl (v := S.1 231 20) rfl dX12_wrong_1 ?_
  refine r_if_eq (tgt := 8) hx hb ⟨(by omega), (by omega)⟩ dX12_wrong_4 (by decide) (fun c_2 => ?_) (fun c_2 => ?_)
  · refine lv_aload_n hx hb dX12_wrong_8 rfl (lv_at hl 0 rfl) ?_
    refine lv_iload_n hx hb dX12_wrong_9 rfl (lv_at hl 1 rfl) ?_
    refine p_X12_270 Cx hW hL (k := 231) (by decide) rfl dX12_wrong_10 (fun H locs hW hL => ?_)
    have F_3 : Fr S (uF S 231 20 cd) (pl [231]) := (Fr.rf : Fr S S (pl [231])).F rfl
    have g_4 : FF S (uF S 231 20 cd) (fl [20, 21]) := FF.F FF.rf rfl
    have i_5 : dX G (uF S 231 20 cd) := hI.F (i := 20) (show (-2147483648) ≤ cd ∧ cd ≤ 2147483647 from ⟨by omega, by omega⟩)
    refine lv_aload_n hx hb dX12_wrong_13 rfl (lv_at hl 0 rfl) ?_
    refine lv_aload_n hx hb dX12_wrong_14 rfl (lv_at hl 0 rfl) ?_
    refine g_X12_50 Cx hW (k := 231) (by decide) rfl (v := .ref (G.2.2.1 + 245)) (rd_16 i_5) dX12_wrong_15 ?_
    refine lv_iload_n hx hb dX12_wrong_18 rfl (lv_at hl 2 rfl) ?_
    refine rIald Cx hW (k := 245) (by decide) rfl (by decide) (by omega) (by omega) dX12_wrong_19 ?_
    have q_6 : (-2147483648) ≤ S.2.1 245 tk ∧ S.2.1 245 tk ≤ 2147483647 := hI.ai 245 tk
    refine r_i (b := S.2.1 245 tk) uF_a ?_
    refine p_X12_273 Cx hW hL (k := 231) (by decide) rfl dX12_wrong_20 (fun H locs hW hL => ?_)
    have F_7 : Fr S (uF (uF S 231 20 cd) 231 21 (S.2.1 245 tk)) (pl [231]) := F_3.F rfl
    have g_8 : FF S (uF (uF S 231 20 cd) 231 21 (S.2.1 245 tk)) (fl [20, 21]) := FF.F g_4 rfl
    have i_9 : dX G (uF (uF S 231 20 cd) 231 21 (S.2.1 245 tk)) := i_5.F (i := 21) (show (-2147483648) ≤ S.2.1 245 tk ∧ S.2.1 245 tk ≤ 2147483647 from ⟨by omega, by omega⟩)
    have lk_10 : (uF (uF S 231 20 cd) 231 21 (S.2.1 245 tk)).1 231 20 = cd := (uF_ne (fun h => absurd h.2 (by decide))).trans (uF_on)
    exact sVret Cx hr hlk hW hL ⟨i_9, F_7, g_8, (by omega)⟩ dX12_wrong_23
  · exact sVret Cx hr hlk hW hL ⟨hI, (Fr.rf : Fr S S (pl [231])), FF.rf, (by omega)⟩ dX12_wrong_7

set_option maxRecDepth 100000 in
set_option maxHeartbeats 4000000 in
theorem q_X12_want (l : Launch) (G : sG) (S : sS) {K V : Int → Int} {T pz : Int} {sv cd : Int} {kp vp : Int → Int} (hI : dX G S) (hsv : -2147483648 ≤ sv ∧ sv ≤ 2147483647) (hsc : (sv = 47 ∧ cd = 3) ∨ (sv = 58 ∧ cd = 4) ∨ (sv = 59 ∧ cd = 5)) (hkr : Hd (KVq K V T kp vp)) (h01 : 0 ≤ S.1 231 20 ∧ S.1 231 20 ≤ 1) (hK : S.2.1 244 = K) (hV : S.2.1 247 = V) (hE : gE K T) (hc : S.1 231 24 = pz) (hcu : Hd (S.1 231 20 = 0 → 0 ≤ pz ∧ pz ≤ T - 1)) : Met l yX12_want (.code yX12_want cX12_want 2 none :: tb) (rmk 2 0 0) (sPc G 294 S [.ref (G.2.2.1 + 231), .int (iv sv)]) (sQv G 294 (fun u => dX G u ∧ Fr S u (pl [231]) ∧ FF S u (fl [20, 21, 24]) ∧ (Hd (u.1 231 20 = 0 → S.1 231 20 = 0 ∧ (kp pz = cd ∧ u.1 231 24 = pz + 1) ∧ pz < u.1 231 24 ∧ 0 ≤ u.1 231 24 ∧ u.1 231 24 ≤ T - 1) ∧ Hd (S.1 231 20 = 0 → u.1 231 20 ≠ 0 → ¬ kp pz = cd) ∧ (0 ≤ u.1 231 20 ∧ u.1 231 20 ≤ 1)))) 0 0 (sF G) := by
  refine sEnter (by decide) (Nat.le_of_ble_eq_true rfl) ?_
  intro p e s m args below meth c Cx hr hlk hnm hW ls hl
  have Cx : sC G p m c cX12_want 2 s args RX12 := Cx
  obtain ⟨hx, hb, hml, hown, hts⟩ := id Cx.1
  have hL : sL G [] := sL_nil
  have hl : lv_has ls 2 [(0, .ref (G.2.2.1 + 231)), (1, .int (iv sv))] := hl
  have hW0 := hW
  have hE1 := hE.1
  refine lv_aload_n hx hb dX12_want_0 rfl (lv_at hl 0 rfl) ?_
  have q_1 : (-2147483648) ≤ S.1 231 20 ∧ S.1 231 20 ≤ 2147483647 := hI.fi 20
  refine g_X12_270 Cx hW (k := 231) (by decide) rfl (v := S.1 231 20) rfl dX12_want_1 ?_
  refine r_if_ne (tgt := 24) hx hb ⟨(by omega), (by omega)⟩ dX12_want_4 (by decide) (fun c_2 => ?_) (fun c_2 => ?_)
  · refine lv_aload_n hx hb dX12_want_24 rfl (lv_at hl 0 rfl) ?_
    refine lv_dup hx hb dX12_want_25 rfl ?_
    have q_3 : (-2147483648) ≤ S.1 231 24 ∧ S.1 231 24 ≤ 2147483647 := hI.fi 24
    refine g_X12_315 Cx hW (k := 231) (by decide) rfl (v := S.1 231 24) rfl dX12_want_26 ?_
    refine lv_iconst (v := iv 1) hx hb dX12_want_29 (by decide) ?_
    refine r_iadd hx hb dX12_want_30 ?_
    obtain ⟨z_4, ez_4, hz_4, kz_4⟩ := iv_of (iv ((S.1 231 24) + 1))
    rw [ez_4]
    refine p_X12_315 Cx hW hL (k := 231) (by decide) rfl dX12_want_31 (fun H locs hW hL => ?_)
    have F_5 : Fr S (uF S 231 24 z_4) (pl [231]) := (Fr.rf : Fr S S (pl [231])).F rfl
    have g_6 : FF S (uF S 231 24 z_4) (fl [20, 21, 24]) := FF.F FF.rf rfl
    have i_7 : dX G (uF S 231 24 z_4) := hI.F (i := 24) (show (-2147483648) ≤ z_4 ∧ z_4 ≤ 2147483647 from ⟨by omega, by omega⟩)
    have lk_8 : (uF S 231 24 z_4).1 231 20 = S.1 231 20 := uF_ne (fun h => absurd h.2 (by decide))
    have lk_9 : (uF S 231 24 z_4).1 231 24 = z_4 := uF_on
    exact sVret Cx hr hlk hW hL ⟨i_7, F_5, g_6, ⟨(fun h => absurd h (by have e9 := (show (uF S 231 24 z_4).1 231 20 = S.1 231 20 from uF_ne (fun h => absurd h.2 (by decide))); omega)), (fun h h9 => by have e9 := (show (uF S 231 24 z_4).1 231 20 = S.1 231 20 from uF_ne (fun h => absurd h.2 (by decide))); exfalso; omega), (by have e3 := (show (uF S 231 24 z_4).1 231 20 = S.1 231 20 from uF_ne (fun h => absurd h.2 (by decide))); omega)⟩⟩ dX12_want_34
  · have b_10 := hcu (by have e9 := (show S.1 231 20 = S.1 231 20 from rfl); omega)
    refine lv_aload_n hx hb dX12_want_7 rfl (lv_at hl 0 rfl) ?_
    refine lv_iload_n hx hb dX12_want_8 rfl (lv_at hl 1 rfl) ?_
    have q_11 : (-2147483648) ≤ S.1 231 24 ∧ S.1 231 24 ≤ 2147483647 := hI.fi 24
    refine sBi (sV (As := [.int (iv sv)]) (rest := []) (k := 231) Cx (s_X12_isSign l G S (sv := sv) (K := K) (V := V) (pz := pz) hI (by omega) hK hV (by omega) (by omega)) (c_X12_318 Cx rfl rfl (rmk_ok (by omega) (by decide))) hW (by decide) rfl rfl rfl hl.1 rfl (Nat.le_of_ble_eq_true rfl) dX12_want_9 ⟨Nat.le_of_ble_eq_true rfl, Nat.le_of_ble_eq_true rfl⟩) hL (fun r_14 u_12 H locs k_13 hW hL => ?_)
    obtain ⟨eu_12, xu_12⟩ := k_13
    rw [eu_12] at hW
    refine r_if_ne (tgt := 24) hx hb ⟨(by omega), (by omega)⟩ dX12_want_12 (by decide) (fun c_15 => ?_) (fun c_15 => ?_)
    · refine lv_aload_n hx hb dX12_want_24 rfl (lv_at hl 0 rfl) ?_
      refine lv_dup hx hb dX12_want_25 rfl ?_
      refine g_X12_315 Cx hW (k := 231) (by decide) rfl (v := S.1 231 24) rfl dX12_want_26 ?_
      refine lv_iconst (v := iv 1) hx hb dX12_want_29 (by decide) ?_
      refine r_iadd hx hb dX12_want_30 ?_
      refine p_X12_315 Cx hW hL (k := 231) (by decide) rfl dX12_want_31 (fun H locs hW hL => ?_)
      have F_16 : Fr S (uF S 231 24 ((S.1 231 24) + 1)) (pl [231]) := (Fr.rf : Fr S S (pl [231])).F rfl
      have g_17 : FF S (uF S 231 24 ((S.1 231 24) + 1)) (fl [20, 21, 24]) := FF.F FF.rf rfl
      have i_18 : dX G (uF S 231 24 ((S.1 231 24) + 1)) := hI.F (i := 24) (show (-2147483648) ≤ (S.1 231 24) + 1 ∧ (S.1 231 24) + 1 ≤ 2147483647 from ⟨by omega, by omega⟩)
      have lk_19 : (uF S 231 24 ((S.1 231 24) + 1)).1 231 20 = S.1 231 20 := uF_ne (fun h => absurd h.2 (by decide))
      have lk_20 : (uF S 231 24 ((S.1 231 24) + 1)).1 231 24 = (S.1 231 24) + 1 := uF_on
      exact sVret Cx hr hlk hW hL ⟨i_18, F_16, g_17, ⟨(fun h => by have e8 := (show (uF S 231 24 ((S.1 231 24) + 1)).1 231 20 = S.1 231 20 from uF_ne (fun h => absurd h.2 (by decide))); have e7 := (show (uF S 231 24 ((S.1 231 24) + 1)).1 231 24 = (S.1 231 24) + 1 from uF_on); have n8 := hcu (by omega); have n9 := hE.nx (pz := pz) (hcu (by omega)) (by have z9 := (xu_12.2.1 (by omega)); unfold gS at z9; omega); exact ⟨by omega, ⟨(hkr.s (by omega) (by omega) hsc).mp (xu_12.2.1 (by omega)), by omega⟩, by omega, by omega, by omega⟩), (fun h h9 => by have e9 := (show (uF S 231 24 ((S.1 231 24) + 1)).1 231 20 = S.1 231 20 from uF_ne (fun h => absurd h.2 (by decide))); exfalso; omega), (by have e3 := (show (uF S 231 24 ((S.1 231 24) + 1)).1 231 20 = S.1 231 20 from uF_ne (fun h => absurd h.2 (by decide))); omega)⟩⟩ dX12_want_34
    · refine lv_aload_n hx hb dX12_want_15 rfl (lv_at hl 0 rfl) ?_
      refine lv_iconst (v := iv 1) hx hb dX12_want_16 (by decide) ?_
      refine lv_aload_n hx hb dX12_want_17 rfl (lv_at hl 0 rfl) ?_
      refine g_X12_315 Cx hW (k := 231) (by decide) rfl (v := S.1 231 24) rfl dX12_want_18 ?_
      refine sBv (sV (As := [.int (iv 1), .int (iv (S.1 231 24))]) (rest := []) (k := 231) Cx (q_X12_wrong l G S (cd := 1) (tk := S.1 231 24) hI (by omega) (by omega)) (c_X12_321 Cx rfl rfl (rmk_ok (by omega) (by decide))) hW (by decide) rfl rfl rfl hl.1 rfl (Nat.le_of_ble_eq_true rfl) dX12_want_21 ⟨Nat.le_of_ble_eq_true rfl, Nat.le_of_ble_eq_true rfl⟩) hL (fun u_21 H locs k_22 hW hL => ?_)
      obtain ⟨iu_21, fu_21, gu_21, xu_21⟩ := k_22
      have F_23 := (Fr.rf : Fr S S (pl [231])).trans fu_21
      have g_24 : FF S u_21 (fl [20, 21, 24]) := FF.trans FF.rf (FF.to gu_21 (fl_sub (by decide)))
      refine lv_aload_n hx hb dX12_want_24 rfl (lv_at hl 0 rfl) ?_
      refine lv_dup hx hb dX12_want_25 rfl ?_
      refine g_X12_315 Cx hW (k := 231) (by decide) rfl (v := S.1 231 24) (gu_21 24 rfl) dX12_want_26 ?_
      refine lv_iconst (v := iv 1) hx hb dX12_want_29 (by decide) ?_
      refine r_iadd hx hb dX12_want_30 ?_
      refine p_X12_315 Cx hW hL (k := 231) (by decide) rfl dX12_want_31 (fun H locs hW hL => ?_)
      have F_25 : Fr S (uF u_21 231 24 ((S.1 231 24) + 1)) (pl [231]) := F_23.F rfl
      have g_26 : FF S (uF u_21 231 24 ((S.1 231 24) + 1)) (fl [20, 21, 24]) := FF.F g_24 rfl
      have i_27 : dX G (uF u_21 231 24 ((S.1 231 24) + 1)) := iu_21.F (i := 24) (show (-2147483648) ≤ (S.1 231 24) + 1 ∧ (S.1 231 24) + 1 ≤ 2147483647 from ⟨by omega, by omega⟩)
      have q_28 : (-2147483648) ≤ u_21.1 231 20 ∧ u_21.1 231 20 ≤ 2147483647 := iu_21.fi 20
      have lk_29 : (uF u_21 231 24 ((S.1 231 24) + 1)).1 231 20 = u_21.1 231 20 := uF_ne (fun h => absurd h.2 (by decide))
      have lk_30 : (uF u_21 231 24 ((S.1 231 24) + 1)).1 231 24 = (S.1 231 24) + 1 := uF_on
      exact sVret Cx hr hlk hW hL ⟨i_27, F_25, g_26, ⟨(fun h => absurd h (by have e9 := (show (uF u_21 231 24 ((S.1 231 24) + 1)).1 231 20 = u_21.1 231 20 from uF_ne (fun h => absurd h.2 (by decide))); have a9 := xu_21; omega)), (fun h h9 z => by have n8 := hcu (by omega); exact (xu_12.2.2 (by omega)) ((hkr.s (by omega) (by omega) hsc).mpr z)), (by have e3 := (show (uF u_21 231 24 ((S.1 231 24) + 1)).1 231 20 = u_21.1 231 20 from uF_ne (fun h => absurd h.2 (by decide))); have e4 := xu_21; omega)⟩⟩ dX12_want_34

set_option maxRecDepth 100000 in
set_option maxHeartbeats 4000000 in
theorem q_X12_wantWord (l : Launch) (G : sG) (S : sS) {K V : Int → Int} {T pz : Int} {sv cd : Int} {kp vp : Int → Int} (hI : dX G S) (hsv : -2147483648 ≤ sv ∧ sv ≤ 2147483647) (hsc : (sv = 1 ∧ cd = 10) ∨ (sv = 4 ∧ cd = 11)) (hkr : Hd (KVq K V T kp vp)) (h01 : 0 ≤ S.1 231 20 ∧ S.1 231 20 ≤ 1) (hK : S.2.1 244 = K) (hV : S.2.1 247 = V) (hE : gE K T) (hc : S.1 231 24 = pz) (hcu : Hd (S.1 231 20 = 0 → 0 ≤ pz ∧ pz ≤ T - 1)) : Met l yX12_wantWord (.code yX12_wantWord cX12_wantWord 2 none :: tb) (rmk 2 0 0) (sPc G 294 S [.ref (G.2.2.1 + 231), .int (iv sv)]) (sQv G 294 (fun u => dX G u ∧ Fr S u (pl [231]) ∧ FF S u (fl [20, 21, 24]) ∧ (Hd (u.1 231 20 = 0 → S.1 231 20 = 0 ∧ (kp pz = cd ∧ u.1 231 24 = pz + 1) ∧ pz < u.1 231 24 ∧ 0 ≤ u.1 231 24 ∧ u.1 231 24 ≤ T - 1) ∧ Hd (S.1 231 20 = 0 → u.1 231 20 ≠ 0 → ¬ kp pz = cd) ∧ (0 ≤ u.1 231 20 ∧ u.1 231 20 ≤ 1)))) 0 0 (sF G) := by
  refine sEnter (by decide) (Nat.le_of_ble_eq_true rfl) ?_
  intro p e s m args below meth c Cx hr hlk hnm hW ls hl
  have Cx : sC G p m c cX12_wantWord 2 s args RX12 := Cx
  obtain ⟨hx, hb, hml, hown, hts⟩ := id Cx.1
  have hL : sL G [] := sL_nil
  have hl : lv_has ls 2 [(0, .ref (G.2.2.1 + 231)), (1, .int (iv sv))] := hl
  have hW0 := hW
  have hE1 := hE.1
  refine lv_aload_n hx hb dX12_wantWord_0 rfl (lv_at hl 0 rfl) ?_
  have q_1 : (-2147483648) ≤ S.1 231 20 ∧ S.1 231 20 ≤ 2147483647 := hI.fi 20
  refine g_X12_270 Cx hW (k := 231) (by decide) rfl (v := S.1 231 20) rfl dX12_wantWord_1 ?_
  refine r_if_ne (tgt := 24) hx hb ⟨(by omega), (by omega)⟩ dX12_wantWord_4 (by decide) (fun c_2 => ?_) (fun c_2 => ?_)
  · refine lv_aload_n hx hb dX12_wantWord_24 rfl (lv_at hl 0 rfl) ?_
    refine lv_dup hx hb dX12_wantWord_25 rfl ?_
    have q_3 : (-2147483648) ≤ S.1 231 24 ∧ S.1 231 24 ≤ 2147483647 := hI.fi 24
    refine g_X12_315 Cx hW (k := 231) (by decide) rfl (v := S.1 231 24) rfl dX12_wantWord_26 ?_
    refine lv_iconst (v := iv 1) hx hb dX12_wantWord_29 (by decide) ?_
    refine r_iadd hx hb dX12_wantWord_30 ?_
    obtain ⟨z_4, ez_4, hz_4, kz_4⟩ := iv_of (iv ((S.1 231 24) + 1))
    rw [ez_4]
    refine p_X12_315 Cx hW hL (k := 231) (by decide) rfl dX12_wantWord_31 (fun H locs hW hL => ?_)
    have F_5 : Fr S (uF S 231 24 z_4) (pl [231]) := (Fr.rf : Fr S S (pl [231])).F rfl
    have g_6 : FF S (uF S 231 24 z_4) (fl [20, 21, 24]) := FF.F FF.rf rfl
    have i_7 : dX G (uF S 231 24 z_4) := hI.F (i := 24) (show (-2147483648) ≤ z_4 ∧ z_4 ≤ 2147483647 from ⟨by omega, by omega⟩)
    have lk_8 : (uF S 231 24 z_4).1 231 20 = S.1 231 20 := uF_ne (fun h => absurd h.2 (by decide))
    have lk_9 : (uF S 231 24 z_4).1 231 24 = z_4 := uF_on
    exact sVret Cx hr hlk hW hL ⟨i_7, F_5, g_6, ⟨(fun h => absurd h (by have e9 := (show (uF S 231 24 z_4).1 231 20 = S.1 231 20 from uF_ne (fun h => absurd h.2 (by decide))); omega)), (fun h h9 => by have e9 := (show (uF S 231 24 z_4).1 231 20 = S.1 231 20 from uF_ne (fun h => absurd h.2 (by decide))); exfalso; omega), (by have e3 := (show (uF S 231 24 z_4).1 231 20 = S.1 231 20 from uF_ne (fun h => absurd h.2 (by decide))); omega)⟩⟩ dX12_wantWord_34
  · have b_10 := hcu (by have e9 := (show S.1 231 20 = S.1 231 20 from rfl); omega)
    refine lv_aload_n hx hb dX12_wantWord_7 rfl (lv_at hl 0 rfl) ?_
    refine lv_iload_n hx hb dX12_wantWord_8 rfl (lv_at hl 1 rfl) ?_
    have q_11 : (-2147483648) ≤ S.1 231 24 ∧ S.1 231 24 ≤ 2147483647 := hI.fi 24
    refine sBi (sV (As := [.int (iv sv)]) (rest := []) (k := 231) Cx (s_X12_isWord l G S (sv := sv) (K := K) (V := V) (pz := pz) hI (by omega) hK hV (by omega) (by omega)) (c_X12_325 Cx rfl rfl (rmk_ok (by omega) (by decide))) hW (by decide) rfl rfl rfl hl.1 rfl (Nat.le_of_ble_eq_true rfl) dX12_wantWord_9 ⟨Nat.le_of_ble_eq_true rfl, Nat.le_of_ble_eq_true rfl⟩) hL (fun r_14 u_12 H locs k_13 hW hL => ?_)
    obtain ⟨eu_12, xu_12⟩ := k_13
    rw [eu_12] at hW
    refine r_if_ne (tgt := 24) hx hb ⟨(by omega), (by omega)⟩ dX12_wantWord_12 (by decide) (fun c_15 => ?_) (fun c_15 => ?_)
    · refine lv_aload_n hx hb dX12_wantWord_24 rfl (lv_at hl 0 rfl) ?_
      refine lv_dup hx hb dX12_wantWord_25 rfl ?_
      refine g_X12_315 Cx hW (k := 231) (by decide) rfl (v := S.1 231 24) rfl dX12_wantWord_26 ?_
      refine lv_iconst (v := iv 1) hx hb dX12_wantWord_29 (by decide) ?_
      refine r_iadd hx hb dX12_wantWord_30 ?_
      refine p_X12_315 Cx hW hL (k := 231) (by decide) rfl dX12_wantWord_31 (fun H locs hW hL => ?_)
      have F_16 : Fr S (uF S 231 24 ((S.1 231 24) + 1)) (pl [231]) := (Fr.rf : Fr S S (pl [231])).F rfl
      have g_17 : FF S (uF S 231 24 ((S.1 231 24) + 1)) (fl [20, 21, 24]) := FF.F FF.rf rfl
      have i_18 : dX G (uF S 231 24 ((S.1 231 24) + 1)) := hI.F (i := 24) (show (-2147483648) ≤ (S.1 231 24) + 1 ∧ (S.1 231 24) + 1 ≤ 2147483647 from ⟨by omega, by omega⟩)
      have lk_19 : (uF S 231 24 ((S.1 231 24) + 1)).1 231 20 = S.1 231 20 := uF_ne (fun h => absurd h.2 (by decide))
      have lk_20 : (uF S 231 24 ((S.1 231 24) + 1)).1 231 24 = (S.1 231 24) + 1 := uF_on
      exact sVret Cx hr hlk hW hL ⟨i_18, F_16, g_17, ⟨(fun h => by have e8 := (show (uF S 231 24 ((S.1 231 24) + 1)).1 231 20 = S.1 231 20 from uF_ne (fun h => absurd h.2 (by decide))); have e7 := (show (uF S 231 24 ((S.1 231 24) + 1)).1 231 24 = (S.1 231 24) + 1 from uF_on); have n8 := hcu (by omega); have n9 := hE.nx (pz := pz) (hcu (by omega)) (by have z9 := (xu_12.2.1 (by omega)); unfold gW at z9; omega); exact ⟨by omega, ⟨(hkr.w (by omega) (by omega) hsc).mp (xu_12.2.1 (by omega)), by omega⟩, by omega, by omega, by omega⟩), (fun h h9 => by have e9 := (show (uF S 231 24 ((S.1 231 24) + 1)).1 231 20 = S.1 231 20 from uF_ne (fun h => absurd h.2 (by decide))); exfalso; omega), (by have e3 := (show (uF S 231 24 ((S.1 231 24) + 1)).1 231 20 = S.1 231 20 from uF_ne (fun h => absurd h.2 (by decide))); omega)⟩⟩ dX12_wantWord_34
    · refine lv_aload_n hx hb dX12_wantWord_15 rfl (lv_at hl 0 rfl) ?_
      refine lv_iconst (v := iv 1) hx hb dX12_wantWord_16 (by decide) ?_
      refine lv_aload_n hx hb dX12_wantWord_17 rfl (lv_at hl 0 rfl) ?_
      refine g_X12_315 Cx hW (k := 231) (by decide) rfl (v := S.1 231 24) rfl dX12_wantWord_18 ?_
      refine sBv (sV (As := [.int (iv 1), .int (iv (S.1 231 24))]) (rest := []) (k := 231) Cx (q_X12_wrong l G S (cd := 1) (tk := S.1 231 24) hI (by omega) (by omega)) (c_X12_321 Cx rfl rfl (rmk_ok (by omega) (by decide))) hW (by decide) rfl rfl rfl hl.1 rfl (Nat.le_of_ble_eq_true rfl) dX12_wantWord_21 ⟨Nat.le_of_ble_eq_true rfl, Nat.le_of_ble_eq_true rfl⟩) hL (fun u_21 H locs k_22 hW hL => ?_)
      obtain ⟨iu_21, fu_21, gu_21, xu_21⟩ := k_22
      have F_23 := (Fr.rf : Fr S S (pl [231])).trans fu_21
      have g_24 : FF S u_21 (fl [20, 21, 24]) := FF.trans FF.rf (FF.to gu_21 (fl_sub (by decide)))
      refine lv_aload_n hx hb dX12_wantWord_24 rfl (lv_at hl 0 rfl) ?_
      refine lv_dup hx hb dX12_wantWord_25 rfl ?_
      refine g_X12_315 Cx hW (k := 231) (by decide) rfl (v := S.1 231 24) (gu_21 24 rfl) dX12_wantWord_26 ?_
      refine lv_iconst (v := iv 1) hx hb dX12_wantWord_29 (by decide) ?_
      refine r_iadd hx hb dX12_wantWord_30 ?_
      refine p_X12_315 Cx hW hL (k := 231) (by decide) rfl dX12_wantWord_31 (fun H locs hW hL => ?_)
      have F_25 : Fr S (uF u_21 231 24 ((S.1 231 24) + 1)) (pl [231]) := F_23.F rfl
      have g_26 : FF S (uF u_21 231 24 ((S.1 231 24) + 1)) (fl [20, 21, 24]) := FF.F g_24 rfl
      have i_27 : dX G (uF u_21 231 24 ((S.1 231 24) + 1)) := iu_21.F (i := 24) (show (-2147483648) ≤ (S.1 231 24) + 1 ∧ (S.1 231 24) + 1 ≤ 2147483647 from ⟨by omega, by omega⟩)
      have q_28 : (-2147483648) ≤ u_21.1 231 20 ∧ u_21.1 231 20 ≤ 2147483647 := iu_21.fi 20
      have lk_29 : (uF u_21 231 24 ((S.1 231 24) + 1)).1 231 20 = u_21.1 231 20 := uF_ne (fun h => absurd h.2 (by decide))
      have lk_30 : (uF u_21 231 24 ((S.1 231 24) + 1)).1 231 24 = (S.1 231 24) + 1 := uF_on
      exact sVret Cx hr hlk hW hL ⟨i_27, F_25, g_26, ⟨(fun h => absurd h (by have e9 := (show (uF u_21 231 24 ((S.1 231 24) + 1)).1 231 20 = u_21.1 231 20 from uF_ne (fun h => absurd h.2 (by decide))); have a9 := xu_21; omega)), (fun h h9 z => by have n8 := hcu (by omega); exact (xu_12.2.2 (by omega)) ((hkr.w (by omega) (by omega) hsc).mpr z)), (by have e3 := (show (uF u_21 231 24 ((S.1 231 24) + 1)).1 231 20 = u_21.1 231 20 from uF_ne (fun h => absurd h.2 (by decide))); have e4 := xu_21; omega)⟩⟩ dX12_wantWord_34

set_option maxRecDepth 100000 in
set_option maxHeartbeats 4000000 in
theorem q_X12_wantKind (l : Launch) (G : sG) (S : sS) {K V : Int → Int} {T pz : Int} {k : Int} {kp vp : Int → Int} (hI : dX G S) (hk : k = 2) (hkr : Hd (KVq K V T kp vp)) (h01 : 0 ≤ S.1 231 20 ∧ S.1 231 20 ≤ 1) (hK : S.2.1 244 = K) (hV : S.2.1 247 = V) (hE : gE K T) (hc : S.1 231 24 = pz) (hcu : Hd (S.1 231 20 = 0 → 0 ≤ pz ∧ pz ≤ T - 1)) : Met l yX12_wantKind (.code yX12_wantKind cX12_wantKind 2 none :: tb) (rmk 2 0 0) (sPc G 294 S [.ref (G.2.2.1 + 231), .int (iv k)]) (sQv G 294 (fun u => dX G u ∧ Fr S u (pl [231]) ∧ FF S u (fl [20, 21, 24]) ∧ (Hd (u.1 231 20 = 0 → S.1 231 20 = 0 ∧ (kp pz = 2 ∧ u.1 231 24 = pz + 1) ∧ pz < u.1 231 24 ∧ 0 ≤ u.1 231 24 ∧ u.1 231 24 ≤ T - 1) ∧ Hd (S.1 231 20 = 0 → u.1 231 20 ≠ 0 → ¬ kp pz = 2) ∧ (0 ≤ u.1 231 20 ∧ u.1 231 20 ≤ 1)))) 0 0 (sF G) := by
  refine sEnter (by decide) (Nat.le_of_ble_eq_true rfl) ?_
  intro p e s m args below meth c Cx hr hlk hnm hW ls hl
  have Cx : sC G p m c cX12_wantKind 2 s args RX12 := Cx
  obtain ⟨hx, hb, hml, hown, hts⟩ := id Cx.1
  have hL : sL G [] := sL_nil
  have hl : lv_has ls 2 [(0, .ref (G.2.2.1 + 231)), (1, .int (iv k))] := hl
  have hW0 := hW
  have hE1 := hE.1
  refine lv_aload_n hx hb dX12_wantKind_0 rfl (lv_at hl 0 rfl) ?_
  have q_1 : (-2147483648) ≤ S.1 231 20 ∧ S.1 231 20 ≤ 2147483647 := hI.fi 20
  refine g_X12_270 Cx hW (k := 231) (by decide) rfl (v := S.1 231 20) rfl dX12_wantKind_1 ?_
  refine r_if_ne (tgt := 29) hx hb ⟨(by omega), (by omega)⟩ dX12_wantKind_4 (by decide) (fun c_2 => ?_) (fun c_2 => ?_)
  · refine lv_aload_n hx hb dX12_wantKind_29 rfl (lv_at hl 0 rfl) ?_
    refine lv_dup hx hb dX12_wantKind_30 rfl ?_
    have q_3 : (-2147483648) ≤ S.1 231 24 ∧ S.1 231 24 ≤ 2147483647 := hI.fi 24
    refine g_X12_315 Cx hW (k := 231) (by decide) rfl (v := S.1 231 24) rfl dX12_wantKind_31 ?_
    refine lv_iconst (v := iv 1) hx hb dX12_wantKind_34 (by decide) ?_
    refine r_iadd hx hb dX12_wantKind_35 ?_
    obtain ⟨z_4, ez_4, hz_4, kz_4⟩ := iv_of (iv ((S.1 231 24) + 1))
    rw [ez_4]
    refine p_X12_315 Cx hW hL (k := 231) (by decide) rfl dX12_wantKind_36 (fun H locs hW hL => ?_)
    have F_5 : Fr S (uF S 231 24 z_4) (pl [231]) := (Fr.rf : Fr S S (pl [231])).F rfl
    have g_6 : FF S (uF S 231 24 z_4) (fl [20, 21, 24]) := FF.F FF.rf rfl
    have i_7 : dX G (uF S 231 24 z_4) := hI.F (i := 24) (show (-2147483648) ≤ z_4 ∧ z_4 ≤ 2147483647 from ⟨by omega, by omega⟩)
    have lk_8 : (uF S 231 24 z_4).1 231 20 = S.1 231 20 := uF_ne (fun h => absurd h.2 (by decide))
    have lk_9 : (uF S 231 24 z_4).1 231 24 = z_4 := uF_on
    exact sVret Cx hr hlk hW hL ⟨i_7, F_5, g_6, ⟨(fun h => absurd h (by have e9 := (show (uF S 231 24 z_4).1 231 20 = S.1 231 20 from uF_ne (fun h => absurd h.2 (by decide))); omega)), (fun h h9 => by have e9 := (show (uF S 231 24 z_4).1 231 20 = S.1 231 20 from uF_ne (fun h => absurd h.2 (by decide))); exfalso; omega), (by have e3 := (show (uF S 231 24 z_4).1 231 20 = S.1 231 20 from uF_ne (fun h => absurd h.2 (by decide))); omega)⟩⟩ dX12_wantKind_39
  · have b_10 := hcu (by have e9 := (show S.1 231 20 = S.1 231 20 from rfl); omega)
    refine lv_aload_n hx hb dX12_wantKind_7 rfl (lv_at hl 0 rfl) ?_
    refine g_X12_47 Cx hW (k := 231) (by decide) rfl (v := .ref (G.2.2.1 + 244)) (rd_15 hI) dX12_wantKind_8 ?_
    refine lv_aload_n hx hb dX12_wantKind_11 rfl (lv_at hl 0 rfl) ?_
    have q_11 : (-2147483648) ≤ S.1 231 24 ∧ S.1 231 24 ≤ 2147483647 := hI.fi 24
    refine g_X12_315 Cx hW (k := 231) (by decide) rfl (v := S.1 231 24) rfl dX12_wantKind_12 ?_
    refine rIald Cx hW (k := 244) (by decide) rfl (by decide) (by omega) (by omega) dX12_wantKind_15 ?_
    have q_12 : (-2147483648) ≤ S.2.1 244 (S.1 231 24) ∧ S.2.1 244 (S.1 231 24) ≤ 2147483647 := hI.ai 244 (S.1 231 24)
    refine r_i (b := S.2.1 244 (S.1 231 24)) rfl ?_
    have hr1 : K pz = S.2.1 244 (S.1 231 24) := by rw [← hK, ← hc]
    refine lv_iload_n hx hb dX12_wantKind_16 rfl (lv_at hl 1 rfl) ?_
    refine r_icmp_eq (tgt := 29) hx hb ⟨(by omega), (by omega)⟩ ⟨(by omega), (by omega)⟩ dX12_wantKind_17 (by decide) (fun c_13 => ?_) (fun c_13 => ?_)
    · refine lv_aload_n hx hb dX12_wantKind_29 rfl (lv_at hl 0 rfl) ?_
      refine lv_dup hx hb dX12_wantKind_30 rfl ?_
      refine g_X12_315 Cx hW (k := 231) (by decide) rfl (v := S.1 231 24) rfl dX12_wantKind_31 ?_
      refine lv_iconst (v := iv 1) hx hb dX12_wantKind_34 (by decide) ?_
      refine r_iadd hx hb dX12_wantKind_35 ?_
      refine p_X12_315 Cx hW hL (k := 231) (by decide) rfl dX12_wantKind_36 (fun H locs hW hL => ?_)
      have F_14 : Fr S (uF S 231 24 ((S.1 231 24) + 1)) (pl [231]) := (Fr.rf : Fr S S (pl [231])).F rfl
      have g_15 : FF S (uF S 231 24 ((S.1 231 24) + 1)) (fl [20, 21, 24]) := FF.F FF.rf rfl
      have i_16 : dX G (uF S 231 24 ((S.1 231 24) + 1)) := hI.F (i := 24) (show (-2147483648) ≤ (S.1 231 24) + 1 ∧ (S.1 231 24) + 1 ≤ 2147483647 from ⟨by omega, by omega⟩)
      have lk_17 : (uF S 231 24 ((S.1 231 24) + 1)).1 231 20 = S.1 231 20 := uF_ne (fun h => absurd h.2 (by decide))
      have lk_18 : (uF S 231 24 ((S.1 231 24) + 1)).1 231 24 = (S.1 231 24) + 1 := uF_on
      exact sVret Cx hr hlk hW hL ⟨i_16, F_14, g_15, ⟨(fun h => by have e8 := (show (uF S 231 24 ((S.1 231 24) + 1)).1 231 20 = S.1 231 20 from uF_ne (fun h => absurd h.2 (by decide))); have e7 := (show (uF S 231 24 ((S.1 231 24) + 1)).1 231 24 = (S.1 231 24) + 1 from uF_on); have n8 := hcu (by omega); have n9 := hE.nx (pz := pz) (hcu (by omega)) (by omega); exact ⟨by omega, ⟨(hkr.n (by omega) (by omega)).mp (by omega), by omega⟩, by omega, by omega, by omega⟩), (fun h h9 => by have e9 := (show (uF S 231 24 ((S.1 231 24) + 1)).1 231 20 = S.1 231 20 from uF_ne (fun h => absurd h.2 (by decide))); exfalso; omega), (by have e3 := (show (uF S 231 24 ((S.1 231 24) + 1)).1 231 20 = S.1 231 20 from uF_ne (fun h => absurd h.2 (by decide))); omega)⟩⟩ dX12_wantKind_39
    · refine lv_aload_n hx hb dX12_wantKind_20 rfl (lv_at hl 0 rfl) ?_
      refine lv_iconst (v := iv 1) hx hb dX12_wantKind_21 (by decide) ?_
      refine lv_aload_n hx hb dX12_wantKind_22 rfl (lv_at hl 0 rfl) ?_
      refine g_X12_315 Cx hW (k := 231) (by decide) rfl (v := S.1 231 24) rfl dX12_wantKind_23 ?_
      refine sBv (sV (As := [.int (iv 1), .int (iv (S.1 231 24))]) (rest := []) (k := 231) Cx (q_X12_wrong l G S (cd := 1) (tk := S.1 231 24) hI (by omega) (by omega)) (c_X12_321 Cx rfl rfl (rmk_ok (by omega) (by decide))) hW (by decide) rfl rfl rfl hl.1 rfl (Nat.le_of_ble_eq_true rfl) dX12_wantKind_26 ⟨Nat.le_of_ble_eq_true rfl, Nat.le_of_ble_eq_true rfl⟩) hL (fun u_19 H locs k_20 hW hL => ?_)
      obtain ⟨iu_19, fu_19, gu_19, xu_19⟩ := k_20
      have F_21 := (Fr.rf : Fr S S (pl [231])).trans fu_19
      have g_22 : FF S u_19 (fl [20, 21, 24]) := FF.trans FF.rf (FF.to gu_19 (fl_sub (by decide)))
      refine lv_aload_n hx hb dX12_wantKind_29 rfl (lv_at hl 0 rfl) ?_
      refine lv_dup hx hb dX12_wantKind_30 rfl ?_
      refine g_X12_315 Cx hW (k := 231) (by decide) rfl (v := S.1 231 24) (gu_19 24 rfl) dX12_wantKind_31 ?_
      refine lv_iconst (v := iv 1) hx hb dX12_wantKind_34 (by decide) ?_
      refine r_iadd hx hb dX12_wantKind_35 ?_
      refine p_X12_315 Cx hW hL (k := 231) (by decide) rfl dX12_wantKind_36 (fun H locs hW hL => ?_)
      have F_23 : Fr S (uF u_19 231 24 ((S.1 231 24) + 1)) (pl [231]) := F_21.F rfl
      have g_24 : FF S (uF u_19 231 24 ((S.1 231 24) + 1)) (fl [20, 21, 24]) := FF.F g_22 rfl
      have i_25 : dX G (uF u_19 231 24 ((S.1 231 24) + 1)) := iu_19.F (i := 24) (show (-2147483648) ≤ (S.1 231 24) + 1 ∧ (S.1 231 24) + 1 ≤ 2147483647 from ⟨by omega, by omega⟩)
      have q_26 : (-2147483648) ≤ u_19.1 231 20 ∧ u_19.1 231 20 ≤ 2147483647 := iu_19.fi 20
      have lk_27 : (uF u_19 231 24 ((S.1 231 24) + 1)).1 231 20 = u_19.1 231 20 := uF_ne (fun h => absurd h.2 (by decide))
      have lk_28 : (uF u_19 231 24 ((S.1 231 24) + 1)).1 231 24 = (S.1 231 24) + 1 := uF_on
      exact sVret Cx hr hlk hW hL ⟨i_25, F_23, g_24, ⟨(fun h => absurd h (by have e9 := (show (uF u_19 231 24 ((S.1 231 24) + 1)).1 231 20 = u_19.1 231 20 from uF_ne (fun h => absurd h.2 (by decide))); have a9 := xu_19; omega)), (fun h h9 z => by have n8 := hcu (by omega); have z8 := (hkr.n (by omega) (by omega)).mpr z; omega), (by have e3 := (show (uF u_19 231 24 ((S.1 231 24) + 1)).1 231 20 = u_19.1 231 20 from uF_ne (fun h => absurd h.2 (by decide))); have e4 := xu_19; omega)⟩⟩ dX12_wantKind_39

set_option maxRecDepth 100000 in
set_option maxHeartbeats 4000000 in
theorem q_X12_wantAbove (l : Launch) (G : sG) (S : sS) {K V : Int → Int} {T pz : Int}  {kp vp : Int → Int} (hI : dX G S) (hkr : Hd (KVq K V T kp vp)) (h01 : 0 ≤ S.1 231 20 ∧ S.1 231 20 ≤ 1) (hK : S.2.1 244 = K) (hV : S.2.1 247 = V) (hE : gE K T) (hc : S.1 231 24 = pz) (hcu : Hd (S.1 231 20 = 0 → 0 ≤ pz ∧ pz ≤ T - 1)) : Met l yX12_wantAbove (.code yX12_wantAbove cX12_wantAbove 1 none :: tb) (rmk 2 0 0) (sPc G 294 S [.ref (G.2.2.1 + 231)]) (sQv G 294 (fun u => dX G u ∧ Fr S u (pl [231]) ∧ FF S u (fl [20, 21, 24]) ∧ (Hd (u.1 231 20 = 0 → S.1 231 20 = 0 ∧ (gAb kp vp pz ∧ u.1 231 24 = pz + 1) ∧ pz < u.1 231 24 ∧ 0 ≤ u.1 231 24 ∧ u.1 231 24 ≤ T - 1) ∧ Hd (S.1 231 20 = 0 → u.1 231 20 ≠ 0 → ¬ gAb kp vp pz) ∧ (0 ≤ u.1 231 20 ∧ u.1 231 20 ≤ 1)))) 0 0 (sF G) := by
  refine sEnter (by decide) (Nat.le_of_ble_eq_true rfl) ?_
  intro p e s m args below meth c Cx hr hlk hnm hW ls hl
  have Cx : sC G p m c cX12_wantAbove 1 s args RX12 := Cx
  obtain ⟨hx, hb, hml, hown, hts⟩ := id Cx.1
  have hL : sL G [] := sL_nil
  have hl : lv_has ls 1 [(0, .ref (G.2.2.1 + 231))] := hl
  have hW0 := hW
  have hE1 := hE.1
  refine lv_aload_n hx hb dX12_wantAbove_0 rfl (lv_at hl 0 rfl) ?_
  have q_1 : (-2147483648) ≤ S.1 231 20 ∧ S.1 231 20 ≤ 2147483647 := hI.fi 20
  refine g_X12_270 Cx hW (k := 231) (by decide) rfl (v := S.1 231 20) rfl dX12_wantAbove_1 ?_
  refine r_if_ne (tgt := 41) hx hb ⟨(by omega), (by omega)⟩ dX12_wantAbove_4 (by decide) (fun c_2 => ?_) (fun c_2 => ?_)
  · refine lv_aload_n hx hb dX12_wantAbove_41 rfl (lv_at hl 0 rfl) ?_
    refine lv_dup hx hb dX12_wantAbove_42 rfl ?_
    have q_3 : (-2147483648) ≤ S.1 231 24 ∧ S.1 231 24 ≤ 2147483647 := hI.fi 24
    refine g_X12_315 Cx hW (k := 231) (by decide) rfl (v := S.1 231 24) rfl dX12_wantAbove_43 ?_
    refine lv_iconst (v := iv 1) hx hb dX12_wantAbove_46 (by decide) ?_
    refine r_iadd hx hb dX12_wantAbove_47 ?_
    obtain ⟨z_4, ez_4, hz_4, kz_4⟩ := iv_of (iv ((S.1 231 24) + 1))
    rw [ez_4]
    refine p_X12_315 Cx hW hL (k := 231) (by decide) rfl dX12_wantAbove_48 (fun H locs hW hL => ?_)
    have F_5 : Fr S (uF S 231 24 z_4) (pl [231]) := (Fr.rf : Fr S S (pl [231])).F rfl
    have g_6 : FF S (uF S 231 24 z_4) (fl [20, 21, 24]) := FF.F FF.rf rfl
    have i_7 : dX G (uF S 231 24 z_4) := hI.F (i := 24) (show (-2147483648) ≤ z_4 ∧ z_4 ≤ 2147483647 from ⟨by omega, by omega⟩)
    have lk_8 : (uF S 231 24 z_4).1 231 20 = S.1 231 20 := uF_ne (fun h => absurd h.2 (by decide))
    have lk_9 : (uF S 231 24 z_4).1 231 24 = z_4 := uF_on
    exact sVret Cx hr hlk hW hL ⟨i_7, F_5, g_6, ⟨(fun h => absurd h (by have e9 := (show (uF S 231 24 z_4).1 231 20 = S.1 231 20 from uF_ne (fun h => absurd h.2 (by decide))); omega)), (fun h h9 => by have e9 := (show (uF S 231 24 z_4).1 231 20 = S.1 231 20 from uF_ne (fun h => absurd h.2 (by decide))); exfalso; omega), (by have e3 := (show (uF S 231 24 z_4).1 231 20 = S.1 231 20 from uF_ne (fun h => absurd h.2 (by decide))); omega)⟩⟩ dX12_wantAbove_51
  · have b_10 := hcu (by have e9 := (show S.1 231 20 = S.1 231 20 from rfl); omega)
    refine lv_aload_n hx hb dX12_wantAbove_7 rfl (lv_at hl 0 rfl) ?_
    refine g_X12_47 Cx hW (k := 231) (by decide) rfl (v := .ref (G.2.2.1 + 244)) (rd_15 hI) dX12_wantAbove_8 ?_
    refine lv_aload_n hx hb dX12_wantAbove_11 rfl (lv_at hl 0 rfl) ?_
    have q_11 : (-2147483648) ≤ S.1 231 24 ∧ S.1 231 24 ≤ 2147483647 := hI.fi 24
    refine g_X12_315 Cx hW (k := 231) (by decide) rfl (v := S.1 231 24) rfl dX12_wantAbove_12 ?_
    refine rIald Cx hW (k := 244) (by decide) rfl (by decide) (by omega) (by omega) dX12_wantAbove_15 ?_
    have q_12 : (-2147483648) ≤ S.2.1 244 (S.1 231 24) ∧ S.2.1 244 (S.1 231 24) ≤ 2147483647 := hI.ai 244 (S.1 231 24)
    refine r_i (b := S.2.1 244 (S.1 231 24)) rfl ?_
    have hr1 : K pz = S.2.1 244 (S.1 231 24) := by rw [← hK, ← hc]
    refine lv_iconst (v := iv 2) hx hb dX12_wantAbove_16 (by decide) ?_
    refine r_icmp_ne (tgt := 32) hx hb ⟨(by omega), (by omega)⟩ ⟨(by omega), (by omega)⟩ dX12_wantAbove_17 (by decide) (fun c_13 => ?_) (fun c_13 => ?_)
    · refine lv_aload_n hx hb dX12_wantAbove_32 rfl (lv_at hl 0 rfl) ?_
      refine lv_iconst (v := iv 1) hx hb dX12_wantAbove_33 (by decide) ?_
      refine lv_aload_n hx hb dX12_wantAbove_34 rfl (lv_at hl 0 rfl) ?_
      refine g_X12_315 Cx hW (k := 231) (by decide) rfl (v := S.1 231 24) rfl dX12_wantAbove_35 ?_
      refine sBv (sV (As := [.int (iv 1), .int (iv (S.1 231 24))]) (rest := []) (k := 231) Cx (q_X12_wrong l G S (cd := 1) (tk := S.1 231 24) hI (by omega) (by omega)) (c_X12_321 Cx rfl rfl (rmk_ok (by omega) (by decide))) hW (by decide) rfl rfl rfl hl.1 rfl (Nat.le_of_ble_eq_true rfl) dX12_wantAbove_38 ⟨Nat.le_of_ble_eq_true rfl, Nat.le_of_ble_eq_true rfl⟩) hL (fun u_14 H locs k_15 hW hL => ?_)
      obtain ⟨iu_14, fu_14, gu_14, xu_14⟩ := k_15
      have F_16 := (Fr.rf : Fr S S (pl [231])).trans fu_14
      have g_17 : FF S u_14 (fl [20, 21, 24]) := FF.trans FF.rf (FF.to gu_14 (fl_sub (by decide)))
      refine lv_aload_n hx hb dX12_wantAbove_41 rfl (lv_at hl 0 rfl) ?_
      refine lv_dup hx hb dX12_wantAbove_42 rfl ?_
      refine g_X12_315 Cx hW (k := 231) (by decide) rfl (v := S.1 231 24) (gu_14 24 rfl) dX12_wantAbove_43 ?_
      refine lv_iconst (v := iv 1) hx hb dX12_wantAbove_46 (by decide) ?_
      refine r_iadd hx hb dX12_wantAbove_47 ?_
      refine p_X12_315 Cx hW hL (k := 231) (by decide) rfl dX12_wantAbove_48 (fun H locs hW hL => ?_)
      have F_18 : Fr S (uF u_14 231 24 ((S.1 231 24) + 1)) (pl [231]) := F_16.F rfl
      have g_19 : FF S (uF u_14 231 24 ((S.1 231 24) + 1)) (fl [20, 21, 24]) := FF.F g_17 rfl
      have i_20 : dX G (uF u_14 231 24 ((S.1 231 24) + 1)) := iu_14.F (i := 24) (show (-2147483648) ≤ (S.1 231 24) + 1 ∧ (S.1 231 24) + 1 ≤ 2147483647 from ⟨by omega, by omega⟩)
      have q_21 : (-2147483648) ≤ u_14.1 231 20 ∧ u_14.1 231 20 ≤ 2147483647 := iu_14.fi 20
      have lk_22 : (uF u_14 231 24 ((S.1 231 24) + 1)).1 231 20 = u_14.1 231 20 := uF_ne (fun h => absurd h.2 (by decide))
      have lk_23 : (uF u_14 231 24 ((S.1 231 24) + 1)).1 231 24 = (S.1 231 24) + 1 := uF_on
      exact sVret Cx hr hlk hW hL ⟨i_20, F_18, g_19, ⟨(fun h => absurd h (by have e9 := (show (uF u_14 231 24 ((S.1 231 24) + 1)).1 231 20 = u_14.1 231 20 from uF_ne (fun h => absurd h.2 (by decide))); have a9 := xu_14; omega)), (fun h h9 z => by have n8 := hcu (by omega); have z8 := (hkr.a (by omega) (by omega)).mpr z; omega), (by have e3 := (show (uF u_14 231 24 ((S.1 231 24) + 1)).1 231 20 = u_14.1 231 20 from uF_ne (fun h => absurd h.2 (by decide))); have e4 := xu_14; omega)⟩⟩ dX12_wantAbove_51
    · refine lv_aload_n hx hb dX12_wantAbove_20 rfl (lv_at hl 0 rfl) ?_
      refine g_X12_56 Cx hW (k := 231) (by decide) rfl (v := .ref (G.2.2.1 + 247)) (rd_18 hI) dX12_wantAbove_21 ?_
      refine lv_aload_n hx hb dX12_wantAbove_24 rfl (lv_at hl 0 rfl) ?_
      refine g_X12_315 Cx hW (k := 231) (by decide) rfl (v := S.1 231 24) rfl dX12_wantAbove_25 ?_
      refine rIald Cx hW (k := 247) (by decide) rfl (by decide) (by omega) (by omega) dX12_wantAbove_28 ?_
      have q_24 : (-2147483648) ≤ S.2.1 247 (S.1 231 24) ∧ S.2.1 247 (S.1 231 24) ≤ 2147483647 := hI.ai 247 (S.1 231 24)
      refine r_i (b := S.2.1 247 (S.1 231 24)) rfl ?_
      have hr2 : V pz = S.2.1 247 (S.1 231 24) := by rw [← hV, ← hc]
      refine r_if_gt (tgt := 41) hx hb ⟨(by omega), (by omega)⟩ dX12_wantAbove_29 (by decide) (fun c_25 => ?_) (fun c_25 => ?_)
      · refine lv_aload_n hx hb dX12_wantAbove_41 rfl (lv_at hl 0 rfl) ?_
        refine lv_dup hx hb dX12_wantAbove_42 rfl ?_
        refine g_X12_315 Cx hW (k := 231) (by decide) rfl (v := S.1 231 24) rfl dX12_wantAbove_43 ?_
        refine lv_iconst (v := iv 1) hx hb dX12_wantAbove_46 (by decide) ?_
        refine r_iadd hx hb dX12_wantAbove_47 ?_
        refine p_X12_315 Cx hW hL (k := 231) (by decide) rfl dX12_wantAbove_48 (fun H locs hW hL => ?_)
        have F_26 : Fr S (uF S 231 24 ((S.1 231 24) + 1)) (pl [231]) := (Fr.rf : Fr S S (pl [231])).F rfl
        have g_27 : FF S (uF S 231 24 ((S.1 231 24) + 1)) (fl [20, 21, 24]) := FF.F FF.rf rfl
        have i_28 : dX G (uF S 231 24 ((S.1 231 24) + 1)) := hI.F (i := 24) (show (-2147483648) ≤ (S.1 231 24) + 1 ∧ (S.1 231 24) + 1 ≤ 2147483647 from ⟨by omega, by omega⟩)
        have lk_29 : (uF S 231 24 ((S.1 231 24) + 1)).1 231 20 = S.1 231 20 := uF_ne (fun h => absurd h.2 (by decide))
        have lk_30 : (uF S 231 24 ((S.1 231 24) + 1)).1 231 24 = (S.1 231 24) + 1 := uF_on
        exact sVret Cx hr hlk hW hL ⟨i_28, F_26, g_27, ⟨(fun h => by have e8 := (show (uF S 231 24 ((S.1 231 24) + 1)).1 231 20 = S.1 231 20 from uF_ne (fun h => absurd h.2 (by decide))); have e7 := (show (uF S 231 24 ((S.1 231 24) + 1)).1 231 24 = (S.1 231 24) + 1 from uF_on); have n8 := hcu (by omega); have n9 := hE.nx (pz := pz) (hcu (by omega)) (by omega); exact ⟨by omega, ⟨(hkr.a (by omega) (by omega)).mp ⟨by omega, by omega⟩, by omega⟩, by omega, by omega, by omega⟩), (fun h h9 => by have e9 := (show (uF S 231 24 ((S.1 231 24) + 1)).1 231 20 = S.1 231 20 from uF_ne (fun h => absurd h.2 (by decide))); exfalso; omega), (by have e3 := (show (uF S 231 24 ((S.1 231 24) + 1)).1 231 20 = S.1 231 20 from uF_ne (fun h => absurd h.2 (by decide))); omega)⟩⟩ dX12_wantAbove_51
      · refine lv_aload_n hx hb dX12_wantAbove_32 rfl (lv_at hl 0 rfl) ?_
        refine lv_iconst (v := iv 1) hx hb dX12_wantAbove_33 (by decide) ?_
        refine lv_aload_n hx hb dX12_wantAbove_34 rfl (lv_at hl 0 rfl) ?_
        refine g_X12_315 Cx hW (k := 231) (by decide) rfl (v := S.1 231 24) rfl dX12_wantAbove_35 ?_
        refine sBv (sV (As := [.int (iv 1), .int (iv (S.1 231 24))]) (rest := []) (k := 231) Cx (q_X12_wrong l G S (cd := 1) (tk := S.1 231 24) hI (by omega) (by omega)) (c_X12_321 Cx rfl rfl (rmk_ok (by omega) (by decide))) hW (by decide) rfl rfl rfl hl.1 rfl (Nat.le_of_ble_eq_true rfl) dX12_wantAbove_38 ⟨Nat.le_of_ble_eq_true rfl, Nat.le_of_ble_eq_true rfl⟩) hL (fun u_31 H locs k_32 hW hL => ?_)
        obtain ⟨iu_31, fu_31, gu_31, xu_31⟩ := k_32
        have F_33 := (Fr.rf : Fr S S (pl [231])).trans fu_31
        have g_34 : FF S u_31 (fl [20, 21, 24]) := FF.trans FF.rf (FF.to gu_31 (fl_sub (by decide)))
        refine lv_aload_n hx hb dX12_wantAbove_41 rfl (lv_at hl 0 rfl) ?_
        refine lv_dup hx hb dX12_wantAbove_42 rfl ?_
        refine g_X12_315 Cx hW (k := 231) (by decide) rfl (v := S.1 231 24) (gu_31 24 rfl) dX12_wantAbove_43 ?_
        refine lv_iconst (v := iv 1) hx hb dX12_wantAbove_46 (by decide) ?_
        refine r_iadd hx hb dX12_wantAbove_47 ?_
        refine p_X12_315 Cx hW hL (k := 231) (by decide) rfl dX12_wantAbove_48 (fun H locs hW hL => ?_)
        have F_35 : Fr S (uF u_31 231 24 ((S.1 231 24) + 1)) (pl [231]) := F_33.F rfl
        have g_36 : FF S (uF u_31 231 24 ((S.1 231 24) + 1)) (fl [20, 21, 24]) := FF.F g_34 rfl
        have i_37 : dX G (uF u_31 231 24 ((S.1 231 24) + 1)) := iu_31.F (i := 24) (show (-2147483648) ≤ (S.1 231 24) + 1 ∧ (S.1 231 24) + 1 ≤ 2147483647 from ⟨by omega, by omega⟩)
        have q_38 : (-2147483648) ≤ u_31.1 231 20 ∧ u_31.1 231 20 ≤ 2147483647 := iu_31.fi 20
        have lk_39 : (uF u_31 231 24 ((S.1 231 24) + 1)).1 231 20 = u_31.1 231 20 := uF_ne (fun h => absurd h.2 (by decide))
        have lk_40 : (uF u_31 231 24 ((S.1 231 24) + 1)).1 231 24 = (S.1 231 24) + 1 := uF_on
        exact sVret Cx hr hlk hW hL ⟨i_37, F_35, g_36, ⟨(fun h => absurd h (by have e9 := (show (uF u_31 231 24 ((S.1 231 24) + 1)).1 231 20 = u_31.1 231 20 from uF_ne (fun h => absurd h.2 (by decide))); have a9 := xu_31; omega)), (fun h h9 z => by have n8 := hcu (by omega); have z8 := (hkr.a (by omega) (by omega)).mpr z; omega), (by have e3 := (show (uF u_31 231 24 ((S.1 231 24) + 1)).1 231 20 = u_31.1 231 20 from uF_ne (fun h => absurd h.2 (by decide))); have e4 := xu_31; omega)⟩⟩ dX12_wantAbove_51

set_option maxRecDepth 100000 in
set_option maxHeartbeats 4000000 in
theorem q_X12_pointRead (l : Launch) (G : sG) (S : sS) {K V : Int → Int} {T pz : Int}  {kp vp : Int → Int} (hI : dX G S) (hm : 0 ≤ S.1 231 46 ∧ S.1 231 46 ≤ 12) (hkr : Hd (KVq K V T kp vp)) (h01 : 0 ≤ S.1 231 20 ∧ S.1 231 20 ≤ 1) (hK : S.2.1 244 = K) (hV : S.2.1 247 = V) (hE : gE K T) (hc : S.1 231 24 = pz) (hcu : Hd (S.1 231 20 = 0 → 0 ≤ pz ∧ pz ≤ T - 1)) : Met l yX12_pointRead (.code yX12_pointRead cX12_pointRead 2 none :: tb) (rmk 3 0 0) (sPc G 294 S [.ref (G.2.2.1 + 231)]) (sQv G 294 (fun u => dX G u ∧ Fr S u (pl [231]) ∧ FF S u (fl [20, 21, 24]) ∧ (Hd (u.1 231 20 = 0 → S.1 231 20 = 0 ∧ (gPn kp vp (S.1 231 46) pz ∧ u.1 231 24 = pz + S.1 231 46 + 2) ∧ pz < u.1 231 24 ∧ 0 ≤ u.1 231 24 ∧ u.1 231 24 ≤ T - 1) ∧ Hd (S.1 231 20 = 0 → u.1 231 20 ≠ 0 → ¬ gPn kp vp (S.1 231 46) pz) ∧ (0 ≤ u.1 231 20 ∧ u.1 231 20 ≤ 1)))) 0 0 (sF G) := by
  refine sEnter (by decide) (Nat.le_of_ble_eq_true rfl) ?_
  intro p e s m args below meth c Cx hr hlk hnm hW ls hl
  have Cx : sC G p m c cX12_pointRead 2 s args RX12 := Cx
  obtain ⟨hx, hb, hml, hown, hts⟩ := id Cx.1
  have hL : sL G [] := sL_nil
  have hl : lv_has ls 2 [(0, .ref (G.2.2.1 + 231))] := hl
  have hW0 := hW
  have hE1 := hE.1
  refine lv_iconst (v := iv 0) hx hb dX12_pointRead_0 (by decide) ?_
  refine lv_istore_n (lv' := [(1, .int (iv 0)), (0, .ref (G.2.2.1 + 231))]) hx hb dX12_pointRead_1 rfl hl (by decide) rfl (fun ls hl => ?_)
  have loop_2 : ∀ (fuel : Nat) (S2 : sS) (i : Int) (H : Heap) (locs : List Loc) (ls : Array Slot), (S.1 231 46 - i).toNat < fuel → (dX G S2) → (Fr S S2 (pl [231])) → (Fr S S2 (pl [231])) → (FF S S2 (fl [20, 21, 24])) → (FF S S2 (fl [20, 21, 24])) → (0 ≤ i ∧ i ≤ S.1 231 46) → (0 ≤ S2.1 231 20 ∧ S2.1 231 20 ≤ 1) → (Hd (S2.1 231 20 = 0 → 0 ≤ S2.1 231 24 ∧ S2.1 231 24 ≤ T - 1)) → (Hd (S2.1 231 20 = 0 → S.1 231 20 = 0 ∧ S2.1 231 24 = pz + i ∧ ∀ j, 0 ≤ j → j < i → kp (pz + j) = 2)) → (Hd (S.1 231 20 = 0 → S2.1 231 20 ≠ 0 → ¬ gPn kp vp (S.1 231 46) pz)) → sW G 294 S2 H → sL G locs → lv_has ls 2 [(1, .int (iv i)), (0, .ref (G.2.2.1 + 231))] → W p l e (rmk 3 0 0) s m args below meth c H locs 0 0 (MQ below (sQv G 294 (fun u => dX G u ∧ Fr S u (pl [231]) ∧ FF S u (fl [20, 21, 24]) ∧ (Hd (u.1 231 20 = 0 → S.1 231 20 = 0 ∧ (gPn kp vp (S.1 231 46) pz ∧ u.1 231 24 = pz + S.1 231 46 + 2) ∧ pz < u.1 231 24 ∧ 0 ≤ u.1 231 24 ∧ u.1 231 24 ≤ T - 1) ∧ Hd (S.1 231 20 = 0 → u.1 231 20 ≠ 0 → ¬ gPn kp vp (S.1 231 46) pz) ∧ (0 ≤ u.1 231 20 ∧ u.1 231 20 ≤ 1)))) args s 0 0 (sF G)) (F0 m 2 ls []) := by
    intro fuel
    induction fuel with
    | zero => intro S2 i H locs ls hmeas hI2 hFm2 hL2_ hGm2 gL2_ hi h01L hcu2 hH2 hN2 hW hL hl; exact absurd hmeas (Nat.not_lt_zero _)
    | succ fuel ih_2 =>
      intro S2 i H locs ls hmeas hI2 hFm2 hL2_ hGm2 gL2_ hi h01L hcu2 hH2 hN2 hW hL hl
      refine lv_iload_n hx hb dX12_pointRead_2 rfl (lv_at hl 0 rfl) ?_
      refine lv_aload_n hx hb dX12_pointRead_3 rfl (lv_at hl 1 rfl) ?_
      have q_1 : (-2147483648) ≤ S.1 231 46 ∧ S.1 231 46 ≤ 2147483647 := hI.fi 46
      refine g_X12_465 Cx hW (k := 231) (by decide) rfl (v := S.1 231 46) (gL2_ 46 rfl) dX12_pointRead_4 ?_
      refine r_icmp_ge (tgt := 28) hx hb ⟨(by omega), (by omega)⟩ ⟨(by omega), (by omega)⟩ dX12_pointRead_7 (by decide) (fun c_2 => ?_) (fun c_2 => ?_)
      · refine lv_aload_n hx hb dX12_pointRead_28 rfl (lv_at hl 1 rfl) ?_
        refine lv_bipush (v := iv 47) hx hb dX12_pointRead_29 (by decide) ?_
        have q_3 : (-2147483648) ≤ S2.1 231 20 ∧ S2.1 231 20 ≤ 2147483647 := hI2.fi 20
        have q_4 : (-2147483648) ≤ S2.1 231 24 ∧ S2.1 231 24 ≤ 2147483647 := hI2.fi 24
        refine sBv (sV (As := [.int (iv 47)]) (rest := []) (k := 231) Cx (q_X12_want l G S2 (sv := 47) (K := K) (V := V) (T := T) (pz := S2.1 231 24) (kp := kp) (vp := vp) (cd := 3) hI2 (by omega) (by omega) hkr (by omega) ((funext fun j => (hL2_ 244 rfl).2.1 j : S2.2.1 244 = S.2.1 244).trans hK) ((funext fun j => (hL2_ 247 rfl).2.1 j : S2.2.1 247 = S.2.1 247).trans hV) hE (by omega) (fun h => by have e8 := (show S2.1 231 20 = S2.1 231 20 from rfl); have a9 := hcu2 (by have e9 := (show S2.1 231 20 = S2.1 231 20 from rfl); omega); omega)) (c_X12_331 Cx rfl rfl (rmk_ok (by omega) (by decide))) hW (by decide) rfl rfl rfl hl.1 rfl (Nat.le_of_ble_eq_true rfl) dX12_pointRead_31 ⟨Nat.le_of_ble_eq_true rfl, Nat.le_of_ble_eq_true rfl⟩) hL (fun u_5 H locs k_6 hW hL => ?_)
        obtain ⟨iu_5, fu_5, gu_5, xu_5⟩ := k_6
        have F_7 := hFm2.trans fu_5
        have F_8 := hL2_.trans fu_5
        have g_9 : FF S u_5 (fl [20, 21, 24]) := FF.trans hGm2 (FF.to gu_5 (fl_sub (by decide)))
        have g_10 : FF S u_5 (fl [20, 21, 24]) := FF.trans gL2_ (FF.to gu_5 (fl_sub (by decide)))
        obtain ⟨xu_5, yu_5, zu_5⟩ := xu_5
        refine lv_aload_n hx hb dX12_pointRead_34 rfl (lv_at hl 1 rfl) ?_
        have q_11 : (-2147483648) ≤ u_5.1 231 20 ∧ u_5.1 231 20 ≤ 2147483647 := iu_5.fi 20
        have q_12 : (-2147483648) ≤ u_5.1 231 24 ∧ u_5.1 231 24 ≤ 2147483647 := iu_5.fi 24
        refine sBv (sV (As := []) (rest := []) (k := 231) Cx (q_X12_wantAbove l G u_5 (K := K) (V := V) (T := T) (pz := u_5.1 231 24) (kp := kp) (vp := vp) iu_5 hkr (by omega) ((funext fun j => ((fu_5 244 rfl).2.1 j).trans ((hL2_ 244 rfl).2.1 j) : u_5.2.1 244 = S.2.1 244).trans hK) ((funext fun j => ((fu_5 247 rfl).2.1 j).trans ((hL2_ 247 rfl).2.1 j) : u_5.2.1 247 = S.2.1 247).trans hV) hE (by omega) (fun h => by have e8 := (show u_5.1 231 20 = u_5.1 231 20 from rfl); have a9 := xu_5 (by have e9 := (show u_5.1 231 20 = u_5.1 231 20 from rfl); omega); omega)) (c_X12_691 Cx rfl rfl (rmk_ok (by omega) (by decide))) hW (by decide) rfl rfl rfl hl.1 rfl (Nat.le_of_ble_eq_true rfl) dX12_pointRead_35 ⟨Nat.le_of_ble_eq_true rfl, Nat.le_of_ble_eq_true rfl⟩) hL (fun u_13 H locs k_14 hW hL => ?_)
        obtain ⟨iu_13, fu_13, gu_13, xu_13⟩ := k_14
        have F_15 := F_7.trans fu_13
        have F_16 := F_8.trans fu_13
        have g_17 : FF S u_13 (fl [20, 21, 24]) := FF.trans g_9 (FF.to gu_13 (fl_sub (by decide)))
        have g_18 : FF S u_13 (fl [20, 21, 24]) := FF.trans g_10 (FF.to gu_13 (fl_sub (by decide)))
        obtain ⟨xu_13, yu_13, zu_13⟩ := xu_13
        have q_19 : (-2147483648) ≤ u_13.1 231 20 ∧ u_13.1 231 20 ≤ 2147483647 := iu_13.fi 20
        have q_20 : (-2147483648) ≤ u_13.1 231 24 ∧ u_13.1 231 24 ≤ 2147483647 := iu_13.fi 24
        exact sVret Cx hr hlk hW hL ⟨iu_13, F_15, g_17, ⟨(fun h => by have e8 := (show u_13.1 231 20 = u_13.1 231 20 from rfl); have e7 := (show u_13.1 231 24 = u_13.1 231 24 from rfl); have a2 := xu_13 (by omega); have a1 := xu_5 a2.1; have b9 := hH2 a1.1; have e1 : S2.1 231 24 = pz + S.1 231 46 := (by omega); have c1 := a1.2.1; have c2 := a2.2.1; rw [c1.2, e1] at c2; rw [e1] at c1; exact ⟨b9.1, ⟨⟨fun j j0 j1 => b9.2.2 j j0 (by omega), c1.1, c2.1⟩, by omega⟩, by omega, by omega, by omega⟩), (fun h h9 => by by_cases q : S2.1 231 20 = 0; (have b9 := hH2 q; have e1 : S2.1 231 24 = pz + S.1 231 46 := (by omega); by_cases q1 : u_5.1 231 20 = 0; (have a1 := xu_5 q1; have b1 := yu_13 q1 (by have e8 := (show u_13.1 231 20 = u_13.1 231 20 from rfl); omega); have c1 := a1.2.1; rw [c1.2, e1] at b1; exact fun z => b1 z.2.2); (have b1 := yu_5 q q1; rw [e1] at b1; exact fun z => b1 z.2.1)); exact hN2 h q), (by have e3 := (show u_13.1 231 20 = u_13.1 231 20 from rfl); omega)⟩⟩ dX12_pointRead_38
      · refine lv_aload_n hx hb dX12_pointRead_10 rfl (lv_at hl 1 rfl) ?_
        have q_21 : (-2147483648) ≤ S2.1 231 20 ∧ S2.1 231 20 ≤ 2147483647 := hI2.fi 20
        refine g_X12_270 Cx hW (k := 231) (by decide) rfl (v := S2.1 231 20) rfl dX12_pointRead_11 ?_
        refine r_if_ne (tgt := 28) hx hb ⟨(by omega), (by omega)⟩ dX12_pointRead_14 (by decide) (fun c_22 => ?_) (fun c_22 => ?_)
        · refine lv_aload_n hx hb dX12_pointRead_28 rfl (lv_at hl 1 rfl) ?_
          refine lv_bipush (v := iv 47) hx hb dX12_pointRead_29 (by decide) ?_
          have q_23 : (-2147483648) ≤ S2.1 231 24 ∧ S2.1 231 24 ≤ 2147483647 := hI2.fi 24
          refine sBv (sV (As := [.int (iv 47)]) (rest := []) (k := 231) Cx (q_X12_want l G S2 (sv := 47) (K := K) (V := V) (T := T) (pz := S2.1 231 24) (kp := kp) (vp := vp) (cd := 3) hI2 (by omega) (by omega) hkr (by omega) ((funext fun j => (hL2_ 244 rfl).2.1 j : S2.2.1 244 = S.2.1 244).trans hK) ((funext fun j => (hL2_ 247 rfl).2.1 j : S2.2.1 247 = S.2.1 247).trans hV) hE (by omega) (fun h => by have e8 := (show S2.1 231 20 = S2.1 231 20 from rfl); have a9 := hcu2 (by have e9 := (show S2.1 231 20 = S2.1 231 20 from rfl); omega); omega)) (c_X12_331 Cx rfl rfl (rmk_ok (by omega) (by decide))) hW (by decide) rfl rfl rfl hl.1 rfl (Nat.le_of_ble_eq_true rfl) dX12_pointRead_31 ⟨Nat.le_of_ble_eq_true rfl, Nat.le_of_ble_eq_true rfl⟩) hL (fun u_24 H locs k_25 hW hL => ?_)
          obtain ⟨iu_24, fu_24, gu_24, xu_24⟩ := k_25
          have F_26 := hFm2.trans fu_24
          have F_27 := hL2_.trans fu_24
          have g_28 : FF S u_24 (fl [20, 21, 24]) := FF.trans hGm2 (FF.to gu_24 (fl_sub (by decide)))
          have g_29 : FF S u_24 (fl [20, 21, 24]) := FF.trans gL2_ (FF.to gu_24 (fl_sub (by decide)))
          obtain ⟨xu_24, yu_24, zu_24⟩ := xu_24
          refine lv_aload_n hx hb dX12_pointRead_34 rfl (lv_at hl 1 rfl) ?_
          have q_30 : (-2147483648) ≤ u_24.1 231 20 ∧ u_24.1 231 20 ≤ 2147483647 := iu_24.fi 20
          have q_31 : (-2147483648) ≤ u_24.1 231 24 ∧ u_24.1 231 24 ≤ 2147483647 := iu_24.fi 24
          refine sBv (sV (As := []) (rest := []) (k := 231) Cx (q_X12_wantAbove l G u_24 (K := K) (V := V) (T := T) (pz := u_24.1 231 24) (kp := kp) (vp := vp) iu_24 hkr (by omega) ((funext fun j => ((fu_24 244 rfl).2.1 j).trans ((hL2_ 244 rfl).2.1 j) : u_24.2.1 244 = S.2.1 244).trans hK) ((funext fun j => ((fu_24 247 rfl).2.1 j).trans ((hL2_ 247 rfl).2.1 j) : u_24.2.1 247 = S.2.1 247).trans hV) hE (by omega) (fun h => by have e8 := (show u_24.1 231 20 = u_24.1 231 20 from rfl); have a9 := xu_24 (by have e9 := (show u_24.1 231 20 = u_24.1 231 20 from rfl); omega); omega)) (c_X12_691 Cx rfl rfl (rmk_ok (by omega) (by decide))) hW (by decide) rfl rfl rfl hl.1 rfl (Nat.le_of_ble_eq_true rfl) dX12_pointRead_35 ⟨Nat.le_of_ble_eq_true rfl, Nat.le_of_ble_eq_true rfl⟩) hL (fun u_32 H locs k_33 hW hL => ?_)
          obtain ⟨iu_32, fu_32, gu_32, xu_32⟩ := k_33
          have F_34 := F_26.trans fu_32
          have F_35 := F_27.trans fu_32
          have g_36 : FF S u_32 (fl [20, 21, 24]) := FF.trans g_28 (FF.to gu_32 (fl_sub (by decide)))
          have g_37 : FF S u_32 (fl [20, 21, 24]) := FF.trans g_29 (FF.to gu_32 (fl_sub (by decide)))
          obtain ⟨xu_32, yu_32, zu_32⟩ := xu_32
          have q_38 : (-2147483648) ≤ u_32.1 231 20 ∧ u_32.1 231 20 ≤ 2147483647 := iu_32.fi 20
          have q_39 : (-2147483648) ≤ u_32.1 231 24 ∧ u_32.1 231 24 ≤ 2147483647 := iu_32.fi 24
          exact sVret Cx hr hlk hW hL ⟨iu_32, F_34, g_36, ⟨(fun h => by have e8 := (show u_32.1 231 20 = u_32.1 231 20 from rfl); have e7 := (show u_32.1 231 24 = u_32.1 231 24 from rfl); have a2 := xu_32 (by omega); have a1 := xu_24 a2.1; have b9 := hH2 a1.1; have e1 : S2.1 231 24 = pz + S.1 231 46 := (by exfalso; omega); have c1 := a1.2.1; have c2 := a2.2.1; rw [c1.2, e1] at c2; rw [e1] at c1; exact ⟨b9.1, ⟨⟨fun j j0 j1 => b9.2.2 j j0 (by omega), c1.1, c2.1⟩, by omega⟩, by omega, by omega, by omega⟩), (fun h h9 => hN2 h (by omega)), (by have e3 := (show u_32.1 231 20 = u_32.1 231 20 from rfl); omega)⟩⟩ dX12_pointRead_38
        · have b_40 := hcu2 (by have e9 := (show S2.1 231 20 = S2.1 231 20 from rfl); omega)
          refine lv_aload_n hx hb dX12_pointRead_17 rfl (lv_at hl 1 rfl) ?_
          refine lv_iconst (v := iv 2) hx hb dX12_pointRead_18 (by decide) ?_
          have q_41 : (-2147483648) ≤ S2.1 231 24 ∧ S2.1 231 24 ≤ 2147483647 := hI2.fi 24
          refine sBv (sV (As := [.int (iv 2)]) (rest := []) (k := 231) Cx (q_X12_wantKind l G S2 (k := 2) (K := K) (V := V) (T := T) (pz := S2.1 231 24) (kp := kp) (vp := vp) hI2 (by omega) hkr (by omega) ((funext fun j => (hL2_ 244 rfl).2.1 j : S2.2.1 244 = S.2.1 244).trans hK) ((funext fun j => (hL2_ 247 rfl).2.1 j : S2.2.1 247 = S.2.1 247).trans hV) hE (by omega) (fun h => by have e8 := (show S2.1 231 20 = S2.1 231 20 from rfl); have a9 := hcu2 (by have e9 := (show S2.1 231 20 = S2.1 231 20 from rfl); omega); omega)) (c_X12_328 Cx rfl rfl (rmk_ok (by omega) (by decide))) hW (by decide) rfl rfl rfl hl.1 rfl (Nat.le_of_ble_eq_true rfl) dX12_pointRead_19 ⟨Nat.le_of_ble_eq_true rfl, Nat.le_of_ble_eq_true rfl⟩) hL (fun u_42 H locs k_43 hW hL => ?_)
          obtain ⟨iu_42, fu_42, gu_42, xu_42⟩ := k_43
          have F_44 := hFm2.trans fu_42
          have F_45 := hL2_.trans fu_42
          have g_46 : FF S u_42 (fl [20, 21, 24]) := FF.trans hGm2 (FF.to gu_42 (fl_sub (by decide)))
          have g_47 : FF S u_42 (fl [20, 21, 24]) := FF.trans gL2_ (FF.to gu_42 (fl_sub (by decide)))
          obtain ⟨xu_42, yu_42, zu_42⟩ := xu_42
          refine lv_iinc (v := iv (i + 1)) (lv' := [(1, .int (iv (i + 1))), (0, .ref (G.2.2.1 + 231))]) hx hb dX12_pointRead_22 hl (k := 0) rfl ((Int32.ofInt_add _ _).symm) (by decide) rfl (fun ls hl => ?_)
          refine lv_goto (tgt := 2) hx hb dX12_pointRead_25 (by decide) ?_
          have q_48 : (-2147483648) ≤ u_42.1 231 20 ∧ u_42.1 231 20 ≤ 2147483647 := iu_42.fi 20
          have q_49 : (-2147483648) ≤ u_42.1 231 24 ∧ u_42.1 231 24 ≤ 2147483647 := iu_42.fi 24
          exact ih_2 u_42 (i + 1) _ _ _ (by omega) iu_42 F_44 F_45 g_46 g_47 (by omega) (by omega) (fun h => by have a9 := xu_42 h; omega) (fun h => by have a9 := xu_42 h; have b9 := hH2 (by omega); have d9 := a9.2.1; exact ⟨b9.1, (by have := d9.2; omega), fun j a b => if e9 : j = i then (by rw [e9, ← b9.2.1]; exact d9.1) else b9.2.2 j a (by omega)⟩) (fun h h9 => by have b9 := hH2 (by omega); have d9 := yu_42 (by omega) h9; rw [b9.2.1] at d9; exact fun z => d9 (z.1 i (by omega) (by omega))) hW hL (lv_sub hl [0, 1] rfl)
  have q_50 : (-2147483648) ≤ S.1 231 20 ∧ S.1 231 20 ≤ 2147483647 := hI.fi 20
  have q_51 : (-2147483648) ≤ S.1 231 24 ∧ S.1 231 24 ≤ 2147483647 := hI.fi 24
  exact loop_2 (_ + 1) S 0 _ _ _ (Nat.lt_succ_self _) hI (Fr.rf : Fr S S (pl [231])) Fr.rf FF.rf FF.rf (by omega) (by omega) (fun h => by have a9 := hcu h; omega) (fun h => ⟨h, by omega, fun j a b => absurd b (by omega)⟩) (fun h h9 => absurd h h9) hW hL (lv_sub hl [0, 1] rfl)

set_option maxRecDepth 100000 in
set_option maxHeartbeats 4000000 in
theorem q_X12_treesRead (l : Launch) (G : sG) (S : sS) {K V : Int → Int} {T pz : Int}  {kp vp : Int → Int} (hI : dX G S) (hkr : Hd (KVq K V T kp vp)) (h01 : 0 ≤ S.1 231 20 ∧ S.1 231 20 ≤ 1) (hK : S.2.1 244 = K) (hV : S.2.1 247 = V) (hE : gE K T) (hc : S.1 231 24 = pz) (hcu : Hd (S.1 231 20 = 0 → 0 ≤ pz ∧ pz ≤ T - 1)) : Met l yX12_treesRead (.code yX12_treesRead cX12_treesRead 3 none :: tb) (rmk 3 0 0) (sPc G 294 S [.ref (G.2.2.1 + 231)]) (sQv G 294 (fun u => dX G u ∧ Fr S u (pl [231]) ∧ FF S u (fl [20, 21, 24]) ∧ (Hd (u.1 231 20 = 0 → S.1 231 20 = 0 ∧ (gTr kp vp 30001 pz 1 = some (u.1 231 24)) ∧ pz ≤ u.1 231 24 ∧ 0 ≤ u.1 231 24 ∧ u.1 231 24 ≤ T - 1) ∧ Hd (S.1 231 20 = 0 → u.1 231 20 ≠ 0 → gTr kp vp 30001 pz 1 = none) ∧ (0 ≤ u.1 231 20 ∧ u.1 231 20 ≤ 1)))) 0 0 (sF G) := by
  refine sEnter (by decide) (Nat.le_of_ble_eq_true rfl) ?_
  intro p e s m args below meth c Cx hr hlk hnm hW ls hl
  have Cx : sC G p m c cX12_treesRead 3 s args RX12 := Cx
  obtain ⟨hx, hb, hml, hown, hts⟩ := id Cx.1
  have hL : sL G [] := sL_nil
  have hl : lv_has ls 3 [(0, .ref (G.2.2.1 + 231))] := hl
  have hW0 := hW
  have hE1 := hE.1
  refine lv_iconst (v := iv 1) hx hb dX12_treesRead_0 (by decide) ?_
  refine lv_istore_n (lv' := [(1, .int (iv 1)), (0, .ref (G.2.2.1 + 231))]) hx hb dX12_treesRead_1 rfl hl (by decide) rfl (fun ls hl => ?_)
  have loop_2 : ∀ (fuel : Nat) (S2 : sS) (ct : Int) (H : Heap) (locs : List Loc) (ls : Array Slot), mf S2 T < fuel → (dX G S2) → (Fr S S2 (pl [231])) → (Fr S S2 (pl [231])) → (FF S S2 (fl [20, 21, 24])) → (FF S S2 (fl [20, 21, 24])) → (0 ≤ ct ∧ ct ≤ 30005) → (0 ≤ S2.1 231 20 ∧ S2.1 231 20 ≤ 1) → (Hd (S2.1 231 20 = 0 → 0 ≤ S2.1 231 24 ∧ S2.1 231 24 ≤ T - 1)) → (Hd (S2.1 231 20 = 0 → ct ≤ 1 + S2.1 231 24)) → (Hd (S2.1 231 20 = 0 → S.1 231 20 = 0 ∧ (pz ≤ S2.1 231 24 ∧ 0 ≤ pz) ∧ TQi kp vp pz (S2.1 231 24) ct)) → (Hd (S.1 231 20 = 0 → S2.1 231 20 ≠ 0 → gTr kp vp 30001 pz 1 = none)) → sW G 294 S2 H → sL G locs → lv_has ls 3 [(1, .int (iv ct)), (0, .ref (G.2.2.1 + 231))] → W p l e (rmk 3 0 0) s m args below meth c H locs 0 0 (MQ below (sQv G 294 (fun u => dX G u ∧ Fr S u (pl [231]) ∧ FF S u (fl [20, 21, 24]) ∧ (Hd (u.1 231 20 = 0 → S.1 231 20 = 0 ∧ (gTr kp vp 30001 pz 1 = some (u.1 231 24)) ∧ pz ≤ u.1 231 24 ∧ 0 ≤ u.1 231 24 ∧ u.1 231 24 ≤ T - 1) ∧ Hd (S.1 231 20 = 0 → u.1 231 20 ≠ 0 → gTr kp vp 30001 pz 1 = none) ∧ (0 ≤ u.1 231 20 ∧ u.1 231 20 ≤ 1)))) args s 0 0 (sF G)) (F0 m 2 ls []) := by
    intro fuel
    induction fuel with
    | zero => intro S2 ct H locs ls hmeas hI2 hFm2 hL2_ hGm2 gL2_ hct h01L hcu2 hct2 hH2 hN2 hW hL hl; exact absurd hmeas (Nat.not_lt_zero _)
    | succ fuel ih_2 =>
      intro S2 ct H locs ls hmeas hI2 hFm2 hL2_ hGm2 gL2_ hct h01L hcu2 hct2 hH2 hN2 hW hL hl
      have hm2 := hmeas
      refine lv_iload_n hx hb dX12_treesRead_2 rfl (lv_at hl 0 rfl) ?_
      refine r_if_le (tgt := 152) hx hb ⟨(by omega), (by omega)⟩ dX12_treesRead_3 (by decide) (fun c_1 => ?_) (fun c_1 => ?_)
      · have q_2 : (-2147483648) ≤ S2.1 231 20 ∧ S2.1 231 20 ≤ 2147483647 := hI2.fi 20
        have q_3 : (-2147483648) ≤ S2.1 231 24 ∧ S2.1 231 24 ≤ 2147483647 := hI2.fi 24
        exact sVret Cx hr hlk hW hL ⟨hI2, hFm2, hGm2, ⟨(fun h => by have b9 := hH2 h; have b8 := hcu2 h; exact ⟨b9.1, b9.2.2.end (by omega), by omega, by omega, by omega⟩), (fun h h9 => hN2 h (by omega)), (by have e3 := (show S2.1 231 20 = S2.1 231 20 from rfl); omega)⟩⟩ dX12_treesRead_152
      · refine lv_aload_n hx hb dX12_treesRead_6 rfl (lv_at hl 1 rfl) ?_
        have q_4 : (-2147483648) ≤ S2.1 231 20 ∧ S2.1 231 20 ≤ 2147483647 := hI2.fi 20
        refine g_X12_270 Cx hW (k := 231) (by decide) rfl (v := S2.1 231 20) rfl dX12_treesRead_7 ?_
        refine r_if_ne (tgt := 152) hx hb ⟨(by omega), (by omega)⟩ dX12_treesRead_10 (by decide) (fun c_5 => ?_) (fun c_5 => ?_)
        · have q_6 : (-2147483648) ≤ S2.1 231 24 ∧ S2.1 231 24 ≤ 2147483647 := hI2.fi 24
          exact sVret Cx hr hlk hW hL ⟨hI2, hFm2, hGm2, ⟨(fun h => absurd h (by have e9 := (show S2.1 231 20 = S2.1 231 20 from rfl); omega)), (fun h h9 => hN2 h (by omega)), (by have e3 := (show S2.1 231 20 = S2.1 231 20 from rfl); omega)⟩⟩ dX12_treesRead_152
        · have b_7 := hcu2 (by have e9 := (show S2.1 231 20 = S2.1 231 20 from rfl); omega)
          have b7 := hct2 (by omega)
          refine lv_aload_n hx hb dX12_treesRead_13 rfl (lv_at hl 1 rfl) ?_
          refine g_X12_47 Cx hW (k := 231) (by decide) rfl (v := .ref (G.2.2.1 + 244)) (rd_15 hI2) dX12_treesRead_14 ?_
          refine lv_aload_n hx hb dX12_treesRead_17 rfl (lv_at hl 1 rfl) ?_
          have q_8 : (-2147483648) ≤ S2.1 231 24 ∧ S2.1 231 24 ≤ 2147483647 := hI2.fi 24
          refine g_X12_315 Cx hW (k := 231) (by decide) rfl (v := S2.1 231 24) rfl dX12_treesRead_18 ?_
          refine rIald Cx hW (k := 244) (by decide) rfl (by decide) (by omega) (by omega) dX12_treesRead_21 ?_
          have q_9 : (-2147483648) ≤ S.2.1 244 (S2.1 231 24) ∧ S.2.1 244 (S2.1 231 24) ≤ 2147483647 := hI.ai 244 (S2.1 231 24)
          refine r_i (b := S.2.1 244 (S2.1 231 24)) ((hL2_ 244 rfl).2.1 (S2.1 231 24)) ?_
          have hr1 : K (S2.1 231 24) = S.2.1 244 (S2.1 231 24) := by rw [← hK]
          refine lv_iconst (v := iv 3) hx hb dX12_treesRead_22 (by decide) ?_
          refine r_icmp_ne (tgt := 38) hx hb ⟨(by omega), (by omega)⟩ ⟨(by omega), (by omega)⟩ dX12_treesRead_23 (by decide) (fun c_10 => ?_) (fun c_10 => ?_)
          · refine lv_iconst (v := iv (-1)) hx hb dX12_treesRead_38 (by decide) ?_
            refine lv_istore_n (lv' := [(2, .int (iv ((-1)))), (1, .int (iv ct)), (0, .ref (G.2.2.1 + 231))]) hx hb dX12_treesRead_39 rfl hl (by decide) rfl (fun ls hl => ?_)
            refine lv_iload_n hx hb dX12_treesRead_40 rfl (lv_at hl 0 rfl) ?_
            refine lv_iconst (v := iv 5) hx hb dX12_treesRead_41 (by decide) ?_
            refine r_icmp_ge (tgt := 55) hx hb ⟨(by omega), (by omega)⟩ ⟨(by omega), (by omega)⟩ dX12_treesRead_42 (by decide) (fun c => absurd c (by omega)) (fun _ => ?_)
            refine lv_aload_n hx hb dX12_treesRead_45 rfl (lv_at hl 2 rfl) ?_
            refine lv_iconst (v := iv 1) hx hb dX12_treesRead_46 (by decide) ?_
            refine lv_aload_n hx hb dX12_treesRead_47 rfl (lv_at hl 2 rfl) ?_
            refine g_X12_315 Cx hW (k := 231) (by decide) rfl (v := S2.1 231 24) rfl dX12_treesRead_48 ?_
            refine sBv (sV (As := [.int (iv 1), .int (iv (S2.1 231 24))]) (rest := []) (k := 231) Cx (q_X12_wrong l G S2 (cd := 1) (tk := S2.1 231 24) hI2 (by omega) (by omega)) (c_X12_321 Cx rfl rfl (rmk_ok (by omega) (by decide))) hW (by decide) rfl rfl rfl hl.1 rfl (Nat.le_of_ble_eq_true rfl) dX12_treesRead_51 ⟨Nat.le_of_ble_eq_true rfl, Nat.le_of_ble_eq_true rfl⟩) hL (fun u_11 H locs k_12 hW hL => ?_)
            obtain ⟨iu_11, fu_11, gu_11, xu_11⟩ := k_12
            have F_13 := hFm2.trans fu_11
            have F_14 := hL2_.trans fu_11
            have g_15 : FF S u_11 (fl [20, 21, 24]) := FF.trans hGm2 (FF.to gu_11 (fl_sub (by decide)))
            have g_16 : FF S u_11 (fl [20, 21, 24]) := FF.trans gL2_ (FF.to gu_11 (fl_sub (by decide)))
            have q_17 : (-2147483648) ≤ u_11.1 231 20 ∧ u_11.1 231 20 ≤ 2147483647 := iu_11.fi 20
            have lk_18 : u_11.1 231 24 = S2.1 231 24 := gu_11 24 rfl
            exact sVret Cx hr hlk hW hL ⟨iu_11, F_13, g_15, ⟨(fun h => absurd h (by have e9 := (show u_11.1 231 20 = u_11.1 231 20 from rfl); have a9 := xu_11; omega)), (fun h h9 => by have b8 := hcu2 (by omega); have k9 := hkr.1 (S2.1 231 24) (by omega) (by omega); unfold krq at k9; have b7 := (hH2 (by omega)).2.1; have b9 := (hH2 (by omega)).2.2; exact b9.x (by omega) (by omega) (by omega)), (by have e3 := (show u_11.1 231 20 = u_11.1 231 20 from rfl); have e4 := xu_11; omega)⟩⟩ dX12_treesRead_54
          · refine lv_aload_n hx hb dX12_treesRead_26 rfl (lv_at hl 1 rfl) ?_
            refine g_X12_56 Cx hW (k := 231) (by decide) rfl (v := .ref (G.2.2.1 + 247)) (rd_18 hI2) dX12_treesRead_27 ?_
            refine lv_aload_n hx hb dX12_treesRead_30 rfl (lv_at hl 1 rfl) ?_
            refine g_X12_315 Cx hW (k := 231) (by decide) rfl (v := S2.1 231 24) rfl dX12_treesRead_31 ?_
            refine rIald Cx hW (k := 247) (by decide) rfl (by decide) (by omega) (by omega) dX12_treesRead_34 ?_
            have q_19 : (-2147483648) ≤ S.2.1 247 (S2.1 231 24) ∧ S.2.1 247 (S2.1 231 24) ≤ 2147483647 := hI.ai 247 (S2.1 231 24)
            refine r_i (b := S.2.1 247 (S2.1 231 24)) ((hL2_ 247 rfl).2.1 (S2.1 231 24)) ?_
            have hr2 : V (S2.1 231 24) = S.2.1 247 (S2.1 231 24) := by rw [← hV]
            refine lv_goto (tgt := 39) hx hb dX12_treesRead_35 (by decide) ?_
            refine lv_istore_n (lv' := [(2, .int (iv (S.2.1 247 (S2.1 231 24)))), (1, .int (iv ct)), (0, .ref (G.2.2.1 + 231))]) hx hb dX12_treesRead_39 rfl hl (by decide) rfl (fun ls hl => ?_)
            refine lv_iload_n hx hb dX12_treesRead_40 rfl (lv_at hl 0 rfl) ?_
            refine lv_iconst (v := iv 5) hx hb dX12_treesRead_41 (by decide) ?_
            refine r_icmp_ge (tgt := 55) hx hb ⟨(by omega), (by omega)⟩ ⟨(by omega), (by omega)⟩ dX12_treesRead_42 (by decide) (fun c_20 => ?_) (fun c_20 => ?_)
            · refine lv_aload_n hx hb dX12_treesRead_55 rfl (lv_at hl 2 rfl) ?_
              refine lv_dup hx hb dX12_treesRead_56 rfl ?_
              refine g_X12_315 Cx hW (k := 231) (by decide) rfl (v := S2.1 231 24) rfl dX12_treesRead_57 ?_
              have n_21 := hE.nx (pz := S2.1 231 24) (by omega) (by omega)
              refine lv_iconst (v := iv 1) hx hb dX12_treesRead_60 (by decide) ?_
              refine r_iadd hx hb dX12_treesRead_61 ?_
              refine p_X12_315 Cx hW hL (k := 231) (by decide) rfl dX12_treesRead_62 (fun H locs hW hL => ?_)
              have F_22 : Fr S (uF S2 231 24 ((S2.1 231 24) + 1)) (pl [231]) := hFm2.F rfl
              have F_23 : Fr S (uF S2 231 24 ((S2.1 231 24) + 1)) (pl [231]) := hL2_.F rfl
              have g_24 : FF S (uF S2 231 24 ((S2.1 231 24) + 1)) (fl [20, 21, 24]) := FF.F hGm2 rfl
              have g_25 : FF S (uF S2 231 24 ((S2.1 231 24) + 1)) (fl [20, 21, 24]) := FF.F gL2_ rfl
              have i_26 : dX G (uF S2 231 24 ((S2.1 231 24) + 1)) := hI2.F (i := 24) (show (-2147483648) ≤ (S2.1 231 24) + 1 ∧ (S2.1 231 24) + 1 ≤ 2147483647 from ⟨by omega, by omega⟩)
              refine lv_iload_n hx hb dX12_treesRead_65 rfl (lv_at hl 0 rfl) ?_
              refine lv_iconst (v := iv 5) hx hb dX12_treesRead_66 (by decide) ?_
              refine r_icmp_ne (tgt := 86) hx hb ⟨(by omega), (by omega)⟩ ⟨(by omega), (by omega)⟩ dX12_treesRead_67 (by decide) (fun c_27 => ?_) (fun c_27 => ?_)
              · refine lv_aload_n hx hb dX12_treesRead_86 rfl (lv_at hl 2 rfl) ?_
                have lk_28 : (uF S2 231 24 ((S2.1 231 24) + 1)).1 231 20 = S2.1 231 20 := uF_ne (fun h => absurd h.2 (by decide))
                have lk_29 : (uF S2 231 24 ((S2.1 231 24) + 1)).1 231 24 = (S2.1 231 24) + 1 := uF_on
                refine sBv (sV (As := []) (rest := []) (k := 231) Cx (q_X12_wantAbove l G (uF S2 231 24 ((S2.1 231 24) + 1)) (K := K) (V := V) (T := T) (pz := (S2.1 231 24) + 1) (kp := kp) (vp := vp) i_26 hkr (by omega) ((funext fun j => (uF_a).trans ((hL2_ 244 rfl).2.1 j) : (uF S2 231 24 ((S2.1 231 24) + 1)).2.1 244 = S.2.1 244).trans hK) ((funext fun j => (uF_a).trans ((hL2_ 247 rfl).2.1 j) : (uF S2 231 24 ((S2.1 231 24) + 1)).2.1 247 = S.2.1 247).trans hV) hE (by omega) (fun h => by have e8 := (show (uF S2 231 24 ((S2.1 231 24) + 1)).1 231 20 = S2.1 231 20 from uF_ne (fun h => absurd h.2 (by decide))); have a9 := hcu2 (by have e9 := (show (uF S2 231 24 ((S2.1 231 24) + 1)).1 231 20 = S2.1 231 20 from uF_ne (fun h => absurd h.2 (by decide))); omega); omega)) (c_X12_691 Cx rfl rfl (rmk_ok (by omega) (by decide))) hW (by decide) rfl rfl rfl hl.1 rfl (Nat.le_of_ble_eq_true rfl) dX12_treesRead_87 ⟨Nat.le_of_ble_eq_true rfl, Nat.le_of_ble_eq_true rfl⟩) hL (fun u_30 H locs k_31 hW hL => ?_)
                obtain ⟨iu_30, fu_30, gu_30, xu_30⟩ := k_31
                have F_32 := F_22.trans fu_30
                have F_33 := F_23.trans fu_30
                have g_34 : FF S u_30 (fl [20, 21, 24]) := FF.trans g_24 (FF.to gu_30 (fl_sub (by decide)))
                have g_35 : FF S u_30 (fl [20, 21, 24]) := FF.trans g_25 (FF.to gu_30 (fl_sub (by decide)))
                obtain ⟨xu_30, yu_30, zu_30⟩ := xu_30
                have loop_90 : ∀ (fuel : Nat) (S90 : sS)  (H : Heap) (locs : List Loc) (ls : Array Slot), mf S90 T < fuel → (dX G S90) → (Fr S S90 (pl [231])) → (Fr S S90 (pl [231])) → (Fr u_30 S90 (pl [231])) → (FF S S90 (fl [20, 21, 24])) → (FF S S90 (fl [20, 21, 24])) → (FF u_30 S90 (fl [20, 21, 24])) → (0 ≤ S90.1 231 20 ∧ S90.1 231 20 ≤ 1) → (Hd (S90.1 231 20 = 0 → 0 ≤ S90.1 231 24 ∧ S90.1 231 24 ≤ T - 1)) → (Hd (S90.1 231 20 = 0 → u_30.1 231 20 = 0 ∧ u_30.1 231 24 ≤ S90.1 231 24 ∧ PQi kp (u_30.1 231 24) (S90.1 231 24))) → (Hd (u_30.1 231 20 = 0 → S90.1 231 20 ≠ 0 → gPr kp 30001 (u_30.1 231 24) = none)) → sW G 294 S90 H → sL G locs → lv_has ls 3 [(2, .int (iv (S.2.1 247 (S2.1 231 24)))), (1, .int (iv ct)), (0, .ref (G.2.2.1 + 231))] → W p l e (rmk 3 0 0) s m args below meth c H locs 0 0 (MQ below (sQv G 294 (fun u => dX G u ∧ Fr S u (pl [231]) ∧ FF S u (fl [20, 21, 24]) ∧ (Hd (u.1 231 20 = 0 → S.1 231 20 = 0 ∧ (gTr kp vp 30001 pz 1 = some (u.1 231 24)) ∧ pz ≤ u.1 231 24 ∧ 0 ≤ u.1 231 24 ∧ u.1 231 24 ≤ T - 1) ∧ Hd (S.1 231 20 = 0 → u.1 231 20 ≠ 0 → gTr kp vp 30001 pz 1 = none) ∧ (0 ≤ u.1 231 20 ∧ u.1 231 20 ≤ 1)))) args s 0 0 (sF G)) (F0 m 90 ls []) := by
                  intro fuel
                  induction fuel with
                  | zero => intro S90  H locs ls hmeas hI90 hFm90 hFL290 hL90_ hGm90 hGL290 gL90_ h01M hcu90 hH90 hN90 hW hL hl; exact absurd hmeas (Nat.not_lt_zero _)
                  | succ fuel ih_90 =>
                    intro S90  H locs ls hmeas hI90 hFm90 hFL290 hL90_ hGm90 hGL290 gL90_ h01M hcu90 hH90 hN90 hW hL hl
                    refine lv_aload_n hx hb dX12_treesRead_90 rfl (lv_at hl 2 rfl) ?_
                    have q_36 : (-2147483648) ≤ S90.1 231 20 ∧ S90.1 231 20 ≤ 2147483647 := hI90.fi 20
                    refine g_X12_270 Cx hW (k := 231) (by decide) rfl (v := S90.1 231 20) rfl dX12_treesRead_91 ?_
                    refine r_if_ne (tgt := 134) hx hb ⟨(by omega), (by omega)⟩ dX12_treesRead_94 (by decide) (fun c_37 => ?_) (fun c_37 => ?_)
                    · refine lv_aload_n hx hb dX12_treesRead_134 rfl (lv_at hl 2 rfl) ?_
                      refine lv_bipush (v := iv 59) hx hb dX12_treesRead_135 (by decide) ?_
                      have q_38 : (-2147483648) ≤ S90.1 231 24 ∧ S90.1 231 24 ≤ 2147483647 := hI90.fi 24
                      refine sBv (sV (As := [.int (iv 59)]) (rest := []) (k := 231) Cx (q_X12_want l G S90 (sv := 59) (K := K) (V := V) (T := T) (pz := S90.1 231 24) (kp := kp) (vp := vp) (cd := 5) hI90 (by omega) (by omega) hkr (by omega) ((funext fun j => ((hL90_ 244 rfl).2.1 j).trans (((fu_30 244 rfl).2.1 j).trans ((uF_a).trans ((hL2_ 244 rfl).2.1 j))) : S90.2.1 244 = S.2.1 244).trans hK) ((funext fun j => ((hL90_ 247 rfl).2.1 j).trans (((fu_30 247 rfl).2.1 j).trans ((uF_a).trans ((hL2_ 247 rfl).2.1 j))) : S90.2.1 247 = S.2.1 247).trans hV) hE (by omega) (fun h => by have e8 := (show S90.1 231 20 = S90.1 231 20 from rfl); have a9 := hcu90 (by have e9 := (show S90.1 231 20 = S90.1 231 20 from rfl); omega); omega)) (c_X12_331 Cx rfl rfl (rmk_ok (by omega) (by decide))) hW (by decide) rfl rfl rfl hl.1 rfl (Nat.le_of_ble_eq_true rfl) dX12_treesRead_137 ⟨Nat.le_of_ble_eq_true rfl, Nat.le_of_ble_eq_true rfl⟩) hL (fun u_39 H locs k_40 hW hL => ?_)
                      obtain ⟨iu_39, fu_39, gu_39, xu_39⟩ := k_40
                      have F_41 := hFm90.trans fu_39
                      have F_42 := hFL290.trans fu_39
                      have F_43 := hL90_.trans fu_39
                      have g_44 : FF S u_39 (fl [20, 21, 24]) := FF.trans hGm90 (FF.to gu_39 (fl_sub (by decide)))
                      have g_45 : FF S u_39 (fl [20, 21, 24]) := FF.trans hGL290 (FF.to gu_39 (fl_sub (by decide)))
                      have g_46 : FF u_30 u_39 (fl [20, 21, 24]) := FF.trans gL90_ (FF.to gu_39 (fl_sub (by decide)))
                      obtain ⟨xu_39, yu_39, zu_39⟩ := xu_39
                      refine lv_iload_n hx hb dX12_treesRead_140 rfl (lv_at hl 0 rfl) ?_
                      refine lv_bipush (v := iv 6) hx hb dX12_treesRead_141 (by decide) ?_
                      refine r_icmp_eq (tgt := 149) hx hb ⟨(by omega), (by omega)⟩ ⟨(by omega), (by omega)⟩ dX12_treesRead_143 (by decide) (fun c_47 => ?_) (fun c_47 => ?_)
                      · refine lv_goto (tgt := 2) hx hb dX12_treesRead_149 (by decide) ?_
                        have q_48 : (-2147483648) ≤ u_39.1 231 20 ∧ u_39.1 231 20 ≤ 2147483647 := iu_39.fi 20
                        have q_49 : (-2147483648) ≤ u_39.1 231 24 ∧ u_39.1 231 24 ≤ 2147483647 := iu_39.fi 24
                        exact ih_2 u_39 ct _ _ _ (Nat.lt_of_lt_of_le (mf_lt (S := S2) (by omega) (by omega) (fun h => by have a9 := xu_39 h; omega)) (Nat.le_of_lt_succ hm2)) iu_39 F_41 F_42 g_44 g_45 (by omega) (by omega) (fun h => by have a9 := xu_39 h; omega) (fun h => by have a9 := xu_39 h; have b9 := hct2 (by omega); have a0 := hH90 a9.1; have a1 := xu_30 a0.1; have q9 := a0.2.1; omega) (fun h => by exfalso; have a9 := xu_39 h; omega) (fun h h9 => by have b8 := hcu2 (by omega); have k9 := hkr.1 (S2.1 231 24) (by omega) (by omega); unfold krq at k9; have b9 := hH2 (by omega); by_cases q : u_30.1 231 20 = 0; (have a1 := xu_30 q; have d1 := a1.2.1; have b1 := hN90 q (by omega); rw [d1.2, show S2.1 231 24 + 1 + 1 = S2.1 231 24 + 2 by omega] at b1; exact b9.2.2.lp (by omega) (by omega) (by omega) d1.1 b1); (have b1 := yu_30 (by omega) q; exact b9.2.2.la (by omega) (by omega) (by omega) b1)) hW hL (lv_sub hl [1, 2] rfl)
                      · refine lv_iinc (v := iv (ct + (-1))) (lv' := [(1, .int (iv (ct + (-1)))), (2, .int (iv (S.2.1 247 (S2.1 231 24)))), (0, .ref (G.2.2.1 + 231))]) hx hb dX12_treesRead_146 hl (k := 1) rfl ((Int32.ofInt_add _ _).symm) (by decide) rfl (fun ls hl => ?_)
                        refine lv_goto (tgt := 2) hx hb dX12_treesRead_149 (by decide) ?_
                        have q_50 : (-2147483648) ≤ u_39.1 231 20 ∧ u_39.1 231 20 ≤ 2147483647 := iu_39.fi 20
                        have q_51 : (-2147483648) ≤ u_39.1 231 24 ∧ u_39.1 231 24 ≤ 2147483647 := iu_39.fi 24
                        exact ih_2 u_39 (ct + (-1)) _ _ _ (Nat.lt_of_lt_of_le (mf_lt (S := S2) (by omega) (by omega) (fun h => by have a9 := xu_39 h; omega)) (Nat.le_of_lt_succ hm2)) iu_39 F_41 F_42 g_44 g_45 (by omega) (by omega) (fun h => by have a9 := xu_39 h; omega) (fun h => by have a9 := xu_39 h; have b9 := hct2 (by omega); have a0 := hH90 a9.1; have a1 := xu_30 a0.1; have q9 := a0.2.1; omega) (fun h => by exfalso; have a9 := xu_39 h; omega) (fun h h9 => by have b8 := hcu2 (by omega); have k9 := hkr.1 (S2.1 231 24) (by omega) (by omega); unfold krq at k9; have b9 := hH2 (by omega); by_cases q : u_30.1 231 20 = 0; (have a1 := xu_30 q; have d1 := a1.2.1; have b1 := hN90 q (by omega); rw [d1.2, show S2.1 231 24 + 1 + 1 = S2.1 231 24 + 2 by omega] at b1; exact b9.2.2.lp (by omega) (by omega) (by omega) d1.1 b1); (have b1 := yu_30 (by omega) q; exact b9.2.2.la (by omega) (by omega) (by omega) b1)) hW hL (lv_sub hl [0, 2] rfl)
                    · have b_52 := hcu90 (by have e9 := (show S90.1 231 20 = S90.1 231 20 from rfl); omega)
                      refine lv_aload_n hx hb dX12_treesRead_97 rfl (lv_at hl 2 rfl) ?_
                      refine g_X12_47 Cx hW (k := 231) (by decide) rfl (v := .ref (G.2.2.1 + 244)) (rd_15 hI90) dX12_treesRead_98 ?_
                      refine lv_aload_n hx hb dX12_treesRead_101 rfl (lv_at hl 2 rfl) ?_
                      have q_53 : (-2147483648) ≤ S90.1 231 24 ∧ S90.1 231 24 ≤ 2147483647 := hI90.fi 24
                      refine g_X12_315 Cx hW (k := 231) (by decide) rfl (v := S90.1 231 24) rfl dX12_treesRead_102 ?_
                      refine rIald Cx hW (k := 244) (by decide) rfl (by decide) (by omega) (by omega) dX12_treesRead_105 ?_
                      have q_54 : (-2147483648) ≤ S.2.1 244 (S90.1 231 24) ∧ S.2.1 244 (S90.1 231 24) ≤ 2147483647 := hI.ai 244 (S90.1 231 24)
                      refine r_i (b := S.2.1 244 (S90.1 231 24)) (((hL90_ 244 rfl).2.1 (S90.1 231 24)).trans (((fu_30 244 rfl).2.1 (S90.1 231 24)).trans ((uF_a).trans ((hL2_ 244 rfl).2.1 (S90.1 231 24))))) ?_
                      have hr3 : K (S90.1 231 24) = S.2.1 244 (S90.1 231 24) := by rw [← hK]
                      refine lv_iconst (v := iv 2) hx hb dX12_treesRead_106 (by decide) ?_
                      refine r_icmp_ne (tgt := 134) hx hb ⟨(by omega), (by omega)⟩ ⟨(by omega), (by omega)⟩ dX12_treesRead_107 (by decide) (fun c_55 => ?_) (fun c_55 => ?_)
                      · refine lv_aload_n hx hb dX12_treesRead_134 rfl (lv_at hl 2 rfl) ?_
                        refine lv_bipush (v := iv 59) hx hb dX12_treesRead_135 (by decide) ?_
                        refine sBv (sV (As := [.int (iv 59)]) (rest := []) (k := 231) Cx (q_X12_want l G S90 (sv := 59) (K := K) (V := V) (T := T) (pz := S90.1 231 24) (kp := kp) (vp := vp) (cd := 5) hI90 (by omega) (by omega) hkr (by omega) ((funext fun j => ((hL90_ 244 rfl).2.1 j).trans (((fu_30 244 rfl).2.1 j).trans ((uF_a).trans ((hL2_ 244 rfl).2.1 j))) : S90.2.1 244 = S.2.1 244).trans hK) ((funext fun j => ((hL90_ 247 rfl).2.1 j).trans (((fu_30 247 rfl).2.1 j).trans ((uF_a).trans ((hL2_ 247 rfl).2.1 j))) : S90.2.1 247 = S.2.1 247).trans hV) hE (by omega) (fun h => by have e8 := (show S90.1 231 20 = S90.1 231 20 from rfl); have a9 := hcu90 (by have e9 := (show S90.1 231 20 = S90.1 231 20 from rfl); omega); omega)) (c_X12_331 Cx rfl rfl (rmk_ok (by omega) (by decide))) hW (by decide) rfl rfl rfl hl.1 rfl (Nat.le_of_ble_eq_true rfl) dX12_treesRead_137 ⟨Nat.le_of_ble_eq_true rfl, Nat.le_of_ble_eq_true rfl⟩) hL (fun u_56 H locs k_57 hW hL => ?_)
                        obtain ⟨iu_56, fu_56, gu_56, xu_56⟩ := k_57
                        have F_58 := hFm90.trans fu_56
                        have F_59 := hFL290.trans fu_56
                        have F_60 := hL90_.trans fu_56
                        have g_61 : FF S u_56 (fl [20, 21, 24]) := FF.trans hGm90 (FF.to gu_56 (fl_sub (by decide)))
                        have g_62 : FF S u_56 (fl [20, 21, 24]) := FF.trans hGL290 (FF.to gu_56 (fl_sub (by decide)))
                        have g_63 : FF u_30 u_56 (fl [20, 21, 24]) := FF.trans gL90_ (FF.to gu_56 (fl_sub (by decide)))
                        obtain ⟨xu_56, yu_56, zu_56⟩ := xu_56
                        refine lv_iload_n hx hb dX12_treesRead_140 rfl (lv_at hl 0 rfl) ?_
                        refine lv_bipush (v := iv 6) hx hb dX12_treesRead_141 (by decide) ?_
                        refine r_icmp_eq (tgt := 149) hx hb ⟨(by omega), (by omega)⟩ ⟨(by omega), (by omega)⟩ dX12_treesRead_143 (by decide) (fun c_64 => ?_) (fun c_64 => ?_)
                        · refine lv_goto (tgt := 2) hx hb dX12_treesRead_149 (by decide) ?_
                          have q_65 : (-2147483648) ≤ u_56.1 231 20 ∧ u_56.1 231 20 ≤ 2147483647 := iu_56.fi 20
                          have q_66 : (-2147483648) ≤ u_56.1 231 24 ∧ u_56.1 231 24 ≤ 2147483647 := iu_56.fi 24
                          exact ih_2 u_56 ct _ _ _ (Nat.lt_of_lt_of_le (mf_lt (S := S2) (by omega) (by omega) (fun h => by have a9 := xu_56 h; have a0 := hH90 a9.1; have a1 := xu_30 a0.1; have q9 := a0.2.1; omega)) (Nat.le_of_lt_succ hm2)) iu_56 F_58 F_59 g_61 g_62 (by omega) (by omega) (fun h => by have a9 := xu_56 h; omega) (fun h => by have a9 := xu_56 h; have b9 := hct2 (by omega); have a0 := hH90 a9.1; have a1 := xu_30 a0.1; have q9 := a0.2.1; omega) (fun h => by have a3 := xu_56 h; have a0 := hH90 a3.1; have a1 := xu_30 a0.1; have d1 := a1.2.1; have d3 := a3.2.1; have b8 := hcu2 (by omega); have k9 := hkr.1 (S2.1 231 24) (by omega) (by omega); unfold krq at k9; have b9 := hH2 (by omega); have q9 := hcu90 a3.1; have p9 := a0.2.2; rw [d1.2, show S2.1 231 24 + 1 + 1 = S2.1 231 24 + 2 by omega] at p9; exact ⟨b9.1, by omega, b9.2.2.lf (by omega) (by omega) (by omega) d1.1 (by have y := p9.y (by omega) d3.1; rw [d3.2]; exact y) (by have := a0.2.1; omega) (by rw [if_pos (by omega)])⟩) (fun h h9 => by have b8 := hcu2 (by omega); have k9 := hkr.1 (S2.1 231 24) (by omega) (by omega); unfold krq at k9; have b9 := hH2 (by omega); by_cases q : u_30.1 231 20 = 0; (have a1 := xu_30 q; have d1 := a1.2.1; by_cases q2 : S90.1 231 20 = 0; (have a0 := hH90 q2; have q9 := hcu90 q2; have b1 := yu_56 q2 h9; have p9 := a0.2.2; have k7 := (hkr.n (t := S90.1 231 24) (by omega) (by omega)).mpr; rw [d1.2, show S2.1 231 24 + 1 + 1 = S2.1 231 24 + 2 by omega] at p9; exact b9.2.2.lp (by omega) (by omega) (by omega) d1.1 (p9.n (by omega) (fun z => by have := k7 z; omega) b1)); (have b1 := hN90 q q2; rw [d1.2, show S2.1 231 24 + 1 + 1 = S2.1 231 24 + 2 by omega] at b1; exact b9.2.2.lp (by omega) (by omega) (by omega) d1.1 b1)); (have b1 := yu_30 (by omega) q; exact b9.2.2.la (by omega) (by omega) (by omega) b1)) hW hL (lv_sub hl [1, 2] rfl)
                        · refine lv_iinc (v := iv (ct + (-1))) (lv' := [(1, .int (iv (ct + (-1)))), (2, .int (iv (S.2.1 247 (S2.1 231 24)))), (0, .ref (G.2.2.1 + 231))]) hx hb dX12_treesRead_146 hl (k := 1) rfl ((Int32.ofInt_add _ _).symm) (by decide) rfl (fun ls hl => ?_)
                          refine lv_goto (tgt := 2) hx hb dX12_treesRead_149 (by decide) ?_
                          have q_67 : (-2147483648) ≤ u_56.1 231 20 ∧ u_56.1 231 20 ≤ 2147483647 := iu_56.fi 20
                          have q_68 : (-2147483648) ≤ u_56.1 231 24 ∧ u_56.1 231 24 ≤ 2147483647 := iu_56.fi 24
                          exact ih_2 u_56 (ct + (-1)) _ _ _ (Nat.lt_of_lt_of_le (mf_lt (S := S2) (by omega) (by omega) (fun h => by have a9 := xu_56 h; have a0 := hH90 a9.1; have a1 := xu_30 a0.1; have q9 := a0.2.1; omega)) (Nat.le_of_lt_succ hm2)) iu_56 F_58 F_59 g_61 g_62 (by omega) (by omega) (fun h => by have a9 := xu_56 h; omega) (fun h => by have a9 := xu_56 h; have b9 := hct2 (by omega); have a0 := hH90 a9.1; have a1 := xu_30 a0.1; have q9 := a0.2.1; omega) (fun h => by have a3 := xu_56 h; have a0 := hH90 a3.1; have a1 := xu_30 a0.1; have d1 := a1.2.1; have d3 := a3.2.1; have b8 := hcu2 (by omega); have k9 := hkr.1 (S2.1 231 24) (by omega) (by omega); unfold krq at k9; have b9 := hH2 (by omega); have q9 := hcu90 a3.1; have p9 := a0.2.2; rw [d1.2, show S2.1 231 24 + 1 + 1 = S2.1 231 24 + 2 by omega] at p9; exact ⟨b9.1, by omega, b9.2.2.lf (by omega) (by omega) (by omega) d1.1 (by have y := p9.y (by omega) d3.1; rw [d3.2]; exact y) (by have := a0.2.1; omega) (by rw [if_neg (by omega)]; omega)⟩) (fun h h9 => by have b8 := hcu2 (by omega); have k9 := hkr.1 (S2.1 231 24) (by omega) (by omega); unfold krq at k9; have b9 := hH2 (by omega); by_cases q : u_30.1 231 20 = 0; (have a1 := xu_30 q; have d1 := a1.2.1; by_cases q2 : S90.1 231 20 = 0; (have a0 := hH90 q2; have q9 := hcu90 q2; have b1 := yu_56 q2 h9; have p9 := a0.2.2; have k7 := (hkr.n (t := S90.1 231 24) (by omega) (by omega)).mpr; rw [d1.2, show S2.1 231 24 + 1 + 1 = S2.1 231 24 + 2 by omega] at p9; exact b9.2.2.lp (by omega) (by omega) (by omega) d1.1 (p9.n (by omega) (fun z => by have := k7 z; omega) b1)); (have b1 := hN90 q q2; rw [d1.2, show S2.1 231 24 + 1 + 1 = S2.1 231 24 + 2 by omega] at b1; exact b9.2.2.lp (by omega) (by omega) (by omega) d1.1 b1)); (have b1 := yu_30 (by omega) q; exact b9.2.2.la (by omega) (by omega) (by omega) b1)) hW hL (lv_sub hl [0, 2] rfl)
                      · refine lv_aload_n hx hb dX12_treesRead_110 rfl (lv_at hl 2 rfl) ?_
                        refine lv_dup hx hb dX12_treesRead_111 rfl ?_
                        refine g_X12_315 Cx hW (k := 231) (by decide) rfl (v := S90.1 231 24) rfl dX12_treesRead_112 ?_
                        have n_69 := hE.nx (pz := S90.1 231 24) (by omega) (by omega)
                        refine lv_iconst (v := iv 1) hx hb dX12_treesRead_115 (by decide) ?_
                        refine r_iadd hx hb dX12_treesRead_116 ?_
                        refine p_X12_315 Cx hW hL (k := 231) (by decide) rfl dX12_treesRead_117 (fun H locs hW hL => ?_)
                        have F_70 : Fr S (uF S90 231 24 ((S90.1 231 24) + 1)) (pl [231]) := hFm90.F rfl
                        have F_71 : Fr S (uF S90 231 24 ((S90.1 231 24) + 1)) (pl [231]) := hFL290.F rfl
                        have F_72 : Fr u_30 (uF S90 231 24 ((S90.1 231 24) + 1)) (pl [231]) := hL90_.F rfl
                        have g_73 : FF S (uF S90 231 24 ((S90.1 231 24) + 1)) (fl [20, 21, 24]) := FF.F hGm90 rfl
                        have g_74 : FF S (uF S90 231 24 ((S90.1 231 24) + 1)) (fl [20, 21, 24]) := FF.F hGL290 rfl
                        have g_75 : FF u_30 (uF S90 231 24 ((S90.1 231 24) + 1)) (fl [20, 21, 24]) := FF.F gL90_ rfl
                        have i_76 : dX G (uF S90 231 24 ((S90.1 231 24) + 1)) := hI90.F (i := 24) (show (-2147483648) ≤ (S90.1 231 24) + 1 ∧ (S90.1 231 24) + 1 ≤ 2147483647 from ⟨by omega, by omega⟩)
                        refine lv_aload_n hx hb dX12_treesRead_120 rfl (lv_at hl 2 rfl) ?_
                        refine lv_bipush (v := iv 58) hx hb dX12_treesRead_121 (by decide) ?_
                        have lk_77 : (uF S90 231 24 ((S90.1 231 24) + 1)).1 231 20 = S90.1 231 20 := uF_ne (fun h => absurd h.2 (by decide))
                        have lk_78 : (uF S90 231 24 ((S90.1 231 24) + 1)).1 231 24 = (S90.1 231 24) + 1 := uF_on
                        refine sBv (sV (As := [.int (iv 58)]) (rest := []) (k := 231) Cx (q_X12_want l G (uF S90 231 24 ((S90.1 231 24) + 1)) (sv := 58) (K := K) (V := V) (T := T) (pz := (S90.1 231 24) + 1) (kp := kp) (vp := vp) (cd := 4) i_76 (by omega) (by omega) hkr (by omega) ((funext fun j => (uF_a).trans (((hL90_ 244 rfl).2.1 j).trans (((fu_30 244 rfl).2.1 j).trans ((uF_a).trans ((hL2_ 244 rfl).2.1 j)))) : (uF S90 231 24 ((S90.1 231 24) + 1)).2.1 244 = S.2.1 244).trans hK) ((funext fun j => (uF_a).trans (((hL90_ 247 rfl).2.1 j).trans (((fu_30 247 rfl).2.1 j).trans ((uF_a).trans ((hL2_ 247 rfl).2.1 j)))) : (uF S90 231 24 ((S90.1 231 24) + 1)).2.1 247 = S.2.1 247).trans hV) hE (by omega) (fun h => by have e8 := (show (uF S90 231 24 ((S90.1 231 24) + 1)).1 231 20 = S90.1 231 20 from uF_ne (fun h => absurd h.2 (by decide))); have a9 := hcu90 (by have e9 := (show (uF S90 231 24 ((S90.1 231 24) + 1)).1 231 20 = S90.1 231 20 from uF_ne (fun h => absurd h.2 (by decide))); omega); omega)) (c_X12_331 Cx rfl rfl (rmk_ok (by omega) (by decide))) hW (by decide) rfl rfl rfl hl.1 rfl (Nat.le_of_ble_eq_true rfl) dX12_treesRead_123 ⟨Nat.le_of_ble_eq_true rfl, Nat.le_of_ble_eq_true rfl⟩) hL (fun u_79 H locs k_80 hW hL => ?_)
                        obtain ⟨iu_79, fu_79, gu_79, xu_79⟩ := k_80
                        have F_81 := F_70.trans fu_79
                        have F_82 := F_71.trans fu_79
                        have F_83 := F_72.trans fu_79
                        have g_84 : FF S u_79 (fl [20, 21, 24]) := FF.trans g_73 (FF.to gu_79 (fl_sub (by decide)))
                        have g_85 : FF S u_79 (fl [20, 21, 24]) := FF.trans g_74 (FF.to gu_79 (fl_sub (by decide)))
                        have g_86 : FF u_30 u_79 (fl [20, 21, 24]) := FF.trans g_75 (FF.to gu_79 (fl_sub (by decide)))
                        obtain ⟨xu_79, yu_79, zu_79⟩ := xu_79
                        refine lv_aload_n hx hb dX12_treesRead_126 rfl (lv_at hl 2 rfl) ?_
                        refine lv_iconst (v := iv 2) hx hb dX12_treesRead_127 (by decide) ?_
                        have q_87 : (-2147483648) ≤ u_79.1 231 20 ∧ u_79.1 231 20 ≤ 2147483647 := iu_79.fi 20
                        have q_88 : (-2147483648) ≤ u_79.1 231 24 ∧ u_79.1 231 24 ≤ 2147483647 := iu_79.fi 24
                        refine sBv (sV (As := [.int (iv 2)]) (rest := []) (k := 231) Cx (q_X12_wantKind l G u_79 (k := 2) (K := K) (V := V) (T := T) (pz := u_79.1 231 24) (kp := kp) (vp := vp) iu_79 (by omega) hkr (by omega) ((funext fun j => ((fu_79 244 rfl).2.1 j).trans ((uF_a).trans (((hL90_ 244 rfl).2.1 j).trans (((fu_30 244 rfl).2.1 j).trans ((uF_a).trans ((hL2_ 244 rfl).2.1 j))))) : u_79.2.1 244 = S.2.1 244).trans hK) ((funext fun j => ((fu_79 247 rfl).2.1 j).trans ((uF_a).trans (((hL90_ 247 rfl).2.1 j).trans (((fu_30 247 rfl).2.1 j).trans ((uF_a).trans ((hL2_ 247 rfl).2.1 j))))) : u_79.2.1 247 = S.2.1 247).trans hV) hE (by omega) (fun h => by have e8 := (show u_79.1 231 20 = u_79.1 231 20 from rfl); have a9 := xu_79 (by have e9 := (show u_79.1 231 20 = u_79.1 231 20 from rfl); omega); omega)) (c_X12_328 Cx rfl rfl (rmk_ok (by omega) (by decide))) hW (by decide) rfl rfl rfl hl.1 rfl (Nat.le_of_ble_eq_true rfl) dX12_treesRead_128 ⟨Nat.le_of_ble_eq_true rfl, Nat.le_of_ble_eq_true rfl⟩) hL (fun u_89 H locs k_90 hW hL => ?_)
                        obtain ⟨iu_89, fu_89, gu_89, xu_89⟩ := k_90
                        have F_91 := F_81.trans fu_89
                        have F_92 := F_82.trans fu_89
                        have F_93 := F_83.trans fu_89
                        have g_94 : FF S u_89 (fl [20, 21, 24]) := FF.trans g_84 (FF.to gu_89 (fl_sub (by decide)))
                        have g_95 : FF S u_89 (fl [20, 21, 24]) := FF.trans g_85 (FF.to gu_89 (fl_sub (by decide)))
                        have g_96 : FF u_30 u_89 (fl [20, 21, 24]) := FF.trans g_86 (FF.to gu_89 (fl_sub (by decide)))
                        obtain ⟨xu_89, yu_89, zu_89⟩ := xu_89
                        refine lv_goto (tgt := 90) hx hb dX12_treesRead_131 (by decide) ?_
                        have q_97 : (-2147483648) ≤ u_89.1 231 20 ∧ u_89.1 231 20 ≤ 2147483647 := iu_89.fi 20
                        have q_98 : (-2147483648) ≤ u_89.1 231 24 ∧ u_89.1 231 24 ≤ 2147483647 := iu_89.fi 24
                        exact ih_90 u_89  _ _ _ (Nat.lt_of_lt_of_le (mf_lt (S := S90) (by omega) (by omega) (fun h => by have a9 := xu_89 h; have a1 := xu_79 a9.1; omega)) (Nat.le_of_lt_succ hmeas)) iu_89 F_91 F_92 F_93 g_94 g_95 g_96 (by omega) (fun h => by have a9 := xu_89 h; omega) (fun h => by have a2 := xu_89 h; have a1 := xu_79 a2.1; have d1 := a1.2.1; have d2 := a2.2.1; rw [d1.2] at d2; have b9 := hH90 (by omega); have q9 := hcu90 (by omega); have b7 := xu_30 b9.1; exact ⟨b9.1, by omega, b9.2.2.go (by omega) ((hkr.n (by omega) (by omega)).mp (by omega)) d1.1 (by have y := d2.1; rw [show S90.1 231 24 + 1 + 1 = S90.1 231 24 + 2 by omega] at y; exact y) (by have := d2.2; omega)⟩) (fun h h9 => by have b9 := hH90 (by omega); have q9 := hcu90 (by omega); have b7 := xu_30 b9.1; have k7 := (hkr.n (t := S90.1 231 24) (by omega) (by omega)).mp (by omega); by_cases q : u_79.1 231 20 = 0; (have a1 := xu_79 q; have d1 := a1.2.1; have b1 := yu_89 q h9; rw [d1.2, show S90.1 231 24 + 1 + 1 = S90.1 231 24 + 2 by omega] at b1; exact b9.2.2.no (by omega) k7 (fun z => b1 z.2)); (have b1 := yu_79 (by omega) q; exact b9.2.2.no (by omega) k7 (fun z => b1 z.1))) hW hL (lv_sub hl [0, 1, 2] rfl)
                have q_99 : (-2147483648) ≤ u_30.1 231 20 ∧ u_30.1 231 20 ≤ 2147483647 := iu_30.fi 20
                have q_100 : (-2147483648) ≤ u_30.1 231 24 ∧ u_30.1 231 24 ≤ 2147483647 := iu_30.fi 24
                exact loop_90 (_ + 1) u_30  _ _ _ (Nat.lt_succ_self _) iu_30 F_32 F_33 Fr.rf g_34 g_35 FF.rf (by omega) (fun h => by have a9 := xu_30 h; omega) (fun h => ⟨h, Int.le_refl _, PQi.zero⟩) (fun h h9 => absurd h h9) hW hL (lv_sub hl [0, 1, 2] rfl)
              · refine lv_aload_n hx hb dX12_treesRead_70 rfl (lv_at hl 2 rfl) ?_
                refine lv_iconst (v := iv 2) hx hb dX12_treesRead_71 (by decide) ?_
                have lk_101 : (uF S2 231 24 ((S2.1 231 24) + 1)).1 231 20 = S2.1 231 20 := uF_ne (fun h => absurd h.2 (by decide))
                have lk_102 : (uF S2 231 24 ((S2.1 231 24) + 1)).1 231 24 = (S2.1 231 24) + 1 := uF_on
                refine sBv (sV (As := [.int (iv 2)]) (rest := []) (k := 231) Cx (q_X12_wantKind l G (uF S2 231 24 ((S2.1 231 24) + 1)) (k := 2) (K := K) (V := V) (T := T) (pz := (S2.1 231 24) + 1) (kp := kp) (vp := vp) i_26 (by omega) hkr (by omega) ((funext fun j => (uF_a).trans ((hL2_ 244 rfl).2.1 j) : (uF S2 231 24 ((S2.1 231 24) + 1)).2.1 244 = S.2.1 244).trans hK) ((funext fun j => (uF_a).trans ((hL2_ 247 rfl).2.1 j) : (uF S2 231 24 ((S2.1 231 24) + 1)).2.1 247 = S.2.1 247).trans hV) hE (by omega) (fun h => by have e8 := (show (uF S2 231 24 ((S2.1 231 24) + 1)).1 231 20 = S2.1 231 20 from uF_ne (fun h => absurd h.2 (by decide))); have a9 := hcu2 (by have e9 := (show (uF S2 231 24 ((S2.1 231 24) + 1)).1 231 20 = S2.1 231 20 from uF_ne (fun h => absurd h.2 (by decide))); omega); omega)) (c_X12_328 Cx rfl rfl (rmk_ok (by omega) (by decide))) hW (by decide) rfl rfl rfl hl.1 rfl (Nat.le_of_ble_eq_true rfl) dX12_treesRead_72 ⟨Nat.le_of_ble_eq_true rfl, Nat.le_of_ble_eq_true rfl⟩) hL (fun u_103 H locs k_104 hW hL => ?_)
                obtain ⟨iu_103, fu_103, gu_103, xu_103⟩ := k_104
                have F_105 := F_22.trans fu_103
                have F_106 := F_23.trans fu_103
                have g_107 : FF S u_103 (fl [20, 21, 24]) := FF.trans g_24 (FF.to gu_103 (fl_sub (by decide)))
                have g_108 : FF S u_103 (fl [20, 21, 24]) := FF.trans g_25 (FF.to gu_103 (fl_sub (by decide)))
                obtain ⟨xu_103, yu_103, zu_103⟩ := xu_103
                refine lv_aload_n hx hb dX12_treesRead_75 rfl (lv_at hl 2 rfl) ?_
                refine lv_iconst (v := iv 2) hx hb dX12_treesRead_76 (by decide) ?_
                have q_109 : (-2147483648) ≤ u_103.1 231 20 ∧ u_103.1 231 20 ≤ 2147483647 := iu_103.fi 20
                have q_110 : (-2147483648) ≤ u_103.1 231 24 ∧ u_103.1 231 24 ≤ 2147483647 := iu_103.fi 24
                refine sBv (sV (As := [.int (iv 2)]) (rest := []) (k := 231) Cx (q_X12_wantKind l G u_103 (k := 2) (K := K) (V := V) (T := T) (pz := u_103.1 231 24) (kp := kp) (vp := vp) iu_103 (by omega) hkr (by omega) ((funext fun j => ((fu_103 244 rfl).2.1 j).trans ((uF_a).trans ((hL2_ 244 rfl).2.1 j)) : u_103.2.1 244 = S.2.1 244).trans hK) ((funext fun j => ((fu_103 247 rfl).2.1 j).trans ((uF_a).trans ((hL2_ 247 rfl).2.1 j)) : u_103.2.1 247 = S.2.1 247).trans hV) hE (by omega) (fun h => by have e8 := (show u_103.1 231 20 = u_103.1 231 20 from rfl); have a9 := xu_103 (by have e9 := (show u_103.1 231 20 = u_103.1 231 20 from rfl); omega); omega)) (c_X12_328 Cx rfl rfl (rmk_ok (by omega) (by decide))) hW (by decide) rfl rfl rfl hl.1 rfl (Nat.le_of_ble_eq_true rfl) dX12_treesRead_77 ⟨Nat.le_of_ble_eq_true rfl, Nat.le_of_ble_eq_true rfl⟩) hL (fun u_111 H locs k_112 hW hL => ?_)
                obtain ⟨iu_111, fu_111, gu_111, xu_111⟩ := k_112
                have F_113 := F_105.trans fu_111
                have F_114 := F_106.trans fu_111
                have g_115 : FF S u_111 (fl [20, 21, 24]) := FF.trans g_107 (FF.to gu_111 (fl_sub (by decide)))
                have g_116 : FF S u_111 (fl [20, 21, 24]) := FF.trans g_108 (FF.to gu_111 (fl_sub (by decide)))
                obtain ⟨xu_111, yu_111, zu_111⟩ := xu_111
                refine lv_iinc (v := iv (ct + 1)) (lv' := [(1, .int (iv (ct + 1))), (2, .int (iv (S.2.1 247 (S2.1 231 24)))), (0, .ref (G.2.2.1 + 231))]) hx hb dX12_treesRead_80 hl (k := 1) rfl ((Int32.ofInt_add _ _).symm) (by decide) rfl (fun ls hl => ?_)
                refine lv_goto (tgt := 2) hx hb dX12_treesRead_83 (by decide) ?_
                have q_117 : (-2147483648) ≤ u_111.1 231 20 ∧ u_111.1 231 20 ≤ 2147483647 := iu_111.fi 20
                have q_118 : (-2147483648) ≤ u_111.1 231 24 ∧ u_111.1 231 24 ≤ 2147483647 := iu_111.fi 24
                exact ih_2 u_111 (ct + 1) _ _ _ (Nat.lt_of_lt_of_le (mf_lt (S := S2) (by omega) (by omega) (fun h => by have a9 := xu_111 h; have a1 := xu_103 a9.1; omega)) (Nat.le_of_lt_succ hm2)) iu_111 F_113 F_114 g_115 g_116 (by omega) (by omega) (fun h => by have a9 := xu_111 h; omega) (fun h => by have a9 := xu_111 h; have b9 := hct2 (by omega); have a1 := xu_103 a9.1; omega) (fun h => by have a2 := xu_111 h; have a1 := xu_103 a2.1; have d1 := a1.2.1; have d2 := a2.2.1; rw [d1.2] at d2; have b8 := hcu2 (by omega); have k9 := hkr.1 (S2.1 231 24) (by omega) (by omega); unfold krq at k9; have b9 := hH2 (by omega); exact ⟨b9.1, by omega, b9.2.2.br (by omega) (by omega) (by omega) d1.1 (by have y := d2.1; rw [show S2.1 231 24 + 1 + 1 = S2.1 231 24 + 2 by omega] at y; exact y) (by have := d2.2; omega) rfl⟩) (fun h h9 => by have b8 := hcu2 (by omega); have k9 := hkr.1 (S2.1 231 24) (by omega) (by omega); unfold krq at k9; have b9 := hH2 (by omega); by_cases q : u_103.1 231 20 = 0; (have a1 := xu_103 q; have d1 := a1.2.1; have b1 := yu_111 q h9; rw [d1.2, show S2.1 231 24 + 1 + 1 = S2.1 231 24 + 2 by omega] at b1; exact b9.2.2.bx (by omega) (by omega) (by omega) (fun z => b1 z.2)); (have b1 := yu_103 (by omega) q; exact b9.2.2.bx (by omega) (by omega) (by omega) (fun z => b1 z.1))) hW hL (lv_sub hl [0, 2] rfl)
            · refine lv_aload_n hx hb dX12_treesRead_45 rfl (lv_at hl 2 rfl) ?_
              refine lv_iconst (v := iv 1) hx hb dX12_treesRead_46 (by decide) ?_
              refine lv_aload_n hx hb dX12_treesRead_47 rfl (lv_at hl 2 rfl) ?_
              refine g_X12_315 Cx hW (k := 231) (by decide) rfl (v := S2.1 231 24) rfl dX12_treesRead_48 ?_
              refine sBv (sV (As := [.int (iv 1), .int (iv (S2.1 231 24))]) (rest := []) (k := 231) Cx (q_X12_wrong l G S2 (cd := 1) (tk := S2.1 231 24) hI2 (by omega) (by omega)) (c_X12_321 Cx rfl rfl (rmk_ok (by omega) (by decide))) hW (by decide) rfl rfl rfl hl.1 rfl (Nat.le_of_ble_eq_true rfl) dX12_treesRead_51 ⟨Nat.le_of_ble_eq_true rfl, Nat.le_of_ble_eq_true rfl⟩) hL (fun u_119 H locs k_120 hW hL => ?_)
              obtain ⟨iu_119, fu_119, gu_119, xu_119⟩ := k_120
              have F_121 := hFm2.trans fu_119
              have F_122 := hL2_.trans fu_119
              have g_123 : FF S u_119 (fl [20, 21, 24]) := FF.trans hGm2 (FF.to gu_119 (fl_sub (by decide)))
              have g_124 : FF S u_119 (fl [20, 21, 24]) := FF.trans gL2_ (FF.to gu_119 (fl_sub (by decide)))
              have q_125 : (-2147483648) ≤ u_119.1 231 20 ∧ u_119.1 231 20 ≤ 2147483647 := iu_119.fi 20
              have lk_126 : u_119.1 231 24 = S2.1 231 24 := gu_119 24 rfl
              exact sVret Cx hr hlk hW hL ⟨iu_119, F_121, g_123, ⟨(fun h => absurd h (by have e9 := (show u_119.1 231 20 = u_119.1 231 20 from rfl); have a9 := xu_119; omega)), (fun h h9 => by have b8 := hcu2 (by omega); have k9 := hkr.1 (S2.1 231 24) (by omega) (by omega); unfold krq at k9; have b7 := (hH2 (by omega)).2.1; have b9 := (hH2 (by omega)).2.2; exact b9.x (by omega) (by omega) (by omega)), (by have e3 := (show u_119.1 231 20 = u_119.1 231 20 from rfl); have e4 := xu_119; omega)⟩⟩ dX12_treesRead_54
  have q_127 : (-2147483648) ≤ S.1 231 20 ∧ S.1 231 20 ≤ 2147483647 := hI.fi 20
  have q_128 : (-2147483648) ≤ S.1 231 24 ∧ S.1 231 24 ≤ 2147483647 := hI.fi 24
  exact loop_2 (_ + 1) S 1 _ _ _ (Nat.lt_succ_self _) hI (Fr.rf : Fr S S (pl [231])) Fr.rf FF.rf FF.rf (by omega) (by omega) (fun h => by have a9 := hcu h; omega) (fun h => by have a9 := hcu h; omega) (fun h => by have a9 := hcu h; exact ⟨h, by omega, by rw [hc]; exact TQi.zero⟩) (fun h h9 => absurd h h9) hW hL (lv_sub hl [0, 1] rfl)

set_option maxRecDepth 100000 in
set_option maxHeartbeats 4000000 in
theorem q_X12_proofRead (l : Launch) (G : sG) (S : sS) {K V : Int → Int} {T pz : Int}  {kp vp : Int → Int} (hI : dX G S) (hm : 0 ≤ S.1 231 46 ∧ S.1 231 46 ≤ 12) (hkr : Hd (KVq K V T kp vp)) (h01 : 0 ≤ S.1 231 20 ∧ S.1 231 20 ≤ 1) (hK : S.2.1 244 = K) (hV : S.2.1 247 = V) (hE : gE K T) (h20 : S.1 231 20 = 0) : Met l yX12_proofRead (.code yX12_proofRead cX12_proofRead 2 none :: tb) (rmk 4 0 0) (sPc G 294 S [.ref (G.2.2.1 + 231)]) (sQv G 294 (fun u => dX G u ∧ Fr S u (pl [231]) ∧ FF S u (fl [20, 21, 24]) ∧ (Hd (u.1 231 20 = 0 ↔ isP kp vp (S.1 231 46)) ∧ (0 ≤ u.1 231 20 ∧ u.1 231 20 ≤ 1)))) 0 0 (sF G) := by
  refine sEnter (by decide) (Nat.le_of_ble_eq_true rfl) ?_
  intro p e s m args below meth c Cx hr hlk hnm hW ls hl
  have Cx : sC G p m c cX12_proofRead 2 s args RX12 := Cx
  obtain ⟨hx, hb, hml, hown, hts⟩ := id Cx.1
  have hL : sL G [] := sL_nil
  have hl : lv_has ls 2 [(0, .ref (G.2.2.1 + 231))] := hl
  have hW0 := hW
  have hE1 := hE.1
  refine lv_aload_n hx hb dX12_proofRead_0 rfl (lv_at hl 0 rfl) ?_
  refine lv_iconst (v := iv 0) hx hb dX12_proofRead_1 (by decide) ?_
  refine p_X12_315 Cx hW hL (k := 231) (by decide) rfl dX12_proofRead_2 (fun H locs hW hL => ?_)
  have F_1 : Fr S (uF S 231 24 0) (pl [231]) := (Fr.rf : Fr S S (pl [231])).F rfl
  have g_2 : FF S (uF S 231 24 0) (fl [20, 21, 24]) := FF.F FF.rf rfl
  have i_3 : dX G (uF S 231 24 0) := hI.F (i := 24) (show (-2147483648) ≤ 0 ∧ 0 ≤ 2147483647 from ⟨by omega, by omega⟩)
  refine lv_aload_n hx hb dX12_proofRead_5 rfl (lv_at hl 0 rfl) ?_
  refine g_X12_47 Cx hW (k := 231) (by decide) rfl (v := .ref (G.2.2.1 + 244)) (rd_15 i_3) dX12_proofRead_6 ?_
  refine lv_iconst (v := iv 0) hx hb dX12_proofRead_9 (by decide) ?_
  refine rIald Cx hW (k := 244) (by decide) rfl (by decide) (by omega) (by omega) dX12_proofRead_10 ?_
  have q_4 : (-2147483648) ≤ S.2.1 244 0 ∧ S.2.1 244 0 ≤ 2147483647 := hI.ai 244 0
  refine r_i (b := S.2.1 244 0) uF_a ?_
  have hr1 : K 0 = S.2.1 244 0 := by rw [← hK]
  refine lv_iconst (v := iv 3) hx hb dX12_proofRead_11 (by decide) ?_
  refine r_icmp_ne (tgt := 24) hx hb ⟨(by omega), (by omega)⟩ ⟨(by omega), (by omega)⟩ dX12_proofRead_12 (by decide) (fun c_5 => ?_) (fun c_5 => ?_)
  · refine lv_iconst (v := iv (-1)) hx hb dX12_proofRead_24 (by decide) ?_
    refine lv_istore_n (lv' := [(1, .int (iv ((-1)))), (0, .ref (G.2.2.1 + 231))]) hx hb dX12_proofRead_25 rfl hl (by decide) rfl (fun ls hl => ?_)
    refine lv_aload_n hx hb dX12_proofRead_26 rfl (lv_at hl 1 rfl) ?_
    refine lv_dup hx hb dX12_proofRead_27 rfl ?_
    refine g_X12_315 Cx hW (k := 231) (by decide) rfl (v := 0) uF_on dX12_proofRead_28 ?_
    refine lv_iconst (v := iv 1) hx hb dX12_proofRead_31 (by decide) ?_
    refine r_iadd hx hb dX12_proofRead_32 ?_
    refine r_i (b := 1) (by omega) ?_
    refine p_X12_315 Cx hW hL (k := 231) (by decide) rfl dX12_proofRead_33 (fun H locs hW hL => ?_)
    have F_6 : Fr S (uF (uF S 231 24 0) 231 24 1) (pl [231]) := F_1.F rfl
    have g_7 : FF S (uF (uF S 231 24 0) 231 24 1) (fl [20, 21, 24]) := FF.F g_2 rfl
    have i_8 : dX G (uF (uF S 231 24 0) 231 24 1) := i_3.F (i := 24) (show (-2147483648) ≤ 1 ∧ 1 ≤ 2147483647 from ⟨by omega, by omega⟩)
    refine lv_iload_n hx hb dX12_proofRead_36 rfl (lv_at hl 0 rfl) ?_
    refine r_if_ne (tgt := 71) hx hb ⟨(by omega), (by omega)⟩ dX12_proofRead_37 (by decide) (fun _ => ?_) (fun c => absurd c (by omega))
    refine lv_iload_n hx hb dX12_proofRead_71 rfl (lv_at hl 0 rfl) ?_
    refine lv_iconst (v := iv 2) hx hb dX12_proofRead_72 (by decide) ?_
    refine r_icmp_ne (tgt := 83) hx hb ⟨(by omega), (by omega)⟩ ⟨(by omega), (by omega)⟩ dX12_proofRead_73 (by decide) (fun _ => ?_) (fun c => absurd c (by omega))
    refine lv_iload_n hx hb dX12_proofRead_83 rfl (lv_at hl 0 rfl) ?_
    refine lv_iconst (v := iv 3) hx hb dX12_proofRead_84 (by decide) ?_
    refine r_icmp_ne (tgt := 109) hx hb ⟨(by omega), (by omega)⟩ ⟨(by omega), (by omega)⟩ dX12_proofRead_85 (by decide) (fun _ => ?_) (fun c => absurd c (by omega))
    refine lv_aload_n hx hb dX12_proofRead_109 rfl (lv_at hl 1 rfl) ?_
    refine lv_iconst (v := iv 1) hx hb dX12_proofRead_110 (by decide) ?_
    refine lv_iconst (v := iv 0) hx hb dX12_proofRead_111 (by decide) ?_
    have q_9 : (-2147483648) ≤ S.1 231 20 ∧ S.1 231 20 ≤ 2147483647 := hI.fi 20
    have lk_10 : (uF (uF S 231 24 0) 231 24 1).1 231 20 = S.1 231 20 := (uF_ne (fun h => absurd h.2 (by decide))).trans (uF_ne (fun h => absurd h.2 (by decide)))
    refine sBv (sV (As := [.int (iv 1), .int (iv 0)]) (rest := []) (k := 231) Cx (q_X12_wrong l G (uF (uF S 231 24 0) 231 24 1) (cd := 1) (tk := 0) i_8 (by omega) (by omega)) (c_X12_321 Cx rfl rfl (rmk_ok (by omega) (by decide))) hW (by decide) rfl rfl rfl hl.1 rfl (Nat.le_of_ble_eq_true rfl) dX12_proofRead_112 ⟨Nat.le_of_ble_eq_true rfl, Nat.le_of_ble_eq_true rfl⟩) hL (fun u_11 H locs k_12 hW hL => ?_)
    obtain ⟨iu_11, fu_11, gu_11, xu_11⟩ := k_12
    have F_13 := F_6.trans fu_11
    have g_14 : FF S u_11 (fl [20, 21, 24]) := FF.trans g_7 (FF.to gu_11 (fl_sub (by decide)))
    refine lv_aload_n hx hb dX12_proofRead_115 rfl (lv_at hl 1 rfl) ?_
    have q_15 : (-2147483648) ≤ u_11.1 231 20 ∧ u_11.1 231 20 ≤ 2147483647 := iu_11.fi 20
    refine g_X12_270 Cx hW (k := 231) (by decide) rfl (v := u_11.1 231 20) rfl dX12_proofRead_116 ?_
    refine r_if_ne (tgt := 144) hx hb ⟨(by omega), (by omega)⟩ dX12_proofRead_119 (by decide) (fun _ => ?_) (fun c => absurd c (by omega))
    exact sVret Cx hr hlk hW hL ⟨iu_11, F_13, g_14, ⟨(show _ ↔ _ from ⟨fun h => absurd h (by have e9 := (show u_11.1 231 20 = u_11.1 231 20 from rfl); have a9 := xu_11; omega), fun z => by exfalso; have k0 := hkr.1 0 (by omega) (by omega); unfold krq at k0; have k1 := z.k; omega⟩), (by have e3 := (show u_11.1 231 20 = u_11.1 231 20 from rfl); have e4 := xu_11; omega)⟩⟩ dX12_proofRead_144
  · refine lv_aload_n hx hb dX12_proofRead_15 rfl (lv_at hl 0 rfl) ?_
    refine g_X12_56 Cx hW (k := 231) (by decide) rfl (v := .ref (G.2.2.1 + 247)) (rd_18 i_3) dX12_proofRead_16 ?_
    refine lv_iconst (v := iv 0) hx hb dX12_proofRead_19 (by decide) ?_
    refine rIald Cx hW (k := 247) (by decide) rfl (by decide) (by omega) (by omega) dX12_proofRead_20 ?_
    have q_16 : (-2147483648) ≤ S.2.1 247 0 ∧ S.2.1 247 0 ≤ 2147483647 := hI.ai 247 0
    refine r_i (b := S.2.1 247 0) uF_a ?_
    have hr2 : V 0 = S.2.1 247 0 := by rw [← hV]
    refine lv_goto (tgt := 25) hx hb dX12_proofRead_21 (by decide) ?_
    refine lv_istore_n (lv' := [(1, .int (iv (S.2.1 247 0))), (0, .ref (G.2.2.1 + 231))]) hx hb dX12_proofRead_25 rfl hl (by decide) rfl (fun ls hl => ?_)
    have hcu : Hd (S.1 231 20 = 0 → (0 : Int) ≤ 1 ∧ 1 ≤ T - 1) := fun _ => by have y := hE.nx (pz := 0) (by omega) (by omega); omega
    refine lv_aload_n hx hb dX12_proofRead_26 rfl (lv_at hl 1 rfl) ?_
    refine lv_dup hx hb dX12_proofRead_27 rfl ?_
    refine g_X12_315 Cx hW (k := 231) (by decide) rfl (v := 0) uF_on dX12_proofRead_28 ?_
    refine lv_iconst (v := iv 1) hx hb dX12_proofRead_31 (by decide) ?_
    refine r_iadd hx hb dX12_proofRead_32 ?_
    refine r_i (b := 1) (by omega) ?_
    refine p_X12_315 Cx hW hL (k := 231) (by decide) rfl dX12_proofRead_33 (fun H locs hW hL => ?_)
    have F_17 : Fr S (uF (uF S 231 24 0) 231 24 1) (pl [231]) := F_1.F rfl
    have g_18 : FF S (uF (uF S 231 24 0) 231 24 1) (fl [20, 21, 24]) := FF.F g_2 rfl
    have i_19 : dX G (uF (uF S 231 24 0) 231 24 1) := i_3.F (i := 24) (show (-2147483648) ≤ 1 ∧ 1 ≤ 2147483647 from ⟨by omega, by omega⟩)
    refine lv_iload_n hx hb dX12_proofRead_36 rfl (lv_at hl 0 rfl) ?_
    refine r_if_ne (tgt := 71) hx hb ⟨(by omega), (by omega)⟩ dX12_proofRead_37 (by decide) (fun c_20 => ?_) (fun c_20 => ?_)
    · refine lv_iload_n hx hb dX12_proofRead_71 rfl (lv_at hl 0 rfl) ?_
      refine lv_iconst (v := iv 2) hx hb dX12_proofRead_72 (by decide) ?_
      refine r_icmp_ne (tgt := 83) hx hb ⟨(by omega), (by omega)⟩ ⟨(by omega), (by omega)⟩ dX12_proofRead_73 (by decide) (fun c_21 => ?_) (fun c_21 => ?_)
      · refine lv_iload_n hx hb dX12_proofRead_83 rfl (lv_at hl 0 rfl) ?_
        refine lv_iconst (v := iv 3) hx hb dX12_proofRead_84 (by decide) ?_
        refine r_icmp_ne (tgt := 109) hx hb ⟨(by omega), (by omega)⟩ ⟨(by omega), (by omega)⟩ dX12_proofRead_85 (by decide) (fun c_22 => ?_) (fun c_22 => ?_)
        · refine lv_aload_n hx hb dX12_proofRead_109 rfl (lv_at hl 1 rfl) ?_
          refine lv_iconst (v := iv 1) hx hb dX12_proofRead_110 (by decide) ?_
          refine lv_iconst (v := iv 0) hx hb dX12_proofRead_111 (by decide) ?_
          have q_23 : (-2147483648) ≤ S.1 231 20 ∧ S.1 231 20 ≤ 2147483647 := hI.fi 20
          have lk_24 : (uF (uF S 231 24 0) 231 24 1).1 231 20 = S.1 231 20 := (uF_ne (fun h => absurd h.2 (by decide))).trans (uF_ne (fun h => absurd h.2 (by decide)))
          refine sBv (sV (As := [.int (iv 1), .int (iv 0)]) (rest := []) (k := 231) Cx (q_X12_wrong l G (uF (uF S 231 24 0) 231 24 1) (cd := 1) (tk := 0) i_19 (by omega) (by omega)) (c_X12_321 Cx rfl rfl (rmk_ok (by omega) (by decide))) hW (by decide) rfl rfl rfl hl.1 rfl (Nat.le_of_ble_eq_true rfl) dX12_proofRead_112 ⟨Nat.le_of_ble_eq_true rfl, Nat.le_of_ble_eq_true rfl⟩) hL (fun u_25 H locs k_26 hW hL => ?_)
          obtain ⟨iu_25, fu_25, gu_25, xu_25⟩ := k_26
          have F_27 := F_17.trans fu_25
          have g_28 : FF S u_25 (fl [20, 21, 24]) := FF.trans g_18 (FF.to gu_25 (fl_sub (by decide)))
          refine lv_aload_n hx hb dX12_proofRead_115 rfl (lv_at hl 1 rfl) ?_
          have q_29 : (-2147483648) ≤ u_25.1 231 20 ∧ u_25.1 231 20 ≤ 2147483647 := iu_25.fi 20
          refine g_X12_270 Cx hW (k := 231) (by decide) rfl (v := u_25.1 231 20) rfl dX12_proofRead_116 ?_
          refine r_if_ne (tgt := 144) hx hb ⟨(by omega), (by omega)⟩ dX12_proofRead_119 (by decide) (fun _ => ?_) (fun c => absurd c (by omega))
          exact sVret Cx hr hlk hW hL ⟨iu_25, F_27, g_28, ⟨(show _ ↔ _ from ⟨fun h => absurd h (by have e9 := (show u_25.1 231 20 = u_25.1 231 20 from rfl); have a9 := xu_25; omega), fun z => by exfalso; have k0 := hkr.1 0 (by omega) (by omega); unfold krq at k0; have k1 := z.k; omega⟩), (by have e3 := (show u_25.1 231 20 = u_25.1 231 20 from rfl); have e4 := xu_25; omega)⟩⟩ dX12_proofRead_144
        · refine lv_aload_n hx hb dX12_proofRead_88 rfl (lv_at hl 1 rfl) ?_
          refine lv_iconst (v := iv 1) hx hb dX12_proofRead_89 (by decide) ?_
          have q_30 : (-2147483648) ≤ S.1 231 20 ∧ S.1 231 20 ≤ 2147483647 := hI.fi 20
          have lk_31 : (uF (uF S 231 24 0) 231 24 1).1 231 20 = S.1 231 20 := (uF_ne (fun h => absurd h.2 (by decide))).trans (uF_ne (fun h => absurd h.2 (by decide)))
          have lk_32 : (uF (uF S 231 24 0) 231 24 1).1 231 24 = 1 := uF_on
          refine sBv (sV (As := [.int (iv 1)]) (rest := []) (k := 231) Cx (q_X12_wantWord l G (uF (uF S 231 24 0) 231 24 1) (sv := 1) (K := K) (V := V) (T := T) (pz := 1) (kp := kp) (vp := vp) (cd := 10) i_19 (by omega) (by omega) hkr (by omega) ((funext fun j => (uF_a).trans (uF_a) : (uF (uF S 231 24 0) 231 24 1).2.1 244 = S.2.1 244).trans hK) ((funext fun j => (uF_a).trans (uF_a) : (uF (uF S 231 24 0) 231 24 1).2.1 247 = S.2.1 247).trans hV) hE (by omega) (fun h => by have e8 := (show (uF (uF S 231 24 0) 231 24 1).1 231 20 = S.1 231 20 from (uF_ne (fun h => absurd h.2 (by decide))).trans (uF_ne (fun h => absurd h.2 (by decide)))); have a9 := hcu (by have e9 := (show (uF (uF S 231 24 0) 231 24 1).1 231 20 = S.1 231 20 from (uF_ne (fun h => absurd h.2 (by decide))).trans (uF_ne (fun h => absurd h.2 (by decide)))); omega); omega)) (c_X12_340 Cx rfl rfl (rmk_ok (by omega) (by decide))) hW (by decide) rfl rfl rfl hl.1 rfl (Nat.le_of_ble_eq_true rfl) dX12_proofRead_90 ⟨Nat.le_of_ble_eq_true rfl, Nat.le_of_ble_eq_true rfl⟩) hL (fun u_33 H locs k_34 hW hL => ?_)
          obtain ⟨iu_33, fu_33, gu_33, xu_33⟩ := k_34
          have F_35 := F_17.trans fu_33
          have g_36 : FF S u_33 (fl [20, 21, 24]) := FF.trans g_18 (FF.to gu_33 (fl_sub (by decide)))
          obtain ⟨xu_33, yu_33, zu_33⟩ := xu_33
          refine lv_aload_n hx hb dX12_proofRead_93 rfl (lv_at hl 1 rfl) ?_
          have q_37 : (-2147483648) ≤ S.1 231 46 ∧ S.1 231 46 ≤ 2147483647 := hI.fi 46
          have lk_38 : u_33.1 231 46 = S.1 231 46 := (gu_33 46 rfl).trans ((uF_ne (fun h => absurd h.2 (by decide))).trans (uF_ne (fun h => absurd h.2 (by decide))))
          have q_39 : (-2147483648) ≤ u_33.1 231 20 ∧ u_33.1 231 20 ≤ 2147483647 := iu_33.fi 20
          have q_40 : (-2147483648) ≤ u_33.1 231 24 ∧ u_33.1 231 24 ≤ 2147483647 := iu_33.fi 24
          refine sBv (sV (As := []) (rest := []) (k := 231) Cx (q_X12_pointRead l G u_33 (K := K) (V := V) (T := T) (pz := u_33.1 231 24) (kp := kp) (vp := vp) iu_33 (by omega) hkr (by omega) ((funext fun j => ((fu_33 244 rfl).2.1 j).trans ((uF_a).trans (uF_a)) : u_33.2.1 244 = S.2.1 244).trans hK) ((funext fun j => ((fu_33 247 rfl).2.1 j).trans ((uF_a).trans (uF_a)) : u_33.2.1 247 = S.2.1 247).trans hV) hE (by omega) (fun h => by have e8 := (show u_33.1 231 20 = u_33.1 231 20 from rfl); have a9 := xu_33 (by have e9 := (show u_33.1 231 20 = u_33.1 231 20 from rfl); omega); omega)) (c_X12_694 Cx rfl rfl (rmk_ok (by omega) (by decide))) hW (by decide) rfl rfl rfl hl.1 rfl (Nat.le_of_ble_eq_true rfl) dX12_proofRead_94 ⟨Nat.le_of_ble_eq_true rfl, Nat.le_of_ble_eq_true rfl⟩) hL (fun u_41 H locs k_42 hW hL => ?_)
          obtain ⟨iu_41, fu_41, gu_41, xu_41⟩ := k_42
          have F_43 := F_35.trans fu_41
          have g_44 : FF S u_41 (fl [20, 21, 24]) := FF.trans g_36 (FF.to gu_41 (fl_sub (by decide)))
          obtain ⟨xu_41, yu_41, zu_41⟩ := xu_41
          refine lv_aload_n hx hb dX12_proofRead_97 rfl (lv_at hl 1 rfl) ?_
          refine lv_iconst (v := iv 4) hx hb dX12_proofRead_98 (by decide) ?_
          have q_45 : (-2147483648) ≤ u_41.1 231 20 ∧ u_41.1 231 20 ≤ 2147483647 := iu_41.fi 20
          have q_46 : (-2147483648) ≤ u_41.1 231 24 ∧ u_41.1 231 24 ≤ 2147483647 := iu_41.fi 24
          refine sBv (sV (As := [.int (iv 4)]) (rest := []) (k := 231) Cx (q_X12_wantWord l G u_41 (sv := 4) (K := K) (V := V) (T := T) (pz := u_41.1 231 24) (kp := kp) (vp := vp) (cd := 11) iu_41 (by omega) (by omega) hkr (by omega) ((funext fun j => ((fu_41 244 rfl).2.1 j).trans (((fu_33 244 rfl).2.1 j).trans ((uF_a).trans (uF_a))) : u_41.2.1 244 = S.2.1 244).trans hK) ((funext fun j => ((fu_41 247 rfl).2.1 j).trans (((fu_33 247 rfl).2.1 j).trans ((uF_a).trans (uF_a))) : u_41.2.1 247 = S.2.1 247).trans hV) hE (by omega) (fun h => by have e8 := (show u_41.1 231 20 = u_41.1 231 20 from rfl); have a9 := xu_41 (by have e9 := (show u_41.1 231 20 = u_41.1 231 20 from rfl); omega); omega)) (c_X12_340 Cx rfl rfl (rmk_ok (by omega) (by decide))) hW (by decide) rfl rfl rfl hl.1 rfl (Nat.le_of_ble_eq_true rfl) dX12_proofRead_99 ⟨Nat.le_of_ble_eq_true rfl, Nat.le_of_ble_eq_true rfl⟩) hL (fun u_47 H locs k_48 hW hL => ?_)
          obtain ⟨iu_47, fu_47, gu_47, xu_47⟩ := k_48
          have F_49 := F_43.trans fu_47
          have g_50 : FF S u_47 (fl [20, 21, 24]) := FF.trans g_44 (FF.to gu_47 (fl_sub (by decide)))
          obtain ⟨xu_47, yu_47, zu_47⟩ := xu_47
          refine lv_aload_n hx hb dX12_proofRead_102 rfl (lv_at hl 1 rfl) ?_
          have lk_51 : u_47.1 231 46 = S.1 231 46 := (gu_47 46 rfl).trans ((gu_41 46 rfl).trans ((gu_33 46 rfl).trans ((uF_ne (fun h => absurd h.2 (by decide))).trans (uF_ne (fun h => absurd h.2 (by decide))))))
          have q_52 : (-2147483648) ≤ u_47.1 231 20 ∧ u_47.1 231 20 ≤ 2147483647 := iu_47.fi 20
          have q_53 : (-2147483648) ≤ u_47.1 231 24 ∧ u_47.1 231 24 ≤ 2147483647 := iu_47.fi 24
          refine sBv (sV (As := []) (rest := []) (k := 231) Cx (q_X12_pointRead l G u_47 (K := K) (V := V) (T := T) (pz := u_47.1 231 24) (kp := kp) (vp := vp) iu_47 (by omega) hkr (by omega) ((funext fun j => ((fu_47 244 rfl).2.1 j).trans (((fu_41 244 rfl).2.1 j).trans (((fu_33 244 rfl).2.1 j).trans ((uF_a).trans (uF_a)))) : u_47.2.1 244 = S.2.1 244).trans hK) ((funext fun j => ((fu_47 247 rfl).2.1 j).trans (((fu_41 247 rfl).2.1 j).trans (((fu_33 247 rfl).2.1 j).trans ((uF_a).trans (uF_a)))) : u_47.2.1 247 = S.2.1 247).trans hV) hE (by omega) (fun h => by have e8 := (show u_47.1 231 20 = u_47.1 231 20 from rfl); have a9 := xu_47 (by have e9 := (show u_47.1 231 20 = u_47.1 231 20 from rfl); omega); omega)) (c_X12_694 Cx rfl rfl (rmk_ok (by omega) (by decide))) hW (by decide) rfl rfl rfl hl.1 rfl (Nat.le_of_ble_eq_true rfl) dX12_proofRead_103 ⟨Nat.le_of_ble_eq_true rfl, Nat.le_of_ble_eq_true rfl⟩) hL (fun u_54 H locs k_55 hW hL => ?_)
          obtain ⟨iu_54, fu_54, gu_54, xu_54⟩ := k_55
          have F_56 := F_49.trans fu_54
          have g_57 : FF S u_54 (fl [20, 21, 24]) := FF.trans g_50 (FF.to gu_54 (fl_sub (by decide)))
          obtain ⟨xu_54, yu_54, zu_54⟩ := xu_54
          refine lv_goto (tgt := 115) hx hb dX12_proofRead_106 (by decide) ?_
          refine lv_aload_n hx hb dX12_proofRead_115 rfl (lv_at hl 1 rfl) ?_
          have q_58 : (-2147483648) ≤ u_54.1 231 20 ∧ u_54.1 231 20 ≤ 2147483647 := iu_54.fi 20
          refine g_X12_270 Cx hW (k := 231) (by decide) rfl (v := u_54.1 231 20) rfl dX12_proofRead_116 ?_
          refine r_if_ne (tgt := 144) hx hb ⟨(by omega), (by omega)⟩ dX12_proofRead_119 (by decide) (fun c_59 => ?_) (fun c_59 => ?_)
          · exact sVret Cx hr hlk hW hL ⟨iu_54, F_56, g_57, ⟨(show _ ↔ _ from ⟨fun h => absurd h (by have e9 := (show u_54.1 231 20 = u_54.1 231 20 from rfl); omega), fun z => by exfalso; have k0 := hkr.1 0 (by omega) (by omega); unfold krq at k0; have hz := (z.resolve_left (fun y => by have := y.1; omega)).resolve_left (fun y => by have := y.1; omega); by_cases qu_33 : u_33.1 231 20 = 0; (have au_33 := xu_33 qu_33; have du_33 := au_33.2.1; have cu_33 : u_33.1 231 24 = 2 := (by have y := du_33.2; omega); by_cases qu_41 : u_41.1 231 20 = 0; (have au_41 := xu_41 qu_41; have du_41 := au_41.2.1; rw [cu_33] at du_41; rw [show u_33.1 231 46 = S.1 231 46 from (gu_33 46 rfl).trans ((uF_ne (fun h => absurd h.2 (by decide))).trans (uF_ne (fun h => absurd h.2 (by decide))))] at du_41; have cu_41 : u_41.1 231 24 = S.1 231 46 + 4 := (by have y := du_41.2; omega); by_cases qu_47 : u_47.1 231 20 = 0; (have au_47 := xu_47 qu_47; have du_47 := au_47.2.1; rw [cu_41] at du_47; have cu_47 : u_47.1 231 24 = S.1 231 46 + 5 := (by have y := du_47.2; omega); by_cases qu_54 : u_54.1 231 20 = 0; (have au_54 := xu_54 qu_54; have du_54 := au_54.2.1; rw [cu_47] at du_54; rw [show u_47.1 231 46 = S.1 231 46 from (gu_47 46 rfl).trans ((gu_41 46 rfl).trans ((gu_33 46 rfl).trans ((uF_ne (fun h => absurd h.2 (by decide))).trans (uF_ne (fun h => absurd h.2 (by decide))))))] at du_54; exfalso; omega); (have bu_54 := yu_54 qu_47 qu_54; rw [cu_47] at bu_54; rw [show u_47.1 231 46 = S.1 231 46 from (gu_47 46 rfl).trans ((gu_41 46 rfl).trans ((gu_33 46 rfl).trans ((uF_ne (fun h => absurd h.2 (by decide))).trans (uF_ne (fun h => absurd h.2 (by decide))))))] at bu_54; exact bu_54 hz.2.2.2.2.1)); (have bu_47 := yu_47 qu_41 qu_47; rw [cu_41] at bu_47; exact bu_47 hz.2.2.2.1)); (have bu_41 := yu_41 qu_33 qu_41; rw [cu_33] at bu_41; rw [show u_33.1 231 46 = S.1 231 46 from (gu_33 46 rfl).trans ((uF_ne (fun h => absurd h.2 (by decide))).trans (uF_ne (fun h => absurd h.2 (by decide))))] at bu_41; exact bu_41 hz.2.2.1)); (have bu_33 := yu_33 (by omega) qu_33; exact bu_33 hz.2.1)⟩), (by have e3 := (show u_54.1 231 20 = u_54.1 231 20 from rfl); omega)⟩⟩ dX12_proofRead_144
          · have b_60 := xu_54 (by have e9 := (show u_54.1 231 20 = u_54.1 231 20 from rfl); omega)
            refine lv_aload_n hx hb dX12_proofRead_122 rfl (lv_at hl 1 rfl) ?_
            refine g_X12_47 Cx hW (k := 231) (by decide) rfl (v := .ref (G.2.2.1 + 244)) (rd_15 iu_54) dX12_proofRead_123 ?_
            refine lv_aload_n hx hb dX12_proofRead_126 rfl (lv_at hl 1 rfl) ?_
            have q_61 : (-2147483648) ≤ u_54.1 231 24 ∧ u_54.1 231 24 ≤ 2147483647 := iu_54.fi 24
            refine g_X12_315 Cx hW (k := 231) (by decide) rfl (v := u_54.1 231 24) rfl dX12_proofRead_127 ?_
            refine rIald Cx hW (k := 244) (by decide) rfl (by decide) (by omega) (by omega) dX12_proofRead_130 ?_
            have q_62 : (-2147483648) ≤ S.2.1 244 (u_54.1 231 24) ∧ S.2.1 244 (u_54.1 231 24) ≤ 2147483647 := hI.ai 244 (u_54.1 231 24)
            refine r_i (b := S.2.1 244 (u_54.1 231 24)) (((fu_54 244 rfl).2.1 (u_54.1 231 24)).trans (((fu_47 244 rfl).2.1 (u_54.1 231 24)).trans (((fu_41 244 rfl).2.1 (u_54.1 231 24)).trans (((fu_33 244 rfl).2.1 (u_54.1 231 24)).trans ((uF_a).trans (uF_a)))))) ?_
            have hr3 : K (u_54.1 231 24) = S.2.1 244 (u_54.1 231 24) := by rw [← hK]
            refine lv_iconst (v := iv 5) hx hb dX12_proofRead_131 (by decide) ?_
            refine r_icmp_eq (tgt := 144) hx hb ⟨(by omega), (by omega)⟩ ⟨(by omega), (by omega)⟩ dX12_proofRead_132 (by decide) (fun c_63 => ?_) (fun c_63 => ?_)
            · exact sVret Cx hr hlk hW hL ⟨iu_54, F_56, g_57, ⟨(show _ ↔ _ from ⟨fun h => by have au_54 := xu_54 (by have e9 := (show u_54.1 231 20 = u_54.1 231 20 from rfl); omega); have au_47 := xu_47 au_54.1; have au_41 := xu_41 au_47.1; have au_33 := xu_33 au_41.1; have du_33 := au_33.2.1; have cu_33 : u_33.1 231 24 = 2 := (by have y := du_33.2; omega); have du_41 := au_41.2.1; rw [cu_33] at du_41; rw [show u_33.1 231 46 = S.1 231 46 from (gu_33 46 rfl).trans ((uF_ne (fun h => absurd h.2 (by decide))).trans (uF_ne (fun h => absurd h.2 (by decide))))] at du_41; have cu_41 : u_41.1 231 24 = S.1 231 46 + 4 := (by have y := du_41.2; omega); have du_47 := au_47.2.1; rw [cu_41] at du_47; have cu_47 : u_47.1 231 24 = S.1 231 46 + 5 := (by have y := du_47.2; omega); have du_54 := au_54.2.1; rw [cu_47] at du_54; rw [show u_47.1 231 46 = S.1 231 46 from (gu_47 46 rfl).trans ((gu_41 46 rfl).trans ((gu_33 46 rfl).trans ((uF_ne (fun h => absurd h.2 (by decide))).trans (uF_ne (fun h => absurd h.2 (by decide))))))] at du_54; have k0 := hkr.1 0 (by omega) (by omega); unfold krq at k0; have ke := hkr.1 (u_54.1 231 24) (by omega) (by omega); unfold krq at ke; have kend : kp (u_54.1 231 24) = 0 := (by omega); exact .inr (.inr ⟨by omega, du_33.1, du_41.1, du_47.1, du_54.1, by rw [show S.1 231 46 + 5 + S.1 231 46 + 2 = u_54.1 231 24 by have y := du_54.2; omega]; exact kend⟩), fun _ => by have e9 := (show u_54.1 231 20 = u_54.1 231 20 from rfl); omega⟩), (by have e3 := (show u_54.1 231 20 = u_54.1 231 20 from rfl); omega)⟩⟩ dX12_proofRead_144
            · refine lv_aload_n hx hb dX12_proofRead_135 rfl (lv_at hl 1 rfl) ?_
              refine lv_iconst (v := iv 1) hx hb dX12_proofRead_136 (by decide) ?_
              refine lv_aload_n hx hb dX12_proofRead_137 rfl (lv_at hl 1 rfl) ?_
              refine g_X12_315 Cx hW (k := 231) (by decide) rfl (v := u_54.1 231 24) rfl dX12_proofRead_138 ?_
              refine sBv (sV (As := [.int (iv 1), .int (iv (u_54.1 231 24))]) (rest := []) (k := 231) Cx (q_X12_wrong l G u_54 (cd := 1) (tk := u_54.1 231 24) iu_54 (by omega) (by omega)) (c_X12_321 Cx rfl rfl (rmk_ok (by omega) (by decide))) hW (by decide) rfl rfl rfl hl.1 rfl (Nat.le_of_ble_eq_true rfl) dX12_proofRead_141 ⟨Nat.le_of_ble_eq_true rfl, Nat.le_of_ble_eq_true rfl⟩) hL (fun u_64 H locs k_65 hW hL => ?_)
              obtain ⟨iu_64, fu_64, gu_64, xu_64⟩ := k_65
              have F_66 := F_56.trans fu_64
              have g_67 : FF S u_64 (fl [20, 21, 24]) := FF.trans g_57 (FF.to gu_64 (fl_sub (by decide)))
              have q_68 : (-2147483648) ≤ u_64.1 231 20 ∧ u_64.1 231 20 ≤ 2147483647 := iu_64.fi 20
              exact sVret Cx hr hlk hW hL ⟨iu_64, F_66, g_67, ⟨(show _ ↔ _ from ⟨fun h => absurd h (by have e9 := (show u_64.1 231 20 = u_64.1 231 20 from rfl); have a9 := xu_64; omega), fun z => by exfalso; have k0 := hkr.1 0 (by omega) (by omega); unfold krq at k0; have hz := (z.resolve_left (fun y => by have := y.1; omega)).resolve_left (fun y => by have := y.1; omega); have au_54 := xu_54 (by omega); have au_47 := xu_47 au_54.1; have au_41 := xu_41 au_47.1; have au_33 := xu_33 au_41.1; have du_33 := au_33.2.1; have cu_33 : u_33.1 231 24 = 2 := (by have y := du_33.2; omega); have du_41 := au_41.2.1; rw [cu_33] at du_41; rw [show u_33.1 231 46 = S.1 231 46 from (gu_33 46 rfl).trans ((uF_ne (fun h => absurd h.2 (by decide))).trans (uF_ne (fun h => absurd h.2 (by decide))))] at du_41; have cu_41 : u_41.1 231 24 = S.1 231 46 + 4 := (by have y := du_41.2; omega); have du_47 := au_47.2.1; rw [cu_41] at du_47; have cu_47 : u_47.1 231 24 = S.1 231 46 + 5 := (by have y := du_47.2; omega); have du_54 := au_54.2.1; rw [cu_47] at du_54; rw [show u_47.1 231 46 = S.1 231 46 from (gu_47 46 rfl).trans ((gu_41 46 rfl).trans ((gu_33 46 rfl).trans ((uF_ne (fun h => absurd h.2 (by decide))).trans (uF_ne (fun h => absurd h.2 (by decide))))))] at du_54; have ke := hkr.1 (u_54.1 231 24) (by omega) (by omega); unfold krq at ke; have z5 := hz.2.2.2.2.2; rw [show S.1 231 46 + 5 + S.1 231 46 + 2 = u_54.1 231 24 by have y := du_54.2; omega] at z5; exfalso; omega⟩), (by have e3 := (show u_64.1 231 20 = u_64.1 231 20 from rfl); have e4 := xu_64; omega)⟩⟩ dX12_proofRead_144
      · refine lv_aload_n hx hb dX12_proofRead_76 rfl (lv_at hl 1 rfl) ?_
        have q_69 : (-2147483648) ≤ S.1 231 20 ∧ S.1 231 20 ≤ 2147483647 := hI.fi 20
        have lk_70 : (uF (uF S 231 24 0) 231 24 1).1 231 20 = S.1 231 20 := (uF_ne (fun h => absurd h.2 (by decide))).trans (uF_ne (fun h => absurd h.2 (by decide)))
        have lk_71 : (uF (uF S 231 24 0) 231 24 1).1 231 24 = 1 := uF_on
        refine sBv (sV (As := []) (rest := []) (k := 231) Cx (q_X12_treesRead l G (uF (uF S 231 24 0) 231 24 1) (K := K) (V := V) (T := T) (pz := 1) (kp := kp) (vp := vp) i_19 hkr (by omega) ((funext fun j => (uF_a).trans (uF_a) : (uF (uF S 231 24 0) 231 24 1).2.1 244 = S.2.1 244).trans hK) ((funext fun j => (uF_a).trans (uF_a) : (uF (uF S 231 24 0) 231 24 1).2.1 247 = S.2.1 247).trans hV) hE (by omega) (fun h => by have e8 := (show (uF (uF S 231 24 0) 231 24 1).1 231 20 = S.1 231 20 from (uF_ne (fun h => absurd h.2 (by decide))).trans (uF_ne (fun h => absurd h.2 (by decide)))); have a9 := hcu (by have e9 := (show (uF (uF S 231 24 0) 231 24 1).1 231 20 = S.1 231 20 from (uF_ne (fun h => absurd h.2 (by decide))).trans (uF_ne (fun h => absurd h.2 (by decide)))); omega); omega)) (c_X12_697 Cx rfl rfl (rmk_ok (by omega) (by decide))) hW (by decide) rfl rfl rfl hl.1 rfl (Nat.le_of_ble_eq_true rfl) dX12_proofRead_77 ⟨Nat.le_of_ble_eq_true rfl, Nat.le_of_ble_eq_true rfl⟩) hL (fun u_72 H locs k_73 hW hL => ?_)
        obtain ⟨iu_72, fu_72, gu_72, xu_72⟩ := k_73
        have F_74 := F_17.trans fu_72
        have g_75 : FF S u_72 (fl [20, 21, 24]) := FF.trans g_18 (FF.to gu_72 (fl_sub (by decide)))
        obtain ⟨xu_72, yu_72, zu_72⟩ := xu_72
        refine lv_goto (tgt := 115) hx hb dX12_proofRead_80 (by decide) ?_
        refine lv_aload_n hx hb dX12_proofRead_115 rfl (lv_at hl 1 rfl) ?_
        have q_76 : (-2147483648) ≤ u_72.1 231 20 ∧ u_72.1 231 20 ≤ 2147483647 := iu_72.fi 20
        refine g_X12_270 Cx hW (k := 231) (by decide) rfl (v := u_72.1 231 20) rfl dX12_proofRead_116 ?_
        refine r_if_ne (tgt := 144) hx hb ⟨(by omega), (by omega)⟩ dX12_proofRead_119 (by decide) (fun c_77 => ?_) (fun c_77 => ?_)
        · exact sVret Cx hr hlk hW hL ⟨iu_72, F_74, g_75, ⟨(show _ ↔ _ from ⟨fun h => absurd h (by have e9 := (show u_72.1 231 20 = u_72.1 231 20 from rfl); omega), fun z => by exfalso; have k0 := hkr.1 0 (by omega) (by omega); unfold krq at k0; have hz := (z.resolve_left (fun y => by have := y.1; omega)).resolve_right (fun y => by have := y.1; omega); by_cases qu_72 : u_72.1 231 20 = 0; (have au_72 := xu_72 qu_72; have du_72 := au_72.2.1; exfalso; omega); (have bu_72 := yu_72 (by omega) qu_72; obtain ⟨_, e, z6, z7⟩ := hz; exact absurd (bu_72.symm.trans z6) (by intro y; cases y))⟩), (by have e3 := (show u_72.1 231 20 = u_72.1 231 20 from rfl); omega)⟩⟩ dX12_proofRead_144
        · have b_78 := xu_72 (by have e9 := (show u_72.1 231 20 = u_72.1 231 20 from rfl); omega)
          refine lv_aload_n hx hb dX12_proofRead_122 rfl (lv_at hl 1 rfl) ?_
          refine g_X12_47 Cx hW (k := 231) (by decide) rfl (v := .ref (G.2.2.1 + 244)) (rd_15 iu_72) dX12_proofRead_123 ?_
          refine lv_aload_n hx hb dX12_proofRead_126 rfl (lv_at hl 1 rfl) ?_
          have q_79 : (-2147483648) ≤ u_72.1 231 24 ∧ u_72.1 231 24 ≤ 2147483647 := iu_72.fi 24
          refine g_X12_315 Cx hW (k := 231) (by decide) rfl (v := u_72.1 231 24) rfl dX12_proofRead_127 ?_
          refine rIald Cx hW (k := 244) (by decide) rfl (by decide) (by omega) (by omega) dX12_proofRead_130 ?_
          have q_80 : (-2147483648) ≤ S.2.1 244 (u_72.1 231 24) ∧ S.2.1 244 (u_72.1 231 24) ≤ 2147483647 := hI.ai 244 (u_72.1 231 24)
          refine r_i (b := S.2.1 244 (u_72.1 231 24)) (((fu_72 244 rfl).2.1 (u_72.1 231 24)).trans ((uF_a).trans (uF_a))) ?_
          have hr3 : K (u_72.1 231 24) = S.2.1 244 (u_72.1 231 24) := by rw [← hK]
          refine lv_iconst (v := iv 5) hx hb dX12_proofRead_131 (by decide) ?_
          refine r_icmp_eq (tgt := 144) hx hb ⟨(by omega), (by omega)⟩ ⟨(by omega), (by omega)⟩ dX12_proofRead_132 (by decide) (fun c_81 => ?_) (fun c_81 => ?_)
          · exact sVret Cx hr hlk hW hL ⟨iu_72, F_74, g_75, ⟨(show _ ↔ _ from ⟨fun h => by have au_72 := xu_72 (by have e9 := (show u_72.1 231 20 = u_72.1 231 20 from rfl); omega); have du_72 := au_72.2.1; have k0 := hkr.1 0 (by omega) (by omega); unfold krq at k0; have ke := hkr.1 (u_72.1 231 24) (by omega) (by omega); unfold krq at ke; have kend : kp (u_72.1 231 24) = 0 := (by omega); exact .inr (.inl ⟨by omega, _, du_72, kend⟩), fun _ => by have e9 := (show u_72.1 231 20 = u_72.1 231 20 from rfl); omega⟩), (by have e3 := (show u_72.1 231 20 = u_72.1 231 20 from rfl); omega)⟩⟩ dX12_proofRead_144
          · refine lv_aload_n hx hb dX12_proofRead_135 rfl (lv_at hl 1 rfl) ?_
            refine lv_iconst (v := iv 1) hx hb dX12_proofRead_136 (by decide) ?_
            refine lv_aload_n hx hb dX12_proofRead_137 rfl (lv_at hl 1 rfl) ?_
            refine g_X12_315 Cx hW (k := 231) (by decide) rfl (v := u_72.1 231 24) rfl dX12_proofRead_138 ?_
            refine sBv (sV (As := [.int (iv 1), .int (iv (u_72.1 231 24))]) (rest := []) (k := 231) Cx (q_X12_wrong l G u_72 (cd := 1) (tk := u_72.1 231 24) iu_72 (by omega) (by omega)) (c_X12_321 Cx rfl rfl (rmk_ok (by omega) (by decide))) hW (by decide) rfl rfl rfl hl.1 rfl (Nat.le_of_ble_eq_true rfl) dX12_proofRead_141 ⟨Nat.le_of_ble_eq_true rfl, Nat.le_of_ble_eq_true rfl⟩) hL (fun u_82 H locs k_83 hW hL => ?_)
            obtain ⟨iu_82, fu_82, gu_82, xu_82⟩ := k_83
            have F_84 := F_74.trans fu_82
            have g_85 : FF S u_82 (fl [20, 21, 24]) := FF.trans g_75 (FF.to gu_82 (fl_sub (by decide)))
            have q_86 : (-2147483648) ≤ u_82.1 231 20 ∧ u_82.1 231 20 ≤ 2147483647 := iu_82.fi 20
            exact sVret Cx hr hlk hW hL ⟨iu_82, F_84, g_85, ⟨(show _ ↔ _ from ⟨fun h => absurd h (by have e9 := (show u_82.1 231 20 = u_82.1 231 20 from rfl); have a9 := xu_82; omega), fun z => by exfalso; have k0 := hkr.1 0 (by omega) (by omega); unfold krq at k0; have hz := (z.resolve_left (fun y => by have := y.1; omega)).resolve_right (fun y => by have := y.1; omega); have au_72 := xu_72 (by omega); have du_72 := au_72.2.1; have ke := hkr.1 (u_72.1 231 24) (by omega) (by omega); unfold krq at ke; obtain ⟨_, e, z6, z7⟩ := hz; have z8 := Option.some.inj (du_72.symm.trans z6); rw [← z8] at z7; exfalso; omega⟩), (by have e3 := (show u_82.1 231 20 = u_82.1 231 20 from rfl); have e4 := xu_82; omega)⟩⟩ dX12_proofRead_144
    · refine lv_aload_n hx hb dX12_proofRead_40 rfl (lv_at hl 1 rfl) ?_
      refine lv_iconst (v := iv 2) hx hb dX12_proofRead_41 (by decide) ?_
      have q_87 : (-2147483648) ≤ S.1 231 20 ∧ S.1 231 20 ≤ 2147483647 := hI.fi 20
      have lk_88 : (uF (uF S 231 24 0) 231 24 1).1 231 20 = S.1 231 20 := (uF_ne (fun h => absurd h.2 (by decide))).trans (uF_ne (fun h => absurd h.2 (by decide)))
      have lk_89 : (uF (uF S 231 24 0) 231 24 1).1 231 24 = 1 := uF_on
      refine sBv (sV (As := [.int (iv 2)]) (rest := []) (k := 231) Cx (q_X12_wantKind l G (uF (uF S 231 24 0) 231 24 1) (k := 2) (K := K) (V := V) (T := T) (pz := 1) (kp := kp) (vp := vp) i_19 (by omega) hkr (by omega) ((funext fun j => (uF_a).trans (uF_a) : (uF (uF S 231 24 0) 231 24 1).2.1 244 = S.2.1 244).trans hK) ((funext fun j => (uF_a).trans (uF_a) : (uF (uF S 231 24 0) 231 24 1).2.1 247 = S.2.1 247).trans hV) hE (by omega) (fun h => by have e8 := (show (uF (uF S 231 24 0) 231 24 1).1 231 20 = S.1 231 20 from (uF_ne (fun h => absurd h.2 (by decide))).trans (uF_ne (fun h => absurd h.2 (by decide)))); have a9 := hcu (by have e9 := (show (uF (uF S 231 24 0) 231 24 1).1 231 20 = S.1 231 20 from (uF_ne (fun h => absurd h.2 (by decide))).trans (uF_ne (fun h => absurd h.2 (by decide)))); omega); omega)) (c_X12_328 Cx rfl rfl (rmk_ok (by omega) (by decide))) hW (by decide) rfl rfl rfl hl.1 rfl (Nat.le_of_ble_eq_true rfl) dX12_proofRead_42 ⟨Nat.le_of_ble_eq_true rfl, Nat.le_of_ble_eq_true rfl⟩) hL (fun u_90 H locs k_91 hW hL => ?_)
      obtain ⟨iu_90, fu_90, gu_90, xu_90⟩ := k_91
      have F_92 := F_17.trans fu_90
      have g_93 : FF S u_90 (fl [20, 21, 24]) := FF.trans g_18 (FF.to gu_90 (fl_sub (by decide)))
      obtain ⟨xu_90, yu_90, zu_90⟩ := xu_90
      refine lv_aload_n hx hb dX12_proofRead_45 rfl (lv_at hl 1 rfl) ?_
      refine lv_bipush (v := iv 47) hx hb dX12_proofRead_46 (by decide) ?_
      have q_94 : (-2147483648) ≤ u_90.1 231 20 ∧ u_90.1 231 20 ≤ 2147483647 := iu_90.fi 20
      have q_95 : (-2147483648) ≤ u_90.1 231 24 ∧ u_90.1 231 24 ≤ 2147483647 := iu_90.fi 24
      refine sBv (sV (As := [.int (iv 47)]) (rest := []) (k := 231) Cx (q_X12_want l G u_90 (sv := 47) (K := K) (V := V) (T := T) (pz := u_90.1 231 24) (kp := kp) (vp := vp) (cd := 3) iu_90 (by omega) (by omega) hkr (by omega) ((funext fun j => ((fu_90 244 rfl).2.1 j).trans ((uF_a).trans (uF_a)) : u_90.2.1 244 = S.2.1 244).trans hK) ((funext fun j => ((fu_90 247 rfl).2.1 j).trans ((uF_a).trans (uF_a)) : u_90.2.1 247 = S.2.1 247).trans hV) hE (by omega) (fun h => by have e8 := (show u_90.1 231 20 = u_90.1 231 20 from rfl); have a9 := xu_90 (by have e9 := (show u_90.1 231 20 = u_90.1 231 20 from rfl); omega); omega)) (c_X12_331 Cx rfl rfl (rmk_ok (by omega) (by decide))) hW (by decide) rfl rfl rfl hl.1 rfl (Nat.le_of_ble_eq_true rfl) dX12_proofRead_48 ⟨Nat.le_of_ble_eq_true rfl, Nat.le_of_ble_eq_true rfl⟩) hL (fun u_96 H locs k_97 hW hL => ?_)
      obtain ⟨iu_96, fu_96, gu_96, xu_96⟩ := k_97
      have F_98 := F_92.trans fu_96
      have g_99 : FF S u_96 (fl [20, 21, 24]) := FF.trans g_93 (FF.to gu_96 (fl_sub (by decide)))
      obtain ⟨xu_96, yu_96, zu_96⟩ := xu_96
      refine lv_aload_n hx hb dX12_proofRead_51 rfl (lv_at hl 1 rfl) ?_
      have q_100 : (-2147483648) ≤ u_96.1 231 20 ∧ u_96.1 231 20 ≤ 2147483647 := iu_96.fi 20
      have q_101 : (-2147483648) ≤ u_96.1 231 24 ∧ u_96.1 231 24 ≤ 2147483647 := iu_96.fi 24
      refine sBv (sV (As := []) (rest := []) (k := 231) Cx (q_X12_wantAbove l G u_96 (K := K) (V := V) (T := T) (pz := u_96.1 231 24) (kp := kp) (vp := vp) iu_96 hkr (by omega) ((funext fun j => ((fu_96 244 rfl).2.1 j).trans (((fu_90 244 rfl).2.1 j).trans ((uF_a).trans (uF_a))) : u_96.2.1 244 = S.2.1 244).trans hK) ((funext fun j => ((fu_96 247 rfl).2.1 j).trans (((fu_90 247 rfl).2.1 j).trans ((uF_a).trans (uF_a))) : u_96.2.1 247 = S.2.1 247).trans hV) hE (by omega) (fun h => by have e8 := (show u_96.1 231 20 = u_96.1 231 20 from rfl); have a9 := xu_96 (by have e9 := (show u_96.1 231 20 = u_96.1 231 20 from rfl); omega); omega)) (c_X12_691 Cx rfl rfl (rmk_ok (by omega) (by decide))) hW (by decide) rfl rfl rfl hl.1 rfl (Nat.le_of_ble_eq_true rfl) dX12_proofRead_52 ⟨Nat.le_of_ble_eq_true rfl, Nat.le_of_ble_eq_true rfl⟩) hL (fun u_102 H locs k_103 hW hL => ?_)
      obtain ⟨iu_102, fu_102, gu_102, xu_102⟩ := k_103
      have F_104 := F_98.trans fu_102
      have g_105 : FF S u_102 (fl [20, 21, 24]) := FF.trans g_99 (FF.to gu_102 (fl_sub (by decide)))
      obtain ⟨xu_102, yu_102, zu_102⟩ := xu_102
      refine lv_aload_n hx hb dX12_proofRead_55 rfl (lv_at hl 1 rfl) ?_
      refine lv_iconst (v := iv 1) hx hb dX12_proofRead_56 (by decide) ?_
      have q_106 : (-2147483648) ≤ u_102.1 231 20 ∧ u_102.1 231 20 ≤ 2147483647 := iu_102.fi 20
      have q_107 : (-2147483648) ≤ u_102.1 231 24 ∧ u_102.1 231 24 ≤ 2147483647 := iu_102.fi 24
      refine sBv (sV (As := [.int (iv 1)]) (rest := []) (k := 231) Cx (q_X12_wantWord l G u_102 (sv := 1) (K := K) (V := V) (T := T) (pz := u_102.1 231 24) (kp := kp) (vp := vp) (cd := 10) iu_102 (by omega) (by omega) hkr (by omega) ((funext fun j => ((fu_102 244 rfl).2.1 j).trans (((fu_96 244 rfl).2.1 j).trans (((fu_90 244 rfl).2.1 j).trans ((uF_a).trans (uF_a)))) : u_102.2.1 244 = S.2.1 244).trans hK) ((funext fun j => ((fu_102 247 rfl).2.1 j).trans (((fu_96 247 rfl).2.1 j).trans (((fu_90 247 rfl).2.1 j).trans ((uF_a).trans (uF_a)))) : u_102.2.1 247 = S.2.1 247).trans hV) hE (by omega) (fun h => by have e8 := (show u_102.1 231 20 = u_102.1 231 20 from rfl); have a9 := xu_102 (by have e9 := (show u_102.1 231 20 = u_102.1 231 20 from rfl); omega); omega)) (c_X12_340 Cx rfl rfl (rmk_ok (by omega) (by decide))) hW (by decide) rfl rfl rfl hl.1 rfl (Nat.le_of_ble_eq_true rfl) dX12_proofRead_57 ⟨Nat.le_of_ble_eq_true rfl, Nat.le_of_ble_eq_true rfl⟩) hL (fun u_108 H locs k_109 hW hL => ?_)
      obtain ⟨iu_108, fu_108, gu_108, xu_108⟩ := k_109
      have F_110 := F_104.trans fu_108
      have g_111 : FF S u_108 (fl [20, 21, 24]) := FF.trans g_105 (FF.to gu_108 (fl_sub (by decide)))
      obtain ⟨xu_108, yu_108, zu_108⟩ := xu_108
      refine lv_aload_n hx hb dX12_proofRead_60 rfl (lv_at hl 1 rfl) ?_
      have q_112 : (-2147483648) ≤ S.1 231 46 ∧ S.1 231 46 ≤ 2147483647 := hI.fi 46
      have lk_113 : u_108.1 231 46 = S.1 231 46 := (gu_108 46 rfl).trans ((gu_102 46 rfl).trans ((gu_96 46 rfl).trans ((gu_90 46 rfl).trans ((uF_ne (fun h => absurd h.2 (by decide))).trans (uF_ne (fun h => absurd h.2 (by decide)))))))
      have q_114 : (-2147483648) ≤ u_108.1 231 20 ∧ u_108.1 231 20 ≤ 2147483647 := iu_108.fi 20
      have q_115 : (-2147483648) ≤ u_108.1 231 24 ∧ u_108.1 231 24 ≤ 2147483647 := iu_108.fi 24
      refine sBv (sV (As := []) (rest := []) (k := 231) Cx (q_X12_pointRead l G u_108 (K := K) (V := V) (T := T) (pz := u_108.1 231 24) (kp := kp) (vp := vp) iu_108 (by omega) hkr (by omega) ((funext fun j => ((fu_108 244 rfl).2.1 j).trans (((fu_102 244 rfl).2.1 j).trans (((fu_96 244 rfl).2.1 j).trans (((fu_90 244 rfl).2.1 j).trans ((uF_a).trans (uF_a))))) : u_108.2.1 244 = S.2.1 244).trans hK) ((funext fun j => ((fu_108 247 rfl).2.1 j).trans (((fu_102 247 rfl).2.1 j).trans (((fu_96 247 rfl).2.1 j).trans (((fu_90 247 rfl).2.1 j).trans ((uF_a).trans (uF_a))))) : u_108.2.1 247 = S.2.1 247).trans hV) hE (by omega) (fun h => by have e8 := (show u_108.1 231 20 = u_108.1 231 20 from rfl); have a9 := xu_108 (by have e9 := (show u_108.1 231 20 = u_108.1 231 20 from rfl); omega); omega)) (c_X12_694 Cx rfl rfl (rmk_ok (by omega) (by decide))) hW (by decide) rfl rfl rfl hl.1 rfl (Nat.le_of_ble_eq_true rfl) dX12_proofRead_61 ⟨Nat.le_of_ble_eq_true rfl, Nat.le_of_ble_eq_true rfl⟩) hL (fun u_116 H locs k_117 hW hL => ?_)
      obtain ⟨iu_116, fu_116, gu_116, xu_116⟩ := k_117
      have F_118 := F_110.trans fu_116
      have g_119 : FF S u_116 (fl [20, 21, 24]) := FF.trans g_111 (FF.to gu_116 (fl_sub (by decide)))
      obtain ⟨xu_116, yu_116, zu_116⟩ := xu_116
      refine lv_aload_n hx hb dX12_proofRead_64 rfl (lv_at hl 1 rfl) ?_
      have q_120 : (-2147483648) ≤ u_116.1 231 20 ∧ u_116.1 231 20 ≤ 2147483647 := iu_116.fi 20
      have q_121 : (-2147483648) ≤ u_116.1 231 24 ∧ u_116.1 231 24 ≤ 2147483647 := iu_116.fi 24
      refine sBv (sV (As := []) (rest := []) (k := 231) Cx (q_X12_treesRead l G u_116 (K := K) (V := V) (T := T) (pz := u_116.1 231 24) (kp := kp) (vp := vp) iu_116 hkr (by omega) ((funext fun j => ((fu_116 244 rfl).2.1 j).trans (((fu_108 244 rfl).2.1 j).trans (((fu_102 244 rfl).2.1 j).trans (((fu_96 244 rfl).2.1 j).trans (((fu_90 244 rfl).2.1 j).trans ((uF_a).trans (uF_a)))))) : u_116.2.1 244 = S.2.1 244).trans hK) ((funext fun j => ((fu_116 247 rfl).2.1 j).trans (((fu_108 247 rfl).2.1 j).trans (((fu_102 247 rfl).2.1 j).trans (((fu_96 247 rfl).2.1 j).trans (((fu_90 247 rfl).2.1 j).trans ((uF_a).trans (uF_a)))))) : u_116.2.1 247 = S.2.1 247).trans hV) hE (by omega) (fun h => by have e8 := (show u_116.1 231 20 = u_116.1 231 20 from rfl); have a9 := xu_116 (by have e9 := (show u_116.1 231 20 = u_116.1 231 20 from rfl); omega); omega)) (c_X12_697 Cx rfl rfl (rmk_ok (by omega) (by decide))) hW (by decide) rfl rfl rfl hl.1 rfl (Nat.le_of_ble_eq_true rfl) dX12_proofRead_65 ⟨Nat.le_of_ble_eq_true rfl, Nat.le_of_ble_eq_true rfl⟩) hL (fun u_122 H locs k_123 hW hL => ?_)
      obtain ⟨iu_122, fu_122, gu_122, xu_122⟩ := k_123
      have F_124 := F_118.trans fu_122
      have g_125 : FF S u_122 (fl [20, 21, 24]) := FF.trans g_119 (FF.to gu_122 (fl_sub (by decide)))
      obtain ⟨xu_122, yu_122, zu_122⟩ := xu_122
      refine lv_goto (tgt := 115) hx hb dX12_proofRead_68 (by decide) ?_
      refine lv_aload_n hx hb dX12_proofRead_115 rfl (lv_at hl 1 rfl) ?_
      have q_126 : (-2147483648) ≤ u_122.1 231 20 ∧ u_122.1 231 20 ≤ 2147483647 := iu_122.fi 20
      refine g_X12_270 Cx hW (k := 231) (by decide) rfl (v := u_122.1 231 20) rfl dX12_proofRead_116 ?_
      refine r_if_ne (tgt := 144) hx hb ⟨(by omega), (by omega)⟩ dX12_proofRead_119 (by decide) (fun c_127 => ?_) (fun c_127 => ?_)
      · exact sVret Cx hr hlk hW hL ⟨iu_122, F_124, g_125, ⟨(show _ ↔ _ from ⟨fun h => absurd h (by have e9 := (show u_122.1 231 20 = u_122.1 231 20 from rfl); omega), fun z => by exfalso; have k0 := hkr.1 0 (by omega) (by omega); unfold krq at k0; have hz := z.resolve_right (fun y => by rcases y with y | y; (have := y.1; omega); (have := y.1; omega)); by_cases qu_90 : u_90.1 231 20 = 0; (have au_90 := xu_90 qu_90; have du_90 := au_90.2.1; have cu_90 : u_90.1 231 24 = 2 := (by have y := du_90.2; omega); by_cases qu_96 : u_96.1 231 20 = 0; (have au_96 := xu_96 qu_96; have du_96 := au_96.2.1; rw [cu_90] at du_96; have cu_96 : u_96.1 231 24 = 3 := (by have y := du_96.2; omega); by_cases qu_102 : u_102.1 231 20 = 0; (have au_102 := xu_102 qu_102; have du_102 := au_102.2.1; rw [cu_96] at du_102; have cu_102 : u_102.1 231 24 = 4 := (by have y := du_102.2; omega); by_cases qu_108 : u_108.1 231 20 = 0; (have au_108 := xu_108 qu_108; have du_108 := au_108.2.1; rw [cu_102] at du_108; have cu_108 : u_108.1 231 24 = 5 := (by have y := du_108.2; omega); by_cases qu_116 : u_116.1 231 20 = 0; (have au_116 := xu_116 qu_116; have du_116 := au_116.2.1; rw [cu_108] at du_116; rw [show u_108.1 231 46 = S.1 231 46 from (gu_108 46 rfl).trans ((gu_102 46 rfl).trans ((gu_96 46 rfl).trans ((gu_90 46 rfl).trans ((uF_ne (fun h => absurd h.2 (by decide))).trans (uF_ne (fun h => absurd h.2 (by decide)))))))] at du_116; have cu_116 : u_116.1 231 24 = S.1 231 46 + 7 := (by have y := du_116.2; omega); by_cases qu_122 : u_122.1 231 20 = 0; (have au_122 := xu_122 qu_122; have du_122 := au_122.2.1; rw [cu_116] at du_122; exfalso; omega); (have bu_122 := yu_122 qu_116 qu_122; rw [cu_116] at bu_122; obtain ⟨_, _, _, _, _, _, e, z6, z7⟩ := hz; exact absurd (bu_122.symm.trans z6) (by intro y; cases y))); (have bu_116 := yu_116 qu_108 qu_116; rw [cu_108] at bu_116; rw [show u_108.1 231 46 = S.1 231 46 from (gu_108 46 rfl).trans ((gu_102 46 rfl).trans ((gu_96 46 rfl).trans ((gu_90 46 rfl).trans ((uF_ne (fun h => absurd h.2 (by decide))).trans (uF_ne (fun h => absurd h.2 (by decide)))))))] at bu_116; exact bu_116 hz.2.2.2.2.2.1)); (have bu_108 := yu_108 qu_102 qu_108; rw [cu_102] at bu_108; exact bu_108 hz.2.2.2.2.1)); (have bu_102 := yu_102 qu_96 qu_102; rw [cu_96] at bu_102; exact bu_102 hz.2.2.2.1)); (have bu_96 := yu_96 qu_90 qu_96; rw [cu_90] at bu_96; exact bu_96 hz.2.2.1)); (have bu_90 := yu_90 (by omega) qu_90; exact bu_90 hz.2.1)⟩), (by have e3 := (show u_122.1 231 20 = u_122.1 231 20 from rfl); omega)⟩⟩ dX12_proofRead_144
      · have b_128 := xu_122 (by have e9 := (show u_122.1 231 20 = u_122.1 231 20 from rfl); omega)
        refine lv_aload_n hx hb dX12_proofRead_122 rfl (lv_at hl 1 rfl) ?_
        refine g_X12_47 Cx hW (k := 231) (by decide) rfl (v := .ref (G.2.2.1 + 244)) (rd_15 iu_122) dX12_proofRead_123 ?_
        refine lv_aload_n hx hb dX12_proofRead_126 rfl (lv_at hl 1 rfl) ?_
        have q_129 : (-2147483648) ≤ u_122.1 231 24 ∧ u_122.1 231 24 ≤ 2147483647 := iu_122.fi 24
        refine g_X12_315 Cx hW (k := 231) (by decide) rfl (v := u_122.1 231 24) rfl dX12_proofRead_127 ?_
        refine rIald Cx hW (k := 244) (by decide) rfl (by decide) (by omega) (by omega) dX12_proofRead_130 ?_
        have q_130 : (-2147483648) ≤ S.2.1 244 (u_122.1 231 24) ∧ S.2.1 244 (u_122.1 231 24) ≤ 2147483647 := hI.ai 244 (u_122.1 231 24)
        refine r_i (b := S.2.1 244 (u_122.1 231 24)) (((fu_122 244 rfl).2.1 (u_122.1 231 24)).trans (((fu_116 244 rfl).2.1 (u_122.1 231 24)).trans (((fu_108 244 rfl).2.1 (u_122.1 231 24)).trans (((fu_102 244 rfl).2.1 (u_122.1 231 24)).trans (((fu_96 244 rfl).2.1 (u_122.1 231 24)).trans (((fu_90 244 rfl).2.1 (u_122.1 231 24)).trans ((uF_a).trans (uF_a)))))))) ?_
        have hr3 : K (u_122.1 231 24) = S.2.1 244 (u_122.1 231 24) := by rw [← hK]
        refine lv_iconst (v := iv 5) hx hb dX12_proofRead_131 (by decide) ?_
        refine r_icmp_eq (tgt := 144) hx hb ⟨(by omega), (by omega)⟩ ⟨(by omega), (by omega)⟩ dX12_proofRead_132 (by decide) (fun c_131 => ?_) (fun c_131 => ?_)
        · exact sVret Cx hr hlk hW hL ⟨iu_122, F_124, g_125, ⟨(show _ ↔ _ from ⟨fun h => by have au_122 := xu_122 (by have e9 := (show u_122.1 231 20 = u_122.1 231 20 from rfl); omega); have au_116 := xu_116 au_122.1; have au_108 := xu_108 au_116.1; have au_102 := xu_102 au_108.1; have au_96 := xu_96 au_102.1; have au_90 := xu_90 au_96.1; have du_90 := au_90.2.1; have cu_90 : u_90.1 231 24 = 2 := (by have y := du_90.2; omega); have du_96 := au_96.2.1; rw [cu_90] at du_96; have cu_96 : u_96.1 231 24 = 3 := (by have y := du_96.2; omega); have du_102 := au_102.2.1; rw [cu_96] at du_102; have cu_102 : u_102.1 231 24 = 4 := (by have y := du_102.2; omega); have du_108 := au_108.2.1; rw [cu_102] at du_108; have cu_108 : u_108.1 231 24 = 5 := (by have y := du_108.2; omega); have du_116 := au_116.2.1; rw [cu_108] at du_116; rw [show u_108.1 231 46 = S.1 231 46 from (gu_108 46 rfl).trans ((gu_102 46 rfl).trans ((gu_96 46 rfl).trans ((gu_90 46 rfl).trans ((uF_ne (fun h => absurd h.2 (by decide))).trans (uF_ne (fun h => absurd h.2 (by decide)))))))] at du_116; have cu_116 : u_116.1 231 24 = S.1 231 46 + 7 := (by have y := du_116.2; omega); have du_122 := au_122.2.1; rw [cu_116] at du_122; have k0 := hkr.1 0 (by omega) (by omega); unfold krq at k0; have ke := hkr.1 (u_122.1 231 24) (by omega) (by omega); unfold krq at ke; have kend : kp (u_122.1 231 24) = 0 := (by omega); exact .inl ⟨by omega, du_90.1, du_96.1, du_102.1, du_108.1, du_116.1, _, du_122, kend⟩, fun _ => by have e9 := (show u_122.1 231 20 = u_122.1 231 20 from rfl); omega⟩), (by have e3 := (show u_122.1 231 20 = u_122.1 231 20 from rfl); omega)⟩⟩ dX12_proofRead_144
        · refine lv_aload_n hx hb dX12_proofRead_135 rfl (lv_at hl 1 rfl) ?_
          refine lv_iconst (v := iv 1) hx hb dX12_proofRead_136 (by decide) ?_
          refine lv_aload_n hx hb dX12_proofRead_137 rfl (lv_at hl 1 rfl) ?_
          refine g_X12_315 Cx hW (k := 231) (by decide) rfl (v := u_122.1 231 24) rfl dX12_proofRead_138 ?_
          refine sBv (sV (As := [.int (iv 1), .int (iv (u_122.1 231 24))]) (rest := []) (k := 231) Cx (q_X12_wrong l G u_122 (cd := 1) (tk := u_122.1 231 24) iu_122 (by omega) (by omega)) (c_X12_321 Cx rfl rfl (rmk_ok (by omega) (by decide))) hW (by decide) rfl rfl rfl hl.1 rfl (Nat.le_of_ble_eq_true rfl) dX12_proofRead_141 ⟨Nat.le_of_ble_eq_true rfl, Nat.le_of_ble_eq_true rfl⟩) hL (fun u_132 H locs k_133 hW hL => ?_)
          obtain ⟨iu_132, fu_132, gu_132, xu_132⟩ := k_133
          have F_134 := F_124.trans fu_132
          have g_135 : FF S u_132 (fl [20, 21, 24]) := FF.trans g_125 (FF.to gu_132 (fl_sub (by decide)))
          have q_136 : (-2147483648) ≤ u_132.1 231 20 ∧ u_132.1 231 20 ≤ 2147483647 := iu_132.fi 20
          exact sVret Cx hr hlk hW hL ⟨iu_132, F_134, g_135, ⟨(show _ ↔ _ from ⟨fun h => absurd h (by have e9 := (show u_132.1 231 20 = u_132.1 231 20 from rfl); have a9 := xu_132; omega), fun z => by exfalso; have k0 := hkr.1 0 (by omega) (by omega); unfold krq at k0; have hz := z.resolve_right (fun y => by rcases y with y | y; (have := y.1; omega); (have := y.1; omega)); have au_122 := xu_122 (by omega); have au_116 := xu_116 au_122.1; have au_108 := xu_108 au_116.1; have au_102 := xu_102 au_108.1; have au_96 := xu_96 au_102.1; have au_90 := xu_90 au_96.1; have du_90 := au_90.2.1; have cu_90 : u_90.1 231 24 = 2 := (by have y := du_90.2; omega); have du_96 := au_96.2.1; rw [cu_90] at du_96; have cu_96 : u_96.1 231 24 = 3 := (by have y := du_96.2; omega); have du_102 := au_102.2.1; rw [cu_96] at du_102; have cu_102 : u_102.1 231 24 = 4 := (by have y := du_102.2; omega); have du_108 := au_108.2.1; rw [cu_102] at du_108; have cu_108 : u_108.1 231 24 = 5 := (by have y := du_108.2; omega); have du_116 := au_116.2.1; rw [cu_108] at du_116; rw [show u_108.1 231 46 = S.1 231 46 from (gu_108 46 rfl).trans ((gu_102 46 rfl).trans ((gu_96 46 rfl).trans ((gu_90 46 rfl).trans ((uF_ne (fun h => absurd h.2 (by decide))).trans (uF_ne (fun h => absurd h.2 (by decide)))))))] at du_116; have cu_116 : u_116.1 231 24 = S.1 231 46 + 7 := (by have y := du_116.2; omega); have du_122 := au_122.2.1; rw [cu_116] at du_122; have ke := hkr.1 (u_122.1 231 24) (by omega) (by omega); unfold krq at ke; obtain ⟨_, _, _, _, _, _, e, z6, z7⟩ := hz; have z8 := Option.some.inj (du_122.symm.trans z6); rw [← z8] at z7; exfalso; omega⟩), (by have e3 := (show u_132.1 231 20 = u_132.1 231 20 from rfl); have e4 := xu_132; omega)⟩⟩ dX12_proofRead_144
