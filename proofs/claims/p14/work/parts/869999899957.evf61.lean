/-! The numbers of the reference's model while it is told; g: whether the goal is told -/
def WYr (S : sS) (M : sM) : Prop := wsm (S.2.1 254) (S.1 231 35).toNat = M.2.2.2.2.1
theorem WYr.of {S u : sS} {M M2 : sM} (h : WYr S M) (e : u.1 231 35 = S.1 231 35) (er : u.2.1 254 = S.2.1 254) (m : M2.2.2.2.2.1 = M.2.2.2.2.1) : WYr u M2 := by
  unfold WYr; rw [e, er, m]; exact h
def XAr (S : sS) (g : Int) (X : sX) : Prop := (g = 0 → S.1 231 36 = 0) ∧ (g = 1 → (∀ j, 0 ≤ j → j ≤ 12 → S.2.2.1 256 j = X.1 0 j) ∧ ∀ k j, 1 ≤ k → k ≤ S.1 231 36 → 0 ≤ j → j ≤ 12 → S.2.2.1 255 (13 * k + j) = X.1 k j) ∧ ∀ j, 1 ≤ j → j ≤ S.1 231 35 → S.2.1 254 j = X.2 j
theorem XAr.of {S u : sS} {g : Int} {X : sX} (h : XAr S g X) (e35 : u.1 231 35 = S.1 231 35) (e36 : u.1 231 36 = S.1 231 36) (l5 : u.2.2.1 255 = S.2.2.1 255) (l6 : u.2.2.1 256 = S.2.2.1 256) (a4 : u.2.1 254 = S.2.1 254) : XAr u g X := by
  unfold XAr; rw [e35, e36, l5, l6, a4]; exact h
theorem XAr.var {S u : sS} {X : sX} {k v : Int → Int} {M : sM} {p s3 s4 qi z : Int} (h : XAr S 0 X) (hix : eIx k v M.1 (p + 2) = some (s3, s4, qi)) (hn : S.1 231 35 + siz M.1 s3 * siz M.1 s4 = u.1 231 35) (hz : (z = 0 ∧ k qi ≠ 9) ∨ (z = 1 ∧ k qi = 9)) (h2 : S.1 231 35 = M.2.2.2.1) (h3 : u.1 231 36 = S.1 231 36) (hx : ∀ x, S.1 231 35 < x → x ≤ u.1 231 35 → u.2.1 254 x = z) (hl : ∀ x, x ≤ S.1 231 35 → u.2.1 254 x = S.2.1 254 x) : XAr u 0 (X.1, wDv k v M p X.2) := by
  refine ⟨fun _ => by have := h.1 rfl; omega, fun q => absurd q (by decide), fun j a b => ?_⟩
  show u.2.1 254 j = (eIx k v M.1 (p + 2)).elim X.2 _ j
  rw [hix]
  show u.2.1 254 j = if M.2.2.2.1 < j ∧ j ≤ M.2.2.2.1 + siz M.1 s3 * siz M.1 s4 then (if k qi = 9 then 1 else 0) else X.2 j
  by_cases c : M.2.2.2.1 < j
  · rw [if_pos ⟨c, by omega⟩, hx j (by omega) b]
    rcases hz with ⟨y, q⟩ | ⟨y, q⟩
    · rw [if_neg q, y]
    · rw [if_pos q, y]
  · rw [if_neg (fun q => c q.1), hl j (by omega)]
    exact h.2.2 j a (by omega)
theorem XAr.goal {S u : sS} {X : sX} {T : Int} {k v : Int → Int} {M : sM} {p t : Int} {y : sR} (h : XAr S 0 X) (e : eU T k (eF T k v 30 M.1) M.2.2.2.2.2.2.2 (p + 1) = some y) (ht : t = if k p = 4 then 1 else 0) (h35 : u.1 231 35 = S.1 231 35) (h36 : u.1 231 36 = S.1 231 36) (a4 : u.2.1 254 = S.2.1 254) (hv : ∀ j, 0 ≤ j → j ≤ 12 → u.2.2.1 256 j = gol t y.2.1 j) : XAr u 1 (aDg T k v M p X.1, X.2) := by
  have m0 := h.1 rfl
  refine ⟨fun q => absurd q (by decide), fun _ => ⟨fun j c d => ?_, fun k9 j a b => by exfalso; omega⟩, fun j a b => by rw [a4]; exact h.2.2 j a (by omega)⟩
  show u.2.2.1 256 j = (eU T k (eF T k v 30 M.1) M.2.2.2.2.2.2.2 (p + 1)).elim X.1 _ 0 j
  rw [e, hv j c d, ← ht]
  show gol t y.2.1 j = upA X.1 0 (gol t y.2.1) 0 j
  unfold upA
  rw [if_pos rfl]
/-- the rows of one relation, i of them so far -/
def rwI (A : Int → Int → Int) (m : Int) (d : Int → Int) (kd i : Int) : Int → Int → Int := if i = 0 then A else if i = 1 then upA A (m + 1) (lin d (if kd = 26 then -1 else 1)) else upA (upA A (m + 1) (lin d 1)) (m + 1 + 1) (lin d (-1))
theorem rwI_2 {A : Int → Int → Int} {m : Int} {d : Int → Int} {kd : Int} (h : kd = 13) : rwI A m d kd 2 = rwA A m d kd := by
  unfold rwI rwA; rw [if_neg (by decide), if_neg (by decide), if_pos h]
theorem rwI_1 {A : Int → Int → Int} {m : Int} {d : Int → Int} {kd : Int} (h : kd ≠ 13) : rwI A m d kd 1 = rwA A m d kd := by
  unfold rwI rwA; rw [if_neg (by decide), if_pos rfl, if_neg h]
  by_cases c : kd = 26
  · rw [if_pos c, if_pos c]
  · rw [if_neg c, if_neg c]
def tqr (fg : Int) : Int := if fg = 1 then -1 else 1
theorem XAr.ro {S u : sS} {A : Int → Int → Int} {wh d : Int → Int} {m kd i fg : Int} (h : XAr S 1 (rwI A m d kd i, wh)) (hi : i = 0 ∨ (i = 1 ∧ kd = 13)) (hm : S.1 231 36 = m + i) (hf1 : fg = 1 → kd = 26 ∨ i = 1) (hf0 : fg = 0 → kd ≠ 26 ∧ i ≠ 1) (hfg : 0 ≤ fg ∧ fg ≤ 1) (h0 : 0 ≤ m) (h35 : u.1 231 35 = S.1 231 35) (h36 : u.1 231 36 = S.1 231 36 + 1) (l6 : u.2.2.1 256 = S.2.2.1 256) (a4 : u.2.1 254 = S.2.1 254) (hl : ∀ x, x < 13 * (S.1 231 36 + 1) → u.2.2.1 255 x = S.2.2.1 255 x) (hr : ∀ j, 0 ≤ j → j ≤ 12 → u.2.2.1 255 (13 * (S.1 231 36 + 1) + j) = lin d (tqr fg) j) : XAr u 1 (rwI A m d kd (i + 1), wh) := by
  have e : rwI A m d kd (i + 1) = upA (rwI A m d kd i) (S.1 231 36 + 1) (lin d (tqr fg)) := by
    rcases hi with q | ⟨q, q2⟩
    · have ef : tqr fg = if kd = 26 then -1 else 1 := by
        unfold tqr
        by_cases c : fg = 1
        · rw [if_pos c, if_pos (by have := hf1 c; omega)]
        · rw [if_neg c, if_neg (hf0 (by omega)).1]
      rw [ef, hm, q]
      unfold rwI
      rw [if_neg (by decide), if_pos (by decide), if_pos rfl, show m + 0 + 1 = m + 1 by omega]
    · have c : fg = 1 := by
        by_cases y : fg = 1
        · exact y
        · exact absurd q (hf0 (by omega)).2
      have ef : tqr fg = -1 := by unfold tqr; rw [if_pos c]
      rw [ef, hm, q]
      unfold rwI
      rw [if_neg (by decide), if_neg (by decide), if_neg (by decide), if_pos rfl, if_neg (by omega)]
  rw [e]
  refine ⟨fun q => absurd q (by decide), fun _ => ⟨fun j a b => ?_, fun k j a b c f => ?_⟩, fun j a b => by rw [a4]; exact h.2.2 j a (by omega)⟩
  · rw [l6, (h.2.1 rfl).1 j a b]
    show _ = upA (rwI A m d kd i) (S.1 231 36 + 1) _ 0 j
    unfold upA; rw [if_neg (by rcases hi with q | q <;> omega)]
  · show _ = upA (rwI A m d kd i) (S.1 231 36 + 1) _ k j
    unfold upA
    by_cases q : k = S.1 231 36 + 1
    · rw [if_pos q, q]; exact hr j c f
    · rw [if_neg q, hl _ (by omega)]; exact (h.2.1 rfl).2 k j a (by omega) c f
set_option maxRecDepth 100000 in
set_option maxHeartbeats 4000000 in
theorem f_X12_tellVar (l : Launch) (G : sG) (S : sS) {M : sM} {k v : Int → Int} {T pz pp tk q : Int} (hI : dX G S) (hkr : Hd (KRr S k v T)) (hMr : Hd (MRr M k v S)) (hTV : Hd (TVn k v)) (hf0 : S.1 231 20 = 0) (hc : S.1 231 24 = pz) (hPb : Hd (PBr M S)) (hpz : pz = pp + 2) (htk : tk = pp + 1) (hk21 : Hd (k (pp + 1) = 2)) (hgv : Hd (gVa k pp q)) (hqT : 0 ≤ pp ∧ q ≤ T - 1) : Met l yX12_tellVar (.code yX12_tellVar cX12_tellVar 6 none :: tb) (rmk 4 0 0) (sPc G 294 S [.ref (G.2.2.1 + 231), .int (iv tk)]) (sQv G 294 (fun u => dX G u ∧ Fr S u (pl [231, 248, 249, 250, 251, 252, 254]) ∧ FF S u (fl [20, 21, 24, 25, 35]) ∧ (DOr u k v q (eDv k v M pp) ∧ Hd (u.1 231 20 = 0 → WYr S M → ∀ M2, eDv k v M pp = some (M2, q) → WYr u M2) ∧ Hd (u.1 231 20 = 0 → ∀ X, XAr S 0 X → XAr u 0 (X.1, wDv k v M pp X.2))))) 0 0 (sF G) := by
  refine sEnter (by decide) (Nat.le_of_ble_eq_true rfl) ?_
  intro p e s m args below meth c Cx hr hlk hnm hW ls hl
  have Cx : sC G p m c cX12_tellVar 6 s args RX12 := Cx
  obtain ⟨hx, hb, hml, hown, hts⟩ := id Cx.1
  have hL : sL G [] := sL_nil
  have hl : lv_has ls 6 [(0, .ref (G.2.2.1 + 231)), (1, .int (iv tk))] := hl
  have hW0 := hW
  obtain ⟨K, hK⟩ : ∃ z, S.2.1 244 = z := ⟨_, rfl⟩
  obtain ⟨V, hV⟩ : ∃ z, S.2.1 247 = z := ⟨_, rfl⟩
  obtain ⟨Fm, hFm⟩ : ∃ z, S.2.1 245 = z := ⟨_, rfl⟩
  obtain ⟨Wd, hWd⟩ : ∃ z, S.2.1 246 = z := ⟨_, rfl⟩
  have hkk : kr K V T = k := (by rw [← hK, ← hV]; exact hkr.1)
  have hTb := hkr.2.1
  have hNr := hMr.1; have hK_ := hMr.2.1; have hN1 := hNr.1
  obtain ⟨m33, m34, m35, m36, m42, mds⟩ := hMr.2.2
  have hPb1 := hPb.1
  obtain ⟨qi, hgi0, hgw⟩ := hgv
  have hgi : ogI k pz = some qi := (by rw [hpz]; exact hgi0)
  have hgl := ogI_le hgi
  have hqw : qi + 1 ≤ q := (by rcases hgw with z | z; (have z2 := z.2; omega); (have z2 := z.2; omega))
  have hgw : Hd _ := hgw
  refine lv_aload_n hx hb dX12_tellVar_0 rfl (lv_at hl 0 rfl) ?_
  refine lv_iload_n hx hb dX12_tellVar_1 rfl (lv_at hl 1 rfl) ?_
  refine lv_iconst (v := iv 3) hx hb dX12_tellVar_2 (by decide) ?_
  have q_1 : (-2147483648) ≤ S.1 231 20 ∧ S.1 231 20 ≤ 2147483647 := hI.fi 20
  have q_2 : (-2147483648) ≤ S.1 231 25 ∧ S.1 231 25 ≤ 2147483647 := hI.fi 25
  refine sBi (sV (As := [.int (iv tk), .int (iv 3)]) (rest := []) (k := 231) Cx (e_X12_add_ l G S (tk := tk) (so := 3) hI hkr hNr hK_ (by omega) (by rw [htk]; exact hk21) (by omega) (by omega)) (c_X12_404 Cx rfl rfl (rmk_ok (by omega) (by decide))) hW (by decide) rfl rfl rfl hl.1 rfl (Nat.le_of_ble_eq_true rfl) dX12_tellVar_3 ⟨Nat.le_of_ble_eq_true rfl, Nat.le_of_ble_eq_true rfl⟩) hL (fun nm u_3 H locs k_4 hW hL => ?_)
  obtain ⟨iu_3, fu_3, gu_3, xu_3⟩ := k_4
  have F_5 := (Fr.rf : Fr S S (pl [231, 248, 249, 250, 251, 252, 254])).trans (fu_3.to (pl_sub (by decide)))
  have g_6 : FF S u_3 (fl [20, 21, 24, 25, 35]) := FF.trans FF.rf (FF.to gu_3 (fl_sub (by decide)))
  refine lv_istore_n (lv' := [(2, .int (iv nm)), (0, .ref (G.2.2.1 + 231)), (1, .int (iv tk))]) hx hb dX12_tellVar_6 rfl hl (by decide) rfl (fun ls hl => ?_)
  refine lv_aload_n hx hb dX12_tellVar_7 rfl (lv_at hl 1 rfl) ?_
  have q_7 : (-2147483648) ≤ u_3.1 231 20 ∧ u_3.1 231 20 ≤ 2147483647 := iu_3.fi 20
  refine g_X12_270 Cx hW (k := 231) (by decide) rfl (v := u_3.1 231 20) rfl dX12_tellVar_8 ?_
  refine r_if_eq (tgt := 15) hx hb ⟨(by omega), (by omega)⟩ dX12_tellVar_11 (by decide) (fun c_8 => ?_) (fun c_8 => ?_)
  · have a1 := xu_3.2.2 (by omega)
    have hfn : eFind M.1 (v (pp + 1)) = -1 := (by rw [← htk]; exact a1.1)
    have hnm : nm = S.1 231 25 := a1.2.1; have h25u := a1.2.2.1
    have hnN : NRn (nN M.1 (v tk)) k v u_3 := hNr.nn (by omega) (by rw [htk]; exact hk21) (by decide) a1.2.2.1 a1.2.2.2
    have hdN : NDi (nN M.1 (v tk)) := nN_D hK_ (by omega) (by rw [htk]; exact hfn)
    refine lv_aload_n hx hb dX12_tellVar_15 rfl (lv_at hl 1 rfl) ?_
    refine lv_iload_n hx hb dX12_tellVar_16 rfl (lv_at hl 0 rfl) ?_
    have q_9 : (-2147483648) ≤ S.1 231 24 ∧ S.1 231 24 ≤ 2147483647 := hI.fi 24
    have lk_10 : u_3.1 231 24 = S.1 231 24 := gu_3 24 rfl
    have kr_11 : KRr u_3 k v T := hkr.of (funext fun j => (fu_3 243 rfl).2.1 j) (funext fun j => (fu_3 244 rfl).2.1 j) (funext fun j => (fu_3 245 rfl).2.1 j) (funext fun j => (fu_3 246 rfl).2.1 j) (funext fun j => (fu_3 247 rfl).2.1 j)
    refine sBv (sV (As := [.int (iv nm)]) (rest := []) (k := 231) Cx (e_X12_indexesOf l G u_3 (nm := nm) (pz := pz) (q := qi) (N := nN M.1 (v tk)) (Nq := M.1) iu_3 kr_11 hnN hdN (by omega) (by omega) hgi (by omega) (by omega) (by rw [hnm]; exact ⟨(nRW.at a1.2.2.2).2.2.1, (nRW.at a1.2.2.2).2.2.2.1⟩) (nN_s (by omega)) (nN_f (by omega))) (c_X12_407 Cx rfl rfl (rmk_ok (by omega) (by decide))) hW (by decide) rfl rfl rfl hl.1 rfl (Nat.le_of_ble_eq_true rfl) dX12_tellVar_17 ⟨Nat.le_of_ble_eq_true rfl, Nat.le_of_ble_eq_true rfl⟩) hL (fun u_12 H locs k_13 hW hL => ?_)
    obtain ⟨iu_12, fu_12, gu_12, xu_12⟩ := k_13
    have F_14 := F_5.trans (fu_12.to (pl_sub (by decide)))
    have g_15 : FF S u_12 (fl [20, 21, 24, 25, 35]) := FF.trans g_6 (FF.to gu_12 (fl_sub (by decide)))
    refine lv_aload_n hx hb dX12_tellVar_20 rfl (lv_at hl 1 rfl) ?_
    have q_16 : (-2147483648) ≤ u_12.1 231 20 ∧ u_12.1 231 20 ≤ 2147483647 := iu_12.fi 20
    refine g_X12_270 Cx hW (k := 231) (by decide) rfl (v := u_12.1 231 20) rfl dX12_tellVar_21 ?_
    refine r_if_eq (tgt := 28) hx hb ⟨(by omega), (by omega)⟩ dX12_tellVar_24 (by decide) (fun c_17 => ?_) (fun c_17 => ?_)
    · have a2 := xu_12.2.2 (by omega)
      obtain ⟨s3, es3⟩ : ∃ z : Int, u_12.2.1 250 nm = z := ⟨_, rfl⟩
      obtain ⟨s4, es4⟩ : ∃ z : Int, u_12.2.1 251 nm = z := ⟨_, rfl⟩
      have hix : eIx k v M.1 (pp + 2) = some (s3, s4, qi) := (by rw [← hpz, ← es3, ← es4]; exact a2.1)
      have e24q := a2.2
      have hv := eIx_i (by omega) hix
      have hv1 : Hd (SV M.1 s3) := hv.1; have hv2 : Hd (SV M.1 s4) := hv.2.1; have hv3 : Hd (s3 < 0 → s4 < 0) := hv.2.2.1; have sb3 := siz_b hK_ hv.1; have sb4 := siz_b hK_ hv.2.1; clear hv
      have hrows : Hd (∀ x, 0 ≤ x → x < M.1.1 → u_12.2.1 250 x = S.2.1 250 x ∧ u_12.2.1 251 x = S.2.1 251 x) := (fun x x0 x1 => ⟨((xu_12.1 x (by omega)).1).trans ((a1.2.2.2.2.2.1 x).trans (if_neg (by omega))), ((xu_12.1 x (by omega)).2).trans ((a1.2.2.2.2.2.2.1 x).trans (if_neg (by omega)))⟩)
      refine lv_aload_n hx hb dX12_tellVar_28 rfl (lv_at hl 1 rfl) ?_
      refine lv_iconst (v := iv 5) hx hb dX12_tellVar_29 (by decide) ?_
      have q_18 : (-2147483648) ≤ u_12.1 231 24 ∧ u_12.1 231 24 ≤ 2147483647 := iu_12.fi 24
      refine sBi (sV (As := [.int (iv 5)]) (rest := []) (k := 231) Cx (s_X12_isWord l G u_12 (sv := 5) (K := K) (V := V) (pz := qi) iu_12 (by omega) ((funext fun j => ((fu_12 244 rfl).2.1 j).trans ((fu_3 244 rfl).2.1 j) : u_12.2.1 244 = S.2.1 244).trans hK) ((funext fun j => ((fu_12 247 rfl).2.1 j).trans ((fu_3 247 rfl).2.1 j) : u_12.2.1 247 = S.2.1 247).trans hV) (by omega) (by omega)) (c_X12_325 Cx rfl rfl (rmk_ok (by omega) (by decide))) hW (by decide) rfl rfl rfl hl.1 rfl (Nat.le_of_ble_eq_true rfl) dX12_tellVar_30 ⟨Nat.le_of_ble_eq_true rfl, Nat.le_of_ble_eq_true rfl⟩) hL (fun wh u_19 H locs k_20 hW hL => ?_)
      obtain ⟨eu_19, xu_19⟩ := k_20
      rw [eu_19] at hW
      have tu_19a : Hd (wh = 1 → k (qi) = 9) := (fun h => by rw [← hkk]; exact ((wd_m (w := 5) (by decide)) K V T _).1 (by omega) (by omega) (xu_19.2.1 h))
      have tu_19b : Hd (wh ≠ 1 → k (qi) ≠ 9) := (fun h z => xu_19.2.2 h (((wd_m (w := 5) (by decide)) K V T _).2 (by rw [hkk]; exact z)))
      refine lv_istore_n (lv' := [(3, .int (iv wh)), (2, .int (iv nm)), (0, .ref (G.2.2.1 + 231)), (1, .int (iv tk))]) hx hb dX12_tellVar_33 rfl hl (by decide) rfl (fun ls hl => ?_)
      refine lv_iload_n hx hb dX12_tellVar_34 rfl (lv_at hl 0 rfl) ?_
      refine r_if_eq (tgt := 48) hx hb ⟨(by omega), (by omega)⟩ dX12_tellVar_35 (by decide) (fun c_21 => ?_) (fun c_21 => ?_)
      · have k9 : k qi ≠ 9 := tu_19b (by omega)
        have hq5 : q = qi + 1 := (by rcases hgw with z | z; (exact absurd z.1 k9); (exact z.2))
        have qe : qi + (if k qi = 9 then 2 else 1) = q := (by rw [if_neg k9]; omega)
        refine lv_aload_n hx hb dX12_tellVar_48 rfl (lv_at hl 2 rfl) ?_
        refine lv_dup hx hb dX12_tellVar_49 rfl ?_
        refine g_X12_315 Cx hW (k := 231) (by decide) rfl (v := u_12.1 231 24) rfl dX12_tellVar_50 ?_
        refine lv_iconst (v := iv 1) hx hb dX12_tellVar_53 (by decide) ?_
        refine r_iadd hx hb dX12_tellVar_54 ?_
        refine p_X12_315 Cx hW hL (k := 231) (by decide) rfl dX12_tellVar_55 (fun H locs hW hL => ?_)
        have F_22 : Fr S (uF u_12 231 24 ((u_12.1 231 24) + 1)) (pl [231, 248, 249, 250, 251, 252, 254]) := F_14.F rfl
        have g_23 : FF S (uF u_12 231 24 ((u_12.1 231 24) + 1)) (fl [20, 21, 24, 25, 35]) := FF.F g_15 rfl
        have i_24 : dX G (uF u_12 231 24 ((u_12.1 231 24) + 1)) := iu_12.F (i := 24) (show (-2147483648) ≤ (u_12.1 231 24) + 1 ∧ (u_12.1 231 24) + 1 ≤ 2147483647 from ⟨by omega, by omega⟩)
        refine lv_aload_n hx hb dX12_tellVar_58 rfl (lv_at hl 2 rfl) ?_
        refine lv_aload_n hx hb dX12_tellVar_59 rfl (lv_at hl 2 rfl) ?_
        refine g_X12_65 Cx hW (k := 231) (by decide) rfl (v := .ref (G.2.2.1 + 250)) (rd_28 i_24) dX12_tellVar_60 ?_
        refine lv_iload_n hx hb dX12_tellVar_63 rfl (lv_at hl 1 rfl) ?_
        refine rIald Cx hW (k := 250) (by decide) rfl (by decide) (by omega) (by omega) dX12_tellVar_64 ?_
        have q_25 : (-2147483648) ≤ u_12.2.1 250 nm ∧ u_12.2.1 250 nm ≤ 2147483647 := iu_12.ai 250 nm
        refine r_i (b := u_12.2.1 250 nm) uF_a ?_
        refine sBi (sV (As := [.int (iv (u_12.2.1 250 nm))]) (rest := []) (k := 231) Cx (s_X12_sizeOf l G (uF u_12 231 24 ((u_12.1 231 24) + 1)) (i := u_12.2.1 250 nm) i_24 (nSx.sv (u := (uF u_12 231 24 ((u_12.1 231 24) + 1))) hNr hK_ (by rw [es3]; exact hv1) (fun x a b => ⟨(uF_a).trans (hrows x a b).1, (uF_a).trans (hrows x a b).2⟩)).1) (c_X12_410 Cx rfl rfl (rmk_ok (by omega) (by decide))) hW (by decide) rfl rfl rfl hl.1 rfl (Nat.le_of_ble_eq_true rfl) dX12_tellVar_65 ⟨Nat.le_of_ble_eq_true rfl, Nat.le_of_ble_eq_true rfl⟩) hL (fun r_28 u_26 H locs k_27 hW hL => ?_)
        obtain ⟨eu_26, xu_26⟩ := k_27
        rw [eu_26] at hW
        have hz3 : r_28 = siz M.1 s3 := xu_26.1.trans ((nSx.sv (u := (uF u_12 231 24 ((u_12.1 231 24) + 1))) hNr hK_ (by rw [es3]; exact hv1) (fun x a b => ⟨(uF_a).trans (hrows x a b).1, (uF_a).trans (hrows x a b).2⟩)).2.trans (by rw [es3]))
        refine lv_aload_n hx hb dX12_tellVar_68 rfl (lv_at hl 2 rfl) ?_
        refine lv_aload_n hx hb dX12_tellVar_69 rfl (lv_at hl 2 rfl) ?_
        refine g_X12_68 Cx hW (k := 231) (by decide) rfl (v := .ref (G.2.2.1 + 251)) (rd_29 i_24) dX12_tellVar_70 ?_
        refine lv_iload_n hx hb dX12_tellVar_73 rfl (lv_at hl 1 rfl) ?_
        refine rIald Cx hW (k := 251) (by decide) rfl (by decide) (by omega) (by omega) dX12_tellVar_74 ?_
        have q_29 : (-2147483648) ≤ u_12.2.1 251 nm ∧ u_12.2.1 251 nm ≤ 2147483647 := iu_12.ai 251 nm
        refine r_i (b := u_12.2.1 251 nm) uF_a ?_
        refine sBi (sV (As := [.int (iv (u_12.2.1 251 nm))]) (rest := [.int (iv r_28)]) (k := 231) Cx (s_X12_sizeOf l G (uF u_12 231 24 ((u_12.1 231 24) + 1)) (i := u_12.2.1 251 nm) i_24 (nSx.sv (u := (uF u_12 231 24 ((u_12.1 231 24) + 1))) hNr hK_ (by rw [es4]; exact hv2) (fun x a b => ⟨(uF_a).trans (hrows x a b).1, (uF_a).trans (hrows x a b).2⟩)).1) (c_X12_410 Cx rfl rfl (rmk_ok (by omega) (by decide))) hW (by decide) rfl rfl rfl hl.1 rfl (Nat.le_of_ble_eq_true rfl) dX12_tellVar_75 ⟨Nat.le_of_ble_eq_true rfl, Nat.le_of_ble_eq_true rfl⟩) hL (fun r_32 u_30 H locs k_31 hW hL => ?_)
        obtain ⟨eu_30, xu_30⟩ := k_31
        rw [eu_30] at hW
        have hz4 : r_32 = siz M.1 s4 := xu_30.1.trans ((nSx.sv (u := (uF u_12 231 24 ((u_12.1 231 24) + 1))) hNr hK_ (by rw [es4]; exact hv2) (fun x a b => ⟨(uF_a).trans (hrows x a b).1, (uF_a).trans (hrows x a b).2⟩)).2.trans (by rw [es4]))
        refine r_imul hx hb dX12_tellVar_78 ?_
        obtain ⟨mm, emm⟩ : ∃ z : Int, z = r_28 * r_32 := ⟨_, rfl⟩
        refine r_i (b := mm) emm.symm ?_
        have hmm : 1 ≤ mm ∧ mm ≤ 144 := (by rw [emm]; exact mm12 (by omega) (by omega))
        have hsz : mm = siz M.1 s3 * siz M.1 s4 := (by rw [emm, hz3, hz4])
        refine lv_istore (lv' := [(4, .int (iv mm)), (3, .int (iv wh)), (2, .int (iv nm)), (0, .ref (G.2.2.1 + 231)), (1, .int (iv tk))]) hx hb dX12_tellVar_79 hl (by decide) rfl (fun ls hl => ?_)
        refine lv_aload_n hx hb dX12_tellVar_81 rfl (lv_at hl 3 rfl) ?_
        refine g_X12_71 Cx hW (k := 231) (by decide) rfl (v := .ref (G.2.2.1 + 252)) (rd_30 i_24) dX12_tellVar_82 ?_
        refine lv_iload_n hx hb dX12_tellVar_85 rfl (lv_at hl 2 rfl) ?_
        refine lv_aload_n hx hb dX12_tellVar_86 rfl (lv_at hl 3 rfl) ?_
        have q_33 : (-2147483648) ≤ S.1 231 35 ∧ S.1 231 35 ≤ 2147483647 := hI.fi 35
        refine g_X12_379 Cx hW (k := 231) (by decide) rfl (v := S.1 231 35) ((uF_ne (fun h => absurd h.2 (by decide))).trans ((gu_12 35 rfl).trans (gu_3 35 rfl))) dX12_tellVar_87 ?_
        refine lv_iconst (v := iv 1) hx hb dX12_tellVar_90 (by decide) ?_
        refine r_iadd hx hb dX12_tellVar_91 ?_
        refine rIast Cx hW hL (k := 252) (by decide) rfl (by decide) (by omega) (by omega) dX12_tellVar_92 (fun H locs hW hL => ?_)
        have F_34 : Fr S (uA (uF u_12 231 24 ((u_12.1 231 24) + 1)) 252 nm ((S.1 231 35) + 1)) (pl [231, 248, 249, 250, 251, 252, 254]) := F_22.A rfl
        have i_35 : dX G (uA (uF u_12 231 24 ((u_12.1 231 24) + 1)) 252 nm ((S.1 231 35) + 1)) := i_24.A (k := 252) (show (-2147483648) ≤ (S.1 231 35) + 1 ∧ (S.1 231 35) + 1 ≤ 2147483647 from ⟨by omega, by omega⟩)
        refine lv_aload_n hx hb dX12_tellVar_93 rfl (lv_at hl 3 rfl) ?_
        refine g_X12_379 Cx hW (k := 231) (by decide) rfl (v := S.1 231 35) ((uA_f).trans ((uF_ne (fun h => absurd h.2 (by decide))).trans ((gu_12 35 rfl).trans (gu_3 35 rfl)))) dX12_tellVar_94 ?_
        refine lv_iload hx hb dX12_tellVar_97 (lv_at hl 0 rfl) ?_
        refine r_iadd hx hb dX12_tellVar_99 ?_
        refine lv_bipush (v := iv 12) hx hb dX12_tellVar_100 (by decide) ?_
        refine r_icmp_le (tgt := 113) hx hb ⟨(by omega), (by omega)⟩ ⟨(by omega), (by omega)⟩ dX12_tellVar_102 (by decide) (fun c_36 => ?_) (fun c_36 => ?_)
        · refine lv_iconst (v := iv 0) hx hb dX12_tellVar_113 (by decide) ?_
          refine lv_istore (lv' := [(5, .int (iv 0)), (4, .int (iv mm)), (3, .int (iv wh)), (2, .int (iv nm)), (0, .ref (G.2.2.1 + 231)), (1, .int (iv tk))]) hx hb dX12_tellVar_114 hl (by decide) rfl (fun ls hl => ?_)
          have loop_116 : ∀ (fuel : Nat) (S116 : sS) (i : Int) (H : Heap) (locs : List Loc) (ls : Array Slot), (mm - i).toNat < fuel → (dX G S116) → (Fr S S116 (pl [231, 248, 249, 250, 251, 252, 254])) → (Fr ((uA (uF u_12 231 24 ((u_12.1 231 24) + 1)) 252 nm ((S.1 231 35) + 1))) S116 (pl [231, 254])) → (FF S S116 (fl [20, 21, 24, 25, 35])) → (FF ((uA (uF u_12 231 24 ((u_12.1 231 24) + 1)) 252 nm ((S.1 231 35) + 1))) S116 (fl [35])) → (0 ≤ i ∧ i ≤ mm ∧ S116.1 231 35 = S.1 231 35 + i) → (Hd (wsm (S116.2.1 254) (S116.1 231 35).toNat = wsm (S.2.1 254) (S.1 231 35).toNat + (if wh = 0 then 0 else i))) → (Hd (∀ x, S.1 231 35 < x → x ≤ S.1 231 35 + i → S116.2.1 254 x = wh)) → (Hd (∀ x, x ≤ S.1 231 35 → S116.2.1 254 x = S.2.1 254 x)) → sW G 294 S116 H → sL G locs → lv_has ls 6 [(5, .int (iv i)), (4, .int (iv mm)), (3, .int (iv wh)), (2, .int (iv nm)), (0, .ref (G.2.2.1 + 231)), (1, .int (iv tk))] → W p l e (rmk 4 0 0) s m args below meth c H locs 0 0 (MQ below (sQv G 294 (fun u => dX G u ∧ Fr S u (pl [231, 248, 249, 250, 251, 252, 254]) ∧ FF S u (fl [20, 21, 24, 25, 35]) ∧ (DOr u k v q (eDv k v M pp) ∧ Hd (u.1 231 20 = 0 → WYr S M → ∀ M2, eDv k v M pp = some (M2, q) → WYr u M2) ∧ Hd (u.1 231 20 = 0 → ∀ X, XAr S 0 X → XAr u 0 (X.1, wDv k v M pp X.2))))) args s 0 0 (sF G)) (F0 m 116 ls []) := by
            intro fuel
            induction fuel with
            | zero => intro S116 i H locs ls hmeas hI116 hFm116 hL116_ hGm116 gL116_ hi hw hx2 hz2 hW hL hl; exact absurd hmeas (Nat.not_lt_zero _)
            | succ fuel ih_116 =>
              intro S116 i H locs ls hmeas hI116 hFm116 hL116_ hGm116 gL116_ hi hw hx2 hz2 hW hL hl
              refine lv_iload hx hb dX12_tellVar_116 (lv_at hl 0 rfl) ?_
              refine lv_iload hx hb dX12_tellVar_118 (lv_at hl 1 rfl) ?_
              refine r_icmp_ge (tgt := 149) hx hb ⟨(by omega), (by omega)⟩ ⟨(by omega), (by omega)⟩ dX12_tellVar_120 (by decide) (fun c_37 => ?_) (fun c_37 => ?_)
              · have lk_38 : S116.1 231 20 = u_12.1 231 20 := (gL116_ 20 rfl).trans ((uA_f).trans (uF_ne (fun h => absurd h.2 (by decide))))
                have hrw9 : nRW S S116 (S.1 231 25) tk 3 (u_12.2.1 250 nm) (u_12.2.1 251 nm) (S.1 231 35 + 1) := ⟨(fun x => (((hL116_ 248 rfl).2.1 x).trans ((uA_ne (fun h => absurd h.1 (by decide))).trans ((uF_a).trans ((fu_12 248 rfl).2.1 x)))).trans (a1.2.2.2.1 x)), (fun x => (((hL116_ 249 rfl).2.1 x).trans ((uA_ne (fun h => absurd h.1 (by decide))).trans ((uF_a).trans ((fu_12 249 rfl).2.1 x)))).trans (a1.2.2.2.2.1 x)), (fun x => by rw [show S116.2.1 250 x = u_12.2.1 250 x from ((hL116_ 250 rfl).2.1 x).trans ((uA_ne (fun h => absurd h.1 (by decide))).trans (uF_a))]; by_cases z : x = S.1 231 25; (rw [if_pos z, show x = nm by omega]); rw [if_neg z, (xu_12.1 x (by omega)).1]; exact (a1.2.2.2.2.2.1 x).trans (if_neg z)), (fun x => by rw [show S116.2.1 251 x = u_12.2.1 251 x from ((hL116_ 251 rfl).2.1 x).trans ((uA_ne (fun h => absurd h.1 (by decide))).trans (uF_a))]; by_cases z : x = S.1 231 25; (rw [if_pos z, show x = nm by omega]); rw [if_neg z, (xu_12.1 x (by omega)).2]; exact (a1.2.2.2.2.2.2.1 x).trans (if_neg z)), (fun x => by rw [show S116.2.1 252 x = (uA (uF u_12 231 24 ((u_12.1 231 24) + 1)) 252 nm ((S.1 231 35) + 1)).2.1 252 x from (hL116_ 252 rfl).2.1 x, uA_get]; by_cases z : x = S.1 231 25; (rw [if_pos ⟨rfl, (by omega)⟩, if_pos z]); rw [if_neg (fun h => z (by have := h.2; omega)), if_neg z]; exact ((uF_a).trans ((fu_12 252 rfl).2.1 x)).trans ((a1.2.2.2.2.2.2.2 x).trans (if_neg z)))⟩
                have hNF : NF M.1 (fct 8 0 0 s3 s4 (M.2.2.2.1 + 1)) (fun _ => 0) := NF_8 hv1 hv2 hv3 ⟨by omega, (by rw [← hsz]; omega)⟩
                have hNn : NRr (addN M.1 (v (pp + 1)) (fct 8 0 0 s3 s4 (M.2.2.2.1 + 1)) (fun _ => 0)) k v S116 := (by rw [← htk]; exact hNr.added hK_ hNF (by omega) (by rw [htk]; exact hk21) (by have y25 := (show S116.1 231 25 = u_3.1 231 25 from (gL116_ 25 rfl).trans ((uA_f).trans ((uF_ne (fun h => absurd h.2 (by decide))).trans (gu_12 25 rfl)))); omega) hrw9 (fun s s0 s1 z o o0 o1 => congrFun (show S116.2.1 253 = S.2.1 253 from funext fun j => ((hL116_ 253 rfl).2.1 j).trans ((uA_ne (fun h => absurd h.1 (by decide))).trans ((uF_a).trans (((fu_12 253 rfl).2.1 j).trans ((fu_3 253 rfl).2.1 j))))) _) cs_8 (by rw [fct0]; decide) (fun z => absurd (fct0.symm.trans z) (by decide)) (fun _ => ⟨es3.symm, es4.symm⟩) (fun _ => by show M.2.2.2.1 + 1 = _; omega) (fun z => absurd (fct0.symm.trans z) (by decide)))
                exact sVret Cx hr hlk hW hL ⟨hI116, hFm116, hGm116, ⟨⟨(fun h => absurd (show S116.1 231 20 = 0 by have e9 := (show S116.1 231 20 = u_12.1 231 20 from (gL116_ 20 rfl).trans ((uA_f).trans (uF_ne (fun h => absurd h.2 (by decide))))); omega) h), (fun _ => ⟨_, (by rw [eDv_3 hfn hix (by rw [← hsz]; omega), qe]), hMr.added hNn hfn hNF (by have y33 := (show S116.1 231 33 = S.1 231 33 from (gL116_ 33 rfl).trans ((uA_f).trans ((uF_ne (fun h => absurd h.2 (by decide))).trans ((gu_12 33 rfl).trans (gu_3 33 rfl))))); omega) (by have y34 := (show S116.1 231 34 = S.1 231 34 from (gL116_ 34 rfl).trans ((uA_f).trans ((uF_ne (fun h => absurd h.2 (by decide))).trans ((gu_12 34 rfl).trans (gu_3 34 rfl))))); omega) (by have y35 := (show S116.1 231 35 = S116.1 231 35 from rfl); rw [← hsz]; omega) (by have y36 := (show S116.1 231 36 = S.1 231 36 from (gL116_ 36 rfl).trans ((uA_f).trans ((uF_ne (fun h => absurd h.2 (by decide))).trans ((gu_12 36 rfl).trans (gu_3 36 rfl))))); omega) (by have y42 := (show S116.1 231 42 = S.1 231 42 from (gL116_ 42 rfl).trans ((uA_f).trans ((uF_ne (fun h => absurd h.2 (by decide))).trans ((gu_12 42 rfl).trans (gu_3 42 rfl))))); omega) (by rw [← hsz]; omega), hPb.added hNr hK_ hNF hrw9 (by have y32 := (show S116.1 231 32 = S.1 231 32 from (gL116_ 32 rfl).trans ((uA_f).trans ((uF_ne (fun h => absurd h.2 (by decide))).trans ((gu_12 32 rfl).trans (gu_3 32 rfl))))); omega) (fun z => absurd (fct0.symm.trans z) (by decide)), (by have y24 := (show S116.1 231 24 = (u_12.1 231 24) + 1 from (gL116_ 24 rfl).trans ((uA_f).trans (uF_on))); omega)⟩)⟩, (fun _ hw0 M2 e => by have d := eDv_w (z := 0) (n := mm) hfn hix (by rw [← hsz]; omega) hsz (.inl ⟨rfl, k9⟩) e; have y : wsm (S116.2.1 254) (S116.1 231 35).toNat = _ := hw; rw [show i = mm by omega, show wsm (S.2.1 254) (S.1 231 35).toNat = M.2.2.2.2.1 from hw0, show wh = 0 by omega] at y; exact y.trans d.1.symm), (fun _ X hX => XAr.var (z := 0) hX hix (by rw [← hsz]; have y35 := (show S116.1 231 35 = S116.1 231 35 from rfl); omega) (.inl ⟨rfl, k9⟩) (by omega) (by have y36 := (show S116.1 231 36 = S.1 231 36 from (gL116_ 36 rfl).trans ((uA_f).trans ((uF_ne (fun h => absurd h.2 (by decide))).trans ((gu_12 36 rfl).trans (gu_3 36 rfl))))); omega) (fun x a b => (show S116.2.1 254 x = _ from hx2 x a (by have y35 := (show S116.1 231 35 = S116.1 231 35 from rfl); omega)).trans (by omega)) (fun x a => (show S116.2.1 254 x = _ from hz2 x a)))⟩⟩ dX12_tellVar_149
              · refine lv_aload_n hx hb dX12_tellVar_123 rfl (lv_at hl 4 rfl) ?_
                refine lv_dup hx hb dX12_tellVar_124 rfl ?_
                have q_39 : (-2147483648) ≤ S116.1 231 35 ∧ S116.1 231 35 ≤ 2147483647 := hI116.fi 35
                refine g_X12_379 Cx hW (k := 231) (by decide) rfl (v := S116.1 231 35) rfl dX12_tellVar_125 ?_
                refine lv_iconst (v := iv 1) hx hb dX12_tellVar_128 (by decide) ?_
                refine r_iadd hx hb dX12_tellVar_129 ?_
                refine p_X12_379 Cx hW hL (k := 231) (by decide) rfl dX12_tellVar_130 (fun H locs hW hL => ?_)
                have F_40 : Fr S (uF S116 231 35 ((S116.1 231 35) + 1)) (pl [231, 248, 249, 250, 251, 252, 254]) := hFm116.F rfl
                have F_41 : Fr ((uA (uF u_12 231 24 ((u_12.1 231 24) + 1)) 252 nm ((S.1 231 35) + 1))) (uF S116 231 35 ((S116.1 231 35) + 1)) (pl [231, 254]) := hL116_.F rfl
                have g_42 : FF S (uF S116 231 35 ((S116.1 231 35) + 1)) (fl [20, 21, 24, 25, 35]) := FF.F hGm116 rfl
                have g_43 : FF ((uA (uF u_12 231 24 ((u_12.1 231 24) + 1)) 252 nm ((S.1 231 35) + 1))) (uF S116 231 35 ((S116.1 231 35) + 1)) (fl [35]) := FF.F gL116_ rfl
                have i_44 : dX G (uF S116 231 35 ((S116.1 231 35) + 1)) := hI116.F (i := 35) (show (-2147483648) ≤ (S116.1 231 35) + 1 ∧ (S116.1 231 35) + 1 ≤ 2147483647 from ⟨by omega, by omega⟩)
                refine lv_aload_n hx hb dX12_tellVar_133 rfl (lv_at hl 4 rfl) ?_
                refine g_X12_77 Cx hW (k := 231) (by decide) rfl (v := .ref (G.2.2.1 + 254)) (rd_37 i_44) dX12_tellVar_134 ?_
                refine lv_aload_n hx hb dX12_tellVar_137 rfl (lv_at hl 4 rfl) ?_
                refine g_X12_379 Cx hW (k := 231) (by decide) rfl (v := (S116.1 231 35) + 1) uF_on dX12_tellVar_138 ?_
                refine lv_iload_n hx hb dX12_tellVar_141 rfl (lv_at hl 2 rfl) ?_
                refine rZast Cx hW hL (k := 254) (by decide) rfl (by decide) (by omega) (by omega) (nar_z (by omega)) dX12_tellVar_142 (fun H locs hW hL => ?_)
                have F_45 : Fr S (uA (uF S116 231 35 ((S116.1 231 35) + 1)) 254 ((S116.1 231 35) + 1) wh) (pl [231, 248, 249, 250, 251, 252, 254]) := F_40.A rfl
                have F_46 : Fr ((uA (uF u_12 231 24 ((u_12.1 231 24) + 1)) 252 nm ((S.1 231 35) + 1))) (uA (uF S116 231 35 ((S116.1 231 35) + 1)) 254 ((S116.1 231 35) + 1) wh) (pl [231, 254]) := F_41.A rfl
                have i_47 : dX G (uA (uF S116 231 35 ((S116.1 231 35) + 1)) 254 ((S116.1 231 35) + 1) wh) := i_44.A (k := 254) (show 0 ≤ wh ∧ wh ≤ 1 from ⟨by omega, by omega⟩)
                refine lv_iinc (v := iv (i + 1)) (lv' := [(5, .int (iv (i + 1))), (4, .int (iv mm)), (3, .int (iv wh)), (2, .int (iv nm)), (0, .ref (G.2.2.1 + 231)), (1, .int (iv tk))]) hx hb dX12_tellVar_143 hl (k := 0) rfl ((Int32.ofInt_add _ _).symm) (by decide) rfl (fun ls hl => ?_)
                refine lv_goto (tgt := 116) hx hb dX12_tellVar_146 (by decide) ?_
                have lk_48 : (uA (uF S116 231 35 ((S116.1 231 35) + 1)) 254 ((S116.1 231 35) + 1) wh).1 231 35 = (S116.1 231 35) + 1 := (uA_f).trans (uF_on)
                exact ih_116 (uA (uF S116 231 35 ((S116.1 231 35) + 1)) 254 ((S116.1 231 35) + 1) wh) (i + 1) _ _ _ (by omega) i_47 F_45 F_46 g_42 g_43 (by omega) (by have y := (show (uA (uF S116 231 35 ((S116.1 231 35) + 1)) 254 ((S116.1 231 35) + 1) wh).1 231 35 = (S116.1 231 35) + 1 from (uA_f).trans (uF_on)); rw [show (uA (uF S116 231 35 ((S116.1 231 35) + 1)) 254 ((S116.1 231 35) + 1) wh).1 231 35 = S116.1 231 35 + 1 by omega, wsm_put (by omega)]; show wsm (S116.2.1 254) (S116.1 231 35).toNat + wh = _; rw [hw]; split <;> omega) (fun x a b => by by_cases q : x = S116.1 231 35 + 1; (rw [q]; exact uA_on); (exact (uA_ne (fun h => q h.2)).trans (hx2 x a (by omega)))) (fun x a => (uA_ne (fun h => by have := h.2; omega)).trans (hz2 x a)) hW hL (lv_sub hl [0, 1, 2, 3, 4, 5] rfl)
          have lk_49 : (uA (uF u_12 231 24 ((u_12.1 231 24) + 1)) 252 nm ((S.1 231 35) + 1)).1 231 35 = S.1 231 35 := (uA_f).trans ((uF_ne (fun h => absurd h.2 (by decide))).trans ((gu_12 35 rfl).trans (gu_3 35 rfl)))
          exact loop_116 (_ + 1) (uA (uF u_12 231 24 ((u_12.1 231 24) + 1)) 252 nm ((S.1 231 35) + 1)) 0 _ _ _ (Nat.lt_succ_self _) i_35 F_34 Fr.rf g_23 FF.rf (by omega) (by have y := (show (uA (uF u_12 231 24 ((u_12.1 231 24) + 1)) 252 nm ((S.1 231 35) + 1)).1 231 35 = S.1 231 35 from (uA_f).trans ((uF_ne (fun h => absurd h.2 (by decide))).trans ((gu_12 35 rfl).trans (gu_3 35 rfl)))); show wsm ((uA (uF u_12 231 24 ((u_12.1 231 24) + 1)) 252 nm ((S.1 231 35) + 1)).2.1 254) ((uA (uF u_12 231 24 ((u_12.1 231 24) + 1)) 252 nm ((S.1 231 35) + 1)).1 231 35).toNat = wsm (S.2.1 254) (S.1 231 35).toNat + (if wh = 0 then 0 else 0); rw [(show (uA (uF u_12 231 24 ((u_12.1 231 24) + 1)) 252 nm ((S.1 231 35) + 1)).2.1 254 = S.2.1 254 from funext fun j => (uA_ne (fun h => absurd h.1 (by decide))).trans ((uF_a).trans (((fu_12 254 rfl).2.1 j).trans ((fu_3 254 rfl).2.1 j)))), show (uA (uF u_12 231 24 ((u_12.1 231 24) + 1)) 252 nm ((S.1 231 35) + 1)).1 231 35 = S.1 231 35 by omega]; split <;> omega) (fun x a b => absurd b (by omega)) (fun x _ => (uA_ne (fun h => absurd h.1 (by decide))).trans ((uF_a).trans (((fu_12 254 rfl).2.1 x).trans ((fu_3 254 rfl).2.1 x)))) hW hL (lv_sub hl [0, 1, 2, 3, 4, 5] rfl)
        · refine lv_aload_n hx hb dX12_tellVar_105 rfl (lv_at hl 3 rfl) ?_
          refine lv_bipush (v := iv 7) hx hb dX12_tellVar_106 (by decide) ?_
          refine lv_iload_n hx hb dX12_tellVar_108 rfl (lv_at hl 4 rfl) ?_
          refine sBv (sV (As := [.int (iv 7), .int (iv tk)]) (rest := []) (k := 231) Cx (s_X12_wrong l G (uA (uF u_12 231 24 ((u_12.1 231 24) + 1)) 252 nm ((S.1 231 35) + 1)) (cd := 7) (tk := tk) i_35 (by omega) (by omega)) (c_X12_321 Cx rfl rfl (rmk_ok (by omega) (by decide))) hW (by decide) rfl rfl rfl hl.1 rfl (Nat.le_of_ble_eq_true rfl) dX12_tellVar_109 ⟨Nat.le_of_ble_eq_true rfl, Nat.le_of_ble_eq_true rfl⟩) hL (fun u_50 H locs k_51 hW hL => ?_)
          obtain ⟨iu_50, fu_50, gu_50, xu_50⟩ := k_51
          have F_52 := F_34.trans (fu_50.to (pl_sub (by decide)))
          have g_53 : FF S u_50 (fl [20, 21, 24, 25, 35]) := FF.trans g_23 (FF.to gu_50 (fl_sub (by decide)))
          have q_54 : (-2147483648) ≤ u_50.1 231 20 ∧ u_50.1 231 20 ≤ 2147483647 := iu_50.fi 20
          exact sVret Cx hr hlk hW hL ⟨iu_50, F_52, g_53, ⟨⟨(fun _ => eDv_2 hfn hix (by rw [← hsz]; omega)), (fun h => absurd h (by have e9 := (show u_50.1 231 20 = u_50.1 231 20 from rfl); have a9 := xu_50; omega))⟩, (fun h => absurd h (by have e9 := (show u_50.1 231 20 = u_50.1 231 20 from rfl); have a9 := xu_50; omega)), (fun h => absurd h (by have e9 := (show u_50.1 231 20 = u_50.1 231 20 from rfl); have a9 := xu_50; omega))⟩⟩ dX12_tellVar_112
      · refine lv_aload_n hx hb dX12_tellVar_38 rfl (lv_at hl 2 rfl) ?_
        refine lv_dup hx hb dX12_tellVar_39 rfl ?_
        refine g_X12_315 Cx hW (k := 231) (by decide) rfl (v := u_12.1 231 24) rfl dX12_tellVar_40 ?_
        refine lv_iconst (v := iv 1) hx hb dX12_tellVar_43 (by decide) ?_
        refine r_iadd hx hb dX12_tellVar_44 ?_
        refine p_X12_315 Cx hW hL (k := 231) (by decide) rfl dX12_tellVar_45 (fun H locs hW hL => ?_)
        have F_55 : Fr S (uF u_12 231 24 ((u_12.1 231 24) + 1)) (pl [231, 248, 249, 250, 251, 252, 254]) := F_14.F rfl
        have g_56 : FF S (uF u_12 231 24 ((u_12.1 231 24) + 1)) (fl [20, 21, 24, 25, 35]) := FF.F g_15 rfl
        have i_57 : dX G (uF u_12 231 24 ((u_12.1 231 24) + 1)) := iu_12.F (i := 24) (show (-2147483648) ≤ (u_12.1 231 24) + 1 ∧ (u_12.1 231 24) + 1 ≤ 2147483647 from ⟨by omega, by omega⟩)
        have k9 : k qi = 9 := tu_19a (by omega)
        have hq5 : q = qi + 2 := (by rcases hgw with z | z; (exact z.2); (exact absurd k9 z.1))
        have qe : qi + (if k qi = 9 then 2 else 1) = q := (by rw [if_pos k9]; omega)
        refine lv_aload_n hx hb dX12_tellVar_48 rfl (lv_at hl 2 rfl) ?_
        refine lv_dup hx hb dX12_tellVar_49 rfl ?_
        refine g_X12_315 Cx hW (k := 231) (by decide) rfl (v := (u_12.1 231 24) + 1) uF_on dX12_tellVar_50 ?_
        refine lv_iconst (v := iv 1) hx hb dX12_tellVar_53 (by decide) ?_
        refine r_iadd hx hb dX12_tellVar_54 ?_
        refine p_X12_315 Cx hW hL (k := 231) (by decide) rfl dX12_tellVar_55 (fun H locs hW hL => ?_)
        have F_58 : Fr S (uF (uF u_12 231 24 ((u_12.1 231 24) + 1)) 231 24 (((u_12.1 231 24) + 1) + 1)) (pl [231, 248, 249, 250, 251, 252, 254]) := F_55.F rfl
        have g_59 : FF S (uF (uF u_12 231 24 ((u_12.1 231 24) + 1)) 231 24 (((u_12.1 231 24) + 1) + 1)) (fl [20, 21, 24, 25, 35]) := FF.F g_56 rfl
        have i_60 : dX G (uF (uF u_12 231 24 ((u_12.1 231 24) + 1)) 231 24 (((u_12.1 231 24) + 1) + 1)) := i_57.F (i := 24) (show (-2147483648) ≤ ((u_12.1 231 24) + 1) + 1 ∧ ((u_12.1 231 24) + 1) + 1 ≤ 2147483647 from ⟨by omega, by omega⟩)
        refine lv_aload_n hx hb dX12_tellVar_58 rfl (lv_at hl 2 rfl) ?_
        refine lv_aload_n hx hb dX12_tellVar_59 rfl (lv_at hl 2 rfl) ?_
        refine g_X12_65 Cx hW (k := 231) (by decide) rfl (v := .ref (G.2.2.1 + 250)) (rd_28 i_60) dX12_tellVar_60 ?_
        refine lv_iload_n hx hb dX12_tellVar_63 rfl (lv_at hl 1 rfl) ?_
        refine rIald Cx hW (k := 250) (by decide) rfl (by decide) (by omega) (by omega) dX12_tellVar_64 ?_
        have q_61 : (-2147483648) ≤ u_12.2.1 250 nm ∧ u_12.2.1 250 nm ≤ 2147483647 := iu_12.ai 250 nm
        refine r_i (b := u_12.2.1 250 nm) ((uF_a).trans (uF_a)) ?_
        refine sBi (sV (As := [.int (iv (u_12.2.1 250 nm))]) (rest := []) (k := 231) Cx (s_X12_sizeOf l G (uF (uF u_12 231 24 ((u_12.1 231 24) + 1)) 231 24 (((u_12.1 231 24) + 1) + 1)) (i := u_12.2.1 250 nm) i_60 (nSx.sv (u := (uF (uF u_12 231 24 ((u_12.1 231 24) + 1)) 231 24 (((u_12.1 231 24) + 1) + 1))) hNr hK_ (by rw [es3]; exact hv1) (fun x a b => ⟨((uF_a).trans (uF_a)).trans (hrows x a b).1, ((uF_a).trans (uF_a)).trans (hrows x a b).2⟩)).1) (c_X12_410 Cx rfl rfl (rmk_ok (by omega) (by decide))) hW (by decide) rfl rfl rfl hl.1 rfl (Nat.le_of_ble_eq_true rfl) dX12_tellVar_65 ⟨Nat.le_of_ble_eq_true rfl, Nat.le_of_ble_eq_true rfl⟩) hL (fun r_64 u_62 H locs k_63 hW hL => ?_)
        obtain ⟨eu_62, xu_62⟩ := k_63
        rw [eu_62] at hW
        have hz3 : r_64 = siz M.1 s3 := xu_62.1.trans ((nSx.sv (u := (uF (uF u_12 231 24 ((u_12.1 231 24) + 1)) 231 24 (((u_12.1 231 24) + 1) + 1))) hNr hK_ (by rw [es3]; exact hv1) (fun x a b => ⟨((uF_a).trans (uF_a)).trans (hrows x a b).1, ((uF_a).trans (uF_a)).trans (hrows x a b).2⟩)).2.trans (by rw [es3]))
        refine lv_aload_n hx hb dX12_tellVar_68 rfl (lv_at hl 2 rfl) ?_
        refine lv_aload_n hx hb dX12_tellVar_69 rfl (lv_at hl 2 rfl) ?_
        refine g_X12_68 Cx hW (k := 231) (by decide) rfl (v := .ref (G.2.2.1 + 251)) (rd_29 i_60) dX12_tellVar_70 ?_
        refine lv_iload_n hx hb dX12_tellVar_73 rfl (lv_at hl 1 rfl) ?_
        refine rIald Cx hW (k := 251) (by decide) rfl (by decide) (by omega) (by omega) dX12_tellVar_74 ?_
        have q_65 : (-2147483648) ≤ u_12.2.1 251 nm ∧ u_12.2.1 251 nm ≤ 2147483647 := iu_12.ai 251 nm
        refine r_i (b := u_12.2.1 251 nm) ((uF_a).trans (uF_a)) ?_
        refine sBi (sV (As := [.int (iv (u_12.2.1 251 nm))]) (rest := [.int (iv r_64)]) (k := 231) Cx (s_X12_sizeOf l G (uF (uF u_12 231 24 ((u_12.1 231 24) + 1)) 231 24 (((u_12.1 231 24) + 1) + 1)) (i := u_12.2.1 251 nm) i_60 (nSx.sv (u := (uF (uF u_12 231 24 ((u_12.1 231 24) + 1)) 231 24 (((u_12.1 231 24) + 1) + 1))) hNr hK_ (by rw [es4]; exact hv2) (fun x a b => ⟨((uF_a).trans (uF_a)).trans (hrows x a b).1, ((uF_a).trans (uF_a)).trans (hrows x a b).2⟩)).1) (c_X12_410 Cx rfl rfl (rmk_ok (by omega) (by decide))) hW (by decide) rfl rfl rfl hl.1 rfl (Nat.le_of_ble_eq_true rfl) dX12_tellVar_75 ⟨Nat.le_of_ble_eq_true rfl, Nat.le_of_ble_eq_true rfl⟩) hL (fun r_68 u_66 H locs k_67 hW hL => ?_)
        obtain ⟨eu_66, xu_66⟩ := k_67
        rw [eu_66] at hW
        have hz4 : r_68 = siz M.1 s4 := xu_66.1.trans ((nSx.sv (u := (uF (uF u_12 231 24 ((u_12.1 231 24) + 1)) 231 24 (((u_12.1 231 24) + 1) + 1))) hNr hK_ (by rw [es4]; exact hv2) (fun x a b => ⟨((uF_a).trans (uF_a)).trans (hrows x a b).1, ((uF_a).trans (uF_a)).trans (hrows x a b).2⟩)).2.trans (by rw [es4]))
        refine r_imul hx hb dX12_tellVar_78 ?_
        obtain ⟨mm, emm⟩ : ∃ z : Int, z = r_64 * r_68 := ⟨_, rfl⟩
        refine r_i (b := mm) emm.symm ?_
        have hmm : 1 ≤ mm ∧ mm ≤ 144 := (by rw [emm]; exact mm12 (by omega) (by omega))
        have hsz : mm = siz M.1 s3 * siz M.1 s4 := (by rw [emm, hz3, hz4])
        refine lv_istore (lv' := [(4, .int (iv mm)), (3, .int (iv wh)), (2, .int (iv nm)), (0, .ref (G.2.2.1 + 231)), (1, .int (iv tk))]) hx hb dX12_tellVar_79 hl (by decide) rfl (fun ls hl => ?_)
        refine lv_aload_n hx hb dX12_tellVar_81 rfl (lv_at hl 3 rfl) ?_
        refine g_X12_71 Cx hW (k := 231) (by decide) rfl (v := .ref (G.2.2.1 + 252)) (rd_30 i_60) dX12_tellVar_82 ?_
        refine lv_iload_n hx hb dX12_tellVar_85 rfl (lv_at hl 2 rfl) ?_
        refine lv_aload_n hx hb dX12_tellVar_86 rfl (lv_at hl 3 rfl) ?_
        have q_69 : (-2147483648) ≤ S.1 231 35 ∧ S.1 231 35 ≤ 2147483647 := hI.fi 35
        refine g_X12_379 Cx hW (k := 231) (by decide) rfl (v := S.1 231 35) ((uF_ne (fun h => absurd h.2 (by decide))).trans ((uF_ne (fun h => absurd h.2 (by decide))).trans ((gu_12 35 rfl).trans (gu_3 35 rfl)))) dX12_tellVar_87 ?_
        refine lv_iconst (v := iv 1) hx hb dX12_tellVar_90 (by decide) ?_
        refine r_iadd hx hb dX12_tellVar_91 ?_
        refine rIast Cx hW hL (k := 252) (by decide) rfl (by decide) (by omega) (by omega) dX12_tellVar_92 (fun H locs hW hL => ?_)
        have F_70 : Fr S (uA (uF (uF u_12 231 24 ((u_12.1 231 24) + 1)) 231 24 (((u_12.1 231 24) + 1) + 1)) 252 nm ((S.1 231 35) + 1)) (pl [231, 248, 249, 250, 251, 252, 254]) := F_58.A rfl
        have i_71 : dX G (uA (uF (uF u_12 231 24 ((u_12.1 231 24) + 1)) 231 24 (((u_12.1 231 24) + 1) + 1)) 252 nm ((S.1 231 35) + 1)) := i_60.A (k := 252) (show (-2147483648) ≤ (S.1 231 35) + 1 ∧ (S.1 231 35) + 1 ≤ 2147483647 from ⟨by omega, by omega⟩)
        refine lv_aload_n hx hb dX12_tellVar_93 rfl (lv_at hl 3 rfl) ?_
        refine g_X12_379 Cx hW (k := 231) (by decide) rfl (v := S.1 231 35) ((uA_f).trans ((uF_ne (fun h => absurd h.2 (by decide))).trans ((uF_ne (fun h => absurd h.2 (by decide))).trans ((gu_12 35 rfl).trans (gu_3 35 rfl))))) dX12_tellVar_94 ?_
        refine lv_iload hx hb dX12_tellVar_97 (lv_at hl 0 rfl) ?_
        refine r_iadd hx hb dX12_tellVar_99 ?_
        refine lv_bipush (v := iv 12) hx hb dX12_tellVar_100 (by decide) ?_
        refine r_icmp_le (tgt := 113) hx hb ⟨(by omega), (by omega)⟩ ⟨(by omega), (by omega)⟩ dX12_tellVar_102 (by decide) (fun c_72 => ?_) (fun c_72 => ?_)
        · refine lv_iconst (v := iv 0) hx hb dX12_tellVar_113 (by decide) ?_
          refine lv_istore (lv' := [(5, .int (iv 0)), (4, .int (iv mm)), (3, .int (iv wh)), (2, .int (iv nm)), (0, .ref (G.2.2.1 + 231)), (1, .int (iv tk))]) hx hb dX12_tellVar_114 hl (by decide) rfl (fun ls hl => ?_)
          have loop_116 : ∀ (fuel : Nat) (S116 : sS) (i : Int) (H : Heap) (locs : List Loc) (ls : Array Slot), (mm - i).toNat < fuel → (dX G S116) → (Fr S S116 (pl [231, 248, 249, 250, 251, 252, 254])) → (Fr ((uA (uF (uF u_12 231 24 ((u_12.1 231 24) + 1)) 231 24 (((u_12.1 231 24) + 1) + 1)) 252 nm ((S.1 231 35) + 1))) S116 (pl [231, 254])) → (FF S S116 (fl [20, 21, 24, 25, 35])) → (FF ((uA (uF (uF u_12 231 24 ((u_12.1 231 24) + 1)) 231 24 (((u_12.1 231 24) + 1) + 1)) 252 nm ((S.1 231 35) + 1))) S116 (fl [35])) → (0 ≤ i ∧ i ≤ mm ∧ S116.1 231 35 = S.1 231 35 + i) → (Hd (wsm (S116.2.1 254) (S116.1 231 35).toNat = wsm (S.2.1 254) (S.1 231 35).toNat + (if wh = 0 then 0 else i))) → (Hd (∀ x, S.1 231 35 < x → x ≤ S.1 231 35 + i → S116.2.1 254 x = wh)) → (Hd (∀ x, x ≤ S.1 231 35 → S116.2.1 254 x = S.2.1 254 x)) → sW G 294 S116 H → sL G locs → lv_has ls 6 [(5, .int (iv i)), (4, .int (iv mm)), (3, .int (iv wh)), (2, .int (iv nm)), (0, .ref (G.2.2.1 + 231)), (1, .int (iv tk))] → W p l e (rmk 4 0 0) s m args below meth c H locs 0 0 (MQ below (sQv G 294 (fun u => dX G u ∧ Fr S u (pl [231, 248, 249, 250, 251, 252, 254]) ∧ FF S u (fl [20, 21, 24, 25, 35]) ∧ (DOr u k v q (eDv k v M pp) ∧ Hd (u.1 231 20 = 0 → WYr S M → ∀ M2, eDv k v M pp = some (M2, q) → WYr u M2) ∧ Hd (u.1 231 20 = 0 → ∀ X, XAr S 0 X → XAr u 0 (X.1, wDv k v M pp X.2))))) args s 0 0 (sF G)) (F0 m 116 ls []) := by
            intro fuel
            induction fuel with
            | zero => intro S116 i H locs ls hmeas hI116 hFm116 hL116_ hGm116 gL116_ hi hw hx2 hz2 hW hL hl; exact absurd hmeas (Nat.not_lt_zero _)
            | succ fuel ih_116 =>
              intro S116 i H locs ls hmeas hI116 hFm116 hL116_ hGm116 gL116_ hi hw hx2 hz2 hW hL hl
              refine lv_iload hx hb dX12_tellVar_116 (lv_at hl 0 rfl) ?_
              refine lv_iload hx hb dX12_tellVar_118 (lv_at hl 1 rfl) ?_
              refine r_icmp_ge (tgt := 149) hx hb ⟨(by omega), (by omega)⟩ ⟨(by omega), (by omega)⟩ dX12_tellVar_120 (by decide) (fun c_73 => ?_) (fun c_73 => ?_)
              · have lk_74 : S116.1 231 20 = u_12.1 231 20 := (gL116_ 20 rfl).trans ((uA_f).trans ((uF_ne (fun h => absurd h.2 (by decide))).trans (uF_ne (fun h => absurd h.2 (by decide)))))
                have hrw9 : nRW S S116 (S.1 231 25) tk 3 (u_12.2.1 250 nm) (u_12.2.1 251 nm) (S.1 231 35 + 1) := ⟨(fun x => (((hL116_ 248 rfl).2.1 x).trans ((uA_ne (fun h => absurd h.1 (by decide))).trans ((uF_a).trans ((uF_a).trans ((fu_12 248 rfl).2.1 x))))).trans (a1.2.2.2.1 x)), (fun x => (((hL116_ 249 rfl).2.1 x).trans ((uA_ne (fun h => absurd h.1 (by decide))).trans ((uF_a).trans ((uF_a).trans ((fu_12 249 rfl).2.1 x))))).trans (a1.2.2.2.2.1 x)), (fun x => by rw [show S116.2.1 250 x = u_12.2.1 250 x from ((hL116_ 250 rfl).2.1 x).trans ((uA_ne (fun h => absurd h.1 (by decide))).trans ((uF_a).trans (uF_a)))]; by_cases z : x = S.1 231 25; (rw [if_pos z, show x = nm by omega]); rw [if_neg z, (xu_12.1 x (by omega)).1]; exact (a1.2.2.2.2.2.1 x).trans (if_neg z)), (fun x => by rw [show S116.2.1 251 x = u_12.2.1 251 x from ((hL116_ 251 rfl).2.1 x).trans ((uA_ne (fun h => absurd h.1 (by decide))).trans ((uF_a).trans (uF_a)))]; by_cases z : x = S.1 231 25; (rw [if_pos z, show x = nm by omega]); rw [if_neg z, (xu_12.1 x (by omega)).2]; exact (a1.2.2.2.2.2.2.1 x).trans (if_neg z)), (fun x => by rw [show S116.2.1 252 x = (uA (uF (uF u_12 231 24 ((u_12.1 231 24) + 1)) 231 24 (((u_12.1 231 24) + 1) + 1)) 252 nm ((S.1 231 35) + 1)).2.1 252 x from (hL116_ 252 rfl).2.1 x, uA_get]; by_cases z : x = S.1 231 25; (rw [if_pos ⟨rfl, (by omega)⟩, if_pos z]); rw [if_neg (fun h => z (by have := h.2; omega)), if_neg z]; exact ((uF_a).trans ((uF_a).trans ((fu_12 252 rfl).2.1 x))).trans ((a1.2.2.2.2.2.2.2 x).trans (if_neg z)))⟩
                have hNF : NF M.1 (fct 8 0 0 s3 s4 (M.2.2.2.1 + 1)) (fun _ => 0) := NF_8 hv1 hv2 hv3 ⟨by omega, (by rw [← hsz]; omega)⟩
                have hNn : NRr (addN M.1 (v (pp + 1)) (fct 8 0 0 s3 s4 (M.2.2.2.1 + 1)) (fun _ => 0)) k v S116 := (by rw [← htk]; exact hNr.added hK_ hNF (by omega) (by rw [htk]; exact hk21) (by have y25 := (show S116.1 231 25 = u_3.1 231 25 from (gL116_ 25 rfl).trans ((uA_f).trans ((uF_ne (fun h => absurd h.2 (by decide))).trans ((uF_ne (fun h => absurd h.2 (by decide))).trans (gu_12 25 rfl))))); omega) hrw9 (fun s s0 s1 z o o0 o1 => congrFun (show S116.2.1 253 = S.2.1 253 from funext fun j => ((hL116_ 253 rfl).2.1 j).trans ((uA_ne (fun h => absurd h.1 (by decide))).trans ((uF_a).trans ((uF_a).trans (((fu_12 253 rfl).2.1 j).trans ((fu_3 253 rfl).2.1 j)))))) _) cs_8 (by rw [fct0]; decide) (fun z => absurd (fct0.symm.trans z) (by decide)) (fun _ => ⟨es3.symm, es4.symm⟩) (fun _ => by show M.2.2.2.1 + 1 = _; omega) (fun z => absurd (fct0.symm.trans z) (by decide)))
                exact sVret Cx hr hlk hW hL ⟨hI116, hFm116, hGm116, ⟨⟨(fun h => absurd (show S116.1 231 20 = 0 by have e9 := (show S116.1 231 20 = u_12.1 231 20 from (gL116_ 20 rfl).trans ((uA_f).trans ((uF_ne (fun h => absurd h.2 (by decide))).trans (uF_ne (fun h => absurd h.2 (by decide)))))); omega) h), (fun _ => ⟨_, (by rw [eDv_3 hfn hix (by rw [← hsz]; omega), qe]), hMr.added hNn hfn hNF (by have y33 := (show S116.1 231 33 = S.1 231 33 from (gL116_ 33 rfl).trans ((uA_f).trans ((uF_ne (fun h => absurd h.2 (by decide))).trans ((uF_ne (fun h => absurd h.2 (by decide))).trans ((gu_12 33 rfl).trans (gu_3 33 rfl)))))); omega) (by have y34 := (show S116.1 231 34 = S.1 231 34 from (gL116_ 34 rfl).trans ((uA_f).trans ((uF_ne (fun h => absurd h.2 (by decide))).trans ((uF_ne (fun h => absurd h.2 (by decide))).trans ((gu_12 34 rfl).trans (gu_3 34 rfl)))))); omega) (by have y35 := (show S116.1 231 35 = S116.1 231 35 from rfl); rw [← hsz]; omega) (by have y36 := (show S116.1 231 36 = S.1 231 36 from (gL116_ 36 rfl).trans ((uA_f).trans ((uF_ne (fun h => absurd h.2 (by decide))).trans ((uF_ne (fun h => absurd h.2 (by decide))).trans ((gu_12 36 rfl).trans (gu_3 36 rfl)))))); omega) (by have y42 := (show S116.1 231 42 = S.1 231 42 from (gL116_ 42 rfl).trans ((uA_f).trans ((uF_ne (fun h => absurd h.2 (by decide))).trans ((uF_ne (fun h => absurd h.2 (by decide))).trans ((gu_12 42 rfl).trans (gu_3 42 rfl)))))); omega) (by rw [← hsz]; omega), hPb.added hNr hK_ hNF hrw9 (by have y32 := (show S116.1 231 32 = S.1 231 32 from (gL116_ 32 rfl).trans ((uA_f).trans ((uF_ne (fun h => absurd h.2 (by decide))).trans ((uF_ne (fun h => absurd h.2 (by decide))).trans ((gu_12 32 rfl).trans (gu_3 32 rfl)))))); omega) (fun z => absurd (fct0.symm.trans z) (by decide)), (by have y24 := (show S116.1 231 24 = ((u_12.1 231 24) + 1) + 1 from (gL116_ 24 rfl).trans ((uA_f).trans (uF_on))); omega)⟩)⟩, (fun _ hw0 M2 e => by have d := eDv_w (z := 1) (n := mm) hfn hix (by rw [← hsz]; omega) hsz (.inr ⟨rfl, k9⟩) e; have y : wsm (S116.2.1 254) (S116.1 231 35).toNat = _ := hw; rw [show i = mm by omega, show wsm (S.2.1 254) (S.1 231 35).toNat = M.2.2.2.2.1 from hw0, show wh = 1 by omega] at y; exact y.trans d.1.symm), (fun _ X hX => XAr.var (z := 1) hX hix (by rw [← hsz]; have y35 := (show S116.1 231 35 = S116.1 231 35 from rfl); omega) (.inr ⟨rfl, k9⟩) (by omega) (by have y36 := (show S116.1 231 36 = S.1 231 36 from (gL116_ 36 rfl).trans ((uA_f).trans ((uF_ne (fun h => absurd h.2 (by decide))).trans ((uF_ne (fun h => absurd h.2 (by decide))).trans ((gu_12 36 rfl).trans (gu_3 36 rfl)))))); omega) (fun x a b => (show S116.2.1 254 x = _ from hx2 x a (by have y35 := (show S116.1 231 35 = S116.1 231 35 from rfl); omega)).trans (by omega)) (fun x a => (show S116.2.1 254 x = _ from hz2 x a)))⟩⟩ dX12_tellVar_149
              · refine lv_aload_n hx hb dX12_tellVar_123 rfl (lv_at hl 4 rfl) ?_
                refine lv_dup hx hb dX12_tellVar_124 rfl ?_
                have q_75 : (-2147483648) ≤ S116.1 231 35 ∧ S116.1 231 35 ≤ 2147483647 := hI116.fi 35
                refine g_X12_379 Cx hW (k := 231) (by decide) rfl (v := S116.1 231 35) rfl dX12_tellVar_125 ?_
                refine lv_iconst (v := iv 1) hx hb dX12_tellVar_128 (by decide) ?_
                refine r_iadd hx hb dX12_tellVar_129 ?_
                refine p_X12_379 Cx hW hL (k := 231) (by decide) rfl dX12_tellVar_130 (fun H locs hW hL => ?_)
                have F_76 : Fr S (uF S116 231 35 ((S116.1 231 35) + 1)) (pl [231, 248, 249, 250, 251, 252, 254]) := hFm116.F rfl
                have F_77 : Fr ((uA (uF (uF u_12 231 24 ((u_12.1 231 24) + 1)) 231 24 (((u_12.1 231 24) + 1) + 1)) 252 nm ((S.1 231 35) + 1))) (uF S116 231 35 ((S116.1 231 35) + 1)) (pl [231, 254]) := hL116_.F rfl
                have g_78 : FF S (uF S116 231 35 ((S116.1 231 35) + 1)) (fl [20, 21, 24, 25, 35]) := FF.F hGm116 rfl
                have g_79 : FF ((uA (uF (uF u_12 231 24 ((u_12.1 231 24) + 1)) 231 24 (((u_12.1 231 24) + 1) + 1)) 252 nm ((S.1 231 35) + 1))) (uF S116 231 35 ((S116.1 231 35) + 1)) (fl [35]) := FF.F gL116_ rfl
                have i_80 : dX G (uF S116 231 35 ((S116.1 231 35) + 1)) := hI116.F (i := 35) (show (-2147483648) ≤ (S116.1 231 35) + 1 ∧ (S116.1 231 35) + 1 ≤ 2147483647 from ⟨by omega, by omega⟩)
                refine lv_aload_n hx hb dX12_tellVar_133 rfl (lv_at hl 4 rfl) ?_
                refine g_X12_77 Cx hW (k := 231) (by decide) rfl (v := .ref (G.2.2.1 + 254)) (rd_37 i_80) dX12_tellVar_134 ?_
                refine lv_aload_n hx hb dX12_tellVar_137 rfl (lv_at hl 4 rfl) ?_
                refine g_X12_379 Cx hW (k := 231) (by decide) rfl (v := (S116.1 231 35) + 1) uF_on dX12_tellVar_138 ?_
                refine lv_iload_n hx hb dX12_tellVar_141 rfl (lv_at hl 2 rfl) ?_
                refine rZast Cx hW hL (k := 254) (by decide) rfl (by decide) (by omega) (by omega) (nar_z (by omega)) dX12_tellVar_142 (fun H locs hW hL => ?_)
                have F_81 : Fr S (uA (uF S116 231 35 ((S116.1 231 35) + 1)) 254 ((S116.1 231 35) + 1) wh) (pl [231, 248, 249, 250, 251, 252, 254]) := F_76.A rfl
                have F_82 : Fr ((uA (uF (uF u_12 231 24 ((u_12.1 231 24) + 1)) 231 24 (((u_12.1 231 24) + 1) + 1)) 252 nm ((S.1 231 35) + 1))) (uA (uF S116 231 35 ((S116.1 231 35) + 1)) 254 ((S116.1 231 35) + 1) wh) (pl [231, 254]) := F_77.A rfl
                have i_83 : dX G (uA (uF S116 231 35 ((S116.1 231 35) + 1)) 254 ((S116.1 231 35) + 1) wh) := i_80.A (k := 254) (show 0 ≤ wh ∧ wh ≤ 1 from ⟨by omega, by omega⟩)
                refine lv_iinc (v := iv (i + 1)) (lv' := [(5, .int (iv (i + 1))), (4, .int (iv mm)), (3, .int (iv wh)), (2, .int (iv nm)), (0, .ref (G.2.2.1 + 231)), (1, .int (iv tk))]) hx hb dX12_tellVar_143 hl (k := 0) rfl ((Int32.ofInt_add _ _).symm) (by decide) rfl (fun ls hl => ?_)
                refine lv_goto (tgt := 116) hx hb dX12_tellVar_146 (by decide) ?_
                have lk_84 : (uA (uF S116 231 35 ((S116.1 231 35) + 1)) 254 ((S116.1 231 35) + 1) wh).1 231 35 = (S116.1 231 35) + 1 := (uA_f).trans (uF_on)
                exact ih_116 (uA (uF S116 231 35 ((S116.1 231 35) + 1)) 254 ((S116.1 231 35) + 1) wh) (i + 1) _ _ _ (by omega) i_83 F_81 F_82 g_78 g_79 (by omega) (by have y := (show (uA (uF S116 231 35 ((S116.1 231 35) + 1)) 254 ((S116.1 231 35) + 1) wh).1 231 35 = (S116.1 231 35) + 1 from (uA_f).trans (uF_on)); rw [show (uA (uF S116 231 35 ((S116.1 231 35) + 1)) 254 ((S116.1 231 35) + 1) wh).1 231 35 = S116.1 231 35 + 1 by omega, wsm_put (by omega)]; show wsm (S116.2.1 254) (S116.1 231 35).toNat + wh = _; rw [hw]; split <;> omega) (fun x a b => by by_cases q : x = S116.1 231 35 + 1; (rw [q]; exact uA_on); (exact (uA_ne (fun h => q h.2)).trans (hx2 x a (by omega)))) (fun x a => (uA_ne (fun h => by have := h.2; omega)).trans (hz2 x a)) hW hL (lv_sub hl [0, 1, 2, 3, 4, 5] rfl)
          have lk_85 : (uA (uF (uF u_12 231 24 ((u_12.1 231 24) + 1)) 231 24 (((u_12.1 231 24) + 1) + 1)) 252 nm ((S.1 231 35) + 1)).1 231 35 = S.1 231 35 := (uA_f).trans ((uF_ne (fun h => absurd h.2 (by decide))).trans ((uF_ne (fun h => absurd h.2 (by decide))).trans ((gu_12 35 rfl).trans (gu_3 35 rfl))))
          exact loop_116 (_ + 1) (uA (uF (uF u_12 231 24 ((u_12.1 231 24) + 1)) 231 24 (((u_12.1 231 24) + 1) + 1)) 252 nm ((S.1 231 35) + 1)) 0 _ _ _ (Nat.lt_succ_self _) i_71 F_70 Fr.rf g_59 FF.rf (by omega) (by have y := (show (uA (uF (uF u_12 231 24 ((u_12.1 231 24) + 1)) 231 24 (((u_12.1 231 24) + 1) + 1)) 252 nm ((S.1 231 35) + 1)).1 231 35 = S.1 231 35 from (uA_f).trans ((uF_ne (fun h => absurd h.2 (by decide))).trans ((uF_ne (fun h => absurd h.2 (by decide))).trans ((gu_12 35 rfl).trans (gu_3 35 rfl))))); show wsm ((uA (uF (uF u_12 231 24 ((u_12.1 231 24) + 1)) 231 24 (((u_12.1 231 24) + 1) + 1)) 252 nm ((S.1 231 35) + 1)).2.1 254) ((uA (uF (uF u_12 231 24 ((u_12.1 231 24) + 1)) 231 24 (((u_12.1 231 24) + 1) + 1)) 252 nm ((S.1 231 35) + 1)).1 231 35).toNat = wsm (S.2.1 254) (S.1 231 35).toNat + (if wh = 0 then 0 else 0); rw [(show (uA (uF (uF u_12 231 24 ((u_12.1 231 24) + 1)) 231 24 (((u_12.1 231 24) + 1) + 1)) 252 nm ((S.1 231 35) + 1)).2.1 254 = S.2.1 254 from funext fun j => (uA_ne (fun h => absurd h.1 (by decide))).trans ((uF_a).trans ((uF_a).trans (((fu_12 254 rfl).2.1 j).trans ((fu_3 254 rfl).2.1 j))))), show (uA (uF (uF u_12 231 24 ((u_12.1 231 24) + 1)) 231 24 (((u_12.1 231 24) + 1) + 1)) 252 nm ((S.1 231 35) + 1)).1 231 35 = S.1 231 35 by omega]; split <;> omega) (fun x a b => absurd b (by omega)) (fun x _ => (uA_ne (fun h => absurd h.1 (by decide))).trans ((uF_a).trans ((uF_a).trans (((fu_12 254 rfl).2.1 x).trans ((fu_3 254 rfl).2.1 x))))) hW hL (lv_sub hl [0, 1, 2, 3, 4, 5] rfl)
        · refine lv_aload_n hx hb dX12_tellVar_105 rfl (lv_at hl 3 rfl) ?_
          refine lv_bipush (v := iv 7) hx hb dX12_tellVar_106 (by decide) ?_
          refine lv_iload_n hx hb dX12_tellVar_108 rfl (lv_at hl 4 rfl) ?_
          refine sBv (sV (As := [.int (iv 7), .int (iv tk)]) (rest := []) (k := 231) Cx (s_X12_wrong l G (uA (uF (uF u_12 231 24 ((u_12.1 231 24) + 1)) 231 24 (((u_12.1 231 24) + 1) + 1)) 252 nm ((S.1 231 35) + 1)) (cd := 7) (tk := tk) i_71 (by omega) (by omega)) (c_X12_321 Cx rfl rfl (rmk_ok (by omega) (by decide))) hW (by decide) rfl rfl rfl hl.1 rfl (Nat.le_of_ble_eq_true rfl) dX12_tellVar_109 ⟨Nat.le_of_ble_eq_true rfl, Nat.le_of_ble_eq_true rfl⟩) hL (fun u_86 H locs k_87 hW hL => ?_)
          obtain ⟨iu_86, fu_86, gu_86, xu_86⟩ := k_87
          have F_88 := F_70.trans (fu_86.to (pl_sub (by decide)))
          have g_89 : FF S u_86 (fl [20, 21, 24, 25, 35]) := FF.trans g_59 (FF.to gu_86 (fl_sub (by decide)))
          have q_90 : (-2147483648) ≤ u_86.1 231 20 ∧ u_86.1 231 20 ≤ 2147483647 := iu_86.fi 20
          exact sVret Cx hr hlk hW hL ⟨iu_86, F_88, g_89, ⟨⟨(fun _ => eDv_2 hfn hix (by rw [← hsz]; omega)), (fun h => absurd h (by have e9 := (show u_86.1 231 20 = u_86.1 231 20 from rfl); have a9 := xu_86; omega))⟩, (fun h => absurd h (by have e9 := (show u_86.1 231 20 = u_86.1 231 20 from rfl); have a9 := xu_86; omega)), (fun h => absurd h (by have e9 := (show u_86.1 231 20 = u_86.1 231 20 from rfl); have a9 := xu_86; omega))⟩⟩ dX12_tellVar_112
    · exact sVret Cx hr hlk hW hL ⟨iu_12, F_14, g_15, ⟨⟨(fun _ => eDv_1 hfn (by rw [← hpz]; exact xu_12.2.1 (by omega))), (fun h => absurd h (by have e9 := (show u_12.1 231 20 = u_12.1 231 20 from rfl); omega))⟩, (fun h => absurd h (by have e9 := (show u_12.1 231 20 = u_12.1 231 20 from rfl); omega)), (fun h => absurd h (by have e9 := (show u_12.1 231 20 = u_12.1 231 20 from rfl); omega))⟩⟩ dX12_tellVar_27
  · exact sVret Cx hr hlk hW hL ⟨iu_3, F_5, g_6, ⟨⟨(fun _ => eDv_0 (by have z2 : 0 ≤ eFind M.1 (v (pp + 1)) := (by rw [← htk]; exact xu_3.2.1 (by omega)); omega)), (fun h => absurd h (by have e9 := (show u_3.1 231 20 = u_3.1 231 20 from rfl); omega))⟩, (fun h => absurd h (by have e9 := (show u_3.1 231 20 = u_3.1 231 20 from rfl); omega)), (fun h => absurd h (by have e9 := (show u_3.1 231 20 = u_3.1 231 20 from rfl); omega))⟩⟩ dX12_tellVar_14
