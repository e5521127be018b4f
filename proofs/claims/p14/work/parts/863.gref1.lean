/-! The kinds of the reference's tokens, as the class has them -/
def sgc (v : Int) : Int := if v = 61 then 13 else if v = 1 then 14 else if v = 59 then 15 else if v = 44 then 16 else if v = 91 then 17 else if v = 93 then 18 else if v = 40 then 19 else if v = 41 then 20 else if v = 43 then 21 else if v = 45 then 22 else if v = 42 then 23 else if v = 58 then 24 else if v = 2 then 25 else if v = 3 then 26 else 27
def krk (k v : Int) : Int := if k = 1 then 2 else if k = 2 then 3 else if k = 3 then (if 0 ≤ v ∧ v ≤ 8 then 4 + v else 27) else if k = 4 then sgc v else if k = 5 then 0 else 1
def kr (K V : Int → Int) (T p : Int) : Int := if 0 ≤ p ∧ p < T then krk (K p) (V p) else 0
theorem kr_in {K V : Int → Int} {T p : Int} (h0 : 0 ≤ p) (h1 : p < T) : kr K V T p = krk (K p) (V p) := if_pos ⟨h0, h1⟩
theorem kr_out {K V : Int → Int} {T : Int} : ∀ p, T ≤ p → kr K V T p = 0 := fun p h => if_neg (by omega)
theorem kr_nz {K V : Int → Int} {T p : Int} (h : kr K V T p ≠ 0) : kr K V T p = krk (K p) (V p) := by
  unfold kr at h ⊢; split
  · rfl
  · rename_i q; rw [if_neg q] at h; exact absurd rfl h
theorem sgc_i {v : Int} : (sgc v = 13 ↔ v = 61) ∧ (sgc v = 14 ↔ v = 1) ∧ (sgc v = 15 ↔ v = 59) ∧ (sgc v = 16 ↔ v = 44) ∧ (sgc v = 17 ↔ v = 91) ∧ (sgc v = 18 ↔ v = 93) ∧ (sgc v = 19 ↔ v = 40) ∧ (sgc v = 20 ↔ v = 41) ∧ (sgc v = 21 ↔ v = 43) ∧ (sgc v = 22 ↔ v = 45) ∧ (sgc v = 23 ↔ v = 42) ∧ (sgc v = 24 ↔ v = 58) ∧ (sgc v = 25 ↔ v = 2) ∧ (sgc v = 26 ↔ v = 3) ∧ 13 ≤ sgc v ∧ sgc v ≤ 27 := by
  unfold sgc
  repeat' split
  all_goals omega
theorem krk_s {k v c : Int} (hc : 13 ≤ c ∧ c ≤ 26) : krk k v = c ↔ k = 4 ∧ sgc v = c := by
  have h := (sgc_i (v := v)).2.2.2.2.2.2.2.2.2.2.2.2.2.2
  unfold krk
  repeat' split
  all_goals omega
theorem krk_w {k v w : Int} (hc : 0 ≤ w ∧ w ≤ 8) : krk k v = 4 + w ↔ k = 3 ∧ v = w := by
  have h := (sgc_i (v := v)).2.2.2.2.2.2.2.2.2.2.2.2.2.2
  unfold krk
  repeat' split
  all_goals omega
theorem krk_k {k v : Int} : (krk k v = 2 ↔ k = 1) ∧ (krk k v = 3 ↔ k = 2) ∧ (krk k v = 0 ↔ k = 5) := by
  have h := (sgc_i (v := v)).2.2.2.2.2.2.2.2.2.2.2.2.2.2
  unfold krk
  repeat' split
  all_goals omega
def sgP (s c : Int) : Prop := ∀ (K V : Int → Int) (T p : Int), (0 ≤ p → p < T → gS K V p s → kr K V T p = c) ∧ (kr K V T p = c → gS K V p s)
def wdP (w c : Int) : Prop := ∀ (K V : Int → Int) (T p : Int), (0 ≤ p → p < T → gW K V p w → kr K V T p = c) ∧ (kr K V T p = c → gW K V p w)
def knP (k c : Int) : Prop := ∀ (K V : Int → Int) (T p : Int), (0 ≤ p → p < T → K p = k → kr K V T p = c) ∧ (kr K V T p = c → K p = k)
theorem sgP_m {s c : Int} (hc : 13 ≤ c ∧ c ≤ 26) (h : ∀ v, sgc v = c ↔ v = s) : sgP s c := fun K V T p => ⟨fun h0 h1 g => by rw [kr_in h0 h1, krk_s hc, h]; exact g, fun e => by
  rw [kr_nz (by omega), krk_s hc, h] at e; exact e⟩
theorem osg_61 : sgP 61 13 := sgP_m (by decide) (fun v => sgc_i.1)
theorem osg_1 : sgP 1 14 := sgP_m (by decide) (fun v => sgc_i.2.1)
theorem osg_59 : sgP 59 15 := sgP_m (by decide) (fun v => sgc_i.2.2.1)
theorem osg_44 : sgP 44 16 := sgP_m (by decide) (fun v => sgc_i.2.2.2.1)
theorem osg_91 : sgP 91 17 := sgP_m (by decide) (fun v => sgc_i.2.2.2.2.1)
theorem osg_93 : sgP 93 18 := sgP_m (by decide) (fun v => sgc_i.2.2.2.2.2.1)
theorem osg_40 : sgP 40 19 := sgP_m (by decide) (fun v => sgc_i.2.2.2.2.2.2.1)
theorem osg_41 : sgP 41 20 := sgP_m (by decide) (fun v => sgc_i.2.2.2.2.2.2.2.1)
theorem osg_43 : sgP 43 21 := sgP_m (by decide) (fun v => sgc_i.2.2.2.2.2.2.2.2.1)
theorem osg_45 : sgP 45 22 := sgP_m (by decide) (fun v => sgc_i.2.2.2.2.2.2.2.2.2.1)
theorem osg_42 : sgP 42 23 := sgP_m (by decide) (fun v => sgc_i.2.2.2.2.2.2.2.2.2.2.1)
theorem osg_58 : sgP 58 24 := sgP_m (by decide) (fun v => sgc_i.2.2.2.2.2.2.2.2.2.2.2.1)
theorem osg_2 : sgP 2 25 := sgP_m (by decide) (fun v => sgc_i.2.2.2.2.2.2.2.2.2.2.2.2.1)
theorem osg_3 : sgP 3 26 := sgP_m (by decide) (fun v => sgc_i.2.2.2.2.2.2.2.2.2.2.2.2.2.1)
theorem wd_m {w : Int} (h : 0 ≤ w ∧ w ≤ 8) : wdP w (4 + w) := fun K V T p => ⟨fun h0 h1 g => by rw [kr_in h0 h1, krk_w h]; exact g, fun e => by
  rw [kr_nz (by omega), krk_w h] at e; exact e⟩
theorem kn_1 : knP 1 2 := fun K V T p => ⟨fun h0 h1 g => by rw [kr_in h0 h1]; exact krk_k.1.mpr g, fun e => by
  rw [kr_nz (by omega)] at e; exact krk_k.1.mp e⟩
theorem kn_2 : knP 2 3 := fun K V T p => ⟨fun h0 h1 g => by rw [kr_in h0 h1]; exact krk_k.2.1.mpr g, fun e => by
  rw [kr_nz (by omega)] at e; exact krk_k.2.1.mp e⟩
def CFr (l : Launch) (G : sG) (D : Nat) (K V : Int → Int) (T : Int) (N : Nat) : Prop := ∀ (S : sS) (pz dp : Int), dX G S → S.2.1 244 = K → S.2.1 247 = V → S.1 231 24 = pz → Hd (S.1 231 20 = 0 → 0 ≤ pz ∧ pz ≤ T - 1) → ((N : Int) = 30 - dp ∧ 0 ≤ dp) → Met l yX12_factorRead (.code yX12_factorRead cX12_factorRead 2 none :: tb) (rmk D 0 0) (sPc G 294 S [.ref (G.2.2.1 + 231), .int (iv dp)]) (sQv G 294 (fun u => dX G u ∧ Fr S u (pl [231]) ∧ FF S u (fl [20, 21, 24]) ∧ (Hd (u.1 231 20 = 0 → S.1 231 20 = 0 ∧ ogF T (kr K V T) N pz = some (u.1 231 24) ∧ pz < u.1 231 24 ∧ 0 ≤ u.1 231 24 ∧ u.1 231 24 ≤ T - 1) ∧ Hd (S.1 231 20 = 0 → u.1 231 20 ≠ 0 → ogF T (kr K V T) N pz = none)))) 0 0 (sF G)
def CPr (l : Launch) (G : sG) (D : Nat) (K V : Int → Int) (T : Int) (N : Nat) : Prop := ∀ (S : sS) (pz dp : Int), dX G S → S.2.1 244 = K → S.2.1 247 = V → S.1 231 24 = pz → Hd (S.1 231 20 = 0 → 0 ≤ pz ∧ pz ≤ T - 1) → ((N : Int) = 30 - dp ∧ 0 ≤ dp) → Met l yX12_productRead (.code yX12_productRead cX12_productRead 2 none :: tb) (rmk D 0 0) (sPc G 294 S [.ref (G.2.2.1 + 231), .int (iv dp)]) (sQv G 294 (fun u => dX G u ∧ Fr S u (pl [231]) ∧ FF S u (fl [20, 21, 24]) ∧ (Hd (u.1 231 20 = 0 → S.1 231 20 = 0 ∧ ogP T (kr K V T) (ogF T (kr K V T) N) pz = some (u.1 231 24) ∧ pz < u.1 231 24 ∧ 0 ≤ u.1 231 24 ∧ u.1 231 24 ≤ T - 1) ∧ Hd (S.1 231 20 = 0 → u.1 231 20 ≠ 0 → ogP T (kr K V T) (ogF T (kr K V T) N) pz = none)))) 0 0 (sF G)
def CSu (l : Launch) (G : sG) (D : Nat) (K V : Int → Int) (T : Int) (N : Nat) : Prop := ∀ (S : sS) (pz dp : Int), dX G S → S.2.1 244 = K → S.2.1 247 = V → S.1 231 24 = pz → Hd (S.1 231 20 = 0 → 0 ≤ pz ∧ pz ≤ T - 1) → ((N : Int) = 30 - dp ∧ 0 ≤ dp) → Met l yX12_sumRead (.code yX12_sumRead cX12_sumRead 2 none :: tb) (rmk D 0 0) (sPc G 294 S [.ref (G.2.2.1 + 231), .int (iv dp)]) (sQv G 294 (fun u => dX G u ∧ Fr S u (pl [231]) ∧ FF S u (fl [20, 21, 24]) ∧ (Hd (u.1 231 20 = 0 → S.1 231 20 = 0 ∧ ogU T (kr K V T) (ogF T (kr K V T) N) pz = some (u.1 231 24) ∧ pz < u.1 231 24 ∧ 0 ≤ u.1 231 24 ∧ u.1 231 24 ≤ T - 1) ∧ Hd (S.1 231 20 = 0 → u.1 231 20 ≠ 0 → ogU T (kr K V T) (ogF T (kr K V T) N) pz = none)))) 0 0 (sF G)
theorem kr_5 {K V : Int → Int} {T p : Int} (h0 : 0 ≤ p) (h1 : p < T) : kr K V T p = 0 ↔ K p = 5 := by rw [kr_in h0 h1]; exact krk_k.2.2
set_option maxRecDepth 100000 in
set_option maxHeartbeats 4000000 in
theorem c_X12_want (l : Launch) (G : sG) (S : sS) {K V : Int → Int} {T pz : Int} {sv cd : Int} (hI : dX G S) (hsv : -2147483648 ≤ sv ∧ sv ≤ 2147483647) (hsg : sgP sv cd) (hK : S.2.1 244 = K) (hV : S.2.1 247 = V) (hE : gE K T) (hc : S.1 231 24 = pz) (hcu : Hd (S.1 231 20 = 0 → 0 ≤ pz ∧ pz ≤ T - 1)) : Met l yX12_want (.code yX12_want cX12_want 2 none :: tb) (rmk 2 0 0) (sPc G 294 S [.ref (G.2.2.1 + 231), .int (iv sv)]) (sQv G 294 (fun u => dX G u ∧ Fr S u (pl [231]) ∧ FF S u (fl [20, 21, 24]) ∧ (Hd (u.1 231 20 = 0 → S.1 231 20 = 0 ∧ ogT (kr K V T) cd pz = some (u.1 231 24) ∧ pz < u.1 231 24 ∧ 0 ≤ u.1 231 24 ∧ u.1 231 24 ≤ T - 1) ∧ Hd (S.1 231 20 = 0 → u.1 231 20 ≠ 0 → ogT (kr K V T) cd pz = none)))) 0 0 (sF G) := by
  refine sEnter (by decide) (Nat.le_of_ble_eq_true rfl) ?_
  intro p e s m args below meth c Cx hr hlk hnm hW ls hl
  have Cx : sC G p m c cX12_want 2 s args RX12 := Cx
  obtain ⟨hx, hb, hml, hown, hts⟩ := id Cx.1
  have hL : sL G [] := sL_nil
  have hl : lv_has ls 2 [(0, .ref (G.2.2.1 + 231)), (1, .int (iv sv))] := hl
  have hW0 := hW
  have hE1 := hE.1
  refine lv_aload_n hx hb dX12_want_0 rfl (lv_at hl 0 rfl) ?_
  have q_1 : (-2147483648) ≤ S.1 231 20 ∧ S.1 231 20 ≤ 2147483647 := hI.fi 20
  refine g_X12_270 Cx hW (k := 231) (by decide) rfl (v := S.1 231 20) rfl dX12_want_1 ?_
  refine r_if_ne (tgt := 24) hx hb ⟨(by omega), (by omega)⟩ dX12_want_4 (by decide) (fun c_2 => ?_) (fun c_2 => ?_)
  · refine lv_aload_n hx hb dX12_want_24 rfl (lv_at hl 0 rfl) ?_
    refine lv_dup hx hb dX12_want_25 rfl ?_
    have q_3 : (-2147483648) ≤ S.1 231 24 ∧ S.1 231 24 ≤ 2147483647 := hI.fi 24
    refine g_X12_315 Cx hW (k := 231) (by decide) rfl (v := S.1 231 24) rfl dX12_want_26 ?_
    refine lv_iconst (v := iv 1) hx hb dX12_want_29 (by decide) ?_
    refine r_iadd hx hb dX12_want_30 ?_
    obtain ⟨z_4, ez_4, hz_4, kz_4⟩ := iv_of (iv ((S.1 231 24) + 1))
    rw [ez_4]
    refine p_X12_315 Cx hW hL (k := 231) (by decide) rfl dX12_want_31 (fun H locs hW hL => ?_)
    have F_5 : Fr S (uF S 231 24 z_4) (pl [231]) := (Fr.rf : Fr S S (pl [231])).F rfl
    have g_6 : FF S (uF S 231 24 z_4) (fl [20, 21, 24]) := FF.F FF.rf rfl
    have i_7 : dX G (uF S 231 24 z_4) := hI.F (i := 24) (show (-2147483648) ≤ z_4 ∧ z_4 ≤ 2147483647 from ⟨by omega, by omega⟩)
    have lk_8 : (uF S 231 24 z_4).1 231 20 = S.1 231 20 := uF_ne (fun h => absurd h.2 (by decide))
    have lk_9 : (uF S 231 24 z_4).1 231 24 = z_4 := uF_on
    exact sVret Cx hr hlk hW hL ⟨i_7, F_5, g_6, ⟨(fun h => absurd h (by have e9 := (show (uF S 231 24 z_4).1 231 20 = S.1 231 20 from uF_ne (fun h => absurd h.2 (by decide))); omega)), (fun h h9 => by have e9 := (show (uF S 231 24 z_4).1 231 20 = S.1 231 20 from uF_ne (fun h => absurd h.2 (by decide))); exfalso; omega)⟩⟩ dX12_want_34
  · have b_10 := hcu (by have e9 := (show S.1 231 20 = S.1 231 20 from rfl); omega)
    refine lv_aload_n hx hb dX12_want_7 rfl (lv_at hl 0 rfl) ?_
    refine lv_iload_n hx hb dX12_want_8 rfl (lv_at hl 1 rfl) ?_
    have q_11 : (-2147483648) ≤ S.1 231 24 ∧ S.1 231 24 ≤ 2147483647 := hI.fi 24
    refine sBi (sV (As := [.int (iv sv)]) (rest := []) (k := 231) Cx (s_X12_isSign l G S (sv := sv) (K := K) (V := V) (pz := pz) hI (by omega) hK hV (by omega) (by omega)) (c_X12_318 Cx rfl rfl (rmk_ok (by omega) (by decide))) hW (by decide) rfl rfl rfl hl.1 rfl (Nat.le_of_ble_eq_true rfl) dX12_want_9 ⟨Nat.le_of_ble_eq_true rfl, Nat.le_of_ble_eq_true rfl⟩) hL (fun r_14 u_12 H locs k_13 hW hL => ?_)
    obtain ⟨eu_12, xu_12⟩ := k_13
    rw [eu_12] at hW
    refine r_if_ne (tgt := 24) hx hb ⟨(by omega), (by omega)⟩ dX12_want_12 (by decide) (fun c_15 => ?_) (fun c_15 => ?_)
    · refine lv_aload_n hx hb dX12_want_24 rfl (lv_at hl 0 rfl) ?_
      refine lv_dup hx hb dX12_want_25 rfl ?_
      refine g_X12_315 Cx hW (k := 231) (by decide) rfl (v := S.1 231 24) rfl dX12_want_26 ?_
      refine lv_iconst (v := iv 1) hx hb dX12_want_29 (by decide) ?_
      refine r_iadd hx hb dX12_want_30 ?_
      refine p_X12_315 Cx hW hL (k := 231) (by decide) rfl dX12_want_31 (fun H locs hW hL => ?_)
      have F_16 : Fr S (uF S 231 24 ((S.1 231 24) + 1)) (pl [231]) := (Fr.rf : Fr S S (pl [231])).F rfl
      have g_17 : FF S (uF S 231 24 ((S.1 231 24) + 1)) (fl [20, 21, 24]) := FF.F FF.rf rfl
      have i_18 : dX G (uF S 231 24 ((S.1 231 24) + 1)) := hI.F (i := 24) (show (-2147483648) ≤ (S.1 231 24) + 1 ∧ (S.1 231 24) + 1 ≤ 2147483647 from ⟨by omega, by omega⟩)
      have lk_19 : (uF S 231 24 ((S.1 231 24) + 1)).1 231 20 = S.1 231 20 := uF_ne (fun h => absurd h.2 (by decide))
      have lk_20 : (uF S 231 24 ((S.1 231 24) + 1)).1 231 24 = (S.1 231 24) + 1 := uF_on
      exact sVret Cx hr hlk hW hL ⟨i_18, F_16, g_17, ⟨(fun h => by have e8 := (show (uF S 231 24 ((S.1 231 24) + 1)).1 231 20 = S.1 231 20 from uF_ne (fun h => absurd h.2 (by decide))); have e7 := (show (uF S 231 24 ((S.1 231 24) + 1)).1 231 24 = (S.1 231 24) + 1 from uF_on); have n8 := hcu (by omega); have n9 := hE.nx (pz := pz) (hcu (by omega)) (by have z := (xu_12.2.1 (by omega)); unfold gS at z; omega); exact ⟨by omega, (by rw [e7]; (try rw [hc]); exact if_pos ((hsg K V T _).1 (by omega) (by omega) (xu_12.2.1 (by omega)))), by omega, by omega, by omega⟩), (fun h h9 => by have e9 := (show (uF S 231 24 ((S.1 231 24) + 1)).1 231 20 = S.1 231 20 from uF_ne (fun h => absurd h.2 (by decide))); exfalso; omega)⟩⟩ dX12_want_34
    · refine lv_aload_n hx hb dX12_want_15 rfl (lv_at hl 0 rfl) ?_
      refine lv_iconst (v := iv 1) hx hb dX12_want_16 (by decide) ?_
      refine lv_aload_n hx hb dX12_want_17 rfl (lv_at hl 0 rfl) ?_
      refine g_X12_315 Cx hW (k := 231) (by decide) rfl (v := S.1 231 24) rfl dX12_want_18 ?_
      refine sBv (sV (As := [.int (iv 1), .int (iv (S.1 231 24))]) (rest := []) (k := 231) Cx (s_X12_wrong l G S (cd := 1) (tk := S.1 231 24) hI (by omega) (by omega)) (c_X12_321 Cx rfl rfl (rmk_ok (by omega) (by decide))) hW (by decide) rfl rfl rfl hl.1 rfl (Nat.le_of_ble_eq_true rfl) dX12_want_21 ⟨Nat.le_of_ble_eq_true rfl, Nat.le_of_ble_eq_true rfl⟩) hL (fun u_21 H locs k_22 hW hL => ?_)
      obtain ⟨iu_21, fu_21, gu_21, xu_21⟩ := k_22
      have F_23 := (Fr.rf : Fr S S (pl [231])).trans fu_21
      have g_24 : FF S u_21 (fl [20, 21, 24]) := FF.trans FF.rf (FF.to gu_21 (fl_sub (by decide)))
      refine lv_aload_n hx hb dX12_want_24 rfl (lv_at hl 0 rfl) ?_
      refine lv_dup hx hb dX12_want_25 rfl ?_
      refine g_X12_315 Cx hW (k := 231) (by decide) rfl (v := S.1 231 24) (gu_21 24 rfl) dX12_want_26 ?_
      refine lv_iconst (v := iv 1) hx hb dX12_want_29 (by decide) ?_
      refine r_iadd hx hb dX12_want_30 ?_
      refine p_X12_315 Cx hW hL (k := 231) (by decide) rfl dX12_want_31 (fun H locs hW hL => ?_)
      have F_25 : Fr S (uF u_21 231 24 ((S.1 231 24) + 1)) (pl [231]) := F_23.F rfl
      have g_26 : FF S (uF u_21 231 24 ((S.1 231 24) + 1)) (fl [20, 21, 24]) := FF.F g_24 rfl
      have i_27 : dX G (uF u_21 231 24 ((S.1 231 24) + 1)) := iu_21.F (i := 24) (show (-2147483648) ≤ (S.1 231 24) + 1 ∧ (S.1 231 24) + 1 ≤ 2147483647 from ⟨by omega, by omega⟩)
      have q_28 : (-2147483648) ≤ u_21.1 231 20 ∧ u_21.1 231 20 ≤ 2147483647 := iu_21.fi 20
      have lk_29 : (uF u_21 231 24 ((S.1 231 24) + 1)).1 231 20 = u_21.1 231 20 := uF_ne (fun h => absurd h.2 (by decide))
      have lk_30 : (uF u_21 231 24 ((S.1 231 24) + 1)).1 231 24 = (S.1 231 24) + 1 := uF_on
      exact sVret Cx hr hlk hW hL ⟨i_27, F_25, g_26, ⟨(fun h => absurd h (by have e9 := (show (uF u_21 231 24 ((S.1 231 24) + 1)).1 231 20 = u_21.1 231 20 from uF_ne (fun h => absurd h.2 (by decide))); have a9 := xu_21; omega)), (fun h h9 => if_neg (fun z => (xu_12.2.2 (by omega)) ((hsg K V T _).2 z)))⟩⟩ dX12_want_34

set_option maxRecDepth 100000 in
set_option maxHeartbeats 4000000 in
theorem c_X12_wantWord (l : Launch) (G : sG) (S : sS) {K V : Int → Int} {T pz : Int} {sv cd : Int} (hI : dX G S) (hsv : -2147483648 ≤ sv ∧ sv ≤ 2147483647) (hsg : wdP sv cd) (hK : S.2.1 244 = K) (hV : S.2.1 247 = V) (hE : gE K T) (hc : S.1 231 24 = pz) (hcu : Hd (S.1 231 20 = 0 → 0 ≤ pz ∧ pz ≤ T - 1)) : Met l yX12_wantWord (.code yX12_wantWord cX12_wantWord 2 none :: tb) (rmk 2 0 0) (sPc G 294 S [.ref (G.2.2.1 + 231), .int (iv sv)]) (sQv G 294 (fun u => dX G u ∧ Fr S u (pl [231]) ∧ FF S u (fl [20, 21, 24]) ∧ (Hd (u.1 231 20 = 0 → S.1 231 20 = 0 ∧ ogT (kr K V T) cd pz = some (u.1 231 24) ∧ pz < u.1 231 24 ∧ 0 ≤ u.1 231 24 ∧ u.1 231 24 ≤ T - 1) ∧ Hd (S.1 231 20 = 0 → u.1 231 20 ≠ 0 → ogT (kr K V T) cd pz = none)))) 0 0 (sF G) := by
  refine sEnter (by decide) (Nat.le_of_ble_eq_true rfl) ?_
  intro p e s m args below meth c Cx hr hlk hnm hW ls hl
  have Cx : sC G p m c cX12_wantWord 2 s args RX12 := Cx
  obtain ⟨hx, hb, hml, hown, hts⟩ := id Cx.1
  have hL : sL G [] := sL_nil
  have hl : lv_has ls 2 [(0, .ref (G.2.2.1 + 231)), (1, .int (iv sv))] := hl
  have hW0 := hW
  have hE1 := hE.1
  refine lv_aload_n hx hb dX12_wantWord_0 rfl (lv_at hl 0 rfl) ?_
  have q_1 : (-2147483648) ≤ S.1 231 20 ∧ S.1 231 20 ≤ 2147483647 := hI.fi 20
  refine g_X12_270 Cx hW (k := 231) (by decide) rfl (v := S.1 231 20) rfl dX12_wantWord_1 ?_
  refine r_if_ne (tgt := 24) hx hb ⟨(by omega), (by omega)⟩ dX12_wantWord_4 (by decide) (fun c_2 => ?_) (fun c_2 => ?_)
  · refine lv_aload_n hx hb dX12_wantWord_24 rfl (lv_at hl 0 rfl) ?_
    refine lv_dup hx hb dX12_wantWord_25 rfl ?_
    have q_3 : (-2147483648) ≤ S.1 231 24 ∧ S.1 231 24 ≤ 2147483647 := hI.fi 24
    refine g_X12_315 Cx hW (k := 231) (by decide) rfl (v := S.1 231 24) rfl dX12_wantWord_26 ?_
    refine lv_iconst (v := iv 1) hx hb dX12_wantWord_29 (by decide) ?_
    refine r_iadd hx hb dX12_wantWord_30 ?_
    obtain ⟨z_4, ez_4, hz_4, kz_4⟩ := iv_of (iv ((S.1 231 24) + 1))
    rw [ez_4]
    refine p_X12_315 Cx hW hL (k := 231) (by decide) rfl dX12_wantWord_31 (fun H locs hW hL => ?_)
    have F_5 : Fr S (uF S 231 24 z_4) (pl [231]) := (Fr.rf : Fr S S (pl [231])).F rfl
    have g_6 : FF S (uF S 231 24 z_4) (fl [20, 21, 24]) := FF.F FF.rf rfl
    have i_7 : dX G (uF S 231 24 z_4) := hI.F (i := 24) (show (-2147483648) ≤ z_4 ∧ z_4 ≤ 2147483647 from ⟨by omega, by omega⟩)
    have lk_8 : (uF S 231 24 z_4).1 231 20 = S.1 231 20 := uF_ne (fun h => absurd h.2 (by decide))
    have lk_9 : (uF S 231 24 z_4).1 231 24 = z_4 := uF_on
    exact sVret Cx hr hlk hW hL ⟨i_7, F_5, g_6, ⟨(fun h => absurd h (by have e9 := (show (uF S 231 24 z_4).1 231 20 = S.1 231 20 from uF_ne (fun h => absurd h.2 (by decide))); omega)), (fun h h9 => by have e9 := (show (uF S 231 24 z_4).1 231 20 = S.1 231 20 from uF_ne (fun h => absurd h.2 (by decide))); exfalso; omega)⟩⟩ dX12_wantWord_34
  · have b_10 := hcu (by have e9 := (show S.1 231 20 = S.1 231 20 from rfl); omega)
    refine lv_aload_n hx hb dX12_wantWord_7 rfl (lv_at hl 0 rfl) ?_
    refine lv_iload_n hx hb dX12_wantWord_8 rfl (lv_at hl 1 rfl) ?_
    have q_11 : (-2147483648) ≤ S.1 231 24 ∧ S.1 231 24 ≤ 2147483647 := hI.fi 24
    refine sBi (sV (As := [.int (iv sv)]) (rest := []) (k := 231) Cx (s_X12_isWord l G S (sv := sv) (K := K) (V := V) (pz := pz) hI (by omega) hK hV (by omega) (by omega)) (c_X12_325 Cx rfl rfl (rmk_ok (by omega) (by decide))) hW (by decide) rfl rfl rfl hl.1 rfl (Nat.le_of_ble_eq_true rfl) dX12_wantWord_9 ⟨Nat.le_of_ble_eq_true rfl, Nat.le_of_ble_eq_true rfl⟩) hL (fun r_14 u_12 H locs k_13 hW hL => ?_)
    obtain ⟨eu_12, xu_12⟩ := k_13
    rw [eu_12] at hW
    refine r_if_ne (tgt := 24) hx hb ⟨(by omega), (by omega)⟩ dX12_wantWord_12 (by decide) (fun c_15 => ?_) (fun c_15 => ?_)
    · refine lv_aload_n hx hb dX12_wantWord_24 rfl (lv_at hl 0 rfl) ?_
      refine lv_dup hx hb dX12_wantWord_25 rfl ?_
      refine g_X12_315 Cx hW (k := 231) (by decide) rfl (v := S.1 231 24) rfl dX12_wantWord_26 ?_
      refine lv_iconst (v := iv 1) hx hb dX12_wantWord_29 (by decide) ?_
      refine r_iadd hx hb dX12_wantWord_30 ?_
      refine p_X12_315 Cx hW hL (k := 231) (by decide) rfl dX12_wantWord_31 (fun H locs hW hL => ?_)
      have F_16 : Fr S (uF S 231 24 ((S.1 231 24) + 1)) (pl [231]) := (Fr.rf : Fr S S (pl [231])).F rfl
      have g_17 : FF S (uF S 231 24 ((S.1 231 24) + 1)) (fl [20, 21, 24]) := FF.F FF.rf rfl
      have i_18 : dX G (uF S 231 24 ((S.1 231 24) + 1)) := hI.F (i := 24) (show (-2147483648) ≤ (S.1 231 24) + 1 ∧ (S.1 231 24) + 1 ≤ 2147483647 from ⟨by omega, by omega⟩)
      have lk_19 : (uF S 231 24 ((S.1 231 24) + 1)).1 231 20 = S.1 231 20 := uF_ne (fun h => absurd h.2 (by decide))
      have lk_20 : (uF S 231 24 ((S.1 231 24) + 1)).1 231 24 = (S.1 231 24) + 1 := uF_on
      exact sVret Cx hr hlk hW hL ⟨i_18, F_16, g_17, ⟨(fun h => by have e8 := (show (uF S 231 24 ((S.1 231 24) + 1)).1 231 20 = S.1 231 20 from uF_ne (fun h => absurd h.2 (by decide))); have e7 := (show (uF S 231 24 ((S.1 231 24) + 1)).1 231 24 = (S.1 231 24) + 1 from uF_on); have n8 := hcu (by omega); have n9 := hE.nx (pz := pz) (hcu (by omega)) (by have z := (xu_12.2.1 (by omega)); unfold gW at z; omega); exact ⟨by omega, (by rw [e7]; (try rw [hc]); exact if_pos ((hsg K V T _).1 (by omega) (by omega) (xu_12.2.1 (by omega)))), by omega, by omega, by omega⟩), (fun h h9 => by have e9 := (show (uF S 231 24 ((S.1 231 24) + 1)).1 231 20 = S.1 231 20 from uF_ne (fun h => absurd h.2 (by decide))); exfalso; omega)⟩⟩ dX12_wantWord_34
    · refine lv_aload_n hx hb dX12_wantWord_15 rfl (lv_at hl 0 rfl) ?_
      refine lv_iconst (v := iv 1) hx hb dX12_wantWord_16 (by decide) ?_
      refine lv_aload_n hx hb dX12_wantWord_17 rfl (lv_at hl 0 rfl) ?_
      refine g_X12_315 Cx hW (k := 231) (by decide) rfl (v := S.1 231 24) rfl dX12_wantWord_18 ?_
      refine sBv (sV (As := [.int (iv 1), .int (iv (S.1 231 24))]) (rest := []) (k := 231) Cx (s_X12_wrong l G S (cd := 1) (tk := S.1 231 24) hI (by omega) (by omega)) (c_X12_321 Cx rfl rfl (rmk_ok (by omega) (by decide))) hW (by decide) rfl rfl rfl hl.1 rfl (Nat.le_of_ble_eq_true rfl) dX12_wantWord_21 ⟨Nat.le_of_ble_eq_true rfl, Nat.le_of_ble_eq_true rfl⟩) hL (fun u_21 H locs k_22 hW hL => ?_)
      obtain ⟨iu_21, fu_21, gu_21, xu_21⟩ := k_22
      have F_23 := (Fr.rf : Fr S S (pl [231])).trans fu_21
      have g_24 : FF S u_21 (fl [20, 21, 24]) := FF.trans FF.rf (FF.to gu_21 (fl_sub (by decide)))
      refine lv_aload_n hx hb dX12_wantWord_24 rfl (lv_at hl 0 rfl) ?_
      refine lv_dup hx hb dX12_wantWord_25 rfl ?_
      refine g_X12_315 Cx hW (k := 231) (by decide) rfl (v := S.1 231 24) (gu_21 24 rfl) dX12_wantWord_26 ?_
      refine lv_iconst (v := iv 1) hx hb dX12_wantWord_29 (by decide) ?_
      refine r_iadd hx hb dX12_wantWord_30 ?_
      refine p_X12_315 Cx hW hL (k := 231) (by decide) rfl dX12_wantWord_31 (fun H locs hW hL => ?_)
      have F_25 : Fr S (uF u_21 231 24 ((S.1 231 24) + 1)) (pl [231]) := F_23.F rfl
      have g_26 : FF S (uF u_21 231 24 ((S.1 231 24) + 1)) (fl [20, 21, 24]) := FF.F g_24 rfl
      have i_27 : dX G (uF u_21 231 24 ((S.1 231 24) + 1)) := iu_21.F (i := 24) (show (-2147483648) ≤ (S.1 231 24) + 1 ∧ (S.1 231 24) + 1 ≤ 2147483647 from ⟨by omega, by omega⟩)
      have q_28 : (-2147483648) ≤ u_21.1 231 20 ∧ u_21.1 231 20 ≤ 2147483647 := iu_21.fi 20
      have lk_29 : (uF u_21 231 24 ((S.1 231 24) + 1)).1 231 20 = u_21.1 231 20 := uF_ne (fun h => absurd h.2 (by decide))
      have lk_30 : (uF u_21 231 24 ((S.1 231 24) + 1)).1 231 24 = (S.1 231 24) + 1 := uF_on
      exact sVret Cx hr hlk hW hL ⟨i_27, F_25, g_26, ⟨(fun h => absurd h (by have e9 := (show (uF u_21 231 24 ((S.1 231 24) + 1)).1 231 20 = u_21.1 231 20 from uF_ne (fun h => absurd h.2 (by decide))); have a9 := xu_21; omega)), (fun h h9 => if_neg (fun z => (xu_12.2.2 (by omega)) ((hsg K V T _).2 z)))⟩⟩ dX12_wantWord_34

set_option maxRecDepth 100000 in
set_option maxHeartbeats 4000000 in
theorem c_X12_wantKind (l : Launch) (G : sG) (S : sS) {K V : Int → Int} {T pz : Int} {k cd : Int} (hI : dX G S) (hk : 1 ≤ k ∧ k ≤ 4) (hsg : knP k cd) (hK : S.2.1 244 = K) (hV : S.2.1 247 = V) (hE : gE K T) (hc : S.1 231 24 = pz) (hcu : Hd (S.1 231 20 = 0 → 0 ≤ pz ∧ pz ≤ T - 1)) : Met l yX12_wantKind (.code yX12_wantKind cX12_wantKind 2 none :: tb) (rmk 2 0 0) (sPc G 294 S [.ref (G.2.2.1 + 231), .int (iv k)]) (sQv G 294 (fun u => dX G u ∧ Fr S u (pl [231]) ∧ FF S u (fl [20, 21, 24]) ∧ (Hd (u.1 231 20 = 0 → S.1 231 20 = 0 ∧ ogT (kr K V T) cd pz = some (u.1 231 24) ∧ pz < u.1 231 24 ∧ 0 ≤ u.1 231 24 ∧ u.1 231 24 ≤ T - 1) ∧ Hd (S.1 231 20 = 0 → u.1 231 20 ≠ 0 → ogT (kr K V T) cd pz = none)))) 0 0 (sF G) := by
  refine sEnter (by decide) (Nat.le_of_ble_eq_true rfl) ?_
  intro p e s m args below meth c Cx hr hlk hnm hW ls hl
  have Cx : sC G p m c cX12_wantKind 2 s args RX12 := Cx
  obtain ⟨hx, hb, hml, hown, hts⟩ := id Cx.1
  have hL : sL G [] := sL_nil
  have hl : lv_has ls 2 [(0, .ref (G.2.2.1 + 231)), (1, .int (iv k))] := hl
  have hW0 := hW
  have hE1 := hE.1
  refine lv_aload_n hx hb dX12_wantKind_0 rfl (lv_at hl 0 rfl) ?_
  have q_1 : (-2147483648) ≤ S.1 231 20 ∧ S.1 231 20 ≤ 2147483647 := hI.fi 20
  refine g_X12_270 Cx hW (k := 231) (by decide) rfl (v := S.1 231 20) rfl dX12_wantKind_1 ?_
  refine r_if_ne (tgt := 29) hx hb ⟨(by omega), (by omega)⟩ dX12_wantKind_4 (by decide) (fun c_2 => ?_) (fun c_2 => ?_)
  · refine lv_aload_n hx hb dX12_wantKind_29 rfl (lv_at hl 0 rfl) ?_
    refine lv_dup hx hb dX12_wantKind_30 rfl ?_
    have q_3 : (-2147483648) ≤ S.1 231 24 ∧ S.1 231 24 ≤ 2147483647 := hI.fi 24
    refine g_X12_315 Cx hW (k := 231) (by decide) rfl (v := S.1 231 24) rfl dX12_wantKind_31 ?_
    refine lv_iconst (v := iv 1) hx hb dX12_wantKind_34 (by decide) ?_
    refine r_iadd hx hb dX12_wantKind_35 ?_
    obtain ⟨z_4, ez_4, hz_4, kz_4⟩ := iv_of (iv ((S.1 231 24) + 1))
    rw [ez_4]
    refine p_X12_315 Cx hW hL (k := 231) (by decide) rfl dX12_wantKind_36 (fun H locs hW hL => ?_)
    have F_5 : Fr S (uF S 231 24 z_4) (pl [231]) := (Fr.rf : Fr S S (pl [231])).F rfl
    have g_6 : FF S (uF S 231 24 z_4) (fl [20, 21, 24]) := FF.F FF.rf rfl
    have i_7 : dX G (uF S 231 24 z_4) := hI.F (i := 24) (show (-2147483648) ≤ z_4 ∧ z_4 ≤ 2147483647 from ⟨by omega, by omega⟩)
    have lk_8 : (uF S 231 24 z_4).1 231 20 = S.1 231 20 := uF_ne (fun h => absurd h.2 (by decide))
    have lk_9 : (uF S 231 24 z_4).1 231 24 = z_4 := uF_on
    exact sVret Cx hr hlk hW hL ⟨i_7, F_5, g_6, ⟨(fun h => absurd h (by have e9 := (show (uF S 231 24 z_4).1 231 20 = S.1 231 20 from uF_ne (fun h => absurd h.2 (by decide))); omega)), (fun h h9 => by have e9 := (show (uF S 231 24 z_4).1 231 20 = S.1 231 20 from uF_ne (fun h => absurd h.2 (by decide))); exfalso; omega)⟩⟩ dX12_wantKind_39
  · have b_10 := hcu (by have e9 := (show S.1 231 20 = S.1 231 20 from rfl); omega)
    refine lv_aload_n hx hb dX12_wantKind_7 rfl (lv_at hl 0 rfl) ?_
    refine g_X12_47 Cx hW (k := 231) (by decide) rfl (v := .ref (G.2.2.1 + 244)) (rd_15 hI) dX12_wantKind_8 ?_
    refine lv_aload_n hx hb dX12_wantKind_11 rfl (lv_at hl 0 rfl) ?_
    have q_11 : (-2147483648) ≤ S.1 231 24 ∧ S.1 231 24 ≤ 2147483647 := hI.fi 24
    refine g_X12_315 Cx hW (k := 231) (by decide) rfl (v := S.1 231 24) rfl dX12_wantKind_12 ?_
    refine rIald Cx hW (k := 244) (by decide) rfl (by decide) (by omega) (by omega) dX12_wantKind_15 ?_
    have q_12 : (-2147483648) ≤ S.2.1 244 (S.1 231 24) ∧ S.2.1 244 (S.1 231 24) ≤ 2147483647 := hI.ai 244 (S.1 231 24)
    refine r_i (b := S.2.1 244 (S.1 231 24)) rfl ?_
    have hr1 : K pz = S.2.1 244 (S.1 231 24) := by rw [← hK, ← hc]
    refine lv_iload_n hx hb dX12_wantKind_16 rfl (lv_at hl 1 rfl) ?_
    refine r_icmp_eq (tgt := 29) hx hb ⟨(by omega), (by omega)⟩ ⟨(by omega), (by omega)⟩ dX12_wantKind_17 (by decide) (fun c_13 => ?_) (fun c_13 => ?_)
    · refine lv_aload_n hx hb dX12_wantKind_29 rfl (lv_at hl 0 rfl) ?_
      refine lv_dup hx hb dX12_wantKind_30 rfl ?_
      refine g_X12_315 Cx hW (k := 231) (by decide) rfl (v := S.1 231 24) rfl dX12_wantKind_31 ?_
      refine lv_iconst (v := iv 1) hx hb dX12_wantKind_34 (by decide) ?_
      refine r_iadd hx hb dX12_wantKind_35 ?_
      refine p_X12_315 Cx hW hL (k := 231) (by decide) rfl dX12_wantKind_36 (fun H locs hW hL => ?_)
      have F_14 : Fr S (uF S 231 24 ((S.1 231 24) + 1)) (pl [231]) := (Fr.rf : Fr S S (pl [231])).F rfl
      have g_15 : FF S (uF S 231 24 ((S.1 231 24) + 1)) (fl [20, 21, 24]) := FF.F FF.rf rfl
      have i_16 : dX G (uF S 231 24 ((S.1 231 24) + 1)) := hI.F (i := 24) (show (-2147483648) ≤ (S.1 231 24) + 1 ∧ (S.1 231 24) + 1 ≤ 2147483647 from ⟨by omega, by omega⟩)
      have lk_17 : (uF S 231 24 ((S.1 231 24) + 1)).1 231 20 = S.1 231 20 := uF_ne (fun h => absurd h.2 (by decide))
      have lk_18 : (uF S 231 24 ((S.1 231 24) + 1)).1 231 24 = (S.1 231 24) + 1 := uF_on
      exact sVret Cx hr hlk hW hL ⟨i_16, F_14, g_15, ⟨(fun h => by have e8 := (show (uF S 231 24 ((S.1 231 24) + 1)).1 231 20 = S.1 231 20 from uF_ne (fun h => absurd h.2 (by decide))); have e7 := (show (uF S 231 24 ((S.1 231 24) + 1)).1 231 24 = (S.1 231 24) + 1 from uF_on); have n8 := hcu (by omega); have n9 := hE.nx (pz := pz) (hcu (by omega)) (by omega); exact ⟨by omega, (by rw [e7]; (try rw [hc]); exact if_pos ((hsg K V T _).1 (by omega) (by omega) (by omega))), by omega, by omega, by omega⟩), (fun h h9 => by have e9 := (show (uF S 231 24 ((S.1 231 24) + 1)).1 231 20 = S.1 231 20 from uF_ne (fun h => absurd h.2 (by decide))); exfalso; omega)⟩⟩ dX12_wantKind_39
    · refine lv_aload_n hx hb dX12_wantKind_20 rfl (lv_at hl 0 rfl) ?_
      refine lv_iconst (v := iv 1) hx hb dX12_wantKind_21 (by decide) ?_
      refine lv_aload_n hx hb dX12_wantKind_22 rfl (lv_at hl 0 rfl) ?_
      refine g_X12_315 Cx hW (k := 231) (by decide) rfl (v := S.1 231 24) rfl dX12_wantKind_23 ?_
      refine sBv (sV (As := [.int (iv 1), .int (iv (S.1 231 24))]) (rest := []) (k := 231) Cx (s_X12_wrong l G S (cd := 1) (tk := S.1 231 24) hI (by omega) (by omega)) (c_X12_321 Cx rfl rfl (rmk_ok (by omega) (by decide))) hW (by decide) rfl rfl rfl hl.1 rfl (Nat.le_of_ble_eq_true rfl) dX12_wantKind_26 ⟨Nat.le_of_ble_eq_true rfl, Nat.le_of_ble_eq_true rfl⟩) hL (fun u_19 H locs k_20 hW hL => ?_)
      obtain ⟨iu_19, fu_19, gu_19, xu_19⟩ := k_20
      have F_21 := (Fr.rf : Fr S S (pl [231])).trans fu_19
      have g_22 : FF S u_19 (fl [20, 21, 24]) := FF.trans FF.rf (FF.to gu_19 (fl_sub (by decide)))
      refine lv_aload_n hx hb dX12_wantKind_29 rfl (lv_at hl 0 rfl) ?_
      refine lv_dup hx hb dX12_wantKind_30 rfl ?_
      refine g_X12_315 Cx hW (k := 231) (by decide) rfl (v := S.1 231 24) (gu_19 24 rfl) dX12_wantKind_31 ?_
      refine lv_iconst (v := iv 1) hx hb dX12_wantKind_34 (by decide) ?_
      refine r_iadd hx hb dX12_wantKind_35 ?_
      refine p_X12_315 Cx hW hL (k := 231) (by decide) rfl dX12_wantKind_36 (fun H locs hW hL => ?_)
      have F_23 : Fr S (uF u_19 231 24 ((S.1 231 24) + 1)) (pl [231]) := F_21.F rfl
      have g_24 : FF S (uF u_19 231 24 ((S.1 231 24) + 1)) (fl [20, 21, 24]) := FF.F g_22 rfl
      have i_25 : dX G (uF u_19 231 24 ((S.1 231 24) + 1)) := iu_19.F (i := 24) (show (-2147483648) ≤ (S.1 231 24) + 1 ∧ (S.1 231 24) + 1 ≤ 2147483647 from ⟨by omega, by omega⟩)
      have q_26 : (-2147483648) ≤ u_19.1 231 20 ∧ u_19.1 231 20 ≤ 2147483647 := iu_19.fi 20
      have lk_27 : (uF u_19 231 24 ((S.1 231 24) + 1)).1 231 20 = u_19.1 231 20 := uF_ne (fun h => absurd h.2 (by decide))
      have lk_28 : (uF u_19 231 24 ((S.1 231 24) + 1)).1 231 24 = (S.1 231 24) + 1 := uF_on
      exact sVret Cx hr hlk hW hL ⟨i_25, F_23, g_24, ⟨(fun h => absurd h (by have e9 := (show (uF u_19 231 24 ((S.1 231 24) + 1)).1 231 20 = u_19.1 231 20 from uF_ne (fun h => absurd h.2 (by decide))); have a9 := xu_19; omega)), (fun h h9 => if_neg (fun z => absurd ((hsg K V T pz).2 z) (by omega)))⟩⟩ dX12_wantKind_39

set_option maxRecDepth 100000 in
set_option maxHeartbeats 4000000 in
theorem c_X12_indexes (l : Launch) (G : sG) (S : sS) {K V : Int → Int} {T pz : Int}  (hI : dX G S) (hK : S.2.1 244 = K) (hV : S.2.1 247 = V) (hE : gE K T) (hc : S.1 231 24 = pz) (hcu : Hd (S.1 231 20 = 0 → 0 ≤ pz ∧ pz ≤ T - 1)) : Met l yX12_indexes (.code yX12_indexes cX12_indexes 1 none :: tb) (rmk 3 0 0) (sPc G 294 S [.ref (G.2.2.1 + 231)]) (sQv G 294 (fun u => dX G u ∧ Fr S u (pl [231]) ∧ FF S u (fl [20, 21, 24]) ∧ (Hd (u.1 231 20 = 0 → S.1 231 20 = 0 ∧ ogI (kr K V T) pz = some (u.1 231 24) ∧ pz ≤ u.1 231 24 ∧ 0 ≤ u.1 231 24 ∧ u.1 231 24 ≤ T - 1) ∧ Hd (S.1 231 20 = 0 → u.1 231 20 ≠ 0 → ogI (kr K V T) pz = none)))) 0 0 (sF G) := by
  refine sEnter (by decide) (Nat.le_of_ble_eq_true rfl) ?_
  intro p e s m args below meth c Cx hr hlk hnm hW ls hl
  have Cx : sC G p m c cX12_indexes 1 s args RX12 := Cx
  obtain ⟨hx, hb, hml, hown, hts⟩ := id Cx.1
  have hL : sL G [] := sL_nil
  have hl : lv_has ls 1 [(0, .ref (G.2.2.1 + 231))] := hl
  have hW0 := hW
  have hE1 := hE.1
  refine lv_aload_n hx hb dX12_indexes_0 rfl (lv_at hl 0 rfl) ?_
  have q_1 : (-2147483648) ≤ S.1 231 20 ∧ S.1 231 20 ≤ 2147483647 := hI.fi 20
  refine g_X12_270 Cx hW (k := 231) (by decide) rfl (v := S.1 231 20) rfl dX12_indexes_1 ?_
  refine r_if_ne (tgt := 16) hx hb ⟨(by omega), (by omega)⟩ dX12_indexes_4 (by decide) (fun c_2 => ?_) (fun c_2 => ?_)
  · have q_3 : (-2147483648) ≤ S.1 231 24 ∧ S.1 231 24 ≤ 2147483647 := hI.fi 24
    exact sVret Cx hr hlk hW hL ⟨hI, (Fr.rf : Fr S S (pl [231])), FF.rf, ⟨(fun h => by have e8 := (show S.1 231 20 = S.1 231 20 from rfl); have e7 := (show S.1 231 24 = S.1 231 24 from rfl); first | (exfalso; omega) | (have b0 := hcu (by omega); exact ⟨(by omega), (by rw [e7]; (try rw [hc]); simp only [ogI, reduceIte, Option.bind_some, Option.bind_none, or_true, true_or, or_self, or_false, false_or, Int.reduceEq, Option.some.injEq, reduceCtorEq]), by omega, by omega, by omega⟩)), (fun h h9 => by have e8 := (show S.1 231 20 = S.1 231 20 from rfl); first | (exfalso; omega) | (exfalso; omega))⟩⟩ dX12_indexes_16
  · have b_4 := hcu (by have e9 := (show S.1 231 20 = S.1 231 20 from rfl); omega)
    refine lv_aload_n hx hb dX12_indexes_7 rfl (lv_at hl 0 rfl) ?_
    refine lv_bipush (v := iv 91) hx hb dX12_indexes_8 (by decide) ?_
    have q_5 : (-2147483648) ≤ S.1 231 24 ∧ S.1 231 24 ≤ 2147483647 := hI.fi 24
    refine sBi (sV (As := [.int (iv 91)]) (rest := []) (k := 231) Cx (s_X12_isSign l G S (sv := 91) (K := K) (V := V) (pz := pz) hI (by omega) hK hV (by omega) (by omega)) (c_X12_318 Cx rfl rfl (rmk_ok (by omega) (by decide))) hW (by decide) rfl rfl rfl hl.1 rfl (Nat.le_of_ble_eq_true rfl) dX12_indexes_10 ⟨Nat.le_of_ble_eq_true rfl, Nat.le_of_ble_eq_true rfl⟩) hL (fun r_8 u_6 H locs k_7 hW hL => ?_)
    obtain ⟨eu_6, xu_6⟩ := k_7
    rw [eu_6] at hW
    refine r_if_ne (tgt := 17) hx hb ⟨(by omega), (by omega)⟩ dX12_indexes_13 (by decide) (fun c_9 => ?_) (fun c_9 => ?_)
    · refine lv_aload_n hx hb dX12_indexes_17 rfl (lv_at hl 0 rfl) ?_
      refine lv_dup hx hb dX12_indexes_18 rfl ?_
      refine g_X12_315 Cx hW (k := 231) (by decide) rfl (v := S.1 231 24) rfl dX12_indexes_19 ?_
      have n_10 := hE.nx (pz := pz) (by omega) (by have z := (xu_6.2.1 (by omega)); unfold gS at z; omega)
      refine lv_iconst (v := iv 1) hx hb dX12_indexes_22 (by decide) ?_
      refine r_iadd hx hb dX12_indexes_23 ?_
      refine p_X12_315 Cx hW hL (k := 231) (by decide) rfl dX12_indexes_24 (fun H locs hW hL => ?_)
      have F_11 : Fr S (uF S 231 24 ((S.1 231 24) + 1)) (pl [231]) := (Fr.rf : Fr S S (pl [231])).F rfl
      have g_12 : FF S (uF S 231 24 ((S.1 231 24) + 1)) (fl [20, 21, 24]) := FF.F FF.rf rfl
      have i_13 : dX G (uF S 231 24 ((S.1 231 24) + 1)) := hI.F (i := 24) (show (-2147483648) ≤ (S.1 231 24) + 1 ∧ (S.1 231 24) + 1 ≤ 2147483647 from ⟨by omega, by omega⟩)
      refine lv_aload_n hx hb dX12_indexes_27 rfl (lv_at hl 0 rfl) ?_
      refine lv_iconst (v := iv 1) hx hb dX12_indexes_28 (by decide) ?_
      have lk_14 : (uF S 231 24 ((S.1 231 24) + 1)).1 231 24 = (S.1 231 24) + 1 := uF_on
      have lk_15 : (uF S 231 24 ((S.1 231 24) + 1)).1 231 20 = S.1 231 20 := uF_ne (fun h => absurd h.2 (by decide))
      refine sBv (sV (As := [.int (iv 1)]) (rest := []) (k := 231) Cx (c_X12_wantKind l G (uF S 231 24 ((S.1 231 24) + 1)) (k := 1) (K := K) (V := V) (T := T) (pz := (pz) + 1) (cd := 2) i_13 (by omega) kn_1 ((funext fun j => uF_a : (uF S 231 24 ((S.1 231 24) + 1)).2.1 244 = S.2.1 244).trans hK) ((funext fun j => uF_a : (uF S 231 24 ((S.1 231 24) + 1)).2.1 247 = S.2.1 247).trans hV) hE (by omega) (fun h => by have e8 := (show (uF S 231 24 ((S.1 231 24) + 1)).1 231 20 = S.1 231 20 from uF_ne (fun h => absurd h.2 (by decide))); have a9 := hcu (by have e9 := (show (uF S 231 24 ((S.1 231 24) + 1)).1 231 20 = S.1 231 20 from uF_ne (fun h => absurd h.2 (by decide))); omega); omega)) (c_X12_328 Cx rfl rfl (rmk_ok (by omega) (by decide))) hW (by decide) rfl rfl rfl hl.1 rfl (Nat.le_of_ble_eq_true rfl) dX12_indexes_29 ⟨Nat.le_of_ble_eq_true rfl, Nat.le_of_ble_eq_true rfl⟩) hL (fun u_16 H locs k_17 hW hL => ?_)
      obtain ⟨iu_16, fu_16, gu_16, xu_16⟩ := k_17
      have F_18 := F_11.trans fu_16
      have g_19 : FF S u_16 (fl [20, 21, 24]) := FF.trans g_12 (FF.to gu_16 (fl_sub (by decide)))
      obtain ⟨xu_16, yu_16⟩ := xu_16
      refine lv_aload_n hx hb dX12_indexes_32 rfl (lv_at hl 0 rfl) ?_
      have q_20 : (-2147483648) ≤ u_16.1 231 20 ∧ u_16.1 231 20 ≤ 2147483647 := iu_16.fi 20
      refine g_X12_270 Cx hW (k := 231) (by decide) rfl (v := u_16.1 231 20) rfl dX12_indexes_33 ?_
      refine r_if_ne (tgt := 63) hx hb ⟨(by omega), (by omega)⟩ dX12_indexes_36 (by decide) (fun c_21 => ?_) (fun c_21 => ?_)
      · refine lv_aload_n hx hb dX12_indexes_63 rfl (lv_at hl 0 rfl) ?_
        refine lv_bipush (v := iv 93) hx hb dX12_indexes_64 (by decide) ?_
        have q_22 : (-2147483648) ≤ u_16.1 231 24 ∧ u_16.1 231 24 ≤ 2147483647 := iu_16.fi 24
        refine sBv (sV (As := [.int (iv 93)]) (rest := []) (k := 231) Cx (c_X12_want l G u_16 (sv := 93) (K := K) (V := V) (T := T) (pz := u_16.1 231 24) (cd := 18) iu_16 (by omega) osg_93 ((funext fun j => ((fu_16 244 rfl).2.1 j).trans (uF_a) : u_16.2.1 244 = S.2.1 244).trans hK) ((funext fun j => ((fu_16 247 rfl).2.1 j).trans (uF_a) : u_16.2.1 247 = S.2.1 247).trans hV) hE (by omega) (fun h => by have e8 := (show u_16.1 231 20 = u_16.1 231 20 from rfl); have a9 := xu_16 (by have e9 := (show u_16.1 231 20 = u_16.1 231 20 from rfl); omega); omega)) (c_X12_331 Cx rfl rfl (rmk_ok (by omega) (by decide))) hW (by decide) rfl rfl rfl hl.1 rfl (Nat.le_of_ble_eq_true rfl) dX12_indexes_66 ⟨Nat.le_of_ble_eq_true rfl, Nat.le_of_ble_eq_true rfl⟩) hL (fun u_23 H locs k_24 hW hL => ?_)
        obtain ⟨iu_23, fu_23, gu_23, xu_23⟩ := k_24
        have F_25 := F_18.trans fu_23
        have g_26 : FF S u_23 (fl [20, 21, 24]) := FF.trans g_19 (FF.to gu_23 (fl_sub (by decide)))
        obtain ⟨xu_23, yu_23⟩ := xu_23
        have q_27 : (-2147483648) ≤ u_23.1 231 20 ∧ u_23.1 231 20 ≤ 2147483647 := iu_23.fi 20
        have q_28 : (-2147483648) ≤ u_23.1 231 24 ∧ u_23.1 231 24 ≤ 2147483647 := iu_23.fi 24
        exact sVret Cx hr hlk hW hL ⟨iu_23, F_25, g_26, ⟨(fun h => by have e8 := (show u_23.1 231 20 = u_23.1 231 20 from rfl); have e7 := (show u_23.1 231 24 = u_23.1 231 24 from rfl); have au_23 := xu_23 (by have e9 := (show u_23.1 231 20 = u_23.1 231 20 from rfl); omega); have au_16 := xu_16 (by omega); first | (exfalso; omega) | (have tu_6 : kr K V T (pz) = 17 := (osg_91 K V T _).1 (by omega) (by omega) (xu_6.2.1 (by omega)); exact ⟨(by omega), (by rw [e7]; (try rw [hc]); simp only [ogI, tu_6, au_16.2.1, au_23.2.1, reduceIte, Option.bind_some, Option.bind_none, or_true, true_or, or_self, or_false, false_or, Int.reduceEq, Option.some.injEq, reduceCtorEq]), by omega, by omega, by omega⟩)), (fun h h9 => by have e8 := (show u_23.1 231 20 = u_23.1 231 20 from rfl); first | (exfalso; omega) | (have tu_6 : kr K V T (pz) = 17 := (osg_91 K V T _).1 (by omega) (by omega) (xu_6.2.1 (by omega)); by_cases qu_16 : u_16.1 231 20 = 0; (have au_16 := xu_16 qu_16; first | (exfalso; omega) | (by_cases qu_23 : u_23.1 231 20 = 0; (have au_23 := xu_23 qu_23; first | (exfalso; omega) | (exfalso; omega)); (have bu_23 := yu_23 (by omega) qu_23; simp only [ogI, tu_6, au_16.2.1, bu_23, reduceIte, Option.bind_some, Option.bind_none, or_true, true_or, or_self, or_false, false_or, Int.reduceEq, Option.some.injEq, reduceCtorEq]))); (have bu_16 := yu_16 (by omega) qu_16; simp only [ogI, tu_6, bu_16, reduceIte, Option.bind_some, Option.bind_none, or_true, true_or, or_self, or_false, false_or, Int.reduceEq, Option.some.injEq, reduceCtorEq])))⟩⟩ dX12_indexes_69
      · have b_29 := xu_16 (by have e9 := (show u_16.1 231 20 = u_16.1 231 20 from rfl); omega)
        refine lv_aload_n hx hb dX12_indexes_39 rfl (lv_at hl 0 rfl) ?_
        refine lv_bipush (v := iv 44) hx hb dX12_indexes_40 (by decide) ?_
        have q_30 : (-2147483648) ≤ u_16.1 231 24 ∧ u_16.1 231 24 ≤ 2147483647 := iu_16.fi 24
        refine sBi (sV (As := [.int (iv 44)]) (rest := []) (k := 231) Cx (s_X12_isSign l G u_16 (sv := 44) (K := K) (V := V) (pz := u_16.1 231 24) iu_16 (by omega) ((funext fun j => ((fu_16 244 rfl).2.1 j).trans (uF_a) : u_16.2.1 244 = S.2.1 244).trans hK) ((funext fun j => ((fu_16 247 rfl).2.1 j).trans (uF_a) : u_16.2.1 247 = S.2.1 247).trans hV) (by omega) (by omega)) (c_X12_318 Cx rfl rfl (rmk_ok (by omega) (by decide))) hW (by decide) rfl rfl rfl hl.1 rfl (Nat.le_of_ble_eq_true rfl) dX12_indexes_42 ⟨Nat.le_of_ble_eq_true rfl, Nat.le_of_ble_eq_true rfl⟩) hL (fun r_33 u_31 H locs k_32 hW hL => ?_)
        obtain ⟨eu_31, xu_31⟩ := k_32
        rw [eu_31] at hW
        refine r_if_eq (tgt := 63) hx hb ⟨(by omega), (by omega)⟩ dX12_indexes_45 (by decide) (fun c_34 => ?_) (fun c_34 => ?_)
        · refine lv_aload_n hx hb dX12_indexes_63 rfl (lv_at hl 0 rfl) ?_
          refine lv_bipush (v := iv 93) hx hb dX12_indexes_64 (by decide) ?_
          refine sBv (sV (As := [.int (iv 93)]) (rest := []) (k := 231) Cx (c_X12_want l G u_16 (sv := 93) (K := K) (V := V) (T := T) (pz := u_16.1 231 24) (cd := 18) iu_16 (by omega) osg_93 ((funext fun j => ((fu_16 244 rfl).2.1 j).trans (uF_a) : u_16.2.1 244 = S.2.1 244).trans hK) ((funext fun j => ((fu_16 247 rfl).2.1 j).trans (uF_a) : u_16.2.1 247 = S.2.1 247).trans hV) hE (by omega) (fun h => by have e8 := (show u_16.1 231 20 = u_16.1 231 20 from rfl); have a9 := xu_16 (by have e9 := (show u_16.1 231 20 = u_16.1 231 20 from rfl); omega); omega)) (c_X12_331 Cx rfl rfl (rmk_ok (by omega) (by decide))) hW (by decide) rfl rfl rfl hl.1 rfl (Nat.le_of_ble_eq_true rfl) dX12_indexes_66 ⟨Nat.le_of_ble_eq_true rfl, Nat.le_of_ble_eq_true rfl⟩) hL (fun u_35 H locs k_36 hW hL => ?_)
          obtain ⟨iu_35, fu_35, gu_35, xu_35⟩ := k_36
          have F_37 := F_18.trans fu_35
          have g_38 : FF S u_35 (fl [20, 21, 24]) := FF.trans g_19 (FF.to gu_35 (fl_sub (by decide)))
          obtain ⟨xu_35, yu_35⟩ := xu_35
          have q_39 : (-2147483648) ≤ u_35.1 231 20 ∧ u_35.1 231 20 ≤ 2147483647 := iu_35.fi 20
          have q_40 : (-2147483648) ≤ u_35.1 231 24 ∧ u_35.1 231 24 ≤ 2147483647 := iu_35.fi 24
          exact sVret Cx hr hlk hW hL ⟨iu_35, F_37, g_38, ⟨(fun h => by have e8 := (show u_35.1 231 20 = u_35.1 231 20 from rfl); have e7 := (show u_35.1 231 24 = u_35.1 231 24 from rfl); have au_35 := xu_35 (by have e9 := (show u_35.1 231 20 = u_35.1 231 20 from rfl); omega); have au_16 := xu_16 (by omega); first | (exfalso; omega) | (have tu_6 : kr K V T (pz) = 17 := (osg_91 K V T _).1 (by omega) (by omega) (xu_6.2.1 (by omega)); have tu_31 : ¬ kr K V T (u_16.1 231 24) = 16 := fun z => xu_31.2.2 (by omega) ((osg_44 K V T _).2 z); exact ⟨(by omega), (by rw [e7]; (try rw [hc]); simp only [ogI, tu_6, tu_31, au_16.2.1, au_35.2.1, reduceIte, Option.bind_some, Option.bind_none, or_true, true_or, or_self, or_false, false_or, Int.reduceEq, Option.some.injEq, reduceCtorEq]), by omega, by omega, by omega⟩)), (fun h h9 => by have e8 := (show u_35.1 231 20 = u_35.1 231 20 from rfl); first | (exfalso; omega) | (have tu_6 : kr K V T (pz) = 17 := (osg_91 K V T _).1 (by omega) (by omega) (xu_6.2.1 (by omega)); have tu_31 : ¬ kr K V T (u_16.1 231 24) = 16 := fun z => xu_31.2.2 (by omega) ((osg_44 K V T _).2 z); by_cases qu_16 : u_16.1 231 20 = 0; (have au_16 := xu_16 qu_16; first | (exfalso; omega) | (by_cases qu_35 : u_35.1 231 20 = 0; (have au_35 := xu_35 qu_35; first | (exfalso; omega) | (exfalso; omega)); (have bu_35 := yu_35 (by omega) qu_35; simp only [ogI, tu_6, tu_31, au_16.2.1, bu_35, reduceIte, Option.bind_some, Option.bind_none, or_true, true_or, or_self, or_false, false_or, Int.reduceEq, Option.some.injEq, reduceCtorEq]))); (have bu_16 := yu_16 (by omega) qu_16; simp only [ogI, tu_6, tu_31, bu_16, reduceIte, Option.bind_some, Option.bind_none, or_true, true_or, or_self, or_false, false_or, Int.reduceEq, Option.some.injEq, reduceCtorEq])))⟩⟩ dX12_indexes_69
        · refine lv_aload_n hx hb dX12_indexes_48 rfl (lv_at hl 0 rfl) ?_
          refine lv_dup hx hb dX12_indexes_49 rfl ?_
          refine g_X12_315 Cx hW (k := 231) (by decide) rfl (v := u_16.1 231 24) rfl dX12_indexes_50 ?_
          have n_41 := hE.nx (pz := u_16.1 231 24) (by omega) (by have z := (xu_31.2.1 (by omega)); unfold gS at z; omega)
          refine lv_iconst (v := iv 1) hx hb dX12_indexes_53 (by decide) ?_
          refine r_iadd hx hb dX12_indexes_54 ?_
          refine p_X12_315 Cx hW hL (k := 231) (by decide) rfl dX12_indexes_55 (fun H locs hW hL => ?_)
          have F_42 : Fr S (uF u_16 231 24 ((u_16.1 231 24) + 1)) (pl [231]) := F_18.F rfl
          have g_43 : FF S (uF u_16 231 24 ((u_16.1 231 24) + 1)) (fl [20, 21, 24]) := FF.F g_19 rfl
          have i_44 : dX G (uF u_16 231 24 ((u_16.1 231 24) + 1)) := iu_16.F (i := 24) (show (-2147483648) ≤ (u_16.1 231 24) + 1 ∧ (u_16.1 231 24) + 1 ≤ 2147483647 from ⟨by omega, by omega⟩)
          refine lv_aload_n hx hb dX12_indexes_58 rfl (lv_at hl 0 rfl) ?_
          refine lv_iconst (v := iv 1) hx hb dX12_indexes_59 (by decide) ?_
          have lk_45 : (uF u_16 231 24 ((u_16.1 231 24) + 1)).1 231 24 = (u_16.1 231 24) + 1 := uF_on
          have lk_46 : (uF u_16 231 24 ((u_16.1 231 24) + 1)).1 231 20 = u_16.1 231 20 := uF_ne (fun h => absurd h.2 (by decide))
          refine sBv (sV (As := [.int (iv 1)]) (rest := []) (k := 231) Cx (c_X12_wantKind l G (uF u_16 231 24 ((u_16.1 231 24) + 1)) (k := 1) (K := K) (V := V) (T := T) (pz := (u_16.1 231 24) + 1) (cd := 2) i_44 (by omega) kn_1 ((funext fun j => (uF_a).trans (((fu_16 244 rfl).2.1 j).trans (uF_a)) : (uF u_16 231 24 ((u_16.1 231 24) + 1)).2.1 244 = S.2.1 244).trans hK) ((funext fun j => (uF_a).trans (((fu_16 247 rfl).2.1 j).trans (uF_a)) : (uF u_16 231 24 ((u_16.1 231 24) + 1)).2.1 247 = S.2.1 247).trans hV) hE (by omega) (fun h => by have e8 := (show (uF u_16 231 24 ((u_16.1 231 24) + 1)).1 231 20 = u_16.1 231 20 from uF_ne (fun h => absurd h.2 (by decide))); have a9 := xu_16 (by have e9 := (show (uF u_16 231 24 ((u_16.1 231 24) + 1)).1 231 20 = u_16.1 231 20 from uF_ne (fun h => absurd h.2 (by decide))); omega); omega)) (c_X12_328 Cx rfl rfl (rmk_ok (by omega) (by decide))) hW (by decide) rfl rfl rfl hl.1 rfl (Nat.le_of_ble_eq_true rfl) dX12_indexes_60 ⟨Nat.le_of_ble_eq_true rfl, Nat.le_of_ble_eq_true rfl⟩) hL (fun u_47 H locs k_48 hW hL => ?_)
          obtain ⟨iu_47, fu_47, gu_47, xu_47⟩ := k_48
          have F_49 := F_42.trans fu_47
          have g_50 : FF S u_47 (fl [20, 21, 24]) := FF.trans g_43 (FF.to gu_47 (fl_sub (by decide)))
          obtain ⟨xu_47, yu_47⟩ := xu_47
          refine lv_aload_n hx hb dX12_indexes_63 rfl (lv_at hl 0 rfl) ?_
          refine lv_bipush (v := iv 93) hx hb dX12_indexes_64 (by decide) ?_
          have q_51 : (-2147483648) ≤ u_47.1 231 24 ∧ u_47.1 231 24 ≤ 2147483647 := iu_47.fi 24
          have q_52 : (-2147483648) ≤ u_47.1 231 20 ∧ u_47.1 231 20 ≤ 2147483647 := iu_47.fi 20
          refine sBv (sV (As := [.int (iv 93)]) (rest := []) (k := 231) Cx (c_X12_want l G u_47 (sv := 93) (K := K) (V := V) (T := T) (pz := u_47.1 231 24) (cd := 18) iu_47 (by omega) osg_93 ((funext fun j => ((fu_47 244 rfl).2.1 j).trans ((uF_a).trans (((fu_16 244 rfl).2.1 j).trans (uF_a))) : u_47.2.1 244 = S.2.1 244).trans hK) ((funext fun j => ((fu_47 247 rfl).2.1 j).trans ((uF_a).trans (((fu_16 247 rfl).2.1 j).trans (uF_a))) : u_47.2.1 247 = S.2.1 247).trans hV) hE (by omega) (fun h => by have e8 := (show u_47.1 231 20 = u_47.1 231 20 from rfl); have a9 := xu_47 (by have e9 := (show u_47.1 231 20 = u_47.1 231 20 from rfl); omega); omega)) (c_X12_331 Cx rfl rfl (rmk_ok (by omega) (by decide))) hW (by decide) rfl rfl rfl hl.1 rfl (Nat.le_of_ble_eq_true rfl) dX12_indexes_66 ⟨Nat.le_of_ble_eq_true rfl, Nat.le_of_ble_eq_true rfl⟩) hL (fun u_53 H locs k_54 hW hL => ?_)
          obtain ⟨iu_53, fu_53, gu_53, xu_53⟩ := k_54
          have F_55 := F_49.trans fu_53
          have g_56 : FF S u_53 (fl [20, 21, 24]) := FF.trans g_50 (FF.to gu_53 (fl_sub (by decide)))
          obtain ⟨xu_53, yu_53⟩ := xu_53
          have q_57 : (-2147483648) ≤ u_53.1 231 20 ∧ u_53.1 231 20 ≤ 2147483647 := iu_53.fi 20
          have q_58 : (-2147483648) ≤ u_53.1 231 24 ∧ u_53.1 231 24 ≤ 2147483647 := iu_53.fi 24
          exact sVret Cx hr hlk hW hL ⟨iu_53, F_55, g_56, ⟨(fun h => by have e8 := (show u_53.1 231 20 = u_53.1 231 20 from rfl); have e7 := (show u_53.1 231 24 = u_53.1 231 24 from rfl); have au_53 := xu_53 (by have e9 := (show u_53.1 231 20 = u_53.1 231 20 from rfl); omega); have au_47 := xu_47 (by omega); have au_16 := xu_16 (by omega); first | (exfalso; omega) | (have tu_6 : kr K V T (pz) = 17 := (osg_91 K V T _).1 (by omega) (by omega) (xu_6.2.1 (by omega)); have tu_31 : kr K V T (u_16.1 231 24) = 16 := (osg_44 K V T _).1 (by omega) (by omega) (xu_31.2.1 (by omega)); exact ⟨(by omega), (by rw [e7]; (try rw [hc]); simp only [ogI, tu_6, tu_31, au_16.2.1, au_47.2.1, au_53.2.1, reduceIte, Option.bind_some, Option.bind_none, or_true, true_or, or_self, or_false, false_or, Int.reduceEq, Option.some.injEq, reduceCtorEq]), by omega, by omega, by omega⟩)), (fun h h9 => by have e8 := (show u_53.1 231 20 = u_53.1 231 20 from rfl); first | (exfalso; omega) | (have tu_6 : kr K V T (pz) = 17 := (osg_91 K V T _).1 (by omega) (by omega) (xu_6.2.1 (by omega)); have tu_31 : kr K V T (u_16.1 231 24) = 16 := (osg_44 K V T _).1 (by omega) (by omega) (xu_31.2.1 (by omega)); by_cases qu_16 : u_16.1 231 20 = 0; (have au_16 := xu_16 qu_16; first | (exfalso; omega) | (by_cases qu_47 : u_47.1 231 20 = 0; (have au_47 := xu_47 qu_47; first | (exfalso; omega) | (by_cases qu_53 : u_53.1 231 20 = 0; (have au_53 := xu_53 qu_53; first | (exfalso; omega) | (exfalso; omega)); (have bu_53 := yu_53 (by omega) qu_53; simp only [ogI, tu_6, tu_31, au_16.2.1, au_47.2.1, bu_53, reduceIte, Option.bind_some, Option.bind_none, or_true, true_or, or_self, or_false, false_or, Int.reduceEq, Option.some.injEq, reduceCtorEq]))); (have bu_47 := yu_47 (by omega) qu_47; simp only [ogI, tu_6, tu_31, au_16.2.1, bu_47, reduceIte, Option.bind_some, Option.bind_none, or_true, true_or, or_self, or_false, false_or, Int.reduceEq, Option.some.injEq, reduceCtorEq]))); (have bu_16 := yu_16 (by omega) qu_16; simp only [ogI, tu_6, tu_31, bu_16, reduceIte, Option.bind_some, Option.bind_none, or_true, true_or, or_self, or_false, false_or, Int.reduceEq, Option.some.injEq, reduceCtorEq])))⟩⟩ dX12_indexes_69
    · exact sVret Cx hr hlk hW hL ⟨hI, (Fr.rf : Fr S S (pl [231])), FF.rf, ⟨(fun h => by have e8 := (show S.1 231 20 = S.1 231 20 from rfl); have e7 := (show S.1 231 24 = S.1 231 24 from rfl); first | (exfalso; omega) | (have b0 := hcu (by omega); have tu_6 : ¬ kr K V T (pz) = 17 := fun z => xu_6.2.2 (by omega) ((osg_91 K V T _).2 z); exact ⟨(by omega), (by rw [e7]; (try rw [hc]); simp only [ogI, tu_6, reduceIte, Option.bind_some, Option.bind_none, or_true, true_or, or_self, or_false, false_or, Int.reduceEq, Option.some.injEq, reduceCtorEq]), by omega, by omega, by omega⟩)), (fun h h9 => by have e8 := (show S.1 231 20 = S.1 231 20 from rfl); first | (exfalso; omega) | (have tu_6 : ¬ kr K V T (pz) = 17 := fun z => xu_6.2.2 (by omega) ((osg_91 K V T _).2 z); exfalso; omega))⟩⟩ dX12_indexes_16

set_option maxRecDepth 100000 in
set_option maxHeartbeats 4000000 in
theorem c_X12_valueRead (l : Launch) (G : sG) (S : sS) {K V : Int → Int} {T pz : Int}  (hI : dX G S) (hK : S.2.1 244 = K) (hV : S.2.1 247 = V) (hE : gE K T) (hc : S.1 231 24 = pz) (hcu : Hd (S.1 231 20 = 0 → 0 ≤ pz ∧ pz ≤ T - 1)) : Met l yX12_valueRead (.code yX12_valueRead cX12_valueRead 1 none :: tb) (rmk 3 0 0) (sPc G 294 S [.ref (G.2.2.1 + 231)]) (sQv G 294 (fun u => dX G u ∧ Fr S u (pl [231]) ∧ FF S u (fl [20, 21, 24]) ∧ (Hd (u.1 231 20 = 0 → S.1 231 20 = 0 ∧ ogV (kr K V T) pz = some (u.1 231 24) ∧ pz < u.1 231 24 ∧ 0 ≤ u.1 231 24 ∧ u.1 231 24 ≤ T - 1) ∧ Hd (S.1 231 20 = 0 → u.1 231 20 ≠ 0 → ogV (kr K V T) pz = none)))) 0 0 (sF G) := by
  refine sEnter (by decide) (Nat.le_of_ble_eq_true rfl) ?_
  intro p e s m args below meth c Cx hr hlk hnm hW ls hl
  have Cx : sC G p m c cX12_valueRead 1 s args RX12 := Cx
  obtain ⟨hx, hb, hml, hown, hts⟩ := id Cx.1
  have hL : sL G [] := sL_nil
  have hl : lv_has ls 1 [(0, .ref (G.2.2.1 + 231))] := hl
  have hW0 := hW
  have hE1 := hE.1
  refine lv_aload_n hx hb dX12_valueRead_0 rfl (lv_at hl 0 rfl) ?_
  have q_1 : (-2147483648) ≤ S.1 231 20 ∧ S.1 231 20 ≤ 2147483647 := hI.fi 20
  refine g_X12_270 Cx hW (k := 231) (by decide) rfl (v := S.1 231 20) rfl dX12_valueRead_1 ?_
  refine r_if_ne (tgt := 26) hx hb ⟨(by omega), (by omega)⟩ dX12_valueRead_4 (by decide) (fun c_2 => ?_) (fun c_2 => ?_)
  · refine lv_aload_n hx hb dX12_valueRead_26 rfl (lv_at hl 0 rfl) ?_
    refine lv_iconst (v := iv 2) hx hb dX12_valueRead_27 (by decide) ?_
    have q_3 : (-2147483648) ≤ S.1 231 24 ∧ S.1 231 24 ≤ 2147483647 := hI.fi 24
    refine sBv (sV (As := [.int (iv 2)]) (rest := []) (k := 231) Cx (c_X12_wantKind l G S (k := 2) (K := K) (V := V) (T := T) (pz := pz) (cd := 3) hI (by omega) kn_2 hK hV hE (by omega) (fun h => by have e8 := (show S.1 231 20 = S.1 231 20 from rfl); have a9 := hcu (by have e9 := (show S.1 231 20 = S.1 231 20 from rfl); omega); omega)) (c_X12_328 Cx rfl rfl (rmk_ok (by omega) (by decide))) hW (by decide) rfl rfl rfl hl.1 rfl (Nat.le_of_ble_eq_true rfl) dX12_valueRead_28 ⟨Nat.le_of_ble_eq_true rfl, Nat.le_of_ble_eq_true rfl⟩) hL (fun u_4 H locs k_5 hW hL => ?_)
    obtain ⟨iu_4, fu_4, gu_4, xu_4⟩ := k_5
    have F_6 := (Fr.rf : Fr S S (pl [231])).trans fu_4
    have g_7 : FF S u_4 (fl [20, 21, 24]) := FF.trans FF.rf (FF.to gu_4 (fl_sub (by decide)))
    obtain ⟨xu_4, yu_4⟩ := xu_4
    have q_8 : (-2147483648) ≤ u_4.1 231 20 ∧ u_4.1 231 20 ≤ 2147483647 := iu_4.fi 20
    have q_9 : (-2147483648) ≤ u_4.1 231 24 ∧ u_4.1 231 24 ≤ 2147483647 := iu_4.fi 24
    exact sVret Cx hr hlk hW hL ⟨iu_4, F_6, g_7, ⟨(fun h => by have e8 := (show u_4.1 231 20 = u_4.1 231 20 from rfl); have e7 := (show u_4.1 231 24 = u_4.1 231 24 from rfl); have au_4 := xu_4 (by have e9 := (show u_4.1 231 20 = u_4.1 231 20 from rfl); omega); first | (exfalso; omega) | (exact ⟨(by omega), (by rw [e7]; (try rw [hc]); simp only [ogV, au_4.2.1, reduceIte, Option.bind_some, Option.bind_none, or_true, true_or, or_self, or_false, false_or, Int.reduceEq, Option.some.injEq, reduceCtorEq]), by omega, by omega, by omega⟩)), (fun h h9 => by have e8 := (show u_4.1 231 20 = u_4.1 231 20 from rfl); first | (exfalso; omega) | (by_cases qu_4 : u_4.1 231 20 = 0; (have au_4 := xu_4 qu_4; first | (exfalso; omega) | (exfalso; omega)); (have bu_4 := yu_4 (by omega) qu_4; simp only [ogV, bu_4, reduceIte, Option.bind_some, Option.bind_none, or_true, true_or, or_self, or_false, false_or, Int.reduceEq, Option.some.injEq, reduceCtorEq])))⟩⟩ dX12_valueRead_31
  · have b_10 := hcu (by have e9 := (show S.1 231 20 = S.1 231 20 from rfl); omega)
    refine lv_aload_n hx hb dX12_valueRead_7 rfl (lv_at hl 0 rfl) ?_
    refine lv_bipush (v := iv 45) hx hb dX12_valueRead_8 (by decide) ?_
    have q_11 : (-2147483648) ≤ S.1 231 24 ∧ S.1 231 24 ≤ 2147483647 := hI.fi 24
    refine sBi (sV (As := [.int (iv 45)]) (rest := []) (k := 231) Cx (s_X12_isSign l G S (sv := 45) (K := K) (V := V) (pz := pz) hI (by omega) hK hV (by omega) (by omega)) (c_X12_318 Cx rfl rfl (rmk_ok (by omega) (by decide))) hW (by decide) rfl rfl rfl hl.1 rfl (Nat.le_of_ble_eq_true rfl) dX12_valueRead_10 ⟨Nat.le_of_ble_eq_true rfl, Nat.le_of_ble_eq_true rfl⟩) hL (fun r_14 u_12 H locs k_13 hW hL => ?_)
    obtain ⟨eu_12, xu_12⟩ := k_13
    rw [eu_12] at hW
    refine r_if_eq (tgt := 26) hx hb ⟨(by omega), (by omega)⟩ dX12_valueRead_13 (by decide) (fun c_15 => ?_) (fun c_15 => ?_)
    · refine lv_aload_n hx hb dX12_valueRead_26 rfl (lv_at hl 0 rfl) ?_
      refine lv_iconst (v := iv 2) hx hb dX12_valueRead_27 (by decide) ?_
      refine sBv (sV (As := [.int (iv 2)]) (rest := []) (k := 231) Cx (c_X12_wantKind l G S (k := 2) (K := K) (V := V) (T := T) (pz := pz) (cd := 3) hI (by omega) kn_2 hK hV hE (by omega) (fun h => by have e8 := (show S.1 231 20 = S.1 231 20 from rfl); have a9 := hcu (by have e9 := (show S.1 231 20 = S.1 231 20 from rfl); omega); omega)) (c_X12_328 Cx rfl rfl (rmk_ok (by omega) (by decide))) hW (by decide) rfl rfl rfl hl.1 rfl (Nat.le_of_ble_eq_true rfl) dX12_valueRead_28 ⟨Nat.le_of_ble_eq_true rfl, Nat.le_of_ble_eq_true rfl⟩) hL (fun u_16 H locs k_17 hW hL => ?_)
      obtain ⟨iu_16, fu_16, gu_16, xu_16⟩ := k_17
      have F_18 := (Fr.rf : Fr S S (pl [231])).trans fu_16
      have g_19 : FF S u_16 (fl [20, 21, 24]) := FF.trans FF.rf (FF.to gu_16 (fl_sub (by decide)))
      obtain ⟨xu_16, yu_16⟩ := xu_16
      have q_20 : (-2147483648) ≤ u_16.1 231 20 ∧ u_16.1 231 20 ≤ 2147483647 := iu_16.fi 20
      have q_21 : (-2147483648) ≤ u_16.1 231 24 ∧ u_16.1 231 24 ≤ 2147483647 := iu_16.fi 24
      exact sVret Cx hr hlk hW hL ⟨iu_16, F_18, g_19, ⟨(fun h => by have e8 := (show u_16.1 231 20 = u_16.1 231 20 from rfl); have e7 := (show u_16.1 231 24 = u_16.1 231 24 from rfl); have au_16 := xu_16 (by have e9 := (show u_16.1 231 20 = u_16.1 231 20 from rfl); omega); first | (exfalso; omega) | (have tu_12 : ¬ kr K V T (pz) = 22 := fun z => xu_12.2.2 (by omega) ((osg_45 K V T _).2 z); exact ⟨(by omega), (by rw [e7]; (try rw [hc]); simp only [ogV, tu_12, au_16.2.1, reduceIte, Option.bind_some, Option.bind_none, or_true, true_or, or_self, or_false, false_or, Int.reduceEq, Option.some.injEq, reduceCtorEq]), by omega, by omega, by omega⟩)), (fun h h9 => by have e8 := (show u_16.1 231 20 = u_16.1 231 20 from rfl); first | (exfalso; omega) | (have tu_12 : ¬ kr K V T (pz) = 22 := fun z => xu_12.2.2 (by omega) ((osg_45 K V T _).2 z); by_cases qu_16 : u_16.1 231 20 = 0; (have au_16 := xu_16 qu_16; first | (exfalso; omega) | (exfalso; omega)); (have bu_16 := yu_16 (by omega) qu_16; simp only [ogV, tu_12, bu_16, reduceIte, Option.bind_some, Option.bind_none, or_true, true_or, or_self, or_false, false_or, Int.reduceEq, Option.some.injEq, reduceCtorEq])))⟩⟩ dX12_valueRead_31
    · refine lv_aload_n hx hb dX12_valueRead_16 rfl (lv_at hl 0 rfl) ?_
      refine lv_dup hx hb dX12_valueRead_17 rfl ?_
      refine g_X12_315 Cx hW (k := 231) (by decide) rfl (v := S.1 231 24) rfl dX12_valueRead_18 ?_
      have n_22 := hE.nx (pz := pz) (by omega) (by have z := (xu_12.2.1 (by omega)); unfold gS at z; omega)
      refine lv_iconst (v := iv 1) hx hb dX12_valueRead_21 (by decide) ?_
      refine r_iadd hx hb dX12_valueRead_22 ?_
      refine p_X12_315 Cx hW hL (k := 231) (by decide) rfl dX12_valueRead_23 (fun H locs hW hL => ?_)
      have F_23 : Fr S (uF S 231 24 ((S.1 231 24) + 1)) (pl [231]) := (Fr.rf : Fr S S (pl [231])).F rfl
      have g_24 : FF S (uF S 231 24 ((S.1 231 24) + 1)) (fl [20, 21, 24]) := FF.F FF.rf rfl
      have i_25 : dX G (uF S 231 24 ((S.1 231 24) + 1)) := hI.F (i := 24) (show (-2147483648) ≤ (S.1 231 24) + 1 ∧ (S.1 231 24) + 1 ≤ 2147483647 from ⟨by omega, by omega⟩)
      refine lv_aload_n hx hb dX12_valueRead_26 rfl (lv_at hl 0 rfl) ?_
      refine lv_iconst (v := iv 2) hx hb dX12_valueRead_27 (by decide) ?_
      have lk_26 : (uF S 231 24 ((S.1 231 24) + 1)).1 231 24 = (S.1 231 24) + 1 := uF_on
      have lk_27 : (uF S 231 24 ((S.1 231 24) + 1)).1 231 20 = S.1 231 20 := uF_ne (fun h => absurd h.2 (by decide))
      refine sBv (sV (As := [.int (iv 2)]) (rest := []) (k := 231) Cx (c_X12_wantKind l G (uF S 231 24 ((S.1 231 24) + 1)) (k := 2) (K := K) (V := V) (T := T) (pz := (pz) + 1) (cd := 3) i_25 (by omega) kn_2 ((funext fun j => uF_a : (uF S 231 24 ((S.1 231 24) + 1)).2.1 244 = S.2.1 244).trans hK) ((funext fun j => uF_a : (uF S 231 24 ((S.1 231 24) + 1)).2.1 247 = S.2.1 247).trans hV) hE (by omega) (fun h => by have e8 := (show (uF S 231 24 ((S.1 231 24) + 1)).1 231 20 = S.1 231 20 from uF_ne (fun h => absurd h.2 (by decide))); have a9 := hcu (by have e9 := (show (uF S 231 24 ((S.1 231 24) + 1)).1 231 20 = S.1 231 20 from uF_ne (fun h => absurd h.2 (by decide))); omega); omega)) (c_X12_328 Cx rfl rfl (rmk_ok (by omega) (by decide))) hW (by decide) rfl rfl rfl hl.1 rfl (Nat.le_of_ble_eq_true rfl) dX12_valueRead_28 ⟨Nat.le_of_ble_eq_true rfl, Nat.le_of_ble_eq_true rfl⟩) hL (fun u_28 H locs k_29 hW hL => ?_)
      obtain ⟨iu_28, fu_28, gu_28, xu_28⟩ := k_29
      have F_30 := F_23.trans fu_28
      have g_31 : FF S u_28 (fl [20, 21, 24]) := FF.trans g_24 (FF.to gu_28 (fl_sub (by decide)))
      obtain ⟨xu_28, yu_28⟩ := xu_28
      have q_32 : (-2147483648) ≤ u_28.1 231 20 ∧ u_28.1 231 20 ≤ 2147483647 := iu_28.fi 20
      have q_33 : (-2147483648) ≤ u_28.1 231 24 ∧ u_28.1 231 24 ≤ 2147483647 := iu_28.fi 24
      exact sVret Cx hr hlk hW hL ⟨iu_28, F_30, g_31, ⟨(fun h => by have e8 := (show u_28.1 231 20 = u_28.1 231 20 from rfl); have e7 := (show u_28.1 231 24 = u_28.1 231 24 from rfl); have au_28 := xu_28 (by have e9 := (show u_28.1 231 20 = u_28.1 231 20 from rfl); omega); first | (exfalso; omega) | (have tu_12 : kr K V T (pz) = 22 := (osg_45 K V T _).1 (by omega) (by omega) (xu_12.2.1 (by omega)); exact ⟨(by omega), (by rw [e7]; (try rw [hc]); simp only [ogV, tu_12, au_28.2.1, reduceIte, Option.bind_some, Option.bind_none, or_true, true_or, or_self, or_false, false_or, Int.reduceEq, Option.some.injEq, reduceCtorEq]), by omega, by omega, by omega⟩)), (fun h h9 => by have e8 := (show u_28.1 231 20 = u_28.1 231 20 from rfl); first | (exfalso; omega) | (have tu_12 : kr K V T (pz) = 22 := (osg_45 K V T _).1 (by omega) (by omega) (xu_12.2.1 (by omega)); by_cases qu_28 : u_28.1 231 20 = 0; (have au_28 := xu_28 qu_28; first | (exfalso; omega) | (exfalso; omega)); (have bu_28 := yu_28 (by omega) qu_28; simp only [ogV, tu_12, bu_28, reduceIte, Option.bind_some, Option.bind_none, or_true, true_or, or_self, or_false, false_or, Int.reduceEq, Option.some.injEq, reduceCtorEq])))⟩⟩ dX12_valueRead_31

set_option maxRecDepth 100000 in
set_option maxHeartbeats 4000000 in
theorem c_X12_indexRead (l : Launch) (G : sG) (S : sS) {K V : Int → Int} {T pz : Int}  (hI : dX G S) (hK : S.2.1 244 = K) (hV : S.2.1 247 = V) (hE : gE K T) (hc : S.1 231 24 = pz) (hcu : Hd (S.1 231 20 = 0 → 0 ≤ pz ∧ pz ≤ T - 1)) : Met l yX12_indexRead (.code yX12_indexRead cX12_indexRead 1 none :: tb) (rmk 3 0 0) (sPc G 294 S [.ref (G.2.2.1 + 231)]) (sQv G 294 (fun u => dX G u ∧ Fr S u (pl [231]) ∧ FF S u (fl [20, 21, 24]) ∧ (Hd (u.1 231 20 = 0 → S.1 231 20 = 0 ∧ ogX (kr K V T) pz = some (u.1 231 24) ∧ pz < u.1 231 24 ∧ 0 ≤ u.1 231 24 ∧ u.1 231 24 ≤ T - 1) ∧ Hd (S.1 231 20 = 0 → u.1 231 20 ≠ 0 → ogX (kr K V T) pz = none)))) 0 0 (sF G) := by
  refine sEnter (by decide) (Nat.le_of_ble_eq_true rfl) ?_
  intro p e s m args below meth c Cx hr hlk hnm hW ls hl
  have Cx : sC G p m c cX12_indexRead 1 s args RX12 := Cx
  obtain ⟨hx, hb, hml, hown, hts⟩ := id Cx.1
  have hL : sL G [] := sL_nil
  have hl : lv_has ls 1 [(0, .ref (G.2.2.1 + 231))] := hl
  have hW0 := hW
  have hE1 := hE.1
  refine lv_aload_n hx hb dX12_indexRead_0 rfl (lv_at hl 0 rfl) ?_
  have q_1 : (-2147483648) ≤ S.1 231 20 ∧ S.1 231 20 ≤ 2147483647 := hI.fi 20
  refine g_X12_270 Cx hW (k := 231) (by decide) rfl (v := S.1 231 20) rfl dX12_indexRead_1 ?_
  refine r_if_eq (tgt := 8) hx hb ⟨(by omega), (by omega)⟩ dX12_indexRead_4 (by decide) (fun c_2 => ?_) (fun c_2 => ?_)
  · have b_3 := hcu (by have e9 := (show S.1 231 20 = S.1 231 20 from rfl); omega)
    refine lv_aload_n hx hb dX12_indexRead_8 rfl (lv_at hl 0 rfl) ?_
    refine g_X12_47 Cx hW (k := 231) (by decide) rfl (v := .ref (G.2.2.1 + 244)) (rd_15 hI) dX12_indexRead_9 ?_
    refine lv_aload_n hx hb dX12_indexRead_12 rfl (lv_at hl 0 rfl) ?_
    have q_4 : (-2147483648) ≤ S.1 231 24 ∧ S.1 231 24 ≤ 2147483647 := hI.fi 24
    refine g_X12_315 Cx hW (k := 231) (by decide) rfl (v := S.1 231 24) rfl dX12_indexRead_13 ?_
    refine rIald Cx hW (k := 244) (by decide) rfl (by decide) (by omega) (by omega) dX12_indexRead_16 ?_
    have q_5 : (-2147483648) ≤ S.2.1 244 (S.1 231 24) ∧ S.2.1 244 (S.1 231 24) ≤ 2147483647 := hI.ai 244 (S.1 231 24)
    refine r_i (b := S.2.1 244 (S.1 231 24)) rfl ?_
    have hr1 : K pz = S.2.1 244 (S.1 231 24) := by rw [← hK, ← hc]
    refine lv_iconst (v := iv 2) hx hb dX12_indexRead_17 (by decide) ?_
    refine r_icmp_ne (tgt := 32) hx hb ⟨(by omega), (by omega)⟩ ⟨(by omega), (by omega)⟩ dX12_indexRead_18 (by decide) (fun c_6 => ?_) (fun c_6 => ?_)
    · refine lv_aload_n hx hb dX12_indexRead_32 rfl (lv_at hl 0 rfl) ?_
      refine lv_iconst (v := iv 1) hx hb dX12_indexRead_33 (by decide) ?_
      refine sBv (sV (As := [.int (iv 1)]) (rest := []) (k := 231) Cx (c_X12_wantKind l G S (k := 1) (K := K) (V := V) (T := T) (pz := pz) (cd := 2) hI (by omega) kn_1 hK hV hE (by omega) (fun h => by have e8 := (show S.1 231 20 = S.1 231 20 from rfl); have a9 := hcu (by have e9 := (show S.1 231 20 = S.1 231 20 from rfl); omega); omega)) (c_X12_328 Cx rfl rfl (rmk_ok (by omega) (by decide))) hW (by decide) rfl rfl rfl hl.1 rfl (Nat.le_of_ble_eq_true rfl) dX12_indexRead_34 ⟨Nat.le_of_ble_eq_true rfl, Nat.le_of_ble_eq_true rfl⟩) hL (fun u_7 H locs k_8 hW hL => ?_)
      obtain ⟨iu_7, fu_7, gu_7, xu_7⟩ := k_8
      have F_9 := (Fr.rf : Fr S S (pl [231])).trans fu_7
      have g_10 : FF S u_7 (fl [20, 21, 24]) := FF.trans FF.rf (FF.to gu_7 (fl_sub (by decide)))
      obtain ⟨xu_7, yu_7⟩ := xu_7
      refine lv_aload_n hx hb dX12_indexRead_37 rfl (lv_at hl 0 rfl) ?_
      have q_11 : (-2147483648) ≤ u_7.1 231 20 ∧ u_7.1 231 20 ≤ 2147483647 := iu_7.fi 20
      refine g_X12_270 Cx hW (k := 231) (by decide) rfl (v := u_7.1 231 20) rfl dX12_indexRead_38 ?_
      refine r_if_ne (tgt := 77) hx hb ⟨(by omega), (by omega)⟩ dX12_indexRead_41 (by decide) (fun c_12 => ?_) (fun c_12 => ?_)
      · have q_13 : (-2147483648) ≤ u_7.1 231 24 ∧ u_7.1 231 24 ≤ 2147483647 := iu_7.fi 24
        exact sVret Cx hr hlk hW hL ⟨iu_7, F_9, g_10, ⟨(fun h => by have e8 := (show u_7.1 231 20 = u_7.1 231 20 from rfl); have e7 := (show u_7.1 231 24 = u_7.1 231 24 from rfl); have au_7 := xu_7 (by have e9 := (show u_7.1 231 20 = u_7.1 231 20 from rfl); omega); first | (exfalso; omega) | (have kr10 : ¬ kr K V T (pz) = 3 := fun z => absurd ((kn_2 K V T _).2 z) (by omega); exact ⟨(by omega), (by rw [e7]; (try rw [hc]); simp only [ogX, kr10, au_7.2.1, reduceIte, Option.bind_some, Option.bind_none, or_true, true_or, or_self, or_false, false_or, Int.reduceEq, Option.some.injEq, reduceCtorEq]), by omega, by omega, by omega⟩)), (fun h h9 => by have e8 := (show u_7.1 231 20 = u_7.1 231 20 from rfl); first | (exfalso; omega) | (have kr10 : ¬ kr K V T (pz) = 3 := fun z => absurd ((kn_2 K V T _).2 z) (by omega); by_cases qu_7 : u_7.1 231 20 = 0; (have au_7 := xu_7 qu_7; first | (exfalso; omega) | (exfalso; omega)); (have bu_7 := yu_7 (by omega) qu_7; simp only [ogX, kr10, bu_7, reduceIte, Option.bind_some, Option.bind_none, or_true, true_or, or_self, or_false, false_or, Int.reduceEq, Option.some.injEq, reduceCtorEq])))⟩⟩ dX12_indexRead_77
      · have b_14 := xu_7 (by have e9 := (show u_7.1 231 20 = u_7.1 231 20 from rfl); omega)
        refine lv_aload_n hx hb dX12_indexRead_44 rfl (lv_at hl 0 rfl) ?_
        refine lv_bipush (v := iv 43) hx hb dX12_indexRead_45 (by decide) ?_
        have q_15 : (-2147483648) ≤ u_7.1 231 24 ∧ u_7.1 231 24 ≤ 2147483647 := iu_7.fi 24
        refine sBi (sV (As := [.int (iv 43)]) (rest := []) (k := 231) Cx (s_X12_isSign l G u_7 (sv := 43) (K := K) (V := V) (pz := u_7.1 231 24) iu_7 (by omega) ((funext fun j => (fu_7 244 rfl).2.1 j : u_7.2.1 244 = S.2.1 244).trans hK) ((funext fun j => (fu_7 247 rfl).2.1 j : u_7.2.1 247 = S.2.1 247).trans hV) (by omega) (by omega)) (c_X12_318 Cx rfl rfl (rmk_ok (by omega) (by decide))) hW (by decide) rfl rfl rfl hl.1 rfl (Nat.le_of_ble_eq_true rfl) dX12_indexRead_47 ⟨Nat.le_of_ble_eq_true rfl, Nat.le_of_ble_eq_true rfl⟩) hL (fun r_18 u_16 H locs k_17 hW hL => ?_)
        obtain ⟨eu_16, xu_16⟩ := k_17
        rw [eu_16] at hW
        refine r_if_ne (tgt := 62) hx hb ⟨(by omega), (by omega)⟩ dX12_indexRead_50 (by decide) (fun c_19 => ?_) (fun c_19 => ?_)
        · refine lv_aload_n hx hb dX12_indexRead_62 rfl (lv_at hl 0 rfl) ?_
          refine lv_dup hx hb dX12_indexRead_63 rfl ?_
          refine g_X12_315 Cx hW (k := 231) (by decide) rfl (v := u_7.1 231 24) rfl dX12_indexRead_64 ?_
          have n_20 := hE.nx (pz := u_7.1 231 24) (by omega) (by have z := (xu_16.2.1 (by omega)); unfold gS at z; omega)
          refine lv_iconst (v := iv 1) hx hb dX12_indexRead_67 (by decide) ?_
          refine r_iadd hx hb dX12_indexRead_68 ?_
          refine p_X12_315 Cx hW hL (k := 231) (by decide) rfl dX12_indexRead_69 (fun H locs hW hL => ?_)
          have F_21 : Fr S (uF u_7 231 24 ((u_7.1 231 24) + 1)) (pl [231]) := F_9.F rfl
          have g_22 : FF S (uF u_7 231 24 ((u_7.1 231 24) + 1)) (fl [20, 21, 24]) := FF.F g_10 rfl
          have i_23 : dX G (uF u_7 231 24 ((u_7.1 231 24) + 1)) := iu_7.F (i := 24) (show (-2147483648) ≤ (u_7.1 231 24) + 1 ∧ (u_7.1 231 24) + 1 ≤ 2147483647 from ⟨by omega, by omega⟩)
          refine lv_aload_n hx hb dX12_indexRead_72 rfl (lv_at hl 0 rfl) ?_
          refine lv_iconst (v := iv 2) hx hb dX12_indexRead_73 (by decide) ?_
          have lk_24 : (uF u_7 231 24 ((u_7.1 231 24) + 1)).1 231 24 = (u_7.1 231 24) + 1 := uF_on
          have lk_25 : (uF u_7 231 24 ((u_7.1 231 24) + 1)).1 231 20 = u_7.1 231 20 := uF_ne (fun h => absurd h.2 (by decide))
          refine sBv (sV (As := [.int (iv 2)]) (rest := []) (k := 231) Cx (c_X12_wantKind l G (uF u_7 231 24 ((u_7.1 231 24) + 1)) (k := 2) (K := K) (V := V) (T := T) (pz := (u_7.1 231 24) + 1) (cd := 3) i_23 (by omega) kn_2 ((funext fun j => (uF_a).trans ((fu_7 244 rfl).2.1 j) : (uF u_7 231 24 ((u_7.1 231 24) + 1)).2.1 244 = S.2.1 244).trans hK) ((funext fun j => (uF_a).trans ((fu_7 247 rfl).2.1 j) : (uF u_7 231 24 ((u_7.1 231 24) + 1)).2.1 247 = S.2.1 247).trans hV) hE (by omega) (fun h => by have e8 := (show (uF u_7 231 24 ((u_7.1 231 24) + 1)).1 231 20 = u_7.1 231 20 from uF_ne (fun h => absurd h.2 (by decide))); have a9 := xu_7 (by have e9 := (show (uF u_7 231 24 ((u_7.1 231 24) + 1)).1 231 20 = u_7.1 231 20 from uF_ne (fun h => absurd h.2 (by decide))); omega); omega)) (c_X12_328 Cx rfl rfl (rmk_ok (by omega) (by decide))) hW (by decide) rfl rfl rfl hl.1 rfl (Nat.le_of_ble_eq_true rfl) dX12_indexRead_74 ⟨Nat.le_of_ble_eq_true rfl, Nat.le_of_ble_eq_true rfl⟩) hL (fun u_26 H locs k_27 hW hL => ?_)
          obtain ⟨iu_26, fu_26, gu_26, xu_26⟩ := k_27
          have F_28 := F_21.trans fu_26
          have g_29 : FF S u_26 (fl [20, 21, 24]) := FF.trans g_22 (FF.to gu_26 (fl_sub (by decide)))
          obtain ⟨xu_26, yu_26⟩ := xu_26
          have q_30 : (-2147483648) ≤ u_26.1 231 20 ∧ u_26.1 231 20 ≤ 2147483647 := iu_26.fi 20
          have q_31 : (-2147483648) ≤ u_26.1 231 24 ∧ u_26.1 231 24 ≤ 2147483647 := iu_26.fi 24
          exact sVret Cx hr hlk hW hL ⟨iu_26, F_28, g_29, ⟨(fun h => by have e8 := (show u_26.1 231 20 = u_26.1 231 20 from rfl); have e7 := (show u_26.1 231 24 = u_26.1 231 24 from rfl); have au_26 := xu_26 (by have e9 := (show u_26.1 231 20 = u_26.1 231 20 from rfl); omega); have au_7 := xu_7 (by omega); first | (exfalso; omega) | (have tu_16 : kr K V T (u_7.1 231 24) = 21 := (osg_43 K V T _).1 (by omega) (by omega) (xu_16.2.1 (by omega)); have kr10 : ¬ kr K V T (pz) = 3 := fun z => absurd ((kn_2 K V T _).2 z) (by omega); exact ⟨(by omega), (by rw [e7]; (try rw [hc]); simp only [ogX, tu_16, kr10, au_7.2.1, au_26.2.1, reduceIte, Option.bind_some, Option.bind_none, or_true, true_or, or_self, or_false, false_or, Int.reduceEq, Option.some.injEq, reduceCtorEq]), by omega, by omega, by omega⟩)), (fun h h9 => by have e8 := (show u_26.1 231 20 = u_26.1 231 20 from rfl); first | (exfalso; omega) | (have tu_16 : kr K V T (u_7.1 231 24) = 21 := (osg_43 K V T _).1 (by omega) (by omega) (xu_16.2.1 (by omega)); have kr10 : ¬ kr K V T (pz) = 3 := fun z => absurd ((kn_2 K V T _).2 z) (by omega); by_cases qu_7 : u_7.1 231 20 = 0; (have au_7 := xu_7 qu_7; first | (exfalso; omega) | (by_cases qu_26 : u_26.1 231 20 = 0; (have au_26 := xu_26 qu_26; first | (exfalso; omega) | (exfalso; omega)); (have bu_26 := yu_26 (by omega) qu_26; simp only [ogX, tu_16, kr10, au_7.2.1, bu_26, reduceIte, Option.bind_some, Option.bind_none, or_true, true_or, or_self, or_false, false_or, Int.reduceEq, Option.some.injEq, reduceCtorEq]))); (have bu_7 := yu_7 (by omega) qu_7; simp only [ogX, tu_16, kr10, bu_7, reduceIte, Option.bind_some, Option.bind_none, or_true, true_or, or_self, or_false, false_or, Int.reduceEq, Option.some.injEq, reduceCtorEq])))⟩⟩ dX12_indexRead_77
        · refine lv_aload_n hx hb dX12_indexRead_53 rfl (lv_at hl 0 rfl) ?_
          refine lv_bipush (v := iv 45) hx hb dX12_indexRead_54 (by decide) ?_
          refine sBi (sV (As := [.int (iv 45)]) (rest := []) (k := 231) Cx (s_X12_isSign l G u_7 (sv := 45) (K := K) (V := V) (pz := u_7.1 231 24) iu_7 (by omega) ((funext fun j => (fu_7 244 rfl).2.1 j : u_7.2.1 244 = S.2.1 244).trans hK) ((funext fun j => (fu_7 247 rfl).2.1 j : u_7.2.1 247 = S.2.1 247).trans hV) (by omega) (by omega)) (c_X12_318 Cx rfl rfl (rmk_ok (by omega) (by decide))) hW (by decide) rfl rfl rfl hl.1 rfl (Nat.le_of_ble_eq_true rfl) dX12_indexRead_56 ⟨Nat.le_of_ble_eq_true rfl, Nat.le_of_ble_eq_true rfl⟩) hL (fun r_34 u_32 H locs k_33 hW hL => ?_)
          obtain ⟨eu_32, xu_32⟩ := k_33
          rw [eu_32] at hW
          refine r_if_eq (tgt := 77) hx hb ⟨(by omega), (by omega)⟩ dX12_indexRead_59 (by decide) (fun c_35 => ?_) (fun c_35 => ?_)
          · exact sVret Cx hr hlk hW hL ⟨iu_7, F_9, g_10, ⟨(fun h => by have e8 := (show u_7.1 231 20 = u_7.1 231 20 from rfl); have e7 := (show u_7.1 231 24 = u_7.1 231 24 from rfl); have au_7 := xu_7 (by have e9 := (show u_7.1 231 20 = u_7.1 231 20 from rfl); omega); first | (exfalso; omega) | (have tu_16 : ¬ kr K V T (u_7.1 231 24) = 21 := fun z => xu_16.2.2 (by omega) ((osg_43 K V T _).2 z); have tu_32 : ¬ kr K V T (u_7.1 231 24) = 22 := fun z => xu_32.2.2 (by omega) ((osg_45 K V T _).2 z); have kr10 : ¬ kr K V T (pz) = 3 := fun z => absurd ((kn_2 K V T _).2 z) (by omega); exact ⟨(by omega), (by rw [e7]; (try rw [hc]); simp only [ogX, tu_16, tu_32, kr10, au_7.2.1, reduceIte, Option.bind_some, Option.bind_none, or_true, true_or, or_self, or_false, false_or, Int.reduceEq, Option.some.injEq, reduceCtorEq]), by omega, by omega, by omega⟩)), (fun h h9 => by have e8 := (show u_7.1 231 20 = u_7.1 231 20 from rfl); first | (exfalso; omega) | (have tu_16 : ¬ kr K V T (u_7.1 231 24) = 21 := fun z => xu_16.2.2 (by omega) ((osg_43 K V T _).2 z); have tu_32 : ¬ kr K V T (u_7.1 231 24) = 22 := fun z => xu_32.2.2 (by omega) ((osg_45 K V T _).2 z); have kr10 : ¬ kr K V T (pz) = 3 := fun z => absurd ((kn_2 K V T _).2 z) (by omega); by_cases qu_7 : u_7.1 231 20 = 0; (have au_7 := xu_7 qu_7; first | (exfalso; omega) | (exfalso; omega)); (have bu_7 := yu_7 (by omega) qu_7; simp only [ogX, tu_16, tu_32, kr10, bu_7, reduceIte, Option.bind_some, Option.bind_none, or_true, true_or, or_self, or_false, false_or, Int.reduceEq, Option.some.injEq, reduceCtorEq])))⟩⟩ dX12_indexRead_77
          · refine lv_aload_n hx hb dX12_indexRead_62 rfl (lv_at hl 0 rfl) ?_
            refine lv_dup hx hb dX12_indexRead_63 rfl ?_
            refine g_X12_315 Cx hW (k := 231) (by decide) rfl (v := u_7.1 231 24) rfl dX12_indexRead_64 ?_
            have n_36 := hE.nx (pz := u_7.1 231 24) (by omega) (by have z := (xu_32.2.1 (by omega)); unfold gS at z; omega)
            refine lv_iconst (v := iv 1) hx hb dX12_indexRead_67 (by decide) ?_
            refine r_iadd hx hb dX12_indexRead_68 ?_
            refine p_X12_315 Cx hW hL (k := 231) (by decide) rfl dX12_indexRead_69 (fun H locs hW hL => ?_)
            have F_37 : Fr S (uF u_7 231 24 ((u_7.1 231 24) + 1)) (pl [231]) := F_9.F rfl
            have g_38 : FF S (uF u_7 231 24 ((u_7.1 231 24) + 1)) (fl [20, 21, 24]) := FF.F g_10 rfl
            have i_39 : dX G (uF u_7 231 24 ((u_7.1 231 24) + 1)) := iu_7.F (i := 24) (show (-2147483648) ≤ (u_7.1 231 24) + 1 ∧ (u_7.1 231 24) + 1 ≤ 2147483647 from ⟨by omega, by omega⟩)
            refine lv_aload_n hx hb dX12_indexRead_72 rfl (lv_at hl 0 rfl) ?_
            refine lv_iconst (v := iv 2) hx hb dX12_indexRead_73 (by decide) ?_
            have lk_40 : (uF u_7 231 24 ((u_7.1 231 24) + 1)).1 231 24 = (u_7.1 231 24) + 1 := uF_on
            have lk_41 : (uF u_7 231 24 ((u_7.1 231 24) + 1)).1 231 20 = u_7.1 231 20 := uF_ne (fun h => absurd h.2 (by decide))
            refine sBv (sV (As := [.int (iv 2)]) (rest := []) (k := 231) Cx (c_X12_wantKind l G (uF u_7 231 24 ((u_7.1 231 24) + 1)) (k := 2) (K := K) (V := V) (T := T) (pz := (u_7.1 231 24) + 1) (cd := 3) i_39 (by omega) kn_2 ((funext fun j => (uF_a).trans ((fu_7 244 rfl).2.1 j) : (uF u_7 231 24 ((u_7.1 231 24) + 1)).2.1 244 = S.2.1 244).trans hK) ((funext fun j => (uF_a).trans ((fu_7 247 rfl).2.1 j) : (uF u_7 231 24 ((u_7.1 231 24) + 1)).2.1 247 = S.2.1 247).trans hV) hE (by omega) (fun h => by have e8 := (show (uF u_7 231 24 ((u_7.1 231 24) + 1)).1 231 20 = u_7.1 231 20 from uF_ne (fun h => absurd h.2 (by decide))); have a9 := xu_7 (by have e9 := (show (uF u_7 231 24 ((u_7.1 231 24) + 1)).1 231 20 = u_7.1 231 20 from uF_ne (fun h => absurd h.2 (by decide))); omega); omega)) (c_X12_328 Cx rfl rfl (rmk_ok (by omega) (by decide))) hW (by decide) rfl rfl rfl hl.1 rfl (Nat.le_of_ble_eq_true rfl) dX12_indexRead_74 ⟨Nat.le_of_ble_eq_true rfl, Nat.le_of_ble_eq_true rfl⟩) hL (fun u_42 H locs k_43 hW hL => ?_)
            obtain ⟨iu_42, fu_42, gu_42, xu_42⟩ := k_43
            have F_44 := F_37.trans fu_42
            have g_45 : FF S u_42 (fl [20, 21, 24]) := FF.trans g_38 (FF.to gu_42 (fl_sub (by decide)))
            obtain ⟨xu_42, yu_42⟩ := xu_42
            have q_46 : (-2147483648) ≤ u_42.1 231 20 ∧ u_42.1 231 20 ≤ 2147483647 := iu_42.fi 20
            have q_47 : (-2147483648) ≤ u_42.1 231 24 ∧ u_42.1 231 24 ≤ 2147483647 := iu_42.fi 24
            exact sVret Cx hr hlk hW hL ⟨iu_42, F_44, g_45, ⟨(fun h => by have e8 := (show u_42.1 231 20 = u_42.1 231 20 from rfl); have e7 := (show u_42.1 231 24 = u_42.1 231 24 from rfl); have au_42 := xu_42 (by have e9 := (show u_42.1 231 20 = u_42.1 231 20 from rfl); omega); have au_7 := xu_7 (by omega); first | (exfalso; omega) | (have tu_16 : ¬ kr K V T (u_7.1 231 24) = 21 := fun z => xu_16.2.2 (by omega) ((osg_43 K V T _).2 z); have tu_32 : kr K V T (u_7.1 231 24) = 22 := (osg_45 K V T _).1 (by omega) (by omega) (xu_32.2.1 (by omega)); have kr10 : ¬ kr K V T (pz) = 3 := fun z => absurd ((kn_2 K V T _).2 z) (by omega); exact ⟨(by omega), (by rw [e7]; (try rw [hc]); simp only [ogX, tu_16, tu_32, kr10, au_7.2.1, au_42.2.1, reduceIte, Option.bind_some, Option.bind_none, or_true, true_or, or_self, or_false, false_or, Int.reduceEq, Option.some.injEq, reduceCtorEq]), by omega, by omega, by omega⟩)), (fun h h9 => by have e8 := (show u_42.1 231 20 = u_42.1 231 20 from rfl); first | (exfalso; omega) | (have tu_16 : ¬ kr K V T (u_7.1 231 24) = 21 := fun z => xu_16.2.2 (by omega) ((osg_43 K V T _).2 z); have tu_32 : kr K V T (u_7.1 231 24) = 22 := (osg_45 K V T _).1 (by omega) (by omega) (xu_32.2.1 (by omega)); have kr10 : ¬ kr K V T (pz) = 3 := fun z => absurd ((kn_2 K V T _).2 z) (by omega); by_cases qu_7 : u_7.1 231 20 = 0; (have au_7 := xu_7 qu_7; first | (exfalso; omega) | (by_cases qu_42 : u_42.1 231 20 = 0; (have au_42 := xu_42 qu_42; first | (exfalso; omega) | (exfalso; omega)); (have bu_42 := yu_42 (by omega) qu_42; simp only [ogX, tu_16, tu_32, kr10, au_7.2.1, bu_42, reduceIte, Option.bind_some, Option.bind_none, or_true, true_or, or_self, or_false, false_or, Int.reduceEq, Option.some.injEq, reduceCtorEq]))); (have bu_7 := yu_7 (by omega) qu_7; simp only [ogX, tu_16, tu_32, kr10, bu_7, reduceIte, Option.bind_some, Option.bind_none, or_true, true_or, or_self, or_false, false_or, Int.reduceEq, Option.some.injEq, reduceCtorEq])))⟩⟩ dX12_indexRead_77
    · refine lv_aload_n hx hb dX12_indexRead_21 rfl (lv_at hl 0 rfl) ?_
      refine lv_dup hx hb dX12_indexRead_22 rfl ?_
      refine g_X12_315 Cx hW (k := 231) (by decide) rfl (v := S.1 231 24) rfl dX12_indexRead_23 ?_
      have n_48 := hE.nx (pz := pz) (by omega) (by omega)
      refine lv_iconst (v := iv 1) hx hb dX12_indexRead_26 (by decide) ?_
      refine r_iadd hx hb dX12_indexRead_27 ?_
      refine p_X12_315 Cx hW hL (k := 231) (by decide) rfl dX12_indexRead_28 (fun H locs hW hL => ?_)
      have F_49 : Fr S (uF S 231 24 ((S.1 231 24) + 1)) (pl [231]) := (Fr.rf : Fr S S (pl [231])).F rfl
      have g_50 : FF S (uF S 231 24 ((S.1 231 24) + 1)) (fl [20, 21, 24]) := FF.F FF.rf rfl
      have i_51 : dX G (uF S 231 24 ((S.1 231 24) + 1)) := hI.F (i := 24) (show (-2147483648) ≤ (S.1 231 24) + 1 ∧ (S.1 231 24) + 1 ≤ 2147483647 from ⟨by omega, by omega⟩)
      have lk_52 : (uF S 231 24 ((S.1 231 24) + 1)).1 231 20 = S.1 231 20 := uF_ne (fun h => absurd h.2 (by decide))
      have lk_53 : (uF S 231 24 ((S.1 231 24) + 1)).1 231 24 = (S.1 231 24) + 1 := uF_on
      exact sVret Cx hr hlk hW hL ⟨i_51, F_49, g_50, ⟨(fun h => by have e8 := (show (uF S 231 24 ((S.1 231 24) + 1)).1 231 20 = S.1 231 20 from uF_ne (fun h => absurd h.2 (by decide))); have e7 := (show (uF S 231 24 ((S.1 231 24) + 1)).1 231 24 = (S.1 231 24) + 1 from uF_on); first | (exfalso; omega) | (have b0 := hcu (by omega); have kr10 : kr K V T (pz) = 3 := (kn_2 K V T _).1 (by omega) (by omega) (by omega); exact ⟨(by omega), (by rw [e7]; (try rw [hc]); simp only [ogX, kr10, reduceIte, Option.bind_some, Option.bind_none, or_true, true_or, or_self, or_false, false_or, Int.reduceEq, Option.some.injEq, reduceCtorEq]), by omega, by omega, by omega⟩)), (fun h h9 => by have e8 := (show (uF S 231 24 ((S.1 231 24) + 1)).1 231 20 = S.1 231 20 from uF_ne (fun h => absurd h.2 (by decide))); first | (exfalso; omega) | (have kr10 : kr K V T (pz) = 3 := (kn_2 K V T _).1 (by omega) (by omega) (by omega); exfalso; omega))⟩⟩ dX12_indexRead_31
  · have q_54 : (-2147483648) ≤ S.1 231 24 ∧ S.1 231 24 ≤ 2147483647 := hI.fi 24
    exact sVret Cx hr hlk hW hL ⟨hI, (Fr.rf : Fr S S (pl [231])), FF.rf, ⟨(fun h => by have e8 := (show S.1 231 20 = S.1 231 20 from rfl); have e7 := (show S.1 231 24 = S.1 231 24 from rfl); first | (exfalso; omega) | (have b0 := hcu (by omega); exact ⟨(by omega), (by rw [e7]; (try rw [hc]); simp only [ogX, reduceIte, Option.bind_some, Option.bind_none, or_true, true_or, or_self, or_false, false_or, Int.reduceEq, Option.some.injEq, reduceCtorEq]), by omega, by omega, by omega⟩)), (fun h h9 => by have e8 := (show S.1 231 20 = S.1 231 20 from rfl); first | (exfalso; omega) | (exfalso; omega))⟩⟩ dX12_indexRead_7

set_option maxRecDepth 100000 in
set_option maxHeartbeats 4000000 in
theorem c_X12_told (l : Launch) (G : sG) (S : sS) {K V : Int → Int} {T pz : Int}  (hI : dX G S) (h20 : S.1 231 20 = 0) (htk : 2 ≤ V pz ∧ V pz ≤ 4 ∧ K pz = 3) (hK : S.2.1 244 = K) (hV : S.2.1 247 = V) (hE : gE K T) (hc : S.1 231 24 = pz) (hcu : Hd (S.1 231 20 = 0 → 0 ≤ pz ∧ pz ≤ T - 1)) : Met l yX12_told (.code yX12_told cX12_told 2 none :: tb) (rmk 4 0 0) (sPc G 294 S [.ref (G.2.2.1 + 231)]) (sQv G 294 (fun u => dX G u ∧ Fr S u (pl [231]) ∧ FF S u (fl [20, 21, 24]) ∧ (Hd (u.1 231 20 = 0 → S.1 231 20 = 0 ∧ ogD T (kr K V T) pz = some (u.1 231 24) ∧ pz < u.1 231 24 ∧ 0 ≤ u.1 231 24 ∧ u.1 231 24 ≤ T - 1) ∧ Hd (S.1 231 20 = 0 → u.1 231 20 ≠ 0 → ogD T (kr K V T) pz = none)))) 0 0 (sF G) := by
  refine sEnter (by decide) (Nat.le_of_ble_eq_true rfl) ?_
  intro p e s m args below meth c Cx hr hlk hnm hW ls hl
  have Cx : sC G p m c cX12_told 2 s args RX12 := Cx
  obtain ⟨hx, hb, hml, hown, hts⟩ := id Cx.1
  have hL : sL G [] := sL_nil
  have hl : lv_has ls 2 [(0, .ref (G.2.2.1 + 231))] := hl
  have hW0 := hW
  have hE1 := hE.1
  have b_1 := hcu (by have e9 := (show S.1 231 20 = S.1 231 20 from rfl); omega)
  refine lv_aload_n hx hb dX12_told_0 rfl (lv_at hl 0 rfl) ?_
  refine g_X12_56 Cx hW (k := 231) (by decide) rfl (v := .ref (G.2.2.1 + 247)) (rd_18 hI) dX12_told_1 ?_
  refine lv_aload_n hx hb dX12_told_4 rfl (lv_at hl 0 rfl) ?_
  have q_2 : (-2147483648) ≤ S.1 231 24 ∧ S.1 231 24 ≤ 2147483647 := hI.fi 24
  refine g_X12_315 Cx hW (k := 231) (by decide) rfl (v := S.1 231 24) rfl dX12_told_5 ?_
  refine rIald Cx hW (k := 247) (by decide) rfl (by decide) (by omega) (by omega) dX12_told_8 ?_
  have q_3 : (-2147483648) ≤ S.2.1 247 (S.1 231 24) ∧ S.2.1 247 (S.1 231 24) ≤ 2147483647 := hI.ai 247 (S.1 231 24)
  refine r_i (b := S.2.1 247 (S.1 231 24)) rfl ?_
  have hr1 : V pz = S.2.1 247 (S.1 231 24) := by rw [← hV, ← hc]
  refine lv_istore_n (lv' := [(1, .int (iv (S.2.1 247 (S.1 231 24)))), (0, .ref (G.2.2.1 + 231))]) hx hb dX12_told_9 rfl hl (by decide) rfl (fun ls hl => ?_)
  refine lv_aload_n hx hb dX12_told_10 rfl (lv_at hl 1 rfl) ?_
  refine lv_dup hx hb dX12_told_11 rfl ?_
  refine g_X12_315 Cx hW (k := 231) (by decide) rfl (v := S.1 231 24) rfl dX12_told_12 ?_
  have n_4 := hE.nx (pz := pz) (by omega) (by omega)
  have hkw : kr K V T pz = 4 + V pz := ((wd_m (w := V pz) (by omega)) K V T pz).1 (by omega) (by omega) ⟨by omega, rfl⟩
  refine lv_iconst (v := iv 1) hx hb dX12_told_15 (by decide) ?_
  refine r_iadd hx hb dX12_told_16 ?_
  refine p_X12_315 Cx hW hL (k := 231) (by decide) rfl dX12_told_17 (fun H locs hW hL => ?_)
  have F_5 : Fr S (uF S 231 24 ((S.1 231 24) + 1)) (pl [231]) := (Fr.rf : Fr S S (pl [231])).F rfl
  have g_6 : FF S (uF S 231 24 ((S.1 231 24) + 1)) (fl [20, 21, 24]) := FF.F FF.rf rfl
  have i_7 : dX G (uF S 231 24 ((S.1 231 24) + 1)) := hI.F (i := 24) (show (-2147483648) ≤ (S.1 231 24) + 1 ∧ (S.1 231 24) + 1 ≤ 2147483647 from ⟨by omega, by omega⟩)
  refine lv_aload_n hx hb dX12_told_20 rfl (lv_at hl 1 rfl) ?_
  refine lv_iconst (v := iv 1) hx hb dX12_told_21 (by decide) ?_
  have lk_8 : (uF S 231 24 ((S.1 231 24) + 1)).1 231 24 = (S.1 231 24) + 1 := uF_on
  have q_9 : (-2147483648) ≤ S.1 231 20 ∧ S.1 231 20 ≤ 2147483647 := hI.fi 20
  have lk_10 : (uF S 231 24 ((S.1 231 24) + 1)).1 231 20 = S.1 231 20 := uF_ne (fun h => absurd h.2 (by decide))
  refine sBv (sV (As := [.int (iv 1)]) (rest := []) (k := 231) Cx (c_X12_wantKind l G (uF S 231 24 ((S.1 231 24) + 1)) (k := 1) (K := K) (V := V) (T := T) (pz := (pz) + 1) (cd := 2) i_7 (by omega) kn_1 ((funext fun j => uF_a : (uF S 231 24 ((S.1 231 24) + 1)).2.1 244 = S.2.1 244).trans hK) ((funext fun j => uF_a : (uF S 231 24 ((S.1 231 24) + 1)).2.1 247 = S.2.1 247).trans hV) hE (by omega) (fun h => by have e8 := (show (uF S 231 24 ((S.1 231 24) + 1)).1 231 20 = S.1 231 20 from uF_ne (fun h => absurd h.2 (by decide))); have a9 := hcu (by have e9 := (show (uF S 231 24 ((S.1 231 24) + 1)).1 231 20 = S.1 231 20 from uF_ne (fun h => absurd h.2 (by decide))); omega); omega)) (c_X12_328 Cx rfl rfl (rmk_ok (by omega) (by decide))) hW (by decide) rfl rfl rfl hl.1 rfl (Nat.le_of_ble_eq_true rfl) dX12_told_22 ⟨Nat.le_of_ble_eq_true rfl, Nat.le_of_ble_eq_true rfl⟩) hL (fun u_11 H locs k_12 hW hL => ?_)
  obtain ⟨iu_11, fu_11, gu_11, xu_11⟩ := k_12
  have F_13 := F_5.trans fu_11
  have g_14 : FF S u_11 (fl [20, 21, 24]) := FF.trans g_6 (FF.to gu_11 (fl_sub (by decide)))
  obtain ⟨xu_11, yu_11⟩ := xu_11
  refine lv_iload_n hx hb dX12_told_25 rfl (lv_at hl 0 rfl) ?_
  refine lv_iconst (v := iv 2) hx hb dX12_told_26 (by decide) ?_
  refine r_icmp_eq (tgt := 34) hx hb ⟨(by omega), (by omega)⟩ ⟨(by omega), (by omega)⟩ dX12_told_27 (by decide) (fun c_15 => ?_) (fun c_15 => ?_)
  · refine lv_iload_n hx hb dX12_told_34 rfl (lv_at hl 0 rfl) ?_
    refine lv_iconst (v := iv 2) hx hb dX12_told_35 (by decide) ?_
    refine r_icmp_ne (tgt := 63) hx hb ⟨(by omega), (by omega)⟩ ⟨(by omega), (by omega)⟩ dX12_told_36 (by decide) (fun c => absurd (by omega) c) (fun _ => ?_)
    refine lv_aload_n hx hb dX12_told_39 rfl (lv_at hl 1 rfl) ?_
    refine lv_bipush (v := iv 61) hx hb dX12_told_40 (by decide) ?_
    have q_16 : (-2147483648) ≤ u_11.1 231 24 ∧ u_11.1 231 24 ≤ 2147483647 := iu_11.fi 24
    have q_17 : (-2147483648) ≤ u_11.1 231 20 ∧ u_11.1 231 20 ≤ 2147483647 := iu_11.fi 20
    refine sBv (sV (As := [.int (iv 61)]) (rest := []) (k := 231) Cx (c_X12_want l G u_11 (sv := 61) (K := K) (V := V) (T := T) (pz := u_11.1 231 24) (cd := 13) iu_11 (by omega) osg_61 ((funext fun j => ((fu_11 244 rfl).2.1 j).trans (uF_a) : u_11.2.1 244 = S.2.1 244).trans hK) ((funext fun j => ((fu_11 247 rfl).2.1 j).trans (uF_a) : u_11.2.1 247 = S.2.1 247).trans hV) hE (by omega) (fun h => by have e8 := (show u_11.1 231 20 = u_11.1 231 20 from rfl); have a9 := xu_11 (by have e9 := (show u_11.1 231 20 = u_11.1 231 20 from rfl); omega); omega)) (c_X12_331 Cx rfl rfl (rmk_ok (by omega) (by decide))) hW (by decide) rfl rfl rfl hl.1 rfl (Nat.le_of_ble_eq_true rfl) dX12_told_42 ⟨Nat.le_of_ble_eq_true rfl, Nat.le_of_ble_eq_true rfl⟩) hL (fun u_18 H locs k_19 hW hL => ?_)
    obtain ⟨iu_18, fu_18, gu_18, xu_18⟩ := k_19
    have F_20 := F_13.trans fu_18
    have g_21 : FF S u_18 (fl [20, 21, 24]) := FF.trans g_14 (FF.to gu_18 (fl_sub (by decide)))
    obtain ⟨xu_18, yu_18⟩ := xu_18
    refine lv_aload_n hx hb dX12_told_45 rfl (lv_at hl 1 rfl) ?_
    refine lv_iconst (v := iv 2) hx hb dX12_told_46 (by decide) ?_
    have q_22 : (-2147483648) ≤ u_18.1 231 24 ∧ u_18.1 231 24 ≤ 2147483647 := iu_18.fi 24
    have q_23 : (-2147483648) ≤ u_18.1 231 20 ∧ u_18.1 231 20 ≤ 2147483647 := iu_18.fi 20
    refine sBv (sV (As := [.int (iv 2)]) (rest := []) (k := 231) Cx (c_X12_wantKind l G u_18 (k := 2) (K := K) (V := V) (T := T) (pz := u_18.1 231 24) (cd := 3) iu_18 (by omega) kn_2 ((funext fun j => ((fu_18 244 rfl).2.1 j).trans (((fu_11 244 rfl).2.1 j).trans (uF_a)) : u_18.2.1 244 = S.2.1 244).trans hK) ((funext fun j => ((fu_18 247 rfl).2.1 j).trans (((fu_11 247 rfl).2.1 j).trans (uF_a)) : u_18.2.1 247 = S.2.1 247).trans hV) hE (by omega) (fun h => by have e8 := (show u_18.1 231 20 = u_18.1 231 20 from rfl); have a9 := xu_18 (by have e9 := (show u_18.1 231 20 = u_18.1 231 20 from rfl); omega); omega)) (c_X12_328 Cx rfl rfl (rmk_ok (by omega) (by decide))) hW (by decide) rfl rfl rfl hl.1 rfl (Nat.le_of_ble_eq_true rfl) dX12_told_47 ⟨Nat.le_of_ble_eq_true rfl, Nat.le_of_ble_eq_true rfl⟩) hL (fun u_24 H locs k_25 hW hL => ?_)
    obtain ⟨iu_24, fu_24, gu_24, xu_24⟩ := k_25
    have F_26 := F_20.trans fu_24
    have g_27 : FF S u_24 (fl [20, 21, 24]) := FF.trans g_21 (FF.to gu_24 (fl_sub (by decide)))
    obtain ⟨xu_24, yu_24⟩ := xu_24
    refine lv_aload_n hx hb dX12_told_50 rfl (lv_at hl 1 rfl) ?_
    refine lv_iconst (v := iv 1) hx hb dX12_told_51 (by decide) ?_
    have q_28 : (-2147483648) ≤ u_24.1 231 24 ∧ u_24.1 231 24 ≤ 2147483647 := iu_24.fi 24
    have q_29 : (-2147483648) ≤ u_24.1 231 20 ∧ u_24.1 231 20 ≤ 2147483647 := iu_24.fi 20
    refine sBv (sV (As := [.int (iv 1)]) (rest := []) (k := 231) Cx (c_X12_want l G u_24 (sv := 1) (K := K) (V := V) (T := T) (pz := u_24.1 231 24) (cd := 14) iu_24 (by omega) osg_1 ((funext fun j => ((fu_24 244 rfl).2.1 j).trans (((fu_18 244 rfl).2.1 j).trans (((fu_11 244 rfl).2.1 j).trans (uF_a))) : u_24.2.1 244 = S.2.1 244).trans hK) ((funext fun j => ((fu_24 247 rfl).2.1 j).trans (((fu_18 247 rfl).2.1 j).trans (((fu_11 247 rfl).2.1 j).trans (uF_a))) : u_24.2.1 247 = S.2.1 247).trans hV) hE (by omega) (fun h => by have e8 := (show u_24.1 231 20 = u_24.1 231 20 from rfl); have a9 := xu_24 (by have e9 := (show u_24.1 231 20 = u_24.1 231 20 from rfl); omega); omega)) (c_X12_331 Cx rfl rfl (rmk_ok (by omega) (by decide))) hW (by decide) rfl rfl rfl hl.1 rfl (Nat.le_of_ble_eq_true rfl) dX12_told_52 ⟨Nat.le_of_ble_eq_true rfl, Nat.le_of_ble_eq_true rfl⟩) hL (fun u_30 H locs k_31 hW hL => ?_)
    obtain ⟨iu_30, fu_30, gu_30, xu_30⟩ := k_31
    have F_32 := F_26.trans fu_30
    have g_33 : FF S u_30 (fl [20, 21, 24]) := FF.trans g_27 (FF.to gu_30 (fl_sub (by decide)))
    obtain ⟨xu_30, yu_30⟩ := xu_30
    refine lv_aload_n hx hb dX12_told_55 rfl (lv_at hl 1 rfl) ?_
    refine lv_iconst (v := iv 2) hx hb dX12_told_56 (by decide) ?_
    have q_34 : (-2147483648) ≤ u_30.1 231 24 ∧ u_30.1 231 24 ≤ 2147483647 := iu_30.fi 24
    have q_35 : (-2147483648) ≤ u_30.1 231 20 ∧ u_30.1 231 20 ≤ 2147483647 := iu_30.fi 20
    refine sBv (sV (As := [.int (iv 2)]) (rest := []) (k := 231) Cx (c_X12_wantKind l G u_30 (k := 2) (K := K) (V := V) (T := T) (pz := u_30.1 231 24) (cd := 3) iu_30 (by omega) kn_2 ((funext fun j => ((fu_30 244 rfl).2.1 j).trans (((fu_24 244 rfl).2.1 j).trans (((fu_18 244 rfl).2.1 j).trans (((fu_11 244 rfl).2.1 j).trans (uF_a)))) : u_30.2.1 244 = S.2.1 244).trans hK) ((funext fun j => ((fu_30 247 rfl).2.1 j).trans (((fu_24 247 rfl).2.1 j).trans (((fu_18 247 rfl).2.1 j).trans (((fu_11 247 rfl).2.1 j).trans (uF_a)))) : u_30.2.1 247 = S.2.1 247).trans hV) hE (by omega) (fun h => by have e8 := (show u_30.1 231 20 = u_30.1 231 20 from rfl); have a9 := xu_30 (by have e9 := (show u_30.1 231 20 = u_30.1 231 20 from rfl); omega); omega)) (c_X12_328 Cx rfl rfl (rmk_ok (by omega) (by decide))) hW (by decide) rfl rfl rfl hl.1 rfl (Nat.le_of_ble_eq_true rfl) dX12_told_57 ⟨Nat.le_of_ble_eq_true rfl, Nat.le_of_ble_eq_true rfl⟩) hL (fun u_36 H locs k_37 hW hL => ?_)
    obtain ⟨iu_36, fu_36, gu_36, xu_36⟩ := k_37
    have F_38 := F_32.trans fu_36
    have g_39 : FF S u_36 (fl [20, 21, 24]) := FF.trans g_33 (FF.to gu_36 (fl_sub (by decide)))
    obtain ⟨xu_36, yu_36⟩ := xu_36
    refine lv_goto (tgt := 136) hx hb dX12_told_60 (by decide) ?_
    refine lv_aload_n hx hb dX12_told_136 rfl (lv_at hl 1 rfl) ?_
    refine lv_bipush (v := iv 59) hx hb dX12_told_137 (by decide) ?_
    have q_40 : (-2147483648) ≤ u_36.1 231 24 ∧ u_36.1 231 24 ≤ 2147483647 := iu_36.fi 24
    have q_41 : (-2147483648) ≤ u_36.1 231 20 ∧ u_36.1 231 20 ≤ 2147483647 := iu_36.fi 20
    refine sBv (sV (As := [.int (iv 59)]) (rest := []) (k := 231) Cx (c_X12_want l G u_36 (sv := 59) (K := K) (V := V) (T := T) (pz := u_36.1 231 24) (cd := 15) iu_36 (by omega) osg_59 ((funext fun j => ((fu_36 244 rfl).2.1 j).trans (((fu_30 244 rfl).2.1 j).trans (((fu_24 244 rfl).2.1 j).trans (((fu_18 244 rfl).2.1 j).trans (((fu_11 244 rfl).2.1 j).trans (uF_a))))) : u_36.2.1 244 = S.2.1 244).trans hK) ((funext fun j => ((fu_36 247 rfl).2.1 j).trans (((fu_30 247 rfl).2.1 j).trans (((fu_24 247 rfl).2.1 j).trans (((fu_18 247 rfl).2.1 j).trans (((fu_11 247 rfl).2.1 j).trans (uF_a))))) : u_36.2.1 247 = S.2.1 247).trans hV) hE (by omega) (fun h => by have e8 := (show u_36.1 231 20 = u_36.1 231 20 from rfl); have a9 := xu_36 (by have e9 := (show u_36.1 231 20 = u_36.1 231 20 from rfl); omega); omega)) (c_X12_331 Cx rfl rfl (rmk_ok (by omega) (by decide))) hW (by decide) rfl rfl rfl hl.1 rfl (Nat.le_of_ble_eq_true rfl) dX12_told_139 ⟨Nat.le_of_ble_eq_true rfl, Nat.le_of_ble_eq_true rfl⟩) hL (fun u_42 H locs k_43 hW hL => ?_)
    obtain ⟨iu_42, fu_42, gu_42, xu_42⟩ := k_43
    have F_44 := F_38.trans fu_42
    have g_45 : FF S u_42 (fl [20, 21, 24]) := FF.trans g_39 (FF.to gu_42 (fl_sub (by decide)))
    obtain ⟨xu_42, yu_42⟩ := xu_42
    have q_46 : (-2147483648) ≤ u_42.1 231 20 ∧ u_42.1 231 20 ≤ 2147483647 := iu_42.fi 20
    have q_47 : (-2147483648) ≤ u_42.1 231 24 ∧ u_42.1 231 24 ≤ 2147483647 := iu_42.fi 24
    exact sVret Cx hr hlk hW hL ⟨iu_42, F_44, g_45, ⟨(fun h => by have e8 := (show u_42.1 231 20 = u_42.1 231 20 from rfl); have e7 := (show u_42.1 231 24 = u_42.1 231 24 from rfl); have au_42 := xu_42 (by have e9 := (show u_42.1 231 20 = u_42.1 231 20 from rfl); omega); have au_36 := xu_36 (by omega); have au_30 := xu_30 (by omega); have au_24 := xu_24 (by omega); have au_18 := xu_18 (by omega); have au_11 := xu_11 (by omega); first | (exfalso; omega) | (have kw6 : (kr K V T) pz = 6 := (by omega); have kw8 : ¬ (kr K V T) pz = 8 := (by omega); exact ⟨(by omega), (by rw [e7]; (try rw [hc]); simp only [ogD, ogVs, kw6, kw8, au_11.2.1, au_18.2.1, au_24.2.1, au_30.2.1, au_36.2.1, au_42.2.1, reduceIte, Option.bind_some, Option.bind_none, or_true, true_or, or_self, or_false, false_or, Int.reduceEq, Option.some.injEq, reduceCtorEq]), by omega, by omega, by omega⟩)), (fun h h9 => by have e8 := (show u_42.1 231 20 = u_42.1 231 20 from rfl); first | (exfalso; omega) | (have kw6 : (kr K V T) pz = 6 := (by omega); have kw8 : ¬ (kr K V T) pz = 8 := (by omega); by_cases qu_11 : u_11.1 231 20 = 0; (have au_11 := xu_11 qu_11; first | (exfalso; omega) | (by_cases qu_18 : u_18.1 231 20 = 0; (have au_18 := xu_18 qu_18; first | (exfalso; omega) | (by_cases qu_24 : u_24.1 231 20 = 0; (have au_24 := xu_24 qu_24; first | (exfalso; omega) | (by_cases qu_30 : u_30.1 231 20 = 0; (have au_30 := xu_30 qu_30; first | (exfalso; omega) | (by_cases qu_36 : u_36.1 231 20 = 0; (have au_36 := xu_36 qu_36; first | (exfalso; omega) | (by_cases qu_42 : u_42.1 231 20 = 0; (have au_42 := xu_42 qu_42; first | (exfalso; omega) | (exfalso; omega)); (have bu_42 := yu_42 (by omega) qu_42; simp only [ogD, ogVs, kw6, kw8, au_11.2.1, au_18.2.1, au_24.2.1, au_30.2.1, au_36.2.1, bu_42, reduceIte, Option.bind_some, Option.bind_none, or_true, true_or, or_self, or_false, false_or, Int.reduceEq, Option.some.injEq, reduceCtorEq]))); (have bu_36 := yu_36 (by omega) qu_36; simp only [ogD, ogVs, kw6, kw8, au_11.2.1, au_18.2.1, au_24.2.1, au_30.2.1, bu_36, reduceIte, Option.bind_some, Option.bind_none, or_true, true_or, or_self, or_false, false_or, Int.reduceEq, Option.some.injEq, reduceCtorEq]))); (have bu_30 := yu_30 (by omega) qu_30; simp only [ogD, ogVs, kw6, kw8, au_11.2.1, au_18.2.1, au_24.2.1, bu_30, reduceIte, Option.bind_some, Option.bind_none, or_true, true_or, or_self, or_false, false_or, Int.reduceEq, Option.some.injEq, reduceCtorEq]))); (have bu_24 := yu_24 (by omega) qu_24; simp only [ogD, ogVs, kw6, kw8, au_11.2.1, au_18.2.1, bu_24, reduceIte, Option.bind_some, Option.bind_none, or_true, true_or, or_self, or_false, false_or, Int.reduceEq, Option.some.injEq, reduceCtorEq]))); (have bu_18 := yu_18 (by omega) qu_18; simp only [ogD, ogVs, kw6, kw8, au_11.2.1, bu_18, reduceIte, Option.bind_some, Option.bind_none, or_true, true_or, or_self, or_false, false_or, Int.reduceEq, Option.some.injEq, reduceCtorEq]))); (have bu_11 := yu_11 (by omega) qu_11; simp only [ogD, ogVs, kw6, kw8, bu_11, reduceIte, Option.bind_some, Option.bind_none, or_true, true_or, or_self, or_false, false_or, Int.reduceEq, Option.some.injEq, reduceCtorEq])))⟩⟩ dX12_told_142
  · refine lv_aload_n hx hb dX12_told_30 rfl (lv_at hl 1 rfl) ?_
    have q_48 : (-2147483648) ≤ u_11.1 231 24 ∧ u_11.1 231 24 ≤ 2147483647 := iu_11.fi 24
    have q_49 : (-2147483648) ≤ u_11.1 231 20 ∧ u_11.1 231 20 ≤ 2147483647 := iu_11.fi 20
    refine sBv (sV (As := []) (rest := []) (k := 231) Cx (c_X12_indexes l G u_11 (K := K) (V := V) (T := T) (pz := u_11.1 231 24) iu_11 ((funext fun j => ((fu_11 244 rfl).2.1 j).trans (uF_a) : u_11.2.1 244 = S.2.1 244).trans hK) ((funext fun j => ((fu_11 247 rfl).2.1 j).trans (uF_a) : u_11.2.1 247 = S.2.1 247).trans hV) hE (by omega) (fun h => by have e8 := (show u_11.1 231 20 = u_11.1 231 20 from rfl); have a9 := xu_11 (by have e9 := (show u_11.1 231 20 = u_11.1 231 20 from rfl); omega); omega)) (c_X12_343 Cx rfl rfl (rmk_ok (by omega) (by decide))) hW (by decide) rfl rfl rfl hl.1 rfl (Nat.le_of_ble_eq_true rfl) dX12_told_31 ⟨Nat.le_of_ble_eq_true rfl, Nat.le_of_ble_eq_true rfl⟩) hL (fun u_50 H locs k_51 hW hL => ?_)
    obtain ⟨iu_50, fu_50, gu_50, xu_50⟩ := k_51
    have F_52 := F_13.trans fu_50
    have g_53 : FF S u_50 (fl [20, 21, 24]) := FF.trans g_14 (FF.to gu_50 (fl_sub (by decide)))
    obtain ⟨xu_50, yu_50⟩ := xu_50
    refine lv_iload_n hx hb dX12_told_34 rfl (lv_at hl 0 rfl) ?_
    refine lv_iconst (v := iv 2) hx hb dX12_told_35 (by decide) ?_
    refine r_icmp_ne (tgt := 63) hx hb ⟨(by omega), (by omega)⟩ ⟨(by omega), (by omega)⟩ dX12_told_36 (by decide) (fun _ => ?_) (fun c => absurd c (by omega))
    refine lv_iload_n hx hb dX12_told_63 rfl (lv_at hl 0 rfl) ?_
    refine lv_iconst (v := iv 3) hx hb dX12_told_64 (by decide) ?_
    refine r_icmp_ne (tgt := 111) hx hb ⟨(by omega), (by omega)⟩ ⟨(by omega), (by omega)⟩ dX12_told_65 (by decide) (fun c_54 => ?_) (fun c_54 => ?_)
    · refine lv_aload_n hx hb dX12_told_111 rfl (lv_at hl 1 rfl) ?_
      have q_55 : (-2147483648) ≤ u_50.1 231 20 ∧ u_50.1 231 20 ≤ 2147483647 := iu_50.fi 20
      refine g_X12_270 Cx hW (k := 231) (by decide) rfl (v := u_50.1 231 20) rfl dX12_told_112 ?_
      refine r_if_ne (tgt := 136) hx hb ⟨(by omega), (by omega)⟩ dX12_told_115 (by decide) (fun c_56 => ?_) (fun c_56 => ?_)
      · refine lv_aload_n hx hb dX12_told_136 rfl (lv_at hl 1 rfl) ?_
        refine lv_bipush (v := iv 59) hx hb dX12_told_137 (by decide) ?_
        have q_57 : (-2147483648) ≤ u_50.1 231 24 ∧ u_50.1 231 24 ≤ 2147483647 := iu_50.fi 24
        refine sBv (sV (As := [.int (iv 59)]) (rest := []) (k := 231) Cx (c_X12_want l G u_50 (sv := 59) (K := K) (V := V) (T := T) (pz := u_50.1 231 24) (cd := 15) iu_50 (by omega) osg_59 ((funext fun j => ((fu_50 244 rfl).2.1 j).trans (((fu_11 244 rfl).2.1 j).trans (uF_a)) : u_50.2.1 244 = S.2.1 244).trans hK) ((funext fun j => ((fu_50 247 rfl).2.1 j).trans (((fu_11 247 rfl).2.1 j).trans (uF_a)) : u_50.2.1 247 = S.2.1 247).trans hV) hE (by omega) (fun h => by have e8 := (show u_50.1 231 20 = u_50.1 231 20 from rfl); have a9 := xu_50 (by have e9 := (show u_50.1 231 20 = u_50.1 231 20 from rfl); omega); omega)) (c_X12_331 Cx rfl rfl (rmk_ok (by omega) (by decide))) hW (by decide) rfl rfl rfl hl.1 rfl (Nat.le_of_ble_eq_true rfl) dX12_told_139 ⟨Nat.le_of_ble_eq_true rfl, Nat.le_of_ble_eq_true rfl⟩) hL (fun u_58 H locs k_59 hW hL => ?_)
        obtain ⟨iu_58, fu_58, gu_58, xu_58⟩ := k_59
        have F_60 := F_52.trans fu_58
        have g_61 : FF S u_58 (fl [20, 21, 24]) := FF.trans g_53 (FF.to gu_58 (fl_sub (by decide)))
        obtain ⟨xu_58, yu_58⟩ := xu_58
        have q_62 : (-2147483648) ≤ u_58.1 231 20 ∧ u_58.1 231 20 ≤ 2147483647 := iu_58.fi 20
        have q_63 : (-2147483648) ≤ u_58.1 231 24 ∧ u_58.1 231 24 ≤ 2147483647 := iu_58.fi 24
        exact sVret Cx hr hlk hW hL ⟨iu_58, F_60, g_61, ⟨(fun h => by have e8 := (show u_58.1 231 20 = u_58.1 231 20 from rfl); have e7 := (show u_58.1 231 24 = u_58.1 231 24 from rfl); have au_58 := xu_58 (by have e9 := (show u_58.1 231 20 = u_58.1 231 20 from rfl); omega); have au_50 := xu_50 (by omega); have au_11 := xu_11 (by omega); first | (exfalso; omega) | (have kw6 : ¬ (kr K V T) pz = 6 := (by omega); have kw8 : (kr K V T) pz = 8 := (by omega); exact ⟨(by omega), (by rw [e7]; (try rw [hc]); simp only [ogD, ogVs, kw6, kw8, au_11.2.1, au_50.2.1, au_58.2.1, reduceIte, Option.bind_some, Option.bind_none, or_true, true_or, or_self, or_false, false_or, Int.reduceEq, Option.some.injEq, reduceCtorEq]), by omega, by omega, by omega⟩)), (fun h h9 => by have e8 := (show u_58.1 231 20 = u_58.1 231 20 from rfl); first | (exfalso; omega) | (have kw6 : ¬ (kr K V T) pz = 6 := (by omega); have kw8 : (kr K V T) pz = 8 := (by omega); by_cases qu_11 : u_11.1 231 20 = 0; (have au_11 := xu_11 qu_11; first | (exfalso; omega) | (by_cases qu_50 : u_50.1 231 20 = 0; (have au_50 := xu_50 qu_50; first | (exfalso; omega) | (by_cases qu_58 : u_58.1 231 20 = 0; (have au_58 := xu_58 qu_58; first | (exfalso; omega) | (exfalso; omega)); (have bu_58 := yu_58 (by omega) qu_58; simp only [ogD, ogVs, kw6, kw8, au_11.2.1, au_50.2.1, bu_58, reduceIte, Option.bind_some, Option.bind_none, or_true, true_or, or_self, or_false, false_or, Int.reduceEq, Option.some.injEq, reduceCtorEq]))); (have bu_50 := yu_50 (by omega) qu_50; simp only [ogD, ogVs, kw6, kw8, au_11.2.1, bu_50, reduceIte, Option.bind_some, Option.bind_none, or_true, true_or, or_self, or_false, false_or, Int.reduceEq, Option.some.injEq, reduceCtorEq]))); (have bu_11 := yu_11 (by omega) qu_11; simp only [ogD, ogVs, kw6, kw8, bu_11, reduceIte, Option.bind_some, Option.bind_none, or_true, true_or, or_self, or_false, false_or, Int.reduceEq, Option.some.injEq, reduceCtorEq])))⟩⟩ dX12_told_142
      · have b_64 := xu_50 (by have e9 := (show u_50.1 231 20 = u_50.1 231 20 from rfl); omega)
        refine lv_aload_n hx hb dX12_told_118 rfl (lv_at hl 1 rfl) ?_
        refine lv_iconst (v := iv 5) hx hb dX12_told_119 (by decide) ?_
        have q_65 : (-2147483648) ≤ u_50.1 231 24 ∧ u_50.1 231 24 ≤ 2147483647 := iu_50.fi 24
        refine sBi (sV (As := [.int (iv 5)]) (rest := []) (k := 231) Cx (s_X12_isWord l G u_50 (sv := 5) (K := K) (V := V) (pz := u_50.1 231 24) iu_50 (by omega) ((funext fun j => ((fu_50 244 rfl).2.1 j).trans (((fu_11 244 rfl).2.1 j).trans (uF_a)) : u_50.2.1 244 = S.2.1 244).trans hK) ((funext fun j => ((fu_50 247 rfl).2.1 j).trans (((fu_11 247 rfl).2.1 j).trans (uF_a)) : u_50.2.1 247 = S.2.1 247).trans hV) (by omega) (by omega)) (c_X12_325 Cx rfl rfl (rmk_ok (by omega) (by decide))) hW (by decide) rfl rfl rfl hl.1 rfl (Nat.le_of_ble_eq_true rfl) dX12_told_120 ⟨Nat.le_of_ble_eq_true rfl, Nat.le_of_ble_eq_true rfl⟩) hL (fun r_68 u_66 H locs k_67 hW hL => ?_)
        obtain ⟨eu_66, xu_66⟩ := k_67
        rw [eu_66] at hW
        refine r_if_eq (tgt := 136) hx hb ⟨(by omega), (by omega)⟩ dX12_told_123 (by decide) (fun c_69 => ?_) (fun c_69 => ?_)
        · refine lv_aload_n hx hb dX12_told_136 rfl (lv_at hl 1 rfl) ?_
          refine lv_bipush (v := iv 59) hx hb dX12_told_137 (by decide) ?_
          refine sBv (sV (As := [.int (iv 59)]) (rest := []) (k := 231) Cx (c_X12_want l G u_50 (sv := 59) (K := K) (V := V) (T := T) (pz := u_50.1 231 24) (cd := 15) iu_50 (by omega) osg_59 ((funext fun j => ((fu_50 244 rfl).2.1 j).trans (((fu_11 244 rfl).2.1 j).trans (uF_a)) : u_50.2.1 244 = S.2.1 244).trans hK) ((funext fun j => ((fu_50 247 rfl).2.1 j).trans (((fu_11 247 rfl).2.1 j).trans (uF_a)) : u_50.2.1 247 = S.2.1 247).trans hV) hE (by omega) (fun h => by have e8 := (show u_50.1 231 20 = u_50.1 231 20 from rfl); have a9 := xu_50 (by have e9 := (show u_50.1 231 20 = u_50.1 231 20 from rfl); omega); omega)) (c_X12_331 Cx rfl rfl (rmk_ok (by omega) (by decide))) hW (by decide) rfl rfl rfl hl.1 rfl (Nat.le_of_ble_eq_true rfl) dX12_told_139 ⟨Nat.le_of_ble_eq_true rfl, Nat.le_of_ble_eq_true rfl⟩) hL (fun u_70 H locs k_71 hW hL => ?_)
          obtain ⟨iu_70, fu_70, gu_70, xu_70⟩ := k_71
          have F_72 := F_52.trans fu_70
          have g_73 : FF S u_70 (fl [20, 21, 24]) := FF.trans g_53 (FF.to gu_70 (fl_sub (by decide)))
          obtain ⟨xu_70, yu_70⟩ := xu_70
          have q_74 : (-2147483648) ≤ u_70.1 231 20 ∧ u_70.1 231 20 ≤ 2147483647 := iu_70.fi 20
          have q_75 : (-2147483648) ≤ u_70.1 231 24 ∧ u_70.1 231 24 ≤ 2147483647 := iu_70.fi 24
          exact sVret Cx hr hlk hW hL ⟨iu_70, F_72, g_73, ⟨(fun h => by have e8 := (show u_70.1 231 20 = u_70.1 231 20 from rfl); have e7 := (show u_70.1 231 24 = u_70.1 231 24 from rfl); have au_70 := xu_70 (by have e9 := (show u_70.1 231 20 = u_70.1 231 20 from rfl); omega); have au_50 := xu_50 (by omega); have au_11 := xu_11 (by omega); first | (exfalso; omega) | (have kw6 : ¬ (kr K V T) pz = 6 := (by omega); have kw8 : (kr K V T) pz = 8 := (by omega); have tu_66 : ¬ kr K V T (u_50.1 231 24) = 9 := fun z => xu_66.2.2 (by omega) (((wd_m (w := 5) (by decide)) K V T _).2 z); exact ⟨(by omega), (by rw [e7]; (try rw [hc]); simp only [ogD, ogVs, kw6, kw8, tu_66, au_11.2.1, au_50.2.1, au_70.2.1, reduceIte, Option.bind_some, Option.bind_none, or_true, true_or, or_self, or_false, false_or, Int.reduceEq, Option.some.injEq, reduceCtorEq]), by omega, by omega, by omega⟩)), (fun h h9 => by have e8 := (show u_70.1 231 20 = u_70.1 231 20 from rfl); first | (exfalso; omega) | (have kw6 : ¬ (kr K V T) pz = 6 := (by omega); have kw8 : (kr K V T) pz = 8 := (by omega); have tu_66 : ¬ kr K V T (u_50.1 231 24) = 9 := fun z => xu_66.2.2 (by omega) (((wd_m (w := 5) (by decide)) K V T _).2 z); by_cases qu_11 : u_11.1 231 20 = 0; (have au_11 := xu_11 qu_11; first | (exfalso; omega) | (by_cases qu_50 : u_50.1 231 20 = 0; (have au_50 := xu_50 qu_50; first | (exfalso; omega) | (by_cases qu_70 : u_70.1 231 20 = 0; (have au_70 := xu_70 qu_70; first | (exfalso; omega) | (exfalso; omega)); (have bu_70 := yu_70 (by omega) qu_70; simp only [ogD, ogVs, kw6, kw8, tu_66, au_11.2.1, au_50.2.1, bu_70, reduceIte, Option.bind_some, Option.bind_none, or_true, true_or, or_self, or_false, false_or, Int.reduceEq, Option.some.injEq, reduceCtorEq]))); (have bu_50 := yu_50 (by omega) qu_50; simp only [ogD, ogVs, kw6, kw8, tu_66, au_11.2.1, bu_50, reduceIte, Option.bind_some, Option.bind_none, or_true, true_or, or_self, or_false, false_or, Int.reduceEq, Option.some.injEq, reduceCtorEq]))); (have bu_11 := yu_11 (by omega) qu_11; simp only [ogD, ogVs, kw6, kw8, tu_66, bu_11, reduceIte, Option.bind_some, Option.bind_none, or_true, true_or, or_self, or_false, false_or, Int.reduceEq, Option.some.injEq, reduceCtorEq])))⟩⟩ dX12_told_142
        · refine lv_aload_n hx hb dX12_told_126 rfl (lv_at hl 1 rfl) ?_
          refine lv_dup hx hb dX12_told_127 rfl ?_
          refine g_X12_315 Cx hW (k := 231) (by decide) rfl (v := u_50.1 231 24) rfl dX12_told_128 ?_
          have n_76 := hE.nx (pz := u_50.1 231 24) (by omega) (by have z := (xu_66.2.1 (by omega)); unfold gW at z; omega)
          refine lv_iconst (v := iv 1) hx hb dX12_told_131 (by decide) ?_
          refine r_iadd hx hb dX12_told_132 ?_
          refine p_X12_315 Cx hW hL (k := 231) (by decide) rfl dX12_told_133 (fun H locs hW hL => ?_)
          have F_77 : Fr S (uF u_50 231 24 ((u_50.1 231 24) + 1)) (pl [231]) := F_52.F rfl
          have g_78 : FF S (uF u_50 231 24 ((u_50.1 231 24) + 1)) (fl [20, 21, 24]) := FF.F g_53 rfl
          have i_79 : dX G (uF u_50 231 24 ((u_50.1 231 24) + 1)) := iu_50.F (i := 24) (show (-2147483648) ≤ (u_50.1 231 24) + 1 ∧ (u_50.1 231 24) + 1 ≤ 2147483647 from ⟨by omega, by omega⟩)
          refine lv_aload_n hx hb dX12_told_136 rfl (lv_at hl 1 rfl) ?_
          refine lv_bipush (v := iv 59) hx hb dX12_told_137 (by decide) ?_
          have lk_80 : (uF u_50 231 24 ((u_50.1 231 24) + 1)).1 231 24 = (u_50.1 231 24) + 1 := uF_on
          have lk_81 : (uF u_50 231 24 ((u_50.1 231 24) + 1)).1 231 20 = u_50.1 231 20 := uF_ne (fun h => absurd h.2 (by decide))
          refine sBv (sV (As := [.int (iv 59)]) (rest := []) (k := 231) Cx (c_X12_want l G (uF u_50 231 24 ((u_50.1 231 24) + 1)) (sv := 59) (K := K) (V := V) (T := T) (pz := (u_50.1 231 24) + 1) (cd := 15) i_79 (by omega) osg_59 ((funext fun j => (uF_a).trans (((fu_50 244 rfl).2.1 j).trans (((fu_11 244 rfl).2.1 j).trans (uF_a))) : (uF u_50 231 24 ((u_50.1 231 24) + 1)).2.1 244 = S.2.1 244).trans hK) ((funext fun j => (uF_a).trans (((fu_50 247 rfl).2.1 j).trans (((fu_11 247 rfl).2.1 j).trans (uF_a))) : (uF u_50 231 24 ((u_50.1 231 24) + 1)).2.1 247 = S.2.1 247).trans hV) hE (by omega) (fun h => by have e8 := (show (uF u_50 231 24 ((u_50.1 231 24) + 1)).1 231 20 = u_50.1 231 20 from uF_ne (fun h => absurd h.2 (by decide))); have a9 := xu_50 (by have e9 := (show (uF u_50 231 24 ((u_50.1 231 24) + 1)).1 231 20 = u_50.1 231 20 from uF_ne (fun h => absurd h.2 (by decide))); omega); omega)) (c_X12_331 Cx rfl rfl (rmk_ok (by omega) (by decide))) hW (by decide) rfl rfl rfl hl.1 rfl (Nat.le_of_ble_eq_true rfl) dX12_told_139 ⟨Nat.le_of_ble_eq_true rfl, Nat.le_of_ble_eq_true rfl⟩) hL (fun u_82 H locs k_83 hW hL => ?_)
          obtain ⟨iu_82, fu_82, gu_82, xu_82⟩ := k_83
          have F_84 := F_77.trans fu_82
          have g_85 : FF S u_82 (fl [20, 21, 24]) := FF.trans g_78 (FF.to gu_82 (fl_sub (by decide)))
          obtain ⟨xu_82, yu_82⟩ := xu_82
          have q_86 : (-2147483648) ≤ u_82.1 231 20 ∧ u_82.1 231 20 ≤ 2147483647 := iu_82.fi 20
          have q_87 : (-2147483648) ≤ u_82.1 231 24 ∧ u_82.1 231 24 ≤ 2147483647 := iu_82.fi 24
          exact sVret Cx hr hlk hW hL ⟨iu_82, F_84, g_85, ⟨(fun h => by have e8 := (show u_82.1 231 20 = u_82.1 231 20 from rfl); have e7 := (show u_82.1 231 24 = u_82.1 231 24 from rfl); have au_82 := xu_82 (by have e9 := (show u_82.1 231 20 = u_82.1 231 20 from rfl); omega); have au_50 := xu_50 (by omega); have au_11 := xu_11 (by omega); first | (exfalso; omega) | (have kw6 : ¬ (kr K V T) pz = 6 := (by omega); have kw8 : (kr K V T) pz = 8 := (by omega); have tu_66 : kr K V T (u_50.1 231 24) = 9 := ((wd_m (w := 5) (by decide)) K V T _).1 (by omega) (by omega) (xu_66.2.1 (by omega)); exact ⟨(by omega), (by rw [e7]; (try rw [hc]); simp only [ogD, ogVs, kw6, kw8, tu_66, au_11.2.1, au_50.2.1, au_82.2.1, reduceIte, Option.bind_some, Option.bind_none, or_true, true_or, or_self, or_false, false_or, Int.reduceEq, Option.some.injEq, reduceCtorEq]), by omega, by omega, by omega⟩)), (fun h h9 => by have e8 := (show u_82.1 231 20 = u_82.1 231 20 from rfl); first | (exfalso; omega) | (have kw6 : ¬ (kr K V T) pz = 6 := (by omega); have kw8 : (kr K V T) pz = 8 := (by omega); have tu_66 : kr K V T (u_50.1 231 24) = 9 := ((wd_m (w := 5) (by decide)) K V T _).1 (by omega) (by omega) (xu_66.2.1 (by omega)); by_cases qu_11 : u_11.1 231 20 = 0; (have au_11 := xu_11 qu_11; first | (exfalso; omega) | (by_cases qu_50 : u_50.1 231 20 = 0; (have au_50 := xu_50 qu_50; first | (exfalso; omega) | (by_cases qu_82 : u_82.1 231 20 = 0; (have au_82 := xu_82 qu_82; first | (exfalso; omega) | (exfalso; omega)); (have bu_82 := yu_82 (by omega) qu_82; simp only [ogD, ogVs, kw6, kw8, tu_66, au_11.2.1, au_50.2.1, bu_82, reduceIte, Option.bind_some, Option.bind_none, or_true, true_or, or_self, or_false, false_or, Int.reduceEq, Option.some.injEq, reduceCtorEq]))); (have bu_50 := yu_50 (by omega) qu_50; simp only [ogD, ogVs, kw6, kw8, tu_66, au_11.2.1, bu_50, reduceIte, Option.bind_some, Option.bind_none, or_true, true_or, or_self, or_false, false_or, Int.reduceEq, Option.some.injEq, reduceCtorEq]))); (have bu_11 := yu_11 (by omega) qu_11; simp only [ogD, ogVs, kw6, kw8, tu_66, bu_11, reduceIte, Option.bind_some, Option.bind_none, or_true, true_or, or_self, or_false, false_or, Int.reduceEq, Option.some.injEq, reduceCtorEq])))⟩⟩ dX12_told_142
    · refine lv_aload_n hx hb dX12_told_68 rfl (lv_at hl 1 rfl) ?_
      refine lv_bipush (v := iv 61) hx hb dX12_told_69 (by decide) ?_
      have q_88 : (-2147483648) ≤ u_50.1 231 24 ∧ u_50.1 231 24 ≤ 2147483647 := iu_50.fi 24
      have q_89 : (-2147483648) ≤ u_50.1 231 20 ∧ u_50.1 231 20 ≤ 2147483647 := iu_50.fi 20
      refine sBv (sV (As := [.int (iv 61)]) (rest := []) (k := 231) Cx (c_X12_want l G u_50 (sv := 61) (K := K) (V := V) (T := T) (pz := u_50.1 231 24) (cd := 13) iu_50 (by omega) osg_61 ((funext fun j => ((fu_50 244 rfl).2.1 j).trans (((fu_11 244 rfl).2.1 j).trans (uF_a)) : u_50.2.1 244 = S.2.1 244).trans hK) ((funext fun j => ((fu_50 247 rfl).2.1 j).trans (((fu_11 247 rfl).2.1 j).trans (uF_a)) : u_50.2.1 247 = S.2.1 247).trans hV) hE (by omega) (fun h => by have e8 := (show u_50.1 231 20 = u_50.1 231 20 from rfl); have a9 := xu_50 (by have e9 := (show u_50.1 231 20 = u_50.1 231 20 from rfl); omega); omega)) (c_X12_331 Cx rfl rfl (rmk_ok (by omega) (by decide))) hW (by decide) rfl rfl rfl hl.1 rfl (Nat.le_of_ble_eq_true rfl) dX12_told_71 ⟨Nat.le_of_ble_eq_true rfl, Nat.le_of_ble_eq_true rfl⟩) hL (fun u_90 H locs k_91 hW hL => ?_)
      obtain ⟨iu_90, fu_90, gu_90, xu_90⟩ := k_91
      have F_92 := F_52.trans fu_90
      have g_93 : FF S u_90 (fl [20, 21, 24]) := FF.trans g_53 (FF.to gu_90 (fl_sub (by decide)))
      obtain ⟨xu_90, yu_90⟩ := xu_90
      refine lv_aload_n hx hb dX12_told_74 rfl (lv_at hl 1 rfl) ?_
      have q_94 : (-2147483648) ≤ u_90.1 231 24 ∧ u_90.1 231 24 ≤ 2147483647 := iu_90.fi 24
      have q_95 : (-2147483648) ≤ u_90.1 231 20 ∧ u_90.1 231 20 ≤ 2147483647 := iu_90.fi 20
      refine sBv (sV (As := []) (rest := []) (k := 231) Cx (c_X12_valueRead l G u_90 (K := K) (V := V) (T := T) (pz := u_90.1 231 24) iu_90 ((funext fun j => ((fu_90 244 rfl).2.1 j).trans (((fu_50 244 rfl).2.1 j).trans (((fu_11 244 rfl).2.1 j).trans (uF_a))) : u_90.2.1 244 = S.2.1 244).trans hK) ((funext fun j => ((fu_90 247 rfl).2.1 j).trans (((fu_50 247 rfl).2.1 j).trans (((fu_11 247 rfl).2.1 j).trans (uF_a))) : u_90.2.1 247 = S.2.1 247).trans hV) hE (by omega) (fun h => by have e8 := (show u_90.1 231 20 = u_90.1 231 20 from rfl); have a9 := xu_90 (by have e9 := (show u_90.1 231 20 = u_90.1 231 20 from rfl); omega); omega)) (c_X12_346 Cx rfl rfl (rmk_ok (by omega) (by decide))) hW (by decide) rfl rfl rfl hl.1 rfl (Nat.le_of_ble_eq_true rfl) dX12_told_75 ⟨Nat.le_of_ble_eq_true rfl, Nat.le_of_ble_eq_true rfl⟩) hL (fun u_96 H locs k_97 hW hL => ?_)
      obtain ⟨iu_96, fu_96, gu_96, xu_96⟩ := k_97
      have F_98 := F_92.trans fu_96
      have g_99 : FF S u_96 (fl [20, 21, 24]) := FF.trans g_93 (FF.to gu_96 (fl_sub (by decide)))
      obtain ⟨xu_96, yu_96⟩ := xu_96
      have loop_78 : ∀ (fuel : Nat) (S78 : sS)  (H : Heap) (locs : List Loc) (ls : Array Slot), mf S78 T < fuel → (dX G S78) → (Fr S S78 (pl [231])) → (Fr u_96 S78 (pl [231])) → (FF S S78 (fl [20, 21, 24])) → (FF u_96 S78 (fl [20, 21, 24])) → (Hd (S78.1 231 20 = 0 → 0 ≤ S78.1 231 24 ∧ S78.1 231 24 ≤ T - 1)) → (Hd (S78.1 231 20 = 0 → u_96.1 231 20 = 0 ∧ ogW T (fun p => kr K V T p = 16) (fun p => ogV (kr K V T) (p + 1)) (u_96.1 231 24) = ogW T (fun p => kr K V T p = 16) (fun p => ogV (kr K V T) (p + 1)) (S78.1 231 24) ∧ u_96.1 231 24 ≤ S78.1 231 24)) → (Hd (u_96.1 231 20 = 0 → S78.1 231 20 ≠ 0 → ogW T (fun p => kr K V T p = 16) (fun p => ogV (kr K V T) (p + 1)) (u_96.1 231 24) = none)) → sW G 294 S78 H → sL G locs → lv_has ls 2 [(1, .int (iv (S.2.1 247 (S.1 231 24)))), (0, .ref (G.2.2.1 + 231))] → W p l e (rmk 4 0 0) s m args below meth c H locs 0 0 (MQ below (sQv G 294 (fun u => dX G u ∧ Fr S u (pl [231]) ∧ FF S u (fl [20, 21, 24]) ∧ (Hd (u.1 231 20 = 0 → S.1 231 20 = 0 ∧ ogD T (kr K V T) pz = some (u.1 231 24) ∧ pz < u.1 231 24 ∧ 0 ≤ u.1 231 24 ∧ u.1 231 24 ≤ T - 1) ∧ Hd (S.1 231 20 = 0 → u.1 231 20 ≠ 0 → ogD T (kr K V T) pz = none)))) args s 0 0 (sF G)) (F0 m 78 ls []) := by
        intro fuel
        induction fuel with
        | zero => intro S78  H locs ls hmeas hI78 hFm78 hL78_ hGm78 gL78_ hcu78 hH78 hN78 hW hL hl; exact absurd hmeas (Nat.not_lt_zero _)
        | succ fuel ih_78 =>
          intro S78  H locs ls hmeas hI78 hFm78 hL78_ hGm78 gL78_ hcu78 hH78 hN78 hW hL hl
          refine lv_aload_n hx hb dX12_told_78 rfl (lv_at hl 1 rfl) ?_
          have q_100 : (-2147483648) ≤ S78.1 231 20 ∧ S78.1 231 20 ≤ 2147483647 := hI78.fi 20
          refine g_X12_270 Cx hW (k := 231) (by decide) rfl (v := S78.1 231 20) rfl dX12_told_79 ?_
          refine r_if_ne (tgt := 136) hx hb ⟨(by omega), (by omega)⟩ dX12_told_82 (by decide) (fun c_101 => ?_) (fun c_101 => ?_)
          · refine lv_aload_n hx hb dX12_told_136 rfl (lv_at hl 1 rfl) ?_
            refine lv_bipush (v := iv 59) hx hb dX12_told_137 (by decide) ?_
            have q_102 : (-2147483648) ≤ S78.1 231 24 ∧ S78.1 231 24 ≤ 2147483647 := hI78.fi 24
            refine sBv (sV (As := [.int (iv 59)]) (rest := []) (k := 231) Cx (c_X12_want l G S78 (sv := 59) (K := K) (V := V) (T := T) (pz := S78.1 231 24) (cd := 15) hI78 (by omega) osg_59 ((funext fun j => ((hL78_ 244 rfl).2.1 j).trans (((fu_96 244 rfl).2.1 j).trans (((fu_90 244 rfl).2.1 j).trans (((fu_50 244 rfl).2.1 j).trans (((fu_11 244 rfl).2.1 j).trans (uF_a))))) : S78.2.1 244 = S.2.1 244).trans hK) ((funext fun j => ((hL78_ 247 rfl).2.1 j).trans (((fu_96 247 rfl).2.1 j).trans (((fu_90 247 rfl).2.1 j).trans (((fu_50 247 rfl).2.1 j).trans (((fu_11 247 rfl).2.1 j).trans (uF_a))))) : S78.2.1 247 = S.2.1 247).trans hV) hE (by omega) (fun h => by have e8 := (show S78.1 231 20 = S78.1 231 20 from rfl); have a9 := hcu78 (by have e9 := (show S78.1 231 20 = S78.1 231 20 from rfl); omega); omega)) (c_X12_331 Cx rfl rfl (rmk_ok (by omega) (by decide))) hW (by decide) rfl rfl rfl hl.1 rfl (Nat.le_of_ble_eq_true rfl) dX12_told_139 ⟨Nat.le_of_ble_eq_true rfl, Nat.le_of_ble_eq_true rfl⟩) hL (fun u_103 H locs k_104 hW hL => ?_)
            obtain ⟨iu_103, fu_103, gu_103, xu_103⟩ := k_104
            have F_105 := hFm78.trans fu_103
            have F_106 := hL78_.trans fu_103
            have g_107 : FF S u_103 (fl [20, 21, 24]) := FF.trans hGm78 (FF.to gu_103 (fl_sub (by decide)))
            have g_108 : FF u_96 u_103 (fl [20, 21, 24]) := FF.trans gL78_ (FF.to gu_103 (fl_sub (by decide)))
            obtain ⟨xu_103, yu_103⟩ := xu_103
            have q_109 : (-2147483648) ≤ u_103.1 231 20 ∧ u_103.1 231 20 ≤ 2147483647 := iu_103.fi 20
            have q_110 : (-2147483648) ≤ u_103.1 231 24 ∧ u_103.1 231 24 ≤ 2147483647 := iu_103.fi 24
            exact sVret Cx hr hlk hW hL ⟨iu_103, F_105, g_107, ⟨(fun h => by have e8 := (show u_103.1 231 20 = u_103.1 231 20 from rfl); have e7 := (show u_103.1 231 24 = u_103.1 231 24 from rfl); have au_103 := xu_103 (by have e9 := (show u_103.1 231 20 = u_103.1 231 20 from rfl); omega); have aS78 := hH78 (by omega); have au_96 := xu_96 (by omega); have au_90 := xu_90 (by omega); have au_50 := xu_50 (by omega); have au_11 := xu_11 (by omega); first | (exfalso; omega) | (have kw6 : ¬ (kr K V T) pz = 6 := (by omega); have kw8 : ¬ (kr K V T) pz = 8 := (by omega); exact ⟨(by omega), (by rw [e7]; (try rw [hc]); simp only [ogD, ogVs, kw6, kw8, au_11.2.1, au_50.2.1, au_90.2.1, au_96.2.1, aS78.2.1, au_103.2.1, reduceIte, Option.bind_some, Option.bind_none, or_true, true_or, or_self, or_false, false_or, Int.reduceEq, Option.some.injEq, reduceCtorEq]), by omega, by omega, by omega⟩)), (fun h h9 => by have e8 := (show u_103.1 231 20 = u_103.1 231 20 from rfl); first | (exfalso; omega) | (have kw6 : ¬ (kr K V T) pz = 6 := (by omega); have kw8 : ¬ (kr K V T) pz = 8 := (by omega); by_cases qu_11 : u_11.1 231 20 = 0; (have au_11 := xu_11 qu_11; first | (exfalso; omega) | (by_cases qu_50 : u_50.1 231 20 = 0; (have au_50 := xu_50 qu_50; first | (exfalso; omega) | (by_cases qu_90 : u_90.1 231 20 = 0; (have au_90 := xu_90 qu_90; first | (exfalso; omega) | (by_cases qu_96 : u_96.1 231 20 = 0; (have au_96 := xu_96 qu_96; first | (exfalso; omega) | (by_cases qS78 : S78.1 231 20 = 0; (have aS78 := hH78 qS78; first | (exfalso; omega) | (by_cases qu_103 : u_103.1 231 20 = 0; (have au_103 := xu_103 qu_103; first | (exfalso; omega) | (exfalso; omega)); (have bu_103 := yu_103 (by omega) qu_103; simp only [ogD, ogVs, kw6, kw8, au_11.2.1, au_50.2.1, au_90.2.1, au_96.2.1, aS78.2.1, bu_103, reduceIte, Option.bind_some, Option.bind_none, or_true, true_or, or_self, or_false, false_or, Int.reduceEq, Option.some.injEq, reduceCtorEq]))); (have bS78 := hN78 (by omega) qS78; simp only [ogD, ogVs, kw6, kw8, au_11.2.1, au_50.2.1, au_90.2.1, au_96.2.1, bS78, reduceIte, Option.bind_some, Option.bind_none, or_true, true_or, or_self, or_false, false_or, Int.reduceEq, Option.some.injEq, reduceCtorEq]))); (have bu_96 := yu_96 (by omega) qu_96; simp only [ogD, ogVs, kw6, kw8, au_11.2.1, au_50.2.1, au_90.2.1, bu_96, reduceIte, Option.bind_some, Option.bind_none, or_true, true_or, or_self, or_false, false_or, Int.reduceEq, Option.some.injEq, reduceCtorEq]))); (have bu_90 := yu_90 (by omega) qu_90; simp only [ogD, ogVs, kw6, kw8, au_11.2.1, au_50.2.1, bu_90, reduceIte, Option.bind_some, Option.bind_none, or_true, true_or, or_self, or_false, false_or, Int.reduceEq, Option.some.injEq, reduceCtorEq]))); (have bu_50 := yu_50 (by omega) qu_50; simp only [ogD, ogVs, kw6, kw8, au_11.2.1, bu_50, reduceIte, Option.bind_some, Option.bind_none, or_true, true_or, or_self, or_false, false_or, Int.reduceEq, Option.some.injEq, reduceCtorEq]))); (have bu_11 := yu_11 (by omega) qu_11; simp only [ogD, ogVs, kw6, kw8, bu_11, reduceIte, Option.bind_some, Option.bind_none, or_true, true_or, or_self, or_false, false_or, Int.reduceEq, Option.some.injEq, reduceCtorEq])))⟩⟩ dX12_told_142
          · have b_111 := hcu78 (by have e9 := (show S78.1 231 20 = S78.1 231 20 from rfl); omega)
            refine lv_aload_n hx hb dX12_told_85 rfl (lv_at hl 1 rfl) ?_
            refine lv_bipush (v := iv 44) hx hb dX12_told_86 (by decide) ?_
            have q_112 : (-2147483648) ≤ S78.1 231 24 ∧ S78.1 231 24 ≤ 2147483647 := hI78.fi 24
            refine sBi (sV (As := [.int (iv 44)]) (rest := []) (k := 231) Cx (s_X12_isSign l G S78 (sv := 44) (K := K) (V := V) (pz := S78.1 231 24) hI78 (by omega) ((funext fun j => ((hL78_ 244 rfl).2.1 j).trans (((fu_96 244 rfl).2.1 j).trans (((fu_90 244 rfl).2.1 j).trans (((fu_50 244 rfl).2.1 j).trans (((fu_11 244 rfl).2.1 j).trans (uF_a))))) : S78.2.1 244 = S.2.1 244).trans hK) ((funext fun j => ((hL78_ 247 rfl).2.1 j).trans (((fu_96 247 rfl).2.1 j).trans (((fu_90 247 rfl).2.1 j).trans (((fu_50 247 rfl).2.1 j).trans (((fu_11 247 rfl).2.1 j).trans (uF_a))))) : S78.2.1 247 = S.2.1 247).trans hV) (by omega) (by omega)) (c_X12_318 Cx rfl rfl (rmk_ok (by omega) (by decide))) hW (by decide) rfl rfl rfl hl.1 rfl (Nat.le_of_ble_eq_true rfl) dX12_told_88 ⟨Nat.le_of_ble_eq_true rfl, Nat.le_of_ble_eq_true rfl⟩) hL (fun r_115 u_113 H locs k_114 hW hL => ?_)
            obtain ⟨eu_113, xu_113⟩ := k_114
            rw [eu_113] at hW
            refine r_if_eq (tgt := 136) hx hb ⟨(by omega), (by omega)⟩ dX12_told_91 (by decide) (fun c_116 => ?_) (fun c_116 => ?_)
            · refine lv_aload_n hx hb dX12_told_136 rfl (lv_at hl 1 rfl) ?_
              refine lv_bipush (v := iv 59) hx hb dX12_told_137 (by decide) ?_
              refine sBv (sV (As := [.int (iv 59)]) (rest := []) (k := 231) Cx (c_X12_want l G S78 (sv := 59) (K := K) (V := V) (T := T) (pz := S78.1 231 24) (cd := 15) hI78 (by omega) osg_59 ((funext fun j => ((hL78_ 244 rfl).2.1 j).trans (((fu_96 244 rfl).2.1 j).trans (((fu_90 244 rfl).2.1 j).trans (((fu_50 244 rfl).2.1 j).trans (((fu_11 244 rfl).2.1 j).trans (uF_a))))) : S78.2.1 244 = S.2.1 244).trans hK) ((funext fun j => ((hL78_ 247 rfl).2.1 j).trans (((fu_96 247 rfl).2.1 j).trans (((fu_90 247 rfl).2.1 j).trans (((fu_50 247 rfl).2.1 j).trans (((fu_11 247 rfl).2.1 j).trans (uF_a))))) : S78.2.1 247 = S.2.1 247).trans hV) hE (by omega) (fun h => by have e8 := (show S78.1 231 20 = S78.1 231 20 from rfl); have a9 := hcu78 (by have e9 := (show S78.1 231 20 = S78.1 231 20 from rfl); omega); omega)) (c_X12_331 Cx rfl rfl (rmk_ok (by omega) (by decide))) hW (by decide) rfl rfl rfl hl.1 rfl (Nat.le_of_ble_eq_true rfl) dX12_told_139 ⟨Nat.le_of_ble_eq_true rfl, Nat.le_of_ble_eq_true rfl⟩) hL (fun u_117 H locs k_118 hW hL => ?_)
              obtain ⟨iu_117, fu_117, gu_117, xu_117⟩ := k_118
              have F_119 := hFm78.trans fu_117
              have F_120 := hL78_.trans fu_117
              have g_121 : FF S u_117 (fl [20, 21, 24]) := FF.trans hGm78 (FF.to gu_117 (fl_sub (by decide)))
              have g_122 : FF u_96 u_117 (fl [20, 21, 24]) := FF.trans gL78_ (FF.to gu_117 (fl_sub (by decide)))
              obtain ⟨xu_117, yu_117⟩ := xu_117
              have q_123 : (-2147483648) ≤ u_117.1 231 20 ∧ u_117.1 231 20 ≤ 2147483647 := iu_117.fi 20
              have q_124 : (-2147483648) ≤ u_117.1 231 24 ∧ u_117.1 231 24 ≤ 2147483647 := iu_117.fi 24
              exact sVret Cx hr hlk hW hL ⟨iu_117, F_119, g_121, ⟨(fun h => by have e8 := (show u_117.1 231 20 = u_117.1 231 20 from rfl); have e7 := (show u_117.1 231 24 = u_117.1 231 24 from rfl); have au_117 := xu_117 (by have e9 := (show u_117.1 231 20 = u_117.1 231 20 from rfl); omega); have aS78 := hH78 (by omega); have au_96 := xu_96 (by omega); have au_90 := xu_90 (by omega); have au_50 := xu_50 (by omega); have au_11 := xu_11 (by omega); first | (exfalso; omega) | (have kw6 : ¬ (kr K V T) pz = 6 := (by omega); have kw8 : ¬ (kr K V T) pz = 8 := (by omega); have tu_113 : ¬ kr K V T (S78.1 231 24) = 16 := fun z => xu_113.2.2 (by omega) ((osg_44 K V T _).2 z); exact ⟨(by omega), (by rw [e7]; (try rw [hc]); simp only [ogD, ogVs, kw6, kw8, tu_113, au_11.2.1, au_50.2.1, au_90.2.1, au_96.2.1, (aS78.2.1.trans (ogW_no (st := fun p => kr K V T p = 16) tu_113)), au_117.2.1, reduceIte, Option.bind_some, Option.bind_none, or_true, true_or, or_self, or_false, false_or, Int.reduceEq, Option.some.injEq, reduceCtorEq]), by omega, by omega, by omega⟩)), (fun h h9 => by have e8 := (show u_117.1 231 20 = u_117.1 231 20 from rfl); first | (exfalso; omega) | (have kw6 : ¬ (kr K V T) pz = 6 := (by omega); have kw8 : ¬ (kr K V T) pz = 8 := (by omega); have tu_113 : ¬ kr K V T (S78.1 231 24) = 16 := fun z => xu_113.2.2 (by omega) ((osg_44 K V T _).2 z); by_cases qu_11 : u_11.1 231 20 = 0; (have au_11 := xu_11 qu_11; first | (exfalso; omega) | (by_cases qu_50 : u_50.1 231 20 = 0; (have au_50 := xu_50 qu_50; first | (exfalso; omega) | (by_cases qu_90 : u_90.1 231 20 = 0; (have au_90 := xu_90 qu_90; first | (exfalso; omega) | (by_cases qu_96 : u_96.1 231 20 = 0; (have au_96 := xu_96 qu_96; first | (exfalso; omega) | (by_cases qS78 : S78.1 231 20 = 0; (have aS78 := hH78 qS78; first | (exfalso; omega) | (by_cases qu_117 : u_117.1 231 20 = 0; (have au_117 := xu_117 qu_117; first | (exfalso; omega) | (exfalso; omega)); (have bu_117 := yu_117 (by omega) qu_117; simp only [ogD, ogVs, kw6, kw8, tu_113, au_11.2.1, au_50.2.1, au_90.2.1, au_96.2.1, (aS78.2.1.trans (ogW_no (st := fun p => kr K V T p = 16) tu_113)), bu_117, reduceIte, Option.bind_some, Option.bind_none, or_true, true_or, or_self, or_false, false_or, Int.reduceEq, Option.some.injEq, reduceCtorEq]))); (have bS78 := hN78 (by omega) qS78; simp only [ogD, ogVs, kw6, kw8, tu_113, au_11.2.1, au_50.2.1, au_90.2.1, au_96.2.1, bS78, reduceIte, Option.bind_some, Option.bind_none, or_true, true_or, or_self, or_false, false_or, Int.reduceEq, Option.some.injEq, reduceCtorEq]))); (have bu_96 := yu_96 (by omega) qu_96; simp only [ogD, ogVs, kw6, kw8, tu_113, au_11.2.1, au_50.2.1, au_90.2.1, bu_96, reduceIte, Option.bind_some, Option.bind_none, or_true, true_or, or_self, or_false, false_or, Int.reduceEq, Option.some.injEq, reduceCtorEq]))); (have bu_90 := yu_90 (by omega) qu_90; simp only [ogD, ogVs, kw6, kw8, tu_113, au_11.2.1, au_50.2.1, bu_90, reduceIte, Option.bind_some, Option.bind_none, or_true, true_or, or_self, or_false, false_or, Int.reduceEq, Option.some.injEq, reduceCtorEq]))); (have bu_50 := yu_50 (by omega) qu_50; simp only [ogD, ogVs, kw6, kw8, tu_113, au_11.2.1, bu_50, reduceIte, Option.bind_some, Option.bind_none, or_true, true_or, or_self, or_false, false_or, Int.reduceEq, Option.some.injEq, reduceCtorEq]))); (have bu_11 := yu_11 (by omega) qu_11; simp only [ogD, ogVs, kw6, kw8, tu_113, bu_11, reduceIte, Option.bind_some, Option.bind_none, or_true, true_or, or_self, or_false, false_or, Int.reduceEq, Option.some.injEq, reduceCtorEq])))⟩⟩ dX12_told_142
            · refine lv_aload_n hx hb dX12_told_94 rfl (lv_at hl 1 rfl) ?_
              refine lv_dup hx hb dX12_told_95 rfl ?_
              refine g_X12_315 Cx hW (k := 231) (by decide) rfl (v := S78.1 231 24) rfl dX12_told_96 ?_
              have n_125 := hE.nx (pz := S78.1 231 24) (by omega) (by have z := (xu_113.2.1 (by omega)); unfold gS at z; omega)
              refine lv_iconst (v := iv 1) hx hb dX12_told_99 (by decide) ?_
              refine r_iadd hx hb dX12_told_100 ?_
              refine p_X12_315 Cx hW hL (k := 231) (by decide) rfl dX12_told_101 (fun H locs hW hL => ?_)
              have F_126 : Fr S (uF S78 231 24 ((S78.1 231 24) + 1)) (pl [231]) := hFm78.F rfl
              have F_127 : Fr u_96 (uF S78 231 24 ((S78.1 231 24) + 1)) (pl [231]) := hL78_.F rfl
              have g_128 : FF S (uF S78 231 24 ((S78.1 231 24) + 1)) (fl [20, 21, 24]) := FF.F hGm78 rfl
              have g_129 : FF u_96 (uF S78 231 24 ((S78.1 231 24) + 1)) (fl [20, 21, 24]) := FF.F gL78_ rfl
              have i_130 : dX G (uF S78 231 24 ((S78.1 231 24) + 1)) := hI78.F (i := 24) (show (-2147483648) ≤ (S78.1 231 24) + 1 ∧ (S78.1 231 24) + 1 ≤ 2147483647 from ⟨by omega, by omega⟩)
              refine lv_aload_n hx hb dX12_told_104 rfl (lv_at hl 1 rfl) ?_
              have lk_131 : (uF S78 231 24 ((S78.1 231 24) + 1)).1 231 24 = (S78.1 231 24) + 1 := uF_on
              have lk_132 : (uF S78 231 24 ((S78.1 231 24) + 1)).1 231 20 = S78.1 231 20 := uF_ne (fun h => absurd h.2 (by decide))
              refine sBv (sV (As := []) (rest := []) (k := 231) Cx (c_X12_valueRead l G (uF S78 231 24 ((S78.1 231 24) + 1)) (K := K) (V := V) (T := T) (pz := (S78.1 231 24) + 1) i_130 ((funext fun j => (uF_a).trans (((hL78_ 244 rfl).2.1 j).trans (((fu_96 244 rfl).2.1 j).trans (((fu_90 244 rfl).2.1 j).trans (((fu_50 244 rfl).2.1 j).trans (((fu_11 244 rfl).2.1 j).trans (uF_a)))))) : (uF S78 231 24 ((S78.1 231 24) + 1)).2.1 244 = S.2.1 244).trans hK) ((funext fun j => (uF_a).trans (((hL78_ 247 rfl).2.1 j).trans (((fu_96 247 rfl).2.1 j).trans (((fu_90 247 rfl).2.1 j).trans (((fu_50 247 rfl).2.1 j).trans (((fu_11 247 rfl).2.1 j).trans (uF_a)))))) : (uF S78 231 24 ((S78.1 231 24) + 1)).2.1 247 = S.2.1 247).trans hV) hE (by omega) (fun h => by have e8 := (show (uF S78 231 24 ((S78.1 231 24) + 1)).1 231 20 = S78.1 231 20 from uF_ne (fun h => absurd h.2 (by decide))); have a9 := hcu78 (by have e9 := (show (uF S78 231 24 ((S78.1 231 24) + 1)).1 231 20 = S78.1 231 20 from uF_ne (fun h => absurd h.2 (by decide))); omega); omega)) (c_X12_346 Cx rfl rfl (rmk_ok (by omega) (by decide))) hW (by decide) rfl rfl rfl hl.1 rfl (Nat.le_of_ble_eq_true rfl) dX12_told_105 ⟨Nat.le_of_ble_eq_true rfl, Nat.le_of_ble_eq_true rfl⟩) hL (fun u_133 H locs k_134 hW hL => ?_)
              obtain ⟨iu_133, fu_133, gu_133, xu_133⟩ := k_134
              have F_135 := F_126.trans fu_133
              have F_136 := F_127.trans fu_133
              have g_137 : FF S u_133 (fl [20, 21, 24]) := FF.trans g_128 (FF.to gu_133 (fl_sub (by decide)))
              have g_138 : FF u_96 u_133 (fl [20, 21, 24]) := FF.trans g_129 (FF.to gu_133 (fl_sub (by decide)))
              obtain ⟨xu_133, yu_133⟩ := xu_133
              refine lv_goto (tgt := 78) hx hb dX12_told_108 (by decide) ?_
              have q_139 : (-2147483648) ≤ u_133.1 231 20 ∧ u_133.1 231 20 ≤ 2147483647 := iu_133.fi 20
              have q_140 : (-2147483648) ≤ u_133.1 231 24 ∧ u_133.1 231 24 ≤ 2147483647 := iu_133.fi 24
              exact ih_78 u_133  _ _ _ (Nat.lt_of_lt_of_le (mf_lt (S := S78) (by omega) (by omega) (fun h => by have a9 := xu_133 h; omega)) (Nat.le_of_lt_succ hmeas)) iu_133 F_135 F_136 g_137 g_138 (fun h => by have a9 := xu_133 h; omega) (fun h => by have a9 := xu_133 h; have a8 := hH78 (by omega); exact ⟨a8.1, a8.2.1.trans (ogW16 kr_out ((osg_44 K V T _).1 (by omega) (by omega) (xu_113.2.1 (by omega))) a9.2.1), by omega⟩) (fun h h9 => by have a8 := hH78 (by omega); have b9 := yu_133 (by omega) h9; exact a8.2.1.trans (ogW_fa ((osg_44 K V T _).1 (by omega) (by omega) (xu_113.2.1 (by omega))) b9)) hW hL (lv_sub hl [0, 1] rfl)
      have q_141 : (-2147483648) ≤ u_96.1 231 20 ∧ u_96.1 231 20 ≤ 2147483647 := iu_96.fi 20
      have q_142 : (-2147483648) ≤ u_96.1 231 24 ∧ u_96.1 231 24 ≤ 2147483647 := iu_96.fi 24
      exact loop_78 (_ + 1) u_96  _ _ _ (Nat.lt_succ_self _) iu_96 F_98 Fr.rf g_99 FF.rf (fun h => by have a9 := xu_96 h; omega) (fun h => ⟨h, rfl, Int.le_refl _⟩) (fun h h9 => absurd h h9) hW hL (lv_sub hl [0, 1] rfl)

set_option maxRecDepth 100000 in
set_option maxHeartbeats 4000000 in
theorem c_X12_factorRead (l : Launch) (G : sG) (S : sS) {K V : Int → Int} {T pz : Int} {D d1 d2 N : Nat} {dp : Int} (hI : dX G S) (hN : (N : Int) = 30 - dp ∧ 0 ≤ dp) (h1 : d1 < D) (h2 : d2 < D) (h8 : 8 ≤ D) (hF : Hd (∀ n, N = n + 1 → CFr l G d1 K V T n)) (hU : Hd (∀ n, N = n + 1 → CSu l G d2 K V T n)) (hK : S.2.1 244 = K) (hV : S.2.1 247 = V) (hE : gE K T) (hc : S.1 231 24 = pz) (hcu : Hd (S.1 231 20 = 0 → 0 ≤ pz ∧ pz ≤ T - 1)) : Met l yX12_factorRead (.code yX12_factorRead cX12_factorRead 2 none :: tb) (rmk D 0 0) (sPc G 294 S [.ref (G.2.2.1 + 231), .int (iv dp)]) (sQv G 294 (fun u => dX G u ∧ Fr S u (pl [231]) ∧ FF S u (fl [20, 21, 24]) ∧ (Hd (u.1 231 20 = 0 → S.1 231 20 = 0 ∧ ogF T (kr K V T) N pz = some (u.1 231 24) ∧ pz < u.1 231 24 ∧ 0 ≤ u.1 231 24 ∧ u.1 231 24 ≤ T - 1) ∧ Hd (S.1 231 20 = 0 → u.1 231 20 ≠ 0 → ogF T (kr K V T) N pz = none)))) 0 0 (sF G) := by
  refine sEnter (by decide) (Nat.le_of_ble_eq_true rfl) ?_
  intro p e s m args below meth c Cx hr hlk hnm hW ls hl
  have Cx : sC G p m c cX12_factorRead 2 s args RX12 := Cx
  obtain ⟨hx, hb, hml, hown, hts⟩ := id Cx.1
  have hL : sL G [] := sL_nil
  have hl : lv_has ls 2 [(0, .ref (G.2.2.1 + 231)), (1, .int (iv dp))] := hl
  have hW0 := hW
  have hE1 := hE.1
  refine lv_aload_n hx hb dX12_factorRead_0 rfl (lv_at hl 0 rfl) ?_
  have q_1 : (-2147483648) ≤ S.1 231 20 ∧ S.1 231 20 ≤ 2147483647 := hI.fi 20
  refine g_X12_270 Cx hW (k := 231) (by decide) rfl (v := S.1 231 20) rfl dX12_factorRead_1 ?_
  refine r_if_eq (tgt := 8) hx hb ⟨(by omega), (by omega)⟩ dX12_factorRead_4 (by decide) (fun c_2 => ?_) (fun c_2 => ?_)
  · have b_3 := hcu (by have e9 := (show S.1 231 20 = S.1 231 20 from rfl); omega)
    refine lv_iload_n hx hb dX12_factorRead_8 rfl (lv_at hl 1 rfl) ?_
    refine lv_bipush (v := iv 30) hx hb dX12_factorRead_9 (by decide) ?_
    refine r_icmp_lt (tgt := 24) hx hb ⟨(by omega), (by omega)⟩ ⟨(by omega), (by omega)⟩ dX12_factorRead_11 (by decide) (fun c_4 => ?_) (fun c_4 => ?_)
    · obtain ⟨n, rfl⟩ : ∃ n, N = n + 1 := ⟨N - 1, by omega⟩
      refine lv_aload_n hx hb dX12_factorRead_24 rfl (lv_at hl 0 rfl) ?_
      refine lv_bipush (v := iv 45) hx hb dX12_factorRead_25 (by decide) ?_
      have q_5 : (-2147483648) ≤ S.1 231 24 ∧ S.1 231 24 ≤ 2147483647 := hI.fi 24
      refine sBi (sV (As := [.int (iv 45)]) (rest := []) (k := 231) Cx (s_X12_isSign l G S (sv := 45) (K := K) (V := V) (pz := pz) hI (by omega) hK hV (by omega) (by omega)) (c_X12_318 Cx rfl rfl (rmk_ok (by omega) (by decide))) hW (by decide) rfl rfl rfl hl.1 rfl (Nat.le_of_ble_eq_true rfl) dX12_factorRead_27 ⟨Nat.le_of_ble_eq_true rfl, Nat.le_of_ble_eq_true rfl⟩) hL (fun r_8 u_6 H locs k_7 hW hL => ?_)
      obtain ⟨eu_6, xu_6⟩ := k_7
      rw [eu_6] at hW
      refine r_if_eq (tgt := 53) hx hb ⟨(by omega), (by omega)⟩ dX12_factorRead_30 (by decide) (fun c_9 => ?_) (fun c_9 => ?_)
      · refine lv_aload_n hx hb dX12_factorRead_53 rfl (lv_at hl 0 rfl) ?_
        refine g_X12_47 Cx hW (k := 231) (by decide) rfl (v := .ref (G.2.2.1 + 244)) (rd_15 hI) dX12_factorRead_54 ?_
        refine lv_aload_n hx hb dX12_factorRead_57 rfl (lv_at hl 0 rfl) ?_
        refine g_X12_315 Cx hW (k := 231) (by decide) rfl (v := S.1 231 24) rfl dX12_factorRead_58 ?_
        refine rIald Cx hW (k := 244) (by decide) rfl (by decide) (by omega) (by omega) dX12_factorRead_61 ?_
        have q_10 : (-2147483648) ≤ S.2.1 244 (S.1 231 24) ∧ S.2.1 244 (S.1 231 24) ≤ 2147483647 := hI.ai 244 (S.1 231 24)
        refine r_i (b := S.2.1 244 (S.1 231 24)) rfl ?_
        have hr1 : K pz = S.2.1 244 (S.1 231 24) := by rw [← hK, ← hc]
        refine lv_iconst (v := iv 2) hx hb dX12_factorRead_62 (by decide) ?_
        refine r_icmp_ne (tgt := 79) hx hb ⟨(by omega), (by omega)⟩ ⟨(by omega), (by omega)⟩ dX12_factorRead_63 (by decide) (fun c_11 => ?_) (fun c_11 => ?_)
        · refine lv_aload_n hx hb dX12_factorRead_79 rfl (lv_at hl 0 rfl) ?_
          refine lv_bipush (v := iv 40) hx hb dX12_factorRead_80 (by decide) ?_
          refine sBi (sV (As := [.int (iv 40)]) (rest := []) (k := 231) Cx (s_X12_isSign l G S (sv := 40) (K := K) (V := V) (pz := pz) hI (by omega) hK hV (by omega) (by omega)) (c_X12_318 Cx rfl rfl (rmk_ok (by omega) (by decide))) hW (by decide) rfl rfl rfl hl.1 rfl (Nat.le_of_ble_eq_true rfl) dX12_factorRead_82 ⟨Nat.le_of_ble_eq_true rfl, Nat.le_of_ble_eq_true rfl⟩) hL (fun r_14 u_12 H locs k_13 hW hL => ?_)
          obtain ⟨eu_12, xu_12⟩ := k_13
          rw [eu_12] at hW
          refine r_if_eq (tgt := 114) hx hb ⟨(by omega), (by omega)⟩ dX12_factorRead_85 (by decide) (fun c_15 => ?_) (fun c_15 => ?_)
          · refine lv_aload_n hx hb dX12_factorRead_114 rfl (lv_at hl 0 rfl) ?_
            refine lv_bipush (v := iv 7) hx hb dX12_factorRead_115 (by decide) ?_
            refine sBi (sV (As := [.int (iv 7)]) (rest := []) (k := 231) Cx (s_X12_isWord l G S (sv := 7) (K := K) (V := V) (pz := pz) hI (by omega) hK hV (by omega) (by omega)) (c_X12_325 Cx rfl rfl (rmk_ok (by omega) (by decide))) hW (by decide) rfl rfl rfl hl.1 rfl (Nat.le_of_ble_eq_true rfl) dX12_factorRead_117 ⟨Nat.le_of_ble_eq_true rfl, Nat.le_of_ble_eq_true rfl⟩) hL (fun r_18 u_16 H locs k_17 hW hL => ?_)
            obtain ⟨eu_16, xu_16⟩ := k_17
            rw [eu_16] at hW
            refine r_if_eq (tgt := 171) hx hb ⟨(by omega), (by omega)⟩ dX12_factorRead_120 (by decide) (fun c_19 => ?_) (fun c_19 => ?_)
            · refine lv_aload_n hx hb dX12_factorRead_171 rfl (lv_at hl 0 rfl) ?_
              refine g_X12_47 Cx hW (k := 231) (by decide) rfl (v := .ref (G.2.2.1 + 244)) (rd_15 hI) dX12_factorRead_172 ?_
              refine lv_aload_n hx hb dX12_factorRead_175 rfl (lv_at hl 0 rfl) ?_
              refine g_X12_315 Cx hW (k := 231) (by decide) rfl (v := S.1 231 24) rfl dX12_factorRead_176 ?_
              refine rIald Cx hW (k := 244) (by decide) rfl (by decide) (by omega) (by omega) dX12_factorRead_179 ?_
              refine r_i (b := S.2.1 244 (S.1 231 24)) rfl ?_
              have hr2 : K pz = S.2.1 244 (S.1 231 24) := by rw [← hK, ← hc]
              refine lv_iconst (v := iv 1) hx hb dX12_factorRead_180 (by decide) ?_
              refine r_icmp_ne (tgt := 257) hx hb ⟨(by omega), (by omega)⟩ ⟨(by omega), (by omega)⟩ dX12_factorRead_181 (by decide) (fun c_20 => ?_) (fun c_20 => ?_)
              · refine lv_aload_n hx hb dX12_factorRead_257 rfl (lv_at hl 0 rfl) ?_
                refine lv_iconst (v := iv 1) hx hb dX12_factorRead_258 (by decide) ?_
                refine lv_aload_n hx hb dX12_factorRead_259 rfl (lv_at hl 0 rfl) ?_
                refine g_X12_315 Cx hW (k := 231) (by decide) rfl (v := S.1 231 24) rfl dX12_factorRead_260 ?_
                refine sBv (sV (As := [.int (iv 1), .int (iv (S.1 231 24))]) (rest := []) (k := 231) Cx (s_X12_wrong l G S (cd := 1) (tk := S.1 231 24) hI (by omega) (by omega)) (c_X12_321 Cx rfl rfl (rmk_ok (by omega) (by decide))) hW (by decide) rfl rfl rfl hl.1 rfl (Nat.le_of_ble_eq_true rfl) dX12_factorRead_263 ⟨Nat.le_of_ble_eq_true rfl, Nat.le_of_ble_eq_true rfl⟩) hL (fun u_21 H locs k_22 hW hL => ?_)
                obtain ⟨iu_21, fu_21, gu_21, xu_21⟩ := k_22
                have F_23 := (Fr.rf : Fr S S (pl [231])).trans fu_21
                have g_24 : FF S u_21 (fl [20, 21, 24]) := FF.trans FF.rf (FF.to gu_21 (fl_sub (by decide)))
                have q_25 : (-2147483648) ≤ u_21.1 231 20 ∧ u_21.1 231 20 ≤ 2147483647 := iu_21.fi 20
                have lk_26 : u_21.1 231 24 = S.1 231 24 := gu_21 24 rfl
                exact sVret Cx hr hlk hW hL ⟨iu_21, F_23, g_24, ⟨(fun h => absurd h (by have e9 := (show u_21.1 231 20 = u_21.1 231 20 from rfl); have a9 := xu_21; omega)), (fun h h9 => by have e8 := (show u_21.1 231 20 = u_21.1 231 20 from rfl); first | (exfalso; omega) | (have tu_6 : ¬ kr K V T (pz) = 22 := fun z => xu_6.2.2 (by omega) ((osg_45 K V T _).2 z); have tu_12 : ¬ kr K V T (pz) = 19 := fun z => xu_12.2.2 (by omega) ((osg_40 K V T _).2 z); have tu_16 : ¬ kr K V T (pz) = 11 := fun z => xu_16.2.2 (by omega) (((wd_m (w := 7) (by decide)) K V T _).2 z); have kr10 : ¬ kr K V T (pz) = 3 := fun z => absurd ((kn_2 K V T _).2 z) (by omega); have kr11 : ¬ kr K V T (pz) = 2 := fun z => absurd ((kn_1 K V T _).2 z) (by omega); have kr20 : ¬ kr K V T (pz) = 3 := fun z => absurd ((kn_2 K V T _).2 z) (by omega); have kr21 : ¬ kr K V T (pz) = 2 := fun z => absurd ((kn_1 K V T _).2 z) (by omega); simp only [ogF, ogXs, tu_6, tu_12, tu_16, kr10, kr11, kr20, kr21, reduceIte, Option.bind_some, Option.bind_none, or_true, true_or, or_self, or_false, false_or, Int.reduceEq, Option.some.injEq, reduceCtorEq]))⟩⟩ dX12_factorRead_266
              · refine lv_aload_n hx hb dX12_factorRead_184 rfl (lv_at hl 0 rfl) ?_
                refine lv_dup hx hb dX12_factorRead_185 rfl ?_
                refine g_X12_315 Cx hW (k := 231) (by decide) rfl (v := S.1 231 24) rfl dX12_factorRead_186 ?_
                have n_27 := hE.nx (pz := pz) (by omega) (by omega)
                refine lv_iconst (v := iv 1) hx hb dX12_factorRead_189 (by decide) ?_
                refine r_iadd hx hb dX12_factorRead_190 ?_
                refine p_X12_315 Cx hW hL (k := 231) (by decide) rfl dX12_factorRead_191 (fun H locs hW hL => ?_)
                have F_28 : Fr S (uF S 231 24 ((S.1 231 24) + 1)) (pl [231]) := (Fr.rf : Fr S S (pl [231])).F rfl
                have g_29 : FF S (uF S 231 24 ((S.1 231 24) + 1)) (fl [20, 21, 24]) := FF.F FF.rf rfl
                have i_30 : dX G (uF S 231 24 ((S.1 231 24) + 1)) := hI.F (i := 24) (show (-2147483648) ≤ (S.1 231 24) + 1 ∧ (S.1 231 24) + 1 ≤ 2147483647 from ⟨by omega, by omega⟩)
                refine lv_aload_n hx hb dX12_factorRead_194 rfl (lv_at hl 0 rfl) ?_
                refine lv_bipush (v := iv 91) hx hb dX12_factorRead_195 (by decide) ?_
                have lk_31 : (uF S 231 24 ((S.1 231 24) + 1)).1 231 24 = (S.1 231 24) + 1 := uF_on
                refine sBi (sV (As := [.int (iv 91)]) (rest := []) (k := 231) Cx (s_X12_isSign l G (uF S 231 24 ((S.1 231 24) + 1)) (sv := 91) (K := K) (V := V) (pz := (pz) + 1) i_30 (by omega) ((funext fun j => uF_a : (uF S 231 24 ((S.1 231 24) + 1)).2.1 244 = S.2.1 244).trans hK) ((funext fun j => uF_a : (uF S 231 24 ((S.1 231 24) + 1)).2.1 247 = S.2.1 247).trans hV) (by omega) (by omega)) (c_X12_318 Cx rfl rfl (rmk_ok (by omega) (by decide))) hW (by decide) rfl rfl rfl hl.1 rfl (Nat.le_of_ble_eq_true rfl) dX12_factorRead_197 ⟨Nat.le_of_ble_eq_true rfl, Nat.le_of_ble_eq_true rfl⟩) hL (fun r_34 u_32 H locs k_33 hW hL => ?_)
                obtain ⟨eu_32, xu_32⟩ := k_33
                rw [eu_32] at hW
                refine r_if_ne (tgt := 204) hx hb ⟨(by omega), (by omega)⟩ dX12_factorRead_200 (by decide) (fun c_35 => ?_) (fun c_35 => ?_)
                · refine lv_aload_n hx hb dX12_factorRead_204 rfl (lv_at hl 0 rfl) ?_
                  refine lv_dup hx hb dX12_factorRead_205 rfl ?_
                  refine g_X12_315 Cx hW (k := 231) (by decide) rfl (v := (S.1 231 24) + 1) uF_on dX12_factorRead_206 ?_
                  have n_36 := hE.nx (pz := (pz) + 1) (by omega) (by have z := (xu_32.2.1 (by omega)); unfold gS at z; omega)
                  refine lv_iconst (v := iv 1) hx hb dX12_factorRead_209 (by decide) ?_
                  refine r_iadd hx hb dX12_factorRead_210 ?_
                  refine p_X12_315 Cx hW hL (k := 231) (by decide) rfl dX12_factorRead_211 (fun H locs hW hL => ?_)
                  have F_37 : Fr S (uF (uF S 231 24 ((S.1 231 24) + 1)) 231 24 (((S.1 231 24) + 1) + 1)) (pl [231]) := F_28.F rfl
                  have g_38 : FF S (uF (uF S 231 24 ((S.1 231 24) + 1)) 231 24 (((S.1 231 24) + 1) + 1)) (fl [20, 21, 24]) := FF.F g_29 rfl
                  have i_39 : dX G (uF (uF S 231 24 ((S.1 231 24) + 1)) 231 24 (((S.1 231 24) + 1) + 1)) := i_30.F (i := 24) (show (-2147483648) ≤ ((S.1 231 24) + 1) + 1 ∧ ((S.1 231 24) + 1) + 1 ≤ 2147483647 from ⟨by omega, by omega⟩)
                  refine lv_aload_n hx hb dX12_factorRead_214 rfl (lv_at hl 0 rfl) ?_
                  have lk_40 : (uF (uF S 231 24 ((S.1 231 24) + 1)) 231 24 (((S.1 231 24) + 1) + 1)).1 231 24 = ((S.1 231 24) + 1) + 1 := uF_on
                  have lk_41 : (uF (uF S 231 24 ((S.1 231 24) + 1)) 231 24 (((S.1 231 24) + 1) + 1)).1 231 20 = S.1 231 20 := (uF_ne (fun h => absurd h.2 (by decide))).trans (uF_ne (fun h => absurd h.2 (by decide)))
                  refine sBv (sV (As := []) (rest := []) (k := 231) Cx (c_X12_indexRead l G (uF (uF S 231 24 ((S.1 231 24) + 1)) 231 24 (((S.1 231 24) + 1) + 1)) (K := K) (V := V) (T := T) (pz := ((pz) + 1) + 1) i_39 ((funext fun j => (uF_a).trans (uF_a) : (uF (uF S 231 24 ((S.1 231 24) + 1)) 231 24 (((S.1 231 24) + 1) + 1)).2.1 244 = S.2.1 244).trans hK) ((funext fun j => (uF_a).trans (uF_a) : (uF (uF S 231 24 ((S.1 231 24) + 1)) 231 24 (((S.1 231 24) + 1) + 1)).2.1 247 = S.2.1 247).trans hV) hE (by omega) (fun h => by have e8 := (show (uF (uF S 231 24 ((S.1 231 24) + 1)) 231 24 (((S.1 231 24) + 1) + 1)).1 231 20 = S.1 231 20 from (uF_ne (fun h => absurd h.2 (by decide))).trans (uF_ne (fun h => absurd h.2 (by decide)))); have a9 := hcu (by have e9 := (show (uF (uF S 231 24 ((S.1 231 24) + 1)) 231 24 (((S.1 231 24) + 1) + 1)).1 231 20 = S.1 231 20 from (uF_ne (fun h => absurd h.2 (by decide))).trans (uF_ne (fun h => absurd h.2 (by decide)))); omega); omega)) (c_X12_355 Cx rfl rfl (rmk_ok (by omega) (by decide))) hW (by decide) rfl rfl rfl hl.1 rfl (Nat.le_of_ble_eq_true rfl) dX12_factorRead_215 ⟨Nat.le_of_ble_eq_true rfl, Nat.le_of_ble_eq_true rfl⟩) hL (fun u_42 H locs k_43 hW hL => ?_)
                  obtain ⟨iu_42, fu_42, gu_42, xu_42⟩ := k_43
                  have F_44 := F_37.trans fu_42
                  have g_45 : FF S u_42 (fl [20, 21, 24]) := FF.trans g_38 (FF.to gu_42 (fl_sub (by decide)))
                  obtain ⟨xu_42, yu_42⟩ := xu_42
                  refine lv_aload_n hx hb dX12_factorRead_218 rfl (lv_at hl 0 rfl) ?_
                  have q_46 : (-2147483648) ≤ u_42.1 231 20 ∧ u_42.1 231 20 ≤ 2147483647 := iu_42.fi 20
                  refine g_X12_270 Cx hW (k := 231) (by decide) rfl (v := u_42.1 231 20) rfl dX12_factorRead_219 ?_
                  refine r_if_ne (tgt := 248) hx hb ⟨(by omega), (by omega)⟩ dX12_factorRead_222 (by decide) (fun c_47 => ?_) (fun c_47 => ?_)
                  · refine lv_aload_n hx hb dX12_factorRead_248 rfl (lv_at hl 0 rfl) ?_
                    refine lv_bipush (v := iv 93) hx hb dX12_factorRead_249 (by decide) ?_
                    have q_48 : (-2147483648) ≤ u_42.1 231 24 ∧ u_42.1 231 24 ≤ 2147483647 := iu_42.fi 24
                    refine sBv (sV (As := [.int (iv 93)]) (rest := []) (k := 231) Cx (c_X12_want l G u_42 (sv := 93) (K := K) (V := V) (T := T) (pz := u_42.1 231 24) (cd := 18) iu_42 (by omega) osg_93 ((funext fun j => ((fu_42 244 rfl).2.1 j).trans ((uF_a).trans (uF_a)) : u_42.2.1 244 = S.2.1 244).trans hK) ((funext fun j => ((fu_42 247 rfl).2.1 j).trans ((uF_a).trans (uF_a)) : u_42.2.1 247 = S.2.1 247).trans hV) hE (by omega) (fun h => by have e8 := (show u_42.1 231 20 = u_42.1 231 20 from rfl); have a9 := xu_42 (by have e9 := (show u_42.1 231 20 = u_42.1 231 20 from rfl); omega); omega)) (c_X12_331 Cx rfl rfl (rmk_ok (by omega) (by decide))) hW (by decide) rfl rfl rfl hl.1 rfl (Nat.le_of_ble_eq_true rfl) dX12_factorRead_251 ⟨Nat.le_of_ble_eq_true rfl, Nat.le_of_ble_eq_true rfl⟩) hL (fun u_49 H locs k_50 hW hL => ?_)
                    obtain ⟨iu_49, fu_49, gu_49, xu_49⟩ := k_50
                    have F_51 := F_44.trans fu_49
                    have g_52 : FF S u_49 (fl [20, 21, 24]) := FF.trans g_45 (FF.to gu_49 (fl_sub (by decide)))
                    obtain ⟨xu_49, yu_49⟩ := xu_49
                    refine lv_goto (tgt := 266) hx hb dX12_factorRead_254 (by decide) ?_
                    have q_53 : (-2147483648) ≤ u_49.1 231 20 ∧ u_49.1 231 20 ≤ 2147483647 := iu_49.fi 20
                    have q_54 : (-2147483648) ≤ u_49.1 231 24 ∧ u_49.1 231 24 ≤ 2147483647 := iu_49.fi 24
                    exact sVret Cx hr hlk hW hL ⟨iu_49, F_51, g_52, ⟨(fun h => by have e8 := (show u_49.1 231 20 = u_49.1 231 20 from rfl); have e7 := (show u_49.1 231 24 = u_49.1 231 24 from rfl); have au_49 := xu_49 (by have e9 := (show u_49.1 231 20 = u_49.1 231 20 from rfl); omega); have au_42 := xu_42 (by omega); first | (exfalso; omega) | (have tu_6 : ¬ kr K V T (pz) = 22 := fun z => xu_6.2.2 (by omega) ((osg_45 K V T _).2 z); have tu_12 : ¬ kr K V T (pz) = 19 := fun z => xu_12.2.2 (by omega) ((osg_40 K V T _).2 z); have tu_16 : ¬ kr K V T (pz) = 11 := fun z => xu_16.2.2 (by omega) (((wd_m (w := 7) (by decide)) K V T _).2 z); have tu_32 : kr K V T ((pz) + 1) = 17 := (osg_91 K V T _).1 (by omega) (by omega) (xu_32.2.1 (by omega)); have kr10 : ¬ kr K V T (pz) = 3 := fun z => absurd ((kn_2 K V T _).2 z) (by omega); have kr11 : kr K V T (pz) = 2 := (kn_1 K V T _).1 (by omega) (by omega) (by omega); have kr20 : ¬ kr K V T (pz) = 3 := fun z => absurd ((kn_2 K V T _).2 z) (by omega); have kr21 : kr K V T (pz) = 2 := (kn_1 K V T _).1 (by omega) (by omega) (by omega); exact ⟨(by omega), (by rw [e7]; (try rw [hc]); simp only [ogF, ogXs, tu_6, tu_12, tu_16, tu_32, kr10, kr11, kr20, kr21, au_42.2.1, au_49.2.1, reduceIte, Option.bind_some, Option.bind_none, or_true, true_or, or_self, or_false, false_or, Int.reduceEq, Option.some.injEq, reduceCtorEq]), by omega, by omega, by omega⟩)), (fun h h9 => by have e8 := (show u_49.1 231 20 = u_49.1 231 20 from rfl); first | (exfalso; omega) | (have tu_6 : ¬ kr K V T (pz) = 22 := fun z => xu_6.2.2 (by omega) ((osg_45 K V T _).2 z); have tu_12 : ¬ kr K V T (pz) = 19 := fun z => xu_12.2.2 (by omega) ((osg_40 K V T _).2 z); have tu_16 : ¬ kr K V T (pz) = 11 := fun z => xu_16.2.2 (by omega) (((wd_m (w := 7) (by decide)) K V T _).2 z); have tu_32 : kr K V T ((pz) + 1) = 17 := (osg_91 K V T _).1 (by omega) (by omega) (xu_32.2.1 (by omega)); have kr10 : ¬ kr K V T (pz) = 3 := fun z => absurd ((kn_2 K V T _).2 z) (by omega); have kr11 : kr K V T (pz) = 2 := (kn_1 K V T _).1 (by omega) (by omega) (by omega); have kr20 : ¬ kr K V T (pz) = 3 := fun z => absurd ((kn_2 K V T _).2 z) (by omega); have kr21 : kr K V T (pz) = 2 := (kn_1 K V T _).1 (by omega) (by omega) (by omega); by_cases qu_42 : u_42.1 231 20 = 0; (have au_42 := xu_42 qu_42; first | (exfalso; omega) | (by_cases qu_49 : u_49.1 231 20 = 0; (have au_49 := xu_49 qu_49; first | (exfalso; omega) | (exfalso; omega)); (have bu_49 := yu_49 (by omega) qu_49; simp only [ogF, ogXs, tu_6, tu_12, tu_16, tu_32, kr10, kr11, kr20, kr21, au_42.2.1, bu_49, reduceIte, Option.bind_some, Option.bind_none, or_true, true_or, or_self, or_false, false_or, Int.reduceEq, Option.some.injEq, reduceCtorEq]))); (have bu_42 := yu_42 (by omega) qu_42; simp only [ogF, ogXs, tu_6, tu_12, tu_16, tu_32, kr10, kr11, kr20, kr21, bu_42, reduceIte, Option.bind_some, Option.bind_none, or_true, true_or, or_self, or_false, false_or, Int.reduceEq, Option.some.injEq, reduceCtorEq])))⟩⟩ dX12_factorRead_266
                  · have b_55 := xu_42 (by have e9 := (show u_42.1 231 20 = u_42.1 231 20 from rfl); omega)
                    refine lv_aload_n hx hb dX12_factorRead_225 rfl (lv_at hl 0 rfl) ?_
                    refine lv_bipush (v := iv 44) hx hb dX12_factorRead_226 (by decide) ?_
                    have q_56 : (-2147483648) ≤ u_42.1 231 24 ∧ u_42.1 231 24 ≤ 2147483647 := iu_42.fi 24
                    refine sBi (sV (As := [.int (iv 44)]) (rest := []) (k := 231) Cx (s_X12_isSign l G u_42 (sv := 44) (K := K) (V := V) (pz := u_42.1 231 24) iu_42 (by omega) ((funext fun j => ((fu_42 244 rfl).2.1 j).trans ((uF_a).trans (uF_a)) : u_42.2.1 244 = S.2.1 244).trans hK) ((funext fun j => ((fu_42 247 rfl).2.1 j).trans ((uF_a).trans (uF_a)) : u_42.2.1 247 = S.2.1 247).trans hV) (by omega) (by omega)) (c_X12_318 Cx rfl rfl (rmk_ok (by omega) (by decide))) hW (by decide) rfl rfl rfl hl.1 rfl (Nat.le_of_ble_eq_true rfl) dX12_factorRead_228 ⟨Nat.le_of_ble_eq_true rfl, Nat.le_of_ble_eq_true rfl⟩) hL (fun r_59 u_57 H locs k_58 hW hL => ?_)
                    obtain ⟨eu_57, xu_57⟩ := k_58
                    rw [eu_57] at hW
                    refine r_if_eq (tgt := 248) hx hb ⟨(by omega), (by omega)⟩ dX12_factorRead_231 (by decide) (fun c_60 => ?_) (fun c_60 => ?_)
                    · refine lv_aload_n hx hb dX12_factorRead_248 rfl (lv_at hl 0 rfl) ?_
                      refine lv_bipush (v := iv 93) hx hb dX12_factorRead_249 (by decide) ?_
                      refine sBv (sV (As := [.int (iv 93)]) (rest := []) (k := 231) Cx (c_X12_want l G u_42 (sv := 93) (K := K) (V := V) (T := T) (pz := u_42.1 231 24) (cd := 18) iu_42 (by omega) osg_93 ((funext fun j => ((fu_42 244 rfl).2.1 j).trans ((uF_a).trans (uF_a)) : u_42.2.1 244 = S.2.1 244).trans hK) ((funext fun j => ((fu_42 247 rfl).2.1 j).trans ((uF_a).trans (uF_a)) : u_42.2.1 247 = S.2.1 247).trans hV) hE (by omega) (fun h => by have e8 := (show u_42.1 231 20 = u_42.1 231 20 from rfl); have a9 := xu_42 (by have e9 := (show u_42.1 231 20 = u_42.1 231 20 from rfl); omega); omega)) (c_X12_331 Cx rfl rfl (rmk_ok (by omega) (by decide))) hW (by decide) rfl rfl rfl hl.1 rfl (Nat.le_of_ble_eq_true rfl) dX12_factorRead_251 ⟨Nat.le_of_ble_eq_true rfl, Nat.le_of_ble_eq_true rfl⟩) hL (fun u_61 H locs k_62 hW hL => ?_)
                      obtain ⟨iu_61, fu_61, gu_61, xu_61⟩ := k_62
                      have F_63 := F_44.trans fu_61
                      have g_64 : FF S u_61 (fl [20, 21, 24]) := FF.trans g_45 (FF.to gu_61 (fl_sub (by decide)))
                      obtain ⟨xu_61, yu_61⟩ := xu_61
                      refine lv_goto (tgt := 266) hx hb dX12_factorRead_254 (by decide) ?_
                      have q_65 : (-2147483648) ≤ u_61.1 231 20 ∧ u_61.1 231 20 ≤ 2147483647 := iu_61.fi 20
                      have q_66 : (-2147483648) ≤ u_61.1 231 24 ∧ u_61.1 231 24 ≤ 2147483647 := iu_61.fi 24
                      exact sVret Cx hr hlk hW hL ⟨iu_61, F_63, g_64, ⟨(fun h => by have e8 := (show u_61.1 231 20 = u_61.1 231 20 from rfl); have e7 := (show u_61.1 231 24 = u_61.1 231 24 from rfl); have au_61 := xu_61 (by have e9 := (show u_61.1 231 20 = u_61.1 231 20 from rfl); omega); have au_42 := xu_42 (by omega); first | (exfalso; omega) | (have tu_6 : ¬ kr K V T (pz) = 22 := fun z => xu_6.2.2 (by omega) ((osg_45 K V T _).2 z); have tu_12 : ¬ kr K V T (pz) = 19 := fun z => xu_12.2.2 (by omega) ((osg_40 K V T _).2 z); have tu_16 : ¬ kr K V T (pz) = 11 := fun z => xu_16.2.2 (by omega) (((wd_m (w := 7) (by decide)) K V T _).2 z); have tu_32 : kr K V T ((pz) + 1) = 17 := (osg_91 K V T _).1 (by omega) (by omega) (xu_32.2.1 (by omega)); have tu_57 : ¬ kr K V T (u_42.1 231 24) = 16 := fun z => xu_57.2.2 (by omega) ((osg_44 K V T _).2 z); have kr10 : ¬ kr K V T (pz) = 3 := fun z => absurd ((kn_2 K V T _).2 z) (by omega); have kr11 : kr K V T (pz) = 2 := (kn_1 K V T _).1 (by omega) (by omega) (by omega); have kr20 : ¬ kr K V T (pz) = 3 := fun z => absurd ((kn_2 K V T _).2 z) (by omega); have kr21 : kr K V T (pz) = 2 := (kn_1 K V T _).1 (by omega) (by omega) (by omega); exact ⟨(by omega), (by rw [e7]; (try rw [hc]); simp only [ogF, ogXs, tu_6, tu_12, tu_16, tu_32, tu_57, kr10, kr11, kr20, kr21, au_42.2.1, au_61.2.1, reduceIte, Option.bind_some, Option.bind_none, or_true, true_or, or_self, or_false, false_or, Int.reduceEq, Option.some.injEq, reduceCtorEq]), by omega, by omega, by omega⟩)), (fun h h9 => by have e8 := (show u_61.1 231 20 = u_61.1 231 20 from rfl); first | (exfalso; omega) | (have tu_6 : ¬ kr K V T (pz) = 22 := fun z => xu_6.2.2 (by omega) ((osg_45 K V T _).2 z); have tu_12 : ¬ kr K V T (pz) = 19 := fun z => xu_12.2.2 (by omega) ((osg_40 K V T _).2 z); have tu_16 : ¬ kr K V T (pz) = 11 := fun z => xu_16.2.2 (by omega) (((wd_m (w := 7) (by decide)) K V T _).2 z); have tu_32 : kr K V T ((pz) + 1) = 17 := (osg_91 K V T _).1 (by omega) (by omega) (xu_32.2.1 (by omega)); have tu_57 : ¬ kr K V T (u_42.1 231 24) = 16 := fun z => xu_57.2.2 (by omega) ((osg_44 K V T _).2 z); have kr10 : ¬ kr K V T (pz) = 3 := fun z => absurd ((kn_2 K V T _).2 z) (by omega); have kr11 : kr K V T (pz) = 2 := (kn_1 K V T _).1 (by omega) (by omega) (by omega); have kr20 : ¬ kr K V T (pz) = 3 := fun z => absurd ((kn_2 K V T _).2 z) (by omega); have kr21 : kr K V T (pz) = 2 := (kn_1 K V T _).1 (by omega) (by omega) (by omega); by_cases qu_42 : u_42.1 231 20 = 0; (have au_42 := xu_42 qu_42; first | (exfalso; omega) | (by_cases qu_61 : u_61.1 231 20 = 0; (have au_61 := xu_61 qu_61; first | (exfalso; omega) | (exfalso; omega)); (have bu_61 := yu_61 (by omega) qu_61; simp only [ogF, ogXs, tu_6, tu_12, tu_16, tu_32, tu_57, kr10, kr11, kr20, kr21, au_42.2.1, bu_61, reduceIte, Option.bind_some, Option.bind_none, or_true, true_or, or_self, or_false, false_or, Int.reduceEq, Option.some.injEq, reduceCtorEq]))); (have bu_42 := yu_42 (by omega) qu_42; simp only [ogF, ogXs, tu_6, tu_12, tu_16, tu_32, tu_57, kr10, kr11, kr20, kr21, bu_42, reduceIte, Option.bind_some, Option.bind_none, or_true, true_or, or_self, or_false, false_or, Int.reduceEq, Option.some.injEq, reduceCtorEq])))⟩⟩ dX12_factorRead_266
                    · refine lv_aload_n hx hb dX12_factorRead_234 rfl (lv_at hl 0 rfl) ?_
                      refine lv_dup hx hb dX12_factorRead_235 rfl ?_
                      refine g_X12_315 Cx hW (k := 231) (by decide) rfl (v := u_42.1 231 24) rfl dX12_factorRead_236 ?_
                      have n_67 := hE.nx (pz := u_42.1 231 24) (by omega) (by have z := (xu_57.2.1 (by omega)); unfold gS at z; omega)
                      refine lv_iconst (v := iv 1) hx hb dX12_factorRead_239 (by decide) ?_
                      refine r_iadd hx hb dX12_factorRead_240 ?_
                      refine p_X12_315 Cx hW hL (k := 231) (by decide) rfl dX12_factorRead_241 (fun H locs hW hL => ?_)
                      have F_68 : Fr S (uF u_42 231 24 ((u_42.1 231 24) + 1)) (pl [231]) := F_44.F rfl
                      have g_69 : FF S (uF u_42 231 24 ((u_42.1 231 24) + 1)) (fl [20, 21, 24]) := FF.F g_45 rfl
                      have i_70 : dX G (uF u_42 231 24 ((u_42.1 231 24) + 1)) := iu_42.F (i := 24) (show (-2147483648) ≤ (u_42.1 231 24) + 1 ∧ (u_42.1 231 24) + 1 ≤ 2147483647 from ⟨by omega, by omega⟩)
                      refine lv_aload_n hx hb dX12_factorRead_244 rfl (lv_at hl 0 rfl) ?_
                      have lk_71 : (uF u_42 231 24 ((u_42.1 231 24) + 1)).1 231 24 = (u_42.1 231 24) + 1 := uF_on
                      have lk_72 : (uF u_42 231 24 ((u_42.1 231 24) + 1)).1 231 20 = u_42.1 231 20 := uF_ne (fun h => absurd h.2 (by decide))
                      refine sBv (sV (As := []) (rest := []) (k := 231) Cx (c_X12_indexRead l G (uF u_42 231 24 ((u_42.1 231 24) + 1)) (K := K) (V := V) (T := T) (pz := (u_42.1 231 24) + 1) i_70 ((funext fun j => (uF_a).trans (((fu_42 244 rfl).2.1 j).trans ((uF_a).trans (uF_a))) : (uF u_42 231 24 ((u_42.1 231 24) + 1)).2.1 244 = S.2.1 244).trans hK) ((funext fun j => (uF_a).trans (((fu_42 247 rfl).2.1 j).trans ((uF_a).trans (uF_a))) : (uF u_42 231 24 ((u_42.1 231 24) + 1)).2.1 247 = S.2.1 247).trans hV) hE (by omega) (fun h => by have e8 := (show (uF u_42 231 24 ((u_42.1 231 24) + 1)).1 231 20 = u_42.1 231 20 from uF_ne (fun h => absurd h.2 (by decide))); have a9 := xu_42 (by have e9 := (show (uF u_42 231 24 ((u_42.1 231 24) + 1)).1 231 20 = u_42.1 231 20 from uF_ne (fun h => absurd h.2 (by decide))); omega); omega)) (c_X12_355 Cx rfl rfl (rmk_ok (by omega) (by decide))) hW (by decide) rfl rfl rfl hl.1 rfl (Nat.le_of_ble_eq_true rfl) dX12_factorRead_245 ⟨Nat.le_of_ble_eq_true rfl, Nat.le_of_ble_eq_true rfl⟩) hL (fun u_73 H locs k_74 hW hL => ?_)
                      obtain ⟨iu_73, fu_73, gu_73, xu_73⟩ := k_74
                      have F_75 := F_68.trans fu_73
                      have g_76 : FF S u_73 (fl [20, 21, 24]) := FF.trans g_69 (FF.to gu_73 (fl_sub (by decide)))
                      obtain ⟨xu_73, yu_73⟩ := xu_73
                      refine lv_aload_n hx hb dX12_factorRead_248 rfl (lv_at hl 0 rfl) ?_
                      refine lv_bipush (v := iv 93) hx hb dX12_factorRead_249 (by decide) ?_
                      have q_77 : (-2147483648) ≤ u_73.1 231 24 ∧ u_73.1 231 24 ≤ 2147483647 := iu_73.fi 24
                      have q_78 : (-2147483648) ≤ u_73.1 231 20 ∧ u_73.1 231 20 ≤ 2147483647 := iu_73.fi 20
                      refine sBv (sV (As := [.int (iv 93)]) (rest := []) (k := 231) Cx (c_X12_want l G u_73 (sv := 93) (K := K) (V := V) (T := T) (pz := u_73.1 231 24) (cd := 18) iu_73 (by omega) osg_93 ((funext fun j => ((fu_73 244 rfl).2.1 j).trans ((uF_a).trans (((fu_42 244 rfl).2.1 j).trans ((uF_a).trans (uF_a)))) : u_73.2.1 244 = S.2.1 244).trans hK) ((funext fun j => ((fu_73 247 rfl).2.1 j).trans ((uF_a).trans (((fu_42 247 rfl).2.1 j).trans ((uF_a).trans (uF_a)))) : u_73.2.1 247 = S.2.1 247).trans hV) hE (by omega) (fun h => by have e8 := (show u_73.1 231 20 = u_73.1 231 20 from rfl); have a9 := xu_73 (by have e9 := (show u_73.1 231 20 = u_73.1 231 20 from rfl); omega); omega)) (c_X12_331 Cx rfl rfl (rmk_ok (by omega) (by decide))) hW (by decide) rfl rfl rfl hl.1 rfl (Nat.le_of_ble_eq_true rfl) dX12_factorRead_251 ⟨Nat.le_of_ble_eq_true rfl, Nat.le_of_ble_eq_true rfl⟩) hL (fun u_79 H locs k_80 hW hL => ?_)
                      obtain ⟨iu_79, fu_79, gu_79, xu_79⟩ := k_80
                      have F_81 := F_75.trans fu_79
                      have g_82 : FF S u_79 (fl [20, 21, 24]) := FF.trans g_76 (FF.to gu_79 (fl_sub (by decide)))
                      obtain ⟨xu_79, yu_79⟩ := xu_79
                      refine lv_goto (tgt := 266) hx hb dX12_factorRead_254 (by decide) ?_
                      have q_83 : (-2147483648) ≤ u_79.1 231 20 ∧ u_79.1 231 20 ≤ 2147483647 := iu_79.fi 20
                      have q_84 : (-2147483648) ≤ u_79.1 231 24 ∧ u_79.1 231 24 ≤ 2147483647 := iu_79.fi 24
                      exact sVret Cx hr hlk hW hL ⟨iu_79, F_81, g_82, ⟨(fun h => by have e8 := (show u_79.1 231 20 = u_79.1 231 20 from rfl); have e7 := (show u_79.1 231 24 = u_79.1 231 24 from rfl); have au_79 := xu_79 (by have e9 := (show u_79.1 231 20 = u_79.1 231 20 from rfl); omega); have au_73 := xu_73 (by omega); have au_42 := xu_42 (by omega); first | (exfalso; omega) | (have tu_6 : ¬ kr K V T (pz) = 22 := fun z => xu_6.2.2 (by omega) ((osg_45 K V T _).2 z); have tu_12 : ¬ kr K V T (pz) = 19 := fun z => xu_12.2.2 (by omega) ((osg_40 K V T _).2 z); have tu_16 : ¬ kr K V T (pz) = 11 := fun z => xu_16.2.2 (by omega) (((wd_m (w := 7) (by decide)) K V T _).2 z); have tu_32 : kr K V T ((pz) + 1) = 17 := (osg_91 K V T _).1 (by omega) (by omega) (xu_32.2.1 (by omega)); have tu_57 : kr K V T (u_42.1 231 24) = 16 := (osg_44 K V T _).1 (by omega) (by omega) (xu_57.2.1 (by omega)); have kr10 : ¬ kr K V T (pz) = 3 := fun z => absurd ((kn_2 K V T _).2 z) (by omega); have kr11 : kr K V T (pz) = 2 := (kn_1 K V T _).1 (by omega) (by omega) (by omega); have kr20 : ¬ kr K V T (pz) = 3 := fun z => absurd ((kn_2 K V T _).2 z) (by omega); have kr21 : kr K V T (pz) = 2 := (kn_1 K V T _).1 (by omega) (by omega) (by omega); exact ⟨(by omega), (by rw [e7]; (try rw [hc]); simp only [ogF, ogXs, tu_6, tu_12, tu_16, tu_32, tu_57, kr10, kr11, kr20, kr21, au_42.2.1, au_73.2.1, au_79.2.1, reduceIte, Option.bind_some, Option.bind_none, or_true, true_or, or_self, or_false, false_or, Int.reduceEq, Option.some.injEq, reduceCtorEq]), by omega, by omega, by omega⟩)), (fun h h9 => by have e8 := (show u_79.1 231 20 = u_79.1 231 20 from rfl); first | (exfalso; omega) | (have tu_6 : ¬ kr K V T (pz) = 22 := fun z => xu_6.2.2 (by omega) ((osg_45 K V T _).2 z); have tu_12 : ¬ kr K V T (pz) = 19 := fun z => xu_12.2.2 (by omega) ((osg_40 K V T _).2 z); have tu_16 : ¬ kr K V T (pz) = 11 := fun z => xu_16.2.2 (by omega) (((wd_m (w := 7) (by decide)) K V T _).2 z); have tu_32 : kr K V T ((pz) + 1) = 17 := (osg_91 K V T _).1 (by omega) (by omega) (xu_32.2.1 (by omega)); have tu_57 : kr K V T (u_42.1 231 24) = 16 := (osg_44 K V T _).1 (by omega) (by omega) (xu_57.2.1 (by omega)); have kr10 : ¬ kr K V T (pz) = 3 := fun z => absurd ((kn_2 K V T _).2 z) (by omega); have kr11 : kr K V T (pz) = 2 := (kn_1 K V T _).1 (by omega) (by omega) (by omega); have kr20 : ¬ kr K V T (pz) = 3 := fun z => absurd ((kn_2 K V T _).2 z) (by omega); have kr21 : kr K V T (pz) = 2 := (kn_1 K V T _).1 (by omega) (by omega) (by omega); by_cases qu_42 : u_42.1 231 20 = 0; (have au_42 := xu_42 qu_42; first | (exfalso; omega) | (by_cases qu_73 : u_73.1 231 20 = 0; (have au_73 := xu_73 qu_73; first | (exfalso; omega) | (by_cases qu_79 : u_79.1 231 20 = 0; (have au_79 := xu_79 qu_79; first | (exfalso; omega) | (exfalso; omega)); (have bu_79 := yu_79 (by omega) qu_79; simp only [ogF, ogXs, tu_6, tu_12, tu_16, tu_32, tu_57, kr10, kr11, kr20, kr21, au_42.2.1, au_73.2.1, bu_79, reduceIte, Option.bind_some, Option.bind_none, or_true, true_or, or_self, or_false, false_or, Int.reduceEq, Option.some.injEq, reduceCtorEq]))); (have bu_73 := yu_73 (by omega) qu_73; simp only [ogF, ogXs, tu_6, tu_12, tu_16, tu_32, tu_57, kr10, kr11, kr20, kr21, au_42.2.1, bu_73, reduceIte, Option.bind_some, Option.bind_none, or_true, true_or, or_self, or_false, false_or, Int.reduceEq, Option.some.injEq, reduceCtorEq]))); (have bu_42 := yu_42 (by omega) qu_42; simp only [ogF, ogXs, tu_6, tu_12, tu_16, tu_32, tu_57, kr10, kr11, kr20, kr21, bu_42, reduceIte, Option.bind_some, Option.bind_none, or_true, true_or, or_self, or_false, false_or, Int.reduceEq, Option.some.injEq, reduceCtorEq])))⟩⟩ dX12_factorRead_266
                · have lk_85 : (uF S 231 24 ((S.1 231 24) + 1)).1 231 20 = S.1 231 20 := uF_ne (fun h => absurd h.2 (by decide))
                  exact sVret Cx hr hlk hW hL ⟨i_30, F_28, g_29, ⟨(fun h => by have e8 := (show (uF S 231 24 ((S.1 231 24) + 1)).1 231 20 = S.1 231 20 from uF_ne (fun h => absurd h.2 (by decide))); have e7 := (show (uF S 231 24 ((S.1 231 24) + 1)).1 231 24 = (S.1 231 24) + 1 from uF_on); first | (exfalso; omega) | (have b0 := hcu (by omega); have tu_6 : ¬ kr K V T (pz) = 22 := fun z => xu_6.2.2 (by omega) ((osg_45 K V T _).2 z); have tu_12 : ¬ kr K V T (pz) = 19 := fun z => xu_12.2.2 (by omega) ((osg_40 K V T _).2 z); have tu_16 : ¬ kr K V T (pz) = 11 := fun z => xu_16.2.2 (by omega) (((wd_m (w := 7) (by decide)) K V T _).2 z); have tu_32 : ¬ kr K V T ((pz) + 1) = 17 := fun z => xu_32.2.2 (by omega) ((osg_91 K V T _).2 z); have kr10 : ¬ kr K V T (pz) = 3 := fun z => absurd ((kn_2 K V T _).2 z) (by omega); have kr11 : kr K V T (pz) = 2 := (kn_1 K V T _).1 (by omega) (by omega) (by omega); have kr20 : ¬ kr K V T (pz) = 3 := fun z => absurd ((kn_2 K V T _).2 z) (by omega); have kr21 : kr K V T (pz) = 2 := (kn_1 K V T _).1 (by omega) (by omega) (by omega); exact ⟨(by omega), (by rw [e7]; (try rw [hc]); simp only [ogF, ogXs, tu_6, tu_12, tu_16, tu_32, kr10, kr11, kr20, kr21, reduceIte, Option.bind_some, Option.bind_none, or_true, true_or, or_self, or_false, false_or, Int.reduceEq, Option.some.injEq, reduceCtorEq]), by omega, by omega, by omega⟩)), (fun h h9 => by have e8 := (show (uF S 231 24 ((S.1 231 24) + 1)).1 231 20 = S.1 231 20 from uF_ne (fun h => absurd h.2 (by decide))); first | (exfalso; omega) | (have tu_6 : ¬ kr K V T (pz) = 22 := fun z => xu_6.2.2 (by omega) ((osg_45 K V T _).2 z); have tu_12 : ¬ kr K V T (pz) = 19 := fun z => xu_12.2.2 (by omega) ((osg_40 K V T _).2 z); have tu_16 : ¬ kr K V T (pz) = 11 := fun z => xu_16.2.2 (by omega) (((wd_m (w := 7) (by decide)) K V T _).2 z); have tu_32 : ¬ kr K V T ((pz) + 1) = 17 := fun z => xu_32.2.2 (by omega) ((osg_91 K V T _).2 z); have kr10 : ¬ kr K V T (pz) = 3 := fun z => absurd ((kn_2 K V T _).2 z) (by omega); have kr11 : kr K V T (pz) = 2 := (kn_1 K V T _).1 (by omega) (by omega) (by omega); have kr20 : ¬ kr K V T (pz) = 3 := fun z => absurd ((kn_2 K V T _).2 z) (by omega); have kr21 : kr K V T (pz) = 2 := (kn_1 K V T _).1 (by omega) (by omega) (by omega); exfalso; omega))⟩⟩ dX12_factorRead_203
            · refine lv_aload_n hx hb dX12_factorRead_123 rfl (lv_at hl 0 rfl) ?_
              refine lv_dup hx hb dX12_factorRead_124 rfl ?_
              refine g_X12_315 Cx hW (k := 231) (by decide) rfl (v := S.1 231 24) rfl dX12_factorRead_125 ?_
              have n_86 := hE.nx (pz := pz) (by omega) (by have z := (xu_16.2.1 (by omega)); unfold gW at z; omega)
              refine lv_iconst (v := iv 1) hx hb dX12_factorRead_128 (by decide) ?_
              refine r_iadd hx hb dX12_factorRead_129 ?_
              refine p_X12_315 Cx hW hL (k := 231) (by decide) rfl dX12_factorRead_130 (fun H locs hW hL => ?_)
              have F_87 : Fr S (uF S 231 24 ((S.1 231 24) + 1)) (pl [231]) := (Fr.rf : Fr S S (pl [231])).F rfl
              have g_88 : FF S (uF S 231 24 ((S.1 231 24) + 1)) (fl [20, 21, 24]) := FF.F FF.rf rfl
              have i_89 : dX G (uF S 231 24 ((S.1 231 24) + 1)) := hI.F (i := 24) (show (-2147483648) ≤ (S.1 231 24) + 1 ∧ (S.1 231 24) + 1 ≤ 2147483647 from ⟨by omega, by omega⟩)
              refine lv_aload_n hx hb dX12_factorRead_133 rfl (lv_at hl 0 rfl) ?_
              refine lv_iconst (v := iv 1) hx hb dX12_factorRead_134 (by decide) ?_
              have lk_90 : (uF S 231 24 ((S.1 231 24) + 1)).1 231 24 = (S.1 231 24) + 1 := uF_on
              have lk_91 : (uF S 231 24 ((S.1 231 24) + 1)).1 231 20 = S.1 231 20 := uF_ne (fun h => absurd h.2 (by decide))
              refine sBv (sV (As := [.int (iv 1)]) (rest := []) (k := 231) Cx (c_X12_wantKind l G (uF S 231 24 ((S.1 231 24) + 1)) (k := 1) (K := K) (V := V) (T := T) (pz := (pz) + 1) (cd := 2) i_89 (by omega) kn_1 ((funext fun j => uF_a : (uF S 231 24 ((S.1 231 24) + 1)).2.1 244 = S.2.1 244).trans hK) ((funext fun j => uF_a : (uF S 231 24 ((S.1 231 24) + 1)).2.1 247 = S.2.1 247).trans hV) hE (by omega) (fun h => by have e8 := (show (uF S 231 24 ((S.1 231 24) + 1)).1 231 20 = S.1 231 20 from uF_ne (fun h => absurd h.2 (by decide))); have a9 := hcu (by have e9 := (show (uF S 231 24 ((S.1 231 24) + 1)).1 231 20 = S.1 231 20 from uF_ne (fun h => absurd h.2 (by decide))); omega); omega)) (c_X12_328 Cx rfl rfl (rmk_ok (by omega) (by decide))) hW (by decide) rfl rfl rfl hl.1 rfl (Nat.le_of_ble_eq_true rfl) dX12_factorRead_135 ⟨Nat.le_of_ble_eq_true rfl, Nat.le_of_ble_eq_true rfl⟩) hL (fun u_92 H locs k_93 hW hL => ?_)
              obtain ⟨iu_92, fu_92, gu_92, xu_92⟩ := k_93
              have F_94 := F_87.trans fu_92
              have g_95 : FF S u_92 (fl [20, 21, 24]) := FF.trans g_88 (FF.to gu_92 (fl_sub (by decide)))
              obtain ⟨xu_92, yu_92⟩ := xu_92
              refine lv_aload_n hx hb dX12_factorRead_138 rfl (lv_at hl 0 rfl) ?_
              refine lv_bipush (v := iv 8) hx hb dX12_factorRead_139 (by decide) ?_
              have q_96 : (-2147483648) ≤ u_92.1 231 24 ∧ u_92.1 231 24 ≤ 2147483647 := iu_92.fi 24
              have q_97 : (-2147483648) ≤ u_92.1 231 20 ∧ u_92.1 231 20 ≤ 2147483647 := iu_92.fi 20
              refine sBv (sV (As := [.int (iv 8)]) (rest := []) (k := 231) Cx (c_X12_wantWord l G u_92 (sv := 8) (K := K) (V := V) (T := T) (pz := u_92.1 231 24) (cd := 12) iu_92 (by omega) (wd_m (w := 8) (by decide)) ((funext fun j => ((fu_92 244 rfl).2.1 j).trans (uF_a) : u_92.2.1 244 = S.2.1 244).trans hK) ((funext fun j => ((fu_92 247 rfl).2.1 j).trans (uF_a) : u_92.2.1 247 = S.2.1 247).trans hV) hE (by omega) (fun h => by have e8 := (show u_92.1 231 20 = u_92.1 231 20 from rfl); have a9 := xu_92 (by have e9 := (show u_92.1 231 20 = u_92.1 231 20 from rfl); omega); omega)) (c_X12_340 Cx rfl rfl (rmk_ok (by omega) (by decide))) hW (by decide) rfl rfl rfl hl.1 rfl (Nat.le_of_ble_eq_true rfl) dX12_factorRead_141 ⟨Nat.le_of_ble_eq_true rfl, Nat.le_of_ble_eq_true rfl⟩) hL (fun u_98 H locs k_99 hW hL => ?_)
              obtain ⟨iu_98, fu_98, gu_98, xu_98⟩ := k_99
              have F_100 := F_94.trans fu_98
              have g_101 : FF S u_98 (fl [20, 21, 24]) := FF.trans g_95 (FF.to gu_98 (fl_sub (by decide)))
              obtain ⟨xu_98, yu_98⟩ := xu_98
              refine lv_aload_n hx hb dX12_factorRead_144 rfl (lv_at hl 0 rfl) ?_
              refine lv_iconst (v := iv 1) hx hb dX12_factorRead_145 (by decide) ?_
              have q_102 : (-2147483648) ≤ u_98.1 231 24 ∧ u_98.1 231 24 ≤ 2147483647 := iu_98.fi 24
              have q_103 : (-2147483648) ≤ u_98.1 231 20 ∧ u_98.1 231 20 ≤ 2147483647 := iu_98.fi 20
              refine sBv (sV (As := [.int (iv 1)]) (rest := []) (k := 231) Cx (c_X12_wantKind l G u_98 (k := 1) (K := K) (V := V) (T := T) (pz := u_98.1 231 24) (cd := 2) iu_98 (by omega) kn_1 ((funext fun j => ((fu_98 244 rfl).2.1 j).trans (((fu_92 244 rfl).2.1 j).trans (uF_a)) : u_98.2.1 244 = S.2.1 244).trans hK) ((funext fun j => ((fu_98 247 rfl).2.1 j).trans (((fu_92 247 rfl).2.1 j).trans (uF_a)) : u_98.2.1 247 = S.2.1 247).trans hV) hE (by omega) (fun h => by have e8 := (show u_98.1 231 20 = u_98.1 231 20 from rfl); have a9 := xu_98 (by have e9 := (show u_98.1 231 20 = u_98.1 231 20 from rfl); omega); omega)) (c_X12_328 Cx rfl rfl (rmk_ok (by omega) (by decide))) hW (by decide) rfl rfl rfl hl.1 rfl (Nat.le_of_ble_eq_true rfl) dX12_factorRead_146 ⟨Nat.le_of_ble_eq_true rfl, Nat.le_of_ble_eq_true rfl⟩) hL (fun u_104 H locs k_105 hW hL => ?_)
              obtain ⟨iu_104, fu_104, gu_104, xu_104⟩ := k_105
              have F_106 := F_100.trans fu_104
              have g_107 : FF S u_104 (fl [20, 21, 24]) := FF.trans g_101 (FF.to gu_104 (fl_sub (by decide)))
              obtain ⟨xu_104, yu_104⟩ := xu_104
              refine lv_aload_n hx hb dX12_factorRead_149 rfl (lv_at hl 0 rfl) ?_
              refine lv_bipush (v := iv 40) hx hb dX12_factorRead_150 (by decide) ?_
              have q_108 : (-2147483648) ≤ u_104.1 231 24 ∧ u_104.1 231 24 ≤ 2147483647 := iu_104.fi 24
              have q_109 : (-2147483648) ≤ u_104.1 231 20 ∧ u_104.1 231 20 ≤ 2147483647 := iu_104.fi 20
              refine sBv (sV (As := [.int (iv 40)]) (rest := []) (k := 231) Cx (c_X12_want l G u_104 (sv := 40) (K := K) (V := V) (T := T) (pz := u_104.1 231 24) (cd := 19) iu_104 (by omega) osg_40 ((funext fun j => ((fu_104 244 rfl).2.1 j).trans (((fu_98 244 rfl).2.1 j).trans (((fu_92 244 rfl).2.1 j).trans (uF_a))) : u_104.2.1 244 = S.2.1 244).trans hK) ((funext fun j => ((fu_104 247 rfl).2.1 j).trans (((fu_98 247 rfl).2.1 j).trans (((fu_92 247 rfl).2.1 j).trans (uF_a))) : u_104.2.1 247 = S.2.1 247).trans hV) hE (by omega) (fun h => by have e8 := (show u_104.1 231 20 = u_104.1 231 20 from rfl); have a9 := xu_104 (by have e9 := (show u_104.1 231 20 = u_104.1 231 20 from rfl); omega); omega)) (c_X12_331 Cx rfl rfl (rmk_ok (by omega) (by decide))) hW (by decide) rfl rfl rfl hl.1 rfl (Nat.le_of_ble_eq_true rfl) dX12_factorRead_152 ⟨Nat.le_of_ble_eq_true rfl, Nat.le_of_ble_eq_true rfl⟩) hL (fun u_110 H locs k_111 hW hL => ?_)
              obtain ⟨iu_110, fu_110, gu_110, xu_110⟩ := k_111
              have F_112 := F_106.trans fu_110
              have g_113 : FF S u_110 (fl [20, 21, 24]) := FF.trans g_107 (FF.to gu_110 (fl_sub (by decide)))
              obtain ⟨xu_110, yu_110⟩ := xu_110
              refine lv_aload_n hx hb dX12_factorRead_155 rfl (lv_at hl 0 rfl) ?_
              refine lv_iload_n hx hb dX12_factorRead_156 rfl (lv_at hl 1 rfl) ?_
              refine lv_iconst (v := iv 1) hx hb dX12_factorRead_157 (by decide) ?_
              refine r_iadd hx hb dX12_factorRead_158 ?_
              have q_114 : (-2147483648) ≤ u_110.1 231 24 ∧ u_110.1 231 24 ≤ 2147483647 := iu_110.fi 24
              have q_115 : (-2147483648) ≤ u_110.1 231 20 ∧ u_110.1 231 20 ≤ 2147483647 := iu_110.fi 20
              refine sBv (sV (As := [.int (iv (dp + 1))]) (rest := []) (k := 231) Cx (hU n rfl u_110 (u_110.1 231 24) (dp + 1) iu_110 ((funext fun j => ((fu_110 244 rfl).2.1 j).trans (((fu_104 244 rfl).2.1 j).trans (((fu_98 244 rfl).2.1 j).trans (((fu_92 244 rfl).2.1 j).trans (uF_a)))) : u_110.2.1 244 = S.2.1 244).trans hK) ((funext fun j => ((fu_110 247 rfl).2.1 j).trans (((fu_104 247 rfl).2.1 j).trans (((fu_98 247 rfl).2.1 j).trans (((fu_92 247 rfl).2.1 j).trans (uF_a)))) : u_110.2.1 247 = S.2.1 247).trans hV) (by omega) (fun h => by have e8 := (show u_110.1 231 20 = u_110.1 231 20 from rfl); have a9 := xu_110 (by have e9 := (show u_110.1 231 20 = u_110.1 231 20 from rfl); omega); omega) (by omega)) (c_X12_337 Cx rfl rfl (rmk_ok (by omega) (by decide))) hW (by decide) rfl rfl rfl hl.1 rfl (Nat.le_of_ble_eq_true rfl) dX12_factorRead_159 ⟨Nat.le_of_ble_eq_true rfl, Nat.le_of_ble_eq_true rfl⟩) hL (fun u_116 H locs k_117 hW hL => ?_)
              obtain ⟨iu_116, fu_116, gu_116, xu_116⟩ := k_117
              obtain ⟨xu_116, yu_116⟩ := xu_116
              have F_118 := F_112.trans fu_116
              have g_119 : FF S u_116 (fl [20, 21, 24]) := FF.trans g_113 (FF.to gu_116 (fl_sub (by decide)))
              refine lv_aload_n hx hb dX12_factorRead_162 rfl (lv_at hl 0 rfl) ?_
              refine lv_bipush (v := iv 41) hx hb dX12_factorRead_163 (by decide) ?_
              have q_120 : (-2147483648) ≤ u_116.1 231 24 ∧ u_116.1 231 24 ≤ 2147483647 := iu_116.fi 24
              have q_121 : (-2147483648) ≤ u_116.1 231 20 ∧ u_116.1 231 20 ≤ 2147483647 := iu_116.fi 20
              refine sBv (sV (As := [.int (iv 41)]) (rest := []) (k := 231) Cx (c_X12_want l G u_116 (sv := 41) (K := K) (V := V) (T := T) (pz := u_116.1 231 24) (cd := 20) iu_116 (by omega) osg_41 ((funext fun j => ((fu_116 244 rfl).2.1 j).trans (((fu_110 244 rfl).2.1 j).trans (((fu_104 244 rfl).2.1 j).trans (((fu_98 244 rfl).2.1 j).trans (((fu_92 244 rfl).2.1 j).trans (uF_a))))) : u_116.2.1 244 = S.2.1 244).trans hK) ((funext fun j => ((fu_116 247 rfl).2.1 j).trans (((fu_110 247 rfl).2.1 j).trans (((fu_104 247 rfl).2.1 j).trans (((fu_98 247 rfl).2.1 j).trans (((fu_92 247 rfl).2.1 j).trans (uF_a))))) : u_116.2.1 247 = S.2.1 247).trans hV) hE (by omega) (fun h => by have e8 := (show u_116.1 231 20 = u_116.1 231 20 from rfl); have a9 := xu_116 (by have e9 := (show u_116.1 231 20 = u_116.1 231 20 from rfl); omega); omega)) (c_X12_331 Cx rfl rfl (rmk_ok (by omega) (by decide))) hW (by decide) rfl rfl rfl hl.1 rfl (Nat.le_of_ble_eq_true rfl) dX12_factorRead_165 ⟨Nat.le_of_ble_eq_true rfl, Nat.le_of_ble_eq_true rfl⟩) hL (fun u_122 H locs k_123 hW hL => ?_)
              obtain ⟨iu_122, fu_122, gu_122, xu_122⟩ := k_123
              have F_124 := F_118.trans fu_122
              have g_125 : FF S u_122 (fl [20, 21, 24]) := FF.trans g_119 (FF.to gu_122 (fl_sub (by decide)))
              obtain ⟨xu_122, yu_122⟩ := xu_122
              refine lv_goto (tgt := 266) hx hb dX12_factorRead_168 (by decide) ?_
              have q_126 : (-2147483648) ≤ u_122.1 231 20 ∧ u_122.1 231 20 ≤ 2147483647 := iu_122.fi 20
              have q_127 : (-2147483648) ≤ u_122.1 231 24 ∧ u_122.1 231 24 ≤ 2147483647 := iu_122.fi 24
              exact sVret Cx hr hlk hW hL ⟨iu_122, F_124, g_125, ⟨(fun h => by have e8 := (show u_122.1 231 20 = u_122.1 231 20 from rfl); have e7 := (show u_122.1 231 24 = u_122.1 231 24 from rfl); have au_122 := xu_122 (by have e9 := (show u_122.1 231 20 = u_122.1 231 20 from rfl); omega); have au_116 := xu_116 (by omega); have au_110 := xu_110 (by omega); have au_104 := xu_104 (by omega); have au_98 := xu_98 (by omega); have au_92 := xu_92 (by omega); first | (exfalso; omega) | (have tu_6 : ¬ kr K V T (pz) = 22 := fun z => xu_6.2.2 (by omega) ((osg_45 K V T _).2 z); have tu_12 : ¬ kr K V T (pz) = 19 := fun z => xu_12.2.2 (by omega) ((osg_40 K V T _).2 z); have tu_16 : kr K V T (pz) = 11 := ((wd_m (w := 7) (by decide)) K V T _).1 (by omega) (by omega) (xu_16.2.1 (by omega)); have kr10 : ¬ kr K V T (pz) = 3 := fun z => absurd ((kn_2 K V T _).2 z) (by omega); exact ⟨(by omega), (by rw [e7]; (try rw [hc]); simp only [ogF, ogXs, tu_6, tu_12, tu_16, kr10, au_92.2.1, au_98.2.1, au_104.2.1, au_110.2.1, au_116.2.1, au_122.2.1, reduceIte, Option.bind_some, Option.bind_none, or_true, true_or, or_self, or_false, false_or, Int.reduceEq, Option.some.injEq, reduceCtorEq]), by omega, by omega, by omega⟩)), (fun h h9 => by have e8 := (show u_122.1 231 20 = u_122.1 231 20 from rfl); first | (exfalso; omega) | (have tu_6 : ¬ kr K V T (pz) = 22 := fun z => xu_6.2.2 (by omega) ((osg_45 K V T _).2 z); have tu_12 : ¬ kr K V T (pz) = 19 := fun z => xu_12.2.2 (by omega) ((osg_40 K V T _).2 z); have tu_16 : kr K V T (pz) = 11 := ((wd_m (w := 7) (by decide)) K V T _).1 (by omega) (by omega) (xu_16.2.1 (by omega)); have kr10 : ¬ kr K V T (pz) = 3 := fun z => absurd ((kn_2 K V T _).2 z) (by omega); by_cases qu_92 : u_92.1 231 20 = 0; (have au_92 := xu_92 qu_92; first | (exfalso; omega) | (by_cases qu_98 : u_98.1 231 20 = 0; (have au_98 := xu_98 qu_98; first | (exfalso; omega) | (by_cases qu_104 : u_104.1 231 20 = 0; (have au_104 := xu_104 qu_104; first | (exfalso; omega) | (by_cases qu_110 : u_110.1 231 20 = 0; (have au_110 := xu_110 qu_110; first | (exfalso; omega) | (by_cases qu_116 : u_116.1 231 20 = 0; (have au_116 := xu_116 qu_116; first | (exfalso; omega) | (by_cases qu_122 : u_122.1 231 20 = 0; (have au_122 := xu_122 qu_122; first | (exfalso; omega) | (exfalso; omega)); (have bu_122 := yu_122 (by omega) qu_122; simp only [ogF, ogXs, tu_6, tu_12, tu_16, kr10, au_92.2.1, au_98.2.1, au_104.2.1, au_110.2.1, au_116.2.1, bu_122, reduceIte, Option.bind_some, Option.bind_none, or_true, true_or, or_self, or_false, false_or, Int.reduceEq, Option.some.injEq, reduceCtorEq]))); (have bu_116 := yu_116 (by omega) qu_116; simp only [ogF, ogXs, tu_6, tu_12, tu_16, kr10, au_92.2.1, au_98.2.1, au_104.2.1, au_110.2.1, bu_116, reduceIte, Option.bind_some, Option.bind_none, or_true, true_or, or_self, or_false, false_or, Int.reduceEq, Option.some.injEq, reduceCtorEq]))); (have bu_110 := yu_110 (by omega) qu_110; simp only [ogF, ogXs, tu_6, tu_12, tu_16, kr10, au_92.2.1, au_98.2.1, au_104.2.1, bu_110, reduceIte, Option.bind_some, Option.bind_none, or_true, true_or, or_self, or_false, false_or, Int.reduceEq, Option.some.injEq, reduceCtorEq]))); (have bu_104 := yu_104 (by omega) qu_104; simp only [ogF, ogXs, tu_6, tu_12, tu_16, kr10, au_92.2.1, au_98.2.1, bu_104, reduceIte, Option.bind_some, Option.bind_none, or_true, true_or, or_self, or_false, false_or, Int.reduceEq, Option.some.injEq, reduceCtorEq]))); (have bu_98 := yu_98 (by omega) qu_98; simp only [ogF, ogXs, tu_6, tu_12, tu_16, kr10, au_92.2.1, bu_98, reduceIte, Option.bind_some, Option.bind_none, or_true, true_or, or_self, or_false, false_or, Int.reduceEq, Option.some.injEq, reduceCtorEq]))); (have bu_92 := yu_92 (by omega) qu_92; simp only [ogF, ogXs, tu_6, tu_12, tu_16, kr10, bu_92, reduceIte, Option.bind_some, Option.bind_none, or_true, true_or, or_self, or_false, false_or, Int.reduceEq, Option.some.injEq, reduceCtorEq])))⟩⟩ dX12_factorRead_266
          · refine lv_aload_n hx hb dX12_factorRead_88 rfl (lv_at hl 0 rfl) ?_
            refine lv_dup hx hb dX12_factorRead_89 rfl ?_
            refine g_X12_315 Cx hW (k := 231) (by decide) rfl (v := S.1 231 24) rfl dX12_factorRead_90 ?_
            have n_128 := hE.nx (pz := pz) (by omega) (by have z := (xu_12.2.1 (by omega)); unfold gS at z; omega)
            refine lv_iconst (v := iv 1) hx hb dX12_factorRead_93 (by decide) ?_
            refine r_iadd hx hb dX12_factorRead_94 ?_
            refine p_X12_315 Cx hW hL (k := 231) (by decide) rfl dX12_factorRead_95 (fun H locs hW hL => ?_)
            have F_129 : Fr S (uF S 231 24 ((S.1 231 24) + 1)) (pl [231]) := (Fr.rf : Fr S S (pl [231])).F rfl
            have g_130 : FF S (uF S 231 24 ((S.1 231 24) + 1)) (fl [20, 21, 24]) := FF.F FF.rf rfl
            have i_131 : dX G (uF S 231 24 ((S.1 231 24) + 1)) := hI.F (i := 24) (show (-2147483648) ≤ (S.1 231 24) + 1 ∧ (S.1 231 24) + 1 ≤ 2147483647 from ⟨by omega, by omega⟩)
            refine lv_aload_n hx hb dX12_factorRead_98 rfl (lv_at hl 0 rfl) ?_
            refine lv_iload_n hx hb dX12_factorRead_99 rfl (lv_at hl 1 rfl) ?_
            refine lv_iconst (v := iv 1) hx hb dX12_factorRead_100 (by decide) ?_
            refine r_iadd hx hb dX12_factorRead_101 ?_
            have lk_132 : (uF S 231 24 ((S.1 231 24) + 1)).1 231 24 = (S.1 231 24) + 1 := uF_on
            have lk_133 : (uF S 231 24 ((S.1 231 24) + 1)).1 231 20 = S.1 231 20 := uF_ne (fun h => absurd h.2 (by decide))
            refine sBv (sV (As := [.int (iv (dp + 1))]) (rest := []) (k := 231) Cx (hU n rfl (uF S 231 24 ((S.1 231 24) + 1)) ((pz) + 1) (dp + 1) i_131 ((funext fun j => uF_a : (uF S 231 24 ((S.1 231 24) + 1)).2.1 244 = S.2.1 244).trans hK) ((funext fun j => uF_a : (uF S 231 24 ((S.1 231 24) + 1)).2.1 247 = S.2.1 247).trans hV) (by omega) (fun h => by have e8 := (show (uF S 231 24 ((S.1 231 24) + 1)).1 231 20 = S.1 231 20 from uF_ne (fun h => absurd h.2 (by decide))); have a9 := hcu (by have e9 := (show (uF S 231 24 ((S.1 231 24) + 1)).1 231 20 = S.1 231 20 from uF_ne (fun h => absurd h.2 (by decide))); omega); omega) (by omega)) (c_X12_337 Cx rfl rfl (rmk_ok (by omega) (by decide))) hW (by decide) rfl rfl rfl hl.1 rfl (Nat.le_of_ble_eq_true rfl) dX12_factorRead_102 ⟨Nat.le_of_ble_eq_true rfl, Nat.le_of_ble_eq_true rfl⟩) hL (fun u_134 H locs k_135 hW hL => ?_)
            obtain ⟨iu_134, fu_134, gu_134, xu_134⟩ := k_135
            obtain ⟨xu_134, yu_134⟩ := xu_134
            have F_136 := F_129.trans fu_134
            have g_137 : FF S u_134 (fl [20, 21, 24]) := FF.trans g_130 (FF.to gu_134 (fl_sub (by decide)))
            refine lv_aload_n hx hb dX12_factorRead_105 rfl (lv_at hl 0 rfl) ?_
            refine lv_bipush (v := iv 41) hx hb dX12_factorRead_106 (by decide) ?_
            have q_138 : (-2147483648) ≤ u_134.1 231 24 ∧ u_134.1 231 24 ≤ 2147483647 := iu_134.fi 24
            have q_139 : (-2147483648) ≤ u_134.1 231 20 ∧ u_134.1 231 20 ≤ 2147483647 := iu_134.fi 20
            refine sBv (sV (As := [.int (iv 41)]) (rest := []) (k := 231) Cx (c_X12_want l G u_134 (sv := 41) (K := K) (V := V) (T := T) (pz := u_134.1 231 24) (cd := 20) iu_134 (by omega) osg_41 ((funext fun j => ((fu_134 244 rfl).2.1 j).trans (uF_a) : u_134.2.1 244 = S.2.1 244).trans hK) ((funext fun j => ((fu_134 247 rfl).2.1 j).trans (uF_a) : u_134.2.1 247 = S.2.1 247).trans hV) hE (by omega) (fun h => by have e8 := (show u_134.1 231 20 = u_134.1 231 20 from rfl); have a9 := xu_134 (by have e9 := (show u_134.1 231 20 = u_134.1 231 20 from rfl); omega); omega)) (c_X12_331 Cx rfl rfl (rmk_ok (by omega) (by decide))) hW (by decide) rfl rfl rfl hl.1 rfl (Nat.le_of_ble_eq_true rfl) dX12_factorRead_108 ⟨Nat.le_of_ble_eq_true rfl, Nat.le_of_ble_eq_true rfl⟩) hL (fun u_140 H locs k_141 hW hL => ?_)
            obtain ⟨iu_140, fu_140, gu_140, xu_140⟩ := k_141
            have F_142 := F_136.trans fu_140
            have g_143 : FF S u_140 (fl [20, 21, 24]) := FF.trans g_137 (FF.to gu_140 (fl_sub (by decide)))
            obtain ⟨xu_140, yu_140⟩ := xu_140
            refine lv_goto (tgt := 266) hx hb dX12_factorRead_111 (by decide) ?_
            have q_144 : (-2147483648) ≤ u_140.1 231 20 ∧ u_140.1 231 20 ≤ 2147483647 := iu_140.fi 20
            have q_145 : (-2147483648) ≤ u_140.1 231 24 ∧ u_140.1 231 24 ≤ 2147483647 := iu_140.fi 24
            exact sVret Cx hr hlk hW hL ⟨iu_140, F_142, g_143, ⟨(fun h => by have e8 := (show u_140.1 231 20 = u_140.1 231 20 from rfl); have e7 := (show u_140.1 231 24 = u_140.1 231 24 from rfl); have au_140 := xu_140 (by have e9 := (show u_140.1 231 20 = u_140.1 231 20 from rfl); omega); have au_134 := xu_134 (by omega); first | (exfalso; omega) | (have tu_6 : ¬ kr K V T (pz) = 22 := fun z => xu_6.2.2 (by omega) ((osg_45 K V T _).2 z); have tu_12 : kr K V T (pz) = 19 := (osg_40 K V T _).1 (by omega) (by omega) (xu_12.2.1 (by omega)); have kr10 : ¬ kr K V T (pz) = 3 := fun z => absurd ((kn_2 K V T _).2 z) (by omega); exact ⟨(by omega), (by rw [e7]; (try rw [hc]); simp only [ogF, ogXs, tu_6, tu_12, kr10, au_134.2.1, au_140.2.1, reduceIte, Option.bind_some, Option.bind_none, or_true, true_or, or_self, or_false, false_or, Int.reduceEq, Option.some.injEq, reduceCtorEq]), by omega, by omega, by omega⟩)), (fun h h9 => by have e8 := (show u_140.1 231 20 = u_140.1 231 20 from rfl); first | (exfalso; omega) | (have tu_6 : ¬ kr K V T (pz) = 22 := fun z => xu_6.2.2 (by omega) ((osg_45 K V T _).2 z); have tu_12 : kr K V T (pz) = 19 := (osg_40 K V T _).1 (by omega) (by omega) (xu_12.2.1 (by omega)); have kr10 : ¬ kr K V T (pz) = 3 := fun z => absurd ((kn_2 K V T _).2 z) (by omega); by_cases qu_134 : u_134.1 231 20 = 0; (have au_134 := xu_134 qu_134; first | (exfalso; omega) | (by_cases qu_140 : u_140.1 231 20 = 0; (have au_140 := xu_140 qu_140; first | (exfalso; omega) | (exfalso; omega)); (have bu_140 := yu_140 (by omega) qu_140; simp only [ogF, ogXs, tu_6, tu_12, kr10, au_134.2.1, bu_140, reduceIte, Option.bind_some, Option.bind_none, or_true, true_or, or_self, or_false, false_or, Int.reduceEq, Option.some.injEq, reduceCtorEq]))); (have bu_134 := yu_134 (by omega) qu_134; simp only [ogF, ogXs, tu_6, tu_12, kr10, bu_134, reduceIte, Option.bind_some, Option.bind_none, or_true, true_or, or_self, or_false, false_or, Int.reduceEq, Option.some.injEq, reduceCtorEq])))⟩⟩ dX12_factorRead_266
        · refine lv_aload_n hx hb dX12_factorRead_66 rfl (lv_at hl 0 rfl) ?_
          refine lv_dup hx hb dX12_factorRead_67 rfl ?_
          refine g_X12_315 Cx hW (k := 231) (by decide) rfl (v := S.1 231 24) rfl dX12_factorRead_68 ?_
          have n_146 := hE.nx (pz := pz) (by omega) (by omega)
          refine lv_iconst (v := iv 1) hx hb dX12_factorRead_71 (by decide) ?_
          refine r_iadd hx hb dX12_factorRead_72 ?_
          refine p_X12_315 Cx hW hL (k := 231) (by decide) rfl dX12_factorRead_73 (fun H locs hW hL => ?_)
          have F_147 : Fr S (uF S 231 24 ((S.1 231 24) + 1)) (pl [231]) := (Fr.rf : Fr S S (pl [231])).F rfl
          have g_148 : FF S (uF S 231 24 ((S.1 231 24) + 1)) (fl [20, 21, 24]) := FF.F FF.rf rfl
          have i_149 : dX G (uF S 231 24 ((S.1 231 24) + 1)) := hI.F (i := 24) (show (-2147483648) ≤ (S.1 231 24) + 1 ∧ (S.1 231 24) + 1 ≤ 2147483647 from ⟨by omega, by omega⟩)
          refine lv_goto (tgt := 266) hx hb dX12_factorRead_76 (by decide) ?_
          have lk_150 : (uF S 231 24 ((S.1 231 24) + 1)).1 231 20 = S.1 231 20 := uF_ne (fun h => absurd h.2 (by decide))
          have lk_151 : (uF S 231 24 ((S.1 231 24) + 1)).1 231 24 = (S.1 231 24) + 1 := uF_on
          exact sVret Cx hr hlk hW hL ⟨i_149, F_147, g_148, ⟨(fun h => by have e8 := (show (uF S 231 24 ((S.1 231 24) + 1)).1 231 20 = S.1 231 20 from uF_ne (fun h => absurd h.2 (by decide))); have e7 := (show (uF S 231 24 ((S.1 231 24) + 1)).1 231 24 = (S.1 231 24) + 1 from uF_on); first | (exfalso; omega) | (have b0 := hcu (by omega); have tu_6 : ¬ kr K V T (pz) = 22 := fun z => xu_6.2.2 (by omega) ((osg_45 K V T _).2 z); have kr10 : kr K V T (pz) = 3 := (kn_2 K V T _).1 (by omega) (by omega) (by omega); exact ⟨(by omega), (by rw [e7]; (try rw [hc]); simp only [ogF, ogXs, tu_6, kr10, reduceIte, Option.bind_some, Option.bind_none, or_true, true_or, or_self, or_false, false_or, Int.reduceEq, Option.some.injEq, reduceCtorEq]), by omega, by omega, by omega⟩)), (fun h h9 => by have e8 := (show (uF S 231 24 ((S.1 231 24) + 1)).1 231 20 = S.1 231 20 from uF_ne (fun h => absurd h.2 (by decide))); first | (exfalso; omega) | (have tu_6 : ¬ kr K V T (pz) = 22 := fun z => xu_6.2.2 (by omega) ((osg_45 K V T _).2 z); have kr10 : kr K V T (pz) = 3 := (kn_2 K V T _).1 (by omega) (by omega) (by omega); exfalso; omega))⟩⟩ dX12_factorRead_266
      · refine lv_aload_n hx hb dX12_factorRead_33 rfl (lv_at hl 0 rfl) ?_
        refine lv_dup hx hb dX12_factorRead_34 rfl ?_
        refine g_X12_315 Cx hW (k := 231) (by decide) rfl (v := S.1 231 24) rfl dX12_factorRead_35 ?_
        have n_152 := hE.nx (pz := pz) (by omega) (by have z := (xu_6.2.1 (by omega)); unfold gS at z; omega)
        refine lv_iconst (v := iv 1) hx hb dX12_factorRead_38 (by decide) ?_
        refine r_iadd hx hb dX12_factorRead_39 ?_
        refine p_X12_315 Cx hW hL (k := 231) (by decide) rfl dX12_factorRead_40 (fun H locs hW hL => ?_)
        have F_153 : Fr S (uF S 231 24 ((S.1 231 24) + 1)) (pl [231]) := (Fr.rf : Fr S S (pl [231])).F rfl
        have g_154 : FF S (uF S 231 24 ((S.1 231 24) + 1)) (fl [20, 21, 24]) := FF.F FF.rf rfl
        have i_155 : dX G (uF S 231 24 ((S.1 231 24) + 1)) := hI.F (i := 24) (show (-2147483648) ≤ (S.1 231 24) + 1 ∧ (S.1 231 24) + 1 ≤ 2147483647 from ⟨by omega, by omega⟩)
        refine lv_aload_n hx hb dX12_factorRead_43 rfl (lv_at hl 0 rfl) ?_
        refine lv_iload_n hx hb dX12_factorRead_44 rfl (lv_at hl 1 rfl) ?_
        refine lv_iconst (v := iv 1) hx hb dX12_factorRead_45 (by decide) ?_
        refine r_iadd hx hb dX12_factorRead_46 ?_
        have lk_156 : (uF S 231 24 ((S.1 231 24) + 1)).1 231 24 = (S.1 231 24) + 1 := uF_on
        have lk_157 : (uF S 231 24 ((S.1 231 24) + 1)).1 231 20 = S.1 231 20 := uF_ne (fun h => absurd h.2 (by decide))
        refine sBv (sV (As := [.int (iv (dp + 1))]) (rest := []) (k := 231) Cx (hF n rfl (uF S 231 24 ((S.1 231 24) + 1)) ((pz) + 1) (dp + 1) i_155 ((funext fun j => uF_a : (uF S 231 24 ((S.1 231 24) + 1)).2.1 244 = S.2.1 244).trans hK) ((funext fun j => uF_a : (uF S 231 24 ((S.1 231 24) + 1)).2.1 247 = S.2.1 247).trans hV) (by omega) (fun h => by have e8 := (show (uF S 231 24 ((S.1 231 24) + 1)).1 231 20 = S.1 231 20 from uF_ne (fun h => absurd h.2 (by decide))); have a9 := hcu (by have e9 := (show (uF S 231 24 ((S.1 231 24) + 1)).1 231 20 = S.1 231 20 from uF_ne (fun h => absurd h.2 (by decide))); omega); omega) (by omega)) (c_X12_352 Cx rfl rfl (rmk_ok (by omega) (by decide))) hW (by decide) rfl rfl rfl hl.1 rfl (Nat.le_of_ble_eq_true rfl) dX12_factorRead_47 ⟨Nat.le_of_ble_eq_true rfl, Nat.le_of_ble_eq_true rfl⟩) hL (fun u_158 H locs k_159 hW hL => ?_)
        obtain ⟨iu_158, fu_158, gu_158, xu_158⟩ := k_159
        obtain ⟨xu_158, yu_158⟩ := xu_158
        have F_160 := F_153.trans fu_158
        have g_161 : FF S u_158 (fl [20, 21, 24]) := FF.trans g_154 (FF.to gu_158 (fl_sub (by decide)))
        refine lv_goto (tgt := 266) hx hb dX12_factorRead_50 (by decide) ?_
        have q_162 : (-2147483648) ≤ u_158.1 231 20 ∧ u_158.1 231 20 ≤ 2147483647 := iu_158.fi 20
        have q_163 : (-2147483648) ≤ u_158.1 231 24 ∧ u_158.1 231 24 ≤ 2147483647 := iu_158.fi 24
        exact sVret Cx hr hlk hW hL ⟨iu_158, F_160, g_161, ⟨(fun h => by have e8 := (show u_158.1 231 20 = u_158.1 231 20 from rfl); have e7 := (show u_158.1 231 24 = u_158.1 231 24 from rfl); have au_158 := xu_158 (by have e9 := (show u_158.1 231 20 = u_158.1 231 20 from rfl); omega); first | (exfalso; omega) | (have tu_6 : kr K V T (pz) = 22 := (osg_45 K V T _).1 (by omega) (by omega) (xu_6.2.1 (by omega)); exact ⟨(by omega), (by rw [e7]; (try rw [hc]); simp only [ogF, ogXs, tu_6, au_158.2.1, reduceIte, Option.bind_some, Option.bind_none, or_true, true_or, or_self, or_false, false_or, Int.reduceEq, Option.some.injEq, reduceCtorEq]), by omega, by omega, by omega⟩)), (fun h h9 => by have e8 := (show u_158.1 231 20 = u_158.1 231 20 from rfl); first | (exfalso; omega) | (have tu_6 : kr K V T (pz) = 22 := (osg_45 K V T _).1 (by omega) (by omega) (xu_6.2.1 (by omega)); by_cases qu_158 : u_158.1 231 20 = 0; (have au_158 := xu_158 qu_158; first | (exfalso; omega) | (exfalso; omega)); (have bu_158 := yu_158 (by omega) qu_158; simp only [ogF, ogXs, tu_6, bu_158, reduceIte, Option.bind_some, Option.bind_none, or_true, true_or, or_self, or_false, false_or, Int.reduceEq, Option.some.injEq, reduceCtorEq])))⟩⟩ dX12_factorRead_266
    · refine lv_aload_n hx hb dX12_factorRead_14 rfl (lv_at hl 0 rfl) ?_
      refine lv_iconst (v := iv 1) hx hb dX12_factorRead_15 (by decide) ?_
      refine lv_aload_n hx hb dX12_factorRead_16 rfl (lv_at hl 0 rfl) ?_
      have q_164 : (-2147483648) ≤ S.1 231 24 ∧ S.1 231 24 ≤ 2147483647 := hI.fi 24
      refine g_X12_315 Cx hW (k := 231) (by decide) rfl (v := S.1 231 24) rfl dX12_factorRead_17 ?_
      refine sBv (sV (As := [.int (iv 1), .int (iv (S.1 231 24))]) (rest := []) (k := 231) Cx (s_X12_wrong l G S (cd := 1) (tk := S.1 231 24) hI (by omega) (by omega)) (c_X12_321 Cx rfl rfl (rmk_ok (by omega) (by decide))) hW (by decide) rfl rfl rfl hl.1 rfl (Nat.le_of_ble_eq_true rfl) dX12_factorRead_20 ⟨Nat.le_of_ble_eq_true rfl, Nat.le_of_ble_eq_true rfl⟩) hL (fun u_165 H locs k_166 hW hL => ?_)
      obtain ⟨iu_165, fu_165, gu_165, xu_165⟩ := k_166
      have F_167 := (Fr.rf : Fr S S (pl [231])).trans fu_165
      have g_168 : FF S u_165 (fl [20, 21, 24]) := FF.trans FF.rf (FF.to gu_165 (fl_sub (by decide)))
      have q_169 : (-2147483648) ≤ u_165.1 231 20 ∧ u_165.1 231 20 ≤ 2147483647 := iu_165.fi 20
      have lk_170 : u_165.1 231 24 = S.1 231 24 := gu_165 24 rfl
      exact sVret Cx hr hlk hW hL ⟨iu_165, F_167, g_168, ⟨(fun h => absurd h (by have e9 := (show u_165.1 231 20 = u_165.1 231 20 from rfl); have a9 := xu_165; omega)), (fun h h9 => by have e8 := (show u_165.1 231 20 = u_165.1 231 20 from rfl); first | (exfalso; omega) | (rw [show N = 0 by omega]; rfl))⟩⟩ dX12_factorRead_23
  · have q_171 : (-2147483648) ≤ S.1 231 24 ∧ S.1 231 24 ≤ 2147483647 := hI.fi 24
    exact sVret Cx hr hlk hW hL ⟨hI, (Fr.rf : Fr S S (pl [231])), FF.rf, ⟨(fun h => by have e8 := (show S.1 231 20 = S.1 231 20 from rfl); have e7 := (show S.1 231 24 = S.1 231 24 from rfl); first | (exfalso; omega) | (have b0 := hcu (by omega); exact ⟨(by omega), (by rw [e7]; (try rw [hc]); rw [show N = 0 by omega]; rfl), by omega, by omega, by omega⟩)), (fun h h9 => by have e8 := (show S.1 231 20 = S.1 231 20 from rfl); first | (exfalso; omega) | (exfalso; omega))⟩⟩ dX12_factorRead_7

set_option maxRecDepth 100000 in
set_option maxHeartbeats 4000000 in
theorem c_X12_productRead (l : Launch) (G : sG) (S : sS) {K V : Int → Int} {T pz : Int} {D d1 N : Nat} {dp : Int} (hI : dX G S) (hN : (N : Int) = 30 - dp ∧ 0 ≤ dp) (h1 : d1 < D) (h8 : 8 ≤ D) (hF : Hd (CFr l G d1 K V T N)) (hK : S.2.1 244 = K) (hV : S.2.1 247 = V) (hE : gE K T) (hc : S.1 231 24 = pz) (hcu : Hd (S.1 231 20 = 0 → 0 ≤ pz ∧ pz ≤ T - 1)) : Met l yX12_productRead (.code yX12_productRead cX12_productRead 2 none :: tb) (rmk D 0 0) (sPc G 294 S [.ref (G.2.2.1 + 231), .int (iv dp)]) (sQv G 294 (fun u => dX G u ∧ Fr S u (pl [231]) ∧ FF S u (fl [20, 21, 24]) ∧ (Hd (u.1 231 20 = 0 → S.1 231 20 = 0 ∧ ogP T (kr K V T) (ogF T (kr K V T) N) pz = some (u.1 231 24) ∧ pz < u.1 231 24 ∧ 0 ≤ u.1 231 24 ∧ u.1 231 24 ≤ T - 1) ∧ Hd (S.1 231 20 = 0 → u.1 231 20 ≠ 0 → ogP T (kr K V T) (ogF T (kr K V T) N) pz = none)))) 0 0 (sF G) := by
  refine sEnter (by decide) (Nat.le_of_ble_eq_true rfl) ?_
  intro p e s m args below meth c Cx hr hlk hnm hW ls hl
  have Cx : sC G p m c cX12_productRead 2 s args RX12 := Cx
  obtain ⟨hx, hb, hml, hown, hts⟩ := id Cx.1
  have hL : sL G [] := sL_nil
  have hl : lv_has ls 2 [(0, .ref (G.2.2.1 + 231)), (1, .int (iv dp))] := hl
  have hW0 := hW
  have hE1 := hE.1
  refine lv_aload_n hx hb dX12_productRead_0 rfl (lv_at hl 0 rfl) ?_
  refine lv_iload_n hx hb dX12_productRead_1 rfl (lv_at hl 1 rfl) ?_
  have q_1 : (-2147483648) ≤ S.1 231 24 ∧ S.1 231 24 ≤ 2147483647 := hI.fi 24
  have q_2 : (-2147483648) ≤ S.1 231 20 ∧ S.1 231 20 ≤ 2147483647 := hI.fi 20
  refine sBv (sV (As := [.int (iv dp)]) (rest := []) (k := 231) Cx (hF S pz dp hI hK hV (by omega) (fun h => by have e8 := (show S.1 231 20 = S.1 231 20 from rfl); have a9 := hcu (by have e9 := (show S.1 231 20 = S.1 231 20 from rfl); omega); omega) (by omega)) (c_X12_352 Cx rfl rfl (rmk_ok (by omega) (by decide))) hW (by decide) rfl rfl rfl hl.1 rfl (Nat.le_of_ble_eq_true rfl) dX12_productRead_2 ⟨Nat.le_of_ble_eq_true rfl, Nat.le_of_ble_eq_true rfl⟩) hL (fun u_3 H locs k_4 hW hL => ?_)
  obtain ⟨iu_3, fu_3, gu_3, xu_3⟩ := k_4
  obtain ⟨xu_3, yu_3⟩ := xu_3
  have F_5 := (Fr.rf : Fr S S (pl [231])).trans fu_3
  have g_6 : FF S u_3 (fl [20, 21, 24]) := FF.trans FF.rf (FF.to gu_3 (fl_sub (by decide)))
  have loop_5 : ∀ (fuel : Nat) (S5 : sS)  (H : Heap) (locs : List Loc) (ls : Array Slot), mf S5 T < fuel → (dX G S5) → (Fr S S5 (pl [231])) → (Fr u_3 S5 (pl [231])) → (FF S S5 (fl [20, 21, 24])) → (FF u_3 S5 (fl [20, 21, 24])) → (Hd (S5.1 231 20 = 0 → 0 ≤ S5.1 231 24 ∧ S5.1 231 24 ≤ T - 1)) → (Hd (S5.1 231 20 = 0 → u_3.1 231 20 = 0 ∧ ogW T (fun p => (kr K V T) p = 23) (fun p => ogF T (kr K V T) N (p + 1)) (u_3.1 231 24) = ogW T (fun p => (kr K V T) p = 23) (fun p => ogF T (kr K V T) N (p + 1)) (S5.1 231 24) ∧ u_3.1 231 24 ≤ S5.1 231 24)) → (Hd (u_3.1 231 20 = 0 → S5.1 231 20 ≠ 0 → ogW T (fun p => (kr K V T) p = 23) (fun p => ogF T (kr K V T) N (p + 1)) (u_3.1 231 24) = none)) → sW G 294 S5 H → sL G locs → lv_has ls 2 [(0, .ref (G.2.2.1 + 231)), (1, .int (iv dp))] → W p l e (rmk D 0 0) s m args below meth c H locs 0 0 (MQ below (sQv G 294 (fun u => dX G u ∧ Fr S u (pl [231]) ∧ FF S u (fl [20, 21, 24]) ∧ (Hd (u.1 231 20 = 0 → S.1 231 20 = 0 ∧ ogP T (kr K V T) (ogF T (kr K V T) N) pz = some (u.1 231 24) ∧ pz < u.1 231 24 ∧ 0 ≤ u.1 231 24 ∧ u.1 231 24 ≤ T - 1) ∧ Hd (S.1 231 20 = 0 → u.1 231 20 ≠ 0 → ogP T (kr K V T) (ogF T (kr K V T) N) pz = none)))) args s 0 0 (sF G)) (F0 m 5 ls []) := by
    intro fuel
    induction fuel with
    | zero => intro S5  H locs ls hmeas hI5 hFm5 hL5_ hGm5 gL5_ hcu5 hH5 hN5 hW hL hl; exact absurd hmeas (Nat.not_lt_zero _)
    | succ fuel ih_5 =>
      intro S5  H locs ls hmeas hI5 hFm5 hL5_ hGm5 gL5_ hcu5 hH5 hN5 hW hL hl
      refine lv_aload_n hx hb dX12_productRead_5 rfl (lv_at hl 0 rfl) ?_
      have q_7 : (-2147483648) ≤ S5.1 231 20 ∧ S5.1 231 20 ≤ 2147483647 := hI5.fi 20
      refine g_X12_270 Cx hW (k := 231) (by decide) rfl (v := S5.1 231 20) rfl dX12_productRead_6 ?_
      refine r_if_ne (tgt := 39) hx hb ⟨(by omega), (by omega)⟩ dX12_productRead_9 (by decide) (fun c_8 => ?_) (fun c_8 => ?_)
      · have q_9 : (-2147483648) ≤ S5.1 231 24 ∧ S5.1 231 24 ≤ 2147483647 := hI5.fi 24
        exact sVret Cx hr hlk hW hL ⟨hI5, hFm5, hGm5, ⟨(fun h => by have e8 := (show S5.1 231 20 = S5.1 231 20 from rfl); have e7 := (show S5.1 231 24 = S5.1 231 24 from rfl); have aS5 := hH5 (by have e9 := (show S5.1 231 20 = S5.1 231 20 from rfl); omega); have au_3 := xu_3 (by omega); first | (exfalso; omega) | (exact ⟨(by omega), (by rw [e7]; (try rw [hc]); simp only [ogP, au_3.2.1, aS5.2.1, reduceIte, Option.bind_some, Option.bind_none, or_true, true_or, or_self, or_false, false_or, Int.reduceEq, Option.some.injEq, reduceCtorEq]), by omega, by omega, by omega⟩)), (fun h h9 => by have e8 := (show S5.1 231 20 = S5.1 231 20 from rfl); first | (exfalso; omega) | (by_cases qu_3 : u_3.1 231 20 = 0; (have au_3 := xu_3 qu_3; first | (exfalso; omega) | (by_cases qS5 : S5.1 231 20 = 0; (have aS5 := hH5 qS5; first | (exfalso; omega) | (exfalso; omega)); (have bS5 := hN5 (by omega) qS5; simp only [ogP, au_3.2.1, bS5, reduceIte, Option.bind_some, Option.bind_none, or_true, true_or, or_self, or_false, false_or, Int.reduceEq, Option.some.injEq, reduceCtorEq]))); (have bu_3 := yu_3 (by omega) qu_3; simp only [ogP, bu_3, reduceIte, Option.bind_some, Option.bind_none, or_true, true_or, or_self, or_false, false_or, Int.reduceEq, Option.some.injEq, reduceCtorEq])))⟩⟩ dX12_productRead_39
      · have b_10 := hcu5 (by have e9 := (show S5.1 231 20 = S5.1 231 20 from rfl); omega)
        refine lv_aload_n hx hb dX12_productRead_12 rfl (lv_at hl 0 rfl) ?_
        refine lv_bipush (v := iv 42) hx hb dX12_productRead_13 (by decide) ?_
        have q_11 : (-2147483648) ≤ S5.1 231 24 ∧ S5.1 231 24 ≤ 2147483647 := hI5.fi 24
        refine sBi (sV (As := [.int (iv 42)]) (rest := []) (k := 231) Cx (s_X12_isSign l G S5 (sv := 42) (K := K) (V := V) (pz := S5.1 231 24) hI5 (by omega) ((funext fun j => ((hL5_ 244 rfl).2.1 j).trans ((fu_3 244 rfl).2.1 j) : S5.2.1 244 = S.2.1 244).trans hK) ((funext fun j => ((hL5_ 247 rfl).2.1 j).trans ((fu_3 247 rfl).2.1 j) : S5.2.1 247 = S.2.1 247).trans hV) (by omega) (by omega)) (c_X12_318 Cx rfl rfl (rmk_ok (by omega) (by decide))) hW (by decide) rfl rfl rfl hl.1 rfl (Nat.le_of_ble_eq_true rfl) dX12_productRead_15 ⟨Nat.le_of_ble_eq_true rfl, Nat.le_of_ble_eq_true rfl⟩) hL (fun r_14 u_12 H locs k_13 hW hL => ?_)
        obtain ⟨eu_12, xu_12⟩ := k_13
        rw [eu_12] at hW
        refine r_if_eq (tgt := 39) hx hb ⟨(by omega), (by omega)⟩ dX12_productRead_18 (by decide) (fun c_15 => ?_) (fun c_15 => ?_)
        · exact sVret Cx hr hlk hW hL ⟨hI5, hFm5, hGm5, ⟨(fun h => by have e8 := (show S5.1 231 20 = S5.1 231 20 from rfl); have e7 := (show S5.1 231 24 = S5.1 231 24 from rfl); have aS5 := hH5 (by have e9 := (show S5.1 231 20 = S5.1 231 20 from rfl); omega); have au_3 := xu_3 (by omega); first | (exfalso; omega) | (have tu_12 : ¬ kr K V T (S5.1 231 24) = 23 := fun z => xu_12.2.2 (by omega) ((osg_42 K V T _).2 z); exact ⟨(by omega), (by rw [e7]; (try rw [hc]); simp only [ogP, tu_12, au_3.2.1, (aS5.2.1.trans (ogW_no (st := (fun p => (kr K V T) p = 23)) tu_12)), reduceIte, Option.bind_some, Option.bind_none, or_true, true_or, or_self, or_false, false_or, Int.reduceEq, Option.some.injEq, reduceCtorEq]), by omega, by omega, by omega⟩)), (fun h h9 => by have e8 := (show S5.1 231 20 = S5.1 231 20 from rfl); first | (exfalso; omega) | (have tu_12 : ¬ kr K V T (S5.1 231 24) = 23 := fun z => xu_12.2.2 (by omega) ((osg_42 K V T _).2 z); by_cases qu_3 : u_3.1 231 20 = 0; (have au_3 := xu_3 qu_3; first | (exfalso; omega) | (by_cases qS5 : S5.1 231 20 = 0; (have aS5 := hH5 qS5; first | (exfalso; omega) | (exfalso; omega)); (have bS5 := hN5 (by omega) qS5; simp only [ogP, tu_12, au_3.2.1, bS5, reduceIte, Option.bind_some, Option.bind_none, or_true, true_or, or_self, or_false, false_or, Int.reduceEq, Option.some.injEq, reduceCtorEq]))); (have bu_3 := yu_3 (by omega) qu_3; simp only [ogP, tu_12, bu_3, reduceIte, Option.bind_some, Option.bind_none, or_true, true_or, or_self, or_false, false_or, Int.reduceEq, Option.some.injEq, reduceCtorEq])))⟩⟩ dX12_productRead_39
        · refine lv_aload_n hx hb dX12_productRead_21 rfl (lv_at hl 0 rfl) ?_
          refine lv_dup hx hb dX12_productRead_22 rfl ?_
          refine g_X12_315 Cx hW (k := 231) (by decide) rfl (v := S5.1 231 24) rfl dX12_productRead_23 ?_
          have n_16 := hE.nx (pz := S5.1 231 24) (by omega) (by have z := (xu_12.2.1 (by omega)); unfold gS at z; omega)
          refine lv_iconst (v := iv 1) hx hb dX12_productRead_26 (by decide) ?_
          refine r_iadd hx hb dX12_productRead_27 ?_
          refine p_X12_315 Cx hW hL (k := 231) (by decide) rfl dX12_productRead_28 (fun H locs hW hL => ?_)
          have F_17 : Fr S (uF S5 231 24 ((S5.1 231 24) + 1)) (pl [231]) := hFm5.F rfl
          have F_18 : Fr u_3 (uF S5 231 24 ((S5.1 231 24) + 1)) (pl [231]) := hL5_.F rfl
          have g_19 : FF S (uF S5 231 24 ((S5.1 231 24) + 1)) (fl [20, 21, 24]) := FF.F hGm5 rfl
          have g_20 : FF u_3 (uF S5 231 24 ((S5.1 231 24) + 1)) (fl [20, 21, 24]) := FF.F gL5_ rfl
          have i_21 : dX G (uF S5 231 24 ((S5.1 231 24) + 1)) := hI5.F (i := 24) (show (-2147483648) ≤ (S5.1 231 24) + 1 ∧ (S5.1 231 24) + 1 ≤ 2147483647 from ⟨by omega, by omega⟩)
          refine lv_aload_n hx hb dX12_productRead_31 rfl (lv_at hl 0 rfl) ?_
          refine lv_iload_n hx hb dX12_productRead_32 rfl (lv_at hl 1 rfl) ?_
          have lk_22 : (uF S5 231 24 ((S5.1 231 24) + 1)).1 231 24 = (S5.1 231 24) + 1 := uF_on
          have lk_23 : (uF S5 231 24 ((S5.1 231 24) + 1)).1 231 20 = S5.1 231 20 := uF_ne (fun h => absurd h.2 (by decide))
          refine sBv (sV (As := [.int (iv dp)]) (rest := []) (k := 231) Cx (hF (uF S5 231 24 ((S5.1 231 24) + 1)) ((S5.1 231 24) + 1) dp i_21 ((funext fun j => (uF_a).trans (((hL5_ 244 rfl).2.1 j).trans ((fu_3 244 rfl).2.1 j)) : (uF S5 231 24 ((S5.1 231 24) + 1)).2.1 244 = S.2.1 244).trans hK) ((funext fun j => (uF_a).trans (((hL5_ 247 rfl).2.1 j).trans ((fu_3 247 rfl).2.1 j)) : (uF S5 231 24 ((S5.1 231 24) + 1)).2.1 247 = S.2.1 247).trans hV) (by omega) (fun h => by have e8 := (show (uF S5 231 24 ((S5.1 231 24) + 1)).1 231 20 = S5.1 231 20 from uF_ne (fun h => absurd h.2 (by decide))); have a9 := hcu5 (by have e9 := (show (uF S5 231 24 ((S5.1 231 24) + 1)).1 231 20 = S5.1 231 20 from uF_ne (fun h => absurd h.2 (by decide))); omega); omega) (by omega)) (c_X12_352 Cx rfl rfl (rmk_ok (by omega) (by decide))) hW (by decide) rfl rfl rfl hl.1 rfl (Nat.le_of_ble_eq_true rfl) dX12_productRead_33 ⟨Nat.le_of_ble_eq_true rfl, Nat.le_of_ble_eq_true rfl⟩) hL (fun u_24 H locs k_25 hW hL => ?_)
          obtain ⟨iu_24, fu_24, gu_24, xu_24⟩ := k_25
          obtain ⟨xu_24, yu_24⟩ := xu_24
          have F_26 := F_17.trans fu_24
          have F_27 := F_18.trans fu_24
          have g_28 : FF S u_24 (fl [20, 21, 24]) := FF.trans g_19 (FF.to gu_24 (fl_sub (by decide)))
          have g_29 : FF u_3 u_24 (fl [20, 21, 24]) := FF.trans g_20 (FF.to gu_24 (fl_sub (by decide)))
          refine lv_goto (tgt := 5) hx hb dX12_productRead_36 (by decide) ?_
          have q_30 : (-2147483648) ≤ u_24.1 231 20 ∧ u_24.1 231 20 ≤ 2147483647 := iu_24.fi 20
          have q_31 : (-2147483648) ≤ u_24.1 231 24 ∧ u_24.1 231 24 ≤ 2147483647 := iu_24.fi 24
          exact ih_5 u_24  _ _ _ (Nat.lt_of_lt_of_le (mf_lt (S := S5) (by omega) (by omega) (fun h => by have a9 := xu_24 h; omega)) (Nat.le_of_lt_succ hmeas)) iu_24 F_26 F_27 g_28 g_29 (fun h => by have a9 := xu_24 h; omega) (fun h => by have a9 := xu_24 h; have a8 := hH5 (by omega); exact ⟨a8.1, a8.2.1.trans (ogW23 kr_out (ogF_inc N) ((osg_42 K V T _).1 (by omega) (by omega) (xu_12.2.1 (by omega))) a9.2.1), by omega⟩) (fun h h9 => by have a8 := hH5 (by omega); have b9 := yu_24 (by omega) h9; exact a8.2.1.trans (ogW_fa ((osg_42 K V T _).1 (by omega) (by omega) (xu_12.2.1 (by omega))) b9)) hW hL (lv_sub hl [0, 1] rfl)
  have q_32 : (-2147483648) ≤ u_3.1 231 20 ∧ u_3.1 231 20 ≤ 2147483647 := iu_3.fi 20
  have q_33 : (-2147483648) ≤ u_3.1 231 24 ∧ u_3.1 231 24 ≤ 2147483647 := iu_3.fi 24
  exact loop_5 (_ + 1) u_3  _ _ _ (Nat.lt_succ_self _) iu_3 F_5 Fr.rf g_6 FF.rf (fun h => by have a9 := xu_3 h; omega) (fun h => ⟨h, rfl, Int.le_refl _⟩) (fun h h9 => absurd h h9) hW hL (lv_sub hl [0, 1] rfl)

set_option maxRecDepth 100000 in
set_option maxHeartbeats 4000000 in
theorem c_X12_sumRead (l : Launch) (G : sG) (S : sS) {K V : Int → Int} {T pz : Int} {D d1 N : Nat} {dp : Int} (hI : dX G S) (hN : (N : Int) = 30 - dp ∧ 0 ≤ dp) (h1 : d1 < D) (h8 : 8 ≤ D) (hF : Hd (CPr l G d1 K V T N)) (hK : S.2.1 244 = K) (hV : S.2.1 247 = V) (hE : gE K T) (hc : S.1 231 24 = pz) (hcu : Hd (S.1 231 20 = 0 → 0 ≤ pz ∧ pz ≤ T - 1)) : Met l yX12_sumRead (.code yX12_sumRead cX12_sumRead 2 none :: tb) (rmk D 0 0) (sPc G 294 S [.ref (G.2.2.1 + 231), .int (iv dp)]) (sQv G 294 (fun u => dX G u ∧ Fr S u (pl [231]) ∧ FF S u (fl [20, 21, 24]) ∧ (Hd (u.1 231 20 = 0 → S.1 231 20 = 0 ∧ ogU T (kr K V T) (ogF T (kr K V T) N) pz = some (u.1 231 24) ∧ pz < u.1 231 24 ∧ 0 ≤ u.1 231 24 ∧ u.1 231 24 ≤ T - 1) ∧ Hd (S.1 231 20 = 0 → u.1 231 20 ≠ 0 → ogU T (kr K V T) (ogF T (kr K V T) N) pz = none)))) 0 0 (sF G) := by
  refine sEnter (by decide) (Nat.le_of_ble_eq_true rfl) ?_
  intro p e s m args below meth c Cx hr hlk hnm hW ls hl
  have Cx : sC G p m c cX12_sumRead 2 s args RX12 := Cx
  obtain ⟨hx, hb, hml, hown, hts⟩ := id Cx.1
  have hL : sL G [] := sL_nil
  have hl : lv_has ls 2 [(0, .ref (G.2.2.1 + 231)), (1, .int (iv dp))] := hl
  have hW0 := hW
  have hE1 := hE.1
  refine lv_aload_n hx hb dX12_sumRead_0 rfl (lv_at hl 0 rfl) ?_
  refine lv_iload_n hx hb dX12_sumRead_1 rfl (lv_at hl 1 rfl) ?_
  have q_1 : (-2147483648) ≤ S.1 231 24 ∧ S.1 231 24 ≤ 2147483647 := hI.fi 24
  have q_2 : (-2147483648) ≤ S.1 231 20 ∧ S.1 231 20 ≤ 2147483647 := hI.fi 20
  refine sBv (sV (As := [.int (iv dp)]) (rest := []) (k := 231) Cx (hF S pz dp hI hK hV (by omega) (fun h => by have e8 := (show S.1 231 20 = S.1 231 20 from rfl); have a9 := hcu (by have e9 := (show S.1 231 20 = S.1 231 20 from rfl); omega); omega) (by omega)) (c_X12_349 Cx rfl rfl (rmk_ok (by omega) (by decide))) hW (by decide) rfl rfl rfl hl.1 rfl (Nat.le_of_ble_eq_true rfl) dX12_sumRead_2 ⟨Nat.le_of_ble_eq_true rfl, Nat.le_of_ble_eq_true rfl⟩) hL (fun u_3 H locs k_4 hW hL => ?_)
  obtain ⟨iu_3, fu_3, gu_3, xu_3⟩ := k_4
  obtain ⟨xu_3, yu_3⟩ := xu_3
  have F_5 := (Fr.rf : Fr S S (pl [231])).trans fu_3
  have g_6 : FF S u_3 (fl [20, 21, 24]) := FF.trans FF.rf (FF.to gu_3 (fl_sub (by decide)))
  have loop_5 : ∀ (fuel : Nat) (S5 : sS)  (H : Heap) (locs : List Loc) (ls : Array Slot), mf S5 T < fuel → (dX G S5) → (Fr S S5 (pl [231])) → (Fr u_3 S5 (pl [231])) → (FF S S5 (fl [20, 21, 24])) → (FF u_3 S5 (fl [20, 21, 24])) → (Hd (S5.1 231 20 = 0 → 0 ≤ S5.1 231 24 ∧ S5.1 231 24 ≤ T - 1)) → (Hd (S5.1 231 20 = 0 → u_3.1 231 20 = 0 ∧ ogW T (fun p => (kr K V T) p = 21 ∨ (kr K V T) p = 22) (fun p => ogP T (kr K V T) (ogF T (kr K V T) N) (p + 1)) (u_3.1 231 24) = ogW T (fun p => (kr K V T) p = 21 ∨ (kr K V T) p = 22) (fun p => ogP T (kr K V T) (ogF T (kr K V T) N) (p + 1)) (S5.1 231 24) ∧ u_3.1 231 24 ≤ S5.1 231 24)) → (Hd (u_3.1 231 20 = 0 → S5.1 231 20 ≠ 0 → ogW T (fun p => (kr K V T) p = 21 ∨ (kr K V T) p = 22) (fun p => ogP T (kr K V T) (ogF T (kr K V T) N) (p + 1)) (u_3.1 231 24) = none)) → sW G 294 S5 H → sL G locs → lv_has ls 2 [(0, .ref (G.2.2.1 + 231)), (1, .int (iv dp))] → W p l e (rmk D 0 0) s m args below meth c H locs 0 0 (MQ below (sQv G 294 (fun u => dX G u ∧ Fr S u (pl [231]) ∧ FF S u (fl [20, 21, 24]) ∧ (Hd (u.1 231 20 = 0 → S.1 231 20 = 0 ∧ ogU T (kr K V T) (ogF T (kr K V T) N) pz = some (u.1 231 24) ∧ pz < u.1 231 24 ∧ 0 ≤ u.1 231 24 ∧ u.1 231 24 ≤ T - 1) ∧ Hd (S.1 231 20 = 0 → u.1 231 20 ≠ 0 → ogU T (kr K V T) (ogF T (kr K V T) N) pz = none)))) args s 0 0 (sF G)) (F0 m 5 ls []) := by
    intro fuel
    induction fuel with
    | zero => intro S5  H locs ls hmeas hI5 hFm5 hL5_ hGm5 gL5_ hcu5 hH5 hN5 hW hL hl; exact absurd hmeas (Nat.not_lt_zero _)
    | succ fuel ih_5 =>
      intro S5  H locs ls hmeas hI5 hFm5 hL5_ hGm5 gL5_ hcu5 hH5 hN5 hW hL hl
      refine lv_aload_n hx hb dX12_sumRead_5 rfl (lv_at hl 0 rfl) ?_
      have q_7 : (-2147483648) ≤ S5.1 231 20 ∧ S5.1 231 20 ≤ 2147483647 := hI5.fi 20
      refine g_X12_270 Cx hW (k := 231) (by decide) rfl (v := S5.1 231 20) rfl dX12_sumRead_6 ?_
      refine r_if_ne (tgt := 48) hx hb ⟨(by omega), (by omega)⟩ dX12_sumRead_9 (by decide) (fun c_8 => ?_) (fun c_8 => ?_)
      · have q_9 : (-2147483648) ≤ S5.1 231 24 ∧ S5.1 231 24 ≤ 2147483647 := hI5.fi 24
        exact sVret Cx hr hlk hW hL ⟨hI5, hFm5, hGm5, ⟨(fun h => by have e8 := (show S5.1 231 20 = S5.1 231 20 from rfl); have e7 := (show S5.1 231 24 = S5.1 231 24 from rfl); have aS5 := hH5 (by have e9 := (show S5.1 231 20 = S5.1 231 20 from rfl); omega); have au_3 := xu_3 (by omega); first | (exfalso; omega) | (exact ⟨(by omega), (by rw [e7]; (try rw [hc]); simp only [ogU, au_3.2.1, aS5.2.1, reduceIte, Option.bind_some, Option.bind_none, or_true, true_or, or_self, or_false, false_or, Int.reduceEq, Option.some.injEq, reduceCtorEq]), by omega, by omega, by omega⟩)), (fun h h9 => by have e8 := (show S5.1 231 20 = S5.1 231 20 from rfl); first | (exfalso; omega) | (by_cases qu_3 : u_3.1 231 20 = 0; (have au_3 := xu_3 qu_3; first | (exfalso; omega) | (by_cases qS5 : S5.1 231 20 = 0; (have aS5 := hH5 qS5; first | (exfalso; omega) | (exfalso; omega)); (have bS5 := hN5 (by omega) qS5; simp only [ogU, au_3.2.1, bS5, reduceIte, Option.bind_some, Option.bind_none, or_true, true_or, or_self, or_false, false_or, Int.reduceEq, Option.some.injEq, reduceCtorEq]))); (have bu_3 := yu_3 (by omega) qu_3; simp only [ogU, bu_3, reduceIte, Option.bind_some, Option.bind_none, or_true, true_or, or_self, or_false, false_or, Int.reduceEq, Option.some.injEq, reduceCtorEq])))⟩⟩ dX12_sumRead_48
      · have b_10 := hcu5 (by have e9 := (show S5.1 231 20 = S5.1 231 20 from rfl); omega)
        refine lv_aload_n hx hb dX12_sumRead_12 rfl (lv_at hl 0 rfl) ?_
        refine lv_bipush (v := iv 43) hx hb dX12_sumRead_13 (by decide) ?_
        have q_11 : (-2147483648) ≤ S5.1 231 24 ∧ S5.1 231 24 ≤ 2147483647 := hI5.fi 24
        refine sBi (sV (As := [.int (iv 43)]) (rest := []) (k := 231) Cx (s_X12_isSign l G S5 (sv := 43) (K := K) (V := V) (pz := S5.1 231 24) hI5 (by omega) ((funext fun j => ((hL5_ 244 rfl).2.1 j).trans ((fu_3 244 rfl).2.1 j) : S5.2.1 244 = S.2.1 244).trans hK) ((funext fun j => ((hL5_ 247 rfl).2.1 j).trans ((fu_3 247 rfl).2.1 j) : S5.2.1 247 = S.2.1 247).trans hV) (by omega) (by omega)) (c_X12_318 Cx rfl rfl (rmk_ok (by omega) (by decide))) hW (by decide) rfl rfl rfl hl.1 rfl (Nat.le_of_ble_eq_true rfl) dX12_sumRead_15 ⟨Nat.le_of_ble_eq_true rfl, Nat.le_of_ble_eq_true rfl⟩) hL (fun r_14 u_12 H locs k_13 hW hL => ?_)
        obtain ⟨eu_12, xu_12⟩ := k_13
        rw [eu_12] at hW
        refine r_if_ne (tgt := 30) hx hb ⟨(by omega), (by omega)⟩ dX12_sumRead_18 (by decide) (fun c_15 => ?_) (fun c_15 => ?_)
        · refine lv_aload_n hx hb dX12_sumRead_30 rfl (lv_at hl 0 rfl) ?_
          refine lv_dup hx hb dX12_sumRead_31 rfl ?_
          refine g_X12_315 Cx hW (k := 231) (by decide) rfl (v := S5.1 231 24) rfl dX12_sumRead_32 ?_
          have n_16 := hE.nx (pz := S5.1 231 24) (by omega) (by have z := (xu_12.2.1 (by omega)); unfold gS at z; omega)
          refine lv_iconst (v := iv 1) hx hb dX12_sumRead_35 (by decide) ?_
          refine r_iadd hx hb dX12_sumRead_36 ?_
          refine p_X12_315 Cx hW hL (k := 231) (by decide) rfl dX12_sumRead_37 (fun H locs hW hL => ?_)
          have F_17 : Fr S (uF S5 231 24 ((S5.1 231 24) + 1)) (pl [231]) := hFm5.F rfl
          have F_18 : Fr u_3 (uF S5 231 24 ((S5.1 231 24) + 1)) (pl [231]) := hL5_.F rfl
          have g_19 : FF S (uF S5 231 24 ((S5.1 231 24) + 1)) (fl [20, 21, 24]) := FF.F hGm5 rfl
          have g_20 : FF u_3 (uF S5 231 24 ((S5.1 231 24) + 1)) (fl [20, 21, 24]) := FF.F gL5_ rfl
          have i_21 : dX G (uF S5 231 24 ((S5.1 231 24) + 1)) := hI5.F (i := 24) (show (-2147483648) ≤ (S5.1 231 24) + 1 ∧ (S5.1 231 24) + 1 ≤ 2147483647 from ⟨by omega, by omega⟩)
          refine lv_aload_n hx hb dX12_sumRead_40 rfl (lv_at hl 0 rfl) ?_
          refine lv_iload_n hx hb dX12_sumRead_41 rfl (lv_at hl 1 rfl) ?_
          have lk_22 : (uF S5 231 24 ((S5.1 231 24) + 1)).1 231 24 = (S5.1 231 24) + 1 := uF_on
          have lk_23 : (uF S5 231 24 ((S5.1 231 24) + 1)).1 231 20 = S5.1 231 20 := uF_ne (fun h => absurd h.2 (by decide))
          refine sBv (sV (As := [.int (iv dp)]) (rest := []) (k := 231) Cx (hF (uF S5 231 24 ((S5.1 231 24) + 1)) ((S5.1 231 24) + 1) dp i_21 ((funext fun j => (uF_a).trans (((hL5_ 244 rfl).2.1 j).trans ((fu_3 244 rfl).2.1 j)) : (uF S5 231 24 ((S5.1 231 24) + 1)).2.1 244 = S.2.1 244).trans hK) ((funext fun j => (uF_a).trans (((hL5_ 247 rfl).2.1 j).trans ((fu_3 247 rfl).2.1 j)) : (uF S5 231 24 ((S5.1 231 24) + 1)).2.1 247 = S.2.1 247).trans hV) (by omega) (fun h => by have e8 := (show (uF S5 231 24 ((S5.1 231 24) + 1)).1 231 20 = S5.1 231 20 from uF_ne (fun h => absurd h.2 (by decide))); have a9 := hcu5 (by have e9 := (show (uF S5 231 24 ((S5.1 231 24) + 1)).1 231 20 = S5.1 231 20 from uF_ne (fun h => absurd h.2 (by decide))); omega); omega) (by omega)) (c_X12_349 Cx rfl rfl (rmk_ok (by omega) (by decide))) hW (by decide) rfl rfl rfl hl.1 rfl (Nat.le_of_ble_eq_true rfl) dX12_sumRead_42 ⟨Nat.le_of_ble_eq_true rfl, Nat.le_of_ble_eq_true rfl⟩) hL (fun u_24 H locs k_25 hW hL => ?_)
          obtain ⟨iu_24, fu_24, gu_24, xu_24⟩ := k_25
          obtain ⟨xu_24, yu_24⟩ := xu_24
          have F_26 := F_17.trans fu_24
          have F_27 := F_18.trans fu_24
          have g_28 : FF S u_24 (fl [20, 21, 24]) := FF.trans g_19 (FF.to gu_24 (fl_sub (by decide)))
          have g_29 : FF u_3 u_24 (fl [20, 21, 24]) := FF.trans g_20 (FF.to gu_24 (fl_sub (by decide)))
          refine lv_goto (tgt := 5) hx hb dX12_sumRead_45 (by decide) ?_
          have q_30 : (-2147483648) ≤ u_24.1 231 20 ∧ u_24.1 231 20 ≤ 2147483647 := iu_24.fi 20
          have q_31 : (-2147483648) ≤ u_24.1 231 24 ∧ u_24.1 231 24 ≤ 2147483647 := iu_24.fi 24
          exact ih_5 u_24  _ _ _ (Nat.lt_of_lt_of_le (mf_lt (S := S5) (by omega) (by omega) (fun h => by have a9 := xu_24 h; omega)) (Nat.le_of_lt_succ hmeas)) iu_24 F_26 F_27 g_28 g_29 (fun h => by have a9 := xu_24 h; omega) (fun h => by have a9 := xu_24 h; have a8 := hH5 (by omega); exact ⟨a8.1, a8.2.1.trans (ogW2x kr_out (ogP_inc (ogF_inc N)) (.inl ((osg_43 K V T _).1 (by omega) (by omega) (xu_12.2.1 (by omega)))) a9.2.1), by omega⟩) (fun h h9 => by have a8 := hH5 (by omega); have b9 := yu_24 (by omega) h9; exact a8.2.1.trans (ogW_fa (.inl ((osg_43 K V T _).1 (by omega) (by omega) (xu_12.2.1 (by omega)))) b9)) hW hL (lv_sub hl [0, 1] rfl)
        · refine lv_aload_n hx hb dX12_sumRead_21 rfl (lv_at hl 0 rfl) ?_
          refine lv_bipush (v := iv 45) hx hb dX12_sumRead_22 (by decide) ?_
          refine sBi (sV (As := [.int (iv 45)]) (rest := []) (k := 231) Cx (s_X12_isSign l G S5 (sv := 45) (K := K) (V := V) (pz := S5.1 231 24) hI5 (by omega) ((funext fun j => ((hL5_ 244 rfl).2.1 j).trans ((fu_3 244 rfl).2.1 j) : S5.2.1 244 = S.2.1 244).trans hK) ((funext fun j => ((hL5_ 247 rfl).2.1 j).trans ((fu_3 247 rfl).2.1 j) : S5.2.1 247 = S.2.1 247).trans hV) (by omega) (by omega)) (c_X12_318 Cx rfl rfl (rmk_ok (by omega) (by decide))) hW (by decide) rfl rfl rfl hl.1 rfl (Nat.le_of_ble_eq_true rfl) dX12_sumRead_24 ⟨Nat.le_of_ble_eq_true rfl, Nat.le_of_ble_eq_true rfl⟩) hL (fun r_34 u_32 H locs k_33 hW hL => ?_)
          obtain ⟨eu_32, xu_32⟩ := k_33
          rw [eu_32] at hW
          refine r_if_eq (tgt := 48) hx hb ⟨(by omega), (by omega)⟩ dX12_sumRead_27 (by decide) (fun c_35 => ?_) (fun c_35 => ?_)
          · exact sVret Cx hr hlk hW hL ⟨hI5, hFm5, hGm5, ⟨(fun h => by have e8 := (show S5.1 231 20 = S5.1 231 20 from rfl); have e7 := (show S5.1 231 24 = S5.1 231 24 from rfl); have aS5 := hH5 (by have e9 := (show S5.1 231 20 = S5.1 231 20 from rfl); omega); have au_3 := xu_3 (by omega); first | (exfalso; omega) | (have tu_12 : ¬ kr K V T (S5.1 231 24) = 21 := fun z => xu_12.2.2 (by omega) ((osg_43 K V T _).2 z); have tu_32 : ¬ kr K V T (S5.1 231 24) = 22 := fun z => xu_32.2.2 (by omega) ((osg_45 K V T _).2 z); exact ⟨(by omega), (by rw [e7]; (try rw [hc]); simp only [ogU, tu_12, tu_32, au_3.2.1, (aS5.2.1.trans (ogW_no (st := (fun p => (kr K V T) p = 21 ∨ (kr K V T) p = 22)) (fun z => z.elim tu_12 tu_32))), reduceIte, Option.bind_some, Option.bind_none, or_true, true_or, or_self, or_false, false_or, Int.reduceEq, Option.some.injEq, reduceCtorEq]), by omega, by omega, by omega⟩)), (fun h h9 => by have e8 := (show S5.1 231 20 = S5.1 231 20 from rfl); first | (exfalso; omega) | (have tu_12 : ¬ kr K V T (S5.1 231 24) = 21 := fun z => xu_12.2.2 (by omega) ((osg_43 K V T _).2 z); have tu_32 : ¬ kr K V T (S5.1 231 24) = 22 := fun z => xu_32.2.2 (by omega) ((osg_45 K V T _).2 z); by_cases qu_3 : u_3.1 231 20 = 0; (have au_3 := xu_3 qu_3; first | (exfalso; omega) | (by_cases qS5 : S5.1 231 20 = 0; (have aS5 := hH5 qS5; first | (exfalso; omega) | (exfalso; omega)); (have bS5 := hN5 (by omega) qS5; simp only [ogU, tu_12, tu_32, au_3.2.1, bS5, reduceIte, Option.bind_some, Option.bind_none, or_true, true_or, or_self, or_false, false_or, Int.reduceEq, Option.some.injEq, reduceCtorEq]))); (have bu_3 := yu_3 (by omega) qu_3; simp only [ogU, tu_12, tu_32, bu_3, reduceIte, Option.bind_some, Option.bind_none, or_true, true_or, or_self, or_false, false_or, Int.reduceEq, Option.some.injEq, reduceCtorEq])))⟩⟩ dX12_sumRead_48
          · refine lv_aload_n hx hb dX12_sumRead_30 rfl (lv_at hl 0 rfl) ?_
            refine lv_dup hx hb dX12_sumRead_31 rfl ?_
            refine g_X12_315 Cx hW (k := 231) (by decide) rfl (v := S5.1 231 24) rfl dX12_sumRead_32 ?_
            have n_36 := hE.nx (pz := S5.1 231 24) (by omega) (by have z := (xu_32.2.1 (by omega)); unfold gS at z; omega)
            refine lv_iconst (v := iv 1) hx hb dX12_sumRead_35 (by decide) ?_
            refine r_iadd hx hb dX12_sumRead_36 ?_
            refine p_X12_315 Cx hW hL (k := 231) (by decide) rfl dX12_sumRead_37 (fun H locs hW hL => ?_)
            have F_37 : Fr S (uF S5 231 24 ((S5.1 231 24) + 1)) (pl [231]) := hFm5.F rfl
            have F_38 : Fr u_3 (uF S5 231 24 ((S5.1 231 24) + 1)) (pl [231]) := hL5_.F rfl
            have g_39 : FF S (uF S5 231 24 ((S5.1 231 24) + 1)) (fl [20, 21, 24]) := FF.F hGm5 rfl
            have g_40 : FF u_3 (uF S5 231 24 ((S5.1 231 24) + 1)) (fl [20, 21, 24]) := FF.F gL5_ rfl
            have i_41 : dX G (uF S5 231 24 ((S5.1 231 24) + 1)) := hI5.F (i := 24) (show (-2147483648) ≤ (S5.1 231 24) + 1 ∧ (S5.1 231 24) + 1 ≤ 2147483647 from ⟨by omega, by omega⟩)
            refine lv_aload_n hx hb dX12_sumRead_40 rfl (lv_at hl 0 rfl) ?_
            refine lv_iload_n hx hb dX12_sumRead_41 rfl (lv_at hl 1 rfl) ?_
            have lk_42 : (uF S5 231 24 ((S5.1 231 24) + 1)).1 231 24 = (S5.1 231 24) + 1 := uF_on
            have lk_43 : (uF S5 231 24 ((S5.1 231 24) + 1)).1 231 20 = S5.1 231 20 := uF_ne (fun h => absurd h.2 (by decide))
            refine sBv (sV (As := [.int (iv dp)]) (rest := []) (k := 231) Cx (hF (uF S5 231 24 ((S5.1 231 24) + 1)) ((S5.1 231 24) + 1) dp i_41 ((funext fun j => (uF_a).trans (((hL5_ 244 rfl).2.1 j).trans ((fu_3 244 rfl).2.1 j)) : (uF S5 231 24 ((S5.1 231 24) + 1)).2.1 244 = S.2.1 244).trans hK) ((funext fun j => (uF_a).trans (((hL5_ 247 rfl).2.1 j).trans ((fu_3 247 rfl).2.1 j)) : (uF S5 231 24 ((S5.1 231 24) + 1)).2.1 247 = S.2.1 247).trans hV) (by omega) (fun h => by have e8 := (show (uF S5 231 24 ((S5.1 231 24) + 1)).1 231 20 = S5.1 231 20 from uF_ne (fun h => absurd h.2 (by decide))); have a9 := hcu5 (by have e9 := (show (uF S5 231 24 ((S5.1 231 24) + 1)).1 231 20 = S5.1 231 20 from uF_ne (fun h => absurd h.2 (by decide))); omega); omega) (by omega)) (c_X12_349 Cx rfl rfl (rmk_ok (by omega) (by decide))) hW (by decide) rfl rfl rfl hl.1 rfl (Nat.le_of_ble_eq_true rfl) dX12_sumRead_42 ⟨Nat.le_of_ble_eq_true rfl, Nat.le_of_ble_eq_true rfl⟩) hL (fun u_44 H locs k_45 hW hL => ?_)
            obtain ⟨iu_44, fu_44, gu_44, xu_44⟩ := k_45
            obtain ⟨xu_44, yu_44⟩ := xu_44
            have F_46 := F_37.trans fu_44
            have F_47 := F_38.trans fu_44
            have g_48 : FF S u_44 (fl [20, 21, 24]) := FF.trans g_39 (FF.to gu_44 (fl_sub (by decide)))
            have g_49 : FF u_3 u_44 (fl [20, 21, 24]) := FF.trans g_40 (FF.to gu_44 (fl_sub (by decide)))
            refine lv_goto (tgt := 5) hx hb dX12_sumRead_45 (by decide) ?_
            have q_50 : (-2147483648) ≤ u_44.1 231 20 ∧ u_44.1 231 20 ≤ 2147483647 := iu_44.fi 20
            have q_51 : (-2147483648) ≤ u_44.1 231 24 ∧ u_44.1 231 24 ≤ 2147483647 := iu_44.fi 24
            exact ih_5 u_44  _ _ _ (Nat.lt_of_lt_of_le (mf_lt (S := S5) (by omega) (by omega) (fun h => by have a9 := xu_44 h; omega)) (Nat.le_of_lt_succ hmeas)) iu_44 F_46 F_47 g_48 g_49 (fun h => by have a9 := xu_44 h; omega) (fun h => by have a9 := xu_44 h; have a8 := hH5 (by omega); exact ⟨a8.1, a8.2.1.trans (ogW2x kr_out (ogP_inc (ogF_inc N)) (.inr ((osg_45 K V T _).1 (by omega) (by omega) (xu_32.2.1 (by omega)))) a9.2.1), by omega⟩) (fun h h9 => by have a8 := hH5 (by omega); have b9 := yu_44 (by omega) h9; exact a8.2.1.trans (ogW_fa (.inr ((osg_45 K V T _).1 (by omega) (by omega) (xu_32.2.1 (by omega)))) b9)) hW hL (lv_sub hl [0, 1] rfl)
  have q_52 : (-2147483648) ≤ u_3.1 231 20 ∧ u_3.1 231 20 ≤ 2147483647 := iu_3.fi 20
  have q_53 : (-2147483648) ≤ u_3.1 231 24 ∧ u_3.1 231 24 ≤ 2147483647 := iu_3.fi 24
  exact loop_5 (_ + 1) u_3  _ _ _ (Nat.lt_succ_self _) iu_3 F_5 Fr.rf g_6 FF.rf (fun h => by have a9 := xu_3 h; omega) (fun h => ⟨h, rfl, Int.le_refl _⟩) (fun h h9 => absurd h h9) hW hL (lv_sub hl [0, 1] rfl)

theorem cd_all (l : Launch) (G : sG) (K V : Int → Int) (T : Int) (hE : gE K T) : ∀ N : Nat, CFr l G (3 * N + 8) K V T N ∧ CPr l G (3 * N + 9) K V T N ∧ CSu l G (3 * N + 10) K V T N := by
  have fin : ∀ N : Nat, CFr l G (3 * N + 8) K V T N → CFr l G (3 * N + 8) K V T N ∧ CPr l G (3 * N + 9) K V T N ∧ CSu l G (3 * N + 10) K V T N := fun N hF =>
    have hP : CPr l G (3 * N + 9) K V T N := fun S pz dp hI hK hV hc hcu hN => c_X12_productRead l G S hI hN (d1 := 3 * N + 8) (by omega) (by omega) hF hK hV hE hc hcu
    ⟨hF, hP, fun S pz dp hI hK hV hc hcu hN => c_X12_sumRead l G S hI hN (d1 := 3 * N + 9) (by omega) (by omega) hP hK hV hE hc hcu⟩
  intro N
  induction N with
  | zero => exact fin 0 (fun S pz dp hI hK hV hc hcu hN => c_X12_factorRead l G S hI hN (d1 := 0) (d2 := 0) (by omega) (by omega) (by omega) (fun n h => absurd h (by omega)) (fun n h => absurd h (by omega)) hK hV hE hc hcu)
  | succ N ih => exact fin (N + 1) (fun S pz dp hI hK hV hc hcu hN => c_X12_factorRead l G S hI hN (d1 := 3 * N + 8) (d2 := 3 * N + 10) (by omega) (by omega) (by omega) (fun n h => by cases h; exact ih.1) (fun n h => by cases h; exact ih.2.2) hK hV hE hc hcu)

set_option maxRecDepth 100000 in
set_option maxHeartbeats 4000000 in
theorem c_X12_read (l : Launch) (G : sG) (S : sS) {K V : Int → Int} {T pz : Int}  (hI : dX G S) (hK : S.2.1 244 = K) (hV : S.2.1 247 = V) (hE : gE K T) (h20 : S.1 231 20 = 0) : Met l yX12_read (.code yX12_read cX12_read 1 none :: tb) (rmk 101 0 0) (sPc G 294 S [.ref (G.2.2.1 + 231)]) (sQv G 294 (fun u => dX G u ∧ Fr S u (pl [231]) ∧ FF S u (fl [20, 21, 24]) ∧ (Hd (u.1 231 20 = 0 → ogG T (kr K V T) = some (u.1 231 24)) ∧ Hd (u.1 231 20 ≠ 0 → ogG T (kr K V T) = none)))) 0 0 (sF G) := by
  refine sEnter (by decide) (Nat.le_of_ble_eq_true rfl) ?_
  intro p e s m args below meth c Cx hr hlk hnm hW ls hl
  have Cx : sC G p m c cX12_read 1 s args RX12 := Cx
  obtain ⟨hx, hb, hml, hown, hts⟩ := id Cx.1
  have hL : sL G [] := sL_nil
  have hl : lv_has ls 1 [(0, .ref (G.2.2.1 + 231))] := hl
  have hW0 := hW
  have hE1 := hE.1
  have join_85 : ∀ (S85 : sS)  (H : Heap) (locs : List Loc) (ls : Array Slot), (dX G S85) → (Fr S S85 (pl [231])) → (Fr S S85 (pl [231])) → (FF S S85 (fl [20, 21, 24])) → (FF S S85 (fl [20, 21, 24])) → (Hd (S85.1 231 20 = 0 → 0 ≤ S85.1 231 24 ∧ S85.1 231 24 ≤ T - 1)) → (Hd (S85.1 231 20 = 0 → S.1 231 20 = 0 ∧ ogG T (kr K V T) = ogG1p T (kr K V T) (S85.1 231 24) ∧ True)) → (Hd (S.1 231 20 = 0 → S85.1 231 20 ≠ 0 → ogG T (kr K V T) = none)) → sW G 294 S85 H → sL G locs → lv_has ls 1 [(0, .ref (G.2.2.1 + 231))] → W p l e (rmk 101 0 0) s m args below meth c H locs 0 0 (MQ below (sQv G 294 (fun u => dX G u ∧ Fr S u (pl [231]) ∧ FF S u (fl [20, 21, 24]) ∧ (Hd (u.1 231 20 = 0 → ogG T (kr K V T) = some (u.1 231 24)) ∧ Hd (u.1 231 20 ≠ 0 → ogG T (kr K V T) = none)))) args s 0 0 (sF G)) (F0 m 85 ls []) := by
    intro S85  H locs ls hI85 hFm85 hL85_ hGm85 gL85_ hcu85 hH85 hN85 hW hL hl
    refine lv_aload_n hx hb dX12_read_85 rfl (lv_at hl 0 rfl) ?_
    refine lv_iconst (v := iv 0) hx hb dX12_read_86 (by decide) ?_
    have q_1 : (-2147483648) ≤ S85.1 231 24 ∧ S85.1 231 24 ≤ 2147483647 := hI85.fi 24
    have q_2 : (-2147483648) ≤ S85.1 231 20 ∧ S85.1 231 20 ≤ 2147483647 := hI85.fi 20
    refine sBv (sV (As := [.int (iv 0)]) (rest := []) (k := 231) Cx ((cd_all l G K V T hE 30).2.2 S85 (S85.1 231 24) 0 hI85 ((funext fun j => (hL85_ 244 rfl).2.1 j : S85.2.1 244 = S.2.1 244).trans hK) ((funext fun j => (hL85_ 247 rfl).2.1 j : S85.2.1 247 = S.2.1 247).trans hV) (by omega) (fun h => by have e8 := (show S85.1 231 20 = S85.1 231 20 from rfl); have a9 := hcu85 (by have e9 := (show S85.1 231 20 = S85.1 231 20 from rfl); omega); omega) (by omega)) (c_X12_337 Cx rfl rfl (rmk_ok (by omega) (by decide))) hW (by decide) rfl rfl rfl hl.1 rfl (Nat.le_of_ble_eq_true rfl) dX12_read_87 ⟨Nat.le_of_ble_eq_true rfl, Nat.le_of_ble_eq_true rfl⟩) hL (fun u_3 H locs k_4 hW hL => ?_)
    obtain ⟨iu_3, fu_3, gu_3, xu_3⟩ := k_4
    obtain ⟨xu_3, yu_3⟩ := xu_3
    have F_5 := hFm85.trans fu_3
    have F_6 := hL85_.trans fu_3
    have g_7 : FF S u_3 (fl [20, 21, 24]) := FF.trans hGm85 (FF.to gu_3 (fl_sub (by decide)))
    have g_8 : FF S u_3 (fl [20, 21, 24]) := FF.trans gL85_ (FF.to gu_3 (fl_sub (by decide)))
    refine lv_aload_n hx hb dX12_read_90 rfl (lv_at hl 0 rfl) ?_
    refine lv_bipush (v := iv 59) hx hb dX12_read_91 (by decide) ?_
    have q_9 : (-2147483648) ≤ u_3.1 231 24 ∧ u_3.1 231 24 ≤ 2147483647 := iu_3.fi 24
    have q_10 : (-2147483648) ≤ u_3.1 231 20 ∧ u_3.1 231 20 ≤ 2147483647 := iu_3.fi 20
    refine sBv (sV (As := [.int (iv 59)]) (rest := []) (k := 231) Cx (c_X12_want l G u_3 (sv := 59) (K := K) (V := V) (T := T) (pz := u_3.1 231 24) (cd := 15) iu_3 (by omega) osg_59 ((funext fun j => ((fu_3 244 rfl).2.1 j).trans ((hL85_ 244 rfl).2.1 j) : u_3.2.1 244 = S.2.1 244).trans hK) ((funext fun j => ((fu_3 247 rfl).2.1 j).trans ((hL85_ 247 rfl).2.1 j) : u_3.2.1 247 = S.2.1 247).trans hV) hE (by omega) (fun h => by have e8 := (show u_3.1 231 20 = u_3.1 231 20 from rfl); have a9 := xu_3 (by have e9 := (show u_3.1 231 20 = u_3.1 231 20 from rfl); omega); omega)) (c_X12_331 Cx rfl rfl (rmk_ok (by omega) (by decide))) hW (by decide) rfl rfl rfl hl.1 rfl (Nat.le_of_ble_eq_true rfl) dX12_read_93 ⟨Nat.le_of_ble_eq_true rfl, Nat.le_of_ble_eq_true rfl⟩) hL (fun u_11 H locs k_12 hW hL => ?_)
    obtain ⟨iu_11, fu_11, gu_11, xu_11⟩ := k_12
    have F_13 := F_5.trans fu_11
    have F_14 := F_6.trans fu_11
    have g_15 : FF S u_11 (fl [20, 21, 24]) := FF.trans g_7 (FF.to gu_11 (fl_sub (by decide)))
    have g_16 : FF S u_11 (fl [20, 21, 24]) := FF.trans g_8 (FF.to gu_11 (fl_sub (by decide)))
    obtain ⟨xu_11, yu_11⟩ := xu_11
    have loop_96 : ∀ (fuel : Nat) (S96 : sS)  (H : Heap) (locs : List Loc) (ls : Array Slot), mf S96 T < fuel → (dX G S96) → (Fr S S96 (pl [231])) → (Fr S S96 (pl [231])) → (Fr u_11 S96 (pl [231])) → (FF S S96 (fl [20, 21, 24])) → (FF S S96 (fl [20, 21, 24])) → (FF u_11 S96 (fl [20, 21, 24])) → (Hd (S96.1 231 20 = 0 → 0 ≤ S96.1 231 24 ∧ S96.1 231 24 ≤ T - 1)) → (Hd (S96.1 231 20 = 0 → u_11.1 231 20 = 0 ∧ ogG2 T (kr K V T) (u_11.1 231 24) = ogG2 T (kr K V T) (S96.1 231 24) ∧ True)) → (Hd (u_11.1 231 20 = 0 → S96.1 231 20 ≠ 0 → ogG2 T (kr K V T) (u_11.1 231 24) = none)) → sW G 294 S96 H → sL G locs → lv_has ls 1 [(0, .ref (G.2.2.1 + 231))] → W p l e (rmk 101 0 0) s m args below meth c H locs 0 0 (MQ below (sQv G 294 (fun u => dX G u ∧ Fr S u (pl [231]) ∧ FF S u (fl [20, 21, 24]) ∧ (Hd (u.1 231 20 = 0 → ogG T (kr K V T) = some (u.1 231 24)) ∧ Hd (u.1 231 20 ≠ 0 → ogG T (kr K V T) = none)))) args s 0 0 (sF G)) (F0 m 96 ls []) := by
      intro fuel
      induction fuel with
      | zero => intro S96  H locs ls hmeas hI96 hFm96 hFL8596 hL96_ hGm96 hGL8596 gL96_ hcu96 hH96 hN96 hW hL hl; exact absurd hmeas (Nat.not_lt_zero _)
      | succ fuel ih_96 =>
        intro S96  H locs ls hmeas hI96 hFm96 hFL8596 hL96_ hGm96 hGL8596 gL96_ hcu96 hH96 hN96 hW hL hl
        refine lv_aload_n hx hb dX12_read_96 rfl (lv_at hl 0 rfl) ?_
        have q_17 : (-2147483648) ≤ S96.1 231 20 ∧ S96.1 231 20 ≤ 2147483647 := hI96.fi 20
        refine g_X12_270 Cx hW (k := 231) (by decide) rfl (v := S96.1 231 20) rfl dX12_read_97 ?_
        refine r_if_ne (tgt := 251) hx hb ⟨(by omega), (by omega)⟩ dX12_read_100 (by decide) (fun c_18 => ?_) (fun c_18 => ?_)
        · refine lv_aload_n hx hb dX12_read_251 rfl (lv_at hl 0 rfl) ?_
          refine g_X12_270 Cx hW (k := 231) (by decide) rfl (v := S96.1 231 20) rfl dX12_read_252 ?_
          refine r_if_ne (tgt := 280) hx hb ⟨(by omega), (by omega)⟩ dX12_read_255 (by decide) (fun _ => ?_) (fun c => absurd c (by omega))
          have q_19 : (-2147483648) ≤ S96.1 231 24 ∧ S96.1 231 24 ≤ 2147483647 := hI96.fi 24
          exact sVret Cx hr hlk hW hL ⟨hI96, hFm96, hGm96, ⟨(fun h => absurd h (by have e9 := (show S96.1 231 20 = S96.1 231 20 from rfl); omega)), (fun h9 => by have e8 := (show S96.1 231 20 = S96.1 231 20 from rfl); first | (exfalso; omega) | (by_cases qS85 : S85.1 231 20 = 0; (have aS85 := hH85 qS85; first | (exfalso; omega) | (by_cases qu_3 : u_3.1 231 20 = 0; (have au_3 := xu_3 qu_3; first | (exfalso; omega) | (by_cases qu_11 : u_11.1 231 20 = 0; (have au_11 := xu_11 qu_11; first | (exfalso; omega) | (by_cases qS96 : S96.1 231 20 = 0; (have aS96 := hH96 qS96; first | (exfalso; omega) | (exfalso; omega)); (have bS96 := hN96 (by omega) qS96; simp only [aS85.2.1, ogG1p, au_3.2.1, au_11.2.1, bS96, reduceIte, Option.bind_some, Option.bind_none, or_true, true_or, or_self, or_false, false_or, Int.reduceEq, Option.some.injEq, reduceCtorEq]))); (have bu_11 := yu_11 (by omega) qu_11; simp only [aS85.2.1, ogG1p, au_3.2.1, bu_11, reduceIte, Option.bind_some, Option.bind_none, or_true, true_or, or_self, or_false, false_or, Int.reduceEq, Option.some.injEq, reduceCtorEq]))); (have bu_3 := yu_3 (by omega) qu_3; simp only [aS85.2.1, ogG1p, bu_3, reduceIte, Option.bind_some, Option.bind_none, or_true, true_or, or_self, or_false, false_or, Int.reduceEq, Option.some.injEq, reduceCtorEq]))); (have bS85 := hN85 (by omega) qS85; exact bS85)))⟩⟩ dX12_read_280
        · have b_20 := hcu96 (by have e9 := (show S96.1 231 20 = S96.1 231 20 from rfl); omega)
          refine lv_aload_n hx hb dX12_read_103 rfl (lv_at hl 0 rfl) ?_
          refine lv_bipush (v := iv 6) hx hb dX12_read_104 (by decide) ?_
          have q_21 : (-2147483648) ≤ S96.1 231 24 ∧ S96.1 231 24 ≤ 2147483647 := hI96.fi 24
          refine sBi (sV (As := [.int (iv 6)]) (rest := []) (k := 231) Cx (s_X12_isWord l G S96 (sv := 6) (K := K) (V := V) (pz := S96.1 231 24) hI96 (by omega) ((funext fun j => ((hL96_ 244 rfl).2.1 j).trans (((fu_11 244 rfl).2.1 j).trans (((fu_3 244 rfl).2.1 j).trans ((hL85_ 244 rfl).2.1 j))) : S96.2.1 244 = S.2.1 244).trans hK) ((funext fun j => ((hL96_ 247 rfl).2.1 j).trans (((fu_11 247 rfl).2.1 j).trans (((fu_3 247 rfl).2.1 j).trans ((hL85_ 247 rfl).2.1 j))) : S96.2.1 247 = S.2.1 247).trans hV) (by omega) (by omega)) (c_X12_325 Cx rfl rfl (rmk_ok (by omega) (by decide))) hW (by decide) rfl rfl rfl hl.1 rfl (Nat.le_of_ble_eq_true rfl) dX12_read_106 ⟨Nat.le_of_ble_eq_true rfl, Nat.le_of_ble_eq_true rfl⟩) hL (fun r_24 u_22 H locs k_23 hW hL => ?_)
          obtain ⟨eu_22, xu_22⟩ := k_23
          rw [eu_22] at hW
          refine r_if_eq (tgt := 251) hx hb ⟨(by omega), (by omega)⟩ dX12_read_109 (by decide) (fun c_25 => ?_) (fun c_25 => ?_)
          · refine lv_aload_n hx hb dX12_read_251 rfl (lv_at hl 0 rfl) ?_
            refine g_X12_270 Cx hW (k := 231) (by decide) rfl (v := S96.1 231 20) rfl dX12_read_252 ?_
            refine r_if_ne (tgt := 280) hx hb ⟨(by omega), (by omega)⟩ dX12_read_255 (by decide) (fun c => absurd (by omega) c) (fun _ => ?_)
            have b_26 := hcu96 (by have e9 := (show S96.1 231 20 = S96.1 231 20 from rfl); omega)
            refine lv_aload_n hx hb dX12_read_258 rfl (lv_at hl 0 rfl) ?_
            refine g_X12_47 Cx hW (k := 231) (by decide) rfl (v := .ref (G.2.2.1 + 244)) (rd_15 hI96) dX12_read_259 ?_
            refine lv_aload_n hx hb dX12_read_262 rfl (lv_at hl 0 rfl) ?_
            refine g_X12_315 Cx hW (k := 231) (by decide) rfl (v := S96.1 231 24) rfl dX12_read_263 ?_
            refine rIald Cx hW (k := 244) (by decide) rfl (by decide) (by omega) (by omega) dX12_read_266 ?_
            have q_27 : (-2147483648) ≤ S.2.1 244 (S96.1 231 24) ∧ S.2.1 244 (S96.1 231 24) ≤ 2147483647 := hI.ai 244 (S96.1 231 24)
            refine r_i (b := S.2.1 244 (S96.1 231 24)) (((hL96_ 244 rfl).2.1 (S96.1 231 24)).trans (((fu_11 244 rfl).2.1 (S96.1 231 24)).trans (((fu_3 244 rfl).2.1 (S96.1 231 24)).trans ((hL85_ 244 rfl).2.1 (S96.1 231 24))))) ?_
            have hr9 : K (S96.1 231 24) = S.2.1 244 (S96.1 231 24) := by rw [← hK]
            refine lv_iconst (v := iv 5) hx hb dX12_read_267 (by decide) ?_
            refine r_icmp_eq (tgt := 280) hx hb ⟨(by omega), (by omega)⟩ ⟨(by omega), (by omega)⟩ dX12_read_268 (by decide) (fun c_28 => ?_) (fun c_28 => ?_)
            · exact sVret Cx hr hlk hW hL ⟨hI96, hFm96, hGm96, ⟨(fun h => by have e8 := (show S96.1 231 20 = S96.1 231 20 from rfl); have e7 := (show S96.1 231 24 = S96.1 231 24 from rfl); have aS96 := hH96 (by have e9 := (show S96.1 231 20 = S96.1 231 20 from rfl); omega); have au_11 := xu_11 (by omega); have au_3 := xu_3 (by omega); have aS85 := hH85 (by omega); have tu_22 : ¬ kr K V T (S96.1 231 24) = 10 := fun z => xu_22.2.2 (by omega) (((wd_m (w := 6) (by decide)) K V T _).2 z); rw [e7]; simp only [aS85.2.1, ogG1p, au_3.2.1, au_11.2.1, aS96.2.1, reduceIte, Option.bind_some, Option.bind_none, or_true, true_or, or_self, or_false, false_or, Int.reduceEq, Option.some.injEq, reduceCtorEq]; unfold ogG2; rw [ogW_no (st := (fun p => (kr K V T) p = 10)) tu_22, Option.bind_some]; exact if_pos ((kr_5 (by omega) (by omega)).mpr (by omega))), (fun h9 => by have e8 := (show S96.1 231 20 = S96.1 231 20 from rfl); first | (exfalso; omega) | (have tu_22 : ¬ kr K V T (S96.1 231 24) = 10 := fun z => xu_22.2.2 (by omega) (((wd_m (w := 6) (by decide)) K V T _).2 z); by_cases qS85 : S85.1 231 20 = 0; (have aS85 := hH85 qS85; first | (exfalso; omega) | (by_cases qu_3 : u_3.1 231 20 = 0; (have au_3 := xu_3 qu_3; first | (exfalso; omega) | (by_cases qu_11 : u_11.1 231 20 = 0; (have au_11 := xu_11 qu_11; first | (exfalso; omega) | (by_cases qS96 : S96.1 231 20 = 0; (have aS96 := hH96 qS96; first | (exfalso; omega) | (exfalso; omega)); (have bS96 := hN96 (by omega) qS96; simp only [aS85.2.1, ogG1p, au_3.2.1, au_11.2.1, bS96, reduceIte, Option.bind_some, Option.bind_none, or_true, true_or, or_self, or_false, false_or, Int.reduceEq, Option.some.injEq, reduceCtorEq]))); (have bu_11 := yu_11 (by omega) qu_11; simp only [aS85.2.1, ogG1p, au_3.2.1, bu_11, reduceIte, Option.bind_some, Option.bind_none, or_true, true_or, or_self, or_false, false_or, Int.reduceEq, Option.some.injEq, reduceCtorEq]))); (have bu_3 := yu_3 (by omega) qu_3; simp only [aS85.2.1, ogG1p, bu_3, reduceIte, Option.bind_some, Option.bind_none, or_true, true_or, or_self, or_false, false_or, Int.reduceEq, Option.some.injEq, reduceCtorEq]))); (have bS85 := hN85 (by omega) qS85; exact bS85)))⟩⟩ dX12_read_280
            · refine lv_aload_n hx hb dX12_read_271 rfl (lv_at hl 0 rfl) ?_
              refine lv_iconst (v := iv 1) hx hb dX12_read_272 (by decide) ?_
              refine lv_aload_n hx hb dX12_read_273 rfl (lv_at hl 0 rfl) ?_
              refine g_X12_315 Cx hW (k := 231) (by decide) rfl (v := S96.1 231 24) rfl dX12_read_274 ?_
              refine sBv (sV (As := [.int (iv 1), .int (iv (S96.1 231 24))]) (rest := []) (k := 231) Cx (s_X12_wrong l G S96 (cd := 1) (tk := S96.1 231 24) hI96 (by omega) (by omega)) (c_X12_321 Cx rfl rfl (rmk_ok (by omega) (by decide))) hW (by decide) rfl rfl rfl hl.1 rfl (Nat.le_of_ble_eq_true rfl) dX12_read_277 ⟨Nat.le_of_ble_eq_true rfl, Nat.le_of_ble_eq_true rfl⟩) hL (fun u_29 H locs k_30 hW hL => ?_)
              obtain ⟨iu_29, fu_29, gu_29, xu_29⟩ := k_30
              have F_31 := hFm96.trans fu_29
              have F_32 := hFL8596.trans fu_29
              have F_33 := hL96_.trans fu_29
              have g_34 : FF S u_29 (fl [20, 21, 24]) := FF.trans hGm96 (FF.to gu_29 (fl_sub (by decide)))
              have g_35 : FF S u_29 (fl [20, 21, 24]) := FF.trans hGL8596 (FF.to gu_29 (fl_sub (by decide)))
              have g_36 : FF u_11 u_29 (fl [20, 21, 24]) := FF.trans gL96_ (FF.to gu_29 (fl_sub (by decide)))
              have q_37 : (-2147483648) ≤ u_29.1 231 20 ∧ u_29.1 231 20 ≤ 2147483647 := iu_29.fi 20
              have lk_38 : u_29.1 231 24 = S96.1 231 24 := gu_29 24 rfl
              exact sVret Cx hr hlk hW hL ⟨iu_29, F_31, g_34, ⟨(fun h => absurd h (by have e9 := (show u_29.1 231 20 = u_29.1 231 20 from rfl); have a9 := xu_29; omega)), (fun h9 => by have e8 := (show u_29.1 231 20 = u_29.1 231 20 from rfl); first | (exfalso; omega) | (have tu_22 : ¬ kr K V T (S96.1 231 24) = 10 := fun z => xu_22.2.2 (by omega) (((wd_m (w := 6) (by decide)) K V T _).2 z); by_cases qS85 : S85.1 231 20 = 0; (have aS85 := hH85 qS85; first | (exfalso; omega) | (by_cases qu_3 : u_3.1 231 20 = 0; (have au_3 := xu_3 qu_3; first | (exfalso; omega) | (by_cases qu_11 : u_11.1 231 20 = 0; (have au_11 := xu_11 qu_11; first | (exfalso; omega) | (by_cases qS96 : S96.1 231 20 = 0; (have aS96 := hH96 qS96; first | (exfalso; omega) | (simp only [aS85.2.1, ogG1p, au_3.2.1, au_11.2.1, aS96.2.1, reduceIte, Option.bind_some, Option.bind_none, or_true, true_or, or_self, or_false, false_or, Int.reduceEq, Option.some.injEq, reduceCtorEq]; unfold ogG2; rw [ogW_no (st := (fun p => (kr K V T) p = 10)) tu_22, Option.bind_some]; exact if_neg (fun z => absurd ((kr_5 (by omega) (by omega)).mp z) (by omega)))); (have bS96 := hN96 (by omega) qS96; simp only [aS85.2.1, ogG1p, au_3.2.1, au_11.2.1, bS96, reduceIte, Option.bind_some, Option.bind_none, or_true, true_or, or_self, or_false, false_or, Int.reduceEq, Option.some.injEq, reduceCtorEq]))); (have bu_11 := yu_11 (by omega) qu_11; simp only [aS85.2.1, ogG1p, au_3.2.1, bu_11, reduceIte, Option.bind_some, Option.bind_none, or_true, true_or, or_self, or_false, false_or, Int.reduceEq, Option.some.injEq, reduceCtorEq]))); (have bu_3 := yu_3 (by omega) qu_3; simp only [aS85.2.1, ogG1p, bu_3, reduceIte, Option.bind_some, Option.bind_none, or_true, true_or, or_self, or_false, false_or, Int.reduceEq, Option.some.injEq, reduceCtorEq]))); (have bS85 := hN85 (by omega) qS85; exact bS85)))⟩⟩ dX12_read_280
          · refine lv_aload_n hx hb dX12_read_112 rfl (lv_at hl 0 rfl) ?_
            refine lv_dup hx hb dX12_read_113 rfl ?_
            refine g_X12_315 Cx hW (k := 231) (by decide) rfl (v := S96.1 231 24) rfl dX12_read_114 ?_
            have n_39 := hE.nx (pz := S96.1 231 24) (by omega) (by have z := (xu_22.2.1 (by omega)); unfold gW at z; omega)
            refine lv_iconst (v := iv 1) hx hb dX12_read_117 (by decide) ?_
            refine r_iadd hx hb dX12_read_118 ?_
            refine p_X12_315 Cx hW hL (k := 231) (by decide) rfl dX12_read_119 (fun H locs hW hL => ?_)
            have F_40 : Fr S (uF S96 231 24 ((S96.1 231 24) + 1)) (pl [231]) := hFm96.F rfl
            have F_41 : Fr S (uF S96 231 24 ((S96.1 231 24) + 1)) (pl [231]) := hFL8596.F rfl
            have F_42 : Fr u_11 (uF S96 231 24 ((S96.1 231 24) + 1)) (pl [231]) := hL96_.F rfl
            have g_43 : FF S (uF S96 231 24 ((S96.1 231 24) + 1)) (fl [20, 21, 24]) := FF.F hGm96 rfl
            have g_44 : FF S (uF S96 231 24 ((S96.1 231 24) + 1)) (fl [20, 21, 24]) := FF.F hGL8596 rfl
            have g_45 : FF u_11 (uF S96 231 24 ((S96.1 231 24) + 1)) (fl [20, 21, 24]) := FF.F gL96_ rfl
            have i_46 : dX G (uF S96 231 24 ((S96.1 231 24) + 1)) := hI96.F (i := 24) (show (-2147483648) ≤ (S96.1 231 24) + 1 ∧ (S96.1 231 24) + 1 ≤ 2147483647 from ⟨by omega, by omega⟩)
            have join_175 : ∀ (S175 : sS)  (H : Heap) (locs : List Loc) (ls : Array Slot), (dX G S175) → (Fr S S175 (pl [231])) → (Fr S S175 (pl [231])) → (Fr u_11 S175 (pl [231])) → (Fr ((uF S96 231 24 ((S96.1 231 24) + 1))) S175 (pl [231])) → (FF S S175 (fl [20, 21, 24])) → (FF S S175 (fl [20, 21, 24])) → (FF u_11 S175 (fl [20, 21, 24])) → (FF ((uF S96 231 24 ((S96.1 231 24) + 1))) S175 (fl [20, 21, 24])) → (Hd (S175.1 231 20 = 0 → 0 ≤ S175.1 231 24 ∧ S175.1 231 24 ≤ T - 1)) → (Hd (S175.1 231 20 = 0 → S96.1 231 20 = 0 ∧ ogR T (kr K V T) (S96.1 231 24) = ogR1 T (kr K V T) (S175.1 231 24) ∧ S96.1 231 24 < S175.1 231 24)) → (Hd (S96.1 231 20 = 0 → S175.1 231 20 ≠ 0 → ogR T (kr K V T) (S96.1 231 24) = none)) → sW G 294 S175 H → sL G locs → lv_has ls 1 [(0, .ref (G.2.2.1 + 231))] → W p l e (rmk 101 0 0) s m args below meth c H locs 0 0 (MQ below (sQv G 294 (fun u => dX G u ∧ Fr S u (pl [231]) ∧ FF S u (fl [20, 21, 24]) ∧ (Hd (u.1 231 20 = 0 → ogG T (kr K V T) = some (u.1 231 24)) ∧ Hd (u.1 231 20 ≠ 0 → ogG T (kr K V T) = none)))) args s 0 0 (sF G)) (F0 m 175 ls []) := by
              intro S175  H locs ls hI175 hFm175 hFL85175 hFL96175 hL175_ hGm175 hGL85175 hGL96175 gL175_ hcu175 hH175 hN175 hW hL hl
              refine lv_aload_n hx hb dX12_read_175 rfl (lv_at hl 0 rfl) ?_
              refine lv_bipush (v := iv 58) hx hb dX12_read_176 (by decide) ?_
              have q_47 : (-2147483648) ≤ S175.1 231 24 ∧ S175.1 231 24 ≤ 2147483647 := hI175.fi 24
              have q_48 : (-2147483648) ≤ S175.1 231 20 ∧ S175.1 231 20 ≤ 2147483647 := hI175.fi 20
              refine sBv (sV (As := [.int (iv 58)]) (rest := []) (k := 231) Cx (c_X12_want l G S175 (sv := 58) (K := K) (V := V) (T := T) (pz := S175.1 231 24) (cd := 24) hI175 (by omega) osg_58 ((funext fun j => ((hL175_ 244 rfl).2.1 j).trans ((uF_a).trans (((hL96_ 244 rfl).2.1 j).trans (((fu_11 244 rfl).2.1 j).trans (((fu_3 244 rfl).2.1 j).trans ((hL85_ 244 rfl).2.1 j))))) : S175.2.1 244 = S.2.1 244).trans hK) ((funext fun j => ((hL175_ 247 rfl).2.1 j).trans ((uF_a).trans (((hL96_ 247 rfl).2.1 j).trans (((fu_11 247 rfl).2.1 j).trans (((fu_3 247 rfl).2.1 j).trans ((hL85_ 247 rfl).2.1 j))))) : S175.2.1 247 = S.2.1 247).trans hV) hE (by omega) (fun h => by have e8 := (show S175.1 231 20 = S175.1 231 20 from rfl); have a9 := hcu175 (by have e9 := (show S175.1 231 20 = S175.1 231 20 from rfl); omega); omega)) (c_X12_331 Cx rfl rfl (rmk_ok (by omega) (by decide))) hW (by decide) rfl rfl rfl hl.1 rfl (Nat.le_of_ble_eq_true rfl) dX12_read_178 ⟨Nat.le_of_ble_eq_true rfl, Nat.le_of_ble_eq_true rfl⟩) hL (fun u_49 H locs k_50 hW hL => ?_)
              obtain ⟨iu_49, fu_49, gu_49, xu_49⟩ := k_50
              have F_51 := hFm175.trans fu_49
              have F_52 := hFL85175.trans fu_49
              have F_53 := hFL96175.trans fu_49
              have F_54 := hL175_.trans fu_49
              have g_55 : FF S u_49 (fl [20, 21, 24]) := FF.trans hGm175 (FF.to gu_49 (fl_sub (by decide)))
              have g_56 : FF S u_49 (fl [20, 21, 24]) := FF.trans hGL85175 (FF.to gu_49 (fl_sub (by decide)))
              have g_57 : FF u_11 u_49 (fl [20, 21, 24]) := FF.trans hGL96175 (FF.to gu_49 (fl_sub (by decide)))
              have g_58 : FF ((uF S96 231 24 ((S96.1 231 24) + 1))) u_49 (fl [20, 21, 24]) := FF.trans gL175_ (FF.to gu_49 (fl_sub (by decide)))
              obtain ⟨xu_49, yu_49⟩ := xu_49
              refine lv_aload_n hx hb dX12_read_181 rfl (lv_at hl 0 rfl) ?_
              refine lv_iconst (v := iv 0) hx hb dX12_read_182 (by decide) ?_
              have q_59 : (-2147483648) ≤ u_49.1 231 24 ∧ u_49.1 231 24 ≤ 2147483647 := iu_49.fi 24
              have q_60 : (-2147483648) ≤ u_49.1 231 20 ∧ u_49.1 231 20 ≤ 2147483647 := iu_49.fi 20
              refine sBv (sV (As := [.int (iv 0)]) (rest := []) (k := 231) Cx ((cd_all l G K V T hE 30).2.2 u_49 (u_49.1 231 24) 0 iu_49 ((funext fun j => ((fu_49 244 rfl).2.1 j).trans (((hL175_ 244 rfl).2.1 j).trans ((uF_a).trans (((hL96_ 244 rfl).2.1 j).trans (((fu_11 244 rfl).2.1 j).trans (((fu_3 244 rfl).2.1 j).trans ((hL85_ 244 rfl).2.1 j)))))) : u_49.2.1 244 = S.2.1 244).trans hK) ((funext fun j => ((fu_49 247 rfl).2.1 j).trans (((hL175_ 247 rfl).2.1 j).trans ((uF_a).trans (((hL96_ 247 rfl).2.1 j).trans (((fu_11 247 rfl).2.1 j).trans (((fu_3 247 rfl).2.1 j).trans ((hL85_ 247 rfl).2.1 j)))))) : u_49.2.1 247 = S.2.1 247).trans hV) (by omega) (fun h => by have e8 := (show u_49.1 231 20 = u_49.1 231 20 from rfl); have a9 := xu_49 (by have e9 := (show u_49.1 231 20 = u_49.1 231 20 from rfl); omega); omega) (by omega)) (c_X12_337 Cx rfl rfl (rmk_ok (by omega) (by decide))) hW (by decide) rfl rfl rfl hl.1 rfl (Nat.le_of_ble_eq_true rfl) dX12_read_183 ⟨Nat.le_of_ble_eq_true rfl, Nat.le_of_ble_eq_true rfl⟩) hL (fun u_61 H locs k_62 hW hL => ?_)
              obtain ⟨iu_61, fu_61, gu_61, xu_61⟩ := k_62
              obtain ⟨xu_61, yu_61⟩ := xu_61
              have F_63 := F_51.trans fu_61
              have F_64 := F_52.trans fu_61
              have F_65 := F_53.trans fu_61
              have F_66 := F_54.trans fu_61
              have g_67 : FF S u_61 (fl [20, 21, 24]) := FF.trans g_55 (FF.to gu_61 (fl_sub (by decide)))
              have g_68 : FF S u_61 (fl [20, 21, 24]) := FF.trans g_56 (FF.to gu_61 (fl_sub (by decide)))
              have g_69 : FF u_11 u_61 (fl [20, 21, 24]) := FF.trans g_57 (FF.to gu_61 (fl_sub (by decide)))
              have g_70 : FF ((uF S96 231 24 ((S96.1 231 24) + 1))) u_61 (fl [20, 21, 24]) := FF.trans g_58 (FF.to gu_61 (fl_sub (by decide)))
              have join_237 : ∀ (S237 : sS)  (H : Heap) (locs : List Loc) (ls : Array Slot), (dX G S237) → (Fr S S237 (pl [231])) → (Fr S S237 (pl [231])) → (Fr u_11 S237 (pl [231])) → (Fr ((uF S96 231 24 ((S96.1 231 24) + 1))) S237 (pl [231])) → (Fr u_61 S237 (pl [231])) → (FF S S237 (fl [20, 21, 24])) → (FF S S237 (fl [20, 21, 24])) → (FF u_11 S237 (fl [20, 21, 24])) → (FF ((uF S96 231 24 ((S96.1 231 24) + 1))) S237 (fl [20, 21, 24])) → (FF u_61 S237 (fl [20, 21, 24])) → (Hd (S237.1 231 20 = 0 → 0 ≤ S237.1 231 24 ∧ S237.1 231 24 ≤ T - 1)) → (Hd (S237.1 231 20 = 0 → u_61.1 231 20 = 0 ∧ ogR2 T (kr K V T) (u_61.1 231 24) = (ogU T (kr K V T) (ogF T (kr K V T) 30) (S237.1 231 24)).bind (ogT (kr K V T) 15) ∧ S237.1 231 24 = u_61.1 231 24 + 1)) → (Hd (u_61.1 231 20 = 0 → S237.1 231 20 ≠ 0 → ogR2 T (kr K V T) (u_61.1 231 24) = none)) → sW G 294 S237 H → sL G locs → lv_has ls 1 [(0, .ref (G.2.2.1 + 231))] → W p l e (rmk 101 0 0) s m args below meth c H locs 0 0 (MQ below (sQv G 294 (fun u => dX G u ∧ Fr S u (pl [231]) ∧ FF S u (fl [20, 21, 24]) ∧ (Hd (u.1 231 20 = 0 → ogG T (kr K V T) = some (u.1 231 24)) ∧ Hd (u.1 231 20 ≠ 0 → ogG T (kr K V T) = none)))) args s 0 0 (sF G)) (F0 m 237 ls []) := by
                intro S237  H locs ls hI237 hFm237 hFL85237 hFL96237 hFL175237 hL237_ hGm237 hGL85237 hGL96237 hGL175237 gL237_ hcu237 hH237 hN237 hW hL hl
                refine lv_aload_n hx hb dX12_read_237 rfl (lv_at hl 0 rfl) ?_
                refine lv_iconst (v := iv 0) hx hb dX12_read_238 (by decide) ?_
                have q_71 : (-2147483648) ≤ S237.1 231 24 ∧ S237.1 231 24 ≤ 2147483647 := hI237.fi 24
                have q_72 : (-2147483648) ≤ S237.1 231 20 ∧ S237.1 231 20 ≤ 2147483647 := hI237.fi 20
                refine sBv (sV (As := [.int (iv 0)]) (rest := []) (k := 231) Cx ((cd_all l G K V T hE 30).2.2 S237 (S237.1 231 24) 0 hI237 ((funext fun j => ((hL237_ 244 rfl).2.1 j).trans (((fu_61 244 rfl).2.1 j).trans (((fu_49 244 rfl).2.1 j).trans (((hL175_ 244 rfl).2.1 j).trans ((uF_a).trans (((hL96_ 244 rfl).2.1 j).trans (((fu_11 244 rfl).2.1 j).trans (((fu_3 244 rfl).2.1 j).trans ((hL85_ 244 rfl).2.1 j)))))))) : S237.2.1 244 = S.2.1 244).trans hK) ((funext fun j => ((hL237_ 247 rfl).2.1 j).trans (((fu_61 247 rfl).2.1 j).trans (((fu_49 247 rfl).2.1 j).trans (((hL175_ 247 rfl).2.1 j).trans ((uF_a).trans (((hL96_ 247 rfl).2.1 j).trans (((fu_11 247 rfl).2.1 j).trans (((fu_3 247 rfl).2.1 j).trans ((hL85_ 247 rfl).2.1 j)))))))) : S237.2.1 247 = S.2.1 247).trans hV) (by omega) (fun h => by have e8 := (show S237.1 231 20 = S237.1 231 20 from rfl); have a9 := hcu237 (by have e9 := (show S237.1 231 20 = S237.1 231 20 from rfl); omega); omega) (by omega)) (c_X12_337 Cx rfl rfl (rmk_ok (by omega) (by decide))) hW (by decide) rfl rfl rfl hl.1 rfl (Nat.le_of_ble_eq_true rfl) dX12_read_239 ⟨Nat.le_of_ble_eq_true rfl, Nat.le_of_ble_eq_true rfl⟩) hL (fun u_73 H locs k_74 hW hL => ?_)
                obtain ⟨iu_73, fu_73, gu_73, xu_73⟩ := k_74
                obtain ⟨xu_73, yu_73⟩ := xu_73
                have F_75 := hFm237.trans fu_73
                have F_76 := hFL85237.trans fu_73
                have F_77 := hFL96237.trans fu_73
                have F_78 := hFL175237.trans fu_73
                have F_79 := hL237_.trans fu_73
                have g_80 : FF S u_73 (fl [20, 21, 24]) := FF.trans hGm237 (FF.to gu_73 (fl_sub (by decide)))
                have g_81 : FF S u_73 (fl [20, 21, 24]) := FF.trans hGL85237 (FF.to gu_73 (fl_sub (by decide)))
                have g_82 : FF u_11 u_73 (fl [20, 21, 24]) := FF.trans hGL96237 (FF.to gu_73 (fl_sub (by decide)))
                have g_83 : FF ((uF S96 231 24 ((S96.1 231 24) + 1))) u_73 (fl [20, 21, 24]) := FF.trans hGL175237 (FF.to gu_73 (fl_sub (by decide)))
                have g_84 : FF u_61 u_73 (fl [20, 21, 24]) := FF.trans gL237_ (FF.to gu_73 (fl_sub (by decide)))
                refine lv_aload_n hx hb dX12_read_242 rfl (lv_at hl 0 rfl) ?_
                refine lv_bipush (v := iv 59) hx hb dX12_read_243 (by decide) ?_
                have q_85 : (-2147483648) ≤ u_73.1 231 24 ∧ u_73.1 231 24 ≤ 2147483647 := iu_73.fi 24
                have q_86 : (-2147483648) ≤ u_73.1 231 20 ∧ u_73.1 231 20 ≤ 2147483647 := iu_73.fi 20
                refine sBv (sV (As := [.int (iv 59)]) (rest := []) (k := 231) Cx (c_X12_want l G u_73 (sv := 59) (K := K) (V := V) (T := T) (pz := u_73.1 231 24) (cd := 15) iu_73 (by omega) osg_59 ((funext fun j => ((fu_73 244 rfl).2.1 j).trans (((hL237_ 244 rfl).2.1 j).trans (((fu_61 244 rfl).2.1 j).trans (((fu_49 244 rfl).2.1 j).trans (((hL175_ 244 rfl).2.1 j).trans ((uF_a).trans (((hL96_ 244 rfl).2.1 j).trans (((fu_11 244 rfl).2.1 j).trans (((fu_3 244 rfl).2.1 j).trans ((hL85_ 244 rfl).2.1 j))))))))) : u_73.2.1 244 = S.2.1 244).trans hK) ((funext fun j => ((fu_73 247 rfl).2.1 j).trans (((hL237_ 247 rfl).2.1 j).trans (((fu_61 247 rfl).2.1 j).trans (((fu_49 247 rfl).2.1 j).trans (((hL175_ 247 rfl).2.1 j).trans ((uF_a).trans (((hL96_ 247 rfl).2.1 j).trans (((fu_11 247 rfl).2.1 j).trans (((fu_3 247 rfl).2.1 j).trans ((hL85_ 247 rfl).2.1 j))))))))) : u_73.2.1 247 = S.2.1 247).trans hV) hE (by omega) (fun h => by have e8 := (show u_73.1 231 20 = u_73.1 231 20 from rfl); have a9 := xu_73 (by have e9 := (show u_73.1 231 20 = u_73.1 231 20 from rfl); omega); omega)) (c_X12_331 Cx rfl rfl (rmk_ok (by omega) (by decide))) hW (by decide) rfl rfl rfl hl.1 rfl (Nat.le_of_ble_eq_true rfl) dX12_read_245 ⟨Nat.le_of_ble_eq_true rfl, Nat.le_of_ble_eq_true rfl⟩) hL (fun u_87 H locs k_88 hW hL => ?_)
                obtain ⟨iu_87, fu_87, gu_87, xu_87⟩ := k_88
                have F_89 := F_75.trans fu_87
                have F_90 := F_76.trans fu_87
                have F_91 := F_77.trans fu_87
                have F_92 := F_78.trans fu_87
                have F_93 := F_79.trans fu_87
                have g_94 : FF S u_87 (fl [20, 21, 24]) := FF.trans g_80 (FF.to gu_87 (fl_sub (by decide)))
                have g_95 : FF S u_87 (fl [20, 21, 24]) := FF.trans g_81 (FF.to gu_87 (fl_sub (by decide)))
                have g_96 : FF u_11 u_87 (fl [20, 21, 24]) := FF.trans g_82 (FF.to gu_87 (fl_sub (by decide)))
                have g_97 : FF ((uF S96 231 24 ((S96.1 231 24) + 1))) u_87 (fl [20, 21, 24]) := FF.trans g_83 (FF.to gu_87 (fl_sub (by decide)))
                have g_98 : FF u_61 u_87 (fl [20, 21, 24]) := FF.trans g_84 (FF.to gu_87 (fl_sub (by decide)))
                obtain ⟨xu_87, yu_87⟩ := xu_87
                refine lv_goto (tgt := 96) hx hb dX12_read_248 (by decide) ?_
                have q_99 : (-2147483648) ≤ u_87.1 231 20 ∧ u_87.1 231 20 ≤ 2147483647 := iu_87.fi 20
                have q_100 : (-2147483648) ≤ u_87.1 231 24 ∧ u_87.1 231 24 ≤ 2147483647 := iu_87.fi 24
                exact ih_96 u_87  _ _ _ (Nat.lt_of_lt_of_le (mf_lt (S := S96) (by omega) (by omega) (fun h => by have au_87 := xu_87 (by have e9 := (show u_87.1 231 20 = u_87.1 231 20 from rfl); omega); have au_73 := xu_73 (by omega); have aS237 := hH237 (by omega); have au_61 := xu_61 (by omega); have au_49 := xu_49 (by omega); have aS175 := hH175 (by omega); omega)) (Nat.le_of_lt_succ hmeas)) iu_87 F_89 F_90 F_91 g_94 g_95 g_96 (fun h => by have e8 := (show u_87.1 231 20 = u_87.1 231 20 from rfl); have e7 := (show u_87.1 231 24 = u_87.1 231 24 from rfl); have a9 := xu_87 (by have e9 := (show u_87.1 231 20 = u_87.1 231 20 from rfl); omega); omega) (fun h => by have e8 := (show u_87.1 231 20 = u_87.1 231 20 from rfl); have e7 := (show u_87.1 231 24 = u_87.1 231 24 from rfl); have au_87 := xu_87 (by have e9 := (show u_87.1 231 20 = u_87.1 231 20 from rfl); omega); have au_73 := xu_73 (by omega); have aS237 := hH237 (by omega); have au_61 := xu_61 (by omega); have au_49 := xu_49 (by omega); have aS175 := hH175 (by omega); have a8 := hH96 (by omega); exact ⟨a8.1, (by rw [a8.2.1]; unfold ogG2; rw [ogW10 kr_out (((wd_m (w := 6) (by decide)) K V T _).1 (by omega) (by omega) (xu_22.2.1 (by omega))) (show ogR T (kr K V T) (S96.1 231 24) = some (u_87.1 231 24) by simp only [ogR1, aS175.2.1, au_49.2.1, au_61.2.1, aS237.2.1, au_73.2.1, au_87.2.1, reduceIte, Option.bind_some, Option.bind_none, or_true, true_or, or_self, or_false, false_or, Int.reduceEq, Option.some.injEq, reduceCtorEq])]), trivial⟩) (fun h h8 => by have a8 := hH96 (by omega); rw [a8.2.1]; unfold ogG2; rw [ogW_fa (st := (fun p => (kr K V T) p = 10)) (((wd_m (w := 6) (by decide)) K V T _).1 (by omega) (by omega) (xu_22.2.1 (by omega))) ((show Hd (S96.1 231 20 = 0 → _ → ogR T (kr K V T) (S96.1 231 24) = none) from (fun h h9 => by have e8 := (show u_87.1 231 20 = u_87.1 231 20 from rfl); first | (exfalso; omega) | (have tu_22 : kr K V T (S96.1 231 24) = 10 := ((wd_m (w := 6) (by decide)) K V T _).1 (by omega) (by omega) (xu_22.2.1 (by omega)); by_cases qS175 : S175.1 231 20 = 0; (have aS175 := hH175 qS175; first | (exfalso; omega) | (by_cases qu_49 : u_49.1 231 20 = 0; (have au_49 := xu_49 qu_49; first | (exfalso; omega) | (by_cases qu_61 : u_61.1 231 20 = 0; (have au_61 := xu_61 qu_61; first | (exfalso; omega) | (by_cases qS237 : S237.1 231 20 = 0; (have aS237 := hH237 qS237; first | (exfalso; omega) | (by_cases qu_73 : u_73.1 231 20 = 0; (have au_73 := xu_73 qu_73; first | (exfalso; omega) | (by_cases qu_87 : u_87.1 231 20 = 0; (have au_87 := xu_87 qu_87; first | (exfalso; omega) | (exfalso; omega)); (have bu_87 := yu_87 (by omega) qu_87; simp only [ogR1, tu_22, aS175.2.1, au_49.2.1, au_61.2.1, aS237.2.1, au_73.2.1, bu_87, reduceIte, Option.bind_some, Option.bind_none, or_true, true_or, or_self, or_false, false_or, Int.reduceEq, Option.some.injEq, reduceCtorEq]))); (have bu_73 := yu_73 (by omega) qu_73; simp only [ogR1, tu_22, aS175.2.1, au_49.2.1, au_61.2.1, aS237.2.1, bu_73, reduceIte, Option.bind_some, Option.bind_none, or_true, true_or, or_self, or_false, false_or, Int.reduceEq, Option.some.injEq, reduceCtorEq]))); (have bS237 := hN237 (by omega) qS237; simp only [ogR1, tu_22, aS175.2.1, au_49.2.1, au_61.2.1, bS237, reduceIte, Option.bind_some, Option.bind_none, or_true, true_or, or_self, or_false, false_or, Int.reduceEq, Option.some.injEq, reduceCtorEq]))); (have bu_61 := yu_61 (by omega) qu_61; simp only [ogR1, tu_22, aS175.2.1, au_49.2.1, bu_61, reduceIte, Option.bind_some, Option.bind_none, or_true, true_or, or_self, or_false, false_or, Int.reduceEq, Option.some.injEq, reduceCtorEq]))); (have bu_49 := yu_49 (by omega) qu_49; simp only [ogR1, tu_22, aS175.2.1, bu_49, reduceIte, Option.bind_some, Option.bind_none, or_true, true_or, or_self, or_false, false_or, Int.reduceEq, Option.some.injEq, reduceCtorEq]))); (have bS175 := hN175 (by omega) qS175; simp only [ogR1, tu_22, bS175, reduceIte, Option.bind_some, Option.bind_none, or_true, true_or, or_self, or_false, false_or, Int.reduceEq, Option.some.injEq, reduceCtorEq])))) (by omega) h8)]; rfl) hW hL (lv_sub hl [0] rfl)
              refine lv_aload_n hx hb dX12_read_186 rfl (lv_at hl 0 rfl) ?_
              have q_101 : (-2147483648) ≤ u_61.1 231 20 ∧ u_61.1 231 20 ≤ 2147483647 := iu_61.fi 20
              refine g_X12_270 Cx hW (k := 231) (by decide) rfl (v := u_61.1 231 20) rfl dX12_read_187 ?_
              refine r_if_ne (tgt := 227) hx hb ⟨(by omega), (by omega)⟩ dX12_read_190 (by decide) (fun c_102 => ?_) (fun c_102 => ?_)
              · refine lv_aload_n hx hb dX12_read_227 rfl (lv_at hl 0 rfl) ?_
                refine lv_dup hx hb dX12_read_228 rfl ?_
                have q_103 : (-2147483648) ≤ u_61.1 231 24 ∧ u_61.1 231 24 ≤ 2147483647 := iu_61.fi 24
                refine g_X12_315 Cx hW (k := 231) (by decide) rfl (v := u_61.1 231 24) rfl dX12_read_229 ?_
                refine lv_iconst (v := iv 1) hx hb dX12_read_232 (by decide) ?_
                refine r_iadd hx hb dX12_read_233 ?_
                obtain ⟨z_104, ez_104, hz_104, kz_104⟩ := iv_of (iv ((u_61.1 231 24) + 1))
                rw [ez_104]
                refine p_X12_315 Cx hW hL (k := 231) (by decide) rfl dX12_read_234 (fun H locs hW hL => ?_)
                have F_105 : Fr S (uF u_61 231 24 z_104) (pl [231]) := F_63.F rfl
                have F_106 : Fr S (uF u_61 231 24 z_104) (pl [231]) := F_64.F rfl
                have F_107 : Fr u_11 (uF u_61 231 24 z_104) (pl [231]) := F_65.F rfl
                have F_108 : Fr ((uF S96 231 24 ((S96.1 231 24) + 1))) (uF u_61 231 24 z_104) (pl [231]) := F_66.F rfl
                have F_109 : Fr u_61 (uF u_61 231 24 z_104) (pl [231]) := (Fr.rf : Fr u_61 u_61 (pl [231])).F rfl
                have g_110 : FF S (uF u_61 231 24 z_104) (fl [20, 21, 24]) := FF.F g_67 rfl
                have g_111 : FF S (uF u_61 231 24 z_104) (fl [20, 21, 24]) := FF.F g_68 rfl
                have g_112 : FF u_11 (uF u_61 231 24 z_104) (fl [20, 21, 24]) := FF.F g_69 rfl
                have g_113 : FF ((uF S96 231 24 ((S96.1 231 24) + 1))) (uF u_61 231 24 z_104) (fl [20, 21, 24]) := FF.F g_70 rfl
                have g_114 : FF u_61 (uF u_61 231 24 z_104) (fl [20, 21, 24]) := FF.F (FF.rf : FF u_61 u_61 (fl [20, 21, 24])) rfl
                have i_115 : dX G (uF u_61 231 24 z_104) := iu_61.F (i := 24) (show (-2147483648) ≤ z_104 ∧ z_104 ≤ 2147483647 from ⟨by omega, by omega⟩)
                have lk_116 : (uF u_61 231 24 z_104).1 231 20 = u_61.1 231 20 := uF_ne (fun h => absurd h.2 (by decide))
                have lk_117 : (uF u_61 231 24 z_104).1 231 24 = z_104 := uF_on
                exact join_237 (uF u_61 231 24 z_104)  _ _ _ i_115 F_105 F_106 F_107 F_108 F_109 g_110 g_111 g_112 g_113 g_114 (fun h => by have e8 := (show (uF u_61 231 24 z_104).1 231 20 = u_61.1 231 20 from uF_ne (fun h => absurd h.2 (by decide))); have e7 := (show (uF u_61 231 24 z_104).1 231 24 = z_104 from uF_on); have a9 := xu_61 (by have e9 := (show (uF u_61 231 24 z_104).1 231 20 = u_61.1 231 20 from uF_ne (fun h => absurd h.2 (by decide))); omega); omega) (fun h => by have e8 := (show (uF u_61 231 24 z_104).1 231 20 = u_61.1 231 20 from uF_ne (fun h => absurd h.2 (by decide))); have e7 := (show (uF u_61 231 24 z_104).1 231 24 = z_104 from uF_on); first | (exfalso; omega) | (have tu_22 : kr K V T (S96.1 231 24) = 10 := ((wd_m (w := 6) (by decide)) K V T _).1 (by omega) (by omega) (xu_22.2.1 (by omega)); exact ⟨(by omega), (by rw [e7]; simp only [ogR2, tu_22, reduceIte, Option.bind_some, Option.bind_none, or_true, true_or, or_self, or_false, false_or, Int.reduceEq, Option.some.injEq, reduceCtorEq]), by omega⟩)) (fun h h9 => by have e8 := (show (uF u_61 231 24 z_104).1 231 20 = u_61.1 231 20 from uF_ne (fun h => absurd h.2 (by decide))); first | (exfalso; omega) | (have tu_22 : kr K V T (S96.1 231 24) = 10 := ((wd_m (w := 6) (by decide)) K V T _).1 (by omega) (by omega) (xu_22.2.1 (by omega)); exfalso; omega)) hW hL (lv_sub hl [0] rfl)
              · have b_118 := xu_61 (by have e9 := (show u_61.1 231 20 = u_61.1 231 20 from rfl); omega)
                refine lv_aload_n hx hb dX12_read_193 rfl (lv_at hl 0 rfl) ?_
                refine lv_iconst (v := iv 2) hx hb dX12_read_194 (by decide) ?_
                have q_119 : (-2147483648) ≤ u_61.1 231 24 ∧ u_61.1 231 24 ≤ 2147483647 := iu_61.fi 24
                refine sBi (sV (As := [.int (iv 2)]) (rest := []) (k := 231) Cx (s_X12_isSign l G u_61 (sv := 2) (K := K) (V := V) (pz := u_61.1 231 24) iu_61 (by omega) ((funext fun j => ((fu_61 244 rfl).2.1 j).trans (((fu_49 244 rfl).2.1 j).trans (((hL175_ 244 rfl).2.1 j).trans ((uF_a).trans (((hL96_ 244 rfl).2.1 j).trans (((fu_11 244 rfl).2.1 j).trans (((fu_3 244 rfl).2.1 j).trans ((hL85_ 244 rfl).2.1 j))))))) : u_61.2.1 244 = S.2.1 244).trans hK) ((funext fun j => ((fu_61 247 rfl).2.1 j).trans (((fu_49 247 rfl).2.1 j).trans (((hL175_ 247 rfl).2.1 j).trans ((uF_a).trans (((hL96_ 247 rfl).2.1 j).trans (((fu_11 247 rfl).2.1 j).trans (((fu_3 247 rfl).2.1 j).trans ((hL85_ 247 rfl).2.1 j))))))) : u_61.2.1 247 = S.2.1 247).trans hV) (by omega) (by omega)) (c_X12_318 Cx rfl rfl (rmk_ok (by omega) (by decide))) hW (by decide) rfl rfl rfl hl.1 rfl (Nat.le_of_ble_eq_true rfl) dX12_read_195 ⟨Nat.le_of_ble_eq_true rfl, Nat.le_of_ble_eq_true rfl⟩) hL (fun r_122 u_120 H locs k_121 hW hL => ?_)
                obtain ⟨eu_120, xu_120⟩ := k_121
                rw [eu_120] at hW
                refine r_if_ne (tgt := 227) hx hb ⟨(by omega), (by omega)⟩ dX12_read_198 (by decide) (fun c_123 => ?_) (fun c_123 => ?_)
                · refine lv_aload_n hx hb dX12_read_227 rfl (lv_at hl 0 rfl) ?_
                  refine lv_dup hx hb dX12_read_228 rfl ?_
                  refine g_X12_315 Cx hW (k := 231) (by decide) rfl (v := u_61.1 231 24) rfl dX12_read_229 ?_
                  have n_124 := hE.nx (pz := u_61.1 231 24) (by omega) (by have z := (xu_120.2.1 (by omega)); unfold gS at z; omega)
                  refine lv_iconst (v := iv 1) hx hb dX12_read_232 (by decide) ?_
                  refine r_iadd hx hb dX12_read_233 ?_
                  refine p_X12_315 Cx hW hL (k := 231) (by decide) rfl dX12_read_234 (fun H locs hW hL => ?_)
                  have F_125 : Fr S (uF u_61 231 24 ((u_61.1 231 24) + 1)) (pl [231]) := F_63.F rfl
                  have F_126 : Fr S (uF u_61 231 24 ((u_61.1 231 24) + 1)) (pl [231]) := F_64.F rfl
                  have F_127 : Fr u_11 (uF u_61 231 24 ((u_61.1 231 24) + 1)) (pl [231]) := F_65.F rfl
                  have F_128 : Fr ((uF S96 231 24 ((S96.1 231 24) + 1))) (uF u_61 231 24 ((u_61.1 231 24) + 1)) (pl [231]) := F_66.F rfl
                  have F_129 : Fr u_61 (uF u_61 231 24 ((u_61.1 231 24) + 1)) (pl [231]) := (Fr.rf : Fr u_61 u_61 (pl [231])).F rfl
                  have g_130 : FF S (uF u_61 231 24 ((u_61.1 231 24) + 1)) (fl [20, 21, 24]) := FF.F g_67 rfl
                  have g_131 : FF S (uF u_61 231 24 ((u_61.1 231 24) + 1)) (fl [20, 21, 24]) := FF.F g_68 rfl
                  have g_132 : FF u_11 (uF u_61 231 24 ((u_61.1 231 24) + 1)) (fl [20, 21, 24]) := FF.F g_69 rfl
                  have g_133 : FF ((uF S96 231 24 ((S96.1 231 24) + 1))) (uF u_61 231 24 ((u_61.1 231 24) + 1)) (fl [20, 21, 24]) := FF.F g_70 rfl
                  have g_134 : FF u_61 (uF u_61 231 24 ((u_61.1 231 24) + 1)) (fl [20, 21, 24]) := FF.F (FF.rf : FF u_61 u_61 (fl [20, 21, 24])) rfl
                  have i_135 : dX G (uF u_61 231 24 ((u_61.1 231 24) + 1)) := iu_61.F (i := 24) (show (-2147483648) ≤ (u_61.1 231 24) + 1 ∧ (u_61.1 231 24) + 1 ≤ 2147483647 from ⟨by omega, by omega⟩)
                  have lk_136 : (uF u_61 231 24 ((u_61.1 231 24) + 1)).1 231 20 = u_61.1 231 20 := uF_ne (fun h => absurd h.2 (by decide))
                  have lk_137 : (uF u_61 231 24 ((u_61.1 231 24) + 1)).1 231 24 = (u_61.1 231 24) + 1 := uF_on
                  exact join_237 (uF u_61 231 24 ((u_61.1 231 24) + 1))  _ _ _ i_135 F_125 F_126 F_127 F_128 F_129 g_130 g_131 g_132 g_133 g_134 (fun h => by have e8 := (show (uF u_61 231 24 ((u_61.1 231 24) + 1)).1 231 20 = u_61.1 231 20 from uF_ne (fun h => absurd h.2 (by decide))); have e7 := (show (uF u_61 231 24 ((u_61.1 231 24) + 1)).1 231 24 = (u_61.1 231 24) + 1 from uF_on); have a9 := xu_61 (by have e9 := (show (uF u_61 231 24 ((u_61.1 231 24) + 1)).1 231 20 = u_61.1 231 20 from uF_ne (fun h => absurd h.2 (by decide))); omega); omega) (fun h => by have e8 := (show (uF u_61 231 24 ((u_61.1 231 24) + 1)).1 231 20 = u_61.1 231 20 from uF_ne (fun h => absurd h.2 (by decide))); have e7 := (show (uF u_61 231 24 ((u_61.1 231 24) + 1)).1 231 24 = (u_61.1 231 24) + 1 from uF_on); first | (exfalso; omega) | (have tu_22 : kr K V T (S96.1 231 24) = 10 := ((wd_m (w := 6) (by decide)) K V T _).1 (by omega) (by omega) (xu_22.2.1 (by omega)); have tu_120 : kr K V T (u_61.1 231 24) = 25 := (osg_2 K V T _).1 (by omega) (by omega) (xu_120.2.1 (by omega)); exact ⟨(by omega), (by rw [e7]; simp only [ogR2, tu_22, tu_120, reduceIte, Option.bind_some, Option.bind_none, or_true, true_or, or_self, or_false, false_or, Int.reduceEq, Option.some.injEq, reduceCtorEq]), by omega⟩)) (fun h h9 => by have e8 := (show (uF u_61 231 24 ((u_61.1 231 24) + 1)).1 231 20 = u_61.1 231 20 from uF_ne (fun h => absurd h.2 (by decide))); first | (exfalso; omega) | (have tu_22 : kr K V T (S96.1 231 24) = 10 := ((wd_m (w := 6) (by decide)) K V T _).1 (by omega) (by omega) (xu_22.2.1 (by omega)); have tu_120 : kr K V T (u_61.1 231 24) = 25 := (osg_2 K V T _).1 (by omega) (by omega) (xu_120.2.1 (by omega)); exfalso; omega)) hW hL (lv_sub hl [0] rfl)
                · refine lv_aload_n hx hb dX12_read_201 rfl (lv_at hl 0 rfl) ?_
                  refine lv_iconst (v := iv 3) hx hb dX12_read_202 (by decide) ?_
                  refine sBi (sV (As := [.int (iv 3)]) (rest := []) (k := 231) Cx (s_X12_isSign l G u_61 (sv := 3) (K := K) (V := V) (pz := u_61.1 231 24) iu_61 (by omega) ((funext fun j => ((fu_61 244 rfl).2.1 j).trans (((fu_49 244 rfl).2.1 j).trans (((hL175_ 244 rfl).2.1 j).trans ((uF_a).trans (((hL96_ 244 rfl).2.1 j).trans (((fu_11 244 rfl).2.1 j).trans (((fu_3 244 rfl).2.1 j).trans ((hL85_ 244 rfl).2.1 j))))))) : u_61.2.1 244 = S.2.1 244).trans hK) ((funext fun j => ((fu_61 247 rfl).2.1 j).trans (((fu_49 247 rfl).2.1 j).trans (((hL175_ 247 rfl).2.1 j).trans ((uF_a).trans (((hL96_ 247 rfl).2.1 j).trans (((fu_11 247 rfl).2.1 j).trans (((fu_3 247 rfl).2.1 j).trans ((hL85_ 247 rfl).2.1 j))))))) : u_61.2.1 247 = S.2.1 247).trans hV) (by omega) (by omega)) (c_X12_318 Cx rfl rfl (rmk_ok (by omega) (by decide))) hW (by decide) rfl rfl rfl hl.1 rfl (Nat.le_of_ble_eq_true rfl) dX12_read_203 ⟨Nat.le_of_ble_eq_true rfl, Nat.le_of_ble_eq_true rfl⟩) hL (fun r_140 u_138 H locs k_139 hW hL => ?_)
                  obtain ⟨eu_138, xu_138⟩ := k_139
                  rw [eu_138] at hW
                  refine r_if_ne (tgt := 227) hx hb ⟨(by omega), (by omega)⟩ dX12_read_206 (by decide) (fun c_141 => ?_) (fun c_141 => ?_)
                  · refine lv_aload_n hx hb dX12_read_227 rfl (lv_at hl 0 rfl) ?_
                    refine lv_dup hx hb dX12_read_228 rfl ?_
                    refine g_X12_315 Cx hW (k := 231) (by decide) rfl (v := u_61.1 231 24) rfl dX12_read_229 ?_
                    have n_142 := hE.nx (pz := u_61.1 231 24) (by omega) (by have z := (xu_138.2.1 (by omega)); unfold gS at z; omega)
                    refine lv_iconst (v := iv 1) hx hb dX12_read_232 (by decide) ?_
                    refine r_iadd hx hb dX12_read_233 ?_
                    refine p_X12_315 Cx hW hL (k := 231) (by decide) rfl dX12_read_234 (fun H locs hW hL => ?_)
                    have F_143 : Fr S (uF u_61 231 24 ((u_61.1 231 24) + 1)) (pl [231]) := F_63.F rfl
                    have F_144 : Fr S (uF u_61 231 24 ((u_61.1 231 24) + 1)) (pl [231]) := F_64.F rfl
                    have F_145 : Fr u_11 (uF u_61 231 24 ((u_61.1 231 24) + 1)) (pl [231]) := F_65.F rfl
                    have F_146 : Fr ((uF S96 231 24 ((S96.1 231 24) + 1))) (uF u_61 231 24 ((u_61.1 231 24) + 1)) (pl [231]) := F_66.F rfl
                    have F_147 : Fr u_61 (uF u_61 231 24 ((u_61.1 231 24) + 1)) (pl [231]) := (Fr.rf : Fr u_61 u_61 (pl [231])).F rfl
                    have g_148 : FF S (uF u_61 231 24 ((u_61.1 231 24) + 1)) (fl [20, 21, 24]) := FF.F g_67 rfl
                    have g_149 : FF S (uF u_61 231 24 ((u_61.1 231 24) + 1)) (fl [20, 21, 24]) := FF.F g_68 rfl
                    have g_150 : FF u_11 (uF u_61 231 24 ((u_61.1 231 24) + 1)) (fl [20, 21, 24]) := FF.F g_69 rfl
                    have g_151 : FF ((uF S96 231 24 ((S96.1 231 24) + 1))) (uF u_61 231 24 ((u_61.1 231 24) + 1)) (fl [20, 21, 24]) := FF.F g_70 rfl
                    have g_152 : FF u_61 (uF u_61 231 24 ((u_61.1 231 24) + 1)) (fl [20, 21, 24]) := FF.F (FF.rf : FF u_61 u_61 (fl [20, 21, 24])) rfl
                    have i_153 : dX G (uF u_61 231 24 ((u_61.1 231 24) + 1)) := iu_61.F (i := 24) (show (-2147483648) ≤ (u_61.1 231 24) + 1 ∧ (u_61.1 231 24) + 1 ≤ 2147483647 from ⟨by omega, by omega⟩)
                    have lk_154 : (uF u_61 231 24 ((u_61.1 231 24) + 1)).1 231 20 = u_61.1 231 20 := uF_ne (fun h => absurd h.2 (by decide))
                    have lk_155 : (uF u_61 231 24 ((u_61.1 231 24) + 1)).1 231 24 = (u_61.1 231 24) + 1 := uF_on
                    exact join_237 (uF u_61 231 24 ((u_61.1 231 24) + 1))  _ _ _ i_153 F_143 F_144 F_145 F_146 F_147 g_148 g_149 g_150 g_151 g_152 (fun h => by have e8 := (show (uF u_61 231 24 ((u_61.1 231 24) + 1)).1 231 20 = u_61.1 231 20 from uF_ne (fun h => absurd h.2 (by decide))); have e7 := (show (uF u_61 231 24 ((u_61.1 231 24) + 1)).1 231 24 = (u_61.1 231 24) + 1 from uF_on); have a9 := xu_61 (by have e9 := (show (uF u_61 231 24 ((u_61.1 231 24) + 1)).1 231 20 = u_61.1 231 20 from uF_ne (fun h => absurd h.2 (by decide))); omega); omega) (fun h => by have e8 := (show (uF u_61 231 24 ((u_61.1 231 24) + 1)).1 231 20 = u_61.1 231 20 from uF_ne (fun h => absurd h.2 (by decide))); have e7 := (show (uF u_61 231 24 ((u_61.1 231 24) + 1)).1 231 24 = (u_61.1 231 24) + 1 from uF_on); first | (exfalso; omega) | (have tu_22 : kr K V T (S96.1 231 24) = 10 := ((wd_m (w := 6) (by decide)) K V T _).1 (by omega) (by omega) (xu_22.2.1 (by omega)); have tu_120 : ¬ kr K V T (u_61.1 231 24) = 25 := fun z => xu_120.2.2 (by omega) ((osg_2 K V T _).2 z); have tu_138 : kr K V T (u_61.1 231 24) = 26 := (osg_3 K V T _).1 (by omega) (by omega) (xu_138.2.1 (by omega)); exact ⟨(by omega), (by rw [e7]; simp only [ogR2, tu_22, tu_120, tu_138, reduceIte, Option.bind_some, Option.bind_none, or_true, true_or, or_self, or_false, false_or, Int.reduceEq, Option.some.injEq, reduceCtorEq]), by omega⟩)) (fun h h9 => by have e8 := (show (uF u_61 231 24 ((u_61.1 231 24) + 1)).1 231 20 = u_61.1 231 20 from uF_ne (fun h => absurd h.2 (by decide))); first | (exfalso; omega) | (have tu_22 : kr K V T (S96.1 231 24) = 10 := ((wd_m (w := 6) (by decide)) K V T _).1 (by omega) (by omega) (xu_22.2.1 (by omega)); have tu_120 : ¬ kr K V T (u_61.1 231 24) = 25 := fun z => xu_120.2.2 (by omega) ((osg_2 K V T _).2 z); have tu_138 : kr K V T (u_61.1 231 24) = 26 := (osg_3 K V T _).1 (by omega) (by omega) (xu_138.2.1 (by omega)); exfalso; omega)) hW hL (lv_sub hl [0] rfl)
                  · refine lv_aload_n hx hb dX12_read_209 rfl (lv_at hl 0 rfl) ?_
                    refine lv_bipush (v := iv 61) hx hb dX12_read_210 (by decide) ?_
                    refine sBi (sV (As := [.int (iv 61)]) (rest := []) (k := 231) Cx (s_X12_isSign l G u_61 (sv := 61) (K := K) (V := V) (pz := u_61.1 231 24) iu_61 (by omega) ((funext fun j => ((fu_61 244 rfl).2.1 j).trans (((fu_49 244 rfl).2.1 j).trans (((hL175_ 244 rfl).2.1 j).trans ((uF_a).trans (((hL96_ 244 rfl).2.1 j).trans (((fu_11 244 rfl).2.1 j).trans (((fu_3 244 rfl).2.1 j).trans ((hL85_ 244 rfl).2.1 j))))))) : u_61.2.1 244 = S.2.1 244).trans hK) ((funext fun j => ((fu_61 247 rfl).2.1 j).trans (((fu_49 247 rfl).2.1 j).trans (((hL175_ 247 rfl).2.1 j).trans ((uF_a).trans (((hL96_ 247 rfl).2.1 j).trans (((fu_11 247 rfl).2.1 j).trans (((fu_3 247 rfl).2.1 j).trans ((hL85_ 247 rfl).2.1 j))))))) : u_61.2.1 247 = S.2.1 247).trans hV) (by omega) (by omega)) (c_X12_318 Cx rfl rfl (rmk_ok (by omega) (by decide))) hW (by decide) rfl rfl rfl hl.1 rfl (Nat.le_of_ble_eq_true rfl) dX12_read_212 ⟨Nat.le_of_ble_eq_true rfl, Nat.le_of_ble_eq_true rfl⟩) hL (fun r_158 u_156 H locs k_157 hW hL => ?_)
                    obtain ⟨eu_156, xu_156⟩ := k_157
                    rw [eu_156] at hW
                    refine r_if_ne (tgt := 227) hx hb ⟨(by omega), (by omega)⟩ dX12_read_215 (by decide) (fun c_159 => ?_) (fun c_159 => ?_)
                    · refine lv_aload_n hx hb dX12_read_227 rfl (lv_at hl 0 rfl) ?_
                      refine lv_dup hx hb dX12_read_228 rfl ?_
                      refine g_X12_315 Cx hW (k := 231) (by decide) rfl (v := u_61.1 231 24) rfl dX12_read_229 ?_
                      have n_160 := hE.nx (pz := u_61.1 231 24) (by omega) (by have z := (xu_156.2.1 (by omega)); unfold gS at z; omega)
                      refine lv_iconst (v := iv 1) hx hb dX12_read_232 (by decide) ?_
                      refine r_iadd hx hb dX12_read_233 ?_
                      refine p_X12_315 Cx hW hL (k := 231) (by decide) rfl dX12_read_234 (fun H locs hW hL => ?_)
                      have F_161 : Fr S (uF u_61 231 24 ((u_61.1 231 24) + 1)) (pl [231]) := F_63.F rfl
                      have F_162 : Fr S (uF u_61 231 24 ((u_61.1 231 24) + 1)) (pl [231]) := F_64.F rfl
                      have F_163 : Fr u_11 (uF u_61 231 24 ((u_61.1 231 24) + 1)) (pl [231]) := F_65.F rfl
                      have F_164 : Fr ((uF S96 231 24 ((S96.1 231 24) + 1))) (uF u_61 231 24 ((u_61.1 231 24) + 1)) (pl [231]) := F_66.F rfl
                      have F_165 : Fr u_61 (uF u_61 231 24 ((u_61.1 231 24) + 1)) (pl [231]) := (Fr.rf : Fr u_61 u_61 (pl [231])).F rfl
                      have g_166 : FF S (uF u_61 231 24 ((u_61.1 231 24) + 1)) (fl [20, 21, 24]) := FF.F g_67 rfl
                      have g_167 : FF S (uF u_61 231 24 ((u_61.1 231 24) + 1)) (fl [20, 21, 24]) := FF.F g_68 rfl
                      have g_168 : FF u_11 (uF u_61 231 24 ((u_61.1 231 24) + 1)) (fl [20, 21, 24]) := FF.F g_69 rfl
                      have g_169 : FF ((uF S96 231 24 ((S96.1 231 24) + 1))) (uF u_61 231 24 ((u_61.1 231 24) + 1)) (fl [20, 21, 24]) := FF.F g_70 rfl
                      have g_170 : FF u_61 (uF u_61 231 24 ((u_61.1 231 24) + 1)) (fl [20, 21, 24]) := FF.F (FF.rf : FF u_61 u_61 (fl [20, 21, 24])) rfl
                      have i_171 : dX G (uF u_61 231 24 ((u_61.1 231 24) + 1)) := iu_61.F (i := 24) (show (-2147483648) ≤ (u_61.1 231 24) + 1 ∧ (u_61.1 231 24) + 1 ≤ 2147483647 from ⟨by omega, by omega⟩)
                      have lk_172 : (uF u_61 231 24 ((u_61.1 231 24) + 1)).1 231 20 = u_61.1 231 20 := uF_ne (fun h => absurd h.2 (by decide))
                      have lk_173 : (uF u_61 231 24 ((u_61.1 231 24) + 1)).1 231 24 = (u_61.1 231 24) + 1 := uF_on
                      exact join_237 (uF u_61 231 24 ((u_61.1 231 24) + 1))  _ _ _ i_171 F_161 F_162 F_163 F_164 F_165 g_166 g_167 g_168 g_169 g_170 (fun h => by have e8 := (show (uF u_61 231 24 ((u_61.1 231 24) + 1)).1 231 20 = u_61.1 231 20 from uF_ne (fun h => absurd h.2 (by decide))); have e7 := (show (uF u_61 231 24 ((u_61.1 231 24) + 1)).1 231 24 = (u_61.1 231 24) + 1 from uF_on); have a9 := xu_61 (by have e9 := (show (uF u_61 231 24 ((u_61.1 231 24) + 1)).1 231 20 = u_61.1 231 20 from uF_ne (fun h => absurd h.2 (by decide))); omega); omega) (fun h => by have e8 := (show (uF u_61 231 24 ((u_61.1 231 24) + 1)).1 231 20 = u_61.1 231 20 from uF_ne (fun h => absurd h.2 (by decide))); have e7 := (show (uF u_61 231 24 ((u_61.1 231 24) + 1)).1 231 24 = (u_61.1 231 24) + 1 from uF_on); first | (exfalso; omega) | (have tu_22 : kr K V T (S96.1 231 24) = 10 := ((wd_m (w := 6) (by decide)) K V T _).1 (by omega) (by omega) (xu_22.2.1 (by omega)); have tu_120 : ¬ kr K V T (u_61.1 231 24) = 25 := fun z => xu_120.2.2 (by omega) ((osg_2 K V T _).2 z); have tu_138 : ¬ kr K V T (u_61.1 231 24) = 26 := fun z => xu_138.2.2 (by omega) ((osg_3 K V T _).2 z); have tu_156 : kr K V T (u_61.1 231 24) = 13 := (osg_61 K V T _).1 (by omega) (by omega) (xu_156.2.1 (by omega)); exact ⟨(by omega), (by rw [e7]; simp only [ogR2, tu_22, tu_120, tu_138, tu_156, reduceIte, Option.bind_some, Option.bind_none, or_true, true_or, or_self, or_false, false_or, Int.reduceEq, Option.some.injEq, reduceCtorEq]), by omega⟩)) (fun h h9 => by have e8 := (show (uF u_61 231 24 ((u_61.1 231 24) + 1)).1 231 20 = u_61.1 231 20 from uF_ne (fun h => absurd h.2 (by decide))); first | (exfalso; omega) | (have tu_22 : kr K V T (S96.1 231 24) = 10 := ((wd_m (w := 6) (by decide)) K V T _).1 (by omega) (by omega) (xu_22.2.1 (by omega)); have tu_120 : ¬ kr K V T (u_61.1 231 24) = 25 := fun z => xu_120.2.2 (by omega) ((osg_2 K V T _).2 z); have tu_138 : ¬ kr K V T (u_61.1 231 24) = 26 := fun z => xu_138.2.2 (by omega) ((osg_3 K V T _).2 z); have tu_156 : kr K V T (u_61.1 231 24) = 13 := (osg_61 K V T _).1 (by omega) (by omega) (xu_156.2.1 (by omega)); exfalso; omega)) hW hL (lv_sub hl [0] rfl)
                    · refine lv_aload_n hx hb dX12_read_218 rfl (lv_at hl 0 rfl) ?_
                      refine lv_iconst (v := iv 1) hx hb dX12_read_219 (by decide) ?_
                      refine lv_aload_n hx hb dX12_read_220 rfl (lv_at hl 0 rfl) ?_
                      refine g_X12_315 Cx hW (k := 231) (by decide) rfl (v := u_61.1 231 24) rfl dX12_read_221 ?_
                      refine sBv (sV (As := [.int (iv 1), .int (iv (u_61.1 231 24))]) (rest := []) (k := 231) Cx (s_X12_wrong l G u_61 (cd := 1) (tk := u_61.1 231 24) iu_61 (by omega) (by omega)) (c_X12_321 Cx rfl rfl (rmk_ok (by omega) (by decide))) hW (by decide) rfl rfl rfl hl.1 rfl (Nat.le_of_ble_eq_true rfl) dX12_read_224 ⟨Nat.le_of_ble_eq_true rfl, Nat.le_of_ble_eq_true rfl⟩) hL (fun u_174 H locs k_175 hW hL => ?_)
                      obtain ⟨iu_174, fu_174, gu_174, xu_174⟩ := k_175
                      have F_176 := F_63.trans fu_174
                      have F_177 := F_64.trans fu_174
                      have F_178 := F_65.trans fu_174
                      have F_179 := F_66.trans fu_174
                      have F_180 := (Fr.rf : Fr u_61 u_61 (pl [231])).trans fu_174
                      have g_181 : FF S u_174 (fl [20, 21, 24]) := FF.trans g_67 (FF.to gu_174 (fl_sub (by decide)))
                      have g_182 : FF S u_174 (fl [20, 21, 24]) := FF.trans g_68 (FF.to gu_174 (fl_sub (by decide)))
                      have g_183 : FF u_11 u_174 (fl [20, 21, 24]) := FF.trans g_69 (FF.to gu_174 (fl_sub (by decide)))
                      have g_184 : FF ((uF S96 231 24 ((S96.1 231 24) + 1))) u_174 (fl [20, 21, 24]) := FF.trans g_70 (FF.to gu_174 (fl_sub (by decide)))
                      have g_185 : FF u_61 u_174 (fl [20, 21, 24]) := FF.trans (FF.rf : FF u_61 u_61 (fl [20, 21, 24])) (FF.to gu_174 (fl_sub (by decide)))
                      refine lv_aload_n hx hb dX12_read_227 rfl (lv_at hl 0 rfl) ?_
                      refine lv_dup hx hb dX12_read_228 rfl ?_
                      refine g_X12_315 Cx hW (k := 231) (by decide) rfl (v := u_61.1 231 24) (gu_174 24 rfl) dX12_read_229 ?_
                      refine lv_iconst (v := iv 1) hx hb dX12_read_232 (by decide) ?_
                      refine r_iadd hx hb dX12_read_233 ?_
                      refine p_X12_315 Cx hW hL (k := 231) (by decide) rfl dX12_read_234 (fun H locs hW hL => ?_)
                      have F_186 : Fr S (uF u_174 231 24 ((u_61.1 231 24) + 1)) (pl [231]) := F_176.F rfl
                      have F_187 : Fr S (uF u_174 231 24 ((u_61.1 231 24) + 1)) (pl [231]) := F_177.F rfl
                      have F_188 : Fr u_11 (uF u_174 231 24 ((u_61.1 231 24) + 1)) (pl [231]) := F_178.F rfl
                      have F_189 : Fr ((uF S96 231 24 ((S96.1 231 24) + 1))) (uF u_174 231 24 ((u_61.1 231 24) + 1)) (pl [231]) := F_179.F rfl
                      have F_190 : Fr u_61 (uF u_174 231 24 ((u_61.1 231 24) + 1)) (pl [231]) := F_180.F rfl
                      have g_191 : FF S (uF u_174 231 24 ((u_61.1 231 24) + 1)) (fl [20, 21, 24]) := FF.F g_181 rfl
                      have g_192 : FF S (uF u_174 231 24 ((u_61.1 231 24) + 1)) (fl [20, 21, 24]) := FF.F g_182 rfl
                      have g_193 : FF u_11 (uF u_174 231 24 ((u_61.1 231 24) + 1)) (fl [20, 21, 24]) := FF.F g_183 rfl
                      have g_194 : FF ((uF S96 231 24 ((S96.1 231 24) + 1))) (uF u_174 231 24 ((u_61.1 231 24) + 1)) (fl [20, 21, 24]) := FF.F g_184 rfl
                      have g_195 : FF u_61 (uF u_174 231 24 ((u_61.1 231 24) + 1)) (fl [20, 21, 24]) := FF.F g_185 rfl
                      have i_196 : dX G (uF u_174 231 24 ((u_61.1 231 24) + 1)) := iu_174.F (i := 24) (show (-2147483648) ≤ (u_61.1 231 24) + 1 ∧ (u_61.1 231 24) + 1 ≤ 2147483647 from ⟨by omega, by omega⟩)
                      have q_197 : (-2147483648) ≤ u_174.1 231 20 ∧ u_174.1 231 20 ≤ 2147483647 := iu_174.fi 20
                      have lk_198 : (uF u_174 231 24 ((u_61.1 231 24) + 1)).1 231 20 = u_174.1 231 20 := uF_ne (fun h => absurd h.2 (by decide))
                      have lk_199 : (uF u_174 231 24 ((u_61.1 231 24) + 1)).1 231 24 = (u_61.1 231 24) + 1 := uF_on
                      exact join_237 (uF u_174 231 24 ((u_61.1 231 24) + 1))  _ _ _ i_196 F_186 F_187 F_188 F_189 F_190 g_191 g_192 g_193 g_194 g_195 (fun h => by have e8 := (show (uF u_174 231 24 ((u_61.1 231 24) + 1)).1 231 20 = u_174.1 231 20 from uF_ne (fun h => absurd h.2 (by decide))); have e7 := (show (uF u_174 231 24 ((u_61.1 231 24) + 1)).1 231 24 = (u_61.1 231 24) + 1 from uF_on); have a9 := xu_174; omega) (fun h => absurd h (by have e9 := (show (uF u_174 231 24 ((u_61.1 231 24) + 1)).1 231 20 = u_174.1 231 20 from uF_ne (fun h => absurd h.2 (by decide))); have a9 := xu_174; omega)) (fun h h9 => by have e8 := (show (uF u_174 231 24 ((u_61.1 231 24) + 1)).1 231 20 = u_174.1 231 20 from uF_ne (fun h => absurd h.2 (by decide))); first | (exfalso; omega) | (have tu_22 : kr K V T (S96.1 231 24) = 10 := ((wd_m (w := 6) (by decide)) K V T _).1 (by omega) (by omega) (xu_22.2.1 (by omega)); have tu_120 : ¬ kr K V T (u_61.1 231 24) = 25 := fun z => xu_120.2.2 (by omega) ((osg_2 K V T _).2 z); have tu_138 : ¬ kr K V T (u_61.1 231 24) = 26 := fun z => xu_138.2.2 (by omega) ((osg_3 K V T _).2 z); have tu_156 : ¬ kr K V T (u_61.1 231 24) = 13 := fun z => xu_156.2.2 (by omega) ((osg_61 K V T _).2 z); simp only [ogR2, tu_22, tu_120, tu_138, tu_156, reduceIte, Option.bind_some, Option.bind_none, or_true, true_or, or_self, or_false, false_or, Int.reduceEq, Option.some.injEq, reduceCtorEq])) hW hL (lv_sub hl [0] rfl)
            refine lv_aload_n hx hb dX12_read_122 rfl (lv_at hl 0 rfl) ?_
            refine lv_iconst (v := iv 1) hx hb dX12_read_123 (by decide) ?_
            have lk_200 : (uF S96 231 24 ((S96.1 231 24) + 1)).1 231 24 = (S96.1 231 24) + 1 := uF_on
            have lk_201 : (uF S96 231 24 ((S96.1 231 24) + 1)).1 231 20 = S96.1 231 20 := uF_ne (fun h => absurd h.2 (by decide))
            refine sBv (sV (As := [.int (iv 1)]) (rest := []) (k := 231) Cx (c_X12_wantKind l G (uF S96 231 24 ((S96.1 231 24) + 1)) (k := 1) (K := K) (V := V) (T := T) (pz := (S96.1 231 24) + 1) (cd := 2) i_46 (by omega) kn_1 ((funext fun j => (uF_a).trans (((hL96_ 244 rfl).2.1 j).trans (((fu_11 244 rfl).2.1 j).trans (((fu_3 244 rfl).2.1 j).trans ((hL85_ 244 rfl).2.1 j)))) : (uF S96 231 24 ((S96.1 231 24) + 1)).2.1 244 = S.2.1 244).trans hK) ((funext fun j => (uF_a).trans (((hL96_ 247 rfl).2.1 j).trans (((fu_11 247 rfl).2.1 j).trans (((fu_3 247 rfl).2.1 j).trans ((hL85_ 247 rfl).2.1 j)))) : (uF S96 231 24 ((S96.1 231 24) + 1)).2.1 247 = S.2.1 247).trans hV) hE (by omega) (fun h => by have e8 := (show (uF S96 231 24 ((S96.1 231 24) + 1)).1 231 20 = S96.1 231 20 from uF_ne (fun h => absurd h.2 (by decide))); have a9 := hcu96 (by have e9 := (show (uF S96 231 24 ((S96.1 231 24) + 1)).1 231 20 = S96.1 231 20 from uF_ne (fun h => absurd h.2 (by decide))); omega); omega)) (c_X12_328 Cx rfl rfl (rmk_ok (by omega) (by decide))) hW (by decide) rfl rfl rfl hl.1 rfl (Nat.le_of_ble_eq_true rfl) dX12_read_124 ⟨Nat.le_of_ble_eq_true rfl, Nat.le_of_ble_eq_true rfl⟩) hL (fun u_202 H locs k_203 hW hL => ?_)
            obtain ⟨iu_202, fu_202, gu_202, xu_202⟩ := k_203
            have F_204 := F_40.trans fu_202
            have F_205 := F_41.trans fu_202
            have F_206 := F_42.trans fu_202
            have F_207 := (Fr.rf : Fr (uF S96 231 24 ((S96.1 231 24) + 1)) (uF S96 231 24 ((S96.1 231 24) + 1)) (pl [231])).trans fu_202
            have g_208 : FF S u_202 (fl [20, 21, 24]) := FF.trans g_43 (FF.to gu_202 (fl_sub (by decide)))
            have g_209 : FF S u_202 (fl [20, 21, 24]) := FF.trans g_44 (FF.to gu_202 (fl_sub (by decide)))
            have g_210 : FF u_11 u_202 (fl [20, 21, 24]) := FF.trans g_45 (FF.to gu_202 (fl_sub (by decide)))
            have g_211 : FF ((uF S96 231 24 ((S96.1 231 24) + 1))) u_202 (fl [20, 21, 24]) := FF.trans (FF.rf : FF ((uF S96 231 24 ((S96.1 231 24) + 1))) ((uF S96 231 24 ((S96.1 231 24) + 1))) (fl [20, 21, 24])) (FF.to gu_202 (fl_sub (by decide)))
            obtain ⟨xu_202, yu_202⟩ := xu_202
            refine lv_aload_n hx hb dX12_read_127 rfl (lv_at hl 0 rfl) ?_
            have q_212 : (-2147483648) ≤ u_202.1 231 20 ∧ u_202.1 231 20 ≤ 2147483647 := iu_202.fi 20
            refine g_X12_270 Cx hW (k := 231) (by decide) rfl (v := u_202.1 231 20) rfl dX12_read_128 ?_
            refine r_if_ne (tgt := 175) hx hb ⟨(by omega), (by omega)⟩ dX12_read_131 (by decide) (fun c_213 => ?_) (fun c_213 => ?_)
            · have q_214 : (-2147483648) ≤ u_202.1 231 24 ∧ u_202.1 231 24 ≤ 2147483647 := iu_202.fi 24
              exact join_175 u_202  _ _ _ iu_202 F_204 F_205 F_206 F_207 g_208 g_209 g_210 g_211 (fun h => by have e8 := (show u_202.1 231 20 = u_202.1 231 20 from rfl); have e7 := (show u_202.1 231 24 = u_202.1 231 24 from rfl); have a9 := xu_202 (by have e9 := (show u_202.1 231 20 = u_202.1 231 20 from rfl); omega); omega) (fun h => by have e8 := (show u_202.1 231 20 = u_202.1 231 20 from rfl); have e7 := (show u_202.1 231 24 = u_202.1 231 24 from rfl); have au_202 := xu_202 (by have e9 := (show u_202.1 231 20 = u_202.1 231 20 from rfl); omega); first | (exfalso; omega) | (have tu_22 : kr K V T (S96.1 231 24) = 10 := ((wd_m (w := 6) (by decide)) K V T _).1 (by omega) (by omega) (xu_22.2.1 (by omega)); exact ⟨(by omega), (by rw [e7]; simp only [ogR, ogRi, tu_22, au_202.2.1, reduceIte, Option.bind_some, Option.bind_none, or_true, true_or, or_self, or_false, false_or, Int.reduceEq, Option.some.injEq, reduceCtorEq]), by omega⟩)) (fun h h9 => by have e8 := (show u_202.1 231 20 = u_202.1 231 20 from rfl); first | (exfalso; omega) | (have tu_22 : kr K V T (S96.1 231 24) = 10 := ((wd_m (w := 6) (by decide)) K V T _).1 (by omega) (by omega) (xu_22.2.1 (by omega)); by_cases qu_202 : u_202.1 231 20 = 0; (have au_202 := xu_202 qu_202; first | (exfalso; omega) | (exfalso; omega)); (have bu_202 := yu_202 (by omega) qu_202; simp only [ogR, ogRi, tu_22, bu_202, reduceIte, Option.bind_some, Option.bind_none, or_true, true_or, or_self, or_false, false_or, Int.reduceEq, Option.some.injEq, reduceCtorEq]))) hW hL (lv_sub hl [0] rfl)
            · have b_215 := xu_202 (by have e9 := (show u_202.1 231 20 = u_202.1 231 20 from rfl); omega)
              refine lv_aload_n hx hb dX12_read_134 rfl (lv_at hl 0 rfl) ?_
              refine lv_bipush (v := iv 91) hx hb dX12_read_135 (by decide) ?_
              have q_216 : (-2147483648) ≤ u_202.1 231 24 ∧ u_202.1 231 24 ≤ 2147483647 := iu_202.fi 24
              refine sBi (sV (As := [.int (iv 91)]) (rest := []) (k := 231) Cx (s_X12_isSign l G u_202 (sv := 91) (K := K) (V := V) (pz := u_202.1 231 24) iu_202 (by omega) ((funext fun j => ((fu_202 244 rfl).2.1 j).trans ((uF_a).trans (((hL96_ 244 rfl).2.1 j).trans (((fu_11 244 rfl).2.1 j).trans (((fu_3 244 rfl).2.1 j).trans ((hL85_ 244 rfl).2.1 j))))) : u_202.2.1 244 = S.2.1 244).trans hK) ((funext fun j => ((fu_202 247 rfl).2.1 j).trans ((uF_a).trans (((hL96_ 247 rfl).2.1 j).trans (((fu_11 247 rfl).2.1 j).trans (((fu_3 247 rfl).2.1 j).trans ((hL85_ 247 rfl).2.1 j))))) : u_202.2.1 247 = S.2.1 247).trans hV) (by omega) (by omega)) (c_X12_318 Cx rfl rfl (rmk_ok (by omega) (by decide))) hW (by decide) rfl rfl rfl hl.1 rfl (Nat.le_of_ble_eq_true rfl) dX12_read_137 ⟨Nat.le_of_ble_eq_true rfl, Nat.le_of_ble_eq_true rfl⟩) hL (fun r_219 u_217 H locs k_218 hW hL => ?_)
              obtain ⟨eu_217, xu_217⟩ := k_218
              rw [eu_217] at hW
              refine r_if_eq (tgt := 175) hx hb ⟨(by omega), (by omega)⟩ dX12_read_140 (by decide) (fun c_220 => ?_) (fun c_220 => ?_)
              · exact join_175 u_202  _ _ _ iu_202 F_204 F_205 F_206 F_207 g_208 g_209 g_210 g_211 (fun h => by have e8 := (show u_202.1 231 20 = u_202.1 231 20 from rfl); have e7 := (show u_202.1 231 24 = u_202.1 231 24 from rfl); have a9 := xu_202 (by have e9 := (show u_202.1 231 20 = u_202.1 231 20 from rfl); omega); omega) (fun h => by have e8 := (show u_202.1 231 20 = u_202.1 231 20 from rfl); have e7 := (show u_202.1 231 24 = u_202.1 231 24 from rfl); have au_202 := xu_202 (by have e9 := (show u_202.1 231 20 = u_202.1 231 20 from rfl); omega); first | (exfalso; omega) | (have tu_22 : kr K V T (S96.1 231 24) = 10 := ((wd_m (w := 6) (by decide)) K V T _).1 (by omega) (by omega) (xu_22.2.1 (by omega)); have tu_217 : ¬ kr K V T (u_202.1 231 24) = 17 := fun z => xu_217.2.2 (by omega) ((osg_91 K V T _).2 z); exact ⟨(by omega), (by rw [e7]; simp only [ogR, ogRi, tu_22, tu_217, au_202.2.1, reduceIte, Option.bind_some, Option.bind_none, or_true, true_or, or_self, or_false, false_or, Int.reduceEq, Option.some.injEq, reduceCtorEq]), by omega⟩)) (fun h h9 => by have e8 := (show u_202.1 231 20 = u_202.1 231 20 from rfl); first | (exfalso; omega) | (have tu_22 : kr K V T (S96.1 231 24) = 10 := ((wd_m (w := 6) (by decide)) K V T _).1 (by omega) (by omega) (xu_22.2.1 (by omega)); have tu_217 : ¬ kr K V T (u_202.1 231 24) = 17 := fun z => xu_217.2.2 (by omega) ((osg_91 K V T _).2 z); by_cases qu_202 : u_202.1 231 20 = 0; (have au_202 := xu_202 qu_202; first | (exfalso; omega) | (exfalso; omega)); (have bu_202 := yu_202 (by omega) qu_202; simp only [ogR, ogRi, tu_22, tu_217, bu_202, reduceIte, Option.bind_some, Option.bind_none, or_true, true_or, or_self, or_false, false_or, Int.reduceEq, Option.some.injEq, reduceCtorEq]))) hW hL (lv_sub hl [0] rfl)
              · refine lv_aload_n hx hb dX12_read_143 rfl (lv_at hl 0 rfl) ?_
                refine lv_dup hx hb dX12_read_144 rfl ?_
                refine g_X12_315 Cx hW (k := 231) (by decide) rfl (v := u_202.1 231 24) rfl dX12_read_145 ?_
                have n_221 := hE.nx (pz := u_202.1 231 24) (by omega) (by have z := (xu_217.2.1 (by omega)); unfold gS at z; omega)
                refine lv_iconst (v := iv 1) hx hb dX12_read_148 (by decide) ?_
                refine r_iadd hx hb dX12_read_149 ?_
                refine p_X12_315 Cx hW hL (k := 231) (by decide) rfl dX12_read_150 (fun H locs hW hL => ?_)
                have F_222 : Fr S (uF u_202 231 24 ((u_202.1 231 24) + 1)) (pl [231]) := F_204.F rfl
                have F_223 : Fr S (uF u_202 231 24 ((u_202.1 231 24) + 1)) (pl [231]) := F_205.F rfl
                have F_224 : Fr u_11 (uF u_202 231 24 ((u_202.1 231 24) + 1)) (pl [231]) := F_206.F rfl
                have F_225 : Fr ((uF S96 231 24 ((S96.1 231 24) + 1))) (uF u_202 231 24 ((u_202.1 231 24) + 1)) (pl [231]) := F_207.F rfl
                have g_226 : FF S (uF u_202 231 24 ((u_202.1 231 24) + 1)) (fl [20, 21, 24]) := FF.F g_208 rfl
                have g_227 : FF S (uF u_202 231 24 ((u_202.1 231 24) + 1)) (fl [20, 21, 24]) := FF.F g_209 rfl
                have g_228 : FF u_11 (uF u_202 231 24 ((u_202.1 231 24) + 1)) (fl [20, 21, 24]) := FF.F g_210 rfl
                have g_229 : FF ((uF S96 231 24 ((S96.1 231 24) + 1))) (uF u_202 231 24 ((u_202.1 231 24) + 1)) (fl [20, 21, 24]) := FF.F g_211 rfl
                have i_230 : dX G (uF u_202 231 24 ((u_202.1 231 24) + 1)) := iu_202.F (i := 24) (show (-2147483648) ≤ (u_202.1 231 24) + 1 ∧ (u_202.1 231 24) + 1 ≤ 2147483647 from ⟨by omega, by omega⟩)
                refine lv_aload_n hx hb dX12_read_153 rfl (lv_at hl 0 rfl) ?_
                refine lv_iconst (v := iv 1) hx hb dX12_read_154 (by decide) ?_
                have lk_231 : (uF u_202 231 24 ((u_202.1 231 24) + 1)).1 231 24 = (u_202.1 231 24) + 1 := uF_on
                have lk_232 : (uF u_202 231 24 ((u_202.1 231 24) + 1)).1 231 20 = u_202.1 231 20 := uF_ne (fun h => absurd h.2 (by decide))
                refine sBv (sV (As := [.int (iv 1)]) (rest := []) (k := 231) Cx (c_X12_wantKind l G (uF u_202 231 24 ((u_202.1 231 24) + 1)) (k := 1) (K := K) (V := V) (T := T) (pz := (u_202.1 231 24) + 1) (cd := 2) i_230 (by omega) kn_1 ((funext fun j => (uF_a).trans (((fu_202 244 rfl).2.1 j).trans ((uF_a).trans (((hL96_ 244 rfl).2.1 j).trans (((fu_11 244 rfl).2.1 j).trans (((fu_3 244 rfl).2.1 j).trans ((hL85_ 244 rfl).2.1 j)))))) : (uF u_202 231 24 ((u_202.1 231 24) + 1)).2.1 244 = S.2.1 244).trans hK) ((funext fun j => (uF_a).trans (((fu_202 247 rfl).2.1 j).trans ((uF_a).trans (((hL96_ 247 rfl).2.1 j).trans (((fu_11 247 rfl).2.1 j).trans (((fu_3 247 rfl).2.1 j).trans ((hL85_ 247 rfl).2.1 j)))))) : (uF u_202 231 24 ((u_202.1 231 24) + 1)).2.1 247 = S.2.1 247).trans hV) hE (by omega) (fun h => by have e8 := (show (uF u_202 231 24 ((u_202.1 231 24) + 1)).1 231 20 = u_202.1 231 20 from uF_ne (fun h => absurd h.2 (by decide))); have a9 := xu_202 (by have e9 := (show (uF u_202 231 24 ((u_202.1 231 24) + 1)).1 231 20 = u_202.1 231 20 from uF_ne (fun h => absurd h.2 (by decide))); omega); omega)) (c_X12_328 Cx rfl rfl (rmk_ok (by omega) (by decide))) hW (by decide) rfl rfl rfl hl.1 rfl (Nat.le_of_ble_eq_true rfl) dX12_read_155 ⟨Nat.le_of_ble_eq_true rfl, Nat.le_of_ble_eq_true rfl⟩) hL (fun u_233 H locs k_234 hW hL => ?_)
                obtain ⟨iu_233, fu_233, gu_233, xu_233⟩ := k_234
                have F_235 := F_222.trans fu_233
                have F_236 := F_223.trans fu_233
                have F_237 := F_224.trans fu_233
                have F_238 := F_225.trans fu_233
                have g_239 : FF S u_233 (fl [20, 21, 24]) := FF.trans g_226 (FF.to gu_233 (fl_sub (by decide)))
                have g_240 : FF S u_233 (fl [20, 21, 24]) := FF.trans g_227 (FF.to gu_233 (fl_sub (by decide)))
                have g_241 : FF u_11 u_233 (fl [20, 21, 24]) := FF.trans g_228 (FF.to gu_233 (fl_sub (by decide)))
                have g_242 : FF ((uF S96 231 24 ((S96.1 231 24) + 1))) u_233 (fl [20, 21, 24]) := FF.trans g_229 (FF.to gu_233 (fl_sub (by decide)))
                obtain ⟨xu_233, yu_233⟩ := xu_233
                refine lv_aload_n hx hb dX12_read_158 rfl (lv_at hl 0 rfl) ?_
                refine lv_bipush (v := iv 8) hx hb dX12_read_159 (by decide) ?_
                have q_243 : (-2147483648) ≤ u_233.1 231 24 ∧ u_233.1 231 24 ≤ 2147483647 := iu_233.fi 24
                have q_244 : (-2147483648) ≤ u_233.1 231 20 ∧ u_233.1 231 20 ≤ 2147483647 := iu_233.fi 20
                refine sBv (sV (As := [.int (iv 8)]) (rest := []) (k := 231) Cx (c_X12_wantWord l G u_233 (sv := 8) (K := K) (V := V) (T := T) (pz := u_233.1 231 24) (cd := 12) iu_233 (by omega) (wd_m (w := 8) (by decide)) ((funext fun j => ((fu_233 244 rfl).2.1 j).trans ((uF_a).trans (((fu_202 244 rfl).2.1 j).trans ((uF_a).trans (((hL96_ 244 rfl).2.1 j).trans (((fu_11 244 rfl).2.1 j).trans (((fu_3 244 rfl).2.1 j).trans ((hL85_ 244 rfl).2.1 j))))))) : u_233.2.1 244 = S.2.1 244).trans hK) ((funext fun j => ((fu_233 247 rfl).2.1 j).trans ((uF_a).trans (((fu_202 247 rfl).2.1 j).trans ((uF_a).trans (((hL96_ 247 rfl).2.1 j).trans (((fu_11 247 rfl).2.1 j).trans (((fu_3 247 rfl).2.1 j).trans ((hL85_ 247 rfl).2.1 j))))))) : u_233.2.1 247 = S.2.1 247).trans hV) hE (by omega) (fun h => by have e8 := (show u_233.1 231 20 = u_233.1 231 20 from rfl); have a9 := xu_233 (by have e9 := (show u_233.1 231 20 = u_233.1 231 20 from rfl); omega); omega)) (c_X12_340 Cx rfl rfl (rmk_ok (by omega) (by decide))) hW (by decide) rfl rfl rfl hl.1 rfl (Nat.le_of_ble_eq_true rfl) dX12_read_161 ⟨Nat.le_of_ble_eq_true rfl, Nat.le_of_ble_eq_true rfl⟩) hL (fun u_245 H locs k_246 hW hL => ?_)
                obtain ⟨iu_245, fu_245, gu_245, xu_245⟩ := k_246
                have F_247 := F_235.trans fu_245
                have F_248 := F_236.trans fu_245
                have F_249 := F_237.trans fu_245
                have F_250 := F_238.trans fu_245
                have g_251 : FF S u_245 (fl [20, 21, 24]) := FF.trans g_239 (FF.to gu_245 (fl_sub (by decide)))
                have g_252 : FF S u_245 (fl [20, 21, 24]) := FF.trans g_240 (FF.to gu_245 (fl_sub (by decide)))
                have g_253 : FF u_11 u_245 (fl [20, 21, 24]) := FF.trans g_241 (FF.to gu_245 (fl_sub (by decide)))
                have g_254 : FF ((uF S96 231 24 ((S96.1 231 24) + 1))) u_245 (fl [20, 21, 24]) := FF.trans g_242 (FF.to gu_245 (fl_sub (by decide)))
                obtain ⟨xu_245, yu_245⟩ := xu_245
                refine lv_aload_n hx hb dX12_read_164 rfl (lv_at hl 0 rfl) ?_
                refine lv_iconst (v := iv 1) hx hb dX12_read_165 (by decide) ?_
                have q_255 : (-2147483648) ≤ u_245.1 231 24 ∧ u_245.1 231 24 ≤ 2147483647 := iu_245.fi 24
                have q_256 : (-2147483648) ≤ u_245.1 231 20 ∧ u_245.1 231 20 ≤ 2147483647 := iu_245.fi 20
                refine sBv (sV (As := [.int (iv 1)]) (rest := []) (k := 231) Cx (c_X12_wantKind l G u_245 (k := 1) (K := K) (V := V) (T := T) (pz := u_245.1 231 24) (cd := 2) iu_245 (by omega) kn_1 ((funext fun j => ((fu_245 244 rfl).2.1 j).trans (((fu_233 244 rfl).2.1 j).trans ((uF_a).trans (((fu_202 244 rfl).2.1 j).trans ((uF_a).trans (((hL96_ 244 rfl).2.1 j).trans (((fu_11 244 rfl).2.1 j).trans (((fu_3 244 rfl).2.1 j).trans ((hL85_ 244 rfl).2.1 j)))))))) : u_245.2.1 244 = S.2.1 244).trans hK) ((funext fun j => ((fu_245 247 rfl).2.1 j).trans (((fu_233 247 rfl).2.1 j).trans ((uF_a).trans (((fu_202 247 rfl).2.1 j).trans ((uF_a).trans (((hL96_ 247 rfl).2.1 j).trans (((fu_11 247 rfl).2.1 j).trans (((fu_3 247 rfl).2.1 j).trans ((hL85_ 247 rfl).2.1 j)))))))) : u_245.2.1 247 = S.2.1 247).trans hV) hE (by omega) (fun h => by have e8 := (show u_245.1 231 20 = u_245.1 231 20 from rfl); have a9 := xu_245 (by have e9 := (show u_245.1 231 20 = u_245.1 231 20 from rfl); omega); omega)) (c_X12_328 Cx rfl rfl (rmk_ok (by omega) (by decide))) hW (by decide) rfl rfl rfl hl.1 rfl (Nat.le_of_ble_eq_true rfl) dX12_read_166 ⟨Nat.le_of_ble_eq_true rfl, Nat.le_of_ble_eq_true rfl⟩) hL (fun u_257 H locs k_258 hW hL => ?_)
                obtain ⟨iu_257, fu_257, gu_257, xu_257⟩ := k_258
                have F_259 := F_247.trans fu_257
                have F_260 := F_248.trans fu_257
                have F_261 := F_249.trans fu_257
                have F_262 := F_250.trans fu_257
                have g_263 : FF S u_257 (fl [20, 21, 24]) := FF.trans g_251 (FF.to gu_257 (fl_sub (by decide)))
                have g_264 : FF S u_257 (fl [20, 21, 24]) := FF.trans g_252 (FF.to gu_257 (fl_sub (by decide)))
                have g_265 : FF u_11 u_257 (fl [20, 21, 24]) := FF.trans g_253 (FF.to gu_257 (fl_sub (by decide)))
                have g_266 : FF ((uF S96 231 24 ((S96.1 231 24) + 1))) u_257 (fl [20, 21, 24]) := FF.trans g_254 (FF.to gu_257 (fl_sub (by decide)))
                obtain ⟨xu_257, yu_257⟩ := xu_257
                refine lv_aload_n hx hb dX12_read_169 rfl (lv_at hl 0 rfl) ?_
                refine lv_bipush (v := iv 93) hx hb dX12_read_170 (by decide) ?_
                have q_267 : (-2147483648) ≤ u_257.1 231 24 ∧ u_257.1 231 24 ≤ 2147483647 := iu_257.fi 24
                have q_268 : (-2147483648) ≤ u_257.1 231 20 ∧ u_257.1 231 20 ≤ 2147483647 := iu_257.fi 20
                refine sBv (sV (As := [.int (iv 93)]) (rest := []) (k := 231) Cx (c_X12_want l G u_257 (sv := 93) (K := K) (V := V) (T := T) (pz := u_257.1 231 24) (cd := 18) iu_257 (by omega) osg_93 ((funext fun j => ((fu_257 244 rfl).2.1 j).trans (((fu_245 244 rfl).2.1 j).trans (((fu_233 244 rfl).2.1 j).trans ((uF_a).trans (((fu_202 244 rfl).2.1 j).trans ((uF_a).trans (((hL96_ 244 rfl).2.1 j).trans (((fu_11 244 rfl).2.1 j).trans (((fu_3 244 rfl).2.1 j).trans ((hL85_ 244 rfl).2.1 j))))))))) : u_257.2.1 244 = S.2.1 244).trans hK) ((funext fun j => ((fu_257 247 rfl).2.1 j).trans (((fu_245 247 rfl).2.1 j).trans (((fu_233 247 rfl).2.1 j).trans ((uF_a).trans (((fu_202 247 rfl).2.1 j).trans ((uF_a).trans (((hL96_ 247 rfl).2.1 j).trans (((fu_11 247 rfl).2.1 j).trans (((fu_3 247 rfl).2.1 j).trans ((hL85_ 247 rfl).2.1 j))))))))) : u_257.2.1 247 = S.2.1 247).trans hV) hE (by omega) (fun h => by have e8 := (show u_257.1 231 20 = u_257.1 231 20 from rfl); have a9 := xu_257 (by have e9 := (show u_257.1 231 20 = u_257.1 231 20 from rfl); omega); omega)) (c_X12_331 Cx rfl rfl (rmk_ok (by omega) (by decide))) hW (by decide) rfl rfl rfl hl.1 rfl (Nat.le_of_ble_eq_true rfl) dX12_read_172 ⟨Nat.le_of_ble_eq_true rfl, Nat.le_of_ble_eq_true rfl⟩) hL (fun u_269 H locs k_270 hW hL => ?_)
                obtain ⟨iu_269, fu_269, gu_269, xu_269⟩ := k_270
                have F_271 := F_259.trans fu_269
                have F_272 := F_260.trans fu_269
                have F_273 := F_261.trans fu_269
                have F_274 := F_262.trans fu_269
                have g_275 : FF S u_269 (fl [20, 21, 24]) := FF.trans g_263 (FF.to gu_269 (fl_sub (by decide)))
                have g_276 : FF S u_269 (fl [20, 21, 24]) := FF.trans g_264 (FF.to gu_269 (fl_sub (by decide)))
                have g_277 : FF u_11 u_269 (fl [20, 21, 24]) := FF.trans g_265 (FF.to gu_269 (fl_sub (by decide)))
                have g_278 : FF ((uF S96 231 24 ((S96.1 231 24) + 1))) u_269 (fl [20, 21, 24]) := FF.trans g_266 (FF.to gu_269 (fl_sub (by decide)))
                obtain ⟨xu_269, yu_269⟩ := xu_269
                have q_279 : (-2147483648) ≤ u_269.1 231 20 ∧ u_269.1 231 20 ≤ 2147483647 := iu_269.fi 20
                have q_280 : (-2147483648) ≤ u_269.1 231 24 ∧ u_269.1 231 24 ≤ 2147483647 := iu_269.fi 24
                exact join_175 u_269  _ _ _ iu_269 F_271 F_272 F_273 F_274 g_275 g_276 g_277 g_278 (fun h => by have e8 := (show u_269.1 231 20 = u_269.1 231 20 from rfl); have e7 := (show u_269.1 231 24 = u_269.1 231 24 from rfl); have a9 := xu_269 (by have e9 := (show u_269.1 231 20 = u_269.1 231 20 from rfl); omega); omega) (fun h => by have e8 := (show u_269.1 231 20 = u_269.1 231 20 from rfl); have e7 := (show u_269.1 231 24 = u_269.1 231 24 from rfl); have au_269 := xu_269 (by have e9 := (show u_269.1 231 20 = u_269.1 231 20 from rfl); omega); have au_257 := xu_257 (by omega); have au_245 := xu_245 (by omega); have au_233 := xu_233 (by omega); have au_202 := xu_202 (by omega); first | (exfalso; omega) | (have tu_22 : kr K V T (S96.1 231 24) = 10 := ((wd_m (w := 6) (by decide)) K V T _).1 (by omega) (by omega) (xu_22.2.1 (by omega)); have tu_217 : kr K V T (u_202.1 231 24) = 17 := (osg_91 K V T _).1 (by omega) (by omega) (xu_217.2.1 (by omega)); exact ⟨(by omega), (by rw [e7]; simp only [ogR, ogRi, tu_22, tu_217, au_202.2.1, au_233.2.1, au_245.2.1, au_257.2.1, au_269.2.1, reduceIte, Option.bind_some, Option.bind_none, or_true, true_or, or_self, or_false, false_or, Int.reduceEq, Option.some.injEq, reduceCtorEq]), by omega⟩)) (fun h h9 => by have e8 := (show u_269.1 231 20 = u_269.1 231 20 from rfl); first | (exfalso; omega) | (have tu_22 : kr K V T (S96.1 231 24) = 10 := ((wd_m (w := 6) (by decide)) K V T _).1 (by omega) (by omega) (xu_22.2.1 (by omega)); have tu_217 : kr K V T (u_202.1 231 24) = 17 := (osg_91 K V T _).1 (by omega) (by omega) (xu_217.2.1 (by omega)); by_cases qu_202 : u_202.1 231 20 = 0; (have au_202 := xu_202 qu_202; first | (exfalso; omega) | (by_cases qu_233 : u_233.1 231 20 = 0; (have au_233 := xu_233 qu_233; first | (exfalso; omega) | (by_cases qu_245 : u_245.1 231 20 = 0; (have au_245 := xu_245 qu_245; first | (exfalso; omega) | (by_cases qu_257 : u_257.1 231 20 = 0; (have au_257 := xu_257 qu_257; first | (exfalso; omega) | (by_cases qu_269 : u_269.1 231 20 = 0; (have au_269 := xu_269 qu_269; first | (exfalso; omega) | (exfalso; omega)); (have bu_269 := yu_269 (by omega) qu_269; simp only [ogR, ogRi, tu_22, tu_217, au_202.2.1, au_233.2.1, au_245.2.1, au_257.2.1, bu_269, reduceIte, Option.bind_some, Option.bind_none, or_true, true_or, or_self, or_false, false_or, Int.reduceEq, Option.some.injEq, reduceCtorEq]))); (have bu_257 := yu_257 (by omega) qu_257; simp only [ogR, ogRi, tu_22, tu_217, au_202.2.1, au_233.2.1, au_245.2.1, bu_257, reduceIte, Option.bind_some, Option.bind_none, or_true, true_or, or_self, or_false, false_or, Int.reduceEq, Option.some.injEq, reduceCtorEq]))); (have bu_245 := yu_245 (by omega) qu_245; simp only [ogR, ogRi, tu_22, tu_217, au_202.2.1, au_233.2.1, bu_245, reduceIte, Option.bind_some, Option.bind_none, or_true, true_or, or_self, or_false, false_or, Int.reduceEq, Option.some.injEq, reduceCtorEq]))); (have bu_233 := yu_233 (by omega) qu_233; simp only [ogR, ogRi, tu_22, tu_217, au_202.2.1, bu_233, reduceIte, Option.bind_some, Option.bind_none, or_true, true_or, or_self, or_false, false_or, Int.reduceEq, Option.some.injEq, reduceCtorEq]))); (have bu_202 := yu_202 (by omega) qu_202; simp only [ogR, ogRi, tu_22, tu_217, bu_202, reduceIte, Option.bind_some, Option.bind_none, or_true, true_or, or_self, or_false, false_or, Int.reduceEq, Option.some.injEq, reduceCtorEq]))) hW hL (lv_sub hl [0] rfl)
    have q_281 : (-2147483648) ≤ u_11.1 231 20 ∧ u_11.1 231 20 ≤ 2147483647 := iu_11.fi 20
    have q_282 : (-2147483648) ≤ u_11.1 231 24 ∧ u_11.1 231 24 ≤ 2147483647 := iu_11.fi 24
    exact loop_96 (_ + 1) u_11  _ _ _ (Nat.lt_succ_self _) iu_11 F_13 F_14 Fr.rf g_15 g_16 FF.rf (fun h => by have e8 := (show u_11.1 231 20 = u_11.1 231 20 from rfl); have e7 := (show u_11.1 231 24 = u_11.1 231 24 from rfl); have a9 := xu_11 (by have e9 := (show u_11.1 231 20 = u_11.1 231 20 from rfl); omega); omega) (fun h => ⟨h, rfl, trivial⟩) (fun h h9 => absurd h h9) hW hL (lv_sub hl [0] rfl)
  refine lv_aload_n hx hb dX12_read_0 rfl (lv_at hl 0 rfl) ?_
  refine lv_iconst (v := iv 0) hx hb dX12_read_1 (by decide) ?_
  refine p_X12_315 Cx hW hL (k := 231) (by decide) rfl dX12_read_2 (fun H locs hW hL => ?_)
  have F_283 : Fr S (uF S 231 24 0) (pl [231]) := (Fr.rf : Fr S S (pl [231])).F rfl
  have F_284 : Fr S (uF S 231 24 0) (pl [231]) := (Fr.rf : Fr S S (pl [231])).F rfl
  have g_285 : FF S (uF S 231 24 0) (fl [20, 21, 24]) := FF.F FF.rf rfl
  have g_286 : FF S (uF S 231 24 0) (fl [20, 21, 24]) := FF.F (FF.rf : FF S S (fl [20, 21, 24])) rfl
  have i_287 : dX G (uF S 231 24 0) := hI.F (i := 24) (show (-2147483648) ≤ 0 ∧ 0 ≤ 2147483647 from ⟨by omega, by omega⟩)
  have loop_5 : ∀ (fuel : Nat) (S5 : sS)  (H : Heap) (locs : List Loc) (ls : Array Slot), mf S5 T < fuel → (dX G S5) → (Fr S S5 (pl [231])) → (Fr S S5 (pl [231])) → (Fr ((uF S 231 24 0)) S5 (pl [231])) → (FF S S5 (fl [20, 21, 24])) → (FF S S5 (fl [20, 21, 24])) → (FF ((uF S 231 24 0)) S5 (fl [20, 21, 24])) → (Hd (S5.1 231 20 = 0 → 0 ≤ S5.1 231 24 ∧ S5.1 231 24 ≤ T - 1)) → (Hd (S5.1 231 20 = 0 → S.1 231 20 = 0 ∧ ogG T (kr K V T) = (ogW T (fun p => (kr K V T) p = 6 ∨ (kr K V T) p = 7 ∨ (kr K V T) p = 8) (ogD T (kr K V T)) (S5.1 231 24)).bind (ogG1 T (kr K V T)) ∧ True)) → (Hd (S.1 231 20 = 0 → S5.1 231 20 ≠ 0 → ogG T (kr K V T) = none)) → sW G 294 S5 H → sL G locs → lv_has ls 1 [(0, .ref (G.2.2.1 + 231))] → W p l e (rmk 101 0 0) s m args below meth c H locs 0 0 (MQ below (sQv G 294 (fun u => dX G u ∧ Fr S u (pl [231]) ∧ FF S u (fl [20, 21, 24]) ∧ (Hd (u.1 231 20 = 0 → ogG T (kr K V T) = some (u.1 231 24)) ∧ Hd (u.1 231 20 ≠ 0 → ogG T (kr K V T) = none)))) args s 0 0 (sF G)) (F0 m 5 ls []) := by
    intro fuel
    induction fuel with
    | zero => intro S5  H locs ls hmeas hI5 hFm5 hFL855 hL5_ hGm5 hGL855 gL5_ hcu5 hH5 hN5 hW hL hl; exact absurd hmeas (Nat.not_lt_zero _)
    | succ fuel ih_5 =>
      intro S5  H locs ls hmeas hI5 hFm5 hFL855 hL5_ hGm5 hGL855 gL5_ hcu5 hH5 hN5 hW hL hl
      refine lv_aload_n hx hb dX12_read_5 rfl (lv_at hl 0 rfl) ?_
      have q_288 : (-2147483648) ≤ S5.1 231 20 ∧ S5.1 231 20 ≤ 2147483647 := hI5.fi 20
      refine g_X12_270 Cx hW (k := 231) (by decide) rfl (v := S5.1 231 20) rfl dX12_read_6 ?_
      refine r_if_ne (tgt := 43) hx hb ⟨(by omega), (by omega)⟩ dX12_read_9 (by decide) (fun c_289 => ?_) (fun c_289 => ?_)
      · refine lv_aload_n hx hb dX12_read_43 rfl (lv_at hl 0 rfl) ?_
        refine g_X12_270 Cx hW (k := 231) (by decide) rfl (v := S5.1 231 20) rfl dX12_read_44 ?_
        refine r_if_ne (tgt := 75) hx hb ⟨(by omega), (by omega)⟩ dX12_read_47 (by decide) (fun _ => ?_) (fun c => absurd c (by omega))
        refine lv_aload_n hx hb dX12_read_75 rfl (lv_at hl 0 rfl) ?_
        refine lv_dup hx hb dX12_read_76 rfl ?_
        have q_290 : (-2147483648) ≤ S5.1 231 24 ∧ S5.1 231 24 ≤ 2147483647 := hI5.fi 24
        refine g_X12_315 Cx hW (k := 231) (by decide) rfl (v := S5.1 231 24) rfl dX12_read_77 ?_
        refine lv_iconst (v := iv 1) hx hb dX12_read_80 (by decide) ?_
        refine r_iadd hx hb dX12_read_81 ?_
        obtain ⟨z_291, ez_291, hz_291, kz_291⟩ := iv_of (iv ((S5.1 231 24) + 1))
        rw [ez_291]
        refine p_X12_315 Cx hW hL (k := 231) (by decide) rfl dX12_read_82 (fun H locs hW hL => ?_)
        have F_292 : Fr S (uF S5 231 24 z_291) (pl [231]) := hFm5.F rfl
        have F_293 : Fr S (uF S5 231 24 z_291) (pl [231]) := hFL855.F rfl
        have F_294 : Fr ((uF S 231 24 0)) (uF S5 231 24 z_291) (pl [231]) := hL5_.F rfl
        have g_295 : FF S (uF S5 231 24 z_291) (fl [20, 21, 24]) := FF.F hGm5 rfl
        have g_296 : FF S (uF S5 231 24 z_291) (fl [20, 21, 24]) := FF.F hGL855 rfl
        have g_297 : FF ((uF S 231 24 0)) (uF S5 231 24 z_291) (fl [20, 21, 24]) := FF.F gL5_ rfl
        have i_298 : dX G (uF S5 231 24 z_291) := hI5.F (i := 24) (show (-2147483648) ≤ z_291 ∧ z_291 ≤ 2147483647 from ⟨by omega, by omega⟩)
        have lk_299 : (uF S5 231 24 z_291).1 231 20 = S5.1 231 20 := uF_ne (fun h => absurd h.2 (by decide))
        have lk_300 : (uF S5 231 24 z_291).1 231 24 = z_291 := uF_on
        exact join_85 (uF S5 231 24 z_291)  _ _ _ i_298 F_292 F_293 g_295 g_296 (fun h => by have e8 := (show (uF S5 231 24 z_291).1 231 20 = S5.1 231 20 from uF_ne (fun h => absurd h.2 (by decide))); have e7 := (show (uF S5 231 24 z_291).1 231 24 = z_291 from uF_on); have a9 := hcu5 (by have e9 := (show (uF S5 231 24 z_291).1 231 20 = S5.1 231 20 from uF_ne (fun h => absurd h.2 (by decide))); omega); omega) (fun h => by have e8 := (show (uF S5 231 24 z_291).1 231 20 = S5.1 231 20 from uF_ne (fun h => absurd h.2 (by decide))); have e7 := (show (uF S5 231 24 z_291).1 231 24 = z_291 from uF_on); have aS5 := hH5 (by have e9 := (show (uF S5 231 24 z_291).1 231 20 = S5.1 231 20 from uF_ne (fun h => absurd h.2 (by decide))); omega); first | (exfalso; omega) | (exact ⟨(by omega), (by rw [e7]; simp only [ogG1, aS5.2.1, reduceIte, Option.bind_some, Option.bind_none, or_true, true_or, or_self, or_false, false_or, Int.reduceEq, Option.some.injEq, reduceCtorEq]), trivial⟩)) (fun h h9 => by have e8 := (show (uF S5 231 24 z_291).1 231 20 = S5.1 231 20 from uF_ne (fun h => absurd h.2 (by decide))); first | (exfalso; omega) | (by_cases qS5 : S5.1 231 20 = 0; (have aS5 := hH5 qS5; first | (exfalso; omega) | (exfalso; omega)); (have bS5 := hN5 (by omega) qS5; simp only [ogG1, bS5, reduceIte, Option.bind_some, Option.bind_none, or_true, true_or, or_self, or_false, false_or, Int.reduceEq, Option.some.injEq, reduceCtorEq]))) hW hL (lv_sub hl [0] rfl)
      · have b_301 := hcu5 (by have e9 := (show S5.1 231 20 = S5.1 231 20 from rfl); omega)
        refine lv_aload_n hx hb dX12_read_12 rfl (lv_at hl 0 rfl) ?_
        refine lv_iconst (v := iv 2) hx hb dX12_read_13 (by decide) ?_
        have q_302 : (-2147483648) ≤ S5.1 231 24 ∧ S5.1 231 24 ≤ 2147483647 := hI5.fi 24
        refine sBi (sV (As := [.int (iv 2)]) (rest := []) (k := 231) Cx (s_X12_isWord l G S5 (sv := 2) (K := K) (V := V) (pz := S5.1 231 24) hI5 (by omega) ((funext fun j => ((hL5_ 244 rfl).2.1 j).trans (uF_a) : S5.2.1 244 = S.2.1 244).trans hK) ((funext fun j => ((hL5_ 247 rfl).2.1 j).trans (uF_a) : S5.2.1 247 = S.2.1 247).trans hV) (by omega) (by omega)) (c_X12_325 Cx rfl rfl (rmk_ok (by omega) (by decide))) hW (by decide) rfl rfl rfl hl.1 rfl (Nat.le_of_ble_eq_true rfl) dX12_read_14 ⟨Nat.le_of_ble_eq_true rfl, Nat.le_of_ble_eq_true rfl⟩) hL (fun r_305 u_303 H locs k_304 hW hL => ?_)
        obtain ⟨eu_303, xu_303⟩ := k_304
        rw [eu_303] at hW
        refine r_if_ne (tgt := 36) hx hb ⟨(by omega), (by omega)⟩ dX12_read_17 (by decide) (fun c_306 => ?_) (fun c_306 => ?_)
        · refine lv_aload_n hx hb dX12_read_36 rfl (lv_at hl 0 rfl) ?_
          refine sBv (sV (As := []) (rest := []) (k := 231) Cx (c_X12_told l G S5 (K := K) (V := V) (T := T) (pz := S5.1 231 24) hI5 (by omega) (by have z := (xu_303.2.1 (by omega)); unfold gW at z; omega) ((funext fun j => ((hL5_ 244 rfl).2.1 j).trans (uF_a) : S5.2.1 244 = S.2.1 244).trans hK) ((funext fun j => ((hL5_ 247 rfl).2.1 j).trans (uF_a) : S5.2.1 247 = S.2.1 247).trans hV) hE (by omega) (fun h => by have e8 := (show S5.1 231 20 = S5.1 231 20 from rfl); have a9 := hcu5 (by have e9 := (show S5.1 231 20 = S5.1 231 20 from rfl); omega); omega)) (c_X12_334 Cx rfl rfl (rmk_ok (by omega) (by decide))) hW (by decide) rfl rfl rfl hl.1 rfl (Nat.le_of_ble_eq_true rfl) dX12_read_37 ⟨Nat.le_of_ble_eq_true rfl, Nat.le_of_ble_eq_true rfl⟩) hL (fun u_307 H locs k_308 hW hL => ?_)
          obtain ⟨iu_307, fu_307, gu_307, xu_307⟩ := k_308
          have F_309 := hFm5.trans fu_307
          have F_310 := hFL855.trans fu_307
          have F_311 := hL5_.trans fu_307
          have g_312 : FF S u_307 (fl [20, 21, 24]) := FF.trans hGm5 (FF.to gu_307 (fl_sub (by decide)))
          have g_313 : FF S u_307 (fl [20, 21, 24]) := FF.trans hGL855 (FF.to gu_307 (fl_sub (by decide)))
          have g_314 : FF ((uF S 231 24 0)) u_307 (fl [20, 21, 24]) := FF.trans gL5_ (FF.to gu_307 (fl_sub (by decide)))
          obtain ⟨xu_307, yu_307⟩ := xu_307
          refine lv_goto (tgt := 5) hx hb dX12_read_40 (by decide) ?_
          have q_315 : (-2147483648) ≤ u_307.1 231 20 ∧ u_307.1 231 20 ≤ 2147483647 := iu_307.fi 20
          have q_316 : (-2147483648) ≤ u_307.1 231 24 ∧ u_307.1 231 24 ≤ 2147483647 := iu_307.fi 24
          exact ih_5 u_307  _ _ _ (Nat.lt_of_lt_of_le (mf_lt (S := S5) (by omega) (by omega) (fun h => by have a9 := xu_307 h; omega)) (Nat.le_of_lt_succ hmeas)) iu_307 F_309 F_310 F_311 g_312 g_313 g_314 (fun h => by have e8 := (show u_307.1 231 20 = u_307.1 231 20 from rfl); have e7 := (show u_307.1 231 24 = u_307.1 231 24 from rfl); have a9 := xu_307 (by have e9 := (show u_307.1 231 20 = u_307.1 231 20 from rfl); omega); omega) (fun h => by have a9 := xu_307 h; have a8 := hH5 (by omega); exact ⟨h20, (by rw [a8.2.1, ogW678 kr_out (.inl (((wd_m (w := 2) (by decide)) K V T _).1 (by omega) (by omega) (xu_303.2.1 (by omega)))) a9.2.1]), trivial⟩) (fun _ h9 => by have a8 := hH5 (by omega); have b9 := yu_307 (by omega) h9; rw [a8.2.1, ogW_fa (st := (fun p => (kr K V T) p = 6 ∨ (kr K V T) p = 7 ∨ (kr K V T) p = 8)) (.inl (((wd_m (w := 2) (by decide)) K V T _).1 (by omega) (by omega) (xu_303.2.1 (by omega)))) b9]; rfl) hW hL (lv_sub hl [0] rfl)
        · refine lv_aload_n hx hb dX12_read_20 rfl (lv_at hl 0 rfl) ?_
          refine lv_iconst (v := iv 3) hx hb dX12_read_21 (by decide) ?_
          refine sBi (sV (As := [.int (iv 3)]) (rest := []) (k := 231) Cx (s_X12_isWord l G S5 (sv := 3) (K := K) (V := V) (pz := S5.1 231 24) hI5 (by omega) ((funext fun j => ((hL5_ 244 rfl).2.1 j).trans (uF_a) : S5.2.1 244 = S.2.1 244).trans hK) ((funext fun j => ((hL5_ 247 rfl).2.1 j).trans (uF_a) : S5.2.1 247 = S.2.1 247).trans hV) (by omega) (by omega)) (c_X12_325 Cx rfl rfl (rmk_ok (by omega) (by decide))) hW (by decide) rfl rfl rfl hl.1 rfl (Nat.le_of_ble_eq_true rfl) dX12_read_22 ⟨Nat.le_of_ble_eq_true rfl, Nat.le_of_ble_eq_true rfl⟩) hL (fun r_319 u_317 H locs k_318 hW hL => ?_)
          obtain ⟨eu_317, xu_317⟩ := k_318
          rw [eu_317] at hW
          refine r_if_ne (tgt := 36) hx hb ⟨(by omega), (by omega)⟩ dX12_read_25 (by decide) (fun c_320 => ?_) (fun c_320 => ?_)
          · refine lv_aload_n hx hb dX12_read_36 rfl (lv_at hl 0 rfl) ?_
            refine sBv (sV (As := []) (rest := []) (k := 231) Cx (c_X12_told l G S5 (K := K) (V := V) (T := T) (pz := S5.1 231 24) hI5 (by omega) (by have z := (xu_317.2.1 (by omega)); unfold gW at z; omega) ((funext fun j => ((hL5_ 244 rfl).2.1 j).trans (uF_a) : S5.2.1 244 = S.2.1 244).trans hK) ((funext fun j => ((hL5_ 247 rfl).2.1 j).trans (uF_a) : S5.2.1 247 = S.2.1 247).trans hV) hE (by omega) (fun h => by have e8 := (show S5.1 231 20 = S5.1 231 20 from rfl); have a9 := hcu5 (by have e9 := (show S5.1 231 20 = S5.1 231 20 from rfl); omega); omega)) (c_X12_334 Cx rfl rfl (rmk_ok (by omega) (by decide))) hW (by decide) rfl rfl rfl hl.1 rfl (Nat.le_of_ble_eq_true rfl) dX12_read_37 ⟨Nat.le_of_ble_eq_true rfl, Nat.le_of_ble_eq_true rfl⟩) hL (fun u_321 H locs k_322 hW hL => ?_)
            obtain ⟨iu_321, fu_321, gu_321, xu_321⟩ := k_322
            have F_323 := hFm5.trans fu_321
            have F_324 := hFL855.trans fu_321
            have F_325 := hL5_.trans fu_321
            have g_326 : FF S u_321 (fl [20, 21, 24]) := FF.trans hGm5 (FF.to gu_321 (fl_sub (by decide)))
            have g_327 : FF S u_321 (fl [20, 21, 24]) := FF.trans hGL855 (FF.to gu_321 (fl_sub (by decide)))
            have g_328 : FF ((uF S 231 24 0)) u_321 (fl [20, 21, 24]) := FF.trans gL5_ (FF.to gu_321 (fl_sub (by decide)))
            obtain ⟨xu_321, yu_321⟩ := xu_321
            refine lv_goto (tgt := 5) hx hb dX12_read_40 (by decide) ?_
            have q_329 : (-2147483648) ≤ u_321.1 231 20 ∧ u_321.1 231 20 ≤ 2147483647 := iu_321.fi 20
            have q_330 : (-2147483648) ≤ u_321.1 231 24 ∧ u_321.1 231 24 ≤ 2147483647 := iu_321.fi 24
            exact ih_5 u_321  _ _ _ (Nat.lt_of_lt_of_le (mf_lt (S := S5) (by omega) (by omega) (fun h => by have a9 := xu_321 h; omega)) (Nat.le_of_lt_succ hmeas)) iu_321 F_323 F_324 F_325 g_326 g_327 g_328 (fun h => by have e8 := (show u_321.1 231 20 = u_321.1 231 20 from rfl); have e7 := (show u_321.1 231 24 = u_321.1 231 24 from rfl); have a9 := xu_321 (by have e9 := (show u_321.1 231 20 = u_321.1 231 20 from rfl); omega); omega) (fun h => by have a9 := xu_321 h; have a8 := hH5 (by omega); exact ⟨h20, (by rw [a8.2.1, ogW678 kr_out (.inr (.inl (((wd_m (w := 3) (by decide)) K V T _).1 (by omega) (by omega) (xu_317.2.1 (by omega))))) a9.2.1]), trivial⟩) (fun _ h9 => by have a8 := hH5 (by omega); have b9 := yu_321 (by omega) h9; rw [a8.2.1, ogW_fa (st := (fun p => (kr K V T) p = 6 ∨ (kr K V T) p = 7 ∨ (kr K V T) p = 8)) (.inr (.inl (((wd_m (w := 3) (by decide)) K V T _).1 (by omega) (by omega) (xu_317.2.1 (by omega))))) b9]; rfl) hW hL (lv_sub hl [0] rfl)
          · refine lv_aload_n hx hb dX12_read_28 rfl (lv_at hl 0 rfl) ?_
            refine lv_iconst (v := iv 4) hx hb dX12_read_29 (by decide) ?_
            refine sBi (sV (As := [.int (iv 4)]) (rest := []) (k := 231) Cx (s_X12_isWord l G S5 (sv := 4) (K := K) (V := V) (pz := S5.1 231 24) hI5 (by omega) ((funext fun j => ((hL5_ 244 rfl).2.1 j).trans (uF_a) : S5.2.1 244 = S.2.1 244).trans hK) ((funext fun j => ((hL5_ 247 rfl).2.1 j).trans (uF_a) : S5.2.1 247 = S.2.1 247).trans hV) (by omega) (by omega)) (c_X12_325 Cx rfl rfl (rmk_ok (by omega) (by decide))) hW (by decide) rfl rfl rfl hl.1 rfl (Nat.le_of_ble_eq_true rfl) dX12_read_30 ⟨Nat.le_of_ble_eq_true rfl, Nat.le_of_ble_eq_true rfl⟩) hL (fun r_333 u_331 H locs k_332 hW hL => ?_)
            obtain ⟨eu_331, xu_331⟩ := k_332
            rw [eu_331] at hW
            refine r_if_eq (tgt := 43) hx hb ⟨(by omega), (by omega)⟩ dX12_read_33 (by decide) (fun c_334 => ?_) (fun c_334 => ?_)
            · refine lv_aload_n hx hb dX12_read_43 rfl (lv_at hl 0 rfl) ?_
              refine g_X12_270 Cx hW (k := 231) (by decide) rfl (v := S5.1 231 20) rfl dX12_read_44 ?_
              refine r_if_ne (tgt := 75) hx hb ⟨(by omega), (by omega)⟩ dX12_read_47 (by decide) (fun c => absurd (by omega) c) (fun _ => ?_)
              have b_335 := hcu5 (by have e9 := (show S5.1 231 20 = S5.1 231 20 from rfl); omega)
              refine lv_aload_n hx hb dX12_read_50 rfl (lv_at hl 0 rfl) ?_
              refine lv_iconst (v := iv 0) hx hb dX12_read_51 (by decide) ?_
              refine sBi (sV (As := [.int (iv 0)]) (rest := []) (k := 231) Cx (s_X12_isWord l G S5 (sv := 0) (K := K) (V := V) (pz := S5.1 231 24) hI5 (by omega) ((funext fun j => ((hL5_ 244 rfl).2.1 j).trans (uF_a) : S5.2.1 244 = S.2.1 244).trans hK) ((funext fun j => ((hL5_ 247 rfl).2.1 j).trans (uF_a) : S5.2.1 247 = S.2.1 247).trans hV) (by omega) (by omega)) (c_X12_325 Cx rfl rfl (rmk_ok (by omega) (by decide))) hW (by decide) rfl rfl rfl hl.1 rfl (Nat.le_of_ble_eq_true rfl) dX12_read_52 ⟨Nat.le_of_ble_eq_true rfl, Nat.le_of_ble_eq_true rfl⟩) hL (fun r_338 u_336 H locs k_337 hW hL => ?_)
              obtain ⟨eu_336, xu_336⟩ := k_337
              rw [eu_336] at hW
              refine r_if_ne (tgt := 75) hx hb ⟨(by omega), (by omega)⟩ dX12_read_55 (by decide) (fun c_339 => ?_) (fun c_339 => ?_)
              · refine lv_aload_n hx hb dX12_read_75 rfl (lv_at hl 0 rfl) ?_
                refine lv_dup hx hb dX12_read_76 rfl ?_
                refine g_X12_315 Cx hW (k := 231) (by decide) rfl (v := S5.1 231 24) rfl dX12_read_77 ?_
                have n_340 := hE.nx (pz := S5.1 231 24) (by omega) (by have z := (xu_336.2.1 (by omega)); unfold gW at z; omega)
                refine lv_iconst (v := iv 1) hx hb dX12_read_80 (by decide) ?_
                refine r_iadd hx hb dX12_read_81 ?_
                refine p_X12_315 Cx hW hL (k := 231) (by decide) rfl dX12_read_82 (fun H locs hW hL => ?_)
                have F_341 : Fr S (uF S5 231 24 ((S5.1 231 24) + 1)) (pl [231]) := hFm5.F rfl
                have F_342 : Fr S (uF S5 231 24 ((S5.1 231 24) + 1)) (pl [231]) := hFL855.F rfl
                have F_343 : Fr ((uF S 231 24 0)) (uF S5 231 24 ((S5.1 231 24) + 1)) (pl [231]) := hL5_.F rfl
                have g_344 : FF S (uF S5 231 24 ((S5.1 231 24) + 1)) (fl [20, 21, 24]) := FF.F hGm5 rfl
                have g_345 : FF S (uF S5 231 24 ((S5.1 231 24) + 1)) (fl [20, 21, 24]) := FF.F hGL855 rfl
                have g_346 : FF ((uF S 231 24 0)) (uF S5 231 24 ((S5.1 231 24) + 1)) (fl [20, 21, 24]) := FF.F gL5_ rfl
                have i_347 : dX G (uF S5 231 24 ((S5.1 231 24) + 1)) := hI5.F (i := 24) (show (-2147483648) ≤ (S5.1 231 24) + 1 ∧ (S5.1 231 24) + 1 ≤ 2147483647 from ⟨by omega, by omega⟩)
                have lk_348 : (uF S5 231 24 ((S5.1 231 24) + 1)).1 231 20 = S5.1 231 20 := uF_ne (fun h => absurd h.2 (by decide))
                have lk_349 : (uF S5 231 24 ((S5.1 231 24) + 1)).1 231 24 = (S5.1 231 24) + 1 := uF_on
                exact join_85 (uF S5 231 24 ((S5.1 231 24) + 1))  _ _ _ i_347 F_341 F_342 g_344 g_345 (fun h => by have e8 := (show (uF S5 231 24 ((S5.1 231 24) + 1)).1 231 20 = S5.1 231 20 from uF_ne (fun h => absurd h.2 (by decide))); have e7 := (show (uF S5 231 24 ((S5.1 231 24) + 1)).1 231 24 = (S5.1 231 24) + 1 from uF_on); have a9 := hcu5 (by have e9 := (show (uF S5 231 24 ((S5.1 231 24) + 1)).1 231 20 = S5.1 231 20 from uF_ne (fun h => absurd h.2 (by decide))); omega); omega) (fun h => by have e8 := (show (uF S5 231 24 ((S5.1 231 24) + 1)).1 231 20 = S5.1 231 20 from uF_ne (fun h => absurd h.2 (by decide))); have e7 := (show (uF S5 231 24 ((S5.1 231 24) + 1)).1 231 24 = (S5.1 231 24) + 1 from uF_on); have aS5 := hH5 (by have e9 := (show (uF S5 231 24 ((S5.1 231 24) + 1)).1 231 20 = S5.1 231 20 from uF_ne (fun h => absurd h.2 (by decide))); omega); first | (exfalso; omega) | (have tu_303 : ¬ kr K V T (S5.1 231 24) = 6 := fun z => xu_303.2.2 (by omega) (((wd_m (w := 2) (by decide)) K V T _).2 z); have tu_317 : ¬ kr K V T (S5.1 231 24) = 7 := fun z => xu_317.2.2 (by omega) (((wd_m (w := 3) (by decide)) K V T _).2 z); have tu_331 : ¬ kr K V T (S5.1 231 24) = 8 := fun z => xu_331.2.2 (by omega) (((wd_m (w := 4) (by decide)) K V T _).2 z); have tu_336 : kr K V T (S5.1 231 24) = 4 := ((wd_m (w := 0) (by decide)) K V T _).1 (by omega) (by omega) (xu_336.2.1 (by omega)); exact ⟨(by omega), (by rw [e7]; simp only [ogG1, tu_303, tu_317, tu_331, tu_336, aS5.2.1, ogW_no (T := T) (st := (fun p => (kr K V T) p = 6 ∨ (kr K V T) p = 7 ∨ (kr K V T) p = 8)) (R := ogD T (kr K V T)) (p := S5.1 231 24) (fun z => z.elim tu_303 (fun z => z.elim tu_317 tu_331)), reduceIte, Option.bind_some, Option.bind_none, or_true, true_or, or_self, or_false, false_or, Int.reduceEq, Option.some.injEq, reduceCtorEq]), trivial⟩)) (fun h h9 => by have e8 := (show (uF S5 231 24 ((S5.1 231 24) + 1)).1 231 20 = S5.1 231 20 from uF_ne (fun h => absurd h.2 (by decide))); first | (exfalso; omega) | (have tu_303 : ¬ kr K V T (S5.1 231 24) = 6 := fun z => xu_303.2.2 (by omega) (((wd_m (w := 2) (by decide)) K V T _).2 z); have tu_317 : ¬ kr K V T (S5.1 231 24) = 7 := fun z => xu_317.2.2 (by omega) (((wd_m (w := 3) (by decide)) K V T _).2 z); have tu_331 : ¬ kr K V T (S5.1 231 24) = 8 := fun z => xu_331.2.2 (by omega) (((wd_m (w := 4) (by decide)) K V T _).2 z); have tu_336 : kr K V T (S5.1 231 24) = 4 := ((wd_m (w := 0) (by decide)) K V T _).1 (by omega) (by omega) (xu_336.2.1 (by omega)); by_cases qS5 : S5.1 231 20 = 0; (have aS5 := hH5 qS5; first | (exfalso; omega) | (exfalso; omega)); (have bS5 := hN5 (by omega) qS5; simp only [ogG1, tu_303, tu_317, tu_331, tu_336, bS5, ogW_no (T := T) (st := (fun p => (kr K V T) p = 6 ∨ (kr K V T) p = 7 ∨ (kr K V T) p = 8)) (R := ogD T (kr K V T)) (p := S5.1 231 24) (fun z => z.elim tu_303 (fun z => z.elim tu_317 tu_331)), reduceIte, Option.bind_some, Option.bind_none, or_true, true_or, or_self, or_false, false_or, Int.reduceEq, Option.some.injEq, reduceCtorEq]))) hW hL (lv_sub hl [0] rfl)
              · refine lv_aload_n hx hb dX12_read_58 rfl (lv_at hl 0 rfl) ?_
                refine lv_iconst (v := iv 1) hx hb dX12_read_59 (by decide) ?_
                refine sBi (sV (As := [.int (iv 1)]) (rest := []) (k := 231) Cx (s_X12_isWord l G S5 (sv := 1) (K := K) (V := V) (pz := S5.1 231 24) hI5 (by omega) ((funext fun j => ((hL5_ 244 rfl).2.1 j).trans (uF_a) : S5.2.1 244 = S.2.1 244).trans hK) ((funext fun j => ((hL5_ 247 rfl).2.1 j).trans (uF_a) : S5.2.1 247 = S.2.1 247).trans hV) (by omega) (by omega)) (c_X12_325 Cx rfl rfl (rmk_ok (by omega) (by decide))) hW (by decide) rfl rfl rfl hl.1 rfl (Nat.le_of_ble_eq_true rfl) dX12_read_60 ⟨Nat.le_of_ble_eq_true rfl, Nat.le_of_ble_eq_true rfl⟩) hL (fun r_352 u_350 H locs k_351 hW hL => ?_)
                obtain ⟨eu_350, xu_350⟩ := k_351
                rw [eu_350] at hW
                refine r_if_ne (tgt := 75) hx hb ⟨(by omega), (by omega)⟩ dX12_read_63 (by decide) (fun c_353 => ?_) (fun c_353 => ?_)
                · refine lv_aload_n hx hb dX12_read_75 rfl (lv_at hl 0 rfl) ?_
                  refine lv_dup hx hb dX12_read_76 rfl ?_
                  refine g_X12_315 Cx hW (k := 231) (by decide) rfl (v := S5.1 231 24) rfl dX12_read_77 ?_
                  have n_354 := hE.nx (pz := S5.1 231 24) (by omega) (by have z := (xu_350.2.1 (by omega)); unfold gW at z; omega)
                  refine lv_iconst (v := iv 1) hx hb dX12_read_80 (by decide) ?_
                  refine r_iadd hx hb dX12_read_81 ?_
                  refine p_X12_315 Cx hW hL (k := 231) (by decide) rfl dX12_read_82 (fun H locs hW hL => ?_)
                  have F_355 : Fr S (uF S5 231 24 ((S5.1 231 24) + 1)) (pl [231]) := hFm5.F rfl
                  have F_356 : Fr S (uF S5 231 24 ((S5.1 231 24) + 1)) (pl [231]) := hFL855.F rfl
                  have F_357 : Fr ((uF S 231 24 0)) (uF S5 231 24 ((S5.1 231 24) + 1)) (pl [231]) := hL5_.F rfl
                  have g_358 : FF S (uF S5 231 24 ((S5.1 231 24) + 1)) (fl [20, 21, 24]) := FF.F hGm5 rfl
                  have g_359 : FF S (uF S5 231 24 ((S5.1 231 24) + 1)) (fl [20, 21, 24]) := FF.F hGL855 rfl
                  have g_360 : FF ((uF S 231 24 0)) (uF S5 231 24 ((S5.1 231 24) + 1)) (fl [20, 21, 24]) := FF.F gL5_ rfl
                  have i_361 : dX G (uF S5 231 24 ((S5.1 231 24) + 1)) := hI5.F (i := 24) (show (-2147483648) ≤ (S5.1 231 24) + 1 ∧ (S5.1 231 24) + 1 ≤ 2147483647 from ⟨by omega, by omega⟩)
                  have lk_362 : (uF S5 231 24 ((S5.1 231 24) + 1)).1 231 20 = S5.1 231 20 := uF_ne (fun h => absurd h.2 (by decide))
                  have lk_363 : (uF S5 231 24 ((S5.1 231 24) + 1)).1 231 24 = (S5.1 231 24) + 1 := uF_on
                  exact join_85 (uF S5 231 24 ((S5.1 231 24) + 1))  _ _ _ i_361 F_355 F_356 g_358 g_359 (fun h => by have e8 := (show (uF S5 231 24 ((S5.1 231 24) + 1)).1 231 20 = S5.1 231 20 from uF_ne (fun h => absurd h.2 (by decide))); have e7 := (show (uF S5 231 24 ((S5.1 231 24) + 1)).1 231 24 = (S5.1 231 24) + 1 from uF_on); have a9 := hcu5 (by have e9 := (show (uF S5 231 24 ((S5.1 231 24) + 1)).1 231 20 = S5.1 231 20 from uF_ne (fun h => absurd h.2 (by decide))); omega); omega) (fun h => by have e8 := (show (uF S5 231 24 ((S5.1 231 24) + 1)).1 231 20 = S5.1 231 20 from uF_ne (fun h => absurd h.2 (by decide))); have e7 := (show (uF S5 231 24 ((S5.1 231 24) + 1)).1 231 24 = (S5.1 231 24) + 1 from uF_on); have aS5 := hH5 (by have e9 := (show (uF S5 231 24 ((S5.1 231 24) + 1)).1 231 20 = S5.1 231 20 from uF_ne (fun h => absurd h.2 (by decide))); omega); first | (exfalso; omega) | (have tu_303 : ¬ kr K V T (S5.1 231 24) = 6 := fun z => xu_303.2.2 (by omega) (((wd_m (w := 2) (by decide)) K V T _).2 z); have tu_317 : ¬ kr K V T (S5.1 231 24) = 7 := fun z => xu_317.2.2 (by omega) (((wd_m (w := 3) (by decide)) K V T _).2 z); have tu_331 : ¬ kr K V T (S5.1 231 24) = 8 := fun z => xu_331.2.2 (by omega) (((wd_m (w := 4) (by decide)) K V T _).2 z); have tu_336 : ¬ kr K V T (S5.1 231 24) = 4 := fun z => xu_336.2.2 (by omega) (((wd_m (w := 0) (by decide)) K V T _).2 z); have tu_350 : kr K V T (S5.1 231 24) = 5 := ((wd_m (w := 1) (by decide)) K V T _).1 (by omega) (by omega) (xu_350.2.1 (by omega)); exact ⟨(by omega), (by rw [e7]; simp only [ogG1, tu_303, tu_317, tu_331, tu_336, tu_350, aS5.2.1, ogW_no (T := T) (st := (fun p => (kr K V T) p = 6 ∨ (kr K V T) p = 7 ∨ (kr K V T) p = 8)) (R := ogD T (kr K V T)) (p := S5.1 231 24) (fun z => z.elim tu_303 (fun z => z.elim tu_317 tu_331)), reduceIte, Option.bind_some, Option.bind_none, or_true, true_or, or_self, or_false, false_or, Int.reduceEq, Option.some.injEq, reduceCtorEq]), trivial⟩)) (fun h h9 => by have e8 := (show (uF S5 231 24 ((S5.1 231 24) + 1)).1 231 20 = S5.1 231 20 from uF_ne (fun h => absurd h.2 (by decide))); first | (exfalso; omega) | (have tu_303 : ¬ kr K V T (S5.1 231 24) = 6 := fun z => xu_303.2.2 (by omega) (((wd_m (w := 2) (by decide)) K V T _).2 z); have tu_317 : ¬ kr K V T (S5.1 231 24) = 7 := fun z => xu_317.2.2 (by omega) (((wd_m (w := 3) (by decide)) K V T _).2 z); have tu_331 : ¬ kr K V T (S5.1 231 24) = 8 := fun z => xu_331.2.2 (by omega) (((wd_m (w := 4) (by decide)) K V T _).2 z); have tu_336 : ¬ kr K V T (S5.1 231 24) = 4 := fun z => xu_336.2.2 (by omega) (((wd_m (w := 0) (by decide)) K V T _).2 z); have tu_350 : kr K V T (S5.1 231 24) = 5 := ((wd_m (w := 1) (by decide)) K V T _).1 (by omega) (by omega) (xu_350.2.1 (by omega)); by_cases qS5 : S5.1 231 20 = 0; (have aS5 := hH5 qS5; first | (exfalso; omega) | (exfalso; omega)); (have bS5 := hN5 (by omega) qS5; simp only [ogG1, tu_303, tu_317, tu_331, tu_336, tu_350, bS5, ogW_no (T := T) (st := (fun p => (kr K V T) p = 6 ∨ (kr K V T) p = 7 ∨ (kr K V T) p = 8)) (R := ogD T (kr K V T)) (p := S5.1 231 24) (fun z => z.elim tu_303 (fun z => z.elim tu_317 tu_331)), reduceIte, Option.bind_some, Option.bind_none, or_true, true_or, or_self, or_false, false_or, Int.reduceEq, Option.some.injEq, reduceCtorEq]))) hW hL (lv_sub hl [0] rfl)
                · refine lv_aload_n hx hb dX12_read_66 rfl (lv_at hl 0 rfl) ?_
                  refine lv_iconst (v := iv 1) hx hb dX12_read_67 (by decide) ?_
                  refine lv_aload_n hx hb dX12_read_68 rfl (lv_at hl 0 rfl) ?_
                  refine g_X12_315 Cx hW (k := 231) (by decide) rfl (v := S5.1 231 24) rfl dX12_read_69 ?_
                  refine sBv (sV (As := [.int (iv 1), .int (iv (S5.1 231 24))]) (rest := []) (k := 231) Cx (s_X12_wrong l G S5 (cd := 1) (tk := S5.1 231 24) hI5 (by omega) (by omega)) (c_X12_321 Cx rfl rfl (rmk_ok (by omega) (by decide))) hW (by decide) rfl rfl rfl hl.1 rfl (Nat.le_of_ble_eq_true rfl) dX12_read_72 ⟨Nat.le_of_ble_eq_true rfl, Nat.le_of_ble_eq_true rfl⟩) hL (fun u_364 H locs k_365 hW hL => ?_)
                  obtain ⟨iu_364, fu_364, gu_364, xu_364⟩ := k_365
                  have F_366 := hFm5.trans fu_364
                  have F_367 := hFL855.trans fu_364
                  have F_368 := hL5_.trans fu_364
                  have g_369 : FF S u_364 (fl [20, 21, 24]) := FF.trans hGm5 (FF.to gu_364 (fl_sub (by decide)))
                  have g_370 : FF S u_364 (fl [20, 21, 24]) := FF.trans hGL855 (FF.to gu_364 (fl_sub (by decide)))
                  have g_371 : FF ((uF S 231 24 0)) u_364 (fl [20, 21, 24]) := FF.trans gL5_ (FF.to gu_364 (fl_sub (by decide)))
                  refine lv_aload_n hx hb dX12_read_75 rfl (lv_at hl 0 rfl) ?_
                  refine lv_dup hx hb dX12_read_76 rfl ?_
                  refine g_X12_315 Cx hW (k := 231) (by decide) rfl (v := S5.1 231 24) (gu_364 24 rfl) dX12_read_77 ?_
                  refine lv_iconst (v := iv 1) hx hb dX12_read_80 (by decide) ?_
                  refine r_iadd hx hb dX12_read_81 ?_
                  refine p_X12_315 Cx hW hL (k := 231) (by decide) rfl dX12_read_82 (fun H locs hW hL => ?_)
                  have F_372 : Fr S (uF u_364 231 24 ((S5.1 231 24) + 1)) (pl [231]) := F_366.F rfl
                  have F_373 : Fr S (uF u_364 231 24 ((S5.1 231 24) + 1)) (pl [231]) := F_367.F rfl
                  have F_374 : Fr ((uF S 231 24 0)) (uF u_364 231 24 ((S5.1 231 24) + 1)) (pl [231]) := F_368.F rfl
                  have g_375 : FF S (uF u_364 231 24 ((S5.1 231 24) + 1)) (fl [20, 21, 24]) := FF.F g_369 rfl
                  have g_376 : FF S (uF u_364 231 24 ((S5.1 231 24) + 1)) (fl [20, 21, 24]) := FF.F g_370 rfl
                  have g_377 : FF ((uF S 231 24 0)) (uF u_364 231 24 ((S5.1 231 24) + 1)) (fl [20, 21, 24]) := FF.F g_371 rfl
                  have i_378 : dX G (uF u_364 231 24 ((S5.1 231 24) + 1)) := iu_364.F (i := 24) (show (-2147483648) ≤ (S5.1 231 24) + 1 ∧ (S5.1 231 24) + 1 ≤ 2147483647 from ⟨by omega, by omega⟩)
                  have q_379 : (-2147483648) ≤ u_364.1 231 20 ∧ u_364.1 231 20 ≤ 2147483647 := iu_364.fi 20
                  have lk_380 : (uF u_364 231 24 ((S5.1 231 24) + 1)).1 231 20 = u_364.1 231 20 := uF_ne (fun h => absurd h.2 (by decide))
                  have lk_381 : (uF u_364 231 24 ((S5.1 231 24) + 1)).1 231 24 = (S5.1 231 24) + 1 := uF_on
                  exact join_85 (uF u_364 231 24 ((S5.1 231 24) + 1))  _ _ _ i_378 F_372 F_373 g_375 g_376 (fun h => by have e8 := (show (uF u_364 231 24 ((S5.1 231 24) + 1)).1 231 20 = u_364.1 231 20 from uF_ne (fun h => absurd h.2 (by decide))); have e7 := (show (uF u_364 231 24 ((S5.1 231 24) + 1)).1 231 24 = (S5.1 231 24) + 1 from uF_on); have a9 := xu_364; omega) (fun h => absurd h (by have e9 := (show (uF u_364 231 24 ((S5.1 231 24) + 1)).1 231 20 = u_364.1 231 20 from uF_ne (fun h => absurd h.2 (by decide))); have a9 := xu_364; omega)) (fun h h9 => by have e8 := (show (uF u_364 231 24 ((S5.1 231 24) + 1)).1 231 20 = u_364.1 231 20 from uF_ne (fun h => absurd h.2 (by decide))); first | (exfalso; omega) | (have tu_303 : ¬ kr K V T (S5.1 231 24) = 6 := fun z => xu_303.2.2 (by omega) (((wd_m (w := 2) (by decide)) K V T _).2 z); have tu_317 : ¬ kr K V T (S5.1 231 24) = 7 := fun z => xu_317.2.2 (by omega) (((wd_m (w := 3) (by decide)) K V T _).2 z); have tu_331 : ¬ kr K V T (S5.1 231 24) = 8 := fun z => xu_331.2.2 (by omega) (((wd_m (w := 4) (by decide)) K V T _).2 z); have tu_336 : ¬ kr K V T (S5.1 231 24) = 4 := fun z => xu_336.2.2 (by omega) (((wd_m (w := 0) (by decide)) K V T _).2 z); have tu_350 : ¬ kr K V T (S5.1 231 24) = 5 := fun z => xu_350.2.2 (by omega) (((wd_m (w := 1) (by decide)) K V T _).2 z); by_cases qS5 : S5.1 231 20 = 0; (have aS5 := hH5 qS5; first | (exfalso; omega) | (simp only [ogG1, tu_303, tu_317, tu_331, tu_336, tu_350, aS5.2.1, ogW_no (T := T) (st := (fun p => (kr K V T) p = 6 ∨ (kr K V T) p = 7 ∨ (kr K V T) p = 8)) (R := ogD T (kr K V T)) (p := S5.1 231 24) (fun z => z.elim tu_303 (fun z => z.elim tu_317 tu_331)), reduceIte, Option.bind_some, Option.bind_none, or_true, true_or, or_self, or_false, false_or, Int.reduceEq, Option.some.injEq, reduceCtorEq])); (have bS5 := hN5 (by omega) qS5; simp only [ogG1, tu_303, tu_317, tu_331, tu_336, tu_350, bS5, ogW_no (T := T) (st := (fun p => (kr K V T) p = 6 ∨ (kr K V T) p = 7 ∨ (kr K V T) p = 8)) (R := ogD T (kr K V T)) (p := S5.1 231 24) (fun z => z.elim tu_303 (fun z => z.elim tu_317 tu_331)), reduceIte, Option.bind_some, Option.bind_none, or_true, true_or, or_self, or_false, false_or, Int.reduceEq, Option.some.injEq, reduceCtorEq]))) hW hL (lv_sub hl [0] rfl)
            · refine lv_aload_n hx hb dX12_read_36 rfl (lv_at hl 0 rfl) ?_
              refine sBv (sV (As := []) (rest := []) (k := 231) Cx (c_X12_told l G S5 (K := K) (V := V) (T := T) (pz := S5.1 231 24) hI5 (by omega) (by have z := (xu_331.2.1 (by omega)); unfold gW at z; omega) ((funext fun j => ((hL5_ 244 rfl).2.1 j).trans (uF_a) : S5.2.1 244 = S.2.1 244).trans hK) ((funext fun j => ((hL5_ 247 rfl).2.1 j).trans (uF_a) : S5.2.1 247 = S.2.1 247).trans hV) hE (by omega) (fun h => by have e8 := (show S5.1 231 20 = S5.1 231 20 from rfl); have a9 := hcu5 (by have e9 := (show S5.1 231 20 = S5.1 231 20 from rfl); omega); omega)) (c_X12_334 Cx rfl rfl (rmk_ok (by omega) (by decide))) hW (by decide) rfl rfl rfl hl.1 rfl (Nat.le_of_ble_eq_true rfl) dX12_read_37 ⟨Nat.le_of_ble_eq_true rfl, Nat.le_of_ble_eq_true rfl⟩) hL (fun u_382 H locs k_383 hW hL => ?_)
              obtain ⟨iu_382, fu_382, gu_382, xu_382⟩ := k_383
              have F_384 := hFm5.trans fu_382
              have F_385 := hFL855.trans fu_382
              have F_386 := hL5_.trans fu_382
              have g_387 : FF S u_382 (fl [20, 21, 24]) := FF.trans hGm5 (FF.to gu_382 (fl_sub (by decide)))
              have g_388 : FF S u_382 (fl [20, 21, 24]) := FF.trans hGL855 (FF.to gu_382 (fl_sub (by decide)))
              have g_389 : FF ((uF S 231 24 0)) u_382 (fl [20, 21, 24]) := FF.trans gL5_ (FF.to gu_382 (fl_sub (by decide)))
              obtain ⟨xu_382, yu_382⟩ := xu_382
              refine lv_goto (tgt := 5) hx hb dX12_read_40 (by decide) ?_
              have q_390 : (-2147483648) ≤ u_382.1 231 20 ∧ u_382.1 231 20 ≤ 2147483647 := iu_382.fi 20
              have q_391 : (-2147483648) ≤ u_382.1 231 24 ∧ u_382.1 231 24 ≤ 2147483647 := iu_382.fi 24
              exact ih_5 u_382  _ _ _ (Nat.lt_of_lt_of_le (mf_lt (S := S5) (by omega) (by omega) (fun h => by have a9 := xu_382 h; omega)) (Nat.le_of_lt_succ hmeas)) iu_382 F_384 F_385 F_386 g_387 g_388 g_389 (fun h => by have e8 := (show u_382.1 231 20 = u_382.1 231 20 from rfl); have e7 := (show u_382.1 231 24 = u_382.1 231 24 from rfl); have a9 := xu_382 (by have e9 := (show u_382.1 231 20 = u_382.1 231 20 from rfl); omega); omega) (fun h => by have a9 := xu_382 h; have a8 := hH5 (by omega); exact ⟨h20, (by rw [a8.2.1, ogW678 kr_out (.inr (.inr (((wd_m (w := 4) (by decide)) K V T _).1 (by omega) (by omega) (xu_331.2.1 (by omega))))) a9.2.1]), trivial⟩) (fun _ h9 => by have a8 := hH5 (by omega); have b9 := yu_382 (by omega) h9; rw [a8.2.1, ogW_fa (st := (fun p => (kr K V T) p = 6 ∨ (kr K V T) p = 7 ∨ (kr K V T) p = 8)) (.inr (.inr (((wd_m (w := 4) (by decide)) K V T _).1 (by omega) (by omega) (xu_331.2.1 (by omega))))) b9]; rfl) hW hL (lv_sub hl [0] rfl)
  have q_392 : (-2147483648) ≤ S.1 231 20 ∧ S.1 231 20 ≤ 2147483647 := hI.fi 20
  have lk_393 : (uF S 231 24 0).1 231 20 = S.1 231 20 := uF_ne (fun h => absurd h.2 (by decide))
  have lk_394 : (uF S 231 24 0).1 231 24 = 0 := uF_on
  exact loop_5 (_ + 1) (uF S 231 24 0)  _ _ _ (Nat.lt_succ_self _) i_287 F_283 F_284 Fr.rf g_285 g_286 FF.rf (fun h => by have e8 := (show (uF S 231 24 0).1 231 20 = S.1 231 20 from uF_ne (fun h => absurd h.2 (by decide))); have e7 := (show (uF S 231 24 0).1 231 24 = 0 from uF_on); omega) (fun h => ⟨h20, rfl, trivial⟩) (fun h h9 => absurd h h9) hW hL (lv_sub hl [0] rfl)
