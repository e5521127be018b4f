def SXr (l : Launch) (G : sG) (D n : Nat) : Prop := ∀ (S : sS) (N : sN) (k v : Int → Int) (T pz q q1 ix : Int), dX G S → EHr S N k v T pz → N.1 + n ≤ 127 → q1 + 1 ≤ T - 1 → (0 ≤ ix ∧ ix + 13 + (39 * n + 26) + 12 < 1820) → k (pz + 1) = 2 → k (pz + 3) = 2 → ogU T k (ogF T k n) (pz + 5) = some q1 → q = q1 + 1 → Met l yX12_sum (.code yX12_sum cX12_sum 9 none :: tb) (rmk D 0 0) (sPc G 294 S [.ref (G.2.2.1 + 231), .int (iv ix)]) (sQv G 294 (fun u => dX G u ∧ Fr S u (pl [231, 248, 249, 250, 251, 252, 257, 258]) ∧ FF S u (fl [20, 21, 24, 25, 42, 43]) ∧ (EOr S u N k v q (eSm T k v n N (S.1 231 42) pz) ix) ∧ (0 ≤ u.1 231 24 ∧ u.1 231 24 ≤ q))) 0 0 (sF G)
theorem EOr.cg {S U u : sS} {N : sN} {k v : Int → Int} {q ix : Int} {X Y : Option sR} (h : EOr U u N k v q X ix) (e : X = Y) (l : ∀ j, j < ix → U.2.2.1 257 j = S.2.2.1 257 j) : EOr S u N k v q Y ix := ⟨fun j a => (h.1 j a).trans (l j a), e ▸ h.2⟩
theorem ogF_su {T : Int} {k : Int → Int} {n : Nat} {p q : Int} (h : ogF T k (n + 1) p = some q) (c : k p = 11) : k (p + 1) = 2 ∧ k (p + 3) = 2 := by
  have h : (if k p = 3 then some (p + 1) else if k p = 22 then ogF T k n (p + 1) else if k p = 19 then (ogU T k (ogF T k n) (p + 1)).bind (ogT k 20) else if k p = 11 then (ogT k 2 (p + 1)).bind (fun a => (ogT k 12 a).bind (fun b => (ogT k 2 b).bind (fun c => (ogT k 19 c).bind (fun d => (ogU T k (ogF T k n) d).bind (ogT k 20))))) else if k p = 2 then (if k (p + 1) = 17 then ogXs k (p + 1 + 1) else some (p + 1)) else none) = some q := h
  rw [if_neg (by omega), if_neg (by omega), if_neg (by omega), if_pos c] at h
  obtain ⟨a, h1, h⟩ := ogB h; obtain ⟨b, h2, h⟩ := ogB h; obtain ⟨d, h3, h⟩ := ogB h
  have e1 := ogT_lt h1; have e2 := ogT_lt h2; have e3 := ogT_lt h3
  have eb : b = p + 3 := by omega
  rw [eb] at e3
  exact ⟨e1.2, e3.2⟩
set_option maxRecDepth 100000 in
set_option maxHeartbeats 4000000 in
theorem e_X12_factor (l : Launch) (G : sG) (S : sS) {N : sN} {k v : Int → Int} {T pz q ix : Int} {n d1 d2 d3 D : Nat} (hI : dX G S) (hkr : Hd (KRr S k v T)) (hNr : Hd (NRr N k v S)) (hK_ : Hd (NK N)) (hTV : Hd (TVn k v)) (hf0 : S.1 231 20 = 0) (hc : S.1 231 24 = pz) (hlk : 0 ≤ S.1 231 42 ∧ S.1 231 42 ≤ 20000) (h1 : d1 < D) (h2 : d2 < D) (h3 : d3 < D) (h8 : 12 ≤ D) (hnm : N.1 + n ≤ 127) (hqb : 0 ≤ pz ∧ q ≤ T - 1) (hF : Hd (FXr l G d1 n)) (hU : Hd (EXr l G d2 n)) (hS : Hd (SXr l G d3 n)) (hix : 0 ≤ ix ∧ ix + 39 * (n + 1) + 12 < 1820) (hgf : Hd (ogF T k (n + 1) pz = some q)) : Met l yX12_factor (.code yX12_factor cX12_factor 3 none :: tb) (rmk D 0 0) (sPc G 294 S [.ref (G.2.2.1 + 231), .int (iv ix)]) (sQv G 294 (fun u => dX G u ∧ Fr S u (pl [231, 248, 249, 250, 251, 252, 257, 258]) ∧ FF S u (fl [20, 21, 24, 25, 42, 43]) ∧ (EOr S u N k v q (eF T k v (n + 1) N (S.1 231 42) pz) ix ∧ (0 ≤ u.1 231 24 ∧ u.1 231 24 ≤ q)))) 0 0 (sF G) := by
  refine sEnter (by decide) (Nat.le_of_ble_eq_true rfl) ?_
  intro p e s m args below meth c Cx hr hlk hnm hW ls hl
  have Cx : sC G p m c cX12_factor 3 s args RX12 := Cx
  obtain ⟨hx, hb, hml, hown, hts⟩ := id Cx.1
  have hL : sL G [] := sL_nil
  have hl : lv_has ls 3 [(0, .ref (G.2.2.1 + 231)), (1, .int (iv ix))] := hl
  have hW0 := hW
  obtain ⟨K, hK⟩ : ∃ z, S.2.1 244 = z := ⟨_, rfl⟩
  obtain ⟨V, hV⟩ : ∃ z, S.2.1 247 = z := ⟨_, rfl⟩
  obtain ⟨Fm, hFm⟩ : ∃ z, S.2.1 245 = z := ⟨_, rfl⟩
  obtain ⟨Wd, hWd⟩ : ∃ z, S.2.1 246 = z := ⟨_, rfl⟩
  have hkk : kr K V T = k := (by rw [← hK, ← hV]; exact hkr.1)
  have hTb := hkr.2.1
  have hN1 := hNr.1
  have htk0 := hkr.lt (t := pz) rfl (ogF_k hgf)
  have hgq8 := ogF_inc _ _ _ hgf
  refine lv_aload_n hx hb dX12_factor_0 rfl (lv_at hl 0 rfl) ?_
  have q_1 : (-2147483648) ≤ S.1 231 20 ∧ S.1 231 20 ≤ 2147483647 := hI.fi 20
  refine g_X12_270 Cx hW (k := 231) (by decide) rfl (v := S.1 231 20) rfl dX12_factor_1 ?_
  refine r_if_eq (tgt := 8) hx hb ⟨(by omega), (by omega)⟩ dX12_factor_4 (by decide) (fun _ => ?_) (fun c => absurd (by omega) c)
  refine lv_aload_n hx hb dX12_factor_8 rfl (lv_at hl 0 rfl) ?_
  refine lv_dup hx hb dX12_factor_9 rfl ?_
  have q_2 : (-2147483648) ≤ S.1 231 42 ∧ S.1 231 42 ≤ 2147483647 := hI.fi 42
  refine g_X12_376 Cx hW (k := 231) (by decide) rfl (v := S.1 231 42) rfl dX12_factor_10 ?_
  refine lv_iconst (v := iv 1) hx hb dX12_factor_13 (by decide) ?_
  refine r_iadd hx hb dX12_factor_14 ?_
  refine p_X12_376 Cx hW hL (k := 231) (by decide) rfl dX12_factor_15 (fun H locs hW hL => ?_)
  have F_3 : Fr S (uF S 231 42 ((S.1 231 42) + 1)) (pl [231, 248, 249, 250, 251, 252, 257, 258]) := (Fr.rf : Fr S S (pl [231, 248, 249, 250, 251, 252, 257, 258])).F rfl
  have g_4 : FF S (uF S 231 42 ((S.1 231 42) + 1)) (fl [20, 21, 24, 25, 42, 43]) := FF.F FF.rf rfl
  have i_5 : dX G (uF S 231 42 ((S.1 231 42) + 1)) := hI.F (i := 42) (show (-2147483648) ≤ (S.1 231 42) + 1 ∧ (S.1 231 42) + 1 ≤ 2147483647 from ⟨by omega, by omega⟩)
  refine lv_aload_n hx hb dX12_factor_18 rfl (lv_at hl 0 rfl) ?_
  refine g_X12_376 Cx hW (k := 231) (by decide) rfl (v := (S.1 231 42) + 1) uF_on dX12_factor_19 ?_
  refine lv_sipush (v := iv 20000) hx hb dX12_factor_22 (by decide) ?_
  refine r_icmp_le (tgt := 39) hx hb ⟨(by omega), (by omega)⟩ ⟨(by omega), (by omega)⟩ dX12_factor_25 (by decide) (fun c_6 => ?_) (fun c_6 => ?_)
  · refine lv_aload_n hx hb dX12_factor_39 rfl (lv_at hl 0 rfl) ?_
    refine lv_bipush (v := iv 45) hx hb dX12_factor_40 (by decide) ?_
    have q_7 : (-2147483648) ≤ S.1 231 24 ∧ S.1 231 24 ≤ 2147483647 := hI.fi 24
    have lk_8 : (uF S 231 42 ((S.1 231 42) + 1)).1 231 24 = S.1 231 24 := uF_ne (fun h => absurd h.2 (by decide))
    refine sBi (sV (As := [.int (iv 45)]) (rest := []) (k := 231) Cx (s_X12_isSign l G (uF S 231 42 ((S.1 231 42) + 1)) (sv := 45) (K := K) (V := V) (pz := pz) i_5 (by omega) ((funext fun j => uF_a : (uF S 231 42 ((S.1 231 42) + 1)).2.1 244 = S.2.1 244).trans hK) ((funext fun j => uF_a : (uF S 231 42 ((S.1 231 42) + 1)).2.1 247 = S.2.1 247).trans hV) (by omega) (by omega)) (c_X12_318 Cx rfl rfl (rmk_ok (by omega) (by decide))) hW (by decide) rfl rfl rfl hl.1 rfl (Nat.le_of_ble_eq_true rfl) dX12_factor_42 ⟨Nat.le_of_ble_eq_true rfl, Nat.le_of_ble_eq_true rfl⟩) hL (fun r_11 u_9 H locs k_10 hW hL => ?_)
    obtain ⟨eu_9, xu_9⟩ := k_10
    rw [eu_9] at hW
    have tu_9a : Hd (r_11 = 1 → k (pz) = 22) := (fun h => by rw [← hkk]; exact (osg_45 K V T _).1 (by omega) (by omega) (xu_9.2.1 h))
    have tu_9b : Hd (r_11 ≠ 1 → k (pz) ≠ 22) := (fun h z => xu_9.2.2 h ((osg_45 K V T _).2 (by rw [hkk]; exact z)))
    refine r_if_eq (tgt := 97) hx hb ⟨(by omega), (by omega)⟩ dX12_factor_45 (by decide) (fun c_12 => ?_) (fun c_12 => ?_)
    · have k22 : k pz ≠ 22 := tu_9b (by omega)
      refine lv_aload_n hx hb dX12_factor_97 rfl (lv_at hl 0 rfl) ?_
      refine g_X12_47 Cx hW (k := 231) (by decide) rfl (v := .ref (G.2.2.1 + 244)) (rd_15 i_5) dX12_factor_98 ?_
      refine lv_aload_n hx hb dX12_factor_101 rfl (lv_at hl 0 rfl) ?_
      refine g_X12_315 Cx hW (k := 231) (by decide) rfl (v := S.1 231 24) (uF_ne (fun h => absurd h.2 (by decide))) dX12_factor_102 ?_
      refine rIald Cx hW (k := 244) (by decide) rfl (by decide) (by omega) (by omega) dX12_factor_105 ?_
      have q_13 : (-2147483648) ≤ S.2.1 244 (S.1 231 24) ∧ S.2.1 244 (S.1 231 24) ≤ 2147483647 := hI.ai 244 (S.1 231 24)
      refine r_i (b := S.2.1 244 (S.1 231 24)) uF_a ?_
      have hr1 : K pz = S.2.1 244 (S.1 231 24) := by rw [← hK, ← hc]
      refine lv_iconst (v := iv 2) hx hb dX12_factor_106 (by decide) ?_
      refine r_icmp_ne (tgt := 138) hx hb ⟨(by omega), (by omega)⟩ ⟨(by omega), (by omega)⟩ dX12_factor_107 (by decide) (fun c_14 => ?_) (fun c_14 => ?_)
      · have k33 : k pz ≠ 3 := (fun z => absurd ((kn_2 K V T pz).2 (by rw [hkk]; exact z)) (by omega))
        refine lv_aload_n hx hb dX12_factor_138 rfl (lv_at hl 0 rfl) ?_
        refine lv_bipush (v := iv 40) hx hb dX12_factor_139 (by decide) ?_
        refine sBi (sV (As := [.int (iv 40)]) (rest := []) (k := 231) Cx (s_X12_isSign l G (uF S 231 42 ((S.1 231 42) + 1)) (sv := 40) (K := K) (V := V) (pz := pz) i_5 (by omega) ((funext fun j => uF_a : (uF S 231 42 ((S.1 231 42) + 1)).2.1 244 = S.2.1 244).trans hK) ((funext fun j => uF_a : (uF S 231 42 ((S.1 231 42) + 1)).2.1 247 = S.2.1 247).trans hV) (by omega) (by omega)) (c_X12_318 Cx rfl rfl (rmk_ok (by omega) (by decide))) hW (by decide) rfl rfl rfl hl.1 rfl (Nat.le_of_ble_eq_true rfl) dX12_factor_141 ⟨Nat.le_of_ble_eq_true rfl, Nat.le_of_ble_eq_true rfl⟩) hL (fun r_17 u_15 H locs k_16 hW hL => ?_)
        obtain ⟨eu_15, xu_15⟩ := k_16
        rw [eu_15] at hW
        have tu_15a : Hd (r_17 = 1 → k (pz) = 19) := (fun h => by rw [← hkk]; exact (osg_40 K V T _).1 (by omega) (by omega) (xu_15.2.1 h))
        have tu_15b : Hd (r_17 ≠ 1 → k (pz) ≠ 19) := (fun h z => xu_15.2.2 h ((osg_40 K V T _).2 (by rw [hkk]; exact z)))
        refine r_if_eq (tgt := 175) hx hb ⟨(by omega), (by omega)⟩ dX12_factor_144 (by decide) (fun c_18 => ?_) (fun c_18 => ?_)
        · have k19 : k pz ≠ 19 := tu_15b (by omega)
          refine lv_aload_n hx hb dX12_factor_175 rfl (lv_at hl 0 rfl) ?_
          refine lv_bipush (v := iv 7) hx hb dX12_factor_176 (by decide) ?_
          refine sBi (sV (As := [.int (iv 7)]) (rest := []) (k := 231) Cx (s_X12_isWord l G (uF S 231 42 ((S.1 231 42) + 1)) (sv := 7) (K := K) (V := V) (pz := pz) i_5 (by omega) ((funext fun j => uF_a : (uF S 231 42 ((S.1 231 42) + 1)).2.1 244 = S.2.1 244).trans hK) ((funext fun j => uF_a : (uF S 231 42 ((S.1 231 42) + 1)).2.1 247 = S.2.1 247).trans hV) (by omega) (by omega)) (c_X12_325 Cx rfl rfl (rmk_ok (by omega) (by decide))) hW (by decide) rfl rfl rfl hl.1 rfl (Nat.le_of_ble_eq_true rfl) dX12_factor_178 ⟨Nat.le_of_ble_eq_true rfl, Nat.le_of_ble_eq_true rfl⟩) hL (fun r_21 u_19 H locs k_20 hW hL => ?_)
          obtain ⟨eu_19, xu_19⟩ := k_20
          rw [eu_19] at hW
          have tu_19a : Hd (r_21 = 1 → k pz = 11) := (fun h => by rw [← hkk]; exact ((wd_m (w := 7) (by decide)) K V T _).1 (by omega) (by omega) (xu_19.2.1 h))
          have tu_19b : Hd (r_21 ≠ 1 → k pz ≠ 11) := (fun h z => xu_19.2.2 h (((wd_m (w := 7) (by decide)) K V T _).2 (by rw [hkk]; exact z)))
          refine r_if_eq (tgt := 192) hx hb ⟨(by omega), (by omega)⟩ dX12_factor_181 (by decide) (fun c_22 => ?_) (fun c_22 => ?_)
          · have k11 : k pz ≠ 11 := tu_19b (by omega)
            have kc : k pz = 2 := (by rcases ogF_i hgf with g | g | g | g | g; (exact absurd g.1 k33); (exact absurd g.1 k22); (exact absurd g.1 k19); (exact absurd g.1 k11); (exact g.1))
            have hgx : Hd ((k (pz + 1) = 17 ∧ ogXs k (pz + 1 + 1) = some q) ∨ (k (pz + 1) ≠ 17 ∧ q = pz + 1)) := (by rcases ogF_i hgf with g | g | g | g | g; (exfalso; have g1 := g.1; omega); (exfalso; have g1 := g.1; omega); (exfalso; have g1 := g.1; omega); (exfalso; have g1 := g.1; omega); (exact g.2))
            have hgq9 := ogF_inc _ _ _ hgf
            refine lv_aload_n hx hb dX12_factor_192 rfl (lv_at hl 0 rfl) ?_
            refine lv_iload_n hx hb dX12_factor_193 rfl (lv_at hl 1 rfl) ?_
            have lk_23 : (uF S 231 42 ((S.1 231 42) + 1)).1 231 20 = S.1 231 20 := uF_ne (fun h => absurd h.2 (by decide))
            have lk_24 : (uF S 231 42 ((S.1 231 42) + 1)).1 231 42 = (S.1 231 42) + 1 := uF_on
            have kr_25 : KRr (uF S 231 42 ((S.1 231 42) + 1)) k v T := hkr.of (funext fun j => uF_a) (funext fun j => uF_a) (funext fun j => uF_a) (funext fun j => uF_a) (funext fun j => uF_a)
            have nr_26 : NRr N k v (uF S 231 42 ((S.1 231 42) + 1)) := hNr.of (uF_ne (fun h => absurd h.2 (by decide))) (funext fun j => uF_a) (funext fun j => uF_a) (funext fun j => uF_a) (funext fun j => uF_a) (funext fun j => uF_a) (funext fun j => uF_a)
            refine sBv (sV (As := [.int (iv ix)]) (rest := []) (k := 231) Cx (e_X12_named l G (uF S 231 42 ((S.1 231 42) + 1)) (ix := ix) (N := N) (k := k) (v := v) (T := T) (pz := pz) (q := q) i_5 kr_25 nr_26 hK_ hTV (by omega) (by omega) kc hgx (by omega) (by omega) (by omega)) (c_X12_438 Cx rfl rfl (rmk_ok (by omega) (by decide))) hW (by decide) rfl rfl rfl hl.1 rfl (Nat.le_of_ble_eq_true rfl) dX12_factor_194 ⟨Nat.le_of_ble_eq_true rfl, Nat.le_of_ble_eq_true rfl⟩) hL (fun u_27 H locs k_28 hW hL => ?_)
            obtain ⟨iu_27, fu_27, gu_27, xu_27⟩ := k_28
            obtain ⟨xu_27, yu_27⟩ := xu_27
            have F_29 := F_3.trans (fu_27.to (pl_sub (by decide)))
            have g_30 : FF S u_27 (fl [20, 21, 24, 25, 42, 43]) := FF.trans g_4 (FF.to gu_27 (fl_sub (by decide)))
            have q_31 : (-2147483648) ≤ u_27.1 231 24 ∧ u_27.1 231 24 ≤ 2147483647 := iu_27.fi 24
            have q_32 : (-2147483648) ≤ u_27.1 231 20 ∧ u_27.1 231 20 ≤ 2147483647 := iu_27.fi 20
            have lk_33 : u_27.1 231 42 = (S.1 231 42) + 1 := (gu_27 42 rfl).trans (uF_on)
            exact sVret Cx hr hlk hW hL ⟨iu_27, F_29, g_30, ⟨(xu_27.cg (by rw [show (uF S 231 42 ((S.1 231 42) + 1)).1 231 42 = S.1 231 42 + 1 by omega]; exact (eF_nam (by omega) kc).symm) (fun j a => rfl)), (by have e7c := (show u_27.1 231 24 = u_27.1 231 24 from rfl); omega)⟩⟩ dX12_factor_197
          · have kc : k pz = 11 := tu_19a (by omega)
            obtain ⟨q1, hgx, hq20, hqq⟩ := (show ∃ q1, ogU T k (ogF T k n) (pz + 5) = some q1 ∧ k q1 = 20 ∧ q = q1 + 1 from (by rcases ogF_i hgf with g | g | g | g | g; (exfalso; have g1 := g.1; omega); (exfalso; have g1 := g.1; omega); (exfalso; have g1 := g.1; omega); (exact g.2); (exfalso; have g1 := g.1; omega)))
            have hsu := ogF_su hgf kc
            refine lv_aload_n hx hb dX12_factor_184 rfl (lv_at hl 0 rfl) ?_
            refine lv_iload_n hx hb dX12_factor_185 rfl (lv_at hl 1 rfl) ?_
            have lk_34 : (uF S 231 42 ((S.1 231 42) + 1)).1 231 20 = S.1 231 20 := uF_ne (fun h => absurd h.2 (by decide))
            have lk_35 : (uF S 231 42 ((S.1 231 42) + 1)).1 231 42 = (S.1 231 42) + 1 := uF_on
            have nr_36 : NRr N k v (uF S 231 42 ((S.1 231 42) + 1)) := hNr.of (uF_ne (fun h => absurd h.2 (by decide))) (funext fun j => uF_a) (funext fun j => uF_a) (funext fun j => uF_a) (funext fun j => uF_a) (funext fun j => uF_a) (funext fun j => uF_a)
            have kr_37 : KRr (uF S 231 42 ((S.1 231 42) + 1)) k v T := hkr.of (funext fun j => uF_a) (funext fun j => uF_a) (funext fun j => uF_a) (funext fun j => uF_a) (funext fun j => uF_a)
            refine sBv (sV (As := [.int (iv ix)]) (rest := []) (k := 231) Cx (hS (uF S 231 42 ((S.1 231 42) + 1)) N k v T pz q q1 ix i_5 ⟨nr_36, hK_, hTV, kr_37, (by omega), (by omega), (by omega), ⟨by omega, by omega⟩⟩ (by omega) (by omega) (by omega) hsu.1 hsu.2 hgx hqq) (c_X12_435 Cx rfl rfl (rmk_ok (by omega) (by decide))) hW (by decide) rfl rfl rfl hl.1 rfl (Nat.le_of_ble_eq_true rfl) dX12_factor_186 ⟨Nat.le_of_ble_eq_true rfl, Nat.le_of_ble_eq_true rfl⟩) hL (fun u_38 H locs k_39 hW hL => ?_)
            obtain ⟨iu_38, fu_38, gu_38, xu_38, yu_38⟩ := k_39
            have F_40 := F_3.trans fu_38
            have g_41 : FF S u_38 (fl [20, 21, 24, 25, 42, 43]) := FF.trans g_4 (FF.to gu_38 (fl_sub (by decide)))
            refine lv_goto (tgt := 197) hx hb dX12_factor_189 (by decide) ?_
            have q_42 : (-2147483648) ≤ u_38.1 231 24 ∧ u_38.1 231 24 ≤ 2147483647 := iu_38.fi 24
            have q_43 : (-2147483648) ≤ u_38.1 231 20 ∧ u_38.1 231 20 ≤ 2147483647 := iu_38.fi 20
            have q_44 : (-2147483648) ≤ u_38.1 231 42 ∧ u_38.1 231 42 ≤ 2147483647 := iu_38.fi 42
            exact sVret Cx hr hlk hW hL ⟨iu_38, F_40, g_41, ⟨(xu_38.cg (by rw [show (uF S 231 42 ((S.1 231 42) + 1)).1 231 42 = S.1 231 42 + 1 by omega]; exact (eF_sum (by omega) kc).symm) (fun j a => rfl)), (by have e7c := (show u_38.1 231 24 = u_38.1 231 24 from rfl); omega)⟩⟩ dX12_factor_197
        · have kc : k pz = 19 := tu_15a (by omega)
          obtain ⟨q1, hgx, hq20, hqq⟩ := (show ∃ q1, ogU T k (ogF T k n) (pz + 1) = some q1 ∧ k q1 = 20 ∧ q = q1 + 1 from (by rcases ogF_i hgf with g | g | g | g | g; (exfalso; have g1 := g.1; omega); (exfalso; have g1 := g.1; omega); (exact g.2); (exfalso; have g1 := g.1; omega); (exfalso; have g1 := g.1; omega)))
          refine lv_aload_n hx hb dX12_factor_147 rfl (lv_at hl 0 rfl) ?_
          refine lv_dup hx hb dX12_factor_148 rfl ?_
          refine g_X12_315 Cx hW (k := 231) (by decide) rfl (v := S.1 231 24) (uF_ne (fun h => absurd h.2 (by decide))) dX12_factor_149 ?_
          refine lv_iconst (v := iv 1) hx hb dX12_factor_152 (by decide) ?_
          refine r_iadd hx hb dX12_factor_153 ?_
          refine p_X12_315 Cx hW hL (k := 231) (by decide) rfl dX12_factor_154 (fun H locs hW hL => ?_)
          have F_45 : Fr S (uF (uF S 231 42 ((S.1 231 42) + 1)) 231 24 ((S.1 231 24) + 1)) (pl [231, 248, 249, 250, 251, 252, 257, 258]) := F_3.F rfl
          have g_46 : FF S (uF (uF S 231 42 ((S.1 231 42) + 1)) 231 24 ((S.1 231 24) + 1)) (fl [20, 21, 24, 25, 42, 43]) := FF.F g_4 rfl
          have i_47 : dX G (uF (uF S 231 42 ((S.1 231 42) + 1)) 231 24 ((S.1 231 24) + 1)) := i_5.F (i := 24) (show (-2147483648) ≤ (S.1 231 24) + 1 ∧ (S.1 231 24) + 1 ≤ 2147483647 from ⟨by omega, by omega⟩)
          refine lv_aload_n hx hb dX12_factor_157 rfl (lv_at hl 0 rfl) ?_
          refine lv_iload_n hx hb dX12_factor_158 rfl (lv_at hl 1 rfl) ?_
          have lk_48 : (uF (uF S 231 42 ((S.1 231 42) + 1)) 231 24 ((S.1 231 24) + 1)).1 231 20 = S.1 231 20 := (uF_ne (fun h => absurd h.2 (by decide))).trans (uF_ne (fun h => absurd h.2 (by decide)))
          have lk_49 : (uF (uF S 231 42 ((S.1 231 42) + 1)) 231 24 ((S.1 231 24) + 1)).1 231 24 = (S.1 231 24) + 1 := uF_on
          have lk_50 : (uF (uF S 231 42 ((S.1 231 42) + 1)) 231 24 ((S.1 231 24) + 1)).1 231 42 = (S.1 231 42) + 1 := (uF_ne (fun h => absurd h.2 (by decide))).trans (uF_on)
          have nr_51 : NRr N k v (uF (uF S 231 42 ((S.1 231 42) + 1)) 231 24 ((S.1 231 24) + 1)) := hNr.of ((uF_ne (fun h => absurd h.2 (by decide))).trans (uF_ne (fun h => absurd h.2 (by decide)))) (funext fun j => (uF_a).trans (uF_a)) (funext fun j => (uF_a).trans (uF_a)) (funext fun j => (uF_a).trans (uF_a)) (funext fun j => (uF_a).trans (uF_a)) (funext fun j => (uF_a).trans (uF_a)) (funext fun j => (uF_a).trans (uF_a))
          have kr_52 : KRr (uF (uF S 231 42 ((S.1 231 42) + 1)) 231 24 ((S.1 231 24) + 1)) k v T := hkr.of (funext fun j => (uF_a).trans (uF_a)) (funext fun j => (uF_a).trans (uF_a)) (funext fun j => (uF_a).trans (uF_a)) (funext fun j => (uF_a).trans (uF_a)) (funext fun j => (uF_a).trans (uF_a))
          refine sBv (sV (As := [.int (iv ix)]) (rest := []) (k := 231) Cx (hU (uF (uF S 231 42 ((S.1 231 42) + 1)) 231 24 ((S.1 231 24) + 1)) N k v T (pz + 1) q1 ix i_47 ⟨nr_51, hK_, hTV, kr_52, (by omega), (by omega), (by omega), ⟨by omega, by omega⟩⟩ (by omega) (by omega) (by omega) hgx) (c_X12_398 Cx rfl rfl (rmk_ok (by omega) (by decide))) hW (by decide) rfl rfl rfl hl.1 rfl (Nat.le_of_ble_eq_true rfl) dX12_factor_159 ⟨Nat.le_of_ble_eq_true rfl, Nat.le_of_ble_eq_true rfl⟩) hL (fun u_53 H locs k_54 hW hL => ?_)
          obtain ⟨iu_53, fu_53, gu_53, xu_53, yu_53⟩ := k_54
          have F_55 := F_45.trans fu_53
          have g_56 : FF S u_53 (fl [20, 21, 24, 25, 42, 43]) := FF.trans g_46 (FF.to gu_53 (fl_sub (by decide)))
          by_cases hfz : u_53.1 231 20 = 0
          · have hcz : u_53.1 231 24 = q1 := (by obtain ⟨V1, e1, w1, b1, l1, c1_, n1⟩ := xu_53.2.1 hfz; exact c1_)
            refine lv_aload_n hx hb dX12_factor_162 rfl (lv_at hl 0 rfl) ?_
            refine lv_dup hx hb dX12_factor_163 rfl ?_
            have q_57 : (-2147483648) ≤ u_53.1 231 24 ∧ u_53.1 231 24 ≤ 2147483647 := iu_53.fi 24
            refine g_X12_315 Cx hW (k := 231) (by decide) rfl (v := u_53.1 231 24) rfl dX12_factor_164 ?_
            refine lv_iconst (v := iv 1) hx hb dX12_factor_167 (by decide) ?_
            refine r_iadd hx hb dX12_factor_168 ?_
            refine p_X12_315 Cx hW hL (k := 231) (by decide) rfl dX12_factor_169 (fun H locs hW hL => ?_)
            have F_58 : Fr S (uF u_53 231 24 ((u_53.1 231 24) + 1)) (pl [231, 248, 249, 250, 251, 252, 257, 258]) := F_55.F rfl
            have g_59 : FF S (uF u_53 231 24 ((u_53.1 231 24) + 1)) (fl [20, 21, 24, 25, 42, 43]) := FF.F g_56 rfl
            have i_60 : dX G (uF u_53 231 24 ((u_53.1 231 24) + 1)) := iu_53.F (i := 24) (show (-2147483648) ≤ (u_53.1 231 24) + 1 ∧ (u_53.1 231 24) + 1 ≤ 2147483647 from ⟨by omega, by omega⟩)
            refine lv_goto (tgt := 197) hx hb dX12_factor_172 (by decide) ?_
            have lk_61 : (uF u_53 231 24 ((u_53.1 231 24) + 1)).1 231 24 = (u_53.1 231 24) + 1 := uF_on
            have q_62 : (-2147483648) ≤ u_53.1 231 20 ∧ u_53.1 231 20 ≤ 2147483647 := iu_53.fi 20
            have lk_63 : (uF u_53 231 24 ((u_53.1 231 24) + 1)).1 231 20 = u_53.1 231 20 := uF_ne (fun h => absurd h.2 (by decide))
            have q_64 : (-2147483648) ≤ u_53.1 231 42 ∧ u_53.1 231 42 ≤ 2147483647 := iu_53.fi 42
            have lk_65 : (uF u_53 231 24 ((u_53.1 231 24) + 1)).1 231 42 = u_53.1 231 42 := uF_ne (fun h => absurd h.2 (by decide))
            exact sVret Cx hr hlk hW hL ⟨i_60, F_58, g_59, ⟨⟨(fun j a => xu_53.1 j a), (fun h => by obtain ⟨V1, e1, w1, b1, l1, c1_, n1⟩ := xu_53.2.1 (by have e9 := (show (uF u_53 231 24 ((u_53.1 231 24) + 1)).1 231 20 = u_53.1 231 20 from uF_ne (fun h => absurd h.2 (by decide))); omega); rw [show (uF (uF S 231 42 ((S.1 231 42) + 1)) 231 24 ((S.1 231 24) + 1)).1 231 42 = S.1 231 42 + 1 by omega] at e1; exact ⟨V1, (by rw [eF_in (by omega) kc, e1, show (uF u_53 231 24 ((u_53.1 231 24) + 1)).1 231 42 = u_53.1 231 42 from (show (uF u_53 231 24 ((u_53.1 231 24) + 1)).1 231 42 = u_53.1 231 42 from uF_ne (fun h => absurd h.2 (by decide))), hqq]; rfl), w1, b1, (by rw [show (uF u_53 231 24 ((u_53.1 231 24) + 1)).1 231 42 = u_53.1 231 42 from (show (uF u_53 231 24 ((u_53.1 231 24) + 1)).1 231 42 = u_53.1 231 42 from uF_ne (fun h => absurd h.2 (by decide)))]; exact l1), (by have e7 := (show (uF u_53 231 24 ((u_53.1 231 24) + 1)).1 231 24 = (u_53.1 231 24) + 1 from uF_on); omega), (n1.of (uF_ne (fun h => absurd h.2 (by decide))) (funext fun j => uF_a) (funext fun j => uF_a) (funext fun j => uF_a) (funext fun j => uF_a) (funext fun j => uF_a) (funext fun j => uF_a))⟩), (fun h => by have q9 := xu_53.2.2 (by have e9 := (show (uF u_53 231 24 ((u_53.1 231 24) + 1)).1 231 20 = u_53.1 231 20 from uF_ne (fun h => absurd h.2 (by decide))); omega); rw [show (uF (uF S 231 42 ((S.1 231 42) + 1)) 231 24 ((S.1 231 24) + 1)).1 231 42 = S.1 231 42 + 1 by omega] at q9; rw [eF_in (by omega) kc, q9]; rfl)⟩, (by have e7c := (show (uF u_53 231 24 ((u_53.1 231 24) + 1)).1 231 24 = (u_53.1 231 24) + 1 from uF_on); omega)⟩⟩ dX12_factor_197
          · have hcz := hfz
            refine lv_aload_n hx hb dX12_factor_162 rfl (lv_at hl 0 rfl) ?_
            refine lv_dup hx hb dX12_factor_163 rfl ?_
            have q_66 : (-2147483648) ≤ u_53.1 231 24 ∧ u_53.1 231 24 ≤ 2147483647 := iu_53.fi 24
            refine g_X12_315 Cx hW (k := 231) (by decide) rfl (v := u_53.1 231 24) rfl dX12_factor_164 ?_
            refine lv_iconst (v := iv 1) hx hb dX12_factor_167 (by decide) ?_
            refine r_iadd hx hb dX12_factor_168 ?_
            refine p_X12_315 Cx hW hL (k := 231) (by decide) rfl dX12_factor_169 (fun H locs hW hL => ?_)
            have F_67 : Fr S (uF u_53 231 24 ((u_53.1 231 24) + 1)) (pl [231, 248, 249, 250, 251, 252, 257, 258]) := F_55.F rfl
            have g_68 : FF S (uF u_53 231 24 ((u_53.1 231 24) + 1)) (fl [20, 21, 24, 25, 42, 43]) := FF.F g_56 rfl
            have i_69 : dX G (uF u_53 231 24 ((u_53.1 231 24) + 1)) := iu_53.F (i := 24) (show (-2147483648) ≤ (u_53.1 231 24) + 1 ∧ (u_53.1 231 24) + 1 ≤ 2147483647 from ⟨by omega, by omega⟩)
            refine lv_goto (tgt := 197) hx hb dX12_factor_172 (by decide) ?_
            have lk_70 : (uF u_53 231 24 ((u_53.1 231 24) + 1)).1 231 24 = (u_53.1 231 24) + 1 := uF_on
            have q_71 : (-2147483648) ≤ u_53.1 231 20 ∧ u_53.1 231 20 ≤ 2147483647 := iu_53.fi 20
            have lk_72 : (uF u_53 231 24 ((u_53.1 231 24) + 1)).1 231 20 = u_53.1 231 20 := uF_ne (fun h => absurd h.2 (by decide))
            have q_73 : (-2147483648) ≤ u_53.1 231 42 ∧ u_53.1 231 42 ≤ 2147483647 := iu_53.fi 42
            have lk_74 : (uF u_53 231 24 ((u_53.1 231 24) + 1)).1 231 42 = u_53.1 231 42 := uF_ne (fun h => absurd h.2 (by decide))
            exact sVret Cx hr hlk hW hL ⟨i_69, F_67, g_68, ⟨⟨(fun j a => xu_53.1 j a), (fun h => absurd h (by have e9 := (show (uF u_53 231 24 ((u_53.1 231 24) + 1)).1 231 20 = u_53.1 231 20 from uF_ne (fun h => absurd h.2 (by decide))); omega)), (fun h => by have q9 := xu_53.2.2 hfz; rw [show (uF (uF S 231 42 ((S.1 231 42) + 1)) 231 24 ((S.1 231 24) + 1)).1 231 42 = S.1 231 42 + 1 by omega] at q9; rw [eF_in (by omega) kc, q9]; rfl)⟩, (by have e7c := (show (uF u_53 231 24 ((u_53.1 231 24) + 1)).1 231 24 = (u_53.1 231 24) + 1 from uF_on); omega)⟩⟩ dX12_factor_197
      · have kc : k pz = 3 := (by rw [← hkk]; exact (kn_2 K V T _).1 (by omega) (by omega) (by omega))
        have hq9 : q = pz + 1 := (by rcases ogF_i hgf with g | g | g | g | g; (exact g.2); (exfalso; have g1 := g.1; omega); (exfalso; have g1 := g.1; omega); (exfalso; have g1 := g.1; omega); (exfalso; have g1 := g.1; omega))
        have nv9 := hTV _ kc; have nw9 := hkr.2.2.2.1 _ kc
        refine lv_aload_n hx hb dX12_factor_110 rfl (lv_at hl 0 rfl) ?_
        refine lv_iload_n hx hb dX12_factor_111 rfl (lv_at hl 1 rfl) ?_
        refine lv_aload_n hx hb dX12_factor_112 rfl (lv_at hl 0 rfl) ?_
        refine g_X12_56 Cx hW (k := 231) (by decide) rfl (v := .ref (G.2.2.1 + 247)) (rd_18 i_5) dX12_factor_113 ?_
        refine lv_aload_n hx hb dX12_factor_116 rfl (lv_at hl 0 rfl) ?_
        refine g_X12_315 Cx hW (k := 231) (by decide) rfl (v := S.1 231 24) (uF_ne (fun h => absurd h.2 (by decide))) dX12_factor_117 ?_
        refine rIald Cx hW (k := 247) (by decide) rfl (by decide) (by omega) (by omega) dX12_factor_120 ?_
        have q_75 : (-2147483648) ≤ S.2.1 247 (S.1 231 24) ∧ S.2.1 247 (S.1 231 24) ≤ 2147483647 := hI.ai 247 (S.1 231 24)
        refine r_i (b := S.2.1 247 (S.1 231 24)) uF_a ?_
        have nx9 : S.2.1 247 (S.1 231 24) = v pz := (by rw [nw9]; exact congrArg (S.2.1 247) (by omega))
        refine r_i2l hx hb ⟨(by omega), (by omega)⟩ dX12_factor_121 ?_
        refine sBv (sV (As := [.int (iv ix), .long (jv (S.2.1 247 (S.1 231 24)))]) (rest := []) (k := 231) Cx (e_X12_constant l G (uF S 231 42 ((S.1 231 42) + 1)) (ix := ix) (cv := S.2.1 247 (S.1 231 24)) i_5 (by omega) (by omega)) (c_X12_431 Cx rfl rfl (rmk_ok (by omega) (by decide))) hW (by decide) rfl rfl rfl hl.1 rfl (Nat.le_of_ble_eq_true rfl) dX12_factor_122 ⟨Nat.le_of_ble_eq_true rfl, Nat.le_of_ble_eq_true rfl⟩) hL (fun u_76 H locs k_77 hW hL => ?_)
        obtain ⟨iu_76, fu_76, gu_76, xu_76⟩ := k_77
        have F_78 := F_3.trans (fu_76.to (pl_sub (by decide)))
        have g_79 : FF S u_76 (fl [20, 21, 24, 25, 42, 43]) := FF.trans g_4 (FF.to gu_76 (fl_sub (by decide)))
        refine lv_aload_n hx hb dX12_factor_125 rfl (lv_at hl 0 rfl) ?_
        refine lv_dup hx hb dX12_factor_126 rfl ?_
        refine g_X12_315 Cx hW (k := 231) (by decide) rfl (v := S.1 231 24) ((gu_76 24 rfl).trans (uF_ne (fun h => absurd h.2 (by decide)))) dX12_factor_127 ?_
        refine lv_iconst (v := iv 1) hx hb dX12_factor_130 (by decide) ?_
        refine r_iadd hx hb dX12_factor_131 ?_
        refine p_X12_315 Cx hW hL (k := 231) (by decide) rfl dX12_factor_132 (fun H locs hW hL => ?_)
        have F_80 : Fr S (uF u_76 231 24 ((S.1 231 24) + 1)) (pl [231, 248, 249, 250, 251, 252, 257, 258]) := F_78.F rfl
        have g_81 : FF S (uF u_76 231 24 ((S.1 231 24) + 1)) (fl [20, 21, 24, 25, 42, 43]) := FF.F g_79 rfl
        have i_82 : dX G (uF u_76 231 24 ((S.1 231 24) + 1)) := iu_76.F (i := 24) (show (-2147483648) ≤ (S.1 231 24) + 1 ∧ (S.1 231 24) + 1 ≤ 2147483647 from ⟨by omega, by omega⟩)
        refine lv_goto (tgt := 197) hx hb dX12_factor_135 (by decide) ?_
        have lk_83 : (uF u_76 231 24 ((S.1 231 24) + 1)).1 231 24 = (S.1 231 24) + 1 := uF_on
        have lk_84 : (uF u_76 231 24 ((S.1 231 24) + 1)).1 231 20 = S.1 231 20 := (uF_ne (fun h => absurd h.2 (by decide))).trans ((gu_76 20 rfl).trans (uF_ne (fun h => absurd h.2 (by decide))))
        have lk_85 : (uF u_76 231 24 ((S.1 231 24) + 1)).1 231 42 = (S.1 231 42) + 1 := (uF_ne (fun h => absurd h.2 (by decide))).trans ((gu_76 42 rfl).trans (uF_on))
        have nr_86 : NRr N k v (uF u_76 231 24 ((S.1 231 24) + 1)) := hNr.of ((uF_ne (fun h => absurd h.2 (by decide))).trans ((gu_76 25 rfl).trans (uF_ne (fun h => absurd h.2 (by decide))))) (funext fun j => (uF_a).trans (((fu_76 248 rfl).2.1 j).trans (uF_a))) (funext fun j => (uF_a).trans (((fu_76 249 rfl).2.1 j).trans (uF_a))) (funext fun j => (uF_a).trans (((fu_76 250 rfl).2.1 j).trans (uF_a))) (funext fun j => (uF_a).trans (((fu_76 251 rfl).2.1 j).trans (uF_a))) (funext fun j => (uF_a).trans (((fu_76 252 rfl).2.1 j).trans (uF_a))) (funext fun j => (uF_a).trans (((fu_76 253 rfl).2.1 j).trans (uF_a)))
        exact sVret Cx hr hlk hW hL ⟨i_82, F_80, g_81, ⟨⟨(fun j a => xu_76.2 j a), (fun _ => ⟨cst (S.2.1 247 (S.1 231 24)), (by rw [show (uF u_76 231 24 ((S.1 231 24) + 1)).1 231 42 = S.1 231 42 + 1 by omega, eF_num (by omega) kc, hq9, nx9]), xu_76.1, vb9_cst (by omega), ⟨by omega, by omega⟩, (by have e7 := (show (uF u_76 231 24 ((S.1 231 24) + 1)).1 231 24 = (S.1 231 24) + 1 from uF_on); omega), nr_86⟩), (fun h => absurd (show (uF u_76 231 24 ((S.1 231 24) + 1)).1 231 20 = 0 by have e9 := (show (uF u_76 231 24 ((S.1 231 24) + 1)).1 231 20 = S.1 231 20 from (uF_ne (fun h => absurd h.2 (by decide))).trans ((gu_76 20 rfl).trans (uF_ne (fun h => absurd h.2 (by decide))))); omega) h)⟩, (by have e7c := (show (uF u_76 231 24 ((S.1 231 24) + 1)).1 231 24 = (S.1 231 24) + 1 from uF_on); omega)⟩⟩ dX12_factor_197
    · have kc : k pz = 22 := tu_9a (by omega)
      have hgx : ogF T k n (pz + 1) = some q := (by rcases ogF_i hgf with g | g | g | g | g; (exfalso; have g1 := g.1; omega); (exact g.2); (exfalso; have g1 := g.1; omega); (exfalso; have g1 := g.1; omega); (exfalso; have g1 := g.1; omega))
      refine lv_aload_n hx hb dX12_factor_48 rfl (lv_at hl 0 rfl) ?_
      refine lv_dup hx hb dX12_factor_49 rfl ?_
      refine g_X12_315 Cx hW (k := 231) (by decide) rfl (v := S.1 231 24) (uF_ne (fun h => absurd h.2 (by decide))) dX12_factor_50 ?_
      refine lv_iconst (v := iv 1) hx hb dX12_factor_53 (by decide) ?_
      refine r_iadd hx hb dX12_factor_54 ?_
      refine p_X12_315 Cx hW hL (k := 231) (by decide) rfl dX12_factor_55 (fun H locs hW hL => ?_)
      have F_87 : Fr S (uF (uF S 231 42 ((S.1 231 42) + 1)) 231 24 ((S.1 231 24) + 1)) (pl [231, 248, 249, 250, 251, 252, 257, 258]) := F_3.F rfl
      have g_88 : FF S (uF (uF S 231 42 ((S.1 231 42) + 1)) 231 24 ((S.1 231 24) + 1)) (fl [20, 21, 24, 25, 42, 43]) := FF.F g_4 rfl
      have i_89 : dX G (uF (uF S 231 42 ((S.1 231 42) + 1)) 231 24 ((S.1 231 24) + 1)) := i_5.F (i := 24) (show (-2147483648) ≤ (S.1 231 24) + 1 ∧ (S.1 231 24) + 1 ≤ 2147483647 from ⟨by omega, by omega⟩)
      refine lv_aload_n hx hb dX12_factor_58 rfl (lv_at hl 0 rfl) ?_
      refine lv_iload_n hx hb dX12_factor_59 rfl (lv_at hl 1 rfl) ?_
      have lk_90 : (uF (uF S 231 42 ((S.1 231 42) + 1)) 231 24 ((S.1 231 24) + 1)).1 231 20 = S.1 231 20 := (uF_ne (fun h => absurd h.2 (by decide))).trans (uF_ne (fun h => absurd h.2 (by decide)))
      have lk_91 : (uF (uF S 231 42 ((S.1 231 42) + 1)) 231 24 ((S.1 231 24) + 1)).1 231 24 = (S.1 231 24) + 1 := uF_on
      have lk_92 : (uF (uF S 231 42 ((S.1 231 42) + 1)) 231 24 ((S.1 231 24) + 1)).1 231 42 = (S.1 231 42) + 1 := (uF_ne (fun h => absurd h.2 (by decide))).trans (uF_on)
      have nr_93 : NRr N k v (uF (uF S 231 42 ((S.1 231 42) + 1)) 231 24 ((S.1 231 24) + 1)) := hNr.of ((uF_ne (fun h => absurd h.2 (by decide))).trans (uF_ne (fun h => absurd h.2 (by decide)))) (funext fun j => (uF_a).trans (uF_a)) (funext fun j => (uF_a).trans (uF_a)) (funext fun j => (uF_a).trans (uF_a)) (funext fun j => (uF_a).trans (uF_a)) (funext fun j => (uF_a).trans (uF_a)) (funext fun j => (uF_a).trans (uF_a))
      have kr_94 : KRr (uF (uF S 231 42 ((S.1 231 42) + 1)) 231 24 ((S.1 231 24) + 1)) k v T := hkr.of (funext fun j => (uF_a).trans (uF_a)) (funext fun j => (uF_a).trans (uF_a)) (funext fun j => (uF_a).trans (uF_a)) (funext fun j => (uF_a).trans (uF_a)) (funext fun j => (uF_a).trans (uF_a))
      refine sBv (sV (As := [.int (iv ix)]) (rest := []) (k := 231) Cx (hF (uF (uF S 231 42 ((S.1 231 42) + 1)) 231 24 ((S.1 231 24) + 1)) N k v T (pz + 1) q ix i_89 ⟨nr_93, hK_, hTV, kr_94, (by omega), (by omega), (by omega), ⟨by omega, by omega⟩⟩ (by omega) (by omega) (by omega) hgx) (c_X12_426 Cx rfl rfl (rmk_ok (by omega) (by decide))) hW (by decide) rfl rfl rfl hl.1 rfl (Nat.le_of_ble_eq_true rfl) dX12_factor_60 ⟨Nat.le_of_ble_eq_true rfl, Nat.le_of_ble_eq_true rfl⟩) hL (fun u_95 H locs k_96 hW hL => ?_)
      obtain ⟨iu_95, fu_95, gu_95, xu_95, yu_95⟩ := k_96
      have F_97 := F_87.trans fu_95
      have g_98 : FF S u_95 (fl [20, 21, 24, 25, 42, 43]) := FF.trans g_88 (FF.to gu_95 (fl_sub (by decide)))
      refine lv_iconst (v := iv 0) hx hb dX12_factor_63 (by decide) ?_
      refine lv_istore_n (lv' := [(2, .int (iv 0)), (0, .ref (G.2.2.1 + 231)), (1, .int (iv ix))]) hx hb dX12_factor_64 rfl hl (by decide) rfl (fun ls hl => ?_)
      have loop_65 : ∀ (fuel : Nat) (S65 : sS) (kk : Int) (H : Heap) (locs : List Loc) (ls : Array Slot), (13 - kk).toNat < fuel → (dX G S65) → (Fr S S65 (pl [231, 248, 249, 250, 251, 252, 257, 258])) → (Fr u_95 S65 (pl [257])) → (FF S S65 (fl [20, 21, 24, 25, 42, 43])) → (FF u_95 S65 (fl [])) → (0 ≤ kk ∧ kk ≤ 13) → (Hd (∀ j, j < ix → S65.2.2.1 257 j = u_95.2.2.1 257 j)) → (Hd (vb9 (fvr u_95 ix) → ∀ t, 0 ≤ t → t < 13 → S65.2.2.1 257 (ix + t) = if t < kk then -(u_95.2.2.1 257 (ix + t)) else u_95.2.2.1 257 (ix + t))) → sW G 294 S65 H → sL G locs → lv_has ls 3 [(2, .int (iv kk)), (0, .ref (G.2.2.1 + 231)), (1, .int (iv ix))] → W p l e (rmk D 0 0) s m args below meth c H locs 0 0 (MQ below (sQv G 294 (fun u => dX G u ∧ Fr S u (pl [231, 248, 249, 250, 251, 252, 257, 258]) ∧ FF S u (fl [20, 21, 24, 25, 42, 43]) ∧ (EOr S u N k v q (eF T k v (n + 1) N (S.1 231 42) pz) ix ∧ (0 ≤ u.1 231 24 ∧ u.1 231 24 ≤ q)))) args s 0 0 (sF G)) (F0 m 65 ls []) := by
        intro fuel
        induction fuel with
        | zero => intro S65 kk H locs ls hmeas hI65 hFm65 hL65_ hGm65 gL65_ hk hl2 hrow hW hL hl; exact absurd hmeas (Nat.not_lt_zero _)
        | succ fuel ih_65 =>
          intro S65 kk H locs ls hmeas hI65 hFm65 hL65_ hGm65 gL65_ hk hl2 hrow hW hL hl
          refine lv_iload_n hx hb dX12_factor_65 rfl (lv_at hl 0 rfl) ?_
          refine lv_bipush (v := iv 12) hx hb dX12_factor_66 (by decide) ?_
          refine r_icmp_gt (tgt := 94) hx hb ⟨(by omega), (by omega)⟩ ⟨(by omega), (by omega)⟩ dX12_factor_68 (by decide) (fun c_99 => ?_) (fun c_99 => ?_)
          · refine lv_goto (tgt := 197) hx hb dX12_factor_94 (by decide) ?_
            have q_100 : (-2147483648) ≤ u_95.1 231 24 ∧ u_95.1 231 24 ≤ 2147483647 := iu_95.fi 24
            have lk_101 : S65.1 231 24 = u_95.1 231 24 := gL65_ 24 rfl
            have q_102 : (-2147483648) ≤ u_95.1 231 20 ∧ u_95.1 231 20 ≤ 2147483647 := iu_95.fi 20
            have lk_103 : S65.1 231 20 = u_95.1 231 20 := gL65_ 20 rfl
            have q_104 : (-2147483648) ≤ u_95.1 231 42 ∧ u_95.1 231 42 ≤ 2147483647 := iu_95.fi 42
            have lk_105 : S65.1 231 42 = u_95.1 231 42 := gL65_ 42 rfl
            exact sVret Cx hr hlk hW hL ⟨hI65, hFm65, hGm65, ⟨⟨(fun j a => (hl2 j a).trans (xu_95.1 j a)), (fun h => by obtain ⟨V1, e1, w1, b1, l1, c1_, n1⟩ := xu_95.2.1 (by have e9 := (show S65.1 231 20 = u_95.1 231 20 from gL65_ 20 rfl); omega); rw [show (uF (uF S 231 42 ((S.1 231 42) + 1)) 231 24 ((S.1 231 24) + 1)).1 231 42 = S.1 231 42 + 1 by omega] at e1; exact ⟨vad (cst 0) V1 (-1), (by rw [eF_neg (by omega) kc, e1, show S65.1 231 42 = u_95.1 231 42 from (show S65.1 231 42 = u_95.1 231 42 from gL65_ 42 rfl)]; rfl), (fun t a b => by show S65.2.2.1 257 (ix + t) = cst 0 t + (-1) * V1 t; rw [hrow (b1.eq w1) t a b, if_pos (by omega), show u_95.2.2.1 257 (ix + t) = V1 t from w1 t a b]; unfold cst; split <;> omega), vb9_neg b1, (by rw [show S65.1 231 42 = u_95.1 231 42 from (show S65.1 231 42 = u_95.1 231 42 from gL65_ 42 rfl)]; exact l1), (by have e7 := (show S65.1 231 24 = u_95.1 231 24 from gL65_ 24 rfl); omega), (n1.of (gL65_ 25 rfl) (funext fun j => (hL65_ 248 rfl).2.1 j) (funext fun j => (hL65_ 249 rfl).2.1 j) (funext fun j => (hL65_ 250 rfl).2.1 j) (funext fun j => (hL65_ 251 rfl).2.1 j) (funext fun j => (hL65_ 252 rfl).2.1 j) (funext fun j => (hL65_ 253 rfl).2.1 j))⟩), (fun h => by have q9 := xu_95.2.2 (by have e9 := (show S65.1 231 20 = u_95.1 231 20 from gL65_ 20 rfl); omega); rw [show (uF (uF S 231 42 ((S.1 231 42) + 1)) 231 24 ((S.1 231 24) + 1)).1 231 42 = S.1 231 42 + 1 by omega] at q9; rw [eF_neg (by omega) kc, q9]; rfl)⟩, (by have e7c := (show S65.1 231 24 = u_95.1 231 24 from gL65_ 24 rfl); omega)⟩⟩ dX12_factor_197
          · refine lv_aload_n hx hb dX12_factor_71 rfl (lv_at hl 1 rfl) ?_
            refine g_X12_88 Cx hW (k := 231) (by decide) rfl (v := .ref (G.2.2.1 + 257)) (rd_41 hI65) dX12_factor_72 ?_
            refine lv_iload_n hx hb dX12_factor_75 rfl (lv_at hl 2 rfl) ?_
            refine lv_iload_n hx hb dX12_factor_76 rfl (lv_at hl 0 rfl) ?_
            refine r_iadd hx hb dX12_factor_77 ?_
            refine lv_aload_n hx hb dX12_factor_78 rfl (lv_at hl 1 rfl) ?_
            refine g_X12_88 Cx hW (k := 231) (by decide) rfl (v := .ref (G.2.2.1 + 257)) (rd_41 hI65) dX12_factor_79 ?_
            refine lv_iload_n hx hb dX12_factor_82 rfl (lv_at hl 2 rfl) ?_
            refine lv_iload_n hx hb dX12_factor_83 rfl (lv_at hl 0 rfl) ?_
            refine r_iadd hx hb dX12_factor_84 ?_
            refine rLald Cx hW (k := 257) (by decide) rfl (by decide) (by omega) (by omega) dX12_factor_85 ?_
            have q_106 : -9223372036854775808 ≤ S65.2.2.1 257 (ix + kk) ∧ S65.2.2.1 257 (ix + kk) ≤ 9223372036854775807 := hI65.li 257 (ix + kk)
            refine r_j (b := S65.2.2.1 257 (ix + kk)) rfl ?_
            refine r_lneg hx hb dX12_factor_86 ?_
            obtain ⟨zn, ezn, lzn, hzn, fzn⟩ := jv_h (-(S65.2.2.1 257 (ix + kk)))
            rw [ezn]
            refine rLast Cx hW hL (k := 257) (by decide) rfl (by decide) (by omega) (by omega) dX12_factor_87 (fun H locs hW hL => ?_)
            have F_107 : Fr S (uL S65 257 (ix + kk) zn) (pl [231, 248, 249, 250, 251, 252, 257, 258]) := hFm65.L rfl
            have F_108 : Fr u_95 (uL S65 257 (ix + kk) zn) (pl [257]) := hL65_.L rfl
            have i_109 : dX G (uL S65 257 (ix + kk) zn) := hI65.L ⟨by omega, by omega⟩
            refine lv_iinc (v := iv (kk + 1)) (lv' := [(2, .int (iv (kk + 1))), (0, .ref (G.2.2.1 + 231)), (1, .int (iv ix))]) hx hb dX12_factor_88 hl (k := 0) rfl ((Int32.ofInt_add _ _).symm) (by decide) rfl (fun ls hl => ?_)
            refine lv_goto (tgt := 65) hx hb dX12_factor_91 (by decide) ?_
            exact ih_65 (uL S65 257 (ix + kk) zn) (kk + 1) _ _ _ (by omega) i_109 F_107 F_108 hGm65 gL65_ (by omega) (fun j a => (uL_ne (fun h => by have h2 := h.2; omega)).trans (hl2 j a)) (fun hb9 t a b => by by_cases z : t = kk; (rw [z, uL_on, if_pos (by omega)]; have c1 := hrow hb9 kk (by omega) (by omega); rw [if_neg (by omega)] at c1; have hb1 : -99999 ≤ u_95.2.2.1 257 (ix + kk) ∧ u_95.2.2.1 257 (ix + kk) ≤ 99999 := hb9 kk (by omega) (by omega); have zn1 := fzn (by omega) (by omega); omega); (rw [uL_ne (fun h => z (by have h2 := h.2; omega)), hrow hb9 t a b]; by_cases y : t < kk; (rw [if_pos y, if_pos (by omega)]); (rw [if_neg y, if_neg (by omega)]))) hW hL (lv_sub hl [0, 1, 2] rfl)
      exact loop_65 (_ + 1) u_95 0 _ _ _ (Nat.lt_succ_self _) iu_95 F_97 Fr.rf g_98 FF.rf (by omega) (fun j a => rfl) (fun _ t a b => (if_neg (by omega)).symm) hW hL (lv_sub hl [0, 1, 2] rfl)
  · refine lv_aload_n hx hb dX12_factor_28 rfl (lv_at hl 0 rfl) ?_
    refine lv_bipush (v := iv 7) hx hb dX12_factor_29 (by decide) ?_
    refine lv_aload_n hx hb dX12_factor_31 rfl (lv_at hl 0 rfl) ?_
    have q_110 : (-2147483648) ≤ S.1 231 24 ∧ S.1 231 24 ≤ 2147483647 := hI.fi 24
    refine g_X12_315 Cx hW (k := 231) (by decide) rfl (v := S.1 231 24) (uF_ne (fun h => absurd h.2 (by decide))) dX12_factor_32 ?_
    refine sBv (sV (As := [.int (iv 7), .int (iv (S.1 231 24))]) (rest := []) (k := 231) Cx (s_X12_wrong l G (uF S 231 42 ((S.1 231 42) + 1)) (cd := 7) (tk := S.1 231 24) i_5 (by omega) (by omega)) (c_X12_321 Cx rfl rfl (rmk_ok (by omega) (by decide))) hW (by decide) rfl rfl rfl hl.1 rfl (Nat.le_of_ble_eq_true rfl) dX12_factor_35 ⟨Nat.le_of_ble_eq_true rfl, Nat.le_of_ble_eq_true rfl⟩) hL (fun u_111 H locs k_112 hW hL => ?_)
    obtain ⟨iu_111, fu_111, gu_111, xu_111⟩ := k_112
    have F_113 := F_3.trans (fu_111.to (pl_sub (by decide)))
    have g_114 : FF S u_111 (fl [20, 21, 24, 25, 42, 43]) := FF.trans g_4 (FF.to gu_111 (fl_sub (by decide)))
    have lk_115 : u_111.1 231 24 = S.1 231 24 := (gu_111 24 rfl).trans (uF_ne (fun h => absurd h.2 (by decide)))
    have q_116 : (-2147483648) ≤ u_111.1 231 20 ∧ u_111.1 231 20 ≤ 2147483647 := iu_111.fi 20
    have lk_117 : u_111.1 231 42 = (S.1 231 42) + 1 := (gu_111 42 rfl).trans (uF_on)
    exact sVret Cx hr hlk hW hL ⟨iu_111, F_113, g_114, ⟨⟨(fun j a => ((fu_111 257 rfl).2.2.1 j).trans (uF_l)), (fun h => absurd h (by have e9 := (show u_111.1 231 20 = u_111.1 231 20 from rfl); have a9 := xu_111; omega)), (fun _ => eF_much (by omega))⟩, (by have e7c := (show u_111.1 231 24 = S.1 231 24 from (gu_111 24 rfl).trans (uF_ne (fun h => absurd h.2 (by decide)))); omega)⟩⟩ dX12_factor_38
