/-! The second reading: sets, parameters, variables -/
theorem gI_le {K V : Int → Int} {pz q : Int} (h : gI K V pz q) : pz ≤ q := by
  rcases h with ⟨_, h⟩ | ⟨_, a, h1, ⟨_, h2⟩ | ⟨_, b, h2, h3⟩⟩
  · omega
  · have := h1.2; have := h2.2; omega
  · have := h1.2; have := h2.2; have := h3.2; omega
theorem gV_lt {K V : Int → Int} {pz q : Int} (h : gV K V pz q) : pz < q := by
  rcases h with ⟨_, h⟩ | ⟨_, h⟩
  · have := h.2; omega
  · have := h.2; omega
theorem gV_tl {K V : Int → Int} {st : Int → Prop} {c q : Int} (t : gTl st (fun c x => gV K V (c + 1) x) c q) : c ≤ q := gTl_le (R := fun c x => gV K V (c + 1) x) (fun c e r => by have := gV_lt r; omega) t
theorem mm12 {a b : Int} (ha : 1 ≤ a ∧ a ≤ 12) (hb : 1 ≤ b ∧ b ≤ 12) : 1 ≤ a * b ∧ a * b ≤ 144 := by
  have h1 : a * b ≤ 12 * 12 := Int.mul_le_mul ha.2 hb.2 (by omega) (by decide)
  have h2 : 1 * 1 ≤ a * b := Int.mul_le_mul ha.1 hb.1 (by decide) (by omega)
  omega
set_option maxRecDepth 100000 in
set_option maxHeartbeats 4000000 in
theorem s_X12_indexesOf (l : Launch) (G : sG) (S : sS) {K V Fm Wd : Int → Int} {T : Int} {pz q nm : Int} (hI : dX G S) (hK : S.2.1 244 = K) (hV : S.2.1 247 = V) (hFm : S.2.1 245 = Fm) (hWd : S.2.1 246 = Wd) (hQ : gQ K V Fm Wd T) (h20 : S.1 231 20 = 0) (hNT : NT S T) (h25 : S.1 231 25 ≤ 700) (hc : S.1 231 24 = pz) (hg : gI K V pz q) (hpq : 0 ≤ pz ∧ q ≤ T - 1) (hnb : 0 ≤ nm ∧ nm < 700) (hone : S.2.1 250 nm = -1 ∧ S.2.1 251 nm = -1) : Met l yX12_indexesOf (.code yX12_indexesOf cX12_indexesOf 2 none :: tb) (rmk 3 0 0) (sPc G 294 S [.ref (G.2.2.1 + 231), .int (iv nm)]) (sQv G 294 (fun u => dX G u ∧ Fr S u (pl [231, 250, 251]) ∧ FF S u (fl [20, 21, 24]) ∧ ((pz ≤ u.1 231 24 ∧ u.1 231 24 ≤ q) ∧ (∀ x, x ≠ nm → u.2.1 250 x = S.2.1 250 x ∧ u.2.1 251 x = S.2.1 251 x) ∧ Hd (u.1 231 20 = 0 → u.1 231 24 = q ∧ nIx S (S.1 231 25) (u.2.1 250 nm) ∧ nIx S (S.1 231 25) (u.2.1 251 nm) ∧ (u.2.1 251 nm ≠ -1 → u.2.1 250 nm ≠ -1))))) 0 0 (sF G) := by
  refine sEnter (by decide) (Nat.le_of_ble_eq_true rfl) ?_
  intro p e s m args below meth c Cx hr hlk hnm hW ls hl
  have Cx : sC G p m c cX12_indexesOf 2 s args RX12 := Cx
  obtain ⟨hx, hb, hml, hown, hts⟩ := id Cx.1
  have hL : sL G [] := sL_nil
  have hl : lv_has ls 2 [(0, .ref (G.2.2.1 + 231)), (1, .int (iv nm))] := hl
  have hW0 := hW
  have hQ1 := hQ.1
  have hle := gI_le hg
  have hn0 := hNT.1
  refine lv_aload_n hx hb dX12_indexesOf_0 rfl (lv_at hl 0 rfl) ?_
  have q_1 : (-2147483648) ≤ S.1 231 20 ∧ S.1 231 20 ≤ 2147483647 := hI.fi 20
  refine g_X12_270 Cx hW (k := 231) (by decide) rfl (v := S.1 231 20) rfl dX12_indexesOf_1 ?_
  refine r_if_ne (tgt := 16) hx hb ⟨(by omega), (by omega)⟩ dX12_indexesOf_4 (by decide) (fun c => absurd (by omega) c) (fun _ => ?_)
  refine lv_aload_n hx hb dX12_indexesOf_7 rfl (lv_at hl 0 rfl) ?_
  refine lv_bipush (v := iv 91) hx hb dX12_indexesOf_8 (by decide) ?_
  have q_2 : (-2147483648) ≤ S.1 231 24 ∧ S.1 231 24 ≤ 2147483647 := hI.fi 24
  refine sBi (sV (As := [.int (iv 91)]) (rest := []) (k := 231) Cx (s_X12_isSign l G S (sv := 91) (K := K) (V := V) (pz := pz) hI (by omega) hK hV (by omega) (by omega)) (c_X12_318 Cx rfl rfl (rmk_ok (by omega) (by decide))) hW (by decide) rfl rfl rfl hl.1 rfl (Nat.le_of_ble_eq_true rfl) dX12_indexesOf_10 ⟨Nat.le_of_ble_eq_true rfl, Nat.le_of_ble_eq_true rfl⟩) hL (fun r_5 u_3 H locs k_4 hW hL => ?_)
  obtain ⟨eu_3, xu_3⟩ := k_4
  rw [eu_3] at hW
  refine r_if_ne (tgt := 17) hx hb ⟨(by omega), (by omega)⟩ dX12_indexesOf_13 (by decide) (fun c_6 => ?_) (fun c_6 => ?_)
  · obtain ⟨_, ⟨hk1, rfl⟩, hg2⟩ : ∃ a, gk K 1 (pz + 1) a ∧ ((¬ gS K V a 44 ∧ gs K V 93 a q) ∨ (gS K V a 44 ∧ ∃ b, gk K 1 (a + 1) b ∧ gs K V 93 b q)) := by rcases hg with h | h; (exact absurd (xu_3.2.1 (by omega)) h.1); exact h.2
    have hq3 : pz + 3 ≤ q := by rcases hg2 with h | ⟨_, b, h, h2⟩; (have := h.2.2; omega); (have := h.2; have := h2.2; omega)
    refine lv_aload_n hx hb dX12_indexesOf_17 rfl (lv_at hl 0 rfl) ?_
    refine lv_dup hx hb dX12_indexesOf_18 rfl ?_
    refine g_X12_315 Cx hW (k := 231) (by decide) rfl (v := S.1 231 24) rfl dX12_indexesOf_19 ?_
    refine lv_iconst (v := iv 1) hx hb dX12_indexesOf_22 (by decide) ?_
    refine r_iadd hx hb dX12_indexesOf_23 ?_
    refine p_X12_315 Cx hW hL (k := 231) (by decide) rfl dX12_indexesOf_24 (fun H locs hW hL => ?_)
    have F_7 : Fr S (uF S 231 24 ((S.1 231 24) + 1)) (pl [231, 250, 251]) := (Fr.rf : Fr S S (pl [231, 250, 251])).F rfl
    have g_8 : FF S (uF S 231 24 ((S.1 231 24) + 1)) (fl [20, 21, 24]) := FF.F FF.rf rfl
    have i_9 : dX G (uF S 231 24 ((S.1 231 24) + 1)) := hI.F (i := 24) (show (-2147483648) ≤ (S.1 231 24) + 1 ∧ (S.1 231 24) + 1 ≤ 2147483647 from ⟨by omega, by omega⟩)
    refine lv_aload_n hx hb dX12_indexesOf_27 rfl (lv_at hl 0 rfl) ?_
    refine g_X12_65 Cx hW (k := 231) (by decide) rfl (v := .ref (G.2.2.1 + 250)) (rd_28 i_9) dX12_indexesOf_28 ?_
    refine lv_iload_n hx hb dX12_indexesOf_31 rfl (lv_at hl 1 rfl) ?_
    refine lv_aload_n hx hb dX12_indexesOf_32 rfl (lv_at hl 0 rfl) ?_
    have lk_10 : (uF S 231 24 ((S.1 231 24) + 1)).1 231 20 = S.1 231 20 := uF_ne (fun h => absurd h.2 (by decide))
    have q_11 : (-2147483648) ≤ S.1 231 25 ∧ S.1 231 25 ≤ 2147483647 := hI.fi 25
    have lk_12 : (uF S 231 24 ((S.1 231 24) + 1)).1 231 25 = S.1 231 25 := uF_ne (fun h => absurd h.2 (by decide))
    have lk_13 : (uF S 231 24 ((S.1 231 24) + 1)).1 231 24 = (S.1 231 24) + 1 := uF_on
    refine sBi (sV (As := []) (rest := [.int (iv nm), .ref (G.2.2.1 + 250)]) (k := 231) Cx (s_X12_setHere l G (uF S 231 24 ((S.1 231 24) + 1)) (K := K) (V := V) (Fm := Fm) (Wd := Wd) (T := T) (pz := (pz) + 1) i_9 ((funext fun j => uF_a : (uF S 231 24 ((S.1 231 24) + 1)).2.1 244 = S.2.1 244).trans hK) ((funext fun j => uF_a : (uF S 231 24 ((S.1 231 24) + 1)).2.1 247 = S.2.1 247).trans hV) ((funext fun j => uF_a : (uF S 231 24 ((S.1 231 24) + 1)).2.1 245 = S.2.1 245).trans hFm) ((funext fun j => uF_a : (uF S 231 24 ((S.1 231 24) + 1)).2.1 246 = S.2.1 246).trans hWd) hQ (fun _ => (NT.cg (S := S) hNT (uF_ne (fun h => absurd h.2 (by decide))) (funext fun j => uF_a))) (fun _ => by omega) (by omega) (by omega)) (c_X12_364 Cx rfl rfl (rmk_ok (by omega) (by decide))) hW (by decide) rfl rfl rfl hl.1 rfl (Nat.le_of_ble_eq_true rfl) dX12_indexesOf_33 ⟨Nat.le_of_ble_eq_true rfl, Nat.le_of_ble_eq_true rfl⟩) hL (fun r_16 u_14 H locs k_15 hW hL => ?_)
    obtain ⟨iu_14, fu_14, gu_14, xu_14⟩ := k_15
    have F_17 := F_7.trans (fu_14.to (pl_sub (by decide)))
    have g_18 : FF S u_14 (fl [20, 21, 24]) := FF.trans g_8 (FF.to gu_14 (fl_sub (by decide)))
    refine rIast Cx hW hL (k := 250) (by decide) rfl (by decide) (by omega) (by omega) dX12_indexesOf_36 (fun H locs hW hL => ?_)
    have F_19 : Fr S (uA u_14 250 nm r_16) (pl [231, 250, 251]) := F_17.A rfl
    have i_20 : dX G (uA u_14 250 nm r_16) := iu_14.A (k := 250) (show (-2147483648) ≤ r_16 ∧ r_16 ≤ 2147483647 from ⟨by omega, by omega⟩)
    refine lv_aload_n hx hb dX12_indexesOf_37 rfl (lv_at hl 0 rfl) ?_
    have q_21 : (-2147483648) ≤ u_14.1 231 20 ∧ u_14.1 231 20 ≤ 2147483647 := iu_14.fi 20
    refine g_X12_270 Cx hW (k := 231) (by decide) rfl (v := u_14.1 231 20) uA_f dX12_indexesOf_38 ?_
    refine r_if_ne (tgt := 73) hx hb ⟨(by omega), (by omega)⟩ dX12_indexesOf_41 (by decide) (fun c_22 => ?_) (fun c_22 => ?_)
    · refine lv_aload_n hx hb dX12_indexesOf_73 rfl (lv_at hl 0 rfl) ?_
      refine lv_dup hx hb dX12_indexesOf_74 rfl ?_
      have q_23 : (-2147483648) ≤ u_14.1 231 24 ∧ u_14.1 231 24 ≤ 2147483647 := iu_14.fi 24
      refine g_X12_315 Cx hW (k := 231) (by decide) rfl (v := u_14.1 231 24) uA_f dX12_indexesOf_75 ?_
      refine lv_iconst (v := iv 1) hx hb dX12_indexesOf_78 (by decide) ?_
      refine r_iadd hx hb dX12_indexesOf_79 ?_
      refine p_X12_315 Cx hW hL (k := 231) (by decide) rfl dX12_indexesOf_80 (fun H locs hW hL => ?_)
      have F_24 : Fr S (uF (uA u_14 250 nm r_16) 231 24 ((u_14.1 231 24) + 1)) (pl [231, 250, 251]) := F_19.F rfl
      have g_25 : FF S (uF (uA u_14 250 nm r_16) 231 24 ((u_14.1 231 24) + 1)) (fl [20, 21, 24]) := FF.F g_18 rfl
      have i_26 : dX G (uF (uA u_14 250 nm r_16) 231 24 ((u_14.1 231 24) + 1)) := i_20.F (i := 24) (show (-2147483648) ≤ (u_14.1 231 24) + 1 ∧ (u_14.1 231 24) + 1 ≤ 2147483647 from ⟨by omega, by omega⟩)
      have lk_27 : (uF (uA u_14 250 nm r_16) 231 24 ((u_14.1 231 24) + 1)).1 231 24 = (u_14.1 231 24) + 1 := uF_on
      have lk_28 : (uF (uA u_14 250 nm r_16) 231 24 ((u_14.1 231 24) + 1)).1 231 20 = u_14.1 231 20 := (uF_ne (fun h => absurd h.2 (by decide))).trans (uA_f)
      exact sVret Cx hr hlk hW hL ⟨i_26, F_24, g_25, ⟨(by have e7 := (show (uF (uA u_14 250 nm r_16) 231 24 ((u_14.1 231 24) + 1)).1 231 24 = (u_14.1 231 24) + 1 from uF_on); omega), (fun x a => ⟨(uF_a).trans ((uA_ne (fun h => a h.2)).trans (((fu_14 250 rfl).2.1 x).trans (uF_a))), (uF_a).trans ((uA_ne (fun h => absurd h.1 (by decide))).trans (((fu_14 251 rfl).2.1 x).trans (uF_a)))⟩), (fun h => absurd h (by have e9 := (show (uF (uA u_14 250 nm r_16) 231 24 ((u_14.1 231 24) + 1)).1 231 20 = u_14.1 231 20 from (uF_ne (fun h => absurd h.2 (by decide))).trans (uA_f)); omega))⟩⟩ dX12_indexesOf_83
    · have a1 := xu_14.2.2 (by omega)
      refine lv_aload_n hx hb dX12_indexesOf_44 rfl (lv_at hl 0 rfl) ?_
      refine lv_bipush (v := iv 44) hx hb dX12_indexesOf_45 (by decide) ?_
      have q_29 : (-2147483648) ≤ u_14.1 231 24 ∧ u_14.1 231 24 ≤ 2147483647 := iu_14.fi 24
      have lk_30 : (uA u_14 250 nm r_16).1 231 24 = u_14.1 231 24 := uA_f
      refine sBi (sV (As := [.int (iv 44)]) (rest := []) (k := 231) Cx (s_X12_isSign l G (uA u_14 250 nm r_16) (sv := 44) (K := K) (V := V) (pz := pz + 1 + 1) i_20 (by omega) ((funext fun j => (uA_ne (fun h => absurd h.1 (by decide))).trans (((fu_14 244 rfl).2.1 j).trans (uF_a)) : (uA u_14 250 nm r_16).2.1 244 = S.2.1 244).trans hK) ((funext fun j => (uA_ne (fun h => absurd h.1 (by decide))).trans (((fu_14 247 rfl).2.1 j).trans (uF_a)) : (uA u_14 250 nm r_16).2.1 247 = S.2.1 247).trans hV) (by omega) (by omega)) (c_X12_318 Cx rfl rfl (rmk_ok (by omega) (by decide))) hW (by decide) rfl rfl rfl hl.1 rfl (Nat.le_of_ble_eq_true rfl) dX12_indexesOf_47 ⟨Nat.le_of_ble_eq_true rfl, Nat.le_of_ble_eq_true rfl⟩) hL (fun r_33 u_31 H locs k_32 hW hL => ?_)
      obtain ⟨eu_31, xu_31⟩ := k_32
      rw [eu_31] at hW
      refine r_if_eq (tgt := 73) hx hb ⟨(by omega), (by omega)⟩ dX12_indexesOf_50 (by decide) (fun c_34 => ?_) (fun c_34 => ?_)
      · have hq4 : q = pz + 3 := by rcases hg2 with h | h; (have := h.2.2; omega); exact absurd h.1 (xu_31.2.2 (by omega))
        refine lv_aload_n hx hb dX12_indexesOf_73 rfl (lv_at hl 0 rfl) ?_
        refine lv_dup hx hb dX12_indexesOf_74 rfl ?_
        refine g_X12_315 Cx hW (k := 231) (by decide) rfl (v := u_14.1 231 24) uA_f dX12_indexesOf_75 ?_
        refine lv_iconst (v := iv 1) hx hb dX12_indexesOf_78 (by decide) ?_
        refine r_iadd hx hb dX12_indexesOf_79 ?_
        refine p_X12_315 Cx hW hL (k := 231) (by decide) rfl dX12_indexesOf_80 (fun H locs hW hL => ?_)
        have F_35 : Fr S (uF (uA u_14 250 nm r_16) 231 24 ((u_14.1 231 24) + 1)) (pl [231, 250, 251]) := F_19.F rfl
        have g_36 : FF S (uF (uA u_14 250 nm r_16) 231 24 ((u_14.1 231 24) + 1)) (fl [20, 21, 24]) := FF.F g_18 rfl
        have i_37 : dX G (uF (uA u_14 250 nm r_16) 231 24 ((u_14.1 231 24) + 1)) := i_20.F (i := 24) (show (-2147483648) ≤ (u_14.1 231 24) + 1 ∧ (u_14.1 231 24) + 1 ≤ 2147483647 from ⟨by omega, by omega⟩)
        have lk_38 : (uF (uA u_14 250 nm r_16) 231 24 ((u_14.1 231 24) + 1)).1 231 24 = (u_14.1 231 24) + 1 := uF_on
        have lk_39 : (uF (uA u_14 250 nm r_16) 231 24 ((u_14.1 231 24) + 1)).1 231 20 = u_14.1 231 20 := (uF_ne (fun h => absurd h.2 (by decide))).trans (uA_f)
        exact sVret Cx hr hlk hW hL ⟨i_37, F_35, g_36, ⟨(by have e7 := (show (uF (uA u_14 250 nm r_16) 231 24 ((u_14.1 231 24) + 1)).1 231 24 = (u_14.1 231 24) + 1 from uF_on); omega), (fun x a => ⟨(uF_a).trans ((uA_ne (fun h => a h.2)).trans (((fu_14 250 rfl).2.1 x).trans (uF_a))), (uF_a).trans ((uA_ne (fun h => absurd h.1 (by decide))).trans (((fu_14 251 rfl).2.1 x).trans (uF_a)))⟩), (fun _ => ⟨(by have e7 := (show (uF (uA u_14 250 nm r_16) 231 24 ((u_14.1 231 24) + 1)).1 231 24 = (u_14.1 231 24) + 1 from uF_on); omega), (by rw [show (uF (uA u_14 250 nm r_16) 231 24 ((u_14.1 231 24) + 1)).2.1 250 nm = r_16 from (uF_a).trans uA_on]; exact (.inr ⟨a1.2.2.1, a1.2.2.2.1, a1.2.2.2.2⟩)), (by rw [show (uF (uA u_14 250 nm r_16) 231 24 ((u_14.1 231 24) + 1)).2.1 251 nm = S.2.1 251 nm from (uF_a).trans ((uA_ne (fun h => absurd h.1 (by decide))).trans (((fu_14 251 rfl).2.1 nm).trans (uF_a)))]; exact .inl hone.2), (fun z => absurd ((show (uF (uA u_14 250 nm r_16) 231 24 ((u_14.1 231 24) + 1)).2.1 251 nm = S.2.1 251 nm from (uF_a).trans ((uA_ne (fun h => absurd h.1 (by decide))).trans (((fu_14 251 rfl).2.1 nm).trans (uF_a)))).trans hone.2) z)⟩)⟩⟩ dX12_indexesOf_83
      · have hq5 : q = pz + 5 := by rcases hg2 with h | ⟨_, b, h, h2⟩; (exact absurd (xu_31.2.1 (by omega)) h.1); (have := h.2; have := h2.2; omega)
        refine lv_aload_n hx hb dX12_indexesOf_53 rfl (lv_at hl 0 rfl) ?_
        refine lv_dup hx hb dX12_indexesOf_54 rfl ?_
        refine g_X12_315 Cx hW (k := 231) (by decide) rfl (v := u_14.1 231 24) uA_f dX12_indexesOf_55 ?_
        refine lv_iconst (v := iv 1) hx hb dX12_indexesOf_58 (by decide) ?_
        refine r_iadd hx hb dX12_indexesOf_59 ?_
        refine p_X12_315 Cx hW hL (k := 231) (by decide) rfl dX12_indexesOf_60 (fun H locs hW hL => ?_)
        have F_40 : Fr S (uF (uA u_14 250 nm r_16) 231 24 ((u_14.1 231 24) + 1)) (pl [231, 250, 251]) := F_19.F rfl
        have g_41 : FF S (uF (uA u_14 250 nm r_16) 231 24 ((u_14.1 231 24) + 1)) (fl [20, 21, 24]) := FF.F g_18 rfl
        have i_42 : dX G (uF (uA u_14 250 nm r_16) 231 24 ((u_14.1 231 24) + 1)) := i_20.F (i := 24) (show (-2147483648) ≤ (u_14.1 231 24) + 1 ∧ (u_14.1 231 24) + 1 ≤ 2147483647 from ⟨by omega, by omega⟩)
        refine lv_aload_n hx hb dX12_indexesOf_63 rfl (lv_at hl 0 rfl) ?_
        refine g_X12_68 Cx hW (k := 231) (by decide) rfl (v := .ref (G.2.2.1 + 251)) (rd_29 i_42) dX12_indexesOf_64 ?_
        refine lv_iload_n hx hb dX12_indexesOf_67 rfl (lv_at hl 1 rfl) ?_
        refine lv_aload_n hx hb dX12_indexesOf_68 rfl (lv_at hl 0 rfl) ?_
        have lk_43 : (uF (uA u_14 250 nm r_16) 231 24 ((u_14.1 231 24) + 1)).1 231 20 = u_14.1 231 20 := (uF_ne (fun h => absurd h.2 (by decide))).trans (uA_f)
        have lk_44 : (uF (uA u_14 250 nm r_16) 231 24 ((u_14.1 231 24) + 1)).1 231 25 = S.1 231 25 := (uF_ne (fun h => absurd h.2 (by decide))).trans ((uA_f).trans ((gu_14 25 rfl).trans (uF_ne (fun h => absurd h.2 (by decide)))))
        have lk_45 : (uF (uA u_14 250 nm r_16) 231 24 ((u_14.1 231 24) + 1)).1 231 24 = (u_14.1 231 24) + 1 := uF_on
        refine sBi (sV (As := []) (rest := [.int (iv nm), .ref (G.2.2.1 + 251)]) (k := 231) Cx (s_X12_setHere l G (uF (uA u_14 250 nm r_16) 231 24 ((u_14.1 231 24) + 1)) (K := K) (V := V) (Fm := Fm) (Wd := Wd) (T := T) (pz := pz + 1 + 1 + 1) i_42 ((funext fun j => (uF_a).trans ((uA_ne (fun h => absurd h.1 (by decide))).trans (((fu_14 244 rfl).2.1 j).trans (uF_a))) : (uF (uA u_14 250 nm r_16) 231 24 ((u_14.1 231 24) + 1)).2.1 244 = S.2.1 244).trans hK) ((funext fun j => (uF_a).trans ((uA_ne (fun h => absurd h.1 (by decide))).trans (((fu_14 247 rfl).2.1 j).trans (uF_a))) : (uF (uA u_14 250 nm r_16) 231 24 ((u_14.1 231 24) + 1)).2.1 247 = S.2.1 247).trans hV) ((funext fun j => (uF_a).trans ((uA_ne (fun h => absurd h.1 (by decide))).trans (((fu_14 245 rfl).2.1 j).trans (uF_a))) : (uF (uA u_14 250 nm r_16) 231 24 ((u_14.1 231 24) + 1)).2.1 245 = S.2.1 245).trans hFm) ((funext fun j => (uF_a).trans ((uA_ne (fun h => absurd h.1 (by decide))).trans (((fu_14 246 rfl).2.1 j).trans (uF_a))) : (uF (uA u_14 250 nm r_16) 231 24 ((u_14.1 231 24) + 1)).2.1 246 = S.2.1 246).trans hWd) hQ (fun _ => (NT.cg (S := S) hNT ((uF_ne (fun h => absurd h.2 (by decide))).trans ((uA_f).trans ((gu_14 25 rfl).trans (uF_ne (fun h => absurd h.2 (by decide)))))) (funext fun j => (uF_a).trans ((uA_ne (fun h => absurd h.1 (by decide))).trans (((fu_14 248 rfl).2.1 j).trans (uF_a)))))) (fun _ => by omega) (by omega) (by omega)) (c_X12_364 Cx rfl rfl (rmk_ok (by omega) (by decide))) hW (by decide) rfl rfl rfl hl.1 rfl (Nat.le_of_ble_eq_true rfl) dX12_indexesOf_69 ⟨Nat.le_of_ble_eq_true rfl, Nat.le_of_ble_eq_true rfl⟩) hL (fun r_48 u_46 H locs k_47 hW hL => ?_)
        obtain ⟨iu_46, fu_46, gu_46, xu_46⟩ := k_47
        have F_49 := F_40.trans (fu_46.to (pl_sub (by decide)))
        have g_50 : FF S u_46 (fl [20, 21, 24]) := FF.trans g_41 (FF.to gu_46 (fl_sub (by decide)))
        refine rIast Cx hW hL (k := 251) (by decide) rfl (by decide) (by omega) (by omega) dX12_indexesOf_72 (fun H locs hW hL => ?_)
        have F_51 : Fr S (uA u_46 251 nm r_48) (pl [231, 250, 251]) := F_49.A rfl
        have i_52 : dX G (uA u_46 251 nm r_48) := iu_46.A (k := 251) (show (-2147483648) ≤ r_48 ∧ r_48 ≤ 2147483647 from ⟨by omega, by omega⟩)
        refine lv_aload_n hx hb dX12_indexesOf_73 rfl (lv_at hl 0 rfl) ?_
        refine lv_dup hx hb dX12_indexesOf_74 rfl ?_
        have q_53 : (-2147483648) ≤ u_46.1 231 24 ∧ u_46.1 231 24 ≤ 2147483647 := iu_46.fi 24
        refine g_X12_315 Cx hW (k := 231) (by decide) rfl (v := u_46.1 231 24) uA_f dX12_indexesOf_75 ?_
        refine lv_iconst (v := iv 1) hx hb dX12_indexesOf_78 (by decide) ?_
        refine r_iadd hx hb dX12_indexesOf_79 ?_
        refine p_X12_315 Cx hW hL (k := 231) (by decide) rfl dX12_indexesOf_80 (fun H locs hW hL => ?_)
        have F_54 : Fr S (uF (uA u_46 251 nm r_48) 231 24 ((u_46.1 231 24) + 1)) (pl [231, 250, 251]) := F_51.F rfl
        have g_55 : FF S (uF (uA u_46 251 nm r_48) 231 24 ((u_46.1 231 24) + 1)) (fl [20, 21, 24]) := FF.F g_50 rfl
        have i_56 : dX G (uF (uA u_46 251 nm r_48) 231 24 ((u_46.1 231 24) + 1)) := i_52.F (i := 24) (show (-2147483648) ≤ (u_46.1 231 24) + 1 ∧ (u_46.1 231 24) + 1 ≤ 2147483647 from ⟨by omega, by omega⟩)
        have lk_57 : (uF (uA u_46 251 nm r_48) 231 24 ((u_46.1 231 24) + 1)).1 231 24 = (u_46.1 231 24) + 1 := uF_on
        have q_58 : (-2147483648) ≤ u_46.1 231 20 ∧ u_46.1 231 20 ≤ 2147483647 := iu_46.fi 20
        have lk_59 : (uF (uA u_46 251 nm r_48) 231 24 ((u_46.1 231 24) + 1)).1 231 20 = u_46.1 231 20 := (uF_ne (fun h => absurd h.2 (by decide))).trans (uA_f)
        exact sVret Cx hr hlk hW hL ⟨i_56, F_54, g_55, ⟨(by have e7 := (show (uF (uA u_46 251 nm r_48) 231 24 ((u_46.1 231 24) + 1)).1 231 24 = (u_46.1 231 24) + 1 from uF_on); omega), (fun x a => ⟨(uF_a).trans ((uA_ne (fun h => absurd h.1 (by decide))).trans (((fu_46 250 rfl).2.1 x).trans ((uF_a).trans ((uA_ne (fun h => a h.2)).trans (((fu_14 250 rfl).2.1 x).trans (uF_a)))))), (uF_a).trans ((uA_ne (fun h => a h.2)).trans (((fu_46 251 rfl).2.1 x).trans ((uF_a).trans ((uA_ne (fun h => absurd h.1 (by decide))).trans (((fu_14 251 rfl).2.1 x).trans (uF_a))))))⟩), (fun h => by have e8 := (show (uF (uA u_46 251 nm r_48) 231 24 ((u_46.1 231 24) + 1)).1 231 20 = u_46.1 231 20 from (uF_ne (fun h => absurd h.2 (by decide))).trans (uA_f)); have e7 := (show (uF (uA u_46 251 nm r_48) 231 24 ((u_46.1 231 24) + 1)).1 231 24 = (u_46.1 231 24) + 1 from uF_on); have a2 := xu_46.2.2 (by omega); have y25 := (show (uF (uA u_14 250 nm r_16) 231 24 ((u_14.1 231 24) + 1)).1 231 25 = S.1 231 25 from (uF_ne (fun h => absurd h.2 (by decide))).trans ((uA_f).trans ((gu_14 25 rfl).trans (uF_ne (fun h => absurd h.2 (by decide)))))); exact ⟨by omega, (by rw [show (uF (uA u_46 251 nm r_48) 231 24 ((u_46.1 231 24) + 1)).2.1 250 nm = r_16 from ((uF_a).trans ((uA_ne (fun h => absurd h.1 (by decide))).trans (((fu_46 250 rfl).2.1 nm).trans (uF_a)))).trans uA_on]; exact (.inr ⟨a1.2.2.1, a1.2.2.2.1, a1.2.2.2.2⟩)), (by rw [show (uF (uA u_46 251 nm r_48) 231 24 ((u_46.1 231 24) + 1)).2.1 251 nm = r_48 from (uF_a).trans uA_on]; exact .inr ⟨a2.2.2.1, (by omega), (show (uF (uA u_14 250 nm r_16) 231 24 ((u_14.1 231 24) + 1)).2.1 249 r_48 = S.2.1 249 r_48 from (uF_a).trans ((uA_ne (fun h => absurd h.1 (by decide))).trans (((fu_14 249 rfl).2.1 r_48).trans (uF_a)))).symm.trans a2.2.2.2.2⟩), (fun _ => by rw [show (uF (uA u_46 251 nm r_48) 231 24 ((u_46.1 231 24) + 1)).2.1 250 nm = r_16 from ((uF_a).trans ((uA_ne (fun h => absurd h.1 (by decide))).trans (((fu_46 250 rfl).2.1 nm).trans (uF_a)))).trans uA_on]; omega)⟩)⟩⟩ dX12_indexesOf_83
  · exact sVret Cx hr hlk hW hL ⟨hI, (Fr.rf : Fr S S (pl [231, 250, 251])), FF.rf, ⟨(by omega), (fun x _ => ⟨rfl, rfl⟩), (fun _ => ⟨(by have y : q = pz := (by rcases hg with h | h; (exact h.2); exact absurd h.1 (xu_3.2.2 (by omega))); omega), .inl hone.1, .inl hone.2, (fun z => absurd hone.2 z)⟩)⟩⟩ dX12_indexesOf_16

set_option maxRecDepth 100000 in
set_option maxHeartbeats 4000000 in
theorem s_X12_tellSet (l : Launch) (G : sG) (S : sS) {K V Fm Wd : Int → Int} {T : Int} {pz tk : Int} (hI : dX G S) (hK : S.2.1 244 = K) (hV : S.2.1 247 = V) (hFm : S.2.1 245 = Fm) (hWd : S.2.1 246 = Wd) (hQ : gQ K V Fm Wd T) (h20 : S.1 231 20 = 0) (hNX : NX S T) (h3 : 3 * S.1 231 25 + 2 ≤ pz) (hc : S.1 231 24 = pz) (hgs : K (pz + 1) = 2 ∧ K (pz + 3) = 2) (hpq : 0 ≤ pz ∧ pz + 5 ≤ T - 1) (htk : 0 ≤ tk ∧ tk < T) (h33 : 0 ≤ S.1 231 33 ∧ S.1 231 33 ≤ 8) : Met l yX12_tellSet (.code yX12_tellSet cX12_tellSet 3 none :: tb) (rmk 3 0 0) (sPc G 294 S [.ref (G.2.2.1 + 231), .int (iv tk)]) (sQv G 294 (fun u => dX G u ∧ Fr S u (pl [231, 248, 249, 250, 251, 252]) ∧ FF S u (fl [20, 21, 24, 25, 33]) ∧ (Hd (u.1 231 20 = 0 → NX u T ∧ u.1 231 25 = S.1 231 25 + 1 ∧ u.1 231 24 = pz + 5 ∧ 0 ≤ u.1 231 33 ∧ u.1 231 33 ≤ 8)))) 0 0 (sF G) := by
  refine sEnter (by decide) (Nat.le_of_ble_eq_true rfl) ?_
  intro p e s m args below meth c Cx hr hlk hnm hW ls hl
  have Cx : sC G p m c cX12_tellSet 3 s args RX12 := Cx
  obtain ⟨hx, hb, hml, hown, hts⟩ := id Cx.1
  have hL : sL G [] := sL_nil
  have hl : lv_has ls 3 [(0, .ref (G.2.2.1 + 231)), (1, .int (iv tk))] := hl
  have hW0 := hW
  have hQ1 := hQ.1
  have hn0 := hNX.1.1
  have hN2 := hNX.2.2
  have hva := hQ.2.2 (pz + 1) (by omega) (by omega) hgs.1
  have hvb := hQ.2.2 (pz + 3) (by omega) (by omega) hgs.2
  refine lv_aload_n hx hb dX12_tellSet_0 rfl (lv_at hl 0 rfl) ?_
  refine lv_iload_n hx hb dX12_tellSet_1 rfl (lv_at hl 1 rfl) ?_
  refine lv_iconst (v := iv 1) hx hb dX12_tellSet_2 (by decide) ?_
  have q_1 : (-2147483648) ≤ S.1 231 20 ∧ S.1 231 20 ≤ 2147483647 := hI.fi 20
  have q_2 : (-2147483648) ≤ S.1 231 25 ∧ S.1 231 25 ≤ 2147483647 := hI.fi 25
  refine sBi (sV (As := [.int (iv tk), .int (iv 1)]) (rest := []) (k := 231) Cx (s_X12_add_ l G S (tk := tk) (so := 1) (K := K) (V := V) (Fm := Fm) (Wd := Wd) (T := T) hI hK hV hFm hWd hQ (fun _ => hNX.nt) (fun _ => by omega) (by omega) (by omega)) (c_X12_404 Cx rfl rfl (rmk_ok (by omega) (by decide))) hW (by decide) rfl rfl rfl hl.1 rfl (Nat.le_of_ble_eq_true rfl) dX12_tellSet_3 ⟨Nat.le_of_ble_eq_true rfl, Nat.le_of_ble_eq_true rfl⟩) hL (fun nm u_3 H locs k_4 hW hL => ?_)
  obtain ⟨iu_3, fu_3, gu_3, xu_3⟩ := k_4
  have F_5 := (Fr.rf : Fr S S (pl [231, 248, 249, 250, 251, 252])).trans fu_3
  have g_6 : FF S u_3 (fl [20, 21, 24, 25, 33]) := FF.trans FF.rf (FF.to gu_3 (fl_sub (by decide)))
  refine lv_istore_n (lv' := [(2, .int (iv nm)), (0, .ref (G.2.2.1 + 231)), (1, .int (iv tk))]) hx hb dX12_tellSet_6 rfl hl (by decide) rfl (fun ls hl => ?_)
  refine lv_aload_n hx hb dX12_tellSet_7 rfl (lv_at hl 1 rfl) ?_
  have q_7 : (-2147483648) ≤ u_3.1 231 20 ∧ u_3.1 231 20 ≤ 2147483647 := iu_3.fi 20
  refine g_X12_270 Cx hW (k := 231) (by decide) rfl (v := u_3.1 231 20) rfl dX12_tellSet_8 ?_
  refine r_if_eq (tgt := 15) hx hb ⟨(by omega), (by omega)⟩ dX12_tellSet_11 (by decide) (fun c_8 => ?_) (fun c_8 => ?_)
  · have a1 := xu_3.2.2 (by omega)
    refine lv_aload_n hx hb dX12_tellSet_15 rfl (lv_at hl 1 rfl) ?_
    refine g_X12_65 Cx hW (k := 231) (by decide) rfl (v := .ref (G.2.2.1 + 250)) (rd_28 iu_3) dX12_tellSet_16 ?_
    refine lv_iload_n hx hb dX12_tellSet_19 rfl (lv_at hl 0 rfl) ?_
    refine lv_aload_n hx hb dX12_tellSet_20 rfl (lv_at hl 1 rfl) ?_
    refine g_X12_56 Cx hW (k := 231) (by decide) rfl (v := .ref (G.2.2.1 + 247)) (rd_18 iu_3) dX12_tellSet_21 ?_
    refine lv_aload_n hx hb dX12_tellSet_24 rfl (lv_at hl 1 rfl) ?_
    have q_9 : (-2147483648) ≤ S.1 231 24 ∧ S.1 231 24 ≤ 2147483647 := hI.fi 24
    refine g_X12_315 Cx hW (k := 231) (by decide) rfl (v := S.1 231 24) (gu_3 24 rfl) dX12_tellSet_25 ?_
    refine lv_iconst (v := iv 1) hx hb dX12_tellSet_28 (by decide) ?_
    refine r_iadd hx hb dX12_tellSet_29 ?_
    refine rIald Cx hW (k := 247) (by decide) rfl (by decide) (by omega) (by omega) dX12_tellSet_30 ?_
    have q_10 : (-2147483648) ≤ S.2.1 247 ((S.1 231 24) + 1) ∧ S.2.1 247 ((S.1 231 24) + 1) ≤ 2147483647 := hI.ai 247 ((S.1 231 24) + 1)
    refine r_i (b := S.2.1 247 ((S.1 231 24) + 1)) ((fu_3 247 rfl).2.1 ((S.1 231 24) + 1)) ?_
    have hv1 : V (pz + 1) = S.2.1 247 ((S.1 231 24) + 1) := by rw [← hV, ← hc]
    refine rIast Cx hW hL (k := 250) (by decide) rfl (by decide) (by omega) (by omega) dX12_tellSet_31 (fun H locs hW hL => ?_)
    have F_11 : Fr S (uA u_3 250 nm (S.2.1 247 ((S.1 231 24) + 1))) (pl [231, 248, 249, 250, 251, 252]) := F_5.A rfl
    have i_12 : dX G (uA u_3 250 nm (S.2.1 247 ((S.1 231 24) + 1))) := iu_3.A (k := 250) (show (-2147483648) ≤ S.2.1 247 ((S.1 231 24) + 1) ∧ S.2.1 247 ((S.1 231 24) + 1) ≤ 2147483647 from ⟨by omega, by omega⟩)
    refine lv_aload_n hx hb dX12_tellSet_32 rfl (lv_at hl 1 rfl) ?_
    refine g_X12_68 Cx hW (k := 231) (by decide) rfl (v := .ref (G.2.2.1 + 251)) (rd_29 i_12) dX12_tellSet_33 ?_
    refine lv_iload_n hx hb dX12_tellSet_36 rfl (lv_at hl 0 rfl) ?_
    refine lv_aload_n hx hb dX12_tellSet_37 rfl (lv_at hl 1 rfl) ?_
    refine g_X12_56 Cx hW (k := 231) (by decide) rfl (v := .ref (G.2.2.1 + 247)) (rd_18 i_12) dX12_tellSet_38 ?_
    refine lv_aload_n hx hb dX12_tellSet_41 rfl (lv_at hl 1 rfl) ?_
    refine g_X12_315 Cx hW (k := 231) (by decide) rfl (v := S.1 231 24) ((uA_f).trans (gu_3 24 rfl)) dX12_tellSet_42 ?_
    refine lv_iconst (v := iv 3) hx hb dX12_tellSet_45 (by decide) ?_
    refine r_iadd hx hb dX12_tellSet_46 ?_
    refine rIald Cx hW (k := 247) (by decide) rfl (by decide) (by omega) (by omega) dX12_tellSet_47 ?_
    have q_13 : (-2147483648) ≤ S.2.1 247 ((S.1 231 24) + 3) ∧ S.2.1 247 ((S.1 231 24) + 3) ≤ 2147483647 := hI.ai 247 ((S.1 231 24) + 3)
    refine r_i (b := S.2.1 247 ((S.1 231 24) + 3)) ((uA_ne (fun h => absurd h.1 (by decide))).trans ((fu_3 247 rfl).2.1 ((S.1 231 24) + 3))) ?_
    have hv2 : V (pz + 3) = S.2.1 247 ((S.1 231 24) + 3) := by rw [← hV, ← hc]
    refine rIast Cx hW hL (k := 251) (by decide) rfl (by decide) (by omega) (by omega) dX12_tellSet_48 (fun H locs hW hL => ?_)
    have F_14 : Fr S (uA (uA u_3 250 nm (S.2.1 247 ((S.1 231 24) + 1))) 251 nm (S.2.1 247 ((S.1 231 24) + 3))) (pl [231, 248, 249, 250, 251, 252]) := F_11.A rfl
    have i_15 : dX G (uA (uA u_3 250 nm (S.2.1 247 ((S.1 231 24) + 1))) 251 nm (S.2.1 247 ((S.1 231 24) + 3))) := i_12.A (k := 251) (show (-2147483648) ≤ S.2.1 247 ((S.1 231 24) + 3) ∧ S.2.1 247 ((S.1 231 24) + 3) ≤ 2147483647 from ⟨by omega, by omega⟩)
    refine lv_aload_n hx hb dX12_tellSet_49 rfl (lv_at hl 1 rfl) ?_
    refine lv_dup hx hb dX12_tellSet_50 rfl ?_
    refine g_X12_315 Cx hW (k := 231) (by decide) rfl (v := S.1 231 24) ((uA_f).trans ((uA_f).trans (gu_3 24 rfl))) dX12_tellSet_51 ?_
    refine lv_iconst (v := iv 5) hx hb dX12_tellSet_54 (by decide) ?_
    refine r_iadd hx hb dX12_tellSet_55 ?_
    refine p_X12_315 Cx hW hL (k := 231) (by decide) rfl dX12_tellSet_56 (fun H locs hW hL => ?_)
    have F_16 : Fr S (uF (uA (uA u_3 250 nm (S.2.1 247 ((S.1 231 24) + 1))) 251 nm (S.2.1 247 ((S.1 231 24) + 3))) 231 24 ((S.1 231 24) + 5)) (pl [231, 248, 249, 250, 251, 252]) := F_14.F rfl
    have g_17 : FF S (uF (uA (uA u_3 250 nm (S.2.1 247 ((S.1 231 24) + 1))) 251 nm (S.2.1 247 ((S.1 231 24) + 3))) 231 24 ((S.1 231 24) + 5)) (fl [20, 21, 24, 25, 33]) := FF.F g_6 rfl
    have i_18 : dX G (uF (uA (uA u_3 250 nm (S.2.1 247 ((S.1 231 24) + 1))) 251 nm (S.2.1 247 ((S.1 231 24) + 3))) 231 24 ((S.1 231 24) + 5)) := i_15.F (i := 24) (show (-2147483648) ≤ (S.1 231 24) + 5 ∧ (S.1 231 24) + 5 ≤ 2147483647 from ⟨by omega, by omega⟩)
    refine lv_aload_n hx hb dX12_tellSet_59 rfl (lv_at hl 1 rfl) ?_
    refine g_X12_65 Cx hW (k := 231) (by decide) rfl (v := .ref (G.2.2.1 + 250)) (rd_28 i_18) dX12_tellSet_60 ?_
    refine lv_iload_n hx hb dX12_tellSet_63 rfl (lv_at hl 0 rfl) ?_
    refine rIald Cx hW (k := 250) (by decide) rfl (by decide) (by omega) (by omega) dX12_tellSet_64 ?_
    refine r_i (b := S.2.1 247 ((S.1 231 24) + 1)) ((uF_a).trans ((uA_ne (fun h => absurd h.1 (by decide))).trans (uA_on))) ?_
    refine lv_aload_n hx hb dX12_tellSet_65 rfl (lv_at hl 1 rfl) ?_
    refine g_X12_68 Cx hW (k := 231) (by decide) rfl (v := .ref (G.2.2.1 + 251)) (rd_29 i_18) dX12_tellSet_66 ?_
    refine lv_iload_n hx hb dX12_tellSet_69 rfl (lv_at hl 0 rfl) ?_
    refine rIald Cx hW (k := 251) (by decide) rfl (by decide) (by omega) (by omega) dX12_tellSet_70 ?_
    refine r_i (b := S.2.1 247 ((S.1 231 24) + 3)) ((uF_a).trans (uA_on)) ?_
    refine r_icmp_gt (tgt := 92) hx hb ⟨(by omega), (by omega)⟩ ⟨(by omega), (by omega)⟩ dX12_tellSet_71 (by decide) (fun c_19 => ?_) (fun c_19 => ?_)
    · refine lv_aload_n hx hb dX12_tellSet_92 rfl (lv_at hl 1 rfl) ?_
      refine lv_iconst (v := iv 3) hx hb dX12_tellSet_93 (by decide) ?_
      refine lv_iload_n hx hb dX12_tellSet_94 rfl (lv_at hl 2 rfl) ?_
      refine sBv (sV (As := [.int (iv 3), .int (iv tk)]) (rest := []) (k := 231) Cx (s_X12_wrong l G (uF (uA (uA u_3 250 nm (S.2.1 247 ((S.1 231 24) + 1))) 251 nm (S.2.1 247 ((S.1 231 24) + 3))) 231 24 ((S.1 231 24) + 5)) (cd := 3) (tk := tk) i_18 (by omega) (by omega)) (c_X12_321 Cx rfl rfl (rmk_ok (by omega) (by decide))) hW (by decide) rfl rfl rfl hl.1 rfl (Nat.le_of_ble_eq_true rfl) dX12_tellSet_95 ⟨Nat.le_of_ble_eq_true rfl, Nat.le_of_ble_eq_true rfl⟩) hL (fun u_20 H locs k_21 hW hL => ?_)
      obtain ⟨iu_20, fu_20, gu_20, xu_20⟩ := k_21
      have F_22 := F_16.trans (fu_20.to (pl_sub (by decide)))
      have g_23 : FF S u_20 (fl [20, 21, 24, 25, 33]) := FF.trans g_17 (FF.to gu_20 (fl_sub (by decide)))
      refine lv_aload_n hx hb dX12_tellSet_98 rfl (lv_at hl 1 rfl) ?_
      refine lv_dup hx hb dX12_tellSet_99 rfl ?_
      have q_24 : (-2147483648) ≤ S.1 231 33 ∧ S.1 231 33 ≤ 2147483647 := hI.fi 33
      refine g_X12_370 Cx hW (k := 231) (by decide) rfl (v := S.1 231 33) ((gu_20 33 rfl).trans ((uF_ne (fun h => absurd h.2 (by decide))).trans ((uA_f).trans ((uA_f).trans (gu_3 33 rfl))))) dX12_tellSet_100 ?_
      refine lv_iconst (v := iv 1) hx hb dX12_tellSet_103 (by decide) ?_
      refine r_iadd hx hb dX12_tellSet_104 ?_
      refine p_X12_370 Cx hW hL (k := 231) (by decide) rfl dX12_tellSet_105 (fun H locs hW hL => ?_)
      have F_25 : Fr S (uF u_20 231 33 ((S.1 231 33) + 1)) (pl [231, 248, 249, 250, 251, 252]) := F_22.F rfl
      have g_26 : FF S (uF u_20 231 33 ((S.1 231 33) + 1)) (fl [20, 21, 24, 25, 33]) := FF.F g_23 rfl
      have i_27 : dX G (uF u_20 231 33 ((S.1 231 33) + 1)) := iu_20.F (i := 33) (show (-2147483648) ≤ (S.1 231 33) + 1 ∧ (S.1 231 33) + 1 ≤ 2147483647 from ⟨by omega, by omega⟩)
      refine lv_aload_n hx hb dX12_tellSet_108 rfl (lv_at hl 1 rfl) ?_
      refine g_X12_370 Cx hW (k := 231) (by decide) rfl (v := (S.1 231 33) + 1) uF_on dX12_tellSet_109 ?_
      refine lv_bipush (v := iv 8) hx hb dX12_tellSet_112 (by decide) ?_
      refine r_icmp_le (tgt := 124) hx hb ⟨(by omega), (by omega)⟩ ⟨(by omega), (by omega)⟩ dX12_tellSet_114 (by decide) (fun c_28 => ?_) (fun c_28 => ?_)
      · have q_29 : (-2147483648) ≤ u_20.1 231 20 ∧ u_20.1 231 20 ≤ 2147483647 := iu_20.fi 20
        have lk_30 : (uF u_20 231 33 ((S.1 231 33) + 1)).1 231 20 = u_20.1 231 20 := uF_ne (fun h => absurd h.2 (by decide))
        have q_31 : (-2147483648) ≤ u_3.1 231 25 ∧ u_3.1 231 25 ≤ 2147483647 := iu_3.fi 25
        have lk_32 : (uF u_20 231 33 ((S.1 231 33) + 1)).1 231 25 = u_3.1 231 25 := (uF_ne (fun h => absurd h.2 (by decide))).trans ((gu_20 25 rfl).trans ((uF_ne (fun h => absurd h.2 (by decide))).trans ((uA_f).trans (uA_f))))
        have lk_33 : (uF u_20 231 33 ((S.1 231 33) + 1)).1 231 24 = (S.1 231 24) + 5 := (uF_ne (fun h => absurd h.2 (by decide))).trans ((gu_20 24 rfl).trans (uF_on))
        have lk_34 : (uF u_20 231 33 ((S.1 231 33) + 1)).1 231 33 = (S.1 231 33) + 1 := uF_on
        exact sVret Cx hr hlk hW hL ⟨i_27, F_25, g_26, (fun h => absurd h (by have e9 := (show (uF u_20 231 33 ((S.1 231 33) + 1)).1 231 20 = u_20.1 231 20 from uF_ne (fun h => absurd h.2 (by decide))); have a9 := xu_20; omega))⟩ dX12_tellSet_124
      · refine lv_aload_n hx hb dX12_tellSet_117 rfl (lv_at hl 1 rfl) ?_
        refine lv_bipush (v := iv 7) hx hb dX12_tellSet_118 (by decide) ?_
        refine lv_iload_n hx hb dX12_tellSet_120 rfl (lv_at hl 2 rfl) ?_
        refine sBv (sV (As := [.int (iv 7), .int (iv tk)]) (rest := []) (k := 231) Cx (s_X12_wrong l G (uF u_20 231 33 ((S.1 231 33) + 1)) (cd := 7) (tk := tk) i_27 (by omega) (by omega)) (c_X12_321 Cx rfl rfl (rmk_ok (by omega) (by decide))) hW (by decide) rfl rfl rfl hl.1 rfl (Nat.le_of_ble_eq_true rfl) dX12_tellSet_121 ⟨Nat.le_of_ble_eq_true rfl, Nat.le_of_ble_eq_true rfl⟩) hL (fun u_35 H locs k_36 hW hL => ?_)
        obtain ⟨iu_35, fu_35, gu_35, xu_35⟩ := k_36
        have F_37 := F_25.trans (fu_35.to (pl_sub (by decide)))
        have g_38 : FF S u_35 (fl [20, 21, 24, 25, 33]) := FF.trans g_26 (FF.to gu_35 (fl_sub (by decide)))
        have q_39 : (-2147483648) ≤ u_35.1 231 20 ∧ u_35.1 231 20 ≤ 2147483647 := iu_35.fi 20
        have q_40 : (-2147483648) ≤ u_3.1 231 25 ∧ u_3.1 231 25 ≤ 2147483647 := iu_3.fi 25
        have lk_41 : u_35.1 231 25 = u_3.1 231 25 := (gu_35 25 rfl).trans ((uF_ne (fun h => absurd h.2 (by decide))).trans ((gu_20 25 rfl).trans ((uF_ne (fun h => absurd h.2 (by decide))).trans ((uA_f).trans (uA_f)))))
        have lk_42 : u_35.1 231 24 = (S.1 231 24) + 5 := (gu_35 24 rfl).trans ((uF_ne (fun h => absurd h.2 (by decide))).trans ((gu_20 24 rfl).trans (uF_on)))
        have lk_43 : u_35.1 231 33 = (S.1 231 33) + 1 := (gu_35 33 rfl).trans (uF_on)
        exact sVret Cx hr hlk hW hL ⟨iu_35, F_37, g_38, (fun h => absurd h (by have e9 := (show u_35.1 231 20 = u_35.1 231 20 from rfl); have a9 := xu_35; omega))⟩ dX12_tellSet_124
    · refine lv_aload_n hx hb dX12_tellSet_74 rfl (lv_at hl 1 rfl) ?_
      refine g_X12_68 Cx hW (k := 231) (by decide) rfl (v := .ref (G.2.2.1 + 251)) (rd_29 i_18) dX12_tellSet_75 ?_
      refine lv_iload_n hx hb dX12_tellSet_78 rfl (lv_at hl 0 rfl) ?_
      refine rIald Cx hW (k := 251) (by decide) rfl (by decide) (by omega) (by omega) dX12_tellSet_79 ?_
      refine r_i (b := S.2.1 247 ((S.1 231 24) + 3)) ((uF_a).trans (uA_on)) ?_
      refine lv_aload_n hx hb dX12_tellSet_80 rfl (lv_at hl 1 rfl) ?_
      refine g_X12_65 Cx hW (k := 231) (by decide) rfl (v := .ref (G.2.2.1 + 250)) (rd_28 i_18) dX12_tellSet_81 ?_
      refine lv_iload_n hx hb dX12_tellSet_84 rfl (lv_at hl 0 rfl) ?_
      refine rIald Cx hW (k := 250) (by decide) rfl (by decide) (by omega) (by omega) dX12_tellSet_85 ?_
      refine r_i (b := S.2.1 247 ((S.1 231 24) + 1)) ((uF_a).trans ((uA_ne (fun h => absurd h.1 (by decide))).trans (uA_on))) ?_
      refine r_isub hx hb dX12_tellSet_86 ?_
      refine lv_bipush (v := iv 12) hx hb dX12_tellSet_87 (by decide) ?_
      refine r_icmp_lt (tgt := 98) hx hb ⟨(by omega), (by omega)⟩ ⟨(by omega), (by omega)⟩ dX12_tellSet_89 (by decide) (fun c_44 => ?_) (fun c_44 => ?_)
      · refine lv_aload_n hx hb dX12_tellSet_98 rfl (lv_at hl 1 rfl) ?_
        refine lv_dup hx hb dX12_tellSet_99 rfl ?_
        have q_45 : (-2147483648) ≤ S.1 231 33 ∧ S.1 231 33 ≤ 2147483647 := hI.fi 33
        refine g_X12_370 Cx hW (k := 231) (by decide) rfl (v := S.1 231 33) ((uF_ne (fun h => absurd h.2 (by decide))).trans ((uA_f).trans ((uA_f).trans (gu_3 33 rfl)))) dX12_tellSet_100 ?_
        refine lv_iconst (v := iv 1) hx hb dX12_tellSet_103 (by decide) ?_
        refine r_iadd hx hb dX12_tellSet_104 ?_
        refine p_X12_370 Cx hW hL (k := 231) (by decide) rfl dX12_tellSet_105 (fun H locs hW hL => ?_)
        have F_46 : Fr S (uF (uF (uA (uA u_3 250 nm (S.2.1 247 ((S.1 231 24) + 1))) 251 nm (S.2.1 247 ((S.1 231 24) + 3))) 231 24 ((S.1 231 24) + 5)) 231 33 ((S.1 231 33) + 1)) (pl [231, 248, 249, 250, 251, 252]) := F_16.F rfl
        have g_47 : FF S (uF (uF (uA (uA u_3 250 nm (S.2.1 247 ((S.1 231 24) + 1))) 251 nm (S.2.1 247 ((S.1 231 24) + 3))) 231 24 ((S.1 231 24) + 5)) 231 33 ((S.1 231 33) + 1)) (fl [20, 21, 24, 25, 33]) := FF.F g_17 rfl
        have i_48 : dX G (uF (uF (uA (uA u_3 250 nm (S.2.1 247 ((S.1 231 24) + 1))) 251 nm (S.2.1 247 ((S.1 231 24) + 3))) 231 24 ((S.1 231 24) + 5)) 231 33 ((S.1 231 33) + 1)) := i_18.F (i := 33) (show (-2147483648) ≤ (S.1 231 33) + 1 ∧ (S.1 231 33) + 1 ≤ 2147483647 from ⟨by omega, by omega⟩)
        refine lv_aload_n hx hb dX12_tellSet_108 rfl (lv_at hl 1 rfl) ?_
        refine g_X12_370 Cx hW (k := 231) (by decide) rfl (v := (S.1 231 33) + 1) uF_on dX12_tellSet_109 ?_
        refine lv_bipush (v := iv 8) hx hb dX12_tellSet_112 (by decide) ?_
        refine r_icmp_le (tgt := 124) hx hb ⟨(by omega), (by omega)⟩ ⟨(by omega), (by omega)⟩ dX12_tellSet_114 (by decide) (fun c_49 => ?_) (fun c_49 => ?_)
        · have lk_50 : (uF (uF (uA (uA u_3 250 nm (S.2.1 247 ((S.1 231 24) + 1))) 251 nm (S.2.1 247 ((S.1 231 24) + 3))) 231 24 ((S.1 231 24) + 5)) 231 33 ((S.1 231 33) + 1)).1 231 20 = u_3.1 231 20 := (uF_ne (fun h => absurd h.2 (by decide))).trans ((uF_ne (fun h => absurd h.2 (by decide))).trans ((uA_f).trans (uA_f)))
          have q_51 : (-2147483648) ≤ u_3.1 231 25 ∧ u_3.1 231 25 ≤ 2147483647 := iu_3.fi 25
          have lk_52 : (uF (uF (uA (uA u_3 250 nm (S.2.1 247 ((S.1 231 24) + 1))) 251 nm (S.2.1 247 ((S.1 231 24) + 3))) 231 24 ((S.1 231 24) + 5)) 231 33 ((S.1 231 33) + 1)).1 231 25 = u_3.1 231 25 := (uF_ne (fun h => absurd h.2 (by decide))).trans ((uF_ne (fun h => absurd h.2 (by decide))).trans ((uA_f).trans (uA_f)))
          have lk_53 : (uF (uF (uA (uA u_3 250 nm (S.2.1 247 ((S.1 231 24) + 1))) 251 nm (S.2.1 247 ((S.1 231 24) + 3))) 231 24 ((S.1 231 24) + 5)) 231 33 ((S.1 231 33) + 1)).1 231 24 = (S.1 231 24) + 5 := (uF_ne (fun h => absurd h.2 (by decide))).trans (uF_on)
          have lk_54 : (uF (uF (uA (uA u_3 250 nm (S.2.1 247 ((S.1 231 24) + 1))) 251 nm (S.2.1 247 ((S.1 231 24) + 3))) 231 24 ((S.1 231 24) + 5)) 231 33 ((S.1 231 33) + 1)).1 231 33 = (S.1 231 33) + 1 := uF_on
          exact sVret Cx hr hlk hW hL ⟨i_48, F_46, g_47, (fun _ => ⟨(NX.addG (S := S) (u := (uF (uF (uA (uA u_3 250 nm (S.2.1 247 ((S.1 231 24) + 1))) 251 nm (S.2.1 247 ((S.1 231 24) + 3))) 231 24 ((S.1 231 24) + 5)) 231 33 ((S.1 231 33) + 1))) (tk := tk) (so := 1) (a := S.2.1 247 ((S.1 231 24) + 1)) (b := S.2.1 247 ((S.1 231 24) + 3)) (f := 0) hNX ⟨(fun x => ((uF_a).trans ((uF_a).trans ((uA_ne (fun h => absurd h.1 (by decide))).trans (uA_ne (fun h => absurd h.1 (by decide)))))).trans (a1.2.2.2.1 x)), (fun x => ((uF_a).trans ((uF_a).trans ((uA_ne (fun h => absurd h.1 (by decide))).trans (uA_ne (fun h => absurd h.1 (by decide)))))).trans (a1.2.2.2.2.1 x)), (fun x => by rw [show (uF (uF (uA (uA u_3 250 nm (S.2.1 247 ((S.1 231 24) + 1))) 251 nm (S.2.1 247 ((S.1 231 24) + 3))) 231 24 ((S.1 231 24) + 5)) 231 33 ((S.1 231 33) + 1)).2.1 250 x = (uA u_3 250 nm (S.2.1 247 ((S.1 231 24) + 1))).2.1 250 x from (uF_a).trans ((uF_a).trans (uA_ne (fun h => absurd h.1 (by decide)))), uA_get]; by_cases z : x = S.1 231 25; (rw [if_pos ⟨rfl, (by omega)⟩, if_pos z]); rw [if_neg (fun h => z (by have := h.2; omega)), if_neg z]; exact (rfl).trans ((a1.2.2.2.2.2.1 x).trans (if_neg z))), (fun x => by rw [show (uF (uF (uA (uA u_3 250 nm (S.2.1 247 ((S.1 231 24) + 1))) 251 nm (S.2.1 247 ((S.1 231 24) + 3))) 231 24 ((S.1 231 24) + 5)) 231 33 ((S.1 231 33) + 1)).2.1 251 x = (uA (uA u_3 250 nm (S.2.1 247 ((S.1 231 24) + 1))) 251 nm (S.2.1 247 ((S.1 231 24) + 3))).2.1 251 x from (uF_a).trans (uF_a), uA_get]; by_cases z : x = S.1 231 25; (rw [if_pos ⟨rfl, (by omega)⟩, if_pos z]); rw [if_neg (fun h => z (by have := h.2; omega)), if_neg z]; exact (uA_ne (fun h => absurd h.1 (by decide))).trans ((a1.2.2.2.2.2.2.1 x).trans (if_neg z))), (fun x => ((uF_a).trans ((uF_a).trans ((uA_ne (fun h => absurd h.1 (by decide))).trans (uA_ne (fun h => absurd h.1 (by decide)))))).trans (a1.2.2.2.2.2.2.2 x))⟩ (by have y25 := (show (uF (uF (uA (uA u_3 250 nm (S.2.1 247 ((S.1 231 24) + 1))) 251 nm (S.2.1 247 ((S.1 231 24) + 3))) 231 24 ((S.1 231 24) + 5)) 231 33 ((S.1 231 33) + 1)).1 231 25 = u_3.1 231 25 from (uF_ne (fun h => absurd h.2 (by decide))).trans ((uF_ne (fun h => absurd h.2 (by decide))).trans ((uA_f).trans (uA_f)))); omega) (by have y32 := (show (uF (uF (uA (uA u_3 250 nm (S.2.1 247 ((S.1 231 24) + 1))) 251 nm (S.2.1 247 ((S.1 231 24) + 3))) 231 24 ((S.1 231 24) + 5)) 231 33 ((S.1 231 33) + 1)).1 231 32 = S.1 231 32 from (uF_ne (fun h => absurd h.2 (by decide))).trans ((uF_ne (fun h => absurd h.2 (by decide))).trans ((uA_f).trans ((uA_f).trans (gu_3 32 rfl))))); omega) (by have y35 := (show (uF (uF (uA (uA u_3 250 nm (S.2.1 247 ((S.1 231 24) + 1))) 251 nm (S.2.1 247 ((S.1 231 24) + 3))) 231 24 ((S.1 231 24) + 5)) 231 33 ((S.1 231 33) + 1)).1 231 35 = S.1 231 35 from (uF_ne (fun h => absurd h.2 (by decide))).trans ((uF_ne (fun h => absurd h.2 (by decide))).trans ((uA_f).trans ((uA_f).trans (gu_3 35 rfl))))); omega) (fun i i0 i1 => by rw [show (uF (uF (uA (uA u_3 250 nm (S.2.1 247 ((S.1 231 24) + 1))) 251 nm (S.2.1 247 ((S.1 231 24) + 3))) 231 24 ((S.1 231 24) + 5)) 231 33 ((S.1 231 33) + 1)).2.1 253 = S.2.1 253 from (funext fun j => (uF_a).trans ((uF_a).trans ((uA_ne (fun h => absurd h.1 (by decide))).trans ((uA_ne (fun h => absurd h.1 (by decide))).trans ((fu_3 253 rfl).2.1 j)))))]; exact hNX.2.1 i i0 (by have y32 := (show (uF (uF (uA (uA u_3 250 nm (S.2.1 247 ((S.1 231 24) + 1))) 251 nm (S.2.1 247 ((S.1 231 24) + 3))) 231 24 ((S.1 231 24) + 5)) 231 33 ((S.1 231 33) + 1)).1 231 32 = S.1 231 32 from (uF_ne (fun h => absurd h.2 (by decide))).trans ((uF_ne (fun h => absurd h.2 (by decide))).trans ((uA_f).trans ((uA_f).trans (gu_3 32 rfl))))); omega)) (by omega) (fun _ => by omega) (fun z => absurd z (by omega)) (fun z => absurd z (by omega)) (fun z => absurd z (by omega)) (fun z => absurd z (by omega))), (by have y25 := (show (uF (uF (uA (uA u_3 250 nm (S.2.1 247 ((S.1 231 24) + 1))) 251 nm (S.2.1 247 ((S.1 231 24) + 3))) 231 24 ((S.1 231 24) + 5)) 231 33 ((S.1 231 33) + 1)).1 231 25 = u_3.1 231 25 from (uF_ne (fun h => absurd h.2 (by decide))).trans ((uF_ne (fun h => absurd h.2 (by decide))).trans ((uA_f).trans (uA_f)))); omega), (by have y24 := (show (uF (uF (uA (uA u_3 250 nm (S.2.1 247 ((S.1 231 24) + 1))) 251 nm (S.2.1 247 ((S.1 231 24) + 3))) 231 24 ((S.1 231 24) + 5)) 231 33 ((S.1 231 33) + 1)).1 231 24 = (S.1 231 24) + 5 from (uF_ne (fun h => absurd h.2 (by decide))).trans (uF_on)); omega), (by have y33 := (show (uF (uF (uA (uA u_3 250 nm (S.2.1 247 ((S.1 231 24) + 1))) 251 nm (S.2.1 247 ((S.1 231 24) + 3))) 231 24 ((S.1 231 24) + 5)) 231 33 ((S.1 231 33) + 1)).1 231 33 = (S.1 231 33) + 1 from uF_on); omega), (by have y33 := (show (uF (uF (uA (uA u_3 250 nm (S.2.1 247 ((S.1 231 24) + 1))) 251 nm (S.2.1 247 ((S.1 231 24) + 3))) 231 24 ((S.1 231 24) + 5)) 231 33 ((S.1 231 33) + 1)).1 231 33 = (S.1 231 33) + 1 from uF_on); omega)⟩)⟩ dX12_tellSet_124
        · refine lv_aload_n hx hb dX12_tellSet_117 rfl (lv_at hl 1 rfl) ?_
          refine lv_bipush (v := iv 7) hx hb dX12_tellSet_118 (by decide) ?_
          refine lv_iload_n hx hb dX12_tellSet_120 rfl (lv_at hl 2 rfl) ?_
          refine sBv (sV (As := [.int (iv 7), .int (iv tk)]) (rest := []) (k := 231) Cx (s_X12_wrong l G (uF (uF (uA (uA u_3 250 nm (S.2.1 247 ((S.1 231 24) + 1))) 251 nm (S.2.1 247 ((S.1 231 24) + 3))) 231 24 ((S.1 231 24) + 5)) 231 33 ((S.1 231 33) + 1)) (cd := 7) (tk := tk) i_48 (by omega) (by omega)) (c_X12_321 Cx rfl rfl (rmk_ok (by omega) (by decide))) hW (by decide) rfl rfl rfl hl.1 rfl (Nat.le_of_ble_eq_true rfl) dX12_tellSet_121 ⟨Nat.le_of_ble_eq_true rfl, Nat.le_of_ble_eq_true rfl⟩) hL (fun u_55 H locs k_56 hW hL => ?_)
          obtain ⟨iu_55, fu_55, gu_55, xu_55⟩ := k_56
          have F_57 := F_46.trans (fu_55.to (pl_sub (by decide)))
          have g_58 : FF S u_55 (fl [20, 21, 24, 25, 33]) := FF.trans g_47 (FF.to gu_55 (fl_sub (by decide)))
          have q_59 : (-2147483648) ≤ u_55.1 231 20 ∧ u_55.1 231 20 ≤ 2147483647 := iu_55.fi 20
          have q_60 : (-2147483648) ≤ u_3.1 231 25 ∧ u_3.1 231 25 ≤ 2147483647 := iu_3.fi 25
          have lk_61 : u_55.1 231 25 = u_3.1 231 25 := (gu_55 25 rfl).trans ((uF_ne (fun h => absurd h.2 (by decide))).trans ((uF_ne (fun h => absurd h.2 (by decide))).trans ((uA_f).trans (uA_f))))
          have lk_62 : u_55.1 231 24 = (S.1 231 24) + 5 := (gu_55 24 rfl).trans ((uF_ne (fun h => absurd h.2 (by decide))).trans (uF_on))
          have lk_63 : u_55.1 231 33 = (S.1 231 33) + 1 := (gu_55 33 rfl).trans (uF_on)
          exact sVret Cx hr hlk hW hL ⟨iu_55, F_57, g_58, (fun h => absurd h (by have e9 := (show u_55.1 231 20 = u_55.1 231 20 from rfl); have a9 := xu_55; omega))⟩ dX12_tellSet_124
      · refine lv_aload_n hx hb dX12_tellSet_92 rfl (lv_at hl 1 rfl) ?_
        refine lv_iconst (v := iv 3) hx hb dX12_tellSet_93 (by decide) ?_
        refine lv_iload_n hx hb dX12_tellSet_94 rfl (lv_at hl 2 rfl) ?_
        refine sBv (sV (As := [.int (iv 3), .int (iv tk)]) (rest := []) (k := 231) Cx (s_X12_wrong l G (uF (uA (uA u_3 250 nm (S.2.1 247 ((S.1 231 24) + 1))) 251 nm (S.2.1 247 ((S.1 231 24) + 3))) 231 24 ((S.1 231 24) + 5)) (cd := 3) (tk := tk) i_18 (by omega) (by omega)) (c_X12_321 Cx rfl rfl (rmk_ok (by omega) (by decide))) hW (by decide) rfl rfl rfl hl.1 rfl (Nat.le_of_ble_eq_true rfl) dX12_tellSet_95 ⟨Nat.le_of_ble_eq_true rfl, Nat.le_of_ble_eq_true rfl⟩) hL (fun u_64 H locs k_65 hW hL => ?_)
        obtain ⟨iu_64, fu_64, gu_64, xu_64⟩ := k_65
        have F_66 := F_16.trans (fu_64.to (pl_sub (by decide)))
        have g_67 : FF S u_64 (fl [20, 21, 24, 25, 33]) := FF.trans g_17 (FF.to gu_64 (fl_sub (by decide)))
        refine lv_aload_n hx hb dX12_tellSet_98 rfl (lv_at hl 1 rfl) ?_
        refine lv_dup hx hb dX12_tellSet_99 rfl ?_
        have q_68 : (-2147483648) ≤ S.1 231 33 ∧ S.1 231 33 ≤ 2147483647 := hI.fi 33
        refine g_X12_370 Cx hW (k := 231) (by decide) rfl (v := S.1 231 33) ((gu_64 33 rfl).trans ((uF_ne (fun h => absurd h.2 (by decide))).trans ((uA_f).trans ((uA_f).trans (gu_3 33 rfl))))) dX12_tellSet_100 ?_
        refine lv_iconst (v := iv 1) hx hb dX12_tellSet_103 (by decide) ?_
        refine r_iadd hx hb dX12_tellSet_104 ?_
        refine p_X12_370 Cx hW hL (k := 231) (by decide) rfl dX12_tellSet_105 (fun H locs hW hL => ?_)
        have F_69 : Fr S (uF u_64 231 33 ((S.1 231 33) + 1)) (pl [231, 248, 249, 250, 251, 252]) := F_66.F rfl
        have g_70 : FF S (uF u_64 231 33 ((S.1 231 33) + 1)) (fl [20, 21, 24, 25, 33]) := FF.F g_67 rfl
        have i_71 : dX G (uF u_64 231 33 ((S.1 231 33) + 1)) := iu_64.F (i := 33) (show (-2147483648) ≤ (S.1 231 33) + 1 ∧ (S.1 231 33) + 1 ≤ 2147483647 from ⟨by omega, by omega⟩)
        refine lv_aload_n hx hb dX12_tellSet_108 rfl (lv_at hl 1 rfl) ?_
        refine g_X12_370 Cx hW (k := 231) (by decide) rfl (v := (S.1 231 33) + 1) uF_on dX12_tellSet_109 ?_
        refine lv_bipush (v := iv 8) hx hb dX12_tellSet_112 (by decide) ?_
        refine r_icmp_le (tgt := 124) hx hb ⟨(by omega), (by omega)⟩ ⟨(by omega), (by omega)⟩ dX12_tellSet_114 (by decide) (fun c_72 => ?_) (fun c_72 => ?_)
        · have q_73 : (-2147483648) ≤ u_64.1 231 20 ∧ u_64.1 231 20 ≤ 2147483647 := iu_64.fi 20
          have lk_74 : (uF u_64 231 33 ((S.1 231 33) + 1)).1 231 20 = u_64.1 231 20 := uF_ne (fun h => absurd h.2 (by decide))
          have q_75 : (-2147483648) ≤ u_3.1 231 25 ∧ u_3.1 231 25 ≤ 2147483647 := iu_3.fi 25
          have lk_76 : (uF u_64 231 33 ((S.1 231 33) + 1)).1 231 25 = u_3.1 231 25 := (uF_ne (fun h => absurd h.2 (by decide))).trans ((gu_64 25 rfl).trans ((uF_ne (fun h => absurd h.2 (by decide))).trans ((uA_f).trans (uA_f))))
          have lk_77 : (uF u_64 231 33 ((S.1 231 33) + 1)).1 231 24 = (S.1 231 24) + 5 := (uF_ne (fun h => absurd h.2 (by decide))).trans ((gu_64 24 rfl).trans (uF_on))
          have lk_78 : (uF u_64 231 33 ((S.1 231 33) + 1)).1 231 33 = (S.1 231 33) + 1 := uF_on
          exact sVret Cx hr hlk hW hL ⟨i_71, F_69, g_70, (fun h => absurd h (by have e9 := (show (uF u_64 231 33 ((S.1 231 33) + 1)).1 231 20 = u_64.1 231 20 from uF_ne (fun h => absurd h.2 (by decide))); have a9 := xu_64; omega))⟩ dX12_tellSet_124
        · refine lv_aload_n hx hb dX12_tellSet_117 rfl (lv_at hl 1 rfl) ?_
          refine lv_bipush (v := iv 7) hx hb dX12_tellSet_118 (by decide) ?_
          refine lv_iload_n hx hb dX12_tellSet_120 rfl (lv_at hl 2 rfl) ?_
          refine sBv (sV (As := [.int (iv 7), .int (iv tk)]) (rest := []) (k := 231) Cx (s_X12_wrong l G (uF u_64 231 33 ((S.1 231 33) + 1)) (cd := 7) (tk := tk) i_71 (by omega) (by omega)) (c_X12_321 Cx rfl rfl (rmk_ok (by omega) (by decide))) hW (by decide) rfl rfl rfl hl.1 rfl (Nat.le_of_ble_eq_true rfl) dX12_tellSet_121 ⟨Nat.le_of_ble_eq_true rfl, Nat.le_of_ble_eq_true rfl⟩) hL (fun u_79 H locs k_80 hW hL => ?_)
          obtain ⟨iu_79, fu_79, gu_79, xu_79⟩ := k_80
          have F_81 := F_69.trans (fu_79.to (pl_sub (by decide)))
          have g_82 : FF S u_79 (fl [20, 21, 24, 25, 33]) := FF.trans g_70 (FF.to gu_79 (fl_sub (by decide)))
          have q_83 : (-2147483648) ≤ u_79.1 231 20 ∧ u_79.1 231 20 ≤ 2147483647 := iu_79.fi 20
          have q_84 : (-2147483648) ≤ u_3.1 231 25 ∧ u_3.1 231 25 ≤ 2147483647 := iu_3.fi 25
          have lk_85 : u_79.1 231 25 = u_3.1 231 25 := (gu_79 25 rfl).trans ((uF_ne (fun h => absurd h.2 (by decide))).trans ((gu_64 25 rfl).trans ((uF_ne (fun h => absurd h.2 (by decide))).trans ((uA_f).trans (uA_f)))))
          have lk_86 : u_79.1 231 24 = (S.1 231 24) + 5 := (gu_79 24 rfl).trans ((uF_ne (fun h => absurd h.2 (by decide))).trans ((gu_64 24 rfl).trans (uF_on)))
          have lk_87 : u_79.1 231 33 = (S.1 231 33) + 1 := (gu_79 33 rfl).trans (uF_on)
          exact sVret Cx hr hlk hW hL ⟨iu_79, F_81, g_82, (fun h => absurd h (by have e9 := (show u_79.1 231 20 = u_79.1 231 20 from rfl); have a9 := xu_79; omega))⟩ dX12_tellSet_124
  · have q_88 : (-2147483648) ≤ u_3.1 231 25 ∧ u_3.1 231 25 ≤ 2147483647 := iu_3.fi 25
    have q_89 : (-2147483648) ≤ S.1 231 24 ∧ S.1 231 24 ≤ 2147483647 := hI.fi 24
    have lk_90 : u_3.1 231 24 = S.1 231 24 := gu_3 24 rfl
    have q_91 : (-2147483648) ≤ S.1 231 33 ∧ S.1 231 33 ≤ 2147483647 := hI.fi 33
    have lk_92 : u_3.1 231 33 = S.1 231 33 := gu_3 33 rfl
    exact sVret Cx hr hlk hW hL ⟨iu_3, F_5, g_6, (fun h => absurd h (by have e9 := (show u_3.1 231 20 = u_3.1 231 20 from rfl); omega))⟩ dX12_tellSet_14

set_option maxRecDepth 100000 in
set_option maxHeartbeats 4000000 in
theorem s_X12_tellPar (l : Launch) (G : sG) (S : sS) {K V Fm Wd : Int → Int} {T : Int} {pz q tk : Int} (hI : dX G S) (hK : S.2.1 244 = K) (hV : S.2.1 247 = V) (hFm : S.2.1 245 = Fm) (hWd : S.2.1 246 = Wd) (hQ : gQ K V Fm Wd T) (h20 : S.1 231 20 = 0) (hNX : NX S T) (h3 : 3 * S.1 231 25 + 2 ≤ pz) (hc : S.1 231 24 = pz) (hg : ∃ ed, gI K V pz ed ∧ ∃ c, gs K V 61 ed c ∧ ∃ d, gL (fun c => gS K V c 44) (gV K V) c d ∧ gs K V 59 d q) (hpq : 0 ≤ pz ∧ q ≤ T - 1) (htk : 0 ≤ tk ∧ tk < T) (h32 : S.1 231 32 ≤ pz) (h34 : 0 ≤ S.1 231 34 ∧ S.1 231 34 ≤ 12) : Met l yX12_tellPar (.code yX12_tellPar cX12_tellPar 5 none :: tb) (rmk 4 0 0) (sPc G 294 S [.ref (G.2.2.1 + 231), .int (iv tk)]) (sQv G 294 (fun u => dX G u ∧ Fr S u (pl [231, 248, 249, 250, 251, 252, 253]) ∧ FF S u (fl [20, 21, 24, 25, 32, 34]) ∧ (Hd (u.1 231 20 = 0 → NX u T ∧ u.1 231 25 = S.1 231 25 + 1 ∧ u.1 231 24 = q ∧ u.1 231 32 ≤ q ∧ 0 ≤ u.1 231 34 ∧ u.1 231 34 ≤ 12)))) 0 0 (sF G) := by
  refine sEnter (by decide) (Nat.le_of_ble_eq_true rfl) ?_
  intro p e s m args below meth c Cx hr hlk hnm hW ls hl
  have Cx : sC G p m c cX12_tellPar 5 s args RX12 := Cx
  obtain ⟨hx, hb, hml, hown, hts⟩ := id Cx.1
  have hL : sL G [] := sL_nil
  have hl : lv_has ls 5 [(0, .ref (G.2.2.1 + 231)), (1, .int (iv tk))] := hl
  have hW0 := hW
  have hQ1 := hQ.1
  have hn0 := hNX.1.1
  have hN2 := hNX.2.2
  obtain ⟨ed, hgi, _, ⟨hs1, rfl⟩, d, ⟨e0, hv0, ht0⟩, hs2⟩ := hg
  have hq2 := hs2.2
  have hle := gI_le hgi
  have hl0 := gV_lt hv0
  have hl9 := gV_tl ht0
  refine lv_aload_n hx hb dX12_tellPar_0 rfl (lv_at hl 0 rfl) ?_
  refine lv_iload_n hx hb dX12_tellPar_1 rfl (lv_at hl 1 rfl) ?_
  refine lv_iconst (v := iv 2) hx hb dX12_tellPar_2 (by decide) ?_
  have q_1 : (-2147483648) ≤ S.1 231 20 ∧ S.1 231 20 ≤ 2147483647 := hI.fi 20
  have q_2 : (-2147483648) ≤ S.1 231 25 ∧ S.1 231 25 ≤ 2147483647 := hI.fi 25
  refine sBi (sV (As := [.int (iv tk), .int (iv 2)]) (rest := []) (k := 231) Cx (s_X12_add_ l G S (tk := tk) (so := 2) (K := K) (V := V) (Fm := Fm) (Wd := Wd) (T := T) hI hK hV hFm hWd hQ (fun _ => hNX.nt) (fun _ => by omega) (by omega) (by omega)) (c_X12_404 Cx rfl rfl (rmk_ok (by omega) (by decide))) hW (by decide) rfl rfl rfl hl.1 rfl (Nat.le_of_ble_eq_true rfl) dX12_tellPar_3 ⟨Nat.le_of_ble_eq_true rfl, Nat.le_of_ble_eq_true rfl⟩) hL (fun nm u_3 H locs k_4 hW hL => ?_)
  obtain ⟨iu_3, fu_3, gu_3, xu_3⟩ := k_4
  have F_5 := (Fr.rf : Fr S S (pl [231, 248, 249, 250, 251, 252, 253])).trans (fu_3.to (pl_sub (by decide)))
  have g_6 : FF S u_3 (fl [20, 21, 24, 25, 32, 34]) := FF.trans FF.rf (FF.to gu_3 (fl_sub (by decide)))
  refine lv_istore_n (lv' := [(2, .int (iv nm)), (0, .ref (G.2.2.1 + 231)), (1, .int (iv tk))]) hx hb dX12_tellPar_6 rfl hl (by decide) rfl (fun ls hl => ?_)
  refine lv_aload_n hx hb dX12_tellPar_7 rfl (lv_at hl 1 rfl) ?_
  have q_7 : (-2147483648) ≤ u_3.1 231 20 ∧ u_3.1 231 20 ≤ 2147483647 := iu_3.fi 20
  refine g_X12_270 Cx hW (k := 231) (by decide) rfl (v := u_3.1 231 20) rfl dX12_tellPar_8 ?_
  refine r_if_eq (tgt := 15) hx hb ⟨(by omega), (by omega)⟩ dX12_tellPar_11 (by decide) (fun c_8 => ?_) (fun c_8 => ?_)
  · have a1 := xu_3.2.2 (by omega)
    refine lv_aload_n hx hb dX12_tellPar_15 rfl (lv_at hl 1 rfl) ?_
    refine lv_iload_n hx hb dX12_tellPar_16 rfl (lv_at hl 0 rfl) ?_
    have q_9 : (-2147483648) ≤ u_3.1 231 25 ∧ u_3.1 231 25 ≤ 2147483647 := iu_3.fi 25
    have q_10 : (-2147483648) ≤ S.1 231 24 ∧ S.1 231 24 ≤ 2147483647 := hI.fi 24
    have lk_11 : u_3.1 231 24 = S.1 231 24 := gu_3 24 rfl
    refine sBv (sV (As := [.int (iv nm)]) (rest := []) (k := 231) Cx (s_X12_indexesOf l G u_3 (nm := nm) (K := K) (V := V) (Fm := Fm) (Wd := Wd) (T := T) (pz := pz) (q := ed) iu_3 ((funext fun j => (fu_3 244 rfl).2.1 j : u_3.2.1 244 = S.2.1 244).trans hK) ((funext fun j => (fu_3 247 rfl).2.1 j : u_3.2.1 247 = S.2.1 247).trans hV) ((funext fun j => (fu_3 245 rfl).2.1 j : u_3.2.1 245 = S.2.1 245).trans hFm) ((funext fun j => (fu_3 246 rfl).2.1 j : u_3.2.1 246 = S.2.1 246).trans hWd) hQ (by omega) (NT.add hNX.nt a1.2.2.2 a1.2.2.1 (by omega)) (by omega) (by omega) hgi (by omega) (by omega) (by rw [show nm = S.1 231 25 by omega]; exact ⟨(nRW.at a1.2.2.2).2.2.1, (nRW.at a1.2.2.2).2.2.2.1⟩)) (c_X12_407 Cx rfl rfl (rmk_ok (by omega) (by decide))) hW (by decide) rfl rfl rfl hl.1 rfl (Nat.le_of_ble_eq_true rfl) dX12_tellPar_17 ⟨Nat.le_of_ble_eq_true rfl, Nat.le_of_ble_eq_true rfl⟩) hL (fun u_12 H locs k_13 hW hL => ?_)
    obtain ⟨iu_12, fu_12, gu_12, xu_12⟩ := k_13
    have F_14 := F_5.trans (fu_12.to (pl_sub (by decide)))
    have g_15 : FF S u_12 (fl [20, 21, 24, 25, 32, 34]) := FF.trans g_6 (FF.to gu_12 (fl_sub (by decide)))
    refine lv_aload_n hx hb dX12_tellPar_20 rfl (lv_at hl 1 rfl) ?_
    have q_16 : (-2147483648) ≤ u_12.1 231 20 ∧ u_12.1 231 20 ≤ 2147483647 := iu_12.fi 20
    refine g_X12_270 Cx hW (k := 231) (by decide) rfl (v := u_12.1 231 20) rfl dX12_tellPar_21 ?_
    refine r_if_eq (tgt := 28) hx hb ⟨(by omega), (by omega)⟩ dX12_tellPar_24 (by decide) (fun c_17 => ?_) (fun c_17 => ?_)
    · have a2 := xu_12.2.2 (by omega)
      have ii1 : nIx S (S.1 231 25) (u_12.2.1 250 nm) := nIx.dn a1.2.2.2 (by decide) (by have y := a2.2.1; rw [a1.2.2.1] at y; exact y)
      have ss1 := NX.sx hNX ii1 (by omega)
      have rr1 := nSx.r ss1
      have qq1 : u_12.2.1 250 nm ≠ -1 → u_12.2.1 250 nm ≠ nm := fun z => by rcases ii1 with y | y; (exact absurd y z); omega
      have ii2 : nIx S (S.1 231 25) (u_12.2.1 251 nm) := nIx.dn a1.2.2.2 (by decide) (by have y := a2.2.2.1; rw [a1.2.2.1] at y; exact y)
      have ss2 := NX.sx hNX ii2 (by omega)
      have rr2 := nSx.r ss2
      have qq2 : u_12.2.1 251 nm ≠ -1 → u_12.2.1 251 nm ≠ nm := fun z => by rcases ii2 with y | y; (exact absurd y z); omega
      refine lv_aload_n hx hb dX12_tellPar_28 rfl (lv_at hl 1 rfl) ?_
      refine g_X12_71 Cx hW (k := 231) (by decide) rfl (v := .ref (G.2.2.1 + 252)) (rd_30 iu_12) dX12_tellPar_29 ?_
      refine lv_iload_n hx hb dX12_tellPar_32 rfl (lv_at hl 0 rfl) ?_
      refine lv_aload_n hx hb dX12_tellPar_33 rfl (lv_at hl 1 rfl) ?_
      have q_18 : (-2147483648) ≤ S.1 231 32 ∧ S.1 231 32 ≤ 2147483647 := hI.fi 32
      refine g_X12_367 Cx hW (k := 231) (by decide) rfl (v := S.1 231 32) ((gu_12 32 rfl).trans (gu_3 32 rfl)) dX12_tellPar_34 ?_
      refine rIast Cx hW hL (k := 252) (by decide) rfl (by decide) (by omega) (by omega) dX12_tellPar_37 (fun H locs hW hL => ?_)
      have F_19 : Fr S (uA u_12 252 nm (S.1 231 32)) (pl [231, 248, 249, 250, 251, 252, 253]) := F_14.A rfl
      have i_20 : dX G (uA u_12 252 nm (S.1 231 32)) := iu_12.A (k := 252) (show (-2147483648) ≤ S.1 231 32 ∧ S.1 231 32 ≤ 2147483647 from ⟨by omega, by omega⟩)
      refine lv_iconst (v := iv 0) hx hb dX12_tellPar_38 (by decide) ?_
      refine lv_istore_n (lv' := [(3, .int (iv 0)), (2, .int (iv nm)), (0, .ref (G.2.2.1 + 231)), (1, .int (iv tk))]) hx hb dX12_tellPar_39 rfl hl (by decide) rfl (fun ls hl => ?_)
      have loop_40 : ∀ (fuel : Nat) (S40 : sS) (ct : Int) (H : Heap) (locs : List Loc) (ls : Array Slot), (T - S40.1 231 24).toNat < fuel → (dX G S40) → (Fr S S40 (pl [231, 248, 249, 250, 251, 252, 253])) → (Fr ((uA u_12 252 nm (S.1 231 32))) S40 (pl [231, 253])) → (FF S S40 (fl [20, 21, 24, 25, 32, 34])) → (FF ((uA u_12 252 nm (S.1 231 32))) S40 (fl [24, 32])) → (0 ≤ ct ∧ S40.1 231 32 = S.1 231 32 + ct ∧ S40.1 231 32 ≤ S40.1 231 24 ∧ 0 ≤ S40.1 231 24) → (∃ e1, gV K V (S40.1 231 24 + 1) e1 ∧ gTl (fun c => gS K V c 44) (fun c x => gV K V (c + 1) x) e1 d) → (∀ i, 0 ≤ i → i < S40.1 231 32 → -99999 ≤ S40.2.1 253 i ∧ S40.2.1 253 i ≤ 99999) → sW G 294 S40 H → sL G locs → lv_has ls 5 [(3, .int (iv ct)), (2, .int (iv nm)), (0, .ref (G.2.2.1 + 231)), (1, .int (iv tk))] → W p l e (rmk 4 0 0) s m args below meth c H locs 0 0 (MQ below (sQv G 294 (fun u => dX G u ∧ Fr S u (pl [231, 248, 249, 250, 251, 252, 253]) ∧ FF S u (fl [20, 21, 24, 25, 32, 34]) ∧ (Hd (u.1 231 20 = 0 → NX u T ∧ u.1 231 25 = S.1 231 25 + 1 ∧ u.1 231 24 = q ∧ u.1 231 32 ≤ q ∧ 0 ≤ u.1 231 34 ∧ u.1 231 34 ≤ 12)))) args s 0 0 (sF G)) (F0 m 40 ls []) := by
        intro fuel
        induction fuel with
        | zero => intro S40 ct H locs ls hmeas hI40 hFm40 hL40_ hGm40 gL40_ hct hG40 hP40 hW hL hl; exact absurd hmeas (Nat.not_lt_zero _)
        | succ fuel ih_40 =>
          intro S40 ct H locs ls hmeas hI40 hFm40 hL40_ hGm40 gL40_ hct hG40 hP40 hW hL hl
          obtain ⟨e1, hv, ht⟩ := hG40
          have hl1 := gV_lt hv
          have hl2 := gV_tl ht
          refine lv_aload_n hx hb dX12_tellPar_40 rfl (lv_at hl 2 rfl) ?_
          refine lv_dup hx hb dX12_tellPar_41 rfl ?_
          have q_21 : (-2147483648) ≤ S40.1 231 24 ∧ S40.1 231 24 ≤ 2147483647 := hI40.fi 24
          refine g_X12_315 Cx hW (k := 231) (by decide) rfl (v := S40.1 231 24) rfl dX12_tellPar_42 ?_
          refine lv_iconst (v := iv 1) hx hb dX12_tellPar_45 (by decide) ?_
          refine r_iadd hx hb dX12_tellPar_46 ?_
          refine p_X12_315 Cx hW hL (k := 231) (by decide) rfl dX12_tellPar_47 (fun H locs hW hL => ?_)
          have F_22 : Fr S (uF S40 231 24 ((S40.1 231 24) + 1)) (pl [231, 248, 249, 250, 251, 252, 253]) := hFm40.F rfl
          have F_23 : Fr ((uA u_12 252 nm (S.1 231 32))) (uF S40 231 24 ((S40.1 231 24) + 1)) (pl [231, 253]) := hL40_.F rfl
          have g_24 : FF S (uF S40 231 24 ((S40.1 231 24) + 1)) (fl [20, 21, 24, 25, 32, 34]) := FF.F hGm40 rfl
          have g_25 : FF ((uA u_12 252 nm (S.1 231 32))) (uF S40 231 24 ((S40.1 231 24) + 1)) (fl [24, 32]) := FF.F gL40_ rfl
          have i_26 : dX G (uF S40 231 24 ((S40.1 231 24) + 1)) := hI40.F (i := 24) (show (-2147483648) ≤ (S40.1 231 24) + 1 ∧ (S40.1 231 24) + 1 ≤ 2147483647 from ⟨by omega, by omega⟩)
          refine lv_aload_n hx hb dX12_tellPar_50 rfl (lv_at hl 2 rfl) ?_
          refine lv_bipush (v := iv 45) hx hb dX12_tellPar_51 (by decide) ?_
          have lk_27 : (uF S40 231 24 ((S40.1 231 24) + 1)).1 231 24 = (S40.1 231 24) + 1 := uF_on
          refine sBi (sV (As := [.int (iv 45)]) (rest := []) (k := 231) Cx (s_X12_isSign l G (uF S40 231 24 ((S40.1 231 24) + 1)) (sv := 45) (K := K) (V := V) (pz := (S40.1 231 24) + 1) i_26 (by omega) ((funext fun j => (uF_a).trans (((hL40_ 244 rfl).2.1 j).trans ((uA_ne (fun h => absurd h.1 (by decide))).trans (((fu_12 244 rfl).2.1 j).trans ((fu_3 244 rfl).2.1 j)))) : (uF S40 231 24 ((S40.1 231 24) + 1)).2.1 244 = S.2.1 244).trans hK) ((funext fun j => (uF_a).trans (((hL40_ 247 rfl).2.1 j).trans ((uA_ne (fun h => absurd h.1 (by decide))).trans (((fu_12 247 rfl).2.1 j).trans ((fu_3 247 rfl).2.1 j)))) : (uF S40 231 24 ((S40.1 231 24) + 1)).2.1 247 = S.2.1 247).trans hV) (by omega) (by omega)) (c_X12_318 Cx rfl rfl (rmk_ok (by omega) (by decide))) hW (by decide) rfl rfl rfl hl.1 rfl (Nat.le_of_ble_eq_true rfl) dX12_tellPar_53 ⟨Nat.le_of_ble_eq_true rfl, Nat.le_of_ble_eq_true rfl⟩) hL (fun mi u_28 H locs k_29 hW hL => ?_)
          obtain ⟨eu_28, xu_28⟩ := k_29
          rw [eu_28] at hW
          refine lv_istore (lv' := [(4, .int (iv mi)), (3, .int (iv ct)), (2, .int (iv nm)), (0, .ref (G.2.2.1 + 231)), (1, .int (iv tk))]) hx hb dX12_tellPar_56 hl (by decide) rfl (fun ls hl => ?_)
          refine lv_iload hx hb dX12_tellPar_58 (lv_at hl 0 rfl) ?_
          refine r_if_eq (tgt := 73) hx hb ⟨(by omega), (by omega)⟩ dX12_tellPar_60 (by decide) (fun c_30 => ?_) (fun c_30 => ?_)
          · obtain ⟨hk9, rfl⟩ : gk K 2 (S40.1 231 24 + 1) e1 := by rcases hv with h | h; (exact absurd h.1 (xu_28.2.2 (by omega))); exact h.2
            have hv9 := hQ.2.2 _ (by omega) (by omega) hk9
            refine lv_aload_n hx hb dX12_tellPar_73 rfl (lv_at hl 3 rfl) ?_
            have q_31 : (-2147483648) ≤ S40.1 231 32 ∧ S40.1 231 32 ≤ 2147483647 := hI40.fi 32
            refine g_X12_367 Cx hW (k := 231) (by decide) rfl (v := S40.1 231 32) (uF_ne (fun h => absurd h.2 (by decide))) dX12_tellPar_74 ?_
            refine lv_aload_n hx hb dX12_tellPar_77 rfl (lv_at hl 3 rfl) ?_
            refine g_X12_74 Cx hW (k := 231) (by decide) rfl (v := .ref (G.2.2.1 + 253)) (rd_31 i_26) dX12_tellPar_78 ?_
            refine sAlen Cx hW (k := 253) (by decide) rfl 0 rfl dX12_tellPar_81 ?_
            refine r_icmp_ge (tgt := 121) hx hb ⟨(by omega), (by omega)⟩ ⟨(by omega), (by omega)⟩ dX12_tellPar_82 (by decide) (fun c => absurd c (by omega)) (fun _ => ?_)
            refine lv_aload_n hx hb dX12_tellPar_85 rfl (lv_at hl 3 rfl) ?_
            refine g_X12_74 Cx hW (k := 231) (by decide) rfl (v := .ref (G.2.2.1 + 253)) (rd_31 i_26) dX12_tellPar_86 ?_
            refine lv_aload_n hx hb dX12_tellPar_89 rfl (lv_at hl 3 rfl) ?_
            refine g_X12_367 Cx hW (k := 231) (by decide) rfl (v := S40.1 231 32) (uF_ne (fun h => absurd h.2 (by decide))) dX12_tellPar_90 ?_
            refine lv_iload hx hb dX12_tellPar_93 (lv_at hl 0 rfl) ?_
            refine r_if_eq (tgt := 111) hx hb ⟨(by omega), (by omega)⟩ dX12_tellPar_95 (by decide) (fun _ => ?_) (fun c => absurd (by omega) c)
            refine lv_aload_n hx hb dX12_tellPar_111 rfl (lv_at hl 3 rfl) ?_
            refine g_X12_56 Cx hW (k := 231) (by decide) rfl (v := .ref (G.2.2.1 + 247)) (rd_18 i_26) dX12_tellPar_112 ?_
            refine lv_aload_n hx hb dX12_tellPar_115 rfl (lv_at hl 3 rfl) ?_
            refine g_X12_315 Cx hW (k := 231) (by decide) rfl (v := (S40.1 231 24) + 1) uF_on dX12_tellPar_116 ?_
            refine rIald Cx hW (k := 247) (by decide) rfl (by decide) (by omega) (by omega) dX12_tellPar_119 ?_
            have q_32 : (-2147483648) ≤ S.2.1 247 ((S40.1 231 24) + 1) ∧ S.2.1 247 ((S40.1 231 24) + 1) ≤ 2147483647 := hI.ai 247 ((S40.1 231 24) + 1)
            refine r_i (b := S.2.1 247 ((S40.1 231 24) + 1)) ((uF_a).trans (((hL40_ 247 rfl).2.1 ((S40.1 231 24) + 1)).trans ((uA_ne (fun h => absurd h.1 (by decide))).trans (((fu_12 247 rfl).2.1 ((S40.1 231 24) + 1)).trans ((fu_3 247 rfl).2.1 ((S40.1 231 24) + 1)))))) ?_
            have hv8 : V (S40.1 231 24 + 1) = S.2.1 247 ((S40.1 231 24) + 1) := by rw [← hV]
            refine rIast Cx hW hL (k := 253) (by decide) rfl (by decide) (by omega) (by omega) dX12_tellPar_120 (fun H locs hW hL => ?_)
            have F_33 : Fr S (uA (uF S40 231 24 ((S40.1 231 24) + 1)) 253 (S40.1 231 32) (S.2.1 247 ((S40.1 231 24) + 1))) (pl [231, 248, 249, 250, 251, 252, 253]) := F_22.A rfl
            have F_34 : Fr ((uA u_12 252 nm (S.1 231 32))) (uA (uF S40 231 24 ((S40.1 231 24) + 1)) 253 (S40.1 231 32) (S.2.1 247 ((S40.1 231 24) + 1))) (pl [231, 253]) := F_23.A rfl
            have i_35 : dX G (uA (uF S40 231 24 ((S40.1 231 24) + 1)) 253 (S40.1 231 32) (S.2.1 247 ((S40.1 231 24) + 1))) := i_26.A (k := 253) (show (-2147483648) ≤ S.2.1 247 ((S40.1 231 24) + 1) ∧ S.2.1 247 ((S40.1 231 24) + 1) ≤ 2147483647 from ⟨by omega, by omega⟩)
            refine lv_aload_n hx hb dX12_tellPar_121 rfl (lv_at hl 3 rfl) ?_
            refine lv_dup hx hb dX12_tellPar_122 rfl ?_
            refine g_X12_367 Cx hW (k := 231) (by decide) rfl (v := S40.1 231 32) ((uA_f).trans (uF_ne (fun h => absurd h.2 (by decide)))) dX12_tellPar_123 ?_
            refine lv_iconst (v := iv 1) hx hb dX12_tellPar_126 (by decide) ?_
            refine r_iadd hx hb dX12_tellPar_127 ?_
            refine p_X12_367 Cx hW hL (k := 231) (by decide) rfl dX12_tellPar_128 (fun H locs hW hL => ?_)
            have F_36 : Fr S (uF (uA (uF S40 231 24 ((S40.1 231 24) + 1)) 253 (S40.1 231 32) (S.2.1 247 ((S40.1 231 24) + 1))) 231 32 ((S40.1 231 32) + 1)) (pl [231, 248, 249, 250, 251, 252, 253]) := F_33.F rfl
            have F_37 : Fr ((uA u_12 252 nm (S.1 231 32))) (uF (uA (uF S40 231 24 ((S40.1 231 24) + 1)) 253 (S40.1 231 32) (S.2.1 247 ((S40.1 231 24) + 1))) 231 32 ((S40.1 231 32) + 1)) (pl [231, 253]) := F_34.F rfl
            have g_38 : FF S (uF (uA (uF S40 231 24 ((S40.1 231 24) + 1)) 253 (S40.1 231 32) (S.2.1 247 ((S40.1 231 24) + 1))) 231 32 ((S40.1 231 32) + 1)) (fl [20, 21, 24, 25, 32, 34]) := FF.F g_24 rfl
            have g_39 : FF ((uA u_12 252 nm (S.1 231 32))) (uF (uA (uF S40 231 24 ((S40.1 231 24) + 1)) 253 (S40.1 231 32) (S.2.1 247 ((S40.1 231 24) + 1))) 231 32 ((S40.1 231 32) + 1)) (fl [24, 32]) := FF.F g_25 rfl
            have i_40 : dX G (uF (uA (uF S40 231 24 ((S40.1 231 24) + 1)) 253 (S40.1 231 32) (S.2.1 247 ((S40.1 231 24) + 1))) 231 32 ((S40.1 231 32) + 1)) := i_35.F (i := 32) (show (-2147483648) ≤ (S40.1 231 32) + 1 ∧ (S40.1 231 32) + 1 ≤ 2147483647 from ⟨by omega, by omega⟩)
            refine lv_iinc (v := iv (ct + 1)) (lv' := [(3, .int (iv (ct + 1))), (4, .int (iv mi)), (2, .int (iv nm)), (0, .ref (G.2.2.1 + 231)), (1, .int (iv tk))]) hx hb dX12_tellPar_131 hl (k := 1) rfl ((Int32.ofInt_add _ _).symm) (by decide) rfl (fun ls hl => ?_)
            refine lv_aload_n hx hb dX12_tellPar_134 rfl (lv_at hl 3 rfl) ?_
            refine lv_dup hx hb dX12_tellPar_135 rfl ?_
            refine g_X12_315 Cx hW (k := 231) (by decide) rfl (v := (S40.1 231 24) + 1) ((uF_ne (fun h => absurd h.2 (by decide))).trans ((uA_f).trans (uF_on))) dX12_tellPar_136 ?_
            refine lv_iconst (v := iv 1) hx hb dX12_tellPar_139 (by decide) ?_
            refine r_iadd hx hb dX12_tellPar_140 ?_
            refine p_X12_315 Cx hW hL (k := 231) (by decide) rfl dX12_tellPar_141 (fun H locs hW hL => ?_)
            have F_41 : Fr S (uF (uF (uA (uF S40 231 24 ((S40.1 231 24) + 1)) 253 (S40.1 231 32) (S.2.1 247 ((S40.1 231 24) + 1))) 231 32 ((S40.1 231 32) + 1)) 231 24 (((S40.1 231 24) + 1) + 1)) (pl [231, 248, 249, 250, 251, 252, 253]) := F_36.F rfl
            have F_42 : Fr ((uA u_12 252 nm (S.1 231 32))) (uF (uF (uA (uF S40 231 24 ((S40.1 231 24) + 1)) 253 (S40.1 231 32) (S.2.1 247 ((S40.1 231 24) + 1))) 231 32 ((S40.1 231 32) + 1)) 231 24 (((S40.1 231 24) + 1) + 1)) (pl [231, 253]) := F_37.F rfl
            have g_43 : FF S (uF (uF (uA (uF S40 231 24 ((S40.1 231 24) + 1)) 253 (S40.1 231 32) (S.2.1 247 ((S40.1 231 24) + 1))) 231 32 ((S40.1 231 32) + 1)) 231 24 (((S40.1 231 24) + 1) + 1)) (fl [20, 21, 24, 25, 32, 34]) := FF.F g_38 rfl
            have g_44 : FF ((uA u_12 252 nm (S.1 231 32))) (uF (uF (uA (uF S40 231 24 ((S40.1 231 24) + 1)) 253 (S40.1 231 32) (S.2.1 247 ((S40.1 231 24) + 1))) 231 32 ((S40.1 231 32) + 1)) 231 24 (((S40.1 231 24) + 1) + 1)) (fl [24, 32]) := FF.F g_39 rfl
            have i_45 : dX G (uF (uF (uA (uF S40 231 24 ((S40.1 231 24) + 1)) 253 (S40.1 231 32) (S.2.1 247 ((S40.1 231 24) + 1))) 231 32 ((S40.1 231 32) + 1)) 231 24 (((S40.1 231 24) + 1) + 1)) := i_40.F (i := 24) (show (-2147483648) ≤ ((S40.1 231 24) + 1) + 1 ∧ ((S40.1 231 24) + 1) + 1 ≤ 2147483647 from ⟨by omega, by omega⟩)
            refine lv_aload_n hx hb dX12_tellPar_144 rfl (lv_at hl 3 rfl) ?_
            refine lv_bipush (v := iv 44) hx hb dX12_tellPar_145 (by decide) ?_
            have lk_46 : (uF (uF (uA (uF S40 231 24 ((S40.1 231 24) + 1)) 253 (S40.1 231 32) (S.2.1 247 ((S40.1 231 24) + 1))) 231 32 ((S40.1 231 32) + 1)) 231 24 (((S40.1 231 24) + 1) + 1)).1 231 24 = ((S40.1 231 24) + 1) + 1 := uF_on
            refine sBi (sV (As := [.int (iv 44)]) (rest := []) (k := 231) Cx (s_X12_isSign l G (uF (uF (uA (uF S40 231 24 ((S40.1 231 24) + 1)) 253 (S40.1 231 32) (S.2.1 247 ((S40.1 231 24) + 1))) 231 32 ((S40.1 231 32) + 1)) 231 24 (((S40.1 231 24) + 1) + 1)) (sv := 44) (K := K) (V := V) (pz := ((S40.1 231 24) + 1) + 1) i_45 (by omega) ((funext fun j => (uF_a).trans ((uF_a).trans ((uA_ne (fun h => absurd h.1 (by decide))).trans ((uF_a).trans (((hL40_ 244 rfl).2.1 j).trans ((uA_ne (fun h => absurd h.1 (by decide))).trans (((fu_12 244 rfl).2.1 j).trans ((fu_3 244 rfl).2.1 j))))))) : (uF (uF (uA (uF S40 231 24 ((S40.1 231 24) + 1)) 253 (S40.1 231 32) (S.2.1 247 ((S40.1 231 24) + 1))) 231 32 ((S40.1 231 32) + 1)) 231 24 (((S40.1 231 24) + 1) + 1)).2.1 244 = S.2.1 244).trans hK) ((funext fun j => (uF_a).trans ((uF_a).trans ((uA_ne (fun h => absurd h.1 (by decide))).trans ((uF_a).trans (((hL40_ 247 rfl).2.1 j).trans ((uA_ne (fun h => absurd h.1 (by decide))).trans (((fu_12 247 rfl).2.1 j).trans ((fu_3 247 rfl).2.1 j))))))) : (uF (uF (uA (uF S40 231 24 ((S40.1 231 24) + 1)) 253 (S40.1 231 32) (S.2.1 247 ((S40.1 231 24) + 1))) 231 32 ((S40.1 231 32) + 1)) 231 24 (((S40.1 231 24) + 1) + 1)).2.1 247 = S.2.1 247).trans hV) (by omega) (by omega)) (c_X12_318 Cx rfl rfl (rmk_ok (by omega) (by decide))) hW (by decide) rfl rfl rfl hl.1 rfl (Nat.le_of_ble_eq_true rfl) dX12_tellPar_147 ⟨Nat.le_of_ble_eq_true rfl, Nat.le_of_ble_eq_true rfl⟩) hL (fun r_49 u_47 H locs k_48 hW hL => ?_)
            obtain ⟨eu_47, xu_47⟩ := k_48
            rw [eu_47] at hW
            refine r_if_ne (tgt := 40) hx hb ⟨(by omega), (by omega)⟩ dX12_tellPar_150 (by decide) (fun c_50 => ?_) (fun c_50 => ?_)
            · have lk_51 : (uF (uF (uA (uF S40 231 24 ((S40.1 231 24) + 1)) 253 (S40.1 231 32) (S.2.1 247 ((S40.1 231 24) + 1))) 231 32 ((S40.1 231 32) + 1)) 231 24 (((S40.1 231 24) + 1) + 1)).1 231 32 = (S40.1 231 32) + 1 := (uF_ne (fun h => absurd h.2 (by decide))).trans (uF_on)
              exact ih_40 (uF (uF (uA (uF S40 231 24 ((S40.1 231 24) + 1)) 253 (S40.1 231 32) (S.2.1 247 ((S40.1 231 24) + 1))) 231 32 ((S40.1 231 32) + 1)) 231 24 (((S40.1 231 24) + 1) + 1)) (ct + 1) _ _ _ (by omega) i_45 F_41 F_42 g_43 g_44 (by omega) (by rw [(show (uF (uF (uA (uF S40 231 24 ((S40.1 231 24) + 1)) 253 (S40.1 231 32) (S.2.1 247 ((S40.1 231 24) + 1))) 231 32 ((S40.1 231 32) + 1)) 231 24 (((S40.1 231 24) + 1) + 1)).1 231 24 = ((S40.1 231 24) + 1) + 1 from uF_on)]; exact gTl.inv ht (xu_47.2.1 (by omega))) (fun i i0 i1 => by rw [show (uF (uF (uA (uF S40 231 24 ((S40.1 231 24) + 1)) 253 (S40.1 231 32) (S.2.1 247 ((S40.1 231 24) + 1))) 231 32 ((S40.1 231 32) + 1)) 231 24 (((S40.1 231 24) + 1) + 1)).2.1 253 i = (uA (uF S40 231 24 ((S40.1 231 24) + 1)) 253 (S40.1 231 32) (S.2.1 247 ((S40.1 231 24) + 1))).2.1 253 i from (uF_a).trans (uF_a), uA_get]; by_cases z : i = S40.1 231 32; (rw [if_pos ⟨rfl, z⟩]; omega); (rw [if_neg (fun h => z h.2), show (uF S40 231 24 ((S40.1 231 24) + 1)).2.1 253 i = S40.2.1 253 i from uF_a]; exact hP40 i i0 (by have y32 := (show (uF (uF (uA (uF S40 231 24 ((S40.1 231 24) + 1)) 253 (S40.1 231 32) (S.2.1 247 ((S40.1 231 24) + 1))) 231 32 ((S40.1 231 32) + 1)) 231 24 (((S40.1 231 24) + 1) + 1)).1 231 32 = (S40.1 231 32) + 1 from (uF_ne (fun h => absurd h.2 (by decide))).trans (uF_on)); omega))) hW hL (lv_sub hl [0, 2, 3, 4] rfl)
            · have hd9 := gTl.fin ht (xu_47.2.2 (by omega))
              have hP40x : ∀ i, 0 ≤ i → i < (uF (uF (uA (uF S40 231 24 ((S40.1 231 24) + 1)) 253 (S40.1 231 32) (S.2.1 247 ((S40.1 231 24) + 1))) 231 32 ((S40.1 231 32) + 1)) 231 24 (((S40.1 231 24) + 1) + 1)).1 231 32 → -99999 ≤ (uF (uF (uA (uF S40 231 24 ((S40.1 231 24) + 1)) 253 (S40.1 231 32) (S.2.1 247 ((S40.1 231 24) + 1))) 231 32 ((S40.1 231 32) + 1)) 231 24 (((S40.1 231 24) + 1) + 1)).2.1 253 i ∧ (uF (uF (uA (uF S40 231 24 ((S40.1 231 24) + 1)) 253 (S40.1 231 32) (S.2.1 247 ((S40.1 231 24) + 1))) 231 32 ((S40.1 231 32) + 1)) 231 24 (((S40.1 231 24) + 1) + 1)).2.1 253 i ≤ 99999 := (fun i i0 i1 => by rw [show (uF (uF (uA (uF S40 231 24 ((S40.1 231 24) + 1)) 253 (S40.1 231 32) (S.2.1 247 ((S40.1 231 24) + 1))) 231 32 ((S40.1 231 32) + 1)) 231 24 (((S40.1 231 24) + 1) + 1)).2.1 253 i = (uA (uF S40 231 24 ((S40.1 231 24) + 1)) 253 (S40.1 231 32) (S.2.1 247 ((S40.1 231 24) + 1))).2.1 253 i from (uF_a).trans (uF_a), uA_get]; by_cases z : i = S40.1 231 32; (rw [if_pos ⟨rfl, z⟩]; omega); (rw [if_neg (fun h => z h.2), show (uF S40 231 24 ((S40.1 231 24) + 1)).2.1 253 i = S40.2.1 253 i from uF_a]; exact hP40 i i0 (by have y32 := (show (uF (uF (uA (uF S40 231 24 ((S40.1 231 24) + 1)) 253 (S40.1 231 32) (S.2.1 247 ((S40.1 231 24) + 1))) 231 32 ((S40.1 231 32) + 1)) 231 24 (((S40.1 231 24) + 1) + 1)).1 231 32 = (S40.1 231 32) + 1 from (uF_ne (fun h => absurd h.2 (by decide))).trans (uF_on)); omega)))
              refine lv_aload_n hx hb dX12_tellPar_153 rfl (lv_at hl 3 rfl) ?_
              refine lv_dup hx hb dX12_tellPar_154 rfl ?_
              refine g_X12_315 Cx hW (k := 231) (by decide) rfl (v := ((S40.1 231 24) + 1) + 1) uF_on dX12_tellPar_155 ?_
              refine lv_iconst (v := iv 1) hx hb dX12_tellPar_158 (by decide) ?_
              refine r_iadd hx hb dX12_tellPar_159 ?_
              refine p_X12_315 Cx hW hL (k := 231) (by decide) rfl dX12_tellPar_160 (fun H locs hW hL => ?_)
              have F_52 : Fr S (uF (uF (uF (uA (uF S40 231 24 ((S40.1 231 24) + 1)) 253 (S40.1 231 32) (S.2.1 247 ((S40.1 231 24) + 1))) 231 32 ((S40.1 231 32) + 1)) 231 24 (((S40.1 231 24) + 1) + 1)) 231 24 ((((S40.1 231 24) + 1) + 1) + 1)) (pl [231, 248, 249, 250, 251, 252, 253]) := F_41.F rfl
              have F_53 : Fr ((uA u_12 252 nm (S.1 231 32))) (uF (uF (uF (uA (uF S40 231 24 ((S40.1 231 24) + 1)) 253 (S40.1 231 32) (S.2.1 247 ((S40.1 231 24) + 1))) 231 32 ((S40.1 231 32) + 1)) 231 24 (((S40.1 231 24) + 1) + 1)) 231 24 ((((S40.1 231 24) + 1) + 1) + 1)) (pl [231, 253]) := F_42.F rfl
              have g_54 : FF S (uF (uF (uF (uA (uF S40 231 24 ((S40.1 231 24) + 1)) 253 (S40.1 231 32) (S.2.1 247 ((S40.1 231 24) + 1))) 231 32 ((S40.1 231 32) + 1)) 231 24 (((S40.1 231 24) + 1) + 1)) 231 24 ((((S40.1 231 24) + 1) + 1) + 1)) (fl [20, 21, 24, 25, 32, 34]) := FF.F g_43 rfl
              have g_55 : FF ((uA u_12 252 nm (S.1 231 32))) (uF (uF (uF (uA (uF S40 231 24 ((S40.1 231 24) + 1)) 253 (S40.1 231 32) (S.2.1 247 ((S40.1 231 24) + 1))) 231 32 ((S40.1 231 32) + 1)) 231 24 (((S40.1 231 24) + 1) + 1)) 231 24 ((((S40.1 231 24) + 1) + 1) + 1)) (fl [24, 32]) := FF.F g_44 rfl
              have i_56 : dX G (uF (uF (uF (uA (uF S40 231 24 ((S40.1 231 24) + 1)) 253 (S40.1 231 32) (S.2.1 247 ((S40.1 231 24) + 1))) 231 32 ((S40.1 231 32) + 1)) 231 24 (((S40.1 231 24) + 1) + 1)) 231 24 ((((S40.1 231 24) + 1) + 1) + 1)) := i_45.F (i := 24) (show (-2147483648) ≤ (((S40.1 231 24) + 1) + 1) + 1 ∧ (((S40.1 231 24) + 1) + 1) + 1 ≤ 2147483647 from ⟨by omega, by omega⟩)
              refine lv_iload_n hx hb dX12_tellPar_163 rfl (lv_at hl 0 rfl) ?_
              refine lv_aload_n hx hb dX12_tellPar_164 rfl (lv_at hl 3 rfl) ?_
              refine lv_aload_n hx hb dX12_tellPar_165 rfl (lv_at hl 3 rfl) ?_
              refine g_X12_65 Cx hW (k := 231) (by decide) rfl (v := .ref (G.2.2.1 + 250)) (rd_28 i_56) dX12_tellPar_166 ?_
              refine lv_iload_n hx hb dX12_tellPar_169 rfl (lv_at hl 2 rfl) ?_
              refine rIald Cx hW (k := 250) (by decide) rfl (by decide) (by omega) (by omega) dX12_tellPar_170 ?_
              have q_57 : (-2147483648) ≤ u_12.2.1 250 nm ∧ u_12.2.1 250 nm ≤ 2147483647 := iu_12.ai 250 nm
              refine r_i (b := u_12.2.1 250 nm) ((uF_a).trans ((uF_a).trans ((uF_a).trans ((uA_ne (fun h => absurd h.1 (by decide))).trans ((uF_a).trans (((hL40_ 250 rfl).2.1 nm).trans (uA_ne (fun h => absurd h.1 (by decide))))))))) ?_
              refine sBi (sV (As := [.int (iv (u_12.2.1 250 nm))]) (rest := [.int (iv (ct + 1))]) (k := 231) Cx (s_X12_sizeOf l G (uF (uF (uF (uA (uF S40 231 24 ((S40.1 231 24) + 1)) 253 (S40.1 231 32) (S.2.1 247 ((S40.1 231 24) + 1))) 231 32 ((S40.1 231 32) + 1)) 231 24 (((S40.1 231 24) + 1) + 1)) 231 24 ((((S40.1 231 24) + 1) + 1) + 1)) (i := u_12.2.1 250 nm) i_56 (nSx.cg (S := S) (u := (uF (uF (uF (uA (uF S40 231 24 ((S40.1 231 24) + 1)) 253 (S40.1 231 32) (S.2.1 247 ((S40.1 231 24) + 1))) 231 32 ((S40.1 231 32) + 1)) 231 24 (((S40.1 231 24) + 1) + 1)) 231 24 ((((S40.1 231 24) + 1) + 1) + 1))) ss1 (fun z => ⟨(((uF_a).trans ((uF_a).trans ((uF_a).trans ((uA_ne (fun h => absurd h.1 (by decide))).trans ((uF_a).trans (((hL40_ 250 rfl).2.1 ((u_12.2.1 250 nm))).trans (uA_ne (fun h => absurd h.1 (by decide))))))))).trans (((xu_12.2.1 _ (qq1 z)).1).trans ((a1.2.2.2.2.2.1 _).trans (if_neg (fun y => (qq1 z) (by omega)))))), (((uF_a).trans ((uF_a).trans ((uF_a).trans ((uA_ne (fun h => absurd h.1 (by decide))).trans ((uF_a).trans (((hL40_ 251 rfl).2.1 ((u_12.2.1 250 nm))).trans (uA_ne (fun h => absurd h.1 (by decide))))))))).trans (((xu_12.2.1 _ (qq1 z)).2).trans ((a1.2.2.2.2.2.2.1 _).trans (if_neg (fun y => (qq1 z) (by omega))))))⟩)).1) (c_X12_410 Cx rfl rfl (rmk_ok (by omega) (by decide))) hW (by decide) rfl rfl rfl hl.1 rfl (Nat.le_of_ble_eq_true rfl) dX12_tellPar_171 ⟨Nat.le_of_ble_eq_true rfl, Nat.le_of_ble_eq_true rfl⟩) hL (fun r_60 u_58 H locs k_59 hW hL => ?_)
              obtain ⟨eu_58, xu_58⟩ := k_59
              rw [eu_58] at hW
              have hz1 : r_60 = nSz S (u_12.2.1 250 nm) := xu_58.1.trans ((nSx.cg (S := S) (u := (uF (uF (uF (uA (uF S40 231 24 ((S40.1 231 24) + 1)) 253 (S40.1 231 32) (S.2.1 247 ((S40.1 231 24) + 1))) 231 32 ((S40.1 231 32) + 1)) 231 24 (((S40.1 231 24) + 1) + 1)) 231 24 ((((S40.1 231 24) + 1) + 1) + 1))) ss1 (fun z => ⟨(((uF_a).trans ((uF_a).trans ((uF_a).trans ((uA_ne (fun h => absurd h.1 (by decide))).trans ((uF_a).trans (((hL40_ 250 rfl).2.1 ((u_12.2.1 250 nm))).trans (uA_ne (fun h => absurd h.1 (by decide))))))))).trans (((xu_12.2.1 _ (qq1 z)).1).trans ((a1.2.2.2.2.2.1 _).trans (if_neg (fun y => (qq1 z) (by omega)))))), (((uF_a).trans ((uF_a).trans ((uF_a).trans ((uA_ne (fun h => absurd h.1 (by decide))).trans ((uF_a).trans (((hL40_ 251 rfl).2.1 ((u_12.2.1 250 nm))).trans (uA_ne (fun h => absurd h.1 (by decide))))))))).trans (((xu_12.2.1 _ (qq1 z)).2).trans ((a1.2.2.2.2.2.2.1 _).trans (if_neg (fun y => (qq1 z) (by omega))))))⟩)).2)
              refine lv_aload_n hx hb dX12_tellPar_174 rfl (lv_at hl 3 rfl) ?_
              refine lv_aload_n hx hb dX12_tellPar_175 rfl (lv_at hl 3 rfl) ?_
              refine g_X12_68 Cx hW (k := 231) (by decide) rfl (v := .ref (G.2.2.1 + 251)) (rd_29 i_56) dX12_tellPar_176 ?_
              refine lv_iload_n hx hb dX12_tellPar_179 rfl (lv_at hl 2 rfl) ?_
              refine rIald Cx hW (k := 251) (by decide) rfl (by decide) (by omega) (by omega) dX12_tellPar_180 ?_
              have q_61 : (-2147483648) ≤ u_12.2.1 251 nm ∧ u_12.2.1 251 nm ≤ 2147483647 := iu_12.ai 251 nm
              refine r_i (b := u_12.2.1 251 nm) ((uF_a).trans ((uF_a).trans ((uF_a).trans ((uA_ne (fun h => absurd h.1 (by decide))).trans ((uF_a).trans (((hL40_ 251 rfl).2.1 nm).trans (uA_ne (fun h => absurd h.1 (by decide))))))))) ?_
              refine sBi (sV (As := [.int (iv (u_12.2.1 251 nm))]) (rest := [.int (iv r_60), .int (iv (ct + 1))]) (k := 231) Cx (s_X12_sizeOf l G (uF (uF (uF (uA (uF S40 231 24 ((S40.1 231 24) + 1)) 253 (S40.1 231 32) (S.2.1 247 ((S40.1 231 24) + 1))) 231 32 ((S40.1 231 32) + 1)) 231 24 (((S40.1 231 24) + 1) + 1)) 231 24 ((((S40.1 231 24) + 1) + 1) + 1)) (i := u_12.2.1 251 nm) i_56 (nSx.cg (S := S) (u := (uF (uF (uF (uA (uF S40 231 24 ((S40.1 231 24) + 1)) 253 (S40.1 231 32) (S.2.1 247 ((S40.1 231 24) + 1))) 231 32 ((S40.1 231 32) + 1)) 231 24 (((S40.1 231 24) + 1) + 1)) 231 24 ((((S40.1 231 24) + 1) + 1) + 1))) ss2 (fun z => ⟨(((uF_a).trans ((uF_a).trans ((uF_a).trans ((uA_ne (fun h => absurd h.1 (by decide))).trans ((uF_a).trans (((hL40_ 250 rfl).2.1 ((u_12.2.1 251 nm))).trans (uA_ne (fun h => absurd h.1 (by decide))))))))).trans (((xu_12.2.1 _ (qq2 z)).1).trans ((a1.2.2.2.2.2.1 _).trans (if_neg (fun y => (qq2 z) (by omega)))))), (((uF_a).trans ((uF_a).trans ((uF_a).trans ((uA_ne (fun h => absurd h.1 (by decide))).trans ((uF_a).trans (((hL40_ 251 rfl).2.1 ((u_12.2.1 251 nm))).trans (uA_ne (fun h => absurd h.1 (by decide))))))))).trans (((xu_12.2.1 _ (qq2 z)).2).trans ((a1.2.2.2.2.2.2.1 _).trans (if_neg (fun y => (qq2 z) (by omega))))))⟩)).1) (c_X12_410 Cx rfl rfl (rmk_ok (by omega) (by decide))) hW (by decide) rfl rfl rfl hl.1 rfl (Nat.le_of_ble_eq_true rfl) dX12_tellPar_181 ⟨Nat.le_of_ble_eq_true rfl, Nat.le_of_ble_eq_true rfl⟩) hL (fun r_64 u_62 H locs k_63 hW hL => ?_)
              obtain ⟨eu_62, xu_62⟩ := k_63
              rw [eu_62] at hW
              have hz2 : r_64 = nSz S (u_12.2.1 251 nm) := xu_62.1.trans ((nSx.cg (S := S) (u := (uF (uF (uF (uA (uF S40 231 24 ((S40.1 231 24) + 1)) 253 (S40.1 231 32) (S.2.1 247 ((S40.1 231 24) + 1))) 231 32 ((S40.1 231 32) + 1)) 231 24 (((S40.1 231 24) + 1) + 1)) 231 24 ((((S40.1 231 24) + 1) + 1) + 1))) ss2 (fun z => ⟨(((uF_a).trans ((uF_a).trans ((uF_a).trans ((uA_ne (fun h => absurd h.1 (by decide))).trans ((uF_a).trans (((hL40_ 250 rfl).2.1 ((u_12.2.1 251 nm))).trans (uA_ne (fun h => absurd h.1 (by decide))))))))).trans (((xu_12.2.1 _ (qq2 z)).1).trans ((a1.2.2.2.2.2.1 _).trans (if_neg (fun y => (qq2 z) (by omega)))))), (((uF_a).trans ((uF_a).trans ((uF_a).trans ((uA_ne (fun h => absurd h.1 (by decide))).trans ((uF_a).trans (((hL40_ 251 rfl).2.1 ((u_12.2.1 251 nm))).trans (uA_ne (fun h => absurd h.1 (by decide))))))))).trans (((xu_12.2.1 _ (qq2 z)).2).trans ((a1.2.2.2.2.2.2.1 _).trans (if_neg (fun y => (qq2 z) (by omega))))))⟩)).2)
              refine r_imul hx hb dX12_tellPar_184 ?_
              obtain ⟨mm, emm⟩ : ∃ z : Int, z = r_60 * r_64 := ⟨_, rfl⟩
              refine r_i (b := mm) emm.symm ?_
              have hmm : 1 ≤ mm ∧ mm ≤ 144 := by rw [emm]; exact mm12 (by omega) (by omega)
              refine r_icmp_eq (tgt := 194) hx hb ⟨(by omega), (by omega)⟩ ⟨(by omega), (by omega)⟩ dX12_tellPar_185 (by decide) (fun c_65 => ?_) (fun c_65 => ?_)
              · refine lv_aload_n hx hb dX12_tellPar_194 rfl (lv_at hl 3 rfl) ?_
                refine lv_dup hx hb dX12_tellPar_195 rfl ?_
                have q_66 : (-2147483648) ≤ S.1 231 34 ∧ S.1 231 34 ≤ 2147483647 := hI.fi 34
                refine g_X12_373 Cx hW (k := 231) (by decide) rfl (v := S.1 231 34) ((uF_ne (fun h => absurd h.2 (by decide))).trans ((uF_ne (fun h => absurd h.2 (by decide))).trans ((uF_ne (fun h => absurd h.2 (by decide))).trans ((uA_f).trans ((uF_ne (fun h => absurd h.2 (by decide))).trans ((gL40_ 34 rfl).trans ((uA_f).trans ((gu_12 34 rfl).trans (gu_3 34 rfl))))))))) dX12_tellPar_196 ?_
                refine lv_iconst (v := iv 1) hx hb dX12_tellPar_199 (by decide) ?_
                refine r_iadd hx hb dX12_tellPar_200 ?_
                refine p_X12_373 Cx hW hL (k := 231) (by decide) rfl dX12_tellPar_201 (fun H locs hW hL => ?_)
                have F_67 : Fr S (uF (uF (uF (uF (uA (uF S40 231 24 ((S40.1 231 24) + 1)) 253 (S40.1 231 32) (S.2.1 247 ((S40.1 231 24) + 1))) 231 32 ((S40.1 231 32) + 1)) 231 24 (((S40.1 231 24) + 1) + 1)) 231 24 ((((S40.1 231 24) + 1) + 1) + 1)) 231 34 ((S.1 231 34) + 1)) (pl [231, 248, 249, 250, 251, 252, 253]) := F_52.F rfl
                have F_68 : Fr ((uA u_12 252 nm (S.1 231 32))) (uF (uF (uF (uF (uA (uF S40 231 24 ((S40.1 231 24) + 1)) 253 (S40.1 231 32) (S.2.1 247 ((S40.1 231 24) + 1))) 231 32 ((S40.1 231 32) + 1)) 231 24 (((S40.1 231 24) + 1) + 1)) 231 24 ((((S40.1 231 24) + 1) + 1) + 1)) 231 34 ((S.1 231 34) + 1)) (pl [231, 253]) := F_53.F rfl
                have g_69 : FF S (uF (uF (uF (uF (uA (uF S40 231 24 ((S40.1 231 24) + 1)) 253 (S40.1 231 32) (S.2.1 247 ((S40.1 231 24) + 1))) 231 32 ((S40.1 231 32) + 1)) 231 24 (((S40.1 231 24) + 1) + 1)) 231 24 ((((S40.1 231 24) + 1) + 1) + 1)) 231 34 ((S.1 231 34) + 1)) (fl [20, 21, 24, 25, 32, 34]) := FF.F g_54 rfl
                have i_70 : dX G (uF (uF (uF (uF (uA (uF S40 231 24 ((S40.1 231 24) + 1)) 253 (S40.1 231 32) (S.2.1 247 ((S40.1 231 24) + 1))) 231 32 ((S40.1 231 32) + 1)) 231 24 (((S40.1 231 24) + 1) + 1)) 231 24 ((((S40.1 231 24) + 1) + 1) + 1)) 231 34 ((S.1 231 34) + 1)) := i_56.F (i := 34) (show (-2147483648) ≤ (S.1 231 34) + 1 ∧ (S.1 231 34) + 1 ≤ 2147483647 from ⟨by omega, by omega⟩)
                refine lv_aload_n hx hb dX12_tellPar_204 rfl (lv_at hl 3 rfl) ?_
                refine g_X12_373 Cx hW (k := 231) (by decide) rfl (v := (S.1 231 34) + 1) uF_on dX12_tellPar_205 ?_
                refine lv_bipush (v := iv 12) hx hb dX12_tellPar_208 (by decide) ?_
                refine r_icmp_le (tgt := 220) hx hb ⟨(by omega), (by omega)⟩ ⟨(by omega), (by omega)⟩ dX12_tellPar_210 (by decide) (fun c_71 => ?_) (fun c_71 => ?_)
                · have lk_72 : (uF (uF (uF (uF (uA (uF S40 231 24 ((S40.1 231 24) + 1)) 253 (S40.1 231 32) (S.2.1 247 ((S40.1 231 24) + 1))) 231 32 ((S40.1 231 32) + 1)) 231 24 (((S40.1 231 24) + 1) + 1)) 231 24 ((((S40.1 231 24) + 1) + 1) + 1)) 231 34 ((S.1 231 34) + 1)).1 231 20 = u_12.1 231 20 := (uF_ne (fun h => absurd h.2 (by decide))).trans ((uF_ne (fun h => absurd h.2 (by decide))).trans ((uF_ne (fun h => absurd h.2 (by decide))).trans ((uF_ne (fun h => absurd h.2 (by decide))).trans ((uA_f).trans ((uF_ne (fun h => absurd h.2 (by decide))).trans ((gL40_ 20 rfl).trans (uA_f)))))))
                  have lk_73 : (uF (uF (uF (uF (uA (uF S40 231 24 ((S40.1 231 24) + 1)) 253 (S40.1 231 32) (S.2.1 247 ((S40.1 231 24) + 1))) 231 32 ((S40.1 231 32) + 1)) 231 24 (((S40.1 231 24) + 1) + 1)) 231 24 ((((S40.1 231 24) + 1) + 1) + 1)) 231 34 ((S.1 231 34) + 1)).1 231 25 = u_3.1 231 25 := (uF_ne (fun h => absurd h.2 (by decide))).trans ((uF_ne (fun h => absurd h.2 (by decide))).trans ((uF_ne (fun h => absurd h.2 (by decide))).trans ((uF_ne (fun h => absurd h.2 (by decide))).trans ((uA_f).trans ((uF_ne (fun h => absurd h.2 (by decide))).trans ((gL40_ 25 rfl).trans ((uA_f).trans (gu_12 25 rfl))))))))
                  have lk_74 : (uF (uF (uF (uF (uA (uF S40 231 24 ((S40.1 231 24) + 1)) 253 (S40.1 231 32) (S.2.1 247 ((S40.1 231 24) + 1))) 231 32 ((S40.1 231 32) + 1)) 231 24 (((S40.1 231 24) + 1) + 1)) 231 24 ((((S40.1 231 24) + 1) + 1) + 1)) 231 34 ((S.1 231 34) + 1)).1 231 24 = (((S40.1 231 24) + 1) + 1) + 1 := (uF_ne (fun h => absurd h.2 (by decide))).trans (uF_on)
                  have lk_75 : (uF (uF (uF (uF (uA (uF S40 231 24 ((S40.1 231 24) + 1)) 253 (S40.1 231 32) (S.2.1 247 ((S40.1 231 24) + 1))) 231 32 ((S40.1 231 32) + 1)) 231 24 (((S40.1 231 24) + 1) + 1)) 231 24 ((((S40.1 231 24) + 1) + 1) + 1)) 231 34 ((S.1 231 34) + 1)).1 231 32 = (S40.1 231 32) + 1 := (uF_ne (fun h => absurd h.2 (by decide))).trans ((uF_ne (fun h => absurd h.2 (by decide))).trans ((uF_ne (fun h => absurd h.2 (by decide))).trans (uF_on)))
                  have lk_76 : (uF (uF (uF (uF (uA (uF S40 231 24 ((S40.1 231 24) + 1)) 253 (S40.1 231 32) (S.2.1 247 ((S40.1 231 24) + 1))) 231 32 ((S40.1 231 32) + 1)) 231 24 (((S40.1 231 24) + 1) + 1)) 231 24 ((((S40.1 231 24) + 1) + 1) + 1)) 231 34 ((S.1 231 34) + 1)).1 231 34 = (S.1 231 34) + 1 := uF_on
                  exact sVret Cx hr hlk hW hL ⟨i_70, F_67, g_69, (fun _ => ⟨(NX.addG (S := S) (u := (uF (uF (uF (uF (uA (uF S40 231 24 ((S40.1 231 24) + 1)) 253 (S40.1 231 32) (S.2.1 247 ((S40.1 231 24) + 1))) 231 32 ((S40.1 231 32) + 1)) 231 24 (((S40.1 231 24) + 1) + 1)) 231 24 ((((S40.1 231 24) + 1) + 1) + 1)) 231 34 ((S.1 231 34) + 1))) (tk := tk) (so := 2) (a := u_12.2.1 250 nm) (b := u_12.2.1 251 nm) (f := S.1 231 32) hNX ⟨(fun x => ((uF_a).trans ((uF_a).trans ((uF_a).trans ((uF_a).trans ((uA_ne (fun h => absurd h.1 (by decide))).trans ((uF_a).trans (((hL40_ 248 rfl).2.1 x).trans ((uA_ne (fun h => absurd h.1 (by decide))).trans ((fu_12 248 rfl).2.1 x))))))))).trans (a1.2.2.2.1 x)), (fun x => ((uF_a).trans ((uF_a).trans ((uF_a).trans ((uF_a).trans ((uA_ne (fun h => absurd h.1 (by decide))).trans ((uF_a).trans (((hL40_ 249 rfl).2.1 x).trans ((uA_ne (fun h => absurd h.1 (by decide))).trans ((fu_12 249 rfl).2.1 x))))))))).trans (a1.2.2.2.2.1 x)), (fun x => by rw [show (uF (uF (uF (uF (uA (uF S40 231 24 ((S40.1 231 24) + 1)) 253 (S40.1 231 32) (S.2.1 247 ((S40.1 231 24) + 1))) 231 32 ((S40.1 231 32) + 1)) 231 24 (((S40.1 231 24) + 1) + 1)) 231 24 ((((S40.1 231 24) + 1) + 1) + 1)) 231 34 ((S.1 231 34) + 1)).2.1 250 x = u_12.2.1 250 x from (uF_a).trans ((uF_a).trans ((uF_a).trans ((uF_a).trans ((uA_ne (fun h => absurd h.1 (by decide))).trans ((uF_a).trans (((hL40_ 250 rfl).2.1 x).trans (uA_ne (fun h => absurd h.1 (by decide)))))))))]; by_cases z : x = S.1 231 25; (rw [if_pos z, show x = nm by omega]); rw [if_neg z, (xu_12.2.1 x (by omega)).1]; exact (a1.2.2.2.2.2.1 x).trans (if_neg z)), (fun x => by rw [show (uF (uF (uF (uF (uA (uF S40 231 24 ((S40.1 231 24) + 1)) 253 (S40.1 231 32) (S.2.1 247 ((S40.1 231 24) + 1))) 231 32 ((S40.1 231 32) + 1)) 231 24 (((S40.1 231 24) + 1) + 1)) 231 24 ((((S40.1 231 24) + 1) + 1) + 1)) 231 34 ((S.1 231 34) + 1)).2.1 251 x = u_12.2.1 251 x from (uF_a).trans ((uF_a).trans ((uF_a).trans ((uF_a).trans ((uA_ne (fun h => absurd h.1 (by decide))).trans ((uF_a).trans (((hL40_ 251 rfl).2.1 x).trans (uA_ne (fun h => absurd h.1 (by decide)))))))))]; by_cases z : x = S.1 231 25; (rw [if_pos z, show x = nm by omega]); rw [if_neg z, (xu_12.2.1 x (by omega)).2]; exact (a1.2.2.2.2.2.2.1 x).trans (if_neg z)), (fun x => by rw [show (uF (uF (uF (uF (uA (uF S40 231 24 ((S40.1 231 24) + 1)) 253 (S40.1 231 32) (S.2.1 247 ((S40.1 231 24) + 1))) 231 32 ((S40.1 231 32) + 1)) 231 24 (((S40.1 231 24) + 1) + 1)) 231 24 ((((S40.1 231 24) + 1) + 1) + 1)) 231 34 ((S.1 231 34) + 1)).2.1 252 x = (uA u_12 252 nm (S.1 231 32)).2.1 252 x from (uF_a).trans ((uF_a).trans ((uF_a).trans ((uF_a).trans ((uA_ne (fun h => absurd h.1 (by decide))).trans ((uF_a).trans ((hL40_ 252 rfl).2.1 x)))))), uA_get]; by_cases z : x = S.1 231 25; (rw [if_pos ⟨rfl, (by omega)⟩, if_pos z]); rw [if_neg (fun h => z (by have := h.2; omega)), if_neg z]; exact ((fu_12 252 rfl).2.1 x).trans ((a1.2.2.2.2.2.2.2 x).trans (if_neg z)))⟩ (by have y25 := (show (uF (uF (uF (uF (uA (uF S40 231 24 ((S40.1 231 24) + 1)) 253 (S40.1 231 32) (S.2.1 247 ((S40.1 231 24) + 1))) 231 32 ((S40.1 231 32) + 1)) 231 24 (((S40.1 231 24) + 1) + 1)) 231 24 ((((S40.1 231 24) + 1) + 1) + 1)) 231 34 ((S.1 231 34) + 1)).1 231 25 = u_3.1 231 25 from (uF_ne (fun h => absurd h.2 (by decide))).trans ((uF_ne (fun h => absurd h.2 (by decide))).trans ((uF_ne (fun h => absurd h.2 (by decide))).trans ((uF_ne (fun h => absurd h.2 (by decide))).trans ((uA_f).trans ((uF_ne (fun h => absurd h.2 (by decide))).trans ((gL40_ 25 rfl).trans ((uA_f).trans (gu_12 25 rfl))))))))); omega) (by have y32 := (show (uF (uF (uF (uF (uA (uF S40 231 24 ((S40.1 231 24) + 1)) 253 (S40.1 231 32) (S.2.1 247 ((S40.1 231 24) + 1))) 231 32 ((S40.1 231 32) + 1)) 231 24 (((S40.1 231 24) + 1) + 1)) 231 24 ((((S40.1 231 24) + 1) + 1) + 1)) 231 34 ((S.1 231 34) + 1)).1 231 32 = (S40.1 231 32) + 1 from (uF_ne (fun h => absurd h.2 (by decide))).trans ((uF_ne (fun h => absurd h.2 (by decide))).trans ((uF_ne (fun h => absurd h.2 (by decide))).trans (uF_on)))); omega) (by have y35 := (show (uF (uF (uF (uF (uA (uF S40 231 24 ((S40.1 231 24) + 1)) 253 (S40.1 231 32) (S.2.1 247 ((S40.1 231 24) + 1))) 231 32 ((S40.1 231 32) + 1)) 231 24 (((S40.1 231 24) + 1) + 1)) 231 24 ((((S40.1 231 24) + 1) + 1) + 1)) 231 34 ((S.1 231 34) + 1)).1 231 35 = S.1 231 35 from (uF_ne (fun h => absurd h.2 (by decide))).trans ((uF_ne (fun h => absurd h.2 (by decide))).trans ((uF_ne (fun h => absurd h.2 (by decide))).trans ((uF_ne (fun h => absurd h.2 (by decide))).trans ((uA_f).trans ((uF_ne (fun h => absurd h.2 (by decide))).trans ((gL40_ 35 rfl).trans ((uA_f).trans ((gu_12 35 rfl).trans (gu_3 35 rfl)))))))))); omega) (fun i i0 i1 => by rw [show (uF (uF (uF (uF (uA (uF S40 231 24 ((S40.1 231 24) + 1)) 253 (S40.1 231 32) (S.2.1 247 ((S40.1 231 24) + 1))) 231 32 ((S40.1 231 32) + 1)) 231 24 (((S40.1 231 24) + 1) + 1)) 231 24 ((((S40.1 231 24) + 1) + 1) + 1)) 231 34 ((S.1 231 34) + 1)).2.1 253 = (uF (uF (uA (uF S40 231 24 ((S40.1 231 24) + 1)) 253 (S40.1 231 32) (S.2.1 247 ((S40.1 231 24) + 1))) 231 32 ((S40.1 231 32) + 1)) 231 24 (((S40.1 231 24) + 1) + 1)).2.1 253 from (funext fun j => (uF_a).trans (uF_a))]; exact hP40x i i0 (by have y32 := (show (uF (uF (uF (uF (uA (uF S40 231 24 ((S40.1 231 24) + 1)) 253 (S40.1 231 32) (S.2.1 247 ((S40.1 231 24) + 1))) 231 32 ((S40.1 231 32) + 1)) 231 24 (((S40.1 231 24) + 1) + 1)) 231 24 ((((S40.1 231 24) + 1) + 1) + 1)) 231 34 ((S.1 231 34) + 1)).1 231 32 = (S40.1 231 32) + 1 from (uF_ne (fun h => absurd h.2 (by decide))).trans ((uF_ne (fun h => absurd h.2 (by decide))).trans ((uF_ne (fun h => absurd h.2 (by decide))).trans (uF_on)))); have y33 : (uF (uF (uA (uF S40 231 24 ((S40.1 231 24) + 1)) 253 (S40.1 231 32) (S.2.1 247 ((S40.1 231 24) + 1))) 231 32 ((S40.1 231 32) + 1)) 231 24 (((S40.1 231 24) + 1) + 1)).1 231 32 = (S40.1 231 32) + 1 := (uF_ne (fun h => absurd h.2 (by decide))).trans (uF_on); omega)) (by omega) (fun z => absurd z (by omega)) (fun _ => ⟨ii1, ii2, a2.2.2.2⟩) (fun _ => ⟨(by omega), (by have y32 := (show (uF (uF (uF (uF (uA (uF S40 231 24 ((S40.1 231 24) + 1)) 253 (S40.1 231 32) (S.2.1 247 ((S40.1 231 24) + 1))) 231 32 ((S40.1 231 32) + 1)) 231 24 (((S40.1 231 24) + 1) + 1)) 231 24 ((((S40.1 231 24) + 1) + 1) + 1)) 231 34 ((S.1 231 34) + 1)).1 231 32 = (S40.1 231 32) + 1 from (uF_ne (fun h => absurd h.2 (by decide))).trans ((uF_ne (fun h => absurd h.2 (by decide))).trans ((uF_ne (fun h => absurd h.2 (by decide))).trans (uF_on)))); rw [← hz1, ← hz2]; omega)⟩) (fun z => absurd z (by omega)) (fun z => absurd z (by omega))), (by have y25 := (show (uF (uF (uF (uF (uA (uF S40 231 24 ((S40.1 231 24) + 1)) 253 (S40.1 231 32) (S.2.1 247 ((S40.1 231 24) + 1))) 231 32 ((S40.1 231 32) + 1)) 231 24 (((S40.1 231 24) + 1) + 1)) 231 24 ((((S40.1 231 24) + 1) + 1) + 1)) 231 34 ((S.1 231 34) + 1)).1 231 25 = u_3.1 231 25 from (uF_ne (fun h => absurd h.2 (by decide))).trans ((uF_ne (fun h => absurd h.2 (by decide))).trans ((uF_ne (fun h => absurd h.2 (by decide))).trans ((uF_ne (fun h => absurd h.2 (by decide))).trans ((uA_f).trans ((uF_ne (fun h => absurd h.2 (by decide))).trans ((gL40_ 25 rfl).trans ((uA_f).trans (gu_12 25 rfl))))))))); omega), (by have y24 := (show (uF (uF (uF (uF (uA (uF S40 231 24 ((S40.1 231 24) + 1)) 253 (S40.1 231 32) (S.2.1 247 ((S40.1 231 24) + 1))) 231 32 ((S40.1 231 32) + 1)) 231 24 (((S40.1 231 24) + 1) + 1)) 231 24 ((((S40.1 231 24) + 1) + 1) + 1)) 231 34 ((S.1 231 34) + 1)).1 231 24 = (((S40.1 231 24) + 1) + 1) + 1 from (uF_ne (fun h => absurd h.2 (by decide))).trans (uF_on)); omega), (by have y32 := (show (uF (uF (uF (uF (uA (uF S40 231 24 ((S40.1 231 24) + 1)) 253 (S40.1 231 32) (S.2.1 247 ((S40.1 231 24) + 1))) 231 32 ((S40.1 231 32) + 1)) 231 24 (((S40.1 231 24) + 1) + 1)) 231 24 ((((S40.1 231 24) + 1) + 1) + 1)) 231 34 ((S.1 231 34) + 1)).1 231 32 = (S40.1 231 32) + 1 from (uF_ne (fun h => absurd h.2 (by decide))).trans ((uF_ne (fun h => absurd h.2 (by decide))).trans ((uF_ne (fun h => absurd h.2 (by decide))).trans (uF_on)))); have y24 := (show (uF (uF (uF (uF (uA (uF S40 231 24 ((S40.1 231 24) + 1)) 253 (S40.1 231 32) (S.2.1 247 ((S40.1 231 24) + 1))) 231 32 ((S40.1 231 32) + 1)) 231 24 (((S40.1 231 24) + 1) + 1)) 231 24 ((((S40.1 231 24) + 1) + 1) + 1)) 231 34 ((S.1 231 34) + 1)).1 231 24 = (((S40.1 231 24) + 1) + 1) + 1 from (uF_ne (fun h => absurd h.2 (by decide))).trans (uF_on)); omega), (by have y34 := (show (uF (uF (uF (uF (uA (uF S40 231 24 ((S40.1 231 24) + 1)) 253 (S40.1 231 32) (S.2.1 247 ((S40.1 231 24) + 1))) 231 32 ((S40.1 231 32) + 1)) 231 24 (((S40.1 231 24) + 1) + 1)) 231 24 ((((S40.1 231 24) + 1) + 1) + 1)) 231 34 ((S.1 231 34) + 1)).1 231 34 = (S.1 231 34) + 1 from uF_on); omega), (by have y34 := (show (uF (uF (uF (uF (uA (uF S40 231 24 ((S40.1 231 24) + 1)) 253 (S40.1 231 32) (S.2.1 247 ((S40.1 231 24) + 1))) 231 32 ((S40.1 231 32) + 1)) 231 24 (((S40.1 231 24) + 1) + 1)) 231 24 ((((S40.1 231 24) + 1) + 1) + 1)) 231 34 ((S.1 231 34) + 1)).1 231 34 = (S.1 231 34) + 1 from uF_on); omega)⟩)⟩ dX12_tellPar_220
                · refine lv_aload_n hx hb dX12_tellPar_213 rfl (lv_at hl 3 rfl) ?_
                  refine lv_bipush (v := iv 7) hx hb dX12_tellPar_214 (by decide) ?_
                  refine lv_iload_n hx hb dX12_tellPar_216 rfl (lv_at hl 4 rfl) ?_
                  refine sBv (sV (As := [.int (iv 7), .int (iv tk)]) (rest := []) (k := 231) Cx (s_X12_wrong l G (uF (uF (uF (uF (uA (uF S40 231 24 ((S40.1 231 24) + 1)) 253 (S40.1 231 32) (S.2.1 247 ((S40.1 231 24) + 1))) 231 32 ((S40.1 231 32) + 1)) 231 24 (((S40.1 231 24) + 1) + 1)) 231 24 ((((S40.1 231 24) + 1) + 1) + 1)) 231 34 ((S.1 231 34) + 1)) (cd := 7) (tk := tk) i_70 (by omega) (by omega)) (c_X12_321 Cx rfl rfl (rmk_ok (by omega) (by decide))) hW (by decide) rfl rfl rfl hl.1 rfl (Nat.le_of_ble_eq_true rfl) dX12_tellPar_217 ⟨Nat.le_of_ble_eq_true rfl, Nat.le_of_ble_eq_true rfl⟩) hL (fun u_77 H locs k_78 hW hL => ?_)
                  obtain ⟨iu_77, fu_77, gu_77, xu_77⟩ := k_78
                  have F_79 := F_67.trans (fu_77.to (pl_sub (by decide)))
                  have F_80 := F_68.trans (fu_77.to (pl_sub (by decide)))
                  have g_81 : FF S u_77 (fl [20, 21, 24, 25, 32, 34]) := FF.trans g_69 (FF.to gu_77 (fl_sub (by decide)))
                  have q_82 : (-2147483648) ≤ u_77.1 231 20 ∧ u_77.1 231 20 ≤ 2147483647 := iu_77.fi 20
                  have lk_83 : u_77.1 231 25 = u_3.1 231 25 := (gu_77 25 rfl).trans ((uF_ne (fun h => absurd h.2 (by decide))).trans ((uF_ne (fun h => absurd h.2 (by decide))).trans ((uF_ne (fun h => absurd h.2 (by decide))).trans ((uF_ne (fun h => absurd h.2 (by decide))).trans ((uA_f).trans ((uF_ne (fun h => absurd h.2 (by decide))).trans ((gL40_ 25 rfl).trans ((uA_f).trans (gu_12 25 rfl)))))))))
                  have lk_84 : u_77.1 231 24 = (((S40.1 231 24) + 1) + 1) + 1 := (gu_77 24 rfl).trans ((uF_ne (fun h => absurd h.2 (by decide))).trans (uF_on))
                  have lk_85 : u_77.1 231 32 = (S40.1 231 32) + 1 := (gu_77 32 rfl).trans ((uF_ne (fun h => absurd h.2 (by decide))).trans ((uF_ne (fun h => absurd h.2 (by decide))).trans ((uF_ne (fun h => absurd h.2 (by decide))).trans (uF_on))))
                  have lk_86 : u_77.1 231 34 = (S.1 231 34) + 1 := (gu_77 34 rfl).trans (uF_on)
                  exact sVret Cx hr hlk hW hL ⟨iu_77, F_79, g_81, (fun h => absurd h (by have e9 := (show u_77.1 231 20 = u_77.1 231 20 from rfl); have a9 := xu_77; omega))⟩ dX12_tellPar_220
              · refine lv_aload_n hx hb dX12_tellPar_188 rfl (lv_at hl 3 rfl) ?_
                refine lv_iconst (v := iv 3) hx hb dX12_tellPar_189 (by decide) ?_
                refine lv_iload_n hx hb dX12_tellPar_190 rfl (lv_at hl 4 rfl) ?_
                refine sBv (sV (As := [.int (iv 3), .int (iv tk)]) (rest := []) (k := 231) Cx (s_X12_wrong l G (uF (uF (uF (uA (uF S40 231 24 ((S40.1 231 24) + 1)) 253 (S40.1 231 32) (S.2.1 247 ((S40.1 231 24) + 1))) 231 32 ((S40.1 231 32) + 1)) 231 24 (((S40.1 231 24) + 1) + 1)) 231 24 ((((S40.1 231 24) + 1) + 1) + 1)) (cd := 3) (tk := tk) i_56 (by omega) (by omega)) (c_X12_321 Cx rfl rfl (rmk_ok (by omega) (by decide))) hW (by decide) rfl rfl rfl hl.1 rfl (Nat.le_of_ble_eq_true rfl) dX12_tellPar_191 ⟨Nat.le_of_ble_eq_true rfl, Nat.le_of_ble_eq_true rfl⟩) hL (fun u_87 H locs k_88 hW hL => ?_)
                obtain ⟨iu_87, fu_87, gu_87, xu_87⟩ := k_88
                have F_89 := F_52.trans (fu_87.to (pl_sub (by decide)))
                have F_90 := F_53.trans (fu_87.to (pl_sub (by decide)))
                have g_91 : FF S u_87 (fl [20, 21, 24, 25, 32, 34]) := FF.trans g_54 (FF.to gu_87 (fl_sub (by decide)))
                refine lv_aload_n hx hb dX12_tellPar_194 rfl (lv_at hl 3 rfl) ?_
                refine lv_dup hx hb dX12_tellPar_195 rfl ?_
                have q_93 : (-2147483648) ≤ S.1 231 34 ∧ S.1 231 34 ≤ 2147483647 := hI.fi 34
                refine g_X12_373 Cx hW (k := 231) (by decide) rfl (v := S.1 231 34) ((gu_87 34 rfl).trans ((uF_ne (fun h => absurd h.2 (by decide))).trans ((uF_ne (fun h => absurd h.2 (by decide))).trans ((uF_ne (fun h => absurd h.2 (by decide))).trans ((uA_f).trans ((uF_ne (fun h => absurd h.2 (by decide))).trans ((gL40_ 34 rfl).trans ((uA_f).trans ((gu_12 34 rfl).trans (gu_3 34 rfl)))))))))) dX12_tellPar_196 ?_
                refine lv_iconst (v := iv 1) hx hb dX12_tellPar_199 (by decide) ?_
                refine r_iadd hx hb dX12_tellPar_200 ?_
                refine p_X12_373 Cx hW hL (k := 231) (by decide) rfl dX12_tellPar_201 (fun H locs hW hL => ?_)
                have F_94 : Fr S (uF u_87 231 34 ((S.1 231 34) + 1)) (pl [231, 248, 249, 250, 251, 252, 253]) := F_89.F rfl
                have F_95 : Fr ((uA u_12 252 nm (S.1 231 32))) (uF u_87 231 34 ((S.1 231 34) + 1)) (pl [231, 253]) := F_90.F rfl
                have g_96 : FF S (uF u_87 231 34 ((S.1 231 34) + 1)) (fl [20, 21, 24, 25, 32, 34]) := FF.F g_91 rfl
                have i_97 : dX G (uF u_87 231 34 ((S.1 231 34) + 1)) := iu_87.F (i := 34) (show (-2147483648) ≤ (S.1 231 34) + 1 ∧ (S.1 231 34) + 1 ≤ 2147483647 from ⟨by omega, by omega⟩)
                refine lv_aload_n hx hb dX12_tellPar_204 rfl (lv_at hl 3 rfl) ?_
                refine g_X12_373 Cx hW (k := 231) (by decide) rfl (v := (S.1 231 34) + 1) uF_on dX12_tellPar_205 ?_
                refine lv_bipush (v := iv 12) hx hb dX12_tellPar_208 (by decide) ?_
                refine r_icmp_le (tgt := 220) hx hb ⟨(by omega), (by omega)⟩ ⟨(by omega), (by omega)⟩ dX12_tellPar_210 (by decide) (fun c_98 => ?_) (fun c_98 => ?_)
                · have q_99 : (-2147483648) ≤ u_87.1 231 20 ∧ u_87.1 231 20 ≤ 2147483647 := iu_87.fi 20
                  have lk_100 : (uF u_87 231 34 ((S.1 231 34) + 1)).1 231 20 = u_87.1 231 20 := uF_ne (fun h => absurd h.2 (by decide))
                  have lk_101 : (uF u_87 231 34 ((S.1 231 34) + 1)).1 231 25 = u_3.1 231 25 := (uF_ne (fun h => absurd h.2 (by decide))).trans ((gu_87 25 rfl).trans ((uF_ne (fun h => absurd h.2 (by decide))).trans ((uF_ne (fun h => absurd h.2 (by decide))).trans ((uF_ne (fun h => absurd h.2 (by decide))).trans ((uA_f).trans ((uF_ne (fun h => absurd h.2 (by decide))).trans ((gL40_ 25 rfl).trans ((uA_f).trans (gu_12 25 rfl)))))))))
                  have lk_102 : (uF u_87 231 34 ((S.1 231 34) + 1)).1 231 24 = (((S40.1 231 24) + 1) + 1) + 1 := (uF_ne (fun h => absurd h.2 (by decide))).trans ((gu_87 24 rfl).trans (uF_on))
                  have lk_103 : (uF u_87 231 34 ((S.1 231 34) + 1)).1 231 32 = (S40.1 231 32) + 1 := (uF_ne (fun h => absurd h.2 (by decide))).trans ((gu_87 32 rfl).trans ((uF_ne (fun h => absurd h.2 (by decide))).trans ((uF_ne (fun h => absurd h.2 (by decide))).trans (uF_on))))
                  have lk_104 : (uF u_87 231 34 ((S.1 231 34) + 1)).1 231 34 = (S.1 231 34) + 1 := uF_on
                  exact sVret Cx hr hlk hW hL ⟨i_97, F_94, g_96, (fun h => absurd h (by have e9 := (show (uF u_87 231 34 ((S.1 231 34) + 1)).1 231 20 = u_87.1 231 20 from uF_ne (fun h => absurd h.2 (by decide))); have a9 := xu_87; omega))⟩ dX12_tellPar_220
                · refine lv_aload_n hx hb dX12_tellPar_213 rfl (lv_at hl 3 rfl) ?_
                  refine lv_bipush (v := iv 7) hx hb dX12_tellPar_214 (by decide) ?_
                  refine lv_iload_n hx hb dX12_tellPar_216 rfl (lv_at hl 4 rfl) ?_
                  refine sBv (sV (As := [.int (iv 7), .int (iv tk)]) (rest := []) (k := 231) Cx (s_X12_wrong l G (uF u_87 231 34 ((S.1 231 34) + 1)) (cd := 7) (tk := tk) i_97 (by omega) (by omega)) (c_X12_321 Cx rfl rfl (rmk_ok (by omega) (by decide))) hW (by decide) rfl rfl rfl hl.1 rfl (Nat.le_of_ble_eq_true rfl) dX12_tellPar_217 ⟨Nat.le_of_ble_eq_true rfl, Nat.le_of_ble_eq_true rfl⟩) hL (fun u_105 H locs k_106 hW hL => ?_)
                  obtain ⟨iu_105, fu_105, gu_105, xu_105⟩ := k_106
                  have F_107 := F_94.trans (fu_105.to (pl_sub (by decide)))
                  have F_108 := F_95.trans (fu_105.to (pl_sub (by decide)))
                  have g_109 : FF S u_105 (fl [20, 21, 24, 25, 32, 34]) := FF.trans g_96 (FF.to gu_105 (fl_sub (by decide)))
                  have q_110 : (-2147483648) ≤ u_105.1 231 20 ∧ u_105.1 231 20 ≤ 2147483647 := iu_105.fi 20
                  have lk_111 : u_105.1 231 25 = u_3.1 231 25 := (gu_105 25 rfl).trans ((uF_ne (fun h => absurd h.2 (by decide))).trans ((gu_87 25 rfl).trans ((uF_ne (fun h => absurd h.2 (by decide))).trans ((uF_ne (fun h => absurd h.2 (by decide))).trans ((uF_ne (fun h => absurd h.2 (by decide))).trans ((uA_f).trans ((uF_ne (fun h => absurd h.2 (by decide))).trans ((gL40_ 25 rfl).trans ((uA_f).trans (gu_12 25 rfl))))))))))
                  have lk_112 : u_105.1 231 24 = (((S40.1 231 24) + 1) + 1) + 1 := (gu_105 24 rfl).trans ((uF_ne (fun h => absurd h.2 (by decide))).trans ((gu_87 24 rfl).trans (uF_on)))
                  have lk_113 : u_105.1 231 32 = (S40.1 231 32) + 1 := (gu_105 32 rfl).trans ((uF_ne (fun h => absurd h.2 (by decide))).trans ((gu_87 32 rfl).trans ((uF_ne (fun h => absurd h.2 (by decide))).trans ((uF_ne (fun h => absurd h.2 (by decide))).trans (uF_on)))))
                  have lk_114 : u_105.1 231 34 = (S.1 231 34) + 1 := (gu_105 34 rfl).trans (uF_on)
                  exact sVret Cx hr hlk hW hL ⟨iu_105, F_107, g_109, (fun h => absurd h (by have e9 := (show u_105.1 231 20 = u_105.1 231 20 from rfl); have a9 := xu_105; omega))⟩ dX12_tellPar_220
          · refine lv_aload_n hx hb dX12_tellPar_63 rfl (lv_at hl 3 rfl) ?_
            refine lv_dup hx hb dX12_tellPar_64 rfl ?_
            refine g_X12_315 Cx hW (k := 231) (by decide) rfl (v := (S40.1 231 24) + 1) uF_on dX12_tellPar_65 ?_
            refine lv_iconst (v := iv 1) hx hb dX12_tellPar_68 (by decide) ?_
            refine r_iadd hx hb dX12_tellPar_69 ?_
            refine p_X12_315 Cx hW hL (k := 231) (by decide) rfl dX12_tellPar_70 (fun H locs hW hL => ?_)
            have F_115 : Fr S (uF (uF S40 231 24 ((S40.1 231 24) + 1)) 231 24 (((S40.1 231 24) + 1) + 1)) (pl [231, 248, 249, 250, 251, 252, 253]) := F_22.F rfl
            have F_116 : Fr ((uA u_12 252 nm (S.1 231 32))) (uF (uF S40 231 24 ((S40.1 231 24) + 1)) 231 24 (((S40.1 231 24) + 1) + 1)) (pl [231, 253]) := F_23.F rfl
            have g_117 : FF S (uF (uF S40 231 24 ((S40.1 231 24) + 1)) 231 24 (((S40.1 231 24) + 1) + 1)) (fl [20, 21, 24, 25, 32, 34]) := FF.F g_24 rfl
            have g_118 : FF ((uA u_12 252 nm (S.1 231 32))) (uF (uF S40 231 24 ((S40.1 231 24) + 1)) 231 24 (((S40.1 231 24) + 1) + 1)) (fl [24, 32]) := FF.F g_25 rfl
            have i_119 : dX G (uF (uF S40 231 24 ((S40.1 231 24) + 1)) 231 24 (((S40.1 231 24) + 1) + 1)) := i_26.F (i := 24) (show (-2147483648) ≤ ((S40.1 231 24) + 1) + 1 ∧ ((S40.1 231 24) + 1) + 1 ≤ 2147483647 from ⟨by omega, by omega⟩)
            obtain ⟨hk9, rfl⟩ : gk K 2 (S40.1 231 24 + 1 + 1) e1 := by rcases hv with h | h; (exact h.2); exact absurd (xu_28.2.1 (by omega)) h.1
            have hv9 := hQ.2.2 _ (by omega) (by omega) hk9
            refine lv_aload_n hx hb dX12_tellPar_73 rfl (lv_at hl 3 rfl) ?_
            have q_120 : (-2147483648) ≤ S40.1 231 32 ∧ S40.1 231 32 ≤ 2147483647 := hI40.fi 32
            refine g_X12_367 Cx hW (k := 231) (by decide) rfl (v := S40.1 231 32) ((uF_ne (fun h => absurd h.2 (by decide))).trans (uF_ne (fun h => absurd h.2 (by decide)))) dX12_tellPar_74 ?_
            refine lv_aload_n hx hb dX12_tellPar_77 rfl (lv_at hl 3 rfl) ?_
            refine g_X12_74 Cx hW (k := 231) (by decide) rfl (v := .ref (G.2.2.1 + 253)) (rd_31 i_119) dX12_tellPar_78 ?_
            refine sAlen Cx hW (k := 253) (by decide) rfl 0 rfl dX12_tellPar_81 ?_
            refine r_icmp_ge (tgt := 121) hx hb ⟨(by omega), (by omega)⟩ ⟨(by omega), (by omega)⟩ dX12_tellPar_82 (by decide) (fun c => absurd c (by omega)) (fun _ => ?_)
            refine lv_aload_n hx hb dX12_tellPar_85 rfl (lv_at hl 3 rfl) ?_
            refine g_X12_74 Cx hW (k := 231) (by decide) rfl (v := .ref (G.2.2.1 + 253)) (rd_31 i_119) dX12_tellPar_86 ?_
            refine lv_aload_n hx hb dX12_tellPar_89 rfl (lv_at hl 3 rfl) ?_
            refine g_X12_367 Cx hW (k := 231) (by decide) rfl (v := S40.1 231 32) ((uF_ne (fun h => absurd h.2 (by decide))).trans (uF_ne (fun h => absurd h.2 (by decide)))) dX12_tellPar_90 ?_
            refine lv_iload hx hb dX12_tellPar_93 (lv_at hl 0 rfl) ?_
            refine r_if_eq (tgt := 111) hx hb ⟨(by omega), (by omega)⟩ dX12_tellPar_95 (by decide) (fun c => absurd c (by omega)) (fun _ => ?_)
            refine lv_aload_n hx hb dX12_tellPar_98 rfl (lv_at hl 3 rfl) ?_
            refine g_X12_56 Cx hW (k := 231) (by decide) rfl (v := .ref (G.2.2.1 + 247)) (rd_18 i_119) dX12_tellPar_99 ?_
            refine lv_aload_n hx hb dX12_tellPar_102 rfl (lv_at hl 3 rfl) ?_
            refine g_X12_315 Cx hW (k := 231) (by decide) rfl (v := ((S40.1 231 24) + 1) + 1) uF_on dX12_tellPar_103 ?_
            refine rIald Cx hW (k := 247) (by decide) rfl (by decide) (by omega) (by omega) dX12_tellPar_106 ?_
            have q_121 : (-2147483648) ≤ S.2.1 247 (((S40.1 231 24) + 1) + 1) ∧ S.2.1 247 (((S40.1 231 24) + 1) + 1) ≤ 2147483647 := hI.ai 247 (((S40.1 231 24) + 1) + 1)
            refine r_i (b := S.2.1 247 (((S40.1 231 24) + 1) + 1)) ((uF_a).trans ((uF_a).trans (((hL40_ 247 rfl).2.1 (((S40.1 231 24) + 1) + 1)).trans ((uA_ne (fun h => absurd h.1 (by decide))).trans (((fu_12 247 rfl).2.1 (((S40.1 231 24) + 1) + 1)).trans ((fu_3 247 rfl).2.1 (((S40.1 231 24) + 1) + 1))))))) ?_
            have hv8 : V (S40.1 231 24 + 1 + 1) = S.2.1 247 (((S40.1 231 24) + 1) + 1) := by rw [← hV]
            refine r_ineg hx hb dX12_tellPar_107 ?_
            refine lv_goto (tgt := 120) hx hb dX12_tellPar_108 (by decide) ?_
            refine rIast Cx hW hL (k := 253) (by decide) rfl (by decide) (by omega) (by omega) dX12_tellPar_120 (fun H locs hW hL => ?_)
            have F_122 : Fr S (uA (uF (uF S40 231 24 ((S40.1 231 24) + 1)) 231 24 (((S40.1 231 24) + 1) + 1)) 253 (S40.1 231 32) (-(S.2.1 247 (((S40.1 231 24) + 1) + 1)))) (pl [231, 248, 249, 250, 251, 252, 253]) := F_115.A rfl
            have F_123 : Fr ((uA u_12 252 nm (S.1 231 32))) (uA (uF (uF S40 231 24 ((S40.1 231 24) + 1)) 231 24 (((S40.1 231 24) + 1) + 1)) 253 (S40.1 231 32) (-(S.2.1 247 (((S40.1 231 24) + 1) + 1)))) (pl [231, 253]) := F_116.A rfl
            have i_124 : dX G (uA (uF (uF S40 231 24 ((S40.1 231 24) + 1)) 231 24 (((S40.1 231 24) + 1) + 1)) 253 (S40.1 231 32) (-(S.2.1 247 (((S40.1 231 24) + 1) + 1)))) := i_119.A (k := 253) (show (-2147483648) ≤ -(S.2.1 247 (((S40.1 231 24) + 1) + 1)) ∧ -(S.2.1 247 (((S40.1 231 24) + 1) + 1)) ≤ 2147483647 from ⟨by omega, by omega⟩)
            refine lv_aload_n hx hb dX12_tellPar_121 rfl (lv_at hl 3 rfl) ?_
            refine lv_dup hx hb dX12_tellPar_122 rfl ?_
            refine g_X12_367 Cx hW (k := 231) (by decide) rfl (v := S40.1 231 32) ((uA_f).trans ((uF_ne (fun h => absurd h.2 (by decide))).trans (uF_ne (fun h => absurd h.2 (by decide))))) dX12_tellPar_123 ?_
            refine lv_iconst (v := iv 1) hx hb dX12_tellPar_126 (by decide) ?_
            refine r_iadd hx hb dX12_tellPar_127 ?_
            refine p_X12_367 Cx hW hL (k := 231) (by decide) rfl dX12_tellPar_128 (fun H locs hW hL => ?_)
            have F_125 : Fr S (uF (uA (uF (uF S40 231 24 ((S40.1 231 24) + 1)) 231 24 (((S40.1 231 24) + 1) + 1)) 253 (S40.1 231 32) (-(S.2.1 247 (((S40.1 231 24) + 1) + 1)))) 231 32 ((S40.1 231 32) + 1)) (pl [231, 248, 249, 250, 251, 252, 253]) := F_122.F rfl
            have F_126 : Fr ((uA u_12 252 nm (S.1 231 32))) (uF (uA (uF (uF S40 231 24 ((S40.1 231 24) + 1)) 231 24 (((S40.1 231 24) + 1) + 1)) 253 (S40.1 231 32) (-(S.2.1 247 (((S40.1 231 24) + 1) + 1)))) 231 32 ((S40.1 231 32) + 1)) (pl [231, 253]) := F_123.F rfl
            have g_127 : FF S (uF (uA (uF (uF S40 231 24 ((S40.1 231 24) + 1)) 231 24 (((S40.1 231 24) + 1) + 1)) 253 (S40.1 231 32) (-(S.2.1 247 (((S40.1 231 24) + 1) + 1)))) 231 32 ((S40.1 231 32) + 1)) (fl [20, 21, 24, 25, 32, 34]) := FF.F g_117 rfl
            have g_128 : FF ((uA u_12 252 nm (S.1 231 32))) (uF (uA (uF (uF S40 231 24 ((S40.1 231 24) + 1)) 231 24 (((S40.1 231 24) + 1) + 1)) 253 (S40.1 231 32) (-(S.2.1 247 (((S40.1 231 24) + 1) + 1)))) 231 32 ((S40.1 231 32) + 1)) (fl [24, 32]) := FF.F g_118 rfl
            have i_129 : dX G (uF (uA (uF (uF S40 231 24 ((S40.1 231 24) + 1)) 231 24 (((S40.1 231 24) + 1) + 1)) 253 (S40.1 231 32) (-(S.2.1 247 (((S40.1 231 24) + 1) + 1)))) 231 32 ((S40.1 231 32) + 1)) := i_124.F (i := 32) (show (-2147483648) ≤ (S40.1 231 32) + 1 ∧ (S40.1 231 32) + 1 ≤ 2147483647 from ⟨by omega, by omega⟩)
            refine lv_iinc (v := iv (ct + 1)) (lv' := [(3, .int (iv (ct + 1))), (4, .int (iv mi)), (2, .int (iv nm)), (0, .ref (G.2.2.1 + 231)), (1, .int (iv tk))]) hx hb dX12_tellPar_131 hl (k := 1) rfl ((Int32.ofInt_add _ _).symm) (by decide) rfl (fun ls hl => ?_)
            refine lv_aload_n hx hb dX12_tellPar_134 rfl (lv_at hl 3 rfl) ?_
            refine lv_dup hx hb dX12_tellPar_135 rfl ?_
            refine g_X12_315 Cx hW (k := 231) (by decide) rfl (v := ((S40.1 231 24) + 1) + 1) ((uF_ne (fun h => absurd h.2 (by decide))).trans ((uA_f).trans (uF_on))) dX12_tellPar_136 ?_
            refine lv_iconst (v := iv 1) hx hb dX12_tellPar_139 (by decide) ?_
            refine r_iadd hx hb dX12_tellPar_140 ?_
            refine p_X12_315 Cx hW hL (k := 231) (by decide) rfl dX12_tellPar_141 (fun H locs hW hL => ?_)
            have F_130 : Fr S (uF (uF (uA (uF (uF S40 231 24 ((S40.1 231 24) + 1)) 231 24 (((S40.1 231 24) + 1) + 1)) 253 (S40.1 231 32) (-(S.2.1 247 (((S40.1 231 24) + 1) + 1)))) 231 32 ((S40.1 231 32) + 1)) 231 24 ((((S40.1 231 24) + 1) + 1) + 1)) (pl [231, 248, 249, 250, 251, 252, 253]) := F_125.F rfl
            have F_131 : Fr ((uA u_12 252 nm (S.1 231 32))) (uF (uF (uA (uF (uF S40 231 24 ((S40.1 231 24) + 1)) 231 24 (((S40.1 231 24) + 1) + 1)) 253 (S40.1 231 32) (-(S.2.1 247 (((S40.1 231 24) + 1) + 1)))) 231 32 ((S40.1 231 32) + 1)) 231 24 ((((S40.1 231 24) + 1) + 1) + 1)) (pl [231, 253]) := F_126.F rfl
            have g_132 : FF S (uF (uF (uA (uF (uF S40 231 24 ((S40.1 231 24) + 1)) 231 24 (((S40.1 231 24) + 1) + 1)) 253 (S40.1 231 32) (-(S.2.1 247 (((S40.1 231 24) + 1) + 1)))) 231 32 ((S40.1 231 32) + 1)) 231 24 ((((S40.1 231 24) + 1) + 1) + 1)) (fl [20, 21, 24, 25, 32, 34]) := FF.F g_127 rfl
            have g_133 : FF ((uA u_12 252 nm (S.1 231 32))) (uF (uF (uA (uF (uF S40 231 24 ((S40.1 231 24) + 1)) 231 24 (((S40.1 231 24) + 1) + 1)) 253 (S40.1 231 32) (-(S.2.1 247 (((S40.1 231 24) + 1) + 1)))) 231 32 ((S40.1 231 32) + 1)) 231 24 ((((S40.1 231 24) + 1) + 1) + 1)) (fl [24, 32]) := FF.F g_128 rfl
            have i_134 : dX G (uF (uF (uA (uF (uF S40 231 24 ((S40.1 231 24) + 1)) 231 24 (((S40.1 231 24) + 1) + 1)) 253 (S40.1 231 32) (-(S.2.1 247 (((S40.1 231 24) + 1) + 1)))) 231 32 ((S40.1 231 32) + 1)) 231 24 ((((S40.1 231 24) + 1) + 1) + 1)) := i_129.F (i := 24) (show (-2147483648) ≤ (((S40.1 231 24) + 1) + 1) + 1 ∧ (((S40.1 231 24) + 1) + 1) + 1 ≤ 2147483647 from ⟨by omega, by omega⟩)
            refine lv_aload_n hx hb dX12_tellPar_144 rfl (lv_at hl 3 rfl) ?_
            refine lv_bipush (v := iv 44) hx hb dX12_tellPar_145 (by decide) ?_
            have lk_135 : (uF (uF (uA (uF (uF S40 231 24 ((S40.1 231 24) + 1)) 231 24 (((S40.1 231 24) + 1) + 1)) 253 (S40.1 231 32) (-(S.2.1 247 (((S40.1 231 24) + 1) + 1)))) 231 32 ((S40.1 231 32) + 1)) 231 24 ((((S40.1 231 24) + 1) + 1) + 1)).1 231 24 = (((S40.1 231 24) + 1) + 1) + 1 := uF_on
            refine sBi (sV (As := [.int (iv 44)]) (rest := []) (k := 231) Cx (s_X12_isSign l G (uF (uF (uA (uF (uF S40 231 24 ((S40.1 231 24) + 1)) 231 24 (((S40.1 231 24) + 1) + 1)) 253 (S40.1 231 32) (-(S.2.1 247 (((S40.1 231 24) + 1) + 1)))) 231 32 ((S40.1 231 32) + 1)) 231 24 ((((S40.1 231 24) + 1) + 1) + 1)) (sv := 44) (K := K) (V := V) (pz := (((S40.1 231 24) + 1) + 1) + 1) i_134 (by omega) ((funext fun j => (uF_a).trans ((uF_a).trans ((uA_ne (fun h => absurd h.1 (by decide))).trans ((uF_a).trans ((uF_a).trans (((hL40_ 244 rfl).2.1 j).trans ((uA_ne (fun h => absurd h.1 (by decide))).trans (((fu_12 244 rfl).2.1 j).trans ((fu_3 244 rfl).2.1 j)))))))) : (uF (uF (uA (uF (uF S40 231 24 ((S40.1 231 24) + 1)) 231 24 (((S40.1 231 24) + 1) + 1)) 253 (S40.1 231 32) (-(S.2.1 247 (((S40.1 231 24) + 1) + 1)))) 231 32 ((S40.1 231 32) + 1)) 231 24 ((((S40.1 231 24) + 1) + 1) + 1)).2.1 244 = S.2.1 244).trans hK) ((funext fun j => (uF_a).trans ((uF_a).trans ((uA_ne (fun h => absurd h.1 (by decide))).trans ((uF_a).trans ((uF_a).trans (((hL40_ 247 rfl).2.1 j).trans ((uA_ne (fun h => absurd h.1 (by decide))).trans (((fu_12 247 rfl).2.1 j).trans ((fu_3 247 rfl).2.1 j)))))))) : (uF (uF (uA (uF (uF S40 231 24 ((S40.1 231 24) + 1)) 231 24 (((S40.1 231 24) + 1) + 1)) 253 (S40.1 231 32) (-(S.2.1 247 (((S40.1 231 24) + 1) + 1)))) 231 32 ((S40.1 231 32) + 1)) 231 24 ((((S40.1 231 24) + 1) + 1) + 1)).2.1 247 = S.2.1 247).trans hV) (by omega) (by omega)) (c_X12_318 Cx rfl rfl (rmk_ok (by omega) (by decide))) hW (by decide) rfl rfl rfl hl.1 rfl (Nat.le_of_ble_eq_true rfl) dX12_tellPar_147 ⟨Nat.le_of_ble_eq_true rfl, Nat.le_of_ble_eq_true rfl⟩) hL (fun r_138 u_136 H locs k_137 hW hL => ?_)
            obtain ⟨eu_136, xu_136⟩ := k_137
            rw [eu_136] at hW
            refine r_if_ne (tgt := 40) hx hb ⟨(by omega), (by omega)⟩ dX12_tellPar_150 (by decide) (fun c_139 => ?_) (fun c_139 => ?_)
            · have lk_140 : (uF (uF (uA (uF (uF S40 231 24 ((S40.1 231 24) + 1)) 231 24 (((S40.1 231 24) + 1) + 1)) 253 (S40.1 231 32) (-(S.2.1 247 (((S40.1 231 24) + 1) + 1)))) 231 32 ((S40.1 231 32) + 1)) 231 24 ((((S40.1 231 24) + 1) + 1) + 1)).1 231 32 = (S40.1 231 32) + 1 := (uF_ne (fun h => absurd h.2 (by decide))).trans (uF_on)
              exact ih_40 (uF (uF (uA (uF (uF S40 231 24 ((S40.1 231 24) + 1)) 231 24 (((S40.1 231 24) + 1) + 1)) 253 (S40.1 231 32) (-(S.2.1 247 (((S40.1 231 24) + 1) + 1)))) 231 32 ((S40.1 231 32) + 1)) 231 24 ((((S40.1 231 24) + 1) + 1) + 1)) (ct + 1) _ _ _ (by omega) i_134 F_130 F_131 g_132 g_133 (by omega) (by rw [(show (uF (uF (uA (uF (uF S40 231 24 ((S40.1 231 24) + 1)) 231 24 (((S40.1 231 24) + 1) + 1)) 253 (S40.1 231 32) (-(S.2.1 247 (((S40.1 231 24) + 1) + 1)))) 231 32 ((S40.1 231 32) + 1)) 231 24 ((((S40.1 231 24) + 1) + 1) + 1)).1 231 24 = (((S40.1 231 24) + 1) + 1) + 1 from uF_on)]; exact gTl.inv ht (xu_136.2.1 (by omega))) (fun i i0 i1 => by rw [show (uF (uF (uA (uF (uF S40 231 24 ((S40.1 231 24) + 1)) 231 24 (((S40.1 231 24) + 1) + 1)) 253 (S40.1 231 32) (-(S.2.1 247 (((S40.1 231 24) + 1) + 1)))) 231 32 ((S40.1 231 32) + 1)) 231 24 ((((S40.1 231 24) + 1) + 1) + 1)).2.1 253 i = (uA (uF (uF S40 231 24 ((S40.1 231 24) + 1)) 231 24 (((S40.1 231 24) + 1) + 1)) 253 (S40.1 231 32) (-(S.2.1 247 (((S40.1 231 24) + 1) + 1)))).2.1 253 i from (uF_a).trans (uF_a), uA_get]; by_cases z : i = S40.1 231 32; (rw [if_pos ⟨rfl, z⟩]; omega); (rw [if_neg (fun h => z h.2), show (uF (uF S40 231 24 ((S40.1 231 24) + 1)) 231 24 (((S40.1 231 24) + 1) + 1)).2.1 253 i = S40.2.1 253 i from (uF_a).trans (uF_a)]; exact hP40 i i0 (by have y32 := (show (uF (uF (uA (uF (uF S40 231 24 ((S40.1 231 24) + 1)) 231 24 (((S40.1 231 24) + 1) + 1)) 253 (S40.1 231 32) (-(S.2.1 247 (((S40.1 231 24) + 1) + 1)))) 231 32 ((S40.1 231 32) + 1)) 231 24 ((((S40.1 231 24) + 1) + 1) + 1)).1 231 32 = (S40.1 231 32) + 1 from (uF_ne (fun h => absurd h.2 (by decide))).trans (uF_on)); omega))) hW hL (lv_sub hl [0, 2, 3, 4] rfl)
            · have hd9 := gTl.fin ht (xu_136.2.2 (by omega))
              have hP40x : ∀ i, 0 ≤ i → i < (uF (uF (uA (uF (uF S40 231 24 ((S40.1 231 24) + 1)) 231 24 (((S40.1 231 24) + 1) + 1)) 253 (S40.1 231 32) (-(S.2.1 247 (((S40.1 231 24) + 1) + 1)))) 231 32 ((S40.1 231 32) + 1)) 231 24 ((((S40.1 231 24) + 1) + 1) + 1)).1 231 32 → -99999 ≤ (uF (uF (uA (uF (uF S40 231 24 ((S40.1 231 24) + 1)) 231 24 (((S40.1 231 24) + 1) + 1)) 253 (S40.1 231 32) (-(S.2.1 247 (((S40.1 231 24) + 1) + 1)))) 231 32 ((S40.1 231 32) + 1)) 231 24 ((((S40.1 231 24) + 1) + 1) + 1)).2.1 253 i ∧ (uF (uF (uA (uF (uF S40 231 24 ((S40.1 231 24) + 1)) 231 24 (((S40.1 231 24) + 1) + 1)) 253 (S40.1 231 32) (-(S.2.1 247 (((S40.1 231 24) + 1) + 1)))) 231 32 ((S40.1 231 32) + 1)) 231 24 ((((S40.1 231 24) + 1) + 1) + 1)).2.1 253 i ≤ 99999 := (fun i i0 i1 => by rw [show (uF (uF (uA (uF (uF S40 231 24 ((S40.1 231 24) + 1)) 231 24 (((S40.1 231 24) + 1) + 1)) 253 (S40.1 231 32) (-(S.2.1 247 (((S40.1 231 24) + 1) + 1)))) 231 32 ((S40.1 231 32) + 1)) 231 24 ((((S40.1 231 24) + 1) + 1) + 1)).2.1 253 i = (uA (uF (uF S40 231 24 ((S40.1 231 24) + 1)) 231 24 (((S40.1 231 24) + 1) + 1)) 253 (S40.1 231 32) (-(S.2.1 247 (((S40.1 231 24) + 1) + 1)))).2.1 253 i from (uF_a).trans (uF_a), uA_get]; by_cases z : i = S40.1 231 32; (rw [if_pos ⟨rfl, z⟩]; omega); (rw [if_neg (fun h => z h.2), show (uF (uF S40 231 24 ((S40.1 231 24) + 1)) 231 24 (((S40.1 231 24) + 1) + 1)).2.1 253 i = S40.2.1 253 i from (uF_a).trans (uF_a)]; exact hP40 i i0 (by have y32 := (show (uF (uF (uA (uF (uF S40 231 24 ((S40.1 231 24) + 1)) 231 24 (((S40.1 231 24) + 1) + 1)) 253 (S40.1 231 32) (-(S.2.1 247 (((S40.1 231 24) + 1) + 1)))) 231 32 ((S40.1 231 32) + 1)) 231 24 ((((S40.1 231 24) + 1) + 1) + 1)).1 231 32 = (S40.1 231 32) + 1 from (uF_ne (fun h => absurd h.2 (by decide))).trans (uF_on)); omega)))
              refine lv_aload_n hx hb dX12_tellPar_153 rfl (lv_at hl 3 rfl) ?_
              refine lv_dup hx hb dX12_tellPar_154 rfl ?_
              refine g_X12_315 Cx hW (k := 231) (by decide) rfl (v := (((S40.1 231 24) + 1) + 1) + 1) uF_on dX12_tellPar_155 ?_
              refine lv_iconst (v := iv 1) hx hb dX12_tellPar_158 (by decide) ?_
              refine r_iadd hx hb dX12_tellPar_159 ?_
              refine p_X12_315 Cx hW hL (k := 231) (by decide) rfl dX12_tellPar_160 (fun H locs hW hL => ?_)
              have F_141 : Fr S (uF (uF (uF (uA (uF (uF S40 231 24 ((S40.1 231 24) + 1)) 231 24 (((S40.1 231 24) + 1) + 1)) 253 (S40.1 231 32) (-(S.2.1 247 (((S40.1 231 24) + 1) + 1)))) 231 32 ((S40.1 231 32) + 1)) 231 24 ((((S40.1 231 24) + 1) + 1) + 1)) 231 24 (((((S40.1 231 24) + 1) + 1) + 1) + 1)) (pl [231, 248, 249, 250, 251, 252, 253]) := F_130.F rfl
              have F_142 : Fr ((uA u_12 252 nm (S.1 231 32))) (uF (uF (uF (uA (uF (uF S40 231 24 ((S40.1 231 24) + 1)) 231 24 (((S40.1 231 24) + 1) + 1)) 253 (S40.1 231 32) (-(S.2.1 247 (((S40.1 231 24) + 1) + 1)))) 231 32 ((S40.1 231 32) + 1)) 231 24 ((((S40.1 231 24) + 1) + 1) + 1)) 231 24 (((((S40.1 231 24) + 1) + 1) + 1) + 1)) (pl [231, 253]) := F_131.F rfl
              have g_143 : FF S (uF (uF (uF (uA (uF (uF S40 231 24 ((S40.1 231 24) + 1)) 231 24 (((S40.1 231 24) + 1) + 1)) 253 (S40.1 231 32) (-(S.2.1 247 (((S40.1 231 24) + 1) + 1)))) 231 32 ((S40.1 231 32) + 1)) 231 24 ((((S40.1 231 24) + 1) + 1) + 1)) 231 24 (((((S40.1 231 24) + 1) + 1) + 1) + 1)) (fl [20, 21, 24, 25, 32, 34]) := FF.F g_132 rfl
              have g_144 : FF ((uA u_12 252 nm (S.1 231 32))) (uF (uF (uF (uA (uF (uF S40 231 24 ((S40.1 231 24) + 1)) 231 24 (((S40.1 231 24) + 1) + 1)) 253 (S40.1 231 32) (-(S.2.1 247 (((S40.1 231 24) + 1) + 1)))) 231 32 ((S40.1 231 32) + 1)) 231 24 ((((S40.1 231 24) + 1) + 1) + 1)) 231 24 (((((S40.1 231 24) + 1) + 1) + 1) + 1)) (fl [24, 32]) := FF.F g_133 rfl
              have i_145 : dX G (uF (uF (uF (uA (uF (uF S40 231 24 ((S40.1 231 24) + 1)) 231 24 (((S40.1 231 24) + 1) + 1)) 253 (S40.1 231 32) (-(S.2.1 247 (((S40.1 231 24) + 1) + 1)))) 231 32 ((S40.1 231 32) + 1)) 231 24 ((((S40.1 231 24) + 1) + 1) + 1)) 231 24 (((((S40.1 231 24) + 1) + 1) + 1) + 1)) := i_134.F (i := 24) (show (-2147483648) ≤ ((((S40.1 231 24) + 1) + 1) + 1) + 1 ∧ ((((S40.1 231 24) + 1) + 1) + 1) + 1 ≤ 2147483647 from ⟨by omega, by omega⟩)
              refine lv_iload_n hx hb dX12_tellPar_163 rfl (lv_at hl 0 rfl) ?_
              refine lv_aload_n hx hb dX12_tellPar_164 rfl (lv_at hl 3 rfl) ?_
              refine lv_aload_n hx hb dX12_tellPar_165 rfl (lv_at hl 3 rfl) ?_
              refine g_X12_65 Cx hW (k := 231) (by decide) rfl (v := .ref (G.2.2.1 + 250)) (rd_28 i_145) dX12_tellPar_166 ?_
              refine lv_iload_n hx hb dX12_tellPar_169 rfl (lv_at hl 2 rfl) ?_
              refine rIald Cx hW (k := 250) (by decide) rfl (by decide) (by omega) (by omega) dX12_tellPar_170 ?_
              have q_146 : (-2147483648) ≤ u_12.2.1 250 nm ∧ u_12.2.1 250 nm ≤ 2147483647 := iu_12.ai 250 nm
              refine r_i (b := u_12.2.1 250 nm) ((uF_a).trans ((uF_a).trans ((uF_a).trans ((uA_ne (fun h => absurd h.1 (by decide))).trans ((uF_a).trans ((uF_a).trans (((hL40_ 250 rfl).2.1 nm).trans (uA_ne (fun h => absurd h.1 (by decide)))))))))) ?_
              refine sBi (sV (As := [.int (iv (u_12.2.1 250 nm))]) (rest := [.int (iv (ct + 1))]) (k := 231) Cx (s_X12_sizeOf l G (uF (uF (uF (uA (uF (uF S40 231 24 ((S40.1 231 24) + 1)) 231 24 (((S40.1 231 24) + 1) + 1)) 253 (S40.1 231 32) (-(S.2.1 247 (((S40.1 231 24) + 1) + 1)))) 231 32 ((S40.1 231 32) + 1)) 231 24 ((((S40.1 231 24) + 1) + 1) + 1)) 231 24 (((((S40.1 231 24) + 1) + 1) + 1) + 1)) (i := u_12.2.1 250 nm) i_145 (nSx.cg (S := S) (u := (uF (uF (uF (uA (uF (uF S40 231 24 ((S40.1 231 24) + 1)) 231 24 (((S40.1 231 24) + 1) + 1)) 253 (S40.1 231 32) (-(S.2.1 247 (((S40.1 231 24) + 1) + 1)))) 231 32 ((S40.1 231 32) + 1)) 231 24 ((((S40.1 231 24) + 1) + 1) + 1)) 231 24 (((((S40.1 231 24) + 1) + 1) + 1) + 1))) ss1 (fun z => ⟨(((uF_a).trans ((uF_a).trans ((uF_a).trans ((uA_ne (fun h => absurd h.1 (by decide))).trans ((uF_a).trans ((uF_a).trans (((hL40_ 250 rfl).2.1 ((u_12.2.1 250 nm))).trans (uA_ne (fun h => absurd h.1 (by decide)))))))))).trans (((xu_12.2.1 _ (qq1 z)).1).trans ((a1.2.2.2.2.2.1 _).trans (if_neg (fun y => (qq1 z) (by omega)))))), (((uF_a).trans ((uF_a).trans ((uF_a).trans ((uA_ne (fun h => absurd h.1 (by decide))).trans ((uF_a).trans ((uF_a).trans (((hL40_ 251 rfl).2.1 ((u_12.2.1 250 nm))).trans (uA_ne (fun h => absurd h.1 (by decide)))))))))).trans (((xu_12.2.1 _ (qq1 z)).2).trans ((a1.2.2.2.2.2.2.1 _).trans (if_neg (fun y => (qq1 z) (by omega))))))⟩)).1) (c_X12_410 Cx rfl rfl (rmk_ok (by omega) (by decide))) hW (by decide) rfl rfl rfl hl.1 rfl (Nat.le_of_ble_eq_true rfl) dX12_tellPar_171 ⟨Nat.le_of_ble_eq_true rfl, Nat.le_of_ble_eq_true rfl⟩) hL (fun r_149 u_147 H locs k_148 hW hL => ?_)
              obtain ⟨eu_147, xu_147⟩ := k_148
              rw [eu_147] at hW
              have hz1 : r_149 = nSz S (u_12.2.1 250 nm) := xu_147.1.trans ((nSx.cg (S := S) (u := (uF (uF (uF (uA (uF (uF S40 231 24 ((S40.1 231 24) + 1)) 231 24 (((S40.1 231 24) + 1) + 1)) 253 (S40.1 231 32) (-(S.2.1 247 (((S40.1 231 24) + 1) + 1)))) 231 32 ((S40.1 231 32) + 1)) 231 24 ((((S40.1 231 24) + 1) + 1) + 1)) 231 24 (((((S40.1 231 24) + 1) + 1) + 1) + 1))) ss1 (fun z => ⟨(((uF_a).trans ((uF_a).trans ((uF_a).trans ((uA_ne (fun h => absurd h.1 (by decide))).trans ((uF_a).trans ((uF_a).trans (((hL40_ 250 rfl).2.1 ((u_12.2.1 250 nm))).trans (uA_ne (fun h => absurd h.1 (by decide)))))))))).trans (((xu_12.2.1 _ (qq1 z)).1).trans ((a1.2.2.2.2.2.1 _).trans (if_neg (fun y => (qq1 z) (by omega)))))), (((uF_a).trans ((uF_a).trans ((uF_a).trans ((uA_ne (fun h => absurd h.1 (by decide))).trans ((uF_a).trans ((uF_a).trans (((hL40_ 251 rfl).2.1 ((u_12.2.1 250 nm))).trans (uA_ne (fun h => absurd h.1 (by decide)))))))))).trans (((xu_12.2.1 _ (qq1 z)).2).trans ((a1.2.2.2.2.2.2.1 _).trans (if_neg (fun y => (qq1 z) (by omega))))))⟩)).2)
              refine lv_aload_n hx hb dX12_tellPar_174 rfl (lv_at hl 3 rfl) ?_
              refine lv_aload_n hx hb dX12_tellPar_175 rfl (lv_at hl 3 rfl) ?_
              refine g_X12_68 Cx hW (k := 231) (by decide) rfl (v := .ref (G.2.2.1 + 251)) (rd_29 i_145) dX12_tellPar_176 ?_
              refine lv_iload_n hx hb dX12_tellPar_179 rfl (lv_at hl 2 rfl) ?_
              refine rIald Cx hW (k := 251) (by decide) rfl (by decide) (by omega) (by omega) dX12_tellPar_180 ?_
              have q_150 : (-2147483648) ≤ u_12.2.1 251 nm ∧ u_12.2.1 251 nm ≤ 2147483647 := iu_12.ai 251 nm
              refine r_i (b := u_12.2.1 251 nm) ((uF_a).trans ((uF_a).trans ((uF_a).trans ((uA_ne (fun h => absurd h.1 (by decide))).trans ((uF_a).trans ((uF_a).trans (((hL40_ 251 rfl).2.1 nm).trans (uA_ne (fun h => absurd h.1 (by decide)))))))))) ?_
              refine sBi (sV (As := [.int (iv (u_12.2.1 251 nm))]) (rest := [.int (iv r_149), .int (iv (ct + 1))]) (k := 231) Cx (s_X12_sizeOf l G (uF (uF (uF (uA (uF (uF S40 231 24 ((S40.1 231 24) + 1)) 231 24 (((S40.1 231 24) + 1) + 1)) 253 (S40.1 231 32) (-(S.2.1 247 (((S40.1 231 24) + 1) + 1)))) 231 32 ((S40.1 231 32) + 1)) 231 24 ((((S40.1 231 24) + 1) + 1) + 1)) 231 24 (((((S40.1 231 24) + 1) + 1) + 1) + 1)) (i := u_12.2.1 251 nm) i_145 (nSx.cg (S := S) (u := (uF (uF (uF (uA (uF (uF S40 231 24 ((S40.1 231 24) + 1)) 231 24 (((S40.1 231 24) + 1) + 1)) 253 (S40.1 231 32) (-(S.2.1 247 (((S40.1 231 24) + 1) + 1)))) 231 32 ((S40.1 231 32) + 1)) 231 24 ((((S40.1 231 24) + 1) + 1) + 1)) 231 24 (((((S40.1 231 24) + 1) + 1) + 1) + 1))) ss2 (fun z => ⟨(((uF_a).trans ((uF_a).trans ((uF_a).trans ((uA_ne (fun h => absurd h.1 (by decide))).trans ((uF_a).trans ((uF_a).trans (((hL40_ 250 rfl).2.1 ((u_12.2.1 251 nm))).trans (uA_ne (fun h => absurd h.1 (by decide)))))))))).trans (((xu_12.2.1 _ (qq2 z)).1).trans ((a1.2.2.2.2.2.1 _).trans (if_neg (fun y => (qq2 z) (by omega)))))), (((uF_a).trans ((uF_a).trans ((uF_a).trans ((uA_ne (fun h => absurd h.1 (by decide))).trans ((uF_a).trans ((uF_a).trans (((hL40_ 251 rfl).2.1 ((u_12.2.1 251 nm))).trans (uA_ne (fun h => absurd h.1 (by decide)))))))))).trans (((xu_12.2.1 _ (qq2 z)).2).trans ((a1.2.2.2.2.2.2.1 _).trans (if_neg (fun y => (qq2 z) (by omega))))))⟩)).1) (c_X12_410 Cx rfl rfl (rmk_ok (by omega) (by decide))) hW (by decide) rfl rfl rfl hl.1 rfl (Nat.le_of_ble_eq_true rfl) dX12_tellPar_181 ⟨Nat.le_of_ble_eq_true rfl, Nat.le_of_ble_eq_true rfl⟩) hL (fun r_153 u_151 H locs k_152 hW hL => ?_)
              obtain ⟨eu_151, xu_151⟩ := k_152
              rw [eu_151] at hW
              have hz2 : r_153 = nSz S (u_12.2.1 251 nm) := xu_151.1.trans ((nSx.cg (S := S) (u := (uF (uF (uF (uA (uF (uF S40 231 24 ((S40.1 231 24) + 1)) 231 24 (((S40.1 231 24) + 1) + 1)) 253 (S40.1 231 32) (-(S.2.1 247 (((S40.1 231 24) + 1) + 1)))) 231 32 ((S40.1 231 32) + 1)) 231 24 ((((S40.1 231 24) + 1) + 1) + 1)) 231 24 (((((S40.1 231 24) + 1) + 1) + 1) + 1))) ss2 (fun z => ⟨(((uF_a).trans ((uF_a).trans ((uF_a).trans ((uA_ne (fun h => absurd h.1 (by decide))).trans ((uF_a).trans ((uF_a).trans (((hL40_ 250 rfl).2.1 ((u_12.2.1 251 nm))).trans (uA_ne (fun h => absurd h.1 (by decide)))))))))).trans (((xu_12.2.1 _ (qq2 z)).1).trans ((a1.2.2.2.2.2.1 _).trans (if_neg (fun y => (qq2 z) (by omega)))))), (((uF_a).trans ((uF_a).trans ((uF_a).trans ((uA_ne (fun h => absurd h.1 (by decide))).trans ((uF_a).trans ((uF_a).trans (((hL40_ 251 rfl).2.1 ((u_12.2.1 251 nm))).trans (uA_ne (fun h => absurd h.1 (by decide)))))))))).trans (((xu_12.2.1 _ (qq2 z)).2).trans ((a1.2.2.2.2.2.2.1 _).trans (if_neg (fun y => (qq2 z) (by omega))))))⟩)).2)
              refine r_imul hx hb dX12_tellPar_184 ?_
              obtain ⟨mm, emm⟩ : ∃ z : Int, z = r_149 * r_153 := ⟨_, rfl⟩
              refine r_i (b := mm) emm.symm ?_
              have hmm : 1 ≤ mm ∧ mm ≤ 144 := by rw [emm]; exact mm12 (by omega) (by omega)
              refine r_icmp_eq (tgt := 194) hx hb ⟨(by omega), (by omega)⟩ ⟨(by omega), (by omega)⟩ dX12_tellPar_185 (by decide) (fun c_154 => ?_) (fun c_154 => ?_)
              · refine lv_aload_n hx hb dX12_tellPar_194 rfl (lv_at hl 3 rfl) ?_
                refine lv_dup hx hb dX12_tellPar_195 rfl ?_
                have q_155 : (-2147483648) ≤ S.1 231 34 ∧ S.1 231 34 ≤ 2147483647 := hI.fi 34
                refine g_X12_373 Cx hW (k := 231) (by decide) rfl (v := S.1 231 34) ((uF_ne (fun h => absurd h.2 (by decide))).trans ((uF_ne (fun h => absurd h.2 (by decide))).trans ((uF_ne (fun h => absurd h.2 (by decide))).trans ((uA_f).trans ((uF_ne (fun h => absurd h.2 (by decide))).trans ((uF_ne (fun h => absurd h.2 (by decide))).trans ((gL40_ 34 rfl).trans ((uA_f).trans ((gu_12 34 rfl).trans (gu_3 34 rfl)))))))))) dX12_tellPar_196 ?_
                refine lv_iconst (v := iv 1) hx hb dX12_tellPar_199 (by decide) ?_
                refine r_iadd hx hb dX12_tellPar_200 ?_
                refine p_X12_373 Cx hW hL (k := 231) (by decide) rfl dX12_tellPar_201 (fun H locs hW hL => ?_)
                have F_156 : Fr S (uF (uF (uF (uF (uA (uF (uF S40 231 24 ((S40.1 231 24) + 1)) 231 24 (((S40.1 231 24) + 1) + 1)) 253 (S40.1 231 32) (-(S.2.1 247 (((S40.1 231 24) + 1) + 1)))) 231 32 ((S40.1 231 32) + 1)) 231 24 ((((S40.1 231 24) + 1) + 1) + 1)) 231 24 (((((S40.1 231 24) + 1) + 1) + 1) + 1)) 231 34 ((S.1 231 34) + 1)) (pl [231, 248, 249, 250, 251, 252, 253]) := F_141.F rfl
                have F_157 : Fr ((uA u_12 252 nm (S.1 231 32))) (uF (uF (uF (uF (uA (uF (uF S40 231 24 ((S40.1 231 24) + 1)) 231 24 (((S40.1 231 24) + 1) + 1)) 253 (S40.1 231 32) (-(S.2.1 247 (((S40.1 231 24) + 1) + 1)))) 231 32 ((S40.1 231 32) + 1)) 231 24 ((((S40.1 231 24) + 1) + 1) + 1)) 231 24 (((((S40.1 231 24) + 1) + 1) + 1) + 1)) 231 34 ((S.1 231 34) + 1)) (pl [231, 253]) := F_142.F rfl
                have g_158 : FF S (uF (uF (uF (uF (uA (uF (uF S40 231 24 ((S40.1 231 24) + 1)) 231 24 (((S40.1 231 24) + 1) + 1)) 253 (S40.1 231 32) (-(S.2.1 247 (((S40.1 231 24) + 1) + 1)))) 231 32 ((S40.1 231 32) + 1)) 231 24 ((((S40.1 231 24) + 1) + 1) + 1)) 231 24 (((((S40.1 231 24) + 1) + 1) + 1) + 1)) 231 34 ((S.1 231 34) + 1)) (fl [20, 21, 24, 25, 32, 34]) := FF.F g_143 rfl
                have i_159 : dX G (uF (uF (uF (uF (uA (uF (uF S40 231 24 ((S40.1 231 24) + 1)) 231 24 (((S40.1 231 24) + 1) + 1)) 253 (S40.1 231 32) (-(S.2.1 247 (((S40.1 231 24) + 1) + 1)))) 231 32 ((S40.1 231 32) + 1)) 231 24 ((((S40.1 231 24) + 1) + 1) + 1)) 231 24 (((((S40.1 231 24) + 1) + 1) + 1) + 1)) 231 34 ((S.1 231 34) + 1)) := i_145.F (i := 34) (show (-2147483648) ≤ (S.1 231 34) + 1 ∧ (S.1 231 34) + 1 ≤ 2147483647 from ⟨by omega, by omega⟩)
                refine lv_aload_n hx hb dX12_tellPar_204 rfl (lv_at hl 3 rfl) ?_
                refine g_X12_373 Cx hW (k := 231) (by decide) rfl (v := (S.1 231 34) + 1) uF_on dX12_tellPar_205 ?_
                refine lv_bipush (v := iv 12) hx hb dX12_tellPar_208 (by decide) ?_
                refine r_icmp_le (tgt := 220) hx hb ⟨(by omega), (by omega)⟩ ⟨(by omega), (by omega)⟩ dX12_tellPar_210 (by decide) (fun c_160 => ?_) (fun c_160 => ?_)
                · have lk_161 : (uF (uF (uF (uF (uA (uF (uF S40 231 24 ((S40.1 231 24) + 1)) 231 24 (((S40.1 231 24) + 1) + 1)) 253 (S40.1 231 32) (-(S.2.1 247 (((S40.1 231 24) + 1) + 1)))) 231 32 ((S40.1 231 32) + 1)) 231 24 ((((S40.1 231 24) + 1) + 1) + 1)) 231 24 (((((S40.1 231 24) + 1) + 1) + 1) + 1)) 231 34 ((S.1 231 34) + 1)).1 231 20 = u_12.1 231 20 := (uF_ne (fun h => absurd h.2 (by decide))).trans ((uF_ne (fun h => absurd h.2 (by decide))).trans ((uF_ne (fun h => absurd h.2 (by decide))).trans ((uF_ne (fun h => absurd h.2 (by decide))).trans ((uA_f).trans ((uF_ne (fun h => absurd h.2 (by decide))).trans ((uF_ne (fun h => absurd h.2 (by decide))).trans ((gL40_ 20 rfl).trans (uA_f))))))))
                  have lk_162 : (uF (uF (uF (uF (uA (uF (uF S40 231 24 ((S40.1 231 24) + 1)) 231 24 (((S40.1 231 24) + 1) + 1)) 253 (S40.1 231 32) (-(S.2.1 247 (((S40.1 231 24) + 1) + 1)))) 231 32 ((S40.1 231 32) + 1)) 231 24 ((((S40.1 231 24) + 1) + 1) + 1)) 231 24 (((((S40.1 231 24) + 1) + 1) + 1) + 1)) 231 34 ((S.1 231 34) + 1)).1 231 25 = u_3.1 231 25 := (uF_ne (fun h => absurd h.2 (by decide))).trans ((uF_ne (fun h => absurd h.2 (by decide))).trans ((uF_ne (fun h => absurd h.2 (by decide))).trans ((uF_ne (fun h => absurd h.2 (by decide))).trans ((uA_f).trans ((uF_ne (fun h => absurd h.2 (by decide))).trans ((uF_ne (fun h => absurd h.2 (by decide))).trans ((gL40_ 25 rfl).trans ((uA_f).trans (gu_12 25 rfl)))))))))
                  have lk_163 : (uF (uF (uF (uF (uA (uF (uF S40 231 24 ((S40.1 231 24) + 1)) 231 24 (((S40.1 231 24) + 1) + 1)) 253 (S40.1 231 32) (-(S.2.1 247 (((S40.1 231 24) + 1) + 1)))) 231 32 ((S40.1 231 32) + 1)) 231 24 ((((S40.1 231 24) + 1) + 1) + 1)) 231 24 (((((S40.1 231 24) + 1) + 1) + 1) + 1)) 231 34 ((S.1 231 34) + 1)).1 231 24 = ((((S40.1 231 24) + 1) + 1) + 1) + 1 := (uF_ne (fun h => absurd h.2 (by decide))).trans (uF_on)
                  have lk_164 : (uF (uF (uF (uF (uA (uF (uF S40 231 24 ((S40.1 231 24) + 1)) 231 24 (((S40.1 231 24) + 1) + 1)) 253 (S40.1 231 32) (-(S.2.1 247 (((S40.1 231 24) + 1) + 1)))) 231 32 ((S40.1 231 32) + 1)) 231 24 ((((S40.1 231 24) + 1) + 1) + 1)) 231 24 (((((S40.1 231 24) + 1) + 1) + 1) + 1)) 231 34 ((S.1 231 34) + 1)).1 231 32 = (S40.1 231 32) + 1 := (uF_ne (fun h => absurd h.2 (by decide))).trans ((uF_ne (fun h => absurd h.2 (by decide))).trans ((uF_ne (fun h => absurd h.2 (by decide))).trans (uF_on)))
                  have lk_165 : (uF (uF (uF (uF (uA (uF (uF S40 231 24 ((S40.1 231 24) + 1)) 231 24 (((S40.1 231 24) + 1) + 1)) 253 (S40.1 231 32) (-(S.2.1 247 (((S40.1 231 24) + 1) + 1)))) 231 32 ((S40.1 231 32) + 1)) 231 24 ((((S40.1 231 24) + 1) + 1) + 1)) 231 24 (((((S40.1 231 24) + 1) + 1) + 1) + 1)) 231 34 ((S.1 231 34) + 1)).1 231 34 = (S.1 231 34) + 1 := uF_on
                  exact sVret Cx hr hlk hW hL ⟨i_159, F_156, g_158, (fun _ => ⟨(NX.addG (S := S) (u := (uF (uF (uF (uF (uA (uF (uF S40 231 24 ((S40.1 231 24) + 1)) 231 24 (((S40.1 231 24) + 1) + 1)) 253 (S40.1 231 32) (-(S.2.1 247 (((S40.1 231 24) + 1) + 1)))) 231 32 ((S40.1 231 32) + 1)) 231 24 ((((S40.1 231 24) + 1) + 1) + 1)) 231 24 (((((S40.1 231 24) + 1) + 1) + 1) + 1)) 231 34 ((S.1 231 34) + 1))) (tk := tk) (so := 2) (a := u_12.2.1 250 nm) (b := u_12.2.1 251 nm) (f := S.1 231 32) hNX ⟨(fun x => ((uF_a).trans ((uF_a).trans ((uF_a).trans ((uF_a).trans ((uA_ne (fun h => absurd h.1 (by decide))).trans ((uF_a).trans ((uF_a).trans (((hL40_ 248 rfl).2.1 x).trans ((uA_ne (fun h => absurd h.1 (by decide))).trans ((fu_12 248 rfl).2.1 x)))))))))).trans (a1.2.2.2.1 x)), (fun x => ((uF_a).trans ((uF_a).trans ((uF_a).trans ((uF_a).trans ((uA_ne (fun h => absurd h.1 (by decide))).trans ((uF_a).trans ((uF_a).trans (((hL40_ 249 rfl).2.1 x).trans ((uA_ne (fun h => absurd h.1 (by decide))).trans ((fu_12 249 rfl).2.1 x)))))))))).trans (a1.2.2.2.2.1 x)), (fun x => by rw [show (uF (uF (uF (uF (uA (uF (uF S40 231 24 ((S40.1 231 24) + 1)) 231 24 (((S40.1 231 24) + 1) + 1)) 253 (S40.1 231 32) (-(S.2.1 247 (((S40.1 231 24) + 1) + 1)))) 231 32 ((S40.1 231 32) + 1)) 231 24 ((((S40.1 231 24) + 1) + 1) + 1)) 231 24 (((((S40.1 231 24) + 1) + 1) + 1) + 1)) 231 34 ((S.1 231 34) + 1)).2.1 250 x = u_12.2.1 250 x from (uF_a).trans ((uF_a).trans ((uF_a).trans ((uF_a).trans ((uA_ne (fun h => absurd h.1 (by decide))).trans ((uF_a).trans ((uF_a).trans (((hL40_ 250 rfl).2.1 x).trans (uA_ne (fun h => absurd h.1 (by decide))))))))))]; by_cases z : x = S.1 231 25; (rw [if_pos z, show x = nm by omega]); rw [if_neg z, (xu_12.2.1 x (by omega)).1]; exact (a1.2.2.2.2.2.1 x).trans (if_neg z)), (fun x => by rw [show (uF (uF (uF (uF (uA (uF (uF S40 231 24 ((S40.1 231 24) + 1)) 231 24 (((S40.1 231 24) + 1) + 1)) 253 (S40.1 231 32) (-(S.2.1 247 (((S40.1 231 24) + 1) + 1)))) 231 32 ((S40.1 231 32) + 1)) 231 24 ((((S40.1 231 24) + 1) + 1) + 1)) 231 24 (((((S40.1 231 24) + 1) + 1) + 1) + 1)) 231 34 ((S.1 231 34) + 1)).2.1 251 x = u_12.2.1 251 x from (uF_a).trans ((uF_a).trans ((uF_a).trans ((uF_a).trans ((uA_ne (fun h => absurd h.1 (by decide))).trans ((uF_a).trans ((uF_a).trans (((hL40_ 251 rfl).2.1 x).trans (uA_ne (fun h => absurd h.1 (by decide))))))))))]; by_cases z : x = S.1 231 25; (rw [if_pos z, show x = nm by omega]); rw [if_neg z, (xu_12.2.1 x (by omega)).2]; exact (a1.2.2.2.2.2.2.1 x).trans (if_neg z)), (fun x => by rw [show (uF (uF (uF (uF (uA (uF (uF S40 231 24 ((S40.1 231 24) + 1)) 231 24 (((S40.1 231 24) + 1) + 1)) 253 (S40.1 231 32) (-(S.2.1 247 (((S40.1 231 24) + 1) + 1)))) 231 32 ((S40.1 231 32) + 1)) 231 24 ((((S40.1 231 24) + 1) + 1) + 1)) 231 24 (((((S40.1 231 24) + 1) + 1) + 1) + 1)) 231 34 ((S.1 231 34) + 1)).2.1 252 x = (uA u_12 252 nm (S.1 231 32)).2.1 252 x from (uF_a).trans ((uF_a).trans ((uF_a).trans ((uF_a).trans ((uA_ne (fun h => absurd h.1 (by decide))).trans ((uF_a).trans ((uF_a).trans ((hL40_ 252 rfl).2.1 x))))))), uA_get]; by_cases z : x = S.1 231 25; (rw [if_pos ⟨rfl, (by omega)⟩, if_pos z]); rw [if_neg (fun h => z (by have := h.2; omega)), if_neg z]; exact ((fu_12 252 rfl).2.1 x).trans ((a1.2.2.2.2.2.2.2 x).trans (if_neg z)))⟩ (by have y25 := (show (uF (uF (uF (uF (uA (uF (uF S40 231 24 ((S40.1 231 24) + 1)) 231 24 (((S40.1 231 24) + 1) + 1)) 253 (S40.1 231 32) (-(S.2.1 247 (((S40.1 231 24) + 1) + 1)))) 231 32 ((S40.1 231 32) + 1)) 231 24 ((((S40.1 231 24) + 1) + 1) + 1)) 231 24 (((((S40.1 231 24) + 1) + 1) + 1) + 1)) 231 34 ((S.1 231 34) + 1)).1 231 25 = u_3.1 231 25 from (uF_ne (fun h => absurd h.2 (by decide))).trans ((uF_ne (fun h => absurd h.2 (by decide))).trans ((uF_ne (fun h => absurd h.2 (by decide))).trans ((uF_ne (fun h => absurd h.2 (by decide))).trans ((uA_f).trans ((uF_ne (fun h => absurd h.2 (by decide))).trans ((uF_ne (fun h => absurd h.2 (by decide))).trans ((gL40_ 25 rfl).trans ((uA_f).trans (gu_12 25 rfl)))))))))); omega) (by have y32 := (show (uF (uF (uF (uF (uA (uF (uF S40 231 24 ((S40.1 231 24) + 1)) 231 24 (((S40.1 231 24) + 1) + 1)) 253 (S40.1 231 32) (-(S.2.1 247 (((S40.1 231 24) + 1) + 1)))) 231 32 ((S40.1 231 32) + 1)) 231 24 ((((S40.1 231 24) + 1) + 1) + 1)) 231 24 (((((S40.1 231 24) + 1) + 1) + 1) + 1)) 231 34 ((S.1 231 34) + 1)).1 231 32 = (S40.1 231 32) + 1 from (uF_ne (fun h => absurd h.2 (by decide))).trans ((uF_ne (fun h => absurd h.2 (by decide))).trans ((uF_ne (fun h => absurd h.2 (by decide))).trans (uF_on)))); omega) (by have y35 := (show (uF (uF (uF (uF (uA (uF (uF S40 231 24 ((S40.1 231 24) + 1)) 231 24 (((S40.1 231 24) + 1) + 1)) 253 (S40.1 231 32) (-(S.2.1 247 (((S40.1 231 24) + 1) + 1)))) 231 32 ((S40.1 231 32) + 1)) 231 24 ((((S40.1 231 24) + 1) + 1) + 1)) 231 24 (((((S40.1 231 24) + 1) + 1) + 1) + 1)) 231 34 ((S.1 231 34) + 1)).1 231 35 = S.1 231 35 from (uF_ne (fun h => absurd h.2 (by decide))).trans ((uF_ne (fun h => absurd h.2 (by decide))).trans ((uF_ne (fun h => absurd h.2 (by decide))).trans ((uF_ne (fun h => absurd h.2 (by decide))).trans ((uA_f).trans ((uF_ne (fun h => absurd h.2 (by decide))).trans ((uF_ne (fun h => absurd h.2 (by decide))).trans ((gL40_ 35 rfl).trans ((uA_f).trans ((gu_12 35 rfl).trans (gu_3 35 rfl))))))))))); omega) (fun i i0 i1 => by rw [show (uF (uF (uF (uF (uA (uF (uF S40 231 24 ((S40.1 231 24) + 1)) 231 24 (((S40.1 231 24) + 1) + 1)) 253 (S40.1 231 32) (-(S.2.1 247 (((S40.1 231 24) + 1) + 1)))) 231 32 ((S40.1 231 32) + 1)) 231 24 ((((S40.1 231 24) + 1) + 1) + 1)) 231 24 (((((S40.1 231 24) + 1) + 1) + 1) + 1)) 231 34 ((S.1 231 34) + 1)).2.1 253 = (uF (uF (uA (uF (uF S40 231 24 ((S40.1 231 24) + 1)) 231 24 (((S40.1 231 24) + 1) + 1)) 253 (S40.1 231 32) (-(S.2.1 247 (((S40.1 231 24) + 1) + 1)))) 231 32 ((S40.1 231 32) + 1)) 231 24 ((((S40.1 231 24) + 1) + 1) + 1)).2.1 253 from (funext fun j => (uF_a).trans (uF_a))]; exact hP40x i i0 (by have y32 := (show (uF (uF (uF (uF (uA (uF (uF S40 231 24 ((S40.1 231 24) + 1)) 231 24 (((S40.1 231 24) + 1) + 1)) 253 (S40.1 231 32) (-(S.2.1 247 (((S40.1 231 24) + 1) + 1)))) 231 32 ((S40.1 231 32) + 1)) 231 24 ((((S40.1 231 24) + 1) + 1) + 1)) 231 24 (((((S40.1 231 24) + 1) + 1) + 1) + 1)) 231 34 ((S.1 231 34) + 1)).1 231 32 = (S40.1 231 32) + 1 from (uF_ne (fun h => absurd h.2 (by decide))).trans ((uF_ne (fun h => absurd h.2 (by decide))).trans ((uF_ne (fun h => absurd h.2 (by decide))).trans (uF_on)))); have y33 : (uF (uF (uA (uF (uF S40 231 24 ((S40.1 231 24) + 1)) 231 24 (((S40.1 231 24) + 1) + 1)) 253 (S40.1 231 32) (-(S.2.1 247 (((S40.1 231 24) + 1) + 1)))) 231 32 ((S40.1 231 32) + 1)) 231 24 ((((S40.1 231 24) + 1) + 1) + 1)).1 231 32 = (S40.1 231 32) + 1 := (uF_ne (fun h => absurd h.2 (by decide))).trans (uF_on); omega)) (by omega) (fun z => absurd z (by omega)) (fun _ => ⟨ii1, ii2, a2.2.2.2⟩) (fun _ => ⟨(by omega), (by have y32 := (show (uF (uF (uF (uF (uA (uF (uF S40 231 24 ((S40.1 231 24) + 1)) 231 24 (((S40.1 231 24) + 1) + 1)) 253 (S40.1 231 32) (-(S.2.1 247 (((S40.1 231 24) + 1) + 1)))) 231 32 ((S40.1 231 32) + 1)) 231 24 ((((S40.1 231 24) + 1) + 1) + 1)) 231 24 (((((S40.1 231 24) + 1) + 1) + 1) + 1)) 231 34 ((S.1 231 34) + 1)).1 231 32 = (S40.1 231 32) + 1 from (uF_ne (fun h => absurd h.2 (by decide))).trans ((uF_ne (fun h => absurd h.2 (by decide))).trans ((uF_ne (fun h => absurd h.2 (by decide))).trans (uF_on)))); rw [← hz1, ← hz2]; omega)⟩) (fun z => absurd z (by omega)) (fun z => absurd z (by omega))), (by have y25 := (show (uF (uF (uF (uF (uA (uF (uF S40 231 24 ((S40.1 231 24) + 1)) 231 24 (((S40.1 231 24) + 1) + 1)) 253 (S40.1 231 32) (-(S.2.1 247 (((S40.1 231 24) + 1) + 1)))) 231 32 ((S40.1 231 32) + 1)) 231 24 ((((S40.1 231 24) + 1) + 1) + 1)) 231 24 (((((S40.1 231 24) + 1) + 1) + 1) + 1)) 231 34 ((S.1 231 34) + 1)).1 231 25 = u_3.1 231 25 from (uF_ne (fun h => absurd h.2 (by decide))).trans ((uF_ne (fun h => absurd h.2 (by decide))).trans ((uF_ne (fun h => absurd h.2 (by decide))).trans ((uF_ne (fun h => absurd h.2 (by decide))).trans ((uA_f).trans ((uF_ne (fun h => absurd h.2 (by decide))).trans ((uF_ne (fun h => absurd h.2 (by decide))).trans ((gL40_ 25 rfl).trans ((uA_f).trans (gu_12 25 rfl)))))))))); omega), (by have y24 := (show (uF (uF (uF (uF (uA (uF (uF S40 231 24 ((S40.1 231 24) + 1)) 231 24 (((S40.1 231 24) + 1) + 1)) 253 (S40.1 231 32) (-(S.2.1 247 (((S40.1 231 24) + 1) + 1)))) 231 32 ((S40.1 231 32) + 1)) 231 24 ((((S40.1 231 24) + 1) + 1) + 1)) 231 24 (((((S40.1 231 24) + 1) + 1) + 1) + 1)) 231 34 ((S.1 231 34) + 1)).1 231 24 = ((((S40.1 231 24) + 1) + 1) + 1) + 1 from (uF_ne (fun h => absurd h.2 (by decide))).trans (uF_on)); omega), (by have y32 := (show (uF (uF (uF (uF (uA (uF (uF S40 231 24 ((S40.1 231 24) + 1)) 231 24 (((S40.1 231 24) + 1) + 1)) 253 (S40.1 231 32) (-(S.2.1 247 (((S40.1 231 24) + 1) + 1)))) 231 32 ((S40.1 231 32) + 1)) 231 24 ((((S40.1 231 24) + 1) + 1) + 1)) 231 24 (((((S40.1 231 24) + 1) + 1) + 1) + 1)) 231 34 ((S.1 231 34) + 1)).1 231 32 = (S40.1 231 32) + 1 from (uF_ne (fun h => absurd h.2 (by decide))).trans ((uF_ne (fun h => absurd h.2 (by decide))).trans ((uF_ne (fun h => absurd h.2 (by decide))).trans (uF_on)))); have y24 := (show (uF (uF (uF (uF (uA (uF (uF S40 231 24 ((S40.1 231 24) + 1)) 231 24 (((S40.1 231 24) + 1) + 1)) 253 (S40.1 231 32) (-(S.2.1 247 (((S40.1 231 24) + 1) + 1)))) 231 32 ((S40.1 231 32) + 1)) 231 24 ((((S40.1 231 24) + 1) + 1) + 1)) 231 24 (((((S40.1 231 24) + 1) + 1) + 1) + 1)) 231 34 ((S.1 231 34) + 1)).1 231 24 = ((((S40.1 231 24) + 1) + 1) + 1) + 1 from (uF_ne (fun h => absurd h.2 (by decide))).trans (uF_on)); omega), (by have y34 := (show (uF (uF (uF (uF (uA (uF (uF S40 231 24 ((S40.1 231 24) + 1)) 231 24 (((S40.1 231 24) + 1) + 1)) 253 (S40.1 231 32) (-(S.2.1 247 (((S40.1 231 24) + 1) + 1)))) 231 32 ((S40.1 231 32) + 1)) 231 24 ((((S40.1 231 24) + 1) + 1) + 1)) 231 24 (((((S40.1 231 24) + 1) + 1) + 1) + 1)) 231 34 ((S.1 231 34) + 1)).1 231 34 = (S.1 231 34) + 1 from uF_on); omega), (by have y34 := (show (uF (uF (uF (uF (uA (uF (uF S40 231 24 ((S40.1 231 24) + 1)) 231 24 (((S40.1 231 24) + 1) + 1)) 253 (S40.1 231 32) (-(S.2.1 247 (((S40.1 231 24) + 1) + 1)))) 231 32 ((S40.1 231 32) + 1)) 231 24 ((((S40.1 231 24) + 1) + 1) + 1)) 231 24 (((((S40.1 231 24) + 1) + 1) + 1) + 1)) 231 34 ((S.1 231 34) + 1)).1 231 34 = (S.1 231 34) + 1 from uF_on); omega)⟩)⟩ dX12_tellPar_220
                · refine lv_aload_n hx hb dX12_tellPar_213 rfl (lv_at hl 3 rfl) ?_
                  refine lv_bipush (v := iv 7) hx hb dX12_tellPar_214 (by decide) ?_
                  refine lv_iload_n hx hb dX12_tellPar_216 rfl (lv_at hl 4 rfl) ?_
                  refine sBv (sV (As := [.int (iv 7), .int (iv tk)]) (rest := []) (k := 231) Cx (s_X12_wrong l G (uF (uF (uF (uF (uA (uF (uF S40 231 24 ((S40.1 231 24) + 1)) 231 24 (((S40.1 231 24) + 1) + 1)) 253 (S40.1 231 32) (-(S.2.1 247 (((S40.1 231 24) + 1) + 1)))) 231 32 ((S40.1 231 32) + 1)) 231 24 ((((S40.1 231 24) + 1) + 1) + 1)) 231 24 (((((S40.1 231 24) + 1) + 1) + 1) + 1)) 231 34 ((S.1 231 34) + 1)) (cd := 7) (tk := tk) i_159 (by omega) (by omega)) (c_X12_321 Cx rfl rfl (rmk_ok (by omega) (by decide))) hW (by decide) rfl rfl rfl hl.1 rfl (Nat.le_of_ble_eq_true rfl) dX12_tellPar_217 ⟨Nat.le_of_ble_eq_true rfl, Nat.le_of_ble_eq_true rfl⟩) hL (fun u_166 H locs k_167 hW hL => ?_)
                  obtain ⟨iu_166, fu_166, gu_166, xu_166⟩ := k_167
                  have F_168 := F_156.trans (fu_166.to (pl_sub (by decide)))
                  have F_169 := F_157.trans (fu_166.to (pl_sub (by decide)))
                  have g_170 : FF S u_166 (fl [20, 21, 24, 25, 32, 34]) := FF.trans g_158 (FF.to gu_166 (fl_sub (by decide)))
                  have q_171 : (-2147483648) ≤ u_166.1 231 20 ∧ u_166.1 231 20 ≤ 2147483647 := iu_166.fi 20
                  have lk_172 : u_166.1 231 25 = u_3.1 231 25 := (gu_166 25 rfl).trans ((uF_ne (fun h => absurd h.2 (by decide))).trans ((uF_ne (fun h => absurd h.2 (by decide))).trans ((uF_ne (fun h => absurd h.2 (by decide))).trans ((uF_ne (fun h => absurd h.2 (by decide))).trans ((uA_f).trans ((uF_ne (fun h => absurd h.2 (by decide))).trans ((uF_ne (fun h => absurd h.2 (by decide))).trans ((gL40_ 25 rfl).trans ((uA_f).trans (gu_12 25 rfl))))))))))
                  have lk_173 : u_166.1 231 24 = ((((S40.1 231 24) + 1) + 1) + 1) + 1 := (gu_166 24 rfl).trans ((uF_ne (fun h => absurd h.2 (by decide))).trans (uF_on))
                  have lk_174 : u_166.1 231 32 = (S40.1 231 32) + 1 := (gu_166 32 rfl).trans ((uF_ne (fun h => absurd h.2 (by decide))).trans ((uF_ne (fun h => absurd h.2 (by decide))).trans ((uF_ne (fun h => absurd h.2 (by decide))).trans (uF_on))))
                  have lk_175 : u_166.1 231 34 = (S.1 231 34) + 1 := (gu_166 34 rfl).trans (uF_on)
                  exact sVret Cx hr hlk hW hL ⟨iu_166, F_168, g_170, (fun h => absurd h (by have e9 := (show u_166.1 231 20 = u_166.1 231 20 from rfl); have a9 := xu_166; omega))⟩ dX12_tellPar_220
              · refine lv_aload_n hx hb dX12_tellPar_188 rfl (lv_at hl 3 rfl) ?_
                refine lv_iconst (v := iv 3) hx hb dX12_tellPar_189 (by decide) ?_
                refine lv_iload_n hx hb dX12_tellPar_190 rfl (lv_at hl 4 rfl) ?_
                refine sBv (sV (As := [.int (iv 3), .int (iv tk)]) (rest := []) (k := 231) Cx (s_X12_wrong l G (uF (uF (uF (uA (uF (uF S40 231 24 ((S40.1 231 24) + 1)) 231 24 (((S40.1 231 24) + 1) + 1)) 253 (S40.1 231 32) (-(S.2.1 247 (((S40.1 231 24) + 1) + 1)))) 231 32 ((S40.1 231 32) + 1)) 231 24 ((((S40.1 231 24) + 1) + 1) + 1)) 231 24 (((((S40.1 231 24) + 1) + 1) + 1) + 1)) (cd := 3) (tk := tk) i_145 (by omega) (by omega)) (c_X12_321 Cx rfl rfl (rmk_ok (by omega) (by decide))) hW (by decide) rfl rfl rfl hl.1 rfl (Nat.le_of_ble_eq_true rfl) dX12_tellPar_191 ⟨Nat.le_of_ble_eq_true rfl, Nat.le_of_ble_eq_true rfl⟩) hL (fun u_176 H locs k_177 hW hL => ?_)
                obtain ⟨iu_176, fu_176, gu_176, xu_176⟩ := k_177
                have F_178 := F_141.trans (fu_176.to (pl_sub (by decide)))
                have F_179 := F_142.trans (fu_176.to (pl_sub (by decide)))
                have g_180 : FF S u_176 (fl [20, 21, 24, 25, 32, 34]) := FF.trans g_143 (FF.to gu_176 (fl_sub (by decide)))
                refine lv_aload_n hx hb dX12_tellPar_194 rfl (lv_at hl 3 rfl) ?_
                refine lv_dup hx hb dX12_tellPar_195 rfl ?_
                have q_182 : (-2147483648) ≤ S.1 231 34 ∧ S.1 231 34 ≤ 2147483647 := hI.fi 34
                refine g_X12_373 Cx hW (k := 231) (by decide) rfl (v := S.1 231 34) ((gu_176 34 rfl).trans ((uF_ne (fun h => absurd h.2 (by decide))).trans ((uF_ne (fun h => absurd h.2 (by decide))).trans ((uF_ne (fun h => absurd h.2 (by decide))).trans ((uA_f).trans ((uF_ne (fun h => absurd h.2 (by decide))).trans ((uF_ne (fun h => absurd h.2 (by decide))).trans ((gL40_ 34 rfl).trans ((uA_f).trans ((gu_12 34 rfl).trans (gu_3 34 rfl))))))))))) dX12_tellPar_196 ?_
                refine lv_iconst (v := iv 1) hx hb dX12_tellPar_199 (by decide) ?_
                refine r_iadd hx hb dX12_tellPar_200 ?_
                refine p_X12_373 Cx hW hL (k := 231) (by decide) rfl dX12_tellPar_201 (fun H locs hW hL => ?_)
                have F_183 : Fr S (uF u_176 231 34 ((S.1 231 34) + 1)) (pl [231, 248, 249, 250, 251, 252, 253]) := F_178.F rfl
                have F_184 : Fr ((uA u_12 252 nm (S.1 231 32))) (uF u_176 231 34 ((S.1 231 34) + 1)) (pl [231, 253]) := F_179.F rfl
                have g_185 : FF S (uF u_176 231 34 ((S.1 231 34) + 1)) (fl [20, 21, 24, 25, 32, 34]) := FF.F g_180 rfl
                have i_186 : dX G (uF u_176 231 34 ((S.1 231 34) + 1)) := iu_176.F (i := 34) (show (-2147483648) ≤ (S.1 231 34) + 1 ∧ (S.1 231 34) + 1 ≤ 2147483647 from ⟨by omega, by omega⟩)
                refine lv_aload_n hx hb dX12_tellPar_204 rfl (lv_at hl 3 rfl) ?_
                refine g_X12_373 Cx hW (k := 231) (by decide) rfl (v := (S.1 231 34) + 1) uF_on dX12_tellPar_205 ?_
                refine lv_bipush (v := iv 12) hx hb dX12_tellPar_208 (by decide) ?_
                refine r_icmp_le (tgt := 220) hx hb ⟨(by omega), (by omega)⟩ ⟨(by omega), (by omega)⟩ dX12_tellPar_210 (by decide) (fun c_187 => ?_) (fun c_187 => ?_)
                · have q_188 : (-2147483648) ≤ u_176.1 231 20 ∧ u_176.1 231 20 ≤ 2147483647 := iu_176.fi 20
                  have lk_189 : (uF u_176 231 34 ((S.1 231 34) + 1)).1 231 20 = u_176.1 231 20 := uF_ne (fun h => absurd h.2 (by decide))
                  have lk_190 : (uF u_176 231 34 ((S.1 231 34) + 1)).1 231 25 = u_3.1 231 25 := (uF_ne (fun h => absurd h.2 (by decide))).trans ((gu_176 25 rfl).trans ((uF_ne (fun h => absurd h.2 (by decide))).trans ((uF_ne (fun h => absurd h.2 (by decide))).trans ((uF_ne (fun h => absurd h.2 (by decide))).trans ((uA_f).trans ((uF_ne (fun h => absurd h.2 (by decide))).trans ((uF_ne (fun h => absurd h.2 (by decide))).trans ((gL40_ 25 rfl).trans ((uA_f).trans (gu_12 25 rfl))))))))))
                  have lk_191 : (uF u_176 231 34 ((S.1 231 34) + 1)).1 231 24 = ((((S40.1 231 24) + 1) + 1) + 1) + 1 := (uF_ne (fun h => absurd h.2 (by decide))).trans ((gu_176 24 rfl).trans (uF_on))
                  have lk_192 : (uF u_176 231 34 ((S.1 231 34) + 1)).1 231 32 = (S40.1 231 32) + 1 := (uF_ne (fun h => absurd h.2 (by decide))).trans ((gu_176 32 rfl).trans ((uF_ne (fun h => absurd h.2 (by decide))).trans ((uF_ne (fun h => absurd h.2 (by decide))).trans (uF_on))))
                  have lk_193 : (uF u_176 231 34 ((S.1 231 34) + 1)).1 231 34 = (S.1 231 34) + 1 := uF_on
                  exact sVret Cx hr hlk hW hL ⟨i_186, F_183, g_185, (fun h => absurd h (by have e9 := (show (uF u_176 231 34 ((S.1 231 34) + 1)).1 231 20 = u_176.1 231 20 from uF_ne (fun h => absurd h.2 (by decide))); have a9 := xu_176; omega))⟩ dX12_tellPar_220
                · refine lv_aload_n hx hb dX12_tellPar_213 rfl (lv_at hl 3 rfl) ?_
                  refine lv_bipush (v := iv 7) hx hb dX12_tellPar_214 (by decide) ?_
                  refine lv_iload_n hx hb dX12_tellPar_216 rfl (lv_at hl 4 rfl) ?_
                  refine sBv (sV (As := [.int (iv 7), .int (iv tk)]) (rest := []) (k := 231) Cx (s_X12_wrong l G (uF u_176 231 34 ((S.1 231 34) + 1)) (cd := 7) (tk := tk) i_186 (by omega) (by omega)) (c_X12_321 Cx rfl rfl (rmk_ok (by omega) (by decide))) hW (by decide) rfl rfl rfl hl.1 rfl (Nat.le_of_ble_eq_true rfl) dX12_tellPar_217 ⟨Nat.le_of_ble_eq_true rfl, Nat.le_of_ble_eq_true rfl⟩) hL (fun u_194 H locs k_195 hW hL => ?_)
                  obtain ⟨iu_194, fu_194, gu_194, xu_194⟩ := k_195
                  have F_196 := F_183.trans (fu_194.to (pl_sub (by decide)))
                  have F_197 := F_184.trans (fu_194.to (pl_sub (by decide)))
                  have g_198 : FF S u_194 (fl [20, 21, 24, 25, 32, 34]) := FF.trans g_185 (FF.to gu_194 (fl_sub (by decide)))
                  have q_199 : (-2147483648) ≤ u_194.1 231 20 ∧ u_194.1 231 20 ≤ 2147483647 := iu_194.fi 20
                  have lk_200 : u_194.1 231 25 = u_3.1 231 25 := (gu_194 25 rfl).trans ((uF_ne (fun h => absurd h.2 (by decide))).trans ((gu_176 25 rfl).trans ((uF_ne (fun h => absurd h.2 (by decide))).trans ((uF_ne (fun h => absurd h.2 (by decide))).trans ((uF_ne (fun h => absurd h.2 (by decide))).trans ((uA_f).trans ((uF_ne (fun h => absurd h.2 (by decide))).trans ((uF_ne (fun h => absurd h.2 (by decide))).trans ((gL40_ 25 rfl).trans ((uA_f).trans (gu_12 25 rfl)))))))))))
                  have lk_201 : u_194.1 231 24 = ((((S40.1 231 24) + 1) + 1) + 1) + 1 := (gu_194 24 rfl).trans ((uF_ne (fun h => absurd h.2 (by decide))).trans ((gu_176 24 rfl).trans (uF_on)))
                  have lk_202 : u_194.1 231 32 = (S40.1 231 32) + 1 := (gu_194 32 rfl).trans ((uF_ne (fun h => absurd h.2 (by decide))).trans ((gu_176 32 rfl).trans ((uF_ne (fun h => absurd h.2 (by decide))).trans ((uF_ne (fun h => absurd h.2 (by decide))).trans (uF_on)))))
                  have lk_203 : u_194.1 231 34 = (S.1 231 34) + 1 := (gu_194 34 rfl).trans (uF_on)
                  exact sVret Cx hr hlk hW hL ⟨iu_194, F_196, g_198, (fun h => absurd h (by have e9 := (show u_194.1 231 20 = u_194.1 231 20 from rfl); have a9 := xu_194; omega))⟩ dX12_tellPar_220
      have lk_204 : (uA u_12 252 nm (S.1 231 32)).1 231 32 = S.1 231 32 := (uA_f).trans ((gu_12 32 rfl).trans (gu_3 32 rfl))
      have q_205 : (-2147483648) ≤ u_12.1 231 24 ∧ u_12.1 231 24 ≤ 2147483647 := iu_12.fi 24
      have lk_206 : (uA u_12 252 nm (S.1 231 32)).1 231 24 = u_12.1 231 24 := uA_f
      exact loop_40 (_ + 1) (uA u_12 252 nm (S.1 231 32)) 0 _ _ _ (Nat.lt_succ_self _) i_20 F_19 Fr.rf g_15 FF.rf (by omega) (by rw [show (uA u_12 252 nm (S.1 231 32)).1 231 24 = ed by have y := (show (uA u_12 252 nm (S.1 231 32)).1 231 24 = u_12.1 231 24 from uA_f); omega]; exact ⟨e0, hv0, ht0⟩) (fun i i0 i1 => by rw [show (uA u_12 252 nm (S.1 231 32)).2.1 253 = S.2.1 253 from (funext fun j => (uA_ne (fun h => absurd h.1 (by decide))).trans (((fu_12 253 rfl).2.1 j).trans ((fu_3 253 rfl).2.1 j)))]; exact hNX.2.1 i i0 (by have y := (show (uA u_12 252 nm (S.1 231 32)).1 231 32 = S.1 231 32 from (uA_f).trans ((gu_12 32 rfl).trans (gu_3 32 rfl))); omega)) hW hL (lv_sub hl [0, 1, 2, 3] rfl)
    · have lk_207 : u_12.1 231 25 = u_3.1 231 25 := gu_12 25 rfl
      have q_208 : (-2147483648) ≤ u_12.1 231 24 ∧ u_12.1 231 24 ≤ 2147483647 := iu_12.fi 24
      have q_209 : (-2147483648) ≤ S.1 231 32 ∧ S.1 231 32 ≤ 2147483647 := hI.fi 32
      have lk_210 : u_12.1 231 32 = S.1 231 32 := (gu_12 32 rfl).trans (gu_3 32 rfl)
      have q_211 : (-2147483648) ≤ S.1 231 34 ∧ S.1 231 34 ≤ 2147483647 := hI.fi 34
      have lk_212 : u_12.1 231 34 = S.1 231 34 := (gu_12 34 rfl).trans (gu_3 34 rfl)
      exact sVret Cx hr hlk hW hL ⟨iu_12, F_14, g_15, (fun h => absurd h (by have e9 := (show u_12.1 231 20 = u_12.1 231 20 from rfl); omega))⟩ dX12_tellPar_27
  · have q_213 : (-2147483648) ≤ u_3.1 231 25 ∧ u_3.1 231 25 ≤ 2147483647 := iu_3.fi 25
    have q_214 : (-2147483648) ≤ S.1 231 24 ∧ S.1 231 24 ≤ 2147483647 := hI.fi 24
    have lk_215 : u_3.1 231 24 = S.1 231 24 := gu_3 24 rfl
    have q_216 : (-2147483648) ≤ S.1 231 32 ∧ S.1 231 32 ≤ 2147483647 := hI.fi 32
    have lk_217 : u_3.1 231 32 = S.1 231 32 := gu_3 32 rfl
    have q_218 : (-2147483648) ≤ S.1 231 34 ∧ S.1 231 34 ≤ 2147483647 := hI.fi 34
    have lk_219 : u_3.1 231 34 = S.1 231 34 := gu_3 34 rfl
    exact sVret Cx hr hlk hW hL ⟨iu_3, F_5, g_6, (fun h => absurd h (by have e9 := (show u_3.1 231 20 = u_3.1 231 20 from rfl); omega))⟩ dX12_tellPar_14

set_option maxRecDepth 100000 in
set_option maxHeartbeats 4000000 in
theorem s_X12_tellVar (l : Launch) (G : sG) (S : sS) {K V Fm Wd : Int → Int} {T : Int} {pz q tk : Int} (hI : dX G S) (hK : S.2.1 244 = K) (hV : S.2.1 247 = V) (hFm : S.2.1 245 = Fm) (hWd : S.2.1 246 = Wd) (hQ : gQ K V Fm Wd T) (h20 : S.1 231 20 = 0) (hNX : NX S T) (h3 : 3 * S.1 231 25 + 2 ≤ pz) (hc : S.1 231 24 = pz) (hg : ∃ ed, gI K V pz ed ∧ ((gW K V ed 5 ∧ gs K V 59 (ed + 1) q) ∨ (¬ gW K V ed 5 ∧ gs K V 59 ed q))) (hpq : 0 ≤ pz ∧ q ≤ T - 1) (htk : 0 ≤ tk ∧ tk < T) : Met l yX12_tellVar (.code yX12_tellVar cX12_tellVar 6 none :: tb) (rmk 4 0 0) (sPc G 294 S [.ref (G.2.2.1 + 231), .int (iv tk)]) (sQv G 294 (fun u => dX G u ∧ Fr S u (pl [231, 248, 249, 250, 251, 252, 254]) ∧ FF S u (fl [20, 21, 24, 25, 35]) ∧ (Hd (u.1 231 20 = 0 → NX u T ∧ u.1 231 25 = S.1 231 25 + 1 ∧ u.1 231 24 = q ∧ u.1 231 32 = S.1 231 32)))) 0 0 (sF G) := by
  refine sEnter (by decide) (Nat.le_of_ble_eq_true rfl) ?_
  intro p e s m args below meth c Cx hr hlk hnm hW ls hl
  have Cx : sC G p m c cX12_tellVar 6 s args RX12 := Cx
  obtain ⟨hx, hb, hml, hown, hts⟩ := id Cx.1
  have hL : sL G [] := sL_nil
  have hl : lv_has ls 6 [(0, .ref (G.2.2.1 + 231)), (1, .int (iv tk))] := hl
  have hW0 := hW
  have hQ1 := hQ.1
  have hn0 := hNX.1.1
  have hN2 := hNX.2.2
  obtain ⟨ed, hgi, hgw⟩ := hg
  have hle := gI_le hgi
  have hle2 : ed + 1 ≤ q := by rcases hgw with h | h; (have := h.2.2; omega); (have := h.2.2; omega)
  refine lv_aload_n hx hb dX12_tellVar_0 rfl (lv_at hl 0 rfl) ?_
  refine lv_iload_n hx hb dX12_tellVar_1 rfl (lv_at hl 1 rfl) ?_
  refine lv_iconst (v := iv 3) hx hb dX12_tellVar_2 (by decide) ?_
  have q_1 : (-2147483648) ≤ S.1 231 20 ∧ S.1 231 20 ≤ 2147483647 := hI.fi 20
  have q_2 : (-2147483648) ≤ S.1 231 25 ∧ S.1 231 25 ≤ 2147483647 := hI.fi 25
  refine sBi (sV (As := [.int (iv tk), .int (iv 3)]) (rest := []) (k := 231) Cx (s_X12_add_ l G S (tk := tk) (so := 3) (K := K) (V := V) (Fm := Fm) (Wd := Wd) (T := T) hI hK hV hFm hWd hQ (fun _ => hNX.nt) (fun _ => by omega) (by omega) (by omega)) (c_X12_404 Cx rfl rfl (rmk_ok (by omega) (by decide))) hW (by decide) rfl rfl rfl hl.1 rfl (Nat.le_of_ble_eq_true rfl) dX12_tellVar_3 ⟨Nat.le_of_ble_eq_true rfl, Nat.le_of_ble_eq_true rfl⟩) hL (fun nm u_3 H locs k_4 hW hL => ?_)
  obtain ⟨iu_3, fu_3, gu_3, xu_3⟩ := k_4
  have F_5 := (Fr.rf : Fr S S (pl [231, 248, 249, 250, 251, 252, 254])).trans (fu_3.to (pl_sub (by decide)))
  have g_6 : FF S u_3 (fl [20, 21, 24, 25, 35]) := FF.trans FF.rf (FF.to gu_3 (fl_sub (by decide)))
  refine lv_istore_n (lv' := [(2, .int (iv nm)), (0, .ref (G.2.2.1 + 231)), (1, .int (iv tk))]) hx hb dX12_tellVar_6 rfl hl (by decide) rfl (fun ls hl => ?_)
  refine lv_aload_n hx hb dX12_tellVar_7 rfl (lv_at hl 1 rfl) ?_
  have q_7 : (-2147483648) ≤ u_3.1 231 20 ∧ u_3.1 231 20 ≤ 2147483647 := iu_3.fi 20
  refine g_X12_270 Cx hW (k := 231) (by decide) rfl (v := u_3.1 231 20) rfl dX12_tellVar_8 ?_
  refine r_if_eq (tgt := 15) hx hb ⟨(by omega), (by omega)⟩ dX12_tellVar_11 (by decide) (fun c_8 => ?_) (fun c_8 => ?_)
  · have a1 := xu_3.2.2 (by omega)
    refine lv_aload_n hx hb dX12_tellVar_15 rfl (lv_at hl 1 rfl) ?_
    refine lv_iload_n hx hb dX12_tellVar_16 rfl (lv_at hl 0 rfl) ?_
    have q_9 : (-2147483648) ≤ u_3.1 231 25 ∧ u_3.1 231 25 ≤ 2147483647 := iu_3.fi 25
    have q_10 : (-2147483648) ≤ S.1 231 24 ∧ S.1 231 24 ≤ 2147483647 := hI.fi 24
    have lk_11 : u_3.1 231 24 = S.1 231 24 := gu_3 24 rfl
    refine sBv (sV (As := [.int (iv nm)]) (rest := []) (k := 231) Cx (s_X12_indexesOf l G u_3 (nm := nm) (K := K) (V := V) (Fm := Fm) (Wd := Wd) (T := T) (pz := pz) (q := ed) iu_3 ((funext fun j => (fu_3 244 rfl).2.1 j : u_3.2.1 244 = S.2.1 244).trans hK) ((funext fun j => (fu_3 247 rfl).2.1 j : u_3.2.1 247 = S.2.1 247).trans hV) ((funext fun j => (fu_3 245 rfl).2.1 j : u_3.2.1 245 = S.2.1 245).trans hFm) ((funext fun j => (fu_3 246 rfl).2.1 j : u_3.2.1 246 = S.2.1 246).trans hWd) hQ (by omega) (NT.add hNX.nt a1.2.2.2 a1.2.2.1 (by omega)) (by omega) (by omega) hgi (by omega) (by omega) (by rw [show nm = S.1 231 25 by omega]; exact ⟨(nRW.at a1.2.2.2).2.2.1, (nRW.at a1.2.2.2).2.2.2.1⟩)) (c_X12_407 Cx rfl rfl (rmk_ok (by omega) (by decide))) hW (by decide) rfl rfl rfl hl.1 rfl (Nat.le_of_ble_eq_true rfl) dX12_tellVar_17 ⟨Nat.le_of_ble_eq_true rfl, Nat.le_of_ble_eq_true rfl⟩) hL (fun u_12 H locs k_13 hW hL => ?_)
    obtain ⟨iu_12, fu_12, gu_12, xu_12⟩ := k_13
    have F_14 := F_5.trans (fu_12.to (pl_sub (by decide)))
    have g_15 : FF S u_12 (fl [20, 21, 24, 25, 35]) := FF.trans g_6 (FF.to gu_12 (fl_sub (by decide)))
    refine lv_aload_n hx hb dX12_tellVar_20 rfl (lv_at hl 1 rfl) ?_
    have q_16 : (-2147483648) ≤ u_12.1 231 20 ∧ u_12.1 231 20 ≤ 2147483647 := iu_12.fi 20
    refine g_X12_270 Cx hW (k := 231) (by decide) rfl (v := u_12.1 231 20) rfl dX12_tellVar_21 ?_
    refine r_if_eq (tgt := 28) hx hb ⟨(by omega), (by omega)⟩ dX12_tellVar_24 (by decide) (fun c_17 => ?_) (fun c_17 => ?_)
    · have a2 := xu_12.2.2 (by omega)
      have ii1 : nIx S (S.1 231 25) (u_12.2.1 250 nm) := nIx.dn a1.2.2.2 (by decide) (by have y := a2.2.1; rw [a1.2.2.1] at y; exact y)
      have ss1 := NX.sx hNX ii1 (by omega)
      have rr1 := nSx.r ss1
      have qq1 : u_12.2.1 250 nm ≠ -1 → u_12.2.1 250 nm ≠ nm := fun z => by rcases ii1 with y | y; (exact absurd y z); omega
      have ii2 : nIx S (S.1 231 25) (u_12.2.1 251 nm) := nIx.dn a1.2.2.2 (by decide) (by have y := a2.2.2.1; rw [a1.2.2.1] at y; exact y)
      have ss2 := NX.sx hNX ii2 (by omega)
      have rr2 := nSx.r ss2
      have qq2 : u_12.2.1 251 nm ≠ -1 → u_12.2.1 251 nm ≠ nm := fun z => by rcases ii2 with y | y; (exact absurd y z); omega
      refine lv_aload_n hx hb dX12_tellVar_28 rfl (lv_at hl 1 rfl) ?_
      refine lv_iconst (v := iv 5) hx hb dX12_tellVar_29 (by decide) ?_
      have q_18 : (-2147483648) ≤ u_12.1 231 24 ∧ u_12.1 231 24 ≤ 2147483647 := iu_12.fi 24
      refine sBi (sV (As := [.int (iv 5)]) (rest := []) (k := 231) Cx (s_X12_isWord l G u_12 (sv := 5) (K := K) (V := V) (pz := ed) iu_12 (by omega) ((funext fun j => ((fu_12 244 rfl).2.1 j).trans ((fu_3 244 rfl).2.1 j) : u_12.2.1 244 = S.2.1 244).trans hK) ((funext fun j => ((fu_12 247 rfl).2.1 j).trans ((fu_3 247 rfl).2.1 j) : u_12.2.1 247 = S.2.1 247).trans hV) (by omega) (by omega)) (c_X12_325 Cx rfl rfl (rmk_ok (by omega) (by decide))) hW (by decide) rfl rfl rfl hl.1 rfl (Nat.le_of_ble_eq_true rfl) dX12_tellVar_30 ⟨Nat.le_of_ble_eq_true rfl, Nat.le_of_ble_eq_true rfl⟩) hL (fun wh u_19 H locs k_20 hW hL => ?_)
      obtain ⟨eu_19, xu_19⟩ := k_20
      rw [eu_19] at hW
      refine lv_istore_n (lv' := [(3, .int (iv wh)), (2, .int (iv nm)), (0, .ref (G.2.2.1 + 231)), (1, .int (iv tk))]) hx hb dX12_tellVar_33 rfl hl (by decide) rfl (fun ls hl => ?_)
      refine lv_iload_n hx hb dX12_tellVar_34 rfl (lv_at hl 0 rfl) ?_
      refine r_if_eq (tgt := 48) hx hb ⟨(by omega), (by omega)⟩ dX12_tellVar_35 (by decide) (fun c_21 => ?_) (fun c_21 => ?_)
      · have hq5 : q = ed + 1 := by rcases hgw with h | h; (exact absurd h.1 (xu_19.2.2 (by omega))); exact h.2.2
        refine lv_aload_n hx hb dX12_tellVar_48 rfl (lv_at hl 2 rfl) ?_
        refine lv_dup hx hb dX12_tellVar_49 rfl ?_
        refine g_X12_315 Cx hW (k := 231) (by decide) rfl (v := u_12.1 231 24) rfl dX12_tellVar_50 ?_
        refine lv_iconst (v := iv 1) hx hb dX12_tellVar_53 (by decide) ?_
        refine r_iadd hx hb dX12_tellVar_54 ?_
        refine p_X12_315 Cx hW hL (k := 231) (by decide) rfl dX12_tellVar_55 (fun H locs hW hL => ?_)
        have F_22 : Fr S (uF u_12 231 24 ((u_12.1 231 24) + 1)) (pl [231, 248, 249, 250, 251, 252, 254]) := F_14.F rfl
        have g_23 : FF S (uF u_12 231 24 ((u_12.1 231 24) + 1)) (fl [20, 21, 24, 25, 35]) := FF.F g_15 rfl
        have i_24 : dX G (uF u_12 231 24 ((u_12.1 231 24) + 1)) := iu_12.F (i := 24) (show (-2147483648) ≤ (u_12.1 231 24) + 1 ∧ (u_12.1 231 24) + 1 ≤ 2147483647 from ⟨by omega, by omega⟩)
        refine lv_aload_n hx hb dX12_tellVar_58 rfl (lv_at hl 2 rfl) ?_
        refine lv_aload_n hx hb dX12_tellVar_59 rfl (lv_at hl 2 rfl) ?_
        refine g_X12_65 Cx hW (k := 231) (by decide) rfl (v := .ref (G.2.2.1 + 250)) (rd_28 i_24) dX12_tellVar_60 ?_
        refine lv_iload_n hx hb dX12_tellVar_63 rfl (lv_at hl 1 rfl) ?_
        refine rIald Cx hW (k := 250) (by decide) rfl (by decide) (by omega) (by omega) dX12_tellVar_64 ?_
        have q_25 : (-2147483648) ≤ u_12.2.1 250 nm ∧ u_12.2.1 250 nm ≤ 2147483647 := iu_12.ai 250 nm
        refine r_i (b := u_12.2.1 250 nm) uF_a ?_
        refine sBi (sV (As := [.int (iv (u_12.2.1 250 nm))]) (rest := []) (k := 231) Cx (s_X12_sizeOf l G (uF u_12 231 24 ((u_12.1 231 24) + 1)) (i := u_12.2.1 250 nm) i_24 (nSx.cg (S := S) (u := (uF u_12 231 24 ((u_12.1 231 24) + 1))) ss1 (fun z => ⟨((uF_a).trans (((xu_12.2.1 _ (qq1 z)).1).trans ((a1.2.2.2.2.2.1 _).trans (if_neg (fun y => (qq1 z) (by omega)))))), ((uF_a).trans (((xu_12.2.1 _ (qq1 z)).2).trans ((a1.2.2.2.2.2.2.1 _).trans (if_neg (fun y => (qq1 z) (by omega))))))⟩)).1) (c_X12_410 Cx rfl rfl (rmk_ok (by omega) (by decide))) hW (by decide) rfl rfl rfl hl.1 rfl (Nat.le_of_ble_eq_true rfl) dX12_tellVar_65 ⟨Nat.le_of_ble_eq_true rfl, Nat.le_of_ble_eq_true rfl⟩) hL (fun r_28 u_26 H locs k_27 hW hL => ?_)
        obtain ⟨eu_26, xu_26⟩ := k_27
        rw [eu_26] at hW
        have hz1 : r_28 = nSz S (u_12.2.1 250 nm) := xu_26.1.trans ((nSx.cg (S := S) (u := (uF u_12 231 24 ((u_12.1 231 24) + 1))) ss1 (fun z => ⟨((uF_a).trans (((xu_12.2.1 _ (qq1 z)).1).trans ((a1.2.2.2.2.2.1 _).trans (if_neg (fun y => (qq1 z) (by omega)))))), ((uF_a).trans (((xu_12.2.1 _ (qq1 z)).2).trans ((a1.2.2.2.2.2.2.1 _).trans (if_neg (fun y => (qq1 z) (by omega))))))⟩)).2)
        refine lv_aload_n hx hb dX12_tellVar_68 rfl (lv_at hl 2 rfl) ?_
        refine lv_aload_n hx hb dX12_tellVar_69 rfl (lv_at hl 2 rfl) ?_
        refine g_X12_68 Cx hW (k := 231) (by decide) rfl (v := .ref (G.2.2.1 + 251)) (rd_29 i_24) dX12_tellVar_70 ?_
        refine lv_iload_n hx hb dX12_tellVar_73 rfl (lv_at hl 1 rfl) ?_
        refine rIald Cx hW (k := 251) (by decide) rfl (by decide) (by omega) (by omega) dX12_tellVar_74 ?_
        have q_29 : (-2147483648) ≤ u_12.2.1 251 nm ∧ u_12.2.1 251 nm ≤ 2147483647 := iu_12.ai 251 nm
        refine r_i (b := u_12.2.1 251 nm) uF_a ?_
        refine sBi (sV (As := [.int (iv (u_12.2.1 251 nm))]) (rest := [.int (iv r_28)]) (k := 231) Cx (s_X12_sizeOf l G (uF u_12 231 24 ((u_12.1 231 24) + 1)) (i := u_12.2.1 251 nm) i_24 (nSx.cg (S := S) (u := (uF u_12 231 24 ((u_12.1 231 24) + 1))) ss2 (fun z => ⟨((uF_a).trans (((xu_12.2.1 _ (qq2 z)).1).trans ((a1.2.2.2.2.2.1 _).trans (if_neg (fun y => (qq2 z) (by omega)))))), ((uF_a).trans (((xu_12.2.1 _ (qq2 z)).2).trans ((a1.2.2.2.2.2.2.1 _).trans (if_neg (fun y => (qq2 z) (by omega))))))⟩)).1) (c_X12_410 Cx rfl rfl (rmk_ok (by omega) (by decide))) hW (by decide) rfl rfl rfl hl.1 rfl (Nat.le_of_ble_eq_true rfl) dX12_tellVar_75 ⟨Nat.le_of_ble_eq_true rfl, Nat.le_of_ble_eq_true rfl⟩) hL (fun r_32 u_30 H locs k_31 hW hL => ?_)
        obtain ⟨eu_30, xu_30⟩ := k_31
        rw [eu_30] at hW
        have hz2 : r_32 = nSz S (u_12.2.1 251 nm) := xu_30.1.trans ((nSx.cg (S := S) (u := (uF u_12 231 24 ((u_12.1 231 24) + 1))) ss2 (fun z => ⟨((uF_a).trans (((xu_12.2.1 _ (qq2 z)).1).trans ((a1.2.2.2.2.2.1 _).trans (if_neg (fun y => (qq2 z) (by omega)))))), ((uF_a).trans (((xu_12.2.1 _ (qq2 z)).2).trans ((a1.2.2.2.2.2.2.1 _).trans (if_neg (fun y => (qq2 z) (by omega))))))⟩)).2)
        refine r_imul hx hb dX12_tellVar_78 ?_
        obtain ⟨mm, emm⟩ : ∃ z : Int, z = r_28 * r_32 := ⟨_, rfl⟩
        refine r_i (b := mm) emm.symm ?_
        have hmm : 1 ≤ mm ∧ mm ≤ 144 := by rw [emm]; exact mm12 (by omega) (by omega)
        refine lv_istore (lv' := [(4, .int (iv mm)), (3, .int (iv wh)), (2, .int (iv nm)), (0, .ref (G.2.2.1 + 231)), (1, .int (iv tk))]) hx hb dX12_tellVar_79 hl (by decide) rfl (fun ls hl => ?_)
        refine lv_aload_n hx hb dX12_tellVar_81 rfl (lv_at hl 3 rfl) ?_
        refine g_X12_71 Cx hW (k := 231) (by decide) rfl (v := .ref (G.2.2.1 + 252)) (rd_30 i_24) dX12_tellVar_82 ?_
        refine lv_iload_n hx hb dX12_tellVar_85 rfl (lv_at hl 2 rfl) ?_
        refine lv_aload_n hx hb dX12_tellVar_86 rfl (lv_at hl 3 rfl) ?_
        have q_33 : (-2147483648) ≤ S.1 231 35 ∧ S.1 231 35 ≤ 2147483647 := hI.fi 35
        refine g_X12_379 Cx hW (k := 231) (by decide) rfl (v := S.1 231 35) ((uF_ne (fun h => absurd h.2 (by decide))).trans ((gu_12 35 rfl).trans (gu_3 35 rfl))) dX12_tellVar_87 ?_
        refine lv_iconst (v := iv 1) hx hb dX12_tellVar_90 (by decide) ?_
        refine r_iadd hx hb dX12_tellVar_91 ?_
        refine rIast Cx hW hL (k := 252) (by decide) rfl (by decide) (by omega) (by omega) dX12_tellVar_92 (fun H locs hW hL => ?_)
        have F_34 : Fr S (uA (uF u_12 231 24 ((u_12.1 231 24) + 1)) 252 nm ((S.1 231 35) + 1)) (pl [231, 248, 249, 250, 251, 252, 254]) := F_22.A rfl
        have i_35 : dX G (uA (uF u_12 231 24 ((u_12.1 231 24) + 1)) 252 nm ((S.1 231 35) + 1)) := i_24.A (k := 252) (show (-2147483648) ≤ (S.1 231 35) + 1 ∧ (S.1 231 35) + 1 ≤ 2147483647 from ⟨by omega, by omega⟩)
        refine lv_aload_n hx hb dX12_tellVar_93 rfl (lv_at hl 3 rfl) ?_
        refine g_X12_379 Cx hW (k := 231) (by decide) rfl (v := S.1 231 35) ((uA_f).trans ((uF_ne (fun h => absurd h.2 (by decide))).trans ((gu_12 35 rfl).trans (gu_3 35 rfl)))) dX12_tellVar_94 ?_
        refine lv_iload hx hb dX12_tellVar_97 (lv_at hl 0 rfl) ?_
        refine r_iadd hx hb dX12_tellVar_99 ?_
        refine lv_bipush (v := iv 12) hx hb dX12_tellVar_100 (by decide) ?_
        refine r_icmp_le (tgt := 113) hx hb ⟨(by omega), (by omega)⟩ ⟨(by omega), (by omega)⟩ dX12_tellVar_102 (by decide) (fun c_36 => ?_) (fun c_36 => ?_)
        · refine lv_iconst (v := iv 0) hx hb dX12_tellVar_113 (by decide) ?_
          refine lv_istore (lv' := [(5, .int (iv 0)), (4, .int (iv mm)), (3, .int (iv wh)), (2, .int (iv nm)), (0, .ref (G.2.2.1 + 231)), (1, .int (iv tk))]) hx hb dX12_tellVar_114 hl (by decide) rfl (fun ls hl => ?_)
          have loop_116 : ∀ (fuel : Nat) (S116 : sS) (i : Int) (H : Heap) (locs : List Loc) (ls : Array Slot), (mm - i).toNat < fuel → (dX G S116) → (Fr S S116 (pl [231, 248, 249, 250, 251, 252, 254])) → (Fr ((uA (uF u_12 231 24 ((u_12.1 231 24) + 1)) 252 nm ((S.1 231 35) + 1))) S116 (pl [231, 254])) → (FF S S116 (fl [20, 21, 24, 25, 35])) → (FF ((uA (uF u_12 231 24 ((u_12.1 231 24) + 1)) 252 nm ((S.1 231 35) + 1))) S116 (fl [35])) → (0 ≤ i ∧ i ≤ mm ∧ S116.1 231 35 = S.1 231 35 + i) → sW G 294 S116 H → sL G locs → lv_has ls 6 [(5, .int (iv i)), (4, .int (iv mm)), (3, .int (iv wh)), (2, .int (iv nm)), (0, .ref (G.2.2.1 + 231)), (1, .int (iv tk))] → W p l e (rmk 4 0 0) s m args below meth c H locs 0 0 (MQ below (sQv G 294 (fun u => dX G u ∧ Fr S u (pl [231, 248, 249, 250, 251, 252, 254]) ∧ FF S u (fl [20, 21, 24, 25, 35]) ∧ (Hd (u.1 231 20 = 0 → NX u T ∧ u.1 231 25 = S.1 231 25 + 1 ∧ u.1 231 24 = q ∧ u.1 231 32 = S.1 231 32)))) args s 0 0 (sF G)) (F0 m 116 ls []) := by
            intro fuel
            induction fuel with
            | zero => intro S116 i H locs ls hmeas hI116 hFm116 hL116_ hGm116 gL116_ hi hW hL hl; exact absurd hmeas (Nat.not_lt_zero _)
            | succ fuel ih_116 =>
              intro S116 i H locs ls hmeas hI116 hFm116 hL116_ hGm116 gL116_ hi hW hL hl
              refine lv_iload hx hb dX12_tellVar_116 (lv_at hl 0 rfl) ?_
              refine lv_iload hx hb dX12_tellVar_118 (lv_at hl 1 rfl) ?_
              refine r_icmp_ge (tgt := 149) hx hb ⟨(by omega), (by omega)⟩ ⟨(by omega), (by omega)⟩ dX12_tellVar_120 (by decide) (fun c_37 => ?_) (fun c_37 => ?_)
              · have lk_38 : S116.1 231 20 = u_12.1 231 20 := (gL116_ 20 rfl).trans ((uA_f).trans (uF_ne (fun h => absurd h.2 (by decide))))
                have lk_39 : S116.1 231 25 = u_3.1 231 25 := (gL116_ 25 rfl).trans ((uA_f).trans ((uF_ne (fun h => absurd h.2 (by decide))).trans (gu_12 25 rfl)))
                have lk_40 : S116.1 231 24 = (u_12.1 231 24) + 1 := (gL116_ 24 rfl).trans ((uA_f).trans (uF_on))
                have q_41 : (-2147483648) ≤ S.1 231 32 ∧ S.1 231 32 ≤ 2147483647 := hI.fi 32
                have lk_42 : S116.1 231 32 = S.1 231 32 := (gL116_ 32 rfl).trans ((uA_f).trans ((uF_ne (fun h => absurd h.2 (by decide))).trans ((gu_12 32 rfl).trans (gu_3 32 rfl))))
                exact sVret Cx hr hlk hW hL ⟨hI116, hFm116, hGm116, (fun _ => ⟨(NX.addG (S := S) (u := S116) (tk := tk) (so := 3) (a := u_12.2.1 250 nm) (b := u_12.2.1 251 nm) (f := S.1 231 35 + 1) hNX ⟨(fun x => (((hL116_ 248 rfl).2.1 x).trans ((uA_ne (fun h => absurd h.1 (by decide))).trans ((uF_a).trans ((fu_12 248 rfl).2.1 x)))).trans (a1.2.2.2.1 x)), (fun x => (((hL116_ 249 rfl).2.1 x).trans ((uA_ne (fun h => absurd h.1 (by decide))).trans ((uF_a).trans ((fu_12 249 rfl).2.1 x)))).trans (a1.2.2.2.2.1 x)), (fun x => by rw [show S116.2.1 250 x = u_12.2.1 250 x from ((hL116_ 250 rfl).2.1 x).trans ((uA_ne (fun h => absurd h.1 (by decide))).trans (uF_a))]; by_cases z : x = S.1 231 25; (rw [if_pos z, show x = nm by omega]); rw [if_neg z, (xu_12.2.1 x (by omega)).1]; exact (a1.2.2.2.2.2.1 x).trans (if_neg z)), (fun x => by rw [show S116.2.1 251 x = u_12.2.1 251 x from ((hL116_ 251 rfl).2.1 x).trans ((uA_ne (fun h => absurd h.1 (by decide))).trans (uF_a))]; by_cases z : x = S.1 231 25; (rw [if_pos z, show x = nm by omega]); rw [if_neg z, (xu_12.2.1 x (by omega)).2]; exact (a1.2.2.2.2.2.2.1 x).trans (if_neg z)), (fun x => by rw [show S116.2.1 252 x = (uA (uF u_12 231 24 ((u_12.1 231 24) + 1)) 252 nm ((S.1 231 35) + 1)).2.1 252 x from (hL116_ 252 rfl).2.1 x, uA_get]; by_cases z : x = S.1 231 25; (rw [if_pos ⟨rfl, (by omega)⟩, if_pos z]); rw [if_neg (fun h => z (by have := h.2; omega)), if_neg z]; exact ((uF_a).trans ((fu_12 252 rfl).2.1 x)).trans ((a1.2.2.2.2.2.2.2 x).trans (if_neg z)))⟩ (by have y25 := (show S116.1 231 25 = u_3.1 231 25 from (gL116_ 25 rfl).trans ((uA_f).trans ((uF_ne (fun h => absurd h.2 (by decide))).trans (gu_12 25 rfl)))); omega) (by have y32 := (show S116.1 231 32 = S.1 231 32 from (gL116_ 32 rfl).trans ((uA_f).trans ((uF_ne (fun h => absurd h.2 (by decide))).trans ((gu_12 32 rfl).trans (gu_3 32 rfl))))); omega) (by have y35 := (show S116.1 231 35 = S116.1 231 35 from rfl); omega) (fun i i0 i1 => by rw [show S116.2.1 253 = S.2.1 253 from (funext fun j => ((hL116_ 253 rfl).2.1 j).trans ((uA_ne (fun h => absurd h.1 (by decide))).trans ((uF_a).trans (((fu_12 253 rfl).2.1 j).trans ((fu_3 253 rfl).2.1 j)))))]; exact hNX.2.1 i i0 (by have y32 := (show S116.1 231 32 = S.1 231 32 from (gL116_ 32 rfl).trans ((uA_f).trans ((uF_ne (fun h => absurd h.2 (by decide))).trans ((gu_12 32 rfl).trans (gu_3 32 rfl))))); omega)) (by omega) (fun z => absurd z (by omega)) (fun _ => ⟨ii1, ii2, a2.2.2.2⟩) (fun z => absurd z (by omega)) (fun _ => ⟨(by omega), (by have y35 := (show S116.1 231 35 = S116.1 231 35 from rfl); rw [← hz1, ← hz2]; omega)⟩) (fun z => absurd z (by omega))), (by have y25 := (show S116.1 231 25 = u_3.1 231 25 from (gL116_ 25 rfl).trans ((uA_f).trans ((uF_ne (fun h => absurd h.2 (by decide))).trans (gu_12 25 rfl)))); omega), (by have y24 := (show S116.1 231 24 = (u_12.1 231 24) + 1 from (gL116_ 24 rfl).trans ((uA_f).trans (uF_on))); omega), (by have y32 := (show S116.1 231 32 = S.1 231 32 from (gL116_ 32 rfl).trans ((uA_f).trans ((uF_ne (fun h => absurd h.2 (by decide))).trans ((gu_12 32 rfl).trans (gu_3 32 rfl))))); omega)⟩)⟩ dX12_tellVar_149
              · refine lv_aload_n hx hb dX12_tellVar_123 rfl (lv_at hl 4 rfl) ?_
                refine lv_dup hx hb dX12_tellVar_124 rfl ?_
                have q_43 : (-2147483648) ≤ S116.1 231 35 ∧ S116.1 231 35 ≤ 2147483647 := hI116.fi 35
                refine g_X12_379 Cx hW (k := 231) (by decide) rfl (v := S116.1 231 35) rfl dX12_tellVar_125 ?_
                refine lv_iconst (v := iv 1) hx hb dX12_tellVar_128 (by decide) ?_
                refine r_iadd hx hb dX12_tellVar_129 ?_
                refine p_X12_379 Cx hW hL (k := 231) (by decide) rfl dX12_tellVar_130 (fun H locs hW hL => ?_)
                have F_44 : Fr S (uF S116 231 35 ((S116.1 231 35) + 1)) (pl [231, 248, 249, 250, 251, 252, 254]) := hFm116.F rfl
                have F_45 : Fr ((uA (uF u_12 231 24 ((u_12.1 231 24) + 1)) 252 nm ((S.1 231 35) + 1))) (uF S116 231 35 ((S116.1 231 35) + 1)) (pl [231, 254]) := hL116_.F rfl
                have g_46 : FF S (uF S116 231 35 ((S116.1 231 35) + 1)) (fl [20, 21, 24, 25, 35]) := FF.F hGm116 rfl
                have g_47 : FF ((uA (uF u_12 231 24 ((u_12.1 231 24) + 1)) 252 nm ((S.1 231 35) + 1))) (uF S116 231 35 ((S116.1 231 35) + 1)) (fl [35]) := FF.F gL116_ rfl
                have i_48 : dX G (uF S116 231 35 ((S116.1 231 35) + 1)) := hI116.F (i := 35) (show (-2147483648) ≤ (S116.1 231 35) + 1 ∧ (S116.1 231 35) + 1 ≤ 2147483647 from ⟨by omega, by omega⟩)
                refine lv_aload_n hx hb dX12_tellVar_133 rfl (lv_at hl 4 rfl) ?_
                refine g_X12_77 Cx hW (k := 231) (by decide) rfl (v := .ref (G.2.2.1 + 254)) (rd_37 i_48) dX12_tellVar_134 ?_
                refine lv_aload_n hx hb dX12_tellVar_137 rfl (lv_at hl 4 rfl) ?_
                refine g_X12_379 Cx hW (k := 231) (by decide) rfl (v := (S116.1 231 35) + 1) uF_on dX12_tellVar_138 ?_
                refine lv_iload_n hx hb dX12_tellVar_141 rfl (lv_at hl 2 rfl) ?_
                refine rZast Cx hW hL (k := 254) (by decide) rfl (by decide) (by omega) (by omega) (nar_z (by omega)) dX12_tellVar_142 (fun H locs hW hL => ?_)
                have F_49 : Fr S (uA (uF S116 231 35 ((S116.1 231 35) + 1)) 254 ((S116.1 231 35) + 1) wh) (pl [231, 248, 249, 250, 251, 252, 254]) := F_44.A rfl
                have F_50 : Fr ((uA (uF u_12 231 24 ((u_12.1 231 24) + 1)) 252 nm ((S.1 231 35) + 1))) (uA (uF S116 231 35 ((S116.1 231 35) + 1)) 254 ((S116.1 231 35) + 1) wh) (pl [231, 254]) := F_45.A rfl
                have i_51 : dX G (uA (uF S116 231 35 ((S116.1 231 35) + 1)) 254 ((S116.1 231 35) + 1) wh) := i_48.A (k := 254) (show 0 ≤ wh ∧ wh ≤ 1 from ⟨by omega, by omega⟩)
                refine lv_iinc (v := iv (i + 1)) (lv' := [(5, .int (iv (i + 1))), (4, .int (iv mm)), (3, .int (iv wh)), (2, .int (iv nm)), (0, .ref (G.2.2.1 + 231)), (1, .int (iv tk))]) hx hb dX12_tellVar_143 hl (k := 0) rfl ((Int32.ofInt_add _ _).symm) (by decide) rfl (fun ls hl => ?_)
                refine lv_goto (tgt := 116) hx hb dX12_tellVar_146 (by decide) ?_
                have lk_52 : (uA (uF S116 231 35 ((S116.1 231 35) + 1)) 254 ((S116.1 231 35) + 1) wh).1 231 35 = (S116.1 231 35) + 1 := (uA_f).trans (uF_on)
                exact ih_116 (uA (uF S116 231 35 ((S116.1 231 35) + 1)) 254 ((S116.1 231 35) + 1) wh) (i + 1) _ _ _ (by omega) i_51 F_49 F_50 g_46 g_47 (by omega) hW hL (lv_sub hl [0, 1, 2, 3, 4, 5] rfl)
          have lk_53 : (uA (uF u_12 231 24 ((u_12.1 231 24) + 1)) 252 nm ((S.1 231 35) + 1)).1 231 35 = S.1 231 35 := (uA_f).trans ((uF_ne (fun h => absurd h.2 (by decide))).trans ((gu_12 35 rfl).trans (gu_3 35 rfl)))
          exact loop_116 (_ + 1) (uA (uF u_12 231 24 ((u_12.1 231 24) + 1)) 252 nm ((S.1 231 35) + 1)) 0 _ _ _ (Nat.lt_succ_self _) i_35 F_34 Fr.rf g_23 FF.rf (by omega) hW hL (lv_sub hl [0, 1, 2, 3, 4, 5] rfl)
        · refine lv_aload_n hx hb dX12_tellVar_105 rfl (lv_at hl 3 rfl) ?_
          refine lv_bipush (v := iv 7) hx hb dX12_tellVar_106 (by decide) ?_
          refine lv_iload_n hx hb dX12_tellVar_108 rfl (lv_at hl 4 rfl) ?_
          refine sBv (sV (As := [.int (iv 7), .int (iv tk)]) (rest := []) (k := 231) Cx (s_X12_wrong l G (uA (uF u_12 231 24 ((u_12.1 231 24) + 1)) 252 nm ((S.1 231 35) + 1)) (cd := 7) (tk := tk) i_35 (by omega) (by omega)) (c_X12_321 Cx rfl rfl (rmk_ok (by omega) (by decide))) hW (by decide) rfl rfl rfl hl.1 rfl (Nat.le_of_ble_eq_true rfl) dX12_tellVar_109 ⟨Nat.le_of_ble_eq_true rfl, Nat.le_of_ble_eq_true rfl⟩) hL (fun u_54 H locs k_55 hW hL => ?_)
          obtain ⟨iu_54, fu_54, gu_54, xu_54⟩ := k_55
          have F_56 := F_34.trans (fu_54.to (pl_sub (by decide)))
          have g_57 : FF S u_54 (fl [20, 21, 24, 25, 35]) := FF.trans g_23 (FF.to gu_54 (fl_sub (by decide)))
          have q_58 : (-2147483648) ≤ u_54.1 231 20 ∧ u_54.1 231 20 ≤ 2147483647 := iu_54.fi 20
          have lk_59 : u_54.1 231 25 = u_3.1 231 25 := (gu_54 25 rfl).trans ((uA_f).trans ((uF_ne (fun h => absurd h.2 (by decide))).trans (gu_12 25 rfl)))
          have lk_60 : u_54.1 231 24 = (u_12.1 231 24) + 1 := (gu_54 24 rfl).trans ((uA_f).trans (uF_on))
          have q_61 : (-2147483648) ≤ S.1 231 32 ∧ S.1 231 32 ≤ 2147483647 := hI.fi 32
          have lk_62 : u_54.1 231 32 = S.1 231 32 := (gu_54 32 rfl).trans ((uA_f).trans ((uF_ne (fun h => absurd h.2 (by decide))).trans ((gu_12 32 rfl).trans (gu_3 32 rfl))))
          exact sVret Cx hr hlk hW hL ⟨iu_54, F_56, g_57, (fun h => absurd h (by have e9 := (show u_54.1 231 20 = u_54.1 231 20 from rfl); have a9 := xu_54; omega))⟩ dX12_tellVar_112
      · refine lv_aload_n hx hb dX12_tellVar_38 rfl (lv_at hl 2 rfl) ?_
        refine lv_dup hx hb dX12_tellVar_39 rfl ?_
        refine g_X12_315 Cx hW (k := 231) (by decide) rfl (v := u_12.1 231 24) rfl dX12_tellVar_40 ?_
        refine lv_iconst (v := iv 1) hx hb dX12_tellVar_43 (by decide) ?_
        refine r_iadd hx hb dX12_tellVar_44 ?_
        refine p_X12_315 Cx hW hL (k := 231) (by decide) rfl dX12_tellVar_45 (fun H locs hW hL => ?_)
        have F_63 : Fr S (uF u_12 231 24 ((u_12.1 231 24) + 1)) (pl [231, 248, 249, 250, 251, 252, 254]) := F_14.F rfl
        have g_64 : FF S (uF u_12 231 24 ((u_12.1 231 24) + 1)) (fl [20, 21, 24, 25, 35]) := FF.F g_15 rfl
        have i_65 : dX G (uF u_12 231 24 ((u_12.1 231 24) + 1)) := iu_12.F (i := 24) (show (-2147483648) ≤ (u_12.1 231 24) + 1 ∧ (u_12.1 231 24) + 1 ≤ 2147483647 from ⟨by omega, by omega⟩)
        have hq5 : q = ed + 2 := by rcases hgw with h | h; (have := h.2.2; omega); exact absurd (xu_19.2.1 (by omega)) h.1
        refine lv_aload_n hx hb dX12_tellVar_48 rfl (lv_at hl 2 rfl) ?_
        refine lv_dup hx hb dX12_tellVar_49 rfl ?_
        refine g_X12_315 Cx hW (k := 231) (by decide) rfl (v := (u_12.1 231 24) + 1) uF_on dX12_tellVar_50 ?_
        refine lv_iconst (v := iv 1) hx hb dX12_tellVar_53 (by decide) ?_
        refine r_iadd hx hb dX12_tellVar_54 ?_
        refine p_X12_315 Cx hW hL (k := 231) (by decide) rfl dX12_tellVar_55 (fun H locs hW hL => ?_)
        have F_66 : Fr S (uF (uF u_12 231 24 ((u_12.1 231 24) + 1)) 231 24 (((u_12.1 231 24) + 1) + 1)) (pl [231, 248, 249, 250, 251, 252, 254]) := F_63.F rfl
        have g_67 : FF S (uF (uF u_12 231 24 ((u_12.1 231 24) + 1)) 231 24 (((u_12.1 231 24) + 1) + 1)) (fl [20, 21, 24, 25, 35]) := FF.F g_64 rfl
        have i_68 : dX G (uF (uF u_12 231 24 ((u_12.1 231 24) + 1)) 231 24 (((u_12.1 231 24) + 1) + 1)) := i_65.F (i := 24) (show (-2147483648) ≤ ((u_12.1 231 24) + 1) + 1 ∧ ((u_12.1 231 24) + 1) + 1 ≤ 2147483647 from ⟨by omega, by omega⟩)
        refine lv_aload_n hx hb dX12_tellVar_58 rfl (lv_at hl 2 rfl) ?_
        refine lv_aload_n hx hb dX12_tellVar_59 rfl (lv_at hl 2 rfl) ?_
        refine g_X12_65 Cx hW (k := 231) (by decide) rfl (v := .ref (G.2.2.1 + 250)) (rd_28 i_68) dX12_tellVar_60 ?_
        refine lv_iload_n hx hb dX12_tellVar_63 rfl (lv_at hl 1 rfl) ?_
        refine rIald Cx hW (k := 250) (by decide) rfl (by decide) (by omega) (by omega) dX12_tellVar_64 ?_
        have q_69 : (-2147483648) ≤ u_12.2.1 250 nm ∧ u_12.2.1 250 nm ≤ 2147483647 := iu_12.ai 250 nm
        refine r_i (b := u_12.2.1 250 nm) ((uF_a).trans (uF_a)) ?_
        refine sBi (sV (As := [.int (iv (u_12.2.1 250 nm))]) (rest := []) (k := 231) Cx (s_X12_sizeOf l G (uF (uF u_12 231 24 ((u_12.1 231 24) + 1)) 231 24 (((u_12.1 231 24) + 1) + 1)) (i := u_12.2.1 250 nm) i_68 (nSx.cg (S := S) (u := (uF (uF u_12 231 24 ((u_12.1 231 24) + 1)) 231 24 (((u_12.1 231 24) + 1) + 1))) ss1 (fun z => ⟨(((uF_a).trans (uF_a)).trans (((xu_12.2.1 _ (qq1 z)).1).trans ((a1.2.2.2.2.2.1 _).trans (if_neg (fun y => (qq1 z) (by omega)))))), (((uF_a).trans (uF_a)).trans (((xu_12.2.1 _ (qq1 z)).2).trans ((a1.2.2.2.2.2.2.1 _).trans (if_neg (fun y => (qq1 z) (by omega))))))⟩)).1) (c_X12_410 Cx rfl rfl (rmk_ok (by omega) (by decide))) hW (by decide) rfl rfl rfl hl.1 rfl (Nat.le_of_ble_eq_true rfl) dX12_tellVar_65 ⟨Nat.le_of_ble_eq_true rfl, Nat.le_of_ble_eq_true rfl⟩) hL (fun r_72 u_70 H locs k_71 hW hL => ?_)
        obtain ⟨eu_70, xu_70⟩ := k_71
        rw [eu_70] at hW
        have hz1 : r_72 = nSz S (u_12.2.1 250 nm) := xu_70.1.trans ((nSx.cg (S := S) (u := (uF (uF u_12 231 24 ((u_12.1 231 24) + 1)) 231 24 (((u_12.1 231 24) + 1) + 1))) ss1 (fun z => ⟨(((uF_a).trans (uF_a)).trans (((xu_12.2.1 _ (qq1 z)).1).trans ((a1.2.2.2.2.2.1 _).trans (if_neg (fun y => (qq1 z) (by omega)))))), (((uF_a).trans (uF_a)).trans (((xu_12.2.1 _ (qq1 z)).2).trans ((a1.2.2.2.2.2.2.1 _).trans (if_neg (fun y => (qq1 z) (by omega))))))⟩)).2)
        refine lv_aload_n hx hb dX12_tellVar_68 rfl (lv_at hl 2 rfl) ?_
        refine lv_aload_n hx hb dX12_tellVar_69 rfl (lv_at hl 2 rfl) ?_
        refine g_X12_68 Cx hW (k := 231) (by decide) rfl (v := .ref (G.2.2.1 + 251)) (rd_29 i_68) dX12_tellVar_70 ?_
        refine lv_iload_n hx hb dX12_tellVar_73 rfl (lv_at hl 1 rfl) ?_
        refine rIald Cx hW (k := 251) (by decide) rfl (by decide) (by omega) (by omega) dX12_tellVar_74 ?_
        have q_73 : (-2147483648) ≤ u_12.2.1 251 nm ∧ u_12.2.1 251 nm ≤ 2147483647 := iu_12.ai 251 nm
        refine r_i (b := u_12.2.1 251 nm) ((uF_a).trans (uF_a)) ?_
        refine sBi (sV (As := [.int (iv (u_12.2.1 251 nm))]) (rest := [.int (iv r_72)]) (k := 231) Cx (s_X12_sizeOf l G (uF (uF u_12 231 24 ((u_12.1 231 24) + 1)) 231 24 (((u_12.1 231 24) + 1) + 1)) (i := u_12.2.1 251 nm) i_68 (nSx.cg (S := S) (u := (uF (uF u_12 231 24 ((u_12.1 231 24) + 1)) 231 24 (((u_12.1 231 24) + 1) + 1))) ss2 (fun z => ⟨(((uF_a).trans (uF_a)).trans (((xu_12.2.1 _ (qq2 z)).1).trans ((a1.2.2.2.2.2.1 _).trans (if_neg (fun y => (qq2 z) (by omega)))))), (((uF_a).trans (uF_a)).trans (((xu_12.2.1 _ (qq2 z)).2).trans ((a1.2.2.2.2.2.2.1 _).trans (if_neg (fun y => (qq2 z) (by omega))))))⟩)).1) (c_X12_410 Cx rfl rfl (rmk_ok (by omega) (by decide))) hW (by decide) rfl rfl rfl hl.1 rfl (Nat.le_of_ble_eq_true rfl) dX12_tellVar_75 ⟨Nat.le_of_ble_eq_true rfl, Nat.le_of_ble_eq_true rfl⟩) hL (fun r_76 u_74 H locs k_75 hW hL => ?_)
        obtain ⟨eu_74, xu_74⟩ := k_75
        rw [eu_74] at hW
        have hz2 : r_76 = nSz S (u_12.2.1 251 nm) := xu_74.1.trans ((nSx.cg (S := S) (u := (uF (uF u_12 231 24 ((u_12.1 231 24) + 1)) 231 24 (((u_12.1 231 24) + 1) + 1))) ss2 (fun z => ⟨(((uF_a).trans (uF_a)).trans (((xu_12.2.1 _ (qq2 z)).1).trans ((a1.2.2.2.2.2.1 _).trans (if_neg (fun y => (qq2 z) (by omega)))))), (((uF_a).trans (uF_a)).trans (((xu_12.2.1 _ (qq2 z)).2).trans ((a1.2.2.2.2.2.2.1 _).trans (if_neg (fun y => (qq2 z) (by omega))))))⟩)).2)
        refine r_imul hx hb dX12_tellVar_78 ?_
        obtain ⟨mm, emm⟩ : ∃ z : Int, z = r_72 * r_76 := ⟨_, rfl⟩
        refine r_i (b := mm) emm.symm ?_
        have hmm : 1 ≤ mm ∧ mm ≤ 144 := by rw [emm]; exact mm12 (by omega) (by omega)
        refine lv_istore (lv' := [(4, .int (iv mm)), (3, .int (iv wh)), (2, .int (iv nm)), (0, .ref (G.2.2.1 + 231)), (1, .int (iv tk))]) hx hb dX12_tellVar_79 hl (by decide) rfl (fun ls hl => ?_)
        refine lv_aload_n hx hb dX12_tellVar_81 rfl (lv_at hl 3 rfl) ?_
        refine g_X12_71 Cx hW (k := 231) (by decide) rfl (v := .ref (G.2.2.1 + 252)) (rd_30 i_68) dX12_tellVar_82 ?_
        refine lv_iload_n hx hb dX12_tellVar_85 rfl (lv_at hl 2 rfl) ?_
        refine lv_aload_n hx hb dX12_tellVar_86 rfl (lv_at hl 3 rfl) ?_
        have q_77 : (-2147483648) ≤ S.1 231 35 ∧ S.1 231 35 ≤ 2147483647 := hI.fi 35
        refine g_X12_379 Cx hW (k := 231) (by decide) rfl (v := S.1 231 35) ((uF_ne (fun h => absurd h.2 (by decide))).trans ((uF_ne (fun h => absurd h.2 (by decide))).trans ((gu_12 35 rfl).trans (gu_3 35 rfl)))) dX12_tellVar_87 ?_
        refine lv_iconst (v := iv 1) hx hb dX12_tellVar_90 (by decide) ?_
        refine r_iadd hx hb dX12_tellVar_91 ?_
        refine rIast Cx hW hL (k := 252) (by decide) rfl (by decide) (by omega) (by omega) dX12_tellVar_92 (fun H locs hW hL => ?_)
        have F_78 : Fr S (uA (uF (uF u_12 231 24 ((u_12.1 231 24) + 1)) 231 24 (((u_12.1 231 24) + 1) + 1)) 252 nm ((S.1 231 35) + 1)) (pl [231, 248, 249, 250, 251, 252, 254]) := F_66.A rfl
        have i_79 : dX G (uA (uF (uF u_12 231 24 ((u_12.1 231 24) + 1)) 231 24 (((u_12.1 231 24) + 1) + 1)) 252 nm ((S.1 231 35) + 1)) := i_68.A (k := 252) (show (-2147483648) ≤ (S.1 231 35) + 1 ∧ (S.1 231 35) + 1 ≤ 2147483647 from ⟨by omega, by omega⟩)
        refine lv_aload_n hx hb dX12_tellVar_93 rfl (lv_at hl 3 rfl) ?_
        refine g_X12_379 Cx hW (k := 231) (by decide) rfl (v := S.1 231 35) ((uA_f).trans ((uF_ne (fun h => absurd h.2 (by decide))).trans ((uF_ne (fun h => absurd h.2 (by decide))).trans ((gu_12 35 rfl).trans (gu_3 35 rfl))))) dX12_tellVar_94 ?_
        refine lv_iload hx hb dX12_tellVar_97 (lv_at hl 0 rfl) ?_
        refine r_iadd hx hb dX12_tellVar_99 ?_
        refine lv_bipush (v := iv 12) hx hb dX12_tellVar_100 (by decide) ?_
        refine r_icmp_le (tgt := 113) hx hb ⟨(by omega), (by omega)⟩ ⟨(by omega), (by omega)⟩ dX12_tellVar_102 (by decide) (fun c_80 => ?_) (fun c_80 => ?_)
        · refine lv_iconst (v := iv 0) hx hb dX12_tellVar_113 (by decide) ?_
          refine lv_istore (lv' := [(5, .int (iv 0)), (4, .int (iv mm)), (3, .int (iv wh)), (2, .int (iv nm)), (0, .ref (G.2.2.1 + 231)), (1, .int (iv tk))]) hx hb dX12_tellVar_114 hl (by decide) rfl (fun ls hl => ?_)
          have loop_116 : ∀ (fuel : Nat) (S116 : sS) (i : Int) (H : Heap) (locs : List Loc) (ls : Array Slot), (mm - i).toNat < fuel → (dX G S116) → (Fr S S116 (pl [231, 248, 249, 250, 251, 252, 254])) → (Fr ((uA (uF (uF u_12 231 24 ((u_12.1 231 24) + 1)) 231 24 (((u_12.1 231 24) + 1) + 1)) 252 nm ((S.1 231 35) + 1))) S116 (pl [231, 254])) → (FF S S116 (fl [20, 21, 24, 25, 35])) → (FF ((uA (uF (uF u_12 231 24 ((u_12.1 231 24) + 1)) 231 24 (((u_12.1 231 24) + 1) + 1)) 252 nm ((S.1 231 35) + 1))) S116 (fl [35])) → (0 ≤ i ∧ i ≤ mm ∧ S116.1 231 35 = S.1 231 35 + i) → sW G 294 S116 H → sL G locs → lv_has ls 6 [(5, .int (iv i)), (4, .int (iv mm)), (3, .int (iv wh)), (2, .int (iv nm)), (0, .ref (G.2.2.1 + 231)), (1, .int (iv tk))] → W p l e (rmk 4 0 0) s m args below meth c H locs 0 0 (MQ below (sQv G 294 (fun u => dX G u ∧ Fr S u (pl [231, 248, 249, 250, 251, 252, 254]) ∧ FF S u (fl [20, 21, 24, 25, 35]) ∧ (Hd (u.1 231 20 = 0 → NX u T ∧ u.1 231 25 = S.1 231 25 + 1 ∧ u.1 231 24 = q ∧ u.1 231 32 = S.1 231 32)))) args s 0 0 (sF G)) (F0 m 116 ls []) := by
            intro fuel
            induction fuel with
            | zero => intro S116 i H locs ls hmeas hI116 hFm116 hL116_ hGm116 gL116_ hi hW hL hl; exact absurd hmeas (Nat.not_lt_zero _)
            | succ fuel ih_116 =>
              intro S116 i H locs ls hmeas hI116 hFm116 hL116_ hGm116 gL116_ hi hW hL hl
              refine lv_iload hx hb dX12_tellVar_116 (lv_at hl 0 rfl) ?_
              refine lv_iload hx hb dX12_tellVar_118 (lv_at hl 1 rfl) ?_
              refine r_icmp_ge (tgt := 149) hx hb ⟨(by omega), (by omega)⟩ ⟨(by omega), (by omega)⟩ dX12_tellVar_120 (by decide) (fun c_81 => ?_) (fun c_81 => ?_)
              · have lk_82 : S116.1 231 20 = u_12.1 231 20 := (gL116_ 20 rfl).trans ((uA_f).trans ((uF_ne (fun h => absurd h.2 (by decide))).trans (uF_ne (fun h => absurd h.2 (by decide)))))
                have lk_83 : S116.1 231 25 = u_3.1 231 25 := (gL116_ 25 rfl).trans ((uA_f).trans ((uF_ne (fun h => absurd h.2 (by decide))).trans ((uF_ne (fun h => absurd h.2 (by decide))).trans (gu_12 25 rfl))))
                have lk_84 : S116.1 231 24 = ((u_12.1 231 24) + 1) + 1 := (gL116_ 24 rfl).trans ((uA_f).trans (uF_on))
                have q_85 : (-2147483648) ≤ S.1 231 32 ∧ S.1 231 32 ≤ 2147483647 := hI.fi 32
                have lk_86 : S116.1 231 32 = S.1 231 32 := (gL116_ 32 rfl).trans ((uA_f).trans ((uF_ne (fun h => absurd h.2 (by decide))).trans ((uF_ne (fun h => absurd h.2 (by decide))).trans ((gu_12 32 rfl).trans (gu_3 32 rfl)))))
                exact sVret Cx hr hlk hW hL ⟨hI116, hFm116, hGm116, (fun _ => ⟨(NX.addG (S := S) (u := S116) (tk := tk) (so := 3) (a := u_12.2.1 250 nm) (b := u_12.2.1 251 nm) (f := S.1 231 35 + 1) hNX ⟨(fun x => (((hL116_ 248 rfl).2.1 x).trans ((uA_ne (fun h => absurd h.1 (by decide))).trans ((uF_a).trans ((uF_a).trans ((fu_12 248 rfl).2.1 x))))).trans (a1.2.2.2.1 x)), (fun x => (((hL116_ 249 rfl).2.1 x).trans ((uA_ne (fun h => absurd h.1 (by decide))).trans ((uF_a).trans ((uF_a).trans ((fu_12 249 rfl).2.1 x))))).trans (a1.2.2.2.2.1 x)), (fun x => by rw [show S116.2.1 250 x = u_12.2.1 250 x from ((hL116_ 250 rfl).2.1 x).trans ((uA_ne (fun h => absurd h.1 (by decide))).trans ((uF_a).trans (uF_a)))]; by_cases z : x = S.1 231 25; (rw [if_pos z, show x = nm by omega]); rw [if_neg z, (xu_12.2.1 x (by omega)).1]; exact (a1.2.2.2.2.2.1 x).trans (if_neg z)), (fun x => by rw [show S116.2.1 251 x = u_12.2.1 251 x from ((hL116_ 251 rfl).2.1 x).trans ((uA_ne (fun h => absurd h.1 (by decide))).trans ((uF_a).trans (uF_a)))]; by_cases z : x = S.1 231 25; (rw [if_pos z, show x = nm by omega]); rw [if_neg z, (xu_12.2.1 x (by omega)).2]; exact (a1.2.2.2.2.2.2.1 x).trans (if_neg z)), (fun x => by rw [show S116.2.1 252 x = (uA (uF (uF u_12 231 24 ((u_12.1 231 24) + 1)) 231 24 (((u_12.1 231 24) + 1) + 1)) 252 nm ((S.1 231 35) + 1)).2.1 252 x from (hL116_ 252 rfl).2.1 x, uA_get]; by_cases z : x = S.1 231 25; (rw [if_pos ⟨rfl, (by omega)⟩, if_pos z]); rw [if_neg (fun h => z (by have := h.2; omega)), if_neg z]; exact ((uF_a).trans ((uF_a).trans ((fu_12 252 rfl).2.1 x))).trans ((a1.2.2.2.2.2.2.2 x).trans (if_neg z)))⟩ (by have y25 := (show S116.1 231 25 = u_3.1 231 25 from (gL116_ 25 rfl).trans ((uA_f).trans ((uF_ne (fun h => absurd h.2 (by decide))).trans ((uF_ne (fun h => absurd h.2 (by decide))).trans (gu_12 25 rfl))))); omega) (by have y32 := (show S116.1 231 32 = S.1 231 32 from (gL116_ 32 rfl).trans ((uA_f).trans ((uF_ne (fun h => absurd h.2 (by decide))).trans ((uF_ne (fun h => absurd h.2 (by decide))).trans ((gu_12 32 rfl).trans (gu_3 32 rfl)))))); omega) (by have y35 := (show S116.1 231 35 = S116.1 231 35 from rfl); omega) (fun i i0 i1 => by rw [show S116.2.1 253 = S.2.1 253 from (funext fun j => ((hL116_ 253 rfl).2.1 j).trans ((uA_ne (fun h => absurd h.1 (by decide))).trans ((uF_a).trans ((uF_a).trans (((fu_12 253 rfl).2.1 j).trans ((fu_3 253 rfl).2.1 j))))))]; exact hNX.2.1 i i0 (by have y32 := (show S116.1 231 32 = S.1 231 32 from (gL116_ 32 rfl).trans ((uA_f).trans ((uF_ne (fun h => absurd h.2 (by decide))).trans ((uF_ne (fun h => absurd h.2 (by decide))).trans ((gu_12 32 rfl).trans (gu_3 32 rfl)))))); omega)) (by omega) (fun z => absurd z (by omega)) (fun _ => ⟨ii1, ii2, a2.2.2.2⟩) (fun z => absurd z (by omega)) (fun _ => ⟨(by omega), (by have y35 := (show S116.1 231 35 = S116.1 231 35 from rfl); rw [← hz1, ← hz2]; omega)⟩) (fun z => absurd z (by omega))), (by have y25 := (show S116.1 231 25 = u_3.1 231 25 from (gL116_ 25 rfl).trans ((uA_f).trans ((uF_ne (fun h => absurd h.2 (by decide))).trans ((uF_ne (fun h => absurd h.2 (by decide))).trans (gu_12 25 rfl))))); omega), (by have y24 := (show S116.1 231 24 = ((u_12.1 231 24) + 1) + 1 from (gL116_ 24 rfl).trans ((uA_f).trans (uF_on))); omega), (by have y32 := (show S116.1 231 32 = S.1 231 32 from (gL116_ 32 rfl).trans ((uA_f).trans ((uF_ne (fun h => absurd h.2 (by decide))).trans ((uF_ne (fun h => absurd h.2 (by decide))).trans ((gu_12 32 rfl).trans (gu_3 32 rfl)))))); omega)⟩)⟩ dX12_tellVar_149
              · refine lv_aload_n hx hb dX12_tellVar_123 rfl (lv_at hl 4 rfl) ?_
                refine lv_dup hx hb dX12_tellVar_124 rfl ?_
                have q_87 : (-2147483648) ≤ S116.1 231 35 ∧ S116.1 231 35 ≤ 2147483647 := hI116.fi 35
                refine g_X12_379 Cx hW (k := 231) (by decide) rfl (v := S116.1 231 35) rfl dX12_tellVar_125 ?_
                refine lv_iconst (v := iv 1) hx hb dX12_tellVar_128 (by decide) ?_
                refine r_iadd hx hb dX12_tellVar_129 ?_
                refine p_X12_379 Cx hW hL (k := 231) (by decide) rfl dX12_tellVar_130 (fun H locs hW hL => ?_)
                have F_88 : Fr S (uF S116 231 35 ((S116.1 231 35) + 1)) (pl [231, 248, 249, 250, 251, 252, 254]) := hFm116.F rfl
                have F_89 : Fr ((uA (uF (uF u_12 231 24 ((u_12.1 231 24) + 1)) 231 24 (((u_12.1 231 24) + 1) + 1)) 252 nm ((S.1 231 35) + 1))) (uF S116 231 35 ((S116.1 231 35) + 1)) (pl [231, 254]) := hL116_.F rfl
                have g_90 : FF S (uF S116 231 35 ((S116.1 231 35) + 1)) (fl [20, 21, 24, 25, 35]) := FF.F hGm116 rfl
                have g_91 : FF ((uA (uF (uF u_12 231 24 ((u_12.1 231 24) + 1)) 231 24 (((u_12.1 231 24) + 1) + 1)) 252 nm ((S.1 231 35) + 1))) (uF S116 231 35 ((S116.1 231 35) + 1)) (fl [35]) := FF.F gL116_ rfl
                have i_92 : dX G (uF S116 231 35 ((S116.1 231 35) + 1)) := hI116.F (i := 35) (show (-2147483648) ≤ (S116.1 231 35) + 1 ∧ (S116.1 231 35) + 1 ≤ 2147483647 from ⟨by omega, by omega⟩)
                refine lv_aload_n hx hb dX12_tellVar_133 rfl (lv_at hl 4 rfl) ?_
                refine g_X12_77 Cx hW (k := 231) (by decide) rfl (v := .ref (G.2.2.1 + 254)) (rd_37 i_92) dX12_tellVar_134 ?_
                refine lv_aload_n hx hb dX12_tellVar_137 rfl (lv_at hl 4 rfl) ?_
                refine g_X12_379 Cx hW (k := 231) (by decide) rfl (v := (S116.1 231 35) + 1) uF_on dX12_tellVar_138 ?_
                refine lv_iload_n hx hb dX12_tellVar_141 rfl (lv_at hl 2 rfl) ?_
                refine rZast Cx hW hL (k := 254) (by decide) rfl (by decide) (by omega) (by omega) (nar_z (by omega)) dX12_tellVar_142 (fun H locs hW hL => ?_)
                have F_93 : Fr S (uA (uF S116 231 35 ((S116.1 231 35) + 1)) 254 ((S116.1 231 35) + 1) wh) (pl [231, 248, 249, 250, 251, 252, 254]) := F_88.A rfl
                have F_94 : Fr ((uA (uF (uF u_12 231 24 ((u_12.1 231 24) + 1)) 231 24 (((u_12.1 231 24) + 1) + 1)) 252 nm ((S.1 231 35) + 1))) (uA (uF S116 231 35 ((S116.1 231 35) + 1)) 254 ((S116.1 231 35) + 1) wh) (pl [231, 254]) := F_89.A rfl
                have i_95 : dX G (uA (uF S116 231 35 ((S116.1 231 35) + 1)) 254 ((S116.1 231 35) + 1) wh) := i_92.A (k := 254) (show 0 ≤ wh ∧ wh ≤ 1 from ⟨by omega, by omega⟩)
                refine lv_iinc (v := iv (i + 1)) (lv' := [(5, .int (iv (i + 1))), (4, .int (iv mm)), (3, .int (iv wh)), (2, .int (iv nm)), (0, .ref (G.2.2.1 + 231)), (1, .int (iv tk))]) hx hb dX12_tellVar_143 hl (k := 0) rfl ((Int32.ofInt_add _ _).symm) (by decide) rfl (fun ls hl => ?_)
                refine lv_goto (tgt := 116) hx hb dX12_tellVar_146 (by decide) ?_
                have lk_96 : (uA (uF S116 231 35 ((S116.1 231 35) + 1)) 254 ((S116.1 231 35) + 1) wh).1 231 35 = (S116.1 231 35) + 1 := (uA_f).trans (uF_on)
                exact ih_116 (uA (uF S116 231 35 ((S116.1 231 35) + 1)) 254 ((S116.1 231 35) + 1) wh) (i + 1) _ _ _ (by omega) i_95 F_93 F_94 g_90 g_91 (by omega) hW hL (lv_sub hl [0, 1, 2, 3, 4, 5] rfl)
          have lk_97 : (uA (uF (uF u_12 231 24 ((u_12.1 231 24) + 1)) 231 24 (((u_12.1 231 24) + 1) + 1)) 252 nm ((S.1 231 35) + 1)).1 231 35 = S.1 231 35 := (uA_f).trans ((uF_ne (fun h => absurd h.2 (by decide))).trans ((uF_ne (fun h => absurd h.2 (by decide))).trans ((gu_12 35 rfl).trans (gu_3 35 rfl))))
          exact loop_116 (_ + 1) (uA (uF (uF u_12 231 24 ((u_12.1 231 24) + 1)) 231 24 (((u_12.1 231 24) + 1) + 1)) 252 nm ((S.1 231 35) + 1)) 0 _ _ _ (Nat.lt_succ_self _) i_79 F_78 Fr.rf g_67 FF.rf (by omega) hW hL (lv_sub hl [0, 1, 2, 3, 4, 5] rfl)
        · refine lv_aload_n hx hb dX12_tellVar_105 rfl (lv_at hl 3 rfl) ?_
          refine lv_bipush (v := iv 7) hx hb dX12_tellVar_106 (by decide) ?_
          refine lv_iload_n hx hb dX12_tellVar_108 rfl (lv_at hl 4 rfl) ?_
          refine sBv (sV (As := [.int (iv 7), .int (iv tk)]) (rest := []) (k := 231) Cx (s_X12_wrong l G (uA (uF (uF u_12 231 24 ((u_12.1 231 24) + 1)) 231 24 (((u_12.1 231 24) + 1) + 1)) 252 nm ((S.1 231 35) + 1)) (cd := 7) (tk := tk) i_79 (by omega) (by omega)) (c_X12_321 Cx rfl rfl (rmk_ok (by omega) (by decide))) hW (by decide) rfl rfl rfl hl.1 rfl (Nat.le_of_ble_eq_true rfl) dX12_tellVar_109 ⟨Nat.le_of_ble_eq_true rfl, Nat.le_of_ble_eq_true rfl⟩) hL (fun u_98 H locs k_99 hW hL => ?_)
          obtain ⟨iu_98, fu_98, gu_98, xu_98⟩ := k_99
          have F_100 := F_78.trans (fu_98.to (pl_sub (by decide)))
          have g_101 : FF S u_98 (fl [20, 21, 24, 25, 35]) := FF.trans g_67 (FF.to gu_98 (fl_sub (by decide)))
          have q_102 : (-2147483648) ≤ u_98.1 231 20 ∧ u_98.1 231 20 ≤ 2147483647 := iu_98.fi 20
          have lk_103 : u_98.1 231 25 = u_3.1 231 25 := (gu_98 25 rfl).trans ((uA_f).trans ((uF_ne (fun h => absurd h.2 (by decide))).trans ((uF_ne (fun h => absurd h.2 (by decide))).trans (gu_12 25 rfl))))
          have lk_104 : u_98.1 231 24 = ((u_12.1 231 24) + 1) + 1 := (gu_98 24 rfl).trans ((uA_f).trans (uF_on))
          have q_105 : (-2147483648) ≤ S.1 231 32 ∧ S.1 231 32 ≤ 2147483647 := hI.fi 32
          have lk_106 : u_98.1 231 32 = S.1 231 32 := (gu_98 32 rfl).trans ((uA_f).trans ((uF_ne (fun h => absurd h.2 (by decide))).trans ((uF_ne (fun h => absurd h.2 (by decide))).trans ((gu_12 32 rfl).trans (gu_3 32 rfl)))))
          exact sVret Cx hr hlk hW hL ⟨iu_98, F_100, g_101, (fun h => absurd h (by have e9 := (show u_98.1 231 20 = u_98.1 231 20 from rfl); have a9 := xu_98; omega))⟩ dX12_tellVar_112
    · have lk_107 : u_12.1 231 25 = u_3.1 231 25 := gu_12 25 rfl
      have q_108 : (-2147483648) ≤ u_12.1 231 24 ∧ u_12.1 231 24 ≤ 2147483647 := iu_12.fi 24
      have q_109 : (-2147483648) ≤ S.1 231 32 ∧ S.1 231 32 ≤ 2147483647 := hI.fi 32
      have lk_110 : u_12.1 231 32 = S.1 231 32 := (gu_12 32 rfl).trans (gu_3 32 rfl)
      exact sVret Cx hr hlk hW hL ⟨iu_12, F_14, g_15, (fun h => absurd h (by have e9 := (show u_12.1 231 20 = u_12.1 231 20 from rfl); omega))⟩ dX12_tellVar_27
  · have q_111 : (-2147483648) ≤ u_3.1 231 25 ∧ u_3.1 231 25 ≤ 2147483647 := iu_3.fi 25
    have q_112 : (-2147483648) ≤ S.1 231 24 ∧ S.1 231 24 ≤ 2147483647 := hI.fi 24
    have lk_113 : u_3.1 231 24 = S.1 231 24 := gu_3 24 rfl
    have q_114 : (-2147483648) ≤ S.1 231 32 ∧ S.1 231 32 ≤ 2147483647 := hI.fi 32
    have lk_115 : u_3.1 231 32 = S.1 231 32 := gu_3 32 rfl
    exact sVret Cx hr hlk hW hL ⟨iu_3, F_5, g_6, (fun h => absurd h (by have e9 := (show u_3.1 231 20 = u_3.1 231 20 from rfl); omega))⟩ dX12_tellVar_14
