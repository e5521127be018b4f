/-- a text that is the model M -/
def tOM (b : Int → Int) (n : Int) (M : sM) : Prop := n ≤ 2000 ∧ ∃ T, TQ b n T ∧ (∃ d, ogG T (kq b n T) = some d) ∧ eMw T (kq b n T) (vq b n T) M00 0 = some M
theorem tOM.one {b : Int → Int} {n : Int} {M M2 : sM} (h : tOM b n M) (h2 : tOM b n M2) : M = M2 := by
  obtain ⟨_, T, t1, _, e1⟩ := h; obtain ⟨_, T2, t2, _, e2⟩ := h2
  rw [t2.one t1] at e2
  exact Option.some.inj (e1.symm.trans e2)
theorem tOM.ok {b : Int → Int} {n : Int} {M : sM} (h : tOM b n M) : tOK b n := by
  obtain ⟨a, T, t1, d, e1⟩ := h
  exact ⟨a, T, t1, d, M, e1⟩
def MSc (S : sS) (o : Nat) (M : sM) : Prop := S.1 o 2 = M.2.2.2.1 ∧ S.1 o 3 = M.2.2.2.2.2.1 ∧ S.1 o 4 = M.2.2.2.2.2.2.1 ∧ wsm (S.2.1 (o + 2)) (S.1 o 2).toNat = M.2.2.2.2.1
theorem an3 {A B C D : Prop} (h : A ∧ B ∧ C) (d : D) : A ∧ B ∧ C ∧ D := ⟨h.1, h.2.1, h.2.2, d⟩
/-- the grammar from p on; g: whether the goal is told -/
def GPh (T : Int) (k : Int → Int) (p g : Int) : Prop := ∃ d, (g = 0 ∧ (ogW T (fun p => k p = 6 ∨ k p = 7 ∨ k p = 8) (ogD T k) p).bind (ogG1 T k) = some d) ∨ (g = 1 ∧ ogG2 T k p = some d)
theorem GPh.gp {T : Int} {k : Int → Int} {p g : Int} (h : GPh T k p g) : GP T k p := by
  obtain ⟨d, h | h⟩ := h
  · exact ⟨d, .inl h.2⟩
  · exact ⟨d, .inr h.2⟩
theorem GPh_i {T : Int} {k : Int → Int} {p : Int} (hz : ∀ t, T ≤ t → k t = 0) {g : Int} (h : GPh T k p g) (hp : k p ≠ 0) : (k p = 6 ∧ ∃ q, k (q - 1) = 15 ∧ gSt k p q ∧ GPh T k q 0 ∧ g = 0) ∨ (k p = 7 ∧ ∃ q, k (q - 1) = 15 ∧ gPa T k p q ∧ GPh T k q 0 ∧ g = 0) ∨ (k p = 8 ∧ ∃ q, k (q - 1) = 15 ∧ gVa k p q ∧ GPh T k q 0 ∧ g = 0) ∨ (k p = 10 ∧ ∃ q, k (q - 1) = 15 ∧ gRoc T k p q ∧ GPh T k q 1 ∧ g = 1) ∨ ((k p = 4 ∨ k p = 5) ∧ ∃ q, k (q - 1) = 15 ∧ gGo T k p q ∧ GPh T k q 1 ∧ g = 0) := by
  have lt : ∀ t c, k t = c → c ≠ 0 → t < T := fun t c e hc => by
    by_cases q : t < T
    · exact q
    · exact absurd (e.symm.trans (hz t (by omega))) hc
  obtain ⟨d, ⟨g0, h⟩ | ⟨g0, h⟩⟩ := h
  · by_cases c : k p = 6 ∨ k p = 7 ∨ k p = 8
    · have hT : ∀ p, (fun p => k p = 6 ∨ k p = 7 ∨ k p = 8) p → p < T := fun p e => by
        rcases e with e | e | e
        · exact lt p 6 e (by decide)
        · exact lt p 7 e (by decide)
        · exact lt p 8 e (by decide)
      rw [ogW_st hT (fun p q _ e => ogD_inc _ _ e) c] at h
      obtain ⟨w, h1, h2⟩ := ogB h
      obtain ⟨x, h3, h4⟩ := ogB h1
      have i := ogD_i h3
      have hg : GPh T k x 0 := ⟨d, .inl ⟨rfl, by rw [h4]; exact h2⟩⟩
      rcases i.2.2 with z | z | z
      · exact .inl ⟨z.1, x, i.2.1, z.2, hg, g0⟩
      · exact .inr (.inr (.inl ⟨z.1, x, i.2.1, z.2, hg, g0⟩))
      · refine .inr (.inl ⟨?_, x, i.2.1, z.2.2, hg, g0⟩)
        rcases c with c | c | c
        · exact absurd c z.1
        · exact c
        · exact absurd c z.2.1
    · rw [ogW_no c, Option.bind_some] at h
      unfold ogG1 at h
      split at h
      · rename_i r
        obtain ⟨b, h1, h⟩ := ogB h; obtain ⟨e, h2, h⟩ := ogB h
        have e2 := ogT_lt h2
        exact .inr (.inr (.inr (.inr ⟨r, e, by rw [show e - 1 = b by omega]; exact e2.2, ⟨b, h1, e2.2, e2.1⟩, ⟨d, .inr ⟨rfl, h⟩⟩, g0⟩)))
      · cases h
  · by_cases c : k p = 10
    · have hT : ∀ p, (fun p => k p = 10) p → p < T := fun p e => lt p 10 e (by decide)
      obtain ⟨w, h1, h2⟩ := ogB h
      rw [ogW_st hT (fun p q _ e => ogR_inc _ _ e) c] at h1
      obtain ⟨x, h3, h4⟩ := ogB h1
      have i := ogR_i h3
      obtain ⟨b, a1, b1, g1, g2, g3, g4, g5, g6, g7⟩ := id i
      refine .inr (.inr (.inr (.inl ⟨c, x, by rw [show x - 1 = b1 by omega]; exact g6, i, ⟨d, .inr ⟨rfl, ?_⟩⟩, g0⟩)))
      unfold ogG2; rw [h4]; exact h2
    · exfalso
      unfold ogG2 at h; rw [ogW_no (st := fun p => k p = 10) c, Option.bind_some] at h
      rw [if_neg hp] at h; cases h
theorem GPh.z {T : Int} {k : Int → Int} {p g : Int} (h : GPh T k p g) (hp : k p = 0) : g = 1 := by
  obtain ⟨d, h | h⟩ := h
  · exfalso
    have h := h.2
    rw [ogW_no (st := fun p => k p = 6 ∨ k p = 7 ∨ k p = 8) (by rw [hp]; decide), Option.bind_some] at h
    unfold ogG1 at h
    rw [if_neg (by rw [hp]; decide)] at h; cases h
  · exact h.1
section
variable {T : Int} {k v : Int → Int} {M : sM} {p : Int} {X : sX}
theorem aSt_6 (c : k p = 6) : aSt T k v M p X = X := by unfold aSt; rw [if_pos c]
theorem aSt_7 (c : k p = 7) : aSt T k v M p X = X := by unfold aSt; rw [if_neg (by omega), if_pos c]
theorem aSt_8 (c : k p = 8) : aSt T k v M p X = (X.1, wDv k v M p X.2) := by unfold aSt; rw [if_neg (by omega), if_neg (by omega), if_pos c]
theorem aSt_10 (c : k p = 10) : aSt T k v M p X = (aDr T k v M p X.1, X.2) := by unfold aSt; rw [if_neg (by omega), if_neg (by omega), if_neg (by omega), if_pos c]
theorem aSt_g (c : k p ≠ 6 ∧ k p ≠ 7 ∧ k p ≠ 8 ∧ k p ≠ 10) : aSt T k v M p X = (aDg T k v M p X.1, X.2) := by unfold aSt; rw [if_neg (by omega), if_neg (by omega), if_neg (by omega), if_neg (by omega)]
end
/-- the numbers so far -/
def XHc (S : sS) (o : Nat) (T : Int) (k v : Int → Int) (M : sM) (p : Int) : Prop := ∃ X g, XAc S o g X ∧ aMw T k v M00 0 X00 = aMw T k v M p X ∧ GPh T k p g
theorem XHc.go {u : sS} {o : Nat} {T : Int} {k v : Int → Int} {M M1 : sM} {p q g : Int} {X Y : sX} (hz : ∀ t, T ≤ t → k t = 0) (h0 : 0 ≤ M.1.1) (c : k p ≠ 0) (e : eSt T k v M p = some (M1, q)) (ea : aSt T k v M p X = Y) (h1 : aMw T k v M00 0 X00 = aMw T k v M p X) (hx : XAc u o g Y) (hg : GPh T k q g) : XHc u o T k v M1 q :=
  ⟨Y, g, hx, by rw [h1, aMw_s hz h0 c e, ea], hg⟩
theorem tOX.om {b : Int → Int} {n : Int} {M : sM} {X : sX} (h : tOX b n M X) : tOM b n M := by
  obtain ⟨a, T, t, d, m, _⟩ := h; exact ⟨a, T, t, d, m⟩
theorem wsm_st {f : Int → Int} {j : Int} (h : 1 ≤ j) : wsm f (j + 1 - 1).toNat = wsm f (j - 1).toNat + f j := by
  rw [show (j + 1 - 1).toNat = (j - 1).toNat + 1 by omega]
  show wsm f (j - 1).toNat + f (((j - 1).toNat + 1 : Nat) : Int) = _
  rw [show (((j - 1).toNat + 1 : Nat) : Int) = j by omega]
set_option maxRecDepth 100000 in
set_option maxHeartbeats 4000000 in
theorem f_X3_clear (l : Launch) (G : sG) (S : sS) {o : Nat} (hI : cX G S 0 0 0) (hm : mdl o) : Met l yX3_clear (.code yX3_clear cX3_clear 1 none :: tb) (rmk 1 0 0) (sPc G 294 S [.ref (G.2.2.1 + o)]) (sQv G 294 (fun u => cX G u 0 0 0 ∧ Fr S u (pM o) ∧ (u.1 o 2 = 0 ∧ u.1 o 3 = 0 ∧ u.1 o 4 = 0))) 0 0 (sF G) := by
  refine sEnter (by decide) (Nat.le_of_ble_eq_true rfl) ?_
  intro p e s m args below meth c Cx hr hlk hnm hW ls hl
  have Cx : sC G p m c cX3_clear 1 s args RX3 := Cx
  obtain ⟨hx, hb, hml, hown, hts⟩ := id Cx.1
  have hL : sL G [] := sL_nil
  have hl : lv_has ls 1 [(0, .ref (G.2.2.1 + o))] := hl
  have hW0 := hW
  refine lv_aload_n hx hb dX3_clear_0 rfl (lv_at hl 0 rfl) ?_
  refine lv_iconst (v := iv 0) hx hb dX3_clear_1 (by decide) ?_
  refine p_X3_19 Cx hW hL (k := o) (mdl_l hm) hm.1 dX3_clear_2 (fun H locs hW hL => ?_)
  have F_1 : Fr S (uF S o 2 0) (pM o) := (Fr.rf : Fr S S (pM o)).F pM_0
  have i_2 : cX G (uF S o 2 0) 0 0 0 := hI.F hm.1 rfl (show 0 ≤ 0 ∧ 0 ≤ 12 from ⟨by omega, by omega⟩)
  refine lv_aload_n hx hb dX3_clear_5 rfl (lv_at hl 0 rfl) ?_
  refine lv_iconst (v := iv 0) hx hb dX3_clear_6 (by decide) ?_
  refine p_X3_23 Cx hW hL (k := o) (mdl_l hm) hm.1 dX3_clear_7 (fun H locs hW hL => ?_)
  have F_3 : Fr S (uF (uF S o 2 0) o 3 0) (pM o) := F_1.F pM_0
  have i_4 : cX G (uF (uF S o 2 0) o 3 0) 0 0 0 := i_2.F hm.1 rfl (show 0 ≤ 0 ∧ 0 ≤ 16 from ⟨by omega, by omega⟩)
  refine lv_aload_n hx hb dX3_clear_10 rfl (lv_at hl 0 rfl) ?_
  refine lv_iconst (v := iv 0) hx hb dX3_clear_11 (by decide) ?_
  refine p_X3_26 Cx hW hL (k := o) (mdl_l hm) hm.1 (by omega) dX3_clear_12 (fun H locs hW hL => ?_)
  have F_5 : Fr S (uF (uF (uF S o 2 0) o 3 0) o 4 0) (pM o) := F_3.F pM_0
  have i_6 : cX G (uF (uF (uF S o 2 0) o 3 0) o 4 0) 0 0 0 := i_4.F hm.1 rfl (show 0 ≤ 0 ∧ 0 ≤ 1 from ⟨by omega, by omega⟩)
  have lk_7 : (uF (uF (uF S o 2 0) o 3 0) o 4 0).1 o 2 = 0 := (uF_ne (fun h => absurd h.2 (by decide))).trans ((uF_ne (fun h => absurd h.2 (by decide))).trans (uF_on))
  have lk_8 : (uF (uF (uF S o 2 0) o 3 0) o 4 0).1 o 3 = 0 := (uF_ne (fun h => absurd h.2 (by decide))).trans (uF_on)
  have lk_9 : (uF (uF (uF S o 2 0) o 3 0) o 4 0).1 o 4 = 0 := uF_on
  exact sVret Cx hr hlk hW hL ⟨i_6, F_5, (by omega)⟩ dX3_clear_15

set_option maxRecDepth 100000 in
set_option maxHeartbeats 4000000 in
theorem f_X9_read (l : Launch) (G : sG) (S : sS) {t N o y : Nat} {b : Int → Int} (hI : cX G S 0 0 0) (ht : txt t N) (hm : mdl o) (hmy : mdl y) (hny : Hd (y ≠ o)) (hag : Hd (agr (S.2.1 (t + 1)) b (S.1 t 1))) : Met l yX9_read (.code yX9_read cX9_read 5 (some .int) :: tb) (rmk 135 0 0) (sPc G 294 S [.ref (G.2.2.1 + 11), .ref (G.2.2.1 + t), .ref (G.2.2.1 + o)]) (sQi G 294 (fun r u => cX G u 0 0 0 ∧ Fr S u pI ∧ ((0 ≤ r ∧ r ≤ 7) ∧ Hd (r = 0 → ∃ M X, tOX b (S.1 t 1) M X ∧ MSc u o M ∧ XAc u o 1 X) ∧ Hd (tOK b (S.1 t 1) → r = 0) ∧ Hd (OTc S u y)))) 0 0 (sF G) := by
  refine sEnter (by decide) (Nat.le_of_ble_eq_true rfl) ?_
  intro p e s m args below meth c Cx hr hlk hnm hW ls hl
  have Cx : sC G p m c cX9_read 5 s args RX9 := Cx
  obtain ⟨hx, hb, hml, hown, hts⟩ := id Cx.1
  have hL : sL G [] := sL_nil
  have hl : lv_has ls 5 [(0, .ref (G.2.2.1 + 11)), (1, .ref (G.2.2.1 + t)), (2, .ref (G.2.2.1 + o))] := hl
  have hW0 := hW
  have hN3 := ht.2.2.2.2.2
  have hny1 : y ≠ o := hny
  refine lv_aload_n hx hb dX9_read_0 rfl (lv_at hl 0 rfl) ?_
  refine lv_iconst (v := iv 0) hx hb dX9_read_1 (by decide) ?_
  refine p_X9_54 Cx hW hL (k := 11) (by decide) rfl dX9_read_2 (fun H locs hW hL => ?_)
  have F_1 : Fr S (uF S 11 14 0) pI := (Fr.rf : Fr S S pI).F rfl
  have i_2 : cX G (uF S 11 14 0) 0 0 0 := hI.F rfl rfl (show 0 ≤ 0 ∧ 0 ≤ 7 from ⟨by omega, by omega⟩)
  refine lv_aload_n hx hb dX9_read_5 rfl (lv_at hl 0 rfl) ?_
  refine lv_iconst (v := iv (-1)) hx hb dX9_read_6 (by decide) ?_
  refine p_X9_50 Cx hW hL (k := 11) (by decide) rfl dX9_read_7 (fun H locs hW hL => ?_)
  have F_3 : Fr S (uF (uF S 11 14 0) 11 16 ((-1))) pI := F_1.F rfl
  have i_4 : cX G (uF (uF S 11 14 0) 11 16 ((-1))) 0 0 0 := i_2.F rfl rfl (show (-2147483648) ≤ (-1) ∧ (-1) ≤ 2147483647 from ⟨by omega, by omega⟩)
  refine lv_aload_n hx hb dX9_read_10 rfl (lv_at hl 1 rfl) ?_
  have q_5 : 0 ≤ S.1 t 1 ∧ S.1 t 1 ≤ (N : Int) := txt_len ht hI
  have lk_6 : (uF (uF S 11 14 0) 11 16 ((-1))).1 t 1 = S.1 t 1 := (uF_ne (fun h => absurd h.2 (by decide))).trans (uF_ne (fun h => absurd h.2 (by decide)))
  refine sBi (sV (As := []) (rest := []) (k := t) Cx (s_X10_length l G (uF (uF S 11 14 0) 11 16 ((-1))) (o := t) (N := N) i_4 ht) (c_X9_57 Cx rfl rfl (rmk_ok (by omega) (by decide))) hW (Nat.lt_trans ht.1 (by decide)) ht.2.1 rfl rfl hl.1 rfl (Nat.le_of_ble_eq_true rfl) dX9_read_11 ⟨Nat.le_of_ble_eq_true rfl, Nat.le_of_ble_eq_true rfl⟩) hL (fun r_9 u_7 H locs k_8 hW hL => ?_)
  obtain ⟨eu_7, xu_7⟩ := k_8
  rw [eu_7] at hW
  refine lv_sipush (v := iv 2000) hx hb dX9_read_14 (by decide) ?_
  refine r_icmp_le (tgt := 37) hx hb ⟨(by omega), (by omega)⟩ ⟨(by omega), (by omega)⟩ dX9_read_17 (by decide) (fun c_10 => ?_) (fun c_10 => ?_)
  · refine lv_aload_n hx hb dX9_read_37 rfl (lv_at hl 0 rfl) ?_
    refine g_X9_14 Cx hW (k := 11) (by decide) rfl (v := .ref (G.2.2.1 + 12)) (rf_11_0 i_4) dX9_read_38 ?_
    refine lv_aload_n hx hb dX9_read_41 rfl (lv_at hl 1 rfl) ?_
    refine sBv (sV (As := [.ref (G.2.2.1 + t)]) (rest := []) (k := 12) Cx (x_X8_scan l G (uF (uF S 11 14 0) 11 16 ((-1))) (t := t) (N := N) i_4 ht (by omega)) (c_X9_63 Cx rfl rfl (rmk_ok (by omega) (by decide))) hW (by decide) rfl rfl rfl hl.1 rfl (Nat.le_of_ble_eq_true rfl) dX9_read_42 ⟨Nat.le_of_ble_eq_true rfl, Nat.le_of_ble_eq_true rfl⟩) hL (fun u_11 H locs k_12 hW hL => ?_)
    obtain ⟨iu_11, fu_11, xu_11⟩ := k_12
    have F_13 := F_3.trans (fu_11.to pQ_I)
    obtain ⟨tk1u_11, tk2u_11⟩ := xu_11
    have eb : (uF (uF S 11 14 0) 11 16 ((-1))).2.1 (t + 1) = S.2.1 (t + 1) := (funext fun j => (uF_a).trans (uF_a))
    have en_ : (uF (uF S 11 14 0) 11 16 ((-1))).1 t 1 = (S.1 t 1) := (uF_ne (fun h => absurd h.2 (by decide))).trans (uF_ne (fun h => absurd h.2 (by decide)))
    rw [eb, en_] at tk1u_11
    have n0 : 0 ≤ (S.1 t 1) := (by omega)
    have tq := tk1u_11.q n0 hag
    obtain ⟨T, hT⟩ : ∃ T, T = u_11.1 12 3 := ⟨_, rfl⟩
    rw [← hT] at tq
    have tq1 := tq.1; have tq2 := tq1.1
    have kde : Hd (kd u_11 = (kq b (S.1 t 1) T)) := (funext fun j => by unfold kd; rw [← hT]; by_cases c : 0 ≤ j ∧ j < T; (rw [if_pos c]; exact (tq.2 j c.1 c.2).1); (rw [if_neg c]; unfold kq; rw [if_neg c]))
    refine lv_aload_n hx hb dX9_read_45 rfl (lv_at hl 0 rfl) ?_
    refine g_X9_14 Cx hW (k := 11) (by decide) rfl (v := .ref (G.2.2.1 + 12)) (rf_11_0 iu_11) dX9_read_46 ?_
    have q_14 : 0 ≤ u_11.1 12 3 ∧ u_11.1 12 3 ≤ 2001 := iu_11.fi 12 3 8 (by decide) rfl
    refine sBi (sV (As := []) (rest := []) (k := 12) Cx (e_X8_isProgram l G u_11  iu_11 ⟨(by rw [← hT]; omega), (by rw [kde, ← hT]; unfold kq; rw [if_pos ⟨by omega, by omega⟩]; exact tq1.2.2)⟩) (c_X9_67 Cx rfl rfl (rmk_ok (by omega) (by decide))) hW (by decide) rfl rfl rfl hl.1 rfl (Nat.le_of_ble_eq_true rfl) dX9_read_49 ⟨Nat.le_of_ble_eq_true rfl, Nat.le_of_ble_eq_true rfl⟩) hL (fun r_17 u_15 H locs k_16 hW hL => ?_)
    obtain ⟨iu_15, fu_15, xu_15⟩ := k_16
    have F_18 := F_13.trans (fu_15.to pQ_I)
    refine r_if_ne (tgt := 76) hx hb ⟨(by omega), (by omega)⟩ dX9_read_52 (by decide) (fun c_19 => ?_) (fun c_19 => ?_)
    · obtain ⟨d, hg, hd1, hd0⟩ := xu_15.2.2.1 (by omega)
      rw [kde, ← hT] at hg
      have hge := ogG_end hg
      have hde : d = T - 1 := (by by_cases z : d < T - 1; (exfalso; have z2 := tq1.2.1 d.toNat (by omega); unfold kq at hge; rw [if_pos ⟨by omega, by omega⟩] at hge; omega); omega)
      have he : u_11.2.1 13 (u_11.1 12 3 - 1) = 0 := (by rw [← hT, (tq.2 (T - 1) (by omega) (by omega)).1, ← hde]; exact hge)
      have kv0 : KV u_11 (kq b (S.1 t 1) T) (vq b (S.1 t 1) T) T := (by have z := tk1u_11.kv n0 hag he (tk2u_11 he); rw [← hT] at z; exact z)
      have kv1 : Hd (KV u_15 (kq b (S.1 t 1) T) (vq b (S.1 t 1) T) T) := (by refine ⟨?_, ?_, xu_15.2.1.1.trans hT.symm⟩; (rw [← kv0.1]; funext j; unfold kd; rw [xu_15.2.1.1, xu_15.2.1.2]); (rw [← kv0.2.1]; funext j; unfold vd; rw [xu_15.2.1.1, xu_15.2.1.2]))
      have hTV : Hd (TVn (kq b (S.1 t 1) T) (vq b (S.1 t 1) T)) := TVn_q n0 tq1
      have hGP0 : Hd (GP T (kq b (S.1 t 1) T) 0) := ⟨d, .inl hg⟩
      have hTb : T ≤ 2001 := (by have z : 0 ≤ u_15.1 12 3 ∧ u_15.1 12 3 ≤ 2001 := iu_15.fi 12 3 8 (by decide) rfl; have z2 := xu_15.2.1.1; omega)
      refine lv_aload_n hx hb dX9_read_76 rfl (lv_at hl 0 rfl) ?_
      refine lv_aload_n hx hb dX9_read_77 rfl (lv_at hl 2 rfl) ?_
      refine p_X9_46 Cx hW hL (k := 11) (by decide) rfl dX9_read_78 (fun H locs hW hL => ?_)
      have F_20 : Fr S (uR u_15 11 8 (.ref (G.2.2.1 + o))) pI := F_18.R rfl
      have F_21 : Fr u_15 (uR u_15 11 8 (.ref (G.2.2.1 + o))) pG := (Fr.rf : Fr u_15 u_15 pG).R rfl
      have i_22 : cX G (uR u_15 11 8 (.ref (G.2.2.1 + o))) 0 0 0 := iu_15.mod11 hm
      refine lv_aload_n hx hb dX9_read_81 rfl (lv_at hl 0 rfl) ?_
      refine g_X9_46 Cx hW (k := 11) (by decide) rfl (v := .ref (G.2.2.1 + o)) uR_on dX9_read_82 ?_
      refine sBv (sV (As := []) (rest := []) (k := o) Cx (f_X3_clear l G (uR u_15 11 8 (.ref (G.2.2.1 + o))) (o := o) i_22 hm) (c_X9_74 Cx rfl rfl (rmk_ok (by omega) (by decide))) hW (mdl_l hm) hm.1 rfl rfl hl.1 rfl (Nat.le_of_ble_eq_true rfl) dX9_read_85 ⟨Nat.le_of_ble_eq_true rfl, Nat.le_of_ble_eq_true rfl⟩) hL (fun u_23 H locs k_24 hW hL => ?_)
      obtain ⟨iu_23, fu_23, xu_23⟩ := k_24
      have F_25 := F_20.trans (fu_23.to (pM_sub (pG_I _ (mdl_pG hm).1) (pG_I _ (mdl_pG hm).2.1) (pG_I _ (mdl_pG hm).2.2)))
      have F_26 := F_21.trans (fu_23.to (pM_sub (mdl_pG hm).1 (mdl_pG hm).2.1 (mdl_pG hm).2.2))
      refine lv_aload_n hx hb dX9_read_88 rfl (lv_at hl 0 rfl) ?_
      refine lv_iconst (v := iv 0) hx hb dX9_read_89 (by decide) ?_
      refine p_X9_77 Cx hW hL (k := 11) (by decide) rfl dX9_read_90 (fun H locs hW hL => ?_)
      have F_27 : Fr S (uF u_23 11 9 0) pI := F_25.F rfl
      have F_28 : Fr u_15 (uF u_23 11 9 0) pG := F_26.F rfl
      have i_29 : cX G (uF u_23 11 9 0) 0 0 0 := iu_23.F rfl rfl (show 0 ≤ 0 ∧ 0 ≤ 128 from ⟨by omega, by omega⟩)
      refine lv_aload_n hx hb dX9_read_93 rfl (lv_at hl 0 rfl) ?_
      refine lv_iconst (v := iv 0) hx hb dX9_read_94 (by decide) ?_
      refine p_X9_80 Cx hW hL (k := 11) (by decide) rfl dX9_read_95 (fun H locs hW hL => ?_)
      have F_30 : Fr S (uF (uF u_23 11 9 0) 11 10 0) pI := F_27.F rfl
      have F_31 : Fr u_15 (uF (uF u_23 11 9 0) 11 10 0) pG := F_28.F rfl
      have i_32 : cX G (uF (uF u_23 11 9 0) 11 10 0) 0 0 0 := i_29.F rfl rfl (show 0 ≤ 0 ∧ 0 ≤ 8 from ⟨by omega, by omega⟩)
      refine lv_aload_n hx hb dX9_read_98 rfl (lv_at hl 0 rfl) ?_
      refine lv_iconst (v := iv 0) hx hb dX9_read_99 (by decide) ?_
      refine p_X9_83 Cx hW hL (k := 11) (by decide) rfl dX9_read_100 (fun H locs hW hL => ?_)
      have F_33 : Fr S (uF (uF (uF u_23 11 9 0) 11 10 0) 11 11 0) pI := F_30.F rfl
      have F_34 : Fr u_15 (uF (uF (uF u_23 11 9 0) 11 10 0) 11 11 0) pG := F_31.F rfl
      have i_35 : cX G (uF (uF (uF u_23 11 9 0) 11 10 0) 11 11 0) 0 0 0 := i_32.F rfl rfl (show 0 ≤ 0 ∧ 0 ≤ 12 from ⟨by omega, by omega⟩)
      refine lv_aload_n hx hb dX9_read_103 rfl (lv_at hl 0 rfl) ?_
      refine lv_iconst (v := iv 0) hx hb dX9_read_104 (by decide) ?_
      refine p_X9_86 Cx hW hL (k := 11) (by decide) rfl dX9_read_105 (fun H locs hW hL => ?_)
      have F_36 : Fr S (uF (uF (uF (uF u_23 11 9 0) 11 10 0) 11 11 0) 11 12 0) pI := F_33.F rfl
      have F_37 : Fr u_15 (uF (uF (uF (uF u_23 11 9 0) 11 10 0) 11 11 0) 11 12 0) pG := F_34.F rfl
      have i_38 : cX G (uF (uF (uF (uF u_23 11 9 0) 11 10 0) 11 11 0) 11 12 0) 0 0 0 := i_35.F rfl rfl (show (-2147483648) ≤ 0 ∧ 0 ≤ 2147483647 from ⟨by omega, by omega⟩)
      refine lv_aload_n hx hb dX9_read_108 rfl (lv_at hl 0 rfl) ?_
      refine lv_iconst (v := iv 0) hx hb dX9_read_109 (by decide) ?_
      refine p_X9_89 Cx hW hL (k := 11) (by decide) rfl dX9_read_110 (fun H locs hW hL => ?_)
      have F_39 : Fr S (uF (uF (uF (uF (uF u_23 11 9 0) 11 10 0) 11 11 0) 11 12 0) 11 13 0) pI := F_36.F rfl
      have F_40 : Fr u_15 (uF (uF (uF (uF (uF u_23 11 9 0) 11 10 0) 11 11 0) 11 12 0) 11 13 0) pG := F_37.F rfl
      have i_41 : cX G (uF (uF (uF (uF (uF u_23 11 9 0) 11 10 0) 11 11 0) 11 12 0) 11 13 0) 0 0 0 := i_38.F rfl rfl (show (-2147483648) ≤ 0 ∧ 0 ≤ 2147483647 from ⟨by omega, by omega⟩)
      have lk_42 : (uF (uF (uF (uF (uF u_23 11 9 0) 11 10 0) 11 11 0) 11 12 0) 11 13 0).1 11 9 = 0 := (uF_ne (fun h => absurd h.2 (by decide))).trans ((uF_ne (fun h => absurd h.2 (by decide))).trans ((uF_ne (fun h => absurd h.2 (by decide))).trans ((uF_ne (fun h => absurd h.2 (by decide))).trans (uF_on))))
      have lk_43 : (uF (uF (uF (uF (uF u_23 11 9 0) 11 10 0) 11 11 0) 11 12 0) 11 13 0).1 11 10 = 0 := (uF_ne (fun h => absurd h.2 (by decide))).trans ((uF_ne (fun h => absurd h.2 (by decide))).trans ((uF_ne (fun h => absurd h.2 (by decide))).trans (uF_on)))
      have lk_44 : (uF (uF (uF (uF (uF u_23 11 9 0) 11 10 0) 11 11 0) 11 12 0) 11 13 0).1 11 11 = 0 := (uF_ne (fun h => absurd h.2 (by decide))).trans ((uF_ne (fun h => absurd h.2 (by decide))).trans (uF_on))
      have lk_45 : (uF (uF (uF (uF (uF u_23 11 9 0) 11 10 0) 11 11 0) 11 12 0) 11 13 0).1 11 12 = 0 := (uF_ne (fun h => absurd h.2 (by decide))).trans (uF_on)
      have lk_46 : (uF (uF (uF (uF (uF u_23 11 9 0) 11 10 0) 11 11 0) 11 12 0) 11 13 0).1 11 13 = 0 := uF_on
      have lk_47 : (uF (uF (uF (uF (uF u_23 11 9 0) 11 10 0) 11 11 0) 11 12 0) 11 13 0).1 11 14 = 0 := (uF_ne (fun h => absurd h.2 (by decide))).trans ((uF_ne (fun h => absurd h.2 (by decide))).trans ((uF_ne (fun h => absurd h.2 (by decide))).trans ((uF_ne (fun h => absurd h.2 (by decide))).trans ((uF_ne (fun h => absurd h.2 (by decide))).trans (((fu_23 11 (pM_no (tau_ne (rfl : tau 11 = .inl 9) hm.1 (fun h => by cases h)) (tau_ne (rfl : tau 11 = .inl 9) hm.2.1 (fun h => by cases h)) (tau_ne (rfl : tau 11 = .inl 9) hm.2.2.1 (fun h => by cases h)))).1 14).trans ((uR_f).trans (((fu_15 11 rfl).1 14).trans (((fu_11 11 rfl).1 14).trans ((uF_ne (fun h => absurd h.2 (by decide))).trans (uF_on))))))))))
      have q_48 : 0 ≤ u_23.1 o 2 ∧ u_23.1 o 2 ≤ 12 := iu_23.fi o 2 3 (mdl_k hm) hm.1
      have lk_49 : (uF (uF (uF (uF (uF u_23 11 9 0) 11 10 0) 11 11 0) 11 12 0) 11 13 0).1 o 2 = u_23.1 o 2 := (uF_ne (fun h => absurd h.2 (by decide))).trans ((uF_ne (fun h => absurd h.2 (by decide))).trans ((uF_ne (fun h => absurd h.2 (by decide))).trans ((uF_ne (fun h => absurd h.2 (by decide))).trans (uF_ne (fun h => absurd h.2 (by decide))))))
      have q_50 : 0 ≤ u_23.1 o 3 ∧ u_23.1 o 3 ≤ 16 := iu_23.fi o 3 3 (mdl_k hm) hm.1
      have lk_51 : (uF (uF (uF (uF (uF u_23 11 9 0) 11 10 0) 11 11 0) 11 12 0) 11 13 0).1 o 3 = u_23.1 o 3 := (uF_ne (fun h => absurd h.2 (by decide))).trans ((uF_ne (fun h => absurd h.2 (by decide))).trans ((uF_ne (fun h => absurd h.2 (by decide))).trans ((uF_ne (fun h => absurd h.2 (by decide))).trans (uF_ne (fun h => absurd h.2 (by decide))))))
      refine lv_iconst (v := iv 1) hx hb dX9_read_113 (by decide) ?_
      refine lv_istore_n (lv' := [(3, .int (iv 1)), (0, .ref (G.2.2.1 + 11)), (1, .ref (G.2.2.1 + t)), (2, .ref (G.2.2.1 + o))]) hx hb dX9_read_114 rfl hl (by decide) rfl (fun ls hl => ?_)
      refine lv_iconst (v := iv 0) hx hb dX9_read_115 (by decide) ?_
      refine lv_istore (lv' := [(4, .int (iv 0)), (3, .int (iv 1)), (0, .ref (G.2.2.1 + 11)), (1, .ref (G.2.2.1 + t)), (2, .ref (G.2.2.1 + o))]) hx hb dX9_read_116 hl (by decide) rfl (fun ls hl => ?_)
      have loop_118 : ∀ (fuel : Nat) (S118 : sS) (i : Int) (fi : Int) (H : Heap) (locs : List Loc) (ls : Array Slot), (2001 - i).toNat < fuel → (cX G S118 0 0 0) → (Fr S S118 pI) → (Fr u_15 S118 pG) → (Fr ((uF (uF (uF (uF (uF u_23 11 9 0) 11 10 0) 11 11 0) 11 12 0) 11 13 0)) S118 pG) → (0 ≤ fi ∧ fi ≤ 1) → (0 ≤ i ∧ i ≤ 2001) → (Hd (fi = 1 → ∃ M, MRc M S118 G o ∧ eMw T (kq b (S.1 t 1) T) (vq b (S.1 t 1) T) M00 0 = eMw T (kq b (S.1 t 1) T) (vq b (S.1 t 1) T) M (S118.1 11 13) ∧ WXc S118 o M ∧ XHc S118 o T (kq b (S.1 t 1) T) (vq b (S.1 t 1) T) M (S118.1 11 13))) → (Hd (fi = 1 → GP T (kq b (S.1 t 1) T) (S118.1 11 13) ∧ i ≤ S118.1 11 13 ∧ S118.1 11 14 = 0)) → (Hd (fi = 0 → eMw T (kq b (S.1 t 1) T) (vq b (S.1 t 1) T) M00 0 = none ∧ S118.1 11 14 ≠ 0)) → (Hd (OTc S S118 y)) → sW G 294 S118 H → sL G locs → lv_has ls 5 [(4, .int (iv i)), (3, .int (iv fi)), (0, .ref (G.2.2.1 + 11)), (1, .ref (G.2.2.1 + t)), (2, .ref (G.2.2.1 + o))] → W p l e (rmk 135 0 0) s m args below meth c H locs 0 0 (MQ below (sQi G 294 (fun r u => cX G u 0 0 0 ∧ Fr S u pI ∧ ((0 ≤ r ∧ r ≤ 7) ∧ Hd (r = 0 → ∃ M X, tOX b (S.1 t 1) M X ∧ MSc u o M ∧ XAc u o 1 X) ∧ Hd (tOK b (S.1 t 1) → r = 0) ∧ Hd (OTc S u y)))) args s 0 0 (sF G)) (F0 m 118 ls []) := by
        intro fuel
        induction fuel with
        | zero => intro S118 i fi H locs ls hmeas hI118 hFm118 hFg118 hL118_ hfi hi hOK hOQ hNO hyy hW hL hl; exact absurd hmeas (Nat.not_lt_zero _)
        | succ fuel ih_118 =>
          intro S118 i fi H locs ls hmeas hI118 hFm118 hFg118 hL118_ hfi hi hOK hOQ hNO hyy hW hL hl
          have kvS : Hd (KV S118 (kq b (S.1 t 1) T) (vq b (S.1 t 1) T) T) := KV.fr kv1 hFg118 rfl rfl rfl
          refine lv_iload hx hb dX9_read_118 (lv_at hl 0 rfl) ?_
          refine lv_aload_n hx hb dX9_read_120 rfl (lv_at hl 2 rfl) ?_
          refine g_X9_14 Cx hW (k := 11) (by decide) rfl (v := .ref (G.2.2.1 + 12)) (rf_11_0 hI118) dX9_read_121 ?_
          have q_52 : 0 ≤ u_15.1 12 3 ∧ u_15.1 12 3 ≤ 2001 := iu_15.fi 12 3 8 (by decide) rfl
          have lk_53 : S118.1 12 3 = u_15.1 12 3 := ((hL118_ 12 rfl).1 3).trans ((uF_ne (fun h => absurd h.2 (by decide))).trans ((uF_ne (fun h => absurd h.2 (by decide))).trans ((uF_ne (fun h => absurd h.2 (by decide))).trans ((uF_ne (fun h => absurd h.2 (by decide))).trans ((uF_ne (fun h => absurd h.2 (by decide))).trans (((fu_23 12 (pM_no (tau_ne (rfl : tau 12 = .inl 8) hm.1 (fun h => by cases h)) (tau_ne (rfl : tau 12 = .inl 8) hm.2.1 (fun h => by cases h)) (tau_ne (rfl : tau 12 = .inl 8) hm.2.2.1 (fun h => by cases h)))).1 3).trans (uR_f)))))))
          refine sBi (sV (As := []) (rest := [.int (iv i)]) (k := 12) Cx (s_X8_tokenCount l G S118  hI118) (c_X9_92 Cx rfl rfl (rmk_ok (by omega) (by decide))) hW (by decide) rfl rfl rfl hl.1 rfl (Nat.le_of_ble_eq_true rfl) dX9_read_124 ⟨Nat.le_of_ble_eq_true rfl, Nat.le_of_ble_eq_true rfl⟩) hL (fun r_56 u_54 H locs k_55 hW hL => ?_)
          obtain ⟨eu_54, xu_54⟩ := k_55
          rw [eu_54] at hW
          refine r_icmp_ge (tgt := 235) hx hb ⟨(by omega), (by omega)⟩ ⟨(by omega), (by omega)⟩ dX9_read_127 (by decide) (fun c_57 => ?_) (fun c_57 => ?_)
          · refine lv_aload_n hx hb dX9_read_235 rfl (lv_at hl 2 rfl) ?_
            refine lv_iload_n hx hb dX9_read_236 rfl (lv_at hl 1 rfl) ?_
            refine r_if_eq (tgt := 244) hx hb ⟨(by omega), (by omega)⟩ dX9_read_237 (by decide) (fun c_58 => ?_) (fun c_58 => ?_)
            · refine lv_aload_n hx hb dX9_read_244 rfl (lv_at hl 2 rfl) ?_
              refine g_X9_14 Cx hW (k := 11) (by decide) rfl (v := .ref (G.2.2.1 + 12)) (rf_11_0 hI118) dX9_read_245 ?_
              refine lv_aload_n hx hb dX9_read_248 rfl (lv_at hl 2 rfl) ?_
              have q_59 : (-2147483648) ≤ S118.1 11 15 ∧ S118.1 11 15 ≤ 2147483647 := hI118.fi 11 15 9 (by decide) rfl
              refine g_X9_114 Cx hW (k := 11) (by decide) rfl (v := S118.1 11 15) rfl dX9_read_249 ?_
              refine sBi (sV (As := [.int (iv (S118.1 11 15))]) (rest := [.ref (G.2.2.1 + 11)]) (k := 12) Cx (s_X8_start l G S118 (k := S118.1 11 15) hI118 (by omega)) (c_X9_117 Cx rfl rfl (rmk_ok (by omega) (by decide))) hW (by decide) rfl rfl rfl hl.1 rfl (Nat.le_of_ble_eq_true rfl) dX9_read_252 ⟨Nat.le_of_ble_eq_true rfl, Nat.le_of_ble_eq_true rfl⟩) hL (fun r_62 u_60 H locs k_61 hW hL => ?_)
              obtain ⟨eu_60, xu_60⟩ := k_61
              rw [eu_60] at hW
              refine p_X9_50 Cx hW hL (k := 11) (by decide) rfl dX9_read_255 (fun H locs hW hL => ?_)
              have F_63 : Fr S (uF S118 11 16 r_62) pI := hFm118.F rfl
              have F_64 : Fr u_15 (uF S118 11 16 r_62) pG := hFg118.F rfl
              have F_65 : Fr ((uF (uF (uF (uF (uF u_23 11 9 0) 11 10 0) 11 11 0) 11 12 0) 11 13 0)) (uF S118 11 16 r_62) pG := hL118_.F rfl
              have i_66 : cX G (uF S118 11 16 r_62) 0 0 0 := hI118.F rfl rfl (show (-2147483648) ≤ r_62 ∧ r_62 ≤ 2147483647 from ⟨by omega, by omega⟩)
              refine lv_aload_n hx hb dX9_read_258 rfl (lv_at hl 2 rfl) ?_
              have q_67 : 0 ≤ S118.1 11 14 ∧ S118.1 11 14 ≤ 7 := hI118.fi 11 14 9 (by decide) rfl
              refine g_X9_54 Cx hW (k := 11) (by decide) rfl (v := S118.1 11 14) (uF_ne (fun h => absurd h.2 (by decide))) dX9_read_259 ?_
              have lk_68 : (uF S118 11 16 r_62).1 11 14 = S118.1 11 14 := uF_ne (fun h => absurd h.2 (by decide))
              exact sIret Cx hr hlk hW hL ⟨i_66, F_63, (an3 ⟨⟨by omega, by omega⟩, (fun h => absurd h (by have z := (hNO (by omega)).2; omega)), (fun h => absurd h (tOK_m tq1 (hNO (by omega)).1))⟩ (hyy.tr (show OTc S118 (uF S118 11 16 r_62) y from ⟨(uF_ne (fun h => absurd h.2 (by decide))), (uF_ne (fun h => absurd h.2 (by decide))), (uF_ne (fun h => absurd h.2 (by decide))), (funext fun x => uF_a), (funext fun x => uF_a)⟩)))⟩ dX9_read_262
            · have hf9 := (hOQ (by omega)).2.2
              refine lv_iconst (v := iv (-1)) hx hb dX9_read_240 (by decide) ?_
              refine lv_goto (tgt := 255) hx hb dX9_read_241 (by decide) ?_
              refine p_X9_50 Cx hW hL (k := 11) (by decide) rfl dX9_read_255 (fun H locs hW hL => ?_)
              have F_69 : Fr S (uF S118 11 16 ((-1))) pI := hFm118.F rfl
              have F_70 : Fr u_15 (uF S118 11 16 ((-1))) pG := hFg118.F rfl
              have F_71 : Fr ((uF (uF (uF (uF (uF u_23 11 9 0) 11 10 0) 11 11 0) 11 12 0) 11 13 0)) (uF S118 11 16 ((-1))) pG := hL118_.F rfl
              have i_72 : cX G (uF S118 11 16 ((-1))) 0 0 0 := hI118.F rfl rfl (show (-2147483648) ≤ (-1) ∧ (-1) ≤ 2147483647 from ⟨by omega, by omega⟩)
              refine lv_aload_n hx hb dX9_read_258 rfl (lv_at hl 2 rfl) ?_
              have q_73 : 0 ≤ S118.1 11 14 ∧ S118.1 11 14 ≤ 7 := hI118.fi 11 14 9 (by decide) rfl
              refine g_X9_54 Cx hW (k := 11) (by decide) rfl (v := S118.1 11 14) (uF_ne (fun h => absurd h.2 (by decide))) dX9_read_259 ?_
              have lk_74 : (uF S118 11 16 ((-1))).1 11 14 = S118.1 11 14 := uF_ne (fun h => absurd h.2 (by decide))
              have q_75 : 0 ≤ S118.1 o 2 ∧ S118.1 o 2 ≤ 12 := hI118.fi o 2 3 (mdl_k hm) hm.1
              have lk_76 : (uF S118 11 16 ((-1))).1 o 2 = S118.1 o 2 := uF_ne (fun h => absurd h.2 (by decide))
              have q_77 : 0 ≤ S118.1 o 3 ∧ S118.1 o 3 ≤ 16 := hI118.fi o 3 3 (mdl_k hm) hm.1
              have lk_78 : (uF S118 11 16 ((-1))).1 o 3 = S118.1 o 3 := uF_ne (fun h => absurd h.2 (by decide))
              have q_79 : 0 ≤ S118.1 o 4 ∧ S118.1 o 4 ≤ 1 := hI118.fi o 4 3 (mdl_k hm) hm.1
              have lk_80 : (uF S118 11 16 ((-1))).1 o 4 = S118.1 o 4 := uF_ne (fun h => absurd h.2 (by decide))
              exact sIret Cx hr hlk hW hL ⟨i_72, F_69, (an3 (by obtain ⟨M, X9, hs, hM, hWX, hX9, haw⟩ : ∃ M X9, eMw T (kq b (S.1 t 1) T) (vq b (S.1 t 1) T) M00 0 = some M ∧ MRc M S118 G o ∧ WXc S118 o M ∧ XAc S118 o 1 X9 ∧ aMw T (kq b (S.1 t 1) T) (vq b (S.1 t 1) T) M00 0 X00 = X9 := (by obtain ⟨M, hM, hMw, hWX, X9, g9, hX9, haw, hGh⟩ := hOK (by omega); obtain ⟨hGP, hpi, hf0⟩ := hOQ (by omega); exact ⟨M, X9, (by rw [hMw, eMw_z (kvS.z _ (by omega))]), hM, hWX, (by have y := GPh.z hGh (kvS.z _ (by omega)); rw [y] at hX9; exact hX9), (by rw [haw, aMw_z (kvS.z _ (by omega))])⟩); exact ⟨⟨by omega, by omega⟩, (fun _ => ⟨M, X9, ⟨by omega, T, tq1, ⟨d, hg⟩, hs, haw⟩, ⟨(by have y := hM.2.2.2.2.1; omega), (by have y := hM.2.2.2.2.2.1; omega), (by have y := hWX.1; omega), (by rw [(show (uF S118 11 16 ((-1))).2.1 (o + 2) = S118.2.1 (o + 2) from funext fun x => uF_a), show (uF S118 11 16 ((-1))).1 o 2 = S118.1 o 2 by omega]; exact hWX.2)⟩, (XAc.of (S := S118) (u := (uF S118 11 16 ((-1)))) hX9 (uF_ne (fun h => absurd h.2 (by decide))) (uF_ne (fun h => absurd h.2 (by decide))) (funext fun x => uF_a) (funext fun x => uF_a))⟩), (fun _ => by omega)⟩) (hyy.tr (show OTc S118 (uF S118 11 16 ((-1))) y from ⟨(uF_ne (fun h => absurd h.2 (by decide))), (uF_ne (fun h => absurd h.2 (by decide))), (uF_ne (fun h => absurd h.2 (by decide))), (funext fun x => uF_a), (funext fun x => uF_a)⟩)))⟩ dX9_read_262
          · refine lv_iload_n hx hb dX9_read_130 rfl (lv_at hl 1 rfl) ?_
            refine r_if_eq (tgt := 235) hx hb ⟨(by omega), (by omega)⟩ dX9_read_131 (by decide) (fun c_81 => ?_) (fun c_81 => ?_)
            · refine lv_aload_n hx hb dX9_read_235 rfl (lv_at hl 2 rfl) ?_
              refine lv_iload_n hx hb dX9_read_236 rfl (lv_at hl 1 rfl) ?_
              refine r_if_eq (tgt := 244) hx hb ⟨(by omega), (by omega)⟩ dX9_read_237 (by decide) (fun c_82 => ?_) (fun c_82 => ?_)
              · refine lv_aload_n hx hb dX9_read_244 rfl (lv_at hl 2 rfl) ?_
                refine g_X9_14 Cx hW (k := 11) (by decide) rfl (v := .ref (G.2.2.1 + 12)) (rf_11_0 hI118) dX9_read_245 ?_
                refine lv_aload_n hx hb dX9_read_248 rfl (lv_at hl 2 rfl) ?_
                have q_83 : (-2147483648) ≤ S118.1 11 15 ∧ S118.1 11 15 ≤ 2147483647 := hI118.fi 11 15 9 (by decide) rfl
                refine g_X9_114 Cx hW (k := 11) (by decide) rfl (v := S118.1 11 15) rfl dX9_read_249 ?_
                refine sBi (sV (As := [.int (iv (S118.1 11 15))]) (rest := [.ref (G.2.2.1 + 11)]) (k := 12) Cx (s_X8_start l G S118 (k := S118.1 11 15) hI118 (by omega)) (c_X9_117 Cx rfl rfl (rmk_ok (by omega) (by decide))) hW (by decide) rfl rfl rfl hl.1 rfl (Nat.le_of_ble_eq_true rfl) dX9_read_252 ⟨Nat.le_of_ble_eq_true rfl, Nat.le_of_ble_eq_true rfl⟩) hL (fun r_86 u_84 H locs k_85 hW hL => ?_)
                obtain ⟨eu_84, xu_84⟩ := k_85
                rw [eu_84] at hW
                refine p_X9_50 Cx hW hL (k := 11) (by decide) rfl dX9_read_255 (fun H locs hW hL => ?_)
                have F_87 : Fr S (uF S118 11 16 r_86) pI := hFm118.F rfl
                have F_88 : Fr u_15 (uF S118 11 16 r_86) pG := hFg118.F rfl
                have F_89 : Fr ((uF (uF (uF (uF (uF u_23 11 9 0) 11 10 0) 11 11 0) 11 12 0) 11 13 0)) (uF S118 11 16 r_86) pG := hL118_.F rfl
                have i_90 : cX G (uF S118 11 16 r_86) 0 0 0 := hI118.F rfl rfl (show (-2147483648) ≤ r_86 ∧ r_86 ≤ 2147483647 from ⟨by omega, by omega⟩)
                refine lv_aload_n hx hb dX9_read_258 rfl (lv_at hl 2 rfl) ?_
                have q_91 : 0 ≤ S118.1 11 14 ∧ S118.1 11 14 ≤ 7 := hI118.fi 11 14 9 (by decide) rfl
                refine g_X9_54 Cx hW (k := 11) (by decide) rfl (v := S118.1 11 14) (uF_ne (fun h => absurd h.2 (by decide))) dX9_read_259 ?_
                have lk_92 : (uF S118 11 16 r_86).1 11 14 = S118.1 11 14 := uF_ne (fun h => absurd h.2 (by decide))
                exact sIret Cx hr hlk hW hL ⟨i_90, F_87, (an3 ⟨⟨by omega, by omega⟩, (fun h => absurd h (by have z := (hNO (by omega)).2; omega)), (fun h => absurd h (tOK_m tq1 (hNO (by omega)).1))⟩ (hyy.tr (show OTc S118 (uF S118 11 16 r_86) y from ⟨(uF_ne (fun h => absurd h.2 (by decide))), (uF_ne (fun h => absurd h.2 (by decide))), (uF_ne (fun h => absurd h.2 (by decide))), (funext fun x => uF_a), (funext fun x => uF_a)⟩)))⟩ dX9_read_262
              · have hf9 := (hOQ (by omega)).2.2
                refine lv_iconst (v := iv (-1)) hx hb dX9_read_240 (by decide) ?_
                refine lv_goto (tgt := 255) hx hb dX9_read_241 (by decide) ?_
                refine p_X9_50 Cx hW hL (k := 11) (by decide) rfl dX9_read_255 (fun H locs hW hL => ?_)
                have F_93 : Fr S (uF S118 11 16 ((-1))) pI := hFm118.F rfl
                have F_94 : Fr u_15 (uF S118 11 16 ((-1))) pG := hFg118.F rfl
                have F_95 : Fr ((uF (uF (uF (uF (uF u_23 11 9 0) 11 10 0) 11 11 0) 11 12 0) 11 13 0)) (uF S118 11 16 ((-1))) pG := hL118_.F rfl
                have i_96 : cX G (uF S118 11 16 ((-1))) 0 0 0 := hI118.F rfl rfl (show (-2147483648) ≤ (-1) ∧ (-1) ≤ 2147483647 from ⟨by omega, by omega⟩)
                refine lv_aload_n hx hb dX9_read_258 rfl (lv_at hl 2 rfl) ?_
                have q_97 : 0 ≤ S118.1 11 14 ∧ S118.1 11 14 ≤ 7 := hI118.fi 11 14 9 (by decide) rfl
                refine g_X9_54 Cx hW (k := 11) (by decide) rfl (v := S118.1 11 14) (uF_ne (fun h => absurd h.2 (by decide))) dX9_read_259 ?_
                have lk_98 : (uF S118 11 16 ((-1))).1 11 14 = S118.1 11 14 := uF_ne (fun h => absurd h.2 (by decide))
                have q_99 : 0 ≤ S118.1 o 2 ∧ S118.1 o 2 ≤ 12 := hI118.fi o 2 3 (mdl_k hm) hm.1
                have lk_100 : (uF S118 11 16 ((-1))).1 o 2 = S118.1 o 2 := uF_ne (fun h => absurd h.2 (by decide))
                have q_101 : 0 ≤ S118.1 o 3 ∧ S118.1 o 3 ≤ 16 := hI118.fi o 3 3 (mdl_k hm) hm.1
                have lk_102 : (uF S118 11 16 ((-1))).1 o 3 = S118.1 o 3 := uF_ne (fun h => absurd h.2 (by decide))
                have q_103 : 0 ≤ S118.1 o 4 ∧ S118.1 o 4 ≤ 1 := hI118.fi o 4 3 (mdl_k hm) hm.1
                have lk_104 : (uF S118 11 16 ((-1))).1 o 4 = S118.1 o 4 := uF_ne (fun h => absurd h.2 (by decide))
                exact sIret Cx hr hlk hW hL ⟨i_96, F_93, (an3 (by obtain ⟨M, X9, hs, hM, hWX, hX9, haw⟩ : ∃ M X9, eMw T (kq b (S.1 t 1) T) (vq b (S.1 t 1) T) M00 0 = some M ∧ MRc M S118 G o ∧ WXc S118 o M ∧ XAc S118 o 1 X9 ∧ aMw T (kq b (S.1 t 1) T) (vq b (S.1 t 1) T) M00 0 X00 = X9 := (by obtain ⟨M, hM, hMw, hWX, X9, g9, hX9, haw, hGh⟩ := hOK (by omega); obtain ⟨hGP, hpi, hf0⟩ := hOQ (by omega); exact ⟨M, X9, (by rw [hMw, eMw_z (kvS.z _ (by omega))]), hM, hWX, (by have y := GPh.z hGh (kvS.z _ (by omega)); rw [y] at hX9; exact hX9), (by rw [haw, aMw_z (kvS.z _ (by omega))])⟩); exact ⟨⟨by omega, by omega⟩, (fun _ => ⟨M, X9, ⟨by omega, T, tq1, ⟨d, hg⟩, hs, haw⟩, ⟨(by have y := hM.2.2.2.2.1; omega), (by have y := hM.2.2.2.2.2.1; omega), (by have y := hWX.1; omega), (by rw [(show (uF S118 11 16 ((-1))).2.1 (o + 2) = S118.2.1 (o + 2) from funext fun x => uF_a), show (uF S118 11 16 ((-1))).1 o 2 = S118.1 o 2 by omega]; exact hWX.2)⟩, (XAc.of (S := S118) (u := (uF S118 11 16 ((-1)))) hX9 (uF_ne (fun h => absurd h.2 (by decide))) (uF_ne (fun h => absurd h.2 (by decide))) (funext fun x => uF_a) (funext fun x => uF_a))⟩), (fun _ => by omega)⟩) (hyy.tr (show OTc S118 (uF S118 11 16 ((-1))) y from ⟨(uF_ne (fun h => absurd h.2 (by decide))), (uF_ne (fun h => absurd h.2 (by decide))), (uF_ne (fun h => absurd h.2 (by decide))), (funext fun x => uF_a), (funext fun x => uF_a)⟩)))⟩ dX9_read_262
            · obtain ⟨M, hM, hMw, hWX, X9, g9, hX9, haw, hGh⟩ := hOK (by omega)
              have hX9 : Hd _ := hX9; have haw : Hd _ := haw; have hGh : Hd _ := hGh
              obtain ⟨hGP, hpi, hf0⟩ := hOQ (by omega)
              have hMn : 0 ≤ M.1.1 := hM.1.1.2.1
              refine lv_aload_n hx hb dX9_read_134 rfl (lv_at hl 2 rfl) ?_
              refine g_X9_14 Cx hW (k := 11) (by decide) rfl (v := .ref (G.2.2.1 + 12)) (rf_11_0 hI118) dX9_read_135 ?_
              refine lv_aload_n hx hb dX9_read_138 rfl (lv_at hl 2 rfl) ?_
              have q_105 : (-2147483648) ≤ S118.1 11 13 ∧ S118.1 11 13 ≤ 2147483647 := hI118.fi 11 13 9 (by decide) rfl
              refine g_X9_89 Cx hW (k := 11) (by decide) rfl (v := S118.1 11 13) rfl dX9_read_139 ?_
              refine sBi (sV (As := [.int (iv (S118.1 11 13))]) (rest := []) (k := 12) Cx (s_X8_kind l G S118 (k := S118.1 11 13) hI118 (by omega)) (c_X9_95 Cx rfl rfl (rmk_ok (by omega) (by decide))) hW (by decide) rfl rfl rfl hl.1 rfl (Nat.le_of_ble_eq_true rfl) dX9_read_142 ⟨Nat.le_of_ble_eq_true rfl, Nat.le_of_ble_eq_true rfl⟩) hL (fun r_108 u_106 H locs k_107 hW hL => ?_)
              obtain ⟨eu_106, xu_106⟩ := k_107
              rw [eu_106] at hW
              have kpu_106 : r_108 = (kq b (S.1 t 1) T) (S118.1 11 13) := (by rw [← kvS.1]; exact xu_106.1)
              refine r_if_eq (tgt := 235) hx hb ⟨(by omega), (by omega)⟩ dX9_read_145 (by decide) (fun c_109 => ?_) (fun c_109 => ?_)
              · refine lv_aload_n hx hb dX9_read_235 rfl (lv_at hl 2 rfl) ?_
                refine lv_iload_n hx hb dX9_read_236 rfl (lv_at hl 1 rfl) ?_
                refine r_if_eq (tgt := 244) hx hb ⟨(by omega), (by omega)⟩ dX9_read_237 (by decide) (fun c_110 => ?_) (fun c_110 => ?_)
                · refine lv_aload_n hx hb dX9_read_244 rfl (lv_at hl 2 rfl) ?_
                  refine g_X9_14 Cx hW (k := 11) (by decide) rfl (v := .ref (G.2.2.1 + 12)) (rf_11_0 hI118) dX9_read_245 ?_
                  refine lv_aload_n hx hb dX9_read_248 rfl (lv_at hl 2 rfl) ?_
                  have q_111 : (-2147483648) ≤ S118.1 11 15 ∧ S118.1 11 15 ≤ 2147483647 := hI118.fi 11 15 9 (by decide) rfl
                  refine g_X9_114 Cx hW (k := 11) (by decide) rfl (v := S118.1 11 15) rfl dX9_read_249 ?_
                  refine sBi (sV (As := [.int (iv (S118.1 11 15))]) (rest := [.ref (G.2.2.1 + 11)]) (k := 12) Cx (s_X8_start l G S118 (k := S118.1 11 15) hI118 (by omega)) (c_X9_117 Cx rfl rfl (rmk_ok (by omega) (by decide))) hW (by decide) rfl rfl rfl hl.1 rfl (Nat.le_of_ble_eq_true rfl) dX9_read_252 ⟨Nat.le_of_ble_eq_true rfl, Nat.le_of_ble_eq_true rfl⟩) hL (fun r_114 u_112 H locs k_113 hW hL => ?_)
                  obtain ⟨eu_112, xu_112⟩ := k_113
                  rw [eu_112] at hW
                  refine p_X9_50 Cx hW hL (k := 11) (by decide) rfl dX9_read_255 (fun H locs hW hL => ?_)
                  have F_115 : Fr S (uF S118 11 16 r_114) pI := hFm118.F rfl
                  have F_116 : Fr u_15 (uF S118 11 16 r_114) pG := hFg118.F rfl
                  have F_117 : Fr ((uF (uF (uF (uF (uF u_23 11 9 0) 11 10 0) 11 11 0) 11 12 0) 11 13 0)) (uF S118 11 16 r_114) pG := hL118_.F rfl
                  have i_118 : cX G (uF S118 11 16 r_114) 0 0 0 := hI118.F rfl rfl (show (-2147483648) ≤ r_114 ∧ r_114 ≤ 2147483647 from ⟨by omega, by omega⟩)
                  refine lv_aload_n hx hb dX9_read_258 rfl (lv_at hl 2 rfl) ?_
                  have q_119 : 0 ≤ S118.1 11 14 ∧ S118.1 11 14 ≤ 7 := hI118.fi 11 14 9 (by decide) rfl
                  refine g_X9_54 Cx hW (k := 11) (by decide) rfl (v := S118.1 11 14) (uF_ne (fun h => absurd h.2 (by decide))) dX9_read_259 ?_
                  have lk_120 : (uF S118 11 16 r_114).1 11 14 = S118.1 11 14 := uF_ne (fun h => absurd h.2 (by decide))
                  exact sIret Cx hr hlk hW hL ⟨i_118, F_115, (an3 ⟨⟨by omega, by omega⟩, (fun h => absurd h (by have z := (hNO (by omega)).2; omega)), (fun h => absurd h (tOK_m tq1 (hNO (by omega)).1))⟩ (hyy.tr (show OTc S118 (uF S118 11 16 r_114) y from ⟨(uF_ne (fun h => absurd h.2 (by decide))), (uF_ne (fun h => absurd h.2 (by decide))), (uF_ne (fun h => absurd h.2 (by decide))), (funext fun x => uF_a), (funext fun x => uF_a)⟩)))⟩ dX9_read_262
                · refine lv_iconst (v := iv (-1)) hx hb dX9_read_240 (by decide) ?_
                  refine lv_goto (tgt := 255) hx hb dX9_read_241 (by decide) ?_
                  refine p_X9_50 Cx hW hL (k := 11) (by decide) rfl dX9_read_255 (fun H locs hW hL => ?_)
                  have F_121 : Fr S (uF S118 11 16 ((-1))) pI := hFm118.F rfl
                  have F_122 : Fr u_15 (uF S118 11 16 ((-1))) pG := hFg118.F rfl
                  have F_123 : Fr ((uF (uF (uF (uF (uF u_23 11 9 0) 11 10 0) 11 11 0) 11 12 0) 11 13 0)) (uF S118 11 16 ((-1))) pG := hL118_.F rfl
                  have i_124 : cX G (uF S118 11 16 ((-1))) 0 0 0 := hI118.F rfl rfl (show (-2147483648) ≤ (-1) ∧ (-1) ≤ 2147483647 from ⟨by omega, by omega⟩)
                  refine lv_aload_n hx hb dX9_read_258 rfl (lv_at hl 2 rfl) ?_
                  have q_125 : 0 ≤ S118.1 11 14 ∧ S118.1 11 14 ≤ 7 := hI118.fi 11 14 9 (by decide) rfl
                  refine g_X9_54 Cx hW (k := 11) (by decide) rfl (v := S118.1 11 14) (uF_ne (fun h => absurd h.2 (by decide))) dX9_read_259 ?_
                  have lk_126 : (uF S118 11 16 ((-1))).1 11 14 = S118.1 11 14 := uF_ne (fun h => absurd h.2 (by decide))
                  have q_127 : 0 ≤ S118.1 o 2 ∧ S118.1 o 2 ≤ 12 := hI118.fi o 2 3 (mdl_k hm) hm.1
                  have lk_128 : (uF S118 11 16 ((-1))).1 o 2 = S118.1 o 2 := uF_ne (fun h => absurd h.2 (by decide))
                  have q_129 : 0 ≤ S118.1 o 3 ∧ S118.1 o 3 ≤ 16 := hI118.fi o 3 3 (mdl_k hm) hm.1
                  have lk_130 : (uF S118 11 16 ((-1))).1 o 3 = S118.1 o 3 := uF_ne (fun h => absurd h.2 (by decide))
                  have q_131 : 0 ≤ S118.1 o 4 ∧ S118.1 o 4 ≤ 1 := hI118.fi o 4 3 (mdl_k hm) hm.1
                  have lk_132 : (uF S118 11 16 ((-1))).1 o 4 = S118.1 o 4 := uF_ne (fun h => absurd h.2 (by decide))
                  exact sIret Cx hr hlk hW hL ⟨i_124, F_121, (an3 (by obtain ⟨M, X9, hs, hM, hWX, hX9, haw⟩ : ∃ M X9, eMw T (kq b (S.1 t 1) T) (vq b (S.1 t 1) T) M00 0 = some M ∧ MRc M S118 G o ∧ WXc S118 o M ∧ XAc S118 o 1 X9 ∧ aMw T (kq b (S.1 t 1) T) (vq b (S.1 t 1) T) M00 0 X00 = X9 := ⟨M, X9, (by rw [hMw, eMw_z (by omega)]), hM, hWX, (by have y := GPh.z hGh (by omega); rw [y] at hX9; exact hX9), (by rw [(show _ = _ from haw), aMw_z (by omega)])⟩; exact ⟨⟨by omega, by omega⟩, (fun _ => ⟨M, X9, ⟨by omega, T, tq1, ⟨d, hg⟩, hs, haw⟩, ⟨(by have y := hM.2.2.2.2.1; omega), (by have y := hM.2.2.2.2.2.1; omega), (by have y := hWX.1; omega), (by rw [(show (uF S118 11 16 ((-1))).2.1 (o + 2) = S118.2.1 (o + 2) from funext fun x => uF_a), show (uF S118 11 16 ((-1))).1 o 2 = S118.1 o 2 by omega]; exact hWX.2)⟩, (XAc.of (S := S118) (u := (uF S118 11 16 ((-1)))) hX9 (uF_ne (fun h => absurd h.2 (by decide))) (uF_ne (fun h => absurd h.2 (by decide))) (funext fun x => uF_a) (funext fun x => uF_a))⟩), (fun _ => by omega)⟩) (hyy.tr (show OTc S118 (uF S118 11 16 ((-1))) y from ⟨(uF_ne (fun h => absurd h.2 (by decide))), (uF_ne (fun h => absurd h.2 (by decide))), (uF_ne (fun h => absurd h.2 (by decide))), (funext fun x => uF_a), (funext fun x => uF_a)⟩)))⟩ dX9_read_262
              · have hp0 := kvS.lt (t := S118.1 11 13) rfl (by omega)
                refine lv_aload_n hx hb dX9_read_148 rfl (lv_at hl 2 rfl) ?_
                refine g_X9_14 Cx hW (k := 11) (by decide) rfl (v := .ref (G.2.2.1 + 12)) (rf_11_0 hI118) dX9_read_149 ?_
                refine lv_aload_n hx hb dX9_read_152 rfl (lv_at hl 2 rfl) ?_
                refine g_X9_89 Cx hW (k := 11) (by decide) rfl (v := S118.1 11 13) rfl dX9_read_153 ?_
                refine sBi (sV (As := [.int (iv (S118.1 11 13))]) (rest := []) (k := 12) Cx (s_X8_kind l G S118 (k := S118.1 11 13) hI118 (by omega)) (c_X9_95 Cx rfl rfl (rmk_ok (by omega) (by decide))) hW (by decide) rfl rfl rfl hl.1 rfl (Nat.le_of_ble_eq_true rfl) dX9_read_156 ⟨Nat.le_of_ble_eq_true rfl, Nat.le_of_ble_eq_true rfl⟩) hL (fun r_135 u_133 H locs k_134 hW hL => ?_)
                obtain ⟨eu_133, xu_133⟩ := k_134
                rw [eu_133] at hW
                have kpu_133 : r_135 = (kq b (S.1 t 1) T) (S118.1 11 13) := (by rw [← kvS.1]; exact xu_133.1)
                by_cases c_136 : r_135 = 6
                · refine lv_tableIn (off := 33) (tgt := 192) hx hb dX9_read_159 (by rw [c_136]; decide) (by rw [c_136]; decide) (by rw [c_136]; decide) (by decide) ?_
                  obtain ⟨q, hq15, hgq, hGq, hg9⟩ := (show ∃ q, (kq b (S.1 t 1) T) (q - 1) = 15 ∧ gSt (kq b (S.1 t 1) T) (S118.1 11 13) q ∧ GPh T (kq b (S.1 t 1) T) q 0 ∧ g9 = 0 from (by rcases GPh_i kvS.z hGh (by omega) with z | z | z | z | z; (first | (exact z.2) | (exfalso; rcases z with ⟨z, _⟩; omega)); (first | (exact z.2) | (exfalso; rcases z with ⟨z, _⟩; omega)); (first | (exact z.2) | (exfalso; rcases z with ⟨z, _⟩; omega)); (first | (exact z.2) | (exfalso; rcases z with ⟨z, _⟩; omega)); (first | (exact z.2) | (exfalso; rcases z with ⟨z, _⟩; omega))))
                  have hql := kvS.lt hq15 (by decide); have hGq : Hd _ := hGq
                  refine lv_aload_n hx hb dX9_read_192 rfl (lv_at hl 2 rfl) ?_
                  have q_137 : 0 ≤ S118.1 11 14 ∧ S118.1 11 14 ≤ 7 := hI118.fi 11 14 9 (by decide) rfl
                  refine sBi (sV (As := []) (rest := []) (k := 11) Cx (e_X9_tellSet l G S118 (M := M) (k := (kq b (S.1 t 1) T)) (v := (vq b (S.1 t 1) T)) (T := T) (pz := S118.1 11 13) (q := q) (o := o) hI118 hm hM hTV kvS (by omega) (by omega) (by omega) (by omega) hgq) (c_X9_99 Cx rfl rfl (rmk_ok (by omega) (by decide))) hW (by decide) rfl rfl rfl hl.1 rfl (Nat.le_of_ble_eq_true rfl) dX9_read_193 ⟨Nat.le_of_ble_eq_true rfl, Nat.le_of_ble_eq_true rfl⟩) hL (fun r_140 u_138 H locs k_139 hW hL => ?_)
                  obtain ⟨iu_138, fu_138, xu_138⟩ := k_139
                  have F_141 := hFm118.trans (fu_138.to (fun k h => pG_I k ((fun k h => pV_G k ((fun k h => pU_V k (pT_U k h)) k h)) k h)))
                  have F_142 := hFg118.trans (fu_138.to (fun k h => pV_G k ((fun k h => pU_V k (pT_U k h)) k h)))
                  have F_143 := hL118_.trans (fu_138.to (fun k h => pV_G k ((fun k h => pU_V k (pT_U k h)) k h)))
                  have yu_138 := xu_138.1.2
                  refine lv_istore_n (lv' := [(3, .int (iv r_140)), (4, .int (iv i)), (0, .ref (G.2.2.1 + 11)), (1, .ref (G.2.2.1 + t)), (2, .ref (G.2.2.1 + o))]) hx hb dX9_read_196 rfl hl (by decide) rfl (fun ls hl => ?_)
                  refine lv_goto (tgt := 229) hx hb dX9_read_197 (by decide) ?_
                  refine lv_iinc (v := iv (i + 1)) (lv' := [(4, .int (iv (i + 1))), (3, .int (iv r_140)), (0, .ref (G.2.2.1 + 11)), (1, .ref (G.2.2.1 + t)), (2, .ref (G.2.2.1 + o))]) hx hb dX9_read_229 hl (k := 1) rfl ((Int32.ofInt_add _ _).symm) (by decide) rfl (fun ls hl => ?_)
                  refine lv_goto (tgt := 118) hx hb dX9_read_232 (by decide) ?_
                  have q_144 : 0 ≤ u_138.1 11 9 ∧ u_138.1 11 9 ≤ 128 := iu_138.fi 11 9 9 (by decide) rfl
                  have q_145 : 0 ≤ u_138.1 11 10 ∧ u_138.1 11 10 ≤ 8 := iu_138.fi 11 10 9 (by decide) rfl
                  have q_146 : 0 ≤ u_138.1 11 11 ∧ u_138.1 11 11 ≤ 12 := iu_138.fi 11 11 9 (by decide) rfl
                  have q_147 : (-2147483648) ≤ u_138.1 11 12 ∧ u_138.1 11 12 ≤ 2147483647 := iu_138.fi 11 12 9 (by decide) rfl
                  have q_148 : (-2147483648) ≤ u_138.1 11 13 ∧ u_138.1 11 13 ≤ 2147483647 := iu_138.fi 11 13 9 (by decide) rfl
                  have q_149 : 0 ≤ u_138.1 11 14 ∧ u_138.1 11 14 ≤ 7 := iu_138.fi 11 14 9 (by decide) rfl
                  have q_150 : 0 ≤ S118.1 o 2 ∧ S118.1 o 2 ≤ 12 := hI118.fi o 2 3 (mdl_k hm) hm.1
                  have lk_151 : u_138.1 o 2 = S118.1 o 2 := (fu_138 o (mdl_out hm).1).1 2
                  have q_152 : 0 ≤ S118.1 o 3 ∧ S118.1 o 3 ≤ 16 := hI118.fi o 3 3 (mdl_k hm) hm.1
                  have lk_153 : u_138.1 o 3 = S118.1 o 3 := (fu_138 o (mdl_out hm).1).1 3
                  exact ih_118 u_138 (i + 1) r_140 _ _ _ (by omega) iu_138 F_141 F_142 F_143 (by omega) (by omega) (fun h => by obtain ⟨M1, e1, hM1, p1_, f1_⟩ := xu_138.2.1 h; exact ⟨M1, hM1, (by rw [hMw, eMw_s (y := (M1, q)) kvS.z hMn (by omega) ((eSt_6 (by omega)).trans e1), p1_]), (hWX.of ((fu_138 o (mdl_out hm).1).1 4) ((fu_138 o (mdl_out hm).1).1 2) (funext fun x => (fu_138 (o + 2) (mdl_out2 hm).1).2.1 x) (eDs_w e1).1 (eDs_w e1).2), (by rw [p1_]; have hX9 := hX9; rw [hg9] at hX9; exact XHc.go kvS.z hMn (by omega) ((eSt_6 (by omega)).trans e1) (aSt_6 (by omega)) haw (XAc.of hX9 ((fu_138 o (mdl_out hm).1).1 2) ((fu_138 o (mdl_out hm).1).1 3) (funext fun x => (fu_138 (o + 1) (mdl_out1 hm).1).2.1 x) (funext fun x => (fu_138 (o + 2) (mdl_out2 hm).1).2.1 x)) hGq)⟩) (fun h => by obtain ⟨M1, e1, hM1, p1_, f1_⟩ := xu_138.2.1 h; have z := eSt_inc hMn ((eSt_6 (by omega) : eSt T (kq b (S.1 t 1) T) (vq b (S.1 t 1) T) M (S118.1 11 13) = _).trans e1); exact ⟨(by rw [p1_]; exact GPh.gp hGq), (by have z : S118.1 11 13 < q := z; omega), f1_⟩) (fun h => ⟨(by rw [hMw, eMw_n (by omega) ((eSt_6 (by omega)).trans (xu_138.2.2 h))]), xu_138.1.1.2 h⟩) (hyy.tr (show OTc S118 u_138 y from ⟨((fu_138 y (mdl_out hmy).1).1 2), ((fu_138 y (mdl_out hmy).1).1 3), ((fu_138 y (mdl_out hmy).1).1 4), (funext fun x => (fu_138 (y + 2) (mdl_out2 hmy).1).2.1 x), (funext fun x => (fu_138 (y + 1) (mdl_out1 hmy).1).2.1 x)⟩)) hW hL (lv_sub hl [0, 1, 2, 3, 4] rfl)
                by_cases c_154 : r_135 = 7
                · refine lv_tableIn (off := 41) (tgt := 200) hx hb dX9_read_159 (by rw [c_154]; decide) (by rw [c_154]; decide) (by rw [c_154]; decide) (by decide) ?_
                  obtain ⟨q, hq15, hgq, hGq, hg9⟩ := (show ∃ q, (kq b (S.1 t 1) T) (q - 1) = 15 ∧ gPa T (kq b (S.1 t 1) T) (S118.1 11 13) q ∧ GPh T (kq b (S.1 t 1) T) q 0 ∧ g9 = 0 from (by rcases GPh_i kvS.z hGh (by omega) with z | z | z | z | z; (first | (exact z.2) | (exfalso; rcases z with ⟨z, _⟩; omega)); (first | (exact z.2) | (exfalso; rcases z with ⟨z, _⟩; omega)); (first | (exact z.2) | (exfalso; rcases z with ⟨z, _⟩; omega)); (first | (exact z.2) | (exfalso; rcases z with ⟨z, _⟩; omega)); (first | (exact z.2) | (exfalso; rcases z with ⟨z, _⟩; omega))))
                  have hql := kvS.lt hq15 (by decide); have hGq : Hd _ := hGq
                  obtain ⟨qi_, b_, gi1, gi2, _⟩ := id hgq
                  have gi3 := ogI_le gi1; have gi4 := kvS.lt gi2 (by decide)
                  refine lv_aload_n hx hb dX9_read_200 rfl (lv_at hl 2 rfl) ?_
                  have q_155 : 0 ≤ S118.1 11 14 ∧ S118.1 11 14 ≤ 7 := hI118.fi 11 14 9 (by decide) rfl
                  refine sBi (sV (As := []) (rest := []) (k := 11) Cx (e_X9_tellPar l G S118 (M := M) (k := (kq b (S.1 t 1) T)) (v := (vq b (S.1 t 1) T)) (T := T) (pz := S118.1 11 13) (q := q) (o := o) hI118 hm hM hTV kvS (by omega) (by omega) (by omega) (by omega) hgq (by omega)) (c_X9_102 Cx rfl rfl (rmk_ok (by omega) (by decide))) hW (by decide) rfl rfl rfl hl.1 rfl (Nat.le_of_ble_eq_true rfl) dX9_read_201 ⟨Nat.le_of_ble_eq_true rfl, Nat.le_of_ble_eq_true rfl⟩) hL (fun r_158 u_156 H locs k_157 hW hL => ?_)
                  obtain ⟨iu_156, fu_156, xu_156⟩ := k_157
                  have F_159 := hFm118.trans (fu_156.to (fun k h => pG_I k ((fun k h => pV_G k (pU_V k h)) k h)))
                  have F_160 := hFg118.trans (fu_156.to (fun k h => pV_G k (pU_V k h)))
                  have F_161 := hL118_.trans (fu_156.to (fun k h => pV_G k (pU_V k h)))
                  have yu_156 := xu_156.1.2
                  refine lv_istore_n (lv' := [(3, .int (iv r_158)), (4, .int (iv i)), (0, .ref (G.2.2.1 + 11)), (1, .ref (G.2.2.1 + t)), (2, .ref (G.2.2.1 + o))]) hx hb dX9_read_204 rfl hl (by decide) rfl (fun ls hl => ?_)
                  refine lv_goto (tgt := 229) hx hb dX9_read_205 (by decide) ?_
                  refine lv_iinc (v := iv (i + 1)) (lv' := [(4, .int (iv (i + 1))), (3, .int (iv r_158)), (0, .ref (G.2.2.1 + 11)), (1, .ref (G.2.2.1 + t)), (2, .ref (G.2.2.1 + o))]) hx hb dX9_read_229 hl (k := 1) rfl ((Int32.ofInt_add _ _).symm) (by decide) rfl (fun ls hl => ?_)
                  refine lv_goto (tgt := 118) hx hb dX9_read_232 (by decide) ?_
                  have q_162 : 0 ≤ u_156.1 11 9 ∧ u_156.1 11 9 ≤ 128 := iu_156.fi 11 9 9 (by decide) rfl
                  have q_163 : 0 ≤ u_156.1 11 10 ∧ u_156.1 11 10 ≤ 8 := iu_156.fi 11 10 9 (by decide) rfl
                  have q_164 : 0 ≤ u_156.1 11 11 ∧ u_156.1 11 11 ≤ 12 := iu_156.fi 11 11 9 (by decide) rfl
                  have q_165 : (-2147483648) ≤ u_156.1 11 12 ∧ u_156.1 11 12 ≤ 2147483647 := iu_156.fi 11 12 9 (by decide) rfl
                  have q_166 : (-2147483648) ≤ u_156.1 11 13 ∧ u_156.1 11 13 ≤ 2147483647 := iu_156.fi 11 13 9 (by decide) rfl
                  have q_167 : 0 ≤ u_156.1 11 14 ∧ u_156.1 11 14 ≤ 7 := iu_156.fi 11 14 9 (by decide) rfl
                  have q_168 : 0 ≤ S118.1 o 2 ∧ S118.1 o 2 ≤ 12 := hI118.fi o 2 3 (mdl_k hm) hm.1
                  have lk_169 : u_156.1 o 2 = S118.1 o 2 := (fu_156 o (mdl_out hm).2.1).1 2
                  have q_170 : 0 ≤ S118.1 o 3 ∧ S118.1 o 3 ≤ 16 := hI118.fi o 3 3 (mdl_k hm) hm.1
                  have lk_171 : u_156.1 o 3 = S118.1 o 3 := (fu_156 o (mdl_out hm).2.1).1 3
                  exact ih_118 u_156 (i + 1) r_158 _ _ _ (by omega) iu_156 F_159 F_160 F_161 (by omega) (by omega) (fun h => by obtain ⟨M1, e1, hM1, p1_, f1_⟩ := xu_156.2.1 h; exact ⟨M1, hM1, (by rw [hMw, eMw_s (y := (M1, q)) kvS.z hMn (by omega) ((eSt_7 (by omega)).trans e1), p1_]), (hWX.of ((fu_156 o (mdl_out hm).2.1).1 4) ((fu_156 o (mdl_out hm).2.1).1 2) (funext fun x => (fu_156 (o + 2) (mdl_out2 hm).2.1).2.1 x) (eDp_w e1).1 (eDp_w e1).2), (by rw [p1_]; have hX9 := hX9; rw [hg9] at hX9; exact XHc.go kvS.z hMn (by omega) ((eSt_7 (by omega)).trans e1) (aSt_7 (by omega)) haw (XAc.of hX9 ((fu_156 o (mdl_out hm).2.1).1 2) ((fu_156 o (mdl_out hm).2.1).1 3) (funext fun x => (fu_156 (o + 1) (mdl_out1 hm).2.1).2.1 x) (funext fun x => (fu_156 (o + 2) (mdl_out2 hm).2.1).2.1 x)) hGq)⟩) (fun h => by obtain ⟨M1, e1, hM1, p1_, f1_⟩ := xu_156.2.1 h; have z := eSt_inc hMn ((eSt_7 (by omega) : eSt T (kq b (S.1 t 1) T) (vq b (S.1 t 1) T) M (S118.1 11 13) = _).trans e1); exact ⟨(by rw [p1_]; exact GPh.gp hGq), (by have z : S118.1 11 13 < q := z; omega), f1_⟩) (fun h => ⟨(by rw [hMw, eMw_n (by omega) ((eSt_7 (by omega)).trans (xu_156.2.2 h))]), xu_156.1.1.2 h⟩) (hyy.tr (show OTc S118 u_156 y from ⟨((fu_156 y (mdl_out hmy).2.1).1 2), ((fu_156 y (mdl_out hmy).2.1).1 3), ((fu_156 y (mdl_out hmy).2.1).1 4), (funext fun x => (fu_156 (y + 2) (mdl_out2 hmy).2.1).2.1 x), (funext fun x => (fu_156 (y + 1) (mdl_out1 hmy).2.1).2.1 x)⟩)) hW hL (lv_sub hl [0, 1, 2, 3, 4] rfl)
                by_cases c_172 : r_135 = 8
                · refine lv_tableIn (off := 49) (tgt := 208) hx hb dX9_read_159 (by rw [c_172]; decide) (by rw [c_172]; decide) (by rw [c_172]; decide) (by decide) ?_
                  obtain ⟨q, hq15, hgq, hGq, hg9⟩ := (show ∃ q, (kq b (S.1 t 1) T) (q - 1) = 15 ∧ gVa (kq b (S.1 t 1) T) (S118.1 11 13) q ∧ GPh T (kq b (S.1 t 1) T) q 0 ∧ g9 = 0 from (by rcases GPh_i kvS.z hGh (by omega) with z | z | z | z | z; (first | (exact z.2) | (exfalso; rcases z with ⟨z, _⟩; omega)); (first | (exact z.2) | (exfalso; rcases z with ⟨z, _⟩; omega)); (first | (exact z.2) | (exfalso; rcases z with ⟨z, _⟩; omega)); (first | (exact z.2) | (exfalso; rcases z with ⟨z, _⟩; omega)); (first | (exact z.2) | (exfalso; rcases z with ⟨z, _⟩; omega))))
                  have hql := kvS.lt hq15 (by decide); have hGq : Hd _ := hGq
                  obtain ⟨qi_, gi1, gi2⟩ := id hgq
                  have gi3 := ogI_le gi1; have gi4 : qi_ ≤ q - 1 := (by rcases gi2 with z | z <;> omega)
                  refine lv_aload_n hx hb dX9_read_208 rfl (lv_at hl 2 rfl) ?_
                  have q_173 : 0 ≤ S118.1 11 14 ∧ S118.1 11 14 ≤ 7 := hI118.fi 11 14 9 (by decide) rfl
                  refine sBi (sV (As := []) (rest := []) (k := 11) Cx (f_X9_tellVar l G S118 (M := M) (k := (kq b (S.1 t 1) T)) (v := (vq b (S.1 t 1) T)) (T := T) (pz := S118.1 11 13) (q := q) (o := o) hI118 hm hM hTV kvS (by omega) (by omega) (by omega) (by omega) hmy hny hgq (by omega)) (c_X9_105 Cx rfl rfl (rmk_ok (by omega) (by decide))) hW (by decide) rfl rfl rfl hl.1 rfl (Nat.le_of_ble_eq_true rfl) dX9_read_209 ⟨Nat.le_of_ble_eq_true rfl, Nat.le_of_ble_eq_true rfl⟩) hL (fun r_176 u_174 H locs k_175 hW hL => ?_)
                  obtain ⟨iu_174, fu_174, xu_174⟩ := k_175
                  have F_177 := hFm118.trans (fu_174.to pG_I)
                  have F_178 := hFg118.trans fu_174
                  have F_179 := hL118_.trans fu_174
                  obtain ⟨xu_174, ku_174, au_174, qu_174⟩ := xu_174
                  have yu_174 := xu_174.1.2
                  refine lv_istore_n (lv' := [(3, .int (iv r_176)), (4, .int (iv i)), (0, .ref (G.2.2.1 + 11)), (1, .ref (G.2.2.1 + t)), (2, .ref (G.2.2.1 + o))]) hx hb dX9_read_212 rfl hl (by decide) rfl (fun ls hl => ?_)
                  refine lv_goto (tgt := 229) hx hb dX9_read_213 (by decide) ?_
                  refine lv_iinc (v := iv (i + 1)) (lv' := [(4, .int (iv (i + 1))), (3, .int (iv r_176)), (0, .ref (G.2.2.1 + 11)), (1, .ref (G.2.2.1 + t)), (2, .ref (G.2.2.1 + o))]) hx hb dX9_read_229 hl (k := 1) rfl ((Int32.ofInt_add _ _).symm) (by decide) rfl (fun ls hl => ?_)
                  refine lv_goto (tgt := 118) hx hb dX9_read_232 (by decide) ?_
                  have q_180 : 0 ≤ u_174.1 11 9 ∧ u_174.1 11 9 ≤ 128 := iu_174.fi 11 9 9 (by decide) rfl
                  have q_181 : 0 ≤ u_174.1 11 10 ∧ u_174.1 11 10 ≤ 8 := iu_174.fi 11 10 9 (by decide) rfl
                  have q_182 : 0 ≤ u_174.1 11 11 ∧ u_174.1 11 11 ≤ 12 := iu_174.fi 11 11 9 (by decide) rfl
                  have q_183 : (-2147483648) ≤ u_174.1 11 12 ∧ u_174.1 11 12 ≤ 2147483647 := iu_174.fi 11 12 9 (by decide) rfl
                  have q_184 : (-2147483648) ≤ u_174.1 11 13 ∧ u_174.1 11 13 ≤ 2147483647 := iu_174.fi 11 13 9 (by decide) rfl
                  have q_185 : 0 ≤ u_174.1 11 14 ∧ u_174.1 11 14 ≤ 7 := iu_174.fi 11 14 9 (by decide) rfl
                  have q_186 : 0 ≤ u_174.1 o 2 ∧ u_174.1 o 2 ≤ 12 := iu_174.fi o 2 3 (mdl_k hm) hm.1
                  have q_187 : 0 ≤ u_174.1 o 3 ∧ u_174.1 o 3 ≤ 16 := iu_174.fi o 3 3 (mdl_k hm) hm.1
                  exact ih_118 u_174 (i + 1) r_176 _ _ _ (by omega) iu_174 F_177 F_178 F_179 (by omega) (by omega) (fun h => by obtain ⟨M1, e1, hM1, p1_, f1_⟩ := xu_174.2.1 h; exact ⟨M1, hM1, (by rw [hMw, eMw_s (y := (M1, q)) kvS.z hMn (by omega) ((eSt_8 (by omega)).trans e1), p1_]), (ku_174 h hWX M1 e1), (by rw [p1_]; have hX9 := hX9; rw [hg9] at hX9; exact XHc.go kvS.z hMn (by omega) ((eSt_8 (by omega)).trans e1) (aSt_8 (by omega)) haw (au_174 h X9 hX9) hGq)⟩) (fun h => by obtain ⟨M1, e1, hM1, p1_, f1_⟩ := xu_174.2.1 h; have z := eSt_inc hMn ((eSt_8 (by omega) : eSt T (kq b (S.1 t 1) T) (vq b (S.1 t 1) T) M (S118.1 11 13) = _).trans e1); exact ⟨(by rw [p1_]; exact GPh.gp hGq), (by have z : S118.1 11 13 < q := z; omega), f1_⟩) (fun h => ⟨(by rw [hMw, eMw_n (by omega) ((eSt_8 (by omega)).trans (xu_174.2.2 h))]), xu_174.1.1.2 h⟩) (hyy.tr qu_174) hW hL (lv_sub hl [0, 1, 2, 3, 4] rfl)
                by_cases c_188 : r_135 = 9
                · refine lv_tableIn (off := 65) (tgt := 224) hx hb dX9_read_159 (by rw [c_188]; decide) (by rw [c_188]; decide) (by rw [c_188]; decide) (by decide) ?_
                  obtain ⟨q, hq15, hgq, hGq, hg9⟩ := (show ∃ q, (kq b (S.1 t 1) T) (q - 1) = 15 ∧ gGo T (kq b (S.1 t 1) T) (S118.1 11 13) q ∧ GPh T (kq b (S.1 t 1) T) q 1 ∧ g9 = 0 from (by rcases GPh_i kvS.z hGh (by omega) with z | z | z | z | z; (first | (exact z.2) | (exfalso; rcases z with ⟨z, _⟩; omega)); (first | (exact z.2) | (exfalso; rcases z with ⟨z, _⟩; omega)); (first | (exact z.2) | (exfalso; rcases z with ⟨z, _⟩; omega)); (first | (exact z.2) | (exfalso; rcases z with ⟨z, _⟩; omega)); (first | (exact z.2) | (exfalso; rcases z with ⟨z, _⟩; omega))))
                  have hql := kvS.lt hq15 (by decide); have hGq : Hd _ := hGq
                  refine lv_aload_n hx hb dX9_read_224 rfl (lv_at hl 2 rfl) ?_
                  have q_189 : 0 ≤ S118.1 11 14 ∧ S118.1 11 14 ≤ 7 := hI118.fi 11 14 9 (by decide) rfl
                  refine sBi (sV (As := []) (rest := []) (k := 11) Cx (f_X9_tellGoal l G S118 (M := M) (k := (kq b (S.1 t 1) T)) (v := (vq b (S.1 t 1) T)) (T := T) (pz := S118.1 11 13) (q := q) (o := o) hI118 hm hM hTV kvS (by omega) (by omega) (by omega) (by omega) hmy hny hgq) (c_X9_111 Cx rfl rfl (rmk_ok (by omega) (by decide))) hW (by decide) rfl rfl rfl hl.1 rfl (Nat.le_of_ble_eq_true rfl) dX9_read_225 ⟨Nat.le_of_ble_eq_true rfl, Nat.le_of_ble_eq_true rfl⟩) hL (fun r_192 u_190 H locs k_191 hW hL => ?_)
                  obtain ⟨iu_190, fu_190, xu_190⟩ := k_191
                  have F_193 := hFm118.trans (fu_190.to pG_I)
                  have F_194 := hFg118.trans fu_190
                  have F_195 := hL118_.trans fu_190
                  obtain ⟨xu_190, ku_190, au_190, qu_190⟩ := xu_190
                  have yu_190 := xu_190.1.2
                  refine lv_istore_n (lv' := [(3, .int (iv r_192)), (4, .int (iv i)), (0, .ref (G.2.2.1 + 11)), (1, .ref (G.2.2.1 + t)), (2, .ref (G.2.2.1 + o))]) hx hb dX9_read_228 rfl hl (by decide) rfl (fun ls hl => ?_)
                  refine lv_iinc (v := iv (i + 1)) (lv' := [(4, .int (iv (i + 1))), (3, .int (iv r_192)), (0, .ref (G.2.2.1 + 11)), (1, .ref (G.2.2.1 + t)), (2, .ref (G.2.2.1 + o))]) hx hb dX9_read_229 hl (k := 1) rfl ((Int32.ofInt_add _ _).symm) (by decide) rfl (fun ls hl => ?_)
                  refine lv_goto (tgt := 118) hx hb dX9_read_232 (by decide) ?_
                  have q_196 : 0 ≤ u_190.1 11 9 ∧ u_190.1 11 9 ≤ 128 := iu_190.fi 11 9 9 (by decide) rfl
                  have q_197 : 0 ≤ u_190.1 11 10 ∧ u_190.1 11 10 ≤ 8 := iu_190.fi 11 10 9 (by decide) rfl
                  have q_198 : 0 ≤ u_190.1 11 11 ∧ u_190.1 11 11 ≤ 12 := iu_190.fi 11 11 9 (by decide) rfl
                  have q_199 : (-2147483648) ≤ u_190.1 11 12 ∧ u_190.1 11 12 ≤ 2147483647 := iu_190.fi 11 12 9 (by decide) rfl
                  have q_200 : (-2147483648) ≤ u_190.1 11 13 ∧ u_190.1 11 13 ≤ 2147483647 := iu_190.fi 11 13 9 (by decide) rfl
                  have q_201 : 0 ≤ u_190.1 11 14 ∧ u_190.1 11 14 ≤ 7 := iu_190.fi 11 14 9 (by decide) rfl
                  have q_202 : 0 ≤ u_190.1 o 2 ∧ u_190.1 o 2 ≤ 12 := iu_190.fi o 2 3 (mdl_k hm) hm.1
                  have q_203 : 0 ≤ u_190.1 o 3 ∧ u_190.1 o 3 ≤ 16 := iu_190.fi o 3 3 (mdl_k hm) hm.1
                  exact ih_118 u_190 (i + 1) r_192 _ _ _ (by omega) iu_190 F_193 F_194 F_195 (by omega) (by omega) (fun h => by obtain ⟨M1, e1, hM1, p1_, f1_⟩ := xu_190.2.1 h; exact ⟨M1, hM1, (by rw [hMw, eMw_s (y := (M1, q)) kvS.z hMn (by omega) ((eSt_g (by omega)).trans e1), p1_]), (ku_190 h hWX M1 e1), (by rw [p1_]; have hX9 := hX9; rw [hg9] at hX9; exact XHc.go kvS.z hMn (by omega) ((eSt_g (by omega)).trans e1) (aSt_g (by omega)) haw (au_190 h X9 hX9) hGq)⟩) (fun h => by obtain ⟨M1, e1, hM1, p1_, f1_⟩ := xu_190.2.1 h; have z := eSt_inc hMn ((eSt_g (by omega) : eSt T (kq b (S.1 t 1) T) (vq b (S.1 t 1) T) M (S118.1 11 13) = _).trans e1); exact ⟨(by rw [p1_]; exact GPh.gp hGq), (by have z : S118.1 11 13 < q := z; omega), f1_⟩) (fun h => ⟨(by rw [hMw, eMw_n (by omega) ((eSt_g (by omega)).trans (xu_190.2.2 h))]), xu_190.1.1.2 h⟩) (hyy.tr qu_190) hW hL (lv_sub hl [0, 1, 2, 3, 4] rfl)
                by_cases c_204 : r_135 = 10
                · refine lv_tableIn (off := 57) (tgt := 216) hx hb dX9_read_159 (by rw [c_204]; decide) (by rw [c_204]; decide) (by rw [c_204]; decide) (by decide) ?_
                  obtain ⟨q, hq15, hgq, hGq, hg9⟩ := (show ∃ q, (kq b (S.1 t 1) T) (q - 1) = 15 ∧ gRoc T (kq b (S.1 t 1) T) (S118.1 11 13) q ∧ GPh T (kq b (S.1 t 1) T) q 1 ∧ g9 = 1 from (by rcases GPh_i kvS.z hGh (by omega) with z | z | z | z | z; (first | (exact z.2) | (exfalso; rcases z with ⟨z, _⟩; omega)); (first | (exact z.2) | (exfalso; rcases z with ⟨z, _⟩; omega)); (first | (exact z.2) | (exfalso; rcases z with ⟨z, _⟩; omega)); (first | (exact z.2) | (exfalso; rcases z with ⟨z, _⟩; omega)); (first | (exact z.2) | (exfalso; rcases z with ⟨z, _⟩; omega))))
                  have hql := kvS.lt hq15 (by decide); have hGq : Hd _ := hGq
                  refine lv_aload_n hx hb dX9_read_216 rfl (lv_at hl 2 rfl) ?_
                  have q_205 : 0 ≤ S118.1 11 14 ∧ S118.1 11 14 ≤ 7 := hI118.fi 11 14 9 (by decide) rfl
                  refine sBi (sV (As := []) (rest := []) (k := 11) Cx (f_X9_tellRow l G S118 (M := M) (k := (kq b (S.1 t 1) T)) (v := (vq b (S.1 t 1) T)) (T := T) (pz := S118.1 11 13) (q := q) (o := o) hI118 hm hM hTV kvS (by omega) (by omega) (by omega) (by omega) hmy hny hgq) (c_X9_108 Cx rfl rfl (rmk_ok (by omega) (by decide))) hW (by decide) rfl rfl rfl hl.1 rfl (Nat.le_of_ble_eq_true rfl) dX9_read_217 ⟨Nat.le_of_ble_eq_true rfl, Nat.le_of_ble_eq_true rfl⟩) hL (fun r_208 u_206 H locs k_207 hW hL => ?_)
                  obtain ⟨iu_206, fu_206, xu_206⟩ := k_207
                  have F_209 := hFm118.trans (fu_206.to pG_I)
                  have F_210 := hFg118.trans fu_206
                  have F_211 := hL118_.trans fu_206
                  obtain ⟨xu_206, ku_206, au_206, qu_206⟩ := xu_206
                  have yu_206 := xu_206.1.2
                  refine lv_istore_n (lv' := [(3, .int (iv r_208)), (4, .int (iv i)), (0, .ref (G.2.2.1 + 11)), (1, .ref (G.2.2.1 + t)), (2, .ref (G.2.2.1 + o))]) hx hb dX9_read_220 rfl hl (by decide) rfl (fun ls hl => ?_)
                  refine lv_goto (tgt := 229) hx hb dX9_read_221 (by decide) ?_
                  refine lv_iinc (v := iv (i + 1)) (lv' := [(4, .int (iv (i + 1))), (3, .int (iv r_208)), (0, .ref (G.2.2.1 + 11)), (1, .ref (G.2.2.1 + t)), (2, .ref (G.2.2.1 + o))]) hx hb dX9_read_229 hl (k := 1) rfl ((Int32.ofInt_add _ _).symm) (by decide) rfl (fun ls hl => ?_)
                  refine lv_goto (tgt := 118) hx hb dX9_read_232 (by decide) ?_
                  have q_212 : 0 ≤ u_206.1 11 9 ∧ u_206.1 11 9 ≤ 128 := iu_206.fi 11 9 9 (by decide) rfl
                  have q_213 : 0 ≤ u_206.1 11 10 ∧ u_206.1 11 10 ≤ 8 := iu_206.fi 11 10 9 (by decide) rfl
                  have q_214 : 0 ≤ u_206.1 11 11 ∧ u_206.1 11 11 ≤ 12 := iu_206.fi 11 11 9 (by decide) rfl
                  have q_215 : (-2147483648) ≤ u_206.1 11 12 ∧ u_206.1 11 12 ≤ 2147483647 := iu_206.fi 11 12 9 (by decide) rfl
                  have q_216 : (-2147483648) ≤ u_206.1 11 13 ∧ u_206.1 11 13 ≤ 2147483647 := iu_206.fi 11 13 9 (by decide) rfl
                  have q_217 : 0 ≤ u_206.1 11 14 ∧ u_206.1 11 14 ≤ 7 := iu_206.fi 11 14 9 (by decide) rfl
                  have q_218 : 0 ≤ u_206.1 o 2 ∧ u_206.1 o 2 ≤ 12 := iu_206.fi o 2 3 (mdl_k hm) hm.1
                  have q_219 : 0 ≤ u_206.1 o 3 ∧ u_206.1 o 3 ≤ 16 := iu_206.fi o 3 3 (mdl_k hm) hm.1
                  exact ih_118 u_206 (i + 1) r_208 _ _ _ (by omega) iu_206 F_209 F_210 F_211 (by omega) (by omega) (fun h => by obtain ⟨M1, e1, hM1, p1_, f1_⟩ := xu_206.2.1 h; exact ⟨M1, hM1, (by rw [hMw, eMw_s (y := (M1, q)) kvS.z hMn (by omega) ((eSt_10 (by omega)).trans e1), p1_]), (ku_206 h hWX M1 e1), (by rw [p1_]; have hX9 := hX9; rw [hg9] at hX9; exact XHc.go kvS.z hMn (by omega) ((eSt_10 (by omega)).trans e1) (aSt_10 (by omega)) haw (au_206 h X9 hX9) hGq)⟩) (fun h => by obtain ⟨M1, e1, hM1, p1_, f1_⟩ := xu_206.2.1 h; have z := eSt_inc hMn ((eSt_10 (by omega) : eSt T (kq b (S.1 t 1) T) (vq b (S.1 t 1) T) M (S118.1 11 13) = _).trans e1); exact ⟨(by rw [p1_]; exact GPh.gp hGq), (by have z : S118.1 11 13 < q := z; omega), f1_⟩) (fun h => ⟨(by rw [hMw, eMw_n (by omega) ((eSt_10 (by omega)).trans (xu_206.2.2 h))]), xu_206.1.1.2 h⟩) (hyy.tr qu_206) hW hL (lv_sub hl [0, 1, 2, 3, 4] rfl)
                refine lv_tableOut (tgt := 224) hx hb dX9_read_159 (by rw [iv_toInt ⟨(by omega), (by omega)⟩]; omega) (by decide) ?_
                obtain ⟨q, hq15, hgq, hGq, hg9⟩ := (show ∃ q, (kq b (S.1 t 1) T) (q - 1) = 15 ∧ gGo T (kq b (S.1 t 1) T) (S118.1 11 13) q ∧ GPh T (kq b (S.1 t 1) T) q 1 ∧ g9 = 0 from (by rcases GPh_i kvS.z hGh (by omega) with z | z | z | z | z; (first | (exact z.2) | (exfalso; rcases z with ⟨z, _⟩; omega)); (first | (exact z.2) | (exfalso; rcases z with ⟨z, _⟩; omega)); (first | (exact z.2) | (exfalso; rcases z with ⟨z, _⟩; omega)); (first | (exact z.2) | (exfalso; rcases z with ⟨z, _⟩; omega)); (first | (exact z.2) | (exfalso; rcases z with ⟨z, _⟩; omega))))
                have hql := kvS.lt hq15 (by decide); have hGq : Hd _ := hGq
                refine lv_aload_n hx hb dX9_read_224 rfl (lv_at hl 2 rfl) ?_
                have q_220 : 0 ≤ S118.1 11 14 ∧ S118.1 11 14 ≤ 7 := hI118.fi 11 14 9 (by decide) rfl
                refine sBi (sV (As := []) (rest := []) (k := 11) Cx (f_X9_tellGoal l G S118 (M := M) (k := (kq b (S.1 t 1) T)) (v := (vq b (S.1 t 1) T)) (T := T) (pz := S118.1 11 13) (q := q) (o := o) hI118 hm hM hTV kvS (by omega) (by omega) (by omega) (by omega) hmy hny hgq) (c_X9_111 Cx rfl rfl (rmk_ok (by omega) (by decide))) hW (by decide) rfl rfl rfl hl.1 rfl (Nat.le_of_ble_eq_true rfl) dX9_read_225 ⟨Nat.le_of_ble_eq_true rfl, Nat.le_of_ble_eq_true rfl⟩) hL (fun r_223 u_221 H locs k_222 hW hL => ?_)
                obtain ⟨iu_221, fu_221, xu_221⟩ := k_222
                have F_224 := hFm118.trans (fu_221.to pG_I)
                have F_225 := hFg118.trans fu_221
                have F_226 := hL118_.trans fu_221
                obtain ⟨xu_221, ku_221, au_221, qu_221⟩ := xu_221
                have yu_221 := xu_221.1.2
                refine lv_istore_n (lv' := [(3, .int (iv r_223)), (4, .int (iv i)), (0, .ref (G.2.2.1 + 11)), (1, .ref (G.2.2.1 + t)), (2, .ref (G.2.2.1 + o))]) hx hb dX9_read_228 rfl hl (by decide) rfl (fun ls hl => ?_)
                refine lv_iinc (v := iv (i + 1)) (lv' := [(4, .int (iv (i + 1))), (3, .int (iv r_223)), (0, .ref (G.2.2.1 + 11)), (1, .ref (G.2.2.1 + t)), (2, .ref (G.2.2.1 + o))]) hx hb dX9_read_229 hl (k := 1) rfl ((Int32.ofInt_add _ _).symm) (by decide) rfl (fun ls hl => ?_)
                refine lv_goto (tgt := 118) hx hb dX9_read_232 (by decide) ?_
                have q_227 : 0 ≤ u_221.1 11 9 ∧ u_221.1 11 9 ≤ 128 := iu_221.fi 11 9 9 (by decide) rfl
                have q_228 : 0 ≤ u_221.1 11 10 ∧ u_221.1 11 10 ≤ 8 := iu_221.fi 11 10 9 (by decide) rfl
                have q_229 : 0 ≤ u_221.1 11 11 ∧ u_221.1 11 11 ≤ 12 := iu_221.fi 11 11 9 (by decide) rfl
                have q_230 : (-2147483648) ≤ u_221.1 11 12 ∧ u_221.1 11 12 ≤ 2147483647 := iu_221.fi 11 12 9 (by decide) rfl
                have q_231 : (-2147483648) ≤ u_221.1 11 13 ∧ u_221.1 11 13 ≤ 2147483647 := iu_221.fi 11 13 9 (by decide) rfl
                have q_232 : 0 ≤ u_221.1 11 14 ∧ u_221.1 11 14 ≤ 7 := iu_221.fi 11 14 9 (by decide) rfl
                have q_233 : 0 ≤ u_221.1 o 2 ∧ u_221.1 o 2 ≤ 12 := iu_221.fi o 2 3 (mdl_k hm) hm.1
                have q_234 : 0 ≤ u_221.1 o 3 ∧ u_221.1 o 3 ≤ 16 := iu_221.fi o 3 3 (mdl_k hm) hm.1
                exact ih_118 u_221 (i + 1) r_223 _ _ _ (by omega) iu_221 F_224 F_225 F_226 (by omega) (by omega) (fun h => by obtain ⟨M1, e1, hM1, p1_, f1_⟩ := xu_221.2.1 h; exact ⟨M1, hM1, (by rw [hMw, eMw_s (y := (M1, q)) kvS.z hMn (by omega) ((eSt_g (by omega)).trans e1), p1_]), (ku_221 h hWX M1 e1), (by rw [p1_]; have hX9 := hX9; rw [hg9] at hX9; exact XHc.go kvS.z hMn (by omega) ((eSt_g (by omega)).trans e1) (aSt_g (by omega)) haw (au_221 h X9 hX9) hGq)⟩) (fun h => by obtain ⟨M1, e1, hM1, p1_, f1_⟩ := xu_221.2.1 h; have z := eSt_inc hMn ((eSt_g (by omega) : eSt T (kq b (S.1 t 1) T) (vq b (S.1 t 1) T) M (S118.1 11 13) = _).trans e1); exact ⟨(by rw [p1_]; exact GPh.gp hGq), (by have z : S118.1 11 13 < q := z; omega), f1_⟩) (fun h => ⟨(by rw [hMw, eMw_n (by omega) ((eSt_g (by omega)).trans (xu_221.2.2 h))]), xu_221.1.1.2 h⟩) (hyy.tr qu_221) hW hL (lv_sub hl [0, 1, 2, 3, 4] rfl)
      have q_235 : 0 ≤ u_23.1 o 4 ∧ u_23.1 o 4 ≤ 1 := iu_23.fi o 4 3 (mdl_k hm) hm.1
      have lk_236 : (uF (uF (uF (uF (uF u_23 11 9 0) 11 10 0) 11 11 0) 11 12 0) 11 13 0).1 o 4 = u_23.1 o 4 := (uF_ne (fun h => absurd h.2 (by decide))).trans ((uF_ne (fun h => absurd h.2 (by decide))).trans ((uF_ne (fun h => absurd h.2 (by decide))).trans ((uF_ne (fun h => absurd h.2 (by decide))).trans (uF_ne (fun h => absurd h.2 (by decide))))))
      exact loop_118 (_ + 1) (uF (uF (uF (uF (uF u_23 11 9 0) 11 10 0) 11 11 0) 11 12 0) 11 13 0) 0 1 _ _ _ (Nat.lt_succ_self _) i_41 F_39 F_40 Fr.rf (by omega) (by omega) (fun _ => ⟨M00, MRc.zero (by omega) (by omega) (by omega) (by omega) (by omega) (by omega) ((uF_r).trans ((uF_r).trans ((uF_r).trans ((uF_r).trans ((uF_r).trans (((fu_23 11 (pM_no (tau_ne (rfl : tau 11 = .inl 9) hm.1 (fun h => by cases h)) (tau_ne (rfl : tau 11 = .inl 9) hm.2.1 (fun h => by cases h)) (tau_ne (rfl : tau 11 = .inl 9) hm.2.2.1 (fun h => by cases h)))).2.2.2 8).trans (uR_on))))))), (by rw [show (uF (uF (uF (uF (uF u_23 11 9 0) 11 10 0) 11 11 0) 11 12 0) 11 13 0).1 11 13 = 0 by omega]), ⟨(show (uF (uF (uF (uF (uF u_23 11 9 0) 11 10 0) 11 11 0) 11 12 0) 11 13 0).1 o 4 = (0 : Int) by omega), (by rw [show (uF (uF (uF (uF (uF u_23 11 9 0) 11 10 0) 11 11 0) 11 12 0) 11 13 0).1 o 2 = 0 by omega]; rfl)⟩, ⟨X00, 0, ⟨(fun _ => by omega), (fun z => absurd z (by decide)), (fun j a b => absurd b (by omega))⟩, (by rw [show (uF (uF (uF (uF (uF u_23 11 9 0) 11 10 0) 11 11 0) 11 12 0) 11 13 0).1 11 13 = 0 by omega]), (by rw [show (uF (uF (uF (uF (uF u_23 11 9 0) 11 10 0) 11 11 0) 11 12 0) 11 13 0).1 11 13 = 0 by omega]; exact ⟨d, .inl ⟨rfl, hg⟩⟩)⟩⟩) (fun _ => ⟨(by rw [show (uF (uF (uF (uF (uF u_23 11 9 0) 11 10 0) 11 11 0) 11 12 0) 11 13 0).1 11 13 = 0 by omega]; exact hGP0), by omega, by omega⟩) (fun h => absurd h (by decide)) (show OTc S (uF (uF (uF (uF (uF u_23 11 9 0) 11 10 0) 11 11 0) 11 12 0) 11 13 0) y from ⟨((uF_ne (fun h => absurd h.2 (by decide))).trans ((uF_ne (fun h => absurd h.2 (by decide))).trans ((uF_ne (fun h => absurd h.2 (by decide))).trans ((uF_ne (fun h => absurd h.2 (by decide))).trans ((uF_ne (fun h => absurd h.2 (by decide))).trans (((fu_23 y (pM_no (neD hny) (tau_ne hmy.1 hm.2.1 (fun h => by cases h)) (tau_ne hmy.1 hm.2.2.1 (fun h => by cases h)))).1 2).trans ((uR_f).trans (((fu_15 y (mdl_outQ hmy).1).1 2).trans (((fu_11 y (mdl_outQ hmy).1).1 2).trans ((uF_ne (fun h => absurd h.2 (by decide))).trans (uF_ne (fun h => absurd h.2 (by decide))))))))))))), ((uF_ne (fun h => absurd h.2 (by decide))).trans ((uF_ne (fun h => absurd h.2 (by decide))).trans ((uF_ne (fun h => absurd h.2 (by decide))).trans ((uF_ne (fun h => absurd h.2 (by decide))).trans ((uF_ne (fun h => absurd h.2 (by decide))).trans (((fu_23 y (pM_no (neD hny) (tau_ne hmy.1 hm.2.1 (fun h => by cases h)) (tau_ne hmy.1 hm.2.2.1 (fun h => by cases h)))).1 3).trans ((uR_f).trans (((fu_15 y (mdl_outQ hmy).1).1 3).trans (((fu_11 y (mdl_outQ hmy).1).1 3).trans ((uF_ne (fun h => absurd h.2 (by decide))).trans (uF_ne (fun h => absurd h.2 (by decide))))))))))))), ((uF_ne (fun h => absurd h.2 (by decide))).trans ((uF_ne (fun h => absurd h.2 (by decide))).trans ((uF_ne (fun h => absurd h.2 (by decide))).trans ((uF_ne (fun h => absurd h.2 (by decide))).trans ((uF_ne (fun h => absurd h.2 (by decide))).trans (((fu_23 y (pM_no (neD hny) (tau_ne hmy.1 hm.2.1 (fun h => by cases h)) (tau_ne hmy.1 hm.2.2.1 (fun h => by cases h)))).1 4).trans ((uR_f).trans (((fu_15 y (mdl_outQ hmy).1).1 4).trans (((fu_11 y (mdl_outQ hmy).1).1 4).trans ((uF_ne (fun h => absurd h.2 (by decide))).trans (uF_ne (fun h => absurd h.2 (by decide))))))))))))), (funext fun x => (uF_a).trans ((uF_a).trans ((uF_a).trans ((uF_a).trans ((uF_a).trans (((fu_23 (y + 2) (pM_no (tau_ne hmy.2.2.1 hm.1 (fun h => by cases h)) (tau_ne hmy.2.2.1 hm.2.1 (fun h => by cases h)) (by omega))).2.1 x).trans ((uR_a).trans (((fu_15 (y + 2) (mdl_outQ hmy).2.1).2.1 x).trans (((fu_11 (y + 2) (mdl_outQ hmy).2.1).2.1 x).trans ((uF_a).trans (uF_a))))))))))), (funext fun x => (uF_a).trans ((uF_a).trans ((uF_a).trans ((uF_a).trans ((uF_a).trans (((fu_23 (y + 1) (pM_no (tau_ne hmy.2.1 hm.1 (fun h => by cases h)) (ne1 hny) (tau_ne hmy.2.1 hm.2.2.1 (fun h => by cases h)))).2.1 x).trans ((uR_a).trans (((fu_15 (y + 1) (mdl_outQ hmy).2.2).2.1 x).trans (((fu_11 (y + 1) (mdl_outQ hmy).2.2).2.1 x).trans ((uF_a).trans (uF_a)))))))))))⟩) hW hL (lv_sub hl [0, 1, 2, 3, 4] rfl)
    · refine lv_aload_n hx hb dX9_read_55 rfl (lv_at hl 0 rfl) ?_
      refine lv_iconst (v := iv 1) hx hb dX9_read_56 (by decide) ?_
      refine p_X9_54 Cx hW hL (k := 11) (by decide) rfl dX9_read_57 (fun H locs hW hL => ?_)
      have F_237 : Fr S (uF u_15 11 14 1) pI := F_18.F rfl
      have i_238 : cX G (uF u_15 11 14 1) 0 0 0 := iu_15.F rfl rfl (show 0 ≤ 1 ∧ 1 ≤ 7 from ⟨by omega, by omega⟩)
      refine lv_aload_n hx hb dX9_read_60 rfl (lv_at hl 0 rfl) ?_
      refine lv_aload_n hx hb dX9_read_61 rfl (lv_at hl 0 rfl) ?_
      refine g_X9_14 Cx hW (k := 11) (by decide) rfl (v := .ref (G.2.2.1 + 12)) (rf_11_0 i_238) dX9_read_62 ?_
      refine sBi (sV (As := []) (rest := [.ref (G.2.2.1 + 11)]) (k := 12) Cx (s_X8_stopPlace l G (uF u_15 11 14 1)  i_238) (c_X9_71 Cx rfl rfl (rmk_ok (by omega) (by decide))) hW (by decide) rfl rfl rfl hl.1 rfl (Nat.le_of_ble_eq_true rfl) dX9_read_65 ⟨Nat.le_of_ble_eq_true rfl, Nat.le_of_ble_eq_true rfl⟩) hL (fun r_241 u_239 H locs k_240 hW hL => ?_)
      obtain ⟨eu_239, xu_239⟩ := k_240
      rw [eu_239] at hW
      refine p_X9_50 Cx hW hL (k := 11) (by decide) rfl dX9_read_68 (fun H locs hW hL => ?_)
      have F_242 : Fr S (uF (uF u_15 11 14 1) 11 16 r_241) pI := F_237.F rfl
      have i_243 : cX G (uF (uF u_15 11 14 1) 11 16 r_241) 0 0 0 := i_238.F rfl rfl (show (-2147483648) ≤ r_241 ∧ r_241 ≤ 2147483647 from ⟨by omega, by omega⟩)
      refine lv_aload_n hx hb dX9_read_71 rfl (lv_at hl 0 rfl) ?_
      refine g_X9_54 Cx hW (k := 11) (by decide) rfl (v := 1) ((uF_ne (fun h => absurd h.2 (by decide))).trans (uF_on)) dX9_read_72 ?_
      have lk_244 : (uF (uF u_15 11 14 1) 11 16 r_241).1 11 14 = 1 := (uF_ne (fun h => absurd h.2 (by decide))).trans (uF_on)
      exact sIret Cx hr hlk hW hL ⟨i_243, F_242, (an3 ⟨⟨by omega, by omega⟩, (fun h => absurd h (by omega)), (fun h => absurd h (tOK_n tq1 (by have z := xu_15.2.2.2 (by omega); rw [kde, ← hT] at z; exact z)))⟩ (show OTc S (uF (uF u_15 11 14 1) 11 16 r_241) y from ⟨((uF_ne (fun h => absurd h.2 (by decide))).trans ((uF_ne (fun h => absurd h.2 (by decide))).trans (((fu_15 y (mdl_outQ hmy).1).1 2).trans (((fu_11 y (mdl_outQ hmy).1).1 2).trans ((uF_ne (fun h => absurd h.2 (by decide))).trans (uF_ne (fun h => absurd h.2 (by decide)))))))), ((uF_ne (fun h => absurd h.2 (by decide))).trans ((uF_ne (fun h => absurd h.2 (by decide))).trans (((fu_15 y (mdl_outQ hmy).1).1 3).trans (((fu_11 y (mdl_outQ hmy).1).1 3).trans ((uF_ne (fun h => absurd h.2 (by decide))).trans (uF_ne (fun h => absurd h.2 (by decide)))))))), ((uF_ne (fun h => absurd h.2 (by decide))).trans ((uF_ne (fun h => absurd h.2 (by decide))).trans (((fu_15 y (mdl_outQ hmy).1).1 4).trans (((fu_11 y (mdl_outQ hmy).1).1 4).trans ((uF_ne (fun h => absurd h.2 (by decide))).trans (uF_ne (fun h => absurd h.2 (by decide)))))))), (funext fun x => (uF_a).trans ((uF_a).trans (((fu_15 (y + 2) (mdl_outQ hmy).2.1).2.1 x).trans (((fu_11 (y + 2) (mdl_outQ hmy).2.1).2.1 x).trans ((uF_a).trans (uF_a)))))), (funext fun x => (uF_a).trans ((uF_a).trans (((fu_15 (y + 1) (mdl_outQ hmy).2.2).2.1 x).trans (((fu_11 (y + 1) (mdl_outQ hmy).2.2).2.1 x).trans ((uF_a).trans (uF_a))))))⟩))⟩ dX9_read_75
  · refine lv_aload_n hx hb dX9_read_20 rfl (lv_at hl 0 rfl) ?_
    refine lv_iconst (v := iv 1) hx hb dX9_read_21 (by decide) ?_
    refine p_X9_54 Cx hW hL (k := 11) (by decide) rfl dX9_read_22 (fun H locs hW hL => ?_)
    have F_245 : Fr S (uF (uF (uF S 11 14 0) 11 16 ((-1))) 11 14 1) pI := F_3.F rfl
    have i_246 : cX G (uF (uF (uF S 11 14 0) 11 16 ((-1))) 11 14 1) 0 0 0 := i_4.F rfl rfl (show 0 ≤ 1 ∧ 1 ≤ 7 from ⟨by omega, by omega⟩)
    refine lv_aload_n hx hb dX9_read_25 rfl (lv_at hl 0 rfl) ?_
    refine lv_sipush (v := iv 2000) hx hb dX9_read_26 (by decide) ?_
    refine p_X9_50 Cx hW hL (k := 11) (by decide) rfl dX9_read_29 (fun H locs hW hL => ?_)
    have F_247 : Fr S (uF (uF (uF (uF S 11 14 0) 11 16 ((-1))) 11 14 1) 11 16 2000) pI := F_245.F rfl
    have i_248 : cX G (uF (uF (uF (uF S 11 14 0) 11 16 ((-1))) 11 14 1) 11 16 2000) 0 0 0 := i_246.F rfl rfl (show (-2147483648) ≤ 2000 ∧ 2000 ≤ 2147483647 from ⟨by omega, by omega⟩)
    refine lv_aload_n hx hb dX9_read_32 rfl (lv_at hl 0 rfl) ?_
    refine g_X9_54 Cx hW (k := 11) (by decide) rfl (v := 1) ((uF_ne (fun h => absurd h.2 (by decide))).trans (uF_on)) dX9_read_33 ?_
    have lk_249 : (uF (uF (uF (uF S 11 14 0) 11 16 ((-1))) 11 14 1) 11 16 2000).1 11 14 = 1 := (uF_ne (fun h => absurd h.2 (by decide))).trans (uF_on)
    exact sIret Cx hr hlk hW hL ⟨i_248, F_247, (an3 ⟨⟨by omega, by omega⟩, (fun h => absurd h (by omega)), (fun h => absurd h.1 (by omega))⟩ (show OTc S (uF (uF (uF (uF S 11 14 0) 11 16 ((-1))) 11 14 1) 11 16 2000) y from ⟨((uF_ne (fun h => absurd h.2 (by decide))).trans ((uF_ne (fun h => absurd h.2 (by decide))).trans ((uF_ne (fun h => absurd h.2 (by decide))).trans (uF_ne (fun h => absurd h.2 (by decide)))))), ((uF_ne (fun h => absurd h.2 (by decide))).trans ((uF_ne (fun h => absurd h.2 (by decide))).trans ((uF_ne (fun h => absurd h.2 (by decide))).trans (uF_ne (fun h => absurd h.2 (by decide)))))), ((uF_ne (fun h => absurd h.2 (by decide))).trans ((uF_ne (fun h => absurd h.2 (by decide))).trans ((uF_ne (fun h => absurd h.2 (by decide))).trans (uF_ne (fun h => absurd h.2 (by decide)))))), (funext fun x => (uF_a).trans ((uF_a).trans ((uF_a).trans (uF_a)))), (funext fun x => (uF_a).trans ((uF_a).trans ((uF_a).trans (uF_a))))⟩))⟩ dX9_read_36
