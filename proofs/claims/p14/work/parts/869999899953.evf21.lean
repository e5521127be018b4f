/-! What the declarations leave of max and of the whole ones -/
theorem eDs_w {v : Int → Int} {M M2 : sM} {p q : Int} (h : eDs v M p = some (M2, q)) : M2.2.2.2.2.1 = M.2.2.2.2.1 ∧ M2.2.2.2.2.2.2.1 = M.2.2.2.2.2.2.1 := by
  unfold eDs at h
  split at h
  · cases h; exact ⟨rfl, rfl⟩
  · cases h
theorem eDp_w {T : Int} {k v : Int → Int} {M M2 : sM} {p q : Int} (h : eDp T k v M p = some (M2, q)) : M2.2.2.2.2.1 = M.2.2.2.2.1 ∧ M2.2.2.2.2.2.2.1 = M.2.2.2.2.2.2.1 := by
  unfold eDp at h
  split at h
  · obtain ⟨x, h1, h⟩ := eB h; obtain ⟨b, h2, h⟩ := eB h
    split at h
    · cases h; exact ⟨rfl, rfl⟩
    · cases h
  · cases h
theorem eDr_w {T : Int} {k v : Int → Int} {M M2 : sM} {p q : Int} (h : eDr T k v M p = some (M2, q)) : M2.2.2.2.2.1 = M.2.2.2.2.1 ∧ M2.2.2.2.2.2.2.1 = M.2.2.2.2.2.2.1 := by
  unfold eDr at h
  split at h
  · obtain ⟨x, h1, h⟩ := eB h
    cases h; exact ⟨rfl, rfl⟩
  · cases h
theorem eDv_w {k v : Int → Int} {M M2 : sM} {p q s3 s4 qi z n : Int} (h1 : eFind M.1 (v (p + 1)) = -1) (e : eIx k v M.1 (p + 2) = some (s3, s4, qi)) (c : M.2.2.2.1 + siz M.1 s3 * siz M.1 s4 ≤ 12) (hn : n = siz M.1 s3 * siz M.1 s4) (hz : (z = 0 ∧ k qi ≠ 9) ∨ (z = 1 ∧ k qi = 9)) (h : eDv k v M p = some (M2, q)) : M2.2.2.2.2.1 = M.2.2.2.2.1 + (if z = 0 then 0 else n) ∧ M2.2.2.2.2.2.2.1 = M.2.2.2.2.2.2.1 := by
  rw [eDv_3 h1 e c] at h
  cases h
  refine ⟨?_, rfl⟩
  show M.2.2.2.2.1 + (if k qi = 9 then siz M.1 s3 * siz M.1 s4 else 0) = _
  rcases hz with ⟨a, b⟩ | ⟨a, b⟩
  · rw [if_neg b, a, if_pos rfl]
  · rw [if_pos b, a, if_neg (show ¬ ((1 : Int) = 0) by decide), hn]
theorem eDg_w {T : Int} {k v : Int → Int} {M M2 : sM} {p q : Int} (h : eDg T k v M p = some (M2, q)) : M2.2.2.2.2.1 = M.2.2.2.2.1 ∧ M2.2.2.2.2.2.2.1 = (if k p = 4 then 1 else 0) := by
  unfold eDg at h
  obtain ⟨x, h1, h⟩ := eB h
  cases h; exact ⟨rfl, rfl⟩
/-! The numbers of the class's model; g: whether the goal is told -/
def XAc (S : sS) (o : Nat) (g : Int) (X : sX) : Prop := (g = 0 → S.1 o 3 = 0) ∧ (g = 1 → ∀ k j, 0 ≤ k → k ≤ S.1 o 3 → 0 ≤ j → j ≤ S.1 o 2 → S.2.1 (o + 1) (13 * k + j) = X.1 k j) ∧ ∀ j, 1 ≤ j → j ≤ S.1 o 2 → S.2.1 (o + 2) j = X.2 j
theorem XAc.of {S u : sS} {o : Nat} {g : Int} {X : sX} (h : XAc S o g X) (e2 : u.1 o 2 = S.1 o 2) (e3 : u.1 o 3 = S.1 o 3) (r1 : u.2.1 (o + 1) = S.2.1 (o + 1)) (r2 : u.2.1 (o + 2) = S.2.1 (o + 2)) : XAc u o g X := by
  unfold XAc; rw [e2, e3, r1, r2]; exact h
theorem XAc.var {S u : sS} {o : Nat} {X : sX} {k v : Int → Int} {M : sM} {p s3 s4 qi z : Int} (h : XAc S o 0 X) (hix : eIx k v M.1 (p + 2) = some (s3, s4, qi)) (hn : S.1 o 2 + siz M.1 s3 * siz M.1 s4 = u.1 o 2) (hz : (z = 0 ∧ k qi ≠ 9) ∨ (z = 1 ∧ k qi = 9)) (h2 : S.1 o 2 = M.2.2.2.1) (h3 : u.1 o 3 = S.1 o 3) (hx : ∀ x, S.1 o 2 < x → x ≤ u.1 o 2 → u.2.1 (o + 2) x = z) (hl : ∀ x, x ≤ S.1 o 2 → u.2.1 (o + 2) x = S.2.1 (o + 2) x) : XAc u o 0 (X.1, wDv k v M p X.2) := by
  refine ⟨fun _ => by have := h.1 rfl; omega, fun q => absurd q (by decide), fun j a b => ?_⟩
  show u.2.1 (o + 2) j = (eIx k v M.1 (p + 2)).elim X.2 _ j
  rw [hix]
  show u.2.1 (o + 2) j = if M.2.2.2.1 < j ∧ j ≤ M.2.2.2.1 + siz M.1 s3 * siz M.1 s4 then (if k qi = 9 then 1 else 0) else X.2 j
  by_cases c : M.2.2.2.1 < j
  · rw [if_pos ⟨c, by omega⟩, hx j (by omega) b]
    rcases hz with ⟨y, q⟩ | ⟨y, q⟩
    · rw [if_neg q, y]
    · rw [if_pos q, y]
  · rw [if_neg (fun q => c q.1), hl j (by omega)]
    exact h.2.2 j a (by omega)
theorem XAc.goal {S u : sS} {o : Nat} {X : sX} {T : Int} {k v : Int → Int} {M : sM} {p t : Int} {y : sR} {f : Int → Int} (h : XAc S o 0 X) (e : eU T k (eF T k v 30 M.1) M.2.2.2.2.2.2.2 (p + 1) = some y) (ht : t = if k p = 4 then 1 else 0) (h2 : u.1 o 2 = S.1 o 2) (hn : S.1 o 2 ≤ 12) (h3 : u.1 o 3 = S.1 o 3) (r2 : u.2.1 (o + 2) = S.2.1 (o + 2)) (hf : ∀ j, 0 ≤ j → j ≤ 12 → f j = y.2.1 j) (hv : ∀ j, 0 ≤ j → j ≤ S.1 o 2 → u.2.1 (o + 1) j = gol t f j) : XAc u o 1 (aDg T k v M p X.1, X.2) := by
  refine ⟨fun q => absurd q (by decide), fun _ i j a b c d => ?_, fun j a b => by rw [r2]; exact h.2.2 j a (by omega)⟩
  have m0 := h.1 rfl
  have e0 : i = 0 := by omega
  subst e0
  show u.2.1 (o + 1) (13 * 0 + j) = (eU T k (eF T k v 30 M.1) M.2.2.2.2.2.2.2 (p + 1)).elim X.1 _ 0 j
  rw [e, show 13 * 0 + j = j by omega, hv j c (by omega), ← ht]
  show gol t f j = upA X.1 0 (gol t y.2.1) 0 j
  unfold upA gol
  rw [if_pos rfl, hf j c (by omega)]
/-- one row more -/
theorem XAc.row {S u : sS} {o : Nat} {A : Int → Int → Int} {wh d f : Int → Int} {t : Int} (h : XAc S o 1 (A, wh)) (h2 : u.1 o 2 = S.1 o 2) (hn : S.1 o 2 ≤ 12) (h3 : u.1 o 3 = S.1 o 3 + 1) (r2 : u.2.1 (o + 2) = S.2.1 (o + 2)) (hf : ∀ j, 0 ≤ j → j ≤ 12 → f j = d j) (hl : ∀ x, x < 13 * (S.1 o 3 + 1) → u.2.1 (o + 1) x = S.2.1 (o + 1) x) (hv : ∀ j, 0 ≤ j → j ≤ S.1 o 2 → u.2.1 (o + 1) (13 * (S.1 o 3 + 1) + j) = lin f t j) : XAc u o 1 (upA A (S.1 o 3 + 1) (lin d t), wh) := by
  refine ⟨fun q => absurd q (by decide), fun _ i j a b c e => ?_, fun j a b => by rw [r2]; exact h.2.2 j a (by omega)⟩
  show u.2.1 (o + 1) (13 * i + j) = upA A (S.1 o 3 + 1) (lin d t) i j
  unfold upA
  by_cases q : i = S.1 o 3 + 1
  · rw [if_pos q, q, hv j c (by omega)]
    unfold lin
    rw [hf 0 (by omega) (by omega), hf j c (by omega)]
  · rw [if_neg q, hl _ (by omega)]
    exact h.2.1 rfl i j a (by omega) c (by omega)
set_option maxRecDepth 100000 in
set_option maxHeartbeats 4000000 in
theorem f_X9_tellVar (l : Launch) (G : sG) (S : sS) {M : sM} {k v : Int → Int} {T pz q : Int} {o : Nat} {y : Nat} (hI : cX G S 0 0 0) (hm : mdl o) (hM : Hd (MRc M S G o)) (hTV : Hd (TVn k v)) (hkv : Hd (KV S k v T)) (hfk : S.1 11 14 = 0) (hat : S.1 11 13 = pz) (hpz : 0 ≤ pz ∧ pz ≤ 2000) (hqb : q ≤ 2001) (hmy : mdl y) (hny : Hd (y ≠ o)) (hg : Hd (∃ qi, ogI k (pz + 2) = some qi ∧ ((k qi = 9 ∧ q = qi + 2) ∨ (k qi ≠ 9 ∧ q = qi + 1)))) (hp2 : pz + 2 ≤ 2000) : Met l yX9_tellVar (.code yX9_tellVar cX9_tellVar 5 (some .boolean) :: tb) (rmk 4 0 0) (sPc G 294 S [.ref (G.2.2.1 + 11)]) (sQi G 294 (fun r u => cX G u 0 0 0 ∧ Fr S u pG ∧ (MOc S u G o q r (eDv k v M pz) ∧ Hd (r = 1 → WXc S o M → ∀ M2, eDv k v M pz = some (M2, q) → WXc u o M2) ∧ Hd (r = 1 → ∀ X, XAc S o 0 X → XAc u o 0 (X.1, wDv k v M pz X.2)) ∧ Hd (OTc S u y)))) 0 0 (sF G) := by
  refine sEnter (by decide) (Nat.le_of_ble_eq_true rfl) ?_
  intro p e s m args below meth c Cx hr hlk hnm hW ls hl
  have Cx : sC G p m c cX9_tellVar 5 s args RX9 := Cx
  obtain ⟨hx, hb, hml, hown, hts⟩ := id Cx.1
  have hL : sL G [] := sL_nil
  have hl : lv_has ls 5 [(0, .ref (G.2.2.1 + 11))] := hl
  have hW0 := hW
  obtain ⟨hN, hK, d0, d1, d2, d3, d4, ds, hbs, hrf⟩ := id hM
  have hkn : 0 ≤ S.1 11 9 ∧ S.1 11 9 ≤ 128 := hI.fi 11 9 9 (by decide) rfl
  have hTb : 0 ≤ S.1 12 3 ∧ S.1 12 3 ≤ 2001 := hI.fi 12 3 8 (by decide) rfl
  have hTe := hkv.2.2
  have hN1 := hN.1
  have hny1 : y ≠ o := hny
  obtain ⟨qi, hgi, hgq⟩ := hg
  have hgl := ogI_le hgi; have hgq : Hd _ := hgq; have hqi : qi ≤ 2001 := (by rcases hgq with z | z <;> omega)
  refine lv_aload_n hx hb dX9_tellVar_0 rfl (lv_at hl 0 rfl) ?_
  have q_1 : (-2147483648) ≤ S.1 11 13 ∧ S.1 11 13 ≤ 2147483647 := hI.fi 11 13 9 (by decide) rfl
  refine g_X9_89 Cx hW (k := 11) (by decide) rfl (v := S.1 11 13) rfl dX9_tellVar_1 ?_
  refine lv_iconst (v := iv 1) hx hb dX9_tellVar_4 (by decide) ?_
  refine r_iadd hx hb dX9_tellVar_5 ?_
  refine lv_istore_n (lv' := [(1, .int (iv ((S.1 11 13) + 1))), (0, .ref (G.2.2.1 + 11))]) hx hb dX9_tellVar_6 rfl hl (by decide) rfl (fun ls hl => ?_)
  refine lv_aload_n hx hb dX9_tellVar_7 rfl (lv_at hl 1 rfl) ?_
  refine lv_iload_n hx hb dX9_tellVar_8 rfl (lv_at hl 0 rfl) ?_
  refine lv_bipush (v := iv 8) hx hb dX9_tellVar_9 (by decide) ?_
  have q_2 : 0 ≤ S.1 11 10 ∧ S.1 11 10 ≤ 8 := hI.fi 11 10 9 (by decide) rfl
  have q_3 : 0 ≤ S.1 11 11 ∧ S.1 11 11 ≤ 12 := hI.fi 11 11 9 (by decide) rfl
  have q_4 : (-2147483648) ≤ S.1 11 12 ∧ S.1 11 12 ≤ 2147483647 := hI.fi 11 12 9 (by decide) rfl
  have q_5 : 0 ≤ S.1 11 9 ∧ S.1 11 9 ≤ 128 := hI.fi 11 9 9 (by decide) rfl
  have q_6 : 0 ≤ S.1 11 14 ∧ S.1 11 14 ≤ 7 := hI.fi 11 14 9 (by decide) rfl
  refine sBi (sV (As := [.int (iv ((S.1 11 13) + 1)), .int (iv 8)]) (rest := []) (k := 11) Cx (e_X9_learn l G S (tk := (S.1 11 13) + 1) (so := 8) hI (by omega) (by omega)) (c_X9_140 Cx rfl rfl (rmk_ok (by omega) (by decide))) hW (by decide) rfl rfl rfl hl.1 rfl (Nat.le_of_ble_eq_true rfl) dX9_tellVar_11 ⟨Nat.le_of_ble_eq_true rfl, Nat.le_of_ble_eq_true rfl⟩) hL (fun r_9 u_7 H locs k_8 hW hL => ?_)
  obtain ⟨iu_7, fu_7, xu_7⟩ := k_8
  have F_10 := (Fr.rf : Fr S S pG).trans (fu_7.to (fun k h => pV_G k ((fun k h => pU_V k (pT_U k h)) k h)))
  have zt : vd S (S.1 11 13 + 1) = v (pz + 1) := (by rw [hkv.2.1, hat])
  refine lv_istore_n (lv' := [(2, .int (iv r_9)), (1, .int (iv ((S.1 11 13) + 1))), (0, .ref (G.2.2.1 + 11))]) hx hb dX9_tellVar_14 rfl hl (by decide) rfl (fun ls hl => ?_)
  refine lv_iload_n hx hb dX9_tellVar_15 rfl (lv_at hl 0 rfl) ?_
  refine r_if_ge (tgt := 21) hx hb ⟨(by omega), (by omega)⟩ dX9_tellVar_16 (by decide) (fun c_11 => ?_) (fun c_11 => ?_)
  · obtain ⟨hr0, h14, hne, hle⟩ := xu_7.2.1 (by omega)
    rw [zt] at hne hle
    have hfn : eFind M.1 (v (pz + 1)) = -1 := (by rw [hN.find]; exact hne)
    have hq0 : LQ S u_7 M.1.1 (v (pz + 1)) 8 (-1) (-1) := hle.lq (by omega)
    have hk9 := hq0.1
    refine lv_aload_n hx hb dX9_tellVar_21 rfl (lv_at hl 2 rfl) ?_
    refine lv_dup hx hb dX9_tellVar_22 rfl ?_
    have q_12 : (-2147483648) ≤ u_7.1 11 13 ∧ u_7.1 11 13 ≤ 2147483647 := iu_7.fi 11 13 9 (by decide) rfl
    refine g_X9_89 Cx hW (k := 11) (by decide) rfl (v := u_7.1 11 13) rfl dX9_tellVar_23 ?_
    refine lv_iconst (v := iv 2) hx hb dX9_tellVar_26 (by decide) ?_
    refine r_iadd hx hb dX9_tellVar_27 ?_
    refine p_X9_89 Cx hW hL (k := 11) (by decide) rfl dX9_tellVar_28 (fun H locs hW hL => ?_)
    have F_13 : Fr S (uF u_7 11 13 ((u_7.1 11 13) + 2)) pG := F_10.F rfl
    have F_14 : Fr u_7 (uF u_7 11 13 ((u_7.1 11 13) + 2)) (pl [11, o, o + 1, o + 2]) := (Fr.rf : Fr u_7 u_7 (pl [11, o, o + 1, o + 2])).F pl_h
    have i_15 : cX G (uF u_7 11 13 ((u_7.1 11 13) + 2)) 0 0 0 := iu_7.F rfl rfl (show (-2147483648) ≤ (u_7.1 11 13) + 2 ∧ (u_7.1 11 13) + 2 ≤ 2147483647 from ⟨by omega, by omega⟩)
    refine lv_aload_n hx hb dX9_tellVar_31 rfl (lv_at hl 2 rfl) ?_
    refine lv_iload_n hx hb dX9_tellVar_32 rfl (lv_at hl 0 rfl) ?_
    have q_16 : 0 ≤ u_7.1 11 14 ∧ u_7.1 11 14 ≤ 7 := iu_7.fi 11 14 9 (by decide) rfl
    have lk_17 : (uF u_7 11 13 ((u_7.1 11 13) + 2)).1 11 14 = u_7.1 11 14 := uF_ne (fun h => absurd h.2 (by decide))
    have lk_18 : (uF u_7 11 13 ((u_7.1 11 13) + 2)).1 11 13 = (u_7.1 11 13) + 2 := uF_on
    have q_19 : 0 ≤ u_7.1 11 9 ∧ u_7.1 11 9 ≤ 128 := iu_7.fi 11 9 9 (by decide) rfl
    have lk_20 : (uF u_7 11 13 ((u_7.1 11 13) + 2)).1 11 9 = u_7.1 11 9 := uF_ne (fun h => absurd h.2 (by decide))
    have q_21 : 0 ≤ u_7.1 11 10 ∧ u_7.1 11 10 ≤ 8 := iu_7.fi 11 10 9 (by decide) rfl
    have lk_22 : (uF u_7 11 13 ((u_7.1 11 13) + 2)).1 11 10 = u_7.1 11 10 := uF_ne (fun h => absurd h.2 (by decide))
    have q_23 : 0 ≤ u_7.1 11 11 ∧ u_7.1 11 11 ≤ 12 := iu_7.fi 11 11 9 (by decide) rfl
    have lk_24 : (uF u_7 11 13 ((u_7.1 11 13) + 2)).1 11 11 = u_7.1 11 11 := uF_ne (fun h => absurd h.2 (by decide))
    have q_25 : (-2147483648) ≤ u_7.1 11 12 ∧ u_7.1 11 12 ≤ 2147483647 := iu_7.fi 11 12 9 (by decide) rfl
    have lk_26 : (uF u_7 11 13 ((u_7.1 11 13) + 2)).1 11 12 = u_7.1 11 12 := uF_ne (fun h => absurd h.2 (by decide))
    have kv_27 : KV (uF u_7 11 13 ((u_7.1 11 13) + 2)) k v T := hkv.fr F_13 rfl rfl rfl
    have lq_28 := LQ.of (w := (uF u_7 11 13 ((u_7.1 11 13) + 2))) hq0 (uF_ne (fun h => absurd h.2 (by decide))) (fun j => (F_14 16 (pl_c (by decide) (pl_c (tau_ne (rfl : tau 16 = .inr (.long, 128)) hm.1 (fun h => by cases h)) (pl_c (tau_ne (rfl : tau 16 = .inr (.long, 128)) hm.2.1 (fun h => by cases h)) (pl_c (tau_ne (rfl : tau 16 = .inr (.long, 128)) hm.2.2.1 (fun h => by cases h)) rfl))))).2.2.1 j) (fun j => (F_14 17 (pl_c (by decide) (pl_c (tau_ne (rfl : tau 17 = .inr (.int, 768)) hm.1 (fun h => by cases h)) (pl_c (tau_ne (rfl : tau 17 = .inr (.int, 768)) hm.2.1 (by decide)) (pl_c (tau_ne (rfl : tau 17 = .inr (.int, 768)) hm.2.2.1 (fun h => by cases h)) rfl))))).2.1 j)
    refine sBi (sV (As := [.int (iv r_9)]) (rest := []) (k := 11) Cx (e_X9_tellIndexes l G (uF u_7 11 13 ((u_7.1 11 13) + 2)) (s0 := r_9) (S0 := S) (N := M.1) (k := k) (v := v) (T := T) (pz := pz + 2) (q := qi) (x := v (pz + 1)) (so := 8) i_15 hN hK kv_27 (by omega) (by omega) (by omega) lq_28 (by omega) (by omega) (show (8 : Int) ≠ 6 by decide) hgi) (c_X9_152 Cx rfl rfl (rmk_ok (by omega) (by decide))) hW (by decide) rfl rfl rfl hl.1 rfl (Nat.le_of_ble_eq_true rfl) dX9_tellVar_33 ⟨Nat.le_of_ble_eq_true rfl, Nat.le_of_ble_eq_true rfl⟩) hL (fun r_31 u_29 H locs k_30 hW hL => ?_)
    obtain ⟨iu_29, fu_29, xu_29⟩ := k_30
    have F_32 := F_13.trans (fu_29.to (pl_s rfl (pl_s rfl pl_nil)))
    refine r_if_ne (tgt := 41) hx hb ⟨(by omega), (by omega)⟩ dX9_tellVar_36 (by decide) (fun c_33 => ?_) (fun c_33 => ?_)
    · obtain ⟨s3, s4, hix, hlq1, hpi, hfi⟩ := xu_29.2.2.1 (by omega)
      obtain ⟨hv3, hv4, hv34, hpq⟩ := eIx_i (by omega) hix
      have hv3 : Hd (SV M.1 s3) := hv3; have hv4 : Hd (SV M.1 s4) := hv4; have hv34 : Hd (s3 < 0 → s4 < 0) := hv34
      refine lv_aload_n hx hb dX9_tellVar_41 rfl (lv_at hl 2 rfl) ?_
      refine lv_iload_n hx hb dX9_tellVar_42 rfl (lv_at hl 0 rfl) ?_
      refine sBi (sV (As := [.int (iv r_9)]) (rest := []) (k := 11) Cx (e_X9_asked l G u_29 (s0 := r_9) (S0 := S) (N := M.1) (x := v (pz + 1)) (so := 8) (s3 := s3) (s4 := s4) iu_29 hN hK hlq1 (by omega) (by omega) hv3 hv4) (c_X9_156 Cx rfl rfl (rmk_ok (by omega) (by decide))) hW (by decide) rfl rfl rfl hl.1 rfl (Nat.le_of_ble_eq_true rfl) dX9_tellVar_43 ⟨Nat.le_of_ble_eq_true rfl, Nat.le_of_ble_eq_true rfl⟩) hL (fun r_36 u_34 H locs k_35 hW hL => ?_)
      obtain ⟨eu_34, xu_34⟩ := k_35
      rw [eu_34] at hW
      refine lv_istore_n (lv' := [(3, .int (iv r_36)), (2, .int (iv r_9)), (1, .int (iv ((S.1 11 13) + 1))), (0, .ref (G.2.2.1 + 11))]) hx hb dX9_tellVar_46 rfl hl (by decide) rfl (fun ls hl => ?_)
      refine lv_aload_n hx hb dX9_tellVar_47 rfl (lv_at hl 3 rfl) ?_
      refine g_X9_46 Cx hW (k := 11) (by decide) rfl (v := .ref (G.2.2.1 + o)) (((fun i => ((xu_29.1.1.1 i).trans (xu_7.1.1.1 i))) 8).trans hrf) dX9_tellVar_48 ?_
      have q_37 : 0 ≤ S.1 o 2 ∧ S.1 o 2 ≤ 12 := hI.fi o 2 3 (mdl_k hm) hm.1
      refine g_X9_159 Cx hW (k := o) (mdl_l hm) hm.1 (v := S.1 o 2) (((fu_29 o (pl_c (tau_ne hm.1 (rfl : tau 11 = .inl 9) (fun h => by cases h)) (pl_c (tau_ne hm.1 (rfl : tau 17 = .inr (.int, 768)) (fun h => by cases h)) rfl))).1 2).trans ((uF_ne (fun h => absurd h.2 (by decide))).trans ((fu_7 o (mdl_out hm).1).1 2))) dX9_tellVar_51 ?_
      refine lv_iload_n hx hb dX9_tellVar_54 rfl (lv_at hl 0 rfl) ?_
      refine r_iadd hx hb dX9_tellVar_55 ?_
      refine lv_bipush (v := iv 12) hx hb dX9_tellVar_56 (by decide) ?_
      refine r_icmp_le (tgt := 69) hx hb ⟨(by omega), (by omega)⟩ ⟨(by omega), (by omega)⟩ dX9_tellVar_58 (by decide) (fun c_38 => ?_) (fun c_38 => ?_)
      · refine lv_aload_n hx hb dX9_tellVar_69 rfl (lv_at hl 3 rfl) ?_
        refine g_X9_14 Cx hW (k := 11) (by decide) rfl (v := .ref (G.2.2.1 + 12)) (rf_11_0 iu_29) dX9_tellVar_70 ?_
        refine lv_aload_n hx hb dX9_tellVar_73 rfl (lv_at hl 3 rfl) ?_
        have q_39 : (-2147483648) ≤ u_29.1 11 13 ∧ u_29.1 11 13 ≤ 2147483647 := iu_29.fi 11 13 9 (by decide) rfl
        refine g_X9_89 Cx hW (k := 11) (by decide) rfl (v := u_29.1 11 13) rfl dX9_tellVar_74 ?_
        refine sBi (sV (As := [.int (iv (u_29.1 11 13))]) (rest := []) (k := 12) Cx (s_X8_kind l G u_29 (k := u_29.1 11 13) iu_29 (by omega)) (c_X9_95 Cx rfl rfl (rmk_ok (by omega) (by decide))) hW (by decide) rfl rfl rfl hl.1 rfl (Nat.le_of_ble_eq_true rfl) dX9_tellVar_77 ⟨Nat.le_of_ble_eq_true rfl, Nat.le_of_ble_eq_true rfl⟩) hL (fun r_42 u_40 H locs k_41 hW hL => ?_)
        obtain ⟨eu_40, xu_40⟩ := k_41
        rw [eu_40] at hW
        have kv_43 : KV u_29 k v T := hkv.fr F_32 rfl rfl rfl
        have kq : r_42 = k qi := (by rw [← kv_43.1]; exact xu_40.1.trans (congrArg (kd _) (by omega)))
        refine lv_bipush (v := iv 9) hx hb dX9_tellVar_80 (by decide) ?_
        refine r_icmp_ne (tgt := 89) hx hb ⟨(by omega), (by omega)⟩ ⟨(by omega), (by omega)⟩ dX9_tellVar_82 (by decide) (fun c_44 => ?_) (fun c_44 => ?_)
        · refine lv_iconst (v := iv 0) hx hb dX9_tellVar_89 (by decide) ?_
          refine lv_istore (lv' := [(4, .int (iv 0)), (3, .int (iv r_36)), (2, .int (iv r_9)), (1, .int (iv ((S.1 11 13) + 1))), (0, .ref (G.2.2.1 + 11))]) hx hb dX9_tellVar_90 hl (by decide) rfl (fun ls hl => ?_)
          refine lv_aload_n hx hb dX9_tellVar_92 rfl (lv_at hl 4 rfl) ?_
          refine lv_iload_n hx hb dX9_tellVar_93 rfl (lv_at hl 2 rfl) ?_
          refine lv_iconst (v := iv 5) hx hb dX9_tellVar_94 (by decide) ?_
          refine lv_aload_n hx hb dX9_tellVar_95 rfl (lv_at hl 4 rfl) ?_
          refine g_X9_46 Cx hW (k := 11) (by decide) rfl (v := .ref (G.2.2.1 + o)) (((fun i => ((xu_29.1.1.1 i).trans (xu_7.1.1.1 i))) 8).trans hrf) dX9_tellVar_96 ?_
          refine g_X9_159 Cx hW (k := o) (mdl_l hm) hm.1 (v := S.1 o 2) (((fu_29 o (pl_c (tau_ne hm.1 (rfl : tau 11 = .inl 9) (fun h => by cases h)) (pl_c (tau_ne hm.1 (rfl : tau 17 = .inr (.int, 768)) (fun h => by cases h)) rfl))).1 2).trans ((uF_ne (fun h => absurd h.2 (by decide))).trans ((fu_7 o (mdl_out hm).1).1 2))) dX9_tellVar_99 ?_
          refine lv_iconst (v := iv 1) hx hb dX9_tellVar_102 (by decide) ?_
          refine r_iadd hx hb dX9_tellVar_103 ?_
          refine sBv (sV (As := [.int (iv r_9), .int (iv 5), .int (iv ((S.1 o 2) + 1))]) (rest := []) (k := 11) Cx (s_X9_setFact l G u_29 (s0 := r_9) (q := 5) (v := (S.1 o 2) + 1) iu_29 (by omega) (by omega) (by unfold fr8; omega) (by omega)) (c_X9_136 Cx rfl rfl (rmk_ok (by omega) (by decide))) hW (by decide) rfl rfl rfl hl.1 rfl (Nat.le_of_ble_eq_true rfl) dX9_tellVar_104 ⟨Nat.le_of_ble_eq_true rfl, Nat.le_of_ble_eq_true rfl⟩) hL (fun u_45 H locs k_46 hW hL => ?_)
          obtain ⟨iu_45, fu_45, xu_45⟩ := k_46
          have F_47 := F_32.trans (fu_45.to (fun k h => pV_G k ((fun k h => pU_V k ((fun k h => pT_U k (p17_T k h)) k h)) k h)))
          have sq5 := LQ.setq hlq1 (by omega) (by omega) xu_45
          refine lv_aload_n hx hb dX9_tellVar_107 rfl (lv_at hl 4 rfl) ?_
          refine g_X9_46 Cx hW (k := 11) (by decide) rfl (v := .ref (G.2.2.1 + o)) (((fun i => (((fu_45 11 rfl).2.2.2 i).trans ((xu_29.1.1.1 i).trans (xu_7.1.1.1 i)))) 8).trans hrf) dX9_tellVar_108 ?_
          refine lv_iload_n hx hb dX9_tellVar_111 rfl (lv_at hl 1 rfl) ?_
          refine lv_iload hx hb dX9_tellVar_112 (lv_at hl 0 rfl) ?_
          have lk_48 : u_45.1 o 2 = S.1 o 2 := ((fu_45 o (p1_no (tau_ne hm.1 (rfl : tau 17 = .inr (.int, 768)) (fun h => by cases h)))).1 2).trans (((fu_29 o (pl_c (tau_ne hm.1 (rfl : tau 11 = .inl 9) (fun h => by cases h)) (pl_c (tau_ne hm.1 (rfl : tau 17 = .inr (.int, 768)) (fun h => by cases h)) rfl))).1 2).trans ((uF_ne (fun h => absurd h.2 (by decide))).trans ((fu_7 o (mdl_out hm).1).1 2)))
          have q_49 : 0 ≤ S.1 o 3 ∧ S.1 o 3 ≤ 16 := hI.fi o 3 3 (mdl_k hm) hm.1
          have lk_50 : u_45.1 o 3 = S.1 o 3 := ((fu_45 o (p1_no (tau_ne hm.1 (rfl : tau 17 = .inr (.int, 768)) (fun h => by cases h)))).1 3).trans (((fu_29 o (pl_c (tau_ne hm.1 (rfl : tau 11 = .inl 9) (fun h => by cases h)) (pl_c (tau_ne hm.1 (rfl : tau 17 = .inr (.int, 768)) (fun h => by cases h)) rfl))).1 3).trans ((uF_ne (fun h => absurd h.2 (by decide))).trans ((fu_7 o (mdl_out hm).1).1 3)))
          have q_51 : 0 ≤ S.1 o 4 ∧ S.1 o 4 ≤ 1 := hI.fi o 4 3 (mdl_k hm) hm.1
          have lk_52 : u_45.1 o 4 = S.1 o 4 := ((fu_45 o (p1_no (tau_ne hm.1 (rfl : tau 17 = .inr (.int, 768)) (fun h => by cases h)))).1 4).trans (((fu_29 o (pl_c (tau_ne hm.1 (rfl : tau 11 = .inl 9) (fun h => by cases h)) (pl_c (tau_ne hm.1 (rfl : tau 17 = .inr (.int, 768)) (fun h => by cases h)) rfl))).1 4).trans ((uF_ne (fun h => absurd h.2 (by decide))).trans ((fu_7 o (mdl_out hm).1).1 4)))
          refine sBv (sV (As := [.int (iv r_36), .int (iv 0)]) (rest := []) (k := o) Cx (f_X3_addVariables l G u_45 (o := o) (k := r_36) (z := 0) iu_45 hm (by omega) (by omega)) (c_X9_162 Cx rfl rfl (rmk_ok (by omega) (by decide))) hW (mdl_l hm) hm.1 rfl rfl hl.1 rfl (Nat.le_of_ble_eq_true rfl) dX9_tellVar_114 ⟨Nat.le_of_ble_eq_true rfl, Nat.le_of_ble_eq_true rfl⟩) hL (fun u_53 H locs k_54 hW hL => ?_)
          obtain ⟨iu_53, fu_53, xu_53⟩ := k_54
          have F_55 := F_47.trans (fu_53.to (pM_sub (mdl_pG hm).1 (mdl_pG hm).2.1 (mdl_pG hm).2.2))
          have F_56 := (Fr.rf : Fr u_45 u_45 (pl [11, o, o + 1, o + 2])).trans (fu_53.to (pM_sub (pl_t pl_h) (pl_t (pl_t pl_h)) (pl_t (pl_t (pl_t pl_h)))))
          refine lv_aload_n hx hb dX9_tellVar_117 rfl (lv_at hl 4 rfl) ?_
          refine lv_dup hx hb dX9_tellVar_118 rfl ?_
          refine g_X9_89 Cx hW (k := 11) (by decide) rfl (v := u_29.1 11 13) (((fu_53 11 (pM_no (tau_ne (rfl : tau 11 = .inl 9) hm.1 (fun h => by cases h)) (tau_ne (rfl : tau 11 = .inl 9) hm.2.1 (fun h => by cases h)) (tau_ne (rfl : tau 11 = .inl 9) hm.2.2.1 (fun h => by cases h)))).1 13).trans ((fu_45 11 rfl).1 13)) dX9_tellVar_119 ?_
          refine lv_iload hx hb dX9_tellVar_122 (lv_at hl 0 rfl) ?_
          refine r_if_eq (tgt := 131) hx hb ⟨(by omega), (by omega)⟩ dX9_tellVar_124 (by decide) (fun _ => ?_) (fun c => absurd (by omega) c)
          refine lv_iconst (v := iv 1) hx hb dX9_tellVar_131 (by decide) ?_
          refine r_iadd hx hb dX9_tellVar_132 ?_
          refine p_X9_89 Cx hW hL (k := 11) (by decide) rfl dX9_tellVar_133 (fun H locs hW hL => ?_)
          have F_57 : Fr S (uF u_53 11 13 ((u_29.1 11 13) + 1)) pG := F_55.F rfl
          have F_58 : Fr u_45 (uF u_53 11 13 ((u_29.1 11 13) + 1)) (pl [11, o, o + 1, o + 2]) := F_56.F pl_h
          have i_59 : cX G (uF u_53 11 13 ((u_29.1 11 13) + 1)) 0 0 0 := iu_53.F rfl rfl (show (-2147483648) ≤ (u_29.1 11 13) + 1 ∧ (u_29.1 11 13) + 1 ≤ 2147483647 from ⟨by omega, by omega⟩)
          refine lv_iconst (v := iv 1) hx hb dX9_tellVar_136 (by decide) ?_
          have q_60 : 0 ≤ u_29.1 11 9 ∧ u_29.1 11 9 ≤ 128 := iu_29.fi 11 9 9 (by decide) rfl
          have lk_61 : (uF u_53 11 13 ((u_29.1 11 13) + 1)).1 11 9 = u_29.1 11 9 := (uF_ne (fun h => absurd h.2 (by decide))).trans (((fu_53 11 (pM_no (tau_ne (rfl : tau 11 = .inl 9) hm.1 (fun h => by cases h)) (tau_ne (rfl : tau 11 = .inl 9) hm.2.1 (fun h => by cases h)) (tau_ne (rfl : tau 11 = .inl 9) hm.2.2.1 (fun h => by cases h)))).1 9).trans ((fu_45 11 rfl).1 9))
          have q_62 : 0 ≤ u_29.1 11 10 ∧ u_29.1 11 10 ≤ 8 := iu_29.fi 11 10 9 (by decide) rfl
          have lk_63 : (uF u_53 11 13 ((u_29.1 11 13) + 1)).1 11 10 = u_29.1 11 10 := (uF_ne (fun h => absurd h.2 (by decide))).trans (((fu_53 11 (pM_no (tau_ne (rfl : tau 11 = .inl 9) hm.1 (fun h => by cases h)) (tau_ne (rfl : tau 11 = .inl 9) hm.2.1 (fun h => by cases h)) (tau_ne (rfl : tau 11 = .inl 9) hm.2.2.1 (fun h => by cases h)))).1 10).trans ((fu_45 11 rfl).1 10))
          have q_64 : 0 ≤ u_29.1 11 11 ∧ u_29.1 11 11 ≤ 12 := iu_29.fi 11 11 9 (by decide) rfl
          have lk_65 : (uF u_53 11 13 ((u_29.1 11 13) + 1)).1 11 11 = u_29.1 11 11 := (uF_ne (fun h => absurd h.2 (by decide))).trans (((fu_53 11 (pM_no (tau_ne (rfl : tau 11 = .inl 9) hm.1 (fun h => by cases h)) (tau_ne (rfl : tau 11 = .inl 9) hm.2.1 (fun h => by cases h)) (tau_ne (rfl : tau 11 = .inl 9) hm.2.2.1 (fun h => by cases h)))).1 11).trans ((fu_45 11 rfl).1 11))
          have q_66 : (-2147483648) ≤ u_29.1 11 12 ∧ u_29.1 11 12 ≤ 2147483647 := iu_29.fi 11 12 9 (by decide) rfl
          have lk_67 : (uF u_53 11 13 ((u_29.1 11 13) + 1)).1 11 12 = u_29.1 11 12 := (uF_ne (fun h => absurd h.2 (by decide))).trans (((fu_53 11 (pM_no (tau_ne (rfl : tau 11 = .inl 9) hm.1 (fun h => by cases h)) (tau_ne (rfl : tau 11 = .inl 9) hm.2.1 (fun h => by cases h)) (tau_ne (rfl : tau 11 = .inl 9) hm.2.2.1 (fun h => by cases h)))).1 12).trans ((fu_45 11 rfl).1 12))
          have lk_68 : (uF u_53 11 13 ((u_29.1 11 13) + 1)).1 11 13 = (u_29.1 11 13) + 1 := uF_on
          have q_69 : 0 ≤ u_29.1 11 14 ∧ u_29.1 11 14 ≤ 7 := iu_29.fi 11 14 9 (by decide) rfl
          have lk_70 : (uF u_53 11 13 ((u_29.1 11 13) + 1)).1 11 14 = u_29.1 11 14 := (uF_ne (fun h => absurd h.2 (by decide))).trans (((fu_53 11 (pM_no (tau_ne (rfl : tau 11 = .inl 9) hm.1 (fun h => by cases h)) (tau_ne (rfl : tau 11 = .inl 9) hm.2.1 (fun h => by cases h)) (tau_ne (rfl : tau 11 = .inl 9) hm.2.2.1 (fun h => by cases h)))).1 14).trans ((fu_45 11 rfl).1 14))
          have q_71 : 0 ≤ u_53.1 o 2 ∧ u_53.1 o 2 ≤ 12 := iu_53.fi o 2 3 (mdl_k hm) hm.1
          have lk_72 : (uF u_53 11 13 ((u_29.1 11 13) + 1)).1 o 2 = u_53.1 o 2 := uF_ne (fun h => absurd h.2 (by decide))
          have q_73 : 0 ≤ u_53.1 o 3 ∧ u_53.1 o 3 ≤ 16 := iu_53.fi o 3 3 (mdl_k hm) hm.1
          have lk_74 : (uF u_53 11 13 ((u_29.1 11 13) + 1)).1 o 3 = u_53.1 o 3 := uF_ne (fun h => absurd h.2 (by decide))
          have lq_75 := LQ.of (w := (uF u_53 11 13 ((u_29.1 11 13) + 1))) sq5.1 ((uF_ne (fun h => absurd h.2 (by decide))).trans ((fu_53 11 (pM_no (tau_ne (rfl : tau 11 = .inl 9) hm.1 (fun h => by cases h)) (tau_ne (rfl : tau 11 = .inl 9) hm.2.1 (fun h => by cases h)) (tau_ne (rfl : tau 11 = .inl 9) hm.2.2.1 (fun h => by cases h)))).1 9)) (fun j => (F_58 16 (pl_c (by decide) (pl_c (tau_ne (rfl : tau 16 = .inr (.long, 128)) hm.1 (fun h => by cases h)) (pl_c (tau_ne (rfl : tau 16 = .inr (.long, 128)) hm.2.1 (fun h => by cases h)) (pl_c (tau_ne (rfl : tau 16 = .inr (.long, 128)) hm.2.2.1 (fun h => by cases h)) rfl))))).2.2.1 j) (fun j => (F_58 17 (pl_c (by decide) (pl_c (tau_ne (rfl : tau 17 = .inr (.int, 768)) hm.1 (fun h => by cases h)) (pl_c (tau_ne (rfl : tau 17 = .inr (.int, 768)) hm.2.1 (by decide)) (pl_c (tau_ne (rfl : tau 17 = .inr (.int, 768)) hm.2.2.1 (fun h => by cases h)) rfl))))).2.1 j)
          have q_76 : 0 ≤ u_53.1 o 4 ∧ u_53.1 o 4 ≤ 1 := iu_53.fi o 4 3 (mdl_k hm) hm.1
          have lk_77 : (uF u_53 11 13 ((u_29.1 11 13) + 1)).1 o 4 = u_53.1 o 4 := uF_ne (fun h => absurd h.2 (by decide))
          exact sZret Cx hr hlk hW hL (by omega) ⟨i_59, F_57, ⟨(by have qe : qi + (if k qi = 9 then 2 else 1) = q := (by rcases hgq with z | z; (exact absurd z.1 (by omega)); (rw [if_neg z.1]; exact z.2.symm)); exact ⟨⟨⟨(fun i => (((fu_53 11 (pM_no (tau_ne (rfl : tau 11 = .inl 9) hm.1 (fun h => by cases h)) (tau_ne (rfl : tau 11 = .inl 9) hm.2.1 (fun h => by cases h)) (tau_ne (rfl : tau 11 = .inl 9) hm.2.2.1 (fun h => by cases h)))).2.2.2 i).trans (((fu_45 11 rfl).2.2.2 i).trans ((xu_29.1.1.1 i).trans (xu_7.1.1.1 i))))), (fun h => absurd h (by decide))⟩, by omega, by omega⟩, (fun _ => ⟨_, (by rw [eDv_3 hfn hix (by rw [← xu_34.1]; omega), qe]), hM.added (f := fct 8 0 0 s3 s4 (M.2.2.2.1 + 1)) lq_75 (NF_8 hv3 hv4 hv34 ⟨(by omega), (by rw [← xu_34.1]; omega)⟩) hfn (fun j _ => (uF_a).trans (((fu_53 18 (pM_no (tau_ne (rfl : tau 18 = .inr (.int, 1728)) hm.1 (fun h => by cases h)) (tau_ne (rfl : tau 18 = .inr (.int, 1728)) hm.2.1 (by decide)) (tau_ne (rfl : tau 18 = .inr (.int, 1728)) hm.2.2.1 (fun h => by cases h)))).2.1 j).trans (((fu_45 18 rfl).2.1 j).trans (((fu_29 18 rfl).2.1 j).trans ((uF_a).trans ((fu_7 18 rfl).2.1 j)))))) (fun z => absurd (fct0.symm.trans z) (by decide)) (fun z => absurd (fct0.symm.trans z) (by decide)) (fun _ => ((((F_58 17 (pl_c (by decide) (pl_c (tau_ne (rfl : tau 17 = .inr (.int, 768)) hm.1 (fun h => by cases h)) (pl_c (tau_ne (rfl : tau 17 = .inr (.int, 768)) hm.2.1 (by decide)) (pl_c (tau_ne (rfl : tau 17 = .inr (.int, 768)) hm.2.2.1 (fun h => by cases h)) rfl))))).2.1 (M.1.1 * 6 + 5)).trans sq5.2.1).trans (show _ = M.2.2.2.1 + 1 by omega)).symm) (fun z => absurd (fct0.symm.trans z) (by decide)) (by omega) (by omega) (by rw [← xu_34.1]; omega) (by omega) (by omega) (by rw [← xu_34.1]; omega) ((fun i => (((fu_53 11 (pM_no (tau_ne (rfl : tau 11 = .inl 9) hm.1 (fun h => by cases h)) (tau_ne (rfl : tau 11 = .inl 9) hm.2.1 (fun h => by cases h)) (tau_ne (rfl : tau 11 = .inl 9) hm.2.2.1 (fun h => by cases h)))).2.2.2 i).trans (((fu_45 11 rfl).2.2.2 i).trans ((xu_29.1.1.1 i).trans (xu_7.1.1.1 i))))) 8), (by omega), (by omega)⟩), (fun h => absurd h (by decide))⟩), (fun _ hw M2 e => by have d := eDv_w (z := 0) (n := r_36) hfn hix (by rw [← xu_34.1]; omega) xu_34.1 (.inl ⟨rfl, by omega⟩) e; have y := xu_53.2.2.2.1; have y4 := xu_53.2.2.1; rw [(show u_45.2.1 (o + 2) = S.2.1 (o + 2) from funext fun x => ((fu_45 (o + 2) (p1_no (tau_ne hm.2.2.1 (rfl : tau 17 = .inr (.int, 768)) (fun h => by cases h)))).2.1 x).trans (((fu_29 (o + 2) (pl_c (tau_ne hm.2.2.1 (rfl : tau 11 = .inl 9) (fun h => by cases h)) (pl_c (tau_ne hm.2.2.1 (rfl : tau 17 = .inr (.int, 768)) (fun h => by cases h)) rfl))).2.1 x).trans ((uF_a).trans ((fu_7 (o + 2) (mdl_out2 hm).1).2.1 x)))), show u_45.1 o 2 = S.1 o 2 by omega, hw.2] at y; exact ⟨(by rw [d.2, ← hw.1]; omega), (by rw [(show (uF u_53 11 13 ((u_29.1 11 13) + 1)).2.1 (o + 2) = u_53.2.1 (o + 2) from funext fun x => uF_a), show (uF u_53 11 13 ((u_29.1 11 13) + 1)).1 o 2 = u_53.1 o 2 by omega, d.1]; exact y)⟩), (fun _ X hX => by have y5 := (show ∀ x, _ → _ → _ from xu_53.2.2.2.2.1); have y6 := (show ∀ x, _ → _ from xu_53.2.2.2.2.2.1); exact hX.var (z := 0) hix (by rw [← xu_34.1]; omega) (.inl ⟨rfl, by omega⟩) (by omega) (by omega) (fun x a b => by rw [(show (uF u_53 11 13 ((u_29.1 11 13) + 1)).2.1 (o + 2) = u_53.2.1 (o + 2) from funext fun x => uF_a)]; exact y5 x (by omega) (by omega)) (fun x a => by rw [(show (uF u_53 11 13 ((u_29.1 11 13) + 1)).2.1 (o + 2) = u_53.2.1 (o + 2) from funext fun x => uF_a), y6 x (by omega), (show u_45.2.1 (o + 2) = S.2.1 (o + 2) from funext fun x => ((fu_45 (o + 2) (p1_no (tau_ne hm.2.2.1 (rfl : tau 17 = .inr (.int, 768)) (fun h => by cases h)))).2.1 x).trans (((fu_29 (o + 2) (pl_c (tau_ne hm.2.2.1 (rfl : tau 11 = .inl 9) (fun h => by cases h)) (pl_c (tau_ne hm.2.2.1 (rfl : tau 17 = .inr (.int, 768)) (fun h => by cases h)) rfl))).2.1 x).trans ((uF_a).trans ((fu_7 (o + 2) (mdl_out2 hm).1).2.1 x))))])), (show OTc S (uF u_53 11 13 ((u_29.1 11 13) + 1)) y from ⟨((uF_ne (fun h => absurd h.2 (by decide))).trans (((fu_53 y (pM_no (neD hny) (tau_ne hmy.1 hm.2.1 (fun h => by cases h)) (tau_ne hmy.1 hm.2.2.1 (fun h => by cases h)))).1 2).trans (((fu_45 y (p1_no (tau_ne hmy.1 (rfl : tau 17 = .inr (.int, 768)) (fun h => by cases h)))).1 2).trans (((fu_29 y (pl_c (tau_ne hmy.1 (rfl : tau 11 = .inl 9) (fun h => by cases h)) (pl_c (tau_ne hmy.1 (rfl : tau 17 = .inr (.int, 768)) (fun h => by cases h)) rfl))).1 2).trans ((uF_ne (fun h => absurd h.2 (by decide))).trans ((fu_7 y (mdl_out hmy).1).1 2)))))), ((uF_ne (fun h => absurd h.2 (by decide))).trans (((fu_53 y (pM_no (neD hny) (tau_ne hmy.1 hm.2.1 (fun h => by cases h)) (tau_ne hmy.1 hm.2.2.1 (fun h => by cases h)))).1 3).trans (((fu_45 y (p1_no (tau_ne hmy.1 (rfl : tau 17 = .inr (.int, 768)) (fun h => by cases h)))).1 3).trans (((fu_29 y (pl_c (tau_ne hmy.1 (rfl : tau 11 = .inl 9) (fun h => by cases h)) (pl_c (tau_ne hmy.1 (rfl : tau 17 = .inr (.int, 768)) (fun h => by cases h)) rfl))).1 3).trans ((uF_ne (fun h => absurd h.2 (by decide))).trans ((fu_7 y (mdl_out hmy).1).1 3)))))), ((uF_ne (fun h => absurd h.2 (by decide))).trans (((fu_53 y (pM_no (neD hny) (tau_ne hmy.1 hm.2.1 (fun h => by cases h)) (tau_ne hmy.1 hm.2.2.1 (fun h => by cases h)))).1 4).trans (((fu_45 y (p1_no (tau_ne hmy.1 (rfl : tau 17 = .inr (.int, 768)) (fun h => by cases h)))).1 4).trans (((fu_29 y (pl_c (tau_ne hmy.1 (rfl : tau 11 = .inl 9) (fun h => by cases h)) (pl_c (tau_ne hmy.1 (rfl : tau 17 = .inr (.int, 768)) (fun h => by cases h)) rfl))).1 4).trans ((uF_ne (fun h => absurd h.2 (by decide))).trans ((fu_7 y (mdl_out hmy).1).1 4)))))), (funext fun x => (uF_a).trans (((fu_53 (y + 2) (pM_no (tau_ne hmy.2.2.1 hm.1 (fun h => by cases h)) (tau_ne hmy.2.2.1 hm.2.1 (fun h => by cases h)) (by omega))).2.1 x).trans (((fu_45 (y + 2) (p1_no (tau_ne hmy.2.2.1 (rfl : tau 17 = .inr (.int, 768)) (fun h => by cases h)))).2.1 x).trans (((fu_29 (y + 2) (pl_c (tau_ne hmy.2.2.1 (rfl : tau 11 = .inl 9) (fun h => by cases h)) (pl_c (tau_ne hmy.2.2.1 (rfl : tau 17 = .inr (.int, 768)) (fun h => by cases h)) rfl))).2.1 x).trans ((uF_a).trans ((fu_7 (y + 2) (mdl_out2 hmy).1).2.1 x)))))), (funext fun x => (uF_a).trans (((fu_53 (y + 1) (pM_no (tau_ne hmy.2.1 hm.1 (fun h => by cases h)) (ne1 hny) (tau_ne hmy.2.1 hm.2.2.1 (fun h => by cases h)))).2.1 x).trans (((fu_45 (y + 1) (p1_no (tau_ne hmy.2.1 (rfl : tau 17 = .inr (.int, 768)) (by decide)))).2.1 x).trans (((fu_29 (y + 1) (pl_c (tau_ne hmy.2.1 (rfl : tau 11 = .inl 9) (fun h => by cases h)) (pl_c (tau_ne hmy.2.1 (rfl : tau 17 = .inr (.int, 768)) (by decide)) rfl))).2.1 x).trans ((uF_a).trans ((fu_7 (y + 1) (mdl_out1 hmy).1).2.1 x))))))⟩)⟩⟩ dX9_tellVar_137
        · refine lv_iconst (v := iv 1) hx hb dX9_tellVar_85 (by decide) ?_
          refine lv_goto (tgt := 90) hx hb dX9_tellVar_86 (by decide) ?_
          refine lv_istore (lv' := [(4, .int (iv 1)), (3, .int (iv r_36)), (2, .int (iv r_9)), (1, .int (iv ((S.1 11 13) + 1))), (0, .ref (G.2.2.1 + 11))]) hx hb dX9_tellVar_90 hl (by decide) rfl (fun ls hl => ?_)
          refine lv_aload_n hx hb dX9_tellVar_92 rfl (lv_at hl 4 rfl) ?_
          refine lv_iload_n hx hb dX9_tellVar_93 rfl (lv_at hl 2 rfl) ?_
          refine lv_iconst (v := iv 5) hx hb dX9_tellVar_94 (by decide) ?_
          refine lv_aload_n hx hb dX9_tellVar_95 rfl (lv_at hl 4 rfl) ?_
          refine g_X9_46 Cx hW (k := 11) (by decide) rfl (v := .ref (G.2.2.1 + o)) (((fun i => ((xu_29.1.1.1 i).trans (xu_7.1.1.1 i))) 8).trans hrf) dX9_tellVar_96 ?_
          refine g_X9_159 Cx hW (k := o) (mdl_l hm) hm.1 (v := S.1 o 2) (((fu_29 o (pl_c (tau_ne hm.1 (rfl : tau 11 = .inl 9) (fun h => by cases h)) (pl_c (tau_ne hm.1 (rfl : tau 17 = .inr (.int, 768)) (fun h => by cases h)) rfl))).1 2).trans ((uF_ne (fun h => absurd h.2 (by decide))).trans ((fu_7 o (mdl_out hm).1).1 2))) dX9_tellVar_99 ?_
          refine lv_iconst (v := iv 1) hx hb dX9_tellVar_102 (by decide) ?_
          refine r_iadd hx hb dX9_tellVar_103 ?_
          refine sBv (sV (As := [.int (iv r_9), .int (iv 5), .int (iv ((S.1 o 2) + 1))]) (rest := []) (k := 11) Cx (s_X9_setFact l G u_29 (s0 := r_9) (q := 5) (v := (S.1 o 2) + 1) iu_29 (by omega) (by omega) (by unfold fr8; omega) (by omega)) (c_X9_136 Cx rfl rfl (rmk_ok (by omega) (by decide))) hW (by decide) rfl rfl rfl hl.1 rfl (Nat.le_of_ble_eq_true rfl) dX9_tellVar_104 ⟨Nat.le_of_ble_eq_true rfl, Nat.le_of_ble_eq_true rfl⟩) hL (fun u_78 H locs k_79 hW hL => ?_)
          obtain ⟨iu_78, fu_78, xu_78⟩ := k_79
          have F_80 := F_32.trans (fu_78.to (fun k h => pV_G k ((fun k h => pU_V k ((fun k h => pT_U k (p17_T k h)) k h)) k h)))
          have sq5 := LQ.setq hlq1 (by omega) (by omega) xu_78
          refine lv_aload_n hx hb dX9_tellVar_107 rfl (lv_at hl 4 rfl) ?_
          refine g_X9_46 Cx hW (k := 11) (by decide) rfl (v := .ref (G.2.2.1 + o)) (((fun i => (((fu_78 11 rfl).2.2.2 i).trans ((xu_29.1.1.1 i).trans (xu_7.1.1.1 i)))) 8).trans hrf) dX9_tellVar_108 ?_
          refine lv_iload_n hx hb dX9_tellVar_111 rfl (lv_at hl 1 rfl) ?_
          refine lv_iload hx hb dX9_tellVar_112 (lv_at hl 0 rfl) ?_
          have lk_81 : u_78.1 o 2 = S.1 o 2 := ((fu_78 o (p1_no (tau_ne hm.1 (rfl : tau 17 = .inr (.int, 768)) (fun h => by cases h)))).1 2).trans (((fu_29 o (pl_c (tau_ne hm.1 (rfl : tau 11 = .inl 9) (fun h => by cases h)) (pl_c (tau_ne hm.1 (rfl : tau 17 = .inr (.int, 768)) (fun h => by cases h)) rfl))).1 2).trans ((uF_ne (fun h => absurd h.2 (by decide))).trans ((fu_7 o (mdl_out hm).1).1 2)))
          have q_82 : 0 ≤ S.1 o 3 ∧ S.1 o 3 ≤ 16 := hI.fi o 3 3 (mdl_k hm) hm.1
          have lk_83 : u_78.1 o 3 = S.1 o 3 := ((fu_78 o (p1_no (tau_ne hm.1 (rfl : tau 17 = .inr (.int, 768)) (fun h => by cases h)))).1 3).trans (((fu_29 o (pl_c (tau_ne hm.1 (rfl : tau 11 = .inl 9) (fun h => by cases h)) (pl_c (tau_ne hm.1 (rfl : tau 17 = .inr (.int, 768)) (fun h => by cases h)) rfl))).1 3).trans ((uF_ne (fun h => absurd h.2 (by decide))).trans ((fu_7 o (mdl_out hm).1).1 3)))
          have q_84 : 0 ≤ S.1 o 4 ∧ S.1 o 4 ≤ 1 := hI.fi o 4 3 (mdl_k hm) hm.1
          have lk_85 : u_78.1 o 4 = S.1 o 4 := ((fu_78 o (p1_no (tau_ne hm.1 (rfl : tau 17 = .inr (.int, 768)) (fun h => by cases h)))).1 4).trans (((fu_29 o (pl_c (tau_ne hm.1 (rfl : tau 11 = .inl 9) (fun h => by cases h)) (pl_c (tau_ne hm.1 (rfl : tau 17 = .inr (.int, 768)) (fun h => by cases h)) rfl))).1 4).trans ((uF_ne (fun h => absurd h.2 (by decide))).trans ((fu_7 o (mdl_out hm).1).1 4)))
          refine sBv (sV (As := [.int (iv r_36), .int (iv 1)]) (rest := []) (k := o) Cx (f_X3_addVariables l G u_78 (o := o) (k := r_36) (z := 1) iu_78 hm (by omega) (by omega)) (c_X9_162 Cx rfl rfl (rmk_ok (by omega) (by decide))) hW (mdl_l hm) hm.1 rfl rfl hl.1 rfl (Nat.le_of_ble_eq_true rfl) dX9_tellVar_114 ⟨Nat.le_of_ble_eq_true rfl, Nat.le_of_ble_eq_true rfl⟩) hL (fun u_86 H locs k_87 hW hL => ?_)
          obtain ⟨iu_86, fu_86, xu_86⟩ := k_87
          have F_88 := F_80.trans (fu_86.to (pM_sub (mdl_pG hm).1 (mdl_pG hm).2.1 (mdl_pG hm).2.2))
          have F_89 := (Fr.rf : Fr u_78 u_78 (pl [11, o, o + 1, o + 2])).trans (fu_86.to (pM_sub (pl_t pl_h) (pl_t (pl_t pl_h)) (pl_t (pl_t (pl_t pl_h)))))
          refine lv_aload_n hx hb dX9_tellVar_117 rfl (lv_at hl 4 rfl) ?_
          refine lv_dup hx hb dX9_tellVar_118 rfl ?_
          refine g_X9_89 Cx hW (k := 11) (by decide) rfl (v := u_29.1 11 13) (((fu_86 11 (pM_no (tau_ne (rfl : tau 11 = .inl 9) hm.1 (fun h => by cases h)) (tau_ne (rfl : tau 11 = .inl 9) hm.2.1 (fun h => by cases h)) (tau_ne (rfl : tau 11 = .inl 9) hm.2.2.1 (fun h => by cases h)))).1 13).trans ((fu_78 11 rfl).1 13)) dX9_tellVar_119 ?_
          refine lv_iload hx hb dX9_tellVar_122 (lv_at hl 0 rfl) ?_
          refine r_if_eq (tgt := 131) hx hb ⟨(by omega), (by omega)⟩ dX9_tellVar_124 (by decide) (fun c => absurd c (by omega)) (fun _ => ?_)
          refine lv_iconst (v := iv 2) hx hb dX9_tellVar_127 (by decide) ?_
          refine lv_goto (tgt := 132) hx hb dX9_tellVar_128 (by decide) ?_
          refine r_iadd hx hb dX9_tellVar_132 ?_
          refine p_X9_89 Cx hW hL (k := 11) (by decide) rfl dX9_tellVar_133 (fun H locs hW hL => ?_)
          have F_90 : Fr S (uF u_86 11 13 ((u_29.1 11 13) + 2)) pG := F_88.F rfl
          have F_91 : Fr u_78 (uF u_86 11 13 ((u_29.1 11 13) + 2)) (pl [11, o, o + 1, o + 2]) := F_89.F pl_h
          have i_92 : cX G (uF u_86 11 13 ((u_29.1 11 13) + 2)) 0 0 0 := iu_86.F rfl rfl (show (-2147483648) ≤ (u_29.1 11 13) + 2 ∧ (u_29.1 11 13) + 2 ≤ 2147483647 from ⟨by omega, by omega⟩)
          refine lv_iconst (v := iv 1) hx hb dX9_tellVar_136 (by decide) ?_
          have q_93 : 0 ≤ u_29.1 11 9 ∧ u_29.1 11 9 ≤ 128 := iu_29.fi 11 9 9 (by decide) rfl
          have lk_94 : (uF u_86 11 13 ((u_29.1 11 13) + 2)).1 11 9 = u_29.1 11 9 := (uF_ne (fun h => absurd h.2 (by decide))).trans (((fu_86 11 (pM_no (tau_ne (rfl : tau 11 = .inl 9) hm.1 (fun h => by cases h)) (tau_ne (rfl : tau 11 = .inl 9) hm.2.1 (fun h => by cases h)) (tau_ne (rfl : tau 11 = .inl 9) hm.2.2.1 (fun h => by cases h)))).1 9).trans ((fu_78 11 rfl).1 9))
          have q_95 : 0 ≤ u_29.1 11 10 ∧ u_29.1 11 10 ≤ 8 := iu_29.fi 11 10 9 (by decide) rfl
          have lk_96 : (uF u_86 11 13 ((u_29.1 11 13) + 2)).1 11 10 = u_29.1 11 10 := (uF_ne (fun h => absurd h.2 (by decide))).trans (((fu_86 11 (pM_no (tau_ne (rfl : tau 11 = .inl 9) hm.1 (fun h => by cases h)) (tau_ne (rfl : tau 11 = .inl 9) hm.2.1 (fun h => by cases h)) (tau_ne (rfl : tau 11 = .inl 9) hm.2.2.1 (fun h => by cases h)))).1 10).trans ((fu_78 11 rfl).1 10))
          have q_97 : 0 ≤ u_29.1 11 11 ∧ u_29.1 11 11 ≤ 12 := iu_29.fi 11 11 9 (by decide) rfl
          have lk_98 : (uF u_86 11 13 ((u_29.1 11 13) + 2)).1 11 11 = u_29.1 11 11 := (uF_ne (fun h => absurd h.2 (by decide))).trans (((fu_86 11 (pM_no (tau_ne (rfl : tau 11 = .inl 9) hm.1 (fun h => by cases h)) (tau_ne (rfl : tau 11 = .inl 9) hm.2.1 (fun h => by cases h)) (tau_ne (rfl : tau 11 = .inl 9) hm.2.2.1 (fun h => by cases h)))).1 11).trans ((fu_78 11 rfl).1 11))
          have q_99 : (-2147483648) ≤ u_29.1 11 12 ∧ u_29.1 11 12 ≤ 2147483647 := iu_29.fi 11 12 9 (by decide) rfl
          have lk_100 : (uF u_86 11 13 ((u_29.1 11 13) + 2)).1 11 12 = u_29.1 11 12 := (uF_ne (fun h => absurd h.2 (by decide))).trans (((fu_86 11 (pM_no (tau_ne (rfl : tau 11 = .inl 9) hm.1 (fun h => by cases h)) (tau_ne (rfl : tau 11 = .inl 9) hm.2.1 (fun h => by cases h)) (tau_ne (rfl : tau 11 = .inl 9) hm.2.2.1 (fun h => by cases h)))).1 12).trans ((fu_78 11 rfl).1 12))
          have lk_101 : (uF u_86 11 13 ((u_29.1 11 13) + 2)).1 11 13 = (u_29.1 11 13) + 2 := uF_on
          have q_102 : 0 ≤ u_29.1 11 14 ∧ u_29.1 11 14 ≤ 7 := iu_29.fi 11 14 9 (by decide) rfl
          have lk_103 : (uF u_86 11 13 ((u_29.1 11 13) + 2)).1 11 14 = u_29.1 11 14 := (uF_ne (fun h => absurd h.2 (by decide))).trans (((fu_86 11 (pM_no (tau_ne (rfl : tau 11 = .inl 9) hm.1 (fun h => by cases h)) (tau_ne (rfl : tau 11 = .inl 9) hm.2.1 (fun h => by cases h)) (tau_ne (rfl : tau 11 = .inl 9) hm.2.2.1 (fun h => by cases h)))).1 14).trans ((fu_78 11 rfl).1 14))
          have q_104 : 0 ≤ u_86.1 o 2 ∧ u_86.1 o 2 ≤ 12 := iu_86.fi o 2 3 (mdl_k hm) hm.1
          have lk_105 : (uF u_86 11 13 ((u_29.1 11 13) + 2)).1 o 2 = u_86.1 o 2 := uF_ne (fun h => absurd h.2 (by decide))
          have q_106 : 0 ≤ u_86.1 o 3 ∧ u_86.1 o 3 ≤ 16 := iu_86.fi o 3 3 (mdl_k hm) hm.1
          have lk_107 : (uF u_86 11 13 ((u_29.1 11 13) + 2)).1 o 3 = u_86.1 o 3 := uF_ne (fun h => absurd h.2 (by decide))
          have lq_108 := LQ.of (w := (uF u_86 11 13 ((u_29.1 11 13) + 2))) sq5.1 ((uF_ne (fun h => absurd h.2 (by decide))).trans ((fu_86 11 (pM_no (tau_ne (rfl : tau 11 = .inl 9) hm.1 (fun h => by cases h)) (tau_ne (rfl : tau 11 = .inl 9) hm.2.1 (fun h => by cases h)) (tau_ne (rfl : tau 11 = .inl 9) hm.2.2.1 (fun h => by cases h)))).1 9)) (fun j => (F_91 16 (pl_c (by decide) (pl_c (tau_ne (rfl : tau 16 = .inr (.long, 128)) hm.1 (fun h => by cases h)) (pl_c (tau_ne (rfl : tau 16 = .inr (.long, 128)) hm.2.1 (fun h => by cases h)) (pl_c (tau_ne (rfl : tau 16 = .inr (.long, 128)) hm.2.2.1 (fun h => by cases h)) rfl))))).2.2.1 j) (fun j => (F_91 17 (pl_c (by decide) (pl_c (tau_ne (rfl : tau 17 = .inr (.int, 768)) hm.1 (fun h => by cases h)) (pl_c (tau_ne (rfl : tau 17 = .inr (.int, 768)) hm.2.1 (by decide)) (pl_c (tau_ne (rfl : tau 17 = .inr (.int, 768)) hm.2.2.1 (fun h => by cases h)) rfl))))).2.1 j)
          have q_109 : 0 ≤ u_86.1 o 4 ∧ u_86.1 o 4 ≤ 1 := iu_86.fi o 4 3 (mdl_k hm) hm.1
          have lk_110 : (uF u_86 11 13 ((u_29.1 11 13) + 2)).1 o 4 = u_86.1 o 4 := uF_ne (fun h => absurd h.2 (by decide))
          exact sZret Cx hr hlk hW hL (by omega) ⟨i_92, F_90, ⟨(by have qe : qi + (if k qi = 9 then 2 else 1) = q := (by rcases hgq with z | z; (rw [if_pos z.1]; exact z.2.symm); (exact absurd (by omega) z.1)); exact ⟨⟨⟨(fun i => (((fu_86 11 (pM_no (tau_ne (rfl : tau 11 = .inl 9) hm.1 (fun h => by cases h)) (tau_ne (rfl : tau 11 = .inl 9) hm.2.1 (fun h => by cases h)) (tau_ne (rfl : tau 11 = .inl 9) hm.2.2.1 (fun h => by cases h)))).2.2.2 i).trans (((fu_78 11 rfl).2.2.2 i).trans ((xu_29.1.1.1 i).trans (xu_7.1.1.1 i))))), (fun h => absurd h (by decide))⟩, by omega, by omega⟩, (fun _ => ⟨_, (by rw [eDv_3 hfn hix (by rw [← xu_34.1]; omega), qe]), hM.added (f := fct 8 0 0 s3 s4 (M.2.2.2.1 + 1)) lq_108 (NF_8 hv3 hv4 hv34 ⟨(by omega), (by rw [← xu_34.1]; omega)⟩) hfn (fun j _ => (uF_a).trans (((fu_86 18 (pM_no (tau_ne (rfl : tau 18 = .inr (.int, 1728)) hm.1 (fun h => by cases h)) (tau_ne (rfl : tau 18 = .inr (.int, 1728)) hm.2.1 (by decide)) (tau_ne (rfl : tau 18 = .inr (.int, 1728)) hm.2.2.1 (fun h => by cases h)))).2.1 j).trans (((fu_78 18 rfl).2.1 j).trans (((fu_29 18 rfl).2.1 j).trans ((uF_a).trans ((fu_7 18 rfl).2.1 j)))))) (fun z => absurd (fct0.symm.trans z) (by decide)) (fun z => absurd (fct0.symm.trans z) (by decide)) (fun _ => ((((F_91 17 (pl_c (by decide) (pl_c (tau_ne (rfl : tau 17 = .inr (.int, 768)) hm.1 (fun h => by cases h)) (pl_c (tau_ne (rfl : tau 17 = .inr (.int, 768)) hm.2.1 (by decide)) (pl_c (tau_ne (rfl : tau 17 = .inr (.int, 768)) hm.2.2.1 (fun h => by cases h)) rfl))))).2.1 (M.1.1 * 6 + 5)).trans sq5.2.1).trans (show _ = M.2.2.2.1 + 1 by omega)).symm) (fun z => absurd (fct0.symm.trans z) (by decide)) (by omega) (by omega) (by rw [← xu_34.1]; omega) (by omega) (by omega) (by rw [← xu_34.1]; omega) ((fun i => (((fu_86 11 (pM_no (tau_ne (rfl : tau 11 = .inl 9) hm.1 (fun h => by cases h)) (tau_ne (rfl : tau 11 = .inl 9) hm.2.1 (fun h => by cases h)) (tau_ne (rfl : tau 11 = .inl 9) hm.2.2.1 (fun h => by cases h)))).2.2.2 i).trans (((fu_78 11 rfl).2.2.2 i).trans ((xu_29.1.1.1 i).trans (xu_7.1.1.1 i))))) 8), (by omega), (by omega)⟩), (fun h => absurd h (by decide))⟩), (fun _ hw M2 e => by have d := eDv_w (z := 1) (n := r_36) hfn hix (by rw [← xu_34.1]; omega) xu_34.1 (.inr ⟨rfl, by omega⟩) e; have y := xu_86.2.2.2.1; have y4 := xu_86.2.2.1; rw [(show u_78.2.1 (o + 2) = S.2.1 (o + 2) from funext fun x => ((fu_78 (o + 2) (p1_no (tau_ne hm.2.2.1 (rfl : tau 17 = .inr (.int, 768)) (fun h => by cases h)))).2.1 x).trans (((fu_29 (o + 2) (pl_c (tau_ne hm.2.2.1 (rfl : tau 11 = .inl 9) (fun h => by cases h)) (pl_c (tau_ne hm.2.2.1 (rfl : tau 17 = .inr (.int, 768)) (fun h => by cases h)) rfl))).2.1 x).trans ((uF_a).trans ((fu_7 (o + 2) (mdl_out2 hm).1).2.1 x)))), show u_78.1 o 2 = S.1 o 2 by omega, hw.2] at y; exact ⟨(by rw [d.2, ← hw.1]; omega), (by rw [(show (uF u_86 11 13 ((u_29.1 11 13) + 2)).2.1 (o + 2) = u_86.2.1 (o + 2) from funext fun x => uF_a), show (uF u_86 11 13 ((u_29.1 11 13) + 2)).1 o 2 = u_86.1 o 2 by omega, d.1]; exact y)⟩), (fun _ X hX => by have y5 := (show ∀ x, _ → _ → _ from xu_86.2.2.2.2.1); have y6 := (show ∀ x, _ → _ from xu_86.2.2.2.2.2.1); exact hX.var (z := 1) hix (by rw [← xu_34.1]; omega) (.inr ⟨rfl, by omega⟩) (by omega) (by omega) (fun x a b => by rw [(show (uF u_86 11 13 ((u_29.1 11 13) + 2)).2.1 (o + 2) = u_86.2.1 (o + 2) from funext fun x => uF_a)]; exact y5 x (by omega) (by omega)) (fun x a => by rw [(show (uF u_86 11 13 ((u_29.1 11 13) + 2)).2.1 (o + 2) = u_86.2.1 (o + 2) from funext fun x => uF_a), y6 x (by omega), (show u_78.2.1 (o + 2) = S.2.1 (o + 2) from funext fun x => ((fu_78 (o + 2) (p1_no (tau_ne hm.2.2.1 (rfl : tau 17 = .inr (.int, 768)) (fun h => by cases h)))).2.1 x).trans (((fu_29 (o + 2) (pl_c (tau_ne hm.2.2.1 (rfl : tau 11 = .inl 9) (fun h => by cases h)) (pl_c (tau_ne hm.2.2.1 (rfl : tau 17 = .inr (.int, 768)) (fun h => by cases h)) rfl))).2.1 x).trans ((uF_a).trans ((fu_7 (o + 2) (mdl_out2 hm).1).2.1 x))))])), (show OTc S (uF u_86 11 13 ((u_29.1 11 13) + 2)) y from ⟨((uF_ne (fun h => absurd h.2 (by decide))).trans (((fu_86 y (pM_no (neD hny) (tau_ne hmy.1 hm.2.1 (fun h => by cases h)) (tau_ne hmy.1 hm.2.2.1 (fun h => by cases h)))).1 2).trans (((fu_78 y (p1_no (tau_ne hmy.1 (rfl : tau 17 = .inr (.int, 768)) (fun h => by cases h)))).1 2).trans (((fu_29 y (pl_c (tau_ne hmy.1 (rfl : tau 11 = .inl 9) (fun h => by cases h)) (pl_c (tau_ne hmy.1 (rfl : tau 17 = .inr (.int, 768)) (fun h => by cases h)) rfl))).1 2).trans ((uF_ne (fun h => absurd h.2 (by decide))).trans ((fu_7 y (mdl_out hmy).1).1 2)))))), ((uF_ne (fun h => absurd h.2 (by decide))).trans (((fu_86 y (pM_no (neD hny) (tau_ne hmy.1 hm.2.1 (fun h => by cases h)) (tau_ne hmy.1 hm.2.2.1 (fun h => by cases h)))).1 3).trans (((fu_78 y (p1_no (tau_ne hmy.1 (rfl : tau 17 = .inr (.int, 768)) (fun h => by cases h)))).1 3).trans (((fu_29 y (pl_c (tau_ne hmy.1 (rfl : tau 11 = .inl 9) (fun h => by cases h)) (pl_c (tau_ne hmy.1 (rfl : tau 17 = .inr (.int, 768)) (fun h => by cases h)) rfl))).1 3).trans ((uF_ne (fun h => absurd h.2 (by decide))).trans ((fu_7 y (mdl_out hmy).1).1 3)))))), ((uF_ne (fun h => absurd h.2 (by decide))).trans (((fu_86 y (pM_no (neD hny) (tau_ne hmy.1 hm.2.1 (fun h => by cases h)) (tau_ne hmy.1 hm.2.2.1 (fun h => by cases h)))).1 4).trans (((fu_78 y (p1_no (tau_ne hmy.1 (rfl : tau 17 = .inr (.int, 768)) (fun h => by cases h)))).1 4).trans (((fu_29 y (pl_c (tau_ne hmy.1 (rfl : tau 11 = .inl 9) (fun h => by cases h)) (pl_c (tau_ne hmy.1 (rfl : tau 17 = .inr (.int, 768)) (fun h => by cases h)) rfl))).1 4).trans ((uF_ne (fun h => absurd h.2 (by decide))).trans ((fu_7 y (mdl_out hmy).1).1 4)))))), (funext fun x => (uF_a).trans (((fu_86 (y + 2) (pM_no (tau_ne hmy.2.2.1 hm.1 (fun h => by cases h)) (tau_ne hmy.2.2.1 hm.2.1 (fun h => by cases h)) (by omega))).2.1 x).trans (((fu_78 (y + 2) (p1_no (tau_ne hmy.2.2.1 (rfl : tau 17 = .inr (.int, 768)) (fun h => by cases h)))).2.1 x).trans (((fu_29 (y + 2) (pl_c (tau_ne hmy.2.2.1 (rfl : tau 11 = .inl 9) (fun h => by cases h)) (pl_c (tau_ne hmy.2.2.1 (rfl : tau 17 = .inr (.int, 768)) (fun h => by cases h)) rfl))).2.1 x).trans ((uF_a).trans ((fu_7 (y + 2) (mdl_out2 hmy).1).2.1 x)))))), (funext fun x => (uF_a).trans (((fu_86 (y + 1) (pM_no (tau_ne hmy.2.1 hm.1 (fun h => by cases h)) (ne1 hny) (tau_ne hmy.2.1 hm.2.2.1 (fun h => by cases h)))).2.1 x).trans (((fu_78 (y + 1) (p1_no (tau_ne hmy.2.1 (rfl : tau 17 = .inr (.int, 768)) (by decide)))).2.1 x).trans (((fu_29 (y + 1) (pl_c (tau_ne hmy.2.1 (rfl : tau 11 = .inl 9) (fun h => by cases h)) (pl_c (tau_ne hmy.2.1 (rfl : tau 17 = .inr (.int, 768)) (by decide)) rfl))).2.1 x).trans ((uF_a).trans ((fu_7 (y + 1) (mdl_out1 hmy).1).2.1 x))))))⟩)⟩⟩ dX9_tellVar_137
      · refine lv_aload_n hx hb dX9_tellVar_61 rfl (lv_at hl 3 rfl) ?_
        refine lv_bipush (v := iv 7) hx hb dX9_tellVar_62 (by decide) ?_
        refine lv_iload_n hx hb dX9_tellVar_64 rfl (lv_at hl 2 rfl) ?_
        have q_111 : (-2147483648) ≤ u_29.1 11 13 ∧ u_29.1 11 13 ≤ 2147483647 := iu_29.fi 11 13 9 (by decide) rfl
        have q_112 : 0 ≤ u_29.1 11 9 ∧ u_29.1 11 9 ≤ 128 := iu_29.fi 11 9 9 (by decide) rfl
        have q_113 : 0 ≤ u_29.1 11 10 ∧ u_29.1 11 10 ≤ 8 := iu_29.fi 11 10 9 (by decide) rfl
        have q_114 : 0 ≤ u_29.1 11 11 ∧ u_29.1 11 11 ≤ 12 := iu_29.fi 11 11 9 (by decide) rfl
        have q_115 : (-2147483648) ≤ u_29.1 11 12 ∧ u_29.1 11 12 ≤ 2147483647 := iu_29.fi 11 12 9 (by decide) rfl
        refine sBi (sV (As := [.int (iv 7), .int (iv ((S.1 11 13) + 1))]) (rest := []) (k := 11) Cx (e_X9_fail l G u_29 (k := 7) (tk := (S.1 11 13) + 1) iu_29 (by omega) (by omega)) (c_X9_132 Cx rfl rfl (rmk_ok (by omega) (by decide))) hW (by decide) rfl rfl rfl hl.1 rfl (Nat.le_of_ble_eq_true rfl) dX9_tellVar_65 ⟨Nat.le_of_ble_eq_true rfl, Nat.le_of_ble_eq_true rfl⟩) hL (fun r_118 u_116 H locs k_117 hW hL => ?_)
        obtain ⟨iu_116, fu_116, xu_116⟩ := k_117
        have F_119 := F_32.trans (fu_116.to (fun k h => pV_G k ((fun k h => pU_V k ((fun k h => pT_U k (p11_T k h)) k h)) k h)))
        have F_120 := (Fr.rf : Fr u_29 u_29 (pl [11, o, o + 1, o + 2])).trans (fu_116.to (p1_sub pl_h))
        have q_121 : 0 ≤ u_116.1 11 9 ∧ u_116.1 11 9 ≤ 128 := iu_116.fi 11 9 9 (by decide) rfl
        have q_122 : 0 ≤ u_116.1 11 10 ∧ u_116.1 11 10 ≤ 8 := iu_116.fi 11 10 9 (by decide) rfl
        have q_123 : 0 ≤ u_116.1 11 11 ∧ u_116.1 11 11 ≤ 12 := iu_116.fi 11 11 9 (by decide) rfl
        have q_124 : (-2147483648) ≤ u_116.1 11 12 ∧ u_116.1 11 12 ≤ 2147483647 := iu_116.fi 11 12 9 (by decide) rfl
        have q_125 : (-2147483648) ≤ u_116.1 11 13 ∧ u_116.1 11 13 ≤ 2147483647 := iu_116.fi 11 13 9 (by decide) rfl
        have q_126 : 0 ≤ u_116.1 11 14 ∧ u_116.1 11 14 ≤ 7 := iu_116.fi 11 14 9 (by decide) rfl
        have lk_127 : u_116.1 o 2 = S.1 o 2 := ((fu_116 o (p1_no (tau_ne hm.1 (rfl : tau 11 = .inl 9) (fun h => by cases h)))).1 2).trans (((fu_29 o (pl_c (tau_ne hm.1 (rfl : tau 11 = .inl 9) (fun h => by cases h)) (pl_c (tau_ne hm.1 (rfl : tau 17 = .inr (.int, 768)) (fun h => by cases h)) rfl))).1 2).trans ((uF_ne (fun h => absurd h.2 (by decide))).trans ((fu_7 o (mdl_out hm).1).1 2)))
        have q_128 : 0 ≤ S.1 o 3 ∧ S.1 o 3 ≤ 16 := hI.fi o 3 3 (mdl_k hm) hm.1
        have lk_129 : u_116.1 o 3 = S.1 o 3 := ((fu_116 o (p1_no (tau_ne hm.1 (rfl : tau 11 = .inl 9) (fun h => by cases h)))).1 3).trans (((fu_29 o (pl_c (tau_ne hm.1 (rfl : tau 11 = .inl 9) (fun h => by cases h)) (pl_c (tau_ne hm.1 (rfl : tau 17 = .inr (.int, 768)) (fun h => by cases h)) rfl))).1 3).trans ((uF_ne (fun h => absurd h.2 (by decide))).trans ((fu_7 o (mdl_out hm).1).1 3)))
        exact sZret Cx hr hlk hW hL (by omega) ⟨iu_116, F_119, ⟨⟨⟨⟨(fun i => ((xu_116.2.2.2.2.2.2.2 i).trans ((xu_29.1.1.1 i).trans (xu_7.1.1.1 i)))), (fun _ => by first | omega | exact xu_116.1.1.2 (by omega))⟩, by omega, by omega⟩, (fun h => absurd h (by omega)), (fun _ => (eDv_2 hfn hix (by rw [← xu_34.1]; omega)))⟩, (fun h => absurd h (by omega)), (fun h => absurd h (by omega)), (show OTc S u_116 y from ⟨(((fu_116 y (p1_no (tau_ne hmy.1 (rfl : tau 11 = .inl 9) (fun h => by cases h)))).1 2).trans (((fu_29 y (pl_c (tau_ne hmy.1 (rfl : tau 11 = .inl 9) (fun h => by cases h)) (pl_c (tau_ne hmy.1 (rfl : tau 17 = .inr (.int, 768)) (fun h => by cases h)) rfl))).1 2).trans ((uF_ne (fun h => absurd h.2 (by decide))).trans ((fu_7 y (mdl_out hmy).1).1 2)))), (((fu_116 y (p1_no (tau_ne hmy.1 (rfl : tau 11 = .inl 9) (fun h => by cases h)))).1 3).trans (((fu_29 y (pl_c (tau_ne hmy.1 (rfl : tau 11 = .inl 9) (fun h => by cases h)) (pl_c (tau_ne hmy.1 (rfl : tau 17 = .inr (.int, 768)) (fun h => by cases h)) rfl))).1 3).trans ((uF_ne (fun h => absurd h.2 (by decide))).trans ((fu_7 y (mdl_out hmy).1).1 3)))), (((fu_116 y (p1_no (tau_ne hmy.1 (rfl : tau 11 = .inl 9) (fun h => by cases h)))).1 4).trans (((fu_29 y (pl_c (tau_ne hmy.1 (rfl : tau 11 = .inl 9) (fun h => by cases h)) (pl_c (tau_ne hmy.1 (rfl : tau 17 = .inr (.int, 768)) (fun h => by cases h)) rfl))).1 4).trans ((uF_ne (fun h => absurd h.2 (by decide))).trans ((fu_7 y (mdl_out hmy).1).1 4)))), (funext fun x => ((fu_116 (y + 2) (p1_no (tau_ne hmy.2.2.1 (rfl : tau 11 = .inl 9) (fun h => by cases h)))).2.1 x).trans (((fu_29 (y + 2) (pl_c (tau_ne hmy.2.2.1 (rfl : tau 11 = .inl 9) (fun h => by cases h)) (pl_c (tau_ne hmy.2.2.1 (rfl : tau 17 = .inr (.int, 768)) (fun h => by cases h)) rfl))).2.1 x).trans ((uF_a).trans ((fu_7 (y + 2) (mdl_out2 hmy).1).2.1 x)))), (funext fun x => ((fu_116 (y + 1) (p1_no (tau_ne hmy.2.1 (rfl : tau 11 = .inl 9) (fun h => by cases h)))).2.1 x).trans (((fu_29 (y + 1) (pl_c (tau_ne hmy.2.1 (rfl : tau 11 = .inl 9) (fun h => by cases h)) (pl_c (tau_ne hmy.2.1 (rfl : tau 17 = .inr (.int, 768)) (by decide)) rfl))).2.1 x).trans ((uF_a).trans ((fu_7 (y + 1) (mdl_out1 hmy).1).2.1 x))))⟩)⟩⟩ dX9_tellVar_68
    · refine lv_iconst (v := iv 0) hx hb dX9_tellVar_39 (by decide) ?_
      have q_130 : 0 ≤ u_29.1 11 9 ∧ u_29.1 11 9 ≤ 128 := iu_29.fi 11 9 9 (by decide) rfl
      have q_131 : 0 ≤ u_29.1 11 10 ∧ u_29.1 11 10 ≤ 8 := iu_29.fi 11 10 9 (by decide) rfl
      have q_132 : 0 ≤ u_29.1 11 11 ∧ u_29.1 11 11 ≤ 12 := iu_29.fi 11 11 9 (by decide) rfl
      have q_133 : (-2147483648) ≤ u_29.1 11 12 ∧ u_29.1 11 12 ≤ 2147483647 := iu_29.fi 11 12 9 (by decide) rfl
      have q_134 : (-2147483648) ≤ u_29.1 11 13 ∧ u_29.1 11 13 ≤ 2147483647 := iu_29.fi 11 13 9 (by decide) rfl
      have q_135 : 0 ≤ u_29.1 11 14 ∧ u_29.1 11 14 ≤ 7 := iu_29.fi 11 14 9 (by decide) rfl
      have q_136 : 0 ≤ S.1 o 2 ∧ S.1 o 2 ≤ 12 := hI.fi o 2 3 (mdl_k hm) hm.1
      have lk_137 : u_29.1 o 2 = S.1 o 2 := ((fu_29 o (pl_c (tau_ne hm.1 (rfl : tau 11 = .inl 9) (fun h => by cases h)) (pl_c (tau_ne hm.1 (rfl : tau 17 = .inr (.int, 768)) (fun h => by cases h)) rfl))).1 2).trans ((uF_ne (fun h => absurd h.2 (by decide))).trans ((fu_7 o (mdl_out hm).1).1 2))
      have q_138 : 0 ≤ S.1 o 3 ∧ S.1 o 3 ≤ 16 := hI.fi o 3 3 (mdl_k hm) hm.1
      have lk_139 : u_29.1 o 3 = S.1 o 3 := ((fu_29 o (pl_c (tau_ne hm.1 (rfl : tau 11 = .inl 9) (fun h => by cases h)) (pl_c (tau_ne hm.1 (rfl : tau 17 = .inr (.int, 768)) (fun h => by cases h)) rfl))).1 3).trans ((uF_ne (fun h => absurd h.2 (by decide))).trans ((fu_7 o (mdl_out hm).1).1 3))
      exact sZret Cx hr hlk hW hL (by omega) ⟨iu_29, F_32, ⟨⟨⟨⟨(fun i => ((xu_29.1.1.1 i).trans (xu_7.1.1.1 i))), (fun _ => by first | omega | exact xu_29.1.1.2 (by omega))⟩, by omega, by omega⟩, (fun h => absurd h (by omega)), (fun _ => (eDv_1 hfn (xu_29.2.2.2 (by omega))))⟩, (fun h => absurd h (by omega)), (fun h => absurd h (by omega)), (show OTc S u_29 y from ⟨(((fu_29 y (pl_c (tau_ne hmy.1 (rfl : tau 11 = .inl 9) (fun h => by cases h)) (pl_c (tau_ne hmy.1 (rfl : tau 17 = .inr (.int, 768)) (fun h => by cases h)) rfl))).1 2).trans ((uF_ne (fun h => absurd h.2 (by decide))).trans ((fu_7 y (mdl_out hmy).1).1 2))), (((fu_29 y (pl_c (tau_ne hmy.1 (rfl : tau 11 = .inl 9) (fun h => by cases h)) (pl_c (tau_ne hmy.1 (rfl : tau 17 = .inr (.int, 768)) (fun h => by cases h)) rfl))).1 3).trans ((uF_ne (fun h => absurd h.2 (by decide))).trans ((fu_7 y (mdl_out hmy).1).1 3))), (((fu_29 y (pl_c (tau_ne hmy.1 (rfl : tau 11 = .inl 9) (fun h => by cases h)) (pl_c (tau_ne hmy.1 (rfl : tau 17 = .inr (.int, 768)) (fun h => by cases h)) rfl))).1 4).trans ((uF_ne (fun h => absurd h.2 (by decide))).trans ((fu_7 y (mdl_out hmy).1).1 4))), (funext fun x => ((fu_29 (y + 2) (pl_c (tau_ne hmy.2.2.1 (rfl : tau 11 = .inl 9) (fun h => by cases h)) (pl_c (tau_ne hmy.2.2.1 (rfl : tau 17 = .inr (.int, 768)) (fun h => by cases h)) rfl))).2.1 x).trans ((uF_a).trans ((fu_7 (y + 2) (mdl_out2 hmy).1).2.1 x))), (funext fun x => ((fu_29 (y + 1) (pl_c (tau_ne hmy.2.1 (rfl : tau 11 = .inl 9) (fun h => by cases h)) (pl_c (tau_ne hmy.2.1 (rfl : tau 17 = .inr (.int, 768)) (by decide)) rfl))).2.1 x).trans ((uF_a).trans ((fu_7 (y + 1) (mdl_out1 hmy).1).2.1 x)))⟩)⟩⟩ dX9_tellVar_40
  · refine lv_iconst (v := iv 0) hx hb dX9_tellVar_19 (by decide) ?_
    have q_140 : 0 ≤ u_7.1 11 9 ∧ u_7.1 11 9 ≤ 128 := iu_7.fi 11 9 9 (by decide) rfl
    have q_141 : 0 ≤ u_7.1 11 10 ∧ u_7.1 11 10 ≤ 8 := iu_7.fi 11 10 9 (by decide) rfl
    have q_142 : 0 ≤ u_7.1 11 11 ∧ u_7.1 11 11 ≤ 12 := iu_7.fi 11 11 9 (by decide) rfl
    have q_143 : (-2147483648) ≤ u_7.1 11 12 ∧ u_7.1 11 12 ≤ 2147483647 := iu_7.fi 11 12 9 (by decide) rfl
    have q_144 : (-2147483648) ≤ u_7.1 11 13 ∧ u_7.1 11 13 ≤ 2147483647 := iu_7.fi 11 13 9 (by decide) rfl
    have q_145 : 0 ≤ u_7.1 11 14 ∧ u_7.1 11 14 ≤ 7 := iu_7.fi 11 14 9 (by decide) rfl
    have q_146 : 0 ≤ S.1 o 2 ∧ S.1 o 2 ≤ 12 := hI.fi o 2 3 (mdl_k hm) hm.1
    have lk_147 : u_7.1 o 2 = S.1 o 2 := (fu_7 o (mdl_out hm).1).1 2
    have q_148 : 0 ≤ S.1 o 3 ∧ S.1 o 3 ≤ 16 := hI.fi o 3 3 (mdl_k hm) hm.1
    have lk_149 : u_7.1 o 3 = S.1 o 3 := (fu_7 o (mdl_out hm).1).1 3
    exact sZret Cx hr hlk hW hL (by omega) ⟨iu_7, F_10, ⟨⟨⟨⟨(fun i => (xu_7.1.1.1 i)), (fun _ => by first | omega | exact xu_7.1.1.2 (by omega))⟩, by omega, by omega⟩, (fun h => absurd h (by omega)), (fun _ => (by have q0 : 0 ≤ eFind M.1 (v (pz + 1)) := (by rw [hN.find]; rcases xu_7.2.2 (by omega) with z | z; (rw [zt] at z; exact z); (exfalso; omega)); exact eDv_0 (by omega)))⟩, (fun h => absurd h (by omega)), (fun h => absurd h (by omega)), (show OTc S u_7 y from ⟨((fu_7 y (mdl_out hmy).1).1 2), ((fu_7 y (mdl_out hmy).1).1 3), ((fu_7 y (mdl_out hmy).1).1 4), (funext fun x => (fu_7 (y + 2) (mdl_out2 hmy).1).2.1 x), (funext fun x => (fu_7 (y + 1) (mdl_out1 hmy).1).2.1 x)⟩)⟩⟩ dX9_tellVar_20
