/-- the models, 11 and the rows of thirteen -/
def pRm (k : Nat) : Bool := decide (k = 11 ∨ (20 ≤ k ∧ k ≤ 118) ∨ (5 ≤ k ∧ k ≤ 10) ∨ (185 ≤ k ∧ k ≤ 187) ∨ (228 ≤ k ∧ k ≤ 230))
theorem lr_Rm {q : Nat} (h : lr q) : pRm q = true := decide_eq_true (.inr (.inl ⟨h.2.1, by have := h.2.2; omega⟩))
theorem mdl_Rm {o : Nat} (m : mdl o) : pRm o = true ∧ pRm (o + 1) = true ∧ pRm (o + 2) = true := by
  have a : ∀ o, o < 231 → tau o = .inl 3 → pRm o = true ∧ pRm (o + 1) = true ∧ pRm (o + 2) = true := by decide +kernel
  exact a o (mdl_k m) m.1
theorem pEx_o {a b c k : Nat} (h : pV k = false) : pEx a b c k = false := by
  cases e : pEx a b c k with
  | false => rfl
  | true => rw [pEx_V k e] at h; cases h
/-! rows -/
section ERO
variable {T : Int} {k v : Int → Int} {N : sN} {m lk p a1 l1 b1 l2 val hi lo q x y0 : Int} {V W : Int → Int}
theorem eRo_1 (h : eU T k (eF T k v 30 N) lk p = none) : eRo T k v N m lk p = none := by unfold eRo; rw [h]; rfl
theorem eRo_2 (h : eU T k (eF T k v 30 N) lk p = some (a1, V, l1)) (h2 : eU T k (eF T k v 30 N) l1 (a1 + 1) = none) : eRo T k v N m lk p = none := by
  unfold eRo; rw [h, Option.bind_some]; show (eU T k (eF T k v 30 N) l1 (a1 + 1)).bind _ = none; rw [h2]; rfl
theorem eRo_3 (h : eU T k (eF T k v 30 N) lk p = some (a1, V, l1)) (h2 : eU T k (eF T k v 30 N) l1 (a1 + 1) = some (b1, W, l2)) (g : grt (vad V W (-1)) ∨ 16 < m + (if k a1 = 13 then 2 else 1)) : eRo T k v N m lk p = none := by
  unfold eRo; rw [h, Option.bind_some]; show (eU T k (eF T k v 30 N) l1 (a1 + 1)).bind _ = none; rw [h2, Option.bind_some]; exact if_pos g
theorem eRo_4 (h : eU T k (eF T k v 30 N) lk p = some (a1, V, l1)) (h2 : eU T k (eF T k v 30 N) l1 (a1 + 1) = some (b1, W, l2)) (g : ¬ grt (vad V W (-1))) (g2 : m + (if k a1 = 13 then 2 else 1) ≤ 16) : eRo T k v N m lk p = some (m + (if k a1 = 13 then 2 else 1), l2, b1 + 1) := by
  unfold eRo; rw [h, Option.bind_some]; show (eU T k (eF T k v 30 N) l1 (a1 + 1)).bind _ = _; rw [h2, Option.bind_some]
  exact if_neg (fun z => by rcases z with z | z; (exact g z); (have z : 16 < m + (if k a1 = 13 then 2 else 1) := z; omega))
theorem eRn_z (h : hi + 1 = val) : eRn T k v N x p (hi + 1 - val).toNat val m lk q = some (m, lk, q) := by
  rw [show (hi + 1 - val).toNat = 0 by omega]; rfl
theorem eRn_n (h : val ≤ hi) (e : eRo T k v (push N x val) m lk p = none) : eRn T k v N x p (hi + 1 - val).toNat val m lk q = none := by
  rw [show (hi + 1 - val).toNat = (hi - val).toNat + 1 by omega]; show (eRo T k v (push N x val) m lk p).bind _ = none; rw [e]; rfl
theorem eRn_s {m' lk' q' : Int} (h : val ≤ hi) (e : eRo T k v (push N x val) m lk p = some (m', lk', q')) : eRn T k v N x p (hi + 1 - val).toNat val m lk q = eRn T k v N x p (hi + 1 - (val + 1)).toNat (val + 1) m' lk' q' := by
  rw [show (hi + 1 - val).toNat = (hi + 1 - (val + 1)).toNat + 1 by omega]; show (eRo T k v (push N x val) m lk p).bind _ = _; rw [e]; rfl
theorem eRn_p (h : val ≤ hi) : eRn T k v N x p (hi + 1 - val).toNat val m lk q = eRn T k v N x p (hi + 1 - val).toNat val m lk y0 := by
  rw [show (hi + 1 - val).toNat = (hi - val).toNat + 1 by omega]; rfl
end ERO
def rN (M : sM) (x : Int) : sN := addN M.1 x (fct 10 0 0 (-1) (-1) 0) (fun _ => 0)
def rM (M : sM) (x : Int) (y : Int × Int × Int) : sM := (rN M x, M.2.1, M.2.2.1, M.2.2.2.1, M.2.2.2.2.1, y.1, M.2.2.2.2.2.2.1, y.2.1)
section EDR
variable {T : Int} {k v : Int → Int} {M : sM} {p s lo hi : Int}
theorem eDr_0 (h : eFind M.1 (v (p + 1)) ≠ -1) : eDr T k v M p = none := if_neg h
theorem eDr_1 (h : eFind M.1 (v (p + 1)) = -1) (c : k (p + 2) ≠ 17) : eDr T k v M p = (eRo T k v (rN M (v (p + 1))) M.2.2.2.2.2.1 M.2.2.2.2.2.2.2 (p + 3)).bind (fun y => some (rM M (v (p + 1)) y, y.2.2)) := by
  unfold eDr; rw [if_pos h, if_neg c]; rfl
theorem eDr_2 (h : eFind M.1 (v (p + 1)) = -1) (c : k (p + 2) = 17) (d : ¬ (eFind (rN M (v (p + 1))) (v (p + 3)) = -1 ∧ isS (rN M (v (p + 1))) (v (p + 5)))) : eDr T k v M p = none := by
  unfold rN at d; unfold eDr; rw [if_pos h, if_pos c, if_neg d]; rfl
theorem eDr_3 (h0 : 0 ≤ M.1.1) (h : eFind M.1 (v (p + 1)) = -1) (c : k (p + 2) = 17) (d : eFind (rN M (v (p + 1))) (v (p + 3)) = -1) (e : isS (rN M (v (p + 1))) (v (p + 5))) (hs : s = eFind (rN M (v (p + 1))) (v (p + 5))) (hlo : lo = M.1.2.2.1 s 1) (hhi : hi = M.1.2.2.1 s 2) : eDr T k v M p = (eRn T k v (rN M (v (p + 1))) (v (p + 3)) (p + 8) (hi + 1 - lo).toNat lo M.2.2.2.2.2.1 M.2.2.2.2.2.2.2 (p + 8)).bind (fun y => some (rM M (v (p + 1)) y, y.2.2)) := by
  have e2 : isS M.1 (v (p + 5)) := (isS_add h0 (by decide)).mp e
  have e3 : eFind M.1 (v (p + 5)) = s := by rw [hs]; exact (eFind_add_s h0 e2).symm
  unfold eDr; rw [if_pos h, if_pos c, if_pos ⟨d, e⟩, e3]
  have e4 : siz M.1 s = hi + 1 - lo := by
    unfold siz; rw [if_neg (by have := e2.1; rw [e3] at this; omega)]; omega
  rw [e4, ← hlo]; rfl
end EDR
theorem MRc.row {M : sM} {S u : sS} {G : sG} {o : Nat} {x m lk : Int} {q : Int} (h : MRc M S G o) (hn : eFind M.1 x = -1) (hN : NRc (rN M x) u) (c0 : u.1 11 10 = S.1 11 10) (c1 : u.1 11 11 = S.1 11 11) (c2 : u.1 o 2 = S.1 o 2) (c3 : u.1 o 3 = m ∧ S.1 o 3 < m ∧ m ≤ 16) (c4 : u.1 11 12 = lk ∧ 0 ≤ lk ∧ lk ≤ 20000) (rk : u.2.2.2 11 8 = S.2.2.2 11 8) : MRc (rM M x (m, lk, q)) u G o := by
  obtain ⟨hN0, hK, d0, d1, d2, d3, d4, ds, hb, hr⟩ := h
  have n1 := hN0.1
  refine ⟨hN, hK.added n1.2.1 hn NF_10, ⟨c0.trans d0.1, d0.2⟩, ⟨c1.trans d1.1, d1.2⟩, ⟨c2.trans d2.1, d2.2⟩, ⟨c3.1, by show 0 ≤ m; omega, c3.2.2⟩, c4, ?_, fun s s0 s1 z => ?_, rk.trans hr⟩
  · show M.1.1 + 1 ≤ M.2.1 + M.2.2.1 + M.2.2.2.1 + m; omega
  · have s1 : s < M.1.1 + 1 := s1
    have z : (addN M.1 x (fct 10 0 0 (-1) (-1) 0) (fun _ => 0)).2.2.1 s 0 = 7 := z
    show (addN M.1 x (fct 10 0 0 (-1) (-1) 0) (fun _ => 0)).2.2.1 s 5 + siz (addN M.1 x (fct 10 0 0 (-1) (-1) 0) (fun _ => 0)) ((addN M.1 x (fct 10 0 0 (-1) (-1) 0) (fun _ => 0)).2.2.1 s 3) * siz (addN M.1 x (fct 10 0 0 (-1) (-1) 0) (fun _ => 0)) ((addN M.1 x (fct 10 0 0 (-1) (-1) 0) (fun _ => 0)).2.2.1 s 4) ≤ 144 * M.2.2.1
    by_cases c : s = M.1.1
    · rw [c, add_n] at z; exact absurd z (by decide)
    · rw [add_o c] at z ⊢
      rw [siz_add (hK.lt n1.2.1 s0 (by omega) (.inl z) (.inl rfl)), siz_add (hK.lt n1.2.1 s0 (by omega) (.inl z) (.inr rfl))]
      exact hb s s0 (by omega) z
theorem MRc.goal {M : sM} {S u : sS} {G : sG} {o : Nat} {mx lk : Int} (h : MRc M S G o) (hN : NRc M.1 u) (c0 : u.1 11 10 = S.1 11 10) (c1 : u.1 11 11 = S.1 11 11) (c2 : u.1 o 2 = S.1 o 2) (c3 : u.1 o 3 = S.1 o 3) (c4 : u.1 11 12 = lk ∧ 0 ≤ lk ∧ lk ≤ 20000) (rk : u.2.2.2 11 8 = S.2.2.2 11 8) : MRc (M.1, M.2.1, M.2.2.1, M.2.2.2.1, M.2.2.2.2.1, M.2.2.2.2.2.1, mx, lk) u G o := by
  obtain ⟨hN0, hK, d0, d1, d2, d3, d4, ds, hb, hr⟩ := h
  exact ⟨hN, hK, ⟨c0.trans d0.1, d0.2⟩, ⟨c1.trans d1.1, d1.2⟩, ⟨c2.trans d2.1, d2.2⟩, ⟨c3.trans d3.1, d3.2⟩, c4, ds, hb, rk.trans hr⟩
/-- what one row leaves -/
def ROc (S u : sS) (N : sN) (o : Nat) (q r : Int) (X : Option (Int × Int × Int)) : Prop := (Hd (RK S u ∧ (r = 0 → u.1 11 14 ≠ 0)) ∧ 0 ≤ r ∧ r ≤ 1 ∧ u.1 11 10 = S.1 11 10 ∧ u.1 11 11 = S.1 11 11 ∧ u.1 o 2 = S.1 o 2) ∧ Hd (r = 1 → X = some (u.1 o 3, u.1 11 12, q) ∧ (S.1 o 3 < u.1 o 3 ∧ u.1 o 3 ≤ 16) ∧ (0 ≤ u.1 11 12 ∧ u.1 11 12 ≤ 20000) ∧ u.1 11 13 = q ∧ u.1 11 14 = 0 ∧ NRc N u) ∧ Hd (r = 0 → X = none)
set_option maxRecDepth 100000 in
set_option maxHeartbeats 4000000 in
theorem e_X9_tellGoal (l : Launch) (G : sG) (S : sS) {M : sM} {k v : Int → Int} {T pz q : Int} {o : Nat} (hI : cX G S 0 0 0) (hm : mdl o) (hM : Hd (MRc M S G o)) (hTV : Hd (TVn k v)) (hkv : Hd (KV S k v T)) (hfk : S.1 11 14 = 0) (hat : S.1 11 13 = pz) (hpz : 0 ≤ pz ∧ pz ≤ 2000) (hqb : q ≤ 2001) (hg : Hd (∃ q1, ogU T k (ogF T k 30) (pz + 1) = some q1 ∧ k q1 = 15 ∧ q = q1 + 1)) : Met l yX9_tellGoal (.code yX9_tellGoal cX9_tellGoal 2 (some .boolean) :: tb) (rmk 133 0 0) (sPc G 294 S [.ref (G.2.2.1 + 11)]) (sQi G 294 (fun r u => cX G u 0 0 0 ∧ Fr S u pG ∧ (MOc S u G o q r (eDg T k v M pz)))) 0 0 (sF G) := by
  refine sEnter (by decide) (Nat.le_of_ble_eq_true rfl) ?_
  intro p e s m args below meth c Cx hr hlk hnm hW ls hl
  have Cx : sC G p m c cX9_tellGoal 2 s args RX9 := Cx
  obtain ⟨hx, hb, hml, hown, hts⟩ := id Cx.1
  have hL : sL G [] := sL_nil
  have hl : lv_has ls 2 [(0, .ref (G.2.2.1 + 11))] := hl
  have hW0 := hW
  obtain ⟨hN, hK, d0, d1, d2, d3, d4, ds, hbs, hrf⟩ := id hM
  have hkn : 0 ≤ S.1 11 9 ∧ S.1 11 9 ≤ 128 := hI.fi 11 9 9 (by decide) rfl
  have hTb : 0 ≤ S.1 12 3 ∧ S.1 12 3 ≤ 2001 := hI.fi 12 3 8 (by decide) rfl
  have hTe := hkv.2.2
  have hN1 := hN.1
  obtain ⟨qS, hqS⟩ : ∃ z : Nat, z = 20 + 0 := ⟨_, rfl⟩
  have lqS := lr_19 (dn := 0) hqS (by omega)
  obtain ⟨q1, hg1, hg15, hq1⟩ := hg
  refine lv_aload_n hx hb dX9_tellGoal_0 rfl (lv_at hl 0 rfl) ?_
  refine g_X9_14 Cx hW (k := 11) (by decide) rfl (v := .ref (G.2.2.1 + 12)) (rf_11_0 hI) dX9_tellGoal_1 ?_
  refine lv_aload_n hx hb dX9_tellGoal_4 rfl (lv_at hl 0 rfl) ?_
  have q_1 : (-2147483648) ≤ S.1 11 13 ∧ S.1 11 13 ≤ 2147483647 := hI.fi 11 13 9 (by decide) rfl
  refine g_X9_89 Cx hW (k := 11) (by decide) rfl (v := S.1 11 13) rfl dX9_tellGoal_5 ?_
  refine sBi (sV (As := [.int (iv (S.1 11 13))]) (rest := []) (k := 12) Cx (s_X8_kind l G S (k := S.1 11 13) hI (by omega)) (c_X9_95 Cx rfl rfl (rmk_ok (by omega) (by decide))) hW (by decide) rfl rfl rfl hl.1 rfl (Nat.le_of_ble_eq_true rfl) dX9_tellGoal_8 ⟨Nat.le_of_ble_eq_true rfl, Nat.le_of_ble_eq_true rfl⟩) hL (fun r_4 u_2 H locs k_3 hW hL => ?_)
  obtain ⟨eu_2, xu_2⟩ := k_3
  rw [eu_2] at hW
  refine lv_iconst (v := iv 4) hx hb dX9_tellGoal_11 (by decide) ?_
  refine r_icmp_ne (tgt := 19) hx hb ⟨(by omega), (by omega)⟩ ⟨(by omega), (by omega)⟩ dX9_tellGoal_12 (by decide) (fun c_5 => ?_) (fun c_5 => ?_)
  · refine lv_iconst (v := iv 0) hx hb dX9_tellGoal_19 (by decide) ?_
    refine lv_istore_n (lv' := [(1, .int (iv 0)), (0, .ref (G.2.2.1 + 11))]) hx hb dX9_tellGoal_20 rfl hl (by decide) rfl (fun ls hl => ?_)
    refine lv_aload_n hx hb dX9_tellGoal_21 rfl (lv_at hl 1 rfl) ?_
    refine lv_dup hx hb dX9_tellGoal_22 rfl ?_
    refine g_X9_89 Cx hW (k := 11) (by decide) rfl (v := S.1 11 13) rfl dX9_tellGoal_23 ?_
    refine lv_iconst (v := iv 1) hx hb dX9_tellGoal_26 (by decide) ?_
    refine r_iadd hx hb dX9_tellGoal_27 ?_
    refine p_X9_89 Cx hW hL (k := 11) (by decide) rfl dX9_tellGoal_28 (fun H locs hW hL => ?_)
    have F_6 : Fr S (uF S 11 13 ((S.1 11 13) + 1)) pG := (Fr.rf : Fr S S pG).F rfl
    have F_7 : Fr S (uF S 11 13 ((S.1 11 13) + 1)) pRm := (Fr.rf : Fr S S pRm).F rfl
    have i_8 : cX G (uF S 11 13 ((S.1 11 13) + 1)) 0 0 0 := hI.F rfl rfl (show (-2147483648) ≤ (S.1 11 13) + 1 ∧ (S.1 11 13) + 1 ≤ 2147483647 from ⟨by omega, by omega⟩)
    refine lv_aload_n hx hb dX9_tellGoal_31 rfl (lv_at hl 1 rfl) ?_
    refine lv_iconst (v := iv 0) hx hb dX9_tellGoal_32 (by decide) ?_
    have q_9 : 0 ≤ S.1 11 9 ∧ S.1 11 9 ≤ 128 := hI.fi 11 9 9 (by decide) rfl
    have lk_10 : (uF S 11 13 ((S.1 11 13) + 1)).1 11 9 = S.1 11 9 := uF_ne (fun h => absurd h.2 (by decide))
    have q_11 : 0 ≤ S.1 11 10 ∧ S.1 11 10 ≤ 8 := hI.fi 11 10 9 (by decide) rfl
    have lk_12 : (uF S 11 13 ((S.1 11 13) + 1)).1 11 10 = S.1 11 10 := uF_ne (fun h => absurd h.2 (by decide))
    have q_13 : 0 ≤ S.1 11 11 ∧ S.1 11 11 ≤ 12 := hI.fi 11 11 9 (by decide) rfl
    have lk_14 : (uF S 11 13 ((S.1 11 13) + 1)).1 11 11 = S.1 11 11 := uF_ne (fun h => absurd h.2 (by decide))
    have q_15 : (-2147483648) ≤ S.1 11 12 ∧ S.1 11 12 ≤ 2147483647 := hI.fi 11 12 9 (by decide) rfl
    have lk_16 : (uF S 11 13 ((S.1 11 13) + 1)).1 11 12 = S.1 11 12 := uF_ne (fun h => absurd h.2 (by decide))
    have lk_17 : (uF S 11 13 ((S.1 11 13) + 1)).1 11 13 = (S.1 11 13) + 1 := uF_on
    have q_18 : 0 ≤ S.1 11 14 ∧ S.1 11 14 ≤ 7 := hI.fi 11 14 9 (by decide) rfl
    have lk_19 : (uF S 11 13 ((S.1 11 13) + 1)).1 11 14 = S.1 11 14 := uF_ne (fun h => absurd h.2 (by decide))
    have q_20 : 0 ≤ S.1 o 2 ∧ S.1 o 2 ≤ 12 := hI.fi o 2 3 (mdl_k hm) hm.1
    have lk_21 : (uF S 11 13 ((S.1 11 13) + 1)).1 o 2 = S.1 o 2 := uF_ne (fun h => absurd h.2 (by decide))
    have q_22 : 0 ≤ S.1 o 3 ∧ S.1 o 3 ≤ 16 := hI.fi o 3 3 (mdl_k hm) hm.1
    have lk_23 : (uF S 11 13 ((S.1 11 13) + 1)).1 o 3 = S.1 o 3 := uF_ne (fun h => absurd h.2 (by decide))
    have nr_24 : NRc M.1 (uF S 11 13 ((S.1 11 13) + 1)) := hN.of (by omega) (fun j => (F_7 16 rfl).2.2.1 j) (fun j => (F_7 17 rfl).2.1 j) (fun j => (F_7 18 rfl).2.1 j)
    have kv_25 : KV (uF S 11 13 ((S.1 11 13) + 1)) k v T := hkv.fr F_6 rfl rfl rfl
    refine sBi (sV (As := [.int (iv 0)]) (rest := []) (k := 11) Cx ((telE l G) (uF S 11 13 ((S.1 11 13) + 1)) M.1 k v T (pz + 1) q1 30 i_8 ⟨nr_24, hK, hTV, kv_25, (by omega), (by omega), (by omega), ⟨by omega, by omega⟩⟩ (by decide) (by omega) (by omega) hg1) (c_X9_166 Cx rfl rfl (rmk_ok (by omega) (by decide))) hW (by decide) rfl rfl rfl hl.1 rfl (Nat.le_of_ble_eq_true rfl) dX9_tellGoal_33 ⟨Nat.le_of_ble_eq_true rfl, Nat.le_of_ble_eq_true rfl⟩) hL (fun r_28 u_26 H locs k_27 hW hL => ?_)
    obtain ⟨iu_26, fu_26, xu_26⟩ := k_27
    have yu_26 := xu_26.1.2
    have F_29 := F_6.trans (fu_26.to (fun k h => pV_G k (pEx_V k h)))
    refine r_if_ne (tgt := 41) hx hb ⟨(by omega), (by omega)⟩ dX9_tellGoal_36 (by decide) (fun c_30 => ?_) (fun c_30 => ?_)
    · obtain ⟨V1, e1, w1, bb1, l1, pp1, f1, n1⟩ := xu_26.2.1 (by omega)
      rw [← hqS] at w1
      refine lv_aload_n hx hb dX9_tellGoal_41 rfl (lv_at hl 1 rfl) ?_
      refine g_X9_46 Cx hW (k := 11) (by decide) rfl (v := .ref (G.2.2.1 + o)) (((fun i => (xu_26.1.1.1 i)) 8).trans hrf) dX9_tellGoal_42 ?_
      refine lv_aload_n hx hb dX9_tellGoal_45 rfl (lv_at hl 1 rfl) ?_
      refine g_X9_31 Cx hW (k := 11) (by decide) rfl (v := .ref (G.2.2.1 + 19)) (rf_11_4 iu_26) dX9_tellGoal_46 ?_
      refine lv_iconst (v := iv 0) hx hb dX9_tellGoal_49 (by decide) ?_
      refine rAald Cx hW (k := 19) (by decide) rfl (by decide) (by omega) (by omega) (r2_19f (dn := 0) iu_26 hqS (by omega) (by omega)) dX9_tellGoal_50 ?_
      refine lv_iload_n hx hb dX9_tellGoal_51 rfl (lv_at hl 0 rfl) ?_
      have lk_31 : u_26.1 o 2 = S.1 o 2 := ((fu_26 o (pEx_o (mdl_out hm).2.2)).1 2).trans (uF_ne (fun h => absurd h.2 (by decide)))
      have lk_32 : u_26.1 o 3 = S.1 o 3 := ((fu_26 o (pEx_o (mdl_out hm).2.2)).1 3).trans (uF_ne (fun h => absurd h.2 (by decide)))
      refine sBv (sV (As := [.ref (G.2.2.1 + qS), .int (iv 0)]) (rest := []) (k := o) Cx (e_X3_setGoal l G u_26 (o := o) (q := qS) (t := 0) iu_26 hm (lr_h lqS) (by omega)) (c_X9_169 Cx rfl rfl (rmk_ok (by omega) (by decide))) hW (mdl_l hm) hm.1 rfl rfl hl.1 rfl (Nat.le_of_ble_eq_true rfl) dX9_tellGoal_52 ⟨Nat.le_of_ble_eq_true rfl, Nat.le_of_ble_eq_true rfl⟩) hL (fun u_33 H locs k_34 hW hL => ?_)
      obtain ⟨iu_33, fu_33, xu_33⟩ := k_34
      have F_35 := F_29.trans (fu_33.to (pM_sub (mdl_pG hm).1 (mdl_pG hm).2.1 (mdl_pG hm).2.2))
      have F_36 := (Fr.rf : Fr u_26 u_26 pRm).trans (fu_33.to (pM_sub (mdl_Rm hm).1 (mdl_Rm hm).2.1 (mdl_Rm hm).2.2))
      refine lv_aload_n hx hb dX9_tellGoal_55 rfl (lv_at hl 1 rfl) ?_
      refine lv_dup hx hb dX9_tellGoal_56 rfl ?_
      have q_37 : (-2147483648) ≤ u_26.1 11 13 ∧ u_26.1 11 13 ≤ 2147483647 := iu_26.fi 11 13 9 (by decide) rfl
      refine g_X9_89 Cx hW (k := 11) (by decide) rfl (v := u_26.1 11 13) ((fu_33 11 (pM_no (tau_ne (rfl : tau 11 = .inl 9) hm.1 (fun h => by cases h)) (tau_ne (rfl : tau 11 = .inl 9) hm.2.1 (fun h => by cases h)) (tau_ne (rfl : tau 11 = .inl 9) hm.2.2.1 (fun h => by cases h)))).1 13) dX9_tellGoal_57 ?_
      refine lv_iconst (v := iv 1) hx hb dX9_tellGoal_60 (by decide) ?_
      refine r_iadd hx hb dX9_tellGoal_61 ?_
      refine p_X9_89 Cx hW hL (k := 11) (by decide) rfl dX9_tellGoal_62 (fun H locs hW hL => ?_)
      have F_38 : Fr S (uF u_33 11 13 ((u_26.1 11 13) + 1)) pG := F_35.F rfl
      have F_39 : Fr u_26 (uF u_33 11 13 ((u_26.1 11 13) + 1)) pRm := F_36.F rfl
      have i_40 : cX G (uF u_33 11 13 ((u_26.1 11 13) + 1)) 0 0 0 := iu_33.F rfl rfl (show (-2147483648) ≤ (u_26.1 11 13) + 1 ∧ (u_26.1 11 13) + 1 ≤ 2147483647 from ⟨by omega, by omega⟩)
      refine lv_iconst (v := iv 1) hx hb dX9_tellGoal_65 (by decide) ?_
      have q_41 : 0 ≤ u_26.1 11 9 ∧ u_26.1 11 9 ≤ 128 := iu_26.fi 11 9 9 (by decide) rfl
      have lk_42 : (uF u_33 11 13 ((u_26.1 11 13) + 1)).1 11 9 = u_26.1 11 9 := (uF_ne (fun h => absurd h.2 (by decide))).trans ((fu_33 11 (pM_no (tau_ne (rfl : tau 11 = .inl 9) hm.1 (fun h => by cases h)) (tau_ne (rfl : tau 11 = .inl 9) hm.2.1 (fun h => by cases h)) (tau_ne (rfl : tau 11 = .inl 9) hm.2.2.1 (fun h => by cases h)))).1 9)
      have q_43 : 0 ≤ u_26.1 11 10 ∧ u_26.1 11 10 ≤ 8 := iu_26.fi 11 10 9 (by decide) rfl
      have lk_44 : (uF u_33 11 13 ((u_26.1 11 13) + 1)).1 11 10 = u_26.1 11 10 := (uF_ne (fun h => absurd h.2 (by decide))).trans ((fu_33 11 (pM_no (tau_ne (rfl : tau 11 = .inl 9) hm.1 (fun h => by cases h)) (tau_ne (rfl : tau 11 = .inl 9) hm.2.1 (fun h => by cases h)) (tau_ne (rfl : tau 11 = .inl 9) hm.2.2.1 (fun h => by cases h)))).1 10)
      have q_45 : 0 ≤ u_26.1 11 11 ∧ u_26.1 11 11 ≤ 12 := iu_26.fi 11 11 9 (by decide) rfl
      have lk_46 : (uF u_33 11 13 ((u_26.1 11 13) + 1)).1 11 11 = u_26.1 11 11 := (uF_ne (fun h => absurd h.2 (by decide))).trans ((fu_33 11 (pM_no (tau_ne (rfl : tau 11 = .inl 9) hm.1 (fun h => by cases h)) (tau_ne (rfl : tau 11 = .inl 9) hm.2.1 (fun h => by cases h)) (tau_ne (rfl : tau 11 = .inl 9) hm.2.2.1 (fun h => by cases h)))).1 11)
      have q_47 : (-2147483648) ≤ u_26.1 11 12 ∧ u_26.1 11 12 ≤ 2147483647 := iu_26.fi 11 12 9 (by decide) rfl
      have lk_48 : (uF u_33 11 13 ((u_26.1 11 13) + 1)).1 11 12 = u_26.1 11 12 := (uF_ne (fun h => absurd h.2 (by decide))).trans ((fu_33 11 (pM_no (tau_ne (rfl : tau 11 = .inl 9) hm.1 (fun h => by cases h)) (tau_ne (rfl : tau 11 = .inl 9) hm.2.1 (fun h => by cases h)) (tau_ne (rfl : tau 11 = .inl 9) hm.2.2.1 (fun h => by cases h)))).1 12)
      have lk_49 : (uF u_33 11 13 ((u_26.1 11 13) + 1)).1 11 13 = (u_26.1 11 13) + 1 := uF_on
      have q_50 : 0 ≤ u_26.1 11 14 ∧ u_26.1 11 14 ≤ 7 := iu_26.fi 11 14 9 (by decide) rfl
      have lk_51 : (uF u_33 11 13 ((u_26.1 11 13) + 1)).1 11 14 = u_26.1 11 14 := (uF_ne (fun h => absurd h.2 (by decide))).trans ((fu_33 11 (pM_no (tau_ne (rfl : tau 11 = .inl 9) hm.1 (fun h => by cases h)) (tau_ne (rfl : tau 11 = .inl 9) hm.2.1 (fun h => by cases h)) (tau_ne (rfl : tau 11 = .inl 9) hm.2.2.1 (fun h => by cases h)))).1 14)
      have q_52 : 0 ≤ u_33.1 o 2 ∧ u_33.1 o 2 ≤ 12 := iu_33.fi o 2 3 (mdl_k hm) hm.1
      have lk_53 : (uF u_33 11 13 ((u_26.1 11 13) + 1)).1 o 2 = u_33.1 o 2 := uF_ne (fun h => absurd h.2 (by decide))
      have q_54 : 0 ≤ u_33.1 o 3 ∧ u_33.1 o 3 ≤ 16 := iu_33.fi o 3 3 (mdl_k hm) hm.1
      have lk_55 : (uF u_33 11 13 ((u_26.1 11 13) + 1)).1 o 3 = u_33.1 o 3 := uF_ne (fun h => absurd h.2 (by decide))
      have nr_56 : NRc M.1 (uF u_33 11 13 ((u_26.1 11 13) + 1)) := n1.of (by omega) (fun j => (F_39 16 rfl).2.2.1 j) (fun j => (F_39 17 rfl).2.1 j) (fun j => (F_39 18 rfl).2.1 j)
      exact sZret Cx hr hlk hW hL (by omega) ⟨i_40, F_38, ⟨⟨⟨(fun i => (((fu_33 11 (pM_no (tau_ne (rfl : tau 11 = .inl 9) hm.1 (fun h => by cases h)) (tau_ne (rfl : tau 11 = .inl 9) hm.2.1 (fun h => by cases h)) (tau_ne (rfl : tau 11 = .inl 9) hm.2.2.1 (fun h => by cases h)))).2.2.2 i).trans (xu_26.1.1.1 i))), (fun h => absurd h (by decide))⟩, by omega, by omega⟩, (fun _ => ⟨_, (by rw [show (uF S 11 13 ((S.1 11 13) + 1)).1 11 12 = M.2.2.2.2.2.2.2 by omega] at e1; unfold eDg; rw [e1, Option.bind_some, hq1]), hM.goal nr_56 (by omega) (by omega) (by omega) (by omega) ⟨(show (uF u_33 11 13 ((u_26.1 11 13) + 1)).1 11 12 = u_26.1 11 12 by omega), (by show 0 ≤ u_26.1 11 12; omega), (by show u_26.1 11 12 ≤ 20000; omega)⟩ ((fun i => (((fu_33 11 (pM_no (tau_ne (rfl : tau 11 = .inl 9) hm.1 (fun h => by cases h)) (tau_ne (rfl : tau 11 = .inl 9) hm.2.1 (fun h => by cases h)) (tau_ne (rfl : tau 11 = .inl 9) hm.2.2.1 (fun h => by cases h)))).2.2.2 i).trans (xu_26.1.1.1 i))) 8), (by omega), (by omega)⟩), (fun h => absurd h (by decide))⟩⟩ dX9_tellGoal_66
    · refine lv_iconst (v := iv 0) hx hb dX9_tellGoal_39 (by decide) ?_
      have q_57 : 0 ≤ u_26.1 11 9 ∧ u_26.1 11 9 ≤ 128 := iu_26.fi 11 9 9 (by decide) rfl
      have q_58 : 0 ≤ u_26.1 11 10 ∧ u_26.1 11 10 ≤ 8 := iu_26.fi 11 10 9 (by decide) rfl
      have q_59 : 0 ≤ u_26.1 11 11 ∧ u_26.1 11 11 ≤ 12 := iu_26.fi 11 11 9 (by decide) rfl
      have q_60 : (-2147483648) ≤ u_26.1 11 12 ∧ u_26.1 11 12 ≤ 2147483647 := iu_26.fi 11 12 9 (by decide) rfl
      have q_61 : (-2147483648) ≤ u_26.1 11 13 ∧ u_26.1 11 13 ≤ 2147483647 := iu_26.fi 11 13 9 (by decide) rfl
      have q_62 : 0 ≤ u_26.1 11 14 ∧ u_26.1 11 14 ≤ 7 := iu_26.fi 11 14 9 (by decide) rfl
      have lk_63 : u_26.1 o 2 = S.1 o 2 := ((fu_26 o (pEx_o (mdl_out hm).2.2)).1 2).trans (uF_ne (fun h => absurd h.2 (by decide)))
      have lk_64 : u_26.1 o 3 = S.1 o 3 := ((fu_26 o (pEx_o (mdl_out hm).2.2)).1 3).trans (uF_ne (fun h => absurd h.2 (by decide)))
      exact sZret Cx hr hlk hW hL (by omega) ⟨iu_26, F_29, ⟨⟨⟨(fun i => (xu_26.1.1.1 i)), (fun _ => by first | omega | exact xu_26.1.1.2 (by omega))⟩, by omega, by omega⟩, (fun h => absurd h (by omega)), (fun _ => (by have q9 := xu_26.2.2 (by omega); rw [show (uF S 11 13 ((S.1 11 13) + 1)).1 11 12 = M.2.2.2.2.2.2.2 by omega] at q9; unfold eDg; rw [q9]; rfl))⟩⟩ dX9_tellGoal_40
  · refine lv_iconst (v := iv 1) hx hb dX9_tellGoal_15 (by decide) ?_
    refine lv_goto (tgt := 20) hx hb dX9_tellGoal_16 (by decide) ?_
    refine lv_istore_n (lv' := [(1, .int (iv 1)), (0, .ref (G.2.2.1 + 11))]) hx hb dX9_tellGoal_20 rfl hl (by decide) rfl (fun ls hl => ?_)
    refine lv_aload_n hx hb dX9_tellGoal_21 rfl (lv_at hl 1 rfl) ?_
    refine lv_dup hx hb dX9_tellGoal_22 rfl ?_
    refine g_X9_89 Cx hW (k := 11) (by decide) rfl (v := S.1 11 13) rfl dX9_tellGoal_23 ?_
    refine lv_iconst (v := iv 1) hx hb dX9_tellGoal_26 (by decide) ?_
    refine r_iadd hx hb dX9_tellGoal_27 ?_
    refine p_X9_89 Cx hW hL (k := 11) (by decide) rfl dX9_tellGoal_28 (fun H locs hW hL => ?_)
    have F_65 : Fr S (uF S 11 13 ((S.1 11 13) + 1)) pG := (Fr.rf : Fr S S pG).F rfl
    have F_66 : Fr S (uF S 11 13 ((S.1 11 13) + 1)) pRm := (Fr.rf : Fr S S pRm).F rfl
    have i_67 : cX G (uF S 11 13 ((S.1 11 13) + 1)) 0 0 0 := hI.F rfl rfl (show (-2147483648) ≤ (S.1 11 13) + 1 ∧ (S.1 11 13) + 1 ≤ 2147483647 from ⟨by omega, by omega⟩)
    refine lv_aload_n hx hb dX9_tellGoal_31 rfl (lv_at hl 1 rfl) ?_
    refine lv_iconst (v := iv 0) hx hb dX9_tellGoal_32 (by decide) ?_
    have q_68 : 0 ≤ S.1 11 9 ∧ S.1 11 9 ≤ 128 := hI.fi 11 9 9 (by decide) rfl
    have lk_69 : (uF S 11 13 ((S.1 11 13) + 1)).1 11 9 = S.1 11 9 := uF_ne (fun h => absurd h.2 (by decide))
    have q_70 : 0 ≤ S.1 11 10 ∧ S.1 11 10 ≤ 8 := hI.fi 11 10 9 (by decide) rfl
    have lk_71 : (uF S 11 13 ((S.1 11 13) + 1)).1 11 10 = S.1 11 10 := uF_ne (fun h => absurd h.2 (by decide))
    have q_72 : 0 ≤ S.1 11 11 ∧ S.1 11 11 ≤ 12 := hI.fi 11 11 9 (by decide) rfl
    have lk_73 : (uF S 11 13 ((S.1 11 13) + 1)).1 11 11 = S.1 11 11 := uF_ne (fun h => absurd h.2 (by decide))
    have q_74 : (-2147483648) ≤ S.1 11 12 ∧ S.1 11 12 ≤ 2147483647 := hI.fi 11 12 9 (by decide) rfl
    have lk_75 : (uF S 11 13 ((S.1 11 13) + 1)).1 11 12 = S.1 11 12 := uF_ne (fun h => absurd h.2 (by decide))
    have lk_76 : (uF S 11 13 ((S.1 11 13) + 1)).1 11 13 = (S.1 11 13) + 1 := uF_on
    have q_77 : 0 ≤ S.1 11 14 ∧ S.1 11 14 ≤ 7 := hI.fi 11 14 9 (by decide) rfl
    have lk_78 : (uF S 11 13 ((S.1 11 13) + 1)).1 11 14 = S.1 11 14 := uF_ne (fun h => absurd h.2 (by decide))
    have q_79 : 0 ≤ S.1 o 2 ∧ S.1 o 2 ≤ 12 := hI.fi o 2 3 (mdl_k hm) hm.1
    have lk_80 : (uF S 11 13 ((S.1 11 13) + 1)).1 o 2 = S.1 o 2 := uF_ne (fun h => absurd h.2 (by decide))
    have q_81 : 0 ≤ S.1 o 3 ∧ S.1 o 3 ≤ 16 := hI.fi o 3 3 (mdl_k hm) hm.1
    have lk_82 : (uF S 11 13 ((S.1 11 13) + 1)).1 o 3 = S.1 o 3 := uF_ne (fun h => absurd h.2 (by decide))
    have nr_83 : NRc M.1 (uF S 11 13 ((S.1 11 13) + 1)) := hN.of (by omega) (fun j => (F_66 16 rfl).2.2.1 j) (fun j => (F_66 17 rfl).2.1 j) (fun j => (F_66 18 rfl).2.1 j)
    have kv_84 : KV (uF S 11 13 ((S.1 11 13) + 1)) k v T := hkv.fr F_65 rfl rfl rfl
    refine sBi (sV (As := [.int (iv 0)]) (rest := []) (k := 11) Cx ((telE l G) (uF S 11 13 ((S.1 11 13) + 1)) M.1 k v T (pz + 1) q1 30 i_67 ⟨nr_83, hK, hTV, kv_84, (by omega), (by omega), (by omega), ⟨by omega, by omega⟩⟩ (by decide) (by omega) (by omega) hg1) (c_X9_166 Cx rfl rfl (rmk_ok (by omega) (by decide))) hW (by decide) rfl rfl rfl hl.1 rfl (Nat.le_of_ble_eq_true rfl) dX9_tellGoal_33 ⟨Nat.le_of_ble_eq_true rfl, Nat.le_of_ble_eq_true rfl⟩) hL (fun r_87 u_85 H locs k_86 hW hL => ?_)
    obtain ⟨iu_85, fu_85, xu_85⟩ := k_86
    have yu_85 := xu_85.1.2
    have F_88 := F_65.trans (fu_85.to (fun k h => pV_G k (pEx_V k h)))
    refine r_if_ne (tgt := 41) hx hb ⟨(by omega), (by omega)⟩ dX9_tellGoal_36 (by decide) (fun c_89 => ?_) (fun c_89 => ?_)
    · obtain ⟨V1, e1, w1, bb1, l1, pp1, f1, n1⟩ := xu_85.2.1 (by omega)
      rw [← hqS] at w1
      refine lv_aload_n hx hb dX9_tellGoal_41 rfl (lv_at hl 1 rfl) ?_
      refine g_X9_46 Cx hW (k := 11) (by decide) rfl (v := .ref (G.2.2.1 + o)) (((fun i => (xu_85.1.1.1 i)) 8).trans hrf) dX9_tellGoal_42 ?_
      refine lv_aload_n hx hb dX9_tellGoal_45 rfl (lv_at hl 1 rfl) ?_
      refine g_X9_31 Cx hW (k := 11) (by decide) rfl (v := .ref (G.2.2.1 + 19)) (rf_11_4 iu_85) dX9_tellGoal_46 ?_
      refine lv_iconst (v := iv 0) hx hb dX9_tellGoal_49 (by decide) ?_
      refine rAald Cx hW (k := 19) (by decide) rfl (by decide) (by omega) (by omega) (r2_19f (dn := 0) iu_85 hqS (by omega) (by omega)) dX9_tellGoal_50 ?_
      refine lv_iload_n hx hb dX9_tellGoal_51 rfl (lv_at hl 0 rfl) ?_
      have lk_90 : u_85.1 o 2 = S.1 o 2 := ((fu_85 o (pEx_o (mdl_out hm).2.2)).1 2).trans (uF_ne (fun h => absurd h.2 (by decide)))
      have lk_91 : u_85.1 o 3 = S.1 o 3 := ((fu_85 o (pEx_o (mdl_out hm).2.2)).1 3).trans (uF_ne (fun h => absurd h.2 (by decide)))
      refine sBv (sV (As := [.ref (G.2.2.1 + qS), .int (iv 1)]) (rest := []) (k := o) Cx (e_X3_setGoal l G u_85 (o := o) (q := qS) (t := 1) iu_85 hm (lr_h lqS) (by omega)) (c_X9_169 Cx rfl rfl (rmk_ok (by omega) (by decide))) hW (mdl_l hm) hm.1 rfl rfl hl.1 rfl (Nat.le_of_ble_eq_true rfl) dX9_tellGoal_52 ⟨Nat.le_of_ble_eq_true rfl, Nat.le_of_ble_eq_true rfl⟩) hL (fun u_92 H locs k_93 hW hL => ?_)
      obtain ⟨iu_92, fu_92, xu_92⟩ := k_93
      have F_94 := F_88.trans (fu_92.to (pM_sub (mdl_pG hm).1 (mdl_pG hm).2.1 (mdl_pG hm).2.2))
      have F_95 := (Fr.rf : Fr u_85 u_85 pRm).trans (fu_92.to (pM_sub (mdl_Rm hm).1 (mdl_Rm hm).2.1 (mdl_Rm hm).2.2))
      refine lv_aload_n hx hb dX9_tellGoal_55 rfl (lv_at hl 1 rfl) ?_
      refine lv_dup hx hb dX9_tellGoal_56 rfl ?_
      have q_96 : (-2147483648) ≤ u_85.1 11 13 ∧ u_85.1 11 13 ≤ 2147483647 := iu_85.fi 11 13 9 (by decide) rfl
      refine g_X9_89 Cx hW (k := 11) (by decide) rfl (v := u_85.1 11 13) ((fu_92 11 (pM_no (tau_ne (rfl : tau 11 = .inl 9) hm.1 (fun h => by cases h)) (tau_ne (rfl : tau 11 = .inl 9) hm.2.1 (fun h => by cases h)) (tau_ne (rfl : tau 11 = .inl 9) hm.2.2.1 (fun h => by cases h)))).1 13) dX9_tellGoal_57 ?_
      refine lv_iconst (v := iv 1) hx hb dX9_tellGoal_60 (by decide) ?_
      refine r_iadd hx hb dX9_tellGoal_61 ?_
      refine p_X9_89 Cx hW hL (k := 11) (by decide) rfl dX9_tellGoal_62 (fun H locs hW hL => ?_)
      have F_97 : Fr S (uF u_92 11 13 ((u_85.1 11 13) + 1)) pG := F_94.F rfl
      have F_98 : Fr u_85 (uF u_92 11 13 ((u_85.1 11 13) + 1)) pRm := F_95.F rfl
      have i_99 : cX G (uF u_92 11 13 ((u_85.1 11 13) + 1)) 0 0 0 := iu_92.F rfl rfl (show (-2147483648) ≤ (u_85.1 11 13) + 1 ∧ (u_85.1 11 13) + 1 ≤ 2147483647 from ⟨by omega, by omega⟩)
      refine lv_iconst (v := iv 1) hx hb dX9_tellGoal_65 (by decide) ?_
      have q_100 : 0 ≤ u_85.1 11 9 ∧ u_85.1 11 9 ≤ 128 := iu_85.fi 11 9 9 (by decide) rfl
      have lk_101 : (uF u_92 11 13 ((u_85.1 11 13) + 1)).1 11 9 = u_85.1 11 9 := (uF_ne (fun h => absurd h.2 (by decide))).trans ((fu_92 11 (pM_no (tau_ne (rfl : tau 11 = .inl 9) hm.1 (fun h => by cases h)) (tau_ne (rfl : tau 11 = .inl 9) hm.2.1 (fun h => by cases h)) (tau_ne (rfl : tau 11 = .inl 9) hm.2.2.1 (fun h => by cases h)))).1 9)
      have q_102 : 0 ≤ u_85.1 11 10 ∧ u_85.1 11 10 ≤ 8 := iu_85.fi 11 10 9 (by decide) rfl
      have lk_103 : (uF u_92 11 13 ((u_85.1 11 13) + 1)).1 11 10 = u_85.1 11 10 := (uF_ne (fun h => absurd h.2 (by decide))).trans ((fu_92 11 (pM_no (tau_ne (rfl : tau 11 = .inl 9) hm.1 (fun h => by cases h)) (tau_ne (rfl : tau 11 = .inl 9) hm.2.1 (fun h => by cases h)) (tau_ne (rfl : tau 11 = .inl 9) hm.2.2.1 (fun h => by cases h)))).1 10)
      have q_104 : 0 ≤ u_85.1 11 11 ∧ u_85.1 11 11 ≤ 12 := iu_85.fi 11 11 9 (by decide) rfl
      have lk_105 : (uF u_92 11 13 ((u_85.1 11 13) + 1)).1 11 11 = u_85.1 11 11 := (uF_ne (fun h => absurd h.2 (by decide))).trans ((fu_92 11 (pM_no (tau_ne (rfl : tau 11 = .inl 9) hm.1 (fun h => by cases h)) (tau_ne (rfl : tau 11 = .inl 9) hm.2.1 (fun h => by cases h)) (tau_ne (rfl : tau 11 = .inl 9) hm.2.2.1 (fun h => by cases h)))).1 11)
      have q_106 : (-2147483648) ≤ u_85.1 11 12 ∧ u_85.1 11 12 ≤ 2147483647 := iu_85.fi 11 12 9 (by decide) rfl
      have lk_107 : (uF u_92 11 13 ((u_85.1 11 13) + 1)).1 11 12 = u_85.1 11 12 := (uF_ne (fun h => absurd h.2 (by decide))).trans ((fu_92 11 (pM_no (tau_ne (rfl : tau 11 = .inl 9) hm.1 (fun h => by cases h)) (tau_ne (rfl : tau 11 = .inl 9) hm.2.1 (fun h => by cases h)) (tau_ne (rfl : tau 11 = .inl 9) hm.2.2.1 (fun h => by cases h)))).1 12)
      have lk_108 : (uF u_92 11 13 ((u_85.1 11 13) + 1)).1 11 13 = (u_85.1 11 13) + 1 := uF_on
      have q_109 : 0 ≤ u_85.1 11 14 ∧ u_85.1 11 14 ≤ 7 := iu_85.fi 11 14 9 (by decide) rfl
      have lk_110 : (uF u_92 11 13 ((u_85.1 11 13) + 1)).1 11 14 = u_85.1 11 14 := (uF_ne (fun h => absurd h.2 (by decide))).trans ((fu_92 11 (pM_no (tau_ne (rfl : tau 11 = .inl 9) hm.1 (fun h => by cases h)) (tau_ne (rfl : tau 11 = .inl 9) hm.2.1 (fun h => by cases h)) (tau_ne (rfl : tau 11 = .inl 9) hm.2.2.1 (fun h => by cases h)))).1 14)
      have q_111 : 0 ≤ u_92.1 o 2 ∧ u_92.1 o 2 ≤ 12 := iu_92.fi o 2 3 (mdl_k hm) hm.1
      have lk_112 : (uF u_92 11 13 ((u_85.1 11 13) + 1)).1 o 2 = u_92.1 o 2 := uF_ne (fun h => absurd h.2 (by decide))
      have q_113 : 0 ≤ u_92.1 o 3 ∧ u_92.1 o 3 ≤ 16 := iu_92.fi o 3 3 (mdl_k hm) hm.1
      have lk_114 : (uF u_92 11 13 ((u_85.1 11 13) + 1)).1 o 3 = u_92.1 o 3 := uF_ne (fun h => absurd h.2 (by decide))
      have nr_115 : NRc M.1 (uF u_92 11 13 ((u_85.1 11 13) + 1)) := n1.of (by omega) (fun j => (F_98 16 rfl).2.2.1 j) (fun j => (F_98 17 rfl).2.1 j) (fun j => (F_98 18 rfl).2.1 j)
      exact sZret Cx hr hlk hW hL (by omega) ⟨i_99, F_97, ⟨⟨⟨(fun i => (((fu_92 11 (pM_no (tau_ne (rfl : tau 11 = .inl 9) hm.1 (fun h => by cases h)) (tau_ne (rfl : tau 11 = .inl 9) hm.2.1 (fun h => by cases h)) (tau_ne (rfl : tau 11 = .inl 9) hm.2.2.1 (fun h => by cases h)))).2.2.2 i).trans (xu_85.1.1.1 i))), (fun h => absurd h (by decide))⟩, by omega, by omega⟩, (fun _ => ⟨_, (by rw [show (uF S 11 13 ((S.1 11 13) + 1)).1 11 12 = M.2.2.2.2.2.2.2 by omega] at e1; unfold eDg; rw [e1, Option.bind_some, hq1]), hM.goal nr_115 (by omega) (by omega) (by omega) (by omega) ⟨(show (uF u_92 11 13 ((u_85.1 11 13) + 1)).1 11 12 = u_85.1 11 12 by omega), (by show 0 ≤ u_85.1 11 12; omega), (by show u_85.1 11 12 ≤ 20000; omega)⟩ ((fun i => (((fu_92 11 (pM_no (tau_ne (rfl : tau 11 = .inl 9) hm.1 (fun h => by cases h)) (tau_ne (rfl : tau 11 = .inl 9) hm.2.1 (fun h => by cases h)) (tau_ne (rfl : tau 11 = .inl 9) hm.2.2.1 (fun h => by cases h)))).2.2.2 i).trans (xu_85.1.1.1 i))) 8), (by omega), (by omega)⟩), (fun h => absurd h (by decide))⟩⟩ dX9_tellGoal_66
    · refine lv_iconst (v := iv 0) hx hb dX9_tellGoal_39 (by decide) ?_
      have q_116 : 0 ≤ u_85.1 11 9 ∧ u_85.1 11 9 ≤ 128 := iu_85.fi 11 9 9 (by decide) rfl
      have q_117 : 0 ≤ u_85.1 11 10 ∧ u_85.1 11 10 ≤ 8 := iu_85.fi 11 10 9 (by decide) rfl
      have q_118 : 0 ≤ u_85.1 11 11 ∧ u_85.1 11 11 ≤ 12 := iu_85.fi 11 11 9 (by decide) rfl
      have q_119 : (-2147483648) ≤ u_85.1 11 12 ∧ u_85.1 11 12 ≤ 2147483647 := iu_85.fi 11 12 9 (by decide) rfl
      have q_120 : (-2147483648) ≤ u_85.1 11 13 ∧ u_85.1 11 13 ≤ 2147483647 := iu_85.fi 11 13 9 (by decide) rfl
      have q_121 : 0 ≤ u_85.1 11 14 ∧ u_85.1 11 14 ≤ 7 := iu_85.fi 11 14 9 (by decide) rfl
      have lk_122 : u_85.1 o 2 = S.1 o 2 := ((fu_85 o (pEx_o (mdl_out hm).2.2)).1 2).trans (uF_ne (fun h => absurd h.2 (by decide)))
      have lk_123 : u_85.1 o 3 = S.1 o 3 := ((fu_85 o (pEx_o (mdl_out hm).2.2)).1 3).trans (uF_ne (fun h => absurd h.2 (by decide)))
      exact sZret Cx hr hlk hW hL (by omega) ⟨iu_85, F_88, ⟨⟨⟨(fun i => (xu_85.1.1.1 i)), (fun _ => by first | omega | exact xu_85.1.1.2 (by omega))⟩, by omega, by omega⟩, (fun h => absurd h (by omega)), (fun _ => (by have q9 := xu_85.2.2 (by omega); rw [show (uF S 11 13 ((S.1 11 13) + 1)).1 11 12 = M.2.2.2.2.2.2.2 by omega] at q9; unfold eDg; rw [q9]; rfl))⟩⟩ dX9_tellGoal_40

set_option maxRecDepth 100000 in
set_option maxHeartbeats 4000000 in
theorem e_X9_tellOneRow (l : Launch) (G : sG) (S : sS) {N : sN} {k v : Int → Int} {T pz q a1 b1 nm : Int} {o : Nat} (hI : cX G S 0 0 0) (hnm : -2147483648 ≤ nm ∧ nm ≤ 2147483647) (hm : mdl o) (hN : Hd (NRc N S)) (hK : Hd (NK N)) (hTV : Hd (TVn k v)) (hkv : Hd (KV S k v T)) (hfk : S.1 11 14 = 0) (hat : S.1 11 13 = pz) (hpz : 0 ≤ pz ∧ pz ≤ 2001) (hlk : 0 ≤ S.1 11 12 ∧ S.1 11 12 ≤ 20000) (hnm : N.1 + 30 ≤ 128) (hrf : Hd (S.2.2.2 11 8 = .ref (G.2.2.1 + o))) (h16 : 0 ≤ S.1 o 3 ∧ S.1 o 3 ≤ 16) (hg : Hd (ogU T k (ogF T k 30) pz = some a1)) (hg2 : Hd (k a1 = 25 ∨ k a1 = 26 ∨ k a1 = 13)) (hg3 : Hd (ogU T k (ogF T k 30) (a1 + 1) = some b1)) (hq : q = b1 + 1) (hb1 : b1 ≤ 2000) : Met l yX9_tellOneRow (.code yX9_tellOneRow cX9_tellOneRow 5 (some .boolean) :: tb) (rmk 133 0 0) (sPc G 294 S [.ref (G.2.2.1 + 11), .int (iv nm)]) (sQi G 294 (fun r u => cX G u 0 0 0 ∧ Fr S u pG ∧ (ROc S u N o q r (eRo T k v N (S.1 o 3) (S.1 11 12) pz)))) 0 0 (sF G) := by
  refine sEnter (by decide) (Nat.le_of_ble_eq_true rfl) ?_
  intro p e s m args below meth c Cx hr hlk hnm hW ls hl
  have Cx : sC G p m c cX9_tellOneRow 5 s args RX9 := Cx
  obtain ⟨hx, hb, hml, hown, hts⟩ := id Cx.1
  have hL : sL G [] := sL_nil
  have hl : lv_has ls 5 [(0, .ref (G.2.2.1 + 11)), (1, .int (iv nm))] := hl
  have hW0 := hW
  have hkn : 0 ≤ S.1 11 9 ∧ S.1 11 9 ≤ 128 := hI.fi 11 9 9 (by decide) rfl
  have hTb : 0 ≤ S.1 12 3 ∧ S.1 12 3 ≤ 2001 := hI.fi 12 3 8 (by decide) rfl
  have hTe := hkv.2.2
  have hN1 := hN.1
  obtain ⟨qS, hqS⟩ : ∃ z : Nat, z = 20 + 0 := ⟨_, rfl⟩
  have lqS := lr_19 (dn := 0) hqS (by omega)
  have ha1 := ogU_inc (ogF_inc 30) _ _ hg; have hb2 := ogU_inc (ogF_inc 30) _ _ hg3
  refine lv_aload_n hx hb dX9_tellOneRow_0 rfl (lv_at hl 0 rfl) ?_
  refine lv_iconst (v := iv 0) hx hb dX9_tellOneRow_1 (by decide) ?_
  have q_1 : 0 ≤ S.1 11 9 ∧ S.1 11 9 ≤ 128 := hI.fi 11 9 9 (by decide) rfl
  have q_2 : 0 ≤ S.1 11 10 ∧ S.1 11 10 ≤ 8 := hI.fi 11 10 9 (by decide) rfl
  have q_3 : 0 ≤ S.1 11 11 ∧ S.1 11 11 ≤ 12 := hI.fi 11 11 9 (by decide) rfl
  have q_4 : (-2147483648) ≤ S.1 11 12 ∧ S.1 11 12 ≤ 2147483647 := hI.fi 11 12 9 (by decide) rfl
  have q_5 : (-2147483648) ≤ S.1 11 13 ∧ S.1 11 13 ≤ 2147483647 := hI.fi 11 13 9 (by decide) rfl
  have q_6 : 0 ≤ S.1 11 14 ∧ S.1 11 14 ≤ 7 := hI.fi 11 14 9 (by decide) rfl
  have q_7 : 0 ≤ S.1 o 2 ∧ S.1 o 2 ≤ 12 := hI.fi o 2 3 (mdl_k hm) hm.1
  have q_8 : 0 ≤ S.1 o 3 ∧ S.1 o 3 ≤ 16 := hI.fi o 3 3 (mdl_k hm) hm.1
  refine sBi (sV (As := [.int (iv 0)]) (rest := []) (k := 11) Cx ((telE l G) S N k v T (pz) a1 30 hI ⟨hN, hK, hTV, hkv, (by omega), (by omega), (by omega), ⟨by omega, by omega⟩⟩ (by decide) (by omega) (by omega) hg) (c_X9_166 Cx rfl rfl (rmk_ok (by omega) (by decide))) hW (by decide) rfl rfl rfl hl.1 rfl (Nat.le_of_ble_eq_true rfl) dX9_tellOneRow_2 ⟨Nat.le_of_ble_eq_true rfl, Nat.le_of_ble_eq_true rfl⟩) hL (fun r_11 u_9 H locs k_10 hW hL => ?_)
  obtain ⟨iu_9, fu_9, xu_9⟩ := k_10
  have yu_9 := xu_9.1.2
  have F_12 := (Fr.rf : Fr S S pG).trans (fu_9.to (fun k h => pV_G k (pEx_V k h)))
  refine r_if_ne (tgt := 10) hx hb ⟨(by omega), (by omega)⟩ dX9_tellOneRow_5 (by decide) (fun c_13 => ?_) (fun c_13 => ?_)
  · obtain ⟨V1, e1, w1, bb1, l1, pp1, f1, n1⟩ := xu_9.2.1 (by omega)
    rw [← hqS] at w1
    refine lv_aload_n hx hb dX9_tellOneRow_10 rfl (lv_at hl 0 rfl) ?_
    refine g_X9_31 Cx hW (k := 11) (by decide) rfl (v := .ref (G.2.2.1 + 19)) (rf_11_4 iu_9) dX9_tellOneRow_11 ?_
    refine lv_iconst (v := iv 0) hx hb dX9_tellOneRow_14 (by decide) ?_
    refine rAald Cx hW (k := 19) (by decide) rfl (by decide) (by omega) (by omega) (r2_19f (dn := 0) iu_9 hqS (by omega) (by omega)) dX9_tellOneRow_15 ?_
    refine lv_iconst (v := iv 0) hx hb dX9_tellOneRow_16 (by decide) ?_
    refine lv_aload_n hx hb dX9_tellOneRow_17 rfl (lv_at hl 0 rfl) ?_
    refine g_X9_40 Cx hW (k := 11) (by decide) rfl (v := .ref (G.2.2.1 + 115)) (rf_11_7 iu_9) dX9_tellOneRow_18 ?_
    refine lv_iconst (v := iv 0) hx hb dX9_tellOneRow_21 (by decide) ?_
    refine lv_bipush (v := iv 13) hx hb dX9_tellOneRow_22 (by decide) ?_
    refine rCopyL Cx hW hL (hml.trans hl.1.symm) w_1087 w_1089 w_1088 w_224 (k0 := qS) (k1 := 115) (lr_l lqS) lqS.1 (by decide) rfl (by decide) (by decide) (by omega) (by omega) (by omega) (by omega) (by omega) (rmk_f (by omega)) (rmk_l (by omega) (by decide)) dX9_tellOneRow_24 (fun H locs hW hL => ?_)
    have F_14 : Fr S (uD u_9 qS 0 115 0 13) pG := F_12.D rfl
    have F_15 : Fr u_9 (uD u_9 qS 0 115 0 13) pRm := (Fr.rf : Fr u_9 u_9 pRm).D rfl
    have i_16 : cX G (uD u_9 qS 0 115 0 13) 0 0 0 := iu_9.D (lr_k lqS)
    refine lv_aload_n hx hb dX9_tellOneRow_27 rfl (lv_at hl 0 rfl) ?_
    have q_17 : (-2147483648) ≤ u_9.1 11 13 ∧ u_9.1 11 13 ≤ 2147483647 := iu_9.fi 11 13 9 (by decide) rfl
    refine g_X9_89 Cx hW (k := 11) (by decide) rfl (v := u_9.1 11 13) uD_f dX9_tellOneRow_28 ?_
    refine lv_istore_n (lv' := [(2, .int (iv (u_9.1 11 13))), (0, .ref (G.2.2.1 + 11)), (1, .int (iv nm))]) hx hb dX9_tellOneRow_31 rfl hl (by decide) rfl (fun ls hl => ?_)
    refine lv_aload_n hx hb dX9_tellOneRow_32 rfl (lv_at hl 1 rfl) ?_
    refine lv_dup hx hb dX9_tellOneRow_33 rfl ?_
    refine g_X9_89 Cx hW (k := 11) (by decide) rfl (v := u_9.1 11 13) uD_f dX9_tellOneRow_34 ?_
    refine lv_iconst (v := iv 1) hx hb dX9_tellOneRow_37 (by decide) ?_
    refine r_iadd hx hb dX9_tellOneRow_38 ?_
    refine p_X9_89 Cx hW hL (k := 11) (by decide) rfl dX9_tellOneRow_39 (fun H locs hW hL => ?_)
    have F_18 : Fr S (uF (uD u_9 qS 0 115 0 13) 11 13 ((u_9.1 11 13) + 1)) pG := F_14.F rfl
    have F_19 : Fr u_9 (uF (uD u_9 qS 0 115 0 13) 11 13 ((u_9.1 11 13) + 1)) pRm := F_15.F rfl
    have F_20 : Fr ((uD u_9 qS 0 115 0 13)) (uF (uD u_9 qS 0 115 0 13) 11 13 ((u_9.1 11 13) + 1)) (pEx 0 0 0) := (Fr.rf : Fr (uD u_9 qS 0 115 0 13) (uD u_9 qS 0 115 0 13) (pEx 0 0 0)).F (pEx_y (by omega))
    have i_21 : cX G (uF (uD u_9 qS 0 115 0 13) 11 13 ((u_9.1 11 13) + 1)) 0 0 0 := i_16.F rfl rfl (show (-2147483648) ≤ (u_9.1 11 13) + 1 ∧ (u_9.1 11 13) + 1 ≤ 2147483647 from ⟨by omega, by omega⟩)
    refine lv_aload_n hx hb dX9_tellOneRow_42 rfl (lv_at hl 1 rfl) ?_
    refine lv_iconst (v := iv 0) hx hb dX9_tellOneRow_43 (by decide) ?_
    have q_22 : 0 ≤ u_9.1 11 9 ∧ u_9.1 11 9 ≤ 128 := iu_9.fi 11 9 9 (by decide) rfl
    have lk_23 : (uF (uD u_9 qS 0 115 0 13) 11 13 ((u_9.1 11 13) + 1)).1 11 9 = u_9.1 11 9 := (uF_ne (fun h => absurd h.2 (by decide))).trans (uD_f)
    have q_24 : 0 ≤ u_9.1 11 10 ∧ u_9.1 11 10 ≤ 8 := iu_9.fi 11 10 9 (by decide) rfl
    have lk_25 : (uF (uD u_9 qS 0 115 0 13) 11 13 ((u_9.1 11 13) + 1)).1 11 10 = u_9.1 11 10 := (uF_ne (fun h => absurd h.2 (by decide))).trans (uD_f)
    have q_26 : 0 ≤ u_9.1 11 11 ∧ u_9.1 11 11 ≤ 12 := iu_9.fi 11 11 9 (by decide) rfl
    have lk_27 : (uF (uD u_9 qS 0 115 0 13) 11 13 ((u_9.1 11 13) + 1)).1 11 11 = u_9.1 11 11 := (uF_ne (fun h => absurd h.2 (by decide))).trans (uD_f)
    have q_28 : (-2147483648) ≤ u_9.1 11 12 ∧ u_9.1 11 12 ≤ 2147483647 := iu_9.fi 11 12 9 (by decide) rfl
    have lk_29 : (uF (uD u_9 qS 0 115 0 13) 11 13 ((u_9.1 11 13) + 1)).1 11 12 = u_9.1 11 12 := (uF_ne (fun h => absurd h.2 (by decide))).trans (uD_f)
    have lk_30 : (uF (uD u_9 qS 0 115 0 13) 11 13 ((u_9.1 11 13) + 1)).1 11 13 = (u_9.1 11 13) + 1 := uF_on
    have q_31 : 0 ≤ u_9.1 11 14 ∧ u_9.1 11 14 ≤ 7 := iu_9.fi 11 14 9 (by decide) rfl
    have lk_32 : (uF (uD u_9 qS 0 115 0 13) 11 13 ((u_9.1 11 13) + 1)).1 11 14 = u_9.1 11 14 := (uF_ne (fun h => absurd h.2 (by decide))).trans (uD_f)
    have lk_33 : (uF (uD u_9 qS 0 115 0 13) 11 13 ((u_9.1 11 13) + 1)).1 o 2 = S.1 o 2 := (uF_ne (fun h => absurd h.2 (by decide))).trans ((uD_f).trans ((fu_9 o (pEx_o (mdl_out hm).2.2)).1 2))
    have lk_34 : (uF (uD u_9 qS 0 115 0 13) 11 13 ((u_9.1 11 13) + 1)).1 o 3 = S.1 o 3 := (uF_ne (fun h => absurd h.2 (by decide))).trans ((uD_f).trans ((fu_9 o (pEx_o (mdl_out hm).2.2)).1 3))
    have nr_35 : NRc N (uF (uD u_9 qS 0 115 0 13) 11 13 ((u_9.1 11 13) + 1)) := n1.of (by omega) (fun j => (F_19 16 rfl).2.2.1 j) (fun j => (F_19 17 rfl).2.1 j) (fun j => (F_19 18 rfl).2.1 j)
    have kv_36 : KV (uF (uD u_9 qS 0 115 0 13) 11 13 ((u_9.1 11 13) + 1)) k v T := hkv.fr F_18 rfl rfl rfl
    refine sBi (sV (As := [.int (iv 0)]) (rest := []) (k := 11) Cx ((telE l G) (uF (uD u_9 qS 0 115 0 13) 11 13 ((u_9.1 11 13) + 1)) N k v T (a1 + 1) b1 30 i_21 ⟨nr_35, hK, hTV, kv_36, (by omega), (by omega), (by omega), ⟨by omega, by omega⟩⟩ (by decide) (by omega) (by omega) hg3) (c_X9_166 Cx rfl rfl (rmk_ok (by omega) (by decide))) hW (by decide) rfl rfl rfl hl.1 rfl (Nat.le_of_ble_eq_true rfl) dX9_tellOneRow_44 ⟨Nat.le_of_ble_eq_true rfl, Nat.le_of_ble_eq_true rfl⟩) hL (fun r_39 u_37 H locs k_38 hW hL => ?_)
    obtain ⟨iu_37, fu_37, xu_37⟩ := k_38
    have yu_37 := xu_37.1.2
    have F_40 := F_18.trans (fu_37.to (fun k h => pV_G k (pEx_V k h)))
    have F_41 := F_20.trans fu_37
    refine r_if_ne (tgt := 52) hx hb ⟨(by omega), (by omega)⟩ dX9_tellOneRow_47 (by decide) (fun c_42 => ?_) (fun c_42 => ?_)
    · obtain ⟨V2, e2, w2, bb2, l2, pp2, f2, n2⟩ := xu_37.2.1 (by omega)
      rw [← hqS] at w2
      have wL : veq (u_37.2.2.1 115) V1 := veq_tr (fun j a b => (F_41 115 (pEx_n (by omega))).2.2.1 j) (veq_cp w1)
      refine lv_aload_n hx hb dX9_tellOneRow_52 rfl (lv_at hl 1 rfl) ?_
      refine g_X9_40 Cx hW (k := 11) (by decide) rfl (v := .ref (G.2.2.1 + 115)) (rf_11_7 iu_37) dX9_tellOneRow_53 ?_
      refine lv_aload_n hx hb dX9_tellOneRow_56 rfl (lv_at hl 1 rfl) ?_
      refine g_X9_31 Cx hW (k := 11) (by decide) rfl (v := .ref (G.2.2.1 + 19)) (rf_11_4 iu_37) dX9_tellOneRow_57 ?_
      refine lv_iconst (v := iv 0) hx hb dX9_tellOneRow_60 (by decide) ?_
      refine rAald Cx hW (k := 19) (by decide) rfl (by decide) (by omega) (by omega) (r2_19f (dn := 0) iu_37 hqS (by omega) (by omega)) dX9_tellOneRow_61 ?_
      refine lv_iconst (v := iv (-1)) hx hb dX9_tellOneRow_62 (by decide) ?_
      refine sBv (sSt (As := [.ref (G.2.2.1 + 115), .ref (G.2.2.1 + qS), .int (iv ((-1)))]) (rest := []) Cx (e_X9_addTo l G u_37 (qa := 115) (qb := qS) (t := (-1)) iu_37 ⟨rfl, by decide, by decide⟩ lqS (by omega) (by omega) (bb1.eq wL).bd (bb2.eq w2).bd) (c_X9_185 Cx rfl rfl (rmk_ok (by omega) (by decide))) hW rfl hl.1 rfl (Nat.le_of_ble_eq_true rfl) dX9_tellOneRow_63 ⟨Nat.le_of_ble_eq_true rfl, Nat.le_of_ble_eq_true rfl⟩) hL (fun u_43 H locs k_44 hW hL => ?_)
      obtain ⟨iu_43, fu_43, xu_43⟩ := k_44
      have F_45 := F_40.trans (fu_43.to (p1_sub rfl))
      have F_46 := (Fr.rf : Fr u_37 u_37 pRm).trans (fu_43.to (p1_sub rfl))
      have wS : veq (u_43.2.2.1 115) (vad V1 V2 (-1)) := veq_tr xu_43 (veq_vad wL w2)
      refine lv_aload_n hx hb dX9_tellOneRow_66 rfl (lv_at hl 1 rfl) ?_
      refine g_X9_40 Cx hW (k := 11) (by decide) rfl (v := .ref (G.2.2.1 + 115)) (rf_11_7 iu_43) dX9_tellOneRow_67 ?_
      refine sBi (sSt (As := [.ref (G.2.2.1 + 115)]) (rest := []) Cx (e_X9_isGreat l G u_43 (qa := 115) iu_43 ⟨rfl, by decide, by decide⟩ (vbd_ad bb1 bb2 (.inr rfl) wS)) (c_X9_189 Cx rfl rfl (rmk_ok (by omega) (by decide))) hW rfl hl.1 rfl (Nat.le_of_ble_eq_true rfl) dX9_tellOneRow_70 ⟨Nat.le_of_ble_eq_true rfl, Nat.le_of_ble_eq_true rfl⟩) hL (fun r_49 u_47 H locs k_48 hW hL => ?_)
      obtain ⟨eu_47, xu_47⟩ := k_48
      rw [eu_47] at hW
      refine r_if_eq (tgt := 84) hx hb ⟨(by omega), (by omega)⟩ dX9_tellOneRow_73 (by decide) (fun c_50 => ?_) (fun c_50 => ?_)
      · have ngr : Hd (¬ grt (vad V1 V2 (-1))) := (fun z => xu_47.2.2 (by omega) ((veq_grt wS).mpr z))
        refine lv_aload_n hx hb dX9_tellOneRow_84 rfl (lv_at hl 1 rfl) ?_
        refine g_X9_14 Cx hW (k := 11) (by decide) rfl (v := .ref (G.2.2.1 + 12)) (rf_11_0 iu_43) dX9_tellOneRow_85 ?_
        refine lv_iload_n hx hb dX9_tellOneRow_88 rfl (lv_at hl 0 rfl) ?_
        refine sBi (sV (As := [.int (iv (u_9.1 11 13))]) (rest := []) (k := 12) Cx (s_X8_kind l G u_43 (k := u_9.1 11 13) iu_43 (by omega)) (c_X9_95 Cx rfl rfl (rmk_ok (by omega) (by decide))) hW (by decide) rfl rfl rfl hl.1 rfl (Nat.le_of_ble_eq_true rfl) dX9_tellOneRow_89 ⟨Nat.le_of_ble_eq_true rfl, Nat.le_of_ble_eq_true rfl⟩) hL (fun r_53 u_51 H locs k_52 hW hL => ?_)
        obtain ⟨eu_51, xu_51⟩ := k_52
        rw [eu_51] at hW
        have kv_54 : KV u_43 k v T := hkv.fr F_45 rfl rfl rfl
        have ka : r_53 = k a1 := (by rw [← kv_54.1]; exact xu_51.1.trans (congrArg (kd _) (by omega)))
        refine lv_istore_n (lv' := [(3, .int (iv r_53)), (2, .int (iv (u_9.1 11 13))), (0, .ref (G.2.2.1 + 11)), (1, .int (iv nm))]) hx hb dX9_tellOneRow_92 rfl hl (by decide) rfl (fun ls hl => ?_)
        refine lv_iload_n hx hb dX9_tellOneRow_93 rfl (lv_at hl 0 rfl) ?_
        refine lv_bipush (v := iv 13) hx hb dX9_tellOneRow_94 (by decide) ?_
        refine r_icmp_ne (tgt := 103) hx hb ⟨(by omega), (by omega)⟩ ⟨(by omega), (by omega)⟩ dX9_tellOneRow_96 (by decide) (fun c_55 => ?_) (fun c_55 => ?_)
        · refine lv_iconst (v := iv 1) hx hb dX9_tellOneRow_103 (by decide) ?_
          refine lv_istore (lv' := [(4, .int (iv 1)), (3, .int (iv r_53)), (2, .int (iv (u_9.1 11 13))), (0, .ref (G.2.2.1 + 11)), (1, .int (iv nm))]) hx hb dX9_tellOneRow_104 hl (by decide) rfl (fun ls hl => ?_)
          refine lv_aload_n hx hb dX9_tellOneRow_106 rfl (lv_at hl 3 rfl) ?_
          refine g_X9_46 Cx hW (k := 11) (by decide) rfl (v := .ref (G.2.2.1 + o)) (((fun i => (((fu_43 11 rfl).2.2.2 i).trans ((xu_37.1.1.1 i).trans (xu_9.1.1.1 i)))) 8).trans hrf) dX9_tellOneRow_107 ?_
          refine g_X9_193 Cx hW (k := o) (mdl_l hm) hm.1 (v := S.1 o 3) (((fu_43 o (p1_no (tau_ne hm.1 (rfl : tau 115 = .inr (.long, 13)) (fun h => by cases h)))).1 3).trans (((fu_37 o (pEx_o (mdl_out hm).2.2)).1 3).trans ((uF_ne (fun h => absurd h.2 (by decide))).trans ((uD_f).trans ((fu_9 o (pEx_o (mdl_out hm).2.2)).1 3))))) dX9_tellOneRow_110 ?_
          refine lv_iload hx hb dX9_tellOneRow_113 (lv_at hl 0 rfl) ?_
          refine r_iadd hx hb dX9_tellOneRow_115 ?_
          refine lv_bipush (v := iv 16) hx hb dX9_tellOneRow_116 (by decide) ?_
          refine r_icmp_le (tgt := 129) hx hb ⟨(by omega), (by omega)⟩ ⟨(by omega), (by omega)⟩ dX9_tellOneRow_118 (by decide) (fun c_56 => ?_) (fun c_56 => ?_)
          · refine lv_iload_n hx hb dX9_tellOneRow_129 rfl (lv_at hl 1 rfl) ?_
            refine lv_bipush (v := iv 26) hx hb dX9_tellOneRow_130 (by decide) ?_
            refine r_icmp_eq (tgt := 147) hx hb ⟨(by omega), (by omega)⟩ ⟨(by omega), (by omega)⟩ dX9_tellOneRow_132 (by decide) (fun c_57 => ?_) (fun c_57 => ?_)
            · refine lv_iload_n hx hb dX9_tellOneRow_147 rfl (lv_at hl 1 rfl) ?_
              refine lv_bipush (v := iv 25) hx hb dX9_tellOneRow_148 (by decide) ?_
              refine r_icmp_eq (tgt := 165) hx hb ⟨(by omega), (by omega)⟩ ⟨(by omega), (by omega)⟩ dX9_tellOneRow_150 (by decide) (fun c_58 => ?_) (fun c_58 => ?_)
              · exfalso; omega
              · refine lv_aload_n hx hb dX9_tellOneRow_153 rfl (lv_at hl 3 rfl) ?_
                refine g_X9_46 Cx hW (k := 11) (by decide) rfl (v := .ref (G.2.2.1 + o)) (((fun i => (((fu_43 11 rfl).2.2.2 i).trans ((xu_37.1.1.1 i).trans (xu_9.1.1.1 i)))) 8).trans hrf) dX9_tellOneRow_154 ?_
                refine lv_aload_n hx hb dX9_tellOneRow_157 rfl (lv_at hl 3 rfl) ?_
                refine g_X9_40 Cx hW (k := 11) (by decide) rfl (v := .ref (G.2.2.1 + 115)) (rf_11_7 iu_43) dX9_tellOneRow_158 ?_
                refine lv_iconst (v := iv (-1)) hx hb dX9_tellOneRow_161 (by decide) ?_
                have lk_59 : u_43.1 o 3 = S.1 o 3 := ((fu_43 o (p1_no (tau_ne hm.1 (rfl : tau 115 = .inr (.long, 13)) (fun h => by cases h)))).1 3).trans (((fu_37 o (pEx_o (mdl_out hm).2.2)).1 3).trans ((uF_ne (fun h => absurd h.2 (by decide))).trans ((uD_f).trans ((fu_9 o (pEx_o (mdl_out hm).2.2)).1 3))))
                have lk_60 : u_43.1 o 2 = S.1 o 2 := ((fu_43 o (p1_no (tau_ne hm.1 (rfl : tau 115 = .inr (.long, 13)) (fun h => by cases h)))).1 2).trans (((fu_37 o (pEx_o (mdl_out hm).2.2)).1 2).trans ((uF_ne (fun h => absurd h.2 (by decide))).trans ((uD_f).trans ((fu_9 o (pEx_o (mdl_out hm).2.2)).1 2))))
                refine sBv (sV (As := [.ref (G.2.2.1 + 115), .int (iv ((-1)))]) (rest := []) (k := o) Cx (e_X3_addRow l G u_43 (o := o) (q := 115) (t := (-1)) iu_43 hm ⟨rfl, by decide⟩ (by omega) (by omega)) (c_X9_196 Cx rfl rfl (rmk_ok (by omega) (by decide))) hW (mdl_l hm) hm.1 rfl rfl hl.1 rfl (Nat.le_of_ble_eq_true rfl) dX9_tellOneRow_162 ⟨Nat.le_of_ble_eq_true rfl, Nat.le_of_ble_eq_true rfl⟩) hL (fun u_61 H locs k_62 hW hL => ?_)
                obtain ⟨iu_61, fu_61, xu_61⟩ := k_62
                have F_63 := F_45.trans (fu_61.to (pM_sub (mdl_pG hm).1 (mdl_pG hm).2.1 (mdl_pG hm).2.2))
                have F_64 := F_46.trans (fu_61.to (pM_sub (mdl_Rm hm).1 (mdl_Rm hm).2.1 (mdl_Rm hm).2.2))
                refine lv_aload_n hx hb dX9_tellOneRow_165 rfl (lv_at hl 3 rfl) ?_
                refine lv_dup hx hb dX9_tellOneRow_166 rfl ?_
                have q_65 : (-2147483648) ≤ u_37.1 11 13 ∧ u_37.1 11 13 ≤ 2147483647 := iu_37.fi 11 13 9 (by decide) rfl
                refine g_X9_89 Cx hW (k := 11) (by decide) rfl (v := u_37.1 11 13) (((fu_61 11 (pM_no (tau_ne (rfl : tau 11 = .inl 9) hm.1 (fun h => by cases h)) (tau_ne (rfl : tau 11 = .inl 9) hm.2.1 (fun h => by cases h)) (tau_ne (rfl : tau 11 = .inl 9) hm.2.2.1 (fun h => by cases h)))).1 13).trans ((fu_43 11 rfl).1 13)) dX9_tellOneRow_167 ?_
                refine lv_iconst (v := iv 1) hx hb dX9_tellOneRow_170 (by decide) ?_
                refine r_iadd hx hb dX9_tellOneRow_171 ?_
                refine p_X9_89 Cx hW hL (k := 11) (by decide) rfl dX9_tellOneRow_172 (fun H locs hW hL => ?_)
                have F_66 : Fr S (uF u_61 11 13 ((u_37.1 11 13) + 1)) pG := F_63.F rfl
                have F_67 : Fr u_37 (uF u_61 11 13 ((u_37.1 11 13) + 1)) pRm := F_64.F rfl
                have i_68 : cX G (uF u_61 11 13 ((u_37.1 11 13) + 1)) 0 0 0 := iu_61.F rfl rfl (show (-2147483648) ≤ (u_37.1 11 13) + 1 ∧ (u_37.1 11 13) + 1 ≤ 2147483647 from ⟨by omega, by omega⟩)
                refine lv_iconst (v := iv 1) hx hb dX9_tellOneRow_175 (by decide) ?_
                have q_69 : 0 ≤ u_37.1 11 9 ∧ u_37.1 11 9 ≤ 128 := iu_37.fi 11 9 9 (by decide) rfl
                have lk_70 : (uF u_61 11 13 ((u_37.1 11 13) + 1)).1 11 9 = u_37.1 11 9 := (uF_ne (fun h => absurd h.2 (by decide))).trans (((fu_61 11 (pM_no (tau_ne (rfl : tau 11 = .inl 9) hm.1 (fun h => by cases h)) (tau_ne (rfl : tau 11 = .inl 9) hm.2.1 (fun h => by cases h)) (tau_ne (rfl : tau 11 = .inl 9) hm.2.2.1 (fun h => by cases h)))).1 9).trans ((fu_43 11 rfl).1 9))
                have q_71 : 0 ≤ u_37.1 11 10 ∧ u_37.1 11 10 ≤ 8 := iu_37.fi 11 10 9 (by decide) rfl
                have lk_72 : (uF u_61 11 13 ((u_37.1 11 13) + 1)).1 11 10 = u_37.1 11 10 := (uF_ne (fun h => absurd h.2 (by decide))).trans (((fu_61 11 (pM_no (tau_ne (rfl : tau 11 = .inl 9) hm.1 (fun h => by cases h)) (tau_ne (rfl : tau 11 = .inl 9) hm.2.1 (fun h => by cases h)) (tau_ne (rfl : tau 11 = .inl 9) hm.2.2.1 (fun h => by cases h)))).1 10).trans ((fu_43 11 rfl).1 10))
                have q_73 : 0 ≤ u_37.1 11 11 ∧ u_37.1 11 11 ≤ 12 := iu_37.fi 11 11 9 (by decide) rfl
                have lk_74 : (uF u_61 11 13 ((u_37.1 11 13) + 1)).1 11 11 = u_37.1 11 11 := (uF_ne (fun h => absurd h.2 (by decide))).trans (((fu_61 11 (pM_no (tau_ne (rfl : tau 11 = .inl 9) hm.1 (fun h => by cases h)) (tau_ne (rfl : tau 11 = .inl 9) hm.2.1 (fun h => by cases h)) (tau_ne (rfl : tau 11 = .inl 9) hm.2.2.1 (fun h => by cases h)))).1 11).trans ((fu_43 11 rfl).1 11))
                have q_75 : (-2147483648) ≤ u_37.1 11 12 ∧ u_37.1 11 12 ≤ 2147483647 := iu_37.fi 11 12 9 (by decide) rfl
                have lk_76 : (uF u_61 11 13 ((u_37.1 11 13) + 1)).1 11 12 = u_37.1 11 12 := (uF_ne (fun h => absurd h.2 (by decide))).trans (((fu_61 11 (pM_no (tau_ne (rfl : tau 11 = .inl 9) hm.1 (fun h => by cases h)) (tau_ne (rfl : tau 11 = .inl 9) hm.2.1 (fun h => by cases h)) (tau_ne (rfl : tau 11 = .inl 9) hm.2.2.1 (fun h => by cases h)))).1 12).trans ((fu_43 11 rfl).1 12))
                have lk_77 : (uF u_61 11 13 ((u_37.1 11 13) + 1)).1 11 13 = (u_37.1 11 13) + 1 := uF_on
                have q_78 : 0 ≤ u_37.1 11 14 ∧ u_37.1 11 14 ≤ 7 := iu_37.fi 11 14 9 (by decide) rfl
                have lk_79 : (uF u_61 11 13 ((u_37.1 11 13) + 1)).1 11 14 = u_37.1 11 14 := (uF_ne (fun h => absurd h.2 (by decide))).trans (((fu_61 11 (pM_no (tau_ne (rfl : tau 11 = .inl 9) hm.1 (fun h => by cases h)) (tau_ne (rfl : tau 11 = .inl 9) hm.2.1 (fun h => by cases h)) (tau_ne (rfl : tau 11 = .inl 9) hm.2.2.1 (fun h => by cases h)))).1 14).trans ((fu_43 11 rfl).1 14))
                have q_80 : 0 ≤ u_61.1 o 2 ∧ u_61.1 o 2 ≤ 12 := iu_61.fi o 2 3 (mdl_k hm) hm.1
                have lk_81 : (uF u_61 11 13 ((u_37.1 11 13) + 1)).1 o 2 = u_61.1 o 2 := uF_ne (fun h => absurd h.2 (by decide))
                have q_82 : 0 ≤ u_61.1 o 3 ∧ u_61.1 o 3 ≤ 16 := iu_61.fi o 3 3 (mdl_k hm) hm.1
                have lk_83 : (uF u_61 11 13 ((u_37.1 11 13) + 1)).1 o 3 = u_61.1 o 3 := uF_ne (fun h => absurd h.2 (by decide))
                have nr_84 : NRc N (uF u_61 11 13 ((u_37.1 11 13) + 1)) := n2.of (by omega) (fun j => (F_67 16 rfl).2.2.1 j) (fun j => (F_67 17 rfl).2.1 j) (fun j => (F_67 18 rfl).2.1 j)
                exact sZret Cx hr hlk hW hL (by omega) ⟨i_68, F_66, ⟨⟨⟨(fun i => (((fu_61 11 (pM_no (tau_ne (rfl : tau 11 = .inl 9) hm.1 (fun h => by cases h)) (tau_ne (rfl : tau 11 = .inl 9) hm.2.1 (fun h => by cases h)) (tau_ne (rfl : tau 11 = .inl 9) hm.2.2.1 (fun h => by cases h)))).2.2.2 i).trans (((fu_43 11 rfl).2.2.2 i).trans ((xu_37.1.1.1 i).trans (xu_9.1.1.1 i))))), (fun h => absurd h (by decide))⟩, by omega, by omega, by omega, by omega, by omega⟩, (fun _ => ⟨(by rw [eRo_4 e1 (by rw [show (uF (uD u_9 qS 0 115 0 13) 11 13 ((u_9.1 11 13) + 1)).1 11 12 = u_9.1 11 12 by omega] at e2; exact e2) ngr (by rw [(show (if k a1 = 13 then (2 : Int) else 1) = 1 from if_neg (by omega))]; omega), (show (if k a1 = 13 then (2 : Int) else 1) = 1 from if_neg (by omega)), show (uF u_61 11 13 ((u_37.1 11 13) + 1)).1 o 3 = S.1 o 3 + 1 by omega, show (uF u_61 11 13 ((u_37.1 11 13) + 1)).1 11 12 = u_37.1 11 12 by omega, show q = b1 + 1 by omega]), ⟨by omega, by omega⟩, ⟨by omega, by omega⟩, (by omega), (by omega), nr_84⟩), (fun h => absurd h (by decide))⟩⟩ dX9_tellOneRow_176
            · refine lv_aload_n hx hb dX9_tellOneRow_135 rfl (lv_at hl 3 rfl) ?_
              refine g_X9_46 Cx hW (k := 11) (by decide) rfl (v := .ref (G.2.2.1 + o)) (((fun i => (((fu_43 11 rfl).2.2.2 i).trans ((xu_37.1.1.1 i).trans (xu_9.1.1.1 i)))) 8).trans hrf) dX9_tellOneRow_136 ?_
              refine lv_aload_n hx hb dX9_tellOneRow_139 rfl (lv_at hl 3 rfl) ?_
              refine g_X9_40 Cx hW (k := 11) (by decide) rfl (v := .ref (G.2.2.1 + 115)) (rf_11_7 iu_43) dX9_tellOneRow_140 ?_
              refine lv_iconst (v := iv 1) hx hb dX9_tellOneRow_143 (by decide) ?_
              have lk_85 : u_43.1 o 3 = S.1 o 3 := ((fu_43 o (p1_no (tau_ne hm.1 (rfl : tau 115 = .inr (.long, 13)) (fun h => by cases h)))).1 3).trans (((fu_37 o (pEx_o (mdl_out hm).2.2)).1 3).trans ((uF_ne (fun h => absurd h.2 (by decide))).trans ((uD_f).trans ((fu_9 o (pEx_o (mdl_out hm).2.2)).1 3))))
              have lk_86 : u_43.1 o 2 = S.1 o 2 := ((fu_43 o (p1_no (tau_ne hm.1 (rfl : tau 115 = .inr (.long, 13)) (fun h => by cases h)))).1 2).trans (((fu_37 o (pEx_o (mdl_out hm).2.2)).1 2).trans ((uF_ne (fun h => absurd h.2 (by decide))).trans ((uD_f).trans ((fu_9 o (pEx_o (mdl_out hm).2.2)).1 2))))
              refine sBv (sV (As := [.ref (G.2.2.1 + 115), .int (iv 1)]) (rest := []) (k := o) Cx (e_X3_addRow l G u_43 (o := o) (q := 115) (t := 1) iu_43 hm ⟨rfl, by decide⟩ (by omega) (by omega)) (c_X9_196 Cx rfl rfl (rmk_ok (by omega) (by decide))) hW (mdl_l hm) hm.1 rfl rfl hl.1 rfl (Nat.le_of_ble_eq_true rfl) dX9_tellOneRow_144 ⟨Nat.le_of_ble_eq_true rfl, Nat.le_of_ble_eq_true rfl⟩) hL (fun u_87 H locs k_88 hW hL => ?_)
              obtain ⟨iu_87, fu_87, xu_87⟩ := k_88
              have F_89 := F_45.trans (fu_87.to (pM_sub (mdl_pG hm).1 (mdl_pG hm).2.1 (mdl_pG hm).2.2))
              have F_90 := F_46.trans (fu_87.to (pM_sub (mdl_Rm hm).1 (mdl_Rm hm).2.1 (mdl_Rm hm).2.2))
              refine lv_iload_n hx hb dX9_tellOneRow_147 rfl (lv_at hl 1 rfl) ?_
              refine lv_bipush (v := iv 25) hx hb dX9_tellOneRow_148 (by decide) ?_
              refine r_icmp_eq (tgt := 165) hx hb ⟨(by omega), (by omega)⟩ ⟨(by omega), (by omega)⟩ dX9_tellOneRow_150 (by decide) (fun c_91 => ?_) (fun c_91 => ?_)
              · refine lv_aload_n hx hb dX9_tellOneRow_165 rfl (lv_at hl 3 rfl) ?_
                refine lv_dup hx hb dX9_tellOneRow_166 rfl ?_
                have q_92 : (-2147483648) ≤ u_37.1 11 13 ∧ u_37.1 11 13 ≤ 2147483647 := iu_37.fi 11 13 9 (by decide) rfl
                refine g_X9_89 Cx hW (k := 11) (by decide) rfl (v := u_37.1 11 13) (((fu_87 11 (pM_no (tau_ne (rfl : tau 11 = .inl 9) hm.1 (fun h => by cases h)) (tau_ne (rfl : tau 11 = .inl 9) hm.2.1 (fun h => by cases h)) (tau_ne (rfl : tau 11 = .inl 9) hm.2.2.1 (fun h => by cases h)))).1 13).trans ((fu_43 11 rfl).1 13)) dX9_tellOneRow_167 ?_
                refine lv_iconst (v := iv 1) hx hb dX9_tellOneRow_170 (by decide) ?_
                refine r_iadd hx hb dX9_tellOneRow_171 ?_
                refine p_X9_89 Cx hW hL (k := 11) (by decide) rfl dX9_tellOneRow_172 (fun H locs hW hL => ?_)
                have F_93 : Fr S (uF u_87 11 13 ((u_37.1 11 13) + 1)) pG := F_89.F rfl
                have F_94 : Fr u_37 (uF u_87 11 13 ((u_37.1 11 13) + 1)) pRm := F_90.F rfl
                have i_95 : cX G (uF u_87 11 13 ((u_37.1 11 13) + 1)) 0 0 0 := iu_87.F rfl rfl (show (-2147483648) ≤ (u_37.1 11 13) + 1 ∧ (u_37.1 11 13) + 1 ≤ 2147483647 from ⟨by omega, by omega⟩)
                refine lv_iconst (v := iv 1) hx hb dX9_tellOneRow_175 (by decide) ?_
                have q_96 : 0 ≤ u_37.1 11 9 ∧ u_37.1 11 9 ≤ 128 := iu_37.fi 11 9 9 (by decide) rfl
                have lk_97 : (uF u_87 11 13 ((u_37.1 11 13) + 1)).1 11 9 = u_37.1 11 9 := (uF_ne (fun h => absurd h.2 (by decide))).trans (((fu_87 11 (pM_no (tau_ne (rfl : tau 11 = .inl 9) hm.1 (fun h => by cases h)) (tau_ne (rfl : tau 11 = .inl 9) hm.2.1 (fun h => by cases h)) (tau_ne (rfl : tau 11 = .inl 9) hm.2.2.1 (fun h => by cases h)))).1 9).trans ((fu_43 11 rfl).1 9))
                have q_98 : 0 ≤ u_37.1 11 10 ∧ u_37.1 11 10 ≤ 8 := iu_37.fi 11 10 9 (by decide) rfl
                have lk_99 : (uF u_87 11 13 ((u_37.1 11 13) + 1)).1 11 10 = u_37.1 11 10 := (uF_ne (fun h => absurd h.2 (by decide))).trans (((fu_87 11 (pM_no (tau_ne (rfl : tau 11 = .inl 9) hm.1 (fun h => by cases h)) (tau_ne (rfl : tau 11 = .inl 9) hm.2.1 (fun h => by cases h)) (tau_ne (rfl : tau 11 = .inl 9) hm.2.2.1 (fun h => by cases h)))).1 10).trans ((fu_43 11 rfl).1 10))
                have q_100 : 0 ≤ u_37.1 11 11 ∧ u_37.1 11 11 ≤ 12 := iu_37.fi 11 11 9 (by decide) rfl
                have lk_101 : (uF u_87 11 13 ((u_37.1 11 13) + 1)).1 11 11 = u_37.1 11 11 := (uF_ne (fun h => absurd h.2 (by decide))).trans (((fu_87 11 (pM_no (tau_ne (rfl : tau 11 = .inl 9) hm.1 (fun h => by cases h)) (tau_ne (rfl : tau 11 = .inl 9) hm.2.1 (fun h => by cases h)) (tau_ne (rfl : tau 11 = .inl 9) hm.2.2.1 (fun h => by cases h)))).1 11).trans ((fu_43 11 rfl).1 11))
                have q_102 : (-2147483648) ≤ u_37.1 11 12 ∧ u_37.1 11 12 ≤ 2147483647 := iu_37.fi 11 12 9 (by decide) rfl
                have lk_103 : (uF u_87 11 13 ((u_37.1 11 13) + 1)).1 11 12 = u_37.1 11 12 := (uF_ne (fun h => absurd h.2 (by decide))).trans (((fu_87 11 (pM_no (tau_ne (rfl : tau 11 = .inl 9) hm.1 (fun h => by cases h)) (tau_ne (rfl : tau 11 = .inl 9) hm.2.1 (fun h => by cases h)) (tau_ne (rfl : tau 11 = .inl 9) hm.2.2.1 (fun h => by cases h)))).1 12).trans ((fu_43 11 rfl).1 12))
                have lk_104 : (uF u_87 11 13 ((u_37.1 11 13) + 1)).1 11 13 = (u_37.1 11 13) + 1 := uF_on
                have q_105 : 0 ≤ u_37.1 11 14 ∧ u_37.1 11 14 ≤ 7 := iu_37.fi 11 14 9 (by decide) rfl
                have lk_106 : (uF u_87 11 13 ((u_37.1 11 13) + 1)).1 11 14 = u_37.1 11 14 := (uF_ne (fun h => absurd h.2 (by decide))).trans (((fu_87 11 (pM_no (tau_ne (rfl : tau 11 = .inl 9) hm.1 (fun h => by cases h)) (tau_ne (rfl : tau 11 = .inl 9) hm.2.1 (fun h => by cases h)) (tau_ne (rfl : tau 11 = .inl 9) hm.2.2.1 (fun h => by cases h)))).1 14).trans ((fu_43 11 rfl).1 14))
                have q_107 : 0 ≤ u_87.1 o 2 ∧ u_87.1 o 2 ≤ 12 := iu_87.fi o 2 3 (mdl_k hm) hm.1
                have lk_108 : (uF u_87 11 13 ((u_37.1 11 13) + 1)).1 o 2 = u_87.1 o 2 := uF_ne (fun h => absurd h.2 (by decide))
                have q_109 : 0 ≤ u_87.1 o 3 ∧ u_87.1 o 3 ≤ 16 := iu_87.fi o 3 3 (mdl_k hm) hm.1
                have lk_110 : (uF u_87 11 13 ((u_37.1 11 13) + 1)).1 o 3 = u_87.1 o 3 := uF_ne (fun h => absurd h.2 (by decide))
                have nr_111 : NRc N (uF u_87 11 13 ((u_37.1 11 13) + 1)) := n2.of (by omega) (fun j => (F_94 16 rfl).2.2.1 j) (fun j => (F_94 17 rfl).2.1 j) (fun j => (F_94 18 rfl).2.1 j)
                exact sZret Cx hr hlk hW hL (by omega) ⟨i_95, F_93, ⟨⟨⟨(fun i => (((fu_87 11 (pM_no (tau_ne (rfl : tau 11 = .inl 9) hm.1 (fun h => by cases h)) (tau_ne (rfl : tau 11 = .inl 9) hm.2.1 (fun h => by cases h)) (tau_ne (rfl : tau 11 = .inl 9) hm.2.2.1 (fun h => by cases h)))).2.2.2 i).trans (((fu_43 11 rfl).2.2.2 i).trans ((xu_37.1.1.1 i).trans (xu_9.1.1.1 i))))), (fun h => absurd h (by decide))⟩, by omega, by omega, by omega, by omega, by omega⟩, (fun _ => ⟨(by rw [eRo_4 e1 (by rw [show (uF (uD u_9 qS 0 115 0 13) 11 13 ((u_9.1 11 13) + 1)).1 11 12 = u_9.1 11 12 by omega] at e2; exact e2) ngr (by rw [(show (if k a1 = 13 then (2 : Int) else 1) = 1 from if_neg (by omega))]; omega), (show (if k a1 = 13 then (2 : Int) else 1) = 1 from if_neg (by omega)), show (uF u_87 11 13 ((u_37.1 11 13) + 1)).1 o 3 = S.1 o 3 + 1 by omega, show (uF u_87 11 13 ((u_37.1 11 13) + 1)).1 11 12 = u_37.1 11 12 by omega, show q = b1 + 1 by omega]), ⟨by omega, by omega⟩, ⟨by omega, by omega⟩, (by omega), (by omega), nr_111⟩), (fun h => absurd h (by decide))⟩⟩ dX9_tellOneRow_176
              · exfalso; rcases hg2 with z | z | z <;> omega
          · refine lv_aload_n hx hb dX9_tellOneRow_121 rfl (lv_at hl 3 rfl) ?_
            refine lv_bipush (v := iv 7) hx hb dX9_tellOneRow_122 (by decide) ?_
            refine lv_iload_n hx hb dX9_tellOneRow_124 rfl (lv_at hl 4 rfl) ?_
            have q_112 : (-2147483648) ≤ u_37.1 11 13 ∧ u_37.1 11 13 ≤ 2147483647 := iu_37.fi 11 13 9 (by decide) rfl
            have lk_113 : u_43.1 11 13 = u_37.1 11 13 := (fu_43 11 rfl).1 13
            have q_114 : 0 ≤ u_37.1 11 9 ∧ u_37.1 11 9 ≤ 128 := iu_37.fi 11 9 9 (by decide) rfl
            have lk_115 : u_43.1 11 9 = u_37.1 11 9 := (fu_43 11 rfl).1 9
            have q_116 : 0 ≤ u_37.1 11 10 ∧ u_37.1 11 10 ≤ 8 := iu_37.fi 11 10 9 (by decide) rfl
            have lk_117 : u_43.1 11 10 = u_37.1 11 10 := (fu_43 11 rfl).1 10
            have q_118 : 0 ≤ u_37.1 11 11 ∧ u_37.1 11 11 ≤ 12 := iu_37.fi 11 11 9 (by decide) rfl
            have lk_119 : u_43.1 11 11 = u_37.1 11 11 := (fu_43 11 rfl).1 11
            have q_120 : (-2147483648) ≤ u_37.1 11 12 ∧ u_37.1 11 12 ≤ 2147483647 := iu_37.fi 11 12 9 (by decide) rfl
            have lk_121 : u_43.1 11 12 = u_37.1 11 12 := (fu_43 11 rfl).1 12
            refine sBi (sV (As := [.int (iv 7), .int (iv nm)]) (rest := []) (k := 11) Cx (e_X9_fail l G u_43 (k := 7) (tk := nm) iu_43 (by omega) (by omega)) (c_X9_132 Cx rfl rfl (rmk_ok (by omega) (by decide))) hW (by decide) rfl rfl rfl hl.1 rfl (Nat.le_of_ble_eq_true rfl) dX9_tellOneRow_125 ⟨Nat.le_of_ble_eq_true rfl, Nat.le_of_ble_eq_true rfl⟩) hL (fun r_124 u_122 H locs k_123 hW hL => ?_)
            obtain ⟨iu_122, fu_122, xu_122⟩ := k_123
            have F_125 := F_45.trans (fu_122.to (fun k h => pV_G k ((fun k h => pU_V k ((fun k h => pT_U k (p11_T k h)) k h)) k h)))
            have F_126 := F_46.trans (fu_122.to (p1_sub rfl))
            have q_127 : 0 ≤ u_122.1 11 9 ∧ u_122.1 11 9 ≤ 128 := iu_122.fi 11 9 9 (by decide) rfl
            have q_128 : 0 ≤ u_122.1 11 10 ∧ u_122.1 11 10 ≤ 8 := iu_122.fi 11 10 9 (by decide) rfl
            have q_129 : 0 ≤ u_122.1 11 11 ∧ u_122.1 11 11 ≤ 12 := iu_122.fi 11 11 9 (by decide) rfl
            have q_130 : (-2147483648) ≤ u_122.1 11 12 ∧ u_122.1 11 12 ≤ 2147483647 := iu_122.fi 11 12 9 (by decide) rfl
            have q_131 : (-2147483648) ≤ u_122.1 11 13 ∧ u_122.1 11 13 ≤ 2147483647 := iu_122.fi 11 13 9 (by decide) rfl
            have q_132 : 0 ≤ u_122.1 11 14 ∧ u_122.1 11 14 ≤ 7 := iu_122.fi 11 14 9 (by decide) rfl
            have lk_133 : u_122.1 o 2 = S.1 o 2 := ((fu_122 o (p1_no (tau_ne hm.1 (rfl : tau 11 = .inl 9) (fun h => by cases h)))).1 2).trans (((fu_43 o (p1_no (tau_ne hm.1 (rfl : tau 115 = .inr (.long, 13)) (fun h => by cases h)))).1 2).trans (((fu_37 o (pEx_o (mdl_out hm).2.2)).1 2).trans ((uF_ne (fun h => absurd h.2 (by decide))).trans ((uD_f).trans ((fu_9 o (pEx_o (mdl_out hm).2.2)).1 2)))))
            have lk_134 : u_122.1 o 3 = S.1 o 3 := ((fu_122 o (p1_no (tau_ne hm.1 (rfl : tau 11 = .inl 9) (fun h => by cases h)))).1 3).trans (((fu_43 o (p1_no (tau_ne hm.1 (rfl : tau 115 = .inr (.long, 13)) (fun h => by cases h)))).1 3).trans (((fu_37 o (pEx_o (mdl_out hm).2.2)).1 3).trans ((uF_ne (fun h => absurd h.2 (by decide))).trans ((uD_f).trans ((fu_9 o (pEx_o (mdl_out hm).2.2)).1 3)))))
            exact sZret Cx hr hlk hW hL (by omega) ⟨iu_122, F_125, ⟨⟨⟨(fun i => ((xu_122.2.2.2.2.2.2.2 i).trans (((fu_43 11 rfl).2.2.2 i).trans ((xu_37.1.1.1 i).trans (xu_9.1.1.1 i))))), (fun _ => by first | omega | exact xu_122.1.1.2 (by omega))⟩, by omega, by omega, by omega, by omega, by omega⟩, (fun h => absurd h (by omega)), (fun _ => (eRo_3 e1 (by rw [show (uF (uD u_9 qS 0 115 0 13) 11 13 ((u_9.1 11 13) + 1)).1 11 12 = u_9.1 11 12 by omega] at e2; exact e2) (.inr (by rw [(show (if k a1 = 13 then (2 : Int) else 1) = 1 from if_neg (by omega))]; omega))))⟩⟩ dX9_tellOneRow_128
        · refine lv_iconst (v := iv 2) hx hb dX9_tellOneRow_99 (by decide) ?_
          refine lv_goto (tgt := 104) hx hb dX9_tellOneRow_100 (by decide) ?_
          refine lv_istore (lv' := [(4, .int (iv 2)), (3, .int (iv r_53)), (2, .int (iv (u_9.1 11 13))), (0, .ref (G.2.2.1 + 11)), (1, .int (iv nm))]) hx hb dX9_tellOneRow_104 hl (by decide) rfl (fun ls hl => ?_)
          refine lv_aload_n hx hb dX9_tellOneRow_106 rfl (lv_at hl 3 rfl) ?_
          refine g_X9_46 Cx hW (k := 11) (by decide) rfl (v := .ref (G.2.2.1 + o)) (((fun i => (((fu_43 11 rfl).2.2.2 i).trans ((xu_37.1.1.1 i).trans (xu_9.1.1.1 i)))) 8).trans hrf) dX9_tellOneRow_107 ?_
          refine g_X9_193 Cx hW (k := o) (mdl_l hm) hm.1 (v := S.1 o 3) (((fu_43 o (p1_no (tau_ne hm.1 (rfl : tau 115 = .inr (.long, 13)) (fun h => by cases h)))).1 3).trans (((fu_37 o (pEx_o (mdl_out hm).2.2)).1 3).trans ((uF_ne (fun h => absurd h.2 (by decide))).trans ((uD_f).trans ((fu_9 o (pEx_o (mdl_out hm).2.2)).1 3))))) dX9_tellOneRow_110 ?_
          refine lv_iload hx hb dX9_tellOneRow_113 (lv_at hl 0 rfl) ?_
          refine r_iadd hx hb dX9_tellOneRow_115 ?_
          refine lv_bipush (v := iv 16) hx hb dX9_tellOneRow_116 (by decide) ?_
          refine r_icmp_le (tgt := 129) hx hb ⟨(by omega), (by omega)⟩ ⟨(by omega), (by omega)⟩ dX9_tellOneRow_118 (by decide) (fun c_135 => ?_) (fun c_135 => ?_)
          · refine lv_iload_n hx hb dX9_tellOneRow_129 rfl (lv_at hl 1 rfl) ?_
            refine lv_bipush (v := iv 26) hx hb dX9_tellOneRow_130 (by decide) ?_
            refine r_icmp_eq (tgt := 147) hx hb ⟨(by omega), (by omega)⟩ ⟨(by omega), (by omega)⟩ dX9_tellOneRow_132 (by decide) (fun c_136 => ?_) (fun c_136 => ?_)
            · exfalso; omega
            · refine lv_aload_n hx hb dX9_tellOneRow_135 rfl (lv_at hl 3 rfl) ?_
              refine g_X9_46 Cx hW (k := 11) (by decide) rfl (v := .ref (G.2.2.1 + o)) (((fun i => (((fu_43 11 rfl).2.2.2 i).trans ((xu_37.1.1.1 i).trans (xu_9.1.1.1 i)))) 8).trans hrf) dX9_tellOneRow_136 ?_
              refine lv_aload_n hx hb dX9_tellOneRow_139 rfl (lv_at hl 3 rfl) ?_
              refine g_X9_40 Cx hW (k := 11) (by decide) rfl (v := .ref (G.2.2.1 + 115)) (rf_11_7 iu_43) dX9_tellOneRow_140 ?_
              refine lv_iconst (v := iv 1) hx hb dX9_tellOneRow_143 (by decide) ?_
              have lk_137 : u_43.1 o 3 = S.1 o 3 := ((fu_43 o (p1_no (tau_ne hm.1 (rfl : tau 115 = .inr (.long, 13)) (fun h => by cases h)))).1 3).trans (((fu_37 o (pEx_o (mdl_out hm).2.2)).1 3).trans ((uF_ne (fun h => absurd h.2 (by decide))).trans ((uD_f).trans ((fu_9 o (pEx_o (mdl_out hm).2.2)).1 3))))
              have lk_138 : u_43.1 o 2 = S.1 o 2 := ((fu_43 o (p1_no (tau_ne hm.1 (rfl : tau 115 = .inr (.long, 13)) (fun h => by cases h)))).1 2).trans (((fu_37 o (pEx_o (mdl_out hm).2.2)).1 2).trans ((uF_ne (fun h => absurd h.2 (by decide))).trans ((uD_f).trans ((fu_9 o (pEx_o (mdl_out hm).2.2)).1 2))))
              refine sBv (sV (As := [.ref (G.2.2.1 + 115), .int (iv 1)]) (rest := []) (k := o) Cx (e_X3_addRow l G u_43 (o := o) (q := 115) (t := 1) iu_43 hm ⟨rfl, by decide⟩ (by omega) (by omega)) (c_X9_196 Cx rfl rfl (rmk_ok (by omega) (by decide))) hW (mdl_l hm) hm.1 rfl rfl hl.1 rfl (Nat.le_of_ble_eq_true rfl) dX9_tellOneRow_144 ⟨Nat.le_of_ble_eq_true rfl, Nat.le_of_ble_eq_true rfl⟩) hL (fun u_139 H locs k_140 hW hL => ?_)
              obtain ⟨iu_139, fu_139, xu_139⟩ := k_140
              have F_141 := F_45.trans (fu_139.to (pM_sub (mdl_pG hm).1 (mdl_pG hm).2.1 (mdl_pG hm).2.2))
              have F_142 := F_46.trans (fu_139.to (pM_sub (mdl_Rm hm).1 (mdl_Rm hm).2.1 (mdl_Rm hm).2.2))
              refine lv_iload_n hx hb dX9_tellOneRow_147 rfl (lv_at hl 1 rfl) ?_
              refine lv_bipush (v := iv 25) hx hb dX9_tellOneRow_148 (by decide) ?_
              refine r_icmp_eq (tgt := 165) hx hb ⟨(by omega), (by omega)⟩ ⟨(by omega), (by omega)⟩ dX9_tellOneRow_150 (by decide) (fun c_143 => ?_) (fun c_143 => ?_)
              · exfalso; omega
              · refine lv_aload_n hx hb dX9_tellOneRow_153 rfl (lv_at hl 3 rfl) ?_
                refine g_X9_46 Cx hW (k := 11) (by decide) rfl (v := .ref (G.2.2.1 + o)) (((fun i => (((fu_139 11 (pM_no (tau_ne (rfl : tau 11 = .inl 9) hm.1 (fun h => by cases h)) (tau_ne (rfl : tau 11 = .inl 9) hm.2.1 (fun h => by cases h)) (tau_ne (rfl : tau 11 = .inl 9) hm.2.2.1 (fun h => by cases h)))).2.2.2 i).trans (((fu_43 11 rfl).2.2.2 i).trans ((xu_37.1.1.1 i).trans (xu_9.1.1.1 i))))) 8).trans hrf) dX9_tellOneRow_154 ?_
                refine lv_aload_n hx hb dX9_tellOneRow_157 rfl (lv_at hl 3 rfl) ?_
                refine g_X9_40 Cx hW (k := 11) (by decide) rfl (v := .ref (G.2.2.1 + 115)) (rf_11_7 iu_139) dX9_tellOneRow_158 ?_
                refine lv_iconst (v := iv (-1)) hx hb dX9_tellOneRow_161 (by decide) ?_
                have q_144 : 0 ≤ u_139.1 o 3 ∧ u_139.1 o 3 ≤ 16 := iu_139.fi o 3 3 (mdl_k hm) hm.1
                have q_145 : 0 ≤ u_139.1 o 2 ∧ u_139.1 o 2 ≤ 12 := iu_139.fi o 2 3 (mdl_k hm) hm.1
                refine sBv (sV (As := [.ref (G.2.2.1 + 115), .int (iv ((-1)))]) (rest := []) (k := o) Cx (e_X3_addRow l G u_139 (o := o) (q := 115) (t := (-1)) iu_139 hm ⟨rfl, by decide⟩ (by omega) (by omega)) (c_X9_196 Cx rfl rfl (rmk_ok (by omega) (by decide))) hW (mdl_l hm) hm.1 rfl rfl hl.1 rfl (Nat.le_of_ble_eq_true rfl) dX9_tellOneRow_162 ⟨Nat.le_of_ble_eq_true rfl, Nat.le_of_ble_eq_true rfl⟩) hL (fun u_146 H locs k_147 hW hL => ?_)
                obtain ⟨iu_146, fu_146, xu_146⟩ := k_147
                have F_148 := F_141.trans (fu_146.to (pM_sub (mdl_pG hm).1 (mdl_pG hm).2.1 (mdl_pG hm).2.2))
                have F_149 := F_142.trans (fu_146.to (pM_sub (mdl_Rm hm).1 (mdl_Rm hm).2.1 (mdl_Rm hm).2.2))
                refine lv_aload_n hx hb dX9_tellOneRow_165 rfl (lv_at hl 3 rfl) ?_
                refine lv_dup hx hb dX9_tellOneRow_166 rfl ?_
                have q_150 : (-2147483648) ≤ u_37.1 11 13 ∧ u_37.1 11 13 ≤ 2147483647 := iu_37.fi 11 13 9 (by decide) rfl
                refine g_X9_89 Cx hW (k := 11) (by decide) rfl (v := u_37.1 11 13) (((fu_146 11 (pM_no (tau_ne (rfl : tau 11 = .inl 9) hm.1 (fun h => by cases h)) (tau_ne (rfl : tau 11 = .inl 9) hm.2.1 (fun h => by cases h)) (tau_ne (rfl : tau 11 = .inl 9) hm.2.2.1 (fun h => by cases h)))).1 13).trans (((fu_139 11 (pM_no (tau_ne (rfl : tau 11 = .inl 9) hm.1 (fun h => by cases h)) (tau_ne (rfl : tau 11 = .inl 9) hm.2.1 (fun h => by cases h)) (tau_ne (rfl : tau 11 = .inl 9) hm.2.2.1 (fun h => by cases h)))).1 13).trans ((fu_43 11 rfl).1 13))) dX9_tellOneRow_167 ?_
                refine lv_iconst (v := iv 1) hx hb dX9_tellOneRow_170 (by decide) ?_
                refine r_iadd hx hb dX9_tellOneRow_171 ?_
                refine p_X9_89 Cx hW hL (k := 11) (by decide) rfl dX9_tellOneRow_172 (fun H locs hW hL => ?_)
                have F_151 : Fr S (uF u_146 11 13 ((u_37.1 11 13) + 1)) pG := F_148.F rfl
                have F_152 : Fr u_37 (uF u_146 11 13 ((u_37.1 11 13) + 1)) pRm := F_149.F rfl
                have i_153 : cX G (uF u_146 11 13 ((u_37.1 11 13) + 1)) 0 0 0 := iu_146.F rfl rfl (show (-2147483648) ≤ (u_37.1 11 13) + 1 ∧ (u_37.1 11 13) + 1 ≤ 2147483647 from ⟨by omega, by omega⟩)
                refine lv_iconst (v := iv 1) hx hb dX9_tellOneRow_175 (by decide) ?_
                have q_154 : 0 ≤ u_37.1 11 9 ∧ u_37.1 11 9 ≤ 128 := iu_37.fi 11 9 9 (by decide) rfl
                have lk_155 : (uF u_146 11 13 ((u_37.1 11 13) + 1)).1 11 9 = u_37.1 11 9 := (uF_ne (fun h => absurd h.2 (by decide))).trans (((fu_146 11 (pM_no (tau_ne (rfl : tau 11 = .inl 9) hm.1 (fun h => by cases h)) (tau_ne (rfl : tau 11 = .inl 9) hm.2.1 (fun h => by cases h)) (tau_ne (rfl : tau 11 = .inl 9) hm.2.2.1 (fun h => by cases h)))).1 9).trans (((fu_139 11 (pM_no (tau_ne (rfl : tau 11 = .inl 9) hm.1 (fun h => by cases h)) (tau_ne (rfl : tau 11 = .inl 9) hm.2.1 (fun h => by cases h)) (tau_ne (rfl : tau 11 = .inl 9) hm.2.2.1 (fun h => by cases h)))).1 9).trans ((fu_43 11 rfl).1 9)))
                have q_156 : 0 ≤ u_37.1 11 10 ∧ u_37.1 11 10 ≤ 8 := iu_37.fi 11 10 9 (by decide) rfl
                have lk_157 : (uF u_146 11 13 ((u_37.1 11 13) + 1)).1 11 10 = u_37.1 11 10 := (uF_ne (fun h => absurd h.2 (by decide))).trans (((fu_146 11 (pM_no (tau_ne (rfl : tau 11 = .inl 9) hm.1 (fun h => by cases h)) (tau_ne (rfl : tau 11 = .inl 9) hm.2.1 (fun h => by cases h)) (tau_ne (rfl : tau 11 = .inl 9) hm.2.2.1 (fun h => by cases h)))).1 10).trans (((fu_139 11 (pM_no (tau_ne (rfl : tau 11 = .inl 9) hm.1 (fun h => by cases h)) (tau_ne (rfl : tau 11 = .inl 9) hm.2.1 (fun h => by cases h)) (tau_ne (rfl : tau 11 = .inl 9) hm.2.2.1 (fun h => by cases h)))).1 10).trans ((fu_43 11 rfl).1 10)))
                have q_158 : 0 ≤ u_37.1 11 11 ∧ u_37.1 11 11 ≤ 12 := iu_37.fi 11 11 9 (by decide) rfl
                have lk_159 : (uF u_146 11 13 ((u_37.1 11 13) + 1)).1 11 11 = u_37.1 11 11 := (uF_ne (fun h => absurd h.2 (by decide))).trans (((fu_146 11 (pM_no (tau_ne (rfl : tau 11 = .inl 9) hm.1 (fun h => by cases h)) (tau_ne (rfl : tau 11 = .inl 9) hm.2.1 (fun h => by cases h)) (tau_ne (rfl : tau 11 = .inl 9) hm.2.2.1 (fun h => by cases h)))).1 11).trans (((fu_139 11 (pM_no (tau_ne (rfl : tau 11 = .inl 9) hm.1 (fun h => by cases h)) (tau_ne (rfl : tau 11 = .inl 9) hm.2.1 (fun h => by cases h)) (tau_ne (rfl : tau 11 = .inl 9) hm.2.2.1 (fun h => by cases h)))).1 11).trans ((fu_43 11 rfl).1 11)))
                have q_160 : (-2147483648) ≤ u_37.1 11 12 ∧ u_37.1 11 12 ≤ 2147483647 := iu_37.fi 11 12 9 (by decide) rfl
                have lk_161 : (uF u_146 11 13 ((u_37.1 11 13) + 1)).1 11 12 = u_37.1 11 12 := (uF_ne (fun h => absurd h.2 (by decide))).trans (((fu_146 11 (pM_no (tau_ne (rfl : tau 11 = .inl 9) hm.1 (fun h => by cases h)) (tau_ne (rfl : tau 11 = .inl 9) hm.2.1 (fun h => by cases h)) (tau_ne (rfl : tau 11 = .inl 9) hm.2.2.1 (fun h => by cases h)))).1 12).trans (((fu_139 11 (pM_no (tau_ne (rfl : tau 11 = .inl 9) hm.1 (fun h => by cases h)) (tau_ne (rfl : tau 11 = .inl 9) hm.2.1 (fun h => by cases h)) (tau_ne (rfl : tau 11 = .inl 9) hm.2.2.1 (fun h => by cases h)))).1 12).trans ((fu_43 11 rfl).1 12)))
                have lk_162 : (uF u_146 11 13 ((u_37.1 11 13) + 1)).1 11 13 = (u_37.1 11 13) + 1 := uF_on
                have q_163 : 0 ≤ u_37.1 11 14 ∧ u_37.1 11 14 ≤ 7 := iu_37.fi 11 14 9 (by decide) rfl
                have lk_164 : (uF u_146 11 13 ((u_37.1 11 13) + 1)).1 11 14 = u_37.1 11 14 := (uF_ne (fun h => absurd h.2 (by decide))).trans (((fu_146 11 (pM_no (tau_ne (rfl : tau 11 = .inl 9) hm.1 (fun h => by cases h)) (tau_ne (rfl : tau 11 = .inl 9) hm.2.1 (fun h => by cases h)) (tau_ne (rfl : tau 11 = .inl 9) hm.2.2.1 (fun h => by cases h)))).1 14).trans (((fu_139 11 (pM_no (tau_ne (rfl : tau 11 = .inl 9) hm.1 (fun h => by cases h)) (tau_ne (rfl : tau 11 = .inl 9) hm.2.1 (fun h => by cases h)) (tau_ne (rfl : tau 11 = .inl 9) hm.2.2.1 (fun h => by cases h)))).1 14).trans ((fu_43 11 rfl).1 14)))
                have q_165 : 0 ≤ u_146.1 o 2 ∧ u_146.1 o 2 ≤ 12 := iu_146.fi o 2 3 (mdl_k hm) hm.1
                have lk_166 : (uF u_146 11 13 ((u_37.1 11 13) + 1)).1 o 2 = u_146.1 o 2 := uF_ne (fun h => absurd h.2 (by decide))
                have q_167 : 0 ≤ u_146.1 o 3 ∧ u_146.1 o 3 ≤ 16 := iu_146.fi o 3 3 (mdl_k hm) hm.1
                have lk_168 : (uF u_146 11 13 ((u_37.1 11 13) + 1)).1 o 3 = u_146.1 o 3 := uF_ne (fun h => absurd h.2 (by decide))
                have nr_169 : NRc N (uF u_146 11 13 ((u_37.1 11 13) + 1)) := n2.of (by omega) (fun j => (F_152 16 rfl).2.2.1 j) (fun j => (F_152 17 rfl).2.1 j) (fun j => (F_152 18 rfl).2.1 j)
                exact sZret Cx hr hlk hW hL (by omega) ⟨i_153, F_151, ⟨⟨⟨(fun i => (((fu_146 11 (pM_no (tau_ne (rfl : tau 11 = .inl 9) hm.1 (fun h => by cases h)) (tau_ne (rfl : tau 11 = .inl 9) hm.2.1 (fun h => by cases h)) (tau_ne (rfl : tau 11 = .inl 9) hm.2.2.1 (fun h => by cases h)))).2.2.2 i).trans (((fu_139 11 (pM_no (tau_ne (rfl : tau 11 = .inl 9) hm.1 (fun h => by cases h)) (tau_ne (rfl : tau 11 = .inl 9) hm.2.1 (fun h => by cases h)) (tau_ne (rfl : tau 11 = .inl 9) hm.2.2.1 (fun h => by cases h)))).2.2.2 i).trans (((fu_43 11 rfl).2.2.2 i).trans ((xu_37.1.1.1 i).trans (xu_9.1.1.1 i)))))), (fun h => absurd h (by decide))⟩, by omega, by omega, by omega, by omega, by omega⟩, (fun _ => ⟨(by rw [eRo_4 e1 (by rw [show (uF (uD u_9 qS 0 115 0 13) 11 13 ((u_9.1 11 13) + 1)).1 11 12 = u_9.1 11 12 by omega] at e2; exact e2) ngr (by rw [(show (if k a1 = 13 then (2 : Int) else 1) = 2 from if_pos (by omega))]; omega), (show (if k a1 = 13 then (2 : Int) else 1) = 2 from if_pos (by omega)), show (uF u_146 11 13 ((u_37.1 11 13) + 1)).1 o 3 = S.1 o 3 + 2 by omega, show (uF u_146 11 13 ((u_37.1 11 13) + 1)).1 11 12 = u_37.1 11 12 by omega, show q = b1 + 1 by omega]), ⟨by omega, by omega⟩, ⟨by omega, by omega⟩, (by omega), (by omega), nr_169⟩), (fun h => absurd h (by decide))⟩⟩ dX9_tellOneRow_176
          · refine lv_aload_n hx hb dX9_tellOneRow_121 rfl (lv_at hl 3 rfl) ?_
            refine lv_bipush (v := iv 7) hx hb dX9_tellOneRow_122 (by decide) ?_
            refine lv_iload_n hx hb dX9_tellOneRow_124 rfl (lv_at hl 4 rfl) ?_
            have q_170 : (-2147483648) ≤ u_37.1 11 13 ∧ u_37.1 11 13 ≤ 2147483647 := iu_37.fi 11 13 9 (by decide) rfl
            have lk_171 : u_43.1 11 13 = u_37.1 11 13 := (fu_43 11 rfl).1 13
            have q_172 : 0 ≤ u_37.1 11 9 ∧ u_37.1 11 9 ≤ 128 := iu_37.fi 11 9 9 (by decide) rfl
            have lk_173 : u_43.1 11 9 = u_37.1 11 9 := (fu_43 11 rfl).1 9
            have q_174 : 0 ≤ u_37.1 11 10 ∧ u_37.1 11 10 ≤ 8 := iu_37.fi 11 10 9 (by decide) rfl
            have lk_175 : u_43.1 11 10 = u_37.1 11 10 := (fu_43 11 rfl).1 10
            have q_176 : 0 ≤ u_37.1 11 11 ∧ u_37.1 11 11 ≤ 12 := iu_37.fi 11 11 9 (by decide) rfl
            have lk_177 : u_43.1 11 11 = u_37.1 11 11 := (fu_43 11 rfl).1 11
            have q_178 : (-2147483648) ≤ u_37.1 11 12 ∧ u_37.1 11 12 ≤ 2147483647 := iu_37.fi 11 12 9 (by decide) rfl
            have lk_179 : u_43.1 11 12 = u_37.1 11 12 := (fu_43 11 rfl).1 12
            refine sBi (sV (As := [.int (iv 7), .int (iv nm)]) (rest := []) (k := 11) Cx (e_X9_fail l G u_43 (k := 7) (tk := nm) iu_43 (by omega) (by omega)) (c_X9_132 Cx rfl rfl (rmk_ok (by omega) (by decide))) hW (by decide) rfl rfl rfl hl.1 rfl (Nat.le_of_ble_eq_true rfl) dX9_tellOneRow_125 ⟨Nat.le_of_ble_eq_true rfl, Nat.le_of_ble_eq_true rfl⟩) hL (fun r_182 u_180 H locs k_181 hW hL => ?_)
            obtain ⟨iu_180, fu_180, xu_180⟩ := k_181
            have F_183 := F_45.trans (fu_180.to (fun k h => pV_G k ((fun k h => pU_V k ((fun k h => pT_U k (p11_T k h)) k h)) k h)))
            have F_184 := F_46.trans (fu_180.to (p1_sub rfl))
            have q_185 : 0 ≤ u_180.1 11 9 ∧ u_180.1 11 9 ≤ 128 := iu_180.fi 11 9 9 (by decide) rfl
            have q_186 : 0 ≤ u_180.1 11 10 ∧ u_180.1 11 10 ≤ 8 := iu_180.fi 11 10 9 (by decide) rfl
            have q_187 : 0 ≤ u_180.1 11 11 ∧ u_180.1 11 11 ≤ 12 := iu_180.fi 11 11 9 (by decide) rfl
            have q_188 : (-2147483648) ≤ u_180.1 11 12 ∧ u_180.1 11 12 ≤ 2147483647 := iu_180.fi 11 12 9 (by decide) rfl
            have q_189 : (-2147483648) ≤ u_180.1 11 13 ∧ u_180.1 11 13 ≤ 2147483647 := iu_180.fi 11 13 9 (by decide) rfl
            have q_190 : 0 ≤ u_180.1 11 14 ∧ u_180.1 11 14 ≤ 7 := iu_180.fi 11 14 9 (by decide) rfl
            have lk_191 : u_180.1 o 2 = S.1 o 2 := ((fu_180 o (p1_no (tau_ne hm.1 (rfl : tau 11 = .inl 9) (fun h => by cases h)))).1 2).trans (((fu_43 o (p1_no (tau_ne hm.1 (rfl : tau 115 = .inr (.long, 13)) (fun h => by cases h)))).1 2).trans (((fu_37 o (pEx_o (mdl_out hm).2.2)).1 2).trans ((uF_ne (fun h => absurd h.2 (by decide))).trans ((uD_f).trans ((fu_9 o (pEx_o (mdl_out hm).2.2)).1 2)))))
            have lk_192 : u_180.1 o 3 = S.1 o 3 := ((fu_180 o (p1_no (tau_ne hm.1 (rfl : tau 11 = .inl 9) (fun h => by cases h)))).1 3).trans (((fu_43 o (p1_no (tau_ne hm.1 (rfl : tau 115 = .inr (.long, 13)) (fun h => by cases h)))).1 3).trans (((fu_37 o (pEx_o (mdl_out hm).2.2)).1 3).trans ((uF_ne (fun h => absurd h.2 (by decide))).trans ((uD_f).trans ((fu_9 o (pEx_o (mdl_out hm).2.2)).1 3)))))
            exact sZret Cx hr hlk hW hL (by omega) ⟨iu_180, F_183, ⟨⟨⟨(fun i => ((xu_180.2.2.2.2.2.2.2 i).trans (((fu_43 11 rfl).2.2.2 i).trans ((xu_37.1.1.1 i).trans (xu_9.1.1.1 i))))), (fun _ => by first | omega | exact xu_180.1.1.2 (by omega))⟩, by omega, by omega, by omega, by omega, by omega⟩, (fun h => absurd h (by omega)), (fun _ => (eRo_3 e1 (by rw [show (uF (uD u_9 qS 0 115 0 13) 11 13 ((u_9.1 11 13) + 1)).1 11 12 = u_9.1 11 12 by omega] at e2; exact e2) (.inr (by rw [(show (if k a1 = 13 then (2 : Int) else 1) = 2 from if_pos (by omega))]; omega))))⟩⟩ dX9_tellOneRow_128
      · refine lv_aload_n hx hb dX9_tellOneRow_76 rfl (lv_at hl 1 rfl) ?_
        refine lv_bipush (v := iv 6) hx hb dX9_tellOneRow_77 (by decide) ?_
        refine lv_iload_n hx hb dX9_tellOneRow_79 rfl (lv_at hl 0 rfl) ?_
        have q_193 : (-2147483648) ≤ u_37.1 11 13 ∧ u_37.1 11 13 ≤ 2147483647 := iu_37.fi 11 13 9 (by decide) rfl
        have lk_194 : u_43.1 11 13 = u_37.1 11 13 := (fu_43 11 rfl).1 13
        have q_195 : 0 ≤ u_37.1 11 9 ∧ u_37.1 11 9 ≤ 128 := iu_37.fi 11 9 9 (by decide) rfl
        have lk_196 : u_43.1 11 9 = u_37.1 11 9 := (fu_43 11 rfl).1 9
        have q_197 : 0 ≤ u_37.1 11 10 ∧ u_37.1 11 10 ≤ 8 := iu_37.fi 11 10 9 (by decide) rfl
        have lk_198 : u_43.1 11 10 = u_37.1 11 10 := (fu_43 11 rfl).1 10
        have q_199 : 0 ≤ u_37.1 11 11 ∧ u_37.1 11 11 ≤ 12 := iu_37.fi 11 11 9 (by decide) rfl
        have lk_200 : u_43.1 11 11 = u_37.1 11 11 := (fu_43 11 rfl).1 11
        have q_201 : (-2147483648) ≤ u_37.1 11 12 ∧ u_37.1 11 12 ≤ 2147483647 := iu_37.fi 11 12 9 (by decide) rfl
        have lk_202 : u_43.1 11 12 = u_37.1 11 12 := (fu_43 11 rfl).1 12
        refine sBi (sV (As := [.int (iv 6), .int (iv (u_9.1 11 13))]) (rest := []) (k := 11) Cx (e_X9_fail l G u_43 (k := 6) (tk := u_9.1 11 13) iu_43 (by omega) (by omega)) (c_X9_132 Cx rfl rfl (rmk_ok (by omega) (by decide))) hW (by decide) rfl rfl rfl hl.1 rfl (Nat.le_of_ble_eq_true rfl) dX9_tellOneRow_80 ⟨Nat.le_of_ble_eq_true rfl, Nat.le_of_ble_eq_true rfl⟩) hL (fun r_205 u_203 H locs k_204 hW hL => ?_)
        obtain ⟨iu_203, fu_203, xu_203⟩ := k_204
        have F_206 := F_45.trans (fu_203.to (fun k h => pV_G k ((fun k h => pU_V k ((fun k h => pT_U k (p11_T k h)) k h)) k h)))
        have F_207 := F_46.trans (fu_203.to (p1_sub rfl))
        have q_208 : 0 ≤ u_203.1 11 9 ∧ u_203.1 11 9 ≤ 128 := iu_203.fi 11 9 9 (by decide) rfl
        have q_209 : 0 ≤ u_203.1 11 10 ∧ u_203.1 11 10 ≤ 8 := iu_203.fi 11 10 9 (by decide) rfl
        have q_210 : 0 ≤ u_203.1 11 11 ∧ u_203.1 11 11 ≤ 12 := iu_203.fi 11 11 9 (by decide) rfl
        have q_211 : (-2147483648) ≤ u_203.1 11 12 ∧ u_203.1 11 12 ≤ 2147483647 := iu_203.fi 11 12 9 (by decide) rfl
        have q_212 : (-2147483648) ≤ u_203.1 11 13 ∧ u_203.1 11 13 ≤ 2147483647 := iu_203.fi 11 13 9 (by decide) rfl
        have q_213 : 0 ≤ u_203.1 11 14 ∧ u_203.1 11 14 ≤ 7 := iu_203.fi 11 14 9 (by decide) rfl
        have lk_214 : u_203.1 o 2 = S.1 o 2 := ((fu_203 o (p1_no (tau_ne hm.1 (rfl : tau 11 = .inl 9) (fun h => by cases h)))).1 2).trans (((fu_43 o (p1_no (tau_ne hm.1 (rfl : tau 115 = .inr (.long, 13)) (fun h => by cases h)))).1 2).trans (((fu_37 o (pEx_o (mdl_out hm).2.2)).1 2).trans ((uF_ne (fun h => absurd h.2 (by decide))).trans ((uD_f).trans ((fu_9 o (pEx_o (mdl_out hm).2.2)).1 2)))))
        have lk_215 : u_203.1 o 3 = S.1 o 3 := ((fu_203 o (p1_no (tau_ne hm.1 (rfl : tau 11 = .inl 9) (fun h => by cases h)))).1 3).trans (((fu_43 o (p1_no (tau_ne hm.1 (rfl : tau 115 = .inr (.long, 13)) (fun h => by cases h)))).1 3).trans (((fu_37 o (pEx_o (mdl_out hm).2.2)).1 3).trans ((uF_ne (fun h => absurd h.2 (by decide))).trans ((uD_f).trans ((fu_9 o (pEx_o (mdl_out hm).2.2)).1 3)))))
        exact sZret Cx hr hlk hW hL (by omega) ⟨iu_203, F_206, ⟨⟨⟨(fun i => ((xu_203.2.2.2.2.2.2.2 i).trans (((fu_43 11 rfl).2.2.2 i).trans ((xu_37.1.1.1 i).trans (xu_9.1.1.1 i))))), (fun _ => by first | omega | exact xu_203.1.1.2 (by omega))⟩, by omega, by omega, by omega, by omega, by omega⟩, (fun h => absurd h (by omega)), (fun _ => (eRo_3 e1 (by rw [show (uF (uD u_9 qS 0 115 0 13) 11 13 ((u_9.1 11 13) + 1)).1 11 12 = u_9.1 11 12 by omega] at e2; exact e2) (.inl ((veq_grt wS).mp (xu_47.2.1 (by omega))))))⟩⟩ dX9_tellOneRow_83
    · refine lv_iconst (v := iv 0) hx hb dX9_tellOneRow_50 (by decide) ?_
      have q_216 : 0 ≤ u_37.1 11 9 ∧ u_37.1 11 9 ≤ 128 := iu_37.fi 11 9 9 (by decide) rfl
      have q_217 : 0 ≤ u_37.1 11 10 ∧ u_37.1 11 10 ≤ 8 := iu_37.fi 11 10 9 (by decide) rfl
      have q_218 : 0 ≤ u_37.1 11 11 ∧ u_37.1 11 11 ≤ 12 := iu_37.fi 11 11 9 (by decide) rfl
      have q_219 : (-2147483648) ≤ u_37.1 11 12 ∧ u_37.1 11 12 ≤ 2147483647 := iu_37.fi 11 12 9 (by decide) rfl
      have q_220 : (-2147483648) ≤ u_37.1 11 13 ∧ u_37.1 11 13 ≤ 2147483647 := iu_37.fi 11 13 9 (by decide) rfl
      have q_221 : 0 ≤ u_37.1 11 14 ∧ u_37.1 11 14 ≤ 7 := iu_37.fi 11 14 9 (by decide) rfl
      have lk_222 : u_37.1 o 2 = S.1 o 2 := ((fu_37 o (pEx_o (mdl_out hm).2.2)).1 2).trans ((uF_ne (fun h => absurd h.2 (by decide))).trans ((uD_f).trans ((fu_9 o (pEx_o (mdl_out hm).2.2)).1 2)))
      have lk_223 : u_37.1 o 3 = S.1 o 3 := ((fu_37 o (pEx_o (mdl_out hm).2.2)).1 3).trans ((uF_ne (fun h => absurd h.2 (by decide))).trans ((uD_f).trans ((fu_9 o (pEx_o (mdl_out hm).2.2)).1 3)))
      exact sZret Cx hr hlk hW hL (by omega) ⟨iu_37, F_40, ⟨⟨⟨(fun i => ((xu_37.1.1.1 i).trans (xu_9.1.1.1 i))), (fun _ => by first | omega | exact xu_37.1.1.2 (by omega))⟩, by omega, by omega, by omega, by omega, by omega⟩, (fun h => absurd h (by omega)), (fun _ => (by have q9 := xu_37.2.2 (by omega); rw [show (uF (uD u_9 qS 0 115 0 13) 11 13 ((u_9.1 11 13) + 1)).1 11 12 = u_9.1 11 12 by omega] at q9; exact eRo_2 e1 q9))⟩⟩ dX9_tellOneRow_51
  · refine lv_iconst (v := iv 0) hx hb dX9_tellOneRow_8 (by decide) ?_
    have q_224 : 0 ≤ u_9.1 11 9 ∧ u_9.1 11 9 ≤ 128 := iu_9.fi 11 9 9 (by decide) rfl
    have q_225 : 0 ≤ u_9.1 11 10 ∧ u_9.1 11 10 ≤ 8 := iu_9.fi 11 10 9 (by decide) rfl
    have q_226 : 0 ≤ u_9.1 11 11 ∧ u_9.1 11 11 ≤ 12 := iu_9.fi 11 11 9 (by decide) rfl
    have q_227 : (-2147483648) ≤ u_9.1 11 12 ∧ u_9.1 11 12 ≤ 2147483647 := iu_9.fi 11 12 9 (by decide) rfl
    have q_228 : (-2147483648) ≤ u_9.1 11 13 ∧ u_9.1 11 13 ≤ 2147483647 := iu_9.fi 11 13 9 (by decide) rfl
    have q_229 : 0 ≤ u_9.1 11 14 ∧ u_9.1 11 14 ≤ 7 := iu_9.fi 11 14 9 (by decide) rfl
    have lk_230 : u_9.1 o 2 = S.1 o 2 := (fu_9 o (pEx_o (mdl_out hm).2.2)).1 2
    have lk_231 : u_9.1 o 3 = S.1 o 3 := (fu_9 o (pEx_o (mdl_out hm).2.2)).1 3
    exact sZret Cx hr hlk hW hL (by omega) ⟨iu_9, F_12, ⟨⟨⟨(fun i => (xu_9.1.1.1 i)), (fun _ => by first | omega | exact xu_9.1.1.2 (by omega))⟩, by omega, by omega, by omega, by omega, by omega⟩, (fun h => absurd h (by omega)), (fun _ => (eRo_1 (xu_9.2.2 (by omega))))⟩⟩ dX9_tellOneRow_9

set_option maxRecDepth 100000 in
set_option maxHeartbeats 4000000 in
theorem e_X9_tellRow (l : Launch) (G : sG) (S : sS) {M : sM} {k v : Int → Int} {T pz q : Int} {o : Nat} (hI : cX G S 0 0 0) (hm : mdl o) (hM : Hd (MRc M S G o)) (hTV : Hd (TVn k v)) (hkv : Hd (KV S k v T)) (hfk : S.1 11 14 = 0) (hat : S.1 11 13 = pz) (hpz : 0 ≤ pz ∧ pz ≤ 2000) (hqb : q ≤ 2001) (hg : Hd (∃ b a1 b1, ((k (pz + 2) ≠ 17 ∧ b = pz + 2) ∨ (k (pz + 2) = 17 ∧ b = pz + 7)) ∧ k b = 24 ∧ ogU T k (ogF T k 30) (b + 1) = some a1 ∧ (k a1 = 25 ∨ k a1 = 26 ∨ k a1 = 13) ∧ ogU T k (ogF T k 30) (a1 + 1) = some b1 ∧ k b1 = 15 ∧ q = b1 + 1)) : Met l yX9_tellRow (.code yX9_tellRow cX9_tellRow 7 (some .boolean) :: tb) (rmk 134 0 0) (sPc G 294 S [.ref (G.2.2.1 + 11)]) (sQi G 294 (fun r u => cX G u 0 0 0 ∧ Fr S u pG ∧ (MOc S u G o q r (eDr T k v M pz)))) 0 0 (sF G) := by
  refine sEnter (by decide) (Nat.le_of_ble_eq_true rfl) ?_
  intro p e s m args below meth c Cx hr hlk hnm hW ls hl
  have Cx : sC G p m c cX9_tellRow 7 s args RX9 := Cx
  obtain ⟨hx, hb, hml, hown, hts⟩ := id Cx.1
  have hL : sL G [] := sL_nil
  have hl : lv_has ls 7 [(0, .ref (G.2.2.1 + 11))] := hl
  have hW0 := hW
  obtain ⟨hN, hK, d0, d1, d2, d3, d4, ds, hbs, hrf⟩ := id hM
  have hkn : 0 ≤ S.1 11 9 ∧ S.1 11 9 ≤ 128 := hI.fi 11 9 9 (by decide) rfl
  have hTb : 0 ≤ S.1 12 3 ∧ S.1 12 3 ≤ 2001 := hI.fi 12 3 8 (by decide) rfl
  have hTe := hkv.2.2
  have hN1 := hN.1
  obtain ⟨b, a1, b1, hri, hb24, hE1, hrel, hE2, hb15, hgq⟩ := hg
  have hri : Hd _ := hri; have hrel : Hd _ := hrel; have hbl := hkv.lt hb24 (by decide); have hb1l := hkv.lt hb15 (by decide)
  refine lv_aload_n hx hb dX9_tellRow_0 rfl (lv_at hl 0 rfl) ?_
  have q_1 : (-2147483648) ≤ S.1 11 13 ∧ S.1 11 13 ≤ 2147483647 := hI.fi 11 13 9 (by decide) rfl
  refine g_X9_89 Cx hW (k := 11) (by decide) rfl (v := S.1 11 13) rfl dX9_tellRow_1 ?_
  refine lv_iconst (v := iv 1) hx hb dX9_tellRow_4 (by decide) ?_
  refine r_iadd hx hb dX9_tellRow_5 ?_
  refine lv_istore_n (lv' := [(1, .int (iv ((S.1 11 13) + 1))), (0, .ref (G.2.2.1 + 11))]) hx hb dX9_tellRow_6 rfl hl (by decide) rfl (fun ls hl => ?_)
  refine lv_aload_n hx hb dX9_tellRow_7 rfl (lv_at hl 1 rfl) ?_
  refine lv_iload_n hx hb dX9_tellRow_8 rfl (lv_at hl 0 rfl) ?_
  refine lv_bipush (v := iv 10) hx hb dX9_tellRow_9 (by decide) ?_
  have q_2 : 0 ≤ S.1 11 10 ∧ S.1 11 10 ≤ 8 := hI.fi 11 10 9 (by decide) rfl
  have q_3 : 0 ≤ S.1 11 11 ∧ S.1 11 11 ≤ 12 := hI.fi 11 11 9 (by decide) rfl
  have q_4 : (-2147483648) ≤ S.1 11 12 ∧ S.1 11 12 ≤ 2147483647 := hI.fi 11 12 9 (by decide) rfl
  have q_5 : 0 ≤ S.1 11 9 ∧ S.1 11 9 ≤ 128 := hI.fi 11 9 9 (by decide) rfl
  have q_6 : 0 ≤ S.1 11 14 ∧ S.1 11 14 ≤ 7 := hI.fi 11 14 9 (by decide) rfl
  refine sBi (sV (As := [.int (iv ((S.1 11 13) + 1)), .int (iv 10)]) (rest := []) (k := 11) Cx (e_X9_learn l G S (tk := (S.1 11 13) + 1) (so := 10) hI (by omega) (by omega)) (c_X9_140 Cx rfl rfl (rmk_ok (by omega) (by decide))) hW (by decide) rfl rfl rfl hl.1 rfl (Nat.le_of_ble_eq_true rfl) dX9_tellRow_11 ⟨Nat.le_of_ble_eq_true rfl, Nat.le_of_ble_eq_true rfl⟩) hL (fun r_9 u_7 H locs k_8 hW hL => ?_)
  obtain ⟨iu_7, fu_7, xu_7⟩ := k_8
  have F_10 := (Fr.rf : Fr S S pG).trans (fu_7.to (fun k h => pV_G k ((fun k h => pU_V k (pT_U k h)) k h)))
  have zt : vd S (S.1 11 13 + 1) = v (pz + 1) := (by rw [hkv.2.1, hat])
  refine r_if_ge (tgt := 19) hx hb ⟨(by omega), (by omega)⟩ dX9_tellRow_14 (by decide) (fun c_11 => ?_) (fun c_11 => ?_)
  · obtain ⟨hr0, h14, hne, hle⟩ := xu_7.2.1 (by omega)
    rw [zt] at hne hle
    have hfn : eFind M.1 (v (pz + 1)) = -1 := (by rw [hN.find]; exact hne)
    have hq0 : LQ S u_7 M.1.1 (v (pz + 1)) 10 (-1) (-1) := hle.lq (by omega)
    have hk9 := hq0.1
    have hN1r : NRc (rN M (v (pz + 1))) u_7 := hN.added hK NF_10 (by omega) hq0.1 hq0.2.1 hq0.2.2.1 (fun s _ _ _ o _ _ => (fu_7 18 rfl).2.1 _) hq0.2.2.2.1 (fun z => absurd (fct0.symm.trans z) (by decide)) (fun z => absurd (fct0.symm.trans z) (by decide)) (fun z => by rcases z with z | z <;> exact absurd (fct0.symm.trans z) (by decide)) (fun z => by rcases z with z | z <;> exact absurd (fct0.symm.trans z) (by decide)) (fun z => absurd (fct0.symm.trans z) (by decide))
    have hK1 : NK (rN M (v (pz + 1))) := hK.added (by omega) hfn NF_10
    have hn1e : (rN M (v (pz + 1))).1 = M.1.1 + 1 := rfl
    refine lv_aload_n hx hb dX9_tellRow_19 rfl (lv_at hl 1 rfl) ?_
    refine lv_dup hx hb dX9_tellRow_20 rfl ?_
    have q_12 : (-2147483648) ≤ u_7.1 11 13 ∧ u_7.1 11 13 ≤ 2147483647 := iu_7.fi 11 13 9 (by decide) rfl
    refine g_X9_89 Cx hW (k := 11) (by decide) rfl (v := u_7.1 11 13) rfl dX9_tellRow_21 ?_
    refine lv_iconst (v := iv 2) hx hb dX9_tellRow_24 (by decide) ?_
    refine r_iadd hx hb dX9_tellRow_25 ?_
    refine p_X9_89 Cx hW hL (k := 11) (by decide) rfl dX9_tellRow_26 (fun H locs hW hL => ?_)
    have F_13 : Fr S (uF u_7 11 13 ((u_7.1 11 13) + 2)) pG := F_10.F rfl
    have F_14 : Fr u_7 (uF u_7 11 13 ((u_7.1 11 13) + 2)) pRm := (Fr.rf : Fr u_7 u_7 pRm).F rfl
    have F_15 : Fr u_7 (uF u_7 11 13 ((u_7.1 11 13) + 2)) pRm := (Fr.rf : Fr u_7 u_7 pRm).F rfl
    have i_16 : cX G (uF u_7 11 13 ((u_7.1 11 13) + 2)) 0 0 0 := iu_7.F rfl rfl (show (-2147483648) ≤ (u_7.1 11 13) + 2 ∧ (u_7.1 11 13) + 2 ≤ 2147483647 from ⟨by omega, by omega⟩)
    refine lv_aload_n hx hb dX9_tellRow_29 rfl (lv_at hl 1 rfl) ?_
    refine g_X9_14 Cx hW (k := 11) (by decide) rfl (v := .ref (G.2.2.1 + 12)) (rf_11_0 i_16) dX9_tellRow_30 ?_
    refine lv_aload_n hx hb dX9_tellRow_33 rfl (lv_at hl 1 rfl) ?_
    refine g_X9_89 Cx hW (k := 11) (by decide) rfl (v := (u_7.1 11 13) + 2) uF_on dX9_tellRow_34 ?_
    refine sBi (sV (As := [.int (iv ((u_7.1 11 13) + 2))]) (rest := []) (k := 12) Cx (s_X8_kind l G (uF u_7 11 13 ((u_7.1 11 13) + 2)) (k := (u_7.1 11 13) + 2) i_16 (by omega)) (c_X9_95 Cx rfl rfl (rmk_ok (by omega) (by decide))) hW (by decide) rfl rfl rfl hl.1 rfl (Nat.le_of_ble_eq_true rfl) dX9_tellRow_37 ⟨Nat.le_of_ble_eq_true rfl, Nat.le_of_ble_eq_true rfl⟩) hL (fun r_19 u_17 H locs k_18 hW hL => ?_)
    obtain ⟨eu_17, xu_17⟩ := k_18
    rw [eu_17] at hW
    have kv_20 : KV (uF u_7 11 13 ((u_7.1 11 13) + 2)) k v T := hkv.fr F_13 rfl rfl rfl
    have k2 : r_19 = k (pz + 2) := (by rw [← kv_20.1]; exact xu_17.1.trans (congrArg (kd _) (by omega)))
    refine lv_bipush (v := iv 17) hx hb dX9_tellRow_40 (by decide) ?_
    refine r_icmp_eq (tgt := 61) hx hb ⟨(by omega), (by omega)⟩ ⟨(by omega), (by omega)⟩ dX9_tellRow_42 (by decide) (fun c_21 => ?_) (fun c_21 => ?_)
    · have hb0 : b = pz + 7 := (by rcases hri with z | z; (exact absurd (by omega) z.1); (exact z.2))
      have hga : Hd (ogU T k (ogF T k 30) (pz + 8) = some a1) := (by rw [show pz + 8 = b + 1 by omega]; exact hE1)
      refine lv_aload_n hx hb dX9_tellRow_61 rfl (lv_at hl 1 rfl) ?_
      refine lv_aload_n hx hb dX9_tellRow_62 rfl (lv_at hl 1 rfl) ?_
      refine g_X9_14 Cx hW (k := 11) (by decide) rfl (v := .ref (G.2.2.1 + 12)) (rf_11_0 i_16) dX9_tellRow_63 ?_
      refine lv_aload_n hx hb dX9_tellRow_66 rfl (lv_at hl 1 rfl) ?_
      refine g_X9_89 Cx hW (k := 11) (by decide) rfl (v := (u_7.1 11 13) + 2) uF_on dX9_tellRow_67 ?_
      refine lv_iconst (v := iv 3) hx hb dX9_tellRow_70 (by decide) ?_
      refine r_iadd hx hb dX9_tellRow_71 ?_
      refine sBl (sV (As := [.int (iv (((u_7.1 11 13) + 2) + 3))]) (rest := [.ref (G.2.2.1 + 11)]) (k := 12) Cx (s_X8_value l G (uF u_7 11 13 ((u_7.1 11 13) + 2)) (k := ((u_7.1 11 13) + 2) + 3) i_16 (by omega)) (c_X9_124 Cx rfl rfl (rmk_ok (by omega) (by decide))) hW (by decide) rfl rfl rfl hl.1 rfl (Nat.le_of_ble_eq_true rfl) dX9_tellRow_72 ⟨Nat.le_of_ble_eq_true rfl, Nat.le_of_ble_eq_true rfl⟩) hL (fun r_24 u_22 H locs k_23 hW hL => ?_)
      obtain ⟨eu_22, xu_22⟩ := k_23
      rw [eu_22] at hW
      have vx5 : r_24 = v (pz + 5) := (by rw [← kv_20.2.1]; exact xu_22.1.trans (congrArg (vd _) (by omega)))
      have q_25 : 0 ≤ u_7.1 11 9 ∧ u_7.1 11 9 ≤ 128 := iu_7.fi 11 9 9 (by decide) rfl
      have lk_26 : (uF u_7 11 13 ((u_7.1 11 13) + 2)).1 11 9 = u_7.1 11 9 := uF_ne (fun h => absurd h.2 (by decide))
      refine sBi (sV (As := [.long (jv r_24)]) (rest := []) (k := 11) Cx (e_X9_find l G (uF u_7 11 13 ((u_7.1 11 13) + 2)) (nm := r_24) i_16 (by omega)) (c_X9_128 Cx rfl rfl (rmk_ok (by omega) (by decide))) hW (by decide) rfl rfl rfl hl.1 rfl (Nat.le_of_ble_eq_true rfl) dX9_tellRow_75 ⟨Nat.le_of_ble_eq_true rfl, Nat.le_of_ble_eq_true rfl⟩) hL (fun r_29 u_27 H locs k_28 hW hL => ?_)
      obtain ⟨eu_27, xu_27⟩ := k_28
      rw [eu_27] at hW
      have nr_30 : NRc (rN M (v (pz + 1))) (uF u_7 11 13 ((u_7.1 11 13) + 2)) := hN1r.of (by omega) (fun j => (F_15 16 rfl).2.2.1 j) (fun j => (F_15 17 rfl).2.1 j) (fun j => (F_15 18 rfl).2.1 j)
      have f0 : r_29 = eFind (rN M (v (pz + 1))) (v (pz + 5)) := (by rw [nr_30.find, ← vx5]; exact xu_27.2)
      refine lv_istore_n (lv' := [(2, .int (iv r_29)), (1, .int (iv ((S.1 11 13) + 1))), (0, .ref (G.2.2.1 + 11))]) hx hb dX9_tellRow_78 rfl hl (by decide) rfl (fun ls hl => ?_)
      refine lv_aload_n hx hb dX9_tellRow_79 rfl (lv_at hl 2 rfl) ?_
      refine lv_aload_n hx hb dX9_tellRow_80 rfl (lv_at hl 2 rfl) ?_
      refine g_X9_89 Cx hW (k := 11) (by decide) rfl (v := (u_7.1 11 13) + 2) uF_on dX9_tellRow_81 ?_
      refine lv_iconst (v := iv 1) hx hb dX9_tellRow_84 (by decide) ?_
      refine r_iadd hx hb dX9_tellRow_85 ?_
      refine lv_iconst (v := iv 2) hx hb dX9_tellRow_86 (by decide) ?_
      have q_31 : 0 ≤ u_7.1 11 10 ∧ u_7.1 11 10 ≤ 8 := iu_7.fi 11 10 9 (by decide) rfl
      have lk_32 : (uF u_7 11 13 ((u_7.1 11 13) + 2)).1 11 10 = u_7.1 11 10 := uF_ne (fun h => absurd h.2 (by decide))
      have q_33 : 0 ≤ u_7.1 11 11 ∧ u_7.1 11 11 ≤ 12 := iu_7.fi 11 11 9 (by decide) rfl
      have lk_34 : (uF u_7 11 13 ((u_7.1 11 13) + 2)).1 11 11 = u_7.1 11 11 := uF_ne (fun h => absurd h.2 (by decide))
      have q_35 : (-2147483648) ≤ u_7.1 11 12 ∧ u_7.1 11 12 ≤ 2147483647 := iu_7.fi 11 12 9 (by decide) rfl
      have lk_36 : (uF u_7 11 13 ((u_7.1 11 13) + 2)).1 11 12 = u_7.1 11 12 := uF_ne (fun h => absurd h.2 (by decide))
      have lk_37 : (uF u_7 11 13 ((u_7.1 11 13) + 2)).1 11 13 = (u_7.1 11 13) + 2 := uF_on
      have q_38 : 0 ≤ u_7.1 11 14 ∧ u_7.1 11 14 ≤ 7 := iu_7.fi 11 14 9 (by decide) rfl
      have lk_39 : (uF u_7 11 13 ((u_7.1 11 13) + 2)).1 11 14 = u_7.1 11 14 := uF_ne (fun h => absurd h.2 (by decide))
      have q_40 : 0 ≤ S.1 o 2 ∧ S.1 o 2 ≤ 12 := hI.fi o 2 3 (mdl_k hm) hm.1
      have lk_41 : (uF u_7 11 13 ((u_7.1 11 13) + 2)).1 o 2 = S.1 o 2 := (uF_ne (fun h => absurd h.2 (by decide))).trans ((fu_7 o (mdl_out hm).1).1 2)
      have q_42 : 0 ≤ S.1 o 3 ∧ S.1 o 3 ≤ 16 := hI.fi o 3 3 (mdl_k hm) hm.1
      have lk_43 : (uF u_7 11 13 ((u_7.1 11 13) + 2)).1 o 3 = S.1 o 3 := (uF_ne (fun h => absurd h.2 (by decide))).trans ((fu_7 o (mdl_out hm).1).1 3)
      refine sBi (sV (As := [.int (iv (((u_7.1 11 13) + 2) + 1)), .int (iv 2)]) (rest := []) (k := 11) Cx (e_X9_learn l G (uF u_7 11 13 ((u_7.1 11 13) + 2)) (tk := ((u_7.1 11 13) + 2) + 1) (so := 2) i_16 (by omega) (by omega)) (c_X9_140 Cx rfl rfl (rmk_ok (by omega) (by decide))) hW (by decide) rfl rfl rfl hl.1 rfl (Nat.le_of_ble_eq_true rfl) dX9_tellRow_87 ⟨Nat.le_of_ble_eq_true rfl, Nat.le_of_ble_eq_true rfl⟩) hL (fun r_46 u_44 H locs k_45 hW hL => ?_)
      obtain ⟨iu_44, fu_44, xu_44⟩ := k_45
      have F_47 := F_13.trans (fu_44.to (fun k h => pV_G k ((fun k h => pU_V k (pT_U k h)) k h)))
      have zt2 : vd (uF u_7 11 13 ((u_7.1 11 13) + 2)) (((u_7.1 11 13) + 2) + 1) = v (pz + 3) := (by rw [kv_20.2.1, show ((u_7.1 11 13) + 2) + 1 = pz + 3 by omega])
      refine lv_istore_n (lv' := [(3, .int (iv r_46)), (2, .int (iv r_29)), (1, .int (iv ((S.1 11 13) + 1))), (0, .ref (G.2.2.1 + 11))]) hx hb dX9_tellRow_90 rfl hl (by decide) rfl (fun ls hl => ?_)
      refine lv_iload_n hx hb dX9_tellRow_91 rfl (lv_at hl 0 rfl) ?_
      refine r_if_ge (tgt := 97) hx hb ⟨(by omega), (by omega)⟩ dX9_tellRow_92 (by decide) (fun c_48 => ?_) (fun c_48 => ?_)
      · obtain ⟨hr1, h142, hne2, hle2⟩ := xu_44.2.1 (by omega)
        rw [zt2] at hne2 hle2
        have hfn2 : eFind (rN M (v (pz + 1))) (v (pz + 3)) = -1 := (by rw [nr_30.find]; exact hne2)
        have hp0 := NRc.pushed nr_30 hK1 hle2 (by omega)
        have hpf : Hd (∀ s, 0 ≤ s → s < (rN M (v (pz + 1))).1 → fc u_44 s 0 = (rN M (v (pz + 1))).2.2.1 s 0) := (fun s a b => by rw [← (hp0.2.2 s a (show s < (rN M (v (pz + 1))).1 + 1 by omega)).1]; exact if_neg (by omega))
        refine lv_aload_n hx hb dX9_tellRow_97 rfl (lv_at hl 3 rfl) ?_
        refine lv_iload_n hx hb dX9_tellRow_98 rfl (lv_at hl 1 rfl) ?_
        refine lv_bipush (v := iv 6) hx hb dX9_tellRow_99 (by decide) ?_
        refine sBi (sV (As := [.int (iv r_29), .int (iv 6)]) (rest := []) (k := 11) Cx (e_X9_isSort l G u_44 (s0 := r_29) (k := 6) iu_44 (by omega) (by omega)) (c_X9_146 Cx rfl rfl (rmk_ok (by omega) (by decide))) hW (by decide) rfl rfl rfl hl.1 rfl (Nat.le_of_ble_eq_true rfl) dX9_tellRow_101 ⟨Nat.le_of_ble_eq_true rfl, Nat.le_of_ble_eq_true rfl⟩) hL (fun r_51 u_49 H locs k_50 hW hL => ?_)
        obtain ⟨eu_49, xu_49⟩ := k_50
        rw [eu_49] at hW
        refine r_if_ne (tgt := 119) hx hb ⟨(by omega), (by omega)⟩ dX9_tellRow_104 (by decide) (fun c_52 => ?_) (fun c_52 => ?_)
        · have hs6 := xu_49.2.1 (by omega)
          have hsl := eFind_lt (N := rN M (v (pz + 1))) (x := v (pz + 5)) (by omega)
          have hsN : 0 ≤ r_29 ∧ r_29 < (rN M (v (pz + 1))).1 := ⟨hs6.1, by omega⟩
          have h6 : (rN M (v (pz + 1))).2.2.1 r_29 0 = 6 := (hpf _ hsN.1 hsN.2).symm.trans hs6.2
          have hsm : r_29 ≠ M.1.1 := (fun z => by have h7 := h6; rw [z] at h7; have h8 : (rN M (v (pz + 1))).2.2.1 M.1.1 = _ := add_n; rw [h8] at h7; exact absurd h7 (by decide))
          have ea : (rN M (v (pz + 1))).2.2.1 r_29 = M.1.2.2.1 r_29 := add_o hsm
          have hb6 := (hK1.2 _ hsN.1 hsN.2).2.1 h6
          have he6 := hp0.set6 hsN.1 hsN.2 h6
          rw [ea] at hb6 he6
          refine lv_aload_n hx hb dX9_tellRow_119 rfl (lv_at hl 3 rfl) ?_
          have q_53 : (-2147483648) ≤ u_44.1 11 13 ∧ u_44.1 11 13 ≤ 2147483647 := iu_44.fi 11 13 9 (by decide) rfl
          refine g_X9_89 Cx hW (k := 11) (by decide) rfl (v := u_44.1 11 13) rfl dX9_tellRow_120 ?_
          refine lv_bipush (v := iv 6) hx hb dX9_tellRow_123 (by decide) ?_
          refine r_iadd hx hb dX9_tellRow_125 ?_
          refine lv_istore (lv' := [(4, .int (iv ((u_44.1 11 13) + 6))), (3, .int (iv r_46)), (2, .int (iv r_29)), (1, .int (iv ((S.1 11 13) + 1))), (0, .ref (G.2.2.1 + 11))]) hx hb dX9_tellRow_126 hl (by decide) rfl (fun ls hl => ?_)
          refine lv_aload_n hx hb dX9_tellRow_128 rfl (lv_at hl 4 rfl) ?_
          refine lv_iload_n hx hb dX9_tellRow_129 rfl (lv_at hl 2 rfl) ?_
          refine lv_iconst (v := iv 2) hx hb dX9_tellRow_130 (by decide) ?_
          refine sBi (sV (As := [.int (iv r_29), .int (iv 2)]) (rest := []) (k := 11) Cx (s_X9_fact l G u_44 (s0 := r_29) (q := 2) iu_44 (by omega) (by omega)) (c_X9_120 Cx rfl rfl (rmk_ok (by omega) (by decide))) hW (by decide) rfl rfl rfl hl.1 rfl (Nat.le_of_ble_eq_true rfl) dX9_tellRow_131 ⟨Nat.le_of_ble_eq_true rfl, Nat.le_of_ble_eq_true rfl⟩) hL (fun r_56 u_54 H locs k_55 hW hL => ?_)
          obtain ⟨eu_54, xu_54⟩ := k_55
          rw [eu_54] at hW
          have yu_54 := xu_54.2
          unfold fr8 at yu_54
          have ehi : r_56 = M.1.2.2.1 r_29 2 := xu_54.1.trans he6.2
          refine lv_istore (lv' := [(5, .int (iv r_56)), (4, .int (iv ((u_44.1 11 13) + 6))), (3, .int (iv r_46)), (2, .int (iv r_29)), (1, .int (iv ((S.1 11 13) + 1))), (0, .ref (G.2.2.1 + 11))]) hx hb dX9_tellRow_134 hl (by decide) rfl (fun ls hl => ?_)
          refine lv_aload_n hx hb dX9_tellRow_136 rfl (lv_at hl 5 rfl) ?_
          refine lv_iload_n hx hb dX9_tellRow_137 rfl (lv_at hl 3 rfl) ?_
          refine lv_iconst (v := iv 1) hx hb dX9_tellRow_138 (by decide) ?_
          refine sBi (sV (As := [.int (iv r_29), .int (iv 1)]) (rest := []) (k := 11) Cx (s_X9_fact l G u_44 (s0 := r_29) (q := 1) iu_44 (by omega) (by omega)) (c_X9_120 Cx rfl rfl (rmk_ok (by omega) (by decide))) hW (by decide) rfl rfl rfl hl.1 rfl (Nat.le_of_ble_eq_true rfl) dX9_tellRow_139 ⟨Nat.le_of_ble_eq_true rfl, Nat.le_of_ble_eq_true rfl⟩) hL (fun r_59 u_57 H locs k_58 hW hL => ?_)
          obtain ⟨eu_57, xu_57⟩ := k_58
          rw [eu_57] at hW
          have yu_57 := xu_57.2
          unfold fr8 at yu_57
          have elo : r_59 = M.1.2.2.1 r_29 1 := xu_57.1.trans he6.1
          have q_60 : 0 ≤ u_44.1 11 9 ∧ u_44.1 11 9 ≤ 128 := iu_44.fi 11 9 9 (by decide) rfl
          have q_61 : 0 ≤ u_44.1 11 10 ∧ u_44.1 11 10 ≤ 8 := iu_44.fi 11 10 9 (by decide) rfl
          have q_62 : 0 ≤ u_44.1 11 11 ∧ u_44.1 11 11 ≤ 12 := iu_44.fi 11 11 9 (by decide) rfl
          have q_63 : (-2147483648) ≤ u_44.1 11 12 ∧ u_44.1 11 12 ≤ 2147483647 := iu_44.fi 11 12 9 (by decide) rfl
          have q_64 : 0 ≤ u_44.1 11 14 ∧ u_44.1 11 14 ≤ 7 := iu_44.fi 11 14 9 (by decide) rfl
          have lk_65 : u_44.1 o 2 = S.1 o 2 := ((fu_44 o (mdl_out hm).1).1 2).trans ((uF_ne (fun h => absurd h.2 (by decide))).trans ((fu_7 o (mdl_out hm).1).1 2))
          have lk_66 : u_44.1 o 3 = S.1 o 3 := ((fu_44 o (mdl_out hm).1).1 3).trans ((uF_ne (fun h => absurd h.2 (by decide))).trans ((fu_7 o (mdl_out hm).1).1 3))
          refine lv_istore (lv' := [(6, .int (iv r_59)), (5, .int (iv r_56)), (4, .int (iv ((u_44.1 11 13) + 6))), (3, .int (iv r_46)), (2, .int (iv r_29)), (1, .int (iv ((S.1 11 13) + 1))), (0, .ref (G.2.2.1 + 11))]) hx hb dX9_tellRow_142 hl (by decide) rfl (fun ls hl => ?_)
          have loop_144 : ∀ (fuel : Nat) (S144 : sS) (va : Int) (H : Heap) (locs : List Loc) (ls : Array Slot), (r_56 + 1 - va).toNat < fuel → (cX G S144 0 0 0) → (Fr S S144 pG) → (Fr u_44 S144 pG) → (Hd (RK S S144)) → (r_59 ≤ va ∧ va ≤ r_56 + 1) → (Hd (r_59 < va → S144.1 11 13 = q ∧ S.1 o 3 < S144.1 o 3)) → (S144.1 11 14 = 0 ∧ S144.1 11 10 = S.1 11 10 ∧ S144.1 11 11 = S.1 11 11) → (S144.1 o 2 = S.1 o 2 ∧ S.1 o 3 ≤ S144.1 o 3 ∧ S144.1 o 3 ≤ 16) → (0 ≤ S144.1 11 12 ∧ S144.1 11 12 ≤ 20000) → (Hd (∃ w, NRc (push (rN M (v (pz + 1))) (v (pz + 3)) w) S144)) → (Hd (eDr T k v M pz = (eRn T k v (rN M (v (pz + 1))) (v (pz + 3)) (pz + 8) (r_56 + 1 - va).toNat va (S144.1 o 3) (S144.1 11 12) q).bind (fun y => some (rM M (v (pz + 1)) y, y.2.2)))) → sW G 294 S144 H → sL G locs → lv_has ls 7 [(6, .int (iv va)), (5, .int (iv r_56)), (4, .int (iv ((u_44.1 11 13) + 6))), (3, .int (iv r_46)), (2, .int (iv r_29)), (1, .int (iv ((S.1 11 13) + 1))), (0, .ref (G.2.2.1 + 11))] → W p l e (rmk 134 0 0) s m args below meth c H locs 0 0 (MQ below (sQi G 294 (fun r u => cX G u 0 0 0 ∧ Fr S u pG ∧ (MOc S u G o q r (eDr T k v M pz)))) args s 0 0 (sF G)) (F0 m 144 ls []) := by
            intro fuel
            induction fuel with
            | zero => intro S144 va H locs ls hmeas hI144 hFm144 hL144_ hRK hva hpo hf81 hmo hl81 hNP hTO hW hL hl; exact absurd hmeas (Nat.not_lt_zero _)
            | succ fuel ih_144 =>
              intro S144 va H locs ls hmeas hI144 hFm144 hL144_ hRK hva hpo hf81 hmo hl81 hNP hTO hW hL hl
              obtain ⟨w0, hNw⟩ := hNP
              have hk81 : M.1.1 + 1 + 1 = S144.1 11 9 := hNw.1.1
              refine lv_iload hx hb dX9_tellRow_144 (lv_at hl 0 rfl) ?_
              refine lv_iload hx hb dX9_tellRow_146 (lv_at hl 1 rfl) ?_
              refine r_icmp_gt (tgt := 181) hx hb ⟨(by omega), (by omega)⟩ ⟨(by omega), (by omega)⟩ dX9_tellRow_148 (by decide) (fun c_67 => ?_) (fun c_67 => ?_)
              · refine lv_aload_n hx hb dX9_tellRow_181 rfl (lv_at hl 6 rfl) ?_
                have q_68 : 0 ≤ S144.1 11 9 ∧ S144.1 11 9 ≤ 128 := hI144.fi 11 9 9 (by decide) rfl
                refine sBv (sV (As := []) (rest := []) (k := 11) Cx (s_X9_forgetLast l G S144  hI144 (by omega)) (c_X9_176 Cx rfl rfl (rmk_ok (by omega) (by decide))) hW (by decide) rfl rfl rfl hl.1 rfl (Nat.le_of_ble_eq_true rfl) dX9_tellRow_182 ⟨Nat.le_of_ble_eq_true rfl, Nat.le_of_ble_eq_true rfl⟩) hL (fun u_69 H locs k_70 hW hL => ?_)
                obtain ⟨iu_69, fu_69, xu_69⟩ := k_70
                have F_71 := hFm144.trans (fu_69.to (fun k h => pV_G k ((fun k h => pU_V k ((fun k h => pT_U k (p11_T k h)) k h)) k h)))
                have F_72 := hL144_.trans (fu_69.to (fun k h => pV_G k ((fun k h => pU_V k ((fun k h => pT_U k (p11_T k h)) k h)) k h)))
                have F_73 := (Fr.rf : Fr S144 S144 pRm).trans (fu_69.to (p1_sub rfl))
                have g9 : u_69.1 11 9 = S144.1 11 9 - 1 := (by rw [xu_69]; exact uF_on)
                have g10 : u_69.1 11 10 = S144.1 11 10 := (by rw [xu_69]; exact uF_i (by decide))
                have g11 : u_69.1 11 11 = S144.1 11 11 := (by rw [xu_69]; exact uF_i (by decide))
                have g12 : u_69.1 11 12 = S144.1 11 12 := (by rw [xu_69]; exact uF_i (by decide))
                have g13 : u_69.1 11 13 = S144.1 11 13 := (by rw [xu_69]; exact uF_i (by decide))
                have g14 : u_69.1 11 14 = S144.1 11 14 := (by rw [xu_69]; exact uF_i (by decide))
                have hpq := hpo (by omega)
                refine lv_iconst (v := iv 1) hx hb dX9_tellRow_185 (by decide) ?_
                have q_74 : 0 ≤ u_69.1 11 9 ∧ u_69.1 11 9 ≤ 128 := iu_69.fi 11 9 9 (by decide) rfl
                have q_75 : 0 ≤ u_69.1 11 10 ∧ u_69.1 11 10 ≤ 8 := iu_69.fi 11 10 9 (by decide) rfl
                have q_76 : 0 ≤ u_69.1 11 11 ∧ u_69.1 11 11 ≤ 12 := iu_69.fi 11 11 9 (by decide) rfl
                have q_77 : (-2147483648) ≤ u_69.1 11 12 ∧ u_69.1 11 12 ≤ 2147483647 := iu_69.fi 11 12 9 (by decide) rfl
                have q_78 : (-2147483648) ≤ u_69.1 11 13 ∧ u_69.1 11 13 ≤ 2147483647 := iu_69.fi 11 13 9 (by decide) rfl
                have q_79 : 0 ≤ u_69.1 11 14 ∧ u_69.1 11 14 ≤ 7 := iu_69.fi 11 14 9 (by decide) rfl
                have q_80 : 0 ≤ S144.1 o 2 ∧ S144.1 o 2 ≤ 12 := hI144.fi o 2 3 (mdl_k hm) hm.1
                have lk_81 : u_69.1 o 2 = S144.1 o 2 := (fu_69 o (p1_no (tau_ne hm.1 (rfl : tau 11 = .inl 9) (fun h => by cases h)))).1 2
                have q_82 : 0 ≤ S144.1 o 3 ∧ S144.1 o 3 ≤ 16 := hI144.fi o 3 3 (mdl_k hm) hm.1
                have lk_83 : u_69.1 o 3 = S144.1 o 3 := (fu_69 o (p1_no (tau_ne hm.1 (rfl : tau 11 = .inl 9) (fun h => by cases h)))).1 3
                have nr_84 : NRc (rN M (v (pz + 1))) u_69 := hNw.pop hK1 (by omega) (by omega) (fun j => (F_73 16 rfl).2.2.1 j) (fun j => (F_73 17 rfl).2.1 j) (fun j => (F_73 18 rfl).2.1 j)
                exact sZret Cx hr hlk hW hL (by omega) ⟨iu_69, F_71, ⟨⟨⟨(fun i => (((RK_F xu_69) i).trans (hRK i))), (fun h => absurd h (by decide))⟩, by omega, by omega⟩, (fun _ => ⟨_, (by rw [hTO, eRn_z (by omega)]; rfl), hM.row hfn nr_84 (by omega) (by omega) (by omega) ⟨(show u_69.1 o 3 = S144.1 o 3 by omega), by omega, by omega⟩ ⟨(show u_69.1 11 12 = S144.1 11 12 by omega), hl81⟩ ((fun i => (((RK_F xu_69) i).trans (hRK i))) 8), (by omega), (by omega)⟩), (fun h => absurd h (by decide))⟩⟩ dX9_tellRow_186
              · refine lv_aload_n hx hb dX9_tellRow_151 rfl (lv_at hl 6 rfl) ?_
                refine lv_iload_n hx hb dX9_tellRow_152 rfl (lv_at hl 3 rfl) ?_
                refine lv_iconst (v := iv 1) hx hb dX9_tellRow_153 (by decide) ?_
                refine lv_iload hx hb dX9_tellRow_154 (lv_at hl 0 rfl) ?_
                refine sBv (sV (As := [.int (iv r_46), .int (iv 1), .int (iv va)]) (rest := []) (k := 11) Cx (s_X9_setFact l G S144 (s0 := r_46) (q := 1) (v := va) hI144 (by omega) (by omega) (by unfold fr8; omega) (by omega)) (c_X9_136 Cx rfl rfl (rmk_ok (by omega) (by decide))) hW (by decide) rfl rfl rfl hl.1 rfl (Nat.le_of_ble_eq_true rfl) dX9_tellRow_156 ⟨Nat.le_of_ble_eq_true rfl, Nat.le_of_ble_eq_true rfl⟩) hL (fun u_85 H locs k_86 hW hL => ?_)
                obtain ⟨iu_85, fu_85, xu_85⟩ := k_86
                have F_87 := hFm144.trans (fu_85.to (fun k h => pV_G k ((fun k h => pU_V k ((fun k h => pT_U k (p17_T k h)) k h)) k h)))
                have F_88 := hL144_.trans (fu_85.to (fun k h => pV_G k ((fun k h => pU_V k ((fun k h => pT_U k (p17_T k h)) k h)) k h)))
                have hnv : NRc (push (rN M (v (pz + 1))) (v (pz + 3)) va) u_85 := hNw.low hK1 (by omega) (by omega) xu_85
                have hKv : NK (push (rN M (v (pz + 1))) (v (pz + 3)) va) := NK.pushed hK1 (by omega) hfn2 (by omega)
                have s9u_85 : u_85.1 11 9 = S144.1 11 9 := (by rw [xu_85]; rfl)
                have s10u_85 : u_85.1 11 10 = S144.1 11 10 := (by rw [xu_85]; rfl)
                have s11u_85 : u_85.1 11 11 = S144.1 11 11 := (by rw [xu_85]; rfl)
                have s12u_85 : u_85.1 11 12 = S144.1 11 12 := (by rw [xu_85]; rfl)
                have s13u_85 : u_85.1 11 13 = S144.1 11 13 := (by rw [xu_85]; rfl)
                have s14u_85 : u_85.1 11 14 = S144.1 11 14 := (by rw [xu_85]; rfl)
                refine lv_aload_n hx hb dX9_tellRow_159 rfl (lv_at hl 6 rfl) ?_
                refine lv_iload hx hb dX9_tellRow_160 (lv_at hl 2 rfl) ?_
                refine p_X9_89 Cx hW hL (k := 11) (by decide) rfl dX9_tellRow_162 (fun H locs hW hL => ?_)
                have F_89 : Fr S (uF u_85 11 13 ((u_44.1 11 13) + 6)) pG := F_87.F rfl
                have F_90 : Fr u_44 (uF u_85 11 13 ((u_44.1 11 13) + 6)) pG := F_88.F rfl
                have F_91 : Fr u_85 (uF u_85 11 13 ((u_44.1 11 13) + 6)) pRm := (Fr.rf : Fr u_85 u_85 pRm).F rfl
                have i_92 : cX G (uF u_85 11 13 ((u_44.1 11 13) + 6)) 0 0 0 := iu_85.F rfl rfl (show (-2147483648) ≤ (u_44.1 11 13) + 6 ∧ (u_44.1 11 13) + 6 ≤ 2147483647 from ⟨by omega, by omega⟩)
                refine lv_aload_n hx hb dX9_tellRow_165 rfl (lv_at hl 6 rfl) ?_
                refine lv_iload_n hx hb dX9_tellRow_166 rfl (lv_at hl 5 rfl) ?_
                have q_93 : 0 ≤ S144.1 11 9 ∧ S144.1 11 9 ≤ 128 := hI144.fi 11 9 9 (by decide) rfl
                have lk_94 : (uF u_85 11 13 ((u_44.1 11 13) + 6)).1 11 9 = S144.1 11 9 := (uF_ne (fun h => absurd h.2 (by decide))).trans ((fu_85 11 rfl).1 9)
                have q_95 : 0 ≤ S144.1 11 10 ∧ S144.1 11 10 ≤ 8 := hI144.fi 11 10 9 (by decide) rfl
                have lk_96 : (uF u_85 11 13 ((u_44.1 11 13) + 6)).1 11 10 = S144.1 11 10 := (uF_ne (fun h => absurd h.2 (by decide))).trans ((fu_85 11 rfl).1 10)
                have q_97 : 0 ≤ S144.1 11 11 ∧ S144.1 11 11 ≤ 12 := hI144.fi 11 11 9 (by decide) rfl
                have lk_98 : (uF u_85 11 13 ((u_44.1 11 13) + 6)).1 11 11 = S144.1 11 11 := (uF_ne (fun h => absurd h.2 (by decide))).trans ((fu_85 11 rfl).1 11)
                have q_99 : (-2147483648) ≤ S144.1 11 12 ∧ S144.1 11 12 ≤ 2147483647 := hI144.fi 11 12 9 (by decide) rfl
                have lk_100 : (uF u_85 11 13 ((u_44.1 11 13) + 6)).1 11 12 = S144.1 11 12 := (uF_ne (fun h => absurd h.2 (by decide))).trans ((fu_85 11 rfl).1 12)
                have lk_101 : (uF u_85 11 13 ((u_44.1 11 13) + 6)).1 11 13 = (u_44.1 11 13) + 6 := uF_on
                have q_102 : 0 ≤ S144.1 11 14 ∧ S144.1 11 14 ≤ 7 := hI144.fi 11 14 9 (by decide) rfl
                have lk_103 : (uF u_85 11 13 ((u_44.1 11 13) + 6)).1 11 14 = S144.1 11 14 := (uF_ne (fun h => absurd h.2 (by decide))).trans ((fu_85 11 rfl).1 14)
                have q_104 : 0 ≤ S144.1 o 2 ∧ S144.1 o 2 ≤ 12 := hI144.fi o 2 3 (mdl_k hm) hm.1
                have lk_105 : (uF u_85 11 13 ((u_44.1 11 13) + 6)).1 o 2 = S144.1 o 2 := (uF_ne (fun h => absurd h.2 (by decide))).trans ((fu_85 o (p1_no (tau_ne hm.1 (rfl : tau 17 = .inr (.int, 768)) (fun h => by cases h)))).1 2)
                have q_106 : 0 ≤ S144.1 o 3 ∧ S144.1 o 3 ≤ 16 := hI144.fi o 3 3 (mdl_k hm) hm.1
                have lk_107 : (uF u_85 11 13 ((u_44.1 11 13) + 6)).1 o 3 = S144.1 o 3 := (uF_ne (fun h => absurd h.2 (by decide))).trans ((fu_85 o (p1_no (tau_ne hm.1 (rfl : tau 17 = .inr (.int, 768)) (fun h => by cases h)))).1 3)
                have nr_108 : NRc (push (rN M (v (pz + 1))) (v (pz + 3)) va) (uF u_85 11 13 ((u_44.1 11 13) + 6)) := hnv.of (by omega) (fun j => (F_91 16 rfl).2.2.1 j) (fun j => (F_91 17 rfl).2.1 j) (fun j => (F_91 18 rfl).2.1 j)
                have kv_109 : KV (uF u_85 11 13 ((u_44.1 11 13) + 6)) k v T := hkv.fr F_89 rfl rfl rfl
                refine sBi (sV (As := [.int (iv ((S.1 11 13) + 1))]) (rest := []) (k := 11) Cx (e_X9_tellOneRow l G (uF u_85 11 13 ((u_44.1 11 13) + 6)) (nm := (S.1 11 13) + 1) (k := k) (v := v) (T := T) (q := q) (a1 := a1) (b1 := b1) (o := o) (N := push (rN M (v (pz + 1))) (v (pz + 3)) va) (pz := pz + 8) i_92 (by omega) hm nr_108 hKv hTV kv_109 (by omega) (by omega) (by omega) (by omega) (show M.1.1 + 1 + 1 + 30 ≤ 128 by omega) (((fun i => (((fu_85 11 rfl).2.2.2 i).trans (hRK i))) 8).trans hrf) (by omega) hga hrel hE2 (by omega) (by omega)) (c_X9_173 Cx rfl rfl (rmk_ok (by omega) (by decide))) hW (by decide) rfl rfl rfl hl.1 rfl (Nat.le_of_ble_eq_true rfl) dX9_tellRow_167 ⟨Nat.le_of_ble_eq_true rfl, Nat.le_of_ble_eq_true rfl⟩) hL (fun r_112 u_110 H locs k_111 hW hL => ?_)
                obtain ⟨iu_110, fu_110, xu_110⟩ := k_111
                have F_113 := F_89.trans fu_110
                have F_114 := F_90.trans fu_110
                have yu_110 := xu_110.1.2
                refine r_if_ne (tgt := 175) hx hb ⟨(by omega), (by omega)⟩ dX9_tellRow_170 (by decide) (fun c_115 => ?_) (fun c_115 => ?_)
                · obtain ⟨e1, m1, l1, pp1, f1, n1⟩ := xu_110.2.1 (by omega)
                  rw [show (uF u_85 11 13 ((u_44.1 11 13) + 6)).1 o 3 = S144.1 o 3 by omega, show (uF u_85 11 13 ((u_44.1 11 13) + 6)).1 11 12 = S144.1 11 12 by omega] at e1
                  refine lv_iinc (v := iv (va + 1)) (lv' := [(6, .int (iv (va + 1))), (5, .int (iv r_56)), (4, .int (iv ((u_44.1 11 13) + 6))), (3, .int (iv r_46)), (2, .int (iv r_29)), (1, .int (iv ((S.1 11 13) + 1))), (0, .ref (G.2.2.1 + 11))]) hx hb dX9_tellRow_175 hl (k := 0) rfl ((Int32.ofInt_add _ _).symm) (by decide) rfl (fun ls hl => ?_)
                  refine lv_goto (tgt := 144) hx hb dX9_tellRow_178 (by decide) ?_
                  have q_116 : 0 ≤ u_110.1 11 9 ∧ u_110.1 11 9 ≤ 128 := iu_110.fi 11 9 9 (by decide) rfl
                  have q_117 : 0 ≤ u_110.1 11 10 ∧ u_110.1 11 10 ≤ 8 := iu_110.fi 11 10 9 (by decide) rfl
                  have q_118 : 0 ≤ u_110.1 11 11 ∧ u_110.1 11 11 ≤ 12 := iu_110.fi 11 11 9 (by decide) rfl
                  have q_119 : (-2147483648) ≤ u_110.1 11 12 ∧ u_110.1 11 12 ≤ 2147483647 := iu_110.fi 11 12 9 (by decide) rfl
                  have q_120 : (-2147483648) ≤ u_110.1 11 13 ∧ u_110.1 11 13 ≤ 2147483647 := iu_110.fi 11 13 9 (by decide) rfl
                  have q_121 : 0 ≤ u_110.1 11 14 ∧ u_110.1 11 14 ≤ 7 := iu_110.fi 11 14 9 (by decide) rfl
                  have q_122 : 0 ≤ u_110.1 o 2 ∧ u_110.1 o 2 ≤ 12 := iu_110.fi o 2 3 (mdl_k hm) hm.1
                  have q_123 : 0 ≤ u_110.1 o 3 ∧ u_110.1 o 3 ≤ 16 := iu_110.fi o 3 3 (mdl_k hm) hm.1
                  exact ih_144 u_110 (va + 1) _ _ _ (by omega) iu_110 F_113 F_114 (fun i => ((xu_110.1.1.1 i).trans (((fu_85 11 rfl).2.2.2 i).trans (hRK i)))) (by omega) (fun _ => ⟨by omega, by omega⟩) (by omega) (by omega) (by omega) ⟨_, n1⟩ (by rw [hTO, eRn_s (by omega) e1]; rfl) hW hL (lv_sub hl [0, 1, 2, 3, 4, 5, 6] rfl)
                · refine lv_iconst (v := iv 0) hx hb dX9_tellRow_173 (by decide) ?_
                  have q_124 : 0 ≤ u_110.1 11 9 ∧ u_110.1 11 9 ≤ 128 := iu_110.fi 11 9 9 (by decide) rfl
                  have q_125 : 0 ≤ u_110.1 11 10 ∧ u_110.1 11 10 ≤ 8 := iu_110.fi 11 10 9 (by decide) rfl
                  have q_126 : 0 ≤ u_110.1 11 11 ∧ u_110.1 11 11 ≤ 12 := iu_110.fi 11 11 9 (by decide) rfl
                  have q_127 : (-2147483648) ≤ u_110.1 11 12 ∧ u_110.1 11 12 ≤ 2147483647 := iu_110.fi 11 12 9 (by decide) rfl
                  have q_128 : (-2147483648) ≤ u_110.1 11 13 ∧ u_110.1 11 13 ≤ 2147483647 := iu_110.fi 11 13 9 (by decide) rfl
                  have q_129 : 0 ≤ u_110.1 11 14 ∧ u_110.1 11 14 ≤ 7 := iu_110.fi 11 14 9 (by decide) rfl
                  have q_130 : 0 ≤ u_110.1 o 2 ∧ u_110.1 o 2 ≤ 12 := iu_110.fi o 2 3 (mdl_k hm) hm.1
                  have q_131 : 0 ≤ u_110.1 o 3 ∧ u_110.1 o 3 ≤ 16 := iu_110.fi o 3 3 (mdl_k hm) hm.1
                  exact sZret Cx hr hlk hW hL (by omega) ⟨iu_110, F_113, ⟨⟨⟨(fun i => ((xu_110.1.1.1 i).trans (((fu_85 11 rfl).2.2.2 i).trans (hRK i)))), (fun _ => by first | omega | exact xu_110.1.1.2 (by omega))⟩, by omega, by omega⟩, (fun h => absurd h (by omega)), (fun _ => (by have q9 := xu_110.2.2 (by omega); rw [show (uF u_85 11 13 ((u_44.1 11 13) + 6)).1 o 3 = S144.1 o 3 by omega, show (uF u_85 11 13 ((u_44.1 11 13) + 6)).1 11 12 = S144.1 11 12 by omega] at q9; rw [hTO, eRn_n (by omega) q9]; rfl))⟩⟩ dX9_tellRow_174
          exact loop_144 (_ + 1) u_44 r_59 _ _ _ (Nat.lt_succ_self _) iu_44 F_47 Fr.rf (fun i => ((xu_44.1.1.1 i).trans (xu_7.1.1.1 i))) (by omega) (fun z => absurd z (by omega)) (by omega) (by omega) (by omega) ⟨_, hp0⟩ (by rw [eDr_3 (by omega) hfn (by omega) hfn2 (by rw [isS, ← f0]; exact ⟨hsN.1, h6⟩) f0 elo ehi, eRn_p (y0 := q) (by omega), show u_44.1 o 3 = M.2.2.2.2.2.1 by omega, show u_44.1 11 12 = M.2.2.2.2.2.2.2 by omega]; rfl) hW hL (lv_sub hl [0, 1, 2, 3, 4, 5, 6] rfl)
        · refine lv_aload_n hx hb dX9_tellRow_107 rfl (lv_at hl 3 rfl) ?_
          refine lv_iconst (v := iv 2) hx hb dX9_tellRow_108 (by decide) ?_
          refine lv_aload_n hx hb dX9_tellRow_109 rfl (lv_at hl 3 rfl) ?_
          have q_132 : (-2147483648) ≤ u_44.1 11 13 ∧ u_44.1 11 13 ≤ 2147483647 := iu_44.fi 11 13 9 (by decide) rfl
          refine g_X9_89 Cx hW (k := 11) (by decide) rfl (v := u_44.1 11 13) rfl dX9_tellRow_110 ?_
          refine lv_iconst (v := iv 3) hx hb dX9_tellRow_113 (by decide) ?_
          refine r_iadd hx hb dX9_tellRow_114 ?_
          have q_133 : 0 ≤ u_44.1 11 9 ∧ u_44.1 11 9 ≤ 128 := iu_44.fi 11 9 9 (by decide) rfl
          have q_134 : 0 ≤ u_44.1 11 10 ∧ u_44.1 11 10 ≤ 8 := iu_44.fi 11 10 9 (by decide) rfl
          have q_135 : 0 ≤ u_44.1 11 11 ∧ u_44.1 11 11 ≤ 12 := iu_44.fi 11 11 9 (by decide) rfl
          have q_136 : (-2147483648) ≤ u_44.1 11 12 ∧ u_44.1 11 12 ≤ 2147483647 := iu_44.fi 11 12 9 (by decide) rfl
          refine sBi (sV (As := [.int (iv 2), .int (iv ((u_44.1 11 13) + 3))]) (rest := []) (k := 11) Cx (e_X9_fail l G u_44 (k := 2) (tk := (u_44.1 11 13) + 3) iu_44 (by omega) (by omega)) (c_X9_132 Cx rfl rfl (rmk_ok (by omega) (by decide))) hW (by decide) rfl rfl rfl hl.1 rfl (Nat.le_of_ble_eq_true rfl) dX9_tellRow_115 ⟨Nat.le_of_ble_eq_true rfl, Nat.le_of_ble_eq_true rfl⟩) hL (fun r_139 u_137 H locs k_138 hW hL => ?_)
          obtain ⟨iu_137, fu_137, xu_137⟩ := k_138
          have F_140 := F_47.trans (fu_137.to (fun k h => pV_G k ((fun k h => pU_V k ((fun k h => pT_U k (p11_T k h)) k h)) k h)))
          have F_141 := (Fr.rf : Fr u_44 u_44 pRm).trans (fu_137.to (p1_sub rfl))
          have q_142 : 0 ≤ u_137.1 11 9 ∧ u_137.1 11 9 ≤ 128 := iu_137.fi 11 9 9 (by decide) rfl
          have q_143 : 0 ≤ u_137.1 11 10 ∧ u_137.1 11 10 ≤ 8 := iu_137.fi 11 10 9 (by decide) rfl
          have q_144 : 0 ≤ u_137.1 11 11 ∧ u_137.1 11 11 ≤ 12 := iu_137.fi 11 11 9 (by decide) rfl
          have q_145 : (-2147483648) ≤ u_137.1 11 12 ∧ u_137.1 11 12 ≤ 2147483647 := iu_137.fi 11 12 9 (by decide) rfl
          have q_146 : (-2147483648) ≤ u_137.1 11 13 ∧ u_137.1 11 13 ≤ 2147483647 := iu_137.fi 11 13 9 (by decide) rfl
          have q_147 : 0 ≤ u_137.1 11 14 ∧ u_137.1 11 14 ≤ 7 := iu_137.fi 11 14 9 (by decide) rfl
          have lk_148 : u_137.1 o 2 = S.1 o 2 := ((fu_137 o (p1_no (tau_ne hm.1 (rfl : tau 11 = .inl 9) (fun h => by cases h)))).1 2).trans (((fu_44 o (mdl_out hm).1).1 2).trans ((uF_ne (fun h => absurd h.2 (by decide))).trans ((fu_7 o (mdl_out hm).1).1 2)))
          have lk_149 : u_137.1 o 3 = S.1 o 3 := ((fu_137 o (p1_no (tau_ne hm.1 (rfl : tau 11 = .inl 9) (fun h => by cases h)))).1 3).trans (((fu_44 o (mdl_out hm).1).1 3).trans ((uF_ne (fun h => absurd h.2 (by decide))).trans ((fu_7 o (mdl_out hm).1).1 3)))
          exact sZret Cx hr hlk hW hL (by omega) ⟨iu_137, F_140, ⟨⟨⟨(fun i => ((xu_137.2.2.2.2.2.2.2 i).trans ((xu_44.1.1.1 i).trans (xu_7.1.1.1 i)))), (fun _ => by first | omega | exact xu_137.1.1.2 (by omega))⟩, by omega, by omega⟩, (fun h => absurd h (by omega)), (fun _ => (eDr_2 hfn (by omega) (fun z => xu_49.2.2 (by omega) (by rw [f0]; exact ⟨z.2.1, (hpf _ z.2.1 (eFind_lt (by omega)).2).trans z.2.2⟩))))⟩⟩ dX9_tellRow_118
      · refine lv_iconst (v := iv 0) hx hb dX9_tellRow_95 (by decide) ?_
        have q_150 : 0 ≤ u_44.1 11 9 ∧ u_44.1 11 9 ≤ 128 := iu_44.fi 11 9 9 (by decide) rfl
        have q_151 : 0 ≤ u_44.1 11 10 ∧ u_44.1 11 10 ≤ 8 := iu_44.fi 11 10 9 (by decide) rfl
        have q_152 : 0 ≤ u_44.1 11 11 ∧ u_44.1 11 11 ≤ 12 := iu_44.fi 11 11 9 (by decide) rfl
        have q_153 : (-2147483648) ≤ u_44.1 11 12 ∧ u_44.1 11 12 ≤ 2147483647 := iu_44.fi 11 12 9 (by decide) rfl
        have q_154 : (-2147483648) ≤ u_44.1 11 13 ∧ u_44.1 11 13 ≤ 2147483647 := iu_44.fi 11 13 9 (by decide) rfl
        have q_155 : 0 ≤ u_44.1 11 14 ∧ u_44.1 11 14 ≤ 7 := iu_44.fi 11 14 9 (by decide) rfl
        have lk_156 : u_44.1 o 2 = S.1 o 2 := ((fu_44 o (mdl_out hm).1).1 2).trans ((uF_ne (fun h => absurd h.2 (by decide))).trans ((fu_7 o (mdl_out hm).1).1 2))
        have lk_157 : u_44.1 o 3 = S.1 o 3 := ((fu_44 o (mdl_out hm).1).1 3).trans ((uF_ne (fun h => absurd h.2 (by decide))).trans ((fu_7 o (mdl_out hm).1).1 3))
        exact sZret Cx hr hlk hW hL (by omega) ⟨iu_44, F_47, ⟨⟨⟨(fun i => ((xu_44.1.1.1 i).trans (xu_7.1.1.1 i))), (fun _ => by first | omega | exact xu_44.1.1.2 (by omega))⟩, by omega, by omega⟩, (fun h => absurd h (by omega)), (fun _ => (by have q0 : 0 ≤ eFind (rN M (v (pz + 1))) (v (pz + 3)) := (by rw [nr_30.find]; rcases xu_44.2.2 (by omega) with z | z; (rw [zt2] at z; exact z); (exfalso; omega)); exact eDr_2 hfn (by omega) (fun z => by have z1 := z.1; omega)))⟩⟩ dX9_tellRow_96
    · have hb0 : b = pz + 2 := (by rcases hri with z | z; (exact z.2); (exact absurd z.1 (by omega)))
      have hga : Hd (ogU T k (ogF T k 30) (pz + 3) = some a1) := (by rw [show pz + 3 = b + 1 by omega]; exact hE1)
      refine lv_aload_n hx hb dX9_tellRow_45 rfl (lv_at hl 1 rfl) ?_
      refine lv_dup hx hb dX9_tellRow_46 rfl ?_
      refine g_X9_89 Cx hW (k := 11) (by decide) rfl (v := (u_7.1 11 13) + 2) uF_on dX9_tellRow_47 ?_
      refine lv_iconst (v := iv 1) hx hb dX9_tellRow_50 (by decide) ?_
      refine r_iadd hx hb dX9_tellRow_51 ?_
      refine p_X9_89 Cx hW hL (k := 11) (by decide) rfl dX9_tellRow_52 (fun H locs hW hL => ?_)
      have F_158 : Fr S (uF (uF u_7 11 13 ((u_7.1 11 13) + 2)) 11 13 (((u_7.1 11 13) + 2) + 1)) pG := F_13.F rfl
      have F_159 : Fr u_7 (uF (uF u_7 11 13 ((u_7.1 11 13) + 2)) 11 13 (((u_7.1 11 13) + 2) + 1)) pRm := F_14.F rfl
      have F_160 : Fr u_7 (uF (uF u_7 11 13 ((u_7.1 11 13) + 2)) 11 13 (((u_7.1 11 13) + 2) + 1)) pRm := F_15.F rfl
      have i_161 : cX G (uF (uF u_7 11 13 ((u_7.1 11 13) + 2)) 11 13 (((u_7.1 11 13) + 2) + 1)) 0 0 0 := i_16.F rfl rfl (show (-2147483648) ≤ ((u_7.1 11 13) + 2) + 1 ∧ ((u_7.1 11 13) + 2) + 1 ≤ 2147483647 from ⟨by omega, by omega⟩)
      refine lv_aload_n hx hb dX9_tellRow_55 rfl (lv_at hl 1 rfl) ?_
      refine lv_iload_n hx hb dX9_tellRow_56 rfl (lv_at hl 0 rfl) ?_
      have q_162 : 0 ≤ u_7.1 11 9 ∧ u_7.1 11 9 ≤ 128 := iu_7.fi 11 9 9 (by decide) rfl
      have lk_163 : (uF (uF u_7 11 13 ((u_7.1 11 13) + 2)) 11 13 (((u_7.1 11 13) + 2) + 1)).1 11 9 = u_7.1 11 9 := (uF_ne (fun h => absurd h.2 (by decide))).trans (uF_ne (fun h => absurd h.2 (by decide)))
      have q_164 : 0 ≤ u_7.1 11 10 ∧ u_7.1 11 10 ≤ 8 := iu_7.fi 11 10 9 (by decide) rfl
      have lk_165 : (uF (uF u_7 11 13 ((u_7.1 11 13) + 2)) 11 13 (((u_7.1 11 13) + 2) + 1)).1 11 10 = u_7.1 11 10 := (uF_ne (fun h => absurd h.2 (by decide))).trans (uF_ne (fun h => absurd h.2 (by decide)))
      have q_166 : 0 ≤ u_7.1 11 11 ∧ u_7.1 11 11 ≤ 12 := iu_7.fi 11 11 9 (by decide) rfl
      have lk_167 : (uF (uF u_7 11 13 ((u_7.1 11 13) + 2)) 11 13 (((u_7.1 11 13) + 2) + 1)).1 11 11 = u_7.1 11 11 := (uF_ne (fun h => absurd h.2 (by decide))).trans (uF_ne (fun h => absurd h.2 (by decide)))
      have q_168 : (-2147483648) ≤ u_7.1 11 12 ∧ u_7.1 11 12 ≤ 2147483647 := iu_7.fi 11 12 9 (by decide) rfl
      have lk_169 : (uF (uF u_7 11 13 ((u_7.1 11 13) + 2)) 11 13 (((u_7.1 11 13) + 2) + 1)).1 11 12 = u_7.1 11 12 := (uF_ne (fun h => absurd h.2 (by decide))).trans (uF_ne (fun h => absurd h.2 (by decide)))
      have lk_170 : (uF (uF u_7 11 13 ((u_7.1 11 13) + 2)) 11 13 (((u_7.1 11 13) + 2) + 1)).1 11 13 = ((u_7.1 11 13) + 2) + 1 := uF_on
      have q_171 : 0 ≤ u_7.1 11 14 ∧ u_7.1 11 14 ≤ 7 := iu_7.fi 11 14 9 (by decide) rfl
      have lk_172 : (uF (uF u_7 11 13 ((u_7.1 11 13) + 2)) 11 13 (((u_7.1 11 13) + 2) + 1)).1 11 14 = u_7.1 11 14 := (uF_ne (fun h => absurd h.2 (by decide))).trans (uF_ne (fun h => absurd h.2 (by decide)))
      have q_173 : 0 ≤ S.1 o 2 ∧ S.1 o 2 ≤ 12 := hI.fi o 2 3 (mdl_k hm) hm.1
      have lk_174 : (uF (uF u_7 11 13 ((u_7.1 11 13) + 2)) 11 13 (((u_7.1 11 13) + 2) + 1)).1 o 2 = S.1 o 2 := (uF_ne (fun h => absurd h.2 (by decide))).trans ((uF_ne (fun h => absurd h.2 (by decide))).trans ((fu_7 o (mdl_out hm).1).1 2))
      have q_175 : 0 ≤ S.1 o 3 ∧ S.1 o 3 ≤ 16 := hI.fi o 3 3 (mdl_k hm) hm.1
      have lk_176 : (uF (uF u_7 11 13 ((u_7.1 11 13) + 2)) 11 13 (((u_7.1 11 13) + 2) + 1)).1 o 3 = S.1 o 3 := (uF_ne (fun h => absurd h.2 (by decide))).trans ((uF_ne (fun h => absurd h.2 (by decide))).trans ((fu_7 o (mdl_out hm).1).1 3))
      have nr_177 : NRc (rN M (v (pz + 1))) (uF (uF u_7 11 13 ((u_7.1 11 13) + 2)) 11 13 (((u_7.1 11 13) + 2) + 1)) := hN1r.of (by omega) (fun j => (F_160 16 rfl).2.2.1 j) (fun j => (F_160 17 rfl).2.1 j) (fun j => (F_160 18 rfl).2.1 j)
      have kv_178 : KV (uF (uF u_7 11 13 ((u_7.1 11 13) + 2)) 11 13 (((u_7.1 11 13) + 2) + 1)) k v T := hkv.fr F_158 rfl rfl rfl
      refine sBi (sV (As := [.int (iv ((S.1 11 13) + 1))]) (rest := []) (k := 11) Cx (e_X9_tellOneRow l G (uF (uF u_7 11 13 ((u_7.1 11 13) + 2)) 11 13 (((u_7.1 11 13) + 2) + 1)) (nm := (S.1 11 13) + 1) (k := k) (v := v) (T := T) (q := q) (a1 := a1) (b1 := b1) (o := o) (N := rN M (v (pz + 1))) (pz := pz + 3) i_161 (by omega) hm nr_177 hK1 hTV kv_178 (by omega) (by omega) (by omega) (by omega) (show M.1.1 + 1 + 30 ≤ 128 by omega) (((fun i => (xu_7.1.1.1 i)) 8).trans hrf) (by omega) hga hrel hE2 (by omega) (by omega)) (c_X9_173 Cx rfl rfl (rmk_ok (by omega) (by decide))) hW (by decide) rfl rfl rfl hl.1 rfl (Nat.le_of_ble_eq_true rfl) dX9_tellRow_57 ⟨Nat.le_of_ble_eq_true rfl, Nat.le_of_ble_eq_true rfl⟩) hL (fun r_181 u_179 H locs k_180 hW hL => ?_)
      obtain ⟨iu_179, fu_179, xu_179⟩ := k_180
      have F_182 := F_158.trans fu_179
      have yu_179 := xu_179.1.2
      have q_183 : 0 ≤ u_179.1 11 9 ∧ u_179.1 11 9 ≤ 128 := iu_179.fi 11 9 9 (by decide) rfl
      have q_184 : 0 ≤ u_179.1 11 10 ∧ u_179.1 11 10 ≤ 8 := iu_179.fi 11 10 9 (by decide) rfl
      have q_185 : 0 ≤ u_179.1 11 11 ∧ u_179.1 11 11 ≤ 12 := iu_179.fi 11 11 9 (by decide) rfl
      have q_186 : (-2147483648) ≤ u_179.1 11 12 ∧ u_179.1 11 12 ≤ 2147483647 := iu_179.fi 11 12 9 (by decide) rfl
      have q_187 : (-2147483648) ≤ u_179.1 11 13 ∧ u_179.1 11 13 ≤ 2147483647 := iu_179.fi 11 13 9 (by decide) rfl
      have q_188 : 0 ≤ u_179.1 11 14 ∧ u_179.1 11 14 ≤ 7 := iu_179.fi 11 14 9 (by decide) rfl
      have q_189 : 0 ≤ u_179.1 o 2 ∧ u_179.1 o 2 ≤ 12 := iu_179.fi o 2 3 (mdl_k hm) hm.1
      have q_190 : 0 ≤ u_179.1 o 3 ∧ u_179.1 o 3 ≤ 16 := iu_179.fi o 3 3 (mdl_k hm) hm.1
      exact sZret Cx hr hlk hW hL (by omega) ⟨iu_179, F_182, ⟨⟨⟨(fun i => ((xu_179.1.1.1 i).trans (xu_7.1.1.1 i))), (fun h => xu_179.1.1.2 h)⟩, by omega, by omega⟩, (fun h => by obtain ⟨q9, m1, l1, pp1, f1, n1⟩ := xu_179.2.1 h; rw [show (uF (uF u_7 11 13 ((u_7.1 11 13) + 2)) 11 13 (((u_7.1 11 13) + 2) + 1)).1 o 3 = M.2.2.2.2.2.1 by omega, show (uF (uF u_7 11 13 ((u_7.1 11 13) + 2)) 11 13 (((u_7.1 11 13) + 2) + 1)).1 11 12 = M.2.2.2.2.2.2.2 by omega] at q9; exact ⟨_, (by rw [eDr_1 hfn (by omega), q9]; rfl), hM.row hfn n1 (by omega) (by omega) (by omega) ⟨rfl, by omega, by omega⟩ ⟨rfl, l1⟩ ((fun i => ((xu_179.1.1.1 i).trans (xu_7.1.1.1 i))) 8), pp1, f1⟩), (fun h => by have q9 := xu_179.2.2 h; rw [show (uF (uF u_7 11 13 ((u_7.1 11 13) + 2)) 11 13 (((u_7.1 11 13) + 2) + 1)).1 o 3 = M.2.2.2.2.2.1 by omega, show (uF (uF u_7 11 13 ((u_7.1 11 13) + 2)) 11 13 (((u_7.1 11 13) + 2) + 1)).1 11 12 = M.2.2.2.2.2.2.2 by omega] at q9; rw [eDr_1 hfn (by omega), q9]; rfl)⟩⟩ dX9_tellRow_60
  · refine lv_iconst (v := iv 0) hx hb dX9_tellRow_17 (by decide) ?_
    have q_191 : 0 ≤ u_7.1 11 9 ∧ u_7.1 11 9 ≤ 128 := iu_7.fi 11 9 9 (by decide) rfl
    have q_192 : 0 ≤ u_7.1 11 10 ∧ u_7.1 11 10 ≤ 8 := iu_7.fi 11 10 9 (by decide) rfl
    have q_193 : 0 ≤ u_7.1 11 11 ∧ u_7.1 11 11 ≤ 12 := iu_7.fi 11 11 9 (by decide) rfl
    have q_194 : (-2147483648) ≤ u_7.1 11 12 ∧ u_7.1 11 12 ≤ 2147483647 := iu_7.fi 11 12 9 (by decide) rfl
    have q_195 : (-2147483648) ≤ u_7.1 11 13 ∧ u_7.1 11 13 ≤ 2147483647 := iu_7.fi 11 13 9 (by decide) rfl
    have q_196 : 0 ≤ u_7.1 11 14 ∧ u_7.1 11 14 ≤ 7 := iu_7.fi 11 14 9 (by decide) rfl
    have q_197 : 0 ≤ S.1 o 2 ∧ S.1 o 2 ≤ 12 := hI.fi o 2 3 (mdl_k hm) hm.1
    have lk_198 : u_7.1 o 2 = S.1 o 2 := (fu_7 o (mdl_out hm).1).1 2
    have q_199 : 0 ≤ S.1 o 3 ∧ S.1 o 3 ≤ 16 := hI.fi o 3 3 (mdl_k hm) hm.1
    have lk_200 : u_7.1 o 3 = S.1 o 3 := (fu_7 o (mdl_out hm).1).1 3
    exact sZret Cx hr hlk hW hL (by omega) ⟨iu_7, F_10, ⟨⟨⟨(fun i => (xu_7.1.1.1 i)), (fun _ => by first | omega | exact xu_7.1.1.2 (by omega))⟩, by omega, by omega⟩, (fun h => absurd h (by omega)), (fun _ => (by have q0 : 0 ≤ eFind M.1 (v (pz + 1)) := (by rw [hN.find]; rcases xu_7.2.2 (by omega) with z | z; (rw [zt] at z; exact z); (exfalso; omega)); exact eDr_0 (by omega)))⟩⟩ dX9_tellRow_18
