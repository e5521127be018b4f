/-! VALUES, step by step -/
theorem vst_b {k : Int → Int} {a : Int} : 1 ≤ vst k a ∧ vst k a ≤ 2 := by unfold vst; split <;> omega
theorem ogV_i {k : Int → Int} {a b : Int} (h : ogV k a = some b) : (k a = 22 ∧ k (a + 1) = 3 ∧ b = a + 2 ∧ vst k a = 2) ∨ (k a = 3 ∧ b = a + 1 ∧ vst k a = 1) := by
  unfold ogV at h
  by_cases c : k a = 22
  · rw [if_pos c] at h; have e := ogT_lt h; exact .inl ⟨c, e.2, by omega, if_pos c⟩
  · rw [if_neg c] at h; have e := ogT_lt h; exact .inr ⟨e.2, e.1, if_neg c⟩
theorem ogVs_st {T : Int} {k : Int → Int} {a b : Int} (hz : ∀ t, T ≤ t → k t = 0) (h : ogVs T k a = some b) : ((k a = 22 ∧ k (a + 1) = 3) ∨ (k a = 3 ∧ k a ≠ 22)) ∧ ((k (a + vst k a) = 16 ∧ ogVs T k (a + vst k a + 1) = some b) ∨ (k (a + vst k a) ≠ 16 ∧ b = a + vst k a)) ∧ a + vst k a ≤ T := by
  obtain ⟨x, h1, h2⟩ := ogB h
  have lt : ∀ t c, k t = c → c ≠ 0 → t < T := fun t c e hc => by
    by_cases q : t < T
    · exact q
    · exact absurd (e.symm.trans (hz t (by omega))) hc
  have hx : x = a + vst k a ∧ ((k a = 22 ∧ k (a + 1) = 3) ∨ (k a = 3 ∧ k a ≠ 22)) ∧ a + vst k a ≤ T := by
    rcases ogV_i h1 with e | e
    · have := lt _ _ e.2.1 (by decide); exact ⟨by omega, .inl ⟨e.1, e.2.1⟩, by omega⟩
    · have := lt _ _ e.1 (by decide); exact ⟨by omega, .inr ⟨e.1, by omega⟩, by omega⟩
  refine ⟨hx.2.1, ?_, hx.2.2⟩
  rw [← hx.1]
  by_cases c : k x = 16
  · refine .inl ⟨c, ?_⟩
    have hT : ∀ p, (fun p => k p = 16) p → p < T := fun p e => lt p 16 e (by decide)
    have hR : ∀ p q, (fun p => k p = 16) p → (fun p => ogV k (p + 1)) p = some q → p < q := fun p q _ e => by have := ogV_inc _ _ e; omega
    rw [ogW_st hT hR c] at h2; exact h2
  · refine .inr ⟨c, ?_⟩; rw [ogW_no (st := fun p => k p = 16) c] at h2; cases h2; rfl
theorem vcn_mono {T : Int} {k : Int → Int} (hz : ∀ t, T ≤ t → k t = 0) : ∀ (n m : Nat) (a : Int), (T - a).toNat + 1 ≤ n → (T - a).toNat + 1 ≤ m → vcn k n a = vcn k m a := by
  intro n
  induction n with
  | zero => intro m a h _; omega
  | succ n ih =>
    intro m a h h'
    cases m with
    | zero => omega
    | succ m =>
      show (if k (a + vst k a) = 16 then 1 + vcn k n (a + vst k a + 1) else 1) = (if k (a + vst k a) = 16 then 1 + vcn k m (a + vst k a + 1) else 1)
      by_cases c : k (a + vst k a) = 16
      · rw [if_pos c, if_pos c]
        have b := vst_b (k := k) (a := a)
        have l : a + vst k a < T := by
          by_cases q : a + vst k a < T
          · exact q
          · exact absurd (c.symm.trans (hz _ (by omega))) (by decide)
        rw [ih m _ (by omega) (by omega)]
      · rw [if_neg c, if_neg c]
theorem vct_y {T : Int} {k : Int → Int} {a : Int} (hz : ∀ t, T ≤ t → k t = 0) (c : k (a + vst k a) = 16) : vct T k a = 1 + vct T k (a + vst k a + 1) := by
  have b := vst_b (k := k) (a := a)
  have l : a + vst k a < T := by
    by_cases q : a + vst k a < T
    · exact q
    · exact absurd (c.symm.trans (hz _ (by omega))) (by decide)
  show (if k (a + vst k a) = 16 then 1 + vcn k (T - a).toNat (a + vst k a + 1) else 1) = _
  rw [if_pos c]; unfold vct
  rw [vcn_mono hz (T - a).toNat _ (a + vst k a + 1) (by omega) (Nat.le_refl _)]
theorem vct_n {T : Int} {k : Int → Int} {a : Int} (c : k (a + vst k a) ≠ 16) : vct T k a = 1 := if_neg c
def VI (T : Int) (k : Int → Int) (a0 b p gv : Int) : Prop := (k p = 15 ∧ p = b ∧ gv = vct T k a0 ∧ 1 ≤ gv) ∨ ((k p = 13 ∨ k p = 16) ∧ p + 1 = vps k a0 gv.toNat ∧ vct T k a0 = gv + vct T k (p + 1) ∧ ogVs T k (p + 1) = some b)
theorem VI.st {T : Int} {k v : Int → Int} {a0 b p gv : Int} (hz : ∀ t, T ≤ t → k t = 0) (hb : k b = 15) (g0 : 0 ≤ gv) (hp : k p ≠ 15) (h : VI T k a0 b p gv) : ((k (p + 1) = 22 ∧ k (p + 1 + 1) = 3) ∨ (k (p + 1) = 3 ∧ k (p + 1) ≠ 22)) ∧ VI T k a0 b (p + 1 + vst k (p + 1)) (gv + 1) ∧ vvl k v a0 gv = vva k v (p + 1) ∧ p + 1 + vst k (p + 1) ≤ T := by
  rcases h with h | h
  · exact absurd h.1 hp
  · have s := ogVs_st hz h.2.2.2
    refine ⟨s.1, ?_, ?_, s.2.2⟩
    · rcases s.2.1 with c | c
      · refine .inr ⟨.inr c.1, ?_, ?_, c.2⟩
        · rw [show (gv + 1).toNat = gv.toNat + 1 by omega]
          show _ = vps k a0 gv.toNat + vst k (vps k a0 gv.toNat) + 1
          rw [← h.2.1]
        · rw [h.2.2.1, vct_y hz c.1]; omega
      · refine .inl ⟨by rw [← c.2]; exact hb, c.2.symm, ?_, by omega⟩
        rw [h.2.2.1, vct_n c.1]
    · unfold vvl; rw [← h.2.1]
theorem VI.in {T : Int} {k : Int → Int} {a0 b p : Int} (hp : k p = 13) (e : p + 1 = a0) (h : ogVs T k a0 = some b) : VI T k a0 b p 0 := .inr ⟨.inl hp, e, by rw [e]; omega, by rw [e]; exact h⟩
section EDX
variable {T : Int} {k v : Int → Int} {M : sM} {p s3 s4 qi b : Int}
theorem eDp_0 (h : eFind M.1 (v (p + 1)) ≠ -1) : eDp T k v M p = none := if_neg h
theorem eDp_1 (h : eFind M.1 (v (p + 1)) = -1) (e : eIx k v M.1 (p + 2) = none) : eDp T k v M p = none := by unfold eDp; rw [if_pos h, e]; rfl
theorem eDp_2 (h : eFind M.1 (v (p + 1)) = -1) (e : eIx k v M.1 (p + 2) = some (s3, s4, qi)) (g : ogVs T k (qi + 1) = some b) (c : vct T k (qi + 1) ≠ siz M.1 s3 * siz M.1 s4 ∨ 12 ≤ M.2.2.1) : eDp T k v M p = none := by
  unfold eDp; rw [if_pos h, e, Option.bind_some]; show (ogVs T k (qi + 1)).bind _ = none; rw [g, Option.bind_some]
  exact if_neg (fun z => by rcases c with c | c; (exact c z.1); (have z2 := z.2; omega))
theorem eDp_3 (h : eFind M.1 (v (p + 1)) = -1) (e : eIx k v M.1 (p + 2) = some (s3, s4, qi)) (g : ogVs T k (qi + 1) = some b) (c1 : vct T k (qi + 1) = siz M.1 s3 * siz M.1 s4) (c2 : M.2.2.1 < 12) : eDp T k v M p = some ((addN M.1 (v (p + 1)) (fct 7 0 0 s3 s4 (144 * M.2.2.1)) (vvl k v (qi + 1)), M.2.1, M.2.2.1 + 1, M.2.2.2.1, M.2.2.2.2.1, M.2.2.2.2.2.1, M.2.2.2.2.2.2.1, M.2.2.2.2.2.2.2), b + 1) := by
  unfold eDp; rw [if_pos h, e, Option.bind_some]; show (ogVs T k (qi + 1)).bind _ = _; rw [g, Option.bind_some]
  exact if_pos ⟨c1, c2⟩
theorem eDv_0 (h : eFind M.1 (v (p + 1)) ≠ -1) : eDv k v M p = none := if_neg h
theorem eDv_1 (h : eFind M.1 (v (p + 1)) = -1) (e : eIx k v M.1 (p + 2) = none) : eDv k v M p = none := by unfold eDv; rw [if_pos h, e]; rfl
theorem eDv_2 (h : eFind M.1 (v (p + 1)) = -1) (e : eIx k v M.1 (p + 2) = some (s3, s4, qi)) (c : 12 < M.2.2.2.1 + siz M.1 s3 * siz M.1 s4) : eDv k v M p = none := by
  unfold eDv; rw [if_pos h, e, Option.bind_some]; exact if_neg (by show ¬ (M.2.2.2.1 + siz M.1 s3 * siz M.1 s4 ≤ 12); omega)
theorem eDv_3 (h : eFind M.1 (v (p + 1)) = -1) (e : eIx k v M.1 (p + 2) = some (s3, s4, qi)) (c : M.2.2.2.1 + siz M.1 s3 * siz M.1 s4 ≤ 12) : eDv k v M p = some ((addN M.1 (v (p + 1)) (fct 8 0 0 s3 s4 (M.2.2.2.1 + 1)) (fun _ => 0), M.2.1, M.2.2.1, M.2.2.2.1 + siz M.1 s3 * siz M.1 s4, M.2.2.2.2.1 + (if k qi = 9 then siz M.1 s3 * siz M.1 s4 else 0), M.2.2.2.2.2.1, M.2.2.2.2.2.2.1, M.2.2.2.2.2.2.2), qi + (if k qi = 9 then 2 else 1)) := by
  unfold eDv; rw [if_pos h, e, Option.bind_some]; exact if_pos c
end EDX
set_option maxRecDepth 100000 in
set_option maxHeartbeats 4000000 in
theorem e_X9_tellPar (l : Launch) (G : sG) (S : sS) {M : sM} {k v : Int → Int} {T pz q : Int} {o : Nat} (hI : cX G S 0 0 0) (hm : mdl o) (hM : Hd (MRc M S G o)) (hTV : Hd (TVn k v)) (hkv : Hd (KV S k v T)) (hfk : S.1 11 14 = 0) (hat : S.1 11 13 = pz) (hpz : 0 ≤ pz ∧ pz ≤ 2000) (hqb : q ≤ 2001) (hg : Hd (∃ qi b, ogI k (pz + 2) = some qi ∧ k qi = 13 ∧ ogVs T k (qi + 1) = some b ∧ k b = 15 ∧ q = b + 1)) (hp2 : pz + 2 ≤ 2000) : Met l yX9_tellPar (.code yX9_tellPar cX9_tellPar 7 (some .boolean) :: tb) (rmk 4 0 0) (sPc G 294 S [.ref (G.2.2.1 + 11)]) (sQi G 294 (fun r u => cX G u 0 0 0 ∧ Fr S u pU ∧ (MOc S u G o q r (eDp T k v M pz)))) 0 0 (sF G) := by
  refine sEnter (by decide) (Nat.le_of_ble_eq_true rfl) ?_
  intro p e s m args below meth c Cx hr hlk hnm hW ls hl
  have Cx : sC G p m c cX9_tellPar 7 s args RX9 := Cx
  obtain ⟨hx, hb, hml, hown, hts⟩ := id Cx.1
  have hL : sL G [] := sL_nil
  have hl : lv_has ls 7 [(0, .ref (G.2.2.1 + 11))] := hl
  have hW0 := hW
  obtain ⟨hN, hK, d0, d1, d2, d3, d4, ds, hbs, hrf⟩ := id hM
  have hkn : 0 ≤ S.1 11 9 ∧ S.1 11 9 ≤ 128 := hI.fi 11 9 9 (by decide) rfl
  have hTb : 0 ≤ S.1 12 3 ∧ S.1 12 3 ≤ 2001 := hI.fi 12 3 8 (by decide) rfl
  have hTe := hkv.2.2
  have hN1 := hN.1
  obtain ⟨qi, b, hgi, hg13, hgv_, hg15, hgq⟩ := hg
  have hgl := ogI_le hgi; have hqi := hkv.lt hg13 (by decide)
  refine lv_aload_n hx hb dX9_tellPar_0 rfl (lv_at hl 0 rfl) ?_
  have q_1 : (-2147483648) ≤ S.1 11 13 ∧ S.1 11 13 ≤ 2147483647 := hI.fi 11 13 9 (by decide) rfl
  refine g_X9_89 Cx hW (k := 11) (by decide) rfl (v := S.1 11 13) rfl dX9_tellPar_1 ?_
  refine lv_iconst (v := iv 1) hx hb dX9_tellPar_4 (by decide) ?_
  refine r_iadd hx hb dX9_tellPar_5 ?_
  refine lv_istore_n (lv' := [(1, .int (iv ((S.1 11 13) + 1))), (0, .ref (G.2.2.1 + 11))]) hx hb dX9_tellPar_6 rfl hl (by decide) rfl (fun ls hl => ?_)
  refine lv_aload_n hx hb dX9_tellPar_7 rfl (lv_at hl 1 rfl) ?_
  refine lv_iload_n hx hb dX9_tellPar_8 rfl (lv_at hl 0 rfl) ?_
  refine lv_bipush (v := iv 7) hx hb dX9_tellPar_9 (by decide) ?_
  have q_2 : 0 ≤ S.1 11 10 ∧ S.1 11 10 ≤ 8 := hI.fi 11 10 9 (by decide) rfl
  have q_3 : 0 ≤ S.1 11 11 ∧ S.1 11 11 ≤ 12 := hI.fi 11 11 9 (by decide) rfl
  have q_4 : (-2147483648) ≤ S.1 11 12 ∧ S.1 11 12 ≤ 2147483647 := hI.fi 11 12 9 (by decide) rfl
  have q_5 : 0 ≤ S.1 11 9 ∧ S.1 11 9 ≤ 128 := hI.fi 11 9 9 (by decide) rfl
  have q_6 : 0 ≤ S.1 11 14 ∧ S.1 11 14 ≤ 7 := hI.fi 11 14 9 (by decide) rfl
  refine sBi (sV (As := [.int (iv ((S.1 11 13) + 1)), .int (iv 7)]) (rest := []) (k := 11) Cx (e_X9_learn l G S (tk := (S.1 11 13) + 1) (so := 7) hI (by omega) (by omega)) (c_X9_140 Cx rfl rfl (rmk_ok (by omega) (by decide))) hW (by decide) rfl rfl rfl hl.1 rfl (Nat.le_of_ble_eq_true rfl) dX9_tellPar_11 ⟨Nat.le_of_ble_eq_true rfl, Nat.le_of_ble_eq_true rfl⟩) hL (fun r_9 u_7 H locs k_8 hW hL => ?_)
  obtain ⟨iu_7, fu_7, xu_7⟩ := k_8
  have F_10 := (Fr.rf : Fr S S pU).trans (fu_7.to pT_U)
  have zt : vd S (S.1 11 13 + 1) = v (pz + 1) := (by rw [hkv.2.1, hat])
  refine lv_istore_n (lv' := [(2, .int (iv r_9)), (1, .int (iv ((S.1 11 13) + 1))), (0, .ref (G.2.2.1 + 11))]) hx hb dX9_tellPar_14 rfl hl (by decide) rfl (fun ls hl => ?_)
  refine lv_iload_n hx hb dX9_tellPar_15 rfl (lv_at hl 0 rfl) ?_
  refine r_if_ge (tgt := 21) hx hb ⟨(by omega), (by omega)⟩ dX9_tellPar_16 (by decide) (fun c_11 => ?_) (fun c_11 => ?_)
  · obtain ⟨hr0, h14, hne, hle⟩ := xu_7.2.1 (by omega)
    rw [zt] at hne hle
    have hfn : eFind M.1 (v (pz + 1)) = -1 := (by rw [hN.find]; exact hne)
    have hq0 : LQ S u_7 M.1.1 (v (pz + 1)) 7 (-1) (-1) := hle.lq (by omega)
    have hk9 := hq0.1
    refine lv_aload_n hx hb dX9_tellPar_21 rfl (lv_at hl 2 rfl) ?_
    refine lv_dup hx hb dX9_tellPar_22 rfl ?_
    have q_12 : (-2147483648) ≤ u_7.1 11 13 ∧ u_7.1 11 13 ≤ 2147483647 := iu_7.fi 11 13 9 (by decide) rfl
    refine g_X9_89 Cx hW (k := 11) (by decide) rfl (v := u_7.1 11 13) rfl dX9_tellPar_23 ?_
    refine lv_iconst (v := iv 2) hx hb dX9_tellPar_26 (by decide) ?_
    refine r_iadd hx hb dX9_tellPar_27 ?_
    refine p_X9_89 Cx hW hL (k := 11) (by decide) rfl dX9_tellPar_28 (fun H locs hW hL => ?_)
    have F_13 : Fr S (uF u_7 11 13 ((u_7.1 11 13) + 2)) pU := F_10.F rfl
    have F_14 : Fr u_7 (uF u_7 11 13 ((u_7.1 11 13) + 2)) (pl [11, 18]) := (Fr.rf : Fr u_7 u_7 (pl [11, 18])).F rfl
    have i_15 : cX G (uF u_7 11 13 ((u_7.1 11 13) + 2)) 0 0 0 := iu_7.F rfl rfl (show (-2147483648) ≤ (u_7.1 11 13) + 2 ∧ (u_7.1 11 13) + 2 ≤ 2147483647 from ⟨by omega, by omega⟩)
    refine lv_aload_n hx hb dX9_tellPar_31 rfl (lv_at hl 2 rfl) ?_
    refine lv_iload_n hx hb dX9_tellPar_32 rfl (lv_at hl 0 rfl) ?_
    have q_16 : 0 ≤ u_7.1 11 14 ∧ u_7.1 11 14 ≤ 7 := iu_7.fi 11 14 9 (by decide) rfl
    have lk_17 : (uF u_7 11 13 ((u_7.1 11 13) + 2)).1 11 14 = u_7.1 11 14 := uF_ne (fun h => absurd h.2 (by decide))
    have lk_18 : (uF u_7 11 13 ((u_7.1 11 13) + 2)).1 11 13 = (u_7.1 11 13) + 2 := uF_on
    have q_19 : 0 ≤ u_7.1 11 9 ∧ u_7.1 11 9 ≤ 128 := iu_7.fi 11 9 9 (by decide) rfl
    have lk_20 : (uF u_7 11 13 ((u_7.1 11 13) + 2)).1 11 9 = u_7.1 11 9 := uF_ne (fun h => absurd h.2 (by decide))
    have q_21 : 0 ≤ u_7.1 11 10 ∧ u_7.1 11 10 ≤ 8 := iu_7.fi 11 10 9 (by decide) rfl
    have lk_22 : (uF u_7 11 13 ((u_7.1 11 13) + 2)).1 11 10 = u_7.1 11 10 := uF_ne (fun h => absurd h.2 (by decide))
    have q_23 : 0 ≤ u_7.1 11 11 ∧ u_7.1 11 11 ≤ 12 := iu_7.fi 11 11 9 (by decide) rfl
    have lk_24 : (uF u_7 11 13 ((u_7.1 11 13) + 2)).1 11 11 = u_7.1 11 11 := uF_ne (fun h => absurd h.2 (by decide))
    have q_25 : (-2147483648) ≤ u_7.1 11 12 ∧ u_7.1 11 12 ≤ 2147483647 := iu_7.fi 11 12 9 (by decide) rfl
    have lk_26 : (uF u_7 11 13 ((u_7.1 11 13) + 2)).1 11 12 = u_7.1 11 12 := uF_ne (fun h => absurd h.2 (by decide))
    have kv_27 : KV (uF u_7 11 13 ((u_7.1 11 13) + 2)) k v T := hkv.fr F_13 rfl rfl rfl
    have lq_28 := LQ.of (w := (uF u_7 11 13 ((u_7.1 11 13) + 2))) hq0 (uF_ne (fun h => absurd h.2 (by decide))) (fun j => (F_14 16 rfl).2.2.1 j) (fun j => (F_14 17 rfl).2.1 j)
    refine sBi (sV (As := [.int (iv r_9)]) (rest := []) (k := 11) Cx (e_X9_tellIndexes l G (uF u_7 11 13 ((u_7.1 11 13) + 2)) (s0 := r_9) (S0 := S) (N := M.1) (k := k) (v := v) (T := T) (pz := pz + 2) (q := qi) (x := v (pz + 1)) (so := 7) i_15 hN hK kv_27 (by omega) (by omega) (by omega) lq_28 (by omega) (by omega) (show (7 : Int) ≠ 6 by decide) hgi) (c_X9_152 Cx rfl rfl (rmk_ok (by omega) (by decide))) hW (by decide) rfl rfl rfl hl.1 rfl (Nat.le_of_ble_eq_true rfl) dX9_tellPar_33 ⟨Nat.le_of_ble_eq_true rfl, Nat.le_of_ble_eq_true rfl⟩) hL (fun r_31 u_29 H locs k_30 hW hL => ?_)
    obtain ⟨iu_29, fu_29, xu_29⟩ := k_30
    have F_32 := F_13.trans (fu_29.to (pl_s rfl (pl_s rfl pl_nil)))
    refine r_if_ne (tgt := 41) hx hb ⟨(by omega), (by omega)⟩ dX9_tellPar_36 (by decide) (fun c_33 => ?_) (fun c_33 => ?_)
    · obtain ⟨s3, s4, hix, hlq1, hpi, hfi⟩ := xu_29.2.2.1 (by omega)
      obtain ⟨hv3, hv4, hv34, hpq⟩ := eIx_i (by omega) hix
      have hv3 : Hd (SV M.1 s3) := hv3; have hv4 : Hd (SV M.1 s4) := hv4; have hv34 : Hd (s3 < 0 → s4 < 0) := hv34
      refine lv_aload_n hx hb dX9_tellPar_41 rfl (lv_at hl 2 rfl) ?_
      refine lv_iload_n hx hb dX9_tellPar_42 rfl (lv_at hl 0 rfl) ?_
      refine sBi (sV (As := [.int (iv r_9)]) (rest := []) (k := 11) Cx (e_X9_asked l G u_29 (s0 := r_9) (S0 := S) (N := M.1) (x := v (pz + 1)) (so := 7) (s3 := s3) (s4 := s4) iu_29 hN hK hlq1 (by omega) (by omega) hv3 hv4) (c_X9_156 Cx rfl rfl (rmk_ok (by omega) (by decide))) hW (by decide) rfl rfl rfl hl.1 rfl (Nat.le_of_ble_eq_true rfl) dX9_tellPar_43 ⟨Nat.le_of_ble_eq_true rfl, Nat.le_of_ble_eq_true rfl⟩) hL (fun r_36 u_34 H locs k_35 hW hL => ?_)
      obtain ⟨eu_34, xu_34⟩ := k_35
      rw [eu_34] at hW
      refine lv_istore_n (lv' := [(3, .int (iv r_36)), (2, .int (iv r_9)), (1, .int (iv ((S.1 11 13) + 1))), (0, .ref (G.2.2.1 + 11))]) hx hb dX9_tellPar_46 rfl hl (by decide) rfl (fun ls hl => ?_)
      refine lv_aload_n hx hb dX9_tellPar_47 rfl (lv_at hl 3 rfl) ?_
      have q_37 : 0 ≤ u_29.1 11 11 ∧ u_29.1 11 11 ≤ 12 := iu_29.fi 11 11 9 (by decide) rfl
      refine g_X9_83 Cx hW (k := 11) (by decide) rfl (v := u_29.1 11 11) rfl dX9_tellPar_48 ?_
      refine lv_sipush (v := iv 144) hx hb dX9_tellPar_51 (by decide) ?_
      refine r_imul hx hb dX9_tellPar_54 ?_
      refine lv_istore (lv' := [(4, .int (iv ((u_29.1 11 11) * 144))), (3, .int (iv r_36)), (2, .int (iv r_9)), (1, .int (iv ((S.1 11 13) + 1))), (0, .ref (G.2.2.1 + 11))]) hx hb dX9_tellPar_55 hl (by decide) rfl (fun ls hl => ?_)
      have q_38 : 0 ≤ u_29.1 11 9 ∧ u_29.1 11 9 ≤ 128 := iu_29.fi 11 9 9 (by decide) rfl
      have q_39 : 0 ≤ u_29.1 11 10 ∧ u_29.1 11 10 ≤ 8 := iu_29.fi 11 10 9 (by decide) rfl
      have q_40 : (-2147483648) ≤ u_29.1 11 12 ∧ u_29.1 11 12 ≤ 2147483647 := iu_29.fi 11 12 9 (by decide) rfl
      have q_41 : (-2147483648) ≤ u_29.1 11 13 ∧ u_29.1 11 13 ≤ 2147483647 := iu_29.fi 11 13 9 (by decide) rfl
      have q_42 : 0 ≤ u_29.1 11 14 ∧ u_29.1 11 14 ≤ 7 := iu_29.fi 11 14 9 (by decide) rfl
      refine lv_iconst (v := iv 0) hx hb dX9_tellPar_57 (by decide) ?_
      refine lv_istore (lv' := [(5, .int (iv 0)), (4, .int (iv ((u_29.1 11 11) * 144))), (3, .int (iv r_36)), (2, .int (iv r_9)), (1, .int (iv ((S.1 11 13) + 1))), (0, .ref (G.2.2.1 + 11))]) hx hb dX9_tellPar_58 hl (by decide) rfl (fun ls hl => ?_)
      have loop_60 : ∀ (fuel : Nat) (S60 : sS) (gv : Int) (H : Heap) (locs : List Loc) (ls : Array Slot), (2001 - gv).toNat < fuel → (cX G S60 0 0 0) → (Fr S S60 pU) → (Fr u_29 S60 pU) → (Hd (RK S S60)) → (0 ≤ gv ∧ gv ≤ 2001) → (Hd (LQ S S60 M.1.1 (v (pz + 1)) 7 s3 s4)) → (S60.1 11 14 = 0 ∧ S60.1 11 9 = M.1.1 + 1) → (S60.1 11 10 = M.2.1 ∧ S60.1 11 11 = M.2.2.1 ∧ S60.1 11 12 = S.1 11 12) → (gv ≤ S60.1 11 13 ∧ S60.1 11 13 ≤ 2001) → (Hd (VI T k (qi + 1) b (S60.1 11 13) gv)) → (Hd (∀ z, 0 ≤ z → z < gv → -99999 ≤ vvl k v (qi + 1) z ∧ vvl k v (qi + 1) z ≤ 99999)) → (Hd (∀ z, 0 ≤ z → z < gv → z < r_36 → 144 * M.2.2.1 + z < 1728 → vvl k v (qi + 1) z = S60.2.1 18 (144 * M.2.2.1 + z))) → (Hd (∀ j, j < 144 * M.2.2.1 → S60.2.1 18 j = S.2.1 18 j)) → sW G 294 S60 H → sL G locs → lv_has ls 7 [(5, .int (iv gv)), (4, .int (iv ((u_29.1 11 11) * 144))), (3, .int (iv r_36)), (2, .int (iv r_9)), (1, .int (iv ((S.1 11 13) + 1))), (0, .ref (G.2.2.1 + 11))] → W p l e (rmk 4 0 0) s m args below meth c H locs 0 0 (MQ below (sQi G 294 (fun r u => cX G u 0 0 0 ∧ Fr S u pU ∧ (MOc S u G o q r (eDp T k v M pz)))) args s 0 0 (sF G)) (F0 m 60 ls []) := by
        intro fuel
        induction fuel with
        | zero => intro S60 gv H locs ls hmeas hI60 hFm60 hL60_ hRK hgv hLL hf0 hf1 hpp hVI hvb hvw hvo hW hL hl; exact absurd hmeas (Nat.not_lt_zero _)
        | succ fuel ih_60 =>
          intro S60 gv H locs ls hmeas hI60 hFm60 hL60_ hRK hgv hLL hf0 hf1 hpp hVI hvb hvw hvo hW hL hl
          refine lv_iload hx hb dX9_tellPar_60 (lv_at hl 0 rfl) ?_
          refine lv_aload_n hx hb dX9_tellPar_62 rfl (lv_at hl 5 rfl) ?_
          refine g_X9_14 Cx hW (k := 11) (by decide) rfl (v := .ref (G.2.2.1 + 12)) (rf_11_0 hI60) dX9_tellPar_63 ?_
          have q_43 : 0 ≤ S.1 12 3 ∧ S.1 12 3 ≤ 2001 := hI.fi 12 3 8 (by decide) rfl
          have lk_44 : S60.1 12 3 = S.1 12 3 := ((hL60_ 12 rfl).1 3).trans (((fu_29 12 rfl).1 3).trans ((uF_ne (fun h => absurd h.2 (by decide))).trans ((fu_7 12 rfl).1 3)))
          refine sBi (sV (As := []) (rest := [.int (iv gv)]) (k := 12) Cx (s_X8_tokenCount l G S60  hI60) (c_X9_92 Cx rfl rfl (rmk_ok (by omega) (by decide))) hW (by decide) rfl rfl rfl hl.1 rfl (Nat.le_of_ble_eq_true rfl) dX9_tellPar_66 ⟨Nat.le_of_ble_eq_true rfl, Nat.le_of_ble_eq_true rfl⟩) hL (fun r_47 u_45 H locs k_46 hW hL => ?_)
          obtain ⟨eu_45, xu_45⟩ := k_46
          rw [eu_45] at hW
          refine r_icmp_ge (tgt := 206) hx hb ⟨(by omega), (by omega)⟩ ⟨(by omega), (by omega)⟩ dX9_tellPar_69 (by decide) (fun c_48 => ?_) (fun c_48 => ?_)
          · have ve : k (S60.1 11 13) = 15 ∧ S60.1 11 13 = b ∧ gv = vct T k (qi + 1) ∧ 1 ≤ gv := (by rcases hVI with z | z; (exact z); (exfalso; have zl : S60.1 11 13 < T := (by rcases z.1 with y | y; (exact hkv.lt y (by decide)); (exact hkv.lt y (by decide))); rcases z.1 with y | y <;> omega))
            refine lv_iload hx hb dX9_tellPar_206 (lv_at hl 0 rfl) ?_
            refine lv_iload_n hx hb dX9_tellPar_208 rfl (lv_at hl 2 rfl) ?_
            refine r_icmp_eq (tgt := 219) hx hb ⟨(by omega), (by omega)⟩ ⟨(by omega), (by omega)⟩ dX9_tellPar_209 (by decide) (fun c_49 => ?_) (fun c_49 => ?_)
            · refine lv_aload_n hx hb dX9_tellPar_219 rfl (lv_at hl 5 rfl) ?_
              have q_50 : 0 ≤ S60.1 11 11 ∧ S60.1 11 11 ≤ 12 := hI60.fi 11 11 9 (by decide) rfl
              refine g_X9_83 Cx hW (k := 11) (by decide) rfl (v := S60.1 11 11) rfl dX9_tellPar_220 ?_
              refine lv_bipush (v := iv 12) hx hb dX9_tellPar_223 (by decide) ?_
              refine r_icmp_lt (tgt := 236) hx hb ⟨(by omega), (by omega)⟩ ⟨(by omega), (by omega)⟩ dX9_tellPar_225 (by decide) (fun c_51 => ?_) (fun c_51 => ?_)
              · refine lv_aload_n hx hb dX9_tellPar_236 rfl (lv_at hl 5 rfl) ?_
                refine lv_dup hx hb dX9_tellPar_237 rfl ?_
                refine g_X9_83 Cx hW (k := 11) (by decide) rfl (v := S60.1 11 11) rfl dX9_tellPar_238 ?_
                refine lv_iconst (v := iv 1) hx hb dX9_tellPar_241 (by decide) ?_
                refine r_iadd hx hb dX9_tellPar_242 ?_
                refine p_X9_83 Cx hW hL (k := 11) (by decide) rfl dX9_tellPar_243 (fun H locs hW hL => ?_)
                have F_52 : Fr S (uF S60 11 11 ((S60.1 11 11) + 1)) pU := hFm60.F rfl
                have F_53 : Fr u_29 (uF S60 11 11 ((S60.1 11 11) + 1)) pU := hL60_.F rfl
                have F_54 : Fr S60 (uF S60 11 11 ((S60.1 11 11) + 1)) (pl [11, 18]) := (Fr.rf : Fr S60 S60 (pl [11, 18])).F rfl
                have i_55 : cX G (uF S60 11 11 ((S60.1 11 11) + 1)) 0 0 0 := hI60.F rfl rfl (show 0 ≤ (S60.1 11 11) + 1 ∧ (S60.1 11 11) + 1 ≤ 12 from ⟨by omega, by omega⟩)
                refine lv_aload_n hx hb dX9_tellPar_246 rfl (lv_at hl 5 rfl) ?_
                refine lv_iload_n hx hb dX9_tellPar_247 rfl (lv_at hl 3 rfl) ?_
                refine lv_iconst (v := iv 5) hx hb dX9_tellPar_248 (by decide) ?_
                refine lv_iload hx hb dX9_tellPar_249 (lv_at hl 1 rfl) ?_
                have q_57 : 0 ≤ S60.1 11 9 ∧ S60.1 11 9 ≤ 128 := hI60.fi 11 9 9 (by decide) rfl
                have lk_58 : (uF S60 11 11 ((S60.1 11 11) + 1)).1 11 9 = S60.1 11 9 := uF_ne (fun h => absurd h.2 (by decide))
                have lq_56 := LQ.of (w := (uF S60 11 11 ((S60.1 11 11) + 1))) hLL (uF_ne (fun h => absurd h.2 (by decide))) (fun j => (F_54 16 rfl).2.2.1 j) (fun j => (F_54 17 rfl).2.1 j)
                refine sBv (sV (As := [.int (iv r_9), .int (iv 5), .int (iv ((u_29.1 11 11) * 144))]) (rest := []) (k := 11) Cx (s_X9_setFact l G (uF S60 11 11 ((S60.1 11 11) + 1)) (s0 := r_9) (q := 5) (v := (u_29.1 11 11) * 144) i_55 (by omega) (by omega) (by unfold fr8; omega) (by omega)) (c_X9_136 Cx rfl rfl (rmk_ok (by omega) (by decide))) hW (by decide) rfl rfl rfl hl.1 rfl (Nat.le_of_ble_eq_true rfl) dX9_tellPar_251 ⟨Nat.le_of_ble_eq_true rfl, Nat.le_of_ble_eq_true rfl⟩) hL (fun u_59 H locs k_60 hW hL => ?_)
                obtain ⟨iu_59, fu_59, xu_59⟩ := k_60
                have F_61 := F_52.trans (fu_59.to (fun k h => pT_U k (p17_T k h)))
                have F_62 := F_53.trans (fu_59.to (fun k h => pT_U k (p17_T k h)))
                have sq5 := LQ.setq lq_56 (by omega) (by omega) xu_59
                refine lv_aload_n hx hb dX9_tellPar_254 rfl (lv_at hl 5 rfl) ?_
                refine lv_dup hx hb dX9_tellPar_255 rfl ?_
                have q_63 : (-2147483648) ≤ S60.1 11 13 ∧ S60.1 11 13 ≤ 2147483647 := hI60.fi 11 13 9 (by decide) rfl
                refine g_X9_89 Cx hW (k := 11) (by decide) rfl (v := S60.1 11 13) (((fu_59 11 rfl).1 13).trans (uF_ne (fun h => absurd h.2 (by decide)))) dX9_tellPar_256 ?_
                refine lv_iconst (v := iv 1) hx hb dX9_tellPar_259 (by decide) ?_
                refine r_iadd hx hb dX9_tellPar_260 ?_
                refine p_X9_89 Cx hW hL (k := 11) (by decide) rfl dX9_tellPar_261 (fun H locs hW hL => ?_)
                have F_64 : Fr S (uF u_59 11 13 ((S60.1 11 13) + 1)) pU := F_61.F rfl
                have F_65 : Fr u_29 (uF u_59 11 13 ((S60.1 11 13) + 1)) pU := F_62.F rfl
                have F_66 : Fr u_59 (uF u_59 11 13 ((S60.1 11 13) + 1)) (pl [11, 18]) := (Fr.rf : Fr u_59 u_59 (pl [11, 18])).F rfl
                have i_67 : cX G (uF u_59 11 13 ((S60.1 11 13) + 1)) 0 0 0 := iu_59.F rfl rfl (show (-2147483648) ≤ (S60.1 11 13) + 1 ∧ (S60.1 11 13) + 1 ≤ 2147483647 from ⟨by omega, by omega⟩)
                refine lv_iconst (v := iv 1) hx hb dX9_tellPar_264 (by decide) ?_
                have lk_68 : (uF u_59 11 13 ((S60.1 11 13) + 1)).1 11 9 = S60.1 11 9 := (uF_ne (fun h => absurd h.2 (by decide))).trans (((fu_59 11 rfl).1 9).trans (uF_ne (fun h => absurd h.2 (by decide))))
                have q_69 : 0 ≤ S60.1 11 10 ∧ S60.1 11 10 ≤ 8 := hI60.fi 11 10 9 (by decide) rfl
                have lk_70 : (uF u_59 11 13 ((S60.1 11 13) + 1)).1 11 10 = S60.1 11 10 := (uF_ne (fun h => absurd h.2 (by decide))).trans (((fu_59 11 rfl).1 10).trans (uF_ne (fun h => absurd h.2 (by decide))))
                have lk_71 : (uF u_59 11 13 ((S60.1 11 13) + 1)).1 11 11 = (S60.1 11 11) + 1 := (uF_ne (fun h => absurd h.2 (by decide))).trans (((fu_59 11 rfl).1 11).trans (uF_on))
                have q_72 : (-2147483648) ≤ S60.1 11 12 ∧ S60.1 11 12 ≤ 2147483647 := hI60.fi 11 12 9 (by decide) rfl
                have lk_73 : (uF u_59 11 13 ((S60.1 11 13) + 1)).1 11 12 = S60.1 11 12 := (uF_ne (fun h => absurd h.2 (by decide))).trans (((fu_59 11 rfl).1 12).trans (uF_ne (fun h => absurd h.2 (by decide))))
                have lk_74 : (uF u_59 11 13 ((S60.1 11 13) + 1)).1 11 13 = (S60.1 11 13) + 1 := uF_on
                have q_75 : 0 ≤ S60.1 11 14 ∧ S60.1 11 14 ≤ 7 := hI60.fi 11 14 9 (by decide) rfl
                have lk_76 : (uF u_59 11 13 ((S60.1 11 13) + 1)).1 11 14 = S60.1 11 14 := (uF_ne (fun h => absurd h.2 (by decide))).trans (((fu_59 11 rfl).1 14).trans (uF_ne (fun h => absurd h.2 (by decide))))
                have q_77 : 0 ≤ S.1 o 2 ∧ S.1 o 2 ≤ 12 := hI.fi o 2 3 (mdl_k hm) hm.1
                have lk_78 : (uF u_59 11 13 ((S60.1 11 13) + 1)).1 o 2 = S.1 o 2 := (uF_ne (fun h => absurd h.2 (by decide))).trans (((fu_59 o (p1_no (tau_ne hm.1 (rfl : tau 17 = .inr (.int, 768)) (fun h => by cases h)))).1 2).trans ((uF_ne (fun h => absurd h.2 (by decide))).trans (((hL60_ o (mdl_out hm).2.1).1 2).trans (((fu_29 o (pl_c (tau_ne hm.1 (rfl : tau 11 = .inl 9) (fun h => by cases h)) (pl_c (tau_ne hm.1 (rfl : tau 17 = .inr (.int, 768)) (fun h => by cases h)) rfl))).1 2).trans ((uF_ne (fun h => absurd h.2 (by decide))).trans ((fu_7 o (mdl_out hm).1).1 2))))))
                have q_79 : 0 ≤ S.1 o 3 ∧ S.1 o 3 ≤ 16 := hI.fi o 3 3 (mdl_k hm) hm.1
                have lk_80 : (uF u_59 11 13 ((S60.1 11 13) + 1)).1 o 3 = S.1 o 3 := (uF_ne (fun h => absurd h.2 (by decide))).trans (((fu_59 o (p1_no (tau_ne hm.1 (rfl : tau 17 = .inr (.int, 768)) (fun h => by cases h)))).1 3).trans ((uF_ne (fun h => absurd h.2 (by decide))).trans (((hL60_ o (mdl_out hm).2.1).1 3).trans (((fu_29 o (pl_c (tau_ne hm.1 (rfl : tau 11 = .inl 9) (fun h => by cases h)) (pl_c (tau_ne hm.1 (rfl : tau 17 = .inr (.int, 768)) (fun h => by cases h)) rfl))).1 3).trans ((uF_ne (fun h => absurd h.2 (by decide))).trans ((fu_7 o (mdl_out hm).1).1 3))))))
                have lq_81 := LQ.of (w := (uF u_59 11 13 ((S60.1 11 13) + 1))) sq5.1 (uF_ne (fun h => absurd h.2 (by decide))) (fun j => (F_66 16 rfl).2.2.1 j) (fun j => (F_66 17 rfl).2.1 j)
                exact sZret Cx hr hlk hW hL (by omega) ⟨i_67, F_64, ⟨⟨⟨(fun i => (((fu_59 11 rfl).2.2.2 i).trans (hRK i))), (fun h => absurd h (by decide))⟩, by omega, by omega⟩, (fun _ => ⟨_, (by rw [eDp_3 hfn hix hgv_ (by rw [← xu_34.1]; omega) (by omega), hgq]), hM.added (f := fct 7 0 0 s3 s4 (144 * M.2.2.1)) (w := vvl k v (qi + 1)) lq_81 (NF_7 hv3 hv4 hv34 (fun z a c => hvb z a (by rw [← xu_34.1] at c; omega))) hfn (fun j a => ((uF_a).trans (((fu_59 18 rfl).2.1 j).trans (uF_a))).trans (hvo j a)) (fun z => absurd (fct0.symm.trans z) (by decide)) (fun z => absurd (fct0.symm.trans z) (by decide)) (fun _ => ((((F_66 17 rfl).2.1 (M.1.1 * 6 + 5)).trans sq5.2.1).trans (show _ = 144 * M.2.2.1 by omega)).symm) (fun _ => ⟨(by omega), rfl, (by omega), (fun z a c => by have c : z < siz M.1 s3 * siz M.1 s4 := c; rw [← xu_34.1] at c; exact (hvw z a (by omega) c (by omega)).trans ((uF_a).trans (((fu_59 18 rfl).2.1 (144 * M.2.2.1 + z)).trans (uF_a))).symm)⟩) (by omega) (by omega) (by omega) (by omega) (by omega) (by omega) ((fun i => (((fu_59 11 rfl).2.2.2 i).trans (hRK i))) 8), (by omega), (by omega)⟩), (fun h => absurd h (by decide))⟩⟩ dX9_tellPar_265
              · refine lv_aload_n hx hb dX9_tellPar_228 rfl (lv_at hl 5 rfl) ?_
                refine lv_bipush (v := iv 7) hx hb dX9_tellPar_229 (by decide) ?_
                refine lv_iload_n hx hb dX9_tellPar_231 rfl (lv_at hl 4 rfl) ?_
                have q_82 : (-2147483648) ≤ S60.1 11 13 ∧ S60.1 11 13 ≤ 2147483647 := hI60.fi 11 13 9 (by decide) rfl
                have q_83 : 0 ≤ S60.1 11 9 ∧ S60.1 11 9 ≤ 128 := hI60.fi 11 9 9 (by decide) rfl
                have q_84 : 0 ≤ S60.1 11 10 ∧ S60.1 11 10 ≤ 8 := hI60.fi 11 10 9 (by decide) rfl
                have q_85 : (-2147483648) ≤ S60.1 11 12 ∧ S60.1 11 12 ≤ 2147483647 := hI60.fi 11 12 9 (by decide) rfl
                refine sBi (sV (As := [.int (iv 7), .int (iv ((S.1 11 13) + 1))]) (rest := []) (k := 11) Cx (e_X9_fail l G S60 (k := 7) (tk := (S.1 11 13) + 1) hI60 (by omega) (by omega)) (c_X9_132 Cx rfl rfl (rmk_ok (by omega) (by decide))) hW (by decide) rfl rfl rfl hl.1 rfl (Nat.le_of_ble_eq_true rfl) dX9_tellPar_232 ⟨Nat.le_of_ble_eq_true rfl, Nat.le_of_ble_eq_true rfl⟩) hL (fun r_88 u_86 H locs k_87 hW hL => ?_)
                obtain ⟨iu_86, fu_86, xu_86⟩ := k_87
                have F_89 := hFm60.trans (fu_86.to (fun k h => pT_U k (p11_T k h)))
                have F_90 := hL60_.trans (fu_86.to (fun k h => pT_U k (p11_T k h)))
                have F_91 := (Fr.rf : Fr S60 S60 (pl [11, 18])).trans (fu_86.to (p1_sub rfl))
                have q_92 : 0 ≤ u_86.1 11 9 ∧ u_86.1 11 9 ≤ 128 := iu_86.fi 11 9 9 (by decide) rfl
                have q_93 : 0 ≤ u_86.1 11 10 ∧ u_86.1 11 10 ≤ 8 := iu_86.fi 11 10 9 (by decide) rfl
                have q_94 : 0 ≤ u_86.1 11 11 ∧ u_86.1 11 11 ≤ 12 := iu_86.fi 11 11 9 (by decide) rfl
                have q_95 : (-2147483648) ≤ u_86.1 11 12 ∧ u_86.1 11 12 ≤ 2147483647 := iu_86.fi 11 12 9 (by decide) rfl
                have q_96 : (-2147483648) ≤ u_86.1 11 13 ∧ u_86.1 11 13 ≤ 2147483647 := iu_86.fi 11 13 9 (by decide) rfl
                have q_97 : 0 ≤ u_86.1 11 14 ∧ u_86.1 11 14 ≤ 7 := iu_86.fi 11 14 9 (by decide) rfl
                have q_98 : 0 ≤ S.1 o 2 ∧ S.1 o 2 ≤ 12 := hI.fi o 2 3 (mdl_k hm) hm.1
                have lk_99 : u_86.1 o 2 = S.1 o 2 := ((fu_86 o (p1_no (tau_ne hm.1 (rfl : tau 11 = .inl 9) (fun h => by cases h)))).1 2).trans (((hL60_ o (mdl_out hm).2.1).1 2).trans (((fu_29 o (pl_c (tau_ne hm.1 (rfl : tau 11 = .inl 9) (fun h => by cases h)) (pl_c (tau_ne hm.1 (rfl : tau 17 = .inr (.int, 768)) (fun h => by cases h)) rfl))).1 2).trans ((uF_ne (fun h => absurd h.2 (by decide))).trans ((fu_7 o (mdl_out hm).1).1 2))))
                have q_100 : 0 ≤ S.1 o 3 ∧ S.1 o 3 ≤ 16 := hI.fi o 3 3 (mdl_k hm) hm.1
                have lk_101 : u_86.1 o 3 = S.1 o 3 := ((fu_86 o (p1_no (tau_ne hm.1 (rfl : tau 11 = .inl 9) (fun h => by cases h)))).1 3).trans (((hL60_ o (mdl_out hm).2.1).1 3).trans (((fu_29 o (pl_c (tau_ne hm.1 (rfl : tau 11 = .inl 9) (fun h => by cases h)) (pl_c (tau_ne hm.1 (rfl : tau 17 = .inr (.int, 768)) (fun h => by cases h)) rfl))).1 3).trans ((uF_ne (fun h => absurd h.2 (by decide))).trans ((fu_7 o (mdl_out hm).1).1 3))))
                exact sZret Cx hr hlk hW hL (by omega) ⟨iu_86, F_89, ⟨⟨⟨(fun i => ((xu_86.2.2.2.2.2.2.2 i).trans (hRK i))), (fun _ => by first | omega | exact xu_86.1.1.2 (by omega))⟩, by omega, by omega⟩, (fun h => absurd h (by omega)), (fun _ => (eDp_2 hfn hix hgv_ (.inr (by omega))))⟩⟩ dX9_tellPar_235
            · refine lv_aload_n hx hb dX9_tellPar_212 rfl (lv_at hl 5 rfl) ?_
              refine lv_iconst (v := iv 3) hx hb dX9_tellPar_213 (by decide) ?_
              refine lv_iload_n hx hb dX9_tellPar_214 rfl (lv_at hl 4 rfl) ?_
              have q_102 : (-2147483648) ≤ S60.1 11 13 ∧ S60.1 11 13 ≤ 2147483647 := hI60.fi 11 13 9 (by decide) rfl
              have q_103 : 0 ≤ S60.1 11 9 ∧ S60.1 11 9 ≤ 128 := hI60.fi 11 9 9 (by decide) rfl
              have q_104 : 0 ≤ S60.1 11 10 ∧ S60.1 11 10 ≤ 8 := hI60.fi 11 10 9 (by decide) rfl
              have q_105 : 0 ≤ S60.1 11 11 ∧ S60.1 11 11 ≤ 12 := hI60.fi 11 11 9 (by decide) rfl
              have q_106 : (-2147483648) ≤ S60.1 11 12 ∧ S60.1 11 12 ≤ 2147483647 := hI60.fi 11 12 9 (by decide) rfl
              refine sBi (sV (As := [.int (iv 3), .int (iv ((S.1 11 13) + 1))]) (rest := []) (k := 11) Cx (e_X9_fail l G S60 (k := 3) (tk := (S.1 11 13) + 1) hI60 (by omega) (by omega)) (c_X9_132 Cx rfl rfl (rmk_ok (by omega) (by decide))) hW (by decide) rfl rfl rfl hl.1 rfl (Nat.le_of_ble_eq_true rfl) dX9_tellPar_215 ⟨Nat.le_of_ble_eq_true rfl, Nat.le_of_ble_eq_true rfl⟩) hL (fun r_109 u_107 H locs k_108 hW hL => ?_)
              obtain ⟨iu_107, fu_107, xu_107⟩ := k_108
              have F_110 := hFm60.trans (fu_107.to (fun k h => pT_U k (p11_T k h)))
              have F_111 := hL60_.trans (fu_107.to (fun k h => pT_U k (p11_T k h)))
              have F_112 := (Fr.rf : Fr S60 S60 (pl [11, 18])).trans (fu_107.to (p1_sub rfl))
              have q_113 : 0 ≤ u_107.1 11 9 ∧ u_107.1 11 9 ≤ 128 := iu_107.fi 11 9 9 (by decide) rfl
              have q_114 : 0 ≤ u_107.1 11 10 ∧ u_107.1 11 10 ≤ 8 := iu_107.fi 11 10 9 (by decide) rfl
              have q_115 : 0 ≤ u_107.1 11 11 ∧ u_107.1 11 11 ≤ 12 := iu_107.fi 11 11 9 (by decide) rfl
              have q_116 : (-2147483648) ≤ u_107.1 11 12 ∧ u_107.1 11 12 ≤ 2147483647 := iu_107.fi 11 12 9 (by decide) rfl
              have q_117 : (-2147483648) ≤ u_107.1 11 13 ∧ u_107.1 11 13 ≤ 2147483647 := iu_107.fi 11 13 9 (by decide) rfl
              have q_118 : 0 ≤ u_107.1 11 14 ∧ u_107.1 11 14 ≤ 7 := iu_107.fi 11 14 9 (by decide) rfl
              have q_119 : 0 ≤ S.1 o 2 ∧ S.1 o 2 ≤ 12 := hI.fi o 2 3 (mdl_k hm) hm.1
              have lk_120 : u_107.1 o 2 = S.1 o 2 := ((fu_107 o (p1_no (tau_ne hm.1 (rfl : tau 11 = .inl 9) (fun h => by cases h)))).1 2).trans (((hL60_ o (mdl_out hm).2.1).1 2).trans (((fu_29 o (pl_c (tau_ne hm.1 (rfl : tau 11 = .inl 9) (fun h => by cases h)) (pl_c (tau_ne hm.1 (rfl : tau 17 = .inr (.int, 768)) (fun h => by cases h)) rfl))).1 2).trans ((uF_ne (fun h => absurd h.2 (by decide))).trans ((fu_7 o (mdl_out hm).1).1 2))))
              have q_121 : 0 ≤ S.1 o 3 ∧ S.1 o 3 ≤ 16 := hI.fi o 3 3 (mdl_k hm) hm.1
              have lk_122 : u_107.1 o 3 = S.1 o 3 := ((fu_107 o (p1_no (tau_ne hm.1 (rfl : tau 11 = .inl 9) (fun h => by cases h)))).1 3).trans (((hL60_ o (mdl_out hm).2.1).1 3).trans (((fu_29 o (pl_c (tau_ne hm.1 (rfl : tau 11 = .inl 9) (fun h => by cases h)) (pl_c (tau_ne hm.1 (rfl : tau 17 = .inr (.int, 768)) (fun h => by cases h)) rfl))).1 3).trans ((uF_ne (fun h => absurd h.2 (by decide))).trans ((fu_7 o (mdl_out hm).1).1 3))))
              exact sZret Cx hr hlk hW hL (by omega) ⟨iu_107, F_110, ⟨⟨⟨(fun i => ((xu_107.2.2.2.2.2.2.2 i).trans (hRK i))), (fun _ => by first | omega | exact xu_107.1.1.2 (by omega))⟩, by omega, by omega⟩, (fun h => absurd h (by omega)), (fun _ => (eDp_2 hfn hix hgv_ (.inl (by rw [← xu_34.1]; omega))))⟩⟩ dX9_tellPar_218
          · refine lv_aload_n hx hb dX9_tellPar_72 rfl (lv_at hl 5 rfl) ?_
            refine g_X9_14 Cx hW (k := 11) (by decide) rfl (v := .ref (G.2.2.1 + 12)) (rf_11_0 hI60) dX9_tellPar_73 ?_
            refine lv_aload_n hx hb dX9_tellPar_76 rfl (lv_at hl 5 rfl) ?_
            have q_123 : (-2147483648) ≤ S60.1 11 13 ∧ S60.1 11 13 ≤ 2147483647 := hI60.fi 11 13 9 (by decide) rfl
            refine g_X9_89 Cx hW (k := 11) (by decide) rfl (v := S60.1 11 13) rfl dX9_tellPar_77 ?_
            refine sBi (sV (As := [.int (iv (S60.1 11 13))]) (rest := []) (k := 12) Cx (s_X8_kind l G S60 (k := S60.1 11 13) hI60 (by omega)) (c_X9_95 Cx rfl rfl (rmk_ok (by omega) (by decide))) hW (by decide) rfl rfl rfl hl.1 rfl (Nat.le_of_ble_eq_true rfl) dX9_tellPar_80 ⟨Nat.le_of_ble_eq_true rfl, Nat.le_of_ble_eq_true rfl⟩) hL (fun r_126 u_124 H locs k_125 hW hL => ?_)
            obtain ⟨eu_124, xu_124⟩ := k_125
            rw [eu_124] at hW
            have kv_127 : KV S60 k v T := hkv.fr hFm60 rfl rfl rfl
            have kp : r_126 = k (S60.1 11 13) := (by rw [← kv_127.1]; exact xu_124.1)
            refine lv_bipush (v := iv 15) hx hb dX9_tellPar_83 (by decide) ?_
            refine r_icmp_eq (tgt := 206) hx hb ⟨(by omega), (by omega)⟩ ⟨(by omega), (by omega)⟩ dX9_tellPar_85 (by decide) (fun c_128 => ?_) (fun c_128 => ?_)
            · have ve : k (S60.1 11 13) = 15 ∧ S60.1 11 13 = b ∧ gv = vct T k (qi + 1) ∧ 1 ≤ gv := (by rcases hVI with z | z; (exact z); (exfalso; have zl : S60.1 11 13 < T := (by rcases z.1 with y | y; (exact hkv.lt y (by decide)); (exact hkv.lt y (by decide))); rcases z.1 with y | y <;> omega))
              refine lv_iload hx hb dX9_tellPar_206 (lv_at hl 0 rfl) ?_
              refine lv_iload_n hx hb dX9_tellPar_208 rfl (lv_at hl 2 rfl) ?_
              refine r_icmp_eq (tgt := 219) hx hb ⟨(by omega), (by omega)⟩ ⟨(by omega), (by omega)⟩ dX9_tellPar_209 (by decide) (fun c_129 => ?_) (fun c_129 => ?_)
              · refine lv_aload_n hx hb dX9_tellPar_219 rfl (lv_at hl 5 rfl) ?_
                have q_130 : 0 ≤ S60.1 11 11 ∧ S60.1 11 11 ≤ 12 := hI60.fi 11 11 9 (by decide) rfl
                refine g_X9_83 Cx hW (k := 11) (by decide) rfl (v := S60.1 11 11) rfl dX9_tellPar_220 ?_
                refine lv_bipush (v := iv 12) hx hb dX9_tellPar_223 (by decide) ?_
                refine r_icmp_lt (tgt := 236) hx hb ⟨(by omega), (by omega)⟩ ⟨(by omega), (by omega)⟩ dX9_tellPar_225 (by decide) (fun c_131 => ?_) (fun c_131 => ?_)
                · refine lv_aload_n hx hb dX9_tellPar_236 rfl (lv_at hl 5 rfl) ?_
                  refine lv_dup hx hb dX9_tellPar_237 rfl ?_
                  refine g_X9_83 Cx hW (k := 11) (by decide) rfl (v := S60.1 11 11) rfl dX9_tellPar_238 ?_
                  refine lv_iconst (v := iv 1) hx hb dX9_tellPar_241 (by decide) ?_
                  refine r_iadd hx hb dX9_tellPar_242 ?_
                  refine p_X9_83 Cx hW hL (k := 11) (by decide) rfl dX9_tellPar_243 (fun H locs hW hL => ?_)
                  have F_132 : Fr S (uF S60 11 11 ((S60.1 11 11) + 1)) pU := hFm60.F rfl
                  have F_133 : Fr u_29 (uF S60 11 11 ((S60.1 11 11) + 1)) pU := hL60_.F rfl
                  have F_134 : Fr S60 (uF S60 11 11 ((S60.1 11 11) + 1)) (pl [11, 18]) := (Fr.rf : Fr S60 S60 (pl [11, 18])).F rfl
                  have i_135 : cX G (uF S60 11 11 ((S60.1 11 11) + 1)) 0 0 0 := hI60.F rfl rfl (show 0 ≤ (S60.1 11 11) + 1 ∧ (S60.1 11 11) + 1 ≤ 12 from ⟨by omega, by omega⟩)
                  refine lv_aload_n hx hb dX9_tellPar_246 rfl (lv_at hl 5 rfl) ?_
                  refine lv_iload_n hx hb dX9_tellPar_247 rfl (lv_at hl 3 rfl) ?_
                  refine lv_iconst (v := iv 5) hx hb dX9_tellPar_248 (by decide) ?_
                  refine lv_iload hx hb dX9_tellPar_249 (lv_at hl 1 rfl) ?_
                  have q_137 : 0 ≤ S60.1 11 9 ∧ S60.1 11 9 ≤ 128 := hI60.fi 11 9 9 (by decide) rfl
                  have lk_138 : (uF S60 11 11 ((S60.1 11 11) + 1)).1 11 9 = S60.1 11 9 := uF_ne (fun h => absurd h.2 (by decide))
                  have lq_136 := LQ.of (w := (uF S60 11 11 ((S60.1 11 11) + 1))) hLL (uF_ne (fun h => absurd h.2 (by decide))) (fun j => (F_134 16 rfl).2.2.1 j) (fun j => (F_134 17 rfl).2.1 j)
                  refine sBv (sV (As := [.int (iv r_9), .int (iv 5), .int (iv ((u_29.1 11 11) * 144))]) (rest := []) (k := 11) Cx (s_X9_setFact l G (uF S60 11 11 ((S60.1 11 11) + 1)) (s0 := r_9) (q := 5) (v := (u_29.1 11 11) * 144) i_135 (by omega) (by omega) (by unfold fr8; omega) (by omega)) (c_X9_136 Cx rfl rfl (rmk_ok (by omega) (by decide))) hW (by decide) rfl rfl rfl hl.1 rfl (Nat.le_of_ble_eq_true rfl) dX9_tellPar_251 ⟨Nat.le_of_ble_eq_true rfl, Nat.le_of_ble_eq_true rfl⟩) hL (fun u_139 H locs k_140 hW hL => ?_)
                  obtain ⟨iu_139, fu_139, xu_139⟩ := k_140
                  have F_141 := F_132.trans (fu_139.to (fun k h => pT_U k (p17_T k h)))
                  have F_142 := F_133.trans (fu_139.to (fun k h => pT_U k (p17_T k h)))
                  have sq5 := LQ.setq lq_136 (by omega) (by omega) xu_139
                  refine lv_aload_n hx hb dX9_tellPar_254 rfl (lv_at hl 5 rfl) ?_
                  refine lv_dup hx hb dX9_tellPar_255 rfl ?_
                  refine g_X9_89 Cx hW (k := 11) (by decide) rfl (v := S60.1 11 13) (((fu_139 11 rfl).1 13).trans (uF_ne (fun h => absurd h.2 (by decide)))) dX9_tellPar_256 ?_
                  refine lv_iconst (v := iv 1) hx hb dX9_tellPar_259 (by decide) ?_
                  refine r_iadd hx hb dX9_tellPar_260 ?_
                  refine p_X9_89 Cx hW hL (k := 11) (by decide) rfl dX9_tellPar_261 (fun H locs hW hL => ?_)
                  have F_143 : Fr S (uF u_139 11 13 ((S60.1 11 13) + 1)) pU := F_141.F rfl
                  have F_144 : Fr u_29 (uF u_139 11 13 ((S60.1 11 13) + 1)) pU := F_142.F rfl
                  have F_145 : Fr u_139 (uF u_139 11 13 ((S60.1 11 13) + 1)) (pl [11, 18]) := (Fr.rf : Fr u_139 u_139 (pl [11, 18])).F rfl
                  have i_146 : cX G (uF u_139 11 13 ((S60.1 11 13) + 1)) 0 0 0 := iu_139.F rfl rfl (show (-2147483648) ≤ (S60.1 11 13) + 1 ∧ (S60.1 11 13) + 1 ≤ 2147483647 from ⟨by omega, by omega⟩)
                  refine lv_iconst (v := iv 1) hx hb dX9_tellPar_264 (by decide) ?_
                  have lk_147 : (uF u_139 11 13 ((S60.1 11 13) + 1)).1 11 9 = S60.1 11 9 := (uF_ne (fun h => absurd h.2 (by decide))).trans (((fu_139 11 rfl).1 9).trans (uF_ne (fun h => absurd h.2 (by decide))))
                  have q_148 : 0 ≤ S60.1 11 10 ∧ S60.1 11 10 ≤ 8 := hI60.fi 11 10 9 (by decide) rfl
                  have lk_149 : (uF u_139 11 13 ((S60.1 11 13) + 1)).1 11 10 = S60.1 11 10 := (uF_ne (fun h => absurd h.2 (by decide))).trans (((fu_139 11 rfl).1 10).trans (uF_ne (fun h => absurd h.2 (by decide))))
                  have lk_150 : (uF u_139 11 13 ((S60.1 11 13) + 1)).1 11 11 = (S60.1 11 11) + 1 := (uF_ne (fun h => absurd h.2 (by decide))).trans (((fu_139 11 rfl).1 11).trans (uF_on))
                  have q_151 : (-2147483648) ≤ S60.1 11 12 ∧ S60.1 11 12 ≤ 2147483647 := hI60.fi 11 12 9 (by decide) rfl
                  have lk_152 : (uF u_139 11 13 ((S60.1 11 13) + 1)).1 11 12 = S60.1 11 12 := (uF_ne (fun h => absurd h.2 (by decide))).trans (((fu_139 11 rfl).1 12).trans (uF_ne (fun h => absurd h.2 (by decide))))
                  have lk_153 : (uF u_139 11 13 ((S60.1 11 13) + 1)).1 11 13 = (S60.1 11 13) + 1 := uF_on
                  have q_154 : 0 ≤ S60.1 11 14 ∧ S60.1 11 14 ≤ 7 := hI60.fi 11 14 9 (by decide) rfl
                  have lk_155 : (uF u_139 11 13 ((S60.1 11 13) + 1)).1 11 14 = S60.1 11 14 := (uF_ne (fun h => absurd h.2 (by decide))).trans (((fu_139 11 rfl).1 14).trans (uF_ne (fun h => absurd h.2 (by decide))))
                  have q_156 : 0 ≤ S.1 o 2 ∧ S.1 o 2 ≤ 12 := hI.fi o 2 3 (mdl_k hm) hm.1
                  have lk_157 : (uF u_139 11 13 ((S60.1 11 13) + 1)).1 o 2 = S.1 o 2 := (uF_ne (fun h => absurd h.2 (by decide))).trans (((fu_139 o (p1_no (tau_ne hm.1 (rfl : tau 17 = .inr (.int, 768)) (fun h => by cases h)))).1 2).trans ((uF_ne (fun h => absurd h.2 (by decide))).trans (((hL60_ o (mdl_out hm).2.1).1 2).trans (((fu_29 o (pl_c (tau_ne hm.1 (rfl : tau 11 = .inl 9) (fun h => by cases h)) (pl_c (tau_ne hm.1 (rfl : tau 17 = .inr (.int, 768)) (fun h => by cases h)) rfl))).1 2).trans ((uF_ne (fun h => absurd h.2 (by decide))).trans ((fu_7 o (mdl_out hm).1).1 2))))))
                  have q_158 : 0 ≤ S.1 o 3 ∧ S.1 o 3 ≤ 16 := hI.fi o 3 3 (mdl_k hm) hm.1
                  have lk_159 : (uF u_139 11 13 ((S60.1 11 13) + 1)).1 o 3 = S.1 o 3 := (uF_ne (fun h => absurd h.2 (by decide))).trans (((fu_139 o (p1_no (tau_ne hm.1 (rfl : tau 17 = .inr (.int, 768)) (fun h => by cases h)))).1 3).trans ((uF_ne (fun h => absurd h.2 (by decide))).trans (((hL60_ o (mdl_out hm).2.1).1 3).trans (((fu_29 o (pl_c (tau_ne hm.1 (rfl : tau 11 = .inl 9) (fun h => by cases h)) (pl_c (tau_ne hm.1 (rfl : tau 17 = .inr (.int, 768)) (fun h => by cases h)) rfl))).1 3).trans ((uF_ne (fun h => absurd h.2 (by decide))).trans ((fu_7 o (mdl_out hm).1).1 3))))))
                  have lq_160 := LQ.of (w := (uF u_139 11 13 ((S60.1 11 13) + 1))) sq5.1 (uF_ne (fun h => absurd h.2 (by decide))) (fun j => (F_145 16 rfl).2.2.1 j) (fun j => (F_145 17 rfl).2.1 j)
                  exact sZret Cx hr hlk hW hL (by omega) ⟨i_146, F_143, ⟨⟨⟨(fun i => (((fu_139 11 rfl).2.2.2 i).trans (hRK i))), (fun h => absurd h (by decide))⟩, by omega, by omega⟩, (fun _ => ⟨_, (by rw [eDp_3 hfn hix hgv_ (by rw [← xu_34.1]; omega) (by omega), hgq]), hM.added (f := fct 7 0 0 s3 s4 (144 * M.2.2.1)) (w := vvl k v (qi + 1)) lq_160 (NF_7 hv3 hv4 hv34 (fun z a c => hvb z a (by rw [← xu_34.1] at c; omega))) hfn (fun j a => ((uF_a).trans (((fu_139 18 rfl).2.1 j).trans (uF_a))).trans (hvo j a)) (fun z => absurd (fct0.symm.trans z) (by decide)) (fun z => absurd (fct0.symm.trans z) (by decide)) (fun _ => ((((F_145 17 rfl).2.1 (M.1.1 * 6 + 5)).trans sq5.2.1).trans (show _ = 144 * M.2.2.1 by omega)).symm) (fun _ => ⟨(by omega), rfl, (by omega), (fun z a c => by have c : z < siz M.1 s3 * siz M.1 s4 := c; rw [← xu_34.1] at c; exact (hvw z a (by omega) c (by omega)).trans ((uF_a).trans (((fu_139 18 rfl).2.1 (144 * M.2.2.1 + z)).trans (uF_a))).symm)⟩) (by omega) (by omega) (by omega) (by omega) (by omega) (by omega) ((fun i => (((fu_139 11 rfl).2.2.2 i).trans (hRK i))) 8), (by omega), (by omega)⟩), (fun h => absurd h (by decide))⟩⟩ dX9_tellPar_265
                · refine lv_aload_n hx hb dX9_tellPar_228 rfl (lv_at hl 5 rfl) ?_
                  refine lv_bipush (v := iv 7) hx hb dX9_tellPar_229 (by decide) ?_
                  refine lv_iload_n hx hb dX9_tellPar_231 rfl (lv_at hl 4 rfl) ?_
                  have q_161 : 0 ≤ S60.1 11 9 ∧ S60.1 11 9 ≤ 128 := hI60.fi 11 9 9 (by decide) rfl
                  have q_162 : 0 ≤ S60.1 11 10 ∧ S60.1 11 10 ≤ 8 := hI60.fi 11 10 9 (by decide) rfl
                  have q_163 : (-2147483648) ≤ S60.1 11 12 ∧ S60.1 11 12 ≤ 2147483647 := hI60.fi 11 12 9 (by decide) rfl
                  refine sBi (sV (As := [.int (iv 7), .int (iv ((S.1 11 13) + 1))]) (rest := []) (k := 11) Cx (e_X9_fail l G S60 (k := 7) (tk := (S.1 11 13) + 1) hI60 (by omega) (by omega)) (c_X9_132 Cx rfl rfl (rmk_ok (by omega) (by decide))) hW (by decide) rfl rfl rfl hl.1 rfl (Nat.le_of_ble_eq_true rfl) dX9_tellPar_232 ⟨Nat.le_of_ble_eq_true rfl, Nat.le_of_ble_eq_true rfl⟩) hL (fun r_166 u_164 H locs k_165 hW hL => ?_)
                  obtain ⟨iu_164, fu_164, xu_164⟩ := k_165
                  have F_167 := hFm60.trans (fu_164.to (fun k h => pT_U k (p11_T k h)))
                  have F_168 := hL60_.trans (fu_164.to (fun k h => pT_U k (p11_T k h)))
                  have F_169 := (Fr.rf : Fr S60 S60 (pl [11, 18])).trans (fu_164.to (p1_sub rfl))
                  have q_170 : 0 ≤ u_164.1 11 9 ∧ u_164.1 11 9 ≤ 128 := iu_164.fi 11 9 9 (by decide) rfl
                  have q_171 : 0 ≤ u_164.1 11 10 ∧ u_164.1 11 10 ≤ 8 := iu_164.fi 11 10 9 (by decide) rfl
                  have q_172 : 0 ≤ u_164.1 11 11 ∧ u_164.1 11 11 ≤ 12 := iu_164.fi 11 11 9 (by decide) rfl
                  have q_173 : (-2147483648) ≤ u_164.1 11 12 ∧ u_164.1 11 12 ≤ 2147483647 := iu_164.fi 11 12 9 (by decide) rfl
                  have q_174 : (-2147483648) ≤ u_164.1 11 13 ∧ u_164.1 11 13 ≤ 2147483647 := iu_164.fi 11 13 9 (by decide) rfl
                  have q_175 : 0 ≤ u_164.1 11 14 ∧ u_164.1 11 14 ≤ 7 := iu_164.fi 11 14 9 (by decide) rfl
                  have q_176 : 0 ≤ S.1 o 2 ∧ S.1 o 2 ≤ 12 := hI.fi o 2 3 (mdl_k hm) hm.1
                  have lk_177 : u_164.1 o 2 = S.1 o 2 := ((fu_164 o (p1_no (tau_ne hm.1 (rfl : tau 11 = .inl 9) (fun h => by cases h)))).1 2).trans (((hL60_ o (mdl_out hm).2.1).1 2).trans (((fu_29 o (pl_c (tau_ne hm.1 (rfl : tau 11 = .inl 9) (fun h => by cases h)) (pl_c (tau_ne hm.1 (rfl : tau 17 = .inr (.int, 768)) (fun h => by cases h)) rfl))).1 2).trans ((uF_ne (fun h => absurd h.2 (by decide))).trans ((fu_7 o (mdl_out hm).1).1 2))))
                  have q_178 : 0 ≤ S.1 o 3 ∧ S.1 o 3 ≤ 16 := hI.fi o 3 3 (mdl_k hm) hm.1
                  have lk_179 : u_164.1 o 3 = S.1 o 3 := ((fu_164 o (p1_no (tau_ne hm.1 (rfl : tau 11 = .inl 9) (fun h => by cases h)))).1 3).trans (((hL60_ o (mdl_out hm).2.1).1 3).trans (((fu_29 o (pl_c (tau_ne hm.1 (rfl : tau 11 = .inl 9) (fun h => by cases h)) (pl_c (tau_ne hm.1 (rfl : tau 17 = .inr (.int, 768)) (fun h => by cases h)) rfl))).1 3).trans ((uF_ne (fun h => absurd h.2 (by decide))).trans ((fu_7 o (mdl_out hm).1).1 3))))
                  exact sZret Cx hr hlk hW hL (by omega) ⟨iu_164, F_167, ⟨⟨⟨(fun i => ((xu_164.2.2.2.2.2.2.2 i).trans (hRK i))), (fun _ => by first | omega | exact xu_164.1.1.2 (by omega))⟩, by omega, by omega⟩, (fun h => absurd h (by omega)), (fun _ => (eDp_2 hfn hix hgv_ (.inr (by omega))))⟩⟩ dX9_tellPar_235
              · refine lv_aload_n hx hb dX9_tellPar_212 rfl (lv_at hl 5 rfl) ?_
                refine lv_iconst (v := iv 3) hx hb dX9_tellPar_213 (by decide) ?_
                refine lv_iload_n hx hb dX9_tellPar_214 rfl (lv_at hl 4 rfl) ?_
                have q_180 : 0 ≤ S60.1 11 9 ∧ S60.1 11 9 ≤ 128 := hI60.fi 11 9 9 (by decide) rfl
                have q_181 : 0 ≤ S60.1 11 10 ∧ S60.1 11 10 ≤ 8 := hI60.fi 11 10 9 (by decide) rfl
                have q_182 : 0 ≤ S60.1 11 11 ∧ S60.1 11 11 ≤ 12 := hI60.fi 11 11 9 (by decide) rfl
                have q_183 : (-2147483648) ≤ S60.1 11 12 ∧ S60.1 11 12 ≤ 2147483647 := hI60.fi 11 12 9 (by decide) rfl
                refine sBi (sV (As := [.int (iv 3), .int (iv ((S.1 11 13) + 1))]) (rest := []) (k := 11) Cx (e_X9_fail l G S60 (k := 3) (tk := (S.1 11 13) + 1) hI60 (by omega) (by omega)) (c_X9_132 Cx rfl rfl (rmk_ok (by omega) (by decide))) hW (by decide) rfl rfl rfl hl.1 rfl (Nat.le_of_ble_eq_true rfl) dX9_tellPar_215 ⟨Nat.le_of_ble_eq_true rfl, Nat.le_of_ble_eq_true rfl⟩) hL (fun r_186 u_184 H locs k_185 hW hL => ?_)
                obtain ⟨iu_184, fu_184, xu_184⟩ := k_185
                have F_187 := hFm60.trans (fu_184.to (fun k h => pT_U k (p11_T k h)))
                have F_188 := hL60_.trans (fu_184.to (fun k h => pT_U k (p11_T k h)))
                have F_189 := (Fr.rf : Fr S60 S60 (pl [11, 18])).trans (fu_184.to (p1_sub rfl))
                have q_190 : 0 ≤ u_184.1 11 9 ∧ u_184.1 11 9 ≤ 128 := iu_184.fi 11 9 9 (by decide) rfl
                have q_191 : 0 ≤ u_184.1 11 10 ∧ u_184.1 11 10 ≤ 8 := iu_184.fi 11 10 9 (by decide) rfl
                have q_192 : 0 ≤ u_184.1 11 11 ∧ u_184.1 11 11 ≤ 12 := iu_184.fi 11 11 9 (by decide) rfl
                have q_193 : (-2147483648) ≤ u_184.1 11 12 ∧ u_184.1 11 12 ≤ 2147483647 := iu_184.fi 11 12 9 (by decide) rfl
                have q_194 : (-2147483648) ≤ u_184.1 11 13 ∧ u_184.1 11 13 ≤ 2147483647 := iu_184.fi 11 13 9 (by decide) rfl
                have q_195 : 0 ≤ u_184.1 11 14 ∧ u_184.1 11 14 ≤ 7 := iu_184.fi 11 14 9 (by decide) rfl
                have q_196 : 0 ≤ S.1 o 2 ∧ S.1 o 2 ≤ 12 := hI.fi o 2 3 (mdl_k hm) hm.1
                have lk_197 : u_184.1 o 2 = S.1 o 2 := ((fu_184 o (p1_no (tau_ne hm.1 (rfl : tau 11 = .inl 9) (fun h => by cases h)))).1 2).trans (((hL60_ o (mdl_out hm).2.1).1 2).trans (((fu_29 o (pl_c (tau_ne hm.1 (rfl : tau 11 = .inl 9) (fun h => by cases h)) (pl_c (tau_ne hm.1 (rfl : tau 17 = .inr (.int, 768)) (fun h => by cases h)) rfl))).1 2).trans ((uF_ne (fun h => absurd h.2 (by decide))).trans ((fu_7 o (mdl_out hm).1).1 2))))
                have q_198 : 0 ≤ S.1 o 3 ∧ S.1 o 3 ≤ 16 := hI.fi o 3 3 (mdl_k hm) hm.1
                have lk_199 : u_184.1 o 3 = S.1 o 3 := ((fu_184 o (p1_no (tau_ne hm.1 (rfl : tau 11 = .inl 9) (fun h => by cases h)))).1 3).trans (((hL60_ o (mdl_out hm).2.1).1 3).trans (((fu_29 o (pl_c (tau_ne hm.1 (rfl : tau 11 = .inl 9) (fun h => by cases h)) (pl_c (tau_ne hm.1 (rfl : tau 17 = .inr (.int, 768)) (fun h => by cases h)) rfl))).1 3).trans ((uF_ne (fun h => absurd h.2 (by decide))).trans ((fu_7 o (mdl_out hm).1).1 3))))
                exact sZret Cx hr hlk hW hL (by omega) ⟨iu_184, F_187, ⟨⟨⟨(fun i => ((xu_184.2.2.2.2.2.2.2 i).trans (hRK i))), (fun _ => by first | omega | exact xu_184.1.1.2 (by omega))⟩, by omega, by omega⟩, (fun h => absurd h (by omega)), (fun _ => (eDp_2 hfn hix hgv_ (.inl (by rw [← xu_34.1]; omega))))⟩⟩ dX9_tellPar_218
            · have vs := VI.st (v := v) hkv.z hg15 hgv.1 (by omega) hVI
              have vs1 : Hd _ := vs.1; have vs4 := vs.2.2.2; have vs5 := vst_b (k := k) (a := S60.1 11 13 + 1)
              refine lv_aload_n hx hb dX9_tellPar_88 rfl (lv_at hl 5 rfl) ?_
              refine lv_dup hx hb dX9_tellPar_89 rfl ?_
              refine g_X9_89 Cx hW (k := 11) (by decide) rfl (v := S60.1 11 13) rfl dX9_tellPar_90 ?_
              refine lv_iconst (v := iv 1) hx hb dX9_tellPar_93 (by decide) ?_
              refine r_iadd hx hb dX9_tellPar_94 ?_
              refine p_X9_89 Cx hW hL (k := 11) (by decide) rfl dX9_tellPar_95 (fun H locs hW hL => ?_)
              have F_200 : Fr S (uF S60 11 13 ((S60.1 11 13) + 1)) pU := hFm60.F rfl
              have F_201 : Fr u_29 (uF S60 11 13 ((S60.1 11 13) + 1)) pU := hL60_.F rfl
              have F_202 : Fr S60 (uF S60 11 13 ((S60.1 11 13) + 1)) (pl [11, 18]) := (Fr.rf : Fr S60 S60 (pl [11, 18])).F rfl
              have i_203 : cX G (uF S60 11 13 ((S60.1 11 13) + 1)) 0 0 0 := hI60.F rfl rfl (show (-2147483648) ≤ (S60.1 11 13) + 1 ∧ (S60.1 11 13) + 1 ≤ 2147483647 from ⟨by omega, by omega⟩)
              refine lv_aload_n hx hb dX9_tellPar_98 rfl (lv_at hl 5 rfl) ?_
              refine g_X9_14 Cx hW (k := 11) (by decide) rfl (v := .ref (G.2.2.1 + 12)) (rf_11_0 i_203) dX9_tellPar_99 ?_
              refine lv_aload_n hx hb dX9_tellPar_102 rfl (lv_at hl 5 rfl) ?_
              refine g_X9_89 Cx hW (k := 11) (by decide) rfl (v := (S60.1 11 13) + 1) uF_on dX9_tellPar_103 ?_
              refine sBi (sV (As := [.int (iv ((S60.1 11 13) + 1))]) (rest := []) (k := 12) Cx (s_X8_kind l G (uF S60 11 13 ((S60.1 11 13) + 1)) (k := (S60.1 11 13) + 1) i_203 (by omega)) (c_X9_95 Cx rfl rfl (rmk_ok (by omega) (by decide))) hW (by decide) rfl rfl rfl hl.1 rfl (Nat.le_of_ble_eq_true rfl) dX9_tellPar_106 ⟨Nat.le_of_ble_eq_true rfl, Nat.le_of_ble_eq_true rfl⟩) hL (fun r_206 u_204 H locs k_205 hW hL => ?_)
              obtain ⟨eu_204, xu_204⟩ := k_205
              rw [eu_204] at hW
              have kv_207 : KV (uF S60 11 13 ((S60.1 11 13) + 1)) k v T := hkv.fr F_200 rfl rfl rfl
              have km : r_206 = k (S60.1 11 13 + 1) := (by rw [← kv_207.1]; exact xu_204.1.trans (congrArg (kd _) (by omega)))
              refine lv_bipush (v := iv 22) hx hb dX9_tellPar_109 (by decide) ?_
              refine r_icmp_ne (tgt := 118) hx hb ⟨(by omega), (by omega)⟩ ⟨(by omega), (by omega)⟩ dX9_tellPar_111 (by decide) (fun c_208 => ?_) (fun c_208 => ?_)
              · refine lv_iconst (v := iv 0) hx hb dX9_tellPar_118 (by decide) ?_
                refine lv_istore (lv' := [(6, .int (iv 0)), (5, .int (iv gv)), (4, .int (iv ((u_29.1 11 11) * 144))), (3, .int (iv r_36)), (2, .int (iv r_9)), (1, .int (iv ((S.1 11 13) + 1))), (0, .ref (G.2.2.1 + 11))]) hx hb dX9_tellPar_119 hl (by decide) rfl (fun ls hl => ?_)
                refine lv_iload hx hb dX9_tellPar_121 (lv_at hl 0 rfl) ?_
                refine r_if_eq (tgt := 136) hx hb ⟨(by omega), (by omega)⟩ dX9_tellPar_123 (by decide) (fun _ => ?_) (fun c => absurd (by omega) c)
                have k3 : k (S60.1 11 13 + 1) = 3 := (by rcases vs1 with z | z; (exact absurd z.1 (by omega)); (exact z.1))
                have vs6 : vst k (S60.1 11 13 + 1) = 1 := (if_neg (by omega))
                have nb := hTV _ k3
                have vva_ : vva k v (S60.1 11 13 + 1) = v (S60.1 11 13 + 1) := (if_neg (by omega))
                refine lv_iload hx hb dX9_tellPar_136 (lv_at hl 1 rfl) ?_
                refine lv_iload_n hx hb dX9_tellPar_138 rfl (lv_at hl 3 rfl) ?_
                refine r_icmp_ge (tgt := 190) hx hb ⟨(by omega), (by omega)⟩ ⟨(by omega), (by omega)⟩ dX9_tellPar_139 (by decide) (fun c_209 => ?_) (fun c_209 => ?_)
                · refine lv_aload_n hx hb dX9_tellPar_190 rfl (lv_at hl 6 rfl) ?_
                  refine lv_dup hx hb dX9_tellPar_191 rfl ?_
                  refine g_X9_89 Cx hW (k := 11) (by decide) rfl (v := (S60.1 11 13) + 1) uF_on dX9_tellPar_192 ?_
                  refine lv_iconst (v := iv 1) hx hb dX9_tellPar_195 (by decide) ?_
                  refine r_iadd hx hb dX9_tellPar_196 ?_
                  refine p_X9_89 Cx hW hL (k := 11) (by decide) rfl dX9_tellPar_197 (fun H locs hW hL => ?_)
                  have F_210 : Fr S (uF (uF S60 11 13 ((S60.1 11 13) + 1)) 11 13 (((S60.1 11 13) + 1) + 1)) pU := F_200.F rfl
                  have F_211 : Fr u_29 (uF (uF S60 11 13 ((S60.1 11 13) + 1)) 11 13 (((S60.1 11 13) + 1) + 1)) pU := F_201.F rfl
                  have F_212 : Fr S60 (uF (uF S60 11 13 ((S60.1 11 13) + 1)) 11 13 (((S60.1 11 13) + 1) + 1)) (pl [11, 18]) := F_202.F rfl
                  have i_213 : cX G (uF (uF S60 11 13 ((S60.1 11 13) + 1)) 11 13 (((S60.1 11 13) + 1) + 1)) 0 0 0 := i_203.F rfl rfl (show (-2147483648) ≤ ((S60.1 11 13) + 1) + 1 ∧ ((S60.1 11 13) + 1) + 1 ≤ 2147483647 from ⟨by omega, by omega⟩)
                  refine lv_iinc (v := iv (gv + 1)) (lv' := [(5, .int (iv (gv + 1))), (6, .int (iv 0)), (4, .int (iv ((u_29.1 11 11) * 144))), (3, .int (iv r_36)), (2, .int (iv r_9)), (1, .int (iv ((S.1 11 13) + 1))), (0, .ref (G.2.2.1 + 11))]) hx hb dX9_tellPar_200 hl (k := 1) rfl ((Int32.ofInt_add _ _).symm) (by decide) rfl (fun ls hl => ?_)
                  refine lv_goto (tgt := 60) hx hb dX9_tellPar_203 (by decide) ?_
                  have q_214 : 0 ≤ S60.1 11 9 ∧ S60.1 11 9 ≤ 128 := hI60.fi 11 9 9 (by decide) rfl
                  have lk_215 : (uF (uF S60 11 13 ((S60.1 11 13) + 1)) 11 13 (((S60.1 11 13) + 1) + 1)).1 11 9 = S60.1 11 9 := (uF_ne (fun h => absurd h.2 (by decide))).trans (uF_ne (fun h => absurd h.2 (by decide)))
                  have q_216 : 0 ≤ S60.1 11 10 ∧ S60.1 11 10 ≤ 8 := hI60.fi 11 10 9 (by decide) rfl
                  have lk_217 : (uF (uF S60 11 13 ((S60.1 11 13) + 1)) 11 13 (((S60.1 11 13) + 1) + 1)).1 11 10 = S60.1 11 10 := (uF_ne (fun h => absurd h.2 (by decide))).trans (uF_ne (fun h => absurd h.2 (by decide)))
                  have q_218 : 0 ≤ S60.1 11 11 ∧ S60.1 11 11 ≤ 12 := hI60.fi 11 11 9 (by decide) rfl
                  have lk_219 : (uF (uF S60 11 13 ((S60.1 11 13) + 1)) 11 13 (((S60.1 11 13) + 1) + 1)).1 11 11 = S60.1 11 11 := (uF_ne (fun h => absurd h.2 (by decide))).trans (uF_ne (fun h => absurd h.2 (by decide)))
                  have q_220 : (-2147483648) ≤ S60.1 11 12 ∧ S60.1 11 12 ≤ 2147483647 := hI60.fi 11 12 9 (by decide) rfl
                  have lk_221 : (uF (uF S60 11 13 ((S60.1 11 13) + 1)) 11 13 (((S60.1 11 13) + 1) + 1)).1 11 12 = S60.1 11 12 := (uF_ne (fun h => absurd h.2 (by decide))).trans (uF_ne (fun h => absurd h.2 (by decide)))
                  have lk_222 : (uF (uF S60 11 13 ((S60.1 11 13) + 1)) 11 13 (((S60.1 11 13) + 1) + 1)).1 11 13 = ((S60.1 11 13) + 1) + 1 := uF_on
                  have q_223 : 0 ≤ S60.1 11 14 ∧ S60.1 11 14 ≤ 7 := hI60.fi 11 14 9 (by decide) rfl
                  have lk_224 : (uF (uF S60 11 13 ((S60.1 11 13) + 1)) 11 13 (((S60.1 11 13) + 1) + 1)).1 11 14 = S60.1 11 14 := (uF_ne (fun h => absurd h.2 (by decide))).trans (uF_ne (fun h => absurd h.2 (by decide)))
                  have lq_225 := LQ.of (w := (uF (uF S60 11 13 ((S60.1 11 13) + 1)) 11 13 (((S60.1 11 13) + 1) + 1))) hLL ((uF_ne (fun h => absurd h.2 (by decide))).trans (uF_ne (fun h => absurd h.2 (by decide)))) (fun j => (F_212 16 rfl).2.2.1 j) (fun j => (F_212 17 rfl).2.1 j)
                  exact ih_60 (uF (uF S60 11 13 ((S60.1 11 13) + 1)) 11 13 (((S60.1 11 13) + 1) + 1)) (gv + 1) _ _ _ (by omega) i_213 F_210 F_211 (fun i => (hRK i)) (by omega) lq_225 (by omega) (by omega) (by omega) (by rw [show (uF (uF S60 11 13 ((S60.1 11 13) + 1)) 11 13 (((S60.1 11 13) + 1) + 1)).1 11 13 = S60.1 11 13 + 1 + vst k (S60.1 11 13 + 1) by omega]; exact vs.2.1) (fun z a c => by by_cases y : z = gv; (rw [y, vs.2.2.1, vva_]; omega); exact hvb z a (by omega)) (fun z a c d e => by by_cases y : z = gv; (exfalso; omega); exact hvw z a (by omega) d e) hvo hW hL (lv_sub hl [0, 2, 3, 4, 5, 6] rfl)
                · refine lv_iload hx hb dX9_tellPar_142 (lv_at hl 2 rfl) ?_
                  refine lv_iload hx hb dX9_tellPar_144 (lv_at hl 1 rfl) ?_
                  refine r_iadd hx hb dX9_tellPar_146 ?_
                  refine lv_aload_n hx hb dX9_tellPar_147 rfl (lv_at hl 6 rfl) ?_
                  refine g_X9_26 Cx hW (k := 11) (by decide) rfl (v := .ref (G.2.2.1 + 18)) (rf_11_3 i_203) dX9_tellPar_148 ?_
                  refine sAlen Cx hW (k := 18) (by decide) rfl 0 rfl dX9_tellPar_151 ?_
                  refine r_icmp_ge (tgt := 190) hx hb ⟨(by omega), (by omega)⟩ ⟨(by omega), (by omega)⟩ dX9_tellPar_152 (by decide) (fun c_226 => ?_) (fun c_226 => ?_)
                  · refine lv_aload_n hx hb dX9_tellPar_190 rfl (lv_at hl 6 rfl) ?_
                    refine lv_dup hx hb dX9_tellPar_191 rfl ?_
                    refine g_X9_89 Cx hW (k := 11) (by decide) rfl (v := (S60.1 11 13) + 1) uF_on dX9_tellPar_192 ?_
                    refine lv_iconst (v := iv 1) hx hb dX9_tellPar_195 (by decide) ?_
                    refine r_iadd hx hb dX9_tellPar_196 ?_
                    refine p_X9_89 Cx hW hL (k := 11) (by decide) rfl dX9_tellPar_197 (fun H locs hW hL => ?_)
                    have F_227 : Fr S (uF (uF S60 11 13 ((S60.1 11 13) + 1)) 11 13 (((S60.1 11 13) + 1) + 1)) pU := F_200.F rfl
                    have F_228 : Fr u_29 (uF (uF S60 11 13 ((S60.1 11 13) + 1)) 11 13 (((S60.1 11 13) + 1) + 1)) pU := F_201.F rfl
                    have F_229 : Fr S60 (uF (uF S60 11 13 ((S60.1 11 13) + 1)) 11 13 (((S60.1 11 13) + 1) + 1)) (pl [11, 18]) := F_202.F rfl
                    have i_230 : cX G (uF (uF S60 11 13 ((S60.1 11 13) + 1)) 11 13 (((S60.1 11 13) + 1) + 1)) 0 0 0 := i_203.F rfl rfl (show (-2147483648) ≤ ((S60.1 11 13) + 1) + 1 ∧ ((S60.1 11 13) + 1) + 1 ≤ 2147483647 from ⟨by omega, by omega⟩)
                    refine lv_iinc (v := iv (gv + 1)) (lv' := [(5, .int (iv (gv + 1))), (6, .int (iv 0)), (4, .int (iv ((u_29.1 11 11) * 144))), (3, .int (iv r_36)), (2, .int (iv r_9)), (1, .int (iv ((S.1 11 13) + 1))), (0, .ref (G.2.2.1 + 11))]) hx hb dX9_tellPar_200 hl (k := 1) rfl ((Int32.ofInt_add _ _).symm) (by decide) rfl (fun ls hl => ?_)
                    refine lv_goto (tgt := 60) hx hb dX9_tellPar_203 (by decide) ?_
                    have q_231 : 0 ≤ S60.1 11 9 ∧ S60.1 11 9 ≤ 128 := hI60.fi 11 9 9 (by decide) rfl
                    have lk_232 : (uF (uF S60 11 13 ((S60.1 11 13) + 1)) 11 13 (((S60.1 11 13) + 1) + 1)).1 11 9 = S60.1 11 9 := (uF_ne (fun h => absurd h.2 (by decide))).trans (uF_ne (fun h => absurd h.2 (by decide)))
                    have q_233 : 0 ≤ S60.1 11 10 ∧ S60.1 11 10 ≤ 8 := hI60.fi 11 10 9 (by decide) rfl
                    have lk_234 : (uF (uF S60 11 13 ((S60.1 11 13) + 1)) 11 13 (((S60.1 11 13) + 1) + 1)).1 11 10 = S60.1 11 10 := (uF_ne (fun h => absurd h.2 (by decide))).trans (uF_ne (fun h => absurd h.2 (by decide)))
                    have q_235 : 0 ≤ S60.1 11 11 ∧ S60.1 11 11 ≤ 12 := hI60.fi 11 11 9 (by decide) rfl
                    have lk_236 : (uF (uF S60 11 13 ((S60.1 11 13) + 1)) 11 13 (((S60.1 11 13) + 1) + 1)).1 11 11 = S60.1 11 11 := (uF_ne (fun h => absurd h.2 (by decide))).trans (uF_ne (fun h => absurd h.2 (by decide)))
                    have q_237 : (-2147483648) ≤ S60.1 11 12 ∧ S60.1 11 12 ≤ 2147483647 := hI60.fi 11 12 9 (by decide) rfl
                    have lk_238 : (uF (uF S60 11 13 ((S60.1 11 13) + 1)) 11 13 (((S60.1 11 13) + 1) + 1)).1 11 12 = S60.1 11 12 := (uF_ne (fun h => absurd h.2 (by decide))).trans (uF_ne (fun h => absurd h.2 (by decide)))
                    have lk_239 : (uF (uF S60 11 13 ((S60.1 11 13) + 1)) 11 13 (((S60.1 11 13) + 1) + 1)).1 11 13 = ((S60.1 11 13) + 1) + 1 := uF_on
                    have q_240 : 0 ≤ S60.1 11 14 ∧ S60.1 11 14 ≤ 7 := hI60.fi 11 14 9 (by decide) rfl
                    have lk_241 : (uF (uF S60 11 13 ((S60.1 11 13) + 1)) 11 13 (((S60.1 11 13) + 1) + 1)).1 11 14 = S60.1 11 14 := (uF_ne (fun h => absurd h.2 (by decide))).trans (uF_ne (fun h => absurd h.2 (by decide)))
                    have lq_242 := LQ.of (w := (uF (uF S60 11 13 ((S60.1 11 13) + 1)) 11 13 (((S60.1 11 13) + 1) + 1))) hLL ((uF_ne (fun h => absurd h.2 (by decide))).trans (uF_ne (fun h => absurd h.2 (by decide)))) (fun j => (F_229 16 rfl).2.2.1 j) (fun j => (F_229 17 rfl).2.1 j)
                    exact ih_60 (uF (uF S60 11 13 ((S60.1 11 13) + 1)) 11 13 (((S60.1 11 13) + 1) + 1)) (gv + 1) _ _ _ (by omega) i_230 F_227 F_228 (fun i => (hRK i)) (by omega) lq_242 (by omega) (by omega) (by omega) (by rw [show (uF (uF S60 11 13 ((S60.1 11 13) + 1)) 11 13 (((S60.1 11 13) + 1) + 1)).1 11 13 = S60.1 11 13 + 1 + vst k (S60.1 11 13 + 1) by omega]; exact vs.2.1) (fun z a c => by by_cases y : z = gv; (rw [y, vs.2.2.1, vva_]; omega); exact hvb z a (by omega)) (fun z a c d e => by by_cases y : z = gv; (exfalso; omega); exact hvw z a (by omega) d e) hvo hW hL (lv_sub hl [0, 2, 3, 4, 5, 6] rfl)
                  · refine lv_aload_n hx hb dX9_tellPar_155 rfl (lv_at hl 6 rfl) ?_
                    refine g_X9_26 Cx hW (k := 11) (by decide) rfl (v := .ref (G.2.2.1 + 18)) (rf_11_3 i_203) dX9_tellPar_156 ?_
                    refine lv_iload hx hb dX9_tellPar_159 (lv_at hl 2 rfl) ?_
                    refine lv_iload hx hb dX9_tellPar_161 (lv_at hl 1 rfl) ?_
                    refine r_iadd hx hb dX9_tellPar_163 ?_
                    refine lv_iload hx hb dX9_tellPar_164 (lv_at hl 0 rfl) ?_
                    refine r_if_eq (tgt := 181) hx hb ⟨(by omega), (by omega)⟩ dX9_tellPar_166 (by decide) (fun _ => ?_) (fun c => absurd (by omega) c)
                    refine lv_aload_n hx hb dX9_tellPar_181 rfl (lv_at hl 6 rfl) ?_
                    refine lv_aload_n hx hb dX9_tellPar_182 rfl (lv_at hl 6 rfl) ?_
                    refine g_X9_89 Cx hW (k := 11) (by decide) rfl (v := (S60.1 11 13) + 1) uF_on dX9_tellPar_183 ?_
                    refine sBi (sV (As := [.int (iv ((S60.1 11 13) + 1))]) (rest := [.int (iv (((u_29.1 11 11) * 144) + gv)), .ref (G.2.2.1 + 18)]) (k := 11) Cx (e_X9_number l G (uF S60 11 13 ((S60.1 11 13) + 1)) (tk := (S60.1 11 13) + 1) i_203 (by omega) (by rw [kv_207.2.1, show (S60.1 11 13) + 1 = S60.1 11 13 + 1 by omega]; exact nb)) (c_X9_143 Cx rfl rfl (rmk_ok (by omega) (by decide))) hW (by decide) rfl rfl rfl hl.1 rfl (Nat.le_of_ble_eq_true rfl) dX9_tellPar_186 ⟨Nat.le_of_ble_eq_true rfl, Nat.le_of_ble_eq_true rfl⟩) hL (fun r_245 u_243 H locs k_244 hW hL => ?_)
                    obtain ⟨eu_243, xu_243⟩ := k_244
                    rw [eu_243] at hW
                    have nv1 : r_245 = v (S60.1 11 13 + 1) := (by rw [← kv_207.2.1]; exact xu_243.trans (congrArg (vd _) (by omega)))
                    refine rIast Cx hW hL (k := 18) (by decide) rfl (by decide) (by omega) (by omega) dX9_tellPar_189 (fun H locs hW hL => ?_)
                    have F_246 : Fr S (uA (uF S60 11 13 ((S60.1 11 13) + 1)) 18 (((u_29.1 11 11) * 144) + gv) r_245) pU := F_200.A rfl
                    have F_247 : Fr u_29 (uA (uF S60 11 13 ((S60.1 11 13) + 1)) 18 (((u_29.1 11 11) * 144) + gv) r_245) pU := F_201.A rfl
                    have F_248 : Fr S60 (uA (uF S60 11 13 ((S60.1 11 13) + 1)) 18 (((u_29.1 11 11) * 144) + gv) r_245) (pl [11, 18]) := F_202.A rfl
                    have i_249 : cX G (uA (uF S60 11 13 ((S60.1 11 13) + 1)) 18 (((u_29.1 11 11) * 144) + gv) r_245) 0 0 0 := i_203.A (by decide) (by decide) (by decide) (show (-2147483648) ≤ r_245 ∧ r_245 ≤ 2147483647 from ⟨by omega, by omega⟩)
                    refine lv_aload_n hx hb dX9_tellPar_190 rfl (lv_at hl 6 rfl) ?_
                    refine lv_dup hx hb dX9_tellPar_191 rfl ?_
                    refine g_X9_89 Cx hW (k := 11) (by decide) rfl (v := (S60.1 11 13) + 1) ((uA_f).trans (uF_on)) dX9_tellPar_192 ?_
                    refine lv_iconst (v := iv 1) hx hb dX9_tellPar_195 (by decide) ?_
                    refine r_iadd hx hb dX9_tellPar_196 ?_
                    refine p_X9_89 Cx hW hL (k := 11) (by decide) rfl dX9_tellPar_197 (fun H locs hW hL => ?_)
                    have F_250 : Fr S (uF (uA (uF S60 11 13 ((S60.1 11 13) + 1)) 18 (((u_29.1 11 11) * 144) + gv) r_245) 11 13 (((S60.1 11 13) + 1) + 1)) pU := F_246.F rfl
                    have F_251 : Fr u_29 (uF (uA (uF S60 11 13 ((S60.1 11 13) + 1)) 18 (((u_29.1 11 11) * 144) + gv) r_245) 11 13 (((S60.1 11 13) + 1) + 1)) pU := F_247.F rfl
                    have F_252 : Fr S60 (uF (uA (uF S60 11 13 ((S60.1 11 13) + 1)) 18 (((u_29.1 11 11) * 144) + gv) r_245) 11 13 (((S60.1 11 13) + 1) + 1)) (pl [11, 18]) := F_248.F rfl
                    have i_253 : cX G (uF (uA (uF S60 11 13 ((S60.1 11 13) + 1)) 18 (((u_29.1 11 11) * 144) + gv) r_245) 11 13 (((S60.1 11 13) + 1) + 1)) 0 0 0 := i_249.F rfl rfl (show (-2147483648) ≤ ((S60.1 11 13) + 1) + 1 ∧ ((S60.1 11 13) + 1) + 1 ≤ 2147483647 from ⟨by omega, by omega⟩)
                    refine lv_iinc (v := iv (gv + 1)) (lv' := [(5, .int (iv (gv + 1))), (6, .int (iv 0)), (4, .int (iv ((u_29.1 11 11) * 144))), (3, .int (iv r_36)), (2, .int (iv r_9)), (1, .int (iv ((S.1 11 13) + 1))), (0, .ref (G.2.2.1 + 11))]) hx hb dX9_tellPar_200 hl (k := 1) rfl ((Int32.ofInt_add _ _).symm) (by decide) rfl (fun ls hl => ?_)
                    refine lv_goto (tgt := 60) hx hb dX9_tellPar_203 (by decide) ?_
                    have q_254 : 0 ≤ S60.1 11 9 ∧ S60.1 11 9 ≤ 128 := hI60.fi 11 9 9 (by decide) rfl
                    have lk_255 : (uF (uA (uF S60 11 13 ((S60.1 11 13) + 1)) 18 (((u_29.1 11 11) * 144) + gv) r_245) 11 13 (((S60.1 11 13) + 1) + 1)).1 11 9 = S60.1 11 9 := (uF_ne (fun h => absurd h.2 (by decide))).trans ((uA_f).trans (uF_ne (fun h => absurd h.2 (by decide))))
                    have q_256 : 0 ≤ S60.1 11 10 ∧ S60.1 11 10 ≤ 8 := hI60.fi 11 10 9 (by decide) rfl
                    have lk_257 : (uF (uA (uF S60 11 13 ((S60.1 11 13) + 1)) 18 (((u_29.1 11 11) * 144) + gv) r_245) 11 13 (((S60.1 11 13) + 1) + 1)).1 11 10 = S60.1 11 10 := (uF_ne (fun h => absurd h.2 (by decide))).trans ((uA_f).trans (uF_ne (fun h => absurd h.2 (by decide))))
                    have q_258 : 0 ≤ S60.1 11 11 ∧ S60.1 11 11 ≤ 12 := hI60.fi 11 11 9 (by decide) rfl
                    have lk_259 : (uF (uA (uF S60 11 13 ((S60.1 11 13) + 1)) 18 (((u_29.1 11 11) * 144) + gv) r_245) 11 13 (((S60.1 11 13) + 1) + 1)).1 11 11 = S60.1 11 11 := (uF_ne (fun h => absurd h.2 (by decide))).trans ((uA_f).trans (uF_ne (fun h => absurd h.2 (by decide))))
                    have q_260 : (-2147483648) ≤ S60.1 11 12 ∧ S60.1 11 12 ≤ 2147483647 := hI60.fi 11 12 9 (by decide) rfl
                    have lk_261 : (uF (uA (uF S60 11 13 ((S60.1 11 13) + 1)) 18 (((u_29.1 11 11) * 144) + gv) r_245) 11 13 (((S60.1 11 13) + 1) + 1)).1 11 12 = S60.1 11 12 := (uF_ne (fun h => absurd h.2 (by decide))).trans ((uA_f).trans (uF_ne (fun h => absurd h.2 (by decide))))
                    have lk_262 : (uF (uA (uF S60 11 13 ((S60.1 11 13) + 1)) 18 (((u_29.1 11 11) * 144) + gv) r_245) 11 13 (((S60.1 11 13) + 1) + 1)).1 11 13 = ((S60.1 11 13) + 1) + 1 := uF_on
                    have q_263 : 0 ≤ S60.1 11 14 ∧ S60.1 11 14 ≤ 7 := hI60.fi 11 14 9 (by decide) rfl
                    have lk_264 : (uF (uA (uF S60 11 13 ((S60.1 11 13) + 1)) 18 (((u_29.1 11 11) * 144) + gv) r_245) 11 13 (((S60.1 11 13) + 1) + 1)).1 11 14 = S60.1 11 14 := (uF_ne (fun h => absurd h.2 (by decide))).trans ((uA_f).trans (uF_ne (fun h => absurd h.2 (by decide))))
                    have lq_265 := LQ.of (w := (uF (uA (uF S60 11 13 ((S60.1 11 13) + 1)) 18 (((u_29.1 11 11) * 144) + gv) r_245) 11 13 (((S60.1 11 13) + 1) + 1))) hLL ((uF_ne (fun h => absurd h.2 (by decide))).trans ((uA_f).trans (uF_ne (fun h => absurd h.2 (by decide))))) (fun j => (F_252 16 rfl).2.2.1 j) (fun j => (F_252 17 rfl).2.1 j)
                    exact ih_60 (uF (uA (uF S60 11 13 ((S60.1 11 13) + 1)) 18 (((u_29.1 11 11) * 144) + gv) r_245) 11 13 (((S60.1 11 13) + 1) + 1)) (gv + 1) _ _ _ (by omega) i_253 F_250 F_251 (fun i => (hRK i)) (by omega) lq_265 (by omega) (by omega) (by omega) (by rw [show (uF (uA (uF S60 11 13 ((S60.1 11 13) + 1)) 18 (((u_29.1 11 11) * 144) + gv) r_245) 11 13 (((S60.1 11 13) + 1) + 1)).1 11 13 = S60.1 11 13 + 1 + vst k (S60.1 11 13 + 1) by omega]; exact vs.2.1) (fun z a c => by by_cases y : z = gv; (rw [y, vs.2.2.1, vva_]; omega); exact hvb z a (by omega)) (fun z a c d e => by by_cases y : z = gv; (rw [y, vs.2.2.1, vva_, show 144 * M.2.2.1 + gv = ((u_29.1 11 11) * 144) + gv by omega]; exact (((uF_a).trans (uA_on)).trans (show r_245 = _ by omega)).symm); (rw [hvw z a (by omega) d e]; exact ((uF_a).trans ((uA_ne (by omega)).trans (uF_a))).symm)) (fun j a => ((uF_a).trans ((uA_ne (by omega)).trans (uF_a))).trans (hvo j a)) hW hL (lv_sub hl [0, 2, 3, 4, 5, 6] rfl)
              · refine lv_iconst (v := iv 1) hx hb dX9_tellPar_114 (by decide) ?_
                refine lv_goto (tgt := 119) hx hb dX9_tellPar_115 (by decide) ?_
                refine lv_istore (lv' := [(6, .int (iv 1)), (5, .int (iv gv)), (4, .int (iv ((u_29.1 11 11) * 144))), (3, .int (iv r_36)), (2, .int (iv r_9)), (1, .int (iv ((S.1 11 13) + 1))), (0, .ref (G.2.2.1 + 11))]) hx hb dX9_tellPar_119 hl (by decide) rfl (fun ls hl => ?_)
                refine lv_iload hx hb dX9_tellPar_121 (lv_at hl 0 rfl) ?_
                refine r_if_eq (tgt := 136) hx hb ⟨(by omega), (by omega)⟩ dX9_tellPar_123 (by decide) (fun c => absurd c (by omega)) (fun _ => ?_)
                refine lv_aload_n hx hb dX9_tellPar_126 rfl (lv_at hl 6 rfl) ?_
                refine lv_dup hx hb dX9_tellPar_127 rfl ?_
                refine g_X9_89 Cx hW (k := 11) (by decide) rfl (v := (S60.1 11 13) + 1) uF_on dX9_tellPar_128 ?_
                refine lv_iconst (v := iv 1) hx hb dX9_tellPar_131 (by decide) ?_
                refine r_iadd hx hb dX9_tellPar_132 ?_
                refine p_X9_89 Cx hW hL (k := 11) (by decide) rfl dX9_tellPar_133 (fun H locs hW hL => ?_)
                have F_266 : Fr S (uF (uF S60 11 13 ((S60.1 11 13) + 1)) 11 13 (((S60.1 11 13) + 1) + 1)) pU := F_200.F rfl
                have F_267 : Fr u_29 (uF (uF S60 11 13 ((S60.1 11 13) + 1)) 11 13 (((S60.1 11 13) + 1) + 1)) pU := F_201.F rfl
                have F_268 : Fr S60 (uF (uF S60 11 13 ((S60.1 11 13) + 1)) 11 13 (((S60.1 11 13) + 1) + 1)) (pl [11, 18]) := F_202.F rfl
                have i_269 : cX G (uF (uF S60 11 13 ((S60.1 11 13) + 1)) 11 13 (((S60.1 11 13) + 1) + 1)) 0 0 0 := i_203.F rfl rfl (show (-2147483648) ≤ ((S60.1 11 13) + 1) + 1 ∧ ((S60.1 11 13) + 1) + 1 ≤ 2147483647 from ⟨by omega, by omega⟩)
                have k3 : k (S60.1 11 13 + 1 + 1) = 3 := (by rcases vs1 with z | z; (exact z.2); (exact absurd (by omega) z.2))
                have vs6 : vst k (S60.1 11 13 + 1) = 2 := (if_pos (by omega))
                have nb := hTV _ k3
                have vva_ : vva k v (S60.1 11 13 + 1) = -(v (S60.1 11 13 + 1 + 1)) := (if_pos (by omega))
                refine lv_iload hx hb dX9_tellPar_136 (lv_at hl 1 rfl) ?_
                refine lv_iload_n hx hb dX9_tellPar_138 rfl (lv_at hl 3 rfl) ?_
                refine r_icmp_ge (tgt := 190) hx hb ⟨(by omega), (by omega)⟩ ⟨(by omega), (by omega)⟩ dX9_tellPar_139 (by decide) (fun c_270 => ?_) (fun c_270 => ?_)
                · refine lv_aload_n hx hb dX9_tellPar_190 rfl (lv_at hl 6 rfl) ?_
                  refine lv_dup hx hb dX9_tellPar_191 rfl ?_
                  refine g_X9_89 Cx hW (k := 11) (by decide) rfl (v := ((S60.1 11 13) + 1) + 1) uF_on dX9_tellPar_192 ?_
                  refine lv_iconst (v := iv 1) hx hb dX9_tellPar_195 (by decide) ?_
                  refine r_iadd hx hb dX9_tellPar_196 ?_
                  refine p_X9_89 Cx hW hL (k := 11) (by decide) rfl dX9_tellPar_197 (fun H locs hW hL => ?_)
                  have F_271 : Fr S (uF (uF (uF S60 11 13 ((S60.1 11 13) + 1)) 11 13 (((S60.1 11 13) + 1) + 1)) 11 13 ((((S60.1 11 13) + 1) + 1) + 1)) pU := F_266.F rfl
                  have F_272 : Fr u_29 (uF (uF (uF S60 11 13 ((S60.1 11 13) + 1)) 11 13 (((S60.1 11 13) + 1) + 1)) 11 13 ((((S60.1 11 13) + 1) + 1) + 1)) pU := F_267.F rfl
                  have F_273 : Fr S60 (uF (uF (uF S60 11 13 ((S60.1 11 13) + 1)) 11 13 (((S60.1 11 13) + 1) + 1)) 11 13 ((((S60.1 11 13) + 1) + 1) + 1)) (pl [11, 18]) := F_268.F rfl
                  have i_274 : cX G (uF (uF (uF S60 11 13 ((S60.1 11 13) + 1)) 11 13 (((S60.1 11 13) + 1) + 1)) 11 13 ((((S60.1 11 13) + 1) + 1) + 1)) 0 0 0 := i_269.F rfl rfl (show (-2147483648) ≤ (((S60.1 11 13) + 1) + 1) + 1 ∧ (((S60.1 11 13) + 1) + 1) + 1 ≤ 2147483647 from ⟨by omega, by omega⟩)
                  refine lv_iinc (v := iv (gv + 1)) (lv' := [(5, .int (iv (gv + 1))), (6, .int (iv 1)), (4, .int (iv ((u_29.1 11 11) * 144))), (3, .int (iv r_36)), (2, .int (iv r_9)), (1, .int (iv ((S.1 11 13) + 1))), (0, .ref (G.2.2.1 + 11))]) hx hb dX9_tellPar_200 hl (k := 1) rfl ((Int32.ofInt_add _ _).symm) (by decide) rfl (fun ls hl => ?_)
                  refine lv_goto (tgt := 60) hx hb dX9_tellPar_203 (by decide) ?_
                  have q_275 : 0 ≤ S60.1 11 9 ∧ S60.1 11 9 ≤ 128 := hI60.fi 11 9 9 (by decide) rfl
                  have lk_276 : (uF (uF (uF S60 11 13 ((S60.1 11 13) + 1)) 11 13 (((S60.1 11 13) + 1) + 1)) 11 13 ((((S60.1 11 13) + 1) + 1) + 1)).1 11 9 = S60.1 11 9 := (uF_ne (fun h => absurd h.2 (by decide))).trans ((uF_ne (fun h => absurd h.2 (by decide))).trans (uF_ne (fun h => absurd h.2 (by decide))))
                  have q_277 : 0 ≤ S60.1 11 10 ∧ S60.1 11 10 ≤ 8 := hI60.fi 11 10 9 (by decide) rfl
                  have lk_278 : (uF (uF (uF S60 11 13 ((S60.1 11 13) + 1)) 11 13 (((S60.1 11 13) + 1) + 1)) 11 13 ((((S60.1 11 13) + 1) + 1) + 1)).1 11 10 = S60.1 11 10 := (uF_ne (fun h => absurd h.2 (by decide))).trans ((uF_ne (fun h => absurd h.2 (by decide))).trans (uF_ne (fun h => absurd h.2 (by decide))))
                  have q_279 : 0 ≤ S60.1 11 11 ∧ S60.1 11 11 ≤ 12 := hI60.fi 11 11 9 (by decide) rfl
                  have lk_280 : (uF (uF (uF S60 11 13 ((S60.1 11 13) + 1)) 11 13 (((S60.1 11 13) + 1) + 1)) 11 13 ((((S60.1 11 13) + 1) + 1) + 1)).1 11 11 = S60.1 11 11 := (uF_ne (fun h => absurd h.2 (by decide))).trans ((uF_ne (fun h => absurd h.2 (by decide))).trans (uF_ne (fun h => absurd h.2 (by decide))))
                  have q_281 : (-2147483648) ≤ S60.1 11 12 ∧ S60.1 11 12 ≤ 2147483647 := hI60.fi 11 12 9 (by decide) rfl
                  have lk_282 : (uF (uF (uF S60 11 13 ((S60.1 11 13) + 1)) 11 13 (((S60.1 11 13) + 1) + 1)) 11 13 ((((S60.1 11 13) + 1) + 1) + 1)).1 11 12 = S60.1 11 12 := (uF_ne (fun h => absurd h.2 (by decide))).trans ((uF_ne (fun h => absurd h.2 (by decide))).trans (uF_ne (fun h => absurd h.2 (by decide))))
                  have lk_283 : (uF (uF (uF S60 11 13 ((S60.1 11 13) + 1)) 11 13 (((S60.1 11 13) + 1) + 1)) 11 13 ((((S60.1 11 13) + 1) + 1) + 1)).1 11 13 = (((S60.1 11 13) + 1) + 1) + 1 := uF_on
                  have q_284 : 0 ≤ S60.1 11 14 ∧ S60.1 11 14 ≤ 7 := hI60.fi 11 14 9 (by decide) rfl
                  have lk_285 : (uF (uF (uF S60 11 13 ((S60.1 11 13) + 1)) 11 13 (((S60.1 11 13) + 1) + 1)) 11 13 ((((S60.1 11 13) + 1) + 1) + 1)).1 11 14 = S60.1 11 14 := (uF_ne (fun h => absurd h.2 (by decide))).trans ((uF_ne (fun h => absurd h.2 (by decide))).trans (uF_ne (fun h => absurd h.2 (by decide))))
                  have lq_286 := LQ.of (w := (uF (uF (uF S60 11 13 ((S60.1 11 13) + 1)) 11 13 (((S60.1 11 13) + 1) + 1)) 11 13 ((((S60.1 11 13) + 1) + 1) + 1))) hLL ((uF_ne (fun h => absurd h.2 (by decide))).trans ((uF_ne (fun h => absurd h.2 (by decide))).trans (uF_ne (fun h => absurd h.2 (by decide))))) (fun j => (F_273 16 rfl).2.2.1 j) (fun j => (F_273 17 rfl).2.1 j)
                  exact ih_60 (uF (uF (uF S60 11 13 ((S60.1 11 13) + 1)) 11 13 (((S60.1 11 13) + 1) + 1)) 11 13 ((((S60.1 11 13) + 1) + 1) + 1)) (gv + 1) _ _ _ (by omega) i_274 F_271 F_272 (fun i => (hRK i)) (by omega) lq_286 (by omega) (by omega) (by omega) (by rw [show (uF (uF (uF S60 11 13 ((S60.1 11 13) + 1)) 11 13 (((S60.1 11 13) + 1) + 1)) 11 13 ((((S60.1 11 13) + 1) + 1) + 1)).1 11 13 = S60.1 11 13 + 1 + vst k (S60.1 11 13 + 1) by omega]; exact vs.2.1) (fun z a c => by by_cases y : z = gv; (rw [y, vs.2.2.1, vva_]; omega); exact hvb z a (by omega)) (fun z a c d e => by by_cases y : z = gv; (exfalso; omega); exact hvw z a (by omega) d e) hvo hW hL (lv_sub hl [0, 2, 3, 4, 5, 6] rfl)
                · refine lv_iload hx hb dX9_tellPar_142 (lv_at hl 2 rfl) ?_
                  refine lv_iload hx hb dX9_tellPar_144 (lv_at hl 1 rfl) ?_
                  refine r_iadd hx hb dX9_tellPar_146 ?_
                  refine lv_aload_n hx hb dX9_tellPar_147 rfl (lv_at hl 6 rfl) ?_
                  refine g_X9_26 Cx hW (k := 11) (by decide) rfl (v := .ref (G.2.2.1 + 18)) (rf_11_3 i_269) dX9_tellPar_148 ?_
                  refine sAlen Cx hW (k := 18) (by decide) rfl 0 rfl dX9_tellPar_151 ?_
                  refine r_icmp_ge (tgt := 190) hx hb ⟨(by omega), (by omega)⟩ ⟨(by omega), (by omega)⟩ dX9_tellPar_152 (by decide) (fun c_287 => ?_) (fun c_287 => ?_)
                  · refine lv_aload_n hx hb dX9_tellPar_190 rfl (lv_at hl 6 rfl) ?_
                    refine lv_dup hx hb dX9_tellPar_191 rfl ?_
                    refine g_X9_89 Cx hW (k := 11) (by decide) rfl (v := ((S60.1 11 13) + 1) + 1) uF_on dX9_tellPar_192 ?_
                    refine lv_iconst (v := iv 1) hx hb dX9_tellPar_195 (by decide) ?_
                    refine r_iadd hx hb dX9_tellPar_196 ?_
                    refine p_X9_89 Cx hW hL (k := 11) (by decide) rfl dX9_tellPar_197 (fun H locs hW hL => ?_)
                    have F_288 : Fr S (uF (uF (uF S60 11 13 ((S60.1 11 13) + 1)) 11 13 (((S60.1 11 13) + 1) + 1)) 11 13 ((((S60.1 11 13) + 1) + 1) + 1)) pU := F_266.F rfl
                    have F_289 : Fr u_29 (uF (uF (uF S60 11 13 ((S60.1 11 13) + 1)) 11 13 (((S60.1 11 13) + 1) + 1)) 11 13 ((((S60.1 11 13) + 1) + 1) + 1)) pU := F_267.F rfl
                    have F_290 : Fr S60 (uF (uF (uF S60 11 13 ((S60.1 11 13) + 1)) 11 13 (((S60.1 11 13) + 1) + 1)) 11 13 ((((S60.1 11 13) + 1) + 1) + 1)) (pl [11, 18]) := F_268.F rfl
                    have i_291 : cX G (uF (uF (uF S60 11 13 ((S60.1 11 13) + 1)) 11 13 (((S60.1 11 13) + 1) + 1)) 11 13 ((((S60.1 11 13) + 1) + 1) + 1)) 0 0 0 := i_269.F rfl rfl (show (-2147483648) ≤ (((S60.1 11 13) + 1) + 1) + 1 ∧ (((S60.1 11 13) + 1) + 1) + 1 ≤ 2147483647 from ⟨by omega, by omega⟩)
                    refine lv_iinc (v := iv (gv + 1)) (lv' := [(5, .int (iv (gv + 1))), (6, .int (iv 1)), (4, .int (iv ((u_29.1 11 11) * 144))), (3, .int (iv r_36)), (2, .int (iv r_9)), (1, .int (iv ((S.1 11 13) + 1))), (0, .ref (G.2.2.1 + 11))]) hx hb dX9_tellPar_200 hl (k := 1) rfl ((Int32.ofInt_add _ _).symm) (by decide) rfl (fun ls hl => ?_)
                    refine lv_goto (tgt := 60) hx hb dX9_tellPar_203 (by decide) ?_
                    have q_292 : 0 ≤ S60.1 11 9 ∧ S60.1 11 9 ≤ 128 := hI60.fi 11 9 9 (by decide) rfl
                    have lk_293 : (uF (uF (uF S60 11 13 ((S60.1 11 13) + 1)) 11 13 (((S60.1 11 13) + 1) + 1)) 11 13 ((((S60.1 11 13) + 1) + 1) + 1)).1 11 9 = S60.1 11 9 := (uF_ne (fun h => absurd h.2 (by decide))).trans ((uF_ne (fun h => absurd h.2 (by decide))).trans (uF_ne (fun h => absurd h.2 (by decide))))
                    have q_294 : 0 ≤ S60.1 11 10 ∧ S60.1 11 10 ≤ 8 := hI60.fi 11 10 9 (by decide) rfl
                    have lk_295 : (uF (uF (uF S60 11 13 ((S60.1 11 13) + 1)) 11 13 (((S60.1 11 13) + 1) + 1)) 11 13 ((((S60.1 11 13) + 1) + 1) + 1)).1 11 10 = S60.1 11 10 := (uF_ne (fun h => absurd h.2 (by decide))).trans ((uF_ne (fun h => absurd h.2 (by decide))).trans (uF_ne (fun h => absurd h.2 (by decide))))
                    have q_296 : 0 ≤ S60.1 11 11 ∧ S60.1 11 11 ≤ 12 := hI60.fi 11 11 9 (by decide) rfl
                    have lk_297 : (uF (uF (uF S60 11 13 ((S60.1 11 13) + 1)) 11 13 (((S60.1 11 13) + 1) + 1)) 11 13 ((((S60.1 11 13) + 1) + 1) + 1)).1 11 11 = S60.1 11 11 := (uF_ne (fun h => absurd h.2 (by decide))).trans ((uF_ne (fun h => absurd h.2 (by decide))).trans (uF_ne (fun h => absurd h.2 (by decide))))
                    have q_298 : (-2147483648) ≤ S60.1 11 12 ∧ S60.1 11 12 ≤ 2147483647 := hI60.fi 11 12 9 (by decide) rfl
                    have lk_299 : (uF (uF (uF S60 11 13 ((S60.1 11 13) + 1)) 11 13 (((S60.1 11 13) + 1) + 1)) 11 13 ((((S60.1 11 13) + 1) + 1) + 1)).1 11 12 = S60.1 11 12 := (uF_ne (fun h => absurd h.2 (by decide))).trans ((uF_ne (fun h => absurd h.2 (by decide))).trans (uF_ne (fun h => absurd h.2 (by decide))))
                    have lk_300 : (uF (uF (uF S60 11 13 ((S60.1 11 13) + 1)) 11 13 (((S60.1 11 13) + 1) + 1)) 11 13 ((((S60.1 11 13) + 1) + 1) + 1)).1 11 13 = (((S60.1 11 13) + 1) + 1) + 1 := uF_on
                    have q_301 : 0 ≤ S60.1 11 14 ∧ S60.1 11 14 ≤ 7 := hI60.fi 11 14 9 (by decide) rfl
                    have lk_302 : (uF (uF (uF S60 11 13 ((S60.1 11 13) + 1)) 11 13 (((S60.1 11 13) + 1) + 1)) 11 13 ((((S60.1 11 13) + 1) + 1) + 1)).1 11 14 = S60.1 11 14 := (uF_ne (fun h => absurd h.2 (by decide))).trans ((uF_ne (fun h => absurd h.2 (by decide))).trans (uF_ne (fun h => absurd h.2 (by decide))))
                    have lq_303 := LQ.of (w := (uF (uF (uF S60 11 13 ((S60.1 11 13) + 1)) 11 13 (((S60.1 11 13) + 1) + 1)) 11 13 ((((S60.1 11 13) + 1) + 1) + 1))) hLL ((uF_ne (fun h => absurd h.2 (by decide))).trans ((uF_ne (fun h => absurd h.2 (by decide))).trans (uF_ne (fun h => absurd h.2 (by decide))))) (fun j => (F_290 16 rfl).2.2.1 j) (fun j => (F_290 17 rfl).2.1 j)
                    exact ih_60 (uF (uF (uF S60 11 13 ((S60.1 11 13) + 1)) 11 13 (((S60.1 11 13) + 1) + 1)) 11 13 ((((S60.1 11 13) + 1) + 1) + 1)) (gv + 1) _ _ _ (by omega) i_291 F_288 F_289 (fun i => (hRK i)) (by omega) lq_303 (by omega) (by omega) (by omega) (by rw [show (uF (uF (uF S60 11 13 ((S60.1 11 13) + 1)) 11 13 (((S60.1 11 13) + 1) + 1)) 11 13 ((((S60.1 11 13) + 1) + 1) + 1)).1 11 13 = S60.1 11 13 + 1 + vst k (S60.1 11 13 + 1) by omega]; exact vs.2.1) (fun z a c => by by_cases y : z = gv; (rw [y, vs.2.2.1, vva_]; omega); exact hvb z a (by omega)) (fun z a c d e => by by_cases y : z = gv; (exfalso; omega); exact hvw z a (by omega) d e) hvo hW hL (lv_sub hl [0, 2, 3, 4, 5, 6] rfl)
                  · refine lv_aload_n hx hb dX9_tellPar_155 rfl (lv_at hl 6 rfl) ?_
                    refine g_X9_26 Cx hW (k := 11) (by decide) rfl (v := .ref (G.2.2.1 + 18)) (rf_11_3 i_269) dX9_tellPar_156 ?_
                    refine lv_iload hx hb dX9_tellPar_159 (lv_at hl 2 rfl) ?_
                    refine lv_iload hx hb dX9_tellPar_161 (lv_at hl 1 rfl) ?_
                    refine r_iadd hx hb dX9_tellPar_163 ?_
                    refine lv_iload hx hb dX9_tellPar_164 (lv_at hl 0 rfl) ?_
                    refine r_if_eq (tgt := 181) hx hb ⟨(by omega), (by omega)⟩ dX9_tellPar_166 (by decide) (fun c => absurd c (by omega)) (fun _ => ?_)
                    refine lv_aload_n hx hb dX9_tellPar_169 rfl (lv_at hl 6 rfl) ?_
                    refine lv_aload_n hx hb dX9_tellPar_170 rfl (lv_at hl 6 rfl) ?_
                    refine g_X9_89 Cx hW (k := 11) (by decide) rfl (v := ((S60.1 11 13) + 1) + 1) uF_on dX9_tellPar_171 ?_
                    have kv_304 : KV (uF (uF S60 11 13 ((S60.1 11 13) + 1)) 11 13 (((S60.1 11 13) + 1) + 1)) k v T := hkv.fr F_266 rfl rfl rfl
                    refine sBi (sV (As := [.int (iv (((S60.1 11 13) + 1) + 1))]) (rest := [.int (iv (((u_29.1 11 11) * 144) + gv)), .ref (G.2.2.1 + 18)]) (k := 11) Cx (e_X9_number l G (uF (uF S60 11 13 ((S60.1 11 13) + 1)) 11 13 (((S60.1 11 13) + 1) + 1)) (tk := ((S60.1 11 13) + 1) + 1) i_269 (by omega) (by rw [kv_304.2.1, show ((S60.1 11 13) + 1) + 1 = S60.1 11 13 + 1 + 1 by omega]; exact nb)) (c_X9_143 Cx rfl rfl (rmk_ok (by omega) (by decide))) hW (by decide) rfl rfl rfl hl.1 rfl (Nat.le_of_ble_eq_true rfl) dX9_tellPar_174 ⟨Nat.le_of_ble_eq_true rfl, Nat.le_of_ble_eq_true rfl⟩) hL (fun r_307 u_305 H locs k_306 hW hL => ?_)
                    obtain ⟨eu_305, xu_305⟩ := k_306
                    rw [eu_305] at hW
                    have nv1 : r_307 = v (S60.1 11 13 + 1 + 1) := (by rw [← kv_304.2.1]; exact xu_305.trans (congrArg (vd _) (by omega)))
                    refine r_ineg hx hb dX9_tellPar_177 ?_
                    refine lv_goto (tgt := 189) hx hb dX9_tellPar_178 (by decide) ?_
                    refine rIast Cx hW hL (k := 18) (by decide) rfl (by decide) (by omega) (by omega) dX9_tellPar_189 (fun H locs hW hL => ?_)
                    have F_308 : Fr S (uA (uF (uF S60 11 13 ((S60.1 11 13) + 1)) 11 13 (((S60.1 11 13) + 1) + 1)) 18 (((u_29.1 11 11) * 144) + gv) (-r_307)) pU := F_266.A rfl
                    have F_309 : Fr u_29 (uA (uF (uF S60 11 13 ((S60.1 11 13) + 1)) 11 13 (((S60.1 11 13) + 1) + 1)) 18 (((u_29.1 11 11) * 144) + gv) (-r_307)) pU := F_267.A rfl
                    have F_310 : Fr S60 (uA (uF (uF S60 11 13 ((S60.1 11 13) + 1)) 11 13 (((S60.1 11 13) + 1) + 1)) 18 (((u_29.1 11 11) * 144) + gv) (-r_307)) (pl [11, 18]) := F_268.A rfl
                    have i_311 : cX G (uA (uF (uF S60 11 13 ((S60.1 11 13) + 1)) 11 13 (((S60.1 11 13) + 1) + 1)) 18 (((u_29.1 11 11) * 144) + gv) (-r_307)) 0 0 0 := i_269.A (by decide) (by decide) (by decide) (show (-2147483648) ≤ -r_307 ∧ -r_307 ≤ 2147483647 from ⟨by omega, by omega⟩)
                    refine lv_aload_n hx hb dX9_tellPar_190 rfl (lv_at hl 6 rfl) ?_
                    refine lv_dup hx hb dX9_tellPar_191 rfl ?_
                    refine g_X9_89 Cx hW (k := 11) (by decide) rfl (v := ((S60.1 11 13) + 1) + 1) ((uA_f).trans (uF_on)) dX9_tellPar_192 ?_
                    refine lv_iconst (v := iv 1) hx hb dX9_tellPar_195 (by decide) ?_
                    refine r_iadd hx hb dX9_tellPar_196 ?_
                    refine p_X9_89 Cx hW hL (k := 11) (by decide) rfl dX9_tellPar_197 (fun H locs hW hL => ?_)
                    have F_312 : Fr S (uF (uA (uF (uF S60 11 13 ((S60.1 11 13) + 1)) 11 13 (((S60.1 11 13) + 1) + 1)) 18 (((u_29.1 11 11) * 144) + gv) (-r_307)) 11 13 ((((S60.1 11 13) + 1) + 1) + 1)) pU := F_308.F rfl
                    have F_313 : Fr u_29 (uF (uA (uF (uF S60 11 13 ((S60.1 11 13) + 1)) 11 13 (((S60.1 11 13) + 1) + 1)) 18 (((u_29.1 11 11) * 144) + gv) (-r_307)) 11 13 ((((S60.1 11 13) + 1) + 1) + 1)) pU := F_309.F rfl
                    have F_314 : Fr S60 (uF (uA (uF (uF S60 11 13 ((S60.1 11 13) + 1)) 11 13 (((S60.1 11 13) + 1) + 1)) 18 (((u_29.1 11 11) * 144) + gv) (-r_307)) 11 13 ((((S60.1 11 13) + 1) + 1) + 1)) (pl [11, 18]) := F_310.F rfl
                    have i_315 : cX G (uF (uA (uF (uF S60 11 13 ((S60.1 11 13) + 1)) 11 13 (((S60.1 11 13) + 1) + 1)) 18 (((u_29.1 11 11) * 144) + gv) (-r_307)) 11 13 ((((S60.1 11 13) + 1) + 1) + 1)) 0 0 0 := i_311.F rfl rfl (show (-2147483648) ≤ (((S60.1 11 13) + 1) + 1) + 1 ∧ (((S60.1 11 13) + 1) + 1) + 1 ≤ 2147483647 from ⟨by omega, by omega⟩)
                    refine lv_iinc (v := iv (gv + 1)) (lv' := [(5, .int (iv (gv + 1))), (6, .int (iv 1)), (4, .int (iv ((u_29.1 11 11) * 144))), (3, .int (iv r_36)), (2, .int (iv r_9)), (1, .int (iv ((S.1 11 13) + 1))), (0, .ref (G.2.2.1 + 11))]) hx hb dX9_tellPar_200 hl (k := 1) rfl ((Int32.ofInt_add _ _).symm) (by decide) rfl (fun ls hl => ?_)
                    refine lv_goto (tgt := 60) hx hb dX9_tellPar_203 (by decide) ?_
                    have q_316 : 0 ≤ S60.1 11 9 ∧ S60.1 11 9 ≤ 128 := hI60.fi 11 9 9 (by decide) rfl
                    have lk_317 : (uF (uA (uF (uF S60 11 13 ((S60.1 11 13) + 1)) 11 13 (((S60.1 11 13) + 1) + 1)) 18 (((u_29.1 11 11) * 144) + gv) (-r_307)) 11 13 ((((S60.1 11 13) + 1) + 1) + 1)).1 11 9 = S60.1 11 9 := (uF_ne (fun h => absurd h.2 (by decide))).trans ((uA_f).trans ((uF_ne (fun h => absurd h.2 (by decide))).trans (uF_ne (fun h => absurd h.2 (by decide)))))
                    have q_318 : 0 ≤ S60.1 11 10 ∧ S60.1 11 10 ≤ 8 := hI60.fi 11 10 9 (by decide) rfl
                    have lk_319 : (uF (uA (uF (uF S60 11 13 ((S60.1 11 13) + 1)) 11 13 (((S60.1 11 13) + 1) + 1)) 18 (((u_29.1 11 11) * 144) + gv) (-r_307)) 11 13 ((((S60.1 11 13) + 1) + 1) + 1)).1 11 10 = S60.1 11 10 := (uF_ne (fun h => absurd h.2 (by decide))).trans ((uA_f).trans ((uF_ne (fun h => absurd h.2 (by decide))).trans (uF_ne (fun h => absurd h.2 (by decide)))))
                    have q_320 : 0 ≤ S60.1 11 11 ∧ S60.1 11 11 ≤ 12 := hI60.fi 11 11 9 (by decide) rfl
                    have lk_321 : (uF (uA (uF (uF S60 11 13 ((S60.1 11 13) + 1)) 11 13 (((S60.1 11 13) + 1) + 1)) 18 (((u_29.1 11 11) * 144) + gv) (-r_307)) 11 13 ((((S60.1 11 13) + 1) + 1) + 1)).1 11 11 = S60.1 11 11 := (uF_ne (fun h => absurd h.2 (by decide))).trans ((uA_f).trans ((uF_ne (fun h => absurd h.2 (by decide))).trans (uF_ne (fun h => absurd h.2 (by decide)))))
                    have q_322 : (-2147483648) ≤ S60.1 11 12 ∧ S60.1 11 12 ≤ 2147483647 := hI60.fi 11 12 9 (by decide) rfl
                    have lk_323 : (uF (uA (uF (uF S60 11 13 ((S60.1 11 13) + 1)) 11 13 (((S60.1 11 13) + 1) + 1)) 18 (((u_29.1 11 11) * 144) + gv) (-r_307)) 11 13 ((((S60.1 11 13) + 1) + 1) + 1)).1 11 12 = S60.1 11 12 := (uF_ne (fun h => absurd h.2 (by decide))).trans ((uA_f).trans ((uF_ne (fun h => absurd h.2 (by decide))).trans (uF_ne (fun h => absurd h.2 (by decide)))))
                    have lk_324 : (uF (uA (uF (uF S60 11 13 ((S60.1 11 13) + 1)) 11 13 (((S60.1 11 13) + 1) + 1)) 18 (((u_29.1 11 11) * 144) + gv) (-r_307)) 11 13 ((((S60.1 11 13) + 1) + 1) + 1)).1 11 13 = (((S60.1 11 13) + 1) + 1) + 1 := uF_on
                    have q_325 : 0 ≤ S60.1 11 14 ∧ S60.1 11 14 ≤ 7 := hI60.fi 11 14 9 (by decide) rfl
                    have lk_326 : (uF (uA (uF (uF S60 11 13 ((S60.1 11 13) + 1)) 11 13 (((S60.1 11 13) + 1) + 1)) 18 (((u_29.1 11 11) * 144) + gv) (-r_307)) 11 13 ((((S60.1 11 13) + 1) + 1) + 1)).1 11 14 = S60.1 11 14 := (uF_ne (fun h => absurd h.2 (by decide))).trans ((uA_f).trans ((uF_ne (fun h => absurd h.2 (by decide))).trans (uF_ne (fun h => absurd h.2 (by decide)))))
                    have lq_327 := LQ.of (w := (uF (uA (uF (uF S60 11 13 ((S60.1 11 13) + 1)) 11 13 (((S60.1 11 13) + 1) + 1)) 18 (((u_29.1 11 11) * 144) + gv) (-r_307)) 11 13 ((((S60.1 11 13) + 1) + 1) + 1))) hLL ((uF_ne (fun h => absurd h.2 (by decide))).trans ((uA_f).trans ((uF_ne (fun h => absurd h.2 (by decide))).trans (uF_ne (fun h => absurd h.2 (by decide)))))) (fun j => (F_314 16 rfl).2.2.1 j) (fun j => (F_314 17 rfl).2.1 j)
                    exact ih_60 (uF (uA (uF (uF S60 11 13 ((S60.1 11 13) + 1)) 11 13 (((S60.1 11 13) + 1) + 1)) 18 (((u_29.1 11 11) * 144) + gv) (-r_307)) 11 13 ((((S60.1 11 13) + 1) + 1) + 1)) (gv + 1) _ _ _ (by omega) i_315 F_312 F_313 (fun i => (hRK i)) (by omega) lq_327 (by omega) (by omega) (by omega) (by rw [show (uF (uA (uF (uF S60 11 13 ((S60.1 11 13) + 1)) 11 13 (((S60.1 11 13) + 1) + 1)) 18 (((u_29.1 11 11) * 144) + gv) (-r_307)) 11 13 ((((S60.1 11 13) + 1) + 1) + 1)).1 11 13 = S60.1 11 13 + 1 + vst k (S60.1 11 13 + 1) by omega]; exact vs.2.1) (fun z a c => by by_cases y : z = gv; (rw [y, vs.2.2.1, vva_]; omega); exact hvb z a (by omega)) (fun z a c d e => by by_cases y : z = gv; (rw [y, vs.2.2.1, vva_, show 144 * M.2.2.1 + gv = ((u_29.1 11 11) * 144) + gv by omega]; exact (((uF_a).trans (uA_on)).trans (show -r_307 = _ by omega)).symm); (rw [hvw z a (by omega) d e]; exact ((uF_a).trans ((uA_ne (by omega)).trans ((uF_a).trans (uF_a)))).symm)) (fun j a => ((uF_a).trans ((uA_ne (by omega)).trans ((uF_a).trans (uF_a)))).trans (hvo j a)) hW hL (lv_sub hl [0, 2, 3, 4, 5, 6] rfl)
      exact loop_60 (_ + 1) u_29 0 _ _ _ (Nat.lt_succ_self _) iu_29 F_32 Fr.rf (fun i => ((xu_29.1.1.1 i).trans (xu_7.1.1.1 i))) (by omega) hlq1 (by omega) (by omega) (by omega) (by rw [show u_29.1 11 13 = qi by omega]; exact VI.in hg13 rfl hgv_) (fun z a c => absurd c (by omega)) (fun z a c => absurd c (by omega)) (fun j _ => ((fu_29 18 rfl).2.1 j).trans ((uF_a).trans ((fu_7 18 rfl).2.1 j))) hW hL (lv_sub hl [0, 1, 2, 3, 4, 5] rfl)
    · refine lv_iconst (v := iv 0) hx hb dX9_tellPar_39 (by decide) ?_
      have q_328 : 0 ≤ u_29.1 11 9 ∧ u_29.1 11 9 ≤ 128 := iu_29.fi 11 9 9 (by decide) rfl
      have q_329 : 0 ≤ u_29.1 11 10 ∧ u_29.1 11 10 ≤ 8 := iu_29.fi 11 10 9 (by decide) rfl
      have q_330 : 0 ≤ u_29.1 11 11 ∧ u_29.1 11 11 ≤ 12 := iu_29.fi 11 11 9 (by decide) rfl
      have q_331 : (-2147483648) ≤ u_29.1 11 12 ∧ u_29.1 11 12 ≤ 2147483647 := iu_29.fi 11 12 9 (by decide) rfl
      have q_332 : (-2147483648) ≤ u_29.1 11 13 ∧ u_29.1 11 13 ≤ 2147483647 := iu_29.fi 11 13 9 (by decide) rfl
      have q_333 : 0 ≤ u_29.1 11 14 ∧ u_29.1 11 14 ≤ 7 := iu_29.fi 11 14 9 (by decide) rfl
      have q_334 : 0 ≤ S.1 o 2 ∧ S.1 o 2 ≤ 12 := hI.fi o 2 3 (mdl_k hm) hm.1
      have lk_335 : u_29.1 o 2 = S.1 o 2 := ((fu_29 o (pl_c (tau_ne hm.1 (rfl : tau 11 = .inl 9) (fun h => by cases h)) (pl_c (tau_ne hm.1 (rfl : tau 17 = .inr (.int, 768)) (fun h => by cases h)) rfl))).1 2).trans ((uF_ne (fun h => absurd h.2 (by decide))).trans ((fu_7 o (mdl_out hm).1).1 2))
      have q_336 : 0 ≤ S.1 o 3 ∧ S.1 o 3 ≤ 16 := hI.fi o 3 3 (mdl_k hm) hm.1
      have lk_337 : u_29.1 o 3 = S.1 o 3 := ((fu_29 o (pl_c (tau_ne hm.1 (rfl : tau 11 = .inl 9) (fun h => by cases h)) (pl_c (tau_ne hm.1 (rfl : tau 17 = .inr (.int, 768)) (fun h => by cases h)) rfl))).1 3).trans ((uF_ne (fun h => absurd h.2 (by decide))).trans ((fu_7 o (mdl_out hm).1).1 3))
      exact sZret Cx hr hlk hW hL (by omega) ⟨iu_29, F_32, ⟨⟨⟨(fun i => ((xu_29.1.1.1 i).trans (xu_7.1.1.1 i))), (fun _ => by first | omega | exact xu_29.1.1.2 (by omega))⟩, by omega, by omega⟩, (fun h => absurd h (by omega)), (fun _ => (eDp_1 hfn (xu_29.2.2.2 (by omega))))⟩⟩ dX9_tellPar_40
  · refine lv_iconst (v := iv 0) hx hb dX9_tellPar_19 (by decide) ?_
    have q_338 : 0 ≤ u_7.1 11 9 ∧ u_7.1 11 9 ≤ 128 := iu_7.fi 11 9 9 (by decide) rfl
    have q_339 : 0 ≤ u_7.1 11 10 ∧ u_7.1 11 10 ≤ 8 := iu_7.fi 11 10 9 (by decide) rfl
    have q_340 : 0 ≤ u_7.1 11 11 ∧ u_7.1 11 11 ≤ 12 := iu_7.fi 11 11 9 (by decide) rfl
    have q_341 : (-2147483648) ≤ u_7.1 11 12 ∧ u_7.1 11 12 ≤ 2147483647 := iu_7.fi 11 12 9 (by decide) rfl
    have q_342 : (-2147483648) ≤ u_7.1 11 13 ∧ u_7.1 11 13 ≤ 2147483647 := iu_7.fi 11 13 9 (by decide) rfl
    have q_343 : 0 ≤ u_7.1 11 14 ∧ u_7.1 11 14 ≤ 7 := iu_7.fi 11 14 9 (by decide) rfl
    have q_344 : 0 ≤ S.1 o 2 ∧ S.1 o 2 ≤ 12 := hI.fi o 2 3 (mdl_k hm) hm.1
    have lk_345 : u_7.1 o 2 = S.1 o 2 := (fu_7 o (mdl_out hm).1).1 2
    have q_346 : 0 ≤ S.1 o 3 ∧ S.1 o 3 ≤ 16 := hI.fi o 3 3 (mdl_k hm) hm.1
    have lk_347 : u_7.1 o 3 = S.1 o 3 := (fu_7 o (mdl_out hm).1).1 3
    exact sZret Cx hr hlk hW hL (by omega) ⟨iu_7, F_10, ⟨⟨⟨(fun i => (xu_7.1.1.1 i)), (fun _ => by first | omega | exact xu_7.1.1.2 (by omega))⟩, by omega, by omega⟩, (fun h => absurd h (by omega)), (fun _ => (by have q0 : 0 ≤ eFind M.1 (v (pz + 1)) := (by rw [hN.find]; rcases xu_7.2.2 (by omega) with z | z; (rw [zt] at z; exact z); (exfalso; omega)); exact eDp_0 (by omega)))⟩⟩ dX9_tellPar_20
