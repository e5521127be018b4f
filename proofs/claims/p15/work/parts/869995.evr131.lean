/-! What may still come, in the reference's order -/
def G1r (T : Int) (k : Int → Int) (p : Int) : Prop := ∃ d, (ogW T (fun p => k p = 6 ∨ k p = 7 ∨ k p = 8) (ogD T k) p).bind (ogG1 T k) = some d
def G2r (T : Int) (k : Int → Int) (p : Int) : Prop := ∃ d, ogG2 T k p = some d
theorem G1r.d {T : Int} {k : Int → Int} {p : Int} (hz : ∀ t, T ≤ t → k t = 0) (h : G1r T k p) (c : k p = 6 ∨ k p = 7 ∨ k p = 8) : ∃ q, k (p + 1) = 2 ∧ k (q - 1) = 15 ∧ ((k p = 6 ∧ gSt k p q) ∨ (k p = 8 ∧ gVa k p q) ∨ (k p ≠ 6 ∧ k p ≠ 8 ∧ gPa T k p q)) ∧ G1r T k q := by
  have lt : ∀ t c, k t = c → c ≠ 0 → t < T := fun t c e hc => by
    by_cases q : t < T
    · exact q
    · exact absurd (e.symm.trans (hz t (by omega))) hc
  obtain ⟨d, h⟩ := h
  have hT : ∀ p, (fun p => k p = 6 ∨ k p = 7 ∨ k p = 8) p → p < T := fun p e => by
    rcases e with e | e | e
    · exact lt p 6 e (by decide)
    · exact lt p 7 e (by decide)
    · exact lt p 8 e (by decide)
  rw [ogW_st hT (fun p q _ e => ogD_inc _ _ e) c] at h
  obtain ⟨w, h1, h2⟩ := ogB h
  obtain ⟨x, h3, h4⟩ := ogB h1
  have i := ogD_i h3
  exact ⟨x, i.1, i.2.1, i.2.2, d, by rw [h4]; exact h2⟩
theorem G1r.g {T : Int} {k : Int → Int} {p : Int} (h : G1r T k p) (c : ¬ (k p = 6 ∨ k p = 7 ∨ k p = 8)) : (k p = 4 ∨ k p = 5) ∧ ∃ q, gGo T k p q ∧ G2r T k q := by
  obtain ⟨d, h⟩ := h
  rw [ogW_no (st := fun p => k p = 6 ∨ k p = 7 ∨ k p = 8) c, Option.bind_some] at h
  unfold ogG1 at h
  split at h
  · rename_i r
    obtain ⟨b, h1, h⟩ := ogB h; obtain ⟨e, h2, h⟩ := ogB h
    have e2 := ogT_lt h2
    exact ⟨r, e, ⟨b, h1, e2.2, e2.1⟩, d, h⟩
  · cases h
theorem G1r.k {T : Int} {k : Int → Int} {p : Int} (h : G1r T k p) : k p ≠ 0 := fun z => by
  have g := (h.g (by omega)).1; omega
theorem G2r.r {T : Int} {k : Int → Int} {p : Int} (hz : ∀ t, T ≤ t → k t = 0) (h : G2r T k p) (c : k p = 10) : ∃ q, gRoc T k p q ∧ k (p + 1) = 2 ∧ (k (p + 2) = 17 → k (p + 3) = 2 ∧ k (p + 5) = 2) ∧ G2r T k q := by
  have lt : ∀ t c, k t = c → c ≠ 0 → t < T := fun t c e hc => by
    by_cases q : t < T
    · exact q
    · exact absurd (e.symm.trans (hz t (by omega))) hc
  obtain ⟨d, h⟩ := h
  have hT : ∀ p, (fun p => k p = 10) p → p < T := fun p e => lt p 10 e (by decide)
  obtain ⟨w, h1, h2⟩ := ogB h
  rw [ogW_st hT (fun p q _ e => ogR_inc _ _ e) c] at h1
  obtain ⟨x, h3, h4⟩ := ogB h1
  have i := ogR_2 h3
  exact ⟨x, ogR_i h3, i.1, i.2, d, by unfold ogG2; rw [h4]; exact h2⟩
theorem G2r.e {T : Int} {k : Int → Int} {p : Int} (h : G2r T k p) (c : k p ≠ 10) : k p = 0 := by
  obtain ⟨d, h⟩ := h
  unfold ogG2 at h; rw [ogW_no (st := fun p => k p = 10) c, Option.bind_some] at h
  by_cases c0 : k p = 0
  · exact c0
  · rw [if_neg c0] at h; cases h
theorem MRr.of {M : sM} {k v : Int → Int} {S u : sS} (h : MRr M k v S) (hN : NRr M.1 k v u) (c0 : u.1 231 33 = S.1 231 33) (c1 : u.1 231 34 = S.1 231 34) (c2 : u.1 231 35 = S.1 231 35) (c3 : u.1 231 36 = S.1 231 36) (c4 : u.1 231 42 = S.1 231 42) : MRr M k v u := by
  obtain ⟨hN0, hK, d0, d1, d2, d3, d4, ds⟩ := h
  exact ⟨hN, hK, ⟨c0.trans d0.1, d0.2⟩, ⟨c1.trans d1.1, d1.2⟩, ⟨c2.trans d2.1, d2.2⟩, ⟨c3.trans d3.1, d3.2⟩, ⟨c4.trans d4.1, d4.2⟩, ds⟩
theorem PBr.of {M : sM} {S u : sS} (h : PBr M S) (e : u.1 231 32 = S.1 231 32) (f : u.2.1 252 = S.2.1 252) : PBr M u := by unfold PBr; rw [e, f]; exact h
theorem MRr.zero {k v : Int → Int} {S : sS} (c25 : S.1 231 25 = 0) (c0 : S.1 231 33 = 0) (c1 : S.1 231 34 = 0) (c2 : S.1 231 35 = 0) (c3 : S.1 231 36 = 0) (c4 : S.1 231 42 = 0) : MRr M00 k v S :=
  ⟨⟨⟨c25.symm, Int.le_refl _, by decide⟩, fun s a b => absurd b (by show ¬ s < (0 : Int); omega), fun s a b => absurd b (by show ¬ s < (0 : Int); omega)⟩, ⟨fun s t a b => absurd b (by show ¬ s < (0 : Int); omega), fun s a b => absurd b (by show ¬ s < (0 : Int); omega)⟩, ⟨c0, by decide, by decide⟩, ⟨c1, by decide, by decide⟩, ⟨c2, by decide, by decide⟩, ⟨c3, by decide, by decide⟩, ⟨c4, by decide, by decide⟩, by decide⟩
theorem PBr.zero {S : sS} (c : S.1 231 32 = 0) : PBr M00 S := ⟨⟨by omega, by show S.1 231 32 ≤ 144 * 0; omega⟩, fun s a b => absurd b (by show ¬ s < (0 : Int); omega)⟩
theorem eDg_n {T : Int} {k v : Int → Int} {M : sM} {p lk : Int} (hl : lk = M.2.2.2.2.2.2.2) (h : eU T k (eF T k v 30 M.1) lk (p + 1) = none) : eDg T k v M p = none := by unfold eDg; rw [← hl, h]; rfl
theorem eDg_s {T : Int} {k v : Int → Int} {M : sM} {p lk q lk' : Int} {V : Int → Int} (hl : lk = M.2.2.2.2.2.2.2) (h : eU T k (eF T k v 30 M.1) lk (p + 1) = some (q, V, lk')) : eDg T k v M p = some ((M.1, M.2.1, M.2.2.1, M.2.2.2.1, M.2.2.2.2.1, M.2.2.2.2.2.1, (if k p = 4 then 1 else 0), lk'), q + 1) := by unfold eDg; rw [← hl, h]; rfl
def gb5 (u : sS) : Prop := ∀ t, 0 ≤ t → t ≤ 12 → -99999 ≤ u.2.2.1 256 t ∧ u.2.2.1 256 t ≤ 99999
set_option maxRecDepth 100000 in
set_option maxHeartbeats 4000000 in
theorem e_X12_tellAll (l : Launch) (G : sG) (S : sS) {k v : Int → Int} {T : Int} (hI : dX G S) (hkr : Hd (KRr S k v T)) (hTV : Hd (TVn k v)) (hf0 : S.1 231 20 = 0) (hg1 : Hd (G1r T k 0)) (hkT : Hd (k (T - 1) ≤ 1)) (hRB : Hd (RBu S)) : Met l yX12_tellAll (.code yX12_tellAll cX12_tellAll 3 none :: tb) (rmk 138 0 0) (sPc G 294 S [.ref (G.2.2.1 + 231)]) (sQv G 294 (fun u => dX G u ∧ Fr S u (pl [231, 248, 249, 250, 251, 252, 253, 254, 255, 256, 257, 258]) ∧ FF S u (fl [20, 21, 24, 25, 32, 33, 34, 35, 36, 40, 42, 43]) ∧ (Hd (RBu u) ∧ Hd (u.1 231 20 ≠ 0 → eMw T k v M00 0 = none) ∧ Hd (u.1 231 20 = 0 → ∃ M, eMw T k v M00 0 = some M ∧ MRr M k v u ∧ gb5 u)))) 0 0 (sF G) := by
  refine sEnter (by decide) (Nat.le_of_ble_eq_true rfl) ?_
  intro p e s m args below meth c Cx hr hlk hnm hW ls hl
  have Cx : sC G p m c cX12_tellAll 3 s args RX12 := Cx
  obtain ⟨hx, hb, hml, hown, hts⟩ := id Cx.1
  have hL : sL G [] := sL_nil
  have hl : lv_has ls 3 [(0, .ref (G.2.2.1 + 231))] := hl
  have hW0 := hW
  obtain ⟨K, hK⟩ : ∃ z, S.2.1 244 = z := ⟨_, rfl⟩
  obtain ⟨V, hV⟩ : ∃ z, S.2.1 247 = z := ⟨_, rfl⟩
  obtain ⟨Fm, hFm⟩ : ∃ z, S.2.1 245 = z := ⟨_, rfl⟩
  obtain ⟨Wd, hWd⟩ : ∃ z, S.2.1 246 = z := ⟨_, rfl⟩
  have hkk : kr K V T = k := (by rw [← hK, ← hV]; exact hkr.1)
  have hTb := hkr.2.1
  obtain ⟨pz, hpz0⟩ : ∃ pz : Int, S.1 231 24 = pz := ⟨_, rfl⟩
  have hkT1 := hkT
  have join_155 : ∀ (S155 : sS)  (H : Heap) (locs : List Loc) (ls : Array Slot), (dX G S155) → (Fr S S155 (pl [231, 248, 249, 250, 251, 252, 253, 254, 255, 256, 257, 258])) → (Fr S S155 (pl [231, 248, 249, 250, 251, 252, 253, 254])) → (FF S S155 (fl [20, 21, 24, 25, 32, 33, 34, 35, 36, 40, 42, 43])) → (FF S S155 (fl [20, 21, 24, 25, 32, 33, 34, 35, 36, 42])) → (S155.1 231 20 = 0) → (Hd (∃ M, eMw T k v M00 0 = eMw T k v M (S155.1 231 24) ∧ MRr M k v S155 ∧ 0 ≤ S155.1 231 24 ∧ G1r T k (S155.1 231 24) ∧ ¬ (k (S155.1 231 24) = 6 ∨ k (S155.1 231 24) = 7 ∨ k (S155.1 231 24) = 8))) → sW G 294 S155 H → sL G locs → lv_has ls 3 [(0, .ref (G.2.2.1 + 231))] → W p l e (rmk 138 0 0) s m args below meth c H locs 0 0 (MQ below (sQv G 294 (fun u => dX G u ∧ Fr S u (pl [231, 248, 249, 250, 251, 252, 253, 254, 255, 256, 257, 258]) ∧ FF S u (fl [20, 21, 24, 25, 32, 33, 34, 35, 36, 40, 42, 43]) ∧ (Hd (RBu u) ∧ Hd (u.1 231 20 ≠ 0 → eMw T k v M00 0 = none) ∧ Hd (u.1 231 20 = 0 → ∃ M, eMw T k v M00 0 = some M ∧ MRr M k v u ∧ gb5 u)))) args s 0 0 (sF G)) (F0 m 155 ls []) := by
    intro S155  H locs ls hI155 hFm155 hL155_ hGm155 gL155_ h155 hM155 hW hL hl
    obtain ⟨M, eM, hM, hc0, hG, hn9⟩ := hM155
    obtain ⟨hk45, qg, ⟨q1, hgu, hk15, hqq⟩, hG2⟩ := hG.g hn9
    have hkl := hkr.lt (c := k (S155.1 231 24)) rfl hG.k
    obtain ⟨m33, m34, m35, m36, m42, mds⟩ := hM.2.2
    have hN1 := hM.1.1; have hgl := ogU_inc (ogF_inc 30) _ _ hgu
    have hq1T : q1 + 1 ≤ T - 1 := (by have hq15 := hk15; have y := hkr.lt hq15 (by decide); have z : q1 ≠ T - 1 := (fun z => by rw [z] at hq15; have x : k (T - 1) ≤ 1 := hkT; omega); omega)
    have hks : k (S155.1 231 24) ≠ 6 ∧ k (S155.1 231 24) ≠ 7 ∧ k (S155.1 231 24) ≠ 8 ∧ k (S155.1 231 24) ≠ 10 := (by omega)
    refine lv_aload_n hx hb dX12_tellAll_155 rfl (lv_at hl 0 rfl) ?_
    refine lv_aload_n hx hb dX12_tellAll_156 rfl (lv_at hl 0 rfl) ?_
    refine lv_iconst (v := iv 0) hx hb dX12_tellAll_157 (by decide) ?_
    have q_1 : (-2147483648) ≤ S155.1 231 24 ∧ S155.1 231 24 ≤ 2147483647 := hI155.fi 24
    refine sBi (sV (As := [.int (iv 0)]) (rest := [.ref (G.2.2.1 + 231)]) (k := 231) Cx (s_X12_isWord l G S155 (sv := 0) (K := K) (V := V) (pz := S155.1 231 24) hI155 (by omega) ((funext fun j => (hL155_ 244 rfl).2.1 j : S155.2.1 244 = S.2.1 244).trans hK) ((funext fun j => (hL155_ 247 rfl).2.1 j : S155.2.1 247 = S.2.1 247).trans hV) (by omega) (by omega)) (c_X12_325 Cx rfl rfl (rmk_ok (by omega) (by decide))) hW (by decide) rfl rfl rfl hl.1 rfl (Nat.le_of_ble_eq_true rfl) dX12_tellAll_158 ⟨Nat.le_of_ble_eq_true rfl, Nat.le_of_ble_eq_true rfl⟩) hL (fun r_4 u_2 H locs k_3 hW hL => ?_)
    obtain ⟨eu_2, xu_2⟩ := k_3
    rw [eu_2] at hW
    have tu_2a : Hd (r_4 = 1 → k (S155.1 231 24) = 4) := (fun h => by rw [← hkk]; exact ((wd_m (w := 0) (by decide)) K V T _).1 (by omega) (by omega) (xu_2.2.1 h))
    have tu_2b : Hd (r_4 ≠ 1 → k (S155.1 231 24) ≠ 4) := (fun h z => xu_2.2.2 h (((wd_m (w := 0) (by decide)) K V T _).2 (by rw [hkk]; exact z)))
    refine p_X12_394 Cx hW hL (k := 231) (by decide) rfl (by omega) dX12_tellAll_161 (fun H locs hW hL => ?_)
    have F_5 : Fr S (uF S155 231 40 r_4) (pl [231, 248, 249, 250, 251, 252, 253, 254, 255, 256, 257, 258]) := hFm155.F rfl
    have F_6 : Fr S (uF S155 231 40 r_4) (pl [231, 248, 249, 250, 251, 252, 253, 254]) := hL155_.F rfl
    have g_7 : FF S (uF S155 231 40 r_4) (fl [20, 21, 24, 25, 32, 33, 34, 35, 36, 40, 42, 43]) := FF.F hGm155 rfl
    have i_8 : dX G (uF S155 231 40 r_4) := hI155.F (i := 40) (show 0 ≤ r_4 ∧ r_4 ≤ 1 from ⟨by omega, by omega⟩)
    refine lv_aload_n hx hb dX12_tellAll_164 rfl (lv_at hl 0 rfl) ?_
    refine lv_dup hx hb dX12_tellAll_165 rfl ?_
    refine g_X12_315 Cx hW (k := 231) (by decide) rfl (v := S155.1 231 24) (uF_ne (fun h => absurd h.2 (by decide))) dX12_tellAll_166 ?_
    refine lv_iconst (v := iv 1) hx hb dX12_tellAll_169 (by decide) ?_
    refine r_iadd hx hb dX12_tellAll_170 ?_
    refine p_X12_315 Cx hW hL (k := 231) (by decide) rfl dX12_tellAll_171 (fun H locs hW hL => ?_)
    have F_9 : Fr S (uF (uF S155 231 40 r_4) 231 24 ((S155.1 231 24) + 1)) (pl [231, 248, 249, 250, 251, 252, 253, 254, 255, 256, 257, 258]) := F_5.F rfl
    have F_10 : Fr S (uF (uF S155 231 40 r_4) 231 24 ((S155.1 231 24) + 1)) (pl [231, 248, 249, 250, 251, 252, 253, 254]) := F_6.F rfl
    have g_11 : FF S (uF (uF S155 231 40 r_4) 231 24 ((S155.1 231 24) + 1)) (fl [20, 21, 24, 25, 32, 33, 34, 35, 36, 40, 42, 43]) := FF.F g_7 rfl
    have i_12 : dX G (uF (uF S155 231 40 r_4) 231 24 ((S155.1 231 24) + 1)) := i_8.F (i := 24) (show (-2147483648) ≤ (S155.1 231 24) + 1 ∧ (S155.1 231 24) + 1 ≤ 2147483647 from ⟨by omega, by omega⟩)
    refine lv_aload_n hx hb dX12_tellAll_174 rfl (lv_at hl 0 rfl) ?_
    refine lv_iconst (v := iv 0) hx hb dX12_tellAll_175 (by decide) ?_
    have q_13 : (-2147483648) ≤ S155.1 231 20 ∧ S155.1 231 20 ≤ 2147483647 := hI155.fi 20
    have lk_14 : (uF (uF S155 231 40 r_4) 231 24 ((S155.1 231 24) + 1)).1 231 20 = S155.1 231 20 := (uF_ne (fun h => absurd h.2 (by decide))).trans (uF_ne (fun h => absurd h.2 (by decide)))
    have lk_15 : (uF (uF S155 231 40 r_4) 231 24 ((S155.1 231 24) + 1)).1 231 24 = (S155.1 231 24) + 1 := uF_on
    have q_16 : (-2147483648) ≤ S155.1 231 42 ∧ S155.1 231 42 ≤ 2147483647 := hI155.fi 42
    have lk_17 : (uF (uF S155 231 40 r_4) 231 24 ((S155.1 231 24) + 1)).1 231 42 = S155.1 231 42 := (uF_ne (fun h => absurd h.2 (by decide))).trans (uF_ne (fun h => absurd h.2 (by decide)))
    have nr_18 : NRr M.1 k v (uF (uF S155 231 40 r_4) 231 24 ((S155.1 231 24) + 1)) := hM.1.of ((uF_ne (fun h => absurd h.2 (by decide))).trans (uF_ne (fun h => absurd h.2 (by decide)))) (funext fun j => (uF_a).trans (uF_a)) (funext fun j => (uF_a).trans (uF_a)) (funext fun j => (uF_a).trans (uF_a)) (funext fun j => (uF_a).trans (uF_a)) (funext fun j => (uF_a).trans (uF_a)) (funext fun j => (uF_a).trans (uF_a))
    have kr_19 : KRr (uF (uF S155 231 40 r_4) 231 24 ((S155.1 231 24) + 1)) k v T := hkr.of (funext fun j => (uF_a).trans ((uF_a).trans ((hL155_ 243 rfl).2.1 j))) (funext fun j => (uF_a).trans ((uF_a).trans ((hL155_ 244 rfl).2.1 j))) (funext fun j => (uF_a).trans ((uF_a).trans ((hL155_ 245 rfl).2.1 j))) (funext fun j => (uF_a).trans ((uF_a).trans ((hL155_ 246 rfl).2.1 j))) (funext fun j => (uF_a).trans ((uF_a).trans ((hL155_ 247 rfl).2.1 j)))
    refine sBv (sV (As := [.int (iv 0)]) (rest := []) (k := 231) Cx (exU l G (uF (uF S155 231 40 r_4) 231 24 ((S155.1 231 24) + 1)) M.1 k v T (S155.1 231 24 + 1) q1 0 i_12 ⟨nr_18, hM.2.1, hTV, kr_19, (by omega), (by omega), (by omega), ⟨by omega, by omega⟩⟩ (by omega) (by omega) (by omega) hgu) (c_X12_398 Cx rfl rfl (rmk_ok (by omega) (by decide))) hW (by decide) rfl rfl rfl hl.1 rfl (Nat.le_of_ble_eq_true rfl) dX12_tellAll_176 ⟨Nat.le_of_ble_eq_true rfl, Nat.le_of_ble_eq_true rfl⟩) hL (fun u_20 H locs k_21 hW hL => ?_)
    obtain ⟨iu_20, fu_20, gu_20, xu_20, yu_20⟩ := k_21
    have F_22 := F_9.trans (fu_20.to (pl_sub (by decide)))
    have g_23 : FF S u_20 (fl [20, 21, 24, 25, 32, 33, 34, 35, 36, 40, 42, 43]) := FF.trans g_11 (FF.to gu_20 (fl_sub (by decide)))
    have hvb : Hd (u_20.1 231 20 = 0 → ∀ t, 0 ≤ t → t < 13 → -99999 ≤ u_20.2.2.1 257 t ∧ u_20.2.2.1 257 t ≤ 99999) := (fun h t a b => by obtain ⟨V1, e1, w1, b1, l1, c1, n1⟩ := xu_20.2.1 h; have y : -99999 ≤ u_20.2.2.1 257 (0 + t) ∧ u_20.2.2.1 257 (0 + t) ≤ 99999 := (b1.eq w1) t a b; rw [Int.zero_add] at y; exact y)
    refine lv_iconst (v := iv 0) hx hb dX12_tellAll_179 (by decide) ?_
    refine lv_istore_n (lv' := [(1, .int (iv 0)), (0, .ref (G.2.2.1 + 231))]) hx hb dX12_tellAll_180 rfl hl (by decide) rfl (fun ls hl => ?_)
    have loop_181 : ∀ (fuel : Nat) (S181 : sS) (kk : Int) (H : Heap) (locs : List Loc) (ls : Array Slot), (13 - kk).toNat < fuel → (dX G S181) → (Fr S S181 (pl [231, 248, 249, 250, 251, 252, 253, 254, 255, 256, 257, 258])) → (Fr u_20 S181 (pl [256])) → (FF S S181 (fl [20, 21, 24, 25, 32, 33, 34, 35, 36, 40, 42, 43])) → (FF u_20 S181 (fl [])) → (0 ≤ kk ∧ kk ≤ 13) → (Hd (u_20.1 231 20 = 0 → ∀ t, 0 ≤ t → t < kk → -99999 ≤ S181.2.2.1 256 t ∧ S181.2.2.1 256 t ≤ 99999)) → sW G 294 S181 H → sL G locs → lv_has ls 3 [(1, .int (iv kk)), (0, .ref (G.2.2.1 + 231))] → W p l e (rmk 138 0 0) s m args below meth c H locs 0 0 (MQ below (sQv G 294 (fun u => dX G u ∧ Fr S u (pl [231, 248, 249, 250, 251, 252, 253, 254, 255, 256, 257, 258]) ∧ FF S u (fl [20, 21, 24, 25, 32, 33, 34, 35, 36, 40, 42, 43]) ∧ (Hd (RBu u) ∧ Hd (u.1 231 20 ≠ 0 → eMw T k v M00 0 = none) ∧ Hd (u.1 231 20 = 0 → ∃ M, eMw T k v M00 0 = some M ∧ MRr M k v u ∧ gb5 u)))) args s 0 0 (sF G)) (F0 m 181 ls []) := by
      intro fuel
      induction fuel with
      | zero => intro S181 kk H locs ls hmeas hI181 hFm181 hL181_ hGm181 gL181_ hk hG181 hW hL hl; exact absurd hmeas (Nat.not_lt_zero _)
      | succ fuel ih_181 =>
        intro S181 kk H locs ls hmeas hI181 hFm181 hL181_ hGm181 gL181_ hk hG181 hW hL hl
        refine lv_iload_n hx hb dX12_tellAll_181 rfl (lv_at hl 0 rfl) ?_
        refine lv_bipush (v := iv 12) hx hb dX12_tellAll_182 (by decide) ?_
        refine r_icmp_gt (tgt := 222) hx hb ⟨(by omega), (by omega)⟩ ⟨(by omega), (by omega)⟩ dX12_tellAll_184 (by decide) (fun c_24 => ?_) (fun c_24 => ?_)
        · refine lv_aload_n hx hb dX12_tellAll_222 rfl (lv_at hl 1 rfl) ?_
          refine lv_dup hx hb dX12_tellAll_223 rfl ?_
          have q_25 : (-2147483648) ≤ u_20.1 231 24 ∧ u_20.1 231 24 ≤ 2147483647 := iu_20.fi 24
          refine g_X12_315 Cx hW (k := 231) (by decide) rfl (v := u_20.1 231 24) (gL181_ 24 rfl) dX12_tellAll_224 ?_
          refine lv_iconst (v := iv 1) hx hb dX12_tellAll_227 (by decide) ?_
          refine r_iadd hx hb dX12_tellAll_228 ?_
          refine p_X12_315 Cx hW hL (k := 231) (by decide) rfl dX12_tellAll_229 (fun H locs hW hL => ?_)
          have F_26 : Fr S (uF S181 231 24 ((u_20.1 231 24) + 1)) (pl [231, 248, 249, 250, 251, 252, 253, 254, 255, 256, 257, 258]) := hFm181.F rfl
          have g_27 : FF S (uF S181 231 24 ((u_20.1 231 24) + 1)) (fl [20, 21, 24, 25, 32, 33, 34, 35, 36, 40, 42, 43]) := FF.F hGm181 rfl
          have i_28 : dX G (uF S181 231 24 ((u_20.1 231 24) + 1)) := hI181.F (i := 24) (show (-2147483648) ≤ (u_20.1 231 24) + 1 ∧ (u_20.1 231 24) + 1 ≤ 2147483647 from ⟨by omega, by omega⟩)
          have loop_232 : ∀ (fuel : Nat) (S232 : sS)  (H : Heap) (locs : List Loc) (ls : Array Slot), (if S232.1 231 20 = 0 then (T - S232.1 231 24).toNat + 1 else 0) < fuel → (dX G S232) → (Fr S S232 (pl [231, 248, 249, 250, 251, 252, 253, 254, 255, 256, 257, 258])) → (Fr ((uF S181 231 24 ((u_20.1 231 24) + 1))) S232 (pl [231, 248, 249, 250, 251, 252, 255, 257, 258])) → (FF S S232 (fl [20, 21, 24, 25, 32, 33, 34, 35, 36, 40, 42, 43])) → (FF ((uF S181 231 24 ((u_20.1 231 24) + 1))) S232 (fl [20, 21, 24, 25, 36, 42, 43])) → (Hd (S232.1 231 20 = 0 → ∃ M, eMw T k v M00 0 = eMw T k v M (S232.1 231 24) ∧ MRr M k v S232 ∧ 0 ≤ S232.1 231 24 ∧ G2r T k (S232.1 231 24) ∧ S232.1 231 24 ≤ T - 1 ∧ u_20.1 231 20 = 0)) → (Hd (S232.1 231 20 ≠ 0 → eMw T k v M00 0 = none)) → (Hd (RBu S232)) → sW G 294 S232 H → sL G locs → lv_has ls 3 [(0, .ref (G.2.2.1 + 231))] → W p l e (rmk 138 0 0) s m args below meth c H locs 0 0 (MQ below (sQv G 294 (fun u => dX G u ∧ Fr S u (pl [231, 248, 249, 250, 251, 252, 253, 254, 255, 256, 257, 258]) ∧ FF S u (fl [20, 21, 24, 25, 32, 33, 34, 35, 36, 40, 42, 43]) ∧ (Hd (RBu u) ∧ Hd (u.1 231 20 ≠ 0 → eMw T k v M00 0 = none) ∧ Hd (u.1 231 20 = 0 → ∃ M, eMw T k v M00 0 = some M ∧ MRr M k v u ∧ gb5 u)))) args s 0 0 (sF G)) (F0 m 232 ls []) := by
            intro fuel
            induction fuel with
            | zero => intro S232  H locs ls hmeas hI232 hFm232 hL232_ hGm232 gL232_ hOK2 hNO2 hB2 hW hL hl; exact absurd hmeas (Nat.not_lt_zero _)
            | succ fuel ih_232 =>
              intro S232  H locs ls hmeas hI232 hFm232 hL232_ hGm232 gL232_ hOK2 hNO2 hB2 hW hL hl
              have hm232 := hmeas
              refine lv_aload_n hx hb dX12_tellAll_232 rfl (lv_at hl 0 rfl) ?_
              have q_29 : (-2147483648) ≤ S232.1 231 20 ∧ S232.1 231 20 ≤ 2147483647 := hI232.fi 20
              refine g_X12_270 Cx hW (k := 231) (by decide) rfl (v := S232.1 231 20) rfl dX12_tellAll_233 ?_
              refine r_if_ne (tgt := 255) hx hb ⟨(by omega), (by omega)⟩ dX12_tellAll_236 (by decide) (fun c_30 => ?_) (fun c_30 => ?_)
              · exact sVret Cx hr hlk hW hL ⟨hI232, hFm232, hGm232, ⟨hB2, (fun h => hNO2 h), (fun h => absurd h (by omega))⟩⟩ dX12_tellAll_255
              · obtain ⟨M2, eM2, hM2, hc2, hG3, hcT, hue⟩ := hOK2 (by omega)
                refine lv_aload_n hx hb dX12_tellAll_239 rfl (lv_at hl 0 rfl) ?_
                refine lv_bipush (v := iv 6) hx hb dX12_tellAll_240 (by decide) ?_
                have q_31 : (-2147483648) ≤ S232.1 231 24 ∧ S232.1 231 24 ≤ 2147483647 := hI232.fi 24
                refine sBi (sV (As := [.int (iv 6)]) (rest := []) (k := 231) Cx (s_X12_isWord l G S232 (sv := 6) (K := K) (V := V) (pz := S232.1 231 24) hI232 (by omega) ((funext fun j => ((hL232_ 244 rfl).2.1 j).trans ((uF_a).trans (((hL181_ 244 rfl).2.1 j).trans (((fu_20 244 rfl).2.1 j).trans ((uF_a).trans ((uF_a).trans ((hL155_ 244 rfl).2.1 j)))))) : S232.2.1 244 = S.2.1 244).trans hK) ((funext fun j => ((hL232_ 247 rfl).2.1 j).trans ((uF_a).trans (((hL181_ 247 rfl).2.1 j).trans (((fu_20 247 rfl).2.1 j).trans ((uF_a).trans ((uF_a).trans ((hL155_ 247 rfl).2.1 j)))))) : S232.2.1 247 = S.2.1 247).trans hV) (by omega) (by omega)) (c_X12_325 Cx rfl rfl (rmk_ok (by omega) (by decide))) hW (by decide) rfl rfl rfl hl.1 rfl (Nat.le_of_ble_eq_true rfl) dX12_tellAll_242 ⟨Nat.le_of_ble_eq_true rfl, Nat.le_of_ble_eq_true rfl⟩) hL (fun r_34 u_32 H locs k_33 hW hL => ?_)
                obtain ⟨eu_32, xu_32⟩ := k_33
                rw [eu_32] at hW
                have tu_32a : Hd (r_34 = 1 → k (S232.1 231 24) = 10) := (fun h => by rw [← hkk]; exact ((wd_m (w := 6) (by decide)) K V T _).1 (by omega) (by omega) (xu_32.2.1 h))
                have tu_32b : Hd (r_34 ≠ 1 → k (S232.1 231 24) ≠ 10) := (fun h z => xu_32.2.2 h (((wd_m (w := 6) (by decide)) K V T _).2 (by rw [hkk]; exact z)))
                refine r_if_eq (tgt := 255) hx hb ⟨(by omega), (by omega)⟩ dX12_tellAll_245 (by decide) (fun c_35 => ?_) (fun c_35 => ?_)
                · exact sVret Cx hr hlk hW hL ⟨hI232, hFm232, hGm232, ⟨hB2, (fun h => hNO2 h), (fun _ => ⟨M2, (by rw [eM2]; exact eMw_z (hG3.e (tu_32b (by omega)))), hM2, (fun t a b => by rw [show S232.2.2.1 256 t = S181.2.2.1 256 t from ((hL232_ 256 rfl).2.2.1 t).trans (uF_l)]; exact hG181 hue t a (by omega))⟩)⟩⟩ dX12_tellAll_255
                · have kc : k (S232.1 231 24) = 10 := tu_32a (by omega)
                  obtain ⟨qr, hgr, hk21, hk35, hG4⟩ := hG3.r hkr.z kc
                  have hqr : qr ≤ T - 1 ∧ S232.1 231 24 < qr := (by obtain ⟨b, a1, b1, hri, hk24, hg1, hks_, hg2, hk15_, hqb⟩ := hgr; have ha1 := ogU_inc (ogF_inc 30) _ _ hg1; have hb1 := ogU_inc (ogF_inc 30) _ _ hg2; have y := hkr.lt hk15_ (by decide); have z : b1 ≠ T - 1 := (fun z => by rw [z] at hk15_; have x : k (T - 1) ≤ 1 := hkT; omega); have hbl : S232.1 231 24 + 2 ≤ b := (by rcases hri with z | z; (have z2 := z.2; omega); (have z2 := z.2; omega)); omega)
                  refine lv_aload_n hx hb dX12_tellAll_248 rfl (lv_at hl 0 rfl) ?_
                  have kr_36 : KRr S232 k v T := hkr.of (funext fun j => ((hL232_ 243 rfl).2.1 j).trans ((uF_a).trans (((hL181_ 243 rfl).2.1 j).trans (((fu_20 243 rfl).2.1 j).trans ((uF_a).trans ((uF_a).trans ((hL155_ 243 rfl).2.1 j))))))) (funext fun j => ((hL232_ 244 rfl).2.1 j).trans ((uF_a).trans (((hL181_ 244 rfl).2.1 j).trans (((fu_20 244 rfl).2.1 j).trans ((uF_a).trans ((uF_a).trans ((hL155_ 244 rfl).2.1 j))))))) (funext fun j => ((hL232_ 245 rfl).2.1 j).trans ((uF_a).trans (((hL181_ 245 rfl).2.1 j).trans (((fu_20 245 rfl).2.1 j).trans ((uF_a).trans ((uF_a).trans ((hL155_ 245 rfl).2.1 j))))))) (funext fun j => ((hL232_ 246 rfl).2.1 j).trans ((uF_a).trans (((hL181_ 246 rfl).2.1 j).trans (((fu_20 246 rfl).2.1 j).trans ((uF_a).trans ((uF_a).trans ((hL155_ 246 rfl).2.1 j))))))) (funext fun j => ((hL232_ 247 rfl).2.1 j).trans ((uF_a).trans (((hL181_ 247 rfl).2.1 j).trans (((fu_20 247 rfl).2.1 j).trans ((uF_a).trans ((uF_a).trans ((hL155_ 247 rfl).2.1 j)))))))
                  refine sBv (sV (As := []) (rest := []) (k := 231) Cx (e_X12_tellRow l G S232 (pz := S232.1 231 24) (q := qr) hI232 kr_36 hM2 hTV (by omega) (by omega) hgr hk21 hk35 (by omega) hB2) (c_X12_401 Cx rfl rfl (rmk_ok (by omega) (by decide))) hW (by decide) rfl rfl rfl hl.1 rfl (Nat.le_of_ble_eq_true rfl) dX12_tellAll_249 ⟨Nat.le_of_ble_eq_true rfl, Nat.le_of_ble_eq_true rfl⟩) hL (fun u_37 H locs k_38 hW hL => ?_)
                  obtain ⟨iu_37, fu_37, gu_37, xu_37⟩ := k_38
                  have F_39 := hFm232.trans (fu_37.to (pl_sub (by decide)))
                  have F_40 := hL232_.trans fu_37
                  have g_41 : FF S u_37 (fl [20, 21, 24, 25, 32, 33, 34, 35, 36, 40, 42, 43]) := FF.trans hGm232 (FF.to gu_37 (fl_sub (by decide)))
                  have g_42 : FF ((uF S181 231 24 ((u_20.1 231 24) + 1))) u_37 (fl [20, 21, 24, 25, 36, 42, 43]) := FF.trans gL232_ (FF.to gu_37 (fl_sub (by decide)))
                  refine lv_goto (tgt := 232) hx hb dX12_tellAll_252 (by decide) ?_
                  have q_43 : (-2147483648) ≤ u_37.1 231 20 ∧ u_37.1 231 20 ≤ 2147483647 := iu_37.fi 20
                  have q_44 : (-2147483648) ≤ u_37.1 231 24 ∧ u_37.1 231 24 ≤ 2147483647 := iu_37.fi 24
                  exact ih_232 u_37  _ _ _ (by rw [if_pos (show S232.1 231 20 = 0 by omega)] at hm232; split; (rename_i hh; have cq := (xu_37.2.2 hh); obtain ⟨_, _, _, cq⟩ := cq; omega); omega) iu_37 F_39 F_40 g_41 g_42 (fun h => by obtain ⟨M3, e3, m3, c3⟩ := xu_37.2.2 h; exact ⟨M3, (by rw [eM2, eMw_s hkr.z hM2.1.1.2.1 (by omega) ((eSt_10 kc).trans e3), c3]), m3, (by omega), (by rw [c3]; exact hG4), (by omega), hue⟩) (fun h => by rw [eM2]; exact eMw_n (by omega) ((eSt_10 kc).trans (xu_37.2.1 h))) xu_37.1 hW hL (lv_sub hl [0] rfl)
          have q_45 : (-2147483648) ≤ u_20.1 231 20 ∧ u_20.1 231 20 ≤ 2147483647 := iu_20.fi 20
          have lk_46 : (uF S181 231 24 ((u_20.1 231 24) + 1)).1 231 20 = u_20.1 231 20 := (uF_ne (fun h => absurd h.2 (by decide))).trans (gL181_ 20 rfl)
          have lk_47 : (uF S181 231 24 ((u_20.1 231 24) + 1)).1 231 24 = (u_20.1 231 24) + 1 := uF_on
          exact loop_232 (_ + 1) (uF S181 231 24 ((u_20.1 231 24) + 1))  _ _ _ (Nat.lt_succ_self _) i_28 F_26 Fr.rf g_27 FF.rf (fun h => by have e9 := (show (uF S181 231 24 ((u_20.1 231 24) + 1)).1 231 20 = u_20.1 231 20 from (uF_ne (fun h => absurd h.2 (by decide))).trans (gL181_ 20 rfl)); obtain ⟨V1, e1, w1, b1, l1, c1, n1⟩ := xu_20.2.1 (by omega); rw [show (uF (uF S155 231 40 r_4) 231 24 ((S155.1 231 24) + 1)).1 231 42 = M.2.2.2.2.2.2.2 by omega] at e1; have e24 : (uF S181 231 24 ((u_20.1 231 24) + 1)).1 231 24 = q1 + 1 := (by have y := (show (uF S181 231 24 ((u_20.1 231 24) + 1)).1 231 24 = (u_20.1 231 24) + 1 from uF_on); omega); exact ⟨(M.1, M.2.1, M.2.2.1, M.2.2.2.1, M.2.2.2.2.1, M.2.2.2.2.2.1, (if k (S155.1 231 24) = 4 then 1 else 0), u_20.1 231 42), (by rw [eM, eMw_s hkr.z hM.1.1.2.1 (by omega) ((eSt_g hks).trans (eDg_s rfl e1)), e24]), hM.goal (n1.of ((uF_ne (fun h => absurd h.2 (by decide))).trans (gL181_ 25 rfl)) (funext fun j => (uF_a).trans ((hL181_ 248 rfl).2.1 j)) (funext fun j => (uF_a).trans ((hL181_ 249 rfl).2.1 j)) (funext fun j => (uF_a).trans ((hL181_ 250 rfl).2.1 j)) (funext fun j => (uF_a).trans ((hL181_ 251 rfl).2.1 j)) (funext fun j => (uF_a).trans ((hL181_ 252 rfl).2.1 j)) (funext fun j => (uF_a).trans ((hL181_ 253 rfl).2.1 j))) ((uF_ne (fun h => absurd h.2 (by decide))).trans ((gL181_ 33 rfl).trans ((gu_20 33 rfl).trans ((uF_ne (fun h => absurd h.2 (by decide))).trans (uF_ne (fun h => absurd h.2 (by decide))))))) ((uF_ne (fun h => absurd h.2 (by decide))).trans ((gL181_ 34 rfl).trans ((gu_20 34 rfl).trans ((uF_ne (fun h => absurd h.2 (by decide))).trans (uF_ne (fun h => absurd h.2 (by decide))))))) ((uF_ne (fun h => absurd h.2 (by decide))).trans ((gL181_ 35 rfl).trans ((gu_20 35 rfl).trans ((uF_ne (fun h => absurd h.2 (by decide))).trans (uF_ne (fun h => absurd h.2 (by decide))))))) ((uF_ne (fun h => absurd h.2 (by decide))).trans ((gL181_ 36 rfl).trans ((gu_20 36 rfl).trans ((uF_ne (fun h => absurd h.2 (by decide))).trans (uF_ne (fun h => absurd h.2 (by decide))))))) ⟨(show (uF S181 231 24 ((u_20.1 231 24) + 1)).1 231 42 = u_20.1 231 42 from (uF_ne (fun h => absurd h.2 (by decide))).trans (gL181_ 42 rfl)), l1⟩, (by omega), (by rw [e24, ← hqq]; exact hG2), (by omega)⟩) (fun h => by have e9 := (show (uF S181 231 24 ((u_20.1 231 24) + 1)).1 231 20 = u_20.1 231 20 from (uF_ne (fun h => absurd h.2 (by decide))).trans (gL181_ 20 rfl)); have q9 := xu_20.2.2 (by omega); rw [show (uF (uF S155 231 40 r_4) 231 24 ((S155.1 231 24) + 1)).1 231 42 = M.2.2.2.2.2.2.2 by omega] at q9; rw [eM]; exact eMw_n (by omega) ((eSt_g hks).trans (eDg_n rfl q9))) (fun x => by rw [show (uF S181 231 24 ((u_20.1 231 24) + 1)).2.2.1 255 x = S.2.2.1 255 x from (uF_l).trans (((hL181_ 255 rfl).2.2.1 x).trans (((fu_20 255 rfl).2.2.1 x).trans ((uF_l).trans ((uF_l).trans ((hL155_ 255 rfl).2.2.1 x)))))]; exact hRB x) hW hL (lv_sub hl [1] rfl)
        · refine lv_aload_n hx hb dX12_tellAll_187 rfl (lv_at hl 1 rfl) ?_
          refine g_X12_85 Cx hW (k := 231) (by decide) rfl (v := .ref (G.2.2.1 + 256)) (rd_39 hI181) dX12_tellAll_188 ?_
          refine lv_iload_n hx hb dX12_tellAll_191 rfl (lv_at hl 0 rfl) ?_
          refine lv_aload_n hx hb dX12_tellAll_192 rfl (lv_at hl 1 rfl) ?_
          refine g_X12_394 Cx hW (k := 231) (by decide) rfl (v := r_4) ((gL181_ 40 rfl).trans ((gu_20 40 rfl).trans ((uF_ne (fun h => absurd h.2 (by decide))).trans (uF_on)))) dX12_tellAll_193 ?_
          refine r_if_eq (tgt := 208) hx hb ⟨(by omega), (by omega)⟩ dX12_tellAll_196 (by decide) (fun c_48 => ?_) (fun c_48 => ?_)
          · refine lv_aload_n hx hb dX12_tellAll_208 rfl (lv_at hl 1 rfl) ?_
            refine g_X12_88 Cx hW (k := 231) (by decide) rfl (v := .ref (G.2.2.1 + 257)) (rd_41 hI181) dX12_tellAll_209 ?_
            refine lv_iload_n hx hb dX12_tellAll_212 rfl (lv_at hl 0 rfl) ?_
            refine rLald Cx hW (k := 257) (by decide) rfl (by decide) (by omega) (by omega) dX12_tellAll_213 ?_
            have q_49 : -9223372036854775808 ≤ u_20.2.2.1 257 kk ∧ u_20.2.2.1 257 kk ≤ 9223372036854775807 := iu_20.li 257 kk
            refine r_j (b := u_20.2.2.1 257 kk) ((hL181_ 257 rfl).2.2.1 kk) ?_
            refine r_lneg hx hb dX12_tellAll_214 ?_
            obtain ⟨zg, ezg, lzg, hzg, fzg⟩ := jv_h (-(u_20.2.2.1 257 kk))
            rw [ezg]
            refine rLast Cx hW hL (k := 256) (by decide) rfl (by decide) (by omega) (by omega) dX12_tellAll_215 (fun H locs hW hL => ?_)
            have F_50 : Fr S (uL S181 256 kk zg) (pl [231, 248, 249, 250, 251, 252, 253, 254, 255, 256, 257, 258]) := hFm181.L rfl
            have F_51 : Fr u_20 (uL S181 256 kk zg) (pl [256]) := hL181_.L rfl
            have i_52 : dX G (uL S181 256 kk zg) := hI181.L ⟨by omega, by omega⟩
            refine lv_iinc (v := iv (kk + 1)) (lv' := [(1, .int (iv (kk + 1))), (0, .ref (G.2.2.1 + 231))]) hx hb dX12_tellAll_216 hl (k := 0) rfl ((Int32.ofInt_add _ _).symm) (by decide) rfl (fun ls hl => ?_)
            refine lv_goto (tgt := 181) hx hb dX12_tellAll_219 (by decide) ?_
            exact ih_181 (uL S181 256 kk zg) (kk + 1) _ _ _ (by omega) i_52 F_50 F_51 hGm181 gL181_ (by omega) (fun h t a b => by have y := hvb h kk (by omega) (by omega); have y3 := fzg (by omega) (by omega); by_cases e : t = kk; (rw [e, uL_on]; omega); rw [uL_ne (fun h => e h.2)]; exact hG181 h t a (by omega)) hW hL (lv_sub hl [0, 1] rfl)
          · refine lv_aload_n hx hb dX12_tellAll_199 rfl (lv_at hl 1 rfl) ?_
            refine g_X12_88 Cx hW (k := 231) (by decide) rfl (v := .ref (G.2.2.1 + 257)) (rd_41 hI181) dX12_tellAll_200 ?_
            refine lv_iload_n hx hb dX12_tellAll_203 rfl (lv_at hl 0 rfl) ?_
            refine rLald Cx hW (k := 257) (by decide) rfl (by decide) (by omega) (by omega) dX12_tellAll_204 ?_
            have q_53 : -9223372036854775808 ≤ u_20.2.2.1 257 kk ∧ u_20.2.2.1 257 kk ≤ 9223372036854775807 := iu_20.li 257 kk
            refine r_j (b := u_20.2.2.1 257 kk) ((hL181_ 257 rfl).2.2.1 kk) ?_
            refine lv_goto (tgt := 215) hx hb dX12_tellAll_205 (by decide) ?_
            refine rLast Cx hW hL (k := 256) (by decide) rfl (by decide) (by omega) (by omega) dX12_tellAll_215 (fun H locs hW hL => ?_)
            have F_54 : Fr S (uL S181 256 kk (u_20.2.2.1 257 kk)) (pl [231, 248, 249, 250, 251, 252, 253, 254, 255, 256, 257, 258]) := hFm181.L rfl
            have F_55 : Fr u_20 (uL S181 256 kk (u_20.2.2.1 257 kk)) (pl [256]) := hL181_.L rfl
            have i_56 : dX G (uL S181 256 kk (u_20.2.2.1 257 kk)) := hI181.L ⟨by omega, by omega⟩
            refine lv_iinc (v := iv (kk + 1)) (lv' := [(1, .int (iv (kk + 1))), (0, .ref (G.2.2.1 + 231))]) hx hb dX12_tellAll_216 hl (k := 0) rfl ((Int32.ofInt_add _ _).symm) (by decide) rfl (fun ls hl => ?_)
            refine lv_goto (tgt := 181) hx hb dX12_tellAll_219 (by decide) ?_
            exact ih_181 (uL S181 256 kk (u_20.2.2.1 257 kk)) (kk + 1) _ _ _ (by omega) i_56 F_54 F_55 hGm181 gL181_ (by omega) (fun h t a b => by have y := hvb h kk (by omega) (by omega); by_cases e : t = kk; (rw [e, uL_on]; omega); rw [uL_ne (fun h => e h.2)]; exact hG181 h t a (by omega)) hW hL (lv_sub hl [0, 1] rfl)
    exact loop_181 (_ + 1) u_20 0 _ _ _ (Nat.lt_succ_self _) iu_20 F_22 Fr.rf g_23 FF.rf (by omega) (fun _ t a b => absurd b (by omega)) hW hL (lv_sub hl [0, 1] rfl)
  refine lv_aload_n hx hb dX12_tellAll_0 rfl (lv_at hl 0 rfl) ?_
  refine lv_iconst (v := iv 0) hx hb dX12_tellAll_1 (by decide) ?_
  refine p_X12_315 Cx hW hL (k := 231) (by decide) rfl dX12_tellAll_2 (fun H locs hW hL => ?_)
  have F_57 : Fr S (uF S 231 24 0) (pl [231, 248, 249, 250, 251, 252, 253, 254, 255, 256, 257, 258]) := (Fr.rf : Fr S S (pl [231, 248, 249, 250, 251, 252, 253, 254, 255, 256, 257, 258])).F rfl
  have F_58 : Fr S (uF S 231 24 0) (pl [231, 248, 249, 250, 251, 252, 253, 254]) := (Fr.rf : Fr S S (pl [231, 248, 249, 250, 251, 252, 253, 254])).F rfl
  have g_59 : FF S (uF S 231 24 0) (fl [20, 21, 24, 25, 32, 33, 34, 35, 36, 40, 42, 43]) := FF.F FF.rf rfl
  have g_60 : FF S (uF S 231 24 0) (fl [20, 21, 24, 25, 32, 33, 34, 35, 36, 42]) := FF.F (FF.rf : FF S S (fl [20, 21, 24, 25, 32, 33, 34, 35, 36, 42])) rfl
  have i_61 : dX G (uF S 231 24 0) := hI.F (i := 24) (show (-2147483648) ≤ 0 ∧ 0 ≤ 2147483647 from ⟨by omega, by omega⟩)
  refine lv_aload_n hx hb dX12_tellAll_5 rfl (lv_at hl 0 rfl) ?_
  refine lv_iconst (v := iv 0) hx hb dX12_tellAll_6 (by decide) ?_
  refine p_X12_358 Cx hW hL (k := 231) (by decide) rfl dX12_tellAll_7 (fun H locs hW hL => ?_)
  have F_62 : Fr S (uF (uF S 231 24 0) 231 25 0) (pl [231, 248, 249, 250, 251, 252, 253, 254, 255, 256, 257, 258]) := F_57.F rfl
  have F_63 : Fr S (uF (uF S 231 24 0) 231 25 0) (pl [231, 248, 249, 250, 251, 252, 253, 254]) := F_58.F rfl
  have g_64 : FF S (uF (uF S 231 24 0) 231 25 0) (fl [20, 21, 24, 25, 32, 33, 34, 35, 36, 40, 42, 43]) := FF.F g_59 rfl
  have g_65 : FF S (uF (uF S 231 24 0) 231 25 0) (fl [20, 21, 24, 25, 32, 33, 34, 35, 36, 42]) := FF.F g_60 rfl
  have i_66 : dX G (uF (uF S 231 24 0) 231 25 0) := i_61.F (i := 25) (show (-2147483648) ≤ 0 ∧ 0 ≤ 2147483647 from ⟨by omega, by omega⟩)
  refine lv_aload_n hx hb dX12_tellAll_10 rfl (lv_at hl 0 rfl) ?_
  refine lv_iconst (v := iv 0) hx hb dX12_tellAll_11 (by decide) ?_
  refine p_X12_367 Cx hW hL (k := 231) (by decide) rfl dX12_tellAll_12 (fun H locs hW hL => ?_)
  have F_67 : Fr S (uF (uF (uF S 231 24 0) 231 25 0) 231 32 0) (pl [231, 248, 249, 250, 251, 252, 253, 254, 255, 256, 257, 258]) := F_62.F rfl
  have F_68 : Fr S (uF (uF (uF S 231 24 0) 231 25 0) 231 32 0) (pl [231, 248, 249, 250, 251, 252, 253, 254]) := F_63.F rfl
  have g_69 : FF S (uF (uF (uF S 231 24 0) 231 25 0) 231 32 0) (fl [20, 21, 24, 25, 32, 33, 34, 35, 36, 40, 42, 43]) := FF.F g_64 rfl
  have g_70 : FF S (uF (uF (uF S 231 24 0) 231 25 0) 231 32 0) (fl [20, 21, 24, 25, 32, 33, 34, 35, 36, 42]) := FF.F g_65 rfl
  have i_71 : dX G (uF (uF (uF S 231 24 0) 231 25 0) 231 32 0) := i_66.F (i := 32) (show (-2147483648) ≤ 0 ∧ 0 ≤ 2147483647 from ⟨by omega, by omega⟩)
  refine lv_aload_n hx hb dX12_tellAll_15 rfl (lv_at hl 0 rfl) ?_
  refine lv_iconst (v := iv 0) hx hb dX12_tellAll_16 (by decide) ?_
  refine p_X12_370 Cx hW hL (k := 231) (by decide) rfl dX12_tellAll_17 (fun H locs hW hL => ?_)
  have F_72 : Fr S (uF (uF (uF (uF S 231 24 0) 231 25 0) 231 32 0) 231 33 0) (pl [231, 248, 249, 250, 251, 252, 253, 254, 255, 256, 257, 258]) := F_67.F rfl
  have F_73 : Fr S (uF (uF (uF (uF S 231 24 0) 231 25 0) 231 32 0) 231 33 0) (pl [231, 248, 249, 250, 251, 252, 253, 254]) := F_68.F rfl
  have g_74 : FF S (uF (uF (uF (uF S 231 24 0) 231 25 0) 231 32 0) 231 33 0) (fl [20, 21, 24, 25, 32, 33, 34, 35, 36, 40, 42, 43]) := FF.F g_69 rfl
  have g_75 : FF S (uF (uF (uF (uF S 231 24 0) 231 25 0) 231 32 0) 231 33 0) (fl [20, 21, 24, 25, 32, 33, 34, 35, 36, 42]) := FF.F g_70 rfl
  have i_76 : dX G (uF (uF (uF (uF S 231 24 0) 231 25 0) 231 32 0) 231 33 0) := i_71.F (i := 33) (show (-2147483648) ≤ 0 ∧ 0 ≤ 2147483647 from ⟨by omega, by omega⟩)
  refine lv_aload_n hx hb dX12_tellAll_20 rfl (lv_at hl 0 rfl) ?_
  refine lv_iconst (v := iv 0) hx hb dX12_tellAll_21 (by decide) ?_
  refine p_X12_373 Cx hW hL (k := 231) (by decide) rfl dX12_tellAll_22 (fun H locs hW hL => ?_)
  have F_77 : Fr S (uF (uF (uF (uF (uF S 231 24 0) 231 25 0) 231 32 0) 231 33 0) 231 34 0) (pl [231, 248, 249, 250, 251, 252, 253, 254, 255, 256, 257, 258]) := F_72.F rfl
  have F_78 : Fr S (uF (uF (uF (uF (uF S 231 24 0) 231 25 0) 231 32 0) 231 33 0) 231 34 0) (pl [231, 248, 249, 250, 251, 252, 253, 254]) := F_73.F rfl
  have g_79 : FF S (uF (uF (uF (uF (uF S 231 24 0) 231 25 0) 231 32 0) 231 33 0) 231 34 0) (fl [20, 21, 24, 25, 32, 33, 34, 35, 36, 40, 42, 43]) := FF.F g_74 rfl
  have g_80 : FF S (uF (uF (uF (uF (uF S 231 24 0) 231 25 0) 231 32 0) 231 33 0) 231 34 0) (fl [20, 21, 24, 25, 32, 33, 34, 35, 36, 42]) := FF.F g_75 rfl
  have i_81 : dX G (uF (uF (uF (uF (uF S 231 24 0) 231 25 0) 231 32 0) 231 33 0) 231 34 0) := i_76.F (i := 34) (show (-2147483648) ≤ 0 ∧ 0 ≤ 2147483647 from ⟨by omega, by omega⟩)
  refine lv_aload_n hx hb dX12_tellAll_25 rfl (lv_at hl 0 rfl) ?_
  refine lv_iconst (v := iv 0) hx hb dX12_tellAll_26 (by decide) ?_
  refine p_X12_376 Cx hW hL (k := 231) (by decide) rfl dX12_tellAll_27 (fun H locs hW hL => ?_)
  have F_82 : Fr S (uF (uF (uF (uF (uF (uF S 231 24 0) 231 25 0) 231 32 0) 231 33 0) 231 34 0) 231 42 0) (pl [231, 248, 249, 250, 251, 252, 253, 254, 255, 256, 257, 258]) := F_77.F rfl
  have F_83 : Fr S (uF (uF (uF (uF (uF (uF S 231 24 0) 231 25 0) 231 32 0) 231 33 0) 231 34 0) 231 42 0) (pl [231, 248, 249, 250, 251, 252, 253, 254]) := F_78.F rfl
  have g_84 : FF S (uF (uF (uF (uF (uF (uF S 231 24 0) 231 25 0) 231 32 0) 231 33 0) 231 34 0) 231 42 0) (fl [20, 21, 24, 25, 32, 33, 34, 35, 36, 40, 42, 43]) := FF.F g_79 rfl
  have g_85 : FF S (uF (uF (uF (uF (uF (uF S 231 24 0) 231 25 0) 231 32 0) 231 33 0) 231 34 0) 231 42 0) (fl [20, 21, 24, 25, 32, 33, 34, 35, 36, 42]) := FF.F g_80 rfl
  have i_86 : dX G (uF (uF (uF (uF (uF (uF S 231 24 0) 231 25 0) 231 32 0) 231 33 0) 231 34 0) 231 42 0) := i_81.F (i := 42) (show (-2147483648) ≤ 0 ∧ 0 ≤ 2147483647 from ⟨by omega, by omega⟩)
  refine lv_aload_n hx hb dX12_tellAll_30 rfl (lv_at hl 0 rfl) ?_
  refine lv_iconst (v := iv 0) hx hb dX12_tellAll_31 (by decide) ?_
  refine p_X12_379 Cx hW hL (k := 231) (by decide) rfl dX12_tellAll_32 (fun H locs hW hL => ?_)
  have F_87 : Fr S (uF (uF (uF (uF (uF (uF (uF S 231 24 0) 231 25 0) 231 32 0) 231 33 0) 231 34 0) 231 42 0) 231 35 0) (pl [231, 248, 249, 250, 251, 252, 253, 254, 255, 256, 257, 258]) := F_82.F rfl
  have F_88 : Fr S (uF (uF (uF (uF (uF (uF (uF S 231 24 0) 231 25 0) 231 32 0) 231 33 0) 231 34 0) 231 42 0) 231 35 0) (pl [231, 248, 249, 250, 251, 252, 253, 254]) := F_83.F rfl
  have g_89 : FF S (uF (uF (uF (uF (uF (uF (uF S 231 24 0) 231 25 0) 231 32 0) 231 33 0) 231 34 0) 231 42 0) 231 35 0) (fl [20, 21, 24, 25, 32, 33, 34, 35, 36, 40, 42, 43]) := FF.F g_84 rfl
  have g_90 : FF S (uF (uF (uF (uF (uF (uF (uF S 231 24 0) 231 25 0) 231 32 0) 231 33 0) 231 34 0) 231 42 0) 231 35 0) (fl [20, 21, 24, 25, 32, 33, 34, 35, 36, 42]) := FF.F g_85 rfl
  have i_91 : dX G (uF (uF (uF (uF (uF (uF (uF S 231 24 0) 231 25 0) 231 32 0) 231 33 0) 231 34 0) 231 42 0) 231 35 0) := i_86.F (i := 35) (show (-2147483648) ≤ 0 ∧ 0 ≤ 2147483647 from ⟨by omega, by omega⟩)
  refine lv_aload_n hx hb dX12_tellAll_35 rfl (lv_at hl 0 rfl) ?_
  refine lv_iconst (v := iv 0) hx hb dX12_tellAll_36 (by decide) ?_
  refine p_X12_382 Cx hW hL (k := 231) (by decide) rfl dX12_tellAll_37 (fun H locs hW hL => ?_)
  have F_92 : Fr S (uF (uF (uF (uF (uF (uF (uF (uF S 231 24 0) 231 25 0) 231 32 0) 231 33 0) 231 34 0) 231 42 0) 231 35 0) 231 36 0) (pl [231, 248, 249, 250, 251, 252, 253, 254, 255, 256, 257, 258]) := F_87.F rfl
  have F_93 : Fr S (uF (uF (uF (uF (uF (uF (uF (uF S 231 24 0) 231 25 0) 231 32 0) 231 33 0) 231 34 0) 231 42 0) 231 35 0) 231 36 0) (pl [231, 248, 249, 250, 251, 252, 253, 254]) := F_88.F rfl
  have g_94 : FF S (uF (uF (uF (uF (uF (uF (uF (uF S 231 24 0) 231 25 0) 231 32 0) 231 33 0) 231 34 0) 231 42 0) 231 35 0) 231 36 0) (fl [20, 21, 24, 25, 32, 33, 34, 35, 36, 40, 42, 43]) := FF.F g_89 rfl
  have g_95 : FF S (uF (uF (uF (uF (uF (uF (uF (uF S 231 24 0) 231 25 0) 231 32 0) 231 33 0) 231 34 0) 231 42 0) 231 35 0) 231 36 0) (fl [20, 21, 24, 25, 32, 33, 34, 35, 36, 42]) := FF.F g_90 rfl
  have i_96 : dX G (uF (uF (uF (uF (uF (uF (uF (uF S 231 24 0) 231 25 0) 231 32 0) 231 33 0) 231 34 0) 231 42 0) 231 35 0) 231 36 0) := i_91.F (i := 36) (show (-2147483648) ≤ 0 ∧ 0 ≤ 2147483647 from ⟨by omega, by omega⟩)
  have loop_40 : ∀ (fuel : Nat) (S40 : sS)  (H : Heap) (locs : List Loc) (ls : Array Slot), (if S40.1 231 20 = 0 then (T - S40.1 231 24).toNat + 1 else 0) < fuel → (dX G S40) → (Fr S S40 (pl [231, 248, 249, 250, 251, 252, 253, 254, 255, 256, 257, 258])) → (Fr S S40 (pl [231, 248, 249, 250, 251, 252, 253, 254])) → (Fr ((uF (uF (uF (uF (uF (uF (uF (uF S 231 24 0) 231 25 0) 231 32 0) 231 33 0) 231 34 0) 231 42 0) 231 35 0) 231 36 0)) S40 (pl [231, 248, 249, 250, 251, 252, 253, 254])) → (FF S S40 (fl [20, 21, 24, 25, 32, 33, 34, 35, 36, 40, 42, 43])) → (FF S S40 (fl [20, 21, 24, 25, 32, 33, 34, 35, 36, 42])) → (FF ((uF (uF (uF (uF (uF (uF (uF (uF S 231 24 0) 231 25 0) 231 32 0) 231 33 0) 231 34 0) 231 42 0) 231 35 0) 231 36 0)) S40 (fl [20, 21, 24, 25, 32, 33, 34, 35])) → (Hd (S40.1 231 20 = 0 → ∃ M, eMw T k v M00 0 = eMw T k v M (S40.1 231 24) ∧ MRr M k v S40 ∧ PBr M S40 ∧ 0 ≤ S40.1 231 24 ∧ G1r T k (S40.1 231 24))) → (Hd (S40.1 231 20 ≠ 0 → eMw T k v M00 0 = none)) → sW G 294 S40 H → sL G locs → lv_has ls 3 [(0, .ref (G.2.2.1 + 231))] → W p l e (rmk 138 0 0) s m args below meth c H locs 0 0 (MQ below (sQv G 294 (fun u => dX G u ∧ Fr S u (pl [231, 248, 249, 250, 251, 252, 253, 254, 255, 256, 257, 258]) ∧ FF S u (fl [20, 21, 24, 25, 32, 33, 34, 35, 36, 40, 42, 43]) ∧ (Hd (RBu u) ∧ Hd (u.1 231 20 ≠ 0 → eMw T k v M00 0 = none) ∧ Hd (u.1 231 20 = 0 → ∃ M, eMw T k v M00 0 = some M ∧ MRr M k v u ∧ gb5 u)))) args s 0 0 (sF G)) (F0 m 40 ls []) := by
    intro fuel
    induction fuel with
    | zero => intro S40  H locs ls hmeas hI40 hFm40 hFL15540 hL40_ hGm40 hGL15540 gL40_ hOK hNO hW hL hl; exact absurd hmeas (Nat.not_lt_zero _)
    | succ fuel ih_40 =>
      intro S40  H locs ls hmeas hI40 hFm40 hFL15540 hL40_ hGm40 hGL15540 gL40_ hOK hNO hW hL hl
      have hm40 := hmeas
      refine lv_aload_n hx hb dX12_tellAll_40 rfl (lv_at hl 0 rfl) ?_
      have q_97 : (-2147483648) ≤ S40.1 231 20 ∧ S40.1 231 20 ≤ 2147483647 := hI40.fi 20
      refine g_X12_270 Cx hW (k := 231) (by decide) rfl (v := S40.1 231 20) rfl dX12_tellAll_41 ?_
      refine r_if_ne (tgt := 147) hx hb ⟨(by omega), (by omega)⟩ dX12_tellAll_44 (by decide) (fun c_98 => ?_) (fun c_98 => ?_)
      · refine lv_aload_n hx hb dX12_tellAll_147 rfl (lv_at hl 0 rfl) ?_
        refine g_X12_270 Cx hW (k := 231) (by decide) rfl (v := S40.1 231 20) rfl dX12_tellAll_148 ?_
        refine r_if_eq (tgt := 155) hx hb ⟨(by omega), (by omega)⟩ dX12_tellAll_151 (by decide) (fun c => absurd c (by omega)) (fun _ => ?_)
        exact sVret Cx hr hlk hW hL ⟨hI40, hFm40, hGm40, ⟨(fun x => by rw [show S40.2.2.1 255 x = S.2.2.1 255 x from ((hL40_ 255 rfl).2.2.1 x).trans ((uF_l).trans ((uF_l).trans ((uF_l).trans ((uF_l).trans ((uF_l).trans ((uF_l).trans ((uF_l).trans (uF_l))))))))]; exact hRB x), (fun _ => hNO (by have e9 := (show S40.1 231 20 = S40.1 231 20 from rfl); omega)), (fun h => absurd h (by have e9 := (show S40.1 231 20 = S40.1 231 20 from rfl); omega))⟩⟩ dX12_tellAll_154
      · obtain ⟨M, eM, hM, hPb, hc0, hG⟩ := hOK (by omega)
        have hkl := hkr.lt (c := k (S40.1 231 24)) rfl hG.k
        refine lv_aload_n hx hb dX12_tellAll_47 rfl (lv_at hl 0 rfl) ?_
        refine g_X12_47 Cx hW (k := 231) (by decide) rfl (v := .ref (G.2.2.1 + 244)) (rd_15 hI40) dX12_tellAll_48 ?_
        refine lv_aload_n hx hb dX12_tellAll_51 rfl (lv_at hl 0 rfl) ?_
        have q_99 : (-2147483648) ≤ S40.1 231 24 ∧ S40.1 231 24 ≤ 2147483647 := hI40.fi 24
        refine g_X12_315 Cx hW (k := 231) (by decide) rfl (v := S40.1 231 24) rfl dX12_tellAll_52 ?_
        refine rIald Cx hW (k := 244) (by decide) rfl (by decide) (by omega) (by omega) dX12_tellAll_55 ?_
        have q_100 : (-2147483648) ≤ S.2.1 244 (S40.1 231 24) ∧ S.2.1 244 (S40.1 231 24) ≤ 2147483647 := hI.ai 244 (S40.1 231 24)
        refine r_i (b := S.2.1 244 (S40.1 231 24)) (((hL40_ 244 rfl).2.1 (S40.1 231 24)).trans ((uF_a).trans ((uF_a).trans ((uF_a).trans ((uF_a).trans ((uF_a).trans ((uF_a).trans ((uF_a).trans (uF_a))))))))) ?_
        have hr1 : K (S40.1 231 24) = S.2.1 244 (S40.1 231 24) := (by rw [← hK])
        refine lv_iconst (v := iv 3) hx hb dX12_tellAll_56 (by decide) ?_
        refine r_icmp_ne (tgt := 147) hx hb ⟨(by omega), (by omega)⟩ ⟨(by omega), (by omega)⟩ dX12_tellAll_57 (by decide) (fun c_101 => ?_) (fun c_101 => ?_)
        · have n678 : ¬ (k (S40.1 231 24) = 6 ∨ k (S40.1 231 24) = 7 ∨ k (S40.1 231 24) = 8) := (fun z => by rcases z with z | z | z; (have y := (wd_m (w := 2) (by decide) K V T (S40.1 231 24)).2 (by rw [hkk]; exact z); unfold gW at y; omega); (have y := (wd_m (w := 3) (by decide) K V T (S40.1 231 24)).2 (by rw [hkk]; exact z); unfold gW at y; omega); (have y := (wd_m (w := 4) (by decide) K V T (S40.1 231 24)).2 (by rw [hkk]; exact z); unfold gW at y; omega))
          refine lv_aload_n hx hb dX12_tellAll_147 rfl (lv_at hl 0 rfl) ?_
          refine g_X12_270 Cx hW (k := 231) (by decide) rfl (v := S40.1 231 20) rfl dX12_tellAll_148 ?_
          refine r_if_eq (tgt := 155) hx hb ⟨(by omega), (by omega)⟩ dX12_tellAll_151 (by decide) (fun _ => ?_) (fun c => absurd (by omega) c)
          exact join_155 S40  _ _ _ hI40 hFm40 hFL15540 hGm40 hGL15540 (by have y20 := (show S40.1 231 20 = S40.1 231 20 from rfl); omega) ⟨M, eM, hM, hc0, hG, n678⟩ hW hL (lv_sub hl [0] rfl)
        · refine lv_aload_n hx hb dX12_tellAll_60 rfl (lv_at hl 0 rfl) ?_
          refine g_X12_56 Cx hW (k := 231) (by decide) rfl (v := .ref (G.2.2.1 + 247)) (rd_18 hI40) dX12_tellAll_61 ?_
          refine lv_aload_n hx hb dX12_tellAll_64 rfl (lv_at hl 0 rfl) ?_
          refine g_X12_315 Cx hW (k := 231) (by decide) rfl (v := S40.1 231 24) rfl dX12_tellAll_65 ?_
          refine rIald Cx hW (k := 247) (by decide) rfl (by decide) (by omega) (by omega) dX12_tellAll_68 ?_
          have q_102 : (-2147483648) ≤ S.2.1 247 (S40.1 231 24) ∧ S.2.1 247 (S40.1 231 24) ≤ 2147483647 := hI.ai 247 (S40.1 231 24)
          refine r_i (b := S.2.1 247 (S40.1 231 24)) (((hL40_ 247 rfl).2.1 (S40.1 231 24)).trans ((uF_a).trans ((uF_a).trans ((uF_a).trans ((uF_a).trans ((uF_a).trans ((uF_a).trans ((uF_a).trans (uF_a))))))))) ?_
          have hr2 : V (S40.1 231 24) = S.2.1 247 (S40.1 231 24) := (by rw [← hV])
          refine lv_iconst (v := iv 2) hx hb dX12_tellAll_69 (by decide) ?_
          refine r_icmp_lt (tgt := 147) hx hb ⟨(by omega), (by omega)⟩ ⟨(by omega), (by omega)⟩ dX12_tellAll_70 (by decide) (fun c_103 => ?_) (fun c_103 => ?_)
          · have n678 : ¬ (k (S40.1 231 24) = 6 ∨ k (S40.1 231 24) = 7 ∨ k (S40.1 231 24) = 8) := (fun z => by rcases z with z | z | z; (have y := (wd_m (w := 2) (by decide) K V T (S40.1 231 24)).2 (by rw [hkk]; exact z); unfold gW at y; omega); (have y := (wd_m (w := 3) (by decide) K V T (S40.1 231 24)).2 (by rw [hkk]; exact z); unfold gW at y; omega); (have y := (wd_m (w := 4) (by decide) K V T (S40.1 231 24)).2 (by rw [hkk]; exact z); unfold gW at y; omega))
            refine lv_aload_n hx hb dX12_tellAll_147 rfl (lv_at hl 0 rfl) ?_
            refine g_X12_270 Cx hW (k := 231) (by decide) rfl (v := S40.1 231 20) rfl dX12_tellAll_148 ?_
            refine r_if_eq (tgt := 155) hx hb ⟨(by omega), (by omega)⟩ dX12_tellAll_151 (by decide) (fun _ => ?_) (fun c => absurd (by omega) c)
            exact join_155 S40  _ _ _ hI40 hFm40 hFL15540 hGm40 hGL15540 (by have y20 := (show S40.1 231 20 = S40.1 231 20 from rfl); omega) ⟨M, eM, hM, hc0, hG, n678⟩ hW hL (lv_sub hl [0] rfl)
          · refine lv_aload_n hx hb dX12_tellAll_73 rfl (lv_at hl 0 rfl) ?_
            refine g_X12_56 Cx hW (k := 231) (by decide) rfl (v := .ref (G.2.2.1 + 247)) (rd_18 hI40) dX12_tellAll_74 ?_
            refine lv_aload_n hx hb dX12_tellAll_77 rfl (lv_at hl 0 rfl) ?_
            refine g_X12_315 Cx hW (k := 231) (by decide) rfl (v := S40.1 231 24) rfl dX12_tellAll_78 ?_
            refine rIald Cx hW (k := 247) (by decide) rfl (by decide) (by omega) (by omega) dX12_tellAll_81 ?_
            refine r_i (b := S.2.1 247 (S40.1 231 24)) (((hL40_ 247 rfl).2.1 (S40.1 231 24)).trans ((uF_a).trans ((uF_a).trans ((uF_a).trans ((uF_a).trans ((uF_a).trans ((uF_a).trans ((uF_a).trans (uF_a))))))))) ?_
            refine lv_iconst (v := iv 4) hx hb dX12_tellAll_82 (by decide) ?_
            refine r_icmp_gt (tgt := 147) hx hb ⟨(by omega), (by omega)⟩ ⟨(by omega), (by omega)⟩ dX12_tellAll_83 (by decide) (fun c_104 => ?_) (fun c_104 => ?_)
            · have n678 : ¬ (k (S40.1 231 24) = 6 ∨ k (S40.1 231 24) = 7 ∨ k (S40.1 231 24) = 8) := (fun z => by rcases z with z | z | z; (have y := (wd_m (w := 2) (by decide) K V T (S40.1 231 24)).2 (by rw [hkk]; exact z); unfold gW at y; omega); (have y := (wd_m (w := 3) (by decide) K V T (S40.1 231 24)).2 (by rw [hkk]; exact z); unfold gW at y; omega); (have y := (wd_m (w := 4) (by decide) K V T (S40.1 231 24)).2 (by rw [hkk]; exact z); unfold gW at y; omega))
              refine lv_aload_n hx hb dX12_tellAll_147 rfl (lv_at hl 0 rfl) ?_
              refine g_X12_270 Cx hW (k := 231) (by decide) rfl (v := S40.1 231 20) rfl dX12_tellAll_148 ?_
              refine r_if_eq (tgt := 155) hx hb ⟨(by omega), (by omega)⟩ dX12_tellAll_151 (by decide) (fun _ => ?_) (fun c => absurd (by omega) c)
              exact join_155 S40  _ _ _ hI40 hFm40 hFL15540 hGm40 hGL15540 (by have y20 := (show S40.1 231 20 = S40.1 231 20 from rfl); omega) ⟨M, eM, hM, hc0, hG, n678⟩ hW hL (lv_sub hl [0] rfl)
            · refine lv_aload_n hx hb dX12_tellAll_86 rfl (lv_at hl 0 rfl) ?_
              refine g_X12_56 Cx hW (k := 231) (by decide) rfl (v := .ref (G.2.2.1 + 247)) (rd_18 hI40) dX12_tellAll_87 ?_
              refine lv_aload_n hx hb dX12_tellAll_90 rfl (lv_at hl 0 rfl) ?_
              refine g_X12_315 Cx hW (k := 231) (by decide) rfl (v := S40.1 231 24) rfl dX12_tellAll_91 ?_
              refine rIald Cx hW (k := 247) (by decide) rfl (by decide) (by omega) (by omega) dX12_tellAll_94 ?_
              refine r_i (b := S.2.1 247 (S40.1 231 24)) (((hL40_ 247 rfl).2.1 (S40.1 231 24)).trans ((uF_a).trans ((uF_a).trans ((uF_a).trans ((uF_a).trans ((uF_a).trans ((uF_a).trans ((uF_a).trans (uF_a))))))))) ?_
              refine lv_istore_n (lv' := [(1, .int (iv (S.2.1 247 (S40.1 231 24)))), (0, .ref (G.2.2.1 + 231))]) hx hb dX12_tellAll_95 rfl hl (by decide) rfl (fun ls hl => ?_)
              refine lv_aload_n hx hb dX12_tellAll_96 rfl (lv_at hl 1 rfl) ?_
              refine g_X12_315 Cx hW (k := 231) (by decide) rfl (v := S40.1 231 24) rfl dX12_tellAll_97 ?_
              refine lv_iconst (v := iv 1) hx hb dX12_tellAll_100 (by decide) ?_
              refine r_iadd hx hb dX12_tellAll_101 ?_
              refine lv_istore_n (lv' := [(2, .int (iv ((S40.1 231 24) + 1))), (1, .int (iv (S.2.1 247 (S40.1 231 24)))), (0, .ref (G.2.2.1 + 231))]) hx hb dX12_tellAll_102 rfl hl (by decide) rfl (fun ls hl => ?_)
              refine lv_aload_n hx hb dX12_tellAll_103 rfl (lv_at hl 2 rfl) ?_
              refine lv_dup hx hb dX12_tellAll_104 rfl ?_
              refine g_X12_315 Cx hW (k := 231) (by decide) rfl (v := S40.1 231 24) rfl dX12_tellAll_105 ?_
              refine lv_iconst (v := iv 2) hx hb dX12_tellAll_108 (by decide) ?_
              refine r_iadd hx hb dX12_tellAll_109 ?_
              refine p_X12_315 Cx hW hL (k := 231) (by decide) rfl dX12_tellAll_110 (fun H locs hW hL => ?_)
              have F_105 : Fr S (uF S40 231 24 ((S40.1 231 24) + 2)) (pl [231, 248, 249, 250, 251, 252, 253, 254, 255, 256, 257, 258]) := hFm40.F rfl
              have F_106 : Fr S (uF S40 231 24 ((S40.1 231 24) + 2)) (pl [231, 248, 249, 250, 251, 252, 253, 254]) := hFL15540.F rfl
              have F_107 : Fr ((uF (uF (uF (uF (uF (uF (uF (uF S 231 24 0) 231 25 0) 231 32 0) 231 33 0) 231 34 0) 231 42 0) 231 35 0) 231 36 0)) (uF S40 231 24 ((S40.1 231 24) + 2)) (pl [231, 248, 249, 250, 251, 252, 253, 254]) := hL40_.F rfl
              have g_108 : FF S (uF S40 231 24 ((S40.1 231 24) + 2)) (fl [20, 21, 24, 25, 32, 33, 34, 35, 36, 40, 42, 43]) := FF.F hGm40 rfl
              have g_109 : FF S (uF S40 231 24 ((S40.1 231 24) + 2)) (fl [20, 21, 24, 25, 32, 33, 34, 35, 36, 42]) := FF.F hGL15540 rfl
              have g_110 : FF ((uF (uF (uF (uF (uF (uF (uF (uF S 231 24 0) 231 25 0) 231 32 0) 231 33 0) 231 34 0) 231 42 0) 231 35 0) 231 36 0)) (uF S40 231 24 ((S40.1 231 24) + 2)) (fl [20, 21, 24, 25, 32, 33, 34, 35]) := FF.F gL40_ rfl
              have i_111 : dX G (uF S40 231 24 ((S40.1 231 24) + 2)) := hI40.F (i := 24) (show (-2147483648) ≤ (S40.1 231 24) + 2 ∧ (S40.1 231 24) + 2 ≤ 2147483647 from ⟨by omega, by omega⟩)
              refine lv_iload_n hx hb dX12_tellAll_113 rfl (lv_at hl 1 rfl) ?_
              refine lv_iconst (v := iv 2) hx hb dX12_tellAll_114 (by decide) ?_
              refine r_icmp_ne (tgt := 126) hx hb ⟨(by omega), (by omega)⟩ ⟨(by omega), (by omega)⟩ dX12_tellAll_115 (by decide) (fun c_112 => ?_) (fun c_112 => ?_)
              · refine lv_iload_n hx hb dX12_tellAll_126 rfl (lv_at hl 1 rfl) ?_
                refine lv_iconst (v := iv 3) hx hb dX12_tellAll_127 (by decide) ?_
                refine r_icmp_ne (tgt := 139) hx hb ⟨(by omega), (by omega)⟩ ⟨(by omega), (by omega)⟩ dX12_tellAll_128 (by decide) (fun c_113 => ?_) (fun c_113 => ?_)
                · have kc : k (S40.1 231 24) = 8 := (by rw [← hkk]; exact (wd_m (w := 4) (by decide) K V T (S40.1 231 24)).1 (by omega) (by omega) ⟨by omega, by omega⟩)
                  obtain ⟨qd, hk2, hq15, hgd, hG2⟩ := hG.d hkr.z (by omega)
                  have hgs : gVa k (S40.1 231 24) qd := (by rcases hgd with z | z | z; (exfalso; have z1 := z.1; omega); (exact z.2); (exfalso; have z1 := z.1; have z2 := z.2.1; omega))
                  have hqT : qd ≤ T - 1 := (by have y := hkr.lt hq15 (by decide); have z : qd - 1 ≠ T - 1 := (fun z => by rw [z] at hq15; have x : k (T - 1) ≤ 1 := hkT; omega); omega)
                  have hlt : S40.1 231 24 < qd := (by obtain ⟨qi, hgi, hgw⟩ := hgs; have y1 := ogI_le hgi; rcases hgw with z | z; (have z2 := z.2; omega); (have z2 := z.2; omega))
                  refine lv_aload_n hx hb dX12_tellAll_139 rfl (lv_at hl 2 rfl) ?_
                  refine lv_iload_n hx hb dX12_tellAll_140 rfl (lv_at hl 0 rfl) ?_
                  have lk_114 : (uF S40 231 24 ((S40.1 231 24) + 2)).1 231 20 = S40.1 231 20 := uF_ne (fun h => absurd h.2 (by decide))
                  have lk_115 : (uF S40 231 24 ((S40.1 231 24) + 2)).1 231 24 = (S40.1 231 24) + 2 := uF_on
                  have kr_116 : KRr (uF S40 231 24 ((S40.1 231 24) + 2)) k v T := hkr.of (funext fun j => (uF_a).trans (((hL40_ 243 rfl).2.1 j).trans ((uF_a).trans ((uF_a).trans ((uF_a).trans ((uF_a).trans ((uF_a).trans ((uF_a).trans ((uF_a).trans (uF_a)))))))))) (funext fun j => (uF_a).trans (((hL40_ 244 rfl).2.1 j).trans ((uF_a).trans ((uF_a).trans ((uF_a).trans ((uF_a).trans ((uF_a).trans ((uF_a).trans ((uF_a).trans (uF_a)))))))))) (funext fun j => (uF_a).trans (((hL40_ 245 rfl).2.1 j).trans ((uF_a).trans ((uF_a).trans ((uF_a).trans ((uF_a).trans ((uF_a).trans ((uF_a).trans ((uF_a).trans (uF_a)))))))))) (funext fun j => (uF_a).trans (((hL40_ 246 rfl).2.1 j).trans ((uF_a).trans ((uF_a).trans ((uF_a).trans ((uF_a).trans ((uF_a).trans ((uF_a).trans ((uF_a).trans (uF_a)))))))))) (funext fun j => (uF_a).trans (((hL40_ 247 rfl).2.1 j).trans ((uF_a).trans ((uF_a).trans ((uF_a).trans ((uF_a).trans ((uF_a).trans ((uF_a).trans ((uF_a).trans (uF_a))))))))))
                  refine sBv (sV (As := [.int (iv ((S40.1 231 24) + 1))]) (rest := []) (k := 231) Cx (e_X12_tellVar l G (uF S40 231 24 ((S40.1 231 24) + 2)) (tk := (S40.1 231 24) + 1) (pz := (S40.1 231 24) + 2) (pp := S40.1 231 24) (q := qd) i_111 kr_116 (hM.of (hM.1.of (uF_ne (fun h => absurd h.2 (by decide))) (funext fun j => uF_a) (funext fun j => uF_a) (funext fun j => uF_a) (funext fun j => uF_a) (funext fun j => uF_a) (funext fun j => uF_a)) (uF_ne (fun h => absurd h.2 (by decide))) (uF_ne (fun h => absurd h.2 (by decide))) (uF_ne (fun h => absurd h.2 (by decide))) (uF_ne (fun h => absurd h.2 (by decide))) (uF_ne (fun h => absurd h.2 (by decide)))) hTV (by omega) (by omega) (hPb.of (uF_ne (fun h => absurd h.2 (by decide))) (funext fun j => uF_a)) (by omega) (by omega) hk2 hgs (by omega)) (c_X12_391 Cx rfl rfl (rmk_ok (by omega) (by decide))) hW (by decide) rfl rfl rfl hl.1 rfl (Nat.le_of_ble_eq_true rfl) dX12_tellAll_141 ⟨Nat.le_of_ble_eq_true rfl, Nat.le_of_ble_eq_true rfl⟩) hL (fun u_117 H locs k_118 hW hL => ?_)
                  obtain ⟨iu_117, fu_117, gu_117, xu_117⟩ := k_118
                  have F_119 := F_105.trans (fu_117.to (pl_sub (by decide)))
                  have F_120 := F_106.trans (fu_117.to (pl_sub (by decide)))
                  have F_121 := F_107.trans (fu_117.to (pl_sub (by decide)))
                  have g_122 : FF S u_117 (fl [20, 21, 24, 25, 32, 33, 34, 35, 36, 40, 42, 43]) := FF.trans g_108 (FF.to gu_117 (fl_sub (by decide)))
                  have g_123 : FF S u_117 (fl [20, 21, 24, 25, 32, 33, 34, 35, 36, 42]) := FF.trans g_109 (FF.to gu_117 (fl_sub (by decide)))
                  have g_124 : FF ((uF (uF (uF (uF (uF (uF (uF (uF S 231 24 0) 231 25 0) 231 32 0) 231 33 0) 231 34 0) 231 42 0) 231 35 0) 231 36 0)) u_117 (fl [20, 21, 24, 25, 32, 33, 34, 35]) := FF.trans g_110 (FF.to gu_117 (fl_sub (by decide)))
                  refine lv_goto (tgt := 40) hx hb dX12_tellAll_144 (by decide) ?_
                  have q_125 : (-2147483648) ≤ u_117.1 231 20 ∧ u_117.1 231 20 ≤ 2147483647 := iu_117.fi 20
                  have q_126 : (-2147483648) ≤ u_117.1 231 24 ∧ u_117.1 231 24 ≤ 2147483647 := iu_117.fi 24
                  exact ih_40 u_117  _ _ _ (by rw [if_pos (show S40.1 231 20 = 0 by omega)] at hm40; split; (rename_i hh; have cq := xu_117.2 hh; obtain ⟨_, _, _, _, cq⟩ := cq; omega); omega) iu_117 F_119 F_120 F_121 g_122 g_123 g_124 (fun h => by obtain ⟨M2, e2, m2, p2, c2⟩ := xu_117.2 h; exact ⟨M2, (by rw [eM, eMw_s hkr.z hM.1.1.2.1 (by omega) ((eSt_8 kc).trans e2), c2]), m2, p2, (by omega), (by rw [c2]; exact hG2)⟩) (fun h => by rw [eM]; exact eMw_n (by omega) ((eSt_8 kc).trans (xu_117.1 h))) hW hL (lv_sub hl [2] rfl)
                · have kc : k (S40.1 231 24) = 7 := (by rw [← hkk]; exact (wd_m (w := 3) (by decide) K V T (S40.1 231 24)).1 (by omega) (by omega) ⟨by omega, by omega⟩)
                  obtain ⟨qd, hk2, hq15, hgd, hG2⟩ := hG.d hkr.z (by omega)
                  have hgs : gPa T k (S40.1 231 24) qd := (by rcases hgd with z | z | z; (exfalso; have z1 := z.1; omega); (exfalso; have z1 := z.1; omega); (exact z.2.2))
                  have hqT : qd ≤ T - 1 := (by have y := hkr.lt hq15 (by decide); have z : qd - 1 ≠ T - 1 := (fun z => by rw [z] at hq15; have x : k (T - 1) ≤ 1 := hkT; omega); omega)
                  have hlt : S40.1 231 24 < qd := (by obtain ⟨qi, b, hgi, hg13, hgv_, hg15_, hgq⟩ := hgs; have y1 := ogI_le hgi; have y2 := ogVs_inc _ _ hgv_; omega)
                  refine lv_aload_n hx hb dX12_tellAll_131 rfl (lv_at hl 2 rfl) ?_
                  refine lv_iload_n hx hb dX12_tellAll_132 rfl (lv_at hl 0 rfl) ?_
                  have lk_127 : (uF S40 231 24 ((S40.1 231 24) + 2)).1 231 20 = S40.1 231 20 := uF_ne (fun h => absurd h.2 (by decide))
                  have lk_128 : (uF S40 231 24 ((S40.1 231 24) + 2)).1 231 24 = (S40.1 231 24) + 2 := uF_on
                  have kr_129 : KRr (uF S40 231 24 ((S40.1 231 24) + 2)) k v T := hkr.of (funext fun j => (uF_a).trans (((hL40_ 243 rfl).2.1 j).trans ((uF_a).trans ((uF_a).trans ((uF_a).trans ((uF_a).trans ((uF_a).trans ((uF_a).trans ((uF_a).trans (uF_a)))))))))) (funext fun j => (uF_a).trans (((hL40_ 244 rfl).2.1 j).trans ((uF_a).trans ((uF_a).trans ((uF_a).trans ((uF_a).trans ((uF_a).trans ((uF_a).trans ((uF_a).trans (uF_a)))))))))) (funext fun j => (uF_a).trans (((hL40_ 245 rfl).2.1 j).trans ((uF_a).trans ((uF_a).trans ((uF_a).trans ((uF_a).trans ((uF_a).trans ((uF_a).trans ((uF_a).trans (uF_a)))))))))) (funext fun j => (uF_a).trans (((hL40_ 246 rfl).2.1 j).trans ((uF_a).trans ((uF_a).trans ((uF_a).trans ((uF_a).trans ((uF_a).trans ((uF_a).trans ((uF_a).trans (uF_a)))))))))) (funext fun j => (uF_a).trans (((hL40_ 247 rfl).2.1 j).trans ((uF_a).trans ((uF_a).trans ((uF_a).trans ((uF_a).trans ((uF_a).trans ((uF_a).trans ((uF_a).trans (uF_a))))))))))
                  refine sBv (sV (As := [.int (iv ((S40.1 231 24) + 1))]) (rest := []) (k := 231) Cx (e_X12_tellPar l G (uF S40 231 24 ((S40.1 231 24) + 2)) (tk := (S40.1 231 24) + 1) (pz := (S40.1 231 24) + 2) (pp := S40.1 231 24) (q := qd) i_111 kr_129 (hM.of (hM.1.of (uF_ne (fun h => absurd h.2 (by decide))) (funext fun j => uF_a) (funext fun j => uF_a) (funext fun j => uF_a) (funext fun j => uF_a) (funext fun j => uF_a) (funext fun j => uF_a)) (uF_ne (fun h => absurd h.2 (by decide))) (uF_ne (fun h => absurd h.2 (by decide))) (uF_ne (fun h => absurd h.2 (by decide))) (uF_ne (fun h => absurd h.2 (by decide))) (uF_ne (fun h => absurd h.2 (by decide)))) hTV (by omega) (by omega) (hPb.of (uF_ne (fun h => absurd h.2 (by decide))) (funext fun j => uF_a)) (by omega) (by omega) hk2 hgs (by omega)) (c_X12_388 Cx rfl rfl (rmk_ok (by omega) (by decide))) hW (by decide) rfl rfl rfl hl.1 rfl (Nat.le_of_ble_eq_true rfl) dX12_tellAll_133 ⟨Nat.le_of_ble_eq_true rfl, Nat.le_of_ble_eq_true rfl⟩) hL (fun u_130 H locs k_131 hW hL => ?_)
                  obtain ⟨iu_130, fu_130, gu_130, xu_130⟩ := k_131
                  have F_132 := F_105.trans (fu_130.to (pl_sub (by decide)))
                  have F_133 := F_106.trans (fu_130.to (pl_sub (by decide)))
                  have F_134 := F_107.trans (fu_130.to (pl_sub (by decide)))
                  have g_135 : FF S u_130 (fl [20, 21, 24, 25, 32, 33, 34, 35, 36, 40, 42, 43]) := FF.trans g_108 (FF.to gu_130 (fl_sub (by decide)))
                  have g_136 : FF S u_130 (fl [20, 21, 24, 25, 32, 33, 34, 35, 36, 42]) := FF.trans g_109 (FF.to gu_130 (fl_sub (by decide)))
                  have g_137 : FF ((uF (uF (uF (uF (uF (uF (uF (uF S 231 24 0) 231 25 0) 231 32 0) 231 33 0) 231 34 0) 231 42 0) 231 35 0) 231 36 0)) u_130 (fl [20, 21, 24, 25, 32, 33, 34, 35]) := FF.trans g_110 (FF.to gu_130 (fl_sub (by decide)))
                  refine lv_goto (tgt := 144) hx hb dX12_tellAll_136 (by decide) ?_
                  refine lv_goto (tgt := 40) hx hb dX12_tellAll_144 (by decide) ?_
                  have q_138 : (-2147483648) ≤ u_130.1 231 20 ∧ u_130.1 231 20 ≤ 2147483647 := iu_130.fi 20
                  have q_139 : (-2147483648) ≤ u_130.1 231 24 ∧ u_130.1 231 24 ≤ 2147483647 := iu_130.fi 24
                  exact ih_40 u_130  _ _ _ (by rw [if_pos (show S40.1 231 20 = 0 by omega)] at hm40; split; (rename_i hh; have cq := xu_130.2 hh; obtain ⟨_, _, _, _, cq⟩ := cq; omega); omega) iu_130 F_132 F_133 F_134 g_135 g_136 g_137 (fun h => by obtain ⟨M2, e2, m2, p2, c2⟩ := xu_130.2 h; exact ⟨M2, (by rw [eM, eMw_s hkr.z hM.1.1.2.1 (by omega) ((eSt_7 kc).trans e2), c2]), m2, p2, (by omega), (by rw [c2]; exact hG2)⟩) (fun h => by rw [eM]; exact eMw_n (by omega) ((eSt_7 kc).trans (xu_130.1 h))) hW hL (lv_sub hl [2] rfl)
              · have kc : k (S40.1 231 24) = 6 := (by rw [← hkk]; exact (wd_m (w := 2) (by decide) K V T (S40.1 231 24)).1 (by omega) (by omega) ⟨by omega, by omega⟩)
                obtain ⟨qd, hk2, hq15, hgd, hG2⟩ := hG.d hkr.z (by omega)
                have hgs : gSt k (S40.1 231 24) qd := (by rcases hgd with z | z | z; (exact z.2); (exfalso; have z1 := z.1; omega); (exfalso; have z1 := z.1; have z2 := z.2.1; omega))
                have hqT : qd ≤ T - 1 := (by have y := hkr.lt hq15 (by decide); have z : qd - 1 ≠ T - 1 := (fun z => by rw [z] at hq15; have x : k (T - 1) ≤ 1 := hkT; omega); omega)
                have hq7 := hgs.2.2
                refine lv_aload_n hx hb dX12_tellAll_118 rfl (lv_at hl 2 rfl) ?_
                refine lv_iload_n hx hb dX12_tellAll_119 rfl (lv_at hl 0 rfl) ?_
                have lk_140 : (uF S40 231 24 ((S40.1 231 24) + 2)).1 231 20 = S40.1 231 20 := uF_ne (fun h => absurd h.2 (by decide))
                have lk_141 : (uF S40 231 24 ((S40.1 231 24) + 2)).1 231 24 = (S40.1 231 24) + 2 := uF_on
                have kr_142 : KRr (uF S40 231 24 ((S40.1 231 24) + 2)) k v T := hkr.of (funext fun j => (uF_a).trans (((hL40_ 243 rfl).2.1 j).trans ((uF_a).trans ((uF_a).trans ((uF_a).trans ((uF_a).trans ((uF_a).trans ((uF_a).trans ((uF_a).trans (uF_a)))))))))) (funext fun j => (uF_a).trans (((hL40_ 244 rfl).2.1 j).trans ((uF_a).trans ((uF_a).trans ((uF_a).trans ((uF_a).trans ((uF_a).trans ((uF_a).trans ((uF_a).trans (uF_a)))))))))) (funext fun j => (uF_a).trans (((hL40_ 245 rfl).2.1 j).trans ((uF_a).trans ((uF_a).trans ((uF_a).trans ((uF_a).trans ((uF_a).trans ((uF_a).trans ((uF_a).trans (uF_a)))))))))) (funext fun j => (uF_a).trans (((hL40_ 246 rfl).2.1 j).trans ((uF_a).trans ((uF_a).trans ((uF_a).trans ((uF_a).trans ((uF_a).trans ((uF_a).trans ((uF_a).trans (uF_a)))))))))) (funext fun j => (uF_a).trans (((hL40_ 247 rfl).2.1 j).trans ((uF_a).trans ((uF_a).trans ((uF_a).trans ((uF_a).trans ((uF_a).trans ((uF_a).trans ((uF_a).trans (uF_a))))))))))
                refine sBv (sV (As := [.int (iv ((S40.1 231 24) + 1))]) (rest := []) (k := 231) Cx (e_X12_tellSet l G (uF S40 231 24 ((S40.1 231 24) + 2)) (tk := (S40.1 231 24) + 1) (pz := (S40.1 231 24) + 2) (pp := S40.1 231 24) i_111 kr_142 (hM.of (hM.1.of (uF_ne (fun h => absurd h.2 (by decide))) (funext fun j => uF_a) (funext fun j => uF_a) (funext fun j => uF_a) (funext fun j => uF_a) (funext fun j => uF_a) (funext fun j => uF_a)) (uF_ne (fun h => absurd h.2 (by decide))) (uF_ne (fun h => absurd h.2 (by decide))) (uF_ne (fun h => absurd h.2 (by decide))) (uF_ne (fun h => absurd h.2 (by decide))) (uF_ne (fun h => absurd h.2 (by decide)))) hTV (by omega) (by omega) (hPb.of (uF_ne (fun h => absurd h.2 (by decide))) (funext fun j => uF_a)) (by omega) (by omega) hk2 ⟨hgs.1, hgs.2.1⟩ (by omega)) (c_X12_385 Cx rfl rfl (rmk_ok (by omega) (by decide))) hW (by decide) rfl rfl rfl hl.1 rfl (Nat.le_of_ble_eq_true rfl) dX12_tellAll_120 ⟨Nat.le_of_ble_eq_true rfl, Nat.le_of_ble_eq_true rfl⟩) hL (fun u_143 H locs k_144 hW hL => ?_)
                obtain ⟨iu_143, fu_143, gu_143, xu_143⟩ := k_144
                have F_145 := F_105.trans (fu_143.to (pl_sub (by decide)))
                have F_146 := F_106.trans (fu_143.to (pl_sub (by decide)))
                have F_147 := F_107.trans (fu_143.to (pl_sub (by decide)))
                have g_148 : FF S u_143 (fl [20, 21, 24, 25, 32, 33, 34, 35, 36, 40, 42, 43]) := FF.trans g_108 (FF.to gu_143 (fl_sub (by decide)))
                have g_149 : FF S u_143 (fl [20, 21, 24, 25, 32, 33, 34, 35, 36, 42]) := FF.trans g_109 (FF.to gu_143 (fl_sub (by decide)))
                have g_150 : FF ((uF (uF (uF (uF (uF (uF (uF (uF S 231 24 0) 231 25 0) 231 32 0) 231 33 0) 231 34 0) 231 42 0) 231 35 0) 231 36 0)) u_143 (fl [20, 21, 24, 25, 32, 33, 34, 35]) := FF.trans g_110 (FF.to gu_143 (fl_sub (by decide)))
                refine lv_goto (tgt := 144) hx hb dX12_tellAll_123 (by decide) ?_
                refine lv_goto (tgt := 40) hx hb dX12_tellAll_144 (by decide) ?_
                have q_151 : (-2147483648) ≤ u_143.1 231 20 ∧ u_143.1 231 20 ≤ 2147483647 := iu_143.fi 20
                have q_152 : (-2147483648) ≤ u_143.1 231 24 ∧ u_143.1 231 24 ≤ 2147483647 := iu_143.fi 24
                exact ih_40 u_143  _ _ _ (by rw [if_pos (show S40.1 231 20 = 0 by omega)] at hm40; split; (rename_i hh; have cq := xu_143.2 hh; obtain ⟨_, _, _, _, cq⟩ := cq; omega); omega) iu_143 F_145 F_146 F_147 g_148 g_149 g_150 (fun h => by obtain ⟨M2, e2, m2, p2, c2⟩ := xu_143.2 h; exact ⟨M2, (by rw [eM, eMw_s hkr.z hM.1.1.2.1 (by omega) ((eSt_6 kc).trans e2), (show u_143.1 231 24 = S40.1 231 24 + 7 from c2)]), m2, p2, (by omega), (by rw [c2, ← hq7]; exact hG2)⟩) (fun h => by rw [eM]; exact eMw_n (by omega) ((eSt_6 kc).trans (xu_143.1 h))) hW hL (lv_sub hl [2] rfl)
  have q_153 : (-2147483648) ≤ S.1 231 20 ∧ S.1 231 20 ≤ 2147483647 := hI.fi 20
  have lk_154 : (uF (uF (uF (uF (uF (uF (uF (uF S 231 24 0) 231 25 0) 231 32 0) 231 33 0) 231 34 0) 231 42 0) 231 35 0) 231 36 0).1 231 20 = S.1 231 20 := (uF_ne (fun h => absurd h.2 (by decide))).trans ((uF_ne (fun h => absurd h.2 (by decide))).trans ((uF_ne (fun h => absurd h.2 (by decide))).trans ((uF_ne (fun h => absurd h.2 (by decide))).trans ((uF_ne (fun h => absurd h.2 (by decide))).trans ((uF_ne (fun h => absurd h.2 (by decide))).trans ((uF_ne (fun h => absurd h.2 (by decide))).trans (uF_ne (fun h => absurd h.2 (by decide)))))))))
  have lk_155 : (uF (uF (uF (uF (uF (uF (uF (uF S 231 24 0) 231 25 0) 231 32 0) 231 33 0) 231 34 0) 231 42 0) 231 35 0) 231 36 0).1 231 24 = 0 := (uF_ne (fun h => absurd h.2 (by decide))).trans ((uF_ne (fun h => absurd h.2 (by decide))).trans ((uF_ne (fun h => absurd h.2 (by decide))).trans ((uF_ne (fun h => absurd h.2 (by decide))).trans ((uF_ne (fun h => absurd h.2 (by decide))).trans ((uF_ne (fun h => absurd h.2 (by decide))).trans ((uF_ne (fun h => absurd h.2 (by decide))).trans (uF_on)))))))
  exact loop_40 (_ + 1) (uF (uF (uF (uF (uF (uF (uF (uF S 231 24 0) 231 25 0) 231 32 0) 231 33 0) 231 34 0) 231 42 0) 231 35 0) 231 36 0)  _ _ _ (Nat.lt_succ_self _) i_96 F_92 F_93 Fr.rf g_94 g_95 FF.rf (fun _ => ⟨M00, (by rw [(show (uF (uF (uF (uF (uF (uF (uF (uF S 231 24 0) 231 25 0) 231 32 0) 231 33 0) 231 34 0) 231 42 0) 231 35 0) 231 36 0).1 231 24 = 0 from (uF_ne (fun h => absurd h.2 (by decide))).trans ((uF_ne (fun h => absurd h.2 (by decide))).trans ((uF_ne (fun h => absurd h.2 (by decide))).trans ((uF_ne (fun h => absurd h.2 (by decide))).trans ((uF_ne (fun h => absurd h.2 (by decide))).trans ((uF_ne (fun h => absurd h.2 (by decide))).trans ((uF_ne (fun h => absurd h.2 (by decide))).trans (uF_on))))))))]), MRr.zero (show (uF (uF (uF (uF (uF (uF (uF (uF S 231 24 0) 231 25 0) 231 32 0) 231 33 0) 231 34 0) 231 42 0) 231 35 0) 231 36 0).1 231 25 = 0 from (uF_ne (fun h => absurd h.2 (by decide))).trans ((uF_ne (fun h => absurd h.2 (by decide))).trans ((uF_ne (fun h => absurd h.2 (by decide))).trans ((uF_ne (fun h => absurd h.2 (by decide))).trans ((uF_ne (fun h => absurd h.2 (by decide))).trans ((uF_ne (fun h => absurd h.2 (by decide))).trans (uF_on))))))) (show (uF (uF (uF (uF (uF (uF (uF (uF S 231 24 0) 231 25 0) 231 32 0) 231 33 0) 231 34 0) 231 42 0) 231 35 0) 231 36 0).1 231 33 = 0 from (uF_ne (fun h => absurd h.2 (by decide))).trans ((uF_ne (fun h => absurd h.2 (by decide))).trans ((uF_ne (fun h => absurd h.2 (by decide))).trans ((uF_ne (fun h => absurd h.2 (by decide))).trans (uF_on))))) (show (uF (uF (uF (uF (uF (uF (uF (uF S 231 24 0) 231 25 0) 231 32 0) 231 33 0) 231 34 0) 231 42 0) 231 35 0) 231 36 0).1 231 34 = 0 from (uF_ne (fun h => absurd h.2 (by decide))).trans ((uF_ne (fun h => absurd h.2 (by decide))).trans ((uF_ne (fun h => absurd h.2 (by decide))).trans (uF_on)))) (show (uF (uF (uF (uF (uF (uF (uF (uF S 231 24 0) 231 25 0) 231 32 0) 231 33 0) 231 34 0) 231 42 0) 231 35 0) 231 36 0).1 231 35 = 0 from (uF_ne (fun h => absurd h.2 (by decide))).trans (uF_on)) (show (uF (uF (uF (uF (uF (uF (uF (uF S 231 24 0) 231 25 0) 231 32 0) 231 33 0) 231 34 0) 231 42 0) 231 35 0) 231 36 0).1 231 36 = 0 from uF_on) (show (uF (uF (uF (uF (uF (uF (uF (uF S 231 24 0) 231 25 0) 231 32 0) 231 33 0) 231 34 0) 231 42 0) 231 35 0) 231 36 0).1 231 42 = 0 from (uF_ne (fun h => absurd h.2 (by decide))).trans ((uF_ne (fun h => absurd h.2 (by decide))).trans (uF_on))), PBr.zero (show (uF (uF (uF (uF (uF (uF (uF (uF S 231 24 0) 231 25 0) 231 32 0) 231 33 0) 231 34 0) 231 42 0) 231 35 0) 231 36 0).1 231 32 = 0 from (uF_ne (fun h => absurd h.2 (by decide))).trans ((uF_ne (fun h => absurd h.2 (by decide))).trans ((uF_ne (fun h => absurd h.2 (by decide))).trans ((uF_ne (fun h => absurd h.2 (by decide))).trans ((uF_ne (fun h => absurd h.2 (by decide))).trans (uF_on)))))), (by have y24 := (show (uF (uF (uF (uF (uF (uF (uF (uF S 231 24 0) 231 25 0) 231 32 0) 231 33 0) 231 34 0) 231 42 0) 231 35 0) 231 36 0).1 231 24 = 0 from (uF_ne (fun h => absurd h.2 (by decide))).trans ((uF_ne (fun h => absurd h.2 (by decide))).trans ((uF_ne (fun h => absurd h.2 (by decide))).trans ((uF_ne (fun h => absurd h.2 (by decide))).trans ((uF_ne (fun h => absurd h.2 (by decide))).trans ((uF_ne (fun h => absurd h.2 (by decide))).trans ((uF_ne (fun h => absurd h.2 (by decide))).trans (uF_on)))))))); omega), (by rw [(show (uF (uF (uF (uF (uF (uF (uF (uF S 231 24 0) 231 25 0) 231 32 0) 231 33 0) 231 34 0) 231 42 0) 231 35 0) 231 36 0).1 231 24 = 0 from (uF_ne (fun h => absurd h.2 (by decide))).trans ((uF_ne (fun h => absurd h.2 (by decide))).trans ((uF_ne (fun h => absurd h.2 (by decide))).trans ((uF_ne (fun h => absurd h.2 (by decide))).trans ((uF_ne (fun h => absurd h.2 (by decide))).trans ((uF_ne (fun h => absurd h.2 (by decide))).trans ((uF_ne (fun h => absurd h.2 (by decide))).trans (uF_on))))))))]; exact hg1)⟩) (fun h => absurd (show (uF (uF (uF (uF (uF (uF (uF (uF S 231 24 0) 231 25 0) 231 32 0) 231 33 0) 231 34 0) 231 42 0) 231 35 0) 231 36 0).1 231 20 = 0 by have e9 := (show (uF (uF (uF (uF (uF (uF (uF (uF S 231 24 0) 231 25 0) 231 32 0) 231 33 0) 231 34 0) 231 42 0) 231 35 0) 231 36 0).1 231 20 = S.1 231 20 from (uF_ne (fun h => absurd h.2 (by decide))).trans ((uF_ne (fun h => absurd h.2 (by decide))).trans ((uF_ne (fun h => absurd h.2 (by decide))).trans ((uF_ne (fun h => absurd h.2 (by decide))).trans ((uF_ne (fun h => absurd h.2 (by decide))).trans ((uF_ne (fun h => absurd h.2 (by decide))).trans ((uF_ne (fun h => absurd h.2 (by decide))).trans (uF_ne (fun h => absurd h.2 (by decide)))))))))); omega) h) hW hL (lv_sub hl [0] rfl)
