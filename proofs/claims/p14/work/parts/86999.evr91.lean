/-! The reference's declarations. NRn: of the names no more than letters and which are sets -/
def NRn (N : sN) (k v : Int → Int) (S : sS) : Prop := (N.1 = S.1 231 25 ∧ 0 ≤ N.1 ∧ N.1 ≤ 128) ∧ (∀ s, 0 ≤ s → s < N.1 → k (S.2.1 248 s) = 2 ∧ N.2.1 s = v (S.2.1 248 s)) ∧ (∀ s, 0 ≤ s → s < N.1 → (S.2.1 249 s = 1 ↔ N.2.2.1 s 0 = 6))
theorem NRn.of {N : sN} {k v : Int → Int} {S u : sS} (h : NRn N k v S) (e : u.1 231 25 = S.1 231 25) (e8 : u.2.1 248 = S.2.1 248) (e9 : u.2.1 249 = S.2.1 249) : NRn N k v u := by
  unfold NRn; rw [e, e8, e9]; exact h
theorem NRn.y {N : sN} {k v : Int → Int} {S : sS} {T x s : Int} (h : NRn N k v S) (hK : NDi N) (hk : KRr S k v T) (hx : k x = 2) (s0 : 0 ≤ s) (s1 : s < N.1) (e : sameL S (S.2.1 248 s) x) : eFind N (v x) = s := by
  have a := h.2.1 s s0 s1
  exact eFind_y hK h.1.2.1 s0 s1 (a.2.trans ((hk.2.2.2.2 _ _ a.1 hx).mp e))
theorem NRn.n {N : sN} {k v : Int → Int} {S : sS} {T x : Int} (h : NRn N k v S) (hk : KRr S k v T) (hx : k x = 2) (e : ∀ s, 0 ≤ s → s < N.1 → ¬ sameL S (S.2.1 248 s) x) : eFind N (v x) = -1 := eFind_n h.1.2.1 (fun s s0 s1 z => e s s0 s1 (by
  have a := h.2.1 s s0 s1
  exact (hk.2.2.2.2 _ _ a.1 hx).mpr (a.2.symm.trans z)))
/-- a table and the same with one name more that is no set -/
def nN (N : sN) (x : Int) : sN := addN N x (fct 10 0 0 (-1) (-1) 0) (fun _ => 0)
theorem NRr.nn {N : sN} {k v : Int → Int} {S u : sS} {tk so a b c : Int} (h : NRr N k v S) (hc : N.1 < 128) (hk : k tk = 2) (hso : so ≠ 1) (hn : u.1 231 25 = S.1 231 25 + 1) (r : nRW S u (S.1 231 25) tk so a b c) : NRn (nN N (v tk)) k v u := by
  have h1 := h.1
  refine ⟨⟨by show N.1 + 1 = _; omega, by show 0 ≤ N.1 + 1; omega, by show N.1 + 1 ≤ 128; omega⟩, fun s a b => ?_, fun s a b => ?_⟩
  · have b : s < N.1 + 1 := b
    rw [r.1 s]
    by_cases c : s = N.1
    · rw [if_pos (by omega)]; exact ⟨hk, if_pos c⟩
    · rw [if_neg (by omega)]
      have q := h.2.1 s a (by omega)
      exact ⟨q.1, (if_neg c).trans q.2⟩
  · have b : s < N.1 + 1 := b
    rw [r.2.1 s]
    by_cases c : s = N.1
    · rw [if_pos (by omega), c]; show _ ↔ (addN N (v tk) (fct 10 0 0 (-1) (-1) 0) (fun _ => 0)).2.2.1 N.1 0 = 6
      rw [add_n, fct0]; exact ⟨fun z => absurd z hso, fun z => absurd z (by decide)⟩
    · rw [if_neg (by omega)]; show _ ↔ (addN N (v tk) (fct 10 0 0 (-1) (-1) 0) (fun _ => 0)).2.2.1 s 0 = 6
      rw [add_o c]; exact (cs_i (h.2.2 s a (by omega)).1).1
theorem nN_D {N : sN} {x : Int} (hK : NK N) (h0 : 0 ≤ N.1) (hn : eFind N x = -1) : NDi (nN N x) := (hK.added h0 hn NF_10).1
theorem nN_s {N : sN} {x : Int} (h0 : 0 ≤ N.1) (y : Int) : isS (nN N x) y ↔ isS N y := isS_add h0 (by rw [fct0]; decide)
theorem nN_f {N : sN} {x : Int} (h0 : 0 ≤ N.1) (y : Int) (h : isS N y) : eFind (nN N x) y = eFind N y := eFind_add_s h0 h
/-- a name more -/
theorem NRr.added {N : sN} {k v : Int → Int} {S u : sS} {tk so ra rb rc : Int} {f w : Int → Int} (h : NRr N k v S) (hK : NK N) (hf : NF N f w) (hc : N.1 < 128) (hk : k tk = 2) (e25 : u.1 231 25 = S.1 231 25 + 1) (r : nRW S u (S.1 231 25) tk so ra rb rc) (e3 : ∀ s, 0 ≤ s → s < N.1 → N.2.2.1 s 0 = 7 → ∀ o, 0 ≤ o → o < siz N (N.2.2.1 s 3) * siz N (N.2.2.1 s 4) → u.2.1 253 (S.2.1 252 s + o) = S.2.1 253 (S.2.1 252 s + o)) (g0 : so = cs (f 0)) (g2 : f 0 ≠ 2) (g6 : f 0 = 6 → f 1 = ra ∧ f 2 = rb) (g7 : f 0 = 7 ∨ f 0 = 8 → f 3 = ra ∧ f 4 = rb) (g8 : f 0 = 8 → f 5 = rc) (gp : f 0 = 7 → ∀ o, 0 ≤ o → o < siz N (f 3) * siz N (f 4) → 0 ≤ rc + o ∧ rc + o < 2100 ∧ w o = u.2.1 253 (rc + o)) : NRr (addN N (v tk) f w) k v u := by
  have h1 := h.1
  refine ⟨⟨by show N.1 + 1 = _; omega, by show 0 ≤ N.1 + 1; omega, by show N.1 + 1 ≤ 128; omega⟩, fun s s0 s1 => ?_, fun s s0 s1 => ?_⟩
  · have s1 : s < N.1 + 1 := s1
    rw [r.1 s]
    by_cases c : s = N.1
    · rw [if_pos (by omega)]; exact ⟨hk, if_pos c⟩
    · rw [if_neg (by omega)]
      have q := h.2.1 s s0 (by omega)
      exact ⟨q.1, (if_neg c).trans q.2⟩
  · have s1 : s < N.1 + 1 := s1
    by_cases c : s = N.1
    · have f9 : u.2.1 249 s = so := by rw [r.2.1 s, if_pos (by omega)]
      have f0 : u.2.1 250 s = ra := by rw [r.2.2.1 s, if_pos (by omega)]
      have f1 : u.2.1 251 s = rb := by rw [r.2.2.2.1 s, if_pos (by omega)]
      have f2 : u.2.1 252 s = rc := by rw [r.2.2.2.2 s, if_pos (by omega)]
      rw [f9, f0, f1, f2, c, add_n]
      refine ⟨g0, g6, fun z => absurd z g2, g7, g8, fun z o o0 o1 => ?_⟩
      rw [siz_add (hf.lt h1.2.1 (.inl z) (.inl rfl)), siz_add (hf.lt h1.2.1 (.inl z) (.inr rfl))] at o1
      show 0 ≤ rc + o ∧ rc + o < 2100 ∧ (if N.1 = N.1 then w o else _) = _
      rw [if_pos rfl]; exact gp z o o0 o1
    · have hs := h.2.2 s s0 (by omega)
      rw [add_o c, r.2.1 s, r.2.2.1 s, r.2.2.2.1 s, r.2.2.2.2 s, if_neg (by omega), if_neg (by omega), if_neg (by omega), if_neg (by omega)]
      refine ⟨hs.1, hs.2.1, hs.2.2.1, hs.2.2.2.1, hs.2.2.2.2.1, fun z o o0 o1 => ?_⟩
      have l3 := hK.lt (q := 3) h1.2.1 s0 (by omega) (.inl z) (.inl rfl); have l4 := hK.lt (q := 4) h1.2.1 s0 (by omega) (.inl z) (.inr rfl)
      rw [siz_add l3, siz_add l4] at o1
      have q := hs.2.2.2.2.2 z o o0 o1
      show _ ∧ _ ∧ (if s = N.1 then w o else N.2.2.2 s o) = _
      rw [if_neg c, e3 s s0 (by omega) z o o0 o1]; exact q
/-- what is told so far, and what the reference's memory holds of it -/
def MRr (M : sM) (k v : Int → Int) (S : sS) : Prop := NRr M.1 k v S ∧ NK M.1 ∧ (S.1 231 33 = M.2.1 ∧ 0 ≤ M.2.1 ∧ M.2.1 ≤ 8) ∧ (S.1 231 34 = M.2.2.1 ∧ 0 ≤ M.2.2.1 ∧ M.2.2.1 ≤ 12) ∧ (S.1 231 35 = M.2.2.2.1 ∧ 0 ≤ M.2.2.2.1 ∧ M.2.2.2.1 ≤ 12) ∧ (S.1 231 36 = M.2.2.2.2.2.1 ∧ 0 ≤ M.2.2.2.2.2.1 ∧ M.2.2.2.2.2.1 ≤ 16) ∧ (S.1 231 42 = M.2.2.2.2.2.2.2 ∧ 0 ≤ M.2.2.2.2.2.2.2 ∧ M.2.2.2.2.2.2.2 ≤ 20000) ∧ M.1.1 ≤ M.2.1 + M.2.2.1 + M.2.2.2.1 + M.2.2.2.2.2.1
/-- where the pars' values lie -/
def PBr (M : sM) (S : sS) : Prop := (0 ≤ S.1 231 32 ∧ S.1 231 32 ≤ 144 * M.2.2.1) ∧ ∀ s, 0 ≤ s → s < M.1.1 → M.1.2.2.1 s 0 = 7 → S.2.1 252 s + siz M.1 (M.1.2.2.1 s 3) * siz M.1 (M.1.2.2.1 s 4) ≤ S.1 231 32
theorem MRr.added {M : sM} {k v : Int → Int} {S u : sS} {x st pr nv wh m mx lk : Int} {f w : Int → Int} (h : MRr M k v S) (hN : NRr (addN M.1 x f w) k v u) (hn : eFind M.1 x = -1) (hf : NF M.1 f w) (c0 : u.1 231 33 = st ∧ 0 ≤ st ∧ st ≤ 8) (c1 : u.1 231 34 = pr ∧ 0 ≤ pr ∧ pr ≤ 12) (c2 : u.1 231 35 = nv ∧ 0 ≤ nv ∧ nv ≤ 12) (c3 : u.1 231 36 = m ∧ 0 ≤ m ∧ m ≤ 16) (c4 : u.1 231 42 = lk ∧ 0 ≤ lk ∧ lk ≤ 20000) (c5 : M.1.1 + 1 ≤ st + pr + nv + m) : MRr (addN M.1 x f w, st, pr, nv, wh, m, mx, lk) k v u := ⟨hN, h.2.1.added h.1.1.2.1 hn hf, c0, c1, c2, c3, c4, c5⟩
theorem PBr.added {M : sM} {k v : Int → Int} {S u : sS} {x tk so ra rb rc st pr : Int} {rs : Int × Int × Int × Int × Int} {f w : Int → Int} (h : PBr M S) (hN : NRr M.1 k v S) (hK : NK M.1) (hf : NF M.1 f w) (r : nRW S u (S.1 231 25) tk so ra rb rc) (c5 : S.1 231 32 ≤ u.1 231 32 ∧ u.1 231 32 ≤ 144 * pr) (gp : f 0 = 7 → rc + siz M.1 (f 3) * siz M.1 (f 4) ≤ u.1 231 32) : PBr (addN M.1 x f w, st, pr, rs) u := by
  have n1 := hN.1; have h1 := h.1
  refine ⟨⟨by omega, c5.2⟩, fun s s0 s1 z => ?_⟩
  have s1 : s < M.1.1 + 1 := s1
  have z : (addN M.1 x f w).2.2.1 s 0 = 7 := z
  show u.2.1 252 s + siz (addN M.1 x f w) ((addN M.1 x f w).2.2.1 s 3) * siz (addN M.1 x f w) ((addN M.1 x f w).2.2.1 s 4) ≤ u.1 231 32
  rw [r.2.2.2.2 s]
  by_cases c : s = M.1.1
  · rw [c, add_n] at z ⊢
    rw [if_pos (by omega), siz_add (hf.lt n1.2.1 (.inl z) (.inl rfl)), siz_add (hf.lt n1.2.1 (.inl z) (.inr rfl))]; exact gp z
  · rw [add_o c] at z ⊢
    rw [if_neg (by omega), siz_add (hK.lt n1.2.1 s0 (by omega) (.inl z) (.inl rfl)), siz_add (hK.lt n1.2.1 s0 (by omega) (.inl z) (.inr rfl))]
    have := h.2 s s0 (by omega) z; omega
theorem MRr.goal {M : sM} {k v : Int → Int} {S u : sS} {mx lk : Int} (h : MRr M k v S) (hN : NRr M.1 k v u) (c0 : u.1 231 33 = S.1 231 33) (c1 : u.1 231 34 = S.1 231 34) (c2 : u.1 231 35 = S.1 231 35) (c3 : u.1 231 36 = S.1 231 36) (c4 : u.1 231 42 = lk ∧ 0 ≤ lk ∧ lk ≤ 20000) : MRr (M.1, M.2.1, M.2.2.1, M.2.2.2.1, M.2.2.2.2.1, M.2.2.2.2.2.1, mx, lk) k v u := by
  obtain ⟨hN0, hK, d0, d1, d2, d3, d4, ds⟩ := h
  exact ⟨hN, hK, ⟨c0.trans d0.1, d0.2⟩, ⟨c1.trans d1.1, d1.2⟩, ⟨c2.trans d2.1, d2.2⟩, ⟨c3.trans d3.1, d3.2⟩, c4, ds⟩
/-- what a declaration leaves -/
def DOr (u : sS) (k v : Int → Int) (q : Int) (X : Option (sM × Int)) : Prop := Hd (u.1 231 20 ≠ 0 → X = none) ∧ Hd (u.1 231 20 = 0 → ∃ M, X = some (M, q) ∧ MRr M k v u ∧ PBr M u ∧ u.1 231 24 = q)
theorem cs_7 {a b c d e : Int} : (2 : Int) = cs (fct 7 a b c d e 0) := by rw [fct0]; rfl
theorem cs_8 {a b c d e : Int} : (3 : Int) = cs (fct 8 a b c d e 0) := by rw [fct0]; rfl
theorem cs_6 {a b c d e : Int} : (1 : Int) = cs (fct 6 a b c d e 0) := by rw [fct0]; rfl
theorem cs_10 {a b c d e : Int} : (4 : Int) = cs (fct 10 a b c d e 0) := by rw [fct0]; rfl
theorem nSx.sv {N : sN} {k v : Int → Int} {S u : sS} {t : Int} (h : NRr N k v S) (hK : NK N) (ht : SV N t) (e0 : ∀ x, 0 ≤ x → x < N.1 → u.2.1 250 x = S.2.1 250 x ∧ u.2.1 251 x = S.2.1 251 x) : nSx u t ∧ nSz u t = siz N t := by
  have h1 := h.1
  rcases ht with z | ⟨t0, t1, t6⟩
  · refine ⟨.inl z, ?_⟩
    unfold nSz siz; rw [if_pos z, if_pos (by omega)]
  · have a := (h.2.2 t t0 t1).2.1 t6; have b := (hK.2 t t0 t1).2.1 t6; have e := e0 t t0 t1
    refine ⟨.inr ⟨t0, by omega, by omega, by omega, by omega, by omega⟩, ?_⟩
    unfold nSz siz; rw [if_neg (by omega), if_neg (by omega), e.1, e.2, a.1, a.2]
set_option maxRecDepth 100000 in
set_option maxHeartbeats 4000000 in
theorem f_X12_find (l : Launch) (G : sG) (S : sS) {N : sN} {k v : Int → Int} {T tk : Int} (hI : dX G S) (hkr : Hd (KRr S k v T)) (hNr : Hd (NRn N k v S)) (hK_ : Hd (NDi N)) (hk2 : Hd (k tk = 2)) : Met l yX12_find (.code yX12_find cX12_find 5 (some .int) :: tb) (rmk 1 0 0) (sPc G 294 S [.ref (G.2.2.1 + 231), .int (iv tk)]) (sQi G 294 (fun r u => u = S ∧ ((-1 ≤ r ∧ r < S.1 231 25) ∧ Hd (r = eFind N (v tk))))) 0 0 (sF G) := by
  refine sEnter (by decide) (Nat.le_of_ble_eq_true rfl) ?_
  intro p e s m args below meth c Cx hr hlk hnm hW ls hl
  have Cx : sC G p m c cX12_find 5 s args RX12 := Cx
  obtain ⟨hx, hb, hml, hown, hts⟩ := id Cx.1
  have hL : sL G [] := sL_nil
  have hl : lv_has ls 5 [(0, .ref (G.2.2.1 + 231)), (1, .int (iv tk))] := hl
  have hW0 := hW
  obtain ⟨K, hK⟩ : ∃ z, S.2.1 244 = z := ⟨_, rfl⟩
  obtain ⟨V, hV⟩ : ∃ z, S.2.1 247 = z := ⟨_, rfl⟩
  obtain ⟨Fm, hFm⟩ : ∃ z, S.2.1 245 = z := ⟨_, rfl⟩
  obtain ⟨Wd, hWd⟩ : ∃ z, S.2.1 246 = z := ⟨_, rfl⟩
  have hkk : kr K V T = k := (by rw [← hK, ← hV]; exact hkr.1)
  have hTb := hkr.2.1
  have hN1 := hNr.1
  have htk2 := hkr.lt hk2 (by decide)
  have f1 := hkr.2.2.1 tk htk2.1 htk2.2
  refine lv_aload_n hx hb dX12_find_0 rfl (lv_at hl 0 rfl) ?_
  have q_1 : (-2147483648) ≤ S.1 231 25 ∧ S.1 231 25 ≤ 2147483647 := hI.fi 25
  refine g_X12_358 Cx hW (k := 231) (by decide) rfl (v := S.1 231 25) rfl dX12_find_1 ?_
  refine lv_iconst (v := iv 1) hx hb dX12_find_4 (by decide) ?_
  refine r_isub hx hb dX12_find_5 ?_
  refine lv_istore_n (lv' := [(2, .int (iv ((S.1 231 25) - 1))), (0, .ref (G.2.2.1 + 231)), (1, .int (iv tk))]) hx hb dX12_find_6 rfl hl (by decide) rfl (fun ls hl => ?_)
  have loop_7 : ∀ (fuel : Nat) (j : Int) (H : Heap) (locs : List Loc) (ls : Array Slot), (j + 1).toNat < fuel → (-1 ≤ j ∧ j < S.1 231 25) → (Hd (∀ s, j < s → s < N.1 → ¬ sameL S (S.2.1 248 s) tk)) → sW G 294 S H → sL G locs → lv_has ls 5 [(2, .int (iv j)), (0, .ref (G.2.2.1 + 231)), (1, .int (iv tk))] → W p l e (rmk 1 0 0) s m args below meth c H locs 0 0 (MQ below (sQi G 294 (fun r u => u = S ∧ ((-1 ≤ r ∧ r < S.1 231 25) ∧ Hd (r = eFind N (v tk))))) args s 0 0 (sF G)) (F0 m 7 ls []) := by
    intro fuel
    induction fuel with
    | zero => intro j H locs ls hmeas hj hno hW hL hl; exact absurd hmeas (Nat.not_lt_zero _)
    | succ fuel ih_7 =>
      intro j H locs ls hmeas hj hno hW hL hl
      refine lv_iload_n hx hb dX12_find_7 rfl (lv_at hl 0 rfl) ?_
      refine r_if_lt (tgt := 115) hx hb ⟨(by omega), (by omega)⟩ dX12_find_8 (by decide) (fun c_2 => ?_) (fun c_2 => ?_)
      · refine lv_iconst (v := iv (-1)) hx hb dX12_find_115 (by decide) ?_
        exact sIret Cx hr hlk hW hL ⟨rfl, ⟨(by omega), (NRn.n hNr hkr hk2 (fun s a b => hno s (by omega) b)).symm⟩⟩ dX12_find_116
      · have hj1 := hNr.2.1 j (by omega) (by omega)
        have hj2 := hkr.lt hj1.1 (by decide)
        have f2 := hkr.2.2.1 (S.2.1 248 j) hj2.1 hj2.2
        refine lv_aload_n hx hb dX12_find_11 rfl (lv_at hl 1 rfl) ?_
        refine g_X12_53 Cx hW (k := 231) (by decide) rfl (v := .ref (G.2.2.1 + 246)) (rd_17 hI) dX12_find_12 ?_
        refine lv_aload_n hx hb dX12_find_15 rfl (lv_at hl 1 rfl) ?_
        refine g_X12_59 Cx hW (k := 231) (by decide) rfl (v := .ref (G.2.2.1 + 248)) (rd_26 hI) dX12_find_16 ?_
        refine lv_iload_n hx hb dX12_find_19 rfl (lv_at hl 0 rfl) ?_
        refine rIald Cx hW (k := 248) (by decide) rfl (by decide) (by omega) (by omega) dX12_find_20 ?_
        have q_3 : (-2147483648) ≤ S.2.1 248 j ∧ S.2.1 248 j ≤ 2147483647 := hI.ai 248 j
        refine r_i (b := S.2.1 248 j) rfl ?_
        refine rIald Cx hW (k := 246) (by decide) rfl (by decide) (by omega) (by omega) dX12_find_21 ?_
        have q_4 : (-2147483648) ≤ S.2.1 246 (S.2.1 248 j) ∧ S.2.1 246 (S.2.1 248 j) ≤ 2147483647 := hI.ai 246 (S.2.1 248 j)
        refine r_i (b := S.2.1 246 (S.2.1 248 j)) rfl ?_
        refine lv_aload_n hx hb dX12_find_22 rfl (lv_at hl 1 rfl) ?_
        refine g_X12_53 Cx hW (k := 231) (by decide) rfl (v := .ref (G.2.2.1 + 246)) (rd_17 hI) dX12_find_23 ?_
        refine lv_iload_n hx hb dX12_find_26 rfl (lv_at hl 2 rfl) ?_
        refine rIald Cx hW (k := 246) (by decide) rfl (by decide) (by omega) (by omega) dX12_find_27 ?_
        have q_5 : (-2147483648) ≤ S.2.1 246 tk ∧ S.2.1 246 tk ≤ 2147483647 := hI.ai 246 tk
        refine r_i (b := S.2.1 246 tk) rfl ?_
        refine r_icmp_ne (tgt := 35) hx hb ⟨(by omega), (by omega)⟩ ⟨(by omega), (by omega)⟩ dX12_find_28 (by decide) (fun c_6 => ?_) (fun c_6 => ?_)
        · refine lv_iconst (v := iv 0) hx hb dX12_find_35 (by decide) ?_
          refine lv_istore_n (lv' := [(3, .int (iv 0)), (2, .int (iv j)), (0, .ref (G.2.2.1 + 231)), (1, .int (iv tk))]) hx hb dX12_find_36 rfl hl (by decide) rfl (fun ls hl => ?_)
          refine lv_iconst (v := iv 0) hx hb dX12_find_37 (by decide) ?_
          refine lv_istore (lv' := [(4, .int (iv 0)), (3, .int (iv 0)), (2, .int (iv j)), (0, .ref (G.2.2.1 + 231)), (1, .int (iv tk))]) hx hb dX12_find_38 hl (by decide) rfl (fun ls hl => ?_)
          have loop_40 : ∀ (fuel : Nat) (kk : Int) (ok : Int) (H : Heap) (locs : List Loc) (ls : Array Slot), (S.2.1 246 tk - kk).toNat < fuel → (0 ≤ kk ∧ kk ≤ S.2.1 246 tk) → ((0 ≤ ok ∧ ok ≤ 1) ∧ Hd (ok = 1 → kk = S.2.1 246 tk → sameL S (S.2.1 248 j) tk) ∧ Hd (ok = 0 → ¬ sameL S (S.2.1 248 j) tk) ∧ Hd (ok = 1 → S.2.1 246 (S.2.1 248 j) = S.2.1 246 tk ∧ ∀ i, 0 ≤ i → i < kk → S.2.1 243 (S.2.1 245 (S.2.1 248 j) + i) = S.2.1 243 (S.2.1 245 tk + i))) → sW G 294 S H → sL G locs → lv_has ls 5 [(4, .int (iv kk)), (3, .int (iv ok)), (2, .int (iv j)), (0, .ref (G.2.2.1 + 231)), (1, .int (iv tk))] → W p l e (rmk 1 0 0) s m args below meth c H locs 0 0 (MQ below (sQi G 294 (fun r u => u = S ∧ ((-1 ≤ r ∧ r < S.1 231 25) ∧ Hd (r = eFind N (v tk))))) args s 0 0 (sF G)) (F0 m 40 ls []) := by
            intro fuel
            induction fuel with
            | zero => intro kk ok H locs ls hmeas hk hok hW hL hl; exact absurd hmeas (Nat.not_lt_zero _)
            | succ fuel ih_40 =>
              intro kk ok H locs ls hmeas hk hok hW hL hl
              refine lv_iload hx hb dX12_find_40 (lv_at hl 0 rfl) ?_
              refine lv_aload_n hx hb dX12_find_42 rfl (lv_at hl 3 rfl) ?_
              refine g_X12_53 Cx hW (k := 231) (by decide) rfl (v := .ref (G.2.2.1 + 246)) (rd_17 hI) dX12_find_43 ?_
              refine lv_iload_n hx hb dX12_find_46 rfl (lv_at hl 4 rfl) ?_
              refine rIald Cx hW (k := 246) (by decide) rfl (by decide) (by omega) (by omega) dX12_find_47 ?_
              refine r_i (b := S.2.1 246 tk) rfl ?_
              refine r_icmp_ge (tgt := 103) hx hb ⟨(by omega), (by omega)⟩ ⟨(by omega), (by omega)⟩ dX12_find_48 (by decide) (fun c_7 => ?_) (fun c_7 => ?_)
              · refine lv_iload_n hx hb dX12_find_103 rfl (lv_at hl 1 rfl) ?_
                refine r_if_eq (tgt := 109) hx hb ⟨(by omega), (by omega)⟩ dX12_find_104 (by decide) (fun c_8 => ?_) (fun c_8 => ?_)
                · refine lv_iinc (v := iv (j + (-1))) (lv' := [(2, .int (iv (j + (-1)))), (4, .int (iv kk)), (3, .int (iv ok)), (0, .ref (G.2.2.1 + 231)), (1, .int (iv tk))]) hx hb dX12_find_109 hl (k := 2) rfl ((Int32.ofInt_add _ _).symm) (by decide) rfl (fun ls hl => ?_)
                  refine lv_goto (tgt := 7) hx hb dX12_find_112 (by decide) ?_
                  exact ih_7 (j + (-1)) _ _ _ (by omega) (by omega) (fun s a b => by by_cases z : s = j; (rw [z]; intro hs; exact hok.2.2.1 (by omega) hs); exact hno s (by omega) b) hW hL (lv_sub hl [0, 3, 4] rfl)
                · refine lv_iload_n hx hb dX12_find_107 rfl (lv_at hl 2 rfl) ?_
                  exact sIret Cx hr hlk hW hL ⟨rfl, ⟨(by omega), (NRn.y hNr hK_ hkr hk2 (by omega) (by omega) (hok.2.1 (by omega) (by omega))).symm⟩⟩ dX12_find_108
              · refine lv_iload_n hx hb dX12_find_51 rfl (lv_at hl 1 rfl) ?_
                refine r_if_eq (tgt := 103) hx hb ⟨(by omega), (by omega)⟩ dX12_find_52 (by decide) (fun c_9 => ?_) (fun c_9 => ?_)
                · refine lv_iload_n hx hb dX12_find_103 rfl (lv_at hl 1 rfl) ?_
                  refine r_if_eq (tgt := 109) hx hb ⟨(by omega), (by omega)⟩ dX12_find_104 (by decide) (fun c_10 => ?_) (fun c_10 => ?_)
                  · refine lv_iinc (v := iv (j + (-1))) (lv' := [(2, .int (iv (j + (-1)))), (4, .int (iv kk)), (3, .int (iv ok)), (0, .ref (G.2.2.1 + 231)), (1, .int (iv tk))]) hx hb dX12_find_109 hl (k := 2) rfl ((Int32.ofInt_add _ _).symm) (by decide) rfl (fun ls hl => ?_)
                    refine lv_goto (tgt := 7) hx hb dX12_find_112 (by decide) ?_
                    exact ih_7 (j + (-1)) _ _ _ (by omega) (by omega) (fun s a b => by by_cases z : s = j; (rw [z]; intro hs; exact hok.2.2.1 (by omega) hs); exact hno s (by omega) b) hW hL (lv_sub hl [0, 3, 4] rfl)
                  · refine lv_iload_n hx hb dX12_find_107 rfl (lv_at hl 2 rfl) ?_
                    exact sIret Cx hr hlk hW hL ⟨rfl, ⟨(by omega), (NRn.y hNr hK_ hkr hk2 (by omega) (by omega) (hok.2.1 (by omega) (by omega))).symm⟩⟩ dX12_find_108
                · have h4w := (hok.2.2.2 (by omega)).1
                  refine lv_aload_n hx hb dX12_find_55 rfl (lv_at hl 3 rfl) ?_
                  refine g_X12_44 Cx hW (k := 231) (by decide) rfl (v := .ref (G.2.2.1 + 243)) (rd_13 hI) dX12_find_56 ?_
                  refine lv_aload_n hx hb dX12_find_59 rfl (lv_at hl 3 rfl) ?_
                  refine g_X12_50 Cx hW (k := 231) (by decide) rfl (v := .ref (G.2.2.1 + 245)) (rd_16 hI) dX12_find_60 ?_
                  refine lv_aload_n hx hb dX12_find_63 rfl (lv_at hl 3 rfl) ?_
                  refine g_X12_59 Cx hW (k := 231) (by decide) rfl (v := .ref (G.2.2.1 + 248)) (rd_26 hI) dX12_find_64 ?_
                  refine lv_iload_n hx hb dX12_find_67 rfl (lv_at hl 2 rfl) ?_
                  refine rIald Cx hW (k := 248) (by decide) rfl (by decide) (by omega) (by omega) dX12_find_68 ?_
                  refine r_i (b := S.2.1 248 j) rfl ?_
                  refine rIald Cx hW (k := 245) (by decide) rfl (by decide) (by omega) (by omega) dX12_find_69 ?_
                  have q_11 : (-2147483648) ≤ S.2.1 245 (S.2.1 248 j) ∧ S.2.1 245 (S.2.1 248 j) ≤ 2147483647 := hI.ai 245 (S.2.1 248 j)
                  refine r_i (b := S.2.1 245 (S.2.1 248 j)) rfl ?_
                  refine lv_iload hx hb dX12_find_70 (lv_at hl 0 rfl) ?_
                  refine r_iadd hx hb dX12_find_72 ?_
                  refine rBald Cx hW (k := 243) (by decide) rfl (by decide) (by omega) (by omega) dX12_find_73 ?_
                  have q_12 : (-128) ≤ S.2.1 243 ((S.2.1 245 (S.2.1 248 j)) + kk) ∧ S.2.1 243 ((S.2.1 245 (S.2.1 248 j)) + kk) ≤ 127 := hI.ai 243 ((S.2.1 245 (S.2.1 248 j)) + kk)
                  refine r_i (b := S.2.1 243 ((S.2.1 245 (S.2.1 248 j)) + kk)) rfl ?_
                  refine lv_aload_n hx hb dX12_find_74 rfl (lv_at hl 3 rfl) ?_
                  refine g_X12_44 Cx hW (k := 231) (by decide) rfl (v := .ref (G.2.2.1 + 243)) (rd_13 hI) dX12_find_75 ?_
                  refine lv_aload_n hx hb dX12_find_78 rfl (lv_at hl 3 rfl) ?_
                  refine g_X12_50 Cx hW (k := 231) (by decide) rfl (v := .ref (G.2.2.1 + 245)) (rd_16 hI) dX12_find_79 ?_
                  refine lv_iload_n hx hb dX12_find_82 rfl (lv_at hl 4 rfl) ?_
                  refine rIald Cx hW (k := 245) (by decide) rfl (by decide) (by omega) (by omega) dX12_find_83 ?_
                  have q_13 : (-2147483648) ≤ S.2.1 245 tk ∧ S.2.1 245 tk ≤ 2147483647 := hI.ai 245 tk
                  refine r_i (b := S.2.1 245 tk) rfl ?_
                  refine lv_iload hx hb dX12_find_84 (lv_at hl 0 rfl) ?_
                  refine r_iadd hx hb dX12_find_86 ?_
                  refine rBald Cx hW (k := 243) (by decide) rfl (by decide) (by omega) (by omega) dX12_find_87 ?_
                  have q_14 : (-128) ≤ S.2.1 243 ((S.2.1 245 tk) + kk) ∧ S.2.1 243 ((S.2.1 245 tk) + kk) ≤ 127 := hI.ai 243 ((S.2.1 245 tk) + kk)
                  refine r_i (b := S.2.1 243 ((S.2.1 245 tk) + kk)) rfl ?_
                  refine r_icmp_ne (tgt := 95) hx hb ⟨(by omega), (by omega)⟩ ⟨(by omega), (by omega)⟩ dX12_find_88 (by decide) (fun c_15 => ?_) (fun c_15 => ?_)
                  · refine lv_iconst (v := iv 0) hx hb dX12_find_95 (by decide) ?_
                    refine lv_istore_n (lv' := [(3, .int (iv 0)), (4, .int (iv kk)), (2, .int (iv j)), (0, .ref (G.2.2.1 + 231)), (1, .int (iv tk))]) hx hb dX12_find_96 rfl hl (by decide) rfl (fun ls hl => ?_)
                    refine lv_iinc (v := iv (kk + 1)) (lv' := [(4, .int (iv (kk + 1))), (3, .int (iv 0)), (2, .int (iv j)), (0, .ref (G.2.2.1 + 231)), (1, .int (iv tk))]) hx hb dX12_find_97 hl (k := 1) rfl ((Int32.ofInt_add _ _).symm) (by decide) rfl (fun ls hl => ?_)
                    refine lv_goto (tgt := 40) hx hb dX12_find_100 (by decide) ?_
                    exact ih_40 (kk + 1) 0 _ _ _ (by omega) (by omega) ⟨(by omega), (fun h => absurd h (by decide)), (fun _ z => absurd (z.2 kk (by omega) (by omega)) (by omega)), (fun h => absurd h (by decide))⟩ hW hL (lv_sub hl [0, 1, 2, 3, 4] rfl)
                  · refine lv_iconst (v := iv 1) hx hb dX12_find_91 (by decide) ?_
                    refine lv_goto (tgt := 96) hx hb dX12_find_92 (by decide) ?_
                    refine lv_istore_n (lv' := [(3, .int (iv 1)), (4, .int (iv kk)), (2, .int (iv j)), (0, .ref (G.2.2.1 + 231)), (1, .int (iv tk))]) hx hb dX12_find_96 rfl hl (by decide) rfl (fun ls hl => ?_)
                    refine lv_iinc (v := iv (kk + 1)) (lv' := [(4, .int (iv (kk + 1))), (3, .int (iv 1)), (2, .int (iv j)), (0, .ref (G.2.2.1 + 231)), (1, .int (iv tk))]) hx hb dX12_find_97 hl (k := 1) rfl ((Int32.ofInt_add _ _).symm) (by decide) rfl (fun ls hl => ?_)
                    refine lv_goto (tgt := 40) hx hb dX12_find_100 (by decide) ?_
                    exact ih_40 (kk + 1) 1 _ _ _ (by omega) (by omega) ⟨(by omega), (fun _ z => by have h5 : S.2.1 246 (S.2.1 248 j) = S.2.1 246 tk ∧ ∀ i, 0 ≤ i → i < kk + 1 → S.2.1 243 (S.2.1 245 (S.2.1 248 j) + i) = S.2.1 243 (S.2.1 245 tk + i) := (by have h4 := hok.2.2.2 (by omega); refine ⟨h4.1, fun i a b => ?_⟩; by_cases z : i = kk; (rw [z]; omega); exact h4.2 i a (by omega)); exact ⟨h5.1, fun i a b => h5.2 i a (by omega)⟩), (fun h => absurd h (by decide)), (fun _ => (by have h4 := hok.2.2.2 (by omega); refine ⟨h4.1, fun i a b => ?_⟩; by_cases z : i = kk; (rw [z]; omega); exact h4.2 i a (by omega)))⟩ hW hL (lv_sub hl [0, 1, 2, 3, 4] rfl)
          exact loop_40 (_ + 1) 0 0 _ _ _ (Nat.lt_succ_self _) (by omega) ⟨(by omega), (fun h => absurd h (by decide)), (fun _ z => absurd z.1 (by omega)), (fun h => absurd h (by decide))⟩ hW hL (lv_sub hl [0, 1, 2, 3, 4] rfl)
        · refine lv_iconst (v := iv 1) hx hb dX12_find_31 (by decide) ?_
          refine lv_goto (tgt := 36) hx hb dX12_find_32 (by decide) ?_
          refine lv_istore_n (lv' := [(3, .int (iv 1)), (2, .int (iv j)), (0, .ref (G.2.2.1 + 231)), (1, .int (iv tk))]) hx hb dX12_find_36 rfl hl (by decide) rfl (fun ls hl => ?_)
          refine lv_iconst (v := iv 0) hx hb dX12_find_37 (by decide) ?_
          refine lv_istore (lv' := [(4, .int (iv 0)), (3, .int (iv 1)), (2, .int (iv j)), (0, .ref (G.2.2.1 + 231)), (1, .int (iv tk))]) hx hb dX12_find_38 hl (by decide) rfl (fun ls hl => ?_)
          have loop_40 : ∀ (fuel : Nat) (kk : Int) (ok : Int) (H : Heap) (locs : List Loc) (ls : Array Slot), (S.2.1 246 tk - kk).toNat < fuel → (0 ≤ kk ∧ kk ≤ S.2.1 246 tk) → ((0 ≤ ok ∧ ok ≤ 1) ∧ Hd (ok = 1 → kk = S.2.1 246 tk → sameL S (S.2.1 248 j) tk) ∧ Hd (ok = 0 → ¬ sameL S (S.2.1 248 j) tk) ∧ Hd (ok = 1 → S.2.1 246 (S.2.1 248 j) = S.2.1 246 tk ∧ ∀ i, 0 ≤ i → i < kk → S.2.1 243 (S.2.1 245 (S.2.1 248 j) + i) = S.2.1 243 (S.2.1 245 tk + i))) → sW G 294 S H → sL G locs → lv_has ls 5 [(4, .int (iv kk)), (3, .int (iv ok)), (2, .int (iv j)), (0, .ref (G.2.2.1 + 231)), (1, .int (iv tk))] → W p l e (rmk 1 0 0) s m args below meth c H locs 0 0 (MQ below (sQi G 294 (fun r u => u = S ∧ ((-1 ≤ r ∧ r < S.1 231 25) ∧ Hd (r = eFind N (v tk))))) args s 0 0 (sF G)) (F0 m 40 ls []) := by
            intro fuel
            induction fuel with
            | zero => intro kk ok H locs ls hmeas hk hok hW hL hl; exact absurd hmeas (Nat.not_lt_zero _)
            | succ fuel ih_40 =>
              intro kk ok H locs ls hmeas hk hok hW hL hl
              refine lv_iload hx hb dX12_find_40 (lv_at hl 0 rfl) ?_
              refine lv_aload_n hx hb dX12_find_42 rfl (lv_at hl 3 rfl) ?_
              refine g_X12_53 Cx hW (k := 231) (by decide) rfl (v := .ref (G.2.2.1 + 246)) (rd_17 hI) dX12_find_43 ?_
              refine lv_iload_n hx hb dX12_find_46 rfl (lv_at hl 4 rfl) ?_
              refine rIald Cx hW (k := 246) (by decide) rfl (by decide) (by omega) (by omega) dX12_find_47 ?_
              refine r_i (b := S.2.1 246 tk) rfl ?_
              refine r_icmp_ge (tgt := 103) hx hb ⟨(by omega), (by omega)⟩ ⟨(by omega), (by omega)⟩ dX12_find_48 (by decide) (fun c_16 => ?_) (fun c_16 => ?_)
              · refine lv_iload_n hx hb dX12_find_103 rfl (lv_at hl 1 rfl) ?_
                refine r_if_eq (tgt := 109) hx hb ⟨(by omega), (by omega)⟩ dX12_find_104 (by decide) (fun c_17 => ?_) (fun c_17 => ?_)
                · refine lv_iinc (v := iv (j + (-1))) (lv' := [(2, .int (iv (j + (-1)))), (4, .int (iv kk)), (3, .int (iv ok)), (0, .ref (G.2.2.1 + 231)), (1, .int (iv tk))]) hx hb dX12_find_109 hl (k := 2) rfl ((Int32.ofInt_add _ _).symm) (by decide) rfl (fun ls hl => ?_)
                  refine lv_goto (tgt := 7) hx hb dX12_find_112 (by decide) ?_
                  exact ih_7 (j + (-1)) _ _ _ (by omega) (by omega) (fun s a b => by by_cases z : s = j; (rw [z]; intro hs; exact hok.2.2.1 (by omega) hs); exact hno s (by omega) b) hW hL (lv_sub hl [0, 3, 4] rfl)
                · refine lv_iload_n hx hb dX12_find_107 rfl (lv_at hl 2 rfl) ?_
                  exact sIret Cx hr hlk hW hL ⟨rfl, ⟨(by omega), (NRn.y hNr hK_ hkr hk2 (by omega) (by omega) (hok.2.1 (by omega) (by omega))).symm⟩⟩ dX12_find_108
              · refine lv_iload_n hx hb dX12_find_51 rfl (lv_at hl 1 rfl) ?_
                refine r_if_eq (tgt := 103) hx hb ⟨(by omega), (by omega)⟩ dX12_find_52 (by decide) (fun c_18 => ?_) (fun c_18 => ?_)
                · refine lv_iload_n hx hb dX12_find_103 rfl (lv_at hl 1 rfl) ?_
                  refine r_if_eq (tgt := 109) hx hb ⟨(by omega), (by omega)⟩ dX12_find_104 (by decide) (fun c_19 => ?_) (fun c_19 => ?_)
                  · refine lv_iinc (v := iv (j + (-1))) (lv' := [(2, .int (iv (j + (-1)))), (4, .int (iv kk)), (3, .int (iv ok)), (0, .ref (G.2.2.1 + 231)), (1, .int (iv tk))]) hx hb dX12_find_109 hl (k := 2) rfl ((Int32.ofInt_add _ _).symm) (by decide) rfl (fun ls hl => ?_)
                    refine lv_goto (tgt := 7) hx hb dX12_find_112 (by decide) ?_
                    exact ih_7 (j + (-1)) _ _ _ (by omega) (by omega) (fun s a b => by by_cases z : s = j; (rw [z]; intro hs; exact hok.2.2.1 (by omega) hs); exact hno s (by omega) b) hW hL (lv_sub hl [0, 3, 4] rfl)
                  · refine lv_iload_n hx hb dX12_find_107 rfl (lv_at hl 2 rfl) ?_
                    exact sIret Cx hr hlk hW hL ⟨rfl, ⟨(by omega), (NRn.y hNr hK_ hkr hk2 (by omega) (by omega) (hok.2.1 (by omega) (by omega))).symm⟩⟩ dX12_find_108
                · have h4w := (hok.2.2.2 (by omega)).1
                  refine lv_aload_n hx hb dX12_find_55 rfl (lv_at hl 3 rfl) ?_
                  refine g_X12_44 Cx hW (k := 231) (by decide) rfl (v := .ref (G.2.2.1 + 243)) (rd_13 hI) dX12_find_56 ?_
                  refine lv_aload_n hx hb dX12_find_59 rfl (lv_at hl 3 rfl) ?_
                  refine g_X12_50 Cx hW (k := 231) (by decide) rfl (v := .ref (G.2.2.1 + 245)) (rd_16 hI) dX12_find_60 ?_
                  refine lv_aload_n hx hb dX12_find_63 rfl (lv_at hl 3 rfl) ?_
                  refine g_X12_59 Cx hW (k := 231) (by decide) rfl (v := .ref (G.2.2.1 + 248)) (rd_26 hI) dX12_find_64 ?_
                  refine lv_iload_n hx hb dX12_find_67 rfl (lv_at hl 2 rfl) ?_
                  refine rIald Cx hW (k := 248) (by decide) rfl (by decide) (by omega) (by omega) dX12_find_68 ?_
                  refine r_i (b := S.2.1 248 j) rfl ?_
                  refine rIald Cx hW (k := 245) (by decide) rfl (by decide) (by omega) (by omega) dX12_find_69 ?_
                  have q_20 : (-2147483648) ≤ S.2.1 245 (S.2.1 248 j) ∧ S.2.1 245 (S.2.1 248 j) ≤ 2147483647 := hI.ai 245 (S.2.1 248 j)
                  refine r_i (b := S.2.1 245 (S.2.1 248 j)) rfl ?_
                  refine lv_iload hx hb dX12_find_70 (lv_at hl 0 rfl) ?_
                  refine r_iadd hx hb dX12_find_72 ?_
                  refine rBald Cx hW (k := 243) (by decide) rfl (by decide) (by omega) (by omega) dX12_find_73 ?_
                  have q_21 : (-128) ≤ S.2.1 243 ((S.2.1 245 (S.2.1 248 j)) + kk) ∧ S.2.1 243 ((S.2.1 245 (S.2.1 248 j)) + kk) ≤ 127 := hI.ai 243 ((S.2.1 245 (S.2.1 248 j)) + kk)
                  refine r_i (b := S.2.1 243 ((S.2.1 245 (S.2.1 248 j)) + kk)) rfl ?_
                  refine lv_aload_n hx hb dX12_find_74 rfl (lv_at hl 3 rfl) ?_
                  refine g_X12_44 Cx hW (k := 231) (by decide) rfl (v := .ref (G.2.2.1 + 243)) (rd_13 hI) dX12_find_75 ?_
                  refine lv_aload_n hx hb dX12_find_78 rfl (lv_at hl 3 rfl) ?_
                  refine g_X12_50 Cx hW (k := 231) (by decide) rfl (v := .ref (G.2.2.1 + 245)) (rd_16 hI) dX12_find_79 ?_
                  refine lv_iload_n hx hb dX12_find_82 rfl (lv_at hl 4 rfl) ?_
                  refine rIald Cx hW (k := 245) (by decide) rfl (by decide) (by omega) (by omega) dX12_find_83 ?_
                  have q_22 : (-2147483648) ≤ S.2.1 245 tk ∧ S.2.1 245 tk ≤ 2147483647 := hI.ai 245 tk
                  refine r_i (b := S.2.1 245 tk) rfl ?_
                  refine lv_iload hx hb dX12_find_84 (lv_at hl 0 rfl) ?_
                  refine r_iadd hx hb dX12_find_86 ?_
                  refine rBald Cx hW (k := 243) (by decide) rfl (by decide) (by omega) (by omega) dX12_find_87 ?_
                  have q_23 : (-128) ≤ S.2.1 243 ((S.2.1 245 tk) + kk) ∧ S.2.1 243 ((S.2.1 245 tk) + kk) ≤ 127 := hI.ai 243 ((S.2.1 245 tk) + kk)
                  refine r_i (b := S.2.1 243 ((S.2.1 245 tk) + kk)) rfl ?_
                  refine r_icmp_ne (tgt := 95) hx hb ⟨(by omega), (by omega)⟩ ⟨(by omega), (by omega)⟩ dX12_find_88 (by decide) (fun c_24 => ?_) (fun c_24 => ?_)
                  · refine lv_iconst (v := iv 0) hx hb dX12_find_95 (by decide) ?_
                    refine lv_istore_n (lv' := [(3, .int (iv 0)), (4, .int (iv kk)), (2, .int (iv j)), (0, .ref (G.2.2.1 + 231)), (1, .int (iv tk))]) hx hb dX12_find_96 rfl hl (by decide) rfl (fun ls hl => ?_)
                    refine lv_iinc (v := iv (kk + 1)) (lv' := [(4, .int (iv (kk + 1))), (3, .int (iv 0)), (2, .int (iv j)), (0, .ref (G.2.2.1 + 231)), (1, .int (iv tk))]) hx hb dX12_find_97 hl (k := 1) rfl ((Int32.ofInt_add _ _).symm) (by decide) rfl (fun ls hl => ?_)
                    refine lv_goto (tgt := 40) hx hb dX12_find_100 (by decide) ?_
                    exact ih_40 (kk + 1) 0 _ _ _ (by omega) (by omega) ⟨(by omega), (fun h => absurd h (by decide)), (fun _ z => absurd (z.2 kk (by omega) (by omega)) (by omega)), (fun h => absurd h (by decide))⟩ hW hL (lv_sub hl [0, 1, 2, 3, 4] rfl)
                  · refine lv_iconst (v := iv 1) hx hb dX12_find_91 (by decide) ?_
                    refine lv_goto (tgt := 96) hx hb dX12_find_92 (by decide) ?_
                    refine lv_istore_n (lv' := [(3, .int (iv 1)), (4, .int (iv kk)), (2, .int (iv j)), (0, .ref (G.2.2.1 + 231)), (1, .int (iv tk))]) hx hb dX12_find_96 rfl hl (by decide) rfl (fun ls hl => ?_)
                    refine lv_iinc (v := iv (kk + 1)) (lv' := [(4, .int (iv (kk + 1))), (3, .int (iv 1)), (2, .int (iv j)), (0, .ref (G.2.2.1 + 231)), (1, .int (iv tk))]) hx hb dX12_find_97 hl (k := 1) rfl ((Int32.ofInt_add _ _).symm) (by decide) rfl (fun ls hl => ?_)
                    refine lv_goto (tgt := 40) hx hb dX12_find_100 (by decide) ?_
                    exact ih_40 (kk + 1) 1 _ _ _ (by omega) (by omega) ⟨(by omega), (fun _ z => by have h5 : S.2.1 246 (S.2.1 248 j) = S.2.1 246 tk ∧ ∀ i, 0 ≤ i → i < kk + 1 → S.2.1 243 (S.2.1 245 (S.2.1 248 j) + i) = S.2.1 243 (S.2.1 245 tk + i) := (by have h4 := hok.2.2.2 (by omega); refine ⟨h4.1, fun i a b => ?_⟩; by_cases z : i = kk; (rw [z]; omega); exact h4.2 i a (by omega)); exact ⟨h5.1, fun i a b => h5.2 i a (by omega)⟩), (fun h => absurd h (by decide)), (fun _ => (by have h4 := hok.2.2.2 (by omega); refine ⟨h4.1, fun i a b => ?_⟩; by_cases z : i = kk; (rw [z]; omega); exact h4.2 i a (by omega)))⟩ hW hL (lv_sub hl [0, 1, 2, 3, 4] rfl)
          exact loop_40 (_ + 1) 0 1 _ _ _ (Nat.lt_succ_self _) (by omega) ⟨(by omega), (fun _ z => ⟨(by omega), (fun i a b => absurd b (by omega))⟩), (fun h => absurd h (by decide)), (fun _ => ⟨(by omega), (fun i a b => absurd b (by omega))⟩)⟩ hW hL (lv_sub hl [0, 1, 2, 3, 4] rfl)
  exact loop_7 (_ + 1) ((S.1 231 25) - 1) _ _ _ (Nat.lt_succ_self _) (by omega) (fun s a b => absurd b (by omega)) hW hL (lv_sub hl [0, 1, 2] rfl)

set_option maxRecDepth 100000 in
set_option maxHeartbeats 4000000 in
theorem f_X12_setHere (l : Launch) (G : sG) (S : sS) {N : sN} {k v : Int → Int} {T pz : Int} (hI : dX G S) (hkr : Hd (KRr S k v T)) (hNr : Hd (NRn N k v S)) (hK_ : Hd (NDi N)) (hf0 : S.1 231 20 = 0) (hc : S.1 231 24 = pz) (hk2 : Hd (k pz = 2)) : Met l yX12_setHere (.code yX12_setHere cX12_setHere 2 (some .int) :: tb) (rmk 2 0 0) (sPc G 294 S [.ref (G.2.2.1 + 231)]) (sQi G 294 (fun r u => dX G u ∧ Fr S u (pl [231]) ∧ FF S u (fl [20, 21, 24]) ∧ ((-1 ≤ r ∧ r ≤ 128) ∧ u.1 231 24 = pz + 1 ∧ Hd (u.1 231 20 ≠ 0 → ¬ isS N (v pz)) ∧ Hd (u.1 231 20 = 0 → r = eFind N (v pz) ∧ isS N (v pz))))) 0 0 (sF G) := by
  refine sEnter (by decide) (Nat.le_of_ble_eq_true rfl) ?_
  intro p e s m args below meth c Cx hr hlk hnm hW ls hl
  have Cx : sC G p m c cX12_setHere 2 s args RX12 := Cx
  obtain ⟨hx, hb, hml, hown, hts⟩ := id Cx.1
  have hL : sL G [] := sL_nil
  have hl : lv_has ls 2 [(0, .ref (G.2.2.1 + 231))] := hl
  have hW0 := hW
  obtain ⟨K, hK⟩ : ∃ z, S.2.1 244 = z := ⟨_, rfl⟩
  obtain ⟨V, hV⟩ : ∃ z, S.2.1 247 = z := ⟨_, rfl⟩
  obtain ⟨Fm, hFm⟩ : ∃ z, S.2.1 245 = z := ⟨_, rfl⟩
  obtain ⟨Wd, hWd⟩ : ∃ z, S.2.1 246 = z := ⟨_, rfl⟩
  have hkk : kr K V T = k := (by rw [← hK, ← hV]; exact hkr.1)
  have hTb := hkr.2.1
  have hN1 := hNr.1
  have htk2 := hkr.lt hk2 (by decide)
  refine lv_aload_n hx hb dX12_setHere_0 rfl (lv_at hl 0 rfl) ?_
  have q_1 : (-2147483648) ≤ S.1 231 20 ∧ S.1 231 20 ≤ 2147483647 := hI.fi 20
  refine g_X12_270 Cx hW (k := 231) (by decide) rfl (v := S.1 231 20) rfl dX12_setHere_1 ?_
  refine r_if_eq (tgt := 9) hx hb ⟨(by omega), (by omega)⟩ dX12_setHere_4 (by decide) (fun _ => ?_) (fun c => absurd (by omega) c)
  refine lv_aload_n hx hb dX12_setHere_9 rfl (lv_at hl 0 rfl) ?_
  refine lv_aload_n hx hb dX12_setHere_10 rfl (lv_at hl 0 rfl) ?_
  have q_2 : (-2147483648) ≤ S.1 231 24 ∧ S.1 231 24 ≤ 2147483647 := hI.fi 24
  refine g_X12_315 Cx hW (k := 231) (by decide) rfl (v := S.1 231 24) rfl dX12_setHere_11 ?_
  have q_3 : (-2147483648) ≤ S.1 231 25 ∧ S.1 231 25 ≤ 2147483647 := hI.fi 25
  refine sBi (sV (As := [.int (iv (S.1 231 24))]) (rest := []) (k := 231) Cx (f_X12_find l G S (tk := S.1 231 24) hI hkr hNr hK_ (by rw [hc]; exact hk2)) (c_X12_361 Cx rfl rfl (rmk_ok (by omega) (by decide))) hW (by decide) rfl rfl rfl hl.1 rfl (Nat.le_of_ble_eq_true rfl) dX12_setHere_14 ⟨Nat.le_of_ble_eq_true rfl, Nat.le_of_ble_eq_true rfl⟩) hL (fun r_6 u_4 H locs k_5 hW hL => ?_)
  obtain ⟨eu_4, xu_4⟩ := k_5
  rw [eu_4] at hW
  refine lv_istore_n (lv' := [(1, .int (iv r_6)), (0, .ref (G.2.2.1 + 231))]) hx hb dX12_setHere_17 rfl hl (by decide) rfl (fun ls hl => ?_)
  refine lv_iload_n hx hb dX12_setHere_18 rfl (lv_at hl 0 rfl) ?_
  refine lv_iconst (v := iv (-1)) hx hb dX12_setHere_19 (by decide) ?_
  refine r_icmp_eq (tgt := 33) hx hb ⟨(by omega), (by omega)⟩ ⟨(by omega), (by omega)⟩ dX12_setHere_20 (by decide) (fun c_7 => ?_) (fun c_7 => ?_)
  · refine lv_aload_n hx hb dX12_setHere_33 rfl (lv_at hl 1 rfl) ?_
    refine lv_iconst (v := iv 2) hx hb dX12_setHere_34 (by decide) ?_
    refine lv_aload_n hx hb dX12_setHere_35 rfl (lv_at hl 1 rfl) ?_
    refine g_X12_315 Cx hW (k := 231) (by decide) rfl (v := S.1 231 24) rfl dX12_setHere_36 ?_
    refine sBv (sV (As := [.int (iv 2), .int (iv (S.1 231 24))]) (rest := []) (k := 231) Cx (s_X12_wrong l G S (cd := 2) (tk := S.1 231 24) hI (by omega) (by omega)) (c_X12_321 Cx rfl rfl (rmk_ok (by omega) (by decide))) hW (by decide) rfl rfl rfl hl.1 rfl (Nat.le_of_ble_eq_true rfl) dX12_setHere_39 ⟨Nat.le_of_ble_eq_true rfl, Nat.le_of_ble_eq_true rfl⟩) hL (fun u_8 H locs k_9 hW hL => ?_)
    obtain ⟨iu_8, fu_8, gu_8, xu_8⟩ := k_9
    have F_10 := (Fr.rf : Fr S S (pl [231])).trans fu_8
    have g_11 : FF S u_8 (fl [20, 21, 24]) := FF.trans FF.rf (FF.to gu_8 (fl_sub (by decide)))
    refine lv_aload_n hx hb dX12_setHere_42 rfl (lv_at hl 1 rfl) ?_
    refine lv_dup hx hb dX12_setHere_43 rfl ?_
    refine g_X12_315 Cx hW (k := 231) (by decide) rfl (v := S.1 231 24) (gu_8 24 rfl) dX12_setHere_44 ?_
    refine lv_iconst (v := iv 1) hx hb dX12_setHere_47 (by decide) ?_
    refine r_iadd hx hb dX12_setHere_48 ?_
    refine p_X12_315 Cx hW hL (k := 231) (by decide) rfl dX12_setHere_49 (fun H locs hW hL => ?_)
    have F_12 : Fr S (uF u_8 231 24 ((S.1 231 24) + 1)) (pl [231]) := F_10.F rfl
    have g_13 : FF S (uF u_8 231 24 ((S.1 231 24) + 1)) (fl [20, 21, 24]) := FF.F g_11 rfl
    have i_14 : dX G (uF u_8 231 24 ((S.1 231 24) + 1)) := iu_8.F (i := 24) (show (-2147483648) ≤ (S.1 231 24) + 1 ∧ (S.1 231 24) + 1 ≤ 2147483647 from ⟨by omega, by omega⟩)
    refine lv_aload_n hx hb dX12_setHere_52 rfl (lv_at hl 1 rfl) ?_
    have q_15 : (-2147483648) ≤ u_8.1 231 20 ∧ u_8.1 231 20 ≤ 2147483647 := iu_8.fi 20
    refine g_X12_270 Cx hW (k := 231) (by decide) rfl (v := u_8.1 231 20) (uF_ne (fun h => absurd h.2 (by decide))) dX12_setHere_53 ?_
    refine r_if_ne (tgt := 63) hx hb ⟨(by omega), (by omega)⟩ dX12_setHere_56 (by decide) (fun _ => ?_) (fun c => absurd c (by omega))
    refine lv_iconst (v := iv (-1)) hx hb dX12_setHere_63 (by decide) ?_
    have lk_16 : (uF u_8 231 24 ((S.1 231 24) + 1)).1 231 24 = (S.1 231 24) + 1 := uF_on
    have lk_17 : (uF u_8 231 24 ((S.1 231 24) + 1)).1 231 20 = u_8.1 231 20 := uF_ne (fun h => absurd h.2 (by decide))
    exact sIret Cx hr hlk hW hL ⟨i_14, F_12, g_13, ⟨(by omega), (by have e7 := (show (uF u_8 231 24 ((S.1 231 24) + 1)).1 231 24 = (S.1 231 24) + 1 from uF_on); omega), (fun _ z => by have q : r_6 = eFind N (v pz) := (by rw [← hc]; exact xu_4.2); have q2 := xu_4.1; have z1 := z.1; have z2 := z.2; rw [← q] at z1 z2; have c1 := (hNr.2.2 _ z1 (by omega)); omega), (fun h => absurd h (by have e9 := (show (uF u_8 231 24 ((S.1 231 24) + 1)).1 231 20 = u_8.1 231 20 from uF_ne (fun h => absurd h.2 (by decide))); have a9 := xu_8; omega))⟩⟩ dX12_setHere_64
  · refine lv_aload_n hx hb dX12_setHere_23 rfl (lv_at hl 1 rfl) ?_
    refine g_X12_62 Cx hW (k := 231) (by decide) rfl (v := .ref (G.2.2.1 + 249)) (rd_27 hI) dX12_setHere_24 ?_
    refine lv_iload_n hx hb dX12_setHere_27 rfl (lv_at hl 0 rfl) ?_
    refine rIald Cx hW (k := 249) (by decide) rfl (by decide) (by omega) (by omega) dX12_setHere_28 ?_
    have q_18 : (-2147483648) ≤ S.2.1 249 r_6 ∧ S.2.1 249 r_6 ≤ 2147483647 := hI.ai 249 r_6
    refine r_i (b := S.2.1 249 r_6) rfl ?_
    refine lv_iconst (v := iv 1) hx hb dX12_setHere_29 (by decide) ?_
    refine r_icmp_eq (tgt := 42) hx hb ⟨(by omega), (by omega)⟩ ⟨(by omega), (by omega)⟩ dX12_setHere_30 (by decide) (fun c_19 => ?_) (fun c_19 => ?_)
    · refine lv_aload_n hx hb dX12_setHere_42 rfl (lv_at hl 1 rfl) ?_
      refine lv_dup hx hb dX12_setHere_43 rfl ?_
      refine g_X12_315 Cx hW (k := 231) (by decide) rfl (v := S.1 231 24) rfl dX12_setHere_44 ?_
      refine lv_iconst (v := iv 1) hx hb dX12_setHere_47 (by decide) ?_
      refine r_iadd hx hb dX12_setHere_48 ?_
      refine p_X12_315 Cx hW hL (k := 231) (by decide) rfl dX12_setHere_49 (fun H locs hW hL => ?_)
      have F_20 : Fr S (uF S 231 24 ((S.1 231 24) + 1)) (pl [231]) := (Fr.rf : Fr S S (pl [231])).F rfl
      have g_21 : FF S (uF S 231 24 ((S.1 231 24) + 1)) (fl [20, 21, 24]) := FF.F FF.rf rfl
      have i_22 : dX G (uF S 231 24 ((S.1 231 24) + 1)) := hI.F (i := 24) (show (-2147483648) ≤ (S.1 231 24) + 1 ∧ (S.1 231 24) + 1 ≤ 2147483647 from ⟨by omega, by omega⟩)
      refine lv_aload_n hx hb dX12_setHere_52 rfl (lv_at hl 1 rfl) ?_
      refine g_X12_270 Cx hW (k := 231) (by decide) rfl (v := S.1 231 20) (uF_ne (fun h => absurd h.2 (by decide))) dX12_setHere_53 ?_
      refine r_if_ne (tgt := 63) hx hb ⟨(by omega), (by omega)⟩ dX12_setHere_56 (by decide) (fun c => absurd (by omega) c) (fun _ => ?_)
      refine lv_iload_n hx hb dX12_setHere_59 rfl (lv_at hl 0 rfl) ?_
      refine lv_goto (tgt := 64) hx hb dX12_setHere_60 (by decide) ?_
      have lk_23 : (uF S 231 24 ((S.1 231 24) + 1)).1 231 24 = (S.1 231 24) + 1 := uF_on
      have lk_24 : (uF S 231 24 ((S.1 231 24) + 1)).1 231 20 = S.1 231 20 := uF_ne (fun h => absurd h.2 (by decide))
      exact sIret Cx hr hlk hW hL ⟨i_22, F_20, g_21, ⟨(by omega), (by have e7 := (show (uF S 231 24 ((S.1 231 24) + 1)).1 231 24 = (S.1 231 24) + 1 from uF_on); omega), (fun h => absurd (show (uF S 231 24 ((S.1 231 24) + 1)).1 231 20 = 0 by have e9 := (show (uF S 231 24 ((S.1 231 24) + 1)).1 231 20 = S.1 231 20 from uF_ne (fun h => absurd h.2 (by decide))); omega) h), (fun _ => ⟨(by have q : r_6 = eFind N (v pz) := (by rw [← hc]; exact xu_4.2); have q2 := xu_4.1; omega), (by have q : r_6 = eFind N (v pz) := (by rw [← hc]; exact xu_4.2); have q2 := xu_4.1; rw [isS, ← q]; exact ⟨by omega, (hNr.2.2 _ (by omega) (by omega)).mp (by omega)⟩)⟩)⟩⟩ dX12_setHere_64
    · refine lv_aload_n hx hb dX12_setHere_33 rfl (lv_at hl 1 rfl) ?_
      refine lv_iconst (v := iv 2) hx hb dX12_setHere_34 (by decide) ?_
      refine lv_aload_n hx hb dX12_setHere_35 rfl (lv_at hl 1 rfl) ?_
      refine g_X12_315 Cx hW (k := 231) (by decide) rfl (v := S.1 231 24) rfl dX12_setHere_36 ?_
      refine sBv (sV (As := [.int (iv 2), .int (iv (S.1 231 24))]) (rest := []) (k := 231) Cx (s_X12_wrong l G S (cd := 2) (tk := S.1 231 24) hI (by omega) (by omega)) (c_X12_321 Cx rfl rfl (rmk_ok (by omega) (by decide))) hW (by decide) rfl rfl rfl hl.1 rfl (Nat.le_of_ble_eq_true rfl) dX12_setHere_39 ⟨Nat.le_of_ble_eq_true rfl, Nat.le_of_ble_eq_true rfl⟩) hL (fun u_25 H locs k_26 hW hL => ?_)
      obtain ⟨iu_25, fu_25, gu_25, xu_25⟩ := k_26
      have F_27 := (Fr.rf : Fr S S (pl [231])).trans fu_25
      have g_28 : FF S u_25 (fl [20, 21, 24]) := FF.trans FF.rf (FF.to gu_25 (fl_sub (by decide)))
      refine lv_aload_n hx hb dX12_setHere_42 rfl (lv_at hl 1 rfl) ?_
      refine lv_dup hx hb dX12_setHere_43 rfl ?_
      refine g_X12_315 Cx hW (k := 231) (by decide) rfl (v := S.1 231 24) (gu_25 24 rfl) dX12_setHere_44 ?_
      refine lv_iconst (v := iv 1) hx hb dX12_setHere_47 (by decide) ?_
      refine r_iadd hx hb dX12_setHere_48 ?_
      refine p_X12_315 Cx hW hL (k := 231) (by decide) rfl dX12_setHere_49 (fun H locs hW hL => ?_)
      have F_29 : Fr S (uF u_25 231 24 ((S.1 231 24) + 1)) (pl [231]) := F_27.F rfl
      have g_30 : FF S (uF u_25 231 24 ((S.1 231 24) + 1)) (fl [20, 21, 24]) := FF.F g_28 rfl
      have i_31 : dX G (uF u_25 231 24 ((S.1 231 24) + 1)) := iu_25.F (i := 24) (show (-2147483648) ≤ (S.1 231 24) + 1 ∧ (S.1 231 24) + 1 ≤ 2147483647 from ⟨by omega, by omega⟩)
      refine lv_aload_n hx hb dX12_setHere_52 rfl (lv_at hl 1 rfl) ?_
      have q_32 : (-2147483648) ≤ u_25.1 231 20 ∧ u_25.1 231 20 ≤ 2147483647 := iu_25.fi 20
      refine g_X12_270 Cx hW (k := 231) (by decide) rfl (v := u_25.1 231 20) (uF_ne (fun h => absurd h.2 (by decide))) dX12_setHere_53 ?_
      refine r_if_ne (tgt := 63) hx hb ⟨(by omega), (by omega)⟩ dX12_setHere_56 (by decide) (fun _ => ?_) (fun c => absurd c (by omega))
      refine lv_iconst (v := iv (-1)) hx hb dX12_setHere_63 (by decide) ?_
      have lk_33 : (uF u_25 231 24 ((S.1 231 24) + 1)).1 231 24 = (S.1 231 24) + 1 := uF_on
      have lk_34 : (uF u_25 231 24 ((S.1 231 24) + 1)).1 231 20 = u_25.1 231 20 := uF_ne (fun h => absurd h.2 (by decide))
      exact sIret Cx hr hlk hW hL ⟨i_31, F_29, g_30, ⟨(by omega), (by have e7 := (show (uF u_25 231 24 ((S.1 231 24) + 1)).1 231 24 = (S.1 231 24) + 1 from uF_on); omega), (fun _ z => by have q : r_6 = eFind N (v pz) := (by rw [← hc]; exact xu_4.2); have q2 := xu_4.1; have z1 := z.1; have z2 := z.2; rw [← q] at z1 z2; have c1 := (hNr.2.2 _ z1 (by omega)); omega), (fun h => absurd h (by have e9 := (show (uF u_25 231 24 ((S.1 231 24) + 1)).1 231 20 = u_25.1 231 20 from uF_ne (fun h => absurd h.2 (by decide))); have a9 := xu_25; omega))⟩⟩ dX12_setHere_64

set_option maxRecDepth 100000 in
set_option maxHeartbeats 4000000 in
theorem e_X12_indexesOf (l : Launch) (G : sG) (S : sS) {N Nq : sN} {k v : Int → Int} {T pz q nm : Int} (hI : dX G S) (hkr : Hd (KRr S k v T)) (hNr : Hd (NRn N k v S)) (hK_ : Hd (NDi N)) (hf0 : S.1 231 20 = 0) (hc : S.1 231 24 = pz) (hgi : Hd (ogI k pz = some q)) (hpq : 0 ≤ pz ∧ q ≤ T - 1) (hnb : 0 ≤ nm ∧ nm < 700) (hone : S.2.1 250 nm = -1 ∧ S.2.1 251 nm = -1) (hiS : Hd (∀ y, isS N y ↔ isS Nq y)) (hiF : Hd (∀ y, isS Nq y → eFind N y = eFind Nq y)) : Met l yX12_indexesOf (.code yX12_indexesOf cX12_indexesOf 2 none :: tb) (rmk 3 0 0) (sPc G 294 S [.ref (G.2.2.1 + 231), .int (iv nm)]) (sQv G 294 (fun u => dX G u ∧ Fr S u (pl [231, 250, 251]) ∧ FF S u (fl [20, 21, 24]) ∧ ((∀ x, x ≠ nm → u.2.1 250 x = S.2.1 250 x ∧ u.2.1 251 x = S.2.1 251 x) ∧ Hd (u.1 231 20 ≠ 0 → eIx k v Nq pz = none) ∧ Hd (u.1 231 20 = 0 → eIx k v Nq pz = some (u.2.1 250 nm, u.2.1 251 nm, q) ∧ u.1 231 24 = q)))) 0 0 (sF G) := by
  refine sEnter (by decide) (Nat.le_of_ble_eq_true rfl) ?_
  intro p e s m args below meth c Cx hr hlk hnm hW ls hl
  have Cx : sC G p m c cX12_indexesOf 2 s args RX12 := Cx
  obtain ⟨hx, hb, hml, hown, hts⟩ := id Cx.1
  have hL : sL G [] := sL_nil
  have hl : lv_has ls 2 [(0, .ref (G.2.2.1 + 231)), (1, .int (iv nm))] := hl
  have hW0 := hW
  obtain ⟨K, hK⟩ : ∃ z, S.2.1 244 = z := ⟨_, rfl⟩
  obtain ⟨V, hV⟩ : ∃ z, S.2.1 247 = z := ⟨_, rfl⟩
  obtain ⟨Fm, hFm⟩ : ∃ z, S.2.1 245 = z := ⟨_, rfl⟩
  obtain ⟨Wd, hWd⟩ : ∃ z, S.2.1 246 = z := ⟨_, rfl⟩
  have hkk : kr K V T = k := (by rw [← hK, ← hV]; exact hkr.1)
  have hTb := hkr.2.1
  have hN1 := hNr.1
  have hgl := ogI_le hgi
  refine lv_aload_n hx hb dX12_indexesOf_0 rfl (lv_at hl 0 rfl) ?_
  have q_1 : (-2147483648) ≤ S.1 231 20 ∧ S.1 231 20 ≤ 2147483647 := hI.fi 20
  refine g_X12_270 Cx hW (k := 231) (by decide) rfl (v := S.1 231 20) rfl dX12_indexesOf_1 ?_
  refine r_if_ne (tgt := 16) hx hb ⟨(by omega), (by omega)⟩ dX12_indexesOf_4 (by decide) (fun c => absurd (by omega) c) (fun _ => ?_)
  refine lv_aload_n hx hb dX12_indexesOf_7 rfl (lv_at hl 0 rfl) ?_
  refine lv_bipush (v := iv 91) hx hb dX12_indexesOf_8 (by decide) ?_
  have q_2 : (-2147483648) ≤ S.1 231 24 ∧ S.1 231 24 ≤ 2147483647 := hI.fi 24
  refine sBi (sV (As := [.int (iv 91)]) (rest := []) (k := 231) Cx (s_X12_isSign l G S (sv := 91) (K := K) (V := V) (pz := pz) hI (by omega) hK hV (by omega) (by omega)) (c_X12_318 Cx rfl rfl (rmk_ok (by omega) (by decide))) hW (by decide) rfl rfl rfl hl.1 rfl (Nat.le_of_ble_eq_true rfl) dX12_indexesOf_10 ⟨Nat.le_of_ble_eq_true rfl, Nat.le_of_ble_eq_true rfl⟩) hL (fun r_5 u_3 H locs k_4 hW hL => ?_)
  obtain ⟨eu_3, xu_3⟩ := k_4
  rw [eu_3] at hW
  have tu_3a : Hd (r_5 = 1 → k (pz) = 17) := (fun h => by rw [← hkk]; exact (osg_91 K V T _).1 (by omega) (by omega) (xu_3.2.1 h))
  have tu_3b : Hd (r_5 ≠ 1 → k (pz) ≠ 17) := (fun h z => xu_3.2.2 h ((osg_91 K V T _).2 (by rw [hkk]; exact z)))
  refine r_if_ne (tgt := 17) hx hb ⟨(by omega), (by omega)⟩ dX12_indexesOf_13 (by decide) (fun c_6 => ?_) (fun c_6 => ?_)
  · have k17 : k pz = 17 := tu_3a (by omega)
    obtain ⟨hk1, hg2⟩ : k (pz + 1) = 2 ∧ Hd ((k (pz + 2) ≠ 16 ∧ k (pz + 2) = 18 ∧ q = pz + 3) ∨ (k (pz + 2) = 16 ∧ k (pz + 3) = 2 ∧ k (pz + 4) = 18 ∧ q = pz + 5)) := (by rcases ogI_i hgi with z | z; (exact absurd k17 z.1); (exact z.2))
    have hq3 : pz + 3 ≤ q := (by rcases hg2 with z | z; (have z2 := z.2.2; omega); (have z2 := z.2.2.2; omega))
    refine lv_aload_n hx hb dX12_indexesOf_17 rfl (lv_at hl 0 rfl) ?_
    refine lv_dup hx hb dX12_indexesOf_18 rfl ?_
    refine g_X12_315 Cx hW (k := 231) (by decide) rfl (v := S.1 231 24) rfl dX12_indexesOf_19 ?_
    refine lv_iconst (v := iv 1) hx hb dX12_indexesOf_22 (by decide) ?_
    refine r_iadd hx hb dX12_indexesOf_23 ?_
    refine p_X12_315 Cx hW hL (k := 231) (by decide) rfl dX12_indexesOf_24 (fun H locs hW hL => ?_)
    have F_7 : Fr S (uF S 231 24 ((S.1 231 24) + 1)) (pl [231, 250, 251]) := (Fr.rf : Fr S S (pl [231, 250, 251])).F rfl
    have g_8 : FF S (uF S 231 24 ((S.1 231 24) + 1)) (fl [20, 21, 24]) := FF.F FF.rf rfl
    have i_9 : dX G (uF S 231 24 ((S.1 231 24) + 1)) := hI.F (i := 24) (show (-2147483648) ≤ (S.1 231 24) + 1 ∧ (S.1 231 24) + 1 ≤ 2147483647 from ⟨by omega, by omega⟩)
    refine lv_aload_n hx hb dX12_indexesOf_27 rfl (lv_at hl 0 rfl) ?_
    refine g_X12_65 Cx hW (k := 231) (by decide) rfl (v := .ref (G.2.2.1 + 250)) (rd_28 i_9) dX12_indexesOf_28 ?_
    refine lv_iload_n hx hb dX12_indexesOf_31 rfl (lv_at hl 1 rfl) ?_
    refine lv_aload_n hx hb dX12_indexesOf_32 rfl (lv_at hl 0 rfl) ?_
    have lk_10 : (uF S 231 24 ((S.1 231 24) + 1)).1 231 20 = S.1 231 20 := uF_ne (fun h => absurd h.2 (by decide))
    have lk_11 : (uF S 231 24 ((S.1 231 24) + 1)).1 231 24 = (S.1 231 24) + 1 := uF_on
    have kr_12 : KRr (uF S 231 24 ((S.1 231 24) + 1)) k v T := hkr.of (funext fun j => uF_a) (funext fun j => uF_a) (funext fun j => uF_a) (funext fun j => uF_a) (funext fun j => uF_a)
    refine sBi (sV (As := []) (rest := [.int (iv nm), .ref (G.2.2.1 + 250)]) (k := 231) Cx (f_X12_setHere l G (uF S 231 24 ((S.1 231 24) + 1)) (pz := (pz) + 1) i_9 kr_12 (hNr.of (uF_ne (fun h => absurd h.2 (by decide))) (funext fun j => uF_a) (funext fun j => uF_a)) hK_ (by omega) (by omega) (by rw [show (pz) + 1 = pz + 1 by omega]; exact hk1)) (c_X12_364 Cx rfl rfl (rmk_ok (by omega) (by decide))) hW (by decide) rfl rfl rfl hl.1 rfl (Nat.le_of_ble_eq_true rfl) dX12_indexesOf_33 ⟨Nat.le_of_ble_eq_true rfl, Nat.le_of_ble_eq_true rfl⟩) hL (fun r_15 u_13 H locs k_14 hW hL => ?_)
    obtain ⟨iu_13, fu_13, gu_13, xu_13⟩ := k_14
    have F_16 := F_7.trans (fu_13.to (pl_sub (by decide)))
    have g_17 : FF S u_13 (fl [20, 21, 24]) := FF.trans g_8 (FF.to gu_13 (fl_sub (by decide)))
    have e24a := xu_13.2.1
    refine rIast Cx hW hL (k := 250) (by decide) rfl (by decide) (by omega) (by omega) dX12_indexesOf_36 (fun H locs hW hL => ?_)
    have F_18 : Fr S (uA u_13 250 nm r_15) (pl [231, 250, 251]) := F_16.A rfl
    have i_19 : dX G (uA u_13 250 nm r_15) := iu_13.A (k := 250) (show (-2147483648) ≤ r_15 ∧ r_15 ≤ 2147483647 from ⟨by omega, by omega⟩)
    refine lv_aload_n hx hb dX12_indexesOf_37 rfl (lv_at hl 0 rfl) ?_
    have q_20 : (-2147483648) ≤ u_13.1 231 20 ∧ u_13.1 231 20 ≤ 2147483647 := iu_13.fi 20
    refine g_X12_270 Cx hW (k := 231) (by decide) rfl (v := u_13.1 231 20) uA_f dX12_indexesOf_38 ?_
    refine r_if_ne (tgt := 73) hx hb ⟨(by omega), (by omega)⟩ dX12_indexesOf_41 (by decide) (fun c_21 => ?_) (fun c_21 => ?_)
    · refine lv_aload_n hx hb dX12_indexesOf_73 rfl (lv_at hl 0 rfl) ?_
      refine lv_dup hx hb dX12_indexesOf_74 rfl ?_
      have q_22 : (-2147483648) ≤ u_13.1 231 24 ∧ u_13.1 231 24 ≤ 2147483647 := iu_13.fi 24
      refine g_X12_315 Cx hW (k := 231) (by decide) rfl (v := u_13.1 231 24) uA_f dX12_indexesOf_75 ?_
      refine lv_iconst (v := iv 1) hx hb dX12_indexesOf_78 (by decide) ?_
      refine r_iadd hx hb dX12_indexesOf_79 ?_
      refine p_X12_315 Cx hW hL (k := 231) (by decide) rfl dX12_indexesOf_80 (fun H locs hW hL => ?_)
      have F_23 : Fr S (uF (uA u_13 250 nm r_15) 231 24 ((u_13.1 231 24) + 1)) (pl [231, 250, 251]) := F_18.F rfl
      have g_24 : FF S (uF (uA u_13 250 nm r_15) 231 24 ((u_13.1 231 24) + 1)) (fl [20, 21, 24]) := FF.F g_17 rfl
      have i_25 : dX G (uF (uA u_13 250 nm r_15) 231 24 ((u_13.1 231 24) + 1)) := i_19.F (i := 24) (show (-2147483648) ≤ (u_13.1 231 24) + 1 ∧ (u_13.1 231 24) + 1 ≤ 2147483647 from ⟨by omega, by omega⟩)
      have lk_26 : (uF (uA u_13 250 nm r_15) 231 24 ((u_13.1 231 24) + 1)).1 231 20 = u_13.1 231 20 := (uF_ne (fun h => absurd h.2 (by decide))).trans (uA_f)
      have lk_27 : (uF (uA u_13 250 nm r_15) 231 24 ((u_13.1 231 24) + 1)).1 231 24 = (u_13.1 231 24) + 1 := uF_on
      exact sVret Cx hr hlk hW hL ⟨i_25, F_23, g_24, ⟨(fun x a => ⟨(uF_a).trans ((uA_ne (fun h => a h.2)).trans (((fu_13 250 rfl).2.1 x).trans (uF_a))), (uF_a).trans ((uA_ne (fun h => absurd h.1 (by decide))).trans (((fu_13 251 rfl).2.1 x).trans (uF_a)))⟩), (fun _ => eIx_1 k17 (fun z => xu_13.2.2.1 (by omega) ((hiS _).mpr z))), (fun h => absurd h (by have e9 := (show (uF (uA u_13 250 nm r_15) 231 24 ((u_13.1 231 24) + 1)).1 231 20 = u_13.1 231 20 from (uF_ne (fun h => absurd h.2 (by decide))).trans (uA_f)); omega))⟩⟩ dX12_indexesOf_83
    · have a1 := xu_13.2.2.2 (by omega)
      have d1 := (hiS _).mp a1.2
      refine lv_aload_n hx hb dX12_indexesOf_44 rfl (lv_at hl 0 rfl) ?_
      refine lv_bipush (v := iv 44) hx hb dX12_indexesOf_45 (by decide) ?_
      have q_28 : (-2147483648) ≤ u_13.1 231 24 ∧ u_13.1 231 24 ≤ 2147483647 := iu_13.fi 24
      have lk_29 : (uA u_13 250 nm r_15).1 231 24 = u_13.1 231 24 := uA_f
      refine sBi (sV (As := [.int (iv 44)]) (rest := []) (k := 231) Cx (s_X12_isSign l G (uA u_13 250 nm r_15) (sv := 44) (K := K) (V := V) (pz := pz + 1 + 1) i_19 (by omega) ((funext fun j => (uA_ne (fun h => absurd h.1 (by decide))).trans (((fu_13 244 rfl).2.1 j).trans (uF_a)) : (uA u_13 250 nm r_15).2.1 244 = S.2.1 244).trans hK) ((funext fun j => (uA_ne (fun h => absurd h.1 (by decide))).trans (((fu_13 247 rfl).2.1 j).trans (uF_a)) : (uA u_13 250 nm r_15).2.1 247 = S.2.1 247).trans hV) (by omega) (by omega)) (c_X12_318 Cx rfl rfl (rmk_ok (by omega) (by decide))) hW (by decide) rfl rfl rfl hl.1 rfl (Nat.le_of_ble_eq_true rfl) dX12_indexesOf_47 ⟨Nat.le_of_ble_eq_true rfl, Nat.le_of_ble_eq_true rfl⟩) hL (fun r_32 u_30 H locs k_31 hW hL => ?_)
      obtain ⟨eu_30, xu_30⟩ := k_31
      rw [eu_30] at hW
      have tu_30a : Hd (r_32 = 1 → k (pz + 1 + 1) = 16) := (fun h => by rw [← hkk]; exact (osg_44 K V T _).1 (by omega) (by omega) (xu_30.2.1 h))
      have tu_30b : Hd (r_32 ≠ 1 → k (pz + 1 + 1) ≠ 16) := (fun h z => xu_30.2.2 h ((osg_44 K V T _).2 (by rw [hkk]; exact z)))
      refine r_if_eq (tgt := 73) hx hb ⟨(by omega), (by omega)⟩ dX12_indexesOf_50 (by decide) (fun c_33 => ?_) (fun c_33 => ?_)
      · have n16 : k (pz + 2) ≠ 16 := (by rw [show pz + 2 = pz + 1 + 1 by omega]; exact tu_30b (by omega))
        have hq4 : q = pz + 3 := (by rcases hg2 with z | z; (exact z.2.2); (exact absurd z.1 n16))
        refine lv_aload_n hx hb dX12_indexesOf_73 rfl (lv_at hl 0 rfl) ?_
        refine lv_dup hx hb dX12_indexesOf_74 rfl ?_
        refine g_X12_315 Cx hW (k := 231) (by decide) rfl (v := u_13.1 231 24) uA_f dX12_indexesOf_75 ?_
        refine lv_iconst (v := iv 1) hx hb dX12_indexesOf_78 (by decide) ?_
        refine r_iadd hx hb dX12_indexesOf_79 ?_
        refine p_X12_315 Cx hW hL (k := 231) (by decide) rfl dX12_indexesOf_80 (fun H locs hW hL => ?_)
        have F_34 : Fr S (uF (uA u_13 250 nm r_15) 231 24 ((u_13.1 231 24) + 1)) (pl [231, 250, 251]) := F_18.F rfl
        have g_35 : FF S (uF (uA u_13 250 nm r_15) 231 24 ((u_13.1 231 24) + 1)) (fl [20, 21, 24]) := FF.F g_17 rfl
        have i_36 : dX G (uF (uA u_13 250 nm r_15) 231 24 ((u_13.1 231 24) + 1)) := i_19.F (i := 24) (show (-2147483648) ≤ (u_13.1 231 24) + 1 ∧ (u_13.1 231 24) + 1 ≤ 2147483647 from ⟨by omega, by omega⟩)
        have lk_37 : (uF (uA u_13 250 nm r_15) 231 24 ((u_13.1 231 24) + 1)).1 231 20 = u_13.1 231 20 := (uF_ne (fun h => absurd h.2 (by decide))).trans (uA_f)
        have lk_38 : (uF (uA u_13 250 nm r_15) 231 24 ((u_13.1 231 24) + 1)).1 231 24 = (u_13.1 231 24) + 1 := uF_on
        exact sVret Cx hr hlk hW hL ⟨i_36, F_34, g_35, ⟨(fun x a => ⟨(uF_a).trans ((uA_ne (fun h => a h.2)).trans (((fu_13 250 rfl).2.1 x).trans (uF_a))), (uF_a).trans ((uA_ne (fun h => absurd h.1 (by decide))).trans (((fu_13 251 rfl).2.1 x).trans (uF_a)))⟩), (fun h => absurd (show (uF (uA u_13 250 nm r_15) 231 24 ((u_13.1 231 24) + 1)).1 231 20 = 0 by have e9 := (show (uF (uA u_13 250 nm r_15) 231 24 ((u_13.1 231 24) + 1)).1 231 20 = u_13.1 231 20 from (uF_ne (fun h => absurd h.2 (by decide))).trans (uA_f)); omega) h), (fun _ => ⟨(by rw [show (uF (uA u_13 250 nm r_15) 231 24 ((u_13.1 231 24) + 1)).2.1 250 nm = r_15 from (uF_a).trans uA_on, show (uF (uA u_13 250 nm r_15) 231 24 ((u_13.1 231 24) + 1)).2.1 251 nm = S.2.1 251 nm from (uF_a).trans ((uA_ne (fun h => absurd h.1 (by decide))).trans (((fu_13 251 rfl).2.1 nm).trans (uF_a))), hone.2, a1.1, hiF _ d1, eIx_2 k17 d1 n16, hq4]), (by have e7 := (show (uF (uA u_13 250 nm r_15) 231 24 ((u_13.1 231 24) + 1)).1 231 24 = (u_13.1 231 24) + 1 from uF_on); omega)⟩)⟩⟩ dX12_indexesOf_83
      · have y16 : k (pz + 2) = 16 := (by rw [show pz + 2 = pz + 1 + 1 by omega]; exact tu_30a (by omega))
        obtain ⟨hk3, hq5⟩ : k (pz + 3) = 2 ∧ q = pz + 5 := (by rcases hg2 with z | z; (exact absurd y16 z.1); (exact ⟨z.2.1, z.2.2.2⟩))
        refine lv_aload_n hx hb dX12_indexesOf_53 rfl (lv_at hl 0 rfl) ?_
        refine lv_dup hx hb dX12_indexesOf_54 rfl ?_
        refine g_X12_315 Cx hW (k := 231) (by decide) rfl (v := u_13.1 231 24) uA_f dX12_indexesOf_55 ?_
        refine lv_iconst (v := iv 1) hx hb dX12_indexesOf_58 (by decide) ?_
        refine r_iadd hx hb dX12_indexesOf_59 ?_
        refine p_X12_315 Cx hW hL (k := 231) (by decide) rfl dX12_indexesOf_60 (fun H locs hW hL => ?_)
        have F_39 : Fr S (uF (uA u_13 250 nm r_15) 231 24 ((u_13.1 231 24) + 1)) (pl [231, 250, 251]) := F_18.F rfl
        have g_40 : FF S (uF (uA u_13 250 nm r_15) 231 24 ((u_13.1 231 24) + 1)) (fl [20, 21, 24]) := FF.F g_17 rfl
        have i_41 : dX G (uF (uA u_13 250 nm r_15) 231 24 ((u_13.1 231 24) + 1)) := i_19.F (i := 24) (show (-2147483648) ≤ (u_13.1 231 24) + 1 ∧ (u_13.1 231 24) + 1 ≤ 2147483647 from ⟨by omega, by omega⟩)
        refine lv_aload_n hx hb dX12_indexesOf_63 rfl (lv_at hl 0 rfl) ?_
        refine g_X12_68 Cx hW (k := 231) (by decide) rfl (v := .ref (G.2.2.1 + 251)) (rd_29 i_41) dX12_indexesOf_64 ?_
        refine lv_iload_n hx hb dX12_indexesOf_67 rfl (lv_at hl 1 rfl) ?_
        refine lv_aload_n hx hb dX12_indexesOf_68 rfl (lv_at hl 0 rfl) ?_
        have lk_42 : (uF (uA u_13 250 nm r_15) 231 24 ((u_13.1 231 24) + 1)).1 231 20 = u_13.1 231 20 := (uF_ne (fun h => absurd h.2 (by decide))).trans (uA_f)
        have lk_43 : (uF (uA u_13 250 nm r_15) 231 24 ((u_13.1 231 24) + 1)).1 231 24 = (u_13.1 231 24) + 1 := uF_on
        have kr_44 : KRr (uF (uA u_13 250 nm r_15) 231 24 ((u_13.1 231 24) + 1)) k v T := hkr.of (funext fun j => (uF_a).trans ((uA_ne (fun h => absurd h.1 (by decide))).trans (((fu_13 243 rfl).2.1 j).trans (uF_a)))) (funext fun j => (uF_a).trans ((uA_ne (fun h => absurd h.1 (by decide))).trans (((fu_13 244 rfl).2.1 j).trans (uF_a)))) (funext fun j => (uF_a).trans ((uA_ne (fun h => absurd h.1 (by decide))).trans (((fu_13 245 rfl).2.1 j).trans (uF_a)))) (funext fun j => (uF_a).trans ((uA_ne (fun h => absurd h.1 (by decide))).trans (((fu_13 246 rfl).2.1 j).trans (uF_a)))) (funext fun j => (uF_a).trans ((uA_ne (fun h => absurd h.1 (by decide))).trans (((fu_13 247 rfl).2.1 j).trans (uF_a))))
        refine sBi (sV (As := []) (rest := [.int (iv nm), .ref (G.2.2.1 + 251)]) (k := 231) Cx (f_X12_setHere l G (uF (uA u_13 250 nm r_15) 231 24 ((u_13.1 231 24) + 1)) (pz := pz + 1 + 1 + 1) i_41 kr_44 (hNr.of ((uF_ne (fun h => absurd h.2 (by decide))).trans ((uA_f).trans ((gu_13 25 rfl).trans (uF_ne (fun h => absurd h.2 (by decide)))))) (funext fun j => (uF_a).trans ((uA_ne (fun h => absurd h.1 (by decide))).trans (((fu_13 248 rfl).2.1 j).trans (uF_a)))) (funext fun j => (uF_a).trans ((uA_ne (fun h => absurd h.1 (by decide))).trans (((fu_13 249 rfl).2.1 j).trans (uF_a))))) hK_ (by omega) (by omega) (by rw [show pz + 1 + 1 + 1 = pz + 3 by omega]; exact hk3)) (c_X12_364 Cx rfl rfl (rmk_ok (by omega) (by decide))) hW (by decide) rfl rfl rfl hl.1 rfl (Nat.le_of_ble_eq_true rfl) dX12_indexesOf_69 ⟨Nat.le_of_ble_eq_true rfl, Nat.le_of_ble_eq_true rfl⟩) hL (fun r_47 u_45 H locs k_46 hW hL => ?_)
        obtain ⟨iu_45, fu_45, gu_45, xu_45⟩ := k_46
        have F_48 := F_39.trans (fu_45.to (pl_sub (by decide)))
        have g_49 : FF S u_45 (fl [20, 21, 24]) := FF.trans g_40 (FF.to gu_45 (fl_sub (by decide)))
        have e24b := xu_45.2.1
        refine rIast Cx hW hL (k := 251) (by decide) rfl (by decide) (by omega) (by omega) dX12_indexesOf_72 (fun H locs hW hL => ?_)
        have F_50 : Fr S (uA u_45 251 nm r_47) (pl [231, 250, 251]) := F_48.A rfl
        have i_51 : dX G (uA u_45 251 nm r_47) := iu_45.A (k := 251) (show (-2147483648) ≤ r_47 ∧ r_47 ≤ 2147483647 from ⟨by omega, by omega⟩)
        refine lv_aload_n hx hb dX12_indexesOf_73 rfl (lv_at hl 0 rfl) ?_
        refine lv_dup hx hb dX12_indexesOf_74 rfl ?_
        have q_52 : (-2147483648) ≤ u_45.1 231 24 ∧ u_45.1 231 24 ≤ 2147483647 := iu_45.fi 24
        refine g_X12_315 Cx hW (k := 231) (by decide) rfl (v := u_45.1 231 24) uA_f dX12_indexesOf_75 ?_
        refine lv_iconst (v := iv 1) hx hb dX12_indexesOf_78 (by decide) ?_
        refine r_iadd hx hb dX12_indexesOf_79 ?_
        refine p_X12_315 Cx hW hL (k := 231) (by decide) rfl dX12_indexesOf_80 (fun H locs hW hL => ?_)
        have F_53 : Fr S (uF (uA u_45 251 nm r_47) 231 24 ((u_45.1 231 24) + 1)) (pl [231, 250, 251]) := F_50.F rfl
        have g_54 : FF S (uF (uA u_45 251 nm r_47) 231 24 ((u_45.1 231 24) + 1)) (fl [20, 21, 24]) := FF.F g_49 rfl
        have i_55 : dX G (uF (uA u_45 251 nm r_47) 231 24 ((u_45.1 231 24) + 1)) := i_51.F (i := 24) (show (-2147483648) ≤ (u_45.1 231 24) + 1 ∧ (u_45.1 231 24) + 1 ≤ 2147483647 from ⟨by omega, by omega⟩)
        have q_56 : (-2147483648) ≤ u_45.1 231 20 ∧ u_45.1 231 20 ≤ 2147483647 := iu_45.fi 20
        have lk_57 : (uF (uA u_45 251 nm r_47) 231 24 ((u_45.1 231 24) + 1)).1 231 20 = u_45.1 231 20 := (uF_ne (fun h => absurd h.2 (by decide))).trans (uA_f)
        have lk_58 : (uF (uA u_45 251 nm r_47) 231 24 ((u_45.1 231 24) + 1)).1 231 24 = (u_45.1 231 24) + 1 := uF_on
        exact sVret Cx hr hlk hW hL ⟨i_55, F_53, g_54, ⟨(fun x a => ⟨(uF_a).trans ((uA_ne (fun h => absurd h.1 (by decide))).trans (((fu_45 250 rfl).2.1 x).trans ((uF_a).trans ((uA_ne (fun h => a h.2)).trans (((fu_13 250 rfl).2.1 x).trans (uF_a)))))), (uF_a).trans ((uA_ne (fun h => a h.2)).trans (((fu_45 251 rfl).2.1 x).trans ((uF_a).trans ((uA_ne (fun h => absurd h.1 (by decide))).trans (((fu_13 251 rfl).2.1 x).trans (uF_a))))))⟩), (fun h => eIx_3 k17 d1 y16 (fun z => by have z2 := xu_45.2.2.1 (by have e9 := (show (uF (uA u_45 251 nm r_47) 231 24 ((u_45.1 231 24) + 1)).1 231 20 = u_45.1 231 20 from (uF_ne (fun h => absurd h.2 (by decide))).trans (uA_f)); omega); rw [show pz + 1 + 1 + 1 = pz + 3 by omega] at z2; exact z2 ((hiS _).mpr z))), (fun h => by have a2 := xu_45.2.2.2 (by have e9 := (show (uF (uA u_45 251 nm r_47) 231 24 ((u_45.1 231 24) + 1)).1 231 20 = u_45.1 231 20 from (uF_ne (fun h => absurd h.2 (by decide))).trans (uA_f)); omega); rw [show pz + 1 + 1 + 1 = pz + 3 by omega] at a2; have d2 := (hiS _).mp a2.2; exact ⟨(by rw [show (uF (uA u_45 251 nm r_47) 231 24 ((u_45.1 231 24) + 1)).2.1 250 nm = r_15 from ((uF_a).trans ((uA_ne (fun h => absurd h.1 (by decide))).trans (((fu_45 250 rfl).2.1 nm).trans (uF_a)))).trans uA_on, show (uF (uA u_45 251 nm r_47) 231 24 ((u_45.1 231 24) + 1)).2.1 251 nm = r_47 from (uF_a).trans uA_on, a1.1, hiF _ d1, a2.1, hiF _ d2, eIx_4 k17 d1 y16 d2, hq5]), (by have e7 := (show (uF (uA u_45 251 nm r_47) 231 24 ((u_45.1 231 24) + 1)).1 231 24 = (u_45.1 231 24) + 1 from uF_on); omega)⟩)⟩⟩ dX12_indexesOf_83
  · have hq0 : q = pz := (by rcases ogI_i hgi with z | z; (exact z.2); (exact absurd z.1 (tu_3b (by omega))))
    exact sVret Cx hr hlk hW hL ⟨hI, (Fr.rf : Fr S S (pl [231, 250, 251])), FF.rf, ⟨(fun x _ => ⟨rfl, rfl⟩), (fun h => absurd (show S.1 231 20 = 0 by have e9 := (show S.1 231 20 = S.1 231 20 from rfl); omega) h), (fun _ => ⟨(by rw [eIx_0 (tu_3b (by omega)), hone.1, hone.2, hq0]), (by omega)⟩)⟩⟩ dX12_indexesOf_16

set_option maxRecDepth 100000 in
set_option maxHeartbeats 4000000 in
theorem e_X12_tellSet (l : Launch) (G : sG) (S : sS) {M : sM} {k v : Int → Int} {T pz pp tk : Int} (hI : dX G S) (hkr : Hd (KRr S k v T)) (hMr : Hd (MRr M k v S)) (hTV : Hd (TVn k v)) (hf0 : S.1 231 20 = 0) (hc : S.1 231 24 = pz) (hPb : Hd (PBr M S)) (hpz : pz = pp + 2) (htk : tk = pp + 1) (hk21 : Hd (k (pp + 1) = 2)) (hgs : Hd (k (pp + 3) = 3 ∧ k (pp + 5) = 3)) (hqT : 0 ≤ pp ∧ pp + 7 ≤ T - 1) : Met l yX12_tellSet (.code yX12_tellSet cX12_tellSet 3 none :: tb) (rmk 3 0 0) (sPc G 294 S [.ref (G.2.2.1 + 231), .int (iv tk)]) (sQv G 294 (fun u => dX G u ∧ Fr S u (pl [231, 248, 249, 250, 251, 252]) ∧ FF S u (fl [20, 21, 24, 25, 33]) ∧ (DOr u k v (pp + 7) (eDs v M pp)))) 0 0 (sF G) := by
  refine sEnter (by decide) (Nat.le_of_ble_eq_true rfl) ?_
  intro p e s m args below meth c Cx hr hlk hnm hW ls hl
  have Cx : sC G p m c cX12_tellSet 3 s args RX12 := Cx
  obtain ⟨hx, hb, hml, hown, hts⟩ := id Cx.1
  have hL : sL G [] := sL_nil
  have hl : lv_has ls 3 [(0, .ref (G.2.2.1 + 231)), (1, .int (iv tk))] := hl
  have hW0 := hW
  obtain ⟨K, hK⟩ : ∃ z, S.2.1 244 = z := ⟨_, rfl⟩
  obtain ⟨V, hV⟩ : ∃ z, S.2.1 247 = z := ⟨_, rfl⟩
  obtain ⟨Fm, hFm⟩ : ∃ z, S.2.1 245 = z := ⟨_, rfl⟩
  obtain ⟨Wd, hWd⟩ : ∃ z, S.2.1 246 = z := ⟨_, rfl⟩
  have hkk : kr K V T = k := (by rw [← hK, ← hV]; exact hkr.1)
  have hTb := hkr.2.1
  have hNr := hMr.1; have hK_ := hMr.2.1; have hN1 := hNr.1
  obtain ⟨m33, m34, m35, m36, m42, mds⟩ := hMr.2.2
  have hPb1 := hPb.1
  have nv1 := hTV _ hgs.1; have nv2 := hTV _ hgs.2; have nw1 := hkr.2.2.2.1 _ hgs.1; have nw2 := hkr.2.2.2.1 _ hgs.2
  refine lv_aload_n hx hb dX12_tellSet_0 rfl (lv_at hl 0 rfl) ?_
  refine lv_iload_n hx hb dX12_tellSet_1 rfl (lv_at hl 1 rfl) ?_
  refine lv_iconst (v := iv 1) hx hb dX12_tellSet_2 (by decide) ?_
  have q_1 : (-2147483648) ≤ S.1 231 20 ∧ S.1 231 20 ≤ 2147483647 := hI.fi 20
  have q_2 : (-2147483648) ≤ S.1 231 25 ∧ S.1 231 25 ≤ 2147483647 := hI.fi 25
  refine sBi (sV (As := [.int (iv tk), .int (iv 1)]) (rest := []) (k := 231) Cx (e_X12_add_ l G S (tk := tk) (so := 1) hI hkr hNr hK_ (by omega) (by rw [htk]; exact hk21) (by omega) (by omega)) (c_X12_404 Cx rfl rfl (rmk_ok (by omega) (by decide))) hW (by decide) rfl rfl rfl hl.1 rfl (Nat.le_of_ble_eq_true rfl) dX12_tellSet_3 ⟨Nat.le_of_ble_eq_true rfl, Nat.le_of_ble_eq_true rfl⟩) hL (fun nm u_3 H locs k_4 hW hL => ?_)
  obtain ⟨iu_3, fu_3, gu_3, xu_3⟩ := k_4
  have F_5 := (Fr.rf : Fr S S (pl [231, 248, 249, 250, 251, 252])).trans fu_3
  have g_6 : FF S u_3 (fl [20, 21, 24, 25, 33]) := FF.trans FF.rf (FF.to gu_3 (fl_sub (by decide)))
  refine lv_istore_n (lv' := [(2, .int (iv nm)), (0, .ref (G.2.2.1 + 231)), (1, .int (iv tk))]) hx hb dX12_tellSet_6 rfl hl (by decide) rfl (fun ls hl => ?_)
  refine lv_aload_n hx hb dX12_tellSet_7 rfl (lv_at hl 1 rfl) ?_
  have q_7 : (-2147483648) ≤ u_3.1 231 20 ∧ u_3.1 231 20 ≤ 2147483647 := iu_3.fi 20
  refine g_X12_270 Cx hW (k := 231) (by decide) rfl (v := u_3.1 231 20) rfl dX12_tellSet_8 ?_
  refine r_if_eq (tgt := 15) hx hb ⟨(by omega), (by omega)⟩ dX12_tellSet_11 (by decide) (fun c_8 => ?_) (fun c_8 => ?_)
  · have a1 := xu_3.2.2 (by omega)
    have hfn : eFind M.1 (v (pp + 1)) = -1 := (by rw [← htk]; exact a1.1)
    have hnm : nm = S.1 231 25 := a1.2.1; have h25u := a1.2.2.1
    refine lv_aload_n hx hb dX12_tellSet_15 rfl (lv_at hl 1 rfl) ?_
    refine g_X12_65 Cx hW (k := 231) (by decide) rfl (v := .ref (G.2.2.1 + 250)) (rd_28 iu_3) dX12_tellSet_16 ?_
    refine lv_iload_n hx hb dX12_tellSet_19 rfl (lv_at hl 0 rfl) ?_
    refine lv_aload_n hx hb dX12_tellSet_20 rfl (lv_at hl 1 rfl) ?_
    refine g_X12_56 Cx hW (k := 231) (by decide) rfl (v := .ref (G.2.2.1 + 247)) (rd_18 iu_3) dX12_tellSet_21 ?_
    refine lv_aload_n hx hb dX12_tellSet_24 rfl (lv_at hl 1 rfl) ?_
    have q_9 : (-2147483648) ≤ S.1 231 24 ∧ S.1 231 24 ≤ 2147483647 := hI.fi 24
    refine g_X12_315 Cx hW (k := 231) (by decide) rfl (v := S.1 231 24) (gu_3 24 rfl) dX12_tellSet_25 ?_
    refine lv_iconst (v := iv 1) hx hb dX12_tellSet_28 (by decide) ?_
    refine r_iadd hx hb dX12_tellSet_29 ?_
    refine rIald Cx hW (k := 247) (by decide) rfl (by decide) (by omega) (by omega) dX12_tellSet_30 ?_
    have q_10 : (-2147483648) ≤ S.2.1 247 ((S.1 231 24) + 1) ∧ S.2.1 247 ((S.1 231 24) + 1) ≤ 2147483647 := hI.ai 247 ((S.1 231 24) + 1)
    refine r_i (b := S.2.1 247 ((S.1 231 24) + 1)) ((fu_3 247 rfl).2.1 ((S.1 231 24) + 1)) ?_
    have nx1 : S.2.1 247 ((S.1 231 24) + 1) = v (pp + 3) := (by rw [nw1]; exact congrArg (S.2.1 247) (by omega))
    refine rIast Cx hW hL (k := 250) (by decide) rfl (by decide) (by omega) (by omega) dX12_tellSet_31 (fun H locs hW hL => ?_)
    have F_11 : Fr S (uA u_3 250 nm (S.2.1 247 ((S.1 231 24) + 1))) (pl [231, 248, 249, 250, 251, 252]) := F_5.A rfl
    have i_12 : dX G (uA u_3 250 nm (S.2.1 247 ((S.1 231 24) + 1))) := iu_3.A (k := 250) (show (-2147483648) ≤ S.2.1 247 ((S.1 231 24) + 1) ∧ S.2.1 247 ((S.1 231 24) + 1) ≤ 2147483647 from ⟨by omega, by omega⟩)
    refine lv_aload_n hx hb dX12_tellSet_32 rfl (lv_at hl 1 rfl) ?_
    refine g_X12_68 Cx hW (k := 231) (by decide) rfl (v := .ref (G.2.2.1 + 251)) (rd_29 i_12) dX12_tellSet_33 ?_
    refine lv_iload_n hx hb dX12_tellSet_36 rfl (lv_at hl 0 rfl) ?_
    refine lv_aload_n hx hb dX12_tellSet_37 rfl (lv_at hl 1 rfl) ?_
    refine g_X12_56 Cx hW (k := 231) (by decide) rfl (v := .ref (G.2.2.1 + 247)) (rd_18 i_12) dX12_tellSet_38 ?_
    refine lv_aload_n hx hb dX12_tellSet_41 rfl (lv_at hl 1 rfl) ?_
    refine g_X12_315 Cx hW (k := 231) (by decide) rfl (v := S.1 231 24) ((uA_f).trans (gu_3 24 rfl)) dX12_tellSet_42 ?_
    refine lv_iconst (v := iv 3) hx hb dX12_tellSet_45 (by decide) ?_
    refine r_iadd hx hb dX12_tellSet_46 ?_
    refine rIald Cx hW (k := 247) (by decide) rfl (by decide) (by omega) (by omega) dX12_tellSet_47 ?_
    have q_13 : (-2147483648) ≤ S.2.1 247 ((S.1 231 24) + 3) ∧ S.2.1 247 ((S.1 231 24) + 3) ≤ 2147483647 := hI.ai 247 ((S.1 231 24) + 3)
    refine r_i (b := S.2.1 247 ((S.1 231 24) + 3)) ((uA_ne (fun h => absurd h.1 (by decide))).trans ((fu_3 247 rfl).2.1 ((S.1 231 24) + 3))) ?_
    have nx2 : S.2.1 247 ((S.1 231 24) + 3) = v (pp + 5) := (by rw [nw2]; exact congrArg (S.2.1 247) (by omega))
    refine rIast Cx hW hL (k := 251) (by decide) rfl (by decide) (by omega) (by omega) dX12_tellSet_48 (fun H locs hW hL => ?_)
    have F_14 : Fr S (uA (uA u_3 250 nm (S.2.1 247 ((S.1 231 24) + 1))) 251 nm (S.2.1 247 ((S.1 231 24) + 3))) (pl [231, 248, 249, 250, 251, 252]) := F_11.A rfl
    have i_15 : dX G (uA (uA u_3 250 nm (S.2.1 247 ((S.1 231 24) + 1))) 251 nm (S.2.1 247 ((S.1 231 24) + 3))) := i_12.A (k := 251) (show (-2147483648) ≤ S.2.1 247 ((S.1 231 24) + 3) ∧ S.2.1 247 ((S.1 231 24) + 3) ≤ 2147483647 from ⟨by omega, by omega⟩)
    refine lv_aload_n hx hb dX12_tellSet_49 rfl (lv_at hl 1 rfl) ?_
    refine lv_dup hx hb dX12_tellSet_50 rfl ?_
    refine g_X12_315 Cx hW (k := 231) (by decide) rfl (v := S.1 231 24) ((uA_f).trans ((uA_f).trans (gu_3 24 rfl))) dX12_tellSet_51 ?_
    refine lv_iconst (v := iv 5) hx hb dX12_tellSet_54 (by decide) ?_
    refine r_iadd hx hb dX12_tellSet_55 ?_
    refine p_X12_315 Cx hW hL (k := 231) (by decide) rfl dX12_tellSet_56 (fun H locs hW hL => ?_)
    have F_16 : Fr S (uF (uA (uA u_3 250 nm (S.2.1 247 ((S.1 231 24) + 1))) 251 nm (S.2.1 247 ((S.1 231 24) + 3))) 231 24 ((S.1 231 24) + 5)) (pl [231, 248, 249, 250, 251, 252]) := F_14.F rfl
    have g_17 : FF S (uF (uA (uA u_3 250 nm (S.2.1 247 ((S.1 231 24) + 1))) 251 nm (S.2.1 247 ((S.1 231 24) + 3))) 231 24 ((S.1 231 24) + 5)) (fl [20, 21, 24, 25, 33]) := FF.F g_6 rfl
    have i_18 : dX G (uF (uA (uA u_3 250 nm (S.2.1 247 ((S.1 231 24) + 1))) 251 nm (S.2.1 247 ((S.1 231 24) + 3))) 231 24 ((S.1 231 24) + 5)) := i_15.F (i := 24) (show (-2147483648) ≤ (S.1 231 24) + 5 ∧ (S.1 231 24) + 5 ≤ 2147483647 from ⟨by omega, by omega⟩)
    refine lv_aload_n hx hb dX12_tellSet_59 rfl (lv_at hl 1 rfl) ?_
    refine g_X12_65 Cx hW (k := 231) (by decide) rfl (v := .ref (G.2.2.1 + 250)) (rd_28 i_18) dX12_tellSet_60 ?_
    refine lv_iload_n hx hb dX12_tellSet_63 rfl (lv_at hl 0 rfl) ?_
    refine rIald Cx hW (k := 250) (by decide) rfl (by decide) (by omega) (by omega) dX12_tellSet_64 ?_
    refine r_i (b := S.2.1 247 ((S.1 231 24) + 1)) ((uF_a).trans ((uA_ne (fun h => absurd h.1 (by decide))).trans (uA_on))) ?_
    refine lv_aload_n hx hb dX12_tellSet_65 rfl (lv_at hl 1 rfl) ?_
    refine g_X12_68 Cx hW (k := 231) (by decide) rfl (v := .ref (G.2.2.1 + 251)) (rd_29 i_18) dX12_tellSet_66 ?_
    refine lv_iload_n hx hb dX12_tellSet_69 rfl (lv_at hl 0 rfl) ?_
    refine rIald Cx hW (k := 251) (by decide) rfl (by decide) (by omega) (by omega) dX12_tellSet_70 ?_
    refine r_i (b := S.2.1 247 ((S.1 231 24) + 3)) ((uF_a).trans (uA_on)) ?_
    refine r_icmp_gt (tgt := 92) hx hb ⟨(by omega), (by omega)⟩ ⟨(by omega), (by omega)⟩ dX12_tellSet_71 (by decide) (fun c_19 => ?_) (fun c_19 => ?_)
    · refine lv_aload_n hx hb dX12_tellSet_92 rfl (lv_at hl 1 rfl) ?_
      refine lv_iconst (v := iv 3) hx hb dX12_tellSet_93 (by decide) ?_
      refine lv_iload_n hx hb dX12_tellSet_94 rfl (lv_at hl 2 rfl) ?_
      refine sBv (sV (As := [.int (iv 3), .int (iv tk)]) (rest := []) (k := 231) Cx (s_X12_wrong l G (uF (uA (uA u_3 250 nm (S.2.1 247 ((S.1 231 24) + 1))) 251 nm (S.2.1 247 ((S.1 231 24) + 3))) 231 24 ((S.1 231 24) + 5)) (cd := 3) (tk := tk) i_18 (by omega) (by omega)) (c_X12_321 Cx rfl rfl (rmk_ok (by omega) (by decide))) hW (by decide) rfl rfl rfl hl.1 rfl (Nat.le_of_ble_eq_true rfl) dX12_tellSet_95 ⟨Nat.le_of_ble_eq_true rfl, Nat.le_of_ble_eq_true rfl⟩) hL (fun u_20 H locs k_21 hW hL => ?_)
      obtain ⟨iu_20, fu_20, gu_20, xu_20⟩ := k_21
      have F_22 := F_16.trans (fu_20.to (pl_sub (by decide)))
      have g_23 : FF S u_20 (fl [20, 21, 24, 25, 33]) := FF.trans g_17 (FF.to gu_20 (fl_sub (by decide)))
      refine lv_aload_n hx hb dX12_tellSet_98 rfl (lv_at hl 1 rfl) ?_
      refine lv_dup hx hb dX12_tellSet_99 rfl ?_
      have q_24 : (-2147483648) ≤ S.1 231 33 ∧ S.1 231 33 ≤ 2147483647 := hI.fi 33
      refine g_X12_370 Cx hW (k := 231) (by decide) rfl (v := S.1 231 33) ((gu_20 33 rfl).trans ((uF_ne (fun h => absurd h.2 (by decide))).trans ((uA_f).trans ((uA_f).trans (gu_3 33 rfl))))) dX12_tellSet_100 ?_
      refine lv_iconst (v := iv 1) hx hb dX12_tellSet_103 (by decide) ?_
      refine r_iadd hx hb dX12_tellSet_104 ?_
      refine p_X12_370 Cx hW hL (k := 231) (by decide) rfl dX12_tellSet_105 (fun H locs hW hL => ?_)
      have F_25 : Fr S (uF u_20 231 33 ((S.1 231 33) + 1)) (pl [231, 248, 249, 250, 251, 252]) := F_22.F rfl
      have g_26 : FF S (uF u_20 231 33 ((S.1 231 33) + 1)) (fl [20, 21, 24, 25, 33]) := FF.F g_23 rfl
      have i_27 : dX G (uF u_20 231 33 ((S.1 231 33) + 1)) := iu_20.F (i := 33) (show (-2147483648) ≤ (S.1 231 33) + 1 ∧ (S.1 231 33) + 1 ≤ 2147483647 from ⟨by omega, by omega⟩)
      refine lv_aload_n hx hb dX12_tellSet_108 rfl (lv_at hl 1 rfl) ?_
      refine g_X12_370 Cx hW (k := 231) (by decide) rfl (v := (S.1 231 33) + 1) uF_on dX12_tellSet_109 ?_
      refine lv_bipush (v := iv 8) hx hb dX12_tellSet_112 (by decide) ?_
      refine r_icmp_le (tgt := 124) hx hb ⟨(by omega), (by omega)⟩ ⟨(by omega), (by omega)⟩ dX12_tellSet_114 (by decide) (fun c_28 => ?_) (fun c_28 => ?_)
      · exact sVret Cx hr hlk hW hL ⟨i_27, F_25, g_26, ⟨(fun _ => eDs_n (by omega)), (fun h => absurd h (by have e9 := (show (uF u_20 231 33 ((S.1 231 33) + 1)).1 231 20 = u_20.1 231 20 from uF_ne (fun h => absurd h.2 (by decide))); have a9 := xu_20; omega))⟩⟩ dX12_tellSet_124
      · refine lv_aload_n hx hb dX12_tellSet_117 rfl (lv_at hl 1 rfl) ?_
        refine lv_bipush (v := iv 7) hx hb dX12_tellSet_118 (by decide) ?_
        refine lv_iload_n hx hb dX12_tellSet_120 rfl (lv_at hl 2 rfl) ?_
        refine sBv (sV (As := [.int (iv 7), .int (iv tk)]) (rest := []) (k := 231) Cx (s_X12_wrong l G (uF u_20 231 33 ((S.1 231 33) + 1)) (cd := 7) (tk := tk) i_27 (by omega) (by omega)) (c_X12_321 Cx rfl rfl (rmk_ok (by omega) (by decide))) hW (by decide) rfl rfl rfl hl.1 rfl (Nat.le_of_ble_eq_true rfl) dX12_tellSet_121 ⟨Nat.le_of_ble_eq_true rfl, Nat.le_of_ble_eq_true rfl⟩) hL (fun u_29 H locs k_30 hW hL => ?_)
        obtain ⟨iu_29, fu_29, gu_29, xu_29⟩ := k_30
        have F_31 := F_25.trans (fu_29.to (pl_sub (by decide)))
        have g_32 : FF S u_29 (fl [20, 21, 24, 25, 33]) := FF.trans g_26 (FF.to gu_29 (fl_sub (by decide)))
        exact sVret Cx hr hlk hW hL ⟨iu_29, F_31, g_32, ⟨(fun _ => eDs_n (by omega)), (fun h => absurd h (by have e9 := (show u_29.1 231 20 = u_29.1 231 20 from rfl); have a9 := xu_29; omega))⟩⟩ dX12_tellSet_124
    · refine lv_aload_n hx hb dX12_tellSet_74 rfl (lv_at hl 1 rfl) ?_
      refine g_X12_68 Cx hW (k := 231) (by decide) rfl (v := .ref (G.2.2.1 + 251)) (rd_29 i_18) dX12_tellSet_75 ?_
      refine lv_iload_n hx hb dX12_tellSet_78 rfl (lv_at hl 0 rfl) ?_
      refine rIald Cx hW (k := 251) (by decide) rfl (by decide) (by omega) (by omega) dX12_tellSet_79 ?_
      refine r_i (b := S.2.1 247 ((S.1 231 24) + 3)) ((uF_a).trans (uA_on)) ?_
      refine lv_aload_n hx hb dX12_tellSet_80 rfl (lv_at hl 1 rfl) ?_
      refine g_X12_65 Cx hW (k := 231) (by decide) rfl (v := .ref (G.2.2.1 + 250)) (rd_28 i_18) dX12_tellSet_81 ?_
      refine lv_iload_n hx hb dX12_tellSet_84 rfl (lv_at hl 0 rfl) ?_
      refine rIald Cx hW (k := 250) (by decide) rfl (by decide) (by omega) (by omega) dX12_tellSet_85 ?_
      refine r_i (b := S.2.1 247 ((S.1 231 24) + 1)) ((uF_a).trans ((uA_ne (fun h => absurd h.1 (by decide))).trans (uA_on))) ?_
      refine r_isub hx hb dX12_tellSet_86 ?_
      refine lv_bipush (v := iv 12) hx hb dX12_tellSet_87 (by decide) ?_
      refine r_icmp_lt (tgt := 98) hx hb ⟨(by omega), (by omega)⟩ ⟨(by omega), (by omega)⟩ dX12_tellSet_89 (by decide) (fun c_33 => ?_) (fun c_33 => ?_)
      · refine lv_aload_n hx hb dX12_tellSet_98 rfl (lv_at hl 1 rfl) ?_
        refine lv_dup hx hb dX12_tellSet_99 rfl ?_
        have q_34 : (-2147483648) ≤ S.1 231 33 ∧ S.1 231 33 ≤ 2147483647 := hI.fi 33
        refine g_X12_370 Cx hW (k := 231) (by decide) rfl (v := S.1 231 33) ((uF_ne (fun h => absurd h.2 (by decide))).trans ((uA_f).trans ((uA_f).trans (gu_3 33 rfl)))) dX12_tellSet_100 ?_
        refine lv_iconst (v := iv 1) hx hb dX12_tellSet_103 (by decide) ?_
        refine r_iadd hx hb dX12_tellSet_104 ?_
        refine p_X12_370 Cx hW hL (k := 231) (by decide) rfl dX12_tellSet_105 (fun H locs hW hL => ?_)
        have F_35 : Fr S (uF (uF (uA (uA u_3 250 nm (S.2.1 247 ((S.1 231 24) + 1))) 251 nm (S.2.1 247 ((S.1 231 24) + 3))) 231 24 ((S.1 231 24) + 5)) 231 33 ((S.1 231 33) + 1)) (pl [231, 248, 249, 250, 251, 252]) := F_16.F rfl
        have g_36 : FF S (uF (uF (uA (uA u_3 250 nm (S.2.1 247 ((S.1 231 24) + 1))) 251 nm (S.2.1 247 ((S.1 231 24) + 3))) 231 24 ((S.1 231 24) + 5)) 231 33 ((S.1 231 33) + 1)) (fl [20, 21, 24, 25, 33]) := FF.F g_17 rfl
        have i_37 : dX G (uF (uF (uA (uA u_3 250 nm (S.2.1 247 ((S.1 231 24) + 1))) 251 nm (S.2.1 247 ((S.1 231 24) + 3))) 231 24 ((S.1 231 24) + 5)) 231 33 ((S.1 231 33) + 1)) := i_18.F (i := 33) (show (-2147483648) ≤ (S.1 231 33) + 1 ∧ (S.1 231 33) + 1 ≤ 2147483647 from ⟨by omega, by omega⟩)
        refine lv_aload_n hx hb dX12_tellSet_108 rfl (lv_at hl 1 rfl) ?_
        refine g_X12_370 Cx hW (k := 231) (by decide) rfl (v := (S.1 231 33) + 1) uF_on dX12_tellSet_109 ?_
        refine lv_bipush (v := iv 8) hx hb dX12_tellSet_112 (by decide) ?_
        refine r_icmp_le (tgt := 124) hx hb ⟨(by omega), (by omega)⟩ ⟨(by omega), (by omega)⟩ dX12_tellSet_114 (by decide) (fun c_38 => ?_) (fun c_38 => ?_)
        · have hrw9 : nRW S (uF (uF (uA (uA u_3 250 nm (S.2.1 247 ((S.1 231 24) + 1))) 251 nm (S.2.1 247 ((S.1 231 24) + 3))) 231 24 ((S.1 231 24) + 5)) 231 33 ((S.1 231 33) + 1)) (S.1 231 25) tk 1 (S.2.1 247 ((S.1 231 24) + 1)) (S.2.1 247 ((S.1 231 24) + 3)) 0 := ⟨(fun x => ((uF_a).trans ((uF_a).trans ((uA_ne (fun h => absurd h.1 (by decide))).trans (uA_ne (fun h => absurd h.1 (by decide)))))).trans (a1.2.2.2.1 x)), (fun x => ((uF_a).trans ((uF_a).trans ((uA_ne (fun h => absurd h.1 (by decide))).trans (uA_ne (fun h => absurd h.1 (by decide)))))).trans (a1.2.2.2.2.1 x)), (fun x => by rw [show (uF (uF (uA (uA u_3 250 nm (S.2.1 247 ((S.1 231 24) + 1))) 251 nm (S.2.1 247 ((S.1 231 24) + 3))) 231 24 ((S.1 231 24) + 5)) 231 33 ((S.1 231 33) + 1)).2.1 250 x = (uA u_3 250 nm (S.2.1 247 ((S.1 231 24) + 1))).2.1 250 x from (uF_a).trans ((uF_a).trans (uA_ne (fun h => absurd h.1 (by decide)))), uA_get]; by_cases z : x = S.1 231 25; (rw [if_pos ⟨rfl, (by omega)⟩, if_pos z]); rw [if_neg (fun h => z (by have := h.2; omega)), if_neg z]; exact (rfl).trans ((a1.2.2.2.2.2.1 x).trans (if_neg z))), (fun x => by rw [show (uF (uF (uA (uA u_3 250 nm (S.2.1 247 ((S.1 231 24) + 1))) 251 nm (S.2.1 247 ((S.1 231 24) + 3))) 231 24 ((S.1 231 24) + 5)) 231 33 ((S.1 231 33) + 1)).2.1 251 x = (uA (uA u_3 250 nm (S.2.1 247 ((S.1 231 24) + 1))) 251 nm (S.2.1 247 ((S.1 231 24) + 3))).2.1 251 x from (uF_a).trans (uF_a), uA_get]; by_cases z : x = S.1 231 25; (rw [if_pos ⟨rfl, (by omega)⟩, if_pos z]); rw [if_neg (fun h => z (by have := h.2; omega)), if_neg z]; exact (uA_ne (fun h => absurd h.1 (by decide))).trans ((a1.2.2.2.2.2.2.1 x).trans (if_neg z))), (fun x => ((uF_a).trans ((uF_a).trans ((uA_ne (fun h => absurd h.1 (by decide))).trans (uA_ne (fun h => absurd h.1 (by decide)))))).trans (a1.2.2.2.2.2.2.2 x))⟩
          have hNF : NF M.1 (fct 6 (v (pp + 3)) (v (pp + 5)) (-1) (-1) 0) (fun _ => 0) := NF_6 (by omega)
          have hNn : NRr (addN M.1 (v (pp + 1)) (fct 6 (v (pp + 3)) (v (pp + 5)) (-1) (-1) 0) (fun _ => 0)) k v (uF (uF (uA (uA u_3 250 nm (S.2.1 247 ((S.1 231 24) + 1))) 251 nm (S.2.1 247 ((S.1 231 24) + 3))) 231 24 ((S.1 231 24) + 5)) 231 33 ((S.1 231 33) + 1)) := (by rw [← htk]; exact hNr.added hK_ hNF (by omega) (by rw [htk]; exact hk21) (by have y25 := (show (uF (uF (uA (uA u_3 250 nm (S.2.1 247 ((S.1 231 24) + 1))) 251 nm (S.2.1 247 ((S.1 231 24) + 3))) 231 24 ((S.1 231 24) + 5)) 231 33 ((S.1 231 33) + 1)).1 231 25 = u_3.1 231 25 from (uF_ne (fun h => absurd h.2 (by decide))).trans ((uF_ne (fun h => absurd h.2 (by decide))).trans ((uA_f).trans (uA_f)))); omega) hrw9 (fun s s0 s1 z o o0 o1 => congrFun (show (uF (uF (uA (uA u_3 250 nm (S.2.1 247 ((S.1 231 24) + 1))) 251 nm (S.2.1 247 ((S.1 231 24) + 3))) 231 24 ((S.1 231 24) + 5)) 231 33 ((S.1 231 33) + 1)).2.1 253 = S.2.1 253 from funext fun j => (uF_a).trans ((uF_a).trans ((uA_ne (fun h => absurd h.1 (by decide))).trans ((uA_ne (fun h => absurd h.1 (by decide))).trans ((fu_3 253 rfl).2.1 j))))) _) cs_6 (by rw [fct0]; decide) (fun _ => ⟨nx1.symm, nx2.symm⟩) (fun z => by rcases z with z | z <;> exact absurd (fct0.symm.trans z) (by decide)) (fun z => absurd (fct0.symm.trans z) (by decide)) (fun z => absurd (fct0.symm.trans z) (by decide)))
          exact sVret Cx hr hlk hW hL ⟨i_37, F_35, g_36, ⟨(fun h => absurd (show (uF (uF (uA (uA u_3 250 nm (S.2.1 247 ((S.1 231 24) + 1))) 251 nm (S.2.1 247 ((S.1 231 24) + 3))) 231 24 ((S.1 231 24) + 5)) 231 33 ((S.1 231 33) + 1)).1 231 20 = 0 by have e9 := (show (uF (uF (uA (uA u_3 250 nm (S.2.1 247 ((S.1 231 24) + 1))) 251 nm (S.2.1 247 ((S.1 231 24) + 3))) 231 24 ((S.1 231 24) + 5)) 231 33 ((S.1 231 33) + 1)).1 231 20 = u_3.1 231 20 from (uF_ne (fun h => absurd h.2 (by decide))).trans ((uF_ne (fun h => absurd h.2 (by decide))).trans ((uA_f).trans (uA_f)))); omega) h), (fun _ => ⟨_, (by rw [eDs_y hfn (by omega) (by omega) (by omega)]), hMr.added hNn hfn hNF (by have y33 := (show (uF (uF (uA (uA u_3 250 nm (S.2.1 247 ((S.1 231 24) + 1))) 251 nm (S.2.1 247 ((S.1 231 24) + 3))) 231 24 ((S.1 231 24) + 5)) 231 33 ((S.1 231 33) + 1)).1 231 33 = (S.1 231 33) + 1 from uF_on); omega) (by have y34 := (show (uF (uF (uA (uA u_3 250 nm (S.2.1 247 ((S.1 231 24) + 1))) 251 nm (S.2.1 247 ((S.1 231 24) + 3))) 231 24 ((S.1 231 24) + 5)) 231 33 ((S.1 231 33) + 1)).1 231 34 = S.1 231 34 from (uF_ne (fun h => absurd h.2 (by decide))).trans ((uF_ne (fun h => absurd h.2 (by decide))).trans ((uA_f).trans ((uA_f).trans (gu_3 34 rfl))))); omega) (by have y35 := (show (uF (uF (uA (uA u_3 250 nm (S.2.1 247 ((S.1 231 24) + 1))) 251 nm (S.2.1 247 ((S.1 231 24) + 3))) 231 24 ((S.1 231 24) + 5)) 231 33 ((S.1 231 33) + 1)).1 231 35 = S.1 231 35 from (uF_ne (fun h => absurd h.2 (by decide))).trans ((uF_ne (fun h => absurd h.2 (by decide))).trans ((uA_f).trans ((uA_f).trans (gu_3 35 rfl))))); omega) (by have y36 := (show (uF (uF (uA (uA u_3 250 nm (S.2.1 247 ((S.1 231 24) + 1))) 251 nm (S.2.1 247 ((S.1 231 24) + 3))) 231 24 ((S.1 231 24) + 5)) 231 33 ((S.1 231 33) + 1)).1 231 36 = S.1 231 36 from (uF_ne (fun h => absurd h.2 (by decide))).trans ((uF_ne (fun h => absurd h.2 (by decide))).trans ((uA_f).trans ((uA_f).trans (gu_3 36 rfl))))); omega) (by have y42 := (show (uF (uF (uA (uA u_3 250 nm (S.2.1 247 ((S.1 231 24) + 1))) 251 nm (S.2.1 247 ((S.1 231 24) + 3))) 231 24 ((S.1 231 24) + 5)) 231 33 ((S.1 231 33) + 1)).1 231 42 = S.1 231 42 from (uF_ne (fun h => absurd h.2 (by decide))).trans ((uF_ne (fun h => absurd h.2 (by decide))).trans ((uA_f).trans ((uA_f).trans (gu_3 42 rfl))))); omega) (by omega), hPb.added hNr hK_ hNF hrw9 (by have y32 := (show (uF (uF (uA (uA u_3 250 nm (S.2.1 247 ((S.1 231 24) + 1))) 251 nm (S.2.1 247 ((S.1 231 24) + 3))) 231 24 ((S.1 231 24) + 5)) 231 33 ((S.1 231 33) + 1)).1 231 32 = S.1 231 32 from (uF_ne (fun h => absurd h.2 (by decide))).trans ((uF_ne (fun h => absurd h.2 (by decide))).trans ((uA_f).trans ((uA_f).trans (gu_3 32 rfl))))); omega) (fun z => absurd (fct0.symm.trans z) (by decide)), (by have y24 := (show (uF (uF (uA (uA u_3 250 nm (S.2.1 247 ((S.1 231 24) + 1))) 251 nm (S.2.1 247 ((S.1 231 24) + 3))) 231 24 ((S.1 231 24) + 5)) 231 33 ((S.1 231 33) + 1)).1 231 24 = (S.1 231 24) + 5 from (uF_ne (fun h => absurd h.2 (by decide))).trans (uF_on)); omega)⟩)⟩⟩ dX12_tellSet_124
        · refine lv_aload_n hx hb dX12_tellSet_117 rfl (lv_at hl 1 rfl) ?_
          refine lv_bipush (v := iv 7) hx hb dX12_tellSet_118 (by decide) ?_
          refine lv_iload_n hx hb dX12_tellSet_120 rfl (lv_at hl 2 rfl) ?_
          refine sBv (sV (As := [.int (iv 7), .int (iv tk)]) (rest := []) (k := 231) Cx (s_X12_wrong l G (uF (uF (uA (uA u_3 250 nm (S.2.1 247 ((S.1 231 24) + 1))) 251 nm (S.2.1 247 ((S.1 231 24) + 3))) 231 24 ((S.1 231 24) + 5)) 231 33 ((S.1 231 33) + 1)) (cd := 7) (tk := tk) i_37 (by omega) (by omega)) (c_X12_321 Cx rfl rfl (rmk_ok (by omega) (by decide))) hW (by decide) rfl rfl rfl hl.1 rfl (Nat.le_of_ble_eq_true rfl) dX12_tellSet_121 ⟨Nat.le_of_ble_eq_true rfl, Nat.le_of_ble_eq_true rfl⟩) hL (fun u_39 H locs k_40 hW hL => ?_)
          obtain ⟨iu_39, fu_39, gu_39, xu_39⟩ := k_40
          have F_41 := F_35.trans (fu_39.to (pl_sub (by decide)))
          have g_42 : FF S u_39 (fl [20, 21, 24, 25, 33]) := FF.trans g_36 (FF.to gu_39 (fl_sub (by decide)))
          exact sVret Cx hr hlk hW hL ⟨iu_39, F_41, g_42, ⟨(fun _ => eDs_n (by omega)), (fun h => absurd h (by have e9 := (show u_39.1 231 20 = u_39.1 231 20 from rfl); have a9 := xu_39; omega))⟩⟩ dX12_tellSet_124
      · refine lv_aload_n hx hb dX12_tellSet_92 rfl (lv_at hl 1 rfl) ?_
        refine lv_iconst (v := iv 3) hx hb dX12_tellSet_93 (by decide) ?_
        refine lv_iload_n hx hb dX12_tellSet_94 rfl (lv_at hl 2 rfl) ?_
        refine sBv (sV (As := [.int (iv 3), .int (iv tk)]) (rest := []) (k := 231) Cx (s_X12_wrong l G (uF (uA (uA u_3 250 nm (S.2.1 247 ((S.1 231 24) + 1))) 251 nm (S.2.1 247 ((S.1 231 24) + 3))) 231 24 ((S.1 231 24) + 5)) (cd := 3) (tk := tk) i_18 (by omega) (by omega)) (c_X12_321 Cx rfl rfl (rmk_ok (by omega) (by decide))) hW (by decide) rfl rfl rfl hl.1 rfl (Nat.le_of_ble_eq_true rfl) dX12_tellSet_95 ⟨Nat.le_of_ble_eq_true rfl, Nat.le_of_ble_eq_true rfl⟩) hL (fun u_43 H locs k_44 hW hL => ?_)
        obtain ⟨iu_43, fu_43, gu_43, xu_43⟩ := k_44
        have F_45 := F_16.trans (fu_43.to (pl_sub (by decide)))
        have g_46 : FF S u_43 (fl [20, 21, 24, 25, 33]) := FF.trans g_17 (FF.to gu_43 (fl_sub (by decide)))
        refine lv_aload_n hx hb dX12_tellSet_98 rfl (lv_at hl 1 rfl) ?_
        refine lv_dup hx hb dX12_tellSet_99 rfl ?_
        have q_47 : (-2147483648) ≤ S.1 231 33 ∧ S.1 231 33 ≤ 2147483647 := hI.fi 33
        refine g_X12_370 Cx hW (k := 231) (by decide) rfl (v := S.1 231 33) ((gu_43 33 rfl).trans ((uF_ne (fun h => absurd h.2 (by decide))).trans ((uA_f).trans ((uA_f).trans (gu_3 33 rfl))))) dX12_tellSet_100 ?_
        refine lv_iconst (v := iv 1) hx hb dX12_tellSet_103 (by decide) ?_
        refine r_iadd hx hb dX12_tellSet_104 ?_
        refine p_X12_370 Cx hW hL (k := 231) (by decide) rfl dX12_tellSet_105 (fun H locs hW hL => ?_)
        have F_48 : Fr S (uF u_43 231 33 ((S.1 231 33) + 1)) (pl [231, 248, 249, 250, 251, 252]) := F_45.F rfl
        have g_49 : FF S (uF u_43 231 33 ((S.1 231 33) + 1)) (fl [20, 21, 24, 25, 33]) := FF.F g_46 rfl
        have i_50 : dX G (uF u_43 231 33 ((S.1 231 33) + 1)) := iu_43.F (i := 33) (show (-2147483648) ≤ (S.1 231 33) + 1 ∧ (S.1 231 33) + 1 ≤ 2147483647 from ⟨by omega, by omega⟩)
        refine lv_aload_n hx hb dX12_tellSet_108 rfl (lv_at hl 1 rfl) ?_
        refine g_X12_370 Cx hW (k := 231) (by decide) rfl (v := (S.1 231 33) + 1) uF_on dX12_tellSet_109 ?_
        refine lv_bipush (v := iv 8) hx hb dX12_tellSet_112 (by decide) ?_
        refine r_icmp_le (tgt := 124) hx hb ⟨(by omega), (by omega)⟩ ⟨(by omega), (by omega)⟩ dX12_tellSet_114 (by decide) (fun c_51 => ?_) (fun c_51 => ?_)
        · exact sVret Cx hr hlk hW hL ⟨i_50, F_48, g_49, ⟨(fun _ => eDs_n (by omega)), (fun h => absurd h (by have e9 := (show (uF u_43 231 33 ((S.1 231 33) + 1)).1 231 20 = u_43.1 231 20 from uF_ne (fun h => absurd h.2 (by decide))); have a9 := xu_43; omega))⟩⟩ dX12_tellSet_124
        · refine lv_aload_n hx hb dX12_tellSet_117 rfl (lv_at hl 1 rfl) ?_
          refine lv_bipush (v := iv 7) hx hb dX12_tellSet_118 (by decide) ?_
          refine lv_iload_n hx hb dX12_tellSet_120 rfl (lv_at hl 2 rfl) ?_
          refine sBv (sV (As := [.int (iv 7), .int (iv tk)]) (rest := []) (k := 231) Cx (s_X12_wrong l G (uF u_43 231 33 ((S.1 231 33) + 1)) (cd := 7) (tk := tk) i_50 (by omega) (by omega)) (c_X12_321 Cx rfl rfl (rmk_ok (by omega) (by decide))) hW (by decide) rfl rfl rfl hl.1 rfl (Nat.le_of_ble_eq_true rfl) dX12_tellSet_121 ⟨Nat.le_of_ble_eq_true rfl, Nat.le_of_ble_eq_true rfl⟩) hL (fun u_52 H locs k_53 hW hL => ?_)
          obtain ⟨iu_52, fu_52, gu_52, xu_52⟩ := k_53
          have F_54 := F_48.trans (fu_52.to (pl_sub (by decide)))
          have g_55 : FF S u_52 (fl [20, 21, 24, 25, 33]) := FF.trans g_49 (FF.to gu_52 (fl_sub (by decide)))
          exact sVret Cx hr hlk hW hL ⟨iu_52, F_54, g_55, ⟨(fun _ => eDs_n (by omega)), (fun h => absurd h (by have e9 := (show u_52.1 231 20 = u_52.1 231 20 from rfl); have a9 := xu_52; omega))⟩⟩ dX12_tellSet_124
  · exact sVret Cx hr hlk hW hL ⟨iu_3, F_5, g_6, ⟨(fun _ => eDs_n (.inl (by have z2 : 0 ≤ eFind M.1 (v (pp + 1)) := (by rw [← htk]; exact xu_3.2.1 (by omega)); omega))), (fun h => absurd h (by have e9 := (show u_3.1 231 20 = u_3.1 231 20 from rfl); omega))⟩⟩ dX12_tellSet_14
