/-! a name that is being told: what the table holds beside the names of N -/
def LQ (S u : sS) (K x so s3 s4 : Int) : Prop := u.1 11 9 = K + 1 ∧ (∀ j, u.2.2.1 16 j = if j = K then x else S.2.2.1 16 j) ∧ (∀ s q, s ≠ K → 0 ≤ q → q ≤ 5 → fc u s q = fc S s q) ∧ fc u K 0 = so ∧ fc u K 3 = s3 ∧ fc u K 4 = s4
theorem LE.lq {S u : sS} {x so K : Int} (h : LE S u x so) (hK : K = S.1 11 9) : LQ S u K x so (-1) (-1) := by
  refine ⟨by rw [hK]; exact h.1, fun j => by rw [hK]; exact h.2.1 j, fun s q c q0 q5 => ?_, ?_, ?_, ?_⟩
  · rw [h.2.2.2 s q q0 q5, if_neg (by omega)]
  · rw [h.2.2.2 K 0 (by decide) (by decide), if_pos ⟨hK, .inl rfl⟩, if_pos rfl]
  · rw [h.2.2.2 K 3 (by decide) (by decide), if_pos ⟨hK, .inr (.inl rfl)⟩, if_neg (by decide)]
  · rw [h.2.2.2 K 4 (by decide) (by decide), if_pos ⟨hK, .inr (.inr rfl)⟩, if_neg (by decide)]
theorem LQ.of {S u w : sS} {K x so s3 s4 : Int} (h : LQ S u K x so s3 s4) (e9 : w.1 11 9 = u.1 11 9) (e16 : ∀ j, w.2.2.1 16 j = u.2.2.1 16 j) (e17 : ∀ j, w.2.1 17 j = u.2.1 17 j) : LQ S w K x so s3 s4 := by
  have ef : ∀ s q, fc w s q = fc u s q := fun s q => e17 _
  unfold LQ
  simp only [ef, e9, e16]
  exact h
theorem LQ.set3 {S u w : sS} {K x so s3 s4 v s0 : Int} (h : LQ S u K x so s3 s4) (hs : s0 = K) (e : w = uA u 17 (s0 * 6 + 3) v) : LQ S w K x so v s4 := by
  have ef : ∀ s q, 0 ≤ q → q ≤ 5 → fc w s q = if s = K ∧ q = 3 then v else fc u s q := fun s q a b => by rw [e, hs, fc_u (by omega) (by omega)]
  refine ⟨by rw [e]; exact h.1, fun j => by rw [e]; exact h.2.1 j, fun s q c q0 q5 => ?_, ?_, ?_, ?_⟩
  · rw [ef s q q0 q5, if_neg (by omega)]; exact h.2.2.1 s q c q0 q5
  · rw [ef K 0 (by decide) (by decide), if_neg (by omega)]; exact h.2.2.2.1
  · rw [ef K 3 (by decide) (by decide), if_pos ⟨rfl, rfl⟩]
  · rw [ef K 4 (by decide) (by decide), if_neg (by omega)]; exact h.2.2.2.2.2
theorem LQ.set4 {S u w : sS} {K x so s3 s4 v s0 : Int} (h : LQ S u K x so s3 s4) (hs : s0 = K) (e : w = uA u 17 (s0 * 6 + 4) v) : LQ S w K x so s3 v := by
  have ef : ∀ s q, 0 ≤ q → q ≤ 5 → fc w s q = if s = K ∧ q = 4 then v else fc u s q := fun s q a b => by rw [e, hs, fc_u (by omega) (by omega)]
  refine ⟨by rw [e]; exact h.1, fun j => by rw [e]; exact h.2.1 j, fun s q c q0 q5 => ?_, ?_, ?_, ?_⟩
  · rw [ef s q q0 q5, if_neg (by omega)]; exact h.2.2.1 s q c q0 q5
  · rw [ef K 0 (by decide) (by decide), if_neg (by omega)]; exact h.2.2.2.1
  · rw [ef K 3 (by decide) (by decide), if_neg (by omega)]; exact h.2.2.2.2.1
  · rw [ef K 4 (by decide) (by decide), if_pos ⟨rfl, rfl⟩]
theorem LQ.find {N : sN} {S u : sS} {x so s3 s4 y : Int} (hN : NRc N S) (h : LQ S u N.1 x so s3 s4) : efn (u.2.2.1 16) y (u.1 11 9).toNat = eFind (addN N x (fun _ => so) (fun _ => 0)) y := by
  rw [h.1]
  refine efn_cong _ (fun s a b => ?_)
  have h1 := hN.1
  rw [h.2.1 s]
  by_cases c : s = N.1
  · rw [if_pos c]; exact (if_pos c).symm
  · rw [if_neg c, ← hN.2.1 s a (by omega)]; exact (if_neg c).symm
theorem LQ.sort {N : sN} {S u : sS} {x so s3 s4 y s : Int} (hN : NRc N S) (h : LQ S u N.1 x so s3 s4) (hso : so ≠ 6) (e : s = eFind (addN N x (fun _ => so) (fun _ => 0)) y) : (0 ≤ s ∧ fc u s 0 = 6) ↔ isS N y := by
  have h1 := hN.1
  have l := eFind_lt (N := addN N x (fun _ => so) (fun _ => 0)) (x := y) (show 0 ≤ N.1 + 1 by omega)
  have l2 : eFind (addN N x (fun _ => so) (fun _ => 0)) y < N.1 + 1 := l.2
  have ef : 0 ≤ s → fc u s 0 = (addN N x (fun _ => so) (fun _ => 0)).2.2.1 s 0 := fun z => by
    by_cases c : s = N.1
    · rw [c, add_n]; exact h.2.2.2.1
    · rw [add_o c, h.2.2.1 s 0 c (by decide) (by decide)]; exact (hN.2.2 s z (by omega)).1.symm
  rw [← isS_add (x := x) (f := fun _ => so) (w := fun _ => 0) h1.2.1 hso]
  constructor
  · intro z; refine ⟨by rw [← e]; exact z.1, ?_⟩; rw [← e, ← ef z.1]; exact z.2
  · intro z
    have z0 : 0 ≤ s := by rw [e]; exact z.1
    refine ⟨z0, ?_⟩; rw [ef z0, e]; exact z.2
theorem LQ.siz {N : sN} {S u : sS} {x so s3 s4 t r : Int} (hN : NRc N S) (h : LQ S u N.1 x so s3 s4) (ht : t = -1 ∨ (0 ≤ t ∧ t < N.1 ∧ N.2.2.1 t 0 = 6)) (r1 : t < 0 → r = 1) (r2 : 0 ≤ t → r = fc u t 2 - fc u t 1 + 1) : r = siz N t := by
  rcases ht with c | c
  · rw [r1 (by omega)]; exact (if_pos (by omega)).symm
  · have q := (hN.2.2 t c.1 c.2.1).2.1 c.2.2
    rw [r2 c.1, h.2.2.1 t 2 (by omega) (by decide) (by decide), h.2.2.1 t 1 (by omega) (by decide) (by decide), ← q.1, ← q.2]; exact (if_neg (by omega)).symm
theorem siz_b {N : sN} {t : Int} (hK : NK N) (ht : t = -1 ∨ (0 ≤ t ∧ t < N.1 ∧ N.2.2.1 t 0 = 6)) : 1 ≤ siz N t ∧ siz N t ≤ 12 := by
  unfold siz
  rcases ht with c | c
  · rw [if_pos (by omega)]; decide
  · rw [if_neg (by omega)]; have := (hK.2 t c.1 c.2.1).2.1 c.2.2; omega
/-- INDEXES that stand -/
def SV (N : sN) (t : Int) : Prop := t = -1 ∨ (0 ≤ t ∧ t < N.1 ∧ N.2.2.1 t 0 = 6)
theorem isS.sv {N : sN} {y : Int} (h0 : 0 ≤ N.1) (h : isS N y) : SV N (eFind N y) := .inr ⟨h.1, (eFind_lt h0).2, h.2⟩
theorem eIx_i {k v : Int → Int} {N : sN} {p : Int} {y : Int × Int × Int} (h0 : 0 ≤ N.1) (h : eIx k v N p = some y) : SV N y.1 ∧ SV N y.2.1 ∧ (y.1 < 0 → y.2.1 < 0) ∧ p ≤ y.2.2 := by
  unfold eIx at h
  by_cases c : k p = 17
  · rw [if_pos c] at h
    by_cases d : isS N (v (p + 1))
    · rw [if_pos d] at h
      by_cases e : k (p + 2) = 16
      · rw [if_pos e] at h
        by_cases g : isS N (v (p + 3))
        · rw [if_pos g] at h; cases h
          exact ⟨d.sv h0, g.sv h0, fun z => absurd d.1 (by have z : eFind N (v (p + 1)) < 0 := z; omega), by show p ≤ p + 5; omega⟩
        · rw [if_neg g] at h; cases h
      · rw [if_neg e] at h; cases h
        exact ⟨d.sv h0, .inl rfl, fun _ => (by show (-1 : Int) < 0; decide), by show p ≤ p + 3; omega⟩
    · rw [if_neg d] at h; cases h
  · rw [if_neg c] at h; cases h
    exact ⟨.inl rfl, .inl rfl, fun _ => (by show (-1 : Int) < 0; decide), Int.le_refl _⟩
theorem eIx_0 {k v : Int → Int} {N : sN} {p : Int} (c : k p ≠ 17) : eIx k v N p = some (-1, -1, p) := if_neg c
theorem eIx_1 {k v : Int → Int} {N : sN} {p : Int} (c : k p = 17) (d : ¬ isS N (v (p + 1))) : eIx k v N p = none := by unfold eIx; rw [if_pos c, if_neg d]
theorem eIx_2 {k v : Int → Int} {N : sN} {p : Int} (c : k p = 17) (d : isS N (v (p + 1))) (e : k (p + 2) ≠ 16) : eIx k v N p = some (eFind N (v (p + 1)), -1, p + 3) := by unfold eIx; rw [if_pos c, if_pos d, if_neg e]
theorem eIx_3 {k v : Int → Int} {N : sN} {p : Int} (c : k p = 17) (d : isS N (v (p + 1))) (e : k (p + 2) = 16) (g : ¬ isS N (v (p + 3))) : eIx k v N p = none := by unfold eIx; rw [if_pos c, if_pos d, if_pos e, if_neg g]
theorem eIx_4 {k v : Int → Int} {N : sN} {p : Int} (c : k p = 17) (d : isS N (v (p + 1))) (e : k (p + 2) = 16) (g : isS N (v (p + 3))) : eIx k v N p = some (eFind N (v (p + 1)), eFind N (v (p + 3)), p + 5) := by unfold eIx; rw [if_pos c, if_pos d, if_pos e, if_pos g]
theorem ogI_i {k : Int → Int} {p q : Int} (h : ogI k p = some q) : (k p ≠ 17 ∧ q = p) ∨ (k p = 17 ∧ k (p + 1) = 2 ∧ ((k (p + 2) ≠ 16 ∧ k (p + 2) = 18 ∧ q = p + 3) ∨ (k (p + 2) = 16 ∧ k (p + 3) = 2 ∧ k (p + 4) = 18 ∧ q = p + 5))) := by
  unfold ogI at h
  by_cases c : k p = 17
  · rw [if_pos c] at h
    obtain ⟨a, h1, h⟩ := ogB h
    have e1 := ogT_lt h1
    have ea : a = p + 2 := by omega
    rw [ea] at h
    right; refine ⟨c, e1.2, ?_⟩
    by_cases d : k (p + 2) = 16
    · rw [if_pos d] at h
      obtain ⟨b, h2, h⟩ := ogB h
      have e2 := ogT_lt h2; have e3 := ogT_lt h
      have eb : b = p + 4 := by omega
      rw [eb] at e3
      exact .inr ⟨d, by rw [show p + 3 = p + 2 + 1 by omega]; exact e2.2, e3.2, by omega⟩
    · rw [if_neg d] at h; have e2 := ogT_lt h; exact .inl ⟨d, e2.2, by omega⟩
  · rw [if_neg c] at h; cases h; exact .inl ⟨c, rfl⟩
/-- what is told so far, and what the class's memory holds of it: o the model's place -/
def MRc (M : sM) (S : sS) (G : sG) (o : Nat) : Prop := NRc M.1 S ∧ NK M.1 ∧ (S.1 11 10 = M.2.1 ∧ 0 ≤ M.2.1 ∧ M.2.1 ≤ 8) ∧ (S.1 11 11 = M.2.2.1 ∧ 0 ≤ M.2.2.1 ∧ M.2.2.1 ≤ 12) ∧ (S.1 o 2 = M.2.2.2.1 ∧ 0 ≤ M.2.2.2.1 ∧ M.2.2.2.1 ≤ 12) ∧ (S.1 o 3 = M.2.2.2.2.2.1 ∧ 0 ≤ M.2.2.2.2.2.1 ∧ M.2.2.2.2.2.1 ≤ 16) ∧ (S.1 11 12 = M.2.2.2.2.2.2.2 ∧ 0 ≤ M.2.2.2.2.2.2.2 ∧ M.2.2.2.2.2.2.2 ≤ 20000) ∧ M.1.1 ≤ M.2.1 + M.2.2.1 + M.2.2.2.1 + M.2.2.2.2.2.1 ∧ (∀ s, 0 ≤ s → s < M.1.1 → M.1.2.2.1 s 0 = 7 → M.1.2.2.1 s 5 + siz M.1 (M.1.2.2.1 s 3) * siz M.1 (M.1.2.2.1 s 4) ≤ 144 * M.2.2.1) ∧ S.2.2.2 11 8 = .ref (G.2.2.1 + o)
/-- what a declaration leaves -/
def MOc (S u : sS) (G : sG) (o : Nat) (q r : Int) (X : Option (sM × Int)) : Prop := (Hd (RK S u ∧ (r = 0 → u.1 11 14 ≠ 0)) ∧ 0 ≤ r ∧ r ≤ 1) ∧ Hd (r = 1 → ∃ M, X = some (M, q) ∧ MRc M u G o ∧ u.1 11 13 = q ∧ u.1 11 14 = 0) ∧ Hd (r = 0 → X = none)
theorem LQ.setq {S u w : sS} {K x so s3 s4 v s0 q : Int} (h : LQ S u K x so s3 s4) (hs : s0 = K) (hq : q = 1 ∨ q = 2 ∨ q = 5) (e : w = uA u 17 (s0 * 6 + q) v) : LQ S w K x so s3 s4 ∧ fc w K q = v ∧ ∀ q', 0 ≤ q' → q' ≤ 5 → q' ≠ q → fc w K q' = fc u K q' := by
  have ef : ∀ s q', 0 ≤ q' → q' ≤ 5 → fc w s q' = if s = K ∧ q' = q then v else fc u s q' := fun s q' a b => by rw [e, hs, fc_u (by omega) (by omega)]
  refine ⟨⟨by rw [e]; exact h.1, fun j => by rw [e]; exact h.2.1 j, fun s q' c q0 q5 => ?_, ?_, ?_, ?_⟩, ?_, fun q' a b c => ?_⟩
  · rw [ef s q' q0 q5, if_neg (by omega)]; exact h.2.2.1 s q' c q0 q5
  · rw [ef K 0 (by decide) (by decide), if_neg (by omega)]; exact h.2.2.2.1
  · rw [ef K 3 (by decide) (by decide), if_neg (by omega)]; exact h.2.2.2.2.1
  · rw [ef K 4 (by decide) (by decide), if_neg (by omega)]; exact h.2.2.2.2.2
  · rw [ef K q (by omega) (by omega), if_pos ⟨rfl, rfl⟩]
  · rw [ef K q' a b, if_neg (fun z => c z.2)]
theorem mdl_out {o : Nat} (m : mdl o) : pT o = false ∧ pU o = false ∧ pV o = false := by
  have a : ∀ o, o < 231 → tau o = .inl 3 → pT o = false ∧ pU o = false ∧ pV o = false := by decide +kernel
  exact a o (mdl_k m) m.1
theorem MRc.added {M : sM} {S u : sS} {G : sG} {o : Nat} {x st pr nv wh m mx lk : Int} {f w : Int → Int} (h : MRc M S G o) (hl : LQ S u M.1.1 x (f 0) (f 3) (f 4)) (hf : NF M.1 f w) (hn : eFind M.1 x = -1) (e18 : ∀ j, j < 144 * M.2.2.1 → u.2.1 18 j = S.2.1 18 j) (g6 : f 0 = 6 → f 1 = fc u M.1.1 1 ∧ f 2 = fc u M.1.1 2) (g2 : f 0 ≠ 2) (g8 : f 0 = 7 ∨ f 0 = 8 → f 5 = fc u M.1.1 5) (gp : f 0 = 7 → M.2.2.1 < 12 ∧ f 5 = 144 * M.2.2.1 ∧ pr = M.2.2.1 + 1 ∧ ∀ o, 0 ≤ o → o < siz M.1 (f 3) * siz M.1 (f 4) → w o = u.2.1 18 (144 * M.2.2.1 + o)) (c0 : u.1 11 10 = st ∧ 0 ≤ st ∧ st ≤ 8) (c1 : u.1 11 11 = pr ∧ 0 ≤ pr ∧ pr ≤ 12 ∧ M.2.2.1 ≤ pr) (c2 : u.1 o 2 = nv ∧ 0 ≤ nv ∧ nv ≤ 12) (c3 : u.1 o 3 = m ∧ 0 ≤ m ∧ m ≤ 16) (c4 : u.1 11 12 = lk ∧ 0 ≤ lk ∧ lk ≤ 20000) (cs : M.1.1 + 1 ≤ st + pr + nv + m) (rk : u.2.2.2 11 8 = S.2.2.2 11 8) : MRc (addN M.1 x f w, st, pr, nv, wh, m, mx, lk) u G o := by
  obtain ⟨hN, hK, d0, d1, d2, d3, d4, ds, hb, hr⟩ := h
  have n1 := hN.1
  have hA : ∀ s, 0 ≤ s → s < M.1.1 → M.1.2.2.1 s 0 = 7 → M.1.2.2.1 s 5 + siz M.1 (M.1.2.2.1 s 3) * siz M.1 (M.1.2.2.1 s 4) ≤ 144 * M.2.2.1 := hb
  have hsz : f 0 = 7 → 1 ≤ siz M.1 (f 3) * siz M.1 (f 4) ∧ siz M.1 (f 3) * siz M.1 (f 4) ≤ 144 := fun z => m12 (siz_b hK (hf.2.2.1 (.inl z) 3 (.inl rfl))) (siz_b hK (hf.2.2.1 (.inl z) 4 (.inr rfl)))
  refine ⟨?_, hK.added n1.2.1 hn hf, c0, ⟨c1.1, c1.2.1, c1.2.2.1⟩, c2, c3, c4, cs, fun s s0 s1 z => ?_, rk.trans hr⟩
  · refine hN.added hK hf (by omega) hl.1 hl.2.1 hl.2.2.1 (fun s s0 s1 z o o0 o1 => e18 _ (by have := hA s s0 s1 z; have := (hN.2.2 s s0 s1).2.2.2.2.1 (.inl z); omega)) hl.2.2.2.1 g6 g2 (fun _ => ⟨hl.2.2.2.2.1.symm, hl.2.2.2.2.2.symm⟩) g8 (fun z o o0 o1 => ?_)
    have g := gp z; have b := hsz z; have g5 := g8 (.inl z)
    rw [← g5, g.2.1]; exact ⟨by omega, by omega, g.2.2.2 o o0 o1⟩
  · have s1 : s < M.1.1 + 1 := s1
    by_cases c : s = M.1.1
    · have z : (addN M.1 x f w).2.2.1 s 0 = 7 := z
      show (addN M.1 x f w).2.2.1 s 5 + siz (addN M.1 x f w) ((addN M.1 x f w).2.2.1 s 3) * siz (addN M.1 x f w) ((addN M.1 x f w).2.2.1 s 4) ≤ 144 * pr
      rw [c, add_n] at z ⊢
      rw [siz_add (hf.lt n1.2.1 (.inl z) (.inl rfl)), siz_add (hf.lt n1.2.1 (.inl z) (.inr rfl))]
      have g := gp z; have b := hsz z; omega
    · have z : (addN M.1 x f w).2.2.1 s 0 = 7 := z
      show (addN M.1 x f w).2.2.1 s 5 + siz (addN M.1 x f w) ((addN M.1 x f w).2.2.1 s 3) * siz (addN M.1 x f w) ((addN M.1 x f w).2.2.1 s 4) ≤ 144 * pr
      rw [add_o c] at z ⊢
      rw [siz_add (hK.lt n1.2.1 s0 (by omega) (.inl z) (.inl rfl)), siz_add (hK.lt n1.2.1 s0 (by omega) (.inl z) (.inr rfl))]
      have := hA s s0 (by omega) z; omega
theorem eDs_y {v : Int → Int} {M : sM} {p : Int} (h1 : eFind M.1 (v (p + 1)) = -1) (h2 : v (p + 3) ≤ v (p + 5)) (h3 : v (p + 5) - v (p + 3) < 12) (h4 : M.2.1 < 8) : eDs v M p = some ((addN M.1 (v (p + 1)) (fct 6 (v (p + 3)) (v (p + 5)) (-1) (-1) 0) (fun _ => 0), M.2.1 + 1, M.2.2.1, M.2.2.2.1, M.2.2.2.2.1, M.2.2.2.2.2.1, M.2.2.2.2.2.2.1, M.2.2.2.2.2.2.2), p + 7) := if_pos ⟨h1, h2, h3, h4⟩
theorem eDs_n {v : Int → Int} {M : sM} {p : Int} (h : eFind M.1 (v (p + 1)) ≠ -1 ∨ v (p + 5) < v (p + 3) ∨ 12 ≤ v (p + 5) - v (p + 3) ∨ 8 ≤ M.2.1) : eDs v M p = none := if_neg (fun z => by have a := z.1; have b := z.2.1; have c := z.2.2.1; have d := z.2.2.2; omega)
theorem fct0 {a b c d e g : Int} : fct a b c d e g 0 = a := if_pos rfl
theorem NF_6 {N : sN} {a b : Int} (h : 0 ≤ a ∧ a ≤ b ∧ b ≤ 99999 ∧ b - a ≤ 11) : NF N (fct 6 a b (-1) (-1) 0) (fun _ => 0) := ⟨fun z => absurd (fct0.symm.trans z) (by decide), fun _ => h, fun z => by rcases z with z | z <;> exact absurd (fct0.symm.trans z) (by decide), fun z => by rcases z with z | z <;> exact absurd (fct0.symm.trans z) (by decide), fun z => absurd (fct0.symm.trans z) (by decide), fun z => absurd (fct0.symm.trans z) (by decide)⟩
theorem NF_10 {N : sN} : NF N (fct 10 0 0 (-1) (-1) 0) (fun _ => 0) := ⟨fun z => absurd (fct0.symm.trans z) (by decide), fun z => absurd (fct0.symm.trans z) (by decide), fun z => by rcases z with z | z <;> exact absurd (fct0.symm.trans z) (by decide), fun z => by rcases z with z | z <;> exact absurd (fct0.symm.trans z) (by decide), fun z => absurd (fct0.symm.trans z) (by decide), fun z => absurd (fct0.symm.trans z) (by decide)⟩
theorem NF_8 {N : sN} {a b c : Int} (h3 : SV N a) (h4 : SV N b) (h34 : a < 0 → b < 0) (h5 : 1 ≤ c ∧ c + siz N a * siz N b ≤ 13) : NF N (fct 8 0 0 a b c) (fun _ => 0) := ⟨fun z => absurd (fct0.symm.trans z) (by decide), fun z => absurd (fct0.symm.trans z) (by decide), fun _ q hq => by
  rcases hq with z | z
  · rw [z]; exact h3
  · rw [z]; exact h4, fun _ => h34, fun z => absurd (fct0.symm.trans z) (by decide), fun _ => h5⟩
theorem NF_7 {N : sN} {a b c : Int} {w : Int → Int} (h3 : SV N a) (h4 : SV N b) (h34 : a < 0 → b < 0) (h5 : ∀ o, 0 ≤ o → o < siz N a * siz N b → -99999 ≤ w o ∧ w o ≤ 99999) : NF N (fct 7 0 0 a b c) w := ⟨fun z => absurd (fct0.symm.trans z) (by decide), fun z => absurd (fct0.symm.trans z) (by decide), fun _ q hq => by
  rcases hq with z | z
  · rw [z]; exact h3
  · rw [z]; exact h4, fun _ => h34, fun _ => h5, fun z => absurd (fct0.symm.trans z) (by decide)⟩
set_option maxRecDepth 100000 in
set_option maxHeartbeats 4000000 in
theorem e_X9_tellIndexes (l : Launch) (G : sG) (S : sS) {S0 : sS} {N : sN} {k v : Int → Int} {T pz q x so s0 : Int} (hI : cX G S 0 0 0) (hN : Hd (NRc N S0)) (hK : Hd (NK N)) (hkv : Hd (KV S k v T)) (hfk : S.1 11 14 = 0) (hat : S.1 11 13 = pz) (hpz : 0 ≤ pz ∧ pz ≤ 2000) (hLQ : Hd (LQ S0 S N.1 x so (-1) (-1))) (hs : s0 = N.1) (hs7 : 0 ≤ s0 ∧ s0 ≤ 127) (hso : Hd (so ≠ 6)) (hgi : Hd (ogI k pz = some q)) : Met l yX9_tellIndexes (.code yX9_tellIndexes cX9_tellIndexes 4 (some .boolean) :: tb) (rmk 3 0 0) (sPc G 294 S [.ref (G.2.2.1 + 11), .int (iv s0)]) (sQi G 294 (fun r u => cX G u 0 0 0 ∧ Fr S u (pl [11, 17]) ∧ ((Hd (RK S u ∧ (r = 0 → u.1 11 14 ≠ 0)) ∧ 0 ≤ r ∧ r ≤ 1) ∧ (u.1 11 9 = S.1 11 9 ∧ u.1 11 10 = S.1 11 10 ∧ u.1 11 11 = S.1 11 11 ∧ u.1 11 12 = S.1 11 12) ∧ Hd (r = 1 → ∃ s3 s4, eIx k v N pz = some (s3, s4, q) ∧ LQ S0 u N.1 x so s3 s4 ∧ u.1 11 13 = q ∧ u.1 11 14 = 0) ∧ Hd (r = 0 → eIx k v N pz = none)))) 0 0 (sF G) := by
  refine sEnter (by decide) (Nat.le_of_ble_eq_true rfl) ?_
  intro p e s m args below meth c Cx hr hlk hnm hW ls hl
  have Cx : sC G p m c cX9_tellIndexes 4 s args RX9 := Cx
  obtain ⟨hx, hb, hml, hown, hts⟩ := id Cx.1
  have hL : sL G [] := sL_nil
  have hl : lv_has ls 4 [(0, .ref (G.2.2.1 + 11)), (1, .int (iv s0))] := hl
  have hW0 := hW
  have hkn : 0 ≤ S.1 11 9 ∧ S.1 11 9 ≤ 128 := hI.fi 11 9 9 (by decide) rfl
  have hTb : 0 ≤ S.1 12 3 ∧ S.1 12 3 ≤ 2001 := hI.fi 12 3 8 (by decide) rfl
  have hTe := hkv.2.2
  have hN1 := hN.1
  have gi : Hd _ := ogI_i hgi
  refine lv_aload_n hx hb dX9_tellIndexes_0 rfl (lv_at hl 0 rfl) ?_
  refine g_X9_14 Cx hW (k := 11) (by decide) rfl (v := .ref (G.2.2.1 + 12)) (rf_11_0 hI) dX9_tellIndexes_1 ?_
  refine lv_aload_n hx hb dX9_tellIndexes_4 rfl (lv_at hl 0 rfl) ?_
  have q_1 : (-2147483648) ≤ S.1 11 13 ∧ S.1 11 13 ≤ 2147483647 := hI.fi 11 13 9 (by decide) rfl
  refine g_X9_89 Cx hW (k := 11) (by decide) rfl (v := S.1 11 13) rfl dX9_tellIndexes_5 ?_
  refine sBi (sV (As := [.int (iv (S.1 11 13))]) (rest := []) (k := 12) Cx (s_X8_kind l G S (k := S.1 11 13) hI (by omega)) (c_X9_95 Cx rfl rfl (rmk_ok (by omega) (by decide))) hW (by decide) rfl rfl rfl hl.1 rfl (Nat.le_of_ble_eq_true rfl) dX9_tellIndexes_8 ⟨Nat.le_of_ble_eq_true rfl, Nat.le_of_ble_eq_true rfl⟩) hL (fun r_4 u_2 H locs k_3 hW hL => ?_)
  obtain ⟨eu_2, xu_2⟩ := k_3
  rw [eu_2] at hW
  have k0 : r_4 = k pz := (by rw [← hkv.1]; exact xu_2.1.trans (congrArg (kd S) (by omega)))
  refine lv_bipush (v := iv 17) hx hb dX9_tellIndexes_11 (by decide) ?_
  refine r_icmp_eq (tgt := 18) hx hb ⟨(by omega), (by omega)⟩ ⟨(by omega), (by omega)⟩ dX9_tellIndexes_13 (by decide) (fun c_5 => ?_) (fun c_5 => ?_)
  · obtain ⟨g1, g2⟩ : k (pz + 1) = 2 ∧ Hd ((k (pz + 2) ≠ 16 ∧ k (pz + 2) = 18 ∧ q = pz + 3) ∨ (k (pz + 2) = 16 ∧ k (pz + 3) = 2 ∧ k (pz + 4) = 18 ∧ q = pz + 5)) := (by rcases gi with g | g; (exact absurd (by omega) g.1); (exact g.2))
    have gl := hkv.lt g1 (by decide)
    refine lv_iconst (v := iv 3) hx hb dX9_tellIndexes_18 (by decide) ?_
    refine lv_istore_n (lv' := [(2, .int (iv 3)), (0, .ref (G.2.2.1 + 11)), (1, .int (iv s0))]) hx hb dX9_tellIndexes_19 rfl hl (by decide) rfl (fun ls hl => ?_)
    refine lv_iload_n hx hb dX9_tellIndexes_20 rfl (lv_at hl 0 rfl) ?_
    refine lv_iconst (v := iv 4) hx hb dX9_tellIndexes_21 (by decide) ?_
    refine r_icmp_gt (tgt := 107) hx hb ⟨(by omega), (by omega)⟩ ⟨(by omega), (by omega)⟩ dX9_tellIndexes_22 (by decide) (fun c => absurd c (by omega)) (fun _ => ?_)
    refine lv_aload_n hx hb dX9_tellIndexes_25 rfl (lv_at hl 1 rfl) ?_
    refine lv_aload_n hx hb dX9_tellIndexes_26 rfl (lv_at hl 1 rfl) ?_
    refine g_X9_14 Cx hW (k := 11) (by decide) rfl (v := .ref (G.2.2.1 + 12)) (rf_11_0 hI) dX9_tellIndexes_27 ?_
    refine lv_aload_n hx hb dX9_tellIndexes_30 rfl (lv_at hl 1 rfl) ?_
    refine g_X9_89 Cx hW (k := 11) (by decide) rfl (v := S.1 11 13) rfl dX9_tellIndexes_31 ?_
    refine lv_iconst (v := iv 1) hx hb dX9_tellIndexes_34 (by decide) ?_
    refine r_iadd hx hb dX9_tellIndexes_35 ?_
    refine sBl (sV (As := [.int (iv ((S.1 11 13) + 1))]) (rest := [.ref (G.2.2.1 + 11)]) (k := 12) Cx (s_X8_value l G S (k := (S.1 11 13) + 1) hI (by omega)) (c_X9_124 Cx rfl rfl (rmk_ok (by omega) (by decide))) hW (by decide) rfl rfl rfl hl.1 rfl (Nat.le_of_ble_eq_true rfl) dX9_tellIndexes_36 ⟨Nat.le_of_ble_eq_true rfl, Nat.le_of_ble_eq_true rfl⟩) hL (fun r_8 u_6 H locs k_7 hW hL => ?_)
    obtain ⟨eu_6, xu_6⟩ := k_7
    rw [eu_6] at hW
    have vx1 : r_8 = v (pz + 1) := (by rw [← hkv.2.1]; exact xu_6.1.trans (congrArg (vd _) (by omega)))
    have q_9 : 0 ≤ S.1 11 9 ∧ S.1 11 9 ≤ 128 := hI.fi 11 9 9 (by decide) rfl
    refine sBi (sV (As := [.long (jv r_8)]) (rest := []) (k := 11) Cx (e_X9_find l G S (nm := r_8) hI (by omega)) (c_X9_128 Cx rfl rfl (rmk_ok (by omega) (by decide))) hW (by decide) rfl rfl rfl hl.1 rfl (Nat.le_of_ble_eq_true rfl) dX9_tellIndexes_39 ⟨Nat.le_of_ble_eq_true rfl, Nat.le_of_ble_eq_true rfl⟩) hL (fun r_12 u_10 H locs k_11 hW hL => ?_)
    obtain ⟨eu_10, xu_10⟩ := k_11
    rw [eu_10] at hW
    have ff1 : r_12 = eFind (addN N x (fun _ => so) (fun _ => 0)) (v (pz + 1)) := (by rw [← vx1]; exact xu_10.2.trans (LQ.find hN hLQ))
    refine lv_istore_n (lv' := [(3, .int (iv r_12)), (2, .int (iv 3)), (0, .ref (G.2.2.1 + 11)), (1, .int (iv s0))]) hx hb dX9_tellIndexes_42 rfl hl (by decide) rfl (fun ls hl => ?_)
    refine lv_aload_n hx hb dX9_tellIndexes_43 rfl (lv_at hl 2 rfl) ?_
    refine lv_iload_n hx hb dX9_tellIndexes_44 rfl (lv_at hl 0 rfl) ?_
    refine lv_bipush (v := iv 6) hx hb dX9_tellIndexes_45 (by decide) ?_
    refine sBi (sV (As := [.int (iv r_12), .int (iv 6)]) (rest := []) (k := 11) Cx (e_X9_isSort l G S (s0 := r_12) (k := 6) hI (by omega) (by omega)) (c_X9_146 Cx rfl rfl (rmk_ok (by omega) (by decide))) hW (by decide) rfl rfl rfl hl.1 rfl (Nat.le_of_ble_eq_true rfl) dX9_tellIndexes_47 ⟨Nat.le_of_ble_eq_true rfl, Nat.le_of_ble_eq_true rfl⟩) hL (fun r_15 u_13 H locs k_14 hW hL => ?_)
    obtain ⟨eu_13, xu_13⟩ := k_14
    rw [eu_13] at hW
    have ss1 : Hd ((0 ≤ r_12 ∧ fc S r_12 0 = 6) ↔ isS N (v (pz + 1))) := LQ.sort hN hLQ hso ff1
    refine r_if_ne (tgt := 65) hx hb ⟨(by omega), (by omega)⟩ dX9_tellIndexes_50 (by decide) (fun c_16 => ?_) (fun c_16 => ?_)
    · have ys1 : Hd (isS N (v (pz + 1))) := ss1.mp (xu_13.2.1 (by omega))
      have ef1 : r_12 = eFind N (v (pz + 1)) := ff1.trans (eFind_add_s (by omega) ys1)
      have eb1 := ys1.1
      refine lv_aload_n hx hb dX9_tellIndexes_65 rfl (lv_at hl 2 rfl) ?_
      refine lv_iload_n hx hb dX9_tellIndexes_66 rfl (lv_at hl 3 rfl) ?_
      refine lv_iload_n hx hb dX9_tellIndexes_67 rfl (lv_at hl 1 rfl) ?_
      refine lv_iload_n hx hb dX9_tellIndexes_68 rfl (lv_at hl 0 rfl) ?_
      refine sBv (sV (As := [.int (iv s0), .int (iv 3), .int (iv r_12)]) (rest := []) (k := 11) Cx (s_X9_setFact l G S (s0 := s0) (q := 3) (v := r_12) hI (by omega) (by omega) (by unfold fr8; omega) (by omega)) (c_X9_136 Cx rfl rfl (rmk_ok (by omega) (by decide))) hW (by decide) rfl rfl rfl hl.1 rfl (Nat.le_of_ble_eq_true rfl) dX9_tellIndexes_69 ⟨Nat.le_of_ble_eq_true rfl, Nat.le_of_ble_eq_true rfl⟩) hL (fun u_17 H locs k_18 hW hL => ?_)
      obtain ⟨iu_17, fu_17, xu_17⟩ := k_18
      have F_19 := (Fr.rf : Fr S S (pl [11, 17])).trans (fu_17.to (p1_sub rfl))
      have lq_20 := LQ.set3 hLQ hs xu_17
      refine lv_aload_n hx hb dX9_tellIndexes_72 rfl (lv_at hl 2 rfl) ?_
      refine lv_dup hx hb dX9_tellIndexes_73 rfl ?_
      refine g_X9_89 Cx hW (k := 11) (by decide) rfl (v := S.1 11 13) ((fu_17 11 rfl).1 13) dX9_tellIndexes_74 ?_
      refine lv_iconst (v := iv 2) hx hb dX9_tellIndexes_77 (by decide) ?_
      refine r_iadd hx hb dX9_tellIndexes_78 ?_
      refine p_X9_89 Cx hW hL (k := 11) (by decide) rfl dX9_tellIndexes_79 (fun H locs hW hL => ?_)
      have F_21 : Fr S (uF u_17 11 13 ((S.1 11 13) + 2)) (pl [11, 17]) := F_19.F rfl
      have F_22 : Fr u_17 (uF u_17 11 13 ((S.1 11 13) + 2)) pR3 := (Fr.rf : Fr u_17 u_17 pR3).F rfl
      have i_23 : cX G (uF u_17 11 13 ((S.1 11 13) + 2)) 0 0 0 := iu_17.F rfl rfl (show (-2147483648) ≤ (S.1 11 13) + 2 ∧ (S.1 11 13) + 2 ≤ 2147483647 from ⟨by omega, by omega⟩)
      refine lv_aload_n hx hb dX9_tellIndexes_82 rfl (lv_at hl 2 rfl) ?_
      refine g_X9_14 Cx hW (k := 11) (by decide) rfl (v := .ref (G.2.2.1 + 12)) (rf_11_0 i_23) dX9_tellIndexes_83 ?_
      refine lv_aload_n hx hb dX9_tellIndexes_86 rfl (lv_at hl 2 rfl) ?_
      refine g_X9_89 Cx hW (k := 11) (by decide) rfl (v := (S.1 11 13) + 2) uF_on dX9_tellIndexes_87 ?_
      refine sBi (sV (As := [.int (iv ((S.1 11 13) + 2))]) (rest := []) (k := 12) Cx (s_X8_kind l G (uF u_17 11 13 ((S.1 11 13) + 2)) (k := (S.1 11 13) + 2) i_23 (by omega)) (c_X9_95 Cx rfl rfl (rmk_ok (by omega) (by decide))) hW (by decide) rfl rfl rfl hl.1 rfl (Nat.le_of_ble_eq_true rfl) dX9_tellIndexes_90 ⟨Nat.le_of_ble_eq_true rfl, Nat.le_of_ble_eq_true rfl⟩) hL (fun r_26 u_24 H locs k_25 hW hL => ?_)
      obtain ⟨eu_24, xu_24⟩ := k_25
      rw [eu_24] at hW
      have kv_27 : KV (uF u_17 11 13 ((S.1 11 13) + 2)) k v T := hkv.fr F_21 rfl rfl rfl
      have kc1 : r_26 = k (pz + 2) := (by rw [← kv_27.1]; exact xu_24.1.trans (congrArg (kd _) (by omega)))
      refine lv_bipush (v := iv 16) hx hb dX9_tellIndexes_93 (by decide) ?_
      refine r_icmp_eq (tgt := 101) hx hb ⟨(by omega), (by omega)⟩ ⟨(by omega), (by omega)⟩ dX9_tellIndexes_95 (by decide) (fun c_28 => ?_) (fun c_28 => ?_)
      · refine lv_iinc (v := iv (4)) (lv' := [(2, .int (iv 4)), (3, .int (iv r_12)), (0, .ref (G.2.2.1 + 11)), (1, .int (iv s0))]) hx hb dX9_tellIndexes_101 hl (k := 1) rfl ((Int32.ofInt_add _ _).symm.trans (congrArg iv (by omega))) (by decide) rfl (fun ls hl => ?_)
        refine lv_goto (tgt := 20) hx hb dX9_tellIndexes_104 (by decide) ?_
        refine lv_iload_n hx hb dX9_tellIndexes_20 rfl (lv_at hl 0 rfl) ?_
        refine lv_iconst (v := iv 4) hx hb dX9_tellIndexes_21 (by decide) ?_
        refine r_icmp_gt (tgt := 107) hx hb ⟨(by omega), (by omega)⟩ ⟨(by omega), (by omega)⟩ dX9_tellIndexes_22 (by decide) (fun c => absurd c (by omega)) (fun _ => ?_)
        obtain ⟨g3, g4, g5⟩ : k (pz + 3) = 2 ∧ k (pz + 4) = 18 ∧ q = pz + 5 := (by rcases g2 with g | g; (exact absurd (by omega) g.1); (exact g.2))
        have gm := hkv.lt g4 (by decide)
        refine lv_aload_n hx hb dX9_tellIndexes_25 rfl (lv_at hl 2 rfl) ?_
        refine lv_aload_n hx hb dX9_tellIndexes_26 rfl (lv_at hl 2 rfl) ?_
        refine g_X9_14 Cx hW (k := 11) (by decide) rfl (v := .ref (G.2.2.1 + 12)) (rf_11_0 i_23) dX9_tellIndexes_27 ?_
        refine lv_aload_n hx hb dX9_tellIndexes_30 rfl (lv_at hl 2 rfl) ?_
        refine g_X9_89 Cx hW (k := 11) (by decide) rfl (v := (S.1 11 13) + 2) uF_on dX9_tellIndexes_31 ?_
        refine lv_iconst (v := iv 1) hx hb dX9_tellIndexes_34 (by decide) ?_
        refine r_iadd hx hb dX9_tellIndexes_35 ?_
        refine sBl (sV (As := [.int (iv (((S.1 11 13) + 2) + 1))]) (rest := [.ref (G.2.2.1 + 11)]) (k := 12) Cx (s_X8_value l G (uF u_17 11 13 ((S.1 11 13) + 2)) (k := ((S.1 11 13) + 2) + 1) i_23 (by omega)) (c_X9_124 Cx rfl rfl (rmk_ok (by omega) (by decide))) hW (by decide) rfl rfl rfl hl.1 rfl (Nat.le_of_ble_eq_true rfl) dX9_tellIndexes_36 ⟨Nat.le_of_ble_eq_true rfl, Nat.le_of_ble_eq_true rfl⟩) hL (fun r_31 u_29 H locs k_30 hW hL => ?_)
        obtain ⟨eu_29, xu_29⟩ := k_30
        rw [eu_29] at hW
        have vx2 : r_31 = v (pz + 3) := (by rw [← kv_27.2.1]; exact xu_29.1.trans (congrArg (vd _) (by omega)))
        have lk_32 : (uF u_17 11 13 ((S.1 11 13) + 2)).1 11 9 = S.1 11 9 := (uF_ne (fun h => absurd h.2 (by decide))).trans ((fu_17 11 rfl).1 9)
        refine sBi (sV (As := [.long (jv r_31)]) (rest := []) (k := 11) Cx (e_X9_find l G (uF u_17 11 13 ((S.1 11 13) + 2)) (nm := r_31) i_23 (by omega)) (c_X9_128 Cx rfl rfl (rmk_ok (by omega) (by decide))) hW (by decide) rfl rfl rfl hl.1 rfl (Nat.le_of_ble_eq_true rfl) dX9_tellIndexes_39 ⟨Nat.le_of_ble_eq_true rfl, Nat.le_of_ble_eq_true rfl⟩) hL (fun r_35 u_33 H locs k_34 hW hL => ?_)
        obtain ⟨eu_33, xu_33⟩ := k_34
        rw [eu_33] at hW
        have lq_36 := LQ.of (w := (uF u_17 11 13 ((S.1 11 13) + 2))) lq_20 (uF_ne (fun h => absurd h.2 (by decide))) (fun j => (F_22 16 rfl).2.2.1 j) (fun j => (F_22 17 rfl).2.1 j)
        have ff2 : r_35 = eFind (addN N x (fun _ => so) (fun _ => 0)) (v (pz + 3)) := (by rw [← vx2]; exact xu_33.2.trans (LQ.find hN lq_36))
        refine lv_istore_n (lv' := [(3, .int (iv r_35)), (2, .int (iv 4)), (0, .ref (G.2.2.1 + 11)), (1, .int (iv s0))]) hx hb dX9_tellIndexes_42 rfl hl (by decide) rfl (fun ls hl => ?_)
        refine lv_aload_n hx hb dX9_tellIndexes_43 rfl (lv_at hl 2 rfl) ?_
        refine lv_iload_n hx hb dX9_tellIndexes_44 rfl (lv_at hl 0 rfl) ?_
        refine lv_bipush (v := iv 6) hx hb dX9_tellIndexes_45 (by decide) ?_
        refine sBi (sV (As := [.int (iv r_35), .int (iv 6)]) (rest := []) (k := 11) Cx (e_X9_isSort l G (uF u_17 11 13 ((S.1 11 13) + 2)) (s0 := r_35) (k := 6) i_23 (by omega) (by omega)) (c_X9_146 Cx rfl rfl (rmk_ok (by omega) (by decide))) hW (by decide) rfl rfl rfl hl.1 rfl (Nat.le_of_ble_eq_true rfl) dX9_tellIndexes_47 ⟨Nat.le_of_ble_eq_true rfl, Nat.le_of_ble_eq_true rfl⟩) hL (fun r_39 u_37 H locs k_38 hW hL => ?_)
        obtain ⟨eu_37, xu_37⟩ := k_38
        rw [eu_37] at hW
        have ss2 : Hd ((0 ≤ r_35 ∧ fc (uF u_17 11 13 ((S.1 11 13) + 2)) r_35 0 = 6) ↔ isS N (v (pz + 3))) := LQ.sort hN lq_36 hso ff2
        refine r_if_ne (tgt := 65) hx hb ⟨(by omega), (by omega)⟩ dX9_tellIndexes_50 (by decide) (fun c_40 => ?_) (fun c_40 => ?_)
        · have ys2 : Hd (isS N (v (pz + 3))) := ss2.mp (xu_37.2.1 (by omega))
          have ef2 : r_35 = eFind N (v (pz + 3)) := ff2.trans (eFind_add_s (by omega) ys2)
          have eb2 := ys2.1
          refine lv_aload_n hx hb dX9_tellIndexes_65 rfl (lv_at hl 2 rfl) ?_
          refine lv_iload_n hx hb dX9_tellIndexes_66 rfl (lv_at hl 3 rfl) ?_
          refine lv_iload_n hx hb dX9_tellIndexes_67 rfl (lv_at hl 1 rfl) ?_
          refine lv_iload_n hx hb dX9_tellIndexes_68 rfl (lv_at hl 0 rfl) ?_
          refine sBv (sV (As := [.int (iv s0), .int (iv 4), .int (iv r_35)]) (rest := []) (k := 11) Cx (s_X9_setFact l G (uF u_17 11 13 ((S.1 11 13) + 2)) (s0 := s0) (q := 4) (v := r_35) i_23 (by omega) (by omega) (by unfold fr8; omega) (by omega)) (c_X9_136 Cx rfl rfl (rmk_ok (by omega) (by decide))) hW (by decide) rfl rfl rfl hl.1 rfl (Nat.le_of_ble_eq_true rfl) dX9_tellIndexes_69 ⟨Nat.le_of_ble_eq_true rfl, Nat.le_of_ble_eq_true rfl⟩) hL (fun u_41 H locs k_42 hW hL => ?_)
          obtain ⟨iu_41, fu_41, xu_41⟩ := k_42
          have F_43 := F_21.trans (fu_41.to (p1_sub rfl))
          have lq_44 := LQ.set4 lq_36 hs xu_41
          refine lv_aload_n hx hb dX9_tellIndexes_72 rfl (lv_at hl 2 rfl) ?_
          refine lv_dup hx hb dX9_tellIndexes_73 rfl ?_
          refine g_X9_89 Cx hW (k := 11) (by decide) rfl (v := (S.1 11 13) + 2) (((fu_41 11 rfl).1 13).trans (uF_on)) dX9_tellIndexes_74 ?_
          refine lv_iconst (v := iv 2) hx hb dX9_tellIndexes_77 (by decide) ?_
          refine r_iadd hx hb dX9_tellIndexes_78 ?_
          refine p_X9_89 Cx hW hL (k := 11) (by decide) rfl dX9_tellIndexes_79 (fun H locs hW hL => ?_)
          have F_45 : Fr S (uF u_41 11 13 (((S.1 11 13) + 2) + 2)) (pl [11, 17]) := F_43.F rfl
          have F_46 : Fr u_41 (uF u_41 11 13 (((S.1 11 13) + 2) + 2)) pR3 := (Fr.rf : Fr u_41 u_41 pR3).F rfl
          have i_47 : cX G (uF u_41 11 13 (((S.1 11 13) + 2) + 2)) 0 0 0 := iu_41.F rfl rfl (show (-2147483648) ≤ ((S.1 11 13) + 2) + 2 ∧ ((S.1 11 13) + 2) + 2 ≤ 2147483647 from ⟨by omega, by omega⟩)
          refine lv_aload_n hx hb dX9_tellIndexes_82 rfl (lv_at hl 2 rfl) ?_
          refine g_X9_14 Cx hW (k := 11) (by decide) rfl (v := .ref (G.2.2.1 + 12)) (rf_11_0 i_47) dX9_tellIndexes_83 ?_
          refine lv_aload_n hx hb dX9_tellIndexes_86 rfl (lv_at hl 2 rfl) ?_
          refine g_X9_89 Cx hW (k := 11) (by decide) rfl (v := ((S.1 11 13) + 2) + 2) uF_on dX9_tellIndexes_87 ?_
          refine sBi (sV (As := [.int (iv (((S.1 11 13) + 2) + 2))]) (rest := []) (k := 12) Cx (s_X8_kind l G (uF u_41 11 13 (((S.1 11 13) + 2) + 2)) (k := ((S.1 11 13) + 2) + 2) i_47 (by omega)) (c_X9_95 Cx rfl rfl (rmk_ok (by omega) (by decide))) hW (by decide) rfl rfl rfl hl.1 rfl (Nat.le_of_ble_eq_true rfl) dX9_tellIndexes_90 ⟨Nat.le_of_ble_eq_true rfl, Nat.le_of_ble_eq_true rfl⟩) hL (fun r_50 u_48 H locs k_49 hW hL => ?_)
          obtain ⟨eu_48, xu_48⟩ := k_49
          rw [eu_48] at hW
          have kv_51 : KV (uF u_41 11 13 (((S.1 11 13) + 2) + 2)) k v T := hkv.fr F_45 rfl rfl rfl
          have kc2 : r_50 = k (pz + 4) := (by rw [← kv_51.1]; exact xu_48.1.trans (congrArg (kd _) (by omega)))
          refine lv_bipush (v := iv 16) hx hb dX9_tellIndexes_93 (by decide) ?_
          refine r_icmp_eq (tgt := 101) hx hb ⟨(by omega), (by omega)⟩ ⟨(by omega), (by omega)⟩ dX9_tellIndexes_95 (by decide) (fun c_52 => ?_) (fun c_52 => ?_)
          · exfalso; omega
          · refine lv_goto (tgt := 107) hx hb dX9_tellIndexes_98 (by decide) ?_
            refine lv_aload_n hx hb dX9_tellIndexes_107 rfl (lv_at hl 2 rfl) ?_
            refine lv_dup hx hb dX9_tellIndexes_108 rfl ?_
            refine g_X9_89 Cx hW (k := 11) (by decide) rfl (v := ((S.1 11 13) + 2) + 2) uF_on dX9_tellIndexes_109 ?_
            refine lv_iconst (v := iv 1) hx hb dX9_tellIndexes_112 (by decide) ?_
            refine r_iadd hx hb dX9_tellIndexes_113 ?_
            refine p_X9_89 Cx hW hL (k := 11) (by decide) rfl dX9_tellIndexes_114 (fun H locs hW hL => ?_)
            have F_53 : Fr S (uF (uF u_41 11 13 (((S.1 11 13) + 2) + 2)) 11 13 ((((S.1 11 13) + 2) + 2) + 1)) (pl [11, 17]) := F_45.F rfl
            have F_54 : Fr u_41 (uF (uF u_41 11 13 (((S.1 11 13) + 2) + 2)) 11 13 ((((S.1 11 13) + 2) + 2) + 1)) pR3 := F_46.F rfl
            have i_55 : cX G (uF (uF u_41 11 13 (((S.1 11 13) + 2) + 2)) 11 13 ((((S.1 11 13) + 2) + 2) + 1)) 0 0 0 := i_47.F rfl rfl (show (-2147483648) ≤ (((S.1 11 13) + 2) + 2) + 1 ∧ (((S.1 11 13) + 2) + 2) + 1 ≤ 2147483647 from ⟨by omega, by omega⟩)
            refine lv_iconst (v := iv 1) hx hb dX9_tellIndexes_117 (by decide) ?_
            have q_56 : 0 ≤ S.1 11 14 ∧ S.1 11 14 ≤ 7 := hI.fi 11 14 9 (by decide) rfl
            have lk_57 : (uF (uF u_41 11 13 (((S.1 11 13) + 2) + 2)) 11 13 ((((S.1 11 13) + 2) + 2) + 1)).1 11 14 = S.1 11 14 := (uF_ne (fun h => absurd h.2 (by decide))).trans ((uF_ne (fun h => absurd h.2 (by decide))).trans (((fu_41 11 rfl).1 14).trans ((uF_ne (fun h => absurd h.2 (by decide))).trans ((fu_17 11 rfl).1 14))))
            have lk_58 : (uF (uF u_41 11 13 (((S.1 11 13) + 2) + 2)) 11 13 ((((S.1 11 13) + 2) + 2) + 1)).1 11 9 = S.1 11 9 := (uF_ne (fun h => absurd h.2 (by decide))).trans ((uF_ne (fun h => absurd h.2 (by decide))).trans (((fu_41 11 rfl).1 9).trans ((uF_ne (fun h => absurd h.2 (by decide))).trans ((fu_17 11 rfl).1 9))))
            have q_59 : 0 ≤ S.1 11 10 ∧ S.1 11 10 ≤ 8 := hI.fi 11 10 9 (by decide) rfl
            have lk_60 : (uF (uF u_41 11 13 (((S.1 11 13) + 2) + 2)) 11 13 ((((S.1 11 13) + 2) + 2) + 1)).1 11 10 = S.1 11 10 := (uF_ne (fun h => absurd h.2 (by decide))).trans ((uF_ne (fun h => absurd h.2 (by decide))).trans (((fu_41 11 rfl).1 10).trans ((uF_ne (fun h => absurd h.2 (by decide))).trans ((fu_17 11 rfl).1 10))))
            have q_61 : 0 ≤ S.1 11 11 ∧ S.1 11 11 ≤ 12 := hI.fi 11 11 9 (by decide) rfl
            have lk_62 : (uF (uF u_41 11 13 (((S.1 11 13) + 2) + 2)) 11 13 ((((S.1 11 13) + 2) + 2) + 1)).1 11 11 = S.1 11 11 := (uF_ne (fun h => absurd h.2 (by decide))).trans ((uF_ne (fun h => absurd h.2 (by decide))).trans (((fu_41 11 rfl).1 11).trans ((uF_ne (fun h => absurd h.2 (by decide))).trans ((fu_17 11 rfl).1 11))))
            have q_63 : (-2147483648) ≤ S.1 11 12 ∧ S.1 11 12 ≤ 2147483647 := hI.fi 11 12 9 (by decide) rfl
            have lk_64 : (uF (uF u_41 11 13 (((S.1 11 13) + 2) + 2)) 11 13 ((((S.1 11 13) + 2) + 2) + 1)).1 11 12 = S.1 11 12 := (uF_ne (fun h => absurd h.2 (by decide))).trans ((uF_ne (fun h => absurd h.2 (by decide))).trans (((fu_41 11 rfl).1 12).trans ((uF_ne (fun h => absurd h.2 (by decide))).trans ((fu_17 11 rfl).1 12))))
            have lk_65 : (uF (uF u_41 11 13 (((S.1 11 13) + 2) + 2)) 11 13 ((((S.1 11 13) + 2) + 2) + 1)).1 11 13 = (((S.1 11 13) + 2) + 2) + 1 := uF_on
            have lq_66 := LQ.of (w := (uF (uF u_41 11 13 (((S.1 11 13) + 2) + 2)) 11 13 ((((S.1 11 13) + 2) + 2) + 1))) lq_44 ((uF_ne (fun h => absurd h.2 (by decide))).trans (uF_ne (fun h => absurd h.2 (by decide)))) (fun j => (F_54 16 rfl).2.2.1 j) (fun j => (F_54 17 rfl).2.1 j)
            exact sZret Cx hr hlk hW hL (by omega) ⟨i_55, F_53, (by have qe := g5; exact ⟨⟨⟨(fun i => (((fu_41 11 rfl).2.2.2 i).trans ((fu_17 11 rfl).2.2.2 i))), (fun h => absurd h (by decide))⟩, by omega, by omega⟩, ⟨by omega, by omega, by omega, by omega⟩, (fun _ => ⟨r_12, r_35, (by rw [eIx_4 (by omega) ys1 (by omega) ys2, ef1, ef2, qe]), lq_66, (by omega), (by omega)⟩), (fun h => absurd h (by decide))⟩)⟩ dX9_tellIndexes_118
        · refine lv_aload_n hx hb dX9_tellIndexes_53 rfl (lv_at hl 2 rfl) ?_
          refine lv_iconst (v := iv 2) hx hb dX9_tellIndexes_54 (by decide) ?_
          refine lv_aload_n hx hb dX9_tellIndexes_55 rfl (lv_at hl 2 rfl) ?_
          refine g_X9_89 Cx hW (k := 11) (by decide) rfl (v := (S.1 11 13) + 2) uF_on dX9_tellIndexes_56 ?_
          refine lv_iconst (v := iv 1) hx hb dX9_tellIndexes_59 (by decide) ?_
          refine r_iadd hx hb dX9_tellIndexes_60 ?_
          have lk_67 : (uF u_17 11 13 ((S.1 11 13) + 2)).1 11 13 = (S.1 11 13) + 2 := uF_on
          have q_68 : 0 ≤ S.1 11 10 ∧ S.1 11 10 ≤ 8 := hI.fi 11 10 9 (by decide) rfl
          have lk_69 : (uF u_17 11 13 ((S.1 11 13) + 2)).1 11 10 = S.1 11 10 := (uF_ne (fun h => absurd h.2 (by decide))).trans ((fu_17 11 rfl).1 10)
          have q_70 : 0 ≤ S.1 11 11 ∧ S.1 11 11 ≤ 12 := hI.fi 11 11 9 (by decide) rfl
          have lk_71 : (uF u_17 11 13 ((S.1 11 13) + 2)).1 11 11 = S.1 11 11 := (uF_ne (fun h => absurd h.2 (by decide))).trans ((fu_17 11 rfl).1 11)
          have q_72 : (-2147483648) ≤ S.1 11 12 ∧ S.1 11 12 ≤ 2147483647 := hI.fi 11 12 9 (by decide) rfl
          have lk_73 : (uF u_17 11 13 ((S.1 11 13) + 2)).1 11 12 = S.1 11 12 := (uF_ne (fun h => absurd h.2 (by decide))).trans ((fu_17 11 rfl).1 12)
          refine sBi (sV (As := [.int (iv 2), .int (iv (((S.1 11 13) + 2) + 1))]) (rest := []) (k := 11) Cx (e_X9_fail l G (uF u_17 11 13 ((S.1 11 13) + 2)) (k := 2) (tk := ((S.1 11 13) + 2) + 1) i_23 (by omega) (by omega)) (c_X9_132 Cx rfl rfl (rmk_ok (by omega) (by decide))) hW (by decide) rfl rfl rfl hl.1 rfl (Nat.le_of_ble_eq_true rfl) dX9_tellIndexes_61 ⟨Nat.le_of_ble_eq_true rfl, Nat.le_of_ble_eq_true rfl⟩) hL (fun r_76 u_74 H locs k_75 hW hL => ?_)
          obtain ⟨iu_74, fu_74, xu_74⟩ := k_75
          have F_77 := F_21.trans (fu_74.to (p1_sub rfl))
          have F_78 := F_22.trans (fu_74.to (p1_sub rfl))
          have q_79 : 0 ≤ u_74.1 11 14 ∧ u_74.1 11 14 ≤ 7 := iu_74.fi 11 14 9 (by decide) rfl
          have q_80 : 0 ≤ u_74.1 11 9 ∧ u_74.1 11 9 ≤ 128 := iu_74.fi 11 9 9 (by decide) rfl
          have q_81 : 0 ≤ u_74.1 11 10 ∧ u_74.1 11 10 ≤ 8 := iu_74.fi 11 10 9 (by decide) rfl
          have q_82 : 0 ≤ u_74.1 11 11 ∧ u_74.1 11 11 ≤ 12 := iu_74.fi 11 11 9 (by decide) rfl
          have q_83 : (-2147483648) ≤ u_74.1 11 12 ∧ u_74.1 11 12 ≤ 2147483647 := iu_74.fi 11 12 9 (by decide) rfl
          have q_84 : (-2147483648) ≤ u_74.1 11 13 ∧ u_74.1 11 13 ≤ 2147483647 := iu_74.fi 11 13 9 (by decide) rfl
          exact sZret Cx hr hlk hW hL (by omega) ⟨iu_74, F_77, ⟨⟨⟨(fun i => ((xu_74.2.2.2.2.2.2.2 i).trans ((fu_17 11 rfl).2.2.2 i))), (fun _ => by first | omega | exact xu_74.1.1.2 (by omega))⟩, by omega, by omega⟩, ⟨by omega, by omega, by omega, by omega⟩, (fun h => absurd h (by omega)), (fun _ => (eIx_3 (by omega) ys1 (by omega) (fun z => xu_37.2.2 (by omega) (ss2.mpr z))))⟩⟩ dX9_tellIndexes_64
      · refine lv_goto (tgt := 107) hx hb dX9_tellIndexes_98 (by decide) ?_
        refine lv_aload_n hx hb dX9_tellIndexes_107 rfl (lv_at hl 2 rfl) ?_
        refine lv_dup hx hb dX9_tellIndexes_108 rfl ?_
        refine g_X9_89 Cx hW (k := 11) (by decide) rfl (v := (S.1 11 13) + 2) uF_on dX9_tellIndexes_109 ?_
        refine lv_iconst (v := iv 1) hx hb dX9_tellIndexes_112 (by decide) ?_
        refine r_iadd hx hb dX9_tellIndexes_113 ?_
        refine p_X9_89 Cx hW hL (k := 11) (by decide) rfl dX9_tellIndexes_114 (fun H locs hW hL => ?_)
        have F_85 : Fr S (uF (uF u_17 11 13 ((S.1 11 13) + 2)) 11 13 (((S.1 11 13) + 2) + 1)) (pl [11, 17]) := F_21.F rfl
        have F_86 : Fr u_17 (uF (uF u_17 11 13 ((S.1 11 13) + 2)) 11 13 (((S.1 11 13) + 2) + 1)) pR3 := F_22.F rfl
        have i_87 : cX G (uF (uF u_17 11 13 ((S.1 11 13) + 2)) 11 13 (((S.1 11 13) + 2) + 1)) 0 0 0 := i_23.F rfl rfl (show (-2147483648) ≤ ((S.1 11 13) + 2) + 1 ∧ ((S.1 11 13) + 2) + 1 ≤ 2147483647 from ⟨by omega, by omega⟩)
        refine lv_iconst (v := iv 1) hx hb dX9_tellIndexes_117 (by decide) ?_
        have q_88 : 0 ≤ S.1 11 14 ∧ S.1 11 14 ≤ 7 := hI.fi 11 14 9 (by decide) rfl
        have lk_89 : (uF (uF u_17 11 13 ((S.1 11 13) + 2)) 11 13 (((S.1 11 13) + 2) + 1)).1 11 14 = S.1 11 14 := (uF_ne (fun h => absurd h.2 (by decide))).trans ((uF_ne (fun h => absurd h.2 (by decide))).trans ((fu_17 11 rfl).1 14))
        have lk_90 : (uF (uF u_17 11 13 ((S.1 11 13) + 2)) 11 13 (((S.1 11 13) + 2) + 1)).1 11 9 = S.1 11 9 := (uF_ne (fun h => absurd h.2 (by decide))).trans ((uF_ne (fun h => absurd h.2 (by decide))).trans ((fu_17 11 rfl).1 9))
        have q_91 : 0 ≤ S.1 11 10 ∧ S.1 11 10 ≤ 8 := hI.fi 11 10 9 (by decide) rfl
        have lk_92 : (uF (uF u_17 11 13 ((S.1 11 13) + 2)) 11 13 (((S.1 11 13) + 2) + 1)).1 11 10 = S.1 11 10 := (uF_ne (fun h => absurd h.2 (by decide))).trans ((uF_ne (fun h => absurd h.2 (by decide))).trans ((fu_17 11 rfl).1 10))
        have q_93 : 0 ≤ S.1 11 11 ∧ S.1 11 11 ≤ 12 := hI.fi 11 11 9 (by decide) rfl
        have lk_94 : (uF (uF u_17 11 13 ((S.1 11 13) + 2)) 11 13 (((S.1 11 13) + 2) + 1)).1 11 11 = S.1 11 11 := (uF_ne (fun h => absurd h.2 (by decide))).trans ((uF_ne (fun h => absurd h.2 (by decide))).trans ((fu_17 11 rfl).1 11))
        have q_95 : (-2147483648) ≤ S.1 11 12 ∧ S.1 11 12 ≤ 2147483647 := hI.fi 11 12 9 (by decide) rfl
        have lk_96 : (uF (uF u_17 11 13 ((S.1 11 13) + 2)) 11 13 (((S.1 11 13) + 2) + 1)).1 11 12 = S.1 11 12 := (uF_ne (fun h => absurd h.2 (by decide))).trans ((uF_ne (fun h => absurd h.2 (by decide))).trans ((fu_17 11 rfl).1 12))
        have lk_97 : (uF (uF u_17 11 13 ((S.1 11 13) + 2)) 11 13 (((S.1 11 13) + 2) + 1)).1 11 13 = ((S.1 11 13) + 2) + 1 := uF_on
        have lq_98 := LQ.of (w := (uF (uF u_17 11 13 ((S.1 11 13) + 2)) 11 13 (((S.1 11 13) + 2) + 1))) lq_20 ((uF_ne (fun h => absurd h.2 (by decide))).trans (uF_ne (fun h => absurd h.2 (by decide)))) (fun j => (F_86 16 rfl).2.2.1 j) (fun j => (F_86 17 rfl).2.1 j)
        exact sZret Cx hr hlk hW hL (by omega) ⟨i_87, F_85, (by have qe : q = pz + 3 := (by rcases g2 with g | g; (exact g.2.2); (exact absurd g.1 (by omega))); exact ⟨⟨⟨(fun i => ((fu_17 11 rfl).2.2.2 i)), (fun h => absurd h (by decide))⟩, by omega, by omega⟩, ⟨by omega, by omega, by omega, by omega⟩, (fun _ => ⟨r_12, (-1), (by rw [eIx_2 (by omega) ys1 (by omega), ef1, qe]), lq_98, (by omega), (by omega)⟩), (fun h => absurd h (by decide))⟩)⟩ dX9_tellIndexes_118
    · refine lv_aload_n hx hb dX9_tellIndexes_53 rfl (lv_at hl 2 rfl) ?_
      refine lv_iconst (v := iv 2) hx hb dX9_tellIndexes_54 (by decide) ?_
      refine lv_aload_n hx hb dX9_tellIndexes_55 rfl (lv_at hl 2 rfl) ?_
      refine g_X9_89 Cx hW (k := 11) (by decide) rfl (v := S.1 11 13) rfl dX9_tellIndexes_56 ?_
      refine lv_iconst (v := iv 1) hx hb dX9_tellIndexes_59 (by decide) ?_
      refine r_iadd hx hb dX9_tellIndexes_60 ?_
      have q_99 : 0 ≤ S.1 11 10 ∧ S.1 11 10 ≤ 8 := hI.fi 11 10 9 (by decide) rfl
      have q_100 : 0 ≤ S.1 11 11 ∧ S.1 11 11 ≤ 12 := hI.fi 11 11 9 (by decide) rfl
      have q_101 : (-2147483648) ≤ S.1 11 12 ∧ S.1 11 12 ≤ 2147483647 := hI.fi 11 12 9 (by decide) rfl
      refine sBi (sV (As := [.int (iv 2), .int (iv ((S.1 11 13) + 1))]) (rest := []) (k := 11) Cx (e_X9_fail l G S (k := 2) (tk := (S.1 11 13) + 1) hI (by omega) (by omega)) (c_X9_132 Cx rfl rfl (rmk_ok (by omega) (by decide))) hW (by decide) rfl rfl rfl hl.1 rfl (Nat.le_of_ble_eq_true rfl) dX9_tellIndexes_61 ⟨Nat.le_of_ble_eq_true rfl, Nat.le_of_ble_eq_true rfl⟩) hL (fun r_104 u_102 H locs k_103 hW hL => ?_)
      obtain ⟨iu_102, fu_102, xu_102⟩ := k_103
      have F_105 := (Fr.rf : Fr S S (pl [11, 17])).trans (fu_102.to (p1_sub rfl))
      have F_106 := (Fr.rf : Fr S S pR3).trans (fu_102.to (p1_sub rfl))
      have q_107 : 0 ≤ u_102.1 11 14 ∧ u_102.1 11 14 ≤ 7 := iu_102.fi 11 14 9 (by decide) rfl
      have q_108 : 0 ≤ u_102.1 11 9 ∧ u_102.1 11 9 ≤ 128 := iu_102.fi 11 9 9 (by decide) rfl
      have q_109 : 0 ≤ u_102.1 11 10 ∧ u_102.1 11 10 ≤ 8 := iu_102.fi 11 10 9 (by decide) rfl
      have q_110 : 0 ≤ u_102.1 11 11 ∧ u_102.1 11 11 ≤ 12 := iu_102.fi 11 11 9 (by decide) rfl
      have q_111 : (-2147483648) ≤ u_102.1 11 12 ∧ u_102.1 11 12 ≤ 2147483647 := iu_102.fi 11 12 9 (by decide) rfl
      have q_112 : (-2147483648) ≤ u_102.1 11 13 ∧ u_102.1 11 13 ≤ 2147483647 := iu_102.fi 11 13 9 (by decide) rfl
      exact sZret Cx hr hlk hW hL (by omega) ⟨iu_102, F_105, ⟨⟨⟨(fun i => (xu_102.2.2.2.2.2.2.2 i)), (fun _ => by first | omega | exact xu_102.1.1.2 (by omega))⟩, by omega, by omega⟩, ⟨by omega, by omega, by omega, by omega⟩, (fun h => absurd h (by omega)), (fun _ => (eIx_1 (by omega) (fun z => xu_13.2.2 (by omega) (ss1.mpr z))))⟩⟩ dX9_tellIndexes_64
  · refine lv_iconst (v := iv 1) hx hb dX9_tellIndexes_16 (by decide) ?_
    have q_113 : 0 ≤ S.1 11 14 ∧ S.1 11 14 ≤ 7 := hI.fi 11 14 9 (by decide) rfl
    have q_114 : 0 ≤ S.1 11 9 ∧ S.1 11 9 ≤ 128 := hI.fi 11 9 9 (by decide) rfl
    have q_115 : 0 ≤ S.1 11 10 ∧ S.1 11 10 ≤ 8 := hI.fi 11 10 9 (by decide) rfl
    have q_116 : 0 ≤ S.1 11 11 ∧ S.1 11 11 ≤ 12 := hI.fi 11 11 9 (by decide) rfl
    have q_117 : (-2147483648) ≤ S.1 11 12 ∧ S.1 11 12 ≤ 2147483647 := hI.fi 11 12 9 (by decide) rfl
    exact sZret Cx hr hlk hW hL (by omega) ⟨hI, (Fr.rf : Fr S S (pl [11, 17])), (by have qe : q = pz := (by rcases gi with g | g; (exact g.2); (exact absurd g.1 (by omega))); exact ⟨⟨⟨(fun i => rfl), (fun h => absurd h (by decide))⟩, by omega, by omega⟩, ⟨by omega, by omega, by omega, by omega⟩, (fun _ => ⟨(-1), (-1), (by rw [eIx_0 (by omega), qe]), hLQ, (by omega), (by omega)⟩), (fun h => absurd h (by decide))⟩)⟩ dX9_tellIndexes_17

set_option maxRecDepth 100000 in
set_option maxHeartbeats 4000000 in
theorem e_X9_asked (l : Launch) (G : sG) (S : sS) {S0 : sS} {N : sN} {x so s3 s4 s0 : Int} (hI : cX G S 0 0 0) (hN : Hd (NRc N S0)) (hK : Hd (NK N)) (hLQ : Hd (LQ S0 S N.1 x so s3 s4)) (hs : s0 = N.1) (hs7 : 0 ≤ s0 ∧ s0 ≤ 127) (hv3 : Hd (SV N s3)) (hv4 : Hd (SV N s4)) : Met l yX9_asked (.code yX9_asked cX9_asked 2 (some .int) :: tb) (rmk 3 0 0) (sPc G 294 S [.ref (G.2.2.1 + 11), .int (iv s0)]) (sQi G 294 (fun r u => u = S ∧ (r = siz N s3 * siz N s4 ∧ 1 ≤ r ∧ r ≤ 144))) 0 0 (sF G) := by
  refine sEnter (by decide) (Nat.le_of_ble_eq_true rfl) ?_
  intro p e s m args below meth c Cx hr hlk hnm hW ls hl
  have Cx : sC G p m c cX9_asked 2 s args RX9 := Cx
  obtain ⟨hx, hb, hml, hown, hts⟩ := id Cx.1
  have hL : sL G [] := sL_nil
  have hl : lv_has ls 2 [(0, .ref (G.2.2.1 + 11)), (1, .int (iv s0))] := hl
  have hW0 := hW
  have v3b : -1 ≤ s3 ∧ s3 < N.1 := (by have n1 := hN.1; rcases hv3 with z | z <;> omega)
  have v4b : -1 ≤ s4 ∧ s4 < N.1 := (by have n1 := hN.1; rcases hv4 with z | z <;> omega)
  have n1 := hN.1
  refine lv_aload_n hx hb dX9_asked_0 rfl (lv_at hl 0 rfl) ?_
  refine lv_aload_n hx hb dX9_asked_1 rfl (lv_at hl 0 rfl) ?_
  refine lv_iload_n hx hb dX9_asked_2 rfl (lv_at hl 1 rfl) ?_
  refine lv_iconst (v := iv 3) hx hb dX9_asked_3 (by decide) ?_
  refine sBi (sV (As := [.int (iv s0), .int (iv 3)]) (rest := [.ref (G.2.2.1 + 11)]) (k := 11) Cx (s_X9_fact l G S (s0 := s0) (q := 3) hI (by omega) (by omega)) (c_X9_120 Cx rfl rfl (rmk_ok (by omega) (by decide))) hW (by decide) rfl rfl rfl hl.1 rfl (Nat.le_of_ble_eq_true rfl) dX9_asked_4 ⟨Nat.le_of_ble_eq_true rfl, Nat.le_of_ble_eq_true rfl⟩) hL (fun r_3 u_1 H locs k_2 hW hL => ?_)
  obtain ⟨eu_1, xu_1⟩ := k_2
  rw [eu_1] at hW
  have yu_1 := xu_1.2
  unfold fr8 at yu_1
  have a3 : r_3 = s3 := xu_1.1.trans (by rw [hs]; exact hLQ.2.2.2.2.1)
  refine sBi (sV (As := [.int (iv r_3)]) (rest := []) (k := 11) Cx (s_X9_setSize l G S (s0 := r_3) hI (by omega)) (c_X9_149 Cx rfl rfl (rmk_ok (by omega) (by decide))) hW (by decide) rfl rfl rfl hl.1 rfl (Nat.le_of_ble_eq_true rfl) dX9_asked_7 ⟨Nat.le_of_ble_eq_true rfl, Nat.le_of_ble_eq_true rfl⟩) hL (fun r_6 u_4 H locs k_5 hW hL => ?_)
  obtain ⟨eu_4, xu_4⟩ := k_5
  rw [eu_4] at hW
  have z3 : r_6 = siz N s3 := LQ.siz hN hLQ hv3 (by rw [← a3]; exact xu_4.1) (by rw [← a3]; exact xu_4.2.1)
  have zb3 := siz_b hK hv3
  refine lv_aload_n hx hb dX9_asked_10 rfl (lv_at hl 0 rfl) ?_
  refine lv_aload_n hx hb dX9_asked_11 rfl (lv_at hl 0 rfl) ?_
  refine lv_iload_n hx hb dX9_asked_12 rfl (lv_at hl 1 rfl) ?_
  refine lv_iconst (v := iv 4) hx hb dX9_asked_13 (by decide) ?_
  refine sBi (sV (As := [.int (iv s0), .int (iv 4)]) (rest := [.ref (G.2.2.1 + 11), .int (iv r_6)]) (k := 11) Cx (s_X9_fact l G S (s0 := s0) (q := 4) hI (by omega) (by omega)) (c_X9_120 Cx rfl rfl (rmk_ok (by omega) (by decide))) hW (by decide) rfl rfl rfl hl.1 rfl (Nat.le_of_ble_eq_true rfl) dX9_asked_14 ⟨Nat.le_of_ble_eq_true rfl, Nat.le_of_ble_eq_true rfl⟩) hL (fun r_9 u_7 H locs k_8 hW hL => ?_)
  obtain ⟨eu_7, xu_7⟩ := k_8
  rw [eu_7] at hW
  have yu_7 := xu_7.2
  unfold fr8 at yu_7
  have a4 : r_9 = s4 := xu_7.1.trans (by rw [hs]; exact hLQ.2.2.2.2.2)
  refine sBi (sV (As := [.int (iv r_9)]) (rest := [.int (iv r_6)]) (k := 11) Cx (s_X9_setSize l G S (s0 := r_9) hI (by omega)) (c_X9_149 Cx rfl rfl (rmk_ok (by omega) (by decide))) hW (by decide) rfl rfl rfl hl.1 rfl (Nat.le_of_ble_eq_true rfl) dX9_asked_17 ⟨Nat.le_of_ble_eq_true rfl, Nat.le_of_ble_eq_true rfl⟩) hL (fun r_12 u_10 H locs k_11 hW hL => ?_)
  obtain ⟨eu_10, xu_10⟩ := k_11
  rw [eu_10] at hW
  have z4 : r_12 = siz N s4 := LQ.siz hN hLQ hv4 (by rw [← a4]; exact xu_10.1) (by rw [← a4]; exact xu_10.2.1)
  have zb4 := siz_b hK hv4
  refine r_imul hx hb dX9_asked_20 ?_
  exact sIret Cx hr hlk hW hL ⟨rfl, (by rw [z3, z4]; exact ⟨rfl, m12 zb3 zb4⟩)⟩ dX9_asked_21

set_option maxRecDepth 100000 in
set_option maxHeartbeats 4000000 in
theorem e_X9_tellSet (l : Launch) (G : sG) (S : sS) {M : sM} {k v : Int → Int} {T pz q : Int} {o : Nat} (hI : cX G S 0 0 0) (hm : mdl o) (hM : Hd (MRc M S G o)) (hTV : Hd (TVn k v)) (hkv : Hd (KV S k v T)) (hfk : S.1 11 14 = 0) (hat : S.1 11 13 = pz) (hpz : 0 ≤ pz ∧ pz ≤ 2000) (hqb : q ≤ 2001) (hg : Hd (k (pz + 3) = 3 ∧ k (pz + 5) = 3 ∧ q = pz + 7)) : Met l yX9_tellSet (.code yX9_tellSet cX9_tellSet 5 (some .boolean) :: tb) (rmk 3 0 0) (sPc G 294 S [.ref (G.2.2.1 + 11)]) (sQi G 294 (fun r u => cX G u 0 0 0 ∧ Fr S u pT ∧ (MOc S u G o q r (eDs v M pz)))) 0 0 (sF G) := by
  refine sEnter (by decide) (Nat.le_of_ble_eq_true rfl) ?_
  intro p e s m args below meth c Cx hr hlk hnm hW ls hl
  have Cx : sC G p m c cX9_tellSet 5 s args RX9 := Cx
  obtain ⟨hx, hb, hml, hown, hts⟩ := id Cx.1
  have hL : sL G [] := sL_nil
  have hl : lv_has ls 5 [(0, .ref (G.2.2.1 + 11))] := hl
  have hW0 := hW
  obtain ⟨hN, hK, d0, d1, d2, d3, d4, ds, hbs, hrf⟩ := id hM
  have hkn : 0 ≤ S.1 11 9 ∧ S.1 11 9 ≤ 128 := hI.fi 11 9 9 (by decide) rfl
  have hTb : 0 ≤ S.1 12 3 ∧ S.1 12 3 ≤ 2001 := hI.fi 12 3 8 (by decide) rfl
  have hTe := hkv.2.2
  have hN1 := hN.1
  have hgq := hg.2.2; have v3 := hTV _ hg.1; have v5 := hTV _ hg.2.1
  refine lv_aload_n hx hb dX9_tellSet_0 rfl (lv_at hl 0 rfl) ?_
  have q_1 : (-2147483648) ≤ S.1 11 13 ∧ S.1 11 13 ≤ 2147483647 := hI.fi 11 13 9 (by decide) rfl
  refine g_X9_89 Cx hW (k := 11) (by decide) rfl (v := S.1 11 13) rfl dX9_tellSet_1 ?_
  refine lv_iconst (v := iv 1) hx hb dX9_tellSet_4 (by decide) ?_
  refine r_iadd hx hb dX9_tellSet_5 ?_
  refine lv_istore_n (lv' := [(1, .int (iv ((S.1 11 13) + 1))), (0, .ref (G.2.2.1 + 11))]) hx hb dX9_tellSet_6 rfl hl (by decide) rfl (fun ls hl => ?_)
  refine lv_aload_n hx hb dX9_tellSet_7 rfl (lv_at hl 1 rfl) ?_
  refine lv_iload_n hx hb dX9_tellSet_8 rfl (lv_at hl 0 rfl) ?_
  refine lv_bipush (v := iv 6) hx hb dX9_tellSet_9 (by decide) ?_
  have q_2 : 0 ≤ S.1 11 10 ∧ S.1 11 10 ≤ 8 := hI.fi 11 10 9 (by decide) rfl
  have q_3 : 0 ≤ S.1 11 11 ∧ S.1 11 11 ≤ 12 := hI.fi 11 11 9 (by decide) rfl
  have q_4 : (-2147483648) ≤ S.1 11 12 ∧ S.1 11 12 ≤ 2147483647 := hI.fi 11 12 9 (by decide) rfl
  have q_5 : 0 ≤ S.1 11 9 ∧ S.1 11 9 ≤ 128 := hI.fi 11 9 9 (by decide) rfl
  have q_6 : 0 ≤ S.1 11 14 ∧ S.1 11 14 ≤ 7 := hI.fi 11 14 9 (by decide) rfl
  refine sBi (sV (As := [.int (iv ((S.1 11 13) + 1)), .int (iv 6)]) (rest := []) (k := 11) Cx (e_X9_learn l G S (tk := (S.1 11 13) + 1) (so := 6) hI (by omega) (by omega)) (c_X9_140 Cx rfl rfl (rmk_ok (by omega) (by decide))) hW (by decide) rfl rfl rfl hl.1 rfl (Nat.le_of_ble_eq_true rfl) dX9_tellSet_11 ⟨Nat.le_of_ble_eq_true rfl, Nat.le_of_ble_eq_true rfl⟩) hL (fun r_9 u_7 H locs k_8 hW hL => ?_)
  obtain ⟨iu_7, fu_7, xu_7⟩ := k_8
  have F_10 := (Fr.rf : Fr S S pT).trans fu_7
  have zt : vd S (S.1 11 13 + 1) = v (pz + 1) := (by rw [hkv.2.1, hat])
  refine lv_istore_n (lv' := [(2, .int (iv r_9)), (1, .int (iv ((S.1 11 13) + 1))), (0, .ref (G.2.2.1 + 11))]) hx hb dX9_tellSet_14 rfl hl (by decide) rfl (fun ls hl => ?_)
  refine lv_iload_n hx hb dX9_tellSet_15 rfl (lv_at hl 0 rfl) ?_
  refine r_if_ge (tgt := 21) hx hb ⟨(by omega), (by omega)⟩ dX9_tellSet_16 (by decide) (fun c_11 => ?_) (fun c_11 => ?_)
  · obtain ⟨hr0, h14, hne, hle⟩ := xu_7.2.1 (by omega)
    rw [zt] at hne hle
    have hfn : eFind M.1 (v (pz + 1)) = -1 := (by rw [hN.find]; exact hne)
    have hq0 : LQ S u_7 M.1.1 (v (pz + 1)) 6 (-1) (-1) := hle.lq (by omega)
    have hk9 := hq0.1
    refine lv_aload_n hx hb dX9_tellSet_21 rfl (lv_at hl 2 rfl) ?_
    refine lv_aload_n hx hb dX9_tellSet_22 rfl (lv_at hl 2 rfl) ?_
    have q_12 : (-2147483648) ≤ u_7.1 11 13 ∧ u_7.1 11 13 ≤ 2147483647 := iu_7.fi 11 13 9 (by decide) rfl
    refine g_X9_89 Cx hW (k := 11) (by decide) rfl (v := u_7.1 11 13) rfl dX9_tellSet_23 ?_
    refine lv_iconst (v := iv 3) hx hb dX9_tellSet_26 (by decide) ?_
    refine r_iadd hx hb dX9_tellSet_27 ?_
    have kv_13 : KV u_7 k v T := hkv.fr F_10 rfl rfl rfl
    refine sBi (sV (As := [.int (iv ((u_7.1 11 13) + 3))]) (rest := []) (k := 11) Cx (e_X9_number l G u_7 (tk := (u_7.1 11 13) + 3) iu_7 (by omega) (by rw [kv_13.2.1, show (u_7.1 11 13) + 3 = pz + 3 by omega]; exact hTV _ hg.1)) (c_X9_143 Cx rfl rfl (rmk_ok (by omega) (by decide))) hW (by decide) rfl rfl rfl hl.1 rfl (Nat.le_of_ble_eq_true rfl) dX9_tellSet_28 ⟨Nat.le_of_ble_eq_true rfl, Nat.le_of_ble_eq_true rfl⟩) hL (fun r_16 u_14 H locs k_15 hW hL => ?_)
    obtain ⟨eu_14, xu_14⟩ := k_15
    rw [eu_14] at hW
    have lo1 : r_16 = v (pz + 3) := (by rw [← kv_13.2.1]; exact xu_14.trans (congrArg (vd _) (by omega)))
    refine lv_istore_n (lv' := [(3, .int (iv r_16)), (2, .int (iv r_9)), (1, .int (iv ((S.1 11 13) + 1))), (0, .ref (G.2.2.1 + 11))]) hx hb dX9_tellSet_31 rfl hl (by decide) rfl (fun ls hl => ?_)
    refine lv_aload_n hx hb dX9_tellSet_32 rfl (lv_at hl 3 rfl) ?_
    refine lv_aload_n hx hb dX9_tellSet_33 rfl (lv_at hl 3 rfl) ?_
    refine g_X9_89 Cx hW (k := 11) (by decide) rfl (v := u_7.1 11 13) rfl dX9_tellSet_34 ?_
    refine lv_iconst (v := iv 5) hx hb dX9_tellSet_37 (by decide) ?_
    refine r_iadd hx hb dX9_tellSet_38 ?_
    refine sBi (sV (As := [.int (iv ((u_7.1 11 13) + 5))]) (rest := []) (k := 11) Cx (e_X9_number l G u_7 (tk := (u_7.1 11 13) + 5) iu_7 (by omega) (by rw [kv_13.2.1, show (u_7.1 11 13) + 5 = pz + 5 by omega]; exact hTV _ hg.2.1)) (c_X9_143 Cx rfl rfl (rmk_ok (by omega) (by decide))) hW (by decide) rfl rfl rfl hl.1 rfl (Nat.le_of_ble_eq_true rfl) dX9_tellSet_39 ⟨Nat.le_of_ble_eq_true rfl, Nat.le_of_ble_eq_true rfl⟩) hL (fun r_19 u_17 H locs k_18 hW hL => ?_)
    obtain ⟨eu_17, xu_17⟩ := k_18
    rw [eu_17] at hW
    have hi1 : r_19 = v (pz + 5) := (by rw [← kv_13.2.1]; exact xu_17.trans (congrArg (vd _) (by omega)))
    refine lv_istore (lv' := [(4, .int (iv r_19)), (3, .int (iv r_16)), (2, .int (iv r_9)), (1, .int (iv ((S.1 11 13) + 1))), (0, .ref (G.2.2.1 + 11))]) hx hb dX9_tellSet_42 hl (by decide) rfl (fun ls hl => ?_)
    refine lv_iload_n hx hb dX9_tellSet_44 rfl (lv_at hl 1 rfl) ?_
    refine lv_iload hx hb dX9_tellSet_45 (lv_at hl 0 rfl) ?_
    refine r_icmp_gt (tgt := 59) hx hb ⟨(by omega), (by omega)⟩ ⟨(by omega), (by omega)⟩ dX9_tellSet_47 (by decide) (fun c_20 => ?_) (fun c_20 => ?_)
    · refine lv_aload_n hx hb dX9_tellSet_59 rfl (lv_at hl 4 rfl) ?_
      refine lv_iconst (v := iv 3) hx hb dX9_tellSet_60 (by decide) ?_
      refine lv_iload_n hx hb dX9_tellSet_61 rfl (lv_at hl 3 rfl) ?_
      have q_21 : 0 ≤ u_7.1 11 9 ∧ u_7.1 11 9 ≤ 128 := iu_7.fi 11 9 9 (by decide) rfl
      have q_22 : 0 ≤ u_7.1 11 10 ∧ u_7.1 11 10 ≤ 8 := iu_7.fi 11 10 9 (by decide) rfl
      have q_23 : 0 ≤ u_7.1 11 11 ∧ u_7.1 11 11 ≤ 12 := iu_7.fi 11 11 9 (by decide) rfl
      have q_24 : (-2147483648) ≤ u_7.1 11 12 ∧ u_7.1 11 12 ≤ 2147483647 := iu_7.fi 11 12 9 (by decide) rfl
      refine sBi (sV (As := [.int (iv 3), .int (iv ((S.1 11 13) + 1))]) (rest := []) (k := 11) Cx (e_X9_fail l G u_7 (k := 3) (tk := (S.1 11 13) + 1) iu_7 (by omega) (by omega)) (c_X9_132 Cx rfl rfl (rmk_ok (by omega) (by decide))) hW (by decide) rfl rfl rfl hl.1 rfl (Nat.le_of_ble_eq_true rfl) dX9_tellSet_62 ⟨Nat.le_of_ble_eq_true rfl, Nat.le_of_ble_eq_true rfl⟩) hL (fun r_27 u_25 H locs k_26 hW hL => ?_)
      obtain ⟨iu_25, fu_25, xu_25⟩ := k_26
      have F_28 := F_10.trans (fu_25.to p11_T)
      have F_29 := (Fr.rf : Fr u_7 u_7 pR3).trans (fu_25.to (p1_sub rfl))
      have q_30 : 0 ≤ u_25.1 11 9 ∧ u_25.1 11 9 ≤ 128 := iu_25.fi 11 9 9 (by decide) rfl
      have q_31 : 0 ≤ u_25.1 11 10 ∧ u_25.1 11 10 ≤ 8 := iu_25.fi 11 10 9 (by decide) rfl
      have q_32 : 0 ≤ u_25.1 11 11 ∧ u_25.1 11 11 ≤ 12 := iu_25.fi 11 11 9 (by decide) rfl
      have q_33 : (-2147483648) ≤ u_25.1 11 12 ∧ u_25.1 11 12 ≤ 2147483647 := iu_25.fi 11 12 9 (by decide) rfl
      have q_34 : (-2147483648) ≤ u_25.1 11 13 ∧ u_25.1 11 13 ≤ 2147483647 := iu_25.fi 11 13 9 (by decide) rfl
      have q_35 : 0 ≤ u_25.1 11 14 ∧ u_25.1 11 14 ≤ 7 := iu_25.fi 11 14 9 (by decide) rfl
      have q_36 : 0 ≤ S.1 o 2 ∧ S.1 o 2 ≤ 12 := hI.fi o 2 3 (mdl_k hm) hm.1
      have lk_37 : u_25.1 o 2 = S.1 o 2 := ((fu_25 o (p1_no (tau_ne hm.1 (rfl : tau 11 = .inl 9) (fun h => by cases h)))).1 2).trans ((fu_7 o (mdl_out hm).1).1 2)
      have q_38 : 0 ≤ S.1 o 3 ∧ S.1 o 3 ≤ 16 := hI.fi o 3 3 (mdl_k hm) hm.1
      have lk_39 : u_25.1 o 3 = S.1 o 3 := ((fu_25 o (p1_no (tau_ne hm.1 (rfl : tau 11 = .inl 9) (fun h => by cases h)))).1 3).trans ((fu_7 o (mdl_out hm).1).1 3)
      exact sZret Cx hr hlk hW hL (by omega) ⟨iu_25, F_28, ⟨⟨⟨(fun i => ((xu_25.2.2.2.2.2.2.2 i).trans (xu_7.1.1.1 i))), (fun _ => by first | omega | exact xu_25.1.1.2 (by omega))⟩, by omega, by omega⟩, (fun h => absurd h (by omega)), (fun _ => (eDs_n (.inr (by first | (exact .inl (by omega)) | (exact .inr (.inl (by omega)))))))⟩⟩ dX9_tellSet_65
    · refine lv_iload hx hb dX9_tellSet_50 (lv_at hl 0 rfl) ?_
      refine lv_iload_n hx hb dX9_tellSet_52 rfl (lv_at hl 1 rfl) ?_
      refine r_isub hx hb dX9_tellSet_53 ?_
      refine lv_bipush (v := iv 12) hx hb dX9_tellSet_54 (by decide) ?_
      refine r_icmp_lt (tgt := 66) hx hb ⟨(by omega), (by omega)⟩ ⟨(by omega), (by omega)⟩ dX9_tellSet_56 (by decide) (fun c_40 => ?_) (fun c_40 => ?_)
      · refine lv_aload_n hx hb dX9_tellSet_66 rfl (lv_at hl 4 rfl) ?_
        have q_41 : 0 ≤ u_7.1 11 10 ∧ u_7.1 11 10 ≤ 8 := iu_7.fi 11 10 9 (by decide) rfl
        refine g_X9_80 Cx hW (k := 11) (by decide) rfl (v := u_7.1 11 10) rfl dX9_tellSet_67 ?_
        refine lv_bipush (v := iv 8) hx hb dX9_tellSet_70 (by decide) ?_
        refine r_icmp_lt (tgt := 83) hx hb ⟨(by omega), (by omega)⟩ ⟨(by omega), (by omega)⟩ dX9_tellSet_72 (by decide) (fun c_42 => ?_) (fun c_42 => ?_)
        · refine lv_aload_n hx hb dX9_tellSet_83 rfl (lv_at hl 4 rfl) ?_
          refine lv_dup hx hb dX9_tellSet_84 rfl ?_
          refine g_X9_80 Cx hW (k := 11) (by decide) rfl (v := u_7.1 11 10) rfl dX9_tellSet_85 ?_
          refine lv_iconst (v := iv 1) hx hb dX9_tellSet_88 (by decide) ?_
          refine r_iadd hx hb dX9_tellSet_89 ?_
          refine p_X9_80 Cx hW hL (k := 11) (by decide) rfl dX9_tellSet_90 (fun H locs hW hL => ?_)
          have F_43 : Fr S (uF u_7 11 10 ((u_7.1 11 10) + 1)) pT := F_10.F rfl
          have F_44 : Fr u_7 (uF u_7 11 10 ((u_7.1 11 10) + 1)) pR3 := (Fr.rf : Fr u_7 u_7 pR3).F rfl
          have i_45 : cX G (uF u_7 11 10 ((u_7.1 11 10) + 1)) 0 0 0 := iu_7.F rfl rfl (show 0 ≤ (u_7.1 11 10) + 1 ∧ (u_7.1 11 10) + 1 ≤ 8 from ⟨by omega, by omega⟩)
          refine lv_aload_n hx hb dX9_tellSet_93 rfl (lv_at hl 4 rfl) ?_
          refine lv_iload_n hx hb dX9_tellSet_94 rfl (lv_at hl 2 rfl) ?_
          refine lv_iconst (v := iv 1) hx hb dX9_tellSet_95 (by decide) ?_
          refine lv_iload_n hx hb dX9_tellSet_96 rfl (lv_at hl 1 rfl) ?_
          have q_47 : 0 ≤ u_7.1 11 9 ∧ u_7.1 11 9 ≤ 128 := iu_7.fi 11 9 9 (by decide) rfl
          have lk_48 : (uF u_7 11 10 ((u_7.1 11 10) + 1)).1 11 9 = u_7.1 11 9 := uF_ne (fun h => absurd h.2 (by decide))
          have lq_46 := LQ.of (w := (uF u_7 11 10 ((u_7.1 11 10) + 1))) hq0 (uF_ne (fun h => absurd h.2 (by decide))) (fun j => (F_44 16 rfl).2.2.1 j) (fun j => (F_44 17 rfl).2.1 j)
          refine sBv (sV (As := [.int (iv r_9), .int (iv 1), .int (iv r_16)]) (rest := []) (k := 11) Cx (s_X9_setFact l G (uF u_7 11 10 ((u_7.1 11 10) + 1)) (s0 := r_9) (q := 1) (v := r_16) i_45 (by omega) (by omega) (by unfold fr8; omega) (by omega)) (c_X9_136 Cx rfl rfl (rmk_ok (by omega) (by decide))) hW (by decide) rfl rfl rfl hl.1 rfl (Nat.le_of_ble_eq_true rfl) dX9_tellSet_97 ⟨Nat.le_of_ble_eq_true rfl, Nat.le_of_ble_eq_true rfl⟩) hL (fun u_49 H locs k_50 hW hL => ?_)
          obtain ⟨iu_49, fu_49, xu_49⟩ := k_50
          have F_51 := F_43.trans (fu_49.to p17_T)
          have sq1 := LQ.setq lq_46 (by omega) (by omega) xu_49
          refine lv_aload_n hx hb dX9_tellSet_100 rfl (lv_at hl 4 rfl) ?_
          refine lv_iload_n hx hb dX9_tellSet_101 rfl (lv_at hl 2 rfl) ?_
          refine lv_iconst (v := iv 2) hx hb dX9_tellSet_102 (by decide) ?_
          refine lv_iload hx hb dX9_tellSet_103 (lv_at hl 0 rfl) ?_
          refine sBv (sV (As := [.int (iv r_9), .int (iv 2), .int (iv r_19)]) (rest := []) (k := 11) Cx (s_X9_setFact l G u_49 (s0 := r_9) (q := 2) (v := r_19) iu_49 (by omega) (by omega) (by unfold fr8; omega) (by omega)) (c_X9_136 Cx rfl rfl (rmk_ok (by omega) (by decide))) hW (by decide) rfl rfl rfl hl.1 rfl (Nat.le_of_ble_eq_true rfl) dX9_tellSet_105 ⟨Nat.le_of_ble_eq_true rfl, Nat.le_of_ble_eq_true rfl⟩) hL (fun u_52 H locs k_53 hW hL => ?_)
          obtain ⟨iu_52, fu_52, xu_52⟩ := k_53
          have F_54 := F_51.trans (fu_52.to p17_T)
          have sq2 := LQ.setq sq1.1 (by omega) (by omega) xu_52
          refine lv_aload_n hx hb dX9_tellSet_108 rfl (lv_at hl 4 rfl) ?_
          refine lv_dup hx hb dX9_tellSet_109 rfl ?_
          refine g_X9_89 Cx hW (k := 11) (by decide) rfl (v := u_7.1 11 13) (((fu_52 11 rfl).1 13).trans (((fu_49 11 rfl).1 13).trans (uF_ne (fun h => absurd h.2 (by decide))))) dX9_tellSet_110 ?_
          refine lv_bipush (v := iv 7) hx hb dX9_tellSet_113 (by decide) ?_
          refine r_iadd hx hb dX9_tellSet_115 ?_
          refine p_X9_89 Cx hW hL (k := 11) (by decide) rfl dX9_tellSet_116 (fun H locs hW hL => ?_)
          have F_55 : Fr S (uF u_52 11 13 ((u_7.1 11 13) + 7)) pT := F_54.F rfl
          have F_56 : Fr u_52 (uF u_52 11 13 ((u_7.1 11 13) + 7)) pR3 := (Fr.rf : Fr u_52 u_52 pR3).F rfl
          have i_57 : cX G (uF u_52 11 13 ((u_7.1 11 13) + 7)) 0 0 0 := iu_52.F rfl rfl (show (-2147483648) ≤ (u_7.1 11 13) + 7 ∧ (u_7.1 11 13) + 7 ≤ 2147483647 from ⟨by omega, by omega⟩)
          refine lv_iconst (v := iv 1) hx hb dX9_tellSet_119 (by decide) ?_
          have lk_58 : (uF u_52 11 13 ((u_7.1 11 13) + 7)).1 11 9 = u_7.1 11 9 := (uF_ne (fun h => absurd h.2 (by decide))).trans (((fu_52 11 rfl).1 9).trans (((fu_49 11 rfl).1 9).trans (uF_ne (fun h => absurd h.2 (by decide)))))
          have lk_59 : (uF u_52 11 13 ((u_7.1 11 13) + 7)).1 11 10 = (u_7.1 11 10) + 1 := (uF_ne (fun h => absurd h.2 (by decide))).trans (((fu_52 11 rfl).1 10).trans (((fu_49 11 rfl).1 10).trans (uF_on)))
          have q_60 : 0 ≤ u_7.1 11 11 ∧ u_7.1 11 11 ≤ 12 := iu_7.fi 11 11 9 (by decide) rfl
          have lk_61 : (uF u_52 11 13 ((u_7.1 11 13) + 7)).1 11 11 = u_7.1 11 11 := (uF_ne (fun h => absurd h.2 (by decide))).trans (((fu_52 11 rfl).1 11).trans (((fu_49 11 rfl).1 11).trans (uF_ne (fun h => absurd h.2 (by decide)))))
          have q_62 : (-2147483648) ≤ u_7.1 11 12 ∧ u_7.1 11 12 ≤ 2147483647 := iu_7.fi 11 12 9 (by decide) rfl
          have lk_63 : (uF u_52 11 13 ((u_7.1 11 13) + 7)).1 11 12 = u_7.1 11 12 := (uF_ne (fun h => absurd h.2 (by decide))).trans (((fu_52 11 rfl).1 12).trans (((fu_49 11 rfl).1 12).trans (uF_ne (fun h => absurd h.2 (by decide)))))
          have lk_64 : (uF u_52 11 13 ((u_7.1 11 13) + 7)).1 11 13 = (u_7.1 11 13) + 7 := uF_on
          have q_65 : 0 ≤ u_7.1 11 14 ∧ u_7.1 11 14 ≤ 7 := iu_7.fi 11 14 9 (by decide) rfl
          have lk_66 : (uF u_52 11 13 ((u_7.1 11 13) + 7)).1 11 14 = u_7.1 11 14 := (uF_ne (fun h => absurd h.2 (by decide))).trans (((fu_52 11 rfl).1 14).trans (((fu_49 11 rfl).1 14).trans (uF_ne (fun h => absurd h.2 (by decide)))))
          have q_67 : 0 ≤ S.1 o 2 ∧ S.1 o 2 ≤ 12 := hI.fi o 2 3 (mdl_k hm) hm.1
          have lk_68 : (uF u_52 11 13 ((u_7.1 11 13) + 7)).1 o 2 = S.1 o 2 := (uF_ne (fun h => absurd h.2 (by decide))).trans (((fu_52 o (p1_no (tau_ne hm.1 (rfl : tau 17 = .inr (.int, 768)) (fun h => by cases h)))).1 2).trans (((fu_49 o (p1_no (tau_ne hm.1 (rfl : tau 17 = .inr (.int, 768)) (fun h => by cases h)))).1 2).trans ((uF_ne (fun h => absurd h.2 (by decide))).trans ((fu_7 o (mdl_out hm).1).1 2))))
          have q_69 : 0 ≤ S.1 o 3 ∧ S.1 o 3 ≤ 16 := hI.fi o 3 3 (mdl_k hm) hm.1
          have lk_70 : (uF u_52 11 13 ((u_7.1 11 13) + 7)).1 o 3 = S.1 o 3 := (uF_ne (fun h => absurd h.2 (by decide))).trans (((fu_52 o (p1_no (tau_ne hm.1 (rfl : tau 17 = .inr (.int, 768)) (fun h => by cases h)))).1 3).trans (((fu_49 o (p1_no (tau_ne hm.1 (rfl : tau 17 = .inr (.int, 768)) (fun h => by cases h)))).1 3).trans ((uF_ne (fun h => absurd h.2 (by decide))).trans ((fu_7 o (mdl_out hm).1).1 3))))
          have lq_71 := LQ.of (w := (uF u_52 11 13 ((u_7.1 11 13) + 7))) sq2.1 (uF_ne (fun h => absurd h.2 (by decide))) (fun j => (F_56 16 rfl).2.2.1 j) (fun j => (F_56 17 rfl).2.1 j)
          exact sZret Cx hr hlk hW hL (by omega) ⟨i_57, F_55, ⟨⟨⟨(fun i => (((fu_52 11 rfl).2.2.2 i).trans (((fu_49 11 rfl).2.2.2 i).trans (xu_7.1.1.1 i)))), (fun h => absurd h (by decide))⟩, by omega, by omega⟩, (fun _ => ⟨_, (by rw [eDs_y hfn (by omega) (by omega) (by omega), hg.2.2]), hM.added (f := fct 6 (v (pz + 3)) (v (pz + 5)) (-1) (-1) 0) lq_71 (NF_6 (by omega)) hfn (fun j _ => (F_55 18 rfl).2.1 j) (fun _ => ⟨(lo1.symm.trans ((sq2.2.2 1 (by decide) (by decide) (by decide)).trans sq1.2.1).symm), (hi1.symm.trans sq2.2.1.symm)⟩) (fun z => absurd (fct0.symm.trans z) (by decide)) (fun z => by rcases z with z | z <;> exact absurd (fct0.symm.trans z) (by decide)) (fun z => absurd (fct0.symm.trans z) (by decide)) (by omega) (by omega) (by omega) (by omega) (by omega) (by omega) ((fun i => (((fu_52 11 rfl).2.2.2 i).trans (((fu_49 11 rfl).2.2.2 i).trans (xu_7.1.1.1 i)))) 8), (by omega), (by omega)⟩), (fun h => absurd h (by decide))⟩⟩ dX9_tellSet_120
        · refine lv_aload_n hx hb dX9_tellSet_75 rfl (lv_at hl 4 rfl) ?_
          refine lv_bipush (v := iv 7) hx hb dX9_tellSet_76 (by decide) ?_
          refine lv_iload_n hx hb dX9_tellSet_78 rfl (lv_at hl 3 rfl) ?_
          have q_72 : 0 ≤ u_7.1 11 9 ∧ u_7.1 11 9 ≤ 128 := iu_7.fi 11 9 9 (by decide) rfl
          have q_73 : 0 ≤ u_7.1 11 11 ∧ u_7.1 11 11 ≤ 12 := iu_7.fi 11 11 9 (by decide) rfl
          have q_74 : (-2147483648) ≤ u_7.1 11 12 ∧ u_7.1 11 12 ≤ 2147483647 := iu_7.fi 11 12 9 (by decide) rfl
          refine sBi (sV (As := [.int (iv 7), .int (iv ((S.1 11 13) + 1))]) (rest := []) (k := 11) Cx (e_X9_fail l G u_7 (k := 7) (tk := (S.1 11 13) + 1) iu_7 (by omega) (by omega)) (c_X9_132 Cx rfl rfl (rmk_ok (by omega) (by decide))) hW (by decide) rfl rfl rfl hl.1 rfl (Nat.le_of_ble_eq_true rfl) dX9_tellSet_79 ⟨Nat.le_of_ble_eq_true rfl, Nat.le_of_ble_eq_true rfl⟩) hL (fun r_77 u_75 H locs k_76 hW hL => ?_)
          obtain ⟨iu_75, fu_75, xu_75⟩ := k_76
          have F_78 := F_10.trans (fu_75.to p11_T)
          have F_79 := (Fr.rf : Fr u_7 u_7 pR3).trans (fu_75.to (p1_sub rfl))
          have q_80 : 0 ≤ u_75.1 11 9 ∧ u_75.1 11 9 ≤ 128 := iu_75.fi 11 9 9 (by decide) rfl
          have q_81 : 0 ≤ u_75.1 11 10 ∧ u_75.1 11 10 ≤ 8 := iu_75.fi 11 10 9 (by decide) rfl
          have q_82 : 0 ≤ u_75.1 11 11 ∧ u_75.1 11 11 ≤ 12 := iu_75.fi 11 11 9 (by decide) rfl
          have q_83 : (-2147483648) ≤ u_75.1 11 12 ∧ u_75.1 11 12 ≤ 2147483647 := iu_75.fi 11 12 9 (by decide) rfl
          have q_84 : (-2147483648) ≤ u_75.1 11 13 ∧ u_75.1 11 13 ≤ 2147483647 := iu_75.fi 11 13 9 (by decide) rfl
          have q_85 : 0 ≤ u_75.1 11 14 ∧ u_75.1 11 14 ≤ 7 := iu_75.fi 11 14 9 (by decide) rfl
          have q_86 : 0 ≤ S.1 o 2 ∧ S.1 o 2 ≤ 12 := hI.fi o 2 3 (mdl_k hm) hm.1
          have lk_87 : u_75.1 o 2 = S.1 o 2 := ((fu_75 o (p1_no (tau_ne hm.1 (rfl : tau 11 = .inl 9) (fun h => by cases h)))).1 2).trans ((fu_7 o (mdl_out hm).1).1 2)
          have q_88 : 0 ≤ S.1 o 3 ∧ S.1 o 3 ≤ 16 := hI.fi o 3 3 (mdl_k hm) hm.1
          have lk_89 : u_75.1 o 3 = S.1 o 3 := ((fu_75 o (p1_no (tau_ne hm.1 (rfl : tau 11 = .inl 9) (fun h => by cases h)))).1 3).trans ((fu_7 o (mdl_out hm).1).1 3)
          exact sZret Cx hr hlk hW hL (by omega) ⟨iu_75, F_78, ⟨⟨⟨(fun i => ((xu_75.2.2.2.2.2.2.2 i).trans (xu_7.1.1.1 i))), (fun _ => by first | omega | exact xu_75.1.1.2 (by omega))⟩, by omega, by omega⟩, (fun h => absurd h (by omega)), (fun _ => (eDs_n (.inr (.inr (.inr (by omega))))))⟩⟩ dX9_tellSet_82
      · refine lv_aload_n hx hb dX9_tellSet_59 rfl (lv_at hl 4 rfl) ?_
        refine lv_iconst (v := iv 3) hx hb dX9_tellSet_60 (by decide) ?_
        refine lv_iload_n hx hb dX9_tellSet_61 rfl (lv_at hl 3 rfl) ?_
        have q_90 : 0 ≤ u_7.1 11 9 ∧ u_7.1 11 9 ≤ 128 := iu_7.fi 11 9 9 (by decide) rfl
        have q_91 : 0 ≤ u_7.1 11 10 ∧ u_7.1 11 10 ≤ 8 := iu_7.fi 11 10 9 (by decide) rfl
        have q_92 : 0 ≤ u_7.1 11 11 ∧ u_7.1 11 11 ≤ 12 := iu_7.fi 11 11 9 (by decide) rfl
        have q_93 : (-2147483648) ≤ u_7.1 11 12 ∧ u_7.1 11 12 ≤ 2147483647 := iu_7.fi 11 12 9 (by decide) rfl
        refine sBi (sV (As := [.int (iv 3), .int (iv ((S.1 11 13) + 1))]) (rest := []) (k := 11) Cx (e_X9_fail l G u_7 (k := 3) (tk := (S.1 11 13) + 1) iu_7 (by omega) (by omega)) (c_X9_132 Cx rfl rfl (rmk_ok (by omega) (by decide))) hW (by decide) rfl rfl rfl hl.1 rfl (Nat.le_of_ble_eq_true rfl) dX9_tellSet_62 ⟨Nat.le_of_ble_eq_true rfl, Nat.le_of_ble_eq_true rfl⟩) hL (fun r_96 u_94 H locs k_95 hW hL => ?_)
        obtain ⟨iu_94, fu_94, xu_94⟩ := k_95
        have F_97 := F_10.trans (fu_94.to p11_T)
        have F_98 := (Fr.rf : Fr u_7 u_7 pR3).trans (fu_94.to (p1_sub rfl))
        have q_99 : 0 ≤ u_94.1 11 9 ∧ u_94.1 11 9 ≤ 128 := iu_94.fi 11 9 9 (by decide) rfl
        have q_100 : 0 ≤ u_94.1 11 10 ∧ u_94.1 11 10 ≤ 8 := iu_94.fi 11 10 9 (by decide) rfl
        have q_101 : 0 ≤ u_94.1 11 11 ∧ u_94.1 11 11 ≤ 12 := iu_94.fi 11 11 9 (by decide) rfl
        have q_102 : (-2147483648) ≤ u_94.1 11 12 ∧ u_94.1 11 12 ≤ 2147483647 := iu_94.fi 11 12 9 (by decide) rfl
        have q_103 : (-2147483648) ≤ u_94.1 11 13 ∧ u_94.1 11 13 ≤ 2147483647 := iu_94.fi 11 13 9 (by decide) rfl
        have q_104 : 0 ≤ u_94.1 11 14 ∧ u_94.1 11 14 ≤ 7 := iu_94.fi 11 14 9 (by decide) rfl
        have q_105 : 0 ≤ S.1 o 2 ∧ S.1 o 2 ≤ 12 := hI.fi o 2 3 (mdl_k hm) hm.1
        have lk_106 : u_94.1 o 2 = S.1 o 2 := ((fu_94 o (p1_no (tau_ne hm.1 (rfl : tau 11 = .inl 9) (fun h => by cases h)))).1 2).trans ((fu_7 o (mdl_out hm).1).1 2)
        have q_107 : 0 ≤ S.1 o 3 ∧ S.1 o 3 ≤ 16 := hI.fi o 3 3 (mdl_k hm) hm.1
        have lk_108 : u_94.1 o 3 = S.1 o 3 := ((fu_94 o (p1_no (tau_ne hm.1 (rfl : tau 11 = .inl 9) (fun h => by cases h)))).1 3).trans ((fu_7 o (mdl_out hm).1).1 3)
        exact sZret Cx hr hlk hW hL (by omega) ⟨iu_94, F_97, ⟨⟨⟨(fun i => ((xu_94.2.2.2.2.2.2.2 i).trans (xu_7.1.1.1 i))), (fun _ => by first | omega | exact xu_94.1.1.2 (by omega))⟩, by omega, by omega⟩, (fun h => absurd h (by omega)), (fun _ => (eDs_n (.inr (by first | (exact .inl (by omega)) | (exact .inr (.inl (by omega)))))))⟩⟩ dX9_tellSet_65
  · refine lv_iconst (v := iv 0) hx hb dX9_tellSet_19 (by decide) ?_
    have q_109 : 0 ≤ u_7.1 11 9 ∧ u_7.1 11 9 ≤ 128 := iu_7.fi 11 9 9 (by decide) rfl
    have q_110 : 0 ≤ u_7.1 11 10 ∧ u_7.1 11 10 ≤ 8 := iu_7.fi 11 10 9 (by decide) rfl
    have q_111 : 0 ≤ u_7.1 11 11 ∧ u_7.1 11 11 ≤ 12 := iu_7.fi 11 11 9 (by decide) rfl
    have q_112 : (-2147483648) ≤ u_7.1 11 12 ∧ u_7.1 11 12 ≤ 2147483647 := iu_7.fi 11 12 9 (by decide) rfl
    have q_113 : (-2147483648) ≤ u_7.1 11 13 ∧ u_7.1 11 13 ≤ 2147483647 := iu_7.fi 11 13 9 (by decide) rfl
    have q_114 : 0 ≤ u_7.1 11 14 ∧ u_7.1 11 14 ≤ 7 := iu_7.fi 11 14 9 (by decide) rfl
    have q_115 : 0 ≤ S.1 o 2 ∧ S.1 o 2 ≤ 12 := hI.fi o 2 3 (mdl_k hm) hm.1
    have lk_116 : u_7.1 o 2 = S.1 o 2 := (fu_7 o (mdl_out hm).1).1 2
    have q_117 : 0 ≤ S.1 o 3 ∧ S.1 o 3 ≤ 16 := hI.fi o 3 3 (mdl_k hm) hm.1
    have lk_118 : u_7.1 o 3 = S.1 o 3 := (fu_7 o (mdl_out hm).1).1 3
    exact sZret Cx hr hlk hW hL (by omega) ⟨iu_7, F_10, ⟨⟨⟨(fun i => (xu_7.1.1.1 i)), (fun _ => by first | omega | exact xu_7.1.1.2 (by omega))⟩, by omega, by omega⟩, (fun h => absurd h (by omega)), (fun _ => (by have q0 : 0 ≤ eFind M.1 (v (pz + 1)) := (by rw [hN.find]; rcases xu_7.2.2 (by omega) with z | z; (rw [zt] at z; exact z); (exfalso; omega)); exact eDs_n (.inl (by omega))))⟩⟩ dX9_tellSet_20
