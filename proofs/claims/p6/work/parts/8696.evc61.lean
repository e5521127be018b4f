/-! a name that is being told: what the table holds beside the names of N -/
def LQ (S u : sS) (K x so s3 s4 : Int) : Prop := u.1 11 9 = K + 1 ∧ (∀ j, u.2.2.1 16 j = if j = K then x else S.2.2.1 16 j) ∧ (∀ s q, s ≠ K → 0 ≤ q → q ≤ 5 → fc u s q = fc S s q) ∧ fc u K 0 = so ∧ fc u K 3 = s3 ∧ fc u K 4 = s4
theorem LE.lq {S u : sS} {x so K : Int} (h : LE S u x so) (hK : K = S.1 11 9) : LQ S u K x so (-1) (-1) := by
  refine ⟨by rw [hK]; exact h.1, fun j => by rw [hK]; exact h.2.1 j, fun s q c q0 q5 => ?_, ?_, ?_, ?_⟩
  · rw [h.2.2.2 s q q0 q5, if_neg (by omega)]
  · rw [h.2.2.2 K 0 (by decide) (by decide), if_pos ⟨hK, .inl rfl⟩, if_pos rfl]
  · rw [h.2.2.2 K 3 (by decide) (by decide), if_pos ⟨hK, .inr (.inl rfl)⟩, if_neg (by decide)]
  · rw [h.2.2.2 K 4 (by decide) (by decide), if_pos ⟨hK, .inr (.inr rfl)⟩, if_neg (by decide)]
theorem LQ.of {S u w : sS} {K x so s3 s4 : Int} (h : LQ S u K x so s3 s4) (e9 : w.1 11 9 = u.1 11 9) (e16 : ∀ j, w.2.2.1 16 j = u.2.2.1 16 j) (e17 : ∀ j, w.2.1 17 j = u.2.1 17 j) : LQ S w K x so s3 s4 := by
  have ef : ∀ s q, fc w s q = fc u s q := fun s q => e17 _
  unfold LQ
  simp only [ef, e9, e16]
  exact h
theorem LQ.set3 {S u w : sS} {K x so s3 s4 v s0 : Int} (h : LQ S u K x so s3 s4) (hs : s0 = K) (e : w = uA u 17 (s0 * 6 + 3) v) : LQ S w K x so v s4 := by
  have ef : ∀ s q, 0 ≤ q → q ≤ 5 → fc w s q = if s = K ∧ q = 3 then v else fc u s q := fun s q a b => by rw [e, hs, fc_u (by omega) (by omega)]
  refine ⟨by rw [e]; exact h.1, fun j => by rw [e]; exact h.2.1 j, fun s q c q0 q5 => ?_, ?_, ?_, ?_⟩
  · rw [ef s q q0 q5, if_neg (by omega)]; exact h.2.2.1 s q c q0 q5
  · rw [ef K 0 (by decide) (by decide), if_neg (by omega)]; exact h.2.2.2.1
  · rw [ef K 3 (by decide) (by decide), if_pos ⟨rfl, rfl⟩]
  · rw [ef K 4 (by decide) (by decide), if_neg (by omega)]; exact h.2.2.2.2.2
theorem LQ.set4 {S u w : sS} {K x so s3 s4 v s0 : Int} (h : LQ S u K x so s3 s4) (hs : s0 = K) (e : w = uA u 17 (s0 * 6 + 4) v) : LQ S w K x so s3 v := by
  have ef : ∀ s q, 0 ≤ q → q ≤ 5 → fc w s q = if s = K ∧ q = 4 then v else fc u s q := fun s q a b => by rw [e, hs, fc_u (by omega) (by omega)]
  refine ⟨by rw [e]; exact h.1, fun j => by rw [e]; exact h.2.1 j, fun s q c q0 q5 => ?_, ?_, ?_, ?_⟩
  · rw [ef s q q0 q5, if_neg (by omega)]; exact h.2.2.1 s q c q0 q5
  · rw [ef K 0 (by decide) (by decide), if_neg (by omega)]; exact h.2.2.2.1
  · rw [ef K 3 (by decide) (by decide), if_neg (by omega)]; exact h.2.2.2.2.1
  · rw [ef K 4 (by decide) (by decide), if_pos ⟨rfl, rfl⟩]
theorem LQ.find {N : sN} {S u : sS} {x so s3 s4 y : Int} (hN : NRc N S) (h : LQ S u N.1 x so s3 s4) : efn (u.2.2.1 16) y (u.1 11 9).toNat = eFind (addN N x (fun _ => so) (fun _ => 0)) y := by
  rw [h.1]
  refine efn_cong _ (fun s a b => ?_)
  have h1 := hN.1
  rw [h.2.1 s]
  by_cases c : s = N.1
  · rw [if_pos c]; exact (if_pos c).symm
  · rw [if_neg c, ← hN.2.1 s a (by omega)]; exact (if_neg c).symm
theorem LQ.sort {N : sN} {S u : sS} {x so s3 s4 y s : Int} (hN : NRc N S) (h : LQ S u N.1 x so s3 s4) (hso : so ≠ 6) (e : s = eFind (addN N x (fun _ => so) (fun _ => 0)) y) : (0 ≤ s ∧ fc u s 0 = 6) ↔ isS N y := by
  have h1 := hN.1
  have l := eFind_lt (N := addN N x (fun _ => so) (fun _ => 0)) (x := y) (show 0 ≤ N.1 + 1 by omega)
  have l2 : eFind (addN N x (fun _ => so) (fun _ => 0)) y < N.1 + 1 := l.2
  have ef : 0 ≤ s → fc u s 0 = (addN N x (fun _ => so) (fun _ => 0)).2.2.1 s 0 := fun z => by
    by_cases c : s = N.1
    · rw [c, add_n]; exact h.2.2.2.1
    · rw [add_o c, h.2.2.1 s 0 c (by decide) (by decide)]; exact (hN.2.2 s z (by omega)).1.symm
  rw [← isS_add (x := x) (f := fun _ => so) (w := fun _ => 0) h1.2.1 hso]
  constructor
  · intro z; refine ⟨by rw [← e]; exact z.1, ?_⟩; rw [← e, ← ef z.1]; exact z.2
  · intro z
    have z0 : 0 ≤ s := by rw [e]; exact z.1
    refine ⟨z0, ?_⟩; rw [ef z0, e]; exact z.2
theorem LQ.siz {N : sN} {S u : sS} {x so s3 s4 t r : Int} (hN : NRc N S) (h : LQ S u N.1 x so s3 s4) (ht : t = -1 ∨ (0 ≤ t ∧ t < N.1 ∧ N.2.2.1 t 0 = 6)) (r1 : t < 0 → r = 1) (r2 : 0 ≤ t → r = fc u t 2 - fc u t 1 + 1) : r = siz N t := by
  rcases ht with c | c
  · rw [r1 (by omega)]; exact (if_pos (by omega)).symm
  · have q := (hN.2.2 t c.1 c.2.1).2.1 c.2.2
    rw [r2 c.1, h.2.2.1 t 2 (by omega) (by decide) (by decide), h.2.2.1 t 1 (by omega) (by decide) (by decide), ← q.1, ← q.2]; exact (if_neg (by omega)).symm
theorem siz_b {N : sN} {t : Int} (hK : NK N) (ht : t = -1 ∨ (0 ≤ t ∧ t < N.1 ∧ N.2.2.1 t 0 = 6)) : 1 ≤ siz N t ∧ siz N t ≤ 12 := by
  unfold siz
  rcases ht with c | c
  · rw [if_pos (by omega)]; decide
  · rw [if_neg (by omega)]; have := (hK.2 t c.1 c.2.1).2.1 c.2.2; omega
/-- INDEXES that stand -/
def SV (N : sN) (t : Int) : Prop := t = -1 ∨ (0 ≤ t ∧ t < N.1 ∧ N.2.2.1 t 0 = 6)
theorem isS.sv {N : sN} {y : Int} (h0 : 0 ≤ N.1) (h : isS N y) : SV N (eFind N y) := .inr ⟨h.1, (eFind_lt h0).2, h.2⟩
theorem eIx_i {k v : Int → Int} {N : sN} {p : Int} {y : Int × Int × Int} (h0 : 0 ≤ N.1) (h : eIx k v N p = some y) : SV N y.1 ∧ SV N y.2.1 ∧ (y.1 < 0 → y.2.1 < 0) ∧ p ≤ y.2.2 := by
  unfold eIx at h
  by_cases c : k p = 17
  · rw [if_pos c] at h
    by_cases d : isS N (v (p + 1))
    · rw [if_pos d] at h
      by_cases e : k (p + 2) = 16
      · rw [if_pos e] at h
        by_cases g : isS N (v (p + 3))
        · rw [if_pos g] at h; cases h
          exact ⟨d.sv h0, g.sv h0, fun z => absurd d.1 (by have z : eFind N (v (p + 1)) < 0 := z; omega), by show p ≤ p + 5; omega⟩
        · rw [if_neg g] at h; cases h
      · rw [if_neg e] at h; cases h
        exact ⟨d.sv h0, .inl rfl, fun _ => (by show (-1 : Int) < 0; decide), by show p ≤ p + 3; omega⟩
    · rw [if_neg d] at h; cases h
  · rw [if_neg c] at h; cases h
    exact ⟨.inl rfl, .inl rfl, fun _ => (by show (-1 : Int) < 0; decide), Int.le_refl _⟩
theorem eIx_0 {k v : Int → Int} {N : sN} {p : Int} (c : k p ≠ 17) : eIx k v N p = some (-1, -1, p) := if_neg c
theorem eIx_1 {k v : Int → Int} {N : sN} {p : Int} (c : k p = 17) (d : ¬ isS N (v (p + 1))) : eIx k v N p = none := by unfold eIx; rw [if_pos c, if_neg d]
theorem eIx_2 {k v : Int → Int} {N : sN} {p : Int} (c : k p = 17) (d : isS N (v (p + 1))) (e : k (p + 2) ≠ 16) : eIx k v N p = some (eFind N (v (p + 1)), -1, p + 3) := by unfold eIx; rw [if_pos c, if_pos d, if_neg e]
theorem eIx_3 {k v : Int → Int} {N : sN} {p : Int} (c : k p = 17) (d : isS N (v (p + 1))) (e : k (p + 2) = 16) (g : ¬ isS N (v (p + 3))) : eIx k v N p = none := by unfold eIx; rw [if_pos c, if_pos d, if_pos e, if_neg g]
theorem eIx_4 {k v : Int → Int} {N : sN} {p : Int} (c : k p = 17) (d : isS N (v (p + 1))) (e : k (p + 2) = 16) (g : isS N (v (p + 3))) : eIx k v N p = some (eFind N (v (p + 1)), eFind N (v (p + 3)), p + 5) := by unfold eIx; rw [if_pos c, if_pos d, if_pos e, if_pos g]
theorem ogI_i {k : Int → Int} {p q : Int} (h : ogI k p = some q) : (k p ≠ 17 ∧ q = p) ∨ (k p = 17 ∧ k (p + 1) = 2 ∧ ((k (p + 2) ≠ 16 ∧ k (p + 2) = 18 ∧ q = p + 3) ∨ (k (p + 2) = 16 ∧ k (p + 3) = 2 ∧ k (p + 4) = 18 ∧ q = p + 5))) := by
  unfold ogI at h
  by_cases c : k p = 17
  · rw [if_pos c] at h
    obtain ⟨a, h1, h⟩ := ogB h
    have e1 := ogT_lt h1
    have ea : a = p + 2 := by omega
    rw [ea] at h
    right; refine ⟨c, e1.2, ?_⟩
    by_cases d : k (p + 2) = 16
    · rw [if_pos d] at h
      obtain ⟨b, h2, h⟩ := ogB h
      have e2 := ogT_lt h2; have e3 := ogT_lt h
      have eb : b = p + 4 := by omega
      rw [eb] at e3
      exact .inr ⟨d, by rw [show p + 3 = p + 2 + 1 by omega]; exact e2.2, e3.2, by omega⟩
    · rw [if_neg d] at h; have e2 := ogT_lt h; exact .inl ⟨d, e2.2, by omega⟩
  · rw [if_neg c] at h; cases h; exact .inl ⟨c, rfl⟩
/-- what is told so far, and what the class's memory holds of it: o the model's place -/
def MRc (M : sM) (S : sS) (G : sG) (o : Nat) : Prop := NRc M.1 S ∧ NK M.1 ∧ (S.1 11 10 = M.2.1 ∧ 0 ≤ M.2.1 ∧ M.2.1 ≤ 8) ∧ (S.1 11 11 = M.2.2.1 ∧ 0 ≤ M.2.2.1 ∧ M.2.2.1 ≤ 12) ∧ (S.1 o 2 = M.2.2.2.1 ∧ 0 ≤ M.2.2.2.1 ∧ M.2.2.2.1 ≤ 12) ∧ (S.1 o 3 = M.2.2.2.2.2.1 ∧ 0 ≤ M.2.2.2.2.2.1 ∧ M.2.2.2.2.2.1 ≤ 16) ∧ (S.1 11 12 = M.2.2.2.2.2.2.2 ∧ 0 ≤ M.2.2.2.2.2.2.2 ∧ M.2.2.2.2.2.2.2 ≤ 20000) ∧ M.1.1 ≤ M.2.1 + M.2.2.1 + M.2.2.2.1 + M.2.2.2.2.2.1 ∧ (∀ s, 0 ≤ s → s < M.1.1 → M.1.2.2.1 s 0 = 7 → M.1.2.2.1 s 5 + siz M.1 (M.1.2.2.1 s 3) * siz M.1 (M.1.2.2.1 s 4) ≤ 144 * M.2.2.1) ∧ S.2.2.2 11 8 = .ref (G.2.2.1 + o)
/-- what a declaration leaves -/
def MOc (S u : sS) (G : sG) (o : Nat) (q r : Int) (X : Option (sM × Int)) : Prop := (Hd (RK S u ∧ (r = 0 → u.1 11 14 ≠ 0)) ∧ 0 ≤ r ∧ r ≤ 1) ∧ Hd (r = 1 → ∃ M, X = some (M, q) ∧ MRc M u G o ∧ u.1 11 13 = q ∧ u.1 11 14 = 0) ∧ Hd (r = 0 → X = none)
theorem LQ.setq {S u w : sS} {K x so s3 s4 v s0 q : Int} (h : LQ S u K x so s3 s4) (hs : s0 = K) (hq : q = 1 ∨ q = 2 ∨ q = 5) (e : w = uA u 17 (s0 * 6 + q) v) : LQ S w K x so s3 s4 ∧ fc w K q = v ∧ ∀ q', 0 ≤ q' → q' ≤ 5 → q' ≠ q → fc w K q' = fc u K q' := by
  have ef : ∀ s q', 0 ≤ q' → q' ≤ 5 → fc w s q' = if s = K ∧ q' = q then v else fc u s q' := fun s q' a b => by rw [e, hs, fc_u (by omega) (by omega)]
  refine ⟨⟨by rw [e]; exact h.1, fun j => by rw [e]; exact h.2.1 j, fun s q' c q0 q5 => ?_, ?_, ?_, ?_⟩, ?_, fun q' a b c => ?_⟩
  · rw [ef s q' q0 q5, if_neg (by omega)]; exact h.2.2.1 s q' c q0 q5
  · rw [ef K 0 (by decide) (by decide), if_neg (by omega)]; exact h.2.2.2.1
  · rw [ef K 3 (by decide) (by decide), if_neg (by omega)]; exact h.2.2.2.2.1
  · rw [ef K 4 (by decide) (by decide), if_neg (by omega)]; exact h.2.2.2.2.2
  · rw [ef K q (by omega) (by omega), if_pos ⟨rfl, rfl⟩]
  · rw [ef K q' a b, if_neg (fun z => c z.2)]
theorem mdl_out {o : Nat} (m : mdl o) : pT o = false ∧ pU o = false ∧ pV o = false := by
  have a : ∀ o, o < 231 → tau o = .inl 3 → pT o = false ∧ pU o = false ∧ pV o = false := by decide +kernel
  exact a o (mdl_k m) m.1
theorem MRc.added {M : sM} {S u : sS} {G : sG} {o : Nat} {x st pr nv wh m mx lk : Int} {f w : Int → Int} (h : MRc M S G o) (hl : LQ S u M.1.1 x (f 0) (f 3) (f 4)) (hf : NF M.1 f w) (hn : eFind M.1 x = -1) (e18 : ∀ j, j < 144 * M.2.2.1 → u.2.1 18 j = S.2.1 18 j) (g6 : f 0 = 6 → f 1 = fc u M.1.1 1 ∧ f 2 = fc u M.1.1 2) (g2 : f 0 ≠ 2) (g8 : f 0 = 7 ∨ f 0 = 8 → f 5 = fc u M.1.1 5) (gp : f 0 = 7 → M.2.2.1 < 12 ∧ f 5 = 144 * M.2.2.1 ∧ pr = M.2.2.1 + 1 ∧ ∀ o, 0 ≤ o → o < siz M.1 (f 3) * siz M.1 (f 4) → w o = u.2.1 18 (144 * M.2.2.1 + o)) (c0 : u.1 11 10 = st ∧ 0 ≤ st ∧ st ≤ 8) (c1 : u.1 11 11 = pr ∧ 0 ≤ pr ∧ pr ≤ 12 ∧ M.2.2.1 ≤ pr) (c2 : u.1 o 2 = nv ∧ 0 ≤ nv ∧ nv ≤ 12) (c3 : u.1 o 3 = m ∧ 0 ≤ m ∧ m ≤ 16) (c4 : u.1 11 12 = lk ∧ 0 ≤ lk ∧ lk ≤ 20000) (cs : M.1.1 + 1 ≤ st + pr + nv + m) (rk : u.2.2.2 11 8 = S.2.2.2 11 8) : MRc (addN M.1 x f w, st, pr, nv, wh, m, mx, lk) u G o := by
  obtain ⟨hN, hK, d0, d1, d2, d3, d4, ds, hb, hr⟩ := h
  have n1 := hN.1
  have hA : ∀ s, 0 ≤ s → s < M.1.1 → M.1.2.2.1 s 0 = 7 → M.1.2.2.1 s 5 + siz M.1 (M.1.2.2.1 s 3) * siz M.1 (M.1.2.2.1 s 4) ≤ 144 * M.2.2.1 := hb
  have hsz : f 0 = 7 → 1 ≤ siz M.1 (f 3) * siz M.1 (f 4) ∧ siz M.1 (f 3) * siz M.1 (f 4) ≤ 144 := fun z => m12 (siz_b hK (hf.2.2.1 (.inl z) 3 (.inl rfl))) (siz_b hK (hf.2.2.1 (.inl z) 4 (.inr rfl)))
  refine ⟨?_, hK.added n1.2.1 hn hf, c0, ⟨c1.1, c1.2.1, c1.2.2.1⟩, c2, c3, c4, cs, fun s s0 s1 z => ?_, rk.trans hr⟩
  · refine hN.added hK hf (by omega) hl.1 hl.2.1 hl.2.2.1 (fun s s0 s1 z o o0 o1 => e18 _ (by have := hA s s0 s1 z; have := (hN.2.2 s s0 s1).2.2.2.2.1 (.inl z); omega)) hl.2.2.2.1 g6 g2 (fun _ => ⟨hl.2.2.2.2.1.symm, hl.2.2.2.2.2.symm⟩) g8 (fun z o o0 o1 => ?_)
    have g := gp z; have b := hsz z; have g5 := g8 (.inl z)
    rw [← g5, g.2.1]; exact ⟨by omega, by omega, g.2.2.2 o o0 o1⟩
  · have s1 : s < M.1.1 + 1 := s1
    by_cases c : s = M.1.1
    · have z : (addN M.1 x f w).2.2.1 s 0 = 7 := z
      show (addN M.1 x f w).2.2.1 s 5 + siz (addN M.1 x f w) ((addN M.1 x f w).2.2.1 s 3) * siz (addN M.1 x f w) ((addN M.1 x f w).2.2.1 s 4) ≤ 144 * pr
      rw [c, add_n] at z ⊢
      rw [siz_add (hf.lt n1.2.1 (.inl z) (.inl rfl)), siz_add (hf.lt n1.2.1 (.inl z) (.inr rfl))]
      have g := gp z; have b := hsz z; omega
    · have z : (addN M.1 x f w).2.2.1 s 0 = 7 := z
      show (addN M.1 x f w).2.2.1 s 5 + siz (addN M.1 x f w) ((addN M.1 x f w).2.2.1 s 3) * siz (addN M.1 x f w) ((addN M.1 x f w).2.2.1 s 4) ≤ 144 * pr
      rw [add_o c] at z ⊢
      rw [siz_add (hK.lt n1.2.1 s0 (by omega) (.inl z) (.inl rfl)), siz_add (hK.lt n1.2.1 s0 (by omega) (.inl z) (.inr rfl))]
      have := hA s s0 (by omega) z; omega
theorem eDs_y {v : Int → Int} {M : sM} {p : Int} (h1 : eFind M.1 (v (p + 1)) = -1) (h2 : v (p + 3) ≤ v (p + 5)) (h3 : v (p + 5) - v (p + 3) < 12) (h4 : M.2.1 < 8) : eDs v M p = some ((addN M.1 (v (p + 1)) (fct 6 (v (p + 3)) (v (p + 5)) (-1) (-1) 0) (fun _ => 0), M.2.1 + 1, M.2.2.1, M.2.2.2.1, M.2.2.2.2.1, M.2.2.2.2.2.1, M.2.2.2.2.2.2.1, M.2.2.2.2.2.2.2), p + 7) := if_pos ⟨h1, h2, h3, h4⟩
theorem eDs_n {v : Int → Int} {M : sM} {p : Int} (h : eFind M.1 (v (p + 1)) ≠ -1 ∨ v (p + 5) < v (p + 3) ∨ 12 ≤ v (p + 5) - v (p + 3) ∨ 8 ≤ M.2.1) : eDs v M p = none := if_neg (fun z => by have a := z.1; have b := z.2.1; have c := z.2.2.1; have d := z.2.2.2; omega)
theorem fct0 {a b c d e g : Int} : fct a b c d e g 0 = a := if_pos rfl
theorem NF_6 {N : sN} {a b : Int} (h : 0 ≤ a ∧ a ≤ b ∧ b ≤ 99999 ∧ b - a ≤ 11) : NF N (fct 6 a b (-1) (-1) 0) (fun _ => 0) := ⟨fun z => absurd (fct0.symm.trans z) (by decide), fun _ => h, fun z => by rcases z with z | z <;> exact absurd (fct0.symm.trans z) (by decide), fun z => by rcases z with z | z <;> exact absurd (fct0.symm.trans z) (by decide), fun z => absurd (fct0.symm.trans z) (by decide), fun z => absurd (fct0.symm.trans z) (by decide)⟩
theorem NF_10 {N : sN} : NF N (fct 10 0 0 (-1) (-1) 0) (fun _ => 0) := ⟨fun z => absurd (fct0.symm.trans z) (by decide), fun z => absurd (fct0.symm.trans z) (by decide), fun z => by rcases z with z | z <;> exact absurd (fct0.symm.trans z) (by decide), fun z => by rcases z with z | z <;> exact absurd (fct0.symm.trans z) (by decide), fun z => absurd (fct0.symm.trans z) (by decide), fun z => absurd (fct0.symm.trans z) (by decide)⟩
theorem NF_8 {N : sN} {a b c : Int} (h3 : SV N a) (h4 : SV N b) (h34 : a < 0 → b < 0) (h5 : 1 ≤ c ∧ c + siz N a * siz N b ≤ 13) : NF N (fct 8 0 0 a b c) (fun _ => 0) := ⟨fun z => absurd (fct0.symm.trans z) (by decide), fun z => absurd (fct0.symm.trans z) (by decide), fun _ q hq => by
  rcases hq with z | z
  · rw [z]; exact h3
  · rw [z]; exact h4, fun _ => h34, fun z => absurd (fct0.symm.trans z) (by decide), fun _ => h5⟩
theorem NF_7 {N : sN} {a b c : Int} {w : Int → Int} (h3 : SV N a) (h4 : SV N b) (h34 : a < 0 → b < 0) (h5 : ∀ o, 0 ≤ o → o < siz N a * siz N b → -99999 ≤ w o ∧ w o ≤ 99999) : NF N (fct 7 0 0 a b c) w := ⟨fun z => absurd (fct0.symm.trans z) (by decide), fun z => absurd (fct0.symm.trans z) (by decide), fun _ q hq => by
  rcases hq with z | z
  · rw [z]; exact h3
  · rw [z]; exact h4, fun _ => h34, fun _ => h5, fun z => absurd (fct0.symm.trans z) (by decide)⟩
