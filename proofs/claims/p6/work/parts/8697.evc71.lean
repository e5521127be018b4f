/-! VALUES, step by step -/
theorem vst_b {k : Int → Int} {a : Int} : 1 ≤ vst k a ∧ vst k a ≤ 2 := by unfold vst; split <;> omega
theorem ogV_i {k : Int → Int} {a b : Int} (h : ogV k a = some b) : (k a = 22 ∧ k (a + 1) = 3 ∧ b = a + 2 ∧ vst k a = 2) ∨ (k a = 3 ∧ b = a + 1 ∧ vst k a = 1) := by
  unfold ogV at h
  by_cases c : k a = 22
  · rw [if_pos c] at h; have e := ogT_lt h; exact .inl ⟨c, e.2, by omega, if_pos c⟩
  · rw [if_neg c] at h; have e := ogT_lt h; exact .inr ⟨e.2, e.1, if_neg c⟩
theorem ogVs_st {T : Int} {k : Int → Int} {a b : Int} (hz : ∀ t, T ≤ t → k t = 0) (h : ogVs T k a = some b) : ((k a = 22 ∧ k (a + 1) = 3) ∨ (k a = 3 ∧ k a ≠ 22)) ∧ ((k (a + vst k a) = 16 ∧ ogVs T k (a + vst k a + 1) = some b) ∨ (k (a + vst k a) ≠ 16 ∧ b = a + vst k a)) ∧ a + vst k a ≤ T := by
  obtain ⟨x, h1, h2⟩ := ogB h
  have lt : ∀ t c, k t = c → c ≠ 0 → t < T := fun t c e hc => by
    by_cases q : t < T
    · exact q
    · exact absurd (e.symm.trans (hz t (by omega))) hc
  have hx : x = a + vst k a ∧ ((k a = 22 ∧ k (a + 1) = 3) ∨ (k a = 3 ∧ k a ≠ 22)) ∧ a + vst k a ≤ T := by
    rcases ogV_i h1 with e | e
    · have := lt _ _ e.2.1 (by decide); exact ⟨by omega, .inl ⟨e.1, e.2.1⟩, by omega⟩
    · have := lt _ _ e.1 (by decide); exact ⟨by omega, .inr ⟨e.1, by omega⟩, by omega⟩
  refine ⟨hx.2.1, ?_, hx.2.2⟩
  rw [← hx.1]
  by_cases c : k x = 16
  · refine .inl ⟨c, ?_⟩
    have hT : ∀ p, (fun p => k p = 16) p → p < T := fun p e => lt p 16 e (by decide)
    have hR : ∀ p q, (fun p => k p = 16) p → (fun p => ogV k (p + 1)) p = some q → p < q := fun p q _ e => by have := ogV_inc _ _ e; omega
    rw [ogW_st hT hR c] at h2; exact h2
  · refine .inr ⟨c, ?_⟩; rw [ogW_no (st := fun p => k p = 16) c] at h2; cases h2; rfl
theorem vcn_mono {T : Int} {k : Int → Int} (hz : ∀ t, T ≤ t → k t = 0) : ∀ (n m : Nat) (a : Int), (T - a).toNat + 1 ≤ n → (T - a).toNat + 1 ≤ m → vcn k n a = vcn k m a := by
  intro n
  induction n with
  | zero => intro m a h _; omega
  | succ n ih =>
    intro m a h h'
    cases m with
    | zero => omega
    | succ m =>
      show (if k (a + vst k a) = 16 then 1 + vcn k n (a + vst k a + 1) else 1) = (if k (a + vst k a) = 16 then 1 + vcn k m (a + vst k a + 1) else 1)
      by_cases c : k (a + vst k a) = 16
      · rw [if_pos c, if_pos c]
        have b := vst_b (k := k) (a := a)
        have l : a + vst k a < T := by
          by_cases q : a + vst k a < T
          · exact q
          · exact absurd (c.symm.trans (hz _ (by omega))) (by decide)
        rw [ih m _ (by omega) (by omega)]
      · rw [if_neg c, if_neg c]
theorem vct_y {T : Int} {k : Int → Int} {a : Int} (hz : ∀ t, T ≤ t → k t = 0) (c : k (a + vst k a) = 16) : vct T k a = 1 + vct T k (a + vst k a + 1) := by
  have b := vst_b (k := k) (a := a)
  have l : a + vst k a < T := by
    by_cases q : a + vst k a < T
    · exact q
    · exact absurd (c.symm.trans (hz _ (by omega))) (by decide)
  show (if k (a + vst k a) = 16 then 1 + vcn k (T - a).toNat (a + vst k a + 1) else 1) = _
  rw [if_pos c]; unfold vct
  rw [vcn_mono hz (T - a).toNat _ (a + vst k a + 1) (by omega) (Nat.le_refl _)]
theorem vct_n {T : Int} {k : Int → Int} {a : Int} (c : k (a + vst k a) ≠ 16) : vct T k a = 1 := if_neg c
def VI (T : Int) (k : Int → Int) (a0 b p gv : Int) : Prop := (k p = 15 ∧ p = b ∧ gv = vct T k a0 ∧ 1 ≤ gv) ∨ ((k p = 13 ∨ k p = 16) ∧ p + 1 = vps k a0 gv.toNat ∧ vct T k a0 = gv + vct T k (p + 1) ∧ ogVs T k (p + 1) = some b)
theorem VI.st {T : Int} {k v : Int → Int} {a0 b p gv : Int} (hz : ∀ t, T ≤ t → k t = 0) (hb : k b = 15) (g0 : 0 ≤ gv) (hp : k p ≠ 15) (h : VI T k a0 b p gv) : ((k (p + 1) = 22 ∧ k (p + 1 + 1) = 3) ∨ (k (p + 1) = 3 ∧ k (p + 1) ≠ 22)) ∧ VI T k a0 b (p + 1 + vst k (p + 1)) (gv + 1) ∧ vvl k v a0 gv = vva k v (p + 1) ∧ p + 1 + vst k (p + 1) ≤ T := by
  rcases h with h | h
  · exact absurd h.1 hp
  · have s := ogVs_st hz h.2.2.2
    refine ⟨s.1, ?_, ?_, s.2.2⟩
    · rcases s.2.1 with c | c
      · refine .inr ⟨.inr c.1, ?_, ?_, c.2⟩
        · rw [show (gv + 1).toNat = gv.toNat + 1 by omega]
          show _ = vps k a0 gv.toNat + vst k (vps k a0 gv.toNat) + 1
          rw [← h.2.1]
        · rw [h.2.2.1, vct_y hz c.1]; omega
      · refine .inl ⟨by rw [← c.2]; exact hb, c.2.symm, ?_, by omega⟩
        rw [h.2.2.1, vct_n c.1]
    · unfold vvl; rw [← h.2.1]
theorem VI.in {T : Int} {k : Int → Int} {a0 b p : Int} (hp : k p = 13) (e : p + 1 = a0) (h : ogVs T k a0 = some b) : VI T k a0 b p 0 := .inr ⟨.inl hp, e, by rw [e]; omega, by rw [e]; exact h⟩
section EDX
variable {T : Int} {k v : Int → Int} {M : sM} {p s3 s4 qi b : Int}
theorem eDp_0 (h : eFind M.1 (v (p + 1)) ≠ -1) : eDp T k v M p = none := if_neg h
theorem eDp_1 (h : eFind M.1 (v (p + 1)) = -1) (e : eIx k v M.1 (p + 2) = none) : eDp T k v M p = none := by unfold eDp; rw [if_pos h, e]; rfl
theorem eDp_2 (h : eFind M.1 (v (p + 1)) = -1) (e : eIx k v M.1 (p + 2) = some (s3, s4, qi)) (g : ogVs T k (qi + 1) = some b) (c : vct T k (qi + 1) ≠ siz M.1 s3 * siz M.1 s4 ∨ 12 ≤ M.2.2.1) : eDp T k v M p = none := by
  unfold eDp; rw [if_pos h, e, Option.bind_some]; show (ogVs T k (qi + 1)).bind _ = none; rw [g, Option.bind_some]
  exact if_neg (fun z => by rcases c with c | c; (exact c z.1); (have z2 := z.2; omega))
theorem eDp_3 (h : eFind M.1 (v (p + 1)) = -1) (e : eIx k v M.1 (p + 2) = some (s3, s4, qi)) (g : ogVs T k (qi + 1) = some b) (c1 : vct T k (qi + 1) = siz M.1 s3 * siz M.1 s4) (c2 : M.2.2.1 < 12) : eDp T k v M p = some ((addN M.1 (v (p + 1)) (fct 7 0 0 s3 s4 (144 * M.2.2.1)) (vvl k v (qi + 1)), M.2.1, M.2.2.1 + 1, M.2.2.2.1, M.2.2.2.2.1, M.2.2.2.2.2.1, M.2.2.2.2.2.2.1, M.2.2.2.2.2.2.2), b + 1) := by
  unfold eDp; rw [if_pos h, e, Option.bind_some]; show (ogVs T k (qi + 1)).bind _ = _; rw [g, Option.bind_some]
  exact if_pos ⟨c1, c2⟩
theorem eDv_0 (h : eFind M.1 (v (p + 1)) ≠ -1) : eDv k v M p = none := if_neg h
theorem eDv_1 (h : eFind M.1 (v (p + 1)) = -1) (e : eIx k v M.1 (p + 2) = none) : eDv k v M p = none := by unfold eDv; rw [if_pos h, e]; rfl
theorem eDv_2 (h : eFind M.1 (v (p + 1)) = -1) (e : eIx k v M.1 (p + 2) = some (s3, s4, qi)) (c : 12 < M.2.2.2.1 + siz M.1 s3 * siz M.1 s4) : eDv k v M p = none := by
  unfold eDv; rw [if_pos h, e, Option.bind_some]; exact if_neg (by show ¬ (M.2.2.2.1 + siz M.1 s3 * siz M.1 s4 ≤ 12); omega)
theorem eDv_3 (h : eFind M.1 (v (p + 1)) = -1) (e : eIx k v M.1 (p + 2) = some (s3, s4, qi)) (c : M.2.2.2.1 + siz M.1 s3 * siz M.1 s4 ≤ 12) : eDv k v M p = some ((addN M.1 (v (p + 1)) (fct 8 0 0 s3 s4 (M.2.2.2.1 + 1)) (fun _ => 0), M.2.1, M.2.2.1, M.2.2.2.1 + siz M.1 s3 * siz M.1 s4, M.2.2.2.2.1 + (if k qi = 9 then siz M.1 s3 * siz M.1 s4 else 0), M.2.2.2.2.2.1, M.2.2.2.2.2.2.1, M.2.2.2.2.2.2.2), qi + (if k qi = 9 then 2 else 1)) := by
  unfold eDv; rw [if_pos h, e, Option.bind_some]; exact if_pos c
end EDX
