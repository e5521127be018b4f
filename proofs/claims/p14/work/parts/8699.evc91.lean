/-! All declarations, one behind the other -/
section EM
variable {T : Int} {k v : Int → Int}
theorem eRo_inc {N : sN} {m lk p : Int} {y : Int × Int × Int} (h : eRo T k v N m lk p = some y) : p < y.2.2 := by
  obtain ⟨a, h1, h⟩ := eB h; obtain ⟨b, h2, h⟩ := eB h
  have q1 := eU_inc (eF_inc 30 N) _ _ _ h1; have q2 := eU_inc (eF_inc 30 N) _ _ _ h2
  by_cases c : grt (vad a.2.1 b.2.1 (-1)) ∨ 16 < m + (if k a.1 = 13 then 2 else 1)
  · rw [if_pos c] at h; cases h
  · rw [if_neg c] at h; cases h; show p < b.1 + 1; omega
theorem eRn_inc {N : sN} {x p p0 : Int} (hp : p0 < p) : ∀ (c : Nat) (val m lk pos : Int) (y : Int × Int × Int), p0 < pos → eRn T k v N x p c val m lk pos = some y → p0 < y.2.2 := by
  intro c
  induction c with
  | zero => intro val m lk pos y h0 h; cases h; exact h0
  | succ c ih =>
    intro val m lk pos y h0 h
    have h : (eRo T k v (push N x val) m lk p).bind (fun y => eRn T k v N x p c (val + 1) y.1 y.2.1 y.2.2) = some y := h
    obtain ⟨a, h1, h⟩ := eB h
    have q := eRo_inc h1
    exact ih _ _ _ _ _ (by omega) h
theorem eSt_inc {M : sM} {p : Int} {y : sM × Int} (h0 : 0 ≤ M.1.1) (h : eSt T k v M p = some y) : p < y.2 := by
  unfold eSt at h
  by_cases c1 : k p = 6
  · rw [if_pos c1] at h; unfold eDs at h
    split at h
    · cases h; show p < p + 7; omega
    · cases h
  rw [if_neg c1] at h
  by_cases c2 : k p = 7
  · rw [if_pos c2] at h; unfold eDp at h
    split at h
    · obtain ⟨x, h1, h⟩ := eB h; obtain ⟨b, h2, h⟩ := eB h
      have q1 := (eIx_i h0 h1).2.2.2; have q2 := ogVs_inc _ _ h2
      split at h
      · cases h; show p < b + 1; omega
      · cases h
    · cases h
  rw [if_neg c2] at h
  by_cases c3 : k p = 8
  · rw [if_pos c3] at h; unfold eDv at h
    split at h
    · obtain ⟨x, h1, h⟩ := eB h
      have q1 := (eIx_i h0 h1).2.2.2
      split at h
      · cases h; show p < x.2.2 + (if k x.2.2 = 9 then 2 else 1); split <;> omega
      · cases h
    · cases h
  rw [if_neg c3] at h
  by_cases c4 : k p = 10
  · rw [if_pos c4] at h; unfold eDr at h
    split at h
    · obtain ⟨x, h1, h⟩ := eB h
      have q1 : p < x.2.2 := by
        split at h1
        · split at h1
          · exact eRn_inc (by omega) _ _ _ _ _ _ (by omega) h1
          · cases h1
        · have := eRo_inc h1; omega
      cases h; exact q1
    · cases h
  rw [if_neg c4] at h
  unfold eDg at h
  obtain ⟨x, h1, h⟩ := eB h
  have q1 := eU_inc (eF_inc 30 M.1) _ _ _ h1
  cases h; show p < x.1 + 1; omega
theorem addN_nn {N : sN} {x : Int} {f w : Int → Int} (h : 0 ≤ N.1) : 0 ≤ (addN N x f w).1 := by show 0 ≤ N.1 + 1; omega
theorem eSt_nn {M : sM} {p : Int} {y : sM × Int} (h0 : 0 ≤ M.1.1) (h : eSt T k v M p = some y) : 0 ≤ y.1.1.1 := by
  unfold eSt at h
  by_cases c1 : k p = 6
  · rw [if_pos c1] at h; unfold eDs at h
    split at h
    · cases h; exact addN_nn h0
    · cases h
  rw [if_neg c1] at h
  by_cases c2 : k p = 7
  · rw [if_pos c2] at h; unfold eDp at h
    split at h
    · obtain ⟨x, h1, h⟩ := eB h; obtain ⟨b, h2, h⟩ := eB h
      split at h
      · cases h; exact addN_nn h0
      · cases h
    · cases h
  rw [if_neg c2] at h
  by_cases c3 : k p = 8
  · rw [if_pos c3] at h; unfold eDv at h
    split at h
    · obtain ⟨x, h1, h⟩ := eB h
      split at h
      · cases h; exact addN_nn h0
      · cases h
    · cases h
  rw [if_neg c3] at h
  by_cases c4 : k p = 10
  · rw [if_pos c4] at h; unfold eDr at h
    split at h
    · obtain ⟨x, h1, h⟩ := eB h
      cases h; exact addN_nn h0
    · cases h
  rw [if_neg c4] at h
  unfold eDg at h
  obtain ⟨x, h1, h⟩ := eB h
  cases h; exact h0
theorem eMn_s {c : Nat} {M : sM} {p : Int} : eMn T k v (c + 1) M p = if k p = 0 then some M else (eSt T k v M p).bind (fun y => eMn T k v c y.1 y.2) := rfl
theorem eMn_mono (hz : ∀ t, T ≤ t → k t = 0) : ∀ (n m : Nat) (M : sM) (p : Int), 0 ≤ M.1.1 → (T - p).toNat + 1 ≤ n → (T - p).toNat + 1 ≤ m → eMn T k v n M p = eMn T k v m M p := by
  intro n
  induction n with
  | zero => intro m M p _ h _; omega
  | succ n ih =>
    intro m M p h0 h h'
    cases m with
    | zero => omega
    | succ m =>
      rw [eMn_s, eMn_s]
      by_cases c : k p = 0
      · rw [if_pos c, if_pos c]
      · rw [if_neg c, if_neg c]
        cases e : eSt T k v M p with
        | none => rfl
        | some y =>
          rw [Option.bind_some, Option.bind_some]
          have h1 : p < T := by
            by_cases q : p < T
            · exact q
            · exact absurd (hz p (by omega)) c
          have h2 := eSt_inc h0 e
          exact ih m y.1 y.2 (eSt_nn h0 e) (by omega) (by omega)
theorem eMw_z {M : sM} {p : Int} (c : k p = 0) : eMw T k v M p = some M := by unfold eMw; rw [eMn_s, if_pos c]
theorem eMw_n {M : sM} {p : Int} (c : k p ≠ 0) (e : eSt T k v M p = none) : eMw T k v M p = none := by unfold eMw; rw [eMn_s, if_neg c, e]; rfl
theorem eMw_s {M : sM} {p : Int} {y : sM × Int} (hz : ∀ t, T ≤ t → k t = 0) (h0 : 0 ≤ M.1.1) (c : k p ≠ 0) (e : eSt T k v M p = some y) : eMw T k v M p = eMw T k v y.1 y.2 := by
  have h1 : p < T := by
    by_cases q : p < T
    · exact q
    · exact absurd (hz p (by omega)) c
  have h2 := eSt_inc h0 e
  show eMn T k v ((T - p).toNat + 1) M p = eMn T k v ((T - y.2).toNat + 1) y.1 y.2
  rw [eMn_s, if_neg c, e, Option.bind_some]
  exact eMn_mono hz _ _ y.1 y.2 (eSt_nn h0 e) (by omega) (Nat.le_refl _)
end EM
/-! the tokens of the class: kinds and values by the bytes -/
theorem dvn_b {B : Int → Int} {p : Int} : ∀ w : Nat, (∀ i : Nat, i < w → 48 ≤ B (p + i) ∧ B (p + i) ≤ 57) → 0 ≤ dvn B p w ∧ dvn B p w ≤ 10 ^ w - 1 := by
  intro w
  induction w with
  | zero => intro _; exact ⟨Int.le_refl _, by show (0 : Int) ≤ 10 ^ 0 - 1; decide⟩
  | succ w ih =>
    intro h
    have a := ih (fun i hi => h i (by omega)); have b := h w (by omega)
    show 0 ≤ 10 * dvn B p w + B (p + w) - 48 ∧ 10 * dvn B p w + B (p + w) - 48 ≤ 10 ^ (w + 1) - 1
    rw [Int.pow_succ]; omega
theorem kOf_3 {b : Int → Int} {n p : Int} (hp : 0 ≤ p) (hn : p ≤ n) (h : kOf b n p = 3) : 0 ≤ vOf b n p ∧ vOf b n p ≤ 99999 := by
  unfold kOf at h; unfold vOf
  by_cases c1 : isLt (cb b n p)
  · rw [if_pos c1] at h
    split at h
    · unfold wdk at h; exfalso; revert h; repeat' split
      all_goals (intro h; exact absurd h (by decide))
    · exact absurd h (by decide)
  · rw [if_neg c1] at h ⊢
    by_cases c2 : isDg (cb b n p)
    · rw [if_pos c2] at h ⊢
      by_cases c3 : en n (stD b n) p - p ≤ 5 ∧ ¬ isLt (cb b n (en n (stD b n) p))
      · have r := en_r (n := n) (st := stD b n) p hn
        have q := dvn_b (B := b) (p := p) (en n (stD b n) p - p).toNat (fun i hi => by
          have s := r.2.2 (p + i) (by omega) (by omega)
          have e : cb b n (p + i) = b (p + i) := cb_in (by omega) (by omega)
          have s : isDg (cb b n (p + i)) := s
          rw [e] at s; exact s)
        refine ⟨q.1, ?_⟩
        have w5 : (en n (stD b n) p - p).toNat ≤ 5 := by have := c3.1; omega
        have pw : (10 : Int) ^ (en n (stD b n) p - p).toNat ≤ 100000 := by
          have : (en n (stD b n) p - p).toNat = 0 ∨ (en n (stD b n) p - p).toNat = 1 ∨ (en n (stD b n) p - p).toNat = 2 ∨ (en n (stD b n) p - p).toNat = 3 ∨ (en n (stD b n) p - p).toNat = 4 ∨ (en n (stD b n) p - p).toNat = 5 := by omega
          rcases this with e | e | e | e | e | e <;> rw [e] <;> decide
        omega
      · rw [if_neg c3] at h; exact absurd h (by decide)
    · rw [if_neg c2] at h
      split at h
      · unfold sg2 at h; exfalso; revert h; repeat' split
        all_goals (intro h; exact absurd h (by decide))
      · unfold sg1 at h; exfalso; revert h; repeat' split
        all_goals (intro h; exact absurd h (by decide))
theorem TVn_q {b : Int → Int} {n T : Int} (hn : 0 ≤ n) (h : TQ b n T) : TVn (kq b n T) (vq b n T) := fun p hp => by
  unfold kq at hp; unfold vq
  by_cases c : 0 ≤ p ∧ p < T
  · rw [if_pos c] at hp ⊢
    have r := h.ps hn p.toNat (by omega)
    unfold kS at hp
    split at hp
    · exact kOf_3 r.1 r.2 hp
    · exact absurd hp (by decide)
  · rw [if_neg c]; decide
theorem TKS.kv {B b : Int → Int} {n : Int} {S : sS} (h : TKS B n (S.1 12 3) (S.2.1 13) (S.2.2.1 15) (S.2.1 14)) (hn : 0 ≤ n) (g : agr B b n) (he : S.2.1 13 (S.1 12 3 - 1) = 0) (hl : S.2.2.1 15 (S.1 12 3 - 1) = 0) : KV S (kq b n (S.1 12 3)) (vq b n (S.1 12 3)) (S.1 12 3) := by
  have q := h.q hn g
  have t1 := q.1.1
  refine ⟨funext fun j => ?_, funext fun j => ?_, rfl⟩
  · unfold kd
    by_cases c : 0 ≤ j ∧ j < S.1 12 3
    · rw [if_pos c]; exact (q.2 j c.1 c.2).1
    · rw [if_neg c]; unfold kq; rw [if_neg c]
  · unfold vd
    by_cases c : 0 ≤ j ∧ j < S.1 12 3
    · rw [if_pos c]
      by_cases d : j = S.1 12 3 - 1
      · have e : kq b n (S.1 12 3) j = 0 := by rw [← (q.2 j c.1 c.2).1, d]; exact he
        unfold kq at e; unfold vq
        rw [if_pos c] at e ⊢
        have r := q.1.ps hn j.toNat (by omega)
        have hp : ¬ psn b n j.toNat < n := fun z => by
          unfold kS at e; rw [if_pos z] at e
          have := kOf_r (B := b) (n := n) (p := psn b n j.toNat); omega
        have ec : cb b n (psn b n j.toNat) = 0 := if_neg (by omega)
        rw [show S.2.2.1 15 j = 0 by rw [d]; exact hl]; unfold vOf; rw [ec, if_neg (by decide), if_neg (by decide)]
      · have k2 : 2 ≤ kq b n (S.1 12 3) j := by
          unfold kq; rw [if_pos c]; exact q.1.2.1 j.toNat (by omega)
        exact (q.2 j c.1 c.2).2 k2
    · rw [if_neg c]; unfold vq; rw [if_neg c]
/-- what may still come: declarations, or rows -/
def GP (T : Int) (k : Int → Int) (p : Int) : Prop := ∃ d, (ogW T (fun p => k p = 6 ∨ k p = 7 ∨ k p = 8) (ogD T k) p).bind (ogG1 T k) = some d ∨ ogG2 T k p = some d
def gSt (k : Int → Int) (p q : Int) : Prop := k (p + 3) = 3 ∧ k (p + 5) = 3 ∧ q = p + 7
def gPa (T : Int) (k : Int → Int) (p q : Int) : Prop := ∃ qi b, ogI k (p + 2) = some qi ∧ k qi = 13 ∧ ogVs T k (qi + 1) = some b ∧ k b = 15 ∧ q = b + 1
def gVa (k : Int → Int) (p q : Int) : Prop := ∃ qi, ogI k (p + 2) = some qi ∧ ((k qi = 9 ∧ q = qi + 2) ∨ (k qi ≠ 9 ∧ q = qi + 1))
def gGo (T : Int) (k : Int → Int) (p q : Int) : Prop := ∃ q1, ogU T k (ogF T k 30) (p + 1) = some q1 ∧ k q1 = 15 ∧ q = q1 + 1
def gRoc (T : Int) (k : Int → Int) (p q : Int) : Prop := ∃ b a1 b1, ((k (p + 2) ≠ 17 ∧ b = p + 2) ∨ (k (p + 2) = 17 ∧ b = p + 7)) ∧ k b = 24 ∧ ogU T k (ogF T k 30) (b + 1) = some a1 ∧ (k a1 = 25 ∨ k a1 = 26 ∨ k a1 = 13) ∧ ogU T k (ogF T k 30) (a1 + 1) = some b1 ∧ k b1 = 15 ∧ q = b1 + 1
theorem ogD_i {T : Int} {k : Int → Int} {p q : Int} (h : ogD T k p = some q) : k (p + 1) = 2 ∧ k (q - 1) = 15 ∧ ((k p = 6 ∧ gSt k p q) ∨ (k p = 8 ∧ gVa k p q) ∨ (k p ≠ 6 ∧ k p ≠ 8 ∧ gPa T k p q)) := by
  obtain ⟨a, h1, h⟩ := ogB h
  have e1 := ogT_lt h1
  have ea : a = p + 2 := by omega
  rw [ea] at h
  refine ⟨e1.2, ?_⟩
  by_cases c : k p = 6
  · rw [if_pos c] at h
    obtain ⟨b, h2, h⟩ := ogB h; obtain ⟨d, h3, h⟩ := ogB h; obtain ⟨e, h4, h⟩ := ogB h; obtain ⟨f, h5, h⟩ := ogB h
    have e2 := ogT_lt h2; have e3 := ogT_lt h3; have e4 := ogT_lt h4; have e5 := ogT_lt h5; have e6 := ogT_lt h
    have x3 : b = p + 3 := by omega
    have x5 : e = p + 5 := by omega
    rw [x3] at e3; rw [x5] at e5
    exact ⟨by rw [show q - 1 = f by omega]; exact e6.2, .inl ⟨c, e3.2, e5.2, by omega⟩⟩
  · rw [if_neg c] at h
    obtain ⟨b, h2, h⟩ := ogB h
    by_cases c2 : k p = 8
    · rw [if_pos c2] at h
      by_cases c3 : k b = 9
      · rw [if_pos c3] at h; have e := ogT_lt h; exact ⟨by rw [show q - 1 = b + 1 by omega]; exact e.2, .inr (.inl ⟨c2, b, h2, .inl ⟨c3, by omega⟩⟩)⟩
      · rw [if_neg c3] at h; have e := ogT_lt h; exact ⟨by rw [show q - 1 = b by omega]; exact e.2, .inr (.inl ⟨c2, b, h2, .inr ⟨c3, by omega⟩⟩)⟩
    · rw [if_neg c2] at h
      obtain ⟨d, h3, h⟩ := ogB h; obtain ⟨e, h4, h⟩ := ogB h
      have e3 := ogT_lt h3; have e5 := ogT_lt h
      rw [e3.1] at h4
      exact ⟨by rw [show q - 1 = e by omega]; exact e5.2, .inr (.inr ⟨c, c2, b, e, h2, e3.2, h4, e5.2, e5.1⟩)⟩
theorem ogR_i {T : Int} {k : Int → Int} {p q : Int} (h : ogR T k p = some q) : gRoc T k p q := by
  obtain ⟨a, h1, h⟩ := ogB h
  have e1 := ogT_lt h1
  have ea : a = p + 2 := by omega
  rw [ea] at h
  obtain ⟨b, h2, h⟩ := ogB h
  have hb : (k (p + 2) ≠ 17 ∧ b = p + 2) ∨ (k (p + 2) = 17 ∧ b = p + 7) := by
    unfold ogRi at h2
    by_cases c : k (p + 2) = 17
    · rw [if_pos c] at h2
      obtain ⟨x, g1, h2⟩ := ogB h2; obtain ⟨y, g2, h2⟩ := ogB h2; obtain ⟨z, g3, h2⟩ := ogB h2
      have f1 := ogT_lt g1; have f2 := ogT_lt g2; have f3 := ogT_lt g3; have f4 := ogT_lt h2
      exact .inr ⟨c, by omega⟩
    · rw [if_neg c] at h2; cases h2; exact .inl ⟨c, rfl⟩
  obtain ⟨c, h3, h⟩ := ogB h
  have e3 := ogT_lt h3
  obtain ⟨d, h4, h⟩ := ogB h
  rw [e3.1] at h4
  unfold ogR2 at h
  split at h
  · rename_i r
    obtain ⟨e, h5, h⟩ := ogB h
    have e5 := ogT_lt h
    exact ⟨b, d, e, hb, e3.2, h4, r, h5, e5.2, e5.1⟩
  · cases h
theorem GP_i {T : Int} {k : Int → Int} {p : Int} (hz : ∀ t, T ≤ t → k t = 0) (h : GP T k p) (hp : k p ≠ 0) : (k p = 6 ∧ ∃ q, k (q - 1) = 15 ∧ gSt k p q ∧ GP T k q) ∨ (k p = 7 ∧ ∃ q, k (q - 1) = 15 ∧ gPa T k p q ∧ GP T k q) ∨ (k p = 8 ∧ ∃ q, k (q - 1) = 15 ∧ gVa k p q ∧ GP T k q) ∨ (k p = 10 ∧ ∃ q, k (q - 1) = 15 ∧ gRoc T k p q ∧ GP T k q) ∨ ((k p = 4 ∨ k p = 5) ∧ ∃ q, k (q - 1) = 15 ∧ gGo T k p q ∧ GP T k q) := by
  have lt : ∀ t c, k t = c → c ≠ 0 → t < T := fun t c e hc => by
    by_cases q : t < T
    · exact q
    · exact absurd (e.symm.trans (hz t (by omega))) hc
  obtain ⟨d, h | h⟩ := h
  · by_cases c : k p = 6 ∨ k p = 7 ∨ k p = 8
    · have hT : ∀ p, (fun p => k p = 6 ∨ k p = 7 ∨ k p = 8) p → p < T := fun p e => by
        rcases e with e | e | e
        · exact lt p 6 e (by decide)
        · exact lt p 7 e (by decide)
        · exact lt p 8 e (by decide)
      rw [ogW_st hT (fun p q _ e => ogD_inc _ _ e) c] at h
      obtain ⟨w, h1, h2⟩ := ogB h
      obtain ⟨x, h3, h4⟩ := ogB h1
      have i := ogD_i h3
      have hg : GP T k x := ⟨d, .inl (by rw [h4]; exact h2)⟩
      rcases i.2.2 with z | z | z
      · exact .inl ⟨z.1, x, i.2.1, z.2, hg⟩
      · exact .inr (.inr (.inl ⟨z.1, x, i.2.1, z.2, hg⟩))
      · refine .inr (.inl ⟨?_, x, i.2.1, z.2.2, hg⟩)
        rcases c with c | c | c
        · exact absurd c z.1
        · exact c
        · exact absurd c z.2.1
    · rw [ogW_no c, Option.bind_some] at h
      unfold ogG1 at h
      split at h
      · rename_i r
        obtain ⟨b, h1, h⟩ := ogB h; obtain ⟨e, h2, h⟩ := ogB h
        have e2 := ogT_lt h2
        exact .inr (.inr (.inr (.inr ⟨r, e, by rw [show e - 1 = b by omega]; exact e2.2, ⟨b, h1, e2.2, e2.1⟩, d, .inr h⟩)))
      · cases h
  · by_cases c : k p = 10
    · have hT : ∀ p, (fun p => k p = 10) p → p < T := fun p e => lt p 10 e (by decide)
      obtain ⟨w, h1, h2⟩ := ogB h
      rw [ogW_st hT (fun p q _ e => ogR_inc _ _ e) c] at h1
      obtain ⟨x, h3, h4⟩ := ogB h1
      have i := ogR_i h3
      obtain ⟨b, a1, b1, g1, g2, g3, g4, g5, g6, g7⟩ := id i
      refine .inr (.inr (.inr (.inl ⟨c, x, by rw [show x - 1 = b1 by omega]; exact g6, i, d, .inr ?_⟩)))
      unfold ogG2; rw [h4]; exact h2
    · exfalso
      unfold ogG2 at h; rw [ogW_no (st := fun p => k p = 10) c, Option.bind_some] at h
      rw [if_neg hp] at h; cases h
theorem ogG_end {T : Int} {k : Int → Int} {d : Int} (h : ogG T k = some d) : k d = 0 := by
  obtain ⟨a, h1, h⟩ := ogB h
  unfold ogG1 at h
  split at h
  · obtain ⟨b, h2, h⟩ := ogB h; obtain ⟨c, h3, h⟩ := ogB h
    unfold ogG2 at h
    obtain ⟨e, h4, h⟩ := ogB h
    split at h
    · rename_i r; cases h; exact r
    · cases h
  · cases h
/-- a text that is a model -/
def tOK (b : Int → Int) (n : Int) : Prop := n ≤ 2000 ∧ ∃ T, TQ b n T ∧ (∃ d, ogG T (kq b n T) = some d) ∧ ∃ M, eMw T (kq b n T) (vq b n T) M00 0 = some M
theorem tOK_n {b : Int → Int} {n T : Int} (h : TQ b n T) (g : ogG T (kq b n T) = none) : ¬ tOK b n := fun ⟨_, T', h', ⟨d, hd⟩, _⟩ => by
  rw [h'.one h, g] at hd; cases hd
theorem tOK_m {b : Int → Int} {n T : Int} (h : TQ b n T) (g : eMw T (kq b n T) (vq b n T) M00 0 = none) : ¬ tOK b n := fun ⟨_, T', h', _, M, hM⟩ => by
  rw [h'.one h, g] at hM; cases hM
theorem MRc.zero {S : sS} {G : sG} {o : Nat} (c9 : S.1 11 9 = 0) (c0 : S.1 11 10 = 0) (c1 : S.1 11 11 = 0) (c2 : S.1 o 2 = 0) (c3 : S.1 o 3 = 0) (c4 : S.1 11 12 = 0) (r : S.2.2.2 11 8 = .ref (G.2.2.1 + o)) : MRc M00 S G o :=
  ⟨⟨⟨c9.symm, Int.le_refl _, by decide⟩, fun s a b => absurd b (by show ¬ s < (0 : Int); omega), fun s a b => absurd b (by show ¬ s < (0 : Int); omega)⟩, ⟨fun s t a b => absurd b (by show ¬ s < (0 : Int); omega), fun s a b => absurd b (by show ¬ s < (0 : Int); omega)⟩, ⟨c0, by decide, by decide⟩, ⟨c1, by decide, by decide⟩, ⟨c2, by decide, by decide⟩, ⟨c3, by decide, by decide⟩, ⟨c4, by decide, by decide⟩, by decide, fun s a b => absurd b (by show ¬ s < (0 : Int); omega), r⟩
theorem eSt_6 {T : Int} {k v : Int → Int} {M : sM} {p : Int} (c : k p = 6) : eSt T k v M p = eDs v M p := by unfold eSt; rw [if_pos c]
theorem eSt_7 {T : Int} {k v : Int → Int} {M : sM} {p : Int} (c : k p = 7) : eSt T k v M p = eDp T k v M p := by unfold eSt; rw [if_neg (by omega), if_pos c]
theorem eSt_8 {T : Int} {k v : Int → Int} {M : sM} {p : Int} (c : k p = 8) : eSt T k v M p = eDv k v M p := by unfold eSt; rw [if_neg (by omega), if_neg (by omega), if_pos c]
theorem eSt_10 {T : Int} {k v : Int → Int} {M : sM} {p : Int} (c : k p = 10) : eSt T k v M p = eDr T k v M p := by unfold eSt; rw [if_neg (by omega), if_neg (by omega), if_neg (by omega), if_pos c]
theorem eSt_g {T : Int} {k v : Int → Int} {M : sM} {p : Int} (c : k p ≠ 6 ∧ k p ≠ 7 ∧ k p ≠ 8 ∧ k p ≠ 10) : eSt T k v M p = eDg T k v M p := by unfold eSt; rw [if_neg (by omega), if_neg (by omega), if_neg (by omega), if_neg (by omega)]
theorem e_X8_isProgram (l : Launch) (G : sG) (S : sS) (hI : cX G S 0 0 0) (hZ : OZ S) : Met l yX8_isProgram (.code yX8_isProgram cX8_isProgram 2 (some .boolean) :: tb) (rmk 98 0 0) (sPc G 294 S [.ref (G.2.2.1 + 12)]) (sQi G 294 (fun r u => cX G u 0 0 0 ∧ Fr S u pQ ∧ ((0 ≤ r ∧ r ≤ 1) ∧ (u.1 12 3 = S.1 12 3 ∧ u.2 = S.2) ∧ Hd (r = 1 → ∃ d, ogG (S.1 12 3) (kd S) = some d ∧ d ≤ S.1 12 3 - 1 ∧ 0 ≤ d) ∧ Hd (r = 0 → ogG (S.1 12 3) (kd S) = none)))) 0 0 (sF G) := by
  have h := o_X8_isProgram l G S (a := S.1 12 4) hI.syn.1 hI.syn.2 hZ
  rw [uF_self] at h
  refine sMi h (fun r u hu => ?_)
  obtain ⟨a2, e, a0, a1, hr, h1, h2⟩ := hu
  have hT := hI.syn.2.1
  subst e
  exact ⟨hI.F rfl rfl (show -2147483648 ≤ a2 ∧ a2 ≤ 2147483647 from ⟨by omega, by omega⟩), (Fr.rf : Fr S S pQ).F rfl, hr, ⟨uF_i (by decide), rfl⟩, fun q => ⟨a2, h1 q, a1, a0⟩, h2⟩
