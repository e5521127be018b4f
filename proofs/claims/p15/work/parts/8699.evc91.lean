/-! All declarations, one behind the other -/
section EM
variable {T : Int} {k v : Int → Int}
theorem eRo_inc {N : sN} {m lk p : Int} {y : Int × Int × Int} (h : eRo T k v N m lk p = some y) : p < y.2.2 := by
  obtain ⟨a, h1, h⟩ := eB h; obtain ⟨b, h2, h⟩ := eB h
  have q1 := eU_inc (eF_inc 30 N) _ _ _ h1; have q2 := eU_inc (eF_inc 30 N) _ _ _ h2
  by_cases c : grt (vad a.2.1 b.2.1 (-1)) ∨ 16 < m + (if k a.1 = 13 then 2 else 1)
  · rw [if_pos c] at h; cases h
  · rw [if_neg c] at h; cases h; show p < b.1 + 1; omega
theorem eRn_inc {N : sN} {x p p0 : Int} (hp : p0 < p) : ∀ (c : Nat) (val m lk pos : Int) (y : Int × Int × Int), p0 < pos → eRn T k v N x p c val m lk pos = some y → p0 < y.2.2 := by
  intro c
  induction c with
  | zero => intro val m lk pos y h0 h; cases h; exact h0
  | succ c ih =>
    intro val m lk pos y h0 h
    have h : (eRo T k v (push N x val) m lk p).bind (fun y => eRn T k v N x p c (val + 1) y.1 y.2.1 y.2.2) = some y := h
    obtain ⟨a, h1, h⟩ := eB h
    have q := eRo_inc h1
    exact ih _ _ _ _ _ (by omega) h
theorem eSt_inc {M : sM} {p : Int} {y : sM × Int} (h0 : 0 ≤ M.1.1) (h : eSt T k v M p = some y) : p < y.2 := by
  unfold eSt at h
  by_cases c1 : k p = 6
  · rw [if_pos c1] at h; unfold eDs at h
    split at h
    · cases h; show p < p + 7; omega
    · cases h
  rw [if_neg c1] at h
  by_cases c2 : k p = 7
  · rw [if_pos c2] at h; unfold eDp at h
    split at h
    · obtain ⟨x, h1, h⟩ := eB h; obtain ⟨b, h2, h⟩ := eB h
      have q1 := (eIx_i h0 h1).2.2.2; have q2 := ogVs_inc _ _ h2
      split at h
      · cases h; show p < b + 1; omega
      · cases h
    · cases h
  rw [if_neg c2] at h
  by_cases c3 : k p = 8
  · rw [if_pos c3] at h; unfold eDv at h
    split at h
    · obtain ⟨x, h1, h⟩ := eB h
      have q1 := (eIx_i h0 h1).2.2.2
      split at h
      · cases h; show p < x.2.2 + (if k x.2.2 = 9 then 2 else 1); split <;> omega
      · cases h
    · cases h
  rw [if_neg c3] at h
  by_cases c4 : k p = 10
  · rw [if_pos c4] at h; unfold eDr at h
    split at h
    · obtain ⟨x, h1, h⟩ := eB h
      have q1 : p < x.2.2 := by
        split at h1
        · split at h1
          · exact eRn_inc (by omega) _ _ _ _ _ _ (by omega) h1
          · cases h1
        · have := eRo_inc h1; omega
      cases h; exact q1
    · cases h
  rw [if_neg c4] at h
  unfold eDg at h
  obtain ⟨x, h1, h⟩ := eB h
  have q1 := eU_inc (eF_inc 30 M.1) _ _ _ h1
  cases h; show p < x.1 + 1; omega
theorem addN_nn {N : sN} {x : Int} {f w : Int → Int} (h : 0 ≤ N.1) : 0 ≤ (addN N x f w).1 := by show 0 ≤ N.1 + 1; omega
theorem eSt_nn {M : sM} {p : Int} {y : sM × Int} (h0 : 0 ≤ M.1.1) (h : eSt T k v M p = some y) : 0 ≤ y.1.1.1 := by
  unfold eSt at h
  by_cases c1 : k p = 6
  · rw [if_pos c1] at h; unfold eDs at h
    split at h
    · cases h; exact addN_nn h0
    · cases h
  rw [if_neg c1] at h
  by_cases c2 : k p = 7
  · rw [if_pos c2] at h; unfold eDp at h
    split at h
    · obtain ⟨x, h1, h⟩ := eB h; obtain ⟨b, h2, h⟩ := eB h
      split at h
      · cases h; exact addN_nn h0
      · cases h
    · cases h
  rw [if_neg c2] at h
  by_cases c3 : k p = 8
  · rw [if_pos c3] at h; unfold eDv at h
    split at h
    · obtain ⟨x, h1, h⟩ := eB h
      split at h
      · cases h; exact addN_nn h0
      · cases h
    · cases h
  rw [if_neg c3] at h
  by_cases c4 : k p = 10
  · rw [if_pos c4] at h; unfold eDr at h
    split at h
    · obtain ⟨x, h1, h⟩ := eB h
      cases h; exact addN_nn h0
    · cases h
  rw [if_neg c4] at h
  unfold eDg at h
  obtain ⟨x, h1, h⟩ := eB h
  cases h; exact h0
theorem eMn_s {c : Nat} {M : sM} {p : Int} : eMn T k v (c + 1) M p = if k p = 0 then some M else (eSt T k v M p).bind (fun y => eMn T k v c y.1 y.2) := rfl
theorem eMn_mono (hz : ∀ t, T ≤ t → k t = 0) : ∀ (n m : Nat) (M : sM) (p : Int), 0 ≤ M.1.1 → (T - p).toNat + 1 ≤ n → (T - p).toNat + 1 ≤ m → eMn T k v n M p = eMn T k v m M p := by
  intro n
  induction n with
  | zero => intro m M p _ h _; omega
  | succ n ih =>
    intro m M p h0 h h'
    cases m with
    | zero => omega
    | succ m =>
      rw [eMn_s, eMn_s]
      by_cases c : k p = 0
      · rw [if_pos c, if_pos c]
      · rw [if_neg c, if_neg c]
        cases e : eSt T k v M p with
        | none => rfl
        | some y =>
          rw [Option.bind_some, Option.bind_some]
          have h1 : p < T := by
            by_cases q : p < T
            · exact q
            · exact absurd (hz p (by omega)) c
          have h2 := eSt_inc h0 e
          exact ih m y.1 y.2 (eSt_nn h0 e) (by omega) (by omega)
theorem eMw_z {M : sM} {p : Int} (c : k p = 0) : eMw T k v M p = some M := by unfold eMw; rw [eMn_s, if_pos c]
theorem eMw_n {M : sM} {p : Int} (c : k p ≠ 0) (e : eSt T k v M p = none) : eMw T k v M p = none := by unfold eMw; rw [eMn_s, if_neg c, e]; rfl
theorem eMw_s {M : sM} {p : Int} {y : sM × Int} (hz : ∀ t, T ≤ t → k t = 0) (h0 : 0 ≤ M.1.1) (c : k p ≠ 0) (e : eSt T k v M p = some y) : eMw T k v M p = eMw T k v y.1 y.2 := by
  have h1 : p < T := by
    by_cases q : p < T
    · exact q
    · exact absurd (hz p (by omega)) c
  have h2 := eSt_inc h0 e
  show eMn T k v ((T - p).toNat + 1) M p = eMn T k v ((T - y.2).toNat + 1) y.1 y.2
  rw [eMn_s, if_neg c, e, Option.bind_some]
  exact eMn_mono hz _ _ y.1 y.2 (eSt_nn h0 e) (by omega) (Nat.le_refl _)
end EM
/-! the tokens of the class: kinds and values by the bytes -/
theorem dvn_b {B : Int → Int} {p : Int} : ∀ w : Nat, (∀ i : Nat, i < w → 48 ≤ B (p + i) ∧ B (p + i) ≤ 57) → 0 ≤ dvn B p w ∧ dvn B p w ≤ 10 ^ w - 1 := by
  intro w
  induction w with
  | zero => intro _; exact ⟨Int.le_refl _, by show (0 : Int) ≤ 10 ^ 0 - 1; decide⟩
  | succ w ih =>
    intro h
    have a := ih (fun i hi => h i (by omega)); have b := h w (by omega)
    show 0 ≤ 10 * dvn B p w + B (p + w) - 48 ∧ 10 * dvn B p w + B (p + w) - 48 ≤ 10 ^ (w + 1) - 1
    rw [Int.pow_succ]; omega
theorem kOf_3 {b : Int → Int} {n p : Int} (hp : 0 ≤ p) (hn : p ≤ n) (h : kOf b n p = 3) : 0 ≤ vOf b n p ∧ vOf b n p ≤ 99999 := by
  unfold kOf at h; unfold vOf
  by_cases c1 : isLt (cb b n p)
  · rw [if_pos c1] at h
    split at h
    · unfold wdk at h; exfalso; revert h; repeat' split
      all_goals (intro h; exact absurd h (by decide))
    · exact absurd h (by decide)
  · rw [if_neg c1] at h ⊢
    by_cases c2 : isDg (cb b n p)
    · rw [if_pos c2] at h ⊢
      by_cases c3 : en n (stD b n) p - p ≤ 5 ∧ ¬ isLt (cb b n (en n (stD b n) p))
      · have r := en_r (n := n) (st := stD b n) p hn
        have q := dvn_b (B := b) (p := p) (en n (stD b n) p - p).toNat (fun i hi => by
          have s := r.2.2 (p + i) (by omega) (by omega)
          have e : cb b n (p + i) = b (p + i) := cb_in (by omega) (by omega)
          have s : isDg (cb b n (p + i)) := s
          rw [e] at s; exact s)
        refine ⟨q.1, ?_⟩
        have w5 : (en n (stD b n) p - p).toNat ≤ 5 := by have := c3.1; omega
        have pw : (10 : Int) ^ (en n (stD b n) p - p).toNat ≤ 100000 := by
          have : (en n (stD b n) p - p).toNat = 0 ∨ (en n (stD b n) p - p).toNat = 1 ∨ (en n (stD b n) p - p).toNat = 2 ∨ (en n (stD b n) p - p).toNat = 3 ∨ (en n (stD b n) p - p).toNat = 4 ∨ (en n (stD b n) p - p).toNat = 5 := by omega
          rcases this with e | e | e | e | e | e <;> rw [e] <;> decide
        omega
      · rw [if_neg c3] at h; exact absurd h (by decide)
    · rw [if_neg c2] at h
      split at h
      · unfold sg2 at h; exfalso; revert h; repeat' split
        all_goals (intro h; exact absurd h (by decide))
      · unfold sg1 at h; exfalso; revert h; repeat' split
        all_goals (intro h; exact absurd h (by decide))
theorem TVn_q {b : Int → Int} {n T : Int} (hn : 0 ≤ n) (h : TQ b n T) : TVn (kq b n T) (vq b n T) := fun p hp => by
  unfold kq at hp; unfold vq
  by_cases c : 0 ≤ p ∧ p < T
  · rw [if_pos c] at hp ⊢
    have r := h.ps hn p.toNat (by omega)
    unfold kS at hp
    split at hp
    · exact kOf_3 r.1 r.2 hp
    · exact absurd hp (by decide)
  · rw [if_neg c]; decide
theorem TKS.kv {B b : Int → Int} {n : Int} {S : sS} (h : TKS B n (S.1 12 3) (S.2.1 13) (S.2.2.1 15) (S.2.1 14)) (hn : 0 ≤ n) (g : agr B b n) (he : S.2.1 13 (S.1 12 3 - 1) = 0) (hl : S.2.2.1 15 (S.1 12 3 - 1) = 0) : KV S (kq b n (S.1 12 3)) (vq b n (S.1 12 3)) (S.1 12 3) := by
  have q := h.q hn g
  have t1 := q.1.1
  refine ⟨funext fun j => ?_, funext fun j => ?_, rfl⟩
  · unfold kd
    by_cases c : 0 ≤ j ∧ j < S.1 12 3
    · rw [if_pos c]; exact (q.2 j c.1 c.2).1
    · rw [if_neg c]; unfold kq; rw [if_neg c]
  · unfold vd
    by_cases c : 0 ≤ j ∧ j < S.1 12 3
    · rw [if_pos c]
      by_cases d : j = S.1 12 3 - 1
      · have e : kq b n (S.1 12 3) j = 0 := by rw [← (q.2 j c.1 c.2).1, d]; exact he
        unfold kq at e; unfold vq
        rw [if_pos c] at e ⊢
        have r := q.1.ps hn j.toNat (by omega)
        have hp : ¬ psn b n j.toNat < n := fun z => by
          unfold kS at e; rw [if_pos z] at e
          have := kOf_r (B := b) (n := n) (p := psn b n j.toNat); omega
        have ec : cb b n (psn b n j.toNat) = 0 := if_neg (by omega)
        rw [show S.2.2.1 15 j = 0 by rw [d]; exact hl]; unfold vOf; rw [ec, if_neg (by decide), if_neg (by decide)]
      · have k2 : 2 ≤ kq b n (S.1 12 3) j := by
          unfold kq; rw [if_pos c]; exact q.1.2.1 j.toNat (by omega)
        exact (q.2 j c.1 c.2).2 k2
    · rw [if_neg c]; unfold vq; rw [if_neg c]
/-- what may still come: declarations, or rows -/
def GP (T : Int) (k : Int → Int) (p : Int) : Prop := ∃ d, (ogW T (fun p => k p = 6 ∨ k p = 7 ∨ k p = 8) (ogD T k) p).bind (ogG1 T k) = some d ∨ ogG2 T k p = some d
def gSt (k : Int → Int) (p q : Int) : Prop := k (p + 3) = 3 ∧ k (p + 5) = 3 ∧ q = p + 7
def gPa (T : Int) (k : Int → Int) (p q : Int) : Prop := ∃ qi b, ogI k (p + 2) = some qi ∧ k qi = 13 ∧ ogVs T k (qi + 1) = some b ∧ k b = 15 ∧ q = b + 1
def gVa (k : Int → Int) (p q : Int) : Prop := ∃ qi, ogI k (p + 2) = some qi ∧ ((k qi = 9 ∧ q = qi + 2) ∨ (k qi ≠ 9 ∧ q = qi + 1))
def gGo (T : Int) (k : Int → Int) (p q : Int) : Prop := ∃ q1, ogU T k (ogF T k 30) (p + 1) = some q1 ∧ k q1 = 15 ∧ q = q1 + 1
def gRoc (T : Int) (k : Int → Int) (p q : Int) : Prop := ∃ b a1 b1, ((k (p + 2) ≠ 17 ∧ b = p + 2) ∨ (k (p + 2) = 17 ∧ b = p + 7)) ∧ k b = 24 ∧ ogU T k (ogF T k 30) (b + 1) = some a1 ∧ (k a1 = 25 ∨ k a1 = 26 ∨ k a1 = 13) ∧ ogU T k (ogF T k 30) (a1 + 1) = some b1 ∧ k b1 = 15 ∧ q = b1 + 1
theorem ogD_i {T : Int} {k : Int → Int} {p q : Int} (h : ogD T k p = some q) : k (p + 1) = 2 ∧ k (q - 1) = 15 ∧ ((k p = 6 ∧ gSt k p q) ∨ (k p = 8 ∧ gVa k p q) ∨ (k p ≠ 6 ∧ k p ≠ 8 ∧ gPa T k p q)) := by
  obtain ⟨a, h1, h⟩ := ogB h
  have e1 := ogT_lt h1
  have ea : a = p + 2 := by omega
  rw [ea] at h
  refine ⟨e1.2, ?_⟩
  by_cases c : k p = 6
  · rw [if_pos c] at h
    obtain ⟨b, h2, h⟩ := ogB h; obtain ⟨d, h3, h⟩ := ogB h; obtain ⟨e, h4, h⟩ := ogB h; obtain ⟨f, h5, h⟩ := ogB h
    have e2 := ogT_lt h2; have e3 := ogT_lt h3; have e4 := ogT_lt h4; have e5 := ogT_lt h5; have e6 := ogT_lt h
    have x3 : b = p + 3 := by omega
    have x5 : e = p + 5 := by omega
    rw [x3] at e3; rw [x5] at e5
    exact ⟨by rw [show q - 1 = f by omega]; exact e6.2, .inl ⟨c, e3.2, e5.2, by omega⟩⟩
  · rw [if_neg c] at h
    obtain ⟨b, h2, h⟩ := ogB h
    by_cases c2 : k p = 8
    · rw [if_pos c2] at h
      by_cases c3 : k b = 9
      · rw [if_pos c3] at h; have e := ogT_lt h; exact ⟨by rw [show q - 1 = b + 1 by omega]; exact e.2, .inr (.inl ⟨c2, b, h2, .inl ⟨c3, by omega⟩⟩)⟩
      · rw [if_neg c3] at h; have e := ogT_lt h; exact ⟨by rw [show q - 1 = b by omega]; exact e.2, .inr (.inl ⟨c2, b, h2, .inr ⟨c3, by omega⟩⟩)⟩
    · rw [if_neg c2] at h
      obtain ⟨d, h3, h⟩ := ogB h; obtain ⟨e, h4, h⟩ := ogB h
      have e3 := ogT_lt h3; have e5 := ogT_lt h
      rw [e3.1] at h4
      exact ⟨by rw [show q - 1 = e by omega]; exact e5.2, .inr (.inr ⟨c, c2, b, e, h2, e3.2, h4, e5.2, e5.1⟩)⟩
theorem ogR_i {T : Int} {k : Int → Int} {p q : Int} (h : ogR T k p = some q) : gRoc T k p q := by
  obtain ⟨a, h1, h⟩ := ogB h
  have e1 := ogT_lt h1
  have ea : a = p + 2 := by omega
  rw [ea] at h
  obtain ⟨b, h2, h⟩ := ogB h
  have hb : (k (p + 2) ≠ 17 ∧ b = p + 2) ∨ (k (p + 2) = 17 ∧ b = p + 7) := by
    unfold ogRi at h2
    by_cases c : k (p + 2) = 17
    · rw [if_pos c] at h2
      obtain ⟨x, g1, h2⟩ := ogB h2; obtain ⟨y, g2, h2⟩ := ogB h2; obtain ⟨z, g3, h2⟩ := ogB h2
      have f1 := ogT_lt g1; have f2 := ogT_lt g2; have f3 := ogT_lt g3; have f4 := ogT_lt h2
      exact .inr ⟨c, by omega⟩
    · rw [if_neg c] at h2; cases h2; exact .inl ⟨c, rfl⟩
  obtain ⟨c, h3, h⟩ := ogB h
  have e3 := ogT_lt h3
  obtain ⟨d, h4, h⟩ := ogB h
  rw [e3.1] at h4
  unfold ogR2 at h
  split at h
  · rename_i r
    obtain ⟨e, h5, h⟩ := ogB h
    have e5 := ogT_lt h
    exact ⟨b, d, e, hb, e3.2, h4, r, h5, e5.2, e5.1⟩
  · cases h
theorem GP_i {T : Int} {k : Int → Int} {p : Int} (hz : ∀ t, T ≤ t → k t = 0) (h : GP T k p) (hp : k p ≠ 0) : (k p = 6 ∧ ∃ q, k (q - 1) = 15 ∧ gSt k p q ∧ GP T k q) ∨ (k p = 7 ∧ ∃ q, k (q - 1) = 15 ∧ gPa T k p q ∧ GP T k q) ∨ (k p = 8 ∧ ∃ q, k (q - 1) = 15 ∧ gVa k p q ∧ GP T k q) ∨ (k p = 10 ∧ ∃ q, k (q - 1) = 15 ∧ gRoc T k p q ∧ GP T k q) ∨ ((k p = 4 ∨ k p = 5) ∧ ∃ q, k (q - 1) = 15 ∧ gGo T k p q ∧ GP T k q) := by
  have lt : ∀ t c, k t = c → c ≠ 0 → t < T := fun t c e hc => by
    by_cases q : t < T
    · exact q
    · exact absurd (e.symm.trans (hz t (by omega))) hc
  obtain ⟨d, h | h⟩ := h
  · by_cases c : k p = 6 ∨ k p = 7 ∨ k p = 8
    · have hT : ∀ p, (fun p => k p = 6 ∨ k p = 7 ∨ k p = 8) p → p < T := fun p e => by
        rcases e with e | e | e
        · exact lt p 6 e (by decide)
        · exact lt p 7 e (by decide)
        · exact lt p 8 e (by decide)
      rw [ogW_st hT (fun p q _ e => ogD_inc _ _ e) c] at h
      obtain ⟨w, h1, h2⟩ := ogB h
      obtain ⟨x, h3, h4⟩ := ogB h1
      have i := ogD_i h3
      have hg : GP T k x := ⟨d, .inl (by rw [h4]; exact h2)⟩
      rcases i.2.2 with z | z | z
      · exact .inl ⟨z.1, x, i.2.1, z.2, hg⟩
      · exact .inr (.inr (.inl ⟨z.1, x, i.2.1, z.2, hg⟩))
      · refine .inr (.inl ⟨?_, x, i.2.1, z.2.2, hg⟩)
        rcases c with c | c | c
        · exact absurd c z.1
        · exact c
        · exact absurd c z.2.1
    · rw [ogW_no c, Option.bind_some] at h
      unfold ogG1 at h
      split at h
      · rename_i r
        obtain ⟨b, h1, h⟩ := ogB h; obtain ⟨e, h2, h⟩ := ogB h
        have e2 := ogT_lt h2
        exact .inr (.inr (.inr (.inr ⟨r, e, by rw [show e - 1 = b by omega]; exact e2.2, ⟨b, h1, e2.2, e2.1⟩, d, .inr h⟩)))
      · cases h
  · by_cases c : k p = 10
    · have hT : ∀ p, (fun p => k p = 10) p → p < T := fun p e => lt p 10 e (by decide)
      obtain ⟨w, h1, h2⟩ := ogB h
      rw [ogW_st hT (fun p q _ e => ogR_inc _ _ e) c] at h1
      obtain ⟨x, h3, h4⟩ := ogB h1
      have i := ogR_i h3
      obtain ⟨b, a1, b1, g1, g2, g3, g4, g5, g6, g7⟩ := id i
      refine .inr (.inr (.inr (.inl ⟨c, x, by rw [show x - 1 = b1 by omega]; exact g6, i, d, .inr ?_⟩)))
      unfold ogG2; rw [h4]; exact h2
    · exfalso
      unfold ogG2 at h; rw [ogW_no (st := fun p => k p = 10) c, Option.bind_some] at h
      rw [if_neg hp] at h; cases h
theorem ogG_end {T : Int} {k : Int → Int} {d : Int} (h : ogG T k = some d) : k d = 0 := by
  obtain ⟨a, h1, h⟩ := ogB h
  unfold ogG1 at h
  split at h
  · obtain ⟨b, h2, h⟩ := ogB h; obtain ⟨c, h3, h⟩ := ogB h
    unfold ogG2 at h
    obtain ⟨e, h4, h⟩ := ogB h
    split at h
    · rename_i r; cases h; exact r
    · cases h
  · cases h
/-- a text that is a model -/
def tOK (b : Int → Int) (n : Int) : Prop := n ≤ 2000 ∧ ∃ T, TQ b n T ∧ (∃ d, ogG T (kq b n T) = some d) ∧ ∃ M, eMw T (kq b n T) (vq b n T) M00 0 = some M
theorem tOK_n {b : Int → Int} {n T : Int} (h : TQ b n T) (g : ogG T (kq b n T) = none) : ¬ tOK b n := fun ⟨_, T', h', ⟨d, hd⟩, _⟩ => by
  rw [h'.one h, g] at hd; cases hd
theorem tOK_m {b : Int → Int} {n T : Int} (h : TQ b n T) (g : eMw T (kq b n T) (vq b n T) M00 0 = none) : ¬ tOK b n := fun ⟨_, T', h', _, M, hM⟩ => by
  rw [h'.one h, g] at hM; cases hM
theorem MRc.zero {S : sS} {G : sG} {o : Nat} (c9 : S.1 11 9 = 0) (c0 : S.1 11 10 = 0) (c1 : S.1 11 11 = 0) (c2 : S.1 o 2 = 0) (c3 : S.1 o 3 = 0) (c4 : S.1 11 12 = 0) (r : S.2.2.2 11 8 = .ref (G.2.2.1 + o)) : MRc M00 S G o :=
  ⟨⟨⟨c9.symm, Int.le_refl _, by decide⟩, fun s a b => absurd b (by show ¬ s < (0 : Int); omega), fun s a b => absurd b (by show ¬ s < (0 : Int); omega)⟩, ⟨fun s t a b => absurd b (by show ¬ s < (0 : Int); omega), fun s a b => absurd b (by show ¬ s < (0 : Int); omega)⟩, ⟨c0, by decide, by decide⟩, ⟨c1, by decide, by decide⟩, ⟨c2, by decide, by decide⟩, ⟨c3, by decide, by decide⟩, ⟨c4, by decide, by decide⟩, by decide, fun s a b => absurd b (by show ¬ s < (0 : Int); omega), r⟩
theorem eSt_6 {T : Int} {k v : Int → Int} {M : sM} {p : Int} (c : k p = 6) : eSt T k v M p = eDs v M p := by unfold eSt; rw [if_pos c]
theorem eSt_7 {T : Int} {k v : Int → Int} {M : sM} {p : Int} (c : k p = 7) : eSt T k v M p = eDp T k v M p := by unfold eSt; rw [if_neg (by omega), if_pos c]
theorem eSt_8 {T : Int} {k v : Int → Int} {M : sM} {p : Int} (c : k p = 8) : eSt T k v M p = eDv k v M p := by unfold eSt; rw [if_neg (by omega), if_neg (by omega), if_pos c]
theorem eSt_10 {T : Int} {k v : Int → Int} {M : sM} {p : Int} (c : k p = 10) : eSt T k v M p = eDr T k v M p := by unfold eSt; rw [if_neg (by omega), if_neg (by omega), if_neg (by omega), if_pos c]
theorem eSt_g {T : Int} {k v : Int → Int} {M : sM} {p : Int} (c : k p ≠ 6 ∧ k p ≠ 7 ∧ k p ≠ 8 ∧ k p ≠ 10) : eSt T k v M p = eDg T k v M p := by unfold eSt; rw [if_neg (by omega), if_neg (by omega), if_neg (by omega), if_neg (by omega)]
theorem e_X8_isProgram (l : Launch) (G : sG) (S : sS) (hI : cX G S 0 0 0) (hZ : OZ S) : Met l yX8_isProgram (.code yX8_isProgram cX8_isProgram 2 (some .boolean) :: tb) (rmk 98 0 0) (sPc G 294 S [.ref (G.2.2.1 + 12)]) (sQi G 294 (fun r u => cX G u 0 0 0 ∧ Fr S u pQ ∧ ((0 ≤ r ∧ r ≤ 1) ∧ (u.1 12 3 = S.1 12 3 ∧ u.2 = S.2) ∧ Hd (r = 1 → ∃ d, ogG (S.1 12 3) (kd S) = some d ∧ d ≤ S.1 12 3 - 1 ∧ 0 ≤ d) ∧ Hd (r = 0 → ogG (S.1 12 3) (kd S) = none)))) 0 0 (sF G) := by
  have h := o_X8_isProgram l G S (a := S.1 12 4) hI.syn.1 hI.syn.2 hZ
  rw [uF_self] at h
  refine sMi h (fun r u hu => ?_)
  obtain ⟨a2, e, a0, a1, hr, h1, h2⟩ := hu
  have hT := hI.syn.2.1
  subst e
  exact ⟨hI.F rfl rfl (show -2147483648 ≤ a2 ∧ a2 ≤ 2147483647 from ⟨by omega, by omega⟩), (Fr.rf : Fr S S pQ).F rfl, hr, ⟨uF_i (by decide), rfl⟩, fun q => ⟨a2, h1 q, a1, a0⟩, h2⟩

set_option maxRecDepth 100000 in
set_option maxHeartbeats 4000000 in
theorem e_X9_read (l : Launch) (G : sG) (S : sS) {t N o : Nat} {b : Int → Int} (hI : cX G S 0 0 0) (ht : txt t N) (hm : mdl o) (hag : Hd (agr (S.2.1 (t + 1)) b (S.1 t 1))) : Met l yX9_read (.code yX9_read cX9_read 5 (some .int) :: tb) (rmk 135 0 0) (sPc G 294 S [.ref (G.2.2.1 + 11), .ref (G.2.2.1 + t), .ref (G.2.2.1 + o)]) (sQi G 294 (fun r u => cX G u 0 0 0 ∧ Fr S u pI ∧ ((0 ≤ r ∧ r ≤ 7) ∧ Hd (r = 0 → tOK b (S.1 t 1)) ∧ Hd (tOK b (S.1 t 1) → r = 0)))) 0 0 (sF G) := by
  refine sEnter (by decide) (Nat.le_of_ble_eq_true rfl) ?_
  intro p e s m args below meth c Cx hr hlk hnm hW ls hl
  have Cx : sC G p m c cX9_read 5 s args RX9 := Cx
  obtain ⟨hx, hb, hml, hown, hts⟩ := id Cx.1
  have hL : sL G [] := sL_nil
  have hl : lv_has ls 5 [(0, .ref (G.2.2.1 + 11)), (1, .ref (G.2.2.1 + t)), (2, .ref (G.2.2.1 + o))] := hl
  have hW0 := hW
  have hN3 := ht.2.2.2.2.2
  refine lv_aload_n hx hb dX9_read_0 rfl (lv_at hl 0 rfl) ?_
  refine lv_iconst (v := iv 0) hx hb dX9_read_1 (by decide) ?_
  refine p_X9_54 Cx hW hL (k := 11) (by decide) rfl dX9_read_2 (fun H locs hW hL => ?_)
  have F_1 : Fr S (uF S 11 14 0) pI := (Fr.rf : Fr S S pI).F rfl
  have i_2 : cX G (uF S 11 14 0) 0 0 0 := hI.F rfl rfl (show 0 ≤ 0 ∧ 0 ≤ 7 from ⟨by omega, by omega⟩)
  refine lv_aload_n hx hb dX9_read_5 rfl (lv_at hl 0 rfl) ?_
  refine lv_iconst (v := iv (-1)) hx hb dX9_read_6 (by decide) ?_
  refine p_X9_50 Cx hW hL (k := 11) (by decide) rfl dX9_read_7 (fun H locs hW hL => ?_)
  have F_3 : Fr S (uF (uF S 11 14 0) 11 16 ((-1))) pI := F_1.F rfl
  have i_4 : cX G (uF (uF S 11 14 0) 11 16 ((-1))) 0 0 0 := i_2.F rfl rfl (show (-2147483648) ≤ (-1) ∧ (-1) ≤ 2147483647 from ⟨by omega, by omega⟩)
  refine lv_aload_n hx hb dX9_read_10 rfl (lv_at hl 1 rfl) ?_
  have q_5 : 0 ≤ S.1 t 1 ∧ S.1 t 1 ≤ (N : Int) := txt_len ht hI
  have lk_6 : (uF (uF S 11 14 0) 11 16 ((-1))).1 t 1 = S.1 t 1 := (uF_ne (fun h => absurd h.2 (by decide))).trans (uF_ne (fun h => absurd h.2 (by decide)))
  refine sBi (sV (As := []) (rest := []) (k := t) Cx (s_X10_length l G (uF (uF S 11 14 0) 11 16 ((-1))) (o := t) (N := N) i_4 ht) (c_X9_57 Cx rfl rfl (rmk_ok (by omega) (by decide))) hW (Nat.lt_trans ht.1 (by decide)) ht.2.1 rfl rfl hl.1 rfl (Nat.le_of_ble_eq_true rfl) dX9_read_11 ⟨Nat.le_of_ble_eq_true rfl, Nat.le_of_ble_eq_true rfl⟩) hL (fun r_9 u_7 H locs k_8 hW hL => ?_)
  obtain ⟨eu_7, xu_7⟩ := k_8
  rw [eu_7] at hW
  refine lv_sipush (v := iv 2000) hx hb dX9_read_14 (by decide) ?_
  refine r_icmp_le (tgt := 37) hx hb ⟨(by omega), (by omega)⟩ ⟨(by omega), (by omega)⟩ dX9_read_17 (by decide) (fun c_10 => ?_) (fun c_10 => ?_)
  · refine lv_aload_n hx hb dX9_read_37 rfl (lv_at hl 0 rfl) ?_
    refine g_X9_14 Cx hW (k := 11) (by decide) rfl (v := .ref (G.2.2.1 + 12)) (rf_11_0 i_4) dX9_read_38 ?_
    refine lv_aload_n hx hb dX9_read_41 rfl (lv_at hl 1 rfl) ?_
    refine sBv (sV (As := [.ref (G.2.2.1 + t)]) (rest := []) (k := 12) Cx (x_X8_scan l G (uF (uF S 11 14 0) 11 16 ((-1))) (t := t) (N := N) i_4 ht (by omega)) (c_X9_63 Cx rfl rfl (rmk_ok (by omega) (by decide))) hW (by decide) rfl rfl rfl hl.1 rfl (Nat.le_of_ble_eq_true rfl) dX9_read_42 ⟨Nat.le_of_ble_eq_true rfl, Nat.le_of_ble_eq_true rfl⟩) hL (fun u_11 H locs k_12 hW hL => ?_)
    obtain ⟨iu_11, fu_11, xu_11⟩ := k_12
    have F_13 := F_3.trans (fu_11.to pQ_I)
    obtain ⟨tk1u_11, tk2u_11⟩ := xu_11
    have eb : (uF (uF S 11 14 0) 11 16 ((-1))).2.1 (t + 1) = S.2.1 (t + 1) := (funext fun j => (uF_a).trans (uF_a))
    have en_ : (uF (uF S 11 14 0) 11 16 ((-1))).1 t 1 = (S.1 t 1) := (uF_ne (fun h => absurd h.2 (by decide))).trans (uF_ne (fun h => absurd h.2 (by decide)))
    rw [eb, en_] at tk1u_11
    have n0 : 0 ≤ (S.1 t 1) := (by omega)
    have tq := tk1u_11.q n0 hag
    obtain ⟨T, hT⟩ : ∃ T, T = u_11.1 12 3 := ⟨_, rfl⟩
    rw [← hT] at tq
    have tq1 := tq.1; have tq2 := tq1.1
    have kde : Hd (kd u_11 = (kq b (S.1 t 1) T)) := (funext fun j => by unfold kd; rw [← hT]; by_cases c : 0 ≤ j ∧ j < T; (rw [if_pos c]; exact (tq.2 j c.1 c.2).1); (rw [if_neg c]; unfold kq; rw [if_neg c]))
    refine lv_aload_n hx hb dX9_read_45 rfl (lv_at hl 0 rfl) ?_
    refine g_X9_14 Cx hW (k := 11) (by decide) rfl (v := .ref (G.2.2.1 + 12)) (rf_11_0 iu_11) dX9_read_46 ?_
    have q_14 : 0 ≤ u_11.1 12 3 ∧ u_11.1 12 3 ≤ 2001 := iu_11.fi 12 3 8 (by decide) rfl
    refine sBi (sV (As := []) (rest := []) (k := 12) Cx (e_X8_isProgram l G u_11  iu_11 ⟨(by rw [← hT]; omega), (by rw [kde, ← hT]; unfold kq; rw [if_pos ⟨by omega, by omega⟩]; exact tq1.2.2)⟩) (c_X9_67 Cx rfl rfl (rmk_ok (by omega) (by decide))) hW (by decide) rfl rfl rfl hl.1 rfl (Nat.le_of_ble_eq_true rfl) dX9_read_49 ⟨Nat.le_of_ble_eq_true rfl, Nat.le_of_ble_eq_true rfl⟩) hL (fun r_17 u_15 H locs k_16 hW hL => ?_)
    obtain ⟨iu_15, fu_15, xu_15⟩ := k_16
    have F_18 := F_13.trans (fu_15.to pQ_I)
    refine r_if_ne (tgt := 76) hx hb ⟨(by omega), (by omega)⟩ dX9_read_52 (by decide) (fun c_19 => ?_) (fun c_19 => ?_)
    · obtain ⟨d, hg, hd1, hd0⟩ := xu_15.2.2.1 (by omega)
      rw [kde, ← hT] at hg
      have hge := ogG_end hg
      have hde : d = T - 1 := (by by_cases z : d < T - 1; (exfalso; have z2 := tq1.2.1 d.toNat (by omega); unfold kq at hge; rw [if_pos ⟨by omega, by omega⟩] at hge; omega); omega)
      have he : u_11.2.1 13 (u_11.1 12 3 - 1) = 0 := (by rw [← hT, (tq.2 (T - 1) (by omega) (by omega)).1, ← hde]; exact hge)
      have kv0 : KV u_11 (kq b (S.1 t 1) T) (vq b (S.1 t 1) T) T := (by have z := tk1u_11.kv n0 hag he (tk2u_11 he); rw [← hT] at z; exact z)
      have kv1 : Hd (KV u_15 (kq b (S.1 t 1) T) (vq b (S.1 t 1) T) T) := (by refine ⟨?_, ?_, xu_15.2.1.1.trans hT.symm⟩; (rw [← kv0.1]; funext j; unfold kd; rw [xu_15.2.1.1, xu_15.2.1.2]); (rw [← kv0.2.1]; funext j; unfold vd; rw [xu_15.2.1.1, xu_15.2.1.2]))
      have hTV : Hd (TVn (kq b (S.1 t 1) T) (vq b (S.1 t 1) T)) := TVn_q n0 tq1
      have hGP0 : Hd (GP T (kq b (S.1 t 1) T) 0) := ⟨d, .inl hg⟩
      have hTb : T ≤ 2001 := (by have z : 0 ≤ u_15.1 12 3 ∧ u_15.1 12 3 ≤ 2001 := iu_15.fi 12 3 8 (by decide) rfl; have z2 := xu_15.2.1.1; omega)
      refine lv_aload_n hx hb dX9_read_76 rfl (lv_at hl 0 rfl) ?_
      refine lv_aload_n hx hb dX9_read_77 rfl (lv_at hl 2 rfl) ?_
      refine p_X9_46 Cx hW hL (k := 11) (by decide) rfl dX9_read_78 (fun H locs hW hL => ?_)
      have F_20 : Fr S (uR u_15 11 8 (.ref (G.2.2.1 + o))) pI := F_18.R rfl
      have F_21 : Fr u_15 (uR u_15 11 8 (.ref (G.2.2.1 + o))) pG := (Fr.rf : Fr u_15 u_15 pG).R rfl
      have i_22 : cX G (uR u_15 11 8 (.ref (G.2.2.1 + o))) 0 0 0 := iu_15.mod11 hm
      refine lv_aload_n hx hb dX9_read_81 rfl (lv_at hl 0 rfl) ?_
      refine g_X9_46 Cx hW (k := 11) (by decide) rfl (v := .ref (G.2.2.1 + o)) uR_on dX9_read_82 ?_
      refine sBv (sV (As := []) (rest := []) (k := o) Cx (s_X3_clear l G (uR u_15 11 8 (.ref (G.2.2.1 + o))) (o := o) i_22 hm) (c_X9_74 Cx rfl rfl (rmk_ok (by omega) (by decide))) hW (mdl_l hm) hm.1 rfl rfl hl.1 rfl (Nat.le_of_ble_eq_true rfl) dX9_read_85 ⟨Nat.le_of_ble_eq_true rfl, Nat.le_of_ble_eq_true rfl⟩) hL (fun u_23 H locs k_24 hW hL => ?_)
      obtain ⟨iu_23, fu_23, xu_23⟩ := k_24
      have F_25 := F_20.trans (fu_23.to (pM_sub (pG_I _ (mdl_pG hm).1) (pG_I _ (mdl_pG hm).2.1) (pG_I _ (mdl_pG hm).2.2)))
      have F_26 := F_21.trans (fu_23.to (pM_sub (mdl_pG hm).1 (mdl_pG hm).2.1 (mdl_pG hm).2.2))
      refine lv_aload_n hx hb dX9_read_88 rfl (lv_at hl 0 rfl) ?_
      refine lv_iconst (v := iv 0) hx hb dX9_read_89 (by decide) ?_
      refine p_X9_77 Cx hW hL (k := 11) (by decide) rfl dX9_read_90 (fun H locs hW hL => ?_)
      have F_27 : Fr S (uF u_23 11 9 0) pI := F_25.F rfl
      have F_28 : Fr u_15 (uF u_23 11 9 0) pG := F_26.F rfl
      have i_29 : cX G (uF u_23 11 9 0) 0 0 0 := iu_23.F rfl rfl (show 0 ≤ 0 ∧ 0 ≤ 128 from ⟨by omega, by omega⟩)
      refine lv_aload_n hx hb dX9_read_93 rfl (lv_at hl 0 rfl) ?_
      refine lv_iconst (v := iv 0) hx hb dX9_read_94 (by decide) ?_
      refine p_X9_80 Cx hW hL (k := 11) (by decide) rfl dX9_read_95 (fun H locs hW hL => ?_)
      have F_30 : Fr S (uF (uF u_23 11 9 0) 11 10 0) pI := F_27.F rfl
      have F_31 : Fr u_15 (uF (uF u_23 11 9 0) 11 10 0) pG := F_28.F rfl
      have i_32 : cX G (uF (uF u_23 11 9 0) 11 10 0) 0 0 0 := i_29.F rfl rfl (show 0 ≤ 0 ∧ 0 ≤ 8 from ⟨by omega, by omega⟩)
      refine lv_aload_n hx hb dX9_read_98 rfl (lv_at hl 0 rfl) ?_
      refine lv_iconst (v := iv 0) hx hb dX9_read_99 (by decide) ?_
      refine p_X9_83 Cx hW hL (k := 11) (by decide) rfl dX9_read_100 (fun H locs hW hL => ?_)
      have F_33 : Fr S (uF (uF (uF u_23 11 9 0) 11 10 0) 11 11 0) pI := F_30.F rfl
      have F_34 : Fr u_15 (uF (uF (uF u_23 11 9 0) 11 10 0) 11 11 0) pG := F_31.F rfl
      have i_35 : cX G (uF (uF (uF u_23 11 9 0) 11 10 0) 11 11 0) 0 0 0 := i_32.F rfl rfl (show 0 ≤ 0 ∧ 0 ≤ 12 from ⟨by omega, by omega⟩)
      refine lv_aload_n hx hb dX9_read_103 rfl (lv_at hl 0 rfl) ?_
      refine lv_iconst (v := iv 0) hx hb dX9_read_104 (by decide) ?_
      refine p_X9_86 Cx hW hL (k := 11) (by decide) rfl dX9_read_105 (fun H locs hW hL => ?_)
      have F_36 : Fr S (uF (uF (uF (uF u_23 11 9 0) 11 10 0) 11 11 0) 11 12 0) pI := F_33.F rfl
      have F_37 : Fr u_15 (uF (uF (uF (uF u_23 11 9 0) 11 10 0) 11 11 0) 11 12 0) pG := F_34.F rfl
      have i_38 : cX G (uF (uF (uF (uF u_23 11 9 0) 11 10 0) 11 11 0) 11 12 0) 0 0 0 := i_35.F rfl rfl (show (-2147483648) ≤ 0 ∧ 0 ≤ 2147483647 from ⟨by omega, by omega⟩)
      refine lv_aload_n hx hb dX9_read_108 rfl (lv_at hl 0 rfl) ?_
      refine lv_iconst (v := iv 0) hx hb dX9_read_109 (by decide) ?_
      refine p_X9_89 Cx hW hL (k := 11) (by decide) rfl dX9_read_110 (fun H locs hW hL => ?_)
      have F_39 : Fr S (uF (uF (uF (uF (uF u_23 11 9 0) 11 10 0) 11 11 0) 11 12 0) 11 13 0) pI := F_36.F rfl
      have F_40 : Fr u_15 (uF (uF (uF (uF (uF u_23 11 9 0) 11 10 0) 11 11 0) 11 12 0) 11 13 0) pG := F_37.F rfl
      have i_41 : cX G (uF (uF (uF (uF (uF u_23 11 9 0) 11 10 0) 11 11 0) 11 12 0) 11 13 0) 0 0 0 := i_38.F rfl rfl (show (-2147483648) ≤ 0 ∧ 0 ≤ 2147483647 from ⟨by omega, by omega⟩)
      have lk_42 : (uF (uF (uF (uF (uF u_23 11 9 0) 11 10 0) 11 11 0) 11 12 0) 11 13 0).1 11 9 = 0 := (uF_ne (fun h => absurd h.2 (by decide))).trans ((uF_ne (fun h => absurd h.2 (by decide))).trans ((uF_ne (fun h => absurd h.2 (by decide))).trans ((uF_ne (fun h => absurd h.2 (by decide))).trans (uF_on))))
      have lk_43 : (uF (uF (uF (uF (uF u_23 11 9 0) 11 10 0) 11 11 0) 11 12 0) 11 13 0).1 11 10 = 0 := (uF_ne (fun h => absurd h.2 (by decide))).trans ((uF_ne (fun h => absurd h.2 (by decide))).trans ((uF_ne (fun h => absurd h.2 (by decide))).trans (uF_on)))
      have lk_44 : (uF (uF (uF (uF (uF u_23 11 9 0) 11 10 0) 11 11 0) 11 12 0) 11 13 0).1 11 11 = 0 := (uF_ne (fun h => absurd h.2 (by decide))).trans ((uF_ne (fun h => absurd h.2 (by decide))).trans (uF_on))
      have lk_45 : (uF (uF (uF (uF (uF u_23 11 9 0) 11 10 0) 11 11 0) 11 12 0) 11 13 0).1 11 12 = 0 := (uF_ne (fun h => absurd h.2 (by decide))).trans (uF_on)
      have lk_46 : (uF (uF (uF (uF (uF u_23 11 9 0) 11 10 0) 11 11 0) 11 12 0) 11 13 0).1 11 13 = 0 := uF_on
      have lk_47 : (uF (uF (uF (uF (uF u_23 11 9 0) 11 10 0) 11 11 0) 11 12 0) 11 13 0).1 11 14 = 0 := (uF_ne (fun h => absurd h.2 (by decide))).trans ((uF_ne (fun h => absurd h.2 (by decide))).trans ((uF_ne (fun h => absurd h.2 (by decide))).trans ((uF_ne (fun h => absurd h.2 (by decide))).trans ((uF_ne (fun h => absurd h.2 (by decide))).trans (((fu_23 11 (pM_no (tau_ne (rfl : tau 11 = .inl 9) hm.1 (fun h => by cases h)) (tau_ne (rfl : tau 11 = .inl 9) hm.2.1 (fun h => by cases h)) (tau_ne (rfl : tau 11 = .inl 9) hm.2.2.1 (fun h => by cases h)))).1 14).trans ((uR_f).trans (((fu_15 11 rfl).1 14).trans (((fu_11 11 rfl).1 14).trans ((uF_ne (fun h => absurd h.2 (by decide))).trans (uF_on))))))))))
      have q_48 : 0 ≤ u_23.1 o 2 ∧ u_23.1 o 2 ≤ 12 := iu_23.fi o 2 3 (mdl_k hm) hm.1
      have lk_49 : (uF (uF (uF (uF (uF u_23 11 9 0) 11 10 0) 11 11 0) 11 12 0) 11 13 0).1 o 2 = u_23.1 o 2 := (uF_ne (fun h => absurd h.2 (by decide))).trans ((uF_ne (fun h => absurd h.2 (by decide))).trans ((uF_ne (fun h => absurd h.2 (by decide))).trans ((uF_ne (fun h => absurd h.2 (by decide))).trans (uF_ne (fun h => absurd h.2 (by decide))))))
      have q_50 : 0 ≤ u_23.1 o 3 ∧ u_23.1 o 3 ≤ 16 := iu_23.fi o 3 3 (mdl_k hm) hm.1
      have lk_51 : (uF (uF (uF (uF (uF u_23 11 9 0) 11 10 0) 11 11 0) 11 12 0) 11 13 0).1 o 3 = u_23.1 o 3 := (uF_ne (fun h => absurd h.2 (by decide))).trans ((uF_ne (fun h => absurd h.2 (by decide))).trans ((uF_ne (fun h => absurd h.2 (by decide))).trans ((uF_ne (fun h => absurd h.2 (by decide))).trans (uF_ne (fun h => absurd h.2 (by decide))))))
      refine lv_iconst (v := iv 1) hx hb dX9_read_113 (by decide) ?_
      refine lv_istore_n (lv' := [(3, .int (iv 1)), (0, .ref (G.2.2.1 + 11)), (1, .ref (G.2.2.1 + t)), (2, .ref (G.2.2.1 + o))]) hx hb dX9_read_114 rfl hl (by decide) rfl (fun ls hl => ?_)
      refine lv_iconst (v := iv 0) hx hb dX9_read_115 (by decide) ?_
      refine lv_istore (lv' := [(4, .int (iv 0)), (3, .int (iv 1)), (0, .ref (G.2.2.1 + 11)), (1, .ref (G.2.2.1 + t)), (2, .ref (G.2.2.1 + o))]) hx hb dX9_read_116 hl (by decide) rfl (fun ls hl => ?_)
      have loop_118 : ∀ (fuel : Nat) (S118 : sS) (i : Int) (fi : Int) (H : Heap) (locs : List Loc) (ls : Array Slot), (2001 - i).toNat < fuel → (cX G S118 0 0 0) → (Fr S S118 pI) → (Fr u_15 S118 pG) → (Fr ((uF (uF (uF (uF (uF u_23 11 9 0) 11 10 0) 11 11 0) 11 12 0) 11 13 0)) S118 pG) → (0 ≤ fi ∧ fi ≤ 1) → (0 ≤ i ∧ i ≤ 2001) → (Hd (fi = 1 → ∃ M, MRc M S118 G o ∧ eMw T (kq b (S.1 t 1) T) (vq b (S.1 t 1) T) M00 0 = eMw T (kq b (S.1 t 1) T) (vq b (S.1 t 1) T) M (S118.1 11 13))) → (Hd (fi = 1 → GP T (kq b (S.1 t 1) T) (S118.1 11 13) ∧ i ≤ S118.1 11 13 ∧ S118.1 11 14 = 0)) → (Hd (fi = 0 → eMw T (kq b (S.1 t 1) T) (vq b (S.1 t 1) T) M00 0 = none ∧ S118.1 11 14 ≠ 0)) → sW G 294 S118 H → sL G locs → lv_has ls 5 [(4, .int (iv i)), (3, .int (iv fi)), (0, .ref (G.2.2.1 + 11)), (1, .ref (G.2.2.1 + t)), (2, .ref (G.2.2.1 + o))] → W p l e (rmk 135 0 0) s m args below meth c H locs 0 0 (MQ below (sQi G 294 (fun r u => cX G u 0 0 0 ∧ Fr S u pI ∧ ((0 ≤ r ∧ r ≤ 7) ∧ Hd (r = 0 → tOK b (S.1 t 1)) ∧ Hd (tOK b (S.1 t 1) → r = 0)))) args s 0 0 (sF G)) (F0 m 118 ls []) := by
        intro fuel
        induction fuel with
        | zero => intro S118 i fi H locs ls hmeas hI118 hFm118 hFg118 hL118_ hfi hi hOK hOQ hNO hW hL hl; exact absurd hmeas (Nat.not_lt_zero _)
        | succ fuel ih_118 =>
          intro S118 i fi H locs ls hmeas hI118 hFm118 hFg118 hL118_ hfi hi hOK hOQ hNO hW hL hl
          have kvS : Hd (KV S118 (kq b (S.1 t 1) T) (vq b (S.1 t 1) T) T) := KV.fr kv1 hFg118 rfl rfl rfl
          refine lv_iload hx hb dX9_read_118 (lv_at hl 0 rfl) ?_
          refine lv_aload_n hx hb dX9_read_120 rfl (lv_at hl 2 rfl) ?_
          refine g_X9_14 Cx hW (k := 11) (by decide) rfl (v := .ref (G.2.2.1 + 12)) (rf_11_0 hI118) dX9_read_121 ?_
          have q_52 : 0 ≤ u_15.1 12 3 ∧ u_15.1 12 3 ≤ 2001 := iu_15.fi 12 3 8 (by decide) rfl
          have lk_53 : S118.1 12 3 = u_15.1 12 3 := ((hL118_ 12 rfl).1 3).trans ((uF_ne (fun h => absurd h.2 (by decide))).trans ((uF_ne (fun h => absurd h.2 (by decide))).trans ((uF_ne (fun h => absurd h.2 (by decide))).trans ((uF_ne (fun h => absurd h.2 (by decide))).trans ((uF_ne (fun h => absurd h.2 (by decide))).trans (((fu_23 12 (pM_no (tau_ne (rfl : tau 12 = .inl 8) hm.1 (fun h => by cases h)) (tau_ne (rfl : tau 12 = .inl 8) hm.2.1 (fun h => by cases h)) (tau_ne (rfl : tau 12 = .inl 8) hm.2.2.1 (fun h => by cases h)))).1 3).trans (uR_f)))))))
          refine sBi (sV (As := []) (rest := [.int (iv i)]) (k := 12) Cx (s_X8_tokenCount l G S118  hI118) (c_X9_92 Cx rfl rfl (rmk_ok (by omega) (by decide))) hW (by decide) rfl rfl rfl hl.1 rfl (Nat.le_of_ble_eq_true rfl) dX9_read_124 ⟨Nat.le_of_ble_eq_true rfl, Nat.le_of_ble_eq_true rfl⟩) hL (fun r_56 u_54 H locs k_55 hW hL => ?_)
          obtain ⟨eu_54, xu_54⟩ := k_55
          rw [eu_54] at hW
          refine r_icmp_ge (tgt := 235) hx hb ⟨(by omega), (by omega)⟩ ⟨(by omega), (by omega)⟩ dX9_read_127 (by decide) (fun c_57 => ?_) (fun c_57 => ?_)
          · refine lv_aload_n hx hb dX9_read_235 rfl (lv_at hl 2 rfl) ?_
            refine lv_iload_n hx hb dX9_read_236 rfl (lv_at hl 1 rfl) ?_
            refine r_if_eq (tgt := 244) hx hb ⟨(by omega), (by omega)⟩ dX9_read_237 (by decide) (fun c_58 => ?_) (fun c_58 => ?_)
            · refine lv_aload_n hx hb dX9_read_244 rfl (lv_at hl 2 rfl) ?_
              refine g_X9_14 Cx hW (k := 11) (by decide) rfl (v := .ref (G.2.2.1 + 12)) (rf_11_0 hI118) dX9_read_245 ?_
              refine lv_aload_n hx hb dX9_read_248 rfl (lv_at hl 2 rfl) ?_
              have q_59 : (-2147483648) ≤ S118.1 11 15 ∧ S118.1 11 15 ≤ 2147483647 := hI118.fi 11 15 9 (by decide) rfl
              refine g_X9_114 Cx hW (k := 11) (by decide) rfl (v := S118.1 11 15) rfl dX9_read_249 ?_
              refine sBi (sV (As := [.int (iv (S118.1 11 15))]) (rest := [.ref (G.2.2.1 + 11)]) (k := 12) Cx (s_X8_start l G S118 (k := S118.1 11 15) hI118 (by omega)) (c_X9_117 Cx rfl rfl (rmk_ok (by omega) (by decide))) hW (by decide) rfl rfl rfl hl.1 rfl (Nat.le_of_ble_eq_true rfl) dX9_read_252 ⟨Nat.le_of_ble_eq_true rfl, Nat.le_of_ble_eq_true rfl⟩) hL (fun r_62 u_60 H locs k_61 hW hL => ?_)
              obtain ⟨eu_60, xu_60⟩ := k_61
              rw [eu_60] at hW
              refine p_X9_50 Cx hW hL (k := 11) (by decide) rfl dX9_read_255 (fun H locs hW hL => ?_)
              have F_63 : Fr S (uF S118 11 16 r_62) pI := hFm118.F rfl
              have F_64 : Fr u_15 (uF S118 11 16 r_62) pG := hFg118.F rfl
              have F_65 : Fr ((uF (uF (uF (uF (uF u_23 11 9 0) 11 10 0) 11 11 0) 11 12 0) 11 13 0)) (uF S118 11 16 r_62) pG := hL118_.F rfl
              have i_66 : cX G (uF S118 11 16 r_62) 0 0 0 := hI118.F rfl rfl (show (-2147483648) ≤ r_62 ∧ r_62 ≤ 2147483647 from ⟨by omega, by omega⟩)
              refine lv_aload_n hx hb dX9_read_258 rfl (lv_at hl 2 rfl) ?_
              have q_67 : 0 ≤ S118.1 11 14 ∧ S118.1 11 14 ≤ 7 := hI118.fi 11 14 9 (by decide) rfl
              refine g_X9_54 Cx hW (k := 11) (by decide) rfl (v := S118.1 11 14) (uF_ne (fun h => absurd h.2 (by decide))) dX9_read_259 ?_
              have lk_68 : (uF S118 11 16 r_62).1 11 14 = S118.1 11 14 := uF_ne (fun h => absurd h.2 (by decide))
              exact sIret Cx hr hlk hW hL ⟨i_66, F_63, ⟨⟨by omega, by omega⟩, (fun h => absurd h (by have z := (hNO (by omega)).2; omega)), (fun h => absurd h (tOK_m tq1 (hNO (by omega)).1))⟩⟩ dX9_read_262
            · have hf9 := (hOQ (by omega)).2.2
              refine lv_iconst (v := iv (-1)) hx hb dX9_read_240 (by decide) ?_
              refine lv_goto (tgt := 255) hx hb dX9_read_241 (by decide) ?_
              refine p_X9_50 Cx hW hL (k := 11) (by decide) rfl dX9_read_255 (fun H locs hW hL => ?_)
              have F_69 : Fr S (uF S118 11 16 ((-1))) pI := hFm118.F rfl
              have F_70 : Fr u_15 (uF S118 11 16 ((-1))) pG := hFg118.F rfl
              have F_71 : Fr ((uF (uF (uF (uF (uF u_23 11 9 0) 11 10 0) 11 11 0) 11 12 0) 11 13 0)) (uF S118 11 16 ((-1))) pG := hL118_.F rfl
              have i_72 : cX G (uF S118 11 16 ((-1))) 0 0 0 := hI118.F rfl rfl (show (-2147483648) ≤ (-1) ∧ (-1) ≤ 2147483647 from ⟨by omega, by omega⟩)
              refine lv_aload_n hx hb dX9_read_258 rfl (lv_at hl 2 rfl) ?_
              have q_73 : 0 ≤ S118.1 11 14 ∧ S118.1 11 14 ≤ 7 := hI118.fi 11 14 9 (by decide) rfl
              refine g_X9_54 Cx hW (k := 11) (by decide) rfl (v := S118.1 11 14) (uF_ne (fun h => absurd h.2 (by decide))) dX9_read_259 ?_
              have lk_74 : (uF S118 11 16 ((-1))).1 11 14 = S118.1 11 14 := uF_ne (fun h => absurd h.2 (by decide))
              exact sIret Cx hr hlk hW hL ⟨i_72, F_69, (by have hs : ∃ M, eMw T (kq b (S.1 t 1) T) (vq b (S.1 t 1) T) M00 0 = some M := (by obtain ⟨M, hM, hMw⟩ := hOK (by omega); obtain ⟨hGP, hpi, hf0⟩ := hOQ (by omega); rw [hMw, eMw_z (kvS.z _ (by omega))]; exact ⟨_, rfl⟩); exact ⟨⟨by omega, by omega⟩, (fun _ => ⟨by omega, T, tq1, ⟨d, hg⟩, hs⟩), (fun _ => by omega)⟩)⟩ dX9_read_262
          · refine lv_iload_n hx hb dX9_read_130 rfl (lv_at hl 1 rfl) ?_
            refine r_if_eq (tgt := 235) hx hb ⟨(by omega), (by omega)⟩ dX9_read_131 (by decide) (fun c_75 => ?_) (fun c_75 => ?_)
            · refine lv_aload_n hx hb dX9_read_235 rfl (lv_at hl 2 rfl) ?_
              refine lv_iload_n hx hb dX9_read_236 rfl (lv_at hl 1 rfl) ?_
              refine r_if_eq (tgt := 244) hx hb ⟨(by omega), (by omega)⟩ dX9_read_237 (by decide) (fun c_76 => ?_) (fun c_76 => ?_)
              · refine lv_aload_n hx hb dX9_read_244 rfl (lv_at hl 2 rfl) ?_
                refine g_X9_14 Cx hW (k := 11) (by decide) rfl (v := .ref (G.2.2.1 + 12)) (rf_11_0 hI118) dX9_read_245 ?_
                refine lv_aload_n hx hb dX9_read_248 rfl (lv_at hl 2 rfl) ?_
                have q_77 : (-2147483648) ≤ S118.1 11 15 ∧ S118.1 11 15 ≤ 2147483647 := hI118.fi 11 15 9 (by decide) rfl
                refine g_X9_114 Cx hW (k := 11) (by decide) rfl (v := S118.1 11 15) rfl dX9_read_249 ?_
                refine sBi (sV (As := [.int (iv (S118.1 11 15))]) (rest := [.ref (G.2.2.1 + 11)]) (k := 12) Cx (s_X8_start l G S118 (k := S118.1 11 15) hI118 (by omega)) (c_X9_117 Cx rfl rfl (rmk_ok (by omega) (by decide))) hW (by decide) rfl rfl rfl hl.1 rfl (Nat.le_of_ble_eq_true rfl) dX9_read_252 ⟨Nat.le_of_ble_eq_true rfl, Nat.le_of_ble_eq_true rfl⟩) hL (fun r_80 u_78 H locs k_79 hW hL => ?_)
                obtain ⟨eu_78, xu_78⟩ := k_79
                rw [eu_78] at hW
                refine p_X9_50 Cx hW hL (k := 11) (by decide) rfl dX9_read_255 (fun H locs hW hL => ?_)
                have F_81 : Fr S (uF S118 11 16 r_80) pI := hFm118.F rfl
                have F_82 : Fr u_15 (uF S118 11 16 r_80) pG := hFg118.F rfl
                have F_83 : Fr ((uF (uF (uF (uF (uF u_23 11 9 0) 11 10 0) 11 11 0) 11 12 0) 11 13 0)) (uF S118 11 16 r_80) pG := hL118_.F rfl
                have i_84 : cX G (uF S118 11 16 r_80) 0 0 0 := hI118.F rfl rfl (show (-2147483648) ≤ r_80 ∧ r_80 ≤ 2147483647 from ⟨by omega, by omega⟩)
                refine lv_aload_n hx hb dX9_read_258 rfl (lv_at hl 2 rfl) ?_
                have q_85 : 0 ≤ S118.1 11 14 ∧ S118.1 11 14 ≤ 7 := hI118.fi 11 14 9 (by decide) rfl
                refine g_X9_54 Cx hW (k := 11) (by decide) rfl (v := S118.1 11 14) (uF_ne (fun h => absurd h.2 (by decide))) dX9_read_259 ?_
                have lk_86 : (uF S118 11 16 r_80).1 11 14 = S118.1 11 14 := uF_ne (fun h => absurd h.2 (by decide))
                exact sIret Cx hr hlk hW hL ⟨i_84, F_81, ⟨⟨by omega, by omega⟩, (fun h => absurd h (by have z := (hNO (by omega)).2; omega)), (fun h => absurd h (tOK_m tq1 (hNO (by omega)).1))⟩⟩ dX9_read_262
              · have hf9 := (hOQ (by omega)).2.2
                refine lv_iconst (v := iv (-1)) hx hb dX9_read_240 (by decide) ?_
                refine lv_goto (tgt := 255) hx hb dX9_read_241 (by decide) ?_
                refine p_X9_50 Cx hW hL (k := 11) (by decide) rfl dX9_read_255 (fun H locs hW hL => ?_)
                have F_87 : Fr S (uF S118 11 16 ((-1))) pI := hFm118.F rfl
                have F_88 : Fr u_15 (uF S118 11 16 ((-1))) pG := hFg118.F rfl
                have F_89 : Fr ((uF (uF (uF (uF (uF u_23 11 9 0) 11 10 0) 11 11 0) 11 12 0) 11 13 0)) (uF S118 11 16 ((-1))) pG := hL118_.F rfl
                have i_90 : cX G (uF S118 11 16 ((-1))) 0 0 0 := hI118.F rfl rfl (show (-2147483648) ≤ (-1) ∧ (-1) ≤ 2147483647 from ⟨by omega, by omega⟩)
                refine lv_aload_n hx hb dX9_read_258 rfl (lv_at hl 2 rfl) ?_
                have q_91 : 0 ≤ S118.1 11 14 ∧ S118.1 11 14 ≤ 7 := hI118.fi 11 14 9 (by decide) rfl
                refine g_X9_54 Cx hW (k := 11) (by decide) rfl (v := S118.1 11 14) (uF_ne (fun h => absurd h.2 (by decide))) dX9_read_259 ?_
                have lk_92 : (uF S118 11 16 ((-1))).1 11 14 = S118.1 11 14 := uF_ne (fun h => absurd h.2 (by decide))
                exact sIret Cx hr hlk hW hL ⟨i_90, F_87, (by have hs : ∃ M, eMw T (kq b (S.1 t 1) T) (vq b (S.1 t 1) T) M00 0 = some M := (by obtain ⟨M, hM, hMw⟩ := hOK (by omega); obtain ⟨hGP, hpi, hf0⟩ := hOQ (by omega); rw [hMw, eMw_z (kvS.z _ (by omega))]; exact ⟨_, rfl⟩); exact ⟨⟨by omega, by omega⟩, (fun _ => ⟨by omega, T, tq1, ⟨d, hg⟩, hs⟩), (fun _ => by omega)⟩)⟩ dX9_read_262
            · obtain ⟨M, hM, hMw⟩ := hOK (by omega)
              obtain ⟨hGP, hpi, hf0⟩ := hOQ (by omega)
              have hMn : 0 ≤ M.1.1 := hM.1.1.2.1
              refine lv_aload_n hx hb dX9_read_134 rfl (lv_at hl 2 rfl) ?_
              refine g_X9_14 Cx hW (k := 11) (by decide) rfl (v := .ref (G.2.2.1 + 12)) (rf_11_0 hI118) dX9_read_135 ?_
              refine lv_aload_n hx hb dX9_read_138 rfl (lv_at hl 2 rfl) ?_
              have q_93 : (-2147483648) ≤ S118.1 11 13 ∧ S118.1 11 13 ≤ 2147483647 := hI118.fi 11 13 9 (by decide) rfl
              refine g_X9_89 Cx hW (k := 11) (by decide) rfl (v := S118.1 11 13) rfl dX9_read_139 ?_
              refine sBi (sV (As := [.int (iv (S118.1 11 13))]) (rest := []) (k := 12) Cx (s_X8_kind l G S118 (k := S118.1 11 13) hI118 (by omega)) (c_X9_95 Cx rfl rfl (rmk_ok (by omega) (by decide))) hW (by decide) rfl rfl rfl hl.1 rfl (Nat.le_of_ble_eq_true rfl) dX9_read_142 ⟨Nat.le_of_ble_eq_true rfl, Nat.le_of_ble_eq_true rfl⟩) hL (fun r_96 u_94 H locs k_95 hW hL => ?_)
              obtain ⟨eu_94, xu_94⟩ := k_95
              rw [eu_94] at hW
              have kpu_94 : r_96 = (kq b (S.1 t 1) T) (S118.1 11 13) := (by rw [← kvS.1]; exact xu_94.1)
              refine r_if_eq (tgt := 235) hx hb ⟨(by omega), (by omega)⟩ dX9_read_145 (by decide) (fun c_97 => ?_) (fun c_97 => ?_)
              · refine lv_aload_n hx hb dX9_read_235 rfl (lv_at hl 2 rfl) ?_
                refine lv_iload_n hx hb dX9_read_236 rfl (lv_at hl 1 rfl) ?_
                refine r_if_eq (tgt := 244) hx hb ⟨(by omega), (by omega)⟩ dX9_read_237 (by decide) (fun c_98 => ?_) (fun c_98 => ?_)
                · refine lv_aload_n hx hb dX9_read_244 rfl (lv_at hl 2 rfl) ?_
                  refine g_X9_14 Cx hW (k := 11) (by decide) rfl (v := .ref (G.2.2.1 + 12)) (rf_11_0 hI118) dX9_read_245 ?_
                  refine lv_aload_n hx hb dX9_read_248 rfl (lv_at hl 2 rfl) ?_
                  have q_99 : (-2147483648) ≤ S118.1 11 15 ∧ S118.1 11 15 ≤ 2147483647 := hI118.fi 11 15 9 (by decide) rfl
                  refine g_X9_114 Cx hW (k := 11) (by decide) rfl (v := S118.1 11 15) rfl dX9_read_249 ?_
                  refine sBi (sV (As := [.int (iv (S118.1 11 15))]) (rest := [.ref (G.2.2.1 + 11)]) (k := 12) Cx (s_X8_start l G S118 (k := S118.1 11 15) hI118 (by omega)) (c_X9_117 Cx rfl rfl (rmk_ok (by omega) (by decide))) hW (by decide) rfl rfl rfl hl.1 rfl (Nat.le_of_ble_eq_true rfl) dX9_read_252 ⟨Nat.le_of_ble_eq_true rfl, Nat.le_of_ble_eq_true rfl⟩) hL (fun r_102 u_100 H locs k_101 hW hL => ?_)
                  obtain ⟨eu_100, xu_100⟩ := k_101
                  rw [eu_100] at hW
                  refine p_X9_50 Cx hW hL (k := 11) (by decide) rfl dX9_read_255 (fun H locs hW hL => ?_)
                  have F_103 : Fr S (uF S118 11 16 r_102) pI := hFm118.F rfl
                  have F_104 : Fr u_15 (uF S118 11 16 r_102) pG := hFg118.F rfl
                  have F_105 : Fr ((uF (uF (uF (uF (uF u_23 11 9 0) 11 10 0) 11 11 0) 11 12 0) 11 13 0)) (uF S118 11 16 r_102) pG := hL118_.F rfl
                  have i_106 : cX G (uF S118 11 16 r_102) 0 0 0 := hI118.F rfl rfl (show (-2147483648) ≤ r_102 ∧ r_102 ≤ 2147483647 from ⟨by omega, by omega⟩)
                  refine lv_aload_n hx hb dX9_read_258 rfl (lv_at hl 2 rfl) ?_
                  have q_107 : 0 ≤ S118.1 11 14 ∧ S118.1 11 14 ≤ 7 := hI118.fi 11 14 9 (by decide) rfl
                  refine g_X9_54 Cx hW (k := 11) (by decide) rfl (v := S118.1 11 14) (uF_ne (fun h => absurd h.2 (by decide))) dX9_read_259 ?_
                  have lk_108 : (uF S118 11 16 r_102).1 11 14 = S118.1 11 14 := uF_ne (fun h => absurd h.2 (by decide))
                  exact sIret Cx hr hlk hW hL ⟨i_106, F_103, ⟨⟨by omega, by omega⟩, (fun h => absurd h (by have z := (hNO (by omega)).2; omega)), (fun h => absurd h (tOK_m tq1 (hNO (by omega)).1))⟩⟩ dX9_read_262
                · refine lv_iconst (v := iv (-1)) hx hb dX9_read_240 (by decide) ?_
                  refine lv_goto (tgt := 255) hx hb dX9_read_241 (by decide) ?_
                  refine p_X9_50 Cx hW hL (k := 11) (by decide) rfl dX9_read_255 (fun H locs hW hL => ?_)
                  have F_109 : Fr S (uF S118 11 16 ((-1))) pI := hFm118.F rfl
                  have F_110 : Fr u_15 (uF S118 11 16 ((-1))) pG := hFg118.F rfl
                  have F_111 : Fr ((uF (uF (uF (uF (uF u_23 11 9 0) 11 10 0) 11 11 0) 11 12 0) 11 13 0)) (uF S118 11 16 ((-1))) pG := hL118_.F rfl
                  have i_112 : cX G (uF S118 11 16 ((-1))) 0 0 0 := hI118.F rfl rfl (show (-2147483648) ≤ (-1) ∧ (-1) ≤ 2147483647 from ⟨by omega, by omega⟩)
                  refine lv_aload_n hx hb dX9_read_258 rfl (lv_at hl 2 rfl) ?_
                  have q_113 : 0 ≤ S118.1 11 14 ∧ S118.1 11 14 ≤ 7 := hI118.fi 11 14 9 (by decide) rfl
                  refine g_X9_54 Cx hW (k := 11) (by decide) rfl (v := S118.1 11 14) (uF_ne (fun h => absurd h.2 (by decide))) dX9_read_259 ?_
                  have lk_114 : (uF S118 11 16 ((-1))).1 11 14 = S118.1 11 14 := uF_ne (fun h => absurd h.2 (by decide))
                  exact sIret Cx hr hlk hW hL ⟨i_112, F_109, (by have hs : ∃ M, eMw T (kq b (S.1 t 1) T) (vq b (S.1 t 1) T) M00 0 = some M := (by rw [hMw, eMw_z (by omega)]; exact ⟨_, rfl⟩); exact ⟨⟨by omega, by omega⟩, (fun _ => ⟨by omega, T, tq1, ⟨d, hg⟩, hs⟩), (fun _ => by omega)⟩)⟩ dX9_read_262
              · have hp0 := kvS.lt (t := S118.1 11 13) rfl (by omega)
                refine lv_aload_n hx hb dX9_read_148 rfl (lv_at hl 2 rfl) ?_
                refine g_X9_14 Cx hW (k := 11) (by decide) rfl (v := .ref (G.2.2.1 + 12)) (rf_11_0 hI118) dX9_read_149 ?_
                refine lv_aload_n hx hb dX9_read_152 rfl (lv_at hl 2 rfl) ?_
                refine g_X9_89 Cx hW (k := 11) (by decide) rfl (v := S118.1 11 13) rfl dX9_read_153 ?_
                refine sBi (sV (As := [.int (iv (S118.1 11 13))]) (rest := []) (k := 12) Cx (s_X8_kind l G S118 (k := S118.1 11 13) hI118 (by omega)) (c_X9_95 Cx rfl rfl (rmk_ok (by omega) (by decide))) hW (by decide) rfl rfl rfl hl.1 rfl (Nat.le_of_ble_eq_true rfl) dX9_read_156 ⟨Nat.le_of_ble_eq_true rfl, Nat.le_of_ble_eq_true rfl⟩) hL (fun r_117 u_115 H locs k_116 hW hL => ?_)
                obtain ⟨eu_115, xu_115⟩ := k_116
                rw [eu_115] at hW
                have kpu_115 : r_117 = (kq b (S.1 t 1) T) (S118.1 11 13) := (by rw [← kvS.1]; exact xu_115.1)
                by_cases c_118 : r_117 = 6
                · refine lv_tableIn (off := 33) (tgt := 192) hx hb dX9_read_159 (by rw [c_118]; decide) (by rw [c_118]; decide) (by rw [c_118]; decide) (by decide) ?_
                  obtain ⟨q, hq15, hgq, hGq⟩ := (show ∃ q, (kq b (S.1 t 1) T) (q - 1) = 15 ∧ gSt (kq b (S.1 t 1) T) (S118.1 11 13) q ∧ GP T (kq b (S.1 t 1) T) q from (by rcases GP_i kvS.z hGP (by omega) with z | z | z | z | z; (first | (exact z.2) | (exfalso; rcases z with ⟨z, _⟩; omega)); (first | (exact z.2) | (exfalso; rcases z with ⟨z, _⟩; omega)); (first | (exact z.2) | (exfalso; rcases z with ⟨z, _⟩; omega)); (first | (exact z.2) | (exfalso; rcases z with ⟨z, _⟩; omega)); (first | (exact z.2) | (exfalso; rcases z with ⟨z, _⟩; omega))))
                  have hql := kvS.lt hq15 (by decide)
                  refine lv_aload_n hx hb dX9_read_192 rfl (lv_at hl 2 rfl) ?_
                  have q_119 : 0 ≤ S118.1 11 14 ∧ S118.1 11 14 ≤ 7 := hI118.fi 11 14 9 (by decide) rfl
                  refine sBi (sV (As := []) (rest := []) (k := 11) Cx (e_X9_tellSet l G S118 (M := M) (k := (kq b (S.1 t 1) T)) (v := (vq b (S.1 t 1) T)) (T := T) (pz := S118.1 11 13) (q := q) (o := o) hI118 hm hM hTV kvS (by omega) (by omega) (by omega) (by omega) hgq) (c_X9_99 Cx rfl rfl (rmk_ok (by omega) (by decide))) hW (by decide) rfl rfl rfl hl.1 rfl (Nat.le_of_ble_eq_true rfl) dX9_read_193 ⟨Nat.le_of_ble_eq_true rfl, Nat.le_of_ble_eq_true rfl⟩) hL (fun r_122 u_120 H locs k_121 hW hL => ?_)
                  obtain ⟨iu_120, fu_120, xu_120⟩ := k_121
                  have F_123 := hFm118.trans (fu_120.to (fun k h => pG_I k ((fun k h => pV_G k ((fun k h => pU_V k (pT_U k h)) k h)) k h)))
                  have F_124 := hFg118.trans (fu_120.to (fun k h => pV_G k ((fun k h => pU_V k (pT_U k h)) k h)))
                  have F_125 := hL118_.trans (fu_120.to (fun k h => pV_G k ((fun k h => pU_V k (pT_U k h)) k h)))
                  have yu_120 := xu_120.1.2
                  refine lv_istore_n (lv' := [(3, .int (iv r_122)), (4, .int (iv i)), (0, .ref (G.2.2.1 + 11)), (1, .ref (G.2.2.1 + t)), (2, .ref (G.2.2.1 + o))]) hx hb dX9_read_196 rfl hl (by decide) rfl (fun ls hl => ?_)
                  refine lv_goto (tgt := 229) hx hb dX9_read_197 (by decide) ?_
                  refine lv_iinc (v := iv (i + 1)) (lv' := [(4, .int (iv (i + 1))), (3, .int (iv r_122)), (0, .ref (G.2.2.1 + 11)), (1, .ref (G.2.2.1 + t)), (2, .ref (G.2.2.1 + o))]) hx hb dX9_read_229 hl (k := 1) rfl ((Int32.ofInt_add _ _).symm) (by decide) rfl (fun ls hl => ?_)
                  refine lv_goto (tgt := 118) hx hb dX9_read_232 (by decide) ?_
                  have q_126 : 0 ≤ u_120.1 11 9 ∧ u_120.1 11 9 ≤ 128 := iu_120.fi 11 9 9 (by decide) rfl
                  have q_127 : 0 ≤ u_120.1 11 10 ∧ u_120.1 11 10 ≤ 8 := iu_120.fi 11 10 9 (by decide) rfl
                  have q_128 : 0 ≤ u_120.1 11 11 ∧ u_120.1 11 11 ≤ 12 := iu_120.fi 11 11 9 (by decide) rfl
                  have q_129 : (-2147483648) ≤ u_120.1 11 12 ∧ u_120.1 11 12 ≤ 2147483647 := iu_120.fi 11 12 9 (by decide) rfl
                  have q_130 : (-2147483648) ≤ u_120.1 11 13 ∧ u_120.1 11 13 ≤ 2147483647 := iu_120.fi 11 13 9 (by decide) rfl
                  have q_131 : 0 ≤ u_120.1 11 14 ∧ u_120.1 11 14 ≤ 7 := iu_120.fi 11 14 9 (by decide) rfl
                  have q_132 : 0 ≤ S118.1 o 2 ∧ S118.1 o 2 ≤ 12 := hI118.fi o 2 3 (mdl_k hm) hm.1
                  have lk_133 : u_120.1 o 2 = S118.1 o 2 := (fu_120 o (mdl_out hm).1).1 2
                  have q_134 : 0 ≤ S118.1 o 3 ∧ S118.1 o 3 ≤ 16 := hI118.fi o 3 3 (mdl_k hm) hm.1
                  have lk_135 : u_120.1 o 3 = S118.1 o 3 := (fu_120 o (mdl_out hm).1).1 3
                  exact ih_118 u_120 (i + 1) r_122 _ _ _ (by omega) iu_120 F_123 F_124 F_125 (by omega) (by omega) (fun h => by obtain ⟨M1, e1, hM1, p1_, f1_⟩ := xu_120.2.1 h; exact ⟨M1, hM1, (by rw [hMw, eMw_s (y := (M1, q)) kvS.z hMn (by omega) ((eSt_6 (by omega)).trans e1), p1_])⟩) (fun h => by obtain ⟨M1, e1, hM1, p1_, f1_⟩ := xu_120.2.1 h; have z := eSt_inc hMn ((eSt_6 (by omega) : eSt T (kq b (S.1 t 1) T) (vq b (S.1 t 1) T) M (S118.1 11 13) = _).trans e1); exact ⟨(by rw [p1_]; exact hGq), (by have z : S118.1 11 13 < q := z; omega), f1_⟩) (fun h => ⟨(by rw [hMw, eMw_n (by omega) ((eSt_6 (by omega)).trans (xu_120.2.2 h))]), xu_120.1.1.2 h⟩) hW hL (lv_sub hl [0, 1, 2, 3, 4] rfl)
                by_cases c_136 : r_117 = 7
                · refine lv_tableIn (off := 41) (tgt := 200) hx hb dX9_read_159 (by rw [c_136]; decide) (by rw [c_136]; decide) (by rw [c_136]; decide) (by decide) ?_
                  obtain ⟨q, hq15, hgq, hGq⟩ := (show ∃ q, (kq b (S.1 t 1) T) (q - 1) = 15 ∧ gPa T (kq b (S.1 t 1) T) (S118.1 11 13) q ∧ GP T (kq b (S.1 t 1) T) q from (by rcases GP_i kvS.z hGP (by omega) with z | z | z | z | z; (first | (exact z.2) | (exfalso; rcases z with ⟨z, _⟩; omega)); (first | (exact z.2) | (exfalso; rcases z with ⟨z, _⟩; omega)); (first | (exact z.2) | (exfalso; rcases z with ⟨z, _⟩; omega)); (first | (exact z.2) | (exfalso; rcases z with ⟨z, _⟩; omega)); (first | (exact z.2) | (exfalso; rcases z with ⟨z, _⟩; omega))))
                  have hql := kvS.lt hq15 (by decide)
                  obtain ⟨qi_, b_, gi1, gi2, _⟩ := id hgq
                  have gi3 := ogI_le gi1; have gi4 := kvS.lt gi2 (by decide)
                  refine lv_aload_n hx hb dX9_read_200 rfl (lv_at hl 2 rfl) ?_
                  have q_137 : 0 ≤ S118.1 11 14 ∧ S118.1 11 14 ≤ 7 := hI118.fi 11 14 9 (by decide) rfl
                  refine sBi (sV (As := []) (rest := []) (k := 11) Cx (e_X9_tellPar l G S118 (M := M) (k := (kq b (S.1 t 1) T)) (v := (vq b (S.1 t 1) T)) (T := T) (pz := S118.1 11 13) (q := q) (o := o) hI118 hm hM hTV kvS (by omega) (by omega) (by omega) (by omega) hgq (by omega)) (c_X9_102 Cx rfl rfl (rmk_ok (by omega) (by decide))) hW (by decide) rfl rfl rfl hl.1 rfl (Nat.le_of_ble_eq_true rfl) dX9_read_201 ⟨Nat.le_of_ble_eq_true rfl, Nat.le_of_ble_eq_true rfl⟩) hL (fun r_140 u_138 H locs k_139 hW hL => ?_)
                  obtain ⟨iu_138, fu_138, xu_138⟩ := k_139
                  have F_141 := hFm118.trans (fu_138.to (fun k h => pG_I k ((fun k h => pV_G k (pU_V k h)) k h)))
                  have F_142 := hFg118.trans (fu_138.to (fun k h => pV_G k (pU_V k h)))
                  have F_143 := hL118_.trans (fu_138.to (fun k h => pV_G k (pU_V k h)))
                  have yu_138 := xu_138.1.2
                  refine lv_istore_n (lv' := [(3, .int (iv r_140)), (4, .int (iv i)), (0, .ref (G.2.2.1 + 11)), (1, .ref (G.2.2.1 + t)), (2, .ref (G.2.2.1 + o))]) hx hb dX9_read_204 rfl hl (by decide) rfl (fun ls hl => ?_)
                  refine lv_goto (tgt := 229) hx hb dX9_read_205 (by decide) ?_
                  refine lv_iinc (v := iv (i + 1)) (lv' := [(4, .int (iv (i + 1))), (3, .int (iv r_140)), (0, .ref (G.2.2.1 + 11)), (1, .ref (G.2.2.1 + t)), (2, .ref (G.2.2.1 + o))]) hx hb dX9_read_229 hl (k := 1) rfl ((Int32.ofInt_add _ _).symm) (by decide) rfl (fun ls hl => ?_)
                  refine lv_goto (tgt := 118) hx hb dX9_read_232 (by decide) ?_
                  have q_144 : 0 ≤ u_138.1 11 9 ∧ u_138.1 11 9 ≤ 128 := iu_138.fi 11 9 9 (by decide) rfl
                  have q_145 : 0 ≤ u_138.1 11 10 ∧ u_138.1 11 10 ≤ 8 := iu_138.fi 11 10 9 (by decide) rfl
                  have q_146 : 0 ≤ u_138.1 11 11 ∧ u_138.1 11 11 ≤ 12 := iu_138.fi 11 11 9 (by decide) rfl
                  have q_147 : (-2147483648) ≤ u_138.1 11 12 ∧ u_138.1 11 12 ≤ 2147483647 := iu_138.fi 11 12 9 (by decide) rfl
                  have q_148 : (-2147483648) ≤ u_138.1 11 13 ∧ u_138.1 11 13 ≤ 2147483647 := iu_138.fi 11 13 9 (by decide) rfl
                  have q_149 : 0 ≤ u_138.1 11 14 ∧ u_138.1 11 14 ≤ 7 := iu_138.fi 11 14 9 (by decide) rfl
                  have q_150 : 0 ≤ S118.1 o 2 ∧ S118.1 o 2 ≤ 12 := hI118.fi o 2 3 (mdl_k hm) hm.1
                  have lk_151 : u_138.1 o 2 = S118.1 o 2 := (fu_138 o (mdl_out hm).2.1).1 2
                  have q_152 : 0 ≤ S118.1 o 3 ∧ S118.1 o 3 ≤ 16 := hI118.fi o 3 3 (mdl_k hm) hm.1
                  have lk_153 : u_138.1 o 3 = S118.1 o 3 := (fu_138 o (mdl_out hm).2.1).1 3
                  exact ih_118 u_138 (i + 1) r_140 _ _ _ (by omega) iu_138 F_141 F_142 F_143 (by omega) (by omega) (fun h => by obtain ⟨M1, e1, hM1, p1_, f1_⟩ := xu_138.2.1 h; exact ⟨M1, hM1, (by rw [hMw, eMw_s (y := (M1, q)) kvS.z hMn (by omega) ((eSt_7 (by omega)).trans e1), p1_])⟩) (fun h => by obtain ⟨M1, e1, hM1, p1_, f1_⟩ := xu_138.2.1 h; have z := eSt_inc hMn ((eSt_7 (by omega) : eSt T (kq b (S.1 t 1) T) (vq b (S.1 t 1) T) M (S118.1 11 13) = _).trans e1); exact ⟨(by rw [p1_]; exact hGq), (by have z : S118.1 11 13 < q := z; omega), f1_⟩) (fun h => ⟨(by rw [hMw, eMw_n (by omega) ((eSt_7 (by omega)).trans (xu_138.2.2 h))]), xu_138.1.1.2 h⟩) hW hL (lv_sub hl [0, 1, 2, 3, 4] rfl)
                by_cases c_154 : r_117 = 8
                · refine lv_tableIn (off := 49) (tgt := 208) hx hb dX9_read_159 (by rw [c_154]; decide) (by rw [c_154]; decide) (by rw [c_154]; decide) (by decide) ?_
                  obtain ⟨q, hq15, hgq, hGq⟩ := (show ∃ q, (kq b (S.1 t 1) T) (q - 1) = 15 ∧ gVa (kq b (S.1 t 1) T) (S118.1 11 13) q ∧ GP T (kq b (S.1 t 1) T) q from (by rcases GP_i kvS.z hGP (by omega) with z | z | z | z | z; (first | (exact z.2) | (exfalso; rcases z with ⟨z, _⟩; omega)); (first | (exact z.2) | (exfalso; rcases z with ⟨z, _⟩; omega)); (first | (exact z.2) | (exfalso; rcases z with ⟨z, _⟩; omega)); (first | (exact z.2) | (exfalso; rcases z with ⟨z, _⟩; omega)); (first | (exact z.2) | (exfalso; rcases z with ⟨z, _⟩; omega))))
                  have hql := kvS.lt hq15 (by decide)
                  obtain ⟨qi_, gi1, gi2⟩ := id hgq
                  have gi3 := ogI_le gi1; have gi4 : qi_ ≤ q - 1 := (by rcases gi2 with z | z <;> omega)
                  refine lv_aload_n hx hb dX9_read_208 rfl (lv_at hl 2 rfl) ?_
                  have q_155 : 0 ≤ S118.1 11 14 ∧ S118.1 11 14 ≤ 7 := hI118.fi 11 14 9 (by decide) rfl
                  refine sBi (sV (As := []) (rest := []) (k := 11) Cx (e_X9_tellVar l G S118 (M := M) (k := (kq b (S.1 t 1) T)) (v := (vq b (S.1 t 1) T)) (T := T) (pz := S118.1 11 13) (q := q) (o := o) hI118 hm hM hTV kvS (by omega) (by omega) (by omega) (by omega) hgq (by omega)) (c_X9_105 Cx rfl rfl (rmk_ok (by omega) (by decide))) hW (by decide) rfl rfl rfl hl.1 rfl (Nat.le_of_ble_eq_true rfl) dX9_read_209 ⟨Nat.le_of_ble_eq_true rfl, Nat.le_of_ble_eq_true rfl⟩) hL (fun r_158 u_156 H locs k_157 hW hL => ?_)
                  obtain ⟨iu_156, fu_156, xu_156⟩ := k_157
                  have F_159 := hFm118.trans (fu_156.to pG_I)
                  have F_160 := hFg118.trans fu_156
                  have F_161 := hL118_.trans fu_156
                  have yu_156 := xu_156.1.2
                  refine lv_istore_n (lv' := [(3, .int (iv r_158)), (4, .int (iv i)), (0, .ref (G.2.2.1 + 11)), (1, .ref (G.2.2.1 + t)), (2, .ref (G.2.2.1 + o))]) hx hb dX9_read_212 rfl hl (by decide) rfl (fun ls hl => ?_)
                  refine lv_goto (tgt := 229) hx hb dX9_read_213 (by decide) ?_
                  refine lv_iinc (v := iv (i + 1)) (lv' := [(4, .int (iv (i + 1))), (3, .int (iv r_158)), (0, .ref (G.2.2.1 + 11)), (1, .ref (G.2.2.1 + t)), (2, .ref (G.2.2.1 + o))]) hx hb dX9_read_229 hl (k := 1) rfl ((Int32.ofInt_add _ _).symm) (by decide) rfl (fun ls hl => ?_)
                  refine lv_goto (tgt := 118) hx hb dX9_read_232 (by decide) ?_
                  have q_162 : 0 ≤ u_156.1 11 9 ∧ u_156.1 11 9 ≤ 128 := iu_156.fi 11 9 9 (by decide) rfl
                  have q_163 : 0 ≤ u_156.1 11 10 ∧ u_156.1 11 10 ≤ 8 := iu_156.fi 11 10 9 (by decide) rfl
                  have q_164 : 0 ≤ u_156.1 11 11 ∧ u_156.1 11 11 ≤ 12 := iu_156.fi 11 11 9 (by decide) rfl
                  have q_165 : (-2147483648) ≤ u_156.1 11 12 ∧ u_156.1 11 12 ≤ 2147483647 := iu_156.fi 11 12 9 (by decide) rfl
                  have q_166 : (-2147483648) ≤ u_156.1 11 13 ∧ u_156.1 11 13 ≤ 2147483647 := iu_156.fi 11 13 9 (by decide) rfl
                  have q_167 : 0 ≤ u_156.1 11 14 ∧ u_156.1 11 14 ≤ 7 := iu_156.fi 11 14 9 (by decide) rfl
                  have q_168 : 0 ≤ u_156.1 o 2 ∧ u_156.1 o 2 ≤ 12 := iu_156.fi o 2 3 (mdl_k hm) hm.1
                  have q_169 : 0 ≤ u_156.1 o 3 ∧ u_156.1 o 3 ≤ 16 := iu_156.fi o 3 3 (mdl_k hm) hm.1
                  exact ih_118 u_156 (i + 1) r_158 _ _ _ (by omega) iu_156 F_159 F_160 F_161 (by omega) (by omega) (fun h => by obtain ⟨M1, e1, hM1, p1_, f1_⟩ := xu_156.2.1 h; exact ⟨M1, hM1, (by rw [hMw, eMw_s (y := (M1, q)) kvS.z hMn (by omega) ((eSt_8 (by omega)).trans e1), p1_])⟩) (fun h => by obtain ⟨M1, e1, hM1, p1_, f1_⟩ := xu_156.2.1 h; have z := eSt_inc hMn ((eSt_8 (by omega) : eSt T (kq b (S.1 t 1) T) (vq b (S.1 t 1) T) M (S118.1 11 13) = _).trans e1); exact ⟨(by rw [p1_]; exact hGq), (by have z : S118.1 11 13 < q := z; omega), f1_⟩) (fun h => ⟨(by rw [hMw, eMw_n (by omega) ((eSt_8 (by omega)).trans (xu_156.2.2 h))]), xu_156.1.1.2 h⟩) hW hL (lv_sub hl [0, 1, 2, 3, 4] rfl)
                by_cases c_170 : r_117 = 9
                · refine lv_tableIn (off := 65) (tgt := 224) hx hb dX9_read_159 (by rw [c_170]; decide) (by rw [c_170]; decide) (by rw [c_170]; decide) (by decide) ?_
                  obtain ⟨q, hq15, hgq, hGq⟩ := (show ∃ q, (kq b (S.1 t 1) T) (q - 1) = 15 ∧ gGo T (kq b (S.1 t 1) T) (S118.1 11 13) q ∧ GP T (kq b (S.1 t 1) T) q from (by rcases GP_i kvS.z hGP (by omega) with z | z | z | z | z; (first | (exact z.2) | (exfalso; rcases z with ⟨z, _⟩; omega)); (first | (exact z.2) | (exfalso; rcases z with ⟨z, _⟩; omega)); (first | (exact z.2) | (exfalso; rcases z with ⟨z, _⟩; omega)); (first | (exact z.2) | (exfalso; rcases z with ⟨z, _⟩; omega)); (first | (exact z.2) | (exfalso; rcases z with ⟨z, _⟩; omega))))
                  have hql := kvS.lt hq15 (by decide)
                  refine lv_aload_n hx hb dX9_read_224 rfl (lv_at hl 2 rfl) ?_
                  have q_171 : 0 ≤ S118.1 11 14 ∧ S118.1 11 14 ≤ 7 := hI118.fi 11 14 9 (by decide) rfl
                  refine sBi (sV (As := []) (rest := []) (k := 11) Cx (e_X9_tellGoal l G S118 (M := M) (k := (kq b (S.1 t 1) T)) (v := (vq b (S.1 t 1) T)) (T := T) (pz := S118.1 11 13) (q := q) (o := o) hI118 hm hM hTV kvS (by omega) (by omega) (by omega) (by omega) hgq) (c_X9_111 Cx rfl rfl (rmk_ok (by omega) (by decide))) hW (by decide) rfl rfl rfl hl.1 rfl (Nat.le_of_ble_eq_true rfl) dX9_read_225 ⟨Nat.le_of_ble_eq_true rfl, Nat.le_of_ble_eq_true rfl⟩) hL (fun r_174 u_172 H locs k_173 hW hL => ?_)
                  obtain ⟨iu_172, fu_172, xu_172⟩ := k_173
                  have F_175 := hFm118.trans (fu_172.to pG_I)
                  have F_176 := hFg118.trans fu_172
                  have F_177 := hL118_.trans fu_172
                  have yu_172 := xu_172.1.2
                  refine lv_istore_n (lv' := [(3, .int (iv r_174)), (4, .int (iv i)), (0, .ref (G.2.2.1 + 11)), (1, .ref (G.2.2.1 + t)), (2, .ref (G.2.2.1 + o))]) hx hb dX9_read_228 rfl hl (by decide) rfl (fun ls hl => ?_)
                  refine lv_iinc (v := iv (i + 1)) (lv' := [(4, .int (iv (i + 1))), (3, .int (iv r_174)), (0, .ref (G.2.2.1 + 11)), (1, .ref (G.2.2.1 + t)), (2, .ref (G.2.2.1 + o))]) hx hb dX9_read_229 hl (k := 1) rfl ((Int32.ofInt_add _ _).symm) (by decide) rfl (fun ls hl => ?_)
                  refine lv_goto (tgt := 118) hx hb dX9_read_232 (by decide) ?_
                  have q_178 : 0 ≤ u_172.1 11 9 ∧ u_172.1 11 9 ≤ 128 := iu_172.fi 11 9 9 (by decide) rfl
                  have q_179 : 0 ≤ u_172.1 11 10 ∧ u_172.1 11 10 ≤ 8 := iu_172.fi 11 10 9 (by decide) rfl
                  have q_180 : 0 ≤ u_172.1 11 11 ∧ u_172.1 11 11 ≤ 12 := iu_172.fi 11 11 9 (by decide) rfl
                  have q_181 : (-2147483648) ≤ u_172.1 11 12 ∧ u_172.1 11 12 ≤ 2147483647 := iu_172.fi 11 12 9 (by decide) rfl
                  have q_182 : (-2147483648) ≤ u_172.1 11 13 ∧ u_172.1 11 13 ≤ 2147483647 := iu_172.fi 11 13 9 (by decide) rfl
                  have q_183 : 0 ≤ u_172.1 11 14 ∧ u_172.1 11 14 ≤ 7 := iu_172.fi 11 14 9 (by decide) rfl
                  have q_184 : 0 ≤ u_172.1 o 2 ∧ u_172.1 o 2 ≤ 12 := iu_172.fi o 2 3 (mdl_k hm) hm.1
                  have q_185 : 0 ≤ u_172.1 o 3 ∧ u_172.1 o 3 ≤ 16 := iu_172.fi o 3 3 (mdl_k hm) hm.1
                  exact ih_118 u_172 (i + 1) r_174 _ _ _ (by omega) iu_172 F_175 F_176 F_177 (by omega) (by omega) (fun h => by obtain ⟨M1, e1, hM1, p1_, f1_⟩ := xu_172.2.1 h; exact ⟨M1, hM1, (by rw [hMw, eMw_s (y := (M1, q)) kvS.z hMn (by omega) ((eSt_g (by omega)).trans e1), p1_])⟩) (fun h => by obtain ⟨M1, e1, hM1, p1_, f1_⟩ := xu_172.2.1 h; have z := eSt_inc hMn ((eSt_g (by omega) : eSt T (kq b (S.1 t 1) T) (vq b (S.1 t 1) T) M (S118.1 11 13) = _).trans e1); exact ⟨(by rw [p1_]; exact hGq), (by have z : S118.1 11 13 < q := z; omega), f1_⟩) (fun h => ⟨(by rw [hMw, eMw_n (by omega) ((eSt_g (by omega)).trans (xu_172.2.2 h))]), xu_172.1.1.2 h⟩) hW hL (lv_sub hl [0, 1, 2, 3, 4] rfl)
                by_cases c_186 : r_117 = 10
                · refine lv_tableIn (off := 57) (tgt := 216) hx hb dX9_read_159 (by rw [c_186]; decide) (by rw [c_186]; decide) (by rw [c_186]; decide) (by decide) ?_
                  obtain ⟨q, hq15, hgq, hGq⟩ := (show ∃ q, (kq b (S.1 t 1) T) (q - 1) = 15 ∧ gRoc T (kq b (S.1 t 1) T) (S118.1 11 13) q ∧ GP T (kq b (S.1 t 1) T) q from (by rcases GP_i kvS.z hGP (by omega) with z | z | z | z | z; (first | (exact z.2) | (exfalso; rcases z with ⟨z, _⟩; omega)); (first | (exact z.2) | (exfalso; rcases z with ⟨z, _⟩; omega)); (first | (exact z.2) | (exfalso; rcases z with ⟨z, _⟩; omega)); (first | (exact z.2) | (exfalso; rcases z with ⟨z, _⟩; omega)); (first | (exact z.2) | (exfalso; rcases z with ⟨z, _⟩; omega))))
                  have hql := kvS.lt hq15 (by decide)
                  refine lv_aload_n hx hb dX9_read_216 rfl (lv_at hl 2 rfl) ?_
                  have q_187 : 0 ≤ S118.1 11 14 ∧ S118.1 11 14 ≤ 7 := hI118.fi 11 14 9 (by decide) rfl
                  refine sBi (sV (As := []) (rest := []) (k := 11) Cx (e_X9_tellRow l G S118 (M := M) (k := (kq b (S.1 t 1) T)) (v := (vq b (S.1 t 1) T)) (T := T) (pz := S118.1 11 13) (q := q) (o := o) hI118 hm hM hTV kvS (by omega) (by omega) (by omega) (by omega) hgq) (c_X9_108 Cx rfl rfl (rmk_ok (by omega) (by decide))) hW (by decide) rfl rfl rfl hl.1 rfl (Nat.le_of_ble_eq_true rfl) dX9_read_217 ⟨Nat.le_of_ble_eq_true rfl, Nat.le_of_ble_eq_true rfl⟩) hL (fun r_190 u_188 H locs k_189 hW hL => ?_)
                  obtain ⟨iu_188, fu_188, xu_188⟩ := k_189
                  have F_191 := hFm118.trans (fu_188.to pG_I)
                  have F_192 := hFg118.trans fu_188
                  have F_193 := hL118_.trans fu_188
                  have yu_188 := xu_188.1.2
                  refine lv_istore_n (lv' := [(3, .int (iv r_190)), (4, .int (iv i)), (0, .ref (G.2.2.1 + 11)), (1, .ref (G.2.2.1 + t)), (2, .ref (G.2.2.1 + o))]) hx hb dX9_read_220 rfl hl (by decide) rfl (fun ls hl => ?_)
                  refine lv_goto (tgt := 229) hx hb dX9_read_221 (by decide) ?_
                  refine lv_iinc (v := iv (i + 1)) (lv' := [(4, .int (iv (i + 1))), (3, .int (iv r_190)), (0, .ref (G.2.2.1 + 11)), (1, .ref (G.2.2.1 + t)), (2, .ref (G.2.2.1 + o))]) hx hb dX9_read_229 hl (k := 1) rfl ((Int32.ofInt_add _ _).symm) (by decide) rfl (fun ls hl => ?_)
                  refine lv_goto (tgt := 118) hx hb dX9_read_232 (by decide) ?_
                  have q_194 : 0 ≤ u_188.1 11 9 ∧ u_188.1 11 9 ≤ 128 := iu_188.fi 11 9 9 (by decide) rfl
                  have q_195 : 0 ≤ u_188.1 11 10 ∧ u_188.1 11 10 ≤ 8 := iu_188.fi 11 10 9 (by decide) rfl
                  have q_196 : 0 ≤ u_188.1 11 11 ∧ u_188.1 11 11 ≤ 12 := iu_188.fi 11 11 9 (by decide) rfl
                  have q_197 : (-2147483648) ≤ u_188.1 11 12 ∧ u_188.1 11 12 ≤ 2147483647 := iu_188.fi 11 12 9 (by decide) rfl
                  have q_198 : (-2147483648) ≤ u_188.1 11 13 ∧ u_188.1 11 13 ≤ 2147483647 := iu_188.fi 11 13 9 (by decide) rfl
                  have q_199 : 0 ≤ u_188.1 11 14 ∧ u_188.1 11 14 ≤ 7 := iu_188.fi 11 14 9 (by decide) rfl
                  have q_200 : 0 ≤ u_188.1 o 2 ∧ u_188.1 o 2 ≤ 12 := iu_188.fi o 2 3 (mdl_k hm) hm.1
                  have q_201 : 0 ≤ u_188.1 o 3 ∧ u_188.1 o 3 ≤ 16 := iu_188.fi o 3 3 (mdl_k hm) hm.1
                  exact ih_118 u_188 (i + 1) r_190 _ _ _ (by omega) iu_188 F_191 F_192 F_193 (by omega) (by omega) (fun h => by obtain ⟨M1, e1, hM1, p1_, f1_⟩ := xu_188.2.1 h; exact ⟨M1, hM1, (by rw [hMw, eMw_s (y := (M1, q)) kvS.z hMn (by omega) ((eSt_10 (by omega)).trans e1), p1_])⟩) (fun h => by obtain ⟨M1, e1, hM1, p1_, f1_⟩ := xu_188.2.1 h; have z := eSt_inc hMn ((eSt_10 (by omega) : eSt T (kq b (S.1 t 1) T) (vq b (S.1 t 1) T) M (S118.1 11 13) = _).trans e1); exact ⟨(by rw [p1_]; exact hGq), (by have z : S118.1 11 13 < q := z; omega), f1_⟩) (fun h => ⟨(by rw [hMw, eMw_n (by omega) ((eSt_10 (by omega)).trans (xu_188.2.2 h))]), xu_188.1.1.2 h⟩) hW hL (lv_sub hl [0, 1, 2, 3, 4] rfl)
                refine lv_tableOut (tgt := 224) hx hb dX9_read_159 (by rw [iv_toInt ⟨(by omega), (by omega)⟩]; omega) (by decide) ?_
                obtain ⟨q, hq15, hgq, hGq⟩ := (show ∃ q, (kq b (S.1 t 1) T) (q - 1) = 15 ∧ gGo T (kq b (S.1 t 1) T) (S118.1 11 13) q ∧ GP T (kq b (S.1 t 1) T) q from (by rcases GP_i kvS.z hGP (by omega) with z | z | z | z | z; (first | (exact z.2) | (exfalso; rcases z with ⟨z, _⟩; omega)); (first | (exact z.2) | (exfalso; rcases z with ⟨z, _⟩; omega)); (first | (exact z.2) | (exfalso; rcases z with ⟨z, _⟩; omega)); (first | (exact z.2) | (exfalso; rcases z with ⟨z, _⟩; omega)); (first | (exact z.2) | (exfalso; rcases z with ⟨z, _⟩; omega))))
                have hql := kvS.lt hq15 (by decide)
                refine lv_aload_n hx hb dX9_read_224 rfl (lv_at hl 2 rfl) ?_
                have q_202 : 0 ≤ S118.1 11 14 ∧ S118.1 11 14 ≤ 7 := hI118.fi 11 14 9 (by decide) rfl
                refine sBi (sV (As := []) (rest := []) (k := 11) Cx (e_X9_tellGoal l G S118 (M := M) (k := (kq b (S.1 t 1) T)) (v := (vq b (S.1 t 1) T)) (T := T) (pz := S118.1 11 13) (q := q) (o := o) hI118 hm hM hTV kvS (by omega) (by omega) (by omega) (by omega) hgq) (c_X9_111 Cx rfl rfl (rmk_ok (by omega) (by decide))) hW (by decide) rfl rfl rfl hl.1 rfl (Nat.le_of_ble_eq_true rfl) dX9_read_225 ⟨Nat.le_of_ble_eq_true rfl, Nat.le_of_ble_eq_true rfl⟩) hL (fun r_205 u_203 H locs k_204 hW hL => ?_)
                obtain ⟨iu_203, fu_203, xu_203⟩ := k_204
                have F_206 := hFm118.trans (fu_203.to pG_I)
                have F_207 := hFg118.trans fu_203
                have F_208 := hL118_.trans fu_203
                have yu_203 := xu_203.1.2
                refine lv_istore_n (lv' := [(3, .int (iv r_205)), (4, .int (iv i)), (0, .ref (G.2.2.1 + 11)), (1, .ref (G.2.2.1 + t)), (2, .ref (G.2.2.1 + o))]) hx hb dX9_read_228 rfl hl (by decide) rfl (fun ls hl => ?_)
                refine lv_iinc (v := iv (i + 1)) (lv' := [(4, .int (iv (i + 1))), (3, .int (iv r_205)), (0, .ref (G.2.2.1 + 11)), (1, .ref (G.2.2.1 + t)), (2, .ref (G.2.2.1 + o))]) hx hb dX9_read_229 hl (k := 1) rfl ((Int32.ofInt_add _ _).symm) (by decide) rfl (fun ls hl => ?_)
                refine lv_goto (tgt := 118) hx hb dX9_read_232 (by decide) ?_
                have q_209 : 0 ≤ u_203.1 11 9 ∧ u_203.1 11 9 ≤ 128 := iu_203.fi 11 9 9 (by decide) rfl
                have q_210 : 0 ≤ u_203.1 11 10 ∧ u_203.1 11 10 ≤ 8 := iu_203.fi 11 10 9 (by decide) rfl
                have q_211 : 0 ≤ u_203.1 11 11 ∧ u_203.1 11 11 ≤ 12 := iu_203.fi 11 11 9 (by decide) rfl
                have q_212 : (-2147483648) ≤ u_203.1 11 12 ∧ u_203.1 11 12 ≤ 2147483647 := iu_203.fi 11 12 9 (by decide) rfl
                have q_213 : (-2147483648) ≤ u_203.1 11 13 ∧ u_203.1 11 13 ≤ 2147483647 := iu_203.fi 11 13 9 (by decide) rfl
                have q_214 : 0 ≤ u_203.1 11 14 ∧ u_203.1 11 14 ≤ 7 := iu_203.fi 11 14 9 (by decide) rfl
                have q_215 : 0 ≤ u_203.1 o 2 ∧ u_203.1 o 2 ≤ 12 := iu_203.fi o 2 3 (mdl_k hm) hm.1
                have q_216 : 0 ≤ u_203.1 o 3 ∧ u_203.1 o 3 ≤ 16 := iu_203.fi o 3 3 (mdl_k hm) hm.1
                exact ih_118 u_203 (i + 1) r_205 _ _ _ (by omega) iu_203 F_206 F_207 F_208 (by omega) (by omega) (fun h => by obtain ⟨M1, e1, hM1, p1_, f1_⟩ := xu_203.2.1 h; exact ⟨M1, hM1, (by rw [hMw, eMw_s (y := (M1, q)) kvS.z hMn (by omega) ((eSt_g (by omega)).trans e1), p1_])⟩) (fun h => by obtain ⟨M1, e1, hM1, p1_, f1_⟩ := xu_203.2.1 h; have z := eSt_inc hMn ((eSt_g (by omega) : eSt T (kq b (S.1 t 1) T) (vq b (S.1 t 1) T) M (S118.1 11 13) = _).trans e1); exact ⟨(by rw [p1_]; exact hGq), (by have z : S118.1 11 13 < q := z; omega), f1_⟩) (fun h => ⟨(by rw [hMw, eMw_n (by omega) ((eSt_g (by omega)).trans (xu_203.2.2 h))]), xu_203.1.1.2 h⟩) hW hL (lv_sub hl [0, 1, 2, 3, 4] rfl)
      exact loop_118 (_ + 1) (uF (uF (uF (uF (uF u_23 11 9 0) 11 10 0) 11 11 0) 11 12 0) 11 13 0) 0 1 _ _ _ (Nat.lt_succ_self _) i_41 F_39 F_40 Fr.rf (by omega) (by omega) (fun _ => ⟨M00, MRc.zero (by omega) (by omega) (by omega) (by omega) (by omega) (by omega) ((uF_r).trans ((uF_r).trans ((uF_r).trans ((uF_r).trans ((uF_r).trans (((fu_23 11 (pM_no (tau_ne (rfl : tau 11 = .inl 9) hm.1 (fun h => by cases h)) (tau_ne (rfl : tau 11 = .inl 9) hm.2.1 (fun h => by cases h)) (tau_ne (rfl : tau 11 = .inl 9) hm.2.2.1 (fun h => by cases h)))).2.2.2 8).trans (uR_on))))))), (by rw [show (uF (uF (uF (uF (uF u_23 11 9 0) 11 10 0) 11 11 0) 11 12 0) 11 13 0).1 11 13 = 0 by omega])⟩) (fun _ => ⟨(by rw [show (uF (uF (uF (uF (uF u_23 11 9 0) 11 10 0) 11 11 0) 11 12 0) 11 13 0).1 11 13 = 0 by omega]; exact hGP0), by omega, by omega⟩) (fun h => absurd h (by decide)) hW hL (lv_sub hl [0, 1, 2, 3, 4] rfl)
    · refine lv_aload_n hx hb dX9_read_55 rfl (lv_at hl 0 rfl) ?_
      refine lv_iconst (v := iv 1) hx hb dX9_read_56 (by decide) ?_
      refine p_X9_54 Cx hW hL (k := 11) (by decide) rfl dX9_read_57 (fun H locs hW hL => ?_)
      have F_217 : Fr S (uF u_15 11 14 1) pI := F_18.F rfl
      have i_218 : cX G (uF u_15 11 14 1) 0 0 0 := iu_15.F rfl rfl (show 0 ≤ 1 ∧ 1 ≤ 7 from ⟨by omega, by omega⟩)
      refine lv_aload_n hx hb dX9_read_60 rfl (lv_at hl 0 rfl) ?_
      refine lv_aload_n hx hb dX9_read_61 rfl (lv_at hl 0 rfl) ?_
      refine g_X9_14 Cx hW (k := 11) (by decide) rfl (v := .ref (G.2.2.1 + 12)) (rf_11_0 i_218) dX9_read_62 ?_
      refine sBi (sV (As := []) (rest := [.ref (G.2.2.1 + 11)]) (k := 12) Cx (s_X8_stopPlace l G (uF u_15 11 14 1)  i_218) (c_X9_71 Cx rfl rfl (rmk_ok (by omega) (by decide))) hW (by decide) rfl rfl rfl hl.1 rfl (Nat.le_of_ble_eq_true rfl) dX9_read_65 ⟨Nat.le_of_ble_eq_true rfl, Nat.le_of_ble_eq_true rfl⟩) hL (fun r_221 u_219 H locs k_220 hW hL => ?_)
      obtain ⟨eu_219, xu_219⟩ := k_220
      rw [eu_219] at hW
      refine p_X9_50 Cx hW hL (k := 11) (by decide) rfl dX9_read_68 (fun H locs hW hL => ?_)
      have F_222 : Fr S (uF (uF u_15 11 14 1) 11 16 r_221) pI := F_217.F rfl
      have i_223 : cX G (uF (uF u_15 11 14 1) 11 16 r_221) 0 0 0 := i_218.F rfl rfl (show (-2147483648) ≤ r_221 ∧ r_221 ≤ 2147483647 from ⟨by omega, by omega⟩)
      refine lv_aload_n hx hb dX9_read_71 rfl (lv_at hl 0 rfl) ?_
      refine g_X9_54 Cx hW (k := 11) (by decide) rfl (v := 1) ((uF_ne (fun h => absurd h.2 (by decide))).trans (uF_on)) dX9_read_72 ?_
      have lk_224 : (uF (uF u_15 11 14 1) 11 16 r_221).1 11 14 = 1 := (uF_ne (fun h => absurd h.2 (by decide))).trans (uF_on)
      exact sIret Cx hr hlk hW hL ⟨i_223, F_222, ⟨⟨by omega, by omega⟩, (fun h => absurd h (by omega)), (fun h => absurd h (tOK_n tq1 (by have z := xu_15.2.2.2 (by omega); rw [kde, ← hT] at z; exact z)))⟩⟩ dX9_read_75
  · refine lv_aload_n hx hb dX9_read_20 rfl (lv_at hl 0 rfl) ?_
    refine lv_iconst (v := iv 1) hx hb dX9_read_21 (by decide) ?_
    refine p_X9_54 Cx hW hL (k := 11) (by decide) rfl dX9_read_22 (fun H locs hW hL => ?_)
    have F_225 : Fr S (uF (uF (uF S 11 14 0) 11 16 ((-1))) 11 14 1) pI := F_3.F rfl
    have i_226 : cX G (uF (uF (uF S 11 14 0) 11 16 ((-1))) 11 14 1) 0 0 0 := i_4.F rfl rfl (show 0 ≤ 1 ∧ 1 ≤ 7 from ⟨by omega, by omega⟩)
    refine lv_aload_n hx hb dX9_read_25 rfl (lv_at hl 0 rfl) ?_
    refine lv_sipush (v := iv 2000) hx hb dX9_read_26 (by decide) ?_
    refine p_X9_50 Cx hW hL (k := 11) (by decide) rfl dX9_read_29 (fun H locs hW hL => ?_)
    have F_227 : Fr S (uF (uF (uF (uF S 11 14 0) 11 16 ((-1))) 11 14 1) 11 16 2000) pI := F_225.F rfl
    have i_228 : cX G (uF (uF (uF (uF S 11 14 0) 11 16 ((-1))) 11 14 1) 11 16 2000) 0 0 0 := i_226.F rfl rfl (show (-2147483648) ≤ 2000 ∧ 2000 ≤ 2147483647 from ⟨by omega, by omega⟩)
    refine lv_aload_n hx hb dX9_read_32 rfl (lv_at hl 0 rfl) ?_
    refine g_X9_54 Cx hW (k := 11) (by decide) rfl (v := 1) ((uF_ne (fun h => absurd h.2 (by decide))).trans (uF_on)) dX9_read_33 ?_
    have lk_229 : (uF (uF (uF (uF S 11 14 0) 11 16 ((-1))) 11 14 1) 11 16 2000).1 11 14 = 1 := (uF_ne (fun h => absurd h.2 (by decide))).trans (uF_on)
    exact sIret Cx hr hlk hW hL ⟨i_228, F_227, ⟨⟨by omega, by omega⟩, (fun h => absurd h (by omega)), (fun h => absurd h.1 (by omega))⟩⟩ dX9_read_36
