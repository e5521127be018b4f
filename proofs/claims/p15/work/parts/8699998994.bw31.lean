/-! The tokens of a proof's text: bytes B, n of them -/
abbrev stL (B : Int → Int) (n i : Int) : Prop := isLt (cb B n i)
theorem stL_lt {B : Int → Int} {n p : Int} (h : stL B n p) : p < n := (cb_nz (B := B) (n := n) (i := p) (by unfold stL isLt at h; omega)).2.1
theorem en_to {n : Int} {st : Int → Prop} [DecidablePred st] (hn : ∀ i, st i → i < n) : ∀ (m : Nat) (p e : Int), e = p + m → (∀ i, p ≤ i → i < e → st i) → ¬ st e → en n st p = e := by
  intro m
  induction m with
  | zero => intro p e he _ h; rw [show p = e by omega]; exact en_no h
  | succ m ih =>
    intro p e he h1 h2
    rw [en_st (hn p) (h1 p (by omega) (by omega))]
    exact ih (p + 1) e (by omega) (fun i a b => h1 i (by omega) b) h2
theorem en_be {n : Int} {st : Int → Prop} [DecidablePred st] {p e : Int} (hn : ∀ i, st i → i < n) (hp : p ≤ e) (h1 : ∀ i, p ≤ i → i < e → st i) (h2 : ¬ st e) : en n st p = e := en_to hn (e - p).toNat p e (by omega) h1 h2
/-- which word stands from p up to e -/
def WK (B : Int → Int) (p e k : Int) : Prop := (7 ≤ k ∧ k ≤ 15 ∧ WMc B p e (wsi k)) ∨ (k = 6 ∧ ∀ i, 7 ≤ i → i ≤ 15 → ¬ WMc B p e (wsi i))
/-- the words are different -/
theorem wsi_ne {B : Int → Int} {p e i k : Int} (hi : 7 ≤ i ∧ i ≤ 15) (hk : 7 ≤ k ∧ k ≤ 15) (h : WMc B p e (wsi i)) (g : WMc B p e (wsi k)) : i = k := by
  have c : ∀ a b : Nat, a < 9 → b < 9 → a ≠ b → strN.getD (a + 14) 0 = strN.getD (b + 14) 0 → ∃ j : Nat, j < strN.getD (a + 14) 0 ∧ sB (a + 14) j ≠ sB (b + 14) j := by
    have d : ∀ a : Nat, a < 9 → ∀ b : Nat, b < 9 → a ≠ b → strN.getD (a + 14) 0 = strN.getD (b + 14) 0 → sB (a + 14) 0 ≠ sB (b + 14) 0 ∧ 0 < strN.getD (a + 14) 0 := by decide +kernel
    intro a b ha hb n e
    exact ⟨0, (d a ha b hb n e).2, (d a ha b hb n e).1⟩
  have e1 : wsi i = (i - 7).toNat + 14 := by unfold wsi; omega
  have e2 : wsi k = (k - 7).toNat + 14 := by unfold wsi; omega
  by_cases q : i = k
  · exact q
  · exfalso
    rw [e1] at h; rw [e2] at g
    obtain ⟨j, j1, j2⟩ := c (i - 7).toNat (k - 7).toNat (by omega) (by omega) (by omega) (by have := h.1; have := g.1; omega)
    exact j2 ((h.2 j (by omega) (by have := h.1; omega)).symm.trans (g.2 j (by omega) (by have := h.1; omega)))
theorem WK.one {B : Int → Int} {p e k l : Int} (h : WK B p e k) (g : WK B p e l) : k = l := by
  rcases h with ⟨a, b, c⟩ | ⟨a, b⟩ <;> rcases g with ⟨d, e, f⟩ | ⟨d, e⟩
  · exact wsi_ne ⟨a, b⟩ ⟨d, by assumption⟩ c f
  · exact absurd c (e k a b)
  · exact absurd f (b l d (by assumption))
  · omega
/-- the words up to w are tried -/
def WTr (B : Int → Int) (p e w k : Int) : Prop := (7 ≤ k ∧ k < w ∧ WMc B p e (wsi k)) ∨ (k = 6 ∧ ∀ i, 7 ≤ i → i < w → ¬ WMc B p e (wsi i))
theorem WTr.yes {B : Int → Int} {p e w k : Int} (h : WTr B p e w k) (hw : 7 ≤ w) (g : WMc B p e (wsi w)) : WTr B p e (w + 1) w := .inl ⟨hw, by omega, g⟩
theorem WTr.no {B : Int → Int} {p e w k : Int} (h : WTr B p e w k) (g : ¬ WMc B p e (wsi w)) : WTr B p e (w + 1) k := by
  rcases h with h | h
  · exact .inl ⟨h.1, by omega, h.2.2⟩
  · refine .inr ⟨h.1, fun i a b => ?_⟩
    by_cases q : i = w
    · rw [q]; exact g
    · exact h.2 i a (by omega)
theorem WTr.fin {B : Int → Int} {p e w k : Int} (h : WTr B p e w k) (hw : w = 16) : WK B p e k := by
  rcases h with h | h
  · exact .inl ⟨h.1, by omega, h.2.2⟩
  · exact .inr ⟨h.1, fun i a b => h.2 i a (by omega)⟩
theorem WK.ex {B : Int → Int} {p e : Int} : ∃ k, WK B p e k := by
  by_cases c : ∃ k, 7 ≤ k ∧ k ≤ 15 ∧ WMc B p e (wsi k)
  · obtain ⟨k, h⟩ := c; exact ⟨k, .inl h⟩
  · exact ⟨6, .inr ⟨rfl, fun i a b h => c ⟨i, a, b, h⟩⟩⟩
theorem WK.r {B : Int → Int} {p e k : Int} (h : WK B p e k) : 6 ≤ k ∧ k ≤ 15 := by
  rcases h with h | h <;> omega
/-- where the digits of a NUMBER begin -/
def qdg (B : Int → Int) (n p : Int) : Int := if cb B n p = 45 then p + 1 else p
def qE (B : Int → Int) (n p : Int) : Int := if isLt (cb B n p) then en n (stL B n) p else if cb B n p = 45 ∨ isDg (cb B n p) then en n (stD B n) (qdg B n p) else p + 1
def nGd (B : Int → Int) (n p : Int) : Prop := qdg B n p < en n (stD B n) (qdg B n p) ∧ en n (stD B n) (qdg B n p) - qdg B n p ≤ 60 ∧ (cb B n p = 45 → ∃ i, qdg B n p ≤ i ∧ i < en n (stD B n) (qdg B n p) ∧ B i ≠ 48)
def sgk (c : Int) : Int := if c = 47 then 3 else if c = 58 then 4 else if c = 59 then 5 else 1
/-- the kind of the token that begins at p -/
def QK (B : Int → Int) (n p k : Int) : Prop := (isLt (cb B n p) → WK B p (qE B n p) k) ∧ (¬ isLt (cb B n p) → (cb B n p = 45 ∨ isDg (cb B n p)) → (nGd B n p → k = 2) ∧ (¬ nGd B n p → k = 1)) ∧ (¬ isLt (cb B n p) → ¬ (cb B n p = 45 ∨ isDg (cb B n p)) → k = sgk (cb B n p))
def qV (B : Int → Int) (n p : Int) : Int := if cb B n p = 45 then -dvn B (p + 1) (en n (stD B n) (p + 1) - (p + 1)).toNat else dvn B p (en n (stD B n) p - p).toNat
theorem sgk_r (c : Int) : 1 ≤ sgk c ∧ sgk c ≤ 5 ∧ sgk c ≠ 2 := by
  unfold sgk; split <;> (try split) <;> (try split) <;> omega
theorem QK.ex {B : Int → Int} {n p : Int} : ∃ k, QK B n p k := by
  by_cases a : isLt (cb B n p)
  · obtain ⟨k, h⟩ := WK.ex (B := B) (p := p) (e := qE B n p)
    exact ⟨k, fun _ => h, fun q => absurd a q, fun q => absurd a q⟩
  · by_cases b : cb B n p = 45 ∨ isDg (cb B n p)
    · by_cases c : nGd B n p
      · exact ⟨2, fun q => absurd q a, fun _ _ => ⟨fun _ => rfl, fun q => absurd c q⟩, fun _ q => absurd b q⟩
      · exact ⟨1, fun q => absurd q a, fun _ _ => ⟨fun q => absurd q c, fun _ => rfl⟩, fun _ q => absurd b q⟩
    · exact ⟨_, fun q => absurd q a, fun _ q => absurd q b, fun _ _ => rfl⟩
theorem QK.one {B : Int → Int} {n p k l : Int} (h : QK B n p k) (g : QK B n p l) : k = l := by
  by_cases a : isLt (cb B n p)
  · exact (h.1 a).one (g.1 a)
  · by_cases b : cb B n p = 45 ∨ isDg (cb B n p)
    · by_cases c : nGd B n p
      · rw [(h.2.1 a b).1 c, (g.2.1 a b).1 c]
      · rw [(h.2.1 a b).2 c, (g.2.1 a b).2 c]
    · rw [h.2.2 a b, g.2.2 a b]
theorem QK.r {B : Int → Int} {n p k : Int} (h : QK B n p k) : 1 ≤ k ∧ k ≤ 15 := by
  by_cases a : isLt (cb B n p)
  · have := (h.1 a).r; omega
  · by_cases b : cb B n p = 45 ∨ isDg (cb B n p)
    · by_cases c : nGd B n p
      · rw [(h.2.1 a b).1 c]; decide
      · rw [(h.2.1 a b).2 c]; decide
    · have := sgk_r (cb B n p); rw [h.2.2 a b]; omega
theorem QK.n {B : Int → Int} {n p : Int} (h : QK B n p 2) : ¬ isLt (cb B n p) ∧ (cb B n p = 45 ∨ isDg (cb B n p)) ∧ nGd B n p := by
  by_cases a : isLt (cb B n p)
  · have := (h.1 a).r; omega
  · by_cases b : cb B n p = 45 ∨ isDg (cb B n p)
    · by_cases c : nGd B n p
      · exact ⟨a, b, c⟩
      · have := (h.2.1 a b).2 c; omega
    · have := h.2.2 a b; have := sgk_r (cb B n p); omega
theorem qE_gt {B : Int → Int} {n p : Int} (h0 : 0 ≤ p) (h1 : p < n) : p < qE B n p ∧ qE B n p ≤ n := by
  unfold qE
  by_cases a : isLt (cb B n p)
  · rw [if_pos a]
    have s : stL B n p := a
    rw [en_st stL_lt s]; have := en_r (st := stL B n) (p + 1) (show p + 1 ≤ n by omega); omega
  rw [if_neg a]
  by_cases b : cb B n p = 45 ∨ isDg (cb B n p)
  · rw [if_pos b]
    unfold qdg
    by_cases c : cb B n p = 45
    · rw [if_pos c]; have := en_r (st := stD B n) (p + 1) (show p + 1 ≤ n by omega); omega
    · rw [if_neg c]
      have s : stD B n p := b.resolve_left c
      rw [en_st stD_lt s]; have := en_r (st := stD B n) (p + 1) (show p + 1 ≤ n by omega); omega
  · rw [if_neg b]; omega
/-- where the tokens of a proof begin -/
def qps (B : Int → Int) (n : Int) : Nat → Int
  | 0 => en n (stB B n) 0
  | i + 1 => en n (stB B n) (qE B n (qps B n i))
def QKs (B : Int → Int) (n p k : Int) : Prop := (p < n → QK B n p k) ∧ (n ≤ p → k = 0)
theorem QKs.one {B : Int → Int} {n p k l : Int} (h : QKs B n p k) (g : QKs B n p l) : k = l := by
  by_cases c : p < n
  · exact (h.1 c).one (g.1 c)
  · rw [h.2 (by omega), g.2 (by omega)]
abbrev qgk (k : Int) : Prop := 2 ≤ k ∧ k ≠ 6
/-- the tokens up to the first that stops: T of them, kinds kp, values vp -/
def TQp (B : Int → Int) (n T : Int) (kp vp : Int → Int) : Prop := 1 ≤ T ∧ (∀ j : Nat, (j : Int) < T - 1 → qgk (kp j)) ∧ ¬ qgk (kp (T - 1)) ∧ (∀ j : Nat, (j : Int) < T → QKs B n (qps B n j) (kp j)) ∧ (∀ j, j < 0 ∨ T ≤ j → kp j = 0) ∧ ∀ j, vp j = if kp j = 2 then qV B n (qps B n j.toNat) else 0
theorem TQp.le {B : Int → Int} {n T T' : Int} {k v k' v' : Int → Int} (h : TQp B n T k v) (h' : TQp B n T' k' v') : T' ≤ T := by
  by_cases q : T < T'
  · exfalso
    have a := h'.2.1 (T - 1).toNat (by have := h.1; omega)
    have b := h.2.2.2.1 (T - 1).toNat (by have := h.1; omega); have c := h'.2.2.2.1 (T - 1).toNat (by have := h.1; omega)
    have e := b.one c
    have d := h.2.2.1
    rw [show (((T - 1).toNat : Nat) : Int) = T - 1 by have := h.1; omega] at a e
    rw [e] at d; exact d a
  · omega
theorem TQp.one {B : Int → Int} {n T T' : Int} {k v k' v' : Int → Int} (h : TQp B n T k v) (h' : TQp B n T' k' v') : T = T' ∧ k = k' ∧ v = v' := by
  have e : T = T' := by have := h.le h'; have := h'.le h; omega
  subst e
  have ek : k = k' := by
    funext j
    by_cases q : j < 0 ∨ T ≤ j
    · rw [h.2.2.2.2.1 j q, h'.2.2.2.2.1 j q]
    · have a := (h.2.2.2.1 j.toNat (by omega)).one (h'.2.2.2.1 j.toNat (by omega))
      rw [show ((j.toNat : Nat) : Int) = j by omega] at a; exact a
  subst ek
  exact ⟨rfl, rfl, funext fun j => by rw [h.2.2.2.2.2 j, h'.2.2.2.2.2 j]⟩
theorem TQp.kt {B : Int → Int} {n T : Int} {k v : Int → Int} (h : TQp B n T k v) : KT T k := fun j q => by
  by_cases c : j < 0 ∨ T ≤ j
  · exact absurd (h.2.2.2.2.1 j c) q
  · omega
theorem TQp.ks {B : Int → Int} {n T : Int} {k v : Int → Int} (h : TQp B n T k v) : KS T k := fun j a b => by
  have c := h.kt j (by omega)
  by_cases q : j = T - 1
  · rw [q] at a b; exact absurd ⟨a, b⟩ h.2.2.1
  · omega
theorem TQp.mk1 {B : Int → Int} {n : Int} {K : Int → Int} (N : Nat) (h : ∀ j : Nat, j ≤ N → QKs B n (qps B n j) (K j)) (hg : ∀ j : Nat, j < N → qgk (K j)) (h1 : ¬ qgk (K N)) : ∃ T kp vp, TQp B n T kp vp ∧ T = (N : Int) + 1 ∧ ∀ j, 0 ≤ j → j < T → kp j = K j := by
  have e : ∀ j : Int, 0 ≤ j → j ≤ N → (fun j : Int => if 0 ≤ j ∧ j ≤ N then K j else 0) j = K j := fun j a b => if_pos ⟨a, b⟩
  refine ⟨(N : Int) + 1, fun j => if 0 ≤ j ∧ j ≤ N then K j else 0, fun j => if (if 0 ≤ j ∧ j ≤ N then K j else 0) = 2 then qV B n (qps B n j.toNat) else 0, ⟨by omega, fun j q => ?_, ?_, fun j q => ?_, fun j q => if_neg (by omega), fun j => rfl⟩, rfl, fun j a b => e j a (by omega)⟩
  · rw [e j (by omega) (by omega)]; exact hg j (by omega)
  · rw [e ((N : Int) + 1 - 1) (by omega) (by omega), show (N : Int) + 1 - 1 = N by omega]; exact h1
  · rw [e j (by omega) (by omega)]; exact h j (by omega)
theorem TQp.mk {B : Int → Int} {n : Int} {K : Int → Int} : ∀ N : Nat, (∀ j : Nat, j ≤ N → QKs B n (qps B n j) (K j)) → ¬ qgk (K N) → ∃ T kp vp, TQp B n T kp vp ∧ T ≤ (N : Int) + 1 ∧ ∀ j, 0 ≤ j → j < T → kp j = K j := by
  intro N
  induction N using Nat.strongRecOn with
  | ind N ih =>
    intro h h1
    by_cases c : ∃ i : Nat, i < N ∧ ¬ qgk (K i)
    · obtain ⟨i, c1, c2⟩ := c
      obtain ⟨T, kp, vp, t1, t2, t3⟩ := ih i c1 (fun j q => h j (by omega)) c2
      exact ⟨T, kp, vp, t1, by omega, t3⟩
    · obtain ⟨T, kp, vp, t1, t2, t3⟩ := TQp.mk1 N h (fun j q => by by_cases z : qgk (K j); (exact z); exact absurd ⟨j, q, z⟩ c) h1
      exact ⟨T, kp, vp, t1, by omega, t3⟩
/-! The class's reader opens a text: its tokens -/
theorem dgt_cb {S : sS} {i : Int} : dgt S i ↔ stD (bt S 1) (S.1 1 1) i := by
  unfold dgt stD isDg
  by_cases c : 0 ≤ i ∧ i < S.1 1 1
  · rw [cb_in c.1 c.2]
  · have e : cb (bt S 1) (S.1 1 1) i = 0 := if_neg c
    rw [e, bt_out (by omega)]; omega
theorem lt_cb {S : sS} {i : Int} : isLt (bt S 1 i) ↔ isLt (cb (bt S 1) (S.1 1 1) i) := by
  by_cases c : 0 ≤ i ∧ i < S.1 1 1
  · rw [cb_in c.1 c.2]
  · have e : cb (bt S 1) (S.1 1 1) i = 0 := if_neg c
    rw [e, bt_out (by omega)]; unfold isLt; omega
theorem eq_cb {S : sS} {i x : Int} (hx : 1 ≤ x) : bt S 1 i = x ↔ cb (bt S 1) (S.1 1 1) i = x := by
  by_cases c : 0 ≤ i ∧ i < S.1 1 1
  · rw [cb_in c.1 c.2]
  · have e : cb (bt S 1) (S.1 1 1) i = 0 := if_neg c
    rw [e, bt_out (by omega)]; omega
theorem be_en {S : sS} {d e : Int} (h : d ≤ e) (h1 : ∀ k, d ≤ k → k < e → dgt S k) (h2 : ¬ dgt S e) : en (S.1 1 1) (stD (bt S 1) (S.1 1 1)) d = e :=
  en_be (fun i => stD_lt) h (fun i a b => dgt_cb.mp (h1 i a b)) (fun q => h2 (dgt_cb.mpr q))
theorem enN_stop {st : Int → Prop} [DecidablePred st] : ∀ (m : Nat) (p : Int), (∀ i, st i → i < p + m) → ¬ st (enN st m p) := by
  intro m
  induction m with
  | zero => intro p h q; have := h _ q; have : p < p + ((0 : Nat) : Int) := this; omega
  | succ m ih =>
    intro p h
    show ¬ st (if st p then enN st m (p + 1) else p)
    by_cases c : st p
    · rw [if_pos c]; exact ih (p + 1) (fun i q => by have := h i q; omega)
    · rw [if_neg c]; exact c
theorem en_stop {n : Int} {st : Int → Prop} [DecidablePred st] (hn : ∀ i, st i → i < n) (p : Int) : ¬ st (en n st p) := enN_stop (n - p).toNat p (fun i q => by have := hn i q; omega)
theorem en_d {S : sS} {d : Int} : d ≤ en (S.1 1 1) (stD (bt S 1) (S.1 1 1)) d ∧ (∀ k, d ≤ k → k < en (S.1 1 1) (stD (bt S 1) (S.1 1 1)) d → dgt S k) ∧ ¬ dgt S (en (S.1 1 1) (stD (bt S 1) (S.1 1 1)) d) := by
  have r := enN_r (st := stD (bt S 1) (S.1 1 1)) ((S.1 1 1) - d).toNat d
  refine ⟨r.1, fun k a b => dgt_cb.mpr (r.2.2 k a b), fun q => ?_⟩
  have q := dgt_cb.mp q
  exact en_stop (fun i => stD_lt) d q
/-- what a NUMBER of the text says -/
theorem QK.nv {S : sS} {p : Int} (h : QK (bt S 1) (S.1 1 1) p 2) : NVc S p (qV (bt S 1) (S.1 1 1) p) := by
  obtain ⟨_, h2, h3⟩ := h.n
  unfold nGd qdg at h3
  unfold qV
  refine ⟨fun q => ?_, fun q => ?_⟩
  · have q := (eq_cb (S := S) (by decide)).mp q
    rw [if_pos q] at h3 ⊢
    obtain ⟨d1, d2, d3⟩ := en_d (S := S) (d := p + 1)
    refine ⟨_, h3.1, d2, d3, rfl, ?_⟩
    obtain ⟨i, i1, i2, i3⟩ := h3.2.2 q
    have z := (dvn_pos (B := bt S 1) (p := p + 1) (en (S.1 1 1) (stD (bt S 1) (S.1 1 1)) (p + 1) - (p + 1)).toNat (fun j a b => (d2 j a (by omega)).1)).mp ⟨i, i1, by omega, i3⟩
    omega
  · have q : ¬ cb (bt S 1) (S.1 1 1) p = 45 := fun z => q ((eq_cb (S := S) (by decide)).mpr z)
    rw [if_neg q] at h3 ⊢
    obtain ⟨d1, d2, d3⟩ := en_d (S := S) (d := p)
    exact ⟨_, h3.1, d2, d3, rfl⟩
/-- while tokens are taken: the next is looked for from i on -/
def QI (B : Int → Int) (n : Int) (u : sS) (i : Int) : Prop := 0 ≤ u.1 189 2 ∧ u.1 189 2 ≤ i ∧ en n (stB B n) i = qps B n (u.1 189 2).toNat ∧ ∀ j : Nat, (j : Int) < u.1 189 2 → u.2.1 192 j / 16 = qps B n j ∧ QKs B n (qps B n j) (u.2.1 192 j % 16) ∧ u.2.1 192 j % 16 ≠ 1
/-- all tokens are there, up to END or BAD -/
def QF (B : Int → Int) (n : Int) (u : sS) : Prop := ∃ N : Nat, (N : Int) < u.1 189 2 ∧ (∀ j : Nat, j ≤ N → u.2.1 192 j / 16 = qps B n j ∧ QKs B n (qps B n j) (u.2.1 192 j % 16)) ∧ u.2.1 192 N % 16 ≤ 1
theorem QI.zero {B : Int → Int} {n : Int} {u : sS} (h : u.1 189 2 = 0) : QI B n u 0 := ⟨by omega, by omega, by rw [h]; rfl, fun j q => by omega⟩
theorem QI.of {B : Int → Int} {n : Int} {u v : sS} {i : Int} (h : QI B n u i) (e1 : v.1 189 2 = u.1 189 2) (e2 : ∀ j, v.2.1 192 j = u.2.1 192 j) : QI B n v i := by
  unfold QI at h ⊢
  rw [e1]
  exact ⟨h.1, h.2.1, h.2.2.1, fun j q => by rw [e2]; exact h.2.2.2 j q⟩
theorem QF.of {B : Int → Int} {n : Int} {u v : sS} (h : QF B n u) (e1 : v.1 189 2 = u.1 189 2) (e2 : ∀ j, v.2.1 192 j = u.2.1 192 j) : QF B n v := by
  obtain ⟨N, a, b, c⟩ := h
  exact ⟨N, by rw [e1]; exact a, fun j q => by rw [e2]; exact b j q, by rw [e2]; exact c⟩
theorem QI.blank {B : Int → Int} {n : Int} {u : sS} {i : Int} (h : QI B n u i) (hb : stB B n i) : QI B n u (i + 1) := by
  refine ⟨h.1, by have := h.2.1; omega, ?_, h.2.2.2⟩
  rw [← en_st (fun _ => stB_lt hb) hb]; exact h.2.2.1
theorem MK.in {S u : sS} {kd st : Int} (h : MK S u kd st) (h0 : S.1 189 2 < 30001) : u.1 189 2 = S.1 189 2 + 1 ∧ ∀ k, u.2.1 192 k = if k = S.1 189 2 then st * 16 + kd else S.2.1 192 k := by
  rcases h with ⟨_, e⟩ | ⟨z, _⟩
  · refine ⟨by rw [e, uF_on], fun k => ?_⟩
    rw [e]; show (uA S 192 (S.1 189 2) (st * 16 + kd)).2.1 192 k = _
    rw [uA_get]; simp
  · omega
theorem QI.tok {B : Int → Int} {n : Int} {S u : sS} {i k : Int} (h : QI B n S i) (hi : 0 ≤ i ∧ i < n ∧ n ≤ 30000) (hb : ¬ stB B n i) (hm : MK S u k i) (hk : QK B n i k) : (k ≠ 1 → QI B n u (qE B n i)) ∧ (k = 1 → QF B n u) := by
  obtain ⟨h0, h1, h2, h3⟩ := h
  obtain ⟨m1, m2⟩ := hm.in (by omega)
  have e0 : i = qps B n (S.1 189 2).toNat := by rw [← h2, en_no hb]
  have kr := hk.r
  have g := qE_gt (B := B) (n := n) (p := i) (by omega) (by omega)
  have all : ∀ j : Nat, (j : Int) < u.1 189 2 → u.2.1 192 j / 16 = qps B n j ∧ QKs B n (qps B n j) (u.2.1 192 j % 16) ∧ ((j : Int) < S.1 189 2 → u.2.1 192 j % 16 ≠ 1) := by
    intro j q
    rw [m2]
    by_cases z : (j : Int) = S.1 189 2
    · rw [if_pos z, show (i * 16 + k) / 16 = i by omega, show (i * 16 + k) % 16 = k by omega]
      have e1 : qps B n j = i := by rw [e0]; congr 1; omega
      rw [e1]
      exact ⟨rfl, ⟨fun _ => hk, fun y => by omega⟩, fun y => by omega⟩
    · rw [if_neg z]
      have y := h3 j (by omega)
      exact ⟨y.1, y.2.1, fun _ => y.2.2⟩
  refine ⟨fun q => ⟨by omega, by omega, ?_, fun j z => ⟨(all j z).1, (all j z).2.1, ?_⟩⟩, fun q => ⟨(S.1 189 2).toNat, by omega, fun j z => ⟨(all j (by omega)).1, (all j (by omega)).2.1⟩, ?_⟩⟩
  · rw [m1, show (S.1 189 2 + 1).toNat = (S.1 189 2).toNat + 1 by omega]
    show _ = en n (stB B n) (qE B n (qps B n (S.1 189 2).toNat))
    rw [← e0]
  · by_cases y : (j : Int) = S.1 189 2
    · rw [m2, if_pos y]; omega
    · exact (all j z).2.2 (by omega)
  · rw [m2, if_pos (by omega)]; omega
theorem QI.fin {B : Int → Int} {n : Int} {S u : sS} {i : Int} (h : QI B n S i) (hi : i = n ∧ 0 ≤ n ∧ n ≤ 30000) (hm : MK S u 0 n) : QF B n u := by
  obtain ⟨h0, h1, h2, h3⟩ := h
  obtain ⟨m1, m2⟩ := hm.in (by omega)
  have e0 : n = qps B n (S.1 189 2).toNat := by
    rw [← h2, hi.1, en_no (fun q => by have := stB_lt q; omega)]
  refine ⟨(S.1 189 2).toNat, by omega, fun j z => ?_, ?_⟩
  · rw [m2]
    by_cases y : (j : Int) = S.1 189 2
    · rw [if_pos y, show (n * 16 + 0) / 16 = n by omega, show (n * 16 + 0) % 16 = 0 by omega]
      have e1 : qps B n j = n := by
        have e2 : j = (S.1 189 2).toNat := by omega
        rw [e2]; exact e0.symm
      rw [e1]
      exact ⟨rfl, fun y => by omega, fun _ => rfl⟩
    · rw [if_neg y]
      have w := h3 j (by omega)
      exact ⟨w.1, w.2.1⟩
  · rw [m2, if_pos (by omega)]; omega
theorem QF.mk {B : Int → Int} {n : Int} {S u : sS} {k i : Int} (h : QF B n S) (hm : MK S u k i) : QF B n u := by
  rcases hm with ⟨z, e⟩ | ⟨_, e⟩
  · obtain ⟨m1, m2⟩ := MK.in (S := S) (u := u) (kd := k) (st := i) (.inl ⟨z, e⟩) z
    obtain ⟨N, a, b, c⟩ := h
    refine ⟨N, by omega, fun j q => ?_, ?_⟩
    · rw [m2, if_neg (by omega)]; exact b j q
    · rw [m2, if_neg (by omega)]; exact c
  · rw [e]; exact h
theorem PT.mk {S u : sS} (h : QF (bt S 1) (S.1 1 1) u) (e1 : u.1 1 1 = S.1 1 1) (e2 : ∀ j, u.2.1 2 j = S.2.1 2 j) : ∃ T kp vp, TQp (bt S 1) (S.1 1 1) T kp vp ∧ PT u T kp vp := by
  obtain ⟨N, a, b, c⟩ := h
  obtain ⟨T, kp, vp, t1, t2, t3⟩ := TQp.mk (B := bt S 1) (n := S.1 1 1) (K := fun j => u.2.1 192 j % 16) N (fun j q => (b j q).2) (by unfold qgk; omega)
  refine ⟨T, kp, vp, t1, by omega, fun j j0 j1 => ?_⟩
  have e := t3 j j0 j1
  refine ⟨e.symm, fun q => ?_⟩
  have f := b j.toNat (by omega)
  rw [show ((j.toNat : Nat) : Int) = j by omega] at f
  have g : QKs (bt S 1) (S.1 1 1) (qps (bt S 1) (S.1 1 1) j.toNat) 2 := by rw [← q, e]; exact f.2
  rw [f.1, t1.2.2.2.2.2 j, if_pos q]
  by_cases z : qps (bt S 1) (S.1 1 1) j.toNat < S.1 1 1
  · exact (g.1 z).nv.of (bt_eq e1 e2)
  · exact absurd (g.2 (by omega)) (by decide)
theorem nGd_i {S : sS} {q d e : Int} (hd : qdg (bt S 1) (S.1 1 1) q = d) (he : en (S.1 1 1) (stD (bt S 1) (S.1 1 1)) d = e) : nGd (bt S 1) (S.1 1 1) q ↔ (d < e ∧ e - d ≤ 60 ∧ (bt S 1 q = 45 → ∃ i, d ≤ i ∧ i < e ∧ bt S 1 i ≠ 48)) := by
  unfold nGd
  rw [hd, he, ← eq_cb (S := S) (i := q) (x := 45) (by decide)]
theorem open_st {S T u : sS} {i r : Int} (eN : T.1 1 1 = S.1 1 1) (eB : bt T 1 = bt S 1) (hi : 0 ≤ i ∧ i < S.1 1 1 ∧ S.1 1 1 ≤ 30000) (hq : QI (bt S 1) (S.1 1 1) T i) (h1 : stB (bt T 1) (T.1 1 1) i → r = i + 1 ∧ u.1 189 2 = T.1 189 2 ∧ ∀ j, u.2.1 192 j = T.2.1 192 j) (h2 : ¬ stB (bt T 1) (T.1 1 1) i → r = qE (bt T 1) (T.1 1 1) i ∧ ∃ k, MK T u k i ∧ QK (bt T 1) (T.1 1 1) i k) : (i < r ∧ r ≤ S.1 1 1) ∧ (QI (bt S 1) (S.1 1 1) u r ∨ (0 < u.1 189 2 ∧ u.2.1 192 (u.1 189 2 - 1) % 16 = 1 ∧ QF (bt S 1) (S.1 1 1) u)) := by
  rw [eN, eB] at h1 h2
  by_cases b : stB (bt S 1) (S.1 1 1) i
  · obtain ⟨e, e1, e2⟩ := h1 b
    rw [e]
    exact ⟨by omega, .inl ((hq.blank b).of e1 e2)⟩
  · obtain ⟨e, k, m, y⟩ := h2 b
    have g := qE_gt (B := bt S 1) (n := S.1 1 1) (p := i) (by omega) (by omega)
    have t := hq.tok hi b m y
    rw [e]
    refine ⟨g, ?_⟩
    by_cases z : k = 1
    · obtain ⟨m1, m2⟩ := m.in (by have := hq.2.1; omega)
      refine .inr ⟨by have := hq.1; omega, ?_, t.2 z⟩
      rw [m2, if_pos (by omega)]; omega
    · exact .inl (t.1 z)
theorem QI.no1 {B : Int → Int} {n : Int} {u : sS} {i j : Int} (h : QI B n u i) (h0 : 0 < u.1 189 2) (hj : j = u.1 189 2 - 1) (h1 : u.2.1 192 j % 16 = 1) : False := by
  have a := h.2.2.2 j.toNat (by omega)
  rw [show ((j.toNat : Nat) : Int) = j by omega] at a
  exact a.2.2 h1
set_option maxRecDepth 100000 in
set_option maxHeartbeats 4000000 in
theorem b_X4_scanWord (l : Launch) (G : sG) (S : sS) {i0 ln : Int} (hI : cX G S 0 0 0) (hi0 : 0 ≤ i0 ∧ i0 < ln) (hln : ln = S.1 1 1) (hrt : RT G S) (hrs : RS S) (hDG : DG S i0) : Met l yX4_scanWord (.code yX4_scanWord cX4_scanWord 6 (some .int) :: tb) (rmk 6 0 0) (sPc G 294 S [.ref (G.2.2.1 + 189), .int (iv i0), .int (iv ln)]) (sQi G 294 (fun r u => cX G u 0 0 0 ∧ Fr S u pRd ∧ ((0 ≤ r ∧ r ≤ 30001) ∧ RT G u ∧ RS u ∧ Hd (∃ k, MK S u k i0 ∧ WK (bt S 1) i0 r k) ∧ Hd (r = en (S.1 1 1) (stL (bt S 1) (S.1 1 1)) i0)))) 0 0 (sF G) := by
  refine sEnter (by decide) (Nat.le_of_ble_eq_true rfl) ?_
  intro p e s m args below meth c Cx hr hlk hnm hW ls hl
  have Cx : sC G p m c cX4_scanWord 6 s args RX4 := Cx
  obtain ⟨hx, hb, hml, hown, hts⟩ := id Cx.1
  have hL : sL G [] := sL_nil
  have hl : lv_has ls 6 [(0, .ref (G.2.2.1 + 189)), (1, .int (iv i0)), (2, .int (iv ln))] := hl
  have hW0 := hW
  have hl1 : 0 ≤ S.1 1 1 ∧ S.1 1 1 ≤ 30000 := hI.fi 1 1 10 (by decide) rfl
  refine lv_iload_n hx hb dX4_scanWord_0 rfl (lv_at hl 1 rfl) ?_
  refine lv_istore_n (lv' := [(3, .int (iv i0)), (0, .ref (G.2.2.1 + 189)), (1, .int (iv i0)), (2, .int (iv ln))]) hx hb dX4_scanWord_1 rfl hl (by decide) rfl (fun ls hl => ?_)
  have loop_2 : ∀ (fuel : Nat) (bh : Int) (H : Heap) (locs : List Loc) (ls : Array Slot), (ln - bh).toNat < fuel → (i0 ≤ bh ∧ bh ≤ ln) → (Hd (∀ i, i0 ≤ i → i < bh → isLt (bt S 1 i))) → sW G 294 S H → sL G locs → lv_has ls 6 [(3, .int (iv bh)), (0, .ref (G.2.2.1 + 189)), (1, .int (iv i0)), (2, .int (iv ln))] → W p l e (rmk 6 0 0) s m args below meth c H locs 0 0 (MQ below (sQi G 294 (fun r u => cX G u 0 0 0 ∧ Fr S u pRd ∧ ((0 ≤ r ∧ r ≤ 30001) ∧ RT G u ∧ RS u ∧ Hd (∃ k, MK S u k i0 ∧ WK (bt S 1) i0 r k) ∧ Hd (r = en (S.1 1 1) (stL (bt S 1) (S.1 1 1)) i0)))) args s 0 0 (sF G)) (F0 m 2 ls []) := by
    intro fuel
    induction fuel with
    | zero => intro bh H locs ls hmeas hbh hll hW hL hl; exact absurd hmeas (Nat.not_lt_zero _)
    | succ fuel ih_2 =>
      intro bh H locs ls hmeas hbh hll hW hL hl
      refine lv_iload_n hx hb dX4_scanWord_2 rfl (lv_at hl 0 rfl) ?_
      refine lv_iload_n hx hb dX4_scanWord_3 rfl (lv_at hl 3 rfl) ?_
      refine r_icmp_ge (tgt := 27) hx hb ⟨(by omega), (by omega)⟩ ⟨(by omega), (by omega)⟩ dX4_scanWord_4 (by decide) (fun c_1 => ?_) (fun c_1 => ?_)
      · have hbe : Hd (en (S.1 1 1) (stL (bt S 1) (S.1 1 1)) i0 = bh) := (show _ = _ from en_be (fun i => stL_lt) (by omega) (fun i a c => lt_cb.mp (hll i a c)) (fun q => by have := stL_lt q; omega))
        refine lv_bipush (v := iv 6) hx hb dX4_scanWord_27 (by decide) ?_
        refine lv_istore (lv' := [(4, .int (iv 6)), (3, .int (iv bh)), (0, .ref (G.2.2.1 + 189)), (1, .int (iv i0)), (2, .int (iv ln))]) hx hb dX4_scanWord_29 hl (by decide) rfl (fun ls hl => ?_)
        refine lv_bipush (v := iv 7) hx hb dX4_scanWord_31 (by decide) ?_
        refine lv_istore (lv' := [(5, .int (iv 7)), (4, .int (iv 6)), (3, .int (iv bh)), (0, .ref (G.2.2.1 + 189)), (1, .int (iv i0)), (2, .int (iv ln))]) hx hb dX4_scanWord_33 hl (by decide) rfl (fun ls hl => ?_)
        have loop_35 : ∀ (fuel : Nat) (kk : Int) (kn : Int) (H : Heap) (locs : List Loc) (ls : Array Slot), (16 - kk).toNat < fuel → (6 ≤ kn ∧ kn ≤ 15) → (7 ≤ kk ∧ kk ≤ 16) → (Hd (WTr (bt S 1) i0 bh kk kn)) → sW G 294 S H → sL G locs → lv_has ls 6 [(5, .int (iv kk)), (4, .int (iv kn)), (3, .int (iv bh)), (0, .ref (G.2.2.1 + 189)), (1, .int (iv i0)), (2, .int (iv ln))] → W p l e (rmk 6 0 0) s m args below meth c H locs 0 0 (MQ below (sQi G 294 (fun r u => cX G u 0 0 0 ∧ Fr S u pRd ∧ ((0 ≤ r ∧ r ≤ 30001) ∧ RT G u ∧ RS u ∧ Hd (∃ k, MK S u k i0 ∧ WK (bt S 1) i0 r k) ∧ Hd (r = en (S.1 1 1) (stL (bt S 1) (S.1 1 1)) i0)))) args s 0 0 (sF G)) (F0 m 35 ls []) := by
          intro fuel
          induction fuel with
          | zero => intro kk kn H locs ls hmeas hkn hkk hwt hW hL hl; exact absurd hmeas (Nat.not_lt_zero _)
          | succ fuel ih_35 =>
            intro kk kn H locs ls hmeas hkn hkk hwt hW hL hl
            refine lv_iload hx hb dX4_scanWord_35 (lv_at hl 0 rfl) ?_
            refine lv_bipush (v := iv 15) hx hb dX4_scanWord_37 (by decide) ?_
            refine r_icmp_gt (tgt := 66) hx hb ⟨(by omega), (by omega)⟩ ⟨(by omega), (by omega)⟩ dX4_scanWord_39 (by decide) (fun c_2 => ?_) (fun c_2 => ?_)
            · refine lv_aload_n hx hb dX4_scanWord_66 rfl (lv_at hl 3 rfl) ?_
              refine lv_iload hx hb dX4_scanWord_67 (lv_at hl 1 rfl) ?_
              refine lv_iload_n hx hb dX4_scanWord_69 rfl (lv_at hl 4 rfl) ?_
              refine sBv (sV (As := [.int (iv kn), .int (iv i0)]) (rest := []) (k := 189) Cx (s_X4_mark l G S (kd := kn) (sr := i0) hI (by omega) (by omega)) (c_X4_36 Cx rfl rfl (rmk_ok (by omega) (by decide))) hW (by decide) rfl rfl rfl hl.1 rfl (Nat.le_of_ble_eq_true rfl) dX4_scanWord_70 ⟨Nat.le_of_ble_eq_true rfl, Nat.le_of_ble_eq_true rfl⟩) hL (fun u_3 H locs k_4 hW hL => ?_)
              obtain ⟨iu_3, fu_3, xu_3⟩ := k_4
              have F_5 := (Fr.rf : Fr S S pRd).trans fu_3
              have hrt2 : RT G u_3 := MK.rt xu_3 hrt
              have hrs2 : RS u_3 := MK.rs xu_3 hrs (by omega) (fun _ => hDG)
              refine lv_iload_n hx hb dX4_scanWord_73 rfl (lv_at hl 2 rfl) ?_
              exact sIret Cx hr hlk hW hL ⟨iu_3, F_5, ⟨(by omega), hrt2, hrs2, (show ∃ k, _ ∧ _ from ⟨kn, xu_3, WTr.fin hwt (by omega)⟩), (show _ = _ from (show _ = _ from hbe).symm)⟩⟩ dX4_scanWord_74
            · refine lv_aload_n hx hb dX4_scanWord_42 rfl (lv_at hl 3 rfl) ?_
              refine lv_iload_n hx hb dX4_scanWord_43 rfl (lv_at hl 4 rfl) ?_
              refine lv_iload_n hx hb dX4_scanWord_44 rfl (lv_at hl 2 rfl) ?_
              refine lv_iload hx hb dX4_scanWord_45 (lv_at hl 0 rfl) ?_
              refine sBs (sSt (As := [.int (iv kk)]) (rest := [.int (iv bh), .int (iv i0), .ref (G.2.2.1 + 189)]) Cx (b_X4_word l G S (k := kk) (by omega)) (c_X4_62 Cx rfl rfl (rmk_ok (by omega) (by decide))) hW rfl hl.1 rfl (Nat.le_of_ble_eq_true rfl) dX4_scanWord_47 ⟨Nat.le_of_ble_eq_true rfl, Nat.le_of_ble_eq_true rfl⟩) hL (fun r_8 u_6 H locs k_7 hW hL => ?_)
              obtain ⟨eu_6, xu_6⟩ := k_7
              rw [eu_6] at hW
              have hsi := xu_6.2
              refine sBi (sV (As := [.int (iv i0), .int (iv bh), .ref (G.1.2 100 r_8)]) (rest := []) (k := 189) Cx (b_X4_isWord l G S (f := i0) (b := bh) (si := r_8) hI (by omega) hsi hrt) (c_X4_66 Cx rfl rfl (rmk_ok (by omega) (by decide))) hW (by decide) rfl rfl rfl hl.1 rfl (Nat.le_of_ble_eq_true rfl) dX4_scanWord_50 ⟨Nat.le_of_ble_eq_true rfl, Nat.le_of_ble_eq_true rfl⟩) hL (fun r_11 u_9 H locs k_10 hW hL => ?_)
              obtain ⟨eu_9, xu_9⟩ := k_10
              rw [eu_9] at hW
              refine r_if_eq (tgt := 60) hx hb ⟨(by omega), (by omega)⟩ dX4_scanWord_53 (by decide) (fun c_12 => ?_) (fun c_12 => ?_)
              · refine lv_iinc (v := iv (kk + 1)) (lv' := [(5, .int (iv (kk + 1))), (4, .int (iv kn)), (3, .int (iv bh)), (0, .ref (G.2.2.1 + 189)), (1, .int (iv i0)), (2, .int (iv ln))]) hx hb dX4_scanWord_60 hl (k := 0) rfl ((Int32.ofInt_add _ _).symm) (by decide) rfl (fun ls hl => ?_)
                refine lv_goto (tgt := 35) hx hb dX4_scanWord_63 (by decide) ?_
                exact ih_35 (kk + 1) kn _ _ _ (by omega) (by omega) (by omega) (by have e := (show _ ↔ _ from xu_9.2.2); rw [xu_6.1] at e; first | exact WTr.yes hwt (by omega) (e.mp (by omega)) | exact WTr.no hwt (fun z => absurd (e.mpr z) (by omega))) hW hL (lv_sub hl [0, 1, 2, 3, 4, 5] rfl)
              · refine lv_iload hx hb dX4_scanWord_56 (lv_at hl 0 rfl) ?_
                refine lv_istore (lv' := [(4, .int (iv kk)), (5, .int (iv kk)), (3, .int (iv bh)), (0, .ref (G.2.2.1 + 189)), (1, .int (iv i0)), (2, .int (iv ln))]) hx hb dX4_scanWord_58 hl (by decide) rfl (fun ls hl => ?_)
                refine lv_iinc (v := iv (kk + 1)) (lv' := [(5, .int (iv (kk + 1))), (4, .int (iv kk)), (3, .int (iv bh)), (0, .ref (G.2.2.1 + 189)), (1, .int (iv i0)), (2, .int (iv ln))]) hx hb dX4_scanWord_60 hl (k := 1) rfl ((Int32.ofInt_add _ _).symm) (by decide) rfl (fun ls hl => ?_)
                refine lv_goto (tgt := 35) hx hb dX4_scanWord_63 (by decide) ?_
                exact ih_35 (kk + 1) kk _ _ _ (by omega) (by omega) (by omega) (by have e := (show _ ↔ _ from xu_9.2.2); rw [xu_6.1] at e; first | exact WTr.yes hwt (by omega) (e.mp (by omega)) | exact WTr.no hwt (fun z => absurd (e.mpr z) (by omega))) hW hL (lv_sub hl [0, 1, 2, 3, 4, 5] rfl)
        exact loop_35 (_ + 1) 7 6 _ _ _ (Nat.lt_succ_self _) (by omega) (by omega) (.inr ⟨rfl, fun i a b => absurd b (by omega)⟩) hW hL (lv_sub hl [0, 1, 2, 3, 4, 5] rfl)
      · refine lv_aload_n hx hb dX4_scanWord_7 rfl (lv_at hl 1 rfl) ?_
        refine g_X4_14 Cx hW (k := 189) (by decide) rfl (v := .ref (G.2.2.1 + 1)) hrt dX4_scanWord_8 ?_
        refine lv_iload_n hx hb dX4_scanWord_11 rfl (lv_at hl 0 rfl) ?_
        have q_13 : 0 ≤ S.1 1 1 ∧ S.1 1 1 ≤ 30000 := hI.fi 1 1 10 (by decide) rfl
        refine sBi (sV (As := [.int (iv bh)]) (rest := []) (k := 1) Cx (s_X10_byteAt l G S (o := 1) (k := bh) (N := 30000) hI ⟨by decide, rfl, rfl, rfl, rfl, by decide⟩ (by omega)) (c_X4_43 Cx rfl rfl (rmk_ok (by omega) (by decide))) hW (by decide) rfl rfl rfl hl.1 rfl (Nat.le_of_ble_eq_true rfl) dX4_scanWord_12 ⟨Nat.le_of_ble_eq_true rfl, Nat.le_of_ble_eq_true rfl⟩) hL (fun r_16 u_14 H locs k_15 hW hL => ?_)
        obtain ⟨eu_14, xu_14⟩ := k_15
        rw [eu_14] at hW
        refine sBi (sSt (As := [.int (iv r_16)]) (rest := []) Cx (b_X8_isLetter l G S (k := r_16) (by omega)) (c_X4_47 Cx rfl rfl (rmk_ok (by omega) (by decide))) hW rfl hl.1 rfl (Nat.le_of_ble_eq_true rfl) dX4_scanWord_15 ⟨Nat.le_of_ble_eq_true rfl, Nat.le_of_ble_eq_true rfl⟩) hL (fun r_19 u_17 H locs k_18 hW hL => ?_)
        obtain ⟨eu_17, xu_17⟩ := k_18
        rw [eu_17] at hW
        refine r_if_eq (tgt := 27) hx hb ⟨(by omega), (by omega)⟩ dX4_scanWord_18 (by decide) (fun c_20 => ?_) (fun c_20 => ?_)
        · have hbe : Hd (en (S.1 1 1) (stL (bt S 1) (S.1 1 1)) i0 = bh) := (show _ = _ from en_be (fun i => stL_lt) (by omega) (fun i a c => lt_cb.mp (hll i a c)) (fun q => by have e := (show _ → _ from xu_17.2.2) (by omega); rw [xu_14.1] at e; exact e (lt_cb.mpr q)))
          refine lv_bipush (v := iv 6) hx hb dX4_scanWord_27 (by decide) ?_
          refine lv_istore (lv' := [(4, .int (iv 6)), (3, .int (iv bh)), (0, .ref (G.2.2.1 + 189)), (1, .int (iv i0)), (2, .int (iv ln))]) hx hb dX4_scanWord_29 hl (by decide) rfl (fun ls hl => ?_)
          refine lv_bipush (v := iv 7) hx hb dX4_scanWord_31 (by decide) ?_
          refine lv_istore (lv' := [(5, .int (iv 7)), (4, .int (iv 6)), (3, .int (iv bh)), (0, .ref (G.2.2.1 + 189)), (1, .int (iv i0)), (2, .int (iv ln))]) hx hb dX4_scanWord_33 hl (by decide) rfl (fun ls hl => ?_)
          have loop_35 : ∀ (fuel : Nat) (kk : Int) (kn : Int) (H : Heap) (locs : List Loc) (ls : Array Slot), (16 - kk).toNat < fuel → (6 ≤ kn ∧ kn ≤ 15) → (7 ≤ kk ∧ kk ≤ 16) → (Hd (WTr (bt S 1) i0 bh kk kn)) → sW G 294 S H → sL G locs → lv_has ls 6 [(5, .int (iv kk)), (4, .int (iv kn)), (3, .int (iv bh)), (0, .ref (G.2.2.1 + 189)), (1, .int (iv i0)), (2, .int (iv ln))] → W p l e (rmk 6 0 0) s m args below meth c H locs 0 0 (MQ below (sQi G 294 (fun r u => cX G u 0 0 0 ∧ Fr S u pRd ∧ ((0 ≤ r ∧ r ≤ 30001) ∧ RT G u ∧ RS u ∧ Hd (∃ k, MK S u k i0 ∧ WK (bt S 1) i0 r k) ∧ Hd (r = en (S.1 1 1) (stL (bt S 1) (S.1 1 1)) i0)))) args s 0 0 (sF G)) (F0 m 35 ls []) := by
            intro fuel
            induction fuel with
            | zero => intro kk kn H locs ls hmeas hkn hkk hwt hW hL hl; exact absurd hmeas (Nat.not_lt_zero _)
            | succ fuel ih_35 =>
              intro kk kn H locs ls hmeas hkn hkk hwt hW hL hl
              refine lv_iload hx hb dX4_scanWord_35 (lv_at hl 0 rfl) ?_
              refine lv_bipush (v := iv 15) hx hb dX4_scanWord_37 (by decide) ?_
              refine r_icmp_gt (tgt := 66) hx hb ⟨(by omega), (by omega)⟩ ⟨(by omega), (by omega)⟩ dX4_scanWord_39 (by decide) (fun c_21 => ?_) (fun c_21 => ?_)
              · refine lv_aload_n hx hb dX4_scanWord_66 rfl (lv_at hl 3 rfl) ?_
                refine lv_iload hx hb dX4_scanWord_67 (lv_at hl 1 rfl) ?_
                refine lv_iload_n hx hb dX4_scanWord_69 rfl (lv_at hl 4 rfl) ?_
                refine sBv (sV (As := [.int (iv kn), .int (iv i0)]) (rest := []) (k := 189) Cx (s_X4_mark l G S (kd := kn) (sr := i0) hI (by omega) (by omega)) (c_X4_36 Cx rfl rfl (rmk_ok (by omega) (by decide))) hW (by decide) rfl rfl rfl hl.1 rfl (Nat.le_of_ble_eq_true rfl) dX4_scanWord_70 ⟨Nat.le_of_ble_eq_true rfl, Nat.le_of_ble_eq_true rfl⟩) hL (fun u_22 H locs k_23 hW hL => ?_)
                obtain ⟨iu_22, fu_22, xu_22⟩ := k_23
                have F_24 := (Fr.rf : Fr S S pRd).trans fu_22
                have hrt2 : RT G u_22 := MK.rt xu_22 hrt
                have hrs2 : RS u_22 := MK.rs xu_22 hrs (by omega) (fun _ => hDG)
                refine lv_iload_n hx hb dX4_scanWord_73 rfl (lv_at hl 2 rfl) ?_
                exact sIret Cx hr hlk hW hL ⟨iu_22, F_24, ⟨(by omega), hrt2, hrs2, (show ∃ k, _ ∧ _ from ⟨kn, xu_22, WTr.fin hwt (by omega)⟩), (show _ = _ from (show _ = _ from hbe).symm)⟩⟩ dX4_scanWord_74
              · refine lv_aload_n hx hb dX4_scanWord_42 rfl (lv_at hl 3 rfl) ?_
                refine lv_iload_n hx hb dX4_scanWord_43 rfl (lv_at hl 4 rfl) ?_
                refine lv_iload_n hx hb dX4_scanWord_44 rfl (lv_at hl 2 rfl) ?_
                refine lv_iload hx hb dX4_scanWord_45 (lv_at hl 0 rfl) ?_
                refine sBs (sSt (As := [.int (iv kk)]) (rest := [.int (iv bh), .int (iv i0), .ref (G.2.2.1 + 189)]) Cx (b_X4_word l G S (k := kk) (by omega)) (c_X4_62 Cx rfl rfl (rmk_ok (by omega) (by decide))) hW rfl hl.1 rfl (Nat.le_of_ble_eq_true rfl) dX4_scanWord_47 ⟨Nat.le_of_ble_eq_true rfl, Nat.le_of_ble_eq_true rfl⟩) hL (fun r_27 u_25 H locs k_26 hW hL => ?_)
                obtain ⟨eu_25, xu_25⟩ := k_26
                rw [eu_25] at hW
                have hsi := xu_25.2
                refine sBi (sV (As := [.int (iv i0), .int (iv bh), .ref (G.1.2 100 r_27)]) (rest := []) (k := 189) Cx (b_X4_isWord l G S (f := i0) (b := bh) (si := r_27) hI (by omega) hsi hrt) (c_X4_66 Cx rfl rfl (rmk_ok (by omega) (by decide))) hW (by decide) rfl rfl rfl hl.1 rfl (Nat.le_of_ble_eq_true rfl) dX4_scanWord_50 ⟨Nat.le_of_ble_eq_true rfl, Nat.le_of_ble_eq_true rfl⟩) hL (fun r_30 u_28 H locs k_29 hW hL => ?_)
                obtain ⟨eu_28, xu_28⟩ := k_29
                rw [eu_28] at hW
                refine r_if_eq (tgt := 60) hx hb ⟨(by omega), (by omega)⟩ dX4_scanWord_53 (by decide) (fun c_31 => ?_) (fun c_31 => ?_)
                · refine lv_iinc (v := iv (kk + 1)) (lv' := [(5, .int (iv (kk + 1))), (4, .int (iv kn)), (3, .int (iv bh)), (0, .ref (G.2.2.1 + 189)), (1, .int (iv i0)), (2, .int (iv ln))]) hx hb dX4_scanWord_60 hl (k := 0) rfl ((Int32.ofInt_add _ _).symm) (by decide) rfl (fun ls hl => ?_)
                  refine lv_goto (tgt := 35) hx hb dX4_scanWord_63 (by decide) ?_
                  exact ih_35 (kk + 1) kn _ _ _ (by omega) (by omega) (by omega) (by have e := (show _ ↔ _ from xu_28.2.2); rw [xu_25.1] at e; first | exact WTr.yes hwt (by omega) (e.mp (by omega)) | exact WTr.no hwt (fun z => absurd (e.mpr z) (by omega))) hW hL (lv_sub hl [0, 1, 2, 3, 4, 5] rfl)
                · refine lv_iload hx hb dX4_scanWord_56 (lv_at hl 0 rfl) ?_
                  refine lv_istore (lv' := [(4, .int (iv kk)), (5, .int (iv kk)), (3, .int (iv bh)), (0, .ref (G.2.2.1 + 189)), (1, .int (iv i0)), (2, .int (iv ln))]) hx hb dX4_scanWord_58 hl (by decide) rfl (fun ls hl => ?_)
                  refine lv_iinc (v := iv (kk + 1)) (lv' := [(5, .int (iv (kk + 1))), (4, .int (iv kk)), (3, .int (iv bh)), (0, .ref (G.2.2.1 + 189)), (1, .int (iv i0)), (2, .int (iv ln))]) hx hb dX4_scanWord_60 hl (k := 1) rfl ((Int32.ofInt_add _ _).symm) (by decide) rfl (fun ls hl => ?_)
                  refine lv_goto (tgt := 35) hx hb dX4_scanWord_63 (by decide) ?_
                  exact ih_35 (kk + 1) kk _ _ _ (by omega) (by omega) (by omega) (by have e := (show _ ↔ _ from xu_28.2.2); rw [xu_25.1] at e; first | exact WTr.yes hwt (by omega) (e.mp (by omega)) | exact WTr.no hwt (fun z => absurd (e.mpr z) (by omega))) hW hL (lv_sub hl [0, 1, 2, 3, 4, 5] rfl)
          exact loop_35 (_ + 1) 7 6 _ _ _ (Nat.lt_succ_self _) (by omega) (by omega) (.inr ⟨rfl, fun i a b => absurd b (by omega)⟩) hW hL (lv_sub hl [0, 1, 2, 3, 4, 5] rfl)
        · refine lv_iinc (v := iv (bh + 1)) (lv' := [(3, .int (iv (bh + 1))), (0, .ref (G.2.2.1 + 189)), (1, .int (iv i0)), (2, .int (iv ln))]) hx hb dX4_scanWord_21 hl (k := 0) rfl ((Int32.ofInt_add _ _).symm) (by decide) rfl (fun ls hl => ?_)
          refine lv_goto (tgt := 2) hx hb dX4_scanWord_24 (by decide) ?_
          exact ih_2 (bh + 1) _ _ _ (by omega) (by omega) (fun i a c => by by_cases q : i = bh; (rw [q]; have e := (show _ → _ from xu_17.2.1) (by omega); rw [xu_14.1] at e; exact e); exact hll i a (by omega)) hW hL (lv_sub hl [0, 1, 2, 3] rfl)
  exact loop_2 (_ + 1) i0 _ _ _ (Nat.lt_succ_self _) (by omega) (fun i a c => absurd c (by omega)) hW hL (lv_sub hl [0, 1, 2, 3] rfl)

set_option maxRecDepth 100000 in
set_option maxHeartbeats 4000000 in
theorem b_X4_scanNumber (l : Launch) (G : sG) (S : sS) {i0 ln : Int} (hI : cX G S 0 0 0) (hi0 : 0 ≤ i0 ∧ i0 < ln) (hln : ln = S.1 1 1) (hrt : RT G S) (hrs : RS S) (hch : bt S 1 i0 = 45 ∨ (48 ≤ bt S 1 i0 ∧ bt S 1 i0 ≤ 57)) : Met l yX4_scanNumber (.code yX4_scanNumber cX4_scanNumber 7 (some .int) :: tb) (rmk 3 0 0) (sPc G 294 S [.ref (G.2.2.1 + 189), .int (iv i0), .int (iv ln)]) (sQi G 294 (fun r u => cX G u 0 0 0 ∧ Fr S u pRd ∧ ((0 ≤ r ∧ r ≤ 30001) ∧ RT G u ∧ RS u ∧ Hd (∃ k, MK S u k i0 ∧ (nGd (bt S 1) (S.1 1 1) i0 → k = 2) ∧ (¬ nGd (bt S 1) (S.1 1 1) i0 → k = 1)) ∧ Hd (r = en (S.1 1 1) (stD (bt S 1) (S.1 1 1)) (qdg (bt S 1) (S.1 1 1) i0))))) 0 0 (sF G) := by
  refine sEnter (by decide) (Nat.le_of_ble_eq_true rfl) ?_
  intro p e s m args below meth c Cx hr hlk hnm hW ls hl
  have Cx : sC G p m c cX4_scanNumber 7 s args RX4 := Cx
  obtain ⟨hx, hb, hml, hown, hts⟩ := id Cx.1
  have hL : sL G [] := sL_nil
  have hl : lv_has ls 7 [(0, .ref (G.2.2.1 + 189)), (1, .int (iv i0)), (2, .int (iv ln))] := hl
  have hW0 := hW
  have hl1 : 0 ≤ S.1 1 1 ∧ S.1 1 1 ≤ 30000 := hI.fi 1 1 10 (by decide) rfl
  have join_18 : ∀ (bw : Int) (H : Heap) (locs : List Loc) (ls : Array Slot), (0 ≤ bw ∧ bw ≤ 1) → ((bw = 1 → bt S 1 i0 = 45) ∧ (bw = 0 → bt S 1 i0 ≠ 45)) → sW G 294 S H → sL G locs → lv_has ls 7 [(0, .ref (G.2.2.1 + 189)), (1, .int (iv i0)), (2, .int (iv ln))] → W p l e (rmk 3 0 0) s m args below meth c H locs 0 0 (MQ below (sQi G 294 (fun r u => cX G u 0 0 0 ∧ Fr S u pRd ∧ ((0 ≤ r ∧ r ≤ 30001) ∧ RT G u ∧ RS u ∧ Hd (∃ k, MK S u k i0 ∧ (nGd (bt S 1) (S.1 1 1) i0 → k = 2) ∧ (¬ nGd (bt S 1) (S.1 1 1) i0 → k = 1)) ∧ Hd (r = en (S.1 1 1) (stD (bt S 1) (S.1 1 1)) (qdg (bt S 1) (S.1 1 1) i0))))) args s 0 0 (sF G)) (F0 m 18 ls [.int (iv bw)]) := by
    intro bw H locs ls hbw hb1 hW hL hl
    refine lv_istore_n (lv' := [(3, .int (iv bw)), (0, .ref (G.2.2.1 + 189)), (1, .int (iv i0)), (2, .int (iv ln))]) hx hb dX4_scanNumber_18 rfl hl (by decide) rfl (fun ls hl => ?_)
    have join_30 : ∀ (dg : Int) (H : Heap) (locs : List Loc) (ls : Array Slot), ((bw = 1 → dg = i0 + 1) ∧ (bw = 0 → dg = i0)) → sW G 294 S H → sL G locs → lv_has ls 7 [(3, .int (iv bw)), (0, .ref (G.2.2.1 + 189)), (1, .int (iv i0)), (2, .int (iv ln))] → W p l e (rmk 3 0 0) s m args below meth c H locs 0 0 (MQ below (sQi G 294 (fun r u => cX G u 0 0 0 ∧ Fr S u pRd ∧ ((0 ≤ r ∧ r ≤ 30001) ∧ RT G u ∧ RS u ∧ Hd (∃ k, MK S u k i0 ∧ (nGd (bt S 1) (S.1 1 1) i0 → k = 2) ∧ (¬ nGd (bt S 1) (S.1 1 1) i0 → k = 1)) ∧ Hd (r = en (S.1 1 1) (stD (bt S 1) (S.1 1 1)) (qdg (bt S 1) (S.1 1 1) i0))))) args s 0 0 (sF G)) (F0 m 30 ls [.int (iv dg)]) := by
      intro dg H locs ls hdg hW hL hl
      refine lv_istore (lv' := [(4, .int (iv dg)), (3, .int (iv bw)), (0, .ref (G.2.2.1 + 189)), (1, .int (iv i0)), (2, .int (iv ln))]) hx hb dX4_scanNumber_30 hl (by decide) rfl (fun ls hl => ?_)
      refine lv_aload_n hx hb dX4_scanNumber_32 rfl (lv_at hl 2 rfl) ?_
      refine lv_iload hx hb dX4_scanNumber_33 (lv_at hl 0 rfl) ?_
      refine lv_iload_n hx hb dX4_scanNumber_35 rfl (lv_at hl 4 rfl) ?_
      have q_1 : 0 ≤ S.1 1 1 ∧ S.1 1 1 ≤ 30000 := hI.fi 1 1 10 (by decide) rfl
      refine sBi (sV (As := [.int (iv dg), .int (iv ln)]) (rest := []) (k := 189) Cx (s_X4_behindDigits l G S (f := dg) (ln := ln) hI (by omega) (by omega) hrt) (c_X4_94 Cx rfl rfl (rmk_ok (by omega) (by decide))) hW (by decide) rfl rfl rfl hl.1 rfl (Nat.le_of_ble_eq_true rfl) dX4_scanNumber_36 ⟨Nat.le_of_ble_eq_true rfl, Nat.le_of_ble_eq_true rfl⟩) hL (fun be u_2 H locs k_3 hW hL => ?_)
      obtain ⟨eu_2, xu_2⟩ := k_3
      rw [eu_2] at hW
      have hdd : Hd (qdg (bt S 1) (S.1 1 1) i0 = dg) := (show _ = _ by unfold qdg; by_cases q : bt S 1 i0 = 45; (rw [if_pos ((eq_cb (by decide)).mp q)]; omega); (rw [if_neg (fun z => q ((eq_cb (by decide)).mpr z))]; omega))
      have hen : Hd (en (S.1 1 1) (stD (bt S 1) (S.1 1 1)) dg = be) := (show _ = _ from be_en (by omega) xu_2.2.1 xu_2.2.2)
      have hbd1 : dg = i0 → i0 < be := fun q => by by_cases z : i0 = be; (exfalso; have e := xu_2.2.2; rw [← z] at e; exact e (by unfold dgt; omega)); omega
      refine lv_istore (lv' := [(5, .int (iv be)), (4, .int (iv dg)), (3, .int (iv bw)), (0, .ref (G.2.2.1 + 189)), (1, .int (iv i0)), (2, .int (iv ln))]) hx hb dX4_scanNumber_39 hl (by decide) rfl (fun ls hl => ?_)
      have join_78 : ∀ (bd : Int) (H : Heap) (locs : List Loc) (ls : Array Slot), (0 ≤ bd ∧ bd ≤ 1) → (bd = 0 → be - dg ≤ 60) → (Hd (bd = 0 ↔ (dg < be ∧ be - dg ≤ 60 ∧ (bt S 1 i0 = 45 → ∃ i, dg ≤ i ∧ i < be ∧ bt S 1 i ≠ 48)))) → sW G 294 S H → sL G locs → lv_has ls 7 [(5, .int (iv be)), (4, .int (iv dg)), (3, .int (iv bw)), (0, .ref (G.2.2.1 + 189)), (1, .int (iv i0)), (2, .int (iv ln))] → W p l e (rmk 3 0 0) s m args below meth c H locs 0 0 (MQ below (sQi G 294 (fun r u => cX G u 0 0 0 ∧ Fr S u pRd ∧ ((0 ≤ r ∧ r ≤ 30001) ∧ RT G u ∧ RS u ∧ Hd (∃ k, MK S u k i0 ∧ (nGd (bt S 1) (S.1 1 1) i0 → k = 2) ∧ (¬ nGd (bt S 1) (S.1 1 1) i0 → k = 1)) ∧ Hd (r = en (S.1 1 1) (stD (bt S 1) (S.1 1 1)) (qdg (bt S 1) (S.1 1 1) i0))))) args s 0 0 (sF G)) (F0 m 78 ls [.int (iv bd)]) := by
        intro bd H locs ls hbd hb2 hgd hW hL hl
        refine lv_istore (lv' := [(6, .int (iv bd)), (5, .int (iv be)), (4, .int (iv dg)), (3, .int (iv bw)), (0, .ref (G.2.2.1 + 189)), (1, .int (iv i0)), (2, .int (iv ln))]) hx hb dX4_scanNumber_78 hl (by decide) rfl (fun ls hl => ?_)
        refine lv_aload_n hx hb dX4_scanNumber_80 rfl (lv_at hl 4 rfl) ?_
        have join_91 : ∀ (kd : Int) (H : Heap) (locs : List Loc) (ls : Array Slot), (1 ≤ kd ∧ kd ≤ 2) → ((kd = 2 → bd = 0) ∧ (bd = 0 → kd = 2)) → sW G 294 S H → sL G locs → lv_has ls 7 [(6, .int (iv bd)), (5, .int (iv be)), (4, .int (iv dg)), (3, .int (iv bw)), (0, .ref (G.2.2.1 + 189)), (1, .int (iv i0)), (2, .int (iv ln))] → W p l e (rmk 3 0 0) s m args below meth c H locs 0 0 (MQ below (sQi G 294 (fun r u => cX G u 0 0 0 ∧ Fr S u pRd ∧ ((0 ≤ r ∧ r ≤ 30001) ∧ RT G u ∧ RS u ∧ Hd (∃ k, MK S u k i0 ∧ (nGd (bt S 1) (S.1 1 1) i0 → k = 2) ∧ (¬ nGd (bt S 1) (S.1 1 1) i0 → k = 1)) ∧ Hd (r = en (S.1 1 1) (stD (bt S 1) (S.1 1 1)) (qdg (bt S 1) (S.1 1 1) i0))))) args s 0 0 (sF G)) (F0 m 91 ls [.int (iv kd), .ref (G.2.2.1 + 189)]) := by
          intro kd H locs ls hkd hkb hW hL hl
          refine lv_iload_n hx hb dX4_scanNumber_91 rfl (lv_at hl 5 rfl) ?_
          refine sBv (sV (As := [.int (iv kd), .int (iv i0)]) (rest := []) (k := 189) Cx (s_X4_mark l G S (kd := kd) (sr := i0) hI (by omega) (by omega)) (c_X4_36 Cx rfl rfl (rmk_ok (by omega) (by decide))) hW (by decide) rfl rfl rfl hl.1 rfl (Nat.le_of_ble_eq_true rfl) dX4_scanNumber_92 ⟨Nat.le_of_ble_eq_true rfl, Nat.le_of_ble_eq_true rfl⟩) hL (fun u_4 H locs k_5 hW hL => ?_)
          obtain ⟨iu_4, fu_4, xu_4⟩ := k_5
          have F_6 := (Fr.rf : Fr S S pRd).trans fu_4
          have hrt2 : RT G u_4 := MK.rt xu_4 hrt
          have hrs2 : RS u_4 := MK.rs xu_4 hrs (by omega) (fun q => ⟨fun q2 => ⟨be, (by omega), (by omega), xu_2.2.2⟩, fun q2 => ⟨be, (by omega), (by omega), xu_2.2.2⟩⟩)
          refine lv_iload hx hb dX4_scanNumber_95 (lv_at hl 1 rfl) ?_
          refine lv_iload_n hx hb dX4_scanNumber_97 rfl (lv_at hl 5 rfl) ?_
          refine lv_iconst (v := iv 1) hx hb dX4_scanNumber_98 (by decide) ?_
          refine r_iadd hx hb dX4_scanNumber_99 ?_
          refine r_max hx hb (hml.trans hl.1.symm) hown (hts _ w_1802) (hts _ w_242) (hts _ w_206) (hts _ w_243) (rmk_f (by omega)) (rmk_l (by omega) (Nat.le_of_ble_eq_true rfl)) (Nat.le_of_ble_eq_true rfl) (Nat.le_of_ble_eq_true rfl) ⟨(by omega), (by omega)⟩ ⟨(by omega), (by omega)⟩ dX4_scanNumber_100 (fun z_7 hz_7 => ?_)
          exact sIret Cx hr hlk hW hL ⟨iu_4, F_6, ⟨(by omega), hrt2, hrs2, (show ∃ k, _ ∧ _ ∧ _ from ⟨kd, xu_4, fun q => (by have z := (show _ ↔ _ from hgd).mpr ((nGd_i hdd hen).mp q); omega), fun q => (by by_cases z : bd = 0; (exact absurd ((nGd_i hdd hen).mpr ((show _ ↔ _ from hgd).mp z)) q); omega)⟩), (show _ = _ by rw [show qdg (bt S 1) (S.1 1 1) i0 = dg from hdd, show en (S.1 1 1) (stD (bt S 1) (S.1 1 1)) dg = be from hen]; omega)⟩⟩ dX4_scanNumber_103
        refine lv_iload hx hb dX4_scanNumber_81 (lv_at hl 0 rfl) ?_
        refine r_if_eq (tgt := 90) hx hb ⟨(by omega), (by omega)⟩ dX4_scanNumber_83 (by decide) (fun c_8 => ?_) (fun c_8 => ?_)
        · refine lv_iconst (v := iv 2) hx hb dX4_scanNumber_90 (by decide) ?_
          exact join_91 2 _ _ _ (by omega) (by omega) hW hL (lv_sub hl [0, 1, 2, 3, 4, 5, 6] rfl)
        · refine lv_iconst (v := iv 1) hx hb dX4_scanNumber_86 (by decide) ?_
          refine lv_goto (tgt := 91) hx hb dX4_scanNumber_87 (by decide) ?_
          exact join_91 1 _ _ _ (by omega) (by omega) hW hL (lv_sub hl [0, 1, 2, 3, 4, 5, 6] rfl)
      refine lv_iload hx hb dX4_scanNumber_41 (lv_at hl 0 rfl) ?_
      refine lv_iload hx hb dX4_scanNumber_43 (lv_at hl 1 rfl) ?_
      refine r_icmp_eq (tgt := 73) hx hb ⟨(by omega), (by omega)⟩ ⟨(by omega), (by omega)⟩ dX4_scanNumber_45 (by decide) (fun c_9 => ?_) (fun c_9 => ?_)
      · refine lv_iconst (v := iv 1) hx hb dX4_scanNumber_73 (by decide) ?_
        refine lv_goto (tgt := 78) hx hb dX4_scanNumber_74 (by decide) ?_
        exact join_78 1 _ _ _ (by omega) (by omega) (show _ ↔ _ from ⟨fun q => absurd q (by omega), fun q => by obtain ⟨q1, q2, q3⟩ := q; have q4 : Hd _ := q3; clear q3; exfalso; omega⟩) hW hL (lv_sub hl [0, 1, 2, 3, 4, 5] rfl)
      · refine lv_iload hx hb dX4_scanNumber_48 (lv_at hl 0 rfl) ?_
        refine lv_iload hx hb dX4_scanNumber_50 (lv_at hl 1 rfl) ?_
        refine r_isub hx hb dX4_scanNumber_52 ?_
        refine lv_bipush (v := iv 60) hx hb dX4_scanNumber_53 (by decide) ?_
        refine r_icmp_gt (tgt := 73) hx hb ⟨(by omega), (by omega)⟩ ⟨(by omega), (by omega)⟩ dX4_scanNumber_55 (by decide) (fun c_10 => ?_) (fun c_10 => ?_)
        · refine lv_iconst (v := iv 1) hx hb dX4_scanNumber_73 (by decide) ?_
          refine lv_goto (tgt := 78) hx hb dX4_scanNumber_74 (by decide) ?_
          exact join_78 1 _ _ _ (by omega) (by omega) (show _ ↔ _ from ⟨fun q => absurd q (by omega), fun q => by obtain ⟨q1, q2, q3⟩ := q; have q4 : Hd _ := q3; clear q3; exfalso; omega⟩) hW hL (lv_sub hl [0, 1, 2, 3, 4, 5] rfl)
        · refine lv_iload_n hx hb dX4_scanNumber_58 rfl (lv_at hl 2 rfl) ?_
          refine r_if_eq (tgt := 77) hx hb ⟨(by omega), (by omega)⟩ dX4_scanNumber_59 (by decide) (fun c_11 => ?_) (fun c_11 => ?_)
          · refine lv_iconst (v := iv 0) hx hb dX4_scanNumber_77 (by decide) ?_
            exact join_78 0 _ _ _ (by omega) (by omega) (show _ ↔ _ from ⟨fun _ => ⟨by omega, by omega, fun z => absurd z (by omega)⟩, fun _ => rfl⟩) hW hL (lv_sub hl [0, 1, 2, 3, 4, 5] rfl)
          · refine lv_aload_n hx hb dX4_scanNumber_62 rfl (lv_at hl 3 rfl) ?_
            refine lv_iload hx hb dX4_scanNumber_63 (lv_at hl 1 rfl) ?_
            refine lv_iload hx hb dX4_scanNumber_65 (lv_at hl 0 rfl) ?_
            refine sBi (sV (As := [.int (iv dg), .int (iv be)]) (rest := []) (k := 189) Cx (b_X4_hasMoreThanNoughts l G S (f := dg) (b := be) hI (by omega) (by omega) hrt) (c_X4_97 Cx rfl rfl (rmk_ok (by omega) (by decide))) hW (by decide) rfl rfl rfl hl.1 rfl (Nat.le_of_ble_eq_true rfl) dX4_scanNumber_67 ⟨Nat.le_of_ble_eq_true rfl, Nat.le_of_ble_eq_true rfl⟩) hL (fun r_14 u_12 H locs k_13 hW hL => ?_)
            obtain ⟨eu_12, xu_12⟩ := k_13
            rw [eu_12] at hW
            refine r_if_ne (tgt := 77) hx hb ⟨(by omega), (by omega)⟩ dX4_scanNumber_70 (by decide) (fun c_15 => ?_) (fun c_15 => ?_)
            · refine lv_iconst (v := iv 0) hx hb dX4_scanNumber_77 (by decide) ?_
              exact join_78 0 _ _ _ (by omega) (by omega) (show _ ↔ _ from ⟨fun _ => ⟨by omega, by omega, fun z => (show _ ↔ _ from xu_12.2.2).mp (by omega)⟩, fun _ => rfl⟩) hW hL (lv_sub hl [0, 1, 2, 3, 4, 5] rfl)
            · refine lv_iconst (v := iv 1) hx hb dX4_scanNumber_73 (by decide) ?_
              refine lv_goto (tgt := 78) hx hb dX4_scanNumber_74 (by decide) ?_
              exact join_78 1 _ _ _ (by omega) (by omega) (show _ ↔ _ from ⟨fun q => absurd q (by omega), fun q => by obtain ⟨q1, q2, q3⟩ := q; have q4 : Hd _ := q3; clear q3; have z := (show _ ↔ _ from xu_12.2.2).mpr (q4 (by omega)); exfalso; omega⟩) hW hL (lv_sub hl [0, 1, 2, 3, 4, 5] rfl)
    refine lv_iload_n hx hb dX4_scanNumber_19 rfl (lv_at hl 0 rfl) ?_
    refine r_if_eq (tgt := 29) hx hb ⟨(by omega), (by omega)⟩ dX4_scanNumber_20 (by decide) (fun c_16 => ?_) (fun c_16 => ?_)
    · refine lv_iload_n hx hb dX4_scanNumber_29 rfl (lv_at hl 2 rfl) ?_
      exact join_30 i0 _ _ _ (by omega) hW hL (lv_sub hl [0, 1, 2, 3] rfl)
    · refine lv_iload_n hx hb dX4_scanNumber_23 rfl (lv_at hl 2 rfl) ?_
      refine lv_iconst (v := iv 1) hx hb dX4_scanNumber_24 (by decide) ?_
      refine r_iadd hx hb dX4_scanNumber_25 ?_
      refine lv_goto (tgt := 30) hx hb dX4_scanNumber_26 (by decide) ?_
      exact join_30 (i0 + 1) _ _ _ (by omega) hW hL (lv_sub hl [0, 1, 2, 3] rfl)
  refine lv_aload_n hx hb dX4_scanNumber_0 rfl (lv_at hl 0 rfl) ?_
  refine g_X4_14 Cx hW (k := 189) (by decide) rfl (v := .ref (G.2.2.1 + 1)) hrt dX4_scanNumber_1 ?_
  refine lv_iload_n hx hb dX4_scanNumber_4 rfl (lv_at hl 1 rfl) ?_
  have q_17 : 0 ≤ S.1 1 1 ∧ S.1 1 1 ≤ 30000 := hI.fi 1 1 10 (by decide) rfl
  refine sBi (sV (As := [.int (iv i0)]) (rest := []) (k := 1) Cx (s_X10_byteAt l G S (o := 1) (k := i0) (N := 30000) hI ⟨by decide, rfl, rfl, rfl, rfl, by decide⟩ (by omega)) (c_X4_43 Cx rfl rfl (rmk_ok (by omega) (by decide))) hW (by decide) rfl rfl rfl hl.1 rfl (Nat.le_of_ble_eq_true rfl) dX4_scanNumber_5 ⟨Nat.le_of_ble_eq_true rfl, Nat.le_of_ble_eq_true rfl⟩) hL (fun r_20 u_18 H locs k_19 hW hL => ?_)
  obtain ⟨eu_18, xu_18⟩ := k_19
  rw [eu_18] at hW
  refine lv_bipush (v := iv 45) hx hb dX4_scanNumber_8 (by decide) ?_
  refine r_icmp_ne (tgt := 17) hx hb ⟨(by omega), (by omega)⟩ ⟨(by omega), (by omega)⟩ dX4_scanNumber_10 (by decide) (fun c_21 => ?_) (fun c_21 => ?_)
  · refine lv_iconst (v := iv 0) hx hb dX4_scanNumber_17 (by decide) ?_
    exact join_18 0 _ _ _ (by omega) (by omega) hW hL (lv_sub hl [0, 1, 2] rfl)
  · refine lv_iconst (v := iv 1) hx hb dX4_scanNumber_13 (by decide) ?_
    refine lv_goto (tgt := 18) hx hb dX4_scanNumber_14 (by decide) ?_
    exact join_18 1 _ _ _ (by omega) (by omega) hW hL (lv_sub hl [0, 1, 2] rfl)

set_option maxRecDepth 100000 in
set_option maxHeartbeats 4000000 in
theorem b_X4_scanOne (l : Launch) (G : sG) (S : sS) {i0 ln : Int} (hI : cX G S 0 0 0) (hi0 : 0 ≤ i0 ∧ i0 < ln) (hln : ln = S.1 1 1) (hrt : RT G S) (hrs : RS S) : Met l yX4_scanOne (.code yX4_scanOne cX4_scanOne 4 (some .int) :: tb) (rmk 7 0 0) (sPc G 294 S [.ref (G.2.2.1 + 189), .int (iv i0), .int (iv ln)]) (sQi G 294 (fun r u => cX G u 0 0 0 ∧ Fr S u pRd ∧ ((0 ≤ r ∧ r ≤ 30001) ∧ RT G u ∧ RS u ∧ Hd (stB (bt S 1) (S.1 1 1) i0 → r = i0 + 1 ∧ u.1 189 2 = S.1 189 2 ∧ ∀ j, u.2.1 192 j = S.2.1 192 j) ∧ Hd (¬ stB (bt S 1) (S.1 1 1) i0 → r = qE (bt S 1) (S.1 1 1) i0 ∧ ∃ k, MK S u k i0 ∧ QK (bt S 1) (S.1 1 1) i0 k)))) 0 0 (sF G) := by
  refine sEnter (by decide) (Nat.le_of_ble_eq_true rfl) ?_
  intro p e s m args below meth c Cx hr hlk hnm hW ls hl
  have Cx : sC G p m c cX4_scanOne 4 s args RX4 := Cx
  obtain ⟨hx, hb, hml, hown, hts⟩ := id Cx.1
  have hL : sL G [] := sL_nil
  have hl : lv_has ls 4 [(0, .ref (G.2.2.1 + 189)), (1, .int (iv i0)), (2, .int (iv ln))] := hl
  have hW0 := hW
  have hl1 : 0 ≤ S.1 1 1 ∧ S.1 1 1 ≤ 30000 := hI.fi 1 1 10 (by decide) rfl
  refine lv_aload_n hx hb dX4_scanOne_0 rfl (lv_at hl 0 rfl) ?_
  refine g_X4_14 Cx hW (k := 189) (by decide) rfl (v := .ref (G.2.2.1 + 1)) hrt dX4_scanOne_1 ?_
  refine lv_iload_n hx hb dX4_scanOne_4 rfl (lv_at hl 1 rfl) ?_
  have q_1 : 0 ≤ S.1 1 1 ∧ S.1 1 1 ≤ 30000 := hI.fi 1 1 10 (by decide) rfl
  refine sBi (sV (As := [.int (iv i0)]) (rest := []) (k := 1) Cx (s_X10_byteAt l G S (o := 1) (k := i0) (N := 30000) hI ⟨by decide, rfl, rfl, rfl, rfl, by decide⟩ (by omega)) (c_X4_43 Cx rfl rfl (rmk_ok (by omega) (by decide))) hW (by decide) rfl rfl rfl hl.1 rfl (Nat.le_of_ble_eq_true rfl) dX4_scanOne_5 ⟨Nat.le_of_ble_eq_true rfl, Nat.le_of_ble_eq_true rfl⟩) hL (fun vb u_2 H locs k_3 hW hL => ?_)
  obtain ⟨eu_2, xu_2⟩ := k_3
  rw [eu_2] at hW
  have hvb : cb (bt S 1) (S.1 1 1) i0 = vb := by rw [cb_in (by omega) (by omega)]; exact xu_2.1.symm
  refine lv_istore_n (lv' := [(3, .int (iv vb)), (0, .ref (G.2.2.1 + 189)), (1, .int (iv i0)), (2, .int (iv ln))]) hx hb dX4_scanOne_8 rfl hl (by decide) rfl (fun ls hl => ?_)
  refine lv_iload_n hx hb dX4_scanOne_9 rfl (lv_at hl 0 rfl) ?_
  refine lv_bipush (v := iv 32) hx hb dX4_scanOne_10 (by decide) ?_
  refine r_icmp_eq (tgt := 21) hx hb ⟨(by omega), (by omega)⟩ ⟨(by omega), (by omega)⟩ dX4_scanOne_12 (by decide) (fun c_4 => ?_) (fun c_4 => ?_)
  · refine lv_iload_n hx hb dX4_scanOne_21 rfl (lv_at hl 2 rfl) ?_
    refine lv_iconst (v := iv 1) hx hb dX4_scanOne_22 (by decide) ?_
    refine r_iadd hx hb dX4_scanOne_23 ?_
    have q_5 : 0 ≤ S.1 189 2 ∧ S.1 189 2 ≤ 30001 := hI.fi 189 2 4 (by decide) rfl
    exact sIret Cx hr hlk hW hL ⟨hI, (Fr.rf : Fr S S pRd), ⟨(by omega), hrt, hrs, (fun _ => ⟨rfl, rfl, fun _ => rfl⟩), (fun q => absurd (show _ ∨ _ by rw [hvb]; omega) q)⟩⟩ dX4_scanOne_24
  · refine lv_iload_n hx hb dX4_scanOne_15 rfl (lv_at hl 0 rfl) ?_
    refine lv_bipush (v := iv 10) hx hb dX4_scanOne_16 (by decide) ?_
    refine r_icmp_ne (tgt := 25) hx hb ⟨(by omega), (by omega)⟩ ⟨(by omega), (by omega)⟩ dX4_scanOne_18 (by decide) (fun c_6 => ?_) (fun c_6 => ?_)
    · refine lv_iload_n hx hb dX4_scanOne_25 rfl (lv_at hl 0 rfl) ?_
      refine sBi (sSt (As := [.int (iv vb)]) (rest := []) Cx (b_X8_isLetter l G S (k := vb) (by omega)) (c_X4_47 Cx rfl rfl (rmk_ok (by omega) (by decide))) hW rfl hl.1 rfl (Nat.le_of_ble_eq_true rfl) dX4_scanOne_26 ⟨Nat.le_of_ble_eq_true rfl, Nat.le_of_ble_eq_true rfl⟩) hL (fun r_9 u_7 H locs k_8 hW hL => ?_)
      obtain ⟨eu_7, xu_7⟩ := k_8
      rw [eu_7] at hW
      refine r_if_eq (tgt := 39) hx hb ⟨(by omega), (by omega)⟩ dX4_scanOne_29 (by decide) (fun c_10 => ?_) (fun c_10 => ?_)
      · refine lv_iload_n hx hb dX4_scanOne_39 rfl (lv_at hl 0 rfl) ?_
        refine lv_bipush (v := iv 45) hx hb dX4_scanOne_40 (by decide) ?_
        refine r_icmp_eq (tgt := 52) hx hb ⟨(by omega), (by omega)⟩ ⟨(by omega), (by omega)⟩ dX4_scanOne_42 (by decide) (fun c_11 => ?_) (fun c_11 => ?_)
        · refine lv_aload_n hx hb dX4_scanOne_52 rfl (lv_at hl 1 rfl) ?_
          refine lv_iload_n hx hb dX4_scanOne_53 rfl (lv_at hl 2 rfl) ?_
          refine lv_iload_n hx hb dX4_scanOne_54 rfl (lv_at hl 3 rfl) ?_
          refine sBi (sV (As := [.int (iv i0), .int (iv ln)]) (rest := []) (k := 189) Cx (b_X4_scanNumber l G S (i0 := i0) (ln := ln) hI (by omega) (by omega) hrt hrs (by have e := xu_2.1; omega)) (c_X4_59 Cx rfl rfl (rmk_ok (by omega) (by decide))) hW (by decide) rfl rfl rfl hl.1 rfl (Nat.le_of_ble_eq_true rfl) dX4_scanOne_55 ⟨Nat.le_of_ble_eq_true rfl, Nat.le_of_ble_eq_true rfl⟩) hL (fun r_14 u_12 H locs k_13 hW hL => ?_)
          obtain ⟨iu_12, fu_12, xu_12⟩ := k_13
          have F_15 := (Fr.rf : Fr S S pRd).trans fu_12
          have q_16 : 0 ≤ u_12.1 189 2 ∧ u_12.1 189 2 ≤ 30001 := iu_12.fi 189 2 4 (by decide) rfl
          exact sIret Cx hr hlk hW hL ⟨iu_12, F_15, ⟨(by omega), xu_12.2.1, xu_12.2.2.1, (fun q => by exfalso; have q : _ ∨ _ := q; rw [hvb] at q; omega), (fun _ => ⟨(by unfold qE; rw [if_neg (show ¬ isLt (cb (bt S 1) (S.1 1 1) i0) by rw [hvb]; exact (show _ → _ from xu_7.2.2) (by omega)), if_pos (show cb (bt S 1) (S.1 1 1) i0 = 45 ∨ isDg (cb (bt S 1) (S.1 1 1) i0) by rw [hvb]; exact .inl (by omega))]; exact xu_12.2.2.2.2), (by obtain ⟨k, k1, k2⟩ := xu_12.2.2.2.1; exact ⟨k, k1, (fun q => absurd q (show ¬ isLt (cb (bt S 1) (S.1 1 1) i0) by rw [hvb]; exact (show _ → _ from xu_7.2.2) (by omega))), (fun _ _ => k2), (fun _ q => absurd (show cb (bt S 1) (S.1 1 1) i0 = 45 ∨ isDg (cb (bt S 1) (S.1 1 1) i0) by rw [hvb]; exact .inl (by omega)) q)⟩)⟩)⟩⟩ dX4_scanOne_58
        · refine lv_iload_n hx hb dX4_scanOne_45 rfl (lv_at hl 0 rfl) ?_
          refine sBi (sSt (As := [.int (iv vb)]) (rest := []) Cx (b_X8_isDigit l G S (k := vb) (by omega)) (c_X4_56 Cx rfl rfl (rmk_ok (by omega) (by decide))) hW rfl hl.1 rfl (Nat.le_of_ble_eq_true rfl) dX4_scanOne_46 ⟨Nat.le_of_ble_eq_true rfl, Nat.le_of_ble_eq_true rfl⟩) hL (fun r_19 u_17 H locs k_18 hW hL => ?_)
          obtain ⟨eu_17, xu_17⟩ := k_18
          rw [eu_17] at hW
          refine r_if_eq (tgt := 59) hx hb ⟨(by omega), (by omega)⟩ dX4_scanOne_49 (by decide) (fun c_20 => ?_) (fun c_20 => ?_)
          · refine lv_aload_n hx hb dX4_scanOne_59 rfl (lv_at hl 1 rfl) ?_
            have join_91 : ∀ (kd : Int) (H : Heap) (locs : List Loc) (ls : Array Slot), (1 ≤ kd ∧ kd ≤ 5) → (kd ≠ 1 → 47 ≤ vb ∧ vb ≤ 59 ∧ ¬ (48 ≤ vb ∧ vb ≤ 57)) → (Hd (kd = sgk vb)) → sW G 294 S H → sL G locs → lv_has ls 4 [(3, .int (iv vb)), (0, .ref (G.2.2.1 + 189)), (1, .int (iv i0)), (2, .int (iv ln))] → W p l e (rmk 7 0 0) s m args below meth c H locs 0 0 (MQ below (sQi G 294 (fun r u => cX G u 0 0 0 ∧ Fr S u pRd ∧ ((0 ≤ r ∧ r ≤ 30001) ∧ RT G u ∧ RS u ∧ Hd (stB (bt S 1) (S.1 1 1) i0 → r = i0 + 1 ∧ u.1 189 2 = S.1 189 2 ∧ ∀ j, u.2.1 192 j = S.2.1 192 j) ∧ Hd (¬ stB (bt S 1) (S.1 1 1) i0 → r = qE (bt S 1) (S.1 1 1) i0 ∧ ∃ k, MK S u k i0 ∧ QK (bt S 1) (S.1 1 1) i0 k)))) args s 0 0 (sF G)) (F0 m 91 ls [.int (iv kd), .ref (G.2.2.1 + 189)]) := by
              intro kd H locs ls hkd hk1 hsk hW hL hl
              refine lv_iload_n hx hb dX4_scanOne_91 rfl (lv_at hl 2 rfl) ?_
              refine sBv (sV (As := [.int (iv kd), .int (iv i0)]) (rest := []) (k := 189) Cx (s_X4_mark l G S (kd := kd) (sr := i0) hI (by omega) (by omega)) (c_X4_36 Cx rfl rfl (rmk_ok (by omega) (by decide))) hW (by decide) rfl rfl rfl hl.1 rfl (Nat.le_of_ble_eq_true rfl) dX4_scanOne_92 ⟨Nat.le_of_ble_eq_true rfl, Nat.le_of_ble_eq_true rfl⟩) hL (fun u_21 H locs k_22 hW hL => ?_)
              obtain ⟨iu_21, fu_21, xu_21⟩ := k_22
              have F_23 := (Fr.rf : Fr S S pRd).trans fu_21
              have hrt2 : RT G u_21 := MK.rt xu_21 hrt
              have hrs2 : RS u_21 := MK.rs xu_21 hrs (by omega) (fun q => DG.no (by unfold dgt; omega) (by omega))
              refine lv_iload_n hx hb dX4_scanOne_95 rfl (lv_at hl 2 rfl) ?_
              refine lv_iconst (v := iv 1) hx hb dX4_scanOne_96 (by decide) ?_
              refine r_iadd hx hb dX4_scanOne_97 ?_
              have q_24 : 0 ≤ u_21.1 189 2 ∧ u_21.1 189 2 ≤ 30001 := iu_21.fi 189 2 4 (by decide) rfl
              exact sIret Cx hr hlk hW hL ⟨iu_21, F_23, ⟨(by omega), hrt2, hrs2, (fun q => by exfalso; have q : _ ∨ _ := q; rw [hvb] at q; omega), (fun _ => ⟨(by unfold qE; rw [if_neg (show ¬ isLt (cb (bt S 1) (S.1 1 1) i0) by rw [hvb]; exact (show _ → _ from xu_7.2.2) (by omega)), if_neg (show ¬ (cb (bt S 1) (S.1 1 1) i0 = 45 ∨ isDg (cb (bt S 1) (S.1 1 1) i0)) by rw [hvb]; intro q; rcases q with q | q; (exfalso; omega); exact (show _ → _ from xu_17.2.2) (by omega) q)]), ⟨kd, xu_21, (fun q => absurd q (show ¬ isLt (cb (bt S 1) (S.1 1 1) i0) by rw [hvb]; exact (show _ → _ from xu_7.2.2) (by omega))), (fun _ q => absurd q (show ¬ (cb (bt S 1) (S.1 1 1) i0 = 45 ∨ isDg (cb (bt S 1) (S.1 1 1) i0)) by rw [hvb]; intro q; rcases q with q | q; (exfalso; omega); exact (show _ → _ from xu_17.2.2) (by omega) q)), (fun _ _ => by rw [hvb]; exact hsk)⟩⟩)⟩⟩ dX4_scanOne_98
            refine lv_iload_n hx hb dX4_scanOne_60 rfl (lv_at hl 0 rfl) ?_
            refine lv_bipush (v := iv 47) hx hb dX4_scanOne_61 (by decide) ?_
            refine r_icmp_ne (tgt := 70) hx hb ⟨(by omega), (by omega)⟩ ⟨(by omega), (by omega)⟩ dX4_scanOne_63 (by decide) (fun c_25 => ?_) (fun c_25 => ?_)
            · refine lv_iload_n hx hb dX4_scanOne_70 rfl (lv_at hl 0 rfl) ?_
              refine lv_bipush (v := iv 58) hx hb dX4_scanOne_71 (by decide) ?_
              refine r_icmp_ne (tgt := 80) hx hb ⟨(by omega), (by omega)⟩ ⟨(by omega), (by omega)⟩ dX4_scanOne_73 (by decide) (fun c_26 => ?_) (fun c_26 => ?_)
              · refine lv_iload_n hx hb dX4_scanOne_80 rfl (lv_at hl 0 rfl) ?_
                refine lv_bipush (v := iv 59) hx hb dX4_scanOne_81 (by decide) ?_
                refine r_icmp_ne (tgt := 90) hx hb ⟨(by omega), (by omega)⟩ ⟨(by omega), (by omega)⟩ dX4_scanOne_83 (by decide) (fun c_27 => ?_) (fun c_27 => ?_)
                · refine lv_iconst (v := iv 1) hx hb dX4_scanOne_90 (by decide) ?_
                  exact join_91 1 _ _ _ (by omega) (by omega) (show _ = _ by unfold sgk; rw [if_neg (by omega), if_neg (by omega), if_neg (by omega)]) hW hL (lv_sub hl [0, 1, 2, 3] rfl)
                · refine lv_iconst (v := iv 5) hx hb dX4_scanOne_86 (by decide) ?_
                  refine lv_goto (tgt := 91) hx hb dX4_scanOne_87 (by decide) ?_
                  exact join_91 5 _ _ _ (by omega) (by omega) (show _ = _ by unfold sgk; rw [if_neg (by omega), if_neg (by omega), if_pos (by omega)]) hW hL (lv_sub hl [0, 1, 2, 3] rfl)
              · refine lv_iconst (v := iv 4) hx hb dX4_scanOne_76 (by decide) ?_
                refine lv_goto (tgt := 91) hx hb dX4_scanOne_77 (by decide) ?_
                exact join_91 4 _ _ _ (by omega) (by omega) (show _ = _ by unfold sgk; rw [if_neg (by omega), if_pos (by omega)]) hW hL (lv_sub hl [0, 1, 2, 3] rfl)
            · refine lv_iconst (v := iv 3) hx hb dX4_scanOne_66 (by decide) ?_
              refine lv_goto (tgt := 91) hx hb dX4_scanOne_67 (by decide) ?_
              exact join_91 3 _ _ _ (by omega) (by omega) (show _ = _ by unfold sgk; rw [if_pos (by omega)]) hW hL (lv_sub hl [0, 1, 2, 3] rfl)
          · refine lv_aload_n hx hb dX4_scanOne_52 rfl (lv_at hl 1 rfl) ?_
            refine lv_iload_n hx hb dX4_scanOne_53 rfl (lv_at hl 2 rfl) ?_
            refine lv_iload_n hx hb dX4_scanOne_54 rfl (lv_at hl 3 rfl) ?_
            refine sBi (sV (As := [.int (iv i0), .int (iv ln)]) (rest := []) (k := 189) Cx (b_X4_scanNumber l G S (i0 := i0) (ln := ln) hI (by omega) (by omega) hrt hrs (by have e := xu_2.1; have z := (show _ → _ from xu_17.2.1) (by omega); unfold isDg at z; omega)) (c_X4_59 Cx rfl rfl (rmk_ok (by omega) (by decide))) hW (by decide) rfl rfl rfl hl.1 rfl (Nat.le_of_ble_eq_true rfl) dX4_scanOne_55 ⟨Nat.le_of_ble_eq_true rfl, Nat.le_of_ble_eq_true rfl⟩) hL (fun r_30 u_28 H locs k_29 hW hL => ?_)
            obtain ⟨iu_28, fu_28, xu_28⟩ := k_29
            have F_31 := (Fr.rf : Fr S S pRd).trans fu_28
            have q_32 : 0 ≤ u_28.1 189 2 ∧ u_28.1 189 2 ≤ 30001 := iu_28.fi 189 2 4 (by decide) rfl
            exact sIret Cx hr hlk hW hL ⟨iu_28, F_31, ⟨(by omega), xu_28.2.1, xu_28.2.2.1, (fun q => by exfalso; have q : _ ∨ _ := q; rw [hvb] at q; omega), (fun _ => ⟨(by unfold qE; rw [if_neg (show ¬ isLt (cb (bt S 1) (S.1 1 1) i0) by rw [hvb]; exact (show _ → _ from xu_7.2.2) (by omega)), if_pos (show cb (bt S 1) (S.1 1 1) i0 = 45 ∨ isDg (cb (bt S 1) (S.1 1 1) i0) by rw [hvb]; exact .inr ((show _ → _ from xu_17.2.1) (by omega)))]; exact xu_28.2.2.2.2), (by obtain ⟨k, k1, k2⟩ := xu_28.2.2.2.1; exact ⟨k, k1, (fun q => absurd q (show ¬ isLt (cb (bt S 1) (S.1 1 1) i0) by rw [hvb]; exact (show _ → _ from xu_7.2.2) (by omega))), (fun _ _ => k2), (fun _ q => absurd (show cb (bt S 1) (S.1 1 1) i0 = 45 ∨ isDg (cb (bt S 1) (S.1 1 1) i0) by rw [hvb]; exact .inr ((show _ → _ from xu_17.2.1) (by omega))) q)⟩)⟩)⟩⟩ dX4_scanOne_58
      · have hl9 := (show _ → _ from xu_7.2.1) (by omega); unfold isLt at hl9
        refine lv_aload_n hx hb dX4_scanOne_32 rfl (lv_at hl 1 rfl) ?_
        refine lv_iload_n hx hb dX4_scanOne_33 rfl (lv_at hl 2 rfl) ?_
        refine lv_iload_n hx hb dX4_scanOne_34 rfl (lv_at hl 3 rfl) ?_
        refine sBi (sV (As := [.int (iv i0), .int (iv ln)]) (rest := []) (k := 189) Cx (b_X4_scanWord l G S (i0 := i0) (ln := ln) hI (by omega) (by omega) hrt hrs (DG.no (by unfold dgt; omega) (by omega))) (c_X4_53 Cx rfl rfl (rmk_ok (by omega) (by decide))) hW (by decide) rfl rfl rfl hl.1 rfl (Nat.le_of_ble_eq_true rfl) dX4_scanOne_35 ⟨Nat.le_of_ble_eq_true rfl, Nat.le_of_ble_eq_true rfl⟩) hL (fun r_35 u_33 H locs k_34 hW hL => ?_)
        obtain ⟨iu_33, fu_33, xu_33⟩ := k_34
        have F_36 := (Fr.rf : Fr S S pRd).trans fu_33
        have q_37 : 0 ≤ u_33.1 189 2 ∧ u_33.1 189 2 ≤ 30001 := iu_33.fi 189 2 4 (by decide) rfl
        exact sIret Cx hr hlk hW hL ⟨iu_33, F_36, ⟨(by omega), xu_33.2.1, xu_33.2.2.1, (fun q => by exfalso; have q : _ ∨ _ := q; rw [hvb] at q; omega), (fun _ => ⟨(by unfold qE; rw [if_pos (show isLt (cb (bt S 1) (S.1 1 1) i0) by rw [hvb]; exact (show _ → _ from xu_7.2.1) (by omega))]; exact xu_33.2.2.2.2), (by obtain ⟨k, k1, k2⟩ := xu_33.2.2.2.1; exact ⟨k, k1, (fun _ => by unfold qE; rw [if_pos (show isLt (cb (bt S 1) (S.1 1 1) i0) by rw [hvb]; exact (show _ → _ from xu_7.2.1) (by omega)), ← (show _ = _ from xu_33.2.2.2.2)]; exact k2), (fun q => absurd (show isLt (cb (bt S 1) (S.1 1 1) i0) by rw [hvb]; exact (show _ → _ from xu_7.2.1) (by omega)) q), (fun q => absurd (show isLt (cb (bt S 1) (S.1 1 1) i0) by rw [hvb]; exact (show _ → _ from xu_7.2.1) (by omega)) q)⟩)⟩)⟩⟩ dX4_scanOne_38
    · refine lv_iload_n hx hb dX4_scanOne_21 rfl (lv_at hl 2 rfl) ?_
      refine lv_iconst (v := iv 1) hx hb dX4_scanOne_22 (by decide) ?_
      refine r_iadd hx hb dX4_scanOne_23 ?_
      have q_38 : 0 ≤ S.1 189 2 ∧ S.1 189 2 ≤ 30001 := hI.fi 189 2 4 (by decide) rfl
      exact sIret Cx hr hlk hW hL ⟨hI, (Fr.rf : Fr S S pRd), ⟨(by omega), hrt, hrs, (fun _ => ⟨rfl, rfl, fun _ => rfl⟩), (fun q => absurd (show _ ∨ _ by rw [hvb]; omega) q)⟩⟩ dX4_scanOne_24

set_option maxRecDepth 100000 in
set_option maxHeartbeats 4000000 in
theorem b_X4_open (l : Launch) (G : sG) (S : sS)  (hI : cX G S 0 0 0) : Met l yX4_open (.code yX4_open cX4_open 5 none :: tb) (rmk 8 0 0) (sPc G 294 S [.ref (G.2.2.1 + 189), .ref (G.2.2.1 + 1)]) (sQv G 294 (fun u => cX G u 0 0 0 ∧ Fr S u pRd ∧ (RT G u ∧ RO u ∧ u.1 189 3 = 0 ∧ Hd (∃ T kp vp, TQp (bt S 1) (S.1 1 1) T kp vp ∧ PT u T kp vp)))) 0 0 (sF G) := by
  refine sEnter (by decide) (Nat.le_of_ble_eq_true rfl) ?_
  intro p e s m args below meth c Cx hr hlk hnm hW ls hl
  have Cx : sC G p m c cX4_open 5 s args RX4 := Cx
  obtain ⟨hx, hb, hml, hown, hts⟩ := id Cx.1
  have hL : sL G [] := sL_nil
  have hl : lv_has ls 5 [(0, .ref (G.2.2.1 + 189)), (1, .ref (G.2.2.1 + 1))] := hl
  have hW0 := hW
  have hl1 : 0 ≤ S.1 1 1 ∧ S.1 1 1 ≤ 30000 := hI.fi 1 1 10 (by decide) rfl
  refine lv_aload_n hx hb dX4_open_0 rfl (lv_at hl 0 rfl) ?_
  refine lv_aload_n hx hb dX4_open_1 rfl (lv_at hl 1 rfl) ?_
  refine p_X4_14 Cx hW hL (k := 189) (by decide) rfl dX4_open_2 (fun H locs hW hL => ?_)
  have F_1 : Fr S (uR S 189 0 (.ref (G.2.2.1 + 1))) pRd := (Fr.rf : Fr S S pRd).R rfl
  have i_2 : cX G (uR S 189 0 (.ref (G.2.2.1 + 1))) 0 0 0 := hI.rd189
  refine lv_aload_n hx hb dX4_open_5 rfl (lv_at hl 0 rfl) ?_
  refine lv_iconst (v := iv 0) hx hb dX4_open_6 (by decide) ?_
  refine p_X4_24 Cx hW hL (k := 189) (by decide) rfl dX4_open_7 (fun H locs hW hL => ?_)
  have F_3 : Fr S (uF (uR S 189 0 (.ref (G.2.2.1 + 1))) 189 2 0) pRd := F_1.F rfl
  have i_4 : cX G (uF (uR S 189 0 (.ref (G.2.2.1 + 1))) 189 2 0) 0 0 0 := i_2.F rfl rfl (show 0 ≤ 0 ∧ 0 ≤ 30001 from ⟨by omega, by omega⟩)
  refine lv_aload_n hx hb dX4_open_10 rfl (lv_at hl 0 rfl) ?_
  refine g_X4_14 Cx hW (k := 189) (by decide) rfl (v := .ref (G.2.2.1 + 1)) ((uF_r).trans (uR_on)) dX4_open_11 ?_
  have q_5 : 0 ≤ S.1 1 1 ∧ S.1 1 1 ≤ 30000 := hI.fi 1 1 10 (by decide) rfl
  have lk_6 : (uF (uR S 189 0 (.ref (G.2.2.1 + 1))) 189 2 0).1 1 1 = S.1 1 1 := (uF_ne (fun h => absurd h.2 (by decide))).trans (uR_f)
  refine sBi (sV (As := []) (rest := []) (k := 1) Cx (s_X10_length l G (uF (uR S 189 0 (.ref (G.2.2.1 + 1))) 189 2 0) (o := 1) (N := 30000) i_4 ⟨by decide, rfl, rfl, rfl, rfl, by decide⟩) (c_X4_28 Cx rfl rfl (rmk_ok (by omega) (by decide))) hW (by decide) rfl rfl rfl hl.1 rfl (Nat.le_of_ble_eq_true rfl) dX4_open_14 ⟨Nat.le_of_ble_eq_true rfl, Nat.le_of_ble_eq_true rfl⟩) hL (fun ln u_7 H locs k_8 hW hL => ?_)
  obtain ⟨eu_7, xu_7⟩ := k_8
  rw [eu_7] at hW
  refine lv_istore_n (lv' := [(2, .int (iv ln)), (0, .ref (G.2.2.1 + 189)), (1, .ref (G.2.2.1 + 1))]) hx hb dX4_open_17 rfl hl (by decide) rfl (fun ls hl => ?_)
  refine lv_iconst (v := iv 0) hx hb dX4_open_18 (by decide) ?_
  refine lv_istore_n (lv' := [(3, .int (iv 0)), (2, .int (iv ln)), (0, .ref (G.2.2.1 + 189)), (1, .ref (G.2.2.1 + 1))]) hx hb dX4_open_19 rfl hl (by decide) rfl (fun ls hl => ?_)
  refine lv_iconst (v := iv 0) hx hb dX4_open_20 (by decide) ?_
  refine lv_istore (lv' := [(4, .int (iv 0)), (3, .int (iv 0)), (2, .int (iv ln)), (0, .ref (G.2.2.1 + 189)), (1, .ref (G.2.2.1 + 1))]) hx hb dX4_open_21 hl (by decide) rfl (fun ls hl => ?_)
  have loop_23 : ∀ (fuel : Nat) (S23 : sS) (tr : Int) (i : Int) (H : Heap) (locs : List Loc) (ls : Array Slot), (30000 - tr).toNat < fuel → (cX G S23 0 0 0) → (Fr S S23 pRd) → (Fr ((uF (uR S 189 0 (.ref (G.2.2.1 + 1))) 189 2 0)) S23 pRd) → (0 ≤ i ∧ i ≤ S.1 1 1) → (0 ≤ tr ∧ tr ≤ 30000 ∧ tr ≤ i) → (RT G S23) → (RS S23) → (Hd (QI (bt S 1) (S.1 1 1) S23 i ∨ (i = S.1 1 1 ∧ QF (bt S 1) (S.1 1 1) S23))) → sW G 294 S23 H → sL G locs → lv_has ls 5 [(4, .int (iv tr)), (3, .int (iv i)), (2, .int (iv ln)), (0, .ref (G.2.2.1 + 189)), (1, .ref (G.2.2.1 + 1))] → W p l e (rmk 8 0 0) s m args below meth c H locs 0 0 (MQ below (sQv G 294 (fun u => cX G u 0 0 0 ∧ Fr S u pRd ∧ (RT G u ∧ RO u ∧ u.1 189 3 = 0 ∧ Hd (∃ T kp vp, TQp (bt S 1) (S.1 1 1) T kp vp ∧ PT u T kp vp)))) args s 0 0 (sF G)) (F0 m 23 ls []) := by
    intro fuel
    induction fuel with
    | zero => intro S23 tr i H locs ls hmeas hI23 hFm23 hL23_ hi htr hrtL hrsL hQ hW hL hl; exact absurd hmeas (Nat.not_lt_zero _)
    | succ fuel ih_23 =>
      intro S23 tr i H locs ls hmeas hI23 hFm23 hL23_ hi htr hrtL hrsL hQ hW hL hl
      refine lv_iload hx hb dX4_open_23 (lv_at hl 0 rfl) ?_
      refine lv_sipush (v := iv 30000) hx hb dX4_open_25 (by decide) ?_
      refine r_icmp_ge (tgt := 76) hx hb ⟨(by omega), (by omega)⟩ ⟨(by omega), (by omega)⟩ dX4_open_28 (by decide) (fun c_9 => ?_) (fun c_9 => ?_)
      · have lk_10 : S23.1 1 1 = S.1 1 1 := ((hL23_ 1 rfl).1 1).trans ((uF_ne (fun h => absurd h.2 (by decide))).trans (uR_f))
        refine lv_aload_n hx hb dX4_open_76 rfl (lv_at hl 3 rfl) ?_
        refine lv_iconst (v := iv 0) hx hb dX4_open_77 (by decide) ?_
        refine lv_iload_n hx hb dX4_open_78 rfl (lv_at hl 2 rfl) ?_
        refine sBv (sV (As := [.int (iv 0), .int (iv ln)]) (rest := []) (k := 189) Cx (s_X4_mark l G S23 (kd := 0) (sr := ln) hI23 (by omega) (by omega)) (c_X4_36 Cx rfl rfl (rmk_ok (by omega) (by decide))) hW (by decide) rfl rfl rfl hl.1 rfl (Nat.le_of_ble_eq_true rfl) dX4_open_79 ⟨Nat.le_of_ble_eq_true rfl, Nat.le_of_ble_eq_true rfl⟩) hL (fun u_11 H locs k_12 hW hL => ?_)
        obtain ⟨iu_11, fu_11, xu_11⟩ := k_12
        have F_13 := hFm23.trans fu_11
        have F_14 := hL23_.trans fu_11
        have hro := MK.ro xu_11 hrsL (DG.no (by unfold dgt; rw [bt_out (by omega)]; omega) (by rw [bt_out (by omega)]; omega))
        have hqf : Hd (QF (bt S 1) (S.1 1 1) u_11) := by rcases hQ with q | q; (exact q.fin ⟨by omega, by omega, by omega⟩ (by rw [show S.1 1 1 = ln by omega]; exact xu_11)); (exact q.2.mk xu_11)
        refine lv_aload_n hx hb dX4_open_82 rfl (lv_at hl 3 rfl) ?_
        refine lv_iconst (v := iv 0) hx hb dX4_open_83 (by decide) ?_
        refine p_X4_40 Cx hW hL (k := 189) (by decide) rfl dX4_open_84 (fun H locs hW hL => ?_)
        have F_15 : Fr S (uF u_11 189 3 0) pRd := F_13.F rfl
        have F_16 : Fr ((uF (uR S 189 0 (.ref (G.2.2.1 + 1))) 189 2 0)) (uF u_11 189 3 0) pRd := F_14.F rfl
        have i_17 : cX G (uF u_11 189 3 0) 0 0 0 := iu_11.F rfl rfl (show 0 ≤ 0 ∧ 0 ≤ 1000000000 from ⟨by omega, by omega⟩)
        have lk_18 : (uF u_11 189 3 0).1 189 3 = 0 := uF_on
        exact sVret Cx hr hlk hW hL ⟨i_17, F_15, ⟨(MK.rt xu_11 hrtL : RT G u_11), hro.at, uF_on, (show ∃ _, _ from PT.mk (QF.of hqf (uF_i (by decide)) (fun _ => rfl)) ((F_15 1 rfl).1 1) (fun j => (F_15 2 rfl).2.1 j))⟩⟩ dX4_open_87
      · refine lv_iload_n hx hb dX4_open_31 rfl (lv_at hl 1 rfl) ?_
        refine lv_iload_n hx hb dX4_open_32 rfl (lv_at hl 2 rfl) ?_
        refine r_icmp_ge (tgt := 76) hx hb ⟨(by omega), (by omega)⟩ ⟨(by omega), (by omega)⟩ dX4_open_33 (by decide) (fun c_19 => ?_) (fun c_19 => ?_)
        · have lk_20 : S23.1 1 1 = S.1 1 1 := ((hL23_ 1 rfl).1 1).trans ((uF_ne (fun h => absurd h.2 (by decide))).trans (uR_f))
          refine lv_aload_n hx hb dX4_open_76 rfl (lv_at hl 3 rfl) ?_
          refine lv_iconst (v := iv 0) hx hb dX4_open_77 (by decide) ?_
          refine lv_iload_n hx hb dX4_open_78 rfl (lv_at hl 2 rfl) ?_
          refine sBv (sV (As := [.int (iv 0), .int (iv ln)]) (rest := []) (k := 189) Cx (s_X4_mark l G S23 (kd := 0) (sr := ln) hI23 (by omega) (by omega)) (c_X4_36 Cx rfl rfl (rmk_ok (by omega) (by decide))) hW (by decide) rfl rfl rfl hl.1 rfl (Nat.le_of_ble_eq_true rfl) dX4_open_79 ⟨Nat.le_of_ble_eq_true rfl, Nat.le_of_ble_eq_true rfl⟩) hL (fun u_21 H locs k_22 hW hL => ?_)
          obtain ⟨iu_21, fu_21, xu_21⟩ := k_22
          have F_23 := hFm23.trans fu_21
          have F_24 := hL23_.trans fu_21
          have hro := MK.ro xu_21 hrsL (DG.no (by unfold dgt; rw [bt_out (by omega)]; omega) (by rw [bt_out (by omega)]; omega))
          have hqf : Hd (QF (bt S 1) (S.1 1 1) u_21) := by rcases hQ with q | q; (exact q.fin ⟨by omega, by omega, by omega⟩ (by rw [show S.1 1 1 = ln by omega]; exact xu_21)); (exact q.2.mk xu_21)
          refine lv_aload_n hx hb dX4_open_82 rfl (lv_at hl 3 rfl) ?_
          refine lv_iconst (v := iv 0) hx hb dX4_open_83 (by decide) ?_
          refine p_X4_40 Cx hW hL (k := 189) (by decide) rfl dX4_open_84 (fun H locs hW hL => ?_)
          have F_25 : Fr S (uF u_21 189 3 0) pRd := F_23.F rfl
          have F_26 : Fr ((uF (uR S 189 0 (.ref (G.2.2.1 + 1))) 189 2 0)) (uF u_21 189 3 0) pRd := F_24.F rfl
          have i_27 : cX G (uF u_21 189 3 0) 0 0 0 := iu_21.F rfl rfl (show 0 ≤ 0 ∧ 0 ≤ 1000000000 from ⟨by omega, by omega⟩)
          have lk_28 : (uF u_21 189 3 0).1 189 3 = 0 := uF_on
          exact sVret Cx hr hlk hW hL ⟨i_27, F_25, ⟨(MK.rt xu_21 hrtL : RT G u_21), hro.at, uF_on, (show ∃ _, _ from PT.mk (QF.of hqf (uF_i (by decide)) (fun _ => rfl)) ((F_25 1 rfl).1 1) (fun j => (F_25 2 rfl).2.1 j))⟩⟩ dX4_open_87
        · refine lv_aload_n hx hb dX4_open_36 rfl (lv_at hl 3 rfl) ?_
          refine lv_iload_n hx hb dX4_open_37 rfl (lv_at hl 1 rfl) ?_
          refine lv_iload_n hx hb dX4_open_38 rfl (lv_at hl 2 rfl) ?_
          have lk_29 : S23.1 1 1 = S.1 1 1 := ((hL23_ 1 rfl).1 1).trans ((uF_ne (fun h => absurd h.2 (by decide))).trans (uR_f))
          have q_30 : 0 ≤ S23.1 189 2 ∧ S23.1 189 2 ≤ 30001 := hI23.fi 189 2 4 (by decide) rfl
          refine sBi (sV (As := [.int (iv i), .int (iv ln)]) (rest := []) (k := 189) Cx (b_X4_scanOne l G S23 (i0 := i) (ln := ln) hI23 (by omega) (by omega) hrtL hrsL) (c_X4_32 Cx rfl rfl (rmk_ok (by omega) (by decide))) hW (by decide) rfl rfl rfl hl.1 rfl (Nat.le_of_ble_eq_true rfl) dX4_open_39 ⟨Nat.le_of_ble_eq_true rfl, Nat.le_of_ble_eq_true rfl⟩) hL (fun r_33 u_31 H locs k_32 hW hL => ?_)
          obtain ⟨iu_31, fu_31, xu_31⟩ := k_32
          have F_34 := hFm23.trans fu_31
          have F_35 := hL23_.trans fu_31
          have eN : S23.1 1 1 = S.1 1 1 := (hFm23 1 rfl).1 1
          have eB : bt S23 1 = bt S 1 := funext fun k => bt_fr hFm23 rfl rfl
          have hst : Hd ((i < r_33 ∧ r_33 ≤ S.1 1 1) ∧ (QI (bt S 1) (S.1 1 1) u_31 r_33 ∨ (0 < u_31.1 189 2 ∧ u_31.2.1 192 (u_31.1 189 2 - 1) % 16 = 1 ∧ QF (bt S 1) (S.1 1 1) u_31))) := open_st eN eB (by omega) (by rcases hQ with q | q; (exact q); (exfalso; omega)) xu_31.2.2.2.1 xu_31.2.2.2.2
          have hsr := hst.1
          refine lv_istore_n (lv' := [(3, .int (iv r_33)), (4, .int (iv tr)), (2, .int (iv ln)), (0, .ref (G.2.2.1 + 189)), (1, .ref (G.2.2.1 + 1))]) hx hb dX4_open_42 rfl hl (by decide) rfl (fun ls hl => ?_)
          refine lv_aload_n hx hb dX4_open_43 rfl (lv_at hl 3 rfl) ?_
          have q_36 : 0 ≤ u_31.1 189 2 ∧ u_31.1 189 2 ≤ 30001 := iu_31.fi 189 2 4 (by decide) rfl
          refine g_X4_24 Cx hW (k := 189) (by decide) rfl (v := u_31.1 189 2) rfl dX4_open_44 ?_
          refine r_if_le (tgt := 70) hx hb ⟨(by omega), (by omega)⟩ dX4_open_47 (by decide) (fun c_37 => ?_) (fun c_37 => ?_)
          · refine lv_iinc (v := iv (tr + 1)) (lv' := [(4, .int (iv (tr + 1))), (3, .int (iv r_33)), (2, .int (iv ln)), (0, .ref (G.2.2.1 + 189)), (1, .ref (G.2.2.1 + 1))]) hx hb dX4_open_70 hl (k := 1) rfl ((Int32.ofInt_add _ _).symm) (by decide) rfl (fun ls hl => ?_)
            refine lv_goto (tgt := 23) hx hb dX4_open_73 (by decide) ?_
            exact ih_23 u_31 (tr + 1) r_33 _ _ _ (by omega) iu_31 F_34 F_35 (by omega) (by omega) xu_31.2.1 xu_31.2.2.1 (by rcases hst.2 with q | q; (exact .inl q); (exfalso; omega)) hW hL (lv_sub hl [0, 1, 2, 3, 4] rfl)
          · refine lv_aload_n hx hb dX4_open_50 rfl (lv_at hl 3 rfl) ?_
            refine g_X4_20 Cx hW (k := 189) (by decide) rfl (v := .ref (G.2.2.1 + 192)) (rf_189_1 iu_31) dX4_open_51 ?_
            refine lv_aload_n hx hb dX4_open_54 rfl (lv_at hl 3 rfl) ?_
            refine g_X4_24 Cx hW (k := 189) (by decide) rfl (v := u_31.1 189 2) rfl dX4_open_55 ?_
            refine lv_iconst (v := iv 1) hx hb dX4_open_58 (by decide) ?_
            refine r_isub hx hb dX4_open_59 ?_
            refine rIald Cx hW (k := 192) (by decide) rfl (by decide) (by omega) (by omega) dX4_open_60 ?_
            have q_38 : 0 ≤ u_31.2.1 192 ((u_31.1 189 2) - 1) ∧ u_31.2.1 192 ((u_31.1 189 2) - 1) ≤ 480015 := iu_31.ai 192 ((u_31.1 189 2) - 1) (by decide)
            refine r_i (b := u_31.2.1 192 ((u_31.1 189 2) - 1)) rfl ?_
            refine lv_bipush (v := iv 16) hx hb dX4_open_61 (by decide) ?_
            refine r_irem hx hb ⟨(by omega), (by omega)⟩ ⟨(by omega), (by omega)⟩ (by omega) dX4_open_63 ?_
            refine r_i (b := (u_31.2.1 192 ((u_31.1 189 2) - 1)) % 16) (Int.tmod_eq_emod_of_nonneg (by omega)) ?_
            refine lv_iconst (v := iv 1) hx hb dX4_open_64 (by decide) ?_
            refine r_icmp_ne (tgt := 70) hx hb ⟨(by omega), (by omega)⟩ ⟨(by omega), (by omega)⟩ dX4_open_65 (by decide) (fun c_39 => ?_) (fun c_39 => ?_)
            · refine lv_iinc (v := iv (tr + 1)) (lv' := [(4, .int (iv (tr + 1))), (3, .int (iv r_33)), (2, .int (iv ln)), (0, .ref (G.2.2.1 + 189)), (1, .ref (G.2.2.1 + 1))]) hx hb dX4_open_70 hl (k := 1) rfl ((Int32.ofInt_add _ _).symm) (by decide) rfl (fun ls hl => ?_)
              refine lv_goto (tgt := 23) hx hb dX4_open_73 (by decide) ?_
              exact ih_23 u_31 (tr + 1) r_33 _ _ _ (by omega) iu_31 F_34 F_35 (by omega) (by omega) xu_31.2.1 xu_31.2.2.1 (by rcases hst.2 with q | q; (exact .inl q); (exfalso; omega)) hW hL (lv_sub hl [0, 1, 2, 3, 4] rfl)
            · refine lv_iload_n hx hb dX4_open_68 rfl (lv_at hl 2 rfl) ?_
              refine lv_istore_n (lv' := [(3, .int (iv ln)), (4, .int (iv tr)), (2, .int (iv ln)), (0, .ref (G.2.2.1 + 189)), (1, .ref (G.2.2.1 + 1))]) hx hb dX4_open_69 rfl hl (by decide) rfl (fun ls hl => ?_)
              refine lv_iinc (v := iv (tr + 1)) (lv' := [(4, .int (iv (tr + 1))), (3, .int (iv ln)), (2, .int (iv ln)), (0, .ref (G.2.2.1 + 189)), (1, .ref (G.2.2.1 + 1))]) hx hb dX4_open_70 hl (k := 1) rfl ((Int32.ofInt_add _ _).symm) (by decide) rfl (fun ls hl => ?_)
              refine lv_goto (tgt := 23) hx hb dX4_open_73 (by decide) ?_
              exact ih_23 u_31 (tr + 1) ln _ _ _ (by omega) iu_31 F_34 F_35 (by omega) (by omega) xu_31.2.1 xu_31.2.2.1 (by rcases hst.2 with q | q; (exfalso; exact QI.no1 q (by omega) rfl (by omega)); (exact .inr ⟨by omega, q.2.2⟩)) hW hL (lv_sub hl [0, 1, 2, 3, 4] rfl)
  exact loop_23 (_ + 1) (uF (uR S 189 0 (.ref (G.2.2.1 + 1))) 189 2 0) 0 0 _ _ _ (Nat.lt_succ_self _) i_4 F_3 Fr.rf (by omega) (by omega) (show (uR S 189 0 (.ref (G.2.2.1 + 1))).2.2.2 189 0 = _ from uR_on) ⟨fun k a b => absurd b (by rw [uF_on]; omega), fun k a b => absurd b (by rw [uF_on]; omega)⟩ (.inl (QI.zero uF_on)) hW hL (lv_sub hl [0, 1, 2, 3, 4] rfl)
