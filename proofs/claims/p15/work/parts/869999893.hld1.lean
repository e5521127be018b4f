/-! What it means that a proof holds: tokens kp (kinds), vp (values) -/
/-- PAIRS: how they must stand -/
def gPr (kp : Int → Int) : Nat → Int → Option Int
  | 0, _ => none
  | f + 1, t => if kp t = 2 then (if kp (t + 1) = 4 ∧ kp (t + 2) = 2 then gPr kp f (t + 3) else none) else if kp t = 5 then some (t + 1) else none
/-- TREES that are due -/
def gTr (kp vp : Int → Int) : Nat → Int → Int → Option Int
  | 0, t, d => if d = 0 then some t else none
  | f + 1, t, d => if d = 0 then some t else if kp t = 12 then (if kp (t + 1) = 2 ∧ kp (t + 2) = 2 then gTr kp vp f (t + 3) (d + 1) else none) else if kp t = 13 ∨ kp t = 14 ∨ kp t = 15 then (if kp (t + 1) = 2 ∧ 0 < vp (t + 1) then (gPr kp 30001 (t + 2)).bind (fun e => gTr kp vp f e (if kp t = 13 then d else d - 1)) else none) else none
/-- PAIRS: what they say; none if they can't be such -/
def prs (c : Int) (kp vp : Int → Int) : Nat → Int → Int → (Int → Int) → Option ((Int → Int) × Int)
  | 0, _, _, _ => none
  | f + 1, t, la, ff => if kp t = 2 then (if vp t ≤ la ∨ c < vp t ∨ vp (t + 2) < 0 then none else prs c kp vp f (t + 3) (vp t) (upf ff (vp t) (vp (t + 2)))) else some (ff, t + 1)
def lgx (n c : Int) (R : Int → Int → Int) (ff : Int → Int) (q : Int) : Prop := ∃ j, 0 ≤ j ∧ j ≤ n ∧ lg60 (smf ff R j c.toNat / q)
def leaf (n c : Int) (R : Int → Int → Int) (wh ff : Int → Int) (wd hv q vt vb : Int) : Prop := (wd = 15 ∧ okF n c R ff) ∨ (wd ≠ 15 ∧ hv = 1 ∧ okBd n c R wh ff q vt vb)
/-- the fault of the TREES from t on: rows R, c of them; w BRANCHES wait with their rows wr, variables wk, bounds wv -/
def HT (n W : Int) (wh : Int → Int) (hv vt vb : Int) (kp vp : Int → Int) : Nat → Int → Int → (Int → Int → Int) → Int → (Int → Int) → (Int → Int) → (Int → Int) → Int → Prop
  | 0, _, _, _, _, _, _, _, r => r = 6
  | f + 1, t, c, R, w, wr, wk, wv, r =>
    (kp t = 12 → (¬ (1 ≤ vp (t + 1) ∧ vp (t + 1) ≤ n ∧ wh (vp (t + 1)) = 1) → r = 4) ∧ ((1 ≤ vp (t + 1) ∧ vp (t + 1) ≤ n ∧ wh (vp (t + 1)) = 1) → (40 ≤ c → r = 6) ∧ (c < 40 → HT n W wh hv vt vb kp vp f (t + 3) (c + 1) (upR R (c + 1) (limr (vp (t + 1)) (vp (t + 2)) 0)) (w + 1) (upf wr w c) (upf wk w (vp (t + 1))) (upf wv w (vp (t + 2))) r))) ∧
    (kp t ≠ 12 → (prs c kp vp 30001 (t + 2) 0 (fun _ => 0) = none → r = 4) ∧ ∀ ff e, prs c kp vp 30001 (t + 2) 0 (fun _ => 0) = some (ff, e) →
      (kp t = 13 → (W ≠ n → r = 4) ∧ (W = n → ((40 ≤ c ∨ lgx n c R ff (vp (t + 1))) → r = 6) ∧ (¬ (40 ≤ c ∨ lgx n c R ff (vp (t + 1))) → HT n W wh hv vt vb kp vp f e (c + 1) (upR R (c + 1) (fun j => smf ff R j c.toNat / vp (t + 1))) w wr wk wv r))) ∧
      (kp t ≠ 13 → (¬ leaf n c R wh ff (kp t) hv (vp (t + 1)) vt vb → r = 4) ∧ (leaf n c R wh ff (kp t) hv (vp (t + 1)) vt vb → (w = 0 → r = 0) ∧ (w ≠ 0 → HT n W wh hv vt vb kp vp f e (wr (w - 1) + 1) (upR R (wr (w - 1) + 1) (limr (wk (w - 1)) (wv (w - 1)) 1)) (w - 1) wr wk wv r))))
theorem HT.one {n W : Int} {wh : Int → Int} {hv vt vb : Int} {kp vp : Int → Int} : ∀ (f : Nat) (t c : Int) (R : Int → Int → Int) (w : Int) (wr wk wv : Int → Int) (r s : Int), HT n W wh hv vt vb kp vp f t c R w wr wk wv r → HT n W wh hv vt vb kp vp f t c R w wr wk wv s → r = s := by
  intro f
  induction f with
  | zero => intro t c R w wr wk wv r s h g; have h : r = 6 := h; have g : s = 6 := g; omega
  | succ f ih =>
    intro t c R w wr wk wv r s h g
    by_cases k : kp t = 12
    · have h := h.1 k; have g := g.1 k
      by_cases q : 1 ≤ vp (t + 1) ∧ vp (t + 1) ≤ n ∧ wh (vp (t + 1)) = 1
      · have h := h.2 q; have g := g.2 q
        by_cases z : 40 ≤ c
        · rw [h.1 z, g.1 z]
        · exact ih _ _ _ _ _ _ _ _ _ (h.2 (by omega)) (g.2 (by omega))
      · rw [h.1 q, g.1 q]
    · have h := h.2 k; have g := g.2 k
      cases e : prs c kp vp 30001 (t + 2) 0 (fun _ => 0) with
      | none => rw [h.1 e, g.1 e]
      | some y =>
        obtain ⟨ff, e1⟩ := y
        have h := h.2 ff e1 e; have g := g.2 ff e1 e
        by_cases z : kp t = 13
        · have h := h.1 z; have g := g.1 z
          by_cases x : W = n
          · have h := h.2 x; have g := g.2 x
            by_cases y : 40 ≤ c ∨ lgx n c R ff (vp (t + 1))
            · rw [h.1 y, g.1 y]
            · exact ih _ _ _ _ _ _ _ _ _ (h.2 y) (g.2 y)
          · rw [h.1 x, g.1 x]
        · have h := h.2 z; have g := g.2 z
          by_cases y : leaf n c R wh ff (kp t) hv (vp (t + 1)) vt vb
          · have h := h.2 y; have g := g.2 y
            by_cases x : w = 0
            · rw [h.1 x, g.1 x]
            · exact ih _ _ _ _ _ _ _ _ _ (h.2 x) (g.2 x)
          · rw [h.1 y, g.1 y]
/-- where tokens are -/
def KT (T : Int) (kp : Int → Int) : Prop := ∀ j, kp j ≠ 0 → 0 ≤ j ∧ j < T
theorem gPr_2 {kp : Int → Int} {f : Nat} {t e : Int} (h : gPr kp f t = some e) (k : kp t = 2) : ∃ g, f = g + 1 ∧ kp (t + 1) = 4 ∧ kp (t + 2) = 2 ∧ gPr kp g (t + 3) = some e := by
  cases f with
  | zero => cases h
  | succ g =>
    have h : (if kp t = 2 then (if kp (t + 1) = 4 ∧ kp (t + 2) = 2 then gPr kp g (t + 3) else none) else if kp t = 5 then some (t + 1) else none) = some e := h
    rw [if_pos k] at h
    by_cases q : kp (t + 1) = 4 ∧ kp (t + 2) = 2
    · rw [if_pos q] at h; exact ⟨g, rfl, q.1, q.2, h⟩
    · rw [if_neg q] at h; cases h
theorem gPr_5 {kp : Int → Int} {f : Nat} {t e : Int} (h : gPr kp f t = some e) (k : kp t ≠ 2) : ∃ g, f = g + 1 ∧ kp t = 5 ∧ e = t + 1 := by
  cases f with
  | zero => cases h
  | succ g =>
    have h : (if kp t = 2 then (if kp (t + 1) = 4 ∧ kp (t + 2) = 2 then gPr kp g (t + 3) else none) else if kp t = 5 then some (t + 1) else none) = some e := h
    rw [if_neg k] at h
    by_cases q : kp t = 5
    · rw [if_pos q] at h; exact ⟨g, rfl, q, (Option.some.inj h).symm⟩
    · rw [if_neg q] at h; cases h
theorem prs_bad {c : Int} {kp vp : Int → Int} {f : Nat} {t la : Int} {ff : Int → Int} (k : kp t = 2) (h : vp t ≤ la ∨ c < vp t ∨ vp (t + 2) < 0) : prs c kp vp (f + 1) t la ff = none := by
  show (if kp t = 2 then (if vp t ≤ la ∨ c < vp t ∨ vp (t + 2) < 0 then none else prs c kp vp f (t + 3) (vp t) (upf ff (vp t) (vp (t + 2)))) else some (ff, t + 1)) = none
  rw [if_pos k, if_pos h]
theorem prs_go {c : Int} {kp vp : Int → Int} {f : Nat} {t la : Int} {ff : Int → Int} (k : kp t = 2) (h : ¬ (vp t ≤ la ∨ c < vp t ∨ vp (t + 2) < 0)) : prs c kp vp (f + 1) t la ff = prs c kp vp f (t + 3) (vp t) (upf ff (vp t) (vp (t + 2))) := by
  show (if kp t = 2 then (if vp t ≤ la ∨ c < vp t ∨ vp (t + 2) < 0 then none else prs c kp vp f (t + 3) (vp t) (upf ff (vp t) (vp (t + 2)))) else some (ff, t + 1)) = _
  rw [if_pos k, if_neg h]
theorem prs_end {c : Int} {kp vp : Int → Int} {f : Nat} {t la : Int} {ff : Int → Int} (k : kp t ≠ 2) : prs c kp vp (f + 1) t la ff = some (ff, t + 1) := by
  show (if kp t = 2 then _ else some (ff, t + 1)) = _
  rw [if_neg k]
/-- one step of the TREES' grammar -/
theorem gTr_0 {kp vp : Int → Int} {f : Nat} {t e : Int} (h : gTr kp vp f t 0 = some e) : e = t := by
  cases f with
  | zero => exact (Option.some.inj h).symm
  | succ g => exact (Option.some.inj h).symm
theorem gTr_s {kp vp : Int → Int} {f : Nat} {t d e : Int} (h : gTr kp vp f t d = some e) (hd : d ≠ 0) : ∃ g, f = g + 1 ∧ ((kp t = 12 ∧ kp (t + 1) = 2 ∧ kp (t + 2) = 2 ∧ gTr kp vp g (t + 3) (d + 1) = some e) ∨ ((kp t = 13 ∨ kp t = 14 ∨ kp t = 15) ∧ kp (t + 1) = 2 ∧ 0 < vp (t + 1) ∧ ∃ x, gPr kp 30001 (t + 2) = some x ∧ gTr kp vp g x (if kp t = 13 then d else d - 1) = some e)) := by
  cases f with
  | zero => have h : (if d = 0 then some t else none) = some e := h; rw [if_neg hd] at h; cases h
  | succ g =>
    have h : (if d = 0 then some t else if kp t = 12 then (if kp (t + 1) = 2 ∧ kp (t + 2) = 2 then gTr kp vp g (t + 3) (d + 1) else none) else if kp t = 13 ∨ kp t = 14 ∨ kp t = 15 then (if kp (t + 1) = 2 ∧ 0 < vp (t + 1) then (gPr kp 30001 (t + 2)).bind (fun e => gTr kp vp g e (if kp t = 13 then d else d - 1)) else none) else none) = some e := h
    rw [if_neg hd] at h
    refine ⟨g, rfl, ?_⟩
    by_cases k : kp t = 12
    · rw [if_pos k] at h
      by_cases q : kp (t + 1) = 2 ∧ kp (t + 2) = 2
      · rw [if_pos q] at h; exact .inl ⟨k, q.1, q.2, h⟩
      · rw [if_neg q] at h; cases h
    · rw [if_neg k] at h
      by_cases k2 : kp t = 13 ∨ kp t = 14 ∨ kp t = 15
      · rw [if_pos k2] at h
        by_cases q : kp (t + 1) = 2 ∧ 0 < vp (t + 1)
        · rw [if_pos q] at h
          cases e2 : gPr kp 30001 (t + 2) with
          | none => rw [e2] at h; cases h
          | some x => rw [e2] at h; exact .inr ⟨k2, q.1, q.2, x, rfl, h⟩
        · rw [if_neg q] at h; cases h
      · rw [if_neg k2] at h; cases h
/-- the PAIRS end where their grammar ends -/
theorem prs_g {c : Int} {kp vp : Int → Int} : ∀ (f : Nat) (t la e x : Int) (ff gg : Int → Int), gPr kp f t = some e → prs c kp vp f t la ff = some (gg, x) → x = e := by
  intro f
  induction f with
  | zero => intro t la e x ff gg h; cases h
  | succ f ih =>
    intro t la e x ff gg h p
    by_cases k : kp t = 2
    · obtain ⟨g, e1, _, _, h2⟩ := gPr_2 h k
      rw [show f = g by omega] at ih p
      by_cases q : vp t ≤ la ∨ c < vp t ∨ vp (t + 2) < 0
      · rw [prs_bad k q] at p; cases p
      · rw [prs_go k q] at p; exact ih _ _ _ _ _ _ h2 p
    · obtain ⟨g, e1, _, h2⟩ := gPr_5 h k
      rw [prs_end k] at p
      have := Option.some.inj p
      rw [h2]; exact (congrArg Prod.snd this).symm
