/-! The reference's tokens of a proof -/
def wcd (v : Int) : Int := if v = 0 then 7 else if v = 1 then 10 else if v = 2 then 8 else if v = 3 then 9 else v + 7
/-- a token's kind and value, and what kind it means -/
def krq (K V k : Int) : Prop := (K = 3 ∧ ((V = 0 ∧ k = 7) ∨ (V = 1 ∧ k = 10) ∨ (V = 2 ∧ k = 8) ∨ (V = 3 ∧ k = 9) ∨ (4 ≤ V ∧ V ≤ 8 ∧ k = V + 7))) ∨ (K = 2 ∧ k = 2) ∨ (K = 4 ∧ ((V = 47 ∧ k = 3) ∨ (V = 58 ∧ k = 4) ∨ (V = 59 ∧ k = 5))) ∨ (K = 5 ∧ k = 0) ∨ (K = 6 ∧ (k = 1 ∨ k = 6))
theorem krq_w {r : Int} (h : 0 ≤ r ∧ r ≤ 8) : krq 3 r (wcd r) := by
  have e : r = 0 ∨ r = 1 ∨ r = 2 ∨ r = 3 ∨ 4 ≤ r := by omega
  refine .inl ⟨rfl, ?_⟩
  rcases e with e | e | e | e | e
  · exact .inl ⟨e, by rw [e]; decide⟩
  · exact .inr (.inl ⟨e, by rw [e]; decide⟩)
  · exact .inr (.inr (.inl ⟨e, by rw [e]; decide⟩))
  · exact .inr (.inr (.inr (.inl ⟨e, by rw [e]; decide⟩)))
  · refine .inr (.inr (.inr (.inr ⟨e, h.2, ?_⟩)))
    unfold wcd; rw [if_neg (by omega), if_neg (by omega), if_neg (by omega), if_neg (by omega)]
def vsg (v x : Int) : Prop := (v = 0 ∧ x = 0) ∨ (v = 1 ∧ 0 < x) ∨ (v = -1 ∧ x < 0)
section
variable {B : Int → Int} {n q w : Int}
theorem num_tok {ng zf : Int} (hng : (ng = 1 ∧ cb B n q = 45) ∨ (ng = 0 ∧ cb B n q ≠ 45 ∧ isDg (cb B n q))) (hl : ¬ isLt (cb B n q)) (hend : en n (stD B n) (q + ng) = q + w) (hw : ng ≤ w) (hzf : 0 ≤ zf ∧ zf ≤ 1) (hzx : zf = 1 ↔ ∀ x, q + ng ≤ x → x < q + w → B x = 48) (hdg : ∀ x, q + ng ≤ x → x < q + w → 48 ≤ B x ∧ B x ≤ 57) : qE B n q = q + w ∧ ((ng + 1 ≤ w ∧ w ≤ ng + 60 ∧ (ng = 1 → zf = 0)) → QK B n q 2 ∧ (zf = 1 → qV B n q = 0) ∧ (zf = 0 → ng = 1 → qV B n q < 0) ∧ (zf = 0 → ng = 0 → 0 < qV B n q)) ∧ (¬ (ng + 1 ≤ w ∧ w ≤ ng + 60 ∧ (ng = 1 → zf = 0)) → QK B n q 1) := by
  have ed : qdg B n q = q + ng := by
    unfold qdg
    rcases hng with h | h
    · rw [if_pos h.2]; omega
    · rw [if_neg h.2.1]; omega
  have e45 : cb B n q = 45 ∨ isDg (cb B n q) := by
    rcases hng with h | h
    · exact .inl h.2
    · exact .inr h.2.2
  have hE : qE B n q = q + w := by
    unfold qE; rw [if_neg hl, if_pos e45, ed, hend]
  have h48 : ∀ x : Int, q + ng ≤ x → x < q + ng + ((w - ng).toNat : Nat) → 48 ≤ B x := fun x a b => (hdg x a (by omega)).1
  have dp := dvn_pos (B := B) (p := q + ng) (w - ng).toNat h48
  have d0 := dvn_0 (B := B) (p := q + ng) (w - ng).toNat h48
  have ex : zf = 0 → ∃ x, q + ng ≤ x ∧ x < q + ng + ((w - ng).toNat : Nat) ∧ B x ≠ 48 := fun z => by
    by_cases c : ∃ x, q + ng ≤ x ∧ x < q + ng + ((w - ng).toNat : Nat) ∧ B x ≠ 48
    · exact c
    · exfalso
      have := hzx.mpr (fun x a b => by
        by_cases y : B x = 48
        · exact y
        · exact absurd ⟨x, a, by omega, y⟩ c)
      omega
  have eg : nGd B n q ↔ (ng + 1 ≤ w ∧ w ≤ ng + 60 ∧ (ng = 1 → zf = 0)) := by
    unfold nGd
    rw [ed, hend]
    constructor
    · rintro ⟨a, b, c⟩
      refine ⟨by omega, by omega, fun z => ?_⟩
      rcases hng with h | h
      · obtain ⟨i, i1, i2, i3⟩ := c h.2
        by_cases y : zf = 1
        · exact absurd (hzx.mp y i i1 i2) i3
        · omega
      · omega
    · rintro ⟨a, b, c⟩
      refine ⟨by omega, by omega, fun z => ?_⟩
      rcases hng with h | h
      · obtain ⟨i, i1, i2, i3⟩ := ex (c h.1); exact ⟨i, i1, by omega, i3⟩
      · exact absurd z h.2.1
  have eV : qV B n q = if ng = 1 then -dvn B (q + ng) (w - ng).toNat else dvn B (q + ng) (w - ng).toNat := by
    unfold qV
    rcases hng with h | h
    · rw [if_pos h.2, if_pos h.1, h.1]
      rw [h.1] at hend
      rw [hend]; congr 2; omega
    · rw [if_neg h.2.1, if_neg (by omega), h.1]
      rw [h.1] at hend
      rw [show q + 0 = q by omega] at hend ⊢
      rw [hend]; congr 1; omega
  have z1 : zf = 1 → dvn B (q + ng) (w - ng).toNat = 0 := fun z => by
    by_cases c : 0 < dvn B (q + ng) (w - ng).toNat
    · obtain ⟨i, i1, i2, i3⟩ := dp.mpr c
      exact absurd (hzx.mp z i i1 (by omega)) i3
    · omega
  refine ⟨hE, fun g => ⟨⟨fun y => absurd y hl, fun _ _ => ⟨fun _ => rfl, fun y => absurd (eg.mpr g) y⟩, fun _ y => absurd e45 y⟩, fun z => ?_, fun z y => ?_, fun z y => ?_⟩, fun g => ⟨fun y => absurd y hl, fun _ _ => ⟨fun y => absurd (eg.mp y) g, fun _ => rfl⟩, fun _ y => absurd e45 y⟩⟩
  · rw [eV, z1 z]; split <;> rfl
  · have := dp.mp (ex z); rw [eV, if_pos y]; omega
  · have := dp.mp (ex z); rw [eV, if_neg (by omega)]; exact this
theorem sg_tok (hl : ¬ isLt (cb B n q)) (hd : ¬ (cb B n q = 45 ∨ isDg (cb B n q))) : qE B n q = q + 1 ∧ QK B n q (sgk (cb B n q)) :=
  ⟨by unfold qE; rw [if_neg hl, if_neg hd], fun y => absurd y hl, fun _ y => absurd y hd, fun _ _ => rfl⟩
theorem let_tok {k : Int} (hl : isLt (cb B n q)) (hend : en n (stL B n) q = q + w) (h : WK B q (q + w) k) : qE B n q = q + w ∧ QK B n q k := by
  have e : qE B n q = q + w := by unfold qE; rw [if_pos hl, hend]
  exact ⟨e, fun _ => by rw [e]; exact h, fun y => absurd hl y, fun y => absurd hl y⟩
end
/-- one token more -/
def tkO (B : Int → Int) (n : Int) (S u : sS) (q w : Int) : Prop := ∃ k v kk, u.1 231 19 = S.1 231 19 + 1 ∧ tkR S u (S.1 231 19) k q w v ∧ QK B n q kk ∧ krq k v kk ∧ q + w = qE B n q ∧ (k = 2 → vsg v (qV B n q))
def tkQ (B : Int → Int) (n : Int) (S : sS) (j : Nat) : Prop := S.2.1 245 j = qps B n j ∧ ∃ kk, QKs B n (qps B n j) kk ∧ krq (S.2.1 244 j) (S.2.1 247 j) kk ∧ (S.2.1 244 j = 2 → S.2.1 246 j = qE B n (qps B n j) - qps B n j ∧ vsg (S.2.1 247 j) (qV B n (qps B n j)))
def TPI (B : Int → Int) (n : Int) (S : sS) (i : Int) : Prop := en n (stB B n) i = qps B n (S.1 231 19).toNat ∧ ∀ j : Nat, (j : Int) < S.1 231 19 → tkQ B n S j ∧ S.2.1 244 j ≤ 4
def TPS (B : Int → Int) (n : Int) (S : sS) : Prop := 1 ≤ S.1 231 19 ∧ (∀ j : Nat, (j : Int) < S.1 231 19 - 1 → S.2.1 244 j ≤ 4) ∧ (S.2.1 244 (S.1 231 19 - 1) = 5 ∨ S.2.1 244 (S.1 231 19 - 1) = 6) ∧ ∀ j : Nat, (j : Int) < S.1 231 19 → tkQ B n S j
theorem TPI.blank {B : Int → Int} {n : Int} {S : sS} {i : Int} (h : TPI B n S i) (hb : stB B n i) : TPI B n S (i + 1) := ⟨(en_st stB_lt hb).symm.trans h.1, h.2⟩
theorem TPI.at {B : Int → Int} {n : Int} {S : sS} {i : Int} (h : TPI B n S i) (hb : ¬ stB B n i) : qps B n (S.1 231 19).toNat = i := by rw [← h.1, en_no hb]
theorem tkQ.tok {B : Int → Int} {n : Int} {S u : sS} {k q w v : Int} {j : Nat} (h : tkQ B n S j) (t : tkR S u (S.1 231 19) k q w v) (hj : (j : Int) < S.1 231 19) : tkQ B n u j := by
  obtain ⟨t1, t2, t3, t4⟩ := t
  unfold tkQ
  rw [t1, t2, t3, t4, if_neg (by omega), if_neg (by omega), if_neg (by omega), if_neg (by omega)]; exact h
theorem TPI.new {B : Int → Int} {n : Int} {S u : sS} {i w : Int} (h : TPI B n S i) (h3 : 0 ≤ S.1 231 19) (hb : ¬ stB B n i) (hi : i < n) (t : tkO B n S u i w) : u.1 231 19 = S.1 231 19 + 1 ∧ qps B n (S.1 231 19).toNat = i ∧ i + w = qE B n i ∧ (∀ j : Nat, (j : Int) < u.1 231 19 → tkQ B n u j) ∧ ∀ j : Nat, (j : Int) < S.1 231 19 → u.2.1 244 j = S.2.1 244 j := by
  obtain ⟨k, v, kk, t0, t, hk, hr, he, hv⟩ := t
  have e := h.at hb
  refine ⟨t0, e, he, fun j hj => ?_, fun j hj => ?_⟩
  · by_cases q : (j : Int) = S.1 231 19
    · have e2 : qps B n j = i := by rw [show j = (S.1 231 19).toNat by omega]; exact e
      unfold tkQ
      obtain ⟨t1, t2, t3, t4⟩ := t
      rw [t1, t2, t3, t4, if_pos q, if_pos q, if_pos q, if_pos q, e2]
      exact ⟨rfl, kk, ⟨fun _ => hk, fun y => by omega⟩, hr, fun y => ⟨by omega, hv y⟩⟩
    · exact (h.2 j (by omega)).1.tok t (by omega)
  · rw [t.1, if_neg (by omega)]
theorem TPI.tok {B : Int → Int} {n : Int} {S u : sS} {i w : Int} (h : TPI B n S i) (h3 : 0 ≤ S.1 231 19) (hb : ¬ stB B n i) (hi : i < n) (t : tkO B n S u i w) (hk : u.2.1 244 (S.1 231 19) ≤ 4) : TPI B n u (i + w) := by
  obtain ⟨a, b, c, d, e⟩ := h.new h3 hb hi t
  refine ⟨?_, fun j hj => ⟨d j hj, ?_⟩⟩
  · rw [a, show (S.1 231 19 + 1).toNat = (S.1 231 19).toNat + 1 by omega]
    show _ = en n (stB B n) (qE B n (qps B n (S.1 231 19).toNat)); rw [b, c]
  · by_cases q : (j : Int) = S.1 231 19
    · rw [q]; exact hk
    · rw [e j (by omega)]; exact (h.2 j (by omega)).2
theorem TPI.bad {B : Int → Int} {n : Int} {S u : sS} {i w : Int} (h : TPI B n S i) (h3 : 0 ≤ S.1 231 19) (hb : ¬ stB B n i) (hi : i < n) (t : tkO B n S u i w) (hk : u.2.1 244 (S.1 231 19) = 6) : TPS B n u := by
  obtain ⟨a, b, c, d, e⟩ := h.new h3 hb hi t
  refine ⟨by omega, fun j hj => ?_, ?_, d⟩
  · rw [e j (by omega)]; exact (h.2 j (by omega)).2
  · rw [a, show S.1 231 19 + 1 - 1 = S.1 231 19 by omega]; exact .inr hk
theorem TPI.fin {B : Int → Int} {n : Int} {S u : sS} {i : Int} (h : TPI B n S i) (h3 : 0 ≤ S.1 231 19) (hi : i = n) (t0 : u.1 231 19 = S.1 231 19 + 1) (t : tkR S u (S.1 231 19) 5 n 0 0) : TPS B n u := by
  have hb : ¬ stB B n i := fun z => by have := stB_lt z; omega
  have e := h.at hb
  have t' := t
  obtain ⟨t1, t2, t3, t4⟩ := t
  refine ⟨by omega, fun j hj => ?_, ?_, fun j hj => ?_⟩
  · rw [t1, if_neg (by omega)]; exact (h.2 j (by omega)).2
  · rw [t0, show S.1 231 19 + 1 - 1 = S.1 231 19 by omega, t1, if_pos rfl]; exact .inl rfl
  · by_cases q : (j : Int) = S.1 231 19
    · have e2 : qps B n j = i := by rw [show j = (S.1 231 19).toNat by omega]; exact e
      unfold tkQ
      rw [t1, t2, t3, t4, if_pos q, if_pos q, if_pos q, if_pos q, e2]
      exact ⟨hi.symm, 0, ⟨fun y => by omega, fun _ => rfl⟩, .inr (.inr (.inr (.inl ⟨rfl, rfl⟩))), fun y => absurd y (by decide)⟩
    · exact (h.2 j (by omega)).1.tok t' (by omega)
theorem TPS.end {B : Int → Int} {n : Int} {S u : sS} (h : TPS B n S) (e19 : u.1 231 19 = S.1 231 19) (a244 : ∀ x, x < S.1 231 19 → u.2.1 244 x = S.2.1 244 x) (a245 : u.2.1 245 = S.2.1 245) (a246 : u.2.1 246 = S.2.1 246) (a247 : u.2.1 247 = S.2.1 247) : TPS B n u := by
  unfold TPS tkQ at *
  rw [e19, a245, a246, a247]
  refine ⟨h.1, fun j hj => by rw [a244 _ (by omega)]; exact h.2.1 j hj, by rw [a244 _ (by omega)]; exact h.2.2.1, fun j hj => by rw [a244 _ hj]; exact h.2.2.2 j hj⟩
/-- the reference's tokens and what they mean -/
def KRq (K V : Int → Int) (T : Int) (kp : Int → Int) : Prop := ∀ t, 0 ≤ t → t < T → krq (K t) (V t) (kp t)
/-- a NUMBER of the text, and its value -/
def NVr (X Fm Wd Vt : Int → Int) (t x : Int) : Prop := vsg (Vt t) x ∧ ((X (Fm t) = 45 ∧ x = -dvn X (Fm t + 1) (Wd t - 1).toNat) ∨ (X (Fm t) ≠ 45 ∧ x = dvn X (Fm t) (Wd t).toNat))
theorem TPS.mk {B : Int → Int} {n : Int} {S : sS} (h : TPS B n S) : ∃ kp vp, TQp B n (S.1 231 19) kp vp ∧ KRq (S.2.1 244) (S.2.1 247) (S.1 231 19) kp ∧ ∀ t, 0 ≤ t → t < S.1 231 19 → kp t = 2 → NVr B (S.2.1 245) (S.2.1 246) (S.2.1 247) t (vp t) := by
  obtain ⟨h0, h1, h2, h3⟩ := h
  obtain ⟨f, hf⟩ := Classical.axiomOfChoice (r := fun (j : Nat) (kk : Int) => (j : Int) < S.1 231 19 → QKs B n (qps B n j) kk ∧ krq (S.2.1 244 j) (S.2.1 247 j) kk) (fun j => by
    by_cases q : (j : Int) < S.1 231 19
    · obtain ⟨_, kk, a, b, _⟩ := h3 j q; exact ⟨kk, fun _ => ⟨a, b⟩⟩
    · exact ⟨0, fun y => absurd y q⟩)
  have eN : (((S.1 231 19 - 1).toNat : Nat) : Int) = S.1 231 19 - 1 := by omega
  obtain ⟨T, kp, vp, t1, t2, t3⟩ := TQp.mk1 (B := B) (n := n) (K := fun j => f j.toNat) (S.1 231 19 - 1).toNat (fun j q => (hf j (by omega)).1) (fun j q => by
    have a := (hf j (by omega)).2; have b := h1 j (by omega)
    show qgk (f (j : Int).toNat)
    rw [show (j : Int).toNat = j by omega]
    unfold krq at a; unfold qgk; omega) (by
    have a := (hf (S.1 231 19 - 1).toNat (by omega)).2
    rw [eN] at a
    show ¬ qgk (f (((S.1 231 19 - 1).toNat : Nat) : Int).toNat)
    rw [show ((((S.1 231 19 - 1).toNat : Nat) : Int)).toNat = (S.1 231 19 - 1).toNat by omega]
    unfold krq at a; unfold qgk; omega)
  have eT : T = S.1 231 19 := by omega
  subst eT
  refine ⟨kp, vp, t1, fun t a b => ?_, fun t a b c => ?_⟩
  · have q := (hf t.toNat (by omega)).2
    rw [show ((t.toNat : Nat) : Int) = t by omega] at q
    rw [t3 t a b]; exact q
  · have g := h3 t.toNat (by omega)
    unfold tkQ at g
    rw [show ((t.toNat : Nat) : Int) = t by omega] at g
    obtain ⟨g1, kk, g2, g3, g4⟩ := g
    have e : kk = 2 := by
      have q := (hf t.toNat (by omega)).1.one g2
      rw [← q]; rw [t3 t a b] at c; exact c
    subst e
    have k2 : S.2.1 244 t = 2 := by unfold krq at g3; omega
    obtain ⟨g5, g6⟩ := g4 k2
    rw [t1.2.2.2.2.2 t, if_pos c]
    refine ⟨g6, ?_⟩
    rw [g1, g5]
    have z : qps B n t.toNat < n := by
      by_cases y : qps B n t.toNat < n
      · exact y
      · exact absurd (g2.2 (by omega)) (by decide)
    obtain ⟨n1, n2, n3⟩ := (g2.1 z).n
    have p0 := cb_nz (B := B) (n := n) (i := qps B n t.toNat) (by unfold isDg at n2; omega)
    unfold qE qV qdg
    rw [if_neg n1, if_pos n2]
    by_cases y : cb B n (qps B n t.toNat) = 45
    · rw [if_pos y, if_pos y]; left
      refine ⟨by rw [← p0.2.2]; exact y, ?_⟩
      congr 2; omega
    · rw [if_neg y, if_neg y]; right
      exact ⟨by rw [← p0.2.2]; exact y, rfl⟩
theorem pw_sp : ∀ k : Nat, k < 62 → sB 37 k = 32 → k = 0 ∨ k = 8 ∨ k = 11 ∨ k = 22 ∨ k = 32 ∨ k = 38 ∨ k = 45 ∨ k = 49 ∨ k = 55 := by decide
theorem pw_ln : ((strN.getD 37 0 : Nat) : Int) = 63 := by decide
theorem pw_q0 {B : Int → Int} {a n : Int} (hn : 1 ≤ n) (hp : ∀ j, 0 ≤ j → j < n → 48 ≤ B (a + j) ∧ B (a + j) ≤ 122) (h : MTc 37 B a n 0) : WMc B a (a + n) 14 := by
  obtain ⟨h1, h2, h3, h4⟩ := h
  have a1 : ¬ 7 < n := fun z => by have x := h4 7 (by decide) z; have y := hp 7 (by decide) z; rw [show sB 37 (0 + 1 + 7) = 32 by decide] at x; omega
  have e : n = 1 ∨ n = 2 ∨ n = 3 ∨ n = 4 ∨ n = 5 ∨ n = 6 ∨ n = 7 := by omega
  have en : n = 7 := by
    rcases e with rfl | rfl | rfl | rfl | rfl | rfl | rfl
    · exact absurd h3 (by decide)
    · exact absurd h3 (by decide)
    · exact absurd h3 (by decide)
    · exact absurd h3 (by decide)
    · exact absurd h3 (by decide)
    · exact absurd h3 (by decide)
    · rfl
  subst en
  have d : ∀ j : Nat, j < 7 → sB 37 (0 + 1 + (j : Int)) = sB 14 (j : Int) := by decide
  refine ⟨by rw [show strN.getD 14 0 = 7 by decide]; omega, fun j j0 j1 => ?_⟩
  have x := h4 j j0 (by omega); have y := d j.toNat (by omega)
  rw [show ((j.toNat : Nat) : Int) = j by omega] at y
  exact x.symm.trans y
theorem pw_c0 {B : Int → Int} {a n : Int} (h : WMc B a (a + n) 14) : MTc 37 B a n 0 := by
  have en : n = 7 := by have x := h.1; rw [show strN.getD 14 0 = 7 by decide] at x; omega
  subst en
  have d : ∀ j : Nat, j < 7 → sB 37 (0 + 1 + (j : Int)) = sB 14 (j : Int) := by decide
  refine ⟨by decide, by decide, by decide, fun j j0 j1 => ?_⟩
  have x := h.2 j j0 (by omega); have y := d j.toNat (by omega)
  rw [show ((j.toNat : Nat) : Int) = j by omega] at y
  exact y.trans x.symm
theorem pw_q1 {B : Int → Int} {a n : Int} (hn : 1 ≤ n) (hp : ∀ j, 0 ≤ j → j < n → 48 ≤ B (a + j) ∧ B (a + j) ≤ 122) (h : MTc 37 B a n 8) : WMc B a (a + n) 17 := by
  obtain ⟨h1, h2, h3, h4⟩ := h
  have a1 : ¬ 2 < n := fun z => by have x := h4 2 (by decide) z; have y := hp 2 (by decide) z; rw [show sB 37 (8 + 1 + 2) = 32 by decide] at x; omega
  have e : n = 1 ∨ n = 2 := by omega
  have en : n = 2 := by
    rcases e with rfl | rfl
    · exact absurd h3 (by decide)
    · rfl
  subst en
  have d : ∀ j : Nat, j < 2 → sB 37 (8 + 1 + (j : Int)) = sB 17 (j : Int) := by decide
  refine ⟨by rw [show strN.getD 17 0 = 2 by decide]; omega, fun j j0 j1 => ?_⟩
  have x := h4 j j0 (by omega); have y := d j.toNat (by omega)
  rw [show ((j.toNat : Nat) : Int) = j by omega] at y
  exact x.symm.trans y
theorem pw_c1 {B : Int → Int} {a n : Int} (h : WMc B a (a + n) 17) : MTc 37 B a n 8 := by
  have en : n = 2 := by have x := h.1; rw [show strN.getD 17 0 = 2 by decide] at x; omega
  subst en
  have d : ∀ j : Nat, j < 2 → sB 37 (8 + 1 + (j : Int)) = sB 17 (j : Int) := by decide
  refine ⟨by decide, by decide, by decide, fun j j0 j1 => ?_⟩
  have x := h.2 j j0 (by omega); have y := d j.toNat (by omega)
  rw [show ((j.toNat : Nat) : Int) = j by omega] at y
  exact y.trans x.symm
theorem pw_q2 {B : Int → Int} {a n : Int} (hn : 1 ≤ n) (hp : ∀ j, 0 ≤ j → j < n → 48 ≤ B (a + j) ∧ B (a + j) ≤ 122) (h : MTc 37 B a n 11) : WMc B a (a + n) 15 := by
  obtain ⟨h1, h2, h3, h4⟩ := h
  have a1 : ¬ 10 < n := fun z => by have x := h4 10 (by decide) z; have y := hp 10 (by decide) z; rw [show sB 37 (11 + 1 + 10) = 32 by decide] at x; omega
  have e : n = 1 ∨ n = 2 ∨ n = 3 ∨ n = 4 ∨ n = 5 ∨ n = 6 ∨ n = 7 ∨ n = 8 ∨ n = 9 ∨ n = 10 := by omega
  have en : n = 10 := by
    rcases e with rfl | rfl | rfl | rfl | rfl | rfl | rfl | rfl | rfl | rfl
    · exact absurd h3 (by decide)
    · exact absurd h3 (by decide)
    · exact absurd h3 (by decide)
    · exact absurd h3 (by decide)
    · exact absurd h3 (by decide)
    · exact absurd h3 (by decide)
    · exact absurd h3 (by decide)
    · exact absurd h3 (by decide)
    · exact absurd h3 (by decide)
    · rfl
  subst en
  have d : ∀ j : Nat, j < 10 → sB 37 (11 + 1 + (j : Int)) = sB 15 (j : Int) := by decide
  refine ⟨by rw [show strN.getD 15 0 = 10 by decide]; omega, fun j j0 j1 => ?_⟩
  have x := h4 j j0 (by omega); have y := d j.toNat (by omega)
  rw [show ((j.toNat : Nat) : Int) = j by omega] at y
  exact x.symm.trans y
theorem pw_c2 {B : Int → Int} {a n : Int} (h : WMc B a (a + n) 15) : MTc 37 B a n 11 := by
  have en : n = 10 := by have x := h.1; rw [show strN.getD 15 0 = 10 by decide] at x; omega
  subst en
  have d : ∀ j : Nat, j < 10 → sB 37 (11 + 1 + (j : Int)) = sB 15 (j : Int) := by decide
  refine ⟨by decide, by decide, by decide, fun j j0 j1 => ?_⟩
  have x := h.2 j j0 (by omega); have y := d j.toNat (by omega)
  rw [show ((j.toNat : Nat) : Int) = j by omega] at y
  exact y.trans x.symm
theorem pw_q3 {B : Int → Int} {a n : Int} (hn : 1 ≤ n) (hp : ∀ j, 0 ≤ j → j < n → 48 ≤ B (a + j) ∧ B (a + j) ≤ 122) (h : MTc 37 B a n 22) : WMc B a (a + n) 16 := by
  obtain ⟨h1, h2, h3, h4⟩ := h
  have a1 : ¬ 9 < n := fun z => by have x := h4 9 (by decide) z; have y := hp 9 (by decide) z; rw [show sB 37 (22 + 1 + 9) = 32 by decide] at x; omega
  have e : n = 1 ∨ n = 2 ∨ n = 3 ∨ n = 4 ∨ n = 5 ∨ n = 6 ∨ n = 7 ∨ n = 8 ∨ n = 9 := by omega
  have en : n = 9 := by
    rcases e with rfl | rfl | rfl | rfl | rfl | rfl | rfl | rfl | rfl
    · exact absurd h3 (by decide)
    · exact absurd h3 (by decide)
    · exact absurd h3 (by decide)
    · exact absurd h3 (by decide)
    · exact absurd h3 (by decide)
    · exact absurd h3 (by decide)
    · exact absurd h3 (by decide)
    · exact absurd h3 (by decide)
    · rfl
  subst en
  have d : ∀ j : Nat, j < 9 → sB 37 (22 + 1 + (j : Int)) = sB 16 (j : Int) := by decide
  refine ⟨by rw [show strN.getD 16 0 = 9 by decide]; omega, fun j j0 j1 => ?_⟩
  have x := h4 j j0 (by omega); have y := d j.toNat (by omega)
  rw [show ((j.toNat : Nat) : Int) = j by omega] at y
  exact x.symm.trans y
theorem pw_c3 {B : Int → Int} {a n : Int} (h : WMc B a (a + n) 16) : MTc 37 B a n 22 := by
  have en : n = 9 := by have x := h.1; rw [show strN.getD 16 0 = 9 by decide] at x; omega
  subst en
  have d : ∀ j : Nat, j < 9 → sB 37 (22 + 1 + (j : Int)) = sB 16 (j : Int) := by decide
  refine ⟨by decide, by decide, by decide, fun j j0 j1 => ?_⟩
  have x := h.2 j j0 (by omega); have y := d j.toNat (by omega)
  rw [show ((j.toNat : Nat) : Int) = j by omega] at y
  exact y.trans x.symm
theorem pw_q4 {B : Int → Int} {a n : Int} (hn : 1 ≤ n) (hp : ∀ j, 0 ≤ j → j < n → 48 ≤ B (a + j) ∧ B (a + j) ≤ 122) (h : MTc 37 B a n 32) : WMc B a (a + n) 18 := by
  obtain ⟨h1, h2, h3, h4⟩ := h
  have a1 : ¬ 5 < n := fun z => by have x := h4 5 (by decide) z; have y := hp 5 (by decide) z; rw [show sB 37 (32 + 1 + 5) = 32 by decide] at x; omega
  have e : n = 1 ∨ n = 2 ∨ n = 3 ∨ n = 4 ∨ n = 5 := by omega
  have en : n = 5 := by
    rcases e with rfl | rfl | rfl | rfl | rfl
    · exact absurd h3 (by decide)
    · exact absurd h3 (by decide)
    · exact absurd h3 (by decide)
    · exact absurd h3 (by decide)
    · rfl
  subst en
  have d : ∀ j : Nat, j < 5 → sB 37 (32 + 1 + (j : Int)) = sB 18 (j : Int) := by decide
  refine ⟨by rw [show strN.getD 18 0 = 5 by decide]; omega, fun j j0 j1 => ?_⟩
  have x := h4 j j0 (by omega); have y := d j.toNat (by omega)
  rw [show ((j.toNat : Nat) : Int) = j by omega] at y
  exact x.symm.trans y
theorem pw_c4 {B : Int → Int} {a n : Int} (h : WMc B a (a + n) 18) : MTc 37 B a n 32 := by
  have en : n = 5 := by have x := h.1; rw [show strN.getD 18 0 = 5 by decide] at x; omega
  subst en
  have d : ∀ j : Nat, j < 5 → sB 37 (32 + 1 + (j : Int)) = sB 18 (j : Int) := by decide
  refine ⟨by decide, by decide, by decide, fun j j0 j1 => ?_⟩
  have x := h.2 j j0 (by omega); have y := d j.toNat (by omega)
  rw [show ((j.toNat : Nat) : Int) = j by omega] at y
  exact y.trans x.symm
theorem pw_q5 {B : Int → Int} {a n : Int} (hn : 1 ≤ n) (hp : ∀ j, 0 ≤ j → j < n → 48 ≤ B (a + j) ∧ B (a + j) ≤ 122) (h : MTc 37 B a n 38) : WMc B a (a + n) 19 := by
  obtain ⟨h1, h2, h3, h4⟩ := h
  have a1 : ¬ 6 < n := fun z => by have x := h4 6 (by decide) z; have y := hp 6 (by decide) z; rw [show sB 37 (38 + 1 + 6) = 32 by decide] at x; omega
  have e : n = 1 ∨ n = 2 ∨ n = 3 ∨ n = 4 ∨ n = 5 ∨ n = 6 := by omega
  have en : n = 6 := by
    rcases e with rfl | rfl | rfl | rfl | rfl | rfl
    · exact absurd h3 (by decide)
    · exact absurd h3 (by decide)
    · exact absurd h3 (by decide)
    · exact absurd h3 (by decide)
    · exact absurd h3 (by decide)
    · rfl
  subst en
  have d : ∀ j : Nat, j < 6 → sB 37 (38 + 1 + (j : Int)) = sB 19 (j : Int) := by decide
  refine ⟨by rw [show strN.getD 19 0 = 6 by decide]; omega, fun j j0 j1 => ?_⟩
  have x := h4 j j0 (by omega); have y := d j.toNat (by omega)
  rw [show ((j.toNat : Nat) : Int) = j by omega] at y
  exact x.symm.trans y
theorem pw_c5 {B : Int → Int} {a n : Int} (h : WMc B a (a + n) 19) : MTc 37 B a n 38 := by
  have en : n = 6 := by have x := h.1; rw [show strN.getD 19 0 = 6 by decide] at x; omega
  subst en
  have d : ∀ j : Nat, j < 6 → sB 37 (38 + 1 + (j : Int)) = sB 19 (j : Int) := by decide
  refine ⟨by decide, by decide, by decide, fun j j0 j1 => ?_⟩
  have x := h.2 j j0 (by omega); have y := d j.toNat (by omega)
  rw [show ((j.toNat : Nat) : Int) = j by omega] at y
  exact y.trans x.symm
theorem pw_q6 {B : Int → Int} {a n : Int} (hn : 1 ≤ n) (hp : ∀ j, 0 ≤ j → j < n → 48 ≤ B (a + j) ∧ B (a + j) ≤ 122) (h : MTc 37 B a n 45) : WMc B a (a + n) 20 := by
  obtain ⟨h1, h2, h3, h4⟩ := h
  have a1 : ¬ 3 < n := fun z => by have x := h4 3 (by decide) z; have y := hp 3 (by decide) z; rw [show sB 37 (45 + 1 + 3) = 32 by decide] at x; omega
  have e : n = 1 ∨ n = 2 ∨ n = 3 := by omega
  have en : n = 3 := by
    rcases e with rfl | rfl | rfl
    · exact absurd h3 (by decide)
    · exact absurd h3 (by decide)
    · rfl
  subst en
  have d : ∀ j : Nat, j < 3 → sB 37 (45 + 1 + (j : Int)) = sB 20 (j : Int) := by decide
  refine ⟨by rw [show strN.getD 20 0 = 3 by decide]; omega, fun j j0 j1 => ?_⟩
  have x := h4 j j0 (by omega); have y := d j.toNat (by omega)
  rw [show ((j.toNat : Nat) : Int) = j by omega] at y
  exact x.symm.trans y
theorem pw_c6 {B : Int → Int} {a n : Int} (h : WMc B a (a + n) 20) : MTc 37 B a n 45 := by
  have en : n = 3 := by have x := h.1; rw [show strN.getD 20 0 = 3 by decide] at x; omega
  subst en
  have d : ∀ j : Nat, j < 3 → sB 37 (45 + 1 + (j : Int)) = sB 20 (j : Int) := by decide
  refine ⟨by decide, by decide, by decide, fun j j0 j1 => ?_⟩
  have x := h.2 j j0 (by omega); have y := d j.toNat (by omega)
  rw [show ((j.toNat : Nat) : Int) = j by omega] at y
  exact y.trans x.symm
theorem pw_q7 {B : Int → Int} {a n : Int} (hn : 1 ≤ n) (hp : ∀ j, 0 ≤ j → j < n → 48 ≤ B (a + j) ∧ B (a + j) ≤ 122) (h : MTc 37 B a n 49) : WMc B a (a + n) 21 := by
  obtain ⟨h1, h2, h3, h4⟩ := h
  have a1 : ¬ 5 < n := fun z => by have x := h4 5 (by decide) z; have y := hp 5 (by decide) z; rw [show sB 37 (49 + 1 + 5) = 32 by decide] at x; omega
  have e : n = 1 ∨ n = 2 ∨ n = 3 ∨ n = 4 ∨ n = 5 := by omega
  have en : n = 5 := by
    rcases e with rfl | rfl | rfl | rfl | rfl
    · exact absurd h3 (by decide)
    · exact absurd h3 (by decide)
    · exact absurd h3 (by decide)
    · exact absurd h3 (by decide)
    · rfl
  subst en
  have d : ∀ j : Nat, j < 5 → sB 37 (49 + 1 + (j : Int)) = sB 21 (j : Int) := by decide
  refine ⟨by rw [show strN.getD 21 0 = 5 by decide]; omega, fun j j0 j1 => ?_⟩
  have x := h4 j j0 (by omega); have y := d j.toNat (by omega)
  rw [show ((j.toNat : Nat) : Int) = j by omega] at y
  exact x.symm.trans y
theorem pw_c7 {B : Int → Int} {a n : Int} (h : WMc B a (a + n) 21) : MTc 37 B a n 49 := by
  have en : n = 5 := by have x := h.1; rw [show strN.getD 21 0 = 5 by decide] at x; omega
  subst en
  have d : ∀ j : Nat, j < 5 → sB 37 (49 + 1 + (j : Int)) = sB 21 (j : Int) := by decide
  refine ⟨by decide, by decide, by decide, fun j j0 j1 => ?_⟩
  have x := h.2 j j0 (by omega); have y := d j.toNat (by omega)
  rw [show ((j.toNat : Nat) : Int) = j by omega] at y
  exact y.trans x.symm
theorem pw_q8 {B : Int → Int} {a n : Int} (hn : 1 ≤ n) (hp : ∀ j, 0 ≤ j → j < n → 48 ≤ B (a + j) ∧ B (a + j) ≤ 122) (h : MTc 37 B a n 55) : WMc B a (a + n) 22 := by
  obtain ⟨h1, h2, h3, h4⟩ := h
  have a1 : ¬ 6 < n := fun z => by have x := h4 6 (by decide) z; have y := hp 6 (by decide) z; rw [show sB 37 (55 + 1 + 6) = 32 by decide] at x; omega
  have e : n = 1 ∨ n = 2 ∨ n = 3 ∨ n = 4 ∨ n = 5 ∨ n = 6 := by omega
  have en : n = 6 := by
    rcases e with rfl | rfl | rfl | rfl | rfl | rfl
    · exact absurd h3 (by decide)
    · exact absurd h3 (by decide)
    · exact absurd h3 (by decide)
    · exact absurd h3 (by decide)
    · exact absurd h3 (by decide)
    · rfl
  subst en
  have d : ∀ j : Nat, j < 6 → sB 37 (55 + 1 + (j : Int)) = sB 22 (j : Int) := by decide
  refine ⟨by rw [show strN.getD 22 0 = 6 by decide]; omega, fun j j0 j1 => ?_⟩
  have x := h4 j j0 (by omega); have y := d j.toNat (by omega)
  rw [show ((j.toNat : Nat) : Int) = j by omega] at y
  exact x.symm.trans y
theorem pw_c8 {B : Int → Int} {a n : Int} (h : WMc B a (a + n) 22) : MTc 37 B a n 55 := by
  have en : n = 6 := by have x := h.1; rw [show strN.getD 22 0 = 6 by decide] at x; omega
  subst en
  have d : ∀ j : Nat, j < 6 → sB 37 (55 + 1 + (j : Int)) = sB 22 (j : Int) := by decide
  refine ⟨by decide, by decide, by decide, fun j j0 j1 => ?_⟩
  have x := h.2 j j0 (by omega); have y := d j.toNat (by omega)
  rw [show ((j.toNat : Nat) : Int) = j by omega] at y
  exact y.trans x.symm
theorem AMp.pw {B : Int → Int} {a n r : Int} (hn : 1 ≤ n) (hp : ∀ j, 0 ≤ j → j < n → 48 ≤ B (a + j) ∧ B (a + j) ≤ 122) (h : AMp 37 B a n r) : (r = -1 ∧ WK B a (a + n) 6) ∨ (0 ≤ r ∧ r ≤ 8 ∧ WK B a (a + n) (wcd r)) := by
  rcases h with ⟨e, h⟩ | ⟨k, k0, k1, m, e⟩
  · left; refine ⟨e, .inr ⟨rfl, fun i i0 i1 z => ?_⟩⟩
    rw [pw_ln] at h
    have c : i = 7 ∨ i = 8 ∨ i = 9 ∨ i = 10 ∨ i = 11 ∨ i = 12 ∨ i = 13 ∨ i = 14 ∨ i = 15 := by omega
    rcases c with rfl | rfl | rfl | rfl | rfl | rfl | rfl | rfl | rfl
    · exact h 0 (by decide) (by decide) (pw_c0 z)
    · exact h 11 (by decide) (by decide) (pw_c2 z)
    · exact h 22 (by decide) (by decide) (pw_c3 z)
    · exact h 8 (by decide) (by decide) (pw_c1 z)
    · exact h 32 (by decide) (by decide) (pw_c4 z)
    · exact h 38 (by decide) (by decide) (pw_c5 z)
    · exact h 45 (by decide) (by decide) (pw_c6 z)
    · exact h 49 (by decide) (by decide) (pw_c7 z)
    · exact h 55 (by decide) (by decide) (pw_c8 z)
  · right
    rw [pw_ln] at k1
    have s := pw_sp k.toNat (by omega) (by rw [show ((k.toNat : Nat) : Int) = k by omega]; exact m.1)
    rcases s with s | s | s | s | s | s | s | s | s
    · have ek : k = 0 := by omega
      subst ek; have z := pw_q0 hn hp m; rw [e, show spN 37 (0 + 1 : Int).toNat = 0 by decide]; exact ⟨by decide, by decide, .inl ⟨by decide, by decide, z⟩⟩
    · have ek : k = 8 := by omega
      subst ek; have z := pw_q1 hn hp m; rw [e, show spN 37 (8 + 1 : Int).toNat = 1 by decide]; exact ⟨by decide, by decide, .inl ⟨by decide, by decide, z⟩⟩
    · have ek : k = 11 := by omega
      subst ek; have z := pw_q2 hn hp m; rw [e, show spN 37 (11 + 1 : Int).toNat = 2 by decide]; exact ⟨by decide, by decide, .inl ⟨by decide, by decide, z⟩⟩
    · have ek : k = 22 := by omega
      subst ek; have z := pw_q3 hn hp m; rw [e, show spN 37 (22 + 1 : Int).toNat = 3 by decide]; exact ⟨by decide, by decide, .inl ⟨by decide, by decide, z⟩⟩
    · have ek : k = 32 := by omega
      subst ek; have z := pw_q4 hn hp m; rw [e, show spN 37 (32 + 1 : Int).toNat = 4 by decide]; exact ⟨by decide, by decide, .inl ⟨by decide, by decide, z⟩⟩
    · have ek : k = 38 := by omega
      subst ek; have z := pw_q5 hn hp m; rw [e, show spN 37 (38 + 1 : Int).toNat = 5 by decide]; exact ⟨by decide, by decide, .inl ⟨by decide, by decide, z⟩⟩
    · have ek : k = 45 := by omega
      subst ek; have z := pw_q6 hn hp m; rw [e, show spN 37 (45 + 1 : Int).toNat = 6 by decide]; exact ⟨by decide, by decide, .inl ⟨by decide, by decide, z⟩⟩
    · have ek : k = 49 := by omega
      subst ek; have z := pw_q7 hn hp m; rw [e, show spN 37 (49 + 1 : Int).toNat = 7 by decide]; exact ⟨by decide, by decide, .inl ⟨by decide, by decide, z⟩⟩
    · have ek : k = 55 := by omega
      subst ek; have z := pw_q8 hn hp m; rw [e, show spN 37 (55 + 1 : Int).toNat = 8 by decide]; exact ⟨by decide, by decide, .inl ⟨by decide, by decide, z⟩⟩

set_option maxRecDepth 100000 in
set_option maxHeartbeats 4000000 in
theorem y_X12_tokenizeProof (l : Launch) (G : sG) (S : sS)  (hI : dX G S) (h14 : 0 ≤ S.1 231 14 ∧ S.1 231 14 ≤ 30000) : Met l yX12_tokenizeProof (.code yX12_tokenizeProof cX12_tokenizeProof 7 none :: tb) (rmk 6 0 0) (sPc G 294 S [.ref (G.2.2.1 + 231)]) (sQv G 294 (fun u => dX G u ∧ Fr S u (pl [231, 244, 245, 246, 247]) ∧ FF S u (fl [19]) ∧ (Hd (TPS (S.2.1 243) (S.1 231 14) u) ∧ (1 ≤ u.1 231 19 ∧ u.1 231 19 ≤ 30001)))) 0 0 (sF G) := by
  refine sEnter (by decide) (Nat.le_of_ble_eq_true rfl) ?_
  intro p e s m args below meth c Cx hr hlk hnm hW ls hl
  have Cx : sC G p m c cX12_tokenizeProof 7 s args RX12 := Cx
  obtain ⟨hx, hb, hml, hown, hts⟩ := id Cx.1
  have hL : sL G [] := sL_nil
  have hl : lv_has ls 7 [(0, .ref (G.2.2.1 + 231))] := hl
  have hW0 := hW
  refine lv_aload_n hx hb dX12_tokenizeProof_0 rfl (lv_at hl 0 rfl) ?_
  refine lv_iconst (v := iv 0) hx hb dX12_tokenizeProof_1 (by decide) ?_
  refine p_X12_289 Cx hW hL (k := 231) (by decide) rfl dX12_tokenizeProof_2 (fun H locs hW hL => ?_)
  have F_1 : Fr S (uF S 231 19 0) (pl [231, 244, 245, 246, 247]) := (Fr.rf : Fr S S (pl [231, 244, 245, 246, 247])).F rfl
  have g_2 : FF S (uF S 231 19 0) (fl [19]) := FF.F FF.rf rfl
  have i_3 : dX G (uF S 231 19 0) := hI.F (i := 19) (show (-2147483648) ≤ 0 ∧ 0 ≤ 2147483647 from ⟨by omega, by omega⟩)
  refine lv_iconst (v := iv 0) hx hb dX12_tokenizeProof_5 (by decide) ?_
  refine lv_istore_n (lv' := [(1, .int (iv 0)), (0, .ref (G.2.2.1 + 231))]) hx hb dX12_tokenizeProof_6 rfl hl (by decide) rfl (fun ls hl => ?_)
  have loop_7 : ∀ (fuel : Nat) (S7 : sS) (ps : Int) (H : Heap) (locs : List Loc) (ls : Array Slot), (S.1 231 14 - ps).toNat < fuel → (dX G S7) → (Fr S S7 (pl [231, 244, 245, 246, 247])) → (Fr ((uF S 231 19 0)) S7 (pl [231, 244, 245, 246, 247])) → (FF S S7 (fl [19])) → (FF ((uF S 231 19 0)) S7 (fl [19])) → (0 ≤ ps ∧ ps ≤ S.1 231 14) → (0 ≤ S7.1 231 19 ∧ S7.1 231 19 ≤ ps) → (Hd (TPI (S.2.1 243) (S.1 231 14) S7 ps)) → (Hd (0 < S7.1 231 19 → S7.2.1 244 (S7.1 231 19 - 1) ≠ 6)) → sW G 294 S7 H → sL G locs → lv_has ls 7 [(1, .int (iv ps)), (0, .ref (G.2.2.1 + 231))] → W p l e (rmk 6 0 0) s m args below meth c H locs 0 0 (MQ below (sQv G 294 (fun u => dX G u ∧ Fr S u (pl [231, 244, 245, 246, 247]) ∧ FF S u (fl [19]) ∧ (Hd (TPS (S.2.1 243) (S.1 231 14) u) ∧ (1 ≤ u.1 231 19 ∧ u.1 231 19 ≤ 30001)))) args s 0 0 (sF G)) (F0 m 7 ls []) := by
    intro fuel
    induction fuel with
    | zero => intro S7 ps H locs ls hmeas hI7 hFm7 hL7_ hGm7 gL7_ hp hT hti htl hW hL hl; exact absurd hmeas (Nat.not_lt_zero _)
    | succ fuel ih_7 =>
      intro S7 ps H locs ls hmeas hI7 hFm7 hL7_ hGm7 gL7_ hp hT hti htl hW hL hl
      have z14 : S7.1 231 14 = S.1 231 14 := hGm7 14 rfl
      have eB : S7.2.1 243 = (S.2.1 243) := (funext fun j => (hFm7 243 rfl).2.1 j)
      refine lv_iload_n hx hb dX12_tokenizeProof_7 rfl (lv_at hl 0 rfl) ?_
      refine lv_aload_n hx hb dX12_tokenizeProof_8 rfl (lv_at hl 1 rfl) ?_
      have q_4 : (-2147483648) ≤ S.1 231 14 ∧ S.1 231 14 ≤ 2147483647 := hI.fi 14
      refine g_X12_276 Cx hW (k := 231) (by decide) rfl (v := S.1 231 14) ((gL7_ 14 rfl).trans (uF_ne (fun h => absurd h.2 (by decide)))) dX12_tokenizeProof_9 ?_
      refine r_icmp_ge (tgt := 324) hx hb ⟨(by omega), (by omega)⟩ ⟨(by omega), (by omega)⟩ dX12_tokenizeProof_12 (by decide) (fun c_5 => ?_) (fun c_5 => ?_)
      · refine lv_aload_n hx hb dX12_tokenizeProof_324 rfl (lv_at hl 1 rfl) ?_
        have q_6 : (-2147483648) ≤ S7.1 231 19 ∧ S7.1 231 19 ≤ 2147483647 := hI7.fi 19
        refine g_X12_289 Cx hW (k := 231) (by decide) rfl (v := S7.1 231 19) rfl dX12_tokenizeProof_325 ?_
        refine r_if_eq (tgt := 347) hx hb ⟨(by omega), (by omega)⟩ dX12_tokenizeProof_328 (by decide) (fun c_7 => ?_) (fun c_7 => ?_)
        · refine lv_aload_n hx hb dX12_tokenizeProof_347 rfl (lv_at hl 1 rfl) ?_
          refine lv_iconst (v := iv 5) hx hb dX12_tokenizeProof_348 (by decide) ?_
          refine lv_aload_n hx hb dX12_tokenizeProof_349 rfl (lv_at hl 1 rfl) ?_
          refine g_X12_276 Cx hW (k := 231) (by decide) rfl (v := S.1 231 14) ((gL7_ 14 rfl).trans (uF_ne (fun h => absurd h.2 (by decide)))) dX12_tokenizeProof_350 ?_
          refine lv_iconst (v := iv 0) hx hb dX12_tokenizeProof_353 (by decide) ?_
          refine lv_iconst (v := iv 0) hx hb dX12_tokenizeProof_354 (by decide) ?_
          refine sBv (sV (As := [.int (iv 5), .int (iv (S.1 231 14)), .int (iv 0), .int (iv 0)]) (rest := []) (k := 231) Cx (s_X12_token l G S7 (k := 5) (f := S.1 231 14) (wd := 0) (v := 0) hI7 (by omega) (by omega) (by omega) (by omega) (by omega)) (c_X12_308 Cx rfl rfl (rmk_ok (by omega) (by decide))) hW (by decide) rfl rfl rfl hl.1 rfl (Nat.le_of_ble_eq_true rfl) dX12_tokenizeProof_355 ⟨Nat.le_of_ble_eq_true rfl, Nat.le_of_ble_eq_true rfl⟩) hL (fun u_8 H locs k_9 hW hL => ?_)
          obtain ⟨iu_8, fu_8, gu_8, xu_8⟩ := k_9
          have F_10 := hFm7.trans fu_8
          have F_11 := hL7_.trans fu_8
          have g_12 : FF S u_8 (fl [19]) := FF.trans hGm7 (FF.to gu_8 (fl_sub (by decide)))
          have g_13 : FF ((uF S 231 19 0)) u_8 (fl [19]) := FF.trans gL7_ (FF.to gu_8 (fl_sub (by decide)))
          have hTR : Hd (TPS (S.2.1 243) (S.1 231 14) u_8) := hti.fin (by omega) (by omega) xu_8.1 (by have q := xu_8.2; have z : S7.1 231 14 = S.1 231 14 := hGm7 14 rfl; first | exact q | (rw [z] at q; exact q))
          refine lv_aload_n hx hb dX12_tokenizeProof_358 rfl (lv_at hl 1 rfl) ?_
          have q_14 : (-2147483648) ≤ u_8.1 231 19 ∧ u_8.1 231 19 ≤ 2147483647 := iu_8.fi 19
          refine g_X12_289 Cx hW (k := 231) (by decide) rfl (v := u_8.1 231 19) rfl dX12_tokenizeProof_359 ?_
          refine lv_istore_n (lv' := [(2, .int (iv (u_8.1 231 19))), (1, .int (iv ps)), (0, .ref (G.2.2.1 + 231))]) hx hb dX12_tokenizeProof_362 rfl hl (by decide) rfl (fun ls hl => ?_)
          have loop_363 : ∀ (fuel : Nat) (S363 : sS) (i : Int) (H : Heap) (locs : List Loc) (ls : Array Slot), (40000 - i).toNat < fuel → (dX G S363) → (Fr S S363 (pl [231, 244, 245, 246, 247])) → (Fr u_8 S363 (pl [244])) → (FF S S363 (fl [19])) → (FF u_8 S363 (fl [])) → (u_8.1 231 19 ≤ i ∧ i ≤ u_8.1 231 19 + 3) → (∀ x, x < u_8.1 231 19 → S363.2.1 244 x = u_8.2.1 244 x) → sW G 294 S363 H → sL G locs → lv_has ls 7 [(2, .int (iv i)), (1, .int (iv ps)), (0, .ref (G.2.2.1 + 231))] → W p l e (rmk 6 0 0) s m args below meth c H locs 0 0 (MQ below (sQv G 294 (fun u => dX G u ∧ Fr S u (pl [231, 244, 245, 246, 247]) ∧ FF S u (fl [19]) ∧ (Hd (TPS (S.2.1 243) (S.1 231 14) u) ∧ (1 ≤ u.1 231 19 ∧ u.1 231 19 ≤ 30001)))) args s 0 0 (sF G)) (F0 m 363 ls []) := by
            intro fuel
            induction fuel with
            | zero => intro S363 i H locs ls hmeas hI363 hFm363 hL363_ hGm363 gL363_ hi h363 hW hL hl; exact absurd hmeas (Nat.not_lt_zero _)
            | succ fuel ih_363 =>
              intro S363 i H locs ls hmeas hI363 hFm363 hL363_ hGm363 gL363_ hi h363 hW hL hl
              refine lv_iload_n hx hb dX12_tokenizeProof_363 rfl (lv_at hl 0 rfl) ?_
              refine lv_aload_n hx hb dX12_tokenizeProof_364 rfl (lv_at hl 2 rfl) ?_
              refine g_X12_289 Cx hW (k := 231) (by decide) rfl (v := u_8.1 231 19) (gL363_ 19 rfl) dX12_tokenizeProof_365 ?_
              refine lv_iconst (v := iv 3) hx hb dX12_tokenizeProof_368 (by decide) ?_
              refine r_iadd hx hb dX12_tokenizeProof_369 ?_
              refine r_icmp_ge (tgt := 386) hx hb ⟨(by omega), (by omega)⟩ ⟨(by omega), (by omega)⟩ dX12_tokenizeProof_370 (by decide) (fun c_15 => ?_) (fun c_15 => ?_)
              · have lk_16 : S363.1 231 19 = u_8.1 231 19 := gL363_ 19 rfl
                exact sVret Cx hr hlk hW hL ⟨hI363, hFm363, hGm363, ⟨(TPS.end hTR (gL363_ 19 rfl) (fun x a => h363 x (by omega)) (funext fun j => (hL363_ 245 rfl).2.1 j) (funext fun j => (hL363_ 246 rfl).2.1 j) (funext fun j => (hL363_ 247 rfl).2.1 j)), (by have y := (show S363.1 231 19 = u_8.1 231 19 from gL363_ 19 rfl); omega)⟩⟩ dX12_tokenizeProof_386
              · refine lv_aload_n hx hb dX12_tokenizeProof_373 rfl (lv_at hl 2 rfl) ?_
                refine g_X12_47 Cx hW (k := 231) (by decide) rfl (v := .ref (G.2.2.1 + 244)) (rd_15 hI363) dX12_tokenizeProof_374 ?_
                refine lv_iload_n hx hb dX12_tokenizeProof_377 rfl (lv_at hl 0 rfl) ?_
                refine lv_iconst (v := iv 5) hx hb dX12_tokenizeProof_378 (by decide) ?_
                refine rIast Cx hW hL (k := 244) (by decide) rfl (by decide) (by omega) (by omega) dX12_tokenizeProof_379 (fun H locs hW hL => ?_)
                have F_17 : Fr S (uA S363 244 i 5) (pl [231, 244, 245, 246, 247]) := hFm363.A rfl
                have F_18 : Fr u_8 (uA S363 244 i 5) (pl [244]) := hL363_.A rfl
                have i_19 : dX G (uA S363 244 i 5) := hI363.A (k := 244) (show (-2147483648) ≤ 5 ∧ 5 ≤ 2147483647 from ⟨by omega, by omega⟩)
                refine lv_iinc (v := iv (i + 1)) (lv' := [(2, .int (iv (i + 1))), (1, .int (iv ps)), (0, .ref (G.2.2.1 + 231))]) hx hb dX12_tokenizeProof_380 hl (k := 0) rfl ((Int32.ofInt_add _ _).symm) (by decide) rfl (fun ls hl => ?_)
                refine lv_goto (tgt := 363) hx hb dX12_tokenizeProof_383 (by decide) ?_
                exact ih_363 (uA S363 244 i 5) (i + 1) _ _ _ (by omega) i_19 F_17 F_18 hGm363 gL363_ (by omega) (fun x a => by rw [uA_ne (fun h => by have := h.2; omega)]; exact h363 x a) hW hL (lv_sub hl [0, 1, 2] rfl)
          exact loop_363 (_ + 1) u_8 (u_8.1 231 19) _ _ _ (Nat.lt_succ_self _) iu_8 F_10 Fr.rf g_12 FF.rf (by omega) (fun x _ => rfl) hW hL (lv_sub hl [0, 1, 2] rfl)
        · have hte9 := htl (by omega)
          refine lv_aload_n hx hb dX12_tokenizeProof_331 rfl (lv_at hl 1 rfl) ?_
          refine g_X12_47 Cx hW (k := 231) (by decide) rfl (v := .ref (G.2.2.1 + 244)) (rd_15 hI7) dX12_tokenizeProof_332 ?_
          refine lv_aload_n hx hb dX12_tokenizeProof_335 rfl (lv_at hl 1 rfl) ?_
          refine g_X12_289 Cx hW (k := 231) (by decide) rfl (v := S7.1 231 19) rfl dX12_tokenizeProof_336 ?_
          refine lv_iconst (v := iv 1) hx hb dX12_tokenizeProof_339 (by decide) ?_
          refine r_isub hx hb dX12_tokenizeProof_340 ?_
          refine rIald Cx hW (k := 244) (by decide) rfl (by decide) (by omega) (by omega) dX12_tokenizeProof_341 ?_
          have q_20 : (-2147483648) ≤ S7.2.1 244 ((S7.1 231 19) - 1) ∧ S7.2.1 244 ((S7.1 231 19) - 1) ≤ 2147483647 := hI7.ai 244 ((S7.1 231 19) - 1)
          refine r_i (b := S7.2.1 244 ((S7.1 231 19) - 1)) rfl ?_
          refine lv_bipush (v := iv 6) hx hb dX12_tokenizeProof_342 (by decide) ?_
          refine r_icmp_eq (tgt := 358) hx hb ⟨(by omega), (by omega)⟩ ⟨(by omega), (by omega)⟩ dX12_tokenizeProof_344 (by decide) (fun c => absurd c (by omega)) (fun _ => ?_)
          refine lv_aload_n hx hb dX12_tokenizeProof_347 rfl (lv_at hl 1 rfl) ?_
          refine lv_iconst (v := iv 5) hx hb dX12_tokenizeProof_348 (by decide) ?_
          refine lv_aload_n hx hb dX12_tokenizeProof_349 rfl (lv_at hl 1 rfl) ?_
          refine g_X12_276 Cx hW (k := 231) (by decide) rfl (v := S.1 231 14) ((gL7_ 14 rfl).trans (uF_ne (fun h => absurd h.2 (by decide)))) dX12_tokenizeProof_350 ?_
          refine lv_iconst (v := iv 0) hx hb dX12_tokenizeProof_353 (by decide) ?_
          refine lv_iconst (v := iv 0) hx hb dX12_tokenizeProof_354 (by decide) ?_
          refine sBv (sV (As := [.int (iv 5), .int (iv (S.1 231 14)), .int (iv 0), .int (iv 0)]) (rest := []) (k := 231) Cx (s_X12_token l G S7 (k := 5) (f := S.1 231 14) (wd := 0) (v := 0) hI7 (by omega) (by omega) (by omega) (by omega) (by omega)) (c_X12_308 Cx rfl rfl (rmk_ok (by omega) (by decide))) hW (by decide) rfl rfl rfl hl.1 rfl (Nat.le_of_ble_eq_true rfl) dX12_tokenizeProof_355 ⟨Nat.le_of_ble_eq_true rfl, Nat.le_of_ble_eq_true rfl⟩) hL (fun u_21 H locs k_22 hW hL => ?_)
          obtain ⟨iu_21, fu_21, gu_21, xu_21⟩ := k_22
          have F_23 := hFm7.trans fu_21
          have F_24 := hL7_.trans fu_21
          have g_25 : FF S u_21 (fl [19]) := FF.trans hGm7 (FF.to gu_21 (fl_sub (by decide)))
          have g_26 : FF ((uF S 231 19 0)) u_21 (fl [19]) := FF.trans gL7_ (FF.to gu_21 (fl_sub (by decide)))
          have hTR : Hd (TPS (S.2.1 243) (S.1 231 14) u_21) := hti.fin (by omega) (by omega) xu_21.1 (by have q := xu_21.2; have z : S7.1 231 14 = S.1 231 14 := hGm7 14 rfl; first | exact q | (rw [z] at q; exact q))
          refine lv_aload_n hx hb dX12_tokenizeProof_358 rfl (lv_at hl 1 rfl) ?_
          have q_27 : (-2147483648) ≤ u_21.1 231 19 ∧ u_21.1 231 19 ≤ 2147483647 := iu_21.fi 19
          refine g_X12_289 Cx hW (k := 231) (by decide) rfl (v := u_21.1 231 19) rfl dX12_tokenizeProof_359 ?_
          refine lv_istore_n (lv' := [(2, .int (iv (u_21.1 231 19))), (1, .int (iv ps)), (0, .ref (G.2.2.1 + 231))]) hx hb dX12_tokenizeProof_362 rfl hl (by decide) rfl (fun ls hl => ?_)
          have loop_363 : ∀ (fuel : Nat) (S363 : sS) (i : Int) (H : Heap) (locs : List Loc) (ls : Array Slot), (40000 - i).toNat < fuel → (dX G S363) → (Fr S S363 (pl [231, 244, 245, 246, 247])) → (Fr u_21 S363 (pl [244])) → (FF S S363 (fl [19])) → (FF u_21 S363 (fl [])) → (u_21.1 231 19 ≤ i ∧ i ≤ u_21.1 231 19 + 3) → (∀ x, x < u_21.1 231 19 → S363.2.1 244 x = u_21.2.1 244 x) → sW G 294 S363 H → sL G locs → lv_has ls 7 [(2, .int (iv i)), (1, .int (iv ps)), (0, .ref (G.2.2.1 + 231))] → W p l e (rmk 6 0 0) s m args below meth c H locs 0 0 (MQ below (sQv G 294 (fun u => dX G u ∧ Fr S u (pl [231, 244, 245, 246, 247]) ∧ FF S u (fl [19]) ∧ (Hd (TPS (S.2.1 243) (S.1 231 14) u) ∧ (1 ≤ u.1 231 19 ∧ u.1 231 19 ≤ 30001)))) args s 0 0 (sF G)) (F0 m 363 ls []) := by
            intro fuel
            induction fuel with
            | zero => intro S363 i H locs ls hmeas hI363 hFm363 hL363_ hGm363 gL363_ hi h363 hW hL hl; exact absurd hmeas (Nat.not_lt_zero _)
            | succ fuel ih_363 =>
              intro S363 i H locs ls hmeas hI363 hFm363 hL363_ hGm363 gL363_ hi h363 hW hL hl
              refine lv_iload_n hx hb dX12_tokenizeProof_363 rfl (lv_at hl 0 rfl) ?_
              refine lv_aload_n hx hb dX12_tokenizeProof_364 rfl (lv_at hl 2 rfl) ?_
              refine g_X12_289 Cx hW (k := 231) (by decide) rfl (v := u_21.1 231 19) (gL363_ 19 rfl) dX12_tokenizeProof_365 ?_
              refine lv_iconst (v := iv 3) hx hb dX12_tokenizeProof_368 (by decide) ?_
              refine r_iadd hx hb dX12_tokenizeProof_369 ?_
              refine r_icmp_ge (tgt := 386) hx hb ⟨(by omega), (by omega)⟩ ⟨(by omega), (by omega)⟩ dX12_tokenizeProof_370 (by decide) (fun c_28 => ?_) (fun c_28 => ?_)
              · have lk_29 : S363.1 231 19 = u_21.1 231 19 := gL363_ 19 rfl
                exact sVret Cx hr hlk hW hL ⟨hI363, hFm363, hGm363, ⟨(TPS.end hTR (gL363_ 19 rfl) (fun x a => h363 x (by omega)) (funext fun j => (hL363_ 245 rfl).2.1 j) (funext fun j => (hL363_ 246 rfl).2.1 j) (funext fun j => (hL363_ 247 rfl).2.1 j)), (by have y := (show S363.1 231 19 = u_21.1 231 19 from gL363_ 19 rfl); omega)⟩⟩ dX12_tokenizeProof_386
              · refine lv_aload_n hx hb dX12_tokenizeProof_373 rfl (lv_at hl 2 rfl) ?_
                refine g_X12_47 Cx hW (k := 231) (by decide) rfl (v := .ref (G.2.2.1 + 244)) (rd_15 hI363) dX12_tokenizeProof_374 ?_
                refine lv_iload_n hx hb dX12_tokenizeProof_377 rfl (lv_at hl 0 rfl) ?_
                refine lv_iconst (v := iv 5) hx hb dX12_tokenizeProof_378 (by decide) ?_
                refine rIast Cx hW hL (k := 244) (by decide) rfl (by decide) (by omega) (by omega) dX12_tokenizeProof_379 (fun H locs hW hL => ?_)
                have F_30 : Fr S (uA S363 244 i 5) (pl [231, 244, 245, 246, 247]) := hFm363.A rfl
                have F_31 : Fr u_21 (uA S363 244 i 5) (pl [244]) := hL363_.A rfl
                have i_32 : dX G (uA S363 244 i 5) := hI363.A (k := 244) (show (-2147483648) ≤ 5 ∧ 5 ≤ 2147483647 from ⟨by omega, by omega⟩)
                refine lv_iinc (v := iv (i + 1)) (lv' := [(2, .int (iv (i + 1))), (1, .int (iv ps)), (0, .ref (G.2.2.1 + 231))]) hx hb dX12_tokenizeProof_380 hl (k := 0) rfl ((Int32.ofInt_add _ _).symm) (by decide) rfl (fun ls hl => ?_)
                refine lv_goto (tgt := 363) hx hb dX12_tokenizeProof_383 (by decide) ?_
                exact ih_363 (uA S363 244 i 5) (i + 1) _ _ _ (by omega) i_32 F_30 F_31 hGm363 gL363_ (by omega) (fun x a => by rw [uA_ne (fun h => by have := h.2; omega)]; exact h363 x a) hW hL (lv_sub hl [0, 1, 2] rfl)
          exact loop_363 (_ + 1) u_21 (u_21.1 231 19) _ _ _ (Nat.lt_succ_self _) iu_21 F_23 Fr.rf g_25 FF.rf (by omega) (fun x _ => rfl) hW hL (lv_sub hl [0, 1, 2] rfl)
      · refine lv_aload_n hx hb dX12_tokenizeProof_15 rfl (lv_at hl 1 rfl) ?_
        refine g_X12_44 Cx hW (k := 231) (by decide) rfl (v := .ref (G.2.2.1 + 243)) (rd_13 hI7) dX12_tokenizeProof_16 ?_
        refine lv_iload_n hx hb dX12_tokenizeProof_19 rfl (lv_at hl 0 rfl) ?_
        refine rBald Cx hW (k := 243) (by decide) rfl (by decide) (by omega) (by omega) dX12_tokenizeProof_20 ?_
        have q_33 : (-128) ≤ S.2.1 243 ps ∧ S.2.1 243 ps ≤ 127 := hI.ai 243 ps
        refine r_i (b := S.2.1 243 ps) (((hL7_ 243 rfl).2.1 ps).trans (uF_a)) ?_
        have hrc : (S.2.1 243) ps = S.2.1 243 ps := rfl
        refine lv_istore_n (lv' := [(2, .int (iv (S.2.1 243 ps))), (1, .int (iv ps)), (0, .ref (G.2.2.1 + 231))]) hx hb dX12_tokenizeProof_21 rfl hl (by decide) rfl (fun ls hl => ?_)
        refine lv_iload_n hx hb dX12_tokenizeProof_22 rfl (lv_at hl 0 rfl) ?_
        refine lv_bipush (v := iv 32) hx hb dX12_tokenizeProof_23 (by decide) ?_
        refine r_icmp_eq (tgt := 34) hx hb ⟨(by omega), (by omega)⟩ ⟨(by omega), (by omega)⟩ dX12_tokenizeProof_25 (by decide) (fun c_34 => ?_) (fun c_34 => ?_)
        · have hsb : stB (S.2.1 243) (S.1 231 14) ps := (by unfold stB; rw [cb_in (by omega) (by omega), ← hrc]; omega)
          refine lv_iinc (v := iv (ps + 1)) (lv' := [(1, .int (iv (ps + 1))), (2, .int (iv (S.2.1 243 ps))), (0, .ref (G.2.2.1 + 231))]) hx hb dX12_tokenizeProof_34 hl (k := 1) rfl ((Int32.ofInt_add _ _).symm) (by decide) rfl (fun ls hl => ?_)
          refine lv_goto (tgt := 7) hx hb dX12_tokenizeProof_37 (by decide) ?_
          have q_35 : (-2147483648) ≤ S7.1 231 19 ∧ S7.1 231 19 ≤ 2147483647 := hI7.fi 19
          exact ih_7 S7 (ps + 1) _ _ _ (by omega) hI7 hFm7 hL7_ hGm7 gL7_ (by omega) (by omega) (hti.blank hsb) htl hW hL (lv_sub hl [0, 2] rfl)
        · refine lv_iload_n hx hb dX12_tokenizeProof_28 rfl (lv_at hl 0 rfl) ?_
          refine lv_bipush (v := iv 10) hx hb dX12_tokenizeProof_29 (by decide) ?_
          refine r_icmp_ne (tgt := 40) hx hb ⟨(by omega), (by omega)⟩ ⟨(by omega), (by omega)⟩ dX12_tokenizeProof_31 (by decide) (fun c_36 => ?_) (fun c_36 => ?_)
          · have hnb : ¬ stB (S.2.1 243) (S.1 231 14) ps := (by unfold stB; rw [cb_in (by omega) (by omega), ← hrc]; omega)
            have hcv : cb (S.2.1 243) (S.1 231 14) ps = S.2.1 243 ps := (by rw [cb_in (by omega) (by omega), ← hrc])
            refine lv_iconst (v := iv 0) hx hb dX12_tokenizeProof_40 (by decide) ?_
            refine lv_istore_n (lv' := [(3, .int (iv 0)), (2, .int (iv (S.2.1 243 ps))), (1, .int (iv ps)), (0, .ref (G.2.2.1 + 231))]) hx hb dX12_tokenizeProof_41 rfl hl (by decide) rfl (fun ls hl => ?_)
            refine lv_iconst (v := iv 0) hx hb dX12_tokenizeProof_42 (by decide) ?_
            refine lv_istore (lv' := [(4, .int (iv 0)), (3, .int (iv 0)), (2, .int (iv (S.2.1 243 ps))), (1, .int (iv ps)), (0, .ref (G.2.2.1 + 231))]) hx hb dX12_tokenizeProof_43 hl (by decide) rfl (fun ls hl => ?_)
            have join_309 : ∀ (S309 : sS) (ok1 : Int) (w1 : Int) (H : Heap) (locs : List Loc) (ls : Array Slot), (dX G S309) → (Fr S S309 (pl [231, 244, 245, 246, 247])) → (Fr ((uF S 231 19 0)) S309 (pl [231, 244, 245, 246, 247])) → (Fr S7 S309 (pl [231, 244, 245, 246, 247])) → (FF S S309 (fl [19])) → (FF ((uF S 231 19 0)) S309 (fl [19])) → (FF S7 S309 (fl [19])) → ((0 ≤ ok1 ∧ ok1 ≤ 1) ∧ (ok1 = 1 → 1 ≤ w1 ∧ ps + w1 ≤ S.1 231 14) ∧ 0 ≤ w1 ∧ w1 ≤ 40000) → (S309.1 231 19 = S7.1 231 19 + 1) → ((ok1 = 1 → S309.2.1 244 (S7.1 231 19) ≤ 4) ∧ (ok1 = 0 → S309.2.1 244 (S7.1 231 19) = 6)) → (Hd (tkO (S.2.1 243) (S.1 231 14) S7 S309 ps w1)) → sW G 294 S309 H → sL G locs → lv_has ls 7 [(4, .int (iv ok1)), (3, .int (iv w1)), (2, .int (iv (S.2.1 243 ps))), (1, .int (iv ps)), (0, .ref (G.2.2.1 + 231))] → W p l e (rmk 6 0 0) s m args below meth c H locs 0 0 (MQ below (sQv G 294 (fun u => dX G u ∧ Fr S u (pl [231, 244, 245, 246, 247]) ∧ FF S u (fl [19]) ∧ (Hd (TPS (S.2.1 243) (S.1 231 14) u) ∧ (1 ≤ u.1 231 19 ∧ u.1 231 19 ≤ 30001)))) args s 0 0 (sF G)) (F0 m 309 ls []) := by
              intro S309 ok1 w1 H locs ls hI309 hFm309 hFL7309 hL309_ hGm309 hGL7309 gL309_ hw1 hj0 hj3 hjt hW hL hl
              have z14b : S309.1 231 14 = S.1 231 14 := hGm309 14 rfl
              refine lv_iload hx hb dX12_tokenizeProof_309 (lv_at hl 0 rfl) ?_
              refine r_if_ne (tgt := 317) hx hb ⟨(by omega), (by omega)⟩ dX12_tokenizeProof_311 (by decide) (fun c_37 => ?_) (fun c_37 => ?_)
              · refine lv_iload_n hx hb dX12_tokenizeProof_317 rfl (lv_at hl 3 rfl) ?_
                refine lv_iload_n hx hb dX12_tokenizeProof_318 rfl (lv_at hl 1 rfl) ?_
                refine r_iadd hx hb dX12_tokenizeProof_319 ?_
                refine lv_istore_n (lv' := [(1, .int (iv (ps + w1))), (4, .int (iv ok1)), (3, .int (iv w1)), (2, .int (iv (S.2.1 243 ps))), (0, .ref (G.2.2.1 + 231))]) hx hb dX12_tokenizeProof_320 rfl hl (by decide) rfl (fun ls hl => ?_)
                refine lv_goto (tgt := 7) hx hb dX12_tokenizeProof_321 (by decide) ?_
                have q_38 : (-2147483648) ≤ S309.1 231 19 ∧ S309.1 231 19 ≤ 2147483647 := hI309.fi 19
                exact ih_7 S309 (ps + w1) _ _ _ (by omega) hI309 hFm309 hFL7309 hGm309 hGL7309 (by omega) (by omega) (hti.tok (by omega) hnb (by omega) hjt (by omega)) (fun _ => by rw [hj0, show S7.1 231 19 + 1 - 1 = S7.1 231 19 by omega]; omega) hW hL (lv_sub hl [0, 4] rfl)
              · refine lv_goto (tgt := 324) hx hb dX12_tokenizeProof_314 (by decide) ?_
                refine lv_aload_n hx hb dX12_tokenizeProof_324 rfl (lv_at hl 4 rfl) ?_
                have q_39 : (-2147483648) ≤ S309.1 231 19 ∧ S309.1 231 19 ≤ 2147483647 := hI309.fi 19
                refine g_X12_289 Cx hW (k := 231) (by decide) rfl (v := S309.1 231 19) rfl dX12_tokenizeProof_325 ?_
                refine r_if_eq (tgt := 347) hx hb ⟨(by omega), (by omega)⟩ dX12_tokenizeProof_328 (by decide) (fun c => absurd c (by omega)) (fun _ => ?_)
                have hrd : S309.2.1 244 (S309.1 231 19 - 1) = 6 := by rw [show S309.1 231 19 - 1 = S7.1 231 19 by omega]; omega
                refine lv_aload_n hx hb dX12_tokenizeProof_331 rfl (lv_at hl 4 rfl) ?_
                refine g_X12_47 Cx hW (k := 231) (by decide) rfl (v := .ref (G.2.2.1 + 244)) (rd_15 hI309) dX12_tokenizeProof_332 ?_
                refine lv_aload_n hx hb dX12_tokenizeProof_335 rfl (lv_at hl 4 rfl) ?_
                refine g_X12_289 Cx hW (k := 231) (by decide) rfl (v := S309.1 231 19) rfl dX12_tokenizeProof_336 ?_
                refine lv_iconst (v := iv 1) hx hb dX12_tokenizeProof_339 (by decide) ?_
                refine r_isub hx hb dX12_tokenizeProof_340 ?_
                refine rIald Cx hW (k := 244) (by decide) rfl (by decide) (by omega) (by omega) dX12_tokenizeProof_341 ?_
                have q_40 : (-2147483648) ≤ S309.2.1 244 ((S309.1 231 19) - 1) ∧ S309.2.1 244 ((S309.1 231 19) - 1) ≤ 2147483647 := hI309.ai 244 ((S309.1 231 19) - 1)
                refine r_i (b := S309.2.1 244 ((S309.1 231 19) - 1)) rfl ?_
                refine lv_bipush (v := iv 6) hx hb dX12_tokenizeProof_342 (by decide) ?_
                refine r_icmp_eq (tgt := 358) hx hb ⟨(by omega), (by omega)⟩ ⟨(by omega), (by omega)⟩ dX12_tokenizeProof_344 (by decide) (fun _ => ?_) (fun c => absurd (by omega) c)
                have hTR : Hd (TPS (S.2.1 243) (S.1 231 14) S309) := hti.bad (by omega) hnb (by omega) hjt (by omega)
                refine lv_aload_n hx hb dX12_tokenizeProof_358 rfl (lv_at hl 4 rfl) ?_
                refine g_X12_289 Cx hW (k := 231) (by decide) rfl (v := S309.1 231 19) rfl dX12_tokenizeProof_359 ?_
                refine lv_istore_n (lv' := [(2, .int (iv (S309.1 231 19))), (4, .int (iv ok1)), (3, .int (iv w1)), (1, .int (iv ps)), (0, .ref (G.2.2.1 + 231))]) hx hb dX12_tokenizeProof_362 rfl hl (by decide) rfl (fun ls hl => ?_)
                have loop_363 : ∀ (fuel : Nat) (S363 : sS) (i : Int) (H : Heap) (locs : List Loc) (ls : Array Slot), (40000 - i).toNat < fuel → (dX G S363) → (Fr S S363 (pl [231, 244, 245, 246, 247])) → (Fr S309 S363 (pl [244])) → (FF S S363 (fl [19])) → (FF S309 S363 (fl [])) → (S309.1 231 19 ≤ i ∧ i ≤ S309.1 231 19 + 3) → (∀ x, x < S309.1 231 19 → S363.2.1 244 x = S309.2.1 244 x) → sW G 294 S363 H → sL G locs → lv_has ls 7 [(2, .int (iv i)), (4, .int (iv ok1)), (3, .int (iv w1)), (1, .int (iv ps)), (0, .ref (G.2.2.1 + 231))] → W p l e (rmk 6 0 0) s m args below meth c H locs 0 0 (MQ below (sQv G 294 (fun u => dX G u ∧ Fr S u (pl [231, 244, 245, 246, 247]) ∧ FF S u (fl [19]) ∧ (Hd (TPS (S.2.1 243) (S.1 231 14) u) ∧ (1 ≤ u.1 231 19 ∧ u.1 231 19 ≤ 30001)))) args s 0 0 (sF G)) (F0 m 363 ls []) := by
                  intro fuel
                  induction fuel with
                  | zero => intro S363 i H locs ls hmeas hI363 hFm363 hL363_ hGm363 gL363_ hi h363 hW hL hl; exact absurd hmeas (Nat.not_lt_zero _)
                  | succ fuel ih_363 =>
                    intro S363 i H locs ls hmeas hI363 hFm363 hL363_ hGm363 gL363_ hi h363 hW hL hl
                    refine lv_iload_n hx hb dX12_tokenizeProof_363 rfl (lv_at hl 0 rfl) ?_
                    refine lv_aload_n hx hb dX12_tokenizeProof_364 rfl (lv_at hl 4 rfl) ?_
                    refine g_X12_289 Cx hW (k := 231) (by decide) rfl (v := S309.1 231 19) (gL363_ 19 rfl) dX12_tokenizeProof_365 ?_
                    refine lv_iconst (v := iv 3) hx hb dX12_tokenizeProof_368 (by decide) ?_
                    refine r_iadd hx hb dX12_tokenizeProof_369 ?_
                    refine r_icmp_ge (tgt := 386) hx hb ⟨(by omega), (by omega)⟩ ⟨(by omega), (by omega)⟩ dX12_tokenizeProof_370 (by decide) (fun c_41 => ?_) (fun c_41 => ?_)
                    · have lk_42 : S363.1 231 19 = S309.1 231 19 := gL363_ 19 rfl
                      exact sVret Cx hr hlk hW hL ⟨hI363, hFm363, hGm363, ⟨(TPS.end hTR (gL363_ 19 rfl) (fun x a => h363 x (by omega)) (funext fun j => (hL363_ 245 rfl).2.1 j) (funext fun j => (hL363_ 246 rfl).2.1 j) (funext fun j => (hL363_ 247 rfl).2.1 j)), (by have y := (show S363.1 231 19 = S309.1 231 19 from gL363_ 19 rfl); omega)⟩⟩ dX12_tokenizeProof_386
                    · refine lv_aload_n hx hb dX12_tokenizeProof_373 rfl (lv_at hl 4 rfl) ?_
                      refine g_X12_47 Cx hW (k := 231) (by decide) rfl (v := .ref (G.2.2.1 + 244)) (rd_15 hI363) dX12_tokenizeProof_374 ?_
                      refine lv_iload_n hx hb dX12_tokenizeProof_377 rfl (lv_at hl 0 rfl) ?_
                      refine lv_iconst (v := iv 5) hx hb dX12_tokenizeProof_378 (by decide) ?_
                      refine rIast Cx hW hL (k := 244) (by decide) rfl (by decide) (by omega) (by omega) dX12_tokenizeProof_379 (fun H locs hW hL => ?_)
                      have F_43 : Fr S (uA S363 244 i 5) (pl [231, 244, 245, 246, 247]) := hFm363.A rfl
                      have F_44 : Fr S309 (uA S363 244 i 5) (pl [244]) := hL363_.A rfl
                      have i_45 : dX G (uA S363 244 i 5) := hI363.A (k := 244) (show (-2147483648) ≤ 5 ∧ 5 ≤ 2147483647 from ⟨by omega, by omega⟩)
                      refine lv_iinc (v := iv (i + 1)) (lv' := [(2, .int (iv (i + 1))), (4, .int (iv ok1)), (3, .int (iv w1)), (1, .int (iv ps)), (0, .ref (G.2.2.1 + 231))]) hx hb dX12_tokenizeProof_380 hl (k := 0) rfl ((Int32.ofInt_add _ _).symm) (by decide) rfl (fun ls hl => ?_)
                      refine lv_goto (tgt := 363) hx hb dX12_tokenizeProof_383 (by decide) ?_
                      exact ih_363 (uA S363 244 i 5) (i + 1) _ _ _ (by omega) i_45 F_43 F_44 hGm363 gL363_ (by omega) (fun x a => by rw [uA_ne (fun h => by have := h.2; omega)]; exact h363 x a) hW hL (lv_sub hl [0, 1, 2, 3, 4] rfl)
                exact loop_363 (_ + 1) S309 (S309.1 231 19) _ _ _ (Nat.lt_succ_self _) hI309 hFm309 Fr.rf hGm309 FF.rf (by omega) (fun x _ => rfl) hW hL (lv_sub hl [0, 1, 2, 3, 4] rfl)
            refine lv_iload_n hx hb dX12_tokenizeProof_45 rfl (lv_at hl 2 rfl) ?_
            refine sBi (sSt (As := [.int (iv (S.2.1 243 ps))]) (rest := []) Cx (x_X12_isLetter l G S7 (ch := S.2.1 243 ps) (by omega)) (c_X12_295 Cx rfl rfl (rmk_ok (by omega) (by decide))) hW rfl hl.1 rfl (Nat.le_of_ble_eq_true rfl) dX12_tokenizeProof_46 ⟨Nat.le_of_ble_eq_true rfl, Nat.le_of_ble_eq_true rfl⟩) hL (fun r_48 u_46 H locs k_47 hW hL => ?_)
            obtain ⟨eu_46, xu_46⟩ := k_47
            rw [eu_46] at hW
            refine r_if_eq (tgt := 116) hx hb ⟨(by omega), (by omega)⟩ dX12_tokenizeProof_49 (by decide) (fun c_49 => ?_) (fun c_49 => ?_)
            · have hnl : ¬ isLt (cb (S.2.1 243) (S.1 231 14) ps) := (by rw [hcv]; exact (show _ → _ from xu_46.2.2) (by omega))
              refine lv_iload_n hx hb dX12_tokenizeProof_116 rfl (lv_at hl 2 rfl) ?_
              refine sBi (sSt (As := [.int (iv (S.2.1 243 ps))]) (rest := []) Cx (x_X12_isDigit l G S7 (ch := S.2.1 243 ps) (by omega)) (c_X12_299 Cx rfl rfl (rmk_ok (by omega) (by decide))) hW rfl hl.1 rfl (Nat.le_of_ble_eq_true rfl) dX12_tokenizeProof_117 ⟨Nat.le_of_ble_eq_true rfl, Nat.le_of_ble_eq_true rfl⟩) hL (fun r_52 u_50 H locs k_51 hW hL => ?_)
              obtain ⟨eu_50, xu_50⟩ := k_51
              rw [eu_50] at hW
              refine r_if_ne (tgt := 129) hx hb ⟨(by omega), (by omega)⟩ dX12_tokenizeProof_120 (by decide) (fun c_53 => ?_) (fun c_53 => ?_)
              · have hd9 := (show _ → _ from xu_50.2.1) (by omega); unfold isDg at hd9
                refine lv_iload_n hx hb dX12_tokenizeProof_129 rfl (lv_at hl 2 rfl) ?_
                refine lv_bipush (v := iv 45) hx hb dX12_tokenizeProof_130 (by decide) ?_
                refine r_icmp_ne (tgt := 139) hx hb ⟨(by omega), (by omega)⟩ ⟨(by omega), (by omega)⟩ dX12_tokenizeProof_132 (by decide) (fun _ => ?_) (fun c => absurd c (by omega))
                refine lv_iconst (v := iv 0) hx hb dX12_tokenizeProof_139 (by decide) ?_
                refine lv_istore (lv' := [(5, .int (iv 0)), (4, .int (iv 0)), (3, .int (iv 0)), (2, .int (iv (S.2.1 243 ps))), (1, .int (iv ps)), (0, .ref (G.2.2.1 + 231))]) hx hb dX12_tokenizeProof_140 hl (by decide) rfl (fun ls hl => ?_)
                have hng : Hd (((0 : Int) = 1 ∧ cb (S.2.1 243) (S.1 231 14) ps = 45) ∨ ((0 : Int) = 0 ∧ cb (S.2.1 243) (S.1 231 14) ps ≠ 45 ∧ isDg (cb (S.2.1 243) (S.1 231 14) ps))) := (.inr ⟨rfl, by omega, by rw [hcv]; exact (show _ → _ from xu_50.2.1) (by omega)⟩)
                refine lv_iload hx hb dX12_tokenizeProof_142 (lv_at hl 0 rfl) ?_
                refine lv_istore_n (lv' := [(3, .int (iv 0)), (5, .int (iv 0)), (4, .int (iv 0)), (2, .int (iv (S.2.1 243 ps))), (1, .int (iv ps)), (0, .ref (G.2.2.1 + 231))]) hx hb dX12_tokenizeProof_144 rfl hl (by decide) rfl (fun ls hl => ?_)
                refine lv_iconst (v := iv 1) hx hb dX12_tokenizeProof_145 (by decide) ?_
                refine lv_istore (lv' := [(6, .int (iv 1)), (3, .int (iv 0)), (5, .int (iv 0)), (4, .int (iv 0)), (2, .int (iv (S.2.1 243 ps))), (1, .int (iv ps)), (0, .ref (G.2.2.1 + 231))]) hx hb dX12_tokenizeProof_146 hl (by decide) rfl (fun ls hl => ?_)
                have loop_148 : ∀ (fuel : Nat) (zf : Int) (w : Int) (H : Heap) (locs : List Loc) (ls : Array Slot), (S.1 231 14 - ps - w).toNat < fuel → (0 ≤ w ∧ ps + w ≤ S.1 231 14) → (Hd (en (S.1 231 14) (stD (S.2.1 243) (S.1 231 14)) (ps + 0) = en (S.1 231 14) (stD (S.2.1 243) (S.1 231 14)) (ps + w))) → (Hd (∀ x, ps + 0 ≤ x → x < ps + w → 48 ≤ (S.2.1 243) x ∧ (S.2.1 243) x ≤ 57)) → (0 ≤ zf ∧ zf ≤ 1) → (Hd (zf = 1 ↔ ∀ x, ps + 0 ≤ x → x < ps + w → (S.2.1 243) x = 48)) → sW G 294 S7 H → sL G locs → lv_has ls 7 [(6, .int (iv zf)), (3, .int (iv w)), (5, .int (iv 0)), (4, .int (iv 0)), (2, .int (iv (S.2.1 243 ps))), (1, .int (iv ps)), (0, .ref (G.2.2.1 + 231))] → W p l e (rmk 6 0 0) s m args below meth c H locs 0 0 (MQ below (sQv G 294 (fun u => dX G u ∧ Fr S u (pl [231, 244, 245, 246, 247]) ∧ FF S u (fl [19]) ∧ (Hd (TPS (S.2.1 243) (S.1 231 14) u) ∧ (1 ≤ u.1 231 19 ∧ u.1 231 19 ≤ 30001)))) args s 0 0 (sF G)) (F0 m 148 ls []) := by
                  intro fuel
                  induction fuel with
                  | zero => intro zf w H locs ls hmeas hw hen hdg hzf hzx hW hL hl; exact absurd hmeas (Nat.not_lt_zero _)
                  | succ fuel ih_148 =>
                    intro zf w H locs ls hmeas hw hen hdg hzf hzx hW hL hl
                    refine lv_aload_n hx hb dX12_tokenizeProof_148 rfl (lv_at hl 6 rfl) ?_
                    refine lv_iload_n hx hb dX12_tokenizeProof_149 rfl (lv_at hl 5 rfl) ?_
                    refine lv_iload_n hx hb dX12_tokenizeProof_150 rfl (lv_at hl 1 rfl) ?_
                    refine r_iadd hx hb dX12_tokenizeProof_151 ?_
                    have lk_54 : S7.1 231 14 = S.1 231 14 := (gL7_ 14 rfl).trans (uF_ne (fun h => absurd h.2 (by decide)))
                    refine sBi (sV (As := [.int (iv (ps + w))]) (rest := []) (k := 231) Cx (x_X12_at l G S7 (a := ps + w) hI7 (by omega) (by omega)) (c_X12_292 Cx rfl rfl (rmk_ok (by omega) (by decide))) hW (by decide) rfl rfl rfl hl.1 rfl (Nat.le_of_ble_eq_true rfl) dX12_tokenizeProof_152 ⟨Nat.le_of_ble_eq_true rfl, Nat.le_of_ble_eq_true rfl⟩) hL (fun r_57 u_55 H locs k_56 hW hL => ?_)
                    obtain ⟨eu_55, xu_55⟩ := k_56
                    rw [eu_55] at hW
                    have atu_55 : r_57 = cb (S.2.1 243) (S.1 231 14) (ps + w) := (by have q := xu_55.1; first | exact q | (rw [eB, z14] at q; exact q))
                    refine sBi (sSt (As := [.int (iv r_57)]) (rest := []) Cx (x_X12_isDigit l G S7 (ch := r_57) (by omega)) (c_X12_299 Cx rfl rfl (rmk_ok (by omega) (by decide))) hW rfl hl.1 rfl (Nat.le_of_ble_eq_true rfl) dX12_tokenizeProof_155 ⟨Nat.le_of_ble_eq_true rfl, Nat.le_of_ble_eq_true rfl⟩) hL (fun r_60 u_58 H locs k_59 hW hL => ?_)
                    obtain ⟨eu_58, xu_58⟩ := k_59
                    rw [eu_58] at hW
                    refine r_if_eq (tgt := 191) hx hb ⟨(by omega), (by omega)⟩ dX12_tokenizeProof_158 (by decide) (fun c_61 => ?_) (fun c_61 => ?_)
                    · have hend : Hd (en (S.1 231 14) (stD (S.2.1 243) (S.1 231 14)) (ps + 0) = ps + w) := (show _ = _ from (show _ = _ from hen).trans (en_no (fun z => (show _ → _ from xu_58.2.2) (by omega) (by rw [atu_55]; exact z))))
                      have hnt : Hd _ := num_tok (zf := zf) hng hnl hend (by omega) (by omega) hzx hdg
                      have hqe := hnt.1
                      have hw1 : 1 ≤ w := by have g := qE_gt (B := (S.2.1 243)) (n := (S.1 231 14)) (p := ps) (by omega) (by omega); omega
                      have join_224 : ∀ (ok : Int) (H : Heap) (locs : List Loc) (ls : Array Slot), ((0 ≤ ok ∧ ok ≤ 1) ∧ (ok = 1 → (0 + 1 ≤ w ∧ w ≤ 0 + 60)) ∧ ((0 + 1 ≤ w ∧ w ≤ 0 + 60) → ok = 1)) → sW G 294 S7 H → sL G locs → lv_has ls 7 [(6, .int (iv zf)), (3, .int (iv w)), (5, .int (iv 0)), (4, .int (iv ok)), (2, .int (iv (S.2.1 243 ps))), (1, .int (iv ps)), (0, .ref (G.2.2.1 + 231))] → W p l e (rmk 6 0 0) s m args below meth c H locs 0 0 (MQ below (sQv G 294 (fun u => dX G u ∧ Fr S u (pl [231, 244, 245, 246, 247]) ∧ FF S u (fl [19]) ∧ (Hd (TPS (S.2.1 243) (S.1 231 14) u) ∧ (1 ≤ u.1 231 19 ∧ u.1 231 19 ≤ 30001)))) args s 0 0 (sF G)) (F0 m 224 ls []) := by
                        intro ok H locs ls hok hW hL hl
                        refine lv_aload_n hx hb dX12_tokenizeProof_224 rfl (lv_at hl 6 rfl) ?_
                        refine lv_iload hx hb dX12_tokenizeProof_225 (lv_at hl 3 rfl) ?_
                        refine r_if_eq (tgt := 234) hx hb ⟨(by omega), (by omega)⟩ dX12_tokenizeProof_227 (by decide) (fun c_62 => ?_) (fun c_62 => ?_)
                        · refine lv_bipush (v := iv 6) hx hb dX12_tokenizeProof_234 (by decide) ?_
                          refine lv_iload_n hx hb dX12_tokenizeProof_236 rfl (lv_at hl 5 rfl) ?_
                          refine lv_iload_n hx hb dX12_tokenizeProof_237 rfl (lv_at hl 1 rfl) ?_
                          refine lv_iload hx hb dX12_tokenizeProof_238 (lv_at hl 0 rfl) ?_
                          refine r_if_eq (tgt := 247) hx hb ⟨(by omega), (by omega)⟩ dX12_tokenizeProof_240 (by decide) (fun c_63 => ?_) (fun c_63 => ?_)
                          · refine lv_iload hx hb dX12_tokenizeProof_247 (lv_at hl 2 rfl) ?_
                            refine lv_iconst (v := iv 1) hx hb dX12_tokenizeProof_249 (by decide) ?_
                            refine r_icmp_ne (tgt := 257) hx hb ⟨(by omega), (by omega)⟩ ⟨(by omega), (by omega)⟩ dX12_tokenizeProof_250 (by decide) (fun _ => ?_) (fun c => absurd c (by omega))
                            refine lv_iconst (v := iv 1) hx hb dX12_tokenizeProof_257 (by decide) ?_
                            have q_64 : (-2147483648) ≤ S7.1 231 19 ∧ S7.1 231 19 ≤ 2147483647 := hI7.fi 19
                            refine sBv (sV (As := [.int (iv 6), .int (iv ps), .int (iv w), .int (iv 1)]) (rest := []) (k := 231) Cx (s_X12_token l G S7 (k := 6) (f := ps) (wd := w) (v := 1) hI7 (by omega) (by omega) (by omega) (by omega) (by omega)) (c_X12_308 Cx rfl rfl (rmk_ok (by omega) (by decide))) hW (by decide) rfl rfl rfl hl.1 rfl (Nat.le_of_ble_eq_true rfl) dX12_tokenizeProof_258 ⟨Nat.le_of_ble_eq_true rfl, Nat.le_of_ble_eq_true rfl⟩) hL (fun u_65 H locs k_66 hW hL => ?_)
                            obtain ⟨iu_65, fu_65, gu_65, xu_65⟩ := k_66
                            have F_67 := hFm7.trans fu_65
                            have F_68 := hL7_.trans fu_65
                            have F_69 := (Fr.rf : Fr S7 S7 (pl [231, 244, 245, 246, 247])).trans fu_65
                            have g_70 : FF S u_65 (fl [19]) := FF.trans hGm7 (FF.to gu_65 (fl_sub (by decide)))
                            have g_71 : FF ((uF S 231 19 0)) u_65 (fl [19]) := FF.trans gL7_ (FF.to gu_65 (fl_sub (by decide)))
                            have g_72 : FF S7 u_65 (fl [19]) := FF.trans (FF.rf : FF S7 S7 (fl [19])) (FF.to gu_65 (fl_sub (by decide)))
                            refine lv_goto (tgt := 309) hx hb dX12_tokenizeProof_261 (by decide) ?_
                            have q_73 : (-2147483648) ≤ u_65.1 231 19 ∧ u_65.1 231 19 ≤ 2147483647 := iu_65.fi 19
                            exact join_309 u_65 ok w _ _ _ iu_65 F_67 F_68 F_69 g_70 g_71 g_72 (by omega) (by omega) (by rw [xu_65.2.1, if_pos rfl]; omega) (by have y := hnt.2.2 (by omega); exact ⟨6, 1, 1, xu_65.1, xu_65.2, y, .inr (.inr (.inr (.inr ⟨rfl, .inl rfl⟩))), hnt.1.symm, (fun z => absurd z (by decide))⟩) hW hL (lv_sub hl [3, 1, 4, 5, 6] rfl)
                          · refine lv_iconst (v := iv 0) hx hb dX12_tokenizeProof_243 (by decide) ?_
                            refine lv_goto (tgt := 258) hx hb dX12_tokenizeProof_244 (by decide) ?_
                            have q_74 : (-2147483648) ≤ S7.1 231 19 ∧ S7.1 231 19 ≤ 2147483647 := hI7.fi 19
                            refine sBv (sV (As := [.int (iv 6), .int (iv ps), .int (iv w), .int (iv 0)]) (rest := []) (k := 231) Cx (s_X12_token l G S7 (k := 6) (f := ps) (wd := w) (v := 0) hI7 (by omega) (by omega) (by omega) (by omega) (by omega)) (c_X12_308 Cx rfl rfl (rmk_ok (by omega) (by decide))) hW (by decide) rfl rfl rfl hl.1 rfl (Nat.le_of_ble_eq_true rfl) dX12_tokenizeProof_258 ⟨Nat.le_of_ble_eq_true rfl, Nat.le_of_ble_eq_true rfl⟩) hL (fun u_75 H locs k_76 hW hL => ?_)
                            obtain ⟨iu_75, fu_75, gu_75, xu_75⟩ := k_76
                            have F_77 := hFm7.trans fu_75
                            have F_78 := hL7_.trans fu_75
                            have F_79 := (Fr.rf : Fr S7 S7 (pl [231, 244, 245, 246, 247])).trans fu_75
                            have g_80 : FF S u_75 (fl [19]) := FF.trans hGm7 (FF.to gu_75 (fl_sub (by decide)))
                            have g_81 : FF ((uF S 231 19 0)) u_75 (fl [19]) := FF.trans gL7_ (FF.to gu_75 (fl_sub (by decide)))
                            have g_82 : FF S7 u_75 (fl [19]) := FF.trans (FF.rf : FF S7 S7 (fl [19])) (FF.to gu_75 (fl_sub (by decide)))
                            refine lv_goto (tgt := 309) hx hb dX12_tokenizeProof_261 (by decide) ?_
                            have q_83 : (-2147483648) ≤ u_75.1 231 19 ∧ u_75.1 231 19 ≤ 2147483647 := iu_75.fi 19
                            exact join_309 u_75 ok w _ _ _ iu_75 F_77 F_78 F_79 g_80 g_81 g_82 (by omega) (by omega) (by rw [xu_75.2.1, if_pos rfl]; omega) (by have y := hnt.2.2 (by omega); exact ⟨6, 0, 1, xu_75.1, xu_75.2, y, .inr (.inr (.inr (.inr ⟨rfl, .inl rfl⟩))), hnt.1.symm, (fun z => absurd z (by decide))⟩) hW hL (lv_sub hl [3, 1, 4, 5, 6] rfl)
                        · refine lv_iconst (v := iv 2) hx hb dX12_tokenizeProof_230 (by decide) ?_
                          refine lv_goto (tgt := 236) hx hb dX12_tokenizeProof_231 (by decide) ?_
                          refine lv_iload_n hx hb dX12_tokenizeProof_236 rfl (lv_at hl 5 rfl) ?_
                          refine lv_iload_n hx hb dX12_tokenizeProof_237 rfl (lv_at hl 1 rfl) ?_
                          refine lv_iload hx hb dX12_tokenizeProof_238 (lv_at hl 0 rfl) ?_
                          refine r_if_eq (tgt := 247) hx hb ⟨(by omega), (by omega)⟩ dX12_tokenizeProof_240 (by decide) (fun c_84 => ?_) (fun c_84 => ?_)
                          · refine lv_iload hx hb dX12_tokenizeProof_247 (lv_at hl 2 rfl) ?_
                            refine lv_iconst (v := iv 1) hx hb dX12_tokenizeProof_249 (by decide) ?_
                            refine r_icmp_ne (tgt := 257) hx hb ⟨(by omega), (by omega)⟩ ⟨(by omega), (by omega)⟩ dX12_tokenizeProof_250 (by decide) (fun _ => ?_) (fun c => absurd c (by omega))
                            refine lv_iconst (v := iv 1) hx hb dX12_tokenizeProof_257 (by decide) ?_
                            have q_85 : (-2147483648) ≤ S7.1 231 19 ∧ S7.1 231 19 ≤ 2147483647 := hI7.fi 19
                            refine sBv (sV (As := [.int (iv 2), .int (iv ps), .int (iv w), .int (iv 1)]) (rest := []) (k := 231) Cx (s_X12_token l G S7 (k := 2) (f := ps) (wd := w) (v := 1) hI7 (by omega) (by omega) (by omega) (by omega) (by omega)) (c_X12_308 Cx rfl rfl (rmk_ok (by omega) (by decide))) hW (by decide) rfl rfl rfl hl.1 rfl (Nat.le_of_ble_eq_true rfl) dX12_tokenizeProof_258 ⟨Nat.le_of_ble_eq_true rfl, Nat.le_of_ble_eq_true rfl⟩) hL (fun u_86 H locs k_87 hW hL => ?_)
                            obtain ⟨iu_86, fu_86, gu_86, xu_86⟩ := k_87
                            have F_88 := hFm7.trans fu_86
                            have F_89 := hL7_.trans fu_86
                            have F_90 := (Fr.rf : Fr S7 S7 (pl [231, 244, 245, 246, 247])).trans fu_86
                            have g_91 : FF S u_86 (fl [19]) := FF.trans hGm7 (FF.to gu_86 (fl_sub (by decide)))
                            have g_92 : FF ((uF S 231 19 0)) u_86 (fl [19]) := FF.trans gL7_ (FF.to gu_86 (fl_sub (by decide)))
                            have g_93 : FF S7 u_86 (fl [19]) := FF.trans (FF.rf : FF S7 S7 (fl [19])) (FF.to gu_86 (fl_sub (by decide)))
                            refine lv_goto (tgt := 309) hx hb dX12_tokenizeProof_261 (by decide) ?_
                            have q_94 : (-2147483648) ≤ u_86.1 231 19 ∧ u_86.1 231 19 ≤ 2147483647 := iu_86.fi 19
                            exact join_309 u_86 ok w _ _ _ iu_86 F_88 F_89 F_90 g_91 g_92 g_93 (by omega) (by omega) (by rw [xu_86.2.1, if_pos rfl]; omega) (by have y := hnt.2.1 ⟨by omega, by omega, fun z => by omega⟩; exact ⟨2, 1, 2, xu_86.1, xu_86.2, y.1, .inr (.inl ⟨rfl, rfl⟩), hnt.1.symm, fun _ => .inr (.inl ⟨rfl, y.2.2.2 (by omega) rfl⟩)⟩) hW hL (lv_sub hl [3, 1, 4, 5, 6] rfl)
                          · refine lv_iconst (v := iv 0) hx hb dX12_tokenizeProof_243 (by decide) ?_
                            refine lv_goto (tgt := 258) hx hb dX12_tokenizeProof_244 (by decide) ?_
                            have q_95 : (-2147483648) ≤ S7.1 231 19 ∧ S7.1 231 19 ≤ 2147483647 := hI7.fi 19
                            refine sBv (sV (As := [.int (iv 2), .int (iv ps), .int (iv w), .int (iv 0)]) (rest := []) (k := 231) Cx (s_X12_token l G S7 (k := 2) (f := ps) (wd := w) (v := 0) hI7 (by omega) (by omega) (by omega) (by omega) (by omega)) (c_X12_308 Cx rfl rfl (rmk_ok (by omega) (by decide))) hW (by decide) rfl rfl rfl hl.1 rfl (Nat.le_of_ble_eq_true rfl) dX12_tokenizeProof_258 ⟨Nat.le_of_ble_eq_true rfl, Nat.le_of_ble_eq_true rfl⟩) hL (fun u_96 H locs k_97 hW hL => ?_)
                            obtain ⟨iu_96, fu_96, gu_96, xu_96⟩ := k_97
                            have F_98 := hFm7.trans fu_96
                            have F_99 := hL7_.trans fu_96
                            have F_100 := (Fr.rf : Fr S7 S7 (pl [231, 244, 245, 246, 247])).trans fu_96
                            have g_101 : FF S u_96 (fl [19]) := FF.trans hGm7 (FF.to gu_96 (fl_sub (by decide)))
                            have g_102 : FF ((uF S 231 19 0)) u_96 (fl [19]) := FF.trans gL7_ (FF.to gu_96 (fl_sub (by decide)))
                            have g_103 : FF S7 u_96 (fl [19]) := FF.trans (FF.rf : FF S7 S7 (fl [19])) (FF.to gu_96 (fl_sub (by decide)))
                            refine lv_goto (tgt := 309) hx hb dX12_tokenizeProof_261 (by decide) ?_
                            have q_104 : (-2147483648) ≤ u_96.1 231 19 ∧ u_96.1 231 19 ≤ 2147483647 := iu_96.fi 19
                            exact join_309 u_96 ok w _ _ _ iu_96 F_98 F_99 F_100 g_101 g_102 g_103 (by omega) (by omega) (by rw [xu_96.2.1, if_pos rfl]; omega) (by have y := hnt.2.1 ⟨by omega, by omega, fun z => by omega⟩; exact ⟨2, 0, 2, xu_96.1, xu_96.2, y.1, .inr (.inl ⟨rfl, rfl⟩), hnt.1.symm, fun _ => .inl ⟨rfl, y.2.1 (by omega)⟩⟩) hW hL (lv_sub hl [3, 1, 4, 5, 6] rfl)
                      refine lv_iload_n hx hb dX12_tokenizeProof_191 rfl (lv_at hl 1 rfl) ?_
                      refine lv_iload hx hb dX12_tokenizeProof_192 (lv_at hl 2 rfl) ?_
                      refine r_icmp_le (tgt := 221) hx hb ⟨(by omega), (by omega)⟩ ⟨(by omega), (by omega)⟩ dX12_tokenizeProof_194 (by decide) (fun c_105 => ?_) (fun c_105 => ?_)
                      · refine lv_iconst (v := iv 0) hx hb dX12_tokenizeProof_221 (by decide) ?_
                        refine lv_istore (lv' := [(4, .int (iv 0)), (6, .int (iv zf)), (3, .int (iv w)), (5, .int (iv 0)), (2, .int (iv (S.2.1 243 ps))), (1, .int (iv ps)), (0, .ref (G.2.2.1 + 231))]) hx hb dX12_tokenizeProof_222 hl (by decide) rfl (fun ls hl => ?_)
                        exact join_224 0 _ _ _ (by omega) hW hL (lv_sub hl [1, 2, 3, 0, 4, 5, 6] rfl)
                      · refine lv_iload_n hx hb dX12_tokenizeProof_197 rfl (lv_at hl 1 rfl) ?_
                        refine lv_iload hx hb dX12_tokenizeProof_198 (lv_at hl 2 rfl) ?_
                        refine r_isub hx hb dX12_tokenizeProof_200 ?_
                        refine lv_bipush (v := iv 60) hx hb dX12_tokenizeProof_201 (by decide) ?_
                        refine r_icmp_gt (tgt := 221) hx hb ⟨(by omega), (by omega)⟩ ⟨(by omega), (by omega)⟩ dX12_tokenizeProof_203 (by decide) (fun c_106 => ?_) (fun c_106 => ?_)
                        · refine lv_iconst (v := iv 0) hx hb dX12_tokenizeProof_221 (by decide) ?_
                          refine lv_istore (lv' := [(4, .int (iv 0)), (6, .int (iv zf)), (3, .int (iv w)), (5, .int (iv 0)), (2, .int (iv (S.2.1 243 ps))), (1, .int (iv ps)), (0, .ref (G.2.2.1 + 231))]) hx hb dX12_tokenizeProof_222 hl (by decide) rfl (fun ls hl => ?_)
                          exact join_224 0 _ _ _ (by omega) hW hL (lv_sub hl [1, 2, 3, 0, 4, 5, 6] rfl)
                        · refine lv_iload hx hb dX12_tokenizeProof_206 (lv_at hl 0 rfl) ?_
                          refine r_if_eq (tgt := 217) hx hb ⟨(by omega), (by omega)⟩ dX12_tokenizeProof_208 (by decide) (fun c_107 => ?_) (fun c_107 => ?_)
                          · refine lv_iconst (v := iv 1) hx hb dX12_tokenizeProof_217 (by decide) ?_
                            refine lv_goto (tgt := 222) hx hb dX12_tokenizeProof_218 (by decide) ?_
                            refine lv_istore (lv' := [(4, .int (iv 1)), (6, .int (iv zf)), (3, .int (iv w)), (5, .int (iv 0)), (2, .int (iv (S.2.1 243 ps))), (1, .int (iv ps)), (0, .ref (G.2.2.1 + 231))]) hx hb dX12_tokenizeProof_222 hl (by decide) rfl (fun ls hl => ?_)
                            exact join_224 1 _ _ _ (by omega) hW hL (lv_sub hl [1, 2, 3, 0, 4, 5, 6] rfl)
                          · refine lv_iload hx hb dX12_tokenizeProof_211 (lv_at hl 2 rfl) ?_
                            refine lv_iconst (v := iv 1) hx hb dX12_tokenizeProof_213 (by decide) ?_
                            refine r_icmp_eq (tgt := 221) hx hb ⟨(by omega), (by omega)⟩ ⟨(by omega), (by omega)⟩ dX12_tokenizeProof_214 (by decide) (fun c => absurd c (by omega)) (fun _ => ?_)
                            refine lv_iconst (v := iv 1) hx hb dX12_tokenizeProof_217 (by decide) ?_
                            refine lv_goto (tgt := 222) hx hb dX12_tokenizeProof_218 (by decide) ?_
                            refine lv_istore (lv' := [(4, .int (iv 1)), (6, .int (iv zf)), (3, .int (iv w)), (5, .int (iv 0)), (2, .int (iv (S.2.1 243 ps))), (1, .int (iv ps)), (0, .ref (G.2.2.1 + 231))]) hx hb dX12_tokenizeProof_222 hl (by decide) rfl (fun ls hl => ?_)
                            exact join_224 1 _ _ _ (by omega) hW hL (lv_sub hl [1, 2, 3, 0, 4, 5, 6] rfl)
                    · refine lv_iload hx hb dX12_tokenizeProof_161 (lv_at hl 0 rfl) ?_
                      refine r_if_eq (tgt := 182) hx hb ⟨(by omega), (by omega)⟩ dX12_tokenizeProof_163 (by decide) (fun c_108 => ?_) (fun c_108 => ?_)
                      · refine lv_iconst (v := iv 0) hx hb dX12_tokenizeProof_182 (by decide) ?_
                        refine lv_istore (lv' := [(6, .int (iv 0)), (3, .int (iv w)), (5, .int (iv 0)), (4, .int (iv 0)), (2, .int (iv (S.2.1 243 ps))), (1, .int (iv ps)), (0, .ref (G.2.2.1 + 231))]) hx hb dX12_tokenizeProof_183 hl (by decide) rfl (fun ls hl => ?_)
                        refine lv_iinc (v := iv (w + 1)) (lv' := [(3, .int (iv (w + 1))), (6, .int (iv 0)), (5, .int (iv 0)), (4, .int (iv 0)), (2, .int (iv (S.2.1 243 ps))), (1, .int (iv ps)), (0, .ref (G.2.2.1 + 231))]) hx hb dX12_tokenizeProof_185 hl (k := 1) rfl ((Int32.ofInt_add _ _).symm) (by decide) rfl (fun ls hl => ?_)
                        refine lv_goto (tgt := 148) hx hb dX12_tokenizeProof_188 (by decide) ?_
                        exact ih_148 0 (w + 1) _ _ _ (by have q := stD_lt (show isDg (cb (S.2.1 243) (S.1 231 14) (ps + w)) by rw [← atu_55]; exact (show _ → _ from xu_58.2.1) (by omega) : stD (S.2.1 243) (S.1 231 14) (ps + w)); omega) (by have q := stD_lt (show isDg (cb (S.2.1 243) (S.1 231 14) (ps + w)) by rw [← atu_55]; exact (show _ → _ from xu_58.2.1) (by omega) : stD (S.2.1 243) (S.1 231 14) (ps + w)); omega) (show _ = _ from (show _ = _ from hen).trans ((en_st (fun _ => stD_lt (show isDg (cb (S.2.1 243) (S.1 231 14) (ps + w)) by rw [← atu_55]; exact (show _ → _ from xu_58.2.1) (by omega) : stD (S.2.1 243) (S.1 231 14) (ps + w))) (show isDg (cb (S.2.1 243) (S.1 231 14) (ps + w)) by rw [← atu_55]; exact (show _ → _ from xu_58.2.1) (by omega) : stD (S.2.1 243) (S.1 231 14) (ps + w))).trans (by rw [show ps + w + 1 = ps + (w + 1) by omega]))) (fun x a b => if e9 : x = ps + w then (by rw [e9]; have q := (show isDg (cb (S.2.1 243) (S.1 231 14) (ps + w)) by rw [← atu_55]; exact (show _ → _ from xu_58.2.1) (by omega) : stD (S.2.1 243) (S.1 231 14) (ps + w)); have q2 := stD_lt q; unfold stD isDg at q; rw [cb_in (by omega) (by omega)] at q; exact q) else hdg x a (by omega)) (by omega) (show _ ↔ _ from ⟨fun z => absurd z (by decide), fun z => by exfalso; have y := (show _ ↔ _ from hzx).mpr (fun x a b => z x a (by omega)); omega⟩) hW hL (lv_sub hl [1, 0, 2, 3, 4, 5, 6] rfl)
                      · refine lv_aload_n hx hb dX12_tokenizeProof_166 rfl (lv_at hl 6 rfl) ?_
                        refine lv_iload_n hx hb dX12_tokenizeProof_167 rfl (lv_at hl 5 rfl) ?_
                        refine lv_iload_n hx hb dX12_tokenizeProof_168 rfl (lv_at hl 1 rfl) ?_
                        refine r_iadd hx hb dX12_tokenizeProof_169 ?_
                        refine sBi (sV (As := [.int (iv (ps + w))]) (rest := []) (k := 231) Cx (x_X12_at l G S7 (a := ps + w) hI7 (by omega) (by omega)) (c_X12_292 Cx rfl rfl (rmk_ok (by omega) (by decide))) hW (by decide) rfl rfl rfl hl.1 rfl (Nat.le_of_ble_eq_true rfl) dX12_tokenizeProof_170 ⟨Nat.le_of_ble_eq_true rfl, Nat.le_of_ble_eq_true rfl⟩) hL (fun r_111 u_109 H locs k_110 hW hL => ?_)
                        obtain ⟨eu_109, xu_109⟩ := k_110
                        rw [eu_109] at hW
                        have atu_109 : r_111 = cb (S.2.1 243) (S.1 231 14) (ps + w) := (by have q := xu_109.1; first | exact q | (rw [eB, z14] at q; exact q))
                        refine lv_bipush (v := iv 48) hx hb dX12_tokenizeProof_173 (by decide) ?_
                        refine r_icmp_ne (tgt := 182) hx hb ⟨(by omega), (by omega)⟩ ⟨(by omega), (by omega)⟩ dX12_tokenizeProof_175 (by decide) (fun c_112 => ?_) (fun c_112 => ?_)
                        · refine lv_iconst (v := iv 0) hx hb dX12_tokenizeProof_182 (by decide) ?_
                          refine lv_istore (lv' := [(6, .int (iv 0)), (3, .int (iv w)), (5, .int (iv 0)), (4, .int (iv 0)), (2, .int (iv (S.2.1 243 ps))), (1, .int (iv ps)), (0, .ref (G.2.2.1 + 231))]) hx hb dX12_tokenizeProof_183 hl (by decide) rfl (fun ls hl => ?_)
                          refine lv_iinc (v := iv (w + 1)) (lv' := [(3, .int (iv (w + 1))), (6, .int (iv 0)), (5, .int (iv 0)), (4, .int (iv 0)), (2, .int (iv (S.2.1 243 ps))), (1, .int (iv ps)), (0, .ref (G.2.2.1 + 231))]) hx hb dX12_tokenizeProof_185 hl (k := 1) rfl ((Int32.ofInt_add _ _).symm) (by decide) rfl (fun ls hl => ?_)
                          refine lv_goto (tgt := 148) hx hb dX12_tokenizeProof_188 (by decide) ?_
                          exact ih_148 0 (w + 1) _ _ _ (by have q := stD_lt (show isDg (cb (S.2.1 243) (S.1 231 14) (ps + w)) by rw [← atu_55]; exact (show _ → _ from xu_58.2.1) (by omega) : stD (S.2.1 243) (S.1 231 14) (ps + w)); omega) (by have q := stD_lt (show isDg (cb (S.2.1 243) (S.1 231 14) (ps + w)) by rw [← atu_55]; exact (show _ → _ from xu_58.2.1) (by omega) : stD (S.2.1 243) (S.1 231 14) (ps + w)); omega) (show _ = _ from (show _ = _ from hen).trans ((en_st (fun _ => stD_lt (show isDg (cb (S.2.1 243) (S.1 231 14) (ps + w)) by rw [← atu_55]; exact (show _ → _ from xu_58.2.1) (by omega) : stD (S.2.1 243) (S.1 231 14) (ps + w))) (show isDg (cb (S.2.1 243) (S.1 231 14) (ps + w)) by rw [← atu_55]; exact (show _ → _ from xu_58.2.1) (by omega) : stD (S.2.1 243) (S.1 231 14) (ps + w))).trans (by rw [show ps + w + 1 = ps + (w + 1) by omega]))) (fun x a b => if e9 : x = ps + w then (by rw [e9]; have q := (show isDg (cb (S.2.1 243) (S.1 231 14) (ps + w)) by rw [← atu_55]; exact (show _ → _ from xu_58.2.1) (by omega) : stD (S.2.1 243) (S.1 231 14) (ps + w)); have q2 := stD_lt q; unfold stD isDg at q; rw [cb_in (by omega) (by omega)] at q; exact q) else hdg x a (by omega)) (by omega) (show _ ↔ _ by have q2 := stD_lt (show isDg (cb (S.2.1 243) (S.1 231 14) (ps + w)) by rw [← atu_55]; exact (show _ → _ from xu_58.2.1) (by omega) : stD (S.2.1 243) (S.1 231 14) (ps + w)); exact ⟨fun z => absurd z (by decide), fun z => by exfalso; have y := z (ps + w) (by omega) (by omega); have q := atu_109; rw [cb_in (by omega) (by omega)] at q; omega⟩) hW hL (lv_sub hl [1, 0, 2, 3, 4, 5, 6] rfl)
                        · refine lv_iconst (v := iv 1) hx hb dX12_tokenizeProof_178 (by decide) ?_
                          refine lv_goto (tgt := 183) hx hb dX12_tokenizeProof_179 (by decide) ?_
                          refine lv_istore (lv' := [(6, .int (iv 1)), (3, .int (iv w)), (5, .int (iv 0)), (4, .int (iv 0)), (2, .int (iv (S.2.1 243 ps))), (1, .int (iv ps)), (0, .ref (G.2.2.1 + 231))]) hx hb dX12_tokenizeProof_183 hl (by decide) rfl (fun ls hl => ?_)
                          refine lv_iinc (v := iv (w + 1)) (lv' := [(3, .int (iv (w + 1))), (6, .int (iv 1)), (5, .int (iv 0)), (4, .int (iv 0)), (2, .int (iv (S.2.1 243 ps))), (1, .int (iv ps)), (0, .ref (G.2.2.1 + 231))]) hx hb dX12_tokenizeProof_185 hl (k := 1) rfl ((Int32.ofInt_add _ _).symm) (by decide) rfl (fun ls hl => ?_)
                          refine lv_goto (tgt := 148) hx hb dX12_tokenizeProof_188 (by decide) ?_
                          exact ih_148 1 (w + 1) _ _ _ (by have q := stD_lt (show isDg (cb (S.2.1 243) (S.1 231 14) (ps + w)) by rw [← atu_55]; exact (show _ → _ from xu_58.2.1) (by omega) : stD (S.2.1 243) (S.1 231 14) (ps + w)); omega) (by have q := stD_lt (show isDg (cb (S.2.1 243) (S.1 231 14) (ps + w)) by rw [← atu_55]; exact (show _ → _ from xu_58.2.1) (by omega) : stD (S.2.1 243) (S.1 231 14) (ps + w)); omega) (show _ = _ from (show _ = _ from hen).trans ((en_st (fun _ => stD_lt (show isDg (cb (S.2.1 243) (S.1 231 14) (ps + w)) by rw [← atu_55]; exact (show _ → _ from xu_58.2.1) (by omega) : stD (S.2.1 243) (S.1 231 14) (ps + w))) (show isDg (cb (S.2.1 243) (S.1 231 14) (ps + w)) by rw [← atu_55]; exact (show _ → _ from xu_58.2.1) (by omega) : stD (S.2.1 243) (S.1 231 14) (ps + w))).trans (by rw [show ps + w + 1 = ps + (w + 1) by omega]))) (fun x a b => if e9 : x = ps + w then (by rw [e9]; have q := (show isDg (cb (S.2.1 243) (S.1 231 14) (ps + w)) by rw [← atu_55]; exact (show _ → _ from xu_58.2.1) (by omega) : stD (S.2.1 243) (S.1 231 14) (ps + w)); have q2 := stD_lt q; unfold stD isDg at q; rw [cb_in (by omega) (by omega)] at q; exact q) else hdg x a (by omega)) (by omega) (show _ ↔ _ by have q2 := stD_lt (show isDg (cb (S.2.1 243) (S.1 231 14) (ps + w)) by rw [← atu_55]; exact (show _ → _ from xu_58.2.1) (by omega) : stD (S.2.1 243) (S.1 231 14) (ps + w)); exact ⟨fun _ x a b => by by_cases z : x = ps + w; (rw [z]; have q := atu_109; rw [cb_in (by omega) (by omega)] at q; omega); exact (show _ ↔ _ from hzx).mp (by omega) x a (by omega), fun _ => rfl⟩) hW hL (lv_sub hl [1, 0, 2, 3, 4, 5, 6] rfl)
                exact loop_148 (_ + 1) 1 0 _ _ _ (Nat.lt_succ_self _) (by omega) (show _ = _ from rfl) (fun x a b => absurd b (by omega)) (by omega) (show _ ↔ _ from ⟨fun _ x a b => absurd b (by omega), fun _ => rfl⟩) hW hL (lv_sub hl [0, 1, 2, 3, 4, 5, 6] rfl)
              · refine lv_iload_n hx hb dX12_tokenizeProof_123 rfl (lv_at hl 2 rfl) ?_
                refine lv_bipush (v := iv 45) hx hb dX12_tokenizeProof_124 (by decide) ?_
                refine r_icmp_ne (tgt := 264) hx hb ⟨(by omega), (by omega)⟩ ⟨(by omega), (by omega)⟩ dX12_tokenizeProof_126 (by decide) (fun c_113 => ?_) (fun c_113 => ?_)
                · have hnd : ¬ (cb (S.2.1 243) (S.1 231 14) ps = 45 ∨ isDg (cb (S.2.1 243) (S.1 231 14) ps)) := by rw [hcv]; intro z; rcases z with z | z; (omega); exact (show _ → _ from xu_50.2.2) (by omega) z
                  refine lv_iload_n hx hb dX12_tokenizeProof_264 rfl (lv_at hl 2 rfl) ?_
                  refine lv_bipush (v := iv 47) hx hb dX12_tokenizeProof_265 (by decide) ?_
                  refine r_icmp_eq (tgt := 282) hx hb ⟨(by omega), (by omega)⟩ ⟨(by omega), (by omega)⟩ dX12_tokenizeProof_267 (by decide) (fun c_114 => ?_) (fun c_114 => ?_)
                  · refine lv_iconst (v := iv 1) hx hb dX12_tokenizeProof_282 (by decide) ?_
                    refine lv_goto (tgt := 287) hx hb dX12_tokenizeProof_283 (by decide) ?_
                    refine lv_istore (lv' := [(4, .int (iv 1)), (3, .int (iv 0)), (2, .int (iv (S.2.1 243 ps))), (1, .int (iv ps)), (0, .ref (G.2.2.1 + 231))]) hx hb dX12_tokenizeProof_287 hl (by decide) rfl (fun ls hl => ?_)
                    refine lv_iconst (v := iv 1) hx hb dX12_tokenizeProof_289 (by decide) ?_
                    refine lv_istore_n (lv' := [(3, .int (iv 1)), (4, .int (iv 1)), (2, .int (iv (S.2.1 243 ps))), (1, .int (iv ps)), (0, .ref (G.2.2.1 + 231))]) hx hb dX12_tokenizeProof_290 rfl hl (by decide) rfl (fun ls hl => ?_)
                    refine lv_aload_n hx hb dX12_tokenizeProof_291 rfl (lv_at hl 4 rfl) ?_
                    refine lv_iload hx hb dX12_tokenizeProof_292 (lv_at hl 1 rfl) ?_
                    refine r_if_eq (tgt := 301) hx hb ⟨(by omega), (by omega)⟩ dX12_tokenizeProof_294 (by decide) (fun c => absurd c (by omega)) (fun _ => ?_)
                    refine lv_iconst (v := iv 4) hx hb dX12_tokenizeProof_297 (by decide) ?_
                    refine lv_goto (tgt := 303) hx hb dX12_tokenizeProof_298 (by decide) ?_
                    refine lv_iload_n hx hb dX12_tokenizeProof_303 rfl (lv_at hl 3 rfl) ?_
                    refine lv_iconst (v := iv 1) hx hb dX12_tokenizeProof_304 (by decide) ?_
                    refine lv_iload_n hx hb dX12_tokenizeProof_305 rfl (lv_at hl 2 rfl) ?_
                    have q_115 : (-2147483648) ≤ S7.1 231 19 ∧ S7.1 231 19 ≤ 2147483647 := hI7.fi 19
                    refine sBv (sV (As := [.int (iv 4), .int (iv ps), .int (iv 1), .int (iv (S.2.1 243 ps))]) (rest := []) (k := 231) Cx (s_X12_token l G S7 (k := 4) (f := ps) (wd := 1) (v := S.2.1 243 ps) hI7 (by omega) (by omega) (by omega) (by omega) (by omega)) (c_X12_308 Cx rfl rfl (rmk_ok (by omega) (by decide))) hW (by decide) rfl rfl rfl hl.1 rfl (Nat.le_of_ble_eq_true rfl) dX12_tokenizeProof_306 ⟨Nat.le_of_ble_eq_true rfl, Nat.le_of_ble_eq_true rfl⟩) hL (fun u_116 H locs k_117 hW hL => ?_)
                    obtain ⟨iu_116, fu_116, gu_116, xu_116⟩ := k_117
                    have F_118 := hFm7.trans fu_116
                    have F_119 := hL7_.trans fu_116
                    have F_120 := (Fr.rf : Fr S7 S7 (pl [231, 244, 245, 246, 247])).trans fu_116
                    have g_121 : FF S u_116 (fl [19]) := FF.trans hGm7 (FF.to gu_116 (fl_sub (by decide)))
                    have g_122 : FF ((uF S 231 19 0)) u_116 (fl [19]) := FF.trans gL7_ (FF.to gu_116 (fl_sub (by decide)))
                    have g_123 : FF S7 u_116 (fl [19]) := FF.trans (FF.rf : FF S7 S7 (fl [19])) (FF.to gu_116 (fl_sub (by decide)))
                    have q_124 : (-2147483648) ≤ u_116.1 231 19 ∧ u_116.1 231 19 ≤ 2147483647 := iu_116.fi 19
                    exact join_309 u_116 1 1 _ _ _ iu_116 F_118 F_119 F_120 g_121 g_122 g_123 (by omega) (by omega) (by rw [xu_116.2.1, if_pos rfl]; omega) (by have y := sg_tok (n := (S.1 231 14)) hnl hnd; rw [hcv] at y; exact ⟨4, S.2.1 243 ps, sgk (S.2.1 243 ps), xu_116.1, xu_116.2, y.2, (by unfold sgk; rcases (by omega : S.2.1 243 ps = 47 ∨ S.2.1 243 ps = 58 ∨ S.2.1 243 ps = 59) with z | z | z; (rw [if_pos z]; exact .inr (.inr (.inl ⟨rfl, .inl ⟨z, rfl⟩⟩))); (rw [if_neg (by omega), if_pos z]; exact .inr (.inr (.inl ⟨rfl, .inr (.inl ⟨z, rfl⟩)⟩))); (rw [if_neg (by omega), if_neg (by omega), if_pos z]; exact .inr (.inr (.inl ⟨rfl, .inr (.inr ⟨z, rfl⟩)⟩)))), y.1.symm, (fun z => absurd z (by decide))⟩) hW hL (lv_sub hl [1, 0, 2, 3, 4] rfl)
                  · refine lv_iload_n hx hb dX12_tokenizeProof_270 rfl (lv_at hl 2 rfl) ?_
                    refine lv_bipush (v := iv 58) hx hb dX12_tokenizeProof_271 (by decide) ?_
                    refine r_icmp_eq (tgt := 282) hx hb ⟨(by omega), (by omega)⟩ ⟨(by omega), (by omega)⟩ dX12_tokenizeProof_273 (by decide) (fun c_125 => ?_) (fun c_125 => ?_)
                    · refine lv_iconst (v := iv 1) hx hb dX12_tokenizeProof_282 (by decide) ?_
                      refine lv_goto (tgt := 287) hx hb dX12_tokenizeProof_283 (by decide) ?_
                      refine lv_istore (lv' := [(4, .int (iv 1)), (3, .int (iv 0)), (2, .int (iv (S.2.1 243 ps))), (1, .int (iv ps)), (0, .ref (G.2.2.1 + 231))]) hx hb dX12_tokenizeProof_287 hl (by decide) rfl (fun ls hl => ?_)
                      refine lv_iconst (v := iv 1) hx hb dX12_tokenizeProof_289 (by decide) ?_
                      refine lv_istore_n (lv' := [(3, .int (iv 1)), (4, .int (iv 1)), (2, .int (iv (S.2.1 243 ps))), (1, .int (iv ps)), (0, .ref (G.2.2.1 + 231))]) hx hb dX12_tokenizeProof_290 rfl hl (by decide) rfl (fun ls hl => ?_)
                      refine lv_aload_n hx hb dX12_tokenizeProof_291 rfl (lv_at hl 4 rfl) ?_
                      refine lv_iload hx hb dX12_tokenizeProof_292 (lv_at hl 1 rfl) ?_
                      refine r_if_eq (tgt := 301) hx hb ⟨(by omega), (by omega)⟩ dX12_tokenizeProof_294 (by decide) (fun c => absurd c (by omega)) (fun _ => ?_)
                      refine lv_iconst (v := iv 4) hx hb dX12_tokenizeProof_297 (by decide) ?_
                      refine lv_goto (tgt := 303) hx hb dX12_tokenizeProof_298 (by decide) ?_
                      refine lv_iload_n hx hb dX12_tokenizeProof_303 rfl (lv_at hl 3 rfl) ?_
                      refine lv_iconst (v := iv 1) hx hb dX12_tokenizeProof_304 (by decide) ?_
                      refine lv_iload_n hx hb dX12_tokenizeProof_305 rfl (lv_at hl 2 rfl) ?_
                      have q_126 : (-2147483648) ≤ S7.1 231 19 ∧ S7.1 231 19 ≤ 2147483647 := hI7.fi 19
                      refine sBv (sV (As := [.int (iv 4), .int (iv ps), .int (iv 1), .int (iv (S.2.1 243 ps))]) (rest := []) (k := 231) Cx (s_X12_token l G S7 (k := 4) (f := ps) (wd := 1) (v := S.2.1 243 ps) hI7 (by omega) (by omega) (by omega) (by omega) (by omega)) (c_X12_308 Cx rfl rfl (rmk_ok (by omega) (by decide))) hW (by decide) rfl rfl rfl hl.1 rfl (Nat.le_of_ble_eq_true rfl) dX12_tokenizeProof_306 ⟨Nat.le_of_ble_eq_true rfl, Nat.le_of_ble_eq_true rfl⟩) hL (fun u_127 H locs k_128 hW hL => ?_)
                      obtain ⟨iu_127, fu_127, gu_127, xu_127⟩ := k_128
                      have F_129 := hFm7.trans fu_127
                      have F_130 := hL7_.trans fu_127
                      have F_131 := (Fr.rf : Fr S7 S7 (pl [231, 244, 245, 246, 247])).trans fu_127
                      have g_132 : FF S u_127 (fl [19]) := FF.trans hGm7 (FF.to gu_127 (fl_sub (by decide)))
                      have g_133 : FF ((uF S 231 19 0)) u_127 (fl [19]) := FF.trans gL7_ (FF.to gu_127 (fl_sub (by decide)))
                      have g_134 : FF S7 u_127 (fl [19]) := FF.trans (FF.rf : FF S7 S7 (fl [19])) (FF.to gu_127 (fl_sub (by decide)))
                      have q_135 : (-2147483648) ≤ u_127.1 231 19 ∧ u_127.1 231 19 ≤ 2147483647 := iu_127.fi 19
                      exact join_309 u_127 1 1 _ _ _ iu_127 F_129 F_130 F_131 g_132 g_133 g_134 (by omega) (by omega) (by rw [xu_127.2.1, if_pos rfl]; omega) (by have y := sg_tok (n := (S.1 231 14)) hnl hnd; rw [hcv] at y; exact ⟨4, S.2.1 243 ps, sgk (S.2.1 243 ps), xu_127.1, xu_127.2, y.2, (by unfold sgk; rcases (by omega : S.2.1 243 ps = 47 ∨ S.2.1 243 ps = 58 ∨ S.2.1 243 ps = 59) with z | z | z; (rw [if_pos z]; exact .inr (.inr (.inl ⟨rfl, .inl ⟨z, rfl⟩⟩))); (rw [if_neg (by omega), if_pos z]; exact .inr (.inr (.inl ⟨rfl, .inr (.inl ⟨z, rfl⟩)⟩))); (rw [if_neg (by omega), if_neg (by omega), if_pos z]; exact .inr (.inr (.inl ⟨rfl, .inr (.inr ⟨z, rfl⟩)⟩)))), y.1.symm, (fun z => absurd z (by decide))⟩) hW hL (lv_sub hl [1, 0, 2, 3, 4] rfl)
                    · refine lv_iload_n hx hb dX12_tokenizeProof_276 rfl (lv_at hl 2 rfl) ?_
                      refine lv_bipush (v := iv 59) hx hb dX12_tokenizeProof_277 (by decide) ?_
                      refine r_icmp_ne (tgt := 286) hx hb ⟨(by omega), (by omega)⟩ ⟨(by omega), (by omega)⟩ dX12_tokenizeProof_279 (by decide) (fun c_136 => ?_) (fun c_136 => ?_)
                      · refine lv_iconst (v := iv 0) hx hb dX12_tokenizeProof_286 (by decide) ?_
                        refine lv_istore (lv' := [(4, .int (iv 0)), (3, .int (iv 0)), (2, .int (iv (S.2.1 243 ps))), (1, .int (iv ps)), (0, .ref (G.2.2.1 + 231))]) hx hb dX12_tokenizeProof_287 hl (by decide) rfl (fun ls hl => ?_)
                        refine lv_iconst (v := iv 1) hx hb dX12_tokenizeProof_289 (by decide) ?_
                        refine lv_istore_n (lv' := [(3, .int (iv 1)), (4, .int (iv 0)), (2, .int (iv (S.2.1 243 ps))), (1, .int (iv ps)), (0, .ref (G.2.2.1 + 231))]) hx hb dX12_tokenizeProof_290 rfl hl (by decide) rfl (fun ls hl => ?_)
                        refine lv_aload_n hx hb dX12_tokenizeProof_291 rfl (lv_at hl 4 rfl) ?_
                        refine lv_iload hx hb dX12_tokenizeProof_292 (lv_at hl 1 rfl) ?_
                        refine r_if_eq (tgt := 301) hx hb ⟨(by omega), (by omega)⟩ dX12_tokenizeProof_294 (by decide) (fun _ => ?_) (fun c => absurd (by omega) c)
                        refine lv_bipush (v := iv 6) hx hb dX12_tokenizeProof_301 (by decide) ?_
                        refine lv_iload_n hx hb dX12_tokenizeProof_303 rfl (lv_at hl 3 rfl) ?_
                        refine lv_iconst (v := iv 1) hx hb dX12_tokenizeProof_304 (by decide) ?_
                        refine lv_iload_n hx hb dX12_tokenizeProof_305 rfl (lv_at hl 2 rfl) ?_
                        have q_137 : (-2147483648) ≤ S7.1 231 19 ∧ S7.1 231 19 ≤ 2147483647 := hI7.fi 19
                        refine sBv (sV (As := [.int (iv 6), .int (iv ps), .int (iv 1), .int (iv (S.2.1 243 ps))]) (rest := []) (k := 231) Cx (s_X12_token l G S7 (k := 6) (f := ps) (wd := 1) (v := S.2.1 243 ps) hI7 (by omega) (by omega) (by omega) (by omega) (by omega)) (c_X12_308 Cx rfl rfl (rmk_ok (by omega) (by decide))) hW (by decide) rfl rfl rfl hl.1 rfl (Nat.le_of_ble_eq_true rfl) dX12_tokenizeProof_306 ⟨Nat.le_of_ble_eq_true rfl, Nat.le_of_ble_eq_true rfl⟩) hL (fun u_138 H locs k_139 hW hL => ?_)
                        obtain ⟨iu_138, fu_138, gu_138, xu_138⟩ := k_139
                        have F_140 := hFm7.trans fu_138
                        have F_141 := hL7_.trans fu_138
                        have F_142 := (Fr.rf : Fr S7 S7 (pl [231, 244, 245, 246, 247])).trans fu_138
                        have g_143 : FF S u_138 (fl [19]) := FF.trans hGm7 (FF.to gu_138 (fl_sub (by decide)))
                        have g_144 : FF ((uF S 231 19 0)) u_138 (fl [19]) := FF.trans gL7_ (FF.to gu_138 (fl_sub (by decide)))
                        have g_145 : FF S7 u_138 (fl [19]) := FF.trans (FF.rf : FF S7 S7 (fl [19])) (FF.to gu_138 (fl_sub (by decide)))
                        have q_146 : (-2147483648) ≤ u_138.1 231 19 ∧ u_138.1 231 19 ≤ 2147483647 := iu_138.fi 19
                        exact join_309 u_138 0 1 _ _ _ iu_138 F_140 F_141 F_142 g_143 g_144 g_145 (by omega) (by omega) (by rw [xu_138.2.1, if_pos rfl]; omega) (by have y := sg_tok (n := (S.1 231 14)) hnl hnd; rw [hcv] at y; exact ⟨6, S.2.1 243 ps, sgk (S.2.1 243 ps), xu_138.1, xu_138.2, y.2, (by unfold sgk; rw [if_neg (by omega), if_neg (by omega), if_neg (by omega)]; exact .inr (.inr (.inr (.inr ⟨rfl, .inl rfl⟩)))), y.1.symm, (fun z => absurd z (by decide))⟩) hW hL (lv_sub hl [1, 0, 2, 3, 4] rfl)
                      · refine lv_iconst (v := iv 1) hx hb dX12_tokenizeProof_282 (by decide) ?_
                        refine lv_goto (tgt := 287) hx hb dX12_tokenizeProof_283 (by decide) ?_
                        refine lv_istore (lv' := [(4, .int (iv 1)), (3, .int (iv 0)), (2, .int (iv (S.2.1 243 ps))), (1, .int (iv ps)), (0, .ref (G.2.2.1 + 231))]) hx hb dX12_tokenizeProof_287 hl (by decide) rfl (fun ls hl => ?_)
                        refine lv_iconst (v := iv 1) hx hb dX12_tokenizeProof_289 (by decide) ?_
                        refine lv_istore_n (lv' := [(3, .int (iv 1)), (4, .int (iv 1)), (2, .int (iv (S.2.1 243 ps))), (1, .int (iv ps)), (0, .ref (G.2.2.1 + 231))]) hx hb dX12_tokenizeProof_290 rfl hl (by decide) rfl (fun ls hl => ?_)
                        refine lv_aload_n hx hb dX12_tokenizeProof_291 rfl (lv_at hl 4 rfl) ?_
                        refine lv_iload hx hb dX12_tokenizeProof_292 (lv_at hl 1 rfl) ?_
                        refine r_if_eq (tgt := 301) hx hb ⟨(by omega), (by omega)⟩ dX12_tokenizeProof_294 (by decide) (fun c => absurd c (by omega)) (fun _ => ?_)
                        refine lv_iconst (v := iv 4) hx hb dX12_tokenizeProof_297 (by decide) ?_
                        refine lv_goto (tgt := 303) hx hb dX12_tokenizeProof_298 (by decide) ?_
                        refine lv_iload_n hx hb dX12_tokenizeProof_303 rfl (lv_at hl 3 rfl) ?_
                        refine lv_iconst (v := iv 1) hx hb dX12_tokenizeProof_304 (by decide) ?_
                        refine lv_iload_n hx hb dX12_tokenizeProof_305 rfl (lv_at hl 2 rfl) ?_
                        have q_147 : (-2147483648) ≤ S7.1 231 19 ∧ S7.1 231 19 ≤ 2147483647 := hI7.fi 19
                        refine sBv (sV (As := [.int (iv 4), .int (iv ps), .int (iv 1), .int (iv (S.2.1 243 ps))]) (rest := []) (k := 231) Cx (s_X12_token l G S7 (k := 4) (f := ps) (wd := 1) (v := S.2.1 243 ps) hI7 (by omega) (by omega) (by omega) (by omega) (by omega)) (c_X12_308 Cx rfl rfl (rmk_ok (by omega) (by decide))) hW (by decide) rfl rfl rfl hl.1 rfl (Nat.le_of_ble_eq_true rfl) dX12_tokenizeProof_306 ⟨Nat.le_of_ble_eq_true rfl, Nat.le_of_ble_eq_true rfl⟩) hL (fun u_148 H locs k_149 hW hL => ?_)
                        obtain ⟨iu_148, fu_148, gu_148, xu_148⟩ := k_149
                        have F_150 := hFm7.trans fu_148
                        have F_151 := hL7_.trans fu_148
                        have F_152 := (Fr.rf : Fr S7 S7 (pl [231, 244, 245, 246, 247])).trans fu_148
                        have g_153 : FF S u_148 (fl [19]) := FF.trans hGm7 (FF.to gu_148 (fl_sub (by decide)))
                        have g_154 : FF ((uF S 231 19 0)) u_148 (fl [19]) := FF.trans gL7_ (FF.to gu_148 (fl_sub (by decide)))
                        have g_155 : FF S7 u_148 (fl [19]) := FF.trans (FF.rf : FF S7 S7 (fl [19])) (FF.to gu_148 (fl_sub (by decide)))
                        have q_156 : (-2147483648) ≤ u_148.1 231 19 ∧ u_148.1 231 19 ≤ 2147483647 := iu_148.fi 19
                        exact join_309 u_148 1 1 _ _ _ iu_148 F_150 F_151 F_152 g_153 g_154 g_155 (by omega) (by omega) (by rw [xu_148.2.1, if_pos rfl]; omega) (by have y := sg_tok (n := (S.1 231 14)) hnl hnd; rw [hcv] at y; exact ⟨4, S.2.1 243 ps, sgk (S.2.1 243 ps), xu_148.1, xu_148.2, y.2, (by unfold sgk; rcases (by omega : S.2.1 243 ps = 47 ∨ S.2.1 243 ps = 58 ∨ S.2.1 243 ps = 59) with z | z | z; (rw [if_pos z]; exact .inr (.inr (.inl ⟨rfl, .inl ⟨z, rfl⟩⟩))); (rw [if_neg (by omega), if_pos z]; exact .inr (.inr (.inl ⟨rfl, .inr (.inl ⟨z, rfl⟩)⟩))); (rw [if_neg (by omega), if_neg (by omega), if_pos z]; exact .inr (.inr (.inl ⟨rfl, .inr (.inr ⟨z, rfl⟩)⟩)))), y.1.symm, (fun z => absurd z (by decide))⟩) hW hL (lv_sub hl [1, 0, 2, 3, 4] rfl)
                · refine lv_iload_n hx hb dX12_tokenizeProof_129 rfl (lv_at hl 2 rfl) ?_
                  refine lv_bipush (v := iv 45) hx hb dX12_tokenizeProof_130 (by decide) ?_
                  refine r_icmp_ne (tgt := 139) hx hb ⟨(by omega), (by omega)⟩ ⟨(by omega), (by omega)⟩ dX12_tokenizeProof_132 (by decide) (fun c => absurd (by omega) c) (fun _ => ?_)
                  refine lv_iconst (v := iv 1) hx hb dX12_tokenizeProof_135 (by decide) ?_
                  refine lv_goto (tgt := 140) hx hb dX12_tokenizeProof_136 (by decide) ?_
                  refine lv_istore (lv' := [(5, .int (iv 1)), (4, .int (iv 0)), (3, .int (iv 0)), (2, .int (iv (S.2.1 243 ps))), (1, .int (iv ps)), (0, .ref (G.2.2.1 + 231))]) hx hb dX12_tokenizeProof_140 hl (by decide) rfl (fun ls hl => ?_)
                  have hng : Hd (((1 : Int) = 1 ∧ cb (S.2.1 243) (S.1 231 14) ps = 45) ∨ ((1 : Int) = 0 ∧ cb (S.2.1 243) (S.1 231 14) ps ≠ 45 ∧ isDg (cb (S.2.1 243) (S.1 231 14) ps))) := (.inl ⟨rfl, by omega⟩)
                  refine lv_iload hx hb dX12_tokenizeProof_142 (lv_at hl 0 rfl) ?_
                  refine lv_istore_n (lv' := [(3, .int (iv 1)), (5, .int (iv 1)), (4, .int (iv 0)), (2, .int (iv (S.2.1 243 ps))), (1, .int (iv ps)), (0, .ref (G.2.2.1 + 231))]) hx hb dX12_tokenizeProof_144 rfl hl (by decide) rfl (fun ls hl => ?_)
                  refine lv_iconst (v := iv 1) hx hb dX12_tokenizeProof_145 (by decide) ?_
                  refine lv_istore (lv' := [(6, .int (iv 1)), (3, .int (iv 1)), (5, .int (iv 1)), (4, .int (iv 0)), (2, .int (iv (S.2.1 243 ps))), (1, .int (iv ps)), (0, .ref (G.2.2.1 + 231))]) hx hb dX12_tokenizeProof_146 hl (by decide) rfl (fun ls hl => ?_)
                  have loop_148 : ∀ (fuel : Nat) (zf : Int) (w : Int) (H : Heap) (locs : List Loc) (ls : Array Slot), (S.1 231 14 - ps - w).toNat < fuel → (1 ≤ w ∧ ps + w ≤ S.1 231 14) → (Hd (en (S.1 231 14) (stD (S.2.1 243) (S.1 231 14)) (ps + 1) = en (S.1 231 14) (stD (S.2.1 243) (S.1 231 14)) (ps + w))) → (Hd (∀ x, ps + 1 ≤ x → x < ps + w → 48 ≤ (S.2.1 243) x ∧ (S.2.1 243) x ≤ 57)) → (0 ≤ zf ∧ zf ≤ 1) → (Hd (zf = 1 ↔ ∀ x, ps + 1 ≤ x → x < ps + w → (S.2.1 243) x = 48)) → sW G 294 S7 H → sL G locs → lv_has ls 7 [(6, .int (iv zf)), (3, .int (iv w)), (5, .int (iv 1)), (4, .int (iv 0)), (2, .int (iv (S.2.1 243 ps))), (1, .int (iv ps)), (0, .ref (G.2.2.1 + 231))] → W p l e (rmk 6 0 0) s m args below meth c H locs 0 0 (MQ below (sQv G 294 (fun u => dX G u ∧ Fr S u (pl [231, 244, 245, 246, 247]) ∧ FF S u (fl [19]) ∧ (Hd (TPS (S.2.1 243) (S.1 231 14) u) ∧ (1 ≤ u.1 231 19 ∧ u.1 231 19 ≤ 30001)))) args s 0 0 (sF G)) (F0 m 148 ls []) := by
                    intro fuel
                    induction fuel with
                    | zero => intro zf w H locs ls hmeas hw hen hdg hzf hzx hW hL hl; exact absurd hmeas (Nat.not_lt_zero _)
                    | succ fuel ih_148 =>
                      intro zf w H locs ls hmeas hw hen hdg hzf hzx hW hL hl
                      refine lv_aload_n hx hb dX12_tokenizeProof_148 rfl (lv_at hl 6 rfl) ?_
                      refine lv_iload_n hx hb dX12_tokenizeProof_149 rfl (lv_at hl 5 rfl) ?_
                      refine lv_iload_n hx hb dX12_tokenizeProof_150 rfl (lv_at hl 1 rfl) ?_
                      refine r_iadd hx hb dX12_tokenizeProof_151 ?_
                      have lk_157 : S7.1 231 14 = S.1 231 14 := (gL7_ 14 rfl).trans (uF_ne (fun h => absurd h.2 (by decide)))
                      refine sBi (sV (As := [.int (iv (ps + w))]) (rest := []) (k := 231) Cx (x_X12_at l G S7 (a := ps + w) hI7 (by omega) (by omega)) (c_X12_292 Cx rfl rfl (rmk_ok (by omega) (by decide))) hW (by decide) rfl rfl rfl hl.1 rfl (Nat.le_of_ble_eq_true rfl) dX12_tokenizeProof_152 ⟨Nat.le_of_ble_eq_true rfl, Nat.le_of_ble_eq_true rfl⟩) hL (fun r_160 u_158 H locs k_159 hW hL => ?_)
                      obtain ⟨eu_158, xu_158⟩ := k_159
                      rw [eu_158] at hW
                      have atu_158 : r_160 = cb (S.2.1 243) (S.1 231 14) (ps + w) := (by have q := xu_158.1; first | exact q | (rw [eB, z14] at q; exact q))
                      refine sBi (sSt (As := [.int (iv r_160)]) (rest := []) Cx (x_X12_isDigit l G S7 (ch := r_160) (by omega)) (c_X12_299 Cx rfl rfl (rmk_ok (by omega) (by decide))) hW rfl hl.1 rfl (Nat.le_of_ble_eq_true rfl) dX12_tokenizeProof_155 ⟨Nat.le_of_ble_eq_true rfl, Nat.le_of_ble_eq_true rfl⟩) hL (fun r_163 u_161 H locs k_162 hW hL => ?_)
                      obtain ⟨eu_161, xu_161⟩ := k_162
                      rw [eu_161] at hW
                      refine r_if_eq (tgt := 191) hx hb ⟨(by omega), (by omega)⟩ dX12_tokenizeProof_158 (by decide) (fun c_164 => ?_) (fun c_164 => ?_)
                      · have hend : Hd (en (S.1 231 14) (stD (S.2.1 243) (S.1 231 14)) (ps + 1) = ps + w) := (show _ = _ from (show _ = _ from hen).trans (en_no (fun z => (show _ → _ from xu_161.2.2) (by omega) (by rw [atu_158]; exact z))))
                        have hnt : Hd _ := num_tok (zf := zf) hng hnl hend (by omega) (by omega) hzx hdg
                        have hqe := hnt.1
                        have join_224 : ∀ (ok : Int) (H : Heap) (locs : List Loc) (ls : Array Slot), ((0 ≤ ok ∧ ok ≤ 1) ∧ (ok = 1 → (1 + 1 ≤ w ∧ w ≤ 1 + 60 ∧ zf = 0)) ∧ ((1 + 1 ≤ w ∧ w ≤ 1 + 60 ∧ zf = 0) → ok = 1)) → sW G 294 S7 H → sL G locs → lv_has ls 7 [(6, .int (iv zf)), (3, .int (iv w)), (5, .int (iv 1)), (4, .int (iv ok)), (2, .int (iv (S.2.1 243 ps))), (1, .int (iv ps)), (0, .ref (G.2.2.1 + 231))] → W p l e (rmk 6 0 0) s m args below meth c H locs 0 0 (MQ below (sQv G 294 (fun u => dX G u ∧ Fr S u (pl [231, 244, 245, 246, 247]) ∧ FF S u (fl [19]) ∧ (Hd (TPS (S.2.1 243) (S.1 231 14) u) ∧ (1 ≤ u.1 231 19 ∧ u.1 231 19 ≤ 30001)))) args s 0 0 (sF G)) (F0 m 224 ls []) := by
                          intro ok H locs ls hok hW hL hl
                          refine lv_aload_n hx hb dX12_tokenizeProof_224 rfl (lv_at hl 6 rfl) ?_
                          refine lv_iload hx hb dX12_tokenizeProof_225 (lv_at hl 3 rfl) ?_
                          refine r_if_eq (tgt := 234) hx hb ⟨(by omega), (by omega)⟩ dX12_tokenizeProof_227 (by decide) (fun c_165 => ?_) (fun c_165 => ?_)
                          · refine lv_bipush (v := iv 6) hx hb dX12_tokenizeProof_234 (by decide) ?_
                            refine lv_iload_n hx hb dX12_tokenizeProof_236 rfl (lv_at hl 5 rfl) ?_
                            refine lv_iload_n hx hb dX12_tokenizeProof_237 rfl (lv_at hl 1 rfl) ?_
                            refine lv_iload hx hb dX12_tokenizeProof_238 (lv_at hl 0 rfl) ?_
                            refine r_if_eq (tgt := 247) hx hb ⟨(by omega), (by omega)⟩ dX12_tokenizeProof_240 (by decide) (fun c_166 => ?_) (fun c_166 => ?_)
                            · refine lv_iload hx hb dX12_tokenizeProof_247 (lv_at hl 2 rfl) ?_
                              refine lv_iconst (v := iv 1) hx hb dX12_tokenizeProof_249 (by decide) ?_
                              refine r_icmp_ne (tgt := 257) hx hb ⟨(by omega), (by omega)⟩ ⟨(by omega), (by omega)⟩ dX12_tokenizeProof_250 (by decide) (fun c => absurd (by omega) c) (fun _ => ?_)
                              refine lv_iconst (v := iv (-1)) hx hb dX12_tokenizeProof_253 (by decide) ?_
                              refine lv_goto (tgt := 258) hx hb dX12_tokenizeProof_254 (by decide) ?_
                              have q_167 : (-2147483648) ≤ S7.1 231 19 ∧ S7.1 231 19 ≤ 2147483647 := hI7.fi 19
                              refine sBv (sV (As := [.int (iv 6), .int (iv ps), .int (iv w), .int (iv ((-1)))]) (rest := []) (k := 231) Cx (s_X12_token l G S7 (k := 6) (f := ps) (wd := w) (v := (-1)) hI7 (by omega) (by omega) (by omega) (by omega) (by omega)) (c_X12_308 Cx rfl rfl (rmk_ok (by omega) (by decide))) hW (by decide) rfl rfl rfl hl.1 rfl (Nat.le_of_ble_eq_true rfl) dX12_tokenizeProof_258 ⟨Nat.le_of_ble_eq_true rfl, Nat.le_of_ble_eq_true rfl⟩) hL (fun u_168 H locs k_169 hW hL => ?_)
                              obtain ⟨iu_168, fu_168, gu_168, xu_168⟩ := k_169
                              have F_170 := hFm7.trans fu_168
                              have F_171 := hL7_.trans fu_168
                              have F_172 := (Fr.rf : Fr S7 S7 (pl [231, 244, 245, 246, 247])).trans fu_168
                              have g_173 : FF S u_168 (fl [19]) := FF.trans hGm7 (FF.to gu_168 (fl_sub (by decide)))
                              have g_174 : FF ((uF S 231 19 0)) u_168 (fl [19]) := FF.trans gL7_ (FF.to gu_168 (fl_sub (by decide)))
                              have g_175 : FF S7 u_168 (fl [19]) := FF.trans (FF.rf : FF S7 S7 (fl [19])) (FF.to gu_168 (fl_sub (by decide)))
                              refine lv_goto (tgt := 309) hx hb dX12_tokenizeProof_261 (by decide) ?_
                              have q_176 : (-2147483648) ≤ u_168.1 231 19 ∧ u_168.1 231 19 ≤ 2147483647 := iu_168.fi 19
                              exact join_309 u_168 ok w _ _ _ iu_168 F_170 F_171 F_172 g_173 g_174 g_175 (by omega) (by omega) (by rw [xu_168.2.1, if_pos rfl]; omega) (by have y := hnt.2.2 (by omega); exact ⟨6, (-1), 1, xu_168.1, xu_168.2, y, .inr (.inr (.inr (.inr ⟨rfl, .inl rfl⟩))), hnt.1.symm, (fun z => absurd z (by decide))⟩) hW hL (lv_sub hl [3, 1, 4, 5, 6] rfl)
                            · refine lv_iconst (v := iv 0) hx hb dX12_tokenizeProof_243 (by decide) ?_
                              refine lv_goto (tgt := 258) hx hb dX12_tokenizeProof_244 (by decide) ?_
                              have q_177 : (-2147483648) ≤ S7.1 231 19 ∧ S7.1 231 19 ≤ 2147483647 := hI7.fi 19
                              refine sBv (sV (As := [.int (iv 6), .int (iv ps), .int (iv w), .int (iv 0)]) (rest := []) (k := 231) Cx (s_X12_token l G S7 (k := 6) (f := ps) (wd := w) (v := 0) hI7 (by omega) (by omega) (by omega) (by omega) (by omega)) (c_X12_308 Cx rfl rfl (rmk_ok (by omega) (by decide))) hW (by decide) rfl rfl rfl hl.1 rfl (Nat.le_of_ble_eq_true rfl) dX12_tokenizeProof_258 ⟨Nat.le_of_ble_eq_true rfl, Nat.le_of_ble_eq_true rfl⟩) hL (fun u_178 H locs k_179 hW hL => ?_)
                              obtain ⟨iu_178, fu_178, gu_178, xu_178⟩ := k_179
                              have F_180 := hFm7.trans fu_178
                              have F_181 := hL7_.trans fu_178
                              have F_182 := (Fr.rf : Fr S7 S7 (pl [231, 244, 245, 246, 247])).trans fu_178
                              have g_183 : FF S u_178 (fl [19]) := FF.trans hGm7 (FF.to gu_178 (fl_sub (by decide)))
                              have g_184 : FF ((uF S 231 19 0)) u_178 (fl [19]) := FF.trans gL7_ (FF.to gu_178 (fl_sub (by decide)))
                              have g_185 : FF S7 u_178 (fl [19]) := FF.trans (FF.rf : FF S7 S7 (fl [19])) (FF.to gu_178 (fl_sub (by decide)))
                              refine lv_goto (tgt := 309) hx hb dX12_tokenizeProof_261 (by decide) ?_
                              have q_186 : (-2147483648) ≤ u_178.1 231 19 ∧ u_178.1 231 19 ≤ 2147483647 := iu_178.fi 19
                              exact join_309 u_178 ok w _ _ _ iu_178 F_180 F_181 F_182 g_183 g_184 g_185 (by omega) (by omega) (by rw [xu_178.2.1, if_pos rfl]; omega) (by have y := hnt.2.2 (by omega); exact ⟨6, 0, 1, xu_178.1, xu_178.2, y, .inr (.inr (.inr (.inr ⟨rfl, .inl rfl⟩))), hnt.1.symm, (fun z => absurd z (by decide))⟩) hW hL (lv_sub hl [3, 1, 4, 5, 6] rfl)
                          · refine lv_iconst (v := iv 2) hx hb dX12_tokenizeProof_230 (by decide) ?_
                            refine lv_goto (tgt := 236) hx hb dX12_tokenizeProof_231 (by decide) ?_
                            refine lv_iload_n hx hb dX12_tokenizeProof_236 rfl (lv_at hl 5 rfl) ?_
                            refine lv_iload_n hx hb dX12_tokenizeProof_237 rfl (lv_at hl 1 rfl) ?_
                            refine lv_iload hx hb dX12_tokenizeProof_238 (lv_at hl 0 rfl) ?_
                            refine r_if_eq (tgt := 247) hx hb ⟨(by omega), (by omega)⟩ dX12_tokenizeProof_240 (by decide) (fun c_187 => ?_) (fun c_187 => ?_)
                            · refine lv_iload hx hb dX12_tokenizeProof_247 (lv_at hl 2 rfl) ?_
                              refine lv_iconst (v := iv 1) hx hb dX12_tokenizeProof_249 (by decide) ?_
                              refine r_icmp_ne (tgt := 257) hx hb ⟨(by omega), (by omega)⟩ ⟨(by omega), (by omega)⟩ dX12_tokenizeProof_250 (by decide) (fun c => absurd (by omega) c) (fun _ => ?_)
                              refine lv_iconst (v := iv (-1)) hx hb dX12_tokenizeProof_253 (by decide) ?_
                              refine lv_goto (tgt := 258) hx hb dX12_tokenizeProof_254 (by decide) ?_
                              have q_188 : (-2147483648) ≤ S7.1 231 19 ∧ S7.1 231 19 ≤ 2147483647 := hI7.fi 19
                              refine sBv (sV (As := [.int (iv 2), .int (iv ps), .int (iv w), .int (iv ((-1)))]) (rest := []) (k := 231) Cx (s_X12_token l G S7 (k := 2) (f := ps) (wd := w) (v := (-1)) hI7 (by omega) (by omega) (by omega) (by omega) (by omega)) (c_X12_308 Cx rfl rfl (rmk_ok (by omega) (by decide))) hW (by decide) rfl rfl rfl hl.1 rfl (Nat.le_of_ble_eq_true rfl) dX12_tokenizeProof_258 ⟨Nat.le_of_ble_eq_true rfl, Nat.le_of_ble_eq_true rfl⟩) hL (fun u_189 H locs k_190 hW hL => ?_)
                              obtain ⟨iu_189, fu_189, gu_189, xu_189⟩ := k_190
                              have F_191 := hFm7.trans fu_189
                              have F_192 := hL7_.trans fu_189
                              have F_193 := (Fr.rf : Fr S7 S7 (pl [231, 244, 245, 246, 247])).trans fu_189
                              have g_194 : FF S u_189 (fl [19]) := FF.trans hGm7 (FF.to gu_189 (fl_sub (by decide)))
                              have g_195 : FF ((uF S 231 19 0)) u_189 (fl [19]) := FF.trans gL7_ (FF.to gu_189 (fl_sub (by decide)))
                              have g_196 : FF S7 u_189 (fl [19]) := FF.trans (FF.rf : FF S7 S7 (fl [19])) (FF.to gu_189 (fl_sub (by decide)))
                              refine lv_goto (tgt := 309) hx hb dX12_tokenizeProof_261 (by decide) ?_
                              have q_197 : (-2147483648) ≤ u_189.1 231 19 ∧ u_189.1 231 19 ≤ 2147483647 := iu_189.fi 19
                              exact join_309 u_189 ok w _ _ _ iu_189 F_191 F_192 F_193 g_194 g_195 g_196 (by omega) (by omega) (by rw [xu_189.2.1, if_pos rfl]; omega) (by have y := hnt.2.1 ⟨by omega, by omega, fun z => by omega⟩; exact ⟨2, (-1), 2, xu_189.1, xu_189.2, y.1, .inr (.inl ⟨rfl, rfl⟩), hnt.1.symm, fun _ => .inr (.inr ⟨rfl, y.2.2.1 (by omega) rfl⟩)⟩) hW hL (lv_sub hl [3, 1, 4, 5, 6] rfl)
                            · refine lv_iconst (v := iv 0) hx hb dX12_tokenizeProof_243 (by decide) ?_
                              refine lv_goto (tgt := 258) hx hb dX12_tokenizeProof_244 (by decide) ?_
                              have q_198 : (-2147483648) ≤ S7.1 231 19 ∧ S7.1 231 19 ≤ 2147483647 := hI7.fi 19
                              refine sBv (sV (As := [.int (iv 2), .int (iv ps), .int (iv w), .int (iv 0)]) (rest := []) (k := 231) Cx (s_X12_token l G S7 (k := 2) (f := ps) (wd := w) (v := 0) hI7 (by omega) (by omega) (by omega) (by omega) (by omega)) (c_X12_308 Cx rfl rfl (rmk_ok (by omega) (by decide))) hW (by decide) rfl rfl rfl hl.1 rfl (Nat.le_of_ble_eq_true rfl) dX12_tokenizeProof_258 ⟨Nat.le_of_ble_eq_true rfl, Nat.le_of_ble_eq_true rfl⟩) hL (fun u_199 H locs k_200 hW hL => ?_)
                              obtain ⟨iu_199, fu_199, gu_199, xu_199⟩ := k_200
                              have F_201 := hFm7.trans fu_199
                              have F_202 := hL7_.trans fu_199
                              have F_203 := (Fr.rf : Fr S7 S7 (pl [231, 244, 245, 246, 247])).trans fu_199
                              have g_204 : FF S u_199 (fl [19]) := FF.trans hGm7 (FF.to gu_199 (fl_sub (by decide)))
                              have g_205 : FF ((uF S 231 19 0)) u_199 (fl [19]) := FF.trans gL7_ (FF.to gu_199 (fl_sub (by decide)))
                              have g_206 : FF S7 u_199 (fl [19]) := FF.trans (FF.rf : FF S7 S7 (fl [19])) (FF.to gu_199 (fl_sub (by decide)))
                              refine lv_goto (tgt := 309) hx hb dX12_tokenizeProof_261 (by decide) ?_
                              have q_207 : (-2147483648) ≤ u_199.1 231 19 ∧ u_199.1 231 19 ≤ 2147483647 := iu_199.fi 19
                              exact join_309 u_199 ok w _ _ _ iu_199 F_201 F_202 F_203 g_204 g_205 g_206 (by omega) (by omega) (by rw [xu_199.2.1, if_pos rfl]; omega) (by have y := hnt.2.1 ⟨by omega, by omega, fun z => by omega⟩; exact ⟨2, 0, 2, xu_199.1, xu_199.2, y.1, .inr (.inl ⟨rfl, rfl⟩), hnt.1.symm, fun _ => .inl ⟨rfl, y.2.1 (by omega)⟩⟩) hW hL (lv_sub hl [3, 1, 4, 5, 6] rfl)
                        refine lv_iload_n hx hb dX12_tokenizeProof_191 rfl (lv_at hl 1 rfl) ?_
                        refine lv_iload hx hb dX12_tokenizeProof_192 (lv_at hl 2 rfl) ?_
                        refine r_icmp_le (tgt := 221) hx hb ⟨(by omega), (by omega)⟩ ⟨(by omega), (by omega)⟩ dX12_tokenizeProof_194 (by decide) (fun c_208 => ?_) (fun c_208 => ?_)
                        · refine lv_iconst (v := iv 0) hx hb dX12_tokenizeProof_221 (by decide) ?_
                          refine lv_istore (lv' := [(4, .int (iv 0)), (6, .int (iv zf)), (3, .int (iv w)), (5, .int (iv 1)), (2, .int (iv (S.2.1 243 ps))), (1, .int (iv ps)), (0, .ref (G.2.2.1 + 231))]) hx hb dX12_tokenizeProof_222 hl (by decide) rfl (fun ls hl => ?_)
                          exact join_224 0 _ _ _ (by omega) hW hL (lv_sub hl [1, 2, 3, 0, 4, 5, 6] rfl)
                        · refine lv_iload_n hx hb dX12_tokenizeProof_197 rfl (lv_at hl 1 rfl) ?_
                          refine lv_iload hx hb dX12_tokenizeProof_198 (lv_at hl 2 rfl) ?_
                          refine r_isub hx hb dX12_tokenizeProof_200 ?_
                          refine lv_bipush (v := iv 60) hx hb dX12_tokenizeProof_201 (by decide) ?_
                          refine r_icmp_gt (tgt := 221) hx hb ⟨(by omega), (by omega)⟩ ⟨(by omega), (by omega)⟩ dX12_tokenizeProof_203 (by decide) (fun c_209 => ?_) (fun c_209 => ?_)
                          · refine lv_iconst (v := iv 0) hx hb dX12_tokenizeProof_221 (by decide) ?_
                            refine lv_istore (lv' := [(4, .int (iv 0)), (6, .int (iv zf)), (3, .int (iv w)), (5, .int (iv 1)), (2, .int (iv (S.2.1 243 ps))), (1, .int (iv ps)), (0, .ref (G.2.2.1 + 231))]) hx hb dX12_tokenizeProof_222 hl (by decide) rfl (fun ls hl => ?_)
                            exact join_224 0 _ _ _ (by omega) hW hL (lv_sub hl [1, 2, 3, 0, 4, 5, 6] rfl)
                          · refine lv_iload hx hb dX12_tokenizeProof_206 (lv_at hl 0 rfl) ?_
                            refine r_if_eq (tgt := 217) hx hb ⟨(by omega), (by omega)⟩ dX12_tokenizeProof_208 (by decide) (fun c_210 => ?_) (fun c_210 => ?_)
                            · refine lv_iconst (v := iv 1) hx hb dX12_tokenizeProof_217 (by decide) ?_
                              refine lv_goto (tgt := 222) hx hb dX12_tokenizeProof_218 (by decide) ?_
                              refine lv_istore (lv' := [(4, .int (iv 1)), (6, .int (iv zf)), (3, .int (iv w)), (5, .int (iv 1)), (2, .int (iv (S.2.1 243 ps))), (1, .int (iv ps)), (0, .ref (G.2.2.1 + 231))]) hx hb dX12_tokenizeProof_222 hl (by decide) rfl (fun ls hl => ?_)
                              exact join_224 1 _ _ _ (by omega) hW hL (lv_sub hl [1, 2, 3, 0, 4, 5, 6] rfl)
                            · refine lv_iload hx hb dX12_tokenizeProof_211 (lv_at hl 2 rfl) ?_
                              refine lv_iconst (v := iv 1) hx hb dX12_tokenizeProof_213 (by decide) ?_
                              refine r_icmp_eq (tgt := 221) hx hb ⟨(by omega), (by omega)⟩ ⟨(by omega), (by omega)⟩ dX12_tokenizeProof_214 (by decide) (fun _ => ?_) (fun c => absurd (by omega) c)
                              refine lv_iconst (v := iv 0) hx hb dX12_tokenizeProof_221 (by decide) ?_
                              refine lv_istore (lv' := [(4, .int (iv 0)), (6, .int (iv zf)), (3, .int (iv w)), (5, .int (iv 1)), (2, .int (iv (S.2.1 243 ps))), (1, .int (iv ps)), (0, .ref (G.2.2.1 + 231))]) hx hb dX12_tokenizeProof_222 hl (by decide) rfl (fun ls hl => ?_)
                              exact join_224 0 _ _ _ (by omega) hW hL (lv_sub hl [1, 2, 3, 0, 4, 5, 6] rfl)
                      · refine lv_iload hx hb dX12_tokenizeProof_161 (lv_at hl 0 rfl) ?_
                        refine r_if_eq (tgt := 182) hx hb ⟨(by omega), (by omega)⟩ dX12_tokenizeProof_163 (by decide) (fun c_211 => ?_) (fun c_211 => ?_)
                        · refine lv_iconst (v := iv 0) hx hb dX12_tokenizeProof_182 (by decide) ?_
                          refine lv_istore (lv' := [(6, .int (iv 0)), (3, .int (iv w)), (5, .int (iv 1)), (4, .int (iv 0)), (2, .int (iv (S.2.1 243 ps))), (1, .int (iv ps)), (0, .ref (G.2.2.1 + 231))]) hx hb dX12_tokenizeProof_183 hl (by decide) rfl (fun ls hl => ?_)
                          refine lv_iinc (v := iv (w + 1)) (lv' := [(3, .int (iv (w + 1))), (6, .int (iv 0)), (5, .int (iv 1)), (4, .int (iv 0)), (2, .int (iv (S.2.1 243 ps))), (1, .int (iv ps)), (0, .ref (G.2.2.1 + 231))]) hx hb dX12_tokenizeProof_185 hl (k := 1) rfl ((Int32.ofInt_add _ _).symm) (by decide) rfl (fun ls hl => ?_)
                          refine lv_goto (tgt := 148) hx hb dX12_tokenizeProof_188 (by decide) ?_
                          exact ih_148 0 (w + 1) _ _ _ (by have q := stD_lt (show isDg (cb (S.2.1 243) (S.1 231 14) (ps + w)) by rw [← atu_158]; exact (show _ → _ from xu_161.2.1) (by omega) : stD (S.2.1 243) (S.1 231 14) (ps + w)); omega) (by have q := stD_lt (show isDg (cb (S.2.1 243) (S.1 231 14) (ps + w)) by rw [← atu_158]; exact (show _ → _ from xu_161.2.1) (by omega) : stD (S.2.1 243) (S.1 231 14) (ps + w)); omega) (show _ = _ from (show _ = _ from hen).trans ((en_st (fun _ => stD_lt (show isDg (cb (S.2.1 243) (S.1 231 14) (ps + w)) by rw [← atu_158]; exact (show _ → _ from xu_161.2.1) (by omega) : stD (S.2.1 243) (S.1 231 14) (ps + w))) (show isDg (cb (S.2.1 243) (S.1 231 14) (ps + w)) by rw [← atu_158]; exact (show _ → _ from xu_161.2.1) (by omega) : stD (S.2.1 243) (S.1 231 14) (ps + w))).trans (by rw [show ps + w + 1 = ps + (w + 1) by omega]))) (fun x a b => if e9 : x = ps + w then (by rw [e9]; have q := (show isDg (cb (S.2.1 243) (S.1 231 14) (ps + w)) by rw [← atu_158]; exact (show _ → _ from xu_161.2.1) (by omega) : stD (S.2.1 243) (S.1 231 14) (ps + w)); have q2 := stD_lt q; unfold stD isDg at q; rw [cb_in (by omega) (by omega)] at q; exact q) else hdg x a (by omega)) (by omega) (show _ ↔ _ from ⟨fun z => absurd z (by decide), fun z => by exfalso; have y := (show _ ↔ _ from hzx).mpr (fun x a b => z x a (by omega)); omega⟩) hW hL (lv_sub hl [1, 0, 2, 3, 4, 5, 6] rfl)
                        · refine lv_aload_n hx hb dX12_tokenizeProof_166 rfl (lv_at hl 6 rfl) ?_
                          refine lv_iload_n hx hb dX12_tokenizeProof_167 rfl (lv_at hl 5 rfl) ?_
                          refine lv_iload_n hx hb dX12_tokenizeProof_168 rfl (lv_at hl 1 rfl) ?_
                          refine r_iadd hx hb dX12_tokenizeProof_169 ?_
                          refine sBi (sV (As := [.int (iv (ps + w))]) (rest := []) (k := 231) Cx (x_X12_at l G S7 (a := ps + w) hI7 (by omega) (by omega)) (c_X12_292 Cx rfl rfl (rmk_ok (by omega) (by decide))) hW (by decide) rfl rfl rfl hl.1 rfl (Nat.le_of_ble_eq_true rfl) dX12_tokenizeProof_170 ⟨Nat.le_of_ble_eq_true rfl, Nat.le_of_ble_eq_true rfl⟩) hL (fun r_214 u_212 H locs k_213 hW hL => ?_)
                          obtain ⟨eu_212, xu_212⟩ := k_213
                          rw [eu_212] at hW
                          have atu_212 : r_214 = cb (S.2.1 243) (S.1 231 14) (ps + w) := (by have q := xu_212.1; first | exact q | (rw [eB, z14] at q; exact q))
                          refine lv_bipush (v := iv 48) hx hb dX12_tokenizeProof_173 (by decide) ?_
                          refine r_icmp_ne (tgt := 182) hx hb ⟨(by omega), (by omega)⟩ ⟨(by omega), (by omega)⟩ dX12_tokenizeProof_175 (by decide) (fun c_215 => ?_) (fun c_215 => ?_)
                          · refine lv_iconst (v := iv 0) hx hb dX12_tokenizeProof_182 (by decide) ?_
                            refine lv_istore (lv' := [(6, .int (iv 0)), (3, .int (iv w)), (5, .int (iv 1)), (4, .int (iv 0)), (2, .int (iv (S.2.1 243 ps))), (1, .int (iv ps)), (0, .ref (G.2.2.1 + 231))]) hx hb dX12_tokenizeProof_183 hl (by decide) rfl (fun ls hl => ?_)
                            refine lv_iinc (v := iv (w + 1)) (lv' := [(3, .int (iv (w + 1))), (6, .int (iv 0)), (5, .int (iv 1)), (4, .int (iv 0)), (2, .int (iv (S.2.1 243 ps))), (1, .int (iv ps)), (0, .ref (G.2.2.1 + 231))]) hx hb dX12_tokenizeProof_185 hl (k := 1) rfl ((Int32.ofInt_add _ _).symm) (by decide) rfl (fun ls hl => ?_)
                            refine lv_goto (tgt := 148) hx hb dX12_tokenizeProof_188 (by decide) ?_
                            exact ih_148 0 (w + 1) _ _ _ (by have q := stD_lt (show isDg (cb (S.2.1 243) (S.1 231 14) (ps + w)) by rw [← atu_158]; exact (show _ → _ from xu_161.2.1) (by omega) : stD (S.2.1 243) (S.1 231 14) (ps + w)); omega) (by have q := stD_lt (show isDg (cb (S.2.1 243) (S.1 231 14) (ps + w)) by rw [← atu_158]; exact (show _ → _ from xu_161.2.1) (by omega) : stD (S.2.1 243) (S.1 231 14) (ps + w)); omega) (show _ = _ from (show _ = _ from hen).trans ((en_st (fun _ => stD_lt (show isDg (cb (S.2.1 243) (S.1 231 14) (ps + w)) by rw [← atu_158]; exact (show _ → _ from xu_161.2.1) (by omega) : stD (S.2.1 243) (S.1 231 14) (ps + w))) (show isDg (cb (S.2.1 243) (S.1 231 14) (ps + w)) by rw [← atu_158]; exact (show _ → _ from xu_161.2.1) (by omega) : stD (S.2.1 243) (S.1 231 14) (ps + w))).trans (by rw [show ps + w + 1 = ps + (w + 1) by omega]))) (fun x a b => if e9 : x = ps + w then (by rw [e9]; have q := (show isDg (cb (S.2.1 243) (S.1 231 14) (ps + w)) by rw [← atu_158]; exact (show _ → _ from xu_161.2.1) (by omega) : stD (S.2.1 243) (S.1 231 14) (ps + w)); have q2 := stD_lt q; unfold stD isDg at q; rw [cb_in (by omega) (by omega)] at q; exact q) else hdg x a (by omega)) (by omega) (show _ ↔ _ by have q2 := stD_lt (show isDg (cb (S.2.1 243) (S.1 231 14) (ps + w)) by rw [← atu_158]; exact (show _ → _ from xu_161.2.1) (by omega) : stD (S.2.1 243) (S.1 231 14) (ps + w)); exact ⟨fun z => absurd z (by decide), fun z => by exfalso; have y := z (ps + w) (by omega) (by omega); have q := atu_212; rw [cb_in (by omega) (by omega)] at q; omega⟩) hW hL (lv_sub hl [1, 0, 2, 3, 4, 5, 6] rfl)
                          · refine lv_iconst (v := iv 1) hx hb dX12_tokenizeProof_178 (by decide) ?_
                            refine lv_goto (tgt := 183) hx hb dX12_tokenizeProof_179 (by decide) ?_
                            refine lv_istore (lv' := [(6, .int (iv 1)), (3, .int (iv w)), (5, .int (iv 1)), (4, .int (iv 0)), (2, .int (iv (S.2.1 243 ps))), (1, .int (iv ps)), (0, .ref (G.2.2.1 + 231))]) hx hb dX12_tokenizeProof_183 hl (by decide) rfl (fun ls hl => ?_)
                            refine lv_iinc (v := iv (w + 1)) (lv' := [(3, .int (iv (w + 1))), (6, .int (iv 1)), (5, .int (iv 1)), (4, .int (iv 0)), (2, .int (iv (S.2.1 243 ps))), (1, .int (iv ps)), (0, .ref (G.2.2.1 + 231))]) hx hb dX12_tokenizeProof_185 hl (k := 1) rfl ((Int32.ofInt_add _ _).symm) (by decide) rfl (fun ls hl => ?_)
                            refine lv_goto (tgt := 148) hx hb dX12_tokenizeProof_188 (by decide) ?_
                            exact ih_148 1 (w + 1) _ _ _ (by have q := stD_lt (show isDg (cb (S.2.1 243) (S.1 231 14) (ps + w)) by rw [← atu_158]; exact (show _ → _ from xu_161.2.1) (by omega) : stD (S.2.1 243) (S.1 231 14) (ps + w)); omega) (by have q := stD_lt (show isDg (cb (S.2.1 243) (S.1 231 14) (ps + w)) by rw [← atu_158]; exact (show _ → _ from xu_161.2.1) (by omega) : stD (S.2.1 243) (S.1 231 14) (ps + w)); omega) (show _ = _ from (show _ = _ from hen).trans ((en_st (fun _ => stD_lt (show isDg (cb (S.2.1 243) (S.1 231 14) (ps + w)) by rw [← atu_158]; exact (show _ → _ from xu_161.2.1) (by omega) : stD (S.2.1 243) (S.1 231 14) (ps + w))) (show isDg (cb (S.2.1 243) (S.1 231 14) (ps + w)) by rw [← atu_158]; exact (show _ → _ from xu_161.2.1) (by omega) : stD (S.2.1 243) (S.1 231 14) (ps + w))).trans (by rw [show ps + w + 1 = ps + (w + 1) by omega]))) (fun x a b => if e9 : x = ps + w then (by rw [e9]; have q := (show isDg (cb (S.2.1 243) (S.1 231 14) (ps + w)) by rw [← atu_158]; exact (show _ → _ from xu_161.2.1) (by omega) : stD (S.2.1 243) (S.1 231 14) (ps + w)); have q2 := stD_lt q; unfold stD isDg at q; rw [cb_in (by omega) (by omega)] at q; exact q) else hdg x a (by omega)) (by omega) (show _ ↔ _ by have q2 := stD_lt (show isDg (cb (S.2.1 243) (S.1 231 14) (ps + w)) by rw [← atu_158]; exact (show _ → _ from xu_161.2.1) (by omega) : stD (S.2.1 243) (S.1 231 14) (ps + w)); exact ⟨fun _ x a b => by by_cases z : x = ps + w; (rw [z]; have q := atu_212; rw [cb_in (by omega) (by omega)] at q; omega); exact (show _ ↔ _ from hzx).mp (by omega) x a (by omega), fun _ => rfl⟩) hW hL (lv_sub hl [1, 0, 2, 3, 4, 5, 6] rfl)
                  exact loop_148 (_ + 1) 1 1 _ _ _ (Nat.lt_succ_self _) (by omega) (show _ = _ from rfl) (fun x a b => absurd b (by omega)) (by omega) (show _ ↔ _ from ⟨fun _ x a b => absurd b (by omega), fun _ => rfl⟩) hW hL (lv_sub hl [0, 1, 2, 3, 4, 5, 6] rfl)
            · have loop_52 : ∀ (fuel : Nat) (w : Int) (H : Heap) (locs : List Loc) (ls : Array Slot), (S.1 231 14 - ps - w).toNat < fuel → (0 ≤ w ∧ ps + w ≤ S.1 231 14) → (en (S.1 231 14) (stL (S.2.1 243) (S.1 231 14)) ps = en (S.1 231 14) (stL (S.2.1 243) (S.1 231 14)) (ps + w)) → (Hd (∀ j, 0 ≤ j → j < w → 48 ≤ (S.2.1 243) (ps + j) ∧ (S.2.1 243) (ps + j) ≤ 122)) → sW G 294 S7 H → sL G locs → lv_has ls 7 [(4, .int (iv 0)), (3, .int (iv w)), (2, .int (iv (S.2.1 243 ps))), (1, .int (iv ps)), (0, .ref (G.2.2.1 + 231))] → W p l e (rmk 6 0 0) s m args below meth c H locs 0 0 (MQ below (sQv G 294 (fun u => dX G u ∧ Fr S u (pl [231, 244, 245, 246, 247]) ∧ FF S u (fl [19]) ∧ (Hd (TPS (S.2.1 243) (S.1 231 14) u) ∧ (1 ≤ u.1 231 19 ∧ u.1 231 19 ≤ 30001)))) args s 0 0 (sF G)) (F0 m 52 ls []) := by
                intro fuel
                induction fuel with
                | zero => intro w H locs ls hmeas hw hen hpw hW hL hl; exact absurd hmeas (Nat.not_lt_zero _)
                | succ fuel ih_52 =>
                  intro w H locs ls hmeas hw hen hpw hW hL hl
                  have hlt : isLt (cb (S.2.1 243) (S.1 231 14) ps) := (by rw [hcv]; exact (show _ → _ from xu_46.2.1) (by omega))
                  refine lv_aload_n hx hb dX12_tokenizeProof_52 rfl (lv_at hl 4 rfl) ?_
                  refine lv_iload_n hx hb dX12_tokenizeProof_53 rfl (lv_at hl 3 rfl) ?_
                  refine lv_iload_n hx hb dX12_tokenizeProof_54 rfl (lv_at hl 1 rfl) ?_
                  refine r_iadd hx hb dX12_tokenizeProof_55 ?_
                  have lk_216 : S7.1 231 14 = S.1 231 14 := (gL7_ 14 rfl).trans (uF_ne (fun h => absurd h.2 (by decide)))
                  refine sBi (sV (As := [.int (iv (ps + w))]) (rest := []) (k := 231) Cx (x_X12_at l G S7 (a := ps + w) hI7 (by omega) (by omega)) (c_X12_292 Cx rfl rfl (rmk_ok (by omega) (by decide))) hW (by decide) rfl rfl rfl hl.1 rfl (Nat.le_of_ble_eq_true rfl) dX12_tokenizeProof_56 ⟨Nat.le_of_ble_eq_true rfl, Nat.le_of_ble_eq_true rfl⟩) hL (fun r_219 u_217 H locs k_218 hW hL => ?_)
                  obtain ⟨eu_217, xu_217⟩ := k_218
                  rw [eu_217] at hW
                  have atu_217 : r_219 = cb (S.2.1 243) (S.1 231 14) (ps + w) := (by have q := xu_217.1; first | exact q | (rw [eB, z14] at q; exact q))
                  refine sBi (sSt (As := [.int (iv r_219)]) (rest := []) Cx (x_X12_isLetter l G S7 (ch := r_219) (by omega)) (c_X12_295 Cx rfl rfl (rmk_ok (by omega) (by decide))) hW rfl hl.1 rfl (Nat.le_of_ble_eq_true rfl) dX12_tokenizeProof_59 ⟨Nat.le_of_ble_eq_true rfl, Nat.le_of_ble_eq_true rfl⟩) hL (fun r_222 u_220 H locs k_221 hW hL => ?_)
                  obtain ⟨eu_220, xu_220⟩ := k_221
                  rw [eu_220] at hW
                  refine r_if_eq (tgt := 71) hx hb ⟨(by omega), (by omega)⟩ dX12_tokenizeProof_62 (by decide) (fun c_223 => ?_) (fun c_223 => ?_)
                  · have hend : en (S.1 231 14) (stL (S.2.1 243) (S.1 231 14)) ps = ps + w := hen.trans (en_no (fun z => (show _ → _ from xu_220.2.2) (by omega) (by rw [atu_217]; exact z)))
                    have hwp : 1 ≤ w := (by by_cases z : w = 0; (exfalso; have q := hend; rw [en_st (fun _ => stL_lt (B := (S.2.1 243)) (n := (S.1 231 14)) (p := ps) hlt) (show stL (S.2.1 243) (S.1 231 14) ps from hlt)] at q; have q2 := (en_r (n := (S.1 231 14)) (st := stL (S.2.1 243) (S.1 231 14)) (ps + 1) (by omega)).1; omega); omega)
                    refine lv_aload_n hx hb dX12_tokenizeProof_71 rfl (lv_at hl 4 rfl) ?_
                    refine zLdcw Cx 37 (by decide) ⟨rfl, rfl⟩ dX12_tokenizeProof_72 ?_
                    refine lv_iload_n hx hb dX12_tokenizeProof_75 rfl (lv_at hl 3 rfl) ?_
                    refine lv_iload_n hx hb dX12_tokenizeProof_76 rfl (lv_at hl 1 rfl) ?_
                    refine sBi (sV (As := [.ref (G.1.2 100 37), .int (iv ps), .int (iv w)]) (rest := []) (k := 231) Cx (x_X12_among l G S7 (si := 37) (a := ps) (b := w) hI7 (by decide) (by omega)) (c_X12_304 Cx rfl rfl (rmk_ok (by omega) (by decide))) hW (by decide) rfl rfl rfl hl.1 rfl (Nat.le_of_ble_eq_true rfl) dX12_tokenizeProof_77 ⟨Nat.le_of_ble_eq_true rfl, Nat.le_of_ble_eq_true rfl⟩) hL (fun r_226 u_224 H locs k_225 hW hL => ?_)
                    obtain ⟨eu_224, xu_224⟩ := k_225
                    rw [eu_224] at hW
                    have hw_ : AMp 37 (S.2.1 243) ps w r_226 := (by have q := xu_224.2; first | exact q | (rw [eB] at q; exact q))
                    have hwk : Hd ((r_226 = -1 ∧ WK (S.2.1 243) ps (ps + w) 6) ∨ (0 ≤ r_226 ∧ r_226 ≤ 8 ∧ WK (S.2.1 243) ps (ps + w) (wcd r_226))) := hw_.pw (by omega) hpw
                    have hr9 : -1 ≤ r_226 ∧ r_226 ≤ 8 := by rcases hwk with z | z <;> omega
                    refine lv_istore (lv' := [(5, .int (iv r_226)), (4, .int (iv 0)), (3, .int (iv w)), (2, .int (iv (S.2.1 243 ps))), (1, .int (iv ps)), (0, .ref (G.2.2.1 + 231))]) hx hb dX12_tokenizeProof_80 hl (by decide) rfl (fun ls hl => ?_)
                    refine lv_iload hx hb dX12_tokenizeProof_82 (lv_at hl 0 rfl) ?_
                    refine r_if_lt (tgt := 91) hx hb ⟨(by omega), (by omega)⟩ dX12_tokenizeProof_84 (by decide) (fun c_227 => ?_) (fun c_227 => ?_)
                    · refine lv_iconst (v := iv 0) hx hb dX12_tokenizeProof_91 (by decide) ?_
                      refine lv_istore (lv' := [(4, .int (iv 0)), (5, .int (iv r_226)), (3, .int (iv w)), (2, .int (iv (S.2.1 243 ps))), (1, .int (iv ps)), (0, .ref (G.2.2.1 + 231))]) hx hb dX12_tokenizeProof_92 hl (by decide) rfl (fun ls hl => ?_)
                      refine lv_aload_n hx hb dX12_tokenizeProof_94 rfl (lv_at hl 5 rfl) ?_
                      refine lv_iload hx hb dX12_tokenizeProof_95 (lv_at hl 0 rfl) ?_
                      refine r_if_eq (tgt := 104) hx hb ⟨(by omega), (by omega)⟩ dX12_tokenizeProof_97 (by decide) (fun _ => ?_) (fun c => absurd (by omega) c)
                      refine lv_bipush (v := iv 6) hx hb dX12_tokenizeProof_104 (by decide) ?_
                      refine lv_iload_n hx hb dX12_tokenizeProof_106 rfl (lv_at hl 4 rfl) ?_
                      refine lv_iload_n hx hb dX12_tokenizeProof_107 rfl (lv_at hl 2 rfl) ?_
                      refine lv_iload hx hb dX12_tokenizeProof_108 (lv_at hl 1 rfl) ?_
                      have q_228 : (-2147483648) ≤ S7.1 231 19 ∧ S7.1 231 19 ≤ 2147483647 := hI7.fi 19
                      refine sBv (sV (As := [.int (iv 6), .int (iv ps), .int (iv w), .int (iv r_226)]) (rest := []) (k := 231) Cx (s_X12_token l G S7 (k := 6) (f := ps) (wd := w) (v := r_226) hI7 (by omega) (by omega) (by omega) (by omega) (by omega)) (c_X12_308 Cx rfl rfl (rmk_ok (by omega) (by decide))) hW (by decide) rfl rfl rfl hl.1 rfl (Nat.le_of_ble_eq_true rfl) dX12_tokenizeProof_110 ⟨Nat.le_of_ble_eq_true rfl, Nat.le_of_ble_eq_true rfl⟩) hL (fun u_229 H locs k_230 hW hL => ?_)
                      obtain ⟨iu_229, fu_229, gu_229, xu_229⟩ := k_230
                      have F_231 := hFm7.trans fu_229
                      have F_232 := hL7_.trans fu_229
                      have F_233 := (Fr.rf : Fr S7 S7 (pl [231, 244, 245, 246, 247])).trans fu_229
                      have g_234 : FF S u_229 (fl [19]) := FF.trans hGm7 (FF.to gu_229 (fl_sub (by decide)))
                      have g_235 : FF ((uF S 231 19 0)) u_229 (fl [19]) := FF.trans gL7_ (FF.to gu_229 (fl_sub (by decide)))
                      have g_236 : FF S7 u_229 (fl [19]) := FF.trans (FF.rf : FF S7 S7 (fl [19])) (FF.to gu_229 (fl_sub (by decide)))
                      refine lv_goto (tgt := 309) hx hb dX12_tokenizeProof_113 (by decide) ?_
                      have q_237 : (-2147483648) ≤ u_229.1 231 19 ∧ u_229.1 231 19 ≤ 2147483647 := iu_229.fi 19
                      exact join_309 u_229 0 w _ _ _ iu_229 F_231 F_232 F_233 g_234 g_235 g_236 (by omega) (by omega) (by rw [xu_229.2.1, if_pos rfl]; omega) (by rcases hwk with z | z; (have y := let_tok (n := (S.1 231 14)) hlt hend z.2; exact ⟨6, r_226, 6, xu_229.1, xu_229.2, y.2, .inr (.inr (.inr (.inr ⟨rfl, .inr rfl⟩))), y.1.symm, (fun z => absurd z (by decide))⟩); (exfalso; omega)) hW hL (lv_sub hl [0, 2, 3, 4, 5] rfl)
                    · refine lv_iconst (v := iv 1) hx hb dX12_tokenizeProof_87 (by decide) ?_
                      refine lv_goto (tgt := 92) hx hb dX12_tokenizeProof_88 (by decide) ?_
                      refine lv_istore (lv' := [(4, .int (iv 1)), (5, .int (iv r_226)), (3, .int (iv w)), (2, .int (iv (S.2.1 243 ps))), (1, .int (iv ps)), (0, .ref (G.2.2.1 + 231))]) hx hb dX12_tokenizeProof_92 hl (by decide) rfl (fun ls hl => ?_)
                      refine lv_aload_n hx hb dX12_tokenizeProof_94 rfl (lv_at hl 5 rfl) ?_
                      refine lv_iload hx hb dX12_tokenizeProof_95 (lv_at hl 0 rfl) ?_
                      refine r_if_eq (tgt := 104) hx hb ⟨(by omega), (by omega)⟩ dX12_tokenizeProof_97 (by decide) (fun c => absurd c (by omega)) (fun _ => ?_)
                      refine lv_iconst (v := iv 3) hx hb dX12_tokenizeProof_100 (by decide) ?_
                      refine lv_goto (tgt := 106) hx hb dX12_tokenizeProof_101 (by decide) ?_
                      refine lv_iload_n hx hb dX12_tokenizeProof_106 rfl (lv_at hl 4 rfl) ?_
                      refine lv_iload_n hx hb dX12_tokenizeProof_107 rfl (lv_at hl 2 rfl) ?_
                      refine lv_iload hx hb dX12_tokenizeProof_108 (lv_at hl 1 rfl) ?_
                      have q_238 : (-2147483648) ≤ S7.1 231 19 ∧ S7.1 231 19 ≤ 2147483647 := hI7.fi 19
                      refine sBv (sV (As := [.int (iv 3), .int (iv ps), .int (iv w), .int (iv r_226)]) (rest := []) (k := 231) Cx (s_X12_token l G S7 (k := 3) (f := ps) (wd := w) (v := r_226) hI7 (by omega) (by omega) (by omega) (by omega) (by omega)) (c_X12_308 Cx rfl rfl (rmk_ok (by omega) (by decide))) hW (by decide) rfl rfl rfl hl.1 rfl (Nat.le_of_ble_eq_true rfl) dX12_tokenizeProof_110 ⟨Nat.le_of_ble_eq_true rfl, Nat.le_of_ble_eq_true rfl⟩) hL (fun u_239 H locs k_240 hW hL => ?_)
                      obtain ⟨iu_239, fu_239, gu_239, xu_239⟩ := k_240
                      have F_241 := hFm7.trans fu_239
                      have F_242 := hL7_.trans fu_239
                      have F_243 := (Fr.rf : Fr S7 S7 (pl [231, 244, 245, 246, 247])).trans fu_239
                      have g_244 : FF S u_239 (fl [19]) := FF.trans hGm7 (FF.to gu_239 (fl_sub (by decide)))
                      have g_245 : FF ((uF S 231 19 0)) u_239 (fl [19]) := FF.trans gL7_ (FF.to gu_239 (fl_sub (by decide)))
                      have g_246 : FF S7 u_239 (fl [19]) := FF.trans (FF.rf : FF S7 S7 (fl [19])) (FF.to gu_239 (fl_sub (by decide)))
                      refine lv_goto (tgt := 309) hx hb dX12_tokenizeProof_113 (by decide) ?_
                      have q_247 : (-2147483648) ≤ u_239.1 231 19 ∧ u_239.1 231 19 ≤ 2147483647 := iu_239.fi 19
                      exact join_309 u_239 1 w _ _ _ iu_239 F_241 F_242 F_243 g_244 g_245 g_246 (by omega) (by omega) (by rw [xu_239.2.1, if_pos rfl]; omega) (by rcases hwk with z | z; (exfalso; omega); (have y := let_tok (n := (S.1 231 14)) hlt hend z.2.2; exact ⟨3, r_226, wcd r_226, xu_239.1, xu_239.2, y.2, krq_w ⟨z.1, z.2.1⟩, y.1.symm, (fun z => absurd z (by decide))⟩)) hW hL (lv_sub hl [0, 2, 3, 4, 5] rfl)
                  · refine lv_iinc (v := iv (w + 1)) (lv' := [(3, .int (iv (w + 1))), (4, .int (iv 0)), (2, .int (iv (S.2.1 243 ps))), (1, .int (iv ps)), (0, .ref (G.2.2.1 + 231))]) hx hb dX12_tokenizeProof_65 hl (k := 1) rfl ((Int32.ofInt_add _ _).symm) (by decide) rfl (fun ls hl => ?_)
                    refine lv_goto (tgt := 52) hx hb dX12_tokenizeProof_68 (by decide) ?_
                    exact ih_52 (w + 1) _ _ _ (by have q := stL_lt (show isLt (cb (S.2.1 243) (S.1 231 14) (ps + w)) by rw [← atu_217]; exact (show _ → _ from xu_220.2.1) (by omega) : stL (S.2.1 243) (S.1 231 14) (ps + w)); omega) (by have q := stL_lt (show isLt (cb (S.2.1 243) (S.1 231 14) (ps + w)) by rw [← atu_217]; exact (show _ → _ from xu_220.2.1) (by omega) : stL (S.2.1 243) (S.1 231 14) (ps + w)); omega) (hen.trans ((en_st (fun _ => stL_lt (show isLt (cb (S.2.1 243) (S.1 231 14) (ps + w)) by rw [← atu_217]; exact (show _ → _ from xu_220.2.1) (by omega) : stL (S.2.1 243) (S.1 231 14) (ps + w))) (show isLt (cb (S.2.1 243) (S.1 231 14) (ps + w)) by rw [← atu_217]; exact (show _ → _ from xu_220.2.1) (by omega) : stL (S.2.1 243) (S.1 231 14) (ps + w))).trans (by rw [show ps + w + 1 = ps + (w + 1) by omega]))) (fun j j0 j1 => by by_cases z : j = w; (rw [z]; have q := (show isLt (cb (S.2.1 243) (S.1 231 14) (ps + w)) by rw [← atu_217]; exact (show _ → _ from xu_220.2.1) (by omega) : stL (S.2.1 243) (S.1 231 14) (ps + w)); have q2 := stL_lt q; unfold stL isLt at q; rw [cb_in (by omega) (by omega)] at q; omega); exact hpw j j0 (by omega)) hW hL (lv_sub hl [1, 0, 2, 3, 4] rfl)
              exact loop_52 (_ + 1) 0 _ _ _ (Nat.lt_succ_self _) (by omega) (by rw [show ps + 0 = ps by omega]) (fun j a b => absurd b (by omega)) hW hL (lv_sub hl [0, 1, 2, 3, 4] rfl)
          · have hsb : stB (S.2.1 243) (S.1 231 14) ps := (by unfold stB; rw [cb_in (by omega) (by omega), ← hrc]; omega)
            refine lv_iinc (v := iv (ps + 1)) (lv' := [(1, .int (iv (ps + 1))), (2, .int (iv (S.2.1 243 ps))), (0, .ref (G.2.2.1 + 231))]) hx hb dX12_tokenizeProof_34 hl (k := 1) rfl ((Int32.ofInt_add _ _).symm) (by decide) rfl (fun ls hl => ?_)
            refine lv_goto (tgt := 7) hx hb dX12_tokenizeProof_37 (by decide) ?_
            have q_248 : (-2147483648) ≤ S7.1 231 19 ∧ S7.1 231 19 ≤ 2147483647 := hI7.fi 19
            exact ih_7 S7 (ps + 1) _ _ _ (by omega) hI7 hFm7 hL7_ hGm7 gL7_ (by omega) (by omega) (hti.blank hsb) htl hW hL (lv_sub hl [0, 2] rfl)
  have lk_249 : (uF S 231 19 0).1 231 19 = 0 := uF_on
  exact loop_7 (_ + 1) (uF S 231 19 0) 0 _ _ _ (Nat.lt_succ_self _) i_3 F_1 Fr.rf g_2 FF.rf (by omega) (by omega) (⟨rfl, fun j hj => absurd hj (by have : (uF S 231 19 0).1 231 19 = 0 := uF_on; omega)⟩) (fun h => absurd h (by have : (uF S 231 19 0).1 231 19 = 0 := uF_on; omega)) hW hL (lv_sub hl [0, 1] rfl)
