/-! Letters packed in a number: the same number, the same letters -/
def okB (B : Int → Int) (p : Int) (w : Nat) : Prop := ∀ i : Nat, i < w → 1 ≤ B (p + i) ∧ B (p + i) ≤ 255
theorem pkn_b {B : Int → Int} {p : Int} : ∀ w : Nat, okB B p w → 0 ≤ pkn B p w ∧ (0 < w → 1 ≤ pkn B p w) := by
  intro w
  induction w with
  | zero => intro _; exact ⟨Int.le_refl _, fun h => absurd h (by omega)⟩
  | succ w ih =>
    intro h
    have a := ih (fun i hi => h i (by omega)); have b := h w (by omega)
    show 0 ≤ pkn B p w * 256 + B (p + w) ∧ (0 < w + 1 → 1 ≤ pkn B p w * 256 + B (p + w))
    omega
theorem pkn_ij {B B' : Int → Int} {p p' : Int} : ∀ (w w' : Nat), okB B p w → okB B' p' w' → pkn B p w = pkn B' p' w' → w = w' ∧ ∀ i : Nat, i < w → B (p + i) = B' (p' + i) := by
  intro w
  induction w with
  | zero =>
    intro w' _ h' e
    have e : (0 : Int) = pkn B' p' w' := e
    have b := pkn_b w' h'
    refine ⟨?_, fun i hi => absurd hi (by omega)⟩
    by_cases c : 0 < w'
    · have := b.2 c; omega
    · omega
  | succ w ih =>
    intro w' h h' e
    cases w' with
    | zero =>
      have e : pkn B p (w + 1) = 0 := e
      have b := (pkn_b (w + 1) h).2 (by omega); omega
    | succ w' =>
      have e : pkn B p w * 256 + B (p + w) = pkn B' p' w' * 256 + B' (p' + w') := e
      have a := h w (by omega); have a' := h' w' (by omega)
      have q := ih w' (fun i hi => h i (by omega)) (fun i hi => h' i (by omega)) (by omega)
      refine ⟨by omega, fun i hi => ?_⟩
      by_cases c : i = w
      · rw [c]
        have e3 : B (p + w) = B' (p' + w') := by omega
        rw [e3, q.1]
      · exact q.2 i (by omega)
theorem pkn_eqq {B B' : Int → Int} {p p' : Int} : ∀ w : Nat, (∀ i : Nat, i < w → B (p + i) = B' (p' + i)) → pkn B p w = pkn B' p' w := by
  intro w
  induction w with
  | zero => intro _; rfl
  | succ w ih =>
    intro h
    show pkn B p w * 256 + B (p + w) = pkn B' p' w * 256 + B' (p' + w)
    rw [ih (fun i hi => h i (by omega)), h w (by omega)]
/-- a name's token -/
theorem nm_f {B : Int → Int} {n p : Int} (hp : 0 ≤ p ∧ p ≤ n) (h : kS B n p = 2) : vOf B n p = pkn B p (eOf B n p - p).toNat ∧ (p ≤ eOf B n p ∧ eOf B n p ≤ n) ∧ okB B p (eOf B n p - p).toNat := by
  unfold kS at h
  by_cases c0 : p < n
  · rw [if_pos c0] at h
    unfold kOf at h
    by_cases c1 : isLt (cb B n p)
    · have ev : vOf B n p = pkn B p (en n (stN B n) p - p).toNat := if_pos c1
      have ee : eOf B n p = en n (stN B n) p := if_pos c1
      have r := en_r (n := n) (st := stN B n) p hp.2
      refine ⟨by rw [ev, ee], by rw [ee]; exact ⟨r.1, r.2.1⟩, fun i hi => ?_⟩
      rw [ee] at hi
      have z : stN B n (p + i) := r.2.2 (p + i) (by omega) (by omega)
      have e : cb B n (p + i) = B (p + i) := if_pos ⟨by omega, by omega⟩
      have z : isLt (cb B n (p + i)) ∨ isDg (cb B n (p + i)) := z
      rw [e] at z
      rcases z with z | z
      · rcases z with z | z <;> omega
      · have z1 := z.1; have z2 := z.2; omega
    · rw [if_neg c1] at h
      by_cases c2 : isDg (cb B n p)
      · rw [if_pos c2] at h; split at h <;> omega
      · rw [if_neg c2] at h
        split at h
        · unfold sg2 at h; exfalso; revert h; repeat' split
          all_goals (intro h; exact absurd h (by decide))
        · unfold sg1 at h; exfalso; revert h; repeat' split
          all_goals (intro h; exact absurd h (by decide))
  · rw [if_neg c0] at h; exact absurd h (by decide)
theorem KRr.mk {B b : Int → Int} {n : Int} {S : sS} (h : TRS B n S) (hn : 0 ≤ n) (g : agr B b n) (hB : agr (S.2.1 243) B n) (hd : dTO S) (hs : S.1 231 14 ≤ 2000) : KRr S (kq b n (S.1 231 19)) (vq b n (S.1 231 19)) (S.1 231 19) := by
  have q := h.q hn g
  have qB : TQ B n (S.1 231 19) := ⟨h.1, h.2.1, h.2.2.1⟩
  have d1 := hd.1
  have kk : ∀ t, 0 ≤ t → t < S.1 231 19 → kq b n (S.1 231 19) t = kS B n (psn B n t.toNat) ∧ vq b n (S.1 231 19) t = vOf B n (psn B n t.toNat) ∧ 0 ≤ psn B n t.toNat ∧ psn B n t.toNat ≤ n := fun t t0 t1 => by
    have r := qB.ps hn t.toNat (by omega)
    unfold kq vq
    rw [if_pos ⟨t0, t1⟩, if_pos ⟨t0, t1⟩, ← agr_ps g, ← agr_kS g r.1 r.2, ← agr_v g r.1 r.2]
    exact ⟨rfl, rfl, r⟩
  have inr : ∀ t c, kq b n (S.1 231 19) t = c → c ≠ 0 → 0 ≤ t ∧ t < S.1 231 19 := fun t c e hc => by
    by_cases z : 0 ≤ t ∧ t < S.1 231 19
    · exact z
    · unfold kq at e; rw [if_neg z] at e; exact absurd e.symm hc
  have tk : ∀ t, 0 ≤ t → t < S.1 231 19 → tkD B n S t.toNat := fun t t0 t1 => h.2.2.2 t.toNat (by omega)
  refine ⟨q.2, ⟨by omega, by omega⟩, fun t t0 t1 => ?_, fun t e => ?_, fun t u et eu => ?_⟩
  · have z := (hd.2.1 t t0 t1).1; omega
  · have i := inr t 3 e (by decide)
    have a := kk t i.1 i.2
    have d := (tk t i.1 i.2).2.2.1 (by rw [← a.1]; exact e)
    rw [show ((t.toNat : Nat) : Int) = t by omega] at d
    rw [a.2.1, d]
  · have i := inr t 2 et (by decide); have j := inr u 2 eu (by decide)
    have a := kk t i.1 i.2; have c := kk u j.1 j.2
    have da := tk t i.1 i.2; have dc := tk u j.1 j.2
    have ea := da.2.2.2 (by rw [← a.1]; exact et); have ec := dc.2.2.2 (by rw [← c.1]; exact eu)
    have pa := da.1; have pc := dc.1
    rw [show ((t.toNat : Nat) : Int) = t by omega] at ea pa
    rw [show ((u.toNat : Nat) : Int) = u by omega] at ec pc
    have fa := nm_f a.2.2 (by rw [← a.1]; exact et); have fc := nm_f c.2.2 (by rw [← c.1]; exact eu)
    rw [a.2.1, c.2.1, fa.1, fc.1]
    unfold sameL
    rw [pa, pc, ea, ec]
    constructor
    · intro z
      rw [show (eOf B n (psn B n t.toNat) - psn B n t.toNat).toNat = (eOf B n (psn B n u.toNat) - psn B n u.toNat).toNat by have := z.1; omega]
      refine pkn_eqq _ (fun x hx => ?_)
      have y := z.2 x (by omega) (by omega)
      have z1 := z.1
      rw [hB _ (by omega) (by omega), hB _ (by omega) (by omega)] at y; exact y
    · intro z
      have y := pkn_ij _ _ fa.2.2 fc.2.2 z
      have y1 := y.1
      refine ⟨by omega, fun x x0 x1 => ?_⟩
      have w := y.2 x.toNat (by omega)
      rw [show ((x.toNat : Nat) : Int) = x by omega] at w
      rw [hB _ (by omega) (by omega), hB _ (by omega) (by omega)]; exact w
theorem TRS.tw {G : sG} {B : Int → Int} {n : Int} {u u' : sS} (h : TRS B n u') (t : twH G u u') (i : dX G u) (i' : dX G u') (hT : u.1 231 19 ≤ 30001) : TRS B n u := by
  have e19 : u.1 231 19 = u'.1 231 19 := t.F (i := 19) rfl (by decide) rfl (i.fi 19) (i'.fi 19)
  have ea : ∀ k, (k = 244 ∨ k = 245 ∨ k = 246 ∨ k = 247) → ∀ j : Nat, (j : Int) < u.1 231 19 → u.2.1 k j = u'.2.1 k j := fun k hk j hj => by
    rcases hk with z | z | z | z <;> subst z
    · exact t.A (N := 30004) (by decide) rfl ⟨by omega, by omega⟩ (i.ai 244 j) (i'.ai 244 j)
    · exact t.A (N := 30004) (by decide) rfl ⟨by omega, by omega⟩ (i.ai 245 j) (i'.ai 245 j)
    · exact t.A (N := 30004) (by decide) rfl ⟨by omega, by omega⟩ (i.ai 246 j) (i'.ai 246 j)
    · exact t.A (N := 30004) (by decide) rfl ⟨by omega, by omega⟩ (i.ai 247 j) (i'.ai 247 j)
  unfold TRS
  rw [e19]
  refine ⟨h.1, h.2.1, h.2.2.1, fun j hj => ?_⟩
  unfold tkD
  rw [ea 244 (.inl rfl) j (by omega), ea 245 (.inr (.inl rfl)) j (by omega), ea 246 (.inr (.inr (.inl rfl))) j (by omega), ea 247 (.inr (.inr (.inr rfl))) j (by omega)]
  exact h.2.2.2 j hj
