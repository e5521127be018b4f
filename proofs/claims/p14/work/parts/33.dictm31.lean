def pJ (k : Nat) : Bool := Nat.beq k 135 || Nat.beq k 140
theorem pJ_X : ∀ k, pJ k = true → pX k = true := fun k h => by
  rw [pJ, Bool.or_eq_true] at h
  rcases h with h | h <;> (rw [Nat.eq_of_beq_eq_true h]; rfl)
theorem uC_ne {S : sS} {k0 k1 a : Nat} {sp dp n j : Int} (h : a ≠ k1) : (uC S k0 sp k1 dp n).2.1 a j = S.2.1 a j := if_neg (fun q => h q.1)
theorem uD_ne {S : sS} {k0 k1 a : Nat} {sp dp n j : Int} (h : a ≠ k1) : (uD S k0 sp k1 dp n).2.2.1 a j = S.2.2.1 a j := if_neg (fun q => h q.1)
theorem rfL_no : ∀ q ∈ rfL, ¬ (q.1 = 135 ∧ q.2.1 = 0) ∧ ¬ (q.1 = 135 ∧ q.2.1 = 1) := by decide
theorem cX.swap {G : sG} {S : sS} {x y : Nat} {b : Int} {oc od : Nat} (h : cX G S x y b) (h0 : S.2.2.2 135 0 = .ref (G.2.2.1 + oc)) (h1 : S.2.2.2 135 1 = .ref (G.2.2.1 + od)) : cX G (uR (uR S 135 0 (.ref (G.2.2.1 + od))) 135 1 (.ref (G.2.2.1 + oc))) x y b := by
  have e0 : (uR (uR S 135 0 (.ref (G.2.2.1 + od))) 135 1 (.ref (G.2.2.1 + oc))).2.2.2 135 0 = .ref (G.2.2.1 + od) := (uR_ne (by decide)).trans uR_on
  have e1 : (uR (uR S 135 0 (.ref (G.2.2.1 + od))) 135 1 (.ref (G.2.2.1 + oc))).2.2.2 135 1 = .ref (G.2.2.1 + oc) := uR_on
  have en : ∀ k i, ¬ (k = 135 ∧ i = 0) → ¬ (k = 135 ∧ i = 1) → (uR (uR S 135 0 (.ref (G.2.2.1 + od))) 135 1 (.ref (G.2.2.1 + oc))).2.2.2 k i = S.2.2.2 k i := fun k i q1 q2 => (uR_ne q2).trans (uR_ne q1)
  have eo : ∀ k i, k ≠ 135 → (uR (uR S 135 0 (.ref (G.2.2.1 + od))) 135 1 (.ref (G.2.2.1 + oc))).2.2.2 k i = S.2.2.2 k i := fun k i q => en k i (fun z => q z.1) (fun z => q z.1)
  obtain ⟨m1, ⟨m2, m3, m4⟩, ⟨m5, m6, m7⟩, ⟨m8, m9, m10⟩, m11, m12⟩ := h.rm
  have nt : ∀ {o ci : Nat}, tau o = .inl ci → ci ≠ 2 → o ≠ 135 := fun ht hc e => by rw [e, tau135] at ht; cases ht; exact hc rfl
  refine ⟨h.1, ⟨fun q hq => by rw [en _ _ (rfL_no q hq).1 (rfL_no q hq).2]; exact h.ri q hq, ⟨fun o ho => by rw [eo _ _ (nt ho (by decide))]; exact h.rq.1 o ho, fun o hl ho => by rw [eo _ _ (nt ho (by decide))]; exact h.rq.2.1 o hl ho, fun o hl ho => by rw [eo _ _ (nt ho (by decide)), eo _ _ (nt ho (by decide))]; exact h.rq.2.2 o hl ho⟩, fun i hi => by rw [eo _ _ (by decide), eo _ _ (by decide), eo _ _ (by decide)]; exact h.r2 i hi, ?_⟩, h.nb, h.ns, h.ub, h.ko⟩
  refine ⟨by rw [eo _ _ (by decide), eo _ _ (by decide)]; exact m1, ⟨m2, m3, by rw [eo _ _ (by decide)]; exact m4⟩, ⟨m5, m6, by rw [eo _ _ (by decide)]; exact m7⟩, ⟨m8, m9, by rw [eo _ _ (by decide)]; exact m10⟩, ?_, by rw [eo _ _ (by decide)]; exact m12⟩
  rw [e0, e1]
  rcases m11 with q | q
  · right; rw [h0] at q; rw [h1] at q; exact ⟨q.2, q.1⟩
  · left; rw [h0] at q; rw [h1] at q; exact ⟨q.2, q.1⟩
theorem keepK {S : sS} {oc : Nat} {e r p q u d2 d3 i1 i2 i3 en : Int} {n : Nat} (h : KOn n (S.2.1 140) e) (he : 0 ≤ e) (hoc : dc oc) (hr : 0 ≤ r ∧ r ≤ 40) (hp : 0 ≤ p ∧ p ≤ 13) (hq : -1 ≤ q ∧ q ≤ 40) (hu : u = (r + 3) * 112) (hd2 : d2 = e + u) (hd3 : d3 = e + u + r) (h3 : i3 = e + u + r + p) (h2 : i2 = e + u + r + p + 1) (h1 : i1 = e + u + r + p + 2) (hen : en = e + u + r + p + 3) (hk : ∀ j, -2147483648 ≤ S.2.1 140 j ∧ S.2.1 140 j ≤ 2147483647) (hb : ∀ j, -2147483648 ≤ S.2.1 138 j ∧ S.2.1 138 j ≤ 2147483647) (hf : ∀ j, -2147483648 ≤ S.2.1 139 j ∧ S.2.1 139 j ≤ 2147483647) (hc : ∀ j, -2147483648 ≤ S.2.1 oc j ∧ S.2.1 oc j ≤ 2147483647) (h0 : 0 ≤ S.2.1 oc 0) (hs : ∀ a, a % 8 = 0 → 0 ≤ a → a + 7 < u → SlotOK (S.2.1 oc) a 6 999999999) :
    ∃ n, KOn n ((uA (uA (uA (uC (uC (uC S oc 0 140 e u) 138 1 140 d2 r) 139 1 140 d3 p) 140 i3 q) 140 i2 r) 140 i1 p).2.1 140) en := by
  have no : oc ≠ 140 := by rcases hoc with z | z <;> omega
  have g1 : ∀ j, j < i3 → (uA (uA (uA (uC (uC (uC S oc 0 140 e u) 138 1 140 d2 r) 139 1 140 d3 p) 140 i3 q) 140 i2 r) 140 i1 p).2.1 140 j = (uC (uC (uC S oc 0 140 e u) 138 1 140 d2 r) 139 1 140 d3 p).2.1 140 j := fun j hj => (uA_ne (by omega)).trans ((uA_ne (by omega)).trans (uA_ne (by omega)))
  have g2 : ∀ j, j < d2 → (uC (uC (uC S oc 0 140 e u) 138 1 140 d2 r) 139 1 140 d3 p).2.1 140 j = (uC S oc 0 140 e u).2.1 140 j := fun j hj => (if_neg (by omega)).trans (if_neg (by omega))
  refine ⟨n + 1, ?_⟩
  subst hu
  rw [hen]
  refine KOn.more (f := S.2.1 140) (q := q) h he hr hp hq (fun i i0 i1' => by rw [g1 i (by omega), g2 i (by omega)]; exact if_neg (by omega)) ?_ (by rw [← h3]; exact (uA_ne (by omega)).trans ((uA_ne (by omega)).trans uA_on)) (by rw [← h2]; exact (uA_ne (by omega)).trans uA_on) (by rw [← h1]; exact uA_on) ?_ ?_
  · intro i
    rw [uA_get]; split
    · omega
    · rw [uA_get]; split
      · omega
      · rw [uA_get]; split
        · omega
        · rw [uC_get]; split
          · rw [uC_get, if_neg (fun z => absurd z.1 (by decide)), uC_get, if_neg (fun z => absurd z.1 (by decide))]; exact hf _
          · rw [uC_get]; split
            · rw [uC_get, if_neg (fun z => absurd z.1 (by decide))]; exact hb _
            · rw [uC_get]; split
              · exact hc _
              · exact hk _
  · rw [g1 e (by omega), g2 e (by omega), uC_get, if_pos ⟨rfl, by omega, by omega⟩, show (0 : Int) + (e - e) = 0 by omega]; exact h0
  · intro a a0 a1 a2
    refine (hs a a0 a1 (by omega)).cg (by decide) (fun i i0 i1' => ?_)
    rw [g1 (e + i) (by omega), g2 (e + i) (by omega), uC_get, if_pos ⟨rfl, by omega, by omega⟩, show (0 : Int) + (e + i - e) = i by omega]
theorem KOn.op {n : Nat} {f : Int → Int} {e : Int} (h : KOn n f e) (he : 3 ≤ e) : (0 ≤ f (e - 2) ∧ f (e - 2) ≤ 40) ∧ (0 ≤ f (e - 1) ∧ f (e - 1) ≤ 13) ∧ (-1 ≤ f (e - 3) ∧ f (e - 3) ≤ 40) ∧ 0 ≤ e - 3 - f (e - 1) - f (e - 2) - (f (e - 2) + 3) * 112 ∧ 0 ≤ f (e - 3 - f (e - 1) - f (e - 2) - (f (e - 2) + 3) * 112) ∧ (∀ a, a % 8 = 0 → 0 ≤ a → a + 7 < (f (e - 2) + 3) * 112 → SlotOK (fun i => f (e - 3 - f (e - 1) - f (e - 2) - (f (e - 2) + 3) * 112 + i)) a 6 999999999) ∧ ∃ m, KOn m f (e - 3 - f (e - 1) - f (e - 2) - (f (e - 2) + 3) * 112) := by
  cases n with
  | zero => exact absurd (show e = 0 from h) (by omega)
  | succ n =>
    rcases h with h | ⟨h1, h2, h3, h4, h5, h5b, h6, h7, h8⟩
    · omega
    · exact ⟨h2, h3, h4, h5, h5b, h7, n, h8⟩