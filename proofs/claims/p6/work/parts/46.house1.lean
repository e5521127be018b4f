theorem rfL_no0 : ∀ q ∈ rfL, ¬ (q.1 = 0 ∧ q.2.1 = 5) ∧ ¬ (q.1 = 0 ∧ q.2.1 = 6) := by decide
theorem tau0 : tau 0 = .inl 11 := rfl
theorem cX.swapM {G : sG} {S : sS} {x y : Nat} {b : Int} {oc od : Nat} (h : cX G S x y b) (h0 : S.2.2.2 0 5 = .ref (G.2.2.1 + oc)) (h1 : S.2.2.2 0 6 = .ref (G.2.2.1 + od)) : cX G (uR (uR S 0 5 (.ref (G.2.2.1 + od))) 0 6 (.ref (G.2.2.1 + oc))) x y b := by
  have e0 : (uR (uR S 0 5 (.ref (G.2.2.1 + od))) 0 6 (.ref (G.2.2.1 + oc))).2.2.2 0 5 = .ref (G.2.2.1 + od) := (uR_ne (by decide)).trans uR_on
  have e1 : (uR (uR S 0 5 (.ref (G.2.2.1 + od))) 0 6 (.ref (G.2.2.1 + oc))).2.2.2 0 6 = .ref (G.2.2.1 + oc) := uR_on
  have en : ∀ k i, ¬ (k = 0 ∧ i = 5) → ¬ (k = 0 ∧ i = 6) → (uR (uR S 0 5 (.ref (G.2.2.1 + od))) 0 6 (.ref (G.2.2.1 + oc))).2.2.2 k i = S.2.2.2 k i := fun k i q1 q2 => (uR_ne q2).trans (uR_ne q1)
  have eo : ∀ k i, k ≠ 0 → (uR (uR S 0 5 (.ref (G.2.2.1 + od))) 0 6 (.ref (G.2.2.1 + oc))).2.2.2 k i = S.2.2.2 k i := fun k i q => en k i (fun z => q z.1) (fun z => q z.1)
  obtain ⟨m1, ⟨m2, m3, m4⟩, ⟨m5, m6, m7⟩, ⟨m8, m9, m10⟩, m11, m12⟩ := h.rm
  have nt : ∀ {o ci : Nat}, tau o = .inl ci → ci ≠ 11 → o ≠ 0 := fun ht hc e => by rw [e, tau0] at ht; cases ht; exact hc rfl
  refine ⟨h.1, ⟨fun q hq => by rw [en _ _ (rfL_no0 q hq).1 (rfL_no0 q hq).2]; exact h.ri q hq, ⟨fun o ho => by rw [eo _ _ (nt ho (by decide))]; exact h.rq.1 o ho, fun o hl ho => by rw [eo _ _ (nt ho (by decide))]; exact h.rq.2.1 o hl ho, fun o hl ho => by rw [eo _ _ (nt ho (by decide)), eo _ _ (nt ho (by decide))]; exact h.rq.2.2 o hl ho⟩, fun i hi => by rw [eo _ _ (by decide), eo _ _ (by decide), eo _ _ (by decide)]; exact h.r2 i hi, ?_⟩, h.nb, h.ns, h.ub, h.ko⟩
  refine ⟨?_, ⟨m2, m3, by rw [eo _ _ (by decide)]; exact m4⟩, ⟨m5, m6, by rw [eo _ _ (by decide)]; exact m7⟩, ⟨m8, m9, by rw [eo _ _ (by decide)]; exact m10⟩, by rw [eo _ _ (by decide), eo _ _ (by decide)]; exact m11, by rw [eo _ _ (by decide)]; exact m12⟩
  rw [e0, e1]
  rcases m1 with q | q
  · right; rw [h0] at q; rw [h1] at q; exact ⟨q.2, q.1⟩
  · left; rw [h0] at q; rw [h1] at q; exact ⟨q.2, q.1⟩
