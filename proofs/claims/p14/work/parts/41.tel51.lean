def pI (k : Nat) : Bool := rgB 5 118 k || rgB 185 187 k || rgB 228 230 k
theorem pI_i {k : Nat} (h : (5 ≤ k ∧ k ≤ 118) ∨ (185 ≤ k ∧ k ≤ 187) ∨ (228 ≤ k ∧ k ≤ 230)) : pI k = true := by
  rw [pI]
  rcases h with h | h | h
  · rw [rgB_i h]; rfl
  · rw [rgB_i h, Bool.or_true]; rfl
  · rw [rgB_i h, Bool.or_true]
theorem pG_I : ∀ k, pG k = true → pI k = true := fun k h => by
  simp only [pG, Bool.or_eq_true] at h
  exact pI_i (by rcases h with ((h | h) | h) | h <;> (have := rgB_t h; omega))
theorem pQ_I : ∀ k, pQ k = true → pI k = true := fun k h => by
  have := rgB_t h
  exact pI_i (by omega)
theorem pI_C : ∀ k, pI k = true → pC k = true := fun k h => by
  simp only [pI, Bool.or_eq_true] at h
  rw [pC, rgB_i (a := 3) (b := 230) (by rcases h with (h | h) | h <;> (have := rgB_t h; omega)), Bool.or_true]
theorem cX.putR {G : sG} {S : sS} {x y : Nat} {b : Int} {K I ci : Nat} {v : Value} (h : cX G S x y b) (hK : tau K = .inl ci) (hc : ci ≠ 0 ∧ ci ≠ 10 ∧ ci ≠ 3) (nf : ∀ q ∈ rfL, ¬ (q.1 = K ∧ q.2.1 = I)) (rm : RM G (uR S K I v)) : cX G (uR S K I v) x y b := by
  have eo : ∀ k i, ¬ (k = K ∧ i = I) → (uR S K I v).2.2.2 k i = S.2.2.2 k i := fun k i q => uR_ne q
  have nt : ∀ {o cj : Nat}, tau o = .inl cj → ci ≠ cj → ∀ i, ¬ (o = K ∧ i = I) := fun ho hc i e => by rw [e.1, hK] at ho; cases ho; exact hc rfl
  have na : ∀ {o : Nat} {t : FieldType × Nat}, tau o = .inr t → ∀ i, ¬ (o = K ∧ i = I) := fun ho i e => by rw [e.1, hK] at ho; cases ho
  refine ⟨h.1, ⟨fun q hq => by rw [eo _ _ (nf q hq)]; exact h.ri q hq, ⟨fun o ho => by rw [eo _ _ (nt ho hc.1 _)]; exact h.rq.1 o ho, fun o hl ho => by rw [eo _ _ (nt ho hc.2.1 _)]; exact h.rq.2.1 o hl ho, fun o hl ho => by rw [eo _ _ (nt ho hc.2.2 _), eo _ _ (nt ho hc.2.2 _)]; exact h.rq.2.2 o hl ho⟩, fun i hi => by
    rw [eo 19 i (na (show tau 19 = .inr (.array .long, 31) from rfl) i), eo 51 i (na (show tau 51 = .inr (.array .long, 31) from rfl) i), eo 83 i (na (show tau 83 = .inr (.array .long, 31) from rfl) i)]; exact h.r2 i hi, rm⟩, h.nb, h.ns, h.ub, h.ko⟩
theorem cX.mod11 {G : sG} {S : sS} {x y : Nat} {b : Int} {o : Nat} (h : cX G S x y b) (m : mdl o) : cX G (uR S 11 8 (.ref (G.2.2.1 + o))) x y b := by
  have eo : ∀ k i, ¬ (k = 11 ∧ i = 8) → (uR S 11 8 (.ref (G.2.2.1 + o))).2.2.2 k i = S.2.2.2 k i := fun k i q => uR_ne q
  obtain ⟨m1, ⟨m2, m3, m4⟩, ⟨m5, m6, m7⟩, ⟨m8, m9, m10⟩, m11, m12⟩ := h.rm
  refine h.putR (show tau 11 = .inl 9 from rfl) (by decide) (by decide) ⟨?_, ⟨o, m, uR_on⟩, ⟨m5, m6, by rw [eo _ _ (by decide)]; exact m7⟩, ⟨m8, m9, by rw [eo _ _ (by decide)]; exact m10⟩, ?_, ?_⟩
  · rw [eo _ _ (by decide), eo _ _ (by decide)]; exact m1
  · rw [eo _ _ (by decide), eo _ _ (by decide)]; exact m11
  · rw [eo _ _ (by decide)]; exact m12