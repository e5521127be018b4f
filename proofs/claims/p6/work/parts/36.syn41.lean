theorem sMi {l : Launch} {y : MethodName} {ws : List Cond} {rm : Room} {Pc : Array Value → State → Prop} {G : sG} {n : Nat} {Q1 Q2 : Int → sS → Prop} {mc ms : Nat} {fr : Addr → Prop} (h : Met l y ws rm Pc (sQi G n Q1) mc ms fr) (k : ∀ r u, Q1 r u → Q2 r u) : Met l y ws rm Pc (sQi G n Q2) mc ms fr := fun p e h1 h2 h3 s m args below h4 h5 h6 h7 => by
  obtain ⟨n', o, a, b, c, ⟨⟨r, u, e1, e2, e3⟩, d⟩⟩ := h p e h1 h2 h3 s m args below h4 h5 h6 h7
  exact ⟨n', o, a, b, c, ⟨⟨r, u, e1, k r u e2, e3⟩, d⟩⟩
theorem uF_self {S : sS} {k i : Nat} : uF S k i (S.1 k i) = S := by
  have h : (fun a j => cond (Nat.beq a k && Nat.beq j i) (S.1 k i) (S.1 a j)) = S.1 := by
    funext a j
    cases h : (Nat.beq a k && Nat.beq j i) with
    | false => rfl
    | true =>
      rw [Bool.and_eq_true] at h
      rw [Nat.eq_of_beq_eq_true h.1, Nat.eq_of_beq_eq_true h.2]; rfl
  unfold uF; rw [h]
/-- no token is BAD -/
def SG (S : sS) : Prop := ∀ j, 0 ≤ j → j < S.1 12 3 → S.2.1 13 j ≠ 1 ∧ lb (S.2.2.1 15 j)
def vd (S : sS) (t : Int) : Int := if 0 ≤ t ∧ t < S.1 12 3 then S.2.2.1 15 t else 0
theorem vd_lb {S : sS} {t : Int} (h : SG S) : lb (vd S t) := by
  unfold vd; split
  · rename_i q; exact (h t q.1 q.2).2
  · exact lb0
theorem cX.syn {G : sG} {S : sS} {x y : Nat} {b : Int} (h : cX G S x y b) : SynAt G S ∧ SynOK S := ⟨⟨rf_12_0 h, rf_12_1 h, rf_12_2 h⟩, h.fi 12 3 8 (by decide) rfl, fun i _ _ => h.1.2.1 13 i (by decide), fun i _ _ => h.1.2.1 14 i (by decide), fun i _ _ => h.1.2.2 15 i (by decide)⟩
theorem SE.g {S : sS} {a : Int} (h : SE S) (a0 : 0 ≤ a) (a1 : a < S.1 12 3) (e : S.2.1 13 a = 0) : SG S := fun j j0 j1 => by
  have ha := (h a a0 a1).1 (by omega)
  have hj := h j j0 j1
  have n1 : S.2.1 13 j ≠ 1 := fun q => by
    have := hj.1 (by omega)
    rw [show j = a by omega] at q; omega
  exact ⟨n1, hj.2 n1⟩
