theorem exR (l : Launch) (G : sG) : ∀ n : Nat, FXr l G (4 * n + 13) n ∧ PXr l G (4 * n + 14) n ∧ EXr l G (4 * n + 15) n := by
  have fin : ∀ n : Nat, FXr l G (4 * n + 13) n → FXr l G (4 * n + 13) n ∧ PXr l G (4 * n + 14) n ∧ EXr l G (4 * n + 15) n := fun n hF =>
    have hP : PXr l G (4 * n + 14) n := fun S N k v T pz q ix hI e hn hq hx hg => e_X12_product l G S hI e.2.2.2.1 e.1 e.2.1 e.2.2.1 e.2.2.2.2.1 e.2.2.2.2.2.1 e.2.2.2.2.2.2.2 (d1 := 4 * n + 13) (by omega) (by omega) hn ⟨e.2.2.2.2.2.2.1, hq⟩ hF hx hg
    ⟨hF, hP, fun S N k v T pz q ix hI e hn hq hx hg => e_X12_expression l G S hI e.2.2.2.1 e.1 e.2.1 e.2.2.1 e.2.2.2.2.1 e.2.2.2.2.2.1 e.2.2.2.2.2.2.2 (d1 := 4 * n + 14) (by omega) (by omega) hn ⟨e.2.2.2.2.2.2.1, hq⟩ hP hx hg⟩
  intro n
  induction n with
  | zero => exact fin 0 (fun S N k v T pz q ix hI e hn hq hx hg => by have z : (none : Option Int) = some q := hg; cases z)
  | succ n ih =>
    have hS : SXr l G (4 * n + 16) n := fun S N k v T pz q q1 ix hI e hn hq hx h2 h3 hg hqq => e_X12_sum l G S hI e.2.2.2.1 e.1 e.2.1 e.2.2.1 e.2.2.2.2.1 e.2.2.2.2.2.1 e.2.2.2.2.2.2.2 (d1 := 4 * n + 15) (by omega) (by omega) hn ⟨e.2.2.2.2.2.2.1, hq⟩ hx h2 h3 hg hqq ih.2.2
    exact fin (n + 1) (fun S N k v T pz q ix hI e hn hq hx hg => e_X12_factor l G S hI e.2.2.2.1 e.1 e.2.1 e.2.2.1 e.2.2.2.2.1 e.2.2.2.2.2.1 e.2.2.2.2.2.2.2 (d1 := 4 * n + 13) (d2 := 4 * n + 15) (d3 := 4 * n + 16) (by omega) (by omega) (by omega) (by omega) (by omega) ⟨e.2.2.2.2.2.2.1, hq⟩ ih.1 ih.2.2 hS (by omega) hg)
theorem exU (l : Launch) (G : sG) : EXr l G 135 30 := (exR l G 30).2.2
