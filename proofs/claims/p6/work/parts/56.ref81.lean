theorem NO.sm {f : Int → Int} {p L : Int} (h : NO f p L) (h0 : 0 ≤ nv f p ∧ nv f p ≤ 999999999) : NO f p 1 := by
  have a := nv_abs h
  exact ⟨h.lim (n := 1) (by show nu f p < 1000000000 * 1; omega), h.2⟩
