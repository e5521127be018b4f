/-! The class's parser and the grammar -/
def OZ (S : sS) : Prop := 0 < S.1 12 3 ∧ kd S (S.1 12 3 - 1) ≤ 1
theorem kd_in {S : sS} {t : Int} (h0 : 0 ≤ t) (h1 : t < S.1 12 3) : kd S t = S.2.1 13 t := if_pos ⟨h0, h1⟩
theorem kd_out {S : sS} : ∀ t, S.1 12 3 ≤ t → kd S t = 0 := fun t h => if_neg (by omega)
theorem OZ.ne {S : sS} {a c : Int} (h : OZ S) (e : kd S a = c) (hc : 2 ≤ c) (h1 : a ≤ S.1 12 3 - 1) : a + 1 ≤ S.1 12 3 - 1 := by
  by_cases q : a = S.1 12 3 - 1
  · have := h.2; rw [← q] at this; omega
  · omega
def OPost (S : sS) (a : Int) (o : Option Int) (r : Int) (u : sS) : Prop := ∃ a2 : Int, u = uF S 12 4 a2 ∧ a ≤ a2 ∧ a2 ≤ S.1 12 3 - 1 ∧ (0 ≤ r ∧ r ≤ 1) ∧ Hd (r = 1 → o = some a2) ∧ Hd (r = 0 → o = none)
def OExC (l : Launch) (G : sG) (S : sS) (D : Nat) (n : Nat) (dd : Int) : Prop := ∀ a : Int, 0 ≤ a ∧ a ≤ S.1 12 3 - 1 → Met l yX8_expression (.code yX8_expression cX8_expression 3 (some .boolean) :: tb) (rmk D 0 0) (sPc G 294 (uF S 12 4 a) [.ref (G.2.2.1 + 12), .int (iv dd)]) (sQi G 294 (OPost S a (ogU (S.1 12 3) (kd S) (ogF (S.1 12 3) (kd S) n) a))) 0 0 (sF G)
def OTeC (l : Launch) (G : sG) (S : sS) (D : Nat) (n : Nat) (dd : Int) : Prop := ∀ a : Int, 0 ≤ a ∧ a ≤ S.1 12 3 - 1 → Met l yX8_term (.code yX8_term cX8_term 3 (some .boolean) :: tb) (rmk D 0 0) (sPc G 294 (uF S 12 4 a) [.ref (G.2.2.1 + 12), .int (iv dd)]) (sQi G 294 (OPost S a (ogP (S.1 12 3) (kd S) (ogF (S.1 12 3) (kd S) n) a))) 0 0 (sF G)
def OFaC (l : Launch) (G : sG) (S : sS) (D : Nat) (n : Nat) (dd : Int) : Prop := ∀ a : Int, 0 ≤ a ∧ a ≤ S.1 12 3 - 1 → Met l yX8_factor (.code yX8_factor cX8_factor 2 (some .boolean) :: tb) (rmk D 0 0) (sPc G 294 (uF S 12 4 a) [.ref (G.2.2.1 + 12), .int (iv dd)]) (sQi G 294 (OPost S a (ogF (S.1 12 3) (kd S) n a))) 0 0 (sF G)
