/-! The reference's rows -/
def gR1 (T : Int) (k : Int → Int) (p q : Int) : Prop := ∃ a1 b1, ogU T k (ogF T k 30) p = some a1 ∧ (k a1 = 25 ∨ k a1 = 26 ∨ k a1 = 13) ∧ ogU T k (ogF T k 30) (a1 + 1) = some b1 ∧ k b1 = 15 ∧ q = b1 + 1
def BD0 (u : sS) : Prop := ∀ t, 0 ≤ t → t < 13 → (-1000000 ≤ u.2.2.1 257 t ∧ u.2.2.1 257 t ≤ 1000000) ∧ (-1000000 ≤ u.2.2.1 257 (13 + t) ∧ u.2.2.1 257 (13 + t) ≤ 1000000)
theorem BD0.of {u : sS} (h : vb9 (fvr u 0)) (h' : vb9 (fvr u 13)) : BD0 u := fun t a b => by
  have x : -99999 ≤ u.2.2.1 257 (0 + t) ∧ u.2.2.1 257 (0 + t) ≤ 99999 := h t a b
  have y : -99999 ≤ u.2.2.1 257 (13 + t) ∧ u.2.2.1 257 (13 + t) ≤ 99999 := h' t a b
  rw [Int.zero_add] at x; omega
def RBu (u : sS) : Prop := ∀ x, -99999 ≤ u.2.2.1 255 x ∧ u.2.2.1 255 x ≤ 99999
/-- what one row leaves -/
def ROr (S u : sS) (N : sN) (k v : Int → Int) (q : Int) (X : Option (Int × Int × Int)) : Prop := Hd (RBu u) ∧ Hd (u.1 231 20 ≠ 0 → X = none) ∧ Hd (u.1 231 20 = 0 → X = some (u.1 231 36, u.1 231 42, q) ∧ NRr N k v u ∧ u.1 231 24 = q ∧ (S.1 231 36 < u.1 231 36 ∧ u.1 231 36 ≤ 16) ∧ (0 ≤ u.1 231 42 ∧ u.1 231 42 ≤ 20000))
theorem MRr.row {M : sM} {k v : Int → Int} {S u : sS} {x m lk q : Int} (h : MRr M k v S) (hn : eFind M.1 x = -1) (hN : NRr (rN M x) k v u) (c0 : u.1 231 33 = S.1 231 33) (c1 : u.1 231 34 = S.1 231 34) (c2 : u.1 231 35 = S.1 231 35) (c3 : u.1 231 36 = m ∧ S.1 231 36 < m ∧ m ≤ 16) (c4 : u.1 231 42 = lk ∧ 0 ≤ lk ∧ lk ≤ 20000) : MRr (rM M x (m, lk, q)) k v u := by
  obtain ⟨hN0, hK, d0, d1, d2, d3, d4, ds⟩ := h
  refine ⟨hN, hK.added hN0.1.2.1 hn NF_10, ⟨c0.trans d0.1, d0.2⟩, ⟨c1.trans d1.1, d1.2⟩, ⟨c2.trans d2.1, d2.2⟩, ⟨c3.1, by show 0 ≤ m; omega, c3.2.2⟩, c4, ?_⟩
  show M.1.1 + 1 ≤ M.2.1 + M.2.2.1 + M.2.2.2.1 + m; omega
set_option maxRecDepth 100000 in
set_option maxHeartbeats 4000000 in
theorem n_X12_setHere (l : Launch) (G : sG) (S : sS)  (hI : dX G S) (hf9 : S.1 231 20 ≠ 0) : Met l yX12_setHere (.code yX12_setHere cX12_setHere 2 (some .int) :: tb) (rmk 1 0 0) (sPc G 294 S [.ref (G.2.2.1 + 231)]) (sQi G 294 (fun r u => u = S ∧ (r = -1))) 0 0 (sF G) := by
  refine sEnter (by decide) (Nat.le_of_ble_eq_true rfl) ?_
  intro p e s m args below meth c Cx hr hlk hnm hW ls hl
  have Cx : sC G p m c cX12_setHere 2 s args RX12 := Cx
  obtain ⟨hx, hb, hml, hown, hts⟩ := id Cx.1
  have hL : sL G [] := sL_nil
  have hl : lv_has ls 2 [(0, .ref (G.2.2.1 + 231))] := hl
  have hW0 := hW
  refine lv_aload_n hx hb dX12_setHere_0 rfl (lv_at hl 0 rfl) ?_
  have q_1 : (-2147483648) ≤ S.1 231 20 ∧ S.1 231 20 ≤ 2147483647 := hI.fi 20
  refine g_X12_270 Cx hW (k := 231) (by decide) rfl (v := S.1 231 20) rfl dX12_setHere_1 ?_
  refine r_if_eq (tgt := 9) hx hb ⟨(by omega), (by omega)⟩ dX12_setHere_4 (by decide) (fun c => absurd c (by omega)) (fun _ => ?_)
  refine lv_iconst (v := iv (-1)) hx hb dX12_setHere_7 (by decide) ?_
  exact sIret Cx hr hlk hW hL ⟨rfl, (by omega)⟩ dX12_setHere_8
