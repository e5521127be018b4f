/-! An index in sight, in the reference -/
theorem push_o {N : sN} {x w s : Int} (h : s ≠ N.1) : (push N x w).2.2.1 s = N.2.2.1 s := funext (fun _ => if_neg h)
theorem push_0 {N : sN} {x w : Int} : (push N x w).2.2.1 N.1 0 = 2 := by
  show (if N.1 = N.1 then (if (0 : Int) = 0 then 2 else _) else _) = _
  rw [if_pos rfl, if_pos rfl]
theorem push_1 {N : sN} {x w : Int} : (push N x w).2.2.1 N.1 1 = w := by
  show (if N.1 = N.1 then (if (1 : Int) = 0 then 2 else if (1 : Int) = 1 then _ else _) else _) = _
  rw [if_pos rfl, if_neg (show ¬ ((1 : Int) = 0) by decide), if_pos rfl]
theorem NRr.pushed {N : sN} {k v : Int → Int} {S u : sS} {tk : Int} (h : NRr N k v S) (hK : NK N) (hk : k tk = 2) (hn : u.1 231 25 = S.1 231 25 + 1) (r : nRW S u (S.1 231 25) tk 5 (-1) (-1) 0) (e3 : u.2.1 253 = S.2.1 253) (hc : N.1 < 128) : NRr (push N (v tk) 0) k v u := by
  have h1 := h.1
  refine ⟨⟨by show N.1 + 1 = _; omega, by show 0 ≤ N.1 + 1; omega, by show N.1 + 1 ≤ 128; omega⟩, fun s a b => ?_, fun s a b => ?_⟩
  · have b : s < N.1 + 1 := b
    rw [r.1 s]
    by_cases c : s = N.1
    · rw [if_pos (by omega)]; exact ⟨hk, if_pos c⟩
    · rw [if_neg (by omega)]
      have q := h.2.1 s a (by omega)
      exact ⟨q.1, (if_neg c).trans q.2⟩
  · have b : s < N.1 + 1 := b
    by_cases c : s = N.1
    · have f9 : u.2.1 249 s = 5 := by rw [r.2.1 s, if_pos (by omega)]
      have f2 : u.2.1 252 s = 0 := by rw [r.2.2.2.2 s, if_pos (by omega)]
      rw [c] at f9 f2 ⊢
      rw [push_0, push_1, f9, f2]
      exact ⟨rfl, fun z => absurd z (by decide), fun _ => rfl, fun z => by omega, fun z => absurd z (by decide), fun z => absurd z (by decide)⟩
    · have hs := h.2.2 s a (by omega)
      rw [push_o c, r.2.1 s, r.2.2.1 s, r.2.2.2.1 s, r.2.2.2.2 s, if_neg (by omega), if_neg (by omega), if_neg (by omega), if_neg (by omega), e3]
      refine ⟨hs.1, hs.2.1, hs.2.2.1, hs.2.2.2.1, hs.2.2.2.2.1, fun z o o0 o1 => ?_⟩
      rw [siz_push (hK.lt h1.2.1 a (by omega) (.inl z) (.inl rfl)), siz_push (hK.lt h1.2.1 a (by omega) (.inl z) (.inr rfl))] at o1
      exact hs.2.2.2.2.2 z o o0 o1
theorem NRr.low {N : sN} {k v : Int → Int} {S u : sS} {x w val : Int} (h : NRr (push N x w) k v S) (hK : NK N) (h0 : 0 ≤ N.1) (e25 : u.1 231 25 = S.1 231 25) (e8 : u.2.1 248 = S.2.1 248) (e9 : u.2.1 249 = S.2.1 249) (f0 : u.2.1 250 = S.2.1 250) (f1 : u.2.1 251 = S.2.1 251) (f3 : u.2.1 253 = S.2.1 253) (f2 : ∀ s, u.2.1 252 s = if s = N.1 then val else S.2.1 252 s) : NRr (push N x val) k v u := by
  refine ⟨⟨by rw [e25]; exact h.1.1, h.1.2⟩, fun s a b => by rw [e8]; exact h.2.1 s a b, fun s a b => ?_⟩
  have b' : s < N.1 + 1 := b
  have hs := h.2.2 s a b
  rw [e9, f0, f1, f3, f2 s]
  by_cases c : s = N.1
  · rw [c] at hs ⊢
    rw [push_0] at hs
    rw [push_0, push_1, if_pos rfl]
    exact ⟨hs.1, fun z => absurd z (by decide), fun _ => rfl, fun z => by omega, fun z => absurd z (by decide), fun z => absurd z (by decide)⟩
  · rw [push_o c] at hs
    rw [push_o c, if_neg c]
    refine ⟨hs.1, hs.2.1, hs.2.2.1, hs.2.2.2.1, hs.2.2.2.2.1, fun z o o0 o1 => ?_⟩
    have l3 := hK.lt (q := 3) h0 a (by omega) (.inl z) (.inl rfl); have l4 := hK.lt (q := 4) h0 a (by omega) (.inl z) (.inr rfl)
    rw [siz_push l3, siz_push l4] at o1
    exact hs.2.2.2.2.2 z o o0 (by rw [siz_push l3, siz_push l4]; exact o1)
theorem NRr.pop {N : sN} {k v : Int → Int} {S u : sS} {x w : Int} (h : NRr (push N x w) k v S) (hK : NK N) (h0 : 0 ≤ N.1) (e25 : u.1 231 25 = S.1 231 25 - 1) (e8 : u.2.1 248 = S.2.1 248) (e9 : u.2.1 249 = S.2.1 249) (f0 : u.2.1 250 = S.2.1 250) (f1 : u.2.1 251 = S.2.1 251) (f2 : u.2.1 252 = S.2.1 252) (f3 : u.2.1 253 = S.2.1 253) : NRr N k v u := by
  have h1 : N.1 + 1 = S.1 231 25 := h.1.1
  have h2 : N.1 + 1 ≤ 128 := h.1.2.2
  refine ⟨⟨by omega, h0, by omega⟩, fun s a b => ?_, fun s a b => ?_⟩
  · have q := h.2.1 s a (show s < N.1 + 1 by omega)
    rw [e8]; exact ⟨q.1, (if_neg (show ¬ s = N.1 by omega)).symm.trans q.2⟩
  · have hs := h.2.2 s a (show s < N.1 + 1 by omega)
    rw [push_o (by omega)] at hs
    rw [e9, f0, f1, f2, f3]
    refine ⟨hs.1, hs.2.1, hs.2.2.1, hs.2.2.2.1, hs.2.2.2.2.1, fun z o o0 o1 => ?_⟩
    have l3 := hK.lt (q := 3) h0 a b (.inl z) (.inl rfl); have l4 := hK.lt (q := 4) h0 a b (.inl z) (.inr rfl)
    exact hs.2.2.2.2.2 z o o0 (by rw [siz_push l3, siz_push l4]; exact o1)
