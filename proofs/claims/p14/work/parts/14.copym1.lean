/-! System.arraycopy of ints, of longs -/
def uC (S : sS) (k0 : Nat) (sp : Int) (k1 : Nat) (dp n : Int) : sS := (S.1, fun a j => if a = k1 ∧ dp ≤ j ∧ j < dp + n then S.2.1 k0 (sp + (j - dp)) else S.2.1 a j, S.2.2.1, S.2.2.2)
def uD (S : sS) (k0 : Nat) (sp : Int) (k1 : Nat) (dp n : Int) : sS := (S.1, S.2.1, fun a j => if a = k1 ∧ dp ≤ j ∧ j < dp + n then S.2.2.1 k0 (sp + (j - dp)) else S.2.2.1 a j, S.2.2.2)
theorem uC_get {S : sS} {k0 k1 a : Nat} {sp dp n j : Int} : (uC S k0 sp k1 dp n).2.1 a j = if a = k1 ∧ dp ≤ j ∧ j < dp + n then S.2.1 k0 (sp + (j - dp)) else S.2.1 a j := rfl
theorem uD_get {S : sS} {k0 k1 a : Nat} {sp dp n j : Int} : (uD S k0 sp k1 dp n).2.2.1 a j = if a = k1 ∧ dp ≤ j ∧ j < dp + n then S.2.2.1 k0 (sp + (j - dp)) else S.2.2.1 a j := rfl
theorem uC_same {S : sS} {k0 k1 a : Nat} {sp dp n : Int} (h : a ≠ k1) : same S (uC S k0 sp k1 dp n) a := ⟨fun _ => rfl, fun _ => if_neg (fun q => h q.1), fun _ => rfl, fun _ => rfl⟩
theorem uD_same {S : sS} {k0 k1 a : Nat} {sp dp n : Int} (h : a ≠ k1) : same S (uD S k0 sp k1 dp n) a := ⟨fun _ => rfl, fun _ => rfl, fun _ => if_neg (fun q => h q.1), fun _ => rfl⟩
theorem fr.C {S u : sS} {P : Nat → Prop} {k0 k : Nat} {sp dp n : Int} (h : fr S u P) (hk : P k) : fr S (uC u k0 sp k dp n) P := ⟨fun a h1 => (h.1 a h1).trans (uC_same (fun e => h1 (e ▸ hk))), h.2⟩
section CPY
variable {p : Program} {l : Launch} {e : Env} {R : Room} {s : State} {m : MethodId} {args : Array Value} {below : List Frame} {meth : Method} {c : Code} {H : Heap} {locs : List Loc} {cells slots : Nat} {Q : State → Prop}
variable {cc : ByteArray} {pc nL : Nat} {ls : Array Slot} {rest : List Value} {G : sG} {n : Nat} {S : sS} {own : String}
theorem rCopyI (Cx : sC G p m c cc nL s args own) (hW : sW G n S H) (hL : sL G locs) (hml : c.maxLocals = ls.size) {index : Nat} (hlink : Cond.methodLink own index arraycopyName ∈ tb) (hnat : Cond.native arraycopyName ∈ tb) (hstat : Cond.static arraycopyName ∈ tb) (hini : Cond.initialized "java/lang/System" ∈ tb) {k0 k1 N0 N1 : Nat} (hk0 : k0 < n) (ht0 : tau k0 = .inr (.int, N0)) (hk1 : k1 < n) (ht1 : tau k1 = .inr (.int, N1)) (hN0 : N0 ≤ 2147483647) (hN1 : N1 ≤ 2147483647) {sp dp z : Int} (h1 : 0 ≤ sp) (h2 : 0 ≤ dp) (h3 : 0 ≤ z) (h4 : sp + z ≤ N0) (h5 : dp + z ≤ N1)
    (hframes : 1 ≤ R.frames) (hlocals : (rest.map fun v => v.category).sum + (nativeFrameWords "java/lang/System" "arraycopy" 5 + 11) ≤ R.locals) (hdg : decode cc pc = .ok (.invokestatic index, 3))
    (kk : ∀ (H1 : Heap) (locs1 : List Loc), sW G n (uC S k0 sp k1 dp z) H1 → sL G locs1 → W p l e R s m args below meth c H1 locs1 cells slots Q (F0 m (pc + 3) ls rest)) : W p l e R s m args below meth c H locs cells slots Q (F0 m pc ls (.int (iv z) :: .int (iv dp) :: .ref (G.2.2.1 + k1) :: .int (iv sp) :: .ref (G.2.2.1 + k0) :: rest)) := by
  obtain ⟨⟨hx, hb, hml2, hown, hts⟩, hK, -⟩ := Cx
  have c1 := iv_clamp h1 (by omega : sp ≤ 2147483647)
  have c2 := iv_clamp h2 (by omega : dp ≤ 2147483647)
  have c3 := iv_clamp h3 (by omega : z ≤ 2147483647)
  have i1 := iv_toInt (a := sp) (by omega)
  have i2 := iv_toInt (a := dp) (by omega)
  have i3 := iv_toInt (a := z) (by omega)
  have g1 : ¬ iv sp < 0 := by rw [iv_lt0 (by omega)]; omega
  have g2 : ¬ iv dp < 0 := by rw [iv_lt0 (by omega)]; omega
  have g3 : ¬ iv z < 0 := by rw [iv_lt0 (by omega)]; omega
  intro T hT X
  have hc0 : H[G.2.2.1 + k0]? = some (vp_cell (G.2.1 .int) (N0, .inl (fun j => iv (S.2.1 k0 j)))) := hW.arr hk0 ht0
  have hc1 : H[G.2.2.1 + k1]? = some (vp_cell (G.2.1 .int) (N1, .inl (fun j => iv (S.2.1 k1 j)))) := hW.arr hk1 ht1
  obtain ⟨-, q0, hq0, cm0, hkk0⟩ := (sArr hK 0 rfl).1 N0 (fun j => .int (iv (S.2.1 k0 j)))
  obtain ⟨-, q1, hq1, cm1, hkk1⟩ := (sArr hK 0 rfl).1 N1 (fun j => .int (iv (S.2.1 k1 j)))
  obtain ⟨vm', X', step⟩ := X.arraycopy hx hown (hts _ hlink) (hts _ hnat) (hts _ hstat) (hts _ hini) (src := G.2.2.1 + k0) (dst := G.2.2.1 + k1) (cs := vp_cell (G.2.1 .int) (N0, .inl (fun j => iv (S.2.1 k0 j)))) (cd := vp_cell (G.2.1 .int) (N1, .inl (fun j => iv (S.2.1 k1 j)))) (srcPos := iv sp) (destPos := iv dp) (n := iv z) (by rw [hT]; exact hc0) (by rw [hT]; exact hc1)
    (fun _ h => by cases h) (fun _ h => by cases h) (fun h => by cases h) (fun h => by cases h) hq0 hq1 hkk0 hkk1 (by simp [refKind]) g1 g2 g3
    (by rw [i1, i3]; show ¬ _ > ((arrV _ N0 (fun j => .int (iv (S.2.1 k0 j)))).slots.size : Int); rw [arrV_size]; omega)
    (by rw [i2, i3]; show ¬ _ > ((arrV _ N1 (fun j => .int (iv (S.2.1 k1 j)))).slots.size : Int); rw [arrV_size]; omega)
    (fun vm₁ _ i hi => by
      rw [c3] at hi
      have e : (vp_cell (G.2.1 .int) (N0, .inl (fun j => iv (S.2.1 k0 j)))).slots.getD ((iv sp).toNatClampNeg + i) .null = .int (iv (S.2.1 k0 ((iv sp).toNatClampNeg + i : Nat))) := by
        show (arrV _ N0 (fun j => .int (iv (S.2.1 k0 j)))).slots.getD _ _ = _
        rw [Array.getD_eq_getD_getElem?, arrV_read _ _ (by rw [c1]; omega)]
        rfl
      refine ⟨?_, ?_⟩
      · rw [e]; rfl
      · rw [e]; exact trivial)
    (g := F0 m pc ls (.int (iv z) :: .int (iv dp) :: .ref (G.2.2.1 + k1) :: .int (iv sp) :: .ref (G.2.2.1 + k0) :: rest)) rfl (by rw [hml]) (rest := rest) rfl (by rw [hb]; exact hdg) hframes (by show 2 * 0 + _ + _ ≤ _; omega)
  have e1 : copied (vp_cell (G.2.1 .int) (N0, .inl (fun j => iv (S.2.1 k0 j)))) (vp_cell (G.2.1 .int) (N1, .inl (fun j => iv (S.2.1 k1 j)))) (iv sp) (iv dp) (iv z) = vp_cell (G.2.1 .int) (N1, .inl (va_cpy (fun j => iv (S.2.1 k0 j)) (fun j => iv (S.2.1 k1 j)) sp.toNat dp.toNat z.toNat)) := by
    unfold copied
    rw [c1, c2, c3]
    exact va_copied (fun q => Value.int q) (G.2.1 .int) (G.2.1 .int) (fun j => iv (S.2.1 k0 j)) (fun j => iv (S.2.1 k1 j)) (n0 := N0) (n1 := N1) (sp := sp.toNat) (dp := dp.toNat) (n := z.toNat) (by omega)
  rw [e1] at X' step
  have hl : G.2.2.1 + k1 < H.size := (Array.getElem?_eq_some_iff.mp hc1).1
  have hheap : ((T.setVm vm').setCell (G.2.2.1 + k1) (vp_cell (G.2.1 .int) (N1, .inl (va_cpy (fun j => iv (S.2.1 k0 j)) (fun j => iv (S.2.1 k1 j)) sp.toNat dp.toNat z.toNat)))).heap = H.setIfInBounds (G.2.2.1 + k1) (vp_cell (G.2.1 .int) (N1, .inl (va_cpy (fun j => iv (S.2.1 k0 j)) (fun j => iv (S.2.1 k1 j)) sp.toNat dp.toNat z.toNat))) := by rw [← hT]; rfl
  have oq : ∀ q : Nat, q ≠ G.2.2.1 + k1 → (H.setIfInBounds (G.2.2.1 + k1) (vp_cell (G.2.1 .int) (N1, .inl (va_cpy (fun j => iv (S.2.1 k0 j)) (fun j => iv (S.2.1 k1 j)) sp.toNat dp.toNat z.toNat))))[q]? = H[q]? := fun q hq => by simp [Array.getElem?_setIfInBounds, Ne.symm hq]
  have hA : sA G (uC S k0 sp k1 dp z) k1 (tau k1) (H.setIfInBounds (G.2.2.1 + k1) (vp_cell (G.2.1 .int) (N1, .inl (va_cpy (fun j => iv (S.2.1 k0 j)) (fun j => iv (S.2.1 k1 j)) sp.toNat dp.toNat z.toNat)))) := by
    rw [ht1]
    show (H.setIfInBounds (G.2.2.1 + k1) _)[G.2.2.1 + k1]? = some (arrV _ _ _)
    rw [show (H.setIfInBounds (G.2.2.1 + k1) (vp_cell (G.2.1 .int) (N1, .inl (va_cpy (fun j => iv (S.2.1 k0 j)) (fun j => iv (S.2.1 k1 j)) sp.toNat dp.toNat z.toNat))))[G.2.2.1 + k1]? = some (vp_cell (G.2.1 .int) (N1, .inl (va_cpy (fun j => iv (S.2.1 k0 j)) (fun j => iv (S.2.1 k1 j)) sp.toNat dp.toNat z.toNat))) by simp [Array.getElem?_setIfInBounds, hl]]
    show some (arrV _ N1 (fun j => Value.int ((va_cpy (fun j => iv (S.2.1 k0 j)) (fun j => iv (S.2.1 k1 j)) sp.toNat dp.toNat z.toNat) j))) = some (arrV _ N1 (fun j => Value.int (iv ((uC S k0 sp k1 dp z).2.1 k1 j))))
    congr 2
    funext q
    rw [uC_get]
    unfold va_cpy
    by_cases hq : dp.toNat ≤ q ∧ q < dp.toNat + z.toNat
    · rw [if_pos hq, if_pos ⟨rfl, by omega, by omega⟩]
      have : ((sp.toNat + (q - dp.toNat) : Nat) : Int) = sp + ((q : Int) - dp) := by omega
      exact congrArg (fun z => Value.int (iv (S.2.1 k0 z))) this
    · rw [if_neg hq, if_neg (by omega)]
  obtain ⟨t, a1, b1⟩ := kk _ _ (hW.set hk1 (fun _ h => uC_same h) (by simp) oq hA) (sL_app hL (fun q hq => by
      obtain ⟨w, -, hw⟩ := List.mem_map.mp hq
      rw [← hw]
      exact Nat.le_add_right _ _)) _ hheap X'
  exact ⟨t, step t a1, b1⟩

theorem rCopyL (Cx : sC G p m c cc nL s args own) (hW : sW G n S H) (hL : sL G locs) (hml : c.maxLocals = ls.size) {index : Nat} (hlink : Cond.methodLink own index arraycopyName ∈ tb) (hnat : Cond.native arraycopyName ∈ tb) (hstat : Cond.static arraycopyName ∈ tb) (hini : Cond.initialized "java/lang/System" ∈ tb) {k0 k1 N0 N1 : Nat} (hk0 : k0 < n) (ht0 : tau k0 = .inr (.long, N0)) (hk1 : k1 < n) (ht1 : tau k1 = .inr (.long, N1)) (hN0 : N0 ≤ 2147483647) (hN1 : N1 ≤ 2147483647) {sp dp z : Int} (h1 : 0 ≤ sp) (h2 : 0 ≤ dp) (h3 : 0 ≤ z) (h4 : sp + z ≤ N0) (h5 : dp + z ≤ N1)
    (hframes : 1 ≤ R.frames) (hlocals : (rest.map fun v => v.category).sum + (nativeFrameWords "java/lang/System" "arraycopy" 5 + 11) ≤ R.locals) (hdg : decode cc pc = .ok (.invokestatic index, 3))
    (kk : ∀ (H1 : Heap) (locs1 : List Loc), sW G n (uD S k0 sp k1 dp z) H1 → sL G locs1 → W p l e R s m args below meth c H1 locs1 cells slots Q (F0 m (pc + 3) ls rest)) : W p l e R s m args below meth c H locs cells slots Q (F0 m pc ls (.int (iv z) :: .int (iv dp) :: .ref (G.2.2.1 + k1) :: .int (iv sp) :: .ref (G.2.2.1 + k0) :: rest)) := by
  obtain ⟨⟨hx, hb, hml2, hown, hts⟩, hK, -⟩ := Cx
  have c1 := iv_clamp h1 (by omega : sp ≤ 2147483647)
  have c2 := iv_clamp h2 (by omega : dp ≤ 2147483647)
  have c3 := iv_clamp h3 (by omega : z ≤ 2147483647)
  have i1 := iv_toInt (a := sp) (by omega)
  have i2 := iv_toInt (a := dp) (by omega)
  have i3 := iv_toInt (a := z) (by omega)
  have g1 : ¬ iv sp < 0 := by rw [iv_lt0 (by omega)]; omega
  have g2 : ¬ iv dp < 0 := by rw [iv_lt0 (by omega)]; omega
  have g3 : ¬ iv z < 0 := by rw [iv_lt0 (by omega)]; omega
  intro T hT X
  have hc0 : H[G.2.2.1 + k0]? = some (vp_cell (G.2.1 .long) (N0, .inr (.inl (fun j => jv (S.2.2.1 k0 j))))) := hW.arr hk0 ht0
  have hc1 : H[G.2.2.1 + k1]? = some (vp_cell (G.2.1 .long) (N1, .inr (.inl (fun j => jv (S.2.2.1 k1 j))))) := hW.arr hk1 ht1
  obtain ⟨-, q0, hq0, cm0, hkk0⟩ := (sArr hK 1 rfl).1 N0 (fun j => .long (jv (S.2.2.1 k0 j)))
  obtain ⟨-, q1, hq1, cm1, hkk1⟩ := (sArr hK 1 rfl).1 N1 (fun j => .long (jv (S.2.2.1 k1 j)))
  obtain ⟨vm', X', step⟩ := X.arraycopy hx hown (hts _ hlink) (hts _ hnat) (hts _ hstat) (hts _ hini) (src := G.2.2.1 + k0) (dst := G.2.2.1 + k1) (cs := vp_cell (G.2.1 .long) (N0, .inr (.inl (fun j => jv (S.2.2.1 k0 j))))) (cd := vp_cell (G.2.1 .long) (N1, .inr (.inl (fun j => jv (S.2.2.1 k1 j))))) (srcPos := iv sp) (destPos := iv dp) (n := iv z) (by rw [hT]; exact hc0) (by rw [hT]; exact hc1)
    (fun _ h => by cases h) (fun _ h => by cases h) (fun h => by cases h) (fun h => by cases h) hq0 hq1 hkk0 hkk1 (by simp [refKind]) g1 g2 g3
    (by rw [i1, i3]; show ¬ _ > ((arrV _ N0 (fun j => .long (jv (S.2.2.1 k0 j)))).slots.size : Int); rw [arrV_size]; omega)
    (by rw [i2, i3]; show ¬ _ > ((arrV _ N1 (fun j => .long (jv (S.2.2.1 k1 j)))).slots.size : Int); rw [arrV_size]; omega)
    (fun vm₁ _ i hi => by
      rw [c3] at hi
      have e : (vp_cell (G.2.1 .long) (N0, .inr (.inl (fun j => jv (S.2.2.1 k0 j))))).slots.getD ((iv sp).toNatClampNeg + i) .null = .long (jv (S.2.2.1 k0 ((iv sp).toNatClampNeg + i : Nat))) := by
        show (arrV _ N0 (fun j => .long (jv (S.2.2.1 k0 j)))).slots.getD _ _ = _
        rw [Array.getD_eq_getD_getElem?, arrV_read _ _ (by rw [c1]; omega)]
        rfl
      refine ⟨?_, ?_⟩
      · rw [e]; rfl
      · rw [e]; exact trivial)
    (g := F0 m pc ls (.int (iv z) :: .int (iv dp) :: .ref (G.2.2.1 + k1) :: .int (iv sp) :: .ref (G.2.2.1 + k0) :: rest)) rfl (by rw [hml]) (rest := rest) rfl (by rw [hb]; exact hdg) hframes (by show 2 * 0 + _ + _ ≤ _; omega)
  have e1 : copied (vp_cell (G.2.1 .long) (N0, .inr (.inl (fun j => jv (S.2.2.1 k0 j))))) (vp_cell (G.2.1 .long) (N1, .inr (.inl (fun j => jv (S.2.2.1 k1 j))))) (iv sp) (iv dp) (iv z) = vp_cell (G.2.1 .long) (N1, .inr (.inl (va_cpy (fun j => jv (S.2.2.1 k0 j)) (fun j => jv (S.2.2.1 k1 j)) sp.toNat dp.toNat z.toNat))) := by
    unfold copied
    rw [c1, c2, c3]
    exact va_copied (fun q => Value.long q) (G.2.1 .long) (G.2.1 .long) (fun j => jv (S.2.2.1 k0 j)) (fun j => jv (S.2.2.1 k1 j)) (n0 := N0) (n1 := N1) (sp := sp.toNat) (dp := dp.toNat) (n := z.toNat) (by omega)
  rw [e1] at X' step
  have hl : G.2.2.1 + k1 < H.size := (Array.getElem?_eq_some_iff.mp hc1).1
  have hheap : ((T.setVm vm').setCell (G.2.2.1 + k1) (vp_cell (G.2.1 .long) (N1, .inr (.inl (va_cpy (fun j => jv (S.2.2.1 k0 j)) (fun j => jv (S.2.2.1 k1 j)) sp.toNat dp.toNat z.toNat))))).heap = H.setIfInBounds (G.2.2.1 + k1) (vp_cell (G.2.1 .long) (N1, .inr (.inl (va_cpy (fun j => jv (S.2.2.1 k0 j)) (fun j => jv (S.2.2.1 k1 j)) sp.toNat dp.toNat z.toNat)))) := by rw [← hT]; rfl
  have oq : ∀ q : Nat, q ≠ G.2.2.1 + k1 → (H.setIfInBounds (G.2.2.1 + k1) (vp_cell (G.2.1 .long) (N1, .inr (.inl (va_cpy (fun j => jv (S.2.2.1 k0 j)) (fun j => jv (S.2.2.1 k1 j)) sp.toNat dp.toNat z.toNat)))))[q]? = H[q]? := fun q hq => by simp [Array.getElem?_setIfInBounds, Ne.symm hq]
  have hA : sA G (uD S k0 sp k1 dp z) k1 (tau k1) (H.setIfInBounds (G.2.2.1 + k1) (vp_cell (G.2.1 .long) (N1, .inr (.inl (va_cpy (fun j => jv (S.2.2.1 k0 j)) (fun j => jv (S.2.2.1 k1 j)) sp.toNat dp.toNat z.toNat))))) := by
    rw [ht1]
    show (H.setIfInBounds (G.2.2.1 + k1) _)[G.2.2.1 + k1]? = some (arrV _ _ _)
    rw [show (H.setIfInBounds (G.2.2.1 + k1) (vp_cell (G.2.1 .long) (N1, .inr (.inl (va_cpy (fun j => jv (S.2.2.1 k0 j)) (fun j => jv (S.2.2.1 k1 j)) sp.toNat dp.toNat z.toNat)))))[G.2.2.1 + k1]? = some (vp_cell (G.2.1 .long) (N1, .inr (.inl (va_cpy (fun j => jv (S.2.2.1 k0 j)) (fun j => jv (S.2.2.1 k1 j)) sp.toNat dp.toNat z.toNat)))) by simp [Array.getElem?_setIfInBounds, hl]]
    show some (arrV _ N1 (fun j => Value.long ((va_cpy (fun j => jv (S.2.2.1 k0 j)) (fun j => jv (S.2.2.1 k1 j)) sp.toNat dp.toNat z.toNat) j))) = some (arrV _ N1 (fun j => Value.long (jv ((uD S k0 sp k1 dp z).2.2.1 k1 j))))
    congr 2
    funext q
    rw [uD_get]
    unfold va_cpy
    by_cases hq : dp.toNat ≤ q ∧ q < dp.toNat + z.toNat
    · rw [if_pos hq, if_pos ⟨rfl, by omega, by omega⟩]
      have : ((sp.toNat + (q - dp.toNat) : Nat) : Int) = sp + ((q : Int) - dp) := by omega
      exact congrArg (fun z => Value.long (jv (S.2.2.1 k0 z))) this
    · rw [if_neg hq, if_neg (by omega)]
  obtain ⟨t, a1, b1⟩ := kk _ _ (hW.set hk1 (fun _ h => uD_same h) (by simp) oq hA) (sL_app hL (fun q hq => by
      obtain ⟨w, -, hw⟩ := List.mem_map.mp hq
      rw [← hw]
      exact Nat.le_add_right _ _)) _ hheap X'
  exact ⟨t, step t a1, b1⟩

end CPY
