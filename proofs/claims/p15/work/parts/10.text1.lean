/-! Text: o the object, o + 1 its bytes -/
def rg (o n k : Nat) : Prop := o ≤ k ∧ k < o + n
def fr (S u : sS) (P : Nat → Prop) : Prop := (∀ k, ¬ P k → same S u k) ∧ u.2.2 = S.2.2
theorem same.trans {S T U : sS} {k : Nat} (h : same S T k) (g : same T U k) : same S U k := ⟨fun i => (g.1 i).trans (h.1 i), fun i => (g.2.1 i).trans (h.2.1 i), fun i => (g.2.2.1 i).trans (h.2.2.1 i), fun i => (g.2.2.2 i).trans (h.2.2.2 i)⟩
theorem fr.rf {S : sS} {P : Nat → Prop} : fr S S P := ⟨fun _ _ => same.rf, rfl⟩
theorem fr.F {S u : sS} {P : Nat → Prop} {k i : Nat} {x : Int} (h : fr S u P) (hk : P k) : fr S (uF u k i x) P := ⟨fun a h1 => (h.1 a h1).trans (uF_same (fun e => h1 (e ▸ hk))), h.2⟩
theorem fr.A {S u : sS} {P : Nat → Prop} {k : Nat} {i x : Int} (h : fr S u P) (hk : P k) : fr S (uA u k i x) P := ⟨fun a h1 => (h.1 a h1).trans (uA_same (fun e => h1 (e ▸ hk))), h.2⟩
theorem fr.trans {S T U : sS} {P : Nat → Prop} (h : fr S T P) (g : fr T U P) : fr S U P := ⟨fun k h1 => (h.1 k h1).trans (g.1 k h1), g.2.trans h.2⟩
theorem fr.mono {S U : sS} {P P' : Nat → Prop} (h : fr S U P) (g : ∀ k, P k → P' k) : fr S U P' := ⟨fun k h1 => h.1 k (fun q => h1 (g k q)), h.2⟩
theorem rg_in {o n i : Nat} (h : i < n) : rg o n (o + i) := ⟨by omega, by omega⟩
theorem rg_0 {o n : Nat} (h : 0 < n) : rg o n o := ⟨by omega, by omega⟩
def TextOK (S : sS) (o N : Nat) : Prop := (0 ≤ S.1 o 1 ∧ S.1 o 1 ≤ N) ∧ (S.1 o 2 = 0 ∨ S.1 o 2 = 1) ∧ ∀ i : Int, 0 ≤ i → i < N → -128 ≤ S.2.1 (o + 1) i ∧ S.2.1 (o + 1) i ≤ 127
def TextAt (G : sG) (S : sS) (o N : Nat) : Prop := tau o = .inl 10 ∧ tau (o + 1) = .inr (.byte, N) ∧ o + 1 < 294 ∧ N ≤ 30000 ∧ S.2.2.2 o 0 = .ref (G.2.2.1 + (o + 1))
theorem TextAt.fr {G : sG} {S u : sS} {o N : Nat} {P : Nat → Prop} (h : TextAt G S o N) (f : fr S u P) : TextAt G u o N := ⟨h.1, h.2.1, h.2.2.1, h.2.2.2.1, by rw [f.2]; exact h.2.2.2.2⟩
theorem TextOK.fr {S u : sS} {o N : Nat} {P : Nat → Prop} (h : TextOK S o N) (f : fr S u P) (h1 : ¬ P o) (h2 : ¬ P (o + 1)) : TextOK u o N := by
  have a := f.1 o h1
  have b := f.1 (o + 1) h2
  exact ⟨by rw [a.1]; exact h.1, by rw [a.1]; exact h.2.1, fun i h0 h1 => by rw [b.2.1]; exact h.2.2 i h0 h1⟩
theorem byte_put {S : sS} {o : Nat} {N : Nat} {i x : Int} (h : ∀ j : Int, 0 ≤ j → j < N → -128 ≤ S.2.1 (o + 1) j ∧ S.2.1 (o + 1) j ≤ 127) (h1 : -128 ≤ x) (h2 : x ≤ 127) : ∀ j : Int, 0 ≤ j → j < N → -128 ≤ (uA S (o + 1) i x).2.1 (o + 1) j ∧ (uA S (o + 1) i x).2.1 (o + 1) j ≤ 127 := fun j hj hj2 => by
  rw [uA_get]
  split
  · exact ⟨h1, h2⟩
  · exact h j hj hj2
set_option maxRecDepth 100000 in
set_option maxHeartbeats 4000000 in
theorem t_X10_length (l : Launch) (G : sG) (S : sS) {o N : Nat} (hA : TextAt G S o N) (hT : TextOK S o N) : Met l yX10_length (.code yX10_length cX10_length 1 (some .int) :: tb) (rmk 1 0 0) (sPc G 294 S [.ref (G.2.2.1 + o)]) (sQi G 294 (fun r u => r = S.1 o 1 ∧ u = S)) 0 0 (sF G) := by
  refine sEnter (by decide) (Nat.le_of_ble_eq_true rfl) ?_
  intro p e s m args below meth c Cx hr hlk hnm hW ls hl
  have Cx : sC G p m c cX10_length 1 s args RX10 := Cx
  obtain ⟨hx, hb, hml, hown, hts⟩ := id Cx.1
  have hL : sL G [] := sL_nil
  have hl : lv_has ls 1 [(0, .ref (G.2.2.1 + o))] := hl
  obtain ⟨ho, ho1, hlt, hN, hr0⟩ := id hA
  obtain ⟨⟨hl0, hl1⟩, hov, hby⟩ := id hT
  refine lv_aload_n hx hb dX10_length_0 rfl (lv_at hl 0 rfl) ?_
  refine g_X10_21 Cx hW (k := o) (by omega) ho (v := S.1 o 1) rfl dX10_length_1 ?_
  exact sIret Cx hr hlk hW hL ⟨rfl, rfl⟩ dX10_length_4

set_option maxRecDepth 100000 in
set_option maxHeartbeats 4000000 in
theorem t_X10_isOver (l : Launch) (G : sG) (S : sS) {o N : Nat} (hA : TextAt G S o N) (hT : TextOK S o N) : Met l yX10_isOver (.code yX10_isOver cX10_isOver 1 (some .boolean) :: tb) (rmk 1 0 0) (sPc G 294 S [.ref (G.2.2.1 + o)]) (sQi G 294 (fun r u => r = S.1 o 2 ∧ u = S)) 0 0 (sF G) := by
  refine sEnter (by decide) (Nat.le_of_ble_eq_true rfl) ?_
  intro p e s m args below meth c Cx hr hlk hnm hW ls hl
  have Cx : sC G p m c cX10_isOver 1 s args RX10 := Cx
  obtain ⟨hx, hb, hml, hown, hts⟩ := id Cx.1
  have hL : sL G [] := sL_nil
  have hl : lv_has ls 1 [(0, .ref (G.2.2.1 + o))] := hl
  obtain ⟨ho, ho1, hlt, hN, hr0⟩ := id hA
  obtain ⟨⟨hl0, hl1⟩, hov, hby⟩ := id hT
  refine lv_aload_n hx hb dX10_isOver_0 rfl (lv_at hl 0 rfl) ?_
  refine g_X10_25 Cx hW (k := o) (by omega) ho (v := S.1 o 2) rfl dX10_isOver_1 ?_
  exact sZret Cx hr hlk hW hL (by omega) ⟨rfl, rfl⟩ dX10_isOver_4

set_option maxRecDepth 100000 in
set_option maxHeartbeats 4000000 in
theorem t_X10_clear (l : Launch) (G : sG) (S : sS) {o N : Nat} (hA : TextAt G S o N) (hT : TextOK S o N) : Met l yX10_clear (.code yX10_clear cX10_clear 1 none :: tb) (rmk 1 0 0) (sPc G 294 S [.ref (G.2.2.1 + o)]) (sQv G 294 (fun u => fr S u (rg o 2) ∧ TextOK u o N ∧ u.1 o 1 = 0)) 0 0 (sF G) := by
  refine sEnter (by decide) (Nat.le_of_ble_eq_true rfl) ?_
  intro p e s m args below meth c Cx hr hlk hnm hW ls hl
  have Cx : sC G p m c cX10_clear 1 s args RX10 := Cx
  obtain ⟨hx, hb, hml, hown, hts⟩ := id Cx.1
  have hL : sL G [] := sL_nil
  have hl : lv_has ls 1 [(0, .ref (G.2.2.1 + o))] := hl
  obtain ⟨ho, ho1, hlt, hN, hr0⟩ := id hA
  obtain ⟨⟨hl0, hl1⟩, hov, hby⟩ := id hT
  refine lv_aload_n hx hb dX10_clear_0 rfl (lv_at hl 0 rfl) ?_
  refine lv_iconst (v := iv 0) hx hb dX10_clear_1 (by decide) ?_
  refine p_X10_21 Cx hW hL (k := o) (by omega) ho dX10_clear_2 (fun H locs hW hL => ?_)
  refine lv_aload_n hx hb dX10_clear_5 rfl (lv_at hl 0 rfl) ?_
  refine lv_iconst (v := iv 0) hx hb dX10_clear_6 (by decide) ?_
  refine p_X10_25 Cx hW hL (k := o) (by omega) ho (by omega) dX10_clear_7 (fun H locs hW hL => ?_)
  exact sVret Cx hr hlk hW hL ⟨(fr.rf.F (rg_0 (by decide))).F (rg_0 (by decide)), ⟨by simp [uF_get], by simp [uF_get], hby⟩, by simp [uF_get]⟩ dX10_clear_10

set_option maxRecDepth 100000 in
set_option maxHeartbeats 4000000 in
theorem t_X10_byteAt (l : Launch) (G : sG) (S : sS) {o N : Nat} {k : Int} (hA : TextAt G S o N) (hT : TextOK S o N) (hk : -2147483648 ≤ k ∧ k ≤ 2147483647) : Met l yX10_byteAt (.code yX10_byteAt cX10_byteAt 2 (some .int) :: tb) (rmk 1 0 0) (sPc G 294 S [.ref (G.2.2.1 + o), .int (iv k)]) (sQi G 294 (fun r u => u = S ∧ -1 ≤ r ∧ r ≤ 255 ∧ (0 ≤ k → k < S.1 o 1 → 0 ≤ r))) 0 0 (sF G) := by
  refine sEnter (by decide) (Nat.le_of_ble_eq_true rfl) ?_
  intro p e s m args below meth c Cx hr hlk hnm hW ls hl
  have Cx : sC G p m c cX10_byteAt 2 s args RX10 := Cx
  obtain ⟨hx, hb, hml, hown, hts⟩ := id Cx.1
  have hL : sL G [] := sL_nil
  have hl : lv_has ls 2 [(0, .ref (G.2.2.1 + o)), (1, .int (iv k))] := hl
  obtain ⟨ho, ho1, hlt, hN, hr0⟩ := id hA
  obtain ⟨⟨hl0, hl1⟩, hov, hby⟩ := id hT
  refine lv_iload_n hx hb dX10_byteAt_0 rfl (lv_at hl 1 rfl) ?_
  refine r_if_lt (tgt := 12) hx hb ⟨(by omega), (by omega)⟩ dX10_byteAt_1 (by decide) (fun c_1 => ?_) (fun c_1 => ?_)
  · refine lv_iconst (v := iv (-1)) hx hb dX10_byteAt_12 (by decide) ?_
    refine lv_goto (tgt := 26) hx hb dX10_byteAt_13 (by decide) ?_
    exact sIret Cx hr hlk hW hL ⟨rfl, by omega, by omega, by omega⟩ dX10_byteAt_26
  · refine lv_iload_n hx hb dX10_byteAt_4 rfl (lv_at hl 1 rfl) ?_
    refine lv_aload_n hx hb dX10_byteAt_5 rfl (lv_at hl 0 rfl) ?_
    refine g_X10_21 Cx hW (k := o) (by omega) ho (v := S.1 o 1) rfl dX10_byteAt_6 ?_
    refine r_icmp_lt (tgt := 16) hx hb ⟨(by omega), (by omega)⟩ ⟨(by omega), (by omega)⟩ dX10_byteAt_9 (by decide) (fun c_2 => ?_) (fun c_2 => ?_)
    · refine lv_aload_n hx hb dX10_byteAt_16 rfl (lv_at hl 0 rfl) ?_
      refine g_X10_15 Cx hW (k := o) (by omega) ho (v := .ref (G.2.2.1 + (o + 1))) hr0 dX10_byteAt_17 ?_
      refine lv_iload_n hx hb dX10_byteAt_20 rfl (lv_at hl 1 rfl) ?_
      refine rBald Cx hW (k := o + 1) (by omega) ho1 (by omega) (by omega) (by omega) dX10_byteAt_21 ?_
      have q_3 := hby k (by omega) (by omega)
      refine lv_sipush (v := iv 255) hx hb dX10_byteAt_22 (by decide) ?_
      refine r_and255 hx hb dX10_byteAt_25 (fun z_4 hz_4 kz_4 => ?_)
      exact sIret Cx hr hlk hW hL ⟨rfl, by omega, by omega, by omega⟩ dX10_byteAt_26
    · refine lv_iconst (v := iv (-1)) hx hb dX10_byteAt_12 (by decide) ?_
      refine lv_goto (tgt := 26) hx hb dX10_byteAt_13 (by decide) ?_
      exact sIret Cx hr hlk hW hL ⟨rfl, by omega, by omega, by omega⟩ dX10_byteAt_26

set_option maxRecDepth 100000 in
set_option maxHeartbeats 4000000 in
theorem t_X10_shorten (l : Launch) (G : sG) (S : sS) {o N : Nat} {k : Int} (hA : TextAt G S o N) (hT : TextOK S o N) (hk : -2147483648 ≤ k ∧ k ≤ 2147483647) : Met l yX10_shorten (.code yX10_shorten cX10_shorten 2 (some .boolean) :: tb) (rmk 1 0 0) (sPc G 294 S [.ref (G.2.2.1 + o), .int (iv k)]) (sQi G 294 (fun r u => fr S u (rg o 2) ∧ TextOK u o N ∧ (0 ≤ k ∧ k ≤ S.1 o 1 → r = 1 ∧ u.1 o 1 = k) ∧ (¬ (0 ≤ k ∧ k ≤ S.1 o 1) → r = 0 ∧ u.1 o 1 = S.1 o 1))) 0 0 (sF G) := by
  refine sEnter (by decide) (Nat.le_of_ble_eq_true rfl) ?_
  intro p e s m args below meth c Cx hr hlk hnm hW ls hl
  have Cx : sC G p m c cX10_shorten 2 s args RX10 := Cx
  obtain ⟨hx, hb, hml, hown, hts⟩ := id Cx.1
  have hL : sL G [] := sL_nil
  have hl : lv_has ls 2 [(0, .ref (G.2.2.1 + o)), (1, .int (iv k))] := hl
  obtain ⟨ho, ho1, hlt, hN, hr0⟩ := id hA
  obtain ⟨⟨hl0, hl1⟩, hov, hby⟩ := id hT
  refine lv_iload_n hx hb dX10_shorten_0 rfl (lv_at hl 1 rfl) ?_
  refine r_if_lt (tgt := 12) hx hb ⟨(by omega), (by omega)⟩ dX10_shorten_1 (by decide) (fun c_1 => ?_) (fun c_1 => ?_)
  · refine lv_iconst (v := iv 0) hx hb dX10_shorten_12 (by decide) ?_
    exact sZret Cx hr hlk hW hL (by omega) ⟨fr.rf, hT, by omega, by omega⟩ dX10_shorten_13
  · refine lv_iload_n hx hb dX10_shorten_4 rfl (lv_at hl 1 rfl) ?_
    refine lv_aload_n hx hb dX10_shorten_5 rfl (lv_at hl 0 rfl) ?_
    refine g_X10_21 Cx hW (k := o) (by omega) ho (v := S.1 o 1) rfl dX10_shorten_6 ?_
    refine r_icmp_le (tgt := 14) hx hb ⟨(by omega), (by omega)⟩ ⟨(by omega), (by omega)⟩ dX10_shorten_9 (by decide) (fun c_2 => ?_) (fun c_2 => ?_)
    · refine lv_aload_n hx hb dX10_shorten_14 rfl (lv_at hl 0 rfl) ?_
      refine lv_iload_n hx hb dX10_shorten_15 rfl (lv_at hl 1 rfl) ?_
      refine p_X10_21 Cx hW hL (k := o) (by omega) ho dX10_shorten_16 (fun H locs hW hL => ?_)
      refine lv_iconst (v := iv 1) hx hb dX10_shorten_19 (by decide) ?_
      exact sZret Cx hr hlk hW hL (by omega) ⟨fr.rf.F (rg_0 (by decide)), ⟨by simp [uF_get]; omega, by simpa [uF_get] using hov, hby⟩, by simp [uF_get], by omega⟩ dX10_shorten_20
    · refine lv_iconst (v := iv 0) hx hb dX10_shorten_12 (by decide) ?_
      exact sZret Cx hr hlk hW hL (by omega) ⟨fr.rf, hT, by omega, by omega⟩ dX10_shorten_13

set_option maxRecDepth 100000 in
set_option maxHeartbeats 4000000 in
theorem t_X10_put (l : Launch) (G : sG) (S : sS) {o N : Nat} {k : Int} (hA : TextAt G S o N) (hT : TextOK S o N) (hk : -2147483648 ≤ k ∧ k ≤ 2147483647) : Met l yX10_put (.code yX10_put cX10_put 2 none :: tb) (rmk 1 0 0) (sPc G 294 S [.ref (G.2.2.1 + o), .int (iv k)]) (sQv G 294 (fun u => fr S u (rg o 2) ∧ TextOK u o N ∧ (S.1 o 1 < N → u.1 o 1 = S.1 o 1 + 1) ∧ (N ≤ S.1 o 1 → u.1 o 1 = S.1 o 1))) 0 0 (sF G) := by
  refine sEnter (by decide) (Nat.le_of_ble_eq_true rfl) ?_
  intro p e s m args below meth c Cx hr hlk hnm hW ls hl
  have Cx : sC G p m c cX10_put 2 s args RX10 := Cx
  obtain ⟨hx, hb, hml, hown, hts⟩ := id Cx.1
  have hL : sL G [] := sL_nil
  have hl : lv_has ls 2 [(0, .ref (G.2.2.1 + o)), (1, .int (iv k))] := hl
  obtain ⟨ho, ho1, hlt, hN, hr0⟩ := id hA
  obtain ⟨⟨hl0, hl1⟩, hov, hby⟩ := id hT
  refine lv_aload_n hx hb dX10_put_0 rfl (lv_at hl 0 rfl) ?_
  refine g_X10_21 Cx hW (k := o) (by omega) ho (v := S.1 o 1) rfl dX10_put_1 ?_
  refine lv_aload_n hx hb dX10_put_4 rfl (lv_at hl 0 rfl) ?_
  refine g_X10_15 Cx hW (k := o) (by omega) ho (v := .ref (G.2.2.1 + (o + 1))) hr0 dX10_put_5 ?_
  refine sAlen Cx hW (k := o + 1) (by omega) ho1 2 rfl dX10_put_8 ?_
  refine r_icmp_lt (tgt := 18) hx hb ⟨(by omega), (by omega)⟩ ⟨(by omega), (by omega)⟩ dX10_put_9 (by decide) (fun c_1 => ?_) (fun c_1 => ?_)
  · refine lv_aload_n hx hb dX10_put_18 rfl (lv_at hl 0 rfl) ?_
    refine g_X10_15 Cx hW (k := o) (by omega) ho (v := .ref (G.2.2.1 + (o + 1))) hr0 dX10_put_19 ?_
    refine lv_aload_n hx hb dX10_put_22 rfl (lv_at hl 0 rfl) ?_
    refine g_X10_21 Cx hW (k := o) (by omega) ho (v := S.1 o 1) rfl dX10_put_23 ?_
    refine lv_iload_n hx hb dX10_put_26 rfl (lv_at hl 1 rfl) ?_
    refine r_i2b hx hb dX10_put_27 (fun z_2 hz_2 kz_2 => ?_)
    refine rBast Cx hW hL (k := o + 1) (by omega) ho1 (by omega) (by omega) (by omega) (nar_b (by omega) (by omega)) dX10_put_28 (fun H locs hW hL => ?_)
    refine lv_aload_n hx hb dX10_put_29 rfl (lv_at hl 0 rfl) ?_
    refine lv_dup hx hb dX10_put_30 rfl ?_
    refine g_X10_21 Cx hW (k := o) (by omega) ho (v := S.1 o 1) rfl dX10_put_31 ?_
    refine lv_iconst (v := iv 1) hx hb dX10_put_34 (by decide) ?_
    refine r_iadd hx hb dX10_put_35 ?_
    refine p_X10_21 Cx hW hL (k := o) (by omega) ho dX10_put_36 (fun H locs hW hL => ?_)
    exact sVret Cx hr hlk hW hL ⟨(fr.rf.A (rg_in (by decide))).F (rg_0 (by decide)), ⟨by simp [uF_get, uA_F]; omega, by simpa [uF_get, uA_F] using hov, byte_put hby (by omega) (by omega)⟩, by simp [uF_get, uA_F], by omega⟩ dX10_put_39
  · refine lv_aload_n hx hb dX10_put_12 rfl (lv_at hl 0 rfl) ?_
    refine lv_iconst (v := iv 1) hx hb dX10_put_13 (by decide) ?_
    refine p_X10_25 Cx hW hL (k := o) (by omega) ho (by omega) dX10_put_14 (fun H locs hW hL => ?_)
    exact sVret Cx hr hlk hW hL ⟨fr.rf.F (rg_0 (by decide)), ⟨by simp [uF_get]; omega, by simp [uF_get], hby⟩, by omega, by simp [uF_get]⟩ dX10_put_17

set_option maxRecDepth 100000 in
set_option maxHeartbeats 4000000 in
theorem t_X10_putFour (l : Launch) (G : sG) (S : sS) {o N : Nat} {k : Int} (hA : TextAt G S o N) (hT : TextOK S o N) (hk : -2147483648 ≤ k ∧ k ≤ 2147483647) : Met l yX10_putFour (.code yX10_putFour cX10_putFour 2 none :: tb) (rmk 2 0 0) (sPc G 294 S [.ref (G.2.2.1 + o), .int (iv k)]) (sQv G 294 (fun u => fr S u (rg o 2) ∧ TextOK u o N ∧ (S.1 o 1 + 4 ≤ N → u.1 o 1 = S.1 o 1 + 4))) 0 0 (sF G) := by
  refine sEnter (by decide) (Nat.le_of_ble_eq_true rfl) ?_
  intro p e s m args below meth c Cx hr hlk hnm hW ls hl
  have Cx : sC G p m c cX10_putFour 2 s args RX10 := Cx
  obtain ⟨hx, hb, hml, hown, hts⟩ := id Cx.1
  have hL : sL G [] := sL_nil
  have hl : lv_has ls 2 [(0, .ref (G.2.2.1 + o)), (1, .int (iv k))] := hl
  obtain ⟨ho, ho1, hlt, hN, hr0⟩ := id hA
  obtain ⟨⟨hl0, hl1⟩, hov, hby⟩ := id hT
  refine lv_aload_n hx hb dX10_putFour_0 rfl (lv_at hl 0 rfl) ?_
  refine lv_iload_n hx hb dX10_putFour_1 rfl (lv_at hl 1 rfl) ?_
  refine lv_bipush (v := iv 24) hx hb dX10_putFour_2 (by decide) ?_
  refine r_any_iushr hx hb dX10_putFour_4 (fun z_1 hz_1 kz_1 => ?_)
  refine sBv (sV (As := [.int (iv z_1)]) (rest := []) (k := o) Cx (t_X10_put l G S hA hT (k := z_1) ⟨by omega, by omega⟩) (c_X10_29 Cx rfl rfl (rmk_ok (by omega) (by decide))) hW (by omega) ho rfl rfl hl.1 rfl (Nat.le_of_ble_eq_true rfl) dX10_putFour_5 ⟨Nat.le_of_ble_eq_true rfl, Nat.le_of_ble_eq_true rfl⟩) hL (fun u_2 H locs k_3 hW hL => ?_)
  obtain ⟨fu_2, tu_2, au_2, bu_2⟩ := k_3
  have Au_2 := hA.fr fu_2
  have hru_2 := Au_2.2.2.2.2
  have ou_2 := tu_2.1
  refine lv_aload_n hx hb dX10_putFour_8 rfl (lv_at hl 0 rfl) ?_
  refine lv_iload_n hx hb dX10_putFour_9 rfl (lv_at hl 1 rfl) ?_
  refine lv_bipush (v := iv 16) hx hb dX10_putFour_10 (by decide) ?_
  refine r_any_iushr hx hb dX10_putFour_12 (fun z_4 hz_4 kz_4 => ?_)
  refine sBv (sV (As := [.int (iv z_4)]) (rest := []) (k := o) Cx (t_X10_put l G u_2 Au_2 tu_2 (k := z_4) ⟨by omega, by omega⟩) (c_X10_29 Cx rfl rfl (rmk_ok (by omega) (by decide))) hW (by omega) ho rfl rfl hl.1 rfl (Nat.le_of_ble_eq_true rfl) dX10_putFour_13 ⟨Nat.le_of_ble_eq_true rfl, Nat.le_of_ble_eq_true rfl⟩) hL (fun u_5 H locs k_6 hW hL => ?_)
  obtain ⟨fu_5, tu_5, au_5, bu_5⟩ := k_6
  have Au_5 := Au_2.fr fu_5
  have hru_5 := Au_5.2.2.2.2
  have ou_5 := tu_5.1
  refine lv_aload_n hx hb dX10_putFour_16 rfl (lv_at hl 0 rfl) ?_
  refine lv_iload_n hx hb dX10_putFour_17 rfl (lv_at hl 1 rfl) ?_
  refine lv_bipush (v := iv 8) hx hb dX10_putFour_18 (by decide) ?_
  refine r_any_iushr hx hb dX10_putFour_20 (fun z_7 hz_7 kz_7 => ?_)
  refine sBv (sV (As := [.int (iv z_7)]) (rest := []) (k := o) Cx (t_X10_put l G u_5 Au_5 tu_5 (k := z_7) ⟨by omega, by omega⟩) (c_X10_29 Cx rfl rfl (rmk_ok (by omega) (by decide))) hW (by omega) ho rfl rfl hl.1 rfl (Nat.le_of_ble_eq_true rfl) dX10_putFour_21 ⟨Nat.le_of_ble_eq_true rfl, Nat.le_of_ble_eq_true rfl⟩) hL (fun u_8 H locs k_9 hW hL => ?_)
  obtain ⟨fu_8, tu_8, au_8, bu_8⟩ := k_9
  have Au_8 := Au_5.fr fu_8
  have hru_8 := Au_8.2.2.2.2
  have ou_8 := tu_8.1
  refine lv_aload_n hx hb dX10_putFour_24 rfl (lv_at hl 0 rfl) ?_
  refine lv_iload_n hx hb dX10_putFour_25 rfl (lv_at hl 1 rfl) ?_
  refine sBv (sV (As := [.int (iv k)]) (rest := []) (k := o) Cx (t_X10_put l G u_8 Au_8 tu_8 (k := k) ⟨by omega, by omega⟩) (c_X10_29 Cx rfl rfl (rmk_ok (by omega) (by decide))) hW (by omega) ho rfl rfl hl.1 rfl (Nat.le_of_ble_eq_true rfl) dX10_putFour_26 ⟨Nat.le_of_ble_eq_true rfl, Nat.le_of_ble_eq_true rfl⟩) hL (fun u_10 H locs k_11 hW hL => ?_)
  obtain ⟨fu_10, tu_10, au_10, bu_10⟩ := k_11
  have Au_10 := Au_8.fr fu_10
  have hru_10 := Au_10.2.2.2.2
  have ou_10 := tu_10.1
  exact sVret Cx hr hlk hW hL ⟨(((fu_2).trans fu_5).trans fu_8).trans fu_10, tu_10, by omega⟩ dX10_putFour_29
