theorem tab8 {j v : Int} : ((ab 8 j).1 ≤ v ∧ v ≤ (ab 8 j).2) ↔ ((-2147483648 ≤ v ∧ v ≤ 2147483647) ∧ (j % 6 = 0 → 0 ≤ v ∧ v ≤ 26) ∧ (j % 6 = 1 ∨ j % 6 = 2 → 0 ≤ v ∧ v ≤ 2054847098) ∧ (j % 6 = 3 ∨ j % 6 = 4 → -1 ≤ v ∧ v ≤ 127)) := by
  simp only [ab]
  split
  · simp only []; omega
  · split
    · simp only []; omega
    · split
      · simp only []; omega
      · split
        · simp only [fI]; omega
        · simp only []; omega
theorem tabR {G : sG} {S : sS} {x y : Nat} {b : Int} (h : cX G S x y b) (j : Int) : (-2147483648 ≤ S.2.1 17 j ∧ S.2.1 17 j ≤ 2147483647) ∧ (j % 6 = 0 → 0 ≤ S.2.1 17 j ∧ S.2.1 17 j ≤ 26) ∧ (j % 6 = 1 ∨ j % 6 = 2 → 0 ≤ S.2.1 17 j ∧ S.2.1 17 j ≤ 2054847098) ∧ (j % 6 = 3 ∨ j % 6 = 4 → -1 ≤ S.2.1 17 j ∧ S.2.1 17 j ≤ 127) := tab8.mp (h.1.2.1 17 j (by decide))
def fc (S : sS) (s q : Int) : Int := S.2.1 17 (s * 6 + q)
def fr8 (q v : Int) : Prop := (-2147483648 ≤ v ∧ v ≤ 2147483647) ∧ (q = 0 → 0 ≤ v ∧ v ≤ 26) ∧ (q = 1 ∨ q = 2 → 0 ≤ v ∧ v ≤ 2054847098) ∧ (q = 3 ∨ q = 4 → -1 ≤ v ∧ v ≤ 127)
theorem fr8_m {s q v : Int} (hq : 0 ≤ q ∧ q ≤ 5) : fr8 q v ↔ ((ab (acode 17) (s * 6 + q)).1 ≤ v ∧ v ≤ (ab (acode 17) (s * 6 + q)).2) := by
  rw [show acode 17 = 8 from rfl, tab8, fr8]; omega
theorem fr8_c {G : sG} {S : sS} {x y : Nat} {b : Int} (h : cX G S x y b) {s q : Int} (hq : 0 ≤ q ∧ q ≤ 5) : fr8 q (fc S s q) := (fr8_m hq).mpr (h.1.2.1 17 _ (by decide))
theorem l2i_lb {v z : Int} (h : lb v) (e : iv z = (jv v).toInt32) (hz : -2147483648 ≤ z ∧ z ≤ 2147483647) : 0 ≤ z ∧ z ≤ 2054847098 := by
  have e2 : (jv v).toInt32 = iv v := by simp [jv, iv]
  rw [e2] at e
  have := congrArg Int32.toInt e
  rw [Int32.toInt_ofInt, Int32.toInt_ofInt] at this
  unfold lb at h
  simp only [Int.bmod, show Int32.size = 4294967296 from rfl] at this
  split at this <;> split at this <;> omega
theorem lb_i2 {v : Int} (h : lb v) : ∃ z : Int, iv v = iv z ∧ 0 ≤ z ∧ z ≤ 2054847098 := by
  obtain ⟨z, e, h1, h2⟩ := iv_of (iv v)
  have e3 : (jv v).toInt32 = iv v := by simp [jv, iv]
  exact ⟨z, e, l2i_lb h (by rw [e3]; exact e.symm) ⟨h1, h2⟩⟩
theorem fc_u {S : sS} {s q s' q' v : Int} (hq : 0 ≤ q ∧ q ≤ 5) (hq' : 0 ≤ q' ∧ q' ≤ 5) : fc (uA S 17 (s * 6 + q) v) s' q' = if s' = s ∧ q' = q then v else fc S s' q' := by
  unfold fc; rw [uA_get]
  by_cases h : s' = s ∧ q' = q
  · rw [if_pos h, if_pos ⟨rfl, by omega⟩]
  · rw [if_neg h, if_neg (by omega)]
/-- sets hold 1 to 12 numbers; INDEXES are sets -/
def TS (S : sS) : Prop := ∀ s, 0 ≤ s → s < S.1 11 9 → (fc S s 0 = 6 → 0 ≤ fc S s 2 - fc S s 1 ∧ fc S s 2 - fc S s 1 ≤ 11) ∧ (∀ q, q = 3 ∨ q = 4 → fc S s q = -1 ∨ (0 ≤ fc S s q ∧ fc S s q < S.1 11 9 ∧ fc S (fc S s q) 0 = 6))
theorem TS0 {S : sS} (h : S.1 11 9 = 0) : TS S := fun s s0 s1 => absurd s1 (by omega)
/-- TS speaks of known and the table alone -/
theorem TS.of {S u : sS} (h : TS S) (e : u.1 11 9 = S.1 11 9) (e2 : ∀ j, u.2.1 17 j = S.2.1 17 j) : TS u := by
  have ef : ∀ s q, fc u s q = fc S s q := fun s q => e2 _
  intro s s0 s1
  simp only [ef, e] at s1 ⊢
  exact h s s0 s1
theorem TS.set {S : sS} {s q v : Int} (h : TS S) (hq : q = 3 ∨ q = 4) (hv : 0 ≤ v ∧ v < S.1 11 9) (e6 : fc S v 0 = 6) : TS (uA S 17 (s * 6 + q) v) := by
  have f0 : ∀ s' q', q' = 0 ∨ q' = 1 ∨ q' = 2 → fc (uA S 17 (s * 6 + q) v) s' q' = fc S s' q' := fun s' q' h' => by rw [fc_u (by omega) (by omega), if_neg (by omega)]
  intro s' s0 s1
  rw [f0 s' 0 (by omega), f0 s' 1 (by omega), f0 s' 2 (by omega)]
  refine ⟨(h s' s0 s1).1, fun q' hq' => ?_⟩
  rw [fc_u (by omega) (by omega)]
  split
  · right; refine ⟨hv.1, hv.2, ?_⟩; rw [f0 _ 0 (by omega)]; exact e6
  · rcases (h s' s0 s1).2 q' hq' with a | a
    · exact .inl a
    · right; refine ⟨a.1, a.2.1, ?_⟩; rw [f0 _ 0 (by omega)]; exact a.2.2
theorem TS.base {S : sS} {s v : Int} (h : TS S) : TS (uA S 17 (s * 6 + 5) v) := by
  have f0 : ∀ s' q', 0 ≤ q' → q' ≤ 4 → fc (uA S 17 (s * 6 + 5) v) s' q' = fc S s' q' := fun s' q' h0 h' => by rw [fc_u (by omega) (by omega), if_neg (by omega)]
  intro s' s0 s1
  rw [f0 s' 0 (by omega) (by omega), f0 s' 1 (by omega) (by omega), f0 s' 2 (by omega) (by omega)]
  refine ⟨(h s' s0 s1).1, fun q' hq' => ?_⟩
  rw [f0 s' q' (by omega) (by omega), f0 _ 0 (by omega) (by omega)]
  exact (h s' s0 s1).2 q' hq'
theorem TS.low {S : sS} {s v : Int} (h : TS S) (hn : fc S s 0 ≠ 6) : TS (uA S 17 (s * 6 + 1) v) := by
  have f0 : ∀ s' q', q' = 0 ∨ q' = 2 ∨ q' = 3 ∨ q' = 4 → fc (uA S 17 (s * 6 + 1) v) s' q' = fc S s' q' := fun s' q' h' => by rw [fc_u (by omega) (by omega), if_neg (by omega)]
  intro s' s0 s1
  rw [f0 s' 0 (by omega), f0 s' 2 (by omega)]
  refine ⟨fun e => ?_, fun q' hq' => ?_⟩
  · have ns : s' ≠ s := fun q => hn (by rw [← q]; exact e)
    rw [fc_u (by omega) (by omega), if_neg (by omega)]; exact (h s' s0 s1).1 e
  · rw [f0 s' q' (by omega), f0 _ 0 (by omega)]; exact (h s' s0 s1).2 q' hq'
theorem TS.pop {S : sS} (h : TS S) (hn : fc S (S.1 11 9 - 1) 0 ≠ 6) : TS (uF S 11 9 (S.1 11 9 - 1)) := by
  intro s s0 s1
  rw [uF_on] at s1 ⊢
  have := h s s0 (by omega)
  refine ⟨this.1, fun q hq => ?_⟩
  rcases this.2 q hq with a | a
  · exact .inl a
  · refine .inr ⟨a.1, ?_, a.2.2⟩
    have n1 : fc S s q ≠ S.1 11 9 - 1 := fun e => hn (e ▸ a.2.2)
    show fc S s q < S.1 11 9 - 1
    omega
/-- what learn writes -/
def LN (S u : sS) (r so : Int) : Prop := ∀ s q, 0 ≤ q → q ≤ 5 → fc u s q = if s = r then (if q = 0 then so else if q = 3 ∨ q = 4 then -1 else fc S s q) else fc S s q
theorem learn_f {S0 S u1 u2 u3 : sS} {r so : Int} (e1 : u1 = uA S0 17 (r * 6 + 0) so) (e2 : u2 = uA u1 17 (r * 6 + 3) (-1)) (e3 : u3 = uA u2 17 (r * 6 + 4) (-1)) (e0 : ∀ j, S0.2.1 17 j = S.2.1 17 j) : LN S u3 r so := by
  intro s q q0 q5
  have e : fc S0 s q = fc S s q := e0 _
  rw [e3, fc_u (by omega) (by omega), e2, fc_u (by omega) (by omega), e1, fc_u (by omega) (by omega), e]
  grind
theorem TS.learn {S u : sS} {so : Int} (h : TS S) (k0 : 0 ≤ S.1 11 9) (e9 : u.1 11 9 = S.1 11 9 + 1) (ef : LN S u (S.1 11 9) so) (hs : so ≠ 6) : TS u := by
  intro s s0 s1
  rw [e9] at s1 ⊢
  by_cases a : s = S.1 11 9
  · refine ⟨fun e => ?_, fun q hq => .inl ?_⟩
    · rw [ef s 0 (by omega) (by omega), if_pos a, if_pos rfl] at e; exact absurd e hs
    · rw [ef s q (by omega) (by omega), if_pos a, if_neg (by omega), if_pos hq]
  · have g : ∀ q, 0 ≤ q → q ≤ 5 → fc u s q = fc S s q := fun q q0 q5 => by rw [ef s q q0 q5, if_neg a]
    have hh := h s s0 (by omega)
    rw [g 0 (by omega) (by omega), g 1 (by omega) (by omega), g 2 (by omega) (by omega)]
    refine ⟨hh.1, fun q hq => ?_⟩
    rw [g q (by omega) (by omega)]
    rcases hh.2 q hq with b | b
    · exact .inl b
    · refine .inr ⟨b.1, by omega, ?_⟩
      rw [ef _ 0 (by omega) (by omega), if_neg (by omega)]; exact b.2.2
def pT (k : Nat) : Bool := Nat.beq k 11 || rgB 16 17 k
theorem p11_T : ∀ k, p1 11 k = true → pT k = true := fun k h => by
  have : k = 11 := Nat.eq_of_beq_eq_true h
  subst this; rfl
theorem p17_T : ∀ k, p1 17 k = true → pT k = true := fun k h => by
  have : k = 17 := Nat.eq_of_beq_eq_true h
  subst this; rfl
theorem TS.size {S : sS} (h : TS S) {s q a r : Int} (hs : 0 ≤ s ∧ s < S.1 11 9) (hq : q = 3 ∨ q = 4) (ea : a = fc S s q) (er : (a < 0 → r = 1) ∧ (0 ≤ a → r = fc S a 2 - fc S a 1 + 1)) : 1 ≤ r ∧ r ≤ 12 := by
  rcases (h s hs.1 hs.2).2 q hq with b | b
  · rw [← ea] at b; have := er.1 (by omega); omega
  · rw [← ea] at b
    have e := er.2 b.1
    have := (h a b.1 b.2.1).1 b.2.2
    omega
theorem m12 {a b : Int} (ha : 1 ≤ a ∧ a ≤ 12) (hb : 1 ≤ b ∧ b ≤ 12) : 1 ≤ a * b ∧ a * b ≤ 144 := by
  have h1 := Int.mul_le_mul ha.2 hb.2 (by omega) (by omega)
  have h2 := Int.mul_pos (a := a) (b := b) (by omega) (by omega)
  omega
theorem SG.fr {S u : sS} {P : pS} (f : Fr S u P) (h1 : P 12 = false) (h2 : P 13 = false) (h3 : P 15 = false) (h : SG S) : SG u := fun j j0 j1 => by
  rw [(f 12 h1).1] at j1
  rw [(f 13 h2).2.1, (f 15 h3).2.2.1]
  exact h j j0 j1
theorem TS.newset {S u1 u0 ua ub u : sS} {r low high : Int} (h : TS S) (k0 : 0 ≤ S.1 11 9) (er : r = S.1 11 9) (e9 : u.1 11 9 = S.1 11 9 + 1) (hl : LN S u1 r 6) (hb : 0 ≤ high - low ∧ high - low ≤ 11) (ea : ua = uA u0 17 (r * 6 + 1) low) (eb : ub = uA ua 17 (r * 6 + 2) high) (e0 : ∀ j, u0.2.1 17 j = u1.2.1 17 j) (eu : ∀ j, u.2.1 17 j = ub.2.1 17 j) : TS u := by
  have f : ∀ s q, 0 ≤ q → q ≤ 5 → fc u s q = if s = r ∧ q = 2 then high else if s = r ∧ q = 1 then low else fc u1 s q := fun s q q0 q5 => by
    have e1 : fc u s q = fc ub s q := eu _
    have e2 : fc u0 s q = fc u1 s q := e0 _
    rw [e1, eb, fc_u (by omega) (by omega), ea, fc_u (by omega) (by omega), e2]
  intro s s0 s1
  rw [e9] at s1 ⊢
  by_cases a : s = r
  · refine ⟨fun _ => ?_, fun q hq => .inl ?_⟩
    · rw [f s 2 (by omega) (by omega), f s 1 (by omega) (by omega), if_pos ⟨a, rfl⟩, if_neg (by omega), if_pos ⟨a, rfl⟩]; exact hb
    · rw [f s q (by omega) (by omega), if_neg (by omega), if_neg (by omega), hl s q (by omega) (by omega), if_pos a, if_neg (by omega), if_pos hq]
  · have g : ∀ s q, s ≠ r → 0 ≤ q → q ≤ 5 → fc u s q = fc S s q := fun s q n q0 q5 => by rw [f s q q0 q5, if_neg (by omega), if_neg (by omega), hl s q q0 q5, if_neg n]
    have hh := h s s0 (by omega)
    rw [g s 0 a (by omega) (by omega), g s 1 a (by omega) (by omega), g s 2 a (by omega) (by omega)]
    refine ⟨hh.1, fun q hq => ?_⟩
    rw [g s q a (by omega) (by omega)]
    rcases hh.2 q hq with b | b
    · exact .inl b
    · refine .inr ⟨b.1, by omega, ?_⟩
      rw [g _ 0 (by omega) (by omega) (by omega)]; exact b.2.2
set_option maxRecDepth 100000 in
set_option maxHeartbeats 4000000 in
theorem s_X9_faultPlace (l : Launch) (G : sG) (S : sS)  (hI : cX G S 0 0 0) : Met l yX9_faultPlace (.code yX9_faultPlace cX9_faultPlace 1 (some .int) :: tb) (rmk 1 0 0) (sPc G 294 S [.ref (G.2.2.1 + 11)]) (sQi G 294 (fun r u => u = S ∧ (-2147483648 ≤ r ∧ r ≤ 2147483647))) 0 0 (sF G) := by
  refine sEnter (by decide) (Nat.le_of_ble_eq_true rfl) ?_
  intro p e s m args below meth c Cx hr hlk hnm hW ls hl
  have Cx : sC G p m c cX9_faultPlace 1 s args RX9 := Cx
  obtain ⟨hx, hb, hml, hown, hts⟩ := id Cx.1
  have hL : sL G [] := sL_nil
  have hl : lv_has ls 1 [(0, .ref (G.2.2.1 + 11))] := hl
  have hW0 := hW
  refine lv_aload_n hx hb dX9_faultPlace_0 rfl (lv_at hl 0 rfl) ?_
  have q_1 : (-2147483648) ≤ S.1 11 16 ∧ S.1 11 16 ≤ 2147483647 := hI.fi 11 16 9 (by decide) rfl
  refine g_X9_50 Cx hW (k := 11) (by decide) rfl (v := S.1 11 16) rfl dX9_faultPlace_1 ?_
  exact sIret Cx hr hlk hW hL ⟨rfl, (by omega)⟩ dX9_faultPlace_4

set_option maxRecDepth 100000 in
set_option maxHeartbeats 4000000 in
theorem s_X9_fail (l : Launch) (G : sG) (S : sS) {k tk : Int} (hI : cX G S 0 0 0) (hk : 1 ≤ k ∧ k ≤ 7) (htk : -2147483648 ≤ tk ∧ tk ≤ 2147483647) : Met l yX9_fail (.code yX9_fail cX9_fail 3 (some .boolean) :: tb) (rmk 1 0 0) (sPc G 294 S [.ref (G.2.2.1 + 11), .int (iv k), .int (iv tk)]) (sQi G 294 (fun r u => cX G u 0 0 0 ∧ Fr S u (p1 11) ∧ (r = 0 ∧ u.1 11 9 = S.1 11 9))) 0 0 (sF G) := by
  refine sEnter (by decide) (Nat.le_of_ble_eq_true rfl) ?_
  intro p e s m args below meth c Cx hr hlk hnm hW ls hl
  have Cx : sC G p m c cX9_fail 3 s args RX9 := Cx
  obtain ⟨hx, hb, hml, hown, hts⟩ := id Cx.1
  have hL : sL G [] := sL_nil
  have hl : lv_has ls 3 [(0, .ref (G.2.2.1 + 11)), (1, .int (iv k)), (2, .int (iv tk))] := hl
  have hW0 := hW
  refine lv_aload_n hx hb dX9_fail_0 rfl (lv_at hl 0 rfl) ?_
  refine lv_iload_n hx hb dX9_fail_1 rfl (lv_at hl 1 rfl) ?_
  refine p_X9_54 Cx hW hL (k := 11) (by decide) rfl dX9_fail_2 (fun H locs hW hL => ?_)
  have F_1 : Fr S (uF S 11 14 k) (p1 11) := (Fr.rf : Fr S S (p1 11)).F rfl
  have i_2 : cX G (uF S 11 14 k) 0 0 0 := hI.F rfl rfl (show 0 ≤ k ∧ k ≤ 7 from ⟨by omega, by omega⟩)
  refine lv_aload_n hx hb dX9_fail_5 rfl (lv_at hl 0 rfl) ?_
  refine lv_iload_n hx hb dX9_fail_6 rfl (lv_at hl 2 rfl) ?_
  refine p_X9_114 Cx hW hL (k := 11) (by decide) rfl dX9_fail_7 (fun H locs hW hL => ?_)
  have F_3 : Fr S (uF (uF S 11 14 k) 11 15 tk) (p1 11) := F_1.F rfl
  have i_4 : cX G (uF (uF S 11 14 k) 11 15 tk) 0 0 0 := i_2.F rfl rfl (show (-2147483648) ≤ tk ∧ tk ≤ 2147483647 from ⟨by omega, by omega⟩)
  refine lv_iconst (v := iv 0) hx hb dX9_fail_10 (by decide) ?_
  have q_5 : 0 ≤ S.1 11 9 ∧ S.1 11 9 ≤ 128 := hI.fi 11 9 9 (by decide) rfl
  have lk_6 : (uF (uF S 11 14 k) 11 15 tk).1 11 9 = S.1 11 9 := (uF_ne (fun h => absurd h.2 (by decide))).trans (uF_ne (fun h => absurd h.2 (by decide)))
  exact sZret Cx hr hlk hW hL (by omega) ⟨i_4, F_3, ⟨rfl, (uF_i (by decide)).trans (uF_i (by decide))⟩⟩ dX9_fail_11

set_option maxRecDepth 100000 in
set_option maxHeartbeats 4000000 in
theorem s_X9_find (l : Launch) (G : sG) (S : sS) {nm : Int} (hI : cX G S 0 0 0) (hnm : -9223372036854775808 ≤ nm ∧ nm ≤ 9223372036854775807) : Met l yX9_find (.code yX9_find cX9_find 4 (some .int) :: tb) (rmk 1 0 0) (sPc G 294 S [.ref (G.2.2.1 + 11), .long (jv nm)]) (sQi G 294 (fun r u => u = S ∧ (-1 ≤ r ∧ r < S.1 11 9 ∧ r ≤ 127))) 0 0 (sF G) := by
  refine sEnter (by decide) (Nat.le_of_ble_eq_true rfl) ?_
  intro p e s m args below meth c Cx hr hlk hnm hW ls hl
  have Cx : sC G p m c cX9_find 4 s args RX9 := Cx
  obtain ⟨hx, hb, hml, hown, hts⟩ := id Cx.1
  have hL : sL G [] := sL_nil
  have hl : lv_has ls 4 [(0, .ref (G.2.2.1 + 11)), (1, .long (jv nm))] := hl
  have hW0 := hW
  have hkn : 0 ≤ S.1 11 9 ∧ S.1 11 9 ≤ 128 := hI.fi 11 9 9 (by decide) rfl
  refine lv_iconst (v := iv 0) hx hb dX9_find_0 (by decide) ?_
  refine lv_istore_n (lv' := [(3, .int (iv 0)), (0, .ref (G.2.2.1 + 11)), (1, .long (jv nm))]) hx hb dX9_find_1 rfl hl (by decide) rfl (fun ls hl => ?_)
  have loop_2 : ∀ (fuel : Nat) (i : Int) (H : Heap) (locs : List Loc) (ls : Array Slot), (S.1 11 9 - i).toNat < fuel → (0 ≤ i ∧ i ≤ S.1 11 9) → sW G 294 S H → sL G locs → lv_has ls 4 [(3, .int (iv i)), (0, .ref (G.2.2.1 + 11)), (1, .long (jv nm))] → W p l e (rmk 1 0 0) s m args below meth c H locs 0 0 (MQ below (sQi G 294 (fun r u => u = S ∧ (-1 ≤ r ∧ r < S.1 11 9 ∧ r ≤ 127))) args s 0 0 (sF G)) (F0 m 2 ls []) := by
    intro fuel
    induction fuel with
    | zero => intro i H locs ls hmeas hi hW hL hl; exact absurd hmeas (Nat.not_lt_zero _)
    | succ fuel ih_2 =>
      intro i H locs ls hmeas hi hW hL hl
      refine lv_iload_n hx hb dX9_find_2 rfl (lv_at hl 0 rfl) ?_
      refine lv_aload_n hx hb dX9_find_3 rfl (lv_at hl 1 rfl) ?_
      have q_1 : 0 ≤ S.1 11 9 ∧ S.1 11 9 ≤ 128 := hI.fi 11 9 9 (by decide) rfl
      refine g_X9_77 Cx hW (k := 11) (by decide) rfl (v := S.1 11 9) rfl dX9_find_4 ?_
      refine r_icmp_ge (tgt := 29) hx hb ⟨(by omega), (by omega)⟩ ⟨(by omega), (by omega)⟩ dX9_find_7 (by decide) (fun c_2 => ?_) (fun c_2 => ?_)
      · refine lv_iconst (v := iv (-1)) hx hb dX9_find_29 (by decide) ?_
        exact sIret Cx hr hlk hW hL ⟨rfl, (by omega)⟩ dX9_find_30
      · refine lv_aload_n hx hb dX9_find_10 rfl (lv_at hl 1 rfl) ?_
        refine g_X9_18 Cx hW (k := 11) (by decide) rfl (v := .ref (G.2.2.1 + 16)) (rf_11_1 hI) dX9_find_11 ?_
        refine lv_iload_n hx hb dX9_find_14 rfl (lv_at hl 0 rfl) ?_
        refine rLald Cx hW (k := 16) (by decide) rfl (by decide) (by omega) (by omega) dX9_find_15 ?_
        have q_3 : -9223372036854775808 ≤ S.2.2.1 16 i ∧ S.2.2.1 16 i ≤ 9223372036854775807 := hI.li 16 i (by decide)
        refine r_j (b := S.2.2.1 16 i) rfl ?_
        refine lv_lload_n hx hb dX9_find_16 rfl (lv_at hl 2 rfl) ?_
        refine r_lcmp hx hb ⟨(by omega), (by omega)⟩ ⟨(by omega), (by omega)⟩ dX9_find_17 (fun z_4 az_4 bz_4 cz_4 => ?_)
        refine r_if_ne (tgt := 23) hx hb ⟨(by omega), (by omega)⟩ dX9_find_18 (by decide) (fun c_5 => ?_) (fun c_5 => ?_)
        · refine lv_iinc (v := iv (i + 1)) (lv' := [(3, .int (iv (i + 1))), (0, .ref (G.2.2.1 + 11)), (1, .long (jv nm))]) hx hb dX9_find_23 hl (k := 0) rfl ((Int32.ofInt_add _ _).symm) (by decide) rfl (fun ls hl => ?_)
          refine lv_goto (tgt := 2) hx hb dX9_find_26 (by decide) ?_
          exact ih_2 (i + 1) _ _ _ (by omega) (by omega) hW hL (lv_sub hl [0, 1, 2] rfl)
        · refine lv_iload_n hx hb dX9_find_21 rfl (lv_at hl 0 rfl) ?_
          exact sIret Cx hr hlk hW hL ⟨rfl, (by omega)⟩ dX9_find_22
  exact loop_2 (_ + 1) 0 _ _ _ (Nat.lt_succ_self _) (by omega) hW hL (lv_sub hl [0, 1, 2] rfl)

set_option maxRecDepth 100000 in
set_option maxHeartbeats 4000000 in
theorem s_X9_fact (l : Launch) (G : sG) (S : sS) {s0 q : Int} (hI : cX G S 0 0 0) (hs : 0 ≤ s0 ∧ s0 ≤ 127) (hq : 0 ≤ q ∧ q ≤ 5) : Met l yX9_fact (.code yX9_fact cX9_fact 3 (some .int) :: tb) (rmk 1 0 0) (sPc G 294 S [.ref (G.2.2.1 + 11), .int (iv s0), .int (iv q)]) (sQi G 294 (fun r u => u = S ∧ (r = fc S s0 q ∧ fr8 q r))) 0 0 (sF G) := by
  refine sEnter (by decide) (Nat.le_of_ble_eq_true rfl) ?_
  intro p e s m args below meth c Cx hr hlk hnm hW ls hl
  have Cx : sC G p m c cX9_fact 3 s args RX9 := Cx
  obtain ⟨hx, hb, hml, hown, hts⟩ := id Cx.1
  have hL : sL G [] := sL_nil
  have hl : lv_has ls 3 [(0, .ref (G.2.2.1 + 11)), (1, .int (iv s0)), (2, .int (iv q))] := hl
  have hW0 := hW
  refine lv_aload_n hx hb dX9_fact_0 rfl (lv_at hl 0 rfl) ?_
  refine g_X9_22 Cx hW (k := 11) (by decide) rfl (v := .ref (G.2.2.1 + 17)) (rf_11_2 hI) dX9_fact_1 ?_
  refine lv_iload_n hx hb dX9_fact_4 rfl (lv_at hl 1 rfl) ?_
  refine lv_bipush (v := iv 6) hx hb dX9_fact_5 (by decide) ?_
  refine r_imul hx hb dX9_fact_7 ?_
  refine lv_iload_n hx hb dX9_fact_8 rfl (lv_at hl 2 rfl) ?_
  refine r_iadd hx hb dX9_fact_9 ?_
  refine rIald Cx hW (k := 17) (by decide) rfl (by decide) (by omega) (by omega) dX9_fact_10 ?_
  have q_1 := tabR hI ((s0 * 6) + q)
  refine r_i (b := S.2.1 17 ((s0 * 6) + q)) rfl ?_
  exact sIret Cx hr hlk hW hL ⟨rfl, ⟨rfl, fr8_c hI hq⟩⟩ dX9_fact_11

set_option maxRecDepth 100000 in
set_option maxHeartbeats 4000000 in
theorem s_X9_setFact (l : Launch) (G : sG) (S : sS) {s0 q v : Int} (hI : cX G S 0 0 0) (hs : 0 ≤ s0 ∧ s0 ≤ 127) (hq : 0 ≤ q ∧ q ≤ 5) (hv : fr8 q v) (hv2 : -2147483648 ≤ v ∧ v ≤ 2147483647) : Met l yX9_setFact (.code yX9_setFact cX9_setFact 4 none :: tb) (rmk 1 0 0) (sPc G 294 S [.ref (G.2.2.1 + 11), .int (iv s0), .int (iv q), .int (iv v)]) (sQv G 294 (fun u => cX G u 0 0 0 ∧ Fr S u (p1 17) ∧ (u = uA S 17 (s0 * 6 + q) v))) 0 0 (sF G) := by
  refine sEnter (by decide) (Nat.le_of_ble_eq_true rfl) ?_
  intro p e s m args below meth c Cx hr hlk hnm hW ls hl
  have Cx : sC G p m c cX9_setFact 4 s args RX9 := Cx
  obtain ⟨hx, hb, hml, hown, hts⟩ := id Cx.1
  have hL : sL G [] := sL_nil
  have hl : lv_has ls 4 [(0, .ref (G.2.2.1 + 11)), (1, .int (iv s0)), (2, .int (iv q)), (3, .int (iv v))] := hl
  have hW0 := hW
  refine lv_aload_n hx hb dX9_setFact_0 rfl (lv_at hl 0 rfl) ?_
  refine g_X9_22 Cx hW (k := 11) (by decide) rfl (v := .ref (G.2.2.1 + 17)) (rf_11_2 hI) dX9_setFact_1 ?_
  refine lv_iload_n hx hb dX9_setFact_4 rfl (lv_at hl 1 rfl) ?_
  refine lv_bipush (v := iv 6) hx hb dX9_setFact_5 (by decide) ?_
  refine r_imul hx hb dX9_setFact_7 ?_
  refine lv_iload_n hx hb dX9_setFact_8 rfl (lv_at hl 2 rfl) ?_
  refine r_iadd hx hb dX9_setFact_9 ?_
  refine lv_iload_n hx hb dX9_setFact_10 rfl (lv_at hl 3 rfl) ?_
  refine rIast Cx hW hL (k := 17) (by decide) rfl (by decide) (by omega) (by omega) dX9_setFact_11 (fun H locs hW hL => ?_)
  have F_1 : Fr S (uA S 17 ((s0 * 6) + q) v) (p1 17) := (Fr.rf : Fr S S (p1 17)).A rfl
  have i_2 : cX G (uA S 17 ((s0 * 6) + q) v) 0 0 0 := hI.A (by decide) (by decide) (by decide) ((fr8_m hq).mp hv)
  exact sVret Cx hr hlk hW hL ⟨i_2, F_1, rfl⟩ dX9_setFact_12

set_option maxRecDepth 100000 in
set_option maxHeartbeats 4000000 in
theorem s_X9_isSort (l : Launch) (G : sG) (S : sS) {s0 k : Int} (hI : cX G S 0 0 0) (hs : -1 ≤ s0 ∧ s0 ≤ 127) (hk : -2147483648 ≤ k ∧ k ≤ 2147483647) : Met l yX9_isSort (.code yX9_isSort cX9_isSort 3 (some .boolean) :: tb) (rmk 2 0 0) (sPc G 294 S [.ref (G.2.2.1 + 11), .int (iv s0), .int (iv k)]) (sQi G 294 (fun r u => u = S ∧ ((0 ≤ r ∧ r ≤ 1) ∧ (r = 1 → 0 ≤ s0 ∧ fc S s0 0 = k)))) 0 0 (sF G) := by
  refine sEnter (by decide) (Nat.le_of_ble_eq_true rfl) ?_
  intro p e s m args below meth c Cx hr hlk hnm hW ls hl
  have Cx : sC G p m c cX9_isSort 3 s args RX9 := Cx
  obtain ⟨hx, hb, hml, hown, hts⟩ := id Cx.1
  have hL : sL G [] := sL_nil
  have hl : lv_has ls 3 [(0, .ref (G.2.2.1 + 11)), (1, .int (iv s0)), (2, .int (iv k))] := hl
  have hW0 := hW
  refine lv_iload_n hx hb dX9_isSort_0 rfl (lv_at hl 1 rfl) ?_
  refine r_if_lt (tgt := 18) hx hb ⟨(by omega), (by omega)⟩ dX9_isSort_1 (by decide) (fun c_1 => ?_) (fun c_1 => ?_)
  · refine lv_iconst (v := iv 0) hx hb dX9_isSort_18 (by decide) ?_
    exact sZret Cx hr hlk hW hL (by omega) ⟨rfl, (by omega)⟩ dX9_isSort_19
  · refine lv_aload_n hx hb dX9_isSort_4 rfl (lv_at hl 0 rfl) ?_
    refine lv_iload_n hx hb dX9_isSort_5 rfl (lv_at hl 1 rfl) ?_
    refine lv_iconst (v := iv 0) hx hb dX9_isSort_6 (by decide) ?_
    refine sBi (sV (As := [.int (iv s0), .int (iv 0)]) (rest := []) (k := 11) Cx (s_X9_fact l G S (s0 := s0) (q := 0) hI (by omega) (by omega)) (c_X9_120 Cx rfl rfl (rmk_ok (by omega) (by decide))) hW (by decide) rfl rfl rfl hl.1 rfl (Nat.le_of_ble_eq_true rfl) dX9_isSort_7 ⟨Nat.le_of_ble_eq_true rfl, Nat.le_of_ble_eq_true rfl⟩) hL (fun r_4 u_2 H locs k_3 hW hL => ?_)
    obtain ⟨eu_2, xu_2⟩ := k_3
    rw [eu_2] at hW
    have yu_2 := xu_2.2
    unfold fr8 at yu_2
    refine lv_iload_n hx hb dX9_isSort_10 rfl (lv_at hl 2 rfl) ?_
    refine r_icmp_ne (tgt := 18) hx hb ⟨(by omega), (by omega)⟩ ⟨(by omega), (by omega)⟩ dX9_isSort_11 (by decide) (fun c_5 => ?_) (fun c_5 => ?_)
    · refine lv_iconst (v := iv 0) hx hb dX9_isSort_18 (by decide) ?_
      exact sZret Cx hr hlk hW hL (by omega) ⟨rfl, (by omega)⟩ dX9_isSort_19
    · refine lv_iconst (v := iv 1) hx hb dX9_isSort_14 (by decide) ?_
      refine lv_goto (tgt := 19) hx hb dX9_isSort_15 (by decide) ?_
      exact sZret Cx hr hlk hW hL (by omega) ⟨rfl, (by omega)⟩ dX9_isSort_19

set_option maxRecDepth 100000 in
set_option maxHeartbeats 4000000 in
theorem s_X9_setSize (l : Launch) (G : sG) (S : sS) {s0 : Int} (hI : cX G S 0 0 0) (hs : -1 ≤ s0 ∧ s0 ≤ 127) : Met l yX9_setSize (.code yX9_setSize cX9_setSize 2 (some .int) :: tb) (rmk 2 0 0) (sPc G 294 S [.ref (G.2.2.1 + 11), .int (iv s0)]) (sQi G 294 (fun r u => u = S ∧ ((s0 < 0 → r = 1) ∧ (0 ≤ s0 → r = fc S s0 2 - fc S s0 1 + 1) ∧ -2147483648 ≤ r ∧ r ≤ 2147483647))) 0 0 (sF G) := by
  refine sEnter (by decide) (Nat.le_of_ble_eq_true rfl) ?_
  intro p e s m args below meth c Cx hr hlk hnm hW ls hl
  have Cx : sC G p m c cX9_setSize 2 s args RX9 := Cx
  obtain ⟨hx, hb, hml, hown, hts⟩ := id Cx.1
  have hL : sL G [] := sL_nil
  have hl : lv_has ls 2 [(0, .ref (G.2.2.1 + 11)), (1, .int (iv s0))] := hl
  have hW0 := hW
  refine lv_iload_n hx hb dX9_setSize_0 rfl (lv_at hl 1 rfl) ?_
  refine r_if_ge (tgt := 8) hx hb ⟨(by omega), (by omega)⟩ dX9_setSize_1 (by decide) (fun c_1 => ?_) (fun c_1 => ?_)
  · refine lv_aload_n hx hb dX9_setSize_8 rfl (lv_at hl 0 rfl) ?_
    refine lv_iload_n hx hb dX9_setSize_9 rfl (lv_at hl 1 rfl) ?_
    refine lv_iconst (v := iv 2) hx hb dX9_setSize_10 (by decide) ?_
    refine sBi (sV (As := [.int (iv s0), .int (iv 2)]) (rest := []) (k := 11) Cx (s_X9_fact l G S (s0 := s0) (q := 2) hI (by omega) (by omega)) (c_X9_120 Cx rfl rfl (rmk_ok (by omega) (by decide))) hW (by decide) rfl rfl rfl hl.1 rfl (Nat.le_of_ble_eq_true rfl) dX9_setSize_11 ⟨Nat.le_of_ble_eq_true rfl, Nat.le_of_ble_eq_true rfl⟩) hL (fun r_4 u_2 H locs k_3 hW hL => ?_)
    obtain ⟨eu_2, xu_2⟩ := k_3
    rw [eu_2] at hW
    have yu_2 := xu_2.2
    unfold fr8 at yu_2
    refine lv_aload_n hx hb dX9_setSize_14 rfl (lv_at hl 0 rfl) ?_
    refine lv_iload_n hx hb dX9_setSize_15 rfl (lv_at hl 1 rfl) ?_
    refine lv_iconst (v := iv 1) hx hb dX9_setSize_16 (by decide) ?_
    refine sBi (sV (As := [.int (iv s0), .int (iv 1)]) (rest := [.int (iv r_4)]) (k := 11) Cx (s_X9_fact l G S (s0 := s0) (q := 1) hI (by omega) (by omega)) (c_X9_120 Cx rfl rfl (rmk_ok (by omega) (by decide))) hW (by decide) rfl rfl rfl hl.1 rfl (Nat.le_of_ble_eq_true rfl) dX9_setSize_17 ⟨Nat.le_of_ble_eq_true rfl, Nat.le_of_ble_eq_true rfl⟩) hL (fun r_7 u_5 H locs k_6 hW hL => ?_)
    obtain ⟨eu_5, xu_5⟩ := k_6
    rw [eu_5] at hW
    have yu_5 := xu_5.2
    unfold fr8 at yu_5
    refine r_isub hx hb dX9_setSize_20 ?_
    refine lv_iconst (v := iv 1) hx hb dX9_setSize_21 (by decide) ?_
    refine r_iadd hx hb dX9_setSize_22 ?_
    exact sIret Cx hr hlk hW hL ⟨rfl, (by omega)⟩ dX9_setSize_23
  · refine lv_iconst (v := iv 1) hx hb dX9_setSize_4 (by decide) ?_
    refine lv_goto (tgt := 23) hx hb dX9_setSize_5 (by decide) ?_
    exact sIret Cx hr hlk hW hL ⟨rfl, (by omega)⟩ dX9_setSize_23

set_option maxRecDepth 100000 in
set_option maxHeartbeats 4000000 in
theorem s_X9_forgetLast (l : Launch) (G : sG) (S : sS)  (hI : cX G S 0 0 0) (hk : 1 ≤ S.1 11 9) : Met l yX9_forgetLast (.code yX9_forgetLast cX9_forgetLast 1 none :: tb) (rmk 1 0 0) (sPc G 294 S [.ref (G.2.2.1 + 11)]) (sQv G 294 (fun u => cX G u 0 0 0 ∧ Fr S u (p1 11) ∧ (u = uF S 11 9 (S.1 11 9 - 1)))) 0 0 (sF G) := by
  refine sEnter (by decide) (Nat.le_of_ble_eq_true rfl) ?_
  intro p e s m args below meth c Cx hr hlk hnm hW ls hl
  have Cx : sC G p m c cX9_forgetLast 1 s args RX9 := Cx
  obtain ⟨hx, hb, hml, hown, hts⟩ := id Cx.1
  have hL : sL G [] := sL_nil
  have hl : lv_has ls 1 [(0, .ref (G.2.2.1 + 11))] := hl
  have hW0 := hW
  refine lv_aload_n hx hb dX9_forgetLast_0 rfl (lv_at hl 0 rfl) ?_
  refine lv_dup hx hb dX9_forgetLast_1 rfl ?_
  have q_1 : 0 ≤ S.1 11 9 ∧ S.1 11 9 ≤ 128 := hI.fi 11 9 9 (by decide) rfl
  refine g_X9_77 Cx hW (k := 11) (by decide) rfl (v := S.1 11 9) rfl dX9_forgetLast_2 ?_
  refine lv_iconst (v := iv 1) hx hb dX9_forgetLast_5 (by decide) ?_
  refine r_isub hx hb dX9_forgetLast_6 ?_
  refine p_X9_77 Cx hW hL (k := 11) (by decide) rfl dX9_forgetLast_7 (fun H locs hW hL => ?_)
  have F_2 : Fr S (uF S 11 9 ((S.1 11 9) - 1)) (p1 11) := (Fr.rf : Fr S S (p1 11)).F rfl
  have i_3 : cX G (uF S 11 9 ((S.1 11 9) - 1)) 0 0 0 := hI.F rfl rfl (show 0 ≤ (S.1 11 9) - 1 ∧ (S.1 11 9) - 1 ≤ 128 from ⟨by omega, by omega⟩)
  exact sVret Cx hr hlk hW hL ⟨i_3, F_2, rfl⟩ dX9_forgetLast_10

set_option maxRecDepth 100000 in
set_option maxHeartbeats 4000000 in
theorem s_X9_number (l : Launch) (G : sG) (S : sS) {tk : Int} (hI : cX G S 0 0 0) (htk : -2147483648 ≤ tk ∧ tk ≤ 2147483647) (hsg : SG S) : Met l yX9_number (.code yX9_number cX9_number 2 (some .int) :: tb) (rmk 2 0 0) (sPc G 294 S [.ref (G.2.2.1 + 11), .int (iv tk)]) (sQi G 294 (fun r u => u = S ∧ (0 ≤ r ∧ r ≤ 2054847098))) 0 0 (sF G) := by
  refine sEnter (by decide) (Nat.le_of_ble_eq_true rfl) ?_
  intro p e s m args below meth c Cx hr hlk hnm hW ls hl
  have Cx : sC G p m c cX9_number 2 s args RX9 := Cx
  obtain ⟨hx, hb, hml, hown, hts⟩ := id Cx.1
  have hL : sL G [] := sL_nil
  have hl : lv_has ls 2 [(0, .ref (G.2.2.1 + 11)), (1, .int (iv tk))] := hl
  have hW0 := hW
  refine lv_aload_n hx hb dX9_number_0 rfl (lv_at hl 0 rfl) ?_
  refine g_X9_14 Cx hW (k := 11) (by decide) rfl (v := .ref (G.2.2.1 + 12)) (rf_11_0 hI) dX9_number_1 ?_
  refine lv_iload_n hx hb dX9_number_4 rfl (lv_at hl 1 rfl) ?_
  refine sBl (sV (As := [.int (iv tk)]) (rest := []) (k := 12) Cx (s_X8_value l G S (k := tk) hI (by omega)) (c_X9_124 Cx rfl rfl (rmk_ok (by omega) (by decide))) hW (by decide) rfl rfl rfl hl.1 rfl (Nat.le_of_ble_eq_true rfl) dX9_number_5 ⟨Nat.le_of_ble_eq_true rfl, Nat.le_of_ble_eq_true rfl⟩) hL (fun r_3 u_1 H locs k_2 hW hL => ?_)
  obtain ⟨eu_1, xu_1⟩ := k_2
  rw [eu_1] at hW
  refine r_l2i hx hb dX9_number_8 ?_
  obtain ⟨zn, en, hn1, hn2⟩ := lb_i2 (v := r_3) (by rw [xu_1.1]; exact vd_lb hsg)
  rw [en]
  exact sIret Cx hr hlk hW hL ⟨rfl, (by omega)⟩ dX9_number_9

set_option maxRecDepth 100000 in
set_option maxHeartbeats 4000000 in
theorem s_X9_learn (l : Launch) (G : sG) (S : sS) {tk so : Int} (hI : cX G S 0 0 0) (htk : -2147483648 ≤ tk ∧ tk ≤ 2147483647) (hso : 0 ≤ so ∧ so ≤ 26) : Met l yX9_learn (.code yX9_learn cX9_learn 4 (some .int) :: tb) (rmk 2 0 0) (sPc G 294 S [.ref (G.2.2.1 + 11), .int (iv tk), .int (iv so)]) (sQi G 294 (fun r u => cX G u 0 0 0 ∧ Fr S u pT ∧ ((-1 ≤ r ∧ r ≤ 127) ∧ (0 ≤ r → r = S.1 11 9 ∧ u.1 11 9 = S.1 11 9 + 1) ∧ Hd (0 ≤ r → LN S u r so)))) 0 0 (sF G) := by
  refine sEnter (by decide) (Nat.le_of_ble_eq_true rfl) ?_
  intro p e s m args below meth c Cx hr hlk hnm hW ls hl
  have Cx : sC G p m c cX9_learn 4 s args RX9 := Cx
  obtain ⟨hx, hb, hml, hown, hts⟩ := id Cx.1
  have hL : sL G [] := sL_nil
  have hl : lv_has ls 4 [(0, .ref (G.2.2.1 + 11)), (1, .int (iv tk)), (2, .int (iv so))] := hl
  have hW0 := hW
  refine lv_aload_n hx hb dX9_learn_0 rfl (lv_at hl 0 rfl) ?_
  refine lv_aload_n hx hb dX9_learn_1 rfl (lv_at hl 0 rfl) ?_
  refine g_X9_14 Cx hW (k := 11) (by decide) rfl (v := .ref (G.2.2.1 + 12)) (rf_11_0 hI) dX9_learn_2 ?_
  refine lv_iload_n hx hb dX9_learn_5 rfl (lv_at hl 1 rfl) ?_
  refine sBl (sV (As := [.int (iv tk)]) (rest := [.ref (G.2.2.1 + 11)]) (k := 12) Cx (s_X8_value l G S (k := tk) hI (by omega)) (c_X9_124 Cx rfl rfl (rmk_ok (by omega) (by decide))) hW (by decide) rfl rfl rfl hl.1 rfl (Nat.le_of_ble_eq_true rfl) dX9_learn_6 ⟨Nat.le_of_ble_eq_true rfl, Nat.le_of_ble_eq_true rfl⟩) hL (fun r_3 u_1 H locs k_2 hW hL => ?_)
  obtain ⟨eu_1, xu_1⟩ := k_2
  rw [eu_1] at hW
  have q_4 : 0 ≤ S.1 11 9 ∧ S.1 11 9 ≤ 128 := hI.fi 11 9 9 (by decide) rfl
  refine sBi (sV (As := [.long (jv r_3)]) (rest := []) (k := 11) Cx (s_X9_find l G S (nm := r_3) hI (by omega)) (c_X9_128 Cx rfl rfl (rmk_ok (by omega) (by decide))) hW (by decide) rfl rfl rfl hl.1 rfl (Nat.le_of_ble_eq_true rfl) dX9_learn_9 ⟨Nat.le_of_ble_eq_true rfl, Nat.le_of_ble_eq_true rfl⟩) hL (fun r_7 u_5 H locs k_6 hW hL => ?_)
  obtain ⟨eu_5, xu_5⟩ := k_6
  rw [eu_5] at hW
  refine r_if_ge (tgt := 25) hx hb ⟨(by omega), (by omega)⟩ dX9_learn_12 (by decide) (fun c_8 => ?_) (fun c_8 => ?_)
  · refine lv_aload_n hx hb dX9_learn_25 rfl (lv_at hl 0 rfl) ?_
    refine lv_iconst (v := iv 2) hx hb dX9_learn_26 (by decide) ?_
    refine lv_iload_n hx hb dX9_learn_27 rfl (lv_at hl 1 rfl) ?_
    refine sBi (sV (As := [.int (iv 2), .int (iv tk)]) (rest := []) (k := 11) Cx (s_X9_fail l G S (k := 2) (tk := tk) hI (by omega) (by omega)) (c_X9_132 Cx rfl rfl (rmk_ok (by omega) (by decide))) hW (by decide) rfl rfl rfl hl.1 rfl (Nat.le_of_ble_eq_true rfl) dX9_learn_28 ⟨Nat.le_of_ble_eq_true rfl, Nat.le_of_ble_eq_true rfl⟩) hL (fun r_11 u_9 H locs k_10 hW hL => ?_)
    obtain ⟨iu_9, fu_9, xu_9⟩ := k_10
    have F_12 := (Fr.rf : Fr S S pT).trans (fu_9.to p11_T)
    refine lv_pop hx hb dX9_learn_31 rfl ?_
    refine lv_iconst (v := iv (-1)) hx hb dX9_learn_32 (by decide) ?_
    have q_13 : 0 ≤ u_9.1 11 9 ∧ u_9.1 11 9 ≤ 128 := iu_9.fi 11 9 9 (by decide) rfl
    exact sIret Cx hr hlk hW hL ⟨iu_9, F_12, ⟨(by omega), (by omega), fun q => absurd q (by omega)⟩⟩ dX9_learn_33
  · refine lv_aload_n hx hb dX9_learn_15 rfl (lv_at hl 0 rfl) ?_
    refine g_X9_77 Cx hW (k := 11) (by decide) rfl (v := S.1 11 9) rfl dX9_learn_16 ?_
    refine lv_sipush (v := iv 128) hx hb dX9_learn_19 (by decide) ?_
    refine r_icmp_lt (tgt := 34) hx hb ⟨(by omega), (by omega)⟩ ⟨(by omega), (by omega)⟩ dX9_learn_22 (by decide) (fun c_14 => ?_) (fun c_14 => ?_)
    · refine lv_aload_n hx hb dX9_learn_34 rfl (lv_at hl 0 rfl) ?_
      refine g_X9_77 Cx hW (k := 11) (by decide) rfl (v := S.1 11 9) rfl dX9_learn_35 ?_
      refine lv_istore_n (lv' := [(3, .int (iv (S.1 11 9))), (0, .ref (G.2.2.1 + 11)), (1, .int (iv tk)), (2, .int (iv so))]) hx hb dX9_learn_38 rfl hl (by decide) rfl (fun ls hl => ?_)
      refine lv_aload_n hx hb dX9_learn_39 rfl (lv_at hl 1 rfl) ?_
      refine lv_dup hx hb dX9_learn_40 rfl ?_
      refine g_X9_77 Cx hW (k := 11) (by decide) rfl (v := S.1 11 9) rfl dX9_learn_41 ?_
      refine lv_iconst (v := iv 1) hx hb dX9_learn_44 (by decide) ?_
      refine r_iadd hx hb dX9_learn_45 ?_
      refine p_X9_77 Cx hW hL (k := 11) (by decide) rfl dX9_learn_46 (fun H locs hW hL => ?_)
      have F_15 : Fr S (uF S 11 9 ((S.1 11 9) + 1)) pT := (Fr.rf : Fr S S pT).F rfl
      have i_16 : cX G (uF S 11 9 ((S.1 11 9) + 1)) 0 0 0 := hI.F rfl rfl (show 0 ≤ (S.1 11 9) + 1 ∧ (S.1 11 9) + 1 ≤ 128 from ⟨by omega, by omega⟩)
      refine lv_aload_n hx hb dX9_learn_49 rfl (lv_at hl 1 rfl) ?_
      refine g_X9_18 Cx hW (k := 11) (by decide) rfl (v := .ref (G.2.2.1 + 16)) (rf_11_1 i_16) dX9_learn_50 ?_
      refine lv_iload_n hx hb dX9_learn_53 rfl (lv_at hl 0 rfl) ?_
      refine lv_aload_n hx hb dX9_learn_54 rfl (lv_at hl 1 rfl) ?_
      refine g_X9_14 Cx hW (k := 11) (by decide) rfl (v := .ref (G.2.2.1 + 12)) (rf_11_0 i_16) dX9_learn_55 ?_
      refine lv_iload_n hx hb dX9_learn_58 rfl (lv_at hl 2 rfl) ?_
      refine sBl (sV (As := [.int (iv tk)]) (rest := [.int (iv (S.1 11 9)), .ref (G.2.2.1 + 16)]) (k := 12) Cx (s_X8_value l G (uF S 11 9 ((S.1 11 9) + 1)) (k := tk) i_16 (by omega)) (c_X9_124 Cx rfl rfl (rmk_ok (by omega) (by decide))) hW (by decide) rfl rfl rfl hl.1 rfl (Nat.le_of_ble_eq_true rfl) dX9_learn_59 ⟨Nat.le_of_ble_eq_true rfl, Nat.le_of_ble_eq_true rfl⟩) hL (fun r_19 u_17 H locs k_18 hW hL => ?_)
      obtain ⟨eu_17, xu_17⟩ := k_18
      rw [eu_17] at hW
      refine rLast Cx hW hL (k := 16) (by decide) rfl (by decide) (by omega) (by omega) dX9_learn_62 (fun H locs hW hL => ?_)
      have F_20 : Fr S (uL (uF S 11 9 ((S.1 11 9) + 1)) 16 (S.1 11 9) r_19) pT := F_15.L rfl
      have i_21 : cX G (uL (uF S 11 9 ((S.1 11 9) + 1)) 16 (S.1 11 9) r_19) 0 0 0 := i_16.L ⟨by omega, by omega⟩
      refine lv_aload_n hx hb dX9_learn_63 rfl (lv_at hl 1 rfl) ?_
      refine lv_iload_n hx hb dX9_learn_64 rfl (lv_at hl 0 rfl) ?_
      refine lv_iconst (v := iv 0) hx hb dX9_learn_65 (by decide) ?_
      refine lv_iload_n hx hb dX9_learn_66 rfl (lv_at hl 3 rfl) ?_
      refine sBv (sV (As := [.int (iv (S.1 11 9)), .int (iv 0), .int (iv so)]) (rest := []) (k := 11) Cx (s_X9_setFact l G (uL (uF S 11 9 ((S.1 11 9) + 1)) 16 (S.1 11 9) r_19) (s0 := S.1 11 9) (q := 0) (v := so) i_21 (by omega) (by omega) (by unfold fr8; omega) (by omega)) (c_X9_136 Cx rfl rfl (rmk_ok (by omega) (by decide))) hW (by decide) rfl rfl rfl hl.1 rfl (Nat.le_of_ble_eq_true rfl) dX9_learn_67 ⟨Nat.le_of_ble_eq_true rfl, Nat.le_of_ble_eq_true rfl⟩) hL (fun u_22 H locs k_23 hW hL => ?_)
      obtain ⟨iu_22, fu_22, xu_22⟩ := k_23
      have F_24 := F_20.trans (fu_22.to p17_T)
      refine lv_aload_n hx hb dX9_learn_70 rfl (lv_at hl 1 rfl) ?_
      refine lv_iload_n hx hb dX9_learn_71 rfl (lv_at hl 0 rfl) ?_
      refine lv_iconst (v := iv 3) hx hb dX9_learn_72 (by decide) ?_
      refine lv_iconst (v := iv (-1)) hx hb dX9_learn_73 (by decide) ?_
      refine sBv (sV (As := [.int (iv (S.1 11 9)), .int (iv 3), .int (iv ((-1)))]) (rest := []) (k := 11) Cx (s_X9_setFact l G u_22 (s0 := S.1 11 9) (q := 3) (v := (-1)) iu_22 (by omega) (by omega) (by unfold fr8; omega) (by omega)) (c_X9_136 Cx rfl rfl (rmk_ok (by omega) (by decide))) hW (by decide) rfl rfl rfl hl.1 rfl (Nat.le_of_ble_eq_true rfl) dX9_learn_74 ⟨Nat.le_of_ble_eq_true rfl, Nat.le_of_ble_eq_true rfl⟩) hL (fun u_25 H locs k_26 hW hL => ?_)
      obtain ⟨iu_25, fu_25, xu_25⟩ := k_26
      have F_27 := F_24.trans (fu_25.to p17_T)
      refine lv_aload_n hx hb dX9_learn_77 rfl (lv_at hl 1 rfl) ?_
      refine lv_iload_n hx hb dX9_learn_78 rfl (lv_at hl 0 rfl) ?_
      refine lv_iconst (v := iv 4) hx hb dX9_learn_79 (by decide) ?_
      refine lv_iconst (v := iv (-1)) hx hb dX9_learn_80 (by decide) ?_
      refine sBv (sV (As := [.int (iv (S.1 11 9)), .int (iv 4), .int (iv ((-1)))]) (rest := []) (k := 11) Cx (s_X9_setFact l G u_25 (s0 := S.1 11 9) (q := 4) (v := (-1)) iu_25 (by omega) (by omega) (by unfold fr8; omega) (by omega)) (c_X9_136 Cx rfl rfl (rmk_ok (by omega) (by decide))) hW (by decide) rfl rfl rfl hl.1 rfl (Nat.le_of_ble_eq_true rfl) dX9_learn_81 ⟨Nat.le_of_ble_eq_true rfl, Nat.le_of_ble_eq_true rfl⟩) hL (fun u_28 H locs k_29 hW hL => ?_)
      obtain ⟨iu_28, fu_28, xu_28⟩ := k_29
      have F_30 := F_27.trans (fu_28.to p17_T)
      refine lv_iload_n hx hb dX9_learn_84 rfl (lv_at hl 0 rfl) ?_
      have lk_31 : u_28.1 11 9 = (S.1 11 9) + 1 := ((fu_28 11 rfl).1 9).trans (((fu_25 11 rfl).1 9).trans (((fu_22 11 rfl).1 9).trans ((uL_f).trans (uF_on))))
      exact sIret Cx hr hlk hW hL ⟨iu_28, F_30, ⟨(by omega), (by omega), fun _ => learn_f xu_22 xu_25 xu_28 (fun _ => rfl)⟩⟩ dX9_learn_85
    · refine lv_aload_n hx hb dX9_learn_25 rfl (lv_at hl 0 rfl) ?_
      refine lv_iconst (v := iv 2) hx hb dX9_learn_26 (by decide) ?_
      refine lv_iload_n hx hb dX9_learn_27 rfl (lv_at hl 1 rfl) ?_
      refine sBi (sV (As := [.int (iv 2), .int (iv tk)]) (rest := []) (k := 11) Cx (s_X9_fail l G S (k := 2) (tk := tk) hI (by omega) (by omega)) (c_X9_132 Cx rfl rfl (rmk_ok (by omega) (by decide))) hW (by decide) rfl rfl rfl hl.1 rfl (Nat.le_of_ble_eq_true rfl) dX9_learn_28 ⟨Nat.le_of_ble_eq_true rfl, Nat.le_of_ble_eq_true rfl⟩) hL (fun r_34 u_32 H locs k_33 hW hL => ?_)
      obtain ⟨iu_32, fu_32, xu_32⟩ := k_33
      have F_35 := (Fr.rf : Fr S S pT).trans (fu_32.to p11_T)
      refine lv_pop hx hb dX9_learn_31 rfl ?_
      refine lv_iconst (v := iv (-1)) hx hb dX9_learn_32 (by decide) ?_
      have q_36 : 0 ≤ u_32.1 11 9 ∧ u_32.1 11 9 ≤ 128 := iu_32.fi 11 9 9 (by decide) rfl
      exact sIret Cx hr hlk hW hL ⟨iu_32, F_35, ⟨(by omega), (by omega), fun q => absurd q (by omega)⟩⟩ dX9_learn_33
