/-! The second reading: names -/
theorem jv_h (a : Int) : ∃ z : Int, jv a = jv z ∧ -9223372036854775808 ≤ z ∧ z ≤ 9223372036854775807 ∧ Hd (-9223372036854775808 ≤ a → a ≤ 9223372036854775807 → z = a) := by
  obtain ⟨z, e, l, h⟩ := jv_of (jv a)
  by_cases q : -9223372036854775808 ≤ a ∧ a ≤ 9223372036854775807
  · exact ⟨a, rfl, q.1, q.2, fun _ _ => rfl⟩
  · exact ⟨z, e, l, h, fun x y => absurd ⟨x, y⟩ q⟩
theorem gTl_le {st : Int → Prop} {R : Int → Int → Prop} (hR : ∀ c e, R c e → c < e) {c q : Int} (t : gTl st R c q) : c ≤ q := by
  obtain ⟨n, t⟩ := t
  induction n generalizing c with
  | zero => have := t.2; omega
  | succ n ih => obtain ⟨_, e, r, t⟩ := t; have := hR _ _ r; have := ih t; omega
theorem gL_lt {st : Int → Prop} {F : Int → Int → Prop} (hF : ∀ c e, F c e → c < e) {pz q : Int} (t : gL st F pz q) : pz < q := by
  obtain ⟨e, f, t⟩ := t
  have := hF _ _ f
  have := gTl_le (R := fun c x => F (c + 1) x) (fun c e r => by have := hF _ _ r; omega) t
  omega
theorem gX_lt {K V : Int → Int} {pz q : Int} (h : gX K V pz q) : pz < q := by
  rcases h with h | ⟨_, a, h1, ⟨_, h2⟩ | ⟨_, h2⟩⟩
  · have := h.2; omega
  · have := h1.2; omega
  · have := h1.2; have := h2.2; omega
theorem gN_lt {K V : Int → Int} {pz q : Int} (h : gN K V pz q) : pz < q := by
  rcases h with ⟨_, ⟨_, h⟩ | ⟨_, a, h1, ⟨_, h2⟩ | ⟨_, b, h2, h3⟩⟩⟩
  · omega
  · have := gX_lt h1; have := h2.2; omega
  · have := gX_lt h1; have := gX_lt h2; have := h3.2; omega
theorem gF_lt {K V : Int → Int} : ∀ (n : Nat) {pz q : Int}, gF K V n pz q → pz < q := by
  intro n
  induction n with
  | zero => intro pz q h; exact h.elim
  | succ n ih =>
    intro pz q h
    have hU : ∀ {pz q : Int}, gU K V (gF K V n) pz q → pz < q := fun t => gL_lt (fun _ _ t => gL_lt (fun _ _ t => ih t) t) t
    rcases gF_s.mp h with ⟨_, h⟩ | ⟨_, h | ⟨_, ⟨_, e, h1, h2⟩ | ⟨_, ⟨_, a, h1, b, h2, c, h3, d, h4, e, h5, h6⟩ | ⟨_, h⟩⟩⟩⟩
    · have := ih h; omega
    · have := h.2; omega
    · have := hU h1; have := h2.2; omega
    · have := h1.2; have := h2.2; have := h3.2; have := h4.2; have := hU h5; have := h6.2; omega
    · exact gN_lt h
theorem gP_lt {K V : Int → Int} {n : Nat} {pz q : Int} (h : gP K V (gF K V n) pz q) : pz < q := gL_lt (fun _ _ t => gF_lt n t) h
theorem gU_lt {K V : Int → Int} {n : Nat} {pz q : Int} (h : gU K V (gF K V n) pz q) : pz < q := gL_lt (fun _ _ t => gP_lt t) h
/-- the tokens: in the text, numbers of five digits -/
def gQ (K V Fm Wd : Int → Int) (T : Int) : Prop := (1 ≤ T ∧ T ≤ 2001) ∧ (∀ t, 0 ≤ t → t < T → 0 ≤ Fm t ∧ 0 ≤ Wd t ∧ Fm t + Wd t ≤ 30000) ∧ ∀ t, 0 ≤ t → t < T → K t = 2 → 0 ≤ V t ∧ V t ≤ 99999
def nIx (S : sS) (n i : Int) : Prop := i = -1 ∨ (0 ≤ i ∧ i < n ∧ S.2.1 249 i = 1)
def nSz (S : sS) (i : Int) : Int := if i = -1 then 1 else S.2.1 251 i - S.2.1 250 i + 1
def nSet (S : sS) (j : Int) : Prop := S.2.1 249 j = 1 → 0 ≤ S.2.1 250 j ∧ S.2.1 250 j ≤ S.2.1 251 j ∧ S.2.1 251 j ≤ 99999 ∧ S.2.1 251 j ≤ S.2.1 250 j + 11
def nOK (S : sS) (T n j : Int) : Prop := (0 ≤ S.2.1 248 j ∧ S.2.1 248 j < T) ∧ nSet S j ∧ (S.2.1 249 j = 2 ∨ S.2.1 249 j = 3 → nIx S n (S.2.1 250 j) ∧ nIx S n (S.2.1 251 j) ∧ (S.2.1 251 j ≠ -1 → S.2.1 250 j ≠ -1)) ∧ (S.2.1 249 j = 2 → 0 ≤ S.2.1 252 j ∧ S.2.1 252 j + nSz S (S.2.1 250 j) * nSz S (S.2.1 251 j) ≤ S.1 231 32) ∧ (S.2.1 249 j = 3 → 1 ≤ S.2.1 252 j ∧ S.2.1 252 j + nSz S (S.2.1 250 j) * nSz S (S.2.1 251 j) ≤ S.1 231 35 + 1) ∧ (S.2.1 249 j = 5 → 0 ≤ S.2.1 252 j ∧ S.2.1 252 j ≤ 99999)
def NI (S : sS) (T : Int) : Prop := 0 ≤ S.1 231 25 ∧ ∀ j, 0 ≤ j → j < S.1 231 25 → nOK S T (S.1 231 25) j
/-- the first n names stand -/
def NR (S u : sS) (n : Int) : Prop := ∀ j, 0 ≤ j → j < n → u.2.1 248 j = S.2.1 248 j ∧ u.2.1 249 j = S.2.1 249 j ∧ u.2.1 250 j = S.2.1 250 j ∧ u.2.1 251 j = S.2.1 251 j ∧ u.2.1 252 j = S.2.1 252 j
theorem NR.rf {S : sS} {n : Int} : NR S S n := fun _ _ _ => ⟨rfl, rfl, rfl, rfl, rfl⟩
theorem NR.mono {S u : sS} {n m : Int} (h : NR S u n) (hm : m ≤ n) : NR S u m := fun j j0 j1 => h j j0 (by omega)
theorem NR.trans {S u v : sS} {n : Int} (h : NR S u n) (k : NR u v n) : NR S v n := fun j j0 j1 => by
  have a := h j j0 j1
  have b := k j j0 j1
  exact ⟨b.1.trans a.1, b.2.1.trans a.2.1, b.2.2.1.trans a.2.2.1, b.2.2.2.1.trans a.2.2.2.1, b.2.2.2.2.trans a.2.2.2.2⟩
theorem NR.eq {S u : sS} {n : Int} (a8 : u.2.1 248 = S.2.1 248) (a9 : u.2.1 249 = S.2.1 249) (b0 : u.2.1 250 = S.2.1 250) (b1 : u.2.1 251 = S.2.1 251) (b2 : u.2.1 252 = S.2.1 252) : NR S u n := fun j _ _ => ⟨congrFun a8 j, congrFun a9 j, congrFun b0 j, congrFun b1 j, congrFun b2 j⟩
theorem nIx.cg {S u : sS} {n m i : Int} (h : nIx S n i) (r : NR S u n) (hm : n ≤ m) : nIx u m i := by
  rcases h with h | ⟨a, b, c⟩
  · exact .inl h
  · exact .inr ⟨a, by omega, (r i a b).2.1.trans c⟩
theorem nSz.cg {S u : sS} {n i : Int} (h : nIx S n i) (r : NR S u n) : nSz u i = nSz S i := by
  unfold nSz
  rcases h with h | ⟨a, b, c⟩
  · rw [if_pos h, if_pos h]
  · rw [(r i a b).2.2.1, (r i a b).2.2.2.1]
theorem nOK.cg {S u : sS} {T n m j : Int} (h : nOK S T n j) (r : NR S u n) (hm : n ≤ m) (j0 : 0 ≤ j) (j1 : j < n) (e32 : S.1 231 32 ≤ u.1 231 32) (e35 : S.1 231 35 ≤ u.1 231 35) : nOK u T m j := by
  obtain ⟨h1, h2, h3, h4, h5, h6⟩ := h
  have q := r j j0 j1
  unfold nOK nSet at *
  rw [q.1, q.2.1, q.2.2.1, q.2.2.2.1, q.2.2.2.2]
  refine ⟨h1, h2, fun z => ⟨(h3 z).1.cg r hm, (h3 z).2.1.cg r hm, (h3 z).2.2⟩, fun z => ?_, fun z => ?_, h6⟩
  · rw [nSz.cg (h3 (.inl z)).1 r, nSz.cg (h3 (.inl z)).2.1 r]; have := h4 z; omega
  · rw [nSz.cg (h3 (.inr z)).1 r, nSz.cg (h3 (.inr z)).2.1 r]; have := h5 z; omega
theorem NI.cg {S u : sS} {T : Int} (h : NI S T) (r : NR S u (S.1 231 25)) (e25 : u.1 231 25 = S.1 231 25) (e32 : S.1 231 32 ≤ u.1 231 32) (e35 : S.1 231 35 ≤ u.1 231 35) : NI u T := ⟨by have := h.1; omega, fun j j0 j1 => by
  rw [e25] at j1; exact (h.2 j j0 j1).cg r (by omega) j0 j1 e32 e35⟩
/-- one name more -/
theorem NI.add {S u : sS} {T : Int} (h : NI S T) (r : NR S u (S.1 231 25)) (e25 : u.1 231 25 = S.1 231 25 + 1) (e32 : S.1 231 32 ≤ u.1 231 32) (e35 : S.1 231 35 ≤ u.1 231 35) (n : nOK u T (u.1 231 25) (S.1 231 25)) : NI u T := ⟨by have := h.1; omega, fun j j0 j1 => by
  by_cases q : j = S.1 231 25
  · rw [q]; exact n
  · exact (h.2 j j0 (by omega)).cg r (by omega) j0 (by omega) e32 e35⟩
theorem nSz.r {S : sS} {T n i : Int} (h : nIx S n i) (hs : ∀ j, 0 ≤ j → j < n → nSet S j) : 1 ≤ nSz S i ∧ nSz S i ≤ 12 := by
  unfold nSz
  rcases h with h | ⟨a, b, c⟩
  · rw [if_pos h]; decide
  · rw [if_neg (by omega)]; have := hs i a b c; omega
/-- a set, or none -/
def nSx (S : sS) (i : Int) : Prop := i = -1 ∨ (0 ≤ i ∧ i < 700 ∧ 0 ≤ S.2.1 250 i ∧ S.2.1 250 i ≤ S.2.1 251 i ∧ S.2.1 251 i ≤ 99999 ∧ S.2.1 251 i ≤ S.2.1 250 i + 11)
theorem nSx.r {S : sS} {i : Int} (h : nSx S i) : 1 ≤ nSz S i ∧ nSz S i ≤ 12 := by
  unfold nSz
  rcases h with h | h
  · rw [if_pos h]; decide
  · rw [if_neg (by omega)]; omega
theorem nSx.cg {S u : sS} {i : Int} (h : nSx S i) (e : i ≠ -1 → u.2.1 250 i = S.2.1 250 i ∧ u.2.1 251 i = S.2.1 251 i) : nSx u i ∧ nSz u i = nSz S i := by
  unfold nSx nSz
  by_cases q : i = -1
  · exact ⟨.inl q, by rw [if_pos q, if_pos q]⟩
  · rw [(e q).1, (e q).2]; exact ⟨h, rfl⟩
def PVb (S : sS) : Prop := ∀ i, 0 ≤ i → i < S.1 231 32 → -99999 ≤ S.2.1 253 i ∧ S.2.1 253 i ≤ 99999
def NX (S : sS) (T : Int) : Prop := NI S T ∧ PVb S ∧ (0 ≤ S.1 231 32 ∧ S.1 231 32 ≤ 2100) ∧ 0 ≤ S.1 231 35 ∧ S.1 231 35 ≤ 12
theorem NX.cg {S u : sS} {T : Int} (h : NX S T) (r : NR S u (S.1 231 25)) (e25 : u.1 231 25 = S.1 231 25) (e32 : u.1 231 32 = S.1 231 32) (e35 : u.1 231 35 = S.1 231 35) (a253 : u.2.1 253 = S.2.1 253) : NX u T := ⟨h.1.cg r e25 (by omega) (by omega), fun i i0 i1 => by rw [a253]; exact h.2.1 i i0 (by omega), by have := h.2.2; omega, by have := h.2.2; omega⟩
/-- the names' tokens -/
def NT (S : sS) (T : Int) : Prop := 0 ≤ S.1 231 25 ∧ ∀ j, 0 ≤ j → j < S.1 231 25 → 0 ≤ S.2.1 248 j ∧ S.2.1 248 j < T
theorem NX.nt {S : sS} {T : Int} (h : NX S T) : NT S T := ⟨h.1.1, fun j a b => (h.1.2 j a b).1⟩
theorem NT.cg {S u : sS} {T : Int} (h : NT S T) (e : u.1 231 25 = S.1 231 25) (a : u.2.1 248 = S.2.1 248) : NT u T := ⟨by have := h.1; omega, fun j x y => by rw [a]; exact h.2 j x (by omega)⟩
theorem NX.sx {S : sS} {T i : Int} (h : NX S T) (x : nIx S (S.1 231 25) i) (h7 : S.1 231 25 ≤ 700) : nSx S i := by
  rcases x with x | ⟨a, b, c⟩
  · exact .inl x
  · have := (h.1.2 i a b).2.1 c; exact .inr ⟨a, by omega, this.1, this.2.1, this.2.2.1, this.2.2.2⟩
def fB (S : sS) (ix : Int) : Prop := ∀ k, 0 ≤ k → k ≤ 12 → -99999 ≤ S.2.2.1 257 (ix + k) ∧ S.2.2.1 257 (ix + k) ≤ 99999
theorem pl_2 {a b s t : Int} (ha : 0 ≤ a ∧ a < s) (hb : 0 ≤ b ∧ b < t) : 0 ≤ a * t + b ∧ a * t + b < s * t := by
  have h1 : a * t ≤ (s - 1) * t := Int.mul_le_mul_of_nonneg_right (by omega) (by omega)
  have h2 : 0 ≤ a * t := Int.mul_nonneg ha.1 (by omega)
  rw [Int.sub_mul, Int.one_mul] at h1
  omega
def nRW (S u : sS) (n a b c d e : Int) : Prop := (∀ x, u.2.1 248 x = if x = n then a else S.2.1 248 x) ∧ (∀ x, u.2.1 249 x = if x = n then b else S.2.1 249 x) ∧ (∀ x, u.2.1 250 x = if x = n then c else S.2.1 250 x) ∧ (∀ x, u.2.1 251 x = if x = n then d else S.2.1 251 x) ∧ ∀ x, u.2.1 252 x = if x = n then e else S.2.1 252 x
theorem nRW.nr {S u : sS} {n a b c d e : Int} (h : nRW S u n a b c d e) : NR S u n := fun j _ j1 => by
  have q : j ≠ n := by omega
  exact ⟨by rw [h.1, if_neg q], by rw [h.2.1, if_neg q], by rw [h.2.2.1, if_neg q], by rw [h.2.2.2.1, if_neg q], by rw [h.2.2.2.2, if_neg q]⟩
theorem nRW.at {S u : sS} {n a b c d e : Int} (h : nRW S u n a b c d e) : u.2.1 248 n = a ∧ u.2.1 249 n = b ∧ u.2.1 250 n = c ∧ u.2.1 251 n = d ∧ u.2.1 252 n = e := ⟨by rw [h.1, if_pos rfl], by rw [h.2.1, if_pos rfl], by rw [h.2.2.1, if_pos rfl], by rw [h.2.2.2.1, if_pos rfl], by rw [h.2.2.2.2, if_pos rfl]⟩
theorem nIx.dn {S u : sS} {n a b c d e i : Int} (r : nRW S u n a b c d e) (hb : b ≠ 1) (h : nIx u (n + 1) i) : nIx S n i := by
  rcases h with h | ⟨x, y, z⟩
  · exact .inl h
  · rw [r.2.1] at z
    by_cases q : i = n
    · rw [if_pos q] at z; exact absurd z hb
    · rw [if_neg q] at z; exact .inr ⟨x, by omega, z⟩
theorem NT.add {S u : sS} {T a b c d e : Int} (h : NT S T) (r : nRW S u (S.1 231 25) a b c d e) (e25 : u.1 231 25 = S.1 231 25 + 1) (ha : 0 ≤ a ∧ a < T) : NT u T := ⟨by have := h.1; omega, fun j x y => by
  rw [r.1]
  by_cases q : j = S.1 231 25
  · rw [if_pos q]; exact ha
  · rw [if_neg q]; exact h.2 j x (by omega)⟩
theorem NX.addG {S u : sS} {T tk so a b f : Int} (h : NX S T) (r : nRW S u (S.1 231 25) tk so a b f) (e25 : u.1 231 25 = S.1 231 25 + 1) (e32 : S.1 231 32 ≤ u.1 231 32 ∧ u.1 231 32 ≤ 2100) (e35 : S.1 231 35 ≤ u.1 231 35 ∧ u.1 231 35 ≤ 12) (hP : PVb u) (htk : 0 ≤ tk ∧ tk < T) (c1 : so = 1 → 0 ≤ a ∧ a ≤ b ∧ b ≤ 99999 ∧ b ≤ a + 11) (c23 : so = 2 ∨ so = 3 → nIx S (S.1 231 25) a ∧ nIx S (S.1 231 25) b ∧ (b ≠ -1 → a ≠ -1)) (c2 : so = 2 → 0 ≤ f ∧ f + nSz S a * nSz S b ≤ u.1 231 32) (c3 : so = 3 → 1 ≤ f ∧ f + nSz S a * nSz S b ≤ u.1 231 35 + 1) (c5 : so = 5 → 0 ≤ f ∧ f ≤ 99999) : NX u T := by
  refine ⟨h.1.add r.nr e25 e32.1 e35.1 ?_, hP, by have := h.2.2; omega, by have := h.2.2; omega⟩
  obtain ⟨q1, q2, q3, q4, q5⟩ := r.at
  unfold nOK nSet
  rw [q1, q2, q3, q4, q5]
  refine ⟨htk, c1, fun z => ⟨(c23 z).1.cg r.nr (by omega), (c23 z).2.1.cg r.nr (by omega), (c23 z).2.2⟩, fun z => ?_, fun z => ?_, c5⟩
  · rw [nSz.cg (c23 (.inl z)).1 r.nr, nSz.cg (c23 (.inl z)).2.1 r.nr]; exact c2 z
  · rw [nSz.cg (c23 (.inr z)).1 r.nr, nSz.cg (c23 (.inr z)).2.1 r.nr]; exact c3 z
set_option maxRecDepth 100000 in
set_option maxHeartbeats 4000000 in
theorem s_X12_find (l : Launch) (G : sG) (S : sS) {K V Fm Wd : Int → Int} {T : Int} {tk : Int} (hI : dX G S) (hK : S.2.1 244 = K) (hV : S.2.1 247 = V) (hFm : S.2.1 245 = Fm) (hWd : S.2.1 246 = Wd) (hQ : gQ K V Fm Wd T) (hNT : NT S T) (h25 : S.1 231 25 ≤ 700) (htk : 0 ≤ tk ∧ tk < T) : Met l yX12_find (.code yX12_find cX12_find 5 (some .int) :: tb) (rmk 1 0 0) (sPc G 294 S [.ref (G.2.2.1 + 231), .int (iv tk)]) (sQi G 294 (fun r u => u = S ∧ (-1 ≤ r ∧ r < S.1 231 25))) 0 0 (sF G) := by
  refine sEnter (by decide) (Nat.le_of_ble_eq_true rfl) ?_
  intro p e s m args below meth c Cx hr hlk hnm hW ls hl
  have Cx : sC G p m c cX12_find 5 s args RX12 := Cx
  obtain ⟨hx, hb, hml, hown, hts⟩ := id Cx.1
  have hL : sL G [] := sL_nil
  have hl : lv_has ls 5 [(0, .ref (G.2.2.1 + 231)), (1, .int (iv tk))] := hl
  have hW0 := hW
  have hQ1 := hQ.1
  have hn0 := hNT.1
  have f1 : 0 ≤ S.2.1 245 tk ∧ 0 ≤ S.2.1 246 tk ∧ S.2.1 245 tk + S.2.1 246 tk ≤ 30000 := by rw [hFm, hWd]; exact hQ.2.1 tk (by omega) (by omega)
  refine lv_aload_n hx hb dX12_find_0 rfl (lv_at hl 0 rfl) ?_
  have q_1 : (-2147483648) ≤ S.1 231 25 ∧ S.1 231 25 ≤ 2147483647 := hI.fi 25
  refine g_X12_358 Cx hW (k := 231) (by decide) rfl (v := S.1 231 25) rfl dX12_find_1 ?_
  refine lv_iconst (v := iv 1) hx hb dX12_find_4 (by decide) ?_
  refine r_isub hx hb dX12_find_5 ?_
  refine lv_istore_n (lv' := [(2, .int (iv ((S.1 231 25) - 1))), (0, .ref (G.2.2.1 + 231)), (1, .int (iv tk))]) hx hb dX12_find_6 rfl hl (by decide) rfl (fun ls hl => ?_)
  have loop_7 : ∀ (fuel : Nat) (j : Int) (H : Heap) (locs : List Loc) (ls : Array Slot), (j + 1).toNat < fuel → (-1 ≤ j ∧ j < S.1 231 25) → sW G 294 S H → sL G locs → lv_has ls 5 [(2, .int (iv j)), (0, .ref (G.2.2.1 + 231)), (1, .int (iv tk))] → W p l e (rmk 1 0 0) s m args below meth c H locs 0 0 (MQ below (sQi G 294 (fun r u => u = S ∧ (-1 ≤ r ∧ r < S.1 231 25))) args s 0 0 (sF G)) (F0 m 7 ls []) := by
    intro fuel
    induction fuel with
    | zero => intro j H locs ls hmeas hj hW hL hl; exact absurd hmeas (Nat.not_lt_zero _)
    | succ fuel ih_7 =>
      intro j H locs ls hmeas hj hW hL hl
      refine lv_iload_n hx hb dX12_find_7 rfl (lv_at hl 0 rfl) ?_
      refine r_if_lt (tgt := 115) hx hb ⟨(by omega), (by omega)⟩ dX12_find_8 (by decide) (fun c_2 => ?_) (fun c_2 => ?_)
      · refine lv_iconst (v := iv (-1)) hx hb dX12_find_115 (by decide) ?_
        exact sIret Cx hr hlk hW hL ⟨rfl, (by omega)⟩ dX12_find_116
      · have hj1 := hNT.2 j (by omega) (by omega)
        have f2 : 0 ≤ S.2.1 245 (S.2.1 248 j) ∧ 0 ≤ S.2.1 246 (S.2.1 248 j) ∧ S.2.1 245 (S.2.1 248 j) + S.2.1 246 (S.2.1 248 j) ≤ 30000 := by rw [hFm, hWd]; exact hQ.2.1 _ (by omega) (by omega)
        refine lv_aload_n hx hb dX12_find_11 rfl (lv_at hl 1 rfl) ?_
        refine g_X12_53 Cx hW (k := 231) (by decide) rfl (v := .ref (G.2.2.1 + 246)) (rd_17 hI) dX12_find_12 ?_
        refine lv_aload_n hx hb dX12_find_15 rfl (lv_at hl 1 rfl) ?_
        refine g_X12_59 Cx hW (k := 231) (by decide) rfl (v := .ref (G.2.2.1 + 248)) (rd_26 hI) dX12_find_16 ?_
        refine lv_iload_n hx hb dX12_find_19 rfl (lv_at hl 0 rfl) ?_
        refine rIald Cx hW (k := 248) (by decide) rfl (by decide) (by omega) (by omega) dX12_find_20 ?_
        have q_3 : (-2147483648) ≤ S.2.1 248 j ∧ S.2.1 248 j ≤ 2147483647 := hI.ai 248 j
        refine r_i (b := S.2.1 248 j) rfl ?_
        refine rIald Cx hW (k := 246) (by decide) rfl (by decide) (by omega) (by omega) dX12_find_21 ?_
        have q_4 : (-2147483648) ≤ S.2.1 246 (S.2.1 248 j) ∧ S.2.1 246 (S.2.1 248 j) ≤ 2147483647 := hI.ai 246 (S.2.1 248 j)
        refine r_i (b := S.2.1 246 (S.2.1 248 j)) rfl ?_
        refine lv_aload_n hx hb dX12_find_22 rfl (lv_at hl 1 rfl) ?_
        refine g_X12_53 Cx hW (k := 231) (by decide) rfl (v := .ref (G.2.2.1 + 246)) (rd_17 hI) dX12_find_23 ?_
        refine lv_iload_n hx hb dX12_find_26 rfl (lv_at hl 2 rfl) ?_
        refine rIald Cx hW (k := 246) (by decide) rfl (by decide) (by omega) (by omega) dX12_find_27 ?_
        have q_5 : (-2147483648) ≤ S.2.1 246 tk ∧ S.2.1 246 tk ≤ 2147483647 := hI.ai 246 tk
        refine r_i (b := S.2.1 246 tk) rfl ?_
        refine r_icmp_ne (tgt := 35) hx hb ⟨(by omega), (by omega)⟩ ⟨(by omega), (by omega)⟩ dX12_find_28 (by decide) (fun c_6 => ?_) (fun c_6 => ?_)
        · refine lv_iconst (v := iv 0) hx hb dX12_find_35 (by decide) ?_
          refine lv_istore_n (lv' := [(3, .int (iv 0)), (2, .int (iv j)), (0, .ref (G.2.2.1 + 231)), (1, .int (iv tk))]) hx hb dX12_find_36 rfl hl (by decide) rfl (fun ls hl => ?_)
          refine lv_iconst (v := iv 0) hx hb dX12_find_37 (by decide) ?_
          refine lv_istore (lv' := [(4, .int (iv 0)), (3, .int (iv 0)), (2, .int (iv j)), (0, .ref (G.2.2.1 + 231)), (1, .int (iv tk))]) hx hb dX12_find_38 hl (by decide) rfl (fun ls hl => ?_)
          have loop_40 : ∀ (fuel : Nat) (k : Int) (ok : Int) (H : Heap) (locs : List Loc) (ls : Array Slot), (S.2.1 246 tk - k).toNat < fuel → (0 ≤ k ∧ k ≤ S.2.1 246 tk) → ((0 ≤ ok ∧ ok ≤ 1) ∧ (ok = 1 → S.2.1 246 (S.2.1 248 j) = S.2.1 246 tk)) → sW G 294 S H → sL G locs → lv_has ls 5 [(4, .int (iv k)), (3, .int (iv ok)), (2, .int (iv j)), (0, .ref (G.2.2.1 + 231)), (1, .int (iv tk))] → W p l e (rmk 1 0 0) s m args below meth c H locs 0 0 (MQ below (sQi G 294 (fun r u => u = S ∧ (-1 ≤ r ∧ r < S.1 231 25))) args s 0 0 (sF G)) (F0 m 40 ls []) := by
            intro fuel
            induction fuel with
            | zero => intro k ok H locs ls hmeas hk hok hW hL hl; exact absurd hmeas (Nat.not_lt_zero _)
            | succ fuel ih_40 =>
              intro k ok H locs ls hmeas hk hok hW hL hl
              refine lv_iload hx hb dX12_find_40 (lv_at hl 0 rfl) ?_
              refine lv_aload_n hx hb dX12_find_42 rfl (lv_at hl 3 rfl) ?_
              refine g_X12_53 Cx hW (k := 231) (by decide) rfl (v := .ref (G.2.2.1 + 246)) (rd_17 hI) dX12_find_43 ?_
              refine lv_iload_n hx hb dX12_find_46 rfl (lv_at hl 4 rfl) ?_
              refine rIald Cx hW (k := 246) (by decide) rfl (by decide) (by omega) (by omega) dX12_find_47 ?_
              refine r_i (b := S.2.1 246 tk) rfl ?_
              refine r_icmp_ge (tgt := 103) hx hb ⟨(by omega), (by omega)⟩ ⟨(by omega), (by omega)⟩ dX12_find_48 (by decide) (fun c_7 => ?_) (fun c_7 => ?_)
              · refine lv_iload_n hx hb dX12_find_103 rfl (lv_at hl 1 rfl) ?_
                refine r_if_eq (tgt := 109) hx hb ⟨(by omega), (by omega)⟩ dX12_find_104 (by decide) (fun c_8 => ?_) (fun c_8 => ?_)
                · refine lv_iinc (v := iv (j + (-1))) (lv' := [(2, .int (iv (j + (-1)))), (4, .int (iv k)), (3, .int (iv ok)), (0, .ref (G.2.2.1 + 231)), (1, .int (iv tk))]) hx hb dX12_find_109 hl (k := 2) rfl ((Int32.ofInt_add _ _).symm) (by decide) rfl (fun ls hl => ?_)
                  refine lv_goto (tgt := 7) hx hb dX12_find_112 (by decide) ?_
                  exact ih_7 (j + (-1)) _ _ _ (by omega) (by omega) hW hL (lv_sub hl [0, 3, 4] rfl)
                · refine lv_iload_n hx hb dX12_find_107 rfl (lv_at hl 2 rfl) ?_
                  exact sIret Cx hr hlk hW hL ⟨rfl, (by omega)⟩ dX12_find_108
              · refine lv_iload_n hx hb dX12_find_51 rfl (lv_at hl 1 rfl) ?_
                refine r_if_eq (tgt := 103) hx hb ⟨(by omega), (by omega)⟩ dX12_find_52 (by decide) (fun c_9 => ?_) (fun c_9 => ?_)
                · refine lv_iload_n hx hb dX12_find_103 rfl (lv_at hl 1 rfl) ?_
                  refine r_if_eq (tgt := 109) hx hb ⟨(by omega), (by omega)⟩ dX12_find_104 (by decide) (fun c_10 => ?_) (fun c_10 => ?_)
                  · refine lv_iinc (v := iv (j + (-1))) (lv' := [(2, .int (iv (j + (-1)))), (4, .int (iv k)), (3, .int (iv ok)), (0, .ref (G.2.2.1 + 231)), (1, .int (iv tk))]) hx hb dX12_find_109 hl (k := 2) rfl ((Int32.ofInt_add _ _).symm) (by decide) rfl (fun ls hl => ?_)
                    refine lv_goto (tgt := 7) hx hb dX12_find_112 (by decide) ?_
                    exact ih_7 (j + (-1)) _ _ _ (by omega) (by omega) hW hL (lv_sub hl [0, 3, 4] rfl)
                  · refine lv_iload_n hx hb dX12_find_107 rfl (lv_at hl 2 rfl) ?_
                    exact sIret Cx hr hlk hW hL ⟨rfl, (by omega)⟩ dX12_find_108
                · refine lv_aload_n hx hb dX12_find_55 rfl (lv_at hl 3 rfl) ?_
                  refine g_X12_44 Cx hW (k := 231) (by decide) rfl (v := .ref (G.2.2.1 + 243)) (rd_13 hI) dX12_find_56 ?_
                  refine lv_aload_n hx hb dX12_find_59 rfl (lv_at hl 3 rfl) ?_
                  refine g_X12_50 Cx hW (k := 231) (by decide) rfl (v := .ref (G.2.2.1 + 245)) (rd_16 hI) dX12_find_60 ?_
                  refine lv_aload_n hx hb dX12_find_63 rfl (lv_at hl 3 rfl) ?_
                  refine g_X12_59 Cx hW (k := 231) (by decide) rfl (v := .ref (G.2.2.1 + 248)) (rd_26 hI) dX12_find_64 ?_
                  refine lv_iload_n hx hb dX12_find_67 rfl (lv_at hl 2 rfl) ?_
                  refine rIald Cx hW (k := 248) (by decide) rfl (by decide) (by omega) (by omega) dX12_find_68 ?_
                  refine r_i (b := S.2.1 248 j) rfl ?_
                  refine rIald Cx hW (k := 245) (by decide) rfl (by decide) (by omega) (by omega) dX12_find_69 ?_
                  have q_11 : (-2147483648) ≤ S.2.1 245 (S.2.1 248 j) ∧ S.2.1 245 (S.2.1 248 j) ≤ 2147483647 := hI.ai 245 (S.2.1 248 j)
                  refine r_i (b := S.2.1 245 (S.2.1 248 j)) rfl ?_
                  refine lv_iload hx hb dX12_find_70 (lv_at hl 0 rfl) ?_
                  refine r_iadd hx hb dX12_find_72 ?_
                  refine rBald Cx hW (k := 243) (by decide) rfl (by decide) (by omega) (by omega) dX12_find_73 ?_
                  have q_12 : (-128) ≤ S.2.1 243 ((S.2.1 245 (S.2.1 248 j)) + k) ∧ S.2.1 243 ((S.2.1 245 (S.2.1 248 j)) + k) ≤ 127 := hI.ai 243 ((S.2.1 245 (S.2.1 248 j)) + k)
                  refine r_i (b := S.2.1 243 ((S.2.1 245 (S.2.1 248 j)) + k)) rfl ?_
                  refine lv_aload_n hx hb dX12_find_74 rfl (lv_at hl 3 rfl) ?_
                  refine g_X12_44 Cx hW (k := 231) (by decide) rfl (v := .ref (G.2.2.1 + 243)) (rd_13 hI) dX12_find_75 ?_
                  refine lv_aload_n hx hb dX12_find_78 rfl (lv_at hl 3 rfl) ?_
                  refine g_X12_50 Cx hW (k := 231) (by decide) rfl (v := .ref (G.2.2.1 + 245)) (rd_16 hI) dX12_find_79 ?_
                  refine lv_iload_n hx hb dX12_find_82 rfl (lv_at hl 4 rfl) ?_
                  refine rIald Cx hW (k := 245) (by decide) rfl (by decide) (by omega) (by omega) dX12_find_83 ?_
                  have q_13 : (-2147483648) ≤ S.2.1 245 tk ∧ S.2.1 245 tk ≤ 2147483647 := hI.ai 245 tk
                  refine r_i (b := S.2.1 245 tk) rfl ?_
                  refine lv_iload hx hb dX12_find_84 (lv_at hl 0 rfl) ?_
                  refine r_iadd hx hb dX12_find_86 ?_
                  refine rBald Cx hW (k := 243) (by decide) rfl (by decide) (by omega) (by omega) dX12_find_87 ?_
                  have q_14 : (-128) ≤ S.2.1 243 ((S.2.1 245 tk) + k) ∧ S.2.1 243 ((S.2.1 245 tk) + k) ≤ 127 := hI.ai 243 ((S.2.1 245 tk) + k)
                  refine r_i (b := S.2.1 243 ((S.2.1 245 tk) + k)) rfl ?_
                  refine r_icmp_ne (tgt := 95) hx hb ⟨(by omega), (by omega)⟩ ⟨(by omega), (by omega)⟩ dX12_find_88 (by decide) (fun c_15 => ?_) (fun c_15 => ?_)
                  · refine lv_iconst (v := iv 0) hx hb dX12_find_95 (by decide) ?_
                    refine lv_istore_n (lv' := [(3, .int (iv 0)), (4, .int (iv k)), (2, .int (iv j)), (0, .ref (G.2.2.1 + 231)), (1, .int (iv tk))]) hx hb dX12_find_96 rfl hl (by decide) rfl (fun ls hl => ?_)
                    refine lv_iinc (v := iv (k + 1)) (lv' := [(4, .int (iv (k + 1))), (3, .int (iv 0)), (2, .int (iv j)), (0, .ref (G.2.2.1 + 231)), (1, .int (iv tk))]) hx hb dX12_find_97 hl (k := 1) rfl ((Int32.ofInt_add _ _).symm) (by decide) rfl (fun ls hl => ?_)
                    refine lv_goto (tgt := 40) hx hb dX12_find_100 (by decide) ?_
                    exact ih_40 (k + 1) 0 _ _ _ (by omega) (by omega) (by omega) hW hL (lv_sub hl [0, 1, 2, 3, 4] rfl)
                  · refine lv_iconst (v := iv 1) hx hb dX12_find_91 (by decide) ?_
                    refine lv_goto (tgt := 96) hx hb dX12_find_92 (by decide) ?_
                    refine lv_istore_n (lv' := [(3, .int (iv 1)), (4, .int (iv k)), (2, .int (iv j)), (0, .ref (G.2.2.1 + 231)), (1, .int (iv tk))]) hx hb dX12_find_96 rfl hl (by decide) rfl (fun ls hl => ?_)
                    refine lv_iinc (v := iv (k + 1)) (lv' := [(4, .int (iv (k + 1))), (3, .int (iv 1)), (2, .int (iv j)), (0, .ref (G.2.2.1 + 231)), (1, .int (iv tk))]) hx hb dX12_find_97 hl (k := 1) rfl ((Int32.ofInt_add _ _).symm) (by decide) rfl (fun ls hl => ?_)
                    refine lv_goto (tgt := 40) hx hb dX12_find_100 (by decide) ?_
                    exact ih_40 (k + 1) 1 _ _ _ (by omega) (by omega) (by omega) hW hL (lv_sub hl [0, 1, 2, 3, 4] rfl)
          exact loop_40 (_ + 1) 0 0 _ _ _ (Nat.lt_succ_self _) (by omega) (by omega) hW hL (lv_sub hl [0, 1, 2, 3, 4] rfl)
        · refine lv_iconst (v := iv 1) hx hb dX12_find_31 (by decide) ?_
          refine lv_goto (tgt := 36) hx hb dX12_find_32 (by decide) ?_
          refine lv_istore_n (lv' := [(3, .int (iv 1)), (2, .int (iv j)), (0, .ref (G.2.2.1 + 231)), (1, .int (iv tk))]) hx hb dX12_find_36 rfl hl (by decide) rfl (fun ls hl => ?_)
          refine lv_iconst (v := iv 0) hx hb dX12_find_37 (by decide) ?_
          refine lv_istore (lv' := [(4, .int (iv 0)), (3, .int (iv 1)), (2, .int (iv j)), (0, .ref (G.2.2.1 + 231)), (1, .int (iv tk))]) hx hb dX12_find_38 hl (by decide) rfl (fun ls hl => ?_)
          have loop_40 : ∀ (fuel : Nat) (k : Int) (ok : Int) (H : Heap) (locs : List Loc) (ls : Array Slot), (S.2.1 246 tk - k).toNat < fuel → (0 ≤ k ∧ k ≤ S.2.1 246 tk) → ((0 ≤ ok ∧ ok ≤ 1) ∧ (ok = 1 → S.2.1 246 (S.2.1 248 j) = S.2.1 246 tk)) → sW G 294 S H → sL G locs → lv_has ls 5 [(4, .int (iv k)), (3, .int (iv ok)), (2, .int (iv j)), (0, .ref (G.2.2.1 + 231)), (1, .int (iv tk))] → W p l e (rmk 1 0 0) s m args below meth c H locs 0 0 (MQ below (sQi G 294 (fun r u => u = S ∧ (-1 ≤ r ∧ r < S.1 231 25))) args s 0 0 (sF G)) (F0 m 40 ls []) := by
            intro fuel
            induction fuel with
            | zero => intro k ok H locs ls hmeas hk hok hW hL hl; exact absurd hmeas (Nat.not_lt_zero _)
            | succ fuel ih_40 =>
              intro k ok H locs ls hmeas hk hok hW hL hl
              refine lv_iload hx hb dX12_find_40 (lv_at hl 0 rfl) ?_
              refine lv_aload_n hx hb dX12_find_42 rfl (lv_at hl 3 rfl) ?_
              refine g_X12_53 Cx hW (k := 231) (by decide) rfl (v := .ref (G.2.2.1 + 246)) (rd_17 hI) dX12_find_43 ?_
              refine lv_iload_n hx hb dX12_find_46 rfl (lv_at hl 4 rfl) ?_
              refine rIald Cx hW (k := 246) (by decide) rfl (by decide) (by omega) (by omega) dX12_find_47 ?_
              refine r_i (b := S.2.1 246 tk) rfl ?_
              refine r_icmp_ge (tgt := 103) hx hb ⟨(by omega), (by omega)⟩ ⟨(by omega), (by omega)⟩ dX12_find_48 (by decide) (fun c_16 => ?_) (fun c_16 => ?_)
              · refine lv_iload_n hx hb dX12_find_103 rfl (lv_at hl 1 rfl) ?_
                refine r_if_eq (tgt := 109) hx hb ⟨(by omega), (by omega)⟩ dX12_find_104 (by decide) (fun c_17 => ?_) (fun c_17 => ?_)
                · refine lv_iinc (v := iv (j + (-1))) (lv' := [(2, .int (iv (j + (-1)))), (4, .int (iv k)), (3, .int (iv ok)), (0, .ref (G.2.2.1 + 231)), (1, .int (iv tk))]) hx hb dX12_find_109 hl (k := 2) rfl ((Int32.ofInt_add _ _).symm) (by decide) rfl (fun ls hl => ?_)
                  refine lv_goto (tgt := 7) hx hb dX12_find_112 (by decide) ?_
                  exact ih_7 (j + (-1)) _ _ _ (by omega) (by omega) hW hL (lv_sub hl [0, 3, 4] rfl)
                · refine lv_iload_n hx hb dX12_find_107 rfl (lv_at hl 2 rfl) ?_
                  exact sIret Cx hr hlk hW hL ⟨rfl, (by omega)⟩ dX12_find_108
              · refine lv_iload_n hx hb dX12_find_51 rfl (lv_at hl 1 rfl) ?_
                refine r_if_eq (tgt := 103) hx hb ⟨(by omega), (by omega)⟩ dX12_find_52 (by decide) (fun c_18 => ?_) (fun c_18 => ?_)
                · refine lv_iload_n hx hb dX12_find_103 rfl (lv_at hl 1 rfl) ?_
                  refine r_if_eq (tgt := 109) hx hb ⟨(by omega), (by omega)⟩ dX12_find_104 (by decide) (fun c_19 => ?_) (fun c_19 => ?_)
                  · refine lv_iinc (v := iv (j + (-1))) (lv' := [(2, .int (iv (j + (-1)))), (4, .int (iv k)), (3, .int (iv ok)), (0, .ref (G.2.2.1 + 231)), (1, .int (iv tk))]) hx hb dX12_find_109 hl (k := 2) rfl ((Int32.ofInt_add _ _).symm) (by decide) rfl (fun ls hl => ?_)
                    refine lv_goto (tgt := 7) hx hb dX12_find_112 (by decide) ?_
                    exact ih_7 (j + (-1)) _ _ _ (by omega) (by omega) hW hL (lv_sub hl [0, 3, 4] rfl)
                  · refine lv_iload_n hx hb dX12_find_107 rfl (lv_at hl 2 rfl) ?_
                    exact sIret Cx hr hlk hW hL ⟨rfl, (by omega)⟩ dX12_find_108
                · refine lv_aload_n hx hb dX12_find_55 rfl (lv_at hl 3 rfl) ?_
                  refine g_X12_44 Cx hW (k := 231) (by decide) rfl (v := .ref (G.2.2.1 + 243)) (rd_13 hI) dX12_find_56 ?_
                  refine lv_aload_n hx hb dX12_find_59 rfl (lv_at hl 3 rfl) ?_
                  refine g_X12_50 Cx hW (k := 231) (by decide) rfl (v := .ref (G.2.2.1 + 245)) (rd_16 hI) dX12_find_60 ?_
                  refine lv_aload_n hx hb dX12_find_63 rfl (lv_at hl 3 rfl) ?_
                  refine g_X12_59 Cx hW (k := 231) (by decide) rfl (v := .ref (G.2.2.1 + 248)) (rd_26 hI) dX12_find_64 ?_
                  refine lv_iload_n hx hb dX12_find_67 rfl (lv_at hl 2 rfl) ?_
                  refine rIald Cx hW (k := 248) (by decide) rfl (by decide) (by omega) (by omega) dX12_find_68 ?_
                  refine r_i (b := S.2.1 248 j) rfl ?_
                  refine rIald Cx hW (k := 245) (by decide) rfl (by decide) (by omega) (by omega) dX12_find_69 ?_
                  have q_20 : (-2147483648) ≤ S.2.1 245 (S.2.1 248 j) ∧ S.2.1 245 (S.2.1 248 j) ≤ 2147483647 := hI.ai 245 (S.2.1 248 j)
                  refine r_i (b := S.2.1 245 (S.2.1 248 j)) rfl ?_
                  refine lv_iload hx hb dX12_find_70 (lv_at hl 0 rfl) ?_
                  refine r_iadd hx hb dX12_find_72 ?_
                  refine rBald Cx hW (k := 243) (by decide) rfl (by decide) (by omega) (by omega) dX12_find_73 ?_
                  have q_21 : (-128) ≤ S.2.1 243 ((S.2.1 245 (S.2.1 248 j)) + k) ∧ S.2.1 243 ((S.2.1 245 (S.2.1 248 j)) + k) ≤ 127 := hI.ai 243 ((S.2.1 245 (S.2.1 248 j)) + k)
                  refine r_i (b := S.2.1 243 ((S.2.1 245 (S.2.1 248 j)) + k)) rfl ?_
                  refine lv_aload_n hx hb dX12_find_74 rfl (lv_at hl 3 rfl) ?_
                  refine g_X12_44 Cx hW (k := 231) (by decide) rfl (v := .ref (G.2.2.1 + 243)) (rd_13 hI) dX12_find_75 ?_
                  refine lv_aload_n hx hb dX12_find_78 rfl (lv_at hl 3 rfl) ?_
                  refine g_X12_50 Cx hW (k := 231) (by decide) rfl (v := .ref (G.2.2.1 + 245)) (rd_16 hI) dX12_find_79 ?_
                  refine lv_iload_n hx hb dX12_find_82 rfl (lv_at hl 4 rfl) ?_
                  refine rIald Cx hW (k := 245) (by decide) rfl (by decide) (by omega) (by omega) dX12_find_83 ?_
                  have q_22 : (-2147483648) ≤ S.2.1 245 tk ∧ S.2.1 245 tk ≤ 2147483647 := hI.ai 245 tk
                  refine r_i (b := S.2.1 245 tk) rfl ?_
                  refine lv_iload hx hb dX12_find_84 (lv_at hl 0 rfl) ?_
                  refine r_iadd hx hb dX12_find_86 ?_
                  refine rBald Cx hW (k := 243) (by decide) rfl (by decide) (by omega) (by omega) dX12_find_87 ?_
                  have q_23 : (-128) ≤ S.2.1 243 ((S.2.1 245 tk) + k) ∧ S.2.1 243 ((S.2.1 245 tk) + k) ≤ 127 := hI.ai 243 ((S.2.1 245 tk) + k)
                  refine r_i (b := S.2.1 243 ((S.2.1 245 tk) + k)) rfl ?_
                  refine r_icmp_ne (tgt := 95) hx hb ⟨(by omega), (by omega)⟩ ⟨(by omega), (by omega)⟩ dX12_find_88 (by decide) (fun c_24 => ?_) (fun c_24 => ?_)
                  · refine lv_iconst (v := iv 0) hx hb dX12_find_95 (by decide) ?_
                    refine lv_istore_n (lv' := [(3, .int (iv 0)), (4, .int (iv k)), (2, .int (iv j)), (0, .ref (G.2.2.1 + 231)), (1, .int (iv tk))]) hx hb dX12_find_96 rfl hl (by decide) rfl (fun ls hl => ?_)
                    refine lv_iinc (v := iv (k + 1)) (lv' := [(4, .int (iv (k + 1))), (3, .int (iv 0)), (2, .int (iv j)), (0, .ref (G.2.2.1 + 231)), (1, .int (iv tk))]) hx hb dX12_find_97 hl (k := 1) rfl ((Int32.ofInt_add _ _).symm) (by decide) rfl (fun ls hl => ?_)
                    refine lv_goto (tgt := 40) hx hb dX12_find_100 (by decide) ?_
                    exact ih_40 (k + 1) 0 _ _ _ (by omega) (by omega) (by omega) hW hL (lv_sub hl [0, 1, 2, 3, 4] rfl)
                  · refine lv_iconst (v := iv 1) hx hb dX12_find_91 (by decide) ?_
                    refine lv_goto (tgt := 96) hx hb dX12_find_92 (by decide) ?_
                    refine lv_istore_n (lv' := [(3, .int (iv 1)), (4, .int (iv k)), (2, .int (iv j)), (0, .ref (G.2.2.1 + 231)), (1, .int (iv tk))]) hx hb dX12_find_96 rfl hl (by decide) rfl (fun ls hl => ?_)
                    refine lv_iinc (v := iv (k + 1)) (lv' := [(4, .int (iv (k + 1))), (3, .int (iv 1)), (2, .int (iv j)), (0, .ref (G.2.2.1 + 231)), (1, .int (iv tk))]) hx hb dX12_find_97 hl (k := 1) rfl ((Int32.ofInt_add _ _).symm) (by decide) rfl (fun ls hl => ?_)
                    refine lv_goto (tgt := 40) hx hb dX12_find_100 (by decide) ?_
                    exact ih_40 (k + 1) 1 _ _ _ (by omega) (by omega) (by omega) hW hL (lv_sub hl [0, 1, 2, 3, 4] rfl)
          exact loop_40 (_ + 1) 0 1 _ _ _ (Nat.lt_succ_self _) (by omega) (by omega) hW hL (lv_sub hl [0, 1, 2, 3, 4] rfl)
  exact loop_7 (_ + 1) ((S.1 231 25) - 1) _ _ _ (Nat.lt_succ_self _) (by omega) hW hL (lv_sub hl [0, 1, 2] rfl)

set_option maxRecDepth 100000 in
set_option maxHeartbeats 4000000 in
theorem s_X12_add_ (l : Launch) (G : sG) (S : sS) {K V Fm Wd : Int → Int} {T : Int} {tk so : Int} (hI : dX G S) (hK : S.2.1 244 = K) (hV : S.2.1 247 = V) (hFm : S.2.1 245 = Fm) (hWd : S.2.1 246 = Wd) (hQ : gQ K V Fm Wd T) (hNT : Hd (S.1 231 20 = 0 → NT S T)) (h25 : S.1 231 20 = 0 → S.1 231 25 < 700) (htk : 0 ≤ tk ∧ tk < T) (hso : 1 ≤ so ∧ so ≤ 5) : Met l yX12_add_ (.code yX12_add_ cX12_add_ 3 (some .int) :: tb) (rmk 2 0 0) (sPc G 294 S [.ref (G.2.2.1 + 231), .int (iv tk), .int (iv so)]) (sQi G 294 (fun r u => dX G u ∧ Fr S u (pl [231, 248, 249, 250, 251, 252]) ∧ FF S u (fl [20, 21, 25]) ∧ (-1 ≤ r ∧ Hd (u.1 231 20 ≠ 0 → u.1 231 25 = S.1 231 25 ∧ r = -1 ∧ ∀ n, NR S u n) ∧ Hd (u.1 231 20 = 0 → S.1 231 20 = 0 ∧ r = S.1 231 25 ∧ u.1 231 25 = S.1 231 25 + 1 ∧ nRW S u (S.1 231 25) tk so (-1) (-1) 0)))) 0 0 (sF G) := by
  refine sEnter (by decide) (Nat.le_of_ble_eq_true rfl) ?_
  intro p e s m args below meth c Cx hr hlk hnm hW ls hl
  have Cx : sC G p m c cX12_add_ 3 s args RX12 := Cx
  obtain ⟨hx, hb, hml, hown, hts⟩ := id Cx.1
  have hL : sL G [] := sL_nil
  have hl : lv_has ls 3 [(0, .ref (G.2.2.1 + 231)), (1, .int (iv tk)), (2, .int (iv so))] := hl
  have hW0 := hW
  have hQ1 := hQ.1
  refine lv_aload_n hx hb dX12_add__0 rfl (lv_at hl 0 rfl) ?_
  have q_1 : (-2147483648) ≤ S.1 231 20 ∧ S.1 231 20 ≤ 2147483647 := hI.fi 20
  refine g_X12_270 Cx hW (k := 231) (by decide) rfl (v := S.1 231 20) rfl dX12_add__1 ?_
  refine r_if_ne (tgt := 22) hx hb ⟨(by omega), (by omega)⟩ dX12_add__4 (by decide) (fun c_2 => ?_) (fun c_2 => ?_)
  · refine lv_aload_n hx hb dX12_add__22 rfl (lv_at hl 0 rfl) ?_
    refine g_X12_270 Cx hW (k := 231) (by decide) rfl (v := S.1 231 20) rfl dX12_add__23 ?_
    refine r_if_eq (tgt := 31) hx hb ⟨(by omega), (by omega)⟩ dX12_add__26 (by decide) (fun c => absurd c (by omega)) (fun _ => ?_)
    refine lv_iconst (v := iv (-1)) hx hb dX12_add__29 (by decide) ?_
    have q_3 : (-2147483648) ≤ S.1 231 25 ∧ S.1 231 25 ≤ 2147483647 := hI.fi 25
    exact sIret Cx hr hlk hW hL ⟨hI, (Fr.rf : Fr S S (pl [231, 248, 249, 250, 251, 252])), FF.rf, ⟨(by omega), (fun _ => ⟨(show S.1 231 25 = S.1 231 25 from rfl), rfl, fun n => NR.rf⟩), (fun h => absurd h (by have e9 := (show S.1 231 20 = S.1 231 20 from rfl); omega))⟩⟩ dX12_add__30
  · have hnt := hNT (by omega)
    have hn0 := hnt.1
    refine lv_aload_n hx hb dX12_add__7 rfl (lv_at hl 0 rfl) ?_
    refine lv_iload_n hx hb dX12_add__8 rfl (lv_at hl 1 rfl) ?_
    have q_4 : (-2147483648) ≤ S.1 231 25 ∧ S.1 231 25 ≤ 2147483647 := hI.fi 25
    refine sBi (sV (As := [.int (iv tk)]) (rest := []) (k := 231) Cx (s_X12_find l G S (tk := tk) (K := K) (V := V) (Fm := Fm) (Wd := Wd) (T := T) hI hK hV hFm hWd hQ hnt (by omega) (by omega)) (c_X12_361 Cx rfl rfl (rmk_ok (by omega) (by decide))) hW (by decide) rfl rfl rfl hl.1 rfl (Nat.le_of_ble_eq_true rfl) dX12_add__9 ⟨Nat.le_of_ble_eq_true rfl, Nat.le_of_ble_eq_true rfl⟩) hL (fun r_7 u_5 H locs k_6 hW hL => ?_)
    obtain ⟨eu_5, xu_5⟩ := k_6
    rw [eu_5] at hW
    refine lv_iconst (v := iv (-1)) hx hb dX12_add__12 (by decide) ?_
    refine r_icmp_eq (tgt := 22) hx hb ⟨(by omega), (by omega)⟩ ⟨(by omega), (by omega)⟩ dX12_add__13 (by decide) (fun c_8 => ?_) (fun c_8 => ?_)
    · refine lv_aload_n hx hb dX12_add__22 rfl (lv_at hl 0 rfl) ?_
      refine g_X12_270 Cx hW (k := 231) (by decide) rfl (v := S.1 231 20) rfl dX12_add__23 ?_
      refine r_if_eq (tgt := 31) hx hb ⟨(by omega), (by omega)⟩ dX12_add__26 (by decide) (fun _ => ?_) (fun c => absurd (by omega) c)
      refine lv_aload_n hx hb dX12_add__31 rfl (lv_at hl 0 rfl) ?_
      refine g_X12_59 Cx hW (k := 231) (by decide) rfl (v := .ref (G.2.2.1 + 248)) (rd_26 hI) dX12_add__32 ?_
      refine lv_aload_n hx hb dX12_add__35 rfl (lv_at hl 0 rfl) ?_
      refine g_X12_358 Cx hW (k := 231) (by decide) rfl (v := S.1 231 25) rfl dX12_add__36 ?_
      refine lv_iload_n hx hb dX12_add__39 rfl (lv_at hl 1 rfl) ?_
      refine rIast Cx hW hL (k := 248) (by decide) rfl (by decide) (by omega) (by omega) dX12_add__40 (fun H locs hW hL => ?_)
      have F_9 : Fr S (uA S 248 (S.1 231 25) tk) (pl [231, 248, 249, 250, 251, 252]) := (Fr.rf : Fr S S (pl [231, 248, 249, 250, 251, 252])).A rfl
      have i_10 : dX G (uA S 248 (S.1 231 25) tk) := hI.A (k := 248) (show (-2147483648) ≤ tk ∧ tk ≤ 2147483647 from ⟨by omega, by omega⟩)
      refine lv_aload_n hx hb dX12_add__41 rfl (lv_at hl 0 rfl) ?_
      refine g_X12_62 Cx hW (k := 231) (by decide) rfl (v := .ref (G.2.2.1 + 249)) (rd_27 i_10) dX12_add__42 ?_
      refine lv_aload_n hx hb dX12_add__45 rfl (lv_at hl 0 rfl) ?_
      refine g_X12_358 Cx hW (k := 231) (by decide) rfl (v := S.1 231 25) uA_f dX12_add__46 ?_
      refine lv_iload_n hx hb dX12_add__49 rfl (lv_at hl 2 rfl) ?_
      refine rIast Cx hW hL (k := 249) (by decide) rfl (by decide) (by omega) (by omega) dX12_add__50 (fun H locs hW hL => ?_)
      have F_11 : Fr S (uA (uA S 248 (S.1 231 25) tk) 249 (S.1 231 25) so) (pl [231, 248, 249, 250, 251, 252]) := F_9.A rfl
      have i_12 : dX G (uA (uA S 248 (S.1 231 25) tk) 249 (S.1 231 25) so) := i_10.A (k := 249) (show (-2147483648) ≤ so ∧ so ≤ 2147483647 from ⟨by omega, by omega⟩)
      refine lv_aload_n hx hb dX12_add__51 rfl (lv_at hl 0 rfl) ?_
      refine g_X12_65 Cx hW (k := 231) (by decide) rfl (v := .ref (G.2.2.1 + 250)) (rd_28 i_12) dX12_add__52 ?_
      refine lv_aload_n hx hb dX12_add__55 rfl (lv_at hl 0 rfl) ?_
      refine g_X12_358 Cx hW (k := 231) (by decide) rfl (v := S.1 231 25) ((uA_f).trans (uA_f)) dX12_add__56 ?_
      refine lv_iconst (v := iv (-1)) hx hb dX12_add__59 (by decide) ?_
      refine rIast Cx hW hL (k := 250) (by decide) rfl (by decide) (by omega) (by omega) dX12_add__60 (fun H locs hW hL => ?_)
      have F_13 : Fr S (uA (uA (uA S 248 (S.1 231 25) tk) 249 (S.1 231 25) so) 250 (S.1 231 25) ((-1))) (pl [231, 248, 249, 250, 251, 252]) := F_11.A rfl
      have i_14 : dX G (uA (uA (uA S 248 (S.1 231 25) tk) 249 (S.1 231 25) so) 250 (S.1 231 25) ((-1))) := i_12.A (k := 250) (show (-2147483648) ≤ (-1) ∧ (-1) ≤ 2147483647 from ⟨by omega, by omega⟩)
      refine lv_aload_n hx hb dX12_add__61 rfl (lv_at hl 0 rfl) ?_
      refine g_X12_68 Cx hW (k := 231) (by decide) rfl (v := .ref (G.2.2.1 + 251)) (rd_29 i_14) dX12_add__62 ?_
      refine lv_aload_n hx hb dX12_add__65 rfl (lv_at hl 0 rfl) ?_
      refine g_X12_358 Cx hW (k := 231) (by decide) rfl (v := S.1 231 25) ((uA_f).trans ((uA_f).trans (uA_f))) dX12_add__66 ?_
      refine lv_iconst (v := iv (-1)) hx hb dX12_add__69 (by decide) ?_
      refine rIast Cx hW hL (k := 251) (by decide) rfl (by decide) (by omega) (by omega) dX12_add__70 (fun H locs hW hL => ?_)
      have F_15 : Fr S (uA (uA (uA (uA S 248 (S.1 231 25) tk) 249 (S.1 231 25) so) 250 (S.1 231 25) ((-1))) 251 (S.1 231 25) ((-1))) (pl [231, 248, 249, 250, 251, 252]) := F_13.A rfl
      have i_16 : dX G (uA (uA (uA (uA S 248 (S.1 231 25) tk) 249 (S.1 231 25) so) 250 (S.1 231 25) ((-1))) 251 (S.1 231 25) ((-1))) := i_14.A (k := 251) (show (-2147483648) ≤ (-1) ∧ (-1) ≤ 2147483647 from ⟨by omega, by omega⟩)
      refine lv_aload_n hx hb dX12_add__71 rfl (lv_at hl 0 rfl) ?_
      refine g_X12_71 Cx hW (k := 231) (by decide) rfl (v := .ref (G.2.2.1 + 252)) (rd_30 i_16) dX12_add__72 ?_
      refine lv_aload_n hx hb dX12_add__75 rfl (lv_at hl 0 rfl) ?_
      refine g_X12_358 Cx hW (k := 231) (by decide) rfl (v := S.1 231 25) ((uA_f).trans ((uA_f).trans ((uA_f).trans (uA_f)))) dX12_add__76 ?_
      refine lv_iconst (v := iv 0) hx hb dX12_add__79 (by decide) ?_
      refine rIast Cx hW hL (k := 252) (by decide) rfl (by decide) (by omega) (by omega) dX12_add__80 (fun H locs hW hL => ?_)
      have F_17 : Fr S (uA (uA (uA (uA (uA S 248 (S.1 231 25) tk) 249 (S.1 231 25) so) 250 (S.1 231 25) ((-1))) 251 (S.1 231 25) ((-1))) 252 (S.1 231 25) 0) (pl [231, 248, 249, 250, 251, 252]) := F_15.A rfl
      have i_18 : dX G (uA (uA (uA (uA (uA S 248 (S.1 231 25) tk) 249 (S.1 231 25) so) 250 (S.1 231 25) ((-1))) 251 (S.1 231 25) ((-1))) 252 (S.1 231 25) 0) := i_16.A (k := 252) (show (-2147483648) ≤ 0 ∧ 0 ≤ 2147483647 from ⟨by omega, by omega⟩)
      refine lv_aload_n hx hb dX12_add__81 rfl (lv_at hl 0 rfl) ?_
      refine lv_dup hx hb dX12_add__82 rfl ?_
      refine g_X12_358 Cx hW (k := 231) (by decide) rfl (v := S.1 231 25) ((uA_f).trans ((uA_f).trans ((uA_f).trans ((uA_f).trans (uA_f))))) dX12_add__83 ?_
      refine lv_iconst (v := iv 1) hx hb dX12_add__86 (by decide) ?_
      refine r_iadd hx hb dX12_add__87 ?_
      refine p_X12_358 Cx hW hL (k := 231) (by decide) rfl dX12_add__88 (fun H locs hW hL => ?_)
      have F_19 : Fr S (uF (uA (uA (uA (uA (uA S 248 (S.1 231 25) tk) 249 (S.1 231 25) so) 250 (S.1 231 25) ((-1))) 251 (S.1 231 25) ((-1))) 252 (S.1 231 25) 0) 231 25 ((S.1 231 25) + 1)) (pl [231, 248, 249, 250, 251, 252]) := F_17.F rfl
      have g_20 : FF S (uF (uA (uA (uA (uA (uA S 248 (S.1 231 25) tk) 249 (S.1 231 25) so) 250 (S.1 231 25) ((-1))) 251 (S.1 231 25) ((-1))) 252 (S.1 231 25) 0) 231 25 ((S.1 231 25) + 1)) (fl [20, 21, 25]) := FF.F FF.rf rfl
      have i_21 : dX G (uF (uA (uA (uA (uA (uA S 248 (S.1 231 25) tk) 249 (S.1 231 25) so) 250 (S.1 231 25) ((-1))) 251 (S.1 231 25) ((-1))) 252 (S.1 231 25) 0) 231 25 ((S.1 231 25) + 1)) := i_18.F (i := 25) (show (-2147483648) ≤ (S.1 231 25) + 1 ∧ (S.1 231 25) + 1 ≤ 2147483647 from ⟨by omega, by omega⟩)
      refine lv_aload_n hx hb dX12_add__91 rfl (lv_at hl 0 rfl) ?_
      refine g_X12_358 Cx hW (k := 231) (by decide) rfl (v := (S.1 231 25) + 1) uF_on dX12_add__92 ?_
      refine lv_iconst (v := iv 1) hx hb dX12_add__95 (by decide) ?_
      refine r_isub hx hb dX12_add__96 ?_
      have lk_22 : (uF (uA (uA (uA (uA (uA S 248 (S.1 231 25) tk) 249 (S.1 231 25) so) 250 (S.1 231 25) ((-1))) 251 (S.1 231 25) ((-1))) 252 (S.1 231 25) 0) 231 25 ((S.1 231 25) + 1)).1 231 20 = S.1 231 20 := (uF_ne (fun h => absurd h.2 (by decide))).trans ((uA_f).trans ((uA_f).trans ((uA_f).trans ((uA_f).trans (uA_f)))))
      have lk_23 : (uF (uA (uA (uA (uA (uA S 248 (S.1 231 25) tk) 249 (S.1 231 25) so) 250 (S.1 231 25) ((-1))) 251 (S.1 231 25) ((-1))) 252 (S.1 231 25) 0) 231 25 ((S.1 231 25) + 1)).1 231 25 = (S.1 231 25) + 1 := uF_on
      exact sIret Cx hr hlk hW hL ⟨i_21, F_19, g_20, ⟨(by omega), (fun h => absurd (show (uF (uA (uA (uA (uA (uA S 248 (S.1 231 25) tk) 249 (S.1 231 25) so) 250 (S.1 231 25) ((-1))) 251 (S.1 231 25) ((-1))) 252 (S.1 231 25) 0) 231 25 ((S.1 231 25) + 1)).1 231 20 = 0 by have e9 := (show (uF (uA (uA (uA (uA (uA S 248 (S.1 231 25) tk) 249 (S.1 231 25) so) 250 (S.1 231 25) ((-1))) 251 (S.1 231 25) ((-1))) 252 (S.1 231 25) 0) 231 25 ((S.1 231 25) + 1)).1 231 20 = S.1 231 20 from (uF_ne (fun h => absurd h.2 (by decide))).trans ((uA_f).trans ((uA_f).trans ((uA_f).trans ((uA_f).trans (uA_f)))))); omega) h), (fun _ => ⟨(by omega), (by omega), (by have e9 := (show (uF (uA (uA (uA (uA (uA S 248 (S.1 231 25) tk) 249 (S.1 231 25) so) 250 (S.1 231 25) ((-1))) 251 (S.1 231 25) ((-1))) 252 (S.1 231 25) 0) 231 25 ((S.1 231 25) + 1)).1 231 25 = (S.1 231 25) + 1 from uF_on); omega), ⟨(fun x => by rw [show (uF (uA (uA (uA (uA (uA S 248 (S.1 231 25) tk) 249 (S.1 231 25) so) 250 (S.1 231 25) ((-1))) 251 (S.1 231 25) ((-1))) 252 (S.1 231 25) 0) 231 25 ((S.1 231 25) + 1)).2.1 248 x = (uA S 248 (S.1 231 25) tk).2.1 248 x from (uF_a).trans ((uA_ne (fun h => absurd h.1 (by decide))).trans ((uA_ne (fun h => absurd h.1 (by decide))).trans ((uA_ne (fun h => absurd h.1 (by decide))).trans (uA_ne (fun h => absurd h.1 (by decide)))))), uA_get]; by_cases z : x = S.1 231 25; (rw [if_pos ⟨rfl, z⟩, if_pos z]); exact (if_neg (fun h => z h.2)).trans ((rfl).trans (if_neg z).symm)), (fun x => by rw [show (uF (uA (uA (uA (uA (uA S 248 (S.1 231 25) tk) 249 (S.1 231 25) so) 250 (S.1 231 25) ((-1))) 251 (S.1 231 25) ((-1))) 252 (S.1 231 25) 0) 231 25 ((S.1 231 25) + 1)).2.1 249 x = (uA (uA S 248 (S.1 231 25) tk) 249 (S.1 231 25) so).2.1 249 x from (uF_a).trans ((uA_ne (fun h => absurd h.1 (by decide))).trans ((uA_ne (fun h => absurd h.1 (by decide))).trans (uA_ne (fun h => absurd h.1 (by decide))))), uA_get]; by_cases z : x = S.1 231 25; (rw [if_pos ⟨rfl, z⟩, if_pos z]); exact (if_neg (fun h => z h.2)).trans ((uA_ne (fun h => absurd h.1 (by decide))).trans (if_neg z).symm)), (fun x => by rw [show (uF (uA (uA (uA (uA (uA S 248 (S.1 231 25) tk) 249 (S.1 231 25) so) 250 (S.1 231 25) ((-1))) 251 (S.1 231 25) ((-1))) 252 (S.1 231 25) 0) 231 25 ((S.1 231 25) + 1)).2.1 250 x = (uA (uA (uA S 248 (S.1 231 25) tk) 249 (S.1 231 25) so) 250 (S.1 231 25) ((-1))).2.1 250 x from (uF_a).trans ((uA_ne (fun h => absurd h.1 (by decide))).trans (uA_ne (fun h => absurd h.1 (by decide)))), uA_get]; by_cases z : x = S.1 231 25; (rw [if_pos ⟨rfl, z⟩, if_pos z]); exact (if_neg (fun h => z h.2)).trans (((uA_ne (fun h => absurd h.1 (by decide))).trans (uA_ne (fun h => absurd h.1 (by decide)))).trans (if_neg z).symm)), (fun x => by rw [show (uF (uA (uA (uA (uA (uA S 248 (S.1 231 25) tk) 249 (S.1 231 25) so) 250 (S.1 231 25) ((-1))) 251 (S.1 231 25) ((-1))) 252 (S.1 231 25) 0) 231 25 ((S.1 231 25) + 1)).2.1 251 x = (uA (uA (uA (uA S 248 (S.1 231 25) tk) 249 (S.1 231 25) so) 250 (S.1 231 25) ((-1))) 251 (S.1 231 25) ((-1))).2.1 251 x from (uF_a).trans (uA_ne (fun h => absurd h.1 (by decide))), uA_get]; by_cases z : x = S.1 231 25; (rw [if_pos ⟨rfl, z⟩, if_pos z]); exact (if_neg (fun h => z h.2)).trans (((uA_ne (fun h => absurd h.1 (by decide))).trans ((uA_ne (fun h => absurd h.1 (by decide))).trans (uA_ne (fun h => absurd h.1 (by decide))))).trans (if_neg z).symm)), (fun x => by rw [show (uF (uA (uA (uA (uA (uA S 248 (S.1 231 25) tk) 249 (S.1 231 25) so) 250 (S.1 231 25) ((-1))) 251 (S.1 231 25) ((-1))) 252 (S.1 231 25) 0) 231 25 ((S.1 231 25) + 1)).2.1 252 x = (uA (uA (uA (uA (uA S 248 (S.1 231 25) tk) 249 (S.1 231 25) so) 250 (S.1 231 25) ((-1))) 251 (S.1 231 25) ((-1))) 252 (S.1 231 25) 0).2.1 252 x from uF_a, uA_get]; by_cases z : x = S.1 231 25; (rw [if_pos ⟨rfl, z⟩, if_pos z]); exact (if_neg (fun h => z h.2)).trans (((uA_ne (fun h => absurd h.1 (by decide))).trans ((uA_ne (fun h => absurd h.1 (by decide))).trans ((uA_ne (fun h => absurd h.1 (by decide))).trans (uA_ne (fun h => absurd h.1 (by decide)))))).trans (if_neg z).symm))⟩⟩)⟩⟩ dX12_add__97
    · refine lv_aload_n hx hb dX12_add__16 rfl (lv_at hl 0 rfl) ?_
      refine lv_iconst (v := iv 2) hx hb dX12_add__17 (by decide) ?_
      refine lv_iload_n hx hb dX12_add__18 rfl (lv_at hl 1 rfl) ?_
      refine sBv (sV (As := [.int (iv 2), .int (iv tk)]) (rest := []) (k := 231) Cx (s_X12_wrong l G S (cd := 2) (tk := tk) hI (by omega) (by omega)) (c_X12_321 Cx rfl rfl (rmk_ok (by omega) (by decide))) hW (by decide) rfl rfl rfl hl.1 rfl (Nat.le_of_ble_eq_true rfl) dX12_add__19 ⟨Nat.le_of_ble_eq_true rfl, Nat.le_of_ble_eq_true rfl⟩) hL (fun u_24 H locs k_25 hW hL => ?_)
      obtain ⟨iu_24, fu_24, gu_24, xu_24⟩ := k_25
      have F_26 := (Fr.rf : Fr S S (pl [231, 248, 249, 250, 251, 252])).trans (fu_24.to (pl_sub (by decide)))
      have g_27 : FF S u_24 (fl [20, 21, 25]) := FF.trans FF.rf (FF.to gu_24 (fl_sub (by decide)))
      refine lv_aload_n hx hb dX12_add__22 rfl (lv_at hl 0 rfl) ?_
      have q_28 : (-2147483648) ≤ u_24.1 231 20 ∧ u_24.1 231 20 ≤ 2147483647 := iu_24.fi 20
      refine g_X12_270 Cx hW (k := 231) (by decide) rfl (v := u_24.1 231 20) rfl dX12_add__23 ?_
      refine r_if_eq (tgt := 31) hx hb ⟨(by omega), (by omega)⟩ dX12_add__26 (by decide) (fun c => absurd c (by omega)) (fun _ => ?_)
      refine lv_iconst (v := iv (-1)) hx hb dX12_add__29 (by decide) ?_
      have lk_29 : u_24.1 231 25 = S.1 231 25 := gu_24 25 rfl
      exact sIret Cx hr hlk hW hL ⟨iu_24, F_26, g_27, ⟨(by omega), (fun _ => ⟨(show u_24.1 231 25 = S.1 231 25 from gu_24 25 rfl), rfl, fun n => (NR.eq (funext fun j => (fu_24 248 rfl).2.1 j) (funext fun j => (fu_24 249 rfl).2.1 j) (funext fun j => (fu_24 250 rfl).2.1 j) (funext fun j => (fu_24 251 rfl).2.1 j) (funext fun j => (fu_24 252 rfl).2.1 j))⟩), (fun h => absurd h (by have e9 := (show u_24.1 231 20 = u_24.1 231 20 from rfl); have a9 := xu_24; omega))⟩⟩ dX12_add__30

set_option maxRecDepth 100000 in
set_option maxHeartbeats 4000000 in
theorem s_X12_setHere (l : Launch) (G : sG) (S : sS) {K V Fm Wd : Int → Int} {T : Int} {pz : Int} (hI : dX G S) (hK : S.2.1 244 = K) (hV : S.2.1 247 = V) (hFm : S.2.1 245 = Fm) (hWd : S.2.1 246 = Wd) (hQ : gQ K V Fm Wd T) (hNT : Hd (S.1 231 20 = 0 → NT S T)) (h25 : S.1 231 20 = 0 → S.1 231 25 ≤ 700) (hc : S.1 231 24 = pz) (hp : 0 ≤ pz ∧ pz < T) : Met l yX12_setHere (.code yX12_setHere cX12_setHere 2 (some .int) :: tb) (rmk 2 0 0) (sPc G 294 S [.ref (G.2.2.1 + 231)]) (sQi G 294 (fun r u => dX G u ∧ Fr S u (pl [231]) ∧ FF S u (fl [20, 21, 24]) ∧ ((-1 ≤ r ∧ r ≤ 700) ∧ (pz ≤ u.1 231 24 ∧ u.1 231 24 ≤ pz + 1) ∧ Hd (u.1 231 20 = 0 → S.1 231 20 = 0 ∧ u.1 231 24 = pz + 1 ∧ 0 ≤ r ∧ r < S.1 231 25 ∧ S.2.1 249 r = 1)))) 0 0 (sF G) := by
  refine sEnter (by decide) (Nat.le_of_ble_eq_true rfl) ?_
  intro p e s m args below meth c Cx hr hlk hnm hW ls hl
  have Cx : sC G p m c cX12_setHere 2 s args RX12 := Cx
  obtain ⟨hx, hb, hml, hown, hts⟩ := id Cx.1
  have hL : sL G [] := sL_nil
  have hl : lv_has ls 2 [(0, .ref (G.2.2.1 + 231))] := hl
  have hW0 := hW
  have hQ1 := hQ.1
  refine lv_aload_n hx hb dX12_setHere_0 rfl (lv_at hl 0 rfl) ?_
  have q_1 : (-2147483648) ≤ S.1 231 20 ∧ S.1 231 20 ≤ 2147483647 := hI.fi 20
  refine g_X12_270 Cx hW (k := 231) (by decide) rfl (v := S.1 231 20) rfl dX12_setHere_1 ?_
  refine r_if_eq (tgt := 9) hx hb ⟨(by omega), (by omega)⟩ dX12_setHere_4 (by decide) (fun c_2 => ?_) (fun c_2 => ?_)
  · have hnt := hNT (by omega)
    have hn0 := hnt.1
    refine lv_aload_n hx hb dX12_setHere_9 rfl (lv_at hl 0 rfl) ?_
    refine lv_aload_n hx hb dX12_setHere_10 rfl (lv_at hl 0 rfl) ?_
    have q_3 : (-2147483648) ≤ S.1 231 24 ∧ S.1 231 24 ≤ 2147483647 := hI.fi 24
    refine g_X12_315 Cx hW (k := 231) (by decide) rfl (v := S.1 231 24) rfl dX12_setHere_11 ?_
    have q_4 : (-2147483648) ≤ S.1 231 25 ∧ S.1 231 25 ≤ 2147483647 := hI.fi 25
    refine sBi (sV (As := [.int (iv (S.1 231 24))]) (rest := []) (k := 231) Cx (s_X12_find l G S (tk := S.1 231 24) (K := K) (V := V) (Fm := Fm) (Wd := Wd) (T := T) hI hK hV hFm hWd hQ hnt (by omega) (by omega)) (c_X12_361 Cx rfl rfl (rmk_ok (by omega) (by decide))) hW (by decide) rfl rfl rfl hl.1 rfl (Nat.le_of_ble_eq_true rfl) dX12_setHere_14 ⟨Nat.le_of_ble_eq_true rfl, Nat.le_of_ble_eq_true rfl⟩) hL (fun r_7 u_5 H locs k_6 hW hL => ?_)
    obtain ⟨eu_5, xu_5⟩ := k_6
    rw [eu_5] at hW
    refine lv_istore_n (lv' := [(1, .int (iv r_7)), (0, .ref (G.2.2.1 + 231))]) hx hb dX12_setHere_17 rfl hl (by decide) rfl (fun ls hl => ?_)
    refine lv_iload_n hx hb dX12_setHere_18 rfl (lv_at hl 0 rfl) ?_
    refine lv_iconst (v := iv (-1)) hx hb dX12_setHere_19 (by decide) ?_
    refine r_icmp_eq (tgt := 33) hx hb ⟨(by omega), (by omega)⟩ ⟨(by omega), (by omega)⟩ dX12_setHere_20 (by decide) (fun c_8 => ?_) (fun c_8 => ?_)
    · refine lv_aload_n hx hb dX12_setHere_33 rfl (lv_at hl 1 rfl) ?_
      refine lv_iconst (v := iv 2) hx hb dX12_setHere_34 (by decide) ?_
      refine lv_aload_n hx hb dX12_setHere_35 rfl (lv_at hl 1 rfl) ?_
      refine g_X12_315 Cx hW (k := 231) (by decide) rfl (v := S.1 231 24) rfl dX12_setHere_36 ?_
      refine sBv (sV (As := [.int (iv 2), .int (iv (S.1 231 24))]) (rest := []) (k := 231) Cx (s_X12_wrong l G S (cd := 2) (tk := S.1 231 24) hI (by omega) (by omega)) (c_X12_321 Cx rfl rfl (rmk_ok (by omega) (by decide))) hW (by decide) rfl rfl rfl hl.1 rfl (Nat.le_of_ble_eq_true rfl) dX12_setHere_39 ⟨Nat.le_of_ble_eq_true rfl, Nat.le_of_ble_eq_true rfl⟩) hL (fun u_9 H locs k_10 hW hL => ?_)
      obtain ⟨iu_9, fu_9, gu_9, xu_9⟩ := k_10
      have F_11 := (Fr.rf : Fr S S (pl [231])).trans fu_9
      have g_12 : FF S u_9 (fl [20, 21, 24]) := FF.trans FF.rf (FF.to gu_9 (fl_sub (by decide)))
      refine lv_aload_n hx hb dX12_setHere_42 rfl (lv_at hl 1 rfl) ?_
      refine lv_dup hx hb dX12_setHere_43 rfl ?_
      refine g_X12_315 Cx hW (k := 231) (by decide) rfl (v := S.1 231 24) (gu_9 24 rfl) dX12_setHere_44 ?_
      refine lv_iconst (v := iv 1) hx hb dX12_setHere_47 (by decide) ?_
      refine r_iadd hx hb dX12_setHere_48 ?_
      refine p_X12_315 Cx hW hL (k := 231) (by decide) rfl dX12_setHere_49 (fun H locs hW hL => ?_)
      have F_13 : Fr S (uF u_9 231 24 ((S.1 231 24) + 1)) (pl [231]) := F_11.F rfl
      have g_14 : FF S (uF u_9 231 24 ((S.1 231 24) + 1)) (fl [20, 21, 24]) := FF.F g_12 rfl
      have i_15 : dX G (uF u_9 231 24 ((S.1 231 24) + 1)) := iu_9.F (i := 24) (show (-2147483648) ≤ (S.1 231 24) + 1 ∧ (S.1 231 24) + 1 ≤ 2147483647 from ⟨by omega, by omega⟩)
      refine lv_aload_n hx hb dX12_setHere_52 rfl (lv_at hl 1 rfl) ?_
      have q_16 : (-2147483648) ≤ u_9.1 231 20 ∧ u_9.1 231 20 ≤ 2147483647 := iu_9.fi 20
      refine g_X12_270 Cx hW (k := 231) (by decide) rfl (v := u_9.1 231 20) (uF_ne (fun h => absurd h.2 (by decide))) dX12_setHere_53 ?_
      refine r_if_ne (tgt := 63) hx hb ⟨(by omega), (by omega)⟩ dX12_setHere_56 (by decide) (fun _ => ?_) (fun c => absurd c (by omega))
      refine lv_iconst (v := iv (-1)) hx hb dX12_setHere_63 (by decide) ?_
      have lk_17 : (uF u_9 231 24 ((S.1 231 24) + 1)).1 231 24 = (S.1 231 24) + 1 := uF_on
      have lk_18 : (uF u_9 231 24 ((S.1 231 24) + 1)).1 231 20 = u_9.1 231 20 := uF_ne (fun h => absurd h.2 (by decide))
      exact sIret Cx hr hlk hW hL ⟨i_15, F_13, g_14, ⟨(by omega), (by have e7 := (show (uF u_9 231 24 ((S.1 231 24) + 1)).1 231 24 = (S.1 231 24) + 1 from uF_on); omega), (fun h => absurd h (by have e9 := (show (uF u_9 231 24 ((S.1 231 24) + 1)).1 231 20 = u_9.1 231 20 from uF_ne (fun h => absurd h.2 (by decide))); have a9 := xu_9; omega))⟩⟩ dX12_setHere_64
    · refine lv_aload_n hx hb dX12_setHere_23 rfl (lv_at hl 1 rfl) ?_
      refine g_X12_62 Cx hW (k := 231) (by decide) rfl (v := .ref (G.2.2.1 + 249)) (rd_27 hI) dX12_setHere_24 ?_
      refine lv_iload_n hx hb dX12_setHere_27 rfl (lv_at hl 0 rfl) ?_
      refine rIald Cx hW (k := 249) (by decide) rfl (by decide) (by omega) (by omega) dX12_setHere_28 ?_
      have q_19 : (-2147483648) ≤ S.2.1 249 r_7 ∧ S.2.1 249 r_7 ≤ 2147483647 := hI.ai 249 r_7
      refine r_i (b := S.2.1 249 r_7) rfl ?_
      refine lv_iconst (v := iv 1) hx hb dX12_setHere_29 (by decide) ?_
      refine r_icmp_eq (tgt := 42) hx hb ⟨(by omega), (by omega)⟩ ⟨(by omega), (by omega)⟩ dX12_setHere_30 (by decide) (fun c_20 => ?_) (fun c_20 => ?_)
      · refine lv_aload_n hx hb dX12_setHere_42 rfl (lv_at hl 1 rfl) ?_
        refine lv_dup hx hb dX12_setHere_43 rfl ?_
        refine g_X12_315 Cx hW (k := 231) (by decide) rfl (v := S.1 231 24) rfl dX12_setHere_44 ?_
        refine lv_iconst (v := iv 1) hx hb dX12_setHere_47 (by decide) ?_
        refine r_iadd hx hb dX12_setHere_48 ?_
        refine p_X12_315 Cx hW hL (k := 231) (by decide) rfl dX12_setHere_49 (fun H locs hW hL => ?_)
        have F_21 : Fr S (uF S 231 24 ((S.1 231 24) + 1)) (pl [231]) := (Fr.rf : Fr S S (pl [231])).F rfl
        have g_22 : FF S (uF S 231 24 ((S.1 231 24) + 1)) (fl [20, 21, 24]) := FF.F FF.rf rfl
        have i_23 : dX G (uF S 231 24 ((S.1 231 24) + 1)) := hI.F (i := 24) (show (-2147483648) ≤ (S.1 231 24) + 1 ∧ (S.1 231 24) + 1 ≤ 2147483647 from ⟨by omega, by omega⟩)
        refine lv_aload_n hx hb dX12_setHere_52 rfl (lv_at hl 1 rfl) ?_
        refine g_X12_270 Cx hW (k := 231) (by decide) rfl (v := S.1 231 20) (uF_ne (fun h => absurd h.2 (by decide))) dX12_setHere_53 ?_
        refine r_if_ne (tgt := 63) hx hb ⟨(by omega), (by omega)⟩ dX12_setHere_56 (by decide) (fun c => absurd (by omega) c) (fun _ => ?_)
        refine lv_iload_n hx hb dX12_setHere_59 rfl (lv_at hl 0 rfl) ?_
        refine lv_goto (tgt := 64) hx hb dX12_setHere_60 (by decide) ?_
        have lk_24 : (uF S 231 24 ((S.1 231 24) + 1)).1 231 24 = (S.1 231 24) + 1 := uF_on
        have lk_25 : (uF S 231 24 ((S.1 231 24) + 1)).1 231 20 = S.1 231 20 := uF_ne (fun h => absurd h.2 (by decide))
        exact sIret Cx hr hlk hW hL ⟨i_23, F_21, g_22, ⟨(by omega), (by have e7 := (show (uF S 231 24 ((S.1 231 24) + 1)).1 231 24 = (S.1 231 24) + 1 from uF_on); omega), (fun _ => ⟨(by omega), (by have e7 := (show (uF S 231 24 ((S.1 231 24) + 1)).1 231 24 = (S.1 231 24) + 1 from uF_on); omega), (by omega), (by omega), (by omega)⟩)⟩⟩ dX12_setHere_64
      · refine lv_aload_n hx hb dX12_setHere_33 rfl (lv_at hl 1 rfl) ?_
        refine lv_iconst (v := iv 2) hx hb dX12_setHere_34 (by decide) ?_
        refine lv_aload_n hx hb dX12_setHere_35 rfl (lv_at hl 1 rfl) ?_
        refine g_X12_315 Cx hW (k := 231) (by decide) rfl (v := S.1 231 24) rfl dX12_setHere_36 ?_
        refine sBv (sV (As := [.int (iv 2), .int (iv (S.1 231 24))]) (rest := []) (k := 231) Cx (s_X12_wrong l G S (cd := 2) (tk := S.1 231 24) hI (by omega) (by omega)) (c_X12_321 Cx rfl rfl (rmk_ok (by omega) (by decide))) hW (by decide) rfl rfl rfl hl.1 rfl (Nat.le_of_ble_eq_true rfl) dX12_setHere_39 ⟨Nat.le_of_ble_eq_true rfl, Nat.le_of_ble_eq_true rfl⟩) hL (fun u_26 H locs k_27 hW hL => ?_)
        obtain ⟨iu_26, fu_26, gu_26, xu_26⟩ := k_27
        have F_28 := (Fr.rf : Fr S S (pl [231])).trans fu_26
        have g_29 : FF S u_26 (fl [20, 21, 24]) := FF.trans FF.rf (FF.to gu_26 (fl_sub (by decide)))
        refine lv_aload_n hx hb dX12_setHere_42 rfl (lv_at hl 1 rfl) ?_
        refine lv_dup hx hb dX12_setHere_43 rfl ?_
        refine g_X12_315 Cx hW (k := 231) (by decide) rfl (v := S.1 231 24) (gu_26 24 rfl) dX12_setHere_44 ?_
        refine lv_iconst (v := iv 1) hx hb dX12_setHere_47 (by decide) ?_
        refine r_iadd hx hb dX12_setHere_48 ?_
        refine p_X12_315 Cx hW hL (k := 231) (by decide) rfl dX12_setHere_49 (fun H locs hW hL => ?_)
        have F_30 : Fr S (uF u_26 231 24 ((S.1 231 24) + 1)) (pl [231]) := F_28.F rfl
        have g_31 : FF S (uF u_26 231 24 ((S.1 231 24) + 1)) (fl [20, 21, 24]) := FF.F g_29 rfl
        have i_32 : dX G (uF u_26 231 24 ((S.1 231 24) + 1)) := iu_26.F (i := 24) (show (-2147483648) ≤ (S.1 231 24) + 1 ∧ (S.1 231 24) + 1 ≤ 2147483647 from ⟨by omega, by omega⟩)
        refine lv_aload_n hx hb dX12_setHere_52 rfl (lv_at hl 1 rfl) ?_
        have q_33 : (-2147483648) ≤ u_26.1 231 20 ∧ u_26.1 231 20 ≤ 2147483647 := iu_26.fi 20
        refine g_X12_270 Cx hW (k := 231) (by decide) rfl (v := u_26.1 231 20) (uF_ne (fun h => absurd h.2 (by decide))) dX12_setHere_53 ?_
        refine r_if_ne (tgt := 63) hx hb ⟨(by omega), (by omega)⟩ dX12_setHere_56 (by decide) (fun _ => ?_) (fun c => absurd c (by omega))
        refine lv_iconst (v := iv (-1)) hx hb dX12_setHere_63 (by decide) ?_
        have lk_34 : (uF u_26 231 24 ((S.1 231 24) + 1)).1 231 24 = (S.1 231 24) + 1 := uF_on
        have lk_35 : (uF u_26 231 24 ((S.1 231 24) + 1)).1 231 20 = u_26.1 231 20 := uF_ne (fun h => absurd h.2 (by decide))
        exact sIret Cx hr hlk hW hL ⟨i_32, F_30, g_31, ⟨(by omega), (by have e7 := (show (uF u_26 231 24 ((S.1 231 24) + 1)).1 231 24 = (S.1 231 24) + 1 from uF_on); omega), (fun h => absurd h (by have e9 := (show (uF u_26 231 24 ((S.1 231 24) + 1)).1 231 20 = u_26.1 231 20 from uF_ne (fun h => absurd h.2 (by decide))); have a9 := xu_26; omega))⟩⟩ dX12_setHere_64
  · refine lv_iconst (v := iv (-1)) hx hb dX12_setHere_7 (by decide) ?_
    have q_36 : (-2147483648) ≤ S.1 231 24 ∧ S.1 231 24 ≤ 2147483647 := hI.fi 24
    exact sIret Cx hr hlk hW hL ⟨hI, (Fr.rf : Fr S S (pl [231])), FF.rf, ⟨(by omega), (by have e7 := (show S.1 231 24 = S.1 231 24 from rfl); omega), (fun h => absurd h (by have e9 := (show S.1 231 20 = S.1 231 20 from rfl); omega))⟩⟩ dX12_setHere_8

set_option maxRecDepth 100000 in
set_option maxHeartbeats 4000000 in
theorem s_X12_sizeOf (l : Launch) (G : sG) (S : sS) {i : Int} (hI : dX G S) (hi : nSx S i) : Met l yX12_sizeOf (.code yX12_sizeOf cX12_sizeOf 2 (some .int) :: tb) (rmk 1 0 0) (sPc G 294 S [.ref (G.2.2.1 + 231), .int (iv i)]) (sQi G 294 (fun r u => u = S ∧ (r = nSz S i ∧ 1 ≤ r ∧ r ≤ 12))) 0 0 (sF G) := by
  refine sEnter (by decide) (Nat.le_of_ble_eq_true rfl) ?_
  intro p e s m args below meth c Cx hr hlk hnm hW ls hl
  have Cx : sC G p m c cX12_sizeOf 2 s args RX12 := Cx
  obtain ⟨hx, hb, hml, hown, hts⟩ := id Cx.1
  have hL : sL G [] := sL_nil
  have hl : lv_has ls 2 [(0, .ref (G.2.2.1 + 231)), (1, .int (iv i))] := hl
  have hW0 := hW
  have hi0 : -1 ≤ i ∧ i < 700 := by rcases hi with q | q; (omega); (have y1 := q.2.1; have y2 := q.1; omega)
  refine lv_iload_n hx hb dX12_sizeOf_0 rfl (lv_at hl 1 rfl) ?_
  refine lv_iconst (v := iv (-1)) hx hb dX12_sizeOf_1 (by decide) ?_
  refine r_icmp_ne (tgt := 9) hx hb ⟨(by omega), (by omega)⟩ ⟨(by omega), (by omega)⟩ dX12_sizeOf_2 (by decide) (fun c_1 => ?_) (fun c_1 => ?_)
  · have hi2 : 0 ≤ i ∧ i < 700 ∧ 0 ≤ S.2.1 250 i ∧ S.2.1 250 i ≤ S.2.1 251 i ∧ S.2.1 251 i ≤ 99999 ∧ S.2.1 251 i ≤ S.2.1 250 i + 11 := by rcases hi with q | q; (exact absurd q (by omega)); exact q
    refine lv_aload_n hx hb dX12_sizeOf_9 rfl (lv_at hl 0 rfl) ?_
    refine g_X12_68 Cx hW (k := 231) (by decide) rfl (v := .ref (G.2.2.1 + 251)) (rd_29 hI) dX12_sizeOf_10 ?_
    refine lv_iload_n hx hb dX12_sizeOf_13 rfl (lv_at hl 1 rfl) ?_
    refine rIald Cx hW (k := 251) (by decide) rfl (by decide) (by omega) (by omega) dX12_sizeOf_14 ?_
    have q_2 : (-2147483648) ≤ S.2.1 251 i ∧ S.2.1 251 i ≤ 2147483647 := hI.ai 251 i
    refine r_i (b := S.2.1 251 i) rfl ?_
    refine lv_aload_n hx hb dX12_sizeOf_15 rfl (lv_at hl 0 rfl) ?_
    refine g_X12_65 Cx hW (k := 231) (by decide) rfl (v := .ref (G.2.2.1 + 250)) (rd_28 hI) dX12_sizeOf_16 ?_
    refine lv_iload_n hx hb dX12_sizeOf_19 rfl (lv_at hl 1 rfl) ?_
    refine rIald Cx hW (k := 250) (by decide) rfl (by decide) (by omega) (by omega) dX12_sizeOf_20 ?_
    have q_3 : (-2147483648) ≤ S.2.1 250 i ∧ S.2.1 250 i ≤ 2147483647 := hI.ai 250 i
    refine r_i (b := S.2.1 250 i) rfl ?_
    refine r_isub hx hb dX12_sizeOf_21 ?_
    refine lv_iconst (v := iv 1) hx hb dX12_sizeOf_22 (by decide) ?_
    refine r_iadd hx hb dX12_sizeOf_23 ?_
    exact sIret Cx hr hlk hW hL ⟨rfl, ⟨(by unfold nSz; rw [if_neg (by omega)]), (by omega), (by omega)⟩⟩ dX12_sizeOf_24
  · refine lv_iconst (v := iv 1) hx hb dX12_sizeOf_5 (by decide) ?_
    refine lv_goto (tgt := 24) hx hb dX12_sizeOf_6 (by decide) ?_
    exact sIret Cx hr hlk hW hL ⟨rfl, ⟨(by unfold nSz; rw [if_pos (by omega)]), (by omega), (by omega)⟩⟩ dX12_sizeOf_24

set_option maxRecDepth 100000 in
set_option maxHeartbeats 4000000 in
theorem s_X12_isGreat (l : Launch) (G : sG) (S : sS) {ix : Int} (hI : dX G S) (hix : 0 ≤ ix ∧ ix + 12 < 1820) : Met l yX12_isGreat (.code yX12_isGreat cX12_isGreat 3 (some .boolean) :: tb) (rmk 1 0 0) (sPc G 294 S [.ref (G.2.2.1 + 231), .int (iv ix)]) (sQi G 294 (fun r u => u = S ∧ ((0 ≤ r ∧ r ≤ 1) ∧ Hd (r = 0 → fB S ix)))) 0 0 (sF G) := by
  refine sEnter (by decide) (Nat.le_of_ble_eq_true rfl) ?_
  intro p e s m args below meth c Cx hr hlk hnm hW ls hl
  have Cx : sC G p m c cX12_isGreat 3 s args RX12 := Cx
  obtain ⟨hx, hb, hml, hown, hts⟩ := id Cx.1
  have hL : sL G [] := sL_nil
  have hl : lv_has ls 3 [(0, .ref (G.2.2.1 + 231)), (1, .int (iv ix))] := hl
  have hW0 := hW
  refine lv_iconst (v := iv 0) hx hb dX12_isGreat_0 (by decide) ?_
  refine lv_istore_n (lv' := [(2, .int (iv 0)), (0, .ref (G.2.2.1 + 231)), (1, .int (iv ix))]) hx hb dX12_isGreat_1 rfl hl (by decide) rfl (fun ls hl => ?_)
  have loop_2 : ∀ (fuel : Nat) (k : Int) (H : Heap) (locs : List Loc) (ls : Array Slot), (13 - k).toNat < fuel → (0 ≤ k ∧ k ≤ 13) → (∀ t, 0 ≤ t → t < k → -99999 ≤ S.2.2.1 257 (ix + t) ∧ S.2.2.1 257 (ix + t) ≤ 99999) → sW G 294 S H → sL G locs → lv_has ls 3 [(2, .int (iv k)), (0, .ref (G.2.2.1 + 231)), (1, .int (iv ix))] → W p l e (rmk 1 0 0) s m args below meth c H locs 0 0 (MQ below (sQi G 294 (fun r u => u = S ∧ ((0 ≤ r ∧ r ≤ 1) ∧ Hd (r = 0 → fB S ix)))) args s 0 0 (sF G)) (F0 m 2 ls []) := by
    intro fuel
    induction fuel with
    | zero => intro k H locs ls hmeas hk hgb hW hL hl; exact absurd hmeas (Nat.not_lt_zero _)
    | succ fuel ih_2 =>
      intro k H locs ls hmeas hk hgb hW hL hl
      refine lv_iload_n hx hb dX12_isGreat_2 rfl (lv_at hl 0 rfl) ?_
      refine lv_bipush (v := iv 12) hx hb dX12_isGreat_3 (by decide) ?_
      refine r_icmp_gt (tgt := 46) hx hb ⟨(by omega), (by omega)⟩ ⟨(by omega), (by omega)⟩ dX12_isGreat_5 (by decide) (fun c_1 => ?_) (fun c_1 => ?_)
      · refine lv_iconst (v := iv 0) hx hb dX12_isGreat_46 (by decide) ?_
        exact sZret Cx hr hlk hW hL (by omega) ⟨rfl, ⟨(by omega), (fun _ t a b => hgb t a (by omega))⟩⟩ dX12_isGreat_47
      · refine lv_aload_n hx hb dX12_isGreat_8 rfl (lv_at hl 1 rfl) ?_
        refine g_X12_88 Cx hW (k := 231) (by decide) rfl (v := .ref (G.2.2.1 + 257)) (rd_41 hI) dX12_isGreat_9 ?_
        refine lv_iload_n hx hb dX12_isGreat_12 rfl (lv_at hl 2 rfl) ?_
        refine lv_iload_n hx hb dX12_isGreat_13 rfl (lv_at hl 0 rfl) ?_
        refine r_iadd hx hb dX12_isGreat_14 ?_
        refine rLald Cx hW (k := 257) (by decide) rfl (by decide) (by omega) (by omega) dX12_isGreat_15 ?_
        have q_2 : -9223372036854775808 ≤ S.2.2.1 257 (ix + k) ∧ S.2.2.1 257 (ix + k) ≤ 9223372036854775807 := hI.li 257 (ix + k)
        refine r_j (b := S.2.2.1 257 (ix + k)) rfl ?_
        refine lv_ldc2 hx hb hown (hts _ w_2438) dX12_isGreat_16 ?_
        refine r_lcmp hx hb ⟨(by omega), (by omega)⟩ ⟨(by omega), (by omega)⟩ dX12_isGreat_19 (fun z_3 az_3 bz_3 cz_3 => ?_)
        refine r_if_gt (tgt := 38) hx hb ⟨(by omega), (by omega)⟩ dX12_isGreat_20 (by decide) (fun c_4 => ?_) (fun c_4 => ?_)
        · refine lv_iconst (v := iv 1) hx hb dX12_isGreat_38 (by decide) ?_
          exact sZret Cx hr hlk hW hL (by omega) ⟨rfl, ⟨(by omega), (fun q => absurd q (by omega))⟩⟩ dX12_isGreat_39
        · refine lv_aload_n hx hb dX12_isGreat_23 rfl (lv_at hl 1 rfl) ?_
          refine g_X12_88 Cx hW (k := 231) (by decide) rfl (v := .ref (G.2.2.1 + 257)) (rd_41 hI) dX12_isGreat_24 ?_
          refine lv_iload_n hx hb dX12_isGreat_27 rfl (lv_at hl 2 rfl) ?_
          refine lv_iload_n hx hb dX12_isGreat_28 rfl (lv_at hl 0 rfl) ?_
          refine r_iadd hx hb dX12_isGreat_29 ?_
          refine rLald Cx hW (k := 257) (by decide) rfl (by decide) (by omega) (by omega) dX12_isGreat_30 ?_
          refine r_j (b := S.2.2.1 257 (ix + k)) rfl ?_
          refine lv_ldc2 hx hb hown (hts _ w_2439) dX12_isGreat_31 ?_
          refine r_lcmp hx hb ⟨(by omega), (by omega)⟩ ⟨(by omega), (by omega)⟩ dX12_isGreat_34 (fun z_5 az_5 bz_5 cz_5 => ?_)
          refine r_if_ge (tgt := 40) hx hb ⟨(by omega), (by omega)⟩ dX12_isGreat_35 (by decide) (fun c_6 => ?_) (fun c_6 => ?_)
          · refine lv_iinc (v := iv (k + 1)) (lv' := [(2, .int (iv (k + 1))), (0, .ref (G.2.2.1 + 231)), (1, .int (iv ix))]) hx hb dX12_isGreat_40 hl (k := 0) rfl ((Int32.ofInt_add _ _).symm) (by decide) rfl (fun ls hl => ?_)
            refine lv_goto (tgt := 2) hx hb dX12_isGreat_43 (by decide) ?_
            exact ih_2 (k + 1) _ _ _ (by omega) (by omega) (fun t a b => if e : t = k then (by rw [e]; omega) else hgb t a (by omega)) hW hL (lv_sub hl [0, 1, 2] rfl)
          · refine lv_iconst (v := iv 1) hx hb dX12_isGreat_38 (by decide) ?_
            exact sZret Cx hr hlk hW hL (by omega) ⟨rfl, ⟨(by omega), (fun q => absurd q (by omega))⟩⟩ dX12_isGreat_39
  exact loop_2 (_ + 1) 0 _ _ _ (Nat.lt_succ_self _) (by omega) (fun t a b => absurd b (by omega)) hW hL (lv_sub hl [0, 1, 2] rfl)

set_option maxRecDepth 100000 in
set_option maxHeartbeats 4000000 in
theorem s_X12_hasVariables (l : Launch) (G : sG) (S : sS) {ix : Int} (hI : dX G S) (hix : 0 ≤ ix ∧ ix + 12 < 1820) : Met l yX12_hasVariables (.code yX12_hasVariables cX12_hasVariables 3 (some .boolean) :: tb) (rmk 1 0 0) (sPc G 294 S [.ref (G.2.2.1 + 231), .int (iv ix)]) (sQi G 294 (fun r u => u = S ∧ (0 ≤ r ∧ r ≤ 1))) 0 0 (sF G) := by
  refine sEnter (by decide) (Nat.le_of_ble_eq_true rfl) ?_
  intro p e s m args below meth c Cx hr hlk hnm hW ls hl
  have Cx : sC G p m c cX12_hasVariables 3 s args RX12 := Cx
  obtain ⟨hx, hb, hml, hown, hts⟩ := id Cx.1
  have hL : sL G [] := sL_nil
  have hl : lv_has ls 3 [(0, .ref (G.2.2.1 + 231)), (1, .int (iv ix))] := hl
  have hW0 := hW
  refine lv_iconst (v := iv 1) hx hb dX12_hasVariables_0 (by decide) ?_
  refine lv_istore_n (lv' := [(2, .int (iv 1)), (0, .ref (G.2.2.1 + 231)), (1, .int (iv ix))]) hx hb dX12_hasVariables_1 rfl hl (by decide) rfl (fun ls hl => ?_)
  have loop_2 : ∀ (fuel : Nat) (k : Int) (H : Heap) (locs : List Loc) (ls : Array Slot), (13 - k).toNat < fuel → (1 ≤ k ∧ k ≤ 13) → sW G 294 S H → sL G locs → lv_has ls 3 [(2, .int (iv k)), (0, .ref (G.2.2.1 + 231)), (1, .int (iv ix))] → W p l e (rmk 1 0 0) s m args below meth c H locs 0 0 (MQ below (sQi G 294 (fun r u => u = S ∧ (0 ≤ r ∧ r ≤ 1))) args s 0 0 (sF G)) (F0 m 2 ls []) := by
    intro fuel
    induction fuel with
    | zero => intro k H locs ls hmeas hk hW hL hl; exact absurd hmeas (Nat.not_lt_zero _)
    | succ fuel ih_2 =>
      intro k H locs ls hmeas hk hW hL hl
      refine lv_iload_n hx hb dX12_hasVariables_2 rfl (lv_at hl 0 rfl) ?_
      refine lv_bipush (v := iv 12) hx hb dX12_hasVariables_3 (by decide) ?_
      refine r_icmp_gt (tgt := 29) hx hb ⟨(by omega), (by omega)⟩ ⟨(by omega), (by omega)⟩ dX12_hasVariables_5 (by decide) (fun c_1 => ?_) (fun c_1 => ?_)
      · refine lv_iconst (v := iv 0) hx hb dX12_hasVariables_29 (by decide) ?_
        exact sZret Cx hr hlk hW hL (by omega) ⟨rfl, (by omega)⟩ dX12_hasVariables_30
      · refine lv_aload_n hx hb dX12_hasVariables_8 rfl (lv_at hl 1 rfl) ?_
        refine g_X12_88 Cx hW (k := 231) (by decide) rfl (v := .ref (G.2.2.1 + 257)) (rd_41 hI) dX12_hasVariables_9 ?_
        refine lv_iload_n hx hb dX12_hasVariables_12 rfl (lv_at hl 2 rfl) ?_
        refine lv_iload_n hx hb dX12_hasVariables_13 rfl (lv_at hl 0 rfl) ?_
        refine r_iadd hx hb dX12_hasVariables_14 ?_
        refine rLald Cx hW (k := 257) (by decide) rfl (by decide) (by omega) (by omega) dX12_hasVariables_15 ?_
        have q_2 : -9223372036854775808 ≤ S.2.2.1 257 (ix + k) ∧ S.2.2.1 257 (ix + k) ≤ 9223372036854775807 := hI.li 257 (ix + k)
        refine r_j (b := S.2.2.1 257 (ix + k)) rfl ?_
        refine lv_lconst (v := jv 0) hx hb dX12_hasVariables_16 (by decide) ?_
        refine r_lcmp hx hb ⟨(by omega), (by omega)⟩ ⟨(by omega), (by omega)⟩ dX12_hasVariables_17 (fun z_3 az_3 bz_3 cz_3 => ?_)
        refine r_if_eq (tgt := 23) hx hb ⟨(by omega), (by omega)⟩ dX12_hasVariables_18 (by decide) (fun c_4 => ?_) (fun c_4 => ?_)
        · refine lv_iinc (v := iv (k + 1)) (lv' := [(2, .int (iv (k + 1))), (0, .ref (G.2.2.1 + 231)), (1, .int (iv ix))]) hx hb dX12_hasVariables_23 hl (k := 0) rfl ((Int32.ofInt_add _ _).symm) (by decide) rfl (fun ls hl => ?_)
          refine lv_goto (tgt := 2) hx hb dX12_hasVariables_26 (by decide) ?_
          exact ih_2 (k + 1) _ _ _ (by omega) (by omega) hW hL (lv_sub hl [0, 1, 2] rfl)
        · refine lv_iconst (v := iv 1) hx hb dX12_hasVariables_21 (by decide) ?_
          exact sZret Cx hr hlk hW hL (by omega) ⟨rfl, (by omega)⟩ dX12_hasVariables_22
  exact loop_2 (_ + 1) 1 _ _ _ (Nat.lt_succ_self _) (by omega) hW hL (lv_sub hl [0, 1, 2] rfl)

set_option maxRecDepth 100000 in
set_option maxHeartbeats 4000000 in
theorem s_X12_constant (l : Launch) (G : sG) (S : sS) {ix v : Int} (hI : dX G S) (hix : 0 ≤ ix ∧ ix + 12 < 1820) (hv : -9223372036854775808 ≤ v ∧ v ≤ 9223372036854775807) : Met l yX12_constant (.code yX12_constant cX12_constant 5 none :: tb) (rmk 1 0 0) (sPc G 294 S [.ref (G.2.2.1 + 231), .int (iv ix), .long (jv v)]) (sQv G 294 (fun u => dX G u ∧ Fr S u (pl [257]) ∧ FF S u (fl []) ∧ (u.2.2.1 257 ix = v ∧ ∀ t, 1 ≤ t → t ≤ 12 → u.2.2.1 257 (ix + t) = 0))) 0 0 (sF G) := by
  refine sEnter (by decide) (Nat.le_of_ble_eq_true rfl) ?_
  intro p e s m args below meth c Cx hr hlk hnm hW ls hl
  have Cx : sC G p m c cX12_constant 5 s args RX12 := Cx
  obtain ⟨hx, hb, hml, hown, hts⟩ := id Cx.1
  have hL : sL G [] := sL_nil
  have hl : lv_has ls 5 [(0, .ref (G.2.2.1 + 231)), (1, .int (iv ix)), (2, .long (jv v))] := hl
  have hW0 := hW
  refine lv_iconst (v := iv 1) hx hb dX12_constant_0 (by decide) ?_
  refine lv_istore (lv' := [(4, .int (iv 1)), (0, .ref (G.2.2.1 + 231)), (1, .int (iv ix)), (2, .long (jv v))]) hx hb dX12_constant_1 hl (by decide) rfl (fun ls hl => ?_)
  have loop_3 : ∀ (fuel : Nat) (S3 : sS) (k : Int) (H : Heap) (locs : List Loc) (ls : Array Slot), (13 - k).toNat < fuel → (dX G S3) → (Fr S S3 (pl [257])) → (Fr S S3 (pl [257])) → (FF S S3 (fl [])) → (FF S S3 (fl [])) → (1 ≤ k ∧ k ≤ 13) → (∀ t, 1 ≤ t → t < k → S3.2.2.1 257 (ix + t) = 0) → sW G 294 S3 H → sL G locs → lv_has ls 5 [(4, .int (iv k)), (0, .ref (G.2.2.1 + 231)), (1, .int (iv ix)), (2, .long (jv v))] → W p l e (rmk 1 0 0) s m args below meth c H locs 0 0 (MQ below (sQv G 294 (fun u => dX G u ∧ Fr S u (pl [257]) ∧ FF S u (fl []) ∧ (u.2.2.1 257 ix = v ∧ ∀ t, 1 ≤ t → t ≤ 12 → u.2.2.1 257 (ix + t) = 0))) args s 0 0 (sF G)) (F0 m 3 ls []) := by
    intro fuel
    induction fuel with
    | zero => intro S3 k H locs ls hmeas hI3 hFm3 hL3_ hGm3 gL3_ hk hz hW hL hl; exact absurd hmeas (Nat.not_lt_zero _)
    | succ fuel ih_3 =>
      intro S3 k H locs ls hmeas hI3 hFm3 hL3_ hGm3 gL3_ hk hz hW hL hl
      refine lv_iload hx hb dX12_constant_3 (lv_at hl 0 rfl) ?_
      refine lv_bipush (v := iv 12) hx hb dX12_constant_5 (by decide) ?_
      refine r_icmp_gt (tgt := 26) hx hb ⟨(by omega), (by omega)⟩ ⟨(by omega), (by omega)⟩ dX12_constant_7 (by decide) (fun c_1 => ?_) (fun c_1 => ?_)
      · refine lv_aload_n hx hb dX12_constant_26 rfl (lv_at hl 1 rfl) ?_
        refine g_X12_88 Cx hW (k := 231) (by decide) rfl (v := .ref (G.2.2.1 + 257)) (rd_41 hI3) dX12_constant_27 ?_
        refine lv_iload_n hx hb dX12_constant_30 rfl (lv_at hl 2 rfl) ?_
        refine lv_lload_n hx hb dX12_constant_31 rfl (lv_at hl 3 rfl) ?_
        refine rLast Cx hW hL (k := 257) (by decide) rfl (by decide) (by omega) (by omega) dX12_constant_32 (fun H locs hW hL => ?_)
        have F_2 : Fr S (uL S3 257 ix v) (pl [257]) := hFm3.L rfl
        have F_3 : Fr S (uL S3 257 ix v) (pl [257]) := hL3_.L rfl
        have i_4 : dX G (uL S3 257 ix v) := hI3.L ⟨by omega, by omega⟩
        exact sVret Cx hr hlk hW hL ⟨i_4, F_2, hGm3, ⟨uL_on, (fun t a b => by rw [uL_ne (fun h => by have := h.2; omega)]; exact hz t a (by omega))⟩⟩ dX12_constant_33
      · refine lv_aload_n hx hb dX12_constant_10 rfl (lv_at hl 1 rfl) ?_
        refine g_X12_88 Cx hW (k := 231) (by decide) rfl (v := .ref (G.2.2.1 + 257)) (rd_41 hI3) dX12_constant_11 ?_
        refine lv_iload_n hx hb dX12_constant_14 rfl (lv_at hl 2 rfl) ?_
        refine lv_iload hx hb dX12_constant_15 (lv_at hl 0 rfl) ?_
        refine r_iadd hx hb dX12_constant_17 ?_
        refine lv_lconst (v := jv 0) hx hb dX12_constant_18 (by decide) ?_
        refine rLast Cx hW hL (k := 257) (by decide) rfl (by decide) (by omega) (by omega) dX12_constant_19 (fun H locs hW hL => ?_)
        have F_5 : Fr S (uL S3 257 (ix + k) 0) (pl [257]) := hFm3.L rfl
        have F_6 : Fr S (uL S3 257 (ix + k) 0) (pl [257]) := hL3_.L rfl
        have i_7 : dX G (uL S3 257 (ix + k) 0) := hI3.L ⟨by omega, by omega⟩
        refine lv_iinc (v := iv (k + 1)) (lv' := [(4, .int (iv (k + 1))), (0, .ref (G.2.2.1 + 231)), (1, .int (iv ix)), (2, .long (jv v))]) hx hb dX12_constant_20 hl (k := 0) rfl ((Int32.ofInt_add _ _).symm) (by decide) rfl (fun ls hl => ?_)
        refine lv_goto (tgt := 3) hx hb dX12_constant_23 (by decide) ?_
        exact ih_3 (uL S3 257 (ix + k) 0) (k + 1) _ _ _ (by omega) i_7 F_5 F_6 hGm3 gL3_ (by omega) (fun t a b => if e : t = k then (by rw [e]; exact uL_on) else (by rw [uL_ne (fun h => e (by have := h.2; omega))]; exact hz t a (by omega))) hW hL (lv_sub hl [0, 1, 2, 3] rfl)
  exact loop_3 (_ + 1) S 1 _ _ _ (Nat.lt_succ_self _) hI (Fr.rf : Fr S S (pl [257])) Fr.rf FF.rf FF.rf (by omega) (fun t a b => absurd b (by omega)) hW hL (lv_sub hl [0, 1, 2, 3] rfl)

set_option maxRecDepth 100000 in
set_option maxHeartbeats 4000000 in
theorem s_X12_index (l : Launch) (G : sG) (S : sS) {K V Fm Wd : Int → Int} {T : Int} {pz q : Int} (hI : dX G S) (hK : S.2.1 244 = K) (hV : S.2.1 247 = V) (hFm : S.2.1 245 = Fm) (hWd : S.2.1 246 = Wd) (hQ : gQ K V Fm Wd T) (hNX : Hd (S.1 231 20 = 0 → NX S T)) (h25 : S.1 231 20 = 0 → S.1 231 25 ≤ 700) (hc : S.1 231 24 = pz) (hg : gX K V pz q) (hpq : 0 ≤ pz ∧ q ≤ T - 1) (h43 : S.1 231 20 = 0 → 0 ≤ S.1 231 43 ∧ S.1 231 43 ≤ 1) : Met l yX12_index (.code yX12_index cX12_index 3 none :: tb) (rmk 2 0 0) (sPc G 294 S [.ref (G.2.2.1 + 231)]) (sQv G 294 (fun u => dX G u ∧ Fr S u (pl [231, 258]) ∧ FF S u (fl [20, 21, 24, 43]) ∧ ((pz ≤ u.1 231 24 ∧ u.1 231 24 ≤ q) ∧ Hd (u.1 231 20 = 0 → S.1 231 20 = 0 ∧ u.1 231 24 = q ∧ u.1 231 43 = S.1 231 43 + 1 ∧ (∀ x, x ≠ S.1 231 43 → u.2.1 258 x = S.2.1 258 x) ∧ -300000 ≤ u.2.1 258 (S.1 231 43) ∧ u.2.1 258 (S.1 231 43) ≤ 300000)))) 0 0 (sF G) := by
  refine sEnter (by decide) (Nat.le_of_ble_eq_true rfl) ?_
  intro p e s m args below meth c Cx hr hlk hnm hW ls hl
  have Cx : sC G p m c cX12_index 3 s args RX12 := Cx
  obtain ⟨hx, hb, hml, hown, hts⟩ := id Cx.1
  have hL : sL G [] := sL_nil
  have hl : lv_has ls 3 [(0, .ref (G.2.2.1 + 231))] := hl
  have hW0 := hW
  have hQ1 := hQ.1
  have hlt := gX_lt hg
  refine lv_aload_n hx hb dX12_index_0 rfl (lv_at hl 0 rfl) ?_
  have q_1 : (-2147483648) ≤ S.1 231 20 ∧ S.1 231 20 ≤ 2147483647 := hI.fi 20
  refine g_X12_270 Cx hW (k := 231) (by decide) rfl (v := S.1 231 20) rfl dX12_index_1 ?_
  refine r_if_eq (tgt := 8) hx hb ⟨(by omega), (by omega)⟩ dX12_index_4 (by decide) (fun c_2 => ?_) (fun c_2 => ?_)
  · have hnx := hNX (by omega)
    have hn0 := hnx.1.1
    refine lv_aload_n hx hb dX12_index_8 rfl (lv_at hl 0 rfl) ?_
    refine g_X12_47 Cx hW (k := 231) (by decide) rfl (v := .ref (G.2.2.1 + 244)) (rd_15 hI) dX12_index_9 ?_
    refine lv_aload_n hx hb dX12_index_12 rfl (lv_at hl 0 rfl) ?_
    have q_3 : (-2147483648) ≤ S.1 231 24 ∧ S.1 231 24 ≤ 2147483647 := hI.fi 24
    refine g_X12_315 Cx hW (k := 231) (by decide) rfl (v := S.1 231 24) rfl dX12_index_13 ?_
    refine rIald Cx hW (k := 244) (by decide) rfl (by decide) (by omega) (by omega) dX12_index_16 ?_
    have q_4 : (-2147483648) ≤ S.2.1 244 (S.1 231 24) ∧ S.2.1 244 (S.1 231 24) ≤ 2147483647 := hI.ai 244 (S.1 231 24)
    refine r_i (b := S.2.1 244 (S.1 231 24)) rfl ?_
    have hr1 : K pz = S.2.1 244 (S.1 231 24) := by rw [← hK, ← hc]
    refine lv_iconst (v := iv 2) hx hb dX12_index_17 (by decide) ?_
    refine r_icmp_ne (tgt := 44) hx hb ⟨(by omega), (by omega)⟩ ⟨(by omega), (by omega)⟩ dX12_index_18 (by decide) (fun c_5 => ?_) (fun c_5 => ?_)
    · obtain ⟨a, ⟨ha, rfl⟩, hg2⟩ : ∃ a, gk K 1 pz a ∧ ((¬ (gS K V a 43 ∨ gS K V a 45) ∧ q = a) ∨ ((gS K V a 43 ∨ gS K V a 45) ∧ gk K 2 (a + 1) q)) := by rcases hg with h | h; (exact absurd h.1 (by omega)); exact h.2
      refine lv_aload_n hx hb dX12_index_44 rfl (lv_at hl 0 rfl) ?_
      refine lv_aload_n hx hb dX12_index_45 rfl (lv_at hl 0 rfl) ?_
      refine g_X12_315 Cx hW (k := 231) (by decide) rfl (v := S.1 231 24) rfl dX12_index_46 ?_
      have q_6 : (-2147483648) ≤ S.1 231 25 ∧ S.1 231 25 ≤ 2147483647 := hI.fi 25
      refine sBi (sV (As := [.int (iv (S.1 231 24))]) (rest := []) (k := 231) Cx (s_X12_find l G S (tk := S.1 231 24) (K := K) (V := V) (Fm := Fm) (Wd := Wd) (T := T) hI hK hV hFm hWd hQ (hnx).nt (by omega) (by omega)) (c_X12_361 Cx rfl rfl (rmk_ok (by omega) (by decide))) hW (by decide) rfl rfl rfl hl.1 rfl (Nat.le_of_ble_eq_true rfl) dX12_index_49 ⟨Nat.le_of_ble_eq_true rfl, Nat.le_of_ble_eq_true rfl⟩) hL (fun r_9 u_7 H locs k_8 hW hL => ?_)
      obtain ⟨eu_7, xu_7⟩ := k_8
      rw [eu_7] at hW
      refine lv_istore_n (lv' := [(2, .int (iv r_9)), (0, .ref (G.2.2.1 + 231))]) hx hb dX12_index_52 rfl hl (by decide) rfl (fun ls hl => ?_)
      refine lv_iload_n hx hb dX12_index_53 rfl (lv_at hl 0 rfl) ?_
      refine lv_iconst (v := iv (-1)) hx hb dX12_index_54 (by decide) ?_
      refine r_icmp_eq (tgt := 68) hx hb ⟨(by omega), (by omega)⟩ ⟨(by omega), (by omega)⟩ dX12_index_55 (by decide) (fun c_10 => ?_) (fun c_10 => ?_)
      · refine lv_aload_n hx hb dX12_index_68 rfl (lv_at hl 1 rfl) ?_
        refine lv_iconst (v := iv 2) hx hb dX12_index_69 (by decide) ?_
        refine lv_aload_n hx hb dX12_index_70 rfl (lv_at hl 1 rfl) ?_
        refine g_X12_315 Cx hW (k := 231) (by decide) rfl (v := S.1 231 24) rfl dX12_index_71 ?_
        refine sBv (sV (As := [.int (iv 2), .int (iv (S.1 231 24))]) (rest := []) (k := 231) Cx (s_X12_wrong l G S (cd := 2) (tk := S.1 231 24) hI (by omega) (by omega)) (c_X12_321 Cx rfl rfl (rmk_ok (by omega) (by decide))) hW (by decide) rfl rfl rfl hl.1 rfl (Nat.le_of_ble_eq_true rfl) dX12_index_74 ⟨Nat.le_of_ble_eq_true rfl, Nat.le_of_ble_eq_true rfl⟩) hL (fun u_11 H locs k_12 hW hL => ?_)
        obtain ⟨iu_11, fu_11, gu_11, xu_11⟩ := k_12
        have F_13 := (Fr.rf : Fr S S (pl [231, 258])).trans (fu_11.to (pl_sub (by decide)))
        have g_14 : FF S u_11 (fl [20, 21, 24, 43]) := FF.trans FF.rf (FF.to gu_11 (fl_sub (by decide)))
        have lk_15 : u_11.1 231 24 = S.1 231 24 := gu_11 24 rfl
        have q_16 : (-2147483648) ≤ u_11.1 231 20 ∧ u_11.1 231 20 ≤ 2147483647 := iu_11.fi 20
        have q_17 : (-2147483648) ≤ S.1 231 43 ∧ S.1 231 43 ≤ 2147483647 := hI.fi 43
        have lk_18 : u_11.1 231 43 = S.1 231 43 := gu_11 43 rfl
        exact sVret Cx hr hlk hW hL ⟨iu_11, F_13, g_14, ⟨(by have e7 := (show u_11.1 231 24 = S.1 231 24 from gu_11 24 rfl); omega), (fun h => absurd h (by have e9 := (show u_11.1 231 20 = u_11.1 231 20 from rfl); have a9 := xu_11; omega))⟩⟩ dX12_index_77
      · refine lv_aload_n hx hb dX12_index_58 rfl (lv_at hl 1 rfl) ?_
        refine g_X12_62 Cx hW (k := 231) (by decide) rfl (v := .ref (G.2.2.1 + 249)) (rd_27 hI) dX12_index_59 ?_
        refine lv_iload_n hx hb dX12_index_62 rfl (lv_at hl 0 rfl) ?_
        refine rIald Cx hW (k := 249) (by decide) rfl (by decide) (by omega) (by omega) dX12_index_63 ?_
        have q_19 : (-2147483648) ≤ S.2.1 249 r_9 ∧ S.2.1 249 r_9 ≤ 2147483647 := hI.ai 249 r_9
        refine r_i (b := S.2.1 249 r_9) rfl ?_
        refine lv_iconst (v := iv 5) hx hb dX12_index_64 (by decide) ?_
        refine r_icmp_eq (tgt := 78) hx hb ⟨(by omega), (by omega)⟩ ⟨(by omega), (by omega)⟩ dX12_index_65 (by decide) (fun c_20 => ?_) (fun c_20 => ?_)
        · have hn6 := (hnx.1.2 r_9 (by omega) (by omega)).2.2.2.2.2 (by omega)
          refine lv_aload_n hx hb dX12_index_78 rfl (lv_at hl 1 rfl) ?_
          refine g_X12_71 Cx hW (k := 231) (by decide) rfl (v := .ref (G.2.2.1 + 252)) (rd_30 hI) dX12_index_79 ?_
          refine lv_iload_n hx hb dX12_index_82 rfl (lv_at hl 0 rfl) ?_
          refine rIald Cx hW (k := 252) (by decide) rfl (by decide) (by omega) (by omega) dX12_index_83 ?_
          have q_21 : (-2147483648) ≤ S.2.1 252 r_9 ∧ S.2.1 252 r_9 ≤ 2147483647 := hI.ai 252 r_9
          refine r_i (b := S.2.1 252 r_9) rfl ?_
          refine lv_istore_n (lv' := [(1, .int (iv (S.2.1 252 r_9))), (2, .int (iv r_9)), (0, .ref (G.2.2.1 + 231))]) hx hb dX12_index_84 rfl hl (by decide) rfl (fun ls hl => ?_)
          refine lv_aload_n hx hb dX12_index_85 rfl (lv_at hl 2 rfl) ?_
          refine lv_dup hx hb dX12_index_86 rfl ?_
          refine g_X12_315 Cx hW (k := 231) (by decide) rfl (v := S.1 231 24) rfl dX12_index_87 ?_
          refine lv_iconst (v := iv 1) hx hb dX12_index_90 (by decide) ?_
          refine r_iadd hx hb dX12_index_91 ?_
          refine p_X12_315 Cx hW hL (k := 231) (by decide) rfl dX12_index_92 (fun H locs hW hL => ?_)
          have F_22 : Fr S (uF S 231 24 ((S.1 231 24) + 1)) (pl [231, 258]) := (Fr.rf : Fr S S (pl [231, 258])).F rfl
          have g_23 : FF S (uF S 231 24 ((S.1 231 24) + 1)) (fl [20, 21, 24, 43]) := FF.F FF.rf rfl
          have i_24 : dX G (uF S 231 24 ((S.1 231 24) + 1)) := hI.F (i := 24) (show (-2147483648) ≤ (S.1 231 24) + 1 ∧ (S.1 231 24) + 1 ≤ 2147483647 from ⟨by omega, by omega⟩)
          refine lv_aload_n hx hb dX12_index_95 rfl (lv_at hl 2 rfl) ?_
          refine lv_bipush (v := iv 43) hx hb dX12_index_96 (by decide) ?_
          have lk_25 : (uF S 231 24 ((S.1 231 24) + 1)).1 231 24 = (S.1 231 24) + 1 := uF_on
          refine sBi (sV (As := [.int (iv 43)]) (rest := []) (k := 231) Cx (s_X12_isSign l G (uF S 231 24 ((S.1 231 24) + 1)) (sv := 43) (K := K) (V := V) (pz := (pz) + 1) i_24 (by omega) ((funext fun j => uF_a : (uF S 231 24 ((S.1 231 24) + 1)).2.1 244 = S.2.1 244).trans hK) ((funext fun j => uF_a : (uF S 231 24 ((S.1 231 24) + 1)).2.1 247 = S.2.1 247).trans hV) (by omega) (by omega)) (c_X12_318 Cx rfl rfl (rmk_ok (by omega) (by decide))) hW (by decide) rfl rfl rfl hl.1 rfl (Nat.le_of_ble_eq_true rfl) dX12_index_98 ⟨Nat.le_of_ble_eq_true rfl, Nat.le_of_ble_eq_true rfl⟩) hL (fun r_28 u_26 H locs k_27 hW hL => ?_)
          obtain ⟨eu_26, xu_26⟩ := k_27
          rw [eu_26] at hW
          refine r_if_ne (tgt := 113) hx hb ⟨(by omega), (by omega)⟩ dX12_index_101 (by decide) (fun c_29 => ?_) (fun c_29 => ?_)
          · have hg3 : gk K 2 (pz + 1 + 1) q := by rcases hg2 with h | h; (exact absurd (.inl (xu_26.2.1 (by omega))) h.1); exact h.2
            have hv9 : 0 ≤ V (pz + 1 + 1) ∧ V (pz + 1 + 1) ≤ 99999 := hQ.2.2 (pz + 1 + 1) (by omega) (by have y := hg3.2; omega) hg3.1
            refine lv_iload_n hx hb dX12_index_113 rfl (lv_at hl 0 rfl) ?_
            refine lv_aload_n hx hb dX12_index_114 rfl (lv_at hl 2 rfl) ?_
            refine lv_bipush (v := iv 43) hx hb dX12_index_115 (by decide) ?_
            refine sBi (sV (As := [.int (iv 43)]) (rest := [.int (iv (S.2.1 252 r_9))]) (k := 231) Cx (s_X12_isSign l G (uF S 231 24 ((S.1 231 24) + 1)) (sv := 43) (K := K) (V := V) (pz := (pz) + 1) i_24 (by omega) ((funext fun j => uF_a : (uF S 231 24 ((S.1 231 24) + 1)).2.1 244 = S.2.1 244).trans hK) ((funext fun j => uF_a : (uF S 231 24 ((S.1 231 24) + 1)).2.1 247 = S.2.1 247).trans hV) (by omega) (by omega)) (c_X12_318 Cx rfl rfl (rmk_ok (by omega) (by decide))) hW (by decide) rfl rfl rfl hl.1 rfl (Nat.le_of_ble_eq_true rfl) dX12_index_117 ⟨Nat.le_of_ble_eq_true rfl, Nat.le_of_ble_eq_true rfl⟩) hL (fun r_32 u_30 H locs k_31 hW hL => ?_)
            obtain ⟨eu_30, xu_30⟩ := k_31
            rw [eu_30] at hW
            refine r_if_eq (tgt := 137) hx hb ⟨(by omega), (by omega)⟩ dX12_index_120 (by decide) (fun c_33 => ?_) (fun c_33 => ?_)
            · refine lv_aload_n hx hb dX12_index_137 rfl (lv_at hl 2 rfl) ?_
              refine g_X12_56 Cx hW (k := 231) (by decide) rfl (v := .ref (G.2.2.1 + 247)) (rd_18 i_24) dX12_index_138 ?_
              refine lv_aload_n hx hb dX12_index_141 rfl (lv_at hl 2 rfl) ?_
              refine g_X12_315 Cx hW (k := 231) (by decide) rfl (v := (S.1 231 24) + 1) uF_on dX12_index_142 ?_
              refine lv_iconst (v := iv 1) hx hb dX12_index_145 (by decide) ?_
              refine r_iadd hx hb dX12_index_146 ?_
              refine rIald Cx hW (k := 247) (by decide) rfl (by decide) (by omega) (by omega) dX12_index_147 ?_
              have q_34 : (-2147483648) ≤ S.2.1 247 (((S.1 231 24) + 1) + 1) ∧ S.2.1 247 (((S.1 231 24) + 1) + 1) ≤ 2147483647 := hI.ai 247 (((S.1 231 24) + 1) + 1)
              refine r_i (b := S.2.1 247 (((S.1 231 24) + 1) + 1)) uF_a ?_
              have hv8 : V (pz + 1 + 1) = S.2.1 247 (((S.1 231 24) + 1) + 1) := by rw [← hV]; exact congrArg (S.2.1 247) (by omega)
              refine r_ineg hx hb dX12_index_148 ?_
              refine r_iadd hx hb dX12_index_149 ?_
              refine lv_istore_n (lv' := [(1, .int (iv ((S.2.1 252 r_9) + (-(S.2.1 247 (((S.1 231 24) + 1) + 1)))))), (2, .int (iv r_9)), (0, .ref (G.2.2.1 + 231))]) hx hb dX12_index_150 rfl hl (by decide) rfl (fun ls hl => ?_)
              refine lv_aload_n hx hb dX12_index_151 rfl (lv_at hl 2 rfl) ?_
              refine lv_dup hx hb dX12_index_152 rfl ?_
              refine g_X12_315 Cx hW (k := 231) (by decide) rfl (v := (S.1 231 24) + 1) uF_on dX12_index_153 ?_
              refine lv_iconst (v := iv 2) hx hb dX12_index_156 (by decide) ?_
              refine r_iadd hx hb dX12_index_157 ?_
              refine p_X12_315 Cx hW hL (k := 231) (by decide) rfl dX12_index_158 (fun H locs hW hL => ?_)
              have F_35 : Fr S (uF (uF S 231 24 ((S.1 231 24) + 1)) 231 24 (((S.1 231 24) + 1) + 2)) (pl [231, 258]) := F_22.F rfl
              have g_36 : FF S (uF (uF S 231 24 ((S.1 231 24) + 1)) 231 24 (((S.1 231 24) + 1) + 2)) (fl [20, 21, 24, 43]) := FF.F g_23 rfl
              have i_37 : dX G (uF (uF S 231 24 ((S.1 231 24) + 1)) 231 24 (((S.1 231 24) + 1) + 2)) := i_24.F (i := 24) (show (-2147483648) ≤ ((S.1 231 24) + 1) + 2 ∧ ((S.1 231 24) + 1) + 2 ≤ 2147483647 from ⟨by omega, by omega⟩)
              have hq9 := hg3.2
              refine lv_aload_n hx hb dX12_index_161 rfl (lv_at hl 2 rfl) ?_
              refine g_X12_91 Cx hW (k := 231) (by decide) rfl (v := .ref (G.2.2.1 + 258)) (rd_44 i_37) dX12_index_162 ?_
              refine lv_aload_n hx hb dX12_index_165 rfl (lv_at hl 2 rfl) ?_
              have q_38 : (-2147483648) ≤ S.1 231 43 ∧ S.1 231 43 ≤ 2147483647 := hI.fi 43
              refine g_X12_441 Cx hW (k := 231) (by decide) rfl (v := S.1 231 43) ((uF_ne (fun h => absurd h.2 (by decide))).trans (uF_ne (fun h => absurd h.2 (by decide)))) dX12_index_166 ?_
              refine lv_iload_n hx hb dX12_index_169 rfl (lv_at hl 0 rfl) ?_
              refine rIast Cx hW hL (k := 258) (by decide) rfl (by decide) (by omega) (by omega) dX12_index_170 (fun H locs hW hL => ?_)
              have F_39 : Fr S (uA (uF (uF S 231 24 ((S.1 231 24) + 1)) 231 24 (((S.1 231 24) + 1) + 2)) 258 (S.1 231 43) ((S.2.1 252 r_9) + (-(S.2.1 247 (((S.1 231 24) + 1) + 1))))) (pl [231, 258]) := F_35.A rfl
              have i_40 : dX G (uA (uF (uF S 231 24 ((S.1 231 24) + 1)) 231 24 (((S.1 231 24) + 1) + 2)) 258 (S.1 231 43) ((S.2.1 252 r_9) + (-(S.2.1 247 (((S.1 231 24) + 1) + 1))))) := i_37.A (k := 258) (show (-2147483648) ≤ (S.2.1 252 r_9) + (-(S.2.1 247 (((S.1 231 24) + 1) + 1))) ∧ (S.2.1 252 r_9) + (-(S.2.1 247 (((S.1 231 24) + 1) + 1))) ≤ 2147483647 from ⟨by omega, by omega⟩)
              refine lv_aload_n hx hb dX12_index_171 rfl (lv_at hl 2 rfl) ?_
              refine lv_dup hx hb dX12_index_172 rfl ?_
              refine g_X12_441 Cx hW (k := 231) (by decide) rfl (v := S.1 231 43) ((uA_f).trans ((uF_ne (fun h => absurd h.2 (by decide))).trans (uF_ne (fun h => absurd h.2 (by decide))))) dX12_index_173 ?_
              refine lv_iconst (v := iv 1) hx hb dX12_index_176 (by decide) ?_
              refine r_iadd hx hb dX12_index_177 ?_
              refine p_X12_441 Cx hW hL (k := 231) (by decide) rfl dX12_index_178 (fun H locs hW hL => ?_)
              have F_41 : Fr S (uF (uA (uF (uF S 231 24 ((S.1 231 24) + 1)) 231 24 (((S.1 231 24) + 1) + 2)) 258 (S.1 231 43) ((S.2.1 252 r_9) + (-(S.2.1 247 (((S.1 231 24) + 1) + 1))))) 231 43 ((S.1 231 43) + 1)) (pl [231, 258]) := F_39.F rfl
              have g_42 : FF S (uF (uA (uF (uF S 231 24 ((S.1 231 24) + 1)) 231 24 (((S.1 231 24) + 1) + 2)) 258 (S.1 231 43) ((S.2.1 252 r_9) + (-(S.2.1 247 (((S.1 231 24) + 1) + 1))))) 231 43 ((S.1 231 43) + 1)) (fl [20, 21, 24, 43]) := FF.F g_36 rfl
              have i_43 : dX G (uF (uA (uF (uF S 231 24 ((S.1 231 24) + 1)) 231 24 (((S.1 231 24) + 1) + 2)) 258 (S.1 231 43) ((S.2.1 252 r_9) + (-(S.2.1 247 (((S.1 231 24) + 1) + 1))))) 231 43 ((S.1 231 43) + 1)) := i_40.F (i := 43) (show (-2147483648) ≤ (S.1 231 43) + 1 ∧ (S.1 231 43) + 1 ≤ 2147483647 from ⟨by omega, by omega⟩)
              have lk_44 : (uF (uA (uF (uF S 231 24 ((S.1 231 24) + 1)) 231 24 (((S.1 231 24) + 1) + 2)) 258 (S.1 231 43) ((S.2.1 252 r_9) + (-(S.2.1 247 (((S.1 231 24) + 1) + 1))))) 231 43 ((S.1 231 43) + 1)).1 231 24 = ((S.1 231 24) + 1) + 2 := (uF_ne (fun h => absurd h.2 (by decide))).trans ((uA_f).trans (uF_on))
              have lk_45 : (uF (uA (uF (uF S 231 24 ((S.1 231 24) + 1)) 231 24 (((S.1 231 24) + 1) + 2)) 258 (S.1 231 43) ((S.2.1 252 r_9) + (-(S.2.1 247 (((S.1 231 24) + 1) + 1))))) 231 43 ((S.1 231 43) + 1)).1 231 20 = S.1 231 20 := (uF_ne (fun h => absurd h.2 (by decide))).trans ((uA_f).trans ((uF_ne (fun h => absurd h.2 (by decide))).trans (uF_ne (fun h => absurd h.2 (by decide)))))
              have lk_46 : (uF (uA (uF (uF S 231 24 ((S.1 231 24) + 1)) 231 24 (((S.1 231 24) + 1) + 2)) 258 (S.1 231 43) ((S.2.1 252 r_9) + (-(S.2.1 247 (((S.1 231 24) + 1) + 1))))) 231 43 ((S.1 231 43) + 1)).1 231 43 = (S.1 231 43) + 1 := uF_on
              exact sVret Cx hr hlk hW hL ⟨i_43, F_41, g_42, ⟨(by have e7 := (show (uF (uA (uF (uF S 231 24 ((S.1 231 24) + 1)) 231 24 (((S.1 231 24) + 1) + 2)) 258 (S.1 231 43) ((S.2.1 252 r_9) + (-(S.2.1 247 (((S.1 231 24) + 1) + 1))))) 231 43 ((S.1 231 43) + 1)).1 231 24 = ((S.1 231 24) + 1) + 2 from (uF_ne (fun h => absurd h.2 (by decide))).trans ((uA_f).trans (uF_on))); omega), (fun _ => ⟨(by omega), (by have e7 := (show (uF (uA (uF (uF S 231 24 ((S.1 231 24) + 1)) 231 24 (((S.1 231 24) + 1) + 2)) 258 (S.1 231 43) ((S.2.1 252 r_9) + (-(S.2.1 247 (((S.1 231 24) + 1) + 1))))) 231 43 ((S.1 231 43) + 1)).1 231 24 = ((S.1 231 24) + 1) + 2 from (uF_ne (fun h => absurd h.2 (by decide))).trans ((uA_f).trans (uF_on))); omega), (by have e6 := (show (uF (uA (uF (uF S 231 24 ((S.1 231 24) + 1)) 231 24 (((S.1 231 24) + 1) + 2)) 258 (S.1 231 43) ((S.2.1 252 r_9) + (-(S.2.1 247 (((S.1 231 24) + 1) + 1))))) 231 43 ((S.1 231 43) + 1)).1 231 43 = (S.1 231 43) + 1 from uF_on); omega), (fun x a => by rw [(show ∀ x, (uF (uA (uF (uF S 231 24 ((S.1 231 24) + 1)) 231 24 (((S.1 231 24) + 1) + 2)) 258 (S.1 231 43) ((S.2.1 252 r_9) + (-(S.2.1 247 (((S.1 231 24) + 1) + 1))))) 231 43 ((S.1 231 43) + 1)).2.1 258 x = (uA (uF (uF S 231 24 ((S.1 231 24) + 1)) 231 24 (((S.1 231 24) + 1) + 2)) 258 (S.1 231 43) ((S.2.1 252 r_9) + (-(S.2.1 247 (((S.1 231 24) + 1) + 1))))).2.1 258 x from fun x => uF_a) x, uA_ne (fun h => a h.2)]; exact (uF_a).trans (uF_a)), (by rw [(show ∀ x, (uF (uA (uF (uF S 231 24 ((S.1 231 24) + 1)) 231 24 (((S.1 231 24) + 1) + 2)) 258 (S.1 231 43) ((S.2.1 252 r_9) + (-(S.2.1 247 (((S.1 231 24) + 1) + 1))))) 231 43 ((S.1 231 43) + 1)).2.1 258 x = (uA (uF (uF S 231 24 ((S.1 231 24) + 1)) 231 24 (((S.1 231 24) + 1) + 2)) 258 (S.1 231 43) ((S.2.1 252 r_9) + (-(S.2.1 247 (((S.1 231 24) + 1) + 1))))).2.1 258 x from fun x => uF_a) (S.1 231 43), uA_on]; omega)⟩)⟩⟩ dX12_index_181
            · refine lv_aload_n hx hb dX12_index_123 rfl (lv_at hl 2 rfl) ?_
              refine g_X12_56 Cx hW (k := 231) (by decide) rfl (v := .ref (G.2.2.1 + 247)) (rd_18 i_24) dX12_index_124 ?_
              refine lv_aload_n hx hb dX12_index_127 rfl (lv_at hl 2 rfl) ?_
              refine g_X12_315 Cx hW (k := 231) (by decide) rfl (v := (S.1 231 24) + 1) uF_on dX12_index_128 ?_
              refine lv_iconst (v := iv 1) hx hb dX12_index_131 (by decide) ?_
              refine r_iadd hx hb dX12_index_132 ?_
              refine rIald Cx hW (k := 247) (by decide) rfl (by decide) (by omega) (by omega) dX12_index_133 ?_
              have q_47 : (-2147483648) ≤ S.2.1 247 (((S.1 231 24) + 1) + 1) ∧ S.2.1 247 (((S.1 231 24) + 1) + 1) ≤ 2147483647 := hI.ai 247 (((S.1 231 24) + 1) + 1)
              refine r_i (b := S.2.1 247 (((S.1 231 24) + 1) + 1)) uF_a ?_
              have hv8 : V (pz + 1 + 1) = S.2.1 247 (((S.1 231 24) + 1) + 1) := by rw [← hV]; exact congrArg (S.2.1 247) (by omega)
              refine lv_goto (tgt := 149) hx hb dX12_index_134 (by decide) ?_
              refine r_iadd hx hb dX12_index_149 ?_
              refine lv_istore_n (lv' := [(1, .int (iv ((S.2.1 252 r_9) + (S.2.1 247 (((S.1 231 24) + 1) + 1))))), (2, .int (iv r_9)), (0, .ref (G.2.2.1 + 231))]) hx hb dX12_index_150 rfl hl (by decide) rfl (fun ls hl => ?_)
              refine lv_aload_n hx hb dX12_index_151 rfl (lv_at hl 2 rfl) ?_
              refine lv_dup hx hb dX12_index_152 rfl ?_
              refine g_X12_315 Cx hW (k := 231) (by decide) rfl (v := (S.1 231 24) + 1) uF_on dX12_index_153 ?_
              refine lv_iconst (v := iv 2) hx hb dX12_index_156 (by decide) ?_
              refine r_iadd hx hb dX12_index_157 ?_
              refine p_X12_315 Cx hW hL (k := 231) (by decide) rfl dX12_index_158 (fun H locs hW hL => ?_)
              have F_48 : Fr S (uF (uF S 231 24 ((S.1 231 24) + 1)) 231 24 (((S.1 231 24) + 1) + 2)) (pl [231, 258]) := F_22.F rfl
              have g_49 : FF S (uF (uF S 231 24 ((S.1 231 24) + 1)) 231 24 (((S.1 231 24) + 1) + 2)) (fl [20, 21, 24, 43]) := FF.F g_23 rfl
              have i_50 : dX G (uF (uF S 231 24 ((S.1 231 24) + 1)) 231 24 (((S.1 231 24) + 1) + 2)) := i_24.F (i := 24) (show (-2147483648) ≤ ((S.1 231 24) + 1) + 2 ∧ ((S.1 231 24) + 1) + 2 ≤ 2147483647 from ⟨by omega, by omega⟩)
              have hq9 := hg3.2
              refine lv_aload_n hx hb dX12_index_161 rfl (lv_at hl 2 rfl) ?_
              refine g_X12_91 Cx hW (k := 231) (by decide) rfl (v := .ref (G.2.2.1 + 258)) (rd_44 i_50) dX12_index_162 ?_
              refine lv_aload_n hx hb dX12_index_165 rfl (lv_at hl 2 rfl) ?_
              have q_51 : (-2147483648) ≤ S.1 231 43 ∧ S.1 231 43 ≤ 2147483647 := hI.fi 43
              refine g_X12_441 Cx hW (k := 231) (by decide) rfl (v := S.1 231 43) ((uF_ne (fun h => absurd h.2 (by decide))).trans (uF_ne (fun h => absurd h.2 (by decide)))) dX12_index_166 ?_
              refine lv_iload_n hx hb dX12_index_169 rfl (lv_at hl 0 rfl) ?_
              refine rIast Cx hW hL (k := 258) (by decide) rfl (by decide) (by omega) (by omega) dX12_index_170 (fun H locs hW hL => ?_)
              have F_52 : Fr S (uA (uF (uF S 231 24 ((S.1 231 24) + 1)) 231 24 (((S.1 231 24) + 1) + 2)) 258 (S.1 231 43) ((S.2.1 252 r_9) + (S.2.1 247 (((S.1 231 24) + 1) + 1)))) (pl [231, 258]) := F_48.A rfl
              have i_53 : dX G (uA (uF (uF S 231 24 ((S.1 231 24) + 1)) 231 24 (((S.1 231 24) + 1) + 2)) 258 (S.1 231 43) ((S.2.1 252 r_9) + (S.2.1 247 (((S.1 231 24) + 1) + 1)))) := i_50.A (k := 258) (show (-2147483648) ≤ (S.2.1 252 r_9) + (S.2.1 247 (((S.1 231 24) + 1) + 1)) ∧ (S.2.1 252 r_9) + (S.2.1 247 (((S.1 231 24) + 1) + 1)) ≤ 2147483647 from ⟨by omega, by omega⟩)
              refine lv_aload_n hx hb dX12_index_171 rfl (lv_at hl 2 rfl) ?_
              refine lv_dup hx hb dX12_index_172 rfl ?_
              refine g_X12_441 Cx hW (k := 231) (by decide) rfl (v := S.1 231 43) ((uA_f).trans ((uF_ne (fun h => absurd h.2 (by decide))).trans (uF_ne (fun h => absurd h.2 (by decide))))) dX12_index_173 ?_
              refine lv_iconst (v := iv 1) hx hb dX12_index_176 (by decide) ?_
              refine r_iadd hx hb dX12_index_177 ?_
              refine p_X12_441 Cx hW hL (k := 231) (by decide) rfl dX12_index_178 (fun H locs hW hL => ?_)
              have F_54 : Fr S (uF (uA (uF (uF S 231 24 ((S.1 231 24) + 1)) 231 24 (((S.1 231 24) + 1) + 2)) 258 (S.1 231 43) ((S.2.1 252 r_9) + (S.2.1 247 (((S.1 231 24) + 1) + 1)))) 231 43 ((S.1 231 43) + 1)) (pl [231, 258]) := F_52.F rfl
              have g_55 : FF S (uF (uA (uF (uF S 231 24 ((S.1 231 24) + 1)) 231 24 (((S.1 231 24) + 1) + 2)) 258 (S.1 231 43) ((S.2.1 252 r_9) + (S.2.1 247 (((S.1 231 24) + 1) + 1)))) 231 43 ((S.1 231 43) + 1)) (fl [20, 21, 24, 43]) := FF.F g_49 rfl
              have i_56 : dX G (uF (uA (uF (uF S 231 24 ((S.1 231 24) + 1)) 231 24 (((S.1 231 24) + 1) + 2)) 258 (S.1 231 43) ((S.2.1 252 r_9) + (S.2.1 247 (((S.1 231 24) + 1) + 1)))) 231 43 ((S.1 231 43) + 1)) := i_53.F (i := 43) (show (-2147483648) ≤ (S.1 231 43) + 1 ∧ (S.1 231 43) + 1 ≤ 2147483647 from ⟨by omega, by omega⟩)
              have lk_57 : (uF (uA (uF (uF S 231 24 ((S.1 231 24) + 1)) 231 24 (((S.1 231 24) + 1) + 2)) 258 (S.1 231 43) ((S.2.1 252 r_9) + (S.2.1 247 (((S.1 231 24) + 1) + 1)))) 231 43 ((S.1 231 43) + 1)).1 231 24 = ((S.1 231 24) + 1) + 2 := (uF_ne (fun h => absurd h.2 (by decide))).trans ((uA_f).trans (uF_on))
              have lk_58 : (uF (uA (uF (uF S 231 24 ((S.1 231 24) + 1)) 231 24 (((S.1 231 24) + 1) + 2)) 258 (S.1 231 43) ((S.2.1 252 r_9) + (S.2.1 247 (((S.1 231 24) + 1) + 1)))) 231 43 ((S.1 231 43) + 1)).1 231 20 = S.1 231 20 := (uF_ne (fun h => absurd h.2 (by decide))).trans ((uA_f).trans ((uF_ne (fun h => absurd h.2 (by decide))).trans (uF_ne (fun h => absurd h.2 (by decide)))))
              have lk_59 : (uF (uA (uF (uF S 231 24 ((S.1 231 24) + 1)) 231 24 (((S.1 231 24) + 1) + 2)) 258 (S.1 231 43) ((S.2.1 252 r_9) + (S.2.1 247 (((S.1 231 24) + 1) + 1)))) 231 43 ((S.1 231 43) + 1)).1 231 43 = (S.1 231 43) + 1 := uF_on
              exact sVret Cx hr hlk hW hL ⟨i_56, F_54, g_55, ⟨(by have e7 := (show (uF (uA (uF (uF S 231 24 ((S.1 231 24) + 1)) 231 24 (((S.1 231 24) + 1) + 2)) 258 (S.1 231 43) ((S.2.1 252 r_9) + (S.2.1 247 (((S.1 231 24) + 1) + 1)))) 231 43 ((S.1 231 43) + 1)).1 231 24 = ((S.1 231 24) + 1) + 2 from (uF_ne (fun h => absurd h.2 (by decide))).trans ((uA_f).trans (uF_on))); omega), (fun _ => ⟨(by omega), (by have e7 := (show (uF (uA (uF (uF S 231 24 ((S.1 231 24) + 1)) 231 24 (((S.1 231 24) + 1) + 2)) 258 (S.1 231 43) ((S.2.1 252 r_9) + (S.2.1 247 (((S.1 231 24) + 1) + 1)))) 231 43 ((S.1 231 43) + 1)).1 231 24 = ((S.1 231 24) + 1) + 2 from (uF_ne (fun h => absurd h.2 (by decide))).trans ((uA_f).trans (uF_on))); omega), (by have e6 := (show (uF (uA (uF (uF S 231 24 ((S.1 231 24) + 1)) 231 24 (((S.1 231 24) + 1) + 2)) 258 (S.1 231 43) ((S.2.1 252 r_9) + (S.2.1 247 (((S.1 231 24) + 1) + 1)))) 231 43 ((S.1 231 43) + 1)).1 231 43 = (S.1 231 43) + 1 from uF_on); omega), (fun x a => by rw [(show ∀ x, (uF (uA (uF (uF S 231 24 ((S.1 231 24) + 1)) 231 24 (((S.1 231 24) + 1) + 2)) 258 (S.1 231 43) ((S.2.1 252 r_9) + (S.2.1 247 (((S.1 231 24) + 1) + 1)))) 231 43 ((S.1 231 43) + 1)).2.1 258 x = (uA (uF (uF S 231 24 ((S.1 231 24) + 1)) 231 24 (((S.1 231 24) + 1) + 2)) 258 (S.1 231 43) ((S.2.1 252 r_9) + (S.2.1 247 (((S.1 231 24) + 1) + 1)))).2.1 258 x from fun x => uF_a) x, uA_ne (fun h => a h.2)]; exact (uF_a).trans (uF_a)), (by rw [(show ∀ x, (uF (uA (uF (uF S 231 24 ((S.1 231 24) + 1)) 231 24 (((S.1 231 24) + 1) + 2)) 258 (S.1 231 43) ((S.2.1 252 r_9) + (S.2.1 247 (((S.1 231 24) + 1) + 1)))) 231 43 ((S.1 231 43) + 1)).2.1 258 x = (uA (uF (uF S 231 24 ((S.1 231 24) + 1)) 231 24 (((S.1 231 24) + 1) + 2)) 258 (S.1 231 43) ((S.2.1 252 r_9) + (S.2.1 247 (((S.1 231 24) + 1) + 1)))).2.1 258 x from fun x => uF_a) (S.1 231 43), uA_on]; omega)⟩)⟩⟩ dX12_index_181
          · refine lv_aload_n hx hb dX12_index_104 rfl (lv_at hl 2 rfl) ?_
            refine lv_bipush (v := iv 45) hx hb dX12_index_105 (by decide) ?_
            refine sBi (sV (As := [.int (iv 45)]) (rest := []) (k := 231) Cx (s_X12_isSign l G (uF S 231 24 ((S.1 231 24) + 1)) (sv := 45) (K := K) (V := V) (pz := (pz) + 1) i_24 (by omega) ((funext fun j => uF_a : (uF S 231 24 ((S.1 231 24) + 1)).2.1 244 = S.2.1 244).trans hK) ((funext fun j => uF_a : (uF S 231 24 ((S.1 231 24) + 1)).2.1 247 = S.2.1 247).trans hV) (by omega) (by omega)) (c_X12_318 Cx rfl rfl (rmk_ok (by omega) (by decide))) hW (by decide) rfl rfl rfl hl.1 rfl (Nat.le_of_ble_eq_true rfl) dX12_index_107 ⟨Nat.le_of_ble_eq_true rfl, Nat.le_of_ble_eq_true rfl⟩) hL (fun r_62 u_60 H locs k_61 hW hL => ?_)
            obtain ⟨eu_60, xu_60⟩ := k_61
            rw [eu_60] at hW
            refine r_if_eq (tgt := 161) hx hb ⟨(by omega), (by omega)⟩ dX12_index_110 (by decide) (fun c_63 => ?_) (fun c_63 => ?_)
            · have hq9 : q = pz + 1 := by rcases hg2 with h | h; (exact h.2); exact absurd h.1 (fun z => z.elim (xu_26.2.2 (by omega)) (xu_60.2.2 (by omega)))
              refine lv_aload_n hx hb dX12_index_161 rfl (lv_at hl 2 rfl) ?_
              refine g_X12_91 Cx hW (k := 231) (by decide) rfl (v := .ref (G.2.2.1 + 258)) (rd_44 i_24) dX12_index_162 ?_
              refine lv_aload_n hx hb dX12_index_165 rfl (lv_at hl 2 rfl) ?_
              have q_64 : (-2147483648) ≤ S.1 231 43 ∧ S.1 231 43 ≤ 2147483647 := hI.fi 43
              refine g_X12_441 Cx hW (k := 231) (by decide) rfl (v := S.1 231 43) (uF_ne (fun h => absurd h.2 (by decide))) dX12_index_166 ?_
              refine lv_iload_n hx hb dX12_index_169 rfl (lv_at hl 0 rfl) ?_
              refine rIast Cx hW hL (k := 258) (by decide) rfl (by decide) (by omega) (by omega) dX12_index_170 (fun H locs hW hL => ?_)
              have F_65 : Fr S (uA (uF S 231 24 ((S.1 231 24) + 1)) 258 (S.1 231 43) (S.2.1 252 r_9)) (pl [231, 258]) := F_22.A rfl
              have i_66 : dX G (uA (uF S 231 24 ((S.1 231 24) + 1)) 258 (S.1 231 43) (S.2.1 252 r_9)) := i_24.A (k := 258) (show (-2147483648) ≤ S.2.1 252 r_9 ∧ S.2.1 252 r_9 ≤ 2147483647 from ⟨by omega, by omega⟩)
              refine lv_aload_n hx hb dX12_index_171 rfl (lv_at hl 2 rfl) ?_
              refine lv_dup hx hb dX12_index_172 rfl ?_
              refine g_X12_441 Cx hW (k := 231) (by decide) rfl (v := S.1 231 43) ((uA_f).trans (uF_ne (fun h => absurd h.2 (by decide)))) dX12_index_173 ?_
              refine lv_iconst (v := iv 1) hx hb dX12_index_176 (by decide) ?_
              refine r_iadd hx hb dX12_index_177 ?_
              refine p_X12_441 Cx hW hL (k := 231) (by decide) rfl dX12_index_178 (fun H locs hW hL => ?_)
              have F_67 : Fr S (uF (uA (uF S 231 24 ((S.1 231 24) + 1)) 258 (S.1 231 43) (S.2.1 252 r_9)) 231 43 ((S.1 231 43) + 1)) (pl [231, 258]) := F_65.F rfl
              have g_68 : FF S (uF (uA (uF S 231 24 ((S.1 231 24) + 1)) 258 (S.1 231 43) (S.2.1 252 r_9)) 231 43 ((S.1 231 43) + 1)) (fl [20, 21, 24, 43]) := FF.F g_23 rfl
              have i_69 : dX G (uF (uA (uF S 231 24 ((S.1 231 24) + 1)) 258 (S.1 231 43) (S.2.1 252 r_9)) 231 43 ((S.1 231 43) + 1)) := i_66.F (i := 43) (show (-2147483648) ≤ (S.1 231 43) + 1 ∧ (S.1 231 43) + 1 ≤ 2147483647 from ⟨by omega, by omega⟩)
              have lk_70 : (uF (uA (uF S 231 24 ((S.1 231 24) + 1)) 258 (S.1 231 43) (S.2.1 252 r_9)) 231 43 ((S.1 231 43) + 1)).1 231 24 = (S.1 231 24) + 1 := (uF_ne (fun h => absurd h.2 (by decide))).trans ((uA_f).trans (uF_on))
              have lk_71 : (uF (uA (uF S 231 24 ((S.1 231 24) + 1)) 258 (S.1 231 43) (S.2.1 252 r_9)) 231 43 ((S.1 231 43) + 1)).1 231 20 = S.1 231 20 := (uF_ne (fun h => absurd h.2 (by decide))).trans ((uA_f).trans (uF_ne (fun h => absurd h.2 (by decide))))
              have lk_72 : (uF (uA (uF S 231 24 ((S.1 231 24) + 1)) 258 (S.1 231 43) (S.2.1 252 r_9)) 231 43 ((S.1 231 43) + 1)).1 231 43 = (S.1 231 43) + 1 := uF_on
              exact sVret Cx hr hlk hW hL ⟨i_69, F_67, g_68, ⟨(by have e7 := (show (uF (uA (uF S 231 24 ((S.1 231 24) + 1)) 258 (S.1 231 43) (S.2.1 252 r_9)) 231 43 ((S.1 231 43) + 1)).1 231 24 = (S.1 231 24) + 1 from (uF_ne (fun h => absurd h.2 (by decide))).trans ((uA_f).trans (uF_on))); omega), (fun _ => ⟨(by omega), (by have e7 := (show (uF (uA (uF S 231 24 ((S.1 231 24) + 1)) 258 (S.1 231 43) (S.2.1 252 r_9)) 231 43 ((S.1 231 43) + 1)).1 231 24 = (S.1 231 24) + 1 from (uF_ne (fun h => absurd h.2 (by decide))).trans ((uA_f).trans (uF_on))); omega), (by have e6 := (show (uF (uA (uF S 231 24 ((S.1 231 24) + 1)) 258 (S.1 231 43) (S.2.1 252 r_9)) 231 43 ((S.1 231 43) + 1)).1 231 43 = (S.1 231 43) + 1 from uF_on); omega), (fun x a => by rw [(show ∀ x, (uF (uA (uF S 231 24 ((S.1 231 24) + 1)) 258 (S.1 231 43) (S.2.1 252 r_9)) 231 43 ((S.1 231 43) + 1)).2.1 258 x = (uA (uF S 231 24 ((S.1 231 24) + 1)) 258 (S.1 231 43) (S.2.1 252 r_9)).2.1 258 x from fun x => uF_a) x, uA_ne (fun h => a h.2)]; exact uF_a), (by rw [(show ∀ x, (uF (uA (uF S 231 24 ((S.1 231 24) + 1)) 258 (S.1 231 43) (S.2.1 252 r_9)) 231 43 ((S.1 231 43) + 1)).2.1 258 x = (uA (uF S 231 24 ((S.1 231 24) + 1)) 258 (S.1 231 43) (S.2.1 252 r_9)).2.1 258 x from fun x => uF_a) (S.1 231 43), uA_on]; omega)⟩)⟩⟩ dX12_index_181
            · have hg3 : gk K 2 (pz + 1 + 1) q := by rcases hg2 with h | h; (exact absurd (.inr (xu_60.2.1 (by omega))) h.1); exact h.2
              have hv9 : 0 ≤ V (pz + 1 + 1) ∧ V (pz + 1 + 1) ≤ 99999 := hQ.2.2 (pz + 1 + 1) (by omega) (by have y := hg3.2; omega) hg3.1
              refine lv_iload_n hx hb dX12_index_113 rfl (lv_at hl 0 rfl) ?_
              refine lv_aload_n hx hb dX12_index_114 rfl (lv_at hl 2 rfl) ?_
              refine lv_bipush (v := iv 43) hx hb dX12_index_115 (by decide) ?_
              refine sBi (sV (As := [.int (iv 43)]) (rest := [.int (iv (S.2.1 252 r_9))]) (k := 231) Cx (s_X12_isSign l G (uF S 231 24 ((S.1 231 24) + 1)) (sv := 43) (K := K) (V := V) (pz := (pz) + 1) i_24 (by omega) ((funext fun j => uF_a : (uF S 231 24 ((S.1 231 24) + 1)).2.1 244 = S.2.1 244).trans hK) ((funext fun j => uF_a : (uF S 231 24 ((S.1 231 24) + 1)).2.1 247 = S.2.1 247).trans hV) (by omega) (by omega)) (c_X12_318 Cx rfl rfl (rmk_ok (by omega) (by decide))) hW (by decide) rfl rfl rfl hl.1 rfl (Nat.le_of_ble_eq_true rfl) dX12_index_117 ⟨Nat.le_of_ble_eq_true rfl, Nat.le_of_ble_eq_true rfl⟩) hL (fun r_75 u_73 H locs k_74 hW hL => ?_)
              obtain ⟨eu_73, xu_73⟩ := k_74
              rw [eu_73] at hW
              refine r_if_eq (tgt := 137) hx hb ⟨(by omega), (by omega)⟩ dX12_index_120 (by decide) (fun c_76 => ?_) (fun c_76 => ?_)
              · refine lv_aload_n hx hb dX12_index_137 rfl (lv_at hl 2 rfl) ?_
                refine g_X12_56 Cx hW (k := 231) (by decide) rfl (v := .ref (G.2.2.1 + 247)) (rd_18 i_24) dX12_index_138 ?_
                refine lv_aload_n hx hb dX12_index_141 rfl (lv_at hl 2 rfl) ?_
                refine g_X12_315 Cx hW (k := 231) (by decide) rfl (v := (S.1 231 24) + 1) uF_on dX12_index_142 ?_
                refine lv_iconst (v := iv 1) hx hb dX12_index_145 (by decide) ?_
                refine r_iadd hx hb dX12_index_146 ?_
                refine rIald Cx hW (k := 247) (by decide) rfl (by decide) (by omega) (by omega) dX12_index_147 ?_
                have q_77 : (-2147483648) ≤ S.2.1 247 (((S.1 231 24) + 1) + 1) ∧ S.2.1 247 (((S.1 231 24) + 1) + 1) ≤ 2147483647 := hI.ai 247 (((S.1 231 24) + 1) + 1)
                refine r_i (b := S.2.1 247 (((S.1 231 24) + 1) + 1)) uF_a ?_
                have hv8 : V (pz + 1 + 1) = S.2.1 247 (((S.1 231 24) + 1) + 1) := by rw [← hV]; exact congrArg (S.2.1 247) (by omega)
                refine r_ineg hx hb dX12_index_148 ?_
                refine r_iadd hx hb dX12_index_149 ?_
                refine lv_istore_n (lv' := [(1, .int (iv ((S.2.1 252 r_9) + (-(S.2.1 247 (((S.1 231 24) + 1) + 1)))))), (2, .int (iv r_9)), (0, .ref (G.2.2.1 + 231))]) hx hb dX12_index_150 rfl hl (by decide) rfl (fun ls hl => ?_)
                refine lv_aload_n hx hb dX12_index_151 rfl (lv_at hl 2 rfl) ?_
                refine lv_dup hx hb dX12_index_152 rfl ?_
                refine g_X12_315 Cx hW (k := 231) (by decide) rfl (v := (S.1 231 24) + 1) uF_on dX12_index_153 ?_
                refine lv_iconst (v := iv 2) hx hb dX12_index_156 (by decide) ?_
                refine r_iadd hx hb dX12_index_157 ?_
                refine p_X12_315 Cx hW hL (k := 231) (by decide) rfl dX12_index_158 (fun H locs hW hL => ?_)
                have F_78 : Fr S (uF (uF S 231 24 ((S.1 231 24) + 1)) 231 24 (((S.1 231 24) + 1) + 2)) (pl [231, 258]) := F_22.F rfl
                have g_79 : FF S (uF (uF S 231 24 ((S.1 231 24) + 1)) 231 24 (((S.1 231 24) + 1) + 2)) (fl [20, 21, 24, 43]) := FF.F g_23 rfl
                have i_80 : dX G (uF (uF S 231 24 ((S.1 231 24) + 1)) 231 24 (((S.1 231 24) + 1) + 2)) := i_24.F (i := 24) (show (-2147483648) ≤ ((S.1 231 24) + 1) + 2 ∧ ((S.1 231 24) + 1) + 2 ≤ 2147483647 from ⟨by omega, by omega⟩)
                have hq9 := hg3.2
                refine lv_aload_n hx hb dX12_index_161 rfl (lv_at hl 2 rfl) ?_
                refine g_X12_91 Cx hW (k := 231) (by decide) rfl (v := .ref (G.2.2.1 + 258)) (rd_44 i_80) dX12_index_162 ?_
                refine lv_aload_n hx hb dX12_index_165 rfl (lv_at hl 2 rfl) ?_
                have q_81 : (-2147483648) ≤ S.1 231 43 ∧ S.1 231 43 ≤ 2147483647 := hI.fi 43
                refine g_X12_441 Cx hW (k := 231) (by decide) rfl (v := S.1 231 43) ((uF_ne (fun h => absurd h.2 (by decide))).trans (uF_ne (fun h => absurd h.2 (by decide)))) dX12_index_166 ?_
                refine lv_iload_n hx hb dX12_index_169 rfl (lv_at hl 0 rfl) ?_
                refine rIast Cx hW hL (k := 258) (by decide) rfl (by decide) (by omega) (by omega) dX12_index_170 (fun H locs hW hL => ?_)
                have F_82 : Fr S (uA (uF (uF S 231 24 ((S.1 231 24) + 1)) 231 24 (((S.1 231 24) + 1) + 2)) 258 (S.1 231 43) ((S.2.1 252 r_9) + (-(S.2.1 247 (((S.1 231 24) + 1) + 1))))) (pl [231, 258]) := F_78.A rfl
                have i_83 : dX G (uA (uF (uF S 231 24 ((S.1 231 24) + 1)) 231 24 (((S.1 231 24) + 1) + 2)) 258 (S.1 231 43) ((S.2.1 252 r_9) + (-(S.2.1 247 (((S.1 231 24) + 1) + 1))))) := i_80.A (k := 258) (show (-2147483648) ≤ (S.2.1 252 r_9) + (-(S.2.1 247 (((S.1 231 24) + 1) + 1))) ∧ (S.2.1 252 r_9) + (-(S.2.1 247 (((S.1 231 24) + 1) + 1))) ≤ 2147483647 from ⟨by omega, by omega⟩)
                refine lv_aload_n hx hb dX12_index_171 rfl (lv_at hl 2 rfl) ?_
                refine lv_dup hx hb dX12_index_172 rfl ?_
                refine g_X12_441 Cx hW (k := 231) (by decide) rfl (v := S.1 231 43) ((uA_f).trans ((uF_ne (fun h => absurd h.2 (by decide))).trans (uF_ne (fun h => absurd h.2 (by decide))))) dX12_index_173 ?_
                refine lv_iconst (v := iv 1) hx hb dX12_index_176 (by decide) ?_
                refine r_iadd hx hb dX12_index_177 ?_
                refine p_X12_441 Cx hW hL (k := 231) (by decide) rfl dX12_index_178 (fun H locs hW hL => ?_)
                have F_84 : Fr S (uF (uA (uF (uF S 231 24 ((S.1 231 24) + 1)) 231 24 (((S.1 231 24) + 1) + 2)) 258 (S.1 231 43) ((S.2.1 252 r_9) + (-(S.2.1 247 (((S.1 231 24) + 1) + 1))))) 231 43 ((S.1 231 43) + 1)) (pl [231, 258]) := F_82.F rfl
                have g_85 : FF S (uF (uA (uF (uF S 231 24 ((S.1 231 24) + 1)) 231 24 (((S.1 231 24) + 1) + 2)) 258 (S.1 231 43) ((S.2.1 252 r_9) + (-(S.2.1 247 (((S.1 231 24) + 1) + 1))))) 231 43 ((S.1 231 43) + 1)) (fl [20, 21, 24, 43]) := FF.F g_79 rfl
                have i_86 : dX G (uF (uA (uF (uF S 231 24 ((S.1 231 24) + 1)) 231 24 (((S.1 231 24) + 1) + 2)) 258 (S.1 231 43) ((S.2.1 252 r_9) + (-(S.2.1 247 (((S.1 231 24) + 1) + 1))))) 231 43 ((S.1 231 43) + 1)) := i_83.F (i := 43) (show (-2147483648) ≤ (S.1 231 43) + 1 ∧ (S.1 231 43) + 1 ≤ 2147483647 from ⟨by omega, by omega⟩)
                have lk_87 : (uF (uA (uF (uF S 231 24 ((S.1 231 24) + 1)) 231 24 (((S.1 231 24) + 1) + 2)) 258 (S.1 231 43) ((S.2.1 252 r_9) + (-(S.2.1 247 (((S.1 231 24) + 1) + 1))))) 231 43 ((S.1 231 43) + 1)).1 231 24 = ((S.1 231 24) + 1) + 2 := (uF_ne (fun h => absurd h.2 (by decide))).trans ((uA_f).trans (uF_on))
                have lk_88 : (uF (uA (uF (uF S 231 24 ((S.1 231 24) + 1)) 231 24 (((S.1 231 24) + 1) + 2)) 258 (S.1 231 43) ((S.2.1 252 r_9) + (-(S.2.1 247 (((S.1 231 24) + 1) + 1))))) 231 43 ((S.1 231 43) + 1)).1 231 20 = S.1 231 20 := (uF_ne (fun h => absurd h.2 (by decide))).trans ((uA_f).trans ((uF_ne (fun h => absurd h.2 (by decide))).trans (uF_ne (fun h => absurd h.2 (by decide)))))
                have lk_89 : (uF (uA (uF (uF S 231 24 ((S.1 231 24) + 1)) 231 24 (((S.1 231 24) + 1) + 2)) 258 (S.1 231 43) ((S.2.1 252 r_9) + (-(S.2.1 247 (((S.1 231 24) + 1) + 1))))) 231 43 ((S.1 231 43) + 1)).1 231 43 = (S.1 231 43) + 1 := uF_on
                exact sVret Cx hr hlk hW hL ⟨i_86, F_84, g_85, ⟨(by have e7 := (show (uF (uA (uF (uF S 231 24 ((S.1 231 24) + 1)) 231 24 (((S.1 231 24) + 1) + 2)) 258 (S.1 231 43) ((S.2.1 252 r_9) + (-(S.2.1 247 (((S.1 231 24) + 1) + 1))))) 231 43 ((S.1 231 43) + 1)).1 231 24 = ((S.1 231 24) + 1) + 2 from (uF_ne (fun h => absurd h.2 (by decide))).trans ((uA_f).trans (uF_on))); omega), (fun _ => ⟨(by omega), (by have e7 := (show (uF (uA (uF (uF S 231 24 ((S.1 231 24) + 1)) 231 24 (((S.1 231 24) + 1) + 2)) 258 (S.1 231 43) ((S.2.1 252 r_9) + (-(S.2.1 247 (((S.1 231 24) + 1) + 1))))) 231 43 ((S.1 231 43) + 1)).1 231 24 = ((S.1 231 24) + 1) + 2 from (uF_ne (fun h => absurd h.2 (by decide))).trans ((uA_f).trans (uF_on))); omega), (by have e6 := (show (uF (uA (uF (uF S 231 24 ((S.1 231 24) + 1)) 231 24 (((S.1 231 24) + 1) + 2)) 258 (S.1 231 43) ((S.2.1 252 r_9) + (-(S.2.1 247 (((S.1 231 24) + 1) + 1))))) 231 43 ((S.1 231 43) + 1)).1 231 43 = (S.1 231 43) + 1 from uF_on); omega), (fun x a => by rw [(show ∀ x, (uF (uA (uF (uF S 231 24 ((S.1 231 24) + 1)) 231 24 (((S.1 231 24) + 1) + 2)) 258 (S.1 231 43) ((S.2.1 252 r_9) + (-(S.2.1 247 (((S.1 231 24) + 1) + 1))))) 231 43 ((S.1 231 43) + 1)).2.1 258 x = (uA (uF (uF S 231 24 ((S.1 231 24) + 1)) 231 24 (((S.1 231 24) + 1) + 2)) 258 (S.1 231 43) ((S.2.1 252 r_9) + (-(S.2.1 247 (((S.1 231 24) + 1) + 1))))).2.1 258 x from fun x => uF_a) x, uA_ne (fun h => a h.2)]; exact (uF_a).trans (uF_a)), (by rw [(show ∀ x, (uF (uA (uF (uF S 231 24 ((S.1 231 24) + 1)) 231 24 (((S.1 231 24) + 1) + 2)) 258 (S.1 231 43) ((S.2.1 252 r_9) + (-(S.2.1 247 (((S.1 231 24) + 1) + 1))))) 231 43 ((S.1 231 43) + 1)).2.1 258 x = (uA (uF (uF S 231 24 ((S.1 231 24) + 1)) 231 24 (((S.1 231 24) + 1) + 2)) 258 (S.1 231 43) ((S.2.1 252 r_9) + (-(S.2.1 247 (((S.1 231 24) + 1) + 1))))).2.1 258 x from fun x => uF_a) (S.1 231 43), uA_on]; omega)⟩)⟩⟩ dX12_index_181
              · refine lv_aload_n hx hb dX12_index_123 rfl (lv_at hl 2 rfl) ?_
                refine g_X12_56 Cx hW (k := 231) (by decide) rfl (v := .ref (G.2.2.1 + 247)) (rd_18 i_24) dX12_index_124 ?_
                refine lv_aload_n hx hb dX12_index_127 rfl (lv_at hl 2 rfl) ?_
                refine g_X12_315 Cx hW (k := 231) (by decide) rfl (v := (S.1 231 24) + 1) uF_on dX12_index_128 ?_
                refine lv_iconst (v := iv 1) hx hb dX12_index_131 (by decide) ?_
                refine r_iadd hx hb dX12_index_132 ?_
                refine rIald Cx hW (k := 247) (by decide) rfl (by decide) (by omega) (by omega) dX12_index_133 ?_
                have q_90 : (-2147483648) ≤ S.2.1 247 (((S.1 231 24) + 1) + 1) ∧ S.2.1 247 (((S.1 231 24) + 1) + 1) ≤ 2147483647 := hI.ai 247 (((S.1 231 24) + 1) + 1)
                refine r_i (b := S.2.1 247 (((S.1 231 24) + 1) + 1)) uF_a ?_
                have hv8 : V (pz + 1 + 1) = S.2.1 247 (((S.1 231 24) + 1) + 1) := by rw [← hV]; exact congrArg (S.2.1 247) (by omega)
                refine lv_goto (tgt := 149) hx hb dX12_index_134 (by decide) ?_
                refine r_iadd hx hb dX12_index_149 ?_
                refine lv_istore_n (lv' := [(1, .int (iv ((S.2.1 252 r_9) + (S.2.1 247 (((S.1 231 24) + 1) + 1))))), (2, .int (iv r_9)), (0, .ref (G.2.2.1 + 231))]) hx hb dX12_index_150 rfl hl (by decide) rfl (fun ls hl => ?_)
                refine lv_aload_n hx hb dX12_index_151 rfl (lv_at hl 2 rfl) ?_
                refine lv_dup hx hb dX12_index_152 rfl ?_
                refine g_X12_315 Cx hW (k := 231) (by decide) rfl (v := (S.1 231 24) + 1) uF_on dX12_index_153 ?_
                refine lv_iconst (v := iv 2) hx hb dX12_index_156 (by decide) ?_
                refine r_iadd hx hb dX12_index_157 ?_
                refine p_X12_315 Cx hW hL (k := 231) (by decide) rfl dX12_index_158 (fun H locs hW hL => ?_)
                have F_91 : Fr S (uF (uF S 231 24 ((S.1 231 24) + 1)) 231 24 (((S.1 231 24) + 1) + 2)) (pl [231, 258]) := F_22.F rfl
                have g_92 : FF S (uF (uF S 231 24 ((S.1 231 24) + 1)) 231 24 (((S.1 231 24) + 1) + 2)) (fl [20, 21, 24, 43]) := FF.F g_23 rfl
                have i_93 : dX G (uF (uF S 231 24 ((S.1 231 24) + 1)) 231 24 (((S.1 231 24) + 1) + 2)) := i_24.F (i := 24) (show (-2147483648) ≤ ((S.1 231 24) + 1) + 2 ∧ ((S.1 231 24) + 1) + 2 ≤ 2147483647 from ⟨by omega, by omega⟩)
                have hq9 := hg3.2
                refine lv_aload_n hx hb dX12_index_161 rfl (lv_at hl 2 rfl) ?_
                refine g_X12_91 Cx hW (k := 231) (by decide) rfl (v := .ref (G.2.2.1 + 258)) (rd_44 i_93) dX12_index_162 ?_
                refine lv_aload_n hx hb dX12_index_165 rfl (lv_at hl 2 rfl) ?_
                have q_94 : (-2147483648) ≤ S.1 231 43 ∧ S.1 231 43 ≤ 2147483647 := hI.fi 43
                refine g_X12_441 Cx hW (k := 231) (by decide) rfl (v := S.1 231 43) ((uF_ne (fun h => absurd h.2 (by decide))).trans (uF_ne (fun h => absurd h.2 (by decide)))) dX12_index_166 ?_
                refine lv_iload_n hx hb dX12_index_169 rfl (lv_at hl 0 rfl) ?_
                refine rIast Cx hW hL (k := 258) (by decide) rfl (by decide) (by omega) (by omega) dX12_index_170 (fun H locs hW hL => ?_)
                have F_95 : Fr S (uA (uF (uF S 231 24 ((S.1 231 24) + 1)) 231 24 (((S.1 231 24) + 1) + 2)) 258 (S.1 231 43) ((S.2.1 252 r_9) + (S.2.1 247 (((S.1 231 24) + 1) + 1)))) (pl [231, 258]) := F_91.A rfl
                have i_96 : dX G (uA (uF (uF S 231 24 ((S.1 231 24) + 1)) 231 24 (((S.1 231 24) + 1) + 2)) 258 (S.1 231 43) ((S.2.1 252 r_9) + (S.2.1 247 (((S.1 231 24) + 1) + 1)))) := i_93.A (k := 258) (show (-2147483648) ≤ (S.2.1 252 r_9) + (S.2.1 247 (((S.1 231 24) + 1) + 1)) ∧ (S.2.1 252 r_9) + (S.2.1 247 (((S.1 231 24) + 1) + 1)) ≤ 2147483647 from ⟨by omega, by omega⟩)
                refine lv_aload_n hx hb dX12_index_171 rfl (lv_at hl 2 rfl) ?_
                refine lv_dup hx hb dX12_index_172 rfl ?_
                refine g_X12_441 Cx hW (k := 231) (by decide) rfl (v := S.1 231 43) ((uA_f).trans ((uF_ne (fun h => absurd h.2 (by decide))).trans (uF_ne (fun h => absurd h.2 (by decide))))) dX12_index_173 ?_
                refine lv_iconst (v := iv 1) hx hb dX12_index_176 (by decide) ?_
                refine r_iadd hx hb dX12_index_177 ?_
                refine p_X12_441 Cx hW hL (k := 231) (by decide) rfl dX12_index_178 (fun H locs hW hL => ?_)
                have F_97 : Fr S (uF (uA (uF (uF S 231 24 ((S.1 231 24) + 1)) 231 24 (((S.1 231 24) + 1) + 2)) 258 (S.1 231 43) ((S.2.1 252 r_9) + (S.2.1 247 (((S.1 231 24) + 1) + 1)))) 231 43 ((S.1 231 43) + 1)) (pl [231, 258]) := F_95.F rfl
                have g_98 : FF S (uF (uA (uF (uF S 231 24 ((S.1 231 24) + 1)) 231 24 (((S.1 231 24) + 1) + 2)) 258 (S.1 231 43) ((S.2.1 252 r_9) + (S.2.1 247 (((S.1 231 24) + 1) + 1)))) 231 43 ((S.1 231 43) + 1)) (fl [20, 21, 24, 43]) := FF.F g_92 rfl
                have i_99 : dX G (uF (uA (uF (uF S 231 24 ((S.1 231 24) + 1)) 231 24 (((S.1 231 24) + 1) + 2)) 258 (S.1 231 43) ((S.2.1 252 r_9) + (S.2.1 247 (((S.1 231 24) + 1) + 1)))) 231 43 ((S.1 231 43) + 1)) := i_96.F (i := 43) (show (-2147483648) ≤ (S.1 231 43) + 1 ∧ (S.1 231 43) + 1 ≤ 2147483647 from ⟨by omega, by omega⟩)
                have lk_100 : (uF (uA (uF (uF S 231 24 ((S.1 231 24) + 1)) 231 24 (((S.1 231 24) + 1) + 2)) 258 (S.1 231 43) ((S.2.1 252 r_9) + (S.2.1 247 (((S.1 231 24) + 1) + 1)))) 231 43 ((S.1 231 43) + 1)).1 231 24 = ((S.1 231 24) + 1) + 2 := (uF_ne (fun h => absurd h.2 (by decide))).trans ((uA_f).trans (uF_on))
                have lk_101 : (uF (uA (uF (uF S 231 24 ((S.1 231 24) + 1)) 231 24 (((S.1 231 24) + 1) + 2)) 258 (S.1 231 43) ((S.2.1 252 r_9) + (S.2.1 247 (((S.1 231 24) + 1) + 1)))) 231 43 ((S.1 231 43) + 1)).1 231 20 = S.1 231 20 := (uF_ne (fun h => absurd h.2 (by decide))).trans ((uA_f).trans ((uF_ne (fun h => absurd h.2 (by decide))).trans (uF_ne (fun h => absurd h.2 (by decide)))))
                have lk_102 : (uF (uA (uF (uF S 231 24 ((S.1 231 24) + 1)) 231 24 (((S.1 231 24) + 1) + 2)) 258 (S.1 231 43) ((S.2.1 252 r_9) + (S.2.1 247 (((S.1 231 24) + 1) + 1)))) 231 43 ((S.1 231 43) + 1)).1 231 43 = (S.1 231 43) + 1 := uF_on
                exact sVret Cx hr hlk hW hL ⟨i_99, F_97, g_98, ⟨(by have e7 := (show (uF (uA (uF (uF S 231 24 ((S.1 231 24) + 1)) 231 24 (((S.1 231 24) + 1) + 2)) 258 (S.1 231 43) ((S.2.1 252 r_9) + (S.2.1 247 (((S.1 231 24) + 1) + 1)))) 231 43 ((S.1 231 43) + 1)).1 231 24 = ((S.1 231 24) + 1) + 2 from (uF_ne (fun h => absurd h.2 (by decide))).trans ((uA_f).trans (uF_on))); omega), (fun _ => ⟨(by omega), (by have e7 := (show (uF (uA (uF (uF S 231 24 ((S.1 231 24) + 1)) 231 24 (((S.1 231 24) + 1) + 2)) 258 (S.1 231 43) ((S.2.1 252 r_9) + (S.2.1 247 (((S.1 231 24) + 1) + 1)))) 231 43 ((S.1 231 43) + 1)).1 231 24 = ((S.1 231 24) + 1) + 2 from (uF_ne (fun h => absurd h.2 (by decide))).trans ((uA_f).trans (uF_on))); omega), (by have e6 := (show (uF (uA (uF (uF S 231 24 ((S.1 231 24) + 1)) 231 24 (((S.1 231 24) + 1) + 2)) 258 (S.1 231 43) ((S.2.1 252 r_9) + (S.2.1 247 (((S.1 231 24) + 1) + 1)))) 231 43 ((S.1 231 43) + 1)).1 231 43 = (S.1 231 43) + 1 from uF_on); omega), (fun x a => by rw [(show ∀ x, (uF (uA (uF (uF S 231 24 ((S.1 231 24) + 1)) 231 24 (((S.1 231 24) + 1) + 2)) 258 (S.1 231 43) ((S.2.1 252 r_9) + (S.2.1 247 (((S.1 231 24) + 1) + 1)))) 231 43 ((S.1 231 43) + 1)).2.1 258 x = (uA (uF (uF S 231 24 ((S.1 231 24) + 1)) 231 24 (((S.1 231 24) + 1) + 2)) 258 (S.1 231 43) ((S.2.1 252 r_9) + (S.2.1 247 (((S.1 231 24) + 1) + 1)))).2.1 258 x from fun x => uF_a) x, uA_ne (fun h => a h.2)]; exact (uF_a).trans (uF_a)), (by rw [(show ∀ x, (uF (uA (uF (uF S 231 24 ((S.1 231 24) + 1)) 231 24 (((S.1 231 24) + 1) + 2)) 258 (S.1 231 43) ((S.2.1 252 r_9) + (S.2.1 247 (((S.1 231 24) + 1) + 1)))) 231 43 ((S.1 231 43) + 1)).2.1 258 x = (uA (uF (uF S 231 24 ((S.1 231 24) + 1)) 231 24 (((S.1 231 24) + 1) + 2)) 258 (S.1 231 43) ((S.2.1 252 r_9) + (S.2.1 247 (((S.1 231 24) + 1) + 1)))).2.1 258 x from fun x => uF_a) (S.1 231 43), uA_on]; omega)⟩)⟩⟩ dX12_index_181
        · refine lv_aload_n hx hb dX12_index_68 rfl (lv_at hl 1 rfl) ?_
          refine lv_iconst (v := iv 2) hx hb dX12_index_69 (by decide) ?_
          refine lv_aload_n hx hb dX12_index_70 rfl (lv_at hl 1 rfl) ?_
          refine g_X12_315 Cx hW (k := 231) (by decide) rfl (v := S.1 231 24) rfl dX12_index_71 ?_
          refine sBv (sV (As := [.int (iv 2), .int (iv (S.1 231 24))]) (rest := []) (k := 231) Cx (s_X12_wrong l G S (cd := 2) (tk := S.1 231 24) hI (by omega) (by omega)) (c_X12_321 Cx rfl rfl (rmk_ok (by omega) (by decide))) hW (by decide) rfl rfl rfl hl.1 rfl (Nat.le_of_ble_eq_true rfl) dX12_index_74 ⟨Nat.le_of_ble_eq_true rfl, Nat.le_of_ble_eq_true rfl⟩) hL (fun u_103 H locs k_104 hW hL => ?_)
          obtain ⟨iu_103, fu_103, gu_103, xu_103⟩ := k_104
          have F_105 := (Fr.rf : Fr S S (pl [231, 258])).trans (fu_103.to (pl_sub (by decide)))
          have g_106 : FF S u_103 (fl [20, 21, 24, 43]) := FF.trans FF.rf (FF.to gu_103 (fl_sub (by decide)))
          have lk_107 : u_103.1 231 24 = S.1 231 24 := gu_103 24 rfl
          have q_108 : (-2147483648) ≤ u_103.1 231 20 ∧ u_103.1 231 20 ≤ 2147483647 := iu_103.fi 20
          have q_109 : (-2147483648) ≤ S.1 231 43 ∧ S.1 231 43 ≤ 2147483647 := hI.fi 43
          have lk_110 : u_103.1 231 43 = S.1 231 43 := gu_103 43 rfl
          exact sVret Cx hr hlk hW hL ⟨iu_103, F_105, g_106, ⟨(by have e7 := (show u_103.1 231 24 = S.1 231 24 from gu_103 24 rfl); omega), (fun h => absurd h (by have e9 := (show u_103.1 231 20 = u_103.1 231 20 from rfl); have a9 := xu_103; omega))⟩⟩ dX12_index_77
    · have hq9 : q = pz + 1 := by rcases hg with h | h; (exact h.2); exact absurd (show K pz = 2 by omega) h.1
      have hv9 := hQ.2.2 pz (by omega) (by omega) (by omega)
      refine lv_aload_n hx hb dX12_index_21 rfl (lv_at hl 0 rfl) ?_
      refine g_X12_56 Cx hW (k := 231) (by decide) rfl (v := .ref (G.2.2.1 + 247)) (rd_18 hI) dX12_index_22 ?_
      refine lv_aload_n hx hb dX12_index_25 rfl (lv_at hl 0 rfl) ?_
      refine g_X12_315 Cx hW (k := 231) (by decide) rfl (v := S.1 231 24) rfl dX12_index_26 ?_
      refine rIald Cx hW (k := 247) (by decide) rfl (by decide) (by omega) (by omega) dX12_index_29 ?_
      have q_111 : (-2147483648) ≤ S.2.1 247 (S.1 231 24) ∧ S.2.1 247 (S.1 231 24) ≤ 2147483647 := hI.ai 247 (S.1 231 24)
      refine r_i (b := S.2.1 247 (S.1 231 24)) rfl ?_
      have hv8 : V pz = S.2.1 247 (S.1 231 24) := by rw [← hV, ← hc]
      refine lv_istore_n (lv' := [(1, .int (iv (S.2.1 247 (S.1 231 24)))), (0, .ref (G.2.2.1 + 231))]) hx hb dX12_index_30 rfl hl (by decide) rfl (fun ls hl => ?_)
      refine lv_aload_n hx hb dX12_index_31 rfl (lv_at hl 1 rfl) ?_
      refine lv_dup hx hb dX12_index_32 rfl ?_
      refine g_X12_315 Cx hW (k := 231) (by decide) rfl (v := S.1 231 24) rfl dX12_index_33 ?_
      refine lv_iconst (v := iv 1) hx hb dX12_index_36 (by decide) ?_
      refine r_iadd hx hb dX12_index_37 ?_
      refine p_X12_315 Cx hW hL (k := 231) (by decide) rfl dX12_index_38 (fun H locs hW hL => ?_)
      have F_112 : Fr S (uF S 231 24 ((S.1 231 24) + 1)) (pl [231, 258]) := (Fr.rf : Fr S S (pl [231, 258])).F rfl
      have g_113 : FF S (uF S 231 24 ((S.1 231 24) + 1)) (fl [20, 21, 24, 43]) := FF.F FF.rf rfl
      have i_114 : dX G (uF S 231 24 ((S.1 231 24) + 1)) := hI.F (i := 24) (show (-2147483648) ≤ (S.1 231 24) + 1 ∧ (S.1 231 24) + 1 ≤ 2147483647 from ⟨by omega, by omega⟩)
      refine lv_goto (tgt := 161) hx hb dX12_index_41 (by decide) ?_
      refine lv_aload_n hx hb dX12_index_161 rfl (lv_at hl 1 rfl) ?_
      refine g_X12_91 Cx hW (k := 231) (by decide) rfl (v := .ref (G.2.2.1 + 258)) (rd_44 i_114) dX12_index_162 ?_
      refine lv_aload_n hx hb dX12_index_165 rfl (lv_at hl 1 rfl) ?_
      have q_115 : (-2147483648) ≤ S.1 231 43 ∧ S.1 231 43 ≤ 2147483647 := hI.fi 43
      refine g_X12_441 Cx hW (k := 231) (by decide) rfl (v := S.1 231 43) (uF_ne (fun h => absurd h.2 (by decide))) dX12_index_166 ?_
      refine lv_iload_n hx hb dX12_index_169 rfl (lv_at hl 0 rfl) ?_
      refine rIast Cx hW hL (k := 258) (by decide) rfl (by decide) (by omega) (by omega) dX12_index_170 (fun H locs hW hL => ?_)
      have F_116 : Fr S (uA (uF S 231 24 ((S.1 231 24) + 1)) 258 (S.1 231 43) (S.2.1 247 (S.1 231 24))) (pl [231, 258]) := F_112.A rfl
      have i_117 : dX G (uA (uF S 231 24 ((S.1 231 24) + 1)) 258 (S.1 231 43) (S.2.1 247 (S.1 231 24))) := i_114.A (k := 258) (show (-2147483648) ≤ S.2.1 247 (S.1 231 24) ∧ S.2.1 247 (S.1 231 24) ≤ 2147483647 from ⟨by omega, by omega⟩)
      refine lv_aload_n hx hb dX12_index_171 rfl (lv_at hl 1 rfl) ?_
      refine lv_dup hx hb dX12_index_172 rfl ?_
      refine g_X12_441 Cx hW (k := 231) (by decide) rfl (v := S.1 231 43) ((uA_f).trans (uF_ne (fun h => absurd h.2 (by decide)))) dX12_index_173 ?_
      refine lv_iconst (v := iv 1) hx hb dX12_index_176 (by decide) ?_
      refine r_iadd hx hb dX12_index_177 ?_
      refine p_X12_441 Cx hW hL (k := 231) (by decide) rfl dX12_index_178 (fun H locs hW hL => ?_)
      have F_118 : Fr S (uF (uA (uF S 231 24 ((S.1 231 24) + 1)) 258 (S.1 231 43) (S.2.1 247 (S.1 231 24))) 231 43 ((S.1 231 43) + 1)) (pl [231, 258]) := F_116.F rfl
      have g_119 : FF S (uF (uA (uF S 231 24 ((S.1 231 24) + 1)) 258 (S.1 231 43) (S.2.1 247 (S.1 231 24))) 231 43 ((S.1 231 43) + 1)) (fl [20, 21, 24, 43]) := FF.F g_113 rfl
      have i_120 : dX G (uF (uA (uF S 231 24 ((S.1 231 24) + 1)) 258 (S.1 231 43) (S.2.1 247 (S.1 231 24))) 231 43 ((S.1 231 43) + 1)) := i_117.F (i := 43) (show (-2147483648) ≤ (S.1 231 43) + 1 ∧ (S.1 231 43) + 1 ≤ 2147483647 from ⟨by omega, by omega⟩)
      have lk_121 : (uF (uA (uF S 231 24 ((S.1 231 24) + 1)) 258 (S.1 231 43) (S.2.1 247 (S.1 231 24))) 231 43 ((S.1 231 43) + 1)).1 231 24 = (S.1 231 24) + 1 := (uF_ne (fun h => absurd h.2 (by decide))).trans ((uA_f).trans (uF_on))
      have lk_122 : (uF (uA (uF S 231 24 ((S.1 231 24) + 1)) 258 (S.1 231 43) (S.2.1 247 (S.1 231 24))) 231 43 ((S.1 231 43) + 1)).1 231 20 = S.1 231 20 := (uF_ne (fun h => absurd h.2 (by decide))).trans ((uA_f).trans (uF_ne (fun h => absurd h.2 (by decide))))
      have lk_123 : (uF (uA (uF S 231 24 ((S.1 231 24) + 1)) 258 (S.1 231 43) (S.2.1 247 (S.1 231 24))) 231 43 ((S.1 231 43) + 1)).1 231 43 = (S.1 231 43) + 1 := uF_on
      exact sVret Cx hr hlk hW hL ⟨i_120, F_118, g_119, ⟨(by have e7 := (show (uF (uA (uF S 231 24 ((S.1 231 24) + 1)) 258 (S.1 231 43) (S.2.1 247 (S.1 231 24))) 231 43 ((S.1 231 43) + 1)).1 231 24 = (S.1 231 24) + 1 from (uF_ne (fun h => absurd h.2 (by decide))).trans ((uA_f).trans (uF_on))); omega), (fun _ => ⟨(by omega), (by have e7 := (show (uF (uA (uF S 231 24 ((S.1 231 24) + 1)) 258 (S.1 231 43) (S.2.1 247 (S.1 231 24))) 231 43 ((S.1 231 43) + 1)).1 231 24 = (S.1 231 24) + 1 from (uF_ne (fun h => absurd h.2 (by decide))).trans ((uA_f).trans (uF_on))); omega), (by have e6 := (show (uF (uA (uF S 231 24 ((S.1 231 24) + 1)) 258 (S.1 231 43) (S.2.1 247 (S.1 231 24))) 231 43 ((S.1 231 43) + 1)).1 231 43 = (S.1 231 43) + 1 from uF_on); omega), (fun x a => by rw [(show ∀ x, (uF (uA (uF S 231 24 ((S.1 231 24) + 1)) 258 (S.1 231 43) (S.2.1 247 (S.1 231 24))) 231 43 ((S.1 231 43) + 1)).2.1 258 x = (uA (uF S 231 24 ((S.1 231 24) + 1)) 258 (S.1 231 43) (S.2.1 247 (S.1 231 24))).2.1 258 x from fun x => uF_a) x, uA_ne (fun h => a h.2)]; exact uF_a), (by rw [(show ∀ x, (uF (uA (uF S 231 24 ((S.1 231 24) + 1)) 258 (S.1 231 43) (S.2.1 247 (S.1 231 24))) 231 43 ((S.1 231 43) + 1)).2.1 258 x = (uA (uF S 231 24 ((S.1 231 24) + 1)) 258 (S.1 231 43) (S.2.1 247 (S.1 231 24))).2.1 258 x from fun x => uF_a) (S.1 231 43), uA_on]; omega)⟩)⟩⟩ dX12_index_181
  · have q_124 : (-2147483648) ≤ S.1 231 24 ∧ S.1 231 24 ≤ 2147483647 := hI.fi 24
    have q_125 : (-2147483648) ≤ S.1 231 43 ∧ S.1 231 43 ≤ 2147483647 := hI.fi 43
    exact sVret Cx hr hlk hW hL ⟨hI, (Fr.rf : Fr S S (pl [231, 258])), FF.rf, ⟨(by have e7 := (show S.1 231 24 = S.1 231 24 from rfl); omega), (fun h => absurd h (by have e9 := (show S.1 231 20 = S.1 231 20 from rfl); omega))⟩⟩ dX12_index_7
