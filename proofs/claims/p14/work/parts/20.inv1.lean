/-! Frames by sets of places; the class's invariant -/
abbrev pS : Type := Nat → Bool
def Fr (S u : sS) (P : pS) : Prop := ∀ k, P k = false → same S u k
theorem Fr.rf {S : sS} {P : pS} : Fr S S P := fun _ _ => same.rf
theorem Fr.trans {S T U : sS} {P : pS} (h : Fr S T P) (g : Fr T U P) : Fr S U P := fun k hk => (h k hk).trans (g k hk)
theorem Fr.to {S U : sS} {P P' : pS} (h : Fr S U P) (g : ∀ k, P k = true → P' k = true) : Fr S U P' := fun k hk => h k (by
  cases e : P k
  · rfl
  · rw [g k e] at hk; cases hk)
theorem Fr.F {S u : sS} {P : pS} {k i : Nat} {x : Int} (h : Fr S u P) (hk : P k = true) : Fr S (uF u k i x) P := fun a ha => (h a ha).trans (uF_same (fun e => by rw [e, hk] at ha; cases ha))
theorem Fr.A {S u : sS} {P : pS} {k : Nat} {i x : Int} (h : Fr S u P) (hk : P k = true) : Fr S (uA u k i x) P := fun a ha => (h a ha).trans (uA_same (fun e => by rw [e, hk] at ha; cases ha))
theorem Fr.L {S u : sS} {P : pS} {k : Nat} {i x : Int} (h : Fr S u P) (hk : P k = true) : Fr S (uL u k i x) P := fun a ha => (h a ha).trans (uL_same (fun e => by rw [e, hk] at ha; cases ha))
theorem Fr.R {S u : sS} {P : pS} {k i : Nat} {x : Value} (h : Fr S u P) (hk : P k = true) : Fr S (uR u k i x) P := fun a ha => (h a ha).trans (uR_same (fun e => by rw [e, hk] at ha; cases ha))
theorem Fr.C {S u : sS} {P : pS} {k0 k : Nat} {sp dp n : Int} (h : Fr S u P) (hk : P k = true) : Fr S (uC u k0 sp k dp n) P := fun a ha => (h a ha).trans (uC_same (fun e => by rw [e, hk] at ha; cases ha))
theorem Fr.D {S u : sS} {P : pS} {k0 k : Nat} {sp dp n : Int} (h : Fr S u P) (hk : P k = true) : Fr S (uD u k0 sp k dp n) P := fun a ha => (h a ha).trans (uD_same (fun e => by rw [e, hk] at ha; cases ha))
theorem same.sy {S T : sS} {k : Nat} (h : same S T k) : same T S k := ⟨fun i => (h.1 i).symm, fun i => (h.2.1 i).symm, fun i => (h.2.2.1 i).symm, fun i => (h.2.2.2 i).symm⟩
def pB (o k : Nat) : Bool := Nat.beq k o || Nat.beq k (o + 1)
theorem pB_sub {P : pS} {o : Nat} (h1 : P o = true) (h2 : P (o + 1) = true) : ∀ k, pB o k = true → P k = true := fun k h => by
  cases e : Nat.beq k o
  · cases e2 : Nat.beq k (o + 1)
    · rw [pB, e, e2] at h; cases h
    · rw [Nat.eq_of_beq_eq_true e2]; exact h2
  · rw [Nat.eq_of_beq_eq_true e]; exact h1
theorem pB_0 {o : Nat} : pB o o = true := by simp [pB, Nat.beq_refl]
theorem pB_1 {o : Nat} : pB o (o + 1) = true := by simp [pB, Nat.beq_refl]
theorem pB_no {o k : Nat} (h : k ≠ o) (h2 : k ≠ o + 1) : pB o k = false := by
  cases e : pB o k
  · rfl
  · exfalso
    cases e1 : Nat.beq k o
    · cases e2 : Nat.beq k (o + 1)
      · rw [pB, e1, e2] at e; cases e
      · exact h2 (Nat.eq_of_beq_eq_true e2)
    · exact h (Nat.eq_of_beq_eq_true e1)
def p1 (o k : Nat) : Bool := Nat.beq k o
theorem p1_sub {P : pS} {o : Nat} (h1 : P o = true) : ∀ k, p1 o k = true → P k = true := fun k h => by rw [Nat.eq_of_beq_eq_true h]; exact h1
theorem p1_0 {o : Nat} : p1 o o = true := Nat.beq_refl o
theorem p1_no {o k : Nat} (h : k ≠ o) : p1 o k = false := by
  cases e : p1 o k
  · rfl
  · exact absurd (Nat.eq_of_beq_eq_true e) h
def pNone (_ : Nat) : Bool := false
def rgB (a b k : Nat) : Bool := Nat.ble a k && Nat.ble k b
/-- numbers and texts but the tape: registers, slots, line, head, trees -/
def pN (k : Nat) : Bool := rgB 3 4 k || rgB 121 134 k || rgB 136 137 k || rgB 141 156 k || rgB 158 184 k || rgB 194 224 k || Nat.beq k 227
/-- all of the class's but the tape -/
def pC (k : Nat) : Bool := Nat.beq k 0 || rgB 3 230 k
/-- all of the class -/
def pA (k : Nat) : Bool := rgB 0 230 k
theorem rgB_t {a b k : Nat} (h : rgB a b k = true) : a ≤ k ∧ k ≤ b := by
  rw [rgB, Bool.and_eq_true] at h
  exact ⟨Nat.le_of_ble_eq_true h.1, Nat.le_of_ble_eq_true h.2⟩
theorem rgB_i {a b k : Nat} (h : a ≤ k ∧ k ≤ b) : rgB a b k = true := by
  rw [rgB, Bool.and_eq_true]
  exact ⟨Nat.ble_eq_true_of_le h.1, Nat.ble_eq_true_of_le h.2⟩
theorem pN_C : ∀ k, pN k = true → pC k = true := fun k h => by
  have : 3 ≤ k ∧ k ≤ 230 := by
    simp only [pN, Bool.or_eq_true] at h
    rcases h with (((((h | h) | h) | h) | h) | h) | h
    all_goals first | (have := rgB_t h; omega) | (have := Nat.eq_of_beq_eq_true h; omega)
  rw [pC, rgB_i this, Bool.or_true]
theorem pC_A : ∀ k, pC k = true → pA k = true := fun k h => by
  rw [pC, Bool.or_eq_true] at h
  rcases h with h | h
  · rw [Nat.eq_of_beq_eq_true h]; rfl
  · have := rgB_t h; exact rgB_i ⟨by omega, by omega⟩
theorem pN_A : ∀ k, pN k = true → pA k = true := fun k h => pC_A k (pN_C k h)
def txN (k : Nat) : Int := match k with
  | 1 => 30000
  | 3 => 120
  | 158 => 1500
  | 160 => 30000
  | _ => 0
abbrev fI : Int × Int := (-2147483648, 2147483647)
def fbr (ci k i : Nat) : Int × Int := match ci, i with
  | 0, 1 => (0, 32)
  | 0, 2 => (-1, 1)
  | 1, 14 => (0, 40)
  | 2, 13 => (0, 12)
  | 2, 14 => (0, 40)
  | 2, 15 => (0, 13)
  | 2, 16 => (0, 1)
  | 2, 17 => (-1, 40)
  | 2, 18 => (-1, 13)
  | 2, 19 => (0, 102220)
  | 3, 2 => (0, 12)
  | 3, 3 => (0, 16)
  | 3, 4 => (0, 1)
  | 4, 2 => (0, 30001)
  | 4, 3 => (0, 1000000000)
  | 6, 8 => (0, 12)
  | 6, 9 => (0, 40)
  | 7, 8 => (0, 20)
  | 7, 9 => (0, 6)
  | 7, 11 => (0, 1000)
  | 7, 14 => (0, 3)
  | 7, 15 => (0, 6)
  | 7, 16 => (-1, 40)
  | 8, 3 => (0, 2001)
  | 9, 9 => (0, 128)
  | 9, 10 => (0, 8)
  | 9, 11 => (0, 12)
  | 9, 14 => (0, 7)
  | 10, 1 => (0, txN k)
  | 10, 2 => (0, 1)
  | 11, 7 => (0, 1)
  | 11, 8 => (0, 1)
  | _, _ => fI
def acL : List Nat := [0, 0, 2, 0, 2, 0, 0, 3, 0, 0, 3, 0, 0, 6, 7, 0, 0, 8, 0, 0, 0, 0, 0, 0, 0, 0, 0, 0, 0, 0, 0, 0, 0, 0, 0, 0, 0, 0, 0, 0, 0, 0, 0, 0, 0, 0, 0, 0, 0, 0, 0, 0, 0, 0, 0, 0, 0, 0, 0, 0, 0, 0, 0, 0, 0, 0, 0, 0, 0, 0, 0, 0, 0, 0, 0, 0, 0, 0, 0, 0, 0, 0, 0, 0, 0, 0, 0, 0, 0, 0, 0, 0, 0, 0, 0, 0, 0, 0, 0, 0, 0, 0, 0, 0, 0, 0, 0, 0, 0, 0, 0, 0, 0, 0, 0, 0, 0, 0, 3, 0, 0, 4, 4, 0, 1, 0, 1, 0, 1, 0, 1, 0, 1, 0, 1, 0, 4, 4, 0, 0, 11, 0, 1, 0, 1, 0, 1, 0, 1, 0, 1, 0, 1, 0, 1, 0, 1, 0, 0, 2, 0, 2, 4, 0, 1, 0, 1, 0, 1, 0, 1, 0, 1, 0, 1, 0, 1, 0, 1, 0, 1, 0, 1, 0, 1, 0, 0, 3, 0, 0, 0, 2, 9, 0, 4, 4, 0, 1, 0, 1, 0, 1, 0, 1, 0, 1, 0, 1, 4, 0, 1, 0, 1, 0, 1, 0, 1, 0, 1, 0, 1, 0, 1, 0, 1, 10, 0, 4, 0, 0, 3]
def acode (k : Nat) : Nat := acL.getD k 0
def ab (c : Nat) (j : Int) : Int × Int := match c with
  | 1 => (0, 999999999)
  | 2 => (-128, 127)
  | 3 => (0, 1)
  | 6 => (0, 26)
  | 7 => (0, 2000)
  | 8 => if j % 6 = 0 then (0, 26) else if j % 6 = 1 then (0, 2054847098) else if j % 6 = 2 then (0, 2054847098) else if j % 6 = 5 then fI else (-1, 127)
  | 9 => (0, 480015)
  | 10 => (0, 40)
  | _ => fI
def slotN (k : Nat) : Int := match k with
  | 121 => 4264
  | 122 => 328
  | 136 => 4816
  | 137 => 4816
  | 162 => 112
  | 194 => 4264
  | 195 => 328
  | 208 => 104
  | 227 => 328
  | _ => 0
def slotL (k : Nat) : Int := match k with
  | 136 => 6
  | 137 => 6
  | _ => 7
def slotT (k : Nat) : Int := match k with
  | 227 => 999999
  | _ => 999999999
def SlotOK (f : Int → Int) (a L T : Int) : Prop := (-L ≤ f a ∧ f a ≤ L) ∧ (∀ i, a < i → i < a + 8 → 0 ≤ f i ∧ f i ≤ 999999999) ∧ (0 < f a → f (a + f a) ≠ 0) ∧ (f a < 0 → f (a - f a) ≠ 0) ∧ (f a = 7 ∨ f a = -7 → f (a + 7) ≤ T)
def KOn : Nat → (Int → Int) → Int → Prop
  | 0, _, e => e = 0
  | n + 1, f, e => e = 0 ∨ (3 ≤ e ∧ (0 ≤ f (e - 2) ∧ f (e - 2) ≤ 40) ∧ (0 ≤ f (e - 1) ∧ f (e - 1) ≤ 13) ∧ (-1 ≤ f (e - 3) ∧ f (e - 3) ≤ 40) ∧ 0 ≤ e - 3 - f (e - 1) - f (e - 2) - (f (e - 2) + 3) * 112 ∧ 0 ≤ f (e - 3 - f (e - 1) - f (e - 2) - (f (e - 2) + 3) * 112) ∧ (∀ i, 0 ≤ i → i < e → -2147483648 ≤ f i ∧ f i ≤ 2147483647) ∧ (∀ a, a % 8 = 0 → 0 ≤ a → a + 7 < (f (e - 2) + 3) * 112 → SlotOK (fun i => f (e - 3 - f (e - 1) - f (e - 2) - (f (e - 2) + 3) * 112 + i)) a 6 999999999) ∧ KOn n f (e - 3 - f (e - 1) - f (e - 2) - (f (e - 2) + 3) * 112))
def FI (S : sS) : Prop := ∀ k i ci, k < 231 → tau k = .inl ci → (fbr ci k i).1 ≤ S.1 k i ∧ S.1 k i ≤ (fbr ci k i).2
def AI (S : sS) : Prop := ∀ k (j : Int), k < 231 → (ab (acode k) j).1 ≤ S.2.1 k j ∧ S.2.1 k j ≤ (ab (acode k) j).2
def LI (S : sS) : Prop := ∀ k (j : Int), k < 231 → -9223372036854775808 ≤ S.2.2.1 k j ∧ S.2.2.1 k j ≤ 9223372036854775807
def rfL : List (Nat × Nat × Nat) := [(0, 4, 188), (0, 1, 3), (0, 3, 119), (0, 0, 1), (0, 2, 11), (11, 6, 83), (11, 7, 115), (11, 1, 16), (11, 5, 51), (11, 4, 19), (11, 0, 12), (11, 2, 17), (11, 3, 18), (12, 0, 13), (12, 1, 14), (12, 2, 15), (119, 6, 183), (119, 1, 135), (119, 3, 177), (119, 2, 157), (119, 4, 179), (119, 0, 120), (119, 5, 181), (120, 0, 121), (120, 1, 122), (120, 7, 133), (120, 2, 123), (120, 4, 127), (120, 6, 131), (120, 3, 125), (120, 5, 129), (135, 2, 138), (135, 6, 143), (135, 3, 139), (135, 12, 155), (135, 4, 140), (135, 5, 141), (135, 9, 149), (135, 11, 153), (135, 10, 151), (135, 7, 145), (135, 8, 147), (157, 5, 167), (157, 6, 169), (157, 0, 158), (157, 9, 175), (157, 4, 165), (157, 2, 162), (157, 8, 173), (157, 7, 171), (157, 1, 160), (157, 3, 163), (188, 10, 223), (188, 8, 219), (188, 7, 217), (188, 2, 208), (188, 9, 221), (188, 5, 213), (188, 0, 189), (188, 1, 193), (188, 6, 215), (188, 4, 211), (188, 3, 209), (188, 13, 227), (188, 11, 225), (188, 12, 226), (189, 1, 192), (193, 0, 194), (193, 1, 195), (193, 7, 206), (193, 2, 196), (193, 4, 200), (193, 6, 204), (193, 3, 198), (193, 5, 202)]
def RI (G : sG) (S : sS) : Prop := ∀ q ∈ rfL, S.2.2.2 q.1 q.2.1 = .ref (G.2.2.1 + q.2.2)
/-- registers, texts, models: where their rows are -/
def RQ (G : sG) (S : sS) : Prop := (∀ o, tau o = .inl 0 → S.2.2.2 o 0 = .ref (G.2.2.1 + (o + 1))) ∧ (∀ o, o < 231 → tau o = .inl 10 → S.2.2.2 o 0 = .ref (G.2.2.1 + (o + 1))) ∧ ∀ o, o < 231 → tau o = .inl 3 → S.2.2.2 o 0 = .ref (G.2.2.1 + (o + 1)) ∧ S.2.2.2 o 1 = .ref (G.2.2.1 + (o + 2))
/-- the rows of rows -/
def R2 (G : sG) (S : sS) : Prop := ∀ i, i < 31 → S.2.2.2 19 i = .ref (G.2.2.1 + (20 + i)) ∧ S.2.2.2 51 i = .ref (G.2.2.1 + (52 + i)) ∧ S.2.2.2 83 i = .ref (G.2.2.1 + (84 + i))
def mdl (o : Nat) : Prop := tau o = .inl 3 ∧ tau (o + 1) = .inr (.int, 221) ∧ tau (o + 2) = .inr (.boolean, 13) ∧ o + 2 < 231 ∧ acode (o + 1) = 0 ∧ acode (o + 2) = 3
/-- the references that change -/
def RM (G : sG) (S : sS) : Prop := ((S.2.2.2 0 5 = .ref (G.2.2.1 + 5) ∧ S.2.2.2 0 6 = .ref (G.2.2.1 + 8)) ∨ (S.2.2.2 0 5 = .ref (G.2.2.1 + 8) ∧ S.2.2.2 0 6 = .ref (G.2.2.1 + 5)))
  ∧ (∃ o, mdl o ∧ S.2.2.2 11 8 = .ref (G.2.2.1 + o)) ∧ (∃ o, mdl o ∧ S.2.2.2 119 7 = .ref (G.2.2.1 + o)) ∧ (∃ o, mdl o ∧ S.2.2.2 188 15 = .ref (G.2.2.1 + o))
  ∧ ((S.2.2.2 135 0 = .ref (G.2.2.1 + 136) ∧ S.2.2.2 135 1 = .ref (G.2.2.1 + 137)) ∨ (S.2.2.2 135 0 = .ref (G.2.2.1 + 137) ∧ S.2.2.2 135 1 = .ref (G.2.2.1 + 136)))
  ∧ (S.2.2.2 189 0 = .ref (G.2.2.1 + 190) ∨ S.2.2.2 189 0 = .ref (G.2.2.1 + 1))
/-- the registers that are out of the rule: x = one, or one + 1000 another -/
def exq (x o : Nat) : Prop := o = x % 1000 ∨ o = x / 1000
def NB (S : sS) (x : Nat) : Prop := ∀ o, tau o = .inl 0 → ¬ exq x o → 0 < S.1 o 1 → S.2.1 (o + 1) (S.1 o 1 - 1) ≠ 0
def NS (S : sS) (y : Nat) (b : Int) : Prop := ∀ k (a : Int), a % 8 = 0 → 0 ≤ a → a + 7 < slotN k → ¬ (k = y ∧ a = b) → SlotOK (S.2.1 k) a (slotL k) (slotT k)
def UB (S : sS) : Prop := S.1 119 9 = 4 → 1 ≤ S.1 135 18
def KO (S : sS) : Prop := (∃ n, KOn n (S.2.1 140) (S.1 135 19)) ∧ 0 ≤ S.2.1 136 0 ∧ 0 ≤ S.2.1 137 0
def cX (G : sG) (S : sS) (x y : Nat) (b : Int) : Prop := (FI S ∧ AI S ∧ LI S) ∧ (RI G S ∧ RQ G S ∧ R2 G S ∧ RM G S) ∧ NB S x ∧ NS S y b ∧ UB S ∧ KO S
section CX
variable {G : sG} {S u : sS} {x y : Nat} {b : Int}
theorem cX.fi (h : cX G S x y b) : FI S := h.1.1
theorem cX.ai (h : cX G S x y b) : AI S := h.1.2.1
theorem cX.li (h : cX G S x y b) : LI S := h.1.2.2
theorem cX.ri (h : cX G S x y b) : RI G S := h.2.1.1
theorem cX.rq (h : cX G S x y b) : RQ G S := h.2.1.2.1
theorem cX.r2 (h : cX G S x y b) : R2 G S := h.2.1.2.2.1
theorem cX.rm (h : cX G S x y b) : RM G S := h.2.1.2.2.2
theorem cX.nb (h : cX G S x y b) : NB S x := h.2.2.1
theorem cX.ns (h : cX G S x y b) : NS S y b := h.2.2.2.1
theorem cX.ub (h : cX G S x y b) : UB S := h.2.2.2.2.1
theorem cX.ko (h : cX G S x y b) : KO S := h.2.2.2.2.2
/-- which writes of fields have more to say -/
def spF (ci i : Nat) : Bool := (Nat.beq ci 0 && Nat.beq i 1) || (Nat.beq ci 7 && Nat.beq i 9) || (Nat.beq ci 2 && (Nat.beq i 18 || Nat.beq i 19))
theorem FI.put {k i ci : Nat} {v : Int} (h : FI S) (ht : tau k = .inl ci) (hv : (fbr ci k i).1 ≤ v ∧ v ≤ (fbr ci k i).2) : FI (uF S k i v) := fun a j cj ha hj => by
  rw [uF_get]
  split
  · rename_i q
    rw [q.1, ht] at hj
    cases hj
    rw [q.1, q.2]; exact hv
  · exact h a j cj ha hj
theorem AI.put {k : Nat} {i v : Int} (h : AI S) (hv : (ab (acode k) i).1 ≤ v ∧ v ≤ (ab (acode k) i).2) : AI (uA S k i v) := fun a j ha => by
  rw [uA_get]
  split
  · rename_i q
    rw [q.1, q.2]; exact hv
  · exact h a j ha
theorem tau119 : tau 119 = .inl 7 := rfl
theorem tau135 : tau 135 = .inl 2 := rfl
theorem cX.F {k i ci : Nat} {v : Int} (h : cX G S x y b) (ht : tau k = .inl ci) (hs : spF ci i = false) (hv : (fbr ci k i).1 ≤ v ∧ v ≤ (fbr ci k i).2) : cX G (uF S k i v) x y b := by
  refine ⟨⟨h.fi.put ht hv, h.ai, h.li⟩, h.2.1, ?_, h.ns, ?_, ?_⟩
  · intro o ho hx
    have e : (uF S k i v).1 o 1 = S.1 o 1 := uF_ne (fun q => by
      rw [← q.1, ho] at ht; cases ht; rw [← q.2] at hs; revert hs; decide)
    rw [e]; exact h.nb o ho hx
  · have e1 : (uF S k i v).1 119 9 = S.1 119 9 := uF_ne (fun q => by
      rw [← q.1, tau119] at ht; cases ht; rw [← q.2] at hs; revert hs; decide)
    have e2 : (uF S k i v).1 135 18 = S.1 135 18 := uF_ne (fun q => by
      rw [← q.1, tau135] at ht; cases ht; rw [← q.2] at hs; revert hs; decide)
    intro q
    rw [e1] at q
    rw [e2]; exact h.ub q
  · have e2 : (uF S k i v).1 135 19 = S.1 135 19 := uF_ne (fun q => by
      rw [← q.1, tau135] at ht; cases ht; rw [← q.2] at hs; revert hs; decide)
    obtain ⟨⟨n, hn⟩, hd⟩ := h.ko
    exact ⟨⟨n, by rw [e2]; exact hn⟩, hd⟩
/-- the count of the register that is being made -/
theorem cX.cnt {k : Nat} {v : Int} (h : cX G S x y b) (hk : exq x k) (ht : tau k = .inl 0) (hv : 0 ≤ v ∧ v ≤ 32) : cX G (uF S k 1 v) x y b := by
  refine ⟨⟨h.fi.put ht hv, h.ai, h.li⟩, h.2.1, ?_, h.ns, ?_, ?_⟩
  · intro o ho hx
    have e : (uF S k 1 v).1 o 1 = S.1 o 1 := uF_ne (fun q => hx (q.1 ▸ hk))
    rw [e]; exact h.nb o ho hx
  · have e1 : (uF S k 1 v).1 119 9 = S.1 119 9 := uF_ne (fun q => by omega)
    have e2 : (uF S k 1 v).1 135 18 = S.1 135 18 := uF_ne (fun q => by omega)
    intro q
    rw [e1] at q
    rw [e2]; exact h.ub q
  · have e2 : (uF S k 1 v).1 135 19 = S.1 135 19 := uF_ne (fun q => by omega)
    obtain ⟨⟨n, hn⟩, hd⟩ := h.ko
    exact ⟨⟨n, by rw [e2]; exact hn⟩, hd⟩
theorem KOn.put {n : Nat} : ∀ {f g : Int → Int} {e : Int}, KOn n f e → (∀ i, 0 ≤ i → i < e → g i = f i) → KOn n g e := by
  induction n with
  | zero => intro f g e h _; exact h
  | succ n ih =>
    intro f g e h hg
    rcases h with h | ⟨h1, h2, h3, h4, h5, h5b, h6, h7, h8⟩
    · exact Or.inl h
    · have a1 := hg (e - 1) (by omega) (by omega)
      have a2 := hg (e - 2) (by omega) (by omega)
      have a3 := hg (e - 3) (by omega) (by omega)
      refine Or.inr ⟨h1, by rw [a2]; exact h2, by rw [a1]; exact h3, by rw [a3]; exact h4, by rw [a1, a2]; exact h5, by rw [a1, a2, hg _ h5 (by omega)]; exact h5b, fun i i0 i1 => by rw [hg i i0 i1]; exact h6 i i0 i1, ?_, ?_⟩
      · rw [a1, a2]
        intro a m0 m1 m2
        obtain ⟨s1, s2, s3, s4, s5⟩ := h7 a m0 m1 m2
        have k0 : ∀ i, a ≤ i → i < a + 8 → g (e - 3 - f (e - 1) - f (e - 2) - (f (e - 2) + 3) * 112 + i) = f (e - 3 - f (e - 1) - f (e - 2) - (f (e - 2) + 3) * 112 + i) := fun i i0 i1 => hg _ (by omega) (by omega)
        have ka := k0 a (by omega) (by omega)
        dsimp only at s1 s2 s3 s4 s5
        refine ⟨by dsimp only; rw [ka]; exact s1, fun i i0 i1 => by dsimp only; rw [k0 i (by omega) i1]; exact s2 i i0 i1, fun q => ?_, fun q => ?_, fun q => ?_⟩
        · dsimp only at q ⊢
          rw [ka] at q ⊢
          rw [k0 _ (by omega) (by omega)]; exact s3 q
        · dsimp only at q ⊢
          rw [ka] at q ⊢
          rw [k0 _ (by omega) (by omega)]; exact s4 q
        · dsimp only at q ⊢
          rw [ka] at q
          rw [k0 _ (by omega) (by omega)]; exact s5 q
      · rw [a1, a2]
        exact ih h8 (fun i i0 i1 => hg i i0 (by omega))
theorem SlotOK.cg {f g : Int → Int} {a L T : Int} (h : SlotOK f a L T) (hL : L ≤ 7) (hg : ∀ i, a ≤ i → i < a + 8 → g i = f i) : SlotOK g a L T := by
  obtain ⟨s1, s2, s3, s4, s5⟩ := h
  have ka := hg a (by omega) (by omega)
  refine ⟨by rw [ka]; exact s1, fun i i0 i1 => by rw [hg i (by omega) i1]; exact s2 i i0 i1, fun q => ?_, fun q => ?_, fun q => ?_⟩
  · rw [ka] at q ⊢; rw [hg _ (by omega) (by omega)]; exact s3 q
  · rw [ka] at q ⊢; rw [hg _ (by omega) (by omega)]; exact s4 q
  · rw [ka] at q; rw [hg _ (by omega) (by omega)]; exact s5 q
theorem slotL7 (k : Nat) : slotL k ≤ 7 := by unfold slotL; split <;> decide
theorem slotN0 {k : Nat} (h : acode k ≠ 4) : slotN k = 0 := by
  unfold slotN
  split <;> first | rfl | exact absurd rfl h
set_option maxRecDepth 100000 in
theorem tauLn : tauL.length = 294 := rfl
theorem big_lt {o : Nat} (h : tau o = .inl 0) : o < 231 := by
  have : ∀ o, o < 294 → tau o = .inl 0 → o < 231 := by decide +kernel
  by_cases q : o < 294
  · exact this o q h
  · exfalso
    have e : tauL[o]? = none := List.getElem?_eq_none (by rw [tauLn]; omega)
    rw [tau, List.getD_eq_getElem?_getD, e] at h
    cases h
theorem big_row {o : Nat} (h : tau o = .inl 0) : tau (o + 1) = .inr (.int, 32) ∧ acode (o + 1) = 1 ∧ o + 1 < 231 := by
  have : ∀ o, o < 231 → tau o = .inl 0 → tau (o + 1) = .inr (.int, 32) ∧ acode (o + 1) = 1 ∧ o + 1 < 231 := by decide +kernel
  exact this o (big_lt h) h
theorem mdl_of {o : Nat} (hl : o < 231) (h : tau o = .inl 3) : mdl o := by
  have a : ∀ o, o < 231 → tau o = .inl 3 → tau (o + 1) = .inr (.int, 221) ∧ tau (o + 2) = .inr (.boolean, 13) := by decide +kernel
  have b : ∀ o, o < 231 → tau o = .inl 3 → o + 2 < 231 ∧ acode (o + 1) = 0 ∧ acode (o + 2) = 3 := by decide +kernel
  exact ⟨h, (a o hl h).1, (a o hl h).2, b o hl h⟩
/-- a row that is neither of limbs, slots, nor the kept one -/
theorem cX.A {k : Nat} {i v : Int} (h : cX G S x y b) (h1 : acode k ≠ 1) (h4 : acode k ≠ 4) (hk : k ≠ 140) (hv : (ab (acode k) i).1 ≤ v ∧ v ≤ (ab (acode k) i).2) : cX G (uA S k i v) x y b := by
  refine ⟨⟨h.fi, h.ai.put hv, h.li⟩, h.2.1, ?_, ?_, h.ub, ?_⟩
  · intro o ho hx
    rw [uA_ne (fun q => by rw [← q.1] at h1; exact h1 (big_row ho).2.1)]
    exact h.nb o ho hx
  · intro k2 a m0 m1 m2 m3
    refine (h.ns k2 a m0 m1 m2 m3).cg (slotL7 _) (fun j j0 j1 => uA_ne (fun q => ?_))
    rw [q.1, slotN0 h4] at m2
    omega
  · obtain ⟨⟨n, hn⟩, hd⟩ := h.ko
    exact ⟨⟨n, hn.put (fun j j0 j1 => uA_ne (fun q => hk q.1.symm))⟩, by rw [uA_ne (fun q => by rw [← q.1] at h4; exact h4 rfl)]; exact hd.1, by rw [uA_ne (fun q => by rw [← q.1] at h4; exact h4 rfl)]; exact hd.2⟩
/-- a limb of the register that is being made -/
theorem cX.limb {k : Nat} {i v : Int} (h : cX G S x y b) (hk : exq x k ∨ S.1 k 1 = 0) (ht : tau k = .inl 0) (hv : 0 ≤ v ∧ v ≤ 999999999) : cX G (uA S (k + 1) i v) x y b := by
  obtain ⟨t1, t2, t3⟩ := big_row ht
  refine ⟨⟨h.fi, h.ai.put (by rw [t2]; exact hv), h.li⟩, h.2.1, ?_, ?_, h.ub, ?_⟩
  · intro o ho hx
    rcases hk with hk | hk
    · rw [uA_ne (fun q => hx (by have e : k = o := Nat.succ.inj q.1.symm; rw [← e]; exact hk))]
      exact h.nb o ho hx
    · intro q0
      rw [uA_ne (fun q => by
        have e : k = o := by omega
        rw [e] at hk
        have : (uA S (k + 1) i v).1 o 1 = S.1 o 1 := rfl
        omega)]
      exact h.nb o ho hx q0
  · intro k2 a m0 m1 m2 m3
    refine (h.ns k2 a m0 m1 m2 m3).cg (slotL7 _) (fun j j0 j1 => uA_ne (fun q => ?_))
    rw [q.1, slotN0 (by rw [t2]; decide)] at m2
    omega
  · obtain ⟨⟨n, hn⟩, hd⟩ := h.ko
    exact ⟨⟨n, hn.put (fun j j0 j1 => uA_ne (fun q => by rw [← q.1] at t2; revert t2; decide))⟩, by rw [uA_ne (fun q => by rw [← q.1] at t2; revert t2; decide)]; exact hd.1, by rw [uA_ne (fun q => by rw [← q.1] at t2; revert t2; decide)]; exact hd.2⟩
/-- a place of the slot that is being made -/
theorem cX.slot {i v : Int} (h : cX G S x y b) (ht : acode y = 4) (hi : b ≤ i ∧ i < b + 8 ∧ b % 8 = 0) (hv : -2147483648 ≤ v ∧ v ≤ 2147483647) (hd0 : (y = 136 ∨ y = 137) → i = 0 → 0 ≤ v) : cX G (uA S y i v) x y b := by
  refine ⟨⟨h.fi, h.ai.put (by rw [ht]; exact hv), h.li⟩, h.2.1, ?_, ?_, h.ub, ?_⟩
  · intro o ho hx
    rw [uA_ne (fun q => by rw [← q.1, (big_row ho).2.1] at ht; cases ht)]
    exact h.nb o ho hx
  · intro k2 a m0 m1 m2 m3
    refine (h.ns k2 a m0 m1 m2 m3).cg (slotL7 _) (fun j j0 j1 => uA_ne (fun q => ?_))
    exact m3 ⟨q.1, by omega⟩
  · obtain ⟨⟨n, hn⟩, hd⟩ := h.ko
    refine ⟨⟨n, hn.put (fun j j0 j1 => uA_ne (fun q => by rw [← q.1] at ht; revert ht; decide))⟩, ?_, ?_⟩
    · rw [uA_get]; split
      · rename_i q; exact hd0 (by omega) (by omega)
      · exact hd.1
    · rw [uA_get]; split
      · rename_i q; exact hd0 (by omega) (by omega)
      · exact hd.2
theorem cX.L {k : Nat} {i v : Int} (h : cX G S x y b) (hv : -9223372036854775808 ≤ v ∧ v ≤ 9223372036854775807) : cX G (uL S k i v) x y b := by
  refine ⟨⟨h.fi, h.ai, fun a j ha => ?_⟩, h.2.1, h.nb, h.ns, h.ub, h.ko⟩
  rw [uL_get]
  split
  · exact hv
  · exact h.li a j ha
/-- one register, one slot is out of the rule -/
theorem exq0 {a : Nat} (ha : tau a = .inl 0) : ¬ exq 0 a := fun e => by
  have : a = 0 := by rcases e with e | e <;> omega
  rw [this] at ha; cases ha
theorem exq_s {o : Nat} (h : tau o = .inl 0) : exq o o := Or.inl (by have := big_lt h; omega)
theorem exq_1 {o q : Nat} (h : tau o = .inl 0) : exq (o + 1000 * q) o := Or.inl (by have := big_lt h; omega)
theorem exq_2 {o q : Nat} (h : tau o = .inl 0) : exq (o + 1000 * q) q := Or.inr (by have := big_lt h; omega)
theorem cX.exB (h : cX G S 0 y b) (o : Nat) : cX G S o y b := ⟨h.1, h.2.1, fun a ha _ => h.nb a ha (exq0 ha), h.ns, h.ub, h.ko⟩
theorem cX.inB {o : Nat} (h : cX G S o y b) (ho : tau o = .inl 0) (hn : 0 < S.1 o 1 → S.2.1 (o + 1) (S.1 o 1 - 1) ≠ 0) : cX G S 0 y b := ⟨h.1, h.2.1, fun a ha _ => by
  have := big_lt ho
  by_cases e : a = o
  · rw [e]; exact hn
  · exact h.nb a ha (fun q => by
      rcases q with q | q
      · exact e (by omega)
      · have e0 : a = 0 := by omega
        rw [e0] at ha; cases ha), h.ns, h.ub, h.ko⟩
theorem cX.exB2 {o : Nat} (h : cX G S o y b) (ho : tau o = .inl 0) (q : Nat) : cX G S (o + 1000 * q) y b := ⟨h.1, h.2.1, fun a ha hx => by
  have := big_lt ho
  exact h.nb a ha (fun e => by
    rcases e with e | e
    · exact hx (Or.inl (by omega))
    · have e0 : a = 0 := by omega
      rw [e0] at ha; cases ha), h.ns, h.ub, h.ko⟩
theorem cX.inB2 {o q : Nat} (h : cX G S (o + 1000 * q) y b) (ho : tau o = .inl 0) (hn : 0 < S.1 q 1 → S.2.1 (q + 1) (S.1 q 1 - 1) ≠ 0) : cX G S o y b := ⟨h.1, h.2.1, fun a ha hx => by
  have := big_lt ho
  by_cases e : a = q
  · rw [e]; exact hn
  · exact h.nb a ha (fun e2 => by
      rcases e2 with e2 | e2
      · exact hx (Or.inl (by omega))
      · exact e (by omega)), h.ns, h.ub, h.ko⟩
theorem cX.exS (h : cX G S x 0 b) (k : Nat) (a : Int) : cX G S x k a := ⟨h.1, h.2.1, h.nb, fun k2 a2 m0 m1 m2 _ => h.ns k2 a2 m0 m1 m2 (fun e => by rw [e.1] at m2; have : slotN 0 = 0 := rfl; omega), h.ub, h.ko⟩
theorem cX.inS {k : Nat} {a c : Int} (h : cX G S x k a) (hn : a + 7 < slotN k → SlotOK (S.2.1 k) a (slotL k) (slotT k)) : cX G S x 0 c := ⟨h.1, h.2.1, h.nb, fun k2 a2 m0 m1 m2 _ => by
  by_cases e : k2 = k ∧ a2 = a
  · rw [e.1, e.2] at m2 ⊢; exact hn m2
  · exact h.ns k2 a2 m0 m1 m2 e, h.ub, h.ko⟩
theorem cX.b0 {c : Int} (h : cX G S x 0 b) : cX G S x 0 c := ⟨h.1, h.2.1, h.nb, fun k2 a2 m0 m1 m2 _ => h.ns k2 a2 m0 m1 m2 (fun e => by rw [e.1] at m2; have : slotN 0 = 0 := rfl; omega), h.ub, h.ko⟩
/-- the invariant speaks of the class's places alone -/
theorem cX.fr {P : pS} (h : cX G S x y b) (f : Fr S u P) (hp : ∀ k, P k = true → 231 ≤ k) : cX G u x y b := by
  have s : ∀ k, k < 231 → same S u k := fun k hk => f k (by
    cases e : P k
    · rfl
    · have := hp k e; omega)
  have rr : ∀ q ∈ rfL, q.1 < 231 := by decide
  obtain ⟨m1, ⟨m2, m3, m4⟩, ⟨m5, m6, m7⟩, ⟨m8, m9, m10⟩, m11, m12⟩ := h.rm
  refine ⟨⟨fun k i ci hk ht => by rw [(s k hk).1]; exact h.fi k i ci hk ht, fun k j hk => by rw [(s k hk).2.1]; exact h.ai k j hk, fun k j hk => by rw [(s k hk).2.2.1]; exact h.li k j hk⟩, ⟨fun q hq => by rw [(s q.1 (rr q hq)).2.2.2]; exact h.ri q hq, ⟨fun o ho => by rw [(s o (big_lt ho)).2.2.2]; exact h.rq.1 o ho, fun o hl ho => by rw [(s o hl).2.2.2]; exact h.rq.2.1 o hl ho, fun o hl ho => by rw [(s o hl).2.2.2, (s o hl).2.2.2]; exact h.rq.2.2 o hl ho⟩, fun i hi => by rw [(s 19 (by decide)).2.2.2, (s 51 (by decide)).2.2.2, (s 83 (by decide)).2.2.2]; exact h.r2 i hi, ?_⟩, ?_, ?_, ?_, ?_⟩
  · refine ⟨by rw [(s 0 (by decide)).2.2.2, (s 0 (by decide)).2.2.2]; exact m1, ⟨m2, m3, by rw [(s 11 (by decide)).2.2.2]; exact m4⟩, ⟨m5, m6, by rw [(s 119 (by decide)).2.2.2]; exact m7⟩, ⟨m8, m9, by rw [(s 188 (by decide)).2.2.2]; exact m10⟩, by rw [(s 135 (by decide)).2.2.2, (s 135 (by decide)).2.2.2]; exact m11, by rw [(s 189 (by decide)).2.2.2]; exact m12⟩
  · intro o ho hx
    rw [(s o (big_lt ho)).1, (s (o + 1) (big_row ho).2.2).2.1]
    exact h.nb o ho hx
  · intro k a m0 m1 m2 m3
    by_cases hk : k < 231
    · exact (h.ns k a m0 m1 m2 m3).cg (slotL7 _) (fun i _ _ => (s k hk).2.1 i)
    · exfalso
      have : slotN k = 0 := by unfold slotN; split <;> first | rfl | omega
      omega
  · intro q
    rw [(s 119 (by decide)).1] at q
    rw [(s 135 (by decide)).1]
    exact h.ub q
  · obtain ⟨⟨n, hn⟩, hd⟩ := h.ko
    refine ⟨⟨n, ?_⟩, by rw [(s 136 (by decide)).2.1]; exact hd.1, by rw [(s 137 (by decide)).2.1]; exact hd.2⟩
    rw [(s 135 (by decide)).1]
    exact hn.put (fun i _ _ => (s 140 (by decide)).2.1 i)
/-- slots in use -/
theorem cX.sl (h : cX G S x 0 b) {k : Nat} {a : Int} (m0 : a % 8 = 0) (m1 : 0 ≤ a) (m2 : a + 7 < slotN k) : SlotOK (S.2.1 k) a (slotL k) (slotT k) := h.ns k a m0 m1 m2 (fun e => by rw [e.1] at m2; have : slotN 0 = 0 := rfl; omega)
theorem limbR (h : cX G S x y b) {o : Nat} (ht : tau o = .inl 0) (j : Int) : 0 ≤ S.2.1 (o + 1) j ∧ S.2.1 (o + 1) j ≤ 999999999 := by
  obtain ⟨t1, t2, t3⟩ := big_row ht
  have := h.ai (o + 1) j t3
  rw [t2] at this
  exact this
theorem rdF {h : FI S} {k i ci : Nat} (hl : k < 231) (ht : tau k = .inl ci) : (fbr ci k i).1 ≤ S.1 k i ∧ S.1 k i ≤ (fbr ci k i).2 := h k i ci hl ht
end CX

theorem rf_0_4 {G : sG} {S : sS} {x y : Nat} {b : Int} (h : cX G S x y b) : S.2.2.2 0 4 = .ref (G.2.2.1 + 188) := h.ri (0, 4, 188) (by decide)
theorem rf_0_1 {G : sG} {S : sS} {x y : Nat} {b : Int} (h : cX G S x y b) : S.2.2.2 0 1 = .ref (G.2.2.1 + 3) := h.ri (0, 1, 3) (by decide)
theorem rf_0_3 {G : sG} {S : sS} {x y : Nat} {b : Int} (h : cX G S x y b) : S.2.2.2 0 3 = .ref (G.2.2.1 + 119) := h.ri (0, 3, 119) (by decide)
theorem rf_0_0 {G : sG} {S : sS} {x y : Nat} {b : Int} (h : cX G S x y b) : S.2.2.2 0 0 = .ref (G.2.2.1 + 1) := h.ri (0, 0, 1) (by decide)
theorem rf_0_2 {G : sG} {S : sS} {x y : Nat} {b : Int} (h : cX G S x y b) : S.2.2.2 0 2 = .ref (G.2.2.1 + 11) := h.ri (0, 2, 11) (by decide)
theorem rf_11_6 {G : sG} {S : sS} {x y : Nat} {b : Int} (h : cX G S x y b) : S.2.2.2 11 6 = .ref (G.2.2.1 + 83) := h.ri (11, 6, 83) (by decide)
theorem rf_11_7 {G : sG} {S : sS} {x y : Nat} {b : Int} (h : cX G S x y b) : S.2.2.2 11 7 = .ref (G.2.2.1 + 115) := h.ri (11, 7, 115) (by decide)
theorem rf_11_1 {G : sG} {S : sS} {x y : Nat} {b : Int} (h : cX G S x y b) : S.2.2.2 11 1 = .ref (G.2.2.1 + 16) := h.ri (11, 1, 16) (by decide)
theorem rf_11_5 {G : sG} {S : sS} {x y : Nat} {b : Int} (h : cX G S x y b) : S.2.2.2 11 5 = .ref (G.2.2.1 + 51) := h.ri (11, 5, 51) (by decide)
theorem rf_11_4 {G : sG} {S : sS} {x y : Nat} {b : Int} (h : cX G S x y b) : S.2.2.2 11 4 = .ref (G.2.2.1 + 19) := h.ri (11, 4, 19) (by decide)
theorem rf_11_0 {G : sG} {S : sS} {x y : Nat} {b : Int} (h : cX G S x y b) : S.2.2.2 11 0 = .ref (G.2.2.1 + 12) := h.ri (11, 0, 12) (by decide)
theorem rf_11_2 {G : sG} {S : sS} {x y : Nat} {b : Int} (h : cX G S x y b) : S.2.2.2 11 2 = .ref (G.2.2.1 + 17) := h.ri (11, 2, 17) (by decide)
theorem rf_11_3 {G : sG} {S : sS} {x y : Nat} {b : Int} (h : cX G S x y b) : S.2.2.2 11 3 = .ref (G.2.2.1 + 18) := h.ri (11, 3, 18) (by decide)
theorem rf_12_0 {G : sG} {S : sS} {x y : Nat} {b : Int} (h : cX G S x y b) : S.2.2.2 12 0 = .ref (G.2.2.1 + 13) := h.ri (12, 0, 13) (by decide)
theorem rf_12_1 {G : sG} {S : sS} {x y : Nat} {b : Int} (h : cX G S x y b) : S.2.2.2 12 1 = .ref (G.2.2.1 + 14) := h.ri (12, 1, 14) (by decide)
theorem rf_12_2 {G : sG} {S : sS} {x y : Nat} {b : Int} (h : cX G S x y b) : S.2.2.2 12 2 = .ref (G.2.2.1 + 15) := h.ri (12, 2, 15) (by decide)
theorem rf_119_6 {G : sG} {S : sS} {x y : Nat} {b : Int} (h : cX G S x y b) : S.2.2.2 119 6 = .ref (G.2.2.1 + 183) := h.ri (119, 6, 183) (by decide)
theorem rf_119_1 {G : sG} {S : sS} {x y : Nat} {b : Int} (h : cX G S x y b) : S.2.2.2 119 1 = .ref (G.2.2.1 + 135) := h.ri (119, 1, 135) (by decide)
theorem rf_119_3 {G : sG} {S : sS} {x y : Nat} {b : Int} (h : cX G S x y b) : S.2.2.2 119 3 = .ref (G.2.2.1 + 177) := h.ri (119, 3, 177) (by decide)
theorem rf_119_2 {G : sG} {S : sS} {x y : Nat} {b : Int} (h : cX G S x y b) : S.2.2.2 119 2 = .ref (G.2.2.1 + 157) := h.ri (119, 2, 157) (by decide)
theorem rf_119_4 {G : sG} {S : sS} {x y : Nat} {b : Int} (h : cX G S x y b) : S.2.2.2 119 4 = .ref (G.2.2.1 + 179) := h.ri (119, 4, 179) (by decide)
theorem rf_119_0 {G : sG} {S : sS} {x y : Nat} {b : Int} (h : cX G S x y b) : S.2.2.2 119 0 = .ref (G.2.2.1 + 120) := h.ri (119, 0, 120) (by decide)
theorem rf_119_5 {G : sG} {S : sS} {x y : Nat} {b : Int} (h : cX G S x y b) : S.2.2.2 119 5 = .ref (G.2.2.1 + 181) := h.ri (119, 5, 181) (by decide)
theorem rf_120_0 {G : sG} {S : sS} {x y : Nat} {b : Int} (h : cX G S x y b) : S.2.2.2 120 0 = .ref (G.2.2.1 + 121) := h.ri (120, 0, 121) (by decide)
theorem rf_120_1 {G : sG} {S : sS} {x y : Nat} {b : Int} (h : cX G S x y b) : S.2.2.2 120 1 = .ref (G.2.2.1 + 122) := h.ri (120, 1, 122) (by decide)
theorem rf_120_7 {G : sG} {S : sS} {x y : Nat} {b : Int} (h : cX G S x y b) : S.2.2.2 120 7 = .ref (G.2.2.1 + 133) := h.ri (120, 7, 133) (by decide)
theorem rf_120_2 {G : sG} {S : sS} {x y : Nat} {b : Int} (h : cX G S x y b) : S.2.2.2 120 2 = .ref (G.2.2.1 + 123) := h.ri (120, 2, 123) (by decide)
theorem rf_120_4 {G : sG} {S : sS} {x y : Nat} {b : Int} (h : cX G S x y b) : S.2.2.2 120 4 = .ref (G.2.2.1 + 127) := h.ri (120, 4, 127) (by decide)
theorem rf_120_6 {G : sG} {S : sS} {x y : Nat} {b : Int} (h : cX G S x y b) : S.2.2.2 120 6 = .ref (G.2.2.1 + 131) := h.ri (120, 6, 131) (by decide)
theorem rf_120_3 {G : sG} {S : sS} {x y : Nat} {b : Int} (h : cX G S x y b) : S.2.2.2 120 3 = .ref (G.2.2.1 + 125) := h.ri (120, 3, 125) (by decide)
theorem rf_120_5 {G : sG} {S : sS} {x y : Nat} {b : Int} (h : cX G S x y b) : S.2.2.2 120 5 = .ref (G.2.2.1 + 129) := h.ri (120, 5, 129) (by decide)
theorem rf_135_2 {G : sG} {S : sS} {x y : Nat} {b : Int} (h : cX G S x y b) : S.2.2.2 135 2 = .ref (G.2.2.1 + 138) := h.ri (135, 2, 138) (by decide)
theorem rf_135_6 {G : sG} {S : sS} {x y : Nat} {b : Int} (h : cX G S x y b) : S.2.2.2 135 6 = .ref (G.2.2.1 + 143) := h.ri (135, 6, 143) (by decide)
theorem rf_135_3 {G : sG} {S : sS} {x y : Nat} {b : Int} (h : cX G S x y b) : S.2.2.2 135 3 = .ref (G.2.2.1 + 139) := h.ri (135, 3, 139) (by decide)
theorem rf_135_12 {G : sG} {S : sS} {x y : Nat} {b : Int} (h : cX G S x y b) : S.2.2.2 135 12 = .ref (G.2.2.1 + 155) := h.ri (135, 12, 155) (by decide)
theorem rf_135_4 {G : sG} {S : sS} {x y : Nat} {b : Int} (h : cX G S x y b) : S.2.2.2 135 4 = .ref (G.2.2.1 + 140) := h.ri (135, 4, 140) (by decide)
theorem rf_135_5 {G : sG} {S : sS} {x y : Nat} {b : Int} (h : cX G S x y b) : S.2.2.2 135 5 = .ref (G.2.2.1 + 141) := h.ri (135, 5, 141) (by decide)
theorem rf_135_9 {G : sG} {S : sS} {x y : Nat} {b : Int} (h : cX G S x y b) : S.2.2.2 135 9 = .ref (G.2.2.1 + 149) := h.ri (135, 9, 149) (by decide)
theorem rf_135_11 {G : sG} {S : sS} {x y : Nat} {b : Int} (h : cX G S x y b) : S.2.2.2 135 11 = .ref (G.2.2.1 + 153) := h.ri (135, 11, 153) (by decide)
theorem rf_135_10 {G : sG} {S : sS} {x y : Nat} {b : Int} (h : cX G S x y b) : S.2.2.2 135 10 = .ref (G.2.2.1 + 151) := h.ri (135, 10, 151) (by decide)
theorem rf_135_7 {G : sG} {S : sS} {x y : Nat} {b : Int} (h : cX G S x y b) : S.2.2.2 135 7 = .ref (G.2.2.1 + 145) := h.ri (135, 7, 145) (by decide)
theorem rf_135_8 {G : sG} {S : sS} {x y : Nat} {b : Int} (h : cX G S x y b) : S.2.2.2 135 8 = .ref (G.2.2.1 + 147) := h.ri (135, 8, 147) (by decide)
theorem rf_157_5 {G : sG} {S : sS} {x y : Nat} {b : Int} (h : cX G S x y b) : S.2.2.2 157 5 = .ref (G.2.2.1 + 167) := h.ri (157, 5, 167) (by decide)
theorem rf_157_6 {G : sG} {S : sS} {x y : Nat} {b : Int} (h : cX G S x y b) : S.2.2.2 157 6 = .ref (G.2.2.1 + 169) := h.ri (157, 6, 169) (by decide)
theorem rf_157_0 {G : sG} {S : sS} {x y : Nat} {b : Int} (h : cX G S x y b) : S.2.2.2 157 0 = .ref (G.2.2.1 + 158) := h.ri (157, 0, 158) (by decide)
theorem rf_157_9 {G : sG} {S : sS} {x y : Nat} {b : Int} (h : cX G S x y b) : S.2.2.2 157 9 = .ref (G.2.2.1 + 175) := h.ri (157, 9, 175) (by decide)
theorem rf_157_4 {G : sG} {S : sS} {x y : Nat} {b : Int} (h : cX G S x y b) : S.2.2.2 157 4 = .ref (G.2.2.1 + 165) := h.ri (157, 4, 165) (by decide)
theorem rf_157_2 {G : sG} {S : sS} {x y : Nat} {b : Int} (h : cX G S x y b) : S.2.2.2 157 2 = .ref (G.2.2.1 + 162) := h.ri (157, 2, 162) (by decide)
theorem rf_157_8 {G : sG} {S : sS} {x y : Nat} {b : Int} (h : cX G S x y b) : S.2.2.2 157 8 = .ref (G.2.2.1 + 173) := h.ri (157, 8, 173) (by decide)
theorem rf_157_7 {G : sG} {S : sS} {x y : Nat} {b : Int} (h : cX G S x y b) : S.2.2.2 157 7 = .ref (G.2.2.1 + 171) := h.ri (157, 7, 171) (by decide)
theorem rf_157_1 {G : sG} {S : sS} {x y : Nat} {b : Int} (h : cX G S x y b) : S.2.2.2 157 1 = .ref (G.2.2.1 + 160) := h.ri (157, 1, 160) (by decide)
theorem rf_157_3 {G : sG} {S : sS} {x y : Nat} {b : Int} (h : cX G S x y b) : S.2.2.2 157 3 = .ref (G.2.2.1 + 163) := h.ri (157, 3, 163) (by decide)
theorem rf_188_10 {G : sG} {S : sS} {x y : Nat} {b : Int} (h : cX G S x y b) : S.2.2.2 188 10 = .ref (G.2.2.1 + 223) := h.ri (188, 10, 223) (by decide)
theorem rf_188_8 {G : sG} {S : sS} {x y : Nat} {b : Int} (h : cX G S x y b) : S.2.2.2 188 8 = .ref (G.2.2.1 + 219) := h.ri (188, 8, 219) (by decide)
theorem rf_188_7 {G : sG} {S : sS} {x y : Nat} {b : Int} (h : cX G S x y b) : S.2.2.2 188 7 = .ref (G.2.2.1 + 217) := h.ri (188, 7, 217) (by decide)
theorem rf_188_2 {G : sG} {S : sS} {x y : Nat} {b : Int} (h : cX G S x y b) : S.2.2.2 188 2 = .ref (G.2.2.1 + 208) := h.ri (188, 2, 208) (by decide)
theorem rf_188_9 {G : sG} {S : sS} {x y : Nat} {b : Int} (h : cX G S x y b) : S.2.2.2 188 9 = .ref (G.2.2.1 + 221) := h.ri (188, 9, 221) (by decide)
theorem rf_188_5 {G : sG} {S : sS} {x y : Nat} {b : Int} (h : cX G S x y b) : S.2.2.2 188 5 = .ref (G.2.2.1 + 213) := h.ri (188, 5, 213) (by decide)
theorem rf_188_0 {G : sG} {S : sS} {x y : Nat} {b : Int} (h : cX G S x y b) : S.2.2.2 188 0 = .ref (G.2.2.1 + 189) := h.ri (188, 0, 189) (by decide)
theorem rf_188_1 {G : sG} {S : sS} {x y : Nat} {b : Int} (h : cX G S x y b) : S.2.2.2 188 1 = .ref (G.2.2.1 + 193) := h.ri (188, 1, 193) (by decide)
theorem rf_188_6 {G : sG} {S : sS} {x y : Nat} {b : Int} (h : cX G S x y b) : S.2.2.2 188 6 = .ref (G.2.2.1 + 215) := h.ri (188, 6, 215) (by decide)
theorem rf_188_4 {G : sG} {S : sS} {x y : Nat} {b : Int} (h : cX G S x y b) : S.2.2.2 188 4 = .ref (G.2.2.1 + 211) := h.ri (188, 4, 211) (by decide)
theorem rf_188_3 {G : sG} {S : sS} {x y : Nat} {b : Int} (h : cX G S x y b) : S.2.2.2 188 3 = .ref (G.2.2.1 + 209) := h.ri (188, 3, 209) (by decide)
theorem rf_188_13 {G : sG} {S : sS} {x y : Nat} {b : Int} (h : cX G S x y b) : S.2.2.2 188 13 = .ref (G.2.2.1 + 227) := h.ri (188, 13, 227) (by decide)
theorem rf_188_11 {G : sG} {S : sS} {x y : Nat} {b : Int} (h : cX G S x y b) : S.2.2.2 188 11 = .ref (G.2.2.1 + 225) := h.ri (188, 11, 225) (by decide)
theorem rf_188_12 {G : sG} {S : sS} {x y : Nat} {b : Int} (h : cX G S x y b) : S.2.2.2 188 12 = .ref (G.2.2.1 + 226) := h.ri (188, 12, 226) (by decide)
theorem rf_189_1 {G : sG} {S : sS} {x y : Nat} {b : Int} (h : cX G S x y b) : S.2.2.2 189 1 = .ref (G.2.2.1 + 192) := h.ri (189, 1, 192) (by decide)
theorem rf_193_0 {G : sG} {S : sS} {x y : Nat} {b : Int} (h : cX G S x y b) : S.2.2.2 193 0 = .ref (G.2.2.1 + 194) := h.ri (193, 0, 194) (by decide)
theorem rf_193_1 {G : sG} {S : sS} {x y : Nat} {b : Int} (h : cX G S x y b) : S.2.2.2 193 1 = .ref (G.2.2.1 + 195) := h.ri (193, 1, 195) (by decide)
theorem rf_193_7 {G : sG} {S : sS} {x y : Nat} {b : Int} (h : cX G S x y b) : S.2.2.2 193 7 = .ref (G.2.2.1 + 206) := h.ri (193, 7, 206) (by decide)
theorem rf_193_2 {G : sG} {S : sS} {x y : Nat} {b : Int} (h : cX G S x y b) : S.2.2.2 193 2 = .ref (G.2.2.1 + 196) := h.ri (193, 2, 196) (by decide)
theorem rf_193_4 {G : sG} {S : sS} {x y : Nat} {b : Int} (h : cX G S x y b) : S.2.2.2 193 4 = .ref (G.2.2.1 + 200) := h.ri (193, 4, 200) (by decide)
theorem rf_193_6 {G : sG} {S : sS} {x y : Nat} {b : Int} (h : cX G S x y b) : S.2.2.2 193 6 = .ref (G.2.2.1 + 204) := h.ri (193, 6, 204) (by decide)
theorem rf_193_3 {G : sG} {S : sS} {x y : Nat} {b : Int} (h : cX G S x y b) : S.2.2.2 193 3 = .ref (G.2.2.1 + 198) := h.ri (193, 3, 198) (by decide)
theorem rf_193_5 {G : sG} {S : sS} {x y : Nat} {b : Int} (h : cX G S x y b) : S.2.2.2 193 5 = .ref (G.2.2.1 + 202) := h.ri (193, 5, 202) (by decide)