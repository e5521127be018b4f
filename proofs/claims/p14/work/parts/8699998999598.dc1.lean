/-! The class's dictionary by its values: the first one, rows more, what is kept -/
theorem DRc.sv {G : sG} {S u : sS} {oc : Nat} {n hw A : Int} {d : dT} {x : Nat} {b : Int} (h : DRc S oc n hw d) (hI : cX G S x 0 b) (hc : dc oc) (h4 : d.2.2.2.2.1 ≤ 39) (h5 : d.2.2.2.2.2 ≤ 13) (h6 : 0 ≤ d.2.2.2.2.1) (e13 : u.1 135 13 = S.1 135 13) (e14 : u.1 135 14 = S.1 135 14) (e15 : u.1 135 15 = S.1 135 15) (e16 : u.1 135 16 = S.1 135 16) (e2 : u.2.1 138 = S.2.1 138) (e3 : u.2.1 139 = S.2.1 139) (hA : (d.2.2.2.2.1 + 3) * 112 ≤ A) (hg : ∀ y, y < A ∨ A + 8 ≤ y → u.2.1 oc y = S.2.1 oc y) : DRc u oc n hw d := by
  refine ⟨?_, fun i j i0 i1 iw j0 j1 => ?_, by rw [e2]; exact h.2.2.1, by rw [e3]; exact h.2.2.2.1, e13.trans h.2.2.2.2.1, e14.trans h.2.2.2.2.2.1, e15.trans h.2.2.2.2.2.2.1, e16.trans h.2.2.2.2.2.2.2⟩
  · rw [nv_8 (f := S.2.1 oc) (hd7 hI hc _ (by omega) (by omega) (by omega)) (fun y y0 y1 => hg y (by omega))]; exact h.1
  · rw [nv_8 (f := S.2.1 oc) (hd7 hI hc _ (by omega) (by omega) (by omega)) (fun y y0 y1 => hg y (by omega))]; exact h.2.1 i j i0 i1 iw j0 j1
theorem DRc.ad {S u : sS} {oc : Nat} {n hw : Int} {d : dT} {t : Int → Int} (h : DRc S oc n hw d) (hm : 0 ≤ d.2.2.2.2.1) (e13 : u.1 135 13 = S.1 135 13) (e14 : u.1 135 14 = S.1 135 14 + 1) (e15 : u.1 135 15 = S.1 135 15) (e16 : u.1 135 16 = S.1 135 16) (e1 : u.2.1 oc = S.2.1 oc) (e2 : ∀ i, i ≠ d.2.2.2.2.1 + 1 → u.2.1 138 i = S.2.1 138 i) (e2n : u.2.1 138 (d.2.2.2.2.1 + 1) = n + (d.2.2.2.2.1 + 1)) (e3 : u.2.1 139 = S.2.1 139) (ht : ∀ j, 0 ≤ j → j ≤ d.2.2.2.2.2 → nv (S.2.1 oc) ((d.2.2.2.2.1 + 3) * 112 + j * 8) = t j) : DRc u oc n hw (adR n d t) := by
  refine ⟨by rw [e1]; exact h.1, fun i j i0 i1 iw j0 j1 => ?_, fun i i0 i1 => ?_, by rw [e3]; exact h.2.2.2.1, e13.trans h.2.2.2.2.1, ?_, e15.trans h.2.2.2.2.2.2.1, e16.trans h.2.2.2.2.2.2.2⟩
  · have i1 : i ≤ d.2.2.2.2.1 + 1 := i1
    show nv (u.2.1 oc) _ = (if i = d.2.2.2.2.1 + 1 then t j else d.2.1 i j)
    rw [e1]
    by_cases q : i = d.2.2.2.2.1 + 1
    · rw [if_pos q, q, ← ht j j0 j1, show d.2.2.2.2.1 + 1 + 2 = d.2.2.2.2.1 + 3 by omega]
    · rw [if_neg q]; exact h.2.1 i j i0 (by omega) iw j0 j1
  · have i1 : i ≤ d.2.2.2.2.1 + 1 := i1
    show u.2.1 138 i = (if i = d.2.2.2.2.1 + 1 then n + (d.2.2.2.2.1 + 1) else d.2.2.1 i)
    by_cases q : i = d.2.2.2.2.1 + 1
    · rw [if_pos q, q]; exact e2n
    · rw [if_neg q, e2 i q]; exact h.2.2.1 i i0 (by omega)
  · show u.1 135 14 = d.2.2.2.2.1 + 1
    rw [e14, h.2.2.2.2.2.1]
/-- the place that goes: the cells of rows below i are moved -/
def DPc (f : Int → Int) (d : dT) (g i : Int) : Prop := nv f 0 = d.1 ∧ ∀ a b, 0 ≤ a → a ≤ d.2.2.2.2.1 → 0 ≤ b → b ≤ d.2.2.2.2.2 → nv f ((a + 2) * 112 + b * 8) = if b = g ∧ a < i then d.2.1 a d.2.2.2.2.2 else d.2.1 a b
theorem DPc.st {f k : Int → Int} {d : dT} {g i : Int} (h : DPc f d g i) (hL : ∀ a, a % 8 = 0 → 0 ≤ a → a + 7 < 4816 → -7 ≤ f a ∧ f a ≤ 7) (h4 : d.2.2.2.2.1 ≤ 40) (h5 : d.2.2.2.2.2 ≤ 13) (hi : 0 ≤ i) (hg : 0 ≤ g ∧ g ≤ d.2.2.2.2.2) (hf : ∀ y, y < (i + 2) * 112 + g * 8 ∨ (i + 2) * 112 + g * 8 + 8 ≤ y → k y = f y) (hv : nv k ((i + 2) * 112 + g * 8) = d.2.1 i d.2.2.2.2.2) : DPc k d g (i + 1) := by
  refine ⟨?_, fun a b a0 a1 b0 b1 => ?_⟩
  · rw [nv_8 (f := f) (hL _ (by omega) (by omega) (by omega)) (fun y y0 y1 => hf y (by omega))]; exact h.1
  · by_cases q : a = i ∧ b = g
    · rw [q.1, q.2, hv, if_pos ⟨rfl, by omega⟩]
    · rw [nv_8 (f := f) (hL _ (by omega) (by omega) (by omega)) (fun y y0 y1 => hf y (by omega)), h.2 a b a0 a1 b0 b1]
      by_cases z : b = g ∧ a < i
      · rw [if_pos z, if_pos ⟨z.1, by omega⟩]
      · rw [if_neg z, if_neg (fun w => z ⟨w.1, by omega⟩)]
/-- the dictionary AT FIRST -/
def dS0 (n m : Int) (A : Int → Int → Int) (hw : Int) : dT := (1, (fun i j => if j = n + 1 then (if i = -1 then 1 else if i = 0 then 0 else -1) else if i = -1 then 0 else if i = 0 ∧ 0 < j then -A 0 j else A i j), (fun i => n + i), (fun j => if j = n + 1 then 0 else j), m, n + hw)
def hwA (m : Int) (A : Int → Int → Int) (hw : Int) : Prop := (hw = 0 ∧ ∀ i, 1 ≤ i → i ≤ m → 0 ≤ A i 0) ∨ (hw = 1 ∧ ∃ i, (1 ≤ i ∧ i ≤ m) ∧ A i 0 < 0)
/-- what is kept -/
def KSc (f : Int → Int) : Int → List (dT × Int) → Prop
  | e, [] => e = 0
  | e, q :: t => ∃ b, e = b + ((q.1.2.2.2.2.1 + 3) * 112 + q.1.2.2.2.2.1 + q.1.2.2.2.2.2 + 3) ∧ 0 ≤ b ∧ (f (e - 3) = q.2 ∧ f (e - 2) = q.1.2.2.2.2.1 ∧ f (e - 1) = q.1.2.2.2.2.2) ∧ (∀ a, a % 8 = 0 → 0 ≤ a → a + 7 < (q.1.2.2.2.2.1 + 3) * 112 → -7 ≤ f (b + a) ∧ f (b + a) ≤ 7) ∧ nv (fun x => f (b + x)) 0 = q.1.1 ∧ (∀ i j, 0 ≤ i → i ≤ q.1.2.2.2.2.1 → 0 ≤ j → j ≤ q.1.2.2.2.2.2 → nv (fun x => f (b + x)) ((i + 2) * 112 + j * 8) = q.1.2.1 i j) ∧ (∀ i, 1 ≤ i → i ≤ q.1.2.2.2.2.1 → f (b + (q.1.2.2.2.2.1 + 3) * 112 + (i - 1)) = q.1.2.2.1 i) ∧ (∀ j, 1 ≤ j → j ≤ q.1.2.2.2.2.2 → f (b + (q.1.2.2.2.2.1 + 3) * 112 + q.1.2.2.2.2.1 + (j - 1)) = q.1.2.2.2.1 j) ∧ KSc f b t
theorem KSc.cg {f g : Int → Int} {n : Int} : ∀ {t : List (dT × Int)} {e b : Int}, KSc f e t → skO n b t → (∀ x, 0 ≤ x → x < e → g x = f x) → KSc g e t
  | [], _, _, h, _, _ => h
  | q :: t, e, b, h, s, hx => by
    obtain ⟨c, h1, h2, h3, hL, h4, h5, h6, h7, h8⟩ := h
    have sm := s.2.1.1
    have sp := s.2.1.2.1
    have N : ∀ a, a % 8 = 0 → 0 ≤ a → a + 7 < (q.1.2.2.2.2.1 + 3) * 112 → nv (fun x => g (c + x)) a = nv (fun x => f (c + x)) a := fun a am a0 a1 => nv_8 (hL a am a0 a1) (fun x x0 x1 => hx (c + x) (by omega) (by omega))
    refine ⟨c, h1, h2, ?_, fun a am a0 a1 => by rw [hx _ (by omega) (by omega)]; exact hL a am a0 a1, by rw [N 0 (by omega) (by omega) (by omega)]; exact h4, fun i j i0 i1 j0 j1 => by rw [N _ (by omega) (by omega) (by omega)]; exact h5 i j i0 i1 j0 j1, fun i i0 i1 => by rw [hx _ (by omega) (by omega)]; exact h6 i i0 i1, fun j j0 j1 => by rw [hx _ (by omega) (by omega)]; exact h7 j j0 j1, KSc.cg h8 s.2.2.2.2 (fun x x0 x1 => hx x x0 (by omega))⟩
    rw [hx _ (by omega) (by omega), hx _ (by omega) (by omega), hx _ (by omega) (by omega)]; exact h3
theorem KSc.cap {f : Int → Int} {n : Int} : ∀ {t : List (dT × Int)} {e b : Int}, KSc f e t → skO n b t → 0 ≤ b → 0 ≤ e ∧ 2 * e ≤ 113 * (b * b) + 589 * b
  | [], e, b, h, _, hb => by
    have h : e = 0 := h
    have := Int.mul_nonneg hb hb
    omega
  | q :: t, e, b, h, s, hb => by
    obtain ⟨c, h1, h2, _, _, _, _, _, _, h8⟩ := h
    have sb := s.1
    have sm := s.2.1.1
    have sp := s.2.1.2.1
    have ih := KSc.cap h8 s.2.2.2.2 sm.1
    have m1 : (q.1.2.2.2.2.1 + 1) * (q.1.2.2.2.2.1 + 1) ≤ b * b := Int.mul_le_mul (by omega) (by omega) (by omega) (by omega)
    have m2 : (q.1.2.2.2.2.1 + 1) * (q.1.2.2.2.2.1 + 1) = q.1.2.2.2.2.1 * q.1.2.2.2.2.1 + 2 * q.1.2.2.2.2.1 + 1 := by grind
    omega
theorem KSc.room {f : Int → Int} {n e b : Int} {t : List (dT × Int)} (h : KSc f e t) (s : skO n b t) (hb : 0 ≤ b ∧ b ≤ 39) : 0 ≤ e ∧ e + ((b + 3) * 112 + b + 12 + 3) ≤ 102220 := by
  have c := h.cap s hb.1
  have m1 : b * b ≤ 39 * 39 := Int.mul_le_mul hb.2 hb.2 hb.1 (by omega)
  have m2 : b * b ≤ 39 * b := Int.mul_le_mul_of_nonneg_right hb.2 hb.1
  omega
def pAr (k : Nat) : Bool := Nat.beq k 135 || Nat.beq k 138
def pCt (k : Nat) : Bool := rgB 136 137 k || rgB 143 144 k || rgB 147 148 k || rgB 153 156 k
def pCx (k : Nat) : Bool := rgB 135 138 k || rgB 143 144 k || rgB 147 148 k || rgB 153 156 k
theorem pCt_x : ∀ k, pCt k = true → pCx k = true := fun k h => by
  simp only [pCt, pCx, Bool.or_eq_true] at h ⊢
  rcases h with ((h | h) | h) | h
  · have := rgB_t h; exact .inl (.inl (.inl (rgB_i (by omega))))
  · exact .inl (.inl (.inr h))
  · exact .inl (.inr h)
  · exact .inr h
theorem pAr_x : ∀ k, pAr k = true → pCx k = true := fun k h => by
  rw [pAr, Bool.or_eq_true] at h
  rcases h with h | h <;> (rw [Nat.eq_of_beq_eq_true h]; rfl)
theorem pAr_X : ∀ k, pAr k = true → pX k = true := fun k h => by
  rw [pAr, Bool.or_eq_true] at h
  rcases h with h | h <;> (rw [Nat.eq_of_beq_eq_true h]; rfl)
theorem pCt_N : ∀ k, pCt k = true → pN k = true := fun k h => by
  simp only [pCt, Bool.or_eq_true] at h
  rcases h with ((h | h) | h) | h
  · simp [pN, h]
  · have := rgB_t h; simp [pN, rgB_i (a := 141) (b := 156) (k := k) ⟨by omega, by omega⟩]
  · have := rgB_t h; simp [pN, rgB_i (a := 141) (b := 156) (k := k) ⟨by omega, by omega⟩]
  · have := rgB_t h; simp [pN, rgB_i (a := 141) (b := 156) (k := k) ⟨by omega, by omega⟩]
theorem pCx_X : ∀ k, pCx k = true → pX k = true := fun k h => by
  simp only [pCx, Bool.or_eq_true] at h
  rcases h with ((h | h) | h) | h
  · have := rgB_t h; simp [pX, rgB_i (a := 135) (b := 140) (k := k) ⟨by omega, by omega⟩]
  · have := rgB_t h; simp [pX, pN, rgB_i (a := 141) (b := 156) (k := k) ⟨by omega, by omega⟩]
  · have := rgB_t h; simp [pX, pN, rgB_i (a := 141) (b := 156) (k := k) ⟨by omega, by omega⟩]
  · have := rgB_t h; simp [pX, pN, rgB_i (a := 141) (b := 156) (k := k) ⟨by omega, by omega⟩]
theorem dic_pCt {o : Nat} (m : dc o) : pCt o = true := by rcases m with rfl | rfl <;> rfl
def pDg (k : Nat) : Bool := rgB 136 137 k || rgB 145 146 k
def pDh (k : Nat) : Bool := rgB 135 137 k || Nat.beq k 139 || rgB 145 146 k
theorem pDg_h : ∀ k, pDg k = true → pDh k = true := fun k h => by
  simp only [pDg, pDh, Bool.or_eq_true] at h ⊢
  rcases h with h | h
  · have := rgB_t h; exact .inl (.inl (rgB_i (by omega)))
  · exact .inr h
theorem pDg_N : ∀ k, pDg k = true → pN k = true := fun k h => by
  simp only [pDg, Bool.or_eq_true] at h
  rcases h with h | h
  · simp [pN, h]
  · have := rgB_t h; simp [pN, rgB_i (a := 141) (b := 156) (k := k) ⟨by omega, by omega⟩]
theorem pDh_X : ∀ k, pDh k = true → pX k = true := fun k h => by
  simp only [pDh, Bool.or_eq_true] at h
  rcases h with (h | h) | h
  · have := rgB_t h; simp [pX, rgB_i (a := 135) (b := 140) (k := k) ⟨by omega, by omega⟩]
  · rw [Nat.eq_of_beq_eq_true h]; rfl
  · have := rgB_t h; simp [pX, pN, rgB_i (a := 141) (b := 156) (k := k) ⟨by omega, by omega⟩]
theorem dic_pDg {o : Nat} (m : dc o) : pDg o = true := by rcases m with rfl | rfl <;> rfl
theorem dic_pJ {o : Nat} (m : dc o) : pJ o = false := by rcases m with rfl | rfl <;> rfl
theorem keepS {G : sG} {S : sS} {oc : Nat} {n hw : Int} {d : dT} {sk : List (dT × Int)} {e r p q u d2 d3 i1 i2 i3 en : Int} (h : KSc (S.2.1 140) e sk) (hs : skO n d.2.2.2.2.1 sk) (hD : DRc S oc n hw d) (hI : cX G S 0 0 0) (hoc : dc oc) (he : 0 ≤ e) (hr : r = d.2.2.2.2.1 ∧ 0 ≤ r ∧ r ≤ 40) (hp : p = d.2.2.2.2.2 ∧ 0 ≤ p ∧ p ≤ 13) (hu : u = (r + 3) * 112) (hd2 : d2 = e + u) (hd3 : d3 = e + u + r) (h3 : i3 = e + u + r + p) (h2 : i2 = e + u + r + p + 1) (h1 : i1 = e + u + r + p + 2) (hen : en = e + u + r + p + 3) : KSc ((uA (uA (uA (uC (uC (uC S oc 0 140 e u) 138 1 140 d2 r) 139 1 140 d3 p) 140 i3 q) 140 i2 r) 140 i1 p).2.1 140) en ((d, q) :: sk) := by
  have no : oc ≠ 140 := by rcases hoc with z | z <;> omega
  have g1 : ∀ j, j < i3 → (uA (uA (uA (uC (uC (uC S oc 0 140 e u) 138 1 140 d2 r) 139 1 140 d3 p) 140 i3 q) 140 i2 r) 140 i1 p).2.1 140 j = (uC (uC (uC S oc 0 140 e u) 138 1 140 d2 r) 139 1 140 d3 p).2.1 140 j := fun j hj => (uA_ne (by omega)).trans ((uA_ne (by omega)).trans (uA_ne (by omega)))
  have g2 : ∀ j, j < d2 → (uC (uC (uC S oc 0 140 e u) 138 1 140 d2 r) 139 1 140 d3 p).2.1 140 j = (uC S oc 0 140 e u).2.1 140 j := fun j hj => (if_neg (by omega)).trans (if_neg (by omega))
  have g3 : ∀ j, j < e → (uC S oc 0 140 e u).2.1 140 j = S.2.1 140 j := fun j hj => if_neg (by omega)
  have g4 : ∀ x, 0 ≤ x → x < u → (uC S oc 0 140 e u).2.1 140 (e + x) = S.2.1 oc x := fun x x0 x1 => by rw [uC_get, if_pos ⟨rfl, by omega, by omega⟩, show (0 : Int) + (e + x - e) = x by omega]
  have C : ∀ x, 0 ≤ x → x < u → (uA (uA (uA (uC (uC (uC S oc 0 140 e u) 138 1 140 d2 r) 139 1 140 d3 p) 140 i3 q) 140 i2 r) 140 i1 p).2.1 140 (e + x) = S.2.1 oc x := fun x x0 x1 => by rw [g1 _ (by omega), g2 _ (by omega), g4 x x0 x1]
  have N : ∀ a, a % 8 = 0 → 0 ≤ a → a + 7 < u → nv (fun x => (uA (uA (uA (uC (uC (uC S oc 0 140 e u) 138 1 140 d2 r) 139 1 140 d3 p) 140 i3 q) 140 i2 r) 140 i1 p).2.1 140 (e + x)) a = nv (S.2.1 oc) a := fun a am a0 a1 => nv_8 (f := S.2.1 oc) (hd7 hI hoc a am a0 (by omega)) (fun x x0 x1 => C x (by omega) (by omega))
  have er := hr.1
  have ep := hp.1
  refine ⟨e, by show en = e + ((d.2.2.2.2.1 + 3) * 112 + d.2.2.2.2.1 + d.2.2.2.2.2 + 3); omega, he, ⟨?_, ?_, ?_⟩, fun a am a0 a1 => ?_, ?_, fun i j i0 i1 j0 j1 => ?_, fun i i0 i1 => ?_, fun j j0 j1 => ?_, ?_⟩
  · rw [show en - 3 = i3 by omega]; exact (uA_ne (by omega)).trans ((uA_ne (by omega)).trans uA_on)
  · rw [show en - 2 = i2 by omega]; exact ((uA_ne (by omega)).trans uA_on).trans er
  · rw [show en - 1 = i1 by omega]; exact uA_on.trans ep
  · have a1 : a + 7 < (d.2.2.2.2.1 + 3) * 112 := a1
    rw [C a a0 (by omega)]; exact hd7 hI hoc a am a0 (by omega)
  · rw [N 0 (by omega) (by omega) (by omega)]; exact hD.1
  · have i1 : i ≤ d.2.2.2.2.1 := i1
    have j1 : j ≤ d.2.2.2.2.2 := j1
    rw [N _ (by omega) (by omega) (by omega)]; exact hD.2.1 i j (by omega) i1 (by omega) j0 j1
  · have i1 : i ≤ d.2.2.2.2.1 := i1
    show _ = d.2.2.1 i
    rw [← hD.2.2.1 i i0 i1]
    show (uA _ _ _ _).2.1 140 (e + (d.2.2.2.2.1 + 3) * 112 + (i - 1)) = _
    rw [g1 _ (by omega), uC_get, if_neg (by omega), uC_get, if_pos ⟨rfl, by omega, by omega⟩, show 1 + (e + (d.2.2.2.2.1 + 3) * 112 + (i - 1) - d2) = i by omega, uC_get, if_neg (fun z => absurd z.1 (by decide))]
  · have j1 : j ≤ d.2.2.2.2.2 := j1
    show _ = d.2.2.2.1 j
    rw [← hD.2.2.2.1 j j0 j1]
    show (uA _ _ _ _).2.1 140 (e + (d.2.2.2.2.1 + 3) * 112 + d.2.2.2.2.1 + (j - 1)) = _
    rw [g1 _ (by omega), uC_get, if_pos ⟨rfl, by omega, by omega⟩, show 1 + (e + (d.2.2.2.2.1 + 3) * 112 + d.2.2.2.2.1 + (j - 1) - d3) = j by omega, uC_get, if_neg (fun z => absurd z.1 (by decide)), uC_get, if_neg (fun z => absurd z.1 (by decide))]
  · exact h.cg hs (fun x x0 x1 => by rw [g1 x (by omega), g2 x (by omega), g3 x x1])
/-- cells that have been stored -/
def CPc (f : Int → Int) (V : Int → Int → Int) (X : Int → Int → Prop) : Prop := nv f 0 = 1 ∧ ∀ a b, X a b → (-1 ≤ a ∧ a ≤ 40) → (0 ≤ b ∧ b ≤ 13) → nv f ((a + 2) * 112 + b * 8) = V a b
theorem CPc.sv {f g : Int → Int} {V : Int → Int → Int} {X Y : Int → Int → Prop} {i j A : Int} (h : CPc f V X) (hL : ∀ a, a % 8 = 0 → 0 ≤ a → a + 7 < 4816 → -7 ≤ f a ∧ f a ≤ 7) (hi : -1 ≤ i ∧ i ≤ 40) (hj : 0 ≤ j ∧ j ≤ 13) (hA : A = (i + 2) * 112 + j * 8) (hY : ∀ a b, Y a b → X a b ∨ (a = i ∧ b = j)) (hg : ∀ y, y < A ∨ A + 8 ≤ y → g y = f y) (hv : nv g A = V i j) : CPc g V Y := by
  refine ⟨?_, fun a b y a0 b0 => ?_⟩
  · rw [nv_8 (f := f) (hL _ (by omega) (by omega) (by omega)) (fun x x0 x1 => hg x (by omega))]; exact h.1
  · by_cases q : a = i ∧ b = j
    · rw [q.1, q.2, ← hA]; exact hv
    · rw [nv_8 (f := f) (hL _ (by omega) (by omega) (by omega)) (fun x x0 x1 => hg x (by omega))]
      rcases hY a b y with z | z
      · exact h.2 a b z a0 b0
      · exact absurd z q
theorem CPc.to {f : Int → Int} {V U : Int → Int → Int} {X Y : Int → Int → Prop} (h : CPc f V X) (hY : ∀ a b, Y a b → X a b ∧ V a b = U a b) : CPc f U Y := ⟨h.1, fun a b y a0 b0 => by rw [← (hY a b y).2]; exact h.2 a b (hY a b y).1 a0 b0⟩
def pRs (k : Nat) : Bool := rgB 135 139 k
def pSt (k : Nat) : Bool := rgB 135 139 k
def pDc (k : Nat) : Bool := rgB 136 137 k
def pAh (k : Nat) : Bool := rgB 135 137 k || Nat.beq k 139
theorem pRs_X : ∀ k, pRs k = true → pX k = true := fun k h => by have := rgB_t h; simp [pX, rgB_i (a := 135) (b := 140) (k := k) ⟨by omega, by omega⟩]
theorem pSt_X : ∀ k, pSt k = true → pX k = true := fun k h => by have := rgB_t h; simp [pX, rgB_i (a := 135) (b := 140) (k := k) ⟨by omega, by omega⟩]
theorem pDc_s : ∀ k, pDc k = true → pSt k = true := fun k h => by have := rgB_t h; exact rgB_i (by omega)
theorem pDc_N : ∀ k, pDc k = true → pN k = true := fun k h => by have : rgB 136 137 k = true := h; simp [pN, this]
theorem pDc_h : ∀ k, pDc k = true → pAh k = true := fun k h => by have := rgB_t h; simp [pAh, rgB_i (a := 135) (b := 137) (k := k) ⟨by omega, by omega⟩]
theorem pAh_s : ∀ k, pAh k = true → pSt k = true := fun k h => by
  rw [pAh, Bool.or_eq_true] at h
  rcases h with h | h
  · have := rgB_t h; exact rgB_i (by omega)
  · rw [Nat.eq_of_beq_eq_true h]; rfl
theorem pAh_X : ∀ k, pAh k = true → pX k = true := fun k h => pSt_X k (pAh_s k h)
theorem dic_pDc {o : Nat} (m : dc o) : pDc o = true := by rcases m with rfl | rfl <;> rfl
theorem dic_pRs {o : Nat} (m : dc o) : pRs o = true := by rcases m with rfl | rfl <;> rfl
theorem mo_pSt {o : Nat} (m : mdl o) : pSt o = false ∧ pSt (o + 1) = false ∧ pSt (o + 2) = false := by
  have h : o ≠ 134 ∧ o ≠ 133 ∧ (o < 135 ∨ 139 < o) := by
    obtain ⟨m1, m2, m3, m4, m5, m6⟩ := m
    refine ⟨(fun e => by rw [e] at m1; cases m1), (fun e => by rw [e] at m1; cases m1), ?_⟩
    rcases (by omega : o < 135 ∨ 139 < o ∨ o = 135 ∨ o = 136 ∨ o = 137 ∨ o = 138 ∨ o = 139) with e | e | e | e | e | e | e
    · exact .inl e
    · exact .inr e
    all_goals (rw [e] at m1; cases m1)
  have f : ∀ k, (k < 135 ∨ 139 < k) → pSt k = false := fun k hk => by
    cases e : pSt k
    · rfl
    · have := rgB_t e; omega
  exact ⟨f _ h.2.2, f _ (by omega), f _ (by omega)⟩
theorem mo_pDc {o : Nat} (m : mdl o) : pDc o = false ∧ pDc (o + 1) = false ∧ pDc (o + 2) = false := by
  have h := mo_pSt m
  have f : ∀ k, pSt k = false → pDc k = false := fun k hk => by
    cases e : pDc k
    · rfl
    · rw [pDc_s k e] at hk; cases hk
  exact ⟨f _ h.1, f _ h.2.1, f _ h.2.2⟩
set_option maxRecDepth 100000 in
set_option maxHeartbeats 4000000 in
theorem v_X2_addRow (l : Launch) (G : sG) (S : sS) {oc od : Nat} {n hw : Int} {d : dT} (hI : cX G S 0 0 0) (hdq : dcs G S oc od) (hDR : Hd (DRc S oc n hw d)) (hr : S.1 135 14 ≤ 39) : Met l yX2_addRow (.code yX2_addRow cX2_addRow 1 none :: tb) (rmk 1 0 0) (sPc G 294 S [.ref (G.2.2.1 + 135)]) (sQv G 294 (fun u => cX G u 0 0 0 ∧ Fr S u pAr ∧ (Hd (∀ t, (∀ j, 0 ≤ j → j ≤ d.2.2.2.2.2 → nv (S.2.1 oc) ((d.2.2.2.2.1 + 3) * 112 + j * 8) = t j) → dcs G u oc od ∧ DRc u oc n hw (adR n d t)) ∧ u.1 135 19 = S.1 135 19))) 0 0 (sF G) := by
  refine sEnter (by decide) (Nat.le_of_ble_eq_true rfl) ?_
  intro p e s m args below meth c Cx hr hlk hnm hW ls hl
  have Cx : sC G p m c cX2_addRow 1 s args RX2 := Cx
  obtain ⟨hx, hb, hml, hown, hts⟩ := id Cx.1
  have hL : sL G [] := sL_nil
  have hl : lv_has ls 1 [(0, .ref (G.2.2.1 + 135))] := hl
  have hW0 := hW
  obtain ⟨hoc, hod, hcd, hec, hed⟩ := id hdq
  have hd13 := hDR.2.2.2.2.1; have hd14 := hDR.2.2.2.2.2.1; have hd15 := hDR.2.2.2.2.2.2.1; have hd16 := hDR.2.2.2.2.2.2.2; have hm40 : 0 ≤ S.1 135 14 ∧ S.1 135 14 ≤ 40 := hI.fi 135 14 2 (by decide) rfl; have hp13 : 0 ≤ S.1 135 15 ∧ S.1 135 15 ≤ 13 := hI.fi 135 15 2 (by decide) rfl
  refine lv_aload_n hx hb dX2_addRow_0 rfl (lv_at hl 0 rfl) ?_
  refine lv_dup hx hb dX2_addRow_1 rfl ?_
  have q_1 : 0 ≤ S.1 135 14 ∧ S.1 135 14 ≤ 40 := hI.fi 135 14 2 (by decide) rfl
  refine g_X2_66 Cx hW (k := 135) (by decide) rfl (v := S.1 135 14) rfl dX2_addRow_2 ?_
  refine lv_iconst (v := iv 1) hx hb dX2_addRow_5 (by decide) ?_
  refine r_iadd hx hb dX2_addRow_6 ?_
  refine p_X2_66 Cx hW hL (k := 135) (by decide) rfl dX2_addRow_7 (fun H locs hW hL => ?_)
  have F_2 : Fr S (uF S 135 14 ((S.1 135 14) + 1)) pAr := (Fr.rf : Fr S S pAr).F rfl
  have i_3 : cX G (uF S 135 14 ((S.1 135 14) + 1)) 0 0 0 := hI.F rfl rfl (show 0 ≤ (S.1 135 14) + 1 ∧ (S.1 135 14) + 1 ≤ 40 from ⟨by omega, by omega⟩)
  refine lv_aload_n hx hb dX2_addRow_10 rfl (lv_at hl 0 rfl) ?_
  refine g_X2_20 Cx hW (k := 135) (by decide) rfl (v := .ref (G.2.2.1 + 138)) (rf_135_2 i_3) dX2_addRow_11 ?_
  refine lv_aload_n hx hb dX2_addRow_14 rfl (lv_at hl 0 rfl) ?_
  refine g_X2_66 Cx hW (k := 135) (by decide) rfl (v := (S.1 135 14) + 1) uF_on dX2_addRow_15 ?_
  refine lv_aload_n hx hb dX2_addRow_18 rfl (lv_at hl 0 rfl) ?_
  have q_4 : 0 ≤ S.1 135 13 ∧ S.1 135 13 ≤ 12 := hI.fi 135 13 2 (by decide) rfl
  refine g_X2_62 Cx hW (k := 135) (by decide) rfl (v := S.1 135 13) (uF_ne (fun h => absurd h.2 (by decide))) dX2_addRow_19 ?_
  refine lv_aload_n hx hb dX2_addRow_22 rfl (lv_at hl 0 rfl) ?_
  refine g_X2_66 Cx hW (k := 135) (by decide) rfl (v := (S.1 135 14) + 1) uF_on dX2_addRow_23 ?_
  refine r_iadd hx hb dX2_addRow_26 ?_
  refine rIast Cx hW hL (k := 138) (by decide) rfl (by decide) (by omega) (by omega) dX2_addRow_27 (fun H locs hW hL => ?_)
  have F_5 : Fr S (uA (uF S 135 14 ((S.1 135 14) + 1)) 138 ((S.1 135 14) + 1) ((S.1 135 13) + ((S.1 135 14) + 1))) pAr := F_2.A rfl
  have i_6 : cX G (uA (uF S 135 14 ((S.1 135 14) + 1)) 138 ((S.1 135 14) + 1) ((S.1 135 13) + ((S.1 135 14) + 1))) 0 0 0 := i_3.A (by decide) (by decide) (by decide) (show (-2147483648) ≤ (S.1 135 13) + ((S.1 135 14) + 1) ∧ (S.1 135 13) + ((S.1 135 14) + 1) ≤ 2147483647 from ⟨by omega, by omega⟩)
  have q_7 : 0 ≤ S.1 135 19 ∧ S.1 135 19 ≤ 102220 := hI.fi 135 19 2 (by decide) rfl
  have lk_8 : (uA (uF S 135 14 ((S.1 135 14) + 1)) 138 ((S.1 135 14) + 1) ((S.1 135 13) + ((S.1 135 14) + 1))).1 135 19 = S.1 135 19 := (uA_f).trans (uF_ne (fun h => absurd h.2 (by decide)))
  exact sVret Cx hr hlk hW hL ⟨i_6, F_5, ⟨(fun t ht => ⟨⟨hoc, hod, (neD hcd), (((uA_r).trans (uF_r)).trans hec), (((uA_r).trans (uF_r)).trans hed)⟩, DRc.ad hDR (by omega) ((uA_f).trans (uF_ne (fun h => absurd h.2 (by decide)))) (((uA_f).trans (uF_on) : (uA (uF S 135 14 ((S.1 135 14) + 1)) 138 ((S.1 135 14) + 1) ((S.1 135 13) + ((S.1 135 14) + 1))).1 135 14 = _).trans (by omega)) ((uA_f).trans (uF_ne (fun h => absurd h.2 (by decide)))) ((uA_f).trans (uF_ne (fun h => absurd h.2 (by decide)))) (funext fun x => (uA_ne (fun h => absurd h.1 (ac_ne (dic_c hoc) (rfl : acode 138 = 0) (by decide)))).trans (uF_a)) (fun i q => by rw [uA_ne (fun z => q (by have := z.2; omega))]; exact uF_a) (by rw [uA_get, if_pos ⟨rfl, by omega⟩]; omega) (funext fun x => (uA_ne (fun h => absurd h.1 (by decide))).trans (uF_a)) ht⟩), ((uA_f).trans (uF_ne (fun h => absurd h.2 (by decide))))⟩⟩ dX2_addRow_28

set_option maxRecDepth 100000 in
set_option maxHeartbeats 4000000 in
theorem v_X2_addCut (l : Launch) (G : sG) (S : sS) {oc od : Nat} {n hw : Int} {d : dT} {rr : Int} (hI : cX G S 0 0 0) (hdq : dcs G S oc od) (hDR : Hd (DRc S oc n hw d)) (hrr : 1 ≤ rr ∧ rr ≤ d.2.2.2.2.1) (hDp : 0 < d.1) : Met l yX2_addCut (.code yX2_addCut cX2_addCut 3 none :: tb) (rmk 6 0 0) (sPc G 294 S [.ref (G.2.2.1 + 135), .int (iv rr)]) (sQv G 294 (fun u => cX G u 0 0 0 ∧ Fr S u pCx ∧ (Hd (d.2.2.2.2.1 < 40 → dcs G u oc od ∧ DRc u oc n hw (adR n d (cuR d rr))) ∧ u.1 135 19 = S.1 135 19))) 0 0 (sF G) := by
  refine sEnter (by decide) (Nat.le_of_ble_eq_true rfl) ?_
  intro p e s m args below meth c Cx hr hlk hnm hW ls hl
  have Cx : sC G p m c cX2_addCut 3 s args RX2 := Cx
  obtain ⟨hx, hb, hml, hown, hts⟩ := id Cx.1
  have hL : sL G [] := sL_nil
  have hl : lv_has ls 3 [(0, .ref (G.2.2.1 + 135)), (1, .int (iv rr))] := hl
  have hW0 := hW
  obtain ⟨hoc, hod, hcd, hec, hed⟩ := id hdq
  have hd13 := hDR.2.2.2.2.1; have hd14 := hDR.2.2.2.2.2.1; have hd15 := hDR.2.2.2.2.2.2.1; have hd16 := hDR.2.2.2.2.2.2.2; have hm40 : 0 ≤ S.1 135 14 ∧ S.1 135 14 ≤ 40 := hI.fi 135 14 2 (by decide) rfl; have hp13 : 0 ≤ S.1 135 15 ∧ S.1 135 15 ≤ 13 := hI.fi 135 15 2 (by decide) rfl
  refine lv_aload_n hx hb dX2_addCut_0 rfl (lv_at hl 0 rfl) ?_
  have q_1 : 0 ≤ S.1 135 14 ∧ S.1 135 14 ≤ 40 := hI.fi 135 14 2 (by decide) rfl
  refine g_X2_66 Cx hW (k := 135) (by decide) rfl (v := S.1 135 14) rfl dX2_addCut_1 ?_
  refine lv_bipush (v := iv 40) hx hb dX2_addCut_4 (by decide) ?_
  refine r_icmp_lt (tgt := 10) hx hb ⟨(by omega), (by omega)⟩ ⟨(by omega), (by omega)⟩ dX2_addCut_6 (by decide) (fun c_2 => ?_) (fun c_2 => ?_)
  · refine lv_iconst (v := iv 0) hx hb dX2_addCut_10 (by decide) ?_
    refine lv_istore_n (lv' := [(2, .int (iv 0)), (0, .ref (G.2.2.1 + 135)), (1, .int (iv rr))]) hx hb dX2_addCut_11 rfl hl (by decide) rfl (fun ls hl => ?_)
    have loop_12 : ∀ (fuel : Nat) (S12 : sS) (j : Int) (H : Heap) (locs : List Loc) (ls : Array Slot), (14 - j).toNat < fuel → (cX G S12 0 0 0) → (Fr S S12 pCx) → (Fr S S12 pCt) → (0 ≤ j ∧ j ≤ d.2.2.2.2.2 + 1) → (Hd (DRc S12 oc n hw d)) → (Hd (∀ b, 0 ≤ b → b < j → nv (S12.2.1 oc) ((d.2.2.2.2.1 + 3) * 112 + b * 8) = cuR d rr b)) → sW G 294 S12 H → sL G locs → lv_has ls 3 [(2, .int (iv j)), (0, .ref (G.2.2.1 + 135)), (1, .int (iv rr))] → W p l e (rmk 6 0 0) s m args below meth c H locs 0 0 (MQ below (sQv G 294 (fun u => cX G u 0 0 0 ∧ Fr S u pCx ∧ (Hd (d.2.2.2.2.1 < 40 → dcs G u oc od ∧ DRc u oc n hw (adR n d (cuR d rr))) ∧ u.1 135 19 = S.1 135 19))) args s 0 0 (sF G)) (F0 m 12 ls []) := by
      intro fuel
      induction fuel with
      | zero => intro S12 j H locs ls hmeas hI12 hFm12 hL12_ hj hDl hnr hW hL hl; exact absurd hmeas (Nat.not_lt_zero _)
      | succ fuel ih_12 =>
        intro S12 j H locs ls hmeas hI12 hFm12 hL12_ hj hDl hnr hW hL hl
        have hDl14 := hDl.2.2.2.2.2.1; have hDl15 := hDl.2.2.2.2.2.2.1; have hDl13 := hDl.2.2.2.2.1
        refine lv_iload_n hx hb dX2_addCut_12 rfl (lv_at hl 0 rfl) ?_
        refine lv_aload_n hx hb dX2_addCut_13 rfl (lv_at hl 1 rfl) ?_
        have q_3 : 0 ≤ S.1 135 15 ∧ S.1 135 15 ≤ 13 := hI.fi 135 15 2 (by decide) rfl
        refine g_X2_67 Cx hW (k := 135) (by decide) rfl (v := S.1 135 15) ((hL12_ 135 rfl).1 15) dX2_addCut_14 ?_
        refine r_icmp_gt (tgt := 78) hx hb ⟨(by omega), (by omega)⟩ ⟨(by omega), (by omega)⟩ dX2_addCut_17 (by decide) (fun c_4 => ?_) (fun c_4 => ?_)
        · refine lv_aload_n hx hb dX2_addCut_78 rfl (lv_at hl 1 rfl) ?_
          have lk_5 : S12.1 135 14 = S.1 135 14 := (hL12_ 135 rfl).1 14
          have q_6 : 0 ≤ S.1 135 19 ∧ S.1 135 19 ≤ 102220 := hI.fi 135 19 2 (by decide) rfl
          have lk_7 : S12.1 135 19 = S.1 135 19 := (hL12_ 135 rfl).1 19
          refine sBv (sV (As := []) (rest := []) (k := 135) Cx (v_X2_addRow l G S12 (oc := oc) (od := od) (n := n) (hw := hw) (d := d) hI12 ⟨hoc, hod, (neD hcd), (((hL12_ 135 rfl).2.2.2 0).trans hec), (((hL12_ 135 rfl).2.2.2 1).trans hed)⟩ hDl (by omega)) (c_X2_206 Cx rfl rfl (rmk_ok (by omega) (by decide))) hW (by decide) rfl rfl rfl hl.1 rfl (Nat.le_of_ble_eq_true rfl) dX2_addCut_79 ⟨Nat.le_of_ble_eq_true rfl, Nat.le_of_ble_eq_true rfl⟩) hL (fun u_8 H locs k_9 hW hL => ?_)
          obtain ⟨iu_8, fu_8, xu_8⟩ := k_9
          have F_10 := hFm12.trans (fu_8.to pAr_x)
          have q_11 : 0 ≤ u_8.1 135 19 ∧ u_8.1 135 19 ≤ 102220 := iu_8.fi 135 19 2 (by decide) rfl
          exact sVret Cx hr hlk hW hL ⟨iu_8, F_10, ⟨(fun _ => xu_8.1 (cuR d rr) (fun b b0 b1 => (hnr b b0 (by omega)))), by omega⟩⟩ dX2_addCut_82
        · refine lv_aload_n hx hb dX2_addCut_20 rfl (lv_at hl 1 rfl) ?_
          refine g_X2_41 Cx hW (k := 135) (by decide) rfl (v := .ref (G.2.2.1 + 147)) (rf_135_8 hI12) dX2_addCut_21 ?_
          refine lv_aload_n hx hb dX2_addCut_24 rfl (lv_at hl 1 rfl) ?_
          refine g_X2_13 Cx hW (k := 135) (by decide) rfl (v := .ref (G.2.2.1 + oc)) (((hL12_ 135 rfl).2.2.2 0).trans hec) dX2_addCut_25 ?_
          refine lv_iload_n hx hb dX2_addCut_28 rfl (lv_at hl 2 rfl) ?_
          refine lv_iload_n hx hb dX2_addCut_29 rfl (lv_at hl 0 rfl) ?_
          refine sBi (sSt (As := [.int (iv rr), .int (iv j)]) (rest := [.ref (G.2.2.1 + oc), .ref (G.2.2.1 + 147)]) Cx (s_X2_at l G S12 (i := rr) (j := j) (by omega) (by omega)) (c_X2_77 Cx rfl rfl (rmk_ok (by omega) (by decide))) hW rfl hl.1 rfl (Nat.le_of_ble_eq_true rfl) dX2_addCut_30 ⟨Nat.le_of_ble_eq_true rfl, Nat.le_of_ble_eq_true rfl⟩) hL (fun r_14 u_12 H locs k_13 hW hL => ?_)
          obtain ⟨eu_12, xu_12⟩ := k_13
          rw [eu_12] at hW
          refine sBv (sV (As := [.ref (G.2.2.1 + oc), .int (iv r_14)]) (rest := []) (k := 147) Cx (b_X0_load l G S12 (o := 147) (k := oc) (a := r_14) (N := 4816) hI12 rfl (dic_a hoc) (by omega)) (c_X2_106 Cx rfl rfl (rmk_ok (by omega) (by decide))) hW (by decide) rfl rfl rfl hl.1 rfl (Nat.le_of_ble_eq_true rfl) dX2_addCut_33 ⟨Nat.le_of_ble_eq_true rfl, Nat.le_of_ble_eq_true rfl⟩) hL (fun u_15 H locs k_16 hW hL => ?_)
          obtain ⟨iu_15, fu_15, xu_15⟩ := k_16
          have F_17 := hFm12.trans (fu_15.to (pB_sub rfl rfl))
          have F_18 := hL12_.trans (fu_15.to (pB_sub rfl rfl))
          have yu_15 : u_15.1 147 1 ≤ 6 := by have e := xu_15.1; rw [dic_L hoc] at e; exact e
          have bv_19 : bv u_15 147 = nv (S12.2.1 oc) r_14 := xu_15.2.2.2.2.2.2.2.1
          refine lv_aload_n hx hb dX2_addCut_36 rfl (lv_at hl 1 rfl) ?_
          refine lv_aload_n hx hb dX2_addCut_37 rfl (lv_at hl 1 rfl) ?_
          refine g_X2_41 Cx hW (k := 135) (by decide) rfl (v := .ref (G.2.2.1 + 147)) (rf_135_8 iu_15) dX2_addCut_38 ?_
          have q_20 : 0 ≤ u_15.1 147 1 ∧ u_15.1 147 1 ≤ 32 := iu_15.fi 147 1 0 (by decide) rfl
          refine sBv (sV (As := [.ref (G.2.2.1 + 147)]) (rest := []) (k := 135) Cx (v_X2_remainder_147 l G u_15 (oc := oc) (od := od) (n := n) (hw := hw) (d := d) iu_15 ⟨hoc, hod, (neD hcd), ((((fu_15 135 rfl).2.2.2 0).trans ((hL12_ 135 rfl).2.2.2 0)).trans hec), ((((fu_15 135 rfl).2.2.2 1).trans ((hL12_ 135 rfl).2.2.2 1)).trans hed)⟩ (DRc.of hDl (show u_15.1 135 13 = S12.1 135 13 from (fu_15 135 rfl).1 13) (show u_15.1 135 14 = S12.1 135 14 from (fu_15 135 rfl).1 14) (show u_15.1 135 15 = S12.1 135 15 from (fu_15 135 rfl).1 15) (show u_15.1 135 16 = S12.1 135 16 from (fu_15 135 rfl).1 16) (show u_15.2.1 oc = S12.2.1 oc from funext fun x => (fu_15 oc (pB_no (tau_ne (dic_t hoc) (rfl : tau 147 = .inl 0) (fun h => by cases h)) (ac_ne (dic_c hoc) (rfl : acode 148 = 1) (by decide)))).2.1 x) (show u_15.2.1 138 = S12.2.1 138 from funext fun x => (fu_15 138 rfl).2.1 x) (show u_15.2.1 139 = S12.2.1 139 from funext fun x => (fu_15 139 rfl).2.1 x)) (by omega) (by omega) (show Hd (bs u_15 147) from xu_15.2.2.2.2.2.2.2.2)) (c_X2_203 Cx rfl rfl (rmk_ok (by omega) (by decide))) hW (by decide) rfl rfl rfl hl.1 rfl (Nat.le_of_ble_eq_true rfl) dX2_addCut_41 ⟨Nat.le_of_ble_eq_true rfl, Nat.le_of_ble_eq_true rfl⟩) hL (fun u_21 H locs k_22 hW hL => ?_)
          obtain ⟨iu_21, fu_21, xu_21⟩ := k_22
          have F_23 := F_17.trans (fu_21.to (pD4_sub rfl rfl rfl rfl rfl rfl rfl rfl))
          have F_24 := F_18.trans (fu_21.to (pD4_sub rfl rfl rfl rfl rfl rfl rfl rfl))
          have bv_25 : bv u_21 147 = (nv (S12.2.1 oc) r_14) % d.1 := (by have e : bv u_21 147 = _ := xu_21.2.2.2.2.2.1; rw [(show bv u_15 147 = nv (S12.2.1 oc) r_14 from bv_19)] at e; exact e)
          have bv_26 : bv u_21 143 = d.1 := xu_21.2.2.2.2.2.2.2.1
          refine lv_aload_n hx hb dX2_addCut_44 rfl (lv_at hl 1 rfl) ?_
          refine g_X2_41 Cx hW (k := 135) (by decide) rfl (v := .ref (G.2.2.1 + 147)) (rf_135_8 iu_21) dX2_addCut_45 ?_
          have q_27 : 0 ≤ u_21.1 147 1 ∧ u_21.1 147 1 ≤ 32 := iu_21.fi 147 1 0 (by decide) rfl
          have q_28 : (-1) ≤ u_21.1 147 2 ∧ u_21.1 147 2 ≤ 1 := iu_21.fi 147 2 0 (by decide) rfl
          refine sBv (sV (As := []) (rest := []) (k := 147) Cx (s_X0_turn l G u_21 (o := 147) iu_21 rfl) (c_X2_134 Cx rfl rfl (rmk_ok (by omega) (by decide))) hW (by decide) rfl rfl rfl hl.1 rfl (Nat.le_of_ble_eq_true rfl) dX2_addCut_48 ⟨Nat.le_of_ble_eq_true rfl, Nat.le_of_ble_eq_true rfl⟩) hL (fun u_29 H locs k_30 hW hL => ?_)
          obtain ⟨iu_29, fu_29, xu_29⟩ := k_30
          have F_31 := F_23.trans (fu_29.to (pB_sub rfl rfl))
          have F_32 := F_24.trans (fu_29.to (pB_sub rfl rfl))
          have bv_33 : bv u_29 147 = -((nv (S12.2.1 oc) r_14) % d.1) := (tn_bv xu_29.1 xu_29.2.1 xu_29.2.2).trans (congrArg _ ((show bv u_21 147 = (nv (S12.2.1 oc) r_14) % d.1 from bv_25)))
          refine lv_aload_n hx hb dX2_addCut_51 rfl (lv_at hl 1 rfl) ?_
          refine g_X2_41 Cx hW (k := 135) (by decide) rfl (v := .ref (G.2.2.1 + 147)) (rf_135_8 iu_29) dX2_addCut_52 ?_
          refine lv_aload_n hx hb dX2_addCut_55 rfl (lv_at hl 1 rfl) ?_
          refine g_X2_13 Cx hW (k := 135) (by decide) rfl (v := .ref (G.2.2.1 + oc)) ((((fu_29 135 rfl).2.2.2 0).trans (((fu_21 135 rfl).2.2.2 0).trans (((fu_15 135 rfl).2.2.2 0).trans ((hL12_ 135 rfl).2.2.2 0)))).trans hec) dX2_addCut_56 ?_
          refine lv_aload_n hx hb dX2_addCut_59 rfl (lv_at hl 1 rfl) ?_
          refine g_X2_66 Cx hW (k := 135) (by decide) rfl (v := S.1 135 14) (((fu_29 135 rfl).1 14).trans (((fu_21 135 rfl).1 14).trans (((fu_15 135 rfl).1 14).trans ((hL12_ 135 rfl).1 14)))) dX2_addCut_60 ?_
          refine lv_iconst (v := iv 1) hx hb dX2_addCut_63 (by decide) ?_
          refine r_iadd hx hb dX2_addCut_64 ?_
          refine lv_iload_n hx hb dX2_addCut_65 rfl (lv_at hl 0 rfl) ?_
          refine sBi (sSt (As := [.int (iv ((S.1 135 14) + 1)), .int (iv j)]) (rest := [.ref (G.2.2.1 + oc), .ref (G.2.2.1 + 147)]) Cx (s_X2_at l G u_29 (i := (S.1 135 14) + 1) (j := j) (by omega) (by omega)) (c_X2_77 Cx rfl rfl (rmk_ok (by omega) (by decide))) hW rfl hl.1 rfl (Nat.le_of_ble_eq_true rfl) dX2_addCut_66 ⟨Nat.le_of_ble_eq_true rfl, Nat.le_of_ble_eq_true rfl⟩) hL (fun r_36 u_34 H locs k_35 hW hL => ?_)
          obtain ⟨eu_34, xu_34⟩ := k_35
          rw [eu_34] at hW
          have q_37 : 0 ≤ u_29.1 147 1 ∧ u_29.1 147 1 ≤ 32 := iu_29.fi 147 1 0 (by decide) rfl
          have q_38 : (-1) ≤ u_29.1 147 2 ∧ u_29.1 147 2 ≤ 1 := iu_29.fi 147 2 0 (by decide) rfl
          refine sBv (sV (As := [.ref (G.2.2.1 + oc), .int (iv r_36)]) (rest := []) (k := 147) Cx (b_X0_save l G u_29 (o := 147) (k := oc) (a := r_36) (N := 4816) iu_29 rfl (dic_a hoc) (by omega) (dicSv hoc (by omega)) (fun _ q => by exfalso; omega)) (c_X2_154 Cx rfl rfl (rmk_ok (by omega) (by decide))) hW (by decide) rfl rfl rfl hl.1 rfl (Nat.le_of_ble_eq_true rfl) dX2_addCut_69 ⟨Nat.le_of_ble_eq_true rfl, Nat.le_of_ble_eq_true rfl⟩) hL (fun u_39 H locs k_40 hW hL => ?_)
          obtain ⟨iu_39, fu_39, xu_39⟩ := k_40
          have F_41 := F_31.trans (fu_39.to (p1_sub (pCt_x _ (dic_pCt hoc))))
          have F_42 := F_32.trans (fu_39.to (p1_sub (dic_pCt hoc)))
          refine lv_iinc (v := iv (j + 1)) (lv' := [(2, .int (iv (j + 1))), (0, .ref (G.2.2.1 + 135)), (1, .int (iv rr))]) hx hb dX2_addCut_72 hl (k := 0) rfl ((Int32.ofInt_add _ _).symm) (by decide) rfl (fun ls hl => ?_)
          refine lv_goto (tgt := 12) hx hb dX2_addCut_75 (by decide) ?_
          exact ih_12 u_39 (j + 1) _ _ _ (by omega) iu_39 F_41 F_42 (by omega) (DRc.sv (G := G) hDl hI12 hoc (by omega) (by omega) (by omega) (show u_39.1 135 13 = S12.1 135 13 from ((fu_39 135 (p1_no (tau_ne (rfl : tau 135 = .inl 2) (dic_t hoc) (fun h => by cases h)))).1 13).trans (((fu_29 135 rfl).1 13).trans (((fu_21 135 rfl).1 13).trans ((fu_15 135 rfl).1 13)))) (show u_39.1 135 14 = S12.1 135 14 from ((fu_39 135 (p1_no (tau_ne (rfl : tau 135 = .inl 2) (dic_t hoc) (fun h => by cases h)))).1 14).trans (((fu_29 135 rfl).1 14).trans (((fu_21 135 rfl).1 14).trans ((fu_15 135 rfl).1 14)))) (show u_39.1 135 15 = S12.1 135 15 from ((fu_39 135 (p1_no (tau_ne (rfl : tau 135 = .inl 2) (dic_t hoc) (fun h => by cases h)))).1 15).trans (((fu_29 135 rfl).1 15).trans (((fu_21 135 rfl).1 15).trans ((fu_15 135 rfl).1 15)))) (show u_39.1 135 16 = S12.1 135 16 from ((fu_39 135 (p1_no (tau_ne (rfl : tau 135 = .inl 2) (dic_t hoc) (fun h => by cases h)))).1 16).trans (((fu_29 135 rfl).1 16).trans (((fu_21 135 rfl).1 16).trans ((fu_15 135 rfl).1 16)))) (funext fun x => ((fu_39 138 (p1_no (ac_ne (rfl : acode 138 = 0) (dic_c hoc) (by decide)))).2.1 x).trans (((fu_29 138 rfl).2.1 x).trans (((fu_21 138 rfl).2.1 x).trans ((fu_15 138 rfl).2.1 x)))) (funext fun x => ((fu_39 139 (p1_no (ac_ne (rfl : acode 139 = 0) (dic_c hoc) (by decide)))).2.1 x).trans (((fu_29 139 rfl).2.1 x).trans (((fu_21 139 rfl).2.1 x).trans ((fu_15 139 rfl).2.1 x)))) (A := r_36) (by omega) (fun y q => (xu_39.2 y q).trans (congrFun (show u_29.2.1 oc = S12.2.1 oc from funext fun x => ((fu_29 oc (pB_no (tau_ne (dic_t hoc) (rfl : tau 147 = .inl 0) (fun h => by cases h)) (ac_ne (dic_c hoc) (rfl : acode 148 = 1) (by decide)))).2.1 x).trans (((fu_21 oc (dic_pD147 hoc)).2.1 x).trans ((fu_15 oc (pB_no (tau_ne (dic_t hoc) (rfl : tau 147 = .inl 0) (fun h => by cases h)) (ac_ne (dic_c hoc) (rfl : acode 148 = 1) (by decide)))).2.1 x))) y))) (fun b b0 b1 => by by_cases q : b = j; (rw [q, ← show r_36 = (d.2.2.2.2.1 + 3) * 112 + j * 8 by omega]; refine (xu_39.1 (show Hd (bs u_29 147) from (tn_bs xu_29.1 xu_29.2.1 (show Hd (bs u_21 147) from xu_21.2.2.2.2.2.2.1)))).trans (((show bv u_29 147 = -((nv (S12.2.1 oc) r_14) % d.1) from bv_33)).trans ?_); show -(_ % _) = -(_ % _); rw [(show nv (S12.2.1 oc) r_14 = d.2.1 rr j by rw [show r_14 = (rr + 2) * 112 + j * 8 by omega]; exact hDl.2.1 rr j (by omega) (by omega) (by omega) (by omega) (by omega))]); (rw [nv_8 (f := u_29.2.1 oc) (hd7 iu_29 hoc _ (by omega) (by omega) (by omega)) (fun y y0 y1 => xu_39.2 y (by omega)), (show u_29.2.1 oc = S12.2.1 oc from funext fun x => ((fu_29 oc (pB_no (tau_ne (dic_t hoc) (rfl : tau 147 = .inl 0) (fun h => by cases h)) (ac_ne (dic_c hoc) (rfl : acode 148 = 1) (by decide)))).2.1 x).trans (((fu_21 oc (dic_pD147 hoc)).2.1 x).trans ((fu_15 oc (pB_no (tau_ne (dic_t hoc) (rfl : tau 147 = .inl 0) (fun h => by cases h)) (ac_ne (dic_c hoc) (rfl : acode 148 = 1) (by decide)))).2.1 x)))]; exact hnr b b0 (by omega))) hW hL (lv_sub hl [0, 1, 2] rfl)
    exact loop_12 (_ + 1) S 0 _ _ _ (Nat.lt_succ_self _) hI (Fr.rf : Fr S S pCx) Fr.rf (by omega) hDR (fun b b0 b1 => absurd b1 (by omega)) hW hL (lv_sub hl [0, 1, 2] rfl)
  · have q_43 : 0 ≤ S.1 135 19 ∧ S.1 135 19 ≤ 102220 := hI.fi 135 19 2 (by decide) rfl
    exact sVret Cx hr hlk hW hL ⟨hI, (Fr.rf : Fr S S pCx), ⟨(fun q => by exfalso; omega), (rfl)⟩⟩ dX2_addCut_9

set_option maxRecDepth 100000 in
set_option maxHeartbeats 4000000 in
theorem v_X2_addLimit (l : Launch) (G : sG) (S : sS) {oc od : Nat} {n hw : Int} {d : dT} {rr ab : Int} (hI : cX G S 0 0 0) (hdq : dcs G S oc od) (hDR : Hd (DRc S oc n hw d)) (hrr : 1 ≤ rr ∧ rr ≤ d.2.2.2.2.1) (hDp : 0 < d.1) (hab : 0 ≤ ab ∧ ab ≤ 1) : Met l yX2_addLimit (.code yX2_addLimit cX2_addLimit 4 none :: tb) (rmk 6 0 0) (sPc G 294 S [.ref (G.2.2.1 + 135), .int (iv rr), .int (iv ab)]) (sQv G 294 (fun u => cX G u 0 0 0 ∧ Fr S u pCx ∧ (Hd (d.2.2.2.2.1 < 40 → dcs G u oc od ∧ DRc u oc n hw (adR n d (if ab = 0 then loR d rr else hiR d rr))) ∧ u.1 135 19 = S.1 135 19))) 0 0 (sF G) := by
  refine sEnter (by decide) (Nat.le_of_ble_eq_true rfl) ?_
  intro p e s m args below meth c Cx hr hlk hnm hW ls hl
  have Cx : sC G p m c cX2_addLimit 4 s args RX2 := Cx
  obtain ⟨hx, hb, hml, hown, hts⟩ := id Cx.1
  have hL : sL G [] := sL_nil
  have hl : lv_has ls 4 [(0, .ref (G.2.2.1 + 135)), (1, .int (iv rr)), (2, .int (iv ab))] := hl
  have hW0 := hW
  obtain ⟨hoc, hod, hcd, hec, hed⟩ := id hdq
  have hd13 := hDR.2.2.2.2.1; have hd14 := hDR.2.2.2.2.2.1; have hd15 := hDR.2.2.2.2.2.2.1; have hd16 := hDR.2.2.2.2.2.2.2; have hm40 : 0 ≤ S.1 135 14 ∧ S.1 135 14 ≤ 40 := hI.fi 135 14 2 (by decide) rfl; have hp13 : 0 ≤ S.1 135 15 ∧ S.1 135 15 ≤ 13 := hI.fi 135 15 2 (by decide) rfl
  refine lv_aload_n hx hb dX2_addLimit_0 rfl (lv_at hl 0 rfl) ?_
  have q_1 : 0 ≤ S.1 135 14 ∧ S.1 135 14 ≤ 40 := hI.fi 135 14 2 (by decide) rfl
  refine g_X2_66 Cx hW (k := 135) (by decide) rfl (v := S.1 135 14) rfl dX2_addLimit_1 ?_
  refine lv_bipush (v := iv 40) hx hb dX2_addLimit_4 (by decide) ?_
  refine r_icmp_lt (tgt := 10) hx hb ⟨(by omega), (by omega)⟩ ⟨(by omega), (by omega)⟩ dX2_addLimit_6 (by decide) (fun c_2 => ?_) (fun c_2 => ?_)
  · refine lv_aload_n hx hb dX2_addLimit_10 rfl (lv_at hl 0 rfl) ?_
    refine g_X2_41 Cx hW (k := 135) (by decide) rfl (v := .ref (G.2.2.1 + 147)) (rf_135_8 hI) dX2_addLimit_11 ?_
    refine lv_aload_n hx hb dX2_addLimit_14 rfl (lv_at hl 0 rfl) ?_
    refine g_X2_13 Cx hW (k := 135) (by decide) rfl (v := .ref (G.2.2.1 + oc)) hec dX2_addLimit_15 ?_
    refine lv_iload_n hx hb dX2_addLimit_18 rfl (lv_at hl 1 rfl) ?_
    refine lv_iconst (v := iv 0) hx hb dX2_addLimit_19 (by decide) ?_
    refine sBi (sSt (As := [.int (iv rr), .int (iv 0)]) (rest := [.ref (G.2.2.1 + oc), .ref (G.2.2.1 + 147)]) Cx (s_X2_at l G S (i := rr) (j := 0) (by omega) (by omega)) (c_X2_77 Cx rfl rfl (rmk_ok (by omega) (by decide))) hW rfl hl.1 rfl (Nat.le_of_ble_eq_true rfl) dX2_addLimit_20 ⟨Nat.le_of_ble_eq_true rfl, Nat.le_of_ble_eq_true rfl⟩) hL (fun r_5 u_3 H locs k_4 hW hL => ?_)
    obtain ⟨eu_3, xu_3⟩ := k_4
    rw [eu_3] at hW
    refine sBv (sV (As := [.ref (G.2.2.1 + oc), .int (iv r_5)]) (rest := []) (k := 147) Cx (b_X0_load l G S (o := 147) (k := oc) (a := r_5) (N := 4816) hI rfl (dic_a hoc) (by omega)) (c_X2_106 Cx rfl rfl (rmk_ok (by omega) (by decide))) hW (by decide) rfl rfl rfl hl.1 rfl (Nat.le_of_ble_eq_true rfl) dX2_addLimit_23 ⟨Nat.le_of_ble_eq_true rfl, Nat.le_of_ble_eq_true rfl⟩) hL (fun u_6 H locs k_7 hW hL => ?_)
    obtain ⟨iu_6, fu_6, xu_6⟩ := k_7
    have F_8 := (Fr.rf : Fr S S pCx).trans (fu_6.to (pB_sub rfl rfl))
    have yu_6 : u_6.1 147 1 ≤ 6 := by have e := xu_6.1; rw [dic_L hoc] at e; exact e
    have bv_9 : bv u_6 147 = nv (S.2.1 oc) r_5 := xu_6.2.2.2.2.2.2.2.1
    refine lv_aload_n hx hb dX2_addLimit_26 rfl (lv_at hl 0 rfl) ?_
    refine lv_aload_n hx hb dX2_addLimit_27 rfl (lv_at hl 0 rfl) ?_
    refine g_X2_41 Cx hW (k := 135) (by decide) rfl (v := .ref (G.2.2.1 + 147)) (rf_135_8 iu_6) dX2_addLimit_28 ?_
    have q_10 : 0 ≤ u_6.1 147 1 ∧ u_6.1 147 1 ≤ 32 := iu_6.fi 147 1 0 (by decide) rfl
    refine sBv (sV (As := [.ref (G.2.2.1 + 147)]) (rest := []) (k := 135) Cx (v_X2_remainder_147 l G u_6 (oc := oc) (od := od) (n := n) (hw := hw) (d := d) iu_6 ⟨hoc, hod, (neD hcd), (((fu_6 135 rfl).2.2.2 0).trans hec), (((fu_6 135 rfl).2.2.2 1).trans hed)⟩ (DRc.of hDR (show u_6.1 135 13 = S.1 135 13 from (fu_6 135 rfl).1 13) (show u_6.1 135 14 = S.1 135 14 from (fu_6 135 rfl).1 14) (show u_6.1 135 15 = S.1 135 15 from (fu_6 135 rfl).1 15) (show u_6.1 135 16 = S.1 135 16 from (fu_6 135 rfl).1 16) (show u_6.2.1 oc = S.2.1 oc from funext fun x => (fu_6 oc (pB_no (tau_ne (dic_t hoc) (rfl : tau 147 = .inl 0) (fun h => by cases h)) (ac_ne (dic_c hoc) (rfl : acode 148 = 1) (by decide)))).2.1 x) (show u_6.2.1 138 = S.2.1 138 from funext fun x => (fu_6 138 rfl).2.1 x) (show u_6.2.1 139 = S.2.1 139 from funext fun x => (fu_6 139 rfl).2.1 x)) (by omega) (by omega) (show Hd (bs u_6 147) from xu_6.2.2.2.2.2.2.2.2)) (c_X2_203 Cx rfl rfl (rmk_ok (by omega) (by decide))) hW (by decide) rfl rfl rfl hl.1 rfl (Nat.le_of_ble_eq_true rfl) dX2_addLimit_31 ⟨Nat.le_of_ble_eq_true rfl, Nat.le_of_ble_eq_true rfl⟩) hL (fun u_11 H locs k_12 hW hL => ?_)
    obtain ⟨iu_11, fu_11, xu_11⟩ := k_12
    have F_13 := F_8.trans (fu_11.to (pD4_sub rfl rfl rfl rfl rfl rfl rfl rfl))
    have bv_14 : bv u_11 147 = (nv (S.2.1 oc) r_5) % d.1 := (by have e : bv u_11 147 = _ := xu_11.2.2.2.2.2.1; rw [(show bv u_6 147 = nv (S.2.1 oc) r_5 from bv_9)] at e; exact e)
    have bv_15 : bv u_11 143 = d.1 := xu_11.2.2.2.2.2.2.2.1
    have join_60 : ∀ (S60 : sS)  (H : Heap) (locs : List Loc) (ls : Array Slot), (cX G S60 0 0 0) → (Fr S S60 pCx) → (Fr u_11 S60 pCt) → (S60.1 147 1 ≤ 6) → (Hd (bs S60 147)) → (bv S60 147 = (if ab = 0 then loR d rr else hiR d rr) 0) → (Hd (DRc S60 oc n hw d)) → sW G 294 S60 H → sL G locs → lv_has ls 4 [(0, .ref (G.2.2.1 + 135)), (1, .int (iv rr)), (2, .int (iv ab))] → W p l e (rmk 6 0 0) s m args below meth c H locs 0 0 (MQ below (sQv G 294 (fun u => cX G u 0 0 0 ∧ Fr S u pCx ∧ (Hd (d.2.2.2.2.1 < 40 → dcs G u oc od ∧ DRc u oc n hw (adR n d (if ab = 0 then loR d rr else hiR d rr))) ∧ u.1 135 19 = S.1 135 19))) args s 0 0 (sF G)) (F0 m 60 ls []) := by
      intro S60  H locs ls hI60 hFm60 hL60_ hy6 hb6 hv6 hD6 hW hL hl
      have hD614 := hD6.2.2.2.2.2.1; have hD615 := hD6.2.2.2.2.2.2.1; have hD613 := hD6.2.2.2.2.1
      refine lv_aload_n hx hb dX2_addLimit_60 rfl (lv_at hl 0 rfl) ?_
      refine g_X2_41 Cx hW (k := 135) (by decide) rfl (v := .ref (G.2.2.1 + 147)) (rf_135_8 hI60) dX2_addLimit_61 ?_
      refine lv_aload_n hx hb dX2_addLimit_64 rfl (lv_at hl 0 rfl) ?_
      refine g_X2_13 Cx hW (k := 135) (by decide) rfl (v := .ref (G.2.2.1 + oc)) ((((hL60_ 135 rfl).2.2.2 0).trans (((fu_11 135 rfl).2.2.2 0).trans ((fu_6 135 rfl).2.2.2 0))).trans hec) dX2_addLimit_65 ?_
      refine lv_aload_n hx hb dX2_addLimit_68 rfl (lv_at hl 0 rfl) ?_
      refine g_X2_66 Cx hW (k := 135) (by decide) rfl (v := S.1 135 14) (((hL60_ 135 rfl).1 14).trans (((fu_11 135 rfl).1 14).trans ((fu_6 135 rfl).1 14))) dX2_addLimit_69 ?_
      refine lv_iconst (v := iv 1) hx hb dX2_addLimit_72 (by decide) ?_
      refine r_iadd hx hb dX2_addLimit_73 ?_
      refine lv_iconst (v := iv 0) hx hb dX2_addLimit_74 (by decide) ?_
      refine sBi (sSt (As := [.int (iv ((S.1 135 14) + 1)), .int (iv 0)]) (rest := [.ref (G.2.2.1 + oc), .ref (G.2.2.1 + 147)]) Cx (s_X2_at l G S60 (i := (S.1 135 14) + 1) (j := 0) (by omega) (by omega)) (c_X2_77 Cx rfl rfl (rmk_ok (by omega) (by decide))) hW rfl hl.1 rfl (Nat.le_of_ble_eq_true rfl) dX2_addLimit_75 ⟨Nat.le_of_ble_eq_true rfl, Nat.le_of_ble_eq_true rfl⟩) hL (fun r_18 u_16 H locs k_17 hW hL => ?_)
      obtain ⟨eu_16, xu_16⟩ := k_17
      rw [eu_16] at hW
      have q_19 : 0 ≤ S60.1 147 1 ∧ S60.1 147 1 ≤ 32 := hI60.fi 147 1 0 (by decide) rfl
      have q_20 : (-1) ≤ S60.1 147 2 ∧ S60.1 147 2 ≤ 1 := hI60.fi 147 2 0 (by decide) rfl
      refine sBv (sV (As := [.ref (G.2.2.1 + oc), .int (iv r_18)]) (rest := []) (k := 147) Cx (b_X0_save l G S60 (o := 147) (k := oc) (a := r_18) (N := 4816) hI60 rfl (dic_a hoc) (by omega) (dicSv hoc (by omega)) (fun _ q => by exfalso; omega)) (c_X2_154 Cx rfl rfl (rmk_ok (by omega) (by decide))) hW (by decide) rfl rfl rfl hl.1 rfl (Nat.le_of_ble_eq_true rfl) dX2_addLimit_78 ⟨Nat.le_of_ble_eq_true rfl, Nat.le_of_ble_eq_true rfl⟩) hL (fun u_21 H locs k_22 hW hL => ?_)
      obtain ⟨iu_21, fu_21, xu_21⟩ := k_22
      have F_23 := hFm60.trans (fu_21.to (p1_sub (pCt_x _ (dic_pCt hoc))))
      have F_24 := hL60_.trans (fu_21.to (p1_sub (dic_pCt hoc)))
      refine lv_iconst (v := iv 1) hx hb dX2_addLimit_81 (by decide) ?_
      refine lv_istore_n (lv' := [(3, .int (iv 1)), (0, .ref (G.2.2.1 + 135)), (1, .int (iv rr)), (2, .int (iv ab))]) hx hb dX2_addLimit_82 rfl hl (by decide) rfl (fun ls hl => ?_)
      have loop_83 : ∀ (fuel : Nat) (S83 : sS) (j : Int) (H : Heap) (locs : List Loc) (ls : Array Slot), (14 - j).toNat < fuel → (cX G S83 0 0 0) → (Fr S S83 pCx) → (Fr u_11 S83 pCt) → (Fr u_21 S83 pCt) → (1 ≤ j ∧ j ≤ d.2.2.2.2.2 + 1) → (Hd (DRc S83 oc n hw d)) → (Hd (∀ b, 0 ≤ b → b < j → nv (S83.2.1 oc) ((d.2.2.2.2.1 + 3) * 112 + b * 8) = (if ab = 0 then loR d rr else hiR d rr) b)) → sW G 294 S83 H → sL G locs → lv_has ls 4 [(3, .int (iv j)), (0, .ref (G.2.2.1 + 135)), (1, .int (iv rr)), (2, .int (iv ab))] → W p l e (rmk 6 0 0) s m args below meth c H locs 0 0 (MQ below (sQv G 294 (fun u => cX G u 0 0 0 ∧ Fr S u pCx ∧ (Hd (d.2.2.2.2.1 < 40 → dcs G u oc od ∧ DRc u oc n hw (adR n d (if ab = 0 then loR d rr else hiR d rr))) ∧ u.1 135 19 = S.1 135 19))) args s 0 0 (sF G)) (F0 m 83 ls []) := by
        intro fuel
        induction fuel with
        | zero => intro S83 j H locs ls hmeas hI83 hFm83 hFL6083 hL83_ hj hDl hnr hW hL hl; exact absurd hmeas (Nat.not_lt_zero _)
        | succ fuel ih_83 =>
          intro S83 j H locs ls hmeas hI83 hFm83 hFL6083 hL83_ hj hDl hnr hW hL hl
          have hDl14 := hDl.2.2.2.2.2.1; have hDl15 := hDl.2.2.2.2.2.2.1; have hDl13 := hDl.2.2.2.2.1
          refine lv_iload_n hx hb dX2_addLimit_83 rfl (lv_at hl 0 rfl) ?_
          refine lv_aload_n hx hb dX2_addLimit_84 rfl (lv_at hl 1 rfl) ?_
          have q_25 : 0 ≤ S.1 135 15 ∧ S.1 135 15 ≤ 13 := hI.fi 135 15 2 (by decide) rfl
          refine g_X2_67 Cx hW (k := 135) (by decide) rfl (v := S.1 135 15) (((hL83_ 135 rfl).1 15).trans (((fu_21 135 (p1_no (tau_ne (rfl : tau 135 = .inl 2) (dic_t hoc) (fun h => by cases h)))).1 15).trans (((hL60_ 135 rfl).1 15).trans (((fu_11 135 rfl).1 15).trans ((fu_6 135 rfl).1 15))))) dX2_addLimit_85 ?_
          refine r_icmp_gt (tgt := 145) hx hb ⟨(by omega), (by omega)⟩ ⟨(by omega), (by omega)⟩ dX2_addLimit_88 (by decide) (fun c_26 => ?_) (fun c_26 => ?_)
          · refine lv_aload_n hx hb dX2_addLimit_145 rfl (lv_at hl 1 rfl) ?_
            have lk_27 : S83.1 135 14 = S.1 135 14 := ((hL83_ 135 rfl).1 14).trans (((fu_21 135 (p1_no (tau_ne (rfl : tau 135 = .inl 2) (dic_t hoc) (fun h => by cases h)))).1 14).trans (((hL60_ 135 rfl).1 14).trans (((fu_11 135 rfl).1 14).trans ((fu_6 135 rfl).1 14))))
            have q_28 : 0 ≤ S.1 135 19 ∧ S.1 135 19 ≤ 102220 := hI.fi 135 19 2 (by decide) rfl
            have lk_29 : S83.1 135 19 = S.1 135 19 := ((hL83_ 135 rfl).1 19).trans (((fu_21 135 (p1_no (tau_ne (rfl : tau 135 = .inl 2) (dic_t hoc) (fun h => by cases h)))).1 19).trans (((hL60_ 135 rfl).1 19).trans (((fu_11 135 rfl).1 19).trans ((fu_6 135 rfl).1 19))))
            refine sBv (sV (As := []) (rest := []) (k := 135) Cx (v_X2_addRow l G S83 (oc := oc) (od := od) (n := n) (hw := hw) (d := d) hI83 ⟨hoc, hod, (neD hcd), ((((hL83_ 135 rfl).2.2.2 0).trans (((fu_21 135 (p1_no (tau_ne (rfl : tau 135 = .inl 2) (dic_t hoc) (fun h => by cases h)))).2.2.2 0).trans (((hL60_ 135 rfl).2.2.2 0).trans (((fu_11 135 rfl).2.2.2 0).trans ((fu_6 135 rfl).2.2.2 0))))).trans hec), ((((hL83_ 135 rfl).2.2.2 1).trans (((fu_21 135 (p1_no (tau_ne (rfl : tau 135 = .inl 2) (dic_t hoc) (fun h => by cases h)))).2.2.2 1).trans (((hL60_ 135 rfl).2.2.2 1).trans (((fu_11 135 rfl).2.2.2 1).trans ((fu_6 135 rfl).2.2.2 1))))).trans hed)⟩ hDl (by omega)) (c_X2_206 Cx rfl rfl (rmk_ok (by omega) (by decide))) hW (by decide) rfl rfl rfl hl.1 rfl (Nat.le_of_ble_eq_true rfl) dX2_addLimit_146 ⟨Nat.le_of_ble_eq_true rfl, Nat.le_of_ble_eq_true rfl⟩) hL (fun u_30 H locs k_31 hW hL => ?_)
            obtain ⟨iu_30, fu_30, xu_30⟩ := k_31
            have F_32 := hFm83.trans (fu_30.to pAr_x)
            have q_33 : 0 ≤ u_30.1 135 19 ∧ u_30.1 135 19 ≤ 102220 := iu_30.fi 135 19 2 (by decide) rfl
            exact sVret Cx hr hlk hW hL ⟨iu_30, F_32, ⟨(fun _ => xu_30.1 (if ab = 0 then loR d rr else hiR d rr) (fun b b0 b1 => hnr b b0 (by omega))), by omega⟩⟩ dX2_addLimit_149
          · refine lv_aload_n hx hb dX2_addLimit_91 rfl (lv_at hl 1 rfl) ?_
            refine g_X2_41 Cx hW (k := 135) (by decide) rfl (v := .ref (G.2.2.1 + 147)) (rf_135_8 hI83) dX2_addLimit_92 ?_
            refine lv_aload_n hx hb dX2_addLimit_95 rfl (lv_at hl 1 rfl) ?_
            refine g_X2_13 Cx hW (k := 135) (by decide) rfl (v := .ref (G.2.2.1 + oc)) ((((hL83_ 135 rfl).2.2.2 0).trans (((fu_21 135 (p1_no (tau_ne (rfl : tau 135 = .inl 2) (dic_t hoc) (fun h => by cases h)))).2.2.2 0).trans (((hL60_ 135 rfl).2.2.2 0).trans (((fu_11 135 rfl).2.2.2 0).trans ((fu_6 135 rfl).2.2.2 0))))).trans hec) dX2_addLimit_96 ?_
            refine lv_iload_n hx hb dX2_addLimit_99 rfl (lv_at hl 2 rfl) ?_
            refine lv_iload_n hx hb dX2_addLimit_100 rfl (lv_at hl 0 rfl) ?_
            refine sBi (sSt (As := [.int (iv rr), .int (iv j)]) (rest := [.ref (G.2.2.1 + oc), .ref (G.2.2.1 + 147)]) Cx (s_X2_at l G S83 (i := rr) (j := j) (by omega) (by omega)) (c_X2_77 Cx rfl rfl (rmk_ok (by omega) (by decide))) hW rfl hl.1 rfl (Nat.le_of_ble_eq_true rfl) dX2_addLimit_101 ⟨Nat.le_of_ble_eq_true rfl, Nat.le_of_ble_eq_true rfl⟩) hL (fun r_36 u_34 H locs k_35 hW hL => ?_)
            obtain ⟨eu_34, xu_34⟩ := k_35
            rw [eu_34] at hW
            refine sBv (sV (As := [.ref (G.2.2.1 + oc), .int (iv r_36)]) (rest := []) (k := 147) Cx (b_X0_load l G S83 (o := 147) (k := oc) (a := r_36) (N := 4816) hI83 rfl (dic_a hoc) (by omega)) (c_X2_106 Cx rfl rfl (rmk_ok (by omega) (by decide))) hW (by decide) rfl rfl rfl hl.1 rfl (Nat.le_of_ble_eq_true rfl) dX2_addLimit_104 ⟨Nat.le_of_ble_eq_true rfl, Nat.le_of_ble_eq_true rfl⟩) hL (fun u_37 H locs k_38 hW hL => ?_)
            obtain ⟨iu_37, fu_37, xu_37⟩ := k_38
            have F_39 := hFm83.trans (fu_37.to (pB_sub rfl rfl))
            have F_40 := hFL6083.trans (fu_37.to (pB_sub rfl rfl))
            have F_41 := hL83_.trans (fu_37.to (pB_sub rfl rfl))
            have yu_37 : u_37.1 147 1 ≤ 6 := by have e := xu_37.1; rw [dic_L hoc] at e; exact e
            have bv_42 : bv u_37 147 = nv (S83.2.1 oc) r_36 := xu_37.2.2.2.2.2.2.2.1
            have join_118 : ∀ (S118 : sS)  (H : Heap) (locs : List Loc) (ls : Array Slot), (cX G S118 0 0 0) → (Fr S S118 pCx) → (Fr u_11 S118 pCt) → (Fr u_21 S118 pCt) → (Fr u_37 S118 pCt) → (S118.1 147 1 ≤ 6) → (Hd (bs S118 147)) → (bv S118 147 = (if ab = 0 then loR d rr else hiR d rr) j) → (Hd (DRc S118 oc n hw d)) → (Hd (∀ b, 0 ≤ b → b < j → nv (S118.2.1 oc) ((d.2.2.2.2.1 + 3) * 112 + b * 8) = (if ab = 0 then loR d rr else hiR d rr) b)) → sW G 294 S118 H → sL G locs → lv_has ls 4 [(3, .int (iv j)), (0, .ref (G.2.2.1 + 135)), (1, .int (iv rr)), (2, .int (iv ab))] → W p l e (rmk 6 0 0) s m args below meth c H locs 0 0 (MQ below (sQv G 294 (fun u => cX G u 0 0 0 ∧ Fr S u pCx ∧ (Hd (d.2.2.2.2.1 < 40 → dcs G u oc od ∧ DRc u oc n hw (adR n d (if ab = 0 then loR d rr else hiR d rr))) ∧ u.1 135 19 = S.1 135 19))) args s 0 0 (sF G)) (F0 m 118 ls []) := by
              intro S118  H locs ls hI118 hFm118 hFL60118 hFL83118 hL118_ hy7 hb8 hv8 hD8 hn8 hW hL hl
              have hD814 := hD8.2.2.2.2.2.1; have hD815 := hD8.2.2.2.2.2.2.1; have hD813 := hD8.2.2.2.2.1
              refine lv_aload_n hx hb dX2_addLimit_118 rfl (lv_at hl 1 rfl) ?_
              refine g_X2_41 Cx hW (k := 135) (by decide) rfl (v := .ref (G.2.2.1 + 147)) (rf_135_8 hI118) dX2_addLimit_119 ?_
              refine lv_aload_n hx hb dX2_addLimit_122 rfl (lv_at hl 1 rfl) ?_
              refine g_X2_13 Cx hW (k := 135) (by decide) rfl (v := .ref (G.2.2.1 + oc)) ((((hL118_ 135 rfl).2.2.2 0).trans (((fu_37 135 rfl).2.2.2 0).trans (((hL83_ 135 rfl).2.2.2 0).trans (((fu_21 135 (p1_no (tau_ne (rfl : tau 135 = .inl 2) (dic_t hoc) (fun h => by cases h)))).2.2.2 0).trans (((hL60_ 135 rfl).2.2.2 0).trans (((fu_11 135 rfl).2.2.2 0).trans ((fu_6 135 rfl).2.2.2 0))))))).trans hec) dX2_addLimit_123 ?_
              refine lv_aload_n hx hb dX2_addLimit_126 rfl (lv_at hl 1 rfl) ?_
              refine g_X2_66 Cx hW (k := 135) (by decide) rfl (v := S.1 135 14) (((hL118_ 135 rfl).1 14).trans (((fu_37 135 rfl).1 14).trans (((hL83_ 135 rfl).1 14).trans (((fu_21 135 (p1_no (tau_ne (rfl : tau 135 = .inl 2) (dic_t hoc) (fun h => by cases h)))).1 14).trans (((hL60_ 135 rfl).1 14).trans (((fu_11 135 rfl).1 14).trans ((fu_6 135 rfl).1 14))))))) dX2_addLimit_127 ?_
              refine lv_iconst (v := iv 1) hx hb dX2_addLimit_130 (by decide) ?_
              refine r_iadd hx hb dX2_addLimit_131 ?_
              refine lv_iload_n hx hb dX2_addLimit_132 rfl (lv_at hl 0 rfl) ?_
              refine sBi (sSt (As := [.int (iv ((S.1 135 14) + 1)), .int (iv j)]) (rest := [.ref (G.2.2.1 + oc), .ref (G.2.2.1 + 147)]) Cx (s_X2_at l G S118 (i := (S.1 135 14) + 1) (j := j) (by omega) (by omega)) (c_X2_77 Cx rfl rfl (rmk_ok (by omega) (by decide))) hW rfl hl.1 rfl (Nat.le_of_ble_eq_true rfl) dX2_addLimit_133 ⟨Nat.le_of_ble_eq_true rfl, Nat.le_of_ble_eq_true rfl⟩) hL (fun r_45 u_43 H locs k_44 hW hL => ?_)
              obtain ⟨eu_43, xu_43⟩ := k_44
              rw [eu_43] at hW
              have q_46 : 0 ≤ S118.1 147 1 ∧ S118.1 147 1 ≤ 32 := hI118.fi 147 1 0 (by decide) rfl
              have q_47 : (-1) ≤ S118.1 147 2 ∧ S118.1 147 2 ≤ 1 := hI118.fi 147 2 0 (by decide) rfl
              refine sBv (sV (As := [.ref (G.2.2.1 + oc), .int (iv r_45)]) (rest := []) (k := 147) Cx (b_X0_save l G S118 (o := 147) (k := oc) (a := r_45) (N := 4816) hI118 rfl (dic_a hoc) (by omega) (dicSv hoc (by omega)) (fun _ q => by exfalso; omega)) (c_X2_154 Cx rfl rfl (rmk_ok (by omega) (by decide))) hW (by decide) rfl rfl rfl hl.1 rfl (Nat.le_of_ble_eq_true rfl) dX2_addLimit_136 ⟨Nat.le_of_ble_eq_true rfl, Nat.le_of_ble_eq_true rfl⟩) hL (fun u_48 H locs k_49 hW hL => ?_)
              obtain ⟨iu_48, fu_48, xu_48⟩ := k_49
              have F_50 := hFm118.trans (fu_48.to (p1_sub (pCt_x _ (dic_pCt hoc))))
              have F_51 := hFL60118.trans (fu_48.to (p1_sub (dic_pCt hoc)))
              have F_52 := hFL83118.trans (fu_48.to (p1_sub (dic_pCt hoc)))
              have F_53 := hL118_.trans (fu_48.to (p1_sub (dic_pCt hoc)))
              refine lv_iinc (v := iv (j + 1)) (lv' := [(3, .int (iv (j + 1))), (0, .ref (G.2.2.1 + 135)), (1, .int (iv rr)), (2, .int (iv ab))]) hx hb dX2_addLimit_139 hl (k := 0) rfl ((Int32.ofInt_add _ _).symm) (by decide) rfl (fun ls hl => ?_)
              refine lv_goto (tgt := 83) hx hb dX2_addLimit_142 (by decide) ?_
              exact ih_83 u_48 (j + 1) _ _ _ (by omega) iu_48 F_50 F_51 F_52 (by omega) (DRc.sv (G := G) hD8 hI118 hoc (by omega) (by omega) (by omega) (show u_48.1 135 13 = S118.1 135 13 from (fu_48 135 (p1_no (tau_ne (rfl : tau 135 = .inl 2) (dic_t hoc) (fun h => by cases h)))).1 13) (show u_48.1 135 14 = S118.1 135 14 from (fu_48 135 (p1_no (tau_ne (rfl : tau 135 = .inl 2) (dic_t hoc) (fun h => by cases h)))).1 14) (show u_48.1 135 15 = S118.1 135 15 from (fu_48 135 (p1_no (tau_ne (rfl : tau 135 = .inl 2) (dic_t hoc) (fun h => by cases h)))).1 15) (show u_48.1 135 16 = S118.1 135 16 from (fu_48 135 (p1_no (tau_ne (rfl : tau 135 = .inl 2) (dic_t hoc) (fun h => by cases h)))).1 16) (funext fun x => (fu_48 138 (p1_no (ac_ne (rfl : acode 138 = 0) (dic_c hoc) (by decide)))).2.1 x) (funext fun x => (fu_48 139 (p1_no (ac_ne (rfl : acode 139 = 0) (dic_c hoc) (by decide)))).2.1 x) (A := r_45) (by omega) (fun y q => (xu_48.2 y q).trans (congrFun (show S118.2.1 oc = S118.2.1 oc from funext fun x => rfl) y))) (fun b b0 b1 => by by_cases q : b = j; (rw [q, ← show r_45 = (d.2.2.2.2.1 + 3) * 112 + j * 8 by omega]; exact (xu_48.1 hb8).trans hv8); (rw [nv_8 (f := S118.2.1 oc) (hd7 hI118 hoc _ (by omega) (by omega) (by omega)) (fun y y0 y1 => xu_48.2 y (by omega))]; exact hn8 b b0 (by omega))) hW hL (lv_sub hl [0, 1, 2, 3] rfl)
            refine lv_iload_n hx hb dX2_addLimit_107 rfl (lv_at hl 3 rfl) ?_
            refine r_if_ne (tgt := 118) hx hb ⟨(by omega), (by omega)⟩ dX2_addLimit_108 (by decide) (fun c_54 => ?_) (fun c_54 => ?_)
            · have q_55 : 0 ≤ u_37.1 147 1 ∧ u_37.1 147 1 ≤ 32 := iu_37.fi 147 1 0 (by decide) rfl
              exact join_118 u_37  _ _ _ iu_37 F_39 F_40 F_41 (Fr.rf : Fr u_37 u_37 pCt) (by omega) (show Hd (bs u_37 147) from xu_37.2.2.2.2.2.2.2.2) (by rw [(show bv u_37 147 = nv (S83.2.1 oc) r_36 from bv_42), (show nv (S83.2.1 oc) r_36 = d.2.1 rr j by rw [show r_36 = (rr + 2) * 112 + j * 8 by omega]; exact hDl.2.1 rr j (by omega) (by omega) (by omega) (by omega) (by omega))]; first | (rw [if_neg (show ¬ ab = 0 by omega)]; unfold hiR; rw [if_neg (show ¬ j = 0 by omega)]) | (rw [if_pos (show ab = 0 by omega)]; unfold loR; rw [if_neg (show ¬ j = 0 by omega)])) (DRc.of hDl (show u_37.1 135 13 = S83.1 135 13 from (fu_37 135 rfl).1 13) (show u_37.1 135 14 = S83.1 135 14 from (fu_37 135 rfl).1 14) (show u_37.1 135 15 = S83.1 135 15 from (fu_37 135 rfl).1 15) (show u_37.1 135 16 = S83.1 135 16 from (fu_37 135 rfl).1 16) (show u_37.2.1 oc = S83.2.1 oc from funext fun x => (fu_37 oc (pB_no (tau_ne (dic_t hoc) (rfl : tau 147 = .inl 0) (fun h => by cases h)) (ac_ne (dic_c hoc) (rfl : acode 148 = 1) (by decide)))).2.1 x) (show u_37.2.1 138 = S83.2.1 138 from funext fun x => (fu_37 138 rfl).2.1 x) (show u_37.2.1 139 = S83.2.1 139 from funext fun x => (fu_37 139 rfl).2.1 x)) (fun b b0 b1 => by rw [show u_37.2.1 oc = S83.2.1 oc from funext fun x => (fu_37 oc (pB_no (tau_ne (dic_t hoc) (rfl : tau 147 = .inl 0) (fun h => by cases h)) (ac_ne (dic_c hoc) (rfl : acode 148 = 1) (by decide)))).2.1 x]; exact hnr b b0 b1) hW hL (lv_sub hl [0, 1, 2, 3] rfl)
            · refine lv_aload_n hx hb dX2_addLimit_111 rfl (lv_at hl 1 rfl) ?_
              refine g_X2_41 Cx hW (k := 135) (by decide) rfl (v := .ref (G.2.2.1 + 147)) (rf_135_8 iu_37) dX2_addLimit_112 ?_
              have q_56 : 0 ≤ u_37.1 147 1 ∧ u_37.1 147 1 ≤ 32 := iu_37.fi 147 1 0 (by decide) rfl
              have q_57 : (-1) ≤ u_37.1 147 2 ∧ u_37.1 147 2 ≤ 1 := iu_37.fi 147 2 0 (by decide) rfl
              refine sBv (sV (As := []) (rest := []) (k := 147) Cx (s_X0_turn l G u_37 (o := 147) iu_37 rfl) (c_X2_134 Cx rfl rfl (rmk_ok (by omega) (by decide))) hW (by decide) rfl rfl rfl hl.1 rfl (Nat.le_of_ble_eq_true rfl) dX2_addLimit_115 ⟨Nat.le_of_ble_eq_true rfl, Nat.le_of_ble_eq_true rfl⟩) hL (fun u_58 H locs k_59 hW hL => ?_)
              obtain ⟨iu_58, fu_58, xu_58⟩ := k_59
              have F_60 := F_39.trans (fu_58.to (pB_sub rfl rfl))
              have F_61 := F_40.trans (fu_58.to (pB_sub rfl rfl))
              have F_62 := F_41.trans (fu_58.to (pB_sub rfl rfl))
              have F_63 := (Fr.rf : Fr u_37 u_37 pCt).trans (fu_58.to (pB_sub rfl rfl))
              have bv_64 : bv u_58 147 = -(nv (S83.2.1 oc) r_36) := (tn_bv xu_58.1 xu_58.2.1 xu_58.2.2).trans (congrArg _ ((show bv u_37 147 = nv (S83.2.1 oc) r_36 from bv_42)))
              have q_65 : 0 ≤ u_58.1 147 1 ∧ u_58.1 147 1 ≤ 32 := iu_58.fi 147 1 0 (by decide) rfl
              exact join_118 u_58  _ _ _ iu_58 F_60 F_61 F_62 F_63 (by omega) (show Hd (bs u_58 147) from (tn_bs xu_58.1 xu_58.2.1 (show Hd (bs u_37 147) from xu_37.2.2.2.2.2.2.2.2))) (by rw [(show bv u_58 147 = -(nv (S83.2.1 oc) r_36) from bv_64), (show nv (S83.2.1 oc) r_36 = d.2.1 rr j by rw [show r_36 = (rr + 2) * 112 + j * 8 by omega]; exact hDl.2.1 rr j (by omega) (by omega) (by omega) (by omega) (by omega))]; first | (rw [if_neg (show ¬ ab = 0 by omega)]; unfold hiR; rw [if_neg (show ¬ j = 0 by omega)]) | (rw [if_pos (show ab = 0 by omega)]; unfold loR; rw [if_neg (show ¬ j = 0 by omega)])) (DRc.of hDl (show u_58.1 135 13 = S83.1 135 13 from ((fu_58 135 rfl).1 13).trans ((fu_37 135 rfl).1 13)) (show u_58.1 135 14 = S83.1 135 14 from ((fu_58 135 rfl).1 14).trans ((fu_37 135 rfl).1 14)) (show u_58.1 135 15 = S83.1 135 15 from ((fu_58 135 rfl).1 15).trans ((fu_37 135 rfl).1 15)) (show u_58.1 135 16 = S83.1 135 16 from ((fu_58 135 rfl).1 16).trans ((fu_37 135 rfl).1 16)) (show u_58.2.1 oc = S83.2.1 oc from funext fun x => ((fu_58 oc (pB_no (tau_ne (dic_t hoc) (rfl : tau 147 = .inl 0) (fun h => by cases h)) (ac_ne (dic_c hoc) (rfl : acode 148 = 1) (by decide)))).2.1 x).trans ((fu_37 oc (pB_no (tau_ne (dic_t hoc) (rfl : tau 147 = .inl 0) (fun h => by cases h)) (ac_ne (dic_c hoc) (rfl : acode 148 = 1) (by decide)))).2.1 x)) (show u_58.2.1 138 = S83.2.1 138 from funext fun x => ((fu_58 138 rfl).2.1 x).trans ((fu_37 138 rfl).2.1 x)) (show u_58.2.1 139 = S83.2.1 139 from funext fun x => ((fu_58 139 rfl).2.1 x).trans ((fu_37 139 rfl).2.1 x))) (fun b b0 b1 => by rw [show u_58.2.1 oc = S83.2.1 oc from funext fun x => ((fu_58 oc (pB_no (tau_ne (dic_t hoc) (rfl : tau 147 = .inl 0) (fun h => by cases h)) (ac_ne (dic_c hoc) (rfl : acode 148 = 1) (by decide)))).2.1 x).trans ((fu_37 oc (pB_no (tau_ne (dic_t hoc) (rfl : tau 147 = .inl 0) (fun h => by cases h)) (ac_ne (dic_c hoc) (rfl : acode 148 = 1) (by decide)))).2.1 x)]; exact hnr b b0 b1) hW hL (lv_sub hl [0, 1, 2, 3] rfl)
      exact loop_83 (_ + 1) u_21 1 _ _ _ (Nat.lt_succ_self _) iu_21 F_23 F_24 Fr.rf (by omega) (DRc.sv (G := G) hD6 hI60 hoc (by omega) (by omega) (by omega) (show u_21.1 135 13 = S60.1 135 13 from (fu_21 135 (p1_no (tau_ne (rfl : tau 135 = .inl 2) (dic_t hoc) (fun h => by cases h)))).1 13) (show u_21.1 135 14 = S60.1 135 14 from (fu_21 135 (p1_no (tau_ne (rfl : tau 135 = .inl 2) (dic_t hoc) (fun h => by cases h)))).1 14) (show u_21.1 135 15 = S60.1 135 15 from (fu_21 135 (p1_no (tau_ne (rfl : tau 135 = .inl 2) (dic_t hoc) (fun h => by cases h)))).1 15) (show u_21.1 135 16 = S60.1 135 16 from (fu_21 135 (p1_no (tau_ne (rfl : tau 135 = .inl 2) (dic_t hoc) (fun h => by cases h)))).1 16) (funext fun x => (fu_21 138 (p1_no (ac_ne (rfl : acode 138 = 0) (dic_c hoc) (by decide)))).2.1 x) (funext fun x => (fu_21 139 (p1_no (ac_ne (rfl : acode 139 = 0) (dic_c hoc) (by decide)))).2.1 x) (A := r_18) (by omega) (fun y q => (xu_21.2 y q).trans (congrFun (show S60.2.1 oc = S60.2.1 oc from funext fun x => rfl) y))) (fun b b0 b1 => by rw [show b = 0 by omega, ← show r_18 = (d.2.2.2.2.1 + 3) * 112 + 0 * 8 by omega]; exact (xu_21.1 hb6).trans hv6) hW hL (lv_sub hl [0, 1, 2, 3] rfl)
    refine lv_iload_n hx hb dX2_addLimit_34 rfl (lv_at hl 2 rfl) ?_
    refine r_if_eq (tgt := 53) hx hb ⟨(by omega), (by omega)⟩ dX2_addLimit_35 (by decide) (fun c_66 => ?_) (fun c_66 => ?_)
    · refine lv_aload_n hx hb dX2_addLimit_53 rfl (lv_at hl 0 rfl) ?_
      refine g_X2_41 Cx hW (k := 135) (by decide) rfl (v := .ref (G.2.2.1 + 147)) (rf_135_8 iu_11) dX2_addLimit_54 ?_
      have q_67 : 0 ≤ u_11.1 147 1 ∧ u_11.1 147 1 ≤ 32 := iu_11.fi 147 1 0 (by decide) rfl
      have q_68 : (-1) ≤ u_11.1 147 2 ∧ u_11.1 147 2 ≤ 1 := iu_11.fi 147 2 0 (by decide) rfl
      refine sBv (sV (As := []) (rest := []) (k := 147) Cx (s_X0_turn l G u_11 (o := 147) iu_11 rfl) (c_X2_134 Cx rfl rfl (rmk_ok (by omega) (by decide))) hW (by decide) rfl rfl rfl hl.1 rfl (Nat.le_of_ble_eq_true rfl) dX2_addLimit_57 ⟨Nat.le_of_ble_eq_true rfl, Nat.le_of_ble_eq_true rfl⟩) hL (fun u_69 H locs k_70 hW hL => ?_)
      obtain ⟨iu_69, fu_69, xu_69⟩ := k_70
      have F_71 := F_13.trans (fu_69.to (pB_sub rfl rfl))
      have F_72 := (Fr.rf : Fr u_11 u_11 pCt).trans (fu_69.to (pB_sub rfl rfl))
      have bv_73 : bv u_69 147 = -((nv (S.2.1 oc) r_5) % d.1) := (tn_bv xu_69.1 xu_69.2.1 xu_69.2.2).trans (congrArg _ ((show bv u_11 147 = (nv (S.2.1 oc) r_5) % d.1 from bv_14)))
      have q_74 : 0 ≤ u_69.1 147 1 ∧ u_69.1 147 1 ≤ 32 := iu_69.fi 147 1 0 (by decide) rfl
      exact join_60 u_69  _ _ _ iu_69 F_71 F_72 (by omega) (show Hd (bs u_69 147) from (tn_bs xu_69.1 xu_69.2.1 (show Hd (bs u_11 147) from xu_11.2.2.2.2.2.2.1))) (by rw [(show bv u_69 147 = -((nv (S.2.1 oc) r_5) % d.1) from bv_73), (show nv (S.2.1 oc) r_5 = d.2.1 rr 0 by rw [show r_5 = (rr + 2) * 112 + 0 * 8 by omega]; exact hDR.2.1 rr 0 (by omega) (by omega) (by omega) (by omega) (by omega))]; first | (rw [if_neg (show ¬ ab = 0 by omega)]; unfold hiR; rw [if_pos rfl]) | (rw [if_pos (show ab = 0 by omega)]; unfold loR; rw [if_pos rfl])) (DRc.of hDR (show u_69.1 135 13 = S.1 135 13 from ((fu_69 135 rfl).1 13).trans (((fu_11 135 rfl).1 13).trans ((fu_6 135 rfl).1 13))) (show u_69.1 135 14 = S.1 135 14 from ((fu_69 135 rfl).1 14).trans (((fu_11 135 rfl).1 14).trans ((fu_6 135 rfl).1 14))) (show u_69.1 135 15 = S.1 135 15 from ((fu_69 135 rfl).1 15).trans (((fu_11 135 rfl).1 15).trans ((fu_6 135 rfl).1 15))) (show u_69.1 135 16 = S.1 135 16 from ((fu_69 135 rfl).1 16).trans (((fu_11 135 rfl).1 16).trans ((fu_6 135 rfl).1 16))) (show u_69.2.1 oc = S.2.1 oc from funext fun x => ((fu_69 oc (pB_no (tau_ne (dic_t hoc) (rfl : tau 147 = .inl 0) (fun h => by cases h)) (ac_ne (dic_c hoc) (rfl : acode 148 = 1) (by decide)))).2.1 x).trans (((fu_11 oc (dic_pD147 hoc)).2.1 x).trans ((fu_6 oc (pB_no (tau_ne (dic_t hoc) (rfl : tau 147 = .inl 0) (fun h => by cases h)) (ac_ne (dic_c hoc) (rfl : acode 148 = 1) (by decide)))).2.1 x))) (show u_69.2.1 138 = S.2.1 138 from funext fun x => ((fu_69 138 rfl).2.1 x).trans (((fu_11 138 rfl).2.1 x).trans ((fu_6 138 rfl).2.1 x))) (show u_69.2.1 139 = S.2.1 139 from funext fun x => ((fu_69 139 rfl).2.1 x).trans (((fu_11 139 rfl).2.1 x).trans ((fu_6 139 rfl).2.1 x)))) hW hL (lv_sub hl [0, 1, 2] rfl)
    · refine lv_aload_n hx hb dX2_addLimit_38 rfl (lv_at hl 0 rfl) ?_
      refine g_X2_41 Cx hW (k := 135) (by decide) rfl (v := .ref (G.2.2.1 + 147)) (rf_135_8 iu_11) dX2_addLimit_39 ?_
      refine lv_aload_n hx hb dX2_addLimit_42 rfl (lv_at hl 0 rfl) ?_
      refine g_X2_35 Cx hW (k := 135) (by decide) rfl (v := .ref (G.2.2.1 + 143)) (rf_135_6 iu_11) dX2_addLimit_43 ?_
      refine lv_iconst (v := iv (-1)) hx hb dX2_addLimit_46 (by decide) ?_
      have q_75 : 0 ≤ u_11.1 143 1 ∧ u_11.1 143 1 ≤ 32 := iu_11.fi 143 1 0 (by decide) rfl
      have q_76 : 0 ≤ u_11.1 147 1 ∧ u_11.1 147 1 ≤ 32 := iu_11.fi 147 1 0 (by decide) rfl
      have q_77 : (-1) ≤ u_11.1 147 2 ∧ u_11.1 147 2 ≤ 1 := iu_11.fi 147 2 0 (by decide) rfl
      have q_78 : (-1) ≤ u_11.1 143 2 ∧ u_11.1 143 2 ≤ 1 := iu_11.fi 143 2 0 (by decide) rfl
      refine sBv (sV (As := [.ref (G.2.2.1 + 143), .int (iv ((-1)))]) (rest := []) (k := 147) Cx (b_X0_add_m l G u_11 (o := 147) (a := 143) (n := 6) (t := 0) iu_11 rfl rfl (show (147 : Nat) ≠ 143 by decide) (by omega) (fun q => absurd q (by omega)) (show Hd (bs u_11 147) from xu_11.2.2.2.2.2.2.1) (show Hd (bs u_11 143) from xu_11.2.2.2.2.2.2.2.2)) (c_X2_196 Cx rfl rfl (rmk_ok (by omega) (by decide))) hW (by decide) rfl rfl rfl hl.1 rfl (Nat.le_of_ble_eq_true rfl) dX2_addLimit_47 ⟨Nat.le_of_ble_eq_true rfl, Nat.le_of_ble_eq_true rfl⟩) hL (fun u_79 H locs k_80 hW hL => ?_)
      obtain ⟨iu_79, fu_79, xu_79⟩ := k_80
      have F_81 := F_13.trans (fu_79.to (pB_sub rfl rfl))
      have F_82 := (Fr.rf : Fr u_11 u_11 pCt).trans (fu_79.to (pB_sub rfl rfl))
      have bv_83 : bv u_79 147 = (nv (S.2.1 oc) r_5) % d.1 - d.1 := (by have e : bv u_79 147 = _ := xu_79.2.2.2.1; rw [(show bv u_11 147 = (nv (S.2.1 oc) r_5) % d.1 from bv_14), (show bv u_11 143 = d.1 from bv_15)] at e; omega)
      have hop := xu_79.2.2.1 (by omega)
      refine lv_goto (tgt := 60) hx hb dX2_addLimit_50 (by decide) ?_
      have q_84 : 0 ≤ u_79.1 147 1 ∧ u_79.1 147 1 ≤ 32 := iu_79.fi 147 1 0 (by decide) rfl
      exact join_60 u_79  _ _ _ iu_79 F_81 F_82 (by omega) (show Hd (bs u_79 147) from xu_79.2.2.2.2) (by rw [(show bv u_79 147 = (nv (S.2.1 oc) r_5) % d.1 - d.1 from bv_83), (show nv (S.2.1 oc) r_5 = d.2.1 rr 0 by rw [show r_5 = (rr + 2) * 112 + 0 * 8 by omega]; exact hDR.2.1 rr 0 (by omega) (by omega) (by omega) (by omega) (by omega))]; first | (rw [if_neg (show ¬ ab = 0 by omega)]; unfold hiR; rw [if_pos rfl]) | (rw [if_pos (show ab = 0 by omega)]; unfold loR; rw [if_pos rfl])) (DRc.of hDR (show u_79.1 135 13 = S.1 135 13 from ((fu_79 135 rfl).1 13).trans (((fu_11 135 rfl).1 13).trans ((fu_6 135 rfl).1 13))) (show u_79.1 135 14 = S.1 135 14 from ((fu_79 135 rfl).1 14).trans (((fu_11 135 rfl).1 14).trans ((fu_6 135 rfl).1 14))) (show u_79.1 135 15 = S.1 135 15 from ((fu_79 135 rfl).1 15).trans (((fu_11 135 rfl).1 15).trans ((fu_6 135 rfl).1 15))) (show u_79.1 135 16 = S.1 135 16 from ((fu_79 135 rfl).1 16).trans (((fu_11 135 rfl).1 16).trans ((fu_6 135 rfl).1 16))) (show u_79.2.1 oc = S.2.1 oc from funext fun x => ((fu_79 oc (pB_no (tau_ne (dic_t hoc) (rfl : tau 147 = .inl 0) (fun h => by cases h)) (ac_ne (dic_c hoc) (rfl : acode 148 = 1) (by decide)))).2.1 x).trans (((fu_11 oc (dic_pD147 hoc)).2.1 x).trans ((fu_6 oc (pB_no (tau_ne (dic_t hoc) (rfl : tau 147 = .inl 0) (fun h => by cases h)) (ac_ne (dic_c hoc) (rfl : acode 148 = 1) (by decide)))).2.1 x))) (show u_79.2.1 138 = S.2.1 138 from funext fun x => ((fu_79 138 rfl).2.1 x).trans (((fu_11 138 rfl).2.1 x).trans ((fu_6 138 rfl).2.1 x))) (show u_79.2.1 139 = S.2.1 139 from funext fun x => ((fu_79 139 rfl).2.1 x).trans (((fu_11 139 rfl).2.1 x).trans ((fu_6 139 rfl).2.1 x)))) hW hL (lv_sub hl [0, 1, 2] rfl)
  · have q_85 : 0 ≤ S.1 135 19 ∧ S.1 135 19 ≤ 102220 := hI.fi 135 19 2 (by decide) rfl
    exact sVret Cx hr hlk hW hL ⟨hI, (Fr.rf : Fr S S pCx), ⟨(fun q => by exfalso; omega), (rfl)⟩⟩ dX2_addLimit_9

set_option maxRecDepth 100000 in
set_option maxHeartbeats 4000000 in
theorem v_X2_dropHelper (l : Launch) (G : sG) (S : sS) {oc od : Nat} {n hw : Int} {d : dT} (hI : cX G S 0 0 0) (hdq : dcs G S oc od) (hDR : Hd (DRc S oc n hw d)) (hgo : pOf d 0 ≠ 0) : Met l yX2_dropHelper (.code yX2_dropHelper cX2_dropHelper 3 none :: tb) (rmk 3 0 0) (sPc G 294 S [.ref (G.2.2.1 + 135)]) (sQv G 294 (fun u => cX G u 0 0 0 ∧ Fr S u pDh ∧ (Hd (hw = 1 → dcs G u oc od ∧ DRc u oc n 0 (dpD d)) ∧ u.1 135 19 = S.1 135 19))) 0 0 (sF G) := by
  refine sEnter (by decide) (Nat.le_of_ble_eq_true rfl) ?_
  intro p e s m args below meth c Cx hr hlk hnm hW ls hl
  have Cx : sC G p m c cX2_dropHelper 3 s args RX2 := Cx
  obtain ⟨hx, hb, hml, hown, hts⟩ := id Cx.1
  have hL : sL G [] := sL_nil
  have hl : lv_has ls 3 [(0, .ref (G.2.2.1 + 135))] := hl
  have hW0 := hW
  obtain ⟨hoc, hod, hcd, hec, hed⟩ := id hdq
  have hd13 := hDR.2.2.2.2.1; have hd14 := hDR.2.2.2.2.2.1; have hd15 := hDR.2.2.2.2.2.2.1; have hd16 := hDR.2.2.2.2.2.2.2; have hm40 : 0 ≤ S.1 135 14 ∧ S.1 135 14 ≤ 40 := hI.fi 135 14 2 (by decide) rfl; have hp13 : 0 ≤ S.1 135 15 ∧ S.1 135 15 ≤ 13 := hI.fi 135 15 2 (by decide) rfl
  have hgi := pOf_i hgo (by omega)
  have hgi1 := hgi.1
  refine lv_aload_n hx hb dX2_dropHelper_0 rfl (lv_at hl 0 rfl) ?_
  refine lv_iconst (v := iv 0) hx hb dX2_dropHelper_1 (by decide) ?_
  refine sBi (sV (As := [.int (iv 0)]) (rest := []) (k := 135) Cx (v_X2_placeOf l G S (k := 0) (oc := oc) (od := od) (n := n) (hw := hw) (d := d) hI ⟨hoc, hod, (neD hcd), hec, hed⟩ hDR (by omega)) (c_X2_118 Cx rfl rfl (rmk_ok (by omega) (by decide))) hW (by decide) rfl rfl rfl hl.1 rfl (Nat.le_of_ble_eq_true rfl) dX2_dropHelper_2 ⟨Nat.le_of_ble_eq_true rfl, Nat.le_of_ble_eq_true rfl⟩) hL (fun r_3 u_1 H locs k_2 hW hL => ?_)
  obtain ⟨eu_1, xu_1⟩ := k_2
  rw [eu_1] at hW
  refine lv_istore_n (lv' := [(1, .int (iv r_3)), (0, .ref (G.2.2.1 + 135))]) hx hb dX2_dropHelper_5 rfl hl (by decide) rfl (fun ls hl => ?_)
  refine lv_aload_n hx hb dX2_dropHelper_6 rfl (lv_at hl 1 rfl) ?_
  refine lv_iconst (v := iv 0) hx hb dX2_dropHelper_7 (by decide) ?_
  refine p_X2_70 Cx hW hL (k := 135) (by decide) rfl (by omega) dX2_dropHelper_8 (fun H locs hW hL => ?_)
  have F_4 : Fr S (uF S 135 16 0) pDh := (Fr.rf : Fr S S pDh).F rfl
  have i_5 : cX G (uF S 135 16 0) 0 0 0 := hI.F rfl rfl (show 0 ≤ 0 ∧ 0 ≤ 1 from ⟨by omega, by omega⟩)
  refine lv_iload_n hx hb dX2_dropHelper_11 rfl (lv_at hl 0 rfl) ?_
  refine lv_iconst (v := iv 1) hx hb dX2_dropHelper_12 (by decide) ?_
  refine r_icmp_ge (tgt := 17) hx hb ⟨(by omega), (by omega)⟩ ⟨(by omega), (by omega)⟩ dX2_dropHelper_13 (by decide) (fun c_6 => ?_) (fun c_6 => ?_)
  · refine lv_iconst (v := iv 0) hx hb dX2_dropHelper_17 (by decide) ?_
    refine lv_istore_n (lv' := [(2, .int (iv 0)), (1, .int (iv r_3)), (0, .ref (G.2.2.1 + 135))]) hx hb dX2_dropHelper_18 rfl hl (by decide) rfl (fun ls hl => ?_)
    have loop_19 : ∀ (fuel : Nat) (S19 : sS) (i : Int) (H : Heap) (locs : List Loc) (ls : Array Slot), (41 - i).toNat < fuel → (cX G S19 0 0 0) → (Fr S S19 pDh) → (Fr ((uF S 135 16 0)) S19 pDg) → (0 ≤ i ∧ i ≤ d.2.2.2.2.1 + 1) → (Hd (DPc (S19.2.1 oc) d (pOf d 0) i)) → sW G 294 S19 H → sL G locs → lv_has ls 3 [(2, .int (iv i)), (1, .int (iv r_3)), (0, .ref (G.2.2.1 + 135))] → W p l e (rmk 3 0 0) s m args below meth c H locs 0 0 (MQ below (sQv G 294 (fun u => cX G u 0 0 0 ∧ Fr S u pDh ∧ (Hd (hw = 1 → dcs G u oc od ∧ DRc u oc n 0 (dpD d)) ∧ u.1 135 19 = S.1 135 19))) args s 0 0 (sF G)) (F0 m 19 ls []) := by
      intro fuel
      induction fuel with
      | zero => intro S19 i H locs ls hmeas hI19 hFm19 hL19_ hi hDP hW hL hl; exact absurd hmeas (Nat.not_lt_zero _)
      | succ fuel ih_19 =>
        intro S19 i H locs ls hmeas hI19 hFm19 hL19_ hi hDP hW hL hl
        refine lv_iload_n hx hb dX2_dropHelper_19 rfl (lv_at hl 0 rfl) ?_
        refine lv_aload_n hx hb dX2_dropHelper_20 rfl (lv_at hl 2 rfl) ?_
        have q_7 : 0 ≤ S.1 135 14 ∧ S.1 135 14 ≤ 40 := hI.fi 135 14 2 (by decide) rfl
        refine g_X2_66 Cx hW (k := 135) (by decide) rfl (v := S.1 135 14) (((hL19_ 135 rfl).1 14).trans (uF_ne (fun h => absurd h.2 (by decide)))) dX2_dropHelper_21 ?_
        refine r_icmp_gt (tgt := 68) hx hb ⟨(by omega), (by omega)⟩ ⟨(by omega), (by omega)⟩ dX2_dropHelper_24 (by decide) (fun c_8 => ?_) (fun c_8 => ?_)
        · refine lv_aload_n hx hb dX2_dropHelper_68 rfl (lv_at hl 2 rfl) ?_
          refine g_X2_23 Cx hW (k := 135) (by decide) rfl (v := .ref (G.2.2.1 + 139)) (rf_135_3 hI19) dX2_dropHelper_69 ?_
          refine lv_iload_n hx hb dX2_dropHelper_72 rfl (lv_at hl 1 rfl) ?_
          refine lv_aload_n hx hb dX2_dropHelper_73 rfl (lv_at hl 2 rfl) ?_
          refine g_X2_23 Cx hW (k := 135) (by decide) rfl (v := .ref (G.2.2.1 + 139)) (rf_135_3 hI19) dX2_dropHelper_74 ?_
          refine lv_aload_n hx hb dX2_dropHelper_77 rfl (lv_at hl 2 rfl) ?_
          have q_9 : 0 ≤ S.1 135 15 ∧ S.1 135 15 ≤ 13 := hI.fi 135 15 2 (by decide) rfl
          refine g_X2_67 Cx hW (k := 135) (by decide) rfl (v := S.1 135 15) (((hL19_ 135 rfl).1 15).trans (uF_ne (fun h => absurd h.2 (by decide)))) dX2_dropHelper_78 ?_
          refine rIald Cx hW (k := 139) (by decide) rfl (by decide) (by omega) (by omega) dX2_dropHelper_81 ?_
          have q_10 : (-2147483648) ≤ S.2.1 139 (S.1 135 15) ∧ S.2.1 139 (S.1 135 15) ≤ 2147483647 := hI.ai 139 (S.1 135 15) (by decide)
          refine r_i (b := S.2.1 139 (S.1 135 15)) (((hL19_ 139 rfl).2.1 (S.1 135 15)).trans (uF_a)) ?_
          refine rIast Cx hW hL (k := 139) (by decide) rfl (by decide) (by omega) (by omega) dX2_dropHelper_82 (fun H locs hW hL => ?_)
          have F_11 : Fr S (uA S19 139 r_3 (S.2.1 139 (S.1 135 15))) pDh := hFm19.A rfl
          have i_12 : cX G (uA S19 139 r_3 (S.2.1 139 (S.1 135 15))) 0 0 0 := hI19.A (by decide) (by decide) (by decide) (show (-2147483648) ≤ S.2.1 139 (S.1 135 15) ∧ S.2.1 139 (S.1 135 15) ≤ 2147483647 from ⟨by omega, by omega⟩)
          refine lv_aload_n hx hb dX2_dropHelper_83 rfl (lv_at hl 2 rfl) ?_
          refine lv_dup hx hb dX2_dropHelper_84 rfl ?_
          refine g_X2_67 Cx hW (k := 135) (by decide) rfl (v := S.1 135 15) ((uA_f).trans (((hL19_ 135 rfl).1 15).trans (uF_ne (fun h => absurd h.2 (by decide))))) dX2_dropHelper_85 ?_
          refine lv_iconst (v := iv 1) hx hb dX2_dropHelper_88 (by decide) ?_
          refine r_isub hx hb dX2_dropHelper_89 ?_
          refine p_X2_67 Cx hW hL (k := 135) (by decide) rfl dX2_dropHelper_90 (fun H locs hW hL => ?_)
          have F_13 : Fr S (uF (uA S19 139 r_3 (S.2.1 139 (S.1 135 15))) 135 15 ((S.1 135 15) - 1)) pDh := F_11.F rfl
          have i_14 : cX G (uF (uA S19 139 r_3 (S.2.1 139 (S.1 135 15))) 135 15 ((S.1 135 15) - 1)) 0 0 0 := i_12.F rfl rfl (show 0 ≤ (S.1 135 15) - 1 ∧ (S.1 135 15) - 1 ≤ 13 from ⟨by omega, by omega⟩)
          have q_15 : 0 ≤ S.1 135 19 ∧ S.1 135 19 ≤ 102220 := hI.fi 135 19 2 (by decide) rfl
          have lk_16 : (uF (uA S19 139 r_3 (S.2.1 139 (S.1 135 15))) 135 15 ((S.1 135 15) - 1)).1 135 19 = S.1 135 19 := (uF_ne (fun h => absurd h.2 (by decide))).trans ((uA_f).trans (((hL19_ 135 rfl).1 19).trans (uF_ne (fun h => absurd h.2 (by decide)))))
          exact sVret Cx hr hlk hW hL ⟨i_14, F_13, ⟨(fun _ => ⟨⟨hoc, hod, (neD hcd), (((uF_r).trans ((uA_r).trans (((hL19_ 135 rfl).2.2.2 0).trans (uF_r)))).trans hec), (((uF_r).trans ((uA_r).trans (((hL19_ 135 rfl).2.2.2 1).trans (uF_r)))).trans hed)⟩, ⟨by rw [show (uF (uA S19 139 r_3 (S.2.1 139 (S.1 135 15))) 135 15 ((S.1 135 15) - 1)).2.1 oc = S19.2.1 oc from funext fun x => (uF_a).trans (uA_ne (fun h => absurd h.1 (ac_ne (dic_c hoc) (rfl : acode 139 = 0) (by decide))))]; exact hDP.1, fun a b a0 a1 aw b0 b1 => (by have b1 : b ≤ d.2.2.2.2.2 - 1 := b1; have a9 : a ≠ -1 := (fun q => absurd (aw q) (by decide)); rw [show (uF (uA S19 139 r_3 (S.2.1 139 (S.1 135 15))) 135 15 ((S.1 135 15) - 1)).2.1 oc = S19.2.1 oc from funext fun x => (uF_a).trans (uA_ne (fun h => absurd h.1 (ac_ne (dic_c hoc) (rfl : acode 139 = 0) (by decide)))), hDP.2 a b (by omega) a1 b0 (by omega)]; show _ = (if b = pOf d 0 then d.2.1 a d.2.2.2.2.2 else d.2.1 a b); by_cases z : b = pOf d 0; (rw [if_pos ⟨z, by have : a ≤ d.2.2.2.2.1 := a1; omega⟩, if_pos z]); (rw [if_neg (fun q => z q.1), if_neg z])), fun a a0 a1 => (by rw [show (uF (uA S19 139 r_3 (S.2.1 139 (S.1 135 15))) 135 15 ((S.1 135 15) - 1)).2.1 138 a = S.2.1 138 a from (uF_a).trans ((uA_ne (fun h => absurd h.1 (by decide))).trans (((hL19_ 138 rfl).2.1 a).trans (uF_a)))]; exact hDR.2.2.1 a a0 a1), fun b b0 b1 => (by have b1 : b ≤ d.2.2.2.2.2 - 1 := b1; rw [show (uF (uA S19 139 r_3 (S.2.1 139 (S.1 135 15))) 135 15 ((S.1 135 15) - 1)).2.1 139 b = (uA S19 139 r_3 (S.2.1 139 (S.1 135 15))).2.1 139 b from rfl, uA_get]; show _ = (if b = pOf d 0 then d.2.2.2.1 d.2.2.2.2.2 else d.2.2.2.1 b); by_cases z : b = pOf d 0; (rw [if_pos ⟨rfl, by omega⟩, if_pos z]; have e := hDR.2.2.2.1 d.2.2.2.2.2 (by omega) (by omega); rw [← hd15] at e ⊢; try exact e); (rw [if_neg (fun q => z (by omega)), if_neg z]; exact (((hL19_ 139 rfl).2.1 b).trans (uF_a) : _ = S.2.1 139 b).trans (hDR.2.2.2.1 b b0 (by omega)))), ((uF_ne (fun h => absurd h.2 (by decide))).trans ((uA_f).trans (((hL19_ 135 rfl).1 13).trans (uF_ne (fun h => absurd h.2 (by decide))))) : (uF (uA S19 139 r_3 (S.2.1 139 (S.1 135 15))) 135 15 ((S.1 135 15) - 1)).1 135 13 = _).trans hd13, ((uF_ne (fun h => absurd h.2 (by decide))).trans ((uA_f).trans (((hL19_ 135 rfl).1 14).trans (uF_ne (fun h => absurd h.2 (by decide))))) : (uF (uA S19 139 r_3 (S.2.1 139 (S.1 135 15))) 135 15 ((S.1 135 15) - 1)).1 135 14 = _).trans hd14, ((uF_on : (uF (uA S19 139 r_3 (S.2.1 139 (S.1 135 15))) 135 15 ((S.1 135 15) - 1)).1 135 15 = _).trans (show _ = d.2.2.2.2.2 - 1 by omega)), ((uF_ne (fun h => absurd h.2 (by decide))).trans ((uA_f).trans (((hL19_ 135 rfl).1 16).trans (uF_on))) : (uF (uA S19 139 r_3 (S.2.1 139 (S.1 135 15))) 135 15 ((S.1 135 15) - 1)).1 135 16 = _).trans rfl⟩⟩), ((uF_ne (fun h => absurd h.2 (by decide))).trans ((uA_f).trans (((hL19_ 135 rfl).1 19).trans (uF_ne (fun h => absurd h.2 (by decide))))) : (uF (uA S19 139 r_3 (S.2.1 139 (S.1 135 15))) 135 15 ((S.1 135 15) - 1)).1 135 19 = _)⟩⟩ dX2_dropHelper_93
        · refine lv_aload_n hx hb dX2_dropHelper_27 rfl (lv_at hl 2 rfl) ?_
          refine g_X2_38 Cx hW (k := 135) (by decide) rfl (v := .ref (G.2.2.1 + 145)) (rf_135_7 hI19) dX2_dropHelper_28 ?_
          refine lv_aload_n hx hb dX2_dropHelper_31 rfl (lv_at hl 2 rfl) ?_
          refine g_X2_13 Cx hW (k := 135) (by decide) rfl (v := .ref (G.2.2.1 + oc)) ((((hL19_ 135 rfl).2.2.2 0).trans (uF_r)).trans hec) dX2_dropHelper_32 ?_
          refine lv_iload_n hx hb dX2_dropHelper_35 rfl (lv_at hl 0 rfl) ?_
          refine lv_aload_n hx hb dX2_dropHelper_36 rfl (lv_at hl 2 rfl) ?_
          have q_17 : 0 ≤ S.1 135 15 ∧ S.1 135 15 ≤ 13 := hI.fi 135 15 2 (by decide) rfl
          refine g_X2_67 Cx hW (k := 135) (by decide) rfl (v := S.1 135 15) (((hL19_ 135 rfl).1 15).trans (uF_ne (fun h => absurd h.2 (by decide)))) dX2_dropHelper_37 ?_
          refine sBi (sSt (As := [.int (iv i), .int (iv (S.1 135 15))]) (rest := [.ref (G.2.2.1 + oc), .ref (G.2.2.1 + 145)]) Cx (s_X2_at l G S19 (i := i) (j := S.1 135 15) (by omega) (by omega)) (c_X2_77 Cx rfl rfl (rmk_ok (by omega) (by decide))) hW rfl hl.1 rfl (Nat.le_of_ble_eq_true rfl) dX2_dropHelper_40 ⟨Nat.le_of_ble_eq_true rfl, Nat.le_of_ble_eq_true rfl⟩) hL (fun r_20 u_18 H locs k_19 hW hL => ?_)
          obtain ⟨eu_18, xu_18⟩ := k_19
          rw [eu_18] at hW
          refine sBv (sV (As := [.ref (G.2.2.1 + oc), .int (iv r_20)]) (rest := []) (k := 145) Cx (b_X0_load l G S19 (o := 145) (k := oc) (a := r_20) (N := 4816) hI19 rfl (dic_a hoc) (by omega)) (c_X2_106 Cx rfl rfl (rmk_ok (by omega) (by decide))) hW (by decide) rfl rfl rfl hl.1 rfl (Nat.le_of_ble_eq_true rfl) dX2_dropHelper_43 ⟨Nat.le_of_ble_eq_true rfl, Nat.le_of_ble_eq_true rfl⟩) hL (fun u_21 H locs k_22 hW hL => ?_)
          obtain ⟨iu_21, fu_21, xu_21⟩ := k_22
          have F_23 := hFm19.trans (fu_21.to (pB_sub rfl rfl))
          have F_24 := hL19_.trans (fu_21.to (pB_sub rfl rfl))
          have yu_21 : u_21.1 145 1 ≤ 6 := by have e := xu_21.1; rw [dic_L hoc] at e; exact e
          have bv_25 : bv u_21 145 = nv (S19.2.1 oc) r_20 := xu_21.2.2.2.2.2.2.2.1
          refine lv_aload_n hx hb dX2_dropHelper_46 rfl (lv_at hl 2 rfl) ?_
          refine g_X2_38 Cx hW (k := 135) (by decide) rfl (v := .ref (G.2.2.1 + 145)) (rf_135_7 iu_21) dX2_dropHelper_47 ?_
          refine lv_aload_n hx hb dX2_dropHelper_50 rfl (lv_at hl 2 rfl) ?_
          refine g_X2_13 Cx hW (k := 135) (by decide) rfl (v := .ref (G.2.2.1 + oc)) ((((fu_21 135 rfl).2.2.2 0).trans (((hL19_ 135 rfl).2.2.2 0).trans (uF_r))).trans hec) dX2_dropHelper_51 ?_
          refine lv_iload_n hx hb dX2_dropHelper_54 rfl (lv_at hl 0 rfl) ?_
          refine lv_iload_n hx hb dX2_dropHelper_55 rfl (lv_at hl 1 rfl) ?_
          refine sBi (sSt (As := [.int (iv i), .int (iv r_3)]) (rest := [.ref (G.2.2.1 + oc), .ref (G.2.2.1 + 145)]) Cx (s_X2_at l G u_21 (i := i) (j := r_3) (by omega) (by omega)) (c_X2_77 Cx rfl rfl (rmk_ok (by omega) (by decide))) hW rfl hl.1 rfl (Nat.le_of_ble_eq_true rfl) dX2_dropHelper_56 ⟨Nat.le_of_ble_eq_true rfl, Nat.le_of_ble_eq_true rfl⟩) hL (fun r_28 u_26 H locs k_27 hW hL => ?_)
          obtain ⟨eu_26, xu_26⟩ := k_27
          rw [eu_26] at hW
          have q_29 : 0 ≤ u_21.1 145 1 ∧ u_21.1 145 1 ≤ 32 := iu_21.fi 145 1 0 (by decide) rfl
          have q_30 : (-1) ≤ u_21.1 145 2 ∧ u_21.1 145 2 ≤ 1 := iu_21.fi 145 2 0 (by decide) rfl
          refine sBv (sV (As := [.ref (G.2.2.1 + oc), .int (iv r_28)]) (rest := []) (k := 145) Cx (b_X0_save l G u_21 (o := 145) (k := oc) (a := r_28) (N := 4816) iu_21 rfl (dic_a hoc) (by omega) (dicSv hoc (by omega)) (fun _ q => by exfalso; omega)) (c_X2_154 Cx rfl rfl (rmk_ok (by omega) (by decide))) hW (by decide) rfl rfl rfl hl.1 rfl (Nat.le_of_ble_eq_true rfl) dX2_dropHelper_59 ⟨Nat.le_of_ble_eq_true rfl, Nat.le_of_ble_eq_true rfl⟩) hL (fun u_31 H locs k_32 hW hL => ?_)
          obtain ⟨iu_31, fu_31, xu_31⟩ := k_32
          have F_33 := F_23.trans (fu_31.to (p1_sub (pDg_h _ (dic_pDg hoc))))
          have F_34 := F_24.trans (fu_31.to (p1_sub (dic_pDg hoc)))
          refine lv_iinc (v := iv (i + 1)) (lv' := [(2, .int (iv (i + 1))), (1, .int (iv r_3)), (0, .ref (G.2.2.1 + 135))]) hx hb dX2_dropHelper_62 hl (k := 0) rfl ((Int32.ofInt_add _ _).symm) (by decide) rfl (fun ls hl => ?_)
          refine lv_goto (tgt := 19) hx hb dX2_dropHelper_65 (by decide) ?_
          exact ih_19 u_31 (i + 1) _ _ _ (by omega) iu_31 F_33 F_34 (by omega) (DPc.st hDP (hd7 hI19 hoc) (by omega) (by omega) (by omega) (by omega) (fun y q => (xu_31.2 y (by rw [show r_28 = (i + 2) * 112 + pOf d 0 * 8 by omega]; exact q)).trans (congrFun (show u_21.2.1 oc = S19.2.1 oc from funext fun x => (fu_21 oc (pB_no (tau_ne (dic_t hoc) (rfl : tau 145 = .inl 0) (fun h => by cases h)) (ac_ne (dic_c hoc) (rfl : acode 146 = 1) (by decide)))).2.1 x) y)) (by rw [← show r_28 = (i + 2) * 112 + pOf d 0 * 8 by omega]; refine (xu_31.1 (show Hd (bs u_21 145) from xu_21.2.2.2.2.2.2.2.2)).trans (((show bv u_21 145 = nv (S19.2.1 oc) r_20 from bv_25)).trans ?_); rw [show r_20 = (i + 2) * 112 + d.2.2.2.2.2 * 8 by omega, hDP.2 i d.2.2.2.2.2 (by omega) (by omega) (by omega) (by omega)]; split <;> rfl)) hW hL (lv_sub hl [0, 1, 2] rfl)
    exact loop_19 (_ + 1) (uF S 135 16 0) 0 _ _ _ (Nat.lt_succ_self _) i_5 F_4 Fr.rf (by omega) (by rw [show (uF S 135 16 0).2.1 oc = S.2.1 oc from funext fun x => uF_a]; exact ⟨hDR.1, fun a b a0 a1 b0 b1 => by rw [if_neg (fun q => by omega)]; exact hDR.2.1 a b (by omega) a1 (by omega) b0 b1⟩) hW hL (lv_sub hl [0, 1, 2] rfl)
  · have q_35 : 0 ≤ S.1 135 19 ∧ S.1 135 19 ≤ 102220 := hI.fi 135 19 2 (by decide) rfl
    have lk_36 : (uF S 135 16 0).1 135 19 = S.1 135 19 := uF_ne (fun h => absurd h.2 (by decide))
    exact sVret Cx hr hlk hW hL ⟨i_5, F_4, ⟨(fun q => by exfalso; omega), (uF_ne (fun h => absurd h.2 (by decide)))⟩⟩ dX2_dropHelper_16

set_option maxRecDepth 100000 in
set_option maxHeartbeats 4000000 in
theorem v_X2_hasKept (l : Launch) (G : sG) (S : sS) {oc od : Nat} {n hw : Int} {d : dT} (hI : cX G S 0 0 0) (hdq : dcs G S oc od) (hDR : Hd (DRc S oc n hw d)) : Met l yX2_hasKept (.code yX2_hasKept cX2_hasKept 1 (some .boolean) :: tb) (rmk 1 0 0) (sPc G 294 S [.ref (G.2.2.1 + 135)]) (sQi G 294 (fun r u => u = S ∧ (0 ≤ r ∧ r ≤ 1 ∧ (r = 1 ↔ 0 < S.1 135 19)))) 0 0 (sF G) := by
  refine sEnter (by decide) (Nat.le_of_ble_eq_true rfl) ?_
  intro p e s m args below meth c Cx hr hlk hnm hW ls hl
  have Cx : sC G p m c cX2_hasKept 1 s args RX2 := Cx
  obtain ⟨hx, hb, hml, hown, hts⟩ := id Cx.1
  have hL : sL G [] := sL_nil
  have hl : lv_has ls 1 [(0, .ref (G.2.2.1 + 135))] := hl
  have hW0 := hW
  obtain ⟨hoc, hod, hcd, hec, hed⟩ := id hdq
  have hd13 := hDR.2.2.2.2.1; have hd14 := hDR.2.2.2.2.2.1; have hd15 := hDR.2.2.2.2.2.2.1; have hd16 := hDR.2.2.2.2.2.2.2; have hm40 : 0 ≤ S.1 135 14 ∧ S.1 135 14 ≤ 40 := hI.fi 135 14 2 (by decide) rfl; have hp13 : 0 ≤ S.1 135 15 ∧ S.1 135 15 ≤ 13 := hI.fi 135 15 2 (by decide) rfl
  refine lv_aload_n hx hb dX2_hasKept_0 rfl (lv_at hl 0 rfl) ?_
  have q_1 : 0 ≤ S.1 135 19 ∧ S.1 135 19 ≤ 102220 := hI.fi 135 19 2 (by decide) rfl
  refine g_X2_74 Cx hW (k := 135) (by decide) rfl (v := S.1 135 19) rfl dX2_hasKept_1 ?_
  refine r_if_le (tgt := 11) hx hb ⟨(by omega), (by omega)⟩ dX2_hasKept_4 (by decide) (fun c_2 => ?_) (fun c_2 => ?_)
  · refine lv_iconst (v := iv 0) hx hb dX2_hasKept_11 (by decide) ?_
    exact sZret Cx hr hlk hW hL (by omega) ⟨rfl, (by omega)⟩ dX2_hasKept_12
  · refine lv_iconst (v := iv 1) hx hb dX2_hasKept_7 (by decide) ?_
    refine lv_goto (tgt := 12) hx hb dX2_hasKept_8 (by decide) ?_
    exact sZret Cx hr hlk hW hL (by omega) ⟨rfl, (by omega)⟩ dX2_hasKept_12

set_option maxRecDepth 100000 in
set_option maxHeartbeats 4000000 in
theorem v_X2_keep (l : Launch) (G : sG) (S : sS) {oc od : Nat} {n hw : Int} {d : dT} {q : Int} {sk : List (dT × Int)} (hI : cX G S 0 0 0) (hdq : dcs G S oc od) (hDR : Hd (DRc S oc n hw d)) (hq : 1 ≤ q ∧ q ≤ 40) (hK : Hd (KSc (S.2.1 140) (S.1 135 19) sk)) (hso : Hd (skO n (d.2.2.2.2.1) sk)) (hcap : 0 ≤ S.1 135 19 ∧ S.1 135 19 + ((d.2.2.2.2.1 + 3) * 112 + d.2.2.2.2.1 + d.2.2.2.2.2 + 3) ≤ 102220) : Met l yX2_keep (.code yX2_keep cX2_keep 4 none :: tb) (rmk 2 0 0) (sPc G 294 S [.ref (G.2.2.1 + 135), .int (iv q)]) (sQv G 294 (fun u => cX G u 0 0 0 ∧ Fr S u pJ ∧ (dcs G u oc od ∧ Hd (DRc u oc n hw d) ∧ Hd (KSc (u.2.1 140) (u.1 135 19) ((d, q) :: sk))))) 0 0 (sF G) := by
  refine sEnter (by decide) (Nat.le_of_ble_eq_true rfl) ?_
  intro p e s m args below meth c Cx hr hlk hnm hW ls hl
  have Cx : sC G p m c cX2_keep 4 s args RX2 := Cx
  obtain ⟨hx, hb, hml, hown, hts⟩ := id Cx.1
  have hL : sL G [] := sL_nil
  have hl : lv_has ls 4 [(0, .ref (G.2.2.1 + 135)), (1, .int (iv q))] := hl
  have hW0 := hW
  obtain ⟨hoc, hod, hcd, hec, hed⟩ := id hdq
  have hd13 := hDR.2.2.2.2.1; have hd14 := hDR.2.2.2.2.2.1; have hd15 := hDR.2.2.2.2.2.2.1; have hd16 := hDR.2.2.2.2.2.2.2; have hm40 : 0 ≤ S.1 135 14 ∧ S.1 135 14 ≤ 40 := hI.fi 135 14 2 (by decide) rfl; have hp13 : 0 ≤ S.1 135 15 ∧ S.1 135 15 ≤ 13 := hI.fi 135 15 2 (by decide) rfl
  refine lv_aload_n hx hb dX2_keep_0 rfl (lv_at hl 0 rfl) ?_
  have q_1 : 0 ≤ S.1 135 14 ∧ S.1 135 14 ≤ 40 := hI.fi 135 14 2 (by decide) rfl
  refine g_X2_66 Cx hW (k := 135) (by decide) rfl (v := S.1 135 14) rfl dX2_keep_1 ?_
  refine lv_iconst (v := iv 1) hx hb dX2_keep_4 (by decide) ?_
  refine r_iadd hx hb dX2_keep_5 ?_
  refine lv_iconst (v := iv 0) hx hb dX2_keep_6 (by decide) ?_
  refine sBi (sSt (As := [.int (iv ((S.1 135 14) + 1)), .int (iv 0)]) (rest := []) Cx (s_X2_at l G S (i := (S.1 135 14) + 1) (j := 0) (by omega) (by omega)) (c_X2_77 Cx rfl rfl (rmk_ok (by omega) (by decide))) hW rfl hl.1 rfl (Nat.le_of_ble_eq_true rfl) dX2_keep_7 ⟨Nat.le_of_ble_eq_true rfl, Nat.le_of_ble_eq_true rfl⟩) hL (fun r_4 u_2 H locs k_3 hW hL => ?_)
  obtain ⟨eu_2, xu_2⟩ := k_3
  rw [eu_2] at hW
  refine lv_istore_n (lv' := [(2, .int (iv r_4)), (0, .ref (G.2.2.1 + 135)), (1, .int (iv q))]) hx hb dX2_keep_10 rfl hl (by decide) rfl (fun ls hl => ?_)
  refine lv_aload_n hx hb dX2_keep_11 rfl (lv_at hl 1 rfl) ?_
  have q_5 : 0 ≤ S.1 135 19 ∧ S.1 135 19 ≤ 102220 := hI.fi 135 19 2 (by decide) rfl
  refine g_X2_74 Cx hW (k := 135) (by decide) rfl (v := S.1 135 19) rfl dX2_keep_12 ?_
  refine lv_iload_n hx hb dX2_keep_15 rfl (lv_at hl 0 rfl) ?_
  refine r_iadd hx hb dX2_keep_16 ?_
  refine lv_aload_n hx hb dX2_keep_17 rfl (lv_at hl 1 rfl) ?_
  refine g_X2_66 Cx hW (k := 135) (by decide) rfl (v := S.1 135 14) rfl dX2_keep_18 ?_
  refine r_iadd hx hb dX2_keep_21 ?_
  refine lv_aload_n hx hb dX2_keep_22 rfl (lv_at hl 1 rfl) ?_
  have q_6 : 0 ≤ S.1 135 15 ∧ S.1 135 15 ≤ 13 := hI.fi 135 15 2 (by decide) rfl
  refine g_X2_67 Cx hW (k := 135) (by decide) rfl (v := S.1 135 15) rfl dX2_keep_23 ?_
  refine r_iadd hx hb dX2_keep_26 ?_
  refine lv_iconst (v := iv 3) hx hb dX2_keep_27 (by decide) ?_
  refine r_iadd hx hb dX2_keep_28 ?_
  refine lv_istore_n (lv' := [(3, .int (iv (((((S.1 135 19) + r_4) + (S.1 135 14)) + (S.1 135 15)) + 3))), (2, .int (iv r_4)), (0, .ref (G.2.2.1 + 135)), (1, .int (iv q))]) hx hb dX2_keep_29 rfl hl (by decide) rfl (fun ls hl => ?_)
  refine lv_iload_n hx hb dX2_keep_30 rfl (lv_at hl 0 rfl) ?_
  refine lv_aload_n hx hb dX2_keep_31 rfl (lv_at hl 2 rfl) ?_
  refine g_X2_27 Cx hW (k := 135) (by decide) rfl (v := .ref (G.2.2.1 + 140)) (rf_135_4 hI) dX2_keep_32 ?_
  refine sAlen Cx hW (k := 140) (by decide) rfl 0 rfl dX2_keep_35 ?_
  refine r_icmp_le (tgt := 40) hx hb ⟨(by omega), (by omega)⟩ ⟨(by omega), (by omega)⟩ dX2_keep_36 (by decide) (fun c_7 => ?_) (fun c_7 => ?_)
  · obtain ⟨⟨nk, hkn⟩, hdd⟩ := hI.ko
    refine lv_aload_n hx hb dX2_keep_40 rfl (lv_at hl 2 rfl) ?_
    refine g_X2_13 Cx hW (k := 135) (by decide) rfl (v := .ref (G.2.2.1 + oc)) hec dX2_keep_41 ?_
    refine lv_iconst (v := iv 0) hx hb dX2_keep_44 (by decide) ?_
    refine lv_aload_n hx hb dX2_keep_45 rfl (lv_at hl 2 rfl) ?_
    refine g_X2_27 Cx hW (k := 135) (by decide) rfl (v := .ref (G.2.2.1 + 140)) (rf_135_4 hI) dX2_keep_46 ?_
    refine lv_aload_n hx hb dX2_keep_49 rfl (lv_at hl 2 rfl) ?_
    refine g_X2_74 Cx hW (k := 135) (by decide) rfl (v := S.1 135 19) rfl dX2_keep_50 ?_
    refine lv_iload_n hx hb dX2_keep_53 rfl (lv_at hl 1 rfl) ?_
    refine rCopyI Cx hW hL (hml.trans hl.1.symm) w_1546 w_1089 w_1088 w_224 (k0 := oc) (k1 := 140) (dic_l hoc) (dic_t hoc) (by decide) rfl (by decide) (by decide) (by omega) (by omega) (by omega) (by omega) (by omega) (rmk_f (by omega)) (rmk_l (by omega) (by decide)) dX2_keep_54 (fun H locs hW hL => ?_)
    have F_8 : Fr S (uC S oc 0 140 (S.1 135 19) r_4) pJ := (Fr.rf : Fr S S pJ).C rfl
    have i_9 : cX G (uC S oc 0 140 (S.1 135 19) r_4) 0 0 0 := hI.kC (by omega) (fun j => sla_r (dic_a hoc) hI j)
    refine lv_aload_n hx hb dX2_keep_57 rfl (lv_at hl 2 rfl) ?_
    refine g_X2_20 Cx hW (k := 135) (by decide) rfl (v := .ref (G.2.2.1 + 138)) (rf_135_2 i_9) dX2_keep_58 ?_
    refine lv_iconst (v := iv 1) hx hb dX2_keep_61 (by decide) ?_
    refine lv_aload_n hx hb dX2_keep_62 rfl (lv_at hl 2 rfl) ?_
    refine g_X2_27 Cx hW (k := 135) (by decide) rfl (v := .ref (G.2.2.1 + 140)) (rf_135_4 i_9) dX2_keep_63 ?_
    refine lv_aload_n hx hb dX2_keep_66 rfl (lv_at hl 2 rfl) ?_
    refine g_X2_74 Cx hW (k := 135) (by decide) rfl (v := S.1 135 19) uC_f dX2_keep_67 ?_
    refine lv_iload_n hx hb dX2_keep_70 rfl (lv_at hl 1 rfl) ?_
    refine r_iadd hx hb dX2_keep_71 ?_
    refine lv_aload_n hx hb dX2_keep_72 rfl (lv_at hl 2 rfl) ?_
    refine g_X2_66 Cx hW (k := 135) (by decide) rfl (v := S.1 135 14) uC_f dX2_keep_73 ?_
    refine rCopyI Cx hW hL (hml.trans hl.1.symm) w_1546 w_1089 w_1088 w_224 (k0 := 138) (k1 := 140) (by decide) rfl (by decide) rfl (by decide) (by decide) (by omega) (by omega) (by omega) (by omega) (by omega) (rmk_f (by omega)) (rmk_l (by omega) (by decide)) dX2_keep_76 (fun H locs hW hL => ?_)
    have lk_10 : (uC S oc 0 140 (S.1 135 19) r_4).1 135 19 = S.1 135 19 := uC_f
    have lk_11 : (uC S oc 0 140 (S.1 135 19) r_4).1 135 14 = S.1 135 14 := uC_f
    have lk_12 : (uC S oc 0 140 (S.1 135 19) r_4).1 135 15 = S.1 135 15 := uC_f
    have F_13 : Fr S (uC (uC S oc 0 140 (S.1 135 19) r_4) 138 1 140 ((S.1 135 19) + r_4) (S.1 135 14)) pJ := F_8.C rfl
    have i_14 : cX G (uC (uC S oc 0 140 (S.1 135 19) r_4) 138 1 140 ((S.1 135 19) + r_4) (S.1 135 14)) 0 0 0 := i_9.kC (by omega) (fun j => i_9.ai 138 j (by decide))
    refine lv_aload_n hx hb dX2_keep_79 rfl (lv_at hl 2 rfl) ?_
    refine g_X2_23 Cx hW (k := 135) (by decide) rfl (v := .ref (G.2.2.1 + 139)) (rf_135_3 i_14) dX2_keep_80 ?_
    refine lv_iconst (v := iv 1) hx hb dX2_keep_83 (by decide) ?_
    refine lv_aload_n hx hb dX2_keep_84 rfl (lv_at hl 2 rfl) ?_
    refine g_X2_27 Cx hW (k := 135) (by decide) rfl (v := .ref (G.2.2.1 + 140)) (rf_135_4 i_14) dX2_keep_85 ?_
    refine lv_aload_n hx hb dX2_keep_88 rfl (lv_at hl 2 rfl) ?_
    refine g_X2_74 Cx hW (k := 135) (by decide) rfl (v := S.1 135 19) ((uC_f).trans (uC_f)) dX2_keep_89 ?_
    refine lv_iload_n hx hb dX2_keep_92 rfl (lv_at hl 1 rfl) ?_
    refine r_iadd hx hb dX2_keep_93 ?_
    refine lv_aload_n hx hb dX2_keep_94 rfl (lv_at hl 2 rfl) ?_
    refine g_X2_66 Cx hW (k := 135) (by decide) rfl (v := S.1 135 14) ((uC_f).trans (uC_f)) dX2_keep_95 ?_
    refine r_iadd hx hb dX2_keep_98 ?_
    refine lv_aload_n hx hb dX2_keep_99 rfl (lv_at hl 2 rfl) ?_
    refine g_X2_67 Cx hW (k := 135) (by decide) rfl (v := S.1 135 15) ((uC_f).trans (uC_f)) dX2_keep_100 ?_
    refine rCopyI Cx hW hL (hml.trans hl.1.symm) w_1546 w_1089 w_1088 w_224 (k0 := 139) (k1 := 140) (by decide) rfl (by decide) rfl (by decide) (by decide) (by omega) (by omega) (by omega) (by omega) (by omega) (rmk_f (by omega)) (rmk_l (by omega) (by decide)) dX2_keep_103 (fun H locs hW hL => ?_)
    have lk_15 : (uC (uC S oc 0 140 (S.1 135 19) r_4) 138 1 140 ((S.1 135 19) + r_4) (S.1 135 14)).1 135 19 = S.1 135 19 := (uC_f).trans (uC_f)
    have lk_16 : (uC (uC S oc 0 140 (S.1 135 19) r_4) 138 1 140 ((S.1 135 19) + r_4) (S.1 135 14)).1 135 14 = S.1 135 14 := (uC_f).trans (uC_f)
    have lk_17 : (uC (uC S oc 0 140 (S.1 135 19) r_4) 138 1 140 ((S.1 135 19) + r_4) (S.1 135 14)).1 135 15 = S.1 135 15 := (uC_f).trans (uC_f)
    have F_18 : Fr S (uC (uC (uC S oc 0 140 (S.1 135 19) r_4) 138 1 140 ((S.1 135 19) + r_4) (S.1 135 14)) 139 1 140 (((S.1 135 19) + r_4) + (S.1 135 14)) (S.1 135 15)) pJ := F_13.C rfl
    have i_19 : cX G (uC (uC (uC S oc 0 140 (S.1 135 19) r_4) 138 1 140 ((S.1 135 19) + r_4) (S.1 135 14)) 139 1 140 (((S.1 135 19) + r_4) + (S.1 135 14)) (S.1 135 15)) 0 0 0 := i_14.kC (by omega) (fun j => i_14.ai 139 j (by decide))
    refine lv_aload_n hx hb dX2_keep_106 rfl (lv_at hl 2 rfl) ?_
    refine g_X2_27 Cx hW (k := 135) (by decide) rfl (v := .ref (G.2.2.1 + 140)) (rf_135_4 i_19) dX2_keep_107 ?_
    refine lv_iload_n hx hb dX2_keep_110 rfl (lv_at hl 0 rfl) ?_
    refine lv_iconst (v := iv 3) hx hb dX2_keep_111 (by decide) ?_
    refine r_isub hx hb dX2_keep_112 ?_
    refine lv_iload_n hx hb dX2_keep_113 rfl (lv_at hl 3 rfl) ?_
    refine rIast Cx hW hL (k := 140) (by decide) rfl (by decide) (by omega) (by omega) dX2_keep_114 (fun H locs hW hL => ?_)
    have lk_20 : (uC (uC (uC S oc 0 140 (S.1 135 19) r_4) 138 1 140 ((S.1 135 19) + r_4) (S.1 135 14)) 139 1 140 (((S.1 135 19) + r_4) + (S.1 135 14)) (S.1 135 15)).1 135 19 = S.1 135 19 := (uC_f).trans ((uC_f).trans (uC_f))
    have lk_21 : (uC (uC (uC S oc 0 140 (S.1 135 19) r_4) 138 1 140 ((S.1 135 19) + r_4) (S.1 135 14)) 139 1 140 (((S.1 135 19) + r_4) + (S.1 135 14)) (S.1 135 15)).1 135 14 = S.1 135 14 := (uC_f).trans ((uC_f).trans (uC_f))
    have lk_22 : (uC (uC (uC S oc 0 140 (S.1 135 19) r_4) 138 1 140 ((S.1 135 19) + r_4) (S.1 135 14)) 139 1 140 (((S.1 135 19) + r_4) + (S.1 135 14)) (S.1 135 15)).1 135 15 = S.1 135 15 := (uC_f).trans ((uC_f).trans (uC_f))
    have F_23 : Fr S (uA (uC (uC (uC S oc 0 140 (S.1 135 19) r_4) 138 1 140 ((S.1 135 19) + r_4) (S.1 135 14)) 139 1 140 (((S.1 135 19) + r_4) + (S.1 135 14)) (S.1 135 15)) 140 ((((((S.1 135 19) + r_4) + (S.1 135 14)) + (S.1 135 15)) + 3) - 3) q) pJ := F_18.A rfl
    have i_24 : cX G (uA (uC (uC (uC S oc 0 140 (S.1 135 19) r_4) 138 1 140 ((S.1 135 19) + r_4) (S.1 135 14)) 139 1 140 (((S.1 135 19) + r_4) + (S.1 135 14)) (S.1 135 15)) 140 ((((((S.1 135 19) + r_4) + (S.1 135 14)) + (S.1 135 15)) + 3) - 3) q) 0 0 0 := i_19.kA (by omega) ⟨by omega, by omega⟩
    refine lv_aload_n hx hb dX2_keep_115 rfl (lv_at hl 2 rfl) ?_
    refine g_X2_27 Cx hW (k := 135) (by decide) rfl (v := .ref (G.2.2.1 + 140)) (rf_135_4 i_24) dX2_keep_116 ?_
    refine lv_iload_n hx hb dX2_keep_119 rfl (lv_at hl 0 rfl) ?_
    refine lv_iconst (v := iv 2) hx hb dX2_keep_120 (by decide) ?_
    refine r_isub hx hb dX2_keep_121 ?_
    refine lv_aload_n hx hb dX2_keep_122 rfl (lv_at hl 2 rfl) ?_
    refine g_X2_66 Cx hW (k := 135) (by decide) rfl (v := S.1 135 14) ((uA_f).trans ((uC_f).trans ((uC_f).trans (uC_f)))) dX2_keep_123 ?_
    refine rIast Cx hW hL (k := 140) (by decide) rfl (by decide) (by omega) (by omega) dX2_keep_126 (fun H locs hW hL => ?_)
    have lk_25 : (uA (uC (uC (uC S oc 0 140 (S.1 135 19) r_4) 138 1 140 ((S.1 135 19) + r_4) (S.1 135 14)) 139 1 140 (((S.1 135 19) + r_4) + (S.1 135 14)) (S.1 135 15)) 140 ((((((S.1 135 19) + r_4) + (S.1 135 14)) + (S.1 135 15)) + 3) - 3) q).1 135 19 = S.1 135 19 := (uA_f).trans ((uC_f).trans ((uC_f).trans (uC_f)))
    have lk_26 : (uA (uC (uC (uC S oc 0 140 (S.1 135 19) r_4) 138 1 140 ((S.1 135 19) + r_4) (S.1 135 14)) 139 1 140 (((S.1 135 19) + r_4) + (S.1 135 14)) (S.1 135 15)) 140 ((((((S.1 135 19) + r_4) + (S.1 135 14)) + (S.1 135 15)) + 3) - 3) q).1 135 14 = S.1 135 14 := (uA_f).trans ((uC_f).trans ((uC_f).trans (uC_f)))
    have lk_27 : (uA (uC (uC (uC S oc 0 140 (S.1 135 19) r_4) 138 1 140 ((S.1 135 19) + r_4) (S.1 135 14)) 139 1 140 (((S.1 135 19) + r_4) + (S.1 135 14)) (S.1 135 15)) 140 ((((((S.1 135 19) + r_4) + (S.1 135 14)) + (S.1 135 15)) + 3) - 3) q).1 135 15 = S.1 135 15 := (uA_f).trans ((uC_f).trans ((uC_f).trans (uC_f)))
    have F_28 : Fr S (uA (uA (uC (uC (uC S oc 0 140 (S.1 135 19) r_4) 138 1 140 ((S.1 135 19) + r_4) (S.1 135 14)) 139 1 140 (((S.1 135 19) + r_4) + (S.1 135 14)) (S.1 135 15)) 140 ((((((S.1 135 19) + r_4) + (S.1 135 14)) + (S.1 135 15)) + 3) - 3) q) 140 ((((((S.1 135 19) + r_4) + (S.1 135 14)) + (S.1 135 15)) + 3) - 2) (S.1 135 14)) pJ := F_23.A rfl
    have i_29 : cX G (uA (uA (uC (uC (uC S oc 0 140 (S.1 135 19) r_4) 138 1 140 ((S.1 135 19) + r_4) (S.1 135 14)) 139 1 140 (((S.1 135 19) + r_4) + (S.1 135 14)) (S.1 135 15)) 140 ((((((S.1 135 19) + r_4) + (S.1 135 14)) + (S.1 135 15)) + 3) - 3) q) 140 ((((((S.1 135 19) + r_4) + (S.1 135 14)) + (S.1 135 15)) + 3) - 2) (S.1 135 14)) 0 0 0 := i_24.kA (by omega) ⟨by omega, by omega⟩
    refine lv_aload_n hx hb dX2_keep_127 rfl (lv_at hl 2 rfl) ?_
    refine g_X2_27 Cx hW (k := 135) (by decide) rfl (v := .ref (G.2.2.1 + 140)) (rf_135_4 i_29) dX2_keep_128 ?_
    refine lv_iload_n hx hb dX2_keep_131 rfl (lv_at hl 0 rfl) ?_
    refine lv_iconst (v := iv 1) hx hb dX2_keep_132 (by decide) ?_
    refine r_isub hx hb dX2_keep_133 ?_
    refine lv_aload_n hx hb dX2_keep_134 rfl (lv_at hl 2 rfl) ?_
    refine g_X2_67 Cx hW (k := 135) (by decide) rfl (v := S.1 135 15) ((uA_f).trans ((uA_f).trans ((uC_f).trans ((uC_f).trans (uC_f))))) dX2_keep_135 ?_
    refine rIast Cx hW hL (k := 140) (by decide) rfl (by decide) (by omega) (by omega) dX2_keep_138 (fun H locs hW hL => ?_)
    have lk_30 : (uA (uA (uC (uC (uC S oc 0 140 (S.1 135 19) r_4) 138 1 140 ((S.1 135 19) + r_4) (S.1 135 14)) 139 1 140 (((S.1 135 19) + r_4) + (S.1 135 14)) (S.1 135 15)) 140 ((((((S.1 135 19) + r_4) + (S.1 135 14)) + (S.1 135 15)) + 3) - 3) q) 140 ((((((S.1 135 19) + r_4) + (S.1 135 14)) + (S.1 135 15)) + 3) - 2) (S.1 135 14)).1 135 19 = S.1 135 19 := (uA_f).trans ((uA_f).trans ((uC_f).trans ((uC_f).trans (uC_f))))
    have lk_31 : (uA (uA (uC (uC (uC S oc 0 140 (S.1 135 19) r_4) 138 1 140 ((S.1 135 19) + r_4) (S.1 135 14)) 139 1 140 (((S.1 135 19) + r_4) + (S.1 135 14)) (S.1 135 15)) 140 ((((((S.1 135 19) + r_4) + (S.1 135 14)) + (S.1 135 15)) + 3) - 3) q) 140 ((((((S.1 135 19) + r_4) + (S.1 135 14)) + (S.1 135 15)) + 3) - 2) (S.1 135 14)).1 135 14 = S.1 135 14 := (uA_f).trans ((uA_f).trans ((uC_f).trans ((uC_f).trans (uC_f))))
    have lk_32 : (uA (uA (uC (uC (uC S oc 0 140 (S.1 135 19) r_4) 138 1 140 ((S.1 135 19) + r_4) (S.1 135 14)) 139 1 140 (((S.1 135 19) + r_4) + (S.1 135 14)) (S.1 135 15)) 140 ((((((S.1 135 19) + r_4) + (S.1 135 14)) + (S.1 135 15)) + 3) - 3) q) 140 ((((((S.1 135 19) + r_4) + (S.1 135 14)) + (S.1 135 15)) + 3) - 2) (S.1 135 14)).1 135 15 = S.1 135 15 := (uA_f).trans ((uA_f).trans ((uC_f).trans ((uC_f).trans (uC_f))))
    have F_33 : Fr S (uA (uA (uA (uC (uC (uC S oc 0 140 (S.1 135 19) r_4) 138 1 140 ((S.1 135 19) + r_4) (S.1 135 14)) 139 1 140 (((S.1 135 19) + r_4) + (S.1 135 14)) (S.1 135 15)) 140 ((((((S.1 135 19) + r_4) + (S.1 135 14)) + (S.1 135 15)) + 3) - 3) q) 140 ((((((S.1 135 19) + r_4) + (S.1 135 14)) + (S.1 135 15)) + 3) - 2) (S.1 135 14)) 140 ((((((S.1 135 19) + r_4) + (S.1 135 14)) + (S.1 135 15)) + 3) - 1) (S.1 135 15)) pJ := F_28.A rfl
    have i_34 : cX G (uA (uA (uA (uC (uC (uC S oc 0 140 (S.1 135 19) r_4) 138 1 140 ((S.1 135 19) + r_4) (S.1 135 14)) 139 1 140 (((S.1 135 19) + r_4) + (S.1 135 14)) (S.1 135 15)) 140 ((((((S.1 135 19) + r_4) + (S.1 135 14)) + (S.1 135 15)) + 3) - 3) q) 140 ((((((S.1 135 19) + r_4) + (S.1 135 14)) + (S.1 135 15)) + 3) - 2) (S.1 135 14)) 140 ((((((S.1 135 19) + r_4) + (S.1 135 14)) + (S.1 135 15)) + 3) - 1) (S.1 135 15)) 0 0 0 := i_29.kA (by omega) ⟨by omega, by omega⟩
    refine lv_aload_n hx hb dX2_keep_139 rfl (lv_at hl 2 rfl) ?_
    refine lv_iload_n hx hb dX2_keep_140 rfl (lv_at hl 0 rfl) ?_
    refine p_X2_74 Cx hW hL (k := 135) (by decide) rfl dX2_keep_141 (fun H locs hW hL => ?_)
    have F_35 : Fr S (uF (uA (uA (uA (uC (uC (uC S oc 0 140 (S.1 135 19) r_4) 138 1 140 ((S.1 135 19) + r_4) (S.1 135 14)) 139 1 140 (((S.1 135 19) + r_4) + (S.1 135 14)) (S.1 135 15)) 140 ((((((S.1 135 19) + r_4) + (S.1 135 14)) + (S.1 135 15)) + 3) - 3) q) 140 ((((((S.1 135 19) + r_4) + (S.1 135 14)) + (S.1 135 15)) + 3) - 2) (S.1 135 14)) 140 ((((((S.1 135 19) + r_4) + (S.1 135 14)) + (S.1 135 15)) + 3) - 1) (S.1 135 15)) 135 19 (((((S.1 135 19) + r_4) + (S.1 135 14)) + (S.1 135 15)) + 3)) pJ := F_33.F rfl
    have i_36 : cX G (uF (uA (uA (uA (uC (uC (uC S oc 0 140 (S.1 135 19) r_4) 138 1 140 ((S.1 135 19) + r_4) (S.1 135 14)) 139 1 140 (((S.1 135 19) + r_4) + (S.1 135 14)) (S.1 135 15)) 140 ((((((S.1 135 19) + r_4) + (S.1 135 14)) + (S.1 135 15)) + 3) - 3) q) 140 ((((((S.1 135 19) + r_4) + (S.1 135 14)) + (S.1 135 15)) + 3) - 2) (S.1 135 14)) 140 ((((((S.1 135 19) + r_4) + (S.1 135 14)) + (S.1 135 15)) + 3) - 1) (S.1 135 15)) 135 19 (((((S.1 135 19) + r_4) + (S.1 135 14)) + (S.1 135 15)) + 3)) 0 0 0 := i_34.kend ⟨by omega, by omega⟩ (keepK hkn (by omega) hoc (by omega) (by omega) (by omega) (by omega) (by omega) (by omega) (by omega) (by omega) (by omega) (by omega) (fun j => hI.ai 140 j (by decide)) (fun j => hI.ai 138 j (by decide)) (fun j => hI.ai 139 j (by decide)) (fun j => sla_r (dic_a hoc) hI j) (dicD hI hoc) (fun a a0 a1 a2 => dicS hI hoc (by omega)))
    have lk_37 : (uF (uA (uA (uA (uC (uC (uC S oc 0 140 (S.1 135 19) r_4) 138 1 140 ((S.1 135 19) + r_4) (S.1 135 14)) 139 1 140 (((S.1 135 19) + r_4) + (S.1 135 14)) (S.1 135 15)) 140 ((((((S.1 135 19) + r_4) + (S.1 135 14)) + (S.1 135 15)) + 3) - 3) q) 140 ((((((S.1 135 19) + r_4) + (S.1 135 14)) + (S.1 135 15)) + 3) - 2) (S.1 135 14)) 140 ((((((S.1 135 19) + r_4) + (S.1 135 14)) + (S.1 135 15)) + 3) - 1) (S.1 135 15)) 135 19 (((((S.1 135 19) + r_4) + (S.1 135 14)) + (S.1 135 15)) + 3)).1 135 19 = ((((S.1 135 19) + r_4) + (S.1 135 14)) + (S.1 135 15)) + 3 := uF_on
    exact sVret Cx hr hlk hW hL ⟨i_36, F_35, ⟨⟨hoc, hod, (neD hcd), (((uF_r).trans ((uA_r).trans ((uA_r).trans ((uA_r).trans ((uC_r).trans ((uC_r).trans (uC_r))))))).trans hec), (((uF_r).trans ((uA_r).trans ((uA_r).trans ((uA_r).trans ((uC_r).trans ((uC_r).trans (uC_r))))))).trans hed)⟩, (DRc.of hDR (show (uF (uA (uA (uA (uC (uC (uC S oc 0 140 (S.1 135 19) r_4) 138 1 140 ((S.1 135 19) + r_4) (S.1 135 14)) 139 1 140 (((S.1 135 19) + r_4) + (S.1 135 14)) (S.1 135 15)) 140 ((((((S.1 135 19) + r_4) + (S.1 135 14)) + (S.1 135 15)) + 3) - 3) q) 140 ((((((S.1 135 19) + r_4) + (S.1 135 14)) + (S.1 135 15)) + 3) - 2) (S.1 135 14)) 140 ((((((S.1 135 19) + r_4) + (S.1 135 14)) + (S.1 135 15)) + 3) - 1) (S.1 135 15)) 135 19 (((((S.1 135 19) + r_4) + (S.1 135 14)) + (S.1 135 15)) + 3)).1 135 13 = S.1 135 13 from (uF_ne (fun h => absurd h.2 (by decide))).trans ((uA_f).trans ((uA_f).trans ((uA_f).trans ((uC_f).trans ((uC_f).trans (uC_f))))))) (show (uF (uA (uA (uA (uC (uC (uC S oc 0 140 (S.1 135 19) r_4) 138 1 140 ((S.1 135 19) + r_4) (S.1 135 14)) 139 1 140 (((S.1 135 19) + r_4) + (S.1 135 14)) (S.1 135 15)) 140 ((((((S.1 135 19) + r_4) + (S.1 135 14)) + (S.1 135 15)) + 3) - 3) q) 140 ((((((S.1 135 19) + r_4) + (S.1 135 14)) + (S.1 135 15)) + 3) - 2) (S.1 135 14)) 140 ((((((S.1 135 19) + r_4) + (S.1 135 14)) + (S.1 135 15)) + 3) - 1) (S.1 135 15)) 135 19 (((((S.1 135 19) + r_4) + (S.1 135 14)) + (S.1 135 15)) + 3)).1 135 14 = S.1 135 14 from (uF_ne (fun h => absurd h.2 (by decide))).trans ((uA_f).trans ((uA_f).trans ((uA_f).trans ((uC_f).trans ((uC_f).trans (uC_f))))))) (show (uF (uA (uA (uA (uC (uC (uC S oc 0 140 (S.1 135 19) r_4) 138 1 140 ((S.1 135 19) + r_4) (S.1 135 14)) 139 1 140 (((S.1 135 19) + r_4) + (S.1 135 14)) (S.1 135 15)) 140 ((((((S.1 135 19) + r_4) + (S.1 135 14)) + (S.1 135 15)) + 3) - 3) q) 140 ((((((S.1 135 19) + r_4) + (S.1 135 14)) + (S.1 135 15)) + 3) - 2) (S.1 135 14)) 140 ((((((S.1 135 19) + r_4) + (S.1 135 14)) + (S.1 135 15)) + 3) - 1) (S.1 135 15)) 135 19 (((((S.1 135 19) + r_4) + (S.1 135 14)) + (S.1 135 15)) + 3)).1 135 15 = S.1 135 15 from (uF_ne (fun h => absurd h.2 (by decide))).trans ((uA_f).trans ((uA_f).trans ((uA_f).trans ((uC_f).trans ((uC_f).trans (uC_f))))))) (show (uF (uA (uA (uA (uC (uC (uC S oc 0 140 (S.1 135 19) r_4) 138 1 140 ((S.1 135 19) + r_4) (S.1 135 14)) 139 1 140 (((S.1 135 19) + r_4) + (S.1 135 14)) (S.1 135 15)) 140 ((((((S.1 135 19) + r_4) + (S.1 135 14)) + (S.1 135 15)) + 3) - 3) q) 140 ((((((S.1 135 19) + r_4) + (S.1 135 14)) + (S.1 135 15)) + 3) - 2) (S.1 135 14)) 140 ((((((S.1 135 19) + r_4) + (S.1 135 14)) + (S.1 135 15)) + 3) - 1) (S.1 135 15)) 135 19 (((((S.1 135 19) + r_4) + (S.1 135 14)) + (S.1 135 15)) + 3)).1 135 16 = S.1 135 16 from (uF_ne (fun h => absurd h.2 (by decide))).trans ((uA_f).trans ((uA_f).trans ((uA_f).trans ((uC_f).trans ((uC_f).trans (uC_f))))))) (show (uF (uA (uA (uA (uC (uC (uC S oc 0 140 (S.1 135 19) r_4) 138 1 140 ((S.1 135 19) + r_4) (S.1 135 14)) 139 1 140 (((S.1 135 19) + r_4) + (S.1 135 14)) (S.1 135 15)) 140 ((((((S.1 135 19) + r_4) + (S.1 135 14)) + (S.1 135 15)) + 3) - 3) q) 140 ((((((S.1 135 19) + r_4) + (S.1 135 14)) + (S.1 135 15)) + 3) - 2) (S.1 135 14)) 140 ((((((S.1 135 19) + r_4) + (S.1 135 14)) + (S.1 135 15)) + 3) - 1) (S.1 135 15)) 135 19 (((((S.1 135 19) + r_4) + (S.1 135 14)) + (S.1 135 15)) + 3)).2.1 oc = S.2.1 oc from funext fun x => (uF_a).trans ((uA_ne (fun h => absurd h.1 (ac_ne (dic_c hoc) (rfl : acode 140 = 11) (by decide)))).trans ((uA_ne (fun h => absurd h.1 (ac_ne (dic_c hoc) (rfl : acode 140 = 11) (by decide)))).trans ((uA_ne (fun h => absurd h.1 (ac_ne (dic_c hoc) (rfl : acode 140 = 11) (by decide)))).trans ((uC_ne (ac_ne (dic_c hoc) (rfl : acode 140 = 11) (by decide))).trans ((uC_ne (ac_ne (dic_c hoc) (rfl : acode 140 = 11) (by decide))).trans (uC_ne (ac_ne (dic_c hoc) (rfl : acode 140 = 11) (by decide))))))))) (show (uF (uA (uA (uA (uC (uC (uC S oc 0 140 (S.1 135 19) r_4) 138 1 140 ((S.1 135 19) + r_4) (S.1 135 14)) 139 1 140 (((S.1 135 19) + r_4) + (S.1 135 14)) (S.1 135 15)) 140 ((((((S.1 135 19) + r_4) + (S.1 135 14)) + (S.1 135 15)) + 3) - 3) q) 140 ((((((S.1 135 19) + r_4) + (S.1 135 14)) + (S.1 135 15)) + 3) - 2) (S.1 135 14)) 140 ((((((S.1 135 19) + r_4) + (S.1 135 14)) + (S.1 135 15)) + 3) - 1) (S.1 135 15)) 135 19 (((((S.1 135 19) + r_4) + (S.1 135 14)) + (S.1 135 15)) + 3)).2.1 138 = S.2.1 138 from funext fun x => (uF_a).trans ((uA_ne (fun h => absurd h.1 (by decide))).trans ((uA_ne (fun h => absurd h.1 (by decide))).trans ((uA_ne (fun h => absurd h.1 (by decide))).trans ((uC_ne (by decide)).trans ((uC_ne (by decide)).trans (uC_ne (by decide)))))))) (show (uF (uA (uA (uA (uC (uC (uC S oc 0 140 (S.1 135 19) r_4) 138 1 140 ((S.1 135 19) + r_4) (S.1 135 14)) 139 1 140 (((S.1 135 19) + r_4) + (S.1 135 14)) (S.1 135 15)) 140 ((((((S.1 135 19) + r_4) + (S.1 135 14)) + (S.1 135 15)) + 3) - 3) q) 140 ((((((S.1 135 19) + r_4) + (S.1 135 14)) + (S.1 135 15)) + 3) - 2) (S.1 135 14)) 140 ((((((S.1 135 19) + r_4) + (S.1 135 14)) + (S.1 135 15)) + 3) - 1) (S.1 135 15)) 135 19 (((((S.1 135 19) + r_4) + (S.1 135 14)) + (S.1 135 15)) + 3)).2.1 139 = S.2.1 139 from funext fun x => (uF_a).trans ((uA_ne (fun h => absurd h.1 (by decide))).trans ((uA_ne (fun h => absurd h.1 (by decide))).trans ((uA_ne (fun h => absurd h.1 (by decide))).trans ((uC_ne (by decide)).trans ((uC_ne (by decide)).trans (uC_ne (by decide))))))))), (show KSc ((uF (uA (uA (uA (uC (uC (uC S oc 0 140 (S.1 135 19) r_4) 138 1 140 ((S.1 135 19) + r_4) (S.1 135 14)) 139 1 140 (((S.1 135 19) + r_4) + (S.1 135 14)) (S.1 135 15)) 140 ((((((S.1 135 19) + r_4) + (S.1 135 14)) + (S.1 135 15)) + 3) - 3) q) 140 ((((((S.1 135 19) + r_4) + (S.1 135 14)) + (S.1 135 15)) + 3) - 2) (S.1 135 14)) 140 ((((((S.1 135 19) + r_4) + (S.1 135 14)) + (S.1 135 15)) + 3) - 1) (S.1 135 15)) 135 19 (((((S.1 135 19) + r_4) + (S.1 135 14)) + (S.1 135 15)) + 3)).2.1 140) ((uF (uA (uA (uA (uC (uC (uC S oc 0 140 (S.1 135 19) r_4) 138 1 140 ((S.1 135 19) + r_4) (S.1 135 14)) 139 1 140 (((S.1 135 19) + r_4) + (S.1 135 14)) (S.1 135 15)) 140 ((((((S.1 135 19) + r_4) + (S.1 135 14)) + (S.1 135 15)) + 3) - 3) q) 140 ((((((S.1 135 19) + r_4) + (S.1 135 14)) + (S.1 135 15)) + 3) - 2) (S.1 135 14)) 140 ((((((S.1 135 19) + r_4) + (S.1 135 14)) + (S.1 135 15)) + 3) - 1) (S.1 135 15)) 135 19 (((((S.1 135 19) + r_4) + (S.1 135 14)) + (S.1 135 15)) + 3)).1 135 19) ((d, q) :: sk) by rw [(uF_on : (uF (uA (uA (uA (uC (uC (uC S oc 0 140 (S.1 135 19) r_4) 138 1 140 ((S.1 135 19) + r_4) (S.1 135 14)) 139 1 140 (((S.1 135 19) + r_4) + (S.1 135 14)) (S.1 135 15)) 140 ((((((S.1 135 19) + r_4) + (S.1 135 14)) + (S.1 135 15)) + 3) - 3) q) 140 ((((((S.1 135 19) + r_4) + (S.1 135 14)) + (S.1 135 15)) + 3) - 2) (S.1 135 14)) 140 ((((((S.1 135 19) + r_4) + (S.1 135 14)) + (S.1 135 15)) + 3) - 1) (S.1 135 15)) 135 19 (((((S.1 135 19) + r_4) + (S.1 135 14)) + (S.1 135 15)) + 3)).1 135 19 = _)]; exact keepS hK hso hDR hI hoc (by omega) (by omega) (by omega) (by omega) (by omega) (by omega) (by omega) (by omega) (by omega) (by omega))⟩⟩ dX2_keep_144
  · exact sVret Cx hr hlk hW hL ⟨hI, (Fr.rf : Fr S S pJ), (by exfalso; omega)⟩ dX2_keep_39

set_option maxRecDepth 100000 in
set_option maxHeartbeats 4000000 in
theorem v_X2_restore (l : Launch) (G : sG) (S : sS) {oc od : Nat} {n hw : Int} {d : dT} {bb q0 : Int} {d0 : dT} {sk : List (dT × Int)} (hI : cX G S 0 0 0) (hdq : dcs G S oc od) (hDR : Hd (DRc S oc n hw d)) (hK : Hd (KSc (S.2.1 140) (S.1 135 19) ((d0, q0) :: sk))) (hso : Hd (skO n bb ((d0, q0) :: sk))) : Met l yX2_restore (.code yX2_restore cX2_restore 6 (some .int) :: tb) (rmk 2 0 0) (sPc G 294 S [.ref (G.2.2.1 + 135)]) (sQi G 294 (fun r u => cX G u 0 0 0 ∧ Fr S u pRs ∧ (-1 ≤ r ∧ r = q0 ∧ dcs G u oc od ∧ Hd (hw = 0 → DRc u oc n hw d0) ∧ Hd (KSc (u.2.1 140) (u.1 135 19) sk)))) 0 0 (sF G) := by
  refine sEnter (by decide) (Nat.le_of_ble_eq_true rfl) ?_
  intro p e s m args below meth c Cx hr hlk hnm hW ls hl
  have Cx : sC G p m c cX2_restore 6 s args RX2 := Cx
  obtain ⟨hx, hb, hml, hown, hts⟩ := id Cx.1
  have hL : sL G [] := sL_nil
  have hl : lv_has ls 6 [(0, .ref (G.2.2.1 + 135))] := hl
  have hW0 := hW
  obtain ⟨hoc, hod, hcd, hec, hed⟩ := id hdq
  have hd13 := hDR.2.2.2.2.1; have hd14 := hDR.2.2.2.2.2.1; have hd15 := hDR.2.2.2.2.2.2.1; have hd16 := hDR.2.2.2.2.2.2.2; have hm40 : 0 ≤ S.1 135 14 ∧ S.1 135 14 ≤ 40 := hI.fi 135 14 2 (by decide) rfl; have hp13 : 0 ≤ S.1 135 15 ∧ S.1 135 15 ≤ 13 := hI.fi 135 15 2 (by decide) rfl
  obtain ⟨b, hb1, hb0, ⟨hf3, hf2, hf1⟩, hkL, hk0, hkT, hkB, hkN, hkt⟩ := id hK
  have hsd := hso.2.1.1; have hse := hso.2.1.2.1; have hsq := hso.2.2.1; simp only [] at hb1 hf3 hf2 hf1 hsd hse hsq
  refine lv_aload_n hx hb dX2_restore_0 rfl (lv_at hl 0 rfl) ?_
  have q_1 : 0 ≤ S.1 135 19 ∧ S.1 135 19 ≤ 102220 := hI.fi 135 19 2 (by decide) rfl
  refine g_X2_74 Cx hW (k := 135) (by decide) rfl (v := S.1 135 19) rfl dX2_restore_1 ?_
  refine lv_iconst (v := iv 3) hx hb dX2_restore_4 (by decide) ?_
  refine r_icmp_ge (tgt := 10) hx hb ⟨(by omega), (by omega)⟩ ⟨(by omega), (by omega)⟩ dX2_restore_5 (by decide) (fun c_2 => ?_) (fun c_2 => ?_)
  · obtain ⟨⟨nk, hkn⟩, hdd⟩ := hI.ko
    have hop := hkn.op (by omega)
    have ho1 := hop.1
    have ho2 := hop.2.1
    have ho3 := hop.2.2.1
    refine lv_aload_n hx hb dX2_restore_10 rfl (lv_at hl 0 rfl) ?_
    refine g_X2_27 Cx hW (k := 135) (by decide) rfl (v := .ref (G.2.2.1 + 140)) (rf_135_4 hI) dX2_restore_11 ?_
    refine lv_aload_n hx hb dX2_restore_14 rfl (lv_at hl 0 rfl) ?_
    refine g_X2_74 Cx hW (k := 135) (by decide) rfl (v := S.1 135 19) rfl dX2_restore_15 ?_
    refine lv_iconst (v := iv 3) hx hb dX2_restore_18 (by decide) ?_
    refine r_isub hx hb dX2_restore_19 ?_
    refine rIald Cx hW (k := 140) (by decide) rfl (by decide) (by omega) (by omega) dX2_restore_20 ?_
    have q_3 : (-2147483648) ≤ S.2.1 140 ((S.1 135 19) - 3) ∧ S.2.1 140 ((S.1 135 19) - 3) ≤ 2147483647 := hI.ai 140 ((S.1 135 19) - 3) (by decide)
    refine r_i (b := S.2.1 140 ((S.1 135 19) - 3)) rfl ?_
    refine lv_istore_n (lv' := [(1, .int (iv (S.2.1 140 ((S.1 135 19) - 3)))), (0, .ref (G.2.2.1 + 135))]) hx hb dX2_restore_21 rfl hl (by decide) rfl (fun ls hl => ?_)
    refine lv_aload_n hx hb dX2_restore_22 rfl (lv_at hl 1 rfl) ?_
    refine g_X2_27 Cx hW (k := 135) (by decide) rfl (v := .ref (G.2.2.1 + 140)) (rf_135_4 hI) dX2_restore_23 ?_
    refine lv_aload_n hx hb dX2_restore_26 rfl (lv_at hl 1 rfl) ?_
    refine g_X2_74 Cx hW (k := 135) (by decide) rfl (v := S.1 135 19) rfl dX2_restore_27 ?_
    refine lv_iconst (v := iv 2) hx hb dX2_restore_30 (by decide) ?_
    refine r_isub hx hb dX2_restore_31 ?_
    refine rIald Cx hW (k := 140) (by decide) rfl (by decide) (by omega) (by omega) dX2_restore_32 ?_
    have q_4 : (-2147483648) ≤ S.2.1 140 ((S.1 135 19) - 2) ∧ S.2.1 140 ((S.1 135 19) - 2) ≤ 2147483647 := hI.ai 140 ((S.1 135 19) - 2) (by decide)
    refine r_i (b := S.2.1 140 ((S.1 135 19) - 2)) rfl ?_
    refine lv_istore_n (lv' := [(2, .int (iv (S.2.1 140 ((S.1 135 19) - 2)))), (1, .int (iv (S.2.1 140 ((S.1 135 19) - 3)))), (0, .ref (G.2.2.1 + 135))]) hx hb dX2_restore_33 rfl hl (by decide) rfl (fun ls hl => ?_)
    refine lv_aload_n hx hb dX2_restore_34 rfl (lv_at hl 2 rfl) ?_
    refine g_X2_27 Cx hW (k := 135) (by decide) rfl (v := .ref (G.2.2.1 + 140)) (rf_135_4 hI) dX2_restore_35 ?_
    refine lv_aload_n hx hb dX2_restore_38 rfl (lv_at hl 2 rfl) ?_
    refine g_X2_74 Cx hW (k := 135) (by decide) rfl (v := S.1 135 19) rfl dX2_restore_39 ?_
    refine lv_iconst (v := iv 1) hx hb dX2_restore_42 (by decide) ?_
    refine r_isub hx hb dX2_restore_43 ?_
    refine rIald Cx hW (k := 140) (by decide) rfl (by decide) (by omega) (by omega) dX2_restore_44 ?_
    have q_5 : (-2147483648) ≤ S.2.1 140 ((S.1 135 19) - 1) ∧ S.2.1 140 ((S.1 135 19) - 1) ≤ 2147483647 := hI.ai 140 ((S.1 135 19) - 1) (by decide)
    refine r_i (b := S.2.1 140 ((S.1 135 19) - 1)) rfl ?_
    refine lv_istore_n (lv' := [(3, .int (iv (S.2.1 140 ((S.1 135 19) - 1)))), (2, .int (iv (S.2.1 140 ((S.1 135 19) - 2)))), (1, .int (iv (S.2.1 140 ((S.1 135 19) - 3)))), (0, .ref (G.2.2.1 + 135))]) hx hb dX2_restore_45 rfl hl (by decide) rfl (fun ls hl => ?_)
    refine lv_iload_n hx hb dX2_restore_46 rfl (lv_at hl 1 rfl) ?_
    refine lv_iconst (v := iv 1) hx hb dX2_restore_47 (by decide) ?_
    refine r_iadd hx hb dX2_restore_48 ?_
    refine lv_iconst (v := iv 0) hx hb dX2_restore_49 (by decide) ?_
    refine sBi (sSt (As := [.int (iv ((S.2.1 140 ((S.1 135 19) - 2)) + 1)), .int (iv 0)]) (rest := []) Cx (s_X2_at l G S (i := (S.2.1 140 ((S.1 135 19) - 2)) + 1) (j := 0) (by omega) (by omega)) (c_X2_77 Cx rfl rfl (rmk_ok (by omega) (by decide))) hW rfl hl.1 rfl (Nat.le_of_ble_eq_true rfl) dX2_restore_50 ⟨Nat.le_of_ble_eq_true rfl, Nat.le_of_ble_eq_true rfl⟩) hL (fun r_8 u_6 H locs k_7 hW hL => ?_)
    obtain ⟨eu_6, xu_6⟩ := k_7
    rw [eu_6] at hW
    refine lv_istore (lv' := [(4, .int (iv r_8)), (3, .int (iv (S.2.1 140 ((S.1 135 19) - 1)))), (2, .int (iv (S.2.1 140 ((S.1 135 19) - 2)))), (1, .int (iv (S.2.1 140 ((S.1 135 19) - 3)))), (0, .ref (G.2.2.1 + 135))]) hx hb dX2_restore_53 hl (by decide) rfl (fun ls hl => ?_)
    refine lv_aload_n hx hb dX2_restore_55 rfl (lv_at hl 4 rfl) ?_
    refine g_X2_74 Cx hW (k := 135) (by decide) rfl (v := S.1 135 19) rfl dX2_restore_56 ?_
    refine lv_iconst (v := iv 3) hx hb dX2_restore_59 (by decide) ?_
    refine r_isub hx hb dX2_restore_60 ?_
    refine lv_iload_n hx hb dX2_restore_61 rfl (lv_at hl 1 rfl) ?_
    refine r_isub hx hb dX2_restore_62 ?_
    refine lv_iload_n hx hb dX2_restore_63 rfl (lv_at hl 2 rfl) ?_
    refine r_isub hx hb dX2_restore_64 ?_
    refine lv_iload hx hb dX2_restore_65 (lv_at hl 0 rfl) ?_
    refine r_isub hx hb dX2_restore_67 ?_
    refine lv_istore (lv' := [(5, .int (iv (((((S.1 135 19) - 3) - (S.2.1 140 ((S.1 135 19) - 1))) - (S.2.1 140 ((S.1 135 19) - 2))) - r_8))), (4, .int (iv r_8)), (3, .int (iv (S.2.1 140 ((S.1 135 19) - 1)))), (2, .int (iv (S.2.1 140 ((S.1 135 19) - 2)))), (1, .int (iv (S.2.1 140 ((S.1 135 19) - 3)))), (0, .ref (G.2.2.1 + 135))]) hx hb dX2_restore_68 hl (by decide) rfl (fun ls hl => ?_)
    refine lv_iload hx hb dX2_restore_70 (lv_at hl 0 rfl) ?_
    refine r_if_ge (tgt := 77) hx hb ⟨(by omega), (by omega)⟩ dX2_restore_72 (by decide) (fun c_9 => ?_) (fun c_9 => ?_)
    · refine lv_aload_n hx hb dX2_restore_77 rfl (lv_at hl 5 rfl) ?_
      refine g_X2_27 Cx hW (k := 135) (by decide) rfl (v := .ref (G.2.2.1 + 140)) (rf_135_4 hI) dX2_restore_78 ?_
      refine lv_iload hx hb dX2_restore_81 (lv_at hl 0 rfl) ?_
      refine lv_aload_n hx hb dX2_restore_83 rfl (lv_at hl 5 rfl) ?_
      refine g_X2_13 Cx hW (k := 135) (by decide) rfl (v := .ref (G.2.2.1 + oc)) hec dX2_restore_84 ?_
      refine lv_iconst (v := iv 0) hx hb dX2_restore_87 (by decide) ?_
      refine lv_iload hx hb dX2_restore_88 (lv_at hl 1 rfl) ?_
      refine rCopyI Cx hW hL (hml.trans hl.1.symm) w_1546 w_1089 w_1088 w_224 (k0 := 140) (k1 := oc) (by decide) rfl (dic_l hoc) (dic_t hoc) (by decide) (by decide) (by omega) (by omega) (by omega) (by omega) (by omega) (rmk_f (by omega)) (rmk_l (by omega) (by decide)) dX2_restore_90 (fun H locs hW hL => ?_)
      have ebg : ((((S.1 135 19) - 3) - (S.2.1 140 ((S.1 135 19) - 1))) - (S.2.1 140 ((S.1 135 19) - 2))) - r_8 = S.1 135 19 - 3 - S.2.1 140 (S.1 135 19 - 1) - S.2.1 140 (S.1 135 19 - 2) - (S.2.1 140 (S.1 135 19 - 2) + 3) * 112 := by omega
      have F_10 : Fr S (uC S 140 (((((S.1 135 19) - 3) - (S.2.1 140 ((S.1 135 19) - 1))) - (S.2.1 140 ((S.1 135 19) - 2))) - r_8) oc 0 r_8) pRs := (Fr.rf : Fr S S pRs).C (dic_pRs hoc)
      have i_11 : cX G (uC S 140 (((((S.1 135 19) - 3) - (S.2.1 140 ((S.1 135 19) - 1))) - (S.2.1 140 ((S.1 135 19) - 2))) - r_8) oc 0 r_8) 0 0 0 := hI.rest hoc (by omega) (by rw [ebg]; exact hop.2.2.2.2.1) (fun j _ _ => hI.ai 140 _ (by decide)) (by rw [ebg]; intro a a0 a1 a2; exact hop.2.2.2.2.2.1 a a0 a1 (by omega))
      refine lv_aload_n hx hb dX2_restore_93 rfl (lv_at hl 5 rfl) ?_
      refine g_X2_27 Cx hW (k := 135) (by decide) rfl (v := .ref (G.2.2.1 + 140)) (rf_135_4 i_11) dX2_restore_94 ?_
      refine lv_iload hx hb dX2_restore_97 (lv_at hl 0 rfl) ?_
      refine lv_iload hx hb dX2_restore_99 (lv_at hl 1 rfl) ?_
      refine r_iadd hx hb dX2_restore_101 ?_
      refine lv_aload_n hx hb dX2_restore_102 rfl (lv_at hl 5 rfl) ?_
      refine g_X2_20 Cx hW (k := 135) (by decide) rfl (v := .ref (G.2.2.1 + 138)) (rf_135_2 i_11) dX2_restore_103 ?_
      refine lv_iconst (v := iv 1) hx hb dX2_restore_106 (by decide) ?_
      refine lv_iload_n hx hb dX2_restore_107 rfl (lv_at hl 3 rfl) ?_
      refine rCopyI Cx hW hL (hml.trans hl.1.symm) w_1546 w_1089 w_1088 w_224 (k0 := 140) (k1 := 138) (by decide) rfl (by decide) rfl (by decide) (by decide) (by omega) (by omega) (by omega) (by omega) (by omega) (rmk_f (by omega)) (rmk_l (by omega) (by decide)) dX2_restore_108 (fun H locs hW hL => ?_)
      have F_12 : Fr S (uC (uC S 140 (((((S.1 135 19) - 3) - (S.2.1 140 ((S.1 135 19) - 1))) - (S.2.1 140 ((S.1 135 19) - 2))) - r_8) oc 0 r_8) 140 ((((((S.1 135 19) - 3) - (S.2.1 140 ((S.1 135 19) - 1))) - (S.2.1 140 ((S.1 135 19) - 2))) - r_8) + r_8) 138 1 (S.2.1 140 ((S.1 135 19) - 2))) pRs := F_10.C rfl
      have i_13 : cX G (uC (uC S 140 (((((S.1 135 19) - 3) - (S.2.1 140 ((S.1 135 19) - 1))) - (S.2.1 140 ((S.1 135 19) - 2))) - r_8) oc 0 r_8) 140 ((((((S.1 135 19) - 3) - (S.2.1 140 ((S.1 135 19) - 1))) - (S.2.1 140 ((S.1 135 19) - 2))) - r_8) + r_8) 138 1 (S.2.1 140 ((S.1 135 19) - 2))) 0 0 0 := i_11.plC rfl (fun j _ _ => i_11.ai 140 _ (by decide))
      refine lv_aload_n hx hb dX2_restore_111 rfl (lv_at hl 5 rfl) ?_
      refine g_X2_27 Cx hW (k := 135) (by decide) rfl (v := .ref (G.2.2.1 + 140)) (rf_135_4 i_13) dX2_restore_112 ?_
      refine lv_iload hx hb dX2_restore_115 (lv_at hl 0 rfl) ?_
      refine lv_iload hx hb dX2_restore_117 (lv_at hl 1 rfl) ?_
      refine r_iadd hx hb dX2_restore_119 ?_
      refine lv_iload_n hx hb dX2_restore_120 rfl (lv_at hl 3 rfl) ?_
      refine r_iadd hx hb dX2_restore_121 ?_
      refine lv_aload_n hx hb dX2_restore_122 rfl (lv_at hl 5 rfl) ?_
      refine g_X2_23 Cx hW (k := 135) (by decide) rfl (v := .ref (G.2.2.1 + 139)) (rf_135_3 i_13) dX2_restore_123 ?_
      refine lv_iconst (v := iv 1) hx hb dX2_restore_126 (by decide) ?_
      refine lv_iload_n hx hb dX2_restore_127 rfl (lv_at hl 2 rfl) ?_
      refine rCopyI Cx hW hL (hml.trans hl.1.symm) w_1546 w_1089 w_1088 w_224 (k0 := 140) (k1 := 139) (by decide) rfl (by decide) rfl (by decide) (by decide) (by omega) (by omega) (by omega) (by omega) (by omega) (rmk_f (by omega)) (rmk_l (by omega) (by decide)) dX2_restore_128 (fun H locs hW hL => ?_)
      have F_14 : Fr S (uC (uC (uC S 140 (((((S.1 135 19) - 3) - (S.2.1 140 ((S.1 135 19) - 1))) - (S.2.1 140 ((S.1 135 19) - 2))) - r_8) oc 0 r_8) 140 ((((((S.1 135 19) - 3) - (S.2.1 140 ((S.1 135 19) - 1))) - (S.2.1 140 ((S.1 135 19) - 2))) - r_8) + r_8) 138 1 (S.2.1 140 ((S.1 135 19) - 2))) 140 (((((((S.1 135 19) - 3) - (S.2.1 140 ((S.1 135 19) - 1))) - (S.2.1 140 ((S.1 135 19) - 2))) - r_8) + r_8) + (S.2.1 140 ((S.1 135 19) - 2))) 139 1 (S.2.1 140 ((S.1 135 19) - 1))) pRs := F_12.C rfl
      have i_15 : cX G (uC (uC (uC S 140 (((((S.1 135 19) - 3) - (S.2.1 140 ((S.1 135 19) - 1))) - (S.2.1 140 ((S.1 135 19) - 2))) - r_8) oc 0 r_8) 140 ((((((S.1 135 19) - 3) - (S.2.1 140 ((S.1 135 19) - 1))) - (S.2.1 140 ((S.1 135 19) - 2))) - r_8) + r_8) 138 1 (S.2.1 140 ((S.1 135 19) - 2))) 140 (((((((S.1 135 19) - 3) - (S.2.1 140 ((S.1 135 19) - 1))) - (S.2.1 140 ((S.1 135 19) - 2))) - r_8) + r_8) + (S.2.1 140 ((S.1 135 19) - 2))) 139 1 (S.2.1 140 ((S.1 135 19) - 1))) 0 0 0 := i_13.plC rfl (fun j _ _ => i_13.ai 140 _ (by decide))
      refine lv_aload_n hx hb dX2_restore_131 rfl (lv_at hl 5 rfl) ?_
      refine lv_iload_n hx hb dX2_restore_132 rfl (lv_at hl 3 rfl) ?_
      refine p_X2_66 Cx hW hL (k := 135) (by decide) rfl dX2_restore_133 (fun H locs hW hL => ?_)
      have F_16 : Fr S (uF (uC (uC (uC S 140 (((((S.1 135 19) - 3) - (S.2.1 140 ((S.1 135 19) - 1))) - (S.2.1 140 ((S.1 135 19) - 2))) - r_8) oc 0 r_8) 140 ((((((S.1 135 19) - 3) - (S.2.1 140 ((S.1 135 19) - 1))) - (S.2.1 140 ((S.1 135 19) - 2))) - r_8) + r_8) 138 1 (S.2.1 140 ((S.1 135 19) - 2))) 140 (((((((S.1 135 19) - 3) - (S.2.1 140 ((S.1 135 19) - 1))) - (S.2.1 140 ((S.1 135 19) - 2))) - r_8) + r_8) + (S.2.1 140 ((S.1 135 19) - 2))) 139 1 (S.2.1 140 ((S.1 135 19) - 1))) 135 14 (S.2.1 140 ((S.1 135 19) - 2))) pRs := F_14.F rfl
      have i_17 : cX G (uF (uC (uC (uC S 140 (((((S.1 135 19) - 3) - (S.2.1 140 ((S.1 135 19) - 1))) - (S.2.1 140 ((S.1 135 19) - 2))) - r_8) oc 0 r_8) 140 ((((((S.1 135 19) - 3) - (S.2.1 140 ((S.1 135 19) - 1))) - (S.2.1 140 ((S.1 135 19) - 2))) - r_8) + r_8) 138 1 (S.2.1 140 ((S.1 135 19) - 2))) 140 (((((((S.1 135 19) - 3) - (S.2.1 140 ((S.1 135 19) - 1))) - (S.2.1 140 ((S.1 135 19) - 2))) - r_8) + r_8) + (S.2.1 140 ((S.1 135 19) - 2))) 139 1 (S.2.1 140 ((S.1 135 19) - 1))) 135 14 (S.2.1 140 ((S.1 135 19) - 2))) 0 0 0 := i_15.F rfl rfl (show 0 ≤ S.2.1 140 ((S.1 135 19) - 2) ∧ S.2.1 140 ((S.1 135 19) - 2) ≤ 40 from ⟨by omega, by omega⟩)
      refine lv_aload_n hx hb dX2_restore_136 rfl (lv_at hl 5 rfl) ?_
      refine lv_iload_n hx hb dX2_restore_137 rfl (lv_at hl 2 rfl) ?_
      refine p_X2_67 Cx hW hL (k := 135) (by decide) rfl dX2_restore_138 (fun H locs hW hL => ?_)
      have F_18 : Fr S (uF (uF (uC (uC (uC S 140 (((((S.1 135 19) - 3) - (S.2.1 140 ((S.1 135 19) - 1))) - (S.2.1 140 ((S.1 135 19) - 2))) - r_8) oc 0 r_8) 140 ((((((S.1 135 19) - 3) - (S.2.1 140 ((S.1 135 19) - 1))) - (S.2.1 140 ((S.1 135 19) - 2))) - r_8) + r_8) 138 1 (S.2.1 140 ((S.1 135 19) - 2))) 140 (((((((S.1 135 19) - 3) - (S.2.1 140 ((S.1 135 19) - 1))) - (S.2.1 140 ((S.1 135 19) - 2))) - r_8) + r_8) + (S.2.1 140 ((S.1 135 19) - 2))) 139 1 (S.2.1 140 ((S.1 135 19) - 1))) 135 14 (S.2.1 140 ((S.1 135 19) - 2))) 135 15 (S.2.1 140 ((S.1 135 19) - 1))) pRs := F_16.F rfl
      have i_19 : cX G (uF (uF (uC (uC (uC S 140 (((((S.1 135 19) - 3) - (S.2.1 140 ((S.1 135 19) - 1))) - (S.2.1 140 ((S.1 135 19) - 2))) - r_8) oc 0 r_8) 140 ((((((S.1 135 19) - 3) - (S.2.1 140 ((S.1 135 19) - 1))) - (S.2.1 140 ((S.1 135 19) - 2))) - r_8) + r_8) 138 1 (S.2.1 140 ((S.1 135 19) - 2))) 140 (((((((S.1 135 19) - 3) - (S.2.1 140 ((S.1 135 19) - 1))) - (S.2.1 140 ((S.1 135 19) - 2))) - r_8) + r_8) + (S.2.1 140 ((S.1 135 19) - 2))) 139 1 (S.2.1 140 ((S.1 135 19) - 1))) 135 14 (S.2.1 140 ((S.1 135 19) - 2))) 135 15 (S.2.1 140 ((S.1 135 19) - 1))) 0 0 0 := i_17.F rfl rfl (show 0 ≤ S.2.1 140 ((S.1 135 19) - 1) ∧ S.2.1 140 ((S.1 135 19) - 1) ≤ 13 from ⟨by omega, by omega⟩)
      refine lv_aload_n hx hb dX2_restore_141 rfl (lv_at hl 5 rfl) ?_
      refine lv_iload hx hb dX2_restore_142 (lv_at hl 0 rfl) ?_
      refine p_X2_74 Cx hW hL (k := 135) (by decide) rfl dX2_restore_144 (fun H locs hW hL => ?_)
      have F_20 : Fr S (uF (uF (uF (uC (uC (uC S 140 (((((S.1 135 19) - 3) - (S.2.1 140 ((S.1 135 19) - 1))) - (S.2.1 140 ((S.1 135 19) - 2))) - r_8) oc 0 r_8) 140 ((((((S.1 135 19) - 3) - (S.2.1 140 ((S.1 135 19) - 1))) - (S.2.1 140 ((S.1 135 19) - 2))) - r_8) + r_8) 138 1 (S.2.1 140 ((S.1 135 19) - 2))) 140 (((((((S.1 135 19) - 3) - (S.2.1 140 ((S.1 135 19) - 1))) - (S.2.1 140 ((S.1 135 19) - 2))) - r_8) + r_8) + (S.2.1 140 ((S.1 135 19) - 2))) 139 1 (S.2.1 140 ((S.1 135 19) - 1))) 135 14 (S.2.1 140 ((S.1 135 19) - 2))) 135 15 (S.2.1 140 ((S.1 135 19) - 1))) 135 19 (((((S.1 135 19) - 3) - (S.2.1 140 ((S.1 135 19) - 1))) - (S.2.1 140 ((S.1 135 19) - 2))) - r_8)) pRs := F_18.F rfl
      have i_21 : cX G (uF (uF (uF (uC (uC (uC S 140 (((((S.1 135 19) - 3) - (S.2.1 140 ((S.1 135 19) - 1))) - (S.2.1 140 ((S.1 135 19) - 2))) - r_8) oc 0 r_8) 140 ((((((S.1 135 19) - 3) - (S.2.1 140 ((S.1 135 19) - 1))) - (S.2.1 140 ((S.1 135 19) - 2))) - r_8) + r_8) 138 1 (S.2.1 140 ((S.1 135 19) - 2))) 140 (((((((S.1 135 19) - 3) - (S.2.1 140 ((S.1 135 19) - 1))) - (S.2.1 140 ((S.1 135 19) - 2))) - r_8) + r_8) + (S.2.1 140 ((S.1 135 19) - 2))) 139 1 (S.2.1 140 ((S.1 135 19) - 1))) 135 14 (S.2.1 140 ((S.1 135 19) - 2))) 135 15 (S.2.1 140 ((S.1 135 19) - 1))) 135 19 (((((S.1 135 19) - 3) - (S.2.1 140 ((S.1 135 19) - 1))) - (S.2.1 140 ((S.1 135 19) - 2))) - r_8)) 0 0 0 := i_19.kend ⟨by omega, by omega⟩ (by obtain ⟨mk, hmk⟩ := hop.2.2.2.2.2.2; refine ⟨mk, ?_⟩; have e := hmk.put (g := (uF (uF (uC (uC (uC S 140 (((((S.1 135 19) - 3) - (S.2.1 140 ((S.1 135 19) - 1))) - (S.2.1 140 ((S.1 135 19) - 2))) - r_8) oc 0 r_8) 140 ((((((S.1 135 19) - 3) - (S.2.1 140 ((S.1 135 19) - 1))) - (S.2.1 140 ((S.1 135 19) - 2))) - r_8) + r_8) 138 1 (S.2.1 140 ((S.1 135 19) - 2))) 140 (((((((S.1 135 19) - 3) - (S.2.1 140 ((S.1 135 19) - 1))) - (S.2.1 140 ((S.1 135 19) - 2))) - r_8) + r_8) + (S.2.1 140 ((S.1 135 19) - 2))) 139 1 (S.2.1 140 ((S.1 135 19) - 1))) 135 14 (S.2.1 140 ((S.1 135 19) - 2))) 135 15 (S.2.1 140 ((S.1 135 19) - 1))).2.1 140) (fun j _ _ => (uF_a).trans ((uF_a).trans ((uC_ne (by decide)).trans ((uC_ne (by decide)).trans (uC_ne (ac_ne (rfl : acode 140 = 11) (dic_c hoc) (by decide))))))); rw [← ebg] at e; exact e)
      refine lv_iload_n hx hb dX2_restore_147 rfl (lv_at hl 4 rfl) ?_
      have lk_22 : (uF (uF (uF (uC (uC (uC S 140 (((((S.1 135 19) - 3) - (S.2.1 140 ((S.1 135 19) - 1))) - (S.2.1 140 ((S.1 135 19) - 2))) - r_8) oc 0 r_8) 140 ((((((S.1 135 19) - 3) - (S.2.1 140 ((S.1 135 19) - 1))) - (S.2.1 140 ((S.1 135 19) - 2))) - r_8) + r_8) 138 1 (S.2.1 140 ((S.1 135 19) - 2))) 140 (((((((S.1 135 19) - 3) - (S.2.1 140 ((S.1 135 19) - 1))) - (S.2.1 140 ((S.1 135 19) - 2))) - r_8) + r_8) + (S.2.1 140 ((S.1 135 19) - 2))) 139 1 (S.2.1 140 ((S.1 135 19) - 1))) 135 14 (S.2.1 140 ((S.1 135 19) - 2))) 135 15 (S.2.1 140 ((S.1 135 19) - 1))) 135 19 (((((S.1 135 19) - 3) - (S.2.1 140 ((S.1 135 19) - 1))) - (S.2.1 140 ((S.1 135 19) - 2))) - r_8)).1 135 19 = ((((S.1 135 19) - 3) - (S.2.1 140 ((S.1 135 19) - 1))) - (S.2.1 140 ((S.1 135 19) - 2))) - r_8 := uF_on
      exact sIret Cx hr hlk hW hL ⟨i_21, F_20, (by have hc : ∀ x, 0 ≤ x → x < (d0.2.2.2.2.1 + 3) * 112 → (uF (uF (uF (uC (uC (uC S 140 (((((S.1 135 19) - 3) - (S.2.1 140 ((S.1 135 19) - 1))) - (S.2.1 140 ((S.1 135 19) - 2))) - r_8) oc 0 r_8) 140 ((((((S.1 135 19) - 3) - (S.2.1 140 ((S.1 135 19) - 1))) - (S.2.1 140 ((S.1 135 19) - 2))) - r_8) + r_8) 138 1 (S.2.1 140 ((S.1 135 19) - 2))) 140 (((((((S.1 135 19) - 3) - (S.2.1 140 ((S.1 135 19) - 1))) - (S.2.1 140 ((S.1 135 19) - 2))) - r_8) + r_8) + (S.2.1 140 ((S.1 135 19) - 2))) 139 1 (S.2.1 140 ((S.1 135 19) - 1))) 135 14 (S.2.1 140 ((S.1 135 19) - 2))) 135 15 (S.2.1 140 ((S.1 135 19) - 1))) 135 19 (((((S.1 135 19) - 3) - (S.2.1 140 ((S.1 135 19) - 1))) - (S.2.1 140 ((S.1 135 19) - 2))) - r_8)).2.1 oc x = S.2.1 140 (b + x) := fun x x0 x1 => (by rw [(show (uF (uF (uF (uC (uC (uC S 140 (((((S.1 135 19) - 3) - (S.2.1 140 ((S.1 135 19) - 1))) - (S.2.1 140 ((S.1 135 19) - 2))) - r_8) oc 0 r_8) 140 ((((((S.1 135 19) - 3) - (S.2.1 140 ((S.1 135 19) - 1))) - (S.2.1 140 ((S.1 135 19) - 2))) - r_8) + r_8) 138 1 (S.2.1 140 ((S.1 135 19) - 2))) 140 (((((((S.1 135 19) - 3) - (S.2.1 140 ((S.1 135 19) - 1))) - (S.2.1 140 ((S.1 135 19) - 2))) - r_8) + r_8) + (S.2.1 140 ((S.1 135 19) - 2))) 139 1 (S.2.1 140 ((S.1 135 19) - 1))) 135 14 (S.2.1 140 ((S.1 135 19) - 2))) 135 15 (S.2.1 140 ((S.1 135 19) - 1))) 135 19 (((((S.1 135 19) - 3) - (S.2.1 140 ((S.1 135 19) - 1))) - (S.2.1 140 ((S.1 135 19) - 2))) - r_8)).2.1 oc x = (uC S 140 (((((S.1 135 19) - 3) - (S.2.1 140 ((S.1 135 19) - 1))) - (S.2.1 140 ((S.1 135 19) - 2))) - r_8) oc 0 r_8).2.1 oc x from (uF_a).trans ((uF_a).trans ((uF_a).trans ((uC_ne (ac_ne (dic_c hoc) (rfl : acode 139 = 0) (by decide))).trans (uC_ne (ac_ne (dic_c hoc) (rfl : acode 138 = 0) (by decide))))))), uC_get, if_pos ⟨rfl, by omega, by omega⟩]; exact congrArg (S.2.1 140) (by omega)); have h8 : ∀ x, 1 ≤ x → x ≤ d0.2.2.2.2.1 → (uF (uF (uF (uC (uC (uC S 140 (((((S.1 135 19) - 3) - (S.2.1 140 ((S.1 135 19) - 1))) - (S.2.1 140 ((S.1 135 19) - 2))) - r_8) oc 0 r_8) 140 ((((((S.1 135 19) - 3) - (S.2.1 140 ((S.1 135 19) - 1))) - (S.2.1 140 ((S.1 135 19) - 2))) - r_8) + r_8) 138 1 (S.2.1 140 ((S.1 135 19) - 2))) 140 (((((((S.1 135 19) - 3) - (S.2.1 140 ((S.1 135 19) - 1))) - (S.2.1 140 ((S.1 135 19) - 2))) - r_8) + r_8) + (S.2.1 140 ((S.1 135 19) - 2))) 139 1 (S.2.1 140 ((S.1 135 19) - 1))) 135 14 (S.2.1 140 ((S.1 135 19) - 2))) 135 15 (S.2.1 140 ((S.1 135 19) - 1))) 135 19 (((((S.1 135 19) - 3) - (S.2.1 140 ((S.1 135 19) - 1))) - (S.2.1 140 ((S.1 135 19) - 2))) - r_8)).2.1 138 x = S.2.1 140 (b + (d0.2.2.2.2.1 + 3) * 112 + (x - 1)) := fun x x0 x1 => (by rw [(show (uF (uF (uF (uC (uC (uC S 140 (((((S.1 135 19) - 3) - (S.2.1 140 ((S.1 135 19) - 1))) - (S.2.1 140 ((S.1 135 19) - 2))) - r_8) oc 0 r_8) 140 ((((((S.1 135 19) - 3) - (S.2.1 140 ((S.1 135 19) - 1))) - (S.2.1 140 ((S.1 135 19) - 2))) - r_8) + r_8) 138 1 (S.2.1 140 ((S.1 135 19) - 2))) 140 (((((((S.1 135 19) - 3) - (S.2.1 140 ((S.1 135 19) - 1))) - (S.2.1 140 ((S.1 135 19) - 2))) - r_8) + r_8) + (S.2.1 140 ((S.1 135 19) - 2))) 139 1 (S.2.1 140 ((S.1 135 19) - 1))) 135 14 (S.2.1 140 ((S.1 135 19) - 2))) 135 15 (S.2.1 140 ((S.1 135 19) - 1))) 135 19 (((((S.1 135 19) - 3) - (S.2.1 140 ((S.1 135 19) - 1))) - (S.2.1 140 ((S.1 135 19) - 2))) - r_8)).2.1 138 x = (uC (uC S 140 (((((S.1 135 19) - 3) - (S.2.1 140 ((S.1 135 19) - 1))) - (S.2.1 140 ((S.1 135 19) - 2))) - r_8) oc 0 r_8) 140 ((((((S.1 135 19) - 3) - (S.2.1 140 ((S.1 135 19) - 1))) - (S.2.1 140 ((S.1 135 19) - 2))) - r_8) + r_8) 138 1 (S.2.1 140 ((S.1 135 19) - 2))).2.1 138 x from (uF_a).trans ((uF_a).trans ((uF_a).trans (uC_ne (by decide))))), uC_get, if_pos ⟨rfl, by omega, by omega⟩, (show (uC S 140 (((((S.1 135 19) - 3) - (S.2.1 140 ((S.1 135 19) - 1))) - (S.2.1 140 ((S.1 135 19) - 2))) - r_8) oc 0 r_8).2.1 140 = S.2.1 140 from funext fun x => uC_ne (ac_ne (rfl : acode 140 = 11) (dic_c hoc) (by decide)))]; exact congrArg (S.2.1 140) (by omega)); have h9 : ∀ x, 1 ≤ x → x ≤ d0.2.2.2.2.2 → (uF (uF (uF (uC (uC (uC S 140 (((((S.1 135 19) - 3) - (S.2.1 140 ((S.1 135 19) - 1))) - (S.2.1 140 ((S.1 135 19) - 2))) - r_8) oc 0 r_8) 140 ((((((S.1 135 19) - 3) - (S.2.1 140 ((S.1 135 19) - 1))) - (S.2.1 140 ((S.1 135 19) - 2))) - r_8) + r_8) 138 1 (S.2.1 140 ((S.1 135 19) - 2))) 140 (((((((S.1 135 19) - 3) - (S.2.1 140 ((S.1 135 19) - 1))) - (S.2.1 140 ((S.1 135 19) - 2))) - r_8) + r_8) + (S.2.1 140 ((S.1 135 19) - 2))) 139 1 (S.2.1 140 ((S.1 135 19) - 1))) 135 14 (S.2.1 140 ((S.1 135 19) - 2))) 135 15 (S.2.1 140 ((S.1 135 19) - 1))) 135 19 (((((S.1 135 19) - 3) - (S.2.1 140 ((S.1 135 19) - 1))) - (S.2.1 140 ((S.1 135 19) - 2))) - r_8)).2.1 139 x = S.2.1 140 (b + (d0.2.2.2.2.1 + 3) * 112 + d0.2.2.2.2.1 + (x - 1)) := fun x x0 x1 => (by rw [(show (uF (uF (uF (uC (uC (uC S 140 (((((S.1 135 19) - 3) - (S.2.1 140 ((S.1 135 19) - 1))) - (S.2.1 140 ((S.1 135 19) - 2))) - r_8) oc 0 r_8) 140 ((((((S.1 135 19) - 3) - (S.2.1 140 ((S.1 135 19) - 1))) - (S.2.1 140 ((S.1 135 19) - 2))) - r_8) + r_8) 138 1 (S.2.1 140 ((S.1 135 19) - 2))) 140 (((((((S.1 135 19) - 3) - (S.2.1 140 ((S.1 135 19) - 1))) - (S.2.1 140 ((S.1 135 19) - 2))) - r_8) + r_8) + (S.2.1 140 ((S.1 135 19) - 2))) 139 1 (S.2.1 140 ((S.1 135 19) - 1))) 135 14 (S.2.1 140 ((S.1 135 19) - 2))) 135 15 (S.2.1 140 ((S.1 135 19) - 1))) 135 19 (((((S.1 135 19) - 3) - (S.2.1 140 ((S.1 135 19) - 1))) - (S.2.1 140 ((S.1 135 19) - 2))) - r_8)).2.1 139 x = (uC (uC (uC S 140 (((((S.1 135 19) - 3) - (S.2.1 140 ((S.1 135 19) - 1))) - (S.2.1 140 ((S.1 135 19) - 2))) - r_8) oc 0 r_8) 140 ((((((S.1 135 19) - 3) - (S.2.1 140 ((S.1 135 19) - 1))) - (S.2.1 140 ((S.1 135 19) - 2))) - r_8) + r_8) 138 1 (S.2.1 140 ((S.1 135 19) - 2))) 140 (((((((S.1 135 19) - 3) - (S.2.1 140 ((S.1 135 19) - 1))) - (S.2.1 140 ((S.1 135 19) - 2))) - r_8) + r_8) + (S.2.1 140 ((S.1 135 19) - 2))) 139 1 (S.2.1 140 ((S.1 135 19) - 1))).2.1 139 x from (uF_a).trans ((uF_a).trans (uF_a))), uC_get, if_pos ⟨rfl, by omega, by omega⟩, (show (uC (uC S 140 (((((S.1 135 19) - 3) - (S.2.1 140 ((S.1 135 19) - 1))) - (S.2.1 140 ((S.1 135 19) - 2))) - r_8) oc 0 r_8) 140 ((((((S.1 135 19) - 3) - (S.2.1 140 ((S.1 135 19) - 1))) - (S.2.1 140 ((S.1 135 19) - 2))) - r_8) + r_8) 138 1 (S.2.1 140 ((S.1 135 19) - 2))).2.1 140 = S.2.1 140 from funext fun x => (uC_ne (by decide)).trans (uC_ne (ac_ne (rfl : acode 140 = 11) (dic_c hoc) (by decide))))]; exact congrArg (S.2.1 140) (by omega)); have hn : ∀ a, a % 8 = 0 → 0 ≤ a → a + 7 < (d0.2.2.2.2.1 + 3) * 112 → nv ((uF (uF (uF (uC (uC (uC S 140 (((((S.1 135 19) - 3) - (S.2.1 140 ((S.1 135 19) - 1))) - (S.2.1 140 ((S.1 135 19) - 2))) - r_8) oc 0 r_8) 140 ((((((S.1 135 19) - 3) - (S.2.1 140 ((S.1 135 19) - 1))) - (S.2.1 140 ((S.1 135 19) - 2))) - r_8) + r_8) 138 1 (S.2.1 140 ((S.1 135 19) - 2))) 140 (((((((S.1 135 19) - 3) - (S.2.1 140 ((S.1 135 19) - 1))) - (S.2.1 140 ((S.1 135 19) - 2))) - r_8) + r_8) + (S.2.1 140 ((S.1 135 19) - 2))) 139 1 (S.2.1 140 ((S.1 135 19) - 1))) 135 14 (S.2.1 140 ((S.1 135 19) - 2))) 135 15 (S.2.1 140 ((S.1 135 19) - 1))) 135 19 (((((S.1 135 19) - 3) - (S.2.1 140 ((S.1 135 19) - 1))) - (S.2.1 140 ((S.1 135 19) - 2))) - r_8)).2.1 oc) a = nv (fun x => S.2.1 140 (b + x)) a := fun a am a0 a1 => nv_8 (hkL a am a0 a1) (fun x x0 x1 => hc x (by omega) (by omega)); exact ⟨by omega, by omega, ⟨hoc, hod, (neD hcd), (((uF_r).trans ((uF_r).trans ((uF_r).trans ((uC_r).trans ((uC_r).trans (uC_r)))))).trans hec), (((uF_r).trans ((uF_r).trans ((uF_r).trans ((uC_r).trans ((uC_r).trans (uC_r)))))).trans hed)⟩, (fun hz => ⟨by rw [hn 0 (by omega) (by omega) (by omega)]; exact hk0, fun i j i0 i1 iw j0 j1 => (by have i9 : i ≠ -1 := (fun q => by have := iw q; omega); rw [hn _ (by omega) (by omega) (by omega)]; exact hkT i j (by omega) i1 j0 j1), fun i i0 i1 => (h8 i i0 i1).trans (hkB i i0 i1), fun j j0 j1 => (h9 j j0 j1).trans (hkN j j0 j1), ((uF_ne (fun h => absurd h.2 (by decide))).trans ((uF_ne (fun h => absurd h.2 (by decide))).trans ((uF_ne (fun h => absurd h.2 (by decide))).trans ((uC_f).trans ((uC_f).trans (uC_f))))) : (uF (uF (uF (uC (uC (uC S 140 (((((S.1 135 19) - 3) - (S.2.1 140 ((S.1 135 19) - 1))) - (S.2.1 140 ((S.1 135 19) - 2))) - r_8) oc 0 r_8) 140 ((((((S.1 135 19) - 3) - (S.2.1 140 ((S.1 135 19) - 1))) - (S.2.1 140 ((S.1 135 19) - 2))) - r_8) + r_8) 138 1 (S.2.1 140 ((S.1 135 19) - 2))) 140 (((((((S.1 135 19) - 3) - (S.2.1 140 ((S.1 135 19) - 1))) - (S.2.1 140 ((S.1 135 19) - 2))) - r_8) + r_8) + (S.2.1 140 ((S.1 135 19) - 2))) 139 1 (S.2.1 140 ((S.1 135 19) - 1))) 135 14 (S.2.1 140 ((S.1 135 19) - 2))) 135 15 (S.2.1 140 ((S.1 135 19) - 1))) 135 19 (((((S.1 135 19) - 3) - (S.2.1 140 ((S.1 135 19) - 1))) - (S.2.1 140 ((S.1 135 19) - 2))) - r_8)).1 135 13 = _).trans hd13, ((uF_ne (fun h => absurd h.2 (by decide))).trans ((uF_ne (fun h => absurd h.2 (by decide))).trans (uF_on)) : (uF (uF (uF (uC (uC (uC S 140 (((((S.1 135 19) - 3) - (S.2.1 140 ((S.1 135 19) - 1))) - (S.2.1 140 ((S.1 135 19) - 2))) - r_8) oc 0 r_8) 140 ((((((S.1 135 19) - 3) - (S.2.1 140 ((S.1 135 19) - 1))) - (S.2.1 140 ((S.1 135 19) - 2))) - r_8) + r_8) 138 1 (S.2.1 140 ((S.1 135 19) - 2))) 140 (((((((S.1 135 19) - 3) - (S.2.1 140 ((S.1 135 19) - 1))) - (S.2.1 140 ((S.1 135 19) - 2))) - r_8) + r_8) + (S.2.1 140 ((S.1 135 19) - 2))) 139 1 (S.2.1 140 ((S.1 135 19) - 1))) 135 14 (S.2.1 140 ((S.1 135 19) - 2))) 135 15 (S.2.1 140 ((S.1 135 19) - 1))) 135 19 (((((S.1 135 19) - 3) - (S.2.1 140 ((S.1 135 19) - 1))) - (S.2.1 140 ((S.1 135 19) - 2))) - r_8)).1 135 14 = _).trans (by omega), ((uF_ne (fun h => absurd h.2 (by decide))).trans (uF_on) : (uF (uF (uF (uC (uC (uC S 140 (((((S.1 135 19) - 3) - (S.2.1 140 ((S.1 135 19) - 1))) - (S.2.1 140 ((S.1 135 19) - 2))) - r_8) oc 0 r_8) 140 ((((((S.1 135 19) - 3) - (S.2.1 140 ((S.1 135 19) - 1))) - (S.2.1 140 ((S.1 135 19) - 2))) - r_8) + r_8) 138 1 (S.2.1 140 ((S.1 135 19) - 2))) 140 (((((((S.1 135 19) - 3) - (S.2.1 140 ((S.1 135 19) - 1))) - (S.2.1 140 ((S.1 135 19) - 2))) - r_8) + r_8) + (S.2.1 140 ((S.1 135 19) - 2))) 139 1 (S.2.1 140 ((S.1 135 19) - 1))) 135 14 (S.2.1 140 ((S.1 135 19) - 2))) 135 15 (S.2.1 140 ((S.1 135 19) - 1))) 135 19 (((((S.1 135 19) - 3) - (S.2.1 140 ((S.1 135 19) - 1))) - (S.2.1 140 ((S.1 135 19) - 2))) - r_8)).1 135 15 = _).trans (by omega), ((uF_ne (fun h => absurd h.2 (by decide))).trans ((uF_ne (fun h => absurd h.2 (by decide))).trans ((uF_ne (fun h => absurd h.2 (by decide))).trans ((uC_f).trans ((uC_f).trans (uC_f))))) : (uF (uF (uF (uC (uC (uC S 140 (((((S.1 135 19) - 3) - (S.2.1 140 ((S.1 135 19) - 1))) - (S.2.1 140 ((S.1 135 19) - 2))) - r_8) oc 0 r_8) 140 ((((((S.1 135 19) - 3) - (S.2.1 140 ((S.1 135 19) - 1))) - (S.2.1 140 ((S.1 135 19) - 2))) - r_8) + r_8) 138 1 (S.2.1 140 ((S.1 135 19) - 2))) 140 (((((((S.1 135 19) - 3) - (S.2.1 140 ((S.1 135 19) - 1))) - (S.2.1 140 ((S.1 135 19) - 2))) - r_8) + r_8) + (S.2.1 140 ((S.1 135 19) - 2))) 139 1 (S.2.1 140 ((S.1 135 19) - 1))) 135 14 (S.2.1 140 ((S.1 135 19) - 2))) 135 15 (S.2.1 140 ((S.1 135 19) - 1))) 135 19 (((((S.1 135 19) - 3) - (S.2.1 140 ((S.1 135 19) - 1))) - (S.2.1 140 ((S.1 135 19) - 2))) - r_8)).1 135 16 = _).trans hd16⟩), (by rw [(uF_on : (uF (uF (uF (uC (uC (uC S 140 (((((S.1 135 19) - 3) - (S.2.1 140 ((S.1 135 19) - 1))) - (S.2.1 140 ((S.1 135 19) - 2))) - r_8) oc 0 r_8) 140 ((((((S.1 135 19) - 3) - (S.2.1 140 ((S.1 135 19) - 1))) - (S.2.1 140 ((S.1 135 19) - 2))) - r_8) + r_8) 138 1 (S.2.1 140 ((S.1 135 19) - 2))) 140 (((((((S.1 135 19) - 3) - (S.2.1 140 ((S.1 135 19) - 1))) - (S.2.1 140 ((S.1 135 19) - 2))) - r_8) + r_8) + (S.2.1 140 ((S.1 135 19) - 2))) 139 1 (S.2.1 140 ((S.1 135 19) - 1))) 135 14 (S.2.1 140 ((S.1 135 19) - 2))) 135 15 (S.2.1 140 ((S.1 135 19) - 1))) 135 19 (((((S.1 135 19) - 3) - (S.2.1 140 ((S.1 135 19) - 1))) - (S.2.1 140 ((S.1 135 19) - 2))) - r_8)).1 135 19 = _), show (uF (uF (uF (uC (uC (uC S 140 (((((S.1 135 19) - 3) - (S.2.1 140 ((S.1 135 19) - 1))) - (S.2.1 140 ((S.1 135 19) - 2))) - r_8) oc 0 r_8) 140 ((((((S.1 135 19) - 3) - (S.2.1 140 ((S.1 135 19) - 1))) - (S.2.1 140 ((S.1 135 19) - 2))) - r_8) + r_8) 138 1 (S.2.1 140 ((S.1 135 19) - 2))) 140 (((((((S.1 135 19) - 3) - (S.2.1 140 ((S.1 135 19) - 1))) - (S.2.1 140 ((S.1 135 19) - 2))) - r_8) + r_8) + (S.2.1 140 ((S.1 135 19) - 2))) 139 1 (S.2.1 140 ((S.1 135 19) - 1))) 135 14 (S.2.1 140 ((S.1 135 19) - 2))) 135 15 (S.2.1 140 ((S.1 135 19) - 1))) 135 19 (((((S.1 135 19) - 3) - (S.2.1 140 ((S.1 135 19) - 1))) - (S.2.1 140 ((S.1 135 19) - 2))) - r_8)).2.1 140 = S.2.1 140 from funext fun x => (uF_a).trans ((uF_a).trans ((uF_a).trans ((uC_ne (by decide)).trans ((uC_ne (by decide)).trans (uC_ne (ac_ne (rfl : acode 140 = 11) (dic_c hoc) (by decide))))))), show ((((S.1 135 19) - 3) - (S.2.1 140 ((S.1 135 19) - 1))) - (S.2.1 140 ((S.1 135 19) - 2))) - r_8 = b by omega]; exact hkt)⟩)⟩ dX2_restore_148
    · refine lv_iconst (v := iv 0) hx hb dX2_restore_75 (by decide) ?_
      exact sIret Cx hr hlk hW hL ⟨hI, (Fr.rf : Fr S S pRs), (by exfalso; omega)⟩ dX2_restore_76
  · refine lv_iconst (v := iv 0) hx hb dX2_restore_8 (by decide) ?_
    exact sIret Cx hr hlk hW hL ⟨hI, (Fr.rf : Fr S S pRs), (by exfalso; omega)⟩ dX2_restore_9

set_option maxRecDepth 100000 in
set_option maxHeartbeats 4000000 in
theorem v_X2_needsHelper (l : Launch) (G : sG) (S : sS) {oc od : Nat} {n hw : Int} {d : dT} (hI : cX G S 0 0 0) (hdq : dcs G S oc od) (hDR : Hd (DRc S oc n hw d)) : Met l yX2_needsHelper (.code yX2_needsHelper cX2_needsHelper 2 (some .boolean) :: tb) (rmk 3 0 0) (sPc G 294 S [.ref (G.2.2.1 + 135)]) (sQi G 294 (fun r u => u = S ∧ ((0 ≤ r ∧ r ≤ 1) ∧ Hd (r = 1 → ∃ i, (1 ≤ i ∧ i ≤ d.2.2.2.2.1) ∧ d.2.1 i 0 < 0) ∧ Hd (r = 0 → ∀ i, 1 ≤ i → i ≤ d.2.2.2.2.1 → 0 ≤ d.2.1 i 0)))) 0 0 (sF G) := by
  refine sEnter (by decide) (Nat.le_of_ble_eq_true rfl) ?_
  intro p e s m args below meth c Cx hr hlk hnm hW ls hl
  have Cx : sC G p m c cX2_needsHelper 2 s args RX2 := Cx
  obtain ⟨hx, hb, hml, hown, hts⟩ := id Cx.1
  have hL : sL G [] := sL_nil
  have hl : lv_has ls 2 [(0, .ref (G.2.2.1 + 135))] := hl
  have hW0 := hW
  obtain ⟨hoc, hod, hcd, hec, hed⟩ := id hdq
  have hd13 := hDR.2.2.2.2.1; have hd14 := hDR.2.2.2.2.2.1; have hd15 := hDR.2.2.2.2.2.2.1; have hd16 := hDR.2.2.2.2.2.2.2; have hm40 : 0 ≤ S.1 135 14 ∧ S.1 135 14 ≤ 40 := hI.fi 135 14 2 (by decide) rfl; have hp13 : 0 ≤ S.1 135 15 ∧ S.1 135 15 ≤ 13 := hI.fi 135 15 2 (by decide) rfl
  refine lv_iconst (v := iv 1) hx hb dX2_needsHelper_0 (by decide) ?_
  refine lv_istore_n (lv' := [(1, .int (iv 1)), (0, .ref (G.2.2.1 + 135))]) hx hb dX2_needsHelper_1 rfl hl (by decide) rfl (fun ls hl => ?_)
  have loop_2 : ∀ (fuel : Nat) (i : Int) (H : Heap) (locs : List Loc) (ls : Array Slot), (41 - i).toNat < fuel → (1 ≤ i ∧ i ≤ d.2.2.2.2.1 + 1) → (Hd (∀ k, 1 ≤ k → k < i → 0 ≤ d.2.1 k 0)) → sW G 294 S H → sL G locs → lv_has ls 2 [(1, .int (iv i)), (0, .ref (G.2.2.1 + 135))] → W p l e (rmk 3 0 0) s m args below meth c H locs 0 0 (MQ below (sQi G 294 (fun r u => u = S ∧ ((0 ≤ r ∧ r ≤ 1) ∧ Hd (r = 1 → ∃ i, (1 ≤ i ∧ i ≤ d.2.2.2.2.1) ∧ d.2.1 i 0 < 0) ∧ Hd (r = 0 → ∀ i, 1 ≤ i → i ≤ d.2.2.2.2.1 → 0 ≤ d.2.1 i 0)))) args s 0 0 (sF G)) (F0 m 2 ls []) := by
    intro fuel
    induction fuel with
    | zero => intro i H locs ls hmeas hi hn hW hL hl; exact absurd hmeas (Nat.not_lt_zero _)
    | succ fuel ih_2 =>
      intro i H locs ls hmeas hi hn hW hL hl
      refine lv_iload_n hx hb dX2_needsHelper_2 rfl (lv_at hl 0 rfl) ?_
      refine lv_aload_n hx hb dX2_needsHelper_3 rfl (lv_at hl 1 rfl) ?_
      have q_1 : 0 ≤ S.1 135 14 ∧ S.1 135 14 ≤ 40 := hI.fi 135 14 2 (by decide) rfl
      refine g_X2_66 Cx hW (k := 135) (by decide) rfl (v := S.1 135 14) rfl dX2_needsHelper_4 ?_
      refine r_icmp_gt (tgt := 27) hx hb ⟨(by omega), (by omega)⟩ ⟨(by omega), (by omega)⟩ dX2_needsHelper_7 (by decide) (fun c_2 => ?_) (fun c_2 => ?_)
      · refine lv_iconst (v := iv 0) hx hb dX2_needsHelper_27 (by decide) ?_
        exact sZret Cx hr hlk hW hL (by omega) ⟨rfl, ⟨by omega, (fun q => absurd q (by omega)), (fun _ k k0 k1 => hn k k0 (by omega))⟩⟩ dX2_needsHelper_28
      · refine lv_aload_n hx hb dX2_needsHelper_10 rfl (lv_at hl 1 rfl) ?_
        refine lv_iload_n hx hb dX2_needsHelper_11 rfl (lv_at hl 0 rfl) ?_
        refine lv_iconst (v := iv 0) hx hb dX2_needsHelper_12 (by decide) ?_
        refine sBi (sV (As := [.int (iv i), .int (iv 0)]) (rest := []) (k := 135) Cx (v_X2_sign l G S (i := i) (j := 0) (oc := oc) (od := od) (n := n) (hw := hw) (d := d) hI ⟨hoc, hod, (neD hcd), hec, hed⟩ hDR (by omega) (by omega) (by omega)) (c_X2_95 Cx rfl rfl (rmk_ok (by omega) (by decide))) hW (by decide) rfl rfl rfl hl.1 rfl (Nat.le_of_ble_eq_true rfl) dX2_needsHelper_13 ⟨Nat.le_of_ble_eq_true rfl, Nat.le_of_ble_eq_true rfl⟩) hL (fun r_5 u_3 H locs k_4 hW hL => ?_)
        obtain ⟨eu_3, xu_3⟩ := k_4
        rw [eu_3] at hW
        refine r_if_ge (tgt := 21) hx hb ⟨(by omega), (by omega)⟩ dX2_needsHelper_16 (by decide) (fun c_6 => ?_) (fun c_6 => ?_)
        · refine lv_iinc (v := iv (i + 1)) (lv' := [(1, .int (iv (i + 1))), (0, .ref (G.2.2.1 + 135))]) hx hb dX2_needsHelper_21 hl (k := 0) rfl ((Int32.ofInt_add _ _).symm) (by decide) rfl (fun ls hl => ?_)
          refine lv_goto (tgt := 2) hx hb dX2_needsHelper_24 (by decide) ?_
          exact ih_2 (i + 1) _ _ _ (by omega) (by omega) (fun k a b => by by_cases q : k = i; (rw [q]; omega); exact hn k a (by omega)) hW hL (lv_sub hl [0, 1] rfl)
        · refine lv_iconst (v := iv 1) hx hb dX2_needsHelper_19 (by decide) ?_
          exact sZret Cx hr hlk hW hL (by omega) ⟨rfl, ⟨by omega, (fun _ => ⟨i, by omega, by omega⟩), (fun q => absurd q (by omega))⟩⟩ dX2_needsHelper_20
  exact loop_2 (_ + 1) 1 _ _ _ (Nat.lt_succ_self _) (by omega) (fun k a b => absurd b (by omega)) hW hL (lv_sub hl [0, 1] rfl)

set_option maxRecDepth 100000 in
set_option maxHeartbeats 4000000 in
theorem v_X2_addHelper (l : Launch) (G : sG) (S : sS) {oc od : Nat} {n hw : Int} {d : dT} {mm : Int} {A : Int → Int → Int} (hI : cX G S 0 0 0) (hdq : dcs G S oc od) (hDR : Hd (DRc S oc n hw d)) (hde : d = dS0 n mm A 0) (hn12 : 0 ≤ n ∧ n ≤ 12) (hm16 : 0 ≤ mm ∧ mm ≤ 16) : Met l yX2_addHelper (.code yX2_addHelper cX2_addHelper 2 none :: tb) (rmk 3 0 0) (sPc G 294 S [.ref (G.2.2.1 + 135)]) (sQv G 294 (fun u => cX G u 0 0 0 ∧ Fr S u pAh ∧ (dcs G u oc od ∧ Hd (DRc u oc n 1 (dS0 n mm A 1)) ∧ u.1 135 19 = S.1 135 19))) 0 0 (sF G) := by
  refine sEnter (by decide) (Nat.le_of_ble_eq_true rfl) ?_
  intro p e s m args below meth c Cx hr hlk hnm hW ls hl
  have Cx : sC G p m c cX2_addHelper 2 s args RX2 := Cx
  obtain ⟨hx, hb, hml, hown, hts⟩ := id Cx.1
  have hL : sL G [] := sL_nil
  have hl : lv_has ls 2 [(0, .ref (G.2.2.1 + 135))] := hl
  have hW0 := hW
  obtain ⟨hoc, hod, hcd, hec, hed⟩ := id hdq
  have hd13 := hDR.2.2.2.2.1; have hd14 := hDR.2.2.2.2.2.1; have hd15 := hDR.2.2.2.2.2.2.1; have hd16 := hDR.2.2.2.2.2.2.2; have hm40 : 0 ≤ S.1 135 14 ∧ S.1 135 14 ≤ 40 := hI.fi 135 14 2 (by decide) rfl; have hp13 : 0 ≤ S.1 135 15 ∧ S.1 135 15 ≤ 13 := hI.fi 135 15 2 (by decide) rfl
  have hem : d.2.2.2.2.1 = mm := by rw [hde]; rfl
  have hep : d.2.2.2.2.2 = n + 0 := by rw [hde]; rfl
  refine lv_aload_n hx hb dX2_addHelper_0 rfl (lv_at hl 0 rfl) ?_
  refine lv_iconst (v := iv 1) hx hb dX2_addHelper_1 (by decide) ?_
  refine p_X2_70 Cx hW hL (k := 135) (by decide) rfl (by omega) dX2_addHelper_2 (fun H locs hW hL => ?_)
  have F_1 : Fr S (uF S 135 16 1) pAh := (Fr.rf : Fr S S pAh).F rfl
  have i_2 : cX G (uF S 135 16 1) 0 0 0 := hI.F rfl rfl (show 0 ≤ 1 ∧ 1 ≤ 1 from ⟨by omega, by omega⟩)
  refine lv_aload_n hx hb dX2_addHelper_5 rfl (lv_at hl 0 rfl) ?_
  refine lv_dup hx hb dX2_addHelper_6 rfl ?_
  have q_3 : 0 ≤ S.1 135 15 ∧ S.1 135 15 ≤ 13 := hI.fi 135 15 2 (by decide) rfl
  refine g_X2_67 Cx hW (k := 135) (by decide) rfl (v := S.1 135 15) (uF_ne (fun h => absurd h.2 (by decide))) dX2_addHelper_7 ?_
  refine lv_iconst (v := iv 1) hx hb dX2_addHelper_10 (by decide) ?_
  refine r_iadd hx hb dX2_addHelper_11 ?_
  refine p_X2_67 Cx hW hL (k := 135) (by decide) rfl dX2_addHelper_12 (fun H locs hW hL => ?_)
  have F_4 : Fr S (uF (uF S 135 16 1) 135 15 ((S.1 135 15) + 1)) pAh := F_1.F rfl
  have i_5 : cX G (uF (uF S 135 16 1) 135 15 ((S.1 135 15) + 1)) 0 0 0 := i_2.F rfl rfl (show 0 ≤ (S.1 135 15) + 1 ∧ (S.1 135 15) + 1 ≤ 13 from ⟨by omega, by omega⟩)
  refine lv_aload_n hx hb dX2_addHelper_15 rfl (lv_at hl 0 rfl) ?_
  refine g_X2_23 Cx hW (k := 135) (by decide) rfl (v := .ref (G.2.2.1 + 139)) (rf_135_3 i_5) dX2_addHelper_16 ?_
  refine lv_aload_n hx hb dX2_addHelper_19 rfl (lv_at hl 0 rfl) ?_
  refine g_X2_67 Cx hW (k := 135) (by decide) rfl (v := (S.1 135 15) + 1) uF_on dX2_addHelper_20 ?_
  refine lv_iconst (v := iv 0) hx hb dX2_addHelper_23 (by decide) ?_
  refine rIast Cx hW hL (k := 139) (by decide) rfl (by decide) (by omega) (by omega) dX2_addHelper_24 (fun H locs hW hL => ?_)
  have F_6 : Fr S (uA (uF (uF S 135 16 1) 135 15 ((S.1 135 15) + 1)) 139 ((S.1 135 15) + 1) 0) pAh := F_4.A rfl
  have i_7 : cX G (uA (uF (uF S 135 16 1) 135 15 ((S.1 135 15) + 1)) 139 ((S.1 135 15) + 1) 0) 0 0 0 := i_5.A (by decide) (by decide) (by decide) (show (-2147483648) ≤ 0 ∧ 0 ≤ 2147483647 from ⟨by omega, by omega⟩)
  refine lv_iconst (v := iv 0) hx hb dX2_addHelper_25 (by decide) ?_
  refine lv_istore_n (lv' := [(1, .int (iv 0)), (0, .ref (G.2.2.1 + 135))]) hx hb dX2_addHelper_26 rfl hl (by decide) rfl (fun ls hl => ?_)
  have loop_27 : ∀ (fuel : Nat) (S27 : sS) (j : Int) (H : Heap) (locs : List Loc) (ls : Array Slot), (13 - j).toNat < fuel → (cX G S27 0 0 0) → (Fr S S27 pAh) → (Fr ((uA (uF (uF S 135 16 1) 135 15 ((S.1 135 15) + 1)) 139 ((S.1 135 15) + 1) 0)) S27 pDc) → (0 ≤ j ∧ j ≤ n + 1) → (Hd (CPc (S27.2.1 oc) (dS0 n mm A 1).2.1 (fun a b => (0 ≤ a ∧ a ≤ mm ∧ b ≤ n) ∨ (a = -1 ∧ b < j)))) → sW G 294 S27 H → sL G locs → lv_has ls 2 [(1, .int (iv j)), (0, .ref (G.2.2.1 + 135))] → W p l e (rmk 3 0 0) s m args below meth c H locs 0 0 (MQ below (sQv G 294 (fun u => cX G u 0 0 0 ∧ Fr S u pAh ∧ (dcs G u oc od ∧ Hd (DRc u oc n 1 (dS0 n mm A 1)) ∧ u.1 135 19 = S.1 135 19))) args s 0 0 (sF G)) (F0 m 27 ls []) := by
    intro fuel
    induction fuel with
    | zero => intro S27 j H locs ls hmeas hI27 hFm27 hL27_ hj hA hW hL hl; exact absurd hmeas (Nat.not_lt_zero _)
    | succ fuel ih_27 =>
      intro S27 j H locs ls hmeas hI27 hFm27 hL27_ hj hA hW hL hl
      refine lv_iload_n hx hb dX2_addHelper_27 rfl (lv_at hl 0 rfl) ?_
      refine lv_aload_n hx hb dX2_addHelper_28 rfl (lv_at hl 1 rfl) ?_
      refine g_X2_67 Cx hW (k := 135) (by decide) rfl (v := (S.1 135 15) + 1) (((hL27_ 135 rfl).1 15).trans ((uA_f).trans (uF_on))) dX2_addHelper_29 ?_
      refine r_icmp_ge (tgt := 54) hx hb ⟨(by omega), (by omega)⟩ ⟨(by omega), (by omega)⟩ dX2_addHelper_32 (by decide) (fun c_8 => ?_) (fun c_8 => ?_)
      · refine lv_aload_n hx hb dX2_addHelper_54 rfl (lv_at hl 1 rfl) ?_
        refine g_X2_13 Cx hW (k := 135) (by decide) rfl (v := .ref (G.2.2.1 + oc)) ((((hL27_ 135 rfl).2.2.2 0).trans ((uA_r).trans ((uF_r).trans (uF_r)))).trans hec) dX2_addHelper_55 ?_
        refine lv_iconst (v := iv (-1)) hx hb dX2_addHelper_58 (by decide) ?_
        refine lv_aload_n hx hb dX2_addHelper_59 rfl (lv_at hl 1 rfl) ?_
        refine g_X2_67 Cx hW (k := 135) (by decide) rfl (v := (S.1 135 15) + 1) (((hL27_ 135 rfl).1 15).trans ((uA_f).trans (uF_on))) dX2_addHelper_60 ?_
        refine sBi (sSt (As := [.int (iv ((-1))), .int (iv ((S.1 135 15) + 1))]) (rest := [.ref (G.2.2.1 + oc)]) Cx (s_X2_at l G S27 (i := (-1)) (j := (S.1 135 15) + 1) (by omega) (by omega)) (c_X2_77 Cx rfl rfl (rmk_ok (by omega) (by decide))) hW rfl hl.1 rfl (Nat.le_of_ble_eq_true rfl) dX2_addHelper_63 ⟨Nat.le_of_ble_eq_true rfl, Nat.le_of_ble_eq_true rfl⟩) hL (fun r_11 u_9 H locs k_10 hW hL => ?_)
        obtain ⟨eu_9, xu_9⟩ := k_10
        rw [eu_9] at hW
        refine lv_lconst (v := jv 1) hx hb dX2_addHelper_66 (by decide) ?_
        refine sBv (sSt (As := [.ref (G.2.2.1 + oc), .int (iv r_11), .long (jv 1)]) (rest := []) Cx (b_X0_store l G S27 (k := oc) (a := r_11) (v := 1) (N := 4816) hI27 (dic_a hoc) (by omega) (by omega) (fun _ q => by exfalso; omega)) (c_X2_81 Cx rfl rfl (rmk_ok (by omega) (by decide))) hW rfl hl.1 rfl (Nat.le_of_ble_eq_true rfl) dX2_addHelper_67 ⟨Nat.le_of_ble_eq_true rfl, Nat.le_of_ble_eq_true rfl⟩) hL (fun u_12 H locs k_13 hW hL => ?_)
        obtain ⟨iu_12, fu_12, xu_12⟩ := k_13
        have F_14 := hFm27.trans (fu_12.to (p1_sub (pDc_h _ (dic_pDc hoc))))
        have F_15 := hL27_.trans (fu_12.to (p1_sub (dic_pDc hoc)))
        have hA1 : Hd (CPc (u_12.2.1 oc) (dS0 n mm A 1).2.1 (fun a b => (0 ≤ a ∧ a ≤ mm ∧ b ≤ n) ∨ (a = -1 ∧ b < n + 2))) := (CPc.sv (Y := (fun a b => (0 ≤ a ∧ a ≤ mm ∧ b ≤ n) ∨ (a = -1 ∧ b < n + 2))) hA (hd7 hI27 hoc) (i := -1) (j := n + 1) (A := r_11) (by omega) (by omega) (by omega) (fun a b q => by (try simp only [] at q ⊢); omega) (fun y q => (xu_12.2 y q).trans (congrFun (show S27.2.1 oc = S27.2.1 oc from funext fun x => rfl) y)) ((show nv _ _ = _ from xu_12.1).trans (by simp [dS0])))
        refine lv_aload_n hx hb dX2_addHelper_70 rfl (lv_at hl 1 rfl) ?_
        refine g_X2_13 Cx hW (k := 135) (by decide) rfl (v := .ref (G.2.2.1 + oc)) ((((fu_12 135 (p1_no (tau_ne (rfl : tau 135 = .inl 2) (dic_t hoc) (fun h => by cases h)))).2.2.2 0).trans (((hL27_ 135 rfl).2.2.2 0).trans ((uA_r).trans ((uF_r).trans (uF_r))))).trans hec) dX2_addHelper_71 ?_
        refine lv_iconst (v := iv 0) hx hb dX2_addHelper_74 (by decide) ?_
        refine lv_aload_n hx hb dX2_addHelper_75 rfl (lv_at hl 1 rfl) ?_
        refine g_X2_67 Cx hW (k := 135) (by decide) rfl (v := (S.1 135 15) + 1) (((fu_12 135 (p1_no (tau_ne (rfl : tau 135 = .inl 2) (dic_t hoc) (fun h => by cases h)))).1 15).trans (((hL27_ 135 rfl).1 15).trans ((uA_f).trans (uF_on)))) dX2_addHelper_76 ?_
        refine sBi (sSt (As := [.int (iv 0), .int (iv ((S.1 135 15) + 1))]) (rest := [.ref (G.2.2.1 + oc)]) Cx (s_X2_at l G u_12 (i := 0) (j := (S.1 135 15) + 1) (by omega) (by omega)) (c_X2_77 Cx rfl rfl (rmk_ok (by omega) (by decide))) hW rfl hl.1 rfl (Nat.le_of_ble_eq_true rfl) dX2_addHelper_79 ⟨Nat.le_of_ble_eq_true rfl, Nat.le_of_ble_eq_true rfl⟩) hL (fun r_18 u_16 H locs k_17 hW hL => ?_)
        obtain ⟨eu_16, xu_16⟩ := k_17
        rw [eu_16] at hW
        refine lv_lconst (v := jv 0) hx hb dX2_addHelper_82 (by decide) ?_
        refine sBv (sSt (As := [.ref (G.2.2.1 + oc), .int (iv r_18), .long (jv 0)]) (rest := []) Cx (b_X0_store l G u_12 (k := oc) (a := r_18) (v := 0) (N := 4816) iu_12 (dic_a hoc) (by omega) (by omega) (fun _ q => by exfalso; omega)) (c_X2_81 Cx rfl rfl (rmk_ok (by omega) (by decide))) hW rfl hl.1 rfl (Nat.le_of_ble_eq_true rfl) dX2_addHelper_83 ⟨Nat.le_of_ble_eq_true rfl, Nat.le_of_ble_eq_true rfl⟩) hL (fun u_19 H locs k_20 hW hL => ?_)
        obtain ⟨iu_19, fu_19, xu_19⟩ := k_20
        have F_21 := F_14.trans (fu_19.to (p1_sub (pDc_h _ (dic_pDc hoc))))
        have F_22 := F_15.trans (fu_19.to (p1_sub (dic_pDc hoc)))
        have hA2 : Hd (CPc (u_19.2.1 oc) (dS0 n mm A 1).2.1 (fun a b => (0 ≤ a ∧ a ≤ mm ∧ b ≤ n) ∨ (a = -1 ∧ b ≤ n + 1) ∨ (b = n + 1 ∧ 0 ≤ a ∧ a < 1))) := (CPc.sv (Y := (fun a b => (0 ≤ a ∧ a ≤ mm ∧ b ≤ n) ∨ (a = -1 ∧ b ≤ n + 1) ∨ (b = n + 1 ∧ 0 ≤ a ∧ a < 1))) hA1 (hd7 iu_12 hoc) (i := 0) (j := n + 1) (A := r_18) (by omega) (by omega) (by omega) (fun a b q => by (try simp only [] at q ⊢); omega) (fun y q => (xu_19.2 y q).trans (congrFun (show u_12.2.1 oc = u_12.2.1 oc from funext fun x => rfl) y)) ((show nv _ _ = _ from xu_19.1).trans (by simp [dS0, (show ¬ (0 : Int) = -1 by omega)])))
        refine lv_iconst (v := iv 1) hx hb dX2_addHelper_86 (by decide) ?_
        refine lv_istore_n (lv' := [(1, .int (iv 1)), (0, .ref (G.2.2.1 + 135))]) hx hb dX2_addHelper_87 rfl hl (by decide) rfl (fun ls hl => ?_)
        have loop_88 : ∀ (fuel : Nat) (S88 : sS) (i : Int) (H : Heap) (locs : List Loc) (ls : Array Slot), (41 - i).toNat < fuel → (cX G S88 0 0 0) → (Fr S S88 pAh) → (Fr ((uA (uF (uF S 135 16 1) 135 15 ((S.1 135 15) + 1)) 139 ((S.1 135 15) + 1) 0)) S88 pDc) → (Fr u_19 S88 pDc) → (1 ≤ i ∧ i ≤ mm + 1) → (Hd (CPc (S88.2.1 oc) (dS0 n mm A 1).2.1 (fun a b => (0 ≤ a ∧ a ≤ mm ∧ b ≤ n) ∨ (a = -1 ∧ b ≤ n + 1) ∨ (b = n + 1 ∧ 0 ≤ a ∧ a < i)))) → sW G 294 S88 H → sL G locs → lv_has ls 2 [(1, .int (iv i)), (0, .ref (G.2.2.1 + 135))] → W p l e (rmk 3 0 0) s m args below meth c H locs 0 0 (MQ below (sQv G 294 (fun u => cX G u 0 0 0 ∧ Fr S u pAh ∧ (dcs G u oc od ∧ Hd (DRc u oc n 1 (dS0 n mm A 1)) ∧ u.1 135 19 = S.1 135 19))) args s 0 0 (sF G)) (F0 m 88 ls []) := by
          intro fuel
          induction fuel with
          | zero => intro S88 i H locs ls hmeas hI88 hFm88 hFL2788 hL88_ hi hA3 hW hL hl; exact absurd hmeas (Nat.not_lt_zero _)
          | succ fuel ih_88 =>
            intro S88 i H locs ls hmeas hI88 hFm88 hFL2788 hL88_ hi hA3 hW hL hl
            refine lv_iload_n hx hb dX2_addHelper_88 rfl (lv_at hl 0 rfl) ?_
            refine lv_aload_n hx hb dX2_addHelper_89 rfl (lv_at hl 1 rfl) ?_
            have q_23 : 0 ≤ S.1 135 14 ∧ S.1 135 14 ≤ 40 := hI.fi 135 14 2 (by decide) rfl
            refine g_X2_66 Cx hW (k := 135) (by decide) rfl (v := S.1 135 14) (((hL88_ 135 rfl).1 14).trans (((fu_19 135 (p1_no (tau_ne (rfl : tau 135 = .inl 2) (dic_t hoc) (fun h => by cases h)))).1 14).trans (((fu_12 135 (p1_no (tau_ne (rfl : tau 135 = .inl 2) (dic_t hoc) (fun h => by cases h)))).1 14).trans (((hL27_ 135 rfl).1 14).trans ((uA_f).trans ((uF_ne (fun h => absurd h.2 (by decide))).trans (uF_ne (fun h => absurd h.2 (by decide))))))))) dX2_addHelper_90 ?_
            refine r_icmp_gt (tgt := 120) hx hb ⟨(by omega), (by omega)⟩ ⟨(by omega), (by omega)⟩ dX2_addHelper_93 (by decide) (fun c_24 => ?_) (fun c_24 => ?_)
            · have q_25 : 0 ≤ S.1 135 19 ∧ S.1 135 19 ≤ 102220 := hI.fi 135 19 2 (by decide) rfl
              have lk_26 : S88.1 135 19 = S.1 135 19 := ((hL88_ 135 rfl).1 19).trans (((fu_19 135 (p1_no (tau_ne (rfl : tau 135 = .inl 2) (dic_t hoc) (fun h => by cases h)))).1 19).trans (((fu_12 135 (p1_no (tau_ne (rfl : tau 135 = .inl 2) (dic_t hoc) (fun h => by cases h)))).1 19).trans (((hL27_ 135 rfl).1 19).trans ((uA_f).trans ((uF_ne (fun h => absurd h.2 (by decide))).trans (uF_ne (fun h => absurd h.2 (by decide))))))))
              exact sVret Cx hr hlk hW hL ⟨hI88, hFm88, ⟨⟨hoc, hod, (neD hcd), ((((hL88_ 135 rfl).2.2.2 0).trans (((fu_19 135 (p1_no (tau_ne (rfl : tau 135 = .inl 2) (dic_t hoc) (fun h => by cases h)))).2.2.2 0).trans (((fu_12 135 (p1_no (tau_ne (rfl : tau 135 = .inl 2) (dic_t hoc) (fun h => by cases h)))).2.2.2 0).trans (((hL27_ 135 rfl).2.2.2 0).trans ((uA_r).trans ((uF_r).trans (uF_r))))))).trans hec), ((((hL88_ 135 rfl).2.2.2 1).trans (((fu_19 135 (p1_no (tau_ne (rfl : tau 135 = .inl 2) (dic_t hoc) (fun h => by cases h)))).2.2.2 1).trans (((fu_12 135 (p1_no (tau_ne (rfl : tau 135 = .inl 2) (dic_t hoc) (fun h => by cases h)))).2.2.2 1).trans (((hL27_ 135 rfl).2.2.2 1).trans ((uA_r).trans ((uF_r).trans (uF_r))))))).trans hed)⟩, ⟨hA3.1, fun a b a0 a1 aw b0 b1 => (by have a1 : a ≤ mm := a1; have b1 : b ≤ n + 1 := b1; exact hA3.2 a b (by simp only []; omega) (by omega) (by omega)), fun a a0 a1 => (by have a1 : a ≤ mm := a1; rw [show S88.2.1 138 a = S.2.1 138 a from ((hL88_ 138 rfl).2.1 a).trans (((fu_19 138 (p1_no (ac_ne (rfl : acode 138 = 0) (dic_c hoc) (by decide)))).2.1 a).trans (((fu_12 138 (p1_no (ac_ne (rfl : acode 138 = 0) (dic_c hoc) (by decide)))).2.1 a).trans (((hL27_ 138 rfl).2.1 a).trans ((uA_ne (fun h => absurd h.1 (by decide))).trans ((uF_a).trans (uF_a)))))), hDR.2.2.1 a a0 (by omega), hde]; rfl), fun b b0 b1 => (by have b1 : b ≤ n + 1 := b1; rw [show S88.2.1 139 b = (uA (uF (uF S 135 16 1) 135 15 ((S.1 135 15) + 1)) 139 ((S.1 135 15) + 1) 0).2.1 139 b from ((hL88_ 139 rfl).2.1 b).trans (((fu_19 139 (p1_no (ac_ne (rfl : acode 139 = 0) (dic_c hoc) (by decide)))).2.1 b).trans (((fu_12 139 (p1_no (ac_ne (rfl : acode 139 = 0) (dic_c hoc) (by decide)))).2.1 b).trans ((hL27_ 139 rfl).2.1 b))), uA_get]; show _ = (if b = n + 1 then 0 else b); by_cases z : b = n + 1; (rw [if_pos ⟨rfl, by omega⟩, if_pos z]); (rw [if_neg (fun q => z (by omega)), if_neg z, show (uF (uF S 135 16 1) 135 15 ((S.1 135 15) + 1)).2.1 139 b = S.2.1 139 b from (uF_a).trans (uF_a), hDR.2.2.2.1 b b0 (by omega), hde]; show (if b = n + 1 then 0 else b) = b; rw [if_neg z])), (((hL88_ 135 rfl).1 13).trans (((fu_19 135 (p1_no (tau_ne (rfl : tau 135 = .inl 2) (dic_t hoc) (fun h => by cases h)))).1 13).trans (((fu_12 135 (p1_no (tau_ne (rfl : tau 135 = .inl 2) (dic_t hoc) (fun h => by cases h)))).1 13).trans (((hL27_ 135 rfl).1 13).trans ((uA_f).trans ((uF_ne (fun h => absurd h.2 (by decide))).trans (uF_ne (fun h => absurd h.2 (by decide)))))))) : S88.1 135 13 = _).trans hd13, (((hL88_ 135 rfl).1 14).trans (((fu_19 135 (p1_no (tau_ne (rfl : tau 135 = .inl 2) (dic_t hoc) (fun h => by cases h)))).1 14).trans (((fu_12 135 (p1_no (tau_ne (rfl : tau 135 = .inl 2) (dic_t hoc) (fun h => by cases h)))).1 14).trans (((hL27_ 135 rfl).1 14).trans ((uA_f).trans ((uF_ne (fun h => absurd h.2 (by decide))).trans (uF_ne (fun h => absurd h.2 (by decide)))))))) : S88.1 135 14 = _).trans (hd14.trans (by rw [hde]; rfl)), ((((hL88_ 135 rfl).1 15).trans (((fu_19 135 (p1_no (tau_ne (rfl : tau 135 = .inl 2) (dic_t hoc) (fun h => by cases h)))).1 15).trans (((fu_12 135 (p1_no (tau_ne (rfl : tau 135 = .inl 2) (dic_t hoc) (fun h => by cases h)))).1 15).trans (((hL27_ 135 rfl).1 15).trans ((uA_f).trans (uF_on))))) : S88.1 135 15 = _).trans (show _ = n + 1 by omega)), (((hL88_ 135 rfl).1 16).trans (((fu_19 135 (p1_no (tau_ne (rfl : tau 135 = .inl 2) (dic_t hoc) (fun h => by cases h)))).1 16).trans (((fu_12 135 (p1_no (tau_ne (rfl : tau 135 = .inl 2) (dic_t hoc) (fun h => by cases h)))).1 16).trans (((hL27_ 135 rfl).1 16).trans ((uA_f).trans ((uF_ne (fun h => absurd h.2 (by decide))).trans (uF_on)))))) : S88.1 135 16 = _).trans rfl⟩, (((hL88_ 135 rfl).1 19).trans (((fu_19 135 (p1_no (tau_ne (rfl : tau 135 = .inl 2) (dic_t hoc) (fun h => by cases h)))).1 19).trans (((fu_12 135 (p1_no (tau_ne (rfl : tau 135 = .inl 2) (dic_t hoc) (fun h => by cases h)))).1 19).trans (((hL27_ 135 rfl).1 19).trans ((uA_f).trans ((uF_ne (fun h => absurd h.2 (by decide))).trans (uF_ne (fun h => absurd h.2 (by decide)))))))) : S88.1 135 19 = _)⟩⟩ dX2_addHelper_120
            · refine lv_aload_n hx hb dX2_addHelper_96 rfl (lv_at hl 1 rfl) ?_
              refine g_X2_13 Cx hW (k := 135) (by decide) rfl (v := .ref (G.2.2.1 + oc)) ((((hL88_ 135 rfl).2.2.2 0).trans (((fu_19 135 (p1_no (tau_ne (rfl : tau 135 = .inl 2) (dic_t hoc) (fun h => by cases h)))).2.2.2 0).trans (((fu_12 135 (p1_no (tau_ne (rfl : tau 135 = .inl 2) (dic_t hoc) (fun h => by cases h)))).2.2.2 0).trans (((hL27_ 135 rfl).2.2.2 0).trans ((uA_r).trans ((uF_r).trans (uF_r))))))).trans hec) dX2_addHelper_97 ?_
              refine lv_iload_n hx hb dX2_addHelper_100 rfl (lv_at hl 0 rfl) ?_
              refine lv_aload_n hx hb dX2_addHelper_101 rfl (lv_at hl 1 rfl) ?_
              refine g_X2_67 Cx hW (k := 135) (by decide) rfl (v := (S.1 135 15) + 1) (((hL88_ 135 rfl).1 15).trans (((fu_19 135 (p1_no (tau_ne (rfl : tau 135 = .inl 2) (dic_t hoc) (fun h => by cases h)))).1 15).trans (((fu_12 135 (p1_no (tau_ne (rfl : tau 135 = .inl 2) (dic_t hoc) (fun h => by cases h)))).1 15).trans (((hL27_ 135 rfl).1 15).trans ((uA_f).trans (uF_on)))))) dX2_addHelper_102 ?_
              refine sBi (sSt (As := [.int (iv i), .int (iv ((S.1 135 15) + 1))]) (rest := [.ref (G.2.2.1 + oc)]) Cx (s_X2_at l G S88 (i := i) (j := (S.1 135 15) + 1) (by omega) (by omega)) (c_X2_77 Cx rfl rfl (rmk_ok (by omega) (by decide))) hW rfl hl.1 rfl (Nat.le_of_ble_eq_true rfl) dX2_addHelper_105 ⟨Nat.le_of_ble_eq_true rfl, Nat.le_of_ble_eq_true rfl⟩) hL (fun r_29 u_27 H locs k_28 hW hL => ?_)
              obtain ⟨eu_27, xu_27⟩ := k_28
              rw [eu_27] at hW
              refine lv_ldc2 hx hb hown (hts _ w_1211) dX2_addHelper_108 ?_
              refine sBv (sSt (As := [.ref (G.2.2.1 + oc), .int (iv r_29), .long (jv ((-1)))]) (rest := []) Cx (b_X0_store l G S88 (k := oc) (a := r_29) (v := (-1)) (N := 4816) hI88 (dic_a hoc) (by omega) (by omega) (fun _ q => by exfalso; omega)) (c_X2_81 Cx rfl rfl (rmk_ok (by omega) (by decide))) hW rfl hl.1 rfl (Nat.le_of_ble_eq_true rfl) dX2_addHelper_111 ⟨Nat.le_of_ble_eq_true rfl, Nat.le_of_ble_eq_true rfl⟩) hL (fun u_30 H locs k_31 hW hL => ?_)
              obtain ⟨iu_30, fu_30, xu_30⟩ := k_31
              have F_32 := hFm88.trans (fu_30.to (p1_sub (pDc_h _ (dic_pDc hoc))))
              have F_33 := hFL2788.trans (fu_30.to (p1_sub (dic_pDc hoc)))
              have F_34 := hL88_.trans (fu_30.to (p1_sub (dic_pDc hoc)))
              refine lv_iinc (v := iv (i + 1)) (lv' := [(1, .int (iv (i + 1))), (0, .ref (G.2.2.1 + 135))]) hx hb dX2_addHelper_114 hl (k := 0) rfl ((Int32.ofInt_add _ _).symm) (by decide) rfl (fun ls hl => ?_)
              refine lv_goto (tgt := 88) hx hb dX2_addHelper_117 (by decide) ?_
              exact ih_88 u_30 (i + 1) _ _ _ (by omega) iu_30 F_32 F_33 F_34 (by omega) (CPc.sv (Y := (fun a b => (0 ≤ a ∧ a ≤ mm ∧ b ≤ n) ∨ (a = -1 ∧ b ≤ n + 1) ∨ (b = n + 1 ∧ 0 ≤ a ∧ a < i + 1))) hA3 (hd7 hI88 hoc) (i := i) (j := n + 1) (A := r_29) (by omega) (by omega) (by omega) (fun a b q => by (try simp only [] at q ⊢); omega) (fun y q => (xu_30.2 y q).trans (congrFun (show S88.2.1 oc = S88.2.1 oc from funext fun x => rfl) y)) ((show nv _ _ = _ from xu_30.1).trans (by simp [dS0, (show ¬ i = -1 by omega), (show ¬ i = 0 by omega)]))) hW hL (lv_sub hl [0, 1] rfl)
        exact loop_88 (_ + 1) u_19 1 _ _ _ (Nat.lt_succ_self _) iu_19 F_21 F_22 Fr.rf (by omega) hA2 hW hL (lv_sub hl [0, 1] rfl)
      · refine lv_aload_n hx hb dX2_addHelper_35 rfl (lv_at hl 1 rfl) ?_
        refine g_X2_13 Cx hW (k := 135) (by decide) rfl (v := .ref (G.2.2.1 + oc)) ((((hL27_ 135 rfl).2.2.2 0).trans ((uA_r).trans ((uF_r).trans (uF_r)))).trans hec) dX2_addHelper_36 ?_
        refine lv_iconst (v := iv (-1)) hx hb dX2_addHelper_39 (by decide) ?_
        refine lv_iload_n hx hb dX2_addHelper_40 rfl (lv_at hl 0 rfl) ?_
        refine sBi (sSt (As := [.int (iv ((-1))), .int (iv j)]) (rest := [.ref (G.2.2.1 + oc)]) Cx (s_X2_at l G S27 (i := (-1)) (j := j) (by omega) (by omega)) (c_X2_77 Cx rfl rfl (rmk_ok (by omega) (by decide))) hW rfl hl.1 rfl (Nat.le_of_ble_eq_true rfl) dX2_addHelper_41 ⟨Nat.le_of_ble_eq_true rfl, Nat.le_of_ble_eq_true rfl⟩) hL (fun r_37 u_35 H locs k_36 hW hL => ?_)
        obtain ⟨eu_35, xu_35⟩ := k_36
        rw [eu_35] at hW
        refine lv_lconst (v := jv 0) hx hb dX2_addHelper_44 (by decide) ?_
        refine sBv (sSt (As := [.ref (G.2.2.1 + oc), .int (iv r_37), .long (jv 0)]) (rest := []) Cx (b_X0_store l G S27 (k := oc) (a := r_37) (v := 0) (N := 4816) hI27 (dic_a hoc) (by omega) (by omega) (fun _ q => by exfalso; omega)) (c_X2_81 Cx rfl rfl (rmk_ok (by omega) (by decide))) hW rfl hl.1 rfl (Nat.le_of_ble_eq_true rfl) dX2_addHelper_45 ⟨Nat.le_of_ble_eq_true rfl, Nat.le_of_ble_eq_true rfl⟩) hL (fun u_38 H locs k_39 hW hL => ?_)
        obtain ⟨iu_38, fu_38, xu_38⟩ := k_39
        have F_40 := hFm27.trans (fu_38.to (p1_sub (pDc_h _ (dic_pDc hoc))))
        have F_41 := hL27_.trans (fu_38.to (p1_sub (dic_pDc hoc)))
        refine lv_iinc (v := iv (j + 1)) (lv' := [(1, .int (iv (j + 1))), (0, .ref (G.2.2.1 + 135))]) hx hb dX2_addHelper_48 hl (k := 0) rfl ((Int32.ofInt_add _ _).symm) (by decide) rfl (fun ls hl => ?_)
        refine lv_goto (tgt := 27) hx hb dX2_addHelper_51 (by decide) ?_
        exact ih_27 u_38 (j + 1) _ _ _ (by omega) iu_38 F_40 F_41 (by omega) (CPc.sv (Y := (fun a b => (0 ≤ a ∧ a ≤ mm ∧ b ≤ n) ∨ (a = -1 ∧ b < j + 1))) hA (hd7 hI27 hoc) (i := -1) (j := j) (A := r_37) (by omega) (by omega) (by omega) (fun a b q => by (try simp only [] at q ⊢); omega) (fun y q => (xu_38.2 y q).trans (congrFun (show S27.2.1 oc = S27.2.1 oc from funext fun x => rfl) y)) ((show nv _ _ = _ from xu_38.1).trans (by simp [dS0, (show ¬ j = n + 1 by omega)]))) hW hL (lv_sub hl [0, 1] rfl)
  exact loop_27 (_ + 1) (uA (uF (uF S 135 16 1) 135 15 ((S.1 135 15) + 1)) 139 ((S.1 135 15) + 1) 0) 0 _ _ _ (Nat.lt_succ_self _) i_7 F_6 Fr.rf (by omega) (by rw [show (uA (uF (uF S 135 16 1) 135 15 ((S.1 135 15) + 1)) 139 ((S.1 135 15) + 1) 0).2.1 oc = S.2.1 oc from funext fun x => (uA_ne (fun h => absurd h.1 (ac_ne (dic_c hoc) (rfl : acode 139 = 0) (by decide)))).trans ((uF_a).trans (uF_a))]; refine ⟨hDR.1.trans (by rw [hde]; rfl), fun a b q a0 b0 => ?_⟩; rcases q with q | q; (rw [hDR.2.1 a b (by omega) (by omega) (by omega) (by omega) (by omega), hde]; unfold dS0; simp only []); (exfalso; omega)) hW hL (lv_sub hl [0, 1] rfl)

set_option maxRecDepth 100000 in
set_option maxHeartbeats 4000000 in
theorem v_X2_start (l : Launch) (G : sG) (S : sS) {oc od md : Nat} {n mm mx : Int} {A : Int → Int → Int} {wh : Int → Int} (hI : cX G S 0 0 0) (hdq : dcs G S oc od) (hm2 : mdl md) (hMD : Hd (MDv S md n mm mx A wh)) : Met l yX2_start (.code yX2_start cX2_start 6 none :: tb) (rmk 4 0 0) (sPc G 294 S [.ref (G.2.2.1 + 135), .ref (G.2.2.1 + md)]) (sQv G 294 (fun u => cX G u 0 0 0 ∧ Fr S u pSt ∧ (∃ hw, hwA mm A hw ∧ dcs G u oc od ∧ DRc u oc n hw (dS0 n mm A hw) ∧ u.1 135 19 = 0))) 0 0 (sF G) := by
  refine sEnter (by decide) (Nat.le_of_ble_eq_true rfl) ?_
  intro p e s m args below meth c Cx hr hlk hnm hW ls hl
  have Cx : sC G p m c cX2_start 6 s args RX2 := Cx
  obtain ⟨hx, hb, hml, hown, hts⟩ := id Cx.1
  have hL : sL G [] := sL_nil
  have hl : lv_has ls 6 [(0, .ref (G.2.2.1 + 135)), (1, .ref (G.2.2.1 + md))] := hl
  have hW0 := hW
  obtain ⟨hoc, hod, hcd, hec, hed⟩ := id hdq
  have hMD1 := hMD.1; have hMD2 := hMD.2.1; have hv12 : 0 ≤ S.1 md 2 ∧ S.1 md 2 ≤ 12 := hI.fi md 2 3 (mdl_k hm2) hm2.1; have hv16 : 0 ≤ S.1 md 3 ∧ S.1 md 3 ≤ 16 := hI.fi md 3 3 (mdl_k hm2) hm2.1
  refine lv_aload_n hx hb dX2_start_0 rfl (lv_at hl 0 rfl) ?_
  refine lv_aload_n hx hb dX2_start_1 rfl (lv_at hl 1 rfl) ?_
  have q_1 : 0 ≤ S.1 md 2 ∧ S.1 md 2 ≤ 12 := hI.fi md 2 3 (mdl_k hm2) hm2.1
  refine g_X2_56 Cx hW (k := md) (mdl_l hm2) hm2.1 (v := S.1 md 2) rfl dX2_start_2 ?_
  refine p_X2_62 Cx hW hL (k := 135) (by decide) rfl dX2_start_5 (fun H locs hW hL => ?_)
  have F_2 : Fr S (uF S 135 13 (S.1 md 2)) pSt := (Fr.rf : Fr S S pSt).F rfl
  have i_3 : cX G (uF S 135 13 (S.1 md 2)) 0 0 0 := hI.F rfl rfl (show 0 ≤ S.1 md 2 ∧ S.1 md 2 ≤ 12 from ⟨by omega, by omega⟩)
  refine lv_aload_n hx hb dX2_start_8 rfl (lv_at hl 0 rfl) ?_
  refine lv_aload_n hx hb dX2_start_9 rfl (lv_at hl 1 rfl) ?_
  have q_4 : 0 ≤ S.1 md 3 ∧ S.1 md 3 ≤ 16 := hI.fi md 3 3 (mdl_k hm2) hm2.1
  refine g_X2_63 Cx hW (k := md) (mdl_l hm2) hm2.1 (v := S.1 md 3) (uF_ne (fun h => absurd h.2 (by decide))) dX2_start_10 ?_
  refine p_X2_66 Cx hW hL (k := 135) (by decide) rfl dX2_start_13 (fun H locs hW hL => ?_)
  have F_5 : Fr S (uF (uF S 135 13 (S.1 md 2)) 135 14 (S.1 md 3)) pSt := F_2.F rfl
  have i_6 : cX G (uF (uF S 135 13 (S.1 md 2)) 135 14 (S.1 md 3)) 0 0 0 := i_3.F rfl rfl (show 0 ≤ S.1 md 3 ∧ S.1 md 3 ≤ 40 from ⟨by omega, by omega⟩)
  refine lv_aload_n hx hb dX2_start_16 rfl (lv_at hl 0 rfl) ?_
  refine lv_aload_n hx hb dX2_start_17 rfl (lv_at hl 0 rfl) ?_
  refine g_X2_62 Cx hW (k := 135) (by decide) rfl (v := S.1 md 2) ((uF_ne (fun h => absurd h.2 (by decide))).trans (uF_on)) dX2_start_18 ?_
  refine p_X2_67 Cx hW hL (k := 135) (by decide) rfl dX2_start_21 (fun H locs hW hL => ?_)
  have F_7 : Fr S (uF (uF (uF S 135 13 (S.1 md 2)) 135 14 (S.1 md 3)) 135 15 (S.1 md 2)) pSt := F_5.F rfl
  have i_8 : cX G (uF (uF (uF S 135 13 (S.1 md 2)) 135 14 (S.1 md 3)) 135 15 (S.1 md 2)) 0 0 0 := i_6.F rfl rfl (show 0 ≤ S.1 md 2 ∧ S.1 md 2 ≤ 13 from ⟨by omega, by omega⟩)
  refine lv_aload_n hx hb dX2_start_24 rfl (lv_at hl 0 rfl) ?_
  refine lv_iconst (v := iv 0) hx hb dX2_start_25 (by decide) ?_
  refine p_X2_70 Cx hW hL (k := 135) (by decide) rfl (by omega) dX2_start_26 (fun H locs hW hL => ?_)
  have F_9 : Fr S (uF (uF (uF (uF S 135 13 (S.1 md 2)) 135 14 (S.1 md 3)) 135 15 (S.1 md 2)) 135 16 0) pSt := F_7.F rfl
  have i_10 : cX G (uF (uF (uF (uF S 135 13 (S.1 md 2)) 135 14 (S.1 md 3)) 135 15 (S.1 md 2)) 135 16 0) 0 0 0 := i_8.F rfl rfl (show 0 ≤ 0 ∧ 0 ≤ 1 from ⟨by omega, by omega⟩)
  refine lv_aload_n hx hb dX2_start_29 rfl (lv_at hl 0 rfl) ?_
  refine lv_iconst (v := iv 0) hx hb dX2_start_30 (by decide) ?_
  refine p_X2_74 Cx hW hL (k := 135) (by decide) rfl dX2_start_31 (fun H locs hW hL => ?_)
  have F_11 : Fr S (uF (uF (uF (uF (uF S 135 13 (S.1 md 2)) 135 14 (S.1 md 3)) 135 15 (S.1 md 2)) 135 16 0) 135 19 0) pSt := F_9.F rfl
  have i_12 : cX G (uF (uF (uF (uF (uF S 135 13 (S.1 md 2)) 135 14 (S.1 md 3)) 135 15 (S.1 md 2)) 135 16 0) 135 19 0) 0 0 0 := i_10.kend0
  refine lv_aload_n hx hb dX2_start_34 rfl (lv_at hl 0 rfl) ?_
  refine g_X2_13 Cx hW (k := 135) (by decide) rfl (v := .ref (G.2.2.1 + oc)) (((uF_r).trans ((uF_r).trans ((uF_r).trans ((uF_r).trans (uF_r))))).trans hec) dX2_start_35 ?_
  refine lv_bipush (v := iv (-2)) hx hb dX2_start_38 (by decide) ?_
  refine lv_iconst (v := iv 0) hx hb dX2_start_40 (by decide) ?_
  refine sBi (sSt (As := [.int (iv ((-2))), .int (iv 0)]) (rest := [.ref (G.2.2.1 + oc)]) Cx (s_X2_at l G (uF (uF (uF (uF (uF S 135 13 (S.1 md 2)) 135 14 (S.1 md 3)) 135 15 (S.1 md 2)) 135 16 0) 135 19 0) (i := (-2)) (j := 0) (by omega) (by omega)) (c_X2_77 Cx rfl rfl (rmk_ok (by omega) (by decide))) hW rfl hl.1 rfl (Nat.le_of_ble_eq_true rfl) dX2_start_41 ⟨Nat.le_of_ble_eq_true rfl, Nat.le_of_ble_eq_true rfl⟩) hL (fun r_15 u_13 H locs k_14 hW hL => ?_)
  obtain ⟨eu_13, xu_13⟩ := k_14
  rw [eu_13] at hW
  refine lv_lconst (v := jv 1) hx hb dX2_start_44 (by decide) ?_
  refine sBv (sSt (As := [.ref (G.2.2.1 + oc), .int (iv r_15), .long (jv 1)]) (rest := []) Cx (b_X0_store l G (uF (uF (uF (uF (uF S 135 13 (S.1 md 2)) 135 14 (S.1 md 3)) 135 15 (S.1 md 2)) 135 16 0) 135 19 0) (k := oc) (a := r_15) (v := 1) (N := 4816) i_12 (dic_a hoc) (by omega) (by omega) (fun _ _ => by decide)) (c_X2_81 Cx rfl rfl (rmk_ok (by omega) (by decide))) hW rfl hl.1 rfl (Nat.le_of_ble_eq_true rfl) dX2_start_45 ⟨Nat.le_of_ble_eq_true rfl, Nat.le_of_ble_eq_true rfl⟩) hL (fun u_16 H locs k_17 hW hL => ?_)
  obtain ⟨iu_16, fu_16, xu_16⟩ := k_17
  have F_18 := F_11.trans (fu_16.to (p1_sub (pDc_s _ (dic_pDc hoc))))
  have hA0 : Hd (CPc (u_16.2.1 oc) (dS0 n mm A 0).2.1 (fun a b => 0 ≤ a ∧ a < 0 ∧ 0 ≤ b ∧ b ≤ n)) := by have e0 : r_15 = 0 := (by omega); have y := xu_16.1; rw [e0] at y; exact ⟨y, fun a b q a0 b0 => by simp only [] at q; omega⟩
  refine lv_iconst (v := iv 0) hx hb dX2_start_48 (by decide) ?_
  refine lv_istore_n (lv' := [(2, .int (iv 0)), (0, .ref (G.2.2.1 + 135)), (1, .ref (G.2.2.1 + md))]) hx hb dX2_start_49 rfl hl (by decide) rfl (fun ls hl => ?_)
  have loop_50 : ∀ (fuel : Nat) (S50 : sS) (i : Int) (H : Heap) (locs : List Loc) (ls : Array Slot), (17 - i).toNat < fuel → (cX G S50 0 0 0) → (Fr S S50 pSt) → (Fr u_16 S50 pSt) → (0 ≤ i ∧ i ≤ mm + 1) → (S50.1 135 13 = n ∧ S50.1 135 14 = mm ∧ S50.1 135 15 = n ∧ S50.1 135 16 = 0 ∧ S50.1 135 19 = 0) → (Hd (dcs G S50 oc od)) → (Hd (CPc (S50.2.1 oc) (dS0 n mm A 0).2.1 (fun a b => 0 ≤ a ∧ a < i ∧ 0 ≤ b ∧ b ≤ n))) → (Hd (∀ a, 0 ≤ a → a < i → S50.2.1 138 a = n + a)) → sW G 294 S50 H → sL G locs → lv_has ls 6 [(2, .int (iv i)), (0, .ref (G.2.2.1 + 135)), (1, .ref (G.2.2.1 + md))] → W p l e (rmk 4 0 0) s m args below meth c H locs 0 0 (MQ below (sQv G 294 (fun u => cX G u 0 0 0 ∧ Fr S u pSt ∧ (∃ hw, hwA mm A hw ∧ dcs G u oc od ∧ DRc u oc n hw (dS0 n mm A hw) ∧ u.1 135 19 = 0))) args s 0 0 (sF G)) (F0 m 50 ls []) := by
    intro fuel
    induction fuel with
    | zero => intro S50 i H locs ls hmeas hI50 hFm50 hL50_ hi hfl hdl hA5 hB5 hW hL hl; exact absurd hmeas (Nat.not_lt_zero _)
    | succ fuel ih_50 =>
      intro S50 i H locs ls hmeas hI50 hFm50 hL50_ hi hfl hdl hA5 hB5 hW hL hl
      refine lv_iload_n hx hb dX2_start_50 rfl (lv_at hl 0 rfl) ?_
      refine lv_aload_n hx hb dX2_start_51 rfl (lv_at hl 1 rfl) ?_
      have q_19 : 0 ≤ S50.1 135 14 ∧ S50.1 135 14 ≤ 40 := hI50.fi 135 14 2 (by decide) rfl
      refine g_X2_66 Cx hW (k := 135) (by decide) rfl (v := S50.1 135 14) rfl dX2_start_52 ?_
      refine r_icmp_gt (tgt := 129) hx hb ⟨(by omega), (by omega)⟩ ⟨(by omega), (by omega)⟩ dX2_start_55 (by decide) (fun c_20 => ?_) (fun c_20 => ?_)
      · refine lv_iconst (v := iv 1) hx hb dX2_start_129 (by decide) ?_
        refine lv_istore_n (lv' := [(2, .int (iv 1)), (0, .ref (G.2.2.1 + 135)), (1, .ref (G.2.2.1 + md))]) hx hb dX2_start_130 rfl hl (by decide) rfl (fun ls hl => ?_)
        have loop_131 : ∀ (fuel : Nat) (S131 : sS) (j2 : Int) (H : Heap) (locs : List Loc) (ls : Array Slot), (13 - j2).toNat < fuel → (cX G S131 0 0 0) → (Fr S S131 pSt) → (Fr u_16 S131 pSt) → (Fr S50 S131 pSt) → (1 ≤ j2 ∧ j2 ≤ n + 1) → (S131.1 135 13 = n ∧ S131.1 135 14 = mm ∧ S131.1 135 15 = n ∧ S131.1 135 16 = 0 ∧ S131.1 135 19 = 0) → (Hd (dcs G S131 oc od)) → (Hd (CPc (S131.2.1 oc) (dS0 n mm A 0).2.1 (fun a b => 0 ≤ a ∧ a < (mm + 1) ∧ 0 ≤ b ∧ b ≤ n))) → (Hd (∀ a, 0 ≤ a → a < mm + 1 → S131.2.1 138 a = n + a)) → (Hd (∀ b, 1 ≤ b → b < j2 → S131.2.1 139 b = b)) → sW G 294 S131 H → sL G locs → lv_has ls 6 [(2, .int (iv j2)), (0, .ref (G.2.2.1 + 135)), (1, .ref (G.2.2.1 + md))] → W p l e (rmk 4 0 0) s m args below meth c H locs 0 0 (MQ below (sQv G 294 (fun u => cX G u 0 0 0 ∧ Fr S u pSt ∧ (∃ hw, hwA mm A hw ∧ dcs G u oc od ∧ DRc u oc n hw (dS0 n mm A hw) ∧ u.1 135 19 = 0))) args s 0 0 (sF G)) (F0 m 131 ls []) := by
          intro fuel
          induction fuel with
          | zero => intro S131 j2 H locs ls hmeas hI131 hFm131 hFL50131 hL131_ hj2 hfl1 hdl1 hA1 hB5 hN5 hW hL hl; exact absurd hmeas (Nat.not_lt_zero _)
          | succ fuel ih_131 =>
            intro S131 j2 H locs ls hmeas hI131 hFm131 hFL50131 hL131_ hj2 hfl1 hdl1 hA1 hB5 hN5 hW hL hl
            refine lv_iload_n hx hb dX2_start_131 rfl (lv_at hl 0 rfl) ?_
            refine lv_aload_n hx hb dX2_start_132 rfl (lv_at hl 1 rfl) ?_
            have q_21 : 0 ≤ S131.1 135 15 ∧ S131.1 135 15 ≤ 13 := hI131.fi 135 15 2 (by decide) rfl
            refine g_X2_67 Cx hW (k := 135) (by decide) rfl (v := S131.1 135 15) rfl dX2_start_133 ?_
            refine r_icmp_gt (tgt := 152) hx hb ⟨(by omega), (by omega)⟩ ⟨(by omega), (by omega)⟩ dX2_start_136 (by decide) (fun c_22 => ?_) (fun c_22 => ?_)
            · have hA5 : Hd (CPc (S131.2.1 oc) (dS0 n mm A 0).2.1 (fun a b => 0 ≤ a ∧ a < (mm + 1) ∧ 0 ≤ b ∧ b ≤ n)) := hA1
              have hDz : Hd (DRc S131 oc n 0 (dS0 n mm A 0)) := (show DRc S131 oc n 0 (dS0 n mm A 0) from ⟨hA5.1, fun a b a0 a1 aw b0 b1 => (by have a1 : a ≤ mm := a1; have b1 : b ≤ n + 0 := b1; have a9 : a ≠ -1 := (fun q => absurd (aw q) (by decide)); exact hA5.2 a b (by simp only []; omega) (by omega) (by omega)), fun a a0 a1 => (by have a1 : a ≤ mm := a1; exact hB5 a (by omega) (by omega)), fun b b0 b1 => (by have b1 : b ≤ n + 0 := b1; show _ = (if b = n + 1 then 0 else b); rw [if_neg (show ¬ b = n + 1 by omega)]; exact hN5 b b0 (by omega)), by omega, (show _ = mm by omega), (show _ = n + 0 by omega), by omega⟩)
              refine lv_aload_n hx hb dX2_start_152 rfl (lv_at hl 1 rfl) ?_
              refine sBi (sV (As := []) (rest := []) (k := 135) Cx (v_X2_needsHelper l G S131 (oc := oc) (od := od) (n := n) (hw := 0) (d := dS0 n mm A 0) hI131 ⟨hoc, hod, (neD hcd), hdl1.2.2.2.1, hdl1.2.2.2.2⟩ hDz) (c_X2_88 Cx rfl rfl (rmk_ok (by omega) (by decide))) hW (by decide) rfl rfl rfl hl.1 rfl (Nat.le_of_ble_eq_true rfl) dX2_start_153 ⟨Nat.le_of_ble_eq_true rfl, Nat.le_of_ble_eq_true rfl⟩) hL (fun r_25 u_23 H locs k_24 hW hL => ?_)
              obtain ⟨eu_23, xu_23⟩ := k_24
              rw [eu_23] at hW
              refine r_if_eq (tgt := 163) hx hb ⟨(by omega), (by omega)⟩ dX2_start_156 (by decide) (fun c_26 => ?_) (fun c_26 => ?_)
              · have q_27 : 0 ≤ S131.1 135 19 ∧ S131.1 135 19 ≤ 102220 := hI131.fi 135 19 2 (by decide) rfl
                exact sVret Cx hr hlk hW hL ⟨hI131, hFm131, ⟨0, .inl ⟨rfl, fun i i0 i1 => by have y := xu_23.2.2 (by omega) i i0 i1; simp only [dS0] at y; rw [if_neg (show ¬ (0 : Int) = n + 1 by omega), if_neg (show ¬ i = -1 by omega), if_neg (show ¬ (i = 0 ∧ (0 : Int) < 0) by omega)] at y; exact y⟩, hdl1, hDz, ((rfl : S131.1 135 19 = _).trans (by omega))⟩⟩ dX2_start_163
              · refine lv_aload_n hx hb dX2_start_159 rfl (lv_at hl 1 rfl) ?_
                have q_28 : 0 ≤ S131.1 135 19 ∧ S131.1 135 19 ≤ 102220 := hI131.fi 135 19 2 (by decide) rfl
                refine sBv (sV (As := []) (rest := []) (k := 135) Cx (v_X2_addHelper l G S131 (oc := oc) (od := od) (n := n) (hw := 0) (d := dS0 n mm A 0) (mm := mm) (A := A) hI131 ⟨hoc, hod, (neD hcd), hdl1.2.2.2.1, hdl1.2.2.2.2⟩ hDz rfl (by omega) (by omega)) (c_X2_92 Cx rfl rfl (rmk_ok (by omega) (by decide))) hW (by decide) rfl rfl rfl hl.1 rfl (Nat.le_of_ble_eq_true rfl) dX2_start_160 ⟨Nat.le_of_ble_eq_true rfl, Nat.le_of_ble_eq_true rfl⟩) hL (fun u_29 H locs k_30 hW hL => ?_)
                obtain ⟨iu_29, fu_29, xu_29⟩ := k_30
                have F_31 := hFm131.trans (fu_29.to pAh_s)
                have F_32 := hFL50131.trans (fu_29.to pAh_s)
                have F_33 := hL131_.trans (fu_29.to pAh_s)
                have q_34 : 0 ≤ u_29.1 135 19 ∧ u_29.1 135 19 ≤ 102220 := iu_29.fi 135 19 2 (by decide) rfl
                exact sVret Cx hr hlk hW hL ⟨iu_29, F_31, ⟨1, .inr ⟨rfl, by obtain ⟨i, i0, y⟩ := xu_23.2.1 (by omega); simp only [dS0] at y i0; rw [if_neg (show ¬ (0 : Int) = n + 1 by omega), if_neg (show ¬ i = -1 by omega), if_neg (show ¬ (i = 0 ∧ (0 : Int) < 0) by omega)] at y; exact ⟨i, i0, y⟩⟩, xu_29.1, xu_29.2.1, by omega⟩⟩ dX2_start_163
            · refine lv_aload_n hx hb dX2_start_139 rfl (lv_at hl 1 rfl) ?_
              refine g_X2_23 Cx hW (k := 135) (by decide) rfl (v := .ref (G.2.2.1 + 139)) (rf_135_3 hI131) dX2_start_140 ?_
              refine lv_iload_n hx hb dX2_start_143 rfl (lv_at hl 0 rfl) ?_
              refine lv_iload_n hx hb dX2_start_144 rfl (lv_at hl 0 rfl) ?_
              refine rIast Cx hW hL (k := 139) (by decide) rfl (by decide) (by omega) (by omega) dX2_start_145 (fun H locs hW hL => ?_)
              have F_35 : Fr S (uA S131 139 j2 j2) pSt := hFm131.A rfl
              have F_36 : Fr u_16 (uA S131 139 j2 j2) pSt := hFL50131.A rfl
              have F_37 : Fr S50 (uA S131 139 j2 j2) pSt := hL131_.A rfl
              have i_38 : cX G (uA S131 139 j2 j2) 0 0 0 := hI131.A (by decide) (by decide) (by decide) (show (-2147483648) ≤ j2 ∧ j2 ≤ 2147483647 from ⟨by omega, by omega⟩)
              refine lv_iinc (v := iv (j2 + 1)) (lv' := [(2, .int (iv (j2 + 1))), (0, .ref (G.2.2.1 + 135)), (1, .ref (G.2.2.1 + md))]) hx hb dX2_start_146 hl (k := 0) rfl ((Int32.ofInt_add _ _).symm) (by decide) rfl (fun ls hl => ?_)
              refine lv_goto (tgt := 131) hx hb dX2_start_149 (by decide) ?_
              have q_39 : 0 ≤ S131.1 135 13 ∧ S131.1 135 13 ≤ 12 := hI131.fi 135 13 2 (by decide) rfl
              have lk_40 : (uA S131 139 j2 j2).1 135 13 = S131.1 135 13 := uA_f
              have q_41 : 0 ≤ S131.1 135 14 ∧ S131.1 135 14 ≤ 40 := hI131.fi 135 14 2 (by decide) rfl
              have lk_42 : (uA S131 139 j2 j2).1 135 14 = S131.1 135 14 := uA_f
              have lk_43 : (uA S131 139 j2 j2).1 135 15 = S131.1 135 15 := uA_f
              have q_44 : 0 ≤ S131.1 135 16 ∧ S131.1 135 16 ≤ 1 := hI131.fi 135 16 2 (by decide) rfl
              have lk_45 : (uA S131 139 j2 j2).1 135 16 = S131.1 135 16 := uA_f
              have q_46 : 0 ≤ S131.1 135 19 ∧ S131.1 135 19 ≤ 102220 := hI131.fi 135 19 2 (by decide) rfl
              have lk_47 : (uA S131 139 j2 j2).1 135 19 = S131.1 135 19 := uA_f
              exact ih_131 (uA S131 139 j2 j2) (j2 + 1) _ _ _ (by omega) i_38 F_35 F_36 F_37 (by omega) (by omega) ⟨hoc, hod, (neD hcd), ((uA_r).trans hdl1.2.2.2.1), ((uA_r).trans hdl1.2.2.2.2)⟩ (by rw [show (uA S131 139 j2 j2).2.1 oc = S131.2.1 oc from funext fun x => uA_ne (fun h => absurd h.1 (ac_ne (dic_c hoc) (rfl : acode 139 = 0) (by decide)))]; exact hA1) (fun a a0 a1 => by rw [(uA_ne (fun h => absurd h.1 (by decide)) : (uA S131 139 j2 j2).2.1 138 a = S131.2.1 138 a)]; exact hB5 a a0 a1) (fun b b0 b1 => by rw [uA_get]; split; (rename_i q; omega); (rename_i q; exact hN5 b b0 (by omega))) hW hL (lv_sub hl [0, 1, 2] rfl)
        have q_48 : 0 ≤ S50.1 135 13 ∧ S50.1 135 13 ≤ 12 := hI50.fi 135 13 2 (by decide) rfl
        have q_49 : 0 ≤ S50.1 135 15 ∧ S50.1 135 15 ≤ 13 := hI50.fi 135 15 2 (by decide) rfl
        have q_50 : 0 ≤ S50.1 135 16 ∧ S50.1 135 16 ≤ 1 := hI50.fi 135 16 2 (by decide) rfl
        have q_51 : 0 ≤ S50.1 135 19 ∧ S50.1 135 19 ≤ 102220 := hI50.fi 135 19 2 (by decide) rfl
        exact loop_131 (_ + 1) S50 1 _ _ _ (Nat.lt_succ_self _) hI50 hFm50 hL50_ Fr.rf (by omega) (by omega) ⟨hoc, hod, (neD hcd), hdl.2.2.2.1, hdl.2.2.2.2⟩ (by have e := hA5; rw [show i = mm + 1 by omega] at e; exact e) (by have e := hB5; rw [show i = mm + 1 by omega] at e; exact e) (fun b b0 b1 => absurd b1 (by omega)) hW hL (lv_sub hl [0, 1, 2] rfl)
      · refine lv_aload_n hx hb dX2_start_58 rfl (lv_at hl 1 rfl) ?_
        refine g_X2_20 Cx hW (k := 135) (by decide) rfl (v := .ref (G.2.2.1 + 138)) (rf_135_2 hI50) dX2_start_59 ?_
        refine lv_iload_n hx hb dX2_start_62 rfl (lv_at hl 0 rfl) ?_
        refine lv_aload_n hx hb dX2_start_63 rfl (lv_at hl 1 rfl) ?_
        have q_52 : 0 ≤ S50.1 135 13 ∧ S50.1 135 13 ≤ 12 := hI50.fi 135 13 2 (by decide) rfl
        refine g_X2_62 Cx hW (k := 135) (by decide) rfl (v := S50.1 135 13) rfl dX2_start_64 ?_
        refine lv_iload_n hx hb dX2_start_67 rfl (lv_at hl 0 rfl) ?_
        refine r_iadd hx hb dX2_start_68 ?_
        refine rIast Cx hW hL (k := 138) (by decide) rfl (by decide) (by omega) (by omega) dX2_start_69 (fun H locs hW hL => ?_)
        have F_53 : Fr S (uA S50 138 i ((S50.1 135 13) + i)) pSt := hFm50.A rfl
        have F_54 : Fr u_16 (uA S50 138 i ((S50.1 135 13) + i)) pSt := hL50_.A rfl
        have i_55 : cX G (uA S50 138 i ((S50.1 135 13) + i)) 0 0 0 := hI50.A (by decide) (by decide) (by decide) (show (-2147483648) ≤ (S50.1 135 13) + i ∧ (S50.1 135 13) + i ≤ 2147483647 from ⟨by omega, by omega⟩)
        refine lv_iconst (v := iv 0) hx hb dX2_start_70 (by decide) ?_
        refine lv_istore_n (lv' := [(3, .int (iv 0)), (2, .int (iv i)), (0, .ref (G.2.2.1 + 135)), (1, .ref (G.2.2.1 + md))]) hx hb dX2_start_71 rfl hl (by decide) rfl (fun ls hl => ?_)
        have loop_72 : ∀ (fuel : Nat) (S72 : sS) (j : Int) (H : Heap) (locs : List Loc) (ls : Array Slot), (13 - j).toNat < fuel → (cX G S72 0 0 0) → (Fr S S72 pSt) → (Fr u_16 S72 pSt) → (Fr ((uA S50 138 i ((S50.1 135 13) + i))) S72 pSt) → (0 ≤ j ∧ j ≤ n + 1) → (S72.1 135 13 = n ∧ S72.1 135 14 = mm ∧ S72.1 135 15 = n ∧ S72.1 135 16 = 0 ∧ S72.1 135 19 = 0) → (Hd (dcs G S72 oc od)) → (Hd (CPc (S72.2.1 oc) (dS0 n mm A 0).2.1 (fun a b => 0 ≤ a ∧ 0 ≤ b ∧ b ≤ n ∧ (a < i ∨ (a = i ∧ b < j))))) → (Hd (∀ a, 0 ≤ a → a < i + 1 → S72.2.1 138 a = n + a)) → sW G 294 S72 H → sL G locs → lv_has ls 6 [(3, .int (iv j)), (2, .int (iv i)), (0, .ref (G.2.2.1 + 135)), (1, .ref (G.2.2.1 + md))] → W p l e (rmk 4 0 0) s m args below meth c H locs 0 0 (MQ below (sQv G 294 (fun u => cX G u 0 0 0 ∧ Fr S u pSt ∧ (∃ hw, hwA mm A hw ∧ dcs G u oc od ∧ DRc u oc n hw (dS0 n mm A hw) ∧ u.1 135 19 = 0))) args s 0 0 (sF G)) (F0 m 72 ls []) := by
          intro fuel
          induction fuel with
          | zero => intro S72 j H locs ls hmeas hI72 hFm72 hFL5072 hL72_ hj hfl7 hdl7 hA7 hB7 hW hL hl; exact absurd hmeas (Nat.not_lt_zero _)
          | succ fuel ih_72 =>
            intro S72 j H locs ls hmeas hI72 hFm72 hFL5072 hL72_ hj hfl7 hdl7 hA7 hB7 hW hL hl
            refine lv_iload_n hx hb dX2_start_72 rfl (lv_at hl 0 rfl) ?_
            refine lv_aload_n hx hb dX2_start_73 rfl (lv_at hl 2 rfl) ?_
            have q_56 : 0 ≤ S72.1 135 15 ∧ S72.1 135 15 ≤ 13 := hI72.fi 135 15 2 (by decide) rfl
            refine g_X2_67 Cx hW (k := 135) (by decide) rfl (v := S72.1 135 15) rfl dX2_start_74 ?_
            refine r_icmp_gt (tgt := 123) hx hb ⟨(by omega), (by omega)⟩ ⟨(by omega), (by omega)⟩ dX2_start_77 (by decide) (fun c_57 => ?_) (fun c_57 => ?_)
            · refine lv_iinc (v := iv (i + 1)) (lv' := [(2, .int (iv (i + 1))), (3, .int (iv j)), (0, .ref (G.2.2.1 + 135)), (1, .ref (G.2.2.1 + md))]) hx hb dX2_start_123 hl (k := 1) rfl ((Int32.ofInt_add _ _).symm) (by decide) rfl (fun ls hl => ?_)
              refine lv_goto (tgt := 50) hx hb dX2_start_126 (by decide) ?_
              have q_58 : 0 ≤ S72.1 135 13 ∧ S72.1 135 13 ≤ 12 := hI72.fi 135 13 2 (by decide) rfl
              have q_59 : 0 ≤ S72.1 135 14 ∧ S72.1 135 14 ≤ 40 := hI72.fi 135 14 2 (by decide) rfl
              have q_60 : 0 ≤ S72.1 135 16 ∧ S72.1 135 16 ≤ 1 := hI72.fi 135 16 2 (by decide) rfl
              have q_61 : 0 ≤ S72.1 135 19 ∧ S72.1 135 19 ≤ 102220 := hI72.fi 135 19 2 (by decide) rfl
              exact ih_50 S72 (i + 1) _ _ _ (by omega) hI72 hFm72 hFL5072 (by omega) (by omega) ⟨hoc, hod, (neD hcd), hdl7.2.2.2.1, hdl7.2.2.2.2⟩ (by have e := hA7; rw [show j = n + 1 by omega] at e; exact CPc.to e (fun a b q => ⟨by (try simp only [] at q ⊢); omega, rfl⟩)) (fun a a0 a1 => by rw [(rfl : S72.2.1 138 a = S72.2.1 138 a)]; exact hB7 a a0 (by omega)) hW hL (lv_sub hl [0, 2, 3] rfl)
            · refine lv_aload_n hx hb dX2_start_80 rfl (lv_at hl 3 rfl) ?_
              refine lv_iload_n hx hb dX2_start_81 rfl (lv_at hl 1 rfl) ?_
              refine lv_iload_n hx hb dX2_start_82 rfl (lv_at hl 0 rfl) ?_
              refine sBi (sV (As := [.int (iv i), .int (iv j)]) (rest := []) (k := md) Cx (b_X3_number l G S72 (o := md) (k := i) (j := j) hI72 hm2 (by omega) (by omega)) (c_X2_85 Cx rfl rfl (rmk_ok (by omega) (by decide))) hW (mdl_l hm2) hm2.1 rfl rfl hl.1 rfl (Nat.le_of_ble_eq_true rfl) dX2_start_83 ⟨Nat.le_of_ble_eq_true rfl, Nat.le_of_ble_eq_true rfl⟩) hL (fun r_64 u_62 H locs k_63 hW hL => ?_)
              obtain ⟨eu_62, xu_62⟩ := k_63
              rw [eu_62] at hW
              have hnb : r_64 = A i j := xu_62.1.trans ((((hL72_ (md + 1) (mo_pSt hm2).2.1).2.1 (i * 13 + j)).trans ((uA_ne (fun h => absurd h.1 (tau_ne hm2.2.1 (rfl : tau 138 = .inr (.int, 41)) (by decide)))).trans (((hL50_ (md + 1) (mo_pSt hm2).2.1).2.1 (i * 13 + j)).trans (((fu_16 (md + 1) (p1_no (tau_ne hm2.2.1 (dic_t hoc) (by decide)))).2.1 (i * 13 + j)).trans ((uF_a).trans ((uF_a).trans ((uF_a).trans ((uF_a).trans (uF_a)))))))) : S72.2.1 (md + 1) (i * 13 + j) = S.2.1 (md + 1) (i * 13 + j)).trans (hMD.2.2.2.1 i j (by omega) (by omega) (by omega) (by omega)))
              refine r_i2l hx hb ⟨(by omega), (by omega)⟩ dX2_start_86 ?_
              refine lv_lstore (lv' := [(4, .long (jv r_64)), (3, .int (iv j)), (2, .int (iv i)), (0, .ref (G.2.2.1 + 135)), (1, .ref (G.2.2.1 + md))]) hx hb dX2_start_87 hl (by decide) rfl (fun ls hl => ?_)
              refine lv_aload_n hx hb dX2_start_89 rfl (lv_at hl 3 rfl) ?_
              refine g_X2_13 Cx hW (k := 135) (by decide) rfl (v := .ref (G.2.2.1 + oc)) hdl7.2.2.2.1 dX2_start_90 ?_
              refine lv_iload_n hx hb dX2_start_93 rfl (lv_at hl 2 rfl) ?_
              refine lv_iload_n hx hb dX2_start_94 rfl (lv_at hl 1 rfl) ?_
              refine sBi (sSt (As := [.int (iv i), .int (iv j)]) (rest := [.ref (G.2.2.1 + oc)]) Cx (s_X2_at l G S72 (i := i) (j := j) (by omega) (by omega)) (c_X2_77 Cx rfl rfl (rmk_ok (by omega) (by decide))) hW rfl hl.1 rfl (Nat.le_of_ble_eq_true rfl) dX2_start_95 ⟨Nat.le_of_ble_eq_true rfl, Nat.le_of_ble_eq_true rfl⟩) hL (fun r_67 u_65 H locs k_66 hW hL => ?_)
              obtain ⟨eu_65, xu_65⟩ := k_66
              rw [eu_65] at hW
              refine lv_iload_n hx hb dX2_start_98 rfl (lv_at hl 2 rfl) ?_
              refine r_if_ne (tgt := 112) hx hb ⟨(by omega), (by omega)⟩ dX2_start_99 (by decide) (fun c_68 => ?_) (fun c_68 => ?_)
              · refine lv_lload hx hb dX2_start_112 (lv_at hl 0 rfl) ?_
                refine sBv (sSt (As := [.ref (G.2.2.1 + oc), .int (iv r_67), .long (jv r_64)]) (rest := []) Cx (b_X0_store l G S72 (k := oc) (a := r_67) (v := r_64) (N := 4816) hI72 (dic_a hoc) (by omega) (by omega) (fun _ q => by exfalso; omega)) (c_X2_81 Cx rfl rfl (rmk_ok (by omega) (by decide))) hW rfl hl.1 rfl (Nat.le_of_ble_eq_true rfl) dX2_start_114 ⟨Nat.le_of_ble_eq_true rfl, Nat.le_of_ble_eq_true rfl⟩) hL (fun u_69 H locs k_70 hW hL => ?_)
                obtain ⟨iu_69, fu_69, xu_69⟩ := k_70
                have F_71 := hFm72.trans (fu_69.to (p1_sub (pDc_s _ (dic_pDc hoc))))
                have F_72 := hFL5072.trans (fu_69.to (p1_sub (pDc_s _ (dic_pDc hoc))))
                have F_73 := hL72_.trans (fu_69.to (p1_sub (pDc_s _ (dic_pDc hoc))))
                refine lv_iinc (v := iv (j + 1)) (lv' := [(3, .int (iv (j + 1))), (4, .long (jv r_64)), (2, .int (iv i)), (0, .ref (G.2.2.1 + 135)), (1, .ref (G.2.2.1 + md))]) hx hb dX2_start_117 hl (k := 1) rfl ((Int32.ofInt_add _ _).symm) (by decide) rfl (fun ls hl => ?_)
                refine lv_goto (tgt := 72) hx hb dX2_start_120 (by decide) ?_
                have q_74 : 0 ≤ S72.1 135 13 ∧ S72.1 135 13 ≤ 12 := hI72.fi 135 13 2 (by decide) rfl
                have lk_75 : u_69.1 135 13 = S72.1 135 13 := (fu_69 135 (p1_no (tau_ne (rfl : tau 135 = .inl 2) (dic_t hoc) (fun h => by cases h)))).1 13
                have q_76 : 0 ≤ S72.1 135 14 ∧ S72.1 135 14 ≤ 40 := hI72.fi 135 14 2 (by decide) rfl
                have lk_77 : u_69.1 135 14 = S72.1 135 14 := (fu_69 135 (p1_no (tau_ne (rfl : tau 135 = .inl 2) (dic_t hoc) (fun h => by cases h)))).1 14
                have lk_78 : u_69.1 135 15 = S72.1 135 15 := (fu_69 135 (p1_no (tau_ne (rfl : tau 135 = .inl 2) (dic_t hoc) (fun h => by cases h)))).1 15
                have q_79 : 0 ≤ S72.1 135 16 ∧ S72.1 135 16 ≤ 1 := hI72.fi 135 16 2 (by decide) rfl
                have lk_80 : u_69.1 135 16 = S72.1 135 16 := (fu_69 135 (p1_no (tau_ne (rfl : tau 135 = .inl 2) (dic_t hoc) (fun h => by cases h)))).1 16
                have q_81 : 0 ≤ S72.1 135 19 ∧ S72.1 135 19 ≤ 102220 := hI72.fi 135 19 2 (by decide) rfl
                have lk_82 : u_69.1 135 19 = S72.1 135 19 := (fu_69 135 (p1_no (tau_ne (rfl : tau 135 = .inl 2) (dic_t hoc) (fun h => by cases h)))).1 19
                exact ih_72 u_69 (j + 1) _ _ _ (by omega) iu_69 F_71 F_72 F_73 (by omega) (by omega) ⟨hoc, hod, (neD hcd), (((fu_69 135 (p1_no (tau_ne (rfl : tau 135 = .inl 2) (dic_t hoc) (fun h => by cases h)))).2.2.2 0).trans hdl7.2.2.2.1), (((fu_69 135 (p1_no (tau_ne (rfl : tau 135 = .inl 2) (dic_t hoc) (fun h => by cases h)))).2.2.2 1).trans hdl7.2.2.2.2)⟩ (CPc.sv (Y := (fun a b => 0 ≤ a ∧ 0 ≤ b ∧ b ≤ n ∧ (a < i ∨ (a = i ∧ b < j + 1)))) hA7 (hd7 hI72 hoc) (i := i) (j := j) (A := r_67) (by omega) (by omega) (by omega) (fun a b q => by (try simp only [] at q ⊢); omega) (fun y q => (xu_69.2 y q).trans (congrFun (show S72.2.1 oc = S72.2.1 oc from funext fun x => rfl) y)) ((show nv _ _ = _ from xu_69.1).trans (by first | (rw [hnb]; unfold dS0; simp only []; rw [if_neg (show ¬ j = n + 1 by omega), if_neg (show ¬ i = -1 by omega), if_pos (show i = 0 ∧ 0 < j by omega), show i = 0 by omega]) | (rw [hnb]; unfold dS0; simp only []; rw [if_neg (show ¬ j = n + 1 by omega), if_neg (show ¬ i = -1 by omega), if_neg (show ¬ (i = 0 ∧ 0 < j) by omega)])))) (fun a a0 a1 => by rw [((fu_69 138 (p1_no (ac_ne (rfl : acode 138 = 0) (dic_c hoc) (by decide)))).2.1 a : u_69.2.1 138 a = S72.2.1 138 a)]; exact hB7 a a0 a1) hW hL (lv_sub hl [0, 2, 3, 4] rfl)
              · refine lv_iload_n hx hb dX2_start_102 rfl (lv_at hl 1 rfl) ?_
                refine r_if_le (tgt := 112) hx hb ⟨(by omega), (by omega)⟩ dX2_start_103 (by decide) (fun c_83 => ?_) (fun c_83 => ?_)
                · refine lv_lload hx hb dX2_start_112 (lv_at hl 0 rfl) ?_
                  refine sBv (sSt (As := [.ref (G.2.2.1 + oc), .int (iv r_67), .long (jv r_64)]) (rest := []) Cx (b_X0_store l G S72 (k := oc) (a := r_67) (v := r_64) (N := 4816) hI72 (dic_a hoc) (by omega) (by omega) (fun _ q => by exfalso; omega)) (c_X2_81 Cx rfl rfl (rmk_ok (by omega) (by decide))) hW rfl hl.1 rfl (Nat.le_of_ble_eq_true rfl) dX2_start_114 ⟨Nat.le_of_ble_eq_true rfl, Nat.le_of_ble_eq_true rfl⟩) hL (fun u_84 H locs k_85 hW hL => ?_)
                  obtain ⟨iu_84, fu_84, xu_84⟩ := k_85
                  have F_86 := hFm72.trans (fu_84.to (p1_sub (pDc_s _ (dic_pDc hoc))))
                  have F_87 := hFL5072.trans (fu_84.to (p1_sub (pDc_s _ (dic_pDc hoc))))
                  have F_88 := hL72_.trans (fu_84.to (p1_sub (pDc_s _ (dic_pDc hoc))))
                  refine lv_iinc (v := iv (j + 1)) (lv' := [(3, .int (iv (j + 1))), (4, .long (jv r_64)), (2, .int (iv i)), (0, .ref (G.2.2.1 + 135)), (1, .ref (G.2.2.1 + md))]) hx hb dX2_start_117 hl (k := 1) rfl ((Int32.ofInt_add _ _).symm) (by decide) rfl (fun ls hl => ?_)
                  refine lv_goto (tgt := 72) hx hb dX2_start_120 (by decide) ?_
                  have q_89 : 0 ≤ S72.1 135 13 ∧ S72.1 135 13 ≤ 12 := hI72.fi 135 13 2 (by decide) rfl
                  have lk_90 : u_84.1 135 13 = S72.1 135 13 := (fu_84 135 (p1_no (tau_ne (rfl : tau 135 = .inl 2) (dic_t hoc) (fun h => by cases h)))).1 13
                  have q_91 : 0 ≤ S72.1 135 14 ∧ S72.1 135 14 ≤ 40 := hI72.fi 135 14 2 (by decide) rfl
                  have lk_92 : u_84.1 135 14 = S72.1 135 14 := (fu_84 135 (p1_no (tau_ne (rfl : tau 135 = .inl 2) (dic_t hoc) (fun h => by cases h)))).1 14
                  have lk_93 : u_84.1 135 15 = S72.1 135 15 := (fu_84 135 (p1_no (tau_ne (rfl : tau 135 = .inl 2) (dic_t hoc) (fun h => by cases h)))).1 15
                  have q_94 : 0 ≤ S72.1 135 16 ∧ S72.1 135 16 ≤ 1 := hI72.fi 135 16 2 (by decide) rfl
                  have lk_95 : u_84.1 135 16 = S72.1 135 16 := (fu_84 135 (p1_no (tau_ne (rfl : tau 135 = .inl 2) (dic_t hoc) (fun h => by cases h)))).1 16
                  have q_96 : 0 ≤ S72.1 135 19 ∧ S72.1 135 19 ≤ 102220 := hI72.fi 135 19 2 (by decide) rfl
                  have lk_97 : u_84.1 135 19 = S72.1 135 19 := (fu_84 135 (p1_no (tau_ne (rfl : tau 135 = .inl 2) (dic_t hoc) (fun h => by cases h)))).1 19
                  exact ih_72 u_84 (j + 1) _ _ _ (by omega) iu_84 F_86 F_87 F_88 (by omega) (by omega) ⟨hoc, hod, (neD hcd), (((fu_84 135 (p1_no (tau_ne (rfl : tau 135 = .inl 2) (dic_t hoc) (fun h => by cases h)))).2.2.2 0).trans hdl7.2.2.2.1), (((fu_84 135 (p1_no (tau_ne (rfl : tau 135 = .inl 2) (dic_t hoc) (fun h => by cases h)))).2.2.2 1).trans hdl7.2.2.2.2)⟩ (CPc.sv (Y := (fun a b => 0 ≤ a ∧ 0 ≤ b ∧ b ≤ n ∧ (a < i ∨ (a = i ∧ b < j + 1)))) hA7 (hd7 hI72 hoc) (i := i) (j := j) (A := r_67) (by omega) (by omega) (by omega) (fun a b q => by (try simp only [] at q ⊢); omega) (fun y q => (xu_84.2 y q).trans (congrFun (show S72.2.1 oc = S72.2.1 oc from funext fun x => rfl) y)) ((show nv _ _ = _ from xu_84.1).trans (by first | (rw [hnb]; unfold dS0; simp only []; rw [if_neg (show ¬ j = n + 1 by omega), if_neg (show ¬ i = -1 by omega), if_pos (show i = 0 ∧ 0 < j by omega), show i = 0 by omega]) | (rw [hnb]; unfold dS0; simp only []; rw [if_neg (show ¬ j = n + 1 by omega), if_neg (show ¬ i = -1 by omega), if_neg (show ¬ (i = 0 ∧ 0 < j) by omega)])))) (fun a a0 a1 => by rw [((fu_84 138 (p1_no (ac_ne (rfl : acode 138 = 0) (dic_c hoc) (by decide)))).2.1 a : u_84.2.1 138 a = S72.2.1 138 a)]; exact hB7 a a0 a1) hW hL (lv_sub hl [0, 2, 3, 4] rfl)
                · refine lv_lload hx hb dX2_start_106 (lv_at hl 0 rfl) ?_
                  refine r_lneg hx hb dX2_start_108 ?_
                  refine lv_goto (tgt := 114) hx hb dX2_start_109 (by decide) ?_
                  refine sBv (sSt (As := [.ref (G.2.2.1 + oc), .int (iv r_67), .long (jv (-r_64))]) (rest := []) Cx (b_X0_store l G S72 (k := oc) (a := r_67) (v := -r_64) (N := 4816) hI72 (dic_a hoc) (by omega) (by omega) (fun _ q => by exfalso; omega)) (c_X2_81 Cx rfl rfl (rmk_ok (by omega) (by decide))) hW rfl hl.1 rfl (Nat.le_of_ble_eq_true rfl) dX2_start_114 ⟨Nat.le_of_ble_eq_true rfl, Nat.le_of_ble_eq_true rfl⟩) hL (fun u_98 H locs k_99 hW hL => ?_)
                  obtain ⟨iu_98, fu_98, xu_98⟩ := k_99
                  have F_100 := hFm72.trans (fu_98.to (p1_sub (pDc_s _ (dic_pDc hoc))))
                  have F_101 := hFL5072.trans (fu_98.to (p1_sub (pDc_s _ (dic_pDc hoc))))
                  have F_102 := hL72_.trans (fu_98.to (p1_sub (pDc_s _ (dic_pDc hoc))))
                  refine lv_iinc (v := iv (j + 1)) (lv' := [(3, .int (iv (j + 1))), (4, .long (jv r_64)), (2, .int (iv i)), (0, .ref (G.2.2.1 + 135)), (1, .ref (G.2.2.1 + md))]) hx hb dX2_start_117 hl (k := 1) rfl ((Int32.ofInt_add _ _).symm) (by decide) rfl (fun ls hl => ?_)
                  refine lv_goto (tgt := 72) hx hb dX2_start_120 (by decide) ?_
                  have q_103 : 0 ≤ S72.1 135 13 ∧ S72.1 135 13 ≤ 12 := hI72.fi 135 13 2 (by decide) rfl
                  have lk_104 : u_98.1 135 13 = S72.1 135 13 := (fu_98 135 (p1_no (tau_ne (rfl : tau 135 = .inl 2) (dic_t hoc) (fun h => by cases h)))).1 13
                  have q_105 : 0 ≤ S72.1 135 14 ∧ S72.1 135 14 ≤ 40 := hI72.fi 135 14 2 (by decide) rfl
                  have lk_106 : u_98.1 135 14 = S72.1 135 14 := (fu_98 135 (p1_no (tau_ne (rfl : tau 135 = .inl 2) (dic_t hoc) (fun h => by cases h)))).1 14
                  have lk_107 : u_98.1 135 15 = S72.1 135 15 := (fu_98 135 (p1_no (tau_ne (rfl : tau 135 = .inl 2) (dic_t hoc) (fun h => by cases h)))).1 15
                  have q_108 : 0 ≤ S72.1 135 16 ∧ S72.1 135 16 ≤ 1 := hI72.fi 135 16 2 (by decide) rfl
                  have lk_109 : u_98.1 135 16 = S72.1 135 16 := (fu_98 135 (p1_no (tau_ne (rfl : tau 135 = .inl 2) (dic_t hoc) (fun h => by cases h)))).1 16
                  have q_110 : 0 ≤ S72.1 135 19 ∧ S72.1 135 19 ≤ 102220 := hI72.fi 135 19 2 (by decide) rfl
                  have lk_111 : u_98.1 135 19 = S72.1 135 19 := (fu_98 135 (p1_no (tau_ne (rfl : tau 135 = .inl 2) (dic_t hoc) (fun h => by cases h)))).1 19
                  exact ih_72 u_98 (j + 1) _ _ _ (by omega) iu_98 F_100 F_101 F_102 (by omega) (by omega) ⟨hoc, hod, (neD hcd), (((fu_98 135 (p1_no (tau_ne (rfl : tau 135 = .inl 2) (dic_t hoc) (fun h => by cases h)))).2.2.2 0).trans hdl7.2.2.2.1), (((fu_98 135 (p1_no (tau_ne (rfl : tau 135 = .inl 2) (dic_t hoc) (fun h => by cases h)))).2.2.2 1).trans hdl7.2.2.2.2)⟩ (CPc.sv (Y := (fun a b => 0 ≤ a ∧ 0 ≤ b ∧ b ≤ n ∧ (a < i ∨ (a = i ∧ b < j + 1)))) hA7 (hd7 hI72 hoc) (i := i) (j := j) (A := r_67) (by omega) (by omega) (by omega) (fun a b q => by (try simp only [] at q ⊢); omega) (fun y q => (xu_98.2 y q).trans (congrFun (show S72.2.1 oc = S72.2.1 oc from funext fun x => rfl) y)) ((show nv _ _ = _ from xu_98.1).trans (by first | (rw [hnb]; unfold dS0; simp only []; rw [if_neg (show ¬ j = n + 1 by omega), if_neg (show ¬ i = -1 by omega), if_pos (show i = 0 ∧ 0 < j by omega), show i = 0 by omega]) | (rw [hnb]; unfold dS0; simp only []; rw [if_neg (show ¬ j = n + 1 by omega), if_neg (show ¬ i = -1 by omega), if_neg (show ¬ (i = 0 ∧ 0 < j) by omega)])))) (fun a a0 a1 => by rw [((fu_98 138 (p1_no (ac_ne (rfl : acode 138 = 0) (dic_c hoc) (by decide)))).2.1 a : u_98.2.1 138 a = S72.2.1 138 a)]; exact hB7 a a0 a1) hW hL (lv_sub hl [0, 2, 3, 4] rfl)
        have lk_112 : (uA S50 138 i ((S50.1 135 13) + i)).1 135 13 = S50.1 135 13 := uA_f
        have lk_113 : (uA S50 138 i ((S50.1 135 13) + i)).1 135 14 = S50.1 135 14 := uA_f
        have q_114 : 0 ≤ S50.1 135 15 ∧ S50.1 135 15 ≤ 13 := hI50.fi 135 15 2 (by decide) rfl
        have lk_115 : (uA S50 138 i ((S50.1 135 13) + i)).1 135 15 = S50.1 135 15 := uA_f
        have q_116 : 0 ≤ S50.1 135 16 ∧ S50.1 135 16 ≤ 1 := hI50.fi 135 16 2 (by decide) rfl
        have lk_117 : (uA S50 138 i ((S50.1 135 13) + i)).1 135 16 = S50.1 135 16 := uA_f
        have q_118 : 0 ≤ S50.1 135 19 ∧ S50.1 135 19 ≤ 102220 := hI50.fi 135 19 2 (by decide) rfl
        have lk_119 : (uA S50 138 i ((S50.1 135 13) + i)).1 135 19 = S50.1 135 19 := uA_f
        exact loop_72 (_ + 1) (uA S50 138 i ((S50.1 135 13) + i)) 0 _ _ _ (Nat.lt_succ_self _) i_55 F_53 F_54 Fr.rf (by omega) (by omega) ⟨hoc, hod, (neD hcd), ((uA_r).trans hdl.2.2.2.1), ((uA_r).trans hdl.2.2.2.2)⟩ (by rw [show (uA S50 138 i ((S50.1 135 13) + i)).2.1 oc = S50.2.1 oc from funext fun x => uA_ne (fun h => absurd h.1 (ac_ne (dic_c hoc) (rfl : acode 138 = 0) (by decide)))]; exact CPc.to hA5 (fun a b q => ⟨by (try simp only [] at q ⊢); omega, rfl⟩)) (fun a a0 a1 => by rw [uA_get]; split; (rename_i q; omega); (rename_i q; exact hB5 a a0 (by omega))) hW hL (lv_sub hl [0, 1, 2, 3] rfl)
  have lk_120 : u_16.1 135 13 = S.1 md 2 := ((fu_16 135 (p1_no (tau_ne (rfl : tau 135 = .inl 2) (dic_t hoc) (fun h => by cases h)))).1 13).trans ((uF_ne (fun h => absurd h.2 (by decide))).trans ((uF_ne (fun h => absurd h.2 (by decide))).trans ((uF_ne (fun h => absurd h.2 (by decide))).trans ((uF_ne (fun h => absurd h.2 (by decide))).trans (uF_on)))))
  have lk_121 : u_16.1 135 14 = S.1 md 3 := ((fu_16 135 (p1_no (tau_ne (rfl : tau 135 = .inl 2) (dic_t hoc) (fun h => by cases h)))).1 14).trans ((uF_ne (fun h => absurd h.2 (by decide))).trans ((uF_ne (fun h => absurd h.2 (by decide))).trans ((uF_ne (fun h => absurd h.2 (by decide))).trans (uF_on))))
  have lk_122 : u_16.1 135 15 = S.1 md 2 := ((fu_16 135 (p1_no (tau_ne (rfl : tau 135 = .inl 2) (dic_t hoc) (fun h => by cases h)))).1 15).trans ((uF_ne (fun h => absurd h.2 (by decide))).trans ((uF_ne (fun h => absurd h.2 (by decide))).trans (uF_on)))
  have lk_123 : u_16.1 135 16 = 0 := ((fu_16 135 (p1_no (tau_ne (rfl : tau 135 = .inl 2) (dic_t hoc) (fun h => by cases h)))).1 16).trans ((uF_ne (fun h => absurd h.2 (by decide))).trans (uF_on))
  have lk_124 : u_16.1 135 19 = 0 := ((fu_16 135 (p1_no (tau_ne (rfl : tau 135 = .inl 2) (dic_t hoc) (fun h => by cases h)))).1 19).trans (uF_on)
  exact loop_50 (_ + 1) u_16 0 _ _ _ (Nat.lt_succ_self _) iu_16 F_18 Fr.rf (by omega) (by omega) ⟨hoc, hod, (neD hcd), ((((fu_16 135 (p1_no (tau_ne (rfl : tau 135 = .inl 2) (dic_t hoc) (fun h => by cases h)))).2.2.2 0).trans ((uF_r).trans ((uF_r).trans ((uF_r).trans ((uF_r).trans (uF_r)))))).trans hec), ((((fu_16 135 (p1_no (tau_ne (rfl : tau 135 = .inl 2) (dic_t hoc) (fun h => by cases h)))).2.2.2 1).trans ((uF_r).trans ((uF_r).trans ((uF_r).trans ((uF_r).trans (uF_r)))))).trans hed)⟩ hA0 (fun a a0 a1 => absurd a1 (by omega)) hW hL (lv_sub hl [0, 1, 2] rfl)
