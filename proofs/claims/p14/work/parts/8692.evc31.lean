/-! The teller's F, T and E, exactly: what a memory must hold, what comes out -/
def pEx (a b c : Nat) (k : Nat) : Bool := decide (k = 11 ∨ k = 16 ∨ k = 17 ∨ (20 + a ≤ k ∧ k ≤ 50) ∨ (52 + b ≤ k ∧ k ≤ 82) ∨ (84 + c ≤ k ∧ k ≤ 114))
theorem pEx_y {a b c k : Nat} (h : k = 11 ∨ k = 16 ∨ k = 17 ∨ (20 + a ≤ k ∧ k ≤ 50) ∨ (52 + b ≤ k ∧ k ≤ 82) ∨ (84 + c ≤ k ∧ k ≤ 114)) : pEx a b c k = true := decide_eq_true h
theorem pEx_n {a b c k : Nat} (h : ¬ (k = 11 ∨ k = 16 ∨ k = 17 ∨ (20 + a ≤ k ∧ k ≤ 50) ∨ (52 + b ≤ k ∧ k ≤ 82) ∨ (84 + c ≤ k ∧ k ≤ 114))) : pEx a b c k = false := decide_eq_false h
theorem pEx_s {a b c a' b' c' : Nat} (h1 : a' ≤ a) (h2 : b' ≤ b) (h3 : c' ≤ c) : ∀ k, pEx a b c k = true → pEx a' b' c' k = true := fun k h => by
  have := of_decide_eq_true h; exact pEx_y (by omega)
theorem pEx_V {a b c : Nat} : ∀ k, pEx a b c k = true → pV k = true := fun k h => by
  have := of_decide_eq_true h
  by_cases e : k = 11
  · rw [e]; rfl
  · rw [pV, rgB_i ⟨by omega, by omega⟩, Bool.or_true]
theorem pT_Ex {a b c : Nat} : ∀ k, pT k = true → pEx a b c k = true := fun k h => by
  rw [pT, Bool.or_eq_true] at h
  rcases h with h | h
  · rw [Nat.eq_of_beq_eq_true h]; exact pEx_y (.inl rfl)
  · have := rgB_t h; exact pEx_y (by omega)
/-- 11 and the rows of thirteen -/
def pR3 (k : Nat) : Bool := decide (k = 11 ∨ (20 ≤ k ∧ k ≤ 115))
theorem pR3_y {k : Nat} (h : k = 11 ∨ (20 ≤ k ∧ k ≤ 115)) : pR3 k = true := decide_eq_true h
theorem r2_83f {G : sG} {S : sS} {x y q dn : Nat} {b i : Int} (h : cX G S x y b) (hq : q = 84 + dn) (hi : i = (dn : Int)) (h1 : dn < 31) : S.2.2.2 83 i.toNat = .ref (G.2.2.1 + q) := by
  rw [show i.toNat = dn by omega, hq]; exact (h.r2 dn h1).2.2
theorem r2_51f {G : sG} {S : sS} {x y q dn : Nat} {b i : Int} (h : cX G S x y b) (hq : q = 52 + dn) (hi : i = (dn : Int)) (h1 : dn < 31) : S.2.2.2 51 i.toNat = .ref (G.2.2.1 + q) := by
  rw [show i.toNat = dn by omega, hq]; exact (h.r2 dn h1).2.1
theorem r2_19f {G : sG} {S : sS} {x y q dn : Nat} {b i : Int} (h : cX G S x y b) (hq : q = 20 + dn) (hi : i = (dn : Int)) (h1 : dn < 31) : S.2.2.2 19 i.toNat = .ref (G.2.2.1 + q) := by
  rw [show i.toNat = dn by omega, hq]; exact (h.r2 dn h1).1
theorem lr_83 {q dn : Nat} (hq : q = 84 + dn) (h1 : dn < 31) : lr q := by rw [hq]; exact ⟨(lr20 _ h1).2.2, by omega, by omega⟩
theorem lr_51 {q dn : Nat} (hq : q = 52 + dn) (h1 : dn < 31) : lr q := by rw [hq]; exact ⟨(lr20 _ h1).2.1, by omega, by omega⟩
theorem lr_19 {q dn : Nat} (hq : q = 20 + dn) (h1 : dn < 31) : lr q := by rw [hq]; exact ⟨(lr20 _ h1).1, by omega, by omega⟩
theorem lr_R {q : Nat} (h : lr q) : pR3 q = true := pR3_y (.inr ⟨h.2.1, h.2.2⟩)
/-- kinds, values and how many tokens -/
def KV (S : sS) (k v : Int → Int) (T : Int) : Prop := kd S = k ∧ vd S = v ∧ S.1 12 3 = T
theorem KV.fr {S u : sS} {P : pS} {k v : Int → Int} {T : Int} (h : KV S k v T) (f : Fr S u P) (h1 : P 12 = false) (h2 : P 13 = false) (h3 : P 15 = false) : KV u k v T := by
  have e : u.1 12 3 = S.1 12 3 := (f 12 h1).1 3
  refine ⟨?_, ?_, e.trans h.2.2⟩
  · rw [← h.1]; funext t; unfold kd; rw [e, (f 13 h2).2.1 t]
  · rw [← h.2.1]; funext t; unfold vd; rw [e, (f 15 h3).2.2.1 t]
theorem KV.e {S u : sS} {a b c : Nat} {k v : Int → Int} {T : Int} (h : KV S k v T) (f : Fr S u (pEx a b c)) : KV u k v T := h.fr f (pEx_n (by omega)) (pEx_n (by omega)) (pEx_n (by omega))
theorem KV.z {S : sS} {k v : Int → Int} {T : Int} (h : KV S k v T) : ∀ t, T ≤ t → k t = 0 := fun t q => by rw [← h.1]; exact kd_out t (by rw [h.2.2]; exact q)
theorem KV.lt {S : sS} {k v : Int → Int} {T t c : Int} (h : KV S k v T) (e : k t = c) (hc : c ≠ 0) : t < T := by
  by_cases q : t < T
  · exact q
  · exact absurd (e.symm.trans (h.z t (by omega))) hc
theorem ogF_k {T : Int} {k : Int → Int} {n : Nat} {p q : Int} (h : ogF T k n p = some q) : k p ≠ 0 := by
  intro e
  cases n with
  | zero => cases h
  | succ n =>
    have h : (if k p = 3 then some (p + 1) else if k p = 22 then ogF T k n (p + 1) else if k p = 19 then (ogU T k (ogF T k n) (p + 1)).bind (ogT k 20) else if k p = 11 then (ogT k 2 (p + 1)).bind (fun a => (ogT k 12 a).bind (fun b => (ogT k 2 b).bind (fun c => (ogT k 19 c).bind (fun d => (ogU T k (ogF T k n) d).bind (ogT k 20))))) else if k p = 2 then (if k (p + 1) = 17 then ogXs k (p + 1 + 1) else some (p + 1)) else none) = some q := h
    rw [e, if_neg (by decide), if_neg (by decide), if_neg (by decide), if_neg (by decide), if_neg (by decide)] at h; cases h
theorem ogX_k {k : Int → Int} {p q : Int} (h : ogX k p = some q) : k p ≠ 0 := by
  rcases ogX_i h with a | a <;> omega
theorem ogXs_i {k : Int → Int} {p q : Int} (h : ogXs k p = some q) : ∃ a, ogX k p = some a ∧ ((k a = 16 ∧ ∃ b, ogX k (a + 1) = some b ∧ k b = 18 ∧ q = b + 1) ∨ (k a ≠ 16 ∧ k a = 18 ∧ q = a + 1)) := by
  obtain ⟨a, h1, h2⟩ := ogB h
  refine ⟨a, h1, ?_⟩
  by_cases c : k a = 16
  · rw [if_pos c] at h2; obtain ⟨b, h3, h4⟩ := ogB h2; have := ogT_lt h4; exact .inl ⟨c, b, h3, this.2, this.1⟩
  · rw [if_neg c] at h2; have := ogT_lt h2; exact .inr ⟨c, this.2, this.1⟩
theorem eI_bd {k v : Int → Int} {N : sN} {p a q : Int} (hK : NK N) (h0 : 0 ≤ N.1) (hTV : TVn k v) (hx : ogX k p = some q) (h : eI k v N p = some (a, q)) : -99999 ≤ a ∧ a ≤ 199998 := by
  unfold eI at h
  by_cases c : k p = 3
  · rw [if_pos c] at h; have := hTV p c; cases h; omega
  · rw [if_neg c] at h
    rcases ogX_i hx with g | g
    · exact absurd g.1 c
    · by_cases d : 0 ≤ eFind N (v p) ∧ N.2.2.1 (eFind N (v p)) 0 = 2
      · rw [if_pos d] at h
        have hf : eFind N (v p) < N.1 := by
          rcases eFind_r (x := v p) h0 with z | z
          · exact absurd d.1 (by omega)
          · exact z.2.1
        have hb := (hK.2 _ d.1 hf).1 d.2
        by_cases e1 : k (p + 1) = 21
        · rw [if_pos e1] at h
          rcases g.2 with g | g
          · have := hTV _ g.2.1
            have e := congrArg Prod.fst (Option.some.inj h); have e : N.2.2.1 (eFind N (v p)) 1 + v (p + 1 + 1) = a := e; omega
          · exact absurd (.inl e1) g.1
        · rw [if_neg e1] at h
          by_cases e2 : k (p + 1) = 22
          · rw [if_pos e2] at h
            rcases g.2 with g | g
            · have := hTV _ g.2.1
              have e := congrArg Prod.fst (Option.some.inj h); have e : N.2.2.1 (eFind N (v p)) 1 - v (p + 1 + 1) = a := e; omega
            · exact absurd (.inr e2) g.1
          · rw [if_neg e2] at h
            have e := congrArg Prod.fst (Option.some.inj h); have e : N.2.2.1 (eFind N (v p)) 1 = a := e; omega
      · rw [if_neg d] at h; cases h
/-! eN, by its cases -/
theorem eN_0 {k v : Int → Int} {N : sN} {lk p s : Int} (e : eFind N (v p) = s) (hs : 0 ≤ s) (h : N.2.2.1 s 0 = 2) (hk : k (p + 1) ≠ 17) : eN k v N lk p = some (p + 1, cst (N.2.2.1 s 1), lk) := by
  unfold eN; rw [e, if_pos ⟨hs, h⟩, if_neg hk]
theorem eN_1 {k v : Int → Int} {N : sN} {lk p s : Int} (e : eFind N (v p) = s) (hs : 0 ≤ s) (h : N.2.2.1 s 0 = 7 ∨ N.2.2.1 s 0 = 8) (hk : k (p + 1) ≠ 17) : eN k v N lk p = if N.2.2.1 s 3 < 0 then some (p + 1, eV N s 0, lk) else none := by
  unfold eN; rw [e, if_neg (by omega), if_pos ⟨hs, h⟩, if_neg hk]
theorem eN_2 {k v : Int → Int} {N : sN} {lk p s : Int} (e : eFind N (v p) = s) (hs : 0 ≤ s) (h : N.2.2.1 s 0 = 7 ∨ N.2.2.1 s 0 = 8) (hk : k (p + 1) = 17) (ha : eI k v N (p + 1 + 1) = none) : eN k v N lk p = none := by
  unfold eN; rw [e, if_neg (by omega), if_pos ⟨hs, h⟩, if_pos hk, ha]; rfl
theorem eN_3 {k v : Int → Int} {N : sN} {lk p s a qa : Int} (e : eFind N (v p) = s) (hs : 0 ≤ s) (h : N.2.2.1 s 0 = 7 ∨ N.2.2.1 s 0 = 8) (hk : k (p + 1) = 17) (ha : eI k v N (p + 1 + 1) = some (a, qa)) (hq : k qa ≠ 16) : eN k v N lk p = if 0 ≤ N.2.2.1 s 3 ∧ N.2.2.1 s 4 < 0 ∧ inS N (N.2.2.1 s 3) a then some (qa + 1, eV N s (a - N.2.2.1 (N.2.2.1 s 3) 1), lk) else none := by
  unfold eN; rw [e, if_neg (by omega), if_pos ⟨hs, h⟩, if_pos hk, ha, Option.bind_some, if_neg hq]
theorem eN_4 {k v : Int → Int} {N : sN} {lk p s a qa : Int} (e : eFind N (v p) = s) (hs : 0 ≤ s) (h : N.2.2.1 s 0 = 7 ∨ N.2.2.1 s 0 = 8) (hk : k (p + 1) = 17) (ha : eI k v N (p + 1 + 1) = some (a, qa)) (hq : k qa = 16) (hb : eI k v N (qa + 1) = none) : eN k v N lk p = none := by
  unfold eN; rw [e, if_neg (by omega), if_pos ⟨hs, h⟩, if_pos hk, ha, Option.bind_some, if_pos hq]; show (eI k v N (qa + 1)).bind _ = none; rw [hb]; rfl
theorem eN_5 {k v : Int → Int} {N : sN} {lk p s a qa b qb : Int} (e : eFind N (v p) = s) (hs : 0 ≤ s) (h : N.2.2.1 s 0 = 7 ∨ N.2.2.1 s 0 = 8) (hk : k (p + 1) = 17) (ha : eI k v N (p + 1 + 1) = some (a, qa)) (hq : k qa = 16) (hb : eI k v N (qa + 1) = some (b, qb)) : eN k v N lk p = if 0 ≤ N.2.2.1 s 3 ∧ 0 ≤ N.2.2.1 s 4 ∧ inS N (N.2.2.1 s 3) a ∧ inS N (N.2.2.1 s 4) b then some (qb + 1, eV N s ((a - N.2.2.1 (N.2.2.1 s 3) 1) * siz N (N.2.2.1 s 4) + (b - N.2.2.1 (N.2.2.1 s 4) 1)), lk) else none := by
  unfold eN; rw [e, if_neg (by omega), if_pos ⟨hs, h⟩, if_pos hk, ha, Option.bind_some, if_pos hq]; show (eI k v N (qa + 1)).bind _ = _; rw [hb]; rfl
/-- what the rows of an F may hold -/
def vb9 (f : Int → Int) : Prop := ∀ j, 0 ≤ j → j < 13 → -99999 ≤ f j ∧ f j ≤ 99999
theorem vb9.bd {f : Int → Int} (h : vb9 f) : vbd f := fun j a b => by have := h j a b; omega
theorem vb9.eq {f g : Int → Int} (h : vb9 f) (e : veq g f) : vb9 g := fun j a b => by rw [e j a b]; exact h j a b
theorem vb9_cst {c : Int} (h : -99999 ≤ c ∧ c ≤ 99999) : vb9 (cst c) := fun j _ _ => by unfold cst; split <;> omega
theorem vb9_unt {i : Int} : vb9 (unt i) := fun j _ _ => by unfold unt; split <;> omega
theorem vb9_n {f : Int → Int} (h : ¬ grt f) : vb9 f := fun j a b => ngrt h j a b
theorem vb9_neg {f : Int → Int} (h : vb9 f) : vb9 (vad (cst 0) f (-1)) := fun j a b => by have := h j a b; unfold vad cst; split <;> omega
theorem vb9_eV {N : sN} {s o : Int} (hK : NK N) (h0 : 0 ≤ s) (h1 : s < N.1) (hs : N.2.2.1 s 0 = 7 ∨ N.2.2.1 s 0 = 8) (o0 : 0 ≤ o) (o1 : o < siz N (N.2.2.1 s 3) * siz N (N.2.2.1 s 4)) : vb9 (eV N s o) := by
  unfold eV
  by_cases c : N.2.2.1 s 0 = 7
  · rw [if_pos c]; exact vb9_cst ((hK.2 s h0 h1).2.2.2.2.1 c o o0 o1)
  · rw [if_neg c]; exact vb9_unt
/-- what an F, T or E leaves: r, its numbers, where it ends -/
def EO (S u : sS) (N : sN) (q r : Int) (X : Option sR) (row : Nat) : Prop := (Hd (RK S u ∧ (r = 0 → u.1 11 14 ≠ 0)) ∧ 0 ≤ r ∧ r ≤ 1 ∧ u.1 11 10 = S.1 11 10 ∧ u.1 11 11 = S.1 11 11) ∧ Hd (r = 1 → ∃ V, X = some (q, V, u.1 11 12) ∧ veq (u.2.2.1 row) V ∧ vb9 V ∧ (0 ≤ u.1 11 12 ∧ u.1 11 12 ≤ 20000) ∧ u.1 11 13 = q ∧ u.1 11 14 = 0 ∧ NRc N u) ∧ Hd (r = 0 → X = none)
def EH (S : sS) (N : sN) (k v : Int → Int) (T pz : Int) : Prop := NRc N S ∧ NK N ∧ TVn k v ∧ KV S k v T ∧ S.1 11 14 = 0 ∧ S.1 11 13 = pz ∧ 0 ≤ pz ∧ (0 ≤ S.1 11 12 ∧ S.1 11 12 ≤ 20000)
def FX (l : Launch) (G : sG) (D : Nat) (dd : Int) (dn : Nat) : Prop := ∀ (S : sS) (N : sN) (k v : Int → Int) (T pz q : Int) (n : Nat), cX G S 0 0 0 → EH S N k v T pz → (n : Int) = 30 - dd → N.1 + n ≤ 128 → q ≤ 2001 → ogF T k n pz = some q → Met l yX9_factor (.code yX9_factor cX9_factor 4 (some .boolean) :: tb) (rmk D 0 0) (sPc G 294 S [.ref (G.2.2.1 + 11), .int (iv dd)]) (sQi G 294 (fun r u => cX G u 0 0 0 ∧ Fr S u (pEx (dn + 1) (dn + 1) dn) ∧ (EO S u N q r (eF T k v n N (S.1 11 12) pz) (84 + dn)))) 0 0 (sF G)
def TX (l : Launch) (G : sG) (D : Nat) (dd : Int) (dn : Nat) : Prop := ∀ (S : sS) (N : sN) (k v : Int → Int) (T pz q : Int) (n : Nat), cX G S 0 0 0 → EH S N k v T pz → (n : Int) = 30 - dd → N.1 + n ≤ 128 → q ≤ 2001 → ogP T k (ogF T k n) pz = some q → Met l yX9_term (.code yX9_term cX9_term 5 (some .boolean) :: tb) (rmk D 0 0) (sPc G 294 S [.ref (G.2.2.1 + 11), .int (iv dd)]) (sQi G 294 (fun r u => cX G u 0 0 0 ∧ Fr S u (pEx (dn + 1) dn dn) ∧ (EO S u N q r (eP T k (eF T k v n N) (S.1 11 12) pz) (52 + dn)))) 0 0 (sF G)
def EX (l : Launch) (G : sG) (D : Nat) (dd : Int) (dn : Nat) : Prop := ∀ (S : sS) (N : sN) (k v : Int → Int) (T pz q : Int) (n : Nat), cX G S 0 0 0 → EH S N k v T pz → (n : Int) = 30 - dd → N.1 + n ≤ 128 → q ≤ 2001 → ogU T k (ogF T k n) pz = some q → Met l yX9_expression (.code yX9_expression cX9_expression 6 (some .boolean) :: tb) (rmk D 0 0) (sPc G 294 S [.ref (G.2.2.1 + 11), .int (iv dd)]) (sQi G 294 (fun r u => cX G u 0 0 0 ∧ Fr S u (pEx dn dn dn) ∧ (EO S u N q r (eU T k (eF T k v n N) (S.1 11 12) pz) (20 + dn)))) 0 0 (sF G)
theorem veq_u0 {S : sS} {q : Nat} {c : Int} (h : veq (S.2.2.1 q) (cst 0)) : veq ((uL S q 0 c).2.2.1 q) (cst c) := fun j a b => by
  by_cases z : j = 0
  · rw [z, uL_on]; rfl
  · rw [uL_ne (fun h => z h.2), h j a b]; unfold cst; rw [if_neg z, if_neg z]
theorem veq_vad {f f' g g' : Int → Int} {t : Int} (h : veq f f') (h' : veq g g') : veq (vad f g t) (vad f' g' t) := fun j a b => by unfold vad; rw [h j a b, h' j a b]
theorem veq_tr {f g h : Int → Int} (a : veq f g) (b : veq g h) : veq f h := fun j x y => (a j x y).trans (b j x y)
theorem veq_0 {g : Int → Int} : veq (vad (cst 0) g 1) g := fun j a b => by unfold vad cst; split <;> omega
theorem vbd_0 {f : Int → Int} (h : veq f (cst 0)) : vbd f := fun j a b => by rw [h j a b]; unfold cst; split <;> omega
/-- an item of INDEXES: offset and range so far -/
def JN (N : sN) (s a o0 i0 o i : Int) : Prop := (s < 0 → o = o0 ∧ i = i0) ∧ (0 ≤ s → o = o0 * siz N s + a - N.2.2.1 s 1 ∧ (0 ≤ i ∧ i ≤ 1) ∧ (i = 1 → i0 = 1 ∧ inS N s a) ∧ (i = 0 → ¬ (i0 = 1 ∧ inS N s a)))
theorem NRc.v5 {N : sN} {S : sS} {s o : Int} (h : NRc N S) (hK : NK N) (s0 : 0 ≤ s) (s1 : s < N.1) (hs : N.2.2.1 s 0 = 7 ∨ N.2.2.1 s 0 = 8) (ho : 0 ≤ o ∧ o < siz N (N.2.2.1 s 3) * siz N (N.2.2.1 s 4)) : 0 ≤ fc S s 5 + o ∧ fc S s 5 + o ≤ 1728 := by
  have a := h.2.2 s s0 s1
  rcases hs with e | e
  · have := a.2.2.2.2.2 e o ho.1 ho.2; omega
  · have b := a.2.2.2.2.1 (.inr e); have c := (hK.2 s s0 s1).2.2.2.2.2 e; omega
theorem ho_0 {N : sN} {s : Int} (h3 : N.2.2.1 s 3 < 0) (h4 : N.2.2.1 s 4 < 0) : 0 ≤ (0 : Int) ∧ (0 : Int) < siz N (N.2.2.1 s 3) * siz N (N.2.2.1 s 4) := by
  unfold siz; rw [if_pos h3, if_pos h4]; decide
theorem ho_1 {N : sN} {s a o : Int} (h3 : 0 ≤ N.2.2.1 s 3) (h4 : N.2.2.1 s 4 < 0) (hin : inS N (N.2.2.1 s 3) a) (ho : o = a - N.2.2.1 (N.2.2.1 s 3) 1) : 0 ≤ o ∧ o < siz N (N.2.2.1 s 3) * siz N (N.2.2.1 s 4) := by
  have e : siz N (N.2.2.1 s 4) = 1 := if_pos h4
  have e3 : siz N (N.2.2.1 s 3) = N.2.2.1 (N.2.2.1 s 3) 2 - N.2.2.1 (N.2.2.1 s 3) 1 + 1 := if_neg (by omega)
  rw [e, e3, Int.mul_one]; have := hin.1; have := hin.2; omega
theorem ho_2 {N : sN} {s a b o : Int} (h3 : 0 ≤ N.2.2.1 s 3) (h4 : 0 ≤ N.2.2.1 s 4) (ha : inS N (N.2.2.1 s 3) a) (hb : inS N (N.2.2.1 s 4) b) (ho : o = (a - N.2.2.1 (N.2.2.1 s 3) 1) * siz N (N.2.2.1 s 4) + (b - N.2.2.1 (N.2.2.1 s 4) 1)) : 0 ≤ o ∧ o < siz N (N.2.2.1 s 3) * siz N (N.2.2.1 s 4) := by
  have e4 : siz N (N.2.2.1 s 4) = N.2.2.1 (N.2.2.1 s 4) 2 - N.2.2.1 (N.2.2.1 s 4) 1 + 1 := if_neg (by omega)
  have e3 : siz N (N.2.2.1 s 3) = N.2.2.1 (N.2.2.1 s 3) 2 - N.2.2.1 (N.2.2.1 s 3) 1 + 1 := if_neg (by omega)
  rw [ho]; have := ha.1; have := ha.2; have := hb.1; have := hb.2
  exact off_lt ⟨by omega, by rw [e3]; omega⟩ ⟨by omega, by rw [e4]; omega⟩
theorem mulc {a b : Int} (ha : -320000 ≤ a ∧ a ≤ 320000) (hb : 1 ≤ b ∧ b ≤ 12) : -4000000 ≤ a * b ∧ a * b ≤ 4000000 := by
  have : b = 1 ∨ b = 2 ∨ b = 3 ∨ b = 4 ∨ b = 5 ∨ b = 6 ∨ b = 7 ∨ b = 8 ∨ b = 9 ∨ b = 10 ∨ b = 11 ∨ b = 12 := by omega
  rcases this with e | e | e | e | e | e | e | e | e | e | e | e <;> rw [e] <;> omega

set_option maxRecDepth 100000 in
set_option maxHeartbeats 4000000 in
theorem e_X9_named (l : Launch) (G : sG) (S : sS) {N : sN} {k v : Int → Int} {T pz q dd s0 : Int} {dn qF : Nat} (hI : cX G S 0 0 0) (hdd : 0 ≤ dd ∧ dd ≤ 29) (hN : Hd (NRc N S)) (hK : Hd (NK N)) (hTV : Hd (TVn k v)) (hkv : Hd (KV S k v T)) (hfk : S.1 11 14 = 0) (hat : S.1 11 13 = pz) (hpz : 0 ≤ pz ∧ pz ≤ 2000) (hlk : 0 ≤ S.1 11 12 ∧ S.1 11 12 ≤ 20000) (hdn : dd = (dn : Int)) (hqF : qF = 84 + dn) (hs : 0 ≤ s0 ∧ s0 < N.1) (hs0 : Hd (eFind N (v pz) = s0)) (hso : Hd ((N.2.2.1 s0 0 = 2 ∧ k (pz + 1) ≠ 17) ∨ N.2.2.1 s0 0 = 7 ∨ N.2.2.1 s0 0 = 8)) (hgx : Hd ((k (pz + 1) = 17 ∧ ogXs k (pz + 1 + 1) = some q) ∨ (k (pz + 1) ≠ 17 ∧ q = pz + 1))) (hz : Hd (veq (S.2.2.1 qF) (cst 0))) : Met l yX9_named (.code yX9_named cX9_named 11 (some .boolean) :: tb) (rmk 3 0 0) (sPc G 294 S [.ref (G.2.2.1 + 11), .int (iv dd), .int (iv s0)]) (sQi G 294 (fun r u => cX G u 0 0 0 ∧ Fr S u (pl [11, qF]) ∧ (EO S u N q r (eN k v N (S.1 11 12) pz) qF))) 0 0 (sF G) := by
  refine sEnter (by decide) (Nat.le_of_ble_eq_true rfl) ?_
  intro p e s m args below meth c Cx hr hlk hnm hW ls hl
  have Cx : sC G p m c cX9_named 11 s args RX9 := Cx
  obtain ⟨hx, hb, hml, hown, hts⟩ := id Cx.1
  have hL : sL G [] := sL_nil
  have hl : lv_has ls 11 [(0, .ref (G.2.2.1 + 11)), (1, .int (iv dd)), (2, .int (iv s0))] := hl
  have hW0 := hW
  have lqF := lr_83 hqF (by omega)
  have hkn : 0 ≤ S.1 11 9 ∧ S.1 11 9 ≤ 128 := hI.fi 11 9 9 (by decide) rfl
  have hTb : 0 ≤ S.1 12 3 ∧ S.1 12 3 ≤ 2001 := hI.fi 12 3 8 (by decide) rfl
  have hTe := hkv.2.2
  have hN1 := hN.1
  refine lv_aload_n hx hb dX9_named_0 rfl (lv_at hl 0 rfl) ?_
  have q_1 : (-2147483648) ≤ S.1 11 13 ∧ S.1 11 13 ≤ 2147483647 := hI.fi 11 13 9 (by decide) rfl
  refine g_X9_89 Cx hW (k := 11) (by decide) rfl (v := S.1 11 13) rfl dX9_named_1 ?_
  refine lv_istore_n (lv' := [(3, .int (iv (S.1 11 13))), (0, .ref (G.2.2.1 + 11)), (1, .int (iv dd)), (2, .int (iv s0))]) hx hb dX9_named_4 rfl hl (by decide) rfl (fun ls hl => ?_)
  refine lv_aload_n hx hb dX9_named_5 rfl (lv_at hl 1 rfl) ?_
  refine lv_dup hx hb dX9_named_6 rfl ?_
  refine g_X9_89 Cx hW (k := 11) (by decide) rfl (v := S.1 11 13) rfl dX9_named_7 ?_
  refine lv_iconst (v := iv 1) hx hb dX9_named_10 (by decide) ?_
  refine r_iadd hx hb dX9_named_11 ?_
  refine p_X9_89 Cx hW hL (k := 11) (by decide) rfl dX9_named_12 (fun H locs hW hL => ?_)
  have F_2 : Fr S (uF S 11 13 ((S.1 11 13) + 1)) (pl [11, qF]) := (Fr.rf : Fr S S (pl [11, qF])).F pl_h
  have F_3 : Fr S (uF S 11 13 ((S.1 11 13) + 1)) pR3 := (Fr.rf : Fr S S pR3).F rfl
  have F_4 : Fr S (uF S 11 13 ((S.1 11 13) + 1)) (p1 11) := (Fr.rf : Fr S S (p1 11)).F rfl
  have i_5 : cX G (uF S 11 13 ((S.1 11 13) + 1)) 0 0 0 := hI.F rfl rfl (show (-2147483648) ≤ (S.1 11 13) + 1 ∧ (S.1 11 13) + 1 ≤ 2147483647 from ⟨by omega, by omega⟩)
  refine lv_aload_n hx hb dX9_named_15 rfl (lv_at hl 1 rfl) ?_
  refine lv_iload_n hx hb dX9_named_16 rfl (lv_at hl 3 rfl) ?_
  refine lv_iconst (v := iv 2) hx hb dX9_named_17 (by decide) ?_
  refine sBi (sV (As := [.int (iv s0), .int (iv 2)]) (rest := []) (k := 11) Cx (e_X9_isSort l G (uF S 11 13 ((S.1 11 13) + 1)) (s0 := s0) (k := 2) i_5 (by omega) (by omega)) (c_X9_146 Cx rfl rfl (rmk_ok (by omega) (by decide))) hW (by decide) rfl rfl rfl hl.1 rfl (Nat.le_of_ble_eq_true rfl) dX9_named_18 ⟨Nat.le_of_ble_eq_true rfl, Nat.le_of_ble_eq_true rfl⟩) hL (fun r_8 u_6 H locs k_7 hW hL => ?_)
  obtain ⟨eu_6, xu_6⟩ := k_7
  rw [eu_6] at hW
  refine r_if_eq (tgt := 41) hx hb ⟨(by omega), (by omega)⟩ dX9_named_21 (by decide) (fun c_9 => ?_) (fun c_9 => ?_)
  · have q_11 : 0 ≤ S.1 11 9 ∧ S.1 11 9 ≤ 128 := hI.fi 11 9 9 (by decide) rfl
    have lk_12 : (uF S 11 13 ((S.1 11 13) + 1)).1 11 9 = S.1 11 9 := uF_ne (fun h => absurd h.2 (by decide))
    have nr_10 : NRc N (uF S 11 13 ((S.1 11 13) + 1)) := hN.of (by omega) (fun j => (F_3 16 rfl).2.2.1 j) (fun j => (F_3 17 rfl).2.1 j) (fun j => (F_3 18 rfl).2.1 j)
    have h7 : N.2.2.1 s0 0 = 7 ∨ N.2.2.1 s0 0 = 8 := (by have q1 := xu_6.2.2 (by omega); have q2 := (nr_10.2.2 s0 (by omega) (by omega)).1; rcases hso with q | q; (exact absurd ⟨hs.1, q2.symm.trans q.1⟩ q1); exact q)
    have hw4 := (hK.2 s0 (by omega) (by omega)).2.2.2.1 h7
    refine lv_iconst (v := iv 0) hx hb dX9_named_41 (by decide) ?_
    refine lv_istore (lv' := [(4, .int (iv 0)), (3, .int (iv (S.1 11 13))), (0, .ref (G.2.2.1 + 11)), (1, .int (iv dd)), (2, .int (iv s0))]) hx hb dX9_named_42 hl (by decide) rfl (fun ls hl => ?_)
    refine lv_iconst (v := iv 0) hx hb dX9_named_44 (by decide) ?_
    refine lv_istore (lv' := [(5, .int (iv 0)), (4, .int (iv 0)), (3, .int (iv (S.1 11 13))), (0, .ref (G.2.2.1 + 11)), (1, .int (iv dd)), (2, .int (iv s0))]) hx hb dX9_named_45 hl (by decide) rfl (fun ls hl => ?_)
    refine lv_iconst (v := iv 1) hx hb dX9_named_47 (by decide) ?_
    refine lv_istore (lv' := [(6, .int (iv 1)), (5, .int (iv 0)), (4, .int (iv 0)), (3, .int (iv (S.1 11 13))), (0, .ref (G.2.2.1 + 11)), (1, .int (iv dd)), (2, .int (iv s0))]) hx hb dX9_named_48 hl (by decide) rfl (fun ls hl => ?_)
    refine lv_aload_n hx hb dX9_named_50 rfl (lv_at hl 4 rfl) ?_
    refine g_X9_14 Cx hW (k := 11) (by decide) rfl (v := .ref (G.2.2.1 + 12)) (rf_11_0 i_5) dX9_named_51 ?_
    refine lv_aload_n hx hb dX9_named_54 rfl (lv_at hl 4 rfl) ?_
    refine g_X9_89 Cx hW (k := 11) (by decide) rfl (v := (S.1 11 13) + 1) uF_on dX9_named_55 ?_
    refine sBi (sV (As := [.int (iv ((S.1 11 13) + 1))]) (rest := []) (k := 12) Cx (s_X8_kind l G (uF S 11 13 ((S.1 11 13) + 1)) (k := (S.1 11 13) + 1) i_5 (by omega)) (c_X9_95 Cx rfl rfl (rmk_ok (by omega) (by decide))) hW (by decide) rfl rfl rfl hl.1 rfl (Nat.le_of_ble_eq_true rfl) dX9_named_58 ⟨Nat.le_of_ble_eq_true rfl, Nat.le_of_ble_eq_true rfl⟩) hL (fun r_15 u_13 H locs k_14 hW hL => ?_)
    obtain ⟨eu_13, xu_13⟩ := k_14
    rw [eu_13] at hW
    have kv_16 : KV (uF S 11 13 ((S.1 11 13) + 1)) k v T := hkv.fr F_2 (pl_c (by decide) (pl_c (tau_ne (rfl : tau 12 = .inl 8) lqF.1 (fun h => by cases h)) rfl)) (pl_c (by decide) (pl_c (tau_ne (rfl : tau 13 = .inr (.int, 2001)) lqF.1 (fun h => by cases h)) rfl)) (pl_c (by decide) (pl_c (tau_ne (rfl : tau 15 = .inr (.long, 2001)) lqF.1 (by decide)) rfl))
    have k1 : r_15 = k (pz + 1) := (by rw [← kv_16.1]; exact xu_13.1.trans (congrArg (kd _) (by omega)))
    refine lv_bipush (v := iv 17) hx hb dX9_named_61 (by decide) ?_
    refine r_icmp_ne (tgt := 70) hx hb ⟨(by omega), (by omega)⟩ ⟨(by omega), (by omega)⟩ dX9_named_63 (by decide) (fun c_17 => ?_) (fun c_17 => ?_)
    · refine lv_iconst (v := iv 0) hx hb dX9_named_70 (by decide) ?_
      refine lv_istore (lv' := [(7, .int (iv 0)), (6, .int (iv 1)), (5, .int (iv 0)), (4, .int (iv 0)), (3, .int (iv (S.1 11 13))), (0, .ref (G.2.2.1 + 11)), (1, .int (iv dd)), (2, .int (iv s0))]) hx hb dX9_named_71 hl (by decide) rfl (fun ls hl => ?_)
      refine lv_iconst (v := iv 3) hx hb dX9_named_73 (by decide) ?_
      refine lv_istore (lv' := [(8, .int (iv 3)), (7, .int (iv 0)), (6, .int (iv 1)), (5, .int (iv 0)), (4, .int (iv 0)), (3, .int (iv (S.1 11 13))), (0, .ref (G.2.2.1 + 11)), (1, .int (iv dd)), (2, .int (iv s0))]) hx hb dX9_named_74 hl (by decide) rfl (fun ls hl => ?_)
      refine lv_iload hx hb dX9_named_76 (lv_at hl 0 rfl) ?_
      refine lv_iconst (v := iv 4) hx hb dX9_named_78 (by decide) ?_
      refine r_icmp_gt (tgt := 221) hx hb ⟨(by omega), (by omega)⟩ ⟨(by omega), (by omega)⟩ dX9_named_79 (by decide) (fun c => absurd c (by omega)) (fun _ => ?_)
      refine lv_iload hx hb dX9_named_82 (lv_at hl 1 rfl) ?_
      refine r_if_eq (tgt := 221) hx hb ⟨(by omega), (by omega)⟩ dX9_named_84 (by decide) (fun _ => ?_) (fun c => absurd (by omega) c)
      refine lv_aload_n hx hb dX9_named_221 rfl (lv_at hl 6 rfl) ?_
      refine lv_iload_n hx hb dX9_named_222 rfl (lv_at hl 8 rfl) ?_
      refine lv_iconst (v := iv 3) hx hb dX9_named_223 (by decide) ?_
      refine sBi (sV (As := [.int (iv s0), .int (iv 3)]) (rest := []) (k := 11) Cx (s_X9_fact l G (uF S 11 13 ((S.1 11 13) + 1)) (s0 := s0) (q := 3) i_5 (by omega) (by omega)) (c_X9_120 Cx rfl rfl (rmk_ok (by omega) (by decide))) hW (by decide) rfl rfl rfl hl.1 rfl (Nat.le_of_ble_eq_true rfl) dX9_named_224 ⟨Nat.le_of_ble_eq_true rfl, Nat.le_of_ble_eq_true rfl⟩) hL (fun r_20 u_18 H locs k_19 hW hL => ?_)
      obtain ⟨eu_18, xu_18⟩ := k_19
      rw [eu_18] at hW
      have yu_18 := xu_18.2
      unfold fr8 at yu_18
      have e3 : r_20 = N.2.2.1 s0 3 := (xu_18.1.trans ((nr_10.2.2 s0 (by omega) (by omega)).2.2.2.1 h7).1.symm)
      refine r_if_ge (tgt := 234) hx hb ⟨(by omega), (by omega)⟩ dX9_named_227 (by decide) (fun c_21 => ?_) (fun c_21 => ?_)
      · refine lv_aload_n hx hb dX9_named_234 rfl (lv_at hl 6 rfl) ?_
        refine lv_iload_n hx hb dX9_named_235 rfl (lv_at hl 8 rfl) ?_
        refine lv_iconst (v := iv 4) hx hb dX9_named_236 (by decide) ?_
        refine sBi (sV (As := [.int (iv s0), .int (iv 4)]) (rest := []) (k := 11) Cx (s_X9_fact l G (uF S 11 13 ((S.1 11 13) + 1)) (s0 := s0) (q := 4) i_5 (by omega) (by omega)) (c_X9_120 Cx rfl rfl (rmk_ok (by omega) (by decide))) hW (by decide) rfl rfl rfl hl.1 rfl (Nat.le_of_ble_eq_true rfl) dX9_named_237 ⟨Nat.le_of_ble_eq_true rfl, Nat.le_of_ble_eq_true rfl⟩) hL (fun r_24 u_22 H locs k_23 hW hL => ?_)
        obtain ⟨eu_22, xu_22⟩ := k_23
        rw [eu_22] at hW
        have yu_22 := xu_22.2
        unfold fr8 at yu_22
        have e4 : r_24 = N.2.2.1 s0 4 := (xu_22.1.trans ((nr_10.2.2 s0 (by omega) (by omega)).2.2.2.1 h7).2.symm)
        refine r_if_ge (tgt := 247) hx hb ⟨(by omega), (by omega)⟩ dX9_named_240 (by decide) (fun c_25 => ?_) (fun c_25 => ?_)
        · refine lv_iconst (v := iv 2) hx hb dX9_named_247 (by decide) ?_
          refine lv_istore (lv' := [(8, .int (iv 2)), (7, .int (iv 0)), (6, .int (iv 1)), (5, .int (iv 0)), (4, .int (iv 0)), (3, .int (iv (S.1 11 13))), (0, .ref (G.2.2.1 + 11)), (1, .int (iv dd)), (2, .int (iv s0))]) hx hb dX9_named_248 hl (by decide) rfl (fun ls hl => ?_)
          refine lv_iload hx hb dX9_named_250 (lv_at hl 4 rfl) ?_
          refine lv_iload hx hb dX9_named_252 (lv_at hl 0 rfl) ?_
          refine r_icmp_eq (tgt := 264) hx hb ⟨(by omega), (by omega)⟩ ⟨(by omega), (by omega)⟩ dX9_named_254 (by decide) (fun c => absurd c (by omega)) (fun _ => ?_)
          refine lv_aload_n hx hb dX9_named_257 rfl (lv_at hl 6 rfl) ?_
          refine lv_iconst (v := iv 2) hx hb dX9_named_258 (by decide) ?_
          refine lv_iload_n hx hb dX9_named_259 rfl (lv_at hl 5 rfl) ?_
          have lk_26 : (uF S 11 13 ((S.1 11 13) + 1)).1 11 13 = (S.1 11 13) + 1 := uF_on
          have q_27 : 0 ≤ S.1 11 10 ∧ S.1 11 10 ≤ 8 := hI.fi 11 10 9 (by decide) rfl
          have lk_28 : (uF S 11 13 ((S.1 11 13) + 1)).1 11 10 = S.1 11 10 := uF_ne (fun h => absurd h.2 (by decide))
          have q_29 : 0 ≤ S.1 11 11 ∧ S.1 11 11 ≤ 12 := hI.fi 11 11 9 (by decide) rfl
          have lk_30 : (uF S 11 13 ((S.1 11 13) + 1)).1 11 11 = S.1 11 11 := uF_ne (fun h => absurd h.2 (by decide))
          have q_31 : (-2147483648) ≤ S.1 11 12 ∧ S.1 11 12 ≤ 2147483647 := hI.fi 11 12 9 (by decide) rfl
          have lk_32 : (uF S 11 13 ((S.1 11 13) + 1)).1 11 12 = S.1 11 12 := uF_ne (fun h => absurd h.2 (by decide))
          refine sBi (sV (As := [.int (iv 2), .int (iv (S.1 11 13))]) (rest := []) (k := 11) Cx (e_X9_fail l G (uF S 11 13 ((S.1 11 13) + 1)) (k := 2) (tk := S.1 11 13) i_5 (by omega) (by omega)) (c_X9_132 Cx rfl rfl (rmk_ok (by omega) (by decide))) hW (by decide) rfl rfl rfl hl.1 rfl (Nat.le_of_ble_eq_true rfl) dX9_named_260 ⟨Nat.le_of_ble_eq_true rfl, Nat.le_of_ble_eq_true rfl⟩) hL (fun r_35 u_33 H locs k_34 hW hL => ?_)
          obtain ⟨iu_33, fu_33, xu_33⟩ := k_34
          have F_36 := F_2.trans (fu_33.to (p1_sub pl_h))
          have F_37 := F_3.trans (fu_33.to (p1_sub rfl))
          have F_38 := F_4.trans fu_33
          have q_39 : 0 ≤ u_33.1 11 10 ∧ u_33.1 11 10 ≤ 8 := iu_33.fi 11 10 9 (by decide) rfl
          have q_40 : 0 ≤ u_33.1 11 11 ∧ u_33.1 11 11 ≤ 12 := iu_33.fi 11 11 9 (by decide) rfl
          have q_41 : (-2147483648) ≤ u_33.1 11 12 ∧ u_33.1 11 12 ≤ 2147483647 := iu_33.fi 11 12 9 (by decide) rfl
          have q_42 : (-2147483648) ≤ u_33.1 11 13 ∧ u_33.1 11 13 ≤ 2147483647 := iu_33.fi 11 13 9 (by decide) rfl
          have q_43 : 0 ≤ u_33.1 11 14 ∧ u_33.1 11 14 ≤ 7 := iu_33.fi 11 14 9 (by decide) rfl
          have q_44 : 0 ≤ u_33.1 11 9 ∧ u_33.1 11 9 ≤ 128 := iu_33.fi 11 9 9 (by decide) rfl
          exact sZret Cx hr hlk hW hL (by omega) ⟨iu_33, F_36, ⟨⟨⟨(fun i => (xu_33.2.2.2.2.2.2.2 i)), (fun _ => by first | omega | exact xu_33.1.1.2 (by omega))⟩, by omega, by omega, by omega, by omega⟩, (fun h => absurd h (by omega)), (fun _ => (by rw [eN_1 hs0 hs.1 h7 (by omega)]; exact if_neg (fun z => by omega)))⟩⟩ dX9_named_263
        · refine lv_iconst (v := iv 1) hx hb dX9_named_243 (by decide) ?_
          refine lv_goto (tgt := 248) hx hb dX9_named_244 (by decide) ?_
          refine lv_istore (lv' := [(8, .int (iv 1)), (7, .int (iv 0)), (6, .int (iv 1)), (5, .int (iv 0)), (4, .int (iv 0)), (3, .int (iv (S.1 11 13))), (0, .ref (G.2.2.1 + 11)), (1, .int (iv dd)), (2, .int (iv s0))]) hx hb dX9_named_248 hl (by decide) rfl (fun ls hl => ?_)
          refine lv_iload hx hb dX9_named_250 (lv_at hl 4 rfl) ?_
          refine lv_iload hx hb dX9_named_252 (lv_at hl 0 rfl) ?_
          refine r_icmp_eq (tgt := 264) hx hb ⟨(by omega), (by omega)⟩ ⟨(by omega), (by omega)⟩ dX9_named_254 (by decide) (fun c => absurd c (by omega)) (fun _ => ?_)
          refine lv_aload_n hx hb dX9_named_257 rfl (lv_at hl 6 rfl) ?_
          refine lv_iconst (v := iv 2) hx hb dX9_named_258 (by decide) ?_
          refine lv_iload_n hx hb dX9_named_259 rfl (lv_at hl 5 rfl) ?_
          have lk_45 : (uF S 11 13 ((S.1 11 13) + 1)).1 11 13 = (S.1 11 13) + 1 := uF_on
          have q_46 : 0 ≤ S.1 11 10 ∧ S.1 11 10 ≤ 8 := hI.fi 11 10 9 (by decide) rfl
          have lk_47 : (uF S 11 13 ((S.1 11 13) + 1)).1 11 10 = S.1 11 10 := uF_ne (fun h => absurd h.2 (by decide))
          have q_48 : 0 ≤ S.1 11 11 ∧ S.1 11 11 ≤ 12 := hI.fi 11 11 9 (by decide) rfl
          have lk_49 : (uF S 11 13 ((S.1 11 13) + 1)).1 11 11 = S.1 11 11 := uF_ne (fun h => absurd h.2 (by decide))
          have q_50 : (-2147483648) ≤ S.1 11 12 ∧ S.1 11 12 ≤ 2147483647 := hI.fi 11 12 9 (by decide) rfl
          have lk_51 : (uF S 11 13 ((S.1 11 13) + 1)).1 11 12 = S.1 11 12 := uF_ne (fun h => absurd h.2 (by decide))
          refine sBi (sV (As := [.int (iv 2), .int (iv (S.1 11 13))]) (rest := []) (k := 11) Cx (e_X9_fail l G (uF S 11 13 ((S.1 11 13) + 1)) (k := 2) (tk := S.1 11 13) i_5 (by omega) (by omega)) (c_X9_132 Cx rfl rfl (rmk_ok (by omega) (by decide))) hW (by decide) rfl rfl rfl hl.1 rfl (Nat.le_of_ble_eq_true rfl) dX9_named_260 ⟨Nat.le_of_ble_eq_true rfl, Nat.le_of_ble_eq_true rfl⟩) hL (fun r_54 u_52 H locs k_53 hW hL => ?_)
          obtain ⟨iu_52, fu_52, xu_52⟩ := k_53
          have F_55 := F_2.trans (fu_52.to (p1_sub pl_h))
          have F_56 := F_3.trans (fu_52.to (p1_sub rfl))
          have F_57 := F_4.trans fu_52
          have q_58 : 0 ≤ u_52.1 11 10 ∧ u_52.1 11 10 ≤ 8 := iu_52.fi 11 10 9 (by decide) rfl
          have q_59 : 0 ≤ u_52.1 11 11 ∧ u_52.1 11 11 ≤ 12 := iu_52.fi 11 11 9 (by decide) rfl
          have q_60 : (-2147483648) ≤ u_52.1 11 12 ∧ u_52.1 11 12 ≤ 2147483647 := iu_52.fi 11 12 9 (by decide) rfl
          have q_61 : (-2147483648) ≤ u_52.1 11 13 ∧ u_52.1 11 13 ≤ 2147483647 := iu_52.fi 11 13 9 (by decide) rfl
          have q_62 : 0 ≤ u_52.1 11 14 ∧ u_52.1 11 14 ≤ 7 := iu_52.fi 11 14 9 (by decide) rfl
          have q_63 : 0 ≤ u_52.1 11 9 ∧ u_52.1 11 9 ≤ 128 := iu_52.fi 11 9 9 (by decide) rfl
          exact sZret Cx hr hlk hW hL (by omega) ⟨iu_52, F_55, ⟨⟨⟨(fun i => (xu_52.2.2.2.2.2.2.2 i)), (fun _ => by first | omega | exact xu_52.1.1.2 (by omega))⟩, by omega, by omega, by omega, by omega⟩, (fun h => absurd h (by omega)), (fun _ => (by rw [eN_1 hs0 hs.1 h7 (by omega)]; exact if_neg (fun z => by omega)))⟩⟩ dX9_named_263
      · refine lv_iconst (v := iv 0) hx hb dX9_named_230 (by decide) ?_
        refine lv_goto (tgt := 248) hx hb dX9_named_231 (by decide) ?_
        refine lv_istore (lv' := [(8, .int (iv 0)), (7, .int (iv 0)), (6, .int (iv 1)), (5, .int (iv 0)), (4, .int (iv 0)), (3, .int (iv (S.1 11 13))), (0, .ref (G.2.2.1 + 11)), (1, .int (iv dd)), (2, .int (iv s0))]) hx hb dX9_named_248 hl (by decide) rfl (fun ls hl => ?_)
        refine lv_iload hx hb dX9_named_250 (lv_at hl 4 rfl) ?_
        refine lv_iload hx hb dX9_named_252 (lv_at hl 0 rfl) ?_
        refine r_icmp_eq (tgt := 264) hx hb ⟨(by omega), (by omega)⟩ ⟨(by omega), (by omega)⟩ dX9_named_254 (by decide) (fun _ => ?_) (fun c => absurd (by omega) c)
        refine lv_iload hx hb dX9_named_264 (lv_at hl 2 rfl) ?_
        refine r_if_ne (tgt := 276) hx hb ⟨(by omega), (by omega)⟩ dX9_named_266 (by decide) (fun _ => ?_) (fun c => absurd c (by omega))
        refine lv_aload_n hx hb dX9_named_276 rfl (lv_at hl 6 rfl) ?_
        refine lv_aload_n hx hb dX9_named_277 rfl (lv_at hl 6 rfl) ?_
        refine g_X9_37 Cx hW (k := 11) (by decide) rfl (v := .ref (G.2.2.1 + 83)) (rf_11_6 i_5) dX9_named_278 ?_
        refine lv_iload_n hx hb dX9_named_281 rfl (lv_at hl 7 rfl) ?_
        refine rAald Cx hW (k := 83) (by decide) rfl (by decide) (by omega) (by omega) (r2_83f i_5 hqF (by omega) (by omega)) dX9_named_282 ?_
        refine lv_iload_n hx hb dX9_named_283 rfl (lv_at hl 8 rfl) ?_
        refine lv_aload_n hx hb dX9_named_284 rfl (lv_at hl 6 rfl) ?_
        refine lv_iload_n hx hb dX9_named_285 rfl (lv_at hl 8 rfl) ?_
        refine lv_iconst (v := iv 5) hx hb dX9_named_286 (by decide) ?_
        refine sBi (sV (As := [.int (iv s0), .int (iv 5)]) (rest := [.int (iv s0), .ref (G.2.2.1 + qF), .ref (G.2.2.1 + 11)]) (k := 11) Cx (s_X9_fact l G (uF S 11 13 ((S.1 11 13) + 1)) (s0 := s0) (q := 5) i_5 (by omega) (by omega)) (c_X9_120 Cx rfl rfl (rmk_ok (by omega) (by decide))) hW (by decide) rfl rfl rfl hl.1 rfl (Nat.le_of_ble_eq_true rfl) dX9_named_287 ⟨Nat.le_of_ble_eq_true rfl, Nat.le_of_ble_eq_true rfl⟩) hL (fun r_66 u_64 H locs k_65 hW hL => ?_)
        obtain ⟨eu_64, xu_64⟩ := k_65
        rw [eu_64] at hW
        have yu_64 := xu_64.2
        unfold fr8 at yu_64
        refine lv_iload hx hb dX9_named_290 (lv_at hl 3 rfl) ?_
        refine r_iadd hx hb dX9_named_292 ?_
        have hoF := (ho_0 (by omega) (hw4 (by omega)))
        have hv5 := nr_10.v5 hK (by omega) (by omega) h7 hoF
        have hf0 := (nr_10.2.2 s0 (by omega) (by omega)).1
        refine sBv (sV (As := [.ref (G.2.2.1 + qF), .int (iv s0), .int (iv (r_66 + 0))]) (rest := []) (k := 11) Cx (e_X9_putNamed l G (uF S 11 13 ((S.1 11 13) + 1)) (qa := qF) (s0 := s0) (v := r_66 + 0) (N := N) (o := 0) i_5 lqF nr_10 hK (by rw [kv_16.1, kv_16.2.1]; exact hTV) (by omega) (by omega) (by rw [← hf0]; exact h7) hoF (by omega) (fun j a b => ((F_4 qF (p1_no (tau_ne lqF.1 (rfl : tau 11 = .inl 9) (fun h => by cases h)))).2.2.1 j).trans (hz j a b)) (by omega)) (c_X9_245 Cx rfl rfl (rmk_ok (by omega) (by decide))) hW (by decide) rfl rfl rfl hl.1 rfl (Nat.le_of_ble_eq_true rfl) dX9_named_293 ⟨Nat.le_of_ble_eq_true rfl, Nat.le_of_ble_eq_true rfl⟩) hL (fun u_67 H locs k_68 hW hL => ?_)
        obtain ⟨iu_67, fu_67, xu_67⟩ := k_68
        have F_69 := F_2.trans (fu_67.to (p1_sub (pl_t pl_h)))
        have F_70 := F_3.trans (fu_67.to (p1_sub (lr_R lqF)))
        refine lv_iconst (v := iv 1) hx hb dX9_named_296 (by decide) ?_
        have q_71 : 0 ≤ S.1 11 10 ∧ S.1 11 10 ≤ 8 := hI.fi 11 10 9 (by decide) rfl
        have lk_72 : u_67.1 11 10 = S.1 11 10 := ((fu_67 11 (p1_no (tau_ne (rfl : tau 11 = .inl 9) lqF.1 (fun h => by cases h)))).1 10).trans (uF_ne (fun h => absurd h.2 (by decide)))
        have q_73 : 0 ≤ S.1 11 11 ∧ S.1 11 11 ≤ 12 := hI.fi 11 11 9 (by decide) rfl
        have lk_74 : u_67.1 11 11 = S.1 11 11 := ((fu_67 11 (p1_no (tau_ne (rfl : tau 11 = .inl 9) lqF.1 (fun h => by cases h)))).1 11).trans (uF_ne (fun h => absurd h.2 (by decide)))
        have q_75 : (-2147483648) ≤ S.1 11 12 ∧ S.1 11 12 ≤ 2147483647 := hI.fi 11 12 9 (by decide) rfl
        have lk_76 : u_67.1 11 12 = S.1 11 12 := ((fu_67 11 (p1_no (tau_ne (rfl : tau 11 = .inl 9) lqF.1 (fun h => by cases h)))).1 12).trans (uF_ne (fun h => absurd h.2 (by decide)))
        have lk_77 : u_67.1 11 13 = (S.1 11 13) + 1 := ((fu_67 11 (p1_no (tau_ne (rfl : tau 11 = .inl 9) lqF.1 (fun h => by cases h)))).1 13).trans (uF_on)
        have q_78 : 0 ≤ S.1 11 14 ∧ S.1 11 14 ≤ 7 := hI.fi 11 14 9 (by decide) rfl
        have lk_79 : u_67.1 11 14 = S.1 11 14 := ((fu_67 11 (p1_no (tau_ne (rfl : tau 11 = .inl 9) lqF.1 (fun h => by cases h)))).1 14).trans (uF_ne (fun h => absurd h.2 (by decide)))
        have lk_80 : u_67.1 11 9 = S.1 11 9 := ((fu_67 11 (p1_no (tau_ne (rfl : tau 11 = .inl 9) lqF.1 (fun h => by cases h)))).1 9).trans (uF_ne (fun h => absurd h.2 (by decide)))
        have nr_81 : NRc N u_67 := hN.of (by omega) (fun j => (F_70 16 rfl).2.2.1 j) (fun j => (F_70 17 rfl).2.1 j) (fun j => (F_70 18 rfl).2.1 j)
        exact sZret Cx hr hlk hW hL (by omega) ⟨iu_67, F_69, (by have qe : q = pz + 1 := (show q = pz + 1 from (by rcases hgx with g | g; (exact absurd g.1 (by omega)); exact g.2)); exact ⟨⟨⟨(fun i => ((fu_67 11 (p1_no (tau_ne (rfl : tau 11 = .inl 9) lqF.1 (fun h => by cases h)))).2.2.2 i)), (fun h => absurd h (by decide))⟩, by omega, by omega, by omega, by omega⟩, (fun _ => ⟨(eV N s0 0), (by rw [show u_67.1 11 12 = S.1 11 12 by omega]; rw [eN_1 hs0 hs.1 h7 (by omega), if_pos (by omega)]; rw [qe]), xu_67, (vb9_eV hK (by omega) (by omega) h7 hoF.1 hoF.2), ⟨by omega, by omega⟩, (by omega), (by omega), nr_81⟩), (fun h => absurd h (by decide))⟩)⟩ dX9_named_297
    · refine lv_iconst (v := iv 1) hx hb dX9_named_66 (by decide) ?_
      refine lv_goto (tgt := 71) hx hb dX9_named_67 (by decide) ?_
      refine lv_istore (lv' := [(7, .int (iv 1)), (6, .int (iv 1)), (5, .int (iv 0)), (4, .int (iv 0)), (3, .int (iv (S.1 11 13))), (0, .ref (G.2.2.1 + 11)), (1, .int (iv dd)), (2, .int (iv s0))]) hx hb dX9_named_71 hl (by decide) rfl (fun ls hl => ?_)
      refine lv_iconst (v := iv 3) hx hb dX9_named_73 (by decide) ?_
      refine lv_istore (lv' := [(8, .int (iv 3)), (7, .int (iv 1)), (6, .int (iv 1)), (5, .int (iv 0)), (4, .int (iv 0)), (3, .int (iv (S.1 11 13))), (0, .ref (G.2.2.1 + 11)), (1, .int (iv dd)), (2, .int (iv s0))]) hx hb dX9_named_74 hl (by decide) rfl (fun ls hl => ?_)
      refine lv_iload hx hb dX9_named_76 (lv_at hl 0 rfl) ?_
      refine lv_iconst (v := iv 4) hx hb dX9_named_78 (by decide) ?_
      refine r_icmp_gt (tgt := 221) hx hb ⟨(by omega), (by omega)⟩ ⟨(by omega), (by omega)⟩ dX9_named_79 (by decide) (fun c => absurd c (by omega)) (fun _ => ?_)
      refine lv_iload hx hb dX9_named_82 (lv_at hl 1 rfl) ?_
      refine r_if_eq (tgt := 221) hx hb ⟨(by omega), (by omega)⟩ dX9_named_84 (by decide) (fun c => absurd c (by omega)) (fun _ => ?_)
      obtain ⟨qa, gx1, gy1⟩ := ogXs_i (show ogXs k (pz + 1 + 1) = some q from (by rcases hgx with g | g; (exact g.2); (exact absurd (by omega) g.1)))
      have kz1 := hkv.lt rfl (ogX_k gx1); have ql1 := ogX_inc _ _ gx1
      refine lv_aload_n hx hb dX9_named_87 rfl (lv_at hl 6 rfl) ?_
      have q_82 : 0 ≤ S.1 11 14 ∧ S.1 11 14 ≤ 7 := hI.fi 11 14 9 (by decide) rfl
      have lk_83 : (uF S 11 13 ((S.1 11 13) + 1)).1 11 14 = S.1 11 14 := uF_ne (fun h => absurd h.2 (by decide))
      have lk_84 : (uF S 11 13 ((S.1 11 13) + 1)).1 11 13 = (S.1 11 13) + 1 := uF_on
      have q_85 : 0 ≤ S.1 11 10 ∧ S.1 11 10 ≤ 8 := hI.fi 11 10 9 (by decide) rfl
      have lk_86 : (uF S 11 13 ((S.1 11 13) + 1)).1 11 10 = S.1 11 10 := uF_ne (fun h => absurd h.2 (by decide))
      have q_87 : 0 ≤ S.1 11 11 ∧ S.1 11 11 ≤ 12 := hI.fi 11 11 9 (by decide) rfl
      have lk_88 : (uF S 11 13 ((S.1 11 13) + 1)).1 11 11 = S.1 11 11 := uF_ne (fun h => absurd h.2 (by decide))
      have q_89 : (-2147483648) ≤ S.1 11 12 ∧ S.1 11 12 ≤ 2147483647 := hI.fi 11 12 9 (by decide) rfl
      have lk_90 : (uF S 11 13 ((S.1 11 13) + 1)).1 11 12 = S.1 11 12 := uF_ne (fun h => absurd h.2 (by decide))
      refine sBi (sV (As := []) (rest := []) (k := 11) Cx (e_X9_item l G (uF S 11 13 ((S.1 11 13) + 1)) (N := N) (pz := pz + 1 + 1) (q := qa) i_5 nr_10 hK (by rw [kv_16.1, kv_16.2.1]; exact hTV) (by omega) (by omega) (by omega) (by rw [kv_16.1]; exact gx1)) (c_X9_242 Cx rfl rfl (rmk_ok (by omega) (by decide))) hW (by decide) rfl rfl rfl hl.1 rfl (Nat.le_of_ble_eq_true rfl) dX9_named_88 ⟨Nat.le_of_ble_eq_true rfl, Nat.le_of_ble_eq_true rfl⟩) hL (fun r_93 u_91 H locs k_92 hW hL => ?_)
      obtain ⟨iu_91, fu_91, xu_91⟩ := k_92
      have F_94 := F_2.trans (fu_91.to (p1_sub pl_h))
      have F_95 := F_3.trans (fu_91.to (p1_sub rfl))
      have F_96 := F_4.trans fu_91
      refine lv_istore (lv' := [(9, .int (iv r_93)), (8, .int (iv 3)), (7, .int (iv 1)), (6, .int (iv 1)), (5, .int (iv 0)), (4, .int (iv 0)), (3, .int (iv (S.1 11 13))), (0, .ref (G.2.2.1 + 11)), (1, .int (iv dd)), (2, .int (iv s0))]) hx hb dX9_named_91 hl (by decide) rfl (fun ls hl => ?_)
      refine lv_aload_n hx hb dX9_named_93 rfl (lv_at hl 7 rfl) ?_
      have q_97 : 0 ≤ u_91.1 11 14 ∧ u_91.1 11 14 ≤ 7 := iu_91.fi 11 14 9 (by decide) rfl
      refine g_X9_54 Cx hW (k := 11) (by decide) rfl (v := u_91.1 11 14) rfl dX9_named_94 ?_
      refine r_if_eq (tgt := 102) hx hb ⟨(by omega), (by omega)⟩ dX9_named_97 (by decide) (fun c_98 => ?_) (fun c_98 => ?_)
      · obtain ⟨ia1, ib1⟩ := xu_91.2.2.1 (by omega)
        rw [kv_16.1, kv_16.2.1] at ia1
        have bd1 := eI_bd hK (by omega) hTV gx1 ia1
        have qal1 : qa < T := (by rcases gy1 with g | g; (exact hkv.lt g.1 (by decide)); (exact hkv.lt g.2.1 (by decide)))
        refine lv_iinc (v := iv (1)) (lv' := [(4, .int (iv 1)), (9, .int (iv r_93)), (8, .int (iv 3)), (7, .int (iv 1)), (6, .int (iv 1)), (5, .int (iv 0)), (3, .int (iv (S.1 11 13))), (0, .ref (G.2.2.1 + 11)), (1, .int (iv dd)), (2, .int (iv s0))]) hx hb dX9_named_102 hl (k := 5) rfl ((Int32.ofInt_add _ _).symm.trans (congrArg iv (by omega))) (by decide) rfl (fun ls hl => ?_)
        refine lv_aload_n hx hb dX9_named_105 rfl (lv_at hl 7 rfl) ?_
        refine lv_iload_n hx hb dX9_named_106 rfl (lv_at hl 9 rfl) ?_
        refine lv_iload hx hb dX9_named_107 (lv_at hl 2 rfl) ?_
        refine sBi (sV (As := [.int (iv s0), .int (iv 3)]) (rest := []) (k := 11) Cx (s_X9_fact l G u_91 (s0 := s0) (q := 3) iu_91 (by omega) (by omega)) (c_X9_120 Cx rfl rfl (rmk_ok (by omega) (by decide))) hW (by decide) rfl rfl rfl hl.1 rfl (Nat.le_of_ble_eq_true rfl) dX9_named_109 ⟨Nat.le_of_ble_eq_true rfl, Nat.le_of_ble_eq_true rfl⟩) hL (fun r_101 u_99 H locs k_100 hW hL => ?_)
        obtain ⟨eu_99, xu_99⟩ := k_100
        rw [eu_99] at hW
        have yu_99 := xu_99.2
        unfold fr8 at yu_99
        have q_103 : 0 ≤ u_91.1 11 9 ∧ u_91.1 11 9 ≤ 128 := iu_91.fi 11 9 9 (by decide) rfl
        have nr_102 : NRc N u_91 := hN.of (by omega) (fun j => (F_95 16 rfl).2.2.1 j) (fun j => (F_95 17 rfl).2.1 j) (fun j => (F_95 18 rfl).2.1 j)
        have fs1 : r_101 = N.2.2.1 s0 3 := (xu_99.1.trans ((nr_102.2.2 s0 (by omega) (by omega)).2.2.2.1 h7).1.symm)
        refine lv_istore (lv' := [(10, .int (iv r_101)), (4, .int (iv 1)), (9, .int (iv r_93)), (8, .int (iv 3)), (7, .int (iv 1)), (6, .int (iv 1)), (5, .int (iv 0)), (3, .int (iv (S.1 11 13))), (0, .ref (G.2.2.1 + 11)), (1, .int (iv dd)), (2, .int (iv s0))]) hx hb dX9_named_112 hl (by decide) rfl (fun ls hl => ?_)
        have join_177 : ∀ (irA : Int) (ofA : Int) (H : Heap) (locs : List Loc) (ls : Array Slot), (-320000 ≤ ofA ∧ ofA ≤ 320000) → (0 ≤ irA ∧ irA ≤ 1) → (Hd (JN N (N.2.2.1 s0 3) r_93 0 1 ofA irA)) → sW G 294 u_91 H → sL G locs → lv_has ls 11 [(10, .int (iv r_101)), (4, .int (iv 1)), (9, .int (iv r_93)), (8, .int (iv 3)), (7, .int (iv 1)), (6, .int (iv irA)), (5, .int (iv ofA)), (3, .int (iv (S.1 11 13))), (0, .ref (G.2.2.1 + 11)), (1, .int (iv dd)), (2, .int (iv s0))] → W p l e (rmk 3 0 0) s m args below meth c H locs 0 0 (MQ below (sQi G 294 (fun r u => cX G u 0 0 0 ∧ Fr S u (pl [11, qF]) ∧ (EO S u N q r (eN k v N (S.1 11 12) pz) qF))) args s 0 0 (sF G)) (F0 m 177 ls []) := by
          intro irA ofA H locs ls hof hir hj1 hW hL hl
          refine lv_aload_n hx hb dX9_named_177 rfl (lv_at hl 8 rfl) ?_
          refine g_X9_14 Cx hW (k := 11) (by decide) rfl (v := .ref (G.2.2.1 + 12)) (rf_11_0 iu_91) dX9_named_178 ?_
          refine lv_aload_n hx hb dX9_named_181 rfl (lv_at hl 8 rfl) ?_
          have q_104 : (-2147483648) ≤ u_91.1 11 13 ∧ u_91.1 11 13 ≤ 2147483647 := iu_91.fi 11 13 9 (by decide) rfl
          refine g_X9_89 Cx hW (k := 11) (by decide) rfl (v := u_91.1 11 13) rfl dX9_named_182 ?_
          refine sBi (sV (As := [.int (iv (u_91.1 11 13))]) (rest := []) (k := 12) Cx (s_X8_kind l G u_91 (k := u_91.1 11 13) iu_91 (by omega)) (c_X9_95 Cx rfl rfl (rmk_ok (by omega) (by decide))) hW (by decide) rfl rfl rfl hl.1 rfl (Nat.le_of_ble_eq_true rfl) dX9_named_185 ⟨Nat.le_of_ble_eq_true rfl, Nat.le_of_ble_eq_true rfl⟩) hL (fun r_107 u_105 H locs k_106 hW hL => ?_)
          obtain ⟨eu_105, xu_105⟩ := k_106
          rw [eu_105] at hW
          have kv_108 : KV u_91 k v T := hkv.fr F_94 (pl_c (by decide) (pl_c (tau_ne (rfl : tau 12 = .inl 8) lqF.1 (fun h => by cases h)) rfl)) (pl_c (by decide) (pl_c (tau_ne (rfl : tau 13 = .inr (.int, 2001)) lqF.1 (fun h => by cases h)) rfl)) (pl_c (by decide) (pl_c (tau_ne (rfl : tau 15 = .inr (.long, 2001)) lqF.1 (by decide)) rfl))
          have kc1 : r_107 = k qa := (by rw [← kv_108.1]; exact xu_105.1.trans (congrArg (kd _) (by omega)))
          refine lv_bipush (v := iv 16) hx hb dX9_named_188 (by decide) ?_
          refine r_icmp_ne (tgt := 197) hx hb ⟨(by omega), (by omega)⟩ ⟨(by omega), (by omega)⟩ dX9_named_190 (by decide) (fun c_109 => ?_) (fun c_109 => ?_)
          · refine lv_iconst (v := iv 0) hx hb dX9_named_197 (by decide) ?_
            refine lv_istore (lv' := [(7, .int (iv 0)), (10, .int (iv r_101)), (4, .int (iv 1)), (9, .int (iv r_93)), (8, .int (iv 3)), (6, .int (iv irA)), (5, .int (iv ofA)), (3, .int (iv (S.1 11 13))), (0, .ref (G.2.2.1 + 11)), (1, .int (iv dd)), (2, .int (iv s0))]) hx hb dX9_named_198 hl (by decide) rfl (fun ls hl => ?_)
            refine lv_iload hx hb dX9_named_200 (lv_at hl 0 rfl) ?_
            refine r_if_ne (tgt := 215) hx hb ⟨(by omega), (by omega)⟩ dX9_named_202 (by decide) (fun c => absurd (by omega) c) (fun _ => ?_)
            refine lv_aload_n hx hb dX9_named_205 rfl (lv_at hl 8 rfl) ?_
            refine lv_dup hx hb dX9_named_206 rfl ?_
            refine g_X9_89 Cx hW (k := 11) (by decide) rfl (v := u_91.1 11 13) rfl dX9_named_207 ?_
            refine lv_iconst (v := iv 1) hx hb dX9_named_210 (by decide) ?_
            refine r_iadd hx hb dX9_named_211 ?_
            refine p_X9_89 Cx hW hL (k := 11) (by decide) rfl dX9_named_212 (fun H locs hW hL => ?_)
            have F_110 : Fr S (uF u_91 11 13 ((u_91.1 11 13) + 1)) (pl [11, qF]) := F_94.F pl_h
            have F_111 : Fr S (uF u_91 11 13 ((u_91.1 11 13) + 1)) pR3 := F_95.F rfl
            have F_112 : Fr S (uF u_91 11 13 ((u_91.1 11 13) + 1)) (p1 11) := F_96.F rfl
            have i_113 : cX G (uF u_91 11 13 ((u_91.1 11 13) + 1)) 0 0 0 := iu_91.F rfl rfl (show (-2147483648) ≤ (u_91.1 11 13) + 1 ∧ (u_91.1 11 13) + 1 ≤ 2147483647 from ⟨by omega, by omega⟩)
            refine lv_iinc (v := iv (4)) (lv' := [(8, .int (iv 4)), (7, .int (iv 0)), (10, .int (iv r_101)), (4, .int (iv 1)), (9, .int (iv r_93)), (6, .int (iv irA)), (5, .int (iv ofA)), (3, .int (iv (S.1 11 13))), (0, .ref (G.2.2.1 + 11)), (1, .int (iv dd)), (2, .int (iv s0))]) hx hb dX9_named_215 hl (k := 4) rfl ((Int32.ofInt_add _ _).symm.trans (congrArg iv (by omega))) (by decide) rfl (fun ls hl => ?_)
            refine lv_goto (tgt := 76) hx hb dX9_named_218 (by decide) ?_
            refine lv_iload hx hb dX9_named_76 (lv_at hl 0 rfl) ?_
            refine lv_iconst (v := iv 4) hx hb dX9_named_78 (by decide) ?_
            refine r_icmp_gt (tgt := 221) hx hb ⟨(by omega), (by omega)⟩ ⟨(by omega), (by omega)⟩ dX9_named_79 (by decide) (fun c => absurd c (by omega)) (fun _ => ?_)
            refine lv_iload hx hb dX9_named_82 (lv_at hl 1 rfl) ?_
            refine r_if_eq (tgt := 221) hx hb ⟨(by omega), (by omega)⟩ dX9_named_84 (by decide) (fun _ => ?_) (fun c => absurd (by omega) c)
            refine lv_aload_n hx hb dX9_named_221 rfl (lv_at hl 8 rfl) ?_
            refine lv_iload_n hx hb dX9_named_222 rfl (lv_at hl 10 rfl) ?_
            refine lv_iconst (v := iv 3) hx hb dX9_named_223 (by decide) ?_
            refine sBi (sV (As := [.int (iv s0), .int (iv 3)]) (rest := []) (k := 11) Cx (s_X9_fact l G (uF u_91 11 13 ((u_91.1 11 13) + 1)) (s0 := s0) (q := 3) i_113 (by omega) (by omega)) (c_X9_120 Cx rfl rfl (rmk_ok (by omega) (by decide))) hW (by decide) rfl rfl rfl hl.1 rfl (Nat.le_of_ble_eq_true rfl) dX9_named_224 ⟨Nat.le_of_ble_eq_true rfl, Nat.le_of_ble_eq_true rfl⟩) hL (fun r_116 u_114 H locs k_115 hW hL => ?_)
            obtain ⟨eu_114, xu_114⟩ := k_115
            rw [eu_114] at hW
            have yu_114 := xu_114.2
            unfold fr8 at yu_114
            have lk_118 : (uF u_91 11 13 ((u_91.1 11 13) + 1)).1 11 9 = u_91.1 11 9 := uF_ne (fun h => absurd h.2 (by decide))
            have nr_117 : NRc N (uF u_91 11 13 ((u_91.1 11 13) + 1)) := hN.of (by omega) (fun j => (F_111 16 rfl).2.2.1 j) (fun j => (F_111 17 rfl).2.1 j) (fun j => (F_111 18 rfl).2.1 j)
            have e3 : r_116 = N.2.2.1 s0 3 := (xu_114.1.trans ((nr_117.2.2 s0 (by omega) (by omega)).2.2.2.1 h7).1.symm)
            refine r_if_ge (tgt := 234) hx hb ⟨(by omega), (by omega)⟩ dX9_named_227 (by decide) (fun c_119 => ?_) (fun c_119 => ?_)
            · refine lv_aload_n hx hb dX9_named_234 rfl (lv_at hl 8 rfl) ?_
              refine lv_iload_n hx hb dX9_named_235 rfl (lv_at hl 10 rfl) ?_
              refine lv_iconst (v := iv 4) hx hb dX9_named_236 (by decide) ?_
              refine sBi (sV (As := [.int (iv s0), .int (iv 4)]) (rest := []) (k := 11) Cx (s_X9_fact l G (uF u_91 11 13 ((u_91.1 11 13) + 1)) (s0 := s0) (q := 4) i_113 (by omega) (by omega)) (c_X9_120 Cx rfl rfl (rmk_ok (by omega) (by decide))) hW (by decide) rfl rfl rfl hl.1 rfl (Nat.le_of_ble_eq_true rfl) dX9_named_237 ⟨Nat.le_of_ble_eq_true rfl, Nat.le_of_ble_eq_true rfl⟩) hL (fun r_122 u_120 H locs k_121 hW hL => ?_)
              obtain ⟨eu_120, xu_120⟩ := k_121
              rw [eu_120] at hW
              have yu_120 := xu_120.2
              unfold fr8 at yu_120
              have e4 : r_122 = N.2.2.1 s0 4 := (xu_120.1.trans ((nr_117.2.2 s0 (by omega) (by omega)).2.2.2.1 h7).2.symm)
              refine r_if_ge (tgt := 247) hx hb ⟨(by omega), (by omega)⟩ dX9_named_240 (by decide) (fun c_123 => ?_) (fun c_123 => ?_)
              · refine lv_iconst (v := iv 2) hx hb dX9_named_247 (by decide) ?_
                refine lv_istore (lv' := [(8, .int (iv 2)), (7, .int (iv 0)), (10, .int (iv r_101)), (4, .int (iv 1)), (9, .int (iv r_93)), (6, .int (iv irA)), (5, .int (iv ofA)), (3, .int (iv (S.1 11 13))), (0, .ref (G.2.2.1 + 11)), (1, .int (iv dd)), (2, .int (iv s0))]) hx hb dX9_named_248 hl (by decide) rfl (fun ls hl => ?_)
                refine lv_iload hx hb dX9_named_250 (lv_at hl 3 rfl) ?_
                refine lv_iload hx hb dX9_named_252 (lv_at hl 0 rfl) ?_
                refine r_icmp_eq (tgt := 264) hx hb ⟨(by omega), (by omega)⟩ ⟨(by omega), (by omega)⟩ dX9_named_254 (by decide) (fun c => absurd c (by omega)) (fun _ => ?_)
                refine lv_aload_n hx hb dX9_named_257 rfl (lv_at hl 8 rfl) ?_
                refine lv_iconst (v := iv 2) hx hb dX9_named_258 (by decide) ?_
                refine lv_iload_n hx hb dX9_named_259 rfl (lv_at hl 7 rfl) ?_
                have lk_124 : (uF u_91 11 13 ((u_91.1 11 13) + 1)).1 11 13 = (u_91.1 11 13) + 1 := uF_on
                have q_125 : 0 ≤ u_91.1 11 10 ∧ u_91.1 11 10 ≤ 8 := iu_91.fi 11 10 9 (by decide) rfl
                have lk_126 : (uF u_91 11 13 ((u_91.1 11 13) + 1)).1 11 10 = u_91.1 11 10 := uF_ne (fun h => absurd h.2 (by decide))
                have q_127 : 0 ≤ u_91.1 11 11 ∧ u_91.1 11 11 ≤ 12 := iu_91.fi 11 11 9 (by decide) rfl
                have lk_128 : (uF u_91 11 13 ((u_91.1 11 13) + 1)).1 11 11 = u_91.1 11 11 := uF_ne (fun h => absurd h.2 (by decide))
                have q_129 : (-2147483648) ≤ u_91.1 11 12 ∧ u_91.1 11 12 ≤ 2147483647 := iu_91.fi 11 12 9 (by decide) rfl
                have lk_130 : (uF u_91 11 13 ((u_91.1 11 13) + 1)).1 11 12 = u_91.1 11 12 := uF_ne (fun h => absurd h.2 (by decide))
                refine sBi (sV (As := [.int (iv 2), .int (iv (S.1 11 13))]) (rest := []) (k := 11) Cx (e_X9_fail l G (uF u_91 11 13 ((u_91.1 11 13) + 1)) (k := 2) (tk := S.1 11 13) i_113 (by omega) (by omega)) (c_X9_132 Cx rfl rfl (rmk_ok (by omega) (by decide))) hW (by decide) rfl rfl rfl hl.1 rfl (Nat.le_of_ble_eq_true rfl) dX9_named_260 ⟨Nat.le_of_ble_eq_true rfl, Nat.le_of_ble_eq_true rfl⟩) hL (fun r_133 u_131 H locs k_132 hW hL => ?_)
                obtain ⟨iu_131, fu_131, xu_131⟩ := k_132
                have F_134 := F_110.trans (fu_131.to (p1_sub pl_h))
                have F_135 := F_111.trans (fu_131.to (p1_sub rfl))
                have F_136 := F_112.trans fu_131
                have q_137 : 0 ≤ u_131.1 11 10 ∧ u_131.1 11 10 ≤ 8 := iu_131.fi 11 10 9 (by decide) rfl
                have q_138 : 0 ≤ u_131.1 11 11 ∧ u_131.1 11 11 ≤ 12 := iu_131.fi 11 11 9 (by decide) rfl
                have q_139 : (-2147483648) ≤ u_131.1 11 12 ∧ u_131.1 11 12 ≤ 2147483647 := iu_131.fi 11 12 9 (by decide) rfl
                have q_140 : (-2147483648) ≤ u_131.1 11 13 ∧ u_131.1 11 13 ≤ 2147483647 := iu_131.fi 11 13 9 (by decide) rfl
                have q_141 : 0 ≤ u_131.1 11 14 ∧ u_131.1 11 14 ≤ 7 := iu_131.fi 11 14 9 (by decide) rfl
                have q_142 : 0 ≤ u_131.1 11 9 ∧ u_131.1 11 9 ≤ 128 := iu_131.fi 11 9 9 (by decide) rfl
                exact sZret Cx hr hlk hW hL (by omega) ⟨iu_131, F_134, ⟨⟨⟨(fun i => ((xu_131.2.2.2.2.2.2.2 i).trans (xu_91.1.1 i))), (fun _ => by first | omega | exact xu_131.1.1.2 (by omega))⟩, by omega, by omega, by omega, by omega⟩, (fun h => absurd h (by omega)), (fun _ => (by rw [eN_3 hs0 hs.1 h7 (by omega) ia1 (by omega)]; exact if_neg (fun z => by first | (have z1 := z.1; have z2 := z.2.1; omega) | (exact ((hj1.2 z.1).2.2.2 (by omega)) ⟨rfl, z.2.2⟩))))⟩⟩ dX9_named_263
              · refine lv_iconst (v := iv 1) hx hb dX9_named_243 (by decide) ?_
                refine lv_goto (tgt := 248) hx hb dX9_named_244 (by decide) ?_
                refine lv_istore (lv' := [(8, .int (iv 1)), (7, .int (iv 0)), (10, .int (iv r_101)), (4, .int (iv 1)), (9, .int (iv r_93)), (6, .int (iv irA)), (5, .int (iv ofA)), (3, .int (iv (S.1 11 13))), (0, .ref (G.2.2.1 + 11)), (1, .int (iv dd)), (2, .int (iv s0))]) hx hb dX9_named_248 hl (by decide) rfl (fun ls hl => ?_)
                refine lv_iload hx hb dX9_named_250 (lv_at hl 3 rfl) ?_
                refine lv_iload hx hb dX9_named_252 (lv_at hl 0 rfl) ?_
                refine r_icmp_eq (tgt := 264) hx hb ⟨(by omega), (by omega)⟩ ⟨(by omega), (by omega)⟩ dX9_named_254 (by decide) (fun _ => ?_) (fun c => absurd (by omega) c)
                refine lv_iload hx hb dX9_named_264 (lv_at hl 5 rfl) ?_
                refine r_if_ne (tgt := 276) hx hb ⟨(by omega), (by omega)⟩ dX9_named_266 (by decide) (fun c_143 => ?_) (fun c_143 => ?_)
                · refine lv_aload_n hx hb dX9_named_276 rfl (lv_at hl 8 rfl) ?_
                  refine lv_aload_n hx hb dX9_named_277 rfl (lv_at hl 8 rfl) ?_
                  refine g_X9_37 Cx hW (k := 11) (by decide) rfl (v := .ref (G.2.2.1 + 83)) (rf_11_6 i_113) dX9_named_278 ?_
                  refine lv_iload_n hx hb dX9_named_281 rfl (lv_at hl 9 rfl) ?_
                  refine rAald Cx hW (k := 83) (by decide) rfl (by decide) (by omega) (by omega) (r2_83f i_113 hqF (by omega) (by omega)) dX9_named_282 ?_
                  refine lv_iload_n hx hb dX9_named_283 rfl (lv_at hl 10 rfl) ?_
                  refine lv_aload_n hx hb dX9_named_284 rfl (lv_at hl 8 rfl) ?_
                  refine lv_iload_n hx hb dX9_named_285 rfl (lv_at hl 10 rfl) ?_
                  refine lv_iconst (v := iv 5) hx hb dX9_named_286 (by decide) ?_
                  refine sBi (sV (As := [.int (iv s0), .int (iv 5)]) (rest := [.int (iv s0), .ref (G.2.2.1 + qF), .ref (G.2.2.1 + 11)]) (k := 11) Cx (s_X9_fact l G (uF u_91 11 13 ((u_91.1 11 13) + 1)) (s0 := s0) (q := 5) i_113 (by omega) (by omega)) (c_X9_120 Cx rfl rfl (rmk_ok (by omega) (by decide))) hW (by decide) rfl rfl rfl hl.1 rfl (Nat.le_of_ble_eq_true rfl) dX9_named_287 ⟨Nat.le_of_ble_eq_true rfl, Nat.le_of_ble_eq_true rfl⟩) hL (fun r_146 u_144 H locs k_145 hW hL => ?_)
                  obtain ⟨eu_144, xu_144⟩ := k_145
                  rw [eu_144] at hW
                  have yu_144 := xu_144.2
                  unfold fr8 at yu_144
                  refine lv_iload hx hb dX9_named_290 (lv_at hl 6 rfl) ?_
                  refine r_iadd hx hb dX9_named_292 ?_
                  have hoF := (ho_1 (o := ofA) (by omega) (by omega) ((hj1.2 (by omega)).2.2.1 (by omega)).2 (by have q := (hj1.2 (by omega)).1; rw [Int.zero_mul] at q; omega))
                  have hv5 := nr_117.v5 hK (by omega) (by omega) h7 hoF
                  have hf0 := (nr_117.2.2 s0 (by omega) (by omega)).1
                  have kv_147 : KV (uF u_91 11 13 ((u_91.1 11 13) + 1)) k v T := hkv.fr F_110 (pl_c (by decide) (pl_c (tau_ne (rfl : tau 12 = .inl 8) lqF.1 (fun h => by cases h)) rfl)) (pl_c (by decide) (pl_c (tau_ne (rfl : tau 13 = .inr (.int, 2001)) lqF.1 (fun h => by cases h)) rfl)) (pl_c (by decide) (pl_c (tau_ne (rfl : tau 15 = .inr (.long, 2001)) lqF.1 (by decide)) rfl))
                  refine sBv (sV (As := [.ref (G.2.2.1 + qF), .int (iv s0), .int (iv (r_146 + ofA))]) (rest := []) (k := 11) Cx (e_X9_putNamed l G (uF u_91 11 13 ((u_91.1 11 13) + 1)) (qa := qF) (s0 := s0) (v := r_146 + ofA) (N := N) (o := ofA) i_113 lqF nr_117 hK (by rw [kv_147.1, kv_147.2.1]; exact hTV) (by omega) (by omega) (by rw [← hf0]; exact h7) hoF (by omega) (fun j a b => ((F_112 qF (p1_no (tau_ne lqF.1 (rfl : tau 11 = .inl 9) (fun h => by cases h)))).2.2.1 j).trans (hz j a b)) (by omega)) (c_X9_245 Cx rfl rfl (rmk_ok (by omega) (by decide))) hW (by decide) rfl rfl rfl hl.1 rfl (Nat.le_of_ble_eq_true rfl) dX9_named_293 ⟨Nat.le_of_ble_eq_true rfl, Nat.le_of_ble_eq_true rfl⟩) hL (fun u_148 H locs k_149 hW hL => ?_)
                  obtain ⟨iu_148, fu_148, xu_148⟩ := k_149
                  have F_150 := F_110.trans (fu_148.to (p1_sub (pl_t pl_h)))
                  have F_151 := F_111.trans (fu_148.to (p1_sub (lr_R lqF)))
                  refine lv_iconst (v := iv 1) hx hb dX9_named_296 (by decide) ?_
                  have q_152 : 0 ≤ u_91.1 11 10 ∧ u_91.1 11 10 ≤ 8 := iu_91.fi 11 10 9 (by decide) rfl
                  have lk_153 : u_148.1 11 10 = u_91.1 11 10 := ((fu_148 11 (p1_no (tau_ne (rfl : tau 11 = .inl 9) lqF.1 (fun h => by cases h)))).1 10).trans (uF_ne (fun h => absurd h.2 (by decide)))
                  have q_154 : 0 ≤ u_91.1 11 11 ∧ u_91.1 11 11 ≤ 12 := iu_91.fi 11 11 9 (by decide) rfl
                  have lk_155 : u_148.1 11 11 = u_91.1 11 11 := ((fu_148 11 (p1_no (tau_ne (rfl : tau 11 = .inl 9) lqF.1 (fun h => by cases h)))).1 11).trans (uF_ne (fun h => absurd h.2 (by decide)))
                  have q_156 : (-2147483648) ≤ u_91.1 11 12 ∧ u_91.1 11 12 ≤ 2147483647 := iu_91.fi 11 12 9 (by decide) rfl
                  have lk_157 : u_148.1 11 12 = u_91.1 11 12 := ((fu_148 11 (p1_no (tau_ne (rfl : tau 11 = .inl 9) lqF.1 (fun h => by cases h)))).1 12).trans (uF_ne (fun h => absurd h.2 (by decide)))
                  have lk_158 : u_148.1 11 13 = (u_91.1 11 13) + 1 := ((fu_148 11 (p1_no (tau_ne (rfl : tau 11 = .inl 9) lqF.1 (fun h => by cases h)))).1 13).trans (uF_on)
                  have lk_159 : u_148.1 11 14 = u_91.1 11 14 := ((fu_148 11 (p1_no (tau_ne (rfl : tau 11 = .inl 9) lqF.1 (fun h => by cases h)))).1 14).trans (uF_ne (fun h => absurd h.2 (by decide)))
                  have lk_160 : u_148.1 11 9 = u_91.1 11 9 := ((fu_148 11 (p1_no (tau_ne (rfl : tau 11 = .inl 9) lqF.1 (fun h => by cases h)))).1 9).trans (uF_ne (fun h => absurd h.2 (by decide)))
                  have nr_161 : NRc N u_148 := hN.of (by omega) (fun j => (F_151 16 rfl).2.2.1 j) (fun j => (F_151 17 rfl).2.1 j) (fun j => (F_151 18 rfl).2.1 j)
                  exact sZret Cx hr hlk hW hL (by omega) ⟨iu_148, F_150, (by have qe : q = qa + 1 := (by rcases gy1 with g | g; (exact absurd g.1 (by omega)); exact g.2.2); exact ⟨⟨⟨(fun i => (((fu_148 11 (p1_no (tau_ne (rfl : tau 11 = .inl 9) lqF.1 (fun h => by cases h)))).2.2.2 i).trans (xu_91.1.1 i))), (fun h => absurd h (by decide))⟩, by omega, by omega, by omega, by omega⟩, (fun _ => ⟨(eV N s0 ofA), (by rw [show u_148.1 11 12 = S.1 11 12 by omega]; rw [eN_3 hs0 hs.1 h7 (by omega) ia1 (by omega), if_pos ⟨by omega, by omega, ((hj1.2 (by omega)).2.2.1 (by omega)).2⟩]; rw [qe, show ofA = r_93 - N.2.2.1 (N.2.2.1 s0 3) 1 from (by have q := (hj1.2 (by omega)).1; rw [Int.zero_mul] at q; omega)]), xu_148, (vb9_eV hK (by omega) (by omega) h7 hoF.1 hoF.2), ⟨by omega, by omega⟩, (by omega), (by omega), nr_161⟩), (fun h => absurd h (by decide))⟩)⟩ dX9_named_297
                · refine lv_aload_n hx hb dX9_named_269 rfl (lv_at hl 8 rfl) ?_
                  refine lv_iconst (v := iv 5) hx hb dX9_named_270 (by decide) ?_
                  refine lv_iload_n hx hb dX9_named_271 rfl (lv_at hl 7 rfl) ?_
                  have lk_162 : (uF u_91 11 13 ((u_91.1 11 13) + 1)).1 11 13 = (u_91.1 11 13) + 1 := uF_on
                  have q_163 : 0 ≤ u_91.1 11 10 ∧ u_91.1 11 10 ≤ 8 := iu_91.fi 11 10 9 (by decide) rfl
                  have lk_164 : (uF u_91 11 13 ((u_91.1 11 13) + 1)).1 11 10 = u_91.1 11 10 := uF_ne (fun h => absurd h.2 (by decide))
                  have q_165 : 0 ≤ u_91.1 11 11 ∧ u_91.1 11 11 ≤ 12 := iu_91.fi 11 11 9 (by decide) rfl
                  have lk_166 : (uF u_91 11 13 ((u_91.1 11 13) + 1)).1 11 11 = u_91.1 11 11 := uF_ne (fun h => absurd h.2 (by decide))
                  have q_167 : (-2147483648) ≤ u_91.1 11 12 ∧ u_91.1 11 12 ≤ 2147483647 := iu_91.fi 11 12 9 (by decide) rfl
                  have lk_168 : (uF u_91 11 13 ((u_91.1 11 13) + 1)).1 11 12 = u_91.1 11 12 := uF_ne (fun h => absurd h.2 (by decide))
                  refine sBi (sV (As := [.int (iv 5), .int (iv (S.1 11 13))]) (rest := []) (k := 11) Cx (e_X9_fail l G (uF u_91 11 13 ((u_91.1 11 13) + 1)) (k := 5) (tk := S.1 11 13) i_113 (by omega) (by omega)) (c_X9_132 Cx rfl rfl (rmk_ok (by omega) (by decide))) hW (by decide) rfl rfl rfl hl.1 rfl (Nat.le_of_ble_eq_true rfl) dX9_named_272 ⟨Nat.le_of_ble_eq_true rfl, Nat.le_of_ble_eq_true rfl⟩) hL (fun r_171 u_169 H locs k_170 hW hL => ?_)
                  obtain ⟨iu_169, fu_169, xu_169⟩ := k_170
                  have F_172 := F_110.trans (fu_169.to (p1_sub pl_h))
                  have F_173 := F_111.trans (fu_169.to (p1_sub rfl))
                  have F_174 := F_112.trans fu_169
                  have q_175 : 0 ≤ u_169.1 11 10 ∧ u_169.1 11 10 ≤ 8 := iu_169.fi 11 10 9 (by decide) rfl
                  have q_176 : 0 ≤ u_169.1 11 11 ∧ u_169.1 11 11 ≤ 12 := iu_169.fi 11 11 9 (by decide) rfl
                  have q_177 : (-2147483648) ≤ u_169.1 11 12 ∧ u_169.1 11 12 ≤ 2147483647 := iu_169.fi 11 12 9 (by decide) rfl
                  have q_178 : (-2147483648) ≤ u_169.1 11 13 ∧ u_169.1 11 13 ≤ 2147483647 := iu_169.fi 11 13 9 (by decide) rfl
                  have q_179 : 0 ≤ u_169.1 11 14 ∧ u_169.1 11 14 ≤ 7 := iu_169.fi 11 14 9 (by decide) rfl
                  have q_180 : 0 ≤ u_169.1 11 9 ∧ u_169.1 11 9 ≤ 128 := iu_169.fi 11 9 9 (by decide) rfl
                  exact sZret Cx hr hlk hW hL (by omega) ⟨iu_169, F_172, ⟨⟨⟨(fun i => ((xu_169.2.2.2.2.2.2.2 i).trans (xu_91.1.1 i))), (fun _ => by first | omega | exact xu_169.1.1.2 (by omega))⟩, by omega, by omega, by omega, by omega⟩, (fun h => absurd h (by omega)), (fun _ => (by rw [eN_3 hs0 hs.1 h7 (by omega) ia1 (by omega)]; exact if_neg (fun z => by first | (have z1 := z.1; have z2 := z.2.1; omega) | (exact ((hj1.2 z.1).2.2.2 (by omega)) ⟨rfl, z.2.2⟩))))⟩⟩ dX9_named_275
            · refine lv_iconst (v := iv 0) hx hb dX9_named_230 (by decide) ?_
              refine lv_goto (tgt := 248) hx hb dX9_named_231 (by decide) ?_
              refine lv_istore (lv' := [(8, .int (iv 0)), (7, .int (iv 0)), (10, .int (iv r_101)), (4, .int (iv 1)), (9, .int (iv r_93)), (6, .int (iv irA)), (5, .int (iv ofA)), (3, .int (iv (S.1 11 13))), (0, .ref (G.2.2.1 + 11)), (1, .int (iv dd)), (2, .int (iv s0))]) hx hb dX9_named_248 hl (by decide) rfl (fun ls hl => ?_)
              refine lv_iload hx hb dX9_named_250 (lv_at hl 3 rfl) ?_
              refine lv_iload hx hb dX9_named_252 (lv_at hl 0 rfl) ?_
              refine r_icmp_eq (tgt := 264) hx hb ⟨(by omega), (by omega)⟩ ⟨(by omega), (by omega)⟩ dX9_named_254 (by decide) (fun c => absurd c (by omega)) (fun _ => ?_)
              refine lv_aload_n hx hb dX9_named_257 rfl (lv_at hl 8 rfl) ?_
              refine lv_iconst (v := iv 2) hx hb dX9_named_258 (by decide) ?_
              refine lv_iload_n hx hb dX9_named_259 rfl (lv_at hl 7 rfl) ?_
              have lk_181 : (uF u_91 11 13 ((u_91.1 11 13) + 1)).1 11 13 = (u_91.1 11 13) + 1 := uF_on
              have q_182 : 0 ≤ u_91.1 11 10 ∧ u_91.1 11 10 ≤ 8 := iu_91.fi 11 10 9 (by decide) rfl
              have lk_183 : (uF u_91 11 13 ((u_91.1 11 13) + 1)).1 11 10 = u_91.1 11 10 := uF_ne (fun h => absurd h.2 (by decide))
              have q_184 : 0 ≤ u_91.1 11 11 ∧ u_91.1 11 11 ≤ 12 := iu_91.fi 11 11 9 (by decide) rfl
              have lk_185 : (uF u_91 11 13 ((u_91.1 11 13) + 1)).1 11 11 = u_91.1 11 11 := uF_ne (fun h => absurd h.2 (by decide))
              have q_186 : (-2147483648) ≤ u_91.1 11 12 ∧ u_91.1 11 12 ≤ 2147483647 := iu_91.fi 11 12 9 (by decide) rfl
              have lk_187 : (uF u_91 11 13 ((u_91.1 11 13) + 1)).1 11 12 = u_91.1 11 12 := uF_ne (fun h => absurd h.2 (by decide))
              refine sBi (sV (As := [.int (iv 2), .int (iv (S.1 11 13))]) (rest := []) (k := 11) Cx (e_X9_fail l G (uF u_91 11 13 ((u_91.1 11 13) + 1)) (k := 2) (tk := S.1 11 13) i_113 (by omega) (by omega)) (c_X9_132 Cx rfl rfl (rmk_ok (by omega) (by decide))) hW (by decide) rfl rfl rfl hl.1 rfl (Nat.le_of_ble_eq_true rfl) dX9_named_260 ⟨Nat.le_of_ble_eq_true rfl, Nat.le_of_ble_eq_true rfl⟩) hL (fun r_190 u_188 H locs k_189 hW hL => ?_)
              obtain ⟨iu_188, fu_188, xu_188⟩ := k_189
              have F_191 := F_110.trans (fu_188.to (p1_sub pl_h))
              have F_192 := F_111.trans (fu_188.to (p1_sub rfl))
              have F_193 := F_112.trans fu_188
              have q_194 : 0 ≤ u_188.1 11 10 ∧ u_188.1 11 10 ≤ 8 := iu_188.fi 11 10 9 (by decide) rfl
              have q_195 : 0 ≤ u_188.1 11 11 ∧ u_188.1 11 11 ≤ 12 := iu_188.fi 11 11 9 (by decide) rfl
              have q_196 : (-2147483648) ≤ u_188.1 11 12 ∧ u_188.1 11 12 ≤ 2147483647 := iu_188.fi 11 12 9 (by decide) rfl
              have q_197 : (-2147483648) ≤ u_188.1 11 13 ∧ u_188.1 11 13 ≤ 2147483647 := iu_188.fi 11 13 9 (by decide) rfl
              have q_198 : 0 ≤ u_188.1 11 14 ∧ u_188.1 11 14 ≤ 7 := iu_188.fi 11 14 9 (by decide) rfl
              have q_199 : 0 ≤ u_188.1 11 9 ∧ u_188.1 11 9 ≤ 128 := iu_188.fi 11 9 9 (by decide) rfl
              exact sZret Cx hr hlk hW hL (by omega) ⟨iu_188, F_191, ⟨⟨⟨(fun i => ((xu_188.2.2.2.2.2.2.2 i).trans (xu_91.1.1 i))), (fun _ => by first | omega | exact xu_188.1.1.2 (by omega))⟩, by omega, by omega, by omega, by omega⟩, (fun h => absurd h (by omega)), (fun _ => (by rw [eN_3 hs0 hs.1 h7 (by omega) ia1 (by omega)]; exact if_neg (fun z => by first | (have z1 := z.1; have z2 := z.2.1; omega) | (exact ((hj1.2 z.1).2.2.2 (by omega)) ⟨rfl, z.2.2⟩))))⟩⟩ dX9_named_263
          · refine lv_iconst (v := iv 1) hx hb dX9_named_193 (by decide) ?_
            refine lv_goto (tgt := 198) hx hb dX9_named_194 (by decide) ?_
            refine lv_istore (lv' := [(7, .int (iv 1)), (10, .int (iv r_101)), (4, .int (iv 1)), (9, .int (iv r_93)), (8, .int (iv 3)), (6, .int (iv irA)), (5, .int (iv ofA)), (3, .int (iv (S.1 11 13))), (0, .ref (G.2.2.1 + 11)), (1, .int (iv dd)), (2, .int (iv s0))]) hx hb dX9_named_198 hl (by decide) rfl (fun ls hl => ?_)
            refine lv_iload hx hb dX9_named_200 (lv_at hl 0 rfl) ?_
            refine r_if_ne (tgt := 215) hx hb ⟨(by omega), (by omega)⟩ dX9_named_202 (by decide) (fun _ => ?_) (fun c => absurd c (by omega))
            refine lv_iinc (v := iv (4)) (lv' := [(8, .int (iv 4)), (7, .int (iv 1)), (10, .int (iv r_101)), (4, .int (iv 1)), (9, .int (iv r_93)), (6, .int (iv irA)), (5, .int (iv ofA)), (3, .int (iv (S.1 11 13))), (0, .ref (G.2.2.1 + 11)), (1, .int (iv dd)), (2, .int (iv s0))]) hx hb dX9_named_215 hl (k := 4) rfl ((Int32.ofInt_add _ _).symm.trans (congrArg iv (by omega))) (by decide) rfl (fun ls hl => ?_)
            refine lv_goto (tgt := 76) hx hb dX9_named_218 (by decide) ?_
            refine lv_iload hx hb dX9_named_76 (lv_at hl 0 rfl) ?_
            refine lv_iconst (v := iv 4) hx hb dX9_named_78 (by decide) ?_
            refine r_icmp_gt (tgt := 221) hx hb ⟨(by omega), (by omega)⟩ ⟨(by omega), (by omega)⟩ dX9_named_79 (by decide) (fun c => absurd c (by omega)) (fun _ => ?_)
            refine lv_iload hx hb dX9_named_82 (lv_at hl 1 rfl) ?_
            refine r_if_eq (tgt := 221) hx hb ⟨(by omega), (by omega)⟩ dX9_named_84 (by decide) (fun c => absurd c (by omega)) (fun _ => ?_)
            obtain ⟨qb, gx2, gy2⟩ : ∃ b, ogX k (qa + 1) = some b ∧ k b = 18 ∧ q = b + 1 := (by rcases gy1 with g | g; (obtain ⟨b, g1, g2, g3⟩ := g.2; exact ⟨b, g1, g2, g3⟩); (exact absurd (by omega) g.1))
            have kz2 := hkv.lt rfl (ogX_k gx2); have ql2 := ogX_inc _ _ gx2
            refine lv_aload_n hx hb dX9_named_87 rfl (lv_at hl 8 rfl) ?_
            have q_200 : 0 ≤ u_91.1 11 10 ∧ u_91.1 11 10 ≤ 8 := iu_91.fi 11 10 9 (by decide) rfl
            have q_201 : 0 ≤ u_91.1 11 11 ∧ u_91.1 11 11 ≤ 12 := iu_91.fi 11 11 9 (by decide) rfl
            have q_202 : (-2147483648) ≤ u_91.1 11 12 ∧ u_91.1 11 12 ≤ 2147483647 := iu_91.fi 11 12 9 (by decide) rfl
            refine sBi (sV (As := []) (rest := []) (k := 11) Cx (e_X9_item l G u_91 (N := N) (pz := qa + 1) (q := qb) iu_91 nr_102 hK (by rw [kv_108.1, kv_108.2.1]; exact hTV) (by omega) (by omega) (by omega) (by rw [kv_108.1]; exact gx2)) (c_X9_242 Cx rfl rfl (rmk_ok (by omega) (by decide))) hW (by decide) rfl rfl rfl hl.1 rfl (Nat.le_of_ble_eq_true rfl) dX9_named_88 ⟨Nat.le_of_ble_eq_true rfl, Nat.le_of_ble_eq_true rfl⟩) hL (fun r_205 u_203 H locs k_204 hW hL => ?_)
            obtain ⟨iu_203, fu_203, xu_203⟩ := k_204
            have F_206 := F_94.trans (fu_203.to (p1_sub pl_h))
            have F_207 := F_95.trans (fu_203.to (p1_sub rfl))
            have F_208 := F_96.trans fu_203
            refine lv_istore (lv' := [(9, .int (iv r_205)), (8, .int (iv 4)), (7, .int (iv 1)), (10, .int (iv r_101)), (4, .int (iv 1)), (6, .int (iv irA)), (5, .int (iv ofA)), (3, .int (iv (S.1 11 13))), (0, .ref (G.2.2.1 + 11)), (1, .int (iv dd)), (2, .int (iv s0))]) hx hb dX9_named_91 hl (by decide) rfl (fun ls hl => ?_)
            refine lv_aload_n hx hb dX9_named_93 rfl (lv_at hl 8 rfl) ?_
            have q_209 : 0 ≤ u_203.1 11 14 ∧ u_203.1 11 14 ≤ 7 := iu_203.fi 11 14 9 (by decide) rfl
            refine g_X9_54 Cx hW (k := 11) (by decide) rfl (v := u_203.1 11 14) rfl dX9_named_94 ?_
            refine r_if_eq (tgt := 102) hx hb ⟨(by omega), (by omega)⟩ dX9_named_97 (by decide) (fun c_210 => ?_) (fun c_210 => ?_)
            · obtain ⟨ia2, ib2⟩ := xu_203.2.2.1 (by omega)
              rw [kv_108.1, kv_108.2.1] at ia2
              have bd2 := eI_bd hK (by omega) hTV gx2 ia2
              have qal2 : qb < T := hkv.lt gy2.1 (by decide)
              refine lv_iinc (v := iv (2)) (lv' := [(4, .int (iv 2)), (9, .int (iv r_205)), (8, .int (iv 4)), (7, .int (iv 1)), (10, .int (iv r_101)), (6, .int (iv irA)), (5, .int (iv ofA)), (3, .int (iv (S.1 11 13))), (0, .ref (G.2.2.1 + 11)), (1, .int (iv dd)), (2, .int (iv s0))]) hx hb dX9_named_102 hl (k := 4) rfl ((Int32.ofInt_add _ _).symm.trans (congrArg iv (by omega))) (by decide) rfl (fun ls hl => ?_)
              refine lv_aload_n hx hb dX9_named_105 rfl (lv_at hl 8 rfl) ?_
              refine lv_iload_n hx hb dX9_named_106 rfl (lv_at hl 10 rfl) ?_
              refine lv_iload hx hb dX9_named_107 (lv_at hl 2 rfl) ?_
              refine sBi (sV (As := [.int (iv s0), .int (iv 4)]) (rest := []) (k := 11) Cx (s_X9_fact l G u_203 (s0 := s0) (q := 4) iu_203 (by omega) (by omega)) (c_X9_120 Cx rfl rfl (rmk_ok (by omega) (by decide))) hW (by decide) rfl rfl rfl hl.1 rfl (Nat.le_of_ble_eq_true rfl) dX9_named_109 ⟨Nat.le_of_ble_eq_true rfl, Nat.le_of_ble_eq_true rfl⟩) hL (fun r_213 u_211 H locs k_212 hW hL => ?_)
              obtain ⟨eu_211, xu_211⟩ := k_212
              rw [eu_211] at hW
              have yu_211 := xu_211.2
              unfold fr8 at yu_211
              have q_215 : 0 ≤ u_203.1 11 9 ∧ u_203.1 11 9 ≤ 128 := iu_203.fi 11 9 9 (by decide) rfl
              have nr_214 : NRc N u_203 := hN.of (by omega) (fun j => (F_207 16 rfl).2.2.1 j) (fun j => (F_207 17 rfl).2.1 j) (fun j => (F_207 18 rfl).2.1 j)
              have fs2 : r_213 = N.2.2.1 s0 4 := (xu_211.1.trans ((nr_214.2.2 s0 (by omega) (by omega)).2.2.2.1 h7).2.symm)
              refine lv_istore (lv' := [(10, .int (iv r_213)), (4, .int (iv 2)), (9, .int (iv r_205)), (8, .int (iv 4)), (7, .int (iv 1)), (6, .int (iv irA)), (5, .int (iv ofA)), (3, .int (iv (S.1 11 13))), (0, .ref (G.2.2.1 + 11)), (1, .int (iv dd)), (2, .int (iv s0))]) hx hb dX9_named_112 hl (by decide) rfl (fun ls hl => ?_)
              have join_177 : ∀ (irB : Int) (ofB : Int) (H : Heap) (locs : List Loc) (ls : Array Slot), (-5000000 ≤ ofB ∧ ofB ≤ 5000000) → (0 ≤ irB ∧ irB ≤ 1) → (Hd (JN N (N.2.2.1 s0 4) r_205 ofA irA ofB irB)) → sW G 294 u_203 H → sL G locs → lv_has ls 11 [(10, .int (iv r_213)), (4, .int (iv 2)), (9, .int (iv r_205)), (8, .int (iv 4)), (7, .int (iv 1)), (6, .int (iv irB)), (5, .int (iv ofB)), (3, .int (iv (S.1 11 13))), (0, .ref (G.2.2.1 + 11)), (1, .int (iv dd)), (2, .int (iv s0))] → W p l e (rmk 3 0 0) s m args below meth c H locs 0 0 (MQ below (sQi G 294 (fun r u => cX G u 0 0 0 ∧ Fr S u (pl [11, qF]) ∧ (EO S u N q r (eN k v N (S.1 11 12) pz) qF))) args s 0 0 (sF G)) (F0 m 177 ls []) := by
                intro irB ofB H locs ls hof hir hj2 hW hL hl
                refine lv_aload_n hx hb dX9_named_177 rfl (lv_at hl 8 rfl) ?_
                refine g_X9_14 Cx hW (k := 11) (by decide) rfl (v := .ref (G.2.2.1 + 12)) (rf_11_0 iu_203) dX9_named_178 ?_
                refine lv_aload_n hx hb dX9_named_181 rfl (lv_at hl 8 rfl) ?_
                have q_216 : (-2147483648) ≤ u_203.1 11 13 ∧ u_203.1 11 13 ≤ 2147483647 := iu_203.fi 11 13 9 (by decide) rfl
                refine g_X9_89 Cx hW (k := 11) (by decide) rfl (v := u_203.1 11 13) rfl dX9_named_182 ?_
                refine sBi (sV (As := [.int (iv (u_203.1 11 13))]) (rest := []) (k := 12) Cx (s_X8_kind l G u_203 (k := u_203.1 11 13) iu_203 (by omega)) (c_X9_95 Cx rfl rfl (rmk_ok (by omega) (by decide))) hW (by decide) rfl rfl rfl hl.1 rfl (Nat.le_of_ble_eq_true rfl) dX9_named_185 ⟨Nat.le_of_ble_eq_true rfl, Nat.le_of_ble_eq_true rfl⟩) hL (fun r_219 u_217 H locs k_218 hW hL => ?_)
                obtain ⟨eu_217, xu_217⟩ := k_218
                rw [eu_217] at hW
                have kv_220 : KV u_203 k v T := hkv.fr F_206 (pl_c (by decide) (pl_c (tau_ne (rfl : tau 12 = .inl 8) lqF.1 (fun h => by cases h)) rfl)) (pl_c (by decide) (pl_c (tau_ne (rfl : tau 13 = .inr (.int, 2001)) lqF.1 (fun h => by cases h)) rfl)) (pl_c (by decide) (pl_c (tau_ne (rfl : tau 15 = .inr (.long, 2001)) lqF.1 (by decide)) rfl))
                have kc2 : r_219 = k qb := (by rw [← kv_220.1]; exact xu_217.1.trans (congrArg (kd _) (by omega)))
                refine lv_bipush (v := iv 16) hx hb dX9_named_188 (by decide) ?_
                refine r_icmp_ne (tgt := 197) hx hb ⟨(by omega), (by omega)⟩ ⟨(by omega), (by omega)⟩ dX9_named_190 (by decide) (fun c_221 => ?_) (fun c_221 => ?_)
                · refine lv_iconst (v := iv 0) hx hb dX9_named_197 (by decide) ?_
                  refine lv_istore (lv' := [(7, .int (iv 0)), (10, .int (iv r_213)), (4, .int (iv 2)), (9, .int (iv r_205)), (8, .int (iv 4)), (6, .int (iv irB)), (5, .int (iv ofB)), (3, .int (iv (S.1 11 13))), (0, .ref (G.2.2.1 + 11)), (1, .int (iv dd)), (2, .int (iv s0))]) hx hb dX9_named_198 hl (by decide) rfl (fun ls hl => ?_)
                  refine lv_iload hx hb dX9_named_200 (lv_at hl 0 rfl) ?_
                  refine r_if_ne (tgt := 215) hx hb ⟨(by omega), (by omega)⟩ dX9_named_202 (by decide) (fun c => absurd (by omega) c) (fun _ => ?_)
                  refine lv_aload_n hx hb dX9_named_205 rfl (lv_at hl 8 rfl) ?_
                  refine lv_dup hx hb dX9_named_206 rfl ?_
                  refine g_X9_89 Cx hW (k := 11) (by decide) rfl (v := u_203.1 11 13) rfl dX9_named_207 ?_
                  refine lv_iconst (v := iv 1) hx hb dX9_named_210 (by decide) ?_
                  refine r_iadd hx hb dX9_named_211 ?_
                  refine p_X9_89 Cx hW hL (k := 11) (by decide) rfl dX9_named_212 (fun H locs hW hL => ?_)
                  have F_222 : Fr S (uF u_203 11 13 ((u_203.1 11 13) + 1)) (pl [11, qF]) := F_206.F pl_h
                  have F_223 : Fr S (uF u_203 11 13 ((u_203.1 11 13) + 1)) pR3 := F_207.F rfl
                  have F_224 : Fr S (uF u_203 11 13 ((u_203.1 11 13) + 1)) (p1 11) := F_208.F rfl
                  have i_225 : cX G (uF u_203 11 13 ((u_203.1 11 13) + 1)) 0 0 0 := iu_203.F rfl rfl (show (-2147483648) ≤ (u_203.1 11 13) + 1 ∧ (u_203.1 11 13) + 1 ≤ 2147483647 from ⟨by omega, by omega⟩)
                  refine lv_iinc (v := iv (5)) (lv' := [(8, .int (iv 5)), (7, .int (iv 0)), (10, .int (iv r_213)), (4, .int (iv 2)), (9, .int (iv r_205)), (6, .int (iv irB)), (5, .int (iv ofB)), (3, .int (iv (S.1 11 13))), (0, .ref (G.2.2.1 + 11)), (1, .int (iv dd)), (2, .int (iv s0))]) hx hb dX9_named_215 hl (k := 4) rfl ((Int32.ofInt_add _ _).symm.trans (congrArg iv (by omega))) (by decide) rfl (fun ls hl => ?_)
                  refine lv_goto (tgt := 76) hx hb dX9_named_218 (by decide) ?_
                  refine lv_iload hx hb dX9_named_76 (lv_at hl 0 rfl) ?_
                  refine lv_iconst (v := iv 4) hx hb dX9_named_78 (by decide) ?_
                  refine r_icmp_gt (tgt := 221) hx hb ⟨(by omega), (by omega)⟩ ⟨(by omega), (by omega)⟩ dX9_named_79 (by decide) (fun _ => ?_) (fun c => absurd (by omega) c)
                  refine lv_aload_n hx hb dX9_named_221 rfl (lv_at hl 8 rfl) ?_
                  refine lv_iload_n hx hb dX9_named_222 rfl (lv_at hl 10 rfl) ?_
                  refine lv_iconst (v := iv 3) hx hb dX9_named_223 (by decide) ?_
                  refine sBi (sV (As := [.int (iv s0), .int (iv 3)]) (rest := []) (k := 11) Cx (s_X9_fact l G (uF u_203 11 13 ((u_203.1 11 13) + 1)) (s0 := s0) (q := 3) i_225 (by omega) (by omega)) (c_X9_120 Cx rfl rfl (rmk_ok (by omega) (by decide))) hW (by decide) rfl rfl rfl hl.1 rfl (Nat.le_of_ble_eq_true rfl) dX9_named_224 ⟨Nat.le_of_ble_eq_true rfl, Nat.le_of_ble_eq_true rfl⟩) hL (fun r_228 u_226 H locs k_227 hW hL => ?_)
                  obtain ⟨eu_226, xu_226⟩ := k_227
                  rw [eu_226] at hW
                  have yu_226 := xu_226.2
                  unfold fr8 at yu_226
                  have lk_230 : (uF u_203 11 13 ((u_203.1 11 13) + 1)).1 11 9 = u_203.1 11 9 := uF_ne (fun h => absurd h.2 (by decide))
                  have nr_229 : NRc N (uF u_203 11 13 ((u_203.1 11 13) + 1)) := hN.of (by omega) (fun j => (F_223 16 rfl).2.2.1 j) (fun j => (F_223 17 rfl).2.1 j) (fun j => (F_223 18 rfl).2.1 j)
                  have e3 : r_228 = N.2.2.1 s0 3 := (xu_226.1.trans ((nr_229.2.2 s0 (by omega) (by omega)).2.2.2.1 h7).1.symm)
                  refine r_if_ge (tgt := 234) hx hb ⟨(by omega), (by omega)⟩ dX9_named_227 (by decide) (fun c_231 => ?_) (fun c_231 => ?_)
                  · refine lv_aload_n hx hb dX9_named_234 rfl (lv_at hl 8 rfl) ?_
                    refine lv_iload_n hx hb dX9_named_235 rfl (lv_at hl 10 rfl) ?_
                    refine lv_iconst (v := iv 4) hx hb dX9_named_236 (by decide) ?_
                    refine sBi (sV (As := [.int (iv s0), .int (iv 4)]) (rest := []) (k := 11) Cx (s_X9_fact l G (uF u_203 11 13 ((u_203.1 11 13) + 1)) (s0 := s0) (q := 4) i_225 (by omega) (by omega)) (c_X9_120 Cx rfl rfl (rmk_ok (by omega) (by decide))) hW (by decide) rfl rfl rfl hl.1 rfl (Nat.le_of_ble_eq_true rfl) dX9_named_237 ⟨Nat.le_of_ble_eq_true rfl, Nat.le_of_ble_eq_true rfl⟩) hL (fun r_234 u_232 H locs k_233 hW hL => ?_)
                    obtain ⟨eu_232, xu_232⟩ := k_233
                    rw [eu_232] at hW
                    have yu_232 := xu_232.2
                    unfold fr8 at yu_232
                    have e4 : r_234 = N.2.2.1 s0 4 := (xu_232.1.trans ((nr_229.2.2 s0 (by omega) (by omega)).2.2.2.1 h7).2.symm)
                    refine r_if_ge (tgt := 247) hx hb ⟨(by omega), (by omega)⟩ dX9_named_240 (by decide) (fun c_235 => ?_) (fun c_235 => ?_)
                    · refine lv_iconst (v := iv 2) hx hb dX9_named_247 (by decide) ?_
                      refine lv_istore (lv' := [(8, .int (iv 2)), (7, .int (iv 0)), (10, .int (iv r_213)), (4, .int (iv 2)), (9, .int (iv r_205)), (6, .int (iv irB)), (5, .int (iv ofB)), (3, .int (iv (S.1 11 13))), (0, .ref (G.2.2.1 + 11)), (1, .int (iv dd)), (2, .int (iv s0))]) hx hb dX9_named_248 hl (by decide) rfl (fun ls hl => ?_)
                      refine lv_iload hx hb dX9_named_250 (lv_at hl 3 rfl) ?_
                      refine lv_iload hx hb dX9_named_252 (lv_at hl 0 rfl) ?_
                      refine r_icmp_eq (tgt := 264) hx hb ⟨(by omega), (by omega)⟩ ⟨(by omega), (by omega)⟩ dX9_named_254 (by decide) (fun _ => ?_) (fun c => absurd (by omega) c)
                      refine lv_iload hx hb dX9_named_264 (lv_at hl 5 rfl) ?_
                      refine r_if_ne (tgt := 276) hx hb ⟨(by omega), (by omega)⟩ dX9_named_266 (by decide) (fun c_236 => ?_) (fun c_236 => ?_)
                      · refine lv_aload_n hx hb dX9_named_276 rfl (lv_at hl 8 rfl) ?_
                        refine lv_aload_n hx hb dX9_named_277 rfl (lv_at hl 8 rfl) ?_
                        refine g_X9_37 Cx hW (k := 11) (by decide) rfl (v := .ref (G.2.2.1 + 83)) (rf_11_6 i_225) dX9_named_278 ?_
                        refine lv_iload_n hx hb dX9_named_281 rfl (lv_at hl 9 rfl) ?_
                        refine rAald Cx hW (k := 83) (by decide) rfl (by decide) (by omega) (by omega) (r2_83f i_225 hqF (by omega) (by omega)) dX9_named_282 ?_
                        refine lv_iload_n hx hb dX9_named_283 rfl (lv_at hl 10 rfl) ?_
                        refine lv_aload_n hx hb dX9_named_284 rfl (lv_at hl 8 rfl) ?_
                        refine lv_iload_n hx hb dX9_named_285 rfl (lv_at hl 10 rfl) ?_
                        refine lv_iconst (v := iv 5) hx hb dX9_named_286 (by decide) ?_
                        refine sBi (sV (As := [.int (iv s0), .int (iv 5)]) (rest := [.int (iv s0), .ref (G.2.2.1 + qF), .ref (G.2.2.1 + 11)]) (k := 11) Cx (s_X9_fact l G (uF u_203 11 13 ((u_203.1 11 13) + 1)) (s0 := s0) (q := 5) i_225 (by omega) (by omega)) (c_X9_120 Cx rfl rfl (rmk_ok (by omega) (by decide))) hW (by decide) rfl rfl rfl hl.1 rfl (Nat.le_of_ble_eq_true rfl) dX9_named_287 ⟨Nat.le_of_ble_eq_true rfl, Nat.le_of_ble_eq_true rfl⟩) hL (fun r_239 u_237 H locs k_238 hW hL => ?_)
                        obtain ⟨eu_237, xu_237⟩ := k_238
                        rw [eu_237] at hW
                        have yu_237 := xu_237.2
                        unfold fr8 at yu_237
                        refine lv_iload hx hb dX9_named_290 (lv_at hl 6 rfl) ?_
                        refine r_iadd hx hb dX9_named_292 ?_
                        have hoB : ofB = (r_93 - N.2.2.1 (N.2.2.1 s0 3) 1) * siz N (N.2.2.1 s0 4) + (r_205 - N.2.2.1 (N.2.2.1 s0 4) 1) := (by have q1 := (hj1.2 (by omega)).1; rw [Int.zero_mul] at q1; have q2 := (hj2.2 (by omega)).1; rw [q1, show (0 : Int) + r_93 - N.2.2.1 (N.2.2.1 s0 3) 1 = r_93 - N.2.2.1 (N.2.2.1 s0 3) 1 by omega] at q2; omega)
                        have hoF := (ho_2 (o := ofB) (by omega) (by omega) ((hj1.2 (by omega)).2.2.1 ((hj2.2 (by omega)).2.2.1 (by omega)).1).2 ((hj2.2 (by omega)).2.2.1 (by omega)).2 hoB)
                        have hv5 := nr_229.v5 hK (by omega) (by omega) h7 hoF
                        have hf0 := (nr_229.2.2 s0 (by omega) (by omega)).1
                        have kv_240 : KV (uF u_203 11 13 ((u_203.1 11 13) + 1)) k v T := hkv.fr F_222 (pl_c (by decide) (pl_c (tau_ne (rfl : tau 12 = .inl 8) lqF.1 (fun h => by cases h)) rfl)) (pl_c (by decide) (pl_c (tau_ne (rfl : tau 13 = .inr (.int, 2001)) lqF.1 (fun h => by cases h)) rfl)) (pl_c (by decide) (pl_c (tau_ne (rfl : tau 15 = .inr (.long, 2001)) lqF.1 (by decide)) rfl))
                        refine sBv (sV (As := [.ref (G.2.2.1 + qF), .int (iv s0), .int (iv (r_239 + ofB))]) (rest := []) (k := 11) Cx (e_X9_putNamed l G (uF u_203 11 13 ((u_203.1 11 13) + 1)) (qa := qF) (s0 := s0) (v := r_239 + ofB) (N := N) (o := ofB) i_225 lqF nr_229 hK (by rw [kv_240.1, kv_240.2.1]; exact hTV) (by omega) (by omega) (by rw [← hf0]; exact h7) hoF (by omega) (fun j a b => ((F_224 qF (p1_no (tau_ne lqF.1 (rfl : tau 11 = .inl 9) (fun h => by cases h)))).2.2.1 j).trans (hz j a b)) (by omega)) (c_X9_245 Cx rfl rfl (rmk_ok (by omega) (by decide))) hW (by decide) rfl rfl rfl hl.1 rfl (Nat.le_of_ble_eq_true rfl) dX9_named_293 ⟨Nat.le_of_ble_eq_true rfl, Nat.le_of_ble_eq_true rfl⟩) hL (fun u_241 H locs k_242 hW hL => ?_)
                        obtain ⟨iu_241, fu_241, xu_241⟩ := k_242
                        have F_243 := F_222.trans (fu_241.to (p1_sub (pl_t pl_h)))
                        have F_244 := F_223.trans (fu_241.to (p1_sub (lr_R lqF)))
                        refine lv_iconst (v := iv 1) hx hb dX9_named_296 (by decide) ?_
                        have q_245 : 0 ≤ u_203.1 11 10 ∧ u_203.1 11 10 ≤ 8 := iu_203.fi 11 10 9 (by decide) rfl
                        have lk_246 : u_241.1 11 10 = u_203.1 11 10 := ((fu_241 11 (p1_no (tau_ne (rfl : tau 11 = .inl 9) lqF.1 (fun h => by cases h)))).1 10).trans (uF_ne (fun h => absurd h.2 (by decide)))
                        have q_247 : 0 ≤ u_203.1 11 11 ∧ u_203.1 11 11 ≤ 12 := iu_203.fi 11 11 9 (by decide) rfl
                        have lk_248 : u_241.1 11 11 = u_203.1 11 11 := ((fu_241 11 (p1_no (tau_ne (rfl : tau 11 = .inl 9) lqF.1 (fun h => by cases h)))).1 11).trans (uF_ne (fun h => absurd h.2 (by decide)))
                        have q_249 : (-2147483648) ≤ u_203.1 11 12 ∧ u_203.1 11 12 ≤ 2147483647 := iu_203.fi 11 12 9 (by decide) rfl
                        have lk_250 : u_241.1 11 12 = u_203.1 11 12 := ((fu_241 11 (p1_no (tau_ne (rfl : tau 11 = .inl 9) lqF.1 (fun h => by cases h)))).1 12).trans (uF_ne (fun h => absurd h.2 (by decide)))
                        have lk_251 : u_241.1 11 13 = (u_203.1 11 13) + 1 := ((fu_241 11 (p1_no (tau_ne (rfl : tau 11 = .inl 9) lqF.1 (fun h => by cases h)))).1 13).trans (uF_on)
                        have lk_252 : u_241.1 11 14 = u_203.1 11 14 := ((fu_241 11 (p1_no (tau_ne (rfl : tau 11 = .inl 9) lqF.1 (fun h => by cases h)))).1 14).trans (uF_ne (fun h => absurd h.2 (by decide)))
                        have lk_253 : u_241.1 11 9 = u_203.1 11 9 := ((fu_241 11 (p1_no (tau_ne (rfl : tau 11 = .inl 9) lqF.1 (fun h => by cases h)))).1 9).trans (uF_ne (fun h => absurd h.2 (by decide)))
                        have nr_254 : NRc N u_241 := hN.of (by omega) (fun j => (F_244 16 rfl).2.2.1 j) (fun j => (F_244 17 rfl).2.1 j) (fun j => (F_244 18 rfl).2.1 j)
                        exact sZret Cx hr hlk hW hL (by omega) ⟨iu_241, F_243, (by have qe : q = qb + 1 := gy2.2; exact ⟨⟨⟨(fun i => (((fu_241 11 (p1_no (tau_ne (rfl : tau 11 = .inl 9) lqF.1 (fun h => by cases h)))).2.2.2 i).trans ((xu_203.1.1 i).trans (xu_91.1.1 i)))), (fun h => absurd h (by decide))⟩, by omega, by omega, by omega, by omega⟩, (fun _ => ⟨(eV N s0 ofB), (by rw [show u_241.1 11 12 = S.1 11 12 by omega]; rw [eN_5 hs0 hs.1 h7 (by omega) ia1 (by omega) ia2, if_pos ⟨by omega, by omega, ((hj1.2 (by omega)).2.2.1 ((hj2.2 (by omega)).2.2.1 (by omega)).1).2, ((hj2.2 (by omega)).2.2.1 (by omega)).2⟩]; rw [qe, hoB]), xu_241, (vb9_eV hK (by omega) (by omega) h7 hoF.1 hoF.2), ⟨by omega, by omega⟩, (by omega), (by omega), nr_254⟩), (fun h => absurd h (by decide))⟩)⟩ dX9_named_297
                      · refine lv_aload_n hx hb dX9_named_269 rfl (lv_at hl 8 rfl) ?_
                        refine lv_iconst (v := iv 5) hx hb dX9_named_270 (by decide) ?_
                        refine lv_iload_n hx hb dX9_named_271 rfl (lv_at hl 7 rfl) ?_
                        have lk_255 : (uF u_203 11 13 ((u_203.1 11 13) + 1)).1 11 13 = (u_203.1 11 13) + 1 := uF_on
                        have q_256 : 0 ≤ u_203.1 11 10 ∧ u_203.1 11 10 ≤ 8 := iu_203.fi 11 10 9 (by decide) rfl
                        have lk_257 : (uF u_203 11 13 ((u_203.1 11 13) + 1)).1 11 10 = u_203.1 11 10 := uF_ne (fun h => absurd h.2 (by decide))
                        have q_258 : 0 ≤ u_203.1 11 11 ∧ u_203.1 11 11 ≤ 12 := iu_203.fi 11 11 9 (by decide) rfl
                        have lk_259 : (uF u_203 11 13 ((u_203.1 11 13) + 1)).1 11 11 = u_203.1 11 11 := uF_ne (fun h => absurd h.2 (by decide))
                        have q_260 : (-2147483648) ≤ u_203.1 11 12 ∧ u_203.1 11 12 ≤ 2147483647 := iu_203.fi 11 12 9 (by decide) rfl
                        have lk_261 : (uF u_203 11 13 ((u_203.1 11 13) + 1)).1 11 12 = u_203.1 11 12 := uF_ne (fun h => absurd h.2 (by decide))
                        refine sBi (sV (As := [.int (iv 5), .int (iv (S.1 11 13))]) (rest := []) (k := 11) Cx (e_X9_fail l G (uF u_203 11 13 ((u_203.1 11 13) + 1)) (k := 5) (tk := S.1 11 13) i_225 (by omega) (by omega)) (c_X9_132 Cx rfl rfl (rmk_ok (by omega) (by decide))) hW (by decide) rfl rfl rfl hl.1 rfl (Nat.le_of_ble_eq_true rfl) dX9_named_272 ⟨Nat.le_of_ble_eq_true rfl, Nat.le_of_ble_eq_true rfl⟩) hL (fun r_264 u_262 H locs k_263 hW hL => ?_)
                        obtain ⟨iu_262, fu_262, xu_262⟩ := k_263
                        have F_265 := F_222.trans (fu_262.to (p1_sub pl_h))
                        have F_266 := F_223.trans (fu_262.to (p1_sub rfl))
                        have F_267 := F_224.trans fu_262
                        have q_268 : 0 ≤ u_262.1 11 10 ∧ u_262.1 11 10 ≤ 8 := iu_262.fi 11 10 9 (by decide) rfl
                        have q_269 : 0 ≤ u_262.1 11 11 ∧ u_262.1 11 11 ≤ 12 := iu_262.fi 11 11 9 (by decide) rfl
                        have q_270 : (-2147483648) ≤ u_262.1 11 12 ∧ u_262.1 11 12 ≤ 2147483647 := iu_262.fi 11 12 9 (by decide) rfl
                        have q_271 : (-2147483648) ≤ u_262.1 11 13 ∧ u_262.1 11 13 ≤ 2147483647 := iu_262.fi 11 13 9 (by decide) rfl
                        have q_272 : 0 ≤ u_262.1 11 14 ∧ u_262.1 11 14 ≤ 7 := iu_262.fi 11 14 9 (by decide) rfl
                        have q_273 : 0 ≤ u_262.1 11 9 ∧ u_262.1 11 9 ≤ 128 := iu_262.fi 11 9 9 (by decide) rfl
                        exact sZret Cx hr hlk hW hL (by omega) ⟨iu_262, F_265, ⟨⟨⟨(fun i => ((xu_262.2.2.2.2.2.2.2 i).trans ((xu_203.1.1 i).trans (xu_91.1.1 i)))), (fun _ => by first | omega | exact xu_262.1.1.2 (by omega))⟩, by omega, by omega, by omega, by omega⟩, (fun h => absurd h (by omega)), (fun _ => (by rw [eN_5 hs0 hs.1 h7 (by omega) ia1 (by omega) ia2]; exact if_neg (fun z => by first | (have z1 := z.1; have z2 := z.2.1; omega) | (have i1 := (hj1.2 z.1).2.2; exact ((hj2.2 z.2.1).2.2.2 (by omega)) ⟨(by have b := (hj1.2 z.1).2.1; by_cases y : irA = 1; (exact y); (exact absurd ⟨rfl, z.2.2.1⟩ (i1.2 (by omega)))), z.2.2.2⟩))))⟩⟩ dX9_named_275
                    · refine lv_iconst (v := iv 1) hx hb dX9_named_243 (by decide) ?_
                      refine lv_goto (tgt := 248) hx hb dX9_named_244 (by decide) ?_
                      refine lv_istore (lv' := [(8, .int (iv 1)), (7, .int (iv 0)), (10, .int (iv r_213)), (4, .int (iv 2)), (9, .int (iv r_205)), (6, .int (iv irB)), (5, .int (iv ofB)), (3, .int (iv (S.1 11 13))), (0, .ref (G.2.2.1 + 11)), (1, .int (iv dd)), (2, .int (iv s0))]) hx hb dX9_named_248 hl (by decide) rfl (fun ls hl => ?_)
                      refine lv_iload hx hb dX9_named_250 (lv_at hl 3 rfl) ?_
                      refine lv_iload hx hb dX9_named_252 (lv_at hl 0 rfl) ?_
                      refine r_icmp_eq (tgt := 264) hx hb ⟨(by omega), (by omega)⟩ ⟨(by omega), (by omega)⟩ dX9_named_254 (by decide) (fun c => absurd c (by omega)) (fun _ => ?_)
                      refine lv_aload_n hx hb dX9_named_257 rfl (lv_at hl 8 rfl) ?_
                      refine lv_iconst (v := iv 2) hx hb dX9_named_258 (by decide) ?_
                      refine lv_iload_n hx hb dX9_named_259 rfl (lv_at hl 7 rfl) ?_
                      have lk_274 : (uF u_203 11 13 ((u_203.1 11 13) + 1)).1 11 13 = (u_203.1 11 13) + 1 := uF_on
                      have q_275 : 0 ≤ u_203.1 11 10 ∧ u_203.1 11 10 ≤ 8 := iu_203.fi 11 10 9 (by decide) rfl
                      have lk_276 : (uF u_203 11 13 ((u_203.1 11 13) + 1)).1 11 10 = u_203.1 11 10 := uF_ne (fun h => absurd h.2 (by decide))
                      have q_277 : 0 ≤ u_203.1 11 11 ∧ u_203.1 11 11 ≤ 12 := iu_203.fi 11 11 9 (by decide) rfl
                      have lk_278 : (uF u_203 11 13 ((u_203.1 11 13) + 1)).1 11 11 = u_203.1 11 11 := uF_ne (fun h => absurd h.2 (by decide))
                      have q_279 : (-2147483648) ≤ u_203.1 11 12 ∧ u_203.1 11 12 ≤ 2147483647 := iu_203.fi 11 12 9 (by decide) rfl
                      have lk_280 : (uF u_203 11 13 ((u_203.1 11 13) + 1)).1 11 12 = u_203.1 11 12 := uF_ne (fun h => absurd h.2 (by decide))
                      refine sBi (sV (As := [.int (iv 2), .int (iv (S.1 11 13))]) (rest := []) (k := 11) Cx (e_X9_fail l G (uF u_203 11 13 ((u_203.1 11 13) + 1)) (k := 2) (tk := S.1 11 13) i_225 (by omega) (by omega)) (c_X9_132 Cx rfl rfl (rmk_ok (by omega) (by decide))) hW (by decide) rfl rfl rfl hl.1 rfl (Nat.le_of_ble_eq_true rfl) dX9_named_260 ⟨Nat.le_of_ble_eq_true rfl, Nat.le_of_ble_eq_true rfl⟩) hL (fun r_283 u_281 H locs k_282 hW hL => ?_)
                      obtain ⟨iu_281, fu_281, xu_281⟩ := k_282
                      have F_284 := F_222.trans (fu_281.to (p1_sub pl_h))
                      have F_285 := F_223.trans (fu_281.to (p1_sub rfl))
                      have F_286 := F_224.trans fu_281
                      have q_287 : 0 ≤ u_281.1 11 10 ∧ u_281.1 11 10 ≤ 8 := iu_281.fi 11 10 9 (by decide) rfl
                      have q_288 : 0 ≤ u_281.1 11 11 ∧ u_281.1 11 11 ≤ 12 := iu_281.fi 11 11 9 (by decide) rfl
                      have q_289 : (-2147483648) ≤ u_281.1 11 12 ∧ u_281.1 11 12 ≤ 2147483647 := iu_281.fi 11 12 9 (by decide) rfl
                      have q_290 : (-2147483648) ≤ u_281.1 11 13 ∧ u_281.1 11 13 ≤ 2147483647 := iu_281.fi 11 13 9 (by decide) rfl
                      have q_291 : 0 ≤ u_281.1 11 14 ∧ u_281.1 11 14 ≤ 7 := iu_281.fi 11 14 9 (by decide) rfl
                      have q_292 : 0 ≤ u_281.1 11 9 ∧ u_281.1 11 9 ≤ 128 := iu_281.fi 11 9 9 (by decide) rfl
                      exact sZret Cx hr hlk hW hL (by omega) ⟨iu_281, F_284, ⟨⟨⟨(fun i => ((xu_281.2.2.2.2.2.2.2 i).trans ((xu_203.1.1 i).trans (xu_91.1.1 i)))), (fun _ => by first | omega | exact xu_281.1.1.2 (by omega))⟩, by omega, by omega, by omega, by omega⟩, (fun h => absurd h (by omega)), (fun _ => (by rw [eN_5 hs0 hs.1 h7 (by omega) ia1 (by omega) ia2]; exact if_neg (fun z => by first | (have z1 := z.1; have z2 := z.2.1; omega) | (have i1 := (hj1.2 z.1).2.2; exact ((hj2.2 z.2.1).2.2.2 (by omega)) ⟨(by have b := (hj1.2 z.1).2.1; by_cases y : irA = 1; (exact y); (exact absurd ⟨rfl, z.2.2.1⟩ (i1.2 (by omega)))), z.2.2.2⟩))))⟩⟩ dX9_named_263
                  · refine lv_iconst (v := iv 0) hx hb dX9_named_230 (by decide) ?_
                    refine lv_goto (tgt := 248) hx hb dX9_named_231 (by decide) ?_
                    refine lv_istore (lv' := [(8, .int (iv 0)), (7, .int (iv 0)), (10, .int (iv r_213)), (4, .int (iv 2)), (9, .int (iv r_205)), (6, .int (iv irB)), (5, .int (iv ofB)), (3, .int (iv (S.1 11 13))), (0, .ref (G.2.2.1 + 11)), (1, .int (iv dd)), (2, .int (iv s0))]) hx hb dX9_named_248 hl (by decide) rfl (fun ls hl => ?_)
                    refine lv_iload hx hb dX9_named_250 (lv_at hl 3 rfl) ?_
                    refine lv_iload hx hb dX9_named_252 (lv_at hl 0 rfl) ?_
                    refine r_icmp_eq (tgt := 264) hx hb ⟨(by omega), (by omega)⟩ ⟨(by omega), (by omega)⟩ dX9_named_254 (by decide) (fun c => absurd c (by omega)) (fun _ => ?_)
                    refine lv_aload_n hx hb dX9_named_257 rfl (lv_at hl 8 rfl) ?_
                    refine lv_iconst (v := iv 2) hx hb dX9_named_258 (by decide) ?_
                    refine lv_iload_n hx hb dX9_named_259 rfl (lv_at hl 7 rfl) ?_
                    have lk_293 : (uF u_203 11 13 ((u_203.1 11 13) + 1)).1 11 13 = (u_203.1 11 13) + 1 := uF_on
                    have q_294 : 0 ≤ u_203.1 11 10 ∧ u_203.1 11 10 ≤ 8 := iu_203.fi 11 10 9 (by decide) rfl
                    have lk_295 : (uF u_203 11 13 ((u_203.1 11 13) + 1)).1 11 10 = u_203.1 11 10 := uF_ne (fun h => absurd h.2 (by decide))
                    have q_296 : 0 ≤ u_203.1 11 11 ∧ u_203.1 11 11 ≤ 12 := iu_203.fi 11 11 9 (by decide) rfl
                    have lk_297 : (uF u_203 11 13 ((u_203.1 11 13) + 1)).1 11 11 = u_203.1 11 11 := uF_ne (fun h => absurd h.2 (by decide))
                    have q_298 : (-2147483648) ≤ u_203.1 11 12 ∧ u_203.1 11 12 ≤ 2147483647 := iu_203.fi 11 12 9 (by decide) rfl
                    have lk_299 : (uF u_203 11 13 ((u_203.1 11 13) + 1)).1 11 12 = u_203.1 11 12 := uF_ne (fun h => absurd h.2 (by decide))
                    refine sBi (sV (As := [.int (iv 2), .int (iv (S.1 11 13))]) (rest := []) (k := 11) Cx (e_X9_fail l G (uF u_203 11 13 ((u_203.1 11 13) + 1)) (k := 2) (tk := S.1 11 13) i_225 (by omega) (by omega)) (c_X9_132 Cx rfl rfl (rmk_ok (by omega) (by decide))) hW (by decide) rfl rfl rfl hl.1 rfl (Nat.le_of_ble_eq_true rfl) dX9_named_260 ⟨Nat.le_of_ble_eq_true rfl, Nat.le_of_ble_eq_true rfl⟩) hL (fun r_302 u_300 H locs k_301 hW hL => ?_)
                    obtain ⟨iu_300, fu_300, xu_300⟩ := k_301
                    have F_303 := F_222.trans (fu_300.to (p1_sub pl_h))
                    have F_304 := F_223.trans (fu_300.to (p1_sub rfl))
                    have F_305 := F_224.trans fu_300
                    have q_306 : 0 ≤ u_300.1 11 10 ∧ u_300.1 11 10 ≤ 8 := iu_300.fi 11 10 9 (by decide) rfl
                    have q_307 : 0 ≤ u_300.1 11 11 ∧ u_300.1 11 11 ≤ 12 := iu_300.fi 11 11 9 (by decide) rfl
                    have q_308 : (-2147483648) ≤ u_300.1 11 12 ∧ u_300.1 11 12 ≤ 2147483647 := iu_300.fi 11 12 9 (by decide) rfl
                    have q_309 : (-2147483648) ≤ u_300.1 11 13 ∧ u_300.1 11 13 ≤ 2147483647 := iu_300.fi 11 13 9 (by decide) rfl
                    have q_310 : 0 ≤ u_300.1 11 14 ∧ u_300.1 11 14 ≤ 7 := iu_300.fi 11 14 9 (by decide) rfl
                    have q_311 : 0 ≤ u_300.1 11 9 ∧ u_300.1 11 9 ≤ 128 := iu_300.fi 11 9 9 (by decide) rfl
                    exact sZret Cx hr hlk hW hL (by omega) ⟨iu_300, F_303, ⟨⟨⟨(fun i => ((xu_300.2.2.2.2.2.2.2 i).trans ((xu_203.1.1 i).trans (xu_91.1.1 i)))), (fun _ => by first | omega | exact xu_300.1.1.2 (by omega))⟩, by omega, by omega, by omega, by omega⟩, (fun h => absurd h (by omega)), (fun _ => (by rw [eN_5 hs0 hs.1 h7 (by omega) ia1 (by omega) ia2]; exact if_neg (fun z => by first | (have z1 := z.1; have z2 := z.2.1; omega) | (have i1 := (hj1.2 z.1).2.2; exact ((hj2.2 z.2.1).2.2.2 (by omega)) ⟨(by have b := (hj1.2 z.1).2.1; by_cases y : irA = 1; (exact y); (exact absurd ⟨rfl, z.2.2.1⟩ (i1.2 (by omega)))), z.2.2.2⟩))))⟩⟩ dX9_named_263
                · exfalso; have q1 := gy2.1; omega
              refine lv_iload hx hb dX9_named_114 (lv_at hl 0 rfl) ?_
              refine r_if_lt (tgt := 177) hx hb ⟨(by omega), (by omega)⟩ dX9_named_116 (by decide) (fun c_312 => ?_) (fun c_312 => ?_)
              · exact join_177 irA ofA _ _ _ (by omega) (by omega) ⟨fun z => ⟨by omega, by omega⟩, fun z => absurd z (by omega)⟩ hW hL (lv_sub hl [0, 1, 2, 3, 4, 5, 6, 7, 8, 9, 10] rfl)
              · refine lv_iload hx hb dX9_named_119 (lv_at hl 5 rfl) ?_
                refine r_if_eq (tgt := 152) hx hb ⟨(by omega), (by omega)⟩ dX9_named_121 (by decide) (fun c_313 => ?_) (fun c_313 => ?_)
                · refine lv_iconst (v := iv 0) hx hb dX9_named_152 (by decide) ?_
                  refine lv_istore (lv' := [(6, .int (iv 0)), (10, .int (iv r_213)), (4, .int (iv 2)), (9, .int (iv r_205)), (8, .int (iv 4)), (7, .int (iv 1)), (5, .int (iv ofA)), (3, .int (iv (S.1 11 13))), (0, .ref (G.2.2.1 + 11)), (1, .int (iv dd)), (2, .int (iv s0))]) hx hb dX9_named_153 hl (by decide) rfl (fun ls hl => ?_)
                  refine lv_iload hx hb dX9_named_155 (lv_at hl 6 rfl) ?_
                  refine lv_aload_n hx hb dX9_named_157 rfl (lv_at hl 8 rfl) ?_
                  refine lv_iload hx hb dX9_named_158 (lv_at hl 1 rfl) ?_
                  refine sBi (sV (As := [.int (iv r_213)]) (rest := [.int (iv ofA)]) (k := 11) Cx (s_X9_setSize l G u_203 (s0 := r_213) iu_203 (by omega)) (c_X9_149 Cx rfl rfl (rmk_ok (by omega) (by decide))) hW (by decide) rfl rfl rfl hl.1 rfl (Nat.le_of_ble_eq_true rfl) dX9_named_160 ⟨Nat.le_of_ble_eq_true rfl, Nat.le_of_ble_eq_true rfl⟩) hL (fun r_316 u_314 H locs k_315 hW hL => ?_)
                  obtain ⟨eu_314, xu_314⟩ := k_315
                  rw [eu_314] at hW
                  have sz2 : r_316 = siz N (N.2.2.1 s0 4) := (by have q1 := (hK.2 s0 (by omega) (by omega)).2.2.1 h7 4 (by omega); have q2 := (nr_214.2.2 (N.2.2.1 s0 4) (by omega) (by omega)).2.1 (by rcases q1 with z | z; (exfalso; omega); exact z.2.2); have q3 := xu_314.2.1 (by omega); rw [q3, fs2, ← q2.1, ← q2.2]; exact (if_neg (by omega)).symm)
                  have sb2 : 1 ≤ r_316 ∧ r_316 ≤ 12 := (by have q1 := (hK.2 s0 (by omega) (by omega)).2.2.1 h7 4 (by omega); rcases q1 with z | z; (exfalso; omega); (have q4 := (hK.2 _ z.1 z.2.1).2.1 z.2.2; rw [sz2]; unfold siz; rw [if_neg (by omega)]; omega))
                  have mb : -4000000 ≤ ofA * r_316 ∧ ofA * r_316 ≤ 4000000 := (mulc (by omega) (by omega))
                  refine r_imul hx hb dX9_named_163 ?_
                  refine lv_iload hx hb dX9_named_164 (lv_at hl 3 rfl) ?_
                  refine r_iadd hx hb dX9_named_166 ?_
                  refine lv_aload_n hx hb dX9_named_167 rfl (lv_at hl 8 rfl) ?_
                  refine lv_iload hx hb dX9_named_168 (lv_at hl 1 rfl) ?_
                  refine lv_iconst (v := iv 1) hx hb dX9_named_170 (by decide) ?_
                  refine sBi (sV (As := [.int (iv r_213), .int (iv 1)]) (rest := [.int (iv ((ofA * r_316) + r_205))]) (k := 11) Cx (s_X9_fact l G u_203 (s0 := r_213) (q := 1) iu_203 (by omega) (by omega)) (c_X9_120 Cx rfl rfl (rmk_ok (by omega) (by decide))) hW (by decide) rfl rfl rfl hl.1 rfl (Nat.le_of_ble_eq_true rfl) dX9_named_171 ⟨Nat.le_of_ble_eq_true rfl, Nat.le_of_ble_eq_true rfl⟩) hL (fun r_319 u_317 H locs k_318 hW hL => ?_)
                  obtain ⟨eu_317, xu_317⟩ := k_318
                  rw [eu_317] at hW
                  have yu_317 := xu_317.2
                  unfold fr8 at yu_317
                  have lp2 : r_319 = N.2.2.1 (N.2.2.1 s0 4) 1 := (by have q1 := (hK.2 s0 (by omega) (by omega)).2.2.1 h7 4 (by omega); have q2 := (nr_214.2.2 (N.2.2.1 s0 4) (by omega) (by omega)).2.1 (by rcases q1 with z | z; (exfalso; omega); exact z.2.2); rw [q2.1, ← fs2]; exact xu_317.1)
                  have lpb2 : 0 ≤ r_319 ∧ r_319 ≤ 99999 := (by have q1 := (hK.2 s0 (by omega) (by omega)).2.2.1 h7 4 (by omega); rcases q1 with z | z; (exfalso; omega); (have q4 := (hK.2 _ z.1 z.2.1).2.1 z.2.2; rw [lp2]; omega))
                  refine r_isub hx hb dX9_named_174 ?_
                  refine lv_istore (lv' := [(5, .int (iv (((ofA * r_316) + r_205) - r_319))), (6, .int (iv 0)), (10, .int (iv r_213)), (4, .int (iv 2)), (9, .int (iv r_205)), (8, .int (iv 4)), (7, .int (iv 1)), (3, .int (iv (S.1 11 13))), (0, .ref (G.2.2.1 + 11)), (1, .int (iv dd)), (2, .int (iv s0))]) hx hb dX9_named_175 hl (by decide) rfl (fun ls hl => ?_)
                  exact join_177 0 (((ofA * r_316) + r_205) - r_319) _ _ _ (by omega) (by omega) ⟨fun z => absurd z (by omega), fun z => ⟨(by first | (rw [← sz2, ← lp2]; done) | (rw [← sz2, ← lp2]; omega)), (by omega), (fun h => by first | (exfalso; omega) | exact ⟨by omega, by constructor <;> omega⟩), (fun h y => by have y1 := y.1; have y2 := y.2.1; have y3 := y.2.2; omega)⟩⟩ hW hL (lv_sub hl [2, 3, 4, 5, 6, 1, 0, 7, 8, 9, 10] rfl)
                · refine lv_iload hx hb dX9_named_124 (lv_at hl 2 rfl) ?_
                  refine lv_aload_n hx hb dX9_named_126 rfl (lv_at hl 8 rfl) ?_
                  refine lv_iload hx hb dX9_named_127 (lv_at hl 0 rfl) ?_
                  refine lv_iconst (v := iv 1) hx hb dX9_named_129 (by decide) ?_
                  refine sBi (sV (As := [.int (iv r_213), .int (iv 1)]) (rest := [.int (iv r_205)]) (k := 11) Cx (s_X9_fact l G u_203 (s0 := r_213) (q := 1) iu_203 (by omega) (by omega)) (c_X9_120 Cx rfl rfl (rmk_ok (by omega) (by decide))) hW (by decide) rfl rfl rfl hl.1 rfl (Nat.le_of_ble_eq_true rfl) dX9_named_130 ⟨Nat.le_of_ble_eq_true rfl, Nat.le_of_ble_eq_true rfl⟩) hL (fun r_322 u_320 H locs k_321 hW hL => ?_)
                  obtain ⟨eu_320, xu_320⟩ := k_321
                  rw [eu_320] at hW
                  have yu_320 := xu_320.2
                  unfold fr8 at yu_320
                  have lo2 : r_322 = N.2.2.1 (N.2.2.1 s0 4) 1 := (by have q1 := (hK.2 s0 (by omega) (by omega)).2.2.1 h7 4 (by omega); have q2 := (nr_214.2.2 (N.2.2.1 s0 4) (by omega) (by omega)).2.1 (by rcases q1 with z | z; (exfalso; omega); exact z.2.2); rw [q2.1, ← fs2]; exact xu_320.1)
                  have lob2 : 0 ≤ r_322 ∧ r_322 ≤ 99999 := (by have q1 := (hK.2 s0 (by omega) (by omega)).2.2.1 h7 4 (by omega); rcases q1 with z | z; (exfalso; omega); (have q4 := (hK.2 _ z.1 z.2.1).2.1 z.2.2; rw [lo2]; omega))
                  refine r_icmp_lt (tgt := 152) hx hb ⟨(by omega), (by omega)⟩ ⟨(by omega), (by omega)⟩ dX9_named_133 (by decide) (fun c_323 => ?_) (fun c_323 => ?_)
                  · refine lv_iconst (v := iv 0) hx hb dX9_named_152 (by decide) ?_
                    refine lv_istore (lv' := [(6, .int (iv 0)), (10, .int (iv r_213)), (4, .int (iv 2)), (9, .int (iv r_205)), (8, .int (iv 4)), (7, .int (iv 1)), (5, .int (iv ofA)), (3, .int (iv (S.1 11 13))), (0, .ref (G.2.2.1 + 11)), (1, .int (iv dd)), (2, .int (iv s0))]) hx hb dX9_named_153 hl (by decide) rfl (fun ls hl => ?_)
                    refine lv_iload hx hb dX9_named_155 (lv_at hl 6 rfl) ?_
                    refine lv_aload_n hx hb dX9_named_157 rfl (lv_at hl 8 rfl) ?_
                    refine lv_iload hx hb dX9_named_158 (lv_at hl 1 rfl) ?_
                    refine sBi (sV (As := [.int (iv r_213)]) (rest := [.int (iv ofA)]) (k := 11) Cx (s_X9_setSize l G u_203 (s0 := r_213) iu_203 (by omega)) (c_X9_149 Cx rfl rfl (rmk_ok (by omega) (by decide))) hW (by decide) rfl rfl rfl hl.1 rfl (Nat.le_of_ble_eq_true rfl) dX9_named_160 ⟨Nat.le_of_ble_eq_true rfl, Nat.le_of_ble_eq_true rfl⟩) hL (fun r_326 u_324 H locs k_325 hW hL => ?_)
                    obtain ⟨eu_324, xu_324⟩ := k_325
                    rw [eu_324] at hW
                    have sz2 : r_326 = siz N (N.2.2.1 s0 4) := (by have q1 := (hK.2 s0 (by omega) (by omega)).2.2.1 h7 4 (by omega); have q2 := (nr_214.2.2 (N.2.2.1 s0 4) (by omega) (by omega)).2.1 (by rcases q1 with z | z; (exfalso; omega); exact z.2.2); have q3 := xu_324.2.1 (by omega); rw [q3, fs2, ← q2.1, ← q2.2]; exact (if_neg (by omega)).symm)
                    have sb2 : 1 ≤ r_326 ∧ r_326 ≤ 12 := (by have q1 := (hK.2 s0 (by omega) (by omega)).2.2.1 h7 4 (by omega); rcases q1 with z | z; (exfalso; omega); (have q4 := (hK.2 _ z.1 z.2.1).2.1 z.2.2; rw [sz2]; unfold siz; rw [if_neg (by omega)]; omega))
                    have mb : -4000000 ≤ ofA * r_326 ∧ ofA * r_326 ≤ 4000000 := (mulc (by omega) (by omega))
                    refine r_imul hx hb dX9_named_163 ?_
                    refine lv_iload hx hb dX9_named_164 (lv_at hl 3 rfl) ?_
                    refine r_iadd hx hb dX9_named_166 ?_
                    refine lv_aload_n hx hb dX9_named_167 rfl (lv_at hl 8 rfl) ?_
                    refine lv_iload hx hb dX9_named_168 (lv_at hl 1 rfl) ?_
                    refine lv_iconst (v := iv 1) hx hb dX9_named_170 (by decide) ?_
                    refine sBi (sV (As := [.int (iv r_213), .int (iv 1)]) (rest := [.int (iv ((ofA * r_326) + r_205))]) (k := 11) Cx (s_X9_fact l G u_203 (s0 := r_213) (q := 1) iu_203 (by omega) (by omega)) (c_X9_120 Cx rfl rfl (rmk_ok (by omega) (by decide))) hW (by decide) rfl rfl rfl hl.1 rfl (Nat.le_of_ble_eq_true rfl) dX9_named_171 ⟨Nat.le_of_ble_eq_true rfl, Nat.le_of_ble_eq_true rfl⟩) hL (fun r_329 u_327 H locs k_328 hW hL => ?_)
                    obtain ⟨eu_327, xu_327⟩ := k_328
                    rw [eu_327] at hW
                    have yu_327 := xu_327.2
                    unfold fr8 at yu_327
                    have lp2 : r_329 = N.2.2.1 (N.2.2.1 s0 4) 1 := (by have q1 := (hK.2 s0 (by omega) (by omega)).2.2.1 h7 4 (by omega); have q2 := (nr_214.2.2 (N.2.2.1 s0 4) (by omega) (by omega)).2.1 (by rcases q1 with z | z; (exfalso; omega); exact z.2.2); rw [q2.1, ← fs2]; exact xu_327.1)
                    have lpb2 : 0 ≤ r_329 ∧ r_329 ≤ 99999 := (by have q1 := (hK.2 s0 (by omega) (by omega)).2.2.1 h7 4 (by omega); rcases q1 with z | z; (exfalso; omega); (have q4 := (hK.2 _ z.1 z.2.1).2.1 z.2.2; rw [lp2]; omega))
                    refine r_isub hx hb dX9_named_174 ?_
                    refine lv_istore (lv' := [(5, .int (iv (((ofA * r_326) + r_205) - r_329))), (6, .int (iv 0)), (10, .int (iv r_213)), (4, .int (iv 2)), (9, .int (iv r_205)), (8, .int (iv 4)), (7, .int (iv 1)), (3, .int (iv (S.1 11 13))), (0, .ref (G.2.2.1 + 11)), (1, .int (iv dd)), (2, .int (iv s0))]) hx hb dX9_named_175 hl (by decide) rfl (fun ls hl => ?_)
                    exact join_177 0 (((ofA * r_326) + r_205) - r_329) _ _ _ (by omega) (by omega) ⟨fun z => absurd z (by omega), fun z => ⟨(by first | (rw [← sz2, ← lp2]; done) | (rw [← sz2, ← lp2]; omega)), (by omega), (fun h => by first | (exfalso; omega) | exact ⟨by omega, by constructor <;> omega⟩), (fun h y => by have y1 := y.1; have y2 := y.2.1; have y3 := y.2.2; omega)⟩⟩ hW hL (lv_sub hl [2, 3, 4, 5, 6, 1, 0, 7, 8, 9, 10] rfl)
                  · refine lv_iload hx hb dX9_named_136 (lv_at hl 2 rfl) ?_
                    refine lv_aload_n hx hb dX9_named_138 rfl (lv_at hl 8 rfl) ?_
                    refine lv_iload hx hb dX9_named_139 (lv_at hl 0 rfl) ?_
                    refine lv_iconst (v := iv 2) hx hb dX9_named_141 (by decide) ?_
                    refine sBi (sV (As := [.int (iv r_213), .int (iv 2)]) (rest := [.int (iv r_205)]) (k := 11) Cx (s_X9_fact l G u_203 (s0 := r_213) (q := 2) iu_203 (by omega) (by omega)) (c_X9_120 Cx rfl rfl (rmk_ok (by omega) (by decide))) hW (by decide) rfl rfl rfl hl.1 rfl (Nat.le_of_ble_eq_true rfl) dX9_named_142 ⟨Nat.le_of_ble_eq_true rfl, Nat.le_of_ble_eq_true rfl⟩) hL (fun r_332 u_330 H locs k_331 hW hL => ?_)
                    obtain ⟨eu_330, xu_330⟩ := k_331
                    rw [eu_330] at hW
                    have yu_330 := xu_330.2
                    unfold fr8 at yu_330
                    have hh2 : r_332 = N.2.2.1 (N.2.2.1 s0 4) 2 := (by have q1 := (hK.2 s0 (by omega) (by omega)).2.2.1 h7 4 (by omega); have q2 := (nr_214.2.2 (N.2.2.1 s0 4) (by omega) (by omega)).2.1 (by rcases q1 with z | z; (exfalso; omega); exact z.2.2); rw [q2.2, ← fs2]; exact xu_330.1)
                    have hhb2 : 0 ≤ r_332 ∧ r_332 ≤ 99999 := (by have q1 := (hK.2 s0 (by omega) (by omega)).2.2.1 h7 4 (by omega); rcases q1 with z | z; (exfalso; omega); (have q4 := (hK.2 _ z.1 z.2.1).2.1 z.2.2; rw [hh2]; omega))
                    refine r_icmp_gt (tgt := 152) hx hb ⟨(by omega), (by omega)⟩ ⟨(by omega), (by omega)⟩ dX9_named_145 (by decide) (fun c_333 => ?_) (fun c_333 => ?_)
                    · refine lv_iconst (v := iv 0) hx hb dX9_named_152 (by decide) ?_
                      refine lv_istore (lv' := [(6, .int (iv 0)), (10, .int (iv r_213)), (4, .int (iv 2)), (9, .int (iv r_205)), (8, .int (iv 4)), (7, .int (iv 1)), (5, .int (iv ofA)), (3, .int (iv (S.1 11 13))), (0, .ref (G.2.2.1 + 11)), (1, .int (iv dd)), (2, .int (iv s0))]) hx hb dX9_named_153 hl (by decide) rfl (fun ls hl => ?_)
                      refine lv_iload hx hb dX9_named_155 (lv_at hl 6 rfl) ?_
                      refine lv_aload_n hx hb dX9_named_157 rfl (lv_at hl 8 rfl) ?_
                      refine lv_iload hx hb dX9_named_158 (lv_at hl 1 rfl) ?_
                      refine sBi (sV (As := [.int (iv r_213)]) (rest := [.int (iv ofA)]) (k := 11) Cx (s_X9_setSize l G u_203 (s0 := r_213) iu_203 (by omega)) (c_X9_149 Cx rfl rfl (rmk_ok (by omega) (by decide))) hW (by decide) rfl rfl rfl hl.1 rfl (Nat.le_of_ble_eq_true rfl) dX9_named_160 ⟨Nat.le_of_ble_eq_true rfl, Nat.le_of_ble_eq_true rfl⟩) hL (fun r_336 u_334 H locs k_335 hW hL => ?_)
                      obtain ⟨eu_334, xu_334⟩ := k_335
                      rw [eu_334] at hW
                      have sz2 : r_336 = siz N (N.2.2.1 s0 4) := (by have q1 := (hK.2 s0 (by omega) (by omega)).2.2.1 h7 4 (by omega); have q2 := (nr_214.2.2 (N.2.2.1 s0 4) (by omega) (by omega)).2.1 (by rcases q1 with z | z; (exfalso; omega); exact z.2.2); have q3 := xu_334.2.1 (by omega); rw [q3, fs2, ← q2.1, ← q2.2]; exact (if_neg (by omega)).symm)
                      have sb2 : 1 ≤ r_336 ∧ r_336 ≤ 12 := (by have q1 := (hK.2 s0 (by omega) (by omega)).2.2.1 h7 4 (by omega); rcases q1 with z | z; (exfalso; omega); (have q4 := (hK.2 _ z.1 z.2.1).2.1 z.2.2; rw [sz2]; unfold siz; rw [if_neg (by omega)]; omega))
                      have mb : -4000000 ≤ ofA * r_336 ∧ ofA * r_336 ≤ 4000000 := (mulc (by omega) (by omega))
                      refine r_imul hx hb dX9_named_163 ?_
                      refine lv_iload hx hb dX9_named_164 (lv_at hl 3 rfl) ?_
                      refine r_iadd hx hb dX9_named_166 ?_
                      refine lv_aload_n hx hb dX9_named_167 rfl (lv_at hl 8 rfl) ?_
                      refine lv_iload hx hb dX9_named_168 (lv_at hl 1 rfl) ?_
                      refine lv_iconst (v := iv 1) hx hb dX9_named_170 (by decide) ?_
                      refine sBi (sV (As := [.int (iv r_213), .int (iv 1)]) (rest := [.int (iv ((ofA * r_336) + r_205))]) (k := 11) Cx (s_X9_fact l G u_203 (s0 := r_213) (q := 1) iu_203 (by omega) (by omega)) (c_X9_120 Cx rfl rfl (rmk_ok (by omega) (by decide))) hW (by decide) rfl rfl rfl hl.1 rfl (Nat.le_of_ble_eq_true rfl) dX9_named_171 ⟨Nat.le_of_ble_eq_true rfl, Nat.le_of_ble_eq_true rfl⟩) hL (fun r_339 u_337 H locs k_338 hW hL => ?_)
                      obtain ⟨eu_337, xu_337⟩ := k_338
                      rw [eu_337] at hW
                      have yu_337 := xu_337.2
                      unfold fr8 at yu_337
                      have lp2 : r_339 = N.2.2.1 (N.2.2.1 s0 4) 1 := (by have q1 := (hK.2 s0 (by omega) (by omega)).2.2.1 h7 4 (by omega); have q2 := (nr_214.2.2 (N.2.2.1 s0 4) (by omega) (by omega)).2.1 (by rcases q1 with z | z; (exfalso; omega); exact z.2.2); rw [q2.1, ← fs2]; exact xu_337.1)
                      have lpb2 : 0 ≤ r_339 ∧ r_339 ≤ 99999 := (by have q1 := (hK.2 s0 (by omega) (by omega)).2.2.1 h7 4 (by omega); rcases q1 with z | z; (exfalso; omega); (have q4 := (hK.2 _ z.1 z.2.1).2.1 z.2.2; rw [lp2]; omega))
                      refine r_isub hx hb dX9_named_174 ?_
                      refine lv_istore (lv' := [(5, .int (iv (((ofA * r_336) + r_205) - r_339))), (6, .int (iv 0)), (10, .int (iv r_213)), (4, .int (iv 2)), (9, .int (iv r_205)), (8, .int (iv 4)), (7, .int (iv 1)), (3, .int (iv (S.1 11 13))), (0, .ref (G.2.2.1 + 11)), (1, .int (iv dd)), (2, .int (iv s0))]) hx hb dX9_named_175 hl (by decide) rfl (fun ls hl => ?_)
                      exact join_177 0 (((ofA * r_336) + r_205) - r_339) _ _ _ (by omega) (by omega) ⟨fun z => absurd z (by omega), fun z => ⟨(by first | (rw [← sz2, ← lp2]; done) | (rw [← sz2, ← lp2]; omega)), (by omega), (fun h => by first | (exfalso; omega) | exact ⟨by omega, by constructor <;> omega⟩), (fun h y => by have y1 := y.1; have y2 := y.2.1; have y3 := y.2.2; omega)⟩⟩ hW hL (lv_sub hl [2, 3, 4, 5, 6, 1, 0, 7, 8, 9, 10] rfl)
                    · refine lv_iconst (v := iv 1) hx hb dX9_named_148 (by decide) ?_
                      refine lv_goto (tgt := 153) hx hb dX9_named_149 (by decide) ?_
                      refine lv_istore (lv' := [(6, .int (iv 1)), (10, .int (iv r_213)), (4, .int (iv 2)), (9, .int (iv r_205)), (8, .int (iv 4)), (7, .int (iv 1)), (5, .int (iv ofA)), (3, .int (iv (S.1 11 13))), (0, .ref (G.2.2.1 + 11)), (1, .int (iv dd)), (2, .int (iv s0))]) hx hb dX9_named_153 hl (by decide) rfl (fun ls hl => ?_)
                      refine lv_iload hx hb dX9_named_155 (lv_at hl 6 rfl) ?_
                      refine lv_aload_n hx hb dX9_named_157 rfl (lv_at hl 8 rfl) ?_
                      refine lv_iload hx hb dX9_named_158 (lv_at hl 1 rfl) ?_
                      refine sBi (sV (As := [.int (iv r_213)]) (rest := [.int (iv ofA)]) (k := 11) Cx (s_X9_setSize l G u_203 (s0 := r_213) iu_203 (by omega)) (c_X9_149 Cx rfl rfl (rmk_ok (by omega) (by decide))) hW (by decide) rfl rfl rfl hl.1 rfl (Nat.le_of_ble_eq_true rfl) dX9_named_160 ⟨Nat.le_of_ble_eq_true rfl, Nat.le_of_ble_eq_true rfl⟩) hL (fun r_342 u_340 H locs k_341 hW hL => ?_)
                      obtain ⟨eu_340, xu_340⟩ := k_341
                      rw [eu_340] at hW
                      have sz2 : r_342 = siz N (N.2.2.1 s0 4) := (by have q1 := (hK.2 s0 (by omega) (by omega)).2.2.1 h7 4 (by omega); have q2 := (nr_214.2.2 (N.2.2.1 s0 4) (by omega) (by omega)).2.1 (by rcases q1 with z | z; (exfalso; omega); exact z.2.2); have q3 := xu_340.2.1 (by omega); rw [q3, fs2, ← q2.1, ← q2.2]; exact (if_neg (by omega)).symm)
                      have sb2 : 1 ≤ r_342 ∧ r_342 ≤ 12 := (by have q1 := (hK.2 s0 (by omega) (by omega)).2.2.1 h7 4 (by omega); rcases q1 with z | z; (exfalso; omega); (have q4 := (hK.2 _ z.1 z.2.1).2.1 z.2.2; rw [sz2]; unfold siz; rw [if_neg (by omega)]; omega))
                      have mb : -4000000 ≤ ofA * r_342 ∧ ofA * r_342 ≤ 4000000 := (mulc (by omega) (by omega))
                      refine r_imul hx hb dX9_named_163 ?_
                      refine lv_iload hx hb dX9_named_164 (lv_at hl 3 rfl) ?_
                      refine r_iadd hx hb dX9_named_166 ?_
                      refine lv_aload_n hx hb dX9_named_167 rfl (lv_at hl 8 rfl) ?_
                      refine lv_iload hx hb dX9_named_168 (lv_at hl 1 rfl) ?_
                      refine lv_iconst (v := iv 1) hx hb dX9_named_170 (by decide) ?_
                      refine sBi (sV (As := [.int (iv r_213), .int (iv 1)]) (rest := [.int (iv ((ofA * r_342) + r_205))]) (k := 11) Cx (s_X9_fact l G u_203 (s0 := r_213) (q := 1) iu_203 (by omega) (by omega)) (c_X9_120 Cx rfl rfl (rmk_ok (by omega) (by decide))) hW (by decide) rfl rfl rfl hl.1 rfl (Nat.le_of_ble_eq_true rfl) dX9_named_171 ⟨Nat.le_of_ble_eq_true rfl, Nat.le_of_ble_eq_true rfl⟩) hL (fun r_345 u_343 H locs k_344 hW hL => ?_)
                      obtain ⟨eu_343, xu_343⟩ := k_344
                      rw [eu_343] at hW
                      have yu_343 := xu_343.2
                      unfold fr8 at yu_343
                      have lp2 : r_345 = N.2.2.1 (N.2.2.1 s0 4) 1 := (by have q1 := (hK.2 s0 (by omega) (by omega)).2.2.1 h7 4 (by omega); have q2 := (nr_214.2.2 (N.2.2.1 s0 4) (by omega) (by omega)).2.1 (by rcases q1 with z | z; (exfalso; omega); exact z.2.2); rw [q2.1, ← fs2]; exact xu_343.1)
                      have lpb2 : 0 ≤ r_345 ∧ r_345 ≤ 99999 := (by have q1 := (hK.2 s0 (by omega) (by omega)).2.2.1 h7 4 (by omega); rcases q1 with z | z; (exfalso; omega); (have q4 := (hK.2 _ z.1 z.2.1).2.1 z.2.2; rw [lp2]; omega))
                      refine r_isub hx hb dX9_named_174 ?_
                      refine lv_istore (lv' := [(5, .int (iv (((ofA * r_342) + r_205) - r_345))), (6, .int (iv 1)), (10, .int (iv r_213)), (4, .int (iv 2)), (9, .int (iv r_205)), (8, .int (iv 4)), (7, .int (iv 1)), (3, .int (iv (S.1 11 13))), (0, .ref (G.2.2.1 + 11)), (1, .int (iv dd)), (2, .int (iv s0))]) hx hb dX9_named_175 hl (by decide) rfl (fun ls hl => ?_)
                      exact join_177 1 (((ofA * r_342) + r_205) - r_345) _ _ _ (by omega) (by omega) ⟨fun z => absurd z (by omega), fun z => ⟨(by first | (rw [← sz2, ← lp2]; done) | (rw [← sz2, ← lp2]; omega)), (by omega), (fun h => by first | (exfalso; omega) | exact ⟨by omega, by constructor <;> omega⟩), (fun h y => by have y1 := y.1; have y2 := y.2.1; have y3 := y.2.2; omega)⟩⟩ hW hL (lv_sub hl [2, 3, 4, 5, 6, 1, 0, 7, 8, 9, 10] rfl)
            · have ia2 := xu_203.2.2.2 (by omega)
              rw [kv_108.1, kv_108.2.1] at ia2
              refine lv_iconst (v := iv 0) hx hb dX9_named_100 (by decide) ?_
              have q_346 : 0 ≤ u_203.1 11 10 ∧ u_203.1 11 10 ≤ 8 := iu_203.fi 11 10 9 (by decide) rfl
              have q_347 : 0 ≤ u_203.1 11 11 ∧ u_203.1 11 11 ≤ 12 := iu_203.fi 11 11 9 (by decide) rfl
              have q_348 : (-2147483648) ≤ u_203.1 11 12 ∧ u_203.1 11 12 ≤ 2147483647 := iu_203.fi 11 12 9 (by decide) rfl
              have q_349 : (-2147483648) ≤ u_203.1 11 13 ∧ u_203.1 11 13 ≤ 2147483647 := iu_203.fi 11 13 9 (by decide) rfl
              have q_350 : 0 ≤ u_203.1 11 9 ∧ u_203.1 11 9 ≤ 128 := iu_203.fi 11 9 9 (by decide) rfl
              exact sZret Cx hr hlk hW hL (by omega) ⟨iu_203, F_206, ⟨⟨⟨(fun i => ((xu_203.1.1 i).trans (xu_91.1.1 i))), (fun _ => by first | omega | exact xu_203.1.1.2 (by omega))⟩, by omega, by omega, by omega, by omega⟩, (fun h => absurd h (by omega)), (fun _ => eN_4 hs0 hs.1 h7 (by omega) ia1 (by omega) ia2)⟩⟩ dX9_named_101
        refine lv_iload hx hb dX9_named_114 (lv_at hl 0 rfl) ?_
        refine r_if_lt (tgt := 177) hx hb ⟨(by omega), (by omega)⟩ dX9_named_116 (by decide) (fun c_351 => ?_) (fun c_351 => ?_)
        · exact join_177 1 0 _ _ _ (by omega) (by omega) ⟨fun z => ⟨by omega, by omega⟩, fun z => absurd z (by omega)⟩ hW hL (lv_sub hl [0, 1, 2, 3, 4, 5, 6, 7, 8, 9, 10] rfl)
        · refine lv_iload hx hb dX9_named_119 (lv_at hl 5 rfl) ?_
          refine r_if_eq (tgt := 152) hx hb ⟨(by omega), (by omega)⟩ dX9_named_121 (by decide) (fun c => absurd c (by omega)) (fun _ => ?_)
          refine lv_iload hx hb dX9_named_124 (lv_at hl 2 rfl) ?_
          refine lv_aload_n hx hb dX9_named_126 rfl (lv_at hl 8 rfl) ?_
          refine lv_iload hx hb dX9_named_127 (lv_at hl 0 rfl) ?_
          refine lv_iconst (v := iv 1) hx hb dX9_named_129 (by decide) ?_
          refine sBi (sV (As := [.int (iv r_101), .int (iv 1)]) (rest := [.int (iv r_93)]) (k := 11) Cx (s_X9_fact l G u_91 (s0 := r_101) (q := 1) iu_91 (by omega) (by omega)) (c_X9_120 Cx rfl rfl (rmk_ok (by omega) (by decide))) hW (by decide) rfl rfl rfl hl.1 rfl (Nat.le_of_ble_eq_true rfl) dX9_named_130 ⟨Nat.le_of_ble_eq_true rfl, Nat.le_of_ble_eq_true rfl⟩) hL (fun r_354 u_352 H locs k_353 hW hL => ?_)
          obtain ⟨eu_352, xu_352⟩ := k_353
          rw [eu_352] at hW
          have yu_352 := xu_352.2
          unfold fr8 at yu_352
          have lo1 : r_354 = N.2.2.1 (N.2.2.1 s0 3) 1 := (by have q1 := (hK.2 s0 (by omega) (by omega)).2.2.1 h7 3 (by omega); have q2 := (nr_102.2.2 (N.2.2.1 s0 3) (by omega) (by omega)).2.1 (by rcases q1 with z | z; (exfalso; omega); exact z.2.2); rw [q2.1, ← fs1]; exact xu_352.1)
          have lob1 : 0 ≤ r_354 ∧ r_354 ≤ 99999 := (by have q1 := (hK.2 s0 (by omega) (by omega)).2.2.1 h7 3 (by omega); rcases q1 with z | z; (exfalso; omega); (have q4 := (hK.2 _ z.1 z.2.1).2.1 z.2.2; rw [lo1]; omega))
          refine r_icmp_lt (tgt := 152) hx hb ⟨(by omega), (by omega)⟩ ⟨(by omega), (by omega)⟩ dX9_named_133 (by decide) (fun c_355 => ?_) (fun c_355 => ?_)
          · refine lv_iconst (v := iv 0) hx hb dX9_named_152 (by decide) ?_
            refine lv_istore (lv' := [(6, .int (iv 0)), (10, .int (iv r_101)), (4, .int (iv 1)), (9, .int (iv r_93)), (8, .int (iv 3)), (7, .int (iv 1)), (5, .int (iv 0)), (3, .int (iv (S.1 11 13))), (0, .ref (G.2.2.1 + 11)), (1, .int (iv dd)), (2, .int (iv s0))]) hx hb dX9_named_153 hl (by decide) rfl (fun ls hl => ?_)
            refine lv_iload hx hb dX9_named_155 (lv_at hl 6 rfl) ?_
            refine lv_aload_n hx hb dX9_named_157 rfl (lv_at hl 8 rfl) ?_
            refine lv_iload hx hb dX9_named_158 (lv_at hl 1 rfl) ?_
            refine sBi (sV (As := [.int (iv r_101)]) (rest := [.int (iv 0)]) (k := 11) Cx (s_X9_setSize l G u_91 (s0 := r_101) iu_91 (by omega)) (c_X9_149 Cx rfl rfl (rmk_ok (by omega) (by decide))) hW (by decide) rfl rfl rfl hl.1 rfl (Nat.le_of_ble_eq_true rfl) dX9_named_160 ⟨Nat.le_of_ble_eq_true rfl, Nat.le_of_ble_eq_true rfl⟩) hL (fun r_358 u_356 H locs k_357 hW hL => ?_)
            obtain ⟨eu_356, xu_356⟩ := k_357
            rw [eu_356] at hW
            have sz1 : r_358 = siz N (N.2.2.1 s0 3) := (by have q1 := (hK.2 s0 (by omega) (by omega)).2.2.1 h7 3 (by omega); have q2 := (nr_102.2.2 (N.2.2.1 s0 3) (by omega) (by omega)).2.1 (by rcases q1 with z | z; (exfalso; omega); exact z.2.2); have q3 := xu_356.2.1 (by omega); rw [q3, fs1, ← q2.1, ← q2.2]; exact (if_neg (by omega)).symm)
            have sb1 : 1 ≤ r_358 ∧ r_358 ≤ 12 := (by have q1 := (hK.2 s0 (by omega) (by omega)).2.2.1 h7 3 (by omega); rcases q1 with z | z; (exfalso; omega); (have q4 := (hK.2 _ z.1 z.2.1).2.1 z.2.2; rw [sz1]; unfold siz; rw [if_neg (by omega)]; omega))
            refine r_imul hx hb dX9_named_163 ?_
            refine lv_iload hx hb dX9_named_164 (lv_at hl 3 rfl) ?_
            refine r_iadd hx hb dX9_named_166 ?_
            refine lv_aload_n hx hb dX9_named_167 rfl (lv_at hl 8 rfl) ?_
            refine lv_iload hx hb dX9_named_168 (lv_at hl 1 rfl) ?_
            refine lv_iconst (v := iv 1) hx hb dX9_named_170 (by decide) ?_
            refine sBi (sV (As := [.int (iv r_101), .int (iv 1)]) (rest := [.int (iv ((0 * r_358) + r_93))]) (k := 11) Cx (s_X9_fact l G u_91 (s0 := r_101) (q := 1) iu_91 (by omega) (by omega)) (c_X9_120 Cx rfl rfl (rmk_ok (by omega) (by decide))) hW (by decide) rfl rfl rfl hl.1 rfl (Nat.le_of_ble_eq_true rfl) dX9_named_171 ⟨Nat.le_of_ble_eq_true rfl, Nat.le_of_ble_eq_true rfl⟩) hL (fun r_361 u_359 H locs k_360 hW hL => ?_)
            obtain ⟨eu_359, xu_359⟩ := k_360
            rw [eu_359] at hW
            have yu_359 := xu_359.2
            unfold fr8 at yu_359
            have lp1 : r_361 = N.2.2.1 (N.2.2.1 s0 3) 1 := (by have q1 := (hK.2 s0 (by omega) (by omega)).2.2.1 h7 3 (by omega); have q2 := (nr_102.2.2 (N.2.2.1 s0 3) (by omega) (by omega)).2.1 (by rcases q1 with z | z; (exfalso; omega); exact z.2.2); rw [q2.1, ← fs1]; exact xu_359.1)
            have lpb1 : 0 ≤ r_361 ∧ r_361 ≤ 99999 := (by have q1 := (hK.2 s0 (by omega) (by omega)).2.2.1 h7 3 (by omega); rcases q1 with z | z; (exfalso; omega); (have q4 := (hK.2 _ z.1 z.2.1).2.1 z.2.2; rw [lp1]; omega))
            refine r_isub hx hb dX9_named_174 ?_
            refine lv_istore (lv' := [(5, .int (iv (((0 * r_358) + r_93) - r_361))), (6, .int (iv 0)), (10, .int (iv r_101)), (4, .int (iv 1)), (9, .int (iv r_93)), (8, .int (iv 3)), (7, .int (iv 1)), (3, .int (iv (S.1 11 13))), (0, .ref (G.2.2.1 + 11)), (1, .int (iv dd)), (2, .int (iv s0))]) hx hb dX9_named_175 hl (by decide) rfl (fun ls hl => ?_)
            exact join_177 0 (((0 * r_358) + r_93) - r_361) _ _ _ (by omega) (by omega) ⟨fun z => absurd z (by omega), fun z => ⟨(by first | (rw [← sz1, ← lp1]; done) | (rw [← sz1, ← lp1]; omega)), (by omega), (fun h => by first | (exfalso; omega) | exact ⟨by omega, by constructor <;> omega⟩), (fun h y => by have y1 := y.1; have y2 := y.2.1; have y3 := y.2.2; omega)⟩⟩ hW hL (lv_sub hl [2, 3, 4, 5, 6, 1, 0, 7, 8, 9, 10] rfl)
          · refine lv_iload hx hb dX9_named_136 (lv_at hl 2 rfl) ?_
            refine lv_aload_n hx hb dX9_named_138 rfl (lv_at hl 8 rfl) ?_
            refine lv_iload hx hb dX9_named_139 (lv_at hl 0 rfl) ?_
            refine lv_iconst (v := iv 2) hx hb dX9_named_141 (by decide) ?_
            refine sBi (sV (As := [.int (iv r_101), .int (iv 2)]) (rest := [.int (iv r_93)]) (k := 11) Cx (s_X9_fact l G u_91 (s0 := r_101) (q := 2) iu_91 (by omega) (by omega)) (c_X9_120 Cx rfl rfl (rmk_ok (by omega) (by decide))) hW (by decide) rfl rfl rfl hl.1 rfl (Nat.le_of_ble_eq_true rfl) dX9_named_142 ⟨Nat.le_of_ble_eq_true rfl, Nat.le_of_ble_eq_true rfl⟩) hL (fun r_364 u_362 H locs k_363 hW hL => ?_)
            obtain ⟨eu_362, xu_362⟩ := k_363
            rw [eu_362] at hW
            have yu_362 := xu_362.2
            unfold fr8 at yu_362
            have hh1 : r_364 = N.2.2.1 (N.2.2.1 s0 3) 2 := (by have q1 := (hK.2 s0 (by omega) (by omega)).2.2.1 h7 3 (by omega); have q2 := (nr_102.2.2 (N.2.2.1 s0 3) (by omega) (by omega)).2.1 (by rcases q1 with z | z; (exfalso; omega); exact z.2.2); rw [q2.2, ← fs1]; exact xu_362.1)
            have hhb1 : 0 ≤ r_364 ∧ r_364 ≤ 99999 := (by have q1 := (hK.2 s0 (by omega) (by omega)).2.2.1 h7 3 (by omega); rcases q1 with z | z; (exfalso; omega); (have q4 := (hK.2 _ z.1 z.2.1).2.1 z.2.2; rw [hh1]; omega))
            refine r_icmp_gt (tgt := 152) hx hb ⟨(by omega), (by omega)⟩ ⟨(by omega), (by omega)⟩ dX9_named_145 (by decide) (fun c_365 => ?_) (fun c_365 => ?_)
            · refine lv_iconst (v := iv 0) hx hb dX9_named_152 (by decide) ?_
              refine lv_istore (lv' := [(6, .int (iv 0)), (10, .int (iv r_101)), (4, .int (iv 1)), (9, .int (iv r_93)), (8, .int (iv 3)), (7, .int (iv 1)), (5, .int (iv 0)), (3, .int (iv (S.1 11 13))), (0, .ref (G.2.2.1 + 11)), (1, .int (iv dd)), (2, .int (iv s0))]) hx hb dX9_named_153 hl (by decide) rfl (fun ls hl => ?_)
              refine lv_iload hx hb dX9_named_155 (lv_at hl 6 rfl) ?_
              refine lv_aload_n hx hb dX9_named_157 rfl (lv_at hl 8 rfl) ?_
              refine lv_iload hx hb dX9_named_158 (lv_at hl 1 rfl) ?_
              refine sBi (sV (As := [.int (iv r_101)]) (rest := [.int (iv 0)]) (k := 11) Cx (s_X9_setSize l G u_91 (s0 := r_101) iu_91 (by omega)) (c_X9_149 Cx rfl rfl (rmk_ok (by omega) (by decide))) hW (by decide) rfl rfl rfl hl.1 rfl (Nat.le_of_ble_eq_true rfl) dX9_named_160 ⟨Nat.le_of_ble_eq_true rfl, Nat.le_of_ble_eq_true rfl⟩) hL (fun r_368 u_366 H locs k_367 hW hL => ?_)
              obtain ⟨eu_366, xu_366⟩ := k_367
              rw [eu_366] at hW
              have sz1 : r_368 = siz N (N.2.2.1 s0 3) := (by have q1 := (hK.2 s0 (by omega) (by omega)).2.2.1 h7 3 (by omega); have q2 := (nr_102.2.2 (N.2.2.1 s0 3) (by omega) (by omega)).2.1 (by rcases q1 with z | z; (exfalso; omega); exact z.2.2); have q3 := xu_366.2.1 (by omega); rw [q3, fs1, ← q2.1, ← q2.2]; exact (if_neg (by omega)).symm)
              have sb1 : 1 ≤ r_368 ∧ r_368 ≤ 12 := (by have q1 := (hK.2 s0 (by omega) (by omega)).2.2.1 h7 3 (by omega); rcases q1 with z | z; (exfalso; omega); (have q4 := (hK.2 _ z.1 z.2.1).2.1 z.2.2; rw [sz1]; unfold siz; rw [if_neg (by omega)]; omega))
              refine r_imul hx hb dX9_named_163 ?_
              refine lv_iload hx hb dX9_named_164 (lv_at hl 3 rfl) ?_
              refine r_iadd hx hb dX9_named_166 ?_
              refine lv_aload_n hx hb dX9_named_167 rfl (lv_at hl 8 rfl) ?_
              refine lv_iload hx hb dX9_named_168 (lv_at hl 1 rfl) ?_
              refine lv_iconst (v := iv 1) hx hb dX9_named_170 (by decide) ?_
              refine sBi (sV (As := [.int (iv r_101), .int (iv 1)]) (rest := [.int (iv ((0 * r_368) + r_93))]) (k := 11) Cx (s_X9_fact l G u_91 (s0 := r_101) (q := 1) iu_91 (by omega) (by omega)) (c_X9_120 Cx rfl rfl (rmk_ok (by omega) (by decide))) hW (by decide) rfl rfl rfl hl.1 rfl (Nat.le_of_ble_eq_true rfl) dX9_named_171 ⟨Nat.le_of_ble_eq_true rfl, Nat.le_of_ble_eq_true rfl⟩) hL (fun r_371 u_369 H locs k_370 hW hL => ?_)
              obtain ⟨eu_369, xu_369⟩ := k_370
              rw [eu_369] at hW
              have yu_369 := xu_369.2
              unfold fr8 at yu_369
              have lp1 : r_371 = N.2.2.1 (N.2.2.1 s0 3) 1 := (by have q1 := (hK.2 s0 (by omega) (by omega)).2.2.1 h7 3 (by omega); have q2 := (nr_102.2.2 (N.2.2.1 s0 3) (by omega) (by omega)).2.1 (by rcases q1 with z | z; (exfalso; omega); exact z.2.2); rw [q2.1, ← fs1]; exact xu_369.1)
              have lpb1 : 0 ≤ r_371 ∧ r_371 ≤ 99999 := (by have q1 := (hK.2 s0 (by omega) (by omega)).2.2.1 h7 3 (by omega); rcases q1 with z | z; (exfalso; omega); (have q4 := (hK.2 _ z.1 z.2.1).2.1 z.2.2; rw [lp1]; omega))
              refine r_isub hx hb dX9_named_174 ?_
              refine lv_istore (lv' := [(5, .int (iv (((0 * r_368) + r_93) - r_371))), (6, .int (iv 0)), (10, .int (iv r_101)), (4, .int (iv 1)), (9, .int (iv r_93)), (8, .int (iv 3)), (7, .int (iv 1)), (3, .int (iv (S.1 11 13))), (0, .ref (G.2.2.1 + 11)), (1, .int (iv dd)), (2, .int (iv s0))]) hx hb dX9_named_175 hl (by decide) rfl (fun ls hl => ?_)
              exact join_177 0 (((0 * r_368) + r_93) - r_371) _ _ _ (by omega) (by omega) ⟨fun z => absurd z (by omega), fun z => ⟨(by first | (rw [← sz1, ← lp1]; done) | (rw [← sz1, ← lp1]; omega)), (by omega), (fun h => by first | (exfalso; omega) | exact ⟨by omega, by constructor <;> omega⟩), (fun h y => by have y1 := y.1; have y2 := y.2.1; have y3 := y.2.2; omega)⟩⟩ hW hL (lv_sub hl [2, 3, 4, 5, 6, 1, 0, 7, 8, 9, 10] rfl)
            · refine lv_iconst (v := iv 1) hx hb dX9_named_148 (by decide) ?_
              refine lv_goto (tgt := 153) hx hb dX9_named_149 (by decide) ?_
              refine lv_istore (lv' := [(6, .int (iv 1)), (10, .int (iv r_101)), (4, .int (iv 1)), (9, .int (iv r_93)), (8, .int (iv 3)), (7, .int (iv 1)), (5, .int (iv 0)), (3, .int (iv (S.1 11 13))), (0, .ref (G.2.2.1 + 11)), (1, .int (iv dd)), (2, .int (iv s0))]) hx hb dX9_named_153 hl (by decide) rfl (fun ls hl => ?_)
              refine lv_iload hx hb dX9_named_155 (lv_at hl 6 rfl) ?_
              refine lv_aload_n hx hb dX9_named_157 rfl (lv_at hl 8 rfl) ?_
              refine lv_iload hx hb dX9_named_158 (lv_at hl 1 rfl) ?_
              refine sBi (sV (As := [.int (iv r_101)]) (rest := [.int (iv 0)]) (k := 11) Cx (s_X9_setSize l G u_91 (s0 := r_101) iu_91 (by omega)) (c_X9_149 Cx rfl rfl (rmk_ok (by omega) (by decide))) hW (by decide) rfl rfl rfl hl.1 rfl (Nat.le_of_ble_eq_true rfl) dX9_named_160 ⟨Nat.le_of_ble_eq_true rfl, Nat.le_of_ble_eq_true rfl⟩) hL (fun r_374 u_372 H locs k_373 hW hL => ?_)
              obtain ⟨eu_372, xu_372⟩ := k_373
              rw [eu_372] at hW
              have sz1 : r_374 = siz N (N.2.2.1 s0 3) := (by have q1 := (hK.2 s0 (by omega) (by omega)).2.2.1 h7 3 (by omega); have q2 := (nr_102.2.2 (N.2.2.1 s0 3) (by omega) (by omega)).2.1 (by rcases q1 with z | z; (exfalso; omega); exact z.2.2); have q3 := xu_372.2.1 (by omega); rw [q3, fs1, ← q2.1, ← q2.2]; exact (if_neg (by omega)).symm)
              have sb1 : 1 ≤ r_374 ∧ r_374 ≤ 12 := (by have q1 := (hK.2 s0 (by omega) (by omega)).2.2.1 h7 3 (by omega); rcases q1 with z | z; (exfalso; omega); (have q4 := (hK.2 _ z.1 z.2.1).2.1 z.2.2; rw [sz1]; unfold siz; rw [if_neg (by omega)]; omega))
              refine r_imul hx hb dX9_named_163 ?_
              refine lv_iload hx hb dX9_named_164 (lv_at hl 3 rfl) ?_
              refine r_iadd hx hb dX9_named_166 ?_
              refine lv_aload_n hx hb dX9_named_167 rfl (lv_at hl 8 rfl) ?_
              refine lv_iload hx hb dX9_named_168 (lv_at hl 1 rfl) ?_
              refine lv_iconst (v := iv 1) hx hb dX9_named_170 (by decide) ?_
              refine sBi (sV (As := [.int (iv r_101), .int (iv 1)]) (rest := [.int (iv ((0 * r_374) + r_93))]) (k := 11) Cx (s_X9_fact l G u_91 (s0 := r_101) (q := 1) iu_91 (by omega) (by omega)) (c_X9_120 Cx rfl rfl (rmk_ok (by omega) (by decide))) hW (by decide) rfl rfl rfl hl.1 rfl (Nat.le_of_ble_eq_true rfl) dX9_named_171 ⟨Nat.le_of_ble_eq_true rfl, Nat.le_of_ble_eq_true rfl⟩) hL (fun r_377 u_375 H locs k_376 hW hL => ?_)
              obtain ⟨eu_375, xu_375⟩ := k_376
              rw [eu_375] at hW
              have yu_375 := xu_375.2
              unfold fr8 at yu_375
              have lp1 : r_377 = N.2.2.1 (N.2.2.1 s0 3) 1 := (by have q1 := (hK.2 s0 (by omega) (by omega)).2.2.1 h7 3 (by omega); have q2 := (nr_102.2.2 (N.2.2.1 s0 3) (by omega) (by omega)).2.1 (by rcases q1 with z | z; (exfalso; omega); exact z.2.2); rw [q2.1, ← fs1]; exact xu_375.1)
              have lpb1 : 0 ≤ r_377 ∧ r_377 ≤ 99999 := (by have q1 := (hK.2 s0 (by omega) (by omega)).2.2.1 h7 3 (by omega); rcases q1 with z | z; (exfalso; omega); (have q4 := (hK.2 _ z.1 z.2.1).2.1 z.2.2; rw [lp1]; omega))
              refine r_isub hx hb dX9_named_174 ?_
              refine lv_istore (lv' := [(5, .int (iv (((0 * r_374) + r_93) - r_377))), (6, .int (iv 1)), (10, .int (iv r_101)), (4, .int (iv 1)), (9, .int (iv r_93)), (8, .int (iv 3)), (7, .int (iv 1)), (3, .int (iv (S.1 11 13))), (0, .ref (G.2.2.1 + 11)), (1, .int (iv dd)), (2, .int (iv s0))]) hx hb dX9_named_175 hl (by decide) rfl (fun ls hl => ?_)
              exact join_177 1 (((0 * r_374) + r_93) - r_377) _ _ _ (by omega) (by omega) ⟨fun z => absurd z (by omega), fun z => ⟨(by first | (rw [← sz1, ← lp1]; done) | (rw [← sz1, ← lp1]; omega)), (by omega), (fun h => by first | (exfalso; omega) | exact ⟨by omega, by constructor <;> omega⟩), (fun h y => by have y1 := y.1; have y2 := y.2.1; have y3 := y.2.2; omega)⟩⟩ hW hL (lv_sub hl [2, 3, 4, 5, 6, 1, 0, 7, 8, 9, 10] rfl)
      · have ia1 := xu_91.2.2.2 (by omega)
        rw [kv_16.1, kv_16.2.1] at ia1
        refine lv_iconst (v := iv 0) hx hb dX9_named_100 (by decide) ?_
        have q_378 : 0 ≤ u_91.1 11 10 ∧ u_91.1 11 10 ≤ 8 := iu_91.fi 11 10 9 (by decide) rfl
        have q_379 : 0 ≤ u_91.1 11 11 ∧ u_91.1 11 11 ≤ 12 := iu_91.fi 11 11 9 (by decide) rfl
        have q_380 : (-2147483648) ≤ u_91.1 11 12 ∧ u_91.1 11 12 ≤ 2147483647 := iu_91.fi 11 12 9 (by decide) rfl
        have q_381 : (-2147483648) ≤ u_91.1 11 13 ∧ u_91.1 11 13 ≤ 2147483647 := iu_91.fi 11 13 9 (by decide) rfl
        have q_382 : 0 ≤ u_91.1 11 9 ∧ u_91.1 11 9 ≤ 128 := iu_91.fi 11 9 9 (by decide) rfl
        exact sZret Cx hr hlk hW hL (by omega) ⟨iu_91, F_94, ⟨⟨⟨(fun i => (xu_91.1.1 i)), (fun _ => by first | omega | exact xu_91.1.1.2 (by omega))⟩, by omega, by omega, by omega, by omega⟩, (fun h => absurd h (by omega)), (fun _ => eN_2 hs0 hs.1 h7 (by omega) ia1)⟩⟩ dX9_named_101
  · refine lv_aload_n hx hb dX9_named_24 rfl (lv_at hl 1 rfl) ?_
    refine g_X9_37 Cx hW (k := 11) (by decide) rfl (v := .ref (G.2.2.1 + 83)) (rf_11_6 i_5) dX9_named_25 ?_
    refine lv_iload_n hx hb dX9_named_28 rfl (lv_at hl 2 rfl) ?_
    refine rAald Cx hW (k := 83) (by decide) rfl (by decide) (by omega) (by omega) (r2_83f i_5 hqF (by omega) (by omega)) dX9_named_29 ?_
    refine lv_iconst (v := iv 0) hx hb dX9_named_30 (by decide) ?_
    refine lv_aload_n hx hb dX9_named_31 rfl (lv_at hl 1 rfl) ?_
    refine lv_iload_n hx hb dX9_named_32 rfl (lv_at hl 3 rfl) ?_
    refine lv_iconst (v := iv 1) hx hb dX9_named_33 (by decide) ?_
    refine sBi (sV (As := [.int (iv s0), .int (iv 1)]) (rest := [.int (iv 0), .ref (G.2.2.1 + qF)]) (k := 11) Cx (s_X9_fact l G (uF S 11 13 ((S.1 11 13) + 1)) (s0 := s0) (q := 1) i_5 (by omega) (by omega)) (c_X9_120 Cx rfl rfl (rmk_ok (by omega) (by decide))) hW (by decide) rfl rfl rfl hl.1 rfl (Nat.le_of_ble_eq_true rfl) dX9_named_34 ⟨Nat.le_of_ble_eq_true rfl, Nat.le_of_ble_eq_true rfl⟩) hL (fun r_385 u_383 H locs k_384 hW hL => ?_)
    obtain ⟨eu_383, xu_383⟩ := k_384
    rw [eu_383] at hW
    have yu_383 := xu_383.2
    unfold fr8 at yu_383
    have q_387 : 0 ≤ S.1 11 9 ∧ S.1 11 9 ≤ 128 := hI.fi 11 9 9 (by decide) rfl
    have lk_388 : (uF S 11 13 ((S.1 11 13) + 1)).1 11 9 = S.1 11 9 := uF_ne (fun h => absurd h.2 (by decide))
    have nr_386 : NRc N (uF S 11 13 ((S.1 11 13) + 1)) := hN.of (by omega) (fun j => (F_3 16 rfl).2.2.1 j) (fun j => (F_3 17 rfl).2.1 j) (fun j => (F_3 18 rfl).2.1 j)
    refine r_i2l hx hb ⟨(by omega), (by omega)⟩ dX9_named_37 ?_
    refine rLast Cx hW hL (k := qF) (lr_l lqF) lqF.1 (by decide) (by omega) (by omega) dX9_named_38 (fun H locs hW hL => ?_)
    have F_389 : Fr S (uL (uF S 11 13 ((S.1 11 13) + 1)) qF 0 r_385) (pl [11, qF]) := F_2.L (pl_t pl_h)
    have F_390 : Fr S (uL (uF S 11 13 ((S.1 11 13) + 1)) qF 0 r_385) pR3 := F_3.L (lr_R lqF)
    have i_391 : cX G (uL (uF S 11 13 ((S.1 11 13) + 1)) qF 0 r_385) 0 0 0 := i_5.L ⟨by omega, by omega⟩
    refine lv_iconst (v := iv 1) hx hb dX9_named_39 (by decide) ?_
    have q_392 : 0 ≤ S.1 11 10 ∧ S.1 11 10 ≤ 8 := hI.fi 11 10 9 (by decide) rfl
    have lk_393 : (uL (uF S 11 13 ((S.1 11 13) + 1)) qF 0 r_385).1 11 10 = S.1 11 10 := (uL_f).trans (uF_ne (fun h => absurd h.2 (by decide)))
    have q_394 : 0 ≤ S.1 11 11 ∧ S.1 11 11 ≤ 12 := hI.fi 11 11 9 (by decide) rfl
    have lk_395 : (uL (uF S 11 13 ((S.1 11 13) + 1)) qF 0 r_385).1 11 11 = S.1 11 11 := (uL_f).trans (uF_ne (fun h => absurd h.2 (by decide)))
    have q_396 : (-2147483648) ≤ S.1 11 12 ∧ S.1 11 12 ≤ 2147483647 := hI.fi 11 12 9 (by decide) rfl
    have lk_397 : (uL (uF S 11 13 ((S.1 11 13) + 1)) qF 0 r_385).1 11 12 = S.1 11 12 := (uL_f).trans (uF_ne (fun h => absurd h.2 (by decide)))
    have lk_398 : (uL (uF S 11 13 ((S.1 11 13) + 1)) qF 0 r_385).1 11 13 = (S.1 11 13) + 1 := (uL_f).trans (uF_on)
    have q_399 : 0 ≤ S.1 11 14 ∧ S.1 11 14 ≤ 7 := hI.fi 11 14 9 (by decide) rfl
    have lk_400 : (uL (uF S 11 13 ((S.1 11 13) + 1)) qF 0 r_385).1 11 14 = S.1 11 14 := (uL_f).trans (uF_ne (fun h => absurd h.2 (by decide)))
    have lk_401 : (uL (uF S 11 13 ((S.1 11 13) + 1)) qF 0 r_385).1 11 9 = S.1 11 9 := (uL_f).trans (uF_ne (fun h => absurd h.2 (by decide)))
    have nr_402 : NRc N (uL (uF S 11 13 ((S.1 11 13) + 1)) qF 0 r_385) := hN.of (by omega) (fun j => (F_390 16 rfl).2.2.1 j) (fun j => (F_390 17 rfl).2.1 j) (fun j => (F_390 18 rfl).2.1 j)
    exact sZret Cx hr hlk hW hL (by omega) ⟨i_391, F_389, (by have q2 := nr_386.2.2 s0 (by omega) (by omega); have c2 : N.2.2.1 s0 0 = 2 := q2.1.trans (xu_6.2.1 (by omega)).2; have c1 : r_385 = N.2.2.1 s0 1 := (xu_383.1.trans (q2.2.2.1 c2).symm); have c3 := (hK.2 s0 (by omega) (by omega)).1 c2; have nk : k (pz + 1) ≠ 17 := (by rcases hso with q | q; (exact q.2); (exfalso; omega)); have qe : q = pz + 1 := (by rcases hgx with g | g; (exact absurd g.1 nk); exact g.2); exact ⟨⟨⟨(fun i => rfl), (fun h => absurd h (by decide))⟩, by omega, by omega, by omega, by omega⟩, (fun _ => ⟨(cst r_385), (by rw [show (uL (uF S 11 13 ((S.1 11 13) + 1)) qF 0 r_385).1 11 12 = S.1 11 12 by omega]; rw [eN_0 hs0 hs.1 c2 nk, c1, qe]), (veq_u0 hz), (vb9_cst (by omega)), ⟨by omega, by omega⟩, (by omega), (by omega), nr_402⟩), (fun h => absurd h (by decide))⟩)⟩ dX9_named_40

set_option maxRecDepth 100000 in
set_option maxHeartbeats 4000000 in
theorem e_X9_negated (l : Launch) (G : sG) (S : sS) {N : sN} {k v : Int → Int} {T pz q dd : Int} {dn qF n d1 D : Nat} (hI : cX G S 0 0 0) (hdd : 0 ≤ dd ∧ dd ≤ 29) (hN : Hd (NRc N S)) (hK : Hd (NK N)) (hTV : Hd (TVn k v)) (hkv : Hd (KV S k v T)) (hfk : S.1 11 14 = 0) (hat : S.1 11 13 = pz) (hpz : 0 ≤ pz ∧ pz ≤ 2000) (hlk : 0 ≤ S.1 11 12 ∧ S.1 11 12 ≤ 20000) (hdn : dd = (dn : Int)) (h1 : d1 < D) (h4 : 8 ≤ D) (hn : (n : Int) = 29 - dd) (hnm : N.1 + n ≤ 128) (hqF : qF = 84 + dn) (hF : FX l G d1 (dd + 1) (dn + 1)) (hgx : Hd (ogF T k n (pz + 1) = some q)) (hqb : q ≤ 2001) (hz : Hd (veq (S.2.2.1 qF) (cst 0))) : Met l yX9_negated (.code yX9_negated cX9_negated 2 (some .boolean) :: tb) (rmk D 0 0) (sPc G 294 S [.ref (G.2.2.1 + 11), .int (iv dd)]) (sQi G 294 (fun r u => cX G u 0 0 0 ∧ Fr S u (pEx (dn + 1) (dn + 1) dn) ∧ (EO S u N q r ((eF T k v n N (S.1 11 12) (pz + 1)).bind (fun y => some (y.1, vad (cst 0) y.2.1 (-1), y.2.2))) qF))) 0 0 (sF G) := by
  refine sEnter (by decide) (Nat.le_of_ble_eq_true rfl) ?_
  intro p e s m args below meth c Cx hr hlk hnm hW ls hl
  have Cx : sC G p m c cX9_negated 2 s args RX9 := Cx
  obtain ⟨hx, hb, hml, hown, hts⟩ := id Cx.1
  have hL : sL G [] := sL_nil
  have hl : lv_has ls 2 [(0, .ref (G.2.2.1 + 11)), (1, .int (iv dd))] := hl
  have hW0 := hW
  obtain ⟨qG, hqG⟩ : ∃ z : Nat, z = 84 + (dn + 1) := ⟨_, rfl⟩
  have lqF := lr_83 hqF (by omega)
  have lqG := lr_83 hqG (by omega)
  have hkn : 0 ≤ S.1 11 9 ∧ S.1 11 9 ≤ 128 := hI.fi 11 9 9 (by decide) rfl
  have hTb : 0 ≤ S.1 12 3 ∧ S.1 12 3 ≤ 2001 := hI.fi 12 3 8 (by decide) rfl
  have hTe := hkv.2.2
  have hN1 := hN.1
  refine lv_aload_n hx hb dX9_negated_0 rfl (lv_at hl 0 rfl) ?_
  refine lv_dup hx hb dX9_negated_1 rfl ?_
  have q_1 : (-2147483648) ≤ S.1 11 13 ∧ S.1 11 13 ≤ 2147483647 := hI.fi 11 13 9 (by decide) rfl
  refine g_X9_89 Cx hW (k := 11) (by decide) rfl (v := S.1 11 13) rfl dX9_negated_2 ?_
  refine lv_iconst (v := iv 1) hx hb dX9_negated_5 (by decide) ?_
  refine r_iadd hx hb dX9_negated_6 ?_
  refine p_X9_89 Cx hW hL (k := 11) (by decide) rfl dX9_negated_7 (fun H locs hW hL => ?_)
  have F_2 : Fr S (uF S 11 13 ((S.1 11 13) + 1)) (pEx (dn + 1) (dn + 1) dn) := (Fr.rf : Fr S S (pEx (dn + 1) (dn + 1) dn)).F (pEx_y (by omega))
  have F_3 : Fr S (uF S 11 13 ((S.1 11 13) + 1)) pR3 := (Fr.rf : Fr S S pR3).F rfl
  have F_4 : Fr S (uF S 11 13 ((S.1 11 13) + 1)) (pEx (dn + 1) (dn + 1) (dn + 1)) := (Fr.rf : Fr S S (pEx (dn + 1) (dn + 1) (dn + 1))).F (pEx_y (by omega))
  have i_5 : cX G (uF S 11 13 ((S.1 11 13) + 1)) 0 0 0 := hI.F rfl rfl (show (-2147483648) ≤ (S.1 11 13) + 1 ∧ (S.1 11 13) + 1 ≤ 2147483647 from ⟨by omega, by omega⟩)
  refine lv_aload_n hx hb dX9_negated_10 rfl (lv_at hl 0 rfl) ?_
  refine lv_iload_n hx hb dX9_negated_11 rfl (lv_at hl 1 rfl) ?_
  refine lv_iconst (v := iv 1) hx hb dX9_negated_12 (by decide) ?_
  refine r_iadd hx hb dX9_negated_13 ?_
  have q_6 : 0 ≤ S.1 11 10 ∧ S.1 11 10 ≤ 8 := hI.fi 11 10 9 (by decide) rfl
  have lk_7 : (uF S 11 13 ((S.1 11 13) + 1)).1 11 10 = S.1 11 10 := uF_ne (fun h => absurd h.2 (by decide))
  have q_8 : 0 ≤ S.1 11 11 ∧ S.1 11 11 ≤ 12 := hI.fi 11 11 9 (by decide) rfl
  have lk_9 : (uF S 11 13 ((S.1 11 13) + 1)).1 11 11 = S.1 11 11 := uF_ne (fun h => absurd h.2 (by decide))
  have q_10 : (-2147483648) ≤ S.1 11 12 ∧ S.1 11 12 ≤ 2147483647 := hI.fi 11 12 9 (by decide) rfl
  have lk_11 : (uF S 11 13 ((S.1 11 13) + 1)).1 11 12 = S.1 11 12 := uF_ne (fun h => absurd h.2 (by decide))
  have lk_12 : (uF S 11 13 ((S.1 11 13) + 1)).1 11 13 = (S.1 11 13) + 1 := uF_on
  have q_13 : 0 ≤ S.1 11 14 ∧ S.1 11 14 ≤ 7 := hI.fi 11 14 9 (by decide) rfl
  have lk_14 : (uF S 11 13 ((S.1 11 13) + 1)).1 11 14 = S.1 11 14 := uF_ne (fun h => absurd h.2 (by decide))
  have q_15 : 0 ≤ S.1 11 9 ∧ S.1 11 9 ≤ 128 := hI.fi 11 9 9 (by decide) rfl
  have lk_16 : (uF S 11 13 ((S.1 11 13) + 1)).1 11 9 = S.1 11 9 := uF_ne (fun h => absurd h.2 (by decide))
  have nr_17 : NRc N (uF S 11 13 ((S.1 11 13) + 1)) := hN.of (by omega) (fun j => (F_3 16 rfl).2.2.1 j) (fun j => (F_3 17 rfl).2.1 j) (fun j => (F_3 18 rfl).2.1 j)
  have kv_18 : KV (uF S 11 13 ((S.1 11 13) + 1)) k v T := hkv.fr F_2 (pEx_n (by omega)) (pEx_n (by omega)) (pEx_n (by omega))
  refine sBi (sV (As := [.int (iv (dd + 1))]) (rest := []) (k := 11) Cx (hF (uF S 11 13 ((S.1 11 13) + 1)) N k v T (pz + 1) q n i_5 ⟨nr_17, hK, hTV, kv_18, (by omega), (by omega), (by omega), ⟨by omega, by omega⟩⟩ (by omega) (by omega) (by omega) hgx) (c_X9_211 Cx rfl rfl (rmk_ok (by omega) (by decide))) hW (by decide) rfl rfl rfl hl.1 rfl (Nat.le_of_ble_eq_true rfl) dX9_negated_14 ⟨Nat.le_of_ble_eq_true rfl, Nat.le_of_ble_eq_true rfl⟩) hL (fun r_21 u_19 H locs k_20 hW hL => ?_)
  obtain ⟨iu_19, fu_19, xu_19⟩ := k_20
  have yu_19 := xu_19.1.2
  have F_22 := F_2.trans (fu_19.to (pEx_s (by omega) (by omega) (by omega)))
  have F_23 := F_4.trans (fu_19.to (pEx_s (by omega) (by omega) (by omega)))
  refine r_if_ne (tgt := 22) hx hb ⟨(by omega), (by omega)⟩ dX9_negated_17 (by decide) (fun c_24 => ?_) (fun c_24 => ?_)
  · obtain ⟨V1, e1, w1, b1, l1, pp1, f1, n1⟩ := xu_19.2.1 (by omega)
    rw [← hqG] at w1
    rw [show (uF S 11 13 ((S.1 11 13) + 1)).1 11 12 = S.1 11 12 by omega] at e1
    refine lv_aload_n hx hb dX9_negated_22 rfl (lv_at hl 0 rfl) ?_
    refine g_X9_37 Cx hW (k := 11) (by decide) rfl (v := .ref (G.2.2.1 + 83)) (rf_11_6 iu_19) dX9_negated_23 ?_
    refine lv_iload_n hx hb dX9_negated_26 rfl (lv_at hl 1 rfl) ?_
    refine rAald Cx hW (k := 83) (by decide) rfl (by decide) (by omega) (by omega) (r2_83f iu_19 hqF (by omega) (by omega)) dX9_negated_27 ?_
    refine lv_aload_n hx hb dX9_negated_28 rfl (lv_at hl 0 rfl) ?_
    refine g_X9_37 Cx hW (k := 11) (by decide) rfl (v := .ref (G.2.2.1 + 83)) (rf_11_6 iu_19) dX9_negated_29 ?_
    refine lv_iload_n hx hb dX9_negated_32 rfl (lv_at hl 1 rfl) ?_
    refine lv_iconst (v := iv 1) hx hb dX9_negated_33 (by decide) ?_
    refine r_iadd hx hb dX9_negated_34 ?_
    refine rAald Cx hW (k := 83) (by decide) rfl (by decide) (by omega) (by omega) (r2_83f iu_19 hqG (by omega) (by omega)) dX9_negated_35 ?_
    refine lv_iconst (v := iv (-1)) hx hb dX9_negated_36 (by decide) ?_
    refine sBv (sSt (As := [.ref (G.2.2.1 + qF), .ref (G.2.2.1 + qG), .int (iv ((-1)))]) (rest := []) Cx (e_X9_addTo l G u_19 (qa := qF) (qb := qG) (t := (-1)) iu_19 lqF lqG (by omega) (by omega) (vbd_0 (veq_tr (fun j a b => (F_23 qF (pEx_n (by omega))).2.2.1 j) hz)) (b1.eq w1).bd) (c_X9_185 Cx rfl rfl (rmk_ok (by omega) (by decide))) hW rfl hl.1 rfl (Nat.le_of_ble_eq_true rfl) dX9_negated_37 ⟨Nat.le_of_ble_eq_true rfl, Nat.le_of_ble_eq_true rfl⟩) hL (fun u_25 H locs k_26 hW hL => ?_)
    obtain ⟨iu_25, fu_25, xu_25⟩ := k_26
    have F_27 := F_22.trans (fu_25.to (p1_sub (pEx_y (by omega))))
    have F_28 := (Fr.rf : Fr u_19 u_19 pR3).trans (fu_25.to (p1_sub (lr_R lqF)))
    refine lv_iconst (v := iv 1) hx hb dX9_negated_40 (by decide) ?_
    have q_29 : 0 ≤ u_19.1 11 10 ∧ u_19.1 11 10 ≤ 8 := iu_19.fi 11 10 9 (by decide) rfl
    have lk_30 : u_25.1 11 10 = u_19.1 11 10 := (fu_25 11 (p1_no (tau_ne (rfl : tau 11 = .inl 9) lqF.1 (fun h => by cases h)))).1 10
    have q_31 : 0 ≤ u_19.1 11 11 ∧ u_19.1 11 11 ≤ 12 := iu_19.fi 11 11 9 (by decide) rfl
    have lk_32 : u_25.1 11 11 = u_19.1 11 11 := (fu_25 11 (p1_no (tau_ne (rfl : tau 11 = .inl 9) lqF.1 (fun h => by cases h)))).1 11
    have q_33 : (-2147483648) ≤ u_19.1 11 12 ∧ u_19.1 11 12 ≤ 2147483647 := iu_19.fi 11 12 9 (by decide) rfl
    have lk_34 : u_25.1 11 12 = u_19.1 11 12 := (fu_25 11 (p1_no (tau_ne (rfl : tau 11 = .inl 9) lqF.1 (fun h => by cases h)))).1 12
    have q_35 : (-2147483648) ≤ u_19.1 11 13 ∧ u_19.1 11 13 ≤ 2147483647 := iu_19.fi 11 13 9 (by decide) rfl
    have lk_36 : u_25.1 11 13 = u_19.1 11 13 := (fu_25 11 (p1_no (tau_ne (rfl : tau 11 = .inl 9) lqF.1 (fun h => by cases h)))).1 13
    have q_37 : 0 ≤ u_19.1 11 14 ∧ u_19.1 11 14 ≤ 7 := iu_19.fi 11 14 9 (by decide) rfl
    have lk_38 : u_25.1 11 14 = u_19.1 11 14 := (fu_25 11 (p1_no (tau_ne (rfl : tau 11 = .inl 9) lqF.1 (fun h => by cases h)))).1 14
    have q_39 : 0 ≤ u_19.1 11 9 ∧ u_19.1 11 9 ≤ 128 := iu_19.fi 11 9 9 (by decide) rfl
    have lk_40 : u_25.1 11 9 = u_19.1 11 9 := (fu_25 11 (p1_no (tau_ne (rfl : tau 11 = .inl 9) lqF.1 (fun h => by cases h)))).1 9
    have nr_41 : NRc N u_25 := n1.of (by omega) (fun j => (F_28 16 rfl).2.2.1 j) (fun j => (F_28 17 rfl).2.1 j) (fun j => (F_28 18 rfl).2.1 j)
    exact sZret Cx hr hlk hW hL (by omega) ⟨iu_25, F_27, ⟨⟨⟨(fun i => (((fu_25 11 (p1_no (tau_ne (rfl : tau 11 = .inl 9) lqF.1 (fun h => by cases h)))).2.2.2 i).trans (xu_19.1.1.1 i))), (fun h => absurd h (by decide))⟩, by omega, by omega, by omega, by omega⟩, (fun _ => ⟨(vad (cst 0) V1 (-1)), (by rw [e1]; show some _ = some _; rw [show u_25.1 11 12 = u_19.1 11 12 by omega]), (veq_tr xu_25 (veq_vad (veq_tr (fun j a b => (F_23 qF (pEx_n (by omega))).2.2.1 j) hz) w1)), (vb9_neg b1), ⟨by omega, by omega⟩, (by omega), (by omega), nr_41⟩), (fun h => absurd h (by decide))⟩⟩ dX9_negated_41
  · refine lv_iconst (v := iv 0) hx hb dX9_negated_20 (by decide) ?_
    have q_42 : 0 ≤ u_19.1 11 10 ∧ u_19.1 11 10 ≤ 8 := iu_19.fi 11 10 9 (by decide) rfl
    have q_43 : 0 ≤ u_19.1 11 11 ∧ u_19.1 11 11 ≤ 12 := iu_19.fi 11 11 9 (by decide) rfl
    have q_44 : (-2147483648) ≤ u_19.1 11 12 ∧ u_19.1 11 12 ≤ 2147483647 := iu_19.fi 11 12 9 (by decide) rfl
    have q_45 : (-2147483648) ≤ u_19.1 11 13 ∧ u_19.1 11 13 ≤ 2147483647 := iu_19.fi 11 13 9 (by decide) rfl
    have q_46 : 0 ≤ u_19.1 11 14 ∧ u_19.1 11 14 ≤ 7 := iu_19.fi 11 14 9 (by decide) rfl
    have q_47 : 0 ≤ u_19.1 11 9 ∧ u_19.1 11 9 ≤ 128 := iu_19.fi 11 9 9 (by decide) rfl
    exact sZret Cx hr hlk hW hL (by omega) ⟨iu_19, F_22, ⟨⟨⟨(fun i => (xu_19.1.1.1 i)), (fun _ => by first | omega | exact xu_19.1.1.2 (by omega))⟩, by omega, by omega, by omega, by omega⟩, (fun h => absurd h (by omega)), (fun _ => (by have q9 := xu_19.2.2 (by omega); rw [show (uF S 11 13 ((S.1 11 13) + 1)).1 11 12 = S.1 11 12 by omega] at q9; rw [q9]; rfl))⟩⟩ dX9_negated_21

set_option maxRecDepth 100000 in
set_option maxHeartbeats 4000000 in
theorem e_X9_inner (l : Launch) (G : sG) (S : sS) {N : sN} {k v : Int → Int} {T pz q dd : Int} {dn qF n d1 D : Nat} {q1 : Int} (hI : cX G S 0 0 0) (hdd : 0 ≤ dd ∧ dd ≤ 29) (hN : Hd (NRc N S)) (hK : Hd (NK N)) (hTV : Hd (TVn k v)) (hkv : Hd (KV S k v T)) (hfk : S.1 11 14 = 0) (hat : S.1 11 13 = pz) (hpz : 0 ≤ pz ∧ pz ≤ 2000) (hlk : 0 ≤ S.1 11 12 ∧ S.1 11 12 ≤ 20000) (hdn : dd = (dn : Int)) (h1 : d1 < D) (h4 : 8 ≤ D) (hn : (n : Int) = 29 - dd) (hnm : N.1 + n ≤ 128) (hqF : qF = 84 + dn) (hE : EX l G d1 (dd + 1) (dn + 1)) (hgx : Hd (ogU T k (ogF T k n) (pz + 1) = some q1)) (hq : q = q1 + 1) (hq1 : 0 ≤ q1 ∧ q1 ≤ 2001) (hz : Hd (veq (S.2.2.1 qF) (cst 0))) : Met l yX9_inner (.code yX9_inner cX9_inner 2 (some .boolean) :: tb) (rmk D 0 0) (sPc G 294 S [.ref (G.2.2.1 + 11), .int (iv dd)]) (sQi G 294 (fun r u => cX G u 0 0 0 ∧ Fr S u (pEx (dn + 1) (dn + 1) dn) ∧ (EO S u N q r ((eU T k (eF T k v n N) (S.1 11 12) (pz + 1)).bind (fun y => some (y.1 + 1, y.2.1, y.2.2))) qF))) 0 0 (sF G) := by
  refine sEnter (by decide) (Nat.le_of_ble_eq_true rfl) ?_
  intro p e s m args below meth c Cx hr hlk hnm hW ls hl
  have Cx : sC G p m c cX9_inner 2 s args RX9 := Cx
  obtain ⟨hx, hb, hml, hown, hts⟩ := id Cx.1
  have hL : sL G [] := sL_nil
  have hl : lv_has ls 2 [(0, .ref (G.2.2.1 + 11)), (1, .int (iv dd))] := hl
  have hW0 := hW
  obtain ⟨qT, hqT⟩ : ∃ z : Nat, z = 20 + (dn + 1) := ⟨_, rfl⟩
  have lqF := lr_83 hqF (by omega)
  have lqT := lr_19 hqT (by omega)
  have hkn : 0 ≤ S.1 11 9 ∧ S.1 11 9 ≤ 128 := hI.fi 11 9 9 (by decide) rfl
  have hTb : 0 ≤ S.1 12 3 ∧ S.1 12 3 ≤ 2001 := hI.fi 12 3 8 (by decide) rfl
  have hTe := hkv.2.2
  have hN1 := hN.1
  refine lv_aload_n hx hb dX9_inner_0 rfl (lv_at hl 0 rfl) ?_
  refine lv_dup hx hb dX9_inner_1 rfl ?_
  have q_1 : (-2147483648) ≤ S.1 11 13 ∧ S.1 11 13 ≤ 2147483647 := hI.fi 11 13 9 (by decide) rfl
  refine g_X9_89 Cx hW (k := 11) (by decide) rfl (v := S.1 11 13) rfl dX9_inner_2 ?_
  refine lv_iconst (v := iv 1) hx hb dX9_inner_5 (by decide) ?_
  refine r_iadd hx hb dX9_inner_6 ?_
  refine p_X9_89 Cx hW hL (k := 11) (by decide) rfl dX9_inner_7 (fun H locs hW hL => ?_)
  have F_2 : Fr S (uF S 11 13 ((S.1 11 13) + 1)) (pEx (dn + 1) (dn + 1) dn) := (Fr.rf : Fr S S (pEx (dn + 1) (dn + 1) dn)).F (pEx_y (by omega))
  have F_3 : Fr S (uF S 11 13 ((S.1 11 13) + 1)) pR3 := (Fr.rf : Fr S S pR3).F rfl
  have F_4 : Fr S (uF S 11 13 ((S.1 11 13) + 1)) (pEx (dn + 1) (dn + 1) (dn + 1)) := (Fr.rf : Fr S S (pEx (dn + 1) (dn + 1) (dn + 1))).F (pEx_y (by omega))
  have i_5 : cX G (uF S 11 13 ((S.1 11 13) + 1)) 0 0 0 := hI.F rfl rfl (show (-2147483648) ≤ (S.1 11 13) + 1 ∧ (S.1 11 13) + 1 ≤ 2147483647 from ⟨by omega, by omega⟩)
  refine lv_aload_n hx hb dX9_inner_10 rfl (lv_at hl 0 rfl) ?_
  refine lv_iload_n hx hb dX9_inner_11 rfl (lv_at hl 1 rfl) ?_
  refine lv_iconst (v := iv 1) hx hb dX9_inner_12 (by decide) ?_
  refine r_iadd hx hb dX9_inner_13 ?_
  have q_6 : 0 ≤ S.1 11 10 ∧ S.1 11 10 ≤ 8 := hI.fi 11 10 9 (by decide) rfl
  have lk_7 : (uF S 11 13 ((S.1 11 13) + 1)).1 11 10 = S.1 11 10 := uF_ne (fun h => absurd h.2 (by decide))
  have q_8 : 0 ≤ S.1 11 11 ∧ S.1 11 11 ≤ 12 := hI.fi 11 11 9 (by decide) rfl
  have lk_9 : (uF S 11 13 ((S.1 11 13) + 1)).1 11 11 = S.1 11 11 := uF_ne (fun h => absurd h.2 (by decide))
  have q_10 : (-2147483648) ≤ S.1 11 12 ∧ S.1 11 12 ≤ 2147483647 := hI.fi 11 12 9 (by decide) rfl
  have lk_11 : (uF S 11 13 ((S.1 11 13) + 1)).1 11 12 = S.1 11 12 := uF_ne (fun h => absurd h.2 (by decide))
  have lk_12 : (uF S 11 13 ((S.1 11 13) + 1)).1 11 13 = (S.1 11 13) + 1 := uF_on
  have q_13 : 0 ≤ S.1 11 14 ∧ S.1 11 14 ≤ 7 := hI.fi 11 14 9 (by decide) rfl
  have lk_14 : (uF S 11 13 ((S.1 11 13) + 1)).1 11 14 = S.1 11 14 := uF_ne (fun h => absurd h.2 (by decide))
  have q_15 : 0 ≤ S.1 11 9 ∧ S.1 11 9 ≤ 128 := hI.fi 11 9 9 (by decide) rfl
  have lk_16 : (uF S 11 13 ((S.1 11 13) + 1)).1 11 9 = S.1 11 9 := uF_ne (fun h => absurd h.2 (by decide))
  have nr_17 : NRc N (uF S 11 13 ((S.1 11 13) + 1)) := hN.of (by omega) (fun j => (F_3 16 rfl).2.2.1 j) (fun j => (F_3 17 rfl).2.1 j) (fun j => (F_3 18 rfl).2.1 j)
  have kv_18 : KV (uF S 11 13 ((S.1 11 13) + 1)) k v T := hkv.fr F_2 (pEx_n (by omega)) (pEx_n (by omega)) (pEx_n (by omega))
  refine sBi (sV (As := [.int (iv (dd + 1))]) (rest := []) (k := 11) Cx (hE (uF S 11 13 ((S.1 11 13) + 1)) N k v T (pz + 1) q1 n i_5 ⟨nr_17, hK, hTV, kv_18, (by omega), (by omega), (by omega), ⟨by omega, by omega⟩⟩ (by omega) (by omega) (by omega) hgx) (c_X9_166 Cx rfl rfl (rmk_ok (by omega) (by decide))) hW (by decide) rfl rfl rfl hl.1 rfl (Nat.le_of_ble_eq_true rfl) dX9_inner_14 ⟨Nat.le_of_ble_eq_true rfl, Nat.le_of_ble_eq_true rfl⟩) hL (fun r_21 u_19 H locs k_20 hW hL => ?_)
  obtain ⟨iu_19, fu_19, xu_19⟩ := k_20
  have yu_19 := xu_19.1.2
  have F_22 := F_2.trans (fu_19.to (pEx_s (by omega) (by omega) (by omega)))
  have F_23 := F_4.trans fu_19
  refine r_if_ne (tgt := 22) hx hb ⟨(by omega), (by omega)⟩ dX9_inner_17 (by decide) (fun c_24 => ?_) (fun c_24 => ?_)
  · obtain ⟨V1, e1, w1, b1, l1, pp1, f1, n1⟩ := xu_19.2.1 (by omega)
    rw [← hqT] at w1
    rw [show (uF S 11 13 ((S.1 11 13) + 1)).1 11 12 = S.1 11 12 by omega] at e1
    refine lv_aload_n hx hb dX9_inner_22 rfl (lv_at hl 0 rfl) ?_
    refine g_X9_37 Cx hW (k := 11) (by decide) rfl (v := .ref (G.2.2.1 + 83)) (rf_11_6 iu_19) dX9_inner_23 ?_
    refine lv_iload_n hx hb dX9_inner_26 rfl (lv_at hl 1 rfl) ?_
    refine rAald Cx hW (k := 83) (by decide) rfl (by decide) (by omega) (by omega) (r2_83f iu_19 hqF (by omega) (by omega)) dX9_inner_27 ?_
    refine lv_aload_n hx hb dX9_inner_28 rfl (lv_at hl 0 rfl) ?_
    refine g_X9_31 Cx hW (k := 11) (by decide) rfl (v := .ref (G.2.2.1 + 19)) (rf_11_4 iu_19) dX9_inner_29 ?_
    refine lv_iload_n hx hb dX9_inner_32 rfl (lv_at hl 1 rfl) ?_
    refine lv_iconst (v := iv 1) hx hb dX9_inner_33 (by decide) ?_
    refine r_iadd hx hb dX9_inner_34 ?_
    refine rAald Cx hW (k := 19) (by decide) rfl (by decide) (by omega) (by omega) (r2_19f iu_19 hqT (by omega) (by omega)) dX9_inner_35 ?_
    refine lv_iconst (v := iv 1) hx hb dX9_inner_36 (by decide) ?_
    refine sBv (sSt (As := [.ref (G.2.2.1 + qF), .ref (G.2.2.1 + qT), .int (iv 1)]) (rest := []) Cx (e_X9_addTo l G u_19 (qa := qF) (qb := qT) (t := 1) iu_19 lqF lqT (by omega) (by omega) (vbd_0 (veq_tr (fun j a b => (F_23 qF (pEx_n (by omega))).2.2.1 j) hz)) (b1.eq w1).bd) (c_X9_185 Cx rfl rfl (rmk_ok (by omega) (by decide))) hW rfl hl.1 rfl (Nat.le_of_ble_eq_true rfl) dX9_inner_37 ⟨Nat.le_of_ble_eq_true rfl, Nat.le_of_ble_eq_true rfl⟩) hL (fun u_25 H locs k_26 hW hL => ?_)
    obtain ⟨iu_25, fu_25, xu_25⟩ := k_26
    have F_27 := F_22.trans (fu_25.to (p1_sub (pEx_y (by omega))))
    have F_28 := (Fr.rf : Fr u_19 u_19 pR3).trans (fu_25.to (p1_sub (lr_R lqF)))
    refine lv_aload_n hx hb dX9_inner_40 rfl (lv_at hl 0 rfl) ?_
    refine lv_dup hx hb dX9_inner_41 rfl ?_
    have q_29 : (-2147483648) ≤ u_19.1 11 13 ∧ u_19.1 11 13 ≤ 2147483647 := iu_19.fi 11 13 9 (by decide) rfl
    refine g_X9_89 Cx hW (k := 11) (by decide) rfl (v := u_19.1 11 13) ((fu_25 11 (p1_no (tau_ne (rfl : tau 11 = .inl 9) lqF.1 (fun h => by cases h)))).1 13) dX9_inner_42 ?_
    refine lv_iconst (v := iv 1) hx hb dX9_inner_45 (by decide) ?_
    refine r_iadd hx hb dX9_inner_46 ?_
    refine p_X9_89 Cx hW hL (k := 11) (by decide) rfl dX9_inner_47 (fun H locs hW hL => ?_)
    have F_30 : Fr S (uF u_25 11 13 ((u_19.1 11 13) + 1)) (pEx (dn + 1) (dn + 1) dn) := F_27.F (pEx_y (by omega))
    have F_31 : Fr u_19 (uF u_25 11 13 ((u_19.1 11 13) + 1)) pR3 := F_28.F rfl
    have i_32 : cX G (uF u_25 11 13 ((u_19.1 11 13) + 1)) 0 0 0 := iu_25.F rfl rfl (show (-2147483648) ≤ (u_19.1 11 13) + 1 ∧ (u_19.1 11 13) + 1 ≤ 2147483647 from ⟨by omega, by omega⟩)
    refine lv_iconst (v := iv 1) hx hb dX9_inner_50 (by decide) ?_
    have q_33 : 0 ≤ u_19.1 11 10 ∧ u_19.1 11 10 ≤ 8 := iu_19.fi 11 10 9 (by decide) rfl
    have lk_34 : (uF u_25 11 13 ((u_19.1 11 13) + 1)).1 11 10 = u_19.1 11 10 := (uF_ne (fun h => absurd h.2 (by decide))).trans ((fu_25 11 (p1_no (tau_ne (rfl : tau 11 = .inl 9) lqF.1 (fun h => by cases h)))).1 10)
    have q_35 : 0 ≤ u_19.1 11 11 ∧ u_19.1 11 11 ≤ 12 := iu_19.fi 11 11 9 (by decide) rfl
    have lk_36 : (uF u_25 11 13 ((u_19.1 11 13) + 1)).1 11 11 = u_19.1 11 11 := (uF_ne (fun h => absurd h.2 (by decide))).trans ((fu_25 11 (p1_no (tau_ne (rfl : tau 11 = .inl 9) lqF.1 (fun h => by cases h)))).1 11)
    have q_37 : (-2147483648) ≤ u_19.1 11 12 ∧ u_19.1 11 12 ≤ 2147483647 := iu_19.fi 11 12 9 (by decide) rfl
    have lk_38 : (uF u_25 11 13 ((u_19.1 11 13) + 1)).1 11 12 = u_19.1 11 12 := (uF_ne (fun h => absurd h.2 (by decide))).trans ((fu_25 11 (p1_no (tau_ne (rfl : tau 11 = .inl 9) lqF.1 (fun h => by cases h)))).1 12)
    have lk_39 : (uF u_25 11 13 ((u_19.1 11 13) + 1)).1 11 13 = (u_19.1 11 13) + 1 := uF_on
    have q_40 : 0 ≤ u_19.1 11 14 ∧ u_19.1 11 14 ≤ 7 := iu_19.fi 11 14 9 (by decide) rfl
    have lk_41 : (uF u_25 11 13 ((u_19.1 11 13) + 1)).1 11 14 = u_19.1 11 14 := (uF_ne (fun h => absurd h.2 (by decide))).trans ((fu_25 11 (p1_no (tau_ne (rfl : tau 11 = .inl 9) lqF.1 (fun h => by cases h)))).1 14)
    have q_42 : 0 ≤ u_19.1 11 9 ∧ u_19.1 11 9 ≤ 128 := iu_19.fi 11 9 9 (by decide) rfl
    have lk_43 : (uF u_25 11 13 ((u_19.1 11 13) + 1)).1 11 9 = u_19.1 11 9 := (uF_ne (fun h => absurd h.2 (by decide))).trans ((fu_25 11 (p1_no (tau_ne (rfl : tau 11 = .inl 9) lqF.1 (fun h => by cases h)))).1 9)
    have nr_44 : NRc N (uF u_25 11 13 ((u_19.1 11 13) + 1)) := n1.of (by omega) (fun j => (F_31 16 rfl).2.2.1 j) (fun j => (F_31 17 rfl).2.1 j) (fun j => (F_31 18 rfl).2.1 j)
    exact sZret Cx hr hlk hW hL (by omega) ⟨i_32, F_30, ⟨⟨⟨(fun i => (((fu_25 11 (p1_no (tau_ne (rfl : tau 11 = .inl 9) lqF.1 (fun h => by cases h)))).2.2.2 i).trans (xu_19.1.1.1 i))), (fun h => absurd h (by decide))⟩, by omega, by omega, by omega, by omega⟩, (fun _ => ⟨V1, (by rw [e1]; show some _ = some _; rw [show (uF u_25 11 13 ((u_19.1 11 13) + 1)).1 11 12 = u_19.1 11 12 by omega]; rw [show q = q1 + 1 by omega]), (veq_tr (veq_tr xu_25 (veq_vad (veq_tr (fun j a b => (F_23 qF (pEx_n (by omega))).2.2.1 j) hz) w1)) veq_0), b1, ⟨by omega, by omega⟩, (by omega), (by omega), nr_44⟩), (fun h => absurd h (by decide))⟩⟩ dX9_inner_51
  · refine lv_iconst (v := iv 0) hx hb dX9_inner_20 (by decide) ?_
    have q_45 : 0 ≤ u_19.1 11 10 ∧ u_19.1 11 10 ≤ 8 := iu_19.fi 11 10 9 (by decide) rfl
    have q_46 : 0 ≤ u_19.1 11 11 ∧ u_19.1 11 11 ≤ 12 := iu_19.fi 11 11 9 (by decide) rfl
    have q_47 : (-2147483648) ≤ u_19.1 11 12 ∧ u_19.1 11 12 ≤ 2147483647 := iu_19.fi 11 12 9 (by decide) rfl
    have q_48 : (-2147483648) ≤ u_19.1 11 13 ∧ u_19.1 11 13 ≤ 2147483647 := iu_19.fi 11 13 9 (by decide) rfl
    have q_49 : 0 ≤ u_19.1 11 14 ∧ u_19.1 11 14 ≤ 7 := iu_19.fi 11 14 9 (by decide) rfl
    have q_50 : 0 ≤ u_19.1 11 9 ∧ u_19.1 11 9 ≤ 128 := iu_19.fi 11 9 9 (by decide) rfl
    exact sZret Cx hr hlk hW hL (by omega) ⟨iu_19, F_22, ⟨⟨⟨(fun i => (xu_19.1.1.1 i)), (fun _ => by first | omega | exact xu_19.1.1.2 (by omega))⟩, by omega, by omega, by omega, by omega⟩, (fun h => absurd h (by omega)), (fun _ => (by have q9 := xu_19.2.2 (by omega); rw [show (uF S 11 13 ((S.1 11 13) + 1)).1 11 12 = S.1 11 12 by omega] at q9; rw [q9]; rfl))⟩⟩ dX9_inner_21
