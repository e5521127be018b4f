/-! The teller's F, T and E, exactly: what a memory must hold, what comes out -/
def pE (a b c : Nat) (k : Nat) : Bool := decide (k = 11 ∨ k = 16 ∨ k = 17 ∨ (20 + a ≤ k ∧ k ≤ 50) ∨ (52 + b ≤ k ∧ k ≤ 82) ∨ (84 + c ≤ k ∧ k ≤ 114))
theorem pE_y {a b c k : Nat} (h : k = 11 ∨ k = 16 ∨ k = 17 ∨ (20 + a ≤ k ∧ k ≤ 50) ∨ (52 + b ≤ k ∧ k ≤ 82) ∨ (84 + c ≤ k ∧ k ≤ 114)) : pE a b c k = true := decide_eq_true h
theorem pE_n {a b c k : Nat} (h : ¬ (k = 11 ∨ k = 16 ∨ k = 17 ∨ (20 + a ≤ k ∧ k ≤ 50) ∨ (52 + b ≤ k ∧ k ≤ 82) ∨ (84 + c ≤ k ∧ k ≤ 114))) : pE a b c k = false := decide_eq_false h
theorem pE_s {a b c a' b' c' : Nat} (h1 : a' ≤ a) (h2 : b' ≤ b) (h3 : c' ≤ c) : ∀ k, pE a b c k = true → pE a' b' c' k = true := fun k h => by
  have := of_decide_eq_true h; exact pE_y (by omega)
theorem pE_V {a b c : Nat} : ∀ k, pE a b c k = true → pV k = true := fun k h => by
  have := of_decide_eq_true h
  by_cases e : k = 11
  · rw [e]; rfl
  · rw [pV, rgB_i ⟨by omega, by omega⟩, Bool.or_true]
theorem pT_E {a b c : Nat} : ∀ k, pT k = true → pE a b c k = true := fun k h => by
  rw [pT, Bool.or_eq_true] at h
  rcases h with h | h
  · rw [Nat.eq_of_beq_eq_true h]; exact pE_y (.inl rfl)
  · have := rgB_t h; exact pE_y (by omega)
/-- 11 and the rows of thirteen -/
def pR3 (k : Nat) : Bool := decide (k = 11 ∨ (20 ≤ k ∧ k ≤ 115))
theorem pR3_y {k : Nat} (h : k = 11 ∨ (20 ≤ k ∧ k ≤ 115)) : pR3 k = true := decide_eq_true h
theorem r2_83f {G : sG} {S : sS} {x y q dn : Nat} {b i : Int} (h : cX G S x y b) (hq : q = 84 + dn) (hi : i = (dn : Int)) (h1 : dn < 31) : S.2.2.2 83 i.toNat = .ref (G.2.2.1 + q) := by
  rw [show i.toNat = dn by omega, hq]; exact (h.r2 dn h1).2.2
theorem r2_51f {G : sG} {S : sS} {x y q dn : Nat} {b i : Int} (h : cX G S x y b) (hq : q = 52 + dn) (hi : i = (dn : Int)) (h1 : dn < 31) : S.2.2.2 51 i.toNat = .ref (G.2.2.1 + q) := by
  rw [show i.toNat = dn by omega, hq]; exact (h.r2 dn h1).2.1
theorem r2_19f {G : sG} {S : sS} {x y q dn : Nat} {b i : Int} (h : cX G S x y b) (hq : q = 20 + dn) (hi : i = (dn : Int)) (h1 : dn < 31) : S.2.2.2 19 i.toNat = .ref (G.2.2.1 + q) := by
  rw [show i.toNat = dn by omega, hq]; exact (h.r2 dn h1).1
theorem lr_83 {q dn : Nat} (hq : q = 84 + dn) (h1 : dn < 31) : lr q := by rw [hq]; exact ⟨(lr20 _ h1).2.2, by omega, by omega⟩
theorem lr_51 {q dn : Nat} (hq : q = 52 + dn) (h1 : dn < 31) : lr q := by rw [hq]; exact ⟨(lr20 _ h1).2.1, by omega, by omega⟩
theorem lr_19 {q dn : Nat} (hq : q = 20 + dn) (h1 : dn < 31) : lr q := by rw [hq]; exact ⟨(lr20 _ h1).1, by omega, by omega⟩
theorem lr_R {q : Nat} (h : lr q) : pR3 q = true := pR3_y (.inr ⟨h.2.1, h.2.2⟩)
/-- kinds, values and how many tokens -/
def KV (S : sS) (k v : Int → Int) (T : Int) : Prop := kd S = k ∧ vd S = v ∧ S.1 12 3 = T
theorem KV.fr {S u : sS} {P : pS} {k v : Int → Int} {T : Int} (h : KV S k v T) (f : Fr S u P) (h1 : P 12 = false) (h2 : P 13 = false) (h3 : P 15 = false) : KV u k v T := by
  have e : u.1 12 3 = S.1 12 3 := (f 12 h1).1 3
  refine ⟨?_, ?_, e.trans h.2.2⟩
  · rw [← h.1]; funext t; unfold kd; rw [e, (f 13 h2).2.1 t]
  · rw [← h.2.1]; funext t; unfold vd; rw [e, (f 15 h3).2.2.1 t]
theorem KV.e {S u : sS} {a b c : Nat} {k v : Int → Int} {T : Int} (h : KV S k v T) (f : Fr S u (pE a b c)) : KV u k v T := h.fr f (pE_n (by omega)) (pE_n (by omega)) (pE_n (by omega))
theorem KV.z {S : sS} {k v : Int → Int} {T : Int} (h : KV S k v T) : ∀ t, T ≤ t → k t = 0 := fun t q => by rw [← h.1]; exact kd_out t (by rw [h.2.2]; exact q)
theorem KV.lt {S : sS} {k v : Int → Int} {T t c : Int} (h : KV S k v T) (e : k t = c) (hc : c ≠ 0) : t < T := by
  by_cases q : t < T
  · exact q
  · exact absurd (e.symm.trans (h.z t (by omega))) hc
theorem ogF_k {T : Int} {k : Int → Int} {n : Nat} {p q : Int} (h : ogF T k n p = some q) : k p ≠ 0 := by
  intro e
  cases n with
  | zero => cases h
  | succ n =>
    have h : (if k p = 3 then some (p + 1) else if k p = 22 then ogF T k n (p + 1) else if k p = 19 then (ogU T k (ogF T k n) (p + 1)).bind (ogT k 20) else if k p = 11 then (ogT k 2 (p + 1)).bind (fun a => (ogT k 12 a).bind (fun b => (ogT k 2 b).bind (fun c => (ogT k 19 c).bind (fun d => (ogU T k (ogF T k n) d).bind (ogT k 20))))) else if k p = 2 then (if k (p + 1) = 17 then ogXs k (p + 1 + 1) else some (p + 1)) else none) = some q := h
    rw [e, if_neg (by decide), if_neg (by decide), if_neg (by decide), if_neg (by decide), if_neg (by decide)] at h; cases h
theorem ogX_k {k : Int → Int} {p q : Int} (h : ogX k p = some q) : k p ≠ 0 := by
  rcases ogX_i h with a | a <;> omega
theorem ogXs_i {k : Int → Int} {p q : Int} (h : ogXs k p = some q) : ∃ a, ogX k p = some a ∧ ((k a = 16 ∧ ∃ b, ogX k (a + 1) = some b ∧ k b = 18 ∧ q = b + 1) ∨ (k a ≠ 16 ∧ k a = 18 ∧ q = a + 1)) := by
  obtain ⟨a, h1, h2⟩ := ogB h
  refine ⟨a, h1, ?_⟩
  by_cases c : k a = 16
  · rw [if_pos c] at h2; obtain ⟨b, h3, h4⟩ := ogB h2; have := ogT_lt h4; exact .inl ⟨c, b, h3, this.2, this.1⟩
  · rw [if_neg c] at h2; have := ogT_lt h2; exact .inr ⟨c, this.2, this.1⟩
theorem eI_bd {k v : Int → Int} {N : sN} {p a q : Int} (hK : NK N) (h0 : 0 ≤ N.1) (hTV : TVn k v) (hx : ogX k p = some q) (h : eI k v N p = some (a, q)) : -99999 ≤ a ∧ a ≤ 199998 := by
  unfold eI at h
  by_cases c : k p = 3
  · rw [if_pos c] at h; have := hTV p c; cases h; omega
  · rw [if_neg c] at h
    rcases ogX_i hx with g | g
    · exact absurd g.1 c
    · by_cases d : 0 ≤ eFind N (v p) ∧ N.2.2.1 (eFind N (v p)) 0 = 2
      · rw [if_pos d] at h
        have hf : eFind N (v p) < N.1 := by
          rcases eFind_r (x := v p) h0 with z | z
          · exact absurd d.1 (by omega)
          · exact z.2.1
        have hb := (hK.2 _ d.1 hf).1 d.2
        by_cases e1 : k (p + 1) = 21
        · rw [if_pos e1] at h
          rcases g.2 with g | g
          · have := hTV _ g.2.1
            have e := congrArg Prod.fst (Option.some.inj h); have e : N.2.2.1 (eFind N (v p)) 1 + v (p + 1 + 1) = a := e; omega
          · exact absurd (.inl e1) g.1
        · rw [if_neg e1] at h
          by_cases e2 : k (p + 1) = 22
          · rw [if_pos e2] at h
            rcases g.2 with g | g
            · have := hTV _ g.2.1
              have e := congrArg Prod.fst (Option.some.inj h); have e : N.2.2.1 (eFind N (v p)) 1 - v (p + 1 + 1) = a := e; omega
            · exact absurd (.inr e2) g.1
          · rw [if_neg e2] at h
            have e := congrArg Prod.fst (Option.some.inj h); have e : N.2.2.1 (eFind N (v p)) 1 = a := e; omega
      · rw [if_neg d] at h; cases h
/-! eN, by its cases -/
theorem eN_0 {k v : Int → Int} {N : sN} {lk p s : Int} (e : eFind N (v p) = s) (hs : 0 ≤ s) (h : N.2.2.1 s 0 = 2) (hk : k (p + 1) ≠ 17) : eN k v N lk p = some (p + 1, cst (N.2.2.1 s 1), lk) := by
  unfold eN; rw [e, if_pos ⟨hs, h⟩, if_neg hk]
theorem eN_1 {k v : Int → Int} {N : sN} {lk p s : Int} (e : eFind N (v p) = s) (hs : 0 ≤ s) (h : N.2.2.1 s 0 = 7 ∨ N.2.2.1 s 0 = 8) (hk : k (p + 1) ≠ 17) : eN k v N lk p = if N.2.2.1 s 3 < 0 then some (p + 1, eV N s 0, lk) else none := by
  unfold eN; rw [e, if_neg (by omega), if_pos ⟨hs, h⟩, if_neg hk]
theorem eN_2 {k v : Int → Int} {N : sN} {lk p s : Int} (e : eFind N (v p) = s) (hs : 0 ≤ s) (h : N.2.2.1 s 0 = 7 ∨ N.2.2.1 s 0 = 8) (hk : k (p + 1) = 17) (ha : eI k v N (p + 1 + 1) = none) : eN k v N lk p = none := by
  unfold eN; rw [e, if_neg (by omega), if_pos ⟨hs, h⟩, if_pos hk, ha]; rfl
theorem eN_3 {k v : Int → Int} {N : sN} {lk p s a qa : Int} (e : eFind N (v p) = s) (hs : 0 ≤ s) (h : N.2.2.1 s 0 = 7 ∨ N.2.2.1 s 0 = 8) (hk : k (p + 1) = 17) (ha : eI k v N (p + 1 + 1) = some (a, qa)) (hq : k qa ≠ 16) : eN k v N lk p = if 0 ≤ N.2.2.1 s 3 ∧ N.2.2.1 s 4 < 0 ∧ inS N (N.2.2.1 s 3) a then some (qa + 1, eV N s (a - N.2.2.1 (N.2.2.1 s 3) 1), lk) else none := by
  unfold eN; rw [e, if_neg (by omega), if_pos ⟨hs, h⟩, if_pos hk, ha, Option.bind_some, if_neg hq]
theorem eN_4 {k v : Int → Int} {N : sN} {lk p s a qa : Int} (e : eFind N (v p) = s) (hs : 0 ≤ s) (h : N.2.2.1 s 0 = 7 ∨ N.2.2.1 s 0 = 8) (hk : k (p + 1) = 17) (ha : eI k v N (p + 1 + 1) = some (a, qa)) (hq : k qa = 16) (hb : eI k v N (qa + 1) = none) : eN k v N lk p = none := by
  unfold eN; rw [e, if_neg (by omega), if_pos ⟨hs, h⟩, if_pos hk, ha, Option.bind_some, if_pos hq]; show (eI k v N (qa + 1)).bind _ = none; rw [hb]; rfl
theorem eN_5 {k v : Int → Int} {N : sN} {lk p s a qa b qb : Int} (e : eFind N (v p) = s) (hs : 0 ≤ s) (h : N.2.2.1 s 0 = 7 ∨ N.2.2.1 s 0 = 8) (hk : k (p + 1) = 17) (ha : eI k v N (p + 1 + 1) = some (a, qa)) (hq : k qa = 16) (hb : eI k v N (qa + 1) = some (b, qb)) : eN k v N lk p = if 0 ≤ N.2.2.1 s 3 ∧ 0 ≤ N.2.2.1 s 4 ∧ inS N (N.2.2.1 s 3) a ∧ inS N (N.2.2.1 s 4) b then some (qb + 1, eV N s ((a - N.2.2.1 (N.2.2.1 s 3) 1) * siz N (N.2.2.1 s 4) + (b - N.2.2.1 (N.2.2.1 s 4) 1)), lk) else none := by
  unfold eN; rw [e, if_neg (by omega), if_pos ⟨hs, h⟩, if_pos hk, ha, Option.bind_some, if_pos hq]; show (eI k v N (qa + 1)).bind _ = _; rw [hb]; rfl
/-- what the rows of an F may hold -/
def vb9 (f : Int → Int) : Prop := ∀ j, 0 ≤ j → j < 13 → -99999 ≤ f j ∧ f j ≤ 99999
theorem vb9.bd {f : Int → Int} (h : vb9 f) : vbd f := fun j a b => by have := h j a b; omega
theorem vb9.eq {f g : Int → Int} (h : vb9 f) (e : veq g f) : vb9 g := fun j a b => by rw [e j a b]; exact h j a b
theorem vb9_cst {c : Int} (h : -99999 ≤ c ∧ c ≤ 99999) : vb9 (cst c) := fun j _ _ => by unfold cst; split <;> omega
theorem vb9_unt {i : Int} : vb9 (unt i) := fun j _ _ => by unfold unt; split <;> omega
theorem vb9_n {f : Int → Int} (h : ¬ grt f) : vb9 f := fun j a b => ngrt h j a b
theorem vb9_neg {f : Int → Int} (h : vb9 f) : vb9 (vad (cst 0) f (-1)) := fun j a b => by have := h j a b; unfold vad cst; split <;> omega
theorem vb9_eV {N : sN} {s o : Int} (hK : NK N) (h0 : 0 ≤ s) (h1 : s < N.1) (hs : N.2.2.1 s 0 = 7 ∨ N.2.2.1 s 0 = 8) (o0 : 0 ≤ o) (o1 : o < siz N (N.2.2.1 s 3) * siz N (N.2.2.1 s 4)) : vb9 (eV N s o) := by
  unfold eV
  by_cases c : N.2.2.1 s 0 = 7
  · rw [if_pos c]; exact vb9_cst ((hK.2 s h0 h1).2.2.2.2.1 c o o0 o1)
  · rw [if_neg c]; exact vb9_unt
/-- what an F, T or E leaves: r, its numbers, where it ends -/
def EO (u : sS) (N : sN) (q r : Int) (X : Option sR) (row : Nat) : Prop := (0 ≤ r ∧ r ≤ 1) ∧ Hd (r = 1 → ∃ V, X = some (q, V, u.1 11 12) ∧ veq (u.2.2.1 row) V ∧ vb9 V ∧ (0 ≤ u.1 11 12 ∧ u.1 11 12 ≤ 20000) ∧ u.1 11 13 = q ∧ u.1 11 14 = 0 ∧ NRc N u) ∧ Hd (r = 0 → X = none)
def EH (S : sS) (N : sN) (k v : Int → Int) (T pz : Int) : Prop := NRc N S ∧ NK N ∧ TVn k v ∧ KV S k v T ∧ S.1 11 14 = 0 ∧ S.1 11 13 = pz ∧ 0 ≤ pz ∧ (0 ≤ S.1 11 12 ∧ S.1 11 12 ≤ 20000)
def FX (l : Launch) (G : sG) (D : Nat) (dd : Int) (dn : Nat) : Prop := ∀ (S : sS) (N : sN) (k v : Int → Int) (T pz q : Int) (n : Nat), cX G S 0 0 0 → EH S N k v T pz → (n : Int) = 30 - dd → N.1 + n ≤ 128 → q ≤ 2001 → ogF T k n pz = some q → Met l yX9_factor (.code yX9_factor cX9_factor 4 (some .boolean) :: tb) (rmk D 0 0) (sPc G 294 S [.ref (G.2.2.1 + 11), .int (iv dd)]) (sQi G 294 (fun r u => cX G u 0 0 0 ∧ Fr S u (pE (dn + 1) (dn + 1) dn) ∧ (EO u N q r (eF T k v n N (S.1 11 12) pz) (84 + dn)))) 0 0 (sF G)
def TX (l : Launch) (G : sG) (D : Nat) (dd : Int) (dn : Nat) : Prop := ∀ (S : sS) (N : sN) (k v : Int → Int) (T pz q : Int) (n : Nat), cX G S 0 0 0 → EH S N k v T pz → (n : Int) = 30 - dd → N.1 + n ≤ 128 → q ≤ 2001 → ogP T k (ogF T k n) pz = some q → Met l yX9_term (.code yX9_term cX9_term 5 (some .boolean) :: tb) (rmk D 0 0) (sPc G 294 S [.ref (G.2.2.1 + 11), .int (iv dd)]) (sQi G 294 (fun r u => cX G u 0 0 0 ∧ Fr S u (pE (dn + 1) dn dn) ∧ (EO u N q r (eP T k (eF T k v n N) (S.1 11 12) pz) (52 + dn)))) 0 0 (sF G)
def EX (l : Launch) (G : sG) (D : Nat) (dd : Int) (dn : Nat) : Prop := ∀ (S : sS) (N : sN) (k v : Int → Int) (T pz q : Int) (n : Nat), cX G S 0 0 0 → EH S N k v T pz → (n : Int) = 30 - dd → N.1 + n ≤ 128 → q ≤ 2001 → ogU T k (ogF T k n) pz = some q → Met l yX9_expression (.code yX9_expression cX9_expression 6 (some .boolean) :: tb) (rmk D 0 0) (sPc G 294 S [.ref (G.2.2.1 + 11), .int (iv dd)]) (sQi G 294 (fun r u => cX G u 0 0 0 ∧ Fr S u (pE dn dn dn) ∧ (EO u N q r (eU T k (eF T k v n N) (S.1 11 12) pz) (20 + dn)))) 0 0 (sF G)
theorem veq_u0 {S : sS} {q : Nat} {c : Int} (h : veq (S.2.2.1 q) (cst 0)) : veq ((uL S q 0 c).2.2.1 q) (cst c) := fun j a b => by
  by_cases z : j = 0
  · rw [z, uL_on]; rfl
  · rw [uL_ne (fun h => z h.2), h j a b]; unfold cst; rw [if_neg z, if_neg z]
theorem veq_vad {f f' g g' : Int → Int} {t : Int} (h : veq f f') (h' : veq g g') : veq (vad f g t) (vad f' g' t) := fun j a b => by unfold vad; rw [h j a b, h' j a b]
theorem veq_tr {f g h : Int → Int} (a : veq f g) (b : veq g h) : veq f h := fun j x y => (a j x y).trans (b j x y)
theorem veq_0 {g : Int → Int} : veq (vad (cst 0) g 1) g := fun j a b => by unfold vad cst; split <;> omega
theorem vbd_0 {f : Int → Int} (h : veq f (cst 0)) : vbd f := fun j a b => by rw [h j a b]; unfold cst; split <;> omega
/-- an item of INDEXES: offset and range so far -/
def JN (N : sN) (s a o0 i0 o i : Int) : Prop := (s < 0 → o = o0 ∧ i = i0) ∧ (0 ≤ s → o = o0 * siz N s + a - N.2.2.1 s 1 ∧ (0 ≤ i ∧ i ≤ 1) ∧ (i = 1 → i0 = 1 ∧ inS N s a) ∧ (i = 0 → ¬ (i0 = 1 ∧ inS N s a)))
theorem NRc.v5 {N : sN} {S : sS} {s o : Int} (h : NRc N S) (hK : NK N) (s0 : 0 ≤ s) (s1 : s < N.1) (hs : N.2.2.1 s 0 = 7 ∨ N.2.2.1 s 0 = 8) (ho : 0 ≤ o ∧ o < siz N (N.2.2.1 s 3) * siz N (N.2.2.1 s 4)) : 0 ≤ fc S s 5 + o ∧ fc S s 5 + o ≤ 1728 := by
  have a := h.2.2 s s0 s1
  rcases hs with e | e
  · have := a.2.2.2.2.2 e o ho.1 ho.2; omega
  · have b := a.2.2.2.2.1 e; have c := (hK.2 s s0 s1).2.2.2.2.2 e; omega
theorem ho_0 {N : sN} {s : Int} (h3 : N.2.2.1 s 3 < 0) (h4 : N.2.2.1 s 4 < 0) : 0 ≤ (0 : Int) ∧ (0 : Int) < siz N (N.2.2.1 s 3) * siz N (N.2.2.1 s 4) := by
  unfold siz; rw [if_pos h3, if_pos h4]; decide
theorem ho_1 {N : sN} {s a o : Int} (h3 : 0 ≤ N.2.2.1 s 3) (h4 : N.2.2.1 s 4 < 0) (hin : inS N (N.2.2.1 s 3) a) (ho : o = a - N.2.2.1 (N.2.2.1 s 3) 1) : 0 ≤ o ∧ o < siz N (N.2.2.1 s 3) * siz N (N.2.2.1 s 4) := by
  have e : siz N (N.2.2.1 s 4) = 1 := if_pos h4
  have e3 : siz N (N.2.2.1 s 3) = N.2.2.1 (N.2.2.1 s 3) 2 - N.2.2.1 (N.2.2.1 s 3) 1 + 1 := if_neg (by omega)
  rw [e, e3, Int.mul_one]; have := hin.1; have := hin.2; omega
theorem ho_2 {N : sN} {s a b o : Int} (h3 : 0 ≤ N.2.2.1 s 3) (h4 : 0 ≤ N.2.2.1 s 4) (ha : inS N (N.2.2.1 s 3) a) (hb : inS N (N.2.2.1 s 4) b) (ho : o = (a - N.2.2.1 (N.2.2.1 s 3) 1) * siz N (N.2.2.1 s 4) + (b - N.2.2.1 (N.2.2.1 s 4) 1)) : 0 ≤ o ∧ o < siz N (N.2.2.1 s 3) * siz N (N.2.2.1 s 4) := by
  have e4 : siz N (N.2.2.1 s 4) = N.2.2.1 (N.2.2.1 s 4) 2 - N.2.2.1 (N.2.2.1 s 4) 1 + 1 := if_neg (by omega)
  have e3 : siz N (N.2.2.1 s 3) = N.2.2.1 (N.2.2.1 s 3) 2 - N.2.2.1 (N.2.2.1 s 3) 1 + 1 := if_neg (by omega)
  rw [ho]; have := ha.1; have := ha.2; have := hb.1; have := hb.2
  exact off_lt ⟨by omega, by rw [e3]; omega⟩ ⟨by omega, by rw [e4]; omega⟩
theorem mulc {a b : Int} (ha : -320000 ≤ a ∧ a ≤ 320000) (hb : 1 ≤ b ∧ b ≤ 12) : -4000000 ≤ a * b ∧ a * b ≤ 4000000 := by
  have : b = 1 ∨ b = 2 ∨ b = 3 ∨ b = 4 ∨ b = 5 ∨ b = 6 ∨ b = 7 ∨ b = 8 ∨ b = 9 ∨ b = 10 ∨ b = 11 ∨ b = 12 := by omega
  rcases this with e | e | e | e | e | e | e | e | e | e | e | e <;> rw [e] <;> omega

set_option maxRecDepth 100000 in
set_option maxHeartbeats 4000000 in
theorem e_X9_named (l : Launch) (G : sG) (S : sS) {N : sN} {k v : Int → Int} {T pz q dd s0 : Int} {dn qF : Nat} (hI : cX G S 0 0 0) (hdd : 0 ≤ dd ∧ dd ≤ 29) (hN : Hd (NRc N S)) (hK : Hd (NK N)) (hTV : Hd (TVn k v)) (hkv : Hd (KV S k v T)) (hfk : S.1 11 14 = 0) (hat : S.1 11 13 = pz) (hpz : 0 ≤ pz ∧ pz ≤ 2000) (hlk : 0 ≤ S.1 11 12 ∧ S.1 11 12 ≤ 20000) (hdn : dd = (dn : Int)) (hqF : qF = 84 + dn) (hs : 0 ≤ s0 ∧ s0 < N.1) (hs0 : Hd (eFind N (v pz) = s0)) (hso : Hd ((N.2.2.1 s0 0 = 2 ∧ k (pz + 1) ≠ 17) ∨ N.2.2.1 s0 0 = 7 ∨ N.2.2.1 s0 0 = 8)) (hgx : Hd ((k (pz + 1) = 17 ∧ ogXs k (pz + 1 + 1) = some q) ∨ (k (pz + 1) ≠ 17 ∧ q = pz + 1))) (hz : Hd (veq (S.2.2.1 qF) (cst 0))) : Met l yX9_named (.code yX9_named cX9_named 11 (some .boolean) :: tb) (rmk 3 0 0) (sPc G 294 S [.ref (G.2.2.1 + 11), .int (iv dd), .int (iv s0)]) (sQi G 294 (fun r u => cX G u 0 0 0 ∧ Fr S u (pl [11, qF]) ∧ (EO u N q r (eN k v N (S.1 11 12) pz) qF))) 0 0 (sF G) := by
  refine sEnter (by decide) (Nat.le_of_ble_eq_true rfl) ?_
  intro p e s m args below meth c Cx hr hlk hnm hW ls hl
  have Cx : sC G p m c cX9_named 11 s args RX9 := Cx
  obtain ⟨hx, hb, hml, hown, hts⟩ := id Cx.1
  have hL : sL G [] := sL_nil
  have hl : lv_has ls 11 [(0, .ref (G.2.2.1 + 11)), (1, .int (iv dd)), (2, .int (iv s0))] := hl
  have hW0 := hW
  have lqF := lr_83 hqF (by omega)
  have hkn : 0 ≤ S.1 11 9 ∧ S.1 11 9 ≤ 128 := hI.fi 11 9 9 (by decide) rfl
  have hTb : 0 ≤ S.1 12 3 ∧ S.1 12 3 ≤ 2001 := hI.fi 12 3 8 (by decide) rfl
  have hTe := hkv.2.2
  have hN1 := hN.1
  refine lv_aload_n hx hb dX9_named_0 rfl (lv_at hl 0 rfl) ?_
  have q_1 : (-2147483648) ≤ S.1 11 13 ∧ S.1 11 13 ≤ 2147483647 := hI.fi 11 13 9 (by decide) rfl
  refine g_X9_89 Cx hW (k := 11) (by decide) rfl (v := S.1 11 13) rfl dX9_named_1 ?_
  refine lv_istore_n (lv' := [(3, .int (iv (S.1 11 13))), (0, .ref (G.2.2.1 + 11)), (1, .int (iv dd)), (2, .int (iv s0))]) hx hb dX9_named_4 rfl hl (by decide) rfl (fun ls hl => ?_)
  refine lv_aload_n hx hb dX9_named_5 rfl (lv_at hl 1 rfl) ?_
  refine lv_dup hx hb dX9_named_6 rfl ?_
  refine g_X9_89 Cx hW (k := 11) (by decide) rfl (v := S.1 11 13) rfl dX9_named_7 ?_
  refine lv_iconst (v := iv 1) hx hb dX9_named_10 (by decide) ?_
  refine r_iadd hx hb dX9_named_11 ?_
  refine p_X9_89 Cx hW hL (k := 11) (by decide) rfl dX9_named_12 (fun H locs hW hL => ?_)
  have F_2 : Fr S (uF S 11 13 ((S.1 11 13) + 1)) (pl [11, qF]) := (Fr.rf : Fr S S (pl [11, qF])).F pl_h
  have F_3 : Fr S (uF S 11 13 ((S.1 11 13) + 1)) pR3 := (Fr.rf : Fr S S pR3).F rfl
  have F_4 : Fr S (uF S 11 13 ((S.1 11 13) + 1)) (p1 11) := (Fr.rf : Fr S S (p1 11)).F rfl
  have i_5 : cX G (uF S 11 13 ((S.1 11 13) + 1)) 0 0 0 := hI.F rfl rfl (show (-2147483648) ≤ (S.1 11 13) + 1 ∧ (S.1 11 13) + 1 ≤ 2147483647 from ⟨by omega, by omega⟩)
  refine lv_aload_n hx hb dX9_named_15 rfl (lv_at hl 1 rfl) ?_
  refine lv_iload_n hx hb dX9_named_16 rfl (lv_at hl 3 rfl) ?_
  refine lv_iconst (v := iv 2) hx hb dX9_named_17 (by decide) ?_
  refine sBi (sV (As := [.int (iv s0), .int (iv 2)]) (rest := []) (k := 11) Cx (e_X9_isSort l G (uF S 11 13 ((S.1 11 13) + 1)) (s0 := s0) (k := 2) i_5 (by omega) (by omega)) (c_X9_146 Cx rfl rfl (rmk_ok (by omega) (by decide))) hW (by decide) rfl rfl rfl hl.1 rfl (Nat.le_of_ble_eq_true rfl) dX9_named_18 ⟨Nat.le_of_ble_eq_true rfl, Nat.le_of_ble_eq_true rfl⟩) hL (fun r_8 u_6 H locs k_7 hW hL => ?_)
  obtain ⟨eu_6, xu_6⟩ := k_7
  rw [eu_6] at hW
  refine r_if_eq (tgt := 41) hx hb ⟨(by omega), (by omega)⟩ dX9_named_21 (by decide) (fun c_9 => ?_) (fun c_9 => ?_)
  · have q_11 : 0 ≤ S.1 11 9 ∧ S.1 11 9 ≤ 128 := hI.fi 11 9 9 (by decide) rfl
    have lk_12 : (uF S 11 13 ((S.1 11 13) + 1)).1 11 9 = S.1 11 9 := uF_ne (fun h => absurd h.2 (by decide))
    have nr_10 : NRc N (uF S 11 13 ((S.1 11 13) + 1)) := hN.of (by omega) (fun j => (F_3 16 rfl).2.2.1 j) (fun j => (F_3 17 rfl).2.1 j) (fun j => (F_3 18 rfl).2.1 j)
    have h7 : N.2.2.1 s0 0 = 7 ∨ N.2.2.1 s0 0 = 8 := (by have q1 := xu_6.2.2 (by omega); have q2 := (nr_10.2.2 s0 (by omega) (by omega)).1; rcases hso with q | q; (exact absurd ⟨hs.1, q2.symm.trans q.1⟩ q1); exact q)
    have hw4 := (hK.2 s0 (by omega) (by omega)).2.2.2.1 h7
    refine lv_iconst (v := iv 0) hx hb dX9_named_41 (by decide) ?_
    refine lv_istore (lv' := [(4, .int (iv 0)), (3, .int (iv (S.1 11 13))), (0, .ref (G.2.2.1 + 11)), (1, .int (iv dd)), (2, .int (iv s0))]) hx hb dX9_named_42 hl (by decide) rfl (fun ls hl => ?_)
    refine lv_iconst (v := iv 0) hx hb dX9_named_44 (by decide) ?_
    refine lv_istore (lv' := [(5, .int (iv 0)), (4, .int (iv 0)), (3, .int (iv (S.1 11 13))), (0, .ref (G.2.2.1 + 11)), (1, .int (iv dd)), (2, .int (iv s0))]) hx hb dX9_named_45 hl (by decide) rfl (fun ls hl => ?_)
    refine lv_iconst (v := iv 1) hx hb dX9_named_47 (by decide) ?_
    refine lv_istore (lv' := [(6, .int (iv 1)), (5, .int (iv 0)), (4, .int (iv 0)), (3, .int (iv (S.1 11 13))), (0, .ref (G.2.2.1 + 11)), (1, .int (iv dd)), (2, .int (iv s0))]) hx hb dX9_named_48 hl (by decide) rfl (fun ls hl => ?_)
    refine lv_aload_n hx hb dX9_named_50 rfl (lv_at hl 4 rfl) ?_
    refine g_X9_14 Cx hW (k := 11) (by decide) rfl (v := .ref (G.2.2.1 + 12)) (rf_11_0 i_5) dX9_named_51 ?_
    refine lv_aload_n hx hb dX9_named_54 rfl (lv_at hl 4 rfl) ?_
    refine g_X9_89 Cx hW (k := 11) (by decide) rfl (v := (S.1 11 13) + 1) uF_on dX9_named_55 ?_
    refine sBi (sV (As := [.int (iv ((S.1 11 13) + 1))]) (rest := []) (k := 12) Cx (s_X8_kind l G (uF S 11 13 ((S.1 11 13) + 1)) (k := (S.1 11 13) + 1) i_5 (by omega)) (c_X9_95 Cx rfl rfl (rmk_ok (by omega) (by decide))) hW (by decide) rfl rfl rfl hl.1 rfl (Nat.le_of_ble_eq_true rfl) dX9_named_58 ⟨Nat.le_of_ble_eq_true rfl, Nat.le_of_ble_eq_true rfl⟩) hL (fun r_15 u_13 H locs k_14 hW hL => ?_)
    obtain ⟨eu_13, xu_13⟩ := k_14
    rw [eu_13] at hW
    have kv_16 : KV (uF S 11 13 ((S.1 11 13) + 1)) k v T := hkv.fr F_2 (pl_c (by decide) (pl_c (tau_ne (rfl : tau 12 = .inl 8) lqF.1 (fun h => by cases h)) rfl)) (pl_c (by decide) (pl_c (tau_ne (rfl : tau 13 = .inr (.int, 2001)) lqF.1 (fun h => by cases h)) rfl)) (pl_c (by decide) (pl_c (tau_ne (rfl : tau 15 = .inr (.long, 2001)) lqF.1 (by decide)) rfl))
    have k1 : r_15 = k (pz + 1) := (by rw [← kv_16.1]; exact xu_13.1.trans (congrArg (kd _) (by omega)))
    refine lv_bipush (v := iv 17) hx hb dX9_named_61 (by decide) ?_
    refine r_icmp_ne (tgt := 70) hx hb ⟨(by omega), (by omega)⟩ ⟨(by omega), (by omega)⟩ dX9_named_63 (by decide) (fun c_17 => ?_) (fun c_17 => ?_)
    · refine lv_iconst (v := iv 0) hx hb dX9_named_70 (by decide) ?_
      refine lv_istore (lv' := [(7, .int (iv 0)), (6, .int (iv 1)), (5, .int (iv 0)), (4, .int (iv 0)), (3, .int (iv (S.1 11 13))), (0, .ref (G.2.2.1 + 11)), (1, .int (iv dd)), (2, .int (iv s0))]) hx hb dX9_named_71 hl (by decide) rfl (fun ls hl => ?_)
      refine lv_iconst (v := iv 3) hx hb dX9_named_73 (by decide) ?_
      refine lv_istore (lv' := [(8, .int (iv 3)), (7, .int (iv 0)), (6, .int (iv 1)), (5, .int (iv 0)), (4, .int (iv 0)), (3, .int (iv (S.1 11 13))), (0, .ref (G.2.2.1 + 11)), (1, .int (iv dd)), (2, .int (iv s0))]) hx hb dX9_named_74 hl (by decide) rfl (fun ls hl => ?_)
      refine lv_iload hx hb dX9_named_76 (lv_at hl 0 rfl) ?_
      refine lv_iconst (v := iv 4) hx hb dX9_named_78 (by decide) ?_
      refine r_icmp_gt (tgt := 221) hx hb ⟨(by omega), (by omega)⟩ ⟨(by omega), (by omega)⟩ dX9_named_79 (by decide) (fun c => absurd c (by omega)) (fun _ => ?_)
      refine lv_iload hx hb dX9_named_82 (lv_at hl 1 rfl) ?_
      refine r_if_eq (tgt := 221) hx hb ⟨(by omega), (by omega)⟩ dX9_named_84 (by decide) (fun _ => ?_) (fun c => absurd (by omega) c)
      refine lv_aload_n hx hb dX9_named_221 rfl (lv_at hl 6 rfl) ?_
      refine lv_iload_n hx hb dX9_named_222 rfl (lv_at hl 8 rfl) ?_
      refine lv_iconst (v := iv 3) hx hb dX9_named_223 (by decide) ?_
      refine sBi (sV (As := [.int (iv s0), .int (iv 3)]) (rest := []) (k := 11) Cx (s_X9_fact l G (uF S 11 13 ((S.1 11 13) + 1)) (s0 := s0) (q := 3) i_5 (by omega) (by omega)) (c_X9_120 Cx rfl rfl (rmk_ok (by omega) (by decide))) hW (by decide) rfl rfl rfl hl.1 rfl (Nat.le_of_ble_eq_true rfl) dX9_named_224 ⟨Nat.le_of_ble_eq_true rfl, Nat.le_of_ble_eq_true rfl⟩) hL (fun r_20 u_18 H locs k_19 hW hL => ?_)
      obtain ⟨eu_18, xu_18⟩ := k_19
      rw [eu_18] at hW
      have yu_18 := xu_18.2
      unfold fr8 at yu_18
      have e3 : r_20 = N.2.2.1 s0 3 := (xu_18.1.trans ((nr_10.2.2 s0 (by omega) (by omega)).2.2.2.1 h7).1.symm)
      refine r_if_ge (tgt := 234) hx hb ⟨(by omega), (by omega)⟩ dX9_named_227 (by decide) (fun c_21 => ?_) (fun c_21 => ?_)
      · refine lv_aload_n hx hb dX9_named_234 rfl (lv_at hl 6 rfl) ?_
        refine lv_iload_n hx hb dX9_named_235 rfl (lv_at hl 8 rfl) ?_
        refine lv_iconst (v := iv 4) hx hb dX9_named_236 (by decide) ?_
        refine sBi (sV (As := [.int (iv s0), .int (iv 4)]) (rest := []) (k := 11) Cx (s_X9_fact l G (uF S 11 13 ((S.1 11 13) + 1)) (s0 := s0) (q := 4) i_5 (by omega) (by omega)) (c_X9_120 Cx rfl rfl (rmk_ok (by omega) (by decide))) hW (by decide) rfl rfl rfl hl.1 rfl (Nat.le_of_ble_eq_true rfl) dX9_named_237 ⟨Nat.le_of_ble_eq_true rfl, Nat.le_of_ble_eq_true rfl⟩) hL (fun r_24 u_22 H locs k_23 hW hL => ?_)
        obtain ⟨eu_22, xu_22⟩ := k_23
        rw [eu_22] at hW
        have yu_22 := xu_22.2
        unfold fr8 at yu_22
        have e4 : r_24 = N.2.2.1 s0 4 := (xu_22.1.trans ((nr_10.2.2 s0 (by omega) (by omega)).2.2.2.1 h7).2.symm)
        refine r_if_ge (tgt := 247) hx hb ⟨(by omega), (by omega)⟩ dX9_named_240 (by decide) (fun c_25 => ?_) (fun c_25 => ?_)
        · refine lv_iconst (v := iv 2) hx hb dX9_named_247 (by decide) ?_
          refine lv_istore (lv' := [(8, .int (iv 2)), (7, .int (iv 0)), (6, .int (iv 1)), (5, .int (iv 0)), (4, .int (iv 0)), (3, .int (iv (S.1 11 13))), (0, .ref (G.2.2.1 + 11)), (1, .int (iv dd)), (2, .int (iv s0))]) hx hb dX9_named_248 hl (by decide) rfl (fun ls hl => ?_)
          refine lv_iload hx hb dX9_named_250 (lv_at hl 4 rfl) ?_
          refine lv_iload hx hb dX9_named_252 (lv_at hl 0 rfl) ?_
          refine r_icmp_eq (tgt := 264) hx hb ⟨(by omega), (by omega)⟩ ⟨(by omega), (by omega)⟩ dX9_named_254 (by decide) (fun c => absurd c (by omega)) (fun _ => ?_)
          refine lv_aload_n hx hb dX9_named_257 rfl (lv_at hl 6 rfl) ?_
          refine lv_iconst (v := iv 2) hx hb dX9_named_258 (by decide) ?_
          refine lv_iload_n hx hb dX9_named_259 rfl (lv_at hl 5 rfl) ?_
          have lk_26 : (uF S 11 13 ((S.1 11 13) + 1)).1 11 13 = (S.1 11 13) + 1 := uF_on
          have q_27 : 0 ≤ S.1 11 10 ∧ S.1 11 10 ≤ 8 := hI.fi 11 10 9 (by decide) rfl
          have lk_28 : (uF S 11 13 ((S.1 11 13) + 1)).1 11 10 = S.1 11 10 := uF_ne (fun h => absurd h.2 (by decide))
          have q_29 : 0 ≤ S.1 11 11 ∧ S.1 11 11 ≤ 12 := hI.fi 11 11 9 (by decide) rfl
          have lk_30 : (uF S 11 13 ((S.1 11 13) + 1)).1 11 11 = S.1 11 11 := uF_ne (fun h => absurd h.2 (by decide))
          have q_31 : (-2147483648) ≤ S.1 11 12 ∧ S.1 11 12 ≤ 2147483647 := hI.fi 11 12 9 (by decide) rfl
          have lk_32 : (uF S 11 13 ((S.1 11 13) + 1)).1 11 12 = S.1 11 12 := uF_ne (fun h => absurd h.2 (by decide))
          refine sBi (sV (As := [.int (iv 2), .int (iv (S.1 11 13))]) (rest := []) (k := 11) Cx (e_X9_fail l G (uF S 11 13 ((S.1 11 13) + 1)) (k := 2) (tk := S.1 11 13) i_5 (by omega) (by omega)) (c_X9_132 Cx rfl rfl (rmk_ok (by omega) (by decide))) hW (by decide) rfl rfl rfl hl.1 rfl (Nat.le_of_ble_eq_true rfl) dX9_named_260 ⟨Nat.le_of_ble_eq_true rfl, Nat.le_of_ble_eq_true rfl⟩) hL (fun r_35 u_33 H locs k_34 hW hL => ?_)
          obtain ⟨iu_33, fu_33, xu_33⟩ := k_34
          have F_36 := F_2.trans (fu_33.to (p1_sub pl_h))
          have F_37 := F_3.trans (fu_33.to (p1_sub rfl))
          have F_38 := F_4.trans fu_33
          have q_39 : (-2147483648) ≤ u_33.1 11 12 ∧ u_33.1 11 12 ≤ 2147483647 := iu_33.fi 11 12 9 (by decide) rfl
          have q_40 : (-2147483648) ≤ u_33.1 11 13 ∧ u_33.1 11 13 ≤ 2147483647 := iu_33.fi 11 13 9 (by decide) rfl
          have q_41 : 0 ≤ u_33.1 11 14 ∧ u_33.1 11 14 ≤ 7 := iu_33.fi 11 14 9 (by decide) rfl
          have q_42 : 0 ≤ u_33.1 11 9 ∧ u_33.1 11 9 ≤ 128 := iu_33.fi 11 9 9 (by decide) rfl
          exact sZret Cx hr hlk hW hL (by omega) ⟨iu_33, F_36, ⟨(by omega), (fun h => absurd h (by omega)), (fun _ => (by rw [eN_1 hs0 hs.1 h7 (by omega)]; exact if_neg (fun z => by omega)))⟩⟩ dX9_named_263
        · refine lv_iconst (v := iv 1) hx hb dX9_named_243 (by decide) ?_
          refine lv_goto (tgt := 248) hx hb dX9_named_244 (by decide) ?_
          refine lv_istore (lv' := [(8, .int (iv 1)), (7, .int (iv 0)), (6, .int (iv 1)), (5, .int (iv 0)), (4, .int (iv 0)), (3, .int (iv (S.1 11 13))), (0, .ref (G.2.2.1 + 11)), (1, .int (iv dd)), (2, .int (iv s0))]) hx hb dX9_named_248 hl (by decide) rfl (fun ls hl => ?_)
          refine lv_iload hx hb dX9_named_250 (lv_at hl 4 rfl) ?_
          refine lv_iload hx hb dX9_named_252 (lv_at hl 0 rfl) ?_
          refine r_icmp_eq (tgt := 264) hx hb ⟨(by omega), (by omega)⟩ ⟨(by omega), (by omega)⟩ dX9_named_254 (by decide) (fun c => absurd c (by omega)) (fun _ => ?_)
          refine lv_aload_n hx hb dX9_named_257 rfl (lv_at hl 6 rfl) ?_
          refine lv_iconst (v := iv 2) hx hb dX9_named_258 (by decide) ?_
          refine lv_iload_n hx hb dX9_named_259 rfl (lv_at hl 5 rfl) ?_
          have lk_43 : (uF S 11 13 ((S.1 11 13) + 1)).1 11 13 = (S.1 11 13) + 1 := uF_on
          have q_44 : 0 ≤ S.1 11 10 ∧ S.1 11 10 ≤ 8 := hI.fi 11 10 9 (by decide) rfl
          have lk_45 : (uF S 11 13 ((S.1 11 13) + 1)).1 11 10 = S.1 11 10 := uF_ne (fun h => absurd h.2 (by decide))
          have q_46 : 0 ≤ S.1 11 11 ∧ S.1 11 11 ≤ 12 := hI.fi 11 11 9 (by decide) rfl
          have lk_47 : (uF S 11 13 ((S.1 11 13) + 1)).1 11 11 = S.1 11 11 := uF_ne (fun h => absurd h.2 (by decide))
          have q_48 : (-2147483648) ≤ S.1 11 12 ∧ S.1 11 12 ≤ 2147483647 := hI.fi 11 12 9 (by decide) rfl
          have lk_49 : (uF S 11 13 ((S.1 11 13) + 1)).1 11 12 = S.1 11 12 := uF_ne (fun h => absurd h.2 (by decide))
          refine sBi (sV (As := [.int (iv 2), .int (iv (S.1 11 13))]) (rest := []) (k := 11) Cx (e_X9_fail l G (uF S 11 13 ((S.1 11 13) + 1)) (k := 2) (tk := S.1 11 13) i_5 (by omega) (by omega)) (c_X9_132 Cx rfl rfl (rmk_ok (by omega) (by decide))) hW (by decide) rfl rfl rfl hl.1 rfl (Nat.le_of_ble_eq_true rfl) dX9_named_260 ⟨Nat.le_of_ble_eq_true rfl, Nat.le_of_ble_eq_true rfl⟩) hL (fun r_52 u_50 H locs k_51 hW hL => ?_)
          obtain ⟨iu_50, fu_50, xu_50⟩ := k_51
          have F_53 := F_2.trans (fu_50.to (p1_sub pl_h))
          have F_54 := F_3.trans (fu_50.to (p1_sub rfl))
          have F_55 := F_4.trans fu_50
          have q_56 : (-2147483648) ≤ u_50.1 11 12 ∧ u_50.1 11 12 ≤ 2147483647 := iu_50.fi 11 12 9 (by decide) rfl
          have q_57 : (-2147483648) ≤ u_50.1 11 13 ∧ u_50.1 11 13 ≤ 2147483647 := iu_50.fi 11 13 9 (by decide) rfl
          have q_58 : 0 ≤ u_50.1 11 14 ∧ u_50.1 11 14 ≤ 7 := iu_50.fi 11 14 9 (by decide) rfl
          have q_59 : 0 ≤ u_50.1 11 9 ∧ u_50.1 11 9 ≤ 128 := iu_50.fi 11 9 9 (by decide) rfl
          exact sZret Cx hr hlk hW hL (by omega) ⟨iu_50, F_53, ⟨(by omega), (fun h => absurd h (by omega)), (fun _ => (by rw [eN_1 hs0 hs.1 h7 (by omega)]; exact if_neg (fun z => by omega)))⟩⟩ dX9_named_263
      · refine lv_iconst (v := iv 0) hx hb dX9_named_230 (by decide) ?_
        refine lv_goto (tgt := 248) hx hb dX9_named_231 (by decide) ?_
        refine lv_istore (lv' := [(8, .int (iv 0)), (7, .int (iv 0)), (6, .int (iv 1)), (5, .int (iv 0)), (4, .int (iv 0)), (3, .int (iv (S.1 11 13))), (0, .ref (G.2.2.1 + 11)), (1, .int (iv dd)), (2, .int (iv s0))]) hx hb dX9_named_248 hl (by decide) rfl (fun ls hl => ?_)
        refine lv_iload hx hb dX9_named_250 (lv_at hl 4 rfl) ?_
        refine lv_iload hx hb dX9_named_252 (lv_at hl 0 rfl) ?_
        refine r_icmp_eq (tgt := 264) hx hb ⟨(by omega), (by omega)⟩ ⟨(by omega), (by omega)⟩ dX9_named_254 (by decide) (fun _ => ?_) (fun c => absurd (by omega) c)
        refine lv_iload hx hb dX9_named_264 (lv_at hl 2 rfl) ?_
        refine r_if_ne (tgt := 276) hx hb ⟨(by omega), (by omega)⟩ dX9_named_266 (by decide) (fun _ => ?_) (fun c => absurd c (by omega))
        refine lv_aload_n hx hb dX9_named_276 rfl (lv_at hl 6 rfl) ?_
        refine lv_aload_n hx hb dX9_named_277 rfl (lv_at hl 6 rfl) ?_
        refine g_X9_37 Cx hW (k := 11) (by decide) rfl (v := .ref (G.2.2.1 + 83)) (rf_11_6 i_5) dX9_named_278 ?_
        refine lv_iload_n hx hb dX9_named_281 rfl (lv_at hl 7 rfl) ?_
        refine rAald Cx hW (k := 83) (by decide) rfl (by decide) (by omega) (by omega) (r2_83f i_5 hqF (by omega) (by omega)) dX9_named_282 ?_
        refine lv_iload_n hx hb dX9_named_283 rfl (lv_at hl 8 rfl) ?_
        refine lv_aload_n hx hb dX9_named_284 rfl (lv_at hl 6 rfl) ?_
        refine lv_iload_n hx hb dX9_named_285 rfl (lv_at hl 8 rfl) ?_
        refine lv_iconst (v := iv 5) hx hb dX9_named_286 (by decide) ?_
        refine sBi (sV (As := [.int (iv s0), .int (iv 5)]) (rest := [.int (iv s0), .ref (G.2.2.1 + qF), .ref (G.2.2.1 + 11)]) (k := 11) Cx (s_X9_fact l G (uF S 11 13 ((S.1 11 13) + 1)) (s0 := s0) (q := 5) i_5 (by omega) (by omega)) (c_X9_120 Cx rfl rfl (rmk_ok (by omega) (by decide))) hW (by decide) rfl rfl rfl hl.1 rfl (Nat.le_of_ble_eq_true rfl) dX9_named_287 ⟨Nat.le_of_ble_eq_true rfl, Nat.le_of_ble_eq_true rfl⟩) hL (fun r_62 u_60 H locs k_61 hW hL => ?_)
        obtain ⟨eu_60, xu_60⟩ := k_61
        rw [eu_60] at hW
        have yu_60 := xu_60.2
        unfold fr8 at yu_60
        refine lv_iload hx hb dX9_named_290 (lv_at hl 3 rfl) ?_
        refine r_iadd hx hb dX9_named_292 ?_
        have hoF := (ho_0 (by omega) (hw4 (by omega)))
        have hv5 := nr_10.v5 hK (by omega) (by omega) h7 hoF
        have hf0 := (nr_10.2.2 s0 (by omega) (by omega)).1
        refine sBv (sV (As := [.ref (G.2.2.1 + qF), .int (iv s0), .int (iv (r_62 + 0))]) (rest := []) (k := 11) Cx (e_X9_putNamed l G (uF S 11 13 ((S.1 11 13) + 1)) (qa := qF) (s0 := s0) (v := r_62 + 0) (N := N) (o := 0) i_5 lqF nr_10 hK (by rw [kv_16.1, kv_16.2.1]; exact hTV) (by omega) (by omega) (by omega) hoF (by omega) (fun j a b => ((F_4 qF (p1_no (tau_ne lqF.1 (rfl : tau 11 = .inl 9) (fun h => by cases h)))).2.2.1 j).trans (hz j a b)) (by omega)) (c_X9_245 Cx rfl rfl (rmk_ok (by omega) (by decide))) hW (by decide) rfl rfl rfl hl.1 rfl (Nat.le_of_ble_eq_true rfl) dX9_named_293 ⟨Nat.le_of_ble_eq_true rfl, Nat.le_of_ble_eq_true rfl⟩) hL (fun u_63 H locs k_64 hW hL => ?_)
        obtain ⟨iu_63, fu_63, xu_63⟩ := k_64
        have F_65 := F_2.trans (fu_63.to (p1_sub (pl_t pl_h)))
        have F_66 := F_3.trans (fu_63.to (p1_sub (lr_R lqF)))
        refine lv_iconst (v := iv 1) hx hb dX9_named_296 (by decide) ?_
        have q_67 : (-2147483648) ≤ S.1 11 12 ∧ S.1 11 12 ≤ 2147483647 := hI.fi 11 12 9 (by decide) rfl
        have lk_68 : u_63.1 11 12 = S.1 11 12 := ((fu_63 11 (p1_no (tau_ne (rfl : tau 11 = .inl 9) lqF.1 (fun h => by cases h)))).1 12).trans (uF_ne (fun h => absurd h.2 (by decide)))
        have lk_69 : u_63.1 11 13 = (S.1 11 13) + 1 := ((fu_63 11 (p1_no (tau_ne (rfl : tau 11 = .inl 9) lqF.1 (fun h => by cases h)))).1 13).trans (uF_on)
        have q_70 : 0 ≤ S.1 11 14 ∧ S.1 11 14 ≤ 7 := hI.fi 11 14 9 (by decide) rfl
        have lk_71 : u_63.1 11 14 = S.1 11 14 := ((fu_63 11 (p1_no (tau_ne (rfl : tau 11 = .inl 9) lqF.1 (fun h => by cases h)))).1 14).trans (uF_ne (fun h => absurd h.2 (by decide)))
        have lk_72 : u_63.1 11 9 = S.1 11 9 := ((fu_63 11 (p1_no (tau_ne (rfl : tau 11 = .inl 9) lqF.1 (fun h => by cases h)))).1 9).trans (uF_ne (fun h => absurd h.2 (by decide)))
        have nr_73 : NRc N u_63 := hN.of (by omega) (fun j => (F_66 16 rfl).2.2.1 j) (fun j => (F_66 17 rfl).2.1 j) (fun j => (F_66 18 rfl).2.1 j)
        exact sZret Cx hr hlk hW hL (by omega) ⟨iu_63, F_65, (by have qe := (show q = pz + 1 from (by rcases hgx with g | g; (exact absurd g.1 (by omega)); exact g.2)); exact ⟨(by omega), (fun _ => ⟨(eV N s0 0), (by rw [show u_63.1 11 12 = S.1 11 12 by omega]; rw [eN_1 hs0 hs.1 h7 (by omega), if_pos (by omega)]; rw [qe]), xu_63, (vb9_eV hK (by omega) (by omega) h7 hoF.1 hoF.2), ⟨by omega, by omega⟩, (by omega), (by omega), nr_73⟩), (fun h => absurd h (by decide))⟩)⟩ dX9_named_297
    · refine lv_iconst (v := iv 1) hx hb dX9_named_66 (by decide) ?_
      refine lv_goto (tgt := 71) hx hb dX9_named_67 (by decide) ?_
      refine lv_istore (lv' := [(7, .int (iv 1)), (6, .int (iv 1)), (5, .int (iv 0)), (4, .int (iv 0)), (3, .int (iv (S.1 11 13))), (0, .ref (G.2.2.1 + 11)), (1, .int (iv dd)), (2, .int (iv s0))]) hx hb dX9_named_71 hl (by decide) rfl (fun ls hl => ?_)
      refine lv_iconst (v := iv 3) hx hb dX9_named_73 (by decide) ?_
      refine lv_istore (lv' := [(8, .int (iv 3)), (7, .int (iv 1)), (6, .int (iv 1)), (5, .int (iv 0)), (4, .int (iv 0)), (3, .int (iv (S.1 11 13))), (0, .ref (G.2.2.1 + 11)), (1, .int (iv dd)), (2, .int (iv s0))]) hx hb dX9_named_74 hl (by decide) rfl (fun ls hl => ?_)
      refine lv_iload hx hb dX9_named_76 (lv_at hl 0 rfl) ?_
      refine lv_iconst (v := iv 4) hx hb dX9_named_78 (by decide) ?_
      refine r_icmp_gt (tgt := 221) hx hb ⟨(by omega), (by omega)⟩ ⟨(by omega), (by omega)⟩ dX9_named_79 (by decide) (fun c => absurd c (by omega)) (fun _ => ?_)
      refine lv_iload hx hb dX9_named_82 (lv_at hl 1 rfl) ?_
      refine r_if_eq (tgt := 221) hx hb ⟨(by omega), (by omega)⟩ dX9_named_84 (by decide) (fun c => absurd c (by omega)) (fun _ => ?_)
      obtain ⟨qa, gx1, gy1⟩ := ogXs_i (show ogXs k (pz + 1 + 1) = some q from (by rcases hgx with g | g; (exact g.2); (exact absurd (by omega) g.1)))
      have kz1 := hkv.lt rfl (ogX_k gx1); have ql1 := ogX_inc _ _ gx1
      refine lv_aload_n hx hb dX9_named_87 rfl (lv_at hl 6 rfl) ?_
      have q_74 : 0 ≤ S.1 11 14 ∧ S.1 11 14 ≤ 7 := hI.fi 11 14 9 (by decide) rfl
      have lk_75 : (uF S 11 13 ((S.1 11 13) + 1)).1 11 14 = S.1 11 14 := uF_ne (fun h => absurd h.2 (by decide))
      have lk_76 : (uF S 11 13 ((S.1 11 13) + 1)).1 11 13 = (S.1 11 13) + 1 := uF_on
      have q_77 : 0 ≤ S.1 11 10 ∧ S.1 11 10 ≤ 8 := hI.fi 11 10 9 (by decide) rfl
      have lk_78 : (uF S 11 13 ((S.1 11 13) + 1)).1 11 10 = S.1 11 10 := uF_ne (fun h => absurd h.2 (by decide))
      have q_79 : 0 ≤ S.1 11 11 ∧ S.1 11 11 ≤ 12 := hI.fi 11 11 9 (by decide) rfl
      have lk_80 : (uF S 11 13 ((S.1 11 13) + 1)).1 11 11 = S.1 11 11 := uF_ne (fun h => absurd h.2 (by decide))
      have q_81 : (-2147483648) ≤ S.1 11 12 ∧ S.1 11 12 ≤ 2147483647 := hI.fi 11 12 9 (by decide) rfl
      have lk_82 : (uF S 11 13 ((S.1 11 13) + 1)).1 11 12 = S.1 11 12 := uF_ne (fun h => absurd h.2 (by decide))
      refine sBi (sV (As := []) (rest := []) (k := 11) Cx (e_X9_item l G (uF S 11 13 ((S.1 11 13) + 1)) (N := N) (pz := pz + 1 + 1) (q := qa) i_5 nr_10 hK (by rw [kv_16.1, kv_16.2.1]; exact hTV) (by omega) (by omega) (by omega) (by rw [kv_16.1]; exact gx1)) (c_X9_242 Cx rfl rfl (rmk_ok (by omega) (by decide))) hW (by decide) rfl rfl rfl hl.1 rfl (Nat.le_of_ble_eq_true rfl) dX9_named_88 ⟨Nat.le_of_ble_eq_true rfl, Nat.le_of_ble_eq_true rfl⟩) hL (fun r_85 u_83 H locs k_84 hW hL => ?_)
      obtain ⟨iu_83, fu_83, xu_83⟩ := k_84
      have F_86 := F_2.trans (fu_83.to (p1_sub pl_h))
      have F_87 := F_3.trans (fu_83.to (p1_sub rfl))
      have F_88 := F_4.trans fu_83
      refine lv_istore (lv' := [(9, .int (iv r_85)), (8, .int (iv 3)), (7, .int (iv 1)), (6, .int (iv 1)), (5, .int (iv 0)), (4, .int (iv 0)), (3, .int (iv (S.1 11 13))), (0, .ref (G.2.2.1 + 11)), (1, .int (iv dd)), (2, .int (iv s0))]) hx hb dX9_named_91 hl (by decide) rfl (fun ls hl => ?_)
      refine lv_aload_n hx hb dX9_named_93 rfl (lv_at hl 7 rfl) ?_
      have q_89 : 0 ≤ u_83.1 11 14 ∧ u_83.1 11 14 ≤ 7 := iu_83.fi 11 14 9 (by decide) rfl
      refine g_X9_54 Cx hW (k := 11) (by decide) rfl (v := u_83.1 11 14) rfl dX9_named_94 ?_
      refine r_if_eq (tgt := 102) hx hb ⟨(by omega), (by omega)⟩ dX9_named_97 (by decide) (fun c_90 => ?_) (fun c_90 => ?_)
      · obtain ⟨ia1, ib1⟩ := xu_83.2.2.1 (by omega)
        rw [kv_16.1, kv_16.2.1] at ia1
        have bd1 := eI_bd hK (by omega) hTV gx1 ia1
        refine lv_iinc (v := iv (1)) (lv' := [(4, .int (iv 1)), (9, .int (iv r_85)), (8, .int (iv 3)), (7, .int (iv 1)), (6, .int (iv 1)), (5, .int (iv 0)), (3, .int (iv (S.1 11 13))), (0, .ref (G.2.2.1 + 11)), (1, .int (iv dd)), (2, .int (iv s0))]) hx hb dX9_named_102 hl (k := 5) rfl ((Int32.ofInt_add _ _).symm.trans (congrArg iv (by omega))) (by decide) rfl (fun ls hl => ?_)
        refine lv_aload_n hx hb dX9_named_105 rfl (lv_at hl 7 rfl) ?_
        refine lv_iload_n hx hb dX9_named_106 rfl (lv_at hl 9 rfl) ?_
        refine lv_iload hx hb dX9_named_107 (lv_at hl 2 rfl) ?_
        refine sBi (sV (As := [.int (iv s0), .int (iv 3)]) (rest := []) (k := 11) Cx (s_X9_fact l G u_83 (s0 := s0) (q := 3) iu_83 (by omega) (by omega)) (c_X9_120 Cx rfl rfl (rmk_ok (by omega) (by decide))) hW (by decide) rfl rfl rfl hl.1 rfl (Nat.le_of_ble_eq_true rfl) dX9_named_109 ⟨Nat.le_of_ble_eq_true rfl, Nat.le_of_ble_eq_true rfl⟩) hL (fun r_93 u_91 H locs k_92 hW hL => ?_)
        obtain ⟨eu_91, xu_91⟩ := k_92
        rw [eu_91] at hW
        have yu_91 := xu_91.2
        unfold fr8 at yu_91
        have q_95 : 0 ≤ u_83.1 11 9 ∧ u_83.1 11 9 ≤ 128 := iu_83.fi 11 9 9 (by decide) rfl
        have nr_94 : NRc N u_83 := hN.of (by omega) (fun j => (F_87 16 rfl).2.2.1 j) (fun j => (F_87 17 rfl).2.1 j) (fun j => (F_87 18 rfl).2.1 j)
        have fs1 : r_93 = N.2.2.1 s0 3 := (xu_91.1.trans ((nr_94.2.2 s0 (by omega) (by omega)).2.2.2.1 h7).1.symm)
        refine lv_istore (lv' := [(10, .int (iv r_93)), (4, .int (iv 1)), (9, .int (iv r_85)), (8, .int (iv 3)), (7, .int (iv 1)), (6, .int (iv 1)), (5, .int (iv 0)), (3, .int (iv (S.1 11 13))), (0, .ref (G.2.2.1 + 11)), (1, .int (iv dd)), (2, .int (iv s0))]) hx hb dX9_named_112 hl (by decide) rfl (fun ls hl => ?_)
        have join_177 : ∀ (irA : Int) (ofA : Int) (H : Heap) (locs : List Loc) (ls : Array Slot), (-320000 ≤ ofA ∧ ofA ≤ 320000) → (0 ≤ irA ∧ irA ≤ 1) → (Hd (JN N (N.2.2.1 s0 3) r_85 0 1 ofA irA)) → sW G 294 u_83 H → sL G locs → lv_has ls 11 [(10, .int (iv r_93)), (4, .int (iv 1)), (9, .int (iv r_85)), (8, .int (iv 3)), (7, .int (iv 1)), (6, .int (iv irA)), (5, .int (iv ofA)), (3, .int (iv (S.1 11 13))), (0, .ref (G.2.2.1 + 11)), (1, .int (iv dd)), (2, .int (iv s0))] → W p l e (rmk 3 0 0) s m args below meth c H locs 0 0 (MQ below (sQi G 294 (fun r u => cX G u 0 0 0 ∧ Fr S u (pl [11, qF]) ∧ (EO u N q r (eN k v N (S.1 11 12) pz) qF))) args s 0 0 (sF G)) (F0 m 177 ls []) := by
          intro irA ofA H locs ls hof hir hj1 hW hL hl
          refine lv_aload_n hx hb dX9_named_177 rfl (lv_at hl 8 rfl) ?_
          refine g_X9_14 Cx hW (k := 11) (by decide) rfl (v := .ref (G.2.2.1 + 12)) (rf_11_0 iu_83) dX9_named_178 ?_
          refine lv_aload_n hx hb dX9_named_181 rfl (lv_at hl 8 rfl) ?_
          have q_96 : (-2147483648) ≤ u_83.1 11 13 ∧ u_83.1 11 13 ≤ 2147483647 := iu_83.fi 11 13 9 (by decide) rfl
          refine g_X9_89 Cx hW (k := 11) (by decide) rfl (v := u_83.1 11 13) rfl dX9_named_182 ?_
          refine sBi (sV (As := [.int (iv (u_83.1 11 13))]) (rest := []) (k := 12) Cx (s_X8_kind l G u_83 (k := u_83.1 11 13) iu_83 (by omega)) (c_X9_95 Cx rfl rfl (rmk_ok (by omega) (by decide))) hW (by decide) rfl rfl rfl hl.1 rfl (Nat.le_of_ble_eq_true rfl) dX9_named_185 ⟨Nat.le_of_ble_eq_true rfl, Nat.le_of_ble_eq_true rfl⟩) hL (fun r_99 u_97 H locs k_98 hW hL => ?_)
          obtain ⟨eu_97, xu_97⟩ := k_98
          rw [eu_97] at hW
          have kv_100 : KV u_83 k v T := hkv.fr F_86 (pl_c (by decide) (pl_c (tau_ne (rfl : tau 12 = .inl 8) lqF.1 (fun h => by cases h)) rfl)) (pl_c (by decide) (pl_c (tau_ne (rfl : tau 13 = .inr (.int, 2001)) lqF.1 (fun h => by cases h)) rfl)) (pl_c (by decide) (pl_c (tau_ne (rfl : tau 15 = .inr (.long, 2001)) lqF.1 (by decide)) rfl))
          have kc1 : r_99 = k qa := (by rw [← kv_100.1]; exact xu_97.1.trans (congrArg (kd _) (by omega)))
          refine lv_bipush (v := iv 16) hx hb dX9_named_188 (by decide) ?_
          refine r_icmp_ne (tgt := 197) hx hb ⟨(by omega), (by omega)⟩ ⟨(by omega), (by omega)⟩ dX9_named_190 (by decide) (fun c_101 => ?_) (fun c_101 => ?_)
          · refine lv_iconst (v := iv 0) hx hb dX9_named_197 (by decide) ?_
            refine lv_istore (lv' := [(7, .int (iv 0)), (10, .int (iv r_93)), (4, .int (iv 1)), (9, .int (iv r_85)), (8, .int (iv 3)), (6, .int (iv irA)), (5, .int (iv ofA)), (3, .int (iv (S.1 11 13))), (0, .ref (G.2.2.1 + 11)), (1, .int (iv dd)), (2, .int (iv s0))]) hx hb dX9_named_198 hl (by decide) rfl (fun ls hl => ?_)
            refine lv_iload hx hb dX9_named_200 (lv_at hl 0 rfl) ?_
            refine r_if_ne (tgt := 215) hx hb ⟨(by omega), (by omega)⟩ dX9_named_202 (by decide) (fun c => absurd (by omega) c) (fun _ => ?_)
            refine lv_aload_n hx hb dX9_named_205 rfl (lv_at hl 8 rfl) ?_
            refine lv_dup hx hb dX9_named_206 rfl ?_
            refine g_X9_89 Cx hW (k := 11) (by decide) rfl (v := u_83.1 11 13) rfl dX9_named_207 ?_
            refine lv_iconst (v := iv 1) hx hb dX9_named_210 (by decide) ?_
            refine r_iadd hx hb dX9_named_211 ?_
            refine p_X9_89 Cx hW hL (k := 11) (by decide) rfl dX9_named_212 (fun H locs hW hL => ?_)
            have F_102 : Fr S (uF u_83 11 13 ((u_83.1 11 13) + 1)) (pl [11, qF]) := F_86.F pl_h
            have F_103 : Fr S (uF u_83 11 13 ((u_83.1 11 13) + 1)) pR3 := F_87.F rfl
            have F_104 : Fr S (uF u_83 11 13 ((u_83.1 11 13) + 1)) (p1 11) := F_88.F rfl
            have i_105 : cX G (uF u_83 11 13 ((u_83.1 11 13) + 1)) 0 0 0 := iu_83.F rfl rfl (show (-2147483648) ≤ (u_83.1 11 13) + 1 ∧ (u_83.1 11 13) + 1 ≤ 2147483647 from ⟨by omega, by omega⟩)
            refine lv_iinc (v := iv (4)) (lv' := [(8, .int (iv 4)), (7, .int (iv 0)), (10, .int (iv r_93)), (4, .int (iv 1)), (9, .int (iv r_85)), (6, .int (iv irA)), (5, .int (iv ofA)), (3, .int (iv (S.1 11 13))), (0, .ref (G.2.2.1 + 11)), (1, .int (iv dd)), (2, .int (iv s0))]) hx hb dX9_named_215 hl (k := 4) rfl ((Int32.ofInt_add _ _).symm.trans (congrArg iv (by omega))) (by decide) rfl (fun ls hl => ?_)
            refine lv_goto (tgt := 76) hx hb dX9_named_218 (by decide) ?_
            refine lv_iload hx hb dX9_named_76 (lv_at hl 0 rfl) ?_
            refine lv_iconst (v := iv 4) hx hb dX9_named_78 (by decide) ?_
            refine r_icmp_gt (tgt := 221) hx hb ⟨(by omega), (by omega)⟩ ⟨(by omega), (by omega)⟩ dX9_named_79 (by decide) (fun c => absurd c (by omega)) (fun _ => ?_)
            refine lv_iload hx hb dX9_named_82 (lv_at hl 1 rfl) ?_
            refine r_if_eq (tgt := 221) hx hb ⟨(by omega), (by omega)⟩ dX9_named_84 (by decide) (fun _ => ?_) (fun c => absurd (by omega) c)
            refine lv_aload_n hx hb dX9_named_221 rfl (lv_at hl 8 rfl) ?_
            refine lv_iload_n hx hb dX9_named_222 rfl (lv_at hl 10 rfl) ?_
            refine lv_iconst (v := iv 3) hx hb dX9_named_223 (by decide) ?_
            refine sBi (sV (As := [.int (iv s0), .int (iv 3)]) (rest := []) (k := 11) Cx (s_X9_fact l G (uF u_83 11 13 ((u_83.1 11 13) + 1)) (s0 := s0) (q := 3) i_105 (by omega) (by omega)) (c_X9_120 Cx rfl rfl (rmk_ok (by omega) (by decide))) hW (by decide) rfl rfl rfl hl.1 rfl (Nat.le_of_ble_eq_true rfl) dX9_named_224 ⟨Nat.le_of_ble_eq_true rfl, Nat.le_of_ble_eq_true rfl⟩) hL (fun r_108 u_106 H locs k_107 hW hL => ?_)
            obtain ⟨eu_106, xu_106⟩ := k_107
            rw [eu_106] at hW
            have yu_106 := xu_106.2
            unfold fr8 at yu_106
            have lk_110 : (uF u_83 11 13 ((u_83.1 11 13) + 1)).1 11 9 = u_83.1 11 9 := uF_ne (fun h => absurd h.2 (by decide))
            have nr_109 : NRc N (uF u_83 11 13 ((u_83.1 11 13) + 1)) := hN.of (by omega) (fun j => (F_103 16 rfl).2.2.1 j) (fun j => (F_103 17 rfl).2.1 j) (fun j => (F_103 18 rfl).2.1 j)
            have e3 : r_108 = N.2.2.1 s0 3 := (xu_106.1.trans ((nr_109.2.2 s0 (by omega) (by omega)).2.2.2.1 h7).1.symm)
            refine r_if_ge (tgt := 234) hx hb ⟨(by omega), (by omega)⟩ dX9_named_227 (by decide) (fun c_111 => ?_) (fun c_111 => ?_)
            · refine lv_aload_n hx hb dX9_named_234 rfl (lv_at hl 8 rfl) ?_
              refine lv_iload_n hx hb dX9_named_235 rfl (lv_at hl 10 rfl) ?_
              refine lv_iconst (v := iv 4) hx hb dX9_named_236 (by decide) ?_
              refine sBi (sV (As := [.int (iv s0), .int (iv 4)]) (rest := []) (k := 11) Cx (s_X9_fact l G (uF u_83 11 13 ((u_83.1 11 13) + 1)) (s0 := s0) (q := 4) i_105 (by omega) (by omega)) (c_X9_120 Cx rfl rfl (rmk_ok (by omega) (by decide))) hW (by decide) rfl rfl rfl hl.1 rfl (Nat.le_of_ble_eq_true rfl) dX9_named_237 ⟨Nat.le_of_ble_eq_true rfl, Nat.le_of_ble_eq_true rfl⟩) hL (fun r_114 u_112 H locs k_113 hW hL => ?_)
              obtain ⟨eu_112, xu_112⟩ := k_113
              rw [eu_112] at hW
              have yu_112 := xu_112.2
              unfold fr8 at yu_112
              have e4 : r_114 = N.2.2.1 s0 4 := (xu_112.1.trans ((nr_109.2.2 s0 (by omega) (by omega)).2.2.2.1 h7).2.symm)
              refine r_if_ge (tgt := 247) hx hb ⟨(by omega), (by omega)⟩ dX9_named_240 (by decide) (fun c_115 => ?_) (fun c_115 => ?_)
              · refine lv_iconst (v := iv 2) hx hb dX9_named_247 (by decide) ?_
                refine lv_istore (lv' := [(8, .int (iv 2)), (7, .int (iv 0)), (10, .int (iv r_93)), (4, .int (iv 1)), (9, .int (iv r_85)), (6, .int (iv irA)), (5, .int (iv ofA)), (3, .int (iv (S.1 11 13))), (0, .ref (G.2.2.1 + 11)), (1, .int (iv dd)), (2, .int (iv s0))]) hx hb dX9_named_248 hl (by decide) rfl (fun ls hl => ?_)
                refine lv_iload hx hb dX9_named_250 (lv_at hl 3 rfl) ?_
                refine lv_iload hx hb dX9_named_252 (lv_at hl 0 rfl) ?_
                refine r_icmp_eq (tgt := 264) hx hb ⟨(by omega), (by omega)⟩ ⟨(by omega), (by omega)⟩ dX9_named_254 (by decide) (fun c => absurd c (by omega)) (fun _ => ?_)
                refine lv_aload_n hx hb dX9_named_257 rfl (lv_at hl 8 rfl) ?_
                refine lv_iconst (v := iv 2) hx hb dX9_named_258 (by decide) ?_
                refine lv_iload_n hx hb dX9_named_259 rfl (lv_at hl 7 rfl) ?_
                have lk_116 : (uF u_83 11 13 ((u_83.1 11 13) + 1)).1 11 13 = (u_83.1 11 13) + 1 := uF_on
                have q_117 : 0 ≤ u_83.1 11 10 ∧ u_83.1 11 10 ≤ 8 := iu_83.fi 11 10 9 (by decide) rfl
                have lk_118 : (uF u_83 11 13 ((u_83.1 11 13) + 1)).1 11 10 = u_83.1 11 10 := uF_ne (fun h => absurd h.2 (by decide))
                have q_119 : 0 ≤ u_83.1 11 11 ∧ u_83.1 11 11 ≤ 12 := iu_83.fi 11 11 9 (by decide) rfl
                have lk_120 : (uF u_83 11 13 ((u_83.1 11 13) + 1)).1 11 11 = u_83.1 11 11 := uF_ne (fun h => absurd h.2 (by decide))
                have q_121 : (-2147483648) ≤ u_83.1 11 12 ∧ u_83.1 11 12 ≤ 2147483647 := iu_83.fi 11 12 9 (by decide) rfl
                have lk_122 : (uF u_83 11 13 ((u_83.1 11 13) + 1)).1 11 12 = u_83.1 11 12 := uF_ne (fun h => absurd h.2 (by decide))
                refine sBi (sV (As := [.int (iv 2), .int (iv (S.1 11 13))]) (rest := []) (k := 11) Cx (e_X9_fail l G (uF u_83 11 13 ((u_83.1 11 13) + 1)) (k := 2) (tk := S.1 11 13) i_105 (by omega) (by omega)) (c_X9_132 Cx rfl rfl (rmk_ok (by omega) (by decide))) hW (by decide) rfl rfl rfl hl.1 rfl (Nat.le_of_ble_eq_true rfl) dX9_named_260 ⟨Nat.le_of_ble_eq_true rfl, Nat.le_of_ble_eq_true rfl⟩) hL (fun r_125 u_123 H locs k_124 hW hL => ?_)
                obtain ⟨iu_123, fu_123, xu_123⟩ := k_124
                have F_126 := F_102.trans (fu_123.to (p1_sub pl_h))
                have F_127 := F_103.trans (fu_123.to (p1_sub rfl))
                have F_128 := F_104.trans fu_123
                have q_129 : (-2147483648) ≤ u_123.1 11 12 ∧ u_123.1 11 12 ≤ 2147483647 := iu_123.fi 11 12 9 (by decide) rfl
                have q_130 : (-2147483648) ≤ u_123.1 11 13 ∧ u_123.1 11 13 ≤ 2147483647 := iu_123.fi 11 13 9 (by decide) rfl
                have q_131 : 0 ≤ u_123.1 11 14 ∧ u_123.1 11 14 ≤ 7 := iu_123.fi 11 14 9 (by decide) rfl
                have q_132 : 0 ≤ u_123.1 11 9 ∧ u_123.1 11 9 ≤ 128 := iu_123.fi 11 9 9 (by decide) rfl
                exact sZret Cx hr hlk hW hL (by omega) ⟨iu_123, F_126, ⟨(by omega), (fun h => absurd h (by omega)), (fun _ => (by rw [eN_3 hs0 hs.1 h7 (by omega) ia1 (by omega)]; exact if_neg (fun z => by first | (have z1 := z.1; have z2 := z.2.1; omega) | (exact ((hj1.2 z.1).2.2.2 (by omega)) ⟨rfl, z.2.2⟩))))⟩⟩ dX9_named_263
              · refine lv_iconst (v := iv 1) hx hb dX9_named_243 (by decide) ?_
                refine lv_goto (tgt := 248) hx hb dX9_named_244 (by decide) ?_
                refine lv_istore (lv' := [(8, .int (iv 1)), (7, .int (iv 0)), (10, .int (iv r_93)), (4, .int (iv 1)), (9, .int (iv r_85)), (6, .int (iv irA)), (5, .int (iv ofA)), (3, .int (iv (S.1 11 13))), (0, .ref (G.2.2.1 + 11)), (1, .int (iv dd)), (2, .int (iv s0))]) hx hb dX9_named_248 hl (by decide) rfl (fun ls hl => ?_)
                refine lv_iload hx hb dX9_named_250 (lv_at hl 3 rfl) ?_
                refine lv_iload hx hb dX9_named_252 (lv_at hl 0 rfl) ?_
                refine r_icmp_eq (tgt := 264) hx hb ⟨(by omega), (by omega)⟩ ⟨(by omega), (by omega)⟩ dX9_named_254 (by decide) (fun _ => ?_) (fun c => absurd (by omega) c)
                refine lv_iload hx hb dX9_named_264 (lv_at hl 5 rfl) ?_
                refine r_if_ne (tgt := 276) hx hb ⟨(by omega), (by omega)⟩ dX9_named_266 (by decide) (fun c_133 => ?_) (fun c_133 => ?_)
                · refine lv_aload_n hx hb dX9_named_276 rfl (lv_at hl 8 rfl) ?_
                  refine lv_aload_n hx hb dX9_named_277 rfl (lv_at hl 8 rfl) ?_
                  refine g_X9_37 Cx hW (k := 11) (by decide) rfl (v := .ref (G.2.2.1 + 83)) (rf_11_6 i_105) dX9_named_278 ?_
                  refine lv_iload_n hx hb dX9_named_281 rfl (lv_at hl 9 rfl) ?_
                  refine rAald Cx hW (k := 83) (by decide) rfl (by decide) (by omega) (by omega) (r2_83f i_105 hqF (by omega) (by omega)) dX9_named_282 ?_
                  refine lv_iload_n hx hb dX9_named_283 rfl (lv_at hl 10 rfl) ?_
                  refine lv_aload_n hx hb dX9_named_284 rfl (lv_at hl 8 rfl) ?_
                  refine lv_iload_n hx hb dX9_named_285 rfl (lv_at hl 10 rfl) ?_
                  refine lv_iconst (v := iv 5) hx hb dX9_named_286 (by decide) ?_
                  refine sBi (sV (As := [.int (iv s0), .int (iv 5)]) (rest := [.int (iv s0), .ref (G.2.2.1 + qF), .ref (G.2.2.1 + 11)]) (k := 11) Cx (s_X9_fact l G (uF u_83 11 13 ((u_83.1 11 13) + 1)) (s0 := s0) (q := 5) i_105 (by omega) (by omega)) (c_X9_120 Cx rfl rfl (rmk_ok (by omega) (by decide))) hW (by decide) rfl rfl rfl hl.1 rfl (Nat.le_of_ble_eq_true rfl) dX9_named_287 ⟨Nat.le_of_ble_eq_true rfl, Nat.le_of_ble_eq_true rfl⟩) hL (fun r_136 u_134 H locs k_135 hW hL => ?_)
                  obtain ⟨eu_134, xu_134⟩ := k_135
                  rw [eu_134] at hW
                  have yu_134 := xu_134.2
                  unfold fr8 at yu_134
                  refine lv_iload hx hb dX9_named_290 (lv_at hl 6 rfl) ?_
                  refine r_iadd hx hb dX9_named_292 ?_
                  have hoF := (ho_1 (by omega) (by omega) ((hj1.2 (by omega)).2.2.1 (by omega)).2 (by have q := (hj1.2 (by omega)).1; rw [Int.zero_mul] at q; omega))
                  have hv5 := nr_109.v5 hK (by omega) (by omega) h7 hoF
                  have hf0 := (nr_109.2.2 s0 (by omega) (by omega)).1
                  have kv_137 : KV (uF u_83 11 13 ((u_83.1 11 13) + 1)) k v T := hkv.fr F_102 (pl_c (by decide) (pl_c (tau_ne (rfl : tau 12 = .inl 8) lqF.1 (fun h => by cases h)) rfl)) (pl_c (by decide) (pl_c (tau_ne (rfl : tau 13 = .inr (.int, 2001)) lqF.1 (fun h => by cases h)) rfl)) (pl_c (by decide) (pl_c (tau_ne (rfl : tau 15 = .inr (.long, 2001)) lqF.1 (by decide)) rfl))
                  refine sBv (sV (As := [.ref (G.2.2.1 + qF), .int (iv s0), .int (iv (r_136 + ofA))]) (rest := []) (k := 11) Cx (e_X9_putNamed l G (uF u_83 11 13 ((u_83.1 11 13) + 1)) (qa := qF) (s0 := s0) (v := r_136 + ofA) (N := N) (o := ofA) i_105 lqF nr_109 hK (by rw [kv_137.1, kv_137.2.1]; exact hTV) (by omega) (by omega) (by omega) hoF (by omega) (fun j a b => ((F_104 qF (p1_no (tau_ne lqF.1 (rfl : tau 11 = .inl 9) (fun h => by cases h)))).2.2.1 j).trans (hz j a b)) (by omega)) (c_X9_245 Cx rfl rfl (rmk_ok (by omega) (by decide))) hW (by decide) rfl rfl rfl hl.1 rfl (Nat.le_of_ble_eq_true rfl) dX9_named_293 ⟨Nat.le_of_ble_eq_true rfl, Nat.le_of_ble_eq_true rfl⟩) hL (fun u_138 H locs k_139 hW hL => ?_)
                  obtain ⟨iu_138, fu_138, xu_138⟩ := k_139
                  have F_140 := F_102.trans (fu_138.to (p1_sub (pl_t pl_h)))
                  have F_141 := F_103.trans (fu_138.to (p1_sub (lr_R lqF)))
                  refine lv_iconst (v := iv 1) hx hb dX9_named_296 (by decide) ?_
                  have q_142 : (-2147483648) ≤ u_83.1 11 12 ∧ u_83.1 11 12 ≤ 2147483647 := iu_83.fi 11 12 9 (by decide) rfl
                  have lk_143 : u_138.1 11 12 = u_83.1 11 12 := ((fu_138 11 (p1_no (tau_ne (rfl : tau 11 = .inl 9) lqF.1 (fun h => by cases h)))).1 12).trans (uF_ne (fun h => absurd h.2 (by decide)))
                  have lk_144 : u_138.1 11 13 = (u_83.1 11 13) + 1 := ((fu_138 11 (p1_no (tau_ne (rfl : tau 11 = .inl 9) lqF.1 (fun h => by cases h)))).1 13).trans (uF_on)
                  have lk_145 : u_138.1 11 14 = u_83.1 11 14 := ((fu_138 11 (p1_no (tau_ne (rfl : tau 11 = .inl 9) lqF.1 (fun h => by cases h)))).1 14).trans (uF_ne (fun h => absurd h.2 (by decide)))
                  have lk_146 : u_138.1 11 9 = u_83.1 11 9 := ((fu_138 11 (p1_no (tau_ne (rfl : tau 11 = .inl 9) lqF.1 (fun h => by cases h)))).1 9).trans (uF_ne (fun h => absurd h.2 (by decide)))
                  have nr_147 : NRc N u_138 := hN.of (by omega) (fun j => (F_141 16 rfl).2.2.1 j) (fun j => (F_141 17 rfl).2.1 j) (fun j => (F_141 18 rfl).2.1 j)
                  exact sZret Cx hr hlk hW hL (by omega) ⟨iu_138, F_140, (by have qe := (by rcases gy1 with g | g; (exact absurd g.1 (by omega)); exact g.2.2); exact ⟨(by omega), (fun _ => ⟨(eV N s0 ofA), (by rw [show u_138.1 11 12 = S.1 11 12 by omega]; rw [eN_3 hs0 hs.1 h7 (by omega) ia1 (by omega), if_pos ⟨by omega, by omega, ((hj1.2 (by omega)).2.2.1 (by omega)).2⟩]; rw [qe, show ofA = r_85 - N.2.2.1 (N.2.2.1 s0 3) 1 from (by have q := (hj1.2 (by omega)).1; rw [Int.zero_mul] at q; omega)]), xu_138, (vb9_eV hK (by omega) (by omega) h7 hoF.1 hoF.2), ⟨by omega, by omega⟩, (by omega), (by omega), nr_147⟩), (fun h => absurd h (by decide))⟩)⟩ dX9_named_297
                · refine lv_aload_n hx hb dX9_named_269 rfl (lv_at hl 8 rfl) ?_
                  refine lv_iconst (v := iv 5) hx hb dX9_named_270 (by decide) ?_
                  refine lv_iload_n hx hb dX9_named_271 rfl (lv_at hl 7 rfl) ?_
                  have lk_148 : (uF u_83 11 13 ((u_83.1 11 13) + 1)).1 11 13 = (u_83.1 11 13) + 1 := uF_on
                  have q_149 : 0 ≤ u_83.1 11 10 ∧ u_83.1 11 10 ≤ 8 := iu_83.fi 11 10 9 (by decide) rfl
                  have lk_150 : (uF u_83 11 13 ((u_83.1 11 13) + 1)).1 11 10 = u_83.1 11 10 := uF_ne (fun h => absurd h.2 (by decide))
                  have q_151 : 0 ≤ u_83.1 11 11 ∧ u_83.1 11 11 ≤ 12 := iu_83.fi 11 11 9 (by decide) rfl
                  have lk_152 : (uF u_83 11 13 ((u_83.1 11 13) + 1)).1 11 11 = u_83.1 11 11 := uF_ne (fun h => absurd h.2 (by decide))
                  have q_153 : (-2147483648) ≤ u_83.1 11 12 ∧ u_83.1 11 12 ≤ 2147483647 := iu_83.fi 11 12 9 (by decide) rfl
                  have lk_154 : (uF u_83 11 13 ((u_83.1 11 13) + 1)).1 11 12 = u_83.1 11 12 := uF_ne (fun h => absurd h.2 (by decide))
                  refine sBi (sV (As := [.int (iv 5), .int (iv (S.1 11 13))]) (rest := []) (k := 11) Cx (e_X9_fail l G (uF u_83 11 13 ((u_83.1 11 13) + 1)) (k := 5) (tk := S.1 11 13) i_105 (by omega) (by omega)) (c_X9_132 Cx rfl rfl (rmk_ok (by omega) (by decide))) hW (by decide) rfl rfl rfl hl.1 rfl (Nat.le_of_ble_eq_true rfl) dX9_named_272 ⟨Nat.le_of_ble_eq_true rfl, Nat.le_of_ble_eq_true rfl⟩) hL (fun r_157 u_155 H locs k_156 hW hL => ?_)
                  obtain ⟨iu_155, fu_155, xu_155⟩ := k_156
                  have F_158 := F_102.trans (fu_155.to (p1_sub pl_h))
                  have F_159 := F_103.trans (fu_155.to (p1_sub rfl))
                  have F_160 := F_104.trans fu_155
                  have q_161 : (-2147483648) ≤ u_155.1 11 12 ∧ u_155.1 11 12 ≤ 2147483647 := iu_155.fi 11 12 9 (by decide) rfl
                  have q_162 : (-2147483648) ≤ u_155.1 11 13 ∧ u_155.1 11 13 ≤ 2147483647 := iu_155.fi 11 13 9 (by decide) rfl
                  have q_163 : 0 ≤ u_155.1 11 14 ∧ u_155.1 11 14 ≤ 7 := iu_155.fi 11 14 9 (by decide) rfl
                  have q_164 : 0 ≤ u_155.1 11 9 ∧ u_155.1 11 9 ≤ 128 := iu_155.fi 11 9 9 (by decide) rfl
                  exact sZret Cx hr hlk hW hL (by omega) ⟨iu_155, F_158, ⟨(by omega), (fun h => absurd h (by omega)), (fun _ => (by rw [eN_3 hs0 hs.1 h7 (by omega) ia1 (by omega)]; exact if_neg (fun z => by first | (have z1 := z.1; have z2 := z.2.1; omega) | (exact ((hj1.2 z.1).2.2.2 (by omega)) ⟨rfl, z.2.2⟩))))⟩⟩ dX9_named_275
            · refine lv_iconst (v := iv 0) hx hb dX9_named_230 (by decide) ?_
              refine lv_goto (tgt := 248) hx hb dX9_named_231 (by decide) ?_
              refine lv_istore (lv' := [(8, .int (iv 0)), (7, .int (iv 0)), (10, .int (iv r_93)), (4, .int (iv 1)), (9, .int (iv r_85)), (6, .int (iv irA)), (5, .int (iv ofA)), (3, .int (iv (S.1 11 13))), (0, .ref (G.2.2.1 + 11)), (1, .int (iv dd)), (2, .int (iv s0))]) hx hb dX9_named_248 hl (by decide) rfl (fun ls hl => ?_)
              refine lv_iload hx hb dX9_named_250 (lv_at hl 3 rfl) ?_
              refine lv_iload hx hb dX9_named_252 (lv_at hl 0 rfl) ?_
              refine r_icmp_eq (tgt := 264) hx hb ⟨(by omega), (by omega)⟩ ⟨(by omega), (by omega)⟩ dX9_named_254 (by decide) (fun c => absurd c (by omega)) (fun _ => ?_)
              refine lv_aload_n hx hb dX9_named_257 rfl (lv_at hl 8 rfl) ?_
              refine lv_iconst (v := iv 2) hx hb dX9_named_258 (by decide) ?_
              refine lv_iload_n hx hb dX9_named_259 rfl (lv_at hl 7 rfl) ?_
              have lk_165 : (uF u_83 11 13 ((u_83.1 11 13) + 1)).1 11 13 = (u_83.1 11 13) + 1 := uF_on
              have q_166 : 0 ≤ u_83.1 11 10 ∧ u_83.1 11 10 ≤ 8 := iu_83.fi 11 10 9 (by decide) rfl
              have lk_167 : (uF u_83 11 13 ((u_83.1 11 13) + 1)).1 11 10 = u_83.1 11 10 := uF_ne (fun h => absurd h.2 (by decide))
              have q_168 : 0 ≤ u_83.1 11 11 ∧ u_83.1 11 11 ≤ 12 := iu_83.fi 11 11 9 (by decide) rfl
              have lk_169 : (uF u_83 11 13 ((u_83.1 11 13) + 1)).1 11 11 = u_83.1 11 11 := uF_ne (fun h => absurd h.2 (by decide))
              have q_170 : (-2147483648) ≤ u_83.1 11 12 ∧ u_83.1 11 12 ≤ 2147483647 := iu_83.fi 11 12 9 (by decide) rfl
              have lk_171 : (uF u_83 11 13 ((u_83.1 11 13) + 1)).1 11 12 = u_83.1 11 12 := uF_ne (fun h => absurd h.2 (by decide))
              refine sBi (sV (As := [.int (iv 2), .int (iv (S.1 11 13))]) (rest := []) (k := 11) Cx (e_X9_fail l G (uF u_83 11 13 ((u_83.1 11 13) + 1)) (k := 2) (tk := S.1 11 13) i_105 (by omega) (by omega)) (c_X9_132 Cx rfl rfl (rmk_ok (by omega) (by decide))) hW (by decide) rfl rfl rfl hl.1 rfl (Nat.le_of_ble_eq_true rfl) dX9_named_260 ⟨Nat.le_of_ble_eq_true rfl, Nat.le_of_ble_eq_true rfl⟩) hL (fun r_174 u_172 H locs k_173 hW hL => ?_)
              obtain ⟨iu_172, fu_172, xu_172⟩ := k_173
              have F_175 := F_102.trans (fu_172.to (p1_sub pl_h))
              have F_176 := F_103.trans (fu_172.to (p1_sub rfl))
              have F_177 := F_104.trans fu_172
              have q_178 : (-2147483648) ≤ u_172.1 11 12 ∧ u_172.1 11 12 ≤ 2147483647 := iu_172.fi 11 12 9 (by decide) rfl
              have q_179 : (-2147483648) ≤ u_172.1 11 13 ∧ u_172.1 11 13 ≤ 2147483647 := iu_172.fi 11 13 9 (by decide) rfl
              have q_180 : 0 ≤ u_172.1 11 14 ∧ u_172.1 11 14 ≤ 7 := iu_172.fi 11 14 9 (by decide) rfl
              have q_181 : 0 ≤ u_172.1 11 9 ∧ u_172.1 11 9 ≤ 128 := iu_172.fi 11 9 9 (by decide) rfl
              exact sZret Cx hr hlk hW hL (by omega) ⟨iu_172, F_175, ⟨(by omega), (fun h => absurd h (by omega)), (fun _ => (by rw [eN_3 hs0 hs.1 h7 (by omega) ia1 (by omega)]; exact if_neg (fun z => by first | (have z1 := z.1; have z2 := z.2.1; omega) | (exact ((hj1.2 z.1).2.2.2 (by omega)) ⟨rfl, z.2.2⟩))))⟩⟩ dX9_named_263
          · refine lv_iconst (v := iv 1) hx hb dX9_named_193 (by decide) ?_
            refine lv_goto (tgt := 198) hx hb dX9_named_194 (by decide) ?_
            refine lv_istore (lv' := [(7, .int (iv 1)), (10, .int (iv r_93)), (4, .int (iv 1)), (9, .int (iv r_85)), (8, .int (iv 3)), (6, .int (iv irA)), (5, .int (iv ofA)), (3, .int (iv (S.1 11 13))), (0, .ref (G.2.2.1 + 11)), (1, .int (iv dd)), (2, .int (iv s0))]) hx hb dX9_named_198 hl (by decide) rfl (fun ls hl => ?_)
            refine lv_iload hx hb dX9_named_200 (lv_at hl 0 rfl) ?_
            refine r_if_ne (tgt := 215) hx hb ⟨(by omega), (by omega)⟩ dX9_named_202 (by decide) (fun _ => ?_) (fun c => absurd c (by omega))
            refine lv_iinc (v := iv (4)) (lv' := [(8, .int (iv 4)), (7, .int (iv 1)), (10, .int (iv r_93)), (4, .int (iv 1)), (9, .int (iv r_85)), (6, .int (iv irA)), (5, .int (iv ofA)), (3, .int (iv (S.1 11 13))), (0, .ref (G.2.2.1 + 11)), (1, .int (iv dd)), (2, .int (iv s0))]) hx hb dX9_named_215 hl (k := 4) rfl ((Int32.ofInt_add _ _).symm.trans (congrArg iv (by omega))) (by decide) rfl (fun ls hl => ?_)
            refine lv_goto (tgt := 76) hx hb dX9_named_218 (by decide) ?_
            refine lv_iload hx hb dX9_named_76 (lv_at hl 0 rfl) ?_
            refine lv_iconst (v := iv 4) hx hb dX9_named_78 (by decide) ?_
            refine r_icmp_gt (tgt := 221) hx hb ⟨(by omega), (by omega)⟩ ⟨(by omega), (by omega)⟩ dX9_named_79 (by decide) (fun c => absurd c (by omega)) (fun _ => ?_)
            refine lv_iload hx hb dX9_named_82 (lv_at hl 1 rfl) ?_
            refine r_if_eq (tgt := 221) hx hb ⟨(by omega), (by omega)⟩ dX9_named_84 (by decide) (fun c => absurd c (by omega)) (fun _ => ?_)
            obtain ⟨qb, gx2, gy2⟩ : ∃ b, ogX k (qa + 1) = some b ∧ k b = 18 ∧ q = b + 1 := (by rcases gy1 with g | g; (obtain ⟨b, g1, g2, g3⟩ := g.2; exact ⟨b, g1, g2, g3⟩); (exact absurd (by omega) g.1))
            have kz2 := hkv.lt rfl (ogX_k gx2); have ql2 := ogX_inc _ _ gx2
            refine lv_aload_n hx hb dX9_named_87 rfl (lv_at hl 8 rfl) ?_
            have q_182 : 0 ≤ u_83.1 11 10 ∧ u_83.1 11 10 ≤ 8 := iu_83.fi 11 10 9 (by decide) rfl
            have q_183 : 0 ≤ u_83.1 11 11 ∧ u_83.1 11 11 ≤ 12 := iu_83.fi 11 11 9 (by decide) rfl
            have q_184 : (-2147483648) ≤ u_83.1 11 12 ∧ u_83.1 11 12 ≤ 2147483647 := iu_83.fi 11 12 9 (by decide) rfl
            refine sBi (sV (As := []) (rest := []) (k := 11) Cx (e_X9_item l G u_83 (N := N) (pz := qa + 1) (q := qb) iu_83 nr_94 hK (by rw [kv_100.1, kv_100.2.1]; exact hTV) (by omega) (by omega) (by omega) (by rw [kv_100.1]; exact gx2)) (c_X9_242 Cx rfl rfl (rmk_ok (by omega) (by decide))) hW (by decide) rfl rfl rfl hl.1 rfl (Nat.le_of_ble_eq_true rfl) dX9_named_88 ⟨Nat.le_of_ble_eq_true rfl, Nat.le_of_ble_eq_true rfl⟩) hL (fun r_187 u_185 H locs k_186 hW hL => ?_)
            obtain ⟨iu_185, fu_185, xu_185⟩ := k_186
            have F_188 := F_86.trans (fu_185.to (p1_sub pl_h))
            have F_189 := F_87.trans (fu_185.to (p1_sub rfl))
            have F_190 := F_88.trans fu_185
            refine lv_istore (lv' := [(9, .int (iv r_187)), (8, .int (iv 4)), (7, .int (iv 1)), (10, .int (iv r_93)), (4, .int (iv 1)), (6, .int (iv irA)), (5, .int (iv ofA)), (3, .int (iv (S.1 11 13))), (0, .ref (G.2.2.1 + 11)), (1, .int (iv dd)), (2, .int (iv s0))]) hx hb dX9_named_91 hl (by decide) rfl (fun ls hl => ?_)
            refine lv_aload_n hx hb dX9_named_93 rfl (lv_at hl 8 rfl) ?_
            have q_191 : 0 ≤ u_185.1 11 14 ∧ u_185.1 11 14 ≤ 7 := iu_185.fi 11 14 9 (by decide) rfl
            refine g_X9_54 Cx hW (k := 11) (by decide) rfl (v := u_185.1 11 14) rfl dX9_named_94 ?_
            refine r_if_eq (tgt := 102) hx hb ⟨(by omega), (by omega)⟩ dX9_named_97 (by decide) (fun c_192 => ?_) (fun c_192 => ?_)
            · obtain ⟨ia2, ib2⟩ := xu_185.2.2.1 (by omega)
              rw [kv_100.1, kv_100.2.1] at ia2
              have bd2 := eI_bd hK (by omega) hTV gx2 ia2
              refine lv_iinc (v := iv (2)) (lv' := [(4, .int (iv 2)), (9, .int (iv r_187)), (8, .int (iv 4)), (7, .int (iv 1)), (10, .int (iv r_93)), (6, .int (iv irA)), (5, .int (iv ofA)), (3, .int (iv (S.1 11 13))), (0, .ref (G.2.2.1 + 11)), (1, .int (iv dd)), (2, .int (iv s0))]) hx hb dX9_named_102 hl (k := 4) rfl ((Int32.ofInt_add _ _).symm.trans (congrArg iv (by omega))) (by decide) rfl (fun ls hl => ?_)
              refine lv_aload_n hx hb dX9_named_105 rfl (lv_at hl 8 rfl) ?_
              refine lv_iload_n hx hb dX9_named_106 rfl (lv_at hl 10 rfl) ?_
              refine lv_iload hx hb dX9_named_107 (lv_at hl 2 rfl) ?_
              refine sBi (sV (As := [.int (iv s0), .int (iv 4)]) (rest := []) (k := 11) Cx (s_X9_fact l G u_185 (s0 := s0) (q := 4) iu_185 (by omega) (by omega)) (c_X9_120 Cx rfl rfl (rmk_ok (by omega) (by decide))) hW (by decide) rfl rfl rfl hl.1 rfl (Nat.le_of_ble_eq_true rfl) dX9_named_109 ⟨Nat.le_of_ble_eq_true rfl, Nat.le_of_ble_eq_true rfl⟩) hL (fun r_195 u_193 H locs k_194 hW hL => ?_)
              obtain ⟨eu_193, xu_193⟩ := k_194
              rw [eu_193] at hW
              have yu_193 := xu_193.2
              unfold fr8 at yu_193
              have q_197 : 0 ≤ u_185.1 11 9 ∧ u_185.1 11 9 ≤ 128 := iu_185.fi 11 9 9 (by decide) rfl
              have nr_196 : NRc N u_185 := hN.of (by omega) (fun j => (F_189 16 rfl).2.2.1 j) (fun j => (F_189 17 rfl).2.1 j) (fun j => (F_189 18 rfl).2.1 j)
              have fs2 : r_195 = N.2.2.1 s0 4 := (xu_193.1.trans ((nr_196.2.2 s0 (by omega) (by omega)).2.2.2.1 h7).2.symm)
              refine lv_istore (lv' := [(10, .int (iv r_195)), (4, .int (iv 2)), (9, .int (iv r_187)), (8, .int (iv 4)), (7, .int (iv 1)), (6, .int (iv irA)), (5, .int (iv ofA)), (3, .int (iv (S.1 11 13))), (0, .ref (G.2.2.1 + 11)), (1, .int (iv dd)), (2, .int (iv s0))]) hx hb dX9_named_112 hl (by decide) rfl (fun ls hl => ?_)
              have join_177 : ∀ (irB : Int) (ofB : Int) (H : Heap) (locs : List Loc) (ls : Array Slot), (-5000000 ≤ ofB ∧ ofB ≤ 5000000) → (0 ≤ irB ∧ irB ≤ 1) → (Hd (JN N (N.2.2.1 s0 4) r_187 ofA irA ofB irB)) → sW G 294 u_185 H → sL G locs → lv_has ls 11 [(10, .int (iv r_195)), (4, .int (iv 2)), (9, .int (iv r_187)), (8, .int (iv 4)), (7, .int (iv 1)), (6, .int (iv irB)), (5, .int (iv ofB)), (3, .int (iv (S.1 11 13))), (0, .ref (G.2.2.1 + 11)), (1, .int (iv dd)), (2, .int (iv s0))] → W p l e (rmk 3 0 0) s m args below meth c H locs 0 0 (MQ below (sQi G 294 (fun r u => cX G u 0 0 0 ∧ Fr S u (pl [11, qF]) ∧ (EO u N q r (eN k v N (S.1 11 12) pz) qF))) args s 0 0 (sF G)) (F0 m 177 ls []) := by
                intro irB ofB H locs ls hof hir hj2 hW hL hl
                refine lv_aload_n hx hb dX9_named_177 rfl (lv_at hl 8 rfl) ?_
                refine g_X9_14 Cx hW (k := 11) (by decide) rfl (v := .ref (G.2.2.1 + 12)) (rf_11_0 iu_185) dX9_named_178 ?_
                refine lv_aload_n hx hb dX9_named_181 rfl (lv_at hl 8 rfl) ?_
                have q_198 : (-2147483648) ≤ u_185.1 11 13 ∧ u_185.1 11 13 ≤ 2147483647 := iu_185.fi 11 13 9 (by decide) rfl
                refine g_X9_89 Cx hW (k := 11) (by decide) rfl (v := u_185.1 11 13) rfl dX9_named_182 ?_
                refine sBi (sV (As := [.int (iv (u_185.1 11 13))]) (rest := []) (k := 12) Cx (s_X8_kind l G u_185 (k := u_185.1 11 13) iu_185 (by omega)) (c_X9_95 Cx rfl rfl (rmk_ok (by omega) (by decide))) hW (by decide) rfl rfl rfl hl.1 rfl (Nat.le_of_ble_eq_true rfl) dX9_named_185 ⟨Nat.le_of_ble_eq_true rfl, Nat.le_of_ble_eq_true rfl⟩) hL (fun r_201 u_199 H locs k_200 hW hL => ?_)
                obtain ⟨eu_199, xu_199⟩ := k_200
                rw [eu_199] at hW
                have kv_202 : KV u_185 k v T := hkv.fr F_188 (pl_c (by decide) (pl_c (tau_ne (rfl : tau 12 = .inl 8) lqF.1 (fun h => by cases h)) rfl)) (pl_c (by decide) (pl_c (tau_ne (rfl : tau 13 = .inr (.int, 2001)) lqF.1 (fun h => by cases h)) rfl)) (pl_c (by decide) (pl_c (tau_ne (rfl : tau 15 = .inr (.long, 2001)) lqF.1 (by decide)) rfl))
                have kc2 : r_201 = k qb := (by rw [← kv_202.1]; exact xu_199.1.trans (congrArg (kd _) (by omega)))
                refine lv_bipush (v := iv 16) hx hb dX9_named_188 (by decide) ?_
                refine r_icmp_ne (tgt := 197) hx hb ⟨(by omega), (by omega)⟩ ⟨(by omega), (by omega)⟩ dX9_named_190 (by decide) (fun c_203 => ?_) (fun c_203 => ?_)
                · refine lv_iconst (v := iv 0) hx hb dX9_named_197 (by decide) ?_
                  refine lv_istore (lv' := [(7, .int (iv 0)), (10, .int (iv r_195)), (4, .int (iv 2)), (9, .int (iv r_187)), (8, .int (iv 4)), (6, .int (iv irB)), (5, .int (iv ofB)), (3, .int (iv (S.1 11 13))), (0, .ref (G.2.2.1 + 11)), (1, .int (iv dd)), (2, .int (iv s0))]) hx hb dX9_named_198 hl (by decide) rfl (fun ls hl => ?_)
                  refine lv_iload hx hb dX9_named_200 (lv_at hl 0 rfl) ?_
                  refine r_if_ne (tgt := 215) hx hb ⟨(by omega), (by omega)⟩ dX9_named_202 (by decide) (fun c => absurd (by omega) c) (fun _ => ?_)
                  refine lv_aload_n hx hb dX9_named_205 rfl (lv_at hl 8 rfl) ?_
                  refine lv_dup hx hb dX9_named_206 rfl ?_
                  refine g_X9_89 Cx hW (k := 11) (by decide) rfl (v := u_185.1 11 13) rfl dX9_named_207 ?_
                  refine lv_iconst (v := iv 1) hx hb dX9_named_210 (by decide) ?_
                  refine r_iadd hx hb dX9_named_211 ?_
                  refine p_X9_89 Cx hW hL (k := 11) (by decide) rfl dX9_named_212 (fun H locs hW hL => ?_)
                  have F_204 : Fr S (uF u_185 11 13 ((u_185.1 11 13) + 1)) (pl [11, qF]) := F_188.F pl_h
                  have F_205 : Fr S (uF u_185 11 13 ((u_185.1 11 13) + 1)) pR3 := F_189.F rfl
                  have F_206 : Fr S (uF u_185 11 13 ((u_185.1 11 13) + 1)) (p1 11) := F_190.F rfl
                  have i_207 : cX G (uF u_185 11 13 ((u_185.1 11 13) + 1)) 0 0 0 := iu_185.F rfl rfl (show (-2147483648) ≤ (u_185.1 11 13) + 1 ∧ (u_185.1 11 13) + 1 ≤ 2147483647 from ⟨by omega, by omega⟩)
                  refine lv_iinc (v := iv (5)) (lv' := [(8, .int (iv 5)), (7, .int (iv 0)), (10, .int (iv r_195)), (4, .int (iv 2)), (9, .int (iv r_187)), (6, .int (iv irB)), (5, .int (iv ofB)), (3, .int (iv (S.1 11 13))), (0, .ref (G.2.2.1 + 11)), (1, .int (iv dd)), (2, .int (iv s0))]) hx hb dX9_named_215 hl (k := 4) rfl ((Int32.ofInt_add _ _).symm.trans (congrArg iv (by omega))) (by decide) rfl (fun ls hl => ?_)
                  refine lv_goto (tgt := 76) hx hb dX9_named_218 (by decide) ?_
                  refine lv_iload hx hb dX9_named_76 (lv_at hl 0 rfl) ?_
                  refine lv_iconst (v := iv 4) hx hb dX9_named_78 (by decide) ?_
                  refine r_icmp_gt (tgt := 221) hx hb ⟨(by omega), (by omega)⟩ ⟨(by omega), (by omega)⟩ dX9_named_79 (by decide) (fun _ => ?_) (fun c => absurd (by omega) c)
                  refine lv_aload_n hx hb dX9_named_221 rfl (lv_at hl 8 rfl) ?_
                  refine lv_iload_n hx hb dX9_named_222 rfl (lv_at hl 10 rfl) ?_
                  refine lv_iconst (v := iv 3) hx hb dX9_named_223 (by decide) ?_
                  refine sBi (sV (As := [.int (iv s0), .int (iv 3)]) (rest := []) (k := 11) Cx (s_X9_fact l G (uF u_185 11 13 ((u_185.1 11 13) + 1)) (s0 := s0) (q := 3) i_207 (by omega) (by omega)) (c_X9_120 Cx rfl rfl (rmk_ok (by omega) (by decide))) hW (by decide) rfl rfl rfl hl.1 rfl (Nat.le_of_ble_eq_true rfl) dX9_named_224 ⟨Nat.le_of_ble_eq_true rfl, Nat.le_of_ble_eq_true rfl⟩) hL (fun r_210 u_208 H locs k_209 hW hL => ?_)
                  obtain ⟨eu_208, xu_208⟩ := k_209
                  rw [eu_208] at hW
                  have yu_208 := xu_208.2
                  unfold fr8 at yu_208
                  have lk_212 : (uF u_185 11 13 ((u_185.1 11 13) + 1)).1 11 9 = u_185.1 11 9 := uF_ne (fun h => absurd h.2 (by decide))
                  have nr_211 : NRc N (uF u_185 11 13 ((u_185.1 11 13) + 1)) := hN.of (by omega) (fun j => (F_205 16 rfl).2.2.1 j) (fun j => (F_205 17 rfl).2.1 j) (fun j => (F_205 18 rfl).2.1 j)
                  have e3 : r_210 = N.2.2.1 s0 3 := (xu_208.1.trans ((nr_211.2.2 s0 (by omega) (by omega)).2.2.2.1 h7).1.symm)
                  refine r_if_ge (tgt := 234) hx hb ⟨(by omega), (by omega)⟩ dX9_named_227 (by decide) (fun c_213 => ?_) (fun c_213 => ?_)
                  · refine lv_aload_n hx hb dX9_named_234 rfl (lv_at hl 8 rfl) ?_
                    refine lv_iload_n hx hb dX9_named_235 rfl (lv_at hl 10 rfl) ?_
                    refine lv_iconst (v := iv 4) hx hb dX9_named_236 (by decide) ?_
                    refine sBi (sV (As := [.int (iv s0), .int (iv 4)]) (rest := []) (k := 11) Cx (s_X9_fact l G (uF u_185 11 13 ((u_185.1 11 13) + 1)) (s0 := s0) (q := 4) i_207 (by omega) (by omega)) (c_X9_120 Cx rfl rfl (rmk_ok (by omega) (by decide))) hW (by decide) rfl rfl rfl hl.1 rfl (Nat.le_of_ble_eq_true rfl) dX9_named_237 ⟨Nat.le_of_ble_eq_true rfl, Nat.le_of_ble_eq_true rfl⟩) hL (fun r_216 u_214 H locs k_215 hW hL => ?_)
                    obtain ⟨eu_214, xu_214⟩ := k_215
                    rw [eu_214] at hW
                    have yu_214 := xu_214.2
                    unfold fr8 at yu_214
                    have e4 : r_216 = N.2.2.1 s0 4 := (xu_214.1.trans ((nr_211.2.2 s0 (by omega) (by omega)).2.2.2.1 h7).2.symm)
                    refine r_if_ge (tgt := 247) hx hb ⟨(by omega), (by omega)⟩ dX9_named_240 (by decide) (fun c_217 => ?_) (fun c_217 => ?_)
                    · refine lv_iconst (v := iv 2) hx hb dX9_named_247 (by decide) ?_
                      refine lv_istore (lv' := [(8, .int (iv 2)), (7, .int (iv 0)), (10, .int (iv r_195)), (4, .int (iv 2)), (9, .int (iv r_187)), (6, .int (iv irB)), (5, .int (iv ofB)), (3, .int (iv (S.1 11 13))), (0, .ref (G.2.2.1 + 11)), (1, .int (iv dd)), (2, .int (iv s0))]) hx hb dX9_named_248 hl (by decide) rfl (fun ls hl => ?_)
                      refine lv_iload hx hb dX9_named_250 (lv_at hl 3 rfl) ?_
                      refine lv_iload hx hb dX9_named_252 (lv_at hl 0 rfl) ?_
                      refine r_icmp_eq (tgt := 264) hx hb ⟨(by omega), (by omega)⟩ ⟨(by omega), (by omega)⟩ dX9_named_254 (by decide) (fun _ => ?_) (fun c => absurd (by omega) c)
                      refine lv_iload hx hb dX9_named_264 (lv_at hl 5 rfl) ?_
                      refine r_if_ne (tgt := 276) hx hb ⟨(by omega), (by omega)⟩ dX9_named_266 (by decide) (fun c_218 => ?_) (fun c_218 => ?_)
                      · refine lv_aload_n hx hb dX9_named_276 rfl (lv_at hl 8 rfl) ?_
                        refine lv_aload_n hx hb dX9_named_277 rfl (lv_at hl 8 rfl) ?_
                        refine g_X9_37 Cx hW (k := 11) (by decide) rfl (v := .ref (G.2.2.1 + 83)) (rf_11_6 i_207) dX9_named_278 ?_
                        refine lv_iload_n hx hb dX9_named_281 rfl (lv_at hl 9 rfl) ?_
                        refine rAald Cx hW (k := 83) (by decide) rfl (by decide) (by omega) (by omega) (r2_83f i_207 hqF (by omega) (by omega)) dX9_named_282 ?_
                        refine lv_iload_n hx hb dX9_named_283 rfl (lv_at hl 10 rfl) ?_
                        refine lv_aload_n hx hb dX9_named_284 rfl (lv_at hl 8 rfl) ?_
                        refine lv_iload_n hx hb dX9_named_285 rfl (lv_at hl 10 rfl) ?_
                        refine lv_iconst (v := iv 5) hx hb dX9_named_286 (by decide) ?_
                        refine sBi (sV (As := [.int (iv s0), .int (iv 5)]) (rest := [.int (iv s0), .ref (G.2.2.1 + qF), .ref (G.2.2.1 + 11)]) (k := 11) Cx (s_X9_fact l G (uF u_185 11 13 ((u_185.1 11 13) + 1)) (s0 := s0) (q := 5) i_207 (by omega) (by omega)) (c_X9_120 Cx rfl rfl (rmk_ok (by omega) (by decide))) hW (by decide) rfl rfl rfl hl.1 rfl (Nat.le_of_ble_eq_true rfl) dX9_named_287 ⟨Nat.le_of_ble_eq_true rfl, Nat.le_of_ble_eq_true rfl⟩) hL (fun r_221 u_219 H locs k_220 hW hL => ?_)
                        obtain ⟨eu_219, xu_219⟩ := k_220
                        rw [eu_219] at hW
                        have yu_219 := xu_219.2
                        unfold fr8 at yu_219
                        refine lv_iload hx hb dX9_named_290 (lv_at hl 6 rfl) ?_
                        refine r_iadd hx hb dX9_named_292 ?_
                        have hoB : ofB = (r_85 - N.2.2.1 (N.2.2.1 s0 3) 1) * siz N (N.2.2.1 s0 4) + (r_187 - N.2.2.1 (N.2.2.1 s0 4) 1) := (by have q1 := (hj1.2 (by omega)).1; rw [Int.zero_mul] at q1; have q2 := (hj2.2 (by omega)).1; rw [q1, show (0 : Int) + r_85 - N.2.2.1 (N.2.2.1 s0 3) 1 = r_85 - N.2.2.1 (N.2.2.1 s0 3) 1 by omega] at q2; omega)
                        have hoF := (ho_2 (by omega) (by omega) ((hj1.2 (by omega)).2.2.1 ((hj2.2 (by omega)).2.2.1 (by omega)).1).2 ((hj2.2 (by omega)).2.2.1 (by omega)).2 hoB)
                        have hv5 := nr_211.v5 hK (by omega) (by omega) h7 hoF
                        have hf0 := (nr_211.2.2 s0 (by omega) (by omega)).1
                        have kv_222 : KV (uF u_185 11 13 ((u_185.1 11 13) + 1)) k v T := hkv.fr F_204 (pl_c (by decide) (pl_c (tau_ne (rfl : tau 12 = .inl 8) lqF.1 (fun h => by cases h)) rfl)) (pl_c (by decide) (pl_c (tau_ne (rfl : tau 13 = .inr (.int, 2001)) lqF.1 (fun h => by cases h)) rfl)) (pl_c (by decide) (pl_c (tau_ne (rfl : tau 15 = .inr (.long, 2001)) lqF.1 (by decide)) rfl))
                        refine sBv (sV (As := [.ref (G.2.2.1 + qF), .int (iv s0), .int (iv (r_221 + ofB))]) (rest := []) (k := 11) Cx (e_X9_putNamed l G (uF u_185 11 13 ((u_185.1 11 13) + 1)) (qa := qF) (s0 := s0) (v := r_221 + ofB) (N := N) (o := ofB) i_207 lqF nr_211 hK (by rw [kv_222.1, kv_222.2.1]; exact hTV) (by omega) (by omega) (by omega) hoF (by omega) (fun j a b => ((F_206 qF (p1_no (tau_ne lqF.1 (rfl : tau 11 = .inl 9) (fun h => by cases h)))).2.2.1 j).trans (hz j a b)) (by omega)) (c_X9_245 Cx rfl rfl (rmk_ok (by omega) (by decide))) hW (by decide) rfl rfl rfl hl.1 rfl (Nat.le_of_ble_eq_true rfl) dX9_named_293 ⟨Nat.le_of_ble_eq_true rfl, Nat.le_of_ble_eq_true rfl⟩) hL (fun u_223 H locs k_224 hW hL => ?_)
                        obtain ⟨iu_223, fu_223, xu_223⟩ := k_224
                        have F_225 := F_204.trans (fu_223.to (p1_sub (pl_t pl_h)))
                        have F_226 := F_205.trans (fu_223.to (p1_sub (lr_R lqF)))
                        refine lv_iconst (v := iv 1) hx hb dX9_named_296 (by decide) ?_
                        have q_227 : (-2147483648) ≤ u_185.1 11 12 ∧ u_185.1 11 12 ≤ 2147483647 := iu_185.fi 11 12 9 (by decide) rfl
                        have lk_228 : u_223.1 11 12 = u_185.1 11 12 := ((fu_223 11 (p1_no (tau_ne (rfl : tau 11 = .inl 9) lqF.1 (fun h => by cases h)))).1 12).trans (uF_ne (fun h => absurd h.2 (by decide)))
                        have lk_229 : u_223.1 11 13 = (u_185.1 11 13) + 1 := ((fu_223 11 (p1_no (tau_ne (rfl : tau 11 = .inl 9) lqF.1 (fun h => by cases h)))).1 13).trans (uF_on)
                        have lk_230 : u_223.1 11 14 = u_185.1 11 14 := ((fu_223 11 (p1_no (tau_ne (rfl : tau 11 = .inl 9) lqF.1 (fun h => by cases h)))).1 14).trans (uF_ne (fun h => absurd h.2 (by decide)))
                        have lk_231 : u_223.1 11 9 = u_185.1 11 9 := ((fu_223 11 (p1_no (tau_ne (rfl : tau 11 = .inl 9) lqF.1 (fun h => by cases h)))).1 9).trans (uF_ne (fun h => absurd h.2 (by decide)))
                        have nr_232 : NRc N u_223 := hN.of (by omega) (fun j => (F_226 16 rfl).2.2.1 j) (fun j => (F_226 17 rfl).2.1 j) (fun j => (F_226 18 rfl).2.1 j)
                        exact sZret Cx hr hlk hW hL (by omega) ⟨iu_223, F_225, (by have qe := gy2.2; exact ⟨(by omega), (fun _ => ⟨(eV N s0 ofB), (by rw [show u_223.1 11 12 = S.1 11 12 by omega]; rw [eN_5 hs0 hs.1 h7 (by omega) ia1 (by omega) ia2, if_pos ⟨by omega, by omega, ((hj1.2 (by omega)).2.2.1 ((hj2.2 (by omega)).2.2.1 (by omega)).1).2, ((hj2.2 (by omega)).2.2.1 (by omega)).2⟩]; rw [qe, hoB]), xu_223, (vb9_eV hK (by omega) (by omega) h7 hoF.1 hoF.2), ⟨by omega, by omega⟩, (by omega), (by omega), nr_232⟩), (fun h => absurd h (by decide))⟩)⟩ dX9_named_297
                      · refine lv_aload_n hx hb dX9_named_269 rfl (lv_at hl 8 rfl) ?_
                        refine lv_iconst (v := iv 5) hx hb dX9_named_270 (by decide) ?_
                        refine lv_iload_n hx hb dX9_named_271 rfl (lv_at hl 7 rfl) ?_
                        have lk_233 : (uF u_185 11 13 ((u_185.1 11 13) + 1)).1 11 13 = (u_185.1 11 13) + 1 := uF_on
                        have q_234 : 0 ≤ u_185.1 11 10 ∧ u_185.1 11 10 ≤ 8 := iu_185.fi 11 10 9 (by decide) rfl
                        have lk_235 : (uF u_185 11 13 ((u_185.1 11 13) + 1)).1 11 10 = u_185.1 11 10 := uF_ne (fun h => absurd h.2 (by decide))
                        have q_236 : 0 ≤ u_185.1 11 11 ∧ u_185.1 11 11 ≤ 12 := iu_185.fi 11 11 9 (by decide) rfl
                        have lk_237 : (uF u_185 11 13 ((u_185.1 11 13) + 1)).1 11 11 = u_185.1 11 11 := uF_ne (fun h => absurd h.2 (by decide))
                        have q_238 : (-2147483648) ≤ u_185.1 11 12 ∧ u_185.1 11 12 ≤ 2147483647 := iu_185.fi 11 12 9 (by decide) rfl
                        have lk_239 : (uF u_185 11 13 ((u_185.1 11 13) + 1)).1 11 12 = u_185.1 11 12 := uF_ne (fun h => absurd h.2 (by decide))
                        refine sBi (sV (As := [.int (iv 5), .int (iv (S.1 11 13))]) (rest := []) (k := 11) Cx (e_X9_fail l G (uF u_185 11 13 ((u_185.1 11 13) + 1)) (k := 5) (tk := S.1 11 13) i_207 (by omega) (by omega)) (c_X9_132 Cx rfl rfl (rmk_ok (by omega) (by decide))) hW (by decide) rfl rfl rfl hl.1 rfl (Nat.le_of_ble_eq_true rfl) dX9_named_272 ⟨Nat.le_of_ble_eq_true rfl, Nat.le_of_ble_eq_true rfl⟩) hL (fun r_242 u_240 H locs k_241 hW hL => ?_)
                        obtain ⟨iu_240, fu_240, xu_240⟩ := k_241
                        have F_243 := F_204.trans (fu_240.to (p1_sub pl_h))
                        have F_244 := F_205.trans (fu_240.to (p1_sub rfl))
                        have F_245 := F_206.trans fu_240
                        have q_246 : (-2147483648) ≤ u_240.1 11 12 ∧ u_240.1 11 12 ≤ 2147483647 := iu_240.fi 11 12 9 (by decide) rfl
                        have q_247 : (-2147483648) ≤ u_240.1 11 13 ∧ u_240.1 11 13 ≤ 2147483647 := iu_240.fi 11 13 9 (by decide) rfl
                        have q_248 : 0 ≤ u_240.1 11 14 ∧ u_240.1 11 14 ≤ 7 := iu_240.fi 11 14 9 (by decide) rfl
                        have q_249 : 0 ≤ u_240.1 11 9 ∧ u_240.1 11 9 ≤ 128 := iu_240.fi 11 9 9 (by decide) rfl
                        exact sZret Cx hr hlk hW hL (by omega) ⟨iu_240, F_243, ⟨(by omega), (fun h => absurd h (by omega)), (fun _ => (by rw [eN_5 hs0 hs.1 h7 (by omega) ia1 (by omega) ia2]; exact if_neg (fun z => by first | (have z1 := z.1; have z2 := z.2.1; omega) | (have i1 := (hj1.2 z.1).2.2; exact ((hj2.2 z.2.1).2.2.2 (by omega)) ⟨(by have b := (hj1.2 z.1).2.1; by_cases y : irA = 1; (exact y); (exact absurd ⟨rfl, z.2.2.1⟩ (i1.2 (by omega)))), z.2.2.2⟩))))⟩⟩ dX9_named_275
                    · refine lv_iconst (v := iv 1) hx hb dX9_named_243 (by decide) ?_
                      refine lv_goto (tgt := 248) hx hb dX9_named_244 (by decide) ?_
                      refine lv_istore (lv' := [(8, .int (iv 1)), (7, .int (iv 0)), (10, .int (iv r_195)), (4, .int (iv 2)), (9, .int (iv r_187)), (6, .int (iv irB)), (5, .int (iv ofB)), (3, .int (iv (S.1 11 13))), (0, .ref (G.2.2.1 + 11)), (1, .int (iv dd)), (2, .int (iv s0))]) hx hb dX9_named_248 hl (by decide) rfl (fun ls hl => ?_)
                      refine lv_iload hx hb dX9_named_250 (lv_at hl 3 rfl) ?_
                      refine lv_iload hx hb dX9_named_252 (lv_at hl 0 rfl) ?_
                      refine r_icmp_eq (tgt := 264) hx hb ⟨(by omega), (by omega)⟩ ⟨(by omega), (by omega)⟩ dX9_named_254 (by decide) (fun c => absurd c (by omega)) (fun _ => ?_)
                      refine lv_aload_n hx hb dX9_named_257 rfl (lv_at hl 8 rfl) ?_
                      refine lv_iconst (v := iv 2) hx hb dX9_named_258 (by decide) ?_
                      refine lv_iload_n hx hb dX9_named_259 rfl (lv_at hl 7 rfl) ?_
                      have lk_250 : (uF u_185 11 13 ((u_185.1 11 13) + 1)).1 11 13 = (u_185.1 11 13) + 1 := uF_on
                      have q_251 : 0 ≤ u_185.1 11 10 ∧ u_185.1 11 10 ≤ 8 := iu_185.fi 11 10 9 (by decide) rfl
                      have lk_252 : (uF u_185 11 13 ((u_185.1 11 13) + 1)).1 11 10 = u_185.1 11 10 := uF_ne (fun h => absurd h.2 (by decide))
                      have q_253 : 0 ≤ u_185.1 11 11 ∧ u_185.1 11 11 ≤ 12 := iu_185.fi 11 11 9 (by decide) rfl
                      have lk_254 : (uF u_185 11 13 ((u_185.1 11 13) + 1)).1 11 11 = u_185.1 11 11 := uF_ne (fun h => absurd h.2 (by decide))
                      have q_255 : (-2147483648) ≤ u_185.1 11 12 ∧ u_185.1 11 12 ≤ 2147483647 := iu_185.fi 11 12 9 (by decide) rfl
                      have lk_256 : (uF u_185 11 13 ((u_185.1 11 13) + 1)).1 11 12 = u_185.1 11 12 := uF_ne (fun h => absurd h.2 (by decide))
                      refine sBi (sV (As := [.int (iv 2), .int (iv (S.1 11 13))]) (rest := []) (k := 11) Cx (e_X9_fail l G (uF u_185 11 13 ((u_185.1 11 13) + 1)) (k := 2) (tk := S.1 11 13) i_207 (by omega) (by omega)) (c_X9_132 Cx rfl rfl (rmk_ok (by omega) (by decide))) hW (by decide) rfl rfl rfl hl.1 rfl (Nat.le_of_ble_eq_true rfl) dX9_named_260 ⟨Nat.le_of_ble_eq_true rfl, Nat.le_of_ble_eq_true rfl⟩) hL (fun r_259 u_257 H locs k_258 hW hL => ?_)
                      obtain ⟨iu_257, fu_257, xu_257⟩ := k_258
                      have F_260 := F_204.trans (fu_257.to (p1_sub pl_h))
                      have F_261 := F_205.trans (fu_257.to (p1_sub rfl))
                      have F_262 := F_206.trans fu_257
                      have q_263 : (-2147483648) ≤ u_257.1 11 12 ∧ u_257.1 11 12 ≤ 2147483647 := iu_257.fi 11 12 9 (by decide) rfl
                      have q_264 : (-2147483648) ≤ u_257.1 11 13 ∧ u_257.1 11 13 ≤ 2147483647 := iu_257.fi 11 13 9 (by decide) rfl
                      have q_265 : 0 ≤ u_257.1 11 14 ∧ u_257.1 11 14 ≤ 7 := iu_257.fi 11 14 9 (by decide) rfl
                      have q_266 : 0 ≤ u_257.1 11 9 ∧ u_257.1 11 9 ≤ 128 := iu_257.fi 11 9 9 (by decide) rfl
                      exact sZret Cx hr hlk hW hL (by omega) ⟨iu_257, F_260, ⟨(by omega), (fun h => absurd h (by omega)), (fun _ => (by rw [eN_5 hs0 hs.1 h7 (by omega) ia1 (by omega) ia2]; exact if_neg (fun z => by first | (have z1 := z.1; have z2 := z.2.1; omega) | (have i1 := (hj1.2 z.1).2.2; exact ((hj2.2 z.2.1).2.2.2 (by omega)) ⟨(by have b := (hj1.2 z.1).2.1; by_cases y : irA = 1; (exact y); (exact absurd ⟨rfl, z.2.2.1⟩ (i1.2 (by omega)))), z.2.2.2⟩))))⟩⟩ dX9_named_263
                  · refine lv_iconst (v := iv 0) hx hb dX9_named_230 (by decide) ?_
                    refine lv_goto (tgt := 248) hx hb dX9_named_231 (by decide) ?_
                    refine lv_istore (lv' := [(8, .int (iv 0)), (7, .int (iv 0)), (10, .int (iv r_195)), (4, .int (iv 2)), (9, .int (iv r_187)), (6, .int (iv irB)), (5, .int (iv ofB)), (3, .int (iv (S.1 11 13))), (0, .ref (G.2.2.1 + 11)), (1, .int (iv dd)), (2, .int (iv s0))]) hx hb dX9_named_248 hl (by decide) rfl (fun ls hl => ?_)
                    refine lv_iload hx hb dX9_named_250 (lv_at hl 3 rfl) ?_
                    refine lv_iload hx hb dX9_named_252 (lv_at hl 0 rfl) ?_
                    refine r_icmp_eq (tgt := 264) hx hb ⟨(by omega), (by omega)⟩ ⟨(by omega), (by omega)⟩ dX9_named_254 (by decide) (fun c => absurd c (by omega)) (fun _ => ?_)
                    refine lv_aload_n hx hb dX9_named_257 rfl (lv_at hl 8 rfl) ?_
                    refine lv_iconst (v := iv 2) hx hb dX9_named_258 (by decide) ?_
                    refine lv_iload_n hx hb dX9_named_259 rfl (lv_at hl 7 rfl) ?_
                    have lk_267 : (uF u_185 11 13 ((u_185.1 11 13) + 1)).1 11 13 = (u_185.1 11 13) + 1 := uF_on
                    have q_268 : 0 ≤ u_185.1 11 10 ∧ u_185.1 11 10 ≤ 8 := iu_185.fi 11 10 9 (by decide) rfl
                    have lk_269 : (uF u_185 11 13 ((u_185.1 11 13) + 1)).1 11 10 = u_185.1 11 10 := uF_ne (fun h => absurd h.2 (by decide))
                    have q_270 : 0 ≤ u_185.1 11 11 ∧ u_185.1 11 11 ≤ 12 := iu_185.fi 11 11 9 (by decide) rfl
                    have lk_271 : (uF u_185 11 13 ((u_185.1 11 13) + 1)).1 11 11 = u_185.1 11 11 := uF_ne (fun h => absurd h.2 (by decide))
                    have q_272 : (-2147483648) ≤ u_185.1 11 12 ∧ u_185.1 11 12 ≤ 2147483647 := iu_185.fi 11 12 9 (by decide) rfl
                    have lk_273 : (uF u_185 11 13 ((u_185.1 11 13) + 1)).1 11 12 = u_185.1 11 12 := uF_ne (fun h => absurd h.2 (by decide))
                    refine sBi (sV (As := [.int (iv 2), .int (iv (S.1 11 13))]) (rest := []) (k := 11) Cx (e_X9_fail l G (uF u_185 11 13 ((u_185.1 11 13) + 1)) (k := 2) (tk := S.1 11 13) i_207 (by omega) (by omega)) (c_X9_132 Cx rfl rfl (rmk_ok (by omega) (by decide))) hW (by decide) rfl rfl rfl hl.1 rfl (Nat.le_of_ble_eq_true rfl) dX9_named_260 ⟨Nat.le_of_ble_eq_true rfl, Nat.le_of_ble_eq_true rfl⟩) hL (fun r_276 u_274 H locs k_275 hW hL => ?_)
                    obtain ⟨iu_274, fu_274, xu_274⟩ := k_275
                    have F_277 := F_204.trans (fu_274.to (p1_sub pl_h))
                    have F_278 := F_205.trans (fu_274.to (p1_sub rfl))
                    have F_279 := F_206.trans fu_274
                    have q_280 : (-2147483648) ≤ u_274.1 11 12 ∧ u_274.1 11 12 ≤ 2147483647 := iu_274.fi 11 12 9 (by decide) rfl
                    have q_281 : (-2147483648) ≤ u_274.1 11 13 ∧ u_274.1 11 13 ≤ 2147483647 := iu_274.fi 11 13 9 (by decide) rfl
                    have q_282 : 0 ≤ u_274.1 11 14 ∧ u_274.1 11 14 ≤ 7 := iu_274.fi 11 14 9 (by decide) rfl
                    have q_283 : 0 ≤ u_274.1 11 9 ∧ u_274.1 11 9 ≤ 128 := iu_274.fi 11 9 9 (by decide) rfl
                    exact sZret Cx hr hlk hW hL (by omega) ⟨iu_274, F_277, ⟨(by omega), (fun h => absurd h (by omega)), (fun _ => (by rw [eN_5 hs0 hs.1 h7 (by omega) ia1 (by omega) ia2]; exact if_neg (fun z => by first | (have z1 := z.1; have z2 := z.2.1; omega) | (have i1 := (hj1.2 z.1).2.2; exact ((hj2.2 z.2.1).2.2.2 (by omega)) ⟨(by have b := (hj1.2 z.1).2.1; by_cases y : irA = 1; (exact y); (exact absurd ⟨rfl, z.2.2.1⟩ (i1.2 (by omega)))), z.2.2.2⟩))))⟩⟩ dX9_named_263
                · exfalso; have q1 := gy2.1; omega
              refine lv_iload hx hb dX9_named_114 (lv_at hl 0 rfl) ?_
              refine r_if_lt (tgt := 177) hx hb ⟨(by omega), (by omega)⟩ dX9_named_116 (by decide) (fun c_284 => ?_) (fun c_284 => ?_)
              · exact join_177 irA ofA _ _ _ (by omega) (by omega) ⟨fun z => ⟨by omega, by omega⟩, fun z => absurd z (by omega)⟩ hW hL (lv_sub hl [0, 1, 2, 3, 4, 5, 6, 7, 8, 9, 10] rfl)
              · refine lv_iload hx hb dX9_named_119 (lv_at hl 5 rfl) ?_
                refine r_if_eq (tgt := 152) hx hb ⟨(by omega), (by omega)⟩ dX9_named_121 (by decide) (fun c_285 => ?_) (fun c_285 => ?_)
                · refine lv_iconst (v := iv 0) hx hb dX9_named_152 (by decide) ?_
                  refine lv_istore (lv' := [(6, .int (iv 0)), (10, .int (iv r_195)), (4, .int (iv 2)), (9, .int (iv r_187)), (8, .int (iv 4)), (7, .int (iv 1)), (5, .int (iv ofA)), (3, .int (iv (S.1 11 13))), (0, .ref (G.2.2.1 + 11)), (1, .int (iv dd)), (2, .int (iv s0))]) hx hb dX9_named_153 hl (by decide) rfl (fun ls hl => ?_)
                  refine lv_iload hx hb dX9_named_155 (lv_at hl 6 rfl) ?_
                  refine lv_aload_n hx hb dX9_named_157 rfl (lv_at hl 8 rfl) ?_
                  refine lv_iload hx hb dX9_named_158 (lv_at hl 1 rfl) ?_
                  refine sBi (sV (As := [.int (iv r_195)]) (rest := [.int (iv ofA)]) (k := 11) Cx (s_X9_setSize l G u_185 (s0 := r_195) iu_185 (by omega)) (c_X9_149 Cx rfl rfl (rmk_ok (by omega) (by decide))) hW (by decide) rfl rfl rfl hl.1 rfl (Nat.le_of_ble_eq_true rfl) dX9_named_160 ⟨Nat.le_of_ble_eq_true rfl, Nat.le_of_ble_eq_true rfl⟩) hL (fun r_288 u_286 H locs k_287 hW hL => ?_)
                  obtain ⟨eu_286, xu_286⟩ := k_287
                  rw [eu_286] at hW
                  have sz2 : r_288 = siz N (N.2.2.1 s0 4) := (by have q1 := (hK.2 s0 (by omega) (by omega)).2.2.1 h7 4 (by omega); have q2 := (nr_196.2.2 (N.2.2.1 s0 4) (by omega) (by omega)).2.1 (by rcases q1 with z | z; (exfalso; omega); exact z.2.2); have q3 := xu_286.2.1 (by omega); rw [q3, fs2, ← q2.1, ← q2.2]; exact (if_neg (by omega)).symm)
                  have sb2 : 1 ≤ r_288 ∧ r_288 ≤ 12 := (by have q1 := (hK.2 s0 (by omega) (by omega)).2.2.1 h7 4 (by omega); rcases q1 with z | z; (exfalso; omega); (have q4 := (hK.2 _ z.1 z.2.1).2.1 z.2.2; rw [sz2]; unfold siz; rw [if_neg (by omega)]; omega))
                  have mb : -4000000 ≤ ofA * r_288 ∧ ofA * r_288 ≤ 4000000 := (mulc (by omega) (by omega))
                  refine r_imul hx hb dX9_named_163 ?_
                  refine lv_iload hx hb dX9_named_164 (lv_at hl 3 rfl) ?_
                  refine r_iadd hx hb dX9_named_166 ?_
                  refine lv_aload_n hx hb dX9_named_167 rfl (lv_at hl 8 rfl) ?_
                  refine lv_iload hx hb dX9_named_168 (lv_at hl 1 rfl) ?_
                  refine lv_iconst (v := iv 1) hx hb dX9_named_170 (by decide) ?_
                  refine sBi (sV (As := [.int (iv r_195), .int (iv 1)]) (rest := [.int (iv ((ofA * r_288) + r_187))]) (k := 11) Cx (s_X9_fact l G u_185 (s0 := r_195) (q := 1) iu_185 (by omega) (by omega)) (c_X9_120 Cx rfl rfl (rmk_ok (by omega) (by decide))) hW (by decide) rfl rfl rfl hl.1 rfl (Nat.le_of_ble_eq_true rfl) dX9_named_171 ⟨Nat.le_of_ble_eq_true rfl, Nat.le_of_ble_eq_true rfl⟩) hL (fun r_291 u_289 H locs k_290 hW hL => ?_)
                  obtain ⟨eu_289, xu_289⟩ := k_290
                  rw [eu_289] at hW
                  have yu_289 := xu_289.2
                  unfold fr8 at yu_289
                  have lp2 : r_291 = N.2.2.1 (N.2.2.1 s0 4) 1 := (by have q1 := (hK.2 s0 (by omega) (by omega)).2.2.1 h7 4 (by omega); have q2 := (nr_196.2.2 (N.2.2.1 s0 4) (by omega) (by omega)).2.1 (by rcases q1 with z | z; (exfalso; omega); exact z.2.2); rw [q2.1, ← fs2]; exact xu_289.1)
                  refine r_isub hx hb dX9_named_174 ?_
                  refine lv_istore (lv' := [(5, .int (iv (((ofA * r_288) + r_187) - r_291))), (6, .int (iv 0)), (10, .int (iv r_195)), (4, .int (iv 2)), (9, .int (iv r_187)), (8, .int (iv 4)), (7, .int (iv 1)), (3, .int (iv (S.1 11 13))), (0, .ref (G.2.2.1 + 11)), (1, .int (iv dd)), (2, .int (iv s0))]) hx hb dX9_named_175 hl (by decide) rfl (fun ls hl => ?_)
                  exact join_177 0 (((ofA * r_288) + r_187) - r_291) _ _ _ (by omega) (by omega) ⟨fun z => absurd z (by omega), fun z => ⟨(by first | (rw [← sz2, ← lp2]; done) | (rw [← sz2, ← lp2]; omega)), (by omega), (fun h => by first | (exfalso; omega) | exact ⟨by omega, by constructor <;> omega⟩), (fun h y => by have y1 := y.1; have y2 := y.2.1; have y3 := y.2.2; omega)⟩⟩ hW hL (lv_sub hl [2, 3, 4, 5, 6, 1, 0, 7, 8, 9, 10] rfl)
                · refine lv_iload hx hb dX9_named_124 (lv_at hl 2 rfl) ?_
                  refine lv_aload_n hx hb dX9_named_126 rfl (lv_at hl 8 rfl) ?_
                  refine lv_iload hx hb dX9_named_127 (lv_at hl 0 rfl) ?_
                  refine lv_iconst (v := iv 1) hx hb dX9_named_129 (by decide) ?_
                  refine sBi (sV (As := [.int (iv r_195), .int (iv 1)]) (rest := [.int (iv r_187)]) (k := 11) Cx (s_X9_fact l G u_185 (s0 := r_195) (q := 1) iu_185 (by omega) (by omega)) (c_X9_120 Cx rfl rfl (rmk_ok (by omega) (by decide))) hW (by decide) rfl rfl rfl hl.1 rfl (Nat.le_of_ble_eq_true rfl) dX9_named_130 ⟨Nat.le_of_ble_eq_true rfl, Nat.le_of_ble_eq_true rfl⟩) hL (fun r_294 u_292 H locs k_293 hW hL => ?_)
                  obtain ⟨eu_292, xu_292⟩ := k_293
                  rw [eu_292] at hW
                  have yu_292 := xu_292.2
                  unfold fr8 at yu_292
                  have lo2 : r_294 = N.2.2.1 (N.2.2.1 s0 4) 1 := (by have q1 := (hK.2 s0 (by omega) (by omega)).2.2.1 h7 4 (by omega); have q2 := (nr_196.2.2 (N.2.2.1 s0 4) (by omega) (by omega)).2.1 (by rcases q1 with z | z; (exfalso; omega); exact z.2.2); rw [q2.1, ← fs2]; exact xu_292.1)
                  refine r_icmp_lt (tgt := 152) hx hb ⟨(by omega), (by omega)⟩ ⟨(by omega), (by omega)⟩ dX9_named_133 (by decide) (fun c_295 => ?_) (fun c_295 => ?_)
                  · refine lv_iconst (v := iv 0) hx hb dX9_named_152 (by decide) ?_
                    refine lv_istore (lv' := [(6, .int (iv 0)), (10, .int (iv r_195)), (4, .int (iv 2)), (9, .int (iv r_187)), (8, .int (iv 4)), (7, .int (iv 1)), (5, .int (iv ofA)), (3, .int (iv (S.1 11 13))), (0, .ref (G.2.2.1 + 11)), (1, .int (iv dd)), (2, .int (iv s0))]) hx hb dX9_named_153 hl (by decide) rfl (fun ls hl => ?_)
                    refine lv_iload hx hb dX9_named_155 (lv_at hl 6 rfl) ?_
                    refine lv_aload_n hx hb dX9_named_157 rfl (lv_at hl 8 rfl) ?_
                    refine lv_iload hx hb dX9_named_158 (lv_at hl 1 rfl) ?_
                    refine sBi (sV (As := [.int (iv r_195)]) (rest := [.int (iv ofA)]) (k := 11) Cx (s_X9_setSize l G u_185 (s0 := r_195) iu_185 (by omega)) (c_X9_149 Cx rfl rfl (rmk_ok (by omega) (by decide))) hW (by decide) rfl rfl rfl hl.1 rfl (Nat.le_of_ble_eq_true rfl) dX9_named_160 ⟨Nat.le_of_ble_eq_true rfl, Nat.le_of_ble_eq_true rfl⟩) hL (fun r_298 u_296 H locs k_297 hW hL => ?_)
                    obtain ⟨eu_296, xu_296⟩ := k_297
                    rw [eu_296] at hW
                    have sz2 : r_298 = siz N (N.2.2.1 s0 4) := (by have q1 := (hK.2 s0 (by omega) (by omega)).2.2.1 h7 4 (by omega); have q2 := (nr_196.2.2 (N.2.2.1 s0 4) (by omega) (by omega)).2.1 (by rcases q1 with z | z; (exfalso; omega); exact z.2.2); have q3 := xu_296.2.1 (by omega); rw [q3, fs2, ← q2.1, ← q2.2]; exact (if_neg (by omega)).symm)
                    have sb2 : 1 ≤ r_298 ∧ r_298 ≤ 12 := (by have q1 := (hK.2 s0 (by omega) (by omega)).2.2.1 h7 4 (by omega); rcases q1 with z | z; (exfalso; omega); (have q4 := (hK.2 _ z.1 z.2.1).2.1 z.2.2; rw [sz2]; unfold siz; rw [if_neg (by omega)]; omega))
                    have mb : -4000000 ≤ ofA * r_298 ∧ ofA * r_298 ≤ 4000000 := (mulc (by omega) (by omega))
                    refine r_imul hx hb dX9_named_163 ?_
                    refine lv_iload hx hb dX9_named_164 (lv_at hl 3 rfl) ?_
                    refine r_iadd hx hb dX9_named_166 ?_
                    refine lv_aload_n hx hb dX9_named_167 rfl (lv_at hl 8 rfl) ?_
                    refine lv_iload hx hb dX9_named_168 (lv_at hl 1 rfl) ?_
                    refine lv_iconst (v := iv 1) hx hb dX9_named_170 (by decide) ?_
                    refine sBi (sV (As := [.int (iv r_195), .int (iv 1)]) (rest := [.int (iv ((ofA * r_298) + r_187))]) (k := 11) Cx (s_X9_fact l G u_185 (s0 := r_195) (q := 1) iu_185 (by omega) (by omega)) (c_X9_120 Cx rfl rfl (rmk_ok (by omega) (by decide))) hW (by decide) rfl rfl rfl hl.1 rfl (Nat.le_of_ble_eq_true rfl) dX9_named_171 ⟨Nat.le_of_ble_eq_true rfl, Nat.le_of_ble_eq_true rfl⟩) hL (fun r_301 u_299 H locs k_300 hW hL => ?_)
                    obtain ⟨eu_299, xu_299⟩ := k_300
                    rw [eu_299] at hW
                    have yu_299 := xu_299.2
                    unfold fr8 at yu_299
                    have lp2 : r_301 = N.2.2.1 (N.2.2.1 s0 4) 1 := (by have q1 := (hK.2 s0 (by omega) (by omega)).2.2.1 h7 4 (by omega); have q2 := (nr_196.2.2 (N.2.2.1 s0 4) (by omega) (by omega)).2.1 (by rcases q1 with z | z; (exfalso; omega); exact z.2.2); rw [q2.1, ← fs2]; exact xu_299.1)
                    refine r_isub hx hb dX9_named_174 ?_
                    refine lv_istore (lv' := [(5, .int (iv (((ofA * r_298) + r_187) - r_301))), (6, .int (iv 0)), (10, .int (iv r_195)), (4, .int (iv 2)), (9, .int (iv r_187)), (8, .int (iv 4)), (7, .int (iv 1)), (3, .int (iv (S.1 11 13))), (0, .ref (G.2.2.1 + 11)), (1, .int (iv dd)), (2, .int (iv s0))]) hx hb dX9_named_175 hl (by decide) rfl (fun ls hl => ?_)
                    exact join_177 0 (((ofA * r_298) + r_187) - r_301) _ _ _ (by omega) (by omega) ⟨fun z => absurd z (by omega), fun z => ⟨(by first | (rw [← sz2, ← lp2]; done) | (rw [← sz2, ← lp2]; omega)), (by omega), (fun h => by first | (exfalso; omega) | exact ⟨by omega, by constructor <;> omega⟩), (fun h y => by have y1 := y.1; have y2 := y.2.1; have y3 := y.2.2; omega)⟩⟩ hW hL (lv_sub hl [2, 3, 4, 5, 6, 1, 0, 7, 8, 9, 10] rfl)
                  · refine lv_iload hx hb dX9_named_136 (lv_at hl 2 rfl) ?_
                    refine lv_aload_n hx hb dX9_named_138 rfl (lv_at hl 8 rfl) ?_
                    refine lv_iload hx hb dX9_named_139 (lv_at hl 0 rfl) ?_
                    refine lv_iconst (v := iv 2) hx hb dX9_named_141 (by decide) ?_
                    refine sBi (sV (As := [.int (iv r_195), .int (iv 2)]) (rest := [.int (iv r_187)]) (k := 11) Cx (s_X9_fact l G u_185 (s0 := r_195) (q := 2) iu_185 (by omega) (by omega)) (c_X9_120 Cx rfl rfl (rmk_ok (by omega) (by decide))) hW (by decide) rfl rfl rfl hl.1 rfl (Nat.le_of_ble_eq_true rfl) dX9_named_142 ⟨Nat.le_of_ble_eq_true rfl, Nat.le_of_ble_eq_true rfl⟩) hL (fun r_304 u_302 H locs k_303 hW hL => ?_)
                    obtain ⟨eu_302, xu_302⟩ := k_303
                    rw [eu_302] at hW
                    have yu_302 := xu_302.2
                    unfold fr8 at yu_302
                    have hh2 : r_304 = N.2.2.1 (N.2.2.1 s0 4) 2 := (by have q1 := (hK.2 s0 (by omega) (by omega)).2.2.1 h7 4 (by omega); have q2 := (nr_196.2.2 (N.2.2.1 s0 4) (by omega) (by omega)).2.1 (by rcases q1 with z | z; (exfalso; omega); exact z.2.2); rw [q2.2, ← fs2]; exact xu_302.1)
                    refine r_icmp_gt (tgt := 152) hx hb ⟨(by omega), (by omega)⟩ ⟨(by omega), (by omega)⟩ dX9_named_145 (by decide) (fun c_305 => ?_) (fun c_305 => ?_)
                    · refine lv_iconst (v := iv 0) hx hb dX9_named_152 (by decide) ?_
                      refine lv_istore (lv' := [(6, .int (iv 0)), (10, .int (iv r_195)), (4, .int (iv 2)), (9, .int (iv r_187)), (8, .int (iv 4)), (7, .int (iv 1)), (5, .int (iv ofA)), (3, .int (iv (S.1 11 13))), (0, .ref (G.2.2.1 + 11)), (1, .int (iv dd)), (2, .int (iv s0))]) hx hb dX9_named_153 hl (by decide) rfl (fun ls hl => ?_)
                      refine lv_iload hx hb dX9_named_155 (lv_at hl 6 rfl) ?_
                      refine lv_aload_n hx hb dX9_named_157 rfl (lv_at hl 8 rfl) ?_
                      refine lv_iload hx hb dX9_named_158 (lv_at hl 1 rfl) ?_
                      refine sBi (sV (As := [.int (iv r_195)]) (rest := [.int (iv ofA)]) (k := 11) Cx (s_X9_setSize l G u_185 (s0 := r_195) iu_185 (by omega)) (c_X9_149 Cx rfl rfl (rmk_ok (by omega) (by decide))) hW (by decide) rfl rfl rfl hl.1 rfl (Nat.le_of_ble_eq_true rfl) dX9_named_160 ⟨Nat.le_of_ble_eq_true rfl, Nat.le_of_ble_eq_true rfl⟩) hL (fun r_308 u_306 H locs k_307 hW hL => ?_)
                      obtain ⟨eu_306, xu_306⟩ := k_307
                      rw [eu_306] at hW
                      have sz2 : r_308 = siz N (N.2.2.1 s0 4) := (by have q1 := (hK.2 s0 (by omega) (by omega)).2.2.1 h7 4 (by omega); have q2 := (nr_196.2.2 (N.2.2.1 s0 4) (by omega) (by omega)).2.1 (by rcases q1 with z | z; (exfalso; omega); exact z.2.2); have q3 := xu_306.2.1 (by omega); rw [q3, fs2, ← q2.1, ← q2.2]; exact (if_neg (by omega)).symm)
                      have sb2 : 1 ≤ r_308 ∧ r_308 ≤ 12 := (by have q1 := (hK.2 s0 (by omega) (by omega)).2.2.1 h7 4 (by omega); rcases q1 with z | z; (exfalso; omega); (have q4 := (hK.2 _ z.1 z.2.1).2.1 z.2.2; rw [sz2]; unfold siz; rw [if_neg (by omega)]; omega))
                      have mb : -4000000 ≤ ofA * r_308 ∧ ofA * r_308 ≤ 4000000 := (mulc (by omega) (by omega))
                      refine r_imul hx hb dX9_named_163 ?_
                      refine lv_iload hx hb dX9_named_164 (lv_at hl 3 rfl) ?_
                      refine r_iadd hx hb dX9_named_166 ?_
                      refine lv_aload_n hx hb dX9_named_167 rfl (lv_at hl 8 rfl) ?_
                      refine lv_iload hx hb dX9_named_168 (lv_at hl 1 rfl) ?_
                      refine lv_iconst (v := iv 1) hx hb dX9_named_170 (by decide) ?_
                      refine sBi (sV (As := [.int (iv r_195), .int (iv 1)]) (rest := [.int (iv ((ofA * r_308) + r_187))]) (k := 11) Cx (s_X9_fact l G u_185 (s0 := r_195) (q := 1) iu_185 (by omega) (by omega)) (c_X9_120 Cx rfl rfl (rmk_ok (by omega) (by decide))) hW (by decide) rfl rfl rfl hl.1 rfl (Nat.le_of_ble_eq_true rfl) dX9_named_171 ⟨Nat.le_of_ble_eq_true rfl, Nat.le_of_ble_eq_true rfl⟩) hL (fun r_311 u_309 H locs k_310 hW hL => ?_)
                      obtain ⟨eu_309, xu_309⟩ := k_310
                      rw [eu_309] at hW
                      have yu_309 := xu_309.2
                      unfold fr8 at yu_309
                      have lp2 : r_311 = N.2.2.1 (N.2.2.1 s0 4) 1 := (by have q1 := (hK.2 s0 (by omega) (by omega)).2.2.1 h7 4 (by omega); have q2 := (nr_196.2.2 (N.2.2.1 s0 4) (by omega) (by omega)).2.1 (by rcases q1 with z | z; (exfalso; omega); exact z.2.2); rw [q2.1, ← fs2]; exact xu_309.1)
                      refine r_isub hx hb dX9_named_174 ?_
                      refine lv_istore (lv' := [(5, .int (iv (((ofA * r_308) + r_187) - r_311))), (6, .int (iv 0)), (10, .int (iv r_195)), (4, .int (iv 2)), (9, .int (iv r_187)), (8, .int (iv 4)), (7, .int (iv 1)), (3, .int (iv (S.1 11 13))), (0, .ref (G.2.2.1 + 11)), (1, .int (iv dd)), (2, .int (iv s0))]) hx hb dX9_named_175 hl (by decide) rfl (fun ls hl => ?_)
                      exact join_177 0 (((ofA * r_308) + r_187) - r_311) _ _ _ (by omega) (by omega) ⟨fun z => absurd z (by omega), fun z => ⟨(by first | (rw [← sz2, ← lp2]; done) | (rw [← sz2, ← lp2]; omega)), (by omega), (fun h => by first | (exfalso; omega) | exact ⟨by omega, by constructor <;> omega⟩), (fun h y => by have y1 := y.1; have y2 := y.2.1; have y3 := y.2.2; omega)⟩⟩ hW hL (lv_sub hl [2, 3, 4, 5, 6, 1, 0, 7, 8, 9, 10] rfl)
                    · refine lv_iconst (v := iv 1) hx hb dX9_named_148 (by decide) ?_
                      refine lv_goto (tgt := 153) hx hb dX9_named_149 (by decide) ?_
                      refine lv_istore (lv' := [(6, .int (iv 1)), (10, .int (iv r_195)), (4, .int (iv 2)), (9, .int (iv r_187)), (8, .int (iv 4)), (7, .int (iv 1)), (5, .int (iv ofA)), (3, .int (iv (S.1 11 13))), (0, .ref (G.2.2.1 + 11)), (1, .int (iv dd)), (2, .int (iv s0))]) hx hb dX9_named_153 hl (by decide) rfl (fun ls hl => ?_)
                      refine lv_iload hx hb dX9_named_155 (lv_at hl 6 rfl) ?_
                      refine lv_aload_n hx hb dX9_named_157 rfl (lv_at hl 8 rfl) ?_
                      refine lv_iload hx hb dX9_named_158 (lv_at hl 1 rfl) ?_
                      refine sBi (sV (As := [.int (iv r_195)]) (rest := [.int (iv ofA)]) (k := 11) Cx (s_X9_setSize l G u_185 (s0 := r_195) iu_185 (by omega)) (c_X9_149 Cx rfl rfl (rmk_ok (by omega) (by decide))) hW (by decide) rfl rfl rfl hl.1 rfl (Nat.le_of_ble_eq_true rfl) dX9_named_160 ⟨Nat.le_of_ble_eq_true rfl, Nat.le_of_ble_eq_true rfl⟩) hL (fun r_314 u_312 H locs k_313 hW hL => ?_)
                      obtain ⟨eu_312, xu_312⟩ := k_313
                      rw [eu_312] at hW
                      have sz2 : r_314 = siz N (N.2.2.1 s0 4) := (by have q1 := (hK.2 s0 (by omega) (by omega)).2.2.1 h7 4 (by omega); have q2 := (nr_196.2.2 (N.2.2.1 s0 4) (by omega) (by omega)).2.1 (by rcases q1 with z | z; (exfalso; omega); exact z.2.2); have q3 := xu_312.2.1 (by omega); rw [q3, fs2, ← q2.1, ← q2.2]; exact (if_neg (by omega)).symm)
                      have sb2 : 1 ≤ r_314 ∧ r_314 ≤ 12 := (by have q1 := (hK.2 s0 (by omega) (by omega)).2.2.1 h7 4 (by omega); rcases q1 with z | z; (exfalso; omega); (have q4 := (hK.2 _ z.1 z.2.1).2.1 z.2.2; rw [sz2]; unfold siz; rw [if_neg (by omega)]; omega))
                      have mb : -4000000 ≤ ofA * r_314 ∧ ofA * r_314 ≤ 4000000 := (mulc (by omega) (by omega))
                      refine r_imul hx hb dX9_named_163 ?_
                      refine lv_iload hx hb dX9_named_164 (lv_at hl 3 rfl) ?_
                      refine r_iadd hx hb dX9_named_166 ?_
                      refine lv_aload_n hx hb dX9_named_167 rfl (lv_at hl 8 rfl) ?_
                      refine lv_iload hx hb dX9_named_168 (lv_at hl 1 rfl) ?_
                      refine lv_iconst (v := iv 1) hx hb dX9_named_170 (by decide) ?_
                      refine sBi (sV (As := [.int (iv r_195), .int (iv 1)]) (rest := [.int (iv ((ofA * r_314) + r_187))]) (k := 11) Cx (s_X9_fact l G u_185 (s0 := r_195) (q := 1) iu_185 (by omega) (by omega)) (c_X9_120 Cx rfl rfl (rmk_ok (by omega) (by decide))) hW (by decide) rfl rfl rfl hl.1 rfl (Nat.le_of_ble_eq_true rfl) dX9_named_171 ⟨Nat.le_of_ble_eq_true rfl, Nat.le_of_ble_eq_true rfl⟩) hL (fun r_317 u_315 H locs k_316 hW hL => ?_)
                      obtain ⟨eu_315, xu_315⟩ := k_316
                      rw [eu_315] at hW
                      have yu_315 := xu_315.2
                      unfold fr8 at yu_315
                      have lp2 : r_317 = N.2.2.1 (N.2.2.1 s0 4) 1 := (by have q1 := (hK.2 s0 (by omega) (by omega)).2.2.1 h7 4 (by omega); have q2 := (nr_196.2.2 (N.2.2.1 s0 4) (by omega) (by omega)).2.1 (by rcases q1 with z | z; (exfalso; omega); exact z.2.2); rw [q2.1, ← fs2]; exact xu_315.1)
                      refine r_isub hx hb dX9_named_174 ?_
                      refine lv_istore (lv' := [(5, .int (iv (((ofA * r_314) + r_187) - r_317))), (6, .int (iv 1)), (10, .int (iv r_195)), (4, .int (iv 2)), (9, .int (iv r_187)), (8, .int (iv 4)), (7, .int (iv 1)), (3, .int (iv (S.1 11 13))), (0, .ref (G.2.2.1 + 11)), (1, .int (iv dd)), (2, .int (iv s0))]) hx hb dX9_named_175 hl (by decide) rfl (fun ls hl => ?_)
                      exact join_177 1 (((ofA * r_314) + r_187) - r_317) _ _ _ (by omega) (by omega) ⟨fun z => absurd z (by omega), fun z => ⟨(by first | (rw [← sz2, ← lp2]; done) | (rw [← sz2, ← lp2]; omega)), (by omega), (fun h => by first | (exfalso; omega) | exact ⟨by omega, by constructor <;> omega⟩), (fun h y => by have y1 := y.1; have y2 := y.2.1; have y3 := y.2.2; omega)⟩⟩ hW hL (lv_sub hl [2, 3, 4, 5, 6, 1, 0, 7, 8, 9, 10] rfl)
            · have ia2 := xu_185.2.2.2 (by omega)
              rw [kv_100.1, kv_100.2.1] at ia2
              refine lv_iconst (v := iv 0) hx hb dX9_named_100 (by decide) ?_
              have q_318 : (-2147483648) ≤ u_185.1 11 12 ∧ u_185.1 11 12 ≤ 2147483647 := iu_185.fi 11 12 9 (by decide) rfl
              have q_319 : (-2147483648) ≤ u_185.1 11 13 ∧ u_185.1 11 13 ≤ 2147483647 := iu_185.fi 11 13 9 (by decide) rfl
              have q_320 : 0 ≤ u_185.1 11 9 ∧ u_185.1 11 9 ≤ 128 := iu_185.fi 11 9 9 (by decide) rfl
              exact sZret Cx hr hlk hW hL (by omega) ⟨iu_185, F_188, ⟨(by omega), (fun h => absurd h (by omega)), (fun _ => eN_4 hs0 hs.1 h7 (by omega) ia1 (by omega) ia2)⟩⟩ dX9_named_101
        refine lv_iload hx hb dX9_named_114 (lv_at hl 0 rfl) ?_
        refine r_if_lt (tgt := 177) hx hb ⟨(by omega), (by omega)⟩ dX9_named_116 (by decide) (fun c_321 => ?_) (fun c_321 => ?_)
        · exact join_177 1 0 _ _ _ (by omega) (by omega) ⟨fun z => ⟨by omega, by omega⟩, fun z => absurd z (by omega)⟩ hW hL (lv_sub hl [0, 1, 2, 3, 4, 5, 6, 7, 8, 9, 10] rfl)
        · refine lv_iload hx hb dX9_named_119 (lv_at hl 5 rfl) ?_
          refine r_if_eq (tgt := 152) hx hb ⟨(by omega), (by omega)⟩ dX9_named_121 (by decide) (fun c => absurd c (by omega)) (fun _ => ?_)
          refine lv_iload hx hb dX9_named_124 (lv_at hl 2 rfl) ?_
          refine lv_aload_n hx hb dX9_named_126 rfl (lv_at hl 8 rfl) ?_
          refine lv_iload hx hb dX9_named_127 (lv_at hl 0 rfl) ?_
          refine lv_iconst (v := iv 1) hx hb dX9_named_129 (by decide) ?_
          refine sBi (sV (As := [.int (iv r_93), .int (iv 1)]) (rest := [.int (iv r_85)]) (k := 11) Cx (s_X9_fact l G u_83 (s0 := r_93) (q := 1) iu_83 (by omega) (by omega)) (c_X9_120 Cx rfl rfl (rmk_ok (by omega) (by decide))) hW (by decide) rfl rfl rfl hl.1 rfl (Nat.le_of_ble_eq_true rfl) dX9_named_130 ⟨Nat.le_of_ble_eq_true rfl, Nat.le_of_ble_eq_true rfl⟩) hL (fun r_324 u_322 H locs k_323 hW hL => ?_)
          obtain ⟨eu_322, xu_322⟩ := k_323
          rw [eu_322] at hW
          have yu_322 := xu_322.2
          unfold fr8 at yu_322
          have lo1 : r_324 = N.2.2.1 (N.2.2.1 s0 3) 1 := (by have q1 := (hK.2 s0 (by omega) (by omega)).2.2.1 h7 3 (by omega); have q2 := (nr_94.2.2 (N.2.2.1 s0 3) (by omega) (by omega)).2.1 (by rcases q1 with z | z; (exfalso; omega); exact z.2.2); rw [q2.1, ← fs1]; exact xu_322.1)
          refine r_icmp_lt (tgt := 152) hx hb ⟨(by omega), (by omega)⟩ ⟨(by omega), (by omega)⟩ dX9_named_133 (by decide) (fun c_325 => ?_) (fun c_325 => ?_)
          · refine lv_iconst (v := iv 0) hx hb dX9_named_152 (by decide) ?_
            refine lv_istore (lv' := [(6, .int (iv 0)), (10, .int (iv r_93)), (4, .int (iv 1)), (9, .int (iv r_85)), (8, .int (iv 3)), (7, .int (iv 1)), (5, .int (iv 0)), (3, .int (iv (S.1 11 13))), (0, .ref (G.2.2.1 + 11)), (1, .int (iv dd)), (2, .int (iv s0))]) hx hb dX9_named_153 hl (by decide) rfl (fun ls hl => ?_)
            refine lv_iload hx hb dX9_named_155 (lv_at hl 6 rfl) ?_
            refine lv_aload_n hx hb dX9_named_157 rfl (lv_at hl 8 rfl) ?_
            refine lv_iload hx hb dX9_named_158 (lv_at hl 1 rfl) ?_
            refine sBi (sV (As := [.int (iv r_93)]) (rest := [.int (iv 0)]) (k := 11) Cx (s_X9_setSize l G u_83 (s0 := r_93) iu_83 (by omega)) (c_X9_149 Cx rfl rfl (rmk_ok (by omega) (by decide))) hW (by decide) rfl rfl rfl hl.1 rfl (Nat.le_of_ble_eq_true rfl) dX9_named_160 ⟨Nat.le_of_ble_eq_true rfl, Nat.le_of_ble_eq_true rfl⟩) hL (fun r_328 u_326 H locs k_327 hW hL => ?_)
            obtain ⟨eu_326, xu_326⟩ := k_327
            rw [eu_326] at hW
            have sz1 : r_328 = siz N (N.2.2.1 s0 3) := (by have q1 := (hK.2 s0 (by omega) (by omega)).2.2.1 h7 3 (by omega); have q2 := (nr_94.2.2 (N.2.2.1 s0 3) (by omega) (by omega)).2.1 (by rcases q1 with z | z; (exfalso; omega); exact z.2.2); have q3 := xu_326.2.1 (by omega); rw [q3, fs1, ← q2.1, ← q2.2]; exact (if_neg (by omega)).symm)
            have sb1 : 1 ≤ r_328 ∧ r_328 ≤ 12 := (by have q1 := (hK.2 s0 (by omega) (by omega)).2.2.1 h7 3 (by omega); rcases q1 with z | z; (exfalso; omega); (have q4 := (hK.2 _ z.1 z.2.1).2.1 z.2.2; rw [sz1]; unfold siz; rw [if_neg (by omega)]; omega))
            refine r_imul hx hb dX9_named_163 ?_
            refine lv_iload hx hb dX9_named_164 (lv_at hl 3 rfl) ?_
            refine r_iadd hx hb dX9_named_166 ?_
            refine lv_aload_n hx hb dX9_named_167 rfl (lv_at hl 8 rfl) ?_
            refine lv_iload hx hb dX9_named_168 (lv_at hl 1 rfl) ?_
            refine lv_iconst (v := iv 1) hx hb dX9_named_170 (by decide) ?_
            refine sBi (sV (As := [.int (iv r_93), .int (iv 1)]) (rest := [.int (iv ((0 * r_328) + r_85))]) (k := 11) Cx (s_X9_fact l G u_83 (s0 := r_93) (q := 1) iu_83 (by omega) (by omega)) (c_X9_120 Cx rfl rfl (rmk_ok (by omega) (by decide))) hW (by decide) rfl rfl rfl hl.1 rfl (Nat.le_of_ble_eq_true rfl) dX9_named_171 ⟨Nat.le_of_ble_eq_true rfl, Nat.le_of_ble_eq_true rfl⟩) hL (fun r_331 u_329 H locs k_330 hW hL => ?_)
            obtain ⟨eu_329, xu_329⟩ := k_330
            rw [eu_329] at hW
            have yu_329 := xu_329.2
            unfold fr8 at yu_329
            have lp1 : r_331 = N.2.2.1 (N.2.2.1 s0 3) 1 := (by have q1 := (hK.2 s0 (by omega) (by omega)).2.2.1 h7 3 (by omega); have q2 := (nr_94.2.2 (N.2.2.1 s0 3) (by omega) (by omega)).2.1 (by rcases q1 with z | z; (exfalso; omega); exact z.2.2); rw [q2.1, ← fs1]; exact xu_329.1)
            refine r_isub hx hb dX9_named_174 ?_
            refine lv_istore (lv' := [(5, .int (iv (((0 * r_328) + r_85) - r_331))), (6, .int (iv 0)), (10, .int (iv r_93)), (4, .int (iv 1)), (9, .int (iv r_85)), (8, .int (iv 3)), (7, .int (iv 1)), (3, .int (iv (S.1 11 13))), (0, .ref (G.2.2.1 + 11)), (1, .int (iv dd)), (2, .int (iv s0))]) hx hb dX9_named_175 hl (by decide) rfl (fun ls hl => ?_)
            exact join_177 0 (((0 * r_328) + r_85) - r_331) _ _ _ (by omega) (by omega) ⟨fun z => absurd z (by omega), fun z => ⟨(by first | (rw [← sz1, ← lp1]; done) | (rw [← sz1, ← lp1]; omega)), (by omega), (fun h => by first | (exfalso; omega) | exact ⟨by omega, by constructor <;> omega⟩), (fun h y => by have y1 := y.1; have y2 := y.2.1; have y3 := y.2.2; omega)⟩⟩ hW hL (lv_sub hl [2, 3, 4, 5, 6, 1, 0, 7, 8, 9, 10] rfl)
          · refine lv_iload hx hb dX9_named_136 (lv_at hl 2 rfl) ?_
            refine lv_aload_n hx hb dX9_named_138 rfl (lv_at hl 8 rfl) ?_
            refine lv_iload hx hb dX9_named_139 (lv_at hl 0 rfl) ?_
            refine lv_iconst (v := iv 2) hx hb dX9_named_141 (by decide) ?_
            refine sBi (sV (As := [.int (iv r_93), .int (iv 2)]) (rest := [.int (iv r_85)]) (k := 11) Cx (s_X9_fact l G u_83 (s0 := r_93) (q := 2) iu_83 (by omega) (by omega)) (c_X9_120 Cx rfl rfl (rmk_ok (by omega) (by decide))) hW (by decide) rfl rfl rfl hl.1 rfl (Nat.le_of_ble_eq_true rfl) dX9_named_142 ⟨Nat.le_of_ble_eq_true rfl, Nat.le_of_ble_eq_true rfl⟩) hL (fun r_334 u_332 H locs k_333 hW hL => ?_)
            obtain ⟨eu_332, xu_332⟩ := k_333
            rw [eu_332] at hW
            have yu_332 := xu_332.2
            unfold fr8 at yu_332
            have hh1 : r_334 = N.2.2.1 (N.2.2.1 s0 3) 2 := (by have q1 := (hK.2 s0 (by omega) (by omega)).2.2.1 h7 3 (by omega); have q2 := (nr_94.2.2 (N.2.2.1 s0 3) (by omega) (by omega)).2.1 (by rcases q1 with z | z; (exfalso; omega); exact z.2.2); rw [q2.2, ← fs1]; exact xu_332.1)
            refine r_icmp_gt (tgt := 152) hx hb ⟨(by omega), (by omega)⟩ ⟨(by omega), (by omega)⟩ dX9_named_145 (by decide) (fun c_335 => ?_) (fun c_335 => ?_)
            · refine lv_iconst (v := iv 0) hx hb dX9_named_152 (by decide) ?_
              refine lv_istore (lv' := [(6, .int (iv 0)), (10, .int (iv r_93)), (4, .int (iv 1)), (9, .int (iv r_85)), (8, .int (iv 3)), (7, .int (iv 1)), (5, .int (iv 0)), (3, .int (iv (S.1 11 13))), (0, .ref (G.2.2.1 + 11)), (1, .int (iv dd)), (2, .int (iv s0))]) hx hb dX9_named_153 hl (by decide) rfl (fun ls hl => ?_)
              refine lv_iload hx hb dX9_named_155 (lv_at hl 6 rfl) ?_
              refine lv_aload_n hx hb dX9_named_157 rfl (lv_at hl 8 rfl) ?_
              refine lv_iload hx hb dX9_named_158 (lv_at hl 1 rfl) ?_
              refine sBi (sV (As := [.int (iv r_93)]) (rest := [.int (iv 0)]) (k := 11) Cx (s_X9_setSize l G u_83 (s0 := r_93) iu_83 (by omega)) (c_X9_149 Cx rfl rfl (rmk_ok (by omega) (by decide))) hW (by decide) rfl rfl rfl hl.1 rfl (Nat.le_of_ble_eq_true rfl) dX9_named_160 ⟨Nat.le_of_ble_eq_true rfl, Nat.le_of_ble_eq_true rfl⟩) hL (fun r_338 u_336 H locs k_337 hW hL => ?_)
              obtain ⟨eu_336, xu_336⟩ := k_337
              rw [eu_336] at hW
              have sz1 : r_338 = siz N (N.2.2.1 s0 3) := (by have q1 := (hK.2 s0 (by omega) (by omega)).2.2.1 h7 3 (by omega); have q2 := (nr_94.2.2 (N.2.2.1 s0 3) (by omega) (by omega)).2.1 (by rcases q1 with z | z; (exfalso; omega); exact z.2.2); have q3 := xu_336.2.1 (by omega); rw [q3, fs1, ← q2.1, ← q2.2]; exact (if_neg (by omega)).symm)
              have sb1 : 1 ≤ r_338 ∧ r_338 ≤ 12 := (by have q1 := (hK.2 s0 (by omega) (by omega)).2.2.1 h7 3 (by omega); rcases q1 with z | z; (exfalso; omega); (have q4 := (hK.2 _ z.1 z.2.1).2.1 z.2.2; rw [sz1]; unfold siz; rw [if_neg (by omega)]; omega))
              refine r_imul hx hb dX9_named_163 ?_
              refine lv_iload hx hb dX9_named_164 (lv_at hl 3 rfl) ?_
              refine r_iadd hx hb dX9_named_166 ?_
              refine lv_aload_n hx hb dX9_named_167 rfl (lv_at hl 8 rfl) ?_
              refine lv_iload hx hb dX9_named_168 (lv_at hl 1 rfl) ?_
              refine lv_iconst (v := iv 1) hx hb dX9_named_170 (by decide) ?_
              refine sBi (sV (As := [.int (iv r_93), .int (iv 1)]) (rest := [.int (iv ((0 * r_338) + r_85))]) (k := 11) Cx (s_X9_fact l G u_83 (s0 := r_93) (q := 1) iu_83 (by omega) (by omega)) (c_X9_120 Cx rfl rfl (rmk_ok (by omega) (by decide))) hW (by decide) rfl rfl rfl hl.1 rfl (Nat.le_of_ble_eq_true rfl) dX9_named_171 ⟨Nat.le_of_ble_eq_true rfl, Nat.le_of_ble_eq_true rfl⟩) hL (fun r_341 u_339 H locs k_340 hW hL => ?_)
              obtain ⟨eu_339, xu_339⟩ := k_340
              rw [eu_339] at hW
              have yu_339 := xu_339.2
              unfold fr8 at yu_339
              have lp1 : r_341 = N.2.2.1 (N.2.2.1 s0 3) 1 := (by have q1 := (hK.2 s0 (by omega) (by omega)).2.2.1 h7 3 (by omega); have q2 := (nr_94.2.2 (N.2.2.1 s0 3) (by omega) (by omega)).2.1 (by rcases q1 with z | z; (exfalso; omega); exact z.2.2); rw [q2.1, ← fs1]; exact xu_339.1)
              refine r_isub hx hb dX9_named_174 ?_
              refine lv_istore (lv' := [(5, .int (iv (((0 * r_338) + r_85) - r_341))), (6, .int (iv 0)), (10, .int (iv r_93)), (4, .int (iv 1)), (9, .int (iv r_85)), (8, .int (iv 3)), (7, .int (iv 1)), (3, .int (iv (S.1 11 13))), (0, .ref (G.2.2.1 + 11)), (1, .int (iv dd)), (2, .int (iv s0))]) hx hb dX9_named_175 hl (by decide) rfl (fun ls hl => ?_)
              exact join_177 0 (((0 * r_338) + r_85) - r_341) _ _ _ (by omega) (by omega) ⟨fun z => absurd z (by omega), fun z => ⟨(by first | (rw [← sz1, ← lp1]; done) | (rw [← sz1, ← lp1]; omega)), (by omega), (fun h => by first | (exfalso; omega) | exact ⟨by omega, by constructor <;> omega⟩), (fun h y => by have y1 := y.1; have y2 := y.2.1; have y3 := y.2.2; omega)⟩⟩ hW hL (lv_sub hl [2, 3, 4, 5, 6, 1, 0, 7, 8, 9, 10] rfl)
            · refine lv_iconst (v := iv 1) hx hb dX9_named_148 (by decide) ?_
              refine lv_goto (tgt := 153) hx hb dX9_named_149 (by decide) ?_
              refine lv_istore (lv' := [(6, .int (iv 1)), (10, .int (iv r_93)), (4, .int (iv 1)), (9, .int (iv r_85)), (8, .int (iv 3)), (7, .int (iv 1)), (5, .int (iv 0)), (3, .int (iv (S.1 11 13))), (0, .ref (G.2.2.1 + 11)), (1, .int (iv dd)), (2, .int (iv s0))]) hx hb dX9_named_153 hl (by decide) rfl (fun ls hl => ?_)
              refine lv_iload hx hb dX9_named_155 (lv_at hl 6 rfl) ?_
              refine lv_aload_n hx hb dX9_named_157 rfl (lv_at hl 8 rfl) ?_
              refine lv_iload hx hb dX9_named_158 (lv_at hl 1 rfl) ?_
              refine sBi (sV (As := [.int (iv r_93)]) (rest := [.int (iv 0)]) (k := 11) Cx (s_X9_setSize l G u_83 (s0 := r_93) iu_83 (by omega)) (c_X9_149 Cx rfl rfl (rmk_ok (by omega) (by decide))) hW (by decide) rfl rfl rfl hl.1 rfl (Nat.le_of_ble_eq_true rfl) dX9_named_160 ⟨Nat.le_of_ble_eq_true rfl, Nat.le_of_ble_eq_true rfl⟩) hL (fun r_344 u_342 H locs k_343 hW hL => ?_)
              obtain ⟨eu_342, xu_342⟩ := k_343
              rw [eu_342] at hW
              have sz1 : r_344 = siz N (N.2.2.1 s0 3) := (by have q1 := (hK.2 s0 (by omega) (by omega)).2.2.1 h7 3 (by omega); have q2 := (nr_94.2.2 (N.2.2.1 s0 3) (by omega) (by omega)).2.1 (by rcases q1 with z | z; (exfalso; omega); exact z.2.2); have q3 := xu_342.2.1 (by omega); rw [q3, fs1, ← q2.1, ← q2.2]; exact (if_neg (by omega)).symm)
              have sb1 : 1 ≤ r_344 ∧ r_344 ≤ 12 := (by have q1 := (hK.2 s0 (by omega) (by omega)).2.2.1 h7 3 (by omega); rcases q1 with z | z; (exfalso; omega); (have q4 := (hK.2 _ z.1 z.2.1).2.1 z.2.2; rw [sz1]; unfold siz; rw [if_neg (by omega)]; omega))
              refine r_imul hx hb dX9_named_163 ?_
              refine lv_iload hx hb dX9_named_164 (lv_at hl 3 rfl) ?_
              refine r_iadd hx hb dX9_named_166 ?_
              refine lv_aload_n hx hb dX9_named_167 rfl (lv_at hl 8 rfl) ?_
              refine lv_iload hx hb dX9_named_168 (lv_at hl 1 rfl) ?_
              refine lv_iconst (v := iv 1) hx hb dX9_named_170 (by decide) ?_
              refine sBi (sV (As := [.int (iv r_93), .int (iv 1)]) (rest := [.int (iv ((0 * r_344) + r_85))]) (k := 11) Cx (s_X9_fact l G u_83 (s0 := r_93) (q := 1) iu_83 (by omega) (by omega)) (c_X9_120 Cx rfl rfl (rmk_ok (by omega) (by decide))) hW (by decide) rfl rfl rfl hl.1 rfl (Nat.le_of_ble_eq_true rfl) dX9_named_171 ⟨Nat.le_of_ble_eq_true rfl, Nat.le_of_ble_eq_true rfl⟩) hL (fun r_347 u_345 H locs k_346 hW hL => ?_)
              obtain ⟨eu_345, xu_345⟩ := k_346
              rw [eu_345] at hW
              have yu_345 := xu_345.2
              unfold fr8 at yu_345
              have lp1 : r_347 = N.2.2.1 (N.2.2.1 s0 3) 1 := (by have q1 := (hK.2 s0 (by omega) (by omega)).2.2.1 h7 3 (by omega); have q2 := (nr_94.2.2 (N.2.2.1 s0 3) (by omega) (by omega)).2.1 (by rcases q1 with z | z; (exfalso; omega); exact z.2.2); rw [q2.1, ← fs1]; exact xu_345.1)
              refine r_isub hx hb dX9_named_174 ?_
              refine lv_istore (lv' := [(5, .int (iv (((0 * r_344) + r_85) - r_347))), (6, .int (iv 1)), (10, .int (iv r_93)), (4, .int (iv 1)), (9, .int (iv r_85)), (8, .int (iv 3)), (7, .int (iv 1)), (3, .int (iv (S.1 11 13))), (0, .ref (G.2.2.1 + 11)), (1, .int (iv dd)), (2, .int (iv s0))]) hx hb dX9_named_175 hl (by decide) rfl (fun ls hl => ?_)
              exact join_177 1 (((0 * r_344) + r_85) - r_347) _ _ _ (by omega) (by omega) ⟨fun z => absurd z (by omega), fun z => ⟨(by first | (rw [← sz1, ← lp1]; done) | (rw [← sz1, ← lp1]; omega)), (by omega), (fun h => by first | (exfalso; omega) | exact ⟨by omega, by constructor <;> omega⟩), (fun h y => by have y1 := y.1; have y2 := y.2.1; have y3 := y.2.2; omega)⟩⟩ hW hL (lv_sub hl [2, 3, 4, 5, 6, 1, 0, 7, 8, 9, 10] rfl)
      · have ia1 := xu_83.2.2.2 (by omega)
        rw [kv_16.1, kv_16.2.1] at ia1
        refine lv_iconst (v := iv 0) hx hb dX9_named_100 (by decide) ?_
        have q_348 : (-2147483648) ≤ u_83.1 11 12 ∧ u_83.1 11 12 ≤ 2147483647 := iu_83.fi 11 12 9 (by decide) rfl
        have q_349 : (-2147483648) ≤ u_83.1 11 13 ∧ u_83.1 11 13 ≤ 2147483647 := iu_83.fi 11 13 9 (by decide) rfl
        have q_350 : 0 ≤ u_83.1 11 9 ∧ u_83.1 11 9 ≤ 128 := iu_83.fi 11 9 9 (by decide) rfl
        exact sZret Cx hr hlk hW hL (by omega) ⟨iu_83, F_86, ⟨(by omega), (fun h => absurd h (by omega)), (fun _ => eN_2 hs0 hs.1 h7 (by omega) ia1)⟩⟩ dX9_named_101
  · refine lv_aload_n hx hb dX9_named_24 rfl (lv_at hl 1 rfl) ?_
    refine g_X9_37 Cx hW (k := 11) (by decide) rfl (v := .ref (G.2.2.1 + 83)) (rf_11_6 i_5) dX9_named_25 ?_
    refine lv_iload_n hx hb dX9_named_28 rfl (lv_at hl 2 rfl) ?_
    refine rAald Cx hW (k := 83) (by decide) rfl (by decide) (by omega) (by omega) (r2_83f i_5 hqF (by omega) (by omega)) dX9_named_29 ?_
    refine lv_iconst (v := iv 0) hx hb dX9_named_30 (by decide) ?_
    refine lv_aload_n hx hb dX9_named_31 rfl (lv_at hl 1 rfl) ?_
    refine lv_iload_n hx hb dX9_named_32 rfl (lv_at hl 3 rfl) ?_
    refine lv_iconst (v := iv 1) hx hb dX9_named_33 (by decide) ?_
    refine sBi (sV (As := [.int (iv s0), .int (iv 1)]) (rest := [.int (iv 0), .ref (G.2.2.1 + qF)]) (k := 11) Cx (s_X9_fact l G (uF S 11 13 ((S.1 11 13) + 1)) (s0 := s0) (q := 1) i_5 (by omega) (by omega)) (c_X9_120 Cx rfl rfl (rmk_ok (by omega) (by decide))) hW (by decide) rfl rfl rfl hl.1 rfl (Nat.le_of_ble_eq_true rfl) dX9_named_34 ⟨Nat.le_of_ble_eq_true rfl, Nat.le_of_ble_eq_true rfl⟩) hL (fun r_353 u_351 H locs k_352 hW hL => ?_)
    obtain ⟨eu_351, xu_351⟩ := k_352
    rw [eu_351] at hW
    have yu_351 := xu_351.2
    unfold fr8 at yu_351
    have q_355 : 0 ≤ S.1 11 9 ∧ S.1 11 9 ≤ 128 := hI.fi 11 9 9 (by decide) rfl
    have lk_356 : (uF S 11 13 ((S.1 11 13) + 1)).1 11 9 = S.1 11 9 := uF_ne (fun h => absurd h.2 (by decide))
    have nr_354 : NRc N (uF S 11 13 ((S.1 11 13) + 1)) := hN.of (by omega) (fun j => (F_3 16 rfl).2.2.1 j) (fun j => (F_3 17 rfl).2.1 j) (fun j => (F_3 18 rfl).2.1 j)
    refine r_i2l hx hb ⟨(by omega), (by omega)⟩ dX9_named_37 ?_
    refine rLast Cx hW hL (k := qF) (lr_l lqF) lqF.1 (by decide) (by omega) (by omega) dX9_named_38 (fun H locs hW hL => ?_)
    have F_357 : Fr S (uL (uF S 11 13 ((S.1 11 13) + 1)) qF 0 r_353) (pl [11, qF]) := F_2.L (pl_t pl_h)
    have F_358 : Fr S (uL (uF S 11 13 ((S.1 11 13) + 1)) qF 0 r_353) pR3 := F_3.L (lr_R lqF)
    have i_359 : cX G (uL (uF S 11 13 ((S.1 11 13) + 1)) qF 0 r_353) 0 0 0 := i_5.L ⟨by omega, by omega⟩
    refine lv_iconst (v := iv 1) hx hb dX9_named_39 (by decide) ?_
    have q_360 : (-2147483648) ≤ S.1 11 12 ∧ S.1 11 12 ≤ 2147483647 := hI.fi 11 12 9 (by decide) rfl
    have lk_361 : (uL (uF S 11 13 ((S.1 11 13) + 1)) qF 0 r_353).1 11 12 = S.1 11 12 := (uL_f).trans (uF_ne (fun h => absurd h.2 (by decide)))
    have lk_362 : (uL (uF S 11 13 ((S.1 11 13) + 1)) qF 0 r_353).1 11 13 = (S.1 11 13) + 1 := (uL_f).trans (uF_on)
    have q_363 : 0 ≤ S.1 11 14 ∧ S.1 11 14 ≤ 7 := hI.fi 11 14 9 (by decide) rfl
    have lk_364 : (uL (uF S 11 13 ((S.1 11 13) + 1)) qF 0 r_353).1 11 14 = S.1 11 14 := (uL_f).trans (uF_ne (fun h => absurd h.2 (by decide)))
    have lk_365 : (uL (uF S 11 13 ((S.1 11 13) + 1)) qF 0 r_353).1 11 9 = S.1 11 9 := (uL_f).trans (uF_ne (fun h => absurd h.2 (by decide)))
    have nr_366 : NRc N (uL (uF S 11 13 ((S.1 11 13) + 1)) qF 0 r_353) := hN.of (by omega) (fun j => (F_358 16 rfl).2.2.1 j) (fun j => (F_358 17 rfl).2.1 j) (fun j => (F_358 18 rfl).2.1 j)
    exact sZret Cx hr hlk hW hL (by omega) ⟨i_359, F_357, (by have q2 := nr_354.2.2 s0 (by omega) (by omega); have c2 : N.2.2.1 s0 0 = 2 := q2.1.trans (xu_6.2.1 (by omega)).2; have c1 : r_353 = N.2.2.1 s0 1 := (xu_351.1.trans (q2.2.2.1 c2).symm); have c3 := (hK.2 s0 (by omega) (by omega)).1 c2; have nk : k (pz + 1) ≠ 17 := (by rcases hso with q | q; (exact q.2); (exfalso; omega)); have qe : q = pz + 1 := (by rcases hgx with g | g; (exact absurd g.1 nk); exact g.2); exact ⟨(by omega), (fun _ => ⟨(cst r_353), (by rw [show (uL (uF S 11 13 ((S.1 11 13) + 1)) qF 0 r_353).1 11 12 = S.1 11 12 by omega]; rw [eN_0 hs0 hs.1 c2 nk, c1, qe]), (veq_u0 hz), (vb9_cst (by omega)), ⟨by omega, by omega⟩, (by omega), (by omega), nr_366⟩), (fun h => absurd h (by decide))⟩)⟩ dX9_named_40

set_option maxRecDepth 100000 in
set_option maxHeartbeats 4000000 in
theorem e_X9_negated (l : Launch) (G : sG) (S : sS) {N : sN} {k v : Int → Int} {T pz q dd : Int} {dn qF n d1 D : Nat} (hI : cX G S 0 0 0) (hdd : 0 ≤ dd ∧ dd ≤ 29) (hN : Hd (NRc N S)) (hK : Hd (NK N)) (hTV : Hd (TVn k v)) (hkv : Hd (KV S k v T)) (hfk : S.1 11 14 = 0) (hat : S.1 11 13 = pz) (hpz : 0 ≤ pz ∧ pz ≤ 2000) (hlk : 0 ≤ S.1 11 12 ∧ S.1 11 12 ≤ 20000) (hdn : dd = (dn : Int)) (h1 : d1 < D) (h4 : 8 ≤ D) (hn : (n : Int) = 29 - dd) (hnm : N.1 + n ≤ 128) (hqF : qF = 84 + dn) (hF : FX l G d1 (dd + 1) (dn + 1)) (hgx : Hd (ogF T k n (pz + 1) = some q)) (hqb : q ≤ 2001) (hz : Hd (veq (S.2.2.1 qF) (cst 0))) : Met l yX9_negated (.code yX9_negated cX9_negated 2 (some .boolean) :: tb) (rmk D 0 0) (sPc G 294 S [.ref (G.2.2.1 + 11), .int (iv dd)]) (sQi G 294 (fun r u => cX G u 0 0 0 ∧ Fr S u (pE (dn + 1) (dn + 1) dn) ∧ (EO u N q r ((eF T k v n N (S.1 11 12) (pz + 1)).bind (fun y => some (y.1, vad (cst 0) y.2.1 (-1), y.2.2))) qF))) 0 0 (sF G) := by
  refine sEnter (by decide) (Nat.le_of_ble_eq_true rfl) ?_
  intro p e s m args below meth c Cx hr hlk hnm hW ls hl
  have Cx : sC G p m c cX9_negated 2 s args RX9 := Cx
  obtain ⟨hx, hb, hml, hown, hts⟩ := id Cx.1
  have hL : sL G [] := sL_nil
  have hl : lv_has ls 2 [(0, .ref (G.2.2.1 + 11)), (1, .int (iv dd))] := hl
  have hW0 := hW
  obtain ⟨qG, hqG⟩ : ∃ z : Nat, z = 84 + (dn + 1) := ⟨_, rfl⟩
  have lqF := lr_83 hqF (by omega)
  have lqG := lr_83 hqG (by omega)
  have hkn : 0 ≤ S.1 11 9 ∧ S.1 11 9 ≤ 128 := hI.fi 11 9 9 (by decide) rfl
  have hTb : 0 ≤ S.1 12 3 ∧ S.1 12 3 ≤ 2001 := hI.fi 12 3 8 (by decide) rfl
  have hTe := hkv.2.2
  have hN1 := hN.1
  refine lv_aload_n hx hb dX9_negated_0 rfl (lv_at hl 0 rfl) ?_
  refine lv_dup hx hb dX9_negated_1 rfl ?_
  have q_1 : (-2147483648) ≤ S.1 11 13 ∧ S.1 11 13 ≤ 2147483647 := hI.fi 11 13 9 (by decide) rfl
  refine g_X9_89 Cx hW (k := 11) (by decide) rfl (v := S.1 11 13) rfl dX9_negated_2 ?_
  refine lv_iconst (v := iv 1) hx hb dX9_negated_5 (by decide) ?_
  refine r_iadd hx hb dX9_negated_6 ?_
  refine p_X9_89 Cx hW hL (k := 11) (by decide) rfl dX9_negated_7 (fun H locs hW hL => ?_)
  have F_2 : Fr S (uF S 11 13 ((S.1 11 13) + 1)) (pE (dn + 1) (dn + 1) dn) := (Fr.rf : Fr S S (pE (dn + 1) (dn + 1) dn)).F (pE_y (by omega))
  have F_3 : Fr S (uF S 11 13 ((S.1 11 13) + 1)) pR3 := (Fr.rf : Fr S S pR3).F rfl
  have F_4 : Fr S (uF S 11 13 ((S.1 11 13) + 1)) (pE (dn + 1) (dn + 1) (dn + 1)) := (Fr.rf : Fr S S (pE (dn + 1) (dn + 1) (dn + 1))).F (pE_y (by omega))
  have i_5 : cX G (uF S 11 13 ((S.1 11 13) + 1)) 0 0 0 := hI.F rfl rfl (show (-2147483648) ≤ (S.1 11 13) + 1 ∧ (S.1 11 13) + 1 ≤ 2147483647 from ⟨by omega, by omega⟩)
  refine lv_aload_n hx hb dX9_negated_10 rfl (lv_at hl 0 rfl) ?_
  refine lv_iload_n hx hb dX9_negated_11 rfl (lv_at hl 1 rfl) ?_
  refine lv_iconst (v := iv 1) hx hb dX9_negated_12 (by decide) ?_
  refine r_iadd hx hb dX9_negated_13 ?_
  have q_6 : (-2147483648) ≤ S.1 11 12 ∧ S.1 11 12 ≤ 2147483647 := hI.fi 11 12 9 (by decide) rfl
  have lk_7 : (uF S 11 13 ((S.1 11 13) + 1)).1 11 12 = S.1 11 12 := uF_ne (fun h => absurd h.2 (by decide))
  have lk_8 : (uF S 11 13 ((S.1 11 13) + 1)).1 11 13 = (S.1 11 13) + 1 := uF_on
  have q_9 : 0 ≤ S.1 11 14 ∧ S.1 11 14 ≤ 7 := hI.fi 11 14 9 (by decide) rfl
  have lk_10 : (uF S 11 13 ((S.1 11 13) + 1)).1 11 14 = S.1 11 14 := uF_ne (fun h => absurd h.2 (by decide))
  have q_11 : 0 ≤ S.1 11 9 ∧ S.1 11 9 ≤ 128 := hI.fi 11 9 9 (by decide) rfl
  have lk_12 : (uF S 11 13 ((S.1 11 13) + 1)).1 11 9 = S.1 11 9 := uF_ne (fun h => absurd h.2 (by decide))
  have nr_13 : NRc N (uF S 11 13 ((S.1 11 13) + 1)) := hN.of (by omega) (fun j => (F_3 16 rfl).2.2.1 j) (fun j => (F_3 17 rfl).2.1 j) (fun j => (F_3 18 rfl).2.1 j)
  have kv_14 : KV (uF S 11 13 ((S.1 11 13) + 1)) k v T := hkv.fr F_2 (pE_n (by omega)) (pE_n (by omega)) (pE_n (by omega))
  refine sBi (sV (As := [.int (iv (dd + 1))]) (rest := []) (k := 11) Cx (hF (uF S 11 13 ((S.1 11 13) + 1)) N k v T (pz + 1) q n i_5 ⟨nr_13, hK, hTV, kv_14, (by omega), (by omega), (by omega), ⟨by omega, by omega⟩⟩ (by omega) (by omega) (by omega) hgx) (c_X9_211 Cx rfl rfl (rmk_ok (by omega) (by decide))) hW (by decide) rfl rfl rfl hl.1 rfl (Nat.le_of_ble_eq_true rfl) dX9_negated_14 ⟨Nat.le_of_ble_eq_true rfl, Nat.le_of_ble_eq_true rfl⟩) hL (fun r_17 u_15 H locs k_16 hW hL => ?_)
  obtain ⟨iu_15, fu_15, xu_15⟩ := k_16
  have yu_15 := xu_15.1
  have F_18 := F_2.trans (fu_15.to (pE_s (by omega) (by omega) (by omega)))
  have F_19 := F_4.trans (fu_15.to (pE_s (by omega) (by omega) (by omega)))
  refine r_if_ne (tgt := 22) hx hb ⟨(by omega), (by omega)⟩ dX9_negated_17 (by decide) (fun c_20 => ?_) (fun c_20 => ?_)
  · obtain ⟨V1, e1, w1, b1, l1, pp1, f1, n1⟩ := xu_15.2.1 (by omega)
    rw [← hqG] at w1
    refine lv_aload_n hx hb dX9_negated_22 rfl (lv_at hl 0 rfl) ?_
    refine g_X9_37 Cx hW (k := 11) (by decide) rfl (v := .ref (G.2.2.1 + 83)) (rf_11_6 iu_15) dX9_negated_23 ?_
    refine lv_iload_n hx hb dX9_negated_26 rfl (lv_at hl 1 rfl) ?_
    refine rAald Cx hW (k := 83) (by decide) rfl (by decide) (by omega) (by omega) (r2_83f iu_15 hqF (by omega) (by omega)) dX9_negated_27 ?_
    refine lv_aload_n hx hb dX9_negated_28 rfl (lv_at hl 0 rfl) ?_
    refine g_X9_37 Cx hW (k := 11) (by decide) rfl (v := .ref (G.2.2.1 + 83)) (rf_11_6 iu_15) dX9_negated_29 ?_
    refine lv_iload_n hx hb dX9_negated_32 rfl (lv_at hl 1 rfl) ?_
    refine lv_iconst (v := iv 1) hx hb dX9_negated_33 (by decide) ?_
    refine r_iadd hx hb dX9_negated_34 ?_
    refine rAald Cx hW (k := 83) (by decide) rfl (by decide) (by omega) (by omega) (r2_83f iu_15 hqG (by omega) (by omega)) dX9_negated_35 ?_
    refine lv_iconst (v := iv (-1)) hx hb dX9_negated_36 (by decide) ?_
    refine sBv (sSt (As := [.ref (G.2.2.1 + qF), .ref (G.2.2.1 + qG), .int (iv ((-1)))]) (rest := []) Cx (e_X9_addTo l G u_15 (qa := qF) (qb := qG) (t := (-1)) iu_15 lqF lqG (by omega) (by omega) (vbd_0 (veq_tr (fun j a b => (F_19 qF (pE_n (by omega))).2.2.1 j) hz)) (b1.eq w1).bd) (c_X9_185 Cx rfl rfl (rmk_ok (by omega) (by decide))) hW rfl hl.1 rfl (Nat.le_of_ble_eq_true rfl) dX9_negated_37 ⟨Nat.le_of_ble_eq_true rfl, Nat.le_of_ble_eq_true rfl⟩) hL (fun u_21 H locs k_22 hW hL => ?_)
    obtain ⟨iu_21, fu_21, xu_21⟩ := k_22
    have F_23 := F_18.trans (fu_21.to (p1_sub (pE_y (by omega))))
    have F_24 := (Fr.rf : Fr u_15 u_15 pR3).trans (fu_21.to (p1_sub (lr_R lqF)))
    refine lv_iconst (v := iv 1) hx hb dX9_negated_40 (by decide) ?_
    have q_25 : (-2147483648) ≤ u_15.1 11 12 ∧ u_15.1 11 12 ≤ 2147483647 := iu_15.fi 11 12 9 (by decide) rfl
    have lk_26 : u_21.1 11 12 = u_15.1 11 12 := (fu_21 11 (p1_no (tau_ne (rfl : tau 11 = .inl 9) lqF.1 (fun h => by cases h)))).1 12
    have q_27 : (-2147483648) ≤ u_15.1 11 13 ∧ u_15.1 11 13 ≤ 2147483647 := iu_15.fi 11 13 9 (by decide) rfl
    have lk_28 : u_21.1 11 13 = u_15.1 11 13 := (fu_21 11 (p1_no (tau_ne (rfl : tau 11 = .inl 9) lqF.1 (fun h => by cases h)))).1 13
    have q_29 : 0 ≤ u_15.1 11 14 ∧ u_15.1 11 14 ≤ 7 := iu_15.fi 11 14 9 (by decide) rfl
    have lk_30 : u_21.1 11 14 = u_15.1 11 14 := (fu_21 11 (p1_no (tau_ne (rfl : tau 11 = .inl 9) lqF.1 (fun h => by cases h)))).1 14
    have q_31 : 0 ≤ u_15.1 11 9 ∧ u_15.1 11 9 ≤ 128 := iu_15.fi 11 9 9 (by decide) rfl
    have lk_32 : u_21.1 11 9 = u_15.1 11 9 := (fu_21 11 (p1_no (tau_ne (rfl : tau 11 = .inl 9) lqF.1 (fun h => by cases h)))).1 9
    have nr_33 : NRc N u_21 := n1.of (by omega) (fun j => (F_24 16 rfl).2.2.1 j) (fun j => (F_24 17 rfl).2.1 j) (fun j => (F_24 18 rfl).2.1 j)
    exact sZret Cx hr hlk hW hL (by omega) ⟨iu_21, F_23, ⟨(by omega), (fun _ => ⟨(vad (cst 0) V1 (-1)), (by rw [e1]; show some _ = some _; rw [show u_21.1 11 12 = u_15.1 11 12 by omega]), (veq_tr xu_21 (veq_vad (veq_tr (fun j a b => (F_19 qF (pE_n (by omega))).2.2.1 j) hz) w1)), (vb9_neg b1), ⟨by omega, by omega⟩, (by omega), (by omega), nr_33⟩), (fun h => absurd h (by decide))⟩⟩ dX9_negated_41
  · refine lv_iconst (v := iv 0) hx hb dX9_negated_20 (by decide) ?_
    have q_34 : (-2147483648) ≤ u_15.1 11 12 ∧ u_15.1 11 12 ≤ 2147483647 := iu_15.fi 11 12 9 (by decide) rfl
    have q_35 : (-2147483648) ≤ u_15.1 11 13 ∧ u_15.1 11 13 ≤ 2147483647 := iu_15.fi 11 13 9 (by decide) rfl
    have q_36 : 0 ≤ u_15.1 11 14 ∧ u_15.1 11 14 ≤ 7 := iu_15.fi 11 14 9 (by decide) rfl
    have q_37 : 0 ≤ u_15.1 11 9 ∧ u_15.1 11 9 ≤ 128 := iu_15.fi 11 9 9 (by decide) rfl
    exact sZret Cx hr hlk hW hL (by omega) ⟨iu_15, F_18, ⟨(by omega), (fun h => absurd h (by omega)), (fun _ => (by rw [xu_15.2.2 (by omega)]; rfl))⟩⟩ dX9_negated_21

set_option maxRecDepth 100000 in
set_option maxHeartbeats 4000000 in
theorem e_X9_inner (l : Launch) (G : sG) (S : sS) {N : sN} {k v : Int → Int} {T pz q dd : Int} {dn qF n d1 D : Nat} {q1 : Int} (hI : cX G S 0 0 0) (hdd : 0 ≤ dd ∧ dd ≤ 29) (hN : Hd (NRc N S)) (hK : Hd (NK N)) (hTV : Hd (TVn k v)) (hkv : Hd (KV S k v T)) (hfk : S.1 11 14 = 0) (hat : S.1 11 13 = pz) (hpz : 0 ≤ pz ∧ pz ≤ 2000) (hlk : 0 ≤ S.1 11 12 ∧ S.1 11 12 ≤ 20000) (hdn : dd = (dn : Int)) (h1 : d1 < D) (h4 : 8 ≤ D) (hn : (n : Int) = 29 - dd) (hnm : N.1 + n ≤ 128) (hqF : qF = 84 + dn) (hE : EX l G d1 (dd + 1) (dn + 1)) (hgx : Hd (ogU T k (ogF T k n) (pz + 1) = some q1)) (hq : q = q1 + 1) (hq1 : 0 ≤ q1 ∧ q1 ≤ 2001) (hz : Hd (veq (S.2.2.1 qF) (cst 0))) : Met l yX9_inner (.code yX9_inner cX9_inner 2 (some .boolean) :: tb) (rmk D 0 0) (sPc G 294 S [.ref (G.2.2.1 + 11), .int (iv dd)]) (sQi G 294 (fun r u => cX G u 0 0 0 ∧ Fr S u (pE (dn + 1) (dn + 1) dn) ∧ (EO u N q r ((eU T k (eF T k v n N) (S.1 11 12) (pz + 1)).bind (fun y => some (y.1 + 1, y.2.1, y.2.2))) qF))) 0 0 (sF G) := by
  refine sEnter (by decide) (Nat.le_of_ble_eq_true rfl) ?_
  intro p e s m args below meth c Cx hr hlk hnm hW ls hl
  have Cx : sC G p m c cX9_inner 2 s args RX9 := Cx
  obtain ⟨hx, hb, hml, hown, hts⟩ := id Cx.1
  have hL : sL G [] := sL_nil
  have hl : lv_has ls 2 [(0, .ref (G.2.2.1 + 11)), (1, .int (iv dd))] := hl
  have hW0 := hW
  obtain ⟨qT, hqT⟩ : ∃ z : Nat, z = 20 + (dn + 1) := ⟨_, rfl⟩
  have lqF := lr_83 hqF (by omega)
  have lqT := lr_19 hqT (by omega)
  have hkn : 0 ≤ S.1 11 9 ∧ S.1 11 9 ≤ 128 := hI.fi 11 9 9 (by decide) rfl
  have hTb : 0 ≤ S.1 12 3 ∧ S.1 12 3 ≤ 2001 := hI.fi 12 3 8 (by decide) rfl
  have hTe := hkv.2.2
  have hN1 := hN.1
  refine lv_aload_n hx hb dX9_inner_0 rfl (lv_at hl 0 rfl) ?_
  refine lv_dup hx hb dX9_inner_1 rfl ?_
  have q_1 : (-2147483648) ≤ S.1 11 13 ∧ S.1 11 13 ≤ 2147483647 := hI.fi 11 13 9 (by decide) rfl
  refine g_X9_89 Cx hW (k := 11) (by decide) rfl (v := S.1 11 13) rfl dX9_inner_2 ?_
  refine lv_iconst (v := iv 1) hx hb dX9_inner_5 (by decide) ?_
  refine r_iadd hx hb dX9_inner_6 ?_
  refine p_X9_89 Cx hW hL (k := 11) (by decide) rfl dX9_inner_7 (fun H locs hW hL => ?_)
  have F_2 : Fr S (uF S 11 13 ((S.1 11 13) + 1)) (pE (dn + 1) (dn + 1) dn) := (Fr.rf : Fr S S (pE (dn + 1) (dn + 1) dn)).F (pE_y (by omega))
  have F_3 : Fr S (uF S 11 13 ((S.1 11 13) + 1)) pR3 := (Fr.rf : Fr S S pR3).F rfl
  have F_4 : Fr S (uF S 11 13 ((S.1 11 13) + 1)) (pE (dn + 1) (dn + 1) (dn + 1)) := (Fr.rf : Fr S S (pE (dn + 1) (dn + 1) (dn + 1))).F (pE_y (by omega))
  have i_5 : cX G (uF S 11 13 ((S.1 11 13) + 1)) 0 0 0 := hI.F rfl rfl (show (-2147483648) ≤ (S.1 11 13) + 1 ∧ (S.1 11 13) + 1 ≤ 2147483647 from ⟨by omega, by omega⟩)
  refine lv_aload_n hx hb dX9_inner_10 rfl (lv_at hl 0 rfl) ?_
  refine lv_iload_n hx hb dX9_inner_11 rfl (lv_at hl 1 rfl) ?_
  refine lv_iconst (v := iv 1) hx hb dX9_inner_12 (by decide) ?_
  refine r_iadd hx hb dX9_inner_13 ?_
  have q_6 : (-2147483648) ≤ S.1 11 12 ∧ S.1 11 12 ≤ 2147483647 := hI.fi 11 12 9 (by decide) rfl
  have lk_7 : (uF S 11 13 ((S.1 11 13) + 1)).1 11 12 = S.1 11 12 := uF_ne (fun h => absurd h.2 (by decide))
  have lk_8 : (uF S 11 13 ((S.1 11 13) + 1)).1 11 13 = (S.1 11 13) + 1 := uF_on
  have q_9 : 0 ≤ S.1 11 14 ∧ S.1 11 14 ≤ 7 := hI.fi 11 14 9 (by decide) rfl
  have lk_10 : (uF S 11 13 ((S.1 11 13) + 1)).1 11 14 = S.1 11 14 := uF_ne (fun h => absurd h.2 (by decide))
  have q_11 : 0 ≤ S.1 11 9 ∧ S.1 11 9 ≤ 128 := hI.fi 11 9 9 (by decide) rfl
  have lk_12 : (uF S 11 13 ((S.1 11 13) + 1)).1 11 9 = S.1 11 9 := uF_ne (fun h => absurd h.2 (by decide))
  have nr_13 : NRc N (uF S 11 13 ((S.1 11 13) + 1)) := hN.of (by omega) (fun j => (F_3 16 rfl).2.2.1 j) (fun j => (F_3 17 rfl).2.1 j) (fun j => (F_3 18 rfl).2.1 j)
  have kv_14 : KV (uF S 11 13 ((S.1 11 13) + 1)) k v T := hkv.fr F_2 (pE_n (by omega)) (pE_n (by omega)) (pE_n (by omega))
  refine sBi (sV (As := [.int (iv (dd + 1))]) (rest := []) (k := 11) Cx (hE (uF S 11 13 ((S.1 11 13) + 1)) N k v T (pz + 1) q1 n i_5 ⟨nr_13, hK, hTV, kv_14, (by omega), (by omega), (by omega), ⟨by omega, by omega⟩⟩ (by omega) (by omega) (by omega) hgx) (c_X9_166 Cx rfl rfl (rmk_ok (by omega) (by decide))) hW (by decide) rfl rfl rfl hl.1 rfl (Nat.le_of_ble_eq_true rfl) dX9_inner_14 ⟨Nat.le_of_ble_eq_true rfl, Nat.le_of_ble_eq_true rfl⟩) hL (fun r_17 u_15 H locs k_16 hW hL => ?_)
  obtain ⟨iu_15, fu_15, xu_15⟩ := k_16
  have yu_15 := xu_15.1
  have F_18 := F_2.trans (fu_15.to (pE_s (by omega) (by omega) (by omega)))
  have F_19 := F_4.trans fu_15
  refine r_if_ne (tgt := 22) hx hb ⟨(by omega), (by omega)⟩ dX9_inner_17 (by decide) (fun c_20 => ?_) (fun c_20 => ?_)
  · obtain ⟨V1, e1, w1, b1, l1, pp1, f1, n1⟩ := xu_15.2.1 (by omega)
    rw [← hqT] at w1
    refine lv_aload_n hx hb dX9_inner_22 rfl (lv_at hl 0 rfl) ?_
    refine g_X9_37 Cx hW (k := 11) (by decide) rfl (v := .ref (G.2.2.1 + 83)) (rf_11_6 iu_15) dX9_inner_23 ?_
    refine lv_iload_n hx hb dX9_inner_26 rfl (lv_at hl 1 rfl) ?_
    refine rAald Cx hW (k := 83) (by decide) rfl (by decide) (by omega) (by omega) (r2_83f iu_15 hqF (by omega) (by omega)) dX9_inner_27 ?_
    refine lv_aload_n hx hb dX9_inner_28 rfl (lv_at hl 0 rfl) ?_
    refine g_X9_31 Cx hW (k := 11) (by decide) rfl (v := .ref (G.2.2.1 + 19)) (rf_11_4 iu_15) dX9_inner_29 ?_
    refine lv_iload_n hx hb dX9_inner_32 rfl (lv_at hl 1 rfl) ?_
    refine lv_iconst (v := iv 1) hx hb dX9_inner_33 (by decide) ?_
    refine r_iadd hx hb dX9_inner_34 ?_
    refine rAald Cx hW (k := 19) (by decide) rfl (by decide) (by omega) (by omega) (r2_19f iu_15 hqT (by omega) (by omega)) dX9_inner_35 ?_
    refine lv_iconst (v := iv 1) hx hb dX9_inner_36 (by decide) ?_
    refine sBv (sSt (As := [.ref (G.2.2.1 + qF), .ref (G.2.2.1 + qT), .int (iv 1)]) (rest := []) Cx (e_X9_addTo l G u_15 (qa := qF) (qb := qT) (t := 1) iu_15 lqF lqT (by omega) (by omega) (vbd_0 (veq_tr (fun j a b => (F_19 qF (pE_n (by omega))).2.2.1 j) hz)) (b1.eq w1).bd) (c_X9_185 Cx rfl rfl (rmk_ok (by omega) (by decide))) hW rfl hl.1 rfl (Nat.le_of_ble_eq_true rfl) dX9_inner_37 ⟨Nat.le_of_ble_eq_true rfl, Nat.le_of_ble_eq_true rfl⟩) hL (fun u_21 H locs k_22 hW hL => ?_)
    obtain ⟨iu_21, fu_21, xu_21⟩ := k_22
    have F_23 := F_18.trans (fu_21.to (p1_sub (pE_y (by omega))))
    have F_24 := (Fr.rf : Fr u_15 u_15 pR3).trans (fu_21.to (p1_sub (lr_R lqF)))
    refine lv_aload_n hx hb dX9_inner_40 rfl (lv_at hl 0 rfl) ?_
    refine lv_dup hx hb dX9_inner_41 rfl ?_
    have q_25 : (-2147483648) ≤ u_15.1 11 13 ∧ u_15.1 11 13 ≤ 2147483647 := iu_15.fi 11 13 9 (by decide) rfl
    refine g_X9_89 Cx hW (k := 11) (by decide) rfl (v := u_15.1 11 13) ((fu_21 11 (p1_no (tau_ne (rfl : tau 11 = .inl 9) lqF.1 (fun h => by cases h)))).1 13) dX9_inner_42 ?_
    refine lv_iconst (v := iv 1) hx hb dX9_inner_45 (by decide) ?_
    refine r_iadd hx hb dX9_inner_46 ?_
    refine p_X9_89 Cx hW hL (k := 11) (by decide) rfl dX9_inner_47 (fun H locs hW hL => ?_)
    have F_26 : Fr S (uF u_21 11 13 ((u_15.1 11 13) + 1)) (pE (dn + 1) (dn + 1) dn) := F_23.F (pE_y (by omega))
    have F_27 : Fr u_15 (uF u_21 11 13 ((u_15.1 11 13) + 1)) pR3 := F_24.F rfl
    have i_28 : cX G (uF u_21 11 13 ((u_15.1 11 13) + 1)) 0 0 0 := iu_21.F rfl rfl (show (-2147483648) ≤ (u_15.1 11 13) + 1 ∧ (u_15.1 11 13) + 1 ≤ 2147483647 from ⟨by omega, by omega⟩)
    refine lv_iconst (v := iv 1) hx hb dX9_inner_50 (by decide) ?_
    have q_29 : (-2147483648) ≤ u_15.1 11 12 ∧ u_15.1 11 12 ≤ 2147483647 := iu_15.fi 11 12 9 (by decide) rfl
    have lk_30 : (uF u_21 11 13 ((u_15.1 11 13) + 1)).1 11 12 = u_15.1 11 12 := (uF_ne (fun h => absurd h.2 (by decide))).trans ((fu_21 11 (p1_no (tau_ne (rfl : tau 11 = .inl 9) lqF.1 (fun h => by cases h)))).1 12)
    have lk_31 : (uF u_21 11 13 ((u_15.1 11 13) + 1)).1 11 13 = (u_15.1 11 13) + 1 := uF_on
    have q_32 : 0 ≤ u_15.1 11 14 ∧ u_15.1 11 14 ≤ 7 := iu_15.fi 11 14 9 (by decide) rfl
    have lk_33 : (uF u_21 11 13 ((u_15.1 11 13) + 1)).1 11 14 = u_15.1 11 14 := (uF_ne (fun h => absurd h.2 (by decide))).trans ((fu_21 11 (p1_no (tau_ne (rfl : tau 11 = .inl 9) lqF.1 (fun h => by cases h)))).1 14)
    have q_34 : 0 ≤ u_15.1 11 9 ∧ u_15.1 11 9 ≤ 128 := iu_15.fi 11 9 9 (by decide) rfl
    have lk_35 : (uF u_21 11 13 ((u_15.1 11 13) + 1)).1 11 9 = u_15.1 11 9 := (uF_ne (fun h => absurd h.2 (by decide))).trans ((fu_21 11 (p1_no (tau_ne (rfl : tau 11 = .inl 9) lqF.1 (fun h => by cases h)))).1 9)
    have nr_36 : NRc N (uF u_21 11 13 ((u_15.1 11 13) + 1)) := n1.of (by omega) (fun j => (F_27 16 rfl).2.2.1 j) (fun j => (F_27 17 rfl).2.1 j) (fun j => (F_27 18 rfl).2.1 j)
    exact sZret Cx hr hlk hW hL (by omega) ⟨i_28, F_26, ⟨(by omega), (fun _ => ⟨V1, (by rw [e1]; show some _ = some _; rw [show (uF u_21 11 13 ((u_15.1 11 13) + 1)).1 11 12 = u_15.1 11 12 by omega]; rw [show q = q1 + 1 by omega]), (veq_tr (veq_tr xu_21 (veq_vad (veq_tr (fun j a b => (F_19 qF (pE_n (by omega))).2.2.1 j) hz) w1)) veq_0), b1, ⟨by omega, by omega⟩, (by omega), (by omega), nr_36⟩), (fun h => absurd h (by decide))⟩⟩ dX9_inner_51
  · refine lv_iconst (v := iv 0) hx hb dX9_inner_20 (by decide) ?_
    have q_37 : (-2147483648) ≤ u_15.1 11 12 ∧ u_15.1 11 12 ≤ 2147483647 := iu_15.fi 11 12 9 (by decide) rfl
    have q_38 : (-2147483648) ≤ u_15.1 11 13 ∧ u_15.1 11 13 ≤ 2147483647 := iu_15.fi 11 13 9 (by decide) rfl
    have q_39 : 0 ≤ u_15.1 11 14 ∧ u_15.1 11 14 ≤ 7 := iu_15.fi 11 14 9 (by decide) rfl
    have q_40 : 0 ≤ u_15.1 11 9 ∧ u_15.1 11 9 ≤ 128 := iu_15.fi 11 9 9 (by decide) rfl
    exact sZret Cx hr hlk hW hL (by omega) ⟨iu_15, F_18, ⟨(by omega), (fun h => absurd h (by omega)), (fun _ => (by rw [xu_15.2.2 (by omega)]; rfl))⟩⟩ dX9_inner_21
