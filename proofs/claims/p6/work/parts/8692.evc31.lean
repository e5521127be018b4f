/-! The teller's F, T and E, exactly: what a memory must hold, what comes out -/
def pEx (a b c : Nat) (k : Nat) : Bool := decide (k = 11 ∨ k = 16 ∨ k = 17 ∨ (20 + a ≤ k ∧ k ≤ 50) ∨ (52 + b ≤ k ∧ k ≤ 82) ∨ (84 + c ≤ k ∧ k ≤ 114))
theorem pEx_y {a b c k : Nat} (h : k = 11 ∨ k = 16 ∨ k = 17 ∨ (20 + a ≤ k ∧ k ≤ 50) ∨ (52 + b ≤ k ∧ k ≤ 82) ∨ (84 + c ≤ k ∧ k ≤ 114)) : pEx a b c k = true := decide_eq_true h
theorem pEx_n {a b c k : Nat} (h : ¬ (k = 11 ∨ k = 16 ∨ k = 17 ∨ (20 + a ≤ k ∧ k ≤ 50) ∨ (52 + b ≤ k ∧ k ≤ 82) ∨ (84 + c ≤ k ∧ k ≤ 114))) : pEx a b c k = false := decide_eq_false h
theorem pEx_s {a b c a' b' c' : Nat} (h1 : a' ≤ a) (h2 : b' ≤ b) (h3 : c' ≤ c) : ∀ k, pEx a b c k = true → pEx a' b' c' k = true := fun k h => by
  have := of_decide_eq_true h; exact pEx_y (by omega)
theorem pEx_V {a b c : Nat} : ∀ k, pEx a b c k = true → pV k = true := fun k h => by
  have := of_decide_eq_true h
  by_cases e : k = 11
  · rw [e]; rfl
  · rw [pV, rgB_i ⟨by omega, by omega⟩, Bool.or_true]
theorem pT_Ex {a b c : Nat} : ∀ k, pT k = true → pEx a b c k = true := fun k h => by
  rw [pT, Bool.or_eq_true] at h
  rcases h with h | h
  · rw [Nat.eq_of_beq_eq_true h]; exact pEx_y (.inl rfl)
  · have := rgB_t h; exact pEx_y (by omega)
/-- 11 and the rows of thirteen -/
def pR3 (k : Nat) : Bool := decide (k = 11 ∨ (20 ≤ k ∧ k ≤ 115))
theorem pR3_y {k : Nat} (h : k = 11 ∨ (20 ≤ k ∧ k ≤ 115)) : pR3 k = true := decide_eq_true h
theorem r2_83f {G : sG} {S : sS} {x y q dn : Nat} {b i : Int} (h : cX G S x y b) (hq : q = 84 + dn) (hi : i = (dn : Int)) (h1 : dn < 31) : S.2.2.2 83 i.toNat = .ref (G.2.2.1 + q) := by
  rw [show i.toNat = dn by omega, hq]; exact (h.r2 dn h1).2.2
theorem r2_51f {G : sG} {S : sS} {x y q dn : Nat} {b i : Int} (h : cX G S x y b) (hq : q = 52 + dn) (hi : i = (dn : Int)) (h1 : dn < 31) : S.2.2.2 51 i.toNat = .ref (G.2.2.1 + q) := by
  rw [show i.toNat = dn by omega, hq]; exact (h.r2 dn h1).2.1
theorem r2_19f {G : sG} {S : sS} {x y q dn : Nat} {b i : Int} (h : cX G S x y b) (hq : q = 20 + dn) (hi : i = (dn : Int)) (h1 : dn < 31) : S.2.2.2 19 i.toNat = .ref (G.2.2.1 + q) := by
  rw [show i.toNat = dn by omega, hq]; exact (h.r2 dn h1).1
theorem lr_83 {q dn : Nat} (hq : q = 84 + dn) (h1 : dn < 31) : lr q := by rw [hq]; exact ⟨(lr20 _ h1).2.2, by omega, by omega⟩
theorem lr_51 {q dn : Nat} (hq : q = 52 + dn) (h1 : dn < 31) : lr q := by rw [hq]; exact ⟨(lr20 _ h1).2.1, by omega, by omega⟩
theorem lr_19 {q dn : Nat} (hq : q = 20 + dn) (h1 : dn < 31) : lr q := by rw [hq]; exact ⟨(lr20 _ h1).1, by omega, by omega⟩
theorem lr_R {q : Nat} (h : lr q) : pR3 q = true := pR3_y (.inr ⟨h.2.1, h.2.2⟩)
/-- kinds, values and how many tokens -/
def KV (S : sS) (k v : Int → Int) (T : Int) : Prop := kd S = k ∧ vd S = v ∧ S.1 12 3 = T
theorem KV.fr {S u : sS} {P : pS} {k v : Int → Int} {T : Int} (h : KV S k v T) (f : Fr S u P) (h1 : P 12 = false) (h2 : P 13 = false) (h3 : P 15 = false) : KV u k v T := by
  have e : u.1 12 3 = S.1 12 3 := (f 12 h1).1 3
  refine ⟨?_, ?_, e.trans h.2.2⟩
  · rw [← h.1]; funext t; unfold kd; rw [e, (f 13 h2).2.1 t]
  · rw [← h.2.1]; funext t; unfold vd; rw [e, (f 15 h3).2.2.1 t]
theorem KV.e {S u : sS} {a b c : Nat} {k v : Int → Int} {T : Int} (h : KV S k v T) (f : Fr S u (pEx a b c)) : KV u k v T := h.fr f (pEx_n (by omega)) (pEx_n (by omega)) (pEx_n (by omega))
theorem KV.z {S : sS} {k v : Int → Int} {T : Int} (h : KV S k v T) : ∀ t, T ≤ t → k t = 0 := fun t q => by rw [← h.1]; exact kd_out t (by rw [h.2.2]; exact q)
theorem KV.lt {S : sS} {k v : Int → Int} {T t c : Int} (h : KV S k v T) (e : k t = c) (hc : c ≠ 0) : t < T := by
  by_cases q : t < T
  · exact q
  · exact absurd (e.symm.trans (h.z t (by omega))) hc
theorem ogF_k {T : Int} {k : Int → Int} {n : Nat} {p q : Int} (h : ogF T k n p = some q) : k p ≠ 0 := by
  intro e
  cases n with
  | zero => cases h
  | succ n =>
    have h : (if k p = 3 then some (p + 1) else if k p = 22 then ogF T k n (p + 1) else if k p = 19 then (ogU T k (ogF T k n) (p + 1)).bind (ogT k 20) else if k p = 11 then (ogT k 2 (p + 1)).bind (fun a => (ogT k 12 a).bind (fun b => (ogT k 2 b).bind (fun c => (ogT k 19 c).bind (fun d => (ogU T k (ogF T k n) d).bind (ogT k 20))))) else if k p = 2 then (if k (p + 1) = 17 then ogXs k (p + 1 + 1) else some (p + 1)) else none) = some q := h
    rw [e, if_neg (by decide), if_neg (by decide), if_neg (by decide), if_neg (by decide), if_neg (by decide)] at h; cases h
theorem ogX_k {k : Int → Int} {p q : Int} (h : ogX k p = some q) : k p ≠ 0 := by
  rcases ogX_i h with a | a <;> omega
theorem ogXs_i {k : Int → Int} {p q : Int} (h : ogXs k p = some q) : ∃ a, ogX k p = some a ∧ ((k a = 16 ∧ ∃ b, ogX k (a + 1) = some b ∧ k b = 18 ∧ q = b + 1) ∨ (k a ≠ 16 ∧ k a = 18 ∧ q = a + 1)) := by
  obtain ⟨a, h1, h2⟩ := ogB h
  refine ⟨a, h1, ?_⟩
  by_cases c : k a = 16
  · rw [if_pos c] at h2; obtain ⟨b, h3, h4⟩ := ogB h2; have := ogT_lt h4; exact .inl ⟨c, b, h3, this.2, this.1⟩
  · rw [if_neg c] at h2; have := ogT_lt h2; exact .inr ⟨c, this.2, this.1⟩
theorem eI_bd {k v : Int → Int} {N : sN} {p a q : Int} (hK : NK N) (h0 : 0 ≤ N.1) (hTV : TVn k v) (hx : ogX k p = some q) (h : eI k v N p = some (a, q)) : -99999 ≤ a ∧ a ≤ 199998 := by
  unfold eI at h
  by_cases c : k p = 3
  · rw [if_pos c] at h; have := hTV p c; cases h; omega
  · rw [if_neg c] at h
    rcases ogX_i hx with g | g
    · exact absurd g.1 c
    · by_cases d : 0 ≤ eFind N (v p) ∧ N.2.2.1 (eFind N (v p)) 0 = 2
      · rw [if_pos d] at h
        have hf : eFind N (v p) < N.1 := by
          rcases eFind_r (x := v p) h0 with z | z
          · exact absurd d.1 (by omega)
          · exact z.2.1
        have hb := (hK.2 _ d.1 hf).1 d.2
        by_cases e1 : k (p + 1) = 21
        · rw [if_pos e1] at h
          rcases g.2 with g | g
          · have := hTV _ g.2.1
            have e := congrArg Prod.fst (Option.some.inj h); have e : N.2.2.1 (eFind N (v p)) 1 + v (p + 1 + 1) = a := e; omega
          · exact absurd (.inl e1) g.1
        · rw [if_neg e1] at h
          by_cases e2 : k (p + 1) = 22
          · rw [if_pos e2] at h
            rcases g.2 with g | g
            · have := hTV _ g.2.1
              have e := congrArg Prod.fst (Option.some.inj h); have e : N.2.2.1 (eFind N (v p)) 1 - v (p + 1 + 1) = a := e; omega
            · exact absurd (.inr e2) g.1
          · rw [if_neg e2] at h
            have e := congrArg Prod.fst (Option.some.inj h); have e : N.2.2.1 (eFind N (v p)) 1 = a := e; omega
      · rw [if_neg d] at h; cases h
/-! eN, by its cases -/
theorem eN_0 {k v : Int → Int} {N : sN} {lk p s : Int} (e : eFind N (v p) = s) (hs : 0 ≤ s) (h : N.2.2.1 s 0 = 2) (hk : k (p + 1) ≠ 17) : eN k v N lk p = some (p + 1, cst (N.2.2.1 s 1), lk) := by
  unfold eN; rw [e, if_pos ⟨hs, h⟩, if_neg hk]
theorem eN_1 {k v : Int → Int} {N : sN} {lk p s : Int} (e : eFind N (v p) = s) (hs : 0 ≤ s) (h : N.2.2.1 s 0 = 7 ∨ N.2.2.1 s 0 = 8) (hk : k (p + 1) ≠ 17) : eN k v N lk p = if N.2.2.1 s 3 < 0 then some (p + 1, eV N s 0, lk) else none := by
  unfold eN; rw [e, if_neg (by omega), if_pos ⟨hs, h⟩, if_neg hk]
theorem eN_2 {k v : Int → Int} {N : sN} {lk p s : Int} (e : eFind N (v p) = s) (hs : 0 ≤ s) (h : N.2.2.1 s 0 = 7 ∨ N.2.2.1 s 0 = 8) (hk : k (p + 1) = 17) (ha : eI k v N (p + 1 + 1) = none) : eN k v N lk p = none := by
  unfold eN; rw [e, if_neg (by omega), if_pos ⟨hs, h⟩, if_pos hk, ha]; rfl
theorem eN_3 {k v : Int → Int} {N : sN} {lk p s a qa : Int} (e : eFind N (v p) = s) (hs : 0 ≤ s) (h : N.2.2.1 s 0 = 7 ∨ N.2.2.1 s 0 = 8) (hk : k (p + 1) = 17) (ha : eI k v N (p + 1 + 1) = some (a, qa)) (hq : k qa ≠ 16) : eN k v N lk p = if 0 ≤ N.2.2.1 s 3 ∧ N.2.2.1 s 4 < 0 ∧ inS N (N.2.2.1 s 3) a then some (qa + 1, eV N s (a - N.2.2.1 (N.2.2.1 s 3) 1), lk) else none := by
  unfold eN; rw [e, if_neg (by omega), if_pos ⟨hs, h⟩, if_pos hk, ha, Option.bind_some, if_neg hq]
theorem eN_4 {k v : Int → Int} {N : sN} {lk p s a qa : Int} (e : eFind N (v p) = s) (hs : 0 ≤ s) (h : N.2.2.1 s 0 = 7 ∨ N.2.2.1 s 0 = 8) (hk : k (p + 1) = 17) (ha : eI k v N (p + 1 + 1) = some (a, qa)) (hq : k qa = 16) (hb : eI k v N (qa + 1) = none) : eN k v N lk p = none := by
  unfold eN; rw [e, if_neg (by omega), if_pos ⟨hs, h⟩, if_pos hk, ha, Option.bind_some, if_pos hq]; show (eI k v N (qa + 1)).bind _ = none; rw [hb]; rfl
theorem eN_5 {k v : Int → Int} {N : sN} {lk p s a qa b qb : Int} (e : eFind N (v p) = s) (hs : 0 ≤ s) (h : N.2.2.1 s 0 = 7 ∨ N.2.2.1 s 0 = 8) (hk : k (p + 1) = 17) (ha : eI k v N (p + 1 + 1) = some (a, qa)) (hq : k qa = 16) (hb : eI k v N (qa + 1) = some (b, qb)) : eN k v N lk p = if 0 ≤ N.2.2.1 s 3 ∧ 0 ≤ N.2.2.1 s 4 ∧ inS N (N.2.2.1 s 3) a ∧ inS N (N.2.2.1 s 4) b then some (qb + 1, eV N s ((a - N.2.2.1 (N.2.2.1 s 3) 1) * siz N (N.2.2.1 s 4) + (b - N.2.2.1 (N.2.2.1 s 4) 1)), lk) else none := by
  unfold eN; rw [e, if_neg (by omega), if_pos ⟨hs, h⟩, if_pos hk, ha, Option.bind_some, if_pos hq]; show (eI k v N (qa + 1)).bind _ = _; rw [hb]; rfl
/-- what the rows of an F may hold -/
def vb9 (f : Int → Int) : Prop := ∀ j, 0 ≤ j → j < 13 → -99999 ≤ f j ∧ f j ≤ 99999
theorem vb9.bd {f : Int → Int} (h : vb9 f) : vbd f := fun j a b => by have := h j a b; omega
theorem vb9.eq {f g : Int → Int} (h : vb9 f) (e : veq g f) : vb9 g := fun j a b => by rw [e j a b]; exact h j a b
theorem vb9_cst {c : Int} (h : -99999 ≤ c ∧ c ≤ 99999) : vb9 (cst c) := fun j _ _ => by unfold cst; split <;> omega
theorem vb9_unt {i : Int} : vb9 (unt i) := fun j _ _ => by unfold unt; split <;> omega
theorem vb9_n {f : Int → Int} (h : ¬ grt f) : vb9 f := fun j a b => ngrt h j a b
theorem vb9_neg {f : Int → Int} (h : vb9 f) : vb9 (vad (cst 0) f (-1)) := fun j a b => by have := h j a b; unfold vad cst; split <;> omega
theorem vb9_eV {N : sN} {s o : Int} (hK : NK N) (h0 : 0 ≤ s) (h1 : s < N.1) (hs : N.2.2.1 s 0 = 7 ∨ N.2.2.1 s 0 = 8) (o0 : 0 ≤ o) (o1 : o < siz N (N.2.2.1 s 3) * siz N (N.2.2.1 s 4)) : vb9 (eV N s o) := by
  unfold eV
  by_cases c : N.2.2.1 s 0 = 7
  · rw [if_pos c]; exact vb9_cst ((hK.2 s h0 h1).2.2.2.2.1 c o o0 o1)
  · rw [if_neg c]; exact vb9_unt
/-- what an F, T or E leaves: r, its numbers, where it ends -/
def EO (S u : sS) (N : sN) (q r : Int) (X : Option sR) (row : Nat) : Prop := (Hd (RK S u ∧ (r = 0 → u.1 11 14 ≠ 0)) ∧ 0 ≤ r ∧ r ≤ 1 ∧ u.1 11 10 = S.1 11 10 ∧ u.1 11 11 = S.1 11 11) ∧ Hd (r = 1 → ∃ V, X = some (q, V, u.1 11 12) ∧ veq (u.2.2.1 row) V ∧ vb9 V ∧ (0 ≤ u.1 11 12 ∧ u.1 11 12 ≤ 20000) ∧ u.1 11 13 = q ∧ u.1 11 14 = 0 ∧ NRc N u) ∧ Hd (r = 0 → X = none)
def EH (S : sS) (N : sN) (k v : Int → Int) (T pz : Int) : Prop := NRc N S ∧ NK N ∧ TVn k v ∧ KV S k v T ∧ S.1 11 14 = 0 ∧ S.1 11 13 = pz ∧ 0 ≤ pz ∧ (0 ≤ S.1 11 12 ∧ S.1 11 12 ≤ 20000)
def FX (l : Launch) (G : sG) (D : Nat) (dd : Int) (dn : Nat) : Prop := ∀ (S : sS) (N : sN) (k v : Int → Int) (T pz q : Int) (n : Nat), cX G S 0 0 0 → EH S N k v T pz → (n : Int) = 30 - dd → N.1 + n ≤ 128 → q ≤ 2001 → ogF T k n pz = some q → Met l yX9_factor (.code yX9_factor cX9_factor 4 (some .boolean) :: tb) (rmk D 0 0) (sPc G 294 S [.ref (G.2.2.1 + 11), .int (iv dd)]) (sQi G 294 (fun r u => cX G u 0 0 0 ∧ Fr S u (pEx (dn + 1) (dn + 1) dn) ∧ (EO S u N q r (eF T k v n N (S.1 11 12) pz) (84 + dn)))) 0 0 (sF G)
def TX (l : Launch) (G : sG) (D : Nat) (dd : Int) (dn : Nat) : Prop := ∀ (S : sS) (N : sN) (k v : Int → Int) (T pz q : Int) (n : Nat), cX G S 0 0 0 → EH S N k v T pz → (n : Int) = 30 - dd → N.1 + n ≤ 128 → q ≤ 2001 → ogP T k (ogF T k n) pz = some q → Met l yX9_term (.code yX9_term cX9_term 5 (some .boolean) :: tb) (rmk D 0 0) (sPc G 294 S [.ref (G.2.2.1 + 11), .int (iv dd)]) (sQi G 294 (fun r u => cX G u 0 0 0 ∧ Fr S u (pEx (dn + 1) dn dn) ∧ (EO S u N q r (eP T k (eF T k v n N) (S.1 11 12) pz) (52 + dn)))) 0 0 (sF G)
def EX (l : Launch) (G : sG) (D : Nat) (dd : Int) (dn : Nat) : Prop := ∀ (S : sS) (N : sN) (k v : Int → Int) (T pz q : Int) (n : Nat), cX G S 0 0 0 → EH S N k v T pz → (n : Int) = 30 - dd → N.1 + n ≤ 128 → q ≤ 2001 → ogU T k (ogF T k n) pz = some q → Met l yX9_expression (.code yX9_expression cX9_expression 6 (some .boolean) :: tb) (rmk D 0 0) (sPc G 294 S [.ref (G.2.2.1 + 11), .int (iv dd)]) (sQi G 294 (fun r u => cX G u 0 0 0 ∧ Fr S u (pEx dn dn dn) ∧ (EO S u N q r (eU T k (eF T k v n N) (S.1 11 12) pz) (20 + dn)))) 0 0 (sF G)
theorem veq_u0 {S : sS} {q : Nat} {c : Int} (h : veq (S.2.2.1 q) (cst 0)) : veq ((uL S q 0 c).2.2.1 q) (cst c) := fun j a b => by
  by_cases z : j = 0
  · rw [z, uL_on]; rfl
  · rw [uL_ne (fun h => z h.2), h j a b]; unfold cst; rw [if_neg z, if_neg z]
theorem veq_vad {f f' g g' : Int → Int} {t : Int} (h : veq f f') (h' : veq g g') : veq (vad f g t) (vad f' g' t) := fun j a b => by unfold vad; rw [h j a b, h' j a b]
theorem veq_tr {f g h : Int → Int} (a : veq f g) (b : veq g h) : veq f h := fun j x y => (a j x y).trans (b j x y)
theorem veq_0 {g : Int → Int} : veq (vad (cst 0) g 1) g := fun j a b => by unfold vad cst; split <;> omega
theorem vbd_0 {f : Int → Int} (h : veq f (cst 0)) : vbd f := fun j a b => by rw [h j a b]; unfold cst; split <;> omega
/-- an item of INDEXES: offset and range so far -/
def JN (N : sN) (s a o0 i0 o i : Int) : Prop := (s < 0 → o = o0 ∧ i = i0) ∧ (0 ≤ s → o = o0 * siz N s + a - N.2.2.1 s 1 ∧ (0 ≤ i ∧ i ≤ 1) ∧ (i = 1 → i0 = 1 ∧ inS N s a) ∧ (i = 0 → ¬ (i0 = 1 ∧ inS N s a)))
theorem NRc.v5 {N : sN} {S : sS} {s o : Int} (h : NRc N S) (hK : NK N) (s0 : 0 ≤ s) (s1 : s < N.1) (hs : N.2.2.1 s 0 = 7 ∨ N.2.2.1 s 0 = 8) (ho : 0 ≤ o ∧ o < siz N (N.2.2.1 s 3) * siz N (N.2.2.1 s 4)) : 0 ≤ fc S s 5 + o ∧ fc S s 5 + o ≤ 1728 := by
  have a := h.2.2 s s0 s1
  rcases hs with e | e
  · have := a.2.2.2.2.2 e o ho.1 ho.2; omega
  · have b := a.2.2.2.2.1 (.inr e); have c := (hK.2 s s0 s1).2.2.2.2.2 e; omega
theorem ho_0 {N : sN} {s : Int} (h3 : N.2.2.1 s 3 < 0) (h4 : N.2.2.1 s 4 < 0) : 0 ≤ (0 : Int) ∧ (0 : Int) < siz N (N.2.2.1 s 3) * siz N (N.2.2.1 s 4) := by
  unfold siz; rw [if_pos h3, if_pos h4]; decide
theorem ho_1 {N : sN} {s a o : Int} (h3 : 0 ≤ N.2.2.1 s 3) (h4 : N.2.2.1 s 4 < 0) (hin : inS N (N.2.2.1 s 3) a) (ho : o = a - N.2.2.1 (N.2.2.1 s 3) 1) : 0 ≤ o ∧ o < siz N (N.2.2.1 s 3) * siz N (N.2.2.1 s 4) := by
  have e : siz N (N.2.2.1 s 4) = 1 := if_pos h4
  have e3 : siz N (N.2.2.1 s 3) = N.2.2.1 (N.2.2.1 s 3) 2 - N.2.2.1 (N.2.2.1 s 3) 1 + 1 := if_neg (by omega)
  rw [e, e3, Int.mul_one]; have := hin.1; have := hin.2; omega
theorem ho_2 {N : sN} {s a b o : Int} (h3 : 0 ≤ N.2.2.1 s 3) (h4 : 0 ≤ N.2.2.1 s 4) (ha : inS N (N.2.2.1 s 3) a) (hb : inS N (N.2.2.1 s 4) b) (ho : o = (a - N.2.2.1 (N.2.2.1 s 3) 1) * siz N (N.2.2.1 s 4) + (b - N.2.2.1 (N.2.2.1 s 4) 1)) : 0 ≤ o ∧ o < siz N (N.2.2.1 s 3) * siz N (N.2.2.1 s 4) := by
  have e4 : siz N (N.2.2.1 s 4) = N.2.2.1 (N.2.2.1 s 4) 2 - N.2.2.1 (N.2.2.1 s 4) 1 + 1 := if_neg (by omega)
  have e3 : siz N (N.2.2.1 s 3) = N.2.2.1 (N.2.2.1 s 3) 2 - N.2.2.1 (N.2.2.1 s 3) 1 + 1 := if_neg (by omega)
  rw [ho]; have := ha.1; have := ha.2; have := hb.1; have := hb.2
  exact off_lt ⟨by omega, by rw [e3]; omega⟩ ⟨by omega, by rw [e4]; omega⟩
