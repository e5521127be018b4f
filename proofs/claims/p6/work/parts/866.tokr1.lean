/-! The reference's tokens -/
theorem pkn_pos {B : Int → Int} {p : Int} : ∀ w : Nat, (∀ i : Nat, i < w → 1 ≤ B (p + i) ∧ B (p + i) ≤ 255) → 0 ≤ pkn B p w ∧ (0 < w → 1 ≤ pkn B p w) := by
  intro w
  induction w with
  | zero => intro _; exact ⟨Int.le_refl _, fun h => absurd h (by omega)⟩
  | succ w ih =>
    intro h
    have a := ih (fun i hi => h i (by omega)); have b := h w (by omega)
    have e : pkn B p (w + 1) = pkn B p w * 256 + B (p + w) := rfl
    rw [e]; exact ⟨by omega, fun _ => by omega⟩
theorem pkn_inj {B B' : Int → Int} {p p' : Int} : ∀ (w w' : Nat), (∀ i : Nat, i < w → 1 ≤ B (p + i) ∧ B (p + i) ≤ 255) → (∀ i : Nat, i < w' → 1 ≤ B' (p' + i) ∧ B' (p' + i) ≤ 255) → pkn B p w = pkn B' p' w' → w = w' ∧ ∀ i : Nat, i < w → B (p + i) = B' (p' + i) := by
  intro w
  induction w with
  | zero =>
    intro w' _ h' e
    cases w' with
    | zero => exact ⟨rfl, fun i hi => absurd hi (by omega)⟩
    | succ w' => have := (pkn_pos (w' + 1) h').2 (by omega); have e : (0 : Int) = pkn B' p' (w' + 1) := e; omega
  | succ w ih =>
    intro w' h h' e
    cases w' with
    | zero => have := (pkn_pos (w + 1) h).2 (by omega); have e : pkn B p (w + 1) = 0 := e; omega
    | succ w' =>
      have e : pkn B p w * 256 + B (p + w) = pkn B' p' w' * 256 + B' (p' + w') := e
      have b := h w (by omega); have b' := h' w' (by omega)
      obtain ⟨e1, e2⟩ := ih w' (fun i hi => h i (by omega)) (fun i hi => h' i (by omega)) (by omega)
      subst e1
      refine ⟨rfl, fun i hi => ?_⟩
      by_cases q : i = w
      · rw [q]; omega
      · exact e2 i (by omega)
/-- a word of a row of words stands at k -/
def MTc (si : Nat) (B : Int → Int) (a n k : Int) : Prop := sB si k = 32 ∧ k + n + 1 < ((strN.getD si 0 : Nat) : Int) ∧ sB si (k + n + 1) = 32 ∧ ∀ j, 0 ≤ j → j < n → sB si (k + 1 + j) = B (a + j)
def spN (si : Nat) : Nat → Int
  | 0 => -1
  | k + 1 => spN si k + (if sB si k = 32 then 1 else 0)
theorem spN_s {si : Nat} {k : Int} (h : 0 ≤ k) : spN si (k + 1).toNat = spN si k.toNat + (if sB si k = 32 then 1 else 0) := by
  rw [show (k + 1).toNat = k.toNat + 1 by omega]
  show spN si k.toNat + (if sB si (k.toNat : Int) = 32 then 1 else 0) = _
  rw [show ((k.toNat : Nat) : Int) = k by omega]
def AMp (si : Nat) (B : Int → Int) (a n r : Int) : Prop := (r = -1 ∧ ∀ k, 0 ≤ k → k + 1 < ((strN.getD si 0 : Nat) : Int) → ¬ MTc si B a n k) ∨ ∃ k, 0 ≤ k ∧ k + 1 < ((strN.getD si 0 : Nat) : Int) ∧ MTc si B a n k ∧ r = spN si (k + 1).toNat
def sgR (v c d : Int) : Prop := (two c d ∧ (1 ≤ v ∧ v ≤ 3) ∧ krk 4 v = sg2 c) ∨ (¬ two c d ∧ v = 0 ∧ sg1 c = 1) ∨ (¬ two c d ∧ 4 ≤ v ∧ krk 4 v = sg1 c)
theorem sg1_o {c : Int} (h : c < 40 ∨ 93 < c) : sg1 c = 1 := by
  unfold sg1; rw [if_neg (by omega), if_neg (by omega), if_neg (by omega), if_neg (by omega), if_neg (by omega), if_neg (by omega), if_neg (by omega), if_neg (by omega), if_neg (by omega), if_neg (by omega), if_neg (by omega)]
/-- one token more -/
def tkC (B : Int → Int) (n : Int) (S u : sS) (p w : Int) : Prop := ∃ k v, u.1 231 19 = S.1 231 19 + 1 ∧ tkR S u (S.1 231 19) k p w v ∧ krk k v = kOf B n p ∧ p + w = eOf B n p ∧ (kOf B n p = 3 → v = vOf B n p)
def tkD (B : Int → Int) (n : Int) (S : sS) (j : Nat) : Prop := S.2.1 245 j = psn B n j ∧ krk (S.2.1 244 j) (S.2.1 247 j) = kS B n (psn B n j) ∧ (kS B n (psn B n j) = 3 → S.2.1 247 j = vOf B n (psn B n j)) ∧ (kS B n (psn B n j) = 2 → S.2.1 246 j = eOf B n (psn B n j) - psn B n j)
def TRI (B : Int → Int) (n : Int) (S : sS) (i : Int) : Prop := en n (stB B n) i = psn B n (S.1 231 19).toNat ∧ ∀ j : Nat, (j : Int) < S.1 231 19 → tkD B n S j ∧ 2 ≤ kS B n (psn B n j)
def TRS (B : Int → Int) (n : Int) (S : sS) : Prop := 1 ≤ S.1 231 19 ∧ (∀ j : Nat, (j : Int) < S.1 231 19 - 1 → 2 ≤ kS B n (psn B n j)) ∧ kS B n (psn B n (S.1 231 19 - 1).toNat) ≤ 1 ∧ ∀ j : Nat, (j : Int) < S.1 231 19 → tkD B n S j
theorem TRI.blank {B : Int → Int} {n : Int} {S : sS} {i : Int} (h : TRI B n S i) (hb : stB B n i) : TRI B n S (i + 1) := ⟨(en_st stB_lt hb).symm.trans h.1, h.2⟩
theorem TRI.at {B : Int → Int} {n : Int} {S : sS} {i : Int} (h : TRI B n S i) (hb : ¬ stB B n i) : psn B n (S.1 231 19).toNat = i := by rw [← h.1, en_no hb]
theorem tkD.tok {B : Int → Int} {n : Int} {S u : sS} {k p w v : Int} {j : Nat} (h : tkD B n S j) (t : tkR S u (S.1 231 19) k p w v) (hj : (j : Int) < S.1 231 19) : tkD B n u j := by
  obtain ⟨t1, t2, t3, t4⟩ := t
  unfold tkD
  rw [t1, t2, t3, t4, if_neg (by omega), if_neg (by omega), if_neg (by omega), if_neg (by omega)]; exact h
theorem TRI.new {B : Int → Int} {n : Int} {S u : sS} {i w : Int} (h : TRI B n S i) (h3 : 0 ≤ S.1 231 19) (hb : ¬ stB B n i) (hi : i < n) (t : tkC B n S u i w) : u.1 231 19 = S.1 231 19 + 1 ∧ psn B n (S.1 231 19).toNat = i ∧ kS B n i = kOf B n i ∧ ∀ j : Nat, (j : Int) < u.1 231 19 → tkD B n u j := by
  obtain ⟨k, v, t0, t, hk, he, hv⟩ := t
  have e := h.at hb
  have e3 : kS B n i = kOf B n i := if_pos hi
  refine ⟨t0, e, e3, fun j hj => ?_⟩
  by_cases q : (j : Int) = S.1 231 19
  · have e2 : psn B n j = i := by rw [show j = (S.1 231 19).toNat by omega]; exact e
    unfold tkD
    obtain ⟨t1, t2, t3, t4⟩ := t
    rw [t1, t2, t3, t4, if_pos q, if_pos q, if_pos q, if_pos q, e2, e3]
    exact ⟨rfl, hk, hv, fun _ => by omega⟩
  · exact (h.2 j (by omega)).1.tok t (by omega)
theorem TRI.tok {B : Int → Int} {n : Int} {S u : sS} {i w : Int} (h : TRI B n S i) (h3 : 0 ≤ S.1 231 19) (hb : ¬ stB B n i) (hi : i < n) (t : tkC B n S u i w) (hk : 2 ≤ kOf B n i) : TRI B n u (i + w) := by
  obtain ⟨a, b, c, d⟩ := h.new h3 hb hi t
  have he : i + w = eOf B n i := by obtain ⟨k, v, t0, t, hk, he, hv⟩ := t; exact he
  refine ⟨?_, fun j hj => ⟨d j hj, ?_⟩⟩
  · rw [a, show (S.1 231 19 + 1).toNat = (S.1 231 19).toNat + 1 by omega]
    show _ = en n (stB B n) (eOf B n (psn B n (S.1 231 19).toNat)); rw [b, he]
  · by_cases q : (j : Int) = S.1 231 19
    · rw [show j = (S.1 231 19).toNat by omega, b, c]; exact hk
    · exact (h.2 j (by omega)).2
theorem TRI.bad {B : Int → Int} {n : Int} {S u : sS} {i w : Int} (h : TRI B n S i) (h3 : 0 ≤ S.1 231 19) (hb : ¬ stB B n i) (hi : i < n) (t : tkC B n S u i w) (hk : kOf B n i = 1) : TRS B n u := by
  obtain ⟨a, b, c, d⟩ := h.new h3 hb hi t
  refine ⟨by omega, fun j hj => (h.2 j (by omega)).2, ?_, d⟩
  rw [a, show (S.1 231 19 + 1 - 1).toNat = (S.1 231 19).toNat by omega, b, c, hk]; omega
theorem TRI.fin {B : Int → Int} {n : Int} {S u : sS} {i : Int} (h : TRI B n S i) (h3 : 0 ≤ S.1 231 19) (hi : i = n) (t0 : u.1 231 19 = S.1 231 19 + 1) (t : tkR S u (S.1 231 19) 5 n 0 0) : TRS B n u := by
  have hb : ¬ stB B n i := fun z => by have := stB_lt z; omega
  have e := h.at hb
  have e3 : kS B n i = 0 := if_neg (by omega)
  refine ⟨by omega, fun j hj => (h.2 j (by omega)).2, ?_, fun j hj => ?_⟩
  · rw [t0, show (S.1 231 19 + 1 - 1).toNat = (S.1 231 19).toNat by omega, e, e3]; omega
  · by_cases q : (j : Int) = S.1 231 19
    · have e2 : psn B n j = i := by rw [show j = (S.1 231 19).toNat by omega]; exact e
      unfold tkD
      obtain ⟨t1, t2, t3, t4⟩ := t
      rw [t1, t2, t3, t4, if_pos q, if_pos q, if_pos q, if_pos q, e2, e3]
      exact ⟨hi.symm, rfl, fun z => absurd z (by decide), fun z => absurd z (by decide)⟩
    · exact (h.2 j (by omega)).1.tok t (by omega)
theorem TRS.end {B : Int → Int} {n : Int} {S u : sS} (h : TRS B n S) (e19 : u.1 231 19 = S.1 231 19) (a244 : ∀ x, x < S.1 231 19 → u.2.1 244 x = S.2.1 244 x) (a245 : u.2.1 245 = S.2.1 245) (a246 : u.2.1 246 = S.2.1 246) (a247 : u.2.1 247 = S.2.1 247) : TRS B n u := by
  unfold TRS tkD at *
  rw [e19, a245, a246, a247]
  exact ⟨h.1, h.2.1, h.2.2.1, fun j hj => by rw [a244 _ hj]; exact h.2.2.2 j hj⟩
