/-! Tokens and grammar by the bytes alone -/
theorem enN_cong {st st' : Int → Prop} [DecidablePred st] [DecidablePred st'] (h : ∀ i, st i ↔ st' i) : ∀ (m : Nat) (p : Int), enN st m p = enN st' m p := by
  intro m
  induction m with
  | zero => intro p; rfl
  | succ m ih =>
    intro p
    show (if st p then enN st m (p + 1) else p) = (if st' p then enN st' m (p + 1) else p)
    by_cases c : st p
    · rw [if_pos c, if_pos ((h p).mp c), ih]
    · rw [if_neg c, if_neg (fun z => c ((h p).mpr z))]
theorem en_cong {n : Int} {st st' : Int → Prop} [DecidablePred st] [DecidablePred st'] (h : ∀ i, st i ↔ st' i) (p : Int) : en n st p = en n st' p := enN_cong h _ p
def agr (B b : Int → Int) (n : Int) : Prop := ∀ j, 0 ≤ j → j < n → B j = b j
theorem agr_cb {B b : Int → Int} {n : Int} (h : agr B b n) (i : Int) : cb B n i = cb b n i := by
  unfold cb
  by_cases c : 0 ≤ i ∧ i < n
  · rw [if_pos c, if_pos c]; exact h i c.1 c.2
  · rw [if_neg c, if_neg c]
theorem agr_pkn {B b : Int → Int} {n p : Int} (h : agr B b n) (hp : 0 ≤ p) : ∀ w : Nat, p + w ≤ n → pkn B p w = pkn b p w := by
  intro w
  induction w with
  | zero => intro _; rfl
  | succ w ih =>
    intro hw
    show pkn B p w * 256 + B (p + w) = pkn b p w * 256 + b (p + w)
    rw [ih (by omega), h (p + w) (by omega) (by omega)]
theorem agr_dvn {B b : Int → Int} {n p : Int} (h : agr B b n) (hp : 0 ≤ p) : ∀ w : Nat, p + w ≤ n → dvn B p w = dvn b p w := by
  intro w
  induction w with
  | zero => intro _; rfl
  | succ w ih =>
    intro hw
    show 10 * dvn B p w + B (p + w) - 48 = 10 * dvn b p w + b (p + w) - 48
    rw [ih (by omega), h (p + w) (by omega) (by omega)]
theorem agr_stB {B b : Int → Int} {n : Int} (h : agr B b n) (i : Int) : stB B n i ↔ stB b n i := by show (cb B n i = 32 ∨ cb B n i = 10) ↔ _; rw [agr_cb h]
theorem agr_stN {B b : Int → Int} {n : Int} (h : agr B b n) (i : Int) : stN B n i ↔ stN b n i := by show (isLt (cb B n i) ∨ isDg (cb B n i)) ↔ _; rw [agr_cb h]
theorem agr_stD {B b : Int → Int} {n : Int} (h : agr B b n) (i : Int) : stD B n i ↔ stD b n i := by show isDg (cb B n i) ↔ _; rw [agr_cb h]
theorem agr_e {B b : Int → Int} {n : Int} (h : agr B b n) (p : Int) : eOf B n p = eOf b n p := by
  unfold eOf; rw [agr_cb h, agr_cb h, en_cong (agr_stN h), en_cong (agr_stD h)]
theorem agr_k {B b : Int → Int} {n p : Int} (h : agr B b n) (hp : 0 ≤ p) (h1 : p ≤ n) : kOf B n p = kOf b n p := by
  unfold kOf; rw [agr_cb h, agr_cb h, en_cong (agr_stN h), en_cong (agr_stD h), agr_cb h]
  have r := en_r (n := n) (st := stN b n) p h1
  rw [agr_pkn h hp _ (by omega)]
theorem agr_v {B b : Int → Int} {n p : Int} (h : agr B b n) (hp : 0 ≤ p) (h1 : p ≤ n) : vOf B n p = vOf b n p := by
  unfold vOf; rw [agr_cb h, en_cong (agr_stN h), en_cong (agr_stD h)]
  have r := en_r (n := n) (st := stN b n) p h1
  have r2 := en_r (n := n) (st := stD b n) p h1
  rw [agr_pkn h hp _ (by omega), agr_dvn h hp _ (by omega)]
theorem psn_r {B : Int → Int} {n : Int} (hn : 0 ≤ n) : ∀ i : Nat, (∀ j : Nat, j < i → 2 ≤ kS B n (psn B n j)) → 0 ≤ psn B n i ∧ psn B n i ≤ n := by
  intro i
  induction i with
  | zero => intro _; have := en_r (n := n) (st := stB B n) 0 hn; exact ⟨this.1, this.2.1⟩
  | succ i ih =>
    intro h
    have a := ih (fun j hj => h j (by omega)); have b := h i (by omega)
    have c : psn B n i < n := by
      by_cases q : psn B n i < n
      · exact q
      · unfold kS at b; rw [if_neg q] at b; omega
    have d := eOf_gt (B := B) a.1 c
    have e := en_r (n := n) (st := stB B n) (eOf B n (psn B n i)) d.2
    exact ⟨by show 0 ≤ en n (stB B n) (eOf B n (psn B n i)); omega, e.2.1⟩
theorem agr_kS {B b : Int → Int} {n p : Int} (h : agr B b n) (hp : 0 ≤ p) (h1 : p ≤ n) : kS B n p = kS b n p := by
  unfold kS; rw [agr_k h hp h1]
theorem agr_ps {B b : Int → Int} {n : Int} (h : agr B b n) : ∀ i : Nat, psn B n i = psn b n i := by
  intro i
  induction i with
  | zero => exact en_cong (agr_stB h) 0
  | succ i ih =>
    show en n (stB B n) (eOf B n (psn B n i)) = en n (stB b n) (eOf b n (psn b n i))
    rw [en_cong (agr_stB h), agr_e h, ih]
/-- how many tokens there are -/
def TQ (b : Int → Int) (n T : Int) : Prop := 1 ≤ T ∧ (∀ j : Nat, (j : Int) < T - 1 → 2 ≤ kS b n (psn b n j)) ∧ kS b n (psn b n (T - 1).toNat) ≤ 1
theorem TQ.one {b : Int → Int} {n T T' : Int} (h : TQ b n T) (h' : TQ b n T') : T = T' := by
  have a := h.1; have a' := h'.1
  rcases Int.lt_trichotomy T T' with q | q | q
  · have := h'.2.1 (T - 1).toNat (by omega); have := h.2.2; omega
  · exact q
  · have := h.2.1 (T' - 1).toNat (by omega); have := h'.2.2; omega
theorem TQ.ps {b : Int → Int} {n T : Int} (h : TQ b n T) (hn : 0 ≤ n) (j : Nat) (hj : (j : Int) < T) : 0 ≤ psn b n j ∧ psn b n j ≤ n := psn_r hn j (fun i hi => h.2.1 i (by omega))
theorem TQ.cong {B b : Int → Int} {n T : Int} (h : TQ B n T) (hn : 0 ≤ n) (g : agr B b n) : TQ b n T := by
  have a := h.1
  refine ⟨h.1, fun j hj => ?_, ?_⟩
  · have r := h.ps hn j (by omega); rw [← agr_ps g, ← agr_kS g r.1 r.2]; exact h.2.1 j hj
  · have r := h.ps hn (T - 1).toNat (by omega); rw [← agr_ps g, ← agr_kS g r.1 r.2]; exact h.2.2
/-- the kinds, the values of the tokens -/
def kq (b : Int → Int) (n T j : Int) : Int := if 0 ≤ j ∧ j < T then kS b n (psn b n j.toNat) else 0
def vq (b : Int → Int) (n T j : Int) : Int := if 0 ≤ j ∧ j < T then vOf b n (psn b n j.toNat) else 0
theorem TKS.q {B b : Int → Int} {n T : Int} {k v f : Int → Int} (h : TKS B n T k v f) (hn : 0 ≤ n) (g : agr B b n) : TQ b n T ∧ ∀ j, 0 ≤ j → j < T → k j = kq b n T j ∧ (2 ≤ kq b n T j → v j = vq b n T j) := by
  have q : TQ B n T := ⟨h.1, h.2.1, h.2.2.1⟩
  refine ⟨q.cong hn g, fun j j0 j1 => ?_⟩
  have a := h.2.2.2 j.toNat (by omega)
  have r := q.ps hn j.toNat (by omega)
  rw [show ((j.toNat : Nat) : Int) = j by omega] at a
  unfold kq vq
  rw [if_pos ⟨j0, j1⟩, if_pos ⟨j0, j1⟩, ← agr_ps g, ← agr_kS g r.1 r.2, ← agr_v g r.1 r.2]
  exact a.2
theorem TRS.q {B b : Int → Int} {n : Int} {S : sS} (h : TRS B n S) (hn : 0 ≤ n) (g : agr B b n) : TQ b n (S.1 231 19) ∧ kr (S.2.1 244) (S.2.1 247) (S.1 231 19) = kq b n (S.1 231 19) := by
  have q : TQ B n (S.1 231 19) := ⟨h.1, h.2.1, h.2.2.1⟩
  refine ⟨q.cong hn g, funext fun j => ?_⟩
  unfold kr kq
  by_cases c : 0 ≤ j ∧ j < S.1 231 19
  · rw [if_pos c, if_pos c]
    have a := (h.2.2.2 j.toNat (by omega)).2.1
    have r := q.ps hn j.toNat (by omega)
    rw [show ((j.toNat : Nat) : Int) = j by omega] at a
    rw [a, agr_kS g r.1 r.2, agr_ps g]
  · rw [if_neg c, if_neg c]
