/-! Determinants: a function of n vectors, linear in each, 0 where two are the same -/
def sm : Nat → (Nat → Int) → Int
  | 0, _ => 0
  | n + 1, f => sm n f + f n
theorem sm_cg {f g : Nat → Int} : ∀ {n : Nat}, (∀ k, k < n → f k = g k) → sm n f = sm n g
  | 0, _ => rfl
  | n + 1, h => by show sm n f + f n = sm n g + g n; rw [sm_cg (n := n) (fun k hk => h k (by omega)), h n (by omega)]
theorem sm_z {f : Nat → Int} : ∀ {n : Nat}, (∀ k, k < n → f k = 0) → sm n f = 0
  | 0, _ => rfl
  | n + 1, h => by show sm n f + f n = 0; rw [sm_z (n := n) (fun k hk => h k (by omega)), h n (by omega)]; rfl
theorem sm_lin {f g : Nat → Int} {x : Int} : ∀ {n : Nat}, sm n (fun k => x * f k + g k) = x * sm n f + sm n g
  | 0 => by show (0 : Int) = x * 0 + 0; omega
  | n + 1 => by
    show sm n (fun k => x * f k + g k) + (x * f n + g n) = x * (sm n f + f n) + (sm n g + g n)
    rw [sm_lin (n := n), Int.mul_add]; omega
theorem sm_1 {f : Nat → Int} {a : Nat} : ∀ {n : Nat}, a < n → (∀ k, k < n → k ≠ a → f k = 0) → sm n f = f a
  | 0, h, _ => absurd h (by omega)
  | n + 1, h, hz => by
    show sm n f + f n = f a
    by_cases q : a = n
    · rw [sm_z (n := n) (fun k hk => hz k (by omega) (by omega)), q]; omega
    · rw [sm_1 (n := n) (by omega) (fun k hk ne => hz k (by omega) ne), hz n (by omega) (by omega)]; omega
theorem sm_2 {f : Nat → Int} {a : Nat} : ∀ {n : Nat}, a + 1 < n → (∀ k, k < n → k ≠ a → k ≠ a + 1 → f k = 0) → sm n f = f a + f (a + 1)
  | 0, h, _ => absurd h (by omega)
  | n + 1, h, hz => by
    show sm n f + f n = _
    by_cases q : a + 1 = n
    · rw [sm_1 (n := n) (a := a) (by omega) (fun k hk ne => hz k (by omega) ne (by omega)), q]
    · rw [sm_2 (n := n) (by omega) (fun k hk n1 n2 => hz k (by omega) n1 n2), hz n (by omega) (by omega) (by omega)]; omega
def sn (k : Nat) : Int := if k % 2 = 0 then 1 else -1
theorem sn_s (k : Nat) : sn (k + 1) = -sn k := by
  unfold sn
  by_cases h : k % 2 = 0
  · rw [if_pos h, if_neg (by omega)]
  · rw [if_neg h, if_pos (by omega)]; rfl
def sk (k a : Nat) : Nat := if a < k then a else a + 1
def dt : Nat → (Nat → Nat → Int) → Int
  | 0, _ => 1
  | n + 1, M => sm (n + 1) (fun k => sn k * M k n * dt n (fun a => M (sk k a)))
def up (M : Nat → Nat → Int) (r : Nat) (v : Nat → Int) : Nat → Nat → Int := fun a => if a = r then v else M a
theorem up_on {M : Nat → Nat → Int} {r : Nat} {v : Nat → Int} : up M r v r = v := if_pos rfl
theorem up_ne {M : Nat → Nat → Int} {r a : Nat} {v : Nat → Int} (h : a ≠ r) : up M r v a = M a := if_neg h
theorem up_self {M : Nat → Nat → Int} {r : Nat} : up M r (M r) = M := funext fun a => by
  by_cases h : a = r
  · rw [h, up_on]
  · exact up_ne h
theorem up_up {M : Nat → Nat → Int} {r : Nat} {v w : Nat → Int} : up (up M r v) r w = up M r w := funext fun a => by
  by_cases h : a = r
  · rw [h, up_on, up_on]
  · rw [up_ne h, up_ne h, up_ne h]
theorem up_cm {M : Nat → Nat → Int} {r s : Nat} {v w : Nat → Int} (h : r ≠ s) : up (up M r v) s w = up (up M s w) r v := funext fun a => by
  by_cases h1 : a = s
  · rw [h1, up_on, up_ne (fun q => h q.symm), up_on]
  · rw [up_ne h1]
    by_cases h2 : a = r
    · rw [h2, up_on, up_on]
    · rw [up_ne h2, up_ne h2, up_ne h1]
theorem sk_ne (k a : Nat) : sk k a ≠ k := by unfold sk; split <;> omega
/-- a vector's place once another is left out -/
theorem up_sk {M : Nat → Nat → Int} {r k : Nat} {v : Nat → Int} (h : r ≠ k) : (fun a => up M r v (sk k a)) = up (fun a => M (sk k a)) (if r < k then r else r - 1) v := funext fun a => by
  by_cases q : sk k a = r
  · have e : a = (if r < k then r else r - 1) := by unfold sk at q; split at q <;> split <;> omega
    rw [q, up_on, e, up_on]
  · have e : a ≠ (if r < k then r else r - 1) := by unfold sk at q; split at q <;> split <;> omega
    rw [up_ne q, up_ne e]
theorem up_sr {M : Nat → Nat → Int} {r : Nat} {v : Nat → Int} : (fun a => up M r v (sk r a)) = fun a => M (sk r a) := funext fun a => up_ne (sk_ne r a)
theorem dt_lin : ∀ {n : Nat} {M : Nat → Nat → Int} {r : Nat} {x : Int} {v w : Nat → Int}, r < n → dt n (up M r (fun i => x * v i + w i)) = x * dt n (up M r v) + dt n (up M r w)
  | 0, _, _, _, _, _, h => absurd h (by omega)
  | n + 1, M, r, x, v, w, h => by
    unfold dt
    rw [← sm_lin]
    refine sm_cg (fun k hk => ?_)
    by_cases q : k = r
    · subst q
      rw [up_on, up_on, up_on, up_sr, up_sr, up_sr]; grind
    · rw [up_ne q, up_ne q, up_ne q, up_sk (fun z => q z.symm), up_sk (fun z => q z.symm), up_sk (fun z => q z.symm), dt_lin (by split <;> omega)]; grind
theorem dt_adj : ∀ {n : Nat} {M : Nat → Nat → Int} {k : Nat}, k + 1 < n → M k = M (k + 1) → dt n M = 0
  | 0, _, _, h, _ => absurd h (by omega)
  | n + 1, M, k, h, e => by
    unfold dt
    rw [sm_2 (a := k) h (fun t ht n1 n2 => ?_)]
    · have es : (fun a => M (sk k a)) = fun a => M (sk (k + 1) a) := funext fun a => by
        by_cases q : a = k
        · subst q
          rw [show sk a a = a + 1 by unfold sk; rw [if_neg (by omega)], show sk (a + 1) a = a by unfold sk; rw [if_pos (by omega)], e]
        · rw [show sk k a = sk (k + 1) a by unfold sk; split <;> split <;> omega]
      rw [es, sn_s, ← e]; grind
    · have : dt n (fun a => M (sk t a)) = 0 := by
        rcases (by omega : t < k ∨ k + 1 < t) with q | q
        · refine dt_adj (k := k - 1) (by omega) ?_
          show M (sk t (k - 1)) = M (sk t (k - 1 + 1))
          rw [show sk t (k - 1) = k by unfold sk; rw [if_neg (by omega)]; omega, show sk t (k - 1 + 1) = k + 1 by unfold sk; rw [if_neg (by omega)]; omega, e]
        · refine dt_adj (k := k) (by omega) ?_
          show M (sk t k) = M (sk t (k + 1))
          rw [show sk t k = k by unfold sk; rw [if_pos (by omega)], show sk t (k + 1) = k + 1 by unfold sk; rw [if_pos (by omega)], e]
      rw [this]; omega
theorem dt_add {n : Nat} {M : Nat → Nat → Int} {r : Nat} {v w : Nat → Int} (h : r < n) : dt n (up M r (fun i => v i + w i)) = dt n (up M r v) + dt n (up M r w) := by
  have := dt_lin (n := n) (M := M) (r := r) (x := 1) (v := v) (w := w) h
  rw [show (fun i => 1 * v i + w i) = fun i => v i + w i from funext fun i => by omega] at this
  omega
theorem dt_swa {n : Nat} {M : Nat → Nat → Int} {k : Nat} {u v : Nat → Int} (h : k + 1 < n) : dt n (up (up M k u) (k + 1) v) = -dt n (up (up M k v) (k + 1) u) := by
  have z : ∀ x : Nat → Int, dt n (up (up M k x) (k + 1) x) = 0 := fun x => dt_adj h (by rw [up_ne (by omega), up_on, up_on])
  have a := z (fun i => u i + v i)
  rw [dt_add h, up_cm (by omega), dt_add (by omega), up_cm (by omega), z u, up_cm (r := k + 1) (s := k) (by omega), up_cm (r := k) (s := k + 1) (v := fun i => u i + v i) (by omega), dt_add (by omega), up_cm (r := k + 1) (s := k) (by omega), up_cm (r := k + 1) (s := k) (by omega), z v] at a
  omega
theorem dt_eq : ∀ (d : Nat) {n : Nat} {M : Nat → Nat → Int} {a : Nat}, a + d + 1 < n → M a = M (a + d + 1) → dt n M = 0
  | 0, n, M, a, h, e => dt_adj h e
  | d + 1, n, M, a, h, e => by
    have s := dt_swa (M := M) (k := a + d + 1) (u := M (a + d + 1)) (v := M (a + (d + 1) + 1)) h
    rw [up_self, show a + (d + 1) + 1 = a + d + 1 + 1 by omega, up_self] at s
    rw [s, dt_eq d (a := a) (by omega)]
    · rfl
    · rw [up_ne (by omega), up_ne (by omega), up_ne (by omega), up_on, e]; rfl
theorem dt_two {n : Nat} {M : Nat → Nat → Int} {a b : Nat} (ha : a < n) (hb : b < n) (ne : a ≠ b) (e : M a = M b) : dt n M = 0 := by
  rcases (by omega : a < b ∨ b < a) with q | q
  · exact dt_eq (b - a - 1) (a := a) (by omega) (by rw [show a + (b - a - 1) + 1 = b by omega]; exact e)
  · exact dt_eq (a - b - 1) (a := b) (by omega) (by rw [show b + (a - b - 1) + 1 = a by omega]; exact e.symm)
theorem dt_swap {n : Nat} {M : Nat → Nat → Int} {a b : Nat} {u v : Nat → Int} (ha : a < n) (hb : b < n) (ne : a ≠ b) : dt n (up (up M a u) b v) = -dt n (up (up M a v) b u) := by
  have z : ∀ x : Nat → Int, dt n (up (up M a x) b x) = 0 := fun x => dt_two ha hb ne (by rw [up_ne ne, up_on, up_on])
  have h := z (fun i => u i + v i)
  rw [dt_add hb, up_cm ne, dt_add ha, up_cm ne.symm, up_cm ne.symm, z u, up_cm (r := a) (s := b) (v := fun i => u i + v i) ne, dt_add ha, up_cm ne.symm, up_cm ne.symm, z v] at h
  omega
theorem dt_mul {n : Nat} {M : Nat → Nat → Int} {r : Nat} {x : Int} {v : Nat → Int} (h : r < n) : dt n (up M r (fun i => x * v i)) = x * dt n (up M r v) := by
  have z : dt n (up M r (fun _ => 0)) = 0 := by
    have a := dt_add (n := n) (M := M) (r := r) (v := fun _ => 0) (w := fun _ => 0) h
    rw [show (fun _ : Nat => (0 : Int) + 0) = fun _ => 0 from rfl] at a
    omega
  have := dt_lin (n := n) (M := M) (r := r) (x := x) (v := v) (w := fun _ => 0) h
  rw [show (fun i => x * v i + 0) = fun i => x * v i from funext fun i => by omega, z] at this
  omega
/-- a vector that is a sum of others, in a slot -/
theorem dt_sum {n : Nat} {M : Nat → Nat → Int} {r : Nat} (h : r < n) {t : Nat → Int} {b : Nat → Nat → Int} : ∀ {m : Nat}, dt n (up M r (fun i => sm m (fun k => t k * b k i))) = sm m (fun k => t k * dt n (up M r (b k)))
  | 0 => by
    have := dt_mul (n := n) (M := M) (r := r) (x := 0) (v := fun _ => 0) h
    rw [show (fun _ : Nat => (0 : Int) * 0) = fun _ => 0 from rfl] at this
    show dt n (up M r (fun _ => 0)) = 0
    omega
  | m + 1 => by
    have e := dt_lin (n := n) (M := M) (r := r) (x := t m) (v := b m) (w := fun i => sm m (fun k => t k * b k i)) h
    rw [show (fun i => sm (m + 1) (fun k => t k * b k i)) = fun i => t m * b m i + sm m (fun k => t k * b k i) from funext fun i => by show sm m _ + t m * b m i = _; omega, e, dt_sum h (m := m)]
    show _ = sm m _ + t m * dt n (up M r (b m))
    omega
theorem dt_I : ∀ {n : Nat} {M : Nat → Nat → Int}, (∀ a i, a < n → i < n → M a i = if a = i then 1 else 0) → dt n M = 1 ∨ dt n M = -1
  | 0, _, _ => .inl rfl
  | n + 1, M, h => by
    unfold dt
    rw [sm_1 (a := n) (by omega) (fun k hk ne => by rw [h k n hk (by omega), if_neg ne]; omega), h n n (by omega) (by omega), if_pos rfl]
    have ih := dt_I (n := n) (M := fun a => M (sk n a)) (fun a i ha hi => by rw [show sk n a = a by unfold sk; rw [if_pos ha]]; exact h a i (by omega) (by omega))
    unfold sn
    split <;> omega
theorem sm_ab {f : Nat → Int} {n a b : Nat} (ha : a < n) (hb : b < n) (ne : a ≠ b) (hz : ∀ k, k < n → k ≠ a → k ≠ b → f k = 0) : sm n f = f a + f b := by
  have e := sm_lin (n := n) (x := 1) (f := fun k => if k = a then f k else 0) (g := fun k => if k = a then 0 else f k)
  rw [show (fun k => 1 * (if k = a then f k else 0) + (if k = a then 0 else f k)) = f from funext fun k => by split <;> omega, sm_1 (f := fun k => if k = a then f k else 0) (a := a) ha (fun k _ n1 => if_neg n1), sm_1 (f := fun k => if k = a then 0 else f k) (a := b) hb (fun k hk n1 => by show (if k = a then 0 else f k) = 0; split; rfl; exact hz k hk (by assumption) n1)] at e
  rw [e, if_pos rfl, if_neg ne.symm]; omega
/-- Cramer -/
theorem dt_cr {n : Nat} {B : Nat → Nat → Int} {r : Nat} {D : Int} {a : Nat → Int} {t : Nat → Int} (hr : r < n) (h : ∀ i, D * a i = sm n (fun k => t k * B k i)) : D * dt n (up B r a) = t r * dt n B := by
  rw [← dt_mul hr, show (fun i => D * a i) = fun i => sm n (fun k => t k * B k i) from funext h, dt_sum hr, sm_1 (a := r) hr (fun k hk ne => ?_), up_self]
  rw [dt_two (a := r) (b := k) hr hk ne.symm (by rw [up_on, up_ne ne])]; omega
theorem mul_cn {a b D : Int} (h : D ≠ 0) (e : D * a = D * b) : a = b := Int.eq_of_mul_eq_mul_left h e
/-- the divisions of a pivot have no rest -/
theorem dt_ex {n : Nat} {B : Nat → Nat → Int} {r i : Nat} {D s : Int} {aj as : Nat → Int} {tj ts : Nat → Int} (hr : r < n) (hi : i < n) (ne : i ≠ r) (hD : D ≠ 0) (hs : s = 1 ∨ s = -1) (hF : dt n B = s * D) (hj : ∀ q, D * aj q = sm n (fun k => tj k * B k q)) (has : ∀ q, D * as q = sm n (fun k => ts k * B k q)) : D * (s * dt n (up (up B r as) i aj)) = tj i * ts r - ts i * tj r := by
  have cr : ∀ z, z < n → dt n (up B z as) = s * ts z := fun z hz => mul_cn hD (by rw [dt_cr hz has, hF]; grind)
  have e1 : D * dt n (up (up B r as) i aj) = sm n (fun k => tj k * dt n (up (up B r as) i (B k))) := by
    rw [← dt_mul hi, show (fun q => D * aj q) = fun q => sm n (fun k => tj k * B k q) from funext hj, dt_sum hi]
  have e2 : sm n (fun k => tj k * dt n (up (up B r as) i (B k))) = tj i * dt n (up (up B r as) i (B i)) + tj r * dt n (up (up B r as) i (B r)) := sm_ab hi hr ne (fun k hk n1 n2 => by
    rw [dt_two (a := i) (b := k) hi hk n1.symm (by rw [up_on, up_ne n1, up_ne n2])]; omega)
  have e3 : up (up B r as) i (B i) = up B r as := by
    have := up_self (M := up B r as) (r := i)
    rw [up_ne ne] at this; exact this
  have e4 : dt n (up (up B r as) i (B r)) = -(s * ts i) := by
    rw [dt_swap hr hi ne.symm, up_self, cr i hi]
  rw [e2, e3, e4, cr r hr] at e1
  have ss : s * s = 1 := by rcases hs with q | q <;> (rw [q]; rfl)
  have : D * (s * dt n (up (up B r as) i aj)) = s * (D * dt n (up (up B r as) i aj)) := by grind
  rw [this, e1]
  have e5 : s * (tj i * (s * ts r) + tj r * -(s * ts i)) = s * s * (tj i * ts r - ts i * tj r) := by grind
  rw [e5, ss]; omega
/-- the determinant behind a pivot -/
theorem dt_nx {n : Nat} {B : Nat → Nat → Int} {r : Nat} {D s : Int} {as : Nat → Int} {ts : Nat → Int} (hr : r < n) (hD : D ≠ 0) (hF : dt n B = s * D) (has : ∀ q, D * as q = sm n (fun k => ts k * B k q)) : dt n (up B r as) = s * ts r := mul_cn hD (by rw [dt_cr hr has, hF]; grind)
