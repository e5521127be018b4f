def pl (L : List Nat) (k : Nat) : Bool := L.any (Nat.beq k)
theorem any_beq {L : List Nat} {i : Nat} (h : L.any (Nat.beq i) = true) : i ∈ L := by
  rw [List.any_eq_true] at h
  obtain ⟨x, hx, e⟩ := h
  rw [Nat.eq_of_beq_eq_true e]; exact hx
theorem pl_sub {L L' : List Nat} (h : ∀ x ∈ L, pl L' x = true) : ∀ i, pl L i = true → pl L' i = true := fun i hi => h i (any_beq hi)
theorem pl_h {a : Nat} {L : List Nat} : pl (a :: L) a = true := by unfold pl; rw [List.any_cons, Nat.beq_refl, Bool.true_or]
theorem pl_t {a k : Nat} {L : List Nat} (h : pl L k = true) : pl (a :: L) k = true := by unfold pl at h ⊢; rw [List.any_cons, h, Bool.or_true]
theorem pl_c {a k : Nat} {L : List Nat} (h : k ≠ a) (h2 : pl L k = false) : pl (a :: L) k = false := by
  unfold pl at h2 ⊢
  rw [List.any_cons, h2, Bool.or_false]
  cases e : Nat.beq k a
  · rfl
  · exact absurd (Nat.eq_of_beq_eq_true e) h
theorem pl_nil {P : pS} : ∀ k, pl [] k = true → P k = true := fun _ h => by cases h
theorem pl_s {a : Nat} {L : List Nat} {P : pS} (h : P a = true) (h2 : ∀ k, pl L k = true → P k = true) : ∀ k, pl (a :: L) k = true → P k = true := fun k e => by
  unfold pl at e
  rw [List.any_cons, Bool.or_eq_true] at e
  rcases e with e | e
  · rw [Nat.eq_of_beq_eq_true e]; exact h
  · exact h2 k e
/-! Numbers in rows: how many limbs, the value -/
def al (f : Int → Int) (p : Int) : Int := if f p < 0 then -f p else f p
def sg (f : Int → Int) (p : Int) : Int := if f p < 0 then -1 else if 0 < f p then 1 else 0
def NO (f : Int → Int) (p L : Int) : Prop := al f p ≤ L ∧ (∀ i, p < i → i ≤ p + al f p → 0 ≤ f i ∧ f i ≤ 999999999) ∧ (al f p ≠ 0 → f (p + al f p) ≠ 0)
def nu (f : Int → Int) (p : Int) : Int := V f (p + 1) (al f p).toNat
def nv (f : Int → Int) (p : Int) : Int := sg f p * nu f p
theorem al_0 (f : Int → Int) (p : Int) : 0 ≤ al f p := by unfold al; split <;> omega
theorem al_e {f : Int → Int} {p : Int} : (f p < 0 → al f p = -f p) ∧ (0 ≤ f p → al f p = f p) := ⟨fun h => if_pos h, fun h => if_neg (by omega)⟩
theorem sg_e {f : Int → Int} {p : Int} : (f p < 0 → sg f p = -1) ∧ (0 < f p → sg f p = 1) ∧ (f p = 0 → sg f p = 0) := by
  unfold sg
  refine ⟨fun h => if_pos h, fun h => by rw [if_neg (by omega), if_pos h], fun h => by rw [if_neg (by omega), if_neg (by omega)]⟩
theorem NO.b {f : Int → Int} {p L : Int} (h : NO f p L) : (-L ≤ f p ∧ f p ≤ L) ∧ 0 ≤ L := by
  have a := h.1
  have b := al_e (f := f) (p := p)
  have c := al_0 f p
  omega
theorem NO.mono {f : Int → Int} {p L M : Int} (h : NO f p L) (hm : L ≤ M) : NO f p M := ⟨by have := h.1; omega, h.2⟩
theorem NO.nu0 {f : Int → Int} {p L : Int} (h : NO f p L) : 0 ≤ nu f p := V_0 (fun i h0 h1 => (h.2.1 i (by omega) (by have := al_0 f p; omega)).1)
theorem NO.nul {f : Int → Int} {p L : Int} (h : NO f p L) : nu f p < pw (al f p).toNat := V_lt (fun i h0 h1 => h.2.1 i (by omega) (by have := al_0 f p; omega))
theorem NO.nug {f : Int → Int} {p L : Int} (h : NO f p L) (hz : al f p ≠ 0) : pw (al f p - 1).toNat ≤ nu f p := by
  have a0 := al_0 f p
  have e := V_topr (f := f) (s := p + 1) (w := al f p) (by omega)
  unfold nu; rw [e]
  have a : 0 ≤ V f (p + 1) (al f p - 1).toNat := V_0 (fun i h0 h1 => (h.2.1 i (by omega) (by omega)).1)
  have t := h.2.2 hz
  have t2 := (h.2.1 (p + al f p) (by omega) (by omega)).1
  rw [show p + 1 + al f p - 1 = p + al f p by omega]
  have b : 1 * pw (al f p - 1).toNat ≤ f (p + al f p) * pw (al f p - 1).toNat := Int.mul_le_mul_of_nonneg_right (by omega) (Int.le_of_lt (pw_pos _))
  omega
/-- how many limbs a value needs -/
theorem NO.lim {f : Int → Int} {p L : Int} (h : NO f p L) {n : Nat} (hn : nu f p < pw n) : al f p ≤ n := by
  rcases Int.lt_or_le (n : Int) (al f p) with q | q
  · exfalso
    have a := h.nug (by omega)
    have b := pw_le (m := n) (n := (al f p - 1).toNat) (by omega)
    omega
  · exact q
theorem NO.sgn {f : Int → Int} {p L : Int} (h : NO f p L) : (nv f p < 0 ↔ f p < 0) ∧ (0 < nv f p ↔ 0 < f p) ∧ (nv f p = 0 ↔ f p = 0) := by
  have s := sg_e (f := f) (p := p)
  have a := al_e (f := f) (p := p)
  have n0 := h.nu0
  have pos : al f p ≠ 0 → 0 < nu f p := fun z => by have := h.nug z; have := pw_pos (al f p - 1).toNat; omega
  rcases (by omega : f p < 0 ∨ f p = 0 ∨ 0 < f p) with q | q | q
  · have e : nv f p = -nu f p := by unfold nv; rw [s.1 q]; omega
    have := pos (by omega); omega
  · have e : nv f p = 0 := by unfold nv; rw [s.2.2 q]; omega
    omega
  · have e : nv f p = nu f p := by unfold nv; rw [s.2.1 q]; omega
    have := pos (by omega); omega
theorem nu_z {f : Int → Int} {p : Int} (h : f p = 0) : nu f p = 0 := by
  unfold nu; rw [(al_e (f := f) (p := p)).2 (by omega), h]; rfl
theorem nv_abs {f : Int → Int} {p L : Int} (h : NO f p L) : (0 ≤ nv f p → nv f p = nu f p) ∧ (nv f p ≤ 0 → nv f p = -nu f p) := by
  have s := sg_e (f := f) (p := p)
  have n0 := h.nu0
  have g := h.sgn
  rcases (by omega : f p < 0 ∨ f p = 0 ∨ 0 < f p) with q | q | q
  · have e : nv f p = -nu f p := by unfold nv; rw [s.1 q]; omega
    omega
  · have e : nv f p = 0 := by unfold nv; rw [s.2.2 q]; omega
    have z := nu_z q
    omega
  · have e : nv f p = nu f p := by unfold nv; rw [s.2.1 q]; omega
    omega
theorem NO.cg {f g : Int → Int} {p q L : Int} (h : NO f p L) (h0 : g q = f p) (hi : ∀ i, 1 ≤ i → i ≤ al f p → g (q + i) = f (p + i)) : NO g q L ∧ nv g q = nv f p ∧ nu g q = nu f p ∧ al g q = al f p := by
  have ea : al g q = al f p := by unfold al; rw [h0]
  have es : sg g q = sg f p := by unfold sg; rw [h0]
  have eu : nu g q = nu f p := by
    unfold nu; rw [ea]
    exact V_cg (fun i i0 i1 => by rw [show q + 1 + i = q + (1 + i) by omega, show p + 1 + i = p + (1 + i) by omega]; exact hi _ (by omega) (by have := al_0 f p; omega))
  refine ⟨⟨by rw [ea]; exact h.1, fun i i0 i1 => ?_, fun z => ?_⟩, by unfold nv; rw [es, eu], eu, ea⟩
  · rw [ea] at i1
    rw [show i = q + (i - q) by omega, hi (i - q) (by omega) (by omega)]
    exact h.2.1 _ (by omega) (by omega)
  · rw [ea] at z ⊢
    rw [hi _ (by have := al_0 f p; omega) (by omega)]
    exact h.2.2 z
/-- limbs by their number, 0 beyond -/
def lf (f : Int → Int) (p n : Int) : Int → Int := fun j => if j < n then f (p + (j + 1)) else 0
def cf (f : Int → Int) (r : Int) : Int → Int := fun j => f (r + (j + 1))
theorem lf_in {f : Int → Int} {p n j : Int} (h : j < n) : lf f p n j = f (p + (j + 1)) := if_pos h
theorem lf_out {f : Int → Int} {p n j : Int} (h : n ≤ j) : lf f p n j = 0 := if_neg (by omega)
theorem cf_on {S : sS} {c : Nat} {r k v : Int} : cf ((uA S c (r + (k + 1)) v).2.1 c) r k = v := uA_on
theorem cf_ne {S : sS} {c : Nat} {r k v j : Int} (h : j ≠ k) : cf ((uA S c (r + (k + 1)) v).2.1 c) r j = cf (S.2.1 c) r j := uA_ne (fun q => h (by have := q.2; omega))
theorem cf_hd {S : sS} {c : Nat} {r v j : Int} (h : 0 ≤ j) : cf ((uA S c r v).2.1 c) r j = cf (S.2.1 c) r j := uA_ne (fun q => by have := q.2; omega)
theorem V_cf {f : Int → Int} {r : Int} {n : Nat} : V (cf f r) 0 n = V f (r + 1) n := V_cg (fun i _ _ => by show f (r + (0 + i + 1)) = _; congr 1; omega)
theorem V_lf {f : Int → Int} {p n : Int} (h : 0 ≤ n) : V (lf f p n) 0 n.toNat = V f (p + 1) n.toNat := V_cg (fun i i0 i1 => by rw [lf_in (by omega)]; congr 1; omega)
theorem V_lfk {f : Int → Int} {p n k : Int} (h : 0 ≤ n) (hk : n ≤ k) : V (lf f p n) 0 k.toNat = V f (p + 1) n.toNat := by
  rw [← V_lf h]
  exact V_cut (by omega) (fun j j0 j1 => lf_out (by omega))
theorem lf_r {f : Int → Int} {p L : Int} (h : NO f p L) (j : Int) (h0 : 0 ≤ j) : 0 ≤ lf f p (al f p) j ∧ lf f p (al f p) j ≤ 999999999 := by
  unfold lf; split
  · exact h.2.1 _ (by omega) (by omega)
  · omega
theorem lf_t {f : Int → Int} {p L : Int} (h : NO f p L) {k : Int} (h0 : 0 ≤ k) (e : k + 1 = al f p) : lf f p (al f p) k ≠ 0 := by
  rw [lf_in (by omega), e]; exact h.2.2 (by omega)
/-- a result -/
theorem res {f : Int → Int} {r k s W L : Int} (hh : f r = s * k) (hs : s = 1 ∨ s = -1 ∨ (s = 0 ∧ W = 0)) (hk : 0 ≤ k ∧ k ≤ L) (hl : ∀ j, 0 ≤ j → j < k → 0 ≤ cf f r j ∧ cf f r j ≤ 999999999) (ht : 0 < k → cf f r (k - 1) ≠ 0) (hW : V (cf f r) 0 k.toNat = W) : NO f r L ∧ nv f r = s * W := by
  rw [V_cf] at hW
  have key : ∀ z, al f r = z → z = k → sg f r = (if f r < 0 then -1 else if 0 < f r then 1 else 0) → NO f r L := fun z hz hk2 _ => by
    subst hk2
    refine ⟨by rw [hz]; exact hk.2, fun i i0 i1 => ?_, fun q => ?_⟩
    · rw [hz] at i1
      have := hl (i - r - 1) (by omega) (by omega)
      unfold cf at this
      rw [show r + (i - r - 1 + 1) = i by omega] at this
      exact this
    · rw [hz] at q ⊢
      have := ht (by omega)
      unfold cf at this
      rw [show r + (z - 1 + 1) = r + z by omega] at this
      exact this
  have a := al_e (f := f) (p := r)
  have g := sg_e (f := f) (p := r)
  rcases hs with q | q | q
  · rw [q] at hh
    have e : al f r = k := by omega
    refine ⟨key _ e rfl rfl, ?_⟩
    unfold nv nu; rw [e, hW]
    rcases (by omega : f r = 0 ∨ 0 < f r) with z | z
    · have : W = 0 := by rw [← hW, show k = 0 by omega]; rfl
      rw [this]; omega
    · rw [g.2.1 z, q]
  · rw [q] at hh
    have e : al f r = k := by omega
    refine ⟨key _ e rfl rfl, ?_⟩
    unfold nv nu; rw [e, hW]
    rcases (by omega : f r = 0 ∨ f r < 0) with z | z
    · have : W = 0 := by rw [← hW, show k = 0 by omega]; rfl
      rw [this]; omega
    · rw [g.1 z, q]
  · rw [q.1] at hh
    have z : f r = 0 := by omega
    have e : al f r = 0 := by omega
    refine ⟨⟨by omega, fun i i0 i1 => by omega, fun z2 => absurd e z2⟩, ?_⟩
    unfold nv; rw [g.2.2 z, q.1]; omega
theorem addS {c c' A B : Int → Int} {k cy l x : Int} (hk : 0 ≤ k) (hV : V c 0 k.toNat + cy * pw k.toNat = V A 0 k.toNat + V B 0 k.toNat) (hc : ∀ j, 0 ≤ j → j < k → c' j = c j) (hl : c' k = l) (h2 : l + x * 1000000000 = A k + B k + cy) : V c' 0 (k + 1).toNat + x * pw (k + 1).toNat = V A 0 (k + 1).toNat + V B 0 (k + 1).toNat := by
  rw [V_stp hk, V_stp hk, V_stp hk, pw_stp hk, show (0 : Int) + k = k by omega, hl, show V c' 0 k.toNat = V c 0 k.toNat from V_cg (fun j j0 j1 => by rw [show (0 : Int) + j = j by omega]; exact hc j j0 (by omega))]
  have := madd hV h2
  omega
theorem subS {c c' A B : Int → Int} {k cy l x : Int} (hk : 0 ≤ k) (hV : V c 0 k.toNat - cy * pw k.toNat = V A 0 k.toNat - V B 0 k.toNat) (hc : ∀ j, 0 ≤ j → j < k → c' j = c j) (hl : c' k = l) (h2 : l - x * 1000000000 = A k - B k - cy) : V c' 0 (k + 1).toNat - x * pw (k + 1).toNat = V A 0 (k + 1).toNat - V B 0 (k + 1).toNat := by
  rw [V_stp hk, V_stp hk, V_stp hk, pw_stp hk, show (0 : Int) + k = k by omega, hl, show V c' 0 k.toNat = V c 0 k.toNat from V_cg (fun j j0 j1 => by rw [show (0 : Int) + j = j by omega]; exact hc j j0 (by omega))]
  have := msub (g := 1) (a := V c 0 k.toNat) (b := V A 0 k.toNat) (c := cy) (d := V B 0 k.toNat) (x := A k) (y := B k) (l := l) (k := x) (P := pw k.toNat) (by omega) (by omega)
  omega
theorem V_cmp2 {f g : Int → Int} {i : Int} (h0 : 0 ≤ i) : ∀ (n : Nat), i < n → (∀ j : Int, 0 ≤ j → j < n → (0 ≤ f j ∧ f j ≤ 999999999) ∧ 0 ≤ g j ∧ g j ≤ 999999999) → g i < f i → (∀ j : Int, i < j → j < n → f j = g j) → V g 0 n < V f 0 n := by
  intro n
  induction n with
  | zero => intro h; omega
  | succ n ih =>
    intro h hr hlt he
    rw [V_s, V_s, show (0 : Int) + (n : Int) = n by omega]
    rcases (by omega : i < n ∨ i = n) with q | q
    · have a := ih q (fun j j0 j1 => hr j j0 (by omega)) hlt (fun j j0 j1 => he j j0 (by omega))
      rw [he n q (by omega)]
      omega
    · have a : V g 0 n < pw n := V_lt (fun j j0 j1 => (hr j (by omega) (by omega)).2)
      have b : 0 ≤ V f 0 n := V_0 (fun j j0 j1 => (hr j (by omega) (by omega)).1.1)
      rw [← q]
      have c : (g i + 1) * pw n ≤ f i * pw n := Int.mul_le_mul_of_nonneg_right (by omega) (Int.le_of_lt (pw_pos n))
      have d : (g i + 1) * pw n = g i * pw n + pw n := by grind
      omega
/-- how two numbers of one length compare -/
theorem nu_cmp {f g : Int → Int} {p q L M k : Int} (hf : NO f p L) (hg : NO g q M) (e : al f p = al g q) (hk : 1 ≤ k ∧ k ≤ al f p) (hlt : g (q + k) < f (p + k)) (he : ∀ j, k < j → j ≤ al f p → f (p + j) = g (q + j)) : nu g q < nu f p := by
  unfold nu
  rw [← V_lf (al_0 g q), ← V_lf (al_0 f p), ← e]
  have a0 := al_0 f p
  refine V_cmp2 (i := k - 1) (by omega) _ (by omega) (fun j j0 j1 => ⟨lf_r hf j j0, by rw [e]; exact lf_r hg j j0⟩) ?_ (fun j j0 j1 => ?_)
  · rw [lf_in (by omega), lf_in (by omega), show k - 1 + 1 = k by omega]; exact hlt
  · rw [lf_in (by omega), lf_in (by omega)]; exact he (j + 1) (by omega) (by omega)
theorem nu_len {f g : Int → Int} {p q L M : Int} (hf : NO f p L) (hg : NO g q M) (h : al f p < al g q) : nu f p < nu g q := by
  have a := hf.nul
  have b := hg.nug (by have := al_0 f p; omega)
  have c := pw_le (m := (al f p).toNat) (n := (al g q - 1).toNat) (by have := al_0 f p; omega)
  omega
theorem nu_eq {f g : Int → Int} {p q : Int} (e : al f p = al g q) (he : ∀ j, 0 < j → j ≤ al f p → f (p + j) = g (q + j)) : nu f p = nu g q := by
  unfold nu; rw [← e]
  exact V_cg (fun i i0 i1 => by rw [show p + 1 + i = p + (1 + i) by omega, show q + 1 + i = q + (1 + i) by omega]; exact he _ (by omega) (by have := al_0 f p; omega))
theorem putS {c c' : Int → Int} {k x l y X : Int} (hk : 0 ≤ k) (hV : V c 0 k.toNat + x * pw k.toNat = X) (hc : ∀ j, 0 ≤ j → j < k → c' j = c j) (hl : c' k = l) (h2 : l + y * 1000000000 = x) : V c' 0 (k + 1).toNat + y * pw (k + 1).toNat = X := by
  rw [V_stp hk, pw_stp hk, show (0 : Int) + k = k by omega, hl, show V c' 0 k.toNat = V c 0 k.toNat from V_cg (fun j j0 j1 => by rw [show (0 : Int) + j = j by omega]; exact hc j j0 (by omega)), ← hV, ← h2]
  grind
theorem put_fin {S : sS} {a : Nat} {r n s W L hd : Int} (hh : hd = s * n) (hs : s = 1 ∨ s = -1 ∨ (s = 0 ∧ W = 0)) (hn : 0 ≤ n ∧ n ≤ L) (hl : ∀ j, 0 ≤ j → j < n → 0 ≤ cf (S.2.1 a) r j ∧ cf (S.2.1 a) r j ≤ 999999999) (ht : 0 < n → cf (S.2.1 a) r (n - 1) ≠ 0) (hV : V (cf (S.2.1 a) r) 0 n.toNat = W) : NO ((uA S a r hd).2.1 a) r L ∧ nv ((uA S a r hd).2.1 a) r = s * W :=
  res (k := n) (uA_on.trans hh) hs hn (fun j a b => by rw [cf_hd a]; exact hl j a b) (fun q => by rw [cf_hd (by omega)]; exact ht q) (by rw [← hV]; exact V_cg (fun j j0 _ => cf_hd (by omega)))
theorem V_dn {f : Int → Int} {k : Int} (h : 1 ≤ k) (hz : f (k - 1) = 0) : V f 0 (k - 1).toNat = V f 0 k.toNat := by
  have := V_topr (f := f) (s := 0) (w := k) h
  rw [show (0 : Int) + k - 1 = k - 1 by omega, hz] at this
  omega
theorem sgm {s k h : Int} (e : h = s * k) (hs : -1 ≤ s ∧ s ≤ 1) : (s = 1 → h = k) ∧ (s = -1 → h = -k) ∧ (s = 0 → h = 0) := by
  refine ⟨fun q => by rw [e, q]; omega, fun q => by rw [e, q]; omega, fun q => by rw [e, q]; omega⟩
theorem NO.neg {S : sS} {a : Nat} {p L : Int} (h : NO (S.2.1 a) p L) : NO ((uA S a p (-(S.2.1 a p))).2.1 a) p L ∧ nv ((uA S a p (-(S.2.1 a p))).2.1 a) p = -nv (S.2.1 a) p := by
  have e0 : (uA S a p (-(S.2.1 a p))).2.1 a p = -(S.2.1 a p) := uA_on
  have ei : ∀ i, p < i → (uA S a p (-(S.2.1 a p))).2.1 a i = S.2.1 a i := fun i hi => uA_ne (fun q => by have := q.2; omega)
  have a1 := al_e (f := S.2.1 a) (p := p)
  have a2 := al_e (f := (uA S a p (-(S.2.1 a p))).2.1 a) (p := p)
  have ea : al ((uA S a p (-(S.2.1 a p))).2.1 a) p = al (S.2.1 a) p := by rw [e0] at a2; omega
  have eu : nu ((uA S a p (-(S.2.1 a p))).2.1 a) p = nu (S.2.1 a) p := by
    unfold nu; rw [ea]; exact V_cg (fun i i0 _ => ei _ (by omega))
  refine ⟨⟨by rw [ea]; exact h.1, fun i i0 i1 => by rw [ei i i0]; exact h.2.1 i i0 (by rw [← ea]; exact i1), fun z => by rw [ea] at z ⊢; rw [ei _ (by have := al_0 (S.2.1 a) p; omega)]; exact h.2.2 z⟩, ?_⟩
  unfold nv; rw [eu]
  have s1 := sg_e (f := S.2.1 a) (p := p)
  have s2 := sg_e (f := (uA S a p (-(S.2.1 a p))).2.1 a) (p := p)
  rw [e0] at s2
  rcases (by omega : S.2.1 a p < 0 ∨ S.2.1 a p = 0 ∨ 0 < S.2.1 a p) with q | q | q
  · rw [s1.1 q, s2.2.1 (by omega)]; omega
  · rw [s1.2.2 q, s2.2.2 (by omega)]; omega
  · rw [s1.2.1 q, s2.1 (by omega)]; omega
set_option maxRecDepth 100000 in
set_option maxHeartbeats 4000000 in
theorem s_X12_limbs (l : Launch) (G : sG) (S : sS) {ka Nka : Nat} {po : Int} (hI : dX G S) (hika : ia ka Nka) (hp : 0 ≤ po ∧ po < Nka) (hb7 : -70 ≤ S.2.1 ka po ∧ S.2.1 ka po ≤ 70) : Met l yX12_limbs (.code yX12_limbs cX12_limbs 2 (some .int) :: tb) (rmk 2 0 0) (sPc G 294 S [.ref (G.2.2.1 + ka), .int (iv po)]) (sQi G 294 (fun r u => u = S ∧ (r = al (S.2.1 ka) po ∧ 0 ≤ r ∧ r ≤ 70))) 0 0 (sF G) := by
  refine sEnter (by decide) (Nat.le_of_ble_eq_true rfl) ?_
  intro p e s m args below meth c Cx hr hlk hnm hW ls hl
  have Cx : sC G p m c cX12_limbs 2 s args RX12 := Cx
  obtain ⟨hx, hb, hml, hown, hts⟩ := id Cx.1
  have hL : sL G [] := sL_nil
  have hl : lv_has ls 2 [(0, .ref (G.2.2.1 + ka)), (1, .int (iv po))] := hl
  have hW0 := hW
  have hae := al_e (f := S.2.1 ka) (p := po)
  have hN := hika.2.2.2.1
  refine lv_aload_n hx hb dX12_limbs_0 rfl (lv_at hl 0 rfl) ?_
  refine lv_iload_n hx hb dX12_limbs_1 rfl (lv_at hl 1 rfl) ?_
  refine rIald Cx hW (k := ka) hika.lt hika.1 (by omega) (by omega) (by omega) dX12_limbs_2 ?_
  have q_1 : (-2147483648) ≤ S.2.1 ka po ∧ S.2.1 ka po ≤ 2147483647 := hI.aj hika.ge po
  refine r_i (b := S.2.1 ka po) rfl ?_
  refine r_abs hx hb (hml.trans hl.1.symm) hown (hts _ w_2487) (hts _ w_1156) (hts _ w_206) (hts _ w_1157) (rmk_f (by omega)) (rmk_l (by omega) (Nat.le_of_ble_eq_true rfl)) (Nat.le_of_ble_eq_true rfl) (Nat.le_of_ble_eq_true rfl) ⟨(by omega), (by omega)⟩ dX12_limbs_3 (fun z_2 hz_2 => ?_)
  exact sIret Cx hr hlk hW hL ⟨rfl, (by omega)⟩ dX12_limbs_6

set_option maxRecDepth 100000 in
set_option maxHeartbeats 4000000 in
theorem s_X12_sign (l : Launch) (G : sG) (S : sS) {ka Nka : Nat} {po : Int} (hI : dX G S) (hika : ia ka Nka) (hp : 0 ≤ po ∧ po < Nka) : Met l yX12_sign (.code yX12_sign cX12_sign 2 (some .int) :: tb) (rmk 1 0 0) (sPc G 294 S [.ref (G.2.2.1 + ka), .int (iv po)]) (sQi G 294 (fun r u => u = S ∧ (r = sg (S.2.1 ka) po ∧ -1 ≤ r ∧ r ≤ 1))) 0 0 (sF G) := by
  refine sEnter (by decide) (Nat.le_of_ble_eq_true rfl) ?_
  intro p e s m args below meth c Cx hr hlk hnm hW ls hl
  have Cx : sC G p m c cX12_sign 2 s args RX12 := Cx
  obtain ⟨hx, hb, hml, hown, hts⟩ := id Cx.1
  have hL : sL G [] := sL_nil
  have hl : lv_has ls 2 [(0, .ref (G.2.2.1 + ka)), (1, .int (iv po))] := hl
  have hW0 := hW
  have hse := sg_e (f := S.2.1 ka) (p := po)
  have hN := hika.2.2.2.1
  refine lv_aload_n hx hb dX12_sign_0 rfl (lv_at hl 0 rfl) ?_
  refine lv_iload_n hx hb dX12_sign_1 rfl (lv_at hl 1 rfl) ?_
  refine rIald Cx hW (k := ka) hika.lt hika.1 (by omega) (by omega) (by omega) dX12_sign_2 ?_
  have q_1 : (-2147483648) ≤ S.2.1 ka po ∧ S.2.1 ka po ≤ 2147483647 := hI.aj hika.ge po
  refine r_i (b := S.2.1 ka po) rfl ?_
  refine r_if_le (tgt := 10) hx hb ⟨(by omega), (by omega)⟩ dX12_sign_3 (by decide) (fun c_2 => ?_) (fun c_2 => ?_)
  · refine lv_aload_n hx hb dX12_sign_10 rfl (lv_at hl 0 rfl) ?_
    refine lv_iload_n hx hb dX12_sign_11 rfl (lv_at hl 1 rfl) ?_
    refine rIald Cx hW (k := ka) hika.lt hika.1 (by omega) (by omega) (by omega) dX12_sign_12 ?_
    refine r_i (b := S.2.1 ka po) rfl ?_
    refine r_if_ge (tgt := 20) hx hb ⟨(by omega), (by omega)⟩ dX12_sign_13 (by decide) (fun c_3 => ?_) (fun c_3 => ?_)
    · refine lv_iconst (v := iv 0) hx hb dX12_sign_20 (by decide) ?_
      exact sIret Cx hr hlk hW hL ⟨rfl, (by omega)⟩ dX12_sign_21
    · refine lv_iconst (v := iv (-1)) hx hb dX12_sign_16 (by decide) ?_
      refine lv_goto (tgt := 21) hx hb dX12_sign_17 (by decide) ?_
      exact sIret Cx hr hlk hW hL ⟨rfl, (by omega)⟩ dX12_sign_21
  · refine lv_iconst (v := iv 1) hx hb dX12_sign_6 (by decide) ?_
    refine lv_goto (tgt := 21) hx hb dX12_sign_7 (by decide) ?_
    exact sIret Cx hr hlk hW hL ⟨rfl, (by omega)⟩ dX12_sign_21

set_option maxRecDepth 100000 in
set_option maxHeartbeats 4000000 in
theorem s_X12_put (l : Launch) (G : sG) (S : sS) {ka Nka : Nat} {po v : Int} (hI : dX G S) (hika : ia ka Nka) (hp : 0 ≤ po ∧ po + 3 < Nka) (hv : -9223372036854775807 ≤ v ∧ v ≤ 9223372036854775807) : Met l yX12_put (.code yX12_put cX12_put 7 none :: tb) (rmk 2 0 0) (sPc G 294 S [.ref (G.2.2.1 + ka), .int (iv po), .long (jv v)]) (sQv G 294 (fun u => dX G u ∧ Fr S u (p1 ka) ∧ (NO (u.2.1 ka) po 3 ∧ nv (u.2.1 ka) po = v ∧ ∀ j, j < po ∨ po + 3 < j → u.2.1 ka j = S.2.1 ka j))) 0 0 (sF G) := by
  refine sEnter (by decide) (Nat.le_of_ble_eq_true rfl) ?_
  intro p e s m args below meth c Cx hr hlk hnm hW ls hl
  have Cx : sC G p m c cX12_put 7 s args RX12 := Cx
  obtain ⟨hx, hb, hml, hown, hts⟩ := id Cx.1
  have hL : sL G [] := sL_nil
  have hl : lv_has ls 7 [(0, .ref (G.2.2.1 + ka)), (1, .int (iv po)), (2, .long (jv v))] := hl
  have hW0 := hW
  have hN := hika.2.2.2.1
  refine lv_lload_n hx hb dX12_put_0 rfl (lv_at hl 2 rfl) ?_
  refine r_absl hx hb (hml.trans hl.1.symm) hown (hts _ w_2463) (hts _ w_1080) (hts _ w_206) (hts _ w_1081) (rmk_f (by omega)) (rmk_l (by omega) (Nat.le_of_ble_eq_true rfl)) (Nat.le_of_ble_eq_true rfl) (Nat.le_of_ble_eq_true rfl) ⟨(by omega), (by omega)⟩ dX12_put_1 (fun x0 hx0 => ?_)
  refine lv_lstore (lv' := [(4, .long (jv x0)), (0, .ref (G.2.2.1 + ka)), (1, .int (iv po)), (2, .long (jv v))]) hx hb dX12_put_4 hl (by decide) rfl (fun ls hl => ?_)
  refine lv_iconst (v := iv 0) hx hb dX12_put_6 (by decide) ?_
  refine lv_istore (lv' := [(6, .int (iv 0)), (4, .long (jv x0)), (0, .ref (G.2.2.1 + ka)), (1, .int (iv po)), (2, .long (jv v))]) hx hb dX12_put_7 hl (by decide) rfl (fun ls hl => ?_)
  have loop_9 : ∀ (fuel : Nat) (S9 : sS) (nn : Int) (xx : Int) (H : Heap) (locs : List Loc) (ls : Array Slot), xx.toNat < fuel → (dX G S9) → (Fr S S9 (p1 ka)) → (Fr S S9 (p1 ka)) → (0 ≤ nn ∧ nn ≤ 3) → (0 ≤ xx ∧ (nn = 0 → xx ≤ 9223372036854775807) ∧ (nn = 1 → xx ≤ 9223372036) ∧ (nn = 2 → xx ≤ 9) ∧ (nn = 3 → xx = 0)) → (∀ j, 0 ≤ j → j < nn → 0 ≤ cf (S9.2.1 ka) po j ∧ cf (S9.2.1 ka) po j ≤ 999999999) → (V (cf (S9.2.1 ka) po) 0 nn.toNat + xx * pw nn.toNat = x0) → (Hd (0 < nn → xx = 0 → cf (S9.2.1 ka) po (nn - 1) ≠ 0)) → (∀ j, j ≤ po ∨ po + nn < j → S9.2.1 ka j = S.2.1 ka j) → sW G 294 S9 H → sL G locs → lv_has ls 7 [(6, .int (iv nn)), (4, .long (jv xx)), (0, .ref (G.2.2.1 + ka)), (1, .int (iv po)), (2, .long (jv v))] → W p l e (rmk 2 0 0) s m args below meth c H locs 0 0 (MQ below (sQv G 294 (fun u => dX G u ∧ Fr S u (p1 ka) ∧ (NO (u.2.1 ka) po 3 ∧ nv (u.2.1 ka) po = v ∧ ∀ j, j < po ∨ po + 3 < j → u.2.1 ka j = S.2.1 ka j))) args s 0 0 (sF G)) (F0 m 9 ls []) := by
    intro fuel
    induction fuel with
    | zero => intro S9 nn xx H locs ls hmeas hI9 hFm9 hL9_ hn hx1 hl9 hV ht ho hW hL hl; exact absurd hmeas (Nat.not_lt_zero _)
    | succ fuel ih_9 =>
      intro S9 nn xx H locs ls hmeas hI9 hFm9 hL9_ hn hx1 hl9 hV ht ho hW hL hl
      refine lv_lload hx hb dX12_put_9 (lv_at hl 1 rfl) ?_
      refine lv_lconst (v := jv 0) hx hb dX12_put_11 (by decide) ?_
      refine r_lcmp hx hb ⟨(by omega), (by omega)⟩ ⟨(by omega), (by omega)⟩ dX12_put_12 (fun z_1 az_1 bz_1 cz_1 => ?_)
      refine r_if_le (tgt := 43) hx hb ⟨(by omega), (by omega)⟩ dX12_put_13 (by decide) (fun c_2 => ?_) (fun c_2 => ?_)
      · refine lv_aload_n hx hb dX12_put_43 rfl (lv_at hl 2 rfl) ?_
        refine lv_iload_n hx hb dX12_put_44 rfl (lv_at hl 3 rfl) ?_
        refine lv_lload_n hx hb dX12_put_45 rfl (lv_at hl 4 rfl) ?_
        refine lv_lconst (v := jv 0) hx hb dX12_put_46 (by decide) ?_
        refine r_lcmp hx hb ⟨(by omega), (by omega)⟩ ⟨(by omega), (by omega)⟩ dX12_put_47 (fun z_3 az_3 bz_3 cz_3 => ?_)
        refine r_if_ge (tgt := 57) hx hb ⟨(by omega), (by omega)⟩ dX12_put_48 (by decide) (fun c_4 => ?_) (fun c_4 => ?_)
        · refine lv_iload hx hb dX12_put_57 (lv_at hl 0 rfl) ?_
          refine rIast Cx hW hL (k := ka) hika.lt hika.1 (by omega) (by omega) (by omega) dX12_put_59 (fun H locs hW hL => ?_)
          have F_5 : Fr S (uA S9 ka po nn) (p1 ka) := hFm9.A p1_0
          have F_6 : Fr S (uA S9 ka po nn) (p1 ka) := hL9_.A p1_0
          have i_7 : dX G (uA S9 ka po nn) := hI9.Aj hika ⟨by omega, by omega⟩
          exact sVret Cx hr hlk hW hL ⟨i_7, F_5, ⟨(put_fin (s := 1) (n := nn) (W := x0) (by omega) (by omega) (by omega) hl9 (fun q => ht q (by omega)) (by have e := hV; rw [show xx = 0 by omega] at e; omega)).1, (by have e := (put_fin (S := S9) (a := ka) (r := po) (s := 1) (n := nn) (W := x0) (L := 3) (hd := nn) (by omega) (by omega) (by omega) hl9 (fun q => ht q (by omega)) (by have e := hV; rw [show xx = 0 by omega] at e; omega)).2; rw [e]; omega), (fun j a => by rw [uA_ne (fun q => by have := q.2; omega)]; exact ho j (by omega))⟩⟩ dX12_put_60
        · refine lv_iload hx hb dX12_put_51 (lv_at hl 0 rfl) ?_
          refine r_ineg hx hb dX12_put_53 ?_
          refine lv_goto (tgt := 59) hx hb dX12_put_54 (by decide) ?_
          refine rIast Cx hW hL (k := ka) hika.lt hika.1 (by omega) (by omega) (by omega) dX12_put_59 (fun H locs hW hL => ?_)
          have F_8 : Fr S (uA S9 ka po (-nn)) (p1 ka) := hFm9.A p1_0
          have F_9 : Fr S (uA S9 ka po (-nn)) (p1 ka) := hL9_.A p1_0
          have i_10 : dX G (uA S9 ka po (-nn)) := hI9.Aj hika ⟨by omega, by omega⟩
          exact sVret Cx hr hlk hW hL ⟨i_10, F_8, ⟨(put_fin (s := (-1)) (n := nn) (W := x0) (by omega) (by omega) (by omega) hl9 (fun q => ht q (by omega)) (by have e := hV; rw [show xx = 0 by omega] at e; omega)).1, (by have e := (put_fin (S := S9) (a := ka) (r := po) (s := (-1)) (n := nn) (W := x0) (L := 3) (hd := -nn) (by omega) (by omega) (by omega) hl9 (fun q => ht q (by omega)) (by have e := hV; rw [show xx = 0 by omega] at e; omega)).2; rw [e]; omega), (fun j a => by rw [uA_ne (fun q => by have := q.2; omega)]; exact ho j (by omega))⟩⟩ dX12_put_60
      · refine lv_iinc (v := iv (nn + 1)) (lv' := [(6, .int (iv (nn + 1))), (4, .long (jv xx)), (0, .ref (G.2.2.1 + ka)), (1, .int (iv po)), (2, .long (jv v))]) hx hb dX12_put_16 hl (k := 0) rfl ((Int32.ofInt_add _ _).symm) (by decide) rfl (fun ls hl => ?_)
        refine lv_aload_n hx hb dX12_put_19 rfl (lv_at hl 2 rfl) ?_
        refine lv_iload_n hx hb dX12_put_20 rfl (lv_at hl 3 rfl) ?_
        refine lv_iload hx hb dX12_put_21 (lv_at hl 0 rfl) ?_
        refine r_iadd hx hb dX12_put_23 ?_
        refine lv_lload hx hb dX12_put_24 (lv_at hl 1 rfl) ?_
        refine lv_ldc2 hx hb hown (hts _ w_2464) dX12_put_26 ?_
        refine r_lrem hx hb ⟨(by omega), (by omega)⟩ ⟨(by omega), (by omega)⟩ (by omega) dX12_put_29 ?_
        refine r_j (b := xx % 1000000000) (Int.tmod_eq_emod_of_nonneg (by omega)) ?_
        refine r_l2i hx hb dX12_put_30 ?_
        refine rIast Cx hW hL (k := ka) hika.lt hika.1 (by omega) (by omega) (by omega) dX12_put_31 (fun H locs hW hL => ?_)
        have F_11 : Fr S (uA S9 ka (po + (nn + 1)) (xx % 1000000000)) (p1 ka) := hFm9.A p1_0
        have F_12 : Fr S (uA S9 ka (po + (nn + 1)) (xx % 1000000000)) (p1 ka) := hL9_.A p1_0
        have i_13 : dX G (uA S9 ka (po + (nn + 1)) (xx % 1000000000)) := hI9.Aj hika ⟨by omega, by omega⟩
        refine lv_lload hx hb dX12_put_32 (lv_at hl 1 rfl) ?_
        refine lv_ldc2 hx hb hown (hts _ w_2464) dX12_put_34 ?_
        refine r_ldiv hx hb ⟨(by omega), (by omega)⟩ ⟨(by omega), (by omega)⟩ (by omega) dX12_put_37 ?_
        refine r_j (b := xx / 1000000000) (Int.tdiv_eq_ediv_of_nonneg (by omega)) ?_
        refine lv_lstore (lv' := [(4, .long (jv (xx / 1000000000))), (6, .int (iv (nn + 1))), (0, .ref (G.2.2.1 + ka)), (1, .int (iv po)), (2, .long (jv v))]) hx hb dX12_put_38 hl (by decide) rfl (fun ls hl => ?_)
        refine lv_goto (tgt := 9) hx hb dX12_put_40 (by decide) ?_
        exact ih_9 (uA S9 ka (po + (nn + 1)) (xx % 1000000000)) (nn + 1) (xx / 1000000000) _ _ _ (by omega) i_13 F_11 F_12 (by omega) (by omega) (fun j a b => if e : j = nn then (by rw [e, cf_on]; omega) else (by rw [cf_ne e]; exact hl9 j a (by omega))) (putS hn.1 hV (fun j a b => cf_ne (by omega)) cf_on (by omega)) (fun _ q => by rw [show nn + 1 - 1 = nn by omega, cf_on]; omega) (fun j a => by rw [uA_ne (fun q => by have := q.2; omega)]; exact ho j (by omega)) hW hL (lv_sub hl [1, 0, 2, 3, 4] rfl)
  exact loop_9 (_ + 1) S 0 x0 _ _ _ (Nat.lt_succ_self _) hI (Fr.rf : Fr S S (p1 ka)) Fr.rf (by omega) (by omega) (fun j a b => absurd b (by omega)) (by show 0 + x0 * 1 = x0; omega) (fun q => absurd q (by omega)) (fun j _ => rfl) hW hL (lv_sub hl [0, 1, 2, 3, 4] rfl)

set_option maxRecDepth 100000 in
set_option maxHeartbeats 4000000 in
theorem s_X12_copy (l : Launch) (G : sG) (S : sS) {ka kb Nka Nkb : Nat} {po qo La : Int} (hI : dX G S) (hika : ia ka Nka) (hikb : ia kb Nkb) (nkbka : Hd (kb ≠ ka)) (hR : 0 ≤ po ∧ po + La < Nka ∧ 0 ≤ qo ∧ qo + La < Nkb ∧ La ≤ 64) (hA : NO (S.2.1 ka) po La) : Met l yX12_copy (.code yX12_copy cX12_copy 6 none :: tb) (rmk 3 0 0) (sPc G 294 S [.ref (G.2.2.1 + ka), .int (iv po), .ref (G.2.2.1 + kb), .int (iv qo)]) (sQv G 294 (fun u => dX G u ∧ Fr S u (p1 kb) ∧ ((NO (u.2.1 kb) qo La ∧ nv (u.2.1 kb) qo = nv (S.2.1 ka) po ∧ u.2.1 kb qo = S.2.1 ka po) ∧ ∀ j, j < qo ∨ qo + La < j → u.2.1 kb j = S.2.1 kb j))) 0 0 (sF G) := by
  refine sEnter (by decide) (Nat.le_of_ble_eq_true rfl) ?_
  intro p e s m args below meth c Cx hr hlk hnm hW ls hl
  have Cx : sC G p m c cX12_copy 6 s args RX12 := Cx
  obtain ⟨hx, hb, hml, hown, hts⟩ := id Cx.1
  have hL : sL G [] := sL_nil
  have hl : lv_has ls 6 [(0, .ref (G.2.2.1 + ka)), (1, .int (iv po)), (2, .ref (G.2.2.1 + kb)), (3, .int (iv qo))] := hl
  have hW0 := hW
  have hN := hika.2.2.2.1
  have hA1 := hA.b
  have hA0 := hA.1
  have hNb := hikb.2.2.2.1
  refine lv_aload_n hx hb dX12_copy_0 rfl (lv_at hl 0 rfl) ?_
  refine lv_iload_n hx hb dX12_copy_1 rfl (lv_at hl 1 rfl) ?_
  refine sBi (sSt (As := [.ref (G.2.2.1 + ka), .int (iv po)]) (rest := []) Cx (s_X12_limbs l G S (ka := ka) (po := po) (Nka := Nka) hI hika (by omega) (by omega)) (c_X12_221 Cx rfl rfl (rmk_ok (by omega) (by decide))) hW rfl hl.1 rfl (Nat.le_of_ble_eq_true rfl) dX12_copy_2 ⟨Nat.le_of_ble_eq_true rfl, Nat.le_of_ble_eq_true rfl⟩) hL (fun n u_1 H locs k_2 hW hL => ?_)
  obtain ⟨eu_1, xu_1⟩ := k_2
  rw [eu_1] at hW
  refine lv_istore (lv' := [(4, .int (iv n)), (0, .ref (G.2.2.1 + ka)), (1, .int (iv po)), (2, .ref (G.2.2.1 + kb)), (3, .int (iv qo))]) hx hb dX12_copy_5 hl (by decide) rfl (fun ls hl => ?_)
  refine lv_iconst (v := iv 0) hx hb dX12_copy_7 (by decide) ?_
  refine lv_istore (lv' := [(5, .int (iv 0)), (4, .int (iv n)), (0, .ref (G.2.2.1 + ka)), (1, .int (iv po)), (2, .ref (G.2.2.1 + kb)), (3, .int (iv qo))]) hx hb dX12_copy_8 hl (by decide) rfl (fun ls hl => ?_)
  have loop_10 : ∀ (fuel : Nat) (S10 : sS) (k : Int) (H : Heap) (locs : List Loc) (ls : Array Slot), (n + 1 - k).toNat < fuel → (dX G S10) → (Fr S S10 (p1 kb)) → (Fr S S10 (p1 kb)) → (0 ≤ k ∧ k ≤ n + 1) → (∀ j, 0 ≤ j → j < k → S10.2.1 kb (qo + j) = S.2.1 ka (po + j)) → (∀ j, j < qo ∨ qo + k ≤ j → S10.2.1 kb j = S.2.1 kb j) → sW G 294 S10 H → sL G locs → lv_has ls 6 [(5, .int (iv k)), (4, .int (iv n)), (0, .ref (G.2.2.1 + ka)), (1, .int (iv po)), (2, .ref (G.2.2.1 + kb)), (3, .int (iv qo))] → W p l e (rmk 3 0 0) s m args below meth c H locs 0 0 (MQ below (sQv G 294 (fun u => dX G u ∧ Fr S u (p1 kb) ∧ ((NO (u.2.1 kb) qo La ∧ nv (u.2.1 kb) qo = nv (S.2.1 ka) po ∧ u.2.1 kb qo = S.2.1 ka po) ∧ ∀ j, j < qo ∨ qo + La < j → u.2.1 kb j = S.2.1 kb j))) args s 0 0 (sF G)) (F0 m 10 ls []) := by
    intro fuel
    induction fuel with
    | zero => intro S10 k H locs ls hmeas hI10 hFm10 hL10_ hk hcp ho hW hL hl; exact absurd hmeas (Nat.not_lt_zero _)
    | succ fuel ih_10 =>
      intro S10 k H locs ls hmeas hI10 hFm10 hL10_ hk hcp ho hW hL hl
      refine lv_iload hx hb dX12_copy_10 (lv_at hl 0 rfl) ?_
      refine lv_iload hx hb dX12_copy_12 (lv_at hl 1 rfl) ?_
      refine r_icmp_gt (tgt := 35) hx hb ⟨(by omega), (by omega)⟩ ⟨(by omega), (by omega)⟩ dX12_copy_14 (by decide) (fun c_3 => ?_) (fun c_3 => ?_)
      · exact sVret Cx hr hlk hW hL ⟨hI10, hFm10, ⟨⟨(hA.cg (g := S10.2.1 kb) (q := qo) (by have e := hcp 0 (by omega) (by omega); rw [show qo + 0 = qo by omega, show po + 0 = po by omega] at e; exact e) (fun i i0 i1 => hcp i (by omega) (by omega))).1, (hA.cg (g := S10.2.1 kb) (q := qo) (by have e := hcp 0 (by omega) (by omega); rw [show qo + 0 = qo by omega, show po + 0 = po by omega] at e; exact e) (fun i i0 i1 => hcp i (by omega) (by omega))).2.1, (by have e := hcp 0 (by omega) (by omega); rw [show qo + 0 = qo by omega, show po + 0 = po by omega] at e; exact e)⟩, (fun j a => ho j (by omega))⟩⟩ dX12_copy_35
      · refine lv_aload_n hx hb dX12_copy_17 rfl (lv_at hl 4 rfl) ?_
        refine lv_iload_n hx hb dX12_copy_18 rfl (lv_at hl 5 rfl) ?_
        refine lv_iload hx hb dX12_copy_19 (lv_at hl 0 rfl) ?_
        refine r_iadd hx hb dX12_copy_21 ?_
        refine lv_aload_n hx hb dX12_copy_22 rfl (lv_at hl 2 rfl) ?_
        refine lv_iload_n hx hb dX12_copy_23 rfl (lv_at hl 3 rfl) ?_
        refine lv_iload hx hb dX12_copy_24 (lv_at hl 0 rfl) ?_
        refine r_iadd hx hb dX12_copy_26 ?_
        refine rIald Cx hW (k := ka) hika.lt hika.1 (by omega) (by omega) (by omega) dX12_copy_27 ?_
        have q_4 : (-2147483648) ≤ S.2.1 ka (po + k) ∧ S.2.1 ka (po + k) ≤ 2147483647 := hI.aj hika.ge (po + k)
        refine r_i (b := S.2.1 ka (po + k)) ((hL10_ ka (p1_no (neS nkbka))).2.1 (po + k)) ?_
        refine rIast Cx hW hL (k := kb) hikb.lt hikb.1 (by omega) (by omega) (by omega) dX12_copy_28 (fun H locs hW hL => ?_)
        have F_5 : Fr S (uA S10 kb (qo + k) (S.2.1 ka (po + k))) (p1 kb) := hFm10.A p1_0
        have F_6 : Fr S (uA S10 kb (qo + k) (S.2.1 ka (po + k))) (p1 kb) := hL10_.A p1_0
        have i_7 : dX G (uA S10 kb (qo + k) (S.2.1 ka (po + k))) := hI10.Aj hikb ⟨by omega, by omega⟩
        refine lv_iinc (v := iv (k + 1)) (lv' := [(5, .int (iv (k + 1))), (4, .int (iv n)), (0, .ref (G.2.2.1 + ka)), (1, .int (iv po)), (2, .ref (G.2.2.1 + kb)), (3, .int (iv qo))]) hx hb dX12_copy_29 hl (k := 0) rfl ((Int32.ofInt_add _ _).symm) (by decide) rfl (fun ls hl => ?_)
        refine lv_goto (tgt := 10) hx hb dX12_copy_32 (by decide) ?_
        exact ih_10 (uA S10 kb (qo + k) (S.2.1 ka (po + k))) (k + 1) _ _ _ (by omega) i_7 F_5 F_6 (by omega) (fun j a b => if e : j = k then (by rw [e, uA_on]) else (by rw [uA_ne (fun q => by have := q.2; omega)]; exact hcp j a (by omega))) (fun j a => by rw [uA_ne (fun q => by have := q.2; omega)]; exact ho j (by omega)) hW hL (lv_sub hl [0, 1, 2, 3, 4, 5] rfl)
  exact loop_10 (_ + 1) S 0 _ _ _ (Nat.lt_succ_self _) hI (Fr.rf : Fr S S (p1 kb)) Fr.rf (by omega) (fun j a b => absurd b (by omega)) (fun j _ => rfl) hW hL (lv_sub hl [0, 1, 2, 3, 4, 5] rfl)

set_option maxRecDepth 100000 in
set_option maxHeartbeats 4000000 in
theorem s_X12_copy_s (l : Launch) (G : sG) (S : sS) {ka Nka : Nat} {po qo La : Int} (hI : dX G S) (hika : ia ka Nka) (hR : 0 ≤ po ∧ po + La < Nka ∧ 0 ≤ qo ∧ qo + La < Nka ∧ La ≤ 64) (hA : NO (S.2.1 ka) po La) (hdj : po + La < qo ∨ qo ≤ po) : Met l yX12_copy (.code yX12_copy cX12_copy 6 none :: tb) (rmk 3 0 0) (sPc G 294 S [.ref (G.2.2.1 + ka), .int (iv po), .ref (G.2.2.1 + ka), .int (iv qo)]) (sQv G 294 (fun u => dX G u ∧ Fr S u (p1 ka) ∧ ((NO (u.2.1 ka) qo La ∧ nv (u.2.1 ka) qo = nv (S.2.1 ka) po ∧ u.2.1 ka qo = S.2.1 ka po) ∧ ∀ j, j < qo ∨ qo + La < j → u.2.1 ka j = S.2.1 ka j))) 0 0 (sF G) := by
  refine sEnter (by decide) (Nat.le_of_ble_eq_true rfl) ?_
  intro p e s m args below meth c Cx hr hlk hnm hW ls hl
  have Cx : sC G p m c cX12_copy 6 s args RX12 := Cx
  obtain ⟨hx, hb, hml, hown, hts⟩ := id Cx.1
  have hL : sL G [] := sL_nil
  have hl : lv_has ls 6 [(0, .ref (G.2.2.1 + ka)), (1, .int (iv po)), (2, .ref (G.2.2.1 + ka)), (3, .int (iv qo))] := hl
  have hW0 := hW
  have hN := hika.2.2.2.1
  have hA1 := hA.b
  have hA0 := hA.1
  refine lv_aload_n hx hb dX12_copy_0 rfl (lv_at hl 0 rfl) ?_
  refine lv_iload_n hx hb dX12_copy_1 rfl (lv_at hl 1 rfl) ?_
  refine sBi (sSt (As := [.ref (G.2.2.1 + ka), .int (iv po)]) (rest := []) Cx (s_X12_limbs l G S (ka := ka) (po := po) (Nka := Nka) hI hika (by omega) (by omega)) (c_X12_221 Cx rfl rfl (rmk_ok (by omega) (by decide))) hW rfl hl.1 rfl (Nat.le_of_ble_eq_true rfl) dX12_copy_2 ⟨Nat.le_of_ble_eq_true rfl, Nat.le_of_ble_eq_true rfl⟩) hL (fun n u_1 H locs k_2 hW hL => ?_)
  obtain ⟨eu_1, xu_1⟩ := k_2
  rw [eu_1] at hW
  refine lv_istore (lv' := [(4, .int (iv n)), (0, .ref (G.2.2.1 + ka)), (1, .int (iv po)), (2, .ref (G.2.2.1 + ka)), (3, .int (iv qo))]) hx hb dX12_copy_5 hl (by decide) rfl (fun ls hl => ?_)
  refine lv_iconst (v := iv 0) hx hb dX12_copy_7 (by decide) ?_
  refine lv_istore (lv' := [(5, .int (iv 0)), (4, .int (iv n)), (0, .ref (G.2.2.1 + ka)), (1, .int (iv po)), (2, .ref (G.2.2.1 + ka)), (3, .int (iv qo))]) hx hb dX12_copy_8 hl (by decide) rfl (fun ls hl => ?_)
  have loop_10 : ∀ (fuel : Nat) (S10 : sS) (k : Int) (H : Heap) (locs : List Loc) (ls : Array Slot), (n + 1 - k).toNat < fuel → (dX G S10) → (Fr S S10 (p1 ka)) → (Fr S S10 (p1 ka)) → (0 ≤ k ∧ k ≤ n + 1) → (∀ j, 0 ≤ j → j < k → S10.2.1 ka (qo + j) = S.2.1 ka (po + j)) → (∀ j, j < qo ∨ qo + k ≤ j → S10.2.1 ka j = S.2.1 ka j) → sW G 294 S10 H → sL G locs → lv_has ls 6 [(5, .int (iv k)), (4, .int (iv n)), (0, .ref (G.2.2.1 + ka)), (1, .int (iv po)), (2, .ref (G.2.2.1 + ka)), (3, .int (iv qo))] → W p l e (rmk 3 0 0) s m args below meth c H locs 0 0 (MQ below (sQv G 294 (fun u => dX G u ∧ Fr S u (p1 ka) ∧ ((NO (u.2.1 ka) qo La ∧ nv (u.2.1 ka) qo = nv (S.2.1 ka) po ∧ u.2.1 ka qo = S.2.1 ka po) ∧ ∀ j, j < qo ∨ qo + La < j → u.2.1 ka j = S.2.1 ka j))) args s 0 0 (sF G)) (F0 m 10 ls []) := by
    intro fuel
    induction fuel with
    | zero => intro S10 k H locs ls hmeas hI10 hFm10 hL10_ hk hcp ho hW hL hl; exact absurd hmeas (Nat.not_lt_zero _)
    | succ fuel ih_10 =>
      intro S10 k H locs ls hmeas hI10 hFm10 hL10_ hk hcp ho hW hL hl
      refine lv_iload hx hb dX12_copy_10 (lv_at hl 0 rfl) ?_
      refine lv_iload hx hb dX12_copy_12 (lv_at hl 1 rfl) ?_
      refine r_icmp_gt (tgt := 35) hx hb ⟨(by omega), (by omega)⟩ ⟨(by omega), (by omega)⟩ dX12_copy_14 (by decide) (fun c_3 => ?_) (fun c_3 => ?_)
      · exact sVret Cx hr hlk hW hL ⟨hI10, hFm10, ⟨⟨(hA.cg (g := S10.2.1 ka) (q := qo) (by have e := hcp 0 (by omega) (by omega); rw [show qo + 0 = qo by omega, show po + 0 = po by omega] at e; exact e) (fun i i0 i1 => hcp i (by omega) (by omega))).1, (hA.cg (g := S10.2.1 ka) (q := qo) (by have e := hcp 0 (by omega) (by omega); rw [show qo + 0 = qo by omega, show po + 0 = po by omega] at e; exact e) (fun i i0 i1 => hcp i (by omega) (by omega))).2.1, (by have e := hcp 0 (by omega) (by omega); rw [show qo + 0 = qo by omega, show po + 0 = po by omega] at e; exact e)⟩, (fun j a => ho j (by omega))⟩⟩ dX12_copy_35
      · refine lv_aload_n hx hb dX12_copy_17 rfl (lv_at hl 4 rfl) ?_
        refine lv_iload_n hx hb dX12_copy_18 rfl (lv_at hl 5 rfl) ?_
        refine lv_iload hx hb dX12_copy_19 (lv_at hl 0 rfl) ?_
        refine r_iadd hx hb dX12_copy_21 ?_
        refine lv_aload_n hx hb dX12_copy_22 rfl (lv_at hl 2 rfl) ?_
        refine lv_iload_n hx hb dX12_copy_23 rfl (lv_at hl 3 rfl) ?_
        refine lv_iload hx hb dX12_copy_24 (lv_at hl 0 rfl) ?_
        refine r_iadd hx hb dX12_copy_26 ?_
        refine rIald Cx hW (k := ka) hika.lt hika.1 (by omega) (by omega) (by omega) dX12_copy_27 ?_
        have q_4 : (-2147483648) ≤ S10.2.1 ka (po + k) ∧ S10.2.1 ka (po + k) ≤ 2147483647 := hI10.aj hika.ge (po + k)
        refine r_i (b := S10.2.1 ka (po + k)) rfl ?_
        refine rIast Cx hW hL (k := ka) hika.lt hika.1 (by omega) (by omega) (by omega) dX12_copy_28 (fun H locs hW hL => ?_)
        have F_5 : Fr S (uA S10 ka (qo + k) (S10.2.1 ka (po + k))) (p1 ka) := hFm10.A p1_0
        have F_6 : Fr S (uA S10 ka (qo + k) (S10.2.1 ka (po + k))) (p1 ka) := hL10_.A p1_0
        have i_7 : dX G (uA S10 ka (qo + k) (S10.2.1 ka (po + k))) := hI10.Aj hika ⟨by omega, by omega⟩
        refine lv_iinc (v := iv (k + 1)) (lv' := [(5, .int (iv (k + 1))), (4, .int (iv n)), (0, .ref (G.2.2.1 + ka)), (1, .int (iv po)), (2, .ref (G.2.2.1 + ka)), (3, .int (iv qo))]) hx hb dX12_copy_29 hl (k := 0) rfl ((Int32.ofInt_add _ _).symm) (by decide) rfl (fun ls hl => ?_)
        refine lv_goto (tgt := 10) hx hb dX12_copy_32 (by decide) ?_
        exact ih_10 (uA S10 ka (qo + k) (S10.2.1 ka (po + k))) (k + 1) _ _ _ (by omega) i_7 F_5 F_6 (by omega) (fun j a b => if e : j = k then (by rw [e, uA_on]; exact ho _ (by omega)) else (by rw [uA_ne (fun q => by have := q.2; omega)]; exact hcp j a (by omega))) (fun j a => by rw [uA_ne (fun q => by have := q.2; omega)]; exact ho j (by omega)) hW hL (lv_sub hl [0, 1, 2, 3, 4, 5] rfl)
  exact loop_10 (_ + 1) S 0 _ _ _ (Nat.lt_succ_self _) hI (Fr.rf : Fr S S (p1 ka)) Fr.rf (by omega) (fun j a b => absurd b (by omega)) (fun j _ => rfl) hW hL (lv_sub hl [0, 1, 2, 3, 4, 5] rfl)

set_option maxRecDepth 100000 in
set_option maxHeartbeats 4000000 in
theorem s_X12_negate (l : Launch) (G : sG) (S : sS) {ka Nka : Nat} {po La : Int} (hI : dX G S) (hika : ia ka Nka) (hp : 0 ≤ po ∧ po < Nka ∧ La ≤ 64) (hA : NO (S.2.1 ka) po La) : Met l yX12_negate (.code yX12_negate cX12_negate 2 none :: tb) (rmk 1 0 0) (sPc G 294 S [.ref (G.2.2.1 + ka), .int (iv po)]) (sQv G 294 (fun u => dX G u ∧ Fr S u (p1 ka) ∧ (NO (u.2.1 ka) po La ∧ nv (u.2.1 ka) po = -nv (S.2.1 ka) po ∧ u = uA S ka po (-(S.2.1 ka po))))) 0 0 (sF G) := by
  refine sEnter (by decide) (Nat.le_of_ble_eq_true rfl) ?_
  intro p e s m args below meth c Cx hr hlk hnm hW ls hl
  have Cx : sC G p m c cX12_negate 2 s args RX12 := Cx
  obtain ⟨hx, hb, hml, hown, hts⟩ := id Cx.1
  have hL : sL G [] := sL_nil
  have hl : lv_has ls 2 [(0, .ref (G.2.2.1 + ka)), (1, .int (iv po))] := hl
  have hW0 := hW
  have hN := hika.2.2.2.1
  have hA1 := hA.b
  refine lv_aload_n hx hb dX12_negate_0 rfl (lv_at hl 0 rfl) ?_
  refine lv_iload_n hx hb dX12_negate_1 rfl (lv_at hl 1 rfl) ?_
  refine lv_aload_n hx hb dX12_negate_2 rfl (lv_at hl 0 rfl) ?_
  refine lv_iload_n hx hb dX12_negate_3 rfl (lv_at hl 1 rfl) ?_
  refine rIald Cx hW (k := ka) hika.lt hika.1 (by omega) (by omega) (by omega) dX12_negate_4 ?_
  have q_1 : (-2147483648) ≤ S.2.1 ka po ∧ S.2.1 ka po ≤ 2147483647 := hI.aj hika.ge po
  refine r_i (b := S.2.1 ka po) rfl ?_
  refine r_ineg hx hb dX12_negate_5 ?_
  refine rIast Cx hW hL (k := ka) hika.lt hika.1 (by omega) (by omega) (by omega) dX12_negate_6 (fun H locs hW hL => ?_)
  have F_2 : Fr S (uA S ka po (-(S.2.1 ka po))) (p1 ka) := (Fr.rf : Fr S S (p1 ka)).A p1_0
  have i_3 : dX G (uA S ka po (-(S.2.1 ka po))) := hI.Aj hika ⟨by omega, by omega⟩
  exact sVret Cx hr hlk hW hL ⟨i_3, F_2, ⟨hA.neg.1, hA.neg.2, rfl⟩⟩ dX12_negate_7

set_option maxRecDepth 100000 in
set_option maxHeartbeats 4000000 in
theorem s_X12_trim (l : Launch) (G : sG) (S : sS) {ka Nka : Nat} {po n0 sn : Int} (hI : dX G S) (hika : ia ka Nka) (hp : 0 ≤ po ∧ 0 ≤ n0 ∧ po + n0 < Nka) (hsn : -1 ≤ sn ∧ sn ≤ 1) (hsz : Hd (sn = 0 → V (cf (S.2.1 ka) po) 0 n0.toNat = 0)) (hl9 : ∀ j, 0 ≤ j → j < n0 → 0 ≤ cf (S.2.1 ka) po j ∧ cf (S.2.1 ka) po j ≤ 999999999) : Met l yX12_trim (.code yX12_trim cX12_trim 5 none :: tb) (rmk 1 0 0) (sPc G 294 S [.ref (G.2.2.1 + ka), .int (iv po), .int (iv n0), .int (iv sn)]) (sQv G 294 (fun u => dX G u ∧ Fr S u (p1 ka) ∧ (NO (u.2.1 ka) po n0 ∧ nv (u.2.1 ka) po = sn * V (cf (S.2.1 ka) po) 0 n0.toNat ∧ ∀ j, j ≠ po → u.2.1 ka j = S.2.1 ka j))) 0 0 (sF G) := by
  refine sEnter (by decide) (Nat.le_of_ble_eq_true rfl) ?_
  intro p e s m args below meth c Cx hr hlk hnm hW ls hl
  have Cx : sC G p m c cX12_trim 5 s args RX12 := Cx
  obtain ⟨hx, hb, hml, hown, hts⟩ := id Cx.1
  have hL : sL G [] := sL_nil
  have hl : lv_has ls 5 [(0, .ref (G.2.2.1 + ka)), (1, .int (iv po)), (2, .int (iv n0)), (3, .int (iv sn))] := hl
  have hW0 := hW
  have hN := hika.2.2.2.1
  refine lv_iload_n hx hb dX12_trim_0 rfl (lv_at hl 2 rfl) ?_
  refine lv_istore (lv' := [(4, .int (iv n0)), (0, .ref (G.2.2.1 + ka)), (1, .int (iv po)), (2, .int (iv n0)), (3, .int (iv sn))]) hx hb dX12_trim_1 hl (by decide) rfl (fun ls hl => ?_)
  have loop_3 : ∀ (fuel : Nat) (k : Int) (H : Heap) (locs : List Loc) (ls : Array Slot), k.toNat < fuel → (0 ≤ k ∧ k ≤ n0) → (V (cf (S.2.1 ka) po) 0 k.toNat = V (cf (S.2.1 ka) po) 0 n0.toNat) → sW G 294 S H → sL G locs → lv_has ls 5 [(4, .int (iv k)), (0, .ref (G.2.2.1 + ka)), (1, .int (iv po)), (2, .int (iv n0)), (3, .int (iv sn))] → W p l e (rmk 1 0 0) s m args below meth c H locs 0 0 (MQ below (sQv G 294 (fun u => dX G u ∧ Fr S u (p1 ka) ∧ (NO (u.2.1 ka) po n0 ∧ nv (u.2.1 ka) po = sn * V (cf (S.2.1 ka) po) 0 n0.toNat ∧ ∀ j, j ≠ po → u.2.1 ka j = S.2.1 ka j))) args s 0 0 (sF G)) (F0 m 3 ls []) := by
    intro fuel
    induction fuel with
    | zero => intro k H locs ls hmeas hk hz hW hL hl; exact absurd hmeas (Nat.not_lt_zero _)
    | succ fuel ih_3 =>
      intro k H locs ls hmeas hk hz hW hL hl
      refine lv_iload hx hb dX12_trim_3 (lv_at hl 0 rfl) ?_
      refine r_if_le (tgt := 23) hx hb ⟨(by omega), (by omega)⟩ dX12_trim_5 (by decide) (fun c_1 => ?_) (fun c_1 => ?_)
      · refine lv_aload_n hx hb dX12_trim_23 rfl (lv_at hl 1 rfl) ?_
        refine lv_iload_n hx hb dX12_trim_24 rfl (lv_at hl 2 rfl) ?_
        refine lv_iload_n hx hb dX12_trim_25 rfl (lv_at hl 4 rfl) ?_
        refine lv_iload hx hb dX12_trim_26 (lv_at hl 0 rfl) ?_
        refine r_imul hx hb dX12_trim_28 ?_
        obtain ⟨hd, ehd⟩ : ∃ z : Int, z = sn * k := ⟨_, rfl⟩
        refine r_i (b := hd) ehd.symm ?_
        have hdm := sgm ehd (by omega)
        refine rIast Cx hW hL (k := ka) hika.lt hika.1 (by omega) (by omega) (by omega) dX12_trim_29 (fun H locs hW hL => ?_)
        have F_2 : Fr S (uA S ka po hd) (p1 ka) := (Fr.rf : Fr S S (p1 ka)).A p1_0
        have i_3 : dX G (uA S ka po hd) := hI.Aj hika ⟨by omega, by omega⟩
        exact sVret Cx hr hlk hW hL ⟨i_3, F_2, ⟨(put_fin (S := S) (a := ka) (r := po) (s := sn) (n := k) (L := n0) (W := V (cf (S.2.1 ka) po) 0 n0.toNat) ehd (by rcases (by omega : sn = 1 ∨ sn = -1 ∨ sn = 0) with q | q | q; exact .inl q; exact .inr (.inl q); exact .inr (.inr ⟨q, hsz q⟩)) (by omega) (fun j a b => hl9 j a (by omega)) (fun q => by show S.2.1 ka (po + (k - 1 + 1)) ≠ 0; rw [show k - 1 + 1 = k by omega]; omega) hz).1, (put_fin (S := S) (a := ka) (r := po) (s := sn) (n := k) (L := n0) (W := V (cf (S.2.1 ka) po) 0 n0.toNat) ehd (by rcases (by omega : sn = 1 ∨ sn = -1 ∨ sn = 0) with q | q | q; exact .inl q; exact .inr (.inl q); exact .inr (.inr ⟨q, hsz q⟩)) (by omega) (fun j a b => hl9 j a (by omega)) (fun q => by show S.2.1 ka (po + (k - 1 + 1)) ≠ 0; rw [show k - 1 + 1 = k by omega]; omega) hz).2, (fun j a => uA_ne (fun q => a q.2))⟩⟩ dX12_trim_30
      · refine lv_aload_n hx hb dX12_trim_8 rfl (lv_at hl 1 rfl) ?_
        refine lv_iload_n hx hb dX12_trim_9 rfl (lv_at hl 2 rfl) ?_
        refine lv_iload hx hb dX12_trim_10 (lv_at hl 0 rfl) ?_
        refine r_iadd hx hb dX12_trim_12 ?_
        refine rIald Cx hW (k := ka) hika.lt hika.1 (by omega) (by omega) (by omega) dX12_trim_13 ?_
        have q_4 : (-2147483648) ≤ S.2.1 ka (po + k) ∧ S.2.1 ka (po + k) ≤ 2147483647 := hI.aj hika.ge (po + k)
        refine r_i (b := S.2.1 ka (po + k)) rfl ?_
        refine r_if_ne (tgt := 23) hx hb ⟨(by omega), (by omega)⟩ dX12_trim_14 (by decide) (fun c_5 => ?_) (fun c_5 => ?_)
        · refine lv_aload_n hx hb dX12_trim_23 rfl (lv_at hl 1 rfl) ?_
          refine lv_iload_n hx hb dX12_trim_24 rfl (lv_at hl 2 rfl) ?_
          refine lv_iload_n hx hb dX12_trim_25 rfl (lv_at hl 4 rfl) ?_
          refine lv_iload hx hb dX12_trim_26 (lv_at hl 0 rfl) ?_
          refine r_imul hx hb dX12_trim_28 ?_
          obtain ⟨hd, ehd⟩ : ∃ z : Int, z = sn * k := ⟨_, rfl⟩
          refine r_i (b := hd) ehd.symm ?_
          have hdm := sgm ehd (by omega)
          refine rIast Cx hW hL (k := ka) hika.lt hika.1 (by omega) (by omega) (by omega) dX12_trim_29 (fun H locs hW hL => ?_)
          have F_6 : Fr S (uA S ka po hd) (p1 ka) := (Fr.rf : Fr S S (p1 ka)).A p1_0
          have i_7 : dX G (uA S ka po hd) := hI.Aj hika ⟨by omega, by omega⟩
          exact sVret Cx hr hlk hW hL ⟨i_7, F_6, ⟨(put_fin (S := S) (a := ka) (r := po) (s := sn) (n := k) (L := n0) (W := V (cf (S.2.1 ka) po) 0 n0.toNat) ehd (by rcases (by omega : sn = 1 ∨ sn = -1 ∨ sn = 0) with q | q | q; exact .inl q; exact .inr (.inl q); exact .inr (.inr ⟨q, hsz q⟩)) (by omega) (fun j a b => hl9 j a (by omega)) (fun q => by show S.2.1 ka (po + (k - 1 + 1)) ≠ 0; rw [show k - 1 + 1 = k by omega]; omega) hz).1, (put_fin (S := S) (a := ka) (r := po) (s := sn) (n := k) (L := n0) (W := V (cf (S.2.1 ka) po) 0 n0.toNat) ehd (by rcases (by omega : sn = 1 ∨ sn = -1 ∨ sn = 0) with q | q | q; exact .inl q; exact .inr (.inl q); exact .inr (.inr ⟨q, hsz q⟩)) (by omega) (fun j a b => hl9 j a (by omega)) (fun q => by show S.2.1 ka (po + (k - 1 + 1)) ≠ 0; rw [show k - 1 + 1 = k by omega]; omega) hz).2, (fun j a => uA_ne (fun q => a q.2))⟩⟩ dX12_trim_30
        · refine lv_iinc (v := iv (k + (-1))) (lv' := [(4, .int (iv (k + (-1)))), (0, .ref (G.2.2.1 + ka)), (1, .int (iv po)), (2, .int (iv n0)), (3, .int (iv sn))]) hx hb dX12_trim_17 hl (k := 0) rfl ((Int32.ofInt_add _ _).symm) (by decide) rfl (fun ls hl => ?_)
          refine lv_goto (tgt := 3) hx hb dX12_trim_20 (by decide) ?_
          exact ih_3 (k + (-1)) _ _ _ (by omega) (by omega) (by rw [show k + (-1) = k - 1 by omega]; exact (V_dn (by omega) (by show S.2.1 ka (po + (k - 1 + 1)) = 0; rw [show k - 1 + 1 = k by omega]; omega)).trans hz) hW hL (lv_sub hl [0, 1, 2, 3, 4] rfl)
  exact loop_3 (_ + 1) n0 _ _ _ (Nat.lt_succ_self _) (by omega) rfl hW hL (lv_sub hl [0, 1, 2, 3, 4] rfl)

set_option maxRecDepth 100000 in
set_option maxHeartbeats 4000000 in
theorem s_X12_against (l : Launch) (G : sG) (S : sS) {ka kb Nka Nkb : Nat} {po qo La Lb : Int} (hI : dX G S) (hika : ia ka Nka) (hikb : ia kb Nkb) (hR : (0 ≤ po ∧ po + La < Nka) ∧ (0 ≤ qo ∧ qo + Lb < Nkb) ∧ La ≤ 64 ∧ Lb ≤ 64) (hA : NO (S.2.1 ka) po La) (hB : NO (S.2.1 kb) qo Lb) : Met l yX12_against (.code yX12_against cX12_against 7 (some .int) :: tb) (rmk 3 0 0) (sPc G 294 S [.ref (G.2.2.1 + ka), .int (iv po), .ref (G.2.2.1 + kb), .int (iv qo)]) (sQi G 294 (fun r u => u = S ∧ (((-1 ≤ r ∧ r ≤ 1) ∧ (r = -1 → al (S.2.1 ka) po ≤ al (S.2.1 kb) qo) ∧ (0 ≤ r → al (S.2.1 kb) qo ≤ al (S.2.1 ka) po)) ∧ Hd ((r = -1 → nu (S.2.1 ka) po < nu (S.2.1 kb) qo) ∧ (r = 0 → nu (S.2.1 ka) po = nu (S.2.1 kb) qo) ∧ (r = 1 → nu (S.2.1 kb) qo < nu (S.2.1 ka) po))))) 0 0 (sF G) := by
  refine sEnter (by decide) (Nat.le_of_ble_eq_true rfl) ?_
  intro p e s m args below meth c Cx hr hlk hnm hW ls hl
  have Cx : sC G p m c cX12_against 7 s args RX12 := Cx
  obtain ⟨hx, hb, hml, hown, hts⟩ := id Cx.1
  have hL : sL G [] := sL_nil
  have hl : lv_has ls 7 [(0, .ref (G.2.2.1 + ka)), (1, .int (iv po)), (2, .ref (G.2.2.1 + kb)), (3, .int (iv qo))] := hl
  have hW0 := hW
  have hN := hika.2.2.2.1
  have hNb := hikb.2.2.2.1
  have hA1 := hA.b
  have hB1 := hB.b
  have hA0 := hA.1
  have hB0 := hB.1
  refine lv_aload_n hx hb dX12_against_0 rfl (lv_at hl 0 rfl) ?_
  refine lv_iload_n hx hb dX12_against_1 rfl (lv_at hl 1 rfl) ?_
  refine sBi (sSt (As := [.ref (G.2.2.1 + ka), .int (iv po)]) (rest := []) Cx (s_X12_limbs l G S (ka := ka) (po := po) (Nka := Nka) hI hika (by omega) (by omega)) (c_X12_221 Cx rfl rfl (rmk_ok (by omega) (by decide))) hW rfl hl.1 rfl (Nat.le_of_ble_eq_true rfl) dX12_against_2 ⟨Nat.le_of_ble_eq_true rfl, Nat.le_of_ble_eq_true rfl⟩) hL (fun n u_1 H locs k_2 hW hL => ?_)
  obtain ⟨eu_1, xu_1⟩ := k_2
  rw [eu_1] at hW
  refine lv_istore (lv' := [(4, .int (iv n)), (0, .ref (G.2.2.1 + ka)), (1, .int (iv po)), (2, .ref (G.2.2.1 + kb)), (3, .int (iv qo))]) hx hb dX12_against_5 hl (by decide) rfl (fun ls hl => ?_)
  refine lv_aload_n hx hb dX12_against_7 rfl (lv_at hl 3 rfl) ?_
  refine lv_iload_n hx hb dX12_against_8 rfl (lv_at hl 4 rfl) ?_
  refine sBi (sSt (As := [.ref (G.2.2.1 + kb), .int (iv qo)]) (rest := []) Cx (s_X12_limbs l G S (ka := kb) (po := qo) (Nka := Nkb) hI hikb (by omega) (by omega)) (c_X12_221 Cx rfl rfl (rmk_ok (by omega) (by decide))) hW rfl hl.1 rfl (Nat.le_of_ble_eq_true rfl) dX12_against_9 ⟨Nat.le_of_ble_eq_true rfl, Nat.le_of_ble_eq_true rfl⟩) hL (fun mm u_3 H locs k_4 hW hL => ?_)
  obtain ⟨eu_3, xu_3⟩ := k_4
  rw [eu_3] at hW
  refine lv_istore (lv' := [(5, .int (iv mm)), (4, .int (iv n)), (0, .ref (G.2.2.1 + ka)), (1, .int (iv po)), (2, .ref (G.2.2.1 + kb)), (3, .int (iv qo))]) hx hb dX12_against_12 hl (by decide) rfl (fun ls hl => ?_)
  refine lv_iload hx hb dX12_against_14 (lv_at hl 1 rfl) ?_
  refine lv_iload hx hb dX12_against_16 (lv_at hl 0 rfl) ?_
  refine r_icmp_eq (tgt := 34) hx hb ⟨(by omega), (by omega)⟩ ⟨(by omega), (by omega)⟩ dX12_against_18 (by decide) (fun c_5 => ?_) (fun c_5 => ?_)
  · refine lv_iload hx hb dX12_against_34 (lv_at hl 1 rfl) ?_
    refine lv_istore (lv' := [(6, .int (iv n)), (5, .int (iv mm)), (4, .int (iv n)), (0, .ref (G.2.2.1 + ka)), (1, .int (iv po)), (2, .ref (G.2.2.1 + kb)), (3, .int (iv qo))]) hx hb dX12_against_36 hl (by decide) rfl (fun ls hl => ?_)
    have loop_38 : ∀ (fuel : Nat) (k : Int) (H : Heap) (locs : List Loc) (ls : Array Slot), k.toNat < fuel → (0 ≤ k ∧ k ≤ n) → (∀ j, k < j → j ≤ n → S.2.1 ka (po + j) = S.2.1 kb (qo + j)) → sW G 294 S H → sL G locs → lv_has ls 7 [(6, .int (iv k)), (5, .int (iv mm)), (4, .int (iv n)), (0, .ref (G.2.2.1 + ka)), (1, .int (iv po)), (2, .ref (G.2.2.1 + kb)), (3, .int (iv qo))] → W p l e (rmk 3 0 0) s m args below meth c H locs 0 0 (MQ below (sQi G 294 (fun r u => u = S ∧ (((-1 ≤ r ∧ r ≤ 1) ∧ (r = -1 → al (S.2.1 ka) po ≤ al (S.2.1 kb) qo) ∧ (0 ≤ r → al (S.2.1 kb) qo ≤ al (S.2.1 ka) po)) ∧ Hd ((r = -1 → nu (S.2.1 ka) po < nu (S.2.1 kb) qo) ∧ (r = 0 → nu (S.2.1 ka) po = nu (S.2.1 kb) qo) ∧ (r = 1 → nu (S.2.1 kb) qo < nu (S.2.1 ka) po))))) args s 0 0 (sF G)) (F0 m 38 ls []) := by
      intro fuel
      induction fuel with
      | zero => intro k H locs ls hmeas hk he hW hL hl; exact absurd hmeas (Nat.not_lt_zero _)
      | succ fuel ih_38 =>
        intro k H locs ls hmeas hk he hW hL hl
        refine lv_iload hx hb dX12_against_38 (lv_at hl 0 rfl) ?_
        refine r_if_le (tgt := 85) hx hb ⟨(by omega), (by omega)⟩ dX12_against_40 (by decide) (fun c_6 => ?_) (fun c_6 => ?_)
        · refine lv_iconst (v := iv 0) hx hb dX12_against_85 (by decide) ?_
          exact sIret Cx hr hlk hW hL ⟨rfl, ⟨(by omega), fun q => absurd q (by omega), fun _ => nu_eq (by omega) (fun j j0 j1 => he j (by omega) (by omega)), fun q => absurd q (by omega)⟩⟩ dX12_against_86
        · refine lv_aload_n hx hb dX12_against_43 rfl (lv_at hl 3 rfl) ?_
          refine lv_iload_n hx hb dX12_against_44 rfl (lv_at hl 4 rfl) ?_
          refine lv_iload hx hb dX12_against_45 (lv_at hl 0 rfl) ?_
          refine r_iadd hx hb dX12_against_47 ?_
          refine rIald Cx hW (k := ka) hika.lt hika.1 (by omega) (by omega) (by omega) dX12_against_48 ?_
          have q_7 : (-2147483648) ≤ S.2.1 ka (po + k) ∧ S.2.1 ka (po + k) ≤ 2147483647 := hI.aj hika.ge (po + k)
          refine r_i (b := S.2.1 ka (po + k)) rfl ?_
          refine lv_aload_n hx hb dX12_against_49 rfl (lv_at hl 5 rfl) ?_
          refine lv_iload_n hx hb dX12_against_50 rfl (lv_at hl 6 rfl) ?_
          refine lv_iload hx hb dX12_against_51 (lv_at hl 0 rfl) ?_
          refine r_iadd hx hb dX12_against_53 ?_
          refine rIald Cx hW (k := kb) hikb.lt hikb.1 (by omega) (by omega) (by omega) dX12_against_54 ?_
          have q_8 : (-2147483648) ≤ S.2.1 kb (qo + k) ∧ S.2.1 kb (qo + k) ≤ 2147483647 := hI.aj hikb.ge (qo + k)
          refine r_i (b := S.2.1 kb (qo + k)) rfl ?_
          refine r_icmp_eq (tgt := 79) hx hb ⟨(by omega), (by omega)⟩ ⟨(by omega), (by omega)⟩ dX12_against_55 (by decide) (fun c_9 => ?_) (fun c_9 => ?_)
          · refine lv_iinc (v := iv (k + (-1))) (lv' := [(6, .int (iv (k + (-1)))), (5, .int (iv mm)), (4, .int (iv n)), (0, .ref (G.2.2.1 + ka)), (1, .int (iv po)), (2, .ref (G.2.2.1 + kb)), (3, .int (iv qo))]) hx hb dX12_against_79 hl (k := 0) rfl ((Int32.ofInt_add _ _).symm) (by decide) rfl (fun ls hl => ?_)
            refine lv_goto (tgt := 38) hx hb dX12_against_82 (by decide) ?_
            exact ih_38 (k + (-1)) _ _ _ (by omega) (by omega) (fun j a b => if e : j = k then (by rw [e]; omega) else he j (by omega) b) hW hL (lv_sub hl [0, 1, 2, 3, 4, 5, 6] rfl)
          · refine lv_aload_n hx hb dX12_against_58 rfl (lv_at hl 3 rfl) ?_
            refine lv_iload_n hx hb dX12_against_59 rfl (lv_at hl 4 rfl) ?_
            refine lv_iload hx hb dX12_against_60 (lv_at hl 0 rfl) ?_
            refine r_iadd hx hb dX12_against_62 ?_
            refine rIald Cx hW (k := ka) hika.lt hika.1 (by omega) (by omega) (by omega) dX12_against_63 ?_
            refine r_i (b := S.2.1 ka (po + k)) rfl ?_
            refine lv_aload_n hx hb dX12_against_64 rfl (lv_at hl 5 rfl) ?_
            refine lv_iload_n hx hb dX12_against_65 rfl (lv_at hl 6 rfl) ?_
            refine lv_iload hx hb dX12_against_66 (lv_at hl 0 rfl) ?_
            refine r_iadd hx hb dX12_against_68 ?_
            refine rIald Cx hW (k := kb) hikb.lt hikb.1 (by omega) (by omega) (by omega) dX12_against_69 ?_
            refine r_i (b := S.2.1 kb (qo + k)) rfl ?_
            refine r_icmp_ge (tgt := 77) hx hb ⟨(by omega), (by omega)⟩ ⟨(by omega), (by omega)⟩ dX12_against_70 (by decide) (fun c_10 => ?_) (fun c_10 => ?_)
            · refine lv_iconst (v := iv 1) hx hb dX12_against_77 (by decide) ?_
              exact sIret Cx hr hlk hW hL ⟨rfl, ⟨(by omega), fun q => absurd q (by omega), fun q => absurd q (by omega), fun _ => nu_cmp hA hB (by omega) (k := k) (by omega) (by omega) (fun j j0 j1 => he j j0 (by omega))⟩⟩ dX12_against_78
            · refine lv_iconst (v := iv (-1)) hx hb dX12_against_73 (by decide) ?_
              refine lv_goto (tgt := 78) hx hb dX12_against_74 (by decide) ?_
              exact sIret Cx hr hlk hW hL ⟨rfl, ⟨(by omega), fun _ => nu_cmp hB hA (by omega) (k := k) (by omega) (by omega) (fun j j0 j1 => (he j j0 (by omega)).symm), fun q => absurd q (by omega), fun q => absurd q (by omega)⟩⟩ dX12_against_78
    exact loop_38 (_ + 1) n _ _ _ (Nat.lt_succ_self _) (by omega) (fun j a b => absurd b (by omega)) hW hL (lv_sub hl [0, 1, 2, 3, 4, 5, 6] rfl)
  · refine lv_iload hx hb dX12_against_21 (lv_at hl 1 rfl) ?_
    refine lv_iload hx hb dX12_against_23 (lv_at hl 0 rfl) ?_
    refine r_icmp_ge (tgt := 32) hx hb ⟨(by omega), (by omega)⟩ ⟨(by omega), (by omega)⟩ dX12_against_25 (by decide) (fun c_11 => ?_) (fun c_11 => ?_)
    · refine lv_iconst (v := iv 1) hx hb dX12_against_32 (by decide) ?_
      exact sIret Cx hr hlk hW hL ⟨rfl, ⟨(by omega), fun q => absurd q (by omega), fun q => absurd q (by omega), fun _ => nu_len hB hA (by omega)⟩⟩ dX12_against_33
    · refine lv_iconst (v := iv (-1)) hx hb dX12_against_28 (by decide) ?_
      refine lv_goto (tgt := 33) hx hb dX12_against_29 (by decide) ?_
      exact sIret Cx hr hlk hW hL ⟨rfl, ⟨(by omega), fun _ => nu_len hA hB (by omega), fun q => absurd q (by omega), fun q => absurd q (by omega)⟩⟩ dX12_against_33

set_option maxRecDepth 100000 in
set_option maxHeartbeats 4000000 in
theorem s_X12_compare (l : Launch) (G : sG) (S : sS) {ka kb Nka Nkb : Nat} {po qo La Lb : Int} (hI : dX G S) (hika : ia ka Nka) (hikb : ia kb Nkb) (hR : (0 ≤ po ∧ po + La < Nka) ∧ (0 ≤ qo ∧ qo + Lb < Nkb) ∧ La ≤ 64 ∧ Lb ≤ 64) (hA : NO (S.2.1 ka) po La) (hB : NO (S.2.1 kb) qo Lb) : Met l yX12_compare (.code yX12_compare cX12_compare 6 (some .int) :: tb) (rmk 4 0 0) (sPc G 294 S [.ref (G.2.2.1 + ka), .int (iv po), .ref (G.2.2.1 + kb), .int (iv qo)]) (sQi G 294 (fun r u => u = S ∧ ((-1 ≤ r ∧ r ≤ 1) ∧ Hd ((r < 0 → nv (S.2.1 ka) po < nv (S.2.1 kb) qo) ∧ (r = 0 → nv (S.2.1 ka) po = nv (S.2.1 kb) qo) ∧ (0 < r → nv (S.2.1 kb) qo < nv (S.2.1 ka) po))))) 0 0 (sF G) := by
  refine sEnter (by decide) (Nat.le_of_ble_eq_true rfl) ?_
  intro p e s m args below meth c Cx hr hlk hnm hW ls hl
  have Cx : sC G p m c cX12_compare 6 s args RX12 := Cx
  obtain ⟨hx, hb, hml, hown, hts⟩ := id Cx.1
  have hL : sL G [] := sL_nil
  have hl : lv_has ls 6 [(0, .ref (G.2.2.1 + ka)), (1, .int (iv po)), (2, .ref (G.2.2.1 + kb)), (3, .int (iv qo))] := hl
  have hW0 := hW
  have hN := hika.2.2.2.1
  have hNb := hikb.2.2.2.1
  have hA1 := hA.b
  have hB1 := hB.b
  have hA0 := hA.1
  have hB0 := hB.1
  have hsA := hA.sgn
  have hsB := hB.sgn
  have hvA := nv_abs hA
  have hvB := nv_abs hB
  have heA := sg_e (f := S.2.1 ka) (p := po)
  have heB := sg_e (f := S.2.1 kb) (p := qo)
  refine lv_aload_n hx hb dX12_compare_0 rfl (lv_at hl 0 rfl) ?_
  refine lv_iload_n hx hb dX12_compare_1 rfl (lv_at hl 1 rfl) ?_
  refine sBi (sSt (As := [.ref (G.2.2.1 + ka), .int (iv po)]) (rest := []) Cx (s_X12_sign l G S (ka := ka) (po := po) (Nka := Nka) hI hika (by omega)) (c_X12_225 Cx rfl rfl (rmk_ok (by omega) (by decide))) hW rfl hl.1 rfl (Nat.le_of_ble_eq_true rfl) dX12_compare_2 ⟨Nat.le_of_ble_eq_true rfl, Nat.le_of_ble_eq_true rfl⟩) hL (fun r_3 u_1 H locs k_2 hW hL => ?_)
  obtain ⟨eu_1, xu_1⟩ := k_2
  rw [eu_1] at hW
  refine lv_istore (lv' := [(4, .int (iv r_3)), (0, .ref (G.2.2.1 + ka)), (1, .int (iv po)), (2, .ref (G.2.2.1 + kb)), (3, .int (iv qo))]) hx hb dX12_compare_5 hl (by decide) rfl (fun ls hl => ?_)
  refine lv_aload_n hx hb dX12_compare_7 rfl (lv_at hl 3 rfl) ?_
  refine lv_iload_n hx hb dX12_compare_8 rfl (lv_at hl 4 rfl) ?_
  refine sBi (sSt (As := [.ref (G.2.2.1 + kb), .int (iv qo)]) (rest := []) Cx (s_X12_sign l G S (ka := kb) (po := qo) (Nka := Nkb) hI hikb (by omega)) (c_X12_225 Cx rfl rfl (rmk_ok (by omega) (by decide))) hW rfl hl.1 rfl (Nat.le_of_ble_eq_true rfl) dX12_compare_9 ⟨Nat.le_of_ble_eq_true rfl, Nat.le_of_ble_eq_true rfl⟩) hL (fun r_6 u_4 H locs k_5 hW hL => ?_)
  obtain ⟨eu_4, xu_4⟩ := k_5
  rw [eu_4] at hW
  refine lv_istore (lv' := [(5, .int (iv r_6)), (4, .int (iv r_3)), (0, .ref (G.2.2.1 + ka)), (1, .int (iv po)), (2, .ref (G.2.2.1 + kb)), (3, .int (iv qo))]) hx hb dX12_compare_12 hl (by decide) rfl (fun ls hl => ?_)
  refine lv_iload hx hb dX12_compare_14 (lv_at hl 1 rfl) ?_
  refine lv_iload hx hb dX12_compare_16 (lv_at hl 0 rfl) ?_
  refine r_icmp_eq (tgt := 34) hx hb ⟨(by omega), (by omega)⟩ ⟨(by omega), (by omega)⟩ dX12_compare_18 (by decide) (fun c_7 => ?_) (fun c_7 => ?_)
  · refine lv_iload hx hb dX12_compare_34 (lv_at hl 1 rfl) ?_
    refine r_if_lt (tgt := 49) hx hb ⟨(by omega), (by omega)⟩ dX12_compare_36 (by decide) (fun c_8 => ?_) (fun c_8 => ?_)
    · refine lv_aload_n hx hb dX12_compare_49 rfl (lv_at hl 4 rfl) ?_
      refine lv_iload_n hx hb dX12_compare_50 rfl (lv_at hl 5 rfl) ?_
      refine lv_aload_n hx hb dX12_compare_51 rfl (lv_at hl 2 rfl) ?_
      refine lv_iload_n hx hb dX12_compare_52 rfl (lv_at hl 3 rfl) ?_
      refine sBi (sSt (As := [.ref (G.2.2.1 + kb), .int (iv qo), .ref (G.2.2.1 + ka), .int (iv po)]) (rest := []) Cx (s_X12_against l G S (ka := kb) (po := qo) (kb := ka) (qo := po) (Nka := Nkb) (Nkb := Nka) (La := Lb) (Lb := La) hI hikb hika (by omega) hB hA) (c_X12_228 Cx rfl rfl (rmk_ok (by omega) (by decide))) hW rfl hl.1 rfl (Nat.le_of_ble_eq_true rfl) dX12_compare_53 ⟨Nat.le_of_ble_eq_true rfl, Nat.le_of_ble_eq_true rfl⟩) hL (fun r_11 u_9 H locs k_10 hW hL => ?_)
      obtain ⟨eu_9, xu_9⟩ := k_10
      rw [eu_9] at hW
      have yu_9 := xu_9.2
      unfold Hd at yu_9
      exact sIret Cx hr hlk hW hL ⟨rfl, ⟨(by omega), (fun q => by omega), (fun q => by omega), (fun q => by omega)⟩⟩ dX12_compare_56
    · refine lv_aload_n hx hb dX12_compare_39 rfl (lv_at hl 2 rfl) ?_
      refine lv_iload_n hx hb dX12_compare_40 rfl (lv_at hl 3 rfl) ?_
      refine lv_aload_n hx hb dX12_compare_41 rfl (lv_at hl 4 rfl) ?_
      refine lv_iload_n hx hb dX12_compare_42 rfl (lv_at hl 5 rfl) ?_
      refine sBi (sSt (As := [.ref (G.2.2.1 + ka), .int (iv po), .ref (G.2.2.1 + kb), .int (iv qo)]) (rest := []) Cx (s_X12_against l G S (ka := ka) (po := po) (kb := kb) (qo := qo) (Nka := Nka) (Nkb := Nkb) (La := La) (Lb := Lb) hI hika hikb (by omega) hA hB) (c_X12_228 Cx rfl rfl (rmk_ok (by omega) (by decide))) hW rfl hl.1 rfl (Nat.le_of_ble_eq_true rfl) dX12_compare_43 ⟨Nat.le_of_ble_eq_true rfl, Nat.le_of_ble_eq_true rfl⟩) hL (fun r_14 u_12 H locs k_13 hW hL => ?_)
      obtain ⟨eu_12, xu_12⟩ := k_13
      rw [eu_12] at hW
      have yu_12 := xu_12.2
      unfold Hd at yu_12
      refine lv_goto (tgt := 56) hx hb dX12_compare_46 (by decide) ?_
      exact sIret Cx hr hlk hW hL ⟨rfl, ⟨(by omega), (fun q => by omega), (fun q => by omega), (fun q => by omega)⟩⟩ dX12_compare_56
  · refine lv_iload hx hb dX12_compare_21 (lv_at hl 1 rfl) ?_
    refine lv_iload hx hb dX12_compare_23 (lv_at hl 0 rfl) ?_
    refine r_icmp_ge (tgt := 32) hx hb ⟨(by omega), (by omega)⟩ ⟨(by omega), (by omega)⟩ dX12_compare_25 (by decide) (fun c_15 => ?_) (fun c_15 => ?_)
    · refine lv_iconst (v := iv 1) hx hb dX12_compare_32 (by decide) ?_
      exact sIret Cx hr hlk hW hL ⟨rfl, ⟨(by omega), (fun q => by omega), (fun q => by omega), (fun q => by omega)⟩⟩ dX12_compare_33
    · refine lv_iconst (v := iv (-1)) hx hb dX12_compare_28 (by decide) ?_
      refine lv_goto (tgt := 33) hx hb dX12_compare_29 (by decide) ?_
      exact sIret Cx hr hlk hW hL ⟨rfl, ⟨(by omega), (fun q => by omega), (fun q => by omega), (fun q => by omega)⟩⟩ dX12_compare_33
