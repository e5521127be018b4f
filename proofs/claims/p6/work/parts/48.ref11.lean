def pl (L : List Nat) (k : Nat) : Bool := L.any (Nat.beq k)
theorem any_beq {L : List Nat} {i : Nat} (h : L.any (Nat.beq i) = true) : i ∈ L := by
  rw [List.any_eq_true] at h
  obtain ⟨x, hx, e⟩ := h
  rw [Nat.eq_of_beq_eq_true e]; exact hx
theorem pl_sub {L L' : List Nat} (h : ∀ x ∈ L, pl L' x = true) : ∀ i, pl L i = true → pl L' i = true := fun i hi => h i (any_beq hi)
theorem pl_h {a : Nat} {L : List Nat} : pl (a :: L) a = true := by unfold pl; rw [List.any_cons, Nat.beq_refl, Bool.true_or]
theorem pl_t {a k : Nat} {L : List Nat} (h : pl L k = true) : pl (a :: L) k = true := by unfold pl at h ⊢; rw [List.any_cons, h, Bool.or_true]
theorem pl_c {a k : Nat} {L : List Nat} (h : k ≠ a) (h2 : pl L k = false) : pl (a :: L) k = false := by
  unfold pl at h2 ⊢
  rw [List.any_cons, h2, Bool.or_false]
  cases e : Nat.beq k a
  · rfl
  · exact absurd (Nat.eq_of_beq_eq_true e) h
theorem pl_nil {P : pS} : ∀ k, pl [] k = true → P k = true := fun _ h => by cases h
theorem pl_s {a : Nat} {L : List Nat} {P : pS} (h : P a = true) (h2 : ∀ k, pl L k = true → P k = true) : ∀ k, pl (a :: L) k = true → P k = true := fun k e => by
  unfold pl at e
  rw [List.any_cons, Bool.or_eq_true] at e
  rcases e with e | e
  · rw [Nat.eq_of_beq_eq_true e]; exact h
  · exact h2 k e
/-! Numbers in rows: how many limbs, the value -/
def al (f : Int → Int) (p : Int) : Int := if f p < 0 then -f p else f p
def sg (f : Int → Int) (p : Int) : Int := if f p < 0 then -1 else if 0 < f p then 1 else 0
def NO (f : Int → Int) (p L : Int) : Prop := al f p ≤ L ∧ (∀ i, p < i → i ≤ p + al f p → 0 ≤ f i ∧ f i ≤ 999999999) ∧ (al f p ≠ 0 → f (p + al f p) ≠ 0)
def nu (f : Int → Int) (p : Int) : Int := V f (p + 1) (al f p).toNat
def nv (f : Int → Int) (p : Int) : Int := sg f p * nu f p
theorem al_0 (f : Int → Int) (p : Int) : 0 ≤ al f p := by unfold al; split <;> omega
theorem al_e {f : Int → Int} {p : Int} : (f p < 0 → al f p = -f p) ∧ (0 ≤ f p → al f p = f p) := ⟨fun h => if_pos h, fun h => if_neg (by omega)⟩
theorem sg_e {f : Int → Int} {p : Int} : (f p < 0 → sg f p = -1) ∧ (0 < f p → sg f p = 1) ∧ (f p = 0 → sg f p = 0) := by
  unfold sg
  refine ⟨fun h => if_pos h, fun h => by rw [if_neg (by omega), if_pos h], fun h => by rw [if_neg (by omega), if_neg (by omega)]⟩
theorem NO.b {f : Int → Int} {p L : Int} (h : NO f p L) : (-L ≤ f p ∧ f p ≤ L) ∧ 0 ≤ L := by
  have a := h.1
  have b := al_e (f := f) (p := p)
  have c := al_0 f p
  omega
theorem NO.mono {f : Int → Int} {p L M : Int} (h : NO f p L) (hm : L ≤ M) : NO f p M := ⟨by have := h.1; omega, h.2⟩
theorem NO.nu0 {f : Int → Int} {p L : Int} (h : NO f p L) : 0 ≤ nu f p := V_0 (fun i h0 h1 => (h.2.1 i (by omega) (by have := al_0 f p; omega)).1)
theorem NO.nul {f : Int → Int} {p L : Int} (h : NO f p L) : nu f p < pw (al f p).toNat := V_lt (fun i h0 h1 => h.2.1 i (by omega) (by have := al_0 f p; omega))
theorem NO.nug {f : Int → Int} {p L : Int} (h : NO f p L) (hz : al f p ≠ 0) : pw (al f p - 1).toNat ≤ nu f p := by
  have a0 := al_0 f p
  have e := V_topr (f := f) (s := p + 1) (w := al f p) (by omega)
  unfold nu; rw [e]
  have a : 0 ≤ V f (p + 1) (al f p - 1).toNat := V_0 (fun i h0 h1 => (h.2.1 i (by omega) (by omega)).1)
  have t := h.2.2 hz
  have t2 := (h.2.1 (p + al f p) (by omega) (by omega)).1
  rw [show p + 1 + al f p - 1 = p + al f p by omega]
  have b : 1 * pw (al f p - 1).toNat ≤ f (p + al f p) * pw (al f p - 1).toNat := Int.mul_le_mul_of_nonneg_right (by omega) (Int.le_of_lt (pw_pos _))
  omega
/-- how many limbs a value needs -/
theorem NO.lim {f : Int → Int} {p L : Int} (h : NO f p L) {n : Nat} (hn : nu f p < pw n) : al f p ≤ n := by
  rcases Int.lt_or_le (n : Int) (al f p) with q | q
  · exfalso
    have a := h.nug (by omega)
    have b := pw_le (m := n) (n := (al f p - 1).toNat) (by omega)
    omega
  · exact q
theorem NO.sgn {f : Int → Int} {p L : Int} (h : NO f p L) : (nv f p < 0 ↔ f p < 0) ∧ (0 < nv f p ↔ 0 < f p) ∧ (nv f p = 0 ↔ f p = 0) := by
  have s := sg_e (f := f) (p := p)
  have a := al_e (f := f) (p := p)
  have n0 := h.nu0
  have pos : al f p ≠ 0 → 0 < nu f p := fun z => by have := h.nug z; have := pw_pos (al f p - 1).toNat; omega
  rcases (by omega : f p < 0 ∨ f p = 0 ∨ 0 < f p) with q | q | q
  · have e : nv f p = -nu f p := by unfold nv; rw [s.1 q]; omega
    have := pos (by omega); omega
  · have e : nv f p = 0 := by unfold nv; rw [s.2.2 q]; omega
    omega
  · have e : nv f p = nu f p := by unfold nv; rw [s.2.1 q]; omega
    have := pos (by omega); omega
theorem nu_z {f : Int → Int} {p : Int} (h : f p = 0) : nu f p = 0 := by
  unfold nu; rw [(al_e (f := f) (p := p)).2 (by omega), h]; rfl
theorem nv_abs {f : Int → Int} {p L : Int} (h : NO f p L) : (0 ≤ nv f p → nv f p = nu f p) ∧ (nv f p ≤ 0 → nv f p = -nu f p) := by
  have s := sg_e (f := f) (p := p)
  have n0 := h.nu0
  have g := h.sgn
  rcases (by omega : f p < 0 ∨ f p = 0 ∨ 0 < f p) with q | q | q
  · have e : nv f p = -nu f p := by unfold nv; rw [s.1 q]; omega
    omega
  · have e : nv f p = 0 := by unfold nv; rw [s.2.2 q]; omega
    have z := nu_z q
    omega
  · have e : nv f p = nu f p := by unfold nv; rw [s.2.1 q]; omega
    omega
theorem NO.cg {f g : Int → Int} {p q L : Int} (h : NO f p L) (h0 : g q = f p) (hi : ∀ i, 1 ≤ i → i ≤ al f p → g (q + i) = f (p + i)) : NO g q L ∧ nv g q = nv f p ∧ nu g q = nu f p ∧ al g q = al f p := by
  have ea : al g q = al f p := by unfold al; rw [h0]
  have es : sg g q = sg f p := by unfold sg; rw [h0]
  have eu : nu g q = nu f p := by
    unfold nu; rw [ea]
    exact V_cg (fun i i0 i1 => by rw [show q + 1 + i = q + (1 + i) by omega, show p + 1 + i = p + (1 + i) by omega]; exact hi _ (by omega) (by have := al_0 f p; omega))
  refine ⟨⟨by rw [ea]; exact h.1, fun i i0 i1 => ?_, fun z => ?_⟩, by unfold nv; rw [es, eu], eu, ea⟩
  · rw [ea] at i1
    rw [show i = q + (i - q) by omega, hi (i - q) (by omega) (by omega)]
    exact h.2.1 _ (by omega) (by omega)
  · rw [ea] at z ⊢
    rw [hi _ (by have := al_0 f p; omega) (by omega)]
    exact h.2.2 z
/-- limbs by their number, 0 beyond -/
def lf (f : Int → Int) (p n : Int) : Int → Int := fun j => if j < n then f (p + (j + 1)) else 0
def cf (f : Int → Int) (r : Int) : Int → Int := fun j => f (r + (j + 1))
theorem lf_in {f : Int → Int} {p n j : Int} (h : j < n) : lf f p n j = f (p + (j + 1)) := if_pos h
theorem lf_out {f : Int → Int} {p n j : Int} (h : n ≤ j) : lf f p n j = 0 := if_neg (by omega)
theorem cf_on {S : sS} {c : Nat} {r k v : Int} : cf ((uA S c (r + (k + 1)) v).2.1 c) r k = v := uA_on
theorem cf_ne {S : sS} {c : Nat} {r k v j : Int} (h : j ≠ k) : cf ((uA S c (r + (k + 1)) v).2.1 c) r j = cf (S.2.1 c) r j := uA_ne (fun q => h (by have := q.2; omega))
theorem cf_hd {S : sS} {c : Nat} {r v j : Int} (h : 0 ≤ j) : cf ((uA S c r v).2.1 c) r j = cf (S.2.1 c) r j := uA_ne (fun q => by have := q.2; omega)
theorem V_cf {f : Int → Int} {r : Int} {n : Nat} : V (cf f r) 0 n = V f (r + 1) n := V_cg (fun i _ _ => by show f (r + (0 + i + 1)) = _; congr 1; omega)
theorem V_lf {f : Int → Int} {p n : Int} (h : 0 ≤ n) : V (lf f p n) 0 n.toNat = V f (p + 1) n.toNat := V_cg (fun i i0 i1 => by rw [lf_in (by omega)]; congr 1; omega)
theorem V_lfk {f : Int → Int} {p n k : Int} (h : 0 ≤ n) (hk : n ≤ k) : V (lf f p n) 0 k.toNat = V f (p + 1) n.toNat := by
  rw [← V_lf h]
  exact V_cut (by omega) (fun j j0 j1 => lf_out (by omega))
theorem lf_r {f : Int → Int} {p L : Int} (h : NO f p L) (j : Int) (h0 : 0 ≤ j) : 0 ≤ lf f p (al f p) j ∧ lf f p (al f p) j ≤ 999999999 := by
  unfold lf; split
  · exact h.2.1 _ (by omega) (by omega)
  · omega
theorem lf_t {f : Int → Int} {p L : Int} (h : NO f p L) {k : Int} (h0 : 0 ≤ k) (e : k + 1 = al f p) : lf f p (al f p) k ≠ 0 := by
  rw [lf_in (by omega), e]; exact h.2.2 (by omega)
/-- a result -/
theorem res {f : Int → Int} {r k s W L : Int} (hh : f r = s * k) (hs : s = 1 ∨ s = -1 ∨ (s = 0 ∧ W = 0)) (hk : 0 ≤ k ∧ k ≤ L) (hl : ∀ j, 0 ≤ j → j < k → 0 ≤ cf f r j ∧ cf f r j ≤ 999999999) (ht : 0 < k → cf f r (k - 1) ≠ 0) (hW : V (cf f r) 0 k.toNat = W) : NO f r L ∧ nv f r = s * W := by
  rw [V_cf] at hW
  have key : ∀ z, al f r = z → z = k → sg f r = (if f r < 0 then -1 else if 0 < f r then 1 else 0) → NO f r L := fun z hz hk2 _ => by
    subst hk2
    refine ⟨by rw [hz]; exact hk.2, fun i i0 i1 => ?_, fun q => ?_⟩
    · rw [hz] at i1
      have := hl (i - r - 1) (by omega) (by omega)
      unfold cf at this
      rw [show r + (i - r - 1 + 1) = i by omega] at this
      exact this
    · rw [hz] at q ⊢
      have := ht (by omega)
      unfold cf at this
      rw [show r + (z - 1 + 1) = r + z by omega] at this
      exact this
  have a := al_e (f := f) (p := r)
  have g := sg_e (f := f) (p := r)
  rcases hs with q | q | q
  · rw [q] at hh
    have e : al f r = k := by omega
    refine ⟨key _ e rfl rfl, ?_⟩
    unfold nv nu; rw [e, hW]
    rcases (by omega : f r = 0 ∨ 0 < f r) with z | z
    · have : W = 0 := by rw [← hW, show k = 0 by omega]; rfl
      rw [this]; omega
    · rw [g.2.1 z, q]
  · rw [q] at hh
    have e : al f r = k := by omega
    refine ⟨key _ e rfl rfl, ?_⟩
    unfold nv nu; rw [e, hW]
    rcases (by omega : f r = 0 ∨ f r < 0) with z | z
    · have : W = 0 := by rw [← hW, show k = 0 by omega]; rfl
      rw [this]; omega
    · rw [g.1 z, q]
  · rw [q.1] at hh
    have z : f r = 0 := by omega
    have e : al f r = 0 := by omega
    refine ⟨⟨by omega, fun i i0 i1 => by omega, fun z2 => absurd e z2⟩, ?_⟩
    unfold nv; rw [g.2.2 z, q.1]; omega
theorem addS {c c' A B : Int → Int} {k cy l x : Int} (hk : 0 ≤ k) (hV : V c 0 k.toNat + cy * pw k.toNat = V A 0 k.toNat + V B 0 k.toNat) (hc : ∀ j, 0 ≤ j → j < k → c' j = c j) (hl : c' k = l) (h2 : l + x * 1000000000 = A k + B k + cy) : V c' 0 (k + 1).toNat + x * pw (k + 1).toNat = V A 0 (k + 1).toNat + V B 0 (k + 1).toNat := by
  rw [V_stp hk, V_stp hk, V_stp hk, pw_stp hk, show (0 : Int) + k = k by omega, hl, show V c' 0 k.toNat = V c 0 k.toNat from V_cg (fun j j0 j1 => by rw [show (0 : Int) + j = j by omega]; exact hc j j0 (by omega))]
  have := madd hV h2
  omega
theorem subS {c c' A B : Int → Int} {k cy l x : Int} (hk : 0 ≤ k) (hV : V c 0 k.toNat - cy * pw k.toNat = V A 0 k.toNat - V B 0 k.toNat) (hc : ∀ j, 0 ≤ j → j < k → c' j = c j) (hl : c' k = l) (h2 : l - x * 1000000000 = A k - B k - cy) : V c' 0 (k + 1).toNat - x * pw (k + 1).toNat = V A 0 (k + 1).toNat - V B 0 (k + 1).toNat := by
  rw [V_stp hk, V_stp hk, V_stp hk, pw_stp hk, show (0 : Int) + k = k by omega, hl, show V c' 0 k.toNat = V c 0 k.toNat from V_cg (fun j j0 j1 => by rw [show (0 : Int) + j = j by omega]; exact hc j j0 (by omega))]
  have := msub (g := 1) (a := V c 0 k.toNat) (b := V A 0 k.toNat) (c := cy) (d := V B 0 k.toNat) (x := A k) (y := B k) (l := l) (k := x) (P := pw k.toNat) (by omega) (by omega)
  omega
theorem V_cmp2 {f g : Int → Int} {i : Int} (h0 : 0 ≤ i) : ∀ (n : Nat), i < n → (∀ j : Int, 0 ≤ j → j < n → (0 ≤ f j ∧ f j ≤ 999999999) ∧ 0 ≤ g j ∧ g j ≤ 999999999) → g i < f i → (∀ j : Int, i < j → j < n → f j = g j) → V g 0 n < V f 0 n := by
  intro n
  induction n with
  | zero => intro h; omega
  | succ n ih =>
    intro h hr hlt he
    rw [V_s, V_s, show (0 : Int) + (n : Int) = n by omega]
    rcases (by omega : i < n ∨ i = n) with q | q
    · have a := ih q (fun j j0 j1 => hr j j0 (by omega)) hlt (fun j j0 j1 => he j j0 (by omega))
      rw [he n q (by omega)]
      omega
    · have a : V g 0 n < pw n := V_lt (fun j j0 j1 => (hr j (by omega) (by omega)).2)
      have b : 0 ≤ V f 0 n := V_0 (fun j j0 j1 => (hr j (by omega) (by omega)).1.1)
      rw [← q]
      have c : (g i + 1) * pw n ≤ f i * pw n := Int.mul_le_mul_of_nonneg_right (by omega) (Int.le_of_lt (pw_pos n))
      have d : (g i + 1) * pw n = g i * pw n + pw n := by grind
      omega
/-- how two numbers of one length compare -/
theorem nu_cmp {f g : Int → Int} {p q L M k : Int} (hf : NO f p L) (hg : NO g q M) (e : al f p = al g q) (hk : 1 ≤ k ∧ k ≤ al f p) (hlt : g (q + k) < f (p + k)) (he : ∀ j, k < j → j ≤ al f p → f (p + j) = g (q + j)) : nu g q < nu f p := by
  unfold nu
  rw [← V_lf (al_0 g q), ← V_lf (al_0 f p), ← e]
  have a0 := al_0 f p
  refine V_cmp2 (i := k - 1) (by omega) _ (by omega) (fun j j0 j1 => ⟨lf_r hf j j0, by rw [e]; exact lf_r hg j j0⟩) ?_ (fun j j0 j1 => ?_)
  · rw [lf_in (by omega), lf_in (by omega), show k - 1 + 1 = k by omega]; exact hlt
  · rw [lf_in (by omega), lf_in (by omega)]; exact he (j + 1) (by omega) (by omega)
theorem nu_len {f g : Int → Int} {p q L M : Int} (hf : NO f p L) (hg : NO g q M) (h : al f p < al g q) : nu f p < nu g q := by
  have a := hf.nul
  have b := hg.nug (by have := al_0 f p; omega)
  have c := pw_le (m := (al f p).toNat) (n := (al g q - 1).toNat) (by have := al_0 f p; omega)
  omega
theorem nu_eq {f g : Int → Int} {p q : Int} (e : al f p = al g q) (he : ∀ j, 0 < j → j ≤ al f p → f (p + j) = g (q + j)) : nu f p = nu g q := by
  unfold nu; rw [← e]
  exact V_cg (fun i i0 i1 => by rw [show p + 1 + i = p + (1 + i) by omega, show q + 1 + i = q + (1 + i) by omega]; exact he _ (by omega) (by have := al_0 f p; omega))
theorem putS {c c' : Int → Int} {k x l y X : Int} (hk : 0 ≤ k) (hV : V c 0 k.toNat + x * pw k.toNat = X) (hc : ∀ j, 0 ≤ j → j < k → c' j = c j) (hl : c' k = l) (h2 : l + y * 1000000000 = x) : V c' 0 (k + 1).toNat + y * pw (k + 1).toNat = X := by
  rw [V_stp hk, pw_stp hk, show (0 : Int) + k = k by omega, hl, show V c' 0 k.toNat = V c 0 k.toNat from V_cg (fun j j0 j1 => by rw [show (0 : Int) + j = j by omega]; exact hc j j0 (by omega)), ← hV, ← h2]
  grind
theorem put_fin {S : sS} {a : Nat} {r n s W L hd : Int} (hh : hd = s * n) (hs : s = 1 ∨ s = -1 ∨ (s = 0 ∧ W = 0)) (hn : 0 ≤ n ∧ n ≤ L) (hl : ∀ j, 0 ≤ j → j < n → 0 ≤ cf (S.2.1 a) r j ∧ cf (S.2.1 a) r j ≤ 999999999) (ht : 0 < n → cf (S.2.1 a) r (n - 1) ≠ 0) (hV : V (cf (S.2.1 a) r) 0 n.toNat = W) : NO ((uA S a r hd).2.1 a) r L ∧ nv ((uA S a r hd).2.1 a) r = s * W :=
  res (k := n) (uA_on.trans hh) hs hn (fun j a b => by rw [cf_hd a]; exact hl j a b) (fun q => by rw [cf_hd (by omega)]; exact ht q) (by rw [← hV]; exact V_cg (fun j j0 _ => cf_hd (by omega)))
theorem V_dn {f : Int → Int} {k : Int} (h : 1 ≤ k) (hz : f (k - 1) = 0) : V f 0 (k - 1).toNat = V f 0 k.toNat := by
  have := V_topr (f := f) (s := 0) (w := k) h
  rw [show (0 : Int) + k - 1 = k - 1 by omega, hz] at this
  omega
theorem sgm {s k h : Int} (e : h = s * k) (hs : -1 ≤ s ∧ s ≤ 1) : (s = 1 → h = k) ∧ (s = -1 → h = -k) ∧ (s = 0 → h = 0) := by
  refine ⟨fun q => by rw [e, q]; omega, fun q => by rw [e, q]; omega, fun q => by rw [e, q]; omega⟩
theorem NO.neg {S : sS} {a : Nat} {p L : Int} (h : NO (S.2.1 a) p L) : NO ((uA S a p (-(S.2.1 a p))).2.1 a) p L ∧ nv ((uA S a p (-(S.2.1 a p))).2.1 a) p = -nv (S.2.1 a) p := by
  have e0 : (uA S a p (-(S.2.1 a p))).2.1 a p = -(S.2.1 a p) := uA_on
  have ei : ∀ i, p < i → (uA S a p (-(S.2.1 a p))).2.1 a i = S.2.1 a i := fun i hi => uA_ne (fun q => by have := q.2; omega)
  have a1 := al_e (f := S.2.1 a) (p := p)
  have a2 := al_e (f := (uA S a p (-(S.2.1 a p))).2.1 a) (p := p)
  have ea : al ((uA S a p (-(S.2.1 a p))).2.1 a) p = al (S.2.1 a) p := by rw [e0] at a2; omega
  have eu : nu ((uA S a p (-(S.2.1 a p))).2.1 a) p = nu (S.2.1 a) p := by
    unfold nu; rw [ea]; exact V_cg (fun i i0 _ => ei _ (by omega))
  refine ⟨⟨by rw [ea]; exact h.1, fun i i0 i1 => by rw [ei i i0]; exact h.2.1 i i0 (by rw [← ea]; exact i1), fun z => by rw [ea] at z ⊢; rw [ei _ (by have := al_0 (S.2.1 a) p; omega)]; exact h.2.2 z⟩, ?_⟩
  unfold nv; rw [eu]
  have s1 := sg_e (f := S.2.1 a) (p := p)
  have s2 := sg_e (f := (uA S a p (-(S.2.1 a p))).2.1 a) (p := p)
  rw [e0] at s2
  rcases (by omega : S.2.1 a p < 0 ∨ S.2.1 a p = 0 ∨ 0 < S.2.1 a p) with q | q | q
  · rw [s1.1 q, s2.2.1 (by omega)]; omega
  · rw [s1.2.2 q, s2.2.2 (by omega)]; omega
  · rw [s1.2.1 q, s2.1 (by omega)]; omega
