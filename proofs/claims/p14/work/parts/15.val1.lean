/-! Values of rows of limbs to the base 10^9 -/
def pw : Nat → Int
  | 0 => 1
  | n + 1 => 1000000000 * pw n
def V (f : Int → Int) (s : Int) : Nat → Int
  | 0 => 0
  | n + 1 => V f s n + f (s + n) * pw n
theorem pw_pos : ∀ n, 0 < pw n
  | 0 => by decide
  | n + 1 => by have := pw_pos n; show 0 < 1000000000 * pw n; omega
theorem pw_s (n : Nat) : pw (n + 1) = 1000000000 * pw n := rfl
theorem V_s (f : Int → Int) (s : Int) (n : Nat) : V f s (n + 1) = V f s n + f (s + n) * pw n := rfl
theorem V_cg {f g : Int → Int} {s t : Int} : ∀ {n : Nat}, (∀ i : Int, 0 ≤ i → i < n → f (s + i) = g (t + i)) → V f s n = V g t n
  | 0, _ => rfl
  | n + 1, h => by rw [V_s, V_s, V_cg (n := n) (fun i h0 h1 => h i h0 (by omega)), h n (by omega) (by omega)]
theorem V_0 {f : Int → Int} {s : Int} : ∀ {n : Nat}, (∀ i : Int, s ≤ i → i < s + n → 0 ≤ f i) → 0 ≤ V f s n
  | 0, _ => Int.le_refl 0
  | n + 1, h => by
    rw [V_s]
    have a := V_0 (f := f) (s := s) (n := n) (fun i h0 h1 => h i h0 (by omega))
    have b := Int.mul_nonneg (h (s + n) (by omega) (by omega)) (Int.le_of_lt (pw_pos n))
    omega
theorem V_lt {f : Int → Int} {s : Int} : ∀ {n : Nat}, (∀ i : Int, s ≤ i → i < s + n → 0 ≤ f i ∧ f i ≤ 999999999) → V f s n < pw n
  | 0, _ => by show (0 : Int) < 1; decide
  | n + 1, h => by
    rw [V_s, pw_s]
    have a := V_lt (f := f) (s := s) (n := n) (fun i h0 h1 => h i h0 (by omega))
    have b := Int.mul_le_mul_of_nonneg_right (h (s + n) (by omega) (by omega)).2 (Int.le_of_lt (pw_pos n))
    omega
theorem V_front {f : Int → Int} {s : Int} : ∀ {n : Nat}, V f s (n + 1) = f s + 1000000000 * V f (s + 1) n
  | 0 => by
    show 0 + f (s + (0 : Nat)) * pw 0 = f s + 1000000000 * 0
    have e : s + ((0 : Nat) : Int) = s := by omega
    rw [e]
    show 0 + f s * 1 = _
    omega
  | n + 1 => by
    rw [V_s, V_front (n := n), V_s, pw_s]
    have e : s + ((n + 1 : Nat) : Int) = s + 1 + n := by omega
    rw [e]
    grind
/-- one step of a multiple's subtraction -/
theorem msub {a b c d g x y l k P : Int} (h1 : a - c * P = b - g * d) (h2 : l - k * 1000000000 = x - (g * y + c)) : a + l * P - k * (1000000000 * P) = b + x * P - g * (d + y * P) := by
  grind
/-- one step of a sum -/
theorem madd {a b c d x y l k P : Int} (h1 : a + c * P = b + d) (h2 : l + k * 1000000000 = x + y + c) : a + l * P + k * (1000000000 * P) = b + x * P + (d + y * P) := by
  grind
/-- one step of a multiple -/
theorem mmul {a c d g y l k P : Int} (h1 : a + c * P = g * d) (h2 : l + k * 1000000000 = g * y + c) : a + l * P + k * (1000000000 * P) = g * (d + y * P) := by
  grind
/-- the quotient's guess: U below (g + 1) V -/
theorem kn_lo0 {U V P hd ul v1 vl g : Int} (hP : 0 < P) (hU : U = hd * P + ul) (hul : ul < P) (hV : V = v1 * P + vl) (hvl : 0 ≤ vl) (hg0 : 0 ≤ g) (hg : hd < (g + 1) * v1) : U < (g + 1) * V := by
  have a : (hd + 1) * P ≤ (g + 1) * v1 * P := Int.mul_le_mul_of_nonneg_right (by omega) (by omega)
  have b : 0 ≤ (g + 1) * vl := Int.mul_nonneg (by omega) hvl
  have c : (g + 1) * V = (g + 1) * v1 * P + (g + 1) * vl := by rw [hV]; grind
  have d : (hd + 1) * P = hd * P + P := by grind
  omega
theorem kn_lo1 {U V P U3 ul V2 vl g : Int} (hP : 0 < P) (hU : U = U3 * P + ul) (hul : ul < P) (hV : V = V2 * P + vl) (hvl : 0 ≤ vl) (hg0 : 0 ≤ g) (hg : U3 < g * V2) : U < g * V := by
  have a : (U3 + 1) * P ≤ g * V2 * P := Int.mul_le_mul_of_nonneg_right (by omega) (by omega)
  have b : 0 ≤ g * vl := Int.mul_nonneg hg0 hvl
  have c : g * V = g * V2 * P + g * vl := by rw [hV]; grind
  have d : (U3 + 1) * P = U3 * P + P := by grind
  omega
theorem kn_up {U V P U3 ul V2 vl g : Int} (hP : 0 < P) (hU : U = U3 * P + ul) (hul : 0 ≤ ul) (hV : V = V2 * P + vl) (hvl : vl < P) (hvl0 : 0 ≤ vl) (hg0 : 1 ≤ g) (hg : g * V2 ≤ U3) (hgV : g - 1 ≤ V2) : (g - 1) * V ≤ U := by
  have a : (g - 1) * V = (g - 1) * V2 * P + (g - 1) * vl := by rw [hV]; grind
  have b : (g - 1) * vl ≤ (g - 1) * P := Int.mul_le_mul_of_nonneg_left (by omega) (by omega)
  have c : (g - 1) * P ≤ V2 * P := Int.mul_le_mul_of_nonneg_right hgV (by omega)
  have d : g * V2 * P ≤ U3 * P := Int.mul_le_mul_of_nonneg_right hg (by omega)
  have e : (g - 1) * V2 * P + V2 * P = g * V2 * P := by grind
  omega
theorem kn_up3 {U V P hd ul v1 vl g : Int} (hP : 0 < P) (hU : U = hd * P + ul) (hul : 0 ≤ ul) (hV : V = v1 * P + vl) (hvl : vl < P) (hvl0 : 0 ≤ vl) (hg0 : 0 ≤ g) (hg : g * v1 ≤ hd) (hgv : g ≤ 4 * v1 + 4) (hV0 : 0 ≤ V) : (g - 4) * V ≤ U := by
  by_cases h : g - 4 ≤ 0
  · have a : (g - 4) * V ≤ 0 := Int.mul_nonpos_of_nonpos_of_nonneg h hV0
    have b : 0 ≤ hd * P := Int.mul_nonneg (by
      have : 0 ≤ g * v1 ∨ v1 < 0 := by
        rcases Int.lt_or_le v1 0 with q | q
        · exact Or.inr q
        · exact Or.inl (Int.mul_nonneg hg0 q)
      rcases this with q | q
      · omega
      · exfalso
        have : v1 * P ≤ -1 * P := Int.mul_le_mul_of_nonneg_right (by omega) (by omega)
        omega) (by omega)
    omega
  · have a : (g - 4) * V = (g - 4) * v1 * P + (g - 4) * vl := by rw [hV]; grind
    have b : (g - 4) * vl ≤ (g - 4) * P := Int.mul_le_mul_of_nonneg_left (by omega) (by omega)
    have d : g * v1 * P ≤ hd * P := Int.mul_le_mul_of_nonneg_right hg (by omega)
    have e : (g - 4) * v1 * P + 4 * v1 * P = g * v1 * P := by grind
    have f : (g - 4) * P ≤ 4 * v1 * P := Int.mul_le_mul_of_nonneg_right (by omega) (by omega)
    omega
/-- the rest behind the subtraction: top = u_w - carry -/
theorem kn_end {U V P g R top : Int} (hP : 0 < P) (hR0 : 0 ≤ R) (hRP : R < P) (hVP : V ≤ P) (heq : U - g * V = R + top * P) (hlo : U < (g + 1) * V) (hup : (g - 1) * V ≤ U) : (0 ≤ top → top = 0 ∧ R < V) ∧ (top < 0 → top = -1 ∧ 0 ≤ R + V - P ∧ R + V - P < V ∧ U < g * V) := by
  have a : (g + 1) * V = g * V + V := by grind
  have b : (g - 1) * V = g * V - V := by grind
  refine ⟨fun h => ?_, fun h => ?_⟩
  · have : top = 0 := by
      rcases Int.lt_or_le 0 top with q | q
      · exfalso
        have : 1 * P ≤ top * P := Int.mul_le_mul_of_nonneg_right (by omega) (by omega)
        omega
      · omega
    subst this
    omega
  · have : top = -1 := by
      rcases Int.lt_or_le top (-1) with q | q
      · exfalso
        have : top * P ≤ -2 * P := Int.mul_le_mul_of_nonneg_right (by omega) (by omega)
        omega
      · omega
    subst this
    omega
/-- a value compares as its top limb that differs -/
theorem V_cmp {f g : Int → Int} {i : Int} (h0 : 0 ≤ i) (hf : ∀ j, 0 ≤ j → 0 ≤ f j ∧ f j ≤ 999999999) (hg : ∀ j, 0 ≤ j → 0 ≤ g j ∧ g j ≤ 999999999) (hlt : g i < f i) : ∀ (n : Nat), i < n → (∀ j, i < j → j < n → f j = g j) → V g 0 n < V f 0 n := by
  intro n
  induction n with
  | zero => intro h; omega
  | succ n ih =>
    intro h he
    rw [V_s, V_s, show (0 : Int) + (n : Int) = n by omega]
    rcases (by omega : i < n ∨ i = n) with q | q
    · have a := ih q (fun j j0 j1 => he j j0 (by omega))
      rw [he n q (by omega)]
      omega
    · have a : V g 0 n < pw n := V_lt (fun j j0 _ => hg j (by omega))
      have b : 0 ≤ V f 0 n := V_0 (fun j j0 _ => (hf j (by omega)).1)
      rw [← q]
      have c : (g i + 1) * pw n ≤ f i * pw n := Int.mul_le_mul_of_nonneg_right (by omega) (Int.le_of_lt (pw_pos n))
      have d : (g i + 1) * pw n = g i * pw n + pw n := by grind
      omega
theorem pw_le : ∀ {m n : Nat}, m ≤ n → pw m ≤ pw n
  | m, 0, h => by rw [show m = 0 by omega]; exact Int.le_refl _
  | m, n + 1, h => by
    rcases (by omega : m = n + 1 ∨ m ≤ n) with q | q
    · rw [q]; exact Int.le_refl _
    · have a := pw_le q
      have b := pw_pos n
      rw [pw_s]; omega
/-- a number with a top limb is at least its power -/
theorem V_ge {f : Int → Int} {s : Int} {n : Nat} (hf : ∀ j, s ≤ j → 0 ≤ f j) (ht : f (s + n) ≠ 0) : pw n ≤ V f s (n + 1) := by
  rw [V_s]
  have a := V_0 (f := f) (s := s) (n := n) (fun j j0 _ => hf j j0)
  have b := hf (s + n) (by omega)
  have c : 1 * pw n ≤ f (s + n) * pw n := Int.mul_le_mul_of_nonneg_right (by omega) (Int.le_of_lt (pw_pos n))
  omega
/-- limbs that are 0 at the top -/
theorem V_cut {f : Int → Int} {m : Nat} : ∀ {n : Nat}, m ≤ n → (∀ j : Int, m ≤ j → j < n → f j = 0) → V f 0 n = V f 0 m
  | 0, h, _ => by rw [show m = 0 by omega]
  | n + 1, h, hz => by
    rcases (by omega : m = n + 1 ∨ m ≤ n) with q | q
    · rw [q]
    · rw [V_s, V_cut q (fun j j0 j1 => hz j j0 (by omega)), show (0 : Int) + (n : Int) = n by omega, hz n (by omega) (by omega)]
      omega
theorem pw_add : ∀ {m n : Nat}, pw (m + n) = pw m * pw n
  | m, 0 => by show pw m = pw m * 1; omega
  | m, n + 1 => by rw [show m + (n + 1) = (m + n) + 1 by omega, pw_s, pw_s, pw_add]; grind
theorem V_app {f : Int → Int} {s : Int} {m : Nat} : ∀ {n : Nat}, V f s (m + n) = V f s m + pw m * V f (s + m) n
  | 0 => by show V f s m = V f s m + pw m * 0; omega
  | n + 1 => by
    rw [show m + (n + 1) = (m + n) + 1 by omega, V_s, V_app (n := n), V_s, pw_add, show s + ((m + n : Nat) : Int) = s + m + n by omega]
    grind
/-- the top of what is divided, scaled, is below the divisor -/
theorem kn_start {g s : Int → Int} {f Vb : Int} {len w : Nat} (hf : 1 ≤ f) (hw : 1 ≤ w) (hwl : w ≤ len) (hg : ∀ j, 0 ≤ j → 0 ≤ g j) (h1 : V g 0 (len + 1) = f * V s 0 len) (h2 : V s 0 len < pw len) (h3 : pw (w - 1) ≤ Vb) : V g ((len : Int) - w + 1) w < f * Vb := by
  have e1 := V_app (f := g) (s := 0) (m := len - w + 1) (n := w)
  rw [show len - w + 1 + w = len + 1 by omega, h1, show (0 : Int) + ((len - w + 1 : Nat) : Int) = (len : Int) - w + 1 by omega] at e1
  have e2 : pw len = pw (len - w + 1) * pw (w - 1) := by rw [← pw_add]; congr 1; omega
  have hp := pw_pos (len - w + 1)
  have a := V_0 (f := g) (s := 0) (n := len - w + 1) (fun j j0 _ => hg j j0)
  have b : f * V s 0 len < f * pw len := Int.mul_lt_mul_of_pos_left h2 (by omega)
  have c : pw (len - w + 1) * V g ((len : Int) - w + 1) w < pw (len - w + 1) * (f * pw (w - 1)) := by
    have : f * pw len = pw (len - w + 1) * (f * pw (w - 1)) := by rw [e2]; grind
    omega
  have d : V g ((len : Int) - w + 1) w < f * pw (w - 1) := Int.lt_of_mul_lt_mul_left c (Int.le_of_lt hp)
  have e : f * pw (w - 1) ≤ f * Vb := Int.mul_le_mul_of_nonneg_left h3 (by omega)
  omega
/-- a step of a division by a small number, from the top -/
theorem dstep {T y w q l p Qh Vl rz : Int} (h1 : T = y * (Qh * (1000000000 * p)) + w * (1000000000 * p) + (l * p + Vl)) (h2 : w * 1000000000 + l = q * y + rz) : T = y * ((q + 1000000000 * Qh) * p) + rz * p + Vl := by
  have e : w * 1000000000 * p + l * p = (q * y + rz) * p := by rw [← h2]; grind
  grind
theorem V_stp {f : Int → Int} {s i : Int} (h : 0 ≤ i) : V f s (i + 1).toNat = V f s i.toNat + f (s + i) * pw i.toNat := by
  rw [show (i + 1).toNat = i.toNat + 1 by omega, V_s, show ((i.toNat : Nat) : Int) = i by omega]
theorem pw_stp {i : Int} (h : 0 ≤ i) : pw (i + 1).toNat = 1000000000 * pw i.toNat := by
  rw [show (i + 1).toNat = i.toNat + 1 by omega, pw_s]
theorem V_top2 {f : Int → Int} {s w : Int} (h : 2 ≤ w) : V f s w.toNat = (f (s + w - 1) * 1000000000 + f (s + w - 2)) * pw (w - 2).toNat + V f s (w - 2).toNat := by
  have a := V_stp (f := f) (s := s) (i := w - 1) (by omega)
  have b := V_stp (f := f) (s := s) (i := w - 2) (by omega)
  have c := pw_stp (i := w - 2) (by omega)
  rw [show w - 1 + 1 = w by omega, show s + (w - 1) = s + w - 1 by omega] at a
  rw [show w - 2 + 1 = w - 1 by omega, show s + (w - 2) = s + w - 2 by omega] at b
  rw [show w - 2 + 1 = w - 1 by omega] at c
  rw [a, b, c]
  grind
theorem V_top3 {f : Int → Int} {s w : Int} (h : 2 ≤ w) : V f s (w + 1).toNat = ((f (s + w) * 1000000000 + f (s + w - 1)) * 1000000000 + f (s + w - 2)) * pw (w - 2).toNat + V f s (w - 2).toNat := by
  have a := V_stp (f := f) (s := s) (i := w) (by omega)
  have b := V_top2 (f := f) (s := s) h
  have c := pw_stp (i := w - 2) (by omega)
  have d := pw_stp (i := w - 1) (by omega)
  rw [show w - 2 + 1 = w - 1 by omega] at c
  rw [show w - 1 + 1 = w by omega] at d
  rw [a, b, d, c]
  grind
theorem V_topr {f : Int → Int} {s w : Int} (h : 1 ≤ w) : V f s w.toNat = f (s + w - 1) * pw (w - 1).toNat + V f s (w - 1).toNat := by
  have a := V_stp (f := f) (s := s) (i := w - 1) (by omega)
  rw [show w - 1 + 1 = w by omega, show s + (w - 1) = s + w - 1 by omega] at a
  rw [a]; grind
theorem divQ {a b : Int} (h0 : 0 ≤ a) (hb : 0 < b) : 0 ≤ a.tdiv b ∧ a.tdiv b * b ≤ a ∧ a < a.tdiv b * b + b := by
  rw [Int.tdiv_eq_ediv_of_nonneg h0]
  refine ⟨Int.ediv_nonneg h0 (by omega), Int.ediv_mul_le _ (by omega), ?_⟩
  have := Int.lt_ediv_add_one_mul_self a hb
  grind
theorem lt_of_m {a h c l : Int} (hl : 0 < l) (h1 : a * l ≤ h) (h2 : h < c * l) : a < c := by
  rcases Int.lt_or_le a c with q | q
  · exact q
  · have := Int.mul_le_mul_of_nonneg_right q (Int.le_of_lt hl)
    omega
/-- a divisor's factor -/
theorem kn_f {t f : Int} (h1 : 1 ≤ t) (h2 : t ≤ 999999999) (h3 : f * (t + 1) ≤ 1000000000) (h4 : 1000000000 < f * (t + 1) + (t + 1)) : 1 ≤ f ∧ f ≤ 500000000 ∧ t * f + f ≤ 1000000000 ∧ 500000000 ≤ t * f := by
  have hf1 : 1 ≤ f := by
    rcases Int.lt_or_le f 1 with q | q
    · exfalso
      have : f * (t + 1) ≤ 0 := Int.mul_nonpos_of_nonpos_of_nonneg (by omega) (by omega)
      omega
    · exact q
  have e : f * (t + 1) = t * f + f := by grind
  have hf2 : f ≤ 500000000 := by
    have : f * 2 ≤ f * (t + 1) := Int.mul_le_mul_of_nonneg_left (by omega) (by omega)
    omega
  refine ⟨hf1, hf2, by omega, ?_⟩
  rcases (by omega : f = 1 ∨ f = 2 ∨ 3 ≤ f) with q | q | q
  · subst q; omega
  · subst q; omega
  · rcases (by omega : t = 1 ∨ 2 ≤ t) with r | r
    · subst r; omega
    · have : 0 ≤ (t - 2) * (f - 3) := Int.mul_nonneg (by omega) (by omega)
      have e2 : (t - 2) * (f - 3) = t * f - 3 * t - 2 * f + 6 := by grind
      omega
/-- the top limb of what is divided isn't above the divisor's -/
theorem kn_u0 {U V P u0 ul v1 vl : Int} (hP : 0 < P) (hU : U = u0 * (1000000000 * P) + ul) (hul : 0 ≤ ul) (hV : V = v1 * P + vl) (hvl : vl < P) (h : U < 1000000000 * V) : u0 ≤ v1 := by
  rcases Int.lt_or_le v1 u0 with q | q
  · exfalso
    have : (v1 + 1) * (1000000000 * P) ≤ u0 * (1000000000 * P) := Int.mul_le_mul_of_nonneg_right (by omega) (by omega)
    have e : (v1 + 1) * (1000000000 * P) = 1000000000 * (v1 * P) + 1000000000 * P := by grind
    omega
  · exact q
theorem kn_A {U V g : Int} (hU : U < 1000000000 * V) (hV : 0 ≤ V) (hg : 1000000000 ≤ g) : U < g * V := by
  have := Int.mul_le_mul_of_nonneg_right hg hV
  omega
