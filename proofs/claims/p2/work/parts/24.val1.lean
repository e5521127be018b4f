/-! Values of rows of limbs to the base 10^9 -/
def pw : Nat → Int
  | 0 => 1
  | n + 1 => 1000000000 * pw n
def V (f : Int → Int) (s : Int) : Nat → Int
  | 0 => 0
  | n + 1 => V f s n + f (s + n) * pw n
theorem pw_pos : ∀ n, 0 < pw n
  | 0 => by decide
  | n + 1 => by have := pw_pos n; show 0 < 1000000000 * pw n; omega
theorem pw_s (n : Nat) : pw (n + 1) = 1000000000 * pw n := rfl
theorem V_s (f : Int → Int) (s : Int) (n : Nat) : V f s (n + 1) = V f s n + f (s + n) * pw n := rfl
theorem V_cg {f g : Int → Int} {s t : Int} : ∀ {n : Nat}, (∀ i : Int, 0 ≤ i → i < n → f (s + i) = g (t + i)) → V f s n = V g t n
  | 0, _ => rfl
  | n + 1, h => by rw [V_s, V_s, V_cg (n := n) (fun i h0 h1 => h i h0 (by omega)), h n (by omega) (by omega)]
theorem V_0 {f : Int → Int} {s : Int} : ∀ {n : Nat}, (∀ i : Int, s ≤ i → i < s + n → 0 ≤ f i) → 0 ≤ V f s n
  | 0, _ => Int.le_refl 0
  | n + 1, h => by
    rw [V_s]
    have a := V_0 (f := f) (s := s) (n := n) (fun i h0 h1 => h i h0 (by omega))
    have b := Int.mul_nonneg (h (s + n) (by omega) (by omega)) (Int.le_of_lt (pw_pos n))
    omega
theorem V_lt {f : Int → Int} {s : Int} : ∀ {n : Nat}, (∀ i : Int, s ≤ i → i < s + n → 0 ≤ f i ∧ f i ≤ 999999999) → V f s n < pw n
  | 0, _ => by show (0 : Int) < 1; decide
  | n + 1, h => by
    rw [V_s, pw_s]
    have a := V_lt (f := f) (s := s) (n := n) (fun i h0 h1 => h i h0 (by omega))
    have b := Int.mul_le_mul_of_nonneg_right (h (s + n) (by omega) (by omega)).2 (Int.le_of_lt (pw_pos n))
    omega
theorem V_front {f : Int → Int} {s : Int} : ∀ {n : Nat}, V f s (n + 1) = f s + 1000000000 * V f (s + 1) n
  | 0 => by
    show 0 + f (s + (0 : Nat)) * pw 0 = f s + 1000000000 * 0
    have e : s + ((0 : Nat) : Int) = s := by omega
    rw [e]
    show 0 + f s * 1 = _
    omega
  | n + 1 => by
    rw [V_s, V_front (n := n), V_s, pw_s]
    have e : s + ((n + 1 : Nat) : Int) = s + 1 + n := by omega
    rw [e]
    grind
/-- one step of a multiple's subtraction -/
theorem msub {a b c d g x y l k P : Int} (h1 : a - c * P = b - g * d) (h2 : l - k * 1000000000 = x - (g * y + c)) : a + l * P - k * (1000000000 * P) = b + x * P - g * (d + y * P) := by
  grind
/-- one step of a sum -/
theorem madd {a b c d x y l k P : Int} (h1 : a + c * P = b + d) (h2 : l + k * 1000000000 = x + y + c) : a + l * P + k * (1000000000 * P) = b + x * P + (d + y * P) := by
  grind
/-- one step of a multiple -/
theorem mmul {a c d g y l k P : Int} (h1 : a + c * P = g * d) (h2 : l + k * 1000000000 = g * y + c) : a + l * P + k * (1000000000 * P) = g * (d + y * P) := by
  grind
/-- the quotient's guess: U below (g + 1) V -/
theorem kn_lo0 {U V P hd ul v1 vl g : Int} (hP : 0 < P) (hU : U = hd * P + ul) (hul : ul < P) (hV : V = v1 * P + vl) (hvl : 0 ≤ vl) (hg0 : 0 ≤ g) (hg : hd < (g + 1) * v1) : U < (g + 1) * V := by
  have a : (hd + 1) * P ≤ (g + 1) * v1 * P := Int.mul_le_mul_of_nonneg_right (by omega) (by omega)
  have b : 0 ≤ (g + 1) * vl := Int.mul_nonneg (by omega) hvl
  have c : (g + 1) * V = (g + 1) * v1 * P + (g + 1) * vl := by rw [hV]; grind
  have d : (hd + 1) * P = hd * P + P := by grind
  omega
theorem kn_lo1 {U V P U3 ul V2 vl g : Int} (hP : 0 < P) (hU : U = U3 * P + ul) (hul : ul < P) (hV : V = V2 * P + vl) (hvl : 0 ≤ vl) (hg0 : 0 ≤ g) (hg : U3 < g * V2) : U < g * V := by
  have a : (U3 + 1) * P ≤ g * V2 * P := Int.mul_le_mul_of_nonneg_right (by omega) (by omega)
  have b : 0 ≤ g * vl := Int.mul_nonneg hg0 hvl
  have c : g * V = g * V2 * P + g * vl := by rw [hV]; grind
  have d : (U3 + 1) * P = U3 * P + P := by grind
  omega
theorem kn_up {U V P U3 ul V2 vl g : Int} (hP : 0 < P) (hU : U = U3 * P + ul) (hul : 0 ≤ ul) (hV : V = V2 * P + vl) (hvl : vl < P) (hvl0 : 0 ≤ vl) (hg0 : 1 ≤ g) (hg : g * V2 ≤ U3) (hgV : g - 1 ≤ V2) : (g - 1) * V ≤ U := by
  have a : (g - 1) * V = (g - 1) * V2 * P + (g - 1) * vl := by rw [hV]; grind
  have b : (g - 1) * vl ≤ (g - 1) * P := Int.mul_le_mul_of_nonneg_left (by omega) (by omega)
  have c : (g - 1) * P ≤ V2 * P := Int.mul_le_mul_of_nonneg_right hgV (by omega)
  have d : g * V2 * P ≤ U3 * P := Int.mul_le_mul_of_nonneg_right hg (by omega)
  have e : (g - 1) * V2 * P + V2 * P = g * V2 * P := by grind
  omega
theorem kn_up3 {U V P hd ul v1 vl g : Int} (hP : 0 < P) (hU : U = hd * P + ul) (hul : 0 ≤ ul) (hV : V = v1 * P + vl) (hvl : vl < P) (hvl0 : 0 ≤ vl) (hg0 : 0 ≤ g) (hg : g * v1 ≤ hd) (hgv : g ≤ 4 * v1 + 4) (hV0 : 0 ≤ V) : (g - 4) * V ≤ U := by
  by_cases h : g - 4 ≤ 0
  · have a : (g - 4) * V ≤ 0 := Int.mul_nonpos_of_nonpos_of_nonneg h hV0
    have b : 0 ≤ hd * P := Int.mul_nonneg (by
      have : 0 ≤ g * v1 ∨ v1 < 0 := by
        rcases Int.lt_or_le v1 0 with q | q
        · exact Or.inr q
        · exact Or.inl (Int.mul_nonneg hg0 q)
      rcases this with q | q
      · omega
      · exfalso
        have : v1 * P ≤ -1 * P := Int.mul_le_mul_of_nonneg_right (by omega) (by omega)
        omega) (by omega)
    omega
  · have a : (g - 4) * V = (g - 4) * v1 * P + (g - 4) * vl := by rw [hV]; grind
    have b : (g - 4) * vl ≤ (g - 4) * P := Int.mul_le_mul_of_nonneg_left (by omega) (by omega)
    have d : g * v1 * P ≤ hd * P := Int.mul_le_mul_of_nonneg_right hg (by omega)
    have e : (g - 4) * v1 * P + 4 * v1 * P = g * v1 * P := by grind
    have f : (g - 4) * P ≤ 4 * v1 * P := Int.mul_le_mul_of_nonneg_right (by omega) (by omega)
    omega
/-- the rest behind the subtraction: top = u_w - carry -/
theorem kn_end {U V P g R top : Int} (hP : 0 < P) (hR0 : 0 ≤ R) (hRP : R < P) (hVP : V ≤ P) (heq : U - g * V = R + top * P) (hlo : U < (g + 1) * V) (hup : (g - 1) * V ≤ U) : (0 ≤ top → top = 0 ∧ R < V) ∧ (top < 0 → top = -1 ∧ 0 ≤ R + V - P ∧ R + V - P < V ∧ U < g * V) := by
  have a : (g + 1) * V = g * V + V := by grind
  have b : (g - 1) * V = g * V - V := by grind
  refine ⟨fun h => ?_, fun h => ?_⟩
  · have : top = 0 := by
      rcases Int.lt_or_le 0 top with q | q
      · exfalso
        have : 1 * P ≤ top * P := Int.mul_le_mul_of_nonneg_right (by omega) (by omega)
        omega
      · omega
    subst this
    omega
  · have : top = -1 := by
      rcases Int.lt_or_le top (-1) with q | q
      · exfalso
        have : top * P ≤ -2 * P := Int.mul_le_mul_of_nonneg_right (by omega) (by omega)
        omega
      · omega
    subst this
    omega
