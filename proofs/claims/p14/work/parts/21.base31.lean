/-! Rows and places for the walks of v3 -/
theorem tau_ne {a b : Nat} {x y : Nat ⊕ (FieldType × Nat)} (ha : tau a = x) (hb : tau b = y) (h : x ≠ y) : a ≠ b := fun e => h (by rw [← ha, ← hb, e])
/-- a fact that omega shall not see -/
def Hd (p : Prop) : Prop := p
theorem nbH {G : sG} {S : sS} {y : Nat} {b : Int} (h : cX G S 0 y b) {o : Nat} (ho : tau o = .inl 0) : Hd (0 < S.1 o 1 → S.2.1 (o + 1) (S.1 o 1 - 1) ≠ 0) := h.nb o ho (exq0 ho)
theorem neD {a b : Nat} (h : Hd (a ≠ b)) : a ≠ b := h
theorem neS {a b : Nat} (h : Hd (a ≠ b)) : b ≠ a := fun e => h e.symm
theorem ne1 {a b : Nat} (h : Hd (a ≠ b)) : a + 1 ≠ b + 1 := fun e => h (Nat.succ.inj e)
theorem ne1S {a b : Nat} (h : Hd (a ≠ b)) : b + 1 ≠ a + 1 := fun e => h (Nat.succ.inj e).symm
theorem uF_a {S : sS} {k i : Nat} {x : Int} {a : Nat} {j : Int} : (uF S k i x).2.1 a j = S.2.1 a j := rfl
theorem uF_l {S : sS} {k i : Nat} {x : Int} {a : Nat} {j : Int} : (uF S k i x).2.2.1 a j = S.2.2.1 a j := rfl
theorem uF_r {S : sS} {k i : Nat} {x : Int} {a : Nat} {j : Nat} : (uF S k i x).2.2.2 a j = S.2.2.2 a j := rfl
theorem uA_f {S : sS} {k : Nat} {i x : Int} {a : Nat} {j : Nat} : (uA S k i x).1 a j = S.1 a j := rfl
theorem uA_l {S : sS} {k : Nat} {i x : Int} {a : Nat} {j : Int} : (uA S k i x).2.2.1 a j = S.2.2.1 a j := rfl
theorem uA_r {S : sS} {k : Nat} {i x : Int} {a : Nat} {j : Nat} : (uA S k i x).2.2.2 a j = S.2.2.2 a j := rfl
theorem uL_f {S : sS} {k : Nat} {i x : Int} {a : Nat} {j : Nat} : (uL S k i x).1 a j = S.1 a j := rfl
theorem uL_a {S : sS} {k : Nat} {i x : Int} {a : Nat} {j : Int} : (uL S k i x).2.1 a j = S.2.1 a j := rfl
theorem uL_r {S : sS} {k : Nat} {i x : Int} {a : Nat} {j : Nat} : (uL S k i x).2.2.2 a j = S.2.2.2 a j := rfl
theorem uR_f {S : sS} {k i : Nat} {x : Value} {a : Nat} {j : Nat} : (uR S k i x).1 a j = S.1 a j := rfl
theorem uR_a {S : sS} {k i : Nat} {x : Value} {a : Nat} {j : Int} : (uR S k i x).2.1 a j = S.2.1 a j := rfl
theorem uR_l {S : sS} {k i : Nat} {x : Value} {a : Nat} {j : Int} : (uR S k i x).2.2.1 a j = S.2.2.1 a j := rfl
theorem uC_f {S : sS} {k0 k : Nat} {sp dp n : Int} {a : Nat} {j : Nat} : (uC S k0 sp k dp n).1 a j = S.1 a j := rfl
theorem uC_l {S : sS} {k0 k : Nat} {sp dp n : Int} {a : Nat} {j : Int} : (uC S k0 sp k dp n).2.2.1 a j = S.2.2.1 a j := rfl
theorem uC_r {S : sS} {k0 k : Nat} {sp dp n : Int} {a : Nat} {j : Nat} : (uC S k0 sp k dp n).2.2.2 a j = S.2.2.2 a j := rfl
theorem uD_f {S : sS} {k0 k : Nat} {sp dp n : Int} {a : Nat} {j : Nat} : (uD S k0 sp k dp n).1 a j = S.1 a j := rfl
theorem uD_a {S : sS} {k0 k : Nat} {sp dp n : Int} {a : Nat} {j : Int} : (uD S k0 sp k dp n).2.1 a j = S.2.1 a j := rfl
theorem uD_r {S : sS} {k0 k : Nat} {sp dp n : Int} {a : Nat} {j : Nat} : (uD S k0 sp k dp n).2.2.2 a j = S.2.2.2 a j := rfl
theorem uF_i {S : sS} {k i a j : Nat} {x : Int} (h : j ≠ i) : (uF S k i x).1 a j = S.1 a j := uF_ne (fun q => h q.2)
theorem ac_ne {a b x y : Nat} (ha : acode a = x) (hb : acode b = y) (h : x ≠ y) : a ≠ b := fun e => h (by rw [← ha, ← hb, e])
theorem slot_top {f : Int → Int} {a L T c : Int} (h : SlotOK f a L T) (hc : (0 ≤ f a → c = f a) ∧ (f a ≤ 0 → c = -f a)) (h0 : 0 < c) : f (a + c) ≠ 0 := by
  rcases Int.lt_or_le 0 (f a) with p | p
  · rw [hc.1 (by omega)]; exact h.2.2.1 p
  · rw [hc.2 p]; exact h.2.2.2.1 (by have := hc.2 p; omega)
theorem slot_mk {f : Int → Int} {a L T c : Int} (h1 : f a = c ∨ f a = -c) (h2 : 0 ≤ c ∧ c ≤ L) (h3 : ∀ i, a < i → i < a + 8 → 0 ≤ f i ∧ f i ≤ 999999999) (h4 : 0 < c → f (a + c) ≠ 0) (h5 : c = 7 → f (a + 7) ≤ T) : SlotOK f a L T := by
  refine ⟨⟨by omega, by omega⟩, h3, fun q => ?_, fun q => ?_, fun q => h5 (by omega)⟩
  · have : f a = c := by omega
    rw [this]; exact h4 (by omega)
  · have : f a = -c := by omega
    rw [this, show a - -c = a + c by omega]; exact h4 (by omega)
theorem mul_r {a b A B : Int} (h0 : 0 ≤ a) (h1 : a ≤ A) (h2 : 0 ≤ b) (h3 : b ≤ B) : 0 ≤ a * b ∧ a * b ≤ A * B := ⟨Int.mul_nonneg h0 h2, Int.mul_le_mul h1 h3 h2 (by omega)⟩
theorem divV {a b : Int} (h0 : 0 ≤ a) (hb : 0 < b) {M : Int} (hM : a < M * b) : 0 ≤ a.tdiv b ∧ a.tdiv b < M := by
  rw [Int.tdiv_eq_ediv_of_nonneg h0]
  exact ⟨Int.ediv_nonneg h0 (by omega), Int.ediv_lt_of_lt_mul hb hM⟩
theorem modV {a b : Int} (h0 : 0 ≤ a) (hb : 0 < b) : 0 ≤ a.tmod b ∧ a.tmod b < b := by
  rw [Int.tmod_eq_emod_of_nonneg h0]
  exact ⟨Int.emod_nonneg _ (by omega), Int.emod_lt_of_pos _ hb⟩
theorem mul_s {a b : Int} (h0 : -1 ≤ a ∧ a ≤ 1) (h1 : -1 ≤ b ∧ b ≤ 1) : -1 ≤ a * b ∧ a * b ≤ 1 := by
  have : a = -1 ∨ a = 0 ∨ a = 1 := by omega
  rcases this with rfl | rfl | rfl <;> omega
theorem rmk_f {d : Nat} (h : 1 ≤ d) : 1 ≤ (rmk d 0 0).frames := h
theorem rmk_l {d n : Nat} (h : 1 ≤ d) (hn : n ≤ 64) : n ≤ (rmk d 0 0).locals := by
  show n ≤ 64 * d
  omega
theorem tmodR {a b : Int} (h : 0 < b) : -b < a.tmod b ∧ a.tmod b < b ∧ (0 ≤ a → 0 ≤ a.tmod b) ∧ (a ≤ 0 → a.tmod b ≤ 0) := by
  refine ⟨Int.neg_lt_of_neg_lt (by have := Int.tmod_lt_of_pos (-a) h; rw [Int.neg_tmod] at this; omega), Int.tmod_lt_of_pos a h, fun q => Int.tmod_nonneg b q, fun q => by have := Int.tmod_nonneg b (by omega : 0 ≤ -a); rw [Int.neg_tmod] at this; omega⟩
theorem tdivL {a b : Int} (_h : 0 < b) : (0 ≤ a → a.tdiv b = a / b) ∧ (a ≤ 0 → a.tdiv b = -((-a) / b)) := ⟨fun q => Int.tdiv_eq_ediv_of_nonneg q, fun q => by
  have := Int.tdiv_eq_ediv_of_nonneg (a := -a) (b := b) (by omega)
  rw [Int.neg_tdiv] at this
  omega⟩
theorem tmodL {a b : Int} (_h : 0 < b) : (0 ≤ a → a.tmod b = a % b) ∧ (a ≤ 0 → a.tmod b = -((-a) % b)) := ⟨fun q => Int.tmod_eq_emod_of_nonneg q, fun q => by
  have := Int.tmod_eq_emod_of_nonneg (a := -a) (b := b) (by omega)
  rw [Int.neg_tmod] at this
  omega⟩
theorem sgn3 {a r : Int} (h : r = if a < 0 then -1 else if a = 0 then 0 else 1) : (a < 0 → r = -1) ∧ (a = 0 → r = 0) ∧ (0 < a → r = 1) := by
  refine ⟨fun q => by rw [h, if_pos q], fun q => by rw [h, if_neg (by omega), if_pos q], fun q => by rw [h, if_neg (by omega), if_neg (by omega)]⟩
section R4
variable {p : Program} {l : Launch} {e : Env} {R : Room} {s : State} {m : MethodId} {args : Array Value} {below : List Frame} {meth : Method} {c : Code} {H : Heap} {locs : List Loc} {cells slots : Nat} {Q : State → Prop}
variable {cc : ByteArray} {pc nL : Nat} {ls : Array Slot} {rest : List Value}
theorem r_any_ishr (hx : p.tables.exec = Jvm.exec) (hb : c.code = cc) {a b : Int} (hdg : decode cc pc = .ok (.ishr, 1)) (kk : ∀ z : Int, -2147483648 ≤ z → z ≤ 2147483647 → W p l e R s m args below meth c H locs cells slots Q (F0 m (pc + 1) ls (.int (iv z) :: rest))) : W p l e R s m args below meth c H locs cells slots Q (F0 m pc ls (.int (iv b) :: .int (iv a) :: rest)) := by
  refine lv_ishr hx hb hdg ?_
  obtain ⟨z, e1, h1, h2⟩ := iv_of (iv a >>> (iv b &&& 31))
  rw [e1]
  exact kk z h1 h2
theorem r_or01 (hx : p.tables.exec = Jvm.exec) (hb : c.code = cc) {a b : Int} (ha : a = 0 ∨ a = 1) (hb0 : b = 0 ∨ b = 1) (hdg : decode cc pc = .ok (.ior, 1)) (kk : ∀ z : Int, ((a = 1 ∨ b = 1) ∧ z = 1) ∨ ((a = 0 ∧ b = 0) ∧ z = 0) → W p l e R s m args below meth c H locs cells slots Q (F0 m (pc + 1) ls (.int (iv z) :: rest))) : W p l e R s m args below meth c H locs cells slots Q (F0 m pc ls (.int (iv b) :: .int (iv a) :: rest)) := by
  refine lv_ior hx hb hdg ?_
  rcases ha with rfl | rfl <;> rcases hb0 with rfl | rfl
  · exact kk 0 (Or.inr ⟨⟨rfl, rfl⟩, rfl⟩)
  · exact kk 1 (Or.inl ⟨Or.inr rfl, rfl⟩)
  · exact kk 1 (Or.inl ⟨Or.inl rfl, rfl⟩)
  · exact kk 1 (Or.inl ⟨Or.inl rfl, rfl⟩)
theorem r_abs (hx : p.tables.exec = Jvm.exec) (hb : c.code = cc) (hml : c.maxLocals = ls.size) {own : String} {index : Nat} (hown : s.vm.findClass own = some m.cls) (hlink : (Cond.methodLink own index Lib.Math.abs.name).before args s = true) (hstat : (Cond.static Lib.Math.abs.name).before args s = true) (hini : (Cond.initialized "java/lang/Math").before args s = true) (hcode : (Cond.code Lib.Math.abs.name Lib.Math.abs.code 1 (some .int)).before args s = true)
    (hframes : 1 ≤ R.frames) (hlocals : (rest.map fun v => v.category).sum + 13 ≤ R.locals) (hc : cells ≤ R.cells) (hs : slots ≤ R.slots) {a : Int} (ha : -2147483647 ≤ a ∧ a ≤ 2147483647) (hdg : decode cc pc = .ok (.invokestatic index, 3))
    (kk : ∀ z : Int, (0 ≤ a → z = a) ∧ (a ≤ 0 → z = -a) → W p l e R s m args below meth c H locs cells slots Q (F0 m (pc + 3) ls (.int (iv z) :: rest))) : W p l e R s m args below meth c H locs cells slots Q (F0 m pc ls (.int (iv a) :: rest)) := by
  refine va_mabs hx hb hml hown hlink hstat hini hcode hframes hlocals hc hs hdg ?_
  by_cases h : 0 ≤ a
  · rw [if_pos ((iv_ge0 (by omega)).mpr h)]
    exact kk a ⟨fun _ => rfl, fun _ => by omega⟩
  · rw [if_neg (fun q => h ((iv_ge0 (by omega)).mp q))]
    have e : (0 : Int32) - iv a = iv (-a) := by rw [Int32.zero_sub, ← Int32.ofInt_neg]
    rw [e]
    exact kk (-a) ⟨fun _ => by omega, fun _ => rfl⟩
theorem r_absl (hx : p.tables.exec = Jvm.exec) (hb : c.code = cc) (hml : c.maxLocals = ls.size) {own : String} {index : Nat} (hown : s.vm.findClass own = some m.cls) (hlink : (Cond.methodLink own index Lib.MathLoose.abs_long.x).before args s = true) (hstat : (Cond.static Lib.MathLoose.abs_long.x).before args s = true) (hini : (Cond.initialized "java/lang/Math").before args s = true) (hcode : (Cond.code Lib.MathLoose.abs_long.x Lib.MathLoose.abs_long.code 2 (some .long)).before args s = true)
    (hframes : 1 ≤ R.frames) (hlocals : (rest.map fun v => v.category).sum + 13 ≤ R.locals) (hc : cells ≤ R.cells) (hs : slots ≤ R.slots) {a : Int} (ha : -9223372036854775807 ≤ a ∧ a ≤ 9223372036854775807) (hdg : decode cc pc = .ok (.invokestatic index, 3))
    (kk : ∀ z : Int, (0 ≤ a → z = a) ∧ (a ≤ 0 → z = -a) → W p l e R s m args below meth c H locs cells slots Q (F0 m (pc + 3) ls (.long (jv z) :: rest))) : W p l e R s m args below meth c H locs cells slots Q (F0 m pc ls (.long (jv a) :: rest)) := by
  refine va_mabs_long hx hb hml hown hlink hstat hini hcode hframes hlocals hc hs hdg ?_
  have z0 : (0 : Int64) = jv 0 := rfl
  have hlt : (0 : Int64) < jv a ↔ 0 < a := by rw [z0, Int64.lt_iff_toInt_lt, jv_toInt (by decide), jv_toInt (by omega)]
  by_cases h : 0 < a
  · rw [if_pos (hlt.mpr h)]
    exact kk a ⟨fun _ => rfl, fun _ => by omega⟩
  · rw [if_neg (fun q => h (hlt.mp q)), ← Int64.ofInt_neg]
    exact kk (-a) ⟨fun _ => by omega, fun _ => rfl⟩
theorem r_minl (hx : p.tables.exec = Jvm.exec) (hb : c.code = cc) (hml : c.maxLocals = ls.size) {own : String} {index : Nat} (hown : s.vm.findClass own = some m.cls) (hlink : (Cond.methodLink own index Lib.MathLoose.min_long.x).before args s = true) (hstat : (Cond.static Lib.MathLoose.min_long.x).before args s = true) (hini : (Cond.initialized "java/lang/Math").before args s = true) (hcode : (Cond.code Lib.MathLoose.min_long.x Lib.MathLoose.min_long.code 4 (some .long)).before args s = true)
    (hframes : 1 ≤ R.frames) (hlocals : (rest.map fun v => v.category).sum + 15 ≤ R.locals) (hc : cells ≤ R.cells) (hs : slots ≤ R.slots) {a b : Int} (ha : -9223372036854775808 ≤ a ∧ a ≤ 9223372036854775807) (hb0 : -9223372036854775808 ≤ b ∧ b ≤ 9223372036854775807) (hdg : decode cc pc = .ok (.invokestatic index, 3))
    (kk : ∀ z : Int, (a ≤ b → z = a) ∧ (b ≤ a → z = b) → W p l e R s m args below meth c H locs cells slots Q (F0 m (pc + 3) ls (.long (jv z) :: rest))) : W p l e R s m args below meth c H locs cells slots Q (F0 m pc ls (.long (jv b) :: .long (jv a) :: rest)) := by
  refine va_mmin_long hx hb hml hown hlink hstat hini hcode hframes hlocals hc hs hdg ?_
  have hle : jv b < jv a ↔ b < a := by rw [Int64.lt_iff_toInt_lt, jv_toInt ha, jv_toInt hb0]
  by_cases h : b < a
  · rw [if_pos (hle.mpr h)]
    exact kk b ⟨fun _ => by omega, fun _ => rfl⟩
  · rw [if_neg (fun q => h (hle.mp q))]
    exact kk a ⟨fun _ => rfl, fun _ => by omega⟩
end R4
theorem big_l {o : Nat} (h : tau o = .inl 0) : o < 294 := Nat.lt_trans (big_lt h) (by decide)
theorem big_l1 {o : Nat} (h : tau o = .inl 0) : o + 1 < 294 := Nat.lt_trans (big_row h).2.2 (by decide)
theorem big_pN {o : Nat} (h : tau o = .inl 0) : pN o = true ∧ pN (o + 1) = true := by
  have a : ∀ o, o < 231 → tau o = .inl 0 → pN o = true ∧ pN (o + 1) = true := by decide +kernel
  exact a o (big_lt h) h
theorem mdl_l {o : Nat} (m : mdl o) : o < 294 := by have := m.2.2.2.1; omega
theorem mdl_l1 {o : Nat} (m : mdl o) : o + 1 < 294 := by have := m.2.2.2.1; omega
theorem mdl_l2 {o : Nat} (m : mdl o) : o + 2 < 294 := by have := m.2.2.2.1; omega
theorem mdl_k {o : Nat} (m : mdl o) : o < 231 := by have := m.2.2.2.1; omega
theorem mdl_pN {o : Nat} (m : mdl o) : pN o = false ∧ pN (o + 1) = false ∧ pN (o + 2) = false := by
  have a : ∀ o, o < 231 → tau o = .inl 3 → pN o = false ∧ pN (o + 1) = false ∧ pN (o + 2) = false := by decide +kernel
  exact a o (mdl_k m) m.1
theorem mdl_pC {o : Nat} (m : mdl o) : pC o = true ∧ pC (o + 1) = true ∧ pC (o + 2) = true := by
  have a : ∀ o, o < 231 → tau o = .inl 3 → pC o = true ∧ pC (o + 1) = true ∧ pC (o + 2) = true := by decide +kernel
  exact a o (mdl_k m) m.1
def dc (o : Nat) : Prop := o = 136 ∨ o = 137
theorem dic_l {o : Nat} (m : dc o) : o < 294 := by rcases m with rfl | rfl <;> decide
theorem dic_t {o : Nat} (m : dc o) : tau o = .inr (.int, 4816) := by rcases m with rfl | rfl <;> rfl
theorem dic_c {o : Nat} (m : dc o) : acode o = 4 := by rcases m with rfl | rfl <;> rfl
theorem dic_p {o : Nat} (m : dc o) : pN o = true := by rcases m with rfl | rfl <;> rfl
/-- a row of slots -/
def sla (k N : Nat) : Prop := k < 231 ∧ tau k = .inr (.int, N) ∧ N ≤ 5000 ∧ acode k = 4 ∧ slotN k = N ∧ pN k = true
theorem dic_a {o : Nat} (m : dc o) : sla o 4816 := by rcases m with rfl | rfl <;> exact ⟨by decide, rfl, by decide, rfl, rfl, rfl⟩
section B3
variable {G : sG} {S u : sS} {x y : Nat} {b : Int}
theorem mdl_r1 {o : Nat} (m : mdl o) (h : cX G S x y b) (j : Int) : -2147483648 ≤ S.2.1 (o + 1) j ∧ S.2.1 (o + 1) j ≤ 2147483647 := by
  have := h.ai (o + 1) j (by have := m.2.2.2.1; omega)
  rw [m.2.2.2.2.1] at this
  exact this
theorem mdl_r2 {o : Nat} (m : mdl o) (h : cX G S x y b) (j : Int) : 0 ≤ S.2.1 (o + 2) j ∧ S.2.1 (o + 2) j ≤ 1 := by
  have := h.ai (o + 2) j m.2.2.2.1
  rw [m.2.2.2.2.2] at this
  exact this
theorem sla_r {k N : Nat} (m : sla k N) (h : cX G S x y b) (j : Int) : -2147483648 ≤ S.2.1 k j ∧ S.2.1 k j ≤ 2147483647 := by
  have := h.ai k j m.1
  rw [m.2.2.2.1] at this
  exact this
theorem slotL6 (k : Nat) : 6 ≤ slotL k := by unfold slotL; split <;> decide
theorem dicS {a : Int} {k : Nat} (h : cX G S x 0 b) (m : dc k) (ha : a % 8 = 0 ∧ 0 ≤ a ∧ a + 7 < 4816) : SlotOK (S.2.1 k) a 6 999999999 := by
  have e : SlotOK (S.2.1 k) a (slotL k) (slotT k) := h.sl ha.1 ha.2.1 (by rw [(dic_a m).2.2.2.2.1]; exact ha.2.2)
  rcases m with rfl | rfl <;> exact e
theorem dicI {f : Int → Int} {a : Int} {k : Nat} (m : dc k) (h : SlotOK f a 6 999999999) : SlotOK f a (slotL k) (slotT k) := by rcases m with rfl | rfl <;> exact h
theorem dicD (h : cX G S x y b) {k : Nat} (m : dc k) : 0 ≤ S.2.1 k 0 := by rcases m with rfl | rfl; exact h.ko.2.1; exact h.ko.2.2
theorem dicSv {k : Nat} (m : dc k) {c z : Int} (h : c ≤ 6) : c ≤ slotL k ∧ (c = 7 → z ≤ slotT k) := by rcases m with rfl | rfl <;> exact ⟨h, fun q => by omega⟩
theorem rm_135 (h : cX G S x y b) : ∃ o o2, dc o ∧ dc o2 ∧ o ≠ o2 ∧ S.2.2.2 135 0 = .ref (G.2.2.1 + o) ∧ S.2.2.2 135 1 = .ref (G.2.2.1 + o2) := by
  rcases h.rm.2.2.2.2.1 with q | q
  · exact ⟨136, 137, Or.inl rfl, Or.inr rfl, by decide, q.1, q.2⟩
  · exact ⟨137, 136, Or.inr rfl, Or.inl rfl, by decide, q.1, q.2⟩
theorem rm_0_5 (h : cX G S x y b) : ∃ o, mdl o ∧ S.2.2.2 0 5 = .ref (G.2.2.1 + o) := by
  rcases h.rm.1 with q | q
  · exact ⟨5, mdl_of (by decide) rfl, q.1⟩
  · exact ⟨8, mdl_of (by decide) rfl, q.1⟩
theorem rm_0_6 (h : cX G S x y b) : ∃ o, mdl o ∧ S.2.2.2 0 6 = .ref (G.2.2.1 + o) := by
  rcases h.rm.1 with q | q
  · exact ⟨8, mdl_of (by decide) rfl, q.2⟩
  · exact ⟨5, mdl_of (by decide) rfl, q.2⟩
theorem cX.status {v : Int} (h : cX G S x y b) (hv : 0 ≤ v ∧ v ≤ 6) (h4 : v = 4 → 1 ≤ S.1 135 18) : cX G (uF S 119 9 v) x y b := by
  refine ⟨⟨h.fi.put (ci := 7) rfl hv, h.ai, h.li⟩, h.2.1, ?_, h.ns, ?_, ?_⟩
  · intro o ho hx
    rw [uF_ne (fun q => by rw [q.1] at ho; cases ho)]; exact h.nb o ho hx
  · intro q
    rw [uF_on] at q
    rw [uF_ne (by decide)]; exact h4 q
  · obtain ⟨⟨n, hn⟩, hd⟩ := h.ko
    exact ⟨⟨n, by rw [uF_ne (by decide)]; exact hn⟩, hd⟩
theorem cX.column {v : Int} (h : cX G S x y b) (hv : -1 ≤ v ∧ v ≤ 13) (h4 : S.1 119 9 = 4 → 1 ≤ v) : cX G (uF S 135 18 v) x y b := by
  refine ⟨⟨h.fi.put (ci := 2) rfl hv, h.ai, h.li⟩, h.2.1, ?_, h.ns, ?_, ?_⟩
  · intro o ho hx
    rw [uF_ne (fun q => by rw [q.1] at ho; cases ho)]; exact h.nb o ho hx
  · intro q
    rw [uF_ne (by decide)] at q
    rw [uF_on]; exact h4 q
  · obtain ⟨⟨n, hn⟩, hd⟩ := h.ko
    exact ⟨⟨n, by rw [uF_ne (by decide)]; exact hn⟩, hd⟩
/-- limbs of one register copied to the one that is being made -/
theorem cX.limbC {a k : Nat} {n : Int} (h : cX G S x y b) (hk : exq x k) (ht : tau k = .inl 0) (ha : tau a = .inl 0) : cX G (uC S (a + 1) 0 (k + 1) 0 n) x y b := by
  obtain ⟨t1, t2, t3⟩ := big_row ht
  refine ⟨⟨h.fi, fun k j hk => ?_, h.li⟩, h.2.1, ?_, ?_, h.ub, ?_⟩
  · rw [uC_get]
    split
    · rename_i q
      rw [q.1, t2]; exact limbR h ha _
    · exact h.ai k j hk
  · intro o ho hx
    rw [uC_get, if_neg (fun q => hx (by have e : k = o := Nat.succ.inj q.1.symm; rw [← e]; exact hk))]
    exact h.nb o ho hx
  · intro k2 a2 m0 m1 m2 m3
    refine (h.ns k2 a2 m0 m1 m2 m3).cg (slotL7 _) (fun j j0 j1 => if_neg (fun q => ?_))
    rw [q.1, slotN0 (by rw [t2]; decide)] at m2
    omega
  · obtain ⟨⟨n2, hn⟩, hd⟩ := h.ko
    exact ⟨⟨n2, hn.put (fun j j0 j1 => if_neg (fun q => by rw [← q.1] at t2; revert t2; decide))⟩, by rw [uC_get, if_neg (fun q => by rw [← q.1] at t2; revert t2; decide)]; exact hd.1, by rw [uC_get, if_neg (fun q => by rw [← q.1] at t2; revert t2; decide)]; exact hd.2⟩
end B3
def pD (o q h k : Nat) : Bool := pB o k || pB q k || pB h k
theorem pD_sub {P : pS} {o q h : Nat} (h1 : ∀ k, pB o k = true → P k = true) (h2 : ∀ k, pB q k = true → P k = true) (h3 : ∀ k, pB h k = true → P k = true) : ∀ k, pD o q h k = true → P k = true := fun k e => by
  simp only [pD, Bool.or_eq_true] at e
  rcases e with (e | e) | e
  · exact h1 k e
  · exact h2 k e
  · exact h3 k e
theorem pD_1 {o q h k : Nat} (e : pB o k = true) : pD o q h k = true := by simp [pD, e]
theorem pD_2 {o q h k : Nat} (e : pB q k = true) : pD o q h k = true := by simp [pD, e]
theorem pD_3 {o q h k : Nat} (e : pB h k = true) : pD o q h k = true := by simp [pD, e]
theorem pD_no {o q h k : Nat} (e1 : pB o k = false) (e2 : pB q k = false) (e3 : pB h k = false) : pD o q h k = false := by simp [pD, e1, e2, e3]
theorem V_upd {S : sS} {k : Nat} {s i j x : Int} (h : 0 ≤ i) (e : j = s + i) : V ((uA S k j x).2.1 k) s (i + 1).toNat = V (S.2.1 k) s i.toNat + x * pw i.toNat := by
  rw [V_stp h, e, uA_on]
  congr 1
  exact V_cg (fun q q0 q1 => uA_ne (fun z => by have := z.2; omega))
theorem V_same {S : sS} {k : Nat} {s n j x : Int} (h : j < s ∨ s + n ≤ j) : V ((uA S k j x).2.1 k) s n.toNat = V (S.2.1 k) s n.toNat := V_cg (fun q q0 q1 => uA_ne (fun z => by have := z.2; omega))
/-- a register's size -/
def VR (S : sS) (o : Nat) : Int := V (S.2.1 (o + 1)) 0 (S.1 o 1).toNat
theorem VR_fr {S u : sS} {P : pS} {o : Nat} (f : Fr S u P) (h1 : P o = false) (h2 : P (o + 1) = false) : VR u o = VR S o := by
  unfold VR
  rw [(f o h1).1]
  exact V_cg (fun i _ _ => (f (o + 1) h2).2.1 _)
theorem VR_F {S : sS} {k i o : Nat} {x : Int} (h : ¬ (k = o ∧ i = 1)) : VR (uF S k i x) o = VR S o := by
  unfold VR
  rw [uF_ne (fun q => h ⟨q.1.symm, q.2.symm⟩)]
  rfl
theorem VR_A {S : sS} {k o : Nat} {i x : Int} (h : k ≠ o + 1) : VR (uA S k i x) o = VR S o := V_cg (fun j _ _ => uA_ne (fun q => h q.1.symm))
theorem VR_tn {S u : sS} {o : Nat} (h1 : u.1 o 1 = S.1 o 1) (h2 : u.2 = S.2) : VR u o = VR S o := by
  unfold VR
  rw [h1, h2]
theorem V_one {f : Int → Int} {c v : Int} (h2 : v = 0 → c = 0) (h3 : v ≠ 0 → c = 1 ∧ f 0 = v) : V f 0 c.toNat = v := by
  by_cases e : v = 0
  · rw [h2 e]; exact e.symm
  · rw [(h3 e).1]
    show 0 + f (0 + ((0 : Nat) : Int)) * 1 = v
    rw [show (0 : Int) + ((0 : Nat) : Int) = 0 by omega, (h3 e).2]; omega
section CMP
variable {G : sG} {S : sS} {y : Nat} {b : Int} {o a : Nat}
theorem VR_lt (hI : cX G S 0 y b) (ho : tau o = .inl 0) : VR S o < pw (S.1 o 1).toNat := V_lt (fun i _ _ => limbR hI ho i)
theorem VR_0 (hI : cX G S 0 y b) (ho : tau o = .inl 0) : 0 ≤ VR S o := V_0 (fun i _ _ => (limbR hI ho i).1)
theorem VR_ge (hI : cX G S 0 y b) (ho : tau o = .inl 0) (h : 0 < S.1 o 1) : pw (S.1 o 1 - 1).toNat ≤ VR S o := by
  unfold VR
  rw [show (S.1 o 1).toNat = (S.1 o 1 - 1).toNat + 1 by omega]
  refine V_ge (fun j _ => (limbR hI ho j).1) ?_
  rw [show (0 : Int) + ((S.1 o 1 - 1).toNat : Int) = S.1 o 1 - 1 by omega]
  exact nbH hI ho h
theorem cmp_cnt (hI : cX G S 0 y b) (ho : tau o = .inl 0) (ha : tau a = .inl 0) (h0 : 0 ≤ S.1 a 1) (h : S.1 a 1 < S.1 o 1) : VR S a < VR S o := by
  have e1 := VR_lt hI ha
  have e2 := VR_ge hI ho (by omega)
  have e3 : pw (S.1 a 1).toNat ≤ pw (S.1 o 1 - 1).toNat := pw_le (by omega)
  omega
theorem cmp_limb (hI : cX G S 0 y b) (ho : tau o = .inl 0) (ha : tau a = .inl 0) {i : Int} (h0 : 0 ≤ i) (h1 : i < S.1 o 1) (hc : S.1 o 1 = S.1 a 1) (he : ∀ j, i < j → j < S.1 o 1 → S.2.1 (o + 1) j = S.2.1 (a + 1) j) (hl : S.2.1 (a + 1) i < S.2.1 (o + 1) i) : VR S a < VR S o := by
  unfold VR
  rw [← hc]
  exact V_cmp h0 (fun j _ => limbR hI ho j) (fun j _ => limbR hI ha j) hl _ (by omega) (fun j j0 j1 => he j j0 (by omega))
theorem cmp_eq (hc : S.1 o 1 = S.1 a 1) (he : ∀ j, -1 < j → j < S.1 o 1 → S.2.1 (o + 1) j = S.2.1 (a + 1) j) : VR S a ≤ VR S o := by
  unfold VR
  rw [← hc]
  exact Int.le_of_eq (V_cg (fun i i0 i1 => (he (0 + i) (by omega) (by omega)).symm))
end CMP
/-- a register that was trimmed -/
theorem VR_trim {f : Int → Int} {c d : Int} (h0 : 0 ≤ d) (h : d ≤ c) (hz : ∀ j, d ≤ j → j < c → f j = 0) : V f 0 c.toNat = V f 0 d.toNat := V_cut (by omega) (fun j j0 j1 => hz j (by omega) (by omega))
theorem tdm (a b : Int) : a.tdiv b * b + a.tmod b = a := by rw [Int.tmod_def, Int.mul_comm]; omega
theorem V_frontI {f : Int → Int} {s n : Int} (h : 0 ≤ n) : V f s (n + 1).toNat = f s + 1000000000 * V f (s + 1) n.toNat := by
  rw [show (n + 1).toNat = n.toNat + 1 by omega, V_front]
/-- a text and its bytes -/
def txt (o N : Nat) : Prop := o < 231 ∧ tau o = .inl 10 ∧ tau (o + 1) = .inr (.byte, N) ∧ txN o = N ∧ acode (o + 1) = 2 ∧ N ≤ 30000
theorem txt_l1 {o N : Nat} (m : txt o N) : o + 1 < 294 := by have := m.1; omega
theorem txt_l2 {o N : Nat} (m : txt o N) : o + 1 < 231 := by
  rcases Nat.lt_or_ge (o + 1) 231 with q | q
  · exact q
  · exfalso
    have e : o = 230 := by have := m.1; omega
    have := m.2.1
    rw [e] at this
    cases this
/-- what byteAt answers -/
def bt (S : sS) (o : Nat) (k : Int) : Int := if 0 ≤ k ∧ k < S.1 o 1 then S.2.1 (o + 1) k % 256 else -1
theorem bt_in {S : sS} {o : Nat} {k : Int} (h0 : 0 ≤ k) (h1 : k < S.1 o 1) : bt S o k = S.2.1 (o + 1) k % 256 := if_pos ⟨h0, h1⟩
theorem bt_out {S : sS} {o : Nat} {k : Int} (h : k < 0 ∨ S.1 o 1 ≤ k) : bt S o k = -1 := if_neg (by omega)
theorem bt_fr {S u : sS} {P : pS} {o : Nat} {k : Int} (f : Fr S u P) (h1 : P o = false) (h2 : P (o + 1) = false) : bt u o k = bt S o k := by
  unfold bt
  rw [(f o h1).1, (f (o + 1) h2).2.1]
section TX
variable {G : sG} {S u : sS} {x y : Nat} {b : Int} {o N : Nat}
theorem txt_len (m : txt o N) (h : cX G S x y b) : 0 ≤ S.1 o 1 ∧ S.1 o 1 ≤ (N : Int) := by
  have := h.fi o 1 10 m.1 m.2.1
  rw [← m.2.2.2.1]
  exact this
theorem txt_r (m : txt o N) (h : cX G S x y b) (j : Int) : -128 ≤ S.2.1 (o + 1) j ∧ S.2.1 (o + 1) j ≤ 127 := by
  have := h.ai (o + 1) j (txt_l2 m)
  rw [m.2.2.2.2.1] at this
  exact this
theorem cX.len {v : Int} (h : cX G S x y b) (m : txt o N) (hv : 0 ≤ v ∧ v ≤ (N : Int)) : cX G (uF S o 1 v) x y b := h.F m.2.1 rfl (by rw [← m.2.2.2.1] at hv; exact hv)
theorem cX.byt {i v : Int} (h : cX G S x y b) (m : txt o N) (hv : -128 ≤ v ∧ v ≤ 127) : cX G (uA S (o + 1) i v) x y b := h.A (by rw [m.2.2.2.2.1]; decide) (by rw [m.2.2.2.2.1]; decide) (fun e => by have := m.2.2.2.2.1; rw [e] at this; revert this; decide) (by rw [m.2.2.2.2.1]; exact hv)
theorem rm_189 (h : cX G S x y b) : ∃ o N, txt o N ∧ S.2.2.2 189 0 = .ref (G.2.2.1 + o) := by
  rcases h.rm.2.2.2.2.2 with q | q
  · exact ⟨190, 0, ⟨by decide, rfl, rfl, rfl, rfl, by decide⟩, q⟩
  · exact ⟨1, 30000, ⟨by decide, rfl, rfl, rfl, rfl, by decide⟩, q⟩
end TX
theorem and255v {a : Int} (h : -2147483648 ≤ a ∧ a ≤ 2147483647) : (iv a &&& 255).toInt = a % 256 := by
  have h1 : (iv a &&& 255).toBitVec.toNat = (iv a).toBitVec.toNat % 256 := by
    rw [Int32.toBitVec_and, BitVec.toNat_and]
    exact Nat.and_two_pow_sub_one_eq_mod _ 8
  have e : (iv a &&& 255).toInt = ((iv a &&& 255).toBitVec.toNat : Int) := BitVec.toInt_eq_toNat_of_lt (by omega)
  have e2 : ((iv a).toBitVec.toNat : Int) = a % 4294967296 := by
    show ((BitVec.ofInt 32 a).toNat : Int) = _
    rw [BitVec.toNat_ofInt]
    have : (0 : Int) ≤ a % 4294967296 := Int.emod_nonneg _ (by decide)
    omega
  rw [e, h1]
  omega
section R5
variable {p : Program} {l : Launch} {e : Env} {R : Room} {s : State} {m : MethodId} {args : Array Value} {below : List Frame} {meth : Method} {c : Code} {H : Heap} {locs : List Loc} {cells slots : Nat} {Q : State → Prop}
variable {cc : ByteArray} {pc nL : Nat} {ls : Array Slot} {rest : List Value}
theorem r_and255e (hx : p.tables.exec = Jvm.exec) (hb : c.code = cc) {a : Int} (ha : -2147483648 ≤ a ∧ a ≤ 2147483647) (hdg : decode cc pc = .ok (.iand, 1)) (kk : ∀ z : Int, 0 ≤ z → z ≤ 255 → z = a % 256 → W p l e R s m args below meth c H locs cells slots Q (F0 m (pc + 1) ls (.int (iv z) :: rest))) : W p l e R s m args below meth c H locs cells slots Q (F0 m pc ls (.int (iv 255) :: .int (iv a) :: rest)) := by
  refine lv_iand hx hb hdg ?_
  have h := and255 (iv a)
  have e1 : iv a &&& iv 255 = iv (iv a &&& 255).toInt := (Int32.ofInt_toInt _).symm
  rw [e1]
  exact kk _ h.1 h.2 (and255v ha)
end R5
