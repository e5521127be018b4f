section TL3
variable {p : Program} {l : Launch} {e : Env} {R : Room} {s : State} {m : MethodId} {args : Array Value} {below : List Frame} {meth : Method} {c : Code} {H : Heap} {locs : List Loc} {cells slots : Nat} {Q : State → Prop}
variable {cc : ByteArray} {pc nL : Nat} {ls : Array Slot} {rest st0 : List Value} {G : sG} {n : Nat} {S : sS} {own : String}
theorem rAald (Cx : sC G p m c cc nL s args own) (hW : sW G n S H) {k N : Nat} (hk : k < n) (ht : tau k = .inr (.array .long, N)) (hN : N ≤ 2147483647) {a : Int} (h0 : 0 ≤ a) (h1 : a < N) {v : Value} (hv : S.2.2.2 k a.toNat = v) (hdg : decode cc pc = .ok (.aaload, 1))
    (kk : W p l e R s m args below meth c H locs cells slots Q (F0 m (pc + 1) ls (v :: rest))) : W p l e R s m args below meth c H locs cells slots Q (F0 m pc ls (.int (iv a) :: .ref (G.2.2.1 + k) :: rest)) := by
  obtain ⟨⟨hx, hb, hml, hown, hts⟩, hK, -⟩ := Cx
  have hin := iv_in h0 h1 hN
  have hcl := iv_clamp h0 (by omega)
  have hlt : (iv a).toNatClampNeg < N := Nat.not_le.mp fun q => hin (Or.inr q)
  refine W.aald (v := v) hx hb (hW.arr hk ht) ((sArr hK 4 rfl).1 N _) rfl (fun q => by cases q) (by show ¬ (iv a < 0 ∨ (arrV _ _ _).slots.size ≤ _); rw [arrV_size]; exact hin) ?_ rfl rfl hdg kk
  show (arrV _ _ _).slots[_]? = _
  rw [arrV_read _ _ hlt, hcl]
  exact congrArg some hv
theorem r_abslA (hx : p.tables.exec = Jvm.exec) (hb : c.code = cc) (hml : c.maxLocals = ls.size) {own : String} {index : Nat} (hown : s.vm.findClass own = some m.cls) (hlink : (Cond.methodLink own index Lib.MathLoose.abs_long.x).before args s = true) (hstat : (Cond.static Lib.MathLoose.abs_long.x).before args s = true) (hini : (Cond.initialized "java/lang/Math").before args s = true) (hcode : (Cond.code Lib.MathLoose.abs_long.x Lib.MathLoose.abs_long.code 2 (some .long)).before args s = true)
    (hframes : 1 ≤ R.frames) (hlocals : (rest.map fun v => v.category).sum + 13 ≤ R.locals) (hc : cells ≤ R.cells) (hs : slots ≤ R.slots) {a : Int} (hdg : decode cc pc = .ok (.invokestatic index, 3))
    (kk : ∀ z : Int, -9223372036854775808 ≤ z → z ≤ 9223372036854775807 → W p l e R s m args below meth c H locs cells slots Q (F0 m (pc + 3) ls (.long (jv z) :: rest))) : W p l e R s m args below meth c H locs cells slots Q (F0 m pc ls (.long (jv a) :: rest)) := by
  refine va_mabs_long hx hb hml hown hlink hstat hini hcode hframes hlocals hc hs hdg ?_
  split
  · obtain ⟨z, ez, h1, h2⟩ := jv_of (jv a)
    rw [ez]; exact kk z h1 h2
  · obtain ⟨z, ez, h1, h2⟩ := jv_of (-(jv a))
    rw [ez]; exact kk z h1 h2
end TL3
/-- a row of thirteen longs of the teller -/
def lr (q : Nat) : Prop := tau q = .inr (.long, 13) ∧ 20 ≤ q ∧ q ≤ 115
theorem lr_l {q : Nat} (h : lr q) : q < 294 := by have := h.2.2; omega
theorem lr_k {q : Nat} (h : lr q) : q < 231 := by have := h.2.2; omega
theorem lr_h {q : Nat} (h : lr q) : tau q = .inr (.long, 13) ∧ q < 231 := ⟨h.1, lr_k h⟩
def pV (k : Nat) : Bool := Nat.beq k 11 || rgB 16 115 k
def pG (k : Nat) : Bool := rgB 5 11 k || rgB 16 118 k || rgB 185 187 k || rgB 228 230 k
theorem lr_V {q : Nat} (h : lr q) : pV q = true := by
  rw [pV, rgB_i ⟨by have := h.2.1; omega, h.2.2⟩, Bool.or_true]
theorem pU_V : ∀ k, pU k = true → pV k = true := fun k h => by
  rw [pU, Bool.or_eq_true] at h
  rcases h with h | h
  · rw [Nat.eq_of_beq_eq_true h]; rfl
  · have := rgB_t h
    rw [pV, rgB_i ⟨by omega, by omega⟩, Bool.or_true]
theorem pV_G : ∀ k, pV k = true → pG k = true := fun k h => by
  rw [pV, Bool.or_eq_true] at h
  rcases h with h | h
  · rw [Nat.eq_of_beq_eq_true h]; rfl
  · have := rgB_t h
    rw [pG, rgB_i (a := 16) (b := 118) (by omega), Bool.or_true, Bool.true_or, Bool.true_or]
theorem pG_C : ∀ k, pG k = true → pC k = true := fun k h => by
  simp only [pG, Bool.or_eq_true] at h
  rw [pC, rgB_i (a := 3) (b := 230) (by rcases h with ((h | h) | h) | h <;> (have := rgB_t h; omega)), Bool.or_true]
theorem mdl_pG {o : Nat} (m : mdl o) : pG o = true ∧ pG (o + 1) = true ∧ pG (o + 2) = true := by
  have a : ∀ o, o < 231 → tau o = .inl 3 → pG o = true ∧ pG (o + 1) = true ∧ pG (o + 2) = true := by decide +kernel
  exact a o (mdl_k m) m.1
theorem lr20 : ∀ i, i < 31 → tau (20 + i) = .inr (.long, 13) ∧ tau (52 + i) = .inr (.long, 13) ∧ tau (84 + i) = .inr (.long, 13) := by decide +kernel
theorem r2_19 {G : sG} {S : sS} {x y : Nat} {b i : Int} (h : cX G S x y b) (h0 : 0 ≤ i) (h1 : i < 31) : ∃ q, lr q ∧ S.2.2.2 19 i.toNat = .ref (G.2.2.1 + q) := ⟨20 + i.toNat, ⟨(lr20 _ (by omega)).1, by omega, by omega⟩, (h.r2 _ (by omega)).1⟩
theorem r2_51 {G : sG} {S : sS} {x y : Nat} {b i : Int} (h : cX G S x y b) (h0 : 0 ≤ i) (h1 : i < 31) : ∃ q, lr q ∧ S.2.2.2 51 i.toNat = .ref (G.2.2.1 + q) := ⟨52 + i.toNat, ⟨(lr20 _ (by omega)).2.1, by omega, by omega⟩, (h.r2 _ (by omega)).2.1⟩
theorem r2_83 {G : sG} {S : sS} {x y : Nat} {b i : Int} (h : cX G S x y b) (h0 : 0 ≤ i) (h1 : i < 31) : ∃ q, lr q ∧ S.2.2.2 83 i.toNat = .ref (G.2.2.1 + q) := ⟨84 + i.toNat, ⟨(lr20 _ (by omega)).2.2, by omega, by omega⟩, (h.r2 _ (by omega)).2.2⟩
theorem cX.D {G : sG} {S : sS} {x y : Nat} {b : Int} {k0 k : Nat} {sp dp n : Int} (h : cX G S x y b) (hk : k0 < 231) : cX G (uD S k0 sp k dp n) x y b := ⟨⟨h.1.1, h.1.2.1, fun a j ha => by
  rw [uD_get]; split
  · exact h.li k0 _ hk
  · exact h.li a j ha⟩, h.2⟩
/-- what a telling leaves as it was: the names known, and their sorts -/
def TK (S u : sS) : Prop := TS u ∧ u.1 11 9 = S.1 11 9 ∧ ∀ s, 0 ≤ s → s < S.1 11 9 → fc u s 0 = fc S s 0
theorem TK.rf {S : sS} (h : TS S) : TK S S := ⟨h, rfl, fun _ _ _ => rfl⟩
theorem TK.trans {S T U : sS} (h : TK S T) (g : TK T U) : TK S U := ⟨g.1, g.2.1.trans h.2.1, fun s s0 s1 => (g.2.2 s s0 (by rw [h.2.1]; exact s1)).trans (h.2.2 s s0 s1)⟩
theorem TK.of {S T u : sS} (h : TK S T) (e : u.1 11 9 = T.1 11 9) (e2 : ∀ j, u.2.1 17 j = T.2.1 17 j) : TK S u := ⟨h.1.of e e2, e.trans h.2.1, fun s s0 s1 => (e2 _).trans (h.2.2 s s0 s1)⟩
theorem TK.fr {S T u : sS} {P : pS} (h : TK S T) (f : Fr T u P) (h1 : P 11 = false) (h2 : P 17 = false) : TK S u := h.of ((f 11 h1).1 9) (fun j => (f 17 h2).2.1 j)
theorem TK.F {S T : sS} {k i : Nat} {v : Int} (h : TK S T) (hn : 9 ≠ i) : TK S (uF T k i v) := h.of (uF_i hn) (fun _ => rfl)
theorem TK.low {S T u : sS} {s v : Int} (h : TK S T) (hs : 0 ≤ s ∧ s < S.1 11 9) (hn : fc S s 0 ≠ 6) (e : u = uA T 17 (s * 6 + 1) v) : TK S u := by
  have f0 : ∀ s', fc u s' 0 = fc T s' 0 := fun s' => by rw [e, fc_u (by omega) (by omega), if_neg (by omega)]
  refine ⟨?_, ?_, fun s' a0 a1 => (f0 s').trans (h.2.2 s' a0 a1)⟩
  · rw [e]; exact h.1.low (by rw [h.2.2 s hs.1 hs.2]; exact hn)
  · rw [e]; exact h.2.1
theorem TK.pop {S u1 u v : sS} {r : Int} (h : TK u1 u) (ln : LN S u1 r 2) (er : r = S.1 11 9) (k0 : 0 ≤ S.1 11 9) (e9 : u1.1 11 9 = S.1 11 9 + 1) (ev : v = uF u 11 9 (u.1 11 9 - 1)) : TK S v := by
  have e9' : u.1 11 9 = S.1 11 9 + 1 := h.2.1.trans e9
  have n6 : fc u (u.1 11 9 - 1) 0 ≠ 6 := by
    rw [h.2.2 _ (by omega) (by omega), ln _ 0 (by omega) (by omega), if_pos (by omega), if_pos rfl]; decide
  have ek : v.1 11 9 = S.1 11 9 := by rw [ev, uF_on]; omega
  refine ⟨by rw [ev]; exact h.1.pop n6, ek, fun s s0 s1 => ?_⟩
  have : fc v s 0 = fc u s 0 := by rw [ev]; rfl
  rw [this, h.2.2 s s0 (by omega), ln s 0 (by omega) (by omega), if_neg (by omega)]
theorem TS.fr {S u : sS} {P : pS} (h : TS S) (f : Fr S u P) (h1 : P 11 = false) (h2 : P 17 = false) : TS u := h.of ((f 11 h1).1 9) (fun j => (f 17 h2).2.1 j)
