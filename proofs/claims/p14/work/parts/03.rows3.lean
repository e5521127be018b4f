theorem sEnterF {l : Launch} {y : MethodName} {cc : ByteArray} {maxL : Nat} {ret : Option FieldType} {G : sG} {n : Nat} {S : sS} {av : List Value} {rm : Room} {Qc : Array Value → State → Outcome → State → Prop} {mc ms : Nat} (hy : plainFor y = true) (hlen : (lg_sl av).length ≤ maxL)
    (body : ∀ (p : Program) (e : Env) (s : State) (m : MethodId) (args : Array Value) (below : List Frame) (meth : Method) (c : Code), sC G p m c cc maxL s args y.cls → meth.sig.returnType = ret → meth.locks = false → meth.name = y.name → sW G n S s.heap → ∀ ls : Array Slot, lv_has ls maxL (lv_args 0 av) →
      W p l e rm s m args below meth c s.heap [] 0 0 (MQ below Qc args s mc ms (sF G)) (F0 m 0 ls [])) : Met l y (.code y cc maxL ret :: tb) rm (sPc G n S av) Qc mc ms (sF G) := by
  refine va_MetF (cc := cc) (maxL := maxL) (ret := ret) hy rfl ?_
  intro p e s m args below meth c s₁ B hml hv
  obtain ⟨rfl, hW, hK⟩ := hv
  have hts := atoms_spec (ws := Cond.code y cc maxL ret :: tb) B.pre
  have hl := lv_entry av hlen
  rw [lg_entry_eq]
  exact body p e s m _ below meth c ⟨⟨B.exec, B.bytes, hml, findClass_of_methodNamed B.named, fun w hw => hts w (List.mem_cons_of_mem _ hw)⟩, hK⟩ B.returns B.notSynchronized (name_of_methodNamed B.named B.method).1 hW _ hl
theorem rmk_ok {d d' L : Nat} (h : d + 1 ≤ d') (hL : L ≤ 45) : (rmk d 0 0).frames + 1 ≤ (rmk d' 0 0).frames ∧ 8 + (L + 11) + (rmk d 0 0).locals ≤ (rmk d' 0 0).locals := ⟨h, by show 8 + (L + 11) + 64 * d ≤ 64 * d'; omega⟩
theorem uF_uF {S : sS} {k i : Nat} {x y : Int} : uF (uF S k i x) k i y = uF S k i y := by
  have e : (fun a j => cond (Nat.beq a k && Nat.beq j i) y ((uF S k i x).1 a j)) = fun a j => cond (Nat.beq a k && Nat.beq j i) y (S.1 a j) := by
    funext a j
    cases h : (Nat.beq a k && Nat.beq j i)
    · show (cond (Nat.beq a k && Nat.beq j i) x (S.1 a j)) = S.1 a j
      rw [h]; rfl
    · rfl
  show ((fun a j => cond (Nat.beq a k && Nat.beq j i) y ((uF S k i x).1 a j)), _, _, _) = _
  rw [e]
  rfl
theorem lk_out : ∀ {ps : List (Int × Int)} {d r : Int}, (∀ q ∈ ps, q.1 ≠ r) → Op.lookupswitch.offset ps d r = d
  | [], _, _, _ => rfl
  | (k, o) :: t, d, r, h => by
    have h1 : k ≠ r := h (k, o) List.mem_cons_self
    have h2 := lk_out (ps := t) (d := d) (r := r) (fun q hq => h q (List.mem_cons_of_mem _ hq))
    simp [Op.lookupswitch.offset, h1, h2]
theorem uF_off {S : sS} {k i j : Nat} {x : Int} {ty : FieldType} (h : j ≠ i) : fv (uF S k i x) ty k j = fv S ty k j := by
  have e : (uF S k i x).1 k j = S.1 k j := uF_ne (fun q => h q.2)
  cases ty <;> first | exact congrArg (fun z => Value.int (iv z)) e | rfl
theorem uR_off {S : sS} {k i j : Nat} {x : Value} {ty : FieldType} (h : j ≠ i) : fv (uR S k i x) ty k j = fv S ty k j := by
  have e : (uR S k i x).2.2.2 k j = S.2.2.2 k j := uR_ne (fun q => h q.2)
  cases ty <;> first | exact e | rfl
theorem uF_get {S : sS} {k i a j : Nat} {x : Int} : (uF S k i x).1 a j = if a = k ∧ j = i then x else S.1 a j := by
  by_cases h : a = k ∧ j = i
  · obtain ⟨rfl, rfl⟩ := h
    rw [if_pos ⟨rfl, rfl⟩, uF_on]
  · rw [if_neg h, uF_ne h]
theorem uA_get {S : sS} {k a : Nat} {i j x : Int} : (uA S k i x).2.1 a j = if a = k ∧ j = i then x else S.2.1 a j := rfl
theorem uL_get {S : sS} {k a : Nat} {i j x : Int} : (uL S k i x).2.2.1 a j = if a = k ∧ j = i then x else S.2.2.1 a j := rfl
theorem uF_A {S : sS} {k i : Nat} {x : Int} : (uF S k i x).2 = S.2 := rfl
theorem uA_F {S : sS} {k : Nat} {i x : Int} : (uA S k i x).1 = S.1 := rfl
theorem uA_L {S : sS} {k : Nat} {i x : Int} : (uA S k i x).2.2 = S.2.2 := rfl
theorem nar_b {x : Int} (h1 : -128 ≤ x) (h2 : x ≤ 127) : narrow .byte (.int (iv x)) = .int (iv x) := by
  show Value.int ((iv x).toInt8.toInt32) = _
  rw [Int32.toInt8_ofInt, Int8.toInt32_ofInt h1 h2]
theorem nar_z {x : Int} (h : x = 0 ∨ x = 1) : narrow .boolean (.int (iv x)) = .int (iv x) := by rcases h with rfl | rfl <;> rfl
theorem and255 (x : Int32) : 0 ≤ (x &&& 255).toInt ∧ (x &&& 255).toInt ≤ 255 := by
  have h : (x &&& 255).toBitVec.toNat ≤ 255 := by
    rw [Int32.toBitVec_and, BitVec.toNat_and]
    exact Nat.and_le_right
  have e : (x &&& 255).toInt = ((x &&& 255).toBitVec.toNat : Int) := BitVec.toInt_eq_toNat_of_lt (by omega)
  omega
section R3
variable {p : Program} {l : Launch} {e : Env} {R : Room} {s : State} {m : MethodId} {args : Array Value} {below : List Frame} {meth : Method} {c : Code} {H : Heap} {locs : List Loc} {cells slots : Nat} {Q : State → Prop}
variable {cc : ByteArray} {pc nL : Nat} {ls : Array Slot} {rest : List Value}
theorem r_and255 (hx : p.tables.exec = Jvm.exec) (hb : c.code = cc) {a : Int} (hdg : decode cc pc = .ok (.iand, 1)) (kk : ∀ z : Int, 0 ≤ z → z ≤ 255 → W p l e R s m args below meth c H locs cells slots Q (F0 m (pc + 1) ls (.int (iv z) :: rest))) : W p l e R s m args below meth c H locs cells slots Q (F0 m pc ls (.int (iv 255) :: .int (iv a) :: rest)) := by
  refine lv_iand hx hb hdg ?_
  have h := and255 (iv a)
  have e1 : iv a &&& iv 255 = iv (iv a &&& 255).toInt := (Int32.ofInt_toInt _).symm
  rw [e1]
  exact kk _ h.1 h.2
theorem r_any_iushr (hx : p.tables.exec = Jvm.exec) (hb : c.code = cc) {a b : Int} (hdg : decode cc pc = .ok (.iushr, 1)) (kk : ∀ z : Int, -2147483648 ≤ z → z ≤ 2147483647 → W p l e R s m args below meth c H locs cells slots Q (F0 m (pc + 1) ls (.int (iv z) :: rest))) : W p l e R s m args below meth c H locs cells slots Q (F0 m pc ls (.int (iv b) :: .int (iv a) :: rest)) := by
  obtain ⟨z, e1, h1, h2⟩ := iv_of (((iv a).toUInt32 >>> ((iv b).toUInt32 &&& Int32.toUInt32 31)).toInt32)
  exact lv_iushr hx hb hdg e1 (kk z h1 h2)
theorem r_l2i_any (hx : p.tables.exec = Jvm.exec) (hb : c.code = cc) {x : Int64} (hdg : decode cc pc = .ok (.l2i, 1)) (kk : ∀ z : Int, -2147483648 ≤ z → z ≤ 2147483647 → W p l e R s m args below meth c H locs cells slots Q (F0 m (pc + 1) ls (.int (iv z) :: rest))) : W p l e R s m args below meth c H locs cells slots Q (F0 m pc ls (.long x :: rest)) := by
  obtain ⟨z, e1, h1, h2⟩ := iv_of x.toInt32
  exact lv_l2i hx hb hdg e1 (kk z h1 h2)
theorem r_max (hx : p.tables.exec = Jvm.exec) (hb : c.code = cc) (hml : c.maxLocals = ls.size) {own : String} {index : Nat} (hown : s.vm.findClass own = some m.cls) (hlink : (Cond.methodLink own index Lib.Math.max.name).before args s = true) (hstat : (Cond.static Lib.Math.max.name).before args s = true) (hini : (Cond.initialized "java/lang/Math").before args s = true) (hcode : (Cond.code Lib.Math.max.name Lib.Math.max.code 2 (some .int)).before args s = true)
    (hframes : 1 ≤ R.frames) (hlocals : (rest.map fun v => v.category).sum + 13 ≤ R.locals) (hc : cells ≤ R.cells) (hs : slots ≤ R.slots) {a b : Int} (ha : -2147483648 ≤ a ∧ a ≤ 2147483647) (hb0 : -2147483648 ≤ b ∧ b ≤ 2147483647) (hdg : decode cc pc = .ok (.invokestatic index, 3))
    (kk : ∀ z : Int, (a < b ∧ z = b) ∨ (b ≤ a ∧ z = a) → W p l e R s m args below meth c H locs cells slots Q (F0 m (pc + 3) ls (.int (iv z) :: rest))) : W p l e R s m args below meth c H locs cells slots Q (F0 m pc ls (.int (iv b) :: .int (iv a) :: rest)) := by
  refine va_mmax hx hb hml hown hlink hstat hini hcode hframes hlocals hc hs hdg ?_
  by_cases h : a < b
  · rw [if_pos ((iv_lt ha hb0).mpr h)]
    exact kk b (Or.inl ⟨h, rfl⟩)
  · rw [if_neg (fun q => h ((iv_lt ha hb0).mp q))]
    exact kk a (Or.inr ⟨by omega, rfl⟩)
theorem r_min (hx : p.tables.exec = Jvm.exec) (hb : c.code = cc) (hml : c.maxLocals = ls.size) {own : String} {index : Nat} (hown : s.vm.findClass own = some m.cls) (hlink : (Cond.methodLink own index Lib.Math.min.name).before args s = true) (hstat : (Cond.static Lib.Math.min.name).before args s = true) (hini : (Cond.initialized "java/lang/Math").before args s = true) (hcode : (Cond.code Lib.Math.min.name Lib.Math.min.code 2 (some .int)).before args s = true)
    (hframes : 1 ≤ R.frames) (hlocals : (rest.map fun v => v.category).sum + 13 ≤ R.locals) (hc : cells ≤ R.cells) (hs : slots ≤ R.slots) {a b : Int} (ha : -2147483648 ≤ a ∧ a ≤ 2147483647) (hb0 : -2147483648 ≤ b ∧ b ≤ 2147483647) (hdg : decode cc pc = .ok (.invokestatic index, 3))
    (kk : ∀ z : Int, (a < b ∧ z = a) ∨ (b ≤ a ∧ z = b) → W p l e R s m args below meth c H locs cells slots Q (F0 m (pc + 3) ls (.int (iv z) :: rest))) : W p l e R s m args below meth c H locs cells slots Q (F0 m pc ls (.int (iv b) :: .int (iv a) :: rest)) := by
  refine va_mmin hx hb hml hown hlink hstat hini hcode hframes hlocals hc hs hdg ?_
  by_cases h : b < a
  · rw [if_pos ((iv_lt hb0 ha).mpr h)]
    exact kk b (Or.inr ⟨by omega, rfl⟩)
  · rw [if_neg (fun q => h ((iv_lt hb0 ha).mp q))]
    by_cases h2 : a < b
    · exact kk a (Or.inl ⟨h2, rfl⟩)
    · have : a = b := by omega
      subst this
      exact kk a (Or.inr ⟨by omega, rfl⟩)
theorem sRret {G : sG} {n : Nat} {S : sS} {own : String} {rt : String} {Qc : Nat → sS → Prop} (Cx : sC G p m c cc nL s args own) (hr : meth.sig.returnType = some (.object rt)) (hlk : meth.locks = false) (hW : sW G n S H) (hL : sL G locs) {v : Nat} (hp : Qc v S) (hdg : decode cc pc = .ok (.areturn, 1)) : W p l e R s m args below meth c H locs cells slots (MQ below (sQr G n Qc) args s cells slots (sF G)) (F0 m pc ls [.ref (G.2.2.1 + v)]) :=
  W.aret Cx.1.1 Cx.1.2.1 hr (Or.inl ⟨_, rfl⟩) (Or.inr ⟨_, rfl⟩) (fun t ht _ => ⟨v, S, rfl, hp, by rw [ht]; exact hW⟩) hL hdg hlk
end R3
