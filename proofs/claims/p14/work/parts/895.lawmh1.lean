/-! The law's loop: what holds between the calls -/
def LWr (G : sG) (S : sS) : Prop := dX G S ∧ XI S ∧ RBn S ∧ dHA S ∧ dUP S
def LWi (G : sG) (S : sS) : Prop := cX G S 0 0 0 ∧ LWr G S ∧ S.1 1 1 = S.1 231 1 ∧ 0 ≤ S.1 231 1 ∧ S.1 231 1 ≤ 30000
theorem iv_inN {a : Int} {N : Nat} (h0 : 0 ≤ a) (h1 : a < N) (hN : N ≤ 2147483647) : vp_in (iv a) N := iv_in h0 h1 hN
theorem beginXI {S u : sS} {r : Int} (h : XI S) (x : (0 ≤ r ∧ r ≤ 1) ∧ Hd (r = 0 → u = S) ∧ Hd (r = 1 → GI u ∧ u.1 231 61 = 1 ∧ u.1 231 70 = 0)) : XI u := by
  rcases (by omega : r = 0 ∨ r = 1) with q | q
  · rw [x.2.1 q]; exact h
  · have y := x.2.2 q
    exact ⟨y.1.1.1.1, by omega, fun _ _ => y.1, fun _ z => absurd (y.2.2.symm.trans z) (by decide), fun z => absurd z (by omega)⟩

def LW8 (G : sG) (S : sS) : Prop := cX G S 0 0 0 ∧ LWr G S ∧ S.1 1 1 = S.1 231 1 ∧ 0 ≤ S.1 231 1 ∧ S.1 231 1 ≤ 30000 ∧ (∀ j, 0 ≤ j → j < S.1 231 1 → S.2.1 2 j = S.2.1 232 j) ∧ S.1 0 7 = S.1 231 45
/-! The model and its numbers in the two programs -/
def LMy (G : sG) (S : sS) (y z : Nat) (M : sM) (X : sX) : Prop := mdl y ∧ mdl z ∧ Hd (y ≠ z) ∧ (S.2.2.2 0 5 = .ref (G.2.2.1 + y) ∧ S.2.2.2 0 6 = .ref (G.2.2.1 + z)) ∧ Hd (S.1 0 7 ≠ 0 → MSc S y M ∧ XAc S y 1 X ∧ MDr S M.2.2.2.1 M.2.2.2.2.2.1 M.2.2.2.2.2.2.1 X.1 X.2 ∧ wct X.2 M.2.2.2.1.toNat ≤ M.2.2.2.1)
theorem MSc.fr {S u : sS} {y : Nat} {M : sM} (h : MSc S y M) (o : OTc S u y) : MSc u y M := by
  unfold MSc; rw [o.1, o.2.1, o.2.2.1, o.2.2.2.1]; exact h
theorem XAc.fr {S u : sS} {y : Nat} {g : Int} {X : sX} (h : XAc S y g X) (o : OTc S u y) : XAc u y g X := XAc.of h o.1 o.2.1 o.2.2.2.2 o.2.2.2.1
theorem LMy.st {G : sG} {S u : sS} {y z : Nat} {M : sM} {X : sX} (h : LMy G S y z M X) (k : OTc S u y ∧ u.2.2.2 0 5 = S.2.2.2 0 5 ∧ u.2.2.2 0 6 = S.2.2.2 0 6) (h7 : u.1 0 7 = S.1 0 7) (m6 : u.1 231 46 = S.1 231 46) (m7 : u.1 231 47 = S.1 231 47) (m8 : u.1 231 48 = S.1 231 48) (m9 : u.1 231 49 = S.1 231 49) (a9 : u.2.1 259 = S.2.1 259) (l0 : u.2.2.1 260 = S.2.2.1 260) (l9 : u.2.2.1 290 = S.2.2.1 290) : LMy G u y z M X := by
  obtain ⟨a, b, c, d, e⟩ := h
  refine ⟨a, b, c, ⟨k.2.1.trans d.1, k.2.2.trans d.2⟩, fun q => ?_⟩
  obtain ⟨e1, e2, e3, e4⟩ := e (by rw [← h7]; exact q)
  exact ⟨e1.fr k.1, e2.fr k.1, e3.sm m6 m7 m8 m9 a9 l0 l9, e4⟩
theorem LMy.mdv {G : sG} {S : sS} {y z : Nat} {M : sM} {X : sX} (h : LMy G S y z M X) (h7 : S.1 0 7 ≠ 0) : MDv S y M.2.2.2.1 M.2.2.2.2.2.1 M.2.2.2.2.2.2.1 X.1 X.2 := by
  obtain ⟨e1, e2, _, _⟩ := (show _ → _ from h.2.2.2.2) h7
  have e := XAc.md e2
  rw [e1.1, e1.2.1, e1.2.2.1] at e
  exact e
theorem LMy.mdr {G : sG} {S : sS} {y z : Nat} {M : sM} {X : sX} (h : LMy G S y z M X) (h7 : S.1 0 7 ≠ 0) : MDr S M.2.2.2.1 M.2.2.2.2.2.1 M.2.2.2.2.2.2.1 X.1 X.2 ∧ wct X.2 M.2.2.2.1.toNat ≤ M.2.2.2.1 := by
  obtain ⟨_, _, e3, e4⟩ := (show _ → _ from h.2.2.2.2) h7
  exact ⟨e3, e4⟩
theorem OTc.fr {S u : sS} {y : Nat} {P : Nat → Bool} (f : Fr S u P) (a : P y = false) (b : P (y + 2) = false) (c : P (y + 1) = false) : OTc S u y := ⟨(f y a).1 2, (f y a).1 3, (f y a).1 4, funext fun x => (f (y + 2) b).2.1 x, funext fun x => (f (y + 1) c).2.1 x⟩
theorem kpF {S u : sS} {y : Nat} {P : Nat → Bool} (f : Fr S u P) (ab : P y = false ∧ P (y + 2) = false ∧ P (y + 1) = false) (c : P 0 = false) : OTc S u y ∧ u.2.2.2 0 5 = S.2.2.2 0 5 ∧ u.2.2.2 0 6 = S.2.2.2 0 6 := ⟨OTc.fr f ab.1 ab.2.1 ab.2.2, (f 0 c).2.2.2 5, (f 0 c).2.2.2 6⟩
theorem pl_lo {L : List Nat} (h : L.all (fun k => Nat.ble 231 k) = true) {y : Nat} (hy : y < 231) : pl L y = false := by
  cases e : pl L y with
  | false => rfl
  | true =>
    have q := List.all_eq_true.mp h
    unfold pl at e
    obtain ⟨x, hx, e⟩ := List.any_eq_true.mp e
    have z := Nat.le_of_ble_eq_true (q x hx)
    rw [← Nat.eq_of_beq_eq_true e] at z
    exact absurd z (by omega)
theorem pl_m {L : List Nat} (h : L.all (fun k => Nat.ble 231 k) = true) {y : Nat} (m : mdl y) : pl L y = false ∧ pl L (y + 2) = false ∧ pl L (y + 1) = false := ⟨pl_lo h (mdl_k m), pl_lo h m.2.2.2.1, pl_lo h (by have := m.2.2.2.1; omega)⟩
theorem mdl_oN {o : Nat} (m : mdl o) : pN o = false ∧ pN (o + 2) = false ∧ pN (o + 1) = false := by
  have a : ∀ o, o < 231 → tau o = .inl 3 → pN o = false ∧ pN (o + 2) = false ∧ pN (o + 1) = false := by decide +kernel
  exact a o (mdl_k m) m.1
theorem mdl_oB {o : Nat} (m : mdl o) : pB 1 o = false ∧ pB 1 (o + 2) = false ∧ pB 1 (o + 1) = false := by
  have a : ∀ o, o < 231 → tau o = .inl 3 → pB 1 o = false ∧ pB 1 (o + 2) = false ∧ pB 1 (o + 1) = false := by decide +kernel
  exact a o (mdl_k m) m.1
theorem LMy.z {G : sG} {S : sS} (h : cX G S 0 0 0) (h7 : S.1 0 7 = 0) : ∃ y z M X, LMy G S y z M X := by
  rcases h.rm.1 with q | q
  · exact ⟨5, 8, M00, X00, mdl_of (by decide) rfl, mdl_of (by decide) rfl, (show (5 : Nat) ≠ 8 by decide), q, fun e => absurd h7 e⟩
  · exact ⟨8, 5, M00, X00, mdl_of (by decide) rfl, mdl_of (by decide) rfl, (show (8 : Nat) ≠ 5 by decide), q, fun e => absurd h7 e⟩
theorem LMy.zs {G : sG} {S : sS} (h : cX G S 0 0 0) (h7 : S.1 0 7 = 0) (h8 : S.1 0 8 = 0) (h61 : S.1 231 61 = 0) : ∃ y z M X, LMy G S y z M X ∧ SLV G S y ((0 : Nat) : Int) := by
  obtain ⟨y, z, M, X, q⟩ := LMy.z h h7
  exact ⟨y, z, M, X, q, SLV.no (by omega) h8 h61⟩
theorem LMy.mdc {G : sG} {S : sS} {y z : Nat} {M : sM} {X : sX} (h : LMy G S y z M X) (hX : XI S) (h7 : S.1 0 7 ≠ 0) : MDv S y M.2.2.2.1 M.2.2.2.2.2.1 M.2.2.2.2.2.2.1 (clA M.2.2.2.1 M.2.2.2.2.2.1 X.1) X.2 ∧ ∀ k j, -100000 ≤ clA M.2.2.2.1 M.2.2.2.2.2.1 X.1 k j ∧ clA M.2.2.2.1 M.2.2.2.2.2.1 X.1 k j ≤ 100000 := ⟨(h.mdv h7).cl, clA_b (h.mdr h7).1 hX.1.2.1⟩
theorem LMy.rg {G : sG} {S : sS} {y z : Nat} {M : sM} {X : sX} (h : LMy G S y z M X) (hX : XI S) (h7 : S.1 0 7 ≠ 0) : (0 ≤ M.2.2.2.1 ∧ M.2.2.2.1 ≤ 12) ∧ 0 ≤ M.2.2.2.2.2.1 := by
  have a := (h.mdr h7).1
  have b := hX.1.1
  unfold MD at b
  have e1 := a.1
  have e2 := a.2.1
  omega
theorem LMy.mdd {G : sG} {S : sS} {y z : Nat} {M : sM} {X : sX} (h : LMy G S y z M X) (hX : XI S) (h7 : S.1 0 7 ≠ 0) : MDr S M.2.2.2.1 M.2.2.2.2.2.1 M.2.2.2.2.2.2.1 (clA M.2.2.2.1 M.2.2.2.2.2.1 X.1) X.2 ∧ ∀ k j, -100000 ≤ clA M.2.2.2.1 M.2.2.2.2.2.1 X.1 k j ∧ clA M.2.2.2.1 M.2.2.2.2.2.1 X.1 k j ≤ 100000 := ⟨(h.mdr h7).1.cl (h.rg hX h7).2, clA_b (h.mdr h7).1 hX.1.2.1⟩
theorem OTc.tq {S u v : sS} {y : Nat} (a : OTc S u y) (b : OTc u v y) : OTc S v y := ⟨b.1.trans a.1, b.2.1.trans a.2.1, b.2.2.1.trans a.2.2.1, b.2.2.2.1.trans a.2.2.2.1, b.2.2.2.2.trans a.2.2.2.2⟩
theorem svE.pl {S u : sS} {L : List Nat} (f : Fr S u (pl L)) (h : L.all (fun k => Nat.ble 231 k) = true) : svE S u := svE.of f (fun k hk => pl_lo h (pSv_lt hk))
def LWg (G : sG) (S : sS) (i : Nat) : Prop := cX G S 0 0 0 ∧ LWr G S ∧ S.1 1 1 = S.1 231 1 ∧ 0 ≤ S.1 231 1 ∧ S.1 231 1 ≤ 30000 ∧ (∀ j, 0 ≤ j → j < S.1 231 1 → S.2.1 2 j = S.2.1 232 j) ∧ S.1 0 7 = S.1 231 45 ∧ ∃ y z M X, LMy G S y z M X ∧ SLV G S y (i : Int)
/-! THE CLAIM OUT OF ONE WALK OF THE LAW'S BODY. Your part is whole_start (and what it stands on); all else here is the same for every law, but numbers. -/
def R_law : String := "OptimumHouseLaw"
def lw_P (b : Addr) (xs : List Int32) (args : Array Value) (s : State) : Prop := args = #[.ref b] ∧ s.IntsAt b xs ∧ xs.length ≤ 3072 ∧ (Jvm.Cond.and given_1 narrow_1).before args s = true
def lw_Q (_ : Array Value) (s : State) (o : Outcome) (t : State) : Prop := o = .returned (some (.int 1)) ∧ Framed s o t [] 600000 7302250
def lw_Z (below : List Frame) (a : Array Value) (s : State) : State → Prop := fun t => ∃ o, t.status = .running ∧ Ended t below o ∧ lw_Q a s o t
/-- the law's own end, with 1 on the stack, nothing written that was there before, its room as the claim has it -/
theorem lw_ret {p : Program} {l : Launch} {e : Env} {s : State} {m : MethodId} {below : List Frame} {meth : Method} {c : Code} {b : Nat} (hx : p.tables.exec = Jvm.exec) (hb : c.code = code) (hr : meth.sig.returnType = ret) (hlocks : meth.locks = false) {pc : Nat} {H : Heap} {ls : Array Slot} (hdg : decode code pc = .ok (.ireturn, 1)) : W p l e room_1 s m #[Value.ref b] below meth c H [] 600000 7302250 (lw_Z below #[Value.ref b] s) (F0 m pc ls [.int 1]) := by
  intro T hT X
  obtain ⟨fs, hret, hrun, hended, hW, hframe⟩ := X.leave (v := some (.int 1)) (hlocks := hlocks) (fun h => by rw [hr] at h; cases h)
  have hmeth' : T.vm.method? m = some meth := X.method'
  refine ⟨T.setFrames fs, ?_, .returned (some (.int 1)), hrun, hended, rfl, ⟨_, rfl⟩, hW, hframe⟩
  jvm_step X.here [X.here.top, hx, hb, hdg, hmeth', hr, ret, narrow_b1]
  (try refine ⟨rfl, ?_⟩); (try refine ⟨rfl, ?_⟩)
  first | (intro acts; rw [hret _ acts rfl rfl rfl]) | rw [hret _ _ rfl rfl rfl]
  exact Steps.refl _
/-- what holds at the law's entry: the machine, the code, the tables' words (any of lw_tbl by 'hts w (by decide +kernel)'), the script of L ints xs at the cell b, what the Statement gives of the start (any of its parts by flat_of_before) -/
def lw_At (p : Program) (s : State) (m : MethodId) (meth : Method) (c : Code) (b L : Nat) (xs : Nat → Int32) : Prop :=
  p.tables.exec = Jvm.exec ∧ c.code = code ∧ meth.sig.returnType = ret ∧ c.maxLocals = 4 ∧ s.vm.findClass R_law = some m.cls ∧ (∀ w ∈ lw_tbl, w.before #[Value.ref b] s = true) ∧ va_X b L xs s s.heap ∧ b < s.heap.size ∧ meth.locks = false ∧ (Jvm.Cond.and given_1 narrow_1).before #[Value.ref b] s = true

theorem LWr.cls {G : sG} {S u : sS} (h : LWr G S) (f : Fr S u pA) : LWr G u := ⟨h.1.fr f (fun k hk => by have := rgB_t hk; omega), XI.sm h.2.1 ((f 231 rfl).1 46) ((f 231 rfl).1 47) ((f 231 rfl).1 48) ((f 231 rfl).1 58) ((f 231 rfl).1 59) ((f 231 rfl).1 60) ((f 231 rfl).1 61) ((f 231 rfl).1 62) ((f 231 rfl).1 63) ((f 231 rfl).1 65) ((f 231 rfl).1 68) ((f 231 rfl).1 69) ((f 231 rfl).1 70) ((f 231 rfl).1 71) ((f 231 rfl).1 72) ((f 231 rfl).1 78) ((f 231 rfl).1 79) ((f 231 rfl).1 84) ((f 231 rfl).1 86) (funext fun j => (f 261 rfl).2.1 j) (funext fun j => (f 262 rfl).2.1 j) (funext fun j => (f 264 rfl).2.1 j) (funext fun j => (f 265 rfl).2.1 j) (funext fun j => (f 266 rfl).2.1 j) (funext fun j => (f 267 rfl).2.1 j) (funext fun j => (f 268 rfl).2.1 j) (funext fun j => (f 269 rfl).2.1 j) (funext fun j => (f 270 rfl).2.1 j) (funext fun j => (f 271 rfl).2.1 j) (funext fun j => (f 272 rfl).2.1 j) (funext fun j => (f 273 rfl).2.1 j) (funext fun j => (f 274 rfl).2.1 j) (funext fun j => (f 260 rfl).2.2.1 j) (funext fun j => (f 290 rfl).2.2.1 j), (fun x => by rw [(f 255 rfl).2.2.1 x]; exact h.2.2.1 x), dHA.sm h.2.2.2.1 (funext fun j => (f 283 rfl).2.1 j), dUP.sm h.2.2.2.2 (funext fun j => (f 286 rfl).2.1 j) (funext fun j => (f 287 rfl).2.1 j)⟩

theorem pB1_A : ∀ k, pB 1 k = true → pA k = true := fun k h => by
  unfold pB at h; unfold pA
  rcases Bool.or_eq_true _ _ ▸ h with q | q
  · rw [Nat.eq_of_beq_eq_true q]; rfl
  · rw [Nat.eq_of_beq_eq_true q]; rfl
theorem pl_sub' {L : List Nat} (h : L.all (fun k => Nat.ble 231 k) = true) : ∀ k, pl L k = true → 231 ≤ k := fun k hk => by
  have q := List.all_eq_true.mp h
  unfold pl at hk
  obtain ⟨x, hx, e⟩ := List.any_eq_true.mp hk
  rw [Nat.eq_of_beq_eq_true e]; exact Nat.le_of_ble_eq_true (q x hx)

set_option maxHeartbeats 40000000 in
set_option maxRecDepth 100000 in
theorem law_loop {p : Program} {e : Env} {s : State} {m : MethodId} {below : List Frame} {meth : Method} {c : Code} (l : Launch) {b L : Nat} {xs : Nat → Int32} {G : sG} (hL6 : L ≤ 3072) (hr : meth.sig.returnType = ret) (hlocks : meth.locks = false) (Cx : sC G p m c cL_law 4 s #[Value.ref b] RL) (hX : va_X b L xs s G.2.2.2) (hbG : b < G.2.2.1) (hsz : s.heap.size ≤ G.2.2.1) : ∀ (fuel : Nat) (S : sS) (i : Nat) (H : Heap) (locs : List Loc) (ls : Array Slot), L - i < fuel → i ≤ L → LWg G S i → sW G 294 S H → sL G locs → lv_has ls 4 [(3, .int (iv (i : Int))), (2, .ref (G.2.2.1 + 231)), (1, .ref (G.2.2.1 + 0)), (0, .ref b)] → W p l e room_1 s m #[Value.ref b] below meth c H locs 294 735483 (lw_Z below #[Value.ref b] s) (F0 m 18 ls []) := by
  obtain ⟨hx, hb, hml, hown, hts⟩ := id Cx.1
  intro fuel
  induction fuel with
  | zero => intro S i H locs ls hf _; exact absurd hf (Nat.not_lt_zero _)
  | succ fuel ih =>
    intro S i H locs ls hf hiL hI hW hL hl
    have ht1 := hI.2.2.1; have ht2 := hI.2.2.2.1; have ht3 := hI.2.2.2.2.1; have hAL := hI.2.2.2.2.2.1; have hHM := hI.2.2.2.2.2.2.1
    obtain ⟨y, z, M, X, hLM, hSL⟩ := hI.2.2.2.2.2.2.2
    have hmy := hLM.1; have hmz := hLM.2.1; have hny := hLM.2.2.1; have h56 := hLM.2.2.2.1
    obtain ⟨nz, mz, xz, az, Az, wz, Wz, hCI, hXr, hp0, hp1, hJz, hn12z, hfz⟩ : ∃ n mm mx al A wh W, Hd (CIr G S y n mm mx al A wh W) ∧ Hd (XIr S n mm mx al A wh W) ∧ 0 ≤ W.2.1 4 ∧ W.2.1 4 ≤ 84 * (i : Int) ∧ Hd (S.1 0 8 ≠ 0 → JA (KKm n A wh al) W) ∧ n ≤ 12 ∧ Hd (S.1 0 8 = 0 ↔ S.1 231 61 = 0) := id hSL
    have h08 : 0 ≤ S.1 0 8 ∧ S.1 0 8 ≤ 1 := hI.1.fi 0 8 11 (by decide) rfl
    obtain ⟨a0, e0, l0, m0⟩ := iv_of (xs i)
    obtain ⟨a1, e1, l1, m1⟩ := iv_of (xs (i + 1))
    obtain ⟨a2, e2, l2, m2⟩ := iv_of (xs (i + 2))
    obtain ⟨a3, e3, l3, m3⟩ := iv_of (xs (i + 3))
    obtain ⟨a4, e4, l4, m4⟩ := iv_of (xs (i + 4))
    obtain ⟨a5, e5, l5, m5⟩ := iv_of (xs (i + 5))
    refine lv_iload_n hx hb dL_law_18 rfl (lv_at hl 0 rfl) ?_
    refine lv_aload_n hx hb dL_law_19 rfl (lv_at hl 3 rfl) ?_
    refine sSlen Cx hX hbG hW dL_law_20 ?_
    refine lv_bipush (v := iv 6) hx hb dL_law_21 (by decide) ?_
    refine r_isub hx hb dL_law_23 ?_
    refine r_icmp_gt (tgt := 492) hx hb ⟨(by omega), (by omega)⟩ ⟨(by omega), (by omega)⟩ dL_law_24 (by decide) (fun c1 => ?_) (fun c1 => ?_)
    · refine lv_iconst (v := 1) hx hb dL_law_492 (by decide) ?_
      refine va_forget (fun q hq => Nat.le_trans hsz (hL q hq)) ?_
      refine W.widen (k := 600000) (n := 7302250) (Nat.le_of_ble_eq_true rfl) (Nat.le_of_ble_eq_true rfl) ?_
      exact lw_ret hx hb hr hlocks dL_law_493
    · refine lv_aload_n hx hb dL_law_27 rfl (lv_at hl 3 rfl) ?_
      refine lv_iload_n hx hb dL_law_28 rfl (lv_at hl 0 rfl) ?_
      refine sSld Cx hX hbG hW (j := i) (by rw [iv_clamp (by omega) (by omega)]; omega) (iv_inN (by omega) (by omega) (by omega)) dL_law_29 ?_
      rw [e0]
      refine lv_bipush (v := iv 15) hx hb dL_law_30 (by decide) ?_
      refine lv_iand hx hb dL_law_32 ?_
      obtain ⟨tt, ett, ltt, htt⟩ := iv_of (iv a0 &&& iv 15)
      rw [ett]
      by_cases c2 : tt = 0
      · refine lv_tableIn (off := 71) (tgt := 104) hx hb dL_law_33 (by rw [c2]; decide) (by rw [c2]; decide) (by rw [c2]; decide) (by decide) ?_
        refine lv_aload_n hx hb dL_law_104 rfl (lv_at hl 2 rfl) ?_
        refine lv_aload_n hx hb dL_law_105 rfl (lv_at hl 3 rfl) ?_
        refine lv_iload_n hx hb dL_law_106 rfl (lv_at hl 0 rfl) ?_
        refine lv_iconst (v := iv 1) hx hb dL_law_107 (by decide) ?_
        refine r_iadd hx hb dL_law_108 ?_
        refine sSld Cx hX hbG hW (j := (i + 1)) (by rw [iv_clamp (by omega) (by omega)]; omega) (iv_inN (by omega) (by omega) (by omega)) dL_law_109 ?_
        rw [e1]
        refine lv_aload_n hx hb dL_law_110 rfl (lv_at hl 3 rfl) ?_
        refine lv_iload_n hx hb dL_law_111 rfl (lv_at hl 0 rfl) ?_
        refine lv_iconst (v := iv 2) hx hb dL_law_112 (by decide) ?_
        refine r_iadd hx hb dL_law_113 ?_
        refine sSld Cx hX hbG hW (j := (i + 2)) (by rw [iv_clamp (by omega) (by omega)]; omega) (iv_inN (by omega) (by omega) (by omega)) dL_law_114 ?_
        rw [e2]
        refine lv_aload_n hx hb dL_law_115 rfl (lv_at hl 3 rfl) ?_
        refine lv_iload_n hx hb dL_law_116 rfl (lv_at hl 0 rfl) ?_
        refine lv_iconst (v := iv 3) hx hb dL_law_117 (by decide) ?_
        refine r_iadd hx hb dL_law_118 ?_
        refine sSld Cx hX hbG hW (j := (i + 3)) (by rw [iv_clamp (by omega) (by omega)]; omega) (iv_inN (by omega) (by omega) (by omega)) dL_law_119 ?_
        rw [e3]
        refine lv_aload_n hx hb dL_law_120 rfl (lv_at hl 3 rfl) ?_
        refine lv_iload_n hx hb dL_law_121 rfl (lv_at hl 0 rfl) ?_
        refine lv_iconst (v := iv 4) hx hb dL_law_122 (by decide) ?_
        refine r_iadd hx hb dL_law_123 ?_
        refine sSld Cx hX hbG hW (j := (i + 4)) (by rw [iv_clamp (by omega) (by omega)]; omega) (iv_inN (by omega) (by omega) (by omega)) dL_law_124 ?_
        rw [e4]
        refine lv_aload_n hx hb dL_law_125 rfl (lv_at hl 3 rfl) ?_
        refine lv_iload_n hx hb dL_law_126 rfl (lv_at hl 0 rfl) ?_
        refine lv_iconst (v := iv 5) hx hb dL_law_127 (by decide) ?_
        refine r_iadd hx hb dL_law_128 ?_
        refine sSld Cx hX hbG hW (j := (i + 5)) (by rw [iv_clamp (by omega) (by omega)]; omega) (iv_inN (by omega) (by omega) (by omega)) dL_law_129 ?_
        rw [e5]
        refine sBi (sV (As := [.int (iv a1), .int (iv a2), .int (iv a3), .int (iv a4), .int (iv a5)]) (rest := []) (k := 0) Cx (e_X11_feed l G S (a := a1) (b := a2) (c1 := a3) (d1 := a4) (e1 := a5) hI.1 (by omega) (by omega) (by omega) (by omega) (by omega)) (c_L_13 Cx rfl rfl ⟨Nat.le_of_ble_eq_true rfl, Nat.le_of_ble_eq_true rfl⟩) hW (by decide) rfl rfl rfl hl.1 rfl (Nat.le_of_ble_eq_true rfl) dL_law_130 ⟨Nat.le_of_ble_eq_true rfl, Nat.le_of_ble_eq_true rfl⟩) hL (fun r5 u3 H locs q4 hW hL => ?_)
        obtain ⟨iu3, fu3, xu3⟩ := q4
        have wu3 : LWr G u3 := LWr.cls ⟨hI.2.1.1, hI.2.1.2.1, hI.2.1.2.2.1, hI.2.1.2.2.2.1, hI.2.1.2.2.2.2⟩ (fu3.to pB1_A)
        have zu3 : u3.1 231 1 = S.1 231 1 := ((fu3.to pB1_A) 231 rfl).1 1
        have pu3 : u3.1 231 45 = S.1 231 45 := ((fu3.to pB1_A) 231 rfl).1 45
        have ou3 : u3.1 0 7 = S.1 0 7 := (fu3 0 rfl).1 7
        have ocu3 := xu3.1
        refine lv_pop hx hb dL_law_133 rfl ?_
        refine lv_aload_n hx hb dL_law_134 rfl (lv_at hl 1 rfl) ?_
        refine lv_aload_n hx hb dL_law_135 rfl (lv_at hl 3 rfl) ?_
        refine lv_iload_n hx hb dL_law_136 rfl (lv_at hl 0 rfl) ?_
        refine lv_iconst (v := iv 1) hx hb dL_law_137 (by decide) ?_
        refine r_iadd hx hb dL_law_138 ?_
        refine sSld Cx hX hbG hW (j := (i + 1)) (by rw [iv_clamp (by omega) (by omega)]; omega) (iv_inN (by omega) (by omega) (by omega)) dL_law_139 ?_
        rw [e1]
        refine lv_aload_n hx hb dL_law_140 rfl (lv_at hl 3 rfl) ?_
        refine lv_iload_n hx hb dL_law_141 rfl (lv_at hl 0 rfl) ?_
        refine lv_iconst (v := iv 2) hx hb dL_law_142 (by decide) ?_
        refine r_iadd hx hb dL_law_143 ?_
        refine sSld Cx hX hbG hW (j := (i + 2)) (by rw [iv_clamp (by omega) (by omega)]; omega) (iv_inN (by omega) (by omega) (by omega)) dL_law_144 ?_
        rw [e2]
        refine lv_aload_n hx hb dL_law_145 rfl (lv_at hl 3 rfl) ?_
        refine lv_iload_n hx hb dL_law_146 rfl (lv_at hl 0 rfl) ?_
        refine lv_iconst (v := iv 3) hx hb dL_law_147 (by decide) ?_
        refine r_iadd hx hb dL_law_148 ?_
        refine sSld Cx hX hbG hW (j := (i + 3)) (by rw [iv_clamp (by omega) (by omega)]; omega) (iv_inN (by omega) (by omega) (by omega)) dL_law_149 ?_
        rw [e3]
        refine lv_aload_n hx hb dL_law_150 rfl (lv_at hl 3 rfl) ?_
        refine lv_iload_n hx hb dL_law_151 rfl (lv_at hl 0 rfl) ?_
        refine lv_iconst (v := iv 4) hx hb dL_law_152 (by decide) ?_
        refine r_iadd hx hb dL_law_153 ?_
        refine sSld Cx hX hbG hW (j := (i + 4)) (by rw [iv_clamp (by omega) (by omega)]; omega) (iv_inN (by omega) (by omega) (by omega)) dL_law_154 ?_
        rw [e4]
        refine lv_aload_n hx hb dL_law_155 rfl (lv_at hl 3 rfl) ?_
        refine lv_iload_n hx hb dL_law_156 rfl (lv_at hl 0 rfl) ?_
        refine lv_iconst (v := iv 5) hx hb dL_law_157 (by decide) ?_
        refine r_iadd hx hb dL_law_158 ?_
        refine sSld Cx hX hbG hW (j := (i + 5)) (by rw [iv_clamp (by omega) (by omega)]; omega) (iv_inN (by omega) (by omega) (by omega)) dL_law_159 ?_
        rw [e5]
        refine sBi (sV (As := [.int (iv a1), .int (iv a2), .int (iv a3), .int (iv a4), .int (iv a5)]) (rest := []) (k := 231) Cx (e_X12_feed l G u3 (a := a1) (b := a2) (c1 := a3) (d1 := a4) (e1 := a5) wu3.1 (by omega) (by omega) (by omega) (by omega) (by omega) (by omega)) (c_L_17 Cx rfl rfl ⟨Nat.le_of_ble_eq_true rfl, Nat.le_of_ble_eq_true rfl⟩) hW (by decide) rfl rfl rfl hl.1 rfl (Nat.le_of_ble_eq_true rfl) dL_law_160 ⟨Nat.le_of_ble_eq_true rfl, Nat.le_of_ble_eq_true rfl⟩) hL (fun r8 u6 H locs q7 hW hL => ?_)
        obtain ⟨iu6, fu6, gu6, xu6⟩ := q7
        have vu6 : cX G u6 0 0 0 := iu3.fr fu6 (pl_sub' (by decide))
        have yu6 : u6.1 1 1 = u3.1 1 1 := (fu6 1 rfl).1 1
        have ou6 : u6.1 0 7 = u3.1 0 7 := (fu6 0 rfl).1 7
        have pu6 : u6.1 231 45 = u3.1 231 45 := gu6 45 rfl
        have ocu6 := xu6.1
        have tu6 : XI u6 := (XI.sm wu3.2.1 (gu6 46 rfl) (gu6 47 rfl) (gu6 48 rfl) (gu6 58 rfl) (gu6 59 rfl) (gu6 60 rfl) (gu6 61 rfl) (gu6 62 rfl) (gu6 63 rfl) (gu6 65 rfl) (gu6 68 rfl) (gu6 69 rfl) (gu6 70 rfl) (gu6 71 rfl) (gu6 72 rfl) (gu6 78 rfl) (gu6 79 rfl) (gu6 84 rfl) (gu6 86 rfl) (funext fun j => (fu6 261 rfl).2.1 j) (funext fun j => (fu6 262 rfl).2.1 j) (funext fun j => (fu6 264 rfl).2.1 j) (funext fun j => (fu6 265 rfl).2.1 j) (funext fun j => (fu6 266 rfl).2.1 j) (funext fun j => (fu6 267 rfl).2.1 j) (funext fun j => (fu6 268 rfl).2.1 j) (funext fun j => (fu6 269 rfl).2.1 j) (funext fun j => (fu6 270 rfl).2.1 j) (funext fun j => (fu6 271 rfl).2.1 j) (funext fun j => (fu6 272 rfl).2.1 j) (funext fun j => (fu6 273 rfl).2.1 j) (funext fun j => (fu6 274 rfl).2.1 j) (funext fun j => (fu6 260 rfl).2.2.1 j) (funext fun j => (fu6 290 rfl).2.2.1 j))
        have bu6 : RBn u6 := (fun x => by rw [(fu6 255 rfl).2.2.1 x]; exact wu3.2.2.1 x)
        have hu6 : dHA u6 := (dHA.sm wu3.2.2.2.1 (funext fun j => (fu6 283 rfl).2.1 j))
        have ku6 : dUP u6 := (dUP.sm wu3.2.2.2.2 (funext fun j => (fu6 286 rfl).2.1 j) (funext fun j => (fu6 287 rfl).2.1 j))
        refine lv_pop hx hb dL_law_163 rfl ?_
        refine lv_goto (tgt := 486) hx hb dL_law_164 (by decide) ?_
        refine lv_iinc (v := iv ((i + 6 : Nat) : Int)) (lv' := [(3, .int (iv ((i + 6 : Nat) : Int))), (2, .ref (G.2.2.1 + 231)), (1, .ref (G.2.2.1 + 0)), (0, .ref b)]) hx hb dL_law_486 hl (k := 0) rfl (by rw [show ((i + 6 : Nat) : Int) = (i : Int) + 6 by omega]; exact (Int32.ofInt_add _ _).symm) (by decide) rfl (fun ls hl => ?_)
        refine lv_goto (tgt := 18) hx hb dL_law_489 (by decide) ?_
        exact ih u6 (i + 6) H locs ls (by omega) (by omega) ⟨vu6, ⟨iu6, tu6, bu6, hu6, ku6⟩, (by omega), (by omega), (by omega), (fun j a b => by by_cases z : S.1 1 1 + 20 ≤ 30000; (have q1 := xu3.2.2 z; have q2 := xu6.2.2 (by omega); rw [show u3.1 231 1 = S.1 1 1 by omega] at q2; have e := q1.al q2 (fun j a b => (hAL j a (by omega)).trans ((fu3 232 rfl).2.1 j).symm); rw [(fu6 2 rfl).2.1 j]; exact e j a (by omega)); (rw [(fu6 2 rfl).2.1 j, xu3.2.1 (by omega), xu6.2.1 (by omega), (fu3 232 rfl).2.1 j]; exact hAL j a (by omega))), (by omega), ⟨y, z, M, X, ((hLM.st (kpF fu3 (mdl_oB hmy) rfl) (by omega) (((fu3.to pB1_A) 231 rfl).1 46) (((fu3.to pB1_A) 231 rfl).1 47) (((fu3.to pB1_A) 231 rfl).1 48) (((fu3.to pB1_A) 231 rfl).1 49) (funext fun j => ((fu3.to pB1_A) 259 rfl).2.1 j) (funext fun j => ((fu3.to pB1_A) 260 rfl).2.2.1 j) (funext fun j => ((fu3.to pB1_A) 290 rfl).2.2.1 j)).st (kpF fu6 (pl_m (by decide) hmy) rfl) (by omega) (gu6 46 rfl) (gu6 47 rfl) (gu6 48 rfl) (gu6 49 rfl) (funext fun j => (fu6 259 rfl).2.1 j) (funext fun j => (fu6 260 rfl).2.2.1 j) (funext fun j => (fu6 290 rfl).2.2.1 j)), (SLV.fr hSL (by omega) ((svE.of fu3 pSv_B1).tr (svE.pl fu6 (by decide))) ((kpF fu3 (mdl_oB hmy) rfl).1.tq (kpF fu6 (pl_m (by decide) hmy) rfl).1) (((fu6 0 rfl).1 8).trans ((fu3 0 rfl).1 8)) ((gu6 61 rfl).trans (((fu3.to pB1_A) 231 rfl).1 61)) (fun _ _ _ _ _ _ _ h => (XIr.sm (XIr.cls h (fu3.to pB1_A)) (gu6 46 rfl) (gu6 47 rfl) (gu6 48 rfl) (gu6 49 rfl) (gu6 58 rfl) (gu6 59 rfl) (gu6 60 rfl) (gu6 61 rfl) (gu6 62 rfl) (gu6 65 rfl) (gu6 68 rfl) (gu6 69 rfl) (gu6 70 rfl) (gu6 71 rfl) (gu6 72 rfl) (gu6 78 rfl) (gu6 79 rfl) (gu6 84 rfl) (gu6 86 rfl) (funext fun j => (fu6 259 rfl).2.1 j) (funext fun j => (fu6 262 rfl).2.1 j) (funext fun j => (fu6 264 rfl).2.1 j) (funext fun j => (fu6 265 rfl).2.1 j) (funext fun j => (fu6 266 rfl).2.1 j) (funext fun j => (fu6 267 rfl).2.1 j) (funext fun j => (fu6 268 rfl).2.1 j) (funext fun j => (fu6 269 rfl).2.1 j) (funext fun j => (fu6 270 rfl).2.1 j) (funext fun j => (fu6 271 rfl).2.1 j) (funext fun j => (fu6 272 rfl).2.1 j) (funext fun j => (fu6 273 rfl).2.1 j) (funext fun j => (fu6 274 rfl).2.1 j) (funext fun j => (fu6 275 rfl).2.1 j) (funext fun j => (fu6 276 rfl).2.1 j) (funext fun j => (fu6 260 rfl).2.2.1 j) (funext fun j => (fu6 290 rfl).2.2.1 j))))⟩⟩ hW hL (lv_sub hl [0, 1, 2, 3] rfl)
      by_cases c9 : tt = 1
      · refine lv_tableIn (off := 134) (tgt := 167) hx hb dL_law_33 (by rw [c9]; decide) (by rw [c9]; decide) (by rw [c9]; decide) (by decide) ?_
        refine lv_aload_n hx hb dL_law_167 rfl (lv_at hl 2 rfl) ?_
        refine lv_aload_n hx hb dL_law_168 rfl (lv_at hl 3 rfl) ?_
        refine lv_iload_n hx hb dL_law_169 rfl (lv_at hl 0 rfl) ?_
        refine lv_iconst (v := iv 1) hx hb dL_law_170 (by decide) ?_
        refine r_iadd hx hb dL_law_171 ?_
        refine sSld Cx hX hbG hW (j := (i + 1)) (by rw [iv_clamp (by omega) (by omega)]; omega) (iv_inN (by omega) (by omega) (by omega)) dL_law_172 ?_
        rw [e1]
        refine sBi (sV (As := [.int (iv a1)]) (rest := []) (k := 0) Cx (e_X11_end l G S (n := a1) hI.1 (by omega)) (c_L_18 Cx rfl rfl ⟨Nat.le_of_ble_eq_true rfl, Nat.le_of_ble_eq_true rfl⟩) hW (by decide) rfl rfl rfl hl.1 rfl (Nat.le_of_ble_eq_true rfl) dL_law_173 ⟨Nat.le_of_ble_eq_true rfl, Nat.le_of_ble_eq_true rfl⟩) hL (fun r12 u10 H locs q11 hW hL => ?_)
        obtain ⟨iu10, fu10, xu10⟩ := q11
        have wu10 : LWr G u10 := LWr.cls ⟨hI.2.1.1, hI.2.1.2.1, hI.2.1.2.2.1, hI.2.1.2.2.2.1, hI.2.1.2.2.2.2⟩ (fu10.to pB1_A)
        have zu10 : u10.1 231 1 = S.1 231 1 := ((fu10.to pB1_A) 231 rfl).1 1
        have pu10 : u10.1 231 45 = S.1 231 45 := ((fu10.to pB1_A) 231 rfl).1 45
        have ou10 : u10.1 0 7 = S.1 0 7 := (fu10 0 rfl).1 7
        have ocu10 := xu10.1
        refine lv_pop hx hb dL_law_176 rfl ?_
        refine lv_aload_n hx hb dL_law_177 rfl (lv_at hl 1 rfl) ?_
        refine lv_aload_n hx hb dL_law_178 rfl (lv_at hl 3 rfl) ?_
        refine lv_iload_n hx hb dL_law_179 rfl (lv_at hl 0 rfl) ?_
        refine lv_iconst (v := iv 1) hx hb dL_law_180 (by decide) ?_
        refine r_iadd hx hb dL_law_181 ?_
        refine sSld Cx hX hbG hW (j := (i + 1)) (by rw [iv_clamp (by omega) (by omega)]; omega) (iv_inN (by omega) (by omega) (by omega)) dL_law_182 ?_
        rw [e1]
        refine sBi (sV (As := [.int (iv a1)]) (rest := []) (k := 231) Cx (e_X12_end l G u10 (k := a1) wu10.1 (by omega) (by omega)) (c_L_22 Cx rfl rfl ⟨Nat.le_of_ble_eq_true rfl, Nat.le_of_ble_eq_true rfl⟩) hW (by decide) rfl rfl rfl hl.1 rfl (Nat.le_of_ble_eq_true rfl) dL_law_183 ⟨Nat.le_of_ble_eq_true rfl, Nat.le_of_ble_eq_true rfl⟩) hL (fun r15 u13 H locs q14 hW hL => ?_)
        obtain ⟨iu13, fu13, gu13, xu13⟩ := q14
        have vu13 : cX G u13 0 0 0 := iu10.fr fu13 (pl_sub' (by decide))
        have yu13 : u13.1 1 1 = u10.1 1 1 := (fu13 1 rfl).1 1
        have ou13 : u13.1 0 7 = u10.1 0 7 := (fu13 0 rfl).1 7
        have pu13 : u13.1 231 45 = u10.1 231 45 := gu13 45 rfl
        have tu13 : XI u13 := (XI.sm wu10.2.1 (gu13 46 rfl) (gu13 47 rfl) (gu13 48 rfl) (gu13 58 rfl) (gu13 59 rfl) (gu13 60 rfl) (gu13 61 rfl) (gu13 62 rfl) (gu13 63 rfl) (gu13 65 rfl) (gu13 68 rfl) (gu13 69 rfl) (gu13 70 rfl) (gu13 71 rfl) (gu13 72 rfl) (gu13 78 rfl) (gu13 79 rfl) (gu13 84 rfl) (gu13 86 rfl) (funext fun j => (fu13 261 rfl).2.1 j) (funext fun j => (fu13 262 rfl).2.1 j) (funext fun j => (fu13 264 rfl).2.1 j) (funext fun j => (fu13 265 rfl).2.1 j) (funext fun j => (fu13 266 rfl).2.1 j) (funext fun j => (fu13 267 rfl).2.1 j) (funext fun j => (fu13 268 rfl).2.1 j) (funext fun j => (fu13 269 rfl).2.1 j) (funext fun j => (fu13 270 rfl).2.1 j) (funext fun j => (fu13 271 rfl).2.1 j) (funext fun j => (fu13 272 rfl).2.1 j) (funext fun j => (fu13 273 rfl).2.1 j) (funext fun j => (fu13 274 rfl).2.1 j) (funext fun j => (fu13 260 rfl).2.2.1 j) (funext fun j => (fu13 290 rfl).2.2.1 j))
        have bu13 : RBn u13 := (fun x => by rw [(fu13 255 rfl).2.2.1 x]; exact wu10.2.2.1 x)
        have hu13 : dHA u13 := (dHA.sm wu10.2.2.2.1 (funext fun j => (fu13 283 rfl).2.1 j))
        have ku13 : dUP u13 := (dUP.sm wu10.2.2.2.2 (funext fun j => (fu13 286 rfl).2.1 j) (funext fun j => (fu13 287 rfl).2.1 j))
        refine lv_pop hx hb dL_law_186 rfl ?_
        refine lv_goto (tgt := 486) hx hb dL_law_187 (by decide) ?_
        refine lv_iinc (v := iv ((i + 6 : Nat) : Int)) (lv' := [(3, .int (iv ((i + 6 : Nat) : Int))), (2, .ref (G.2.2.1 + 231)), (1, .ref (G.2.2.1 + 0)), (0, .ref b)]) hx hb dL_law_486 hl (k := 0) rfl (by rw [show ((i + 6 : Nat) : Int) = (i : Int) + 6 by omega]; exact (Int32.ofInt_add _ _).symm) (by decide) rfl (fun ls hl => ?_)
        refine lv_goto (tgt := 18) hx hb dL_law_489 (by decide) ?_
        exact ih u13 (i + 6) H locs ls (by omega) (by omega) ⟨vu13, ⟨iu13, tu13, bu13, hu13, ku13⟩, (by omega), (by omega), (by omega), (fun j a b => by rw [(fu13 2 rfl).2.1 j, xu10.2, (fu13 232 rfl).2.1 j, (fu10 232 rfl).2.1 j]; exact hAL j a (by omega)), (by omega), ⟨y, z, M, X, ((hLM.st (kpF fu10 (mdl_oB hmy) rfl) (by omega) (((fu10.to pB1_A) 231 rfl).1 46) (((fu10.to pB1_A) 231 rfl).1 47) (((fu10.to pB1_A) 231 rfl).1 48) (((fu10.to pB1_A) 231 rfl).1 49) (funext fun j => ((fu10.to pB1_A) 259 rfl).2.1 j) (funext fun j => ((fu10.to pB1_A) 260 rfl).2.2.1 j) (funext fun j => ((fu10.to pB1_A) 290 rfl).2.2.1 j)).st (kpF fu13 (pl_m (by decide) hmy) rfl) (by omega) (gu13 46 rfl) (gu13 47 rfl) (gu13 48 rfl) (gu13 49 rfl) (funext fun j => (fu13 259 rfl).2.1 j) (funext fun j => (fu13 260 rfl).2.2.1 j) (funext fun j => (fu13 290 rfl).2.2.1 j)), (SLV.fr hSL (by omega) ((svE.of fu10 pSv_B1).tr (svE.pl fu13 (by decide))) ((kpF fu10 (mdl_oB hmy) rfl).1.tq (kpF fu13 (pl_m (by decide) hmy) rfl).1) (((fu13 0 rfl).1 8).trans ((fu10 0 rfl).1 8)) ((gu13 61 rfl).trans (((fu10.to pB1_A) 231 rfl).1 61)) (fun _ _ _ _ _ _ _ h => (XIr.sm (XIr.cls h (fu10.to pB1_A)) (gu13 46 rfl) (gu13 47 rfl) (gu13 48 rfl) (gu13 49 rfl) (gu13 58 rfl) (gu13 59 rfl) (gu13 60 rfl) (gu13 61 rfl) (gu13 62 rfl) (gu13 65 rfl) (gu13 68 rfl) (gu13 69 rfl) (gu13 70 rfl) (gu13 71 rfl) (gu13 72 rfl) (gu13 78 rfl) (gu13 79 rfl) (gu13 84 rfl) (gu13 86 rfl) (funext fun j => (fu13 259 rfl).2.1 j) (funext fun j => (fu13 262 rfl).2.1 j) (funext fun j => (fu13 264 rfl).2.1 j) (funext fun j => (fu13 265 rfl).2.1 j) (funext fun j => (fu13 266 rfl).2.1 j) (funext fun j => (fu13 267 rfl).2.1 j) (funext fun j => (fu13 268 rfl).2.1 j) (funext fun j => (fu13 269 rfl).2.1 j) (funext fun j => (fu13 270 rfl).2.1 j) (funext fun j => (fu13 271 rfl).2.1 j) (funext fun j => (fu13 272 rfl).2.1 j) (funext fun j => (fu13 273 rfl).2.1 j) (funext fun j => (fu13 274 rfl).2.1 j) (funext fun j => (fu13 275 rfl).2.1 j) (funext fun j => (fu13 276 rfl).2.1 j) (funext fun j => (fu13 260 rfl).2.2.1 j) (funext fun j => (fu13 290 rfl).2.2.1 j))))⟩⟩ hW hL (lv_sub hl [0, 1, 2, 3] rfl)
      by_cases c16 : tt = 2
      · refine lv_tableIn (off := 157) (tgt := 190) hx hb dL_law_33 (by rw [c16]; decide) (by rw [c16]; decide) (by rw [c16]; decide) (by decide) ?_
        refine lv_aload_n hx hb dL_law_190 rfl (lv_at hl 2 rfl) ?_
        refine sBi (sV (As := []) (rest := []) (k := 0) Cx (f_X11_tell l G S  (b := S.2.1 2) (y := y) (z := z) hI.1 hmz hmy hny h56 (fun j _ _ => rfl)) (c_L_23 Cx rfl rfl ⟨Nat.le_of_ble_eq_true rfl, Nat.le_of_ble_eq_true rfl⟩) hW (by decide) rfl rfl rfl hl.1 rfl (Nat.le_of_ble_eq_true rfl) dL_law_191 ⟨Nat.le_of_ble_eq_true rfl, Nat.le_of_ble_eq_true rfl⟩) hL (fun r19 u17 H locs q18 hW hL => ?_)
        obtain ⟨iu17, fu17, xu17⟩ := q18
        have wu17 : LWr G u17 := LWr.cls ⟨hI.2.1.1, hI.2.1.2.1, hI.2.1.2.2.1, hI.2.1.2.2.2.1, hI.2.1.2.2.2.2⟩ (fu17.to pZz_A)
        have zu17 : u17.1 231 1 = S.1 231 1 := ((fu17.to pZz_A) 231 rfl).1 1
        have pu17 : u17.1 231 45 = S.1 231 45 := ((fu17.to pZz_A) 231 rfl).1 45
        have ocu17 := xu17.1
        refine lv_pop hx hb dL_law_194 rfl ?_
        refine lv_aload_n hx hb dL_law_195 rfl (lv_at hl 1 rfl) ?_
        refine sBi (sV (As := []) (rest := []) (k := 231) Cx (f_X12_tell l G u17  (b := S.2.1 2) wu17.1 wu17.2.1 (by omega) wu17.2.2.1 (fun j a c => ((fu17 232 rfl).2.1 j).trans (hAL j a (by omega)).symm)) (c_L_27 Cx rfl rfl ⟨Nat.le_of_ble_eq_true rfl, Nat.le_of_ble_eq_true rfl⟩) hW (by decide) rfl rfl rfl hl.1 rfl (Nat.le_of_ble_eq_true rfl) dL_law_196 ⟨Nat.le_of_ble_eq_true rfl, Nat.le_of_ble_eq_true rfl⟩) hL (fun r22 u20 H locs q21 hW hL => ?_)
        obtain ⟨iu20, fu20, gu20, xu20⟩ := q21
        have vu20 : cX G u20 0 0 0 := iu17.fr fu20 (pl_sub' (by decide))
        have yu20 : u20.1 1 1 = u17.1 1 1 := (fu20 1 rfl).1 1
        have ou20 : u20.1 0 7 = u17.1 0 7 := (fu20 0 rfl).1 7
        have ocu20 := xu20.2.2.1
        have mu20 : u20.1 0 7 = u20.1 231 45 := (by have n1 : u17.1 231 1 = S.1 1 1 := (by omega); have p1 := xu17.2.2; have p2 := xu20.2.2.2; rw [n1] at p2; by_cases zz : tOK (S.2.1 2) (S.1 1 1); (have a1 : r19 = 0 := (by by_cases y : r19 = 0; (exact y); (exact absurd zz (p1.2 y).1)); have a2 : r22 = 0 := (by by_cases y : r22 = 0; (exact y); (exact absurd zz (p2.2 y).1)); have c1 := (p1.1 a1).2.1; have c2 := (p2.1 a2).2.1; omega); (have a1 : r19 ≠ 0 := (fun y => zz ((p1.1 y).1.elim fun _ h => h.elim fun _ h => h.1.om.ok)); have a2 : r22 ≠ 0 := (fun y => zz ((p2.1 y).1.elim fun _ h => h.elim fun _ h => h.1.om.ok)); have c1 := (p1.2 a1).2.1; have c2 := (p2.2 a2).2.1; omega))
        have tu20 : XI u20 := xu20.1
        have bu20 : RBn u20 := xu20.2.1
        have hu20 : dHA u20 := (dHA.sm wu17.2.2.2.1 (funext fun j => (fu20 283 rfl).2.1 j))
        have ku20 : dUP u20 := (dUP.sm wu17.2.2.2.2 (funext fun j => (fu20 286 rfl).2.1 j) (funext fun j => (fu20 287 rfl).2.1 j))
        refine lv_pop hx hb dL_law_199 rfl ?_
        refine lv_goto (tgt := 486) hx hb dL_law_200 (by decide) ?_
        refine lv_iinc (v := iv ((i + 6 : Nat) : Int)) (lv' := [(3, .int (iv ((i + 6 : Nat) : Int))), (2, .ref (G.2.2.1 + 231)), (1, .ref (G.2.2.1 + 0)), (0, .ref b)]) hx hb dL_law_486 hl (k := 0) rfl (by rw [show ((i + 6 : Nat) : Int) = (i : Int) + 6 by omega]; exact (Int32.ofInt_add _ _).symm) (by decide) rfl (fun ls hl => ?_)
        refine lv_goto (tgt := 18) hx hb dL_law_489 (by decide) ?_
        exact ih u20 (i + 6) H locs ls (by omega) (by omega) ⟨vu20, ⟨iu20, tu20, bu20, hu20, ku20⟩, (by omega), (by omega), (by omega), (fun j a b => absurd b (by omega)), (by omega), (by have n1 : u17.1 231 1 = S.1 1 1 := (by omega); have p1 := xu17.2.2; have p2 := xu20.2.2.2; rw [n1] at p2; by_cases zz : tOK (S.2.1 2) (S.1 1 1); (have a1 : r19 = 0 := (by by_cases y : r19 = 0; (exact y); (exact absurd zz (p1.2 y).1)); have a2 : r22 = 0 := (by by_cases y : r22 = 0; (exact y); (exact absurd zz (p2.2 y).1)); obtain ⟨⟨M1, X1, t1, s1, w1⟩, h7, hb0, q5, q6⟩ := p1.1 a1; obtain ⟨⟨M2, X2, t2, _, d2, w2⟩, h45, h610⟩ := p2.1 a2; obtain ⟨eM, eX⟩ := t1.one t2; subst eM; subst eX; exact ⟨z, y, M1, X1, ⟨hmz, hmy, (fun e => hny e.symm), ⟨(kpF fu20 (pl_m (by decide) hmz) rfl).2.1.trans q5, (kpF fu20 (pl_m (by decide) hmz) rfl).2.2.trans q6⟩, (fun _ => ⟨s1.fr (kpF fu20 (pl_m (by decide) hmz) rfl).1, w1.fr (kpF fu20 (pl_m (by decide) hmz) rfl).1, d2, w2⟩)⟩, SLV.no (by omega) (((fu20 0 rfl).1 8).trans hb0) h610⟩); (have a1 : r19 ≠ 0 := (fun y => zz ((p1.1 y).1.elim fun _ h => h.elim fun _ h => h.1.om.ok)); have a2 : r22 ≠ 0 := (fun y => zz ((p2.1 y).1.elim fun _ h => h.elim fun _ h => h.1.om.ok)); have c1 := p1.2 a1; have c2 := p2.2 a2; exact ⟨y, z, M, X, (hLM.st ⟨c1.2.2.2.1, c1.2.2.2.2⟩ c1.2.1 (((fu17.to pZz_A) 231 rfl).1 46) (((fu17.to pZz_A) 231 rfl).1 47) (((fu17.to pZz_A) 231 rfl).1 48) (((fu17.to pZz_A) 231 rfl).1 49) (funext fun j => ((fu17.to pZz_A) 259 rfl).2.1 j) (funext fun j => ((fu17.to pZz_A) 260 rfl).2.2.1 j) (funext fun j => ((fu17.to pZz_A) 290 rfl).2.2.1 j)).st (kpF fu20 (pl_m (by decide) hmy) rfl) (by omega) c2.2.2.1 c2.2.2.2.1 c2.2.2.2.2.1 c2.2.2.2.2.2.1 c2.2.2.2.2.2.2.2.2.1 c2.2.2.2.2.2.2.2.2.2.1 c2.2.2.2.2.2.2.2.2.2.2, (SLV.fr hSL (by omega) ((svE.of fu17 pSv_Zz).tr (svE.pl fu20 (by decide))) (c1.2.2.2.1.tq (kpF fu20 (pl_m (by decide) hmy) rfl).1) (((fu20 0 rfl).1 8).trans c1.2.2.1) (c2.2.2.2.2.2.2.2.1.trans (((fu17.to pZz_A) 231 rfl).1 61)) (fun _ _ _ _ _ _ _ h => (XIr.sm (XIr.cls h (fu17.to pZz_A)) c2.2.2.1 c2.2.2.2.1 c2.2.2.2.2.1 c2.2.2.2.2.2.1 c2.2.2.2.2.2.2.1 (gu20 59 rfl) (gu20 60 rfl) c2.2.2.2.2.2.2.2.1 (gu20 62 rfl) (gu20 65 rfl) (gu20 68 rfl) (gu20 69 rfl) (gu20 70 rfl) (gu20 71 rfl) (gu20 72 rfl) (gu20 78 rfl) (gu20 79 rfl) (gu20 84 rfl) (gu20 86 rfl) c2.2.2.2.2.2.2.2.2.1 (funext fun j => (fu20 262 rfl).2.1 j) (funext fun j => (fu20 264 rfl).2.1 j) (funext fun j => (fu20 265 rfl).2.1 j) (funext fun j => (fu20 266 rfl).2.1 j) (funext fun j => (fu20 267 rfl).2.1 j) (funext fun j => (fu20 268 rfl).2.1 j) (funext fun j => (fu20 269 rfl).2.1 j) (funext fun j => (fu20 270 rfl).2.1 j) (funext fun j => (fu20 271 rfl).2.1 j) (funext fun j => (fu20 272 rfl).2.1 j) (funext fun j => (fu20 273 rfl).2.1 j) (funext fun j => (fu20 274 rfl).2.1 j) (funext fun j => (fu20 275 rfl).2.1 j) (funext fun j => (fu20 276 rfl).2.1 j) c2.2.2.2.2.2.2.2.2.2.1 c2.2.2.2.2.2.2.2.2.2.2)))⟩))⟩ hW hL (lv_sub hl [0, 1, 2, 3] rfl)
      by_cases c23 : tt = 3
      · refine lv_tableIn (off := 170) (tgt := 203) hx hb dL_law_33 (by rw [c23]; decide) (by rw [c23]; decide) (by rw [c23]; decide) (by decide) ?_
        refine lv_aload_n hx hb dL_law_203 rfl (lv_at hl 2 rfl) ?_
        refine lv_aload_n hx hb dL_law_204 rfl (lv_at hl 3 rfl) ?_
        refine lv_iload_n hx hb dL_law_205 rfl (lv_at hl 0 rfl) ?_
        refine lv_iconst (v := iv 1) hx hb dL_law_206 (by decide) ?_
        refine r_iadd hx hb dL_law_207 ?_
        refine sSld Cx hX hbG hW (j := (i + 1)) (by rw [iv_clamp (by omega) (by omega)]; omega) (iv_inN (by omega) (by omega) (by omega)) dL_law_208 ?_
        rw [e1]
        refine sBi (sV (As := [.int (iv a1)]) (rest := []) (k := 0) Cx (s_X11_fault l G S (k := a1) hI.1 (by omega)) (c_L_28 Cx rfl rfl ⟨Nat.le_of_ble_eq_true rfl, Nat.le_of_ble_eq_true rfl⟩) hW (by decide) rfl rfl rfl hl.1 rfl (Nat.le_of_ble_eq_true rfl) dL_law_209 ⟨Nat.le_of_ble_eq_true rfl, Nat.le_of_ble_eq_true rfl⟩) hL (fun r26 u24 H locs q25 hW hL => ?_)
        obtain ⟨eu24, xu24⟩ := q25
        rw [eu24] at hW
        refine lv_pop hx hb dL_law_212 rfl ?_
        refine lv_aload_n hx hb dL_law_213 rfl (lv_at hl 1 rfl) ?_
        refine lv_aload_n hx hb dL_law_214 rfl (lv_at hl 3 rfl) ?_
        refine lv_iload_n hx hb dL_law_215 rfl (lv_at hl 0 rfl) ?_
        refine lv_iconst (v := iv 1) hx hb dL_law_216 (by decide) ?_
        refine r_iadd hx hb dL_law_217 ?_
        refine sSld Cx hX hbG hW (j := (i + 1)) (by rw [iv_clamp (by omega) (by omega)]; omega) (iv_inN (by omega) (by omega) (by omega)) dL_law_218 ?_
        rw [e1]
        refine sBi (sV (As := [.int (iv a1)]) (rest := []) (k := 231) Cx (s_X12_fault l G S (a := a1) hI.2.1.1 (by omega)) (c_L_32 Cx rfl rfl ⟨Nat.le_of_ble_eq_true rfl, Nat.le_of_ble_eq_true rfl⟩) hW (by decide) rfl rfl rfl hl.1 rfl (Nat.le_of_ble_eq_true rfl) dL_law_219 ⟨Nat.le_of_ble_eq_true rfl, Nat.le_of_ble_eq_true rfl⟩) hL (fun r29 u27 H locs q28 hW hL => ?_)
        have eu27 := q28
        rw [eu27] at hW
        refine lv_pop hx hb dL_law_222 rfl ?_
        refine lv_goto (tgt := 486) hx hb dL_law_223 (by decide) ?_
        refine lv_iinc (v := iv ((i + 6 : Nat) : Int)) (lv' := [(3, .int (iv ((i + 6 : Nat) : Int))), (2, .ref (G.2.2.1 + 231)), (1, .ref (G.2.2.1 + 0)), (0, .ref b)]) hx hb dL_law_486 hl (k := 0) rfl (by rw [show ((i + 6 : Nat) : Int) = (i : Int) + 6 by omega]; exact (Int32.ofInt_add _ _).symm) (by decide) rfl (fun ls hl => ?_)
        refine lv_goto (tgt := 18) hx hb dL_law_489 (by decide) ?_
        exact ih S (i + 6) H locs ls (by omega) (by omega) ⟨hI.1, ⟨hI.2.1.1, hI.2.1.2.1, hI.2.1.2.2.1, hI.2.1.2.2.2.1, hI.2.1.2.2.2.2⟩, (by omega), (by omega), (by omega), hAL, (by omega), ⟨y, z, M, X, hLM, (SLV.up hSL (by omega))⟩⟩ hW hL (lv_sub hl [0, 1, 2, 3] rfl)
      by_cases c30 : tt = 4
      · refine lv_tableIn (off := 193) (tgt := 226) hx hb dL_law_33 (by rw [c30]; decide) (by rw [c30]; decide) (by rw [c30]; decide) (by decide) ?_
        refine lv_aload_n hx hb dL_law_226 rfl (lv_at hl 2 rfl) ?_
        refine lv_aload_n hx hb dL_law_227 rfl (lv_at hl 3 rfl) ?_
        refine lv_iload_n hx hb dL_law_228 rfl (lv_at hl 0 rfl) ?_
        refine lv_iconst (v := iv 1) hx hb dL_law_229 (by decide) ?_
        refine r_iadd hx hb dL_law_230 ?_
        refine sSld Cx hX hbG hW (j := (i + 1)) (by rw [iv_clamp (by omega) (by omega)]; omega) (iv_inN (by omega) (by omega) (by omega)) dL_law_231 ?_
        rw [e1]
        refine sBi (sV (As := [.int (iv a1)]) (rest := []) (k := 0) Cx (f_X11_size l G S (k := a1) (y := y) hI.1 (by omega) hmy h56.1) (c_L_33 Cx rfl rfl ⟨Nat.le_of_ble_eq_true rfl, Nat.le_of_ble_eq_true rfl⟩) hW (by decide) rfl rfl rfl hl.1 rfl (Nat.le_of_ble_eq_true rfl) dL_law_232 ⟨Nat.le_of_ble_eq_true rfl, Nat.le_of_ble_eq_true rfl⟩) hL (fun r33 u31 H locs q32 hW hL => ?_)
        obtain ⟨eu31, xu31⟩ := q32
        rw [eu31] at hW
        refine lv_pop hx hb dL_law_235 rfl ?_
        refine lv_aload_n hx hb dL_law_236 rfl (lv_at hl 1 rfl) ?_
        refine lv_aload_n hx hb dL_law_237 rfl (lv_at hl 3 rfl) ?_
        refine lv_iload_n hx hb dL_law_238 rfl (lv_at hl 0 rfl) ?_
        refine lv_iconst (v := iv 1) hx hb dL_law_239 (by decide) ?_
        refine r_iadd hx hb dL_law_240 ?_
        refine sSld Cx hX hbG hW (j := (i + 1)) (by rw [iv_clamp (by omega) (by omega)]; omega) (iv_inN (by omega) (by omega) (by omega)) dL_law_241 ?_
        rw [e1]
        refine sBi (sV (As := [.int (iv a1)]) (rest := []) (k := 231) Cx (f_X12_size l G S (a := a1) hI.2.1.1 (by omega)) (c_L_36 Cx rfl rfl ⟨Nat.le_of_ble_eq_true rfl, Nat.le_of_ble_eq_true rfl⟩) hW (by decide) rfl rfl rfl hl.1 rfl (Nat.le_of_ble_eq_true rfl) dL_law_242 ⟨Nat.le_of_ble_eq_true rfl, Nat.le_of_ble_eq_true rfl⟩) hL (fun r36 u34 H locs q35 hW hL => ?_)
        obtain ⟨eu34, xu34⟩ := q35
        rw [eu34] at hW
        refine lv_pop hx hb dL_law_245 rfl ?_
        refine lv_goto (tgt := 486) hx hb dL_law_246 (by decide) ?_
        refine lv_iinc (v := iv ((i + 6 : Nat) : Int)) (lv' := [(3, .int (iv ((i + 6 : Nat) : Int))), (2, .ref (G.2.2.1 + 231)), (1, .ref (G.2.2.1 + 0)), (0, .ref b)]) hx hb dL_law_486 hl (k := 0) rfl (by rw [show ((i + 6 : Nat) : Int) = (i : Int) + 6 by omega]; exact (Int32.ofInt_add _ _).symm) (by decide) rfl (fun ls hl => ?_)
        refine lv_goto (tgt := 18) hx hb dL_law_489 (by decide) ?_
        exact ih S (i + 6) H locs ls (by omega) (by omega) ⟨hI.1, ⟨hI.2.1.1, hI.2.1.2.1, hI.2.1.2.2.1, hI.2.1.2.2.2.1, hI.2.1.2.2.2.2⟩, (by omega), (by omega), (by omega), hAL, (by omega), ⟨y, z, M, X, hLM, (SLV.up hSL (by omega))⟩⟩ hW hL (lv_sub hl [0, 1, 2, 3] rfl)
      by_cases c37 : tt = 5
      · refine lv_tableIn (off := 216) (tgt := 249) hx hb dL_law_33 (by rw [c37]; decide) (by rw [c37]; decide) (by rw [c37]; decide) (by decide) ?_
        refine lv_aload_n hx hb dL_law_249 rfl (lv_at hl 2 rfl) ?_
        refine lv_aload_n hx hb dL_law_250 rfl (lv_at hl 3 rfl) ?_
        refine lv_iload_n hx hb dL_law_251 rfl (lv_at hl 0 rfl) ?_
        refine lv_iconst (v := iv 1) hx hb dL_law_252 (by decide) ?_
        refine r_iadd hx hb dL_law_253 ?_
        refine sSld Cx hX hbG hW (j := (i + 1)) (by rw [iv_clamp (by omega) (by omega)]; omega) (iv_inN (by omega) (by omega) (by omega)) dL_law_254 ?_
        rw [e1]
        refine lv_aload_n hx hb dL_law_255 rfl (lv_at hl 3 rfl) ?_
        refine lv_iload_n hx hb dL_law_256 rfl (lv_at hl 0 rfl) ?_
        refine lv_iconst (v := iv 2) hx hb dL_law_257 (by decide) ?_
        refine r_iadd hx hb dL_law_258 ?_
        refine sSld Cx hX hbG hW (j := (i + 2)) (by rw [iv_clamp (by omega) (by omega)]; omega) (iv_inN (by omega) (by omega) (by omega)) dL_law_259 ?_
        rw [e2]
        refine sBl (sV (As := [.int (iv a1), .int (iv a2)]) (rest := []) (k := 0) Cx (z_X11_coefficient l G S (k := a1) (j := a2) hI.1 (by omega) (by omega)) (c_L_37 Cx rfl rfl ⟨Nat.le_of_ble_eq_true rfl, Nat.le_of_ble_eq_true rfl⟩) hW (by decide) rfl rfl rfl hl.1 rfl (Nat.le_of_ble_eq_true rfl) dL_law_260 ⟨Nat.le_of_ble_eq_true rfl, Nat.le_of_ble_eq_true rfl⟩) hL (fun r40 u38 H locs q39 hW hL => ?_)
        obtain ⟨iu38, fu38, xu38⟩ := q39
        have wu38 : LWr G u38 := LWr.cls ⟨hI.2.1.1, hI.2.1.2.1, hI.2.1.2.2.1, hI.2.1.2.2.2.1, hI.2.1.2.2.2.2⟩ (fu38.to (fun k h => pN_A k (pNz_N k h)))
        have zu38 : u38.1 231 1 = S.1 231 1 := ((fu38.to (fun k h => pN_A k (pNz_N k h))) 231 rfl).1 1
        have yu38 : u38.1 1 1 = S.1 1 1 := (fu38 1 rfl).1 1
        have pu38 : u38.1 231 45 = S.1 231 45 := ((fu38.to (fun k h => pN_A k (pNz_N k h))) 231 rfl).1 45
        have ou38 : u38.1 0 7 = S.1 0 7 := (fu38 0 rfl).1 7
        refine lv_pop2_2 hx hb dL_law_263 rfl ?_
        refine lv_aload_n hx hb dL_law_264 rfl (lv_at hl 1 rfl) ?_
        refine lv_aload_n hx hb dL_law_265 rfl (lv_at hl 3 rfl) ?_
        refine lv_iload_n hx hb dL_law_266 rfl (lv_at hl 0 rfl) ?_
        refine lv_iconst (v := iv 1) hx hb dL_law_267 (by decide) ?_
        refine r_iadd hx hb dL_law_268 ?_
        refine sSld Cx hX hbG hW (j := (i + 1)) (by rw [iv_clamp (by omega) (by omega)]; omega) (iv_inN (by omega) (by omega) (by omega)) dL_law_269 ?_
        rw [e1]
        refine lv_aload_n hx hb dL_law_270 rfl (lv_at hl 3 rfl) ?_
        refine lv_iload_n hx hb dL_law_271 rfl (lv_at hl 0 rfl) ?_
        refine lv_iconst (v := iv 2) hx hb dL_law_272 (by decide) ?_
        refine r_iadd hx hb dL_law_273 ?_
        refine sSld Cx hX hbG hW (j := (i + 2)) (by rw [iv_clamp (by omega) (by omega)]; omega) (iv_inN (by omega) (by omega) (by omega)) dL_law_274 ?_
        rw [e2]
        refine sBl (sV (As := [.int (iv a1), .int (iv a2)]) (rest := []) (k := 231) Cx (s_X12_coefficient l G u38 (a := a1) (b := a2) wu38.1 (by omega) (by omega) wu38.2.1) (c_L_41 Cx rfl rfl ⟨Nat.le_of_ble_eq_true rfl, Nat.le_of_ble_eq_true rfl⟩) hW (by decide) rfl rfl rfl hl.1 rfl (Nat.le_of_ble_eq_true rfl) dL_law_275 ⟨Nat.le_of_ble_eq_true rfl, Nat.le_of_ble_eq_true rfl⟩) hL (fun r43 u41 H locs q42 hW hL => ?_)
        have eu41 := q42
        rw [eu41] at hW
        refine lv_pop2_2 hx hb dL_law_278 rfl ?_
        refine lv_goto (tgt := 486) hx hb dL_law_279 (by decide) ?_
        refine lv_iinc (v := iv ((i + 6 : Nat) : Int)) (lv' := [(3, .int (iv ((i + 6 : Nat) : Int))), (2, .ref (G.2.2.1 + 231)), (1, .ref (G.2.2.1 + 0)), (0, .ref b)]) hx hb dL_law_486 hl (k := 0) rfl (by rw [show ((i + 6 : Nat) : Int) = (i : Int) + 6 by omega]; exact (Int32.ofInt_add _ _).symm) (by decide) rfl (fun ls hl => ?_)
        refine lv_goto (tgt := 18) hx hb dL_law_489 (by decide) ?_
        exact ih u38 (i + 6) H locs ls (by omega) (by omega) ⟨iu38, ⟨wu38.1, wu38.2.1, wu38.2.2.1, wu38.2.2.2.1, wu38.2.2.2.2⟩, (by omega), (by omega), (by omega), (fun j a b => by rw [(fu38 2 rfl).2.1 j, (fu38 232 rfl).2.1 j]; exact hAL j a (by omega)), (by omega), ⟨y, z, M, X, (hLM.st (kpF (fu38.to pNz_N) (mdl_oN hmy) rfl) (by omega) (((fu38.to (fun k h => pN_A k (pNz_N k h))) 231 rfl).1 46) (((fu38.to (fun k h => pN_A k (pNz_N k h))) 231 rfl).1 47) (((fu38.to (fun k h => pN_A k (pNz_N k h))) 231 rfl).1 48) (((fu38.to (fun k h => pN_A k (pNz_N k h))) 231 rfl).1 49) (funext fun j => ((fu38.to (fun k h => pN_A k (pNz_N k h))) 259 rfl).2.1 j) (funext fun j => ((fu38.to (fun k h => pN_A k (pNz_N k h))) 260 rfl).2.2.1 j) (funext fun j => ((fu38.to (fun k h => pN_A k (pNz_N k h))) 290 rfl).2.2.1 j)), (SLV.fr hSL (by omega) (svE.of fu38 pSv_Nz) (kpF (fu38.to pNz_N) (mdl_oN hmy) rfl).1 ((fu38 0 rfl).1 8) (((fu38.to (fun k h => pN_A k (pNz_N k h))) 231 rfl).1 61) (fun _ _ _ _ _ _ _ h => (XIr.cls h (fu38.to (fun k h => pN_A k (pNz_N k h))))))⟩⟩ hW hL (lv_sub hl [0, 1, 2, 3] rfl)
      by_cases c44 : tt = 6
      · refine lv_tableIn (off := 249) (tgt := 282) hx hb dL_law_33 (by rw [c44]; decide) (by rw [c44]; decide) (by rw [c44]; decide) (by decide) ?_
        refine lv_aload_n hx hb dL_law_282 rfl (lv_at hl 2 rfl) ?_
        refine lv_aload_n hx hb dL_law_283 rfl (lv_at hl 3 rfl) ?_
        refine lv_iload_n hx hb dL_law_284 rfl (lv_at hl 0 rfl) ?_
        refine lv_iconst (v := iv 1) hx hb dL_law_285 (by decide) ?_
        refine r_iadd hx hb dL_law_286 ?_
        refine sSld Cx hX hbG hW (j := (i + 1)) (by rw [iv_clamp (by omega) (by omega)]; omega) (iv_inN (by omega) (by omega) (by omega)) dL_law_287 ?_
        rw [e1]
        refine sBi (sV (As := [.int (iv a1)]) (rest := []) (k := 0) Cx (v_X11_begin l G S (k := a1) (y := y) (n := M.2.2.2.1) (mm := M.2.2.2.2.2.1) (mx := M.2.2.2.2.2.2.1) (A := (clA M.2.2.2.1 M.2.2.2.2.2.1 X.1)) (wh := X.2) hI.1 (by omega) hmy h56.1 (fun h => hLM.mdc hI.2.1.2.1 h)) (c_L_42 Cx rfl rfl ⟨Nat.le_of_ble_eq_true rfl, Nat.le_of_ble_eq_true rfl⟩) hW (by decide) rfl rfl rfl hl.1 rfl (Nat.le_of_ble_eq_true rfl) dL_law_288 ⟨Nat.le_of_ble_eq_true rfl, Nat.le_of_ble_eq_true rfl⟩) hL (fun r47 u45 H locs q46 hW hL => ?_)
        obtain ⟨iu45, fu45, xu45⟩ := q46
        have wu45 : LWr G u45 := LWr.cls ⟨hI.2.1.1, hI.2.1.2.1, hI.2.1.2.2.1, hI.2.1.2.2.2.1, hI.2.1.2.2.2.2⟩ (fu45.to pC_A)
        have zu45 : u45.1 231 1 = S.1 231 1 := ((fu45.to pC_A) 231 rfl).1 1
        have yu45 : u45.1 1 1 = S.1 1 1 := (fu45 1 rfl).1 1
        have pu45 : u45.1 231 45 = S.1 231 45 := ((fu45.to pC_A) 231 rfl).1 45
        have ou45 := xu45.2.2.1
        have obu45 := xu45.2.1
        have ocu45 := xu45.1
        refine lv_pop hx hb dL_law_291 rfl ?_
        refine lv_aload_n hx hb dL_law_292 rfl (lv_at hl 1 rfl) ?_
        refine lv_aload_n hx hb dL_law_293 rfl (lv_at hl 3 rfl) ?_
        refine lv_iload_n hx hb dL_law_294 rfl (lv_at hl 0 rfl) ?_
        refine lv_iconst (v := iv 1) hx hb dL_law_295 (by decide) ?_
        refine r_iadd hx hb dL_law_296 ?_
        refine sSld Cx hX hbG hW (j := (i + 1)) (by rw [iv_clamp (by omega) (by omega)]; omega) (iv_inN (by omega) (by omega) (by omega)) dL_law_297 ?_
        rw [e1]
        refine sBi (sV (As := [.int (iv a1)]) (rest := []) (k := 231) Cx (re_X12_begin l G u45 (ct := a1) (n := M.2.2.2.1) (mm := M.2.2.2.2.2.1) (mx := M.2.2.2.2.2.2.1) (A := (clA M.2.2.2.1 M.2.2.2.2.2.1 X.1)) (wh := X.2) wu45.1 (by omega) wu45.2.1.1 (fun h => (hLM.st xu45.2.2.2.1 (by omega) (((fu45.to pC_A) 231 rfl).1 46) (((fu45.to pC_A) 231 rfl).1 47) (((fu45.to pC_A) 231 rfl).1 48) (((fu45.to pC_A) 231 rfl).1 49) (funext fun j => ((fu45.to pC_A) 259 rfl).2.1 j) (funext fun j => ((fu45.to pC_A) 260 rfl).2.2.1 j) (funext fun j => ((fu45.to pC_A) 290 rfl).2.2.1 j)).mdd wu45.2.1 (by omega))) (c_L_45 Cx rfl rfl ⟨Nat.le_of_ble_eq_true rfl, Nat.le_of_ble_eq_true rfl⟩) hW (by decide) rfl rfl rfl hl.1 rfl (Nat.le_of_ble_eq_true rfl) dL_law_298 ⟨Nat.le_of_ble_eq_true rfl, Nat.le_of_ble_eq_true rfl⟩) hL (fun r50 u48 H locs q49 hW hL => ?_)
        obtain ⟨iu48, fu48, gu48, xu48⟩ := q49
        have vu48 : cX G u48 0 0 0 := iu45.fr fu48 (pl_sub' (by decide))
        have yu48 : u48.1 1 1 = u45.1 1 1 := (fu48 1 rfl).1 1
        have zu48 : u48.1 231 1 = u45.1 231 1 := gu48 1 rfl
        have ou48 : u48.1 0 7 = u45.1 0 7 := (fu48 0 rfl).1 7
        have pu48 : u48.1 231 45 = u45.1 231 45 := gu48 45 rfl
        have obu48 := xu48.2.2.2.1; have ocu48 := xu48.1
        have tu48 : XI u48 := (beginXI wu45.2.1 ⟨xu48.1, xu48.2.1, xu48.2.2.1⟩)
        have bu48 : RBn u48 := (fun x => by rw [(fu48 255 rfl).2.2.1 x]; exact wu45.2.2.1 x)
        have hu48 : dHA u48 := (dHA.sm wu45.2.2.2.1 (funext fun j => (fu48 283 rfl).2.1 j))
        have ku48 : dUP u48 := (dUP.sm wu45.2.2.2.2 (funext fun j => (fu48 286 rfl).2.1 j) (funext fun j => (fu48 287 rfl).2.1 j))
        refine lv_pop hx hb dL_law_301 rfl ?_
        refine lv_goto (tgt := 486) hx hb dL_law_302 (by decide) ?_
        refine lv_iinc (v := iv ((i + 6 : Nat) : Int)) (lv' := [(3, .int (iv ((i + 6 : Nat) : Int))), (2, .ref (G.2.2.1 + 231)), (1, .ref (G.2.2.1 + 0)), (0, .ref b)]) hx hb dL_law_486 hl (k := 0) rfl (by rw [show ((i + 6 : Nat) : Int) = (i : Int) + 6 by omega]; exact (Int32.ofInt_add _ _).symm) (by decide) rfl (fun ls hl => ?_)
        refine lv_goto (tgt := 18) hx hb dL_law_489 (by decide) ?_
        exact ih u48 (i + 6) H locs ls (by omega) (by omega) ⟨vu48, ⟨iu48, tu48, bu48, hu48, ku48⟩, (by omega), (by omega), (by omega), (fun j a b => by rw [(fu48 2 rfl).2.1 j, (fu48 232 rfl).2.1 j, (fu45 2 rfl).2.1 j, (fu45 232 rfl).2.1 j]; exact hAL j a (by omega)), (by omega), ⟨y, z, M, X, ((hLM.st xu45.2.2.2.1 (by omega) (((fu45.to pC_A) 231 rfl).1 46) (((fu45.to pC_A) 231 rfl).1 47) (((fu45.to pC_A) 231 rfl).1 48) (((fu45.to pC_A) 231 rfl).1 49) (funext fun j => ((fu45.to pC_A) 259 rfl).2.1 j) (funext fun j => ((fu45.to pC_A) 260 rfl).2.2.1 j) (funext fun j => ((fu45.to pC_A) 290 rfl).2.2.1 j)).st (kpF fu48 (pl_m (by decide) hmy) rfl) (by omega) (gu48 46 rfl) (gu48 47 rfl) (gu48 48 rfl) (gu48 49 rfl) (funext fun j => (fu48 259 rfl).2.1 j) (funext fun j => (fu48 260 rfl).2.2.1 j) (funext fun j => (fu48 290 rfl).2.2.1 j)), (by rw [show ((i + 6 : Nat) : Int) = (i : Int) + 6 by omega]; exact SLV.bg (n := M.2.2.2.1) (mm := M.2.2.2.2.2.1) (mx := M.2.2.2.2.2.2.1) (A := (clA M.2.2.2.1 M.2.2.2.2.2.1 X.1)) (wh := X.2) (r1 := r47) (r2 := r50) hSL (by omega) xu45.1 (by omega) (fun q => by have h := hLM.rg hI.2.1.2.1 (by omega); exact ⟨h.1, h.2, by omega, by omega⟩) (fun q => (hLM.mdc hI.2.1.2.1 (by omega)).2) xu45.2.2.2.2.1 xu45.2.2.2.2.2 xu48.2.1 (svE.pl fu48 (by decide)) (kpF fu48 (pl_m (by decide) hmy) rfl).1 ((fu48 0 rfl).1 8) (fun q => (xu48.2.2.1 q).2) xu48.2.2.2.2)⟩⟩ hW hL (lv_sub hl [0, 1, 2, 3] rfl)
      by_cases c51 : tt = 7
      · refine lv_tableIn (off := 272) (tgt := 305) hx hb dL_law_33 (by rw [c51]; decide) (by rw [c51]; decide) (by rw [c51]; decide) (by decide) ?_
        refine lv_aload_n hx hb dL_law_305 rfl (lv_at hl 2 rfl) ?_
        refine lv_aload_n hx hb dL_law_306 rfl (lv_at hl 3 rfl) ?_
        refine lv_iload_n hx hb dL_law_307 rfl (lv_at hl 0 rfl) ?_
        refine lv_iconst (v := iv 1) hx hb dL_law_308 (by decide) ?_
        refine r_iadd hx hb dL_law_309 ?_
        refine sSld Cx hX hbG hW (j := (i + 1)) (by rw [iv_clamp (by omega) (by omega)]; omega) (iv_inN (by omega) (by omega) (by omega)) dL_law_310 ?_
        rw [e1]
        by_cases hW1 : Wz.2.1 0 = 1
        · have hb8 : S.1 0 8 = 1 := (by by_cases q : S.1 0 8 = 0; (exact absurd hW1 (hCI.1 q)); (omega))
          have hbn := hCI.2.2 hW1
          refine sBi (sV (As := [.int (iv a1)]) (rest := []) (k := 0) Cx (v_X11_work l G S (k := a1) (y := y) (n := nz) (mm := mz) (mx := xz) (al := az) (A := Az) (wh := wz) (Wm := Wz) hI.1 (by omega) hmy hW1 hb8 hbn.1 hbn.2 (by omega) (hCI.2.1 (by omega)) (hJz (by omega))) (c_L_46 Cx rfl rfl ⟨Nat.le_of_ble_eq_true rfl, Nat.le_of_ble_eq_true rfl⟩) hW (by decide) rfl rfl rfl hl.1 rfl (Nat.le_of_ble_eq_true rfl) dL_law_311 ⟨Nat.le_of_ble_eq_true rfl, Nat.le_of_ble_eq_true rfl⟩) hL (fun r54 u52 H locs q53 hW hL => ?_)
          obtain ⟨iu52, fu52, xu52⟩ := q53
          have wu52 : LWr G u52 := LWr.cls ⟨hI.2.1.1, hI.2.1.2.1, hI.2.1.2.2.1, hI.2.1.2.2.2.1, hI.2.1.2.2.2.2⟩ (fu52.to pC_A)
          have zu52 : u52.1 231 1 = S.1 231 1 := ((fu52.to pC_A) 231 rfl).1 1
          have yu52 : u52.1 1 1 = S.1 1 1 := (fu52 1 rfl).1 1
          have pu52 : u52.1 231 45 = S.1 231 45 := ((fu52.to pC_A) 231 rfl).1 45
          have ou52 := xu52.1
          refine lv_pop hx hb dL_law_314 rfl ?_
          refine lv_aload_n hx hb dL_law_315 rfl (lv_at hl 1 rfl) ?_
          refine lv_aload_n hx hb dL_law_316 rfl (lv_at hl 3 rfl) ?_
          refine lv_iload_n hx hb dL_law_317 rfl (lv_at hl 0 rfl) ?_
          refine lv_iconst (v := iv 1) hx hb dL_law_318 (by decide) ?_
          refine r_iadd hx hb dL_law_319 ?_
          refine sSld Cx hX hbG hW (j := (i + 1)) (by rw [iv_clamp (by omega) (by omega)]; omega) (iv_inN (by omega) (by omega) (by omega)) dL_law_320 ?_
          rw [e1]
          refine sBi (sV (As := [.int (iv a1)]) (rest := []) (k := 231) Cx (re_X12_work l G u52 (ct := a1) (n := nz) (mm := mz) (mx := xz) (al := az) (A := Az) (wh := wz) (Wm := Wz) wu52.1 (by omega) wu52.2.1 (XIr.cls hXr (fu52.to pC_A))) (c_L_49 Cx rfl rfl ⟨Nat.le_of_ble_eq_true rfl, Nat.le_of_ble_eq_true rfl⟩) hW (by decide) rfl rfl rfl hl.1 rfl (Nat.le_of_ble_eq_true rfl) dL_law_321 ⟨Nat.le_of_ble_eq_true rfl, Nat.le_of_ble_eq_true rfl⟩) hL (fun r57 u55 H locs q56 hW hL => ?_)
          obtain ⟨iu55, fu55, gu55, xu55⟩ := q56
          have vu55 : cX G u55 0 0 0 := iu52.fr fu55 (pl_sub' (by decide))
          have yu55 : u55.1 1 1 = u52.1 1 1 := (fu55 1 rfl).1 1
          have zu55 : u55.1 231 1 = u52.1 231 1 := gu55 1 rfl
          have ou55 : u55.1 0 7 = u52.1 0 7 := (fu55 0 rfl).1 7
          have pu55 : u55.1 231 45 = u52.1 231 45 := gu55 45 rfl
          have tu55 : XI u55 := xu55.1
          have bu55 : RBn u55 := (fun x => by rw [(fu55 255 rfl).2.2.1 x]; exact wu52.2.2.1 x)
          have hu55 : dHA u55 := (dHA.sm wu52.2.2.2.1 (funext fun j => (fu55 283 rfl).2.1 j))
          have ku55 : dUP u55 := (dUP.sm wu52.2.2.2.2 (funext fun j => (fu55 286 rfl).2.1 j) (funext fun j => (fu55 287 rfl).2.1 j))
          have hwq : r54 = r57 ∧ SLV G u55 y ((i : Int) + 6) := SLV.wk hW1 hCI (XIr.cls hXr (fu52.to pC_A)) ⟨hp0, hp1⟩ (hJz (by omega)) (xu52.2.2.1.trans hb8) ⟨xu52.2.2.2.1, xu52.2.2.2.2⟩ xu55.2.2 (svE.pl fu55 (by decide)) (kpF fu55 (pl_m (by decide) hmy) rfl).1 ((fu55 0 rfl).1 8)
          refine lv_pop hx hb dL_law_324 rfl ?_
          refine lv_goto (tgt := 486) hx hb dL_law_325 (by decide) ?_
          refine lv_iinc (v := iv ((i + 6 : Nat) : Int)) (lv' := [(3, .int (iv ((i + 6 : Nat) : Int))), (2, .ref (G.2.2.1 + 231)), (1, .ref (G.2.2.1 + 0)), (0, .ref b)]) hx hb dL_law_486 hl (k := 0) rfl (by rw [show ((i + 6 : Nat) : Int) = (i : Int) + 6 by omega]; exact (Int32.ofInt_add _ _).symm) (by decide) rfl (fun ls hl => ?_)
          refine lv_goto (tgt := 18) hx hb dL_law_489 (by decide) ?_
          exact ih u55 (i + 6) H locs ls (by omega) (by omega) ⟨vu55, ⟨iu55, tu55, bu55, hu55, ku55⟩, (by omega), (by omega), (by omega), (fun j a b => by rw [(fu55 2 rfl).2.1 j, (fu55 232 rfl).2.1 j, (fu52 2 rfl).2.1 j, (fu52 232 rfl).2.1 j]; exact hAL j a (by omega)), (by omega), ⟨y, z, M, X, ((hLM.st xu52.2.1 (by omega) (((fu52.to pC_A) 231 rfl).1 46) (((fu52.to pC_A) 231 rfl).1 47) (((fu52.to pC_A) 231 rfl).1 48) (((fu52.to pC_A) 231 rfl).1 49) (funext fun j => ((fu52.to pC_A) 259 rfl).2.1 j) (funext fun j => ((fu52.to pC_A) 260 rfl).2.2.1 j) (funext fun j => ((fu52.to pC_A) 290 rfl).2.2.1 j)).st (kpF fu55 (pl_m (by decide) hmy) rfl) (by omega) (gu55 46 rfl) (gu55 47 rfl) (gu55 48 rfl) (gu55 49 rfl) (funext fun j => (fu55 259 rfl).2.1 j) (funext fun j => (fu55 260 rfl).2.2.1 j) (funext fun j => (fu55 290 rfl).2.2.1 j)), (by rw [show ((i + 6 : Nat) : Int) = (i : Int) + 6 by omega]; exact hwq.2)⟩⟩ hW hL (lv_sub hl [0, 1, 2, 3] rfl)
        · refine sBi (sV (As := [.int (iv a1)]) (rest := []) (k := 0) Cx (v_X11_work0 l G S (k := a1) (y := y) (n := nz) (mx := xz) (Wm := Wz) hI.1 (by omega) hmy (by by_cases q : S.1 0 8 = 0; (exact .inl q); (exact .inr ((hCI.2.1 q).2 hW1).1)) (fun q => ((hCI.2.1 q).2 hW1).2)) (c_L_46 Cx rfl rfl ⟨Nat.le_of_ble_eq_true rfl, Nat.le_of_ble_eq_true rfl⟩) hW (by decide) rfl rfl rfl hl.1 rfl (Nat.le_of_ble_eq_true rfl) dL_law_311 ⟨Nat.le_of_ble_eq_true rfl, Nat.le_of_ble_eq_true rfl⟩) hL (fun r60 u58 H locs q59 hW hL => ?_)
          obtain ⟨iu58, fu58, xu58⟩ := q59
          have wu58 : LWr G u58 := LWr.cls ⟨hI.2.1.1, hI.2.1.2.1, hI.2.1.2.2.1, hI.2.1.2.2.2.1, hI.2.1.2.2.2.2⟩ (fu58.to pC_A)
          have zu58 : u58.1 231 1 = S.1 231 1 := ((fu58.to pC_A) 231 rfl).1 1
          have yu58 : u58.1 1 1 = S.1 1 1 := (fu58 1 rfl).1 1
          have pu58 : u58.1 231 45 = S.1 231 45 := ((fu58.to pC_A) 231 rfl).1 45
          have ou58 := xu58.1
          refine lv_pop hx hb dL_law_314 rfl ?_
          refine lv_aload_n hx hb dL_law_315 rfl (lv_at hl 1 rfl) ?_
          refine lv_aload_n hx hb dL_law_316 rfl (lv_at hl 3 rfl) ?_
          refine lv_iload_n hx hb dL_law_317 rfl (lv_at hl 0 rfl) ?_
          refine lv_iconst (v := iv 1) hx hb dL_law_318 (by decide) ?_
          refine r_iadd hx hb dL_law_319 ?_
          refine sSld Cx hX hbG hW (j := (i + 1)) (by rw [iv_clamp (by omega) (by omega)]; omega) (iv_inN (by omega) (by omega) (by omega)) dL_law_320 ?_
          rw [e1]
          refine sBi (sV (As := [.int (iv a1)]) (rest := []) (k := 231) Cx (re_X12_work l G u58 (ct := a1) (n := nz) (mm := mz) (mx := xz) (al := az) (A := Az) (wh := wz) (Wm := Wz) wu58.1 (by omega) wu58.2.1 (XIr.cls hXr (fu58.to pC_A))) (c_L_49 Cx rfl rfl ⟨Nat.le_of_ble_eq_true rfl, Nat.le_of_ble_eq_true rfl⟩) hW (by decide) rfl rfl rfl hl.1 rfl (Nat.le_of_ble_eq_true rfl) dL_law_321 ⟨Nat.le_of_ble_eq_true rfl, Nat.le_of_ble_eq_true rfl⟩) hL (fun r63 u61 H locs q62 hW hL => ?_)
          obtain ⟨iu61, fu61, gu61, xu61⟩ := q62
          have vu61 : cX G u61 0 0 0 := iu58.fr fu61 (pl_sub' (by decide))
          have yu61 : u61.1 1 1 = u58.1 1 1 := (fu61 1 rfl).1 1
          have zu61 : u61.1 231 1 = u58.1 231 1 := gu61 1 rfl
          have ou61 : u61.1 0 7 = u58.1 0 7 := (fu61 0 rfl).1 7
          have pu61 : u61.1 231 45 = u58.1 231 45 := gu61 45 rfl
          have tu61 : XI u61 := xu61.1
          have bu61 : RBn u61 := (fun x => by rw [(fu61 255 rfl).2.2.1 x]; exact wu58.2.2.1 x)
          have hu61 : dHA u61 := (dHA.sm wu58.2.2.2.1 (funext fun j => (fu61 283 rfl).2.1 j))
          have ku61 : dUP u61 := (dUP.sm wu58.2.2.2.2 (funext fun j => (fu61 286 rfl).2.1 j) (funext fun j => (fu61 287 rfl).2.1 j))
          have hwq : r60 = r63 ∧ SLV G u61 y ((i : Int) + 6) := SLV.w0 hW1 hCI (XIr.cls hXr (fu58.to pC_A)) ⟨hp0, hp1⟩ hJz hn12z hfz xu58.2.2.2.2.2.2 xu58.2.2.2.1 xu58.2.2.2.2.1 xu61.2.2 (svE.pl fu61 (by decide)) (kpF fu61 (pl_m (by decide) hmy) rfl).1 ((fu61 0 rfl).1 8)
          refine lv_pop hx hb dL_law_324 rfl ?_
          refine lv_goto (tgt := 486) hx hb dL_law_325 (by decide) ?_
          refine lv_iinc (v := iv ((i + 6 : Nat) : Int)) (lv' := [(3, .int (iv ((i + 6 : Nat) : Int))), (2, .ref (G.2.2.1 + 231)), (1, .ref (G.2.2.1 + 0)), (0, .ref b)]) hx hb dL_law_486 hl (k := 0) rfl (by rw [show ((i + 6 : Nat) : Int) = (i : Int) + 6 by omega]; exact (Int32.ofInt_add _ _).symm) (by decide) rfl (fun ls hl => ?_)
          refine lv_goto (tgt := 18) hx hb dL_law_489 (by decide) ?_
          exact ih u61 (i + 6) H locs ls (by omega) (by omega) ⟨vu61, ⟨iu61, tu61, bu61, hu61, ku61⟩, (by omega), (by omega), (by omega), (fun j a b => by rw [(fu61 2 rfl).2.1 j, (fu61 232 rfl).2.1 j, (fu58 2 rfl).2.1 j, (fu58 232 rfl).2.1 j]; exact hAL j a (by omega)), (by omega), ⟨y, z, M, X, ((hLM.st xu58.2.1 (by omega) (((fu58.to pC_A) 231 rfl).1 46) (((fu58.to pC_A) 231 rfl).1 47) (((fu58.to pC_A) 231 rfl).1 48) (((fu58.to pC_A) 231 rfl).1 49) (funext fun j => ((fu58.to pC_A) 259 rfl).2.1 j) (funext fun j => ((fu58.to pC_A) 260 rfl).2.2.1 j) (funext fun j => ((fu58.to pC_A) 290 rfl).2.2.1 j)).st (kpF fu61 (pl_m (by decide) hmy) rfl) (by omega) (gu61 46 rfl) (gu61 47 rfl) (gu61 48 rfl) (gu61 49 rfl) (funext fun j => (fu61 259 rfl).2.1 j) (funext fun j => (fu61 260 rfl).2.2.1 j) (funext fun j => (fu61 290 rfl).2.2.1 j)), (by rw [show ((i + 6 : Nat) : Int) = (i : Int) + 6 by omega]; exact hwq.2)⟩⟩ hW hL (lv_sub hl [0, 1, 2, 3] rfl)
      by_cases c64 : tt = 8
      · refine lv_tableIn (off := 295) (tgt := 328) hx hb dL_law_33 (by rw [c64]; decide) (by rw [c64]; decide) (by rw [c64]; decide) (by decide) ?_
        refine lv_aload_n hx hb dL_law_328 rfl (lv_at hl 2 rfl) ?_
        refine lv_aload_n hx hb dL_law_329 rfl (lv_at hl 3 rfl) ?_
        refine lv_iload_n hx hb dL_law_330 rfl (lv_at hl 0 rfl) ?_
        refine lv_iconst (v := iv 1) hx hb dL_law_331 (by decide) ?_
        refine r_iadd hx hb dL_law_332 ?_
        refine sSld Cx hX hbG hW (j := (i + 1)) (by rw [iv_clamp (by omega) (by omega)]; omega) (iv_inN (by omega) (by omega) (by omega)) dL_law_333 ?_
        rw [e1]
        refine sBi (sV (As := [.int (iv a1)]) (rest := []) (k := 0) Cx (s_X11_look l G S (k := a1) hI.1 (by omega)) (c_L_50 Cx rfl rfl ⟨Nat.le_of_ble_eq_true rfl, Nat.le_of_ble_eq_true rfl⟩) hW (by decide) rfl rfl rfl hl.1 rfl (Nat.le_of_ble_eq_true rfl) dL_law_334 ⟨Nat.le_of_ble_eq_true rfl, Nat.le_of_ble_eq_true rfl⟩) hL (fun r67 u65 H locs q66 hW hL => ?_)
        obtain ⟨eu65, xu65⟩ := q66
        rw [eu65] at hW
        refine lv_pop hx hb dL_law_337 rfl ?_
        refine lv_aload_n hx hb dL_law_338 rfl (lv_at hl 1 rfl) ?_
        refine lv_aload_n hx hb dL_law_339 rfl (lv_at hl 3 rfl) ?_
        refine lv_iload_n hx hb dL_law_340 rfl (lv_at hl 0 rfl) ?_
        refine lv_iconst (v := iv 1) hx hb dL_law_341 (by decide) ?_
        refine r_iadd hx hb dL_law_342 ?_
        refine sSld Cx hX hbG hW (j := (i + 1)) (by rw [iv_clamp (by omega) (by omega)]; omega) (iv_inN (by omega) (by omega) (by omega)) dL_law_343 ?_
        rw [e1]
        refine sBi (sV (As := [.int (iv a1)]) (rest := []) (k := 231) Cx (s_X12_look l G S (a := a1) hI.2.1.1 (by omega) hI.2.1.2.1) (c_L_53 Cx rfl rfl ⟨Nat.le_of_ble_eq_true rfl, Nat.le_of_ble_eq_true rfl⟩) hW (by decide) rfl rfl rfl hl.1 rfl (Nat.le_of_ble_eq_true rfl) dL_law_344 ⟨Nat.le_of_ble_eq_true rfl, Nat.le_of_ble_eq_true rfl⟩) hL (fun r70 u68 H locs q69 hW hL => ?_)
        have eu68 := q69
        rw [eu68] at hW
        refine lv_pop hx hb dL_law_347 rfl ?_
        refine lv_goto (tgt := 486) hx hb dL_law_348 (by decide) ?_
        refine lv_iinc (v := iv ((i + 6 : Nat) : Int)) (lv' := [(3, .int (iv ((i + 6 : Nat) : Int))), (2, .ref (G.2.2.1 + 231)), (1, .ref (G.2.2.1 + 0)), (0, .ref b)]) hx hb dL_law_486 hl (k := 0) rfl (by rw [show ((i + 6 : Nat) : Int) = (i : Int) + 6 by omega]; exact (Int32.ofInt_add _ _).symm) (by decide) rfl (fun ls hl => ?_)
        refine lv_goto (tgt := 18) hx hb dL_law_489 (by decide) ?_
        exact ih S (i + 6) H locs ls (by omega) (by omega) ⟨hI.1, ⟨hI.2.1.1, hI.2.1.2.1, hI.2.1.2.2.1, hI.2.1.2.2.2.1, hI.2.1.2.2.2.2⟩, (by omega), (by omega), (by omega), hAL, (by omega), ⟨y, z, M, X, hLM, (SLV.up hSL (by omega))⟩⟩ hW hL (lv_sub hl [0, 1, 2, 3] rfl)
      by_cases c71 : tt = 9
      · refine lv_tableIn (off := 318) (tgt := 351) hx hb dL_law_33 (by rw [c71]; decide) (by rw [c71]; decide) (by rw [c71]; decide) (by decide) ?_
        refine lv_aload_n hx hb dL_law_351 rfl (lv_at hl 2 rfl) ?_
        refine lv_aload_n hx hb dL_law_352 rfl (lv_at hl 3 rfl) ?_
        refine lv_iload_n hx hb dL_law_353 rfl (lv_at hl 0 rfl) ?_
        refine lv_iconst (v := iv 1) hx hb dL_law_354 (by decide) ?_
        refine r_iadd hx hb dL_law_355 ?_
        refine sSld Cx hX hbG hW (j := (i + 1)) (by rw [iv_clamp (by omega) (by omega)]; omega) (iv_inN (by omega) (by omega) (by omega)) dL_law_356 ?_
        rw [e1]
        refine sBi (sV (As := [.int (iv a1)]) (rest := []) (k := 0) Cx (s_X11_place l G S (k := a1) hI.1 (by omega)) (c_L_54 Cx rfl rfl ⟨Nat.le_of_ble_eq_true rfl, Nat.le_of_ble_eq_true rfl⟩) hW (by decide) rfl rfl rfl hl.1 rfl (Nat.le_of_ble_eq_true rfl) dL_law_357 ⟨Nat.le_of_ble_eq_true rfl, Nat.le_of_ble_eq_true rfl⟩) hL (fun r74 u72 H locs q73 hW hL => ?_)
        obtain ⟨eu72, xu72⟩ := q73
        rw [eu72] at hW
        refine lv_pop hx hb dL_law_360 rfl ?_
        refine lv_aload_n hx hb dL_law_361 rfl (lv_at hl 1 rfl) ?_
        refine lv_aload_n hx hb dL_law_362 rfl (lv_at hl 3 rfl) ?_
        refine lv_iload_n hx hb dL_law_363 rfl (lv_at hl 0 rfl) ?_
        refine lv_iconst (v := iv 1) hx hb dL_law_364 (by decide) ?_
        refine r_iadd hx hb dL_law_365 ?_
        refine sSld Cx hX hbG hW (j := (i + 1)) (by rw [iv_clamp (by omega) (by omega)]; omega) (iv_inN (by omega) (by omega) (by omega)) dL_law_366 ?_
        rw [e1]
        refine sBi (sV (As := [.int (iv a1)]) (rest := []) (k := 231) Cx (s_X12_place l G S (a := a1) hI.2.1.1 (by omega) hI.2.1.2.1) (c_L_57 Cx rfl rfl ⟨Nat.le_of_ble_eq_true rfl, Nat.le_of_ble_eq_true rfl⟩) hW (by decide) rfl rfl rfl hl.1 rfl (Nat.le_of_ble_eq_true rfl) dL_law_367 ⟨Nat.le_of_ble_eq_true rfl, Nat.le_of_ble_eq_true rfl⟩) hL (fun r77 u75 H locs q76 hW hL => ?_)
        have eu75 := q76
        rw [eu75] at hW
        refine lv_pop hx hb dL_law_370 rfl ?_
        refine lv_goto (tgt := 486) hx hb dL_law_371 (by decide) ?_
        refine lv_iinc (v := iv ((i + 6 : Nat) : Int)) (lv' := [(3, .int (iv ((i + 6 : Nat) : Int))), (2, .ref (G.2.2.1 + 231)), (1, .ref (G.2.2.1 + 0)), (0, .ref b)]) hx hb dL_law_486 hl (k := 0) rfl (by rw [show ((i + 6 : Nat) : Int) = (i : Int) + 6 by omega]; exact (Int32.ofInt_add _ _).symm) (by decide) rfl (fun ls hl => ?_)
        refine lv_goto (tgt := 18) hx hb dL_law_489 (by decide) ?_
        exact ih S (i + 6) H locs ls (by omega) (by omega) ⟨hI.1, ⟨hI.2.1.1, hI.2.1.2.1, hI.2.1.2.2.1, hI.2.1.2.2.2.1, hI.2.1.2.2.2.2⟩, (by omega), (by omega), (by omega), hAL, (by omega), ⟨y, z, M, X, hLM, (SLV.up hSL (by omega))⟩⟩ hW hL (lv_sub hl [0, 1, 2, 3] rfl)
      by_cases c78 : tt = 10
      · refine lv_tableIn (off := 341) (tgt := 374) hx hb dL_law_33 (by rw [c78]; decide) (by rw [c78]; decide) (by rw [c78]; decide) (by decide) ?_
        refine lv_aload_n hx hb dL_law_374 rfl (lv_at hl 2 rfl) ?_
        refine lv_aload_n hx hb dL_law_375 rfl (lv_at hl 3 rfl) ?_
        refine lv_iload_n hx hb dL_law_376 rfl (lv_at hl 0 rfl) ?_
        refine lv_iconst (v := iv 1) hx hb dL_law_377 (by decide) ?_
        refine r_iadd hx hb dL_law_378 ?_
        refine sSld Cx hX hbG hW (j := (i + 1)) (by rw [iv_clamp (by omega) (by omega)]; omega) (iv_inN (by omega) (by omega) (by omega)) dL_law_379 ?_
        rw [e1]
        refine lv_aload_n hx hb dL_law_380 rfl (lv_at hl 3 rfl) ?_
        refine lv_iload_n hx hb dL_law_381 rfl (lv_at hl 0 rfl) ?_
        refine lv_iconst (v := iv 2) hx hb dL_law_382 (by decide) ?_
        refine r_iadd hx hb dL_law_383 ?_
        refine sSld Cx hX hbG hW (j := (i + 2)) (by rw [iv_clamp (by omega) (by omega)]; omega) (iv_inN (by omega) (by omega) (by omega)) dL_law_384 ?_
        rw [e2]
        refine lv_aload_n hx hb dL_law_385 rfl (lv_at hl 3 rfl) ?_
        refine lv_iload_n hx hb dL_law_386 rfl (lv_at hl 0 rfl) ?_
        refine lv_iconst (v := iv 3) hx hb dL_law_387 (by decide) ?_
        refine r_iadd hx hb dL_law_388 ?_
        refine sSld Cx hX hbG hW (j := (i + 3)) (by rw [iv_clamp (by omega) (by omega)]; omega) (iv_inN (by omega) (by omega) (by omega)) dL_law_389 ?_
        rw [e3]
        refine sBi (sV (As := [.int (iv a1), .int (iv a2), .int (iv a3)]) (rest := []) (k := 0) Cx (z_X11_entry l G S (k := a1) (j := a2) (z := a3) hI.1 (by omega) (by omega) (by omega)) (c_L_58 Cx rfl rfl ⟨Nat.le_of_ble_eq_true rfl, Nat.le_of_ble_eq_true rfl⟩) hW (by decide) rfl rfl rfl hl.1 rfl (Nat.le_of_ble_eq_true rfl) dL_law_390 ⟨Nat.le_of_ble_eq_true rfl, Nat.le_of_ble_eq_true rfl⟩) hL (fun r81 u79 H locs q80 hW hL => ?_)
        obtain ⟨iu79, fu79, xu79⟩ := q80
        have wu79 : LWr G u79 := LWr.cls ⟨hI.2.1.1, hI.2.1.2.1, hI.2.1.2.2.1, hI.2.1.2.2.2.1, hI.2.1.2.2.2.2⟩ (fu79.to (fun k h => pN_A k (pNz_N k h)))
        have zu79 : u79.1 231 1 = S.1 231 1 := ((fu79.to (fun k h => pN_A k (pNz_N k h))) 231 rfl).1 1
        have yu79 : u79.1 1 1 = S.1 1 1 := (fu79 1 rfl).1 1
        have pu79 : u79.1 231 45 = S.1 231 45 := ((fu79.to (fun k h => pN_A k (pNz_N k h))) 231 rfl).1 45
        have ou79 : u79.1 0 7 = S.1 0 7 := (fu79 0 rfl).1 7
        refine lv_pop hx hb dL_law_393 rfl ?_
        refine lv_aload_n hx hb dL_law_394 rfl (lv_at hl 1 rfl) ?_
        refine lv_aload_n hx hb dL_law_395 rfl (lv_at hl 3 rfl) ?_
        refine lv_iload_n hx hb dL_law_396 rfl (lv_at hl 0 rfl) ?_
        refine lv_iconst (v := iv 1) hx hb dL_law_397 (by decide) ?_
        refine r_iadd hx hb dL_law_398 ?_
        refine sSld Cx hX hbG hW (j := (i + 1)) (by rw [iv_clamp (by omega) (by omega)]; omega) (iv_inN (by omega) (by omega) (by omega)) dL_law_399 ?_
        rw [e1]
        refine lv_aload_n hx hb dL_law_400 rfl (lv_at hl 3 rfl) ?_
        refine lv_iload_n hx hb dL_law_401 rfl (lv_at hl 0 rfl) ?_
        refine lv_iconst (v := iv 2) hx hb dL_law_402 (by decide) ?_
        refine r_iadd hx hb dL_law_403 ?_
        refine sSld Cx hX hbG hW (j := (i + 2)) (by rw [iv_clamp (by omega) (by omega)]; omega) (iv_inN (by omega) (by omega) (by omega)) dL_law_404 ?_
        rw [e2]
        refine lv_aload_n hx hb dL_law_405 rfl (lv_at hl 3 rfl) ?_
        refine lv_iload_n hx hb dL_law_406 rfl (lv_at hl 0 rfl) ?_
        refine lv_iconst (v := iv 3) hx hb dL_law_407 (by decide) ?_
        refine r_iadd hx hb dL_law_408 ?_
        refine sSld Cx hX hbG hW (j := (i + 3)) (by rw [iv_clamp (by omega) (by omega)]; omega) (iv_inN (by omega) (by omega) (by omega)) dL_law_409 ?_
        rw [e3]
        refine sBi (sV (As := [.int (iv a1), .int (iv a2), .int (iv a3)]) (rest := []) (k := 231) Cx (s_X12_entry l G u79 (a := a1) (b := a2) (cc := a3) wu79.1 (by omega) (by omega) (by omega) wu79.2.1) (c_L_62 Cx rfl rfl ⟨Nat.le_of_ble_eq_true rfl, Nat.le_of_ble_eq_true rfl⟩) hW (by decide) rfl rfl rfl hl.1 rfl (Nat.le_of_ble_eq_true rfl) dL_law_410 ⟨Nat.le_of_ble_eq_true rfl, Nat.le_of_ble_eq_true rfl⟩) hL (fun r84 u82 H locs q83 hW hL => ?_)
        obtain ⟨iu82, fu82, gu82, xu82⟩ := q83
        have vu82 : cX G u82 0 0 0 := iu79.fr fu82 (pl_sub' (by decide))
        have yu82 : u82.1 1 1 = u79.1 1 1 := (fu82 1 rfl).1 1
        have zu82 : u82.1 231 1 = u79.1 231 1 := gu82 1 rfl
        have ou82 : u82.1 0 7 = u79.1 0 7 := (fu82 0 rfl).1 7
        have pu82 : u82.1 231 45 = u79.1 231 45 := gu82 45 rfl
        have tu82 : XI u82 := xu82
        have bu82 : RBn u82 := (fun x => by rw [(fu82 255 rfl).2.2.1 x]; exact wu79.2.2.1 x)
        have hu82 : dHA u82 := (dHA.sm wu79.2.2.2.1 (funext fun j => (fu82 283 rfl).2.1 j))
        have ku82 : dUP u82 := (dUP.sm wu79.2.2.2.2 (funext fun j => (fu82 286 rfl).2.1 j) (funext fun j => (fu82 287 rfl).2.1 j))
        refine lv_pop hx hb dL_law_413 rfl ?_
        refine lv_goto (tgt := 486) hx hb dL_law_414 (by decide) ?_
        refine lv_iinc (v := iv ((i + 6 : Nat) : Int)) (lv' := [(3, .int (iv ((i + 6 : Nat) : Int))), (2, .ref (G.2.2.1 + 231)), (1, .ref (G.2.2.1 + 0)), (0, .ref b)]) hx hb dL_law_486 hl (k := 0) rfl (by rw [show ((i + 6 : Nat) : Int) = (i : Int) + 6 by omega]; exact (Int32.ofInt_add _ _).symm) (by decide) rfl (fun ls hl => ?_)
        refine lv_goto (tgt := 18) hx hb dL_law_489 (by decide) ?_
        exact ih u82 (i + 6) H locs ls (by omega) (by omega) ⟨vu82, ⟨iu82, tu82, bu82, hu82, ku82⟩, (by omega), (by omega), (by omega), (fun j a b => by rw [(fu82 2 rfl).2.1 j, (fu82 232 rfl).2.1 j, (fu79 2 rfl).2.1 j, (fu79 232 rfl).2.1 j]; exact hAL j a (by omega)), (by omega), ⟨y, z, M, X, ((hLM.st (kpF (fu79.to pNz_N) (mdl_oN hmy) rfl) (by omega) (((fu79.to (fun k h => pN_A k (pNz_N k h))) 231 rfl).1 46) (((fu79.to (fun k h => pN_A k (pNz_N k h))) 231 rfl).1 47) (((fu79.to (fun k h => pN_A k (pNz_N k h))) 231 rfl).1 48) (((fu79.to (fun k h => pN_A k (pNz_N k h))) 231 rfl).1 49) (funext fun j => ((fu79.to (fun k h => pN_A k (pNz_N k h))) 259 rfl).2.1 j) (funext fun j => ((fu79.to (fun k h => pN_A k (pNz_N k h))) 260 rfl).2.2.1 j) (funext fun j => ((fu79.to (fun k h => pN_A k (pNz_N k h))) 290 rfl).2.2.1 j)).st (kpF fu82 (pl_m (by decide) hmy) rfl) (by omega) (gu82 46 rfl) (gu82 47 rfl) (gu82 48 rfl) (gu82 49 rfl) (funext fun j => (fu82 259 rfl).2.1 j) (funext fun j => (fu82 260 rfl).2.2.1 j) (funext fun j => (fu82 290 rfl).2.2.1 j)), (SLV.fr hSL (by omega) ((svE.of fu79 pSv_Nz).tr (svE.pl fu82 (by decide))) ((kpF (fu79.to pNz_N) (mdl_oN hmy) rfl).1.tq (kpF fu82 (pl_m (by decide) hmy) rfl).1) (((fu82 0 rfl).1 8).trans ((fu79 0 rfl).1 8)) ((gu82 61 rfl).trans (((fu79.to (fun k h => pN_A k (pNz_N k h))) 231 rfl).1 61)) (fun _ _ _ _ _ _ _ h => (XIr.sm (XIr.cls h (fu79.to (fun k h => pN_A k (pNz_N k h)))) (gu82 46 rfl) (gu82 47 rfl) (gu82 48 rfl) (gu82 49 rfl) (gu82 58 rfl) (gu82 59 rfl) (gu82 60 rfl) (gu82 61 rfl) (gu82 62 rfl) (gu82 65 rfl) (gu82 68 rfl) (gu82 69 rfl) (gu82 70 rfl) (gu82 71 rfl) (gu82 72 rfl) (gu82 78 rfl) (gu82 79 rfl) (gu82 84 rfl) (gu82 86 rfl) (funext fun j => (fu82 259 rfl).2.1 j) (funext fun j => (fu82 262 rfl).2.1 j) (funext fun j => (fu82 264 rfl).2.1 j) (funext fun j => (fu82 265 rfl).2.1 j) (funext fun j => (fu82 266 rfl).2.1 j) (funext fun j => (fu82 267 rfl).2.1 j) (funext fun j => (fu82 268 rfl).2.1 j) (funext fun j => (fu82 269 rfl).2.1 j) (funext fun j => (fu82 270 rfl).2.1 j) (funext fun j => (fu82 271 rfl).2.1 j) (funext fun j => (fu82 272 rfl).2.1 j) (funext fun j => (fu82 273 rfl).2.1 j) (funext fun j => (fu82 274 rfl).2.1 j) (funext fun j => (fu82 275 rfl).2.1 j) (funext fun j => (fu82 276 rfl).2.1 j) (funext fun j => (fu82 260 rfl).2.2.1 j) (funext fun j => (fu82 290 rfl).2.2.1 j))))⟩⟩ hW hL (lv_sub hl [0, 1, 2, 3] rfl)
      by_cases c85 : tt = 11
      · refine lv_tableIn (off := 384) (tgt := 417) hx hb dL_law_33 (by rw [c85]; decide) (by rw [c85]; decide) (by rw [c85]; decide) (by decide) ?_
        refine lv_aload_n hx hb dL_law_417 rfl (lv_at hl 2 rfl) ?_
        refine lv_aload_n hx hb dL_law_418 rfl (lv_at hl 3 rfl) ?_
        refine lv_iload_n hx hb dL_law_419 rfl (lv_at hl 0 rfl) ?_
        refine lv_iconst (v := iv 1) hx hb dL_law_420 (by decide) ?_
        refine r_iadd hx hb dL_law_421 ?_
        refine sSld Cx hX hbG hW (j := (i + 1)) (by rw [iv_clamp (by omega) (by omega)]; omega) (iv_inN (by omega) (by omega) (by omega)) dL_law_422 ?_
        rw [e1]
        refine lv_aload_n hx hb dL_law_423 rfl (lv_at hl 3 rfl) ?_
        refine lv_iload_n hx hb dL_law_424 rfl (lv_at hl 0 rfl) ?_
        refine lv_iconst (v := iv 2) hx hb dL_law_425 (by decide) ?_
        refine r_iadd hx hb dL_law_426 ?_
        refine sSld Cx hX hbG hW (j := (i + 2)) (by rw [iv_clamp (by omega) (by omega)]; omega) (iv_inN (by omega) (by omega) (by omega)) dL_law_427 ?_
        rw [e2]
        refine sBi (sV (As := [.int (iv a1), .int (iv a2)]) (rest := []) (k := 0) Cx (z_X11_told l G S (j := a1) (z := a2) hI.1 (by omega) (by omega)) (c_L_63 Cx rfl rfl ⟨Nat.le_of_ble_eq_true rfl, Nat.le_of_ble_eq_true rfl⟩) hW (by decide) rfl rfl rfl hl.1 rfl (Nat.le_of_ble_eq_true rfl) dL_law_428 ⟨Nat.le_of_ble_eq_true rfl, Nat.le_of_ble_eq_true rfl⟩) hL (fun r88 u86 H locs q87 hW hL => ?_)
        obtain ⟨iu86, fu86, xu86⟩ := q87
        have wu86 : LWr G u86 := LWr.cls ⟨hI.2.1.1, hI.2.1.2.1, hI.2.1.2.2.1, hI.2.1.2.2.2.1, hI.2.1.2.2.2.2⟩ (fu86.to (fun k h => pN_A k (pNz_N k h)))
        have zu86 : u86.1 231 1 = S.1 231 1 := ((fu86.to (fun k h => pN_A k (pNz_N k h))) 231 rfl).1 1
        have yu86 : u86.1 1 1 = S.1 1 1 := (fu86 1 rfl).1 1
        have pu86 : u86.1 231 45 = S.1 231 45 := ((fu86.to (fun k h => pN_A k (pNz_N k h))) 231 rfl).1 45
        have ou86 : u86.1 0 7 = S.1 0 7 := (fu86 0 rfl).1 7
        refine lv_pop hx hb dL_law_431 rfl ?_
        refine lv_aload_n hx hb dL_law_432 rfl (lv_at hl 1 rfl) ?_
        refine lv_aload_n hx hb dL_law_433 rfl (lv_at hl 3 rfl) ?_
        refine lv_iload_n hx hb dL_law_434 rfl (lv_at hl 0 rfl) ?_
        refine lv_iconst (v := iv 1) hx hb dL_law_435 (by decide) ?_
        refine r_iadd hx hb dL_law_436 ?_
        refine sSld Cx hX hbG hW (j := (i + 1)) (by rw [iv_clamp (by omega) (by omega)]; omega) (iv_inN (by omega) (by omega) (by omega)) dL_law_437 ?_
        rw [e1]
        refine lv_aload_n hx hb dL_law_438 rfl (lv_at hl 3 rfl) ?_
        refine lv_iload_n hx hb dL_law_439 rfl (lv_at hl 0 rfl) ?_
        refine lv_iconst (v := iv 2) hx hb dL_law_440 (by decide) ?_
        refine r_iadd hx hb dL_law_441 ?_
        refine sSld Cx hX hbG hW (j := (i + 2)) (by rw [iv_clamp (by omega) (by omega)]; omega) (iv_inN (by omega) (by omega) (by omega)) dL_law_442 ?_
        rw [e2]
        refine sBi (sV (As := [.int (iv a1), .int (iv a2)]) (rest := []) (k := 231) Cx (s_X12_told_ l G u86 (a := a1) (b := a2) wu86.1 (by omega) (by omega) wu86.2.1) (c_L_67 Cx rfl rfl ⟨Nat.le_of_ble_eq_true rfl, Nat.le_of_ble_eq_true rfl⟩) hW (by decide) rfl rfl rfl hl.1 rfl (Nat.le_of_ble_eq_true rfl) dL_law_443 ⟨Nat.le_of_ble_eq_true rfl, Nat.le_of_ble_eq_true rfl⟩) hL (fun r91 u89 H locs q90 hW hL => ?_)
        obtain ⟨iu89, fu89, gu89, xu89⟩ := q90
        have vu89 : cX G u89 0 0 0 := iu86.fr fu89 (pl_sub' (by decide))
        have yu89 : u89.1 1 1 = u86.1 1 1 := (fu89 1 rfl).1 1
        have zu89 : u89.1 231 1 = u86.1 231 1 := gu89 1 rfl
        have ou89 : u89.1 0 7 = u86.1 0 7 := (fu89 0 rfl).1 7
        have pu89 : u89.1 231 45 = u86.1 231 45 := gu89 45 rfl
        have tu89 : XI u89 := xu89
        have bu89 : RBn u89 := (fun x => by rw [(fu89 255 rfl).2.2.1 x]; exact wu86.2.2.1 x)
        have hu89 : dHA u89 := (dHA.sm wu86.2.2.2.1 (funext fun j => (fu89 283 rfl).2.1 j))
        have ku89 : dUP u89 := (dUP.sm wu86.2.2.2.2 (funext fun j => (fu89 286 rfl).2.1 j) (funext fun j => (fu89 287 rfl).2.1 j))
        refine lv_pop hx hb dL_law_446 rfl ?_
        refine lv_goto (tgt := 486) hx hb dL_law_447 (by decide) ?_
        refine lv_iinc (v := iv ((i + 6 : Nat) : Int)) (lv' := [(3, .int (iv ((i + 6 : Nat) : Int))), (2, .ref (G.2.2.1 + 231)), (1, .ref (G.2.2.1 + 0)), (0, .ref b)]) hx hb dL_law_486 hl (k := 0) rfl (by rw [show ((i + 6 : Nat) : Int) = (i : Int) + 6 by omega]; exact (Int32.ofInt_add _ _).symm) (by decide) rfl (fun ls hl => ?_)
        refine lv_goto (tgt := 18) hx hb dL_law_489 (by decide) ?_
        exact ih u89 (i + 6) H locs ls (by omega) (by omega) ⟨vu89, ⟨iu89, tu89, bu89, hu89, ku89⟩, (by omega), (by omega), (by omega), (fun j a b => by rw [(fu89 2 rfl).2.1 j, (fu89 232 rfl).2.1 j, (fu86 2 rfl).2.1 j, (fu86 232 rfl).2.1 j]; exact hAL j a (by omega)), (by omega), ⟨y, z, M, X, ((hLM.st (kpF (fu86.to pNz_N) (mdl_oN hmy) rfl) (by omega) (((fu86.to (fun k h => pN_A k (pNz_N k h))) 231 rfl).1 46) (((fu86.to (fun k h => pN_A k (pNz_N k h))) 231 rfl).1 47) (((fu86.to (fun k h => pN_A k (pNz_N k h))) 231 rfl).1 48) (((fu86.to (fun k h => pN_A k (pNz_N k h))) 231 rfl).1 49) (funext fun j => ((fu86.to (fun k h => pN_A k (pNz_N k h))) 259 rfl).2.1 j) (funext fun j => ((fu86.to (fun k h => pN_A k (pNz_N k h))) 260 rfl).2.2.1 j) (funext fun j => ((fu86.to (fun k h => pN_A k (pNz_N k h))) 290 rfl).2.2.1 j)).st (kpF fu89 (pl_m (by decide) hmy) rfl) (by omega) (gu89 46 rfl) (gu89 47 rfl) (gu89 48 rfl) (gu89 49 rfl) (funext fun j => (fu89 259 rfl).2.1 j) (funext fun j => (fu89 260 rfl).2.2.1 j) (funext fun j => (fu89 290 rfl).2.2.1 j)), (SLV.fr hSL (by omega) ((svE.of fu86 pSv_Nz).tr (svE.pl fu89 (by decide))) ((kpF (fu86.to pNz_N) (mdl_oN hmy) rfl).1.tq (kpF fu89 (pl_m (by decide) hmy) rfl).1) (((fu89 0 rfl).1 8).trans ((fu86 0 rfl).1 8)) ((gu89 61 rfl).trans (((fu86.to (fun k h => pN_A k (pNz_N k h))) 231 rfl).1 61)) (fun _ _ _ _ _ _ _ h => (XIr.sm (XIr.cls h (fu86.to (fun k h => pN_A k (pNz_N k h)))) (gu89 46 rfl) (gu89 47 rfl) (gu89 48 rfl) (gu89 49 rfl) (gu89 58 rfl) (gu89 59 rfl) (gu89 60 rfl) (gu89 61 rfl) (gu89 62 rfl) (gu89 65 rfl) (gu89 68 rfl) (gu89 69 rfl) (gu89 70 rfl) (gu89 71 rfl) (gu89 72 rfl) (gu89 78 rfl) (gu89 79 rfl) (gu89 84 rfl) (gu89 86 rfl) (funext fun j => (fu89 259 rfl).2.1 j) (funext fun j => (fu89 262 rfl).2.1 j) (funext fun j => (fu89 264 rfl).2.1 j) (funext fun j => (fu89 265 rfl).2.1 j) (funext fun j => (fu89 266 rfl).2.1 j) (funext fun j => (fu89 267 rfl).2.1 j) (funext fun j => (fu89 268 rfl).2.1 j) (funext fun j => (fu89 269 rfl).2.1 j) (funext fun j => (fu89 270 rfl).2.1 j) (funext fun j => (fu89 271 rfl).2.1 j) (funext fun j => (fu89 272 rfl).2.1 j) (funext fun j => (fu89 273 rfl).2.1 j) (funext fun j => (fu89 274 rfl).2.1 j) (funext fun j => (fu89 275 rfl).2.1 j) (funext fun j => (fu89 276 rfl).2.1 j) (funext fun j => (fu89 260 rfl).2.2.1 j) (funext fun j => (fu89 290 rfl).2.2.1 j))))⟩⟩ hW hL (lv_sub hl [0, 1, 2, 3] rfl)
      by_cases c92 : tt = 12
      · refine lv_tableIn (off := 417) (tgt := 450) hx hb dL_law_33 (by rw [c92]; decide) (by rw [c92]; decide) (by rw [c92]; decide) (by decide) ?_
        refine lv_aload_n hx hb dL_law_450 rfl (lv_at hl 2 rfl) ?_
        refine lv_aload_n hx hb dL_law_451 rfl (lv_at hl 3 rfl) ?_
        refine lv_iload_n hx hb dL_law_452 rfl (lv_at hl 0 rfl) ?_
        refine lv_iconst (v := iv 1) hx hb dL_law_453 (by decide) ?_
        refine r_iadd hx hb dL_law_454 ?_
        refine sSld Cx hX hbG hW (j := (i + 1)) (by rw [iv_clamp (by omega) (by omega)]; omega) (iv_inN (by omega) (by omega) (by omega)) dL_law_455 ?_
        rw [e1]
        refine sBi (sV (As := [.int (iv a1)]) (rest := []) (k := 0) Cx (v_X11_proof l G S (k := a1) (n := nz) (mx := xz) (al := az) (A := Az) (wh := wz) (Wm := Wz) hI.1 (by omega) (fun q z => ((hCI.2.1 q).2 z).2) (fun q z => ((hCI.2.1 q).1 z).1) hJz hn12z) (c_L_68 Cx rfl rfl ⟨Nat.le_of_ble_eq_true rfl, Nat.le_of_ble_eq_true rfl⟩) hW (by decide) rfl rfl rfl hl.1 rfl (Nat.le_of_ble_eq_true rfl) dL_law_456 ⟨Nat.le_of_ble_eq_true rfl, Nat.le_of_ble_eq_true rfl⟩) hL (fun r95 u93 H locs q94 hW hL => ?_)
        obtain ⟨eu93, xu93⟩ := q94
        rw [eu93] at hW
        refine lv_aload_n hx hb dL_law_459 rfl (lv_at hl 1 rfl) ?_
        refine lv_aload_n hx hb dL_law_460 rfl (lv_at hl 3 rfl) ?_
        refine lv_iload_n hx hb dL_law_461 rfl (lv_at hl 0 rfl) ?_
        refine lv_iconst (v := iv 1) hx hb dL_law_462 (by decide) ?_
        refine r_iadd hx hb dL_law_463 ?_
        refine sSld Cx hX hbG hW (j := (i + 1)) (by rw [iv_clamp (by omega) (by omega)]; omega) (iv_inN (by omega) (by omega) (by omega)) dL_law_464 ?_
        rw [e1]
        refine sBi (sV (As := [.int (iv a1)]) (rest := [.int (iv r95)]) (k := 231) Cx (re_X12_proof l G S (a := a1) (n := nz) (mx := xz) (Wm := Wz) hI.2.1.1 (by omega) hI.2.1.2.1 (fun q z => (hXr.2 q).2 z) (fun q => by have a := hXr.1 q; by_cases z : S.1 231 70 = 0; (exact (a.1 z).2.2.1); (exact (a.2 z).2.2.1))) (c_L_71 Cx rfl rfl ⟨Nat.le_of_ble_eq_true rfl, Nat.le_of_ble_eq_true rfl⟩) hW (by decide) rfl rfl rfl hl.1 rfl (Nat.le_of_ble_eq_true rfl) dL_law_465 ⟨Nat.le_of_ble_eq_true rfl, Nat.le_of_ble_eq_true rfl⟩) hL (fun r98 u96 H locs q97 hW hL => ?_)
        obtain ⟨eu96, xu96⟩ := q97
        rw [eu96] at hW
        have hpq : r95 = r98 := SLV.pf hfz rfl xu93 xu96
        refine lv_icmp_eq (tgt := 486) hx hb dL_law_468 (by decide) (fun _ => ?_) (fun c => absurd (congrArg iv hpq) c)
        refine lv_iinc (v := iv ((i + 6 : Nat) : Int)) (lv' := [(3, .int (iv ((i + 6 : Nat) : Int))), (2, .ref (G.2.2.1 + 231)), (1, .ref (G.2.2.1 + 0)), (0, .ref b)]) hx hb dL_law_486 hl (k := 0) rfl (by rw [show ((i + 6 : Nat) : Int) = (i : Int) + 6 by omega]; exact (Int32.ofInt_add _ _).symm) (by decide) rfl (fun ls hl => ?_)
        refine lv_goto (tgt := 18) hx hb dL_law_489 (by decide) ?_
        exact ih S (i + 6) H locs ls (by omega) (by omega) ⟨hI.1, ⟨hI.2.1.1, hI.2.1.2.1, hI.2.1.2.2.1, hI.2.1.2.2.2.1, hI.2.1.2.2.2.2⟩, (by omega), (by omega), (by omega), hAL, (by omega), ⟨y, z, M, X, hLM, (SLV.up hSL (by omega))⟩⟩ hW hL (lv_sub hl [0, 1, 2, 3] rfl)
      by_cases c99 : tt = 13
      · refine lv_tableIn (off := 440) (tgt := 473) hx hb dL_law_33 (by rw [c99]; decide) (by rw [c99]; decide) (by rw [c99]; decide) (by decide) ?_
        refine lv_aload_n hx hb dL_law_473 rfl (lv_at hl 2 rfl) ?_
        refine sBi (sV (As := []) (rest := []) (k := 0) Cx (f_X11_check l G S  (y := y) hI.1 hmy) (c_L_72 Cx rfl rfl ⟨Nat.le_of_ble_eq_true rfl, Nat.le_of_ble_eq_true rfl⟩) hW (by decide) rfl rfl rfl hl.1 rfl (Nat.le_of_ble_eq_true rfl) dL_law_474 ⟨Nat.le_of_ble_eq_true rfl, Nat.le_of_ble_eq_true rfl⟩) hL (fun r102 u100 H locs q101 hW hL => ?_)
        obtain ⟨iu100, fu100, xu100⟩ := q101
        have wu100 : LWr G u100 := LWr.cls ⟨hI.2.1.1, hI.2.1.2.1, hI.2.1.2.2.1, hI.2.1.2.2.2.1, hI.2.1.2.2.2.2⟩ (fu100.to pZz_A)
        have zu100 : u100.1 231 1 = S.1 231 1 := ((fu100.to pZz_A) 231 rfl).1 1
        have pu100 : u100.1 231 45 = S.1 231 45 := ((fu100.to pZz_A) 231 rfl).1 45
        have ou100 := xu100.2.1
        have ocu100 := xu100.1
        refine lv_pop hx hb dL_law_477 rfl ?_
        refine lv_aload_n hx hb dL_law_478 rfl (lv_at hl 1 rfl) ?_
        refine sBi (sV (As := []) (rest := []) (k := 231) Cx (s_X12_check l G u100  wu100.1 wu100.2.1 (by omega) wu100.2.2.2.1 wu100.2.2.2.2) (c_L_75 Cx rfl rfl ⟨Nat.le_of_ble_eq_true rfl, Nat.le_of_ble_eq_true rfl⟩) hW (by decide) rfl rfl rfl hl.1 rfl (Nat.le_of_ble_eq_true rfl) dL_law_479 ⟨Nat.le_of_ble_eq_true rfl, Nat.le_of_ble_eq_true rfl⟩) hL (fun r105 u103 H locs q104 hW hL => ?_)
        obtain ⟨iu103, fu103, gu103, xu103⟩ := q104
        have vu103 : cX G u103 0 0 0 := iu100.fr fu103 (pl_sub' (by decide))
        have yu103 : u103.1 1 1 = u100.1 1 1 := (fu103 1 rfl).1 1
        have ou103 : u103.1 0 7 = u100.1 0 7 := (fu103 0 rfl).1 7
        have pu103 : u103.1 231 45 = u100.1 231 45 := gu103 45 rfl
        have ocu103 := xu103.2.2.2
        have tu103 : XI u103 := xu103.1
        have bu103 : RBn u103 := (fun x => by rw [(fu103 255 rfl).2.2.1 x]; exact wu100.2.2.1 x)
        have hu103 : dHA u103 := xu103.2.1
        have ku103 : dUP u103 := xu103.2.2.1
        refine lv_pop hx hb dL_law_482 rfl ?_
        refine lv_goto (tgt := 486) hx hb dL_law_483 (by decide) ?_
        refine lv_iinc (v := iv ((i + 6 : Nat) : Int)) (lv' := [(3, .int (iv ((i + 6 : Nat) : Int))), (2, .ref (G.2.2.1 + 231)), (1, .ref (G.2.2.1 + 0)), (0, .ref b)]) hx hb dL_law_486 hl (k := 0) rfl (by rw [show ((i + 6 : Nat) : Int) = (i : Int) + 6 by omega]; exact (Int32.ofInt_add _ _).symm) (by decide) rfl (fun ls hl => ?_)
        refine lv_goto (tgt := 18) hx hb dL_law_489 (by decide) ?_
        exact ih u103 (i + 6) H locs ls (by omega) (by omega) ⟨vu103, ⟨iu103, tu103, bu103, hu103, ku103⟩, (by omega), (by omega), (by omega), (fun j a b => absurd b (by omega)), (by omega), ⟨y, z, M, X, ((hLM.st xu100.2.2.2 (by omega) (((fu100.to pZz_A) 231 rfl).1 46) (((fu100.to pZz_A) 231 rfl).1 47) (((fu100.to pZz_A) 231 rfl).1 48) (((fu100.to pZz_A) 231 rfl).1 49) (funext fun j => ((fu100.to pZz_A) 259 rfl).2.1 j) (funext fun j => ((fu100.to pZz_A) 260 rfl).2.2.1 j) (funext fun j => ((fu100.to pZz_A) 290 rfl).2.2.1 j)).st (kpF fu103 (pl_m (by decide) hmy) rfl) (by omega) (gu103 46 rfl) (gu103 47 rfl) (gu103 48 rfl) (gu103 49 rfl) (funext fun j => (fu103 259 rfl).2.1 j) (funext fun j => (fu103 260 rfl).2.2.1 j) (funext fun j => (fu103 290 rfl).2.2.1 j)), (SLV.fr hSL (by omega) ((svE.of fu100 pSv_Zz).tr (svE.pl fu103 (by decide))) (xu100.2.2.2.1.tq (kpF fu103 (pl_m (by decide) hmy) rfl).1) (((fu103 0 rfl).1 8).trans xu100.2.2.1) ((gu103 61 rfl).trans (((fu100.to pZz_A) 231 rfl).1 61)) (fun _ _ _ _ _ _ _ h => (XIr.sm (XIr.cls h (fu100.to pZz_A)) (gu103 46 rfl) (gu103 47 rfl) (gu103 48 rfl) (gu103 49 rfl) (gu103 58 rfl) (gu103 59 rfl) (gu103 60 rfl) (gu103 61 rfl) (gu103 62 rfl) (gu103 65 rfl) (gu103 68 rfl) (gu103 69 rfl) (gu103 70 rfl) (gu103 71 rfl) (gu103 72 rfl) (gu103 78 rfl) (gu103 79 rfl) (gu103 84 rfl) (gu103 86 rfl) (funext fun j => (fu103 259 rfl).2.1 j) (funext fun j => (fu103 262 rfl).2.1 j) (funext fun j => (fu103 264 rfl).2.1 j) (funext fun j => (fu103 265 rfl).2.1 j) (funext fun j => (fu103 266 rfl).2.1 j) (funext fun j => (fu103 267 rfl).2.1 j) (funext fun j => (fu103 268 rfl).2.1 j) (funext fun j => (fu103 269 rfl).2.1 j) (funext fun j => (fu103 270 rfl).2.1 j) (funext fun j => (fu103 271 rfl).2.1 j) (funext fun j => (fu103 272 rfl).2.1 j) (funext fun j => (fu103 273 rfl).2.1 j) (funext fun j => (fu103 274 rfl).2.1 j) (funext fun j => (fu103 275 rfl).2.1 j) (funext fun j => (fu103 276 rfl).2.1 j) (funext fun j => (fu103 260 rfl).2.2.1 j) (funext fun j => (fu103 290 rfl).2.2.1 j))))⟩⟩ hW hL (lv_sub hl [0, 1, 2, 3] rfl)
      refine lv_tableOut (tgt := 486) hx hb dL_law_33 (by rw [iv_toInt ⟨(by omega), (by omega)⟩]; omega) (by decide) ?_
      refine lv_iinc (v := iv ((i + 6 : Nat) : Int)) (lv' := [(3, .int (iv ((i + 6 : Nat) : Int))), (2, .ref (G.2.2.1 + 231)), (1, .ref (G.2.2.1 + 0)), (0, .ref b)]) hx hb dL_law_486 hl (k := 0) rfl (by rw [show ((i + 6 : Nat) : Int) = (i : Int) + 6 by omega]; exact (Int32.ofInt_add _ _).symm) (by decide) rfl (fun ls hl => ?_)
      refine lv_goto (tgt := 18) hx hb dL_law_489 (by decide) ?_
      exact ih S (i + 6) H locs ls (by omega) (by omega) ⟨hI.1, ⟨hI.2.1.1, hI.2.1.2.1, hI.2.1.2.2.1, hI.2.1.2.2.2.1, hI.2.1.2.2.2.2⟩, (by omega), (by omega), (by omega), hAL, (by omega), ⟨y, z, M, X, hLM, (SLV.up hSL (by omega))⟩⟩ hW hL (lv_sub hl [0, 1, 2, 3] rfl)
