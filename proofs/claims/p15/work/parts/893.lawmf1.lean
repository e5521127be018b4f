/-! The law's loop: what holds between the calls -/
def LWr (G : sG) (S : sS) : Prop := dX G S ∧ XI S ∧ RBn S ∧ dHA S ∧ dUP S
def LWi (G : sG) (S : sS) : Prop := cX G S 0 0 0 ∧ LWr G S ∧ S.1 1 1 = S.1 231 1 ∧ 0 ≤ S.1 231 1 ∧ S.1 231 1 ≤ 30000
theorem iv_inN {a : Int} {N : Nat} (h0 : 0 ≤ a) (h1 : a < N) (hN : N ≤ 2147483647) : vp_in (iv a) N := iv_in h0 h1 hN
theorem beginXI {S u : sS} {r : Int} (h : XI S) (x : (0 ≤ r ∧ r ≤ 1) ∧ Hd (r = 0 → u = S) ∧ Hd (r = 1 → GI u ∧ u.1 231 61 = 1 ∧ u.1 231 70 = 0)) : XI u := by
  rcases (by omega : r = 0 ∨ r = 1) with q | q
  · rw [x.2.1 q]; exact h
  · have y := x.2.2 q
    exact ⟨y.1.1.1.1, by omega, fun _ _ => y.1, fun _ z => absurd (y.2.2.symm.trans z) (by decide), fun z => absurd z (by omega)⟩

def LW8 (G : sG) (S : sS) : Prop := cX G S 0 0 0 ∧ LWr G S ∧ S.1 1 1 = S.1 231 1 ∧ 0 ≤ S.1 231 1 ∧ S.1 231 1 ≤ 30000 ∧ (∀ j, 0 ≤ j → j < S.1 231 1 → S.2.1 2 j = S.2.1 232 j) ∧ S.1 0 7 = S.1 231 45
/-! The model and its numbers in the two programs -/
def LMy (G : sG) (S : sS) (y z : Nat) (M : sM) (X : sX) : Prop := mdl y ∧ mdl z ∧ Hd (y ≠ z) ∧ (S.2.2.2 0 5 = .ref (G.2.2.1 + y) ∧ S.2.2.2 0 6 = .ref (G.2.2.1 + z)) ∧ Hd (S.1 0 7 ≠ 0 → MSc S y M ∧ XAc S y 1 X ∧ MDr S M.2.2.2.1 M.2.2.2.2.2.1 M.2.2.2.2.2.2.1 X.1 X.2 ∧ wct X.2 M.2.2.2.1.toNat ≤ M.2.2.2.1)
theorem MSc.fr {S u : sS} {y : Nat} {M : sM} (h : MSc S y M) (o : OTc S u y) : MSc u y M := by
  unfold MSc; rw [o.1, o.2.1, o.2.2.1, o.2.2.2.1]; exact h
theorem XAc.fr {S u : sS} {y : Nat} {g : Int} {X : sX} (h : XAc S y g X) (o : OTc S u y) : XAc u y g X := XAc.of h o.1 o.2.1 o.2.2.2.2 o.2.2.2.1
theorem LMy.st {G : sG} {S u : sS} {y z : Nat} {M : sM} {X : sX} (h : LMy G S y z M X) (k : OTc S u y ∧ u.2.2.2 0 5 = S.2.2.2 0 5 ∧ u.2.2.2 0 6 = S.2.2.2 0 6) (h7 : u.1 0 7 = S.1 0 7) (m6 : u.1 231 46 = S.1 231 46) (m7 : u.1 231 47 = S.1 231 47) (m8 : u.1 231 48 = S.1 231 48) (m9 : u.1 231 49 = S.1 231 49) (a9 : u.2.1 259 = S.2.1 259) (l0 : u.2.2.1 260 = S.2.2.1 260) (l9 : u.2.2.1 290 = S.2.2.1 290) : LMy G u y z M X := by
  obtain ⟨a, b, c, d, e⟩ := h
  refine ⟨a, b, c, ⟨k.2.1.trans d.1, k.2.2.trans d.2⟩, fun q => ?_⟩
  obtain ⟨e1, e2, e3, e4⟩ := e (by rw [← h7]; exact q)
  exact ⟨e1.fr k.1, e2.fr k.1, e3.sm m6 m7 m8 m9 a9 l0 l9, e4⟩
theorem LMy.mdv {G : sG} {S : sS} {y z : Nat} {M : sM} {X : sX} (h : LMy G S y z M X) (h7 : S.1 0 7 ≠ 0) : MDv S y M.2.2.2.1 M.2.2.2.2.2.1 M.2.2.2.2.2.2.1 X.1 X.2 := by
  obtain ⟨e1, e2, _, _⟩ := (show _ → _ from h.2.2.2.2) h7
  have e := XAc.md e2
  rw [e1.1, e1.2.1, e1.2.2.1] at e
  exact e
theorem LMy.mdr {G : sG} {S : sS} {y z : Nat} {M : sM} {X : sX} (h : LMy G S y z M X) (h7 : S.1 0 7 ≠ 0) : MDr S M.2.2.2.1 M.2.2.2.2.2.1 M.2.2.2.2.2.2.1 X.1 X.2 ∧ wct X.2 M.2.2.2.1.toNat ≤ M.2.2.2.1 := by
  obtain ⟨_, _, e3, e4⟩ := (show _ → _ from h.2.2.2.2) h7
  exact ⟨e3, e4⟩
theorem OTc.fr {S u : sS} {y : Nat} {P : Nat → Bool} (f : Fr S u P) (a : P y = false) (b : P (y + 2) = false) (c : P (y + 1) = false) : OTc S u y := ⟨(f y a).1 2, (f y a).1 3, (f y a).1 4, funext fun x => (f (y + 2) b).2.1 x, funext fun x => (f (y + 1) c).2.1 x⟩
theorem kpF {S u : sS} {y : Nat} {P : Nat → Bool} (f : Fr S u P) (ab : P y = false ∧ P (y + 2) = false ∧ P (y + 1) = false) (c : P 0 = false) : OTc S u y ∧ u.2.2.2 0 5 = S.2.2.2 0 5 ∧ u.2.2.2 0 6 = S.2.2.2 0 6 := ⟨OTc.fr f ab.1 ab.2.1 ab.2.2, (f 0 c).2.2.2 5, (f 0 c).2.2.2 6⟩
theorem pl_lo {L : List Nat} (h : L.all (fun k => Nat.ble 231 k) = true) {y : Nat} (hy : y < 231) : pl L y = false := by
  cases e : pl L y with
  | false => rfl
  | true =>
    have q := List.all_eq_true.mp h
    unfold pl at e
    obtain ⟨x, hx, e⟩ := List.any_eq_true.mp e
    have z := Nat.le_of_ble_eq_true (q x hx)
    rw [← Nat.eq_of_beq_eq_true e] at z
    exact absurd z (by omega)
theorem pl_m {L : List Nat} (h : L.all (fun k => Nat.ble 231 k) = true) {y : Nat} (m : mdl y) : pl L y = false ∧ pl L (y + 2) = false ∧ pl L (y + 1) = false := ⟨pl_lo h (mdl_k m), pl_lo h m.2.2.2.1, pl_lo h (by have := m.2.2.2.1; omega)⟩
theorem mdl_oN {o : Nat} (m : mdl o) : pN o = false ∧ pN (o + 2) = false ∧ pN (o + 1) = false := by
  have a : ∀ o, o < 231 → tau o = .inl 3 → pN o = false ∧ pN (o + 2) = false ∧ pN (o + 1) = false := by decide +kernel
  exact a o (mdl_k m) m.1
theorem mdl_oB {o : Nat} (m : mdl o) : pB 1 o = false ∧ pB 1 (o + 2) = false ∧ pB 1 (o + 1) = false := by
  have a : ∀ o, o < 231 → tau o = .inl 3 → pB 1 o = false ∧ pB 1 (o + 2) = false ∧ pB 1 (o + 1) = false := by decide +kernel
  exact a o (mdl_k m) m.1
theorem LMy.z {G : sG} {S : sS} (h : cX G S 0 0 0) (h7 : S.1 0 7 = 0) : ∃ y z M X, LMy G S y z M X := by
  rcases h.rm.1 with q | q
  · exact ⟨5, 8, M00, X00, mdl_of (by decide) rfl, mdl_of (by decide) rfl, (show (5 : Nat) ≠ 8 by decide), q, fun e => absurd h7 e⟩
  · exact ⟨8, 5, M00, X00, mdl_of (by decide) rfl, mdl_of (by decide) rfl, (show (8 : Nat) ≠ 5 by decide), q, fun e => absurd h7 e⟩
/-- texts that say the same are judged the same -/
theorem HOLDB.al {n m mx : Int} {A : Int → Int → Int} {wh B C : Int → Int} {len len2 r s : Int} (h : HOLDB n m mx A wh B len r) (g : HOLDB n m mx A wh C len2 s) (e : len2 = len) (c : ∀ i, 0 ≤ i → i < len → chE (B i) (C i)) : r = s := by
  subst e
  obtain ⟨T, kp, vp, t, h⟩ := h
  exact HOLDB.one ⟨T, kp, vp, t.cg c, h⟩ g
theorem chE_m {x y : Int} (h : -128 ≤ x ∧ x ≤ 127) (e : y = x) : chE (x % 256) y := by unfold chE; omega
def LWk (G : sG) (S : sS) : Prop := cX G S 0 0 0 ∧ LWr G S ∧ S.1 1 1 = S.1 231 1 ∧ 0 ≤ S.1 231 1 ∧ S.1 231 1 ≤ 30000 ∧ (∀ j, 0 ≤ j → j < S.1 231 1 → S.2.1 2 j = S.2.1 232 j) ∧ S.1 0 7 = S.1 231 45 ∧ ∃ y z M X, LMy G S y z M X
/-! THE CLAIM OUT OF ONE WALK OF THE LAW'S BODY. Your part is whole_start (and what it stands on); all else here is the same for every law, but numbers. -/
def R_law : String := "OptimumHouseLaw"
def lw_P (b : Addr) (xs : List Int32) (args : Array Value) (s : State) : Prop := args = #[.ref b] ∧ s.IntsAt b xs ∧ xs.length ≤ 3072 ∧ (Jvm.Cond.and given_1 narrow_1).before args s = true
def lw_Q (_ : Array Value) (s : State) (o : Outcome) (t : State) : Prop := o = .returned (some (.int 1)) ∧ Framed s o t [] 600000 7302250
def lw_Z (below : List Frame) (a : Array Value) (s : State) : State → Prop := fun t => ∃ o, t.status = .running ∧ Ended t below o ∧ lw_Q a s o t
/-- the law's own end, with 1 on the stack, nothing written that was there before, its room as the claim has it -/
theorem lw_ret {p : Program} {l : Launch} {e : Env} {s : State} {m : MethodId} {below : List Frame} {meth : Method} {c : Code} {b : Nat} (hx : p.tables.exec = Jvm.exec) (hb : c.code = code) (hr : meth.sig.returnType = ret) (hlocks : meth.locks = false) {pc : Nat} {H : Heap} {ls : Array Slot} (hdg : decode code pc = .ok (.ireturn, 1)) : W p l e room_1 s m #[Value.ref b] below meth c H [] 600000 7302250 (lw_Z below #[Value.ref b] s) (F0 m pc ls [.int 1]) := by
  intro T hT X
  obtain ⟨fs, hret, hrun, hended, hW, hframe⟩ := X.leave (v := some (.int 1)) (hlocks := hlocks) (fun h => by rw [hr] at h; cases h)
  have hmeth' : T.vm.method? m = some meth := X.method'
  refine ⟨T.setFrames fs, ?_, .returned (some (.int 1)), hrun, hended, rfl, ⟨_, rfl⟩, hW, hframe⟩
  jvm_step X.here [X.here.top, hx, hb, hdg, hmeth', hr, ret, narrow_b1]
  (try refine ⟨rfl, ?_⟩); (try refine ⟨rfl, ?_⟩)
  first | (intro acts; rw [hret _ acts rfl rfl rfl]) | rw [hret _ _ rfl rfl rfl]
  exact Steps.refl _
/-- what holds at the law's entry: the machine, the code, the tables' words (any of lw_tbl by 'hts w (by decide +kernel)'), the script of L ints xs at the cell b, what the Statement gives of the start (any of its parts by flat_of_before) -/
def lw_At (p : Program) (s : State) (m : MethodId) (meth : Method) (c : Code) (b L : Nat) (xs : Nat → Int32) : Prop :=
  p.tables.exec = Jvm.exec ∧ c.code = code ∧ meth.sig.returnType = ret ∧ c.maxLocals = 4 ∧ s.vm.findClass R_law = some m.cls ∧ (∀ w ∈ lw_tbl, w.before #[Value.ref b] s = true) ∧ va_X b L xs s s.heap ∧ b < s.heap.size ∧ meth.locks = false ∧ (Jvm.Cond.and given_1 narrow_1).before #[Value.ref b] s = true

theorem LWr.cls {G : sG} {S u : sS} (h : LWr G S) (f : Fr S u pA) : LWr G u := ⟨h.1.fr f (fun k hk => by have := rgB_t hk; omega), XI.sm h.2.1 ((f 231 rfl).1 46) ((f 231 rfl).1 47) ((f 231 rfl).1 48) ((f 231 rfl).1 58) ((f 231 rfl).1 59) ((f 231 rfl).1 60) ((f 231 rfl).1 61) ((f 231 rfl).1 62) ((f 231 rfl).1 63) ((f 231 rfl).1 65) ((f 231 rfl).1 68) ((f 231 rfl).1 69) ((f 231 rfl).1 70) ((f 231 rfl).1 71) ((f 231 rfl).1 72) ((f 231 rfl).1 78) ((f 231 rfl).1 79) ((f 231 rfl).1 84) ((f 231 rfl).1 86) (funext fun j => (f 261 rfl).2.1 j) (funext fun j => (f 262 rfl).2.1 j) (funext fun j => (f 264 rfl).2.1 j) (funext fun j => (f 265 rfl).2.1 j) (funext fun j => (f 266 rfl).2.1 j) (funext fun j => (f 267 rfl).2.1 j) (funext fun j => (f 268 rfl).2.1 j) (funext fun j => (f 269 rfl).2.1 j) (funext fun j => (f 270 rfl).2.1 j) (funext fun j => (f 271 rfl).2.1 j) (funext fun j => (f 272 rfl).2.1 j) (funext fun j => (f 273 rfl).2.1 j) (funext fun j => (f 274 rfl).2.1 j) (funext fun j => (f 260 rfl).2.2.1 j) (funext fun j => (f 290 rfl).2.2.1 j), (fun x => by rw [(f 255 rfl).2.2.1 x]; exact h.2.2.1 x), dHA.sm h.2.2.2.1 (funext fun j => (f 283 rfl).2.1 j), dUP.sm h.2.2.2.2 (funext fun j => (f 286 rfl).2.1 j) (funext fun j => (f 287 rfl).2.1 j)⟩

theorem pB1_A : ∀ k, pB 1 k = true → pA k = true := fun k h => by
  unfold pB at h; unfold pA
  rcases Bool.or_eq_true _ _ ▸ h with q | q
  · rw [Nat.eq_of_beq_eq_true q]; rfl
  · rw [Nat.eq_of_beq_eq_true q]; rfl
theorem pl_sub' {L : List Nat} (h : L.all (fun k => Nat.ble 231 k) = true) : ∀ k, pl L k = true → 231 ≤ k := fun k hk => by
  have q := List.all_eq_true.mp h
  unfold pl at hk
  obtain ⟨x, hx, e⟩ := List.any_eq_true.mp hk
  rw [Nat.eq_of_beq_eq_true e]; exact Nat.le_of_ble_eq_true (q x hx)

set_option maxHeartbeats 40000000 in
set_option maxRecDepth 100000 in
theorem law_loop {p : Program} {e : Env} {s : State} {m : MethodId} {below : List Frame} {meth : Method} {c : Code} (l : Launch) {b L : Nat} {xs : Nat → Int32} {G : sG} (hL6 : L ≤ 3072) (hr : meth.sig.returnType = ret) (hlocks : meth.locks = false) (Cx : sC G p m c cL_law 4 s #[Value.ref b] RL) (hX : va_X b L xs s G.2.2.2) (hbG : b < G.2.2.1) (hsz : s.heap.size ≤ G.2.2.1) : ∀ (fuel : Nat) (S : sS) (i : Nat) (H : Heap) (locs : List Loc) (ls : Array Slot), L - i < fuel → i ≤ L → LWk G S → sW G 294 S H → sL G locs → lv_has ls 4 [(3, .int (iv (i : Int))), (2, .ref (G.2.2.1 + 231)), (1, .ref (G.2.2.1 + 0)), (0, .ref b)] → W p l e room_1 s m #[Value.ref b] below meth c H locs 294 735483 (lw_Z below #[Value.ref b] s) (F0 m 18 ls []) := by
  obtain ⟨hx, hb, hml, hown, hts⟩ := id Cx.1
  intro fuel
  induction fuel with
  | zero => intro S i H locs ls hf _; exact absurd hf (Nat.not_lt_zero _)
  | succ fuel ih =>
    intro S i H locs ls hf hiL hI hW hL hl
    have ht1 := hI.2.2.1; have ht2 := hI.2.2.2.1; have ht3 := hI.2.2.2.2.1; have hAL := hI.2.2.2.2.2.1; have hHM := hI.2.2.2.2.2.2.1
    obtain ⟨y, z, M, X, hLM⟩ := hI.2.2.2.2.2.2.2
    have hmy := hLM.1; have hmz := hLM.2.1; have hny := hLM.2.2.1; have h56 := hLM.2.2.2.1
    obtain ⟨a0, e0, l0, m0⟩ := iv_of (xs i)
    obtain ⟨a1, e1, l1, m1⟩ := iv_of (xs (i + 1))
    obtain ⟨a2, e2, l2, m2⟩ := iv_of (xs (i + 2))
    obtain ⟨a3, e3, l3, m3⟩ := iv_of (xs (i + 3))
    obtain ⟨a4, e4, l4, m4⟩ := iv_of (xs (i + 4))
    obtain ⟨a5, e5, l5, m5⟩ := iv_of (xs (i + 5))
    refine lv_iload_n hx hb dL_law_18 rfl (lv_at hl 0 rfl) ?_
    refine lv_aload_n hx hb dL_law_19 rfl (lv_at hl 3 rfl) ?_
    refine sSlen Cx hX hbG hW dL_law_20 ?_
    refine lv_bipush (v := iv 6) hx hb dL_law_21 (by decide) ?_
    refine r_isub hx hb dL_law_23 ?_
    refine r_icmp_gt (tgt := 492) hx hb ⟨(by omega), (by omega)⟩ ⟨(by omega), (by omega)⟩ dL_law_24 (by decide) (fun c1 => ?_) (fun c1 => ?_)
    · refine lv_iconst (v := 1) hx hb dL_law_492 (by decide) ?_
      refine va_forget (fun q hq => Nat.le_trans hsz (hL q hq)) ?_
      refine W.widen (k := 600000) (n := 7302250) (Nat.le_of_ble_eq_true rfl) (Nat.le_of_ble_eq_true rfl) ?_
      exact lw_ret hx hb hr hlocks dL_law_493
    · refine lv_aload_n hx hb dL_law_27 rfl (lv_at hl 3 rfl) ?_
      refine lv_iload_n hx hb dL_law_28 rfl (lv_at hl 0 rfl) ?_
      refine sSld Cx hX hbG hW (j := i) (by rw [iv_clamp (by omega) (by omega)]; omega) (iv_inN (by omega) (by omega) (by omega)) dL_law_29 ?_
      rw [e0]
      refine lv_bipush (v := iv 15) hx hb dL_law_30 (by decide) ?_
      refine lv_iand hx hb dL_law_32 ?_
      obtain ⟨tt, ett, ltt, htt⟩ := iv_of (iv a0 &&& iv 15)
      rw [ett]
      by_cases c2 : tt = 0
      · refine lv_tableIn (off := 71) (tgt := 104) hx hb dL_law_33 (by rw [c2]; decide) (by rw [c2]; decide) (by rw [c2]; decide) (by decide) ?_
        refine lv_aload_n hx hb dL_law_104 rfl (lv_at hl 2 rfl) ?_
        refine lv_aload_n hx hb dL_law_105 rfl (lv_at hl 3 rfl) ?_
        refine lv_iload_n hx hb dL_law_106 rfl (lv_at hl 0 rfl) ?_
        refine lv_iconst (v := iv 1) hx hb dL_law_107 (by decide) ?_
        refine r_iadd hx hb dL_law_108 ?_
        refine sSld Cx hX hbG hW (j := (i + 1)) (by rw [iv_clamp (by omega) (by omega)]; omega) (iv_inN (by omega) (by omega) (by omega)) dL_law_109 ?_
        rw [e1]
        refine lv_aload_n hx hb dL_law_110 rfl (lv_at hl 3 rfl) ?_
        refine lv_iload_n hx hb dL_law_111 rfl (lv_at hl 0 rfl) ?_
        refine lv_iconst (v := iv 2) hx hb dL_law_112 (by decide) ?_
        refine r_iadd hx hb dL_law_113 ?_
        refine sSld Cx hX hbG hW (j := (i + 2)) (by rw [iv_clamp (by omega) (by omega)]; omega) (iv_inN (by omega) (by omega) (by omega)) dL_law_114 ?_
        rw [e2]
        refine lv_aload_n hx hb dL_law_115 rfl (lv_at hl 3 rfl) ?_
        refine lv_iload_n hx hb dL_law_116 rfl (lv_at hl 0 rfl) ?_
        refine lv_iconst (v := iv 3) hx hb dL_law_117 (by decide) ?_
        refine r_iadd hx hb dL_law_118 ?_
        refine sSld Cx hX hbG hW (j := (i + 3)) (by rw [iv_clamp (by omega) (by omega)]; omega) (iv_inN (by omega) (by omega) (by omega)) dL_law_119 ?_
        rw [e3]
        refine lv_aload_n hx hb dL_law_120 rfl (lv_at hl 3 rfl) ?_
        refine lv_iload_n hx hb dL_law_121 rfl (lv_at hl 0 rfl) ?_
        refine lv_iconst (v := iv 4) hx hb dL_law_122 (by decide) ?_
        refine r_iadd hx hb dL_law_123 ?_
        refine sSld Cx hX hbG hW (j := (i + 4)) (by rw [iv_clamp (by omega) (by omega)]; omega) (iv_inN (by omega) (by omega) (by omega)) dL_law_124 ?_
        rw [e4]
        refine lv_aload_n hx hb dL_law_125 rfl (lv_at hl 3 rfl) ?_
        refine lv_iload_n hx hb dL_law_126 rfl (lv_at hl 0 rfl) ?_
        refine lv_iconst (v := iv 5) hx hb dL_law_127 (by decide) ?_
        refine r_iadd hx hb dL_law_128 ?_
        refine sSld Cx hX hbG hW (j := (i + 5)) (by rw [iv_clamp (by omega) (by omega)]; omega) (iv_inN (by omega) (by omega) (by omega)) dL_law_129 ?_
        rw [e5]
        refine sBi (sV (As := [.int (iv a1), .int (iv a2), .int (iv a3), .int (iv a4), .int (iv a5)]) (rest := []) (k := 0) Cx (e_X11_feed l G S (a := a1) (b := a2) (c1 := a3) (d1 := a4) (e1 := a5) hI.1 (by omega) (by omega) (by omega) (by omega) (by omega)) (c_L_13 Cx rfl rfl ⟨Nat.le_of_ble_eq_true rfl, Nat.le_of_ble_eq_true rfl⟩) hW (by decide) rfl rfl rfl hl.1 rfl (Nat.le_of_ble_eq_true rfl) dL_law_130 ⟨Nat.le_of_ble_eq_true rfl, Nat.le_of_ble_eq_true rfl⟩) hL (fun r5 u3 H locs q4 hW hL => ?_)
        obtain ⟨iu3, fu3, xu3⟩ := q4
        have wu3 : LWr G u3 := LWr.cls ⟨hI.2.1.1, hI.2.1.2.1, hI.2.1.2.2.1, hI.2.1.2.2.2.1, hI.2.1.2.2.2.2⟩ (fu3.to pB1_A)
        have zu3 : u3.1 231 1 = S.1 231 1 := ((fu3.to pB1_A) 231 rfl).1 1
        have pu3 : u3.1 231 45 = S.1 231 45 := ((fu3.to pB1_A) 231 rfl).1 45
        have ou3 : u3.1 0 7 = S.1 0 7 := (fu3 0 rfl).1 7
        have ocu3 := xu3.1
        refine lv_pop hx hb dL_law_133 rfl ?_
        refine lv_aload_n hx hb dL_law_134 rfl (lv_at hl 1 rfl) ?_
        refine lv_aload_n hx hb dL_law_135 rfl (lv_at hl 3 rfl) ?_
        refine lv_iload_n hx hb dL_law_136 rfl (lv_at hl 0 rfl) ?_
        refine lv_iconst (v := iv 1) hx hb dL_law_137 (by decide) ?_
        refine r_iadd hx hb dL_law_138 ?_
        refine sSld Cx hX hbG hW (j := (i + 1)) (by rw [iv_clamp (by omega) (by omega)]; omega) (iv_inN (by omega) (by omega) (by omega)) dL_law_139 ?_
        rw [e1]
        refine lv_aload_n hx hb dL_law_140 rfl (lv_at hl 3 rfl) ?_
        refine lv_iload_n hx hb dL_law_141 rfl (lv_at hl 0 rfl) ?_
        refine lv_iconst (v := iv 2) hx hb dL_law_142 (by decide) ?_
        refine r_iadd hx hb dL_law_143 ?_
        refine sSld Cx hX hbG hW (j := (i + 2)) (by rw [iv_clamp (by omega) (by omega)]; omega) (iv_inN (by omega) (by omega) (by omega)) dL_law_144 ?_
        rw [e2]
        refine lv_aload_n hx hb dL_law_145 rfl (lv_at hl 3 rfl) ?_
        refine lv_iload_n hx hb dL_law_146 rfl (lv_at hl 0 rfl) ?_
        refine lv_iconst (v := iv 3) hx hb dL_law_147 (by decide) ?_
        refine r_iadd hx hb dL_law_148 ?_
        refine sSld Cx hX hbG hW (j := (i + 3)) (by rw [iv_clamp (by omega) (by omega)]; omega) (iv_inN (by omega) (by omega) (by omega)) dL_law_149 ?_
        rw [e3]
        refine lv_aload_n hx hb dL_law_150 rfl (lv_at hl 3 rfl) ?_
        refine lv_iload_n hx hb dL_law_151 rfl (lv_at hl 0 rfl) ?_
        refine lv_iconst (v := iv 4) hx hb dL_law_152 (by decide) ?_
        refine r_iadd hx hb dL_law_153 ?_
        refine sSld Cx hX hbG hW (j := (i + 4)) (by rw [iv_clamp (by omega) (by omega)]; omega) (iv_inN (by omega) (by omega) (by omega)) dL_law_154 ?_
        rw [e4]
        refine lv_aload_n hx hb dL_law_155 rfl (lv_at hl 3 rfl) ?_
        refine lv_iload_n hx hb dL_law_156 rfl (lv_at hl 0 rfl) ?_
        refine lv_iconst (v := iv 5) hx hb dL_law_157 (by decide) ?_
        refine r_iadd hx hb dL_law_158 ?_
        refine sSld Cx hX hbG hW (j := (i + 5)) (by rw [iv_clamp (by omega) (by omega)]; omega) (iv_inN (by omega) (by omega) (by omega)) dL_law_159 ?_
        rw [e5]
        refine sBi (sV (As := [.int (iv a1), .int (iv a2), .int (iv a3), .int (iv a4), .int (iv a5)]) (rest := []) (k := 231) Cx (e_X12_feed l G u3 (a := a1) (b := a2) (c1 := a3) (d1 := a4) (e1 := a5) wu3.1 (by omega) (by omega) (by omega) (by omega) (by omega) (by omega)) (c_L_17 Cx rfl rfl ⟨Nat.le_of_ble_eq_true rfl, Nat.le_of_ble_eq_true rfl⟩) hW (by decide) rfl rfl rfl hl.1 rfl (Nat.le_of_ble_eq_true rfl) dL_law_160 ⟨Nat.le_of_ble_eq_true rfl, Nat.le_of_ble_eq_true rfl⟩) hL (fun r8 u6 H locs q7 hW hL => ?_)
        obtain ⟨iu6, fu6, gu6, xu6⟩ := q7
        have vu6 : cX G u6 0 0 0 := iu3.fr fu6 (pl_sub' (by decide))
        have yu6 : u6.1 1 1 = u3.1 1 1 := (fu6 1 rfl).1 1
        have ou6 : u6.1 0 7 = u3.1 0 7 := (fu6 0 rfl).1 7
        have pu6 : u6.1 231 45 = u3.1 231 45 := gu6 45 rfl
        have ocu6 := xu6.1
        have tu6 : XI u6 := (XI.sm wu3.2.1 (gu6 46 rfl) (gu6 47 rfl) (gu6 48 rfl) (gu6 58 rfl) (gu6 59 rfl) (gu6 60 rfl) (gu6 61 rfl) (gu6 62 rfl) (gu6 63 rfl) (gu6 65 rfl) (gu6 68 rfl) (gu6 69 rfl) (gu6 70 rfl) (gu6 71 rfl) (gu6 72 rfl) (gu6 78 rfl) (gu6 79 rfl) (gu6 84 rfl) (gu6 86 rfl) (funext fun j => (fu6 261 rfl).2.1 j) (funext fun j => (fu6 262 rfl).2.1 j) (funext fun j => (fu6 264 rfl).2.1 j) (funext fun j => (fu6 265 rfl).2.1 j) (funext fun j => (fu6 266 rfl).2.1 j) (funext fun j => (fu6 267 rfl).2.1 j) (funext fun j => (fu6 268 rfl).2.1 j) (funext fun j => (fu6 269 rfl).2.1 j) (funext fun j => (fu6 270 rfl).2.1 j) (funext fun j => (fu6 271 rfl).2.1 j) (funext fun j => (fu6 272 rfl).2.1 j) (funext fun j => (fu6 273 rfl).2.1 j) (funext fun j => (fu6 274 rfl).2.1 j) (funext fun j => (fu6 260 rfl).2.2.1 j) (funext fun j => (fu6 290 rfl).2.2.1 j))
        have bu6 : RBn u6 := (fun x => by rw [(fu6 255 rfl).2.2.1 x]; exact wu3.2.2.1 x)
        have hu6 : dHA u6 := (dHA.sm wu3.2.2.2.1 (funext fun j => (fu6 283 rfl).2.1 j))
        have ku6 : dUP u6 := (dUP.sm wu3.2.2.2.2 (funext fun j => (fu6 286 rfl).2.1 j) (funext fun j => (fu6 287 rfl).2.1 j))
        refine lv_pop hx hb dL_law_163 rfl ?_
        refine lv_goto (tgt := 486) hx hb dL_law_164 (by decide) ?_
        refine lv_iinc (v := iv ((i + 6 : Nat) : Int)) (lv' := [(3, .int (iv ((i + 6 : Nat) : Int))), (2, .ref (G.2.2.1 + 231)), (1, .ref (G.2.2.1 + 0)), (0, .ref b)]) hx hb dL_law_486 hl (k := 0) rfl (by rw [show ((i + 6 : Nat) : Int) = (i : Int) + 6 by omega]; exact (Int32.ofInt_add _ _).symm) (by decide) rfl (fun ls hl => ?_)
        refine lv_goto (tgt := 18) hx hb dL_law_489 (by decide) ?_
        exact ih u6 (i + 6) H locs ls (by omega) (by omega) ⟨vu6, ⟨iu6, tu6, bu6, hu6, ku6⟩, (by omega), (by omega), (by omega), (fun j a b => by by_cases z : S.1 1 1 + 20 ≤ 30000; (have q1 := xu3.2.2 z; have q2 := xu6.2.2 (by omega); rw [show u3.1 231 1 = S.1 1 1 by omega] at q2; have e := q1.al q2 (fun j a b => (hAL j a (by omega)).trans ((fu3 232 rfl).2.1 j).symm); rw [(fu6 2 rfl).2.1 j]; exact e j a (by omega)); (rw [(fu6 2 rfl).2.1 j, xu3.2.1 (by omega), xu6.2.1 (by omega), (fu3 232 rfl).2.1 j]; exact hAL j a (by omega))), (by omega), ⟨y, z, M, X, ((hLM.st (kpF fu3 (mdl_oB hmy) rfl) (by omega) (((fu3.to pB1_A) 231 rfl).1 46) (((fu3.to pB1_A) 231 rfl).1 47) (((fu3.to pB1_A) 231 rfl).1 48) (((fu3.to pB1_A) 231 rfl).1 49) (funext fun j => ((fu3.to pB1_A) 259 rfl).2.1 j) (funext fun j => ((fu3.to pB1_A) 260 rfl).2.2.1 j) (funext fun j => ((fu3.to pB1_A) 290 rfl).2.2.1 j)).st (kpF fu6 (pl_m (by decide) hmy) rfl) (by omega) (gu6 46 rfl) (gu6 47 rfl) (gu6 48 rfl) (gu6 49 rfl) (funext fun j => (fu6 259 rfl).2.1 j) (funext fun j => (fu6 260 rfl).2.2.1 j) (funext fun j => (fu6 290 rfl).2.2.1 j))⟩⟩ hW hL (lv_sub hl [0, 1, 2, 3] rfl)
      by_cases c9 : tt = 1
      · refine lv_tableIn (off := 134) (tgt := 167) hx hb dL_law_33 (by rw [c9]; decide) (by rw [c9]; decide) (by rw [c9]; decide) (by decide) ?_
        refine lv_aload_n hx hb dL_law_167 rfl (lv_at hl 2 rfl) ?_
        refine lv_aload_n hx hb dL_law_168 rfl (lv_at hl 3 rfl) ?_
        refine lv_iload_n hx hb dL_law_169 rfl (lv_at hl 0 rfl) ?_
        refine lv_iconst (v := iv 1) hx hb dL_law_170 (by decide) ?_
        refine r_iadd hx hb dL_law_171 ?_
        refine sSld Cx hX hbG hW (j := (i + 1)) (by rw [iv_clamp (by omega) (by omega)]; omega) (iv_inN (by omega) (by omega) (by omega)) dL_law_172 ?_
        rw [e1]
        refine sBi (sV (As := [.int (iv a1)]) (rest := []) (k := 0) Cx (e_X11_end l G S (n := a1) hI.1 (by omega)) (c_L_18 Cx rfl rfl ⟨Nat.le_of_ble_eq_true rfl, Nat.le_of_ble_eq_true rfl⟩) hW (by decide) rfl rfl rfl hl.1 rfl (Nat.le_of_ble_eq_true rfl) dL_law_173 ⟨Nat.le_of_ble_eq_true rfl, Nat.le_of_ble_eq_true rfl⟩) hL (fun r12 u10 H locs q11 hW hL => ?_)
        obtain ⟨iu10, fu10, xu10⟩ := q11
        have wu10 : LWr G u10 := LWr.cls ⟨hI.2.1.1, hI.2.1.2.1, hI.2.1.2.2.1, hI.2.1.2.2.2.1, hI.2.1.2.2.2.2⟩ (fu10.to pB1_A)
        have zu10 : u10.1 231 1 = S.1 231 1 := ((fu10.to pB1_A) 231 rfl).1 1
        have pu10 : u10.1 231 45 = S.1 231 45 := ((fu10.to pB1_A) 231 rfl).1 45
        have ou10 : u10.1 0 7 = S.1 0 7 := (fu10 0 rfl).1 7
        have ocu10 := xu10.1
        refine lv_pop hx hb dL_law_176 rfl ?_
        refine lv_aload_n hx hb dL_law_177 rfl (lv_at hl 1 rfl) ?_
        refine lv_aload_n hx hb dL_law_178 rfl (lv_at hl 3 rfl) ?_
        refine lv_iload_n hx hb dL_law_179 rfl (lv_at hl 0 rfl) ?_
        refine lv_iconst (v := iv 1) hx hb dL_law_180 (by decide) ?_
        refine r_iadd hx hb dL_law_181 ?_
        refine sSld Cx hX hbG hW (j := (i + 1)) (by rw [iv_clamp (by omega) (by omega)]; omega) (iv_inN (by omega) (by omega) (by omega)) dL_law_182 ?_
        rw [e1]
        refine sBi (sV (As := [.int (iv a1)]) (rest := []) (k := 231) Cx (e_X12_end l G u10 (k := a1) wu10.1 (by omega) (by omega)) (c_L_22 Cx rfl rfl ⟨Nat.le_of_ble_eq_true rfl, Nat.le_of_ble_eq_true rfl⟩) hW (by decide) rfl rfl rfl hl.1 rfl (Nat.le_of_ble_eq_true rfl) dL_law_183 ⟨Nat.le_of_ble_eq_true rfl, Nat.le_of_ble_eq_true rfl⟩) hL (fun r15 u13 H locs q14 hW hL => ?_)
        obtain ⟨iu13, fu13, gu13, xu13⟩ := q14
        have vu13 : cX G u13 0 0 0 := iu10.fr fu13 (pl_sub' (by decide))
        have yu13 : u13.1 1 1 = u10.1 1 1 := (fu13 1 rfl).1 1
        have ou13 : u13.1 0 7 = u10.1 0 7 := (fu13 0 rfl).1 7
        have pu13 : u13.1 231 45 = u10.1 231 45 := gu13 45 rfl
        have tu13 : XI u13 := (XI.sm wu10.2.1 (gu13 46 rfl) (gu13 47 rfl) (gu13 48 rfl) (gu13 58 rfl) (gu13 59 rfl) (gu13 60 rfl) (gu13 61 rfl) (gu13 62 rfl) (gu13 63 rfl) (gu13 65 rfl) (gu13 68 rfl) (gu13 69 rfl) (gu13 70 rfl) (gu13 71 rfl) (gu13 72 rfl) (gu13 78 rfl) (gu13 79 rfl) (gu13 84 rfl) (gu13 86 rfl) (funext fun j => (fu13 261 rfl).2.1 j) (funext fun j => (fu13 262 rfl).2.1 j) (funext fun j => (fu13 264 rfl).2.1 j) (funext fun j => (fu13 265 rfl).2.1 j) (funext fun j => (fu13 266 rfl).2.1 j) (funext fun j => (fu13 267 rfl).2.1 j) (funext fun j => (fu13 268 rfl).2.1 j) (funext fun j => (fu13 269 rfl).2.1 j) (funext fun j => (fu13 270 rfl).2.1 j) (funext fun j => (fu13 271 rfl).2.1 j) (funext fun j => (fu13 272 rfl).2.1 j) (funext fun j => (fu13 273 rfl).2.1 j) (funext fun j => (fu13 274 rfl).2.1 j) (funext fun j => (fu13 260 rfl).2.2.1 j) (funext fun j => (fu13 290 rfl).2.2.1 j))
        have bu13 : RBn u13 := (fun x => by rw [(fu13 255 rfl).2.2.1 x]; exact wu10.2.2.1 x)
        have hu13 : dHA u13 := (dHA.sm wu10.2.2.2.1 (funext fun j => (fu13 283 rfl).2.1 j))
        have ku13 : dUP u13 := (dUP.sm wu10.2.2.2.2 (funext fun j => (fu13 286 rfl).2.1 j) (funext fun j => (fu13 287 rfl).2.1 j))
        refine lv_pop hx hb dL_law_186 rfl ?_
        refine lv_goto (tgt := 486) hx hb dL_law_187 (by decide) ?_
        refine lv_iinc (v := iv ((i + 6 : Nat) : Int)) (lv' := [(3, .int (iv ((i + 6 : Nat) : Int))), (2, .ref (G.2.2.1 + 231)), (1, .ref (G.2.2.1 + 0)), (0, .ref b)]) hx hb dL_law_486 hl (k := 0) rfl (by rw [show ((i + 6 : Nat) : Int) = (i : Int) + 6 by omega]; exact (Int32.ofInt_add _ _).symm) (by decide) rfl (fun ls hl => ?_)
        refine lv_goto (tgt := 18) hx hb dL_law_489 (by decide) ?_
        exact ih u13 (i + 6) H locs ls (by omega) (by omega) ⟨vu13, ⟨iu13, tu13, bu13, hu13, ku13⟩, (by omega), (by omega), (by omega), (fun j a b => by rw [(fu13 2 rfl).2.1 j, xu10.2, (fu13 232 rfl).2.1 j, (fu10 232 rfl).2.1 j]; exact hAL j a (by omega)), (by omega), ⟨y, z, M, X, ((hLM.st (kpF fu10 (mdl_oB hmy) rfl) (by omega) (((fu10.to pB1_A) 231 rfl).1 46) (((fu10.to pB1_A) 231 rfl).1 47) (((fu10.to pB1_A) 231 rfl).1 48) (((fu10.to pB1_A) 231 rfl).1 49) (funext fun j => ((fu10.to pB1_A) 259 rfl).2.1 j) (funext fun j => ((fu10.to pB1_A) 260 rfl).2.2.1 j) (funext fun j => ((fu10.to pB1_A) 290 rfl).2.2.1 j)).st (kpF fu13 (pl_m (by decide) hmy) rfl) (by omega) (gu13 46 rfl) (gu13 47 rfl) (gu13 48 rfl) (gu13 49 rfl) (funext fun j => (fu13 259 rfl).2.1 j) (funext fun j => (fu13 260 rfl).2.2.1 j) (funext fun j => (fu13 290 rfl).2.2.1 j))⟩⟩ hW hL (lv_sub hl [0, 1, 2, 3] rfl)
      by_cases c16 : tt = 2
      · refine lv_tableIn (off := 157) (tgt := 190) hx hb dL_law_33 (by rw [c16]; decide) (by rw [c16]; decide) (by rw [c16]; decide) (by decide) ?_
        refine lv_aload_n hx hb dL_law_190 rfl (lv_at hl 2 rfl) ?_
        refine sBi (sV (As := []) (rest := []) (k := 0) Cx (f_X11_tell l G S  (b := S.2.1 2) (y := y) (z := z) hI.1 hmz hmy hny h56 (fun j _ _ => rfl)) (c_L_23 Cx rfl rfl ⟨Nat.le_of_ble_eq_true rfl, Nat.le_of_ble_eq_true rfl⟩) hW (by decide) rfl rfl rfl hl.1 rfl (Nat.le_of_ble_eq_true rfl) dL_law_191 ⟨Nat.le_of_ble_eq_true rfl, Nat.le_of_ble_eq_true rfl⟩) hL (fun r19 u17 H locs q18 hW hL => ?_)
        obtain ⟨iu17, fu17, xu17⟩ := q18
        have wu17 : LWr G u17 := LWr.cls ⟨hI.2.1.1, hI.2.1.2.1, hI.2.1.2.2.1, hI.2.1.2.2.2.1, hI.2.1.2.2.2.2⟩ fu17
        have zu17 : u17.1 231 1 = S.1 231 1 := (fu17 231 rfl).1 1
        have pu17 : u17.1 231 45 = S.1 231 45 := (fu17 231 rfl).1 45
        have ocu17 := xu17.1
        refine lv_pop hx hb dL_law_194 rfl ?_
        refine lv_aload_n hx hb dL_law_195 rfl (lv_at hl 1 rfl) ?_
        refine sBi (sV (As := []) (rest := []) (k := 231) Cx (f_X12_tell l G u17  (b := S.2.1 2) wu17.1 wu17.2.1 (by omega) wu17.2.2.1 (fun j a c => ((fu17 232 rfl).2.1 j).trans (hAL j a (by omega)).symm)) (c_L_27 Cx rfl rfl ⟨Nat.le_of_ble_eq_true rfl, Nat.le_of_ble_eq_true rfl⟩) hW (by decide) rfl rfl rfl hl.1 rfl (Nat.le_of_ble_eq_true rfl) dL_law_196 ⟨Nat.le_of_ble_eq_true rfl, Nat.le_of_ble_eq_true rfl⟩) hL (fun r22 u20 H locs q21 hW hL => ?_)
        obtain ⟨iu20, fu20, gu20, xu20⟩ := q21
        have vu20 : cX G u20 0 0 0 := iu17.fr fu20 (pl_sub' (by decide))
        have yu20 : u20.1 1 1 = u17.1 1 1 := (fu20 1 rfl).1 1
        have ou20 : u20.1 0 7 = u17.1 0 7 := (fu20 0 rfl).1 7
        have ocu20 := xu20.2.2.1
        have mu20 : u20.1 0 7 = u20.1 231 45 := (by have n1 : u17.1 231 1 = S.1 1 1 := (by omega); have p1 := xu17.2.2; have p2 := xu20.2.2.2; rw [n1] at p2; by_cases zz : tOK (S.2.1 2) (S.1 1 1); (have a1 : r19 = 0 := (by by_cases y : r19 = 0; (exact y); (exact absurd zz (p1.2 y).1)); have a2 : r22 = 0 := (by by_cases y : r22 = 0; (exact y); (exact absurd zz (p2.2 y).1)); have c1 := (p1.1 a1).2.1; have c2 := (p2.1 a2).2; omega); (have a1 : r19 ≠ 0 := (fun y => zz ((p1.1 y).1.elim fun _ h => h.elim fun _ h => h.1.om.ok)); have a2 : r22 ≠ 0 := (fun y => zz ((p2.1 y).1.elim fun _ h => h.elim fun _ h => h.1.om.ok)); have c1 := (p1.2 a1).2.1; have c2 := (p2.2 a2).2.1; omega))
        have tu20 : XI u20 := xu20.1
        have bu20 : RBn u20 := xu20.2.1
        have hu20 : dHA u20 := (dHA.sm wu17.2.2.2.1 (funext fun j => (fu20 283 rfl).2.1 j))
        have ku20 : dUP u20 := (dUP.sm wu17.2.2.2.2 (funext fun j => (fu20 286 rfl).2.1 j) (funext fun j => (fu20 287 rfl).2.1 j))
        refine lv_pop hx hb dL_law_199 rfl ?_
        refine lv_goto (tgt := 486) hx hb dL_law_200 (by decide) ?_
        refine lv_iinc (v := iv ((i + 6 : Nat) : Int)) (lv' := [(3, .int (iv ((i + 6 : Nat) : Int))), (2, .ref (G.2.2.1 + 231)), (1, .ref (G.2.2.1 + 0)), (0, .ref b)]) hx hb dL_law_486 hl (k := 0) rfl (by rw [show ((i + 6 : Nat) : Int) = (i : Int) + 6 by omega]; exact (Int32.ofInt_add _ _).symm) (by decide) rfl (fun ls hl => ?_)
        refine lv_goto (tgt := 18) hx hb dL_law_489 (by decide) ?_
        exact ih u20 (i + 6) H locs ls (by omega) (by omega) ⟨vu20, ⟨iu20, tu20, bu20, hu20, ku20⟩, (by omega), (by omega), (by omega), (fun j a b => absurd b (by omega)), (by omega), (by have n1 : u17.1 231 1 = S.1 1 1 := (by omega); have p1 := xu17.2.2; have p2 := xu20.2.2.2; rw [n1] at p2; by_cases zz : tOK (S.2.1 2) (S.1 1 1); (have a1 : r19 = 0 := (by by_cases y : r19 = 0; (exact y); (exact absurd zz (p1.2 y).1)); have a2 : r22 = 0 := (by by_cases y : r22 = 0; (exact y); (exact absurd zz (p2.2 y).1)); obtain ⟨⟨M1, X1, t1, s1, w1⟩, h7, q5, q6⟩ := p1.1 a1; obtain ⟨⟨M2, X2, t2, _, d2, w2⟩, h45⟩ := p2.1 a2; obtain ⟨eM, eX⟩ := t1.one t2; subst eM; subst eX; exact ⟨z, y, M1, X1, hmz, hmy, (fun e => hny e.symm), ⟨(kpF fu20 (pl_m (by decide) hmz) rfl).2.1.trans q5, (kpF fu20 (pl_m (by decide) hmz) rfl).2.2.trans q6⟩, (fun _ => ⟨s1.fr (kpF fu20 (pl_m (by decide) hmz) rfl).1, w1.fr (kpF fu20 (pl_m (by decide) hmz) rfl).1, d2, w2⟩)⟩); (have a1 : r19 ≠ 0 := (fun y => zz ((p1.1 y).1.elim fun _ h => h.elim fun _ h => h.1.om.ok)); have a2 : r22 ≠ 0 := (fun y => zz ((p2.1 y).1.elim fun _ h => h.elim fun _ h => h.1.om.ok)); have c1 := p1.2 a1; have c2 := p2.2 a2; exact ⟨y, z, M, X, (hLM.st c1.2.2 c1.2.1 ((fu17 231 rfl).1 46) ((fu17 231 rfl).1 47) ((fu17 231 rfl).1 48) ((fu17 231 rfl).1 49) (funext fun j => (fu17 259 rfl).2.1 j) (funext fun j => (fu17 260 rfl).2.2.1 j) (funext fun j => (fu17 290 rfl).2.2.1 j)).st (kpF fu20 (pl_m (by decide) hmy) rfl) (by omega) c2.2.2.1 c2.2.2.2.1 c2.2.2.2.2.1 c2.2.2.2.2.2.1 c2.2.2.2.2.2.2.1 c2.2.2.2.2.2.2.2.1 c2.2.2.2.2.2.2.2.2⟩))⟩ hW hL (lv_sub hl [0, 1, 2, 3] rfl)
      by_cases c23 : tt = 3
      · refine lv_tableIn (off := 170) (tgt := 203) hx hb dL_law_33 (by rw [c23]; decide) (by rw [c23]; decide) (by rw [c23]; decide) (by decide) ?_
        refine lv_aload_n hx hb dL_law_203 rfl (lv_at hl 2 rfl) ?_
        refine lv_aload_n hx hb dL_law_204 rfl (lv_at hl 3 rfl) ?_
        refine lv_iload_n hx hb dL_law_205 rfl (lv_at hl 0 rfl) ?_
        refine lv_iconst (v := iv 1) hx hb dL_law_206 (by decide) ?_
        refine r_iadd hx hb dL_law_207 ?_
        refine sSld Cx hX hbG hW (j := (i + 1)) (by rw [iv_clamp (by omega) (by omega)]; omega) (iv_inN (by omega) (by omega) (by omega)) dL_law_208 ?_
        rw [e1]
        refine sBi (sV (As := [.int (iv a1)]) (rest := []) (k := 0) Cx (s_X11_fault l G S (k := a1) hI.1 (by omega)) (c_L_28 Cx rfl rfl ⟨Nat.le_of_ble_eq_true rfl, Nat.le_of_ble_eq_true rfl⟩) hW (by decide) rfl rfl rfl hl.1 rfl (Nat.le_of_ble_eq_true rfl) dL_law_209 ⟨Nat.le_of_ble_eq_true rfl, Nat.le_of_ble_eq_true rfl⟩) hL (fun r26 u24 H locs q25 hW hL => ?_)
        obtain ⟨eu24, xu24⟩ := q25
        rw [eu24] at hW
        refine lv_pop hx hb dL_law_212 rfl ?_
        refine lv_aload_n hx hb dL_law_213 rfl (lv_at hl 1 rfl) ?_
        refine lv_aload_n hx hb dL_law_214 rfl (lv_at hl 3 rfl) ?_
        refine lv_iload_n hx hb dL_law_215 rfl (lv_at hl 0 rfl) ?_
        refine lv_iconst (v := iv 1) hx hb dL_law_216 (by decide) ?_
        refine r_iadd hx hb dL_law_217 ?_
        refine sSld Cx hX hbG hW (j := (i + 1)) (by rw [iv_clamp (by omega) (by omega)]; omega) (iv_inN (by omega) (by omega) (by omega)) dL_law_218 ?_
        rw [e1]
        refine sBi (sV (As := [.int (iv a1)]) (rest := []) (k := 231) Cx (s_X12_fault l G S (a := a1) hI.2.1.1 (by omega)) (c_L_32 Cx rfl rfl ⟨Nat.le_of_ble_eq_true rfl, Nat.le_of_ble_eq_true rfl⟩) hW (by decide) rfl rfl rfl hl.1 rfl (Nat.le_of_ble_eq_true rfl) dL_law_219 ⟨Nat.le_of_ble_eq_true rfl, Nat.le_of_ble_eq_true rfl⟩) hL (fun r29 u27 H locs q28 hW hL => ?_)
        have eu27 := q28
        rw [eu27] at hW
        refine lv_pop hx hb dL_law_222 rfl ?_
        refine lv_goto (tgt := 486) hx hb dL_law_223 (by decide) ?_
        refine lv_iinc (v := iv ((i + 6 : Nat) : Int)) (lv' := [(3, .int (iv ((i + 6 : Nat) : Int))), (2, .ref (G.2.2.1 + 231)), (1, .ref (G.2.2.1 + 0)), (0, .ref b)]) hx hb dL_law_486 hl (k := 0) rfl (by rw [show ((i + 6 : Nat) : Int) = (i : Int) + 6 by omega]; exact (Int32.ofInt_add _ _).symm) (by decide) rfl (fun ls hl => ?_)
        refine lv_goto (tgt := 18) hx hb dL_law_489 (by decide) ?_
        exact ih S (i + 6) H locs ls (by omega) (by omega) ⟨hI.1, ⟨hI.2.1.1, hI.2.1.2.1, hI.2.1.2.2.1, hI.2.1.2.2.2.1, hI.2.1.2.2.2.2⟩, (by omega), (by omega), (by omega), hAL, (by omega), ⟨y, z, M, X, hLM⟩⟩ hW hL (lv_sub hl [0, 1, 2, 3] rfl)
      by_cases c30 : tt = 4
      · refine lv_tableIn (off := 193) (tgt := 226) hx hb dL_law_33 (by rw [c30]; decide) (by rw [c30]; decide) (by rw [c30]; decide) (by decide) ?_
        refine lv_aload_n hx hb dL_law_226 rfl (lv_at hl 2 rfl) ?_
        refine lv_aload_n hx hb dL_law_227 rfl (lv_at hl 3 rfl) ?_
        refine lv_iload_n hx hb dL_law_228 rfl (lv_at hl 0 rfl) ?_
        refine lv_iconst (v := iv 1) hx hb dL_law_229 (by decide) ?_
        refine r_iadd hx hb dL_law_230 ?_
        refine sSld Cx hX hbG hW (j := (i + 1)) (by rw [iv_clamp (by omega) (by omega)]; omega) (iv_inN (by omega) (by omega) (by omega)) dL_law_231 ?_
        rw [e1]
        refine sBi (sV (As := [.int (iv a1)]) (rest := []) (k := 0) Cx (f_X11_size l G S (k := a1) (y := y) hI.1 (by omega) hmy h56.1) (c_L_33 Cx rfl rfl ⟨Nat.le_of_ble_eq_true rfl, Nat.le_of_ble_eq_true rfl⟩) hW (by decide) rfl rfl rfl hl.1 rfl (Nat.le_of_ble_eq_true rfl) dL_law_232 ⟨Nat.le_of_ble_eq_true rfl, Nat.le_of_ble_eq_true rfl⟩) hL (fun r33 u31 H locs q32 hW hL => ?_)
        obtain ⟨eu31, xu31⟩ := q32
        rw [eu31] at hW
        refine lv_pop hx hb dL_law_235 rfl ?_
        refine lv_aload_n hx hb dL_law_236 rfl (lv_at hl 1 rfl) ?_
        refine lv_aload_n hx hb dL_law_237 rfl (lv_at hl 3 rfl) ?_
        refine lv_iload_n hx hb dL_law_238 rfl (lv_at hl 0 rfl) ?_
        refine lv_iconst (v := iv 1) hx hb dL_law_239 (by decide) ?_
        refine r_iadd hx hb dL_law_240 ?_
        refine sSld Cx hX hbG hW (j := (i + 1)) (by rw [iv_clamp (by omega) (by omega)]; omega) (iv_inN (by omega) (by omega) (by omega)) dL_law_241 ?_
        rw [e1]
        refine sBi (sV (As := [.int (iv a1)]) (rest := []) (k := 231) Cx (f_X12_size l G S (a := a1) hI.2.1.1 (by omega)) (c_L_36 Cx rfl rfl ⟨Nat.le_of_ble_eq_true rfl, Nat.le_of_ble_eq_true rfl⟩) hW (by decide) rfl rfl rfl hl.1 rfl (Nat.le_of_ble_eq_true rfl) dL_law_242 ⟨Nat.le_of_ble_eq_true rfl, Nat.le_of_ble_eq_true rfl⟩) hL (fun r36 u34 H locs q35 hW hL => ?_)
        obtain ⟨eu34, xu34⟩ := q35
        rw [eu34] at hW
        refine lv_pop hx hb dL_law_245 rfl ?_
        refine lv_goto (tgt := 486) hx hb dL_law_246 (by decide) ?_
        refine lv_iinc (v := iv ((i + 6 : Nat) : Int)) (lv' := [(3, .int (iv ((i + 6 : Nat) : Int))), (2, .ref (G.2.2.1 + 231)), (1, .ref (G.2.2.1 + 0)), (0, .ref b)]) hx hb dL_law_486 hl (k := 0) rfl (by rw [show ((i + 6 : Nat) : Int) = (i : Int) + 6 by omega]; exact (Int32.ofInt_add _ _).symm) (by decide) rfl (fun ls hl => ?_)
        refine lv_goto (tgt := 18) hx hb dL_law_489 (by decide) ?_
        exact ih S (i + 6) H locs ls (by omega) (by omega) ⟨hI.1, ⟨hI.2.1.1, hI.2.1.2.1, hI.2.1.2.2.1, hI.2.1.2.2.2.1, hI.2.1.2.2.2.2⟩, (by omega), (by omega), (by omega), hAL, (by omega), ⟨y, z, M, X, hLM⟩⟩ hW hL (lv_sub hl [0, 1, 2, 3] rfl)
      by_cases c37 : tt = 5
      · refine lv_tableIn (off := 216) (tgt := 249) hx hb dL_law_33 (by rw [c37]; decide) (by rw [c37]; decide) (by rw [c37]; decide) (by decide) ?_
        refine lv_aload_n hx hb dL_law_249 rfl (lv_at hl 2 rfl) ?_
        refine lv_aload_n hx hb dL_law_250 rfl (lv_at hl 3 rfl) ?_
        refine lv_iload_n hx hb dL_law_251 rfl (lv_at hl 0 rfl) ?_
        refine lv_iconst (v := iv 1) hx hb dL_law_252 (by decide) ?_
        refine r_iadd hx hb dL_law_253 ?_
        refine sSld Cx hX hbG hW (j := (i + 1)) (by rw [iv_clamp (by omega) (by omega)]; omega) (iv_inN (by omega) (by omega) (by omega)) dL_law_254 ?_
        rw [e1]
        refine lv_aload_n hx hb dL_law_255 rfl (lv_at hl 3 rfl) ?_
        refine lv_iload_n hx hb dL_law_256 rfl (lv_at hl 0 rfl) ?_
        refine lv_iconst (v := iv 2) hx hb dL_law_257 (by decide) ?_
        refine r_iadd hx hb dL_law_258 ?_
        refine sSld Cx hX hbG hW (j := (i + 2)) (by rw [iv_clamp (by omega) (by omega)]; omega) (iv_inN (by omega) (by omega) (by omega)) dL_law_259 ?_
        rw [e2]
        refine sBl (sV (As := [.int (iv a1), .int (iv a2)]) (rest := []) (k := 0) Cx (s_X11_coefficient l G S (k := a1) (j := a2) hI.1 (by omega) (by omega)) (c_L_37 Cx rfl rfl ⟨Nat.le_of_ble_eq_true rfl, Nat.le_of_ble_eq_true rfl⟩) hW (by decide) rfl rfl rfl hl.1 rfl (Nat.le_of_ble_eq_true rfl) dL_law_260 ⟨Nat.le_of_ble_eq_true rfl, Nat.le_of_ble_eq_true rfl⟩) hL (fun r40 u38 H locs q39 hW hL => ?_)
        obtain ⟨iu38, fu38, xu38⟩ := q39
        have wu38 : LWr G u38 := LWr.cls ⟨hI.2.1.1, hI.2.1.2.1, hI.2.1.2.2.1, hI.2.1.2.2.2.1, hI.2.1.2.2.2.2⟩ (fu38.to pN_A)
        have zu38 : u38.1 231 1 = S.1 231 1 := ((fu38.to pN_A) 231 rfl).1 1
        have yu38 : u38.1 1 1 = S.1 1 1 := (fu38 1 rfl).1 1
        have pu38 : u38.1 231 45 = S.1 231 45 := ((fu38.to pN_A) 231 rfl).1 45
        have ou38 : u38.1 0 7 = S.1 0 7 := (fu38 0 rfl).1 7
        refine lv_pop2_2 hx hb dL_law_263 rfl ?_
        refine lv_aload_n hx hb dL_law_264 rfl (lv_at hl 1 rfl) ?_
        refine lv_aload_n hx hb dL_law_265 rfl (lv_at hl 3 rfl) ?_
        refine lv_iload_n hx hb dL_law_266 rfl (lv_at hl 0 rfl) ?_
        refine lv_iconst (v := iv 1) hx hb dL_law_267 (by decide) ?_
        refine r_iadd hx hb dL_law_268 ?_
        refine sSld Cx hX hbG hW (j := (i + 1)) (by rw [iv_clamp (by omega) (by omega)]; omega) (iv_inN (by omega) (by omega) (by omega)) dL_law_269 ?_
        rw [e1]
        refine lv_aload_n hx hb dL_law_270 rfl (lv_at hl 3 rfl) ?_
        refine lv_iload_n hx hb dL_law_271 rfl (lv_at hl 0 rfl) ?_
        refine lv_iconst (v := iv 2) hx hb dL_law_272 (by decide) ?_
        refine r_iadd hx hb dL_law_273 ?_
        refine sSld Cx hX hbG hW (j := (i + 2)) (by rw [iv_clamp (by omega) (by omega)]; omega) (iv_inN (by omega) (by omega) (by omega)) dL_law_274 ?_
        rw [e2]
        refine sBl (sV (As := [.int (iv a1), .int (iv a2)]) (rest := []) (k := 231) Cx (s_X12_coefficient l G u38 (a := a1) (b := a2) wu38.1 (by omega) (by omega) wu38.2.1) (c_L_41 Cx rfl rfl ⟨Nat.le_of_ble_eq_true rfl, Nat.le_of_ble_eq_true rfl⟩) hW (by decide) rfl rfl rfl hl.1 rfl (Nat.le_of_ble_eq_true rfl) dL_law_275 ⟨Nat.le_of_ble_eq_true rfl, Nat.le_of_ble_eq_true rfl⟩) hL (fun r43 u41 H locs q42 hW hL => ?_)
        have eu41 := q42
        rw [eu41] at hW
        refine lv_pop2_2 hx hb dL_law_278 rfl ?_
        refine lv_goto (tgt := 486) hx hb dL_law_279 (by decide) ?_
        refine lv_iinc (v := iv ((i + 6 : Nat) : Int)) (lv' := [(3, .int (iv ((i + 6 : Nat) : Int))), (2, .ref (G.2.2.1 + 231)), (1, .ref (G.2.2.1 + 0)), (0, .ref b)]) hx hb dL_law_486 hl (k := 0) rfl (by rw [show ((i + 6 : Nat) : Int) = (i : Int) + 6 by omega]; exact (Int32.ofInt_add _ _).symm) (by decide) rfl (fun ls hl => ?_)
        refine lv_goto (tgt := 18) hx hb dL_law_489 (by decide) ?_
        exact ih u38 (i + 6) H locs ls (by omega) (by omega) ⟨iu38, ⟨wu38.1, wu38.2.1, wu38.2.2.1, wu38.2.2.2.1, wu38.2.2.2.2⟩, (by omega), (by omega), (by omega), (fun j a b => by rw [(fu38 2 rfl).2.1 j, (fu38 232 rfl).2.1 j]; exact hAL j a (by omega)), (by omega), ⟨y, z, M, X, (hLM.st (kpF fu38 (mdl_oN hmy) rfl) (by omega) (((fu38.to pN_A) 231 rfl).1 46) (((fu38.to pN_A) 231 rfl).1 47) (((fu38.to pN_A) 231 rfl).1 48) (((fu38.to pN_A) 231 rfl).1 49) (funext fun j => ((fu38.to pN_A) 259 rfl).2.1 j) (funext fun j => ((fu38.to pN_A) 260 rfl).2.2.1 j) (funext fun j => ((fu38.to pN_A) 290 rfl).2.2.1 j))⟩⟩ hW hL (lv_sub hl [0, 1, 2, 3] rfl)
      by_cases c44 : tt = 6
      · refine lv_tableIn (off := 249) (tgt := 282) hx hb dL_law_33 (by rw [c44]; decide) (by rw [c44]; decide) (by rw [c44]; decide) (by decide) ?_
        refine lv_aload_n hx hb dL_law_282 rfl (lv_at hl 2 rfl) ?_
        refine lv_aload_n hx hb dL_law_283 rfl (lv_at hl 3 rfl) ?_
        refine lv_iload_n hx hb dL_law_284 rfl (lv_at hl 0 rfl) ?_
        refine lv_iconst (v := iv 1) hx hb dL_law_285 (by decide) ?_
        refine r_iadd hx hb dL_law_286 ?_
        refine sSld Cx hX hbG hW (j := (i + 1)) (by rw [iv_clamp (by omega) (by omega)]; omega) (iv_inN (by omega) (by omega) (by omega)) dL_law_287 ?_
        rw [e1]
        refine sBi (sV (As := [.int (iv a1)]) (rest := []) (k := 0) Cx (f_X11_begin l G S (k := a1) (y := y) hI.1 (by omega) hmy) (c_L_42 Cx rfl rfl ⟨Nat.le_of_ble_eq_true rfl, Nat.le_of_ble_eq_true rfl⟩) hW (by decide) rfl rfl rfl hl.1 rfl (Nat.le_of_ble_eq_true rfl) dL_law_288 ⟨Nat.le_of_ble_eq_true rfl, Nat.le_of_ble_eq_true rfl⟩) hL (fun r47 u45 H locs q46 hW hL => ?_)
        obtain ⟨iu45, fu45, xu45⟩ := q46
        have wu45 : LWr G u45 := LWr.cls ⟨hI.2.1.1, hI.2.1.2.1, hI.2.1.2.2.1, hI.2.1.2.2.2.1, hI.2.1.2.2.2.2⟩ (fu45.to pC_A)
        have zu45 : u45.1 231 1 = S.1 231 1 := ((fu45.to pC_A) 231 rfl).1 1
        have yu45 : u45.1 1 1 = S.1 1 1 := (fu45 1 rfl).1 1
        have pu45 : u45.1 231 45 = S.1 231 45 := ((fu45.to pC_A) 231 rfl).1 45
        have ou45 := xu45.2.2.1
        have obu45 := xu45.2.1
        have ocu45 := xu45.1
        refine lv_pop hx hb dL_law_291 rfl ?_
        refine lv_aload_n hx hb dL_law_292 rfl (lv_at hl 1 rfl) ?_
        refine lv_aload_n hx hb dL_law_293 rfl (lv_at hl 3 rfl) ?_
        refine lv_iload_n hx hb dL_law_294 rfl (lv_at hl 0 rfl) ?_
        refine lv_iconst (v := iv 1) hx hb dL_law_295 (by decide) ?_
        refine r_iadd hx hb dL_law_296 ?_
        refine sSld Cx hX hbG hW (j := (i + 1)) (by rw [iv_clamp (by omega) (by omega)]; omega) (iv_inN (by omega) (by omega) (by omega)) dL_law_297 ?_
        rw [e1]
        refine sBi (sV (As := [.int (iv a1)]) (rest := []) (k := 231) Cx (e_X12_begin l G u45 (ct := a1) wu45.1 (by omega) wu45.2.1.1) (c_L_45 Cx rfl rfl ⟨Nat.le_of_ble_eq_true rfl, Nat.le_of_ble_eq_true rfl⟩) hW (by decide) rfl rfl rfl hl.1 rfl (Nat.le_of_ble_eq_true rfl) dL_law_298 ⟨Nat.le_of_ble_eq_true rfl, Nat.le_of_ble_eq_true rfl⟩) hL (fun r50 u48 H locs q49 hW hL => ?_)
        obtain ⟨iu48, fu48, gu48, xu48⟩ := q49
        have vu48 : cX G u48 0 0 0 := iu45.fr fu48 (pl_sub' (by decide))
        have yu48 : u48.1 1 1 = u45.1 1 1 := (fu48 1 rfl).1 1
        have zu48 : u48.1 231 1 = u45.1 231 1 := gu48 1 rfl
        have ou48 : u48.1 0 7 = u45.1 0 7 := (fu48 0 rfl).1 7
        have pu48 : u48.1 231 45 = u45.1 231 45 := gu48 45 rfl
        have obu48 := xu48.2.2.2; have ocu48 := xu48.1
        have tu48 : XI u48 := (beginXI wu45.2.1 ⟨xu48.1, xu48.2.1, xu48.2.2.1⟩)
        have bu48 : RBn u48 := (fun x => by rw [(fu48 255 rfl).2.2.1 x]; exact wu45.2.2.1 x)
        have hu48 : dHA u48 := (dHA.sm wu45.2.2.2.1 (funext fun j => (fu48 283 rfl).2.1 j))
        have ku48 : dUP u48 := (dUP.sm wu45.2.2.2.2 (funext fun j => (fu48 286 rfl).2.1 j) (funext fun j => (fu48 287 rfl).2.1 j))
        refine lv_pop hx hb dL_law_301 rfl ?_
        refine lv_goto (tgt := 486) hx hb dL_law_302 (by decide) ?_
        refine lv_iinc (v := iv ((i + 6 : Nat) : Int)) (lv' := [(3, .int (iv ((i + 6 : Nat) : Int))), (2, .ref (G.2.2.1 + 231)), (1, .ref (G.2.2.1 + 0)), (0, .ref b)]) hx hb dL_law_486 hl (k := 0) rfl (by rw [show ((i + 6 : Nat) : Int) = (i : Int) + 6 by omega]; exact (Int32.ofInt_add _ _).symm) (by decide) rfl (fun ls hl => ?_)
        refine lv_goto (tgt := 18) hx hb dL_law_489 (by decide) ?_
        exact ih u48 (i + 6) H locs ls (by omega) (by omega) ⟨vu48, ⟨iu48, tu48, bu48, hu48, ku48⟩, (by omega), (by omega), (by omega), (fun j a b => by rw [(fu48 2 rfl).2.1 j, (fu48 232 rfl).2.1 j, (fu45 2 rfl).2.1 j, (fu45 232 rfl).2.1 j]; exact hAL j a (by omega)), (by omega), ⟨y, z, M, X, ((hLM.st xu45.2.2.2 (by omega) (((fu45.to pC_A) 231 rfl).1 46) (((fu45.to pC_A) 231 rfl).1 47) (((fu45.to pC_A) 231 rfl).1 48) (((fu45.to pC_A) 231 rfl).1 49) (funext fun j => ((fu45.to pC_A) 259 rfl).2.1 j) (funext fun j => ((fu45.to pC_A) 260 rfl).2.2.1 j) (funext fun j => ((fu45.to pC_A) 290 rfl).2.2.1 j)).st (kpF fu48 (pl_m (by decide) hmy) rfl) (by omega) (gu48 46 rfl) (gu48 47 rfl) (gu48 48 rfl) (gu48 49 rfl) (funext fun j => (fu48 259 rfl).2.1 j) (funext fun j => (fu48 260 rfl).2.2.1 j) (funext fun j => (fu48 290 rfl).2.2.1 j))⟩⟩ hW hL (lv_sub hl [0, 1, 2, 3] rfl)
      by_cases c51 : tt = 7
      · refine lv_tableIn (off := 272) (tgt := 305) hx hb dL_law_33 (by rw [c51]; decide) (by rw [c51]; decide) (by rw [c51]; decide) (by decide) ?_
        refine lv_aload_n hx hb dL_law_305 rfl (lv_at hl 2 rfl) ?_
        refine lv_aload_n hx hb dL_law_306 rfl (lv_at hl 3 rfl) ?_
        refine lv_iload_n hx hb dL_law_307 rfl (lv_at hl 0 rfl) ?_
        refine lv_iconst (v := iv 1) hx hb dL_law_308 (by decide) ?_
        refine r_iadd hx hb dL_law_309 ?_
        refine sSld Cx hX hbG hW (j := (i + 1)) (by rw [iv_clamp (by omega) (by omega)]; omega) (iv_inN (by omega) (by omega) (by omega)) dL_law_310 ?_
        rw [e1]
        refine sBi (sV (As := [.int (iv a1)]) (rest := []) (k := 0) Cx (f_X11_work l G S (k := a1) (y := y) hI.1 (by omega) hmy) (c_L_46 Cx rfl rfl ⟨Nat.le_of_ble_eq_true rfl, Nat.le_of_ble_eq_true rfl⟩) hW (by decide) rfl rfl rfl hl.1 rfl (Nat.le_of_ble_eq_true rfl) dL_law_311 ⟨Nat.le_of_ble_eq_true rfl, Nat.le_of_ble_eq_true rfl⟩) hL (fun r54 u52 H locs q53 hW hL => ?_)
        obtain ⟨iu52, fu52, xu52⟩ := q53
        have wu52 : LWr G u52 := LWr.cls ⟨hI.2.1.1, hI.2.1.2.1, hI.2.1.2.2.1, hI.2.1.2.2.2.1, hI.2.1.2.2.2.2⟩ (fu52.to pC_A)
        have zu52 : u52.1 231 1 = S.1 231 1 := ((fu52.to pC_A) 231 rfl).1 1
        have yu52 : u52.1 1 1 = S.1 1 1 := (fu52 1 rfl).1 1
        have pu52 : u52.1 231 45 = S.1 231 45 := ((fu52.to pC_A) 231 rfl).1 45
        have ou52 := xu52.2.1
        refine lv_pop hx hb dL_law_314 rfl ?_
        refine lv_aload_n hx hb dL_law_315 rfl (lv_at hl 1 rfl) ?_
        refine lv_aload_n hx hb dL_law_316 rfl (lv_at hl 3 rfl) ?_
        refine lv_iload_n hx hb dL_law_317 rfl (lv_at hl 0 rfl) ?_
        refine lv_iconst (v := iv 1) hx hb dL_law_318 (by decide) ?_
        refine r_iadd hx hb dL_law_319 ?_
        refine sSld Cx hX hbG hW (j := (i + 1)) (by rw [iv_clamp (by omega) (by omega)]; omega) (iv_inN (by omega) (by omega) (by omega)) dL_law_320 ?_
        rw [e1]
        refine sBi (sV (As := [.int (iv a1)]) (rest := []) (k := 231) Cx (s_X12_work l G u52 (ct := a1) wu52.1 (by omega) wu52.2.1) (c_L_49 Cx rfl rfl ⟨Nat.le_of_ble_eq_true rfl, Nat.le_of_ble_eq_true rfl⟩) hW (by decide) rfl rfl rfl hl.1 rfl (Nat.le_of_ble_eq_true rfl) dL_law_321 ⟨Nat.le_of_ble_eq_true rfl, Nat.le_of_ble_eq_true rfl⟩) hL (fun r57 u55 H locs q56 hW hL => ?_)
        obtain ⟨iu55, fu55, gu55, xu55⟩ := q56
        have vu55 : cX G u55 0 0 0 := iu52.fr fu55 (pl_sub' (by decide))
        have yu55 : u55.1 1 1 = u52.1 1 1 := (fu55 1 rfl).1 1
        have zu55 : u55.1 231 1 = u52.1 231 1 := gu55 1 rfl
        have ou55 : u55.1 0 7 = u52.1 0 7 := (fu55 0 rfl).1 7
        have pu55 : u55.1 231 45 = u52.1 231 45 := gu55 45 rfl
        have tu55 : XI u55 := xu55.1
        have bu55 : RBn u55 := (fun x => by rw [(fu55 255 rfl).2.2.1 x]; exact wu52.2.2.1 x)
        have hu55 : dHA u55 := (dHA.sm wu52.2.2.2.1 (funext fun j => (fu55 283 rfl).2.1 j))
        have ku55 : dUP u55 := (dUP.sm wu52.2.2.2.2 (funext fun j => (fu55 286 rfl).2.1 j) (funext fun j => (fu55 287 rfl).2.1 j))
        refine lv_pop hx hb dL_law_324 rfl ?_
        refine lv_goto (tgt := 486) hx hb dL_law_325 (by decide) ?_
        refine lv_iinc (v := iv ((i + 6 : Nat) : Int)) (lv' := [(3, .int (iv ((i + 6 : Nat) : Int))), (2, .ref (G.2.2.1 + 231)), (1, .ref (G.2.2.1 + 0)), (0, .ref b)]) hx hb dL_law_486 hl (k := 0) rfl (by rw [show ((i + 6 : Nat) : Int) = (i : Int) + 6 by omega]; exact (Int32.ofInt_add _ _).symm) (by decide) rfl (fun ls hl => ?_)
        refine lv_goto (tgt := 18) hx hb dL_law_489 (by decide) ?_
        exact ih u55 (i + 6) H locs ls (by omega) (by omega) ⟨vu55, ⟨iu55, tu55, bu55, hu55, ku55⟩, (by omega), (by omega), (by omega), (fun j a b => by rw [(fu55 2 rfl).2.1 j, (fu55 232 rfl).2.1 j, (fu52 2 rfl).2.1 j, (fu52 232 rfl).2.1 j]; exact hAL j a (by omega)), (by omega), ⟨y, z, M, X, ((hLM.st xu52.2.2 (by omega) (((fu52.to pC_A) 231 rfl).1 46) (((fu52.to pC_A) 231 rfl).1 47) (((fu52.to pC_A) 231 rfl).1 48) (((fu52.to pC_A) 231 rfl).1 49) (funext fun j => ((fu52.to pC_A) 259 rfl).2.1 j) (funext fun j => ((fu52.to pC_A) 260 rfl).2.2.1 j) (funext fun j => ((fu52.to pC_A) 290 rfl).2.2.1 j)).st (kpF fu55 (pl_m (by decide) hmy) rfl) (by omega) (gu55 46 rfl) (gu55 47 rfl) (gu55 48 rfl) (gu55 49 rfl) (funext fun j => (fu55 259 rfl).2.1 j) (funext fun j => (fu55 260 rfl).2.2.1 j) (funext fun j => (fu55 290 rfl).2.2.1 j))⟩⟩ hW hL (lv_sub hl [0, 1, 2, 3] rfl)
      by_cases c58 : tt = 8
      · refine lv_tableIn (off := 295) (tgt := 328) hx hb dL_law_33 (by rw [c58]; decide) (by rw [c58]; decide) (by rw [c58]; decide) (by decide) ?_
        refine lv_aload_n hx hb dL_law_328 rfl (lv_at hl 2 rfl) ?_
        refine lv_aload_n hx hb dL_law_329 rfl (lv_at hl 3 rfl) ?_
        refine lv_iload_n hx hb dL_law_330 rfl (lv_at hl 0 rfl) ?_
        refine lv_iconst (v := iv 1) hx hb dL_law_331 (by decide) ?_
        refine r_iadd hx hb dL_law_332 ?_
        refine sSld Cx hX hbG hW (j := (i + 1)) (by rw [iv_clamp (by omega) (by omega)]; omega) (iv_inN (by omega) (by omega) (by omega)) dL_law_333 ?_
        rw [e1]
        refine sBi (sV (As := [.int (iv a1)]) (rest := []) (k := 0) Cx (s_X11_look l G S (k := a1) hI.1 (by omega)) (c_L_50 Cx rfl rfl ⟨Nat.le_of_ble_eq_true rfl, Nat.le_of_ble_eq_true rfl⟩) hW (by decide) rfl rfl rfl hl.1 rfl (Nat.le_of_ble_eq_true rfl) dL_law_334 ⟨Nat.le_of_ble_eq_true rfl, Nat.le_of_ble_eq_true rfl⟩) hL (fun r61 u59 H locs q60 hW hL => ?_)
        obtain ⟨eu59, xu59⟩ := q60
        rw [eu59] at hW
        refine lv_pop hx hb dL_law_337 rfl ?_
        refine lv_aload_n hx hb dL_law_338 rfl (lv_at hl 1 rfl) ?_
        refine lv_aload_n hx hb dL_law_339 rfl (lv_at hl 3 rfl) ?_
        refine lv_iload_n hx hb dL_law_340 rfl (lv_at hl 0 rfl) ?_
        refine lv_iconst (v := iv 1) hx hb dL_law_341 (by decide) ?_
        refine r_iadd hx hb dL_law_342 ?_
        refine sSld Cx hX hbG hW (j := (i + 1)) (by rw [iv_clamp (by omega) (by omega)]; omega) (iv_inN (by omega) (by omega) (by omega)) dL_law_343 ?_
        rw [e1]
        refine sBi (sV (As := [.int (iv a1)]) (rest := []) (k := 231) Cx (s_X12_look l G S (a := a1) hI.2.1.1 (by omega) hI.2.1.2.1) (c_L_53 Cx rfl rfl ⟨Nat.le_of_ble_eq_true rfl, Nat.le_of_ble_eq_true rfl⟩) hW (by decide) rfl rfl rfl hl.1 rfl (Nat.le_of_ble_eq_true rfl) dL_law_344 ⟨Nat.le_of_ble_eq_true rfl, Nat.le_of_ble_eq_true rfl⟩) hL (fun r64 u62 H locs q63 hW hL => ?_)
        have eu62 := q63
        rw [eu62] at hW
        refine lv_pop hx hb dL_law_347 rfl ?_
        refine lv_goto (tgt := 486) hx hb dL_law_348 (by decide) ?_
        refine lv_iinc (v := iv ((i + 6 : Nat) : Int)) (lv' := [(3, .int (iv ((i + 6 : Nat) : Int))), (2, .ref (G.2.2.1 + 231)), (1, .ref (G.2.2.1 + 0)), (0, .ref b)]) hx hb dL_law_486 hl (k := 0) rfl (by rw [show ((i + 6 : Nat) : Int) = (i : Int) + 6 by omega]; exact (Int32.ofInt_add _ _).symm) (by decide) rfl (fun ls hl => ?_)
        refine lv_goto (tgt := 18) hx hb dL_law_489 (by decide) ?_
        exact ih S (i + 6) H locs ls (by omega) (by omega) ⟨hI.1, ⟨hI.2.1.1, hI.2.1.2.1, hI.2.1.2.2.1, hI.2.1.2.2.2.1, hI.2.1.2.2.2.2⟩, (by omega), (by omega), (by omega), hAL, (by omega), ⟨y, z, M, X, hLM⟩⟩ hW hL (lv_sub hl [0, 1, 2, 3] rfl)
      by_cases c65 : tt = 9
      · refine lv_tableIn (off := 318) (tgt := 351) hx hb dL_law_33 (by rw [c65]; decide) (by rw [c65]; decide) (by rw [c65]; decide) (by decide) ?_
        refine lv_aload_n hx hb dL_law_351 rfl (lv_at hl 2 rfl) ?_
        refine lv_aload_n hx hb dL_law_352 rfl (lv_at hl 3 rfl) ?_
        refine lv_iload_n hx hb dL_law_353 rfl (lv_at hl 0 rfl) ?_
        refine lv_iconst (v := iv 1) hx hb dL_law_354 (by decide) ?_
        refine r_iadd hx hb dL_law_355 ?_
        refine sSld Cx hX hbG hW (j := (i + 1)) (by rw [iv_clamp (by omega) (by omega)]; omega) (iv_inN (by omega) (by omega) (by omega)) dL_law_356 ?_
        rw [e1]
        refine sBi (sV (As := [.int (iv a1)]) (rest := []) (k := 0) Cx (s_X11_place l G S (k := a1) hI.1 (by omega)) (c_L_54 Cx rfl rfl ⟨Nat.le_of_ble_eq_true rfl, Nat.le_of_ble_eq_true rfl⟩) hW (by decide) rfl rfl rfl hl.1 rfl (Nat.le_of_ble_eq_true rfl) dL_law_357 ⟨Nat.le_of_ble_eq_true rfl, Nat.le_of_ble_eq_true rfl⟩) hL (fun r68 u66 H locs q67 hW hL => ?_)
        obtain ⟨eu66, xu66⟩ := q67
        rw [eu66] at hW
        refine lv_pop hx hb dL_law_360 rfl ?_
        refine lv_aload_n hx hb dL_law_361 rfl (lv_at hl 1 rfl) ?_
        refine lv_aload_n hx hb dL_law_362 rfl (lv_at hl 3 rfl) ?_
        refine lv_iload_n hx hb dL_law_363 rfl (lv_at hl 0 rfl) ?_
        refine lv_iconst (v := iv 1) hx hb dL_law_364 (by decide) ?_
        refine r_iadd hx hb dL_law_365 ?_
        refine sSld Cx hX hbG hW (j := (i + 1)) (by rw [iv_clamp (by omega) (by omega)]; omega) (iv_inN (by omega) (by omega) (by omega)) dL_law_366 ?_
        rw [e1]
        refine sBi (sV (As := [.int (iv a1)]) (rest := []) (k := 231) Cx (s_X12_place l G S (a := a1) hI.2.1.1 (by omega) hI.2.1.2.1) (c_L_57 Cx rfl rfl ⟨Nat.le_of_ble_eq_true rfl, Nat.le_of_ble_eq_true rfl⟩) hW (by decide) rfl rfl rfl hl.1 rfl (Nat.le_of_ble_eq_true rfl) dL_law_367 ⟨Nat.le_of_ble_eq_true rfl, Nat.le_of_ble_eq_true rfl⟩) hL (fun r71 u69 H locs q70 hW hL => ?_)
        have eu69 := q70
        rw [eu69] at hW
        refine lv_pop hx hb dL_law_370 rfl ?_
        refine lv_goto (tgt := 486) hx hb dL_law_371 (by decide) ?_
        refine lv_iinc (v := iv ((i + 6 : Nat) : Int)) (lv' := [(3, .int (iv ((i + 6 : Nat) : Int))), (2, .ref (G.2.2.1 + 231)), (1, .ref (G.2.2.1 + 0)), (0, .ref b)]) hx hb dL_law_486 hl (k := 0) rfl (by rw [show ((i + 6 : Nat) : Int) = (i : Int) + 6 by omega]; exact (Int32.ofInt_add _ _).symm) (by decide) rfl (fun ls hl => ?_)
        refine lv_goto (tgt := 18) hx hb dL_law_489 (by decide) ?_
        exact ih S (i + 6) H locs ls (by omega) (by omega) ⟨hI.1, ⟨hI.2.1.1, hI.2.1.2.1, hI.2.1.2.2.1, hI.2.1.2.2.2.1, hI.2.1.2.2.2.2⟩, (by omega), (by omega), (by omega), hAL, (by omega), ⟨y, z, M, X, hLM⟩⟩ hW hL (lv_sub hl [0, 1, 2, 3] rfl)
      by_cases c72 : tt = 10
      · refine lv_tableIn (off := 341) (tgt := 374) hx hb dL_law_33 (by rw [c72]; decide) (by rw [c72]; decide) (by rw [c72]; decide) (by decide) ?_
        refine lv_aload_n hx hb dL_law_374 rfl (lv_at hl 2 rfl) ?_
        refine lv_aload_n hx hb dL_law_375 rfl (lv_at hl 3 rfl) ?_
        refine lv_iload_n hx hb dL_law_376 rfl (lv_at hl 0 rfl) ?_
        refine lv_iconst (v := iv 1) hx hb dL_law_377 (by decide) ?_
        refine r_iadd hx hb dL_law_378 ?_
        refine sSld Cx hX hbG hW (j := (i + 1)) (by rw [iv_clamp (by omega) (by omega)]; omega) (iv_inN (by omega) (by omega) (by omega)) dL_law_379 ?_
        rw [e1]
        refine lv_aload_n hx hb dL_law_380 rfl (lv_at hl 3 rfl) ?_
        refine lv_iload_n hx hb dL_law_381 rfl (lv_at hl 0 rfl) ?_
        refine lv_iconst (v := iv 2) hx hb dL_law_382 (by decide) ?_
        refine r_iadd hx hb dL_law_383 ?_
        refine sSld Cx hX hbG hW (j := (i + 2)) (by rw [iv_clamp (by omega) (by omega)]; omega) (iv_inN (by omega) (by omega) (by omega)) dL_law_384 ?_
        rw [e2]
        refine lv_aload_n hx hb dL_law_385 rfl (lv_at hl 3 rfl) ?_
        refine lv_iload_n hx hb dL_law_386 rfl (lv_at hl 0 rfl) ?_
        refine lv_iconst (v := iv 3) hx hb dL_law_387 (by decide) ?_
        refine r_iadd hx hb dL_law_388 ?_
        refine sSld Cx hX hbG hW (j := (i + 3)) (by rw [iv_clamp (by omega) (by omega)]; omega) (iv_inN (by omega) (by omega) (by omega)) dL_law_389 ?_
        rw [e3]
        refine sBi (sV (As := [.int (iv a1), .int (iv a2), .int (iv a3)]) (rest := []) (k := 0) Cx (s_X11_entry l G S (k := a1) (j := a2) (z := a3) hI.1 (by omega) (by omega) (by omega)) (c_L_58 Cx rfl rfl ⟨Nat.le_of_ble_eq_true rfl, Nat.le_of_ble_eq_true rfl⟩) hW (by decide) rfl rfl rfl hl.1 rfl (Nat.le_of_ble_eq_true rfl) dL_law_390 ⟨Nat.le_of_ble_eq_true rfl, Nat.le_of_ble_eq_true rfl⟩) hL (fun r75 u73 H locs q74 hW hL => ?_)
        obtain ⟨iu73, fu73, xu73⟩ := q74
        have wu73 : LWr G u73 := LWr.cls ⟨hI.2.1.1, hI.2.1.2.1, hI.2.1.2.2.1, hI.2.1.2.2.2.1, hI.2.1.2.2.2.2⟩ (fu73.to pN_A)
        have zu73 : u73.1 231 1 = S.1 231 1 := ((fu73.to pN_A) 231 rfl).1 1
        have yu73 : u73.1 1 1 = S.1 1 1 := (fu73 1 rfl).1 1
        have pu73 : u73.1 231 45 = S.1 231 45 := ((fu73.to pN_A) 231 rfl).1 45
        have ou73 : u73.1 0 7 = S.1 0 7 := (fu73 0 rfl).1 7
        refine lv_pop hx hb dL_law_393 rfl ?_
        refine lv_aload_n hx hb dL_law_394 rfl (lv_at hl 1 rfl) ?_
        refine lv_aload_n hx hb dL_law_395 rfl (lv_at hl 3 rfl) ?_
        refine lv_iload_n hx hb dL_law_396 rfl (lv_at hl 0 rfl) ?_
        refine lv_iconst (v := iv 1) hx hb dL_law_397 (by decide) ?_
        refine r_iadd hx hb dL_law_398 ?_
        refine sSld Cx hX hbG hW (j := (i + 1)) (by rw [iv_clamp (by omega) (by omega)]; omega) (iv_inN (by omega) (by omega) (by omega)) dL_law_399 ?_
        rw [e1]
        refine lv_aload_n hx hb dL_law_400 rfl (lv_at hl 3 rfl) ?_
        refine lv_iload_n hx hb dL_law_401 rfl (lv_at hl 0 rfl) ?_
        refine lv_iconst (v := iv 2) hx hb dL_law_402 (by decide) ?_
        refine r_iadd hx hb dL_law_403 ?_
        refine sSld Cx hX hbG hW (j := (i + 2)) (by rw [iv_clamp (by omega) (by omega)]; omega) (iv_inN (by omega) (by omega) (by omega)) dL_law_404 ?_
        rw [e2]
        refine lv_aload_n hx hb dL_law_405 rfl (lv_at hl 3 rfl) ?_
        refine lv_iload_n hx hb dL_law_406 rfl (lv_at hl 0 rfl) ?_
        refine lv_iconst (v := iv 3) hx hb dL_law_407 (by decide) ?_
        refine r_iadd hx hb dL_law_408 ?_
        refine sSld Cx hX hbG hW (j := (i + 3)) (by rw [iv_clamp (by omega) (by omega)]; omega) (iv_inN (by omega) (by omega) (by omega)) dL_law_409 ?_
        rw [e3]
        refine sBi (sV (As := [.int (iv a1), .int (iv a2), .int (iv a3)]) (rest := []) (k := 231) Cx (s_X12_entry l G u73 (a := a1) (b := a2) (cc := a3) wu73.1 (by omega) (by omega) (by omega) wu73.2.1) (c_L_62 Cx rfl rfl ⟨Nat.le_of_ble_eq_true rfl, Nat.le_of_ble_eq_true rfl⟩) hW (by decide) rfl rfl rfl hl.1 rfl (Nat.le_of_ble_eq_true rfl) dL_law_410 ⟨Nat.le_of_ble_eq_true rfl, Nat.le_of_ble_eq_true rfl⟩) hL (fun r78 u76 H locs q77 hW hL => ?_)
        obtain ⟨iu76, fu76, gu76, xu76⟩ := q77
        have vu76 : cX G u76 0 0 0 := iu73.fr fu76 (pl_sub' (by decide))
        have yu76 : u76.1 1 1 = u73.1 1 1 := (fu76 1 rfl).1 1
        have zu76 : u76.1 231 1 = u73.1 231 1 := gu76 1 rfl
        have ou76 : u76.1 0 7 = u73.1 0 7 := (fu76 0 rfl).1 7
        have pu76 : u76.1 231 45 = u73.1 231 45 := gu76 45 rfl
        have tu76 : XI u76 := xu76
        have bu76 : RBn u76 := (fun x => by rw [(fu76 255 rfl).2.2.1 x]; exact wu73.2.2.1 x)
        have hu76 : dHA u76 := (dHA.sm wu73.2.2.2.1 (funext fun j => (fu76 283 rfl).2.1 j))
        have ku76 : dUP u76 := (dUP.sm wu73.2.2.2.2 (funext fun j => (fu76 286 rfl).2.1 j) (funext fun j => (fu76 287 rfl).2.1 j))
        refine lv_pop hx hb dL_law_413 rfl ?_
        refine lv_goto (tgt := 486) hx hb dL_law_414 (by decide) ?_
        refine lv_iinc (v := iv ((i + 6 : Nat) : Int)) (lv' := [(3, .int (iv ((i + 6 : Nat) : Int))), (2, .ref (G.2.2.1 + 231)), (1, .ref (G.2.2.1 + 0)), (0, .ref b)]) hx hb dL_law_486 hl (k := 0) rfl (by rw [show ((i + 6 : Nat) : Int) = (i : Int) + 6 by omega]; exact (Int32.ofInt_add _ _).symm) (by decide) rfl (fun ls hl => ?_)
        refine lv_goto (tgt := 18) hx hb dL_law_489 (by decide) ?_
        exact ih u76 (i + 6) H locs ls (by omega) (by omega) ⟨vu76, ⟨iu76, tu76, bu76, hu76, ku76⟩, (by omega), (by omega), (by omega), (fun j a b => by rw [(fu76 2 rfl).2.1 j, (fu76 232 rfl).2.1 j, (fu73 2 rfl).2.1 j, (fu73 232 rfl).2.1 j]; exact hAL j a (by omega)), (by omega), ⟨y, z, M, X, ((hLM.st (kpF fu73 (mdl_oN hmy) rfl) (by omega) (((fu73.to pN_A) 231 rfl).1 46) (((fu73.to pN_A) 231 rfl).1 47) (((fu73.to pN_A) 231 rfl).1 48) (((fu73.to pN_A) 231 rfl).1 49) (funext fun j => ((fu73.to pN_A) 259 rfl).2.1 j) (funext fun j => ((fu73.to pN_A) 260 rfl).2.2.1 j) (funext fun j => ((fu73.to pN_A) 290 rfl).2.2.1 j)).st (kpF fu76 (pl_m (by decide) hmy) rfl) (by omega) (gu76 46 rfl) (gu76 47 rfl) (gu76 48 rfl) (gu76 49 rfl) (funext fun j => (fu76 259 rfl).2.1 j) (funext fun j => (fu76 260 rfl).2.2.1 j) (funext fun j => (fu76 290 rfl).2.2.1 j))⟩⟩ hW hL (lv_sub hl [0, 1, 2, 3] rfl)
      by_cases c79 : tt = 11
      · refine lv_tableIn (off := 384) (tgt := 417) hx hb dL_law_33 (by rw [c79]; decide) (by rw [c79]; decide) (by rw [c79]; decide) (by decide) ?_
        refine lv_aload_n hx hb dL_law_417 rfl (lv_at hl 2 rfl) ?_
        refine lv_aload_n hx hb dL_law_418 rfl (lv_at hl 3 rfl) ?_
        refine lv_iload_n hx hb dL_law_419 rfl (lv_at hl 0 rfl) ?_
        refine lv_iconst (v := iv 1) hx hb dL_law_420 (by decide) ?_
        refine r_iadd hx hb dL_law_421 ?_
        refine sSld Cx hX hbG hW (j := (i + 1)) (by rw [iv_clamp (by omega) (by omega)]; omega) (iv_inN (by omega) (by omega) (by omega)) dL_law_422 ?_
        rw [e1]
        refine lv_aload_n hx hb dL_law_423 rfl (lv_at hl 3 rfl) ?_
        refine lv_iload_n hx hb dL_law_424 rfl (lv_at hl 0 rfl) ?_
        refine lv_iconst (v := iv 2) hx hb dL_law_425 (by decide) ?_
        refine r_iadd hx hb dL_law_426 ?_
        refine sSld Cx hX hbG hW (j := (i + 2)) (by rw [iv_clamp (by omega) (by omega)]; omega) (iv_inN (by omega) (by omega) (by omega)) dL_law_427 ?_
        rw [e2]
        refine sBi (sV (As := [.int (iv a1), .int (iv a2)]) (rest := []) (k := 0) Cx (s_X11_told l G S (j := a1) (z := a2) hI.1 (by omega) (by omega)) (c_L_63 Cx rfl rfl ⟨Nat.le_of_ble_eq_true rfl, Nat.le_of_ble_eq_true rfl⟩) hW (by decide) rfl rfl rfl hl.1 rfl (Nat.le_of_ble_eq_true rfl) dL_law_428 ⟨Nat.le_of_ble_eq_true rfl, Nat.le_of_ble_eq_true rfl⟩) hL (fun r82 u80 H locs q81 hW hL => ?_)
        obtain ⟨iu80, fu80, xu80⟩ := q81
        have wu80 : LWr G u80 := LWr.cls ⟨hI.2.1.1, hI.2.1.2.1, hI.2.1.2.2.1, hI.2.1.2.2.2.1, hI.2.1.2.2.2.2⟩ (fu80.to pN_A)
        have zu80 : u80.1 231 1 = S.1 231 1 := ((fu80.to pN_A) 231 rfl).1 1
        have yu80 : u80.1 1 1 = S.1 1 1 := (fu80 1 rfl).1 1
        have pu80 : u80.1 231 45 = S.1 231 45 := ((fu80.to pN_A) 231 rfl).1 45
        have ou80 : u80.1 0 7 = S.1 0 7 := (fu80 0 rfl).1 7
        refine lv_pop hx hb dL_law_431 rfl ?_
        refine lv_aload_n hx hb dL_law_432 rfl (lv_at hl 1 rfl) ?_
        refine lv_aload_n hx hb dL_law_433 rfl (lv_at hl 3 rfl) ?_
        refine lv_iload_n hx hb dL_law_434 rfl (lv_at hl 0 rfl) ?_
        refine lv_iconst (v := iv 1) hx hb dL_law_435 (by decide) ?_
        refine r_iadd hx hb dL_law_436 ?_
        refine sSld Cx hX hbG hW (j := (i + 1)) (by rw [iv_clamp (by omega) (by omega)]; omega) (iv_inN (by omega) (by omega) (by omega)) dL_law_437 ?_
        rw [e1]
        refine lv_aload_n hx hb dL_law_438 rfl (lv_at hl 3 rfl) ?_
        refine lv_iload_n hx hb dL_law_439 rfl (lv_at hl 0 rfl) ?_
        refine lv_iconst (v := iv 2) hx hb dL_law_440 (by decide) ?_
        refine r_iadd hx hb dL_law_441 ?_
        refine sSld Cx hX hbG hW (j := (i + 2)) (by rw [iv_clamp (by omega) (by omega)]; omega) (iv_inN (by omega) (by omega) (by omega)) dL_law_442 ?_
        rw [e2]
        refine sBi (sV (As := [.int (iv a1), .int (iv a2)]) (rest := []) (k := 231) Cx (s_X12_told_ l G u80 (a := a1) (b := a2) wu80.1 (by omega) (by omega) wu80.2.1) (c_L_67 Cx rfl rfl ⟨Nat.le_of_ble_eq_true rfl, Nat.le_of_ble_eq_true rfl⟩) hW (by decide) rfl rfl rfl hl.1 rfl (Nat.le_of_ble_eq_true rfl) dL_law_443 ⟨Nat.le_of_ble_eq_true rfl, Nat.le_of_ble_eq_true rfl⟩) hL (fun r85 u83 H locs q84 hW hL => ?_)
        obtain ⟨iu83, fu83, gu83, xu83⟩ := q84
        have vu83 : cX G u83 0 0 0 := iu80.fr fu83 (pl_sub' (by decide))
        have yu83 : u83.1 1 1 = u80.1 1 1 := (fu83 1 rfl).1 1
        have zu83 : u83.1 231 1 = u80.1 231 1 := gu83 1 rfl
        have ou83 : u83.1 0 7 = u80.1 0 7 := (fu83 0 rfl).1 7
        have pu83 : u83.1 231 45 = u80.1 231 45 := gu83 45 rfl
        have tu83 : XI u83 := xu83
        have bu83 : RBn u83 := (fun x => by rw [(fu83 255 rfl).2.2.1 x]; exact wu80.2.2.1 x)
        have hu83 : dHA u83 := (dHA.sm wu80.2.2.2.1 (funext fun j => (fu83 283 rfl).2.1 j))
        have ku83 : dUP u83 := (dUP.sm wu80.2.2.2.2 (funext fun j => (fu83 286 rfl).2.1 j) (funext fun j => (fu83 287 rfl).2.1 j))
        refine lv_pop hx hb dL_law_446 rfl ?_
        refine lv_goto (tgt := 486) hx hb dL_law_447 (by decide) ?_
        refine lv_iinc (v := iv ((i + 6 : Nat) : Int)) (lv' := [(3, .int (iv ((i + 6 : Nat) : Int))), (2, .ref (G.2.2.1 + 231)), (1, .ref (G.2.2.1 + 0)), (0, .ref b)]) hx hb dL_law_486 hl (k := 0) rfl (by rw [show ((i + 6 : Nat) : Int) = (i : Int) + 6 by omega]; exact (Int32.ofInt_add _ _).symm) (by decide) rfl (fun ls hl => ?_)
        refine lv_goto (tgt := 18) hx hb dL_law_489 (by decide) ?_
        exact ih u83 (i + 6) H locs ls (by omega) (by omega) ⟨vu83, ⟨iu83, tu83, bu83, hu83, ku83⟩, (by omega), (by omega), (by omega), (fun j a b => by rw [(fu83 2 rfl).2.1 j, (fu83 232 rfl).2.1 j, (fu80 2 rfl).2.1 j, (fu80 232 rfl).2.1 j]; exact hAL j a (by omega)), (by omega), ⟨y, z, M, X, ((hLM.st (kpF fu80 (mdl_oN hmy) rfl) (by omega) (((fu80.to pN_A) 231 rfl).1 46) (((fu80.to pN_A) 231 rfl).1 47) (((fu80.to pN_A) 231 rfl).1 48) (((fu80.to pN_A) 231 rfl).1 49) (funext fun j => ((fu80.to pN_A) 259 rfl).2.1 j) (funext fun j => ((fu80.to pN_A) 260 rfl).2.2.1 j) (funext fun j => ((fu80.to pN_A) 290 rfl).2.2.1 j)).st (kpF fu83 (pl_m (by decide) hmy) rfl) (by omega) (gu83 46 rfl) (gu83 47 rfl) (gu83 48 rfl) (gu83 49 rfl) (funext fun j => (fu83 259 rfl).2.1 j) (funext fun j => (fu83 260 rfl).2.2.1 j) (funext fun j => (fu83 290 rfl).2.2.1 j))⟩⟩ hW hL (lv_sub hl [0, 1, 2, 3] rfl)
      by_cases c86 : tt = 12
      · refine lv_tableIn (off := 417) (tgt := 450) hx hb dL_law_33 (by rw [c86]; decide) (by rw [c86]; decide) (by rw [c86]; decide) (by decide) ?_
        refine lv_aload_n hx hb dL_law_450 rfl (lv_at hl 2 rfl) ?_
        refine lv_aload_n hx hb dL_law_451 rfl (lv_at hl 3 rfl) ?_
        refine lv_iload_n hx hb dL_law_452 rfl (lv_at hl 0 rfl) ?_
        refine lv_iconst (v := iv 1) hx hb dL_law_453 (by decide) ?_
        refine r_iadd hx hb dL_law_454 ?_
        refine sSld Cx hX hbG hW (j := (i + 1)) (by rw [iv_clamp (by omega) (by omega)]; omega) (iv_inN (by omega) (by omega) (by omega)) dL_law_455 ?_
        rw [e1]
        refine sBi (sV (As := [.int (iv a1)]) (rest := []) (k := 0) Cx (s_X11_proof l G S (k := a1) hI.1 (by omega)) (c_L_68 Cx rfl rfl ⟨Nat.le_of_ble_eq_true rfl, Nat.le_of_ble_eq_true rfl⟩) hW (by decide) rfl rfl rfl hl.1 rfl (Nat.le_of_ble_eq_true rfl) dL_law_456 ⟨Nat.le_of_ble_eq_true rfl, Nat.le_of_ble_eq_true rfl⟩) hL (fun r89 u87 H locs q88 hW hL => ?_)
        obtain ⟨eu87, xu87⟩ := q88
        rw [eu87] at hW
        refine lv_pop hx hb dL_law_459 rfl ?_
        refine lv_aload_n hx hb dL_law_460 rfl (lv_at hl 1 rfl) ?_
        refine lv_aload_n hx hb dL_law_461 rfl (lv_at hl 3 rfl) ?_
        refine lv_iload_n hx hb dL_law_462 rfl (lv_at hl 0 rfl) ?_
        refine lv_iconst (v := iv 1) hx hb dL_law_463 (by decide) ?_
        refine r_iadd hx hb dL_law_464 ?_
        refine sSld Cx hX hbG hW (j := (i + 1)) (by rw [iv_clamp (by omega) (by omega)]; omega) (iv_inN (by omega) (by omega) (by omega)) dL_law_465 ?_
        rw [e1]
        refine sBi (sV (As := [.int (iv a1)]) (rest := []) (k := 231) Cx (s_X12_proof l G S (a := a1) hI.2.1.1 (by omega) hI.2.1.2.1) (c_L_71 Cx rfl rfl ⟨Nat.le_of_ble_eq_true rfl, Nat.le_of_ble_eq_true rfl⟩) hW (by decide) rfl rfl rfl hl.1 rfl (Nat.le_of_ble_eq_true rfl) dL_law_466 ⟨Nat.le_of_ble_eq_true rfl, Nat.le_of_ble_eq_true rfl⟩) hL (fun r92 u90 H locs q91 hW hL => ?_)
        have eu90 := q91
        rw [eu90] at hW
        refine lv_pop hx hb dL_law_469 rfl ?_
        refine lv_goto (tgt := 486) hx hb dL_law_470 (by decide) ?_
        refine lv_iinc (v := iv ((i + 6 : Nat) : Int)) (lv' := [(3, .int (iv ((i + 6 : Nat) : Int))), (2, .ref (G.2.2.1 + 231)), (1, .ref (G.2.2.1 + 0)), (0, .ref b)]) hx hb dL_law_486 hl (k := 0) rfl (by rw [show ((i + 6 : Nat) : Int) = (i : Int) + 6 by omega]; exact (Int32.ofInt_add _ _).symm) (by decide) rfl (fun ls hl => ?_)
        refine lv_goto (tgt := 18) hx hb dL_law_489 (by decide) ?_
        exact ih S (i + 6) H locs ls (by omega) (by omega) ⟨hI.1, ⟨hI.2.1.1, hI.2.1.2.1, hI.2.1.2.2.1, hI.2.1.2.2.2.1, hI.2.1.2.2.2.2⟩, (by omega), (by omega), (by omega), hAL, (by omega), ⟨y, z, M, X, hLM⟩⟩ hW hL (lv_sub hl [0, 1, 2, 3] rfl)
      by_cases c93 : tt = 13
      · refine lv_tableIn (off := 440) (tgt := 473) hx hb dL_law_33 (by rw [c93]; decide) (by rw [c93]; decide) (by rw [c93]; decide) (by decide) ?_
        refine lv_aload_n hx hb dL_law_473 rfl (lv_at hl 2 rfl) ?_
        refine sBi (sV (As := []) (rest := []) (k := 0) Cx (f_X11_check l G S  (o := y) (n := M.2.2.2.1) (mm := M.2.2.2.2.2.1) (mx := M.2.2.2.2.2.2.1) (A := X.1) (wh := X.2) hI.1 hmy h56.1 hLM.mdv) (c_L_72 Cx rfl rfl ⟨Nat.le_of_ble_eq_true rfl, Nat.le_of_ble_eq_true rfl⟩) hW (by decide) rfl rfl rfl hl.1 rfl (Nat.le_of_ble_eq_true rfl) dL_law_474 ⟨Nat.le_of_ble_eq_true rfl, Nat.le_of_ble_eq_true rfl⟩) hL (fun r96 u94 H locs q95 hW hL => ?_)
        obtain ⟨iu94, fu94, xu94⟩ := q95
        have wu94 : LWr G u94 := LWr.cls ⟨hI.2.1.1, hI.2.1.2.1, hI.2.1.2.2.1, hI.2.1.2.2.2.1, hI.2.1.2.2.2.2⟩ fu94
        have zu94 : u94.1 231 1 = S.1 231 1 := (fu94 231 rfl).1 1
        have pu94 : u94.1 231 45 = S.1 231 45 := (fu94 231 rfl).1 45
        have ou94 := xu94.2.1
        have ocu94 := xu94.1
        refine lv_aload_n hx hb dL_law_477 rfl (lv_at hl 1 rfl) ?_
        refine sBi (sV (As := []) (rest := [.int (iv r96)]) (k := 231) Cx (q_X12_check l G u94  (n := M.2.2.2.1) (mm := M.2.2.2.2.2.1) (mx := M.2.2.2.2.2.2.1) (A := X.1) (wh := X.2) wu94.1 wu94.2.1 (by omega) wu94.2.2.2.1 wu94.2.2.2.2 (fun h => (hLM.st xu94.2.2.1 (by omega) ((fu94 231 rfl).1 46) ((fu94 231 rfl).1 47) ((fu94 231 rfl).1 48) ((fu94 231 rfl).1 49) (funext fun j => (fu94 259 rfl).2.1 j) (funext fun j => (fu94 260 rfl).2.2.1 j) (funext fun j => (fu94 290 rfl).2.2.1 j)).mdr (by omega))) (c_L_75 Cx rfl rfl ⟨Nat.le_of_ble_eq_true rfl, Nat.le_of_ble_eq_true rfl⟩) hW (by decide) rfl rfl rfl hl.1 rfl (Nat.le_of_ble_eq_true rfl) dL_law_478 ⟨Nat.le_of_ble_eq_true rfl, Nat.le_of_ble_eq_true rfl⟩) hL (fun r99 u97 H locs q98 hW hL => ?_)
        obtain ⟨iu97, fu97, gu97, xu97⟩ := q98
        have vu97 : cX G u97 0 0 0 := iu94.fr fu97 (pl_sub' (by decide))
        have yu97 : u97.1 1 1 = u94.1 1 1 := (fu97 1 rfl).1 1
        have ou97 : u97.1 0 7 = u94.1 0 7 := (fu97 0 rfl).1 7
        have pu97 : u97.1 231 45 = u94.1 231 45 := gu97 45 rfl
        have ocu97 := xu97.2.2.2.1
        have tu97 : XI u97 := xu97.1
        have bu97 : RBn u97 := (fun x => by rw [(fu97 255 rfl).2.2.1 x]; exact wu94.2.2.1 x)
        have hu97 : dHA u97 := xu97.2.1
        have ku97 : dUP u97 := xu97.2.2.1
        have hck : r96 = r99 := (by by_cases c7 : S.1 0 7 = 0; (have p1 := xu94.2.2.2.1 c7; have p2 := xu97.2.2.2.2.1 (by omega); omega); (exact HOLDB.al (xu94.2.2.2.2 c7) (xu97.2.2.2.2.2 (by omega)) (by omega) (fun i a b => by rw [bt_in a b]; exact chE_m (txt_r (o := 1) (N := 30000) ⟨by decide, rfl, rfl, rfl, rfl, by decide⟩ hI.1 i) (((fu94 232 rfl).2.1 i).trans (hAL i a (by omega)).symm))))
        refine lv_icmp_eq (tgt := 486) hx hb dL_law_481 (by decide) (fun _ => ?_) (fun c => absurd (congrArg iv hck) c)
        refine lv_iinc (v := iv ((i + 6 : Nat) : Int)) (lv' := [(3, .int (iv ((i + 6 : Nat) : Int))), (2, .ref (G.2.2.1 + 231)), (1, .ref (G.2.2.1 + 0)), (0, .ref b)]) hx hb dL_law_486 hl (k := 0) rfl (by rw [show ((i + 6 : Nat) : Int) = (i : Int) + 6 by omega]; exact (Int32.ofInt_add _ _).symm) (by decide) rfl (fun ls hl => ?_)
        refine lv_goto (tgt := 18) hx hb dL_law_489 (by decide) ?_
        exact ih u97 (i + 6) H locs ls (by omega) (by omega) ⟨vu97, ⟨iu97, tu97, bu97, hu97, ku97⟩, (by omega), (by omega), (by omega), (fun j a b => absurd b (by omega)), (by omega), ⟨y, z, M, X, ((hLM.st xu94.2.2.1 (by omega) ((fu94 231 rfl).1 46) ((fu94 231 rfl).1 47) ((fu94 231 rfl).1 48) ((fu94 231 rfl).1 49) (funext fun j => (fu94 259 rfl).2.1 j) (funext fun j => (fu94 260 rfl).2.2.1 j) (funext fun j => (fu94 290 rfl).2.2.1 j)).st (kpF fu97 (pl_m (by decide) hmy) rfl) (by omega) (gu97 46 rfl) (gu97 47 rfl) (gu97 48 rfl) (gu97 49 rfl) (funext fun j => (fu97 259 rfl).2.1 j) (funext fun j => (fu97 260 rfl).2.2.1 j) (funext fun j => (fu97 290 rfl).2.2.1 j))⟩⟩ hW hL (lv_sub hl [0, 1, 2, 3] rfl)
      refine lv_tableOut (tgt := 486) hx hb dL_law_33 (by rw [iv_toInt ⟨(by omega), (by omega)⟩]; omega) (by decide) ?_
      refine lv_iinc (v := iv ((i + 6 : Nat) : Int)) (lv' := [(3, .int (iv ((i + 6 : Nat) : Int))), (2, .ref (G.2.2.1 + 231)), (1, .ref (G.2.2.1 + 0)), (0, .ref b)]) hx hb dL_law_486 hl (k := 0) rfl (by rw [show ((i + 6 : Nat) : Int) = (i : Int) + 6 by omega]; exact (Int32.ofInt_add _ _).symm) (by decide) rfl (fun ls hl => ?_)
      refine lv_goto (tgt := 18) hx hb dL_law_489 (by decide) ?_
      exact ih S (i + 6) H locs ls (by omega) (by omega) ⟨hI.1, ⟨hI.2.1.1, hI.2.1.2.1, hI.2.1.2.2.1, hI.2.1.2.2.2.1, hI.2.1.2.2.2.2⟩, (by omega), (by omega), (by omega), hAL, (by omega), ⟨y, z, M, X, hLM⟩⟩ hW hL (lv_sub hl [0, 1, 2, 3] rfl)
