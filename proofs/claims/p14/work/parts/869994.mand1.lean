/-! Two contracts of one method hold at once: the machine is a function -/
theorem wn_len {s : State} {below : List Frame} {v : Option Value} (e : Ended s below (.returned v)) : s.frames.length = below.length := by
  cases below with
  | nil => have e : v = none ∧ s.frames = [] := e; rw [e.2]
  | cons f r =>
    cases f with
    | java g => obtain ⟨c, i, len, _, _, e⟩ := e; rw [e]; rfl
    | native g => have e : s.frames = _ :: r := e; rw [e]; rfl
    | proc g => have e : s.frames = _ :: r := e; rw [e]; rfl
    | _ => have e := e.2; rw [e]
theorem wn_ended {s : State} {below : List Frame} {o : Outcome} (h : Within s below) (e : Ended s below o) : False := by
  obtain ⟨above, h1, h2, h3⟩ := h
  cases o with
  | threw a =>
    have e : s.frames = [Frame.throwing a] ++ below := e
    exact h3 a (List.append_cancel_right (h1.symm.trans e))
  | returned v =>
    have hl := wn_len e
    rw [h1, List.length_append] at hl
    exact h2 (List.eq_nil_of_length_eq_zero (by omega))
theorem en_ret {s : State} {below : List Frame} {v w : Option Value} (h : Ended s below (.returned v)) (h' : Ended s below (.returned w)) : v = w := by
  cases below with
  | nil =>
    have a : v = none ∧ s.frames = [] := h
    have b : w = none ∧ s.frames = [] := h'
    rw [a.1, b.1]
  | cons f r =>
    cases f with
    | java g =>
      obtain ⟨c, i, len, _, _, e⟩ := h
      obtain ⟨c', i', len', _, _, e'⟩ := h'
      have q := congrArg (fun l : List Frame => match l with | Frame.java x :: _ => x.stack | _ => []) (e.symm.trans e')
      have q : v.toList ++ g.stack = w.toList ++ g.stack := q
      have q := List.append_cancel_right q
      cases v <;> cases w
      · rfl
      · cases q
      · cases q
      · cases q; rfl
    | native g =>
      have e : s.frames = _ :: r := h
      have e' : s.frames = _ :: r := h'
      have q := congrArg (fun l : List Frame => match l with | Frame.native x :: _ => x.answer | _ => none) (e.symm.trans e')
      have q : some (Outcome.returned v) = some (Outcome.returned w) := q
      cases q; rfl
    | proc g =>
      have e : s.frames = _ :: r := h
      have e' : s.frames = _ :: r := h'
      have q := congrArg (fun l : List Frame => match l with | Frame.proc x :: _ => x.answer | _ => none) (e.symm.trans e')
      have q : some (Outcome.returned v) = some (Outcome.returned w) := q
      cases q; rfl
    | _ => rw [h.1, h'.1]
theorem en_one {s : State} {below : List Frame} {o o' : Outcome} (h : Ended s below o) (h' : Ended s below o') : o = o' := by
  cases o with
  | threw a =>
    have e : s.frames = Frame.throwing a :: below := h
    cases o' with
    | threw b =>
      have e' : s.frames = Frame.throwing b :: below := h'
      have q := e.symm.trans e'
      cases q; rfl
    | returned w =>
      have l := wn_len h'
      rw [e, List.length_cons] at l; omega
  | returned v =>
    cases o' with
    | threw b =>
      have e' : s.frames = Frame.throwing b :: below := h'
      have l := wn_len h
      rw [e', List.length_cons] at l; omega
    | returned w => rw [en_ret h h']
theorem met_mono {l : Launch} {y : MethodName} {ws : List Cond} {rm : Room} {Pc : Array Value → State → Prop} {Q Q' : Array Value → State → Outcome → State → Prop} {mc ms : Nat} {free : Addr → Prop} (h : Met l y ws rm Pc Q mc ms free) (hq : ∀ a st o t, Q a st o t → Q' a st o t) : Met l y ws rm Pc Q' mc ms free := by
  intro p e hl hc hk s m args below hf ha hp hK
  obtain ⟨n, o, a1, a2, a3, a4⟩ := h p e hl hc hk s m args below hf ha hp hK
  exact ⟨n, o, a1, a2, a3, hq _ _ _ _ a4.1, a4.2⟩
theorem met_and {l : Launch} {y : MethodName} {ws : List Cond} {rm : Room} {Pc : Array Value → State → Prop} {Q Q' : Array Value → State → Outcome → State → Prop} {mc ms : Nat} {free : Addr → Prop} (h : Met l y ws rm Pc Q mc ms free) (h' : Met l y ws rm Pc Q' mc ms free) : Met l y ws rm Pc (fun a st o t => Q a st o t ∧ Q' a st o t) mc ms free := by
  intro p e hl hc hk s m args below hf ha hp hK
  obtain ⟨n, o, a1, a2, a3, a4⟩ := h p e hl hc hk s m args below hf ha hp hK
  obtain ⟨n', o', b1, b2, b3, b4⟩ := h' p e hl hc hk s m args below hf ha hp hK
  have en : n = n' := by
    rcases Nat.lt_trichotomy n n' with q | q | q
    · exact (wn_ended (b1 n q) a3).elim
    · exact q
    · exact (wn_ended (a1 n' q) b3).elim
  subst en
  have eo := en_one a3 b3
  subst eo
  exact ⟨n, o, a1, a2, a3, ⟨a4.1, b4.1⟩, a4.2⟩
/-- two pictures of one heap -/
def twH (G : sG) (u u' : sS) : Prop := ∃ H, sW G 294 u H ∧ sW G 294 u' H
theorem metv_and {l : Launch} {y : MethodName} {ws : List Cond} {d : Nat} {G : sG} {S : sS} {as : List Value} {P P' : sS → Prop} (h : Met l y ws (rmk d 0 0) (sPc G 294 S as) (sQv G 294 P) 0 0 (sF G)) (h' : Met l y ws (rmk d 0 0) (sPc G 294 S as) (sQv G 294 P') 0 0 (sF G)) : Met l y ws (rmk d 0 0) (sPc G 294 S as) (sQv G 294 (fun u => P u ∧ ∃ u', P' u' ∧ twH G u u')) 0 0 (sF G) :=
  met_mono (met_and h h') (fun _ _ _ t q => by
    obtain ⟨⟨u, e, p1, w1⟩, ⟨u', e', p2, w2⟩⟩ := q
    exact ⟨u, e, ⟨p1, u', p2, t.heap, w1, w2⟩, w1⟩)
theorem twH.A {G : sG} {u u' : sS} {k N : Nat} {j : Int} (h : twH G u u') (hk : k < 294) (ht : tau k = .inr (.int, N)) (hj : 0 ≤ j ∧ j < N) (r : -2147483648 ≤ u.2.1 k j ∧ u.2.1 k j ≤ 2147483647) (r' : -2147483648 ≤ u'.2.1 k j ∧ u'.2.1 k j ≤ 2147483647) : u.2.1 k j = u'.2.1 k j := by
  obtain ⟨H, w, w'⟩ := h
  have a := w.2.2.1 k hk; have b := w'.2.2.1 k hk
  rw [ht] at a b
  have a : H[G.2.2.1 + k]? = some (arrV (G.2.1 .int) N (fun i => av u .int k i)) := a
  have b : H[G.2.2.1 + k]? = some (arrV (G.2.1 .int) N (fun i => av u' .int k i)) := b
  have e := Option.some.inj (a.symm.trans b)
  have e2 : (arrV (G.2.1 .int) N (fun i => av u .int k i)).slots[j.toNat]? = (arrV (G.2.1 .int) N (fun i => av u' .int k i)).slots[j.toNat]? := by rw [e]
  rw [arrV_read _ _ (by omega), arrV_read _ _ (by omega)] at e2
  have e3 : av u .int k j.toNat = av u' .int k j.toNat := Option.some.inj e2
  have e4 : iv (u.2.1 k ((j.toNat : Nat) : Int)) = iv (u'.2.1 k ((j.toNat : Nat) : Int)) := Value.int.inj e3
  rw [show ((j.toNat : Nat) : Int) = j by omega] at e4
  have e5 := congrArg Int32.toInt e4
  rw [iv_toInt r, iv_toInt r'] at e5; exact e5
theorem twH.F {G : sG} {u u' : sS} {i N : Nat} {C : String} {T : u_T} (h : twH G u u') (hc : vwCl[12]? = some (C, T, N)) (hi : i < N) (ht : tyOf 12 i = .int) (r : -2147483648 ≤ u.1 231 i ∧ u.1 231 i ≤ 2147483647) (r' : -2147483648 ≤ u'.1 231 i ∧ u'.1 231 i ≤ 2147483647) : u.1 231 i = u'.1 231 i := by
  obtain ⟨H, w, w'⟩ := h
  have a : sA G u 231 (tau 231) H := w.2.2.1 231 (by decide)
  have b : sA G u' 231 (tau 231) H := w'.2.2.1 231 (by decide)
  rw [show tau 231 = .inl 12 from rfl] at a b
  obtain ⟨r1, e1, cell, c1, _, _, c4⟩ := a
  obtain ⟨r2, e2, cell', c1', _, _, c4'⟩ := b
  rw [hc] at e1 e2
  cases e1; cases e2
  have e := Option.some.inj (c1.symm.trans c1')
  rw [e] at c4
  have q := Option.some.inj ((c4 i hi).symm.trans (c4' i hi))
  have q : fv u (tyOf 12 i) 231 i = fv u' (tyOf 12 i) 231 i := q
  rw [ht] at q
  have q : iv (u.1 231 i) = iv (u'.1 231 i) := Value.int.inj q
  have e5 := congrArg Int32.toInt q
  rw [iv_toInt r, iv_toInt r'] at e5; exact e5
