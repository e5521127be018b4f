def RT (G : sG) (S : sS) : Prop := S.2.2.2 189 0 = .ref (G.2.2.1 + 1)
def dgt (S : sS) (k : Int) : Prop := 48 ≤ bt S 1 k ∧ bt S 1 k ≤ 57
/-- at most sixty digits stand at a place of the tape, behind a sign if there is one -/
def DG (S : sS) (s : Int) : Prop := (bt S 1 s = 45 → ∃ e, s + 1 ≤ e ∧ e ≤ s + 61 ∧ ¬ dgt S e) ∧ (bt S 1 s ≠ 45 → ∃ e, s ≤ e ∧ e ≤ s + 60 ∧ ¬ dgt S e)
theorem DG.no {S : sS} {s : Int} (h : ¬ dgt S s) (h2 : bt S 1 s ≠ 45) : DG S s := ⟨fun q => absurd q h2, fun _ => ⟨s, by omega, by omega, h⟩⟩
theorem bt_eq {S u : sS} (e1 : u.1 1 1 = S.1 1 1) (e2 : ∀ j, u.2.1 2 j = S.2.1 2 j) (k : Int) : bt u 1 k = bt S 1 k := by unfold bt; rw [e1, e2 k]
theorem DG.of {S u : sS} {s : Int} (h : DG S s) (e : ∀ k, bt u 1 k = bt S 1 k) : DG u s := by
  unfold DG dgt at h ⊢
  simp only [e]
  exact h
def RS (S : sS) : Prop := (∀ k, 0 ≤ k → k < S.1 189 2 → S.2.1 192 k % 16 ≠ 0) ∧ ∀ k, 0 ≤ k → k < S.1 189 2 → S.2.1 192 k % 16 ≠ 1 → DG S (S.2.1 192 k / 16)
def RO (S : sS) : Prop := (∀ k, 0 ≤ k → k < S.1 189 2 - 1 → S.2.1 192 k % 16 ≠ 0) ∧ ∀ k, 0 ≤ k → k < S.1 189 2 → S.2.1 192 k % 16 ≠ 1 → DG S (S.2.1 192 k / 16)
theorem RS.ro {S : sS} (h : RS S) : RO S := ⟨fun k k0 k1 => h.1 k k0 (by omega), h.2⟩
def MK (S u : sS) (kd st : Int) : Prop := (S.1 189 2 < 30001 ∧ u = uF (uA S 192 (S.1 189 2) (st * 16 + kd)) 189 2 (S.1 189 2 + 1)) ∨ (30001 ≤ S.1 189 2 ∧ u = S)
theorem MK.bt {S u : sS} {kd st : Int} (h : MK S u kd st) (k : Int) : bt u 1 k = bt S 1 k := by
  rcases h with ⟨_, e⟩ | ⟨_, e⟩
  · rw [e]; exact bt_eq rfl (fun j => uA_ne (fun q => absurd q.1 (by decide))) k
  · rw [e]
theorem MK.rt {G : sG} {S u : sS} {kd st : Int} (h : MK S u kd st) (r : RT G S) : RT G u := by
  rcases h with ⟨_, e⟩ | ⟨_, e⟩ <;> (rw [e]; exact r)
theorem MK.all {S u : sS} {kd st : Int} (h : MK S u kd st) (hr : RS S) (hk : 0 ≤ kd ∧ kd ≤ 15) (hd : kd ≠ 1 → DG S st) : (∀ k, 0 ≤ k → k < u.1 189 2 → u.2.1 192 k % 16 = 0 → kd = 0 ∧ k = u.1 189 2 - 1) ∧ ∀ k, 0 ≤ k → k < u.1 189 2 → u.2.1 192 k % 16 ≠ 1 → DG u (u.2.1 192 k / 16) := by
  have hb := h.bt
  rcases h with ⟨h0, e⟩ | ⟨h0, e⟩
  · have e1 : u.1 189 2 = S.1 189 2 + 1 := by rw [e, uF_on]
    have e2 : ∀ k, u.2.1 192 k = if k = S.1 189 2 then st * 16 + kd else S.2.1 192 k := fun k => by
      rw [e]; show (uA S 192 (S.1 189 2) (st * 16 + kd)).2.1 192 k = _
      rw [uA_get]; simp
    refine ⟨fun k k0 k1 q => ?_, fun k k0 k1 q => ?_⟩
    · rw [e2] at q
      split at q
      · omega
      · exact absurd q (hr.1 k k0 (by omega))
    · rw [e2] at q ⊢
      split at q
      · rename_i z
        rw [if_pos z, show (st * 16 + kd) / 16 = st by omega]
        exact (hd (by omega)).of hb
      · rename_i z
        rw [if_neg z]
        exact (hr.2 k k0 (by omega) q).of hb
  · rw [e]
    exact ⟨fun k k0 k1 q => absurd q (hr.1 k k0 k1), hr.2⟩
theorem MK.rs {S u : sS} {kd st : Int} (h : MK S u kd st) (hr : RS S) (hk : 1 ≤ kd ∧ kd ≤ 15) (hd : kd ≠ 1 → DG S st) : RS u :=
  have a := h.all hr (by omega) hd
  ⟨fun k k0 k1 q => by have := a.1 k k0 k1 q; omega, a.2⟩
theorem MK.ro {S u : sS} {st : Int} (h : MK S u 0 st) (hr : RS S) (hd : DG S st) : RO u :=
  have a := h.all hr (by omega) (fun _ => hd)
  ⟨fun k k0 k1 q => by have := a.1 k k0 (by omega) q; omega, a.2⟩
def PS (S : sS) : Prop := S.1 189 3 ≤ S.1 189 2 ∧ ∀ k, 0 ≤ k → k < S.1 189 3 → S.2.1 192 k % 16 ≠ 1
def PR (S u : sS) : Prop := u.2 = S.2 ∧ u.1 189 2 = S.1 189 2 ∧ PS u
theorem PR.rf {S : sS} (h : PS S) : PR S S := ⟨rfl, rfl, h⟩
theorem PR.trans {S T U : sS} (h : PR S T) (g : PR T U) : PR S U := ⟨g.1.trans h.1, g.2.1.trans h.2.1, g.2.2⟩
theorem PR.step {S T : sS} {v : Int} (h : PR S T) (hv : v = T.1 189 3 + 1) (hk : T.1 189 3 < T.1 189 2) (hm : T.2.1 192 (T.1 189 3) % 16 ≠ 1) : PR S (uF T 189 3 v) := by
  refine ⟨h.1, (uF_i (by decide)).trans h.2.1, ?_, ?_⟩
  · rw [uF_on, uF_i (by decide)]; omega
  · intro k k0 k1
    rw [uF_on] at k1
    show T.2.1 192 k % 16 ≠ 1
    by_cases q : k = T.1 189 3
    · rw [q]; exact hm
    · exact h.2.2.2 k k0 (by omega)
theorem rt_pr {G : sG} {S u : sS} (h : PR S u) (e : RT G S) : RT G u := by unfold RT; rw [h.1]; exact e
def DA (S : sS) : Prop := ∀ k, 0 ≤ k → k < S.1 189 2 → DG S (S.2.1 192 k / 16)
theorem DA_of {S u : sS} (hr : RO S) (h : PR S u) (hl : u.1 1 1 = S.1 1 1) (h0 : 0 ≤ u.1 189 3) (hk : u.1 189 2 ≤ u.1 189 3 ∨ u.2.1 192 (u.1 189 3) % 16 = 0) : DA u := by
  have hb : ∀ k, bt u 1 k = bt S 1 k := bt_eq hl (fun j => by rw [h.1])
  have e : ∀ k, u.2.1 192 k = S.2.1 192 k := fun k => by rw [h.1]
  intro k k0 k1
  have n1 : u.2.1 192 k % 16 ≠ 1 := by
    by_cases q : k < u.1 189 3
    · exact h.2.2.2 k k0 q
    · rcases hk with z | z
      · omega
      · have : k = u.1 189 3 := by
          by_cases w : u.1 189 3 < S.1 189 2 - 1
          · exact absurd (by rw [← e]; exact z) (hr.1 _ h0 w)
          · have := h.2.1; omega
        rw [this, z]; decide
  rw [e] at n1 ⊢
  exact (hr.2 k k0 (by rw [← h.2.1]; exact k1) n1).of hb
theorem tn_6 {j l : Int} (h : l < tn j) (_ : j ≤ 6) : l ≤ 999999 := by unfold tn at h; repeat' split at h <;> omega
theorem cX.rd189 {G : sG} {S : sS} {x y : Nat} {b : Int} (h : cX G S x y b) : cX G (uR S 189 0 (.ref (G.2.2.1 + 1))) x y b := by
  have eo : ∀ k i, ¬ (k = 189 ∧ i = 0) → (uR S 189 0 (.ref (G.2.2.1 + 1))).2.2.2 k i = S.2.2.2 k i := fun k i q => uR_ne q
  obtain ⟨m1, ⟨m2, m3, m4⟩, ⟨m5, m6, m7⟩, ⟨m8, m9, m10⟩, m11, m12⟩ := h.rm
  refine h.putR (show tau 189 = .inl 4 from rfl) (by decide) (by decide) ⟨?_, ⟨m2, m3, by rw [eo _ _ (by decide)]; exact m4⟩, ⟨m5, m6, by rw [eo _ _ (by decide)]; exact m7⟩, ⟨m8, m9, by rw [eo _ _ (by decide)]; exact m10⟩, ?_, .inr uR_on⟩
  · rw [eo _ _ (by decide), eo _ _ (by decide)]; exact m1
  · rw [eo _ _ (by decide), eo _ _ (by decide)]; exact m11
def pRd (k : Nat) : Bool := Nat.beq k 189 || Nat.beq k 192
theorem p189_Rd : ∀ k, p1 189 k = true → pRd k = true := fun k h => by
  have : k = 189 := Nat.eq_of_beq_eq_true h
  subst this; rfl
/-- what the checker knows of its reader -/
def CR (G : sG) (S : sS) : Prop := RT G S ∧ DA S
theorem CR.of {G : sG} {S u : sS} (h : CR G S) (e1 : u.2.2.2 189 0 = S.2.2.2 189 0) (e2 : u.1 189 2 = S.1 189 2) (e3 : ∀ j, u.2.1 192 j = S.2.1 192 j) (e4 : u.1 1 1 = S.1 1 1) (e5 : ∀ j, u.2.1 2 j = S.2.1 2 j) : CR G u :=
  ⟨e1.trans h.1, fun k k0 k1 => by rw [e3]; exact (h.2 k k0 (by rw [← e2]; exact k1)).of (bt_eq e4 e5)⟩
theorem CR.fr {G : sG} {S u : sS} {P : pS} (h : CR G S) (f : Fr S u P) (h1 : P 189 = false) (h2 : P 192 = false) (h3 : P 1 = false) (h4 : P 2 = false) : CR G u := h.of ((f 189 h1).2.2.2 0) ((f 189 h1).1 2) (fun j => (f 192 h2).2.1 j) ((f 1 h3).1 1) (fun j => (f 2 h4).2.1 j)
theorem CR.pr {G : sG} {S u : sS} (h : CR G S) (e2 : u.2 = S.2) (e3 : u.1 189 2 = S.1 189 2) (e4 : u.1 1 1 = S.1 1 1) : CR G u := h.of (by rw [e2]) e3 (fun j => by rw [e2]) e4 (fun j => by rw [e2])
theorem CR.F {G : sG} {S : sS} {k i : Nat} {v : Int} (h : CR G S) (hn : ¬ (k = 189 ∧ i = 2) ∧ k ≠ 1) : CR G (uF S k i v) := h.of rfl (uF_ne (fun q => hn.1 ⟨q.1.symm, q.2.symm⟩)) (fun _ => rfl) (uF_ne (fun q => hn.2 q.1.symm)) (fun _ => rfl)
theorem CR.A {G : sG} {S : sS} {k : Nat} {i v : Int} (h : CR G S) (h1 : k ≠ 192) (h2 : k ≠ 2) : CR G (uA S k i v) := h.of rfl rfl (fun j => uA_ne (fun q => h1 q.1.symm)) rfl (fun j => uA_ne (fun q => h2 q.1.symm))
/-- a register and the reader -/
def pRg (o k : Nat) : Bool := pB o k || Nat.beq k 189
theorem pRg_sub {P : pS} {o : Nat} (h1 : P o = true) (h2 : P (o + 1) = true) (h3 : P 189 = true) : ∀ k, pRg o k = true → P k = true := fun k h => by
  rw [pRg, Bool.or_eq_true] at h
  rcases h with h | h
  · exact pB_sub h1 h2 k h
  · rw [Nat.eq_of_beq_eq_true h]; exact h3
theorem RO.at {S : sS} {v : Int} (h : RO S) : RO (uF S 189 3 v) := ⟨fun k k0 k1 => h.1 k k0 (by rw [uF_i (by decide)] at k1; exact k1), fun k k0 k1 q => (h.2 k k0 (by rw [uF_i (by decide)] at k1; exact k1) q).of (bt_eq (uF_ne (fun z => absurd z.1 (by decide))) (fun _ => rfl))⟩
theorem DG.be {S : sS} {fs dg be bw : Int} (h : DG S fs) (hbw : 0 ≤ bw ∧ bw ≤ 1) (hb : (bw = 1 → bt S 1 fs = 45) ∧ (bw = 0 → bt S 1 fs ≠ 45)) (hd : (bw = 1 → dg = fs + 1) ∧ (bw = 0 → dg = fs)) (hall : ∀ k, dg ≤ k → k < be → dgt S k) : be ≤ dg + 60 := by
  rcases (by omega : bw = 0 ∨ bw = 1) with q | q
  · obtain ⟨e, e0, e1, e2⟩ := h.2 (hb.2 q)
    have := hd.2 q
    by_cases z : e < be
    · exact absurd (hall e (by omega) z) e2
    · omega
  · obtain ⟨e, e0, e1, e2⟩ := h.1 (hb.1 q)
    have := hd.1 q
    by_cases z : e < be
    · exact absurd (hall e (by omega) z) e2
    · omega
theorem DG.st {S : sS} {fs : Int} (h : DA S) (h0 : 0 ≤ S.1 189 3) (hs : (S.1 189 3 < S.1 189 2 → fs = S.2.1 192 (S.1 189 3) / 16) ∧ (S.1 189 2 ≤ S.1 189 3 → fs = -1)) : DG S fs := by
  by_cases q : S.1 189 3 < S.1 189 2
  · rw [hs.1 q]; exact h _ h0 q
  · rw [hs.2 (by omega)]
    have e : bt S 1 (-1) = -1 := bt_out (by omega)
    exact DG.no (by unfold dgt; rw [e]; omega) (by rw [e]; omega)
