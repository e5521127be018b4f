def RT (G : sG) (S : sS) : Prop := S.2.2.2 189 0 = .ref (G.2.2.1 + 1)
def dgt (S : sS) (k : Int) : Prop := 48 ≤ bt S 1 k ∧ bt S 1 k ≤ 57
/-- at most sixty digits stand at a place of the tape, behind a sign if there is one -/
def DG (S : sS) (s : Int) : Prop := (bt S 1 s = 45 → ∃ e, s + 1 ≤ e ∧ e ≤ s + 61 ∧ ¬ dgt S e) ∧ (bt S 1 s ≠ 45 → ∃ e, s ≤ e ∧ e ≤ s + 60 ∧ ¬ dgt S e)
theorem DG.no {S : sS} {s : Int} (h : ¬ dgt S s) (h2 : bt S 1 s ≠ 45) : DG S s := ⟨fun q => absurd q h2, fun _ => ⟨s, by omega, by omega, h⟩⟩
theorem bt_eq {S u : sS} (e1 : u.1 1 1 = S.1 1 1) (e2 : ∀ j, u.2.1 2 j = S.2.1 2 j) (k : Int) : bt u 1 k = bt S 1 k := by unfold bt; rw [e1, e2 k]
theorem DG.of {S u : sS} {s : Int} (h : DG S s) (e : ∀ k, bt u 1 k = bt S 1 k) : DG u s := by
  unfold DG dgt at h ⊢
  simp only [e]
  exact h
def RS (S : sS) : Prop := (∀ k, 0 ≤ k → k < S.1 189 2 → S.2.1 192 k % 16 ≠ 0) ∧ ∀ k, 0 ≤ k → k < S.1 189 2 → S.2.1 192 k % 16 ≠ 1 → DG S (S.2.1 192 k / 16)
def RO (S : sS) : Prop := (∀ k, 0 ≤ k → k < S.1 189 2 - 1 → S.2.1 192 k % 16 ≠ 0) ∧ ∀ k, 0 ≤ k → k < S.1 189 2 → S.2.1 192 k % 16 ≠ 1 → DG S (S.2.1 192 k / 16)
theorem RS.ro {S : sS} (h : RS S) : RO S := ⟨fun k k0 k1 => h.1 k k0 (by omega), h.2⟩
def MK (S u : sS) (kd st : Int) : Prop := (S.1 189 2 < 30001 ∧ u = uF (uA S 192 (S.1 189 2) (st * 16 + kd)) 189 2 (S.1 189 2 + 1)) ∨ (30001 ≤ S.1 189 2 ∧ u = S)
theorem MK.bt {S u : sS} {kd st : Int} (h : MK S u kd st) (k : Int) : bt u 1 k = bt S 1 k := by
  rcases h with ⟨_, e⟩ | ⟨_, e⟩
  · rw [e]; exact bt_eq rfl (fun j => uA_ne (fun q => absurd q.1 (by decide))) k
  · rw [e]
theorem MK.rt {G : sG} {S u : sS} {kd st : Int} (h : MK S u kd st) (r : RT G S) : RT G u := by
  rcases h with ⟨_, e⟩ | ⟨_, e⟩ <;> (rw [e]; exact r)
theorem MK.all {S u : sS} {kd st : Int} (h : MK S u kd st) (hr : RS S) (hk : 0 ≤ kd ∧ kd ≤ 15) (hd : kd ≠ 1 → DG S st) : (∀ k, 0 ≤ k → k < u.1 189 2 → u.2.1 192 k % 16 = 0 → kd = 0 ∧ k = u.1 189 2 - 1) ∧ ∀ k, 0 ≤ k → k < u.1 189 2 → u.2.1 192 k % 16 ≠ 1 → DG u (u.2.1 192 k / 16) := by
  have hb := h.bt
  rcases h with ⟨h0, e⟩ | ⟨h0, e⟩
  · have e1 : u.1 189 2 = S.1 189 2 + 1 := by rw [e, uF_on]
    have e2 : ∀ k, u.2.1 192 k = if k = S.1 189 2 then st * 16 + kd else S.2.1 192 k := fun k => by
      rw [e]; show (uA S 192 (S.1 189 2) (st * 16 + kd)).2.1 192 k = _
      rw [uA_get]; simp
    refine ⟨fun k k0 k1 q => ?_, fun k k0 k1 q => ?_⟩
    · rw [e2] at q
      split at q
      · omega
      · exact absurd q (hr.1 k k0 (by omega))
    · rw [e2] at q ⊢
      split at q
      · rename_i z
        rw [if_pos z, show (st * 16 + kd) / 16 = st by omega]
        exact (hd (by omega)).of hb
      · rename_i z
        rw [if_neg z]
        exact (hr.2 k k0 (by omega) q).of hb
  · rw [e]
    exact ⟨fun k k0 k1 q => absurd q (hr.1 k k0 k1), hr.2⟩
theorem MK.rs {S u : sS} {kd st : Int} (h : MK S u kd st) (hr : RS S) (hk : 1 ≤ kd ∧ kd ≤ 15) (hd : kd ≠ 1 → DG S st) : RS u :=
  have a := h.all hr (by omega) hd
  ⟨fun k k0 k1 q => by have := a.1 k k0 k1 q; omega, a.2⟩
theorem MK.ro {S u : sS} {st : Int} (h : MK S u 0 st) (hr : RS S) (hd : DG S st) : RO u :=
  have a := h.all hr (by omega) (fun _ => hd)
  ⟨fun k k0 k1 q => by have := a.1 k k0 (by omega) q; omega, a.2⟩
def PS (S : sS) : Prop := S.1 189 3 ≤ S.1 189 2 ∧ ∀ k, 0 ≤ k → k < S.1 189 3 → S.2.1 192 k % 16 ≠ 1
def PR (S u : sS) : Prop := u.2 = S.2 ∧ u.1 189 2 = S.1 189 2 ∧ PS u
theorem PR.rf {S : sS} (h : PS S) : PR S S := ⟨rfl, rfl, h⟩
theorem PR.trans {S T U : sS} (h : PR S T) (g : PR T U) : PR S U := ⟨g.1.trans h.1, g.2.1.trans h.2.1, g.2.2⟩
theorem PR.step {S T : sS} {v : Int} (h : PR S T) (hv : v = T.1 189 3 + 1) (hk : T.1 189 3 < T.1 189 2) (hm : T.2.1 192 (T.1 189 3) % 16 ≠ 1) : PR S (uF T 189 3 v) := by
  refine ⟨h.1, (uF_i (by decide)).trans h.2.1, ?_, ?_⟩
  · rw [uF_on, uF_i (by decide)]; omega
  · intro k k0 k1
    rw [uF_on] at k1
    show T.2.1 192 k % 16 ≠ 1
    by_cases q : k = T.1 189 3
    · rw [q]; exact hm
    · exact h.2.2.2 k k0 (by omega)
theorem rt_pr {G : sG} {S u : sS} (h : PR S u) (e : RT G S) : RT G u := by unfold RT; rw [h.1]; exact e
def DA (S : sS) : Prop := ∀ k, 0 ≤ k → k < S.1 189 2 → DG S (S.2.1 192 k / 16)
theorem DA_of {S u : sS} (hr : RO S) (h : PR S u) (hl : u.1 1 1 = S.1 1 1) (h0 : 0 ≤ u.1 189 3) (hk : u.1 189 2 ≤ u.1 189 3 ∨ u.2.1 192 (u.1 189 3) % 16 = 0) : DA u := by
  have hb : ∀ k, bt u 1 k = bt S 1 k := bt_eq hl (fun j => by rw [h.1])
  have e : ∀ k, u.2.1 192 k = S.2.1 192 k := fun k => by rw [h.1]
  intro k k0 k1
  have n1 : u.2.1 192 k % 16 ≠ 1 := by
    by_cases q : k < u.1 189 3
    · exact h.2.2.2 k k0 q
    · rcases hk with z | z
      · omega
      · have : k = u.1 189 3 := by
          by_cases w : u.1 189 3 < S.1 189 2 - 1
          · exact absurd (by rw [← e]; exact z) (hr.1 _ h0 w)
          · have := h.2.1; omega
        rw [this, z]; decide
  rw [e] at n1 ⊢
  exact (hr.2 k k0 (by rw [← h.2.1]; exact k1) n1).of hb
theorem tn_6 {j l : Int} (h : l < tn j) (_ : j ≤ 6) : l ≤ 999999 := by unfold tn at h; repeat' split at h <;> omega
theorem cX.rd189 {G : sG} {S : sS} {x y : Nat} {b : Int} (h : cX G S x y b) : cX G (uR S 189 0 (.ref (G.2.2.1 + 1))) x y b := by
  have eo : ∀ k i, ¬ (k = 189 ∧ i = 0) → (uR S 189 0 (.ref (G.2.2.1 + 1))).2.2.2 k i = S.2.2.2 k i := fun k i q => uR_ne q
  obtain ⟨m1, ⟨m2, m3, m4⟩, ⟨m5, m6, m7⟩, ⟨m8, m9, m10⟩, m11, m12⟩ := h.rm
  refine h.putR (show tau 189 = .inl 4 from rfl) (by decide) (by decide) ⟨?_, ⟨m2, m3, by rw [eo _ _ (by decide)]; exact m4⟩, ⟨m5, m6, by rw [eo _ _ (by decide)]; exact m7⟩, ⟨m8, m9, by rw [eo _ _ (by decide)]; exact m10⟩, ?_, .inr uR_on⟩
  · rw [eo _ _ (by decide), eo _ _ (by decide)]; exact m1
  · rw [eo _ _ (by decide), eo _ _ (by decide)]; exact m11
def pRd (k : Nat) : Bool := Nat.beq k 189 || Nat.beq k 192
theorem p189_Rd : ∀ k, p1 189 k = true → pRd k = true := fun k h => by
  have : k = 189 := Nat.eq_of_beq_eq_true h
  subst this; rfl
/-- what the checker knows of its reader -/
def CR (G : sG) (S : sS) : Prop := RT G S ∧ DA S
theorem CR.of {G : sG} {S u : sS} (h : CR G S) (e1 : u.2.2.2 189 0 = S.2.2.2 189 0) (e2 : u.1 189 2 = S.1 189 2) (e3 : ∀ j, u.2.1 192 j = S.2.1 192 j) (e4 : u.1 1 1 = S.1 1 1) (e5 : ∀ j, u.2.1 2 j = S.2.1 2 j) : CR G u :=
  ⟨e1.trans h.1, fun k k0 k1 => by rw [e3]; exact (h.2 k k0 (by rw [← e2]; exact k1)).of (bt_eq e4 e5)⟩
theorem CR.fr {G : sG} {S u : sS} {P : pS} (h : CR G S) (f : Fr S u P) (h1 : P 189 = false) (h2 : P 192 = false) (h3 : P 1 = false) (h4 : P 2 = false) : CR G u := h.of ((f 189 h1).2.2.2 0) ((f 189 h1).1 2) (fun j => (f 192 h2).2.1 j) ((f 1 h3).1 1) (fun j => (f 2 h4).2.1 j)
theorem CR.pr {G : sG} {S u : sS} (h : CR G S) (e2 : u.2 = S.2) (e3 : u.1 189 2 = S.1 189 2) (e4 : u.1 1 1 = S.1 1 1) : CR G u := h.of (by rw [e2]) e3 (fun j => by rw [e2]) e4 (fun j => by rw [e2])
theorem CR.F {G : sG} {S : sS} {k i : Nat} {v : Int} (h : CR G S) (hn : ¬ (k = 189 ∧ i = 2) ∧ k ≠ 1) : CR G (uF S k i v) := h.of rfl (uF_ne (fun q => hn.1 ⟨q.1.symm, q.2.symm⟩)) (fun _ => rfl) (uF_ne (fun q => hn.2 q.1.symm)) (fun _ => rfl)
theorem CR.A {G : sG} {S : sS} {k : Nat} {i v : Int} (h : CR G S) (h1 : k ≠ 192) (h2 : k ≠ 2) : CR G (uA S k i v) := h.of rfl rfl (fun j => uA_ne (fun q => h1 q.1.symm)) rfl (fun j => uA_ne (fun q => h2 q.1.symm))
/-- a register and the reader -/
def pRg (o k : Nat) : Bool := pB o k || Nat.beq k 189
theorem pRg_sub {P : pS} {o : Nat} (h1 : P o = true) (h2 : P (o + 1) = true) (h3 : P 189 = true) : ∀ k, pRg o k = true → P k = true := fun k h => by
  rw [pRg, Bool.or_eq_true] at h
  rcases h with h | h
  · exact pB_sub h1 h2 k h
  · rw [Nat.eq_of_beq_eq_true h]; exact h3
theorem RO.at {S : sS} {v : Int} (h : RO S) : RO (uF S 189 3 v) := ⟨fun k k0 k1 => h.1 k k0 (by rw [uF_i (by decide)] at k1; exact k1), fun k k0 k1 q => (h.2 k k0 (by rw [uF_i (by decide)] at k1; exact k1) q).of (bt_eq (uF_ne (fun z => absurd z.1 (by decide))) (fun _ => rfl))⟩
theorem DG.be {S : sS} {fs dg be bw : Int} (h : DG S fs) (hbw : 0 ≤ bw ∧ bw ≤ 1) (hb : (bw = 1 → bt S 1 fs = 45) ∧ (bw = 0 → bt S 1 fs ≠ 45)) (hd : (bw = 1 → dg = fs + 1) ∧ (bw = 0 → dg = fs)) (hall : ∀ k, dg ≤ k → k < be → dgt S k) : be ≤ dg + 60 := by
  rcases (by omega : bw = 0 ∨ bw = 1) with q | q
  · obtain ⟨e, e0, e1, e2⟩ := h.2 (hb.2 q)
    have := hd.2 q
    by_cases z : e < be
    · exact absurd (hall e (by omega) z) e2
    · omega
  · obtain ⟨e, e0, e1, e2⟩ := h.1 (hb.1 q)
    have := hd.1 q
    by_cases z : e < be
    · exact absurd (hall e (by omega) z) e2
    · omega
theorem DG.st {S : sS} {fs : Int} (h : DA S) (h0 : 0 ≤ S.1 189 3) (hs : (S.1 189 3 < S.1 189 2 → fs = S.2.1 192 (S.1 189 3) / 16) ∧ (S.1 189 2 ≤ S.1 189 3 → fs = -1)) : DG S fs := by
  by_cases q : S.1 189 3 < S.1 189 2
  · rw [hs.1 q]; exact h _ h0 q
  · rw [hs.2 (by omega)]
    have e : bt S 1 (-1) = -1 := bt_out (by omega)
    exact DG.no (by unfold dgt; rw [e]; omega) (by rw [e]; omega)
set_option maxRecDepth 100000 in
set_option maxHeartbeats 4000000 in
theorem s_X0_read_60 (l : Launch) (G : sG) (S : sS) {o t N : Nat} {f b : Int} (hI : cX G S 0 0 0) (ho : tau o = .inl 0) (ht : txt t N) (hfb : -1 ≤ f ∧ f ≤ b ∧ b ≤ 100000 ∧ b - f ≤ 60) (hdg : ∀ k, f ≤ k → k < b → 48 ≤ bt S t k ∧ bt S t k ≤ 57) : Met l yX0_read (.code yX0_read cX0_read 8 none :: tb) (rmk 2 0 0) (sPc G 294 S [.ref (G.2.2.1 + o), .ref (G.2.2.1 + t), .int (iv f), .int (iv b)]) (sQv G 294 (fun u => cX G u 0 0 0 ∧ Fr S u (pB o) ∧ (u.1 o 1 ≤ 7 ∧ Hd (u.1 o 1 = 7 → u.2.1 (o + 1) 6 ≤ 999999) ∧ 0 ≤ u.1 o 2))) 0 0 (sF G) := by
  refine sEnter (by decide) (Nat.le_of_ble_eq_true rfl) ?_
  intro p e s m args below meth c Cx hr hlk hnm hW ls hl
  have Cx : sC G p m c cX0_read 8 s args RX0 := Cx
  obtain ⟨hx, hb, hml, hown, hts⟩ := id Cx.1
  have hL : sL G [] := sL_nil
  have hl : lv_has ls 8 [(0, .ref (G.2.2.1 + o)), (1, .ref (G.2.2.1 + t)), (2, .int (iv f)), (3, .int (iv b))] := hl
  have hW0 := hW
  have hN3 := ht.2.2.2.2.2
  have j_1 := hI.exB o
  refine lv_aload_n hx hb dX0_read_0 rfl (lv_at hl 0 rfl) ?_
  refine lv_iload_n hx hb dX0_read_1 rfl (lv_at hl 3 rfl) ?_
  refine lv_iload_n hx hb dX0_read_2 rfl (lv_at hl 2 rfl) ?_
  refine r_isub hx hb dX0_read_3 ?_
  refine lv_bipush (v := iv 8) hx hb dX0_read_4 (by decide) ?_
  refine r_iadd hx hb dX0_read_6 ?_
  refine lv_bipush (v := iv 9) hx hb dX0_read_7 (by decide) ?_
  refine r_idiv hx hb ⟨(by omega), (by omega)⟩ ⟨(by omega), (by omega)⟩ (by omega) dX0_read_9 ?_
  obtain ⟨z_2, ez_2⟩ : ∃ z : Int, z = ((b - f) + 8).tdiv 9 := ⟨_, rfl⟩
  have hz_2 := tdivL (a := (b - f) + 8) (b := 9) (by omega)
  rw [← ez_2] at hz_2
  refine r_i (b := z_2) ez_2.symm ?_
  clear ez_2
  refine lv_bipush (v := iv 32) hx hb dX0_read_10 (by decide) ?_
  refine r_min hx hb (hml.trans hl.1.symm) hown (hts _ w_1158) (hts _ w_777) (hts _ w_206) (hts _ w_778) (rmk_f (by omega)) (rmk_l (by omega) (Nat.le_of_ble_eq_true rfl)) (Nat.le_of_ble_eq_true rfl) (Nat.le_of_ble_eq_true rfl) ⟨(by omega), (by omega)⟩ ⟨(by omega), (by omega)⟩ dX0_read_12 (fun z_3 hz_3 => ?_)
  refine p_X0_24 Cx hW hL (k := o) (big_l ho) ho dX0_read_15 (fun H locs hW hL => ?_)
  have F_4 : Fr S (uF S o 1 z_3) (pB o) := (Fr.rf : Fr S S (pB o)).F pB_0
  have i_5 : cX G (uF S o 1 z_3) o 0 0 := j_1.cnt (exq_s ho) ho ⟨by omega, by omega⟩
  refine lv_iconst (v := iv 0) hx hb dX0_read_18 (by decide) ?_
  refine lv_istore (lv' := [(4, .int (iv 0)), (0, .ref (G.2.2.1 + o)), (1, .ref (G.2.2.1 + t)), (2, .int (iv f)), (3, .int (iv b))]) hx hb dX0_read_19 hl (by decide) rfl (fun ls hl => ?_)
  have loop_21 : ∀ (fuel : Nat) (S21 : sS) (i : Int) (H : Heap) (locs : List Loc) (ls : Array Slot), (33 - i).toNat < fuel → (cX G S21 o 0 0) → (Fr S S21 (pB o)) → (Fr ((uF S o 1 z_3)) S21 (pB o)) → (0 ≤ i ∧ i ≤ 32) → (9 * S21.1 o 1 ≤ b - f + 8) → (Hd (7 ≤ i → S21.2.1 (o + 1) 6 ≤ 999999)) → sW G 294 S21 H → sL G locs → lv_has ls 8 [(4, .int (iv i)), (0, .ref (G.2.2.1 + o)), (1, .ref (G.2.2.1 + t)), (2, .int (iv f)), (3, .int (iv b))] → W p l e (rmk 2 0 0) s m args below meth c H locs 0 0 (MQ below (sQv G 294 (fun u => cX G u 0 0 0 ∧ Fr S u (pB o) ∧ (u.1 o 1 ≤ 7 ∧ Hd (u.1 o 1 = 7 → u.2.1 (o + 1) 6 ≤ 999999) ∧ 0 ≤ u.1 o 2))) args s 0 0 (sF G)) (F0 m 21 ls []) := by
    intro fuel
    induction fuel with
    | zero => intro S21 i H locs ls hmeas hI21 hFm21 hL21_ hi hc h6 hW hL hl; exact absurd hmeas (Nat.not_lt_zero _)
    | succ fuel ih_21 =>
      intro S21 i H locs ls hmeas hI21 hFm21 hL21_ hi hc h6 hW hL hl
      refine lv_iload hx hb dX0_read_21 (lv_at hl 0 rfl) ?_
      refine lv_aload_n hx hb dX0_read_23 rfl (lv_at hl 1 rfl) ?_
      have q_6 : 0 ≤ S21.1 o 1 ∧ S21.1 o 1 ≤ 32 := hI21.fi o 1 0 (big_lt ho) ho
      refine g_X0_24 Cx hW (k := o) (big_l ho) ho (v := S21.1 o 1) rfl dX0_read_24 ?_
      refine r_icmp_ge (tgt := 98) hx hb ⟨(by omega), (by omega)⟩ ⟨(by omega), (by omega)⟩ dX0_read_27 (by decide) (fun c_7 => ?_) (fun c_7 => ?_)
      · refine lv_aload_n hx hb dX0_read_98 rfl (lv_at hl 1 rfl) ?_
        refine lv_iconst (v := iv 1) hx hb dX0_read_99 (by decide) ?_
        refine p_X0_34 Cx hW hL (k := o) (big_l ho) ho dX0_read_100 (fun H locs hW hL => ?_)
        have F_8 : Fr S (uF S21 o 2 1) (pB o) := hFm21.F pB_0
        have F_9 : Fr ((uF S o 1 z_3)) (uF S21 o 2 1) (pB o) := hL21_.F pB_0
        have i_10 : cX G (uF S21 o 2 1) o 0 0 := hI21.F ho rfl (show (-1) ≤ 1 ∧ 1 ≤ 1 from ⟨by omega, by omega⟩)
        refine lv_aload_n hx hb dX0_read_103 rfl (lv_at hl 1 rfl) ?_
        have lk_11 : (uF S21 o 2 1).1 o 1 = S21.1 o 1 := uF_ne (fun h => absurd h.2 (by decide))
        have lk_12 : (uF S21 o 2 1).1 o 2 = 1 := uF_on
        refine sBv (sV (As := []) (rest := []) (k := o) Cx (s_X0_trim l G (uF S21 o 2 1) (o := o) i_10 ho) (c_X0_59 Cx rfl rfl (rmk_ok (by omega) (by decide))) hW (big_l ho) ho rfl rfl hl.1 rfl (Nat.le_of_ble_eq_true rfl) dX0_read_104 ⟨Nat.le_of_ble_eq_true rfl, Nat.le_of_ble_eq_true rfl⟩) hL (fun u_13 H locs k_14 hW hL => ?_)
        obtain ⟨iu_13, fu_13, xu_13⟩ := k_14
        have F_15 := F_8.trans fu_13
        have F_16 := F_9.trans fu_13
        have q_17 : 0 ≤ u_13.1 o 1 ∧ u_13.1 o 1 ≤ 32 := iu_13.fi o 1 0 (big_lt ho) ho
        have q_18 : (-1) ≤ u_13.1 o 2 ∧ u_13.1 o 2 ≤ 1 := iu_13.fi o 2 0 (big_lt ho) ho
        exact sVret Cx hr hlk hW hL ⟨iu_13, F_15, ⟨(by omega), (fun q => by rw [xu_13.2.2.1]; exact h6 (by omega)), (by omega)⟩⟩ dX0_read_107
      · refine lv_iconst (v := iv 0) hx hb dX0_read_30 (by decide) ?_
        refine lv_istore (lv' := [(5, .int (iv 0)), (4, .int (iv i)), (0, .ref (G.2.2.1 + o)), (1, .ref (G.2.2.1 + t)), (2, .int (iv f)), (3, .int (iv b))]) hx hb dX0_read_31 hl (by decide) rfl (fun ls hl => ?_)
        refine lv_iload_n hx hb dX0_read_33 rfl (lv_at hl 5 rfl) ?_
        refine lv_bipush (v := iv 9) hx hb dX0_read_34 (by decide) ?_
        refine lv_iload hx hb dX0_read_36 (lv_at hl 1 rfl) ?_
        refine r_imul hx hb dX0_read_38 ?_
        refine r_isub hx hb dX0_read_39 ?_
        refine lv_istore (lv' := [(6, .int (iv (b - (9 * i)))), (5, .int (iv 0)), (4, .int (iv i)), (0, .ref (G.2.2.1 + o)), (1, .ref (G.2.2.1 + t)), (2, .int (iv f)), (3, .int (iv b))]) hx hb dX0_read_40 hl (by decide) rfl (fun ls hl => ?_)
        refine lv_iload_n hx hb dX0_read_42 rfl (lv_at hl 5 rfl) ?_
        refine lv_iload hx hb dX0_read_43 (lv_at hl 0 rfl) ?_
        refine lv_bipush (v := iv 9) hx hb dX0_read_45 (by decide) ?_
        refine r_isub hx hb dX0_read_47 ?_
        refine r_max hx hb (hml.trans hl.1.symm) hown (hts _ w_1292) (hts _ w_242) (hts _ w_206) (hts _ w_243) (rmk_f (by omega)) (rmk_l (by omega) (Nat.le_of_ble_eq_true rfl)) (Nat.le_of_ble_eq_true rfl) (Nat.le_of_ble_eq_true rfl) ⟨(by omega), (by omega)⟩ ⟨(by omega), (by omega)⟩ dX0_read_48 (fun f0 hf0 => ?_)
        refine lv_istore (lv' := [(7, .int (iv f0)), (6, .int (iv (b - (9 * i)))), (5, .int (iv 0)), (4, .int (iv i)), (0, .ref (G.2.2.1 + o)), (1, .ref (G.2.2.1 + t)), (2, .int (iv f)), (3, .int (iv b))]) hx hb dX0_read_51 hl (by decide) rfl (fun ls hl => ?_)
        have loop_53 : ∀ (fuel : Nat) (k : Int) (lm : Int) (H : Heap) (locs : List Loc) (ls : Array Slot), (b - 9 * i - k).toNat < fuel → (f0 ≤ k ∧ k ≤ b - 9 * i) → (0 ≤ lm ∧ lm < tn (k - f0)) → (9 * S21.1 o 1 ≤ b - f + 8) → sW G 294 S21 H → sL G locs → lv_has ls 8 [(7, .int (iv k)), (6, .int (iv (b - (9 * i)))), (5, .int (iv lm)), (4, .int (iv i)), (0, .ref (G.2.2.1 + o)), (1, .ref (G.2.2.1 + t)), (2, .int (iv f)), (3, .int (iv b))] → W p l e (rmk 2 0 0) s m args below meth c H locs 0 0 (MQ below (sQv G 294 (fun u => cX G u 0 0 0 ∧ Fr S u (pB o) ∧ (u.1 o 1 ≤ 7 ∧ Hd (u.1 o 1 = 7 → u.2.1 (o + 1) 6 ≤ 999999) ∧ 0 ≤ u.1 o 2))) args s 0 0 (sF G)) (F0 m 53 ls []) := by
          intro fuel
          induction fuel with
          | zero => intro k lm H locs ls hmeas hk hm hc2 hW hL hl; exact absurd hmeas (Nat.not_lt_zero _)
          | succ fuel ih_53 =>
            intro k lm H locs ls hmeas hk hm hc2 hW hL hl
            refine lv_iload hx hb dX0_read_53 (lv_at hl 0 rfl) ?_
            refine lv_iload hx hb dX0_read_55 (lv_at hl 1 rfl) ?_
            refine r_icmp_ge (tgt := 83) hx hb ⟨(by omega), (by omega)⟩ ⟨(by omega), (by omega)⟩ dX0_read_57 (by decide) (fun c_19 => ?_) (fun c_19 => ?_)
            · have hlm := tn_9 hm.2 (by omega)
              refine lv_aload_n hx hb dX0_read_83 rfl (lv_at hl 4 rfl) ?_
              refine g_X0_9 Cx hW (k := o) (big_l ho) ho (v := .ref (G.2.2.1 + (o + 1))) (hI21.rq.1 o ho) dX0_read_84 ?_
              refine lv_iload hx hb dX0_read_87 (lv_at hl 3 rfl) ?_
              refine lv_iload hx hb dX0_read_89 (lv_at hl 2 rfl) ?_
              refine rIast Cx hW hL (k := o + 1) (big_l1 ho) (big_row ho).1 (by decide) (by omega) (by omega) dX0_read_91 (fun H locs hW hL => ?_)
              have F_20 : Fr S (uA S21 (o + 1) i lm) (pB o) := hFm21.A pB_1
              have F_21 : Fr ((uF S o 1 z_3)) (uA S21 (o + 1) i lm) (pB o) := hL21_.A pB_1
              have i_22 : cX G (uA S21 (o + 1) i lm) o 0 0 := hI21.limb (Or.inl (exq_s ho)) ho ⟨(by omega), (by omega)⟩
              refine lv_iinc (v := iv (i + 1)) (lv' := [(4, .int (iv (i + 1))), (7, .int (iv k)), (6, .int (iv (b - (9 * i)))), (5, .int (iv lm)), (0, .ref (G.2.2.1 + o)), (1, .ref (G.2.2.1 + t)), (2, .int (iv f)), (3, .int (iv b))]) hx hb dX0_read_92 hl (k := 3) rfl ((Int32.ofInt_add _ _).symm) (by decide) rfl (fun ls hl => ?_)
              refine lv_goto (tgt := 21) hx hb dX0_read_95 (by decide) ?_
              have lk_23 : (uA S21 (o + 1) i lm).1 o 1 = S21.1 o 1 := uA_f
              exact ih_21 (uA S21 (o + 1) i lm) (i + 1) _ _ _ (by omega) i_22 F_20 F_21 (by omega) (by omega) (fun q => by rw [uA_get]; split; (have := tn_6 hm.2 (by omega)); omega; exact h6 (by omega)) hW hL (lv_sub hl [0, 4, 5, 6, 7] rfl)
            · have hst := tn_st hm.2 (by omega)
              refine lv_bipush (v := iv 10) hx hb dX0_read_60 (by decide) ?_
              refine lv_iload hx hb dX0_read_62 (lv_at hl 2 rfl) ?_
              refine r_imul hx hb dX0_read_64 ?_
              refine lv_aload_n hx hb dX0_read_65 rfl (lv_at hl 5 rfl) ?_
              refine lv_iload hx hb dX0_read_66 (lv_at hl 0 rfl) ?_
              have q_24 : 0 ≤ S.1 t 1 ∧ S.1 t 1 ≤ (N : Int) := txt_len ht j_1
              have lk_25 : S21.1 t 1 = S.1 t 1 := ((hL21_ t (pB_no (tau_ne ht.2.1 ho (fun h => by cases h)) (tau_ne ht.2.1 (big_row ho).1 (fun h => by cases h)))).1 1).trans (uF_ne (fun h => absurd h.1 (tau_ne ht.2.1 ho (fun h => by cases h))))
              refine sBi (sV (As := [.int (iv k)]) (rest := [.int (iv (10 * lm))]) (k := t) Cx (s_X10_byteAt_z l G S21 (o := t) (k := k) (N := N) (z := o) hI21 ht (by omega)) (c_X0_54 Cx rfl rfl (rmk_ok (by omega) (by decide))) hW (Nat.lt_trans ht.1 (by decide)) ht.2.1 rfl rfl hl.1 rfl (Nat.le_of_ble_eq_true rfl) dX0_read_68 ⟨Nat.le_of_ble_eq_true rfl, Nat.le_of_ble_eq_true rfl⟩) hL (fun r_28 u_26 H locs k_27 hW hL => ?_)
              obtain ⟨eu_26, xu_26⟩ := k_27
              rw [eu_26] at hW
              have du_26 := hdg _ (by omega : f ≤ k) (by omega : k < b)
              rw [← bt_fr (o := t) (k := k) hFm21 (pB_no (tau_ne ht.2.1 ho (fun h => by cases h)) (tau_ne ht.2.1 (big_row ho).1 (fun h => by cases h))) (pB_no (tau_ne ht.2.2.1 ho (fun h => by cases h)) (tau_ne ht.2.2.1 (big_row ho).1 (fun h => by cases h)))] at du_26
              refine r_iadd hx hb dX0_read_71 ?_
              refine lv_bipush (v := iv 48) hx hb dX0_read_72 (by decide) ?_
              refine r_isub hx hb dX0_read_74 ?_
              refine lv_istore (lv' := [(5, .int (iv (((10 * lm) + r_28) - 48))), (7, .int (iv k)), (6, .int (iv (b - (9 * i)))), (4, .int (iv i)), (0, .ref (G.2.2.1 + o)), (1, .ref (G.2.2.1 + t)), (2, .int (iv f)), (3, .int (iv b))]) hx hb dX0_read_75 hl (by decide) rfl (fun ls hl => ?_)
              have hsu := hst.2 (r_28 - 48) (by omega) (by omega) (by omega)
              rw [show k - f0 + 1 = k + 1 - f0 by omega] at hsu
              refine lv_iinc (v := iv (k + 1)) (lv' := [(7, .int (iv (k + 1))), (5, .int (iv (((10 * lm) + r_28) - 48))), (6, .int (iv (b - (9 * i)))), (4, .int (iv i)), (0, .ref (G.2.2.1 + o)), (1, .ref (G.2.2.1 + t)), (2, .int (iv f)), (3, .int (iv b))]) hx hb dX0_read_77 hl (k := 1) rfl ((Int32.ofInt_add _ _).symm) (by decide) rfl (fun ls hl => ?_)
              refine lv_goto (tgt := 53) hx hb dX0_read_80 (by decide) ?_
              exact ih_53 (k + 1) (((10 * lm) + r_28) - 48) _ _ _ (by omega) (by omega) (by omega) (by omega) hW hL (lv_sub hl [0, 2, 1, 3, 4, 5, 6, 7] rfl)
        exact loop_53 (_ + 1) f0 0 _ _ _ (Nat.lt_succ_self _) (by omega) ⟨(by omega), tn_0 _⟩ (by omega) hW hL (lv_sub hl [0, 1, 2, 3, 4, 5, 6, 7] rfl)
  have lk_29 : (uF S o 1 z_3).1 o 1 = z_3 := uF_on
  exact loop_21 (_ + 1) (uF S o 1 z_3) 0 _ _ _ (Nat.lt_succ_self _) i_5 F_4 Fr.rf (by omega) (by omega) (fun q => absurd q (by omega)) hW hL (lv_sub hl [0, 1, 2, 3, 4] rfl)

set_option maxRecDepth 100000 in
set_option maxHeartbeats 4000000 in
theorem s_X4_kind (l : Launch) (G : sG) (S : sS)  (hI : cX G S 0 0 0) : Met l yX4_kind (.code yX4_kind cX4_kind 1 (some .int) :: tb) (rmk 1 0 0) (sPc G 294 S [.ref (G.2.2.1 + 189)]) (sQi G 294 (fun r u => u = S ∧ ((0 ≤ r ∧ r ≤ 15) ∧ Hd (r ≠ 0 → S.1 189 3 < S.1 189 2 ∧ S.2.1 192 (S.1 189 3) % 16 = r) ∧ Hd (r = 0 → S.1 189 2 ≤ S.1 189 3 ∨ S.2.1 192 (S.1 189 3) % 16 = 0)))) 0 0 (sF G) := by
  refine sEnter (by decide) (Nat.le_of_ble_eq_true rfl) ?_
  intro p e s m args below meth c Cx hr hlk hnm hW ls hl
  have Cx : sC G p m c cX4_kind 1 s args RX4 := Cx
  obtain ⟨hx, hb, hml, hown, hts⟩ := id Cx.1
  have hL : sL G [] := sL_nil
  have hl : lv_has ls 1 [(0, .ref (G.2.2.1 + 189))] := hl
  have hW0 := hW
  refine lv_aload_n hx hb dX4_kind_0 rfl (lv_at hl 0 rfl) ?_
  have q_1 : 0 ≤ S.1 189 3 ∧ S.1 189 3 ≤ 1000000000 := hI.fi 189 3 4 (by decide) rfl
  refine g_X4_40 Cx hW (k := 189) (by decide) rfl (v := S.1 189 3) rfl dX4_kind_1 ?_
  refine lv_aload_n hx hb dX4_kind_4 rfl (lv_at hl 0 rfl) ?_
  have q_2 : 0 ≤ S.1 189 2 ∧ S.1 189 2 ≤ 30001 := hI.fi 189 2 4 (by decide) rfl
  refine g_X4_24 Cx hW (k := 189) (by decide) rfl (v := S.1 189 2) rfl dX4_kind_5 ?_
  refine r_icmp_ge (tgt := 26) hx hb ⟨(by omega), (by omega)⟩ ⟨(by omega), (by omega)⟩ dX4_kind_8 (by decide) (fun c_3 => ?_) (fun c_3 => ?_)
  · refine lv_iconst (v := iv 0) hx hb dX4_kind_26 (by decide) ?_
    exact sIret Cx hr hlk hW hL ⟨rfl, ⟨(by omega), fun q => absurd rfl q, fun _ => .inl (by omega)⟩⟩ dX4_kind_27
  · refine lv_aload_n hx hb dX4_kind_11 rfl (lv_at hl 0 rfl) ?_
    refine g_X4_20 Cx hW (k := 189) (by decide) rfl (v := .ref (G.2.2.1 + 192)) (rf_189_1 hI) dX4_kind_12 ?_
    refine lv_aload_n hx hb dX4_kind_15 rfl (lv_at hl 0 rfl) ?_
    refine g_X4_40 Cx hW (k := 189) (by decide) rfl (v := S.1 189 3) rfl dX4_kind_16 ?_
    refine rIald Cx hW (k := 192) (by decide) rfl (by decide) (by omega) (by omega) dX4_kind_19 ?_
    have q_4 : 0 ≤ S.2.1 192 (S.1 189 3) ∧ S.2.1 192 (S.1 189 3) ≤ 480015 := hI.ai 192 (S.1 189 3) (by decide)
    refine r_i (b := S.2.1 192 (S.1 189 3)) rfl ?_
    refine lv_bipush (v := iv 16) hx hb dX4_kind_20 (by decide) ?_
    refine r_irem hx hb ⟨(by omega), (by omega)⟩ ⟨(by omega), (by omega)⟩ (by omega) dX4_kind_22 ?_
    refine r_i (b := (S.2.1 192 (S.1 189 3)) % 16) (Int.tmod_eq_emod_of_nonneg (by omega)) ?_
    refine lv_goto (tgt := 27) hx hb dX4_kind_23 (by decide) ?_
    exact sIret Cx hr hlk hW hL ⟨rfl, ⟨(by omega), fun _ => ⟨(by omega), rfl⟩, fun q => .inr q⟩⟩ dX4_kind_27

set_option maxRecDepth 100000 in
set_option maxHeartbeats 4000000 in
theorem s_X4_start (l : Launch) (G : sG) (S : sS)  (hI : cX G S 0 0 0) : Met l yX4_start (.code yX4_start cX4_start 1 (some .int) :: tb) (rmk 1 0 0) (sPc G 294 S [.ref (G.2.2.1 + 189)]) (sQi G 294 (fun r u => u = S ∧ ((-1 ≤ r ∧ r ≤ 30000) ∧ (S.1 189 3 < S.1 189 2 → r = S.2.1 192 (S.1 189 3) / 16) ∧ (S.1 189 2 ≤ S.1 189 3 → r = -1)))) 0 0 (sF G) := by
  refine sEnter (by decide) (Nat.le_of_ble_eq_true rfl) ?_
  intro p e s m args below meth c Cx hr hlk hnm hW ls hl
  have Cx : sC G p m c cX4_start 1 s args RX4 := Cx
  obtain ⟨hx, hb, hml, hown, hts⟩ := id Cx.1
  have hL : sL G [] := sL_nil
  have hl : lv_has ls 1 [(0, .ref (G.2.2.1 + 189))] := hl
  have hW0 := hW
  refine lv_aload_n hx hb dX4_start_0 rfl (lv_at hl 0 rfl) ?_
  have q_1 : 0 ≤ S.1 189 3 ∧ S.1 189 3 ≤ 1000000000 := hI.fi 189 3 4 (by decide) rfl
  refine g_X4_40 Cx hW (k := 189) (by decide) rfl (v := S.1 189 3) rfl dX4_start_1 ?_
  refine lv_aload_n hx hb dX4_start_4 rfl (lv_at hl 0 rfl) ?_
  have q_2 : 0 ≤ S.1 189 2 ∧ S.1 189 2 ≤ 30001 := hI.fi 189 2 4 (by decide) rfl
  refine g_X4_24 Cx hW (k := 189) (by decide) rfl (v := S.1 189 2) rfl dX4_start_5 ?_
  refine r_icmp_ge (tgt := 26) hx hb ⟨(by omega), (by omega)⟩ ⟨(by omega), (by omega)⟩ dX4_start_8 (by decide) (fun c_3 => ?_) (fun c_3 => ?_)
  · refine lv_iconst (v := iv (-1)) hx hb dX4_start_26 (by decide) ?_
    exact sIret Cx hr hlk hW hL ⟨rfl, (by omega)⟩ dX4_start_27
  · refine lv_aload_n hx hb dX4_start_11 rfl (lv_at hl 0 rfl) ?_
    refine g_X4_20 Cx hW (k := 189) (by decide) rfl (v := .ref (G.2.2.1 + 192)) (rf_189_1 hI) dX4_start_12 ?_
    refine lv_aload_n hx hb dX4_start_15 rfl (lv_at hl 0 rfl) ?_
    refine g_X4_40 Cx hW (k := 189) (by decide) rfl (v := S.1 189 3) rfl dX4_start_16 ?_
    refine rIald Cx hW (k := 192) (by decide) rfl (by decide) (by omega) (by omega) dX4_start_19 ?_
    have q_4 : 0 ≤ S.2.1 192 (S.1 189 3) ∧ S.2.1 192 (S.1 189 3) ≤ 480015 := hI.ai 192 (S.1 189 3) (by decide)
    refine r_i (b := S.2.1 192 (S.1 189 3)) rfl ?_
    refine lv_bipush (v := iv 16) hx hb dX4_start_20 (by decide) ?_
    refine r_idiv hx hb ⟨(by omega), (by omega)⟩ ⟨(by omega), (by omega)⟩ (by omega) dX4_start_22 ?_
    refine r_i (b := (S.2.1 192 (S.1 189 3)) / 16) (Int.tdiv_eq_ediv_of_nonneg (by omega)) ?_
    refine lv_goto (tgt := 27) hx hb dX4_start_23 (by decide) ?_
    exact sIret Cx hr hlk hW hL ⟨rfl, (by omega)⟩ dX4_start_27

set_option maxRecDepth 100000 in
set_option maxHeartbeats 4000000 in
theorem s_X4_rewind (l : Launch) (G : sG) (S : sS)  (hI : cX G S 0 0 0) : Met l yX4_rewind (.code yX4_rewind cX4_rewind 1 none :: tb) (rmk 1 0 0) (sPc G 294 S [.ref (G.2.2.1 + 189)]) (sQv G 294 (fun u => cX G u 0 0 0 ∧ Fr S u (p1 189) ∧ (u = uF S 189 3 0))) 0 0 (sF G) := by
  refine sEnter (by decide) (Nat.le_of_ble_eq_true rfl) ?_
  intro p e s m args below meth c Cx hr hlk hnm hW ls hl
  have Cx : sC G p m c cX4_rewind 1 s args RX4 := Cx
  obtain ⟨hx, hb, hml, hown, hts⟩ := id Cx.1
  have hL : sL G [] := sL_nil
  have hl : lv_has ls 1 [(0, .ref (G.2.2.1 + 189))] := hl
  have hW0 := hW
  refine lv_aload_n hx hb dX4_rewind_0 rfl (lv_at hl 0 rfl) ?_
  refine lv_iconst (v := iv 0) hx hb dX4_rewind_1 (by decide) ?_
  refine p_X4_40 Cx hW hL (k := 189) (by decide) rfl dX4_rewind_2 (fun H locs hW hL => ?_)
  have F_1 : Fr S (uF S 189 3 0) (p1 189) := (Fr.rf : Fr S S (p1 189)).F rfl
  have i_2 : cX G (uF S 189 3 0) 0 0 0 := hI.F rfl rfl (show 0 ≤ 0 ∧ 0 ≤ 1000000000 from ⟨by omega, by omega⟩)
  exact sVret Cx hr hlk hW hL ⟨i_2, F_1, rfl⟩ dX4_rewind_5

set_option maxRecDepth 100000 in
set_option maxHeartbeats 4000000 in
theorem s_X4_advance (l : Launch) (G : sG) (S : sS)  (hI : cX G S 0 0 0) (hat : S.1 189 3 ≤ 999999999) : Met l yX4_advance (.code yX4_advance cX4_advance 1 none :: tb) (rmk 1 0 0) (sPc G 294 S [.ref (G.2.2.1 + 189)]) (sQv G 294 (fun u => cX G u 0 0 0 ∧ Fr S u (p1 189) ∧ (u = uF S 189 3 (S.1 189 3 + 1)))) 0 0 (sF G) := by
  refine sEnter (by decide) (Nat.le_of_ble_eq_true rfl) ?_
  intro p e s m args below meth c Cx hr hlk hnm hW ls hl
  have Cx : sC G p m c cX4_advance 1 s args RX4 := Cx
  obtain ⟨hx, hb, hml, hown, hts⟩ := id Cx.1
  have hL : sL G [] := sL_nil
  have hl : lv_has ls 1 [(0, .ref (G.2.2.1 + 189))] := hl
  have hW0 := hW
  refine lv_aload_n hx hb dX4_advance_0 rfl (lv_at hl 0 rfl) ?_
  refine lv_dup hx hb dX4_advance_1 rfl ?_
  have q_1 : 0 ≤ S.1 189 3 ∧ S.1 189 3 ≤ 1000000000 := hI.fi 189 3 4 (by decide) rfl
  refine g_X4_40 Cx hW (k := 189) (by decide) rfl (v := S.1 189 3) rfl dX4_advance_2 ?_
  refine lv_iconst (v := iv 1) hx hb dX4_advance_5 (by decide) ?_
  refine r_iadd hx hb dX4_advance_6 ?_
  refine p_X4_40 Cx hW hL (k := 189) (by decide) rfl dX4_advance_7 (fun H locs hW hL => ?_)
  have F_2 : Fr S (uF S 189 3 ((S.1 189 3) + 1)) (p1 189) := (Fr.rf : Fr S S (p1 189)).F rfl
  have i_3 : cX G (uF S 189 3 ((S.1 189 3) + 1)) 0 0 0 := hI.F rfl rfl (show 0 ≤ (S.1 189 3) + 1 ∧ (S.1 189 3) + 1 ≤ 1000000000 from ⟨by omega, by omega⟩)
  exact sVret Cx hr hlk hW hL ⟨i_3, F_2, rfl⟩ dX4_advance_10

set_option maxRecDepth 100000 in
set_option maxHeartbeats 4000000 in
theorem s_X4_mark (l : Launch) (G : sG) (S : sS) {kd sr : Int} (hI : cX G S 0 0 0) (hkd : 0 ≤ kd ∧ kd ≤ 15) (hsr : 0 ≤ sr ∧ sr ≤ 30000) : Met l yX4_mark (.code yX4_mark cX4_mark 3 none :: tb) (rmk 1 0 0) (sPc G 294 S [.ref (G.2.2.1 + 189), .int (iv kd), .int (iv sr)]) (sQv G 294 (fun u => cX G u 0 0 0 ∧ Fr S u pRd ∧ (MK S u kd sr))) 0 0 (sF G) := by
  refine sEnter (by decide) (Nat.le_of_ble_eq_true rfl) ?_
  intro p e s m args below meth c Cx hr hlk hnm hW ls hl
  have Cx : sC G p m c cX4_mark 3 s args RX4 := Cx
  obtain ⟨hx, hb, hml, hown, hts⟩ := id Cx.1
  have hL : sL G [] := sL_nil
  have hl : lv_has ls 3 [(0, .ref (G.2.2.1 + 189)), (1, .int (iv kd)), (2, .int (iv sr))] := hl
  have hW0 := hW
  refine lv_aload_n hx hb dX4_mark_0 rfl (lv_at hl 0 rfl) ?_
  have q_1 : 0 ≤ S.1 189 2 ∧ S.1 189 2 ≤ 30001 := hI.fi 189 2 4 (by decide) rfl
  refine g_X4_24 Cx hW (k := 189) (by decide) rfl (v := S.1 189 2) rfl dX4_mark_1 ?_
  refine lv_aload_n hx hb dX4_mark_4 rfl (lv_at hl 0 rfl) ?_
  refine g_X4_20 Cx hW (k := 189) (by decide) rfl (v := .ref (G.2.2.1 + 192)) (rf_189_1 hI) dX4_mark_5 ?_
  refine sAlen Cx hW (k := 192) (by decide) rfl 0 rfl dX4_mark_8 ?_
  refine r_icmp_ge (tgt := 37) hx hb ⟨(by omega), (by omega)⟩ ⟨(by omega), (by omega)⟩ dX4_mark_9 (by decide) (fun c_2 => ?_) (fun c_2 => ?_)
  · exact sVret Cx hr hlk hW hL ⟨hI, (Fr.rf : Fr S S pRd), (.inr ⟨(by omega), rfl⟩)⟩ dX4_mark_37
  · refine lv_aload_n hx hb dX4_mark_12 rfl (lv_at hl 0 rfl) ?_
    refine g_X4_20 Cx hW (k := 189) (by decide) rfl (v := .ref (G.2.2.1 + 192)) (rf_189_1 hI) dX4_mark_13 ?_
    refine lv_aload_n hx hb dX4_mark_16 rfl (lv_at hl 0 rfl) ?_
    refine g_X4_24 Cx hW (k := 189) (by decide) rfl (v := S.1 189 2) rfl dX4_mark_17 ?_
    refine lv_iload_n hx hb dX4_mark_20 rfl (lv_at hl 2 rfl) ?_
    refine lv_bipush (v := iv 16) hx hb dX4_mark_21 (by decide) ?_
    refine r_imul hx hb dX4_mark_23 ?_
    refine lv_iload_n hx hb dX4_mark_24 rfl (lv_at hl 1 rfl) ?_
    refine r_iadd hx hb dX4_mark_25 ?_
    refine rIast Cx hW hL (k := 192) (by decide) rfl (by decide) (by omega) (by omega) dX4_mark_26 (fun H locs hW hL => ?_)
    have F_3 : Fr S (uA S 192 (S.1 189 2) ((sr * 16) + kd)) pRd := (Fr.rf : Fr S S pRd).A rfl
    have i_4 : cX G (uA S 192 (S.1 189 2) ((sr * 16) + kd)) 0 0 0 := hI.A (by decide) (by decide) (by decide) (show 0 ≤ (sr * 16) + kd ∧ (sr * 16) + kd ≤ 480015 from ⟨by omega, by omega⟩)
    refine lv_aload_n hx hb dX4_mark_27 rfl (lv_at hl 0 rfl) ?_
    refine lv_dup hx hb dX4_mark_28 rfl ?_
    refine g_X4_24 Cx hW (k := 189) (by decide) rfl (v := S.1 189 2) uA_f dX4_mark_29 ?_
    refine lv_iconst (v := iv 1) hx hb dX4_mark_32 (by decide) ?_
    refine r_iadd hx hb dX4_mark_33 ?_
    refine p_X4_24 Cx hW hL (k := 189) (by decide) rfl dX4_mark_34 (fun H locs hW hL => ?_)
    have F_5 : Fr S (uF (uA S 192 (S.1 189 2) ((sr * 16) + kd)) 189 2 ((S.1 189 2) + 1)) pRd := F_3.F rfl
    have i_6 : cX G (uF (uA S 192 (S.1 189 2) ((sr * 16) + kd)) 189 2 ((S.1 189 2) + 1)) 0 0 0 := i_4.F rfl rfl (show 0 ≤ (S.1 189 2) + 1 ∧ (S.1 189 2) + 1 ≤ 30001 from ⟨by omega, by omega⟩)
    exact sVret Cx hr hlk hW hL ⟨i_6, F_5, (.inl ⟨(by omega), rfl⟩)⟩ dX4_mark_37

set_option maxRecDepth 100000 in
set_option maxHeartbeats 4000000 in
theorem s_X4_behindDigits (l : Launch) (G : sG) (S : sS) {f ln : Int} (hI : cX G S 0 0 0) (hf : -1 ≤ f ∧ f ≤ 30001) (hln : ln = S.1 1 1) (hrt : RT G S) : Met l yX4_behindDigits (.code yX4_behindDigits cX4_behindDigits 4 (some .int) :: tb) (rmk 2 0 0) (sPc G 294 S [.ref (G.2.2.1 + 189), .int (iv f), .int (iv ln)]) (sQi G 294 (fun r u => u = S ∧ ((f ≤ r ∧ r ≤ 30001) ∧ Hd ((∀ k, f ≤ k → k < r → dgt S k) ∧ ¬ dgt S r)))) 0 0 (sF G) := by
  refine sEnter (by decide) (Nat.le_of_ble_eq_true rfl) ?_
  intro p e s m args below meth c Cx hr hlk hnm hW ls hl
  have Cx : sC G p m c cX4_behindDigits 4 s args RX4 := Cx
  obtain ⟨hx, hb, hml, hown, hts⟩ := id Cx.1
  have hL : sL G [] := sL_nil
  have hl : lv_has ls 4 [(0, .ref (G.2.2.1 + 189)), (1, .int (iv f)), (2, .int (iv ln))] := hl
  have hW0 := hW
  have hl1 : 0 ≤ S.1 1 1 ∧ S.1 1 1 ≤ 30000 := hI.fi 1 1 10 (by decide) rfl
  refine lv_iload_n hx hb dX4_behindDigits_0 rfl (lv_at hl 1 rfl) ?_
  refine lv_istore_n (lv' := [(3, .int (iv f)), (0, .ref (G.2.2.1 + 189)), (1, .int (iv f)), (2, .int (iv ln))]) hx hb dX4_behindDigits_1 rfl hl (by decide) rfl (fun ls hl => ?_)
  have loop_2 : ∀ (fuel : Nat) (k : Int) (H : Heap) (locs : List Loc) (ls : Array Slot), (ln - k).toNat < fuel → (f ≤ k ∧ k ≤ 30001) → (∀ j, f ≤ j → j < k → dgt S j) → sW G 294 S H → sL G locs → lv_has ls 4 [(3, .int (iv k)), (0, .ref (G.2.2.1 + 189)), (1, .int (iv f)), (2, .int (iv ln))] → W p l e (rmk 2 0 0) s m args below meth c H locs 0 0 (MQ below (sQi G 294 (fun r u => u = S ∧ ((f ≤ r ∧ r ≤ 30001) ∧ Hd ((∀ k, f ≤ k → k < r → dgt S k) ∧ ¬ dgt S r)))) args s 0 0 (sF G)) (F0 m 2 ls []) := by
    intro fuel
    induction fuel with
    | zero => intro k H locs ls hmeas hk hd hW hL hl; exact absurd hmeas (Nat.not_lt_zero _)
    | succ fuel ih_2 =>
      intro k H locs ls hmeas hk hd hW hL hl
      refine lv_iload_n hx hb dX4_behindDigits_2 rfl (lv_at hl 0 rfl) ?_
      refine lv_iload_n hx hb dX4_behindDigits_3 rfl (lv_at hl 3 rfl) ?_
      refine r_icmp_ge (tgt := 27) hx hb ⟨(by omega), (by omega)⟩ ⟨(by omega), (by omega)⟩ dX4_behindDigits_4 (by decide) (fun c_1 => ?_) (fun c_1 => ?_)
      · refine lv_iload_n hx hb dX4_behindDigits_27 rfl (lv_at hl 0 rfl) ?_
        exact sIret Cx hr hlk hW hL ⟨rfl, ⟨(by omega), hd, (by show ¬ (48 ≤ bt S 1 k ∧ bt S 1 k ≤ 57); first | (rw [bt_out (by omega)]; omega) | omega)⟩⟩ dX4_behindDigits_28
      · refine lv_aload_n hx hb dX4_behindDigits_7 rfl (lv_at hl 1 rfl) ?_
        refine g_X4_14 Cx hW (k := 189) (by decide) rfl (v := .ref (G.2.2.1 + 1)) hrt dX4_behindDigits_8 ?_
        refine lv_iload_n hx hb dX4_behindDigits_11 rfl (lv_at hl 0 rfl) ?_
        have q_2 : 0 ≤ S.1 1 1 ∧ S.1 1 1 ≤ 30000 := hI.fi 1 1 10 (by decide) rfl
        refine sBi (sV (As := [.int (iv k)]) (rest := []) (k := 1) Cx (s_X10_byteAt l G S (o := 1) (k := k) (N := 30000) hI ⟨by decide, rfl, rfl, rfl, rfl, by decide⟩ (by omega)) (c_X4_43 Cx rfl rfl (rmk_ok (by omega) (by decide))) hW (by decide) rfl rfl rfl hl.1 rfl (Nat.le_of_ble_eq_true rfl) dX4_behindDigits_12 ⟨Nat.le_of_ble_eq_true rfl, Nat.le_of_ble_eq_true rfl⟩) hL (fun r_5 u_3 H locs k_4 hW hL => ?_)
        obtain ⟨eu_3, xu_3⟩ := k_4
        rw [eu_3] at hW
        refine sBi (sSt (As := [.int (iv r_5)]) (rest := []) Cx (s_X8_isDigit l G S (k := r_5) (by omega)) (c_X4_56 Cx rfl rfl (rmk_ok (by omega) (by decide))) hW rfl hl.1 rfl (Nat.le_of_ble_eq_true rfl) dX4_behindDigits_15 ⟨Nat.le_of_ble_eq_true rfl, Nat.le_of_ble_eq_true rfl⟩) hL (fun r_8 u_6 H locs k_7 hW hL => ?_)
        obtain ⟨eu_6, xu_6⟩ := k_7
        rw [eu_6] at hW
        refine r_if_eq (tgt := 27) hx hb ⟨(by omega), (by omega)⟩ dX4_behindDigits_18 (by decide) (fun c_9 => ?_) (fun c_9 => ?_)
        · refine lv_iload_n hx hb dX4_behindDigits_27 rfl (lv_at hl 0 rfl) ?_
          exact sIret Cx hr hlk hW hL ⟨rfl, ⟨(by omega), hd, (by show ¬ (48 ≤ bt S 1 k ∧ bt S 1 k ≤ 57); first | (rw [bt_out (by omega)]; omega) | omega)⟩⟩ dX4_behindDigits_28
        · refine lv_iinc (v := iv (k + 1)) (lv' := [(3, .int (iv (k + 1))), (0, .ref (G.2.2.1 + 189)), (1, .int (iv f)), (2, .int (iv ln))]) hx hb dX4_behindDigits_21 hl (k := 0) rfl ((Int32.ofInt_add _ _).symm) (by decide) rfl (fun ls hl => ?_)
          refine lv_goto (tgt := 2) hx hb dX4_behindDigits_24 (by decide) ?_
          exact ih_2 (k + 1) _ _ _ (by omega) (by omega) (fun j a b => if q : j = k then (by rw [q]; show 48 ≤ bt S 1 k ∧ bt S 1 k ≤ 57; omega) else hd j a (by omega)) hW hL (lv_sub hl [0, 1, 2, 3] rfl)
  exact loop_2 (_ + 1) f _ _ _ (Nat.lt_succ_self _) (by omega) (fun j a b => absurd b (by omega)) hW hL (lv_sub hl [0, 1, 2, 3] rfl)

set_option maxRecDepth 100000 in
set_option maxHeartbeats 4000000 in
theorem s_X4_hasMoreThanNoughts (l : Launch) (G : sG) (S : sS) {f b : Int} (hI : cX G S 0 0 0) (hf : -2147483648 ≤ f ∧ f ≤ 2147483647) (hb : -2147483648 ≤ b ∧ b ≤ 2147483647) (hrt : RT G S) : Met l yX4_hasMoreThanNoughts (.code yX4_hasMoreThanNoughts cX4_hasMoreThanNoughts 4 (some .boolean) :: tb) (rmk 2 0 0) (sPc G 294 S [.ref (G.2.2.1 + 189), .int (iv f), .int (iv b)]) (sQi G 294 (fun r u => u = S ∧ (0 ≤ r ∧ r ≤ 1))) 0 0 (sF G) := by
  refine sEnter (by decide) (Nat.le_of_ble_eq_true rfl) ?_
  intro p e s m args below meth c Cx hr hlk hnm hW ls hl
  have Cx : sC G p m c cX4_hasMoreThanNoughts 4 s args RX4 := Cx
  obtain ⟨hx, hb, hml, hown, hts⟩ := id Cx.1
  have hL : sL G [] := sL_nil
  have hl : lv_has ls 4 [(0, .ref (G.2.2.1 + 189)), (1, .int (iv f)), (2, .int (iv b))] := hl
  have hW0 := hW
  have hl1 : 0 ≤ S.1 1 1 ∧ S.1 1 1 ≤ 30000 := hI.fi 1 1 10 (by decide) rfl
  refine lv_iload_n hx hb dX4_hasMoreThanNoughts_0 rfl (lv_at hl 1 rfl) ?_
  refine lv_istore_n (lv' := [(3, .int (iv f)), (0, .ref (G.2.2.1 + 189)), (1, .int (iv f)), (2, .int (iv b))]) hx hb dX4_hasMoreThanNoughts_1 rfl hl (by decide) rfl (fun ls hl => ?_)
  have loop_2 : ∀ (fuel : Nat) (k : Int) (H : Heap) (locs : List Loc) (ls : Array Slot), (b - k).toNat < fuel → (f ≤ k ∧ k ≤ 2147483647) → sW G 294 S H → sL G locs → lv_has ls 4 [(3, .int (iv k)), (0, .ref (G.2.2.1 + 189)), (1, .int (iv f)), (2, .int (iv b))] → W p l e (rmk 2 0 0) s m args below meth c H locs 0 0 (MQ below (sQi G 294 (fun r u => u = S ∧ (0 ≤ r ∧ r ≤ 1))) args s 0 0 (sF G)) (F0 m 2 ls []) := by
    intro fuel
    induction fuel with
    | zero => intro k H locs ls hmeas hk hW hL hl; exact absurd hmeas (Nat.not_lt_zero _)
    | succ fuel ih_2 =>
      intro k H locs ls hmeas hk hW hL hl
      refine lv_iload_n hx hb dX4_hasMoreThanNoughts_2 rfl (lv_at hl 0 rfl) ?_
      refine lv_iload_n hx hb dX4_hasMoreThanNoughts_3 rfl (lv_at hl 3 rfl) ?_
      refine r_icmp_ge (tgt := 28) hx hb ⟨(by omega), (by omega)⟩ ⟨(by omega), (by omega)⟩ dX4_hasMoreThanNoughts_4 (by decide) (fun c_1 => ?_) (fun c_1 => ?_)
      · refine lv_iconst (v := iv 0) hx hb dX4_hasMoreThanNoughts_28 (by decide) ?_
        exact sZret Cx hr hlk hW hL (by omega) ⟨rfl, (by omega)⟩ dX4_hasMoreThanNoughts_29
      · refine lv_aload_n hx hb dX4_hasMoreThanNoughts_7 rfl (lv_at hl 1 rfl) ?_
        refine g_X4_14 Cx hW (k := 189) (by decide) rfl (v := .ref (G.2.2.1 + 1)) hrt dX4_hasMoreThanNoughts_8 ?_
        refine lv_iload_n hx hb dX4_hasMoreThanNoughts_11 rfl (lv_at hl 0 rfl) ?_
        have q_2 : 0 ≤ S.1 1 1 ∧ S.1 1 1 ≤ 30000 := hI.fi 1 1 10 (by decide) rfl
        refine sBi (sV (As := [.int (iv k)]) (rest := []) (k := 1) Cx (s_X10_byteAt l G S (o := 1) (k := k) (N := 30000) hI ⟨by decide, rfl, rfl, rfl, rfl, by decide⟩ (by omega)) (c_X4_43 Cx rfl rfl (rmk_ok (by omega) (by decide))) hW (by decide) rfl rfl rfl hl.1 rfl (Nat.le_of_ble_eq_true rfl) dX4_hasMoreThanNoughts_12 ⟨Nat.le_of_ble_eq_true rfl, Nat.le_of_ble_eq_true rfl⟩) hL (fun r_5 u_3 H locs k_4 hW hL => ?_)
        obtain ⟨eu_3, xu_3⟩ := k_4
        rw [eu_3] at hW
        refine lv_bipush (v := iv 48) hx hb dX4_hasMoreThanNoughts_15 (by decide) ?_
        refine r_icmp_eq (tgt := 22) hx hb ⟨(by omega), (by omega)⟩ ⟨(by omega), (by omega)⟩ dX4_hasMoreThanNoughts_17 (by decide) (fun c_6 => ?_) (fun c_6 => ?_)
        · refine lv_iinc (v := iv (k + 1)) (lv' := [(3, .int (iv (k + 1))), (0, .ref (G.2.2.1 + 189)), (1, .int (iv f)), (2, .int (iv b))]) hx hb dX4_hasMoreThanNoughts_22 hl (k := 0) rfl ((Int32.ofInt_add _ _).symm) (by decide) rfl (fun ls hl => ?_)
          refine lv_goto (tgt := 2) hx hb dX4_hasMoreThanNoughts_25 (by decide) ?_
          exact ih_2 (k + 1) _ _ _ (by omega) (by omega) hW hL (lv_sub hl [0, 1, 2, 3] rfl)
        · refine lv_iconst (v := iv 1) hx hb dX4_hasMoreThanNoughts_20 (by decide) ?_
          exact sZret Cx hr hlk hW hL (by omega) ⟨rfl, (by omega)⟩ dX4_hasMoreThanNoughts_21
  exact loop_2 (_ + 1) f _ _ _ (Nat.lt_succ_self _) (by omega) hW hL (lv_sub hl [0, 1, 2, 3] rfl)

set_option maxRecDepth 100000 in
set_option maxHeartbeats 4000000 in
theorem s_X4_word (l : Launch) (G : sG) (S : sS) {k : Int} (hk : -2147483648 ≤ k ∧ k ≤ 2147483647) : Met l yX4_word (.code yX4_word cX4_word 1 (some (.object "java/lang/String")) :: tb) (rmk 1 0 0) (sPc G 294 S [.int (iv k)]) (sQs G 294 (fun r u => u = S ∧ (r < 38))) 0 0 (sF G) := by
  refine sEnter (by decide) (Nat.le_of_ble_eq_true rfl) ?_
  intro p e s m args below meth c Cx hr hlk hnm hW ls hl
  have Cx : sC G p m c cX4_word 1 s args RX4 := Cx
  obtain ⟨hx, hb, hml, hown, hts⟩ := id Cx.1
  have hL : sL G [] := sL_nil
  have hl : lv_has ls 1 [(0, .int (iv k))] := hl
  have hW0 := hW
  refine lv_iload_n hx hb dX4_word_0 rfl (lv_at hl 0 rfl) ?_
  by_cases c_1 : k = 7
  · refine lv_tableIn (off := 47) (tgt := 48) hx hb dX4_word_1 (by rw [c_1]; decide) (by rw [c_1]; decide) (by rw [c_1]; decide) (by decide) ?_
    refine zLdc Cx 14 (by decide) ⟨rfl, rfl⟩ dX4_word_48 ?_
    exact sSret Cx hr hlk hW hL (v := 14) ⟨rfl, (by omega)⟩ dX4_word_50
  by_cases c_2 : k = 8
  · refine lv_tableIn (off := 50) (tgt := 51) hx hb dX4_word_1 (by rw [c_2]; decide) (by rw [c_2]; decide) (by rw [c_2]; decide) (by decide) ?_
    refine zLdc Cx 15 (by decide) ⟨rfl, rfl⟩ dX4_word_51 ?_
    exact sSret Cx hr hlk hW hL (v := 15) ⟨rfl, (by omega)⟩ dX4_word_53
  by_cases c_3 : k = 9
  · refine lv_tableIn (off := 53) (tgt := 54) hx hb dX4_word_1 (by rw [c_3]; decide) (by rw [c_3]; decide) (by rw [c_3]; decide) (by decide) ?_
    refine zLdc Cx 16 (by decide) ⟨rfl, rfl⟩ dX4_word_54 ?_
    exact sSret Cx hr hlk hW hL (v := 16) ⟨rfl, (by omega)⟩ dX4_word_56
  by_cases c_4 : k = 10
  · refine lv_tableIn (off := 56) (tgt := 57) hx hb dX4_word_1 (by rw [c_4]; decide) (by rw [c_4]; decide) (by rw [c_4]; decide) (by decide) ?_
    refine zLdc Cx 17 (by decide) ⟨rfl, rfl⟩ dX4_word_57 ?_
    exact sSret Cx hr hlk hW hL (v := 17) ⟨rfl, (by omega)⟩ dX4_word_59
  by_cases c_5 : k = 11
  · refine lv_tableIn (off := 59) (tgt := 60) hx hb dX4_word_1 (by rw [c_5]; decide) (by rw [c_5]; decide) (by rw [c_5]; decide) (by decide) ?_
    refine zLdc Cx 18 (by decide) ⟨rfl, rfl⟩ dX4_word_60 ?_
    exact sSret Cx hr hlk hW hL (v := 18) ⟨rfl, (by omega)⟩ dX4_word_62
  by_cases c_6 : k = 12
  · refine lv_tableIn (off := 62) (tgt := 63) hx hb dX4_word_1 (by rw [c_6]; decide) (by rw [c_6]; decide) (by rw [c_6]; decide) (by decide) ?_
    refine zLdc Cx 19 (by decide) ⟨rfl, rfl⟩ dX4_word_63 ?_
    exact sSret Cx hr hlk hW hL (v := 19) ⟨rfl, (by omega)⟩ dX4_word_65
  by_cases c_7 : k = 13
  · refine lv_tableIn (off := 65) (tgt := 66) hx hb dX4_word_1 (by rw [c_7]; decide) (by rw [c_7]; decide) (by rw [c_7]; decide) (by decide) ?_
    refine zLdc Cx 20 (by decide) ⟨rfl, rfl⟩ dX4_word_66 ?_
    exact sSret Cx hr hlk hW hL (v := 20) ⟨rfl, (by omega)⟩ dX4_word_68
  by_cases c_8 : k = 14
  · refine lv_tableIn (off := 68) (tgt := 69) hx hb dX4_word_1 (by rw [c_8]; decide) (by rw [c_8]; decide) (by rw [c_8]; decide) (by decide) ?_
    refine zLdc Cx 21 (by decide) ⟨rfl, rfl⟩ dX4_word_69 ?_
    exact sSret Cx hr hlk hW hL (v := 21) ⟨rfl, (by omega)⟩ dX4_word_71
  refine lv_tableOut (tgt := 72) hx hb dX4_word_1 (by rw [iv_toInt ⟨(by omega), (by omega)⟩]; omega) (by decide) ?_
  refine zLdc Cx 22 (by decide) ⟨rfl, rfl⟩ dX4_word_72 ?_
  exact sSret Cx hr hlk hW hL (v := 22) ⟨rfl, (by omega)⟩ dX4_word_74

set_option maxRecDepth 100000 in
set_option maxHeartbeats 4000000 in
theorem s_X4_isWord (l : Launch) (G : sG) (S : sS) {f b : Int} {si : Nat} (hI : cX G S 0 0 0) (hfb : 0 ≤ f ∧ f ≤ b ∧ b ≤ 30001) (hsi : si < 38) (hrt : RT G S) : Met l yX4_isWord (.code yX4_isWord cX4_isWord 5 (some .boolean) :: tb) (rmk 5 0 0) (sPc G 294 S [.ref (G.2.2.1 + 189), .int (iv f), .int (iv b), .ref (G.1.2 100 si)]) (sQi G 294 (fun r u => u = S ∧ (0 ≤ r ∧ r ≤ 1))) 0 0 (sF G) := by
  refine sEnter (by decide) (Nat.le_of_ble_eq_true rfl) ?_
  intro p e s m args below meth c Cx hr hlk hnm hW ls hl
  have Cx : sC G p m c cX4_isWord 5 s args RX4 := Cx
  obtain ⟨hx, hb, hml, hown, hts⟩ := id Cx.1
  have hL : sL G [] := sL_nil
  have hl : lv_has ls 5 [(0, .ref (G.2.2.1 + 189)), (1, .int (iv f)), (2, .int (iv b)), (3, .ref (G.1.2 100 si))] := hl
  have hW0 := hW
  have hnr := strN_r si hsi
  have hl1 : 0 ≤ S.1 1 1 ∧ S.1 1 1 ≤ 30000 := hI.fi 1 1 10 (by decide) rfl
  refine lv_aload_n hx hb dX4_isWord_0 rfl (lv_at hl 3 rfl) ?_
  refine sBi (sVz (As := []) (rest := []) (a := G.1.2 100 si) Cx (s_J0_length_8abf5 l G S (si := si) hsi) (c_X4_87 Cx rfl rfl (rmk_ok (by omega) (by decide))) hW (zRecv Cx hW0 hW hsi) rfl hl.1 rfl (Nat.le_of_ble_eq_true rfl) dX4_isWord_1 ⟨Nat.le_of_ble_eq_true rfl, Nat.le_of_ble_eq_true rfl⟩) hL (fun r_3 u_1 H locs k_2 hW hL => ?_)
  obtain ⟨eu_1, xu_1⟩ := k_2
  rw [eu_1] at hW
  refine lv_iload_n hx hb dX4_isWord_4 rfl (lv_at hl 2 rfl) ?_
  refine lv_iload_n hx hb dX4_isWord_5 rfl (lv_at hl 1 rfl) ?_
  refine r_isub hx hb dX4_isWord_6 ?_
  refine r_icmp_eq (tgt := 12) hx hb ⟨(by omega), (by omega)⟩ ⟨(by omega), (by omega)⟩ dX4_isWord_7 (by decide) (fun c_4 => ?_) (fun c_4 => ?_)
  · refine lv_iconst (v := iv 0) hx hb dX4_isWord_12 (by decide) ?_
    refine lv_istore (lv' := [(4, .int (iv 0)), (0, .ref (G.2.2.1 + 189)), (1, .int (iv f)), (2, .int (iv b)), (3, .ref (G.1.2 100 si))]) hx hb dX4_isWord_13 hl (by decide) rfl (fun ls hl => ?_)
    have loop_15 : ∀ (fuel : Nat) (i : Int) (H : Heap) (locs : List Loc) (ls : Array Slot), (71 - i).toNat < fuel → (0 ≤ i ∧ i ≤ 70) → sW G 294 S H → sL G locs → lv_has ls 5 [(4, .int (iv i)), (0, .ref (G.2.2.1 + 189)), (1, .int (iv f)), (2, .int (iv b)), (3, .ref (G.1.2 100 si))] → W p l e (rmk 5 0 0) s m args below meth c H locs 0 0 (MQ below (sQi G 294 (fun r u => u = S ∧ (0 ≤ r ∧ r ≤ 1))) args s 0 0 (sF G)) (F0 m 15 ls []) := by
      intro fuel
      induction fuel with
      | zero => intro i H locs ls hmeas hi hW hL hl; exact absurd hmeas (Nat.not_lt_zero _)
      | succ fuel ih_15 =>
        intro i H locs ls hmeas hi hW hL hl
        refine lv_iload hx hb dX4_isWord_15 (lv_at hl 0 rfl) ?_
        refine lv_aload_n hx hb dX4_isWord_17 rfl (lv_at hl 4 rfl) ?_
        refine sBi (sVz (As := []) (rest := [.int (iv i)]) (a := G.1.2 100 si) Cx (s_J0_length_8abf5 l G S (si := si) hsi) (c_X4_87 Cx rfl rfl (rmk_ok (by omega) (by decide))) hW (zRecv Cx hW0 hW hsi) rfl hl.1 rfl (Nat.le_of_ble_eq_true rfl) dX4_isWord_18 ⟨Nat.le_of_ble_eq_true rfl, Nat.le_of_ble_eq_true rfl⟩) hL (fun r_7 u_5 H locs k_6 hW hL => ?_)
        obtain ⟨eu_5, xu_5⟩ := k_6
        rw [eu_5] at hW
        refine r_icmp_ge (tgt := 52) hx hb ⟨(by omega), (by omega)⟩ ⟨(by omega), (by omega)⟩ dX4_isWord_21 (by decide) (fun c_8 => ?_) (fun c_8 => ?_)
        · refine lv_iconst (v := iv 1) hx hb dX4_isWord_52 (by decide) ?_
          exact sZret Cx hr hlk hW hL (by omega) ⟨rfl, (by omega)⟩ dX4_isWord_53
        · refine lv_aload_n hx hb dX4_isWord_24 rfl (lv_at hl 1 rfl) ?_
          refine g_X4_14 Cx hW (k := 189) (by decide) rfl (v := .ref (G.2.2.1 + 1)) hrt dX4_isWord_25 ?_
          refine lv_iload_n hx hb dX4_isWord_28 rfl (lv_at hl 2 rfl) ?_
          refine lv_iload hx hb dX4_isWord_29 (lv_at hl 0 rfl) ?_
          refine r_iadd hx hb dX4_isWord_31 ?_
          have q_9 : 0 ≤ S.1 1 1 ∧ S.1 1 1 ≤ 30000 := hI.fi 1 1 10 (by decide) rfl
          refine sBi (sV (As := [.int (iv (f + i))]) (rest := []) (k := 1) Cx (s_X10_byteAt l G S (o := 1) (k := f + i) (N := 30000) hI ⟨by decide, rfl, rfl, rfl, rfl, by decide⟩ (by omega)) (c_X4_43 Cx rfl rfl (rmk_ok (by omega) (by decide))) hW (by decide) rfl rfl rfl hl.1 rfl (Nat.le_of_ble_eq_true rfl) dX4_isWord_32 ⟨Nat.le_of_ble_eq_true rfl, Nat.le_of_ble_eq_true rfl⟩) hL (fun r_12 u_10 H locs k_11 hW hL => ?_)
          obtain ⟨eu_10, xu_10⟩ := k_11
          rw [eu_10] at hW
          refine lv_aload_n hx hb dX4_isWord_35 rfl (lv_at hl 4 rfl) ?_
          refine lv_iload hx hb dX4_isWord_36 (lv_at hl 0 rfl) ?_
          refine sBi (sVz (As := [.int (iv i)]) (rest := [.int (iv r_12)]) (a := G.1.2 100 si) Cx (s_J0_charAt_5068e l G S (si := si) (k := i) hsi (by omega)) (c_X4_90 Cx rfl rfl (rmk_ok (by omega) (by decide))) hW (zRecv Cx hW0 hW hsi) rfl hl.1 rfl (Nat.le_of_ble_eq_true rfl) dX4_isWord_38 ⟨Nat.le_of_ble_eq_true rfl, Nat.le_of_ble_eq_true rfl⟩) hL (fun r_15 u_13 H locs k_14 hW hL => ?_)
          obtain ⟨eu_13, xu_13⟩ := k_14
          rw [eu_13] at hW
          refine r_icmp_eq (tgt := 46) hx hb ⟨(by omega), (by omega)⟩ ⟨(by omega), (by omega)⟩ dX4_isWord_41 (by decide) (fun c_16 => ?_) (fun c_16 => ?_)
          · refine lv_iinc (v := iv (i + 1)) (lv' := [(4, .int (iv (i + 1))), (0, .ref (G.2.2.1 + 189)), (1, .int (iv f)), (2, .int (iv b)), (3, .ref (G.1.2 100 si))]) hx hb dX4_isWord_46 hl (k := 0) rfl ((Int32.ofInt_add _ _).symm) (by decide) rfl (fun ls hl => ?_)
            refine lv_goto (tgt := 15) hx hb dX4_isWord_49 (by decide) ?_
            exact ih_15 (i + 1) _ _ _ (by omega) (by omega) hW hL (lv_sub hl [0, 1, 2, 3, 4] rfl)
          · refine lv_iconst (v := iv 0) hx hb dX4_isWord_44 (by decide) ?_
            exact sZret Cx hr hlk hW hL (by omega) ⟨rfl, (by omega)⟩ dX4_isWord_45
    exact loop_15 (_ + 1) 0 _ _ _ (Nat.lt_succ_self _) (by omega) hW hL (lv_sub hl [0, 1, 2, 3, 4] rfl)
  · refine lv_iconst (v := iv 0) hx hb dX4_isWord_10 (by decide) ?_
    exact sZret Cx hr hlk hW hL (by omega) ⟨rfl, (by omega)⟩ dX4_isWord_11

set_option maxRecDepth 100000 in
set_option maxHeartbeats 4000000 in
theorem s_X4_scanNumber (l : Launch) (G : sG) (S : sS) {i0 ln : Int} (hI : cX G S 0 0 0) (hi0 : 0 ≤ i0 ∧ i0 < ln) (hln : ln = S.1 1 1) (hrt : RT G S) (hrs : RS S) : Met l yX4_scanNumber (.code yX4_scanNumber cX4_scanNumber 7 (some .int) :: tb) (rmk 3 0 0) (sPc G 294 S [.ref (G.2.2.1 + 189), .int (iv i0), .int (iv ln)]) (sQi G 294 (fun r u => cX G u 0 0 0 ∧ Fr S u pRd ∧ ((0 ≤ r ∧ r ≤ 30001) ∧ RT G u ∧ RS u))) 0 0 (sF G) := by
  refine sEnter (by decide) (Nat.le_of_ble_eq_true rfl) ?_
  intro p e s m args below meth c Cx hr hlk hnm hW ls hl
  have Cx : sC G p m c cX4_scanNumber 7 s args RX4 := Cx
  obtain ⟨hx, hb, hml, hown, hts⟩ := id Cx.1
  have hL : sL G [] := sL_nil
  have hl : lv_has ls 7 [(0, .ref (G.2.2.1 + 189)), (1, .int (iv i0)), (2, .int (iv ln))] := hl
  have hW0 := hW
  have hl1 : 0 ≤ S.1 1 1 ∧ S.1 1 1 ≤ 30000 := hI.fi 1 1 10 (by decide) rfl
  have join_18 : ∀ (bw : Int) (H : Heap) (locs : List Loc) (ls : Array Slot), (0 ≤ bw ∧ bw ≤ 1) → ((bw = 1 → bt S 1 i0 = 45) ∧ (bw = 0 → bt S 1 i0 ≠ 45)) → sW G 294 S H → sL G locs → lv_has ls 7 [(0, .ref (G.2.2.1 + 189)), (1, .int (iv i0)), (2, .int (iv ln))] → W p l e (rmk 3 0 0) s m args below meth c H locs 0 0 (MQ below (sQi G 294 (fun r u => cX G u 0 0 0 ∧ Fr S u pRd ∧ ((0 ≤ r ∧ r ≤ 30001) ∧ RT G u ∧ RS u))) args s 0 0 (sF G)) (F0 m 18 ls [.int (iv bw)]) := by
    intro bw H locs ls hbw hb1 hW hL hl
    refine lv_istore_n (lv' := [(3, .int (iv bw)), (0, .ref (G.2.2.1 + 189)), (1, .int (iv i0)), (2, .int (iv ln))]) hx hb dX4_scanNumber_18 rfl hl (by decide) rfl (fun ls hl => ?_)
    have join_30 : ∀ (dg : Int) (H : Heap) (locs : List Loc) (ls : Array Slot), ((bw = 1 → dg = i0 + 1) ∧ (bw = 0 → dg = i0)) → sW G 294 S H → sL G locs → lv_has ls 7 [(3, .int (iv bw)), (0, .ref (G.2.2.1 + 189)), (1, .int (iv i0)), (2, .int (iv ln))] → W p l e (rmk 3 0 0) s m args below meth c H locs 0 0 (MQ below (sQi G 294 (fun r u => cX G u 0 0 0 ∧ Fr S u pRd ∧ ((0 ≤ r ∧ r ≤ 30001) ∧ RT G u ∧ RS u))) args s 0 0 (sF G)) (F0 m 30 ls [.int (iv dg)]) := by
      intro dg H locs ls hdg hW hL hl
      refine lv_istore (lv' := [(4, .int (iv dg)), (3, .int (iv bw)), (0, .ref (G.2.2.1 + 189)), (1, .int (iv i0)), (2, .int (iv ln))]) hx hb dX4_scanNumber_30 hl (by decide) rfl (fun ls hl => ?_)
      refine lv_aload_n hx hb dX4_scanNumber_32 rfl (lv_at hl 2 rfl) ?_
      refine lv_iload hx hb dX4_scanNumber_33 (lv_at hl 0 rfl) ?_
      refine lv_iload_n hx hb dX4_scanNumber_35 rfl (lv_at hl 4 rfl) ?_
      have q_1 : 0 ≤ S.1 1 1 ∧ S.1 1 1 ≤ 30000 := hI.fi 1 1 10 (by decide) rfl
      refine sBi (sV (As := [.int (iv dg), .int (iv ln)]) (rest := []) (k := 189) Cx (s_X4_behindDigits l G S (f := dg) (ln := ln) hI (by omega) (by omega) hrt) (c_X4_94 Cx rfl rfl (rmk_ok (by omega) (by decide))) hW (by decide) rfl rfl rfl hl.1 rfl (Nat.le_of_ble_eq_true rfl) dX4_scanNumber_36 ⟨Nat.le_of_ble_eq_true rfl, Nat.le_of_ble_eq_true rfl⟩) hL (fun be u_2 H locs k_3 hW hL => ?_)
      obtain ⟨eu_2, xu_2⟩ := k_3
      rw [eu_2] at hW
      refine lv_istore (lv' := [(5, .int (iv be)), (4, .int (iv dg)), (3, .int (iv bw)), (0, .ref (G.2.2.1 + 189)), (1, .int (iv i0)), (2, .int (iv ln))]) hx hb dX4_scanNumber_39 hl (by decide) rfl (fun ls hl => ?_)
      have join_78 : ∀ (bd : Int) (H : Heap) (locs : List Loc) (ls : Array Slot), (0 ≤ bd ∧ bd ≤ 1) → (bd = 0 → be - dg ≤ 60) → sW G 294 S H → sL G locs → lv_has ls 7 [(5, .int (iv be)), (4, .int (iv dg)), (3, .int (iv bw)), (0, .ref (G.2.2.1 + 189)), (1, .int (iv i0)), (2, .int (iv ln))] → W p l e (rmk 3 0 0) s m args below meth c H locs 0 0 (MQ below (sQi G 294 (fun r u => cX G u 0 0 0 ∧ Fr S u pRd ∧ ((0 ≤ r ∧ r ≤ 30001) ∧ RT G u ∧ RS u))) args s 0 0 (sF G)) (F0 m 78 ls [.int (iv bd)]) := by
        intro bd H locs ls hbd hb2 hW hL hl
        refine lv_istore (lv' := [(6, .int (iv bd)), (5, .int (iv be)), (4, .int (iv dg)), (3, .int (iv bw)), (0, .ref (G.2.2.1 + 189)), (1, .int (iv i0)), (2, .int (iv ln))]) hx hb dX4_scanNumber_78 hl (by decide) rfl (fun ls hl => ?_)
        refine lv_aload_n hx hb dX4_scanNumber_80 rfl (lv_at hl 4 rfl) ?_
        have join_91 : ∀ (kd : Int) (H : Heap) (locs : List Loc) (ls : Array Slot), (1 ≤ kd ∧ kd ≤ 2) → (kd = 2 → bd = 0) → sW G 294 S H → sL G locs → lv_has ls 7 [(6, .int (iv bd)), (5, .int (iv be)), (4, .int (iv dg)), (3, .int (iv bw)), (0, .ref (G.2.2.1 + 189)), (1, .int (iv i0)), (2, .int (iv ln))] → W p l e (rmk 3 0 0) s m args below meth c H locs 0 0 (MQ below (sQi G 294 (fun r u => cX G u 0 0 0 ∧ Fr S u pRd ∧ ((0 ≤ r ∧ r ≤ 30001) ∧ RT G u ∧ RS u))) args s 0 0 (sF G)) (F0 m 91 ls [.int (iv kd), .ref (G.2.2.1 + 189)]) := by
          intro kd H locs ls hkd hkb hW hL hl
          refine lv_iload_n hx hb dX4_scanNumber_91 rfl (lv_at hl 5 rfl) ?_
          refine sBv (sV (As := [.int (iv kd), .int (iv i0)]) (rest := []) (k := 189) Cx (s_X4_mark l G S (kd := kd) (sr := i0) hI (by omega) (by omega)) (c_X4_36 Cx rfl rfl (rmk_ok (by omega) (by decide))) hW (by decide) rfl rfl rfl hl.1 rfl (Nat.le_of_ble_eq_true rfl) dX4_scanNumber_92 ⟨Nat.le_of_ble_eq_true rfl, Nat.le_of_ble_eq_true rfl⟩) hL (fun u_4 H locs k_5 hW hL => ?_)
          obtain ⟨iu_4, fu_4, xu_4⟩ := k_5
          have F_6 := (Fr.rf : Fr S S pRd).trans fu_4
          have hrt2 : RT G u_4 := MK.rt xu_4 hrt
          have hrs2 : RS u_4 := MK.rs xu_4 hrs (by omega) (fun q => ⟨fun q2 => ⟨be, (by omega), (by omega), xu_2.2.2⟩, fun q2 => ⟨be, (by omega), (by omega), xu_2.2.2⟩⟩)
          refine lv_iload hx hb dX4_scanNumber_95 (lv_at hl 1 rfl) ?_
          refine lv_iload_n hx hb dX4_scanNumber_97 rfl (lv_at hl 5 rfl) ?_
          refine lv_iconst (v := iv 1) hx hb dX4_scanNumber_98 (by decide) ?_
          refine r_iadd hx hb dX4_scanNumber_99 ?_
          refine r_max hx hb (hml.trans hl.1.symm) hown (hts _ w_1802) (hts _ w_242) (hts _ w_206) (hts _ w_243) (rmk_f (by omega)) (rmk_l (by omega) (Nat.le_of_ble_eq_true rfl)) (Nat.le_of_ble_eq_true rfl) (Nat.le_of_ble_eq_true rfl) ⟨(by omega), (by omega)⟩ ⟨(by omega), (by omega)⟩ dX4_scanNumber_100 (fun z_7 hz_7 => ?_)
          exact sIret Cx hr hlk hW hL ⟨iu_4, F_6, ⟨(by omega), hrt2, hrs2⟩⟩ dX4_scanNumber_103
        refine lv_iload hx hb dX4_scanNumber_81 (lv_at hl 0 rfl) ?_
        refine r_if_eq (tgt := 90) hx hb ⟨(by omega), (by omega)⟩ dX4_scanNumber_83 (by decide) (fun c_8 => ?_) (fun c_8 => ?_)
        · refine lv_iconst (v := iv 2) hx hb dX4_scanNumber_90 (by decide) ?_
          exact join_91 2 _ _ _ (by omega) (by omega) hW hL (lv_sub hl [0, 1, 2, 3, 4, 5, 6] rfl)
        · refine lv_iconst (v := iv 1) hx hb dX4_scanNumber_86 (by decide) ?_
          refine lv_goto (tgt := 91) hx hb dX4_scanNumber_87 (by decide) ?_
          exact join_91 1 _ _ _ (by omega) (by omega) hW hL (lv_sub hl [0, 1, 2, 3, 4, 5, 6] rfl)
      refine lv_iload hx hb dX4_scanNumber_41 (lv_at hl 0 rfl) ?_
      refine lv_iload hx hb dX4_scanNumber_43 (lv_at hl 1 rfl) ?_
      refine r_icmp_eq (tgt := 73) hx hb ⟨(by omega), (by omega)⟩ ⟨(by omega), (by omega)⟩ dX4_scanNumber_45 (by decide) (fun c_9 => ?_) (fun c_9 => ?_)
      · refine lv_iconst (v := iv 1) hx hb dX4_scanNumber_73 (by decide) ?_
        refine lv_goto (tgt := 78) hx hb dX4_scanNumber_74 (by decide) ?_
        exact join_78 1 _ _ _ (by omega) (by omega) hW hL (lv_sub hl [0, 1, 2, 3, 4, 5] rfl)
      · refine lv_iload hx hb dX4_scanNumber_48 (lv_at hl 0 rfl) ?_
        refine lv_iload hx hb dX4_scanNumber_50 (lv_at hl 1 rfl) ?_
        refine r_isub hx hb dX4_scanNumber_52 ?_
        refine lv_bipush (v := iv 60) hx hb dX4_scanNumber_53 (by decide) ?_
        refine r_icmp_gt (tgt := 73) hx hb ⟨(by omega), (by omega)⟩ ⟨(by omega), (by omega)⟩ dX4_scanNumber_55 (by decide) (fun c_10 => ?_) (fun c_10 => ?_)
        · refine lv_iconst (v := iv 1) hx hb dX4_scanNumber_73 (by decide) ?_
          refine lv_goto (tgt := 78) hx hb dX4_scanNumber_74 (by decide) ?_
          exact join_78 1 _ _ _ (by omega) (by omega) hW hL (lv_sub hl [0, 1, 2, 3, 4, 5] rfl)
        · refine lv_iload_n hx hb dX4_scanNumber_58 rfl (lv_at hl 2 rfl) ?_
          refine r_if_eq (tgt := 77) hx hb ⟨(by omega), (by omega)⟩ dX4_scanNumber_59 (by decide) (fun c_11 => ?_) (fun c_11 => ?_)
          · refine lv_iconst (v := iv 0) hx hb dX4_scanNumber_77 (by decide) ?_
            exact join_78 0 _ _ _ (by omega) (by omega) hW hL (lv_sub hl [0, 1, 2, 3, 4, 5] rfl)
          · refine lv_aload_n hx hb dX4_scanNumber_62 rfl (lv_at hl 3 rfl) ?_
            refine lv_iload hx hb dX4_scanNumber_63 (lv_at hl 1 rfl) ?_
            refine lv_iload hx hb dX4_scanNumber_65 (lv_at hl 0 rfl) ?_
            refine sBi (sV (As := [.int (iv dg), .int (iv be)]) (rest := []) (k := 189) Cx (s_X4_hasMoreThanNoughts l G S (f := dg) (b := be) hI (by omega) (by omega) hrt) (c_X4_97 Cx rfl rfl (rmk_ok (by omega) (by decide))) hW (by decide) rfl rfl rfl hl.1 rfl (Nat.le_of_ble_eq_true rfl) dX4_scanNumber_67 ⟨Nat.le_of_ble_eq_true rfl, Nat.le_of_ble_eq_true rfl⟩) hL (fun r_14 u_12 H locs k_13 hW hL => ?_)
            obtain ⟨eu_12, xu_12⟩ := k_13
            rw [eu_12] at hW
            refine r_if_ne (tgt := 77) hx hb ⟨(by omega), (by omega)⟩ dX4_scanNumber_70 (by decide) (fun c_15 => ?_) (fun c_15 => ?_)
            · refine lv_iconst (v := iv 0) hx hb dX4_scanNumber_77 (by decide) ?_
              exact join_78 0 _ _ _ (by omega) (by omega) hW hL (lv_sub hl [0, 1, 2, 3, 4, 5] rfl)
            · refine lv_iconst (v := iv 1) hx hb dX4_scanNumber_73 (by decide) ?_
              refine lv_goto (tgt := 78) hx hb dX4_scanNumber_74 (by decide) ?_
              exact join_78 1 _ _ _ (by omega) (by omega) hW hL (lv_sub hl [0, 1, 2, 3, 4, 5] rfl)
    refine lv_iload_n hx hb dX4_scanNumber_19 rfl (lv_at hl 0 rfl) ?_
    refine r_if_eq (tgt := 29) hx hb ⟨(by omega), (by omega)⟩ dX4_scanNumber_20 (by decide) (fun c_16 => ?_) (fun c_16 => ?_)
    · refine lv_iload_n hx hb dX4_scanNumber_29 rfl (lv_at hl 2 rfl) ?_
      exact join_30 i0 _ _ _ (by omega) hW hL (lv_sub hl [0, 1, 2, 3] rfl)
    · refine lv_iload_n hx hb dX4_scanNumber_23 rfl (lv_at hl 2 rfl) ?_
      refine lv_iconst (v := iv 1) hx hb dX4_scanNumber_24 (by decide) ?_
      refine r_iadd hx hb dX4_scanNumber_25 ?_
      refine lv_goto (tgt := 30) hx hb dX4_scanNumber_26 (by decide) ?_
      exact join_30 (i0 + 1) _ _ _ (by omega) hW hL (lv_sub hl [0, 1, 2, 3] rfl)
  refine lv_aload_n hx hb dX4_scanNumber_0 rfl (lv_at hl 0 rfl) ?_
  refine g_X4_14 Cx hW (k := 189) (by decide) rfl (v := .ref (G.2.2.1 + 1)) hrt dX4_scanNumber_1 ?_
  refine lv_iload_n hx hb dX4_scanNumber_4 rfl (lv_at hl 1 rfl) ?_
  have q_17 : 0 ≤ S.1 1 1 ∧ S.1 1 1 ≤ 30000 := hI.fi 1 1 10 (by decide) rfl
  refine sBi (sV (As := [.int (iv i0)]) (rest := []) (k := 1) Cx (s_X10_byteAt l G S (o := 1) (k := i0) (N := 30000) hI ⟨by decide, rfl, rfl, rfl, rfl, by decide⟩ (by omega)) (c_X4_43 Cx rfl rfl (rmk_ok (by omega) (by decide))) hW (by decide) rfl rfl rfl hl.1 rfl (Nat.le_of_ble_eq_true rfl) dX4_scanNumber_5 ⟨Nat.le_of_ble_eq_true rfl, Nat.le_of_ble_eq_true rfl⟩) hL (fun r_20 u_18 H locs k_19 hW hL => ?_)
  obtain ⟨eu_18, xu_18⟩ := k_19
  rw [eu_18] at hW
  refine lv_bipush (v := iv 45) hx hb dX4_scanNumber_8 (by decide) ?_
  refine r_icmp_ne (tgt := 17) hx hb ⟨(by omega), (by omega)⟩ ⟨(by omega), (by omega)⟩ dX4_scanNumber_10 (by decide) (fun c_21 => ?_) (fun c_21 => ?_)
  · refine lv_iconst (v := iv 0) hx hb dX4_scanNumber_17 (by decide) ?_
    exact join_18 0 _ _ _ (by omega) (by omega) hW hL (lv_sub hl [0, 1, 2] rfl)
  · refine lv_iconst (v := iv 1) hx hb dX4_scanNumber_13 (by decide) ?_
    refine lv_goto (tgt := 18) hx hb dX4_scanNumber_14 (by decide) ?_
    exact join_18 1 _ _ _ (by omega) (by omega) hW hL (lv_sub hl [0, 1, 2] rfl)

set_option maxRecDepth 100000 in
set_option maxHeartbeats 4000000 in
theorem s_X4_scanWord (l : Launch) (G : sG) (S : sS) {i0 ln : Int} (hI : cX G S 0 0 0) (hi0 : 0 ≤ i0 ∧ i0 < ln) (hln : ln = S.1 1 1) (hrt : RT G S) (hrs : RS S) (hDG : DG S i0) : Met l yX4_scanWord (.code yX4_scanWord cX4_scanWord 6 (some .int) :: tb) (rmk 6 0 0) (sPc G 294 S [.ref (G.2.2.1 + 189), .int (iv i0), .int (iv ln)]) (sQi G 294 (fun r u => cX G u 0 0 0 ∧ Fr S u pRd ∧ ((0 ≤ r ∧ r ≤ 30001) ∧ RT G u ∧ RS u))) 0 0 (sF G) := by
  refine sEnter (by decide) (Nat.le_of_ble_eq_true rfl) ?_
  intro p e s m args below meth c Cx hr hlk hnm hW ls hl
  have Cx : sC G p m c cX4_scanWord 6 s args RX4 := Cx
  obtain ⟨hx, hb, hml, hown, hts⟩ := id Cx.1
  have hL : sL G [] := sL_nil
  have hl : lv_has ls 6 [(0, .ref (G.2.2.1 + 189)), (1, .int (iv i0)), (2, .int (iv ln))] := hl
  have hW0 := hW
  have hl1 : 0 ≤ S.1 1 1 ∧ S.1 1 1 ≤ 30000 := hI.fi 1 1 10 (by decide) rfl
  refine lv_iload_n hx hb dX4_scanWord_0 rfl (lv_at hl 1 rfl) ?_
  refine lv_istore_n (lv' := [(3, .int (iv i0)), (0, .ref (G.2.2.1 + 189)), (1, .int (iv i0)), (2, .int (iv ln))]) hx hb dX4_scanWord_1 rfl hl (by decide) rfl (fun ls hl => ?_)
  have loop_2 : ∀ (fuel : Nat) (bh : Int) (H : Heap) (locs : List Loc) (ls : Array Slot), (ln - bh).toNat < fuel → (i0 ≤ bh ∧ bh ≤ ln) → sW G 294 S H → sL G locs → lv_has ls 6 [(3, .int (iv bh)), (0, .ref (G.2.2.1 + 189)), (1, .int (iv i0)), (2, .int (iv ln))] → W p l e (rmk 6 0 0) s m args below meth c H locs 0 0 (MQ below (sQi G 294 (fun r u => cX G u 0 0 0 ∧ Fr S u pRd ∧ ((0 ≤ r ∧ r ≤ 30001) ∧ RT G u ∧ RS u))) args s 0 0 (sF G)) (F0 m 2 ls []) := by
    intro fuel
    induction fuel with
    | zero => intro bh H locs ls hmeas hbh hW hL hl; exact absurd hmeas (Nat.not_lt_zero _)
    | succ fuel ih_2 =>
      intro bh H locs ls hmeas hbh hW hL hl
      refine lv_iload_n hx hb dX4_scanWord_2 rfl (lv_at hl 0 rfl) ?_
      refine lv_iload_n hx hb dX4_scanWord_3 rfl (lv_at hl 3 rfl) ?_
      refine r_icmp_ge (tgt := 27) hx hb ⟨(by omega), (by omega)⟩ ⟨(by omega), (by omega)⟩ dX4_scanWord_4 (by decide) (fun c_1 => ?_) (fun c_1 => ?_)
      · refine lv_bipush (v := iv 6) hx hb dX4_scanWord_27 (by decide) ?_
        refine lv_istore (lv' := [(4, .int (iv 6)), (3, .int (iv bh)), (0, .ref (G.2.2.1 + 189)), (1, .int (iv i0)), (2, .int (iv ln))]) hx hb dX4_scanWord_29 hl (by decide) rfl (fun ls hl => ?_)
        refine lv_bipush (v := iv 7) hx hb dX4_scanWord_31 (by decide) ?_
        refine lv_istore (lv' := [(5, .int (iv 7)), (4, .int (iv 6)), (3, .int (iv bh)), (0, .ref (G.2.2.1 + 189)), (1, .int (iv i0)), (2, .int (iv ln))]) hx hb dX4_scanWord_33 hl (by decide) rfl (fun ls hl => ?_)
        have loop_35 : ∀ (fuel : Nat) (kk : Int) (kn : Int) (H : Heap) (locs : List Loc) (ls : Array Slot), (16 - kk).toNat < fuel → (6 ≤ kn ∧ kn ≤ 15) → (7 ≤ kk ∧ kk ≤ 16) → sW G 294 S H → sL G locs → lv_has ls 6 [(5, .int (iv kk)), (4, .int (iv kn)), (3, .int (iv bh)), (0, .ref (G.2.2.1 + 189)), (1, .int (iv i0)), (2, .int (iv ln))] → W p l e (rmk 6 0 0) s m args below meth c H locs 0 0 (MQ below (sQi G 294 (fun r u => cX G u 0 0 0 ∧ Fr S u pRd ∧ ((0 ≤ r ∧ r ≤ 30001) ∧ RT G u ∧ RS u))) args s 0 0 (sF G)) (F0 m 35 ls []) := by
          intro fuel
          induction fuel with
          | zero => intro kk kn H locs ls hmeas hkn hkk hW hL hl; exact absurd hmeas (Nat.not_lt_zero _)
          | succ fuel ih_35 =>
            intro kk kn H locs ls hmeas hkn hkk hW hL hl
            refine lv_iload hx hb dX4_scanWord_35 (lv_at hl 0 rfl) ?_
            refine lv_bipush (v := iv 15) hx hb dX4_scanWord_37 (by decide) ?_
            refine r_icmp_gt (tgt := 66) hx hb ⟨(by omega), (by omega)⟩ ⟨(by omega), (by omega)⟩ dX4_scanWord_39 (by decide) (fun c_2 => ?_) (fun c_2 => ?_)
            · refine lv_aload_n hx hb dX4_scanWord_66 rfl (lv_at hl 3 rfl) ?_
              refine lv_iload hx hb dX4_scanWord_67 (lv_at hl 1 rfl) ?_
              refine lv_iload_n hx hb dX4_scanWord_69 rfl (lv_at hl 4 rfl) ?_
              refine sBv (sV (As := [.int (iv kn), .int (iv i0)]) (rest := []) (k := 189) Cx (s_X4_mark l G S (kd := kn) (sr := i0) hI (by omega) (by omega)) (c_X4_36 Cx rfl rfl (rmk_ok (by omega) (by decide))) hW (by decide) rfl rfl rfl hl.1 rfl (Nat.le_of_ble_eq_true rfl) dX4_scanWord_70 ⟨Nat.le_of_ble_eq_true rfl, Nat.le_of_ble_eq_true rfl⟩) hL (fun u_3 H locs k_4 hW hL => ?_)
              obtain ⟨iu_3, fu_3, xu_3⟩ := k_4
              have F_5 := (Fr.rf : Fr S S pRd).trans fu_3
              have hrt2 : RT G u_3 := MK.rt xu_3 hrt
              have hrs2 : RS u_3 := MK.rs xu_3 hrs (by omega) (fun _ => hDG)
              refine lv_iload_n hx hb dX4_scanWord_73 rfl (lv_at hl 2 rfl) ?_
              exact sIret Cx hr hlk hW hL ⟨iu_3, F_5, ⟨(by omega), hrt2, hrs2⟩⟩ dX4_scanWord_74
            · refine lv_aload_n hx hb dX4_scanWord_42 rfl (lv_at hl 3 rfl) ?_
              refine lv_iload_n hx hb dX4_scanWord_43 rfl (lv_at hl 4 rfl) ?_
              refine lv_iload_n hx hb dX4_scanWord_44 rfl (lv_at hl 2 rfl) ?_
              refine lv_iload hx hb dX4_scanWord_45 (lv_at hl 0 rfl) ?_
              refine sBs (sSt (As := [.int (iv kk)]) (rest := [.int (iv bh), .int (iv i0), .ref (G.2.2.1 + 189)]) Cx (s_X4_word l G S (k := kk) (by omega)) (c_X4_62 Cx rfl rfl (rmk_ok (by omega) (by decide))) hW rfl hl.1 rfl (Nat.le_of_ble_eq_true rfl) dX4_scanWord_47 ⟨Nat.le_of_ble_eq_true rfl, Nat.le_of_ble_eq_true rfl⟩) hL (fun r_8 u_6 H locs k_7 hW hL => ?_)
              obtain ⟨eu_6, xu_6⟩ := k_7
              rw [eu_6] at hW
              have hsi := xu_6
              refine sBi (sV (As := [.int (iv i0), .int (iv bh), .ref (G.1.2 100 r_8)]) (rest := []) (k := 189) Cx (s_X4_isWord l G S (f := i0) (b := bh) (si := r_8) hI (by omega) hsi hrt) (c_X4_66 Cx rfl rfl (rmk_ok (by omega) (by decide))) hW (by decide) rfl rfl rfl hl.1 rfl (Nat.le_of_ble_eq_true rfl) dX4_scanWord_50 ⟨Nat.le_of_ble_eq_true rfl, Nat.le_of_ble_eq_true rfl⟩) hL (fun r_11 u_9 H locs k_10 hW hL => ?_)
              obtain ⟨eu_9, xu_9⟩ := k_10
              rw [eu_9] at hW
              refine r_if_eq (tgt := 60) hx hb ⟨(by omega), (by omega)⟩ dX4_scanWord_53 (by decide) (fun c_12 => ?_) (fun c_12 => ?_)
              · refine lv_iinc (v := iv (kk + 1)) (lv' := [(5, .int (iv (kk + 1))), (4, .int (iv kn)), (3, .int (iv bh)), (0, .ref (G.2.2.1 + 189)), (1, .int (iv i0)), (2, .int (iv ln))]) hx hb dX4_scanWord_60 hl (k := 0) rfl ((Int32.ofInt_add _ _).symm) (by decide) rfl (fun ls hl => ?_)
                refine lv_goto (tgt := 35) hx hb dX4_scanWord_63 (by decide) ?_
                exact ih_35 (kk + 1) kn _ _ _ (by omega) (by omega) (by omega) hW hL (lv_sub hl [0, 1, 2, 3, 4, 5] rfl)
              · refine lv_iload hx hb dX4_scanWord_56 (lv_at hl 0 rfl) ?_
                refine lv_istore (lv' := [(4, .int (iv kk)), (5, .int (iv kk)), (3, .int (iv bh)), (0, .ref (G.2.2.1 + 189)), (1, .int (iv i0)), (2, .int (iv ln))]) hx hb dX4_scanWord_58 hl (by decide) rfl (fun ls hl => ?_)
                refine lv_iinc (v := iv (kk + 1)) (lv' := [(5, .int (iv (kk + 1))), (4, .int (iv kk)), (3, .int (iv bh)), (0, .ref (G.2.2.1 + 189)), (1, .int (iv i0)), (2, .int (iv ln))]) hx hb dX4_scanWord_60 hl (k := 1) rfl ((Int32.ofInt_add _ _).symm) (by decide) rfl (fun ls hl => ?_)
                refine lv_goto (tgt := 35) hx hb dX4_scanWord_63 (by decide) ?_
                exact ih_35 (kk + 1) kk _ _ _ (by omega) (by omega) (by omega) hW hL (lv_sub hl [0, 1, 2, 3, 4, 5] rfl)
        exact loop_35 (_ + 1) 7 6 _ _ _ (Nat.lt_succ_self _) (by omega) (by omega) hW hL (lv_sub hl [0, 1, 2, 3, 4, 5] rfl)
      · refine lv_aload_n hx hb dX4_scanWord_7 rfl (lv_at hl 1 rfl) ?_
        refine g_X4_14 Cx hW (k := 189) (by decide) rfl (v := .ref (G.2.2.1 + 1)) hrt dX4_scanWord_8 ?_
        refine lv_iload_n hx hb dX4_scanWord_11 rfl (lv_at hl 0 rfl) ?_
        have q_13 : 0 ≤ S.1 1 1 ∧ S.1 1 1 ≤ 30000 := hI.fi 1 1 10 (by decide) rfl
        refine sBi (sV (As := [.int (iv bh)]) (rest := []) (k := 1) Cx (s_X10_byteAt l G S (o := 1) (k := bh) (N := 30000) hI ⟨by decide, rfl, rfl, rfl, rfl, by decide⟩ (by omega)) (c_X4_43 Cx rfl rfl (rmk_ok (by omega) (by decide))) hW (by decide) rfl rfl rfl hl.1 rfl (Nat.le_of_ble_eq_true rfl) dX4_scanWord_12 ⟨Nat.le_of_ble_eq_true rfl, Nat.le_of_ble_eq_true rfl⟩) hL (fun r_16 u_14 H locs k_15 hW hL => ?_)
        obtain ⟨eu_14, xu_14⟩ := k_15
        rw [eu_14] at hW
        refine sBi (sSt (As := [.int (iv r_16)]) (rest := []) Cx (s_X8_isLetter l G S (k := r_16) (by omega)) (c_X4_47 Cx rfl rfl (rmk_ok (by omega) (by decide))) hW rfl hl.1 rfl (Nat.le_of_ble_eq_true rfl) dX4_scanWord_15 ⟨Nat.le_of_ble_eq_true rfl, Nat.le_of_ble_eq_true rfl⟩) hL (fun r_19 u_17 H locs k_18 hW hL => ?_)
        obtain ⟨eu_17, xu_17⟩ := k_18
        rw [eu_17] at hW
        refine r_if_eq (tgt := 27) hx hb ⟨(by omega), (by omega)⟩ dX4_scanWord_18 (by decide) (fun c_20 => ?_) (fun c_20 => ?_)
        · refine lv_bipush (v := iv 6) hx hb dX4_scanWord_27 (by decide) ?_
          refine lv_istore (lv' := [(4, .int (iv 6)), (3, .int (iv bh)), (0, .ref (G.2.2.1 + 189)), (1, .int (iv i0)), (2, .int (iv ln))]) hx hb dX4_scanWord_29 hl (by decide) rfl (fun ls hl => ?_)
          refine lv_bipush (v := iv 7) hx hb dX4_scanWord_31 (by decide) ?_
          refine lv_istore (lv' := [(5, .int (iv 7)), (4, .int (iv 6)), (3, .int (iv bh)), (0, .ref (G.2.2.1 + 189)), (1, .int (iv i0)), (2, .int (iv ln))]) hx hb dX4_scanWord_33 hl (by decide) rfl (fun ls hl => ?_)
          have loop_35 : ∀ (fuel : Nat) (kk : Int) (kn : Int) (H : Heap) (locs : List Loc) (ls : Array Slot), (16 - kk).toNat < fuel → (6 ≤ kn ∧ kn ≤ 15) → (7 ≤ kk ∧ kk ≤ 16) → sW G 294 S H → sL G locs → lv_has ls 6 [(5, .int (iv kk)), (4, .int (iv kn)), (3, .int (iv bh)), (0, .ref (G.2.2.1 + 189)), (1, .int (iv i0)), (2, .int (iv ln))] → W p l e (rmk 6 0 0) s m args below meth c H locs 0 0 (MQ below (sQi G 294 (fun r u => cX G u 0 0 0 ∧ Fr S u pRd ∧ ((0 ≤ r ∧ r ≤ 30001) ∧ RT G u ∧ RS u))) args s 0 0 (sF G)) (F0 m 35 ls []) := by
            intro fuel
            induction fuel with
            | zero => intro kk kn H locs ls hmeas hkn hkk hW hL hl; exact absurd hmeas (Nat.not_lt_zero _)
            | succ fuel ih_35 =>
              intro kk kn H locs ls hmeas hkn hkk hW hL hl
              refine lv_iload hx hb dX4_scanWord_35 (lv_at hl 0 rfl) ?_
              refine lv_bipush (v := iv 15) hx hb dX4_scanWord_37 (by decide) ?_
              refine r_icmp_gt (tgt := 66) hx hb ⟨(by omega), (by omega)⟩ ⟨(by omega), (by omega)⟩ dX4_scanWord_39 (by decide) (fun c_21 => ?_) (fun c_21 => ?_)
              · refine lv_aload_n hx hb dX4_scanWord_66 rfl (lv_at hl 3 rfl) ?_
                refine lv_iload hx hb dX4_scanWord_67 (lv_at hl 1 rfl) ?_
                refine lv_iload_n hx hb dX4_scanWord_69 rfl (lv_at hl 4 rfl) ?_
                refine sBv (sV (As := [.int (iv kn), .int (iv i0)]) (rest := []) (k := 189) Cx (s_X4_mark l G S (kd := kn) (sr := i0) hI (by omega) (by omega)) (c_X4_36 Cx rfl rfl (rmk_ok (by omega) (by decide))) hW (by decide) rfl rfl rfl hl.1 rfl (Nat.le_of_ble_eq_true rfl) dX4_scanWord_70 ⟨Nat.le_of_ble_eq_true rfl, Nat.le_of_ble_eq_true rfl⟩) hL (fun u_22 H locs k_23 hW hL => ?_)
                obtain ⟨iu_22, fu_22, xu_22⟩ := k_23
                have F_24 := (Fr.rf : Fr S S pRd).trans fu_22
                have hrt2 : RT G u_22 := MK.rt xu_22 hrt
                have hrs2 : RS u_22 := MK.rs xu_22 hrs (by omega) (fun _ => hDG)
                refine lv_iload_n hx hb dX4_scanWord_73 rfl (lv_at hl 2 rfl) ?_
                exact sIret Cx hr hlk hW hL ⟨iu_22, F_24, ⟨(by omega), hrt2, hrs2⟩⟩ dX4_scanWord_74
              · refine lv_aload_n hx hb dX4_scanWord_42 rfl (lv_at hl 3 rfl) ?_
                refine lv_iload_n hx hb dX4_scanWord_43 rfl (lv_at hl 4 rfl) ?_
                refine lv_iload_n hx hb dX4_scanWord_44 rfl (lv_at hl 2 rfl) ?_
                refine lv_iload hx hb dX4_scanWord_45 (lv_at hl 0 rfl) ?_
                refine sBs (sSt (As := [.int (iv kk)]) (rest := [.int (iv bh), .int (iv i0), .ref (G.2.2.1 + 189)]) Cx (s_X4_word l G S (k := kk) (by omega)) (c_X4_62 Cx rfl rfl (rmk_ok (by omega) (by decide))) hW rfl hl.1 rfl (Nat.le_of_ble_eq_true rfl) dX4_scanWord_47 ⟨Nat.le_of_ble_eq_true rfl, Nat.le_of_ble_eq_true rfl⟩) hL (fun r_27 u_25 H locs k_26 hW hL => ?_)
                obtain ⟨eu_25, xu_25⟩ := k_26
                rw [eu_25] at hW
                have hsi := xu_25
                refine sBi (sV (As := [.int (iv i0), .int (iv bh), .ref (G.1.2 100 r_27)]) (rest := []) (k := 189) Cx (s_X4_isWord l G S (f := i0) (b := bh) (si := r_27) hI (by omega) hsi hrt) (c_X4_66 Cx rfl rfl (rmk_ok (by omega) (by decide))) hW (by decide) rfl rfl rfl hl.1 rfl (Nat.le_of_ble_eq_true rfl) dX4_scanWord_50 ⟨Nat.le_of_ble_eq_true rfl, Nat.le_of_ble_eq_true rfl⟩) hL (fun r_30 u_28 H locs k_29 hW hL => ?_)
                obtain ⟨eu_28, xu_28⟩ := k_29
                rw [eu_28] at hW
                refine r_if_eq (tgt := 60) hx hb ⟨(by omega), (by omega)⟩ dX4_scanWord_53 (by decide) (fun c_31 => ?_) (fun c_31 => ?_)
                · refine lv_iinc (v := iv (kk + 1)) (lv' := [(5, .int (iv (kk + 1))), (4, .int (iv kn)), (3, .int (iv bh)), (0, .ref (G.2.2.1 + 189)), (1, .int (iv i0)), (2, .int (iv ln))]) hx hb dX4_scanWord_60 hl (k := 0) rfl ((Int32.ofInt_add _ _).symm) (by decide) rfl (fun ls hl => ?_)
                  refine lv_goto (tgt := 35) hx hb dX4_scanWord_63 (by decide) ?_
                  exact ih_35 (kk + 1) kn _ _ _ (by omega) (by omega) (by omega) hW hL (lv_sub hl [0, 1, 2, 3, 4, 5] rfl)
                · refine lv_iload hx hb dX4_scanWord_56 (lv_at hl 0 rfl) ?_
                  refine lv_istore (lv' := [(4, .int (iv kk)), (5, .int (iv kk)), (3, .int (iv bh)), (0, .ref (G.2.2.1 + 189)), (1, .int (iv i0)), (2, .int (iv ln))]) hx hb dX4_scanWord_58 hl (by decide) rfl (fun ls hl => ?_)
                  refine lv_iinc (v := iv (kk + 1)) (lv' := [(5, .int (iv (kk + 1))), (4, .int (iv kk)), (3, .int (iv bh)), (0, .ref (G.2.2.1 + 189)), (1, .int (iv i0)), (2, .int (iv ln))]) hx hb dX4_scanWord_60 hl (k := 1) rfl ((Int32.ofInt_add _ _).symm) (by decide) rfl (fun ls hl => ?_)
                  refine lv_goto (tgt := 35) hx hb dX4_scanWord_63 (by decide) ?_
                  exact ih_35 (kk + 1) kk _ _ _ (by omega) (by omega) (by omega) hW hL (lv_sub hl [0, 1, 2, 3, 4, 5] rfl)
          exact loop_35 (_ + 1) 7 6 _ _ _ (Nat.lt_succ_self _) (by omega) (by omega) hW hL (lv_sub hl [0, 1, 2, 3, 4, 5] rfl)
        · refine lv_iinc (v := iv (bh + 1)) (lv' := [(3, .int (iv (bh + 1))), (0, .ref (G.2.2.1 + 189)), (1, .int (iv i0)), (2, .int (iv ln))]) hx hb dX4_scanWord_21 hl (k := 0) rfl ((Int32.ofInt_add _ _).symm) (by decide) rfl (fun ls hl => ?_)
          refine lv_goto (tgt := 2) hx hb dX4_scanWord_24 (by decide) ?_
          exact ih_2 (bh + 1) _ _ _ (by omega) (by omega) hW hL (lv_sub hl [0, 1, 2, 3] rfl)
  exact loop_2 (_ + 1) i0 _ _ _ (Nat.lt_succ_self _) (by omega) hW hL (lv_sub hl [0, 1, 2, 3] rfl)

set_option maxRecDepth 100000 in
set_option maxHeartbeats 4000000 in
theorem s_X4_scanOne (l : Launch) (G : sG) (S : sS) {i0 ln : Int} (hI : cX G S 0 0 0) (hi0 : 0 ≤ i0 ∧ i0 < ln) (hln : ln = S.1 1 1) (hrt : RT G S) (hrs : RS S) : Met l yX4_scanOne (.code yX4_scanOne cX4_scanOne 4 (some .int) :: tb) (rmk 7 0 0) (sPc G 294 S [.ref (G.2.2.1 + 189), .int (iv i0), .int (iv ln)]) (sQi G 294 (fun r u => cX G u 0 0 0 ∧ Fr S u pRd ∧ ((0 ≤ r ∧ r ≤ 30001) ∧ RT G u ∧ RS u))) 0 0 (sF G) := by
  refine sEnter (by decide) (Nat.le_of_ble_eq_true rfl) ?_
  intro p e s m args below meth c Cx hr hlk hnm hW ls hl
  have Cx : sC G p m c cX4_scanOne 4 s args RX4 := Cx
  obtain ⟨hx, hb, hml, hown, hts⟩ := id Cx.1
  have hL : sL G [] := sL_nil
  have hl : lv_has ls 4 [(0, .ref (G.2.2.1 + 189)), (1, .int (iv i0)), (2, .int (iv ln))] := hl
  have hW0 := hW
  have hl1 : 0 ≤ S.1 1 1 ∧ S.1 1 1 ≤ 30000 := hI.fi 1 1 10 (by decide) rfl
  refine lv_aload_n hx hb dX4_scanOne_0 rfl (lv_at hl 0 rfl) ?_
  refine g_X4_14 Cx hW (k := 189) (by decide) rfl (v := .ref (G.2.2.1 + 1)) hrt dX4_scanOne_1 ?_
  refine lv_iload_n hx hb dX4_scanOne_4 rfl (lv_at hl 1 rfl) ?_
  have q_1 : 0 ≤ S.1 1 1 ∧ S.1 1 1 ≤ 30000 := hI.fi 1 1 10 (by decide) rfl
  refine sBi (sV (As := [.int (iv i0)]) (rest := []) (k := 1) Cx (s_X10_byteAt l G S (o := 1) (k := i0) (N := 30000) hI ⟨by decide, rfl, rfl, rfl, rfl, by decide⟩ (by omega)) (c_X4_43 Cx rfl rfl (rmk_ok (by omega) (by decide))) hW (by decide) rfl rfl rfl hl.1 rfl (Nat.le_of_ble_eq_true rfl) dX4_scanOne_5 ⟨Nat.le_of_ble_eq_true rfl, Nat.le_of_ble_eq_true rfl⟩) hL (fun vb u_2 H locs k_3 hW hL => ?_)
  obtain ⟨eu_2, xu_2⟩ := k_3
  rw [eu_2] at hW
  refine lv_istore_n (lv' := [(3, .int (iv vb)), (0, .ref (G.2.2.1 + 189)), (1, .int (iv i0)), (2, .int (iv ln))]) hx hb dX4_scanOne_8 rfl hl (by decide) rfl (fun ls hl => ?_)
  refine lv_iload_n hx hb dX4_scanOne_9 rfl (lv_at hl 0 rfl) ?_
  refine lv_bipush (v := iv 32) hx hb dX4_scanOne_10 (by decide) ?_
  refine r_icmp_eq (tgt := 21) hx hb ⟨(by omega), (by omega)⟩ ⟨(by omega), (by omega)⟩ dX4_scanOne_12 (by decide) (fun c_4 => ?_) (fun c_4 => ?_)
  · refine lv_iload_n hx hb dX4_scanOne_21 rfl (lv_at hl 2 rfl) ?_
    refine lv_iconst (v := iv 1) hx hb dX4_scanOne_22 (by decide) ?_
    refine r_iadd hx hb dX4_scanOne_23 ?_
    exact sIret Cx hr hlk hW hL ⟨hI, (Fr.rf : Fr S S pRd), ⟨(by omega), hrt, hrs⟩⟩ dX4_scanOne_24
  · refine lv_iload_n hx hb dX4_scanOne_15 rfl (lv_at hl 0 rfl) ?_
    refine lv_bipush (v := iv 10) hx hb dX4_scanOne_16 (by decide) ?_
    refine r_icmp_ne (tgt := 25) hx hb ⟨(by omega), (by omega)⟩ ⟨(by omega), (by omega)⟩ dX4_scanOne_18 (by decide) (fun c_5 => ?_) (fun c_5 => ?_)
    · refine lv_iload_n hx hb dX4_scanOne_25 rfl (lv_at hl 0 rfl) ?_
      refine sBi (sSt (As := [.int (iv vb)]) (rest := []) Cx (s_X8_isLetter l G S (k := vb) (by omega)) (c_X4_47 Cx rfl rfl (rmk_ok (by omega) (by decide))) hW rfl hl.1 rfl (Nat.le_of_ble_eq_true rfl) dX4_scanOne_26 ⟨Nat.le_of_ble_eq_true rfl, Nat.le_of_ble_eq_true rfl⟩) hL (fun r_8 u_6 H locs k_7 hW hL => ?_)
      obtain ⟨eu_6, xu_6⟩ := k_7
      rw [eu_6] at hW
      refine r_if_eq (tgt := 39) hx hb ⟨(by omega), (by omega)⟩ dX4_scanOne_29 (by decide) (fun c_9 => ?_) (fun c_9 => ?_)
      · refine lv_iload_n hx hb dX4_scanOne_39 rfl (lv_at hl 0 rfl) ?_
        refine lv_bipush (v := iv 45) hx hb dX4_scanOne_40 (by decide) ?_
        refine r_icmp_eq (tgt := 52) hx hb ⟨(by omega), (by omega)⟩ ⟨(by omega), (by omega)⟩ dX4_scanOne_42 (by decide) (fun c_10 => ?_) (fun c_10 => ?_)
        · refine lv_aload_n hx hb dX4_scanOne_52 rfl (lv_at hl 1 rfl) ?_
          refine lv_iload_n hx hb dX4_scanOne_53 rfl (lv_at hl 2 rfl) ?_
          refine lv_iload_n hx hb dX4_scanOne_54 rfl (lv_at hl 3 rfl) ?_
          refine sBi (sV (As := [.int (iv i0), .int (iv ln)]) (rest := []) (k := 189) Cx (s_X4_scanNumber l G S (i0 := i0) (ln := ln) hI (by omega) (by omega) hrt hrs) (c_X4_59 Cx rfl rfl (rmk_ok (by omega) (by decide))) hW (by decide) rfl rfl rfl hl.1 rfl (Nat.le_of_ble_eq_true rfl) dX4_scanOne_55 ⟨Nat.le_of_ble_eq_true rfl, Nat.le_of_ble_eq_true rfl⟩) hL (fun r_13 u_11 H locs k_12 hW hL => ?_)
          obtain ⟨iu_11, fu_11, xu_11⟩ := k_12
          have F_14 := (Fr.rf : Fr S S pRd).trans fu_11
          exact sIret Cx hr hlk hW hL ⟨iu_11, F_14, ⟨(by omega), xu_11.2.1, xu_11.2.2⟩⟩ dX4_scanOne_58
        · refine lv_iload_n hx hb dX4_scanOne_45 rfl (lv_at hl 0 rfl) ?_
          refine sBi (sSt (As := [.int (iv vb)]) (rest := []) Cx (s_X8_isDigit l G S (k := vb) (by omega)) (c_X4_56 Cx rfl rfl (rmk_ok (by omega) (by decide))) hW rfl hl.1 rfl (Nat.le_of_ble_eq_true rfl) dX4_scanOne_46 ⟨Nat.le_of_ble_eq_true rfl, Nat.le_of_ble_eq_true rfl⟩) hL (fun r_17 u_15 H locs k_16 hW hL => ?_)
          obtain ⟨eu_15, xu_15⟩ := k_16
          rw [eu_15] at hW
          refine r_if_eq (tgt := 59) hx hb ⟨(by omega), (by omega)⟩ dX4_scanOne_49 (by decide) (fun c_18 => ?_) (fun c_18 => ?_)
          · refine lv_aload_n hx hb dX4_scanOne_59 rfl (lv_at hl 1 rfl) ?_
            have join_91 : ∀ (kd : Int) (H : Heap) (locs : List Loc) (ls : Array Slot), (1 ≤ kd ∧ kd ≤ 5) → (kd ≠ 1 → 47 ≤ vb ∧ vb ≤ 59 ∧ ¬ (48 ≤ vb ∧ vb ≤ 57)) → sW G 294 S H → sL G locs → lv_has ls 4 [(3, .int (iv vb)), (0, .ref (G.2.2.1 + 189)), (1, .int (iv i0)), (2, .int (iv ln))] → W p l e (rmk 7 0 0) s m args below meth c H locs 0 0 (MQ below (sQi G 294 (fun r u => cX G u 0 0 0 ∧ Fr S u pRd ∧ ((0 ≤ r ∧ r ≤ 30001) ∧ RT G u ∧ RS u))) args s 0 0 (sF G)) (F0 m 91 ls [.int (iv kd), .ref (G.2.2.1 + 189)]) := by
              intro kd H locs ls hkd hk1 hW hL hl
              refine lv_iload_n hx hb dX4_scanOne_91 rfl (lv_at hl 2 rfl) ?_
              refine sBv (sV (As := [.int (iv kd), .int (iv i0)]) (rest := []) (k := 189) Cx (s_X4_mark l G S (kd := kd) (sr := i0) hI (by omega) (by omega)) (c_X4_36 Cx rfl rfl (rmk_ok (by omega) (by decide))) hW (by decide) rfl rfl rfl hl.1 rfl (Nat.le_of_ble_eq_true rfl) dX4_scanOne_92 ⟨Nat.le_of_ble_eq_true rfl, Nat.le_of_ble_eq_true rfl⟩) hL (fun u_19 H locs k_20 hW hL => ?_)
              obtain ⟨iu_19, fu_19, xu_19⟩ := k_20
              have F_21 := (Fr.rf : Fr S S pRd).trans fu_19
              have hrt2 : RT G u_19 := MK.rt xu_19 hrt
              have hrs2 : RS u_19 := MK.rs xu_19 hrs (by omega) (fun q => DG.no (by unfold dgt; omega) (by omega))
              refine lv_iload_n hx hb dX4_scanOne_95 rfl (lv_at hl 2 rfl) ?_
              refine lv_iconst (v := iv 1) hx hb dX4_scanOne_96 (by decide) ?_
              refine r_iadd hx hb dX4_scanOne_97 ?_
              exact sIret Cx hr hlk hW hL ⟨iu_19, F_21, ⟨(by omega), hrt2, hrs2⟩⟩ dX4_scanOne_98
            refine lv_iload_n hx hb dX4_scanOne_60 rfl (lv_at hl 0 rfl) ?_
            refine lv_bipush (v := iv 47) hx hb dX4_scanOne_61 (by decide) ?_
            refine r_icmp_ne (tgt := 70) hx hb ⟨(by omega), (by omega)⟩ ⟨(by omega), (by omega)⟩ dX4_scanOne_63 (by decide) (fun c_22 => ?_) (fun c_22 => ?_)
            · refine lv_iload_n hx hb dX4_scanOne_70 rfl (lv_at hl 0 rfl) ?_
              refine lv_bipush (v := iv 58) hx hb dX4_scanOne_71 (by decide) ?_
              refine r_icmp_ne (tgt := 80) hx hb ⟨(by omega), (by omega)⟩ ⟨(by omega), (by omega)⟩ dX4_scanOne_73 (by decide) (fun c_23 => ?_) (fun c_23 => ?_)
              · refine lv_iload_n hx hb dX4_scanOne_80 rfl (lv_at hl 0 rfl) ?_
                refine lv_bipush (v := iv 59) hx hb dX4_scanOne_81 (by decide) ?_
                refine r_icmp_ne (tgt := 90) hx hb ⟨(by omega), (by omega)⟩ ⟨(by omega), (by omega)⟩ dX4_scanOne_83 (by decide) (fun c_24 => ?_) (fun c_24 => ?_)
                · refine lv_iconst (v := iv 1) hx hb dX4_scanOne_90 (by decide) ?_
                  exact join_91 1 _ _ _ (by omega) (by omega) hW hL (lv_sub hl [0, 1, 2, 3] rfl)
                · refine lv_iconst (v := iv 5) hx hb dX4_scanOne_86 (by decide) ?_
                  refine lv_goto (tgt := 91) hx hb dX4_scanOne_87 (by decide) ?_
                  exact join_91 5 _ _ _ (by omega) (by omega) hW hL (lv_sub hl [0, 1, 2, 3] rfl)
              · refine lv_iconst (v := iv 4) hx hb dX4_scanOne_76 (by decide) ?_
                refine lv_goto (tgt := 91) hx hb dX4_scanOne_77 (by decide) ?_
                exact join_91 4 _ _ _ (by omega) (by omega) hW hL (lv_sub hl [0, 1, 2, 3] rfl)
            · refine lv_iconst (v := iv 3) hx hb dX4_scanOne_66 (by decide) ?_
              refine lv_goto (tgt := 91) hx hb dX4_scanOne_67 (by decide) ?_
              exact join_91 3 _ _ _ (by omega) (by omega) hW hL (lv_sub hl [0, 1, 2, 3] rfl)
          · refine lv_aload_n hx hb dX4_scanOne_52 rfl (lv_at hl 1 rfl) ?_
            refine lv_iload_n hx hb dX4_scanOne_53 rfl (lv_at hl 2 rfl) ?_
            refine lv_iload_n hx hb dX4_scanOne_54 rfl (lv_at hl 3 rfl) ?_
            refine sBi (sV (As := [.int (iv i0), .int (iv ln)]) (rest := []) (k := 189) Cx (s_X4_scanNumber l G S (i0 := i0) (ln := ln) hI (by omega) (by omega) hrt hrs) (c_X4_59 Cx rfl rfl (rmk_ok (by omega) (by decide))) hW (by decide) rfl rfl rfl hl.1 rfl (Nat.le_of_ble_eq_true rfl) dX4_scanOne_55 ⟨Nat.le_of_ble_eq_true rfl, Nat.le_of_ble_eq_true rfl⟩) hL (fun r_27 u_25 H locs k_26 hW hL => ?_)
            obtain ⟨iu_25, fu_25, xu_25⟩ := k_26
            have F_28 := (Fr.rf : Fr S S pRd).trans fu_25
            exact sIret Cx hr hlk hW hL ⟨iu_25, F_28, ⟨(by omega), xu_25.2.1, xu_25.2.2⟩⟩ dX4_scanOne_58
      · refine lv_aload_n hx hb dX4_scanOne_32 rfl (lv_at hl 1 rfl) ?_
        refine lv_iload_n hx hb dX4_scanOne_33 rfl (lv_at hl 2 rfl) ?_
        refine lv_iload_n hx hb dX4_scanOne_34 rfl (lv_at hl 3 rfl) ?_
        refine sBi (sV (As := [.int (iv i0), .int (iv ln)]) (rest := []) (k := 189) Cx (s_X4_scanWord l G S (i0 := i0) (ln := ln) hI (by omega) (by omega) hrt hrs (DG.no (by unfold dgt; omega) (by omega))) (c_X4_53 Cx rfl rfl (rmk_ok (by omega) (by decide))) hW (by decide) rfl rfl rfl hl.1 rfl (Nat.le_of_ble_eq_true rfl) dX4_scanOne_35 ⟨Nat.le_of_ble_eq_true rfl, Nat.le_of_ble_eq_true rfl⟩) hL (fun r_31 u_29 H locs k_30 hW hL => ?_)
        obtain ⟨iu_29, fu_29, xu_29⟩ := k_30
        have F_32 := (Fr.rf : Fr S S pRd).trans fu_29
        exact sIret Cx hr hlk hW hL ⟨iu_29, F_32, ⟨(by omega), xu_29.2.1, xu_29.2.2⟩⟩ dX4_scanOne_38
    · refine lv_iload_n hx hb dX4_scanOne_21 rfl (lv_at hl 2 rfl) ?_
      refine lv_iconst (v := iv 1) hx hb dX4_scanOne_22 (by decide) ?_
      refine r_iadd hx hb dX4_scanOne_23 ?_
      exact sIret Cx hr hlk hW hL ⟨hI, (Fr.rf : Fr S S pRd), ⟨(by omega), hrt, hrs⟩⟩ dX4_scanOne_24

set_option maxRecDepth 100000 in
set_option maxHeartbeats 4000000 in
theorem s_X4_open (l : Launch) (G : sG) (S : sS)  (hI : cX G S 0 0 0) : Met l yX4_open (.code yX4_open cX4_open 5 none :: tb) (rmk 8 0 0) (sPc G 294 S [.ref (G.2.2.1 + 189), .ref (G.2.2.1 + 1)]) (sQv G 294 (fun u => cX G u 0 0 0 ∧ Fr S u pRd ∧ (RT G u ∧ RO u ∧ u.1 189 3 = 0))) 0 0 (sF G) := by
  refine sEnter (by decide) (Nat.le_of_ble_eq_true rfl) ?_
  intro p e s m args below meth c Cx hr hlk hnm hW ls hl
  have Cx : sC G p m c cX4_open 5 s args RX4 := Cx
  obtain ⟨hx, hb, hml, hown, hts⟩ := id Cx.1
  have hL : sL G [] := sL_nil
  have hl : lv_has ls 5 [(0, .ref (G.2.2.1 + 189)), (1, .ref (G.2.2.1 + 1))] := hl
  have hW0 := hW
  have hl1 : 0 ≤ S.1 1 1 ∧ S.1 1 1 ≤ 30000 := hI.fi 1 1 10 (by decide) rfl
  refine lv_aload_n hx hb dX4_open_0 rfl (lv_at hl 0 rfl) ?_
  refine lv_aload_n hx hb dX4_open_1 rfl (lv_at hl 1 rfl) ?_
  refine p_X4_14 Cx hW hL (k := 189) (by decide) rfl dX4_open_2 (fun H locs hW hL => ?_)
  have F_1 : Fr S (uR S 189 0 (.ref (G.2.2.1 + 1))) pRd := (Fr.rf : Fr S S pRd).R rfl
  have i_2 : cX G (uR S 189 0 (.ref (G.2.2.1 + 1))) 0 0 0 := hI.rd189
  refine lv_aload_n hx hb dX4_open_5 rfl (lv_at hl 0 rfl) ?_
  refine lv_iconst (v := iv 0) hx hb dX4_open_6 (by decide) ?_
  refine p_X4_24 Cx hW hL (k := 189) (by decide) rfl dX4_open_7 (fun H locs hW hL => ?_)
  have F_3 : Fr S (uF (uR S 189 0 (.ref (G.2.2.1 + 1))) 189 2 0) pRd := F_1.F rfl
  have i_4 : cX G (uF (uR S 189 0 (.ref (G.2.2.1 + 1))) 189 2 0) 0 0 0 := i_2.F rfl rfl (show 0 ≤ 0 ∧ 0 ≤ 30001 from ⟨by omega, by omega⟩)
  refine lv_aload_n hx hb dX4_open_10 rfl (lv_at hl 0 rfl) ?_
  refine g_X4_14 Cx hW (k := 189) (by decide) rfl (v := .ref (G.2.2.1 + 1)) ((uF_r).trans (uR_on)) dX4_open_11 ?_
  have q_5 : 0 ≤ S.1 1 1 ∧ S.1 1 1 ≤ 30000 := hI.fi 1 1 10 (by decide) rfl
  have lk_6 : (uF (uR S 189 0 (.ref (G.2.2.1 + 1))) 189 2 0).1 1 1 = S.1 1 1 := (uF_ne (fun h => absurd h.2 (by decide))).trans (uR_f)
  refine sBi (sV (As := []) (rest := []) (k := 1) Cx (s_X10_length l G (uF (uR S 189 0 (.ref (G.2.2.1 + 1))) 189 2 0) (o := 1) (N := 30000) i_4 ⟨by decide, rfl, rfl, rfl, rfl, by decide⟩) (c_X4_28 Cx rfl rfl (rmk_ok (by omega) (by decide))) hW (by decide) rfl rfl rfl hl.1 rfl (Nat.le_of_ble_eq_true rfl) dX4_open_14 ⟨Nat.le_of_ble_eq_true rfl, Nat.le_of_ble_eq_true rfl⟩) hL (fun r_9 u_7 H locs k_8 hW hL => ?_)
  obtain ⟨eu_7, xu_7⟩ := k_8
  rw [eu_7] at hW
  refine lv_istore_n (lv' := [(2, .int (iv r_9)), (0, .ref (G.2.2.1 + 189)), (1, .ref (G.2.2.1 + 1))]) hx hb dX4_open_17 rfl hl (by decide) rfl (fun ls hl => ?_)
  refine lv_iconst (v := iv 0) hx hb dX4_open_18 (by decide) ?_
  refine lv_istore_n (lv' := [(3, .int (iv 0)), (2, .int (iv r_9)), (0, .ref (G.2.2.1 + 189)), (1, .ref (G.2.2.1 + 1))]) hx hb dX4_open_19 rfl hl (by decide) rfl (fun ls hl => ?_)
  refine lv_iconst (v := iv 0) hx hb dX4_open_20 (by decide) ?_
  refine lv_istore (lv' := [(4, .int (iv 0)), (3, .int (iv 0)), (2, .int (iv r_9)), (0, .ref (G.2.2.1 + 189)), (1, .ref (G.2.2.1 + 1))]) hx hb dX4_open_21 hl (by decide) rfl (fun ls hl => ?_)
  have loop_23 : ∀ (fuel : Nat) (S23 : sS) (tr : Int) (i : Int) (H : Heap) (locs : List Loc) (ls : Array Slot), (30000 - tr).toNat < fuel → (cX G S23 0 0 0) → (Fr S S23 pRd) → (Fr ((uF (uR S 189 0 (.ref (G.2.2.1 + 1))) 189 2 0)) S23 pRd) → (0 ≤ i ∧ i ≤ 30001) → (0 ≤ tr ∧ tr ≤ 30000) → (RT G S23) → (RS S23) → sW G 294 S23 H → sL G locs → lv_has ls 5 [(4, .int (iv tr)), (3, .int (iv i)), (2, .int (iv r_9)), (0, .ref (G.2.2.1 + 189)), (1, .ref (G.2.2.1 + 1))] → W p l e (rmk 8 0 0) s m args below meth c H locs 0 0 (MQ below (sQv G 294 (fun u => cX G u 0 0 0 ∧ Fr S u pRd ∧ (RT G u ∧ RO u ∧ u.1 189 3 = 0))) args s 0 0 (sF G)) (F0 m 23 ls []) := by
    intro fuel
    induction fuel with
    | zero => intro S23 tr i H locs ls hmeas hI23 hFm23 hL23_ hi htr hrtL hrsL hW hL hl; exact absurd hmeas (Nat.not_lt_zero _)
    | succ fuel ih_23 =>
      intro S23 tr i H locs ls hmeas hI23 hFm23 hL23_ hi htr hrtL hrsL hW hL hl
      refine lv_iload hx hb dX4_open_23 (lv_at hl 0 rfl) ?_
      refine lv_sipush (v := iv 30000) hx hb dX4_open_25 (by decide) ?_
      refine r_icmp_ge (tgt := 76) hx hb ⟨(by omega), (by omega)⟩ ⟨(by omega), (by omega)⟩ dX4_open_28 (by decide) (fun c_10 => ?_) (fun c_10 => ?_)
      · have lk_11 : S23.1 1 1 = S.1 1 1 := ((hL23_ 1 rfl).1 1).trans ((uF_ne (fun h => absurd h.2 (by decide))).trans (uR_f))
        refine lv_aload_n hx hb dX4_open_76 rfl (lv_at hl 3 rfl) ?_
        refine lv_iconst (v := iv 0) hx hb dX4_open_77 (by decide) ?_
        refine lv_iload_n hx hb dX4_open_78 rfl (lv_at hl 2 rfl) ?_
        refine sBv (sV (As := [.int (iv 0), .int (iv r_9)]) (rest := []) (k := 189) Cx (s_X4_mark l G S23 (kd := 0) (sr := r_9) hI23 (by omega) (by omega)) (c_X4_36 Cx rfl rfl (rmk_ok (by omega) (by decide))) hW (by decide) rfl rfl rfl hl.1 rfl (Nat.le_of_ble_eq_true rfl) dX4_open_79 ⟨Nat.le_of_ble_eq_true rfl, Nat.le_of_ble_eq_true rfl⟩) hL (fun u_12 H locs k_13 hW hL => ?_)
        obtain ⟨iu_12, fu_12, xu_12⟩ := k_13
        have F_14 := hFm23.trans fu_12
        have F_15 := hL23_.trans fu_12
        have hro := MK.ro xu_12 hrsL (DG.no (by unfold dgt; rw [bt_out (by omega)]; omega) (by rw [bt_out (by omega)]; omega))
        refine lv_aload_n hx hb dX4_open_82 rfl (lv_at hl 3 rfl) ?_
        refine lv_iconst (v := iv 0) hx hb dX4_open_83 (by decide) ?_
        refine p_X4_40 Cx hW hL (k := 189) (by decide) rfl dX4_open_84 (fun H locs hW hL => ?_)
        have F_16 : Fr S (uF u_12 189 3 0) pRd := F_14.F rfl
        have F_17 : Fr ((uF (uR S 189 0 (.ref (G.2.2.1 + 1))) 189 2 0)) (uF u_12 189 3 0) pRd := F_15.F rfl
        have i_18 : cX G (uF u_12 189 3 0) 0 0 0 := iu_12.F rfl rfl (show 0 ≤ 0 ∧ 0 ≤ 1000000000 from ⟨by omega, by omega⟩)
        have lk_19 : (uF u_12 189 3 0).1 189 3 = 0 := uF_on
        exact sVret Cx hr hlk hW hL ⟨i_18, F_16, ⟨(MK.rt xu_12 hrtL : RT G u_12), hro.at, uF_on⟩⟩ dX4_open_87
      · refine lv_iload_n hx hb dX4_open_31 rfl (lv_at hl 1 rfl) ?_
        refine lv_iload_n hx hb dX4_open_32 rfl (lv_at hl 2 rfl) ?_
        refine r_icmp_ge (tgt := 76) hx hb ⟨(by omega), (by omega)⟩ ⟨(by omega), (by omega)⟩ dX4_open_33 (by decide) (fun c_20 => ?_) (fun c_20 => ?_)
        · have lk_21 : S23.1 1 1 = S.1 1 1 := ((hL23_ 1 rfl).1 1).trans ((uF_ne (fun h => absurd h.2 (by decide))).trans (uR_f))
          refine lv_aload_n hx hb dX4_open_76 rfl (lv_at hl 3 rfl) ?_
          refine lv_iconst (v := iv 0) hx hb dX4_open_77 (by decide) ?_
          refine lv_iload_n hx hb dX4_open_78 rfl (lv_at hl 2 rfl) ?_
          refine sBv (sV (As := [.int (iv 0), .int (iv r_9)]) (rest := []) (k := 189) Cx (s_X4_mark l G S23 (kd := 0) (sr := r_9) hI23 (by omega) (by omega)) (c_X4_36 Cx rfl rfl (rmk_ok (by omega) (by decide))) hW (by decide) rfl rfl rfl hl.1 rfl (Nat.le_of_ble_eq_true rfl) dX4_open_79 ⟨Nat.le_of_ble_eq_true rfl, Nat.le_of_ble_eq_true rfl⟩) hL (fun u_22 H locs k_23 hW hL => ?_)
          obtain ⟨iu_22, fu_22, xu_22⟩ := k_23
          have F_24 := hFm23.trans fu_22
          have F_25 := hL23_.trans fu_22
          have hro := MK.ro xu_22 hrsL (DG.no (by unfold dgt; rw [bt_out (by omega)]; omega) (by rw [bt_out (by omega)]; omega))
          refine lv_aload_n hx hb dX4_open_82 rfl (lv_at hl 3 rfl) ?_
          refine lv_iconst (v := iv 0) hx hb dX4_open_83 (by decide) ?_
          refine p_X4_40 Cx hW hL (k := 189) (by decide) rfl dX4_open_84 (fun H locs hW hL => ?_)
          have F_26 : Fr S (uF u_22 189 3 0) pRd := F_24.F rfl
          have F_27 : Fr ((uF (uR S 189 0 (.ref (G.2.2.1 + 1))) 189 2 0)) (uF u_22 189 3 0) pRd := F_25.F rfl
          have i_28 : cX G (uF u_22 189 3 0) 0 0 0 := iu_22.F rfl rfl (show 0 ≤ 0 ∧ 0 ≤ 1000000000 from ⟨by omega, by omega⟩)
          have lk_29 : (uF u_22 189 3 0).1 189 3 = 0 := uF_on
          exact sVret Cx hr hlk hW hL ⟨i_28, F_26, ⟨(MK.rt xu_22 hrtL : RT G u_22), hro.at, uF_on⟩⟩ dX4_open_87
        · refine lv_aload_n hx hb dX4_open_36 rfl (lv_at hl 3 rfl) ?_
          refine lv_iload_n hx hb dX4_open_37 rfl (lv_at hl 1 rfl) ?_
          refine lv_iload_n hx hb dX4_open_38 rfl (lv_at hl 2 rfl) ?_
          have lk_30 : S23.1 1 1 = S.1 1 1 := ((hL23_ 1 rfl).1 1).trans ((uF_ne (fun h => absurd h.2 (by decide))).trans (uR_f))
          refine sBi (sV (As := [.int (iv i), .int (iv r_9)]) (rest := []) (k := 189) Cx (s_X4_scanOne l G S23 (i0 := i) (ln := r_9) hI23 (by omega) (by omega) hrtL hrsL) (c_X4_32 Cx rfl rfl (rmk_ok (by omega) (by decide))) hW (by decide) rfl rfl rfl hl.1 rfl (Nat.le_of_ble_eq_true rfl) dX4_open_39 ⟨Nat.le_of_ble_eq_true rfl, Nat.le_of_ble_eq_true rfl⟩) hL (fun r_33 u_31 H locs k_32 hW hL => ?_)
          obtain ⟨iu_31, fu_31, xu_31⟩ := k_32
          have F_34 := hFm23.trans fu_31
          have F_35 := hL23_.trans fu_31
          refine lv_istore_n (lv' := [(3, .int (iv r_33)), (4, .int (iv tr)), (2, .int (iv r_9)), (0, .ref (G.2.2.1 + 189)), (1, .ref (G.2.2.1 + 1))]) hx hb dX4_open_42 rfl hl (by decide) rfl (fun ls hl => ?_)
          refine lv_aload_n hx hb dX4_open_43 rfl (lv_at hl 3 rfl) ?_
          have q_36 : 0 ≤ u_31.1 189 2 ∧ u_31.1 189 2 ≤ 30001 := iu_31.fi 189 2 4 (by decide) rfl
          refine g_X4_24 Cx hW (k := 189) (by decide) rfl (v := u_31.1 189 2) rfl dX4_open_44 ?_
          refine r_if_le (tgt := 70) hx hb ⟨(by omega), (by omega)⟩ dX4_open_47 (by decide) (fun c_37 => ?_) (fun c_37 => ?_)
          · refine lv_iinc (v := iv (tr + 1)) (lv' := [(4, .int (iv (tr + 1))), (3, .int (iv r_33)), (2, .int (iv r_9)), (0, .ref (G.2.2.1 + 189)), (1, .ref (G.2.2.1 + 1))]) hx hb dX4_open_70 hl (k := 1) rfl ((Int32.ofInt_add _ _).symm) (by decide) rfl (fun ls hl => ?_)
            refine lv_goto (tgt := 23) hx hb dX4_open_73 (by decide) ?_
            exact ih_23 u_31 (tr + 1) r_33 _ _ _ (by omega) iu_31 F_34 F_35 (by omega) (by omega) xu_31.2.1 xu_31.2.2 hW hL (lv_sub hl [0, 1, 2, 3, 4] rfl)
          · refine lv_aload_n hx hb dX4_open_50 rfl (lv_at hl 3 rfl) ?_
            refine g_X4_20 Cx hW (k := 189) (by decide) rfl (v := .ref (G.2.2.1 + 192)) (rf_189_1 iu_31) dX4_open_51 ?_
            refine lv_aload_n hx hb dX4_open_54 rfl (lv_at hl 3 rfl) ?_
            refine g_X4_24 Cx hW (k := 189) (by decide) rfl (v := u_31.1 189 2) rfl dX4_open_55 ?_
            refine lv_iconst (v := iv 1) hx hb dX4_open_58 (by decide) ?_
            refine r_isub hx hb dX4_open_59 ?_
            refine rIald Cx hW (k := 192) (by decide) rfl (by decide) (by omega) (by omega) dX4_open_60 ?_
            have q_38 : 0 ≤ u_31.2.1 192 ((u_31.1 189 2) - 1) ∧ u_31.2.1 192 ((u_31.1 189 2) - 1) ≤ 480015 := iu_31.ai 192 ((u_31.1 189 2) - 1) (by decide)
            refine r_i (b := u_31.2.1 192 ((u_31.1 189 2) - 1)) rfl ?_
            refine lv_bipush (v := iv 16) hx hb dX4_open_61 (by decide) ?_
            refine r_irem hx hb ⟨(by omega), (by omega)⟩ ⟨(by omega), (by omega)⟩ (by omega) dX4_open_63 ?_
            refine r_i (b := (u_31.2.1 192 ((u_31.1 189 2) - 1)) % 16) (Int.tmod_eq_emod_of_nonneg (by omega)) ?_
            refine lv_iconst (v := iv 1) hx hb dX4_open_64 (by decide) ?_
            refine r_icmp_ne (tgt := 70) hx hb ⟨(by omega), (by omega)⟩ ⟨(by omega), (by omega)⟩ dX4_open_65 (by decide) (fun c_39 => ?_) (fun c_39 => ?_)
            · refine lv_iinc (v := iv (tr + 1)) (lv' := [(4, .int (iv (tr + 1))), (3, .int (iv r_33)), (2, .int (iv r_9)), (0, .ref (G.2.2.1 + 189)), (1, .ref (G.2.2.1 + 1))]) hx hb dX4_open_70 hl (k := 1) rfl ((Int32.ofInt_add _ _).symm) (by decide) rfl (fun ls hl => ?_)
              refine lv_goto (tgt := 23) hx hb dX4_open_73 (by decide) ?_
              exact ih_23 u_31 (tr + 1) r_33 _ _ _ (by omega) iu_31 F_34 F_35 (by omega) (by omega) xu_31.2.1 xu_31.2.2 hW hL (lv_sub hl [0, 1, 2, 3, 4] rfl)
            · refine lv_iload_n hx hb dX4_open_68 rfl (lv_at hl 2 rfl) ?_
              refine lv_istore_n (lv' := [(3, .int (iv r_9)), (4, .int (iv tr)), (2, .int (iv r_9)), (0, .ref (G.2.2.1 + 189)), (1, .ref (G.2.2.1 + 1))]) hx hb dX4_open_69 rfl hl (by decide) rfl (fun ls hl => ?_)
              refine lv_iinc (v := iv (tr + 1)) (lv' := [(4, .int (iv (tr + 1))), (3, .int (iv r_9)), (2, .int (iv r_9)), (0, .ref (G.2.2.1 + 189)), (1, .ref (G.2.2.1 + 1))]) hx hb dX4_open_70 hl (k := 1) rfl ((Int32.ofInt_add _ _).symm) (by decide) rfl (fun ls hl => ?_)
              refine lv_goto (tgt := 23) hx hb dX4_open_73 (by decide) ?_
              exact ih_23 u_31 (tr + 1) r_9 _ _ _ (by omega) iu_31 F_34 F_35 (by omega) (by omega) xu_31.2.1 xu_31.2.2 hW hL (lv_sub hl [0, 1, 2, 3, 4] rfl)
  exact loop_23 (_ + 1) (uF (uR S 189 0 (.ref (G.2.2.1 + 1))) 189 2 0) 0 0 _ _ _ (Nat.lt_succ_self _) i_4 F_3 Fr.rf (by omega) (by omega) (show (uR S 189 0 (.ref (G.2.2.1 + 1))).2.2.2 189 0 = _ from uR_on) ⟨fun k a b => absurd b (by rw [uF_on]; omega), fun k a b => absurd b (by rw [uF_on]; omega)⟩ hW hL (lv_sub hl [0, 1, 2, 3, 4] rfl)

set_option maxRecDepth 100000 in
set_option maxHeartbeats 4000000 in
theorem s_X4_pass (l : Launch) (G : sG) (S : sS) {kd : Int} (hI : cX G S 0 0 0) (hkd : 2 ≤ kd ∧ kd ≤ 15) (hrt : RT G S) (hPS : PS S) : Met l yX4_pass (.code yX4_pass cX4_pass 2 (some .boolean) :: tb) (rmk 2 0 0) (sPc G 294 S [.ref (G.2.2.1 + 189), .int (iv kd)]) (sQi G 294 (fun r u => cX G u 0 0 0 ∧ Fr S u (p1 189) ∧ ((0 ≤ r ∧ r ≤ 1) ∧ PR S u))) 0 0 (sF G) := by
  refine sEnter (by decide) (Nat.le_of_ble_eq_true rfl) ?_
  intro p e s m args below meth c Cx hr hlk hnm hW ls hl
  have Cx : sC G p m c cX4_pass 2 s args RX4 := Cx
  obtain ⟨hx, hb, hml, hown, hts⟩ := id Cx.1
  have hL : sL G [] := sL_nil
  have hl : lv_has ls 2 [(0, .ref (G.2.2.1 + 189)), (1, .int (iv kd))] := hl
  have hW0 := hW
  have pr_0 : PR S S := PR.rf hPS
  refine lv_aload_n hx hb dX4_pass_0 rfl (lv_at hl 0 rfl) ?_
  have q_1 : 0 ≤ S.1 189 3 ∧ S.1 189 3 ≤ 1000000000 := hI.fi 189 3 4 (by decide) rfl
  have q_2 : 0 ≤ S.1 189 2 ∧ S.1 189 2 ≤ 30001 := hI.fi 189 2 4 (by decide) rfl
  refine sBi (sV (As := []) (rest := []) (k := 189) Cx (s_X4_kind l G S  hI) (c_X4_119 Cx rfl rfl (rmk_ok (by omega) (by decide))) hW (by decide) rfl rfl rfl hl.1 rfl (Nat.le_of_ble_eq_true rfl) dX4_pass_1 ⟨Nat.le_of_ble_eq_true rfl, Nat.le_of_ble_eq_true rfl⟩) hL (fun r_5 u_3 H locs k_4 hW hL => ?_)
  obtain ⟨eu_3, xu_3⟩ := k_4
  rw [eu_3] at hW
  refine lv_iload_n hx hb dX4_pass_4 rfl (lv_at hl 1 rfl) ?_
  refine r_icmp_eq (tgt := 10) hx hb ⟨(by omega), (by omega)⟩ ⟨(by omega), (by omega)⟩ dX4_pass_5 (by decide) (fun c_6 => ?_) (fun c_6 => ?_)
  · refine lv_aload_n hx hb dX4_pass_10 rfl (lv_at hl 0 rfl) ?_
    refine lv_dup hx hb dX4_pass_11 rfl ?_
    refine g_X4_40 Cx hW (k := 189) (by decide) rfl (v := S.1 189 3) rfl dX4_pass_12 ?_
    refine lv_iconst (v := iv 1) hx hb dX4_pass_15 (by decide) ?_
    refine r_iadd hx hb dX4_pass_16 ?_
    refine p_X4_40 Cx hW hL (k := 189) (by decide) rfl dX4_pass_17 (fun H locs hW hL => ?_)
    have kg_u_3 := xu_3.2.1 (by omega)
    have kf_u_3 := xu_3.2.1 (by omega)
    have F_7 : Fr S (uF S 189 3 ((S.1 189 3) + 1)) (p1 189) := (Fr.rf : Fr S S (p1 189)).F rfl
    have i_8 : cX G (uF S 189 3 ((S.1 189 3) + 1)) 0 0 0 := hI.F rfl rfl (show 0 ≤ (S.1 189 3) + 1 ∧ (S.1 189 3) + 1 ≤ 1000000000 from ⟨by omega, by omega⟩)
    have pr_9 : PR S (uF S 189 3 ((S.1 189 3) + 1)) := PR.step pr_0 (by omega) kf_u_3.1 (by rw [kf_u_3.2]; omega)
    refine lv_iconst (v := iv 1) hx hb dX4_pass_20 (by decide) ?_
    exact sZret Cx hr hlk hW hL (by omega) ⟨i_8, F_7, ⟨(by omega), pr_9⟩⟩ dX4_pass_21
  · refine lv_iconst (v := iv 0) hx hb dX4_pass_8 (by decide) ?_
    exact sZret Cx hr hlk hW hL (by omega) ⟨hI, (Fr.rf : Fr S S (p1 189)), ⟨(by omega), pr_0⟩⟩ dX4_pass_9

set_option maxRecDepth 100000 in
set_option maxHeartbeats 4000000 in
theorem s_X4_passAbove (l : Launch) (G : sG) (S : sS)  (hI : cX G S 0 0 0) (hrt : RT G S) (hPS : PS S) : Met l yX4_passAbove (.code yX4_passAbove cX4_passAbove 3 (some .boolean) :: tb) (rmk 3 0 0) (sPc G 294 S [.ref (G.2.2.1 + 189)]) (sQi G 294 (fun r u => cX G u 0 0 0 ∧ Fr S u (p1 189) ∧ ((0 ≤ r ∧ r ≤ 1) ∧ PR S u))) 0 0 (sF G) := by
  refine sEnter (by decide) (Nat.le_of_ble_eq_true rfl) ?_
  intro p e s m args below meth c Cx hr hlk hnm hW ls hl
  have Cx : sC G p m c cX4_passAbove 3 s args RX4 := Cx
  obtain ⟨hx, hb, hml, hown, hts⟩ := id Cx.1
  have hL : sL G [] := sL_nil
  have hl : lv_has ls 3 [(0, .ref (G.2.2.1 + 189))] := hl
  have hW0 := hW
  have pr_0 : PR S S := PR.rf hPS
  have hl1 : 0 ≤ S.1 1 1 ∧ S.1 1 1 ≤ 30000 := hI.fi 1 1 10 (by decide) rfl
  refine lv_aload_n hx hb dX4_passAbove_0 rfl (lv_at hl 0 rfl) ?_
  have q_1 : 0 ≤ S.1 189 3 ∧ S.1 189 3 ≤ 1000000000 := hI.fi 189 3 4 (by decide) rfl
  have q_2 : 0 ≤ S.1 189 2 ∧ S.1 189 2 ≤ 30001 := hI.fi 189 2 4 (by decide) rfl
  refine sBi (sV (As := []) (rest := []) (k := 189) Cx (s_X4_kind l G S  hI) (c_X4_119 Cx rfl rfl (rmk_ok (by omega) (by decide))) hW (by decide) rfl rfl rfl hl.1 rfl (Nat.le_of_ble_eq_true rfl) dX4_passAbove_1 ⟨Nat.le_of_ble_eq_true rfl, Nat.le_of_ble_eq_true rfl⟩) hL (fun r_5 u_3 H locs k_4 hW hL => ?_)
  obtain ⟨eu_3, xu_3⟩ := k_4
  rw [eu_3] at hW
  refine lv_iconst (v := iv 2) hx hb dX4_passAbove_4 (by decide) ?_
  refine r_icmp_eq (tgt := 10) hx hb ⟨(by omega), (by omega)⟩ ⟨(by omega), (by omega)⟩ dX4_passAbove_5 (by decide) (fun c_6 => ?_) (fun c_6 => ?_)
  · refine lv_aload_n hx hb dX4_passAbove_10 rfl (lv_at hl 0 rfl) ?_
    refine sBi (sV (As := []) (rest := []) (k := 189) Cx (s_X4_start l G S  hI) (c_X4_106 Cx rfl rfl (rmk_ok (by omega) (by decide))) hW (by decide) rfl rfl rfl hl.1 rfl (Nat.le_of_ble_eq_true rfl) dX4_passAbove_11 ⟨Nat.le_of_ble_eq_true rfl, Nat.le_of_ble_eq_true rfl⟩) hL (fun r_9 u_7 H locs k_8 hW hL => ?_)
    obtain ⟨eu_7, xu_7⟩ := k_8
    rw [eu_7] at hW
    refine lv_istore_n (lv' := [(1, .int (iv r_9)), (0, .ref (G.2.2.1 + 189))]) hx hb dX4_passAbove_14 rfl hl (by decide) rfl (fun ls hl => ?_)
    refine lv_aload_n hx hb dX4_passAbove_15 rfl (lv_at hl 1 rfl) ?_
    refine lv_iload_n hx hb dX4_passAbove_16 rfl (lv_at hl 0 rfl) ?_
    refine lv_aload_n hx hb dX4_passAbove_17 rfl (lv_at hl 1 rfl) ?_
    refine g_X4_14 Cx hW (k := 189) (by decide) rfl (v := .ref (G.2.2.1 + 1)) hrt dX4_passAbove_18 ?_
    have q_10 : 0 ≤ S.1 1 1 ∧ S.1 1 1 ≤ 30000 := hI.fi 1 1 10 (by decide) rfl
    refine sBi (sV (As := []) (rest := [.int (iv r_9), .ref (G.2.2.1 + 189)]) (k := 1) Cx (s_X10_length l G S (o := 1) (N := 30000) hI ⟨by decide, rfl, rfl, rfl, rfl, by decide⟩) (c_X4_28 Cx rfl rfl (rmk_ok (by omega) (by decide))) hW (by decide) rfl rfl rfl hl.1 rfl (Nat.le_of_ble_eq_true rfl) dX4_passAbove_21 ⟨Nat.le_of_ble_eq_true rfl, Nat.le_of_ble_eq_true rfl⟩) hL (fun r_13 u_11 H locs k_12 hW hL => ?_)
    obtain ⟨eu_11, xu_11⟩ := k_12
    rw [eu_11] at hW
    refine sBi (sV (As := [.int (iv r_9), .int (iv r_13)]) (rest := []) (k := 189) Cx (s_X4_behindDigits l G S (f := r_9) (ln := r_13) hI (by omega) (by omega) (rt_pr pr_0 hrt)) (c_X4_94 Cx rfl rfl (rmk_ok (by omega) (by decide))) hW (by decide) rfl rfl rfl hl.1 rfl (Nat.le_of_ble_eq_true rfl) dX4_passAbove_24 ⟨Nat.le_of_ble_eq_true rfl, Nat.le_of_ble_eq_true rfl⟩) hL (fun r_16 u_14 H locs k_15 hW hL => ?_)
    obtain ⟨eu_14, xu_14⟩ := k_15
    rw [eu_14] at hW
    refine lv_istore_n (lv' := [(2, .int (iv r_16)), (1, .int (iv r_9)), (0, .ref (G.2.2.1 + 189))]) hx hb dX4_passAbove_27 rfl hl (by decide) rfl (fun ls hl => ?_)
    refine lv_aload_n hx hb dX4_passAbove_28 rfl (lv_at hl 2 rfl) ?_
    refine lv_iload_n hx hb dX4_passAbove_29 rfl (lv_at hl 1 rfl) ?_
    refine lv_iload_n hx hb dX4_passAbove_30 rfl (lv_at hl 0 rfl) ?_
    refine sBi (sV (As := [.int (iv r_9), .int (iv r_16)]) (rest := []) (k := 189) Cx (s_X4_hasMoreThanNoughts l G S (f := r_9) (b := r_16) hI (by omega) (by omega) (rt_pr pr_0 hrt)) (c_X4_97 Cx rfl rfl (rmk_ok (by omega) (by decide))) hW (by decide) rfl rfl rfl hl.1 rfl (Nat.le_of_ble_eq_true rfl) dX4_passAbove_31 ⟨Nat.le_of_ble_eq_true rfl, Nat.le_of_ble_eq_true rfl⟩) hL (fun r_19 u_17 H locs k_18 hW hL => ?_)
    obtain ⟨eu_17, xu_17⟩ := k_18
    rw [eu_17] at hW
    refine r_if_ne (tgt := 39) hx hb ⟨(by omega), (by omega)⟩ dX4_passAbove_34 (by decide) (fun c_20 => ?_) (fun c_20 => ?_)
    · refine lv_aload_n hx hb dX4_passAbove_39 rfl (lv_at hl 2 rfl) ?_
      refine lv_dup hx hb dX4_passAbove_40 rfl ?_
      refine g_X4_40 Cx hW (k := 189) (by decide) rfl (v := S.1 189 3) rfl dX4_passAbove_41 ?_
      refine lv_iconst (v := iv 1) hx hb dX4_passAbove_44 (by decide) ?_
      refine r_iadd hx hb dX4_passAbove_45 ?_
      refine p_X4_40 Cx hW hL (k := 189) (by decide) rfl dX4_passAbove_46 (fun H locs hW hL => ?_)
      have kg_u_3 := xu_3.2.1 (by omega)
      have kf_u_3 := xu_3.2.1 (by omega)
      have F_21 : Fr S (uF S 189 3 ((S.1 189 3) + 1)) (p1 189) := (Fr.rf : Fr S S (p1 189)).F rfl
      have i_22 : cX G (uF S 189 3 ((S.1 189 3) + 1)) 0 0 0 := hI.F rfl rfl (show 0 ≤ (S.1 189 3) + 1 ∧ (S.1 189 3) + 1 ≤ 1000000000 from ⟨by omega, by omega⟩)
      have pr_23 : PR S (uF S 189 3 ((S.1 189 3) + 1)) := PR.step pr_0 (by omega) kf_u_3.1 (by rw [kf_u_3.2]; omega)
      refine lv_iconst (v := iv 1) hx hb dX4_passAbove_49 (by decide) ?_
      exact sZret Cx hr hlk hW hL (by omega) ⟨i_22, F_21, ⟨(by omega), pr_23⟩⟩ dX4_passAbove_50
    · refine lv_iconst (v := iv 0) hx hb dX4_passAbove_37 (by decide) ?_
      exact sZret Cx hr hlk hW hL (by omega) ⟨hI, (Fr.rf : Fr S S (p1 189)), ⟨(by omega), pr_0⟩⟩ dX4_passAbove_38
  · refine lv_iconst (v := iv 0) hx hb dX4_passAbove_8 (by decide) ?_
    exact sZret Cx hr hlk hW hL (by omega) ⟨hI, (Fr.rf : Fr S S (p1 189)), ⟨(by omega), pr_0⟩⟩ dX4_passAbove_9

set_option maxRecDepth 100000 in
set_option maxHeartbeats 4000000 in
theorem s_X4_passPoint (l : Launch) (G : sG) (S : sS) {vs : Int} (hI : cX G S 0 0 0) (hvs : 0 ≤ vs ∧ vs ≤ 12) (hrt : RT G S) (hPS : PS S) : Met l yX4_passPoint (.code yX4_passPoint cX4_passPoint 3 (some .boolean) :: tb) (rmk 4 0 0) (sPc G 294 S [.ref (G.2.2.1 + 189), .int (iv vs)]) (sQi G 294 (fun r u => cX G u 0 0 0 ∧ Fr S u (p1 189) ∧ ((0 ≤ r ∧ r ≤ 1) ∧ PR S u))) 0 0 (sF G) := by
  refine sEnter (by decide) (Nat.le_of_ble_eq_true rfl) ?_
  intro p e s m args below meth c Cx hr hlk hnm hW ls hl
  have Cx : sC G p m c cX4_passPoint 3 s args RX4 := Cx
  obtain ⟨hx, hb, hml, hown, hts⟩ := id Cx.1
  have hL : sL G [] := sL_nil
  have hl : lv_has ls 3 [(0, .ref (G.2.2.1 + 189)), (1, .int (iv vs))] := hl
  have hW0 := hW
  have pr_0 : PR S S := PR.rf hPS
  refine lv_iconst (v := iv 1) hx hb dX4_passPoint_0 (by decide) ?_
  refine lv_istore_n (lv' := [(2, .int (iv 1)), (0, .ref (G.2.2.1 + 189)), (1, .int (iv vs))]) hx hb dX4_passPoint_1 rfl hl (by decide) rfl (fun ls hl => ?_)
  have loop_2 : ∀ (fuel : Nat) (S2 : sS) (j : Int) (H : Heap) (locs : List Loc) (ls : Array Slot), (13 - j).toNat < fuel → (cX G S2 0 0 0) → (Fr S S2 (p1 189)) → (Fr S S2 (p1 189)) → (1 ≤ j ∧ j ≤ 13) → (PR S S2) → sW G 294 S2 H → sL G locs → lv_has ls 3 [(2, .int (iv j)), (0, .ref (G.2.2.1 + 189)), (1, .int (iv vs))] → W p l e (rmk 4 0 0) s m args below meth c H locs 0 0 (MQ below (sQi G 294 (fun r u => cX G u 0 0 0 ∧ Fr S u (p1 189) ∧ ((0 ≤ r ∧ r ≤ 1) ∧ PR S u))) args s 0 0 (sF G)) (F0 m 2 ls []) := by
    intro fuel
    induction fuel with
    | zero => intro S2 j H locs ls hmeas hI2 hFm2 hL2_ hj hPR2 hW hL hl; exact absurd hmeas (Nat.not_lt_zero _)
    | succ fuel ih_2 =>
      intro S2 j H locs ls hmeas hI2 hFm2 hL2_ hj hPR2 hW hL hl
      refine lv_iload_n hx hb dX4_passPoint_2 rfl (lv_at hl 0 rfl) ?_
      refine lv_iload_n hx hb dX4_passPoint_3 rfl (lv_at hl 2 rfl) ?_
      refine r_icmp_gt (tgt := 23) hx hb ⟨(by omega), (by omega)⟩ ⟨(by omega), (by omega)⟩ dX4_passPoint_4 (by decide) (fun c_1 => ?_) (fun c_1 => ?_)
      · refine lv_aload_n hx hb dX4_passPoint_23 rfl (lv_at hl 1 rfl) ?_
        refine lv_iconst (v := iv 3) hx hb dX4_passPoint_24 (by decide) ?_
        refine sBi (sV (As := [.int (iv 3)]) (rest := []) (k := 189) Cx (s_X4_pass l G S2 (kd := 3) hI2 (by omega) (rt_pr hPR2 hrt) hPR2.2.2) (c_X4_122 Cx rfl rfl (rmk_ok (by omega) (by decide))) hW (by decide) rfl rfl rfl hl.1 rfl (Nat.le_of_ble_eq_true rfl) dX4_passPoint_25 ⟨Nat.le_of_ble_eq_true rfl, Nat.le_of_ble_eq_true rfl⟩) hL (fun r_4 u_2 H locs k_3 hW hL => ?_)
        obtain ⟨iu_2, fu_2, xu_2⟩ := k_3
        have F_5 := hFm2.trans fu_2
        have F_6 := hL2_.trans fu_2
        have pr_7 := PR.trans hPR2 xu_2.2
        refine r_if_eq (tgt := 42) hx hb ⟨(by omega), (by omega)⟩ dX4_passPoint_28 (by decide) (fun c_8 => ?_) (fun c_8 => ?_)
        · refine lv_iconst (v := iv 0) hx hb dX4_passPoint_42 (by decide) ?_
          exact sZret Cx hr hlk hW hL (by omega) ⟨iu_2, F_5, ⟨(by omega), pr_7⟩⟩ dX4_passPoint_43
        · refine lv_aload_n hx hb dX4_passPoint_31 rfl (lv_at hl 1 rfl) ?_
          refine sBi (sV (As := []) (rest := []) (k := 189) Cx (s_X4_passAbove l G u_2  iu_2 (rt_pr pr_7 hrt) pr_7.2.2) (c_X4_125 Cx rfl rfl (rmk_ok (by omega) (by decide))) hW (by decide) rfl rfl rfl hl.1 rfl (Nat.le_of_ble_eq_true rfl) dX4_passPoint_32 ⟨Nat.le_of_ble_eq_true rfl, Nat.le_of_ble_eq_true rfl⟩) hL (fun r_11 u_9 H locs k_10 hW hL => ?_)
          obtain ⟨iu_9, fu_9, xu_9⟩ := k_10
          have F_12 := F_5.trans fu_9
          have F_13 := F_6.trans fu_9
          have pr_14 := PR.trans pr_7 xu_9.2
          refine r_if_eq (tgt := 42) hx hb ⟨(by omega), (by omega)⟩ dX4_passPoint_35 (by decide) (fun c_15 => ?_) (fun c_15 => ?_)
          · refine lv_iconst (v := iv 0) hx hb dX4_passPoint_42 (by decide) ?_
            exact sZret Cx hr hlk hW hL (by omega) ⟨iu_9, F_12, ⟨(by omega), pr_14⟩⟩ dX4_passPoint_43
          · refine lv_iconst (v := iv 1) hx hb dX4_passPoint_38 (by decide) ?_
            refine lv_goto (tgt := 43) hx hb dX4_passPoint_39 (by decide) ?_
            exact sZret Cx hr hlk hW hL (by omega) ⟨iu_9, F_12, ⟨(by omega), pr_14⟩⟩ dX4_passPoint_43
      · refine lv_aload_n hx hb dX4_passPoint_7 rfl (lv_at hl 1 rfl) ?_
        refine lv_iconst (v := iv 2) hx hb dX4_passPoint_8 (by decide) ?_
        refine sBi (sV (As := [.int (iv 2)]) (rest := []) (k := 189) Cx (s_X4_pass l G S2 (kd := 2) hI2 (by omega) (rt_pr hPR2 hrt) hPR2.2.2) (c_X4_122 Cx rfl rfl (rmk_ok (by omega) (by decide))) hW (by decide) rfl rfl rfl hl.1 rfl (Nat.le_of_ble_eq_true rfl) dX4_passPoint_9 ⟨Nat.le_of_ble_eq_true rfl, Nat.le_of_ble_eq_true rfl⟩) hL (fun r_18 u_16 H locs k_17 hW hL => ?_)
        obtain ⟨iu_16, fu_16, xu_16⟩ := k_17
        have F_19 := hFm2.trans fu_16
        have F_20 := hL2_.trans fu_16
        have pr_21 := PR.trans hPR2 xu_16.2
        refine r_if_ne (tgt := 17) hx hb ⟨(by omega), (by omega)⟩ dX4_passPoint_12 (by decide) (fun c_22 => ?_) (fun c_22 => ?_)
        · refine lv_iinc (v := iv (j + 1)) (lv' := [(2, .int (iv (j + 1))), (0, .ref (G.2.2.1 + 189)), (1, .int (iv vs))]) hx hb dX4_passPoint_17 hl (k := 0) rfl ((Int32.ofInt_add _ _).symm) (by decide) rfl (fun ls hl => ?_)
          refine lv_goto (tgt := 2) hx hb dX4_passPoint_20 (by decide) ?_
          exact ih_2 u_16 (j + 1) _ _ _ (by omega) iu_16 F_19 F_20 (by omega) pr_21 hW hL (lv_sub hl [0, 1, 2] rfl)
        · refine lv_iconst (v := iv 0) hx hb dX4_passPoint_15 (by decide) ?_
          exact sZret Cx hr hlk hW hL (by omega) ⟨iu_16, F_19, ⟨(by omega), pr_21⟩⟩ dX4_passPoint_16
  exact loop_2 (_ + 1) S 1 _ _ _ (Nat.lt_succ_self _) hI (Fr.rf : Fr S S (p1 189)) Fr.rf (by omega) pr_0 hW hL (lv_sub hl [0, 1, 2] rfl)

set_option maxRecDepth 100000 in
set_option maxHeartbeats 4000000 in
theorem s_X4_passPairs (l : Launch) (G : sG) (S : sS)  (hI : cX G S 0 0 0) (hrt : RT G S) (hPS : PS S) : Met l yX4_passPairs (.code yX4_passPairs cX4_passPairs 2 (some .boolean) :: tb) (rmk 3 0 0) (sPc G 294 S [.ref (G.2.2.1 + 189)]) (sQi G 294 (fun r u => cX G u 0 0 0 ∧ Fr S u (p1 189) ∧ ((0 ≤ r ∧ r ≤ 1) ∧ PR S u))) 0 0 (sF G) := by
  refine sEnter (by decide) (Nat.le_of_ble_eq_true rfl) ?_
  intro p e s m args below meth c Cx hr hlk hnm hW ls hl
  have Cx : sC G p m c cX4_passPairs 2 s args RX4 := Cx
  obtain ⟨hx, hb, hml, hown, hts⟩ := id Cx.1
  have hL : sL G [] := sL_nil
  have hl : lv_has ls 2 [(0, .ref (G.2.2.1 + 189))] := hl
  have hW0 := hW
  have pr_0 : PR S S := PR.rf hPS
  refine lv_iconst (v := iv 0) hx hb dX4_passPairs_0 (by decide) ?_
  refine lv_istore_n (lv' := [(1, .int (iv 0)), (0, .ref (G.2.2.1 + 189))]) hx hb dX4_passPairs_1 rfl hl (by decide) rfl (fun ls hl => ?_)
  have loop_2 : ∀ (fuel : Nat) (S2 : sS) (i : Int) (H : Heap) (locs : List Loc) (ls : Array Slot), (30001 - i).toNat < fuel → (cX G S2 0 0 0) → (Fr S S2 (p1 189)) → (Fr S S2 (p1 189)) → (0 ≤ i ∧ i ≤ 30001) → (PR S S2) → sW G 294 S2 H → sL G locs → lv_has ls 2 [(1, .int (iv i)), (0, .ref (G.2.2.1 + 189))] → W p l e (rmk 3 0 0) s m args below meth c H locs 0 0 (MQ below (sQi G 294 (fun r u => cX G u 0 0 0 ∧ Fr S u (p1 189) ∧ ((0 ≤ r ∧ r ≤ 1) ∧ PR S u))) args s 0 0 (sF G)) (F0 m 2 ls []) := by
    intro fuel
    induction fuel with
    | zero => intro S2 i H locs ls hmeas hI2 hFm2 hL2_ hi hPR2 hW hL hl; exact absurd hmeas (Nat.not_lt_zero _)
    | succ fuel ih_2 =>
      intro S2 i H locs ls hmeas hI2 hFm2 hL2_ hi hPR2 hW hL hl
      refine lv_iload_n hx hb dX4_passPairs_2 rfl (lv_at hl 0 rfl) ?_
      refine lv_sipush (v := iv 30000) hx hb dX4_passPairs_3 (by decide) ?_
      refine r_icmp_gt (tgt := 41) hx hb ⟨(by omega), (by omega)⟩ ⟨(by omega), (by omega)⟩ dX4_passPairs_6 (by decide) (fun c_1 => ?_) (fun c_1 => ?_)
      · refine lv_aload_n hx hb dX4_passPairs_41 rfl (lv_at hl 1 rfl) ?_
        refine lv_iconst (v := iv 5) hx hb dX4_passPairs_42 (by decide) ?_
        refine sBi (sV (As := [.int (iv 5)]) (rest := []) (k := 189) Cx (s_X4_pass l G S2 (kd := 5) hI2 (by omega) (rt_pr hPR2 hrt) hPR2.2.2) (c_X4_122 Cx rfl rfl (rmk_ok (by omega) (by decide))) hW (by decide) rfl rfl rfl hl.1 rfl (Nat.le_of_ble_eq_true rfl) dX4_passPairs_43 ⟨Nat.le_of_ble_eq_true rfl, Nat.le_of_ble_eq_true rfl⟩) hL (fun r_4 u_2 H locs k_3 hW hL => ?_)
        obtain ⟨iu_2, fu_2, xu_2⟩ := k_3
        have F_5 := hFm2.trans fu_2
        have F_6 := hL2_.trans fu_2
        have pr_7 := PR.trans hPR2 xu_2.2
        exact sZret Cx hr hlk hW hL (by omega) ⟨iu_2, F_5, ⟨(by omega), pr_7⟩⟩ dX4_passPairs_46
      · refine lv_aload_n hx hb dX4_passPairs_9 rfl (lv_at hl 1 rfl) ?_
        refine lv_iconst (v := iv 2) hx hb dX4_passPairs_10 (by decide) ?_
        refine sBi (sV (As := [.int (iv 2)]) (rest := []) (k := 189) Cx (s_X4_pass l G S2 (kd := 2) hI2 (by omega) (rt_pr hPR2 hrt) hPR2.2.2) (c_X4_122 Cx rfl rfl (rmk_ok (by omega) (by decide))) hW (by decide) rfl rfl rfl hl.1 rfl (Nat.le_of_ble_eq_true rfl) dX4_passPairs_11 ⟨Nat.le_of_ble_eq_true rfl, Nat.le_of_ble_eq_true rfl⟩) hL (fun r_10 u_8 H locs k_9 hW hL => ?_)
        obtain ⟨iu_8, fu_8, xu_8⟩ := k_9
        have F_11 := hFm2.trans fu_8
        have F_12 := hL2_.trans fu_8
        have pr_13 := PR.trans hPR2 xu_8.2
        refine r_if_eq (tgt := 41) hx hb ⟨(by omega), (by omega)⟩ dX4_passPairs_14 (by decide) (fun c_14 => ?_) (fun c_14 => ?_)
        · refine lv_aload_n hx hb dX4_passPairs_41 rfl (lv_at hl 1 rfl) ?_
          refine lv_iconst (v := iv 5) hx hb dX4_passPairs_42 (by decide) ?_
          refine sBi (sV (As := [.int (iv 5)]) (rest := []) (k := 189) Cx (s_X4_pass l G u_8 (kd := 5) iu_8 (by omega) (rt_pr pr_13 hrt) pr_13.2.2) (c_X4_122 Cx rfl rfl (rmk_ok (by omega) (by decide))) hW (by decide) rfl rfl rfl hl.1 rfl (Nat.le_of_ble_eq_true rfl) dX4_passPairs_43 ⟨Nat.le_of_ble_eq_true rfl, Nat.le_of_ble_eq_true rfl⟩) hL (fun r_17 u_15 H locs k_16 hW hL => ?_)
          obtain ⟨iu_15, fu_15, xu_15⟩ := k_16
          have F_18 := F_11.trans fu_15
          have F_19 := F_12.trans fu_15
          have pr_20 := PR.trans pr_13 xu_15.2
          exact sZret Cx hr hlk hW hL (by omega) ⟨iu_15, F_18, ⟨(by omega), pr_20⟩⟩ dX4_passPairs_46
        · refine lv_aload_n hx hb dX4_passPairs_17 rfl (lv_at hl 1 rfl) ?_
          refine lv_iconst (v := iv 4) hx hb dX4_passPairs_18 (by decide) ?_
          refine sBi (sV (As := [.int (iv 4)]) (rest := []) (k := 189) Cx (s_X4_pass l G u_8 (kd := 4) iu_8 (by omega) (rt_pr pr_13 hrt) pr_13.2.2) (c_X4_122 Cx rfl rfl (rmk_ok (by omega) (by decide))) hW (by decide) rfl rfl rfl hl.1 rfl (Nat.le_of_ble_eq_true rfl) dX4_passPairs_19 ⟨Nat.le_of_ble_eq_true rfl, Nat.le_of_ble_eq_true rfl⟩) hL (fun r_23 u_21 H locs k_22 hW hL => ?_)
          obtain ⟨iu_21, fu_21, xu_21⟩ := k_22
          have F_24 := F_11.trans fu_21
          have F_25 := F_12.trans fu_21
          have pr_26 := PR.trans pr_13 xu_21.2
          refine r_if_eq (tgt := 33) hx hb ⟨(by omega), (by omega)⟩ dX4_passPairs_22 (by decide) (fun c_27 => ?_) (fun c_27 => ?_)
          · refine lv_iconst (v := iv 0) hx hb dX4_passPairs_33 (by decide) ?_
            exact sZret Cx hr hlk hW hL (by omega) ⟨iu_21, F_24, ⟨(by omega), pr_26⟩⟩ dX4_passPairs_34
          · refine lv_aload_n hx hb dX4_passPairs_25 rfl (lv_at hl 1 rfl) ?_
            refine lv_iconst (v := iv 2) hx hb dX4_passPairs_26 (by decide) ?_
            refine sBi (sV (As := [.int (iv 2)]) (rest := []) (k := 189) Cx (s_X4_pass l G u_21 (kd := 2) iu_21 (by omega) (rt_pr pr_26 hrt) pr_26.2.2) (c_X4_122 Cx rfl rfl (rmk_ok (by omega) (by decide))) hW (by decide) rfl rfl rfl hl.1 rfl (Nat.le_of_ble_eq_true rfl) dX4_passPairs_27 ⟨Nat.le_of_ble_eq_true rfl, Nat.le_of_ble_eq_true rfl⟩) hL (fun r_30 u_28 H locs k_29 hW hL => ?_)
            obtain ⟨iu_28, fu_28, xu_28⟩ := k_29
            have F_31 := F_24.trans fu_28
            have F_32 := F_25.trans fu_28
            have pr_33 := PR.trans pr_26 xu_28.2
            refine r_if_ne (tgt := 35) hx hb ⟨(by omega), (by omega)⟩ dX4_passPairs_30 (by decide) (fun c_34 => ?_) (fun c_34 => ?_)
            · refine lv_iinc (v := iv (i + 1)) (lv' := [(1, .int (iv (i + 1))), (0, .ref (G.2.2.1 + 189))]) hx hb dX4_passPairs_35 hl (k := 0) rfl ((Int32.ofInt_add _ _).symm) (by decide) rfl (fun ls hl => ?_)
              refine lv_goto (tgt := 2) hx hb dX4_passPairs_38 (by decide) ?_
              exact ih_2 u_28 (i + 1) _ _ _ (by omega) iu_28 F_31 F_32 (by omega) pr_33 hW hL (lv_sub hl [0, 1] rfl)
            · refine lv_iconst (v := iv 0) hx hb dX4_passPairs_33 (by decide) ?_
              exact sZret Cx hr hlk hW hL (by omega) ⟨iu_28, F_31, ⟨(by omega), pr_33⟩⟩ dX4_passPairs_34
  exact loop_2 (_ + 1) S 0 _ _ _ (Nat.lt_succ_self _) hI (Fr.rf : Fr S S (p1 189)) Fr.rf (by omega) pr_0 hW hL (lv_sub hl [0, 1] rfl)

set_option maxRecDepth 100000 in
set_option maxHeartbeats 4000000 in
theorem s_X4_passTree (l : Launch) (G : sG) (S : sS)  (hI : cX G S 0 0 0) (hrt : RT G S) (hPS : PS S) : Met l yX4_passTree (.code yX4_passTree cX4_passTree 4 (some .boolean) :: tb) (rmk 4 0 0) (sPc G 294 S [.ref (G.2.2.1 + 189)]) (sQi G 294 (fun r u => cX G u 0 0 0 ∧ Fr S u (p1 189) ∧ ((0 ≤ r ∧ r ≤ 1) ∧ PR S u))) 0 0 (sF G) := by
  refine sEnter (by decide) (Nat.le_of_ble_eq_true rfl) ?_
  intro p e s m args below meth c Cx hr hlk hnm hW ls hl
  have Cx : sC G p m c cX4_passTree 4 s args RX4 := Cx
  obtain ⟨hx, hb, hml, hown, hts⟩ := id Cx.1
  have hL : sL G [] := sL_nil
  have hl : lv_has ls 4 [(0, .ref (G.2.2.1 + 189))] := hl
  have hW0 := hW
  have pr_0 : PR S S := PR.rf hPS
  refine lv_iconst (v := iv 1) hx hb dX4_passTree_0 (by decide) ?_
  refine lv_istore_n (lv' := [(1, .int (iv 1)), (0, .ref (G.2.2.1 + 189))]) hx hb dX4_passTree_1 rfl hl (by decide) rfl (fun ls hl => ?_)
  refine lv_iconst (v := iv 0) hx hb dX4_passTree_2 (by decide) ?_
  refine lv_istore_n (lv' := [(2, .int (iv 0)), (1, .int (iv 1)), (0, .ref (G.2.2.1 + 189))]) hx hb dX4_passTree_3 rfl hl (by decide) rfl (fun ls hl => ?_)
  have loop_4 : ∀ (fuel : Nat) (S4 : sS) (i : Int) (due : Int) (H : Heap) (locs : List Loc) (ls : Array Slot), (30001 - i).toNat < fuel → (cX G S4 0 0 0) → (Fr S S4 (p1 189)) → (Fr S S4 (p1 189)) → (0 ≤ i ∧ i ≤ 30001) → (0 ≤ due ∧ due ≤ i + 1) → (PR S S4) → sW G 294 S4 H → sL G locs → lv_has ls 4 [(2, .int (iv i)), (1, .int (iv due)), (0, .ref (G.2.2.1 + 189))] → W p l e (rmk 4 0 0) s m args below meth c H locs 0 0 (MQ below (sQi G 294 (fun r u => cX G u 0 0 0 ∧ Fr S u (p1 189) ∧ ((0 ≤ r ∧ r ≤ 1) ∧ PR S u))) args s 0 0 (sF G)) (F0 m 4 ls []) := by
    intro fuel
    induction fuel with
    | zero => intro S4 i due H locs ls hmeas hI4 hFm4 hL4_ hi hdu hPR4 hW hL hl; exact absurd hmeas (Nat.not_lt_zero _)
    | succ fuel ih_4 =>
      intro S4 i due H locs ls hmeas hI4 hFm4 hL4_ hi hdu hPR4 hW hL hl
      refine lv_iload_n hx hb dX4_passTree_4 rfl (lv_at hl 0 rfl) ?_
      refine lv_sipush (v := iv 30000) hx hb dX4_passTree_5 (by decide) ?_
      refine r_icmp_gt (tgt := 115) hx hb ⟨(by omega), (by omega)⟩ ⟨(by omega), (by omega)⟩ dX4_passTree_8 (by decide) (fun c_1 => ?_) (fun c_1 => ?_)
      · refine lv_iload_n hx hb dX4_passTree_115 rfl (lv_at hl 1 rfl) ?_
        refine r_if_ne (tgt := 123) hx hb ⟨(by omega), (by omega)⟩ dX4_passTree_116 (by decide) (fun c_2 => ?_) (fun c_2 => ?_)
        · refine lv_iconst (v := iv 0) hx hb dX4_passTree_123 (by decide) ?_
          exact sZret Cx hr hlk hW hL (by omega) ⟨hI4, hFm4, ⟨(by omega), hPR4⟩⟩ dX4_passTree_124
        · refine lv_iconst (v := iv 1) hx hb dX4_passTree_119 (by decide) ?_
          refine lv_goto (tgt := 124) hx hb dX4_passTree_120 (by decide) ?_
          exact sZret Cx hr hlk hW hL (by omega) ⟨hI4, hFm4, ⟨(by omega), hPR4⟩⟩ dX4_passTree_124
      · refine lv_iload_n hx hb dX4_passTree_11 rfl (lv_at hl 1 rfl) ?_
        refine r_if_le (tgt := 115) hx hb ⟨(by omega), (by omega)⟩ dX4_passTree_12 (by decide) (fun c_3 => ?_) (fun c_3 => ?_)
        · refine lv_iload_n hx hb dX4_passTree_115 rfl (lv_at hl 1 rfl) ?_
          refine r_if_ne (tgt := 123) hx hb ⟨(by omega), (by omega)⟩ dX4_passTree_116 (by decide) (fun c_4 => ?_) (fun c_4 => ?_)
          · refine lv_iconst (v := iv 0) hx hb dX4_passTree_123 (by decide) ?_
            exact sZret Cx hr hlk hW hL (by omega) ⟨hI4, hFm4, ⟨(by omega), hPR4⟩⟩ dX4_passTree_124
          · refine lv_iconst (v := iv 1) hx hb dX4_passTree_119 (by decide) ?_
            refine lv_goto (tgt := 124) hx hb dX4_passTree_120 (by decide) ?_
            exact sZret Cx hr hlk hW hL (by omega) ⟨hI4, hFm4, ⟨(by omega), hPR4⟩⟩ dX4_passTree_124
        · refine lv_aload_n hx hb dX4_passTree_15 rfl (lv_at hl 2 rfl) ?_
          have q_5 : 0 ≤ S4.1 189 3 ∧ S4.1 189 3 ≤ 1000000000 := hI4.fi 189 3 4 (by decide) rfl
          have q_6 : 0 ≤ S4.1 189 2 ∧ S4.1 189 2 ≤ 30001 := hI4.fi 189 2 4 (by decide) rfl
          refine sBi (sV (As := []) (rest := []) (k := 189) Cx (s_X4_kind l G S4  hI4) (c_X4_119 Cx rfl rfl (rmk_ok (by omega) (by decide))) hW (by decide) rfl rfl rfl hl.1 rfl (Nat.le_of_ble_eq_true rfl) dX4_passTree_16 ⟨Nat.le_of_ble_eq_true rfl, Nat.le_of_ble_eq_true rfl⟩) hL (fun r_9 u_7 H locs k_8 hW hL => ?_)
          obtain ⟨eu_7, xu_7⟩ := k_8
          rw [eu_7] at hW
          refine lv_istore_n (lv' := [(3, .int (iv r_9)), (2, .int (iv i)), (1, .int (iv due)), (0, .ref (G.2.2.1 + 189))]) hx hb dX4_passTree_19 rfl hl (by decide) rfl (fun ls hl => ?_)
          refine lv_iload_n hx hb dX4_passTree_20 rfl (lv_at hl 0 rfl) ?_
          refine lv_bipush (v := iv 12) hx hb dX4_passTree_21 (by decide) ?_
          refine r_icmp_lt (tgt := 32) hx hb ⟨(by omega), (by omega)⟩ ⟨(by omega), (by omega)⟩ dX4_passTree_23 (by decide) (fun c_10 => ?_) (fun c_10 => ?_)
          · refine lv_iconst (v := iv 0) hx hb dX4_passTree_32 (by decide) ?_
            exact sZret Cx hr hlk hW hL (by omega) ⟨hI4, hFm4, ⟨(by omega), hPR4⟩⟩ dX4_passTree_33
          · refine lv_iload_n hx hb dX4_passTree_26 rfl (lv_at hl 0 rfl) ?_
            refine lv_bipush (v := iv 15) hx hb dX4_passTree_27 (by decide) ?_
            refine r_icmp_le (tgt := 34) hx hb ⟨(by omega), (by omega)⟩ ⟨(by omega), (by omega)⟩ dX4_passTree_29 (by decide) (fun c_11 => ?_) (fun c_11 => ?_)
            · refine lv_aload_n hx hb dX4_passTree_34 rfl (lv_at hl 3 rfl) ?_
              refine lv_dup hx hb dX4_passTree_35 rfl ?_
              refine g_X4_40 Cx hW (k := 189) (by decide) rfl (v := S4.1 189 3) rfl dX4_passTree_36 ?_
              refine lv_iconst (v := iv 1) hx hb dX4_passTree_39 (by decide) ?_
              refine r_iadd hx hb dX4_passTree_40 ?_
              refine p_X4_40 Cx hW hL (k := 189) (by decide) rfl dX4_passTree_41 (fun H locs hW hL => ?_)
              have kg_u_7 := xu_7.2.1 (by omega)
              have kf_u_7 := xu_7.2.1 (by omega)
              have F_12 : Fr S (uF S4 189 3 ((S4.1 189 3) + 1)) (p1 189) := hFm4.F rfl
              have F_13 : Fr S (uF S4 189 3 ((S4.1 189 3) + 1)) (p1 189) := hL4_.F rfl
              have i_14 : cX G (uF S4 189 3 ((S4.1 189 3) + 1)) 0 0 0 := hI4.F rfl rfl (show 0 ≤ (S4.1 189 3) + 1 ∧ (S4.1 189 3) + 1 ≤ 1000000000 from ⟨by omega, by omega⟩)
              have pr_15 : PR S (uF S4 189 3 ((S4.1 189 3) + 1)) := PR.step hPR4 (by omega) kf_u_7.1 (by rw [kf_u_7.2]; omega)
              have join_85 : ∀ (S85 : sS)  (H : Heap) (locs : List Loc) (ls : Array Slot), (cX G S85 0 0 0) → (Fr S S85 (p1 189)) → (Fr S S85 (p1 189)) → (Fr ((uF S4 189 3 ((S4.1 189 3) + 1))) S85 (p1 189)) → (PR S S85) → sW G 294 S85 H → sL G locs → lv_has ls 4 [(3, .int (iv r_9)), (2, .int (iv i)), (1, .int (iv due)), (0, .ref (G.2.2.1 + 189))] → W p l e (rmk 4 0 0) s m args below meth c H locs 0 0 (MQ below (sQi G 294 (fun r u => cX G u 0 0 0 ∧ Fr S u (p1 189) ∧ ((0 ≤ r ∧ r ≤ 1) ∧ PR S u))) args s 0 0 (sF G)) (F0 m 85 ls []) := by
                intro S85  H locs ls hI85 hFm85 hFL485 hL85_ hPR85 hW hL hl
                refine lv_iload_n hx hb dX4_passTree_85 rfl (lv_at hl 2 rfl) ?_
                have join_107 : ∀ (dl : Int) (H : Heap) (locs : List Loc) (ls : Array Slot), (-1 ≤ dl ∧ dl ≤ 1) → sW G 294 S85 H → sL G locs → lv_has ls 4 [(3, .int (iv r_9)), (2, .int (iv i)), (1, .int (iv due)), (0, .ref (G.2.2.1 + 189))] → W p l e (rmk 4 0 0) s m args below meth c H locs 0 0 (MQ below (sQi G 294 (fun r u => cX G u 0 0 0 ∧ Fr S u (p1 189) ∧ ((0 ≤ r ∧ r ≤ 1) ∧ PR S u))) args s 0 0 (sF G)) (F0 m 107 ls [.int (iv dl), .int (iv due)]) := by
                  intro dl H locs ls hdl hW hL hl
                  refine r_iadd hx hb dX4_passTree_107 ?_
                  refine lv_istore_n (lv' := [(1, .int (iv (due + dl))), (3, .int (iv r_9)), (2, .int (iv i)), (0, .ref (G.2.2.1 + 189))]) hx hb dX4_passTree_108 rfl hl (by decide) rfl (fun ls hl => ?_)
                  refine lv_iinc (v := iv (i + 1)) (lv' := [(2, .int (iv (i + 1))), (1, .int (iv (due + dl))), (3, .int (iv r_9)), (0, .ref (G.2.2.1 + 189))]) hx hb dX4_passTree_109 hl (k := 2) rfl ((Int32.ofInt_add _ _).symm) (by decide) rfl (fun ls hl => ?_)
                  refine lv_goto (tgt := 4) hx hb dX4_passTree_112 (by decide) ?_
                  exact ih_4 S85 (i + 1) (due + dl) _ _ _ (by omega) hI85 hFm85 hFL485 (by omega) (by omega) hPR85 hW hL (lv_sub hl [0, 1, 3] rfl)
                refine lv_iload_n hx hb dX4_passTree_86 rfl (lv_at hl 0 rfl) ?_
                refine lv_bipush (v := iv 12) hx hb dX4_passTree_87 (by decide) ?_
                refine r_icmp_ne (tgt := 96) hx hb ⟨(by omega), (by omega)⟩ ⟨(by omega), (by omega)⟩ dX4_passTree_89 (by decide) (fun c_16 => ?_) (fun c_16 => ?_)
                · refine lv_iload_n hx hb dX4_passTree_96 rfl (lv_at hl 0 rfl) ?_
                  refine lv_bipush (v := iv 13) hx hb dX4_passTree_97 (by decide) ?_
                  refine r_icmp_ne (tgt := 106) hx hb ⟨(by omega), (by omega)⟩ ⟨(by omega), (by omega)⟩ dX4_passTree_99 (by decide) (fun c_17 => ?_) (fun c_17 => ?_)
                  · refine lv_iconst (v := iv (-1)) hx hb dX4_passTree_106 (by decide) ?_
                    exact join_107 ((-1)) _ _ _ (by omega) hW hL (lv_sub hl [0, 1, 2, 3] rfl)
                  · refine lv_iconst (v := iv 0) hx hb dX4_passTree_102 (by decide) ?_
                    refine lv_goto (tgt := 107) hx hb dX4_passTree_103 (by decide) ?_
                    exact join_107 0 _ _ _ (by omega) hW hL (lv_sub hl [0, 1, 2, 3] rfl)
                · refine lv_iconst (v := iv 1) hx hb dX4_passTree_92 (by decide) ?_
                  refine lv_goto (tgt := 107) hx hb dX4_passTree_93 (by decide) ?_
                  exact join_107 1 _ _ _ (by omega) hW hL (lv_sub hl [0, 1, 2, 3] rfl)
              refine lv_iload_n hx hb dX4_passTree_44 rfl (lv_at hl 0 rfl) ?_
              refine lv_bipush (v := iv 12) hx hb dX4_passTree_45 (by decide) ?_
              refine r_icmp_ne (tgt := 69) hx hb ⟨(by omega), (by omega)⟩ ⟨(by omega), (by omega)⟩ dX4_passTree_47 (by decide) (fun c_18 => ?_) (fun c_18 => ?_)
              · refine lv_aload_n hx hb dX4_passTree_69 rfl (lv_at hl 3 rfl) ?_
                refine sBi (sV (As := []) (rest := []) (k := 189) Cx (s_X4_passAbove l G (uF S4 189 3 ((S4.1 189 3) + 1))  i_14 (rt_pr pr_15 hrt) pr_15.2.2) (c_X4_125 Cx rfl rfl (rmk_ok (by omega) (by decide))) hW (by decide) rfl rfl rfl hl.1 rfl (Nat.le_of_ble_eq_true rfl) dX4_passTree_70 ⟨Nat.le_of_ble_eq_true rfl, Nat.le_of_ble_eq_true rfl⟩) hL (fun r_21 u_19 H locs k_20 hW hL => ?_)
                obtain ⟨iu_19, fu_19, xu_19⟩ := k_20
                have F_22 := F_12.trans fu_19
                have F_23 := F_13.trans fu_19
                have F_24 := (Fr.rf : Fr (uF S4 189 3 ((S4.1 189 3) + 1)) (uF S4 189 3 ((S4.1 189 3) + 1)) (p1 189)).trans fu_19
                have pr_25 := PR.trans pr_15 xu_19.2
                refine r_if_eq (tgt := 83) hx hb ⟨(by omega), (by omega)⟩ dX4_passTree_73 (by decide) (fun c_26 => ?_) (fun c_26 => ?_)
                · refine lv_iconst (v := iv 0) hx hb dX4_passTree_83 (by decide) ?_
                  exact sZret Cx hr hlk hW hL (by omega) ⟨iu_19, F_22, ⟨(by omega), pr_25⟩⟩ dX4_passTree_84
                · refine lv_aload_n hx hb dX4_passTree_76 rfl (lv_at hl 3 rfl) ?_
                  refine sBi (sV (As := []) (rest := []) (k := 189) Cx (s_X4_passPairs l G u_19  iu_19 (rt_pr pr_25 hrt) pr_25.2.2) (c_X4_135 Cx rfl rfl (rmk_ok (by omega) (by decide))) hW (by decide) rfl rfl rfl hl.1 rfl (Nat.le_of_ble_eq_true rfl) dX4_passTree_77 ⟨Nat.le_of_ble_eq_true rfl, Nat.le_of_ble_eq_true rfl⟩) hL (fun r_29 u_27 H locs k_28 hW hL => ?_)
                  obtain ⟨iu_27, fu_27, xu_27⟩ := k_28
                  have F_30 := F_22.trans fu_27
                  have F_31 := F_23.trans fu_27
                  have F_32 := F_24.trans fu_27
                  have pr_33 := PR.trans pr_25 xu_27.2
                  refine r_if_ne (tgt := 85) hx hb ⟨(by omega), (by omega)⟩ dX4_passTree_80 (by decide) (fun c_34 => ?_) (fun c_34 => ?_)
                  · exact join_85 u_27  _ _ _ iu_27 F_30 F_31 F_32 pr_33 hW hL (lv_sub hl [0, 1, 2, 3] rfl)
                  · refine lv_iconst (v := iv 0) hx hb dX4_passTree_83 (by decide) ?_
                    exact sZret Cx hr hlk hW hL (by omega) ⟨iu_27, F_30, ⟨(by omega), pr_33⟩⟩ dX4_passTree_84
              · refine lv_aload_n hx hb dX4_passTree_50 rfl (lv_at hl 3 rfl) ?_
                refine lv_iconst (v := iv 2) hx hb dX4_passTree_51 (by decide) ?_
                refine sBi (sV (As := [.int (iv 2)]) (rest := []) (k := 189) Cx (s_X4_pass l G (uF S4 189 3 ((S4.1 189 3) + 1)) (kd := 2) i_14 (by omega) (rt_pr pr_15 hrt) pr_15.2.2) (c_X4_122 Cx rfl rfl (rmk_ok (by omega) (by decide))) hW (by decide) rfl rfl rfl hl.1 rfl (Nat.le_of_ble_eq_true rfl) dX4_passTree_52 ⟨Nat.le_of_ble_eq_true rfl, Nat.le_of_ble_eq_true rfl⟩) hL (fun r_37 u_35 H locs k_36 hW hL => ?_)
                obtain ⟨iu_35, fu_35, xu_35⟩ := k_36
                have F_38 := F_12.trans fu_35
                have F_39 := F_13.trans fu_35
                have F_40 := (Fr.rf : Fr (uF S4 189 3 ((S4.1 189 3) + 1)) (uF S4 189 3 ((S4.1 189 3) + 1)) (p1 189)).trans fu_35
                have pr_41 := PR.trans pr_15 xu_35.2
                refine r_if_eq (tgt := 83) hx hb ⟨(by omega), (by omega)⟩ dX4_passTree_55 (by decide) (fun c_42 => ?_) (fun c_42 => ?_)
                · refine lv_iconst (v := iv 0) hx hb dX4_passTree_83 (by decide) ?_
                  exact sZret Cx hr hlk hW hL (by omega) ⟨iu_35, F_38, ⟨(by omega), pr_41⟩⟩ dX4_passTree_84
                · refine lv_aload_n hx hb dX4_passTree_58 rfl (lv_at hl 3 rfl) ?_
                  refine lv_iconst (v := iv 2) hx hb dX4_passTree_59 (by decide) ?_
                  refine sBi (sV (As := [.int (iv 2)]) (rest := []) (k := 189) Cx (s_X4_pass l G u_35 (kd := 2) iu_35 (by omega) (rt_pr pr_41 hrt) pr_41.2.2) (c_X4_122 Cx rfl rfl (rmk_ok (by omega) (by decide))) hW (by decide) rfl rfl rfl hl.1 rfl (Nat.le_of_ble_eq_true rfl) dX4_passTree_60 ⟨Nat.le_of_ble_eq_true rfl, Nat.le_of_ble_eq_true rfl⟩) hL (fun r_45 u_43 H locs k_44 hW hL => ?_)
                  obtain ⟨iu_43, fu_43, xu_43⟩ := k_44
                  have F_46 := F_38.trans fu_43
                  have F_47 := F_39.trans fu_43
                  have F_48 := F_40.trans fu_43
                  have pr_49 := PR.trans pr_41 xu_43.2
                  refine r_if_eq (tgt := 83) hx hb ⟨(by omega), (by omega)⟩ dX4_passTree_63 (by decide) (fun c_50 => ?_) (fun c_50 => ?_)
                  · refine lv_iconst (v := iv 0) hx hb dX4_passTree_83 (by decide) ?_
                    exact sZret Cx hr hlk hW hL (by omega) ⟨iu_43, F_46, ⟨(by omega), pr_49⟩⟩ dX4_passTree_84
                  · refine lv_goto (tgt := 85) hx hb dX4_passTree_66 (by decide) ?_
                    exact join_85 u_43  _ _ _ iu_43 F_46 F_47 F_48 pr_49 hW hL (lv_sub hl [0, 1, 2, 3] rfl)
            · refine lv_iconst (v := iv 0) hx hb dX4_passTree_32 (by decide) ?_
              exact sZret Cx hr hlk hW hL (by omega) ⟨hI4, hFm4, ⟨(by omega), hPR4⟩⟩ dX4_passTree_33
  exact loop_4 (_ + 1) S 0 1 _ _ _ (Nat.lt_succ_self _) hI (Fr.rf : Fr S S (p1 189)) Fr.rf (by omega) (by omega) pr_0 hW hL (lv_sub hl [0, 1, 2] rfl)

set_option maxRecDepth 100000 in
set_option maxHeartbeats 4000000 in
theorem s_X4_isProof (l : Launch) (G : sG) (S : sS) {vs : Int} (hI : cX G S 0 0 0) (hvs : 0 ≤ vs ∧ vs ≤ 12) (hrt : RT G S) (hPS : PS S) (hRO : RO S) : Met l yX4_isProof (.code yX4_isProof cX4_isProof 3 (some .boolean) :: tb) (rmk 5 0 0) (sPc G 294 S [.ref (G.2.2.1 + 189), .int (iv vs)]) (sQi G 294 (fun r u => cX G u 0 0 0 ∧ Fr S u (p1 189) ∧ ((0 ≤ r ∧ r ≤ 1) ∧ PR S u ∧ Hd (r = 1 → DA u)))) 0 0 (sF G) := by
  refine sEnter (by decide) (Nat.le_of_ble_eq_true rfl) ?_
  intro p e s m args below meth c Cx hr hlk hnm hW ls hl
  have Cx : sC G p m c cX4_isProof 3 s args RX4 := Cx
  obtain ⟨hx, hb, hml, hown, hts⟩ := id Cx.1
  have hL : sL G [] := sL_nil
  have hl : lv_has ls 3 [(0, .ref (G.2.2.1 + 189)), (1, .int (iv vs))] := hl
  have hW0 := hW
  have pr_0 : PR S S := PR.rf hPS
  refine lv_aload_n hx hb dX4_isProof_0 rfl (lv_at hl 0 rfl) ?_
  have q_1 : 0 ≤ S.1 189 3 ∧ S.1 189 3 ≤ 1000000000 := hI.fi 189 3 4 (by decide) rfl
  have q_2 : 0 ≤ S.1 189 2 ∧ S.1 189 2 ≤ 30001 := hI.fi 189 2 4 (by decide) rfl
  refine sBi (sV (As := []) (rest := []) (k := 189) Cx (s_X4_kind l G S  hI) (c_X4_119 Cx rfl rfl (rmk_ok (by omega) (by decide))) hW (by decide) rfl rfl rfl hl.1 rfl (Nat.le_of_ble_eq_true rfl) dX4_isProof_1 ⟨Nat.le_of_ble_eq_true rfl, Nat.le_of_ble_eq_true rfl⟩) hL (fun hd0 u_3 H locs k_4 hW hL => ?_)
  obtain ⟨eu_3, xu_3⟩ := k_4
  rw [eu_3] at hW
  refine lv_istore_n (lv' := [(2, .int (iv hd0)), (0, .ref (G.2.2.1 + 189)), (1, .int (iv vs))]) hx hb dX4_isProof_4 rfl hl (by decide) rfl (fun ls hl => ?_)
  have join_25 : ∀  (H : Heap) (locs : List Loc) (ls : Array Slot), (hd0 ≠ 0 ∧ hd0 ≠ 1) → sW G 294 S H → sL G locs → lv_has ls 3 [(2, .int (iv hd0)), (0, .ref (G.2.2.1 + 189)), (1, .int (iv vs))] → W p l e (rmk 5 0 0) s m args below meth c H locs 0 0 (MQ below (sQi G 294 (fun r u => cX G u 0 0 0 ∧ Fr S u (p1 189) ∧ ((0 ≤ r ∧ r ≤ 1) ∧ PR S u ∧ Hd (r = 1 → DA u)))) args s 0 0 (sF G)) (F0 m 25 ls []) := by
    intro  H locs ls hkn hW hL hl
    refine lv_aload_n hx hb dX4_isProof_25 rfl (lv_at hl 1 rfl) ?_
    refine lv_dup hx hb dX4_isProof_26 rfl ?_
    refine g_X4_40 Cx hW (k := 189) (by decide) rfl (v := S.1 189 3) rfl dX4_isProof_27 ?_
    refine lv_iconst (v := iv 1) hx hb dX4_isProof_30 (by decide) ?_
    refine r_iadd hx hb dX4_isProof_31 ?_
    refine p_X4_40 Cx hW hL (k := 189) (by decide) rfl dX4_isProof_32 (fun H locs hW hL => ?_)
    have kg_u_3 := xu_3.2.1 (by omega)
    have kf_u_3 := xu_3.2.1 (by omega)
    have F_5 : Fr S (uF S 189 3 ((S.1 189 3) + 1)) (p1 189) := (Fr.rf : Fr S S (p1 189)).F rfl
    have i_6 : cX G (uF S 189 3 ((S.1 189 3) + 1)) 0 0 0 := hI.F rfl rfl (show 0 ≤ (S.1 189 3) + 1 ∧ (S.1 189 3) + 1 ≤ 1000000000 from ⟨by omega, by omega⟩)
    have pr_7 : PR S (uF S 189 3 ((S.1 189 3) + 1)) := PR.step pr_0 (by omega) kf_u_3.1 (by rw [kf_u_3.2]; omega)
    have join_66 : ∀ (S66 : sS)  (H : Heap) (locs : List Loc) (ls : Array Slot), (cX G S66 0 0 0) → (Fr S S66 (p1 189)) → (Fr ((uF S 189 3 ((S.1 189 3) + 1))) S66 (p1 189)) → (PR S S66) → sW G 294 S66 H → sL G locs → lv_has ls 3 [(2, .int (iv hd0)), (0, .ref (G.2.2.1 + 189)), (1, .int (iv vs))] → W p l e (rmk 5 0 0) s m args below meth c H locs 0 0 (MQ below (sQi G 294 (fun r u => cX G u 0 0 0 ∧ Fr S u (p1 189) ∧ ((0 ≤ r ∧ r ≤ 1) ∧ PR S u ∧ Hd (r = 1 → DA u)))) args s 0 0 (sF G)) (F0 m 66 ls []) := by
      intro S66  H locs ls hI66 hFm66 hL66_ hPR66 hW hL hl
      have join_91 : ∀ (S91 : sS)  (H : Heap) (locs : List Loc) (ls : Array Slot), (cX G S91 0 0 0) → (Fr S S91 (p1 189)) → (Fr ((uF S 189 3 ((S.1 189 3) + 1))) S91 (p1 189)) → (Fr S66 S91 (p1 189)) → (PR S S91) → sW G 294 S91 H → sL G locs → lv_has ls 3 [(2, .int (iv hd0)), (0, .ref (G.2.2.1 + 189)), (1, .int (iv vs))] → W p l e (rmk 5 0 0) s m args below meth c H locs 0 0 (MQ below (sQi G 294 (fun r u => cX G u 0 0 0 ∧ Fr S u (p1 189) ∧ ((0 ≤ r ∧ r ≤ 1) ∧ PR S u ∧ Hd (r = 1 → DA u)))) args s 0 0 (sF G)) (F0 m 91 ls []) := by
        intro S91  H locs ls hI91 hFm91 hFL6691 hL91_ hPR91 hW hL hl
        refine lv_iload_n hx hb dX4_isProof_91 rfl (lv_at hl 0 rfl) ?_
        refine lv_bipush (v := iv 9) hx hb dX4_isProof_92 (by decide) ?_
        refine r_icmp_ne (tgt := 127) hx hb ⟨(by omega), (by omega)⟩ ⟨(by omega), (by omega)⟩ dX4_isProof_94 (by decide) (fun c_8 => ?_) (fun c_8 => ?_)
        · refine lv_aload_n hx hb dX4_isProof_127 rfl (lv_at hl 1 rfl) ?_
          refine sBi (sV (As := []) (rest := []) (k := 189) Cx (s_X4_passTree l G S91  hI91 (rt_pr hPR91 hrt) hPR91.2.2) (c_X4_132 Cx rfl rfl (rmk_ok (by omega) (by decide))) hW (by decide) rfl rfl rfl hl.1 rfl (Nat.le_of_ble_eq_true rfl) dX4_isProof_128 ⟨Nat.le_of_ble_eq_true rfl, Nat.le_of_ble_eq_true rfl⟩) hL (fun r_11 u_9 H locs k_10 hW hL => ?_)
          obtain ⟨iu_9, fu_9, xu_9⟩ := k_10
          have F_12 := hFm91.trans fu_9
          have F_13 := hFL6691.trans fu_9
          have F_14 := hL91_.trans fu_9
          have pr_15 := PR.trans hPR91 xu_9.2
          refine r_if_eq (tgt := 145) hx hb ⟨(by omega), (by omega)⟩ dX4_isProof_131 (by decide) (fun c_16 => ?_) (fun c_16 => ?_)
          · refine lv_iconst (v := iv 0) hx hb dX4_isProof_145 (by decide) ?_
            exact sZret Cx hr hlk hW hL (by omega) ⟨iu_9, F_12, ⟨(by omega), pr_15, fun q => absurd q (by omega)⟩⟩ dX4_isProof_146
          · refine lv_aload_n hx hb dX4_isProof_134 rfl (lv_at hl 1 rfl) ?_
            have q_17 : 0 ≤ u_9.1 189 3 ∧ u_9.1 189 3 ≤ 1000000000 := iu_9.fi 189 3 4 (by decide) rfl
            have q_18 : 0 ≤ u_9.1 189 2 ∧ u_9.1 189 2 ≤ 30001 := iu_9.fi 189 2 4 (by decide) rfl
            refine sBi (sV (As := []) (rest := []) (k := 189) Cx (s_X4_kind l G u_9  iu_9) (c_X4_119 Cx rfl rfl (rmk_ok (by omega) (by decide))) hW (by decide) rfl rfl rfl hl.1 rfl (Nat.le_of_ble_eq_true rfl) dX4_isProof_135 ⟨Nat.le_of_ble_eq_true rfl, Nat.le_of_ble_eq_true rfl⟩) hL (fun r_21 u_19 H locs k_20 hW hL => ?_)
            obtain ⟨eu_19, xu_19⟩ := k_20
            rw [eu_19] at hW
            refine r_if_ne (tgt := 145) hx hb ⟨(by omega), (by omega)⟩ dX4_isProof_138 (by decide) (fun c_22 => ?_) (fun c_22 => ?_)
            · refine lv_iconst (v := iv 0) hx hb dX4_isProof_145 (by decide) ?_
              exact sZret Cx hr hlk hW hL (by omega) ⟨iu_9, F_12, ⟨(by omega), pr_15, fun q => absurd q (by omega)⟩⟩ dX4_isProof_146
            · refine lv_iconst (v := iv 1) hx hb dX4_isProof_141 (by decide) ?_
              refine lv_goto (tgt := 146) hx hb dX4_isProof_142 (by decide) ?_
              exact sZret Cx hr hlk hW hL (by omega) ⟨iu_9, F_12, ⟨(by omega), pr_15, fun _ => DA_of hRO pr_15 ((F_12 1 rfl).1 1) (iu_9.fi 189 3 4 (by decide) rfl).1 (xu_19.2.2 (by omega))⟩⟩ dX4_isProof_146
        · refine lv_aload_n hx hb dX4_isProof_97 rfl (lv_at hl 1 rfl) ?_
          refine lv_bipush (v := iv 11) hx hb dX4_isProof_98 (by decide) ?_
          refine sBi (sV (As := [.int (iv 11)]) (rest := []) (k := 189) Cx (s_X4_pass l G S91 (kd := 11) hI91 (by omega) (rt_pr hPR91 hrt) hPR91.2.2) (c_X4_122 Cx rfl rfl (rmk_ok (by omega) (by decide))) hW (by decide) rfl rfl rfl hl.1 rfl (Nat.le_of_ble_eq_true rfl) dX4_isProof_100 ⟨Nat.le_of_ble_eq_true rfl, Nat.le_of_ble_eq_true rfl⟩) hL (fun r_25 u_23 H locs k_24 hW hL => ?_)
          obtain ⟨iu_23, fu_23, xu_23⟩ := k_24
          have F_26 := hFm91.trans fu_23
          have F_27 := hFL6691.trans fu_23
          have F_28 := hL91_.trans fu_23
          have pr_29 := PR.trans hPR91 xu_23.2
          refine r_if_eq (tgt := 125) hx hb ⟨(by omega), (by omega)⟩ dX4_isProof_103 (by decide) (fun c_30 => ?_) (fun c_30 => ?_)
          · refine lv_iconst (v := iv 0) hx hb dX4_isProof_125 (by decide) ?_
            exact sZret Cx hr hlk hW hL (by omega) ⟨iu_23, F_26, ⟨(by omega), pr_29, fun q => absurd q (by omega)⟩⟩ dX4_isProof_126
          · refine lv_aload_n hx hb dX4_isProof_106 rfl (lv_at hl 1 rfl) ?_
            refine lv_iload_n hx hb dX4_isProof_107 rfl (lv_at hl 2 rfl) ?_
            refine sBi (sV (As := [.int (iv vs)]) (rest := []) (k := 189) Cx (s_X4_passPoint l G u_23 (vs := vs) iu_23 (by omega) (rt_pr pr_29 hrt) pr_29.2.2) (c_X4_129 Cx rfl rfl (rmk_ok (by omega) (by decide))) hW (by decide) rfl rfl rfl hl.1 rfl (Nat.le_of_ble_eq_true rfl) dX4_isProof_108 ⟨Nat.le_of_ble_eq_true rfl, Nat.le_of_ble_eq_true rfl⟩) hL (fun r_33 u_31 H locs k_32 hW hL => ?_)
            obtain ⟨iu_31, fu_31, xu_31⟩ := k_32
            have F_34 := F_26.trans fu_31
            have F_35 := F_27.trans fu_31
            have F_36 := F_28.trans fu_31
            have pr_37 := PR.trans pr_29 xu_31.2
            refine r_if_eq (tgt := 125) hx hb ⟨(by omega), (by omega)⟩ dX4_isProof_111 (by decide) (fun c_38 => ?_) (fun c_38 => ?_)
            · refine lv_iconst (v := iv 0) hx hb dX4_isProof_125 (by decide) ?_
              exact sZret Cx hr hlk hW hL (by omega) ⟨iu_31, F_34, ⟨(by omega), pr_37, fun q => absurd q (by omega)⟩⟩ dX4_isProof_126
            · refine lv_aload_n hx hb dX4_isProof_114 rfl (lv_at hl 1 rfl) ?_
              have q_39 : 0 ≤ u_31.1 189 3 ∧ u_31.1 189 3 ≤ 1000000000 := iu_31.fi 189 3 4 (by decide) rfl
              have q_40 : 0 ≤ u_31.1 189 2 ∧ u_31.1 189 2 ≤ 30001 := iu_31.fi 189 2 4 (by decide) rfl
              refine sBi (sV (As := []) (rest := []) (k := 189) Cx (s_X4_kind l G u_31  iu_31) (c_X4_119 Cx rfl rfl (rmk_ok (by omega) (by decide))) hW (by decide) rfl rfl rfl hl.1 rfl (Nat.le_of_ble_eq_true rfl) dX4_isProof_115 ⟨Nat.le_of_ble_eq_true rfl, Nat.le_of_ble_eq_true rfl⟩) hL (fun r_43 u_41 H locs k_42 hW hL => ?_)
              obtain ⟨eu_41, xu_41⟩ := k_42
              rw [eu_41] at hW
              refine r_if_ne (tgt := 125) hx hb ⟨(by omega), (by omega)⟩ dX4_isProof_118 (by decide) (fun c_44 => ?_) (fun c_44 => ?_)
              · refine lv_iconst (v := iv 0) hx hb dX4_isProof_125 (by decide) ?_
                exact sZret Cx hr hlk hW hL (by omega) ⟨iu_31, F_34, ⟨(by omega), pr_37, fun q => absurd q (by omega)⟩⟩ dX4_isProof_126
              · refine lv_iconst (v := iv 1) hx hb dX4_isProof_121 (by decide) ?_
                refine lv_goto (tgt := 126) hx hb dX4_isProof_122 (by decide) ?_
                exact sZret Cx hr hlk hW hL (by omega) ⟨iu_31, F_34, ⟨(by omega), pr_37, fun _ => DA_of hRO pr_37 ((F_34 1 rfl).1 1) (iu_31.fi 189 3 4 (by decide) rfl).1 (xu_41.2.2 (by omega))⟩⟩ dX4_isProof_126
      refine lv_iload_n hx hb dX4_isProof_66 rfl (lv_at hl 0 rfl) ?_
      refine lv_bipush (v := iv 8) hx hb dX4_isProof_67 (by decide) ?_
      refine r_icmp_eq (tgt := 91) hx hb ⟨(by omega), (by omega)⟩ ⟨(by omega), (by omega)⟩ dX4_isProof_69 (by decide) (fun c_45 => ?_) (fun c_45 => ?_)
      · exact join_91 S66  _ _ _ hI66 hFm66 hL66_ (Fr.rf : Fr S66 S66 (p1 189)) hPR66 hW hL (lv_sub hl [0, 1, 2] rfl)
      · refine lv_aload_n hx hb dX4_isProof_72 rfl (lv_at hl 1 rfl) ?_
        refine lv_bipush (v := iv 10) hx hb dX4_isProof_73 (by decide) ?_
        refine sBi (sV (As := [.int (iv 10)]) (rest := []) (k := 189) Cx (s_X4_pass l G S66 (kd := 10) hI66 (by omega) (rt_pr hPR66 hrt) hPR66.2.2) (c_X4_122 Cx rfl rfl (rmk_ok (by omega) (by decide))) hW (by decide) rfl rfl rfl hl.1 rfl (Nat.le_of_ble_eq_true rfl) dX4_isProof_75 ⟨Nat.le_of_ble_eq_true rfl, Nat.le_of_ble_eq_true rfl⟩) hL (fun r_48 u_46 H locs k_47 hW hL => ?_)
        obtain ⟨iu_46, fu_46, xu_46⟩ := k_47
        have F_49 := hFm66.trans fu_46
        have F_50 := hL66_.trans fu_46
        have F_51 := (Fr.rf : Fr S66 S66 (p1 189)).trans fu_46
        have pr_52 := PR.trans hPR66 xu_46.2
        refine r_if_eq (tgt := 89) hx hb ⟨(by omega), (by omega)⟩ dX4_isProof_78 (by decide) (fun c_53 => ?_) (fun c_53 => ?_)
        · refine lv_iconst (v := iv 0) hx hb dX4_isProof_89 (by decide) ?_
          exact sZret Cx hr hlk hW hL (by omega) ⟨iu_46, F_49, ⟨(by omega), pr_52, fun q => absurd q (by omega)⟩⟩ dX4_isProof_90
        · refine lv_aload_n hx hb dX4_isProof_81 rfl (lv_at hl 1 rfl) ?_
          refine lv_iload_n hx hb dX4_isProof_82 rfl (lv_at hl 2 rfl) ?_
          refine sBi (sV (As := [.int (iv vs)]) (rest := []) (k := 189) Cx (s_X4_passPoint l G u_46 (vs := vs) iu_46 (by omega) (rt_pr pr_52 hrt) pr_52.2.2) (c_X4_129 Cx rfl rfl (rmk_ok (by omega) (by decide))) hW (by decide) rfl rfl rfl hl.1 rfl (Nat.le_of_ble_eq_true rfl) dX4_isProof_83 ⟨Nat.le_of_ble_eq_true rfl, Nat.le_of_ble_eq_true rfl⟩) hL (fun r_56 u_54 H locs k_55 hW hL => ?_)
          obtain ⟨iu_54, fu_54, xu_54⟩ := k_55
          have F_57 := F_49.trans fu_54
          have F_58 := F_50.trans fu_54
          have F_59 := F_51.trans fu_54
          have pr_60 := PR.trans pr_52 xu_54.2
          refine r_if_ne (tgt := 91) hx hb ⟨(by omega), (by omega)⟩ dX4_isProof_86 (by decide) (fun c_61 => ?_) (fun c_61 => ?_)
          · exact join_91 u_54  _ _ _ iu_54 F_57 F_58 F_59 pr_60 hW hL (lv_sub hl [0, 1, 2] rfl)
          · refine lv_iconst (v := iv 0) hx hb dX4_isProof_89 (by decide) ?_
            exact sZret Cx hr hlk hW hL (by omega) ⟨iu_54, F_57, ⟨(by omega), pr_60, fun q => absurd q (by omega)⟩⟩ dX4_isProof_90
    refine lv_iload_n hx hb dX4_isProof_35 rfl (lv_at hl 0 rfl) ?_
    refine lv_bipush (v := iv 7) hx hb dX4_isProof_36 (by decide) ?_
    refine r_icmp_ne (tgt := 66) hx hb ⟨(by omega), (by omega)⟩ ⟨(by omega), (by omega)⟩ dX4_isProof_38 (by decide) (fun c_62 => ?_) (fun c_62 => ?_)
    · exact join_66 (uF S 189 3 ((S.1 189 3) + 1))  _ _ _ i_6 F_5 (Fr.rf : Fr (uF S 189 3 ((S.1 189 3) + 1)) (uF S 189 3 ((S.1 189 3) + 1)) (p1 189)) pr_7 hW hL (lv_sub hl [0, 1, 2] rfl)
    · refine lv_aload_n hx hb dX4_isProof_41 rfl (lv_at hl 1 rfl) ?_
      refine lv_iconst (v := iv 2) hx hb dX4_isProof_42 (by decide) ?_
      refine sBi (sV (As := [.int (iv 2)]) (rest := []) (k := 189) Cx (s_X4_pass l G (uF S 189 3 ((S.1 189 3) + 1)) (kd := 2) i_6 (by omega) (rt_pr pr_7 hrt) pr_7.2.2) (c_X4_122 Cx rfl rfl (rmk_ok (by omega) (by decide))) hW (by decide) rfl rfl rfl hl.1 rfl (Nat.le_of_ble_eq_true rfl) dX4_isProof_43 ⟨Nat.le_of_ble_eq_true rfl, Nat.le_of_ble_eq_true rfl⟩) hL (fun r_65 u_63 H locs k_64 hW hL => ?_)
      obtain ⟨iu_63, fu_63, xu_63⟩ := k_64
      have F_66 := F_5.trans fu_63
      have F_67 := (Fr.rf : Fr (uF S 189 3 ((S.1 189 3) + 1)) (uF S 189 3 ((S.1 189 3) + 1)) (p1 189)).trans fu_63
      have pr_68 := PR.trans pr_7 xu_63.2
      refine r_if_eq (tgt := 64) hx hb ⟨(by omega), (by omega)⟩ dX4_isProof_46 (by decide) (fun c_69 => ?_) (fun c_69 => ?_)
      · refine lv_iconst (v := iv 0) hx hb dX4_isProof_64 (by decide) ?_
        exact sZret Cx hr hlk hW hL (by omega) ⟨iu_63, F_66, ⟨(by omega), pr_68, fun q => absurd q (by omega)⟩⟩ dX4_isProof_65
      · refine lv_aload_n hx hb dX4_isProof_49 rfl (lv_at hl 1 rfl) ?_
        refine lv_iconst (v := iv 3) hx hb dX4_isProof_50 (by decide) ?_
        refine sBi (sV (As := [.int (iv 3)]) (rest := []) (k := 189) Cx (s_X4_pass l G u_63 (kd := 3) iu_63 (by omega) (rt_pr pr_68 hrt) pr_68.2.2) (c_X4_122 Cx rfl rfl (rmk_ok (by omega) (by decide))) hW (by decide) rfl rfl rfl hl.1 rfl (Nat.le_of_ble_eq_true rfl) dX4_isProof_51 ⟨Nat.le_of_ble_eq_true rfl, Nat.le_of_ble_eq_true rfl⟩) hL (fun r_72 u_70 H locs k_71 hW hL => ?_)
        obtain ⟨iu_70, fu_70, xu_70⟩ := k_71
        have F_73 := F_66.trans fu_70
        have F_74 := F_67.trans fu_70
        have pr_75 := PR.trans pr_68 xu_70.2
        refine r_if_eq (tgt := 64) hx hb ⟨(by omega), (by omega)⟩ dX4_isProof_54 (by decide) (fun c_76 => ?_) (fun c_76 => ?_)
        · refine lv_iconst (v := iv 0) hx hb dX4_isProof_64 (by decide) ?_
          exact sZret Cx hr hlk hW hL (by omega) ⟨iu_70, F_73, ⟨(by omega), pr_75, fun q => absurd q (by omega)⟩⟩ dX4_isProof_65
        · refine lv_aload_n hx hb dX4_isProof_57 rfl (lv_at hl 1 rfl) ?_
          refine sBi (sV (As := []) (rest := []) (k := 189) Cx (s_X4_passAbove l G u_70  iu_70 (rt_pr pr_75 hrt) pr_75.2.2) (c_X4_125 Cx rfl rfl (rmk_ok (by omega) (by decide))) hW (by decide) rfl rfl rfl hl.1 rfl (Nat.le_of_ble_eq_true rfl) dX4_isProof_58 ⟨Nat.le_of_ble_eq_true rfl, Nat.le_of_ble_eq_true rfl⟩) hL (fun r_79 u_77 H locs k_78 hW hL => ?_)
          obtain ⟨iu_77, fu_77, xu_77⟩ := k_78
          have F_80 := F_73.trans fu_77
          have F_81 := F_74.trans fu_77
          have pr_82 := PR.trans pr_75 xu_77.2
          refine r_if_ne (tgt := 66) hx hb ⟨(by omega), (by omega)⟩ dX4_isProof_61 (by decide) (fun c_83 => ?_) (fun c_83 => ?_)
          · exact join_66 u_77  _ _ _ iu_77 F_80 F_81 pr_82 hW hL (lv_sub hl [0, 1, 2] rfl)
          · refine lv_iconst (v := iv 0) hx hb dX4_isProof_64 (by decide) ?_
            exact sZret Cx hr hlk hW hL (by omega) ⟨iu_77, F_80, ⟨(by omega), pr_82, fun q => absurd q (by omega)⟩⟩ dX4_isProof_65
  refine lv_iload_n hx hb dX4_isProof_5 rfl (lv_at hl 0 rfl) ?_
  refine lv_bipush (v := iv 7) hx hb dX4_isProof_6 (by decide) ?_
  refine r_icmp_eq (tgt := 25) hx hb ⟨(by omega), (by omega)⟩ ⟨(by omega), (by omega)⟩ dX4_isProof_8 (by decide) (fun c_84 => ?_) (fun c_84 => ?_)
  · exact join_25  _ _ _ (by omega) hW hL (lv_sub hl [0, 1, 2] rfl)
  · refine lv_iload_n hx hb dX4_isProof_11 rfl (lv_at hl 0 rfl) ?_
    refine lv_bipush (v := iv 8) hx hb dX4_isProof_12 (by decide) ?_
    refine r_icmp_eq (tgt := 25) hx hb ⟨(by omega), (by omega)⟩ ⟨(by omega), (by omega)⟩ dX4_isProof_14 (by decide) (fun c_85 => ?_) (fun c_85 => ?_)
    · exact join_25  _ _ _ (by omega) hW hL (lv_sub hl [0, 1, 2] rfl)
    · refine lv_iload_n hx hb dX4_isProof_17 rfl (lv_at hl 0 rfl) ?_
      refine lv_bipush (v := iv 9) hx hb dX4_isProof_18 (by decide) ?_
      refine r_icmp_eq (tgt := 25) hx hb ⟨(by omega), (by omega)⟩ ⟨(by omega), (by omega)⟩ dX4_isProof_20 (by decide) (fun c_86 => ?_) (fun c_86 => ?_)
      · exact join_25  _ _ _ (by omega) hW hL (lv_sub hl [0, 1, 2] rfl)
      · refine lv_iconst (v := iv 0) hx hb dX4_isProof_23 (by decide) ?_
        exact sZret Cx hr hlk hW hL (by omega) ⟨hI, (Fr.rf : Fr S S (p1 189)), ⟨(by omega), pr_0, fun q => absurd q (by omega)⟩⟩ dX4_isProof_24

set_option maxRecDepth 100000 in
set_option maxHeartbeats 4000000 in
theorem s_X4_takeCount (l : Launch) (G : sG) (S : sS)  (hI : cX G S 0 0 0) (hCR : CR G S) (hat : S.1 189 3 ≤ 999999999) : Met l yX4_takeCount (.code yX4_takeCount cX4_takeCount 5 (some .int) :: tb) (rmk 3 0 0) (sPc G 294 S [.ref (G.2.2.1 + 189)]) (sQi G 294 (fun r u => cX G u 0 0 0 ∧ Fr S u (p1 189) ∧ (CR G u ∧ u.1 189 3 = S.1 189 3 + 1 ∧ -49 ≤ r ∧ r ≤ 1000000))) 0 0 (sF G) := by
  refine sEnter (by decide) (Nat.le_of_ble_eq_true rfl) ?_
  intro p e s m args below meth c Cx hr hlk hnm hW ls hl
  have Cx : sC G p m c cX4_takeCount 5 s args RX4 := Cx
  obtain ⟨hx, hb, hml, hown, hts⟩ := id Cx.1
  have hL : sL G [] := sL_nil
  have hl : lv_has ls 5 [(0, .ref (G.2.2.1 + 189))] := hl
  have hW0 := hW
  have hl1 : 0 ≤ S.1 1 1 ∧ S.1 1 1 ≤ 30000 := hI.fi 1 1 10 (by decide) rfl
  have hat0 : 0 ≤ S.1 189 3 ∧ S.1 189 3 ≤ 1000000000 := hI.fi 189 3 4 (by decide) rfl
  refine lv_aload_n hx hb dX4_takeCount_0 rfl (lv_at hl 0 rfl) ?_
  have q_1 : 0 ≤ S.1 189 3 ∧ S.1 189 3 ≤ 1000000000 := hI.fi 189 3 4 (by decide) rfl
  have q_2 : 0 ≤ S.1 189 2 ∧ S.1 189 2 ≤ 30001 := hI.fi 189 2 4 (by decide) rfl
  refine sBi (sV (As := []) (rest := []) (k := 189) Cx (s_X4_start l G S  hI) (c_X4_106 Cx rfl rfl (rmk_ok (by omega) (by decide))) hW (by decide) rfl rfl rfl hl.1 rfl (Nat.le_of_ble_eq_true rfl) dX4_takeCount_1 ⟨Nat.le_of_ble_eq_true rfl, Nat.le_of_ble_eq_true rfl⟩) hL (fun fs u_3 H locs k_4 hW hL => ?_)
  obtain ⟨eu_3, xu_3⟩ := k_4
  rw [eu_3] at hW
  refine lv_istore_n (lv' := [(1, .int (iv fs)), (0, .ref (G.2.2.1 + 189))]) hx hb dX4_takeCount_4 rfl hl (by decide) rfl (fun ls hl => ?_)
  refine lv_aload_n hx hb dX4_takeCount_5 rfl (lv_at hl 1 rfl) ?_
  refine lv_iload_n hx hb dX4_takeCount_6 rfl (lv_at hl 0 rfl) ?_
  refine lv_aload_n hx hb dX4_takeCount_7 rfl (lv_at hl 1 rfl) ?_
  refine g_X4_14 Cx hW (k := 189) (by decide) rfl (v := .ref (G.2.2.1 + 1)) hCR.1 dX4_takeCount_8 ?_
  have q_5 : 0 ≤ S.1 1 1 ∧ S.1 1 1 ≤ 30000 := hI.fi 1 1 10 (by decide) rfl
  refine sBi (sV (As := []) (rest := [.int (iv fs), .ref (G.2.2.1 + 189)]) (k := 1) Cx (s_X10_length l G S (o := 1) (N := 30000) hI ⟨by decide, rfl, rfl, rfl, rfl, by decide⟩) (c_X4_28 Cx rfl rfl (rmk_ok (by omega) (by decide))) hW (by decide) rfl rfl rfl hl.1 rfl (Nat.le_of_ble_eq_true rfl) dX4_takeCount_11 ⟨Nat.le_of_ble_eq_true rfl, Nat.le_of_ble_eq_true rfl⟩) hL (fun r_8 u_6 H locs k_7 hW hL => ?_)
  obtain ⟨eu_6, xu_6⟩ := k_7
  rw [eu_6] at hW
  refine sBi (sV (As := [.int (iv fs), .int (iv r_8)]) (rest := []) (k := 189) Cx (s_X4_behindDigits l G S (f := fs) (ln := r_8) hI (by omega) (by omega) hCR.1) (c_X4_94 Cx rfl rfl (rmk_ok (by omega) (by decide))) hW (by decide) rfl rfl rfl hl.1 rfl (Nat.le_of_ble_eq_true rfl) dX4_takeCount_14 ⟨Nat.le_of_ble_eq_true rfl, Nat.le_of_ble_eq_true rfl⟩) hL (fun be u_9 H locs k_10 hW hL => ?_)
  obtain ⟨eu_9, xu_9⟩ := k_10
  rw [eu_9] at hW
  refine lv_istore_n (lv' := [(2, .int (iv be)), (1, .int (iv fs)), (0, .ref (G.2.2.1 + 189))]) hx hb dX4_takeCount_17 rfl hl (by decide) rfl (fun ls hl => ?_)
  have join_28 : ∀ (v0 : Int) (H : Heap) (locs : List Loc) (ls : Array Slot), (-1 ≤ v0 ∧ v0 ≤ 0) → sW G 294 S H → sL G locs → lv_has ls 5 [(2, .int (iv be)), (1, .int (iv fs)), (0, .ref (G.2.2.1 + 189))] → W p l e (rmk 3 0 0) s m args below meth c H locs 0 0 (MQ below (sQi G 294 (fun r u => cX G u 0 0 0 ∧ Fr S u (p1 189) ∧ (CR G u ∧ u.1 189 3 = S.1 189 3 + 1 ∧ -49 ≤ r ∧ r ≤ 1000000))) args s 0 0 (sF G)) (F0 m 28 ls [.int (iv v0)]) := by
    intro v0 H locs ls hv0 hW hL hl
    refine lv_istore_n (lv' := [(3, .int (iv v0)), (2, .int (iv be)), (1, .int (iv fs)), (0, .ref (G.2.2.1 + 189))]) hx hb dX4_takeCount_28 rfl hl (by decide) rfl (fun ls hl => ?_)
    refine lv_iload_n hx hb dX4_takeCount_29 rfl (lv_at hl 2 rfl) ?_
    refine lv_istore (lv' := [(4, .int (iv fs)), (3, .int (iv v0)), (2, .int (iv be)), (1, .int (iv fs)), (0, .ref (G.2.2.1 + 189))]) hx hb dX4_takeCount_30 hl (by decide) rfl (fun ls hl => ?_)
    have loop_32 : ∀ (fuel : Nat) (i : Int) (va : Int) (H : Heap) (locs : List Loc) (ls : Array Slot), (30001 - i).toNat < fuel → (-49 ≤ va ∧ va ≤ 1000000) → (fs ≤ i ∧ i ≤ 30001) → sW G 294 S H → sL G locs → lv_has ls 5 [(4, .int (iv i)), (3, .int (iv va)), (2, .int (iv be)), (1, .int (iv fs)), (0, .ref (G.2.2.1 + 189))] → W p l e (rmk 3 0 0) s m args below meth c H locs 0 0 (MQ below (sQi G 294 (fun r u => cX G u 0 0 0 ∧ Fr S u (p1 189) ∧ (CR G u ∧ u.1 189 3 = S.1 189 3 + 1 ∧ -49 ≤ r ∧ r ≤ 1000000))) args s 0 0 (sF G)) (F0 m 32 ls []) := by
      intro fuel
      induction fuel with
      | zero => intro i va H locs ls hmeas hva hi hW hL hl; exact absurd hmeas (Nat.not_lt_zero _)
      | succ fuel ih_32 =>
        intro i va H locs ls hmeas hva hi hW hL hl
        refine lv_iload hx hb dX4_takeCount_32 (lv_at hl 0 rfl) ?_
        refine lv_iload_n hx hb dX4_takeCount_34 rfl (lv_at hl 2 rfl) ?_
        refine r_icmp_ge (tgt := 78) hx hb ⟨(by omega), (by omega)⟩ ⟨(by omega), (by omega)⟩ dX4_takeCount_35 (by decide) (fun c_11 => ?_) (fun c_11 => ?_)
        · refine lv_aload_n hx hb dX4_takeCount_78 rfl (lv_at hl 4 rfl) ?_
          refine lv_dup hx hb dX4_takeCount_79 rfl ?_
          refine g_X4_40 Cx hW (k := 189) (by decide) rfl (v := S.1 189 3) rfl dX4_takeCount_80 ?_
          refine lv_iconst (v := iv 1) hx hb dX4_takeCount_83 (by decide) ?_
          refine r_iadd hx hb dX4_takeCount_84 ?_
          refine p_X4_40 Cx hW hL (k := 189) (by decide) rfl dX4_takeCount_85 (fun H locs hW hL => ?_)
          have F_12 : Fr S (uF S 189 3 ((S.1 189 3) + 1)) (p1 189) := (Fr.rf : Fr S S (p1 189)).F rfl
          have i_13 : cX G (uF S 189 3 ((S.1 189 3) + 1)) 0 0 0 := hI.F rfl rfl (show 0 ≤ (S.1 189 3) + 1 ∧ (S.1 189 3) + 1 ≤ 1000000000 from ⟨by omega, by omega⟩)
          refine lv_iload_n hx hb dX4_takeCount_88 rfl (lv_at hl 1 rfl) ?_
          have lk_14 : (uF S 189 3 ((S.1 189 3) + 1)).1 189 3 = (S.1 189 3) + 1 := uF_on
          exact sIret Cx hr hlk hW hL ⟨i_13, F_12, ⟨hCR.F (by decide), (by omega), (by omega)⟩⟩ dX4_takeCount_89
        · refine lv_iload_n hx hb dX4_takeCount_38 rfl (lv_at hl 1 rfl) ?_
          refine r_if_lt (tgt := 78) hx hb ⟨(by omega), (by omega)⟩ dX4_takeCount_39 (by decide) (fun c_15 => ?_) (fun c_15 => ?_)
          · refine lv_aload_n hx hb dX4_takeCount_78 rfl (lv_at hl 4 rfl) ?_
            refine lv_dup hx hb dX4_takeCount_79 rfl ?_
            refine g_X4_40 Cx hW (k := 189) (by decide) rfl (v := S.1 189 3) rfl dX4_takeCount_80 ?_
            refine lv_iconst (v := iv 1) hx hb dX4_takeCount_83 (by decide) ?_
            refine r_iadd hx hb dX4_takeCount_84 ?_
            refine p_X4_40 Cx hW hL (k := 189) (by decide) rfl dX4_takeCount_85 (fun H locs hW hL => ?_)
            have F_16 : Fr S (uF S 189 3 ((S.1 189 3) + 1)) (p1 189) := (Fr.rf : Fr S S (p1 189)).F rfl
            have i_17 : cX G (uF S 189 3 ((S.1 189 3) + 1)) 0 0 0 := hI.F rfl rfl (show 0 ≤ (S.1 189 3) + 1 ∧ (S.1 189 3) + 1 ≤ 1000000000 from ⟨by omega, by omega⟩)
            refine lv_iload_n hx hb dX4_takeCount_88 rfl (lv_at hl 1 rfl) ?_
            have lk_18 : (uF S 189 3 ((S.1 189 3) + 1)).1 189 3 = (S.1 189 3) + 1 := uF_on
            exact sIret Cx hr hlk hW hL ⟨i_17, F_16, ⟨hCR.F (by decide), (by omega), (by omega)⟩⟩ dX4_takeCount_89
          · refine lv_bipush (v := iv 10) hx hb dX4_takeCount_42 (by decide) ?_
            refine lv_iload_n hx hb dX4_takeCount_44 rfl (lv_at hl 1 rfl) ?_
            refine r_imul hx hb dX4_takeCount_45 ?_
            refine lv_aload_n hx hb dX4_takeCount_46 rfl (lv_at hl 4 rfl) ?_
            refine g_X4_14 Cx hW (k := 189) (by decide) rfl (v := .ref (G.2.2.1 + 1)) hCR.1 dX4_takeCount_47 ?_
            refine lv_iload hx hb dX4_takeCount_50 (lv_at hl 0 rfl) ?_
            refine sBi (sV (As := [.int (iv i)]) (rest := [.int (iv (10 * va))]) (k := 1) Cx (s_X10_byteAt l G S (o := 1) (k := i) (N := 30000) hI ⟨by decide, rfl, rfl, rfl, rfl, by decide⟩ (by omega)) (c_X4_43 Cx rfl rfl (rmk_ok (by omega) (by decide))) hW (by decide) rfl rfl rfl hl.1 rfl (Nat.le_of_ble_eq_true rfl) dX4_takeCount_52 ⟨Nat.le_of_ble_eq_true rfl, Nat.le_of_ble_eq_true rfl⟩) hL (fun r_21 u_19 H locs k_20 hW hL => ?_)
            obtain ⟨eu_19, xu_19⟩ := k_20
            rw [eu_19] at hW
            refine r_iadd hx hb dX4_takeCount_55 ?_
            refine lv_bipush (v := iv 48) hx hb dX4_takeCount_56 (by decide) ?_
            refine r_isub hx hb dX4_takeCount_58 ?_
            refine lv_istore_n (lv' := [(3, .int (iv (((10 * va) + r_21) - 48))), (4, .int (iv i)), (2, .int (iv be)), (1, .int (iv fs)), (0, .ref (G.2.2.1 + 189))]) hx hb dX4_takeCount_59 rfl hl (by decide) rfl (fun ls hl => ?_)
            have join_71 : ∀ (v2 : Int) (H : Heap) (locs : List Loc) (ls : Array Slot), (-49 ≤ v2 ∧ v2 ≤ 1000000) → sW G 294 S H → sL G locs → lv_has ls 5 [(3, .int (iv (((10 * va) + r_21) - 48))), (4, .int (iv i)), (2, .int (iv be)), (1, .int (iv fs)), (0, .ref (G.2.2.1 + 189))] → W p l e (rmk 3 0 0) s m args below meth c H locs 0 0 (MQ below (sQi G 294 (fun r u => cX G u 0 0 0 ∧ Fr S u (p1 189) ∧ (CR G u ∧ u.1 189 3 = S.1 189 3 + 1 ∧ -49 ≤ r ∧ r ≤ 1000000))) args s 0 0 (sF G)) (F0 m 71 ls [.int (iv v2)]) := by
              intro v2 H locs ls hv2 hW hL hl
              refine lv_istore_n (lv' := [(3, .int (iv v2)), (4, .int (iv i)), (2, .int (iv be)), (1, .int (iv fs)), (0, .ref (G.2.2.1 + 189))]) hx hb dX4_takeCount_71 rfl hl (by decide) rfl (fun ls hl => ?_)
              refine lv_iinc (v := iv (i + 1)) (lv' := [(4, .int (iv (i + 1))), (3, .int (iv v2)), (2, .int (iv be)), (1, .int (iv fs)), (0, .ref (G.2.2.1 + 189))]) hx hb dX4_takeCount_72 hl (k := 1) rfl ((Int32.ofInt_add _ _).symm) (by decide) rfl (fun ls hl => ?_)
              refine lv_goto (tgt := 32) hx hb dX4_takeCount_75 (by decide) ?_
              exact ih_32 (i + 1) v2 _ _ _ (by omega) (by omega) (by omega) hW hL (lv_sub hl [0, 1, 2, 3, 4] rfl)
            refine lv_iload_n hx hb dX4_takeCount_60 rfl (lv_at hl 0 rfl) ?_
            refine lv_ldc hx hb hown (hts _ w_1917) dX4_takeCount_61 ?_
            refine r_icmp_le (tgt := 70) hx hb ⟨(by omega), (by omega)⟩ ⟨(by omega), (by omega)⟩ dX4_takeCount_63 (by decide) (fun c_22 => ?_) (fun c_22 => ?_)
            · refine lv_iload_n hx hb dX4_takeCount_70 rfl (lv_at hl 0 rfl) ?_
              exact join_71 (((10 * va) + r_21) - 48) _ _ _ (by omega) hW hL (lv_sub hl [0, 1, 2, 3, 4] rfl)
            · refine lv_iconst (v := iv (-1)) hx hb dX4_takeCount_66 (by decide) ?_
              refine lv_goto (tgt := 71) hx hb dX4_takeCount_67 (by decide) ?_
              exact join_71 ((-1)) _ _ _ (by omega) hW hL (lv_sub hl [0, 1, 2, 3, 4] rfl)
    exact loop_32 (_ + 1) fs v0 _ _ _ (Nat.lt_succ_self _) (by omega) (by omega) hW hL (lv_sub hl [0, 1, 2, 3, 4] rfl)
  refine lv_iload_n hx hb dX4_takeCount_18 rfl (lv_at hl 0 rfl) ?_
  refine lv_iload_n hx hb dX4_takeCount_19 rfl (lv_at hl 1 rfl) ?_
  refine r_icmp_le (tgt := 27) hx hb ⟨(by omega), (by omega)⟩ ⟨(by omega), (by omega)⟩ dX4_takeCount_20 (by decide) (fun c_23 => ?_) (fun c_23 => ?_)
  · refine lv_iconst (v := iv (-1)) hx hb dX4_takeCount_27 (by decide) ?_
    exact join_28 ((-1)) _ _ _ (by omega) hW hL (lv_sub hl [0, 1, 2] rfl)
  · refine lv_iconst (v := iv 0) hx hb dX4_takeCount_23 (by decide) ?_
    refine lv_goto (tgt := 28) hx hb dX4_takeCount_24 (by decide) ?_
    exact join_28 0 _ _ _ (by omega) hW hL (lv_sub hl [0, 1, 2] rfl)

set_option maxRecDepth 100000 in
set_option maxHeartbeats 4000000 in
theorem s_X4_takeNumber_209 (l : Launch) (G : sG) (S : sS)  (hI : cX G S 0 0 0) (hCR : CR G S) (hat : S.1 189 3 ≤ 999999999) : Met l yX4_takeNumber (.code yX4_takeNumber cX4_takeNumber 5 none :: tb) (rmk 3 0 0) (sPc G 294 S [.ref (G.2.2.1 + 189), .ref (G.2.2.1 + 209)]) (sQv G 294 (fun u => cX G u 0 0 0 ∧ Fr S u (pRg 209) ∧ (CR G u ∧ u.1 189 3 = S.1 189 3 + 1 ∧ u.1 209 1 ≤ 7 ∧ Hd (u.1 209 1 = 7 → u.2.1 210 6 ≤ 999999)))) 0 0 (sF G) := by
  refine sEnter (by decide) (Nat.le_of_ble_eq_true rfl) ?_
  intro p e s m args below meth c Cx hr hlk hnm hW ls hl
  have Cx : sC G p m c cX4_takeNumber 5 s args RX4 := Cx
  obtain ⟨hx, hb, hml, hown, hts⟩ := id Cx.1
  have hL : sL G [] := sL_nil
  have hl : lv_has ls 5 [(0, .ref (G.2.2.1 + 189)), (1, .ref (G.2.2.1 + 209))] := hl
  have hW0 := hW
  have hl1 : 0 ≤ S.1 1 1 ∧ S.1 1 1 ≤ 30000 := hI.fi 1 1 10 (by decide) rfl
  have hat0 : 0 ≤ S.1 189 3 ∧ S.1 189 3 ≤ 1000000000 := hI.fi 189 3 4 (by decide) rfl
  refine lv_aload_n hx hb dX4_takeNumber_0 rfl (lv_at hl 0 rfl) ?_
  have q_1 : 0 ≤ S.1 189 3 ∧ S.1 189 3 ≤ 1000000000 := hI.fi 189 3 4 (by decide) rfl
  have q_2 : 0 ≤ S.1 189 2 ∧ S.1 189 2 ≤ 30001 := hI.fi 189 2 4 (by decide) rfl
  refine sBi (sV (As := []) (rest := []) (k := 189) Cx (s_X4_start l G S  hI) (c_X4_106 Cx rfl rfl (rmk_ok (by omega) (by decide))) hW (by decide) rfl rfl rfl hl.1 rfl (Nat.le_of_ble_eq_true rfl) dX4_takeNumber_1 ⟨Nat.le_of_ble_eq_true rfl, Nat.le_of_ble_eq_true rfl⟩) hL (fun fs u_3 H locs k_4 hW hL => ?_)
  obtain ⟨eu_3, xu_3⟩ := k_4
  rw [eu_3] at hW
  refine lv_istore_n (lv' := [(2, .int (iv fs)), (0, .ref (G.2.2.1 + 189)), (1, .ref (G.2.2.1 + 209))]) hx hb dX4_takeNumber_4 rfl hl (by decide) rfl (fun ls hl => ?_)
  have join_23 : ∀ (bw : Int) (H : Heap) (locs : List Loc) (ls : Array Slot), (0 ≤ bw ∧ bw ≤ 1) → ((bw = 1 → bt S 1 fs = 45) ∧ (bw = 0 → bt S 1 fs ≠ 45)) → sW G 294 S H → sL G locs → lv_has ls 5 [(2, .int (iv fs)), (0, .ref (G.2.2.1 + 189)), (1, .ref (G.2.2.1 + 209))] → W p l e (rmk 3 0 0) s m args below meth c H locs 0 0 (MQ below (sQv G 294 (fun u => cX G u 0 0 0 ∧ Fr S u (pRg 209) ∧ (CR G u ∧ u.1 189 3 = S.1 189 3 + 1 ∧ u.1 209 1 ≤ 7 ∧ Hd (u.1 209 1 = 7 → u.2.1 210 6 ≤ 999999)))) args s 0 0 (sF G)) (F0 m 23 ls [.int (iv bw)]) := by
    intro bw H locs ls hbw hb1 hW hL hl
    refine lv_istore_n (lv' := [(3, .int (iv bw)), (2, .int (iv fs)), (0, .ref (G.2.2.1 + 189)), (1, .ref (G.2.2.1 + 209))]) hx hb dX4_takeNumber_23 rfl hl (by decide) rfl (fun ls hl => ?_)
    have join_35 : ∀ (dg : Int) (H : Heap) (locs : List Loc) (ls : Array Slot), ((bw = 1 → dg = fs + 1) ∧ (bw = 0 → dg = fs)) → sW G 294 S H → sL G locs → lv_has ls 5 [(3, .int (iv bw)), (2, .int (iv fs)), (0, .ref (G.2.2.1 + 189)), (1, .ref (G.2.2.1 + 209))] → W p l e (rmk 3 0 0) s m args below meth c H locs 0 0 (MQ below (sQv G 294 (fun u => cX G u 0 0 0 ∧ Fr S u (pRg 209) ∧ (CR G u ∧ u.1 189 3 = S.1 189 3 + 1 ∧ u.1 209 1 ≤ 7 ∧ Hd (u.1 209 1 = 7 → u.2.1 210 6 ≤ 999999)))) args s 0 0 (sF G)) (F0 m 35 ls [.int (iv dg)]) := by
      intro dg H locs ls hdg hW hL hl
      refine lv_istore (lv' := [(4, .int (iv dg)), (3, .int (iv bw)), (2, .int (iv fs)), (0, .ref (G.2.2.1 + 189)), (1, .ref (G.2.2.1 + 209))]) hx hb dX4_takeNumber_35 hl (by decide) rfl (fun ls hl => ?_)
      refine lv_aload_n hx hb dX4_takeNumber_37 rfl (lv_at hl 4 rfl) ?_
      refine lv_aload_n hx hb dX4_takeNumber_38 rfl (lv_at hl 3 rfl) ?_
      refine g_X4_14 Cx hW (k := 189) (by decide) rfl (v := .ref (G.2.2.1 + 1)) hCR.1 dX4_takeNumber_39 ?_
      refine lv_iload hx hb dX4_takeNumber_42 (lv_at hl 0 rfl) ?_
      refine lv_aload_n hx hb dX4_takeNumber_44 rfl (lv_at hl 3 rfl) ?_
      refine lv_iload hx hb dX4_takeNumber_45 (lv_at hl 0 rfl) ?_
      refine lv_aload_n hx hb dX4_takeNumber_47 rfl (lv_at hl 3 rfl) ?_
      refine g_X4_14 Cx hW (k := 189) (by decide) rfl (v := .ref (G.2.2.1 + 1)) hCR.1 dX4_takeNumber_48 ?_
      have q_5 : 0 ≤ S.1 1 1 ∧ S.1 1 1 ≤ 30000 := hI.fi 1 1 10 (by decide) rfl
      refine sBi (sV (As := []) (rest := [.int (iv dg), .ref (G.2.2.1 + 189), .int (iv dg), .ref (G.2.2.1 + 1), .ref (G.2.2.1 + 209)]) (k := 1) Cx (s_X10_length l G S (o := 1) (N := 30000) hI ⟨by decide, rfl, rfl, rfl, rfl, by decide⟩) (c_X4_28 Cx rfl rfl (rmk_ok (by omega) (by decide))) hW (by decide) rfl rfl rfl hl.1 rfl (Nat.le_of_ble_eq_true rfl) dX4_takeNumber_51 ⟨Nat.le_of_ble_eq_true rfl, Nat.le_of_ble_eq_true rfl⟩) hL (fun r_8 u_6 H locs k_7 hW hL => ?_)
      obtain ⟨eu_6, xu_6⟩ := k_7
      rw [eu_6] at hW
      refine sBi (sV (As := [.int (iv dg), .int (iv r_8)]) (rest := [.int (iv dg), .ref (G.2.2.1 + 1), .ref (G.2.2.1 + 209)]) (k := 189) Cx (s_X4_behindDigits l G S (f := dg) (ln := r_8) hI (by omega) (by omega) hCR.1) (c_X4_94 Cx rfl rfl (rmk_ok (by omega) (by decide))) hW (by decide) rfl rfl rfl hl.1 rfl (Nat.le_of_ble_eq_true rfl) dX4_takeNumber_54 ⟨Nat.le_of_ble_eq_true rfl, Nat.le_of_ble_eq_true rfl⟩) hL (fun be u_9 H locs k_10 hW hL => ?_)
      obtain ⟨eu_9, xu_9⟩ := k_10
      rw [eu_9] at hW
      have hDG : DG S fs := DG.st hCR.2 hat0.1 xu_3.2
      have hbe := hDG.be hbw hb1 hdg xu_9.2.1
      refine sBv (sV (As := [.ref (G.2.2.1 + 1), .int (iv dg), .int (iv be)]) (rest := []) (k := 209) Cx (s_X0_read_60 l G S (o := 209) (t := 1) (f := dg) (b := be) (N := 30000) hI rfl ⟨by decide, rfl, rfl, rfl, rfl, by decide⟩ (by omega) xu_9.2.1) (c_X4_109 Cx rfl rfl (rmk_ok (by omega) (by decide))) hW (by decide) rfl rfl rfl hl.1 rfl (Nat.le_of_ble_eq_true rfl) dX4_takeNumber_57 ⟨Nat.le_of_ble_eq_true rfl, Nat.le_of_ble_eq_true rfl⟩) hL (fun u_11 H locs k_12 hW hL => ?_)
      obtain ⟨iu_11, fu_11, xu_11⟩ := k_12
      have F_13 := (Fr.rf : Fr S S (pRg 209)).trans (fu_11.to (pB_sub rfl rfl))
      have F_14 := (Fr.rf : Fr S S (pB 209)).trans fu_11
      have join_68 : ∀ (S68 : sS)  (H : Heap) (locs : List Loc) (ls : Array Slot), (cX G S68 0 0 0) → (Fr S S68 (pRg 209)) → (Fr S S68 (pB 209)) → (Fr u_11 S68 (pB 209)) → (S68.1 209 1 ≤ 7) → (Hd (S68.1 209 1 = 7 → S68.2.1 210 6 ≤ 999999)) → sW G 294 S68 H → sL G locs → lv_has ls 5 [(4, .int (iv dg)), (3, .int (iv bw)), (2, .int (iv fs)), (0, .ref (G.2.2.1 + 189)), (1, .ref (G.2.2.1 + 209))] → W p l e (rmk 3 0 0) s m args below meth c H locs 0 0 (MQ below (sQv G 294 (fun u => cX G u 0 0 0 ∧ Fr S u (pRg 209) ∧ (CR G u ∧ u.1 189 3 = S.1 189 3 + 1 ∧ u.1 209 1 ≤ 7 ∧ Hd (u.1 209 1 = 7 → u.2.1 210 6 ≤ 999999)))) args s 0 0 (sF G)) (F0 m 68 ls []) := by
        intro S68  H locs ls hI68 hFm68 hFc68 hL68_ hc7 h6 hW hL hl
        refine lv_aload_n hx hb dX4_takeNumber_68 rfl (lv_at hl 3 rfl) ?_
        refine lv_dup hx hb dX4_takeNumber_69 rfl ?_
        refine g_X4_40 Cx hW (k := 189) (by decide) rfl (v := S.1 189 3) (((hL68_ 189 rfl).1 3).trans ((fu_11 189 rfl).1 3)) dX4_takeNumber_70 ?_
        refine lv_iconst (v := iv 1) hx hb dX4_takeNumber_73 (by decide) ?_
        refine r_iadd hx hb dX4_takeNumber_74 ?_
        refine p_X4_40 Cx hW hL (k := 189) (by decide) rfl dX4_takeNumber_75 (fun H locs hW hL => ?_)
        have F_15 : Fr S (uF S68 189 3 ((S.1 189 3) + 1)) (pRg 209) := hFm68.F rfl
        have i_16 : cX G (uF S68 189 3 ((S.1 189 3) + 1)) 0 0 0 := hI68.F rfl rfl (show 0 ≤ (S.1 189 3) + 1 ∧ (S.1 189 3) + 1 ≤ 1000000000 from ⟨by omega, by omega⟩)
        have lk_17 : (uF S68 189 3 ((S.1 189 3) + 1)).1 189 3 = (S.1 189 3) + 1 := uF_on
        have q_18 : 0 ≤ S68.1 209 1 ∧ S68.1 209 1 ≤ 32 := hI68.fi 209 1 0 (by decide) rfl
        have lk_19 : (uF S68 189 3 ((S.1 189 3) + 1)).1 209 1 = S68.1 209 1 := uF_ne (fun h => absurd h.2 (by decide))
        exact sVret Cx hr hlk hW hL ⟨i_16, F_15, ⟨(hCR.fr hFc68 rfl rfl rfl rfl).F (by decide), (by omega), (by omega), (fun q => h6 (by rw [uF_ne (by decide)] at q; exact q))⟩⟩ dX4_takeNumber_78
      refine lv_iload_n hx hb dX4_takeNumber_60 rfl (lv_at hl 1 rfl) ?_
      refine r_if_eq (tgt := 68) hx hb ⟨(by omega), (by omega)⟩ dX4_takeNumber_61 (by decide) (fun c_20 => ?_) (fun c_20 => ?_)
      · have q_21 : 0 ≤ u_11.1 209 1 ∧ u_11.1 209 1 ≤ 32 := iu_11.fi 209 1 0 (by decide) rfl
        exact join_68 u_11  _ _ _ iu_11 F_13 F_14 (Fr.rf : Fr u_11 u_11 (pB 209)) (by omega) (fun q => by exact xu_11.2.1 (by omega)) hW hL (lv_sub hl [0, 1, 2, 3, 4] rfl)
      · refine lv_aload_n hx hb dX4_takeNumber_64 rfl (lv_at hl 4 rfl) ?_
        have q_22 : 0 ≤ u_11.1 209 1 ∧ u_11.1 209 1 ≤ 32 := iu_11.fi 209 1 0 (by decide) rfl
        have q_23 : (-1) ≤ u_11.1 209 2 ∧ u_11.1 209 2 ≤ 1 := iu_11.fi 209 2 0 (by decide) rfl
        refine sBv (sV (As := []) (rest := []) (k := 209) Cx (s_X0_turn l G u_11 (o := 209) iu_11 rfl) (c_X4_115 Cx rfl rfl (rmk_ok (by omega) (by decide))) hW (by decide) rfl rfl rfl hl.1 rfl (Nat.le_of_ble_eq_true rfl) dX4_takeNumber_65 ⟨Nat.le_of_ble_eq_true rfl, Nat.le_of_ble_eq_true rfl⟩) hL (fun u_24 H locs k_25 hW hL => ?_)
        obtain ⟨iu_24, fu_24, xu_24⟩ := k_25
        have F_26 := F_13.trans (fu_24.to (pB_sub rfl rfl))
        have F_27 := F_14.trans fu_24
        have F_28 := (Fr.rf : Fr u_11 u_11 (pB 209)).trans fu_24
        have q_29 : 0 ≤ u_24.1 209 1 ∧ u_24.1 209 1 ≤ 32 := iu_24.fi 209 1 0 (by decide) rfl
        exact join_68 u_24  _ _ _ iu_24 F_26 F_27 F_28 (by omega) (fun q => by rw [xu_24.2.2]; exact xu_11.2.1 (by omega)) hW hL (lv_sub hl [0, 1, 2, 3, 4] rfl)
    refine lv_iload_n hx hb dX4_takeNumber_24 rfl (lv_at hl 0 rfl) ?_
    refine r_if_eq (tgt := 34) hx hb ⟨(by omega), (by omega)⟩ dX4_takeNumber_25 (by decide) (fun c_30 => ?_) (fun c_30 => ?_)
    · refine lv_iload_n hx hb dX4_takeNumber_34 rfl (lv_at hl 1 rfl) ?_
      exact join_35 fs _ _ _ (by omega) hW hL (lv_sub hl [0, 1, 2, 3] rfl)
    · refine lv_iload_n hx hb dX4_takeNumber_28 rfl (lv_at hl 1 rfl) ?_
      refine lv_iconst (v := iv 1) hx hb dX4_takeNumber_29 (by decide) ?_
      refine r_iadd hx hb dX4_takeNumber_30 ?_
      refine lv_goto (tgt := 35) hx hb dX4_takeNumber_31 (by decide) ?_
      exact join_35 (fs + 1) _ _ _ (by omega) hW hL (lv_sub hl [0, 1, 2, 3] rfl)
  refine lv_aload_n hx hb dX4_takeNumber_5 rfl (lv_at hl 1 rfl) ?_
  refine g_X4_14 Cx hW (k := 189) (by decide) rfl (v := .ref (G.2.2.1 + 1)) hCR.1 dX4_takeNumber_6 ?_
  refine lv_iload_n hx hb dX4_takeNumber_9 rfl (lv_at hl 0 rfl) ?_
  have q_31 : 0 ≤ S.1 1 1 ∧ S.1 1 1 ≤ 30000 := hI.fi 1 1 10 (by decide) rfl
  refine sBi (sV (As := [.int (iv fs)]) (rest := []) (k := 1) Cx (s_X10_byteAt l G S (o := 1) (k := fs) (N := 30000) hI ⟨by decide, rfl, rfl, rfl, rfl, by decide⟩ (by omega)) (c_X4_43 Cx rfl rfl (rmk_ok (by omega) (by decide))) hW (by decide) rfl rfl rfl hl.1 rfl (Nat.le_of_ble_eq_true rfl) dX4_takeNumber_10 ⟨Nat.le_of_ble_eq_true rfl, Nat.le_of_ble_eq_true rfl⟩) hL (fun r_34 u_32 H locs k_33 hW hL => ?_)
  obtain ⟨eu_32, xu_32⟩ := k_33
  rw [eu_32] at hW
  refine lv_bipush (v := iv 45) hx hb dX4_takeNumber_13 (by decide) ?_
  refine r_icmp_ne (tgt := 22) hx hb ⟨(by omega), (by omega)⟩ ⟨(by omega), (by omega)⟩ dX4_takeNumber_15 (by decide) (fun c_35 => ?_) (fun c_35 => ?_)
  · refine lv_iconst (v := iv 0) hx hb dX4_takeNumber_22 (by decide) ?_
    exact join_23 0 _ _ _ (by omega) (by omega) hW hL (lv_sub hl [0, 1, 2] rfl)
  · refine lv_iconst (v := iv 1) hx hb dX4_takeNumber_18 (by decide) ?_
    refine lv_goto (tgt := 23) hx hb dX4_takeNumber_19 (by decide) ?_
    exact join_23 1 _ _ _ (by omega) (by omega) hW hL (lv_sub hl [0, 1, 2] rfl)

set_option maxRecDepth 100000 in
set_option maxHeartbeats 4000000 in
theorem s_X4_takeNumber_211 (l : Launch) (G : sG) (S : sS)  (hI : cX G S 0 0 0) (hCR : CR G S) (hat : S.1 189 3 ≤ 999999999) : Met l yX4_takeNumber (.code yX4_takeNumber cX4_takeNumber 5 none :: tb) (rmk 3 0 0) (sPc G 294 S [.ref (G.2.2.1 + 189), .ref (G.2.2.1 + 211)]) (sQv G 294 (fun u => cX G u 0 0 0 ∧ Fr S u (pRg 211) ∧ (CR G u ∧ u.1 189 3 = S.1 189 3 + 1 ∧ u.1 211 1 ≤ 7 ∧ Hd (u.1 211 1 = 7 → u.2.1 212 6 ≤ 999999)))) 0 0 (sF G) := by
  refine sEnter (by decide) (Nat.le_of_ble_eq_true rfl) ?_
  intro p e s m args below meth c Cx hr hlk hnm hW ls hl
  have Cx : sC G p m c cX4_takeNumber 5 s args RX4 := Cx
  obtain ⟨hx, hb, hml, hown, hts⟩ := id Cx.1
  have hL : sL G [] := sL_nil
  have hl : lv_has ls 5 [(0, .ref (G.2.2.1 + 189)), (1, .ref (G.2.2.1 + 211))] := hl
  have hW0 := hW
  have hl1 : 0 ≤ S.1 1 1 ∧ S.1 1 1 ≤ 30000 := hI.fi 1 1 10 (by decide) rfl
  have hat0 : 0 ≤ S.1 189 3 ∧ S.1 189 3 ≤ 1000000000 := hI.fi 189 3 4 (by decide) rfl
  refine lv_aload_n hx hb dX4_takeNumber_0 rfl (lv_at hl 0 rfl) ?_
  have q_1 : 0 ≤ S.1 189 3 ∧ S.1 189 3 ≤ 1000000000 := hI.fi 189 3 4 (by decide) rfl
  have q_2 : 0 ≤ S.1 189 2 ∧ S.1 189 2 ≤ 30001 := hI.fi 189 2 4 (by decide) rfl
  refine sBi (sV (As := []) (rest := []) (k := 189) Cx (s_X4_start l G S  hI) (c_X4_106 Cx rfl rfl (rmk_ok (by omega) (by decide))) hW (by decide) rfl rfl rfl hl.1 rfl (Nat.le_of_ble_eq_true rfl) dX4_takeNumber_1 ⟨Nat.le_of_ble_eq_true rfl, Nat.le_of_ble_eq_true rfl⟩) hL (fun fs u_3 H locs k_4 hW hL => ?_)
  obtain ⟨eu_3, xu_3⟩ := k_4
  rw [eu_3] at hW
  refine lv_istore_n (lv' := [(2, .int (iv fs)), (0, .ref (G.2.2.1 + 189)), (1, .ref (G.2.2.1 + 211))]) hx hb dX4_takeNumber_4 rfl hl (by decide) rfl (fun ls hl => ?_)
  have join_23 : ∀ (bw : Int) (H : Heap) (locs : List Loc) (ls : Array Slot), (0 ≤ bw ∧ bw ≤ 1) → ((bw = 1 → bt S 1 fs = 45) ∧ (bw = 0 → bt S 1 fs ≠ 45)) → sW G 294 S H → sL G locs → lv_has ls 5 [(2, .int (iv fs)), (0, .ref (G.2.2.1 + 189)), (1, .ref (G.2.2.1 + 211))] → W p l e (rmk 3 0 0) s m args below meth c H locs 0 0 (MQ below (sQv G 294 (fun u => cX G u 0 0 0 ∧ Fr S u (pRg 211) ∧ (CR G u ∧ u.1 189 3 = S.1 189 3 + 1 ∧ u.1 211 1 ≤ 7 ∧ Hd (u.1 211 1 = 7 → u.2.1 212 6 ≤ 999999)))) args s 0 0 (sF G)) (F0 m 23 ls [.int (iv bw)]) := by
    intro bw H locs ls hbw hb1 hW hL hl
    refine lv_istore_n (lv' := [(3, .int (iv bw)), (2, .int (iv fs)), (0, .ref (G.2.2.1 + 189)), (1, .ref (G.2.2.1 + 211))]) hx hb dX4_takeNumber_23 rfl hl (by decide) rfl (fun ls hl => ?_)
    have join_35 : ∀ (dg : Int) (H : Heap) (locs : List Loc) (ls : Array Slot), ((bw = 1 → dg = fs + 1) ∧ (bw = 0 → dg = fs)) → sW G 294 S H → sL G locs → lv_has ls 5 [(3, .int (iv bw)), (2, .int (iv fs)), (0, .ref (G.2.2.1 + 189)), (1, .ref (G.2.2.1 + 211))] → W p l e (rmk 3 0 0) s m args below meth c H locs 0 0 (MQ below (sQv G 294 (fun u => cX G u 0 0 0 ∧ Fr S u (pRg 211) ∧ (CR G u ∧ u.1 189 3 = S.1 189 3 + 1 ∧ u.1 211 1 ≤ 7 ∧ Hd (u.1 211 1 = 7 → u.2.1 212 6 ≤ 999999)))) args s 0 0 (sF G)) (F0 m 35 ls [.int (iv dg)]) := by
      intro dg H locs ls hdg hW hL hl
      refine lv_istore (lv' := [(4, .int (iv dg)), (3, .int (iv bw)), (2, .int (iv fs)), (0, .ref (G.2.2.1 + 189)), (1, .ref (G.2.2.1 + 211))]) hx hb dX4_takeNumber_35 hl (by decide) rfl (fun ls hl => ?_)
      refine lv_aload_n hx hb dX4_takeNumber_37 rfl (lv_at hl 4 rfl) ?_
      refine lv_aload_n hx hb dX4_takeNumber_38 rfl (lv_at hl 3 rfl) ?_
      refine g_X4_14 Cx hW (k := 189) (by decide) rfl (v := .ref (G.2.2.1 + 1)) hCR.1 dX4_takeNumber_39 ?_
      refine lv_iload hx hb dX4_takeNumber_42 (lv_at hl 0 rfl) ?_
      refine lv_aload_n hx hb dX4_takeNumber_44 rfl (lv_at hl 3 rfl) ?_
      refine lv_iload hx hb dX4_takeNumber_45 (lv_at hl 0 rfl) ?_
      refine lv_aload_n hx hb dX4_takeNumber_47 rfl (lv_at hl 3 rfl) ?_
      refine g_X4_14 Cx hW (k := 189) (by decide) rfl (v := .ref (G.2.2.1 + 1)) hCR.1 dX4_takeNumber_48 ?_
      have q_5 : 0 ≤ S.1 1 1 ∧ S.1 1 1 ≤ 30000 := hI.fi 1 1 10 (by decide) rfl
      refine sBi (sV (As := []) (rest := [.int (iv dg), .ref (G.2.2.1 + 189), .int (iv dg), .ref (G.2.2.1 + 1), .ref (G.2.2.1 + 211)]) (k := 1) Cx (s_X10_length l G S (o := 1) (N := 30000) hI ⟨by decide, rfl, rfl, rfl, rfl, by decide⟩) (c_X4_28 Cx rfl rfl (rmk_ok (by omega) (by decide))) hW (by decide) rfl rfl rfl hl.1 rfl (Nat.le_of_ble_eq_true rfl) dX4_takeNumber_51 ⟨Nat.le_of_ble_eq_true rfl, Nat.le_of_ble_eq_true rfl⟩) hL (fun r_8 u_6 H locs k_7 hW hL => ?_)
      obtain ⟨eu_6, xu_6⟩ := k_7
      rw [eu_6] at hW
      refine sBi (sV (As := [.int (iv dg), .int (iv r_8)]) (rest := [.int (iv dg), .ref (G.2.2.1 + 1), .ref (G.2.2.1 + 211)]) (k := 189) Cx (s_X4_behindDigits l G S (f := dg) (ln := r_8) hI (by omega) (by omega) hCR.1) (c_X4_94 Cx rfl rfl (rmk_ok (by omega) (by decide))) hW (by decide) rfl rfl rfl hl.1 rfl (Nat.le_of_ble_eq_true rfl) dX4_takeNumber_54 ⟨Nat.le_of_ble_eq_true rfl, Nat.le_of_ble_eq_true rfl⟩) hL (fun be u_9 H locs k_10 hW hL => ?_)
      obtain ⟨eu_9, xu_9⟩ := k_10
      rw [eu_9] at hW
      have hDG : DG S fs := DG.st hCR.2 hat0.1 xu_3.2
      have hbe := hDG.be hbw hb1 hdg xu_9.2.1
      refine sBv (sV (As := [.ref (G.2.2.1 + 1), .int (iv dg), .int (iv be)]) (rest := []) (k := 211) Cx (s_X0_read_60 l G S (o := 211) (t := 1) (f := dg) (b := be) (N := 30000) hI rfl ⟨by decide, rfl, rfl, rfl, rfl, by decide⟩ (by omega) xu_9.2.1) (c_X4_109 Cx rfl rfl (rmk_ok (by omega) (by decide))) hW (by decide) rfl rfl rfl hl.1 rfl (Nat.le_of_ble_eq_true rfl) dX4_takeNumber_57 ⟨Nat.le_of_ble_eq_true rfl, Nat.le_of_ble_eq_true rfl⟩) hL (fun u_11 H locs k_12 hW hL => ?_)
      obtain ⟨iu_11, fu_11, xu_11⟩ := k_12
      have F_13 := (Fr.rf : Fr S S (pRg 211)).trans (fu_11.to (pB_sub rfl rfl))
      have F_14 := (Fr.rf : Fr S S (pB 211)).trans fu_11
      have join_68 : ∀ (S68 : sS)  (H : Heap) (locs : List Loc) (ls : Array Slot), (cX G S68 0 0 0) → (Fr S S68 (pRg 211)) → (Fr S S68 (pB 211)) → (Fr u_11 S68 (pB 211)) → (S68.1 211 1 ≤ 7) → (Hd (S68.1 211 1 = 7 → S68.2.1 212 6 ≤ 999999)) → sW G 294 S68 H → sL G locs → lv_has ls 5 [(4, .int (iv dg)), (3, .int (iv bw)), (2, .int (iv fs)), (0, .ref (G.2.2.1 + 189)), (1, .ref (G.2.2.1 + 211))] → W p l e (rmk 3 0 0) s m args below meth c H locs 0 0 (MQ below (sQv G 294 (fun u => cX G u 0 0 0 ∧ Fr S u (pRg 211) ∧ (CR G u ∧ u.1 189 3 = S.1 189 3 + 1 ∧ u.1 211 1 ≤ 7 ∧ Hd (u.1 211 1 = 7 → u.2.1 212 6 ≤ 999999)))) args s 0 0 (sF G)) (F0 m 68 ls []) := by
        intro S68  H locs ls hI68 hFm68 hFc68 hL68_ hc7 h6 hW hL hl
        refine lv_aload_n hx hb dX4_takeNumber_68 rfl (lv_at hl 3 rfl) ?_
        refine lv_dup hx hb dX4_takeNumber_69 rfl ?_
        refine g_X4_40 Cx hW (k := 189) (by decide) rfl (v := S.1 189 3) (((hL68_ 189 rfl).1 3).trans ((fu_11 189 rfl).1 3)) dX4_takeNumber_70 ?_
        refine lv_iconst (v := iv 1) hx hb dX4_takeNumber_73 (by decide) ?_
        refine r_iadd hx hb dX4_takeNumber_74 ?_
        refine p_X4_40 Cx hW hL (k := 189) (by decide) rfl dX4_takeNumber_75 (fun H locs hW hL => ?_)
        have F_15 : Fr S (uF S68 189 3 ((S.1 189 3) + 1)) (pRg 211) := hFm68.F rfl
        have i_16 : cX G (uF S68 189 3 ((S.1 189 3) + 1)) 0 0 0 := hI68.F rfl rfl (show 0 ≤ (S.1 189 3) + 1 ∧ (S.1 189 3) + 1 ≤ 1000000000 from ⟨by omega, by omega⟩)
        have lk_17 : (uF S68 189 3 ((S.1 189 3) + 1)).1 189 3 = (S.1 189 3) + 1 := uF_on
        have q_18 : 0 ≤ S68.1 211 1 ∧ S68.1 211 1 ≤ 32 := hI68.fi 211 1 0 (by decide) rfl
        have lk_19 : (uF S68 189 3 ((S.1 189 3) + 1)).1 211 1 = S68.1 211 1 := uF_ne (fun h => absurd h.2 (by decide))
        exact sVret Cx hr hlk hW hL ⟨i_16, F_15, ⟨(hCR.fr hFc68 rfl rfl rfl rfl).F (by decide), (by omega), (by omega), (fun q => h6 (by rw [uF_ne (by decide)] at q; exact q))⟩⟩ dX4_takeNumber_78
      refine lv_iload_n hx hb dX4_takeNumber_60 rfl (lv_at hl 1 rfl) ?_
      refine r_if_eq (tgt := 68) hx hb ⟨(by omega), (by omega)⟩ dX4_takeNumber_61 (by decide) (fun c_20 => ?_) (fun c_20 => ?_)
      · have q_21 : 0 ≤ u_11.1 211 1 ∧ u_11.1 211 1 ≤ 32 := iu_11.fi 211 1 0 (by decide) rfl
        exact join_68 u_11  _ _ _ iu_11 F_13 F_14 (Fr.rf : Fr u_11 u_11 (pB 211)) (by omega) (fun q => by exact xu_11.2.1 (by omega)) hW hL (lv_sub hl [0, 1, 2, 3, 4] rfl)
      · refine lv_aload_n hx hb dX4_takeNumber_64 rfl (lv_at hl 4 rfl) ?_
        have q_22 : 0 ≤ u_11.1 211 1 ∧ u_11.1 211 1 ≤ 32 := iu_11.fi 211 1 0 (by decide) rfl
        have q_23 : (-1) ≤ u_11.1 211 2 ∧ u_11.1 211 2 ≤ 1 := iu_11.fi 211 2 0 (by decide) rfl
        refine sBv (sV (As := []) (rest := []) (k := 211) Cx (s_X0_turn l G u_11 (o := 211) iu_11 rfl) (c_X4_115 Cx rfl rfl (rmk_ok (by omega) (by decide))) hW (by decide) rfl rfl rfl hl.1 rfl (Nat.le_of_ble_eq_true rfl) dX4_takeNumber_65 ⟨Nat.le_of_ble_eq_true rfl, Nat.le_of_ble_eq_true rfl⟩) hL (fun u_24 H locs k_25 hW hL => ?_)
        obtain ⟨iu_24, fu_24, xu_24⟩ := k_25
        have F_26 := F_13.trans (fu_24.to (pB_sub rfl rfl))
        have F_27 := F_14.trans fu_24
        have F_28 := (Fr.rf : Fr u_11 u_11 (pB 211)).trans fu_24
        have q_29 : 0 ≤ u_24.1 211 1 ∧ u_24.1 211 1 ≤ 32 := iu_24.fi 211 1 0 (by decide) rfl
        exact join_68 u_24  _ _ _ iu_24 F_26 F_27 F_28 (by omega) (fun q => by rw [xu_24.2.2]; exact xu_11.2.1 (by omega)) hW hL (lv_sub hl [0, 1, 2, 3, 4] rfl)
    refine lv_iload_n hx hb dX4_takeNumber_24 rfl (lv_at hl 0 rfl) ?_
    refine r_if_eq (tgt := 34) hx hb ⟨(by omega), (by omega)⟩ dX4_takeNumber_25 (by decide) (fun c_30 => ?_) (fun c_30 => ?_)
    · refine lv_iload_n hx hb dX4_takeNumber_34 rfl (lv_at hl 1 rfl) ?_
      exact join_35 fs _ _ _ (by omega) hW hL (lv_sub hl [0, 1, 2, 3] rfl)
    · refine lv_iload_n hx hb dX4_takeNumber_28 rfl (lv_at hl 1 rfl) ?_
      refine lv_iconst (v := iv 1) hx hb dX4_takeNumber_29 (by decide) ?_
      refine r_iadd hx hb dX4_takeNumber_30 ?_
      refine lv_goto (tgt := 35) hx hb dX4_takeNumber_31 (by decide) ?_
      exact join_35 (fs + 1) _ _ _ (by omega) hW hL (lv_sub hl [0, 1, 2, 3] rfl)
  refine lv_aload_n hx hb dX4_takeNumber_5 rfl (lv_at hl 1 rfl) ?_
  refine g_X4_14 Cx hW (k := 189) (by decide) rfl (v := .ref (G.2.2.1 + 1)) hCR.1 dX4_takeNumber_6 ?_
  refine lv_iload_n hx hb dX4_takeNumber_9 rfl (lv_at hl 0 rfl) ?_
  have q_31 : 0 ≤ S.1 1 1 ∧ S.1 1 1 ≤ 30000 := hI.fi 1 1 10 (by decide) rfl
  refine sBi (sV (As := [.int (iv fs)]) (rest := []) (k := 1) Cx (s_X10_byteAt l G S (o := 1) (k := fs) (N := 30000) hI ⟨by decide, rfl, rfl, rfl, rfl, by decide⟩ (by omega)) (c_X4_43 Cx rfl rfl (rmk_ok (by omega) (by decide))) hW (by decide) rfl rfl rfl hl.1 rfl (Nat.le_of_ble_eq_true rfl) dX4_takeNumber_10 ⟨Nat.le_of_ble_eq_true rfl, Nat.le_of_ble_eq_true rfl⟩) hL (fun r_34 u_32 H locs k_33 hW hL => ?_)
  obtain ⟨eu_32, xu_32⟩ := k_33
  rw [eu_32] at hW
  refine lv_bipush (v := iv 45) hx hb dX4_takeNumber_13 (by decide) ?_
  refine r_icmp_ne (tgt := 22) hx hb ⟨(by omega), (by omega)⟩ ⟨(by omega), (by omega)⟩ dX4_takeNumber_15 (by decide) (fun c_35 => ?_) (fun c_35 => ?_)
  · refine lv_iconst (v := iv 0) hx hb dX4_takeNumber_22 (by decide) ?_
    exact join_23 0 _ _ _ (by omega) (by omega) hW hL (lv_sub hl [0, 1, 2] rfl)
  · refine lv_iconst (v := iv 1) hx hb dX4_takeNumber_18 (by decide) ?_
    refine lv_goto (tgt := 23) hx hb dX4_takeNumber_19 (by decide) ?_
    exact join_23 1 _ _ _ (by omega) (by omega) hW hL (lv_sub hl [0, 1, 2] rfl)

set_option maxRecDepth 100000 in
set_option maxHeartbeats 4000000 in
theorem s_X4_takeNumber_213 (l : Launch) (G : sG) (S : sS)  (hI : cX G S 0 0 0) (hCR : CR G S) (hat : S.1 189 3 ≤ 999999999) : Met l yX4_takeNumber (.code yX4_takeNumber cX4_takeNumber 5 none :: tb) (rmk 3 0 0) (sPc G 294 S [.ref (G.2.2.1 + 189), .ref (G.2.2.1 + 213)]) (sQv G 294 (fun u => cX G u 0 0 0 ∧ Fr S u (pRg 213) ∧ (CR G u ∧ u.1 189 3 = S.1 189 3 + 1 ∧ u.1 213 1 ≤ 7 ∧ Hd (u.1 213 1 = 7 → u.2.1 214 6 ≤ 999999)))) 0 0 (sF G) := by
  refine sEnter (by decide) (Nat.le_of_ble_eq_true rfl) ?_
  intro p e s m args below meth c Cx hr hlk hnm hW ls hl
  have Cx : sC G p m c cX4_takeNumber 5 s args RX4 := Cx
  obtain ⟨hx, hb, hml, hown, hts⟩ := id Cx.1
  have hL : sL G [] := sL_nil
  have hl : lv_has ls 5 [(0, .ref (G.2.2.1 + 189)), (1, .ref (G.2.2.1 + 213))] := hl
  have hW0 := hW
  have hl1 : 0 ≤ S.1 1 1 ∧ S.1 1 1 ≤ 30000 := hI.fi 1 1 10 (by decide) rfl
  have hat0 : 0 ≤ S.1 189 3 ∧ S.1 189 3 ≤ 1000000000 := hI.fi 189 3 4 (by decide) rfl
  refine lv_aload_n hx hb dX4_takeNumber_0 rfl (lv_at hl 0 rfl) ?_
  have q_1 : 0 ≤ S.1 189 3 ∧ S.1 189 3 ≤ 1000000000 := hI.fi 189 3 4 (by decide) rfl
  have q_2 : 0 ≤ S.1 189 2 ∧ S.1 189 2 ≤ 30001 := hI.fi 189 2 4 (by decide) rfl
  refine sBi (sV (As := []) (rest := []) (k := 189) Cx (s_X4_start l G S  hI) (c_X4_106 Cx rfl rfl (rmk_ok (by omega) (by decide))) hW (by decide) rfl rfl rfl hl.1 rfl (Nat.le_of_ble_eq_true rfl) dX4_takeNumber_1 ⟨Nat.le_of_ble_eq_true rfl, Nat.le_of_ble_eq_true rfl⟩) hL (fun fs u_3 H locs k_4 hW hL => ?_)
  obtain ⟨eu_3, xu_3⟩ := k_4
  rw [eu_3] at hW
  refine lv_istore_n (lv' := [(2, .int (iv fs)), (0, .ref (G.2.2.1 + 189)), (1, .ref (G.2.2.1 + 213))]) hx hb dX4_takeNumber_4 rfl hl (by decide) rfl (fun ls hl => ?_)
  have join_23 : ∀ (bw : Int) (H : Heap) (locs : List Loc) (ls : Array Slot), (0 ≤ bw ∧ bw ≤ 1) → ((bw = 1 → bt S 1 fs = 45) ∧ (bw = 0 → bt S 1 fs ≠ 45)) → sW G 294 S H → sL G locs → lv_has ls 5 [(2, .int (iv fs)), (0, .ref (G.2.2.1 + 189)), (1, .ref (G.2.2.1 + 213))] → W p l e (rmk 3 0 0) s m args below meth c H locs 0 0 (MQ below (sQv G 294 (fun u => cX G u 0 0 0 ∧ Fr S u (pRg 213) ∧ (CR G u ∧ u.1 189 3 = S.1 189 3 + 1 ∧ u.1 213 1 ≤ 7 ∧ Hd (u.1 213 1 = 7 → u.2.1 214 6 ≤ 999999)))) args s 0 0 (sF G)) (F0 m 23 ls [.int (iv bw)]) := by
    intro bw H locs ls hbw hb1 hW hL hl
    refine lv_istore_n (lv' := [(3, .int (iv bw)), (2, .int (iv fs)), (0, .ref (G.2.2.1 + 189)), (1, .ref (G.2.2.1 + 213))]) hx hb dX4_takeNumber_23 rfl hl (by decide) rfl (fun ls hl => ?_)
    have join_35 : ∀ (dg : Int) (H : Heap) (locs : List Loc) (ls : Array Slot), ((bw = 1 → dg = fs + 1) ∧ (bw = 0 → dg = fs)) → sW G 294 S H → sL G locs → lv_has ls 5 [(3, .int (iv bw)), (2, .int (iv fs)), (0, .ref (G.2.2.1 + 189)), (1, .ref (G.2.2.1 + 213))] → W p l e (rmk 3 0 0) s m args below meth c H locs 0 0 (MQ below (sQv G 294 (fun u => cX G u 0 0 0 ∧ Fr S u (pRg 213) ∧ (CR G u ∧ u.1 189 3 = S.1 189 3 + 1 ∧ u.1 213 1 ≤ 7 ∧ Hd (u.1 213 1 = 7 → u.2.1 214 6 ≤ 999999)))) args s 0 0 (sF G)) (F0 m 35 ls [.int (iv dg)]) := by
      intro dg H locs ls hdg hW hL hl
      refine lv_istore (lv' := [(4, .int (iv dg)), (3, .int (iv bw)), (2, .int (iv fs)), (0, .ref (G.2.2.1 + 189)), (1, .ref (G.2.2.1 + 213))]) hx hb dX4_takeNumber_35 hl (by decide) rfl (fun ls hl => ?_)
      refine lv_aload_n hx hb dX4_takeNumber_37 rfl (lv_at hl 4 rfl) ?_
      refine lv_aload_n hx hb dX4_takeNumber_38 rfl (lv_at hl 3 rfl) ?_
      refine g_X4_14 Cx hW (k := 189) (by decide) rfl (v := .ref (G.2.2.1 + 1)) hCR.1 dX4_takeNumber_39 ?_
      refine lv_iload hx hb dX4_takeNumber_42 (lv_at hl 0 rfl) ?_
      refine lv_aload_n hx hb dX4_takeNumber_44 rfl (lv_at hl 3 rfl) ?_
      refine lv_iload hx hb dX4_takeNumber_45 (lv_at hl 0 rfl) ?_
      refine lv_aload_n hx hb dX4_takeNumber_47 rfl (lv_at hl 3 rfl) ?_
      refine g_X4_14 Cx hW (k := 189) (by decide) rfl (v := .ref (G.2.2.1 + 1)) hCR.1 dX4_takeNumber_48 ?_
      have q_5 : 0 ≤ S.1 1 1 ∧ S.1 1 1 ≤ 30000 := hI.fi 1 1 10 (by decide) rfl
      refine sBi (sV (As := []) (rest := [.int (iv dg), .ref (G.2.2.1 + 189), .int (iv dg), .ref (G.2.2.1 + 1), .ref (G.2.2.1 + 213)]) (k := 1) Cx (s_X10_length l G S (o := 1) (N := 30000) hI ⟨by decide, rfl, rfl, rfl, rfl, by decide⟩) (c_X4_28 Cx rfl rfl (rmk_ok (by omega) (by decide))) hW (by decide) rfl rfl rfl hl.1 rfl (Nat.le_of_ble_eq_true rfl) dX4_takeNumber_51 ⟨Nat.le_of_ble_eq_true rfl, Nat.le_of_ble_eq_true rfl⟩) hL (fun r_8 u_6 H locs k_7 hW hL => ?_)
      obtain ⟨eu_6, xu_6⟩ := k_7
      rw [eu_6] at hW
      refine sBi (sV (As := [.int (iv dg), .int (iv r_8)]) (rest := [.int (iv dg), .ref (G.2.2.1 + 1), .ref (G.2.2.1 + 213)]) (k := 189) Cx (s_X4_behindDigits l G S (f := dg) (ln := r_8) hI (by omega) (by omega) hCR.1) (c_X4_94 Cx rfl rfl (rmk_ok (by omega) (by decide))) hW (by decide) rfl rfl rfl hl.1 rfl (Nat.le_of_ble_eq_true rfl) dX4_takeNumber_54 ⟨Nat.le_of_ble_eq_true rfl, Nat.le_of_ble_eq_true rfl⟩) hL (fun be u_9 H locs k_10 hW hL => ?_)
      obtain ⟨eu_9, xu_9⟩ := k_10
      rw [eu_9] at hW
      have hDG : DG S fs := DG.st hCR.2 hat0.1 xu_3.2
      have hbe := hDG.be hbw hb1 hdg xu_9.2.1
      refine sBv (sV (As := [.ref (G.2.2.1 + 1), .int (iv dg), .int (iv be)]) (rest := []) (k := 213) Cx (s_X0_read_60 l G S (o := 213) (t := 1) (f := dg) (b := be) (N := 30000) hI rfl ⟨by decide, rfl, rfl, rfl, rfl, by decide⟩ (by omega) xu_9.2.1) (c_X4_109 Cx rfl rfl (rmk_ok (by omega) (by decide))) hW (by decide) rfl rfl rfl hl.1 rfl (Nat.le_of_ble_eq_true rfl) dX4_takeNumber_57 ⟨Nat.le_of_ble_eq_true rfl, Nat.le_of_ble_eq_true rfl⟩) hL (fun u_11 H locs k_12 hW hL => ?_)
      obtain ⟨iu_11, fu_11, xu_11⟩ := k_12
      have F_13 := (Fr.rf : Fr S S (pRg 213)).trans (fu_11.to (pB_sub rfl rfl))
      have F_14 := (Fr.rf : Fr S S (pB 213)).trans fu_11
      have join_68 : ∀ (S68 : sS)  (H : Heap) (locs : List Loc) (ls : Array Slot), (cX G S68 0 0 0) → (Fr S S68 (pRg 213)) → (Fr S S68 (pB 213)) → (Fr u_11 S68 (pB 213)) → (S68.1 213 1 ≤ 7) → (Hd (S68.1 213 1 = 7 → S68.2.1 214 6 ≤ 999999)) → sW G 294 S68 H → sL G locs → lv_has ls 5 [(4, .int (iv dg)), (3, .int (iv bw)), (2, .int (iv fs)), (0, .ref (G.2.2.1 + 189)), (1, .ref (G.2.2.1 + 213))] → W p l e (rmk 3 0 0) s m args below meth c H locs 0 0 (MQ below (sQv G 294 (fun u => cX G u 0 0 0 ∧ Fr S u (pRg 213) ∧ (CR G u ∧ u.1 189 3 = S.1 189 3 + 1 ∧ u.1 213 1 ≤ 7 ∧ Hd (u.1 213 1 = 7 → u.2.1 214 6 ≤ 999999)))) args s 0 0 (sF G)) (F0 m 68 ls []) := by
        intro S68  H locs ls hI68 hFm68 hFc68 hL68_ hc7 h6 hW hL hl
        refine lv_aload_n hx hb dX4_takeNumber_68 rfl (lv_at hl 3 rfl) ?_
        refine lv_dup hx hb dX4_takeNumber_69 rfl ?_
        refine g_X4_40 Cx hW (k := 189) (by decide) rfl (v := S.1 189 3) (((hL68_ 189 rfl).1 3).trans ((fu_11 189 rfl).1 3)) dX4_takeNumber_70 ?_
        refine lv_iconst (v := iv 1) hx hb dX4_takeNumber_73 (by decide) ?_
        refine r_iadd hx hb dX4_takeNumber_74 ?_
        refine p_X4_40 Cx hW hL (k := 189) (by decide) rfl dX4_takeNumber_75 (fun H locs hW hL => ?_)
        have F_15 : Fr S (uF S68 189 3 ((S.1 189 3) + 1)) (pRg 213) := hFm68.F rfl
        have i_16 : cX G (uF S68 189 3 ((S.1 189 3) + 1)) 0 0 0 := hI68.F rfl rfl (show 0 ≤ (S.1 189 3) + 1 ∧ (S.1 189 3) + 1 ≤ 1000000000 from ⟨by omega, by omega⟩)
        have lk_17 : (uF S68 189 3 ((S.1 189 3) + 1)).1 189 3 = (S.1 189 3) + 1 := uF_on
        have q_18 : 0 ≤ S68.1 213 1 ∧ S68.1 213 1 ≤ 32 := hI68.fi 213 1 0 (by decide) rfl
        have lk_19 : (uF S68 189 3 ((S.1 189 3) + 1)).1 213 1 = S68.1 213 1 := uF_ne (fun h => absurd h.2 (by decide))
        exact sVret Cx hr hlk hW hL ⟨i_16, F_15, ⟨(hCR.fr hFc68 rfl rfl rfl rfl).F (by decide), (by omega), (by omega), (fun q => h6 (by rw [uF_ne (by decide)] at q; exact q))⟩⟩ dX4_takeNumber_78
      refine lv_iload_n hx hb dX4_takeNumber_60 rfl (lv_at hl 1 rfl) ?_
      refine r_if_eq (tgt := 68) hx hb ⟨(by omega), (by omega)⟩ dX4_takeNumber_61 (by decide) (fun c_20 => ?_) (fun c_20 => ?_)
      · have q_21 : 0 ≤ u_11.1 213 1 ∧ u_11.1 213 1 ≤ 32 := iu_11.fi 213 1 0 (by decide) rfl
        exact join_68 u_11  _ _ _ iu_11 F_13 F_14 (Fr.rf : Fr u_11 u_11 (pB 213)) (by omega) (fun q => by exact xu_11.2.1 (by omega)) hW hL (lv_sub hl [0, 1, 2, 3, 4] rfl)
      · refine lv_aload_n hx hb dX4_takeNumber_64 rfl (lv_at hl 4 rfl) ?_
        have q_22 : 0 ≤ u_11.1 213 1 ∧ u_11.1 213 1 ≤ 32 := iu_11.fi 213 1 0 (by decide) rfl
        have q_23 : (-1) ≤ u_11.1 213 2 ∧ u_11.1 213 2 ≤ 1 := iu_11.fi 213 2 0 (by decide) rfl
        refine sBv (sV (As := []) (rest := []) (k := 213) Cx (s_X0_turn l G u_11 (o := 213) iu_11 rfl) (c_X4_115 Cx rfl rfl (rmk_ok (by omega) (by decide))) hW (by decide) rfl rfl rfl hl.1 rfl (Nat.le_of_ble_eq_true rfl) dX4_takeNumber_65 ⟨Nat.le_of_ble_eq_true rfl, Nat.le_of_ble_eq_true rfl⟩) hL (fun u_24 H locs k_25 hW hL => ?_)
        obtain ⟨iu_24, fu_24, xu_24⟩ := k_25
        have F_26 := F_13.trans (fu_24.to (pB_sub rfl rfl))
        have F_27 := F_14.trans fu_24
        have F_28 := (Fr.rf : Fr u_11 u_11 (pB 213)).trans fu_24
        have q_29 : 0 ≤ u_24.1 213 1 ∧ u_24.1 213 1 ≤ 32 := iu_24.fi 213 1 0 (by decide) rfl
        exact join_68 u_24  _ _ _ iu_24 F_26 F_27 F_28 (by omega) (fun q => by rw [xu_24.2.2]; exact xu_11.2.1 (by omega)) hW hL (lv_sub hl [0, 1, 2, 3, 4] rfl)
    refine lv_iload_n hx hb dX4_takeNumber_24 rfl (lv_at hl 0 rfl) ?_
    refine r_if_eq (tgt := 34) hx hb ⟨(by omega), (by omega)⟩ dX4_takeNumber_25 (by decide) (fun c_30 => ?_) (fun c_30 => ?_)
    · refine lv_iload_n hx hb dX4_takeNumber_34 rfl (lv_at hl 1 rfl) ?_
      exact join_35 fs _ _ _ (by omega) hW hL (lv_sub hl [0, 1, 2, 3] rfl)
    · refine lv_iload_n hx hb dX4_takeNumber_28 rfl (lv_at hl 1 rfl) ?_
      refine lv_iconst (v := iv 1) hx hb dX4_takeNumber_29 (by decide) ?_
      refine r_iadd hx hb dX4_takeNumber_30 ?_
      refine lv_goto (tgt := 35) hx hb dX4_takeNumber_31 (by decide) ?_
      exact join_35 (fs + 1) _ _ _ (by omega) hW hL (lv_sub hl [0, 1, 2, 3] rfl)
  refine lv_aload_n hx hb dX4_takeNumber_5 rfl (lv_at hl 1 rfl) ?_
  refine g_X4_14 Cx hW (k := 189) (by decide) rfl (v := .ref (G.2.2.1 + 1)) hCR.1 dX4_takeNumber_6 ?_
  refine lv_iload_n hx hb dX4_takeNumber_9 rfl (lv_at hl 0 rfl) ?_
  have q_31 : 0 ≤ S.1 1 1 ∧ S.1 1 1 ≤ 30000 := hI.fi 1 1 10 (by decide) rfl
  refine sBi (sV (As := [.int (iv fs)]) (rest := []) (k := 1) Cx (s_X10_byteAt l G S (o := 1) (k := fs) (N := 30000) hI ⟨by decide, rfl, rfl, rfl, rfl, by decide⟩ (by omega)) (c_X4_43 Cx rfl rfl (rmk_ok (by omega) (by decide))) hW (by decide) rfl rfl rfl hl.1 rfl (Nat.le_of_ble_eq_true rfl) dX4_takeNumber_10 ⟨Nat.le_of_ble_eq_true rfl, Nat.le_of_ble_eq_true rfl⟩) hL (fun r_34 u_32 H locs k_33 hW hL => ?_)
  obtain ⟨eu_32, xu_32⟩ := k_33
  rw [eu_32] at hW
  refine lv_bipush (v := iv 45) hx hb dX4_takeNumber_13 (by decide) ?_
  refine r_icmp_ne (tgt := 22) hx hb ⟨(by omega), (by omega)⟩ ⟨(by omega), (by omega)⟩ dX4_takeNumber_15 (by decide) (fun c_35 => ?_) (fun c_35 => ?_)
  · refine lv_iconst (v := iv 0) hx hb dX4_takeNumber_22 (by decide) ?_
    exact join_23 0 _ _ _ (by omega) (by omega) hW hL (lv_sub hl [0, 1, 2] rfl)
  · refine lv_iconst (v := iv 1) hx hb dX4_takeNumber_18 (by decide) ?_
    refine lv_goto (tgt := 23) hx hb dX4_takeNumber_19 (by decide) ?_
    exact join_23 1 _ _ _ (by omega) (by omega) hW hL (lv_sub hl [0, 1, 2] rfl)

set_option maxRecDepth 100000 in
set_option maxHeartbeats 4000000 in
theorem s_X4_takeNumber_219 (l : Launch) (G : sG) (S : sS)  (hI : cX G S 0 0 0) (hCR : CR G S) (hat : S.1 189 3 ≤ 999999999) : Met l yX4_takeNumber (.code yX4_takeNumber cX4_takeNumber 5 none :: tb) (rmk 3 0 0) (sPc G 294 S [.ref (G.2.2.1 + 189), .ref (G.2.2.1 + 219)]) (sQv G 294 (fun u => cX G u 0 0 0 ∧ Fr S u (pRg 219) ∧ (CR G u ∧ u.1 189 3 = S.1 189 3 + 1 ∧ u.1 219 1 ≤ 7 ∧ Hd (u.1 219 1 = 7 → u.2.1 220 6 ≤ 999999)))) 0 0 (sF G) := by
  refine sEnter (by decide) (Nat.le_of_ble_eq_true rfl) ?_
  intro p e s m args below meth c Cx hr hlk hnm hW ls hl
  have Cx : sC G p m c cX4_takeNumber 5 s args RX4 := Cx
  obtain ⟨hx, hb, hml, hown, hts⟩ := id Cx.1
  have hL : sL G [] := sL_nil
  have hl : lv_has ls 5 [(0, .ref (G.2.2.1 + 189)), (1, .ref (G.2.2.1 + 219))] := hl
  have hW0 := hW
  have hl1 : 0 ≤ S.1 1 1 ∧ S.1 1 1 ≤ 30000 := hI.fi 1 1 10 (by decide) rfl
  have hat0 : 0 ≤ S.1 189 3 ∧ S.1 189 3 ≤ 1000000000 := hI.fi 189 3 4 (by decide) rfl
  refine lv_aload_n hx hb dX4_takeNumber_0 rfl (lv_at hl 0 rfl) ?_
  have q_1 : 0 ≤ S.1 189 3 ∧ S.1 189 3 ≤ 1000000000 := hI.fi 189 3 4 (by decide) rfl
  have q_2 : 0 ≤ S.1 189 2 ∧ S.1 189 2 ≤ 30001 := hI.fi 189 2 4 (by decide) rfl
  refine sBi (sV (As := []) (rest := []) (k := 189) Cx (s_X4_start l G S  hI) (c_X4_106 Cx rfl rfl (rmk_ok (by omega) (by decide))) hW (by decide) rfl rfl rfl hl.1 rfl (Nat.le_of_ble_eq_true rfl) dX4_takeNumber_1 ⟨Nat.le_of_ble_eq_true rfl, Nat.le_of_ble_eq_true rfl⟩) hL (fun fs u_3 H locs k_4 hW hL => ?_)
  obtain ⟨eu_3, xu_3⟩ := k_4
  rw [eu_3] at hW
  refine lv_istore_n (lv' := [(2, .int (iv fs)), (0, .ref (G.2.2.1 + 189)), (1, .ref (G.2.2.1 + 219))]) hx hb dX4_takeNumber_4 rfl hl (by decide) rfl (fun ls hl => ?_)
  have join_23 : ∀ (bw : Int) (H : Heap) (locs : List Loc) (ls : Array Slot), (0 ≤ bw ∧ bw ≤ 1) → ((bw = 1 → bt S 1 fs = 45) ∧ (bw = 0 → bt S 1 fs ≠ 45)) → sW G 294 S H → sL G locs → lv_has ls 5 [(2, .int (iv fs)), (0, .ref (G.2.2.1 + 189)), (1, .ref (G.2.2.1 + 219))] → W p l e (rmk 3 0 0) s m args below meth c H locs 0 0 (MQ below (sQv G 294 (fun u => cX G u 0 0 0 ∧ Fr S u (pRg 219) ∧ (CR G u ∧ u.1 189 3 = S.1 189 3 + 1 ∧ u.1 219 1 ≤ 7 ∧ Hd (u.1 219 1 = 7 → u.2.1 220 6 ≤ 999999)))) args s 0 0 (sF G)) (F0 m 23 ls [.int (iv bw)]) := by
    intro bw H locs ls hbw hb1 hW hL hl
    refine lv_istore_n (lv' := [(3, .int (iv bw)), (2, .int (iv fs)), (0, .ref (G.2.2.1 + 189)), (1, .ref (G.2.2.1 + 219))]) hx hb dX4_takeNumber_23 rfl hl (by decide) rfl (fun ls hl => ?_)
    have join_35 : ∀ (dg : Int) (H : Heap) (locs : List Loc) (ls : Array Slot), ((bw = 1 → dg = fs + 1) ∧ (bw = 0 → dg = fs)) → sW G 294 S H → sL G locs → lv_has ls 5 [(3, .int (iv bw)), (2, .int (iv fs)), (0, .ref (G.2.2.1 + 189)), (1, .ref (G.2.2.1 + 219))] → W p l e (rmk 3 0 0) s m args below meth c H locs 0 0 (MQ below (sQv G 294 (fun u => cX G u 0 0 0 ∧ Fr S u (pRg 219) ∧ (CR G u ∧ u.1 189 3 = S.1 189 3 + 1 ∧ u.1 219 1 ≤ 7 ∧ Hd (u.1 219 1 = 7 → u.2.1 220 6 ≤ 999999)))) args s 0 0 (sF G)) (F0 m 35 ls [.int (iv dg)]) := by
      intro dg H locs ls hdg hW hL hl
      refine lv_istore (lv' := [(4, .int (iv dg)), (3, .int (iv bw)), (2, .int (iv fs)), (0, .ref (G.2.2.1 + 189)), (1, .ref (G.2.2.1 + 219))]) hx hb dX4_takeNumber_35 hl (by decide) rfl (fun ls hl => ?_)
      refine lv_aload_n hx hb dX4_takeNumber_37 rfl (lv_at hl 4 rfl) ?_
      refine lv_aload_n hx hb dX4_takeNumber_38 rfl (lv_at hl 3 rfl) ?_
      refine g_X4_14 Cx hW (k := 189) (by decide) rfl (v := .ref (G.2.2.1 + 1)) hCR.1 dX4_takeNumber_39 ?_
      refine lv_iload hx hb dX4_takeNumber_42 (lv_at hl 0 rfl) ?_
      refine lv_aload_n hx hb dX4_takeNumber_44 rfl (lv_at hl 3 rfl) ?_
      refine lv_iload hx hb dX4_takeNumber_45 (lv_at hl 0 rfl) ?_
      refine lv_aload_n hx hb dX4_takeNumber_47 rfl (lv_at hl 3 rfl) ?_
      refine g_X4_14 Cx hW (k := 189) (by decide) rfl (v := .ref (G.2.2.1 + 1)) hCR.1 dX4_takeNumber_48 ?_
      have q_5 : 0 ≤ S.1 1 1 ∧ S.1 1 1 ≤ 30000 := hI.fi 1 1 10 (by decide) rfl
      refine sBi (sV (As := []) (rest := [.int (iv dg), .ref (G.2.2.1 + 189), .int (iv dg), .ref (G.2.2.1 + 1), .ref (G.2.2.1 + 219)]) (k := 1) Cx (s_X10_length l G S (o := 1) (N := 30000) hI ⟨by decide, rfl, rfl, rfl, rfl, by decide⟩) (c_X4_28 Cx rfl rfl (rmk_ok (by omega) (by decide))) hW (by decide) rfl rfl rfl hl.1 rfl (Nat.le_of_ble_eq_true rfl) dX4_takeNumber_51 ⟨Nat.le_of_ble_eq_true rfl, Nat.le_of_ble_eq_true rfl⟩) hL (fun r_8 u_6 H locs k_7 hW hL => ?_)
      obtain ⟨eu_6, xu_6⟩ := k_7
      rw [eu_6] at hW
      refine sBi (sV (As := [.int (iv dg), .int (iv r_8)]) (rest := [.int (iv dg), .ref (G.2.2.1 + 1), .ref (G.2.2.1 + 219)]) (k := 189) Cx (s_X4_behindDigits l G S (f := dg) (ln := r_8) hI (by omega) (by omega) hCR.1) (c_X4_94 Cx rfl rfl (rmk_ok (by omega) (by decide))) hW (by decide) rfl rfl rfl hl.1 rfl (Nat.le_of_ble_eq_true rfl) dX4_takeNumber_54 ⟨Nat.le_of_ble_eq_true rfl, Nat.le_of_ble_eq_true rfl⟩) hL (fun be u_9 H locs k_10 hW hL => ?_)
      obtain ⟨eu_9, xu_9⟩ := k_10
      rw [eu_9] at hW
      have hDG : DG S fs := DG.st hCR.2 hat0.1 xu_3.2
      have hbe := hDG.be hbw hb1 hdg xu_9.2.1
      refine sBv (sV (As := [.ref (G.2.2.1 + 1), .int (iv dg), .int (iv be)]) (rest := []) (k := 219) Cx (s_X0_read_60 l G S (o := 219) (t := 1) (f := dg) (b := be) (N := 30000) hI rfl ⟨by decide, rfl, rfl, rfl, rfl, by decide⟩ (by omega) xu_9.2.1) (c_X4_109 Cx rfl rfl (rmk_ok (by omega) (by decide))) hW (by decide) rfl rfl rfl hl.1 rfl (Nat.le_of_ble_eq_true rfl) dX4_takeNumber_57 ⟨Nat.le_of_ble_eq_true rfl, Nat.le_of_ble_eq_true rfl⟩) hL (fun u_11 H locs k_12 hW hL => ?_)
      obtain ⟨iu_11, fu_11, xu_11⟩ := k_12
      have F_13 := (Fr.rf : Fr S S (pRg 219)).trans (fu_11.to (pB_sub rfl rfl))
      have F_14 := (Fr.rf : Fr S S (pB 219)).trans fu_11
      have join_68 : ∀ (S68 : sS)  (H : Heap) (locs : List Loc) (ls : Array Slot), (cX G S68 0 0 0) → (Fr S S68 (pRg 219)) → (Fr S S68 (pB 219)) → (Fr u_11 S68 (pB 219)) → (S68.1 219 1 ≤ 7) → (Hd (S68.1 219 1 = 7 → S68.2.1 220 6 ≤ 999999)) → sW G 294 S68 H → sL G locs → lv_has ls 5 [(4, .int (iv dg)), (3, .int (iv bw)), (2, .int (iv fs)), (0, .ref (G.2.2.1 + 189)), (1, .ref (G.2.2.1 + 219))] → W p l e (rmk 3 0 0) s m args below meth c H locs 0 0 (MQ below (sQv G 294 (fun u => cX G u 0 0 0 ∧ Fr S u (pRg 219) ∧ (CR G u ∧ u.1 189 3 = S.1 189 3 + 1 ∧ u.1 219 1 ≤ 7 ∧ Hd (u.1 219 1 = 7 → u.2.1 220 6 ≤ 999999)))) args s 0 0 (sF G)) (F0 m 68 ls []) := by
        intro S68  H locs ls hI68 hFm68 hFc68 hL68_ hc7 h6 hW hL hl
        refine lv_aload_n hx hb dX4_takeNumber_68 rfl (lv_at hl 3 rfl) ?_
        refine lv_dup hx hb dX4_takeNumber_69 rfl ?_
        refine g_X4_40 Cx hW (k := 189) (by decide) rfl (v := S.1 189 3) (((hL68_ 189 rfl).1 3).trans ((fu_11 189 rfl).1 3)) dX4_takeNumber_70 ?_
        refine lv_iconst (v := iv 1) hx hb dX4_takeNumber_73 (by decide) ?_
        refine r_iadd hx hb dX4_takeNumber_74 ?_
        refine p_X4_40 Cx hW hL (k := 189) (by decide) rfl dX4_takeNumber_75 (fun H locs hW hL => ?_)
        have F_15 : Fr S (uF S68 189 3 ((S.1 189 3) + 1)) (pRg 219) := hFm68.F rfl
        have i_16 : cX G (uF S68 189 3 ((S.1 189 3) + 1)) 0 0 0 := hI68.F rfl rfl (show 0 ≤ (S.1 189 3) + 1 ∧ (S.1 189 3) + 1 ≤ 1000000000 from ⟨by omega, by omega⟩)
        have lk_17 : (uF S68 189 3 ((S.1 189 3) + 1)).1 189 3 = (S.1 189 3) + 1 := uF_on
        have q_18 : 0 ≤ S68.1 219 1 ∧ S68.1 219 1 ≤ 32 := hI68.fi 219 1 0 (by decide) rfl
        have lk_19 : (uF S68 189 3 ((S.1 189 3) + 1)).1 219 1 = S68.1 219 1 := uF_ne (fun h => absurd h.2 (by decide))
        exact sVret Cx hr hlk hW hL ⟨i_16, F_15, ⟨(hCR.fr hFc68 rfl rfl rfl rfl).F (by decide), (by omega), (by omega), (fun q => h6 (by rw [uF_ne (by decide)] at q; exact q))⟩⟩ dX4_takeNumber_78
      refine lv_iload_n hx hb dX4_takeNumber_60 rfl (lv_at hl 1 rfl) ?_
      refine r_if_eq (tgt := 68) hx hb ⟨(by omega), (by omega)⟩ dX4_takeNumber_61 (by decide) (fun c_20 => ?_) (fun c_20 => ?_)
      · have q_21 : 0 ≤ u_11.1 219 1 ∧ u_11.1 219 1 ≤ 32 := iu_11.fi 219 1 0 (by decide) rfl
        exact join_68 u_11  _ _ _ iu_11 F_13 F_14 (Fr.rf : Fr u_11 u_11 (pB 219)) (by omega) (fun q => by exact xu_11.2.1 (by omega)) hW hL (lv_sub hl [0, 1, 2, 3, 4] rfl)
      · refine lv_aload_n hx hb dX4_takeNumber_64 rfl (lv_at hl 4 rfl) ?_
        have q_22 : 0 ≤ u_11.1 219 1 ∧ u_11.1 219 1 ≤ 32 := iu_11.fi 219 1 0 (by decide) rfl
        have q_23 : (-1) ≤ u_11.1 219 2 ∧ u_11.1 219 2 ≤ 1 := iu_11.fi 219 2 0 (by decide) rfl
        refine sBv (sV (As := []) (rest := []) (k := 219) Cx (s_X0_turn l G u_11 (o := 219) iu_11 rfl) (c_X4_115 Cx rfl rfl (rmk_ok (by omega) (by decide))) hW (by decide) rfl rfl rfl hl.1 rfl (Nat.le_of_ble_eq_true rfl) dX4_takeNumber_65 ⟨Nat.le_of_ble_eq_true rfl, Nat.le_of_ble_eq_true rfl⟩) hL (fun u_24 H locs k_25 hW hL => ?_)
        obtain ⟨iu_24, fu_24, xu_24⟩ := k_25
        have F_26 := F_13.trans (fu_24.to (pB_sub rfl rfl))
        have F_27 := F_14.trans fu_24
        have F_28 := (Fr.rf : Fr u_11 u_11 (pB 219)).trans fu_24
        have q_29 : 0 ≤ u_24.1 219 1 ∧ u_24.1 219 1 ≤ 32 := iu_24.fi 219 1 0 (by decide) rfl
        exact join_68 u_24  _ _ _ iu_24 F_26 F_27 F_28 (by omega) (fun q => by rw [xu_24.2.2]; exact xu_11.2.1 (by omega)) hW hL (lv_sub hl [0, 1, 2, 3, 4] rfl)
    refine lv_iload_n hx hb dX4_takeNumber_24 rfl (lv_at hl 0 rfl) ?_
    refine r_if_eq (tgt := 34) hx hb ⟨(by omega), (by omega)⟩ dX4_takeNumber_25 (by decide) (fun c_30 => ?_) (fun c_30 => ?_)
    · refine lv_iload_n hx hb dX4_takeNumber_34 rfl (lv_at hl 1 rfl) ?_
      exact join_35 fs _ _ _ (by omega) hW hL (lv_sub hl [0, 1, 2, 3] rfl)
    · refine lv_iload_n hx hb dX4_takeNumber_28 rfl (lv_at hl 1 rfl) ?_
      refine lv_iconst (v := iv 1) hx hb dX4_takeNumber_29 (by decide) ?_
      refine r_iadd hx hb dX4_takeNumber_30 ?_
      refine lv_goto (tgt := 35) hx hb dX4_takeNumber_31 (by decide) ?_
      exact join_35 (fs + 1) _ _ _ (by omega) hW hL (lv_sub hl [0, 1, 2, 3] rfl)
  refine lv_aload_n hx hb dX4_takeNumber_5 rfl (lv_at hl 1 rfl) ?_
  refine g_X4_14 Cx hW (k := 189) (by decide) rfl (v := .ref (G.2.2.1 + 1)) hCR.1 dX4_takeNumber_6 ?_
  refine lv_iload_n hx hb dX4_takeNumber_9 rfl (lv_at hl 0 rfl) ?_
  have q_31 : 0 ≤ S.1 1 1 ∧ S.1 1 1 ≤ 30000 := hI.fi 1 1 10 (by decide) rfl
  refine sBi (sV (As := [.int (iv fs)]) (rest := []) (k := 1) Cx (s_X10_byteAt l G S (o := 1) (k := fs) (N := 30000) hI ⟨by decide, rfl, rfl, rfl, rfl, by decide⟩ (by omega)) (c_X4_43 Cx rfl rfl (rmk_ok (by omega) (by decide))) hW (by decide) rfl rfl rfl hl.1 rfl (Nat.le_of_ble_eq_true rfl) dX4_takeNumber_10 ⟨Nat.le_of_ble_eq_true rfl, Nat.le_of_ble_eq_true rfl⟩) hL (fun r_34 u_32 H locs k_33 hW hL => ?_)
  obtain ⟨eu_32, xu_32⟩ := k_33
  rw [eu_32] at hW
  refine lv_bipush (v := iv 45) hx hb dX4_takeNumber_13 (by decide) ?_
  refine r_icmp_ne (tgt := 22) hx hb ⟨(by omega), (by omega)⟩ ⟨(by omega), (by omega)⟩ dX4_takeNumber_15 (by decide) (fun c_35 => ?_) (fun c_35 => ?_)
  · refine lv_iconst (v := iv 0) hx hb dX4_takeNumber_22 (by decide) ?_
    exact join_23 0 _ _ _ (by omega) (by omega) hW hL (lv_sub hl [0, 1, 2] rfl)
  · refine lv_iconst (v := iv 1) hx hb dX4_takeNumber_18 (by decide) ?_
    refine lv_goto (tgt := 23) hx hb dX4_takeNumber_19 (by decide) ?_
    exact join_23 1 _ _ _ (by omega) (by omega) hW hL (lv_sub hl [0, 1, 2] rfl)
