/-! The class's reader by its tokens: kinds kp, values vp of the first T -/
def NVc (S : sS) (p x : Int) : Prop := (bt S 1 p = 45 → ∃ e, p + 1 < e ∧ (∀ i, p + 1 ≤ i → i < e → dgt S i) ∧ ¬ dgt S e ∧ x = -dvn (bt S 1) (p + 1) (e - (p + 1)).toNat ∧ x < 0) ∧ (bt S 1 p ≠ 45 → ∃ e, p < e ∧ (∀ i, p ≤ i → i < e → dgt S i) ∧ ¬ dgt S e ∧ x = dvn (bt S 1) p (e - p).toNat)
theorem NVc.of {S u : sS} {p x : Int} (h : NVc S p x) (e : ∀ k, bt u 1 k = bt S 1 k) : NVc u p x := by
  have e2 : bt u 1 = bt S 1 := funext e
  unfold NVc dgt at h ⊢
  rw [e2]; exact h
theorem dg_end {S : sS} {f a b : Int} (ha : f ≤ a) (hb : f ≤ b) (h1 : ∀ i, f ≤ i → i < a → dgt S i) (h2 : ¬ dgt S a) (g1 : ∀ i, f ≤ i → i < b → dgt S i) (g2 : ¬ dgt S b) : a = b := by
  rcases Int.lt_trichotomy a b with q | q | q
  · exact absurd (g1 a ha q) h2
  · exact q
  · exact absurd (h1 b hb q) g2
theorem NVc.n {S : sS} {p x d b : Int} (h : NVc S p x) (hb : bt S 1 p = 45) (hd : d = p + 1) (hl : d ≤ b) (h1 : ∀ i, d ≤ i → i < b → dgt S i) (h2 : ¬ dgt S b) : -(dvn (bt S 1) d (b - d).toNat) = x ∧ x < 0 ∧ d < b := by
  obtain ⟨e, e1, e2, e3, e4, e5⟩ := h.1 hb
  subst hd
  have q := dg_end (by omega) hl e2 e3 h1 h2
  subst q
  exact ⟨e4.symm, e5, e1⟩
theorem NVc.p {S : sS} {p x d b : Int} (h : NVc S p x) (hb : bt S 1 p ≠ 45) (hd : d = p) (hl : d ≤ b) (h1 : ∀ i, d ≤ i → i < b → dgt S i) (h2 : ¬ dgt S b) : dvn (bt S 1) d (b - d).toNat = x ∧ d < b := by
  obtain ⟨e, e1, e2, e3, e4⟩ := h.2 hb
  subst hd
  have q := dg_end (by omega) hl e2 e3 h1 h2
  subst q
  exact ⟨e4.symm, e1⟩
theorem dvn_0 {B : Int → Int} {p : Int} : ∀ n : Nat, (∀ i : Int, p ≤ i → i < p + n → 48 ≤ B i) → 0 ≤ dvn B p n := by
  intro n
  induction n with
  | zero => intro _; exact Int.le_refl 0
  | succ n ih =>
    intro h
    have a := ih (fun i a b => h i a (by omega)); have b := h (p + n) (by omega) (by omega)
    show 0 ≤ 10 * dvn B p n + B (p + n) - 48
    omega
theorem dvn_le {B : Int → Int} {p : Int} {a : Nat} : ∀ c : Nat, (∀ i : Int, p ≤ i → i < p + (a + c : Nat) → 48 ≤ B i) → dvn B p a ≤ dvn B p (a + c) := by
  intro c
  induction c with
  | zero => intro _; exact Int.le_refl _
  | succ c ih =>
    intro h
    have q := ih (fun i x y => h i x (by omega)); have z := dvn_0 (B := B) (p := p) (a + c) (fun i x y => h i x (by omega)); have w := h (p + (a + c : Nat)) (by omega) (by omega)
    show _ ≤ 10 * dvn B p (a + c) + B (p + (a + c : Nat)) - 48
    omega
def PT (S : sS) (T : Int) (kp vp : Int → Int) : Prop := T ≤ S.1 189 2 ∧ ∀ j, 0 ≤ j → j < T → S.2.1 192 j % 16 = kp j ∧ (kp j = 2 → NVc S (S.2.1 192 j / 16) (vp j))
/-- the reader holds the tape and these tokens -/
def CQ (G : sG) (T : Int) (kp vp : Int → Int) (S : sS) : Prop := RT G S ∧ DA S ∧ PT S T kp vp
theorem PT.of {S u : sS} {T : Int} {kp vp : Int → Int} (h : PT S T kp vp) (e2 : u.1 189 2 = S.1 189 2) (e3 : ∀ j, u.2.1 192 j = S.2.1 192 j) (e4 : u.1 1 1 = S.1 1 1) (e5 : ∀ j, u.2.1 2 j = S.2.1 2 j) : PT u T kp vp := by
  refine ⟨by rw [e2]; exact h.1, fun j a b => ?_⟩
  have q := h.2 j a b
  rw [e3]
  exact ⟨q.1, fun z => (q.2 z).of (bt_eq e4 e5)⟩
section
variable {G : sG} {T : Int} {kp vp : Int → Int} {S u : sS}
theorem CQ.cr (h : CQ G T kp vp S) : CR G S := ⟨h.1, h.2.1⟩
theorem CQ.of (h : CQ G T kp vp S) (e1 : u.2.2.2 189 0 = S.2.2.2 189 0) (e2 : u.1 189 2 = S.1 189 2) (e3 : ∀ j, u.2.1 192 j = S.2.1 192 j) (e4 : u.1 1 1 = S.1 1 1) (e5 : ∀ j, u.2.1 2 j = S.2.1 2 j) : CQ G T kp vp u :=
  have c := CR.of h.cr e1 e2 e3 e4 e5
  ⟨c.1, c.2, h.2.2.of e2 e3 e4 e5⟩
theorem CQ.fr {P : pS} (h : CQ G T kp vp S) (f : Fr S u P) (h1 : P 189 = false) (h2 : P 192 = false) (h3 : P 1 = false) (h4 : P 2 = false) : CQ G T kp vp u := h.of ((f 189 h1).2.2.2 0) ((f 189 h1).1 2) (fun j => (f 192 h2).2.1 j) ((f 1 h3).1 1) (fun j => (f 2 h4).2.1 j)
theorem CQ.F {k i : Nat} {v : Int} (h : CQ G T kp vp S) (hn : ¬ (k = 189 ∧ i = 2) ∧ k ≠ 1) : CQ G T kp vp (uF S k i v) := h.of rfl (uF_ne (fun q => hn.1 ⟨q.1.symm, q.2.symm⟩)) (fun _ => rfl) (uF_ne (fun q => hn.2 q.1.symm)) (fun _ => rfl)
theorem CQ.A {k : Nat} {i v : Int} (h : CQ G T kp vp S) (h1 : k ≠ 192) (h2 : k ≠ 2) : CQ G T kp vp (uA S k i v) := h.of rfl rfl (fun j => uA_ne (fun q => h1 q.1.symm)) rfl (fun j => uA_ne (fun q => h2 q.1.symm))
/-- the kind that is read -/
theorem CQ.k {r : Int} (h : CQ G T kp vp S) (h0 : 0 ≤ S.1 189 3) (hT : S.1 189 3 < T) (x1 : r ≠ 0 → S.1 189 3 < S.1 189 2 ∧ S.2.1 192 (S.1 189 3) % 16 = r) (x2 : r = 0 → S.1 189 2 ≤ S.1 189 3 ∨ S.2.1 192 (S.1 189 3) % 16 = 0) : r = kp (S.1 189 3) := by
  have a := h.2.2.1; have b := (h.2.2.2 _ h0 hT).1
  by_cases q : r = 0
  · rcases x2 q with z | z
    · omega
    · omega
  · have := x1 q; omega
end
/-- a count, digit by digit -/
def TC (B : Int → Int) (f i va : Int) : Prop := (va = dvn B f (i - f).toNat ∧ 0 ≤ va ∧ va ≤ 1000000) ∨ (va = -1 ∧ 1000000 < dvn B f (i - f).toNat)
theorem TC.st {B : Int → Int} {f i va c x y : Int} (h : TC B f i va) (h0 : 0 ≤ va) (hi : f ≤ i) (hc : c = B i) (h8 : 48 ≤ c) (hx : x = 10 * va + c - 48) (hy : (x ≤ 1000000 → y = x) ∧ (1000000 < x → y = -1)) : TC B f (i + 1) y := by
  rcases h with h | h
  · have e := dvn_1 (B := B) (f := f) (k := i) (c := c) (l := va) hi h.1 hc
    rw [← hx] at e
    unfold TC
    rw [← e]
    omega
  · omega
theorem TC.fin {S : sS} {f i b va x : Int} (h : TC (bt S 1) f i va) (hi : f ≤ i ∧ i ≤ b) (hd : ∀ j, f ≤ j → j < b → dgt S j) (he : dvn (bt S 1) f (b - f).toNat = x) (hq : i = b ∨ va < 0) : (0 ≤ x → x ≤ 1000000 → va = x) ∧ (x < 0 ∨ 1000000 < x → va = -1) := by
  have m := dvn_le (B := bt S 1) (p := f) (a := (i - f).toNat) (b - i).toNat (fun j a c => (hd j a (by omega)).1)
  rw [show (i - f).toNat + (b - i).toNat = (b - f).toNat by omega, he] at m
  have z := dvn_0 (B := bt S 1) (p := f) (b - f).toNat (fun j a c => (hd j a (by omega)).1)
  rw [he] at z
  rcases h with h | h
  · rcases hq with q | q
    · rw [q, he] at h; omega
    · omega
  · omega
set_option maxRecDepth 100000 in
set_option maxHeartbeats 4000000 in
theorem b_X4_takeNumber_209 (l : Launch) (G : sG) (S : sS) {T : Int} {kp vp : Int → Int} (hI : cX G S 0 0 0) (hCR : CQ G T kp vp S) (hat : S.1 189 3 ≤ 999999999) (hkn : S.1 189 3 < T ∧ kp (S.1 189 3) = 2) : Met l yX4_takeNumber (.code yX4_takeNumber cX4_takeNumber 5 none :: tb) (rmk 3 0 0) (sPc G 294 S [.ref (G.2.2.1 + 189), .ref (G.2.2.1 + 209)]) (sQv G 294 (fun u => cX G u 0 0 0 ∧ Fr S u (pRg 209) ∧ (CQ G T kp vp u ∧ u.1 189 3 = S.1 189 3 + 1 ∧ u.1 209 1 ≤ 7 ∧ Hd (u.1 209 1 = 7 → u.2.1 210 6 ≤ 999999) ∧ Hd (bv u 209 = vp (S.1 189 3)) ∧ Hd (bs u 209)))) 0 0 (sF G) := by
  refine sEnter (by decide) (Nat.le_of_ble_eq_true rfl) ?_
  intro p e s m args below meth c Cx hr hlk hnm hW ls hl
  have Cx : sC G p m c cX4_takeNumber 5 s args RX4 := Cx
  obtain ⟨hx, hb, hml, hown, hts⟩ := id Cx.1
  have hL : sL G [] := sL_nil
  have hl : lv_has ls 5 [(0, .ref (G.2.2.1 + 189)), (1, .ref (G.2.2.1 + 209))] := hl
  have hW0 := hW
  have hl1 : 0 ≤ S.1 1 1 ∧ S.1 1 1 ≤ 30000 := hI.fi 1 1 10 (by decide) rfl
  have hat0 : 0 ≤ S.1 189 3 ∧ S.1 189 3 ≤ 1000000000 := hI.fi 189 3 4 (by decide) rfl
  refine lv_aload_n hx hb dX4_takeNumber_0 rfl (lv_at hl 0 rfl) ?_
  have q_1 : 0 ≤ S.1 189 3 ∧ S.1 189 3 ≤ 1000000000 := hI.fi 189 3 4 (by decide) rfl
  have q_2 : 0 ≤ S.1 189 2 ∧ S.1 189 2 ≤ 30001 := hI.fi 189 2 4 (by decide) rfl
  refine sBi (sV (As := []) (rest := []) (k := 189) Cx (s_X4_start l G S  hI) (c_X4_106 Cx rfl rfl (rmk_ok (by omega) (by decide))) hW (by decide) rfl rfl rfl hl.1 rfl (Nat.le_of_ble_eq_true rfl) dX4_takeNumber_1 ⟨Nat.le_of_ble_eq_true rfl, Nat.le_of_ble_eq_true rfl⟩) hL (fun fs u_3 H locs k_4 hW hL => ?_)
  obtain ⟨eu_3, xu_3⟩ := k_4
  rw [eu_3] at hW
  have hnv : NVc S fs (vp (S.1 189 3)) := by have hT := hCR.2.2.1; rw [xu_3.2.1 (by omega)]; exact (hCR.2.2.2 _ hat0.1 hkn.1).2 hkn.2
  refine lv_istore_n (lv' := [(2, .int (iv fs)), (0, .ref (G.2.2.1 + 189)), (1, .ref (G.2.2.1 + 209))]) hx hb dX4_takeNumber_4 rfl hl (by decide) rfl (fun ls hl => ?_)
  have join_23 : ∀ (bw : Int) (H : Heap) (locs : List Loc) (ls : Array Slot), (0 ≤ bw ∧ bw ≤ 1) → ((bw = 1 → bt S 1 fs = 45) ∧ (bw = 0 → bt S 1 fs ≠ 45)) → sW G 294 S H → sL G locs → lv_has ls 5 [(2, .int (iv fs)), (0, .ref (G.2.2.1 + 189)), (1, .ref (G.2.2.1 + 209))] → W p l e (rmk 3 0 0) s m args below meth c H locs 0 0 (MQ below (sQv G 294 (fun u => cX G u 0 0 0 ∧ Fr S u (pRg 209) ∧ (CQ G T kp vp u ∧ u.1 189 3 = S.1 189 3 + 1 ∧ u.1 209 1 ≤ 7 ∧ Hd (u.1 209 1 = 7 → u.2.1 210 6 ≤ 999999) ∧ Hd (bv u 209 = vp (S.1 189 3)) ∧ Hd (bs u 209)))) args s 0 0 (sF G)) (F0 m 23 ls [.int (iv bw)]) := by
    intro bw H locs ls hbw hb1 hW hL hl
    refine lv_istore_n (lv' := [(3, .int (iv bw)), (2, .int (iv fs)), (0, .ref (G.2.2.1 + 189)), (1, .ref (G.2.2.1 + 209))]) hx hb dX4_takeNumber_23 rfl hl (by decide) rfl (fun ls hl => ?_)
    have join_35 : ∀ (dg : Int) (H : Heap) (locs : List Loc) (ls : Array Slot), ((bw = 1 → dg = fs + 1) ∧ (bw = 0 → dg = fs)) → sW G 294 S H → sL G locs → lv_has ls 5 [(3, .int (iv bw)), (2, .int (iv fs)), (0, .ref (G.2.2.1 + 189)), (1, .ref (G.2.2.1 + 209))] → W p l e (rmk 3 0 0) s m args below meth c H locs 0 0 (MQ below (sQv G 294 (fun u => cX G u 0 0 0 ∧ Fr S u (pRg 209) ∧ (CQ G T kp vp u ∧ u.1 189 3 = S.1 189 3 + 1 ∧ u.1 209 1 ≤ 7 ∧ Hd (u.1 209 1 = 7 → u.2.1 210 6 ≤ 999999) ∧ Hd (bv u 209 = vp (S.1 189 3)) ∧ Hd (bs u 209)))) args s 0 0 (sF G)) (F0 m 35 ls [.int (iv dg)]) := by
      intro dg H locs ls hdg hW hL hl
      refine lv_istore (lv' := [(4, .int (iv dg)), (3, .int (iv bw)), (2, .int (iv fs)), (0, .ref (G.2.2.1 + 189)), (1, .ref (G.2.2.1 + 209))]) hx hb dX4_takeNumber_35 hl (by decide) rfl (fun ls hl => ?_)
      refine lv_aload_n hx hb dX4_takeNumber_37 rfl (lv_at hl 4 rfl) ?_
      refine lv_aload_n hx hb dX4_takeNumber_38 rfl (lv_at hl 3 rfl) ?_
      refine g_X4_14 Cx hW (k := 189) (by decide) rfl (v := .ref (G.2.2.1 + 1)) hCR.1 dX4_takeNumber_39 ?_
      refine lv_iload hx hb dX4_takeNumber_42 (lv_at hl 0 rfl) ?_
      refine lv_aload_n hx hb dX4_takeNumber_44 rfl (lv_at hl 3 rfl) ?_
      refine lv_iload hx hb dX4_takeNumber_45 (lv_at hl 0 rfl) ?_
      refine lv_aload_n hx hb dX4_takeNumber_47 rfl (lv_at hl 3 rfl) ?_
      refine g_X4_14 Cx hW (k := 189) (by decide) rfl (v := .ref (G.2.2.1 + 1)) hCR.1 dX4_takeNumber_48 ?_
      have q_5 : 0 ≤ S.1 1 1 ∧ S.1 1 1 ≤ 30000 := hI.fi 1 1 10 (by decide) rfl
      refine sBi (sV (As := []) (rest := [.int (iv dg), .ref (G.2.2.1 + 189), .int (iv dg), .ref (G.2.2.1 + 1), .ref (G.2.2.1 + 209)]) (k := 1) Cx (s_X10_length l G S (o := 1) (N := 30000) hI ⟨by decide, rfl, rfl, rfl, rfl, by decide⟩) (c_X4_28 Cx rfl rfl (rmk_ok (by omega) (by decide))) hW (by decide) rfl rfl rfl hl.1 rfl (Nat.le_of_ble_eq_true rfl) dX4_takeNumber_51 ⟨Nat.le_of_ble_eq_true rfl, Nat.le_of_ble_eq_true rfl⟩) hL (fun r_8 u_6 H locs k_7 hW hL => ?_)
      obtain ⟨eu_6, xu_6⟩ := k_7
      rw [eu_6] at hW
      refine sBi (sV (As := [.int (iv dg), .int (iv r_8)]) (rest := [.int (iv dg), .ref (G.2.2.1 + 1), .ref (G.2.2.1 + 209)]) (k := 189) Cx (s_X4_behindDigits l G S (f := dg) (ln := r_8) hI (by omega) (by omega) hCR.1) (c_X4_94 Cx rfl rfl (rmk_ok (by omega) (by decide))) hW (by decide) rfl rfl rfl hl.1 rfl (Nat.le_of_ble_eq_true rfl) dX4_takeNumber_54 ⟨Nat.le_of_ble_eq_true rfl, Nat.le_of_ble_eq_true rfl⟩) hL (fun be u_9 H locs k_10 hW hL => ?_)
      obtain ⟨eu_9, xu_9⟩ := k_10
      rw [eu_9] at hW
      have hDG : DG S fs := DG.st hCR.2.1 hat0.1 xu_3.2
      have hbe := hDG.be hbw hb1 hdg xu_9.2.1
      refine sBv (sV (As := [.ref (G.2.2.1 + 1), .int (iv dg), .int (iv be)]) (rest := []) (k := 209) Cx (b_X0_read_60 l G S (o := 209) (t := 1) (f := dg) (b := be) (N := 30000) hI rfl ⟨by decide, rfl, rfl, rfl, rfl, by decide⟩ (by omega) xu_9.2.1) (c_X4_109 Cx rfl rfl (rmk_ok (by omega) (by decide))) hW (by decide) rfl rfl rfl hl.1 rfl (Nat.le_of_ble_eq_true rfl) dX4_takeNumber_57 ⟨Nat.le_of_ble_eq_true rfl, Nat.le_of_ble_eq_true rfl⟩) hL (fun u_11 H locs k_12 hW hL => ?_)
      obtain ⟨iu_11, fu_11, xu_11⟩ := k_12
      have F_13 := (Fr.rf : Fr S S (pRg 209)).trans (fu_11.to (pB_sub rfl rfl))
      have F_14 := (Fr.rf : Fr S S (pB 209)).trans fu_11
      have bv_15 : bv u_11 209 = dvn (bt S 1) dg (be - dg).toNat := xu_11.2.2.2.1
      have join_68 : ∀ (S68 : sS)  (H : Heap) (locs : List Loc) (ls : Array Slot), (cX G S68 0 0 0) → (Fr S S68 (pRg 209)) → (Fr S S68 (pB 209)) → (Fr u_11 S68 (pB 209)) → (S68.1 209 1 ≤ 7) → (Hd (S68.1 209 1 = 7 → S68.2.1 210 6 ≤ 999999)) → (bv S68 209 = vp (S.1 189 3)) → (Hd (bs S68 209)) → sW G 294 S68 H → sL G locs → lv_has ls 5 [(4, .int (iv dg)), (3, .int (iv bw)), (2, .int (iv fs)), (0, .ref (G.2.2.1 + 189)), (1, .ref (G.2.2.1 + 209))] → W p l e (rmk 3 0 0) s m args below meth c H locs 0 0 (MQ below (sQv G 294 (fun u => cX G u 0 0 0 ∧ Fr S u (pRg 209) ∧ (CQ G T kp vp u ∧ u.1 189 3 = S.1 189 3 + 1 ∧ u.1 209 1 ≤ 7 ∧ Hd (u.1 209 1 = 7 → u.2.1 210 6 ≤ 999999) ∧ Hd (bv u 209 = vp (S.1 189 3)) ∧ Hd (bs u 209)))) args s 0 0 (sF G)) (F0 m 68 ls []) := by
        intro S68  H locs ls hI68 hFm68 hFc68 hL68_ hc7 h6 hbv8 hbs8 hW hL hl
        refine lv_aload_n hx hb dX4_takeNumber_68 rfl (lv_at hl 3 rfl) ?_
        refine lv_dup hx hb dX4_takeNumber_69 rfl ?_
        refine g_X4_40 Cx hW (k := 189) (by decide) rfl (v := S.1 189 3) (((hL68_ 189 rfl).1 3).trans ((fu_11 189 rfl).1 3)) dX4_takeNumber_70 ?_
        refine lv_iconst (v := iv 1) hx hb dX4_takeNumber_73 (by decide) ?_
        refine r_iadd hx hb dX4_takeNumber_74 ?_
        refine p_X4_40 Cx hW hL (k := 189) (by decide) rfl dX4_takeNumber_75 (fun H locs hW hL => ?_)
        have F_16 : Fr S (uF S68 189 3 ((S.1 189 3) + 1)) (pRg 209) := hFm68.F rfl
        have i_17 : cX G (uF S68 189 3 ((S.1 189 3) + 1)) 0 0 0 := hI68.F rfl rfl (show 0 ≤ (S.1 189 3) + 1 ∧ (S.1 189 3) + 1 ≤ 1000000000 from ⟨by omega, by omega⟩)
        have lk_18 : (uF S68 189 3 ((S.1 189 3) + 1)).1 189 3 = (S.1 189 3) + 1 := uF_on
        have q_19 : 0 ≤ S68.1 209 1 ∧ S68.1 209 1 ≤ 32 := hI68.fi 209 1 0 (by decide) rfl
        have lk_20 : (uF S68 189 3 ((S.1 189 3) + 1)).1 209 1 = S68.1 209 1 := uF_ne (fun h => absurd h.2 (by decide))
        exact sVret Cx hr hlk hW hL ⟨i_17, F_16, ⟨(hCR.fr hFc68 rfl rfl rfl rfl).F (by decide), (by omega), (by omega), (fun q => h6 (by rw [uF_ne (by decide)] at q; exact q)), (bv_F (by decide)).trans hbv8, bs_F (by decide) hbs8⟩⟩ dX4_takeNumber_78
      refine lv_iload_n hx hb dX4_takeNumber_60 rfl (lv_at hl 1 rfl) ?_
      refine r_if_eq (tgt := 68) hx hb ⟨(by omega), (by omega)⟩ dX4_takeNumber_61 (by decide) (fun c_21 => ?_) (fun c_21 => ?_)
      · have q_22 : 0 ≤ u_11.1 209 1 ∧ u_11.1 209 1 ≤ 32 := iu_11.fi 209 1 0 (by decide) rfl
        exact join_68 u_11  _ _ _ iu_11 F_13 F_14 (Fr.rf : Fr u_11 u_11 (pB 209)) (by omega) (fun q => by exact xu_11.2.1 (by omega)) (((show bv u_11 209 = dvn (bt S 1) dg (be - dg).toNat from bv_15)).trans (hnv.p (hb1.2 (by omega)) (hdg.2 (by omega)) (by omega) xu_9.2.1 xu_9.2.2).1) (show Hd (bs u_11 209) from xu_11.2.2.2.2) hW hL (lv_sub hl [0, 1, 2, 3, 4] rfl)
      · refine lv_aload_n hx hb dX4_takeNumber_64 rfl (lv_at hl 4 rfl) ?_
        have q_23 : 0 ≤ u_11.1 209 1 ∧ u_11.1 209 1 ≤ 32 := iu_11.fi 209 1 0 (by decide) rfl
        have q_24 : (-1) ≤ u_11.1 209 2 ∧ u_11.1 209 2 ≤ 1 := iu_11.fi 209 2 0 (by decide) rfl
        refine sBv (sV (As := []) (rest := []) (k := 209) Cx (s_X0_turn l G u_11 (o := 209) iu_11 rfl) (c_X4_115 Cx rfl rfl (rmk_ok (by omega) (by decide))) hW (by decide) rfl rfl rfl hl.1 rfl (Nat.le_of_ble_eq_true rfl) dX4_takeNumber_65 ⟨Nat.le_of_ble_eq_true rfl, Nat.le_of_ble_eq_true rfl⟩) hL (fun u_25 H locs k_26 hW hL => ?_)
        obtain ⟨iu_25, fu_25, xu_25⟩ := k_26
        have F_27 := F_13.trans (fu_25.to (pB_sub rfl rfl))
        have F_28 := F_14.trans fu_25
        have F_29 := (Fr.rf : Fr u_11 u_11 (pB 209)).trans fu_25
        have bv_30 : bv u_25 209 = -(dvn (bt S 1) dg (be - dg).toNat) := (tn_bv xu_25.1 xu_25.2.1 xu_25.2.2).trans (congrArg _ ((show bv u_11 209 = dvn (bt S 1) dg (be - dg).toNat from bv_15)))
        have q_31 : 0 ≤ u_25.1 209 1 ∧ u_25.1 209 1 ≤ 32 := iu_25.fi 209 1 0 (by decide) rfl
        exact join_68 u_25  _ _ _ iu_25 F_27 F_28 F_29 (by omega) (fun q => by rw [xu_25.2.2]; exact xu_11.2.1 (by omega)) (((show bv u_25 209 = -(dvn (bt S 1) dg (be - dg).toNat) from bv_30)).trans (hnv.n (hb1.1 (by omega)) (hdg.1 (by omega)) (by omega) xu_9.2.1 xu_9.2.2).1) (show Hd (bs u_25 209) from (tn_bs xu_25.1 xu_25.2.1 (show Hd (bs u_11 209) from xu_11.2.2.2.2))) hW hL (lv_sub hl [0, 1, 2, 3, 4] rfl)
    refine lv_iload_n hx hb dX4_takeNumber_24 rfl (lv_at hl 0 rfl) ?_
    refine r_if_eq (tgt := 34) hx hb ⟨(by omega), (by omega)⟩ dX4_takeNumber_25 (by decide) (fun c_32 => ?_) (fun c_32 => ?_)
    · refine lv_iload_n hx hb dX4_takeNumber_34 rfl (lv_at hl 1 rfl) ?_
      exact join_35 fs _ _ _ (by omega) hW hL (lv_sub hl [0, 1, 2, 3] rfl)
    · refine lv_iload_n hx hb dX4_takeNumber_28 rfl (lv_at hl 1 rfl) ?_
      refine lv_iconst (v := iv 1) hx hb dX4_takeNumber_29 (by decide) ?_
      refine r_iadd hx hb dX4_takeNumber_30 ?_
      refine lv_goto (tgt := 35) hx hb dX4_takeNumber_31 (by decide) ?_
      exact join_35 (fs + 1) _ _ _ (by omega) hW hL (lv_sub hl [0, 1, 2, 3] rfl)
  refine lv_aload_n hx hb dX4_takeNumber_5 rfl (lv_at hl 1 rfl) ?_
  refine g_X4_14 Cx hW (k := 189) (by decide) rfl (v := .ref (G.2.2.1 + 1)) hCR.1 dX4_takeNumber_6 ?_
  refine lv_iload_n hx hb dX4_takeNumber_9 rfl (lv_at hl 0 rfl) ?_
  have q_33 : 0 ≤ S.1 1 1 ∧ S.1 1 1 ≤ 30000 := hI.fi 1 1 10 (by decide) rfl
  refine sBi (sV (As := [.int (iv fs)]) (rest := []) (k := 1) Cx (s_X10_byteAt l G S (o := 1) (k := fs) (N := 30000) hI ⟨by decide, rfl, rfl, rfl, rfl, by decide⟩ (by omega)) (c_X4_43 Cx rfl rfl (rmk_ok (by omega) (by decide))) hW (by decide) rfl rfl rfl hl.1 rfl (Nat.le_of_ble_eq_true rfl) dX4_takeNumber_10 ⟨Nat.le_of_ble_eq_true rfl, Nat.le_of_ble_eq_true rfl⟩) hL (fun r_36 u_34 H locs k_35 hW hL => ?_)
  obtain ⟨eu_34, xu_34⟩ := k_35
  rw [eu_34] at hW
  refine lv_bipush (v := iv 45) hx hb dX4_takeNumber_13 (by decide) ?_
  refine r_icmp_ne (tgt := 22) hx hb ⟨(by omega), (by omega)⟩ ⟨(by omega), (by omega)⟩ dX4_takeNumber_15 (by decide) (fun c_37 => ?_) (fun c_37 => ?_)
  · refine lv_iconst (v := iv 0) hx hb dX4_takeNumber_22 (by decide) ?_
    exact join_23 0 _ _ _ (by omega) (by omega) hW hL (lv_sub hl [0, 1, 2] rfl)
  · refine lv_iconst (v := iv 1) hx hb dX4_takeNumber_18 (by decide) ?_
    refine lv_goto (tgt := 23) hx hb dX4_takeNumber_19 (by decide) ?_
    exact join_23 1 _ _ _ (by omega) (by omega) hW hL (lv_sub hl [0, 1, 2] rfl)

set_option maxRecDepth 100000 in
set_option maxHeartbeats 4000000 in
theorem b_X4_takeNumber_211 (l : Launch) (G : sG) (S : sS) {T : Int} {kp vp : Int → Int} (hI : cX G S 0 0 0) (hCR : CQ G T kp vp S) (hat : S.1 189 3 ≤ 999999999) (hkn : S.1 189 3 < T ∧ kp (S.1 189 3) = 2) : Met l yX4_takeNumber (.code yX4_takeNumber cX4_takeNumber 5 none :: tb) (rmk 3 0 0) (sPc G 294 S [.ref (G.2.2.1 + 189), .ref (G.2.2.1 + 211)]) (sQv G 294 (fun u => cX G u 0 0 0 ∧ Fr S u (pRg 211) ∧ (CQ G T kp vp u ∧ u.1 189 3 = S.1 189 3 + 1 ∧ u.1 211 1 ≤ 7 ∧ Hd (u.1 211 1 = 7 → u.2.1 212 6 ≤ 999999) ∧ Hd (bv u 211 = vp (S.1 189 3)) ∧ Hd (bs u 211)))) 0 0 (sF G) := by
  refine sEnter (by decide) (Nat.le_of_ble_eq_true rfl) ?_
  intro p e s m args below meth c Cx hr hlk hnm hW ls hl
  have Cx : sC G p m c cX4_takeNumber 5 s args RX4 := Cx
  obtain ⟨hx, hb, hml, hown, hts⟩ := id Cx.1
  have hL : sL G [] := sL_nil
  have hl : lv_has ls 5 [(0, .ref (G.2.2.1 + 189)), (1, .ref (G.2.2.1 + 211))] := hl
  have hW0 := hW
  have hl1 : 0 ≤ S.1 1 1 ∧ S.1 1 1 ≤ 30000 := hI.fi 1 1 10 (by decide) rfl
  have hat0 : 0 ≤ S.1 189 3 ∧ S.1 189 3 ≤ 1000000000 := hI.fi 189 3 4 (by decide) rfl
  refine lv_aload_n hx hb dX4_takeNumber_0 rfl (lv_at hl 0 rfl) ?_
  have q_1 : 0 ≤ S.1 189 3 ∧ S.1 189 3 ≤ 1000000000 := hI.fi 189 3 4 (by decide) rfl
  have q_2 : 0 ≤ S.1 189 2 ∧ S.1 189 2 ≤ 30001 := hI.fi 189 2 4 (by decide) rfl
  refine sBi (sV (As := []) (rest := []) (k := 189) Cx (s_X4_start l G S  hI) (c_X4_106 Cx rfl rfl (rmk_ok (by omega) (by decide))) hW (by decide) rfl rfl rfl hl.1 rfl (Nat.le_of_ble_eq_true rfl) dX4_takeNumber_1 ⟨Nat.le_of_ble_eq_true rfl, Nat.le_of_ble_eq_true rfl⟩) hL (fun fs u_3 H locs k_4 hW hL => ?_)
  obtain ⟨eu_3, xu_3⟩ := k_4
  rw [eu_3] at hW
  have hnv : NVc S fs (vp (S.1 189 3)) := by have hT := hCR.2.2.1; rw [xu_3.2.1 (by omega)]; exact (hCR.2.2.2 _ hat0.1 hkn.1).2 hkn.2
  refine lv_istore_n (lv' := [(2, .int (iv fs)), (0, .ref (G.2.2.1 + 189)), (1, .ref (G.2.2.1 + 211))]) hx hb dX4_takeNumber_4 rfl hl (by decide) rfl (fun ls hl => ?_)
  have join_23 : ∀ (bw : Int) (H : Heap) (locs : List Loc) (ls : Array Slot), (0 ≤ bw ∧ bw ≤ 1) → ((bw = 1 → bt S 1 fs = 45) ∧ (bw = 0 → bt S 1 fs ≠ 45)) → sW G 294 S H → sL G locs → lv_has ls 5 [(2, .int (iv fs)), (0, .ref (G.2.2.1 + 189)), (1, .ref (G.2.2.1 + 211))] → W p l e (rmk 3 0 0) s m args below meth c H locs 0 0 (MQ below (sQv G 294 (fun u => cX G u 0 0 0 ∧ Fr S u (pRg 211) ∧ (CQ G T kp vp u ∧ u.1 189 3 = S.1 189 3 + 1 ∧ u.1 211 1 ≤ 7 ∧ Hd (u.1 211 1 = 7 → u.2.1 212 6 ≤ 999999) ∧ Hd (bv u 211 = vp (S.1 189 3)) ∧ Hd (bs u 211)))) args s 0 0 (sF G)) (F0 m 23 ls [.int (iv bw)]) := by
    intro bw H locs ls hbw hb1 hW hL hl
    refine lv_istore_n (lv' := [(3, .int (iv bw)), (2, .int (iv fs)), (0, .ref (G.2.2.1 + 189)), (1, .ref (G.2.2.1 + 211))]) hx hb dX4_takeNumber_23 rfl hl (by decide) rfl (fun ls hl => ?_)
    have join_35 : ∀ (dg : Int) (H : Heap) (locs : List Loc) (ls : Array Slot), ((bw = 1 → dg = fs + 1) ∧ (bw = 0 → dg = fs)) → sW G 294 S H → sL G locs → lv_has ls 5 [(3, .int (iv bw)), (2, .int (iv fs)), (0, .ref (G.2.2.1 + 189)), (1, .ref (G.2.2.1 + 211))] → W p l e (rmk 3 0 0) s m args below meth c H locs 0 0 (MQ below (sQv G 294 (fun u => cX G u 0 0 0 ∧ Fr S u (pRg 211) ∧ (CQ G T kp vp u ∧ u.1 189 3 = S.1 189 3 + 1 ∧ u.1 211 1 ≤ 7 ∧ Hd (u.1 211 1 = 7 → u.2.1 212 6 ≤ 999999) ∧ Hd (bv u 211 = vp (S.1 189 3)) ∧ Hd (bs u 211)))) args s 0 0 (sF G)) (F0 m 35 ls [.int (iv dg)]) := by
      intro dg H locs ls hdg hW hL hl
      refine lv_istore (lv' := [(4, .int (iv dg)), (3, .int (iv bw)), (2, .int (iv fs)), (0, .ref (G.2.2.1 + 189)), (1, .ref (G.2.2.1 + 211))]) hx hb dX4_takeNumber_35 hl (by decide) rfl (fun ls hl => ?_)
      refine lv_aload_n hx hb dX4_takeNumber_37 rfl (lv_at hl 4 rfl) ?_
      refine lv_aload_n hx hb dX4_takeNumber_38 rfl (lv_at hl 3 rfl) ?_
      refine g_X4_14 Cx hW (k := 189) (by decide) rfl (v := .ref (G.2.2.1 + 1)) hCR.1 dX4_takeNumber_39 ?_
      refine lv_iload hx hb dX4_takeNumber_42 (lv_at hl 0 rfl) ?_
      refine lv_aload_n hx hb dX4_takeNumber_44 rfl (lv_at hl 3 rfl) ?_
      refine lv_iload hx hb dX4_takeNumber_45 (lv_at hl 0 rfl) ?_
      refine lv_aload_n hx hb dX4_takeNumber_47 rfl (lv_at hl 3 rfl) ?_
      refine g_X4_14 Cx hW (k := 189) (by decide) rfl (v := .ref (G.2.2.1 + 1)) hCR.1 dX4_takeNumber_48 ?_
      have q_5 : 0 ≤ S.1 1 1 ∧ S.1 1 1 ≤ 30000 := hI.fi 1 1 10 (by decide) rfl
      refine sBi (sV (As := []) (rest := [.int (iv dg), .ref (G.2.2.1 + 189), .int (iv dg), .ref (G.2.2.1 + 1), .ref (G.2.2.1 + 211)]) (k := 1) Cx (s_X10_length l G S (o := 1) (N := 30000) hI ⟨by decide, rfl, rfl, rfl, rfl, by decide⟩) (c_X4_28 Cx rfl rfl (rmk_ok (by omega) (by decide))) hW (by decide) rfl rfl rfl hl.1 rfl (Nat.le_of_ble_eq_true rfl) dX4_takeNumber_51 ⟨Nat.le_of_ble_eq_true rfl, Nat.le_of_ble_eq_true rfl⟩) hL (fun r_8 u_6 H locs k_7 hW hL => ?_)
      obtain ⟨eu_6, xu_6⟩ := k_7
      rw [eu_6] at hW
      refine sBi (sV (As := [.int (iv dg), .int (iv r_8)]) (rest := [.int (iv dg), .ref (G.2.2.1 + 1), .ref (G.2.2.1 + 211)]) (k := 189) Cx (s_X4_behindDigits l G S (f := dg) (ln := r_8) hI (by omega) (by omega) hCR.1) (c_X4_94 Cx rfl rfl (rmk_ok (by omega) (by decide))) hW (by decide) rfl rfl rfl hl.1 rfl (Nat.le_of_ble_eq_true rfl) dX4_takeNumber_54 ⟨Nat.le_of_ble_eq_true rfl, Nat.le_of_ble_eq_true rfl⟩) hL (fun be u_9 H locs k_10 hW hL => ?_)
      obtain ⟨eu_9, xu_9⟩ := k_10
      rw [eu_9] at hW
      have hDG : DG S fs := DG.st hCR.2.1 hat0.1 xu_3.2
      have hbe := hDG.be hbw hb1 hdg xu_9.2.1
      refine sBv (sV (As := [.ref (G.2.2.1 + 1), .int (iv dg), .int (iv be)]) (rest := []) (k := 211) Cx (b_X0_read_60 l G S (o := 211) (t := 1) (f := dg) (b := be) (N := 30000) hI rfl ⟨by decide, rfl, rfl, rfl, rfl, by decide⟩ (by omega) xu_9.2.1) (c_X4_109 Cx rfl rfl (rmk_ok (by omega) (by decide))) hW (by decide) rfl rfl rfl hl.1 rfl (Nat.le_of_ble_eq_true rfl) dX4_takeNumber_57 ⟨Nat.le_of_ble_eq_true rfl, Nat.le_of_ble_eq_true rfl⟩) hL (fun u_11 H locs k_12 hW hL => ?_)
      obtain ⟨iu_11, fu_11, xu_11⟩ := k_12
      have F_13 := (Fr.rf : Fr S S (pRg 211)).trans (fu_11.to (pB_sub rfl rfl))
      have F_14 := (Fr.rf : Fr S S (pB 211)).trans fu_11
      have bv_15 : bv u_11 211 = dvn (bt S 1) dg (be - dg).toNat := xu_11.2.2.2.1
      have join_68 : ∀ (S68 : sS)  (H : Heap) (locs : List Loc) (ls : Array Slot), (cX G S68 0 0 0) → (Fr S S68 (pRg 211)) → (Fr S S68 (pB 211)) → (Fr u_11 S68 (pB 211)) → (S68.1 211 1 ≤ 7) → (Hd (S68.1 211 1 = 7 → S68.2.1 212 6 ≤ 999999)) → (bv S68 211 = vp (S.1 189 3)) → (Hd (bs S68 211)) → sW G 294 S68 H → sL G locs → lv_has ls 5 [(4, .int (iv dg)), (3, .int (iv bw)), (2, .int (iv fs)), (0, .ref (G.2.2.1 + 189)), (1, .ref (G.2.2.1 + 211))] → W p l e (rmk 3 0 0) s m args below meth c H locs 0 0 (MQ below (sQv G 294 (fun u => cX G u 0 0 0 ∧ Fr S u (pRg 211) ∧ (CQ G T kp vp u ∧ u.1 189 3 = S.1 189 3 + 1 ∧ u.1 211 1 ≤ 7 ∧ Hd (u.1 211 1 = 7 → u.2.1 212 6 ≤ 999999) ∧ Hd (bv u 211 = vp (S.1 189 3)) ∧ Hd (bs u 211)))) args s 0 0 (sF G)) (F0 m 68 ls []) := by
        intro S68  H locs ls hI68 hFm68 hFc68 hL68_ hc7 h6 hbv8 hbs8 hW hL hl
        refine lv_aload_n hx hb dX4_takeNumber_68 rfl (lv_at hl 3 rfl) ?_
        refine lv_dup hx hb dX4_takeNumber_69 rfl ?_
        refine g_X4_40 Cx hW (k := 189) (by decide) rfl (v := S.1 189 3) (((hL68_ 189 rfl).1 3).trans ((fu_11 189 rfl).1 3)) dX4_takeNumber_70 ?_
        refine lv_iconst (v := iv 1) hx hb dX4_takeNumber_73 (by decide) ?_
        refine r_iadd hx hb dX4_takeNumber_74 ?_
        refine p_X4_40 Cx hW hL (k := 189) (by decide) rfl dX4_takeNumber_75 (fun H locs hW hL => ?_)
        have F_16 : Fr S (uF S68 189 3 ((S.1 189 3) + 1)) (pRg 211) := hFm68.F rfl
        have i_17 : cX G (uF S68 189 3 ((S.1 189 3) + 1)) 0 0 0 := hI68.F rfl rfl (show 0 ≤ (S.1 189 3) + 1 ∧ (S.1 189 3) + 1 ≤ 1000000000 from ⟨by omega, by omega⟩)
        have lk_18 : (uF S68 189 3 ((S.1 189 3) + 1)).1 189 3 = (S.1 189 3) + 1 := uF_on
        have q_19 : 0 ≤ S68.1 211 1 ∧ S68.1 211 1 ≤ 32 := hI68.fi 211 1 0 (by decide) rfl
        have lk_20 : (uF S68 189 3 ((S.1 189 3) + 1)).1 211 1 = S68.1 211 1 := uF_ne (fun h => absurd h.2 (by decide))
        exact sVret Cx hr hlk hW hL ⟨i_17, F_16, ⟨(hCR.fr hFc68 rfl rfl rfl rfl).F (by decide), (by omega), (by omega), (fun q => h6 (by rw [uF_ne (by decide)] at q; exact q)), (bv_F (by decide)).trans hbv8, bs_F (by decide) hbs8⟩⟩ dX4_takeNumber_78
      refine lv_iload_n hx hb dX4_takeNumber_60 rfl (lv_at hl 1 rfl) ?_
      refine r_if_eq (tgt := 68) hx hb ⟨(by omega), (by omega)⟩ dX4_takeNumber_61 (by decide) (fun c_21 => ?_) (fun c_21 => ?_)
      · have q_22 : 0 ≤ u_11.1 211 1 ∧ u_11.1 211 1 ≤ 32 := iu_11.fi 211 1 0 (by decide) rfl
        exact join_68 u_11  _ _ _ iu_11 F_13 F_14 (Fr.rf : Fr u_11 u_11 (pB 211)) (by omega) (fun q => by exact xu_11.2.1 (by omega)) (((show bv u_11 211 = dvn (bt S 1) dg (be - dg).toNat from bv_15)).trans (hnv.p (hb1.2 (by omega)) (hdg.2 (by omega)) (by omega) xu_9.2.1 xu_9.2.2).1) (show Hd (bs u_11 211) from xu_11.2.2.2.2) hW hL (lv_sub hl [0, 1, 2, 3, 4] rfl)
      · refine lv_aload_n hx hb dX4_takeNumber_64 rfl (lv_at hl 4 rfl) ?_
        have q_23 : 0 ≤ u_11.1 211 1 ∧ u_11.1 211 1 ≤ 32 := iu_11.fi 211 1 0 (by decide) rfl
        have q_24 : (-1) ≤ u_11.1 211 2 ∧ u_11.1 211 2 ≤ 1 := iu_11.fi 211 2 0 (by decide) rfl
        refine sBv (sV (As := []) (rest := []) (k := 211) Cx (s_X0_turn l G u_11 (o := 211) iu_11 rfl) (c_X4_115 Cx rfl rfl (rmk_ok (by omega) (by decide))) hW (by decide) rfl rfl rfl hl.1 rfl (Nat.le_of_ble_eq_true rfl) dX4_takeNumber_65 ⟨Nat.le_of_ble_eq_true rfl, Nat.le_of_ble_eq_true rfl⟩) hL (fun u_25 H locs k_26 hW hL => ?_)
        obtain ⟨iu_25, fu_25, xu_25⟩ := k_26
        have F_27 := F_13.trans (fu_25.to (pB_sub rfl rfl))
        have F_28 := F_14.trans fu_25
        have F_29 := (Fr.rf : Fr u_11 u_11 (pB 211)).trans fu_25
        have bv_30 : bv u_25 211 = -(dvn (bt S 1) dg (be - dg).toNat) := (tn_bv xu_25.1 xu_25.2.1 xu_25.2.2).trans (congrArg _ ((show bv u_11 211 = dvn (bt S 1) dg (be - dg).toNat from bv_15)))
        have q_31 : 0 ≤ u_25.1 211 1 ∧ u_25.1 211 1 ≤ 32 := iu_25.fi 211 1 0 (by decide) rfl
        exact join_68 u_25  _ _ _ iu_25 F_27 F_28 F_29 (by omega) (fun q => by rw [xu_25.2.2]; exact xu_11.2.1 (by omega)) (((show bv u_25 211 = -(dvn (bt S 1) dg (be - dg).toNat) from bv_30)).trans (hnv.n (hb1.1 (by omega)) (hdg.1 (by omega)) (by omega) xu_9.2.1 xu_9.2.2).1) (show Hd (bs u_25 211) from (tn_bs xu_25.1 xu_25.2.1 (show Hd (bs u_11 211) from xu_11.2.2.2.2))) hW hL (lv_sub hl [0, 1, 2, 3, 4] rfl)
    refine lv_iload_n hx hb dX4_takeNumber_24 rfl (lv_at hl 0 rfl) ?_
    refine r_if_eq (tgt := 34) hx hb ⟨(by omega), (by omega)⟩ dX4_takeNumber_25 (by decide) (fun c_32 => ?_) (fun c_32 => ?_)
    · refine lv_iload_n hx hb dX4_takeNumber_34 rfl (lv_at hl 1 rfl) ?_
      exact join_35 fs _ _ _ (by omega) hW hL (lv_sub hl [0, 1, 2, 3] rfl)
    · refine lv_iload_n hx hb dX4_takeNumber_28 rfl (lv_at hl 1 rfl) ?_
      refine lv_iconst (v := iv 1) hx hb dX4_takeNumber_29 (by decide) ?_
      refine r_iadd hx hb dX4_takeNumber_30 ?_
      refine lv_goto (tgt := 35) hx hb dX4_takeNumber_31 (by decide) ?_
      exact join_35 (fs + 1) _ _ _ (by omega) hW hL (lv_sub hl [0, 1, 2, 3] rfl)
  refine lv_aload_n hx hb dX4_takeNumber_5 rfl (lv_at hl 1 rfl) ?_
  refine g_X4_14 Cx hW (k := 189) (by decide) rfl (v := .ref (G.2.2.1 + 1)) hCR.1 dX4_takeNumber_6 ?_
  refine lv_iload_n hx hb dX4_takeNumber_9 rfl (lv_at hl 0 rfl) ?_
  have q_33 : 0 ≤ S.1 1 1 ∧ S.1 1 1 ≤ 30000 := hI.fi 1 1 10 (by decide) rfl
  refine sBi (sV (As := [.int (iv fs)]) (rest := []) (k := 1) Cx (s_X10_byteAt l G S (o := 1) (k := fs) (N := 30000) hI ⟨by decide, rfl, rfl, rfl, rfl, by decide⟩ (by omega)) (c_X4_43 Cx rfl rfl (rmk_ok (by omega) (by decide))) hW (by decide) rfl rfl rfl hl.1 rfl (Nat.le_of_ble_eq_true rfl) dX4_takeNumber_10 ⟨Nat.le_of_ble_eq_true rfl, Nat.le_of_ble_eq_true rfl⟩) hL (fun r_36 u_34 H locs k_35 hW hL => ?_)
  obtain ⟨eu_34, xu_34⟩ := k_35
  rw [eu_34] at hW
  refine lv_bipush (v := iv 45) hx hb dX4_takeNumber_13 (by decide) ?_
  refine r_icmp_ne (tgt := 22) hx hb ⟨(by omega), (by omega)⟩ ⟨(by omega), (by omega)⟩ dX4_takeNumber_15 (by decide) (fun c_37 => ?_) (fun c_37 => ?_)
  · refine lv_iconst (v := iv 0) hx hb dX4_takeNumber_22 (by decide) ?_
    exact join_23 0 _ _ _ (by omega) (by omega) hW hL (lv_sub hl [0, 1, 2] rfl)
  · refine lv_iconst (v := iv 1) hx hb dX4_takeNumber_18 (by decide) ?_
    refine lv_goto (tgt := 23) hx hb dX4_takeNumber_19 (by decide) ?_
    exact join_23 1 _ _ _ (by omega) (by omega) hW hL (lv_sub hl [0, 1, 2] rfl)

set_option maxRecDepth 100000 in
set_option maxHeartbeats 4000000 in
theorem b_X4_takeNumber_213 (l : Launch) (G : sG) (S : sS) {T : Int} {kp vp : Int → Int} (hI : cX G S 0 0 0) (hCR : CQ G T kp vp S) (hat : S.1 189 3 ≤ 999999999) (hkn : S.1 189 3 < T ∧ kp (S.1 189 3) = 2) : Met l yX4_takeNumber (.code yX4_takeNumber cX4_takeNumber 5 none :: tb) (rmk 3 0 0) (sPc G 294 S [.ref (G.2.2.1 + 189), .ref (G.2.2.1 + 213)]) (sQv G 294 (fun u => cX G u 0 0 0 ∧ Fr S u (pRg 213) ∧ (CQ G T kp vp u ∧ u.1 189 3 = S.1 189 3 + 1 ∧ u.1 213 1 ≤ 7 ∧ Hd (u.1 213 1 = 7 → u.2.1 214 6 ≤ 999999) ∧ Hd (bv u 213 = vp (S.1 189 3)) ∧ Hd (bs u 213)))) 0 0 (sF G) := by
  refine sEnter (by decide) (Nat.le_of_ble_eq_true rfl) ?_
  intro p e s m args below meth c Cx hr hlk hnm hW ls hl
  have Cx : sC G p m c cX4_takeNumber 5 s args RX4 := Cx
  obtain ⟨hx, hb, hml, hown, hts⟩ := id Cx.1
  have hL : sL G [] := sL_nil
  have hl : lv_has ls 5 [(0, .ref (G.2.2.1 + 189)), (1, .ref (G.2.2.1 + 213))] := hl
  have hW0 := hW
  have hl1 : 0 ≤ S.1 1 1 ∧ S.1 1 1 ≤ 30000 := hI.fi 1 1 10 (by decide) rfl
  have hat0 : 0 ≤ S.1 189 3 ∧ S.1 189 3 ≤ 1000000000 := hI.fi 189 3 4 (by decide) rfl
  refine lv_aload_n hx hb dX4_takeNumber_0 rfl (lv_at hl 0 rfl) ?_
  have q_1 : 0 ≤ S.1 189 3 ∧ S.1 189 3 ≤ 1000000000 := hI.fi 189 3 4 (by decide) rfl
  have q_2 : 0 ≤ S.1 189 2 ∧ S.1 189 2 ≤ 30001 := hI.fi 189 2 4 (by decide) rfl
  refine sBi (sV (As := []) (rest := []) (k := 189) Cx (s_X4_start l G S  hI) (c_X4_106 Cx rfl rfl (rmk_ok (by omega) (by decide))) hW (by decide) rfl rfl rfl hl.1 rfl (Nat.le_of_ble_eq_true rfl) dX4_takeNumber_1 ⟨Nat.le_of_ble_eq_true rfl, Nat.le_of_ble_eq_true rfl⟩) hL (fun fs u_3 H locs k_4 hW hL => ?_)
  obtain ⟨eu_3, xu_3⟩ := k_4
  rw [eu_3] at hW
  have hnv : NVc S fs (vp (S.1 189 3)) := by have hT := hCR.2.2.1; rw [xu_3.2.1 (by omega)]; exact (hCR.2.2.2 _ hat0.1 hkn.1).2 hkn.2
  refine lv_istore_n (lv' := [(2, .int (iv fs)), (0, .ref (G.2.2.1 + 189)), (1, .ref (G.2.2.1 + 213))]) hx hb dX4_takeNumber_4 rfl hl (by decide) rfl (fun ls hl => ?_)
  have join_23 : ∀ (bw : Int) (H : Heap) (locs : List Loc) (ls : Array Slot), (0 ≤ bw ∧ bw ≤ 1) → ((bw = 1 → bt S 1 fs = 45) ∧ (bw = 0 → bt S 1 fs ≠ 45)) → sW G 294 S H → sL G locs → lv_has ls 5 [(2, .int (iv fs)), (0, .ref (G.2.2.1 + 189)), (1, .ref (G.2.2.1 + 213))] → W p l e (rmk 3 0 0) s m args below meth c H locs 0 0 (MQ below (sQv G 294 (fun u => cX G u 0 0 0 ∧ Fr S u (pRg 213) ∧ (CQ G T kp vp u ∧ u.1 189 3 = S.1 189 3 + 1 ∧ u.1 213 1 ≤ 7 ∧ Hd (u.1 213 1 = 7 → u.2.1 214 6 ≤ 999999) ∧ Hd (bv u 213 = vp (S.1 189 3)) ∧ Hd (bs u 213)))) args s 0 0 (sF G)) (F0 m 23 ls [.int (iv bw)]) := by
    intro bw H locs ls hbw hb1 hW hL hl
    refine lv_istore_n (lv' := [(3, .int (iv bw)), (2, .int (iv fs)), (0, .ref (G.2.2.1 + 189)), (1, .ref (G.2.2.1 + 213))]) hx hb dX4_takeNumber_23 rfl hl (by decide) rfl (fun ls hl => ?_)
    have join_35 : ∀ (dg : Int) (H : Heap) (locs : List Loc) (ls : Array Slot), ((bw = 1 → dg = fs + 1) ∧ (bw = 0 → dg = fs)) → sW G 294 S H → sL G locs → lv_has ls 5 [(3, .int (iv bw)), (2, .int (iv fs)), (0, .ref (G.2.2.1 + 189)), (1, .ref (G.2.2.1 + 213))] → W p l e (rmk 3 0 0) s m args below meth c H locs 0 0 (MQ below (sQv G 294 (fun u => cX G u 0 0 0 ∧ Fr S u (pRg 213) ∧ (CQ G T kp vp u ∧ u.1 189 3 = S.1 189 3 + 1 ∧ u.1 213 1 ≤ 7 ∧ Hd (u.1 213 1 = 7 → u.2.1 214 6 ≤ 999999) ∧ Hd (bv u 213 = vp (S.1 189 3)) ∧ Hd (bs u 213)))) args s 0 0 (sF G)) (F0 m 35 ls [.int (iv dg)]) := by
      intro dg H locs ls hdg hW hL hl
      refine lv_istore (lv' := [(4, .int (iv dg)), (3, .int (iv bw)), (2, .int (iv fs)), (0, .ref (G.2.2.1 + 189)), (1, .ref (G.2.2.1 + 213))]) hx hb dX4_takeNumber_35 hl (by decide) rfl (fun ls hl => ?_)
      refine lv_aload_n hx hb dX4_takeNumber_37 rfl (lv_at hl 4 rfl) ?_
      refine lv_aload_n hx hb dX4_takeNumber_38 rfl (lv_at hl 3 rfl) ?_
      refine g_X4_14 Cx hW (k := 189) (by decide) rfl (v := .ref (G.2.2.1 + 1)) hCR.1 dX4_takeNumber_39 ?_
      refine lv_iload hx hb dX4_takeNumber_42 (lv_at hl 0 rfl) ?_
      refine lv_aload_n hx hb dX4_takeNumber_44 rfl (lv_at hl 3 rfl) ?_
      refine lv_iload hx hb dX4_takeNumber_45 (lv_at hl 0 rfl) ?_
      refine lv_aload_n hx hb dX4_takeNumber_47 rfl (lv_at hl 3 rfl) ?_
      refine g_X4_14 Cx hW (k := 189) (by decide) rfl (v := .ref (G.2.2.1 + 1)) hCR.1 dX4_takeNumber_48 ?_
      have q_5 : 0 ≤ S.1 1 1 ∧ S.1 1 1 ≤ 30000 := hI.fi 1 1 10 (by decide) rfl
      refine sBi (sV (As := []) (rest := [.int (iv dg), .ref (G.2.2.1 + 189), .int (iv dg), .ref (G.2.2.1 + 1), .ref (G.2.2.1 + 213)]) (k := 1) Cx (s_X10_length l G S (o := 1) (N := 30000) hI ⟨by decide, rfl, rfl, rfl, rfl, by decide⟩) (c_X4_28 Cx rfl rfl (rmk_ok (by omega) (by decide))) hW (by decide) rfl rfl rfl hl.1 rfl (Nat.le_of_ble_eq_true rfl) dX4_takeNumber_51 ⟨Nat.le_of_ble_eq_true rfl, Nat.le_of_ble_eq_true rfl⟩) hL (fun r_8 u_6 H locs k_7 hW hL => ?_)
      obtain ⟨eu_6, xu_6⟩ := k_7
      rw [eu_6] at hW
      refine sBi (sV (As := [.int (iv dg), .int (iv r_8)]) (rest := [.int (iv dg), .ref (G.2.2.1 + 1), .ref (G.2.2.1 + 213)]) (k := 189) Cx (s_X4_behindDigits l G S (f := dg) (ln := r_8) hI (by omega) (by omega) hCR.1) (c_X4_94 Cx rfl rfl (rmk_ok (by omega) (by decide))) hW (by decide) rfl rfl rfl hl.1 rfl (Nat.le_of_ble_eq_true rfl) dX4_takeNumber_54 ⟨Nat.le_of_ble_eq_true rfl, Nat.le_of_ble_eq_true rfl⟩) hL (fun be u_9 H locs k_10 hW hL => ?_)
      obtain ⟨eu_9, xu_9⟩ := k_10
      rw [eu_9] at hW
      have hDG : DG S fs := DG.st hCR.2.1 hat0.1 xu_3.2
      have hbe := hDG.be hbw hb1 hdg xu_9.2.1
      refine sBv (sV (As := [.ref (G.2.2.1 + 1), .int (iv dg), .int (iv be)]) (rest := []) (k := 213) Cx (b_X0_read_60 l G S (o := 213) (t := 1) (f := dg) (b := be) (N := 30000) hI rfl ⟨by decide, rfl, rfl, rfl, rfl, by decide⟩ (by omega) xu_9.2.1) (c_X4_109 Cx rfl rfl (rmk_ok (by omega) (by decide))) hW (by decide) rfl rfl rfl hl.1 rfl (Nat.le_of_ble_eq_true rfl) dX4_takeNumber_57 ⟨Nat.le_of_ble_eq_true rfl, Nat.le_of_ble_eq_true rfl⟩) hL (fun u_11 H locs k_12 hW hL => ?_)
      obtain ⟨iu_11, fu_11, xu_11⟩ := k_12
      have F_13 := (Fr.rf : Fr S S (pRg 213)).trans (fu_11.to (pB_sub rfl rfl))
      have F_14 := (Fr.rf : Fr S S (pB 213)).trans fu_11
      have bv_15 : bv u_11 213 = dvn (bt S 1) dg (be - dg).toNat := xu_11.2.2.2.1
      have join_68 : ∀ (S68 : sS)  (H : Heap) (locs : List Loc) (ls : Array Slot), (cX G S68 0 0 0) → (Fr S S68 (pRg 213)) → (Fr S S68 (pB 213)) → (Fr u_11 S68 (pB 213)) → (S68.1 213 1 ≤ 7) → (Hd (S68.1 213 1 = 7 → S68.2.1 214 6 ≤ 999999)) → (bv S68 213 = vp (S.1 189 3)) → (Hd (bs S68 213)) → sW G 294 S68 H → sL G locs → lv_has ls 5 [(4, .int (iv dg)), (3, .int (iv bw)), (2, .int (iv fs)), (0, .ref (G.2.2.1 + 189)), (1, .ref (G.2.2.1 + 213))] → W p l e (rmk 3 0 0) s m args below meth c H locs 0 0 (MQ below (sQv G 294 (fun u => cX G u 0 0 0 ∧ Fr S u (pRg 213) ∧ (CQ G T kp vp u ∧ u.1 189 3 = S.1 189 3 + 1 ∧ u.1 213 1 ≤ 7 ∧ Hd (u.1 213 1 = 7 → u.2.1 214 6 ≤ 999999) ∧ Hd (bv u 213 = vp (S.1 189 3)) ∧ Hd (bs u 213)))) args s 0 0 (sF G)) (F0 m 68 ls []) := by
        intro S68  H locs ls hI68 hFm68 hFc68 hL68_ hc7 h6 hbv8 hbs8 hW hL hl
        refine lv_aload_n hx hb dX4_takeNumber_68 rfl (lv_at hl 3 rfl) ?_
        refine lv_dup hx hb dX4_takeNumber_69 rfl ?_
        refine g_X4_40 Cx hW (k := 189) (by decide) rfl (v := S.1 189 3) (((hL68_ 189 rfl).1 3).trans ((fu_11 189 rfl).1 3)) dX4_takeNumber_70 ?_
        refine lv_iconst (v := iv 1) hx hb dX4_takeNumber_73 (by decide) ?_
        refine r_iadd hx hb dX4_takeNumber_74 ?_
        refine p_X4_40 Cx hW hL (k := 189) (by decide) rfl dX4_takeNumber_75 (fun H locs hW hL => ?_)
        have F_16 : Fr S (uF S68 189 3 ((S.1 189 3) + 1)) (pRg 213) := hFm68.F rfl
        have i_17 : cX G (uF S68 189 3 ((S.1 189 3) + 1)) 0 0 0 := hI68.F rfl rfl (show 0 ≤ (S.1 189 3) + 1 ∧ (S.1 189 3) + 1 ≤ 1000000000 from ⟨by omega, by omega⟩)
        have lk_18 : (uF S68 189 3 ((S.1 189 3) + 1)).1 189 3 = (S.1 189 3) + 1 := uF_on
        have q_19 : 0 ≤ S68.1 213 1 ∧ S68.1 213 1 ≤ 32 := hI68.fi 213 1 0 (by decide) rfl
        have lk_20 : (uF S68 189 3 ((S.1 189 3) + 1)).1 213 1 = S68.1 213 1 := uF_ne (fun h => absurd h.2 (by decide))
        exact sVret Cx hr hlk hW hL ⟨i_17, F_16, ⟨(hCR.fr hFc68 rfl rfl rfl rfl).F (by decide), (by omega), (by omega), (fun q => h6 (by rw [uF_ne (by decide)] at q; exact q)), (bv_F (by decide)).trans hbv8, bs_F (by decide) hbs8⟩⟩ dX4_takeNumber_78
      refine lv_iload_n hx hb dX4_takeNumber_60 rfl (lv_at hl 1 rfl) ?_
      refine r_if_eq (tgt := 68) hx hb ⟨(by omega), (by omega)⟩ dX4_takeNumber_61 (by decide) (fun c_21 => ?_) (fun c_21 => ?_)
      · have q_22 : 0 ≤ u_11.1 213 1 ∧ u_11.1 213 1 ≤ 32 := iu_11.fi 213 1 0 (by decide) rfl
        exact join_68 u_11  _ _ _ iu_11 F_13 F_14 (Fr.rf : Fr u_11 u_11 (pB 213)) (by omega) (fun q => by exact xu_11.2.1 (by omega)) (((show bv u_11 213 = dvn (bt S 1) dg (be - dg).toNat from bv_15)).trans (hnv.p (hb1.2 (by omega)) (hdg.2 (by omega)) (by omega) xu_9.2.1 xu_9.2.2).1) (show Hd (bs u_11 213) from xu_11.2.2.2.2) hW hL (lv_sub hl [0, 1, 2, 3, 4] rfl)
      · refine lv_aload_n hx hb dX4_takeNumber_64 rfl (lv_at hl 4 rfl) ?_
        have q_23 : 0 ≤ u_11.1 213 1 ∧ u_11.1 213 1 ≤ 32 := iu_11.fi 213 1 0 (by decide) rfl
        have q_24 : (-1) ≤ u_11.1 213 2 ∧ u_11.1 213 2 ≤ 1 := iu_11.fi 213 2 0 (by decide) rfl
        refine sBv (sV (As := []) (rest := []) (k := 213) Cx (s_X0_turn l G u_11 (o := 213) iu_11 rfl) (c_X4_115 Cx rfl rfl (rmk_ok (by omega) (by decide))) hW (by decide) rfl rfl rfl hl.1 rfl (Nat.le_of_ble_eq_true rfl) dX4_takeNumber_65 ⟨Nat.le_of_ble_eq_true rfl, Nat.le_of_ble_eq_true rfl⟩) hL (fun u_25 H locs k_26 hW hL => ?_)
        obtain ⟨iu_25, fu_25, xu_25⟩ := k_26
        have F_27 := F_13.trans (fu_25.to (pB_sub rfl rfl))
        have F_28 := F_14.trans fu_25
        have F_29 := (Fr.rf : Fr u_11 u_11 (pB 213)).trans fu_25
        have bv_30 : bv u_25 213 = -(dvn (bt S 1) dg (be - dg).toNat) := (tn_bv xu_25.1 xu_25.2.1 xu_25.2.2).trans (congrArg _ ((show bv u_11 213 = dvn (bt S 1) dg (be - dg).toNat from bv_15)))
        have q_31 : 0 ≤ u_25.1 213 1 ∧ u_25.1 213 1 ≤ 32 := iu_25.fi 213 1 0 (by decide) rfl
        exact join_68 u_25  _ _ _ iu_25 F_27 F_28 F_29 (by omega) (fun q => by rw [xu_25.2.2]; exact xu_11.2.1 (by omega)) (((show bv u_25 213 = -(dvn (bt S 1) dg (be - dg).toNat) from bv_30)).trans (hnv.n (hb1.1 (by omega)) (hdg.1 (by omega)) (by omega) xu_9.2.1 xu_9.2.2).1) (show Hd (bs u_25 213) from (tn_bs xu_25.1 xu_25.2.1 (show Hd (bs u_11 213) from xu_11.2.2.2.2))) hW hL (lv_sub hl [0, 1, 2, 3, 4] rfl)
    refine lv_iload_n hx hb dX4_takeNumber_24 rfl (lv_at hl 0 rfl) ?_
    refine r_if_eq (tgt := 34) hx hb ⟨(by omega), (by omega)⟩ dX4_takeNumber_25 (by decide) (fun c_32 => ?_) (fun c_32 => ?_)
    · refine lv_iload_n hx hb dX4_takeNumber_34 rfl (lv_at hl 1 rfl) ?_
      exact join_35 fs _ _ _ (by omega) hW hL (lv_sub hl [0, 1, 2, 3] rfl)
    · refine lv_iload_n hx hb dX4_takeNumber_28 rfl (lv_at hl 1 rfl) ?_
      refine lv_iconst (v := iv 1) hx hb dX4_takeNumber_29 (by decide) ?_
      refine r_iadd hx hb dX4_takeNumber_30 ?_
      refine lv_goto (tgt := 35) hx hb dX4_takeNumber_31 (by decide) ?_
      exact join_35 (fs + 1) _ _ _ (by omega) hW hL (lv_sub hl [0, 1, 2, 3] rfl)
  refine lv_aload_n hx hb dX4_takeNumber_5 rfl (lv_at hl 1 rfl) ?_
  refine g_X4_14 Cx hW (k := 189) (by decide) rfl (v := .ref (G.2.2.1 + 1)) hCR.1 dX4_takeNumber_6 ?_
  refine lv_iload_n hx hb dX4_takeNumber_9 rfl (lv_at hl 0 rfl) ?_
  have q_33 : 0 ≤ S.1 1 1 ∧ S.1 1 1 ≤ 30000 := hI.fi 1 1 10 (by decide) rfl
  refine sBi (sV (As := [.int (iv fs)]) (rest := []) (k := 1) Cx (s_X10_byteAt l G S (o := 1) (k := fs) (N := 30000) hI ⟨by decide, rfl, rfl, rfl, rfl, by decide⟩ (by omega)) (c_X4_43 Cx rfl rfl (rmk_ok (by omega) (by decide))) hW (by decide) rfl rfl rfl hl.1 rfl (Nat.le_of_ble_eq_true rfl) dX4_takeNumber_10 ⟨Nat.le_of_ble_eq_true rfl, Nat.le_of_ble_eq_true rfl⟩) hL (fun r_36 u_34 H locs k_35 hW hL => ?_)
  obtain ⟨eu_34, xu_34⟩ := k_35
  rw [eu_34] at hW
  refine lv_bipush (v := iv 45) hx hb dX4_takeNumber_13 (by decide) ?_
  refine r_icmp_ne (tgt := 22) hx hb ⟨(by omega), (by omega)⟩ ⟨(by omega), (by omega)⟩ dX4_takeNumber_15 (by decide) (fun c_37 => ?_) (fun c_37 => ?_)
  · refine lv_iconst (v := iv 0) hx hb dX4_takeNumber_22 (by decide) ?_
    exact join_23 0 _ _ _ (by omega) (by omega) hW hL (lv_sub hl [0, 1, 2] rfl)
  · refine lv_iconst (v := iv 1) hx hb dX4_takeNumber_18 (by decide) ?_
    refine lv_goto (tgt := 23) hx hb dX4_takeNumber_19 (by decide) ?_
    exact join_23 1 _ _ _ (by omega) (by omega) hW hL (lv_sub hl [0, 1, 2] rfl)

set_option maxRecDepth 100000 in
set_option maxHeartbeats 4000000 in
theorem b_X4_takeNumber_219 (l : Launch) (G : sG) (S : sS) {T : Int} {kp vp : Int → Int} (hI : cX G S 0 0 0) (hCR : CQ G T kp vp S) (hat : S.1 189 3 ≤ 999999999) (hkn : S.1 189 3 < T ∧ kp (S.1 189 3) = 2) : Met l yX4_takeNumber (.code yX4_takeNumber cX4_takeNumber 5 none :: tb) (rmk 3 0 0) (sPc G 294 S [.ref (G.2.2.1 + 189), .ref (G.2.2.1 + 219)]) (sQv G 294 (fun u => cX G u 0 0 0 ∧ Fr S u (pRg 219) ∧ (CQ G T kp vp u ∧ u.1 189 3 = S.1 189 3 + 1 ∧ u.1 219 1 ≤ 7 ∧ Hd (u.1 219 1 = 7 → u.2.1 220 6 ≤ 999999) ∧ Hd (bv u 219 = vp (S.1 189 3)) ∧ Hd (bs u 219)))) 0 0 (sF G) := by
  refine sEnter (by decide) (Nat.le_of_ble_eq_true rfl) ?_
  intro p e s m args below meth c Cx hr hlk hnm hW ls hl
  have Cx : sC G p m c cX4_takeNumber 5 s args RX4 := Cx
  obtain ⟨hx, hb, hml, hown, hts⟩ := id Cx.1
  have hL : sL G [] := sL_nil
  have hl : lv_has ls 5 [(0, .ref (G.2.2.1 + 189)), (1, .ref (G.2.2.1 + 219))] := hl
  have hW0 := hW
  have hl1 : 0 ≤ S.1 1 1 ∧ S.1 1 1 ≤ 30000 := hI.fi 1 1 10 (by decide) rfl
  have hat0 : 0 ≤ S.1 189 3 ∧ S.1 189 3 ≤ 1000000000 := hI.fi 189 3 4 (by decide) rfl
  refine lv_aload_n hx hb dX4_takeNumber_0 rfl (lv_at hl 0 rfl) ?_
  have q_1 : 0 ≤ S.1 189 3 ∧ S.1 189 3 ≤ 1000000000 := hI.fi 189 3 4 (by decide) rfl
  have q_2 : 0 ≤ S.1 189 2 ∧ S.1 189 2 ≤ 30001 := hI.fi 189 2 4 (by decide) rfl
  refine sBi (sV (As := []) (rest := []) (k := 189) Cx (s_X4_start l G S  hI) (c_X4_106 Cx rfl rfl (rmk_ok (by omega) (by decide))) hW (by decide) rfl rfl rfl hl.1 rfl (Nat.le_of_ble_eq_true rfl) dX4_takeNumber_1 ⟨Nat.le_of_ble_eq_true rfl, Nat.le_of_ble_eq_true rfl⟩) hL (fun fs u_3 H locs k_4 hW hL => ?_)
  obtain ⟨eu_3, xu_3⟩ := k_4
  rw [eu_3] at hW
  have hnv : NVc S fs (vp (S.1 189 3)) := by have hT := hCR.2.2.1; rw [xu_3.2.1 (by omega)]; exact (hCR.2.2.2 _ hat0.1 hkn.1).2 hkn.2
  refine lv_istore_n (lv' := [(2, .int (iv fs)), (0, .ref (G.2.2.1 + 189)), (1, .ref (G.2.2.1 + 219))]) hx hb dX4_takeNumber_4 rfl hl (by decide) rfl (fun ls hl => ?_)
  have join_23 : ∀ (bw : Int) (H : Heap) (locs : List Loc) (ls : Array Slot), (0 ≤ bw ∧ bw ≤ 1) → ((bw = 1 → bt S 1 fs = 45) ∧ (bw = 0 → bt S 1 fs ≠ 45)) → sW G 294 S H → sL G locs → lv_has ls 5 [(2, .int (iv fs)), (0, .ref (G.2.2.1 + 189)), (1, .ref (G.2.2.1 + 219))] → W p l e (rmk 3 0 0) s m args below meth c H locs 0 0 (MQ below (sQv G 294 (fun u => cX G u 0 0 0 ∧ Fr S u (pRg 219) ∧ (CQ G T kp vp u ∧ u.1 189 3 = S.1 189 3 + 1 ∧ u.1 219 1 ≤ 7 ∧ Hd (u.1 219 1 = 7 → u.2.1 220 6 ≤ 999999) ∧ Hd (bv u 219 = vp (S.1 189 3)) ∧ Hd (bs u 219)))) args s 0 0 (sF G)) (F0 m 23 ls [.int (iv bw)]) := by
    intro bw H locs ls hbw hb1 hW hL hl
    refine lv_istore_n (lv' := [(3, .int (iv bw)), (2, .int (iv fs)), (0, .ref (G.2.2.1 + 189)), (1, .ref (G.2.2.1 + 219))]) hx hb dX4_takeNumber_23 rfl hl (by decide) rfl (fun ls hl => ?_)
    have join_35 : ∀ (dg : Int) (H : Heap) (locs : List Loc) (ls : Array Slot), ((bw = 1 → dg = fs + 1) ∧ (bw = 0 → dg = fs)) → sW G 294 S H → sL G locs → lv_has ls 5 [(3, .int (iv bw)), (2, .int (iv fs)), (0, .ref (G.2.2.1 + 189)), (1, .ref (G.2.2.1 + 219))] → W p l e (rmk 3 0 0) s m args below meth c H locs 0 0 (MQ below (sQv G 294 (fun u => cX G u 0 0 0 ∧ Fr S u (pRg 219) ∧ (CQ G T kp vp u ∧ u.1 189 3 = S.1 189 3 + 1 ∧ u.1 219 1 ≤ 7 ∧ Hd (u.1 219 1 = 7 → u.2.1 220 6 ≤ 999999) ∧ Hd (bv u 219 = vp (S.1 189 3)) ∧ Hd (bs u 219)))) args s 0 0 (sF G)) (F0 m 35 ls [.int (iv dg)]) := by
      intro dg H locs ls hdg hW hL hl
      refine lv_istore (lv' := [(4, .int (iv dg)), (3, .int (iv bw)), (2, .int (iv fs)), (0, .ref (G.2.2.1 + 189)), (1, .ref (G.2.2.1 + 219))]) hx hb dX4_takeNumber_35 hl (by decide) rfl (fun ls hl => ?_)
      refine lv_aload_n hx hb dX4_takeNumber_37 rfl (lv_at hl 4 rfl) ?_
      refine lv_aload_n hx hb dX4_takeNumber_38 rfl (lv_at hl 3 rfl) ?_
      refine g_X4_14 Cx hW (k := 189) (by decide) rfl (v := .ref (G.2.2.1 + 1)) hCR.1 dX4_takeNumber_39 ?_
      refine lv_iload hx hb dX4_takeNumber_42 (lv_at hl 0 rfl) ?_
      refine lv_aload_n hx hb dX4_takeNumber_44 rfl (lv_at hl 3 rfl) ?_
      refine lv_iload hx hb dX4_takeNumber_45 (lv_at hl 0 rfl) ?_
      refine lv_aload_n hx hb dX4_takeNumber_47 rfl (lv_at hl 3 rfl) ?_
      refine g_X4_14 Cx hW (k := 189) (by decide) rfl (v := .ref (G.2.2.1 + 1)) hCR.1 dX4_takeNumber_48 ?_
      have q_5 : 0 ≤ S.1 1 1 ∧ S.1 1 1 ≤ 30000 := hI.fi 1 1 10 (by decide) rfl
      refine sBi (sV (As := []) (rest := [.int (iv dg), .ref (G.2.2.1 + 189), .int (iv dg), .ref (G.2.2.1 + 1), .ref (G.2.2.1 + 219)]) (k := 1) Cx (s_X10_length l G S (o := 1) (N := 30000) hI ⟨by decide, rfl, rfl, rfl, rfl, by decide⟩) (c_X4_28 Cx rfl rfl (rmk_ok (by omega) (by decide))) hW (by decide) rfl rfl rfl hl.1 rfl (Nat.le_of_ble_eq_true rfl) dX4_takeNumber_51 ⟨Nat.le_of_ble_eq_true rfl, Nat.le_of_ble_eq_true rfl⟩) hL (fun r_8 u_6 H locs k_7 hW hL => ?_)
      obtain ⟨eu_6, xu_6⟩ := k_7
      rw [eu_6] at hW
      refine sBi (sV (As := [.int (iv dg), .int (iv r_8)]) (rest := [.int (iv dg), .ref (G.2.2.1 + 1), .ref (G.2.2.1 + 219)]) (k := 189) Cx (s_X4_behindDigits l G S (f := dg) (ln := r_8) hI (by omega) (by omega) hCR.1) (c_X4_94 Cx rfl rfl (rmk_ok (by omega) (by decide))) hW (by decide) rfl rfl rfl hl.1 rfl (Nat.le_of_ble_eq_true rfl) dX4_takeNumber_54 ⟨Nat.le_of_ble_eq_true rfl, Nat.le_of_ble_eq_true rfl⟩) hL (fun be u_9 H locs k_10 hW hL => ?_)
      obtain ⟨eu_9, xu_9⟩ := k_10
      rw [eu_9] at hW
      have hDG : DG S fs := DG.st hCR.2.1 hat0.1 xu_3.2
      have hbe := hDG.be hbw hb1 hdg xu_9.2.1
      refine sBv (sV (As := [.ref (G.2.2.1 + 1), .int (iv dg), .int (iv be)]) (rest := []) (k := 219) Cx (b_X0_read_60 l G S (o := 219) (t := 1) (f := dg) (b := be) (N := 30000) hI rfl ⟨by decide, rfl, rfl, rfl, rfl, by decide⟩ (by omega) xu_9.2.1) (c_X4_109 Cx rfl rfl (rmk_ok (by omega) (by decide))) hW (by decide) rfl rfl rfl hl.1 rfl (Nat.le_of_ble_eq_true rfl) dX4_takeNumber_57 ⟨Nat.le_of_ble_eq_true rfl, Nat.le_of_ble_eq_true rfl⟩) hL (fun u_11 H locs k_12 hW hL => ?_)
      obtain ⟨iu_11, fu_11, xu_11⟩ := k_12
      have F_13 := (Fr.rf : Fr S S (pRg 219)).trans (fu_11.to (pB_sub rfl rfl))
      have F_14 := (Fr.rf : Fr S S (pB 219)).trans fu_11
      have bv_15 : bv u_11 219 = dvn (bt S 1) dg (be - dg).toNat := xu_11.2.2.2.1
      have join_68 : ∀ (S68 : sS)  (H : Heap) (locs : List Loc) (ls : Array Slot), (cX G S68 0 0 0) → (Fr S S68 (pRg 219)) → (Fr S S68 (pB 219)) → (Fr u_11 S68 (pB 219)) → (S68.1 219 1 ≤ 7) → (Hd (S68.1 219 1 = 7 → S68.2.1 220 6 ≤ 999999)) → (bv S68 219 = vp (S.1 189 3)) → (Hd (bs S68 219)) → sW G 294 S68 H → sL G locs → lv_has ls 5 [(4, .int (iv dg)), (3, .int (iv bw)), (2, .int (iv fs)), (0, .ref (G.2.2.1 + 189)), (1, .ref (G.2.2.1 + 219))] → W p l e (rmk 3 0 0) s m args below meth c H locs 0 0 (MQ below (sQv G 294 (fun u => cX G u 0 0 0 ∧ Fr S u (pRg 219) ∧ (CQ G T kp vp u ∧ u.1 189 3 = S.1 189 3 + 1 ∧ u.1 219 1 ≤ 7 ∧ Hd (u.1 219 1 = 7 → u.2.1 220 6 ≤ 999999) ∧ Hd (bv u 219 = vp (S.1 189 3)) ∧ Hd (bs u 219)))) args s 0 0 (sF G)) (F0 m 68 ls []) := by
        intro S68  H locs ls hI68 hFm68 hFc68 hL68_ hc7 h6 hbv8 hbs8 hW hL hl
        refine lv_aload_n hx hb dX4_takeNumber_68 rfl (lv_at hl 3 rfl) ?_
        refine lv_dup hx hb dX4_takeNumber_69 rfl ?_
        refine g_X4_40 Cx hW (k := 189) (by decide) rfl (v := S.1 189 3) (((hL68_ 189 rfl).1 3).trans ((fu_11 189 rfl).1 3)) dX4_takeNumber_70 ?_
        refine lv_iconst (v := iv 1) hx hb dX4_takeNumber_73 (by decide) ?_
        refine r_iadd hx hb dX4_takeNumber_74 ?_
        refine p_X4_40 Cx hW hL (k := 189) (by decide) rfl dX4_takeNumber_75 (fun H locs hW hL => ?_)
        have F_16 : Fr S (uF S68 189 3 ((S.1 189 3) + 1)) (pRg 219) := hFm68.F rfl
        have i_17 : cX G (uF S68 189 3 ((S.1 189 3) + 1)) 0 0 0 := hI68.F rfl rfl (show 0 ≤ (S.1 189 3) + 1 ∧ (S.1 189 3) + 1 ≤ 1000000000 from ⟨by omega, by omega⟩)
        have lk_18 : (uF S68 189 3 ((S.1 189 3) + 1)).1 189 3 = (S.1 189 3) + 1 := uF_on
        have q_19 : 0 ≤ S68.1 219 1 ∧ S68.1 219 1 ≤ 32 := hI68.fi 219 1 0 (by decide) rfl
        have lk_20 : (uF S68 189 3 ((S.1 189 3) + 1)).1 219 1 = S68.1 219 1 := uF_ne (fun h => absurd h.2 (by decide))
        exact sVret Cx hr hlk hW hL ⟨i_17, F_16, ⟨(hCR.fr hFc68 rfl rfl rfl rfl).F (by decide), (by omega), (by omega), (fun q => h6 (by rw [uF_ne (by decide)] at q; exact q)), (bv_F (by decide)).trans hbv8, bs_F (by decide) hbs8⟩⟩ dX4_takeNumber_78
      refine lv_iload_n hx hb dX4_takeNumber_60 rfl (lv_at hl 1 rfl) ?_
      refine r_if_eq (tgt := 68) hx hb ⟨(by omega), (by omega)⟩ dX4_takeNumber_61 (by decide) (fun c_21 => ?_) (fun c_21 => ?_)
      · have q_22 : 0 ≤ u_11.1 219 1 ∧ u_11.1 219 1 ≤ 32 := iu_11.fi 219 1 0 (by decide) rfl
        exact join_68 u_11  _ _ _ iu_11 F_13 F_14 (Fr.rf : Fr u_11 u_11 (pB 219)) (by omega) (fun q => by exact xu_11.2.1 (by omega)) (((show bv u_11 219 = dvn (bt S 1) dg (be - dg).toNat from bv_15)).trans (hnv.p (hb1.2 (by omega)) (hdg.2 (by omega)) (by omega) xu_9.2.1 xu_9.2.2).1) (show Hd (bs u_11 219) from xu_11.2.2.2.2) hW hL (lv_sub hl [0, 1, 2, 3, 4] rfl)
      · refine lv_aload_n hx hb dX4_takeNumber_64 rfl (lv_at hl 4 rfl) ?_
        have q_23 : 0 ≤ u_11.1 219 1 ∧ u_11.1 219 1 ≤ 32 := iu_11.fi 219 1 0 (by decide) rfl
        have q_24 : (-1) ≤ u_11.1 219 2 ∧ u_11.1 219 2 ≤ 1 := iu_11.fi 219 2 0 (by decide) rfl
        refine sBv (sV (As := []) (rest := []) (k := 219) Cx (s_X0_turn l G u_11 (o := 219) iu_11 rfl) (c_X4_115 Cx rfl rfl (rmk_ok (by omega) (by decide))) hW (by decide) rfl rfl rfl hl.1 rfl (Nat.le_of_ble_eq_true rfl) dX4_takeNumber_65 ⟨Nat.le_of_ble_eq_true rfl, Nat.le_of_ble_eq_true rfl⟩) hL (fun u_25 H locs k_26 hW hL => ?_)
        obtain ⟨iu_25, fu_25, xu_25⟩ := k_26
        have F_27 := F_13.trans (fu_25.to (pB_sub rfl rfl))
        have F_28 := F_14.trans fu_25
        have F_29 := (Fr.rf : Fr u_11 u_11 (pB 219)).trans fu_25
        have bv_30 : bv u_25 219 = -(dvn (bt S 1) dg (be - dg).toNat) := (tn_bv xu_25.1 xu_25.2.1 xu_25.2.2).trans (congrArg _ ((show bv u_11 219 = dvn (bt S 1) dg (be - dg).toNat from bv_15)))
        have q_31 : 0 ≤ u_25.1 219 1 ∧ u_25.1 219 1 ≤ 32 := iu_25.fi 219 1 0 (by decide) rfl
        exact join_68 u_25  _ _ _ iu_25 F_27 F_28 F_29 (by omega) (fun q => by rw [xu_25.2.2]; exact xu_11.2.1 (by omega)) (((show bv u_25 219 = -(dvn (bt S 1) dg (be - dg).toNat) from bv_30)).trans (hnv.n (hb1.1 (by omega)) (hdg.1 (by omega)) (by omega) xu_9.2.1 xu_9.2.2).1) (show Hd (bs u_25 219) from (tn_bs xu_25.1 xu_25.2.1 (show Hd (bs u_11 219) from xu_11.2.2.2.2))) hW hL (lv_sub hl [0, 1, 2, 3, 4] rfl)
    refine lv_iload_n hx hb dX4_takeNumber_24 rfl (lv_at hl 0 rfl) ?_
    refine r_if_eq (tgt := 34) hx hb ⟨(by omega), (by omega)⟩ dX4_takeNumber_25 (by decide) (fun c_32 => ?_) (fun c_32 => ?_)
    · refine lv_iload_n hx hb dX4_takeNumber_34 rfl (lv_at hl 1 rfl) ?_
      exact join_35 fs _ _ _ (by omega) hW hL (lv_sub hl [0, 1, 2, 3] rfl)
    · refine lv_iload_n hx hb dX4_takeNumber_28 rfl (lv_at hl 1 rfl) ?_
      refine lv_iconst (v := iv 1) hx hb dX4_takeNumber_29 (by decide) ?_
      refine r_iadd hx hb dX4_takeNumber_30 ?_
      refine lv_goto (tgt := 35) hx hb dX4_takeNumber_31 (by decide) ?_
      exact join_35 (fs + 1) _ _ _ (by omega) hW hL (lv_sub hl [0, 1, 2, 3] rfl)
  refine lv_aload_n hx hb dX4_takeNumber_5 rfl (lv_at hl 1 rfl) ?_
  refine g_X4_14 Cx hW (k := 189) (by decide) rfl (v := .ref (G.2.2.1 + 1)) hCR.1 dX4_takeNumber_6 ?_
  refine lv_iload_n hx hb dX4_takeNumber_9 rfl (lv_at hl 0 rfl) ?_
  have q_33 : 0 ≤ S.1 1 1 ∧ S.1 1 1 ≤ 30000 := hI.fi 1 1 10 (by decide) rfl
  refine sBi (sV (As := [.int (iv fs)]) (rest := []) (k := 1) Cx (s_X10_byteAt l G S (o := 1) (k := fs) (N := 30000) hI ⟨by decide, rfl, rfl, rfl, rfl, by decide⟩ (by omega)) (c_X4_43 Cx rfl rfl (rmk_ok (by omega) (by decide))) hW (by decide) rfl rfl rfl hl.1 rfl (Nat.le_of_ble_eq_true rfl) dX4_takeNumber_10 ⟨Nat.le_of_ble_eq_true rfl, Nat.le_of_ble_eq_true rfl⟩) hL (fun r_36 u_34 H locs k_35 hW hL => ?_)
  obtain ⟨eu_34, xu_34⟩ := k_35
  rw [eu_34] at hW
  refine lv_bipush (v := iv 45) hx hb dX4_takeNumber_13 (by decide) ?_
  refine r_icmp_ne (tgt := 22) hx hb ⟨(by omega), (by omega)⟩ ⟨(by omega), (by omega)⟩ dX4_takeNumber_15 (by decide) (fun c_37 => ?_) (fun c_37 => ?_)
  · refine lv_iconst (v := iv 0) hx hb dX4_takeNumber_22 (by decide) ?_
    exact join_23 0 _ _ _ (by omega) (by omega) hW hL (lv_sub hl [0, 1, 2] rfl)
  · refine lv_iconst (v := iv 1) hx hb dX4_takeNumber_18 (by decide) ?_
    refine lv_goto (tgt := 23) hx hb dX4_takeNumber_19 (by decide) ?_
    exact join_23 1 _ _ _ (by omega) (by omega) hW hL (lv_sub hl [0, 1, 2] rfl)

set_option maxRecDepth 100000 in
set_option maxHeartbeats 4000000 in
theorem b_X4_takeCount (l : Launch) (G : sG) (S : sS) {T : Int} {kp vp : Int → Int} (hI : cX G S 0 0 0) (hCR : CQ G T kp vp S) (hat : S.1 189 3 ≤ 999999999) (hkn : S.1 189 3 < T ∧ kp (S.1 189 3) = 2) : Met l yX4_takeCount (.code yX4_takeCount cX4_takeCount 5 (some .int) :: tb) (rmk 3 0 0) (sPc G 294 S [.ref (G.2.2.1 + 189)]) (sQi G 294 (fun r u => cX G u 0 0 0 ∧ Fr S u (p1 189) ∧ (CQ G T kp vp u ∧ u.1 189 3 = S.1 189 3 + 1 ∧ -1 ≤ r ∧ r ≤ 1000000 ∧ Hd ((0 ≤ vp (S.1 189 3) → vp (S.1 189 3) ≤ 1000000 → r = vp (S.1 189 3)) ∧ (vp (S.1 189 3) < 0 ∨ 1000000 < vp (S.1 189 3) → r = -1))))) 0 0 (sF G) := by
  refine sEnter (by decide) (Nat.le_of_ble_eq_true rfl) ?_
  intro p e s m args below meth c Cx hr hlk hnm hW ls hl
  have Cx : sC G p m c cX4_takeCount 5 s args RX4 := Cx
  obtain ⟨hx, hb, hml, hown, hts⟩ := id Cx.1
  have hL : sL G [] := sL_nil
  have hl : lv_has ls 5 [(0, .ref (G.2.2.1 + 189))] := hl
  have hW0 := hW
  have hl1 : 0 ≤ S.1 1 1 ∧ S.1 1 1 ≤ 30000 := hI.fi 1 1 10 (by decide) rfl
  have hat0 : 0 ≤ S.1 189 3 ∧ S.1 189 3 ≤ 1000000000 := hI.fi 189 3 4 (by decide) rfl
  refine lv_aload_n hx hb dX4_takeCount_0 rfl (lv_at hl 0 rfl) ?_
  have q_1 : 0 ≤ S.1 189 3 ∧ S.1 189 3 ≤ 1000000000 := hI.fi 189 3 4 (by decide) rfl
  have q_2 : 0 ≤ S.1 189 2 ∧ S.1 189 2 ≤ 30001 := hI.fi 189 2 4 (by decide) rfl
  refine sBi (sV (As := []) (rest := []) (k := 189) Cx (s_X4_start l G S  hI) (c_X4_106 Cx rfl rfl (rmk_ok (by omega) (by decide))) hW (by decide) rfl rfl rfl hl.1 rfl (Nat.le_of_ble_eq_true rfl) dX4_takeCount_1 ⟨Nat.le_of_ble_eq_true rfl, Nat.le_of_ble_eq_true rfl⟩) hL (fun fs u_3 H locs k_4 hW hL => ?_)
  obtain ⟨eu_3, xu_3⟩ := k_4
  rw [eu_3] at hW
  have hnv : NVc S fs (vp (S.1 189 3)) := by have hT := hCR.2.2.1; rw [xu_3.2.1 (by omega)]; exact (hCR.2.2.2 _ hat0.1 hkn.1).2 hkn.2
  refine lv_istore_n (lv' := [(1, .int (iv fs)), (0, .ref (G.2.2.1 + 189))]) hx hb dX4_takeCount_4 rfl hl (by decide) rfl (fun ls hl => ?_)
  refine lv_aload_n hx hb dX4_takeCount_5 rfl (lv_at hl 1 rfl) ?_
  refine lv_iload_n hx hb dX4_takeCount_6 rfl (lv_at hl 0 rfl) ?_
  refine lv_aload_n hx hb dX4_takeCount_7 rfl (lv_at hl 1 rfl) ?_
  refine g_X4_14 Cx hW (k := 189) (by decide) rfl (v := .ref (G.2.2.1 + 1)) hCR.1 dX4_takeCount_8 ?_
  have q_5 : 0 ≤ S.1 1 1 ∧ S.1 1 1 ≤ 30000 := hI.fi 1 1 10 (by decide) rfl
  refine sBi (sV (As := []) (rest := [.int (iv fs), .ref (G.2.2.1 + 189)]) (k := 1) Cx (s_X10_length l G S (o := 1) (N := 30000) hI ⟨by decide, rfl, rfl, rfl, rfl, by decide⟩) (c_X4_28 Cx rfl rfl (rmk_ok (by omega) (by decide))) hW (by decide) rfl rfl rfl hl.1 rfl (Nat.le_of_ble_eq_true rfl) dX4_takeCount_11 ⟨Nat.le_of_ble_eq_true rfl, Nat.le_of_ble_eq_true rfl⟩) hL (fun r_8 u_6 H locs k_7 hW hL => ?_)
  obtain ⟨eu_6, xu_6⟩ := k_7
  rw [eu_6] at hW
  refine sBi (sV (As := [.int (iv fs), .int (iv r_8)]) (rest := []) (k := 189) Cx (s_X4_behindDigits l G S (f := fs) (ln := r_8) hI (by omega) (by omega) hCR.1) (c_X4_94 Cx rfl rfl (rmk_ok (by omega) (by decide))) hW (by decide) rfl rfl rfl hl.1 rfl (Nat.le_of_ble_eq_true rfl) dX4_takeCount_14 ⟨Nat.le_of_ble_eq_true rfl, Nat.le_of_ble_eq_true rfl⟩) hL (fun be u_9 H locs k_10 hW hL => ?_)
  obtain ⟨eu_9, xu_9⟩ := k_10
  rw [eu_9] at hW
  have hcase : (be = fs ∧ vp (S.1 189 3) < 0) ∨ (fs < be ∧ dvn (bt S 1) fs (be - fs).toNat = vp (S.1 189 3)) := by by_cases q : bt S 1 fs = 45; (refine .inl ⟨?_, ?_⟩; (rcases (by omega : be = fs ∨ fs < be) with y | y; (exact y); (have z := xu_9.2.1 fs (by omega) y; unfold dgt at z; omega)); (obtain ⟨e, _, _, _, _, e5⟩ := hnv.1 q; exact e5)); (have z := hnv.p q rfl (by omega) xu_9.2.1 xu_9.2.2; exact .inr ⟨z.2, z.1⟩)
  have hcase : Hd _ := hcase
  have hcl : be ≤ fs → vp (S.1 189 3) < 0 := fun q => by rcases hcase with z | z <;> omega
  refine lv_istore_n (lv' := [(2, .int (iv be)), (1, .int (iv fs)), (0, .ref (G.2.2.1 + 189))]) hx hb dX4_takeCount_17 rfl hl (by decide) rfl (fun ls hl => ?_)
  have join_28 : ∀ (v0 : Int) (H : Heap) (locs : List Loc) (ls : Array Slot), (-1 ≤ v0 ∧ v0 ≤ 0) → ((fs < be → v0 = 0) ∧ (be ≤ fs → v0 = -1)) → sW G 294 S H → sL G locs → lv_has ls 5 [(2, .int (iv be)), (1, .int (iv fs)), (0, .ref (G.2.2.1 + 189))] → W p l e (rmk 3 0 0) s m args below meth c H locs 0 0 (MQ below (sQi G 294 (fun r u => cX G u 0 0 0 ∧ Fr S u (p1 189) ∧ (CQ G T kp vp u ∧ u.1 189 3 = S.1 189 3 + 1 ∧ -1 ≤ r ∧ r ≤ 1000000 ∧ Hd ((0 ≤ vp (S.1 189 3) → vp (S.1 189 3) ≤ 1000000 → r = vp (S.1 189 3)) ∧ (vp (S.1 189 3) < 0 ∨ 1000000 < vp (S.1 189 3) → r = -1))))) args s 0 0 (sF G)) (F0 m 28 ls [.int (iv v0)]) := by
    intro v0 H locs ls hv0 hv00 hW hL hl
    refine lv_istore_n (lv' := [(3, .int (iv v0)), (2, .int (iv be)), (1, .int (iv fs)), (0, .ref (G.2.2.1 + 189))]) hx hb dX4_takeCount_28 rfl hl (by decide) rfl (fun ls hl => ?_)
    refine lv_iload_n hx hb dX4_takeCount_29 rfl (lv_at hl 2 rfl) ?_
    refine lv_istore (lv' := [(4, .int (iv fs)), (3, .int (iv v0)), (2, .int (iv be)), (1, .int (iv fs)), (0, .ref (G.2.2.1 + 189))]) hx hb dX4_takeCount_30 hl (by decide) rfl (fun ls hl => ?_)
    have loop_32 : ∀ (fuel : Nat) (i : Int) (va : Int) (H : Heap) (locs : List Loc) (ls : Array Slot), (30001 - i).toNat < fuel → (-1 ≤ va ∧ va ≤ 1000000) → (fs ≤ i ∧ i ≤ 30001) → (fs < be → i ≤ be) → (be ≤ fs → va = -1) → (Hd (fs < be → TC (bt S 1) fs i va)) → sW G 294 S H → sL G locs → lv_has ls 5 [(4, .int (iv i)), (3, .int (iv va)), (2, .int (iv be)), (1, .int (iv fs)), (0, .ref (G.2.2.1 + 189))] → W p l e (rmk 3 0 0) s m args below meth c H locs 0 0 (MQ below (sQi G 294 (fun r u => cX G u 0 0 0 ∧ Fr S u (p1 189) ∧ (CQ G T kp vp u ∧ u.1 189 3 = S.1 189 3 + 1 ∧ -1 ≤ r ∧ r ≤ 1000000 ∧ Hd ((0 ≤ vp (S.1 189 3) → vp (S.1 189 3) ≤ 1000000 → r = vp (S.1 189 3)) ∧ (vp (S.1 189 3) < 0 ∨ 1000000 < vp (S.1 189 3) → r = -1))))) args s 0 0 (sF G)) (F0 m 32 ls []) := by
      intro fuel
      induction fuel with
      | zero => intro i va H locs ls hmeas hva hi hib hvn hvd hW hL hl; exact absurd hmeas (Nat.not_lt_zero _)
      | succ fuel ih_32 =>
        intro i va H locs ls hmeas hva hi hib hvn hvd hW hL hl
        refine lv_iload hx hb dX4_takeCount_32 (lv_at hl 0 rfl) ?_
        refine lv_iload_n hx hb dX4_takeCount_34 rfl (lv_at hl 2 rfl) ?_
        refine r_icmp_ge (tgt := 78) hx hb ⟨(by omega), (by omega)⟩ ⟨(by omega), (by omega)⟩ dX4_takeCount_35 (by decide) (fun c_11 => ?_) (fun c_11 => ?_)
        · refine lv_aload_n hx hb dX4_takeCount_78 rfl (lv_at hl 4 rfl) ?_
          refine lv_dup hx hb dX4_takeCount_79 rfl ?_
          refine g_X4_40 Cx hW (k := 189) (by decide) rfl (v := S.1 189 3) rfl dX4_takeCount_80 ?_
          refine lv_iconst (v := iv 1) hx hb dX4_takeCount_83 (by decide) ?_
          refine r_iadd hx hb dX4_takeCount_84 ?_
          refine p_X4_40 Cx hW hL (k := 189) (by decide) rfl dX4_takeCount_85 (fun H locs hW hL => ?_)
          have F_12 : Fr S (uF S 189 3 ((S.1 189 3) + 1)) (p1 189) := (Fr.rf : Fr S S (p1 189)).F rfl
          have i_13 : cX G (uF S 189 3 ((S.1 189 3) + 1)) 0 0 0 := hI.F rfl rfl (show 0 ≤ (S.1 189 3) + 1 ∧ (S.1 189 3) + 1 ≤ 1000000000 from ⟨by omega, by omega⟩)
          refine lv_iload_n hx hb dX4_takeCount_88 rfl (lv_at hl 1 rfl) ?_
          have lk_14 : (uF S 189 3 ((S.1 189 3) + 1)).1 189 3 = (S.1 189 3) + 1 := uF_on
          exact sIret Cx hr hlk hW hL ⟨i_13, F_12, ⟨hCR.F (by decide), (by omega), (by omega), (by omega), (show _ ∧ _ by rcases hcase with z | z; (have e := hvn (by omega); omega); exact (hvd z.1).fin (by omega) xu_9.2.1 z.2 (by omega))⟩⟩ dX4_takeCount_89
        · refine lv_iload_n hx hb dX4_takeCount_38 rfl (lv_at hl 1 rfl) ?_
          refine r_if_lt (tgt := 78) hx hb ⟨(by omega), (by omega)⟩ dX4_takeCount_39 (by decide) (fun c_15 => ?_) (fun c_15 => ?_)
          · refine lv_aload_n hx hb dX4_takeCount_78 rfl (lv_at hl 4 rfl) ?_
            refine lv_dup hx hb dX4_takeCount_79 rfl ?_
            refine g_X4_40 Cx hW (k := 189) (by decide) rfl (v := S.1 189 3) rfl dX4_takeCount_80 ?_
            refine lv_iconst (v := iv 1) hx hb dX4_takeCount_83 (by decide) ?_
            refine r_iadd hx hb dX4_takeCount_84 ?_
            refine p_X4_40 Cx hW hL (k := 189) (by decide) rfl dX4_takeCount_85 (fun H locs hW hL => ?_)
            have F_16 : Fr S (uF S 189 3 ((S.1 189 3) + 1)) (p1 189) := (Fr.rf : Fr S S (p1 189)).F rfl
            have i_17 : cX G (uF S 189 3 ((S.1 189 3) + 1)) 0 0 0 := hI.F rfl rfl (show 0 ≤ (S.1 189 3) + 1 ∧ (S.1 189 3) + 1 ≤ 1000000000 from ⟨by omega, by omega⟩)
            refine lv_iload_n hx hb dX4_takeCount_88 rfl (lv_at hl 1 rfl) ?_
            have lk_18 : (uF S 189 3 ((S.1 189 3) + 1)).1 189 3 = (S.1 189 3) + 1 := uF_on
            exact sIret Cx hr hlk hW hL ⟨i_17, F_16, ⟨hCR.F (by decide), (by omega), (by omega), (by omega), (show _ ∧ _ by rcases hcase with z | z; (have e := hvn (by omega); omega); exact (hvd z.1).fin (by omega) xu_9.2.1 z.2 (by omega))⟩⟩ dX4_takeCount_89
          · refine lv_bipush (v := iv 10) hx hb dX4_takeCount_42 (by decide) ?_
            refine lv_iload_n hx hb dX4_takeCount_44 rfl (lv_at hl 1 rfl) ?_
            refine r_imul hx hb dX4_takeCount_45 ?_
            refine lv_aload_n hx hb dX4_takeCount_46 rfl (lv_at hl 4 rfl) ?_
            refine g_X4_14 Cx hW (k := 189) (by decide) rfl (v := .ref (G.2.2.1 + 1)) hCR.1 dX4_takeCount_47 ?_
            refine lv_iload hx hb dX4_takeCount_50 (lv_at hl 0 rfl) ?_
            refine sBi (sV (As := [.int (iv i)]) (rest := [.int (iv (10 * va))]) (k := 1) Cx (s_X10_byteAt l G S (o := 1) (k := i) (N := 30000) hI ⟨by decide, rfl, rfl, rfl, rfl, by decide⟩ (by omega)) (c_X4_43 Cx rfl rfl (rmk_ok (by omega) (by decide))) hW (by decide) rfl rfl rfl hl.1 rfl (Nat.le_of_ble_eq_true rfl) dX4_takeCount_52 ⟨Nat.le_of_ble_eq_true rfl, Nat.le_of_ble_eq_true rfl⟩) hL (fun r_21 u_19 H locs k_20 hW hL => ?_)
            obtain ⟨eu_19, xu_19⟩ := k_20
            rw [eu_19] at hW
            have hdi : 48 ≤ r_21 ∧ r_21 ≤ 57 := by have e := xu_9.2.1 i (by omega) (by omega); unfold dgt at e; have e2 := xu_19.1; omega
            refine r_iadd hx hb dX4_takeCount_55 ?_
            refine lv_bipush (v := iv 48) hx hb dX4_takeCount_56 (by decide) ?_
            refine r_isub hx hb dX4_takeCount_58 ?_
            obtain ⟨vx, evx⟩ : ∃ z : Int, z = ((10 * va) + r_21) - 48 := ⟨_, rfl⟩
            refine r_i (b := vx) evx.symm ?_
            refine lv_istore_n (lv' := [(3, .int (iv vx)), (4, .int (iv i)), (2, .int (iv be)), (1, .int (iv fs)), (0, .ref (G.2.2.1 + 189))]) hx hb dX4_takeCount_59 rfl hl (by decide) rfl (fun ls hl => ?_)
            have join_71 : ∀ (v2 : Int) (H : Heap) (locs : List Loc) (ls : Array Slot), (-1 ≤ v2 ∧ v2 ≤ 1000000) → ((vx ≤ 1000000 → v2 = vx) ∧ (1000000 < vx → v2 = -1)) → sW G 294 S H → sL G locs → lv_has ls 5 [(3, .int (iv vx)), (4, .int (iv i)), (2, .int (iv be)), (1, .int (iv fs)), (0, .ref (G.2.2.1 + 189))] → W p l e (rmk 3 0 0) s m args below meth c H locs 0 0 (MQ below (sQi G 294 (fun r u => cX G u 0 0 0 ∧ Fr S u (p1 189) ∧ (CQ G T kp vp u ∧ u.1 189 3 = S.1 189 3 + 1 ∧ -1 ≤ r ∧ r ≤ 1000000 ∧ Hd ((0 ≤ vp (S.1 189 3) → vp (S.1 189 3) ≤ 1000000 → r = vp (S.1 189 3)) ∧ (vp (S.1 189 3) < 0 ∨ 1000000 < vp (S.1 189 3) → r = -1))))) args s 0 0 (sF G)) (F0 m 71 ls [.int (iv v2)]) := by
              intro v2 H locs ls hv2 hv22 hW hL hl
              refine lv_istore_n (lv' := [(3, .int (iv v2)), (4, .int (iv i)), (2, .int (iv be)), (1, .int (iv fs)), (0, .ref (G.2.2.1 + 189))]) hx hb dX4_takeCount_71 rfl hl (by decide) rfl (fun ls hl => ?_)
              refine lv_iinc (v := iv (i + 1)) (lv' := [(4, .int (iv (i + 1))), (3, .int (iv v2)), (2, .int (iv be)), (1, .int (iv fs)), (0, .ref (G.2.2.1 + 189))]) hx hb dX4_takeCount_72 hl (k := 1) rfl ((Int32.ofInt_add _ _).symm) (by decide) rfl (fun ls hl => ?_)
              refine lv_goto (tgt := 32) hx hb dX4_takeCount_75 (by decide) ?_
              exact ih_32 (i + 1) v2 _ _ _ (by omega) (by omega) (by omega) (by omega) (by omega) (fun q => (hvd q).st (by omega) (by omega) (xu_19.1) (by omega) (show vx = _ by omega) hv22) hW hL (lv_sub hl [0, 1, 2, 3, 4] rfl)
            refine lv_iload_n hx hb dX4_takeCount_60 rfl (lv_at hl 0 rfl) ?_
            refine lv_ldc hx hb hown (hts _ w_1917) dX4_takeCount_61 ?_
            refine r_icmp_le (tgt := 70) hx hb ⟨(by omega), (by omega)⟩ ⟨(by omega), (by omega)⟩ dX4_takeCount_63 (by decide) (fun c_22 => ?_) (fun c_22 => ?_)
            · refine lv_iload_n hx hb dX4_takeCount_70 rfl (lv_at hl 0 rfl) ?_
              exact join_71 vx _ _ _ (by omega) (by omega) hW hL (lv_sub hl [0, 1, 2, 3, 4] rfl)
            · refine lv_iconst (v := iv (-1)) hx hb dX4_takeCount_66 (by decide) ?_
              refine lv_goto (tgt := 71) hx hb dX4_takeCount_67 (by decide) ?_
              exact join_71 ((-1)) _ _ _ (by omega) (by omega) hW hL (lv_sub hl [0, 1, 2, 3, 4] rfl)
    exact loop_32 (_ + 1) fs v0 _ _ _ (Nat.lt_succ_self _) (by omega) (by omega) (by omega) (by omega) (fun q => .inl ⟨by rw [show (fs - fs).toNat = 0 by omega]; show v0 = 0; omega, by omega, by omega⟩) hW hL (lv_sub hl [0, 1, 2, 3, 4] rfl)
  refine lv_iload_n hx hb dX4_takeCount_18 rfl (lv_at hl 0 rfl) ?_
  refine lv_iload_n hx hb dX4_takeCount_19 rfl (lv_at hl 1 rfl) ?_
  refine r_icmp_le (tgt := 27) hx hb ⟨(by omega), (by omega)⟩ ⟨(by omega), (by omega)⟩ dX4_takeCount_20 (by decide) (fun c_23 => ?_) (fun c_23 => ?_)
  · refine lv_iconst (v := iv (-1)) hx hb dX4_takeCount_27 (by decide) ?_
    exact join_28 ((-1)) _ _ _ (by omega) (by omega) hW hL (lv_sub hl [0, 1, 2] rfl)
  · refine lv_iconst (v := iv 0) hx hb dX4_takeCount_23 (by decide) ?_
    refine lv_goto (tgt := 28) hx hb dX4_takeCount_24 (by decide) ?_
    exact join_28 0 _ _ _ (by omega) (by omega) hW hL (lv_sub hl [0, 1, 2] rfl)
