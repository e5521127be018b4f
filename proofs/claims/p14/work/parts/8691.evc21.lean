/-! The class's table of names, as the meaning has it -/
def NRc (N : sN) (S : sS) : Prop := (N.1 = S.1 11 9 ∧ 0 ≤ N.1 ∧ N.1 ≤ 128) ∧ (∀ s, 0 ≤ s → s < N.1 → N.2.1 s = S.2.2.1 16 s) ∧ (∀ s, 0 ≤ s → s < N.1 → N.2.2.1 s 0 = fc S s 0 ∧ (N.2.2.1 s 0 = 6 → N.2.2.1 s 1 = fc S s 1 ∧ N.2.2.1 s 2 = fc S s 2) ∧ (N.2.2.1 s 0 = 2 → N.2.2.1 s 1 = fc S s 1) ∧ (N.2.2.1 s 0 = 7 ∨ N.2.2.1 s 0 = 8 → N.2.2.1 s 3 = fc S s 3 ∧ N.2.2.1 s 4 = fc S s 4) ∧ (N.2.2.1 s 0 = 7 ∨ N.2.2.1 s 0 = 8 → N.2.2.1 s 5 = fc S s 5) ∧ (N.2.2.1 s 0 = 7 → ∀ o, 0 ≤ o → o < siz N (N.2.2.1 s 3) * siz N (N.2.2.1 s 4) → 0 ≤ fc S s 5 + o ∧ fc S s 5 + o < 1728 ∧ N.2.2.2 s o = S.2.1 18 (fc S s 5 + o)))
/-- what holds of the names that were told: no name twice, sets, indexes, numbers within bounds -/
def NK (N : sN) : Prop := NDi N ∧ ∀ s, 0 ≤ s → s < N.1 → (N.2.2.1 s 0 = 2 → 0 ≤ N.2.2.1 s 1 ∧ N.2.2.1 s 1 ≤ 99999) ∧ (N.2.2.1 s 0 = 6 → 0 ≤ N.2.2.1 s 1 ∧ N.2.2.1 s 1 ≤ N.2.2.1 s 2 ∧ N.2.2.1 s 2 ≤ 99999 ∧ N.2.2.1 s 2 - N.2.2.1 s 1 ≤ 11) ∧ (N.2.2.1 s 0 = 7 ∨ N.2.2.1 s 0 = 8 → ∀ q, q = 3 ∨ q = 4 → N.2.2.1 s q = -1 ∨ (0 ≤ N.2.2.1 s q ∧ N.2.2.1 s q < N.1 ∧ N.2.2.1 (N.2.2.1 s q) 0 = 6)) ∧ (N.2.2.1 s 0 = 7 ∨ N.2.2.1 s 0 = 8 → N.2.2.1 s 3 < 0 → N.2.2.1 s 4 < 0) ∧ (N.2.2.1 s 0 = 7 → ∀ o, 0 ≤ o → o < siz N (N.2.2.1 s 3) * siz N (N.2.2.1 s 4) → -99999 ≤ N.2.2.2 s o ∧ N.2.2.2 s o ≤ 99999) ∧ (N.2.2.1 s 0 = 8 → 1 ≤ N.2.2.1 s 5 ∧ N.2.2.1 s 5 + siz N (N.2.2.1 s 3) * siz N (N.2.2.1 s 4) ≤ 13)
def TVn (k v : Int → Int) : Prop := ∀ p, k p = 3 → 0 ≤ v p ∧ v p ≤ 99999
theorem efn_cong {nm nm' : Int → Int} {x : Int} : ∀ m : Nat, (∀ s : Int, 0 ≤ s → s < m → nm s = nm' s) → efn nm x m = efn nm' x m := by
  intro m
  induction m with
  | zero => intro _; rfl
  | succ m ih =>
    intro h
    show (if 0 ≤ efn nm x m then efn nm x m else if nm m = x then (m : Int) else -1) = (if 0 ≤ efn nm' x m then efn nm' x m else if nm' m = x then (m : Int) else -1)
    rw [ih (fun s a b => h s a (by omega)), h m (by omega) (by omega)]
theorem NRc.find {N : sN} {S : sS} (h : NRc N S) (x : Int) : eFind N x = efn (S.2.2.1 16) x (S.1 11 9).toNat := by
  unfold eFind; rw [efn_cong (nm' := S.2.2.1 16) N.1.toNat (fun s a b => h.2.1 s a (by have := h.1; omega)), h.1.1]
theorem ogX_i {k : Int → Int} {p q : Int} (h : ogX k p = some q) : (k p = 3 ∧ q = p + 1) ∨ (k p = 2 ∧ ((k (p + 1) = 21 ∨ k (p + 1) = 22) ∧ k (p + 1 + 1) = 3 ∧ q = p + 1 + 1 + 1 ∨ (¬ (k (p + 1) = 21 ∨ k (p + 1) = 22)) ∧ q = p + 1)) := by
  unfold ogX at h
  by_cases c : k p = 3
  · rw [if_pos c] at h; cases h; exact .inl ⟨c, rfl⟩
  · rw [if_neg c] at h
    obtain ⟨a, h1, h⟩ := ogB h
    obtain ⟨e1, e2⟩ := ogT_lt h1
    rw [e1] at h
    right; refine ⟨e2, ?_⟩
    by_cases d : k (p + 1) = 21 ∨ k (p + 1) = 22
    · rw [if_pos d] at h; obtain ⟨e3, e4⟩ := ogT_lt h; exact .inl ⟨d, e4, e3⟩
    · rw [if_neg d] at h; cases h; exact .inr ⟨d, rfl⟩
theorem NRc.of {N : sN} {S u : sS} (h : NRc N S) (e9 : u.1 11 9 = S.1 11 9) (e16 : ∀ j, u.2.2.1 16 j = S.2.2.1 16 j) (e17 : ∀ j, u.2.1 17 j = S.2.1 17 j) (e18 : ∀ j, u.2.1 18 j = S.2.1 18 j) : NRc N u := by
  have ef : ∀ s q, fc u s q = fc S s q := fun s q => e17 _
  unfold NRc
  simp only [ef, e9, e16, e18]
  exact h
theorem NRc.fr {N : sN} {S u : sS} {P : pS} (h : NRc N S) (f : Fr S u P) (h1 : P 11 = false) (h2 : P 16 = false) (h3 : P 17 = false) (h4 : P 18 = false) : NRc N u := h.of ((f 11 h1).1 9) (fun j => (f 16 h2).2.2.1 j) (fun j => (f 17 h3).2.1 j) (fun j => (f 18 h4).2.1 j)
theorem off_lt {x y m n : Int} (hx : 0 ≤ x ∧ x < m) (hy : 0 ≤ y ∧ y < n) : 0 ≤ x * n + y ∧ x * n + y < m * n := by
  have a := Int.mul_nonneg hx.1 (show 0 ≤ n by omega)
  have b := Int.mul_le_mul_of_nonneg_right (show x + 1 ≤ m by omega) (show 0 ≤ n by omega)
  rw [Int.add_mul] at b
  omega
/-- where a par's value or a variable goes -/
theorem eV_p {N : sN} {s o c : Int} {f g : Int → Int} (h7 : N.2.2.1 s 0 = 7) (hc : N.2.2.2 s o = c) (h0 : veq f (cst 0)) (e : ∀ j, 0 ≤ j → j < 13 → g j = if j = 0 then c else f j) : veq g (eV N s o) := fun j j0 j1 => by
  unfold eV; rw [if_pos h7, hc, e j j0 j1]
  by_cases q : j = 0
  · rw [if_pos q]; exact (if_pos q).symm
  · rw [if_neg q, h0 j j0 j1]; unfold cst; rw [if_neg q, if_neg q]
theorem eV_v {N : sN} {s o i : Int} {f g : Int → Int} (h7 : N.2.2.1 s 0 ≠ 7) (hi : N.2.2.1 s 5 + o = i) (h0 : veq f (cst 0)) (e : ∀ j, 0 ≤ j → j < 13 → g j = if j = i then 1 else f j) : veq g (eV N s o) := fun j j0 j1 => by
  unfold eV; rw [if_neg h7, hi, e j j0 j1]
  by_cases q : j = i
  · rw [if_pos q]; exact (if_pos q).symm
  · rw [if_neg q, h0 j j0 j1]; unfold cst unt; rw [if_neg q]; split <;> rfl
theorem r2_83e {G : sG} {S : sS} {x y : Nat} {b i : Int} (h : cX G S x y b) (h0 : 0 ≤ i) (h1 : i < 31) : ∃ q, lr q ∧ S.2.2.2 83 i.toNat = .ref (G.2.2.1 + q) ∧ q = 84 + i.toNat := ⟨84 + i.toNat, ⟨(lr20 _ (by omega)).2.2, by omega, by omega⟩, (h.r2 _ (by omega)).2.2, rfl⟩
theorem r2_51e {G : sG} {S : sS} {x y : Nat} {b i : Int} (h : cX G S x y b) (h0 : 0 ≤ i) (h1 : i < 31) : ∃ q, lr q ∧ S.2.2.2 51 i.toNat = .ref (G.2.2.1 + q) ∧ q = 52 + i.toNat := ⟨52 + i.toNat, ⟨(lr20 _ (by omega)).2.1, by omega, by omega⟩, (h.r2 _ (by omega)).2.1, rfl⟩
theorem r2_19e {G : sG} {S : sS} {x y : Nat} {b i : Int} (h : cX G S x y b) (h0 : 0 ≤ i) (h1 : i < 31) : ∃ q, lr q ∧ S.2.2.2 19 i.toNat = .ref (G.2.2.1 + q) ∧ q = 20 + i.toNat := ⟨20 + i.toNat, ⟨(lr20 _ (by omega)).1, by omega, by omega⟩, (h.r2 _ (by omega)).1, rfl⟩
/-- the teller's references stand -/
def RK (S u : sS) : Prop := ∀ i, u.2.2.2 11 i = S.2.2.2 11 i
/-- the name that is learnt -/
def LE (S u : sS) (x so : Int) : Prop := u.1 11 9 = S.1 11 9 + 1 ∧ (∀ j, u.2.2.1 16 j = if j = S.1 11 9 then x else S.2.2.1 16 j) ∧ (∀ j, u.2.1 18 j = S.2.1 18 j) ∧ (∀ s q, 0 ≤ q → q ≤ 5 → fc u s q = if s = S.1 11 9 ∧ (q = 0 ∨ q = 3 ∨ q = 4) then (if q = 0 then so else -1) else fc S s q)
set_option maxRecDepth 100000 in
set_option maxHeartbeats 4000000 in
theorem e_X9_fail (l : Launch) (G : sG) (S : sS) {k tk : Int} (hI : cX G S 0 0 0) (hk : 1 ≤ k ∧ k ≤ 7) (htk : -2147483648 ≤ tk ∧ tk ≤ 2147483647) : Met l yX9_fail (.code yX9_fail cX9_fail 3 (some .boolean) :: tb) (rmk 1 0 0) (sPc G 294 S [.ref (G.2.2.1 + 11), .int (iv k), .int (iv tk)]) (sQi G 294 (fun r u => cX G u 0 0 0 ∧ Fr S u (p1 11) ∧ (r = 0 ∧ u.1 11 14 = k ∧ u.1 11 13 = S.1 11 13 ∧ u.1 11 9 = S.1 11 9 ∧ u.1 11 10 = S.1 11 10 ∧ u.1 11 11 = S.1 11 11 ∧ u.1 11 12 = S.1 11 12 ∧ Hd (RK S u)))) 0 0 (sF G) := by
  refine sEnter (by decide) (Nat.le_of_ble_eq_true rfl) ?_
  intro p e s m args below meth c Cx hr hlk hnm hW ls hl
  have Cx : sC G p m c cX9_fail 3 s args RX9 := Cx
  obtain ⟨hx, hb, hml, hown, hts⟩ := id Cx.1
  have hL : sL G [] := sL_nil
  have hl : lv_has ls 3 [(0, .ref (G.2.2.1 + 11)), (1, .int (iv k)), (2, .int (iv tk))] := hl
  have hW0 := hW
  refine lv_aload_n hx hb dX9_fail_0 rfl (lv_at hl 0 rfl) ?_
  refine lv_iload_n hx hb dX9_fail_1 rfl (lv_at hl 1 rfl) ?_
  refine p_X9_54 Cx hW hL (k := 11) (by decide) rfl dX9_fail_2 (fun H locs hW hL => ?_)
  have F_1 : Fr S (uF S 11 14 k) (p1 11) := (Fr.rf : Fr S S (p1 11)).F rfl
  have i_2 : cX G (uF S 11 14 k) 0 0 0 := hI.F rfl rfl (show 0 ≤ k ∧ k ≤ 7 from ⟨by omega, by omega⟩)
  refine lv_aload_n hx hb dX9_fail_5 rfl (lv_at hl 0 rfl) ?_
  refine lv_iload_n hx hb dX9_fail_6 rfl (lv_at hl 2 rfl) ?_
  refine p_X9_114 Cx hW hL (k := 11) (by decide) rfl dX9_fail_7 (fun H locs hW hL => ?_)
  have F_3 : Fr S (uF (uF S 11 14 k) 11 15 tk) (p1 11) := F_1.F rfl
  have i_4 : cX G (uF (uF S 11 14 k) 11 15 tk) 0 0 0 := i_2.F rfl rfl (show (-2147483648) ≤ tk ∧ tk ≤ 2147483647 from ⟨by omega, by omega⟩)
  refine lv_iconst (v := iv 0) hx hb dX9_fail_10 (by decide) ?_
  have lk_5 : (uF (uF S 11 14 k) 11 15 tk).1 11 14 = k := (uF_ne (fun h => absurd h.2 (by decide))).trans (uF_on)
  have q_6 : (-2147483648) ≤ S.1 11 13 ∧ S.1 11 13 ≤ 2147483647 := hI.fi 11 13 9 (by decide) rfl
  have lk_7 : (uF (uF S 11 14 k) 11 15 tk).1 11 13 = S.1 11 13 := (uF_ne (fun h => absurd h.2 (by decide))).trans (uF_ne (fun h => absurd h.2 (by decide)))
  have q_8 : 0 ≤ S.1 11 9 ∧ S.1 11 9 ≤ 128 := hI.fi 11 9 9 (by decide) rfl
  have lk_9 : (uF (uF S 11 14 k) 11 15 tk).1 11 9 = S.1 11 9 := (uF_ne (fun h => absurd h.2 (by decide))).trans (uF_ne (fun h => absurd h.2 (by decide)))
  have q_10 : 0 ≤ S.1 11 10 ∧ S.1 11 10 ≤ 8 := hI.fi 11 10 9 (by decide) rfl
  have lk_11 : (uF (uF S 11 14 k) 11 15 tk).1 11 10 = S.1 11 10 := (uF_ne (fun h => absurd h.2 (by decide))).trans (uF_ne (fun h => absurd h.2 (by decide)))
  have q_12 : 0 ≤ S.1 11 11 ∧ S.1 11 11 ≤ 12 := hI.fi 11 11 9 (by decide) rfl
  have lk_13 : (uF (uF S 11 14 k) 11 15 tk).1 11 11 = S.1 11 11 := (uF_ne (fun h => absurd h.2 (by decide))).trans (uF_ne (fun h => absurd h.2 (by decide)))
  have q_14 : (-2147483648) ≤ S.1 11 12 ∧ S.1 11 12 ≤ 2147483647 := hI.fi 11 12 9 (by decide) rfl
  have lk_15 : (uF (uF S 11 14 k) 11 15 tk).1 11 12 = S.1 11 12 := (uF_ne (fun h => absurd h.2 (by decide))).trans (uF_ne (fun h => absurd h.2 (by decide)))
  exact sZret Cx hr hlk hW hL (by omega) ⟨i_4, F_3, ⟨(by omega), (by omega), (by omega), (by omega), (by omega), (by omega), (by omega), (fun i => rfl)⟩⟩ dX9_fail_11

set_option maxRecDepth 100000 in
set_option maxHeartbeats 4000000 in
theorem e_X9_isSort (l : Launch) (G : sG) (S : sS) {s0 k : Int} (hI : cX G S 0 0 0) (hs : -1 ≤ s0 ∧ s0 ≤ 127) (hk : -2147483648 ≤ k ∧ k ≤ 2147483647) : Met l yX9_isSort (.code yX9_isSort cX9_isSort 3 (some .boolean) :: tb) (rmk 2 0 0) (sPc G 294 S [.ref (G.2.2.1 + 11), .int (iv s0), .int (iv k)]) (sQi G 294 (fun r u => u = S ∧ ((0 ≤ r ∧ r ≤ 1) ∧ Hd (r = 1 → 0 ≤ s0 ∧ fc S s0 0 = k) ∧ Hd (r = 0 → ¬ (0 ≤ s0 ∧ fc S s0 0 = k))))) 0 0 (sF G) := by
  refine sEnter (by decide) (Nat.le_of_ble_eq_true rfl) ?_
  intro p e s m args below meth c Cx hr hlk hnm hW ls hl
  have Cx : sC G p m c cX9_isSort 3 s args RX9 := Cx
  obtain ⟨hx, hb, hml, hown, hts⟩ := id Cx.1
  have hL : sL G [] := sL_nil
  have hl : lv_has ls 3 [(0, .ref (G.2.2.1 + 11)), (1, .int (iv s0)), (2, .int (iv k))] := hl
  have hW0 := hW
  refine lv_iload_n hx hb dX9_isSort_0 rfl (lv_at hl 1 rfl) ?_
  refine r_if_lt (tgt := 18) hx hb ⟨(by omega), (by omega)⟩ dX9_isSort_1 (by decide) (fun c_1 => ?_) (fun c_1 => ?_)
  · refine lv_iconst (v := iv 0) hx hb dX9_isSort_18 (by decide) ?_
    exact sZret Cx hr hlk hW hL (by omega) ⟨rfl, ⟨(by omega), (fun h => absurd h (by decide)), (fun _ z => by omega)⟩⟩ dX9_isSort_19
  · refine lv_aload_n hx hb dX9_isSort_4 rfl (lv_at hl 0 rfl) ?_
    refine lv_iload_n hx hb dX9_isSort_5 rfl (lv_at hl 1 rfl) ?_
    refine lv_iconst (v := iv 0) hx hb dX9_isSort_6 (by decide) ?_
    refine sBi (sV (As := [.int (iv s0), .int (iv 0)]) (rest := []) (k := 11) Cx (s_X9_fact l G S (s0 := s0) (q := 0) hI (by omega) (by omega)) (c_X9_120 Cx rfl rfl (rmk_ok (by omega) (by decide))) hW (by decide) rfl rfl rfl hl.1 rfl (Nat.le_of_ble_eq_true rfl) dX9_isSort_7 ⟨Nat.le_of_ble_eq_true rfl, Nat.le_of_ble_eq_true rfl⟩) hL (fun r_4 u_2 H locs k_3 hW hL => ?_)
    obtain ⟨eu_2, xu_2⟩ := k_3
    rw [eu_2] at hW
    have yu_2 := xu_2.2
    unfold fr8 at yu_2
    refine lv_iload_n hx hb dX9_isSort_10 rfl (lv_at hl 2 rfl) ?_
    refine r_icmp_ne (tgt := 18) hx hb ⟨(by omega), (by omega)⟩ ⟨(by omega), (by omega)⟩ dX9_isSort_11 (by decide) (fun c_5 => ?_) (fun c_5 => ?_)
    · refine lv_iconst (v := iv 0) hx hb dX9_isSort_18 (by decide) ?_
      exact sZret Cx hr hlk hW hL (by omega) ⟨rfl, ⟨(by omega), (fun h => absurd h (by decide)), (fun _ z => by have q := xu_2.1; omega)⟩⟩ dX9_isSort_19
    · refine lv_iconst (v := iv 1) hx hb dX9_isSort_14 (by decide) ?_
      refine lv_goto (tgt := 19) hx hb dX9_isSort_15 (by decide) ?_
      exact sZret Cx hr hlk hW hL (by omega) ⟨rfl, ⟨(by omega), (fun _ => ⟨(by omega), (by have q := xu_2.1; omega)⟩), (fun h => absurd h (by decide))⟩⟩ dX9_isSort_19

set_option maxRecDepth 100000 in
set_option maxHeartbeats 4000000 in
theorem e_X9_item (l : Launch) (G : sG) (S : sS) {N : sN} {pz q : Int} (hI : cX G S 0 0 0) (hN : Hd (NRc N S)) (hK : Hd (NK N)) (hTV : Hd (TVn (kd S) (vd S))) (hfk : S.1 11 14 = 0) (hat : S.1 11 13 + 1 = pz) (hpz : 0 ≤ pz ∧ pz ≤ 2001) (hgx : Hd (ogX (kd S) pz = some q)) : Met l yX9_item (.code yX9_item cX9_item 4 (some .int) :: tb) (rmk 2 0 0) (sPc G 294 S [.ref (G.2.2.1 + 11)]) (sQi G 294 (fun r u => cX G u 0 0 0 ∧ Fr S u (p1 11) ∧ ((Hd (RK S u) ∧ -2147483648 ≤ r ∧ r ≤ 2147483647) ∧ (u.1 11 9 = S.1 11 9 ∧ u.1 11 10 = S.1 11 10 ∧ u.1 11 11 = S.1 11 11 ∧ u.1 11 12 = S.1 11 12) ∧ Hd (u.1 11 14 = 0 → eI (kd S) (vd S) N pz = some (r, q) ∧ u.1 11 13 = q) ∧ Hd (u.1 11 14 ≠ 0 → eI (kd S) (vd S) N pz = none)))) 0 0 (sF G) := by
  refine sEnter (by decide) (Nat.le_of_ble_eq_true rfl) ?_
  intro p e s m args below meth c Cx hr hlk hnm hW ls hl
  have Cx : sC G p m c cX9_item 4 s args RX9 := Cx
  obtain ⟨hx, hb, hml, hown, hts⟩ := id Cx.1
  have hL : sL G [] := sL_nil
  have hl : lv_has ls 4 [(0, .ref (G.2.2.1 + 11))] := hl
  have hW0 := hW
  have hkn : 0 ≤ S.1 11 9 ∧ S.1 11 9 ≤ 128 := hI.fi 11 9 9 (by decide) rfl
  refine lv_aload_n hx hb dX9_item_0 rfl (lv_at hl 0 rfl) ?_
  refine lv_dup hx hb dX9_item_1 rfl ?_
  have q_1 : (-2147483648) ≤ S.1 11 13 ∧ S.1 11 13 ≤ 2147483647 := hI.fi 11 13 9 (by decide) rfl
  refine g_X9_89 Cx hW (k := 11) (by decide) rfl (v := S.1 11 13) rfl dX9_item_2 ?_
  refine lv_iconst (v := iv 1) hx hb dX9_item_5 (by decide) ?_
  refine r_iadd hx hb dX9_item_6 ?_
  refine p_X9_89 Cx hW hL (k := 11) (by decide) rfl dX9_item_7 (fun H locs hW hL => ?_)
  have F_2 : Fr S (uF S 11 13 ((S.1 11 13) + 1)) (p1 11) := (Fr.rf : Fr S S (p1 11)).F rfl
  have i_3 : cX G (uF S 11 13 ((S.1 11 13) + 1)) 0 0 0 := hI.F rfl rfl (show (-2147483648) ≤ (S.1 11 13) + 1 ∧ (S.1 11 13) + 1 ≤ 2147483647 from ⟨by omega, by omega⟩)
  refine lv_aload_n hx hb dX9_item_10 rfl (lv_at hl 0 rfl) ?_
  refine g_X9_14 Cx hW (k := 11) (by decide) rfl (v := .ref (G.2.2.1 + 12)) (rf_11_0 i_3) dX9_item_11 ?_
  refine lv_aload_n hx hb dX9_item_14 rfl (lv_at hl 0 rfl) ?_
  refine g_X9_89 Cx hW (k := 11) (by decide) rfl (v := (S.1 11 13) + 1) uF_on dX9_item_15 ?_
  refine sBi (sV (As := [.int (iv ((S.1 11 13) + 1))]) (rest := []) (k := 12) Cx (s_X8_kind l G (uF S 11 13 ((S.1 11 13) + 1)) (k := (S.1 11 13) + 1) i_3 (by omega)) (c_X9_95 Cx rfl rfl (rmk_ok (by omega) (by decide))) hW (by decide) rfl rfl rfl hl.1 rfl (Nat.le_of_ble_eq_true rfl) dX9_item_18 ⟨Nat.le_of_ble_eq_true rfl, Nat.le_of_ble_eq_true rfl⟩) hL (fun r_6 u_4 H locs k_5 hW hL => ?_)
  obtain ⟨eu_4, xu_4⟩ := k_5
  rw [eu_4] at hW
  refine lv_iconst (v := iv 3) hx hb dX9_item_21 (by decide) ?_
  refine r_icmp_ne (tgt := 50) hx hb ⟨(by omega), (by omega)⟩ ⟨(by omega), (by omega)⟩ dX9_item_22 (by decide) (fun c_7 => ?_) (fun c_7 => ?_)
  · refine lv_aload_n hx hb dX9_item_50 rfl (lv_at hl 0 rfl) ?_
    refine lv_aload_n hx hb dX9_item_51 rfl (lv_at hl 0 rfl) ?_
    refine g_X9_14 Cx hW (k := 11) (by decide) rfl (v := .ref (G.2.2.1 + 12)) (rf_11_0 i_3) dX9_item_52 ?_
    refine lv_aload_n hx hb dX9_item_55 rfl (lv_at hl 0 rfl) ?_
    refine g_X9_89 Cx hW (k := 11) (by decide) rfl (v := (S.1 11 13) + 1) uF_on dX9_item_56 ?_
    refine sBl (sV (As := [.int (iv ((S.1 11 13) + 1))]) (rest := [.ref (G.2.2.1 + 11)]) (k := 12) Cx (s_X8_value l G (uF S 11 13 ((S.1 11 13) + 1)) (k := (S.1 11 13) + 1) i_3 (by omega)) (c_X9_124 Cx rfl rfl (rmk_ok (by omega) (by decide))) hW (by decide) rfl rfl rfl hl.1 rfl (Nat.le_of_ble_eq_true rfl) dX9_item_59 ⟨Nat.le_of_ble_eq_true rfl, Nat.le_of_ble_eq_true rfl⟩) hL (fun r_10 u_8 H locs k_9 hW hL => ?_)
    obtain ⟨eu_8, xu_8⟩ := k_9
    rw [eu_8] at hW
    have q_11 : 0 ≤ S.1 11 9 ∧ S.1 11 9 ≤ 128 := hI.fi 11 9 9 (by decide) rfl
    have lk_12 : (uF S 11 13 ((S.1 11 13) + 1)).1 11 9 = S.1 11 9 := uF_ne (fun h => absurd h.2 (by decide))
    refine sBi (sV (As := [.long (jv r_10)]) (rest := []) (k := 11) Cx (e_X9_find l G (uF S 11 13 ((S.1 11 13) + 1)) (nm := r_10) i_3 (by omega)) (c_X9_128 Cx rfl rfl (rmk_ok (by omega) (by decide))) hW (by decide) rfl rfl rfl hl.1 rfl (Nat.le_of_ble_eq_true rfl) dX9_item_62 ⟨Nat.le_of_ble_eq_true rfl, Nat.le_of_ble_eq_true rfl⟩) hL (fun r_15 u_13 H locs k_14 hW hL => ?_)
    obtain ⟨eu_13, xu_13⟩ := k_14
    rw [eu_13] at hW
    refine lv_istore_n (lv' := [(1, .int (iv r_15)), (0, .ref (G.2.2.1 + 11))]) hx hb dX9_item_65 rfl hl (by decide) rfl (fun ls hl => ?_)
    refine lv_iload_n hx hb dX9_item_66 rfl (lv_at hl 0 rfl) ?_
    refine r_if_lt (tgt := 80) hx hb ⟨(by omega), (by omega)⟩ dX9_item_67 (by decide) (fun c_16 => ?_) (fun c_16 => ?_)
    · refine lv_aload_n hx hb dX9_item_80 rfl (lv_at hl 1 rfl) ?_
      refine lv_iconst (v := iv 2) hx hb dX9_item_81 (by decide) ?_
      refine lv_aload_n hx hb dX9_item_82 rfl (lv_at hl 1 rfl) ?_
      refine g_X9_89 Cx hW (k := 11) (by decide) rfl (v := (S.1 11 13) + 1) uF_on dX9_item_83 ?_
      have lk_17 : (uF S 11 13 ((S.1 11 13) + 1)).1 11 13 = (S.1 11 13) + 1 := uF_on
      have q_18 : 0 ≤ S.1 11 10 ∧ S.1 11 10 ≤ 8 := hI.fi 11 10 9 (by decide) rfl
      have lk_19 : (uF S 11 13 ((S.1 11 13) + 1)).1 11 10 = S.1 11 10 := uF_ne (fun h => absurd h.2 (by decide))
      have q_20 : 0 ≤ S.1 11 11 ∧ S.1 11 11 ≤ 12 := hI.fi 11 11 9 (by decide) rfl
      have lk_21 : (uF S 11 13 ((S.1 11 13) + 1)).1 11 11 = S.1 11 11 := uF_ne (fun h => absurd h.2 (by decide))
      have q_22 : (-2147483648) ≤ S.1 11 12 ∧ S.1 11 12 ≤ 2147483647 := hI.fi 11 12 9 (by decide) rfl
      have lk_23 : (uF S 11 13 ((S.1 11 13) + 1)).1 11 12 = S.1 11 12 := uF_ne (fun h => absurd h.2 (by decide))
      refine sBi (sV (As := [.int (iv 2), .int (iv ((S.1 11 13) + 1))]) (rest := []) (k := 11) Cx (e_X9_fail l G (uF S 11 13 ((S.1 11 13) + 1)) (k := 2) (tk := (S.1 11 13) + 1) i_3 (by omega) (by omega)) (c_X9_132 Cx rfl rfl (rmk_ok (by omega) (by decide))) hW (by decide) rfl rfl rfl hl.1 rfl (Nat.le_of_ble_eq_true rfl) dX9_item_86 ⟨Nat.le_of_ble_eq_true rfl, Nat.le_of_ble_eq_true rfl⟩) hL (fun r_26 u_24 H locs k_25 hW hL => ?_)
      obtain ⟨iu_24, fu_24, xu_24⟩ := k_25
      have F_27 := F_2.trans fu_24
      refine lv_pop hx hb dX9_item_89 rfl ?_
      refine lv_iconst (v := iv 0) hx hb dX9_item_90 (by decide) ?_
      have q_28 : 0 ≤ u_24.1 11 9 ∧ u_24.1 11 9 ≤ 128 := iu_24.fi 11 9 9 (by decide) rfl
      have q_29 : 0 ≤ u_24.1 11 10 ∧ u_24.1 11 10 ≤ 8 := iu_24.fi 11 10 9 (by decide) rfl
      have q_30 : 0 ≤ u_24.1 11 11 ∧ u_24.1 11 11 ≤ 12 := iu_24.fi 11 11 9 (by decide) rfl
      have q_31 : (-2147483648) ≤ u_24.1 11 12 ∧ u_24.1 11 12 ≤ 2147483647 := iu_24.fi 11 12 9 (by decide) rfl
      have q_32 : 0 ≤ u_24.1 11 14 ∧ u_24.1 11 14 ≤ 7 := iu_24.fi 11 14 9 (by decide) rfl
      have q_33 : (-2147483648) ≤ u_24.1 11 13 ∧ u_24.1 11 13 ≤ 2147483647 := iu_24.fi 11 13 9 (by decide) rfl
      exact sIret Cx hr hlk hW hL ⟨iu_24, F_27, (by have gx := ogX_i hgx; have k0 : r_6 = kd S pz := (xu_4.1.trans (congrArg (kd S) (by omega))); have f0 : r_15 = eFind N (vd S pz) := (by rw [hN.find]; have q := xu_13.2; rw [show r_10 = vd S pz from (xu_8.1.trans (congrArg (vd S) (by omega)))] at q; exact q); have ng : ¬ (0 ≤ eFind N (vd S pz) ∧ N.2.2.1 (eFind N (vd S pz)) 0 = 2) := (by rw [← f0]; omega); refine ⟨⟨(fun i => (xu_24.2.2.2.2.2.2.2 i)), by omega, by omega⟩, (by omega), (fun z => absurd z (by omega)), (fun _ => ?_)⟩; unfold eI; rw [if_neg (by omega), if_neg ng])⟩ dX9_item_91
    · refine lv_aload_n hx hb dX9_item_70 rfl (lv_at hl 1 rfl) ?_
      refine lv_iload_n hx hb dX9_item_71 rfl (lv_at hl 0 rfl) ?_
      refine lv_iconst (v := iv 0) hx hb dX9_item_72 (by decide) ?_
      refine sBi (sV (As := [.int (iv r_15), .int (iv 0)]) (rest := []) (k := 11) Cx (s_X9_fact l G (uF S 11 13 ((S.1 11 13) + 1)) (s0 := r_15) (q := 0) i_3 (by omega) (by omega)) (c_X9_120 Cx rfl rfl (rmk_ok (by omega) (by decide))) hW (by decide) rfl rfl rfl hl.1 rfl (Nat.le_of_ble_eq_true rfl) dX9_item_73 ⟨Nat.le_of_ble_eq_true rfl, Nat.le_of_ble_eq_true rfl⟩) hL (fun r_36 u_34 H locs k_35 hW hL => ?_)
      obtain ⟨eu_34, xu_34⟩ := k_35
      rw [eu_34] at hW
      have yu_34 := xu_34.2
      unfold fr8 at yu_34
      refine lv_iconst (v := iv 2) hx hb dX9_item_76 (by decide) ?_
      refine r_icmp_eq (tgt := 92) hx hb ⟨(by omega), (by omega)⟩ ⟨(by omega), (by omega)⟩ dX9_item_77 (by decide) (fun c_37 => ?_) (fun c_37 => ?_)
      · refine lv_aload_n hx hb dX9_item_92 rfl (lv_at hl 1 rfl) ?_
        refine lv_dup hx hb dX9_item_93 rfl ?_
        refine g_X9_89 Cx hW (k := 11) (by decide) rfl (v := (S.1 11 13) + 1) uF_on dX9_item_94 ?_
        refine lv_iconst (v := iv 1) hx hb dX9_item_97 (by decide) ?_
        refine r_iadd hx hb dX9_item_98 ?_
        refine p_X9_89 Cx hW hL (k := 11) (by decide) rfl dX9_item_99 (fun H locs hW hL => ?_)
        have F_38 : Fr S (uF (uF S 11 13 ((S.1 11 13) + 1)) 11 13 (((S.1 11 13) + 1) + 1)) (p1 11) := F_2.F rfl
        have i_39 : cX G (uF (uF S 11 13 ((S.1 11 13) + 1)) 11 13 (((S.1 11 13) + 1) + 1)) 0 0 0 := i_3.F rfl rfl (show (-2147483648) ≤ ((S.1 11 13) + 1) + 1 ∧ ((S.1 11 13) + 1) + 1 ≤ 2147483647 from ⟨by omega, by omega⟩)
        refine lv_aload_n hx hb dX9_item_102 rfl (lv_at hl 1 rfl) ?_
        refine g_X9_14 Cx hW (k := 11) (by decide) rfl (v := .ref (G.2.2.1 + 12)) (rf_11_0 i_39) dX9_item_103 ?_
        refine lv_aload_n hx hb dX9_item_106 rfl (lv_at hl 1 rfl) ?_
        refine g_X9_89 Cx hW (k := 11) (by decide) rfl (v := ((S.1 11 13) + 1) + 1) uF_on dX9_item_107 ?_
        refine sBi (sV (As := [.int (iv (((S.1 11 13) + 1) + 1))]) (rest := []) (k := 12) Cx (s_X8_kind l G (uF (uF S 11 13 ((S.1 11 13) + 1)) 11 13 (((S.1 11 13) + 1) + 1)) (k := ((S.1 11 13) + 1) + 1) i_39 (by omega)) (c_X9_95 Cx rfl rfl (rmk_ok (by omega) (by decide))) hW (by decide) rfl rfl rfl hl.1 rfl (Nat.le_of_ble_eq_true rfl) dX9_item_110 ⟨Nat.le_of_ble_eq_true rfl, Nat.le_of_ble_eq_true rfl⟩) hL (fun r_42 u_40 H locs k_41 hW hL => ?_)
        obtain ⟨eu_40, xu_40⟩ := k_41
        rw [eu_40] at hW
        refine lv_istore_n (lv' := [(2, .int (iv r_42)), (1, .int (iv r_15)), (0, .ref (G.2.2.1 + 11))]) hx hb dX9_item_113 rfl hl (by decide) rfl (fun ls hl => ?_)
        refine lv_iload_n hx hb dX9_item_114 rfl (lv_at hl 0 rfl) ?_
        refine lv_bipush (v := iv 21) hx hb dX9_item_115 (by decide) ?_
        refine r_icmp_eq (tgt := 133) hx hb ⟨(by omega), (by omega)⟩ ⟨(by omega), (by omega)⟩ dX9_item_117 (by decide) (fun c_43 => ?_) (fun c_43 => ?_)
        · refine lv_aload_n hx hb dX9_item_133 rfl (lv_at hl 2 rfl) ?_
          refine lv_dup hx hb dX9_item_134 rfl ?_
          refine g_X9_89 Cx hW (k := 11) (by decide) rfl (v := ((S.1 11 13) + 1) + 1) uF_on dX9_item_135 ?_
          refine lv_iconst (v := iv 2) hx hb dX9_item_138 (by decide) ?_
          refine r_iadd hx hb dX9_item_139 ?_
          refine p_X9_89 Cx hW hL (k := 11) (by decide) rfl dX9_item_140 (fun H locs hW hL => ?_)
          have F_44 : Fr S (uF (uF (uF S 11 13 ((S.1 11 13) + 1)) 11 13 (((S.1 11 13) + 1) + 1)) 11 13 ((((S.1 11 13) + 1) + 1) + 2)) (p1 11) := F_38.F rfl
          have i_45 : cX G (uF (uF (uF S 11 13 ((S.1 11 13) + 1)) 11 13 (((S.1 11 13) + 1) + 1)) 11 13 ((((S.1 11 13) + 1) + 1) + 2)) 0 0 0 := i_39.F rfl rfl (show (-2147483648) ≤ (((S.1 11 13) + 1) + 1) + 2 ∧ (((S.1 11 13) + 1) + 1) + 2 ≤ 2147483647 from ⟨by omega, by omega⟩)
          refine lv_aload_n hx hb dX9_item_143 rfl (lv_at hl 2 rfl) ?_
          refine g_X9_14 Cx hW (k := 11) (by decide) rfl (v := .ref (G.2.2.1 + 12)) (rf_11_0 i_45) dX9_item_144 ?_
          refine lv_aload_n hx hb dX9_item_147 rfl (lv_at hl 2 rfl) ?_
          refine g_X9_89 Cx hW (k := 11) (by decide) rfl (v := (((S.1 11 13) + 1) + 1) + 2) uF_on dX9_item_148 ?_
          refine lv_iconst (v := iv 1) hx hb dX9_item_151 (by decide) ?_
          refine r_isub hx hb dX9_item_152 ?_
          refine sBl (sV (As := [.int (iv (((((S.1 11 13) + 1) + 1) + 2) - 1))]) (rest := []) (k := 12) Cx (s_X8_value l G (uF (uF (uF S 11 13 ((S.1 11 13) + 1)) 11 13 (((S.1 11 13) + 1) + 1)) 11 13 ((((S.1 11 13) + 1) + 1) + 2)) (k := ((((S.1 11 13) + 1) + 1) + 2) - 1) i_45 (by omega)) (c_X9_124 Cx rfl rfl (rmk_ok (by omega) (by decide))) hW (by decide) rfl rfl rfl hl.1 rfl (Nat.le_of_ble_eq_true rfl) dX9_item_153 ⟨Nat.le_of_ble_eq_true rfl, Nat.le_of_ble_eq_true rfl⟩) hL (fun r_48 u_46 H locs k_47 hW hL => ?_)
          obtain ⟨eu_46, xu_46⟩ := k_47
          rw [eu_46] at hW
          refine r_l2i hx hb dX9_item_156 ?_
          refine lv_istore_n (lv' := [(3, .int (iv r_48)), (2, .int (iv r_42)), (1, .int (iv r_15)), (0, .ref (G.2.2.1 + 11))]) hx hb dX9_item_157 rfl hl (by decide) rfl (fun ls hl => ?_)
          refine lv_aload_n hx hb dX9_item_158 rfl (lv_at hl 3 rfl) ?_
          refine lv_iload_n hx hb dX9_item_159 rfl (lv_at hl 2 rfl) ?_
          refine lv_iconst (v := iv 1) hx hb dX9_item_160 (by decide) ?_
          refine sBi (sV (As := [.int (iv r_15), .int (iv 1)]) (rest := []) (k := 11) Cx (s_X9_fact l G (uF (uF (uF S 11 13 ((S.1 11 13) + 1)) 11 13 (((S.1 11 13) + 1) + 1)) 11 13 ((((S.1 11 13) + 1) + 1) + 2)) (s0 := r_15) (q := 1) i_45 (by omega) (by omega)) (c_X9_120 Cx rfl rfl (rmk_ok (by omega) (by decide))) hW (by decide) rfl rfl rfl hl.1 rfl (Nat.le_of_ble_eq_true rfl) dX9_item_161 ⟨Nat.le_of_ble_eq_true rfl, Nat.le_of_ble_eq_true rfl⟩) hL (fun r_51 u_49 H locs k_50 hW hL => ?_)
          obtain ⟨eu_49, xu_49⟩ := k_50
          rw [eu_49] at hW
          have yu_49 := xu_49.2
          unfold fr8 at yu_49
          refine lv_iload_n hx hb dX9_item_164 rfl (lv_at hl 1 rfl) ?_
          refine lv_bipush (v := iv 21) hx hb dX9_item_165 (by decide) ?_
          refine r_icmp_ne (tgt := 174) hx hb ⟨(by omega), (by omega)⟩ ⟨(by omega), (by omega)⟩ dX9_item_167 (by decide) (fun c_52 => ?_) (fun c_52 => ?_)
          · refine lv_iload_n hx hb dX9_item_174 rfl (lv_at hl 0 rfl) ?_
            refine r_ineg hx hb dX9_item_175 ?_
            refine r_iadd hx hb dX9_item_176 ?_
            have lk_53 : (uF (uF (uF S 11 13 ((S.1 11 13) + 1)) 11 13 (((S.1 11 13) + 1) + 1)) 11 13 ((((S.1 11 13) + 1) + 1) + 2)).1 11 9 = S.1 11 9 := (uF_ne (fun h => absurd h.2 (by decide))).trans ((uF_ne (fun h => absurd h.2 (by decide))).trans (uF_ne (fun h => absurd h.2 (by decide))))
            have q_54 : 0 ≤ S.1 11 10 ∧ S.1 11 10 ≤ 8 := hI.fi 11 10 9 (by decide) rfl
            have lk_55 : (uF (uF (uF S 11 13 ((S.1 11 13) + 1)) 11 13 (((S.1 11 13) + 1) + 1)) 11 13 ((((S.1 11 13) + 1) + 1) + 2)).1 11 10 = S.1 11 10 := (uF_ne (fun h => absurd h.2 (by decide))).trans ((uF_ne (fun h => absurd h.2 (by decide))).trans (uF_ne (fun h => absurd h.2 (by decide))))
            have q_56 : 0 ≤ S.1 11 11 ∧ S.1 11 11 ≤ 12 := hI.fi 11 11 9 (by decide) rfl
            have lk_57 : (uF (uF (uF S 11 13 ((S.1 11 13) + 1)) 11 13 (((S.1 11 13) + 1) + 1)) 11 13 ((((S.1 11 13) + 1) + 1) + 2)).1 11 11 = S.1 11 11 := (uF_ne (fun h => absurd h.2 (by decide))).trans ((uF_ne (fun h => absurd h.2 (by decide))).trans (uF_ne (fun h => absurd h.2 (by decide))))
            have q_58 : (-2147483648) ≤ S.1 11 12 ∧ S.1 11 12 ≤ 2147483647 := hI.fi 11 12 9 (by decide) rfl
            have lk_59 : (uF (uF (uF S 11 13 ((S.1 11 13) + 1)) 11 13 (((S.1 11 13) + 1) + 1)) 11 13 ((((S.1 11 13) + 1) + 1) + 2)).1 11 12 = S.1 11 12 := (uF_ne (fun h => absurd h.2 (by decide))).trans ((uF_ne (fun h => absurd h.2 (by decide))).trans (uF_ne (fun h => absurd h.2 (by decide))))
            have q_60 : 0 ≤ S.1 11 14 ∧ S.1 11 14 ≤ 7 := hI.fi 11 14 9 (by decide) rfl
            have lk_61 : (uF (uF (uF S 11 13 ((S.1 11 13) + 1)) 11 13 (((S.1 11 13) + 1) + 1)) 11 13 ((((S.1 11 13) + 1) + 1) + 2)).1 11 14 = S.1 11 14 := (uF_ne (fun h => absurd h.2 (by decide))).trans ((uF_ne (fun h => absurd h.2 (by decide))).trans (uF_ne (fun h => absurd h.2 (by decide))))
            have lk_62 : (uF (uF (uF S 11 13 ((S.1 11 13) + 1)) 11 13 (((S.1 11 13) + 1) + 1)) 11 13 ((((S.1 11 13) + 1) + 1) + 2)).1 11 13 = (((S.1 11 13) + 1) + 1) + 2 := uF_on
            exact sIret Cx hr hlk hW hL ⟨i_45, F_44, (by have gx := ogX_i hgx; have k0 : r_6 = kd S pz := (xu_4.1.trans (congrArg (kd S) (by omega))); have f0 : r_15 = eFind N (vd S pz) := (by rw [hN.find]; have q := xu_13.2; rw [show r_10 = vd S pz from (xu_8.1.trans (congrArg (vd S) (by omega)))] at q; exact q); have c0 : r_36 = fc S r_15 0 := xu_34.1; have n0 := hN.2.2 r_15 (by omega) (by have q := hN.1.1; have q2 := xu_13.1; omega); have ps : 0 ≤ eFind N (vd S pz) ∧ N.2.2.1 (eFind N (vd S pz)) 0 = 2 := (by rw [← f0]; omega); have kb := (hK.2 _ ps.1 (by have q := hN.1; have q2 := xu_13.1; rw [← f0]; omega)).1 ps.2; rw [← f0] at kb; have k1 : r_42 = kd S (pz + 1) := (xu_40.1.trans (congrArg (kd S) (by omega))); have l0 : r_51 = N.2.2.1 r_15 1 := (xu_49.1.trans (n0.2.2.1 (by omega)).symm); have v2 : r_48 = vd S (pz + 1 + 1) := (xu_46.1.trans (congrArg (vd S) (by omega))); have gy : kd S (pz + 1 + 1) = 3 ∧ q = pz + 1 + 1 + 1 := (by rcases gx with gx | gx; (exfalso; omega); (rcases gx.2 with gy | gy; (exact gy.2); (exfalso; omega))); have tv := hTV _ gy.1; refine ⟨⟨(fun i => rfl), by omega, by omega⟩, (by omega), (fun _ => ⟨?_, (by omega)⟩), (fun z => absurd (by omega) z)⟩; unfold eI; rw [if_neg (by omega), if_pos ps, ← f0, ← l0, ← v2, gy.2]; first | (exfalso; omega) | (rw [if_pos (by omega)]) | (rw [if_neg (by omega), if_pos (by omega)]; exact congrArg some (Prod.ext (by show _ = _; omega) rfl)))⟩ dX9_item_177
          · refine lv_iload_n hx hb dX9_item_170 rfl (lv_at hl 0 rfl) ?_
            refine lv_goto (tgt := 176) hx hb dX9_item_171 (by decide) ?_
            refine r_iadd hx hb dX9_item_176 ?_
            have lk_63 : (uF (uF (uF S 11 13 ((S.1 11 13) + 1)) 11 13 (((S.1 11 13) + 1) + 1)) 11 13 ((((S.1 11 13) + 1) + 1) + 2)).1 11 9 = S.1 11 9 := (uF_ne (fun h => absurd h.2 (by decide))).trans ((uF_ne (fun h => absurd h.2 (by decide))).trans (uF_ne (fun h => absurd h.2 (by decide))))
            have q_64 : 0 ≤ S.1 11 10 ∧ S.1 11 10 ≤ 8 := hI.fi 11 10 9 (by decide) rfl
            have lk_65 : (uF (uF (uF S 11 13 ((S.1 11 13) + 1)) 11 13 (((S.1 11 13) + 1) + 1)) 11 13 ((((S.1 11 13) + 1) + 1) + 2)).1 11 10 = S.1 11 10 := (uF_ne (fun h => absurd h.2 (by decide))).trans ((uF_ne (fun h => absurd h.2 (by decide))).trans (uF_ne (fun h => absurd h.2 (by decide))))
            have q_66 : 0 ≤ S.1 11 11 ∧ S.1 11 11 ≤ 12 := hI.fi 11 11 9 (by decide) rfl
            have lk_67 : (uF (uF (uF S 11 13 ((S.1 11 13) + 1)) 11 13 (((S.1 11 13) + 1) + 1)) 11 13 ((((S.1 11 13) + 1) + 1) + 2)).1 11 11 = S.1 11 11 := (uF_ne (fun h => absurd h.2 (by decide))).trans ((uF_ne (fun h => absurd h.2 (by decide))).trans (uF_ne (fun h => absurd h.2 (by decide))))
            have q_68 : (-2147483648) ≤ S.1 11 12 ∧ S.1 11 12 ≤ 2147483647 := hI.fi 11 12 9 (by decide) rfl
            have lk_69 : (uF (uF (uF S 11 13 ((S.1 11 13) + 1)) 11 13 (((S.1 11 13) + 1) + 1)) 11 13 ((((S.1 11 13) + 1) + 1) + 2)).1 11 12 = S.1 11 12 := (uF_ne (fun h => absurd h.2 (by decide))).trans ((uF_ne (fun h => absurd h.2 (by decide))).trans (uF_ne (fun h => absurd h.2 (by decide))))
            have q_70 : 0 ≤ S.1 11 14 ∧ S.1 11 14 ≤ 7 := hI.fi 11 14 9 (by decide) rfl
            have lk_71 : (uF (uF (uF S 11 13 ((S.1 11 13) + 1)) 11 13 (((S.1 11 13) + 1) + 1)) 11 13 ((((S.1 11 13) + 1) + 1) + 2)).1 11 14 = S.1 11 14 := (uF_ne (fun h => absurd h.2 (by decide))).trans ((uF_ne (fun h => absurd h.2 (by decide))).trans (uF_ne (fun h => absurd h.2 (by decide))))
            have lk_72 : (uF (uF (uF S 11 13 ((S.1 11 13) + 1)) 11 13 (((S.1 11 13) + 1) + 1)) 11 13 ((((S.1 11 13) + 1) + 1) + 2)).1 11 13 = (((S.1 11 13) + 1) + 1) + 2 := uF_on
            exact sIret Cx hr hlk hW hL ⟨i_45, F_44, (by have gx := ogX_i hgx; have k0 : r_6 = kd S pz := (xu_4.1.trans (congrArg (kd S) (by omega))); have f0 : r_15 = eFind N (vd S pz) := (by rw [hN.find]; have q := xu_13.2; rw [show r_10 = vd S pz from (xu_8.1.trans (congrArg (vd S) (by omega)))] at q; exact q); have c0 : r_36 = fc S r_15 0 := xu_34.1; have n0 := hN.2.2 r_15 (by omega) (by have q := hN.1.1; have q2 := xu_13.1; omega); have ps : 0 ≤ eFind N (vd S pz) ∧ N.2.2.1 (eFind N (vd S pz)) 0 = 2 := (by rw [← f0]; omega); have kb := (hK.2 _ ps.1 (by have q := hN.1; have q2 := xu_13.1; rw [← f0]; omega)).1 ps.2; rw [← f0] at kb; have k1 : r_42 = kd S (pz + 1) := (xu_40.1.trans (congrArg (kd S) (by omega))); have l0 : r_51 = N.2.2.1 r_15 1 := (xu_49.1.trans (n0.2.2.1 (by omega)).symm); have v2 : r_48 = vd S (pz + 1 + 1) := (xu_46.1.trans (congrArg (vd S) (by omega))); have gy : kd S (pz + 1 + 1) = 3 ∧ q = pz + 1 + 1 + 1 := (by rcases gx with gx | gx; (exfalso; omega); (rcases gx.2 with gy | gy; (exact gy.2); (exfalso; omega))); have tv := hTV _ gy.1; refine ⟨⟨(fun i => rfl), by omega, by omega⟩, (by omega), (fun _ => ⟨?_, (by omega)⟩), (fun z => absurd (by omega) z)⟩; unfold eI; rw [if_neg (by omega), if_pos ps, ← f0, ← l0, ← v2, gy.2]; first | (exfalso; omega) | (rw [if_pos (by omega)]) | (rw [if_neg (by omega), if_pos (by omega)]; exact congrArg some (Prod.ext (by show _ = _; omega) rfl)))⟩ dX9_item_177
        · refine lv_iload_n hx hb dX9_item_120 rfl (lv_at hl 0 rfl) ?_
          refine lv_bipush (v := iv 22) hx hb dX9_item_121 (by decide) ?_
          refine r_icmp_eq (tgt := 133) hx hb ⟨(by omega), (by omega)⟩ ⟨(by omega), (by omega)⟩ dX9_item_123 (by decide) (fun c_73 => ?_) (fun c_73 => ?_)
          · refine lv_aload_n hx hb dX9_item_133 rfl (lv_at hl 2 rfl) ?_
            refine lv_dup hx hb dX9_item_134 rfl ?_
            refine g_X9_89 Cx hW (k := 11) (by decide) rfl (v := ((S.1 11 13) + 1) + 1) uF_on dX9_item_135 ?_
            refine lv_iconst (v := iv 2) hx hb dX9_item_138 (by decide) ?_
            refine r_iadd hx hb dX9_item_139 ?_
            refine p_X9_89 Cx hW hL (k := 11) (by decide) rfl dX9_item_140 (fun H locs hW hL => ?_)
            have F_74 : Fr S (uF (uF (uF S 11 13 ((S.1 11 13) + 1)) 11 13 (((S.1 11 13) + 1) + 1)) 11 13 ((((S.1 11 13) + 1) + 1) + 2)) (p1 11) := F_38.F rfl
            have i_75 : cX G (uF (uF (uF S 11 13 ((S.1 11 13) + 1)) 11 13 (((S.1 11 13) + 1) + 1)) 11 13 ((((S.1 11 13) + 1) + 1) + 2)) 0 0 0 := i_39.F rfl rfl (show (-2147483648) ≤ (((S.1 11 13) + 1) + 1) + 2 ∧ (((S.1 11 13) + 1) + 1) + 2 ≤ 2147483647 from ⟨by omega, by omega⟩)
            refine lv_aload_n hx hb dX9_item_143 rfl (lv_at hl 2 rfl) ?_
            refine g_X9_14 Cx hW (k := 11) (by decide) rfl (v := .ref (G.2.2.1 + 12)) (rf_11_0 i_75) dX9_item_144 ?_
            refine lv_aload_n hx hb dX9_item_147 rfl (lv_at hl 2 rfl) ?_
            refine g_X9_89 Cx hW (k := 11) (by decide) rfl (v := (((S.1 11 13) + 1) + 1) + 2) uF_on dX9_item_148 ?_
            refine lv_iconst (v := iv 1) hx hb dX9_item_151 (by decide) ?_
            refine r_isub hx hb dX9_item_152 ?_
            refine sBl (sV (As := [.int (iv (((((S.1 11 13) + 1) + 1) + 2) - 1))]) (rest := []) (k := 12) Cx (s_X8_value l G (uF (uF (uF S 11 13 ((S.1 11 13) + 1)) 11 13 (((S.1 11 13) + 1) + 1)) 11 13 ((((S.1 11 13) + 1) + 1) + 2)) (k := ((((S.1 11 13) + 1) + 1) + 2) - 1) i_75 (by omega)) (c_X9_124 Cx rfl rfl (rmk_ok (by omega) (by decide))) hW (by decide) rfl rfl rfl hl.1 rfl (Nat.le_of_ble_eq_true rfl) dX9_item_153 ⟨Nat.le_of_ble_eq_true rfl, Nat.le_of_ble_eq_true rfl⟩) hL (fun r_78 u_76 H locs k_77 hW hL => ?_)
            obtain ⟨eu_76, xu_76⟩ := k_77
            rw [eu_76] at hW
            refine r_l2i hx hb dX9_item_156 ?_
            refine lv_istore_n (lv' := [(3, .int (iv r_78)), (2, .int (iv r_42)), (1, .int (iv r_15)), (0, .ref (G.2.2.1 + 11))]) hx hb dX9_item_157 rfl hl (by decide) rfl (fun ls hl => ?_)
            refine lv_aload_n hx hb dX9_item_158 rfl (lv_at hl 3 rfl) ?_
            refine lv_iload_n hx hb dX9_item_159 rfl (lv_at hl 2 rfl) ?_
            refine lv_iconst (v := iv 1) hx hb dX9_item_160 (by decide) ?_
            refine sBi (sV (As := [.int (iv r_15), .int (iv 1)]) (rest := []) (k := 11) Cx (s_X9_fact l G (uF (uF (uF S 11 13 ((S.1 11 13) + 1)) 11 13 (((S.1 11 13) + 1) + 1)) 11 13 ((((S.1 11 13) + 1) + 1) + 2)) (s0 := r_15) (q := 1) i_75 (by omega) (by omega)) (c_X9_120 Cx rfl rfl (rmk_ok (by omega) (by decide))) hW (by decide) rfl rfl rfl hl.1 rfl (Nat.le_of_ble_eq_true rfl) dX9_item_161 ⟨Nat.le_of_ble_eq_true rfl, Nat.le_of_ble_eq_true rfl⟩) hL (fun r_81 u_79 H locs k_80 hW hL => ?_)
            obtain ⟨eu_79, xu_79⟩ := k_80
            rw [eu_79] at hW
            have yu_79 := xu_79.2
            unfold fr8 at yu_79
            refine lv_iload_n hx hb dX9_item_164 rfl (lv_at hl 1 rfl) ?_
            refine lv_bipush (v := iv 21) hx hb dX9_item_165 (by decide) ?_
            refine r_icmp_ne (tgt := 174) hx hb ⟨(by omega), (by omega)⟩ ⟨(by omega), (by omega)⟩ dX9_item_167 (by decide) (fun c_82 => ?_) (fun c_82 => ?_)
            · refine lv_iload_n hx hb dX9_item_174 rfl (lv_at hl 0 rfl) ?_
              refine r_ineg hx hb dX9_item_175 ?_
              refine r_iadd hx hb dX9_item_176 ?_
              have lk_83 : (uF (uF (uF S 11 13 ((S.1 11 13) + 1)) 11 13 (((S.1 11 13) + 1) + 1)) 11 13 ((((S.1 11 13) + 1) + 1) + 2)).1 11 9 = S.1 11 9 := (uF_ne (fun h => absurd h.2 (by decide))).trans ((uF_ne (fun h => absurd h.2 (by decide))).trans (uF_ne (fun h => absurd h.2 (by decide))))
              have q_84 : 0 ≤ S.1 11 10 ∧ S.1 11 10 ≤ 8 := hI.fi 11 10 9 (by decide) rfl
              have lk_85 : (uF (uF (uF S 11 13 ((S.1 11 13) + 1)) 11 13 (((S.1 11 13) + 1) + 1)) 11 13 ((((S.1 11 13) + 1) + 1) + 2)).1 11 10 = S.1 11 10 := (uF_ne (fun h => absurd h.2 (by decide))).trans ((uF_ne (fun h => absurd h.2 (by decide))).trans (uF_ne (fun h => absurd h.2 (by decide))))
              have q_86 : 0 ≤ S.1 11 11 ∧ S.1 11 11 ≤ 12 := hI.fi 11 11 9 (by decide) rfl
              have lk_87 : (uF (uF (uF S 11 13 ((S.1 11 13) + 1)) 11 13 (((S.1 11 13) + 1) + 1)) 11 13 ((((S.1 11 13) + 1) + 1) + 2)).1 11 11 = S.1 11 11 := (uF_ne (fun h => absurd h.2 (by decide))).trans ((uF_ne (fun h => absurd h.2 (by decide))).trans (uF_ne (fun h => absurd h.2 (by decide))))
              have q_88 : (-2147483648) ≤ S.1 11 12 ∧ S.1 11 12 ≤ 2147483647 := hI.fi 11 12 9 (by decide) rfl
              have lk_89 : (uF (uF (uF S 11 13 ((S.1 11 13) + 1)) 11 13 (((S.1 11 13) + 1) + 1)) 11 13 ((((S.1 11 13) + 1) + 1) + 2)).1 11 12 = S.1 11 12 := (uF_ne (fun h => absurd h.2 (by decide))).trans ((uF_ne (fun h => absurd h.2 (by decide))).trans (uF_ne (fun h => absurd h.2 (by decide))))
              have q_90 : 0 ≤ S.1 11 14 ∧ S.1 11 14 ≤ 7 := hI.fi 11 14 9 (by decide) rfl
              have lk_91 : (uF (uF (uF S 11 13 ((S.1 11 13) + 1)) 11 13 (((S.1 11 13) + 1) + 1)) 11 13 ((((S.1 11 13) + 1) + 1) + 2)).1 11 14 = S.1 11 14 := (uF_ne (fun h => absurd h.2 (by decide))).trans ((uF_ne (fun h => absurd h.2 (by decide))).trans (uF_ne (fun h => absurd h.2 (by decide))))
              have lk_92 : (uF (uF (uF S 11 13 ((S.1 11 13) + 1)) 11 13 (((S.1 11 13) + 1) + 1)) 11 13 ((((S.1 11 13) + 1) + 1) + 2)).1 11 13 = (((S.1 11 13) + 1) + 1) + 2 := uF_on
              exact sIret Cx hr hlk hW hL ⟨i_75, F_74, (by have gx := ogX_i hgx; have k0 : r_6 = kd S pz := (xu_4.1.trans (congrArg (kd S) (by omega))); have f0 : r_15 = eFind N (vd S pz) := (by rw [hN.find]; have q := xu_13.2; rw [show r_10 = vd S pz from (xu_8.1.trans (congrArg (vd S) (by omega)))] at q; exact q); have c0 : r_36 = fc S r_15 0 := xu_34.1; have n0 := hN.2.2 r_15 (by omega) (by have q := hN.1.1; have q2 := xu_13.1; omega); have ps : 0 ≤ eFind N (vd S pz) ∧ N.2.2.1 (eFind N (vd S pz)) 0 = 2 := (by rw [← f0]; omega); have kb := (hK.2 _ ps.1 (by have q := hN.1; have q2 := xu_13.1; rw [← f0]; omega)).1 ps.2; rw [← f0] at kb; have k1 : r_42 = kd S (pz + 1) := (xu_40.1.trans (congrArg (kd S) (by omega))); have l0 : r_81 = N.2.2.1 r_15 1 := (xu_79.1.trans (n0.2.2.1 (by omega)).symm); have v2 : r_78 = vd S (pz + 1 + 1) := (xu_76.1.trans (congrArg (vd S) (by omega))); have gy : kd S (pz + 1 + 1) = 3 ∧ q = pz + 1 + 1 + 1 := (by rcases gx with gx | gx; (exfalso; omega); (rcases gx.2 with gy | gy; (exact gy.2); (exfalso; omega))); have tv := hTV _ gy.1; refine ⟨⟨(fun i => rfl), by omega, by omega⟩, (by omega), (fun _ => ⟨?_, (by omega)⟩), (fun z => absurd (by omega) z)⟩; unfold eI; rw [if_neg (by omega), if_pos ps, ← f0, ← l0, ← v2, gy.2]; first | (exfalso; omega) | (rw [if_pos (by omega)]) | (rw [if_neg (by omega), if_pos (by omega)]; exact congrArg some (Prod.ext (by show _ = _; omega) rfl)))⟩ dX9_item_177
            · refine lv_iload_n hx hb dX9_item_170 rfl (lv_at hl 0 rfl) ?_
              refine lv_goto (tgt := 176) hx hb dX9_item_171 (by decide) ?_
              refine r_iadd hx hb dX9_item_176 ?_
              have lk_93 : (uF (uF (uF S 11 13 ((S.1 11 13) + 1)) 11 13 (((S.1 11 13) + 1) + 1)) 11 13 ((((S.1 11 13) + 1) + 1) + 2)).1 11 9 = S.1 11 9 := (uF_ne (fun h => absurd h.2 (by decide))).trans ((uF_ne (fun h => absurd h.2 (by decide))).trans (uF_ne (fun h => absurd h.2 (by decide))))
              have q_94 : 0 ≤ S.1 11 10 ∧ S.1 11 10 ≤ 8 := hI.fi 11 10 9 (by decide) rfl
              have lk_95 : (uF (uF (uF S 11 13 ((S.1 11 13) + 1)) 11 13 (((S.1 11 13) + 1) + 1)) 11 13 ((((S.1 11 13) + 1) + 1) + 2)).1 11 10 = S.1 11 10 := (uF_ne (fun h => absurd h.2 (by decide))).trans ((uF_ne (fun h => absurd h.2 (by decide))).trans (uF_ne (fun h => absurd h.2 (by decide))))
              have q_96 : 0 ≤ S.1 11 11 ∧ S.1 11 11 ≤ 12 := hI.fi 11 11 9 (by decide) rfl
              have lk_97 : (uF (uF (uF S 11 13 ((S.1 11 13) + 1)) 11 13 (((S.1 11 13) + 1) + 1)) 11 13 ((((S.1 11 13) + 1) + 1) + 2)).1 11 11 = S.1 11 11 := (uF_ne (fun h => absurd h.2 (by decide))).trans ((uF_ne (fun h => absurd h.2 (by decide))).trans (uF_ne (fun h => absurd h.2 (by decide))))
              have q_98 : (-2147483648) ≤ S.1 11 12 ∧ S.1 11 12 ≤ 2147483647 := hI.fi 11 12 9 (by decide) rfl
              have lk_99 : (uF (uF (uF S 11 13 ((S.1 11 13) + 1)) 11 13 (((S.1 11 13) + 1) + 1)) 11 13 ((((S.1 11 13) + 1) + 1) + 2)).1 11 12 = S.1 11 12 := (uF_ne (fun h => absurd h.2 (by decide))).trans ((uF_ne (fun h => absurd h.2 (by decide))).trans (uF_ne (fun h => absurd h.2 (by decide))))
              have q_100 : 0 ≤ S.1 11 14 ∧ S.1 11 14 ≤ 7 := hI.fi 11 14 9 (by decide) rfl
              have lk_101 : (uF (uF (uF S 11 13 ((S.1 11 13) + 1)) 11 13 (((S.1 11 13) + 1) + 1)) 11 13 ((((S.1 11 13) + 1) + 1) + 2)).1 11 14 = S.1 11 14 := (uF_ne (fun h => absurd h.2 (by decide))).trans ((uF_ne (fun h => absurd h.2 (by decide))).trans (uF_ne (fun h => absurd h.2 (by decide))))
              have lk_102 : (uF (uF (uF S 11 13 ((S.1 11 13) + 1)) 11 13 (((S.1 11 13) + 1) + 1)) 11 13 ((((S.1 11 13) + 1) + 1) + 2)).1 11 13 = (((S.1 11 13) + 1) + 1) + 2 := uF_on
              exact sIret Cx hr hlk hW hL ⟨i_75, F_74, (by have gx := ogX_i hgx; have k0 : r_6 = kd S pz := (xu_4.1.trans (congrArg (kd S) (by omega))); have f0 : r_15 = eFind N (vd S pz) := (by rw [hN.find]; have q := xu_13.2; rw [show r_10 = vd S pz from (xu_8.1.trans (congrArg (vd S) (by omega)))] at q; exact q); have c0 : r_36 = fc S r_15 0 := xu_34.1; have n0 := hN.2.2 r_15 (by omega) (by have q := hN.1.1; have q2 := xu_13.1; omega); have ps : 0 ≤ eFind N (vd S pz) ∧ N.2.2.1 (eFind N (vd S pz)) 0 = 2 := (by rw [← f0]; omega); have kb := (hK.2 _ ps.1 (by have q := hN.1; have q2 := xu_13.1; rw [← f0]; omega)).1 ps.2; rw [← f0] at kb; have k1 : r_42 = kd S (pz + 1) := (xu_40.1.trans (congrArg (kd S) (by omega))); have l0 : r_81 = N.2.2.1 r_15 1 := (xu_79.1.trans (n0.2.2.1 (by omega)).symm); have v2 : r_78 = vd S (pz + 1 + 1) := (xu_76.1.trans (congrArg (vd S) (by omega))); have gy : kd S (pz + 1 + 1) = 3 ∧ q = pz + 1 + 1 + 1 := (by rcases gx with gx | gx; (exfalso; omega); (rcases gx.2 with gy | gy; (exact gy.2); (exfalso; omega))); have tv := hTV _ gy.1; refine ⟨⟨(fun i => rfl), by omega, by omega⟩, (by omega), (fun _ => ⟨?_, (by omega)⟩), (fun z => absurd (by omega) z)⟩; unfold eI; rw [if_neg (by omega), if_pos ps, ← f0, ← l0, ← v2, gy.2]; first | (exfalso; omega) | (rw [if_pos (by omega)]) | (rw [if_neg (by omega), if_pos (by omega)]; exact congrArg some (Prod.ext (by show _ = _; omega) rfl)))⟩ dX9_item_177
          · refine lv_aload_n hx hb dX9_item_126 rfl (lv_at hl 2 rfl) ?_
            refine lv_iload_n hx hb dX9_item_127 rfl (lv_at hl 1 rfl) ?_
            refine lv_iconst (v := iv 1) hx hb dX9_item_128 (by decide) ?_
            refine sBi (sV (As := [.int (iv r_15), .int (iv 1)]) (rest := []) (k := 11) Cx (s_X9_fact l G (uF (uF S 11 13 ((S.1 11 13) + 1)) 11 13 (((S.1 11 13) + 1) + 1)) (s0 := r_15) (q := 1) i_39 (by omega) (by omega)) (c_X9_120 Cx rfl rfl (rmk_ok (by omega) (by decide))) hW (by decide) rfl rfl rfl hl.1 rfl (Nat.le_of_ble_eq_true rfl) dX9_item_129 ⟨Nat.le_of_ble_eq_true rfl, Nat.le_of_ble_eq_true rfl⟩) hL (fun r_105 u_103 H locs k_104 hW hL => ?_)
            obtain ⟨eu_103, xu_103⟩ := k_104
            rw [eu_103] at hW
            have yu_103 := xu_103.2
            unfold fr8 at yu_103
            have lk_106 : (uF (uF S 11 13 ((S.1 11 13) + 1)) 11 13 (((S.1 11 13) + 1) + 1)).1 11 9 = S.1 11 9 := (uF_ne (fun h => absurd h.2 (by decide))).trans (uF_ne (fun h => absurd h.2 (by decide)))
            have q_107 : 0 ≤ S.1 11 10 ∧ S.1 11 10 ≤ 8 := hI.fi 11 10 9 (by decide) rfl
            have lk_108 : (uF (uF S 11 13 ((S.1 11 13) + 1)) 11 13 (((S.1 11 13) + 1) + 1)).1 11 10 = S.1 11 10 := (uF_ne (fun h => absurd h.2 (by decide))).trans (uF_ne (fun h => absurd h.2 (by decide)))
            have q_109 : 0 ≤ S.1 11 11 ∧ S.1 11 11 ≤ 12 := hI.fi 11 11 9 (by decide) rfl
            have lk_110 : (uF (uF S 11 13 ((S.1 11 13) + 1)) 11 13 (((S.1 11 13) + 1) + 1)).1 11 11 = S.1 11 11 := (uF_ne (fun h => absurd h.2 (by decide))).trans (uF_ne (fun h => absurd h.2 (by decide)))
            have q_111 : (-2147483648) ≤ S.1 11 12 ∧ S.1 11 12 ≤ 2147483647 := hI.fi 11 12 9 (by decide) rfl
            have lk_112 : (uF (uF S 11 13 ((S.1 11 13) + 1)) 11 13 (((S.1 11 13) + 1) + 1)).1 11 12 = S.1 11 12 := (uF_ne (fun h => absurd h.2 (by decide))).trans (uF_ne (fun h => absurd h.2 (by decide)))
            have q_113 : 0 ≤ S.1 11 14 ∧ S.1 11 14 ≤ 7 := hI.fi 11 14 9 (by decide) rfl
            have lk_114 : (uF (uF S 11 13 ((S.1 11 13) + 1)) 11 13 (((S.1 11 13) + 1) + 1)).1 11 14 = S.1 11 14 := (uF_ne (fun h => absurd h.2 (by decide))).trans (uF_ne (fun h => absurd h.2 (by decide)))
            have lk_115 : (uF (uF S 11 13 ((S.1 11 13) + 1)) 11 13 (((S.1 11 13) + 1) + 1)).1 11 13 = ((S.1 11 13) + 1) + 1 := uF_on
            exact sIret Cx hr hlk hW hL ⟨i_39, F_38, (by have gx := ogX_i hgx; have k0 : r_6 = kd S pz := (xu_4.1.trans (congrArg (kd S) (by omega))); have f0 : r_15 = eFind N (vd S pz) := (by rw [hN.find]; have q := xu_13.2; rw [show r_10 = vd S pz from (xu_8.1.trans (congrArg (vd S) (by omega)))] at q; exact q); have c0 : r_36 = fc S r_15 0 := xu_34.1; have n0 := hN.2.2 r_15 (by omega) (by have q := hN.1.1; have q2 := xu_13.1; omega); have ps : 0 ≤ eFind N (vd S pz) ∧ N.2.2.1 (eFind N (vd S pz)) 0 = 2 := (by rw [← f0]; omega); have kb := (hK.2 _ ps.1 (by have q := hN.1; have q2 := xu_13.1; rw [← f0]; omega)).1 ps.2; rw [← f0] at kb; have k1 : r_42 = kd S (pz + 1) := (xu_40.1.trans (congrArg (kd S) (by omega))); have l0 : r_105 = N.2.2.1 r_15 1 := (xu_103.1.trans (n0.2.2.1 (by omega)).symm); refine ⟨⟨(fun i => rfl), by omega, by omega⟩, (by omega), (fun _ => ⟨?_, ?_⟩), (fun z => absurd (by omega) z)⟩; (unfold eI; rw [if_neg (by omega), if_pos ps, if_neg (by omega), if_neg (by omega), ← f0, l0]; rcases gx with gx | gx; (exfalso; omega); (rcases gx.2 with gy | gy; (exfalso; omega); (rw [gy.2]))); (rcases gx with gx | gx; (exfalso; omega); (rcases gx.2 with gy | gy; (exfalso; omega); omega)))⟩ dX9_item_132
      · refine lv_aload_n hx hb dX9_item_80 rfl (lv_at hl 1 rfl) ?_
        refine lv_iconst (v := iv 2) hx hb dX9_item_81 (by decide) ?_
        refine lv_aload_n hx hb dX9_item_82 rfl (lv_at hl 1 rfl) ?_
        refine g_X9_89 Cx hW (k := 11) (by decide) rfl (v := (S.1 11 13) + 1) uF_on dX9_item_83 ?_
        have lk_116 : (uF S 11 13 ((S.1 11 13) + 1)).1 11 13 = (S.1 11 13) + 1 := uF_on
        have q_117 : 0 ≤ S.1 11 10 ∧ S.1 11 10 ≤ 8 := hI.fi 11 10 9 (by decide) rfl
        have lk_118 : (uF S 11 13 ((S.1 11 13) + 1)).1 11 10 = S.1 11 10 := uF_ne (fun h => absurd h.2 (by decide))
        have q_119 : 0 ≤ S.1 11 11 ∧ S.1 11 11 ≤ 12 := hI.fi 11 11 9 (by decide) rfl
        have lk_120 : (uF S 11 13 ((S.1 11 13) + 1)).1 11 11 = S.1 11 11 := uF_ne (fun h => absurd h.2 (by decide))
        have q_121 : (-2147483648) ≤ S.1 11 12 ∧ S.1 11 12 ≤ 2147483647 := hI.fi 11 12 9 (by decide) rfl
        have lk_122 : (uF S 11 13 ((S.1 11 13) + 1)).1 11 12 = S.1 11 12 := uF_ne (fun h => absurd h.2 (by decide))
        refine sBi (sV (As := [.int (iv 2), .int (iv ((S.1 11 13) + 1))]) (rest := []) (k := 11) Cx (e_X9_fail l G (uF S 11 13 ((S.1 11 13) + 1)) (k := 2) (tk := (S.1 11 13) + 1) i_3 (by omega) (by omega)) (c_X9_132 Cx rfl rfl (rmk_ok (by omega) (by decide))) hW (by decide) rfl rfl rfl hl.1 rfl (Nat.le_of_ble_eq_true rfl) dX9_item_86 ⟨Nat.le_of_ble_eq_true rfl, Nat.le_of_ble_eq_true rfl⟩) hL (fun r_125 u_123 H locs k_124 hW hL => ?_)
        obtain ⟨iu_123, fu_123, xu_123⟩ := k_124
        have F_126 := F_2.trans fu_123
        refine lv_pop hx hb dX9_item_89 rfl ?_
        refine lv_iconst (v := iv 0) hx hb dX9_item_90 (by decide) ?_
        have q_127 : 0 ≤ u_123.1 11 9 ∧ u_123.1 11 9 ≤ 128 := iu_123.fi 11 9 9 (by decide) rfl
        have q_128 : 0 ≤ u_123.1 11 10 ∧ u_123.1 11 10 ≤ 8 := iu_123.fi 11 10 9 (by decide) rfl
        have q_129 : 0 ≤ u_123.1 11 11 ∧ u_123.1 11 11 ≤ 12 := iu_123.fi 11 11 9 (by decide) rfl
        have q_130 : (-2147483648) ≤ u_123.1 11 12 ∧ u_123.1 11 12 ≤ 2147483647 := iu_123.fi 11 12 9 (by decide) rfl
        have q_131 : 0 ≤ u_123.1 11 14 ∧ u_123.1 11 14 ≤ 7 := iu_123.fi 11 14 9 (by decide) rfl
        have q_132 : (-2147483648) ≤ u_123.1 11 13 ∧ u_123.1 11 13 ≤ 2147483647 := iu_123.fi 11 13 9 (by decide) rfl
        exact sIret Cx hr hlk hW hL ⟨iu_123, F_126, (by have gx := ogX_i hgx; have k0 : r_6 = kd S pz := (xu_4.1.trans (congrArg (kd S) (by omega))); have f0 : r_15 = eFind N (vd S pz) := (by rw [hN.find]; have q := xu_13.2; rw [show r_10 = vd S pz from (xu_8.1.trans (congrArg (vd S) (by omega)))] at q; exact q); have c0 : r_36 = fc S r_15 0 := xu_34.1; have n0 := hN.2.2 r_15 (by omega) (by have q := hN.1.1; have q2 := xu_13.1; omega); have ng : ¬ (0 ≤ eFind N (vd S pz) ∧ N.2.2.1 (eFind N (vd S pz)) 0 = 2) := (by rw [← f0]; omega); refine ⟨⟨(fun i => (xu_123.2.2.2.2.2.2.2 i)), by omega, by omega⟩, (by omega), (fun z => absurd z (by omega)), (fun _ => ?_)⟩; unfold eI; rw [if_neg (by omega), if_neg ng])⟩ dX9_item_91
  · refine lv_aload_n hx hb dX9_item_25 rfl (lv_at hl 0 rfl) ?_
    refine lv_dup hx hb dX9_item_26 rfl ?_
    refine g_X9_89 Cx hW (k := 11) (by decide) rfl (v := (S.1 11 13) + 1) uF_on dX9_item_27 ?_
    refine lv_iconst (v := iv 1) hx hb dX9_item_30 (by decide) ?_
    refine r_iadd hx hb dX9_item_31 ?_
    refine p_X9_89 Cx hW hL (k := 11) (by decide) rfl dX9_item_32 (fun H locs hW hL => ?_)
    have F_133 : Fr S (uF (uF S 11 13 ((S.1 11 13) + 1)) 11 13 (((S.1 11 13) + 1) + 1)) (p1 11) := F_2.F rfl
    have i_134 : cX G (uF (uF S 11 13 ((S.1 11 13) + 1)) 11 13 (((S.1 11 13) + 1) + 1)) 0 0 0 := i_3.F rfl rfl (show (-2147483648) ≤ ((S.1 11 13) + 1) + 1 ∧ ((S.1 11 13) + 1) + 1 ≤ 2147483647 from ⟨by omega, by omega⟩)
    refine lv_aload_n hx hb dX9_item_35 rfl (lv_at hl 0 rfl) ?_
    refine g_X9_14 Cx hW (k := 11) (by decide) rfl (v := .ref (G.2.2.1 + 12)) (rf_11_0 i_134) dX9_item_36 ?_
    refine lv_aload_n hx hb dX9_item_39 rfl (lv_at hl 0 rfl) ?_
    refine g_X9_89 Cx hW (k := 11) (by decide) rfl (v := ((S.1 11 13) + 1) + 1) uF_on dX9_item_40 ?_
    refine lv_iconst (v := iv 1) hx hb dX9_item_43 (by decide) ?_
    refine r_isub hx hb dX9_item_44 ?_
    refine sBl (sV (As := [.int (iv ((((S.1 11 13) + 1) + 1) - 1))]) (rest := []) (k := 12) Cx (s_X8_value l G (uF (uF S 11 13 ((S.1 11 13) + 1)) 11 13 (((S.1 11 13) + 1) + 1)) (k := (((S.1 11 13) + 1) + 1) - 1) i_134 (by omega)) (c_X9_124 Cx rfl rfl (rmk_ok (by omega) (by decide))) hW (by decide) rfl rfl rfl hl.1 rfl (Nat.le_of_ble_eq_true rfl) dX9_item_45 ⟨Nat.le_of_ble_eq_true rfl, Nat.le_of_ble_eq_true rfl⟩) hL (fun r_137 u_135 H locs k_136 hW hL => ?_)
    obtain ⟨eu_135, xu_135⟩ := k_136
    rw [eu_135] at hW
    refine r_l2i hx hb dX9_item_48 ?_
    have q_138 : 0 ≤ S.1 11 9 ∧ S.1 11 9 ≤ 128 := hI.fi 11 9 9 (by decide) rfl
    have lk_139 : (uF (uF S 11 13 ((S.1 11 13) + 1)) 11 13 (((S.1 11 13) + 1) + 1)).1 11 9 = S.1 11 9 := (uF_ne (fun h => absurd h.2 (by decide))).trans (uF_ne (fun h => absurd h.2 (by decide)))
    have q_140 : 0 ≤ S.1 11 10 ∧ S.1 11 10 ≤ 8 := hI.fi 11 10 9 (by decide) rfl
    have lk_141 : (uF (uF S 11 13 ((S.1 11 13) + 1)) 11 13 (((S.1 11 13) + 1) + 1)).1 11 10 = S.1 11 10 := (uF_ne (fun h => absurd h.2 (by decide))).trans (uF_ne (fun h => absurd h.2 (by decide)))
    have q_142 : 0 ≤ S.1 11 11 ∧ S.1 11 11 ≤ 12 := hI.fi 11 11 9 (by decide) rfl
    have lk_143 : (uF (uF S 11 13 ((S.1 11 13) + 1)) 11 13 (((S.1 11 13) + 1) + 1)).1 11 11 = S.1 11 11 := (uF_ne (fun h => absurd h.2 (by decide))).trans (uF_ne (fun h => absurd h.2 (by decide)))
    have q_144 : (-2147483648) ≤ S.1 11 12 ∧ S.1 11 12 ≤ 2147483647 := hI.fi 11 12 9 (by decide) rfl
    have lk_145 : (uF (uF S 11 13 ((S.1 11 13) + 1)) 11 13 (((S.1 11 13) + 1) + 1)).1 11 12 = S.1 11 12 := (uF_ne (fun h => absurd h.2 (by decide))).trans (uF_ne (fun h => absurd h.2 (by decide)))
    have q_146 : 0 ≤ S.1 11 14 ∧ S.1 11 14 ≤ 7 := hI.fi 11 14 9 (by decide) rfl
    have lk_147 : (uF (uF S 11 13 ((S.1 11 13) + 1)) 11 13 (((S.1 11 13) + 1) + 1)).1 11 14 = S.1 11 14 := (uF_ne (fun h => absurd h.2 (by decide))).trans (uF_ne (fun h => absurd h.2 (by decide)))
    have lk_148 : (uF (uF S 11 13 ((S.1 11 13) + 1)) 11 13 (((S.1 11 13) + 1) + 1)).1 11 13 = ((S.1 11 13) + 1) + 1 := uF_on
    exact sIret Cx hr hlk hW hL ⟨i_134, F_133, (by have gx := ogX_i hgx; have k0 : r_6 = kd S pz := (xu_4.1.trans (congrArg (kd S) (by omega))); have v0 : r_137 = vd S pz := (xu_135.1.trans (congrArg (vd S) (by omega))); have q3 : kd S pz = 3 := (by omega); have q4 := hTV pz q3; refine ⟨⟨(fun i => rfl), by omega, by omega⟩, (by omega), (fun _ => ⟨?_, ?_⟩), (fun z => absurd (by omega) z)⟩; (unfold eI; rw [if_pos q3, v0]; rcases gx with gx | gx; (rw [gx.2]); (exfalso; omega)); (rcases gx with gx | gx <;> omega))⟩ dX9_item_49

set_option maxRecDepth 100000 in
set_option maxHeartbeats 4000000 in
theorem e_X9_canBeFactor (l : Launch) (G : sG) (S : sS) {s0 : Int} (hI : cX G S 0 0 0) (hs : -1 ≤ s0 ∧ s0 ≤ 127) (hat : 0 ≤ S.1 11 13 ∧ S.1 11 13 ≤ 2001) : Met l yX9_canBeFactor (.code yX9_canBeFactor cX9_canBeFactor 2 (some .boolean) :: tb) (rmk 3 0 0) (sPc G 294 S [.ref (G.2.2.1 + 11), .int (iv s0)]) (sQi G 294 (fun r u => u = S ∧ ((0 ≤ r ∧ r ≤ 1) ∧ Hd (r = 1 → ((0 ≤ s0 ∧ fc S s0 0 = 2 ∧ kd S (S.1 11 13 + 1) ≠ 17) ∨ (0 ≤ s0 ∧ (fc S s0 0 = 7 ∨ fc S s0 0 = 8)))) ∧ Hd (r = 0 → ¬ ((0 ≤ s0 ∧ fc S s0 0 = 2 ∧ kd S (S.1 11 13 + 1) ≠ 17) ∨ (0 ≤ s0 ∧ (fc S s0 0 = 7 ∨ fc S s0 0 = 8))))))) 0 0 (sF G) := by
  refine sEnter (by decide) (Nat.le_of_ble_eq_true rfl) ?_
  intro p e s m args below meth c Cx hr hlk hnm hW ls hl
  have Cx : sC G p m c cX9_canBeFactor 2 s args RX9 := Cx
  obtain ⟨hx, hb, hml, hown, hts⟩ := id Cx.1
  have hL : sL G [] := sL_nil
  have hl : lv_has ls 2 [(0, .ref (G.2.2.1 + 11)), (1, .int (iv s0))] := hl
  have hW0 := hW
  refine lv_aload_n hx hb dX9_canBeFactor_0 rfl (lv_at hl 0 rfl) ?_
  refine lv_iload_n hx hb dX9_canBeFactor_1 rfl (lv_at hl 1 rfl) ?_
  refine lv_iconst (v := iv 2) hx hb dX9_canBeFactor_2 (by decide) ?_
  refine sBi (sV (As := [.int (iv s0), .int (iv 2)]) (rest := []) (k := 11) Cx (e_X9_isSort l G S (s0 := s0) (k := 2) hI (by omega) (by omega)) (c_X9_146 Cx rfl rfl (rmk_ok (by omega) (by decide))) hW (by decide) rfl rfl rfl hl.1 rfl (Nat.le_of_ble_eq_true rfl) dX9_canBeFactor_3 ⟨Nat.le_of_ble_eq_true rfl, Nat.le_of_ble_eq_true rfl⟩) hL (fun r_3 u_1 H locs k_2 hW hL => ?_)
  obtain ⟨eu_1, xu_1⟩ := k_2
  rw [eu_1] at hW
  refine r_if_eq (tgt := 33) hx hb ⟨(by omega), (by omega)⟩ dX9_canBeFactor_6 (by decide) (fun c_4 => ?_) (fun c_4 => ?_)
  · refine lv_aload_n hx hb dX9_canBeFactor_33 rfl (lv_at hl 0 rfl) ?_
    refine lv_iload_n hx hb dX9_canBeFactor_34 rfl (lv_at hl 1 rfl) ?_
    refine lv_bipush (v := iv 7) hx hb dX9_canBeFactor_35 (by decide) ?_
    refine sBi (sV (As := [.int (iv s0), .int (iv 7)]) (rest := []) (k := 11) Cx (e_X9_isSort l G S (s0 := s0) (k := 7) hI (by omega) (by omega)) (c_X9_146 Cx rfl rfl (rmk_ok (by omega) (by decide))) hW (by decide) rfl rfl rfl hl.1 rfl (Nat.le_of_ble_eq_true rfl) dX9_canBeFactor_37 ⟨Nat.le_of_ble_eq_true rfl, Nat.le_of_ble_eq_true rfl⟩) hL (fun r_7 u_5 H locs k_6 hW hL => ?_)
    obtain ⟨eu_5, xu_5⟩ := k_6
    rw [eu_5] at hW
    refine r_if_ne (tgt := 53) hx hb ⟨(by omega), (by omega)⟩ dX9_canBeFactor_40 (by decide) (fun c_8 => ?_) (fun c_8 => ?_)
    · refine lv_iconst (v := iv 1) hx hb dX9_canBeFactor_53 (by decide) ?_
      refine lv_goto (tgt := 58) hx hb dX9_canBeFactor_54 (by decide) ?_
      exact sZret Cx hr hlk hW hL (by omega) ⟨rfl, ⟨(by omega), (fun _ => by have a0 := xu_1.2.2 (by omega); have a1 := xu_5.2.1 (by omega); omega), (fun h => absurd h (by decide))⟩⟩ dX9_canBeFactor_58
    · refine lv_aload_n hx hb dX9_canBeFactor_43 rfl (lv_at hl 0 rfl) ?_
      refine lv_iload_n hx hb dX9_canBeFactor_44 rfl (lv_at hl 1 rfl) ?_
      refine lv_bipush (v := iv 8) hx hb dX9_canBeFactor_45 (by decide) ?_
      refine sBi (sV (As := [.int (iv s0), .int (iv 8)]) (rest := []) (k := 11) Cx (e_X9_isSort l G S (s0 := s0) (k := 8) hI (by omega) (by omega)) (c_X9_146 Cx rfl rfl (rmk_ok (by omega) (by decide))) hW (by decide) rfl rfl rfl hl.1 rfl (Nat.le_of_ble_eq_true rfl) dX9_canBeFactor_47 ⟨Nat.le_of_ble_eq_true rfl, Nat.le_of_ble_eq_true rfl⟩) hL (fun r_11 u_9 H locs k_10 hW hL => ?_)
      obtain ⟨eu_9, xu_9⟩ := k_10
      rw [eu_9] at hW
      refine r_if_eq (tgt := 57) hx hb ⟨(by omega), (by omega)⟩ dX9_canBeFactor_50 (by decide) (fun c_12 => ?_) (fun c_12 => ?_)
      · refine lv_iconst (v := iv 0) hx hb dX9_canBeFactor_57 (by decide) ?_
        exact sZret Cx hr hlk hW hL (by omega) ⟨rfl, ⟨(by omega), (fun h => absurd h (by decide)), (fun _ z => by have a0 := xu_1.2.2 (by omega); have a1 := xu_5.2.2 (by omega); have a2 := xu_9.2.2 (by omega); omega)⟩⟩ dX9_canBeFactor_58
      · refine lv_iconst (v := iv 1) hx hb dX9_canBeFactor_53 (by decide) ?_
        refine lv_goto (tgt := 58) hx hb dX9_canBeFactor_54 (by decide) ?_
        exact sZret Cx hr hlk hW hL (by omega) ⟨rfl, ⟨(by omega), (fun _ => by have a0 := xu_1.2.2 (by omega); have a1 := xu_5.2.2 (by omega); have a2 := xu_9.2.1 (by omega); omega), (fun h => absurd h (by decide))⟩⟩ dX9_canBeFactor_58
  · refine lv_aload_n hx hb dX9_canBeFactor_9 rfl (lv_at hl 0 rfl) ?_
    refine g_X9_14 Cx hW (k := 11) (by decide) rfl (v := .ref (G.2.2.1 + 12)) (rf_11_0 hI) dX9_canBeFactor_10 ?_
    refine lv_aload_n hx hb dX9_canBeFactor_13 rfl (lv_at hl 0 rfl) ?_
    have q_13 : (-2147483648) ≤ S.1 11 13 ∧ S.1 11 13 ≤ 2147483647 := hI.fi 11 13 9 (by decide) rfl
    refine g_X9_89 Cx hW (k := 11) (by decide) rfl (v := S.1 11 13) rfl dX9_canBeFactor_14 ?_
    refine lv_iconst (v := iv 1) hx hb dX9_canBeFactor_17 (by decide) ?_
    refine r_iadd hx hb dX9_canBeFactor_18 ?_
    refine sBi (sV (As := [.int (iv ((S.1 11 13) + 1))]) (rest := []) (k := 12) Cx (s_X8_kind l G S (k := (S.1 11 13) + 1) hI (by omega)) (c_X9_95 Cx rfl rfl (rmk_ok (by omega) (by decide))) hW (by decide) rfl rfl rfl hl.1 rfl (Nat.le_of_ble_eq_true rfl) dX9_canBeFactor_19 ⟨Nat.le_of_ble_eq_true rfl, Nat.le_of_ble_eq_true rfl⟩) hL (fun r_16 u_14 H locs k_15 hW hL => ?_)
    obtain ⟨eu_14, xu_14⟩ := k_15
    rw [eu_14] at hW
    refine lv_bipush (v := iv 17) hx hb dX9_canBeFactor_22 (by decide) ?_
    refine r_icmp_eq (tgt := 31) hx hb ⟨(by omega), (by omega)⟩ ⟨(by omega), (by omega)⟩ dX9_canBeFactor_24 (by decide) (fun c_17 => ?_) (fun c_17 => ?_)
    · refine lv_iconst (v := iv 0) hx hb dX9_canBeFactor_31 (by decide) ?_
      exact sZret Cx hr hlk hW hL (by omega) ⟨rfl, ⟨(by omega), (fun h => absurd h (by decide)), (fun _ z => by have a0 := xu_1.2.1 (by omega); have k1 : r_16 = kd S (S.1 11 13 + 1) := xu_14.1; omega)⟩⟩ dX9_canBeFactor_32
    · refine lv_iconst (v := iv 1) hx hb dX9_canBeFactor_27 (by decide) ?_
      refine lv_goto (tgt := 32) hx hb dX9_canBeFactor_28 (by decide) ?_
      exact sZret Cx hr hlk hW hL (by omega) ⟨rfl, ⟨(by omega), (fun _ => by have a0 := xu_1.2.1 (by omega); have k1 : r_16 = kd S (S.1 11 13 + 1) := xu_14.1; omega), (fun h => absurd h (by decide))⟩⟩ dX9_canBeFactor_32

set_option maxRecDepth 100000 in
set_option maxHeartbeats 4000000 in
theorem e_X9_putNamed (l : Launch) (G : sG) (S : sS) {qa : Nat} {N : sN} {s0 v o : Int} (hI : cX G S 0 0 0) (hqa : lr qa) (hN : Hd (NRc N S)) (hK : Hd (NK N)) (hTV : Hd (TVn (kd S) (vd S))) (hs : 0 ≤ s0 ∧ s0 < N.1) (hsn : N.1 ≤ 128) (hso : fc S s0 0 = 7 ∨ fc S s0 0 = 8) (ho : Hd (0 ≤ o ∧ o < siz N (N.2.2.1 s0 3) * siz N (N.2.2.1 s0 4))) (hv : fc S s0 5 + o = v) (h0 : Hd (veq (S.2.2.1 qa) (cst 0))) (hv : -2147483648 ≤ v ∧ v ≤ 2147483647) : Met l yX9_putNamed (.code yX9_putNamed cX9_putNamed 4 none :: tb) (rmk 2 0 0) (sPc G 294 S [.ref (G.2.2.1 + 11), .ref (G.2.2.1 + qa), .int (iv s0), .int (iv v)]) (sQv G 294 (fun u => cX G u 0 0 0 ∧ Fr S u (p1 qa) ∧ (Hd (veq (u.2.2.1 qa) (eV N s0 o))))) 0 0 (sF G) := by
  refine sEnter (by decide) (Nat.le_of_ble_eq_true rfl) ?_
  intro p e s m args below meth c Cx hr hlk hnm hW ls hl
  have Cx : sC G p m c cX9_putNamed 4 s args RX9 := Cx
  obtain ⟨hx, hb, hml, hown, hts⟩ := id Cx.1
  have hL : sL G [] := sL_nil
  have hl : lv_has ls 4 [(0, .ref (G.2.2.1 + 11)), (1, .ref (G.2.2.1 + qa)), (2, .int (iv s0)), (3, .int (iv v))] := hl
  have hW0 := hW
  refine lv_aload_n hx hb dX9_putNamed_0 rfl (lv_at hl 0 rfl) ?_
  refine lv_iload_n hx hb dX9_putNamed_1 rfl (lv_at hl 2 rfl) ?_
  refine lv_iconst (v := iv 0) hx hb dX9_putNamed_2 (by decide) ?_
  refine sBi (sV (As := [.int (iv s0), .int (iv 0)]) (rest := []) (k := 11) Cx (s_X9_fact l G S (s0 := s0) (q := 0) hI (by omega) (by omega)) (c_X9_120 Cx rfl rfl (rmk_ok (by omega) (by decide))) hW (by decide) rfl rfl rfl hl.1 rfl (Nat.le_of_ble_eq_true rfl) dX9_putNamed_3 ⟨Nat.le_of_ble_eq_true rfl, Nat.le_of_ble_eq_true rfl⟩) hL (fun r_3 u_1 H locs k_2 hW hL => ?_)
  obtain ⟨eu_1, xu_1⟩ := k_2
  rw [eu_1] at hW
  have yu_1 := xu_1.2
  unfold fr8 at yu_1
  refine lv_bipush (v := iv 7) hx hb dX9_putNamed_6 (by decide) ?_
  refine r_icmp_ne (tgt := 41) hx hb ⟨(by omega), (by omega)⟩ ⟨(by omega), (by omega)⟩ dX9_putNamed_8 (by decide) (fun c_4 => ?_) (fun c_4 => ?_)
  · have n8 := (hK.2 s0 (by omega) (by omega)).2.2.2.2.2 (by have q := xu_1.1; have q2 := (hN.2.2 s0 (by omega) (by omega)).1; omega); have ho0 := ho.1; have ho1 := ho.2; have n9 := (hN.2.2 s0 (by omega) (by omega)).2.2.2.2.1 (by have q := xu_1.1; have q2 := (hN.2.2 s0 (by omega) (by omega)).1; omega)
    refine lv_iload_n hx hb dX9_putNamed_41 rfl (lv_at hl 3 rfl) ?_
    refine lv_iconst (v := iv 1) hx hb dX9_putNamed_42 (by decide) ?_
    refine r_icmp_lt (tgt := 56) hx hb ⟨(by omega), (by omega)⟩ ⟨(by omega), (by omega)⟩ dX9_putNamed_43 (by decide) (fun c => absurd c (by omega)) (fun _ => ?_)
    refine lv_iload_n hx hb dX9_putNamed_46 rfl (lv_at hl 3 rfl) ?_
    refine lv_bipush (v := iv 13) hx hb dX9_putNamed_47 (by decide) ?_
    refine r_icmp_ge (tgt := 56) hx hb ⟨(by omega), (by omega)⟩ ⟨(by omega), (by omega)⟩ dX9_putNamed_49 (by decide) (fun c => absurd c (by omega)) (fun _ => ?_)
    refine lv_aload_n hx hb dX9_putNamed_52 rfl (lv_at hl 1 rfl) ?_
    refine lv_iload_n hx hb dX9_putNamed_53 rfl (lv_at hl 3 rfl) ?_
    refine lv_lconst (v := jv 1) hx hb dX9_putNamed_54 (by decide) ?_
    refine rLast Cx hW hL (k := qa) (lr_l hqa) hqa.1 (by decide) (by omega) (by omega) dX9_putNamed_55 (fun H locs hW hL => ?_)
    have F_5 : Fr S (uL S qa v 1) (p1 qa) := (Fr.rf : Fr S S (p1 qa)).L p1_0
    have i_6 : cX G (uL S qa v 1) 0 0 0 := hI.L ⟨by omega, by omega⟩
    exact sVret Cx hr hlk hW hL ⟨i_6, F_5, (by have c0 : r_3 = fc S s0 0 := xu_1.1; have n0 := hN.2.2 s0 (by omega) (by omega); have n8 : N.2.2.1 s0 0 = 8 := (by omega); have n5 := n0.2.2.2.2.1 (.inr n8); have b := (hK.2 s0 (by omega) (by omega)).2.2.2.2.2 n8; exact eV_v (by omega) (show N.2.2.1 s0 5 + o = v by omega) h0 (fun j j0 j1 => by by_cases z : j = v; (rw [z, uL_on, if_pos rfl]); (rw [uL_ne (fun h => z h.2), if_neg z])))⟩ dX9_putNamed_56
  · have n7 := (hN.2.2 s0 (by omega) (by omega)).2.2.2.2.2 (by have q := xu_1.1; have q2 := (hN.2.2 s0 (by omega) (by omega)).1; omega) o ho.1 ho.2
    refine lv_aload_n hx hb dX9_putNamed_11 rfl (lv_at hl 1 rfl) ?_
    refine lv_iconst (v := iv 0) hx hb dX9_putNamed_12 (by decide) ?_
    refine lv_iload_n hx hb dX9_putNamed_13 rfl (lv_at hl 3 rfl) ?_
    refine r_if_lt (tgt := 36) hx hb ⟨(by omega), (by omega)⟩ dX9_putNamed_14 (by decide) (fun c => absurd c (by omega)) (fun _ => ?_)
    refine lv_iload_n hx hb dX9_putNamed_17 rfl (lv_at hl 3 rfl) ?_
    refine lv_aload_n hx hb dX9_putNamed_18 rfl (lv_at hl 0 rfl) ?_
    refine g_X9_26 Cx hW (k := 11) (by decide) rfl (v := .ref (G.2.2.1 + 18)) (rf_11_3 hI) dX9_putNamed_19 ?_
    refine sAlen Cx hW (k := 18) (by decide) rfl 0 rfl dX9_putNamed_22 ?_
    refine r_icmp_ge (tgt := 36) hx hb ⟨(by omega), (by omega)⟩ ⟨(by omega), (by omega)⟩ dX9_putNamed_23 (by decide) (fun c => absurd c (by omega)) (fun _ => ?_)
    refine lv_aload_n hx hb dX9_putNamed_26 rfl (lv_at hl 0 rfl) ?_
    refine g_X9_26 Cx hW (k := 11) (by decide) rfl (v := .ref (G.2.2.1 + 18)) (rf_11_3 hI) dX9_putNamed_27 ?_
    refine lv_iload_n hx hb dX9_putNamed_30 rfl (lv_at hl 3 rfl) ?_
    refine rIald Cx hW (k := 18) (by decide) rfl (by decide) (by omega) (by omega) dX9_putNamed_31 ?_
    have q_7 : (-2147483648) ≤ S.2.1 18 v ∧ S.2.1 18 v ≤ 2147483647 := hI.ai 18 v (by decide)
    refine r_i (b := S.2.1 18 v) rfl ?_
    refine r_i2l hx hb ⟨(by omega), (by omega)⟩ dX9_putNamed_32 ?_
    refine lv_goto (tgt := 37) hx hb dX9_putNamed_33 (by decide) ?_
    refine rLast Cx hW hL (k := qa) (lr_l hqa) hqa.1 (by decide) (by omega) (by omega) dX9_putNamed_37 (fun H locs hW hL => ?_)
    have F_8 : Fr S (uL S qa 0 (S.2.1 18 v)) (p1 qa) := (Fr.rf : Fr S S (p1 qa)).L p1_0
    have i_9 : cX G (uL S qa 0 (S.2.1 18 v)) 0 0 0 := hI.L ⟨by omega, by omega⟩
    refine lv_goto (tgt := 56) hx hb dX9_putNamed_38 (by decide) ?_
    exact sVret Cx hr hlk hW hL ⟨i_9, F_8, (by have c0 : r_3 = fc S s0 0 := xu_1.1; have n0 := hN.2.2 s0 (by omega) (by omega); have n7 : N.2.2.1 s0 0 = 7 := (by omega); have n1 := n0.2.2.2.2.2 n7 o ho.1 ho.2; exact eV_p n7 (n1.2.2.trans (by rw [show fc S s0 5 + o = v by omega])) h0 (fun j j0 j1 => by by_cases z : j = 0; (rw [z, uL_on, if_pos rfl]); (rw [uL_ne (fun h => z h.2), if_neg z])))⟩ dX9_putNamed_56

theorem le_tab {s K q so F : Int} (q0 : 0 ≤ q) (q5 : q ≤ 5) : (if s = K ∧ q = 4 then (-1 : Int) else if s = K ∧ q = 3 then -1 else if s = K ∧ q = 0 then so else F) = if s = K ∧ (q = 0 ∨ q = 3 ∨ q = 4) then (if q = 0 then so else -1) else F := by
  repeat' split
  all_goals first | rfl | (exfalso; omega)

set_option maxRecDepth 100000 in
set_option maxHeartbeats 4000000 in
theorem e_X9_learn (l : Launch) (G : sG) (S : sS) {tk so : Int} (hI : cX G S 0 0 0) (htk : -2147483648 ≤ tk ∧ tk ≤ 2147483647) (hso : 0 ≤ so ∧ so ≤ 26) : Met l yX9_learn (.code yX9_learn cX9_learn 4 (some .int) :: tb) (rmk 2 0 0) (sPc G 294 S [.ref (G.2.2.1 + 11), .int (iv tk), .int (iv so)]) (sQi G 294 (fun r u => cX G u 0 0 0 ∧ Fr S u pT ∧ ((Hd (RK S u ∧ (r < 0 → u.1 11 14 ≠ 0)) ∧ -1 ≤ r ∧ r ≤ 127 ∧ u.1 11 10 = S.1 11 10 ∧ u.1 11 11 = S.1 11 11 ∧ u.1 11 12 = S.1 11 12 ∧ u.1 11 13 = S.1 11 13) ∧ Hd (0 ≤ r → r = S.1 11 9 ∧ u.1 11 14 = S.1 11 14 ∧ efn (S.2.2.1 16) (vd S tk) (S.1 11 9).toNat = -1 ∧ LE S u (vd S tk) so) ∧ Hd (r < 0 → 0 ≤ efn (S.2.2.1 16) (vd S tk) (S.1 11 9).toNat ∨ 128 ≤ S.1 11 9)))) 0 0 (sF G) := by
  refine sEnter (by decide) (Nat.le_of_ble_eq_true rfl) ?_
  intro p e s m args below meth c Cx hr hlk hnm hW ls hl
  have Cx : sC G p m c cX9_learn 4 s args RX9 := Cx
  obtain ⟨hx, hb, hml, hown, hts⟩ := id Cx.1
  have hL : sL G [] := sL_nil
  have hl : lv_has ls 4 [(0, .ref (G.2.2.1 + 11)), (1, .int (iv tk)), (2, .int (iv so))] := hl
  have hW0 := hW
  have hkn : 0 ≤ S.1 11 9 ∧ S.1 11 9 ≤ 128 := hI.fi 11 9 9 (by decide) rfl
  refine lv_aload_n hx hb dX9_learn_0 rfl (lv_at hl 0 rfl) ?_
  refine lv_aload_n hx hb dX9_learn_1 rfl (lv_at hl 0 rfl) ?_
  refine g_X9_14 Cx hW (k := 11) (by decide) rfl (v := .ref (G.2.2.1 + 12)) (rf_11_0 hI) dX9_learn_2 ?_
  refine lv_iload_n hx hb dX9_learn_5 rfl (lv_at hl 1 rfl) ?_
  refine sBl (sV (As := [.int (iv tk)]) (rest := [.ref (G.2.2.1 + 11)]) (k := 12) Cx (s_X8_value l G S (k := tk) hI (by omega)) (c_X9_124 Cx rfl rfl (rmk_ok (by omega) (by decide))) hW (by decide) rfl rfl rfl hl.1 rfl (Nat.le_of_ble_eq_true rfl) dX9_learn_6 ⟨Nat.le_of_ble_eq_true rfl, Nat.le_of_ble_eq_true rfl⟩) hL (fun r_3 u_1 H locs k_2 hW hL => ?_)
  obtain ⟨eu_1, xu_1⟩ := k_2
  rw [eu_1] at hW
  have q_4 : 0 ≤ S.1 11 9 ∧ S.1 11 9 ≤ 128 := hI.fi 11 9 9 (by decide) rfl
  refine sBi (sV (As := [.long (jv r_3)]) (rest := []) (k := 11) Cx (e_X9_find l G S (nm := r_3) hI (by omega)) (c_X9_128 Cx rfl rfl (rmk_ok (by omega) (by decide))) hW (by decide) rfl rfl rfl hl.1 rfl (Nat.le_of_ble_eq_true rfl) dX9_learn_9 ⟨Nat.le_of_ble_eq_true rfl, Nat.le_of_ble_eq_true rfl⟩) hL (fun r_7 u_5 H locs k_6 hW hL => ?_)
  obtain ⟨eu_5, xu_5⟩ := k_6
  rw [eu_5] at hW
  refine r_if_ge (tgt := 25) hx hb ⟨(by omega), (by omega)⟩ dX9_learn_12 (by decide) (fun c_8 => ?_) (fun c_8 => ?_)
  · refine lv_aload_n hx hb dX9_learn_25 rfl (lv_at hl 0 rfl) ?_
    refine lv_iconst (v := iv 2) hx hb dX9_learn_26 (by decide) ?_
    refine lv_iload_n hx hb dX9_learn_27 rfl (lv_at hl 1 rfl) ?_
    have q_9 : (-2147483648) ≤ S.1 11 13 ∧ S.1 11 13 ≤ 2147483647 := hI.fi 11 13 9 (by decide) rfl
    have q_10 : 0 ≤ S.1 11 10 ∧ S.1 11 10 ≤ 8 := hI.fi 11 10 9 (by decide) rfl
    have q_11 : 0 ≤ S.1 11 11 ∧ S.1 11 11 ≤ 12 := hI.fi 11 11 9 (by decide) rfl
    have q_12 : (-2147483648) ≤ S.1 11 12 ∧ S.1 11 12 ≤ 2147483647 := hI.fi 11 12 9 (by decide) rfl
    refine sBi (sV (As := [.int (iv 2), .int (iv tk)]) (rest := []) (k := 11) Cx (e_X9_fail l G S (k := 2) (tk := tk) hI (by omega) (by omega)) (c_X9_132 Cx rfl rfl (rmk_ok (by omega) (by decide))) hW (by decide) rfl rfl rfl hl.1 rfl (Nat.le_of_ble_eq_true rfl) dX9_learn_28 ⟨Nat.le_of_ble_eq_true rfl, Nat.le_of_ble_eq_true rfl⟩) hL (fun r_15 u_13 H locs k_14 hW hL => ?_)
    obtain ⟨iu_13, fu_13, xu_13⟩ := k_14
    have F_16 := (Fr.rf : Fr S S pT).trans (fu_13.to p11_T)
    refine lv_pop hx hb dX9_learn_31 rfl ?_
    refine lv_iconst (v := iv (-1)) hx hb dX9_learn_32 (by decide) ?_
    have q_17 : 0 ≤ u_13.1 11 14 ∧ u_13.1 11 14 ≤ 7 := iu_13.fi 11 14 9 (by decide) rfl
    have q_18 : 0 ≤ u_13.1 11 10 ∧ u_13.1 11 10 ≤ 8 := iu_13.fi 11 10 9 (by decide) rfl
    have q_19 : 0 ≤ u_13.1 11 11 ∧ u_13.1 11 11 ≤ 12 := iu_13.fi 11 11 9 (by decide) rfl
    have q_20 : (-2147483648) ≤ u_13.1 11 12 ∧ u_13.1 11 12 ≤ 2147483647 := iu_13.fi 11 12 9 (by decide) rfl
    have q_21 : (-2147483648) ≤ u_13.1 11 13 ∧ u_13.1 11 13 ≤ 2147483647 := iu_13.fi 11 13 9 (by decide) rfl
    exact sIret Cx hr hlk hW hL ⟨iu_13, F_16, ⟨⟨⟨(fun i => (xu_13.2.2.2.2.2.2.2 i)), (fun _ => by omega)⟩, by omega, by omega, by omega, by omega, by omega, by omega⟩, (fun h => absurd h (by omega)), (fun _ => by have f0 : r_7 = efn (S.2.2.1 16) (vd S tk) (S.1 11 9).toNat := (by have q := xu_5.2; rw [xu_1.1] at q; exact q); omega)⟩⟩ dX9_learn_33
  · refine lv_aload_n hx hb dX9_learn_15 rfl (lv_at hl 0 rfl) ?_
    refine g_X9_77 Cx hW (k := 11) (by decide) rfl (v := S.1 11 9) rfl dX9_learn_16 ?_
    refine lv_sipush (v := iv 128) hx hb dX9_learn_19 (by decide) ?_
    refine r_icmp_lt (tgt := 34) hx hb ⟨(by omega), (by omega)⟩ ⟨(by omega), (by omega)⟩ dX9_learn_22 (by decide) (fun c_22 => ?_) (fun c_22 => ?_)
    · refine lv_aload_n hx hb dX9_learn_34 rfl (lv_at hl 0 rfl) ?_
      refine g_X9_77 Cx hW (k := 11) (by decide) rfl (v := S.1 11 9) rfl dX9_learn_35 ?_
      refine lv_istore_n (lv' := [(3, .int (iv (S.1 11 9))), (0, .ref (G.2.2.1 + 11)), (1, .int (iv tk)), (2, .int (iv so))]) hx hb dX9_learn_38 rfl hl (by decide) rfl (fun ls hl => ?_)
      refine lv_aload_n hx hb dX9_learn_39 rfl (lv_at hl 1 rfl) ?_
      refine lv_dup hx hb dX9_learn_40 rfl ?_
      refine g_X9_77 Cx hW (k := 11) (by decide) rfl (v := S.1 11 9) rfl dX9_learn_41 ?_
      refine lv_iconst (v := iv 1) hx hb dX9_learn_44 (by decide) ?_
      refine r_iadd hx hb dX9_learn_45 ?_
      refine p_X9_77 Cx hW hL (k := 11) (by decide) rfl dX9_learn_46 (fun H locs hW hL => ?_)
      have F_23 : Fr S (uF S 11 9 ((S.1 11 9) + 1)) pT := (Fr.rf : Fr S S pT).F rfl
      have i_24 : cX G (uF S 11 9 ((S.1 11 9) + 1)) 0 0 0 := hI.F rfl rfl (show 0 ≤ (S.1 11 9) + 1 ∧ (S.1 11 9) + 1 ≤ 128 from ⟨by omega, by omega⟩)
      refine lv_aload_n hx hb dX9_learn_49 rfl (lv_at hl 1 rfl) ?_
      refine g_X9_18 Cx hW (k := 11) (by decide) rfl (v := .ref (G.2.2.1 + 16)) (rf_11_1 i_24) dX9_learn_50 ?_
      refine lv_iload_n hx hb dX9_learn_53 rfl (lv_at hl 0 rfl) ?_
      refine lv_aload_n hx hb dX9_learn_54 rfl (lv_at hl 1 rfl) ?_
      refine g_X9_14 Cx hW (k := 11) (by decide) rfl (v := .ref (G.2.2.1 + 12)) (rf_11_0 i_24) dX9_learn_55 ?_
      refine lv_iload_n hx hb dX9_learn_58 rfl (lv_at hl 2 rfl) ?_
      refine sBl (sV (As := [.int (iv tk)]) (rest := [.int (iv (S.1 11 9)), .ref (G.2.2.1 + 16)]) (k := 12) Cx (s_X8_value l G (uF S 11 9 ((S.1 11 9) + 1)) (k := tk) i_24 (by omega)) (c_X9_124 Cx rfl rfl (rmk_ok (by omega) (by decide))) hW (by decide) rfl rfl rfl hl.1 rfl (Nat.le_of_ble_eq_true rfl) dX9_learn_59 ⟨Nat.le_of_ble_eq_true rfl, Nat.le_of_ble_eq_true rfl⟩) hL (fun r_27 u_25 H locs k_26 hW hL => ?_)
      obtain ⟨eu_25, xu_25⟩ := k_26
      rw [eu_25] at hW
      refine rLast Cx hW hL (k := 16) (by decide) rfl (by decide) (by omega) (by omega) dX9_learn_62 (fun H locs hW hL => ?_)
      have F_28 : Fr S (uL (uF S 11 9 ((S.1 11 9) + 1)) 16 (S.1 11 9) r_27) pT := F_23.L rfl
      have i_29 : cX G (uL (uF S 11 9 ((S.1 11 9) + 1)) 16 (S.1 11 9) r_27) 0 0 0 := i_24.L ⟨by omega, by omega⟩
      refine lv_aload_n hx hb dX9_learn_63 rfl (lv_at hl 1 rfl) ?_
      refine lv_iload_n hx hb dX9_learn_64 rfl (lv_at hl 0 rfl) ?_
      refine lv_iconst (v := iv 0) hx hb dX9_learn_65 (by decide) ?_
      refine lv_iload_n hx hb dX9_learn_66 rfl (lv_at hl 3 rfl) ?_
      refine sBv (sV (As := [.int (iv (S.1 11 9)), .int (iv 0), .int (iv so)]) (rest := []) (k := 11) Cx (s_X9_setFact l G (uL (uF S 11 9 ((S.1 11 9) + 1)) 16 (S.1 11 9) r_27) (s0 := S.1 11 9) (q := 0) (v := so) i_29 (by omega) (by omega) (by unfold fr8; omega) (by omega)) (c_X9_136 Cx rfl rfl (rmk_ok (by omega) (by decide))) hW (by decide) rfl rfl rfl hl.1 rfl (Nat.le_of_ble_eq_true rfl) dX9_learn_67 ⟨Nat.le_of_ble_eq_true rfl, Nat.le_of_ble_eq_true rfl⟩) hL (fun u_30 H locs k_31 hW hL => ?_)
      obtain ⟨iu_30, fu_30, xu_30⟩ := k_31
      have F_32 := F_28.trans (fu_30.to p17_T)
      refine lv_aload_n hx hb dX9_learn_70 rfl (lv_at hl 1 rfl) ?_
      refine lv_iload_n hx hb dX9_learn_71 rfl (lv_at hl 0 rfl) ?_
      refine lv_iconst (v := iv 3) hx hb dX9_learn_72 (by decide) ?_
      refine lv_iconst (v := iv (-1)) hx hb dX9_learn_73 (by decide) ?_
      refine sBv (sV (As := [.int (iv (S.1 11 9)), .int (iv 3), .int (iv ((-1)))]) (rest := []) (k := 11) Cx (s_X9_setFact l G u_30 (s0 := S.1 11 9) (q := 3) (v := (-1)) iu_30 (by omega) (by omega) (by unfold fr8; omega) (by omega)) (c_X9_136 Cx rfl rfl (rmk_ok (by omega) (by decide))) hW (by decide) rfl rfl rfl hl.1 rfl (Nat.le_of_ble_eq_true rfl) dX9_learn_74 ⟨Nat.le_of_ble_eq_true rfl, Nat.le_of_ble_eq_true rfl⟩) hL (fun u_33 H locs k_34 hW hL => ?_)
      obtain ⟨iu_33, fu_33, xu_33⟩ := k_34
      have F_35 := F_32.trans (fu_33.to p17_T)
      refine lv_aload_n hx hb dX9_learn_77 rfl (lv_at hl 1 rfl) ?_
      refine lv_iload_n hx hb dX9_learn_78 rfl (lv_at hl 0 rfl) ?_
      refine lv_iconst (v := iv 4) hx hb dX9_learn_79 (by decide) ?_
      refine lv_iconst (v := iv (-1)) hx hb dX9_learn_80 (by decide) ?_
      refine sBv (sV (As := [.int (iv (S.1 11 9)), .int (iv 4), .int (iv ((-1)))]) (rest := []) (k := 11) Cx (s_X9_setFact l G u_33 (s0 := S.1 11 9) (q := 4) (v := (-1)) iu_33 (by omega) (by omega) (by unfold fr8; omega) (by omega)) (c_X9_136 Cx rfl rfl (rmk_ok (by omega) (by decide))) hW (by decide) rfl rfl rfl hl.1 rfl (Nat.le_of_ble_eq_true rfl) dX9_learn_81 ⟨Nat.le_of_ble_eq_true rfl, Nat.le_of_ble_eq_true rfl⟩) hL (fun u_36 H locs k_37 hW hL => ?_)
      obtain ⟨iu_36, fu_36, xu_36⟩ := k_37
      have F_38 := F_35.trans (fu_36.to p17_T)
      refine lv_iload_n hx hb dX9_learn_84 rfl (lv_at hl 0 rfl) ?_
      have q_39 : 0 ≤ S.1 11 14 ∧ S.1 11 14 ≤ 7 := hI.fi 11 14 9 (by decide) rfl
      have lk_40 : u_36.1 11 14 = S.1 11 14 := ((fu_36 11 rfl).1 14).trans (((fu_33 11 rfl).1 14).trans (((fu_30 11 rfl).1 14).trans ((uL_f).trans (uF_ne (fun h => absurd h.2 (by decide))))))
      have q_41 : 0 ≤ S.1 11 10 ∧ S.1 11 10 ≤ 8 := hI.fi 11 10 9 (by decide) rfl
      have lk_42 : u_36.1 11 10 = S.1 11 10 := ((fu_36 11 rfl).1 10).trans (((fu_33 11 rfl).1 10).trans (((fu_30 11 rfl).1 10).trans ((uL_f).trans (uF_ne (fun h => absurd h.2 (by decide))))))
      have q_43 : 0 ≤ S.1 11 11 ∧ S.1 11 11 ≤ 12 := hI.fi 11 11 9 (by decide) rfl
      have lk_44 : u_36.1 11 11 = S.1 11 11 := ((fu_36 11 rfl).1 11).trans (((fu_33 11 rfl).1 11).trans (((fu_30 11 rfl).1 11).trans ((uL_f).trans (uF_ne (fun h => absurd h.2 (by decide))))))
      have q_45 : (-2147483648) ≤ S.1 11 12 ∧ S.1 11 12 ≤ 2147483647 := hI.fi 11 12 9 (by decide) rfl
      have lk_46 : u_36.1 11 12 = S.1 11 12 := ((fu_36 11 rfl).1 12).trans (((fu_33 11 rfl).1 12).trans (((fu_30 11 rfl).1 12).trans ((uL_f).trans (uF_ne (fun h => absurd h.2 (by decide))))))
      have q_47 : (-2147483648) ≤ S.1 11 13 ∧ S.1 11 13 ≤ 2147483647 := hI.fi 11 13 9 (by decide) rfl
      have lk_48 : u_36.1 11 13 = S.1 11 13 := ((fu_36 11 rfl).1 13).trans (((fu_33 11 rfl).1 13).trans (((fu_30 11 rfl).1 13).trans ((uL_f).trans (uF_ne (fun h => absurd h.2 (by decide))))))
      exact sIret Cx hr hlk hW hL ⟨iu_36, F_38, ⟨⟨⟨(fun i => (((fu_36 11 rfl).2.2.2 i).trans (((fu_33 11 rfl).2.2.2 i).trans ((fu_30 11 rfl).2.2.2 i)))), (fun h => absurd h (by omega))⟩, by omega, by omega, by omega, by omega, by omega, by omega⟩, (fun _ => ⟨(by omega), (by omega), (by have f0 : r_7 = efn (S.2.2.1 16) (vd S tk) (S.1 11 9).toNat := (by have q := xu_5.2; rw [xu_1.1] at q; exact q); omega), (by have e1 := xu_30; have e2 := xu_33; have e3 := xu_36; have ev : r_27 = vd S tk := xu_25.1; refine ⟨?_, fun j => ?_, fun j => ?_, fun s q q0 q5 => ?_⟩; (rw [e3, e2, e1]; show (uF S 11 9 (S.1 11 9 + 1)).1 11 9 = _; exact uF_on); (rw [e3, e2, e1, ← ev]; show (if (16 : Nat) = 16 ∧ j = S.1 11 9 then _ else _) = _; first | (simp; done) | (simp; rfl)); (rw [e3, e2, e1]; exact (uA_ne (fun h => absurd h.1 (by decide))).trans ((uA_ne (fun h => absurd h.1 (by decide))).trans ((uA_ne (fun h => absurd h.1 (by decide))).trans rfl))); (rw [e3, fc_u (by omega) (by omega), e2, fc_u (by omega) (by omega), e1, fc_u (by omega) (by omega)]; exact le_tab q0 q5))⟩), (fun h => absurd h (by omega))⟩⟩ dX9_learn_85
    · refine lv_aload_n hx hb dX9_learn_25 rfl (lv_at hl 0 rfl) ?_
      refine lv_iconst (v := iv 2) hx hb dX9_learn_26 (by decide) ?_
      refine lv_iload_n hx hb dX9_learn_27 rfl (lv_at hl 1 rfl) ?_
      have q_49 : (-2147483648) ≤ S.1 11 13 ∧ S.1 11 13 ≤ 2147483647 := hI.fi 11 13 9 (by decide) rfl
      have q_50 : 0 ≤ S.1 11 10 ∧ S.1 11 10 ≤ 8 := hI.fi 11 10 9 (by decide) rfl
      have q_51 : 0 ≤ S.1 11 11 ∧ S.1 11 11 ≤ 12 := hI.fi 11 11 9 (by decide) rfl
      have q_52 : (-2147483648) ≤ S.1 11 12 ∧ S.1 11 12 ≤ 2147483647 := hI.fi 11 12 9 (by decide) rfl
      refine sBi (sV (As := [.int (iv 2), .int (iv tk)]) (rest := []) (k := 11) Cx (e_X9_fail l G S (k := 2) (tk := tk) hI (by omega) (by omega)) (c_X9_132 Cx rfl rfl (rmk_ok (by omega) (by decide))) hW (by decide) rfl rfl rfl hl.1 rfl (Nat.le_of_ble_eq_true rfl) dX9_learn_28 ⟨Nat.le_of_ble_eq_true rfl, Nat.le_of_ble_eq_true rfl⟩) hL (fun r_55 u_53 H locs k_54 hW hL => ?_)
      obtain ⟨iu_53, fu_53, xu_53⟩ := k_54
      have F_56 := (Fr.rf : Fr S S pT).trans (fu_53.to p11_T)
      refine lv_pop hx hb dX9_learn_31 rfl ?_
      refine lv_iconst (v := iv (-1)) hx hb dX9_learn_32 (by decide) ?_
      have q_57 : 0 ≤ u_53.1 11 14 ∧ u_53.1 11 14 ≤ 7 := iu_53.fi 11 14 9 (by decide) rfl
      have q_58 : 0 ≤ u_53.1 11 10 ∧ u_53.1 11 10 ≤ 8 := iu_53.fi 11 10 9 (by decide) rfl
      have q_59 : 0 ≤ u_53.1 11 11 ∧ u_53.1 11 11 ≤ 12 := iu_53.fi 11 11 9 (by decide) rfl
      have q_60 : (-2147483648) ≤ u_53.1 11 12 ∧ u_53.1 11 12 ≤ 2147483647 := iu_53.fi 11 12 9 (by decide) rfl
      have q_61 : (-2147483648) ≤ u_53.1 11 13 ∧ u_53.1 11 13 ≤ 2147483647 := iu_53.fi 11 13 9 (by decide) rfl
      exact sIret Cx hr hlk hW hL ⟨iu_53, F_56, ⟨⟨⟨(fun i => (xu_53.2.2.2.2.2.2.2 i)), (fun _ => by omega)⟩, by omega, by omega, by omega, by omega, by omega, by omega⟩, (fun h => absurd h (by omega)), (fun _ => by have f0 : r_7 = efn (S.2.2.1 16) (vd S tk) (S.1 11 9).toNat := (by have q := xu_5.2; rw [xu_1.1] at q; exact q); omega)⟩⟩ dX9_learn_33
