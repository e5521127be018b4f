/-! The class's texts by their bytes; the TREES -/
def TXc (S : sS) (o N : Nat) (L : List Int) : Prop := (L.length ≤ N → S.1 o 1 = (L.length : Int) ∧ S.1 o 2 = 0 ∧ ∀ k : Nat, k < L.length → S.2.1 (o + 1) (k : Int) = L.getD k 0) ∧ (N < L.length → S.1 o 1 = (N : Int) ∧ S.1 o 2 = 1)
theorem TXc.of {S u : sS} {o N : Nat} {L : List Int} (h : TXc S o N L) (e1 : u.1 o 1 = S.1 o 1) (e2 : u.1 o 2 = S.1 o 2) (e3 : u.2.1 (o + 1) = S.2.1 (o + 1)) : TXc u o N L := by unfold TXc; rw [e1, e2, e3]; exact h
theorem TXc.eq {S : sS} {o N : Nat} {L M : List Int} (h : TXc S o N L) (e : L = M) : TXc S o N M := by rw [← e]; exact h
theorem getD_app {L : List Int} {x : Int} {k : Nat} : (L ++ [x]).getD k 0 = if k < L.length then L.getD k 0 else if k = L.length then x else 0 := by
  by_cases h : k < L.length
  · rw [if_pos h, List.getD_eq_getElem?_getD, List.getD_eq_getElem?_getD, List.getElem?_append_left h]
  · rw [if_neg h, List.getD_eq_getElem?_getD, List.getElem?_append_right (by omega)]
    by_cases e : k = L.length
    · rw [if_pos e, e, Nat.sub_self]; rfl
    · rw [if_neg e]
      obtain ⟨m, hm⟩ : ∃ m, k - L.length = m + 1 := ⟨k - L.length - 1, by omega⟩
      rw [hm]; rfl
theorem TXc.put {S u : sS} {o N : Nat} {L : List Int} {x : Int} (h : TXc S o N L) (h0 : 0 ≤ S.1 o 1 ∧ S.1 o 1 ≤ (N : Int)) (hl : S.1 o 1 < (N : Int) → u.1 o 1 = S.1 o 1 + 1 ∧ u.1 o 2 = S.1 o 2 ∧ (∀ j, u.2.1 (o + 1) j = if j = S.1 o 1 then x else S.2.1 (o + 1) j)) (hg : (N : Int) ≤ S.1 o 1 → u.1 o 1 = S.1 o 1 ∧ u.1 o 2 = 1) : TXc u o N (L ++ [x]) := by
  have len : (L ++ [x]).length = L.length + 1 := by rw [List.length_append]; rfl
  refine ⟨fun q => ?_, fun q => ?_⟩
  · rw [len] at q
    obtain ⟨a, b, c⟩ := h.1 (by omega)
    obtain ⟨d, e, f⟩ := hl (by omega)
    refine ⟨by rw [len]; omega, e.trans b, fun k hk => ?_⟩
    rw [len] at hk
    rw [f, getD_app]
    by_cases z : k < L.length
    · rw [if_neg (by omega), if_pos z]; exact c k z
    · rw [if_pos (by omega), if_neg z, if_pos (by omega)]
  · rw [len] at q
    by_cases z : L.length ≤ N
    · obtain ⟨a, b, c⟩ := h.1 z
      obtain ⟨d, e⟩ := hg (by omega)
      exact ⟨by omega, e⟩
    · obtain ⟨a, b⟩ := h.2 (by omega)
      obtain ⟨d, e⟩ := hg (by omega)
      exact ⟨by omega, e⟩
theorem TXc.some {S : sS} {o N : Nat} {L : List Int} (h : TXc S o N L) (hN : 1 ≤ N) : 0 < S.1 o 1 ↔ L.length ≠ 0 := by
  by_cases z : L.length ≤ N
  · have := (h.1 z).1; omega
  · have := (h.2 (by omega)).1; omega
theorem TXc.over {S : sS} {o N : Nat} {L : List Int} (h : TXc S o N L) : S.1 o 2 = 1 ↔ N < L.length := by
  by_cases z : L.length ≤ N
  · have := (h.1 z).2.1; omega
  · have := (h.2 (by omega)).2; omega
def spT (L : List Int) : List Int := if L.length = 0 then [] else [32]
theorem tkn_e {L t : List Int} : tkn L t = L ++ spT L ++ t := by
  unfold tkn spT
  by_cases h : L.length = 0
  · rw [if_pos h, if_pos h, List.append_nil]
  · rw [if_neg h, if_neg h, List.append_assoc]; rfl
/-- digits -/
theorem dgf_f : ∀ (f v : Nat), v ≤ f → dgf f v = dgz v := by
  have key : ∀ (f g v : Nat), v ≤ f → v ≤ g → dgf f v = dgf g v := by
    intro f
    induction f with
    | zero => intro g v h1 h2; rw [show v = 0 by omega]; cases g <;> rfl
    | succ f ih =>
      intro g v h1 h2
      cases g with
      | zero => rw [show v = 0 by omega]; rfl
      | succ g =>
        show (if v = 0 then [] else dgf f (v / 10) ++ [48 + ((v % 10 : Nat) : Int)]) = (if v = 0 then [] else dgf g (v / 10) ++ [48 + ((v % 10 : Nat) : Int)])
        by_cases q : v = 0
        · rw [if_pos q, if_pos q]
        · rw [if_neg q, if_neg q, ih g (v / 10) (by omega) (by omega)]
  intro f v h
  exact key f v v h (Nat.le_refl v)
theorem dgz_0 : dgz 0 = [] := rfl
theorem dgz_s {v : Nat} (h : v ≠ 0) : dgz v = dgz (v / 10) ++ [48 + ((v % 10 : Nat) : Int)] := by
  obtain ⟨w, rfl⟩ : ∃ w, v = w + 1 := ⟨v - 1, by omega⟩
  show (if w + 1 = 0 then [] else dgf w ((w + 1) / 10) ++ [48 + (((w + 1) % 10 : Nat) : Int)]) = _
  rw [if_neg h, dgf_f w _ (by omega)]
theorem dgz_i {p d : Int} (hp : 0 ≤ p) (hd : 0 ≤ d ∧ d ≤ 9) (h : 10 * p + d ≠ 0) : dgz (10 * p + d).toNat = dgz p.toNat ++ [48 + d] := by
  rw [dgz_s (by omega), show (10 * p + d).toNat / 10 = p.toNat by omega, show (((10 * p + d).toNat % 10 : Nat) : Int) = d by omega]
def pfx (X un : Int) : Int := if un = 1000000000 then X / 10000000000 else if un = 100000000 then X / 1000000000 else if un = 10000000 then X / 100000000 else if un = 1000000 then X / 10000000 else if un = 100000 then X / 1000000 else if un = 10000 then X / 100000 else if un = 1000 then X / 10000 else if un = 100 then X / 1000 else if un = 10 then X / 100 else if un = 1 then X / 10 else X
def unS (un : Int) : Prop := un = 100000000 ∨ un = 10000000 ∨ un = 1000000 ∨ un = 100000 ∨ un = 10000 ∨ un = 1000 ∨ un = 100 ∨ un = 10 ∨ un = 1
theorem pfx_t {X : Int} : pfx X 1000000000 = X / 10000000000 ∧ pfx X 100000000 = X / 1000000000 ∧ pfx X 10000000 = X / 100000000 ∧ pfx X 1000000 = X / 10000000 ∧ pfx X 100000 = X / 1000000 ∧ pfx X 10000 = X / 100000 ∧ pfx X 1000 = X / 10000 ∧ pfx X 100 = X / 1000 ∧ pfx X 10 = X / 100 ∧ pfx X 1 = X / 10 ∧ pfx X 0 = X := ⟨rfl, rfl, rfl, rfl, rfl, rfl, rfl, rfl, rfl, rfl, rfl⟩
theorem dg_st {X H l un dq dg un2 : Int} (hX : X = H * 1000000000 + l) (hH : 0 ≤ H) (hl : 0 ≤ l ∧ l ≤ 999999999) (hu : unS un) (hq : dq = l / un) (hd : dg = dq % 10) (h2 : un2 = un / 10) : (0 ≤ dg ∧ dg ≤ 9) ∧ pfx X un2 = 10 * pfx X un + dg ∧ 0 ≤ pfx X un ∧ (unS un2 ∨ un2 = 0) := by
  obtain ⟨t0, t1, t2, t3, t4, t5, t6, t7, t8, t9, t10⟩ := pfx_t (X := X)
  unfold unS at *
  rcases hu with e | e | e | e | e | e | e | e | e <;> subst e
  · rw [show un2 = 10000000 by omega, t1, t2]; omega
  · rw [show un2 = 1000000 by omega, t2, t3]; omega
  · rw [show un2 = 100000 by omega, t3, t4]; omega
  · rw [show un2 = 10000 by omega, t4, t5]; omega
  · rw [show un2 = 1000 by omega, t5, t6]; omega
  · rw [show un2 = 100 by omega, t6, t7]; omega
  · rw [show un2 = 10 by omega, t7, t8]; omega
  · rw [show un2 = 1 by omega, t8, t9]; omega
  · rw [show un2 = 0 by omega, t9, t10]; omega
theorem dg_s9 {X dq dg : Int} (hX : 0 ≤ X ∧ X ≤ 2147483647) (hq : dq = X / 1000000000) (hd : dg = dq % 10) : (0 ≤ dg ∧ dg ≤ 9) ∧ pfx X 100000000 = 10 * pfx X 1000000000 + dg ∧ 0 ≤ pfx X 1000000000 := by
  obtain ⟨t0, t1, _⟩ := pfx_t (X := X)
  rw [t0, t1]; omega
theorem pfx_i {H l : Int} (hl : 0 ≤ l ∧ l ≤ 999999999) : pfx (H * 1000000000 + l) 100000000 = H := by rw [(pfx_t (X := H * 1000000000 + l)).2.1]; omega
theorem V_hd {f : Int → Int} {s : Int} : ∀ k : Nat, V f s (k + 1) = f s + 1000000000 * V f (s + 1) k
  | 0 => by show 0 + f (s + ((0 : Nat) : Int)) * 1 = f s + 1000000000 * 0; rw [show s + ((0 : Nat) : Int) = s by omega]; omega
  | k + 1 => by
    have ih := V_hd (f := f) (s := s) k
    show V f s (k + 1) + f (s + ((k + 1 : Nat) : Int)) * (1000000000 * pw k) = f s + 1000000000 * (V f (s + 1) k + f (s + 1 + (k : Int)) * pw k)
    rw [ih, show s + ((k + 1 : Nat) : Int) = s + 1 + (k : Int) by omega, Int.mul_add, Int.add_assoc, Int.add_assoc]
    congr 2
    grind
theorem V_up1 {f : Int → Int} {c i : Int} (h : 0 ≤ i ∧ i < c) : V f i (c - i).toNat = V f (i + 1) (c - 1 - i).toNat * 1000000000 + f i := by
  rw [show (c - i).toNat = (c - 1 - i).toNat + 1 by omega, V_hd]; omega
def sgT (s : Int) : List Int := if s < 0 then [45] else if s = 0 then [48] else []
theorem nm_bv {G : sG} {S : sS} {y : Nat} {b : Int} {o : Nat} (hI : cX G S 0 y b) (ho : tau o = .inl 0) (hb : bs S o) : nmT (bv S o) = sgT (S.1 o 2) ++ dgz (VR S o).toNat := by
  have hs : -1 ≤ S.1 o 2 ∧ S.1 o 2 ≤ 1 := hI.fi o 2 0 (big_lt ho) ho
  have z := bv_0 hI ho hb
  have v0 := VR_0 hI ho
  unfold nmT sgT
  by_cases q : S.1 o 2 = 0
  · rw [if_pos (z.mp q), if_neg (by omega), if_pos q]
    have : VR S o = 0 := by unfold VR; rw [hb.2 q]; rfl
    rw [this]; rfl
  · rw [if_neg (fun e => q (z.mpr e))]
    have p := VR_p hI ho (hb.1 q)
    unfold bv
    rcases (by omega : S.1 o 2 = 1 ∨ S.1 o 2 = -1) with e | e
    · rw [e, if_neg (by omega), if_neg (by omega), if_neg (by omega), Int.one_mul]; rfl
    · rw [e, if_pos (by omega), if_pos (by omega), show -(-1 * VR S o) = VR S o by omega]; rfl
theorem strB_len : ∀ i, i < 38 → (strB.getD i []).length = strN.getD i 0 := by decide +kernel
theorem take_s {L : List Int} {k : Nat} (h : k < L.length) : L.take (k + 1) = L.take k ++ [L.getD k 0] := by
  rw [List.take_add_one, List.getD_eq_getElem?_getD, List.getElem?_eq_getElem h]; rfl
theorem TXc.z {S : sS} {o N : Nat} (h1 : S.1 o 1 = 0) (h2 : S.1 o 2 = 0) : TXc S o N [] := ⟨fun _ => ⟨h1, h2, fun k hk => absurd hk (Nat.not_lt_zero k)⟩, fun q => absurd q (Nat.not_lt_zero N)⟩
theorem psT_s {f : Int → Int} {L : List Int} {k : Int} (h : 1 ≤ k) : psT f L (k + 1 - 1).toNat = prT (psT f L (k - 1).toNat) k (f k) := by
  obtain ⟨m, rfl⟩ : ∃ m : Nat, k = (m : Int) + 1 := ⟨(k - 1).toNat, by omega⟩
  rw [show ((m : Int) + 1 + 1 - 1).toNat = m + 1 by omega, show ((m : Int) + 1 - 1).toNat = m by omega]; rfl
def pTr (k : Nat) : Bool := rgB 160 161 k
def pWl (k : Nat) : Bool := rgB 160 161 k || rgB 169 170 k
def pWc (k : Nat) : Bool := Nat.beq k 122 || rgB 143 144 k || rgB 153 156 k || rgB 160 161 k || rgB 169 170 k
def pGt (k : Nat) : Bool := Nat.beq k 162 || rgB 169 170 k
theorem dic_pWl {o : Nat} (m : dc o) : pWl o = false := by rcases m with rfl | rfl <;> rfl
theorem dic_pWc {o : Nat} (m : dc o) : pWc o = false := by rcases m with rfl | rfl <;> rfl
theorem dic_pGt {o : Nat} (m : dc o) : pGt o = false := by rcases m with rfl | rfl <;> rfl
theorem tdv {a b : Int} (ha : 0 ≤ a) (hb : 1 ≤ b) : a.tdiv b = a / b ∧ 0 ≤ a.tdiv b ∧ a.tdiv b ≤ a := by
  have e := Int.tdiv_eq_ediv_of_nonneg (b := b) ha
  have t := (tdivB (a := a) (b := b) hb).1 ha
  exact ⟨e, t.1, t.2⟩
theorem nm_p {k : Int} (h : 1 ≤ k) : nmT k = dgz k.toNat := by unfold nmT; rw [if_neg (by omega), if_neg (by omega)]
theorem slot162 {G : sG} {S : sS} {x : Nat} {b : Int} (h : cX G S x 0 b) (a : Int) (h0 : a % 8 = 0) (h1 : 0 ≤ a) (h2 : a + 7 < 112) : -7 ≤ S.2.1 162 a ∧ S.2.1 162 a ≤ 7 := by
  have s := h.ns 162 a h0 h1 (show a + 7 < slotN 162 from h2) (fun q => absurd q.1 (by decide))
  exact s.1
set_option maxRecDepth 100000 in
set_option maxHeartbeats 4000000 in
theorem v_J1_charAt (l : Launch) (G : sG) (S : sS) {si : Nat} {k : Int} (hsi : si < 38) (hk : 0 ≤ k ∧ k < (strN.getD si 0 : Nat)) : Met l yJ1_charAt_3b067 (.code yJ1_charAt_3b067 cJ1_charAt_3b067 2 (some .char) :: tb) (rmk 3 0 0) (sPc G 294 S [.ref (G.1.2 101 si), .int (iv k)]) (sQi G 294 (fun r u => u = S ∧ (r = sB si k ∧ 0 ≤ r ∧ r ≤ 127))) 0 0 (sF G) := by
  refine sEnterF (by decide) (Nat.le_of_ble_eq_true rfl) ?_
  intro p e s m args below meth c Cx hr hlk hnm hW ls hl
  have Cx : sC G p m c cJ1_charAt_3b067 2 s args RJ1 := Cx
  obtain ⟨hx, hb, hml, hown, hts⟩ := id Cx.1
  have hL : sL G [] := sL_nil
  have hl : lv_has ls 2 [(0, .ref (G.1.2 101 si)), (1, .int (iv k))] := hl
  have hW0 := hW
  have hnr := strN_r si hsi
  refine lv_iload_n hx hb dJ1_charAt_3b067_0 rfl (lv_at hl 1 rfl) ?_
  refine lv_aload_n hx hb dJ1_charAt_3b067_1 rfl (lv_at hl 0 rfl) ?_
  refine zLen Cx hW0 hW hL (i := si) hsi dJ1_charAt_3b067_2 ?_
  refine sBv (sSt (As := [.int (iv k), .int (iv (((strN.getD si 0 : Nat) : Int)))]) (rest := []) Cx (s_J0_checkIndex_df160 l G S (k := k) (n := ((strN.getD si 0 : Nat) : Int)) (by omega)) (c_J1_9 Cx rfl rfl (rmk_ok (by omega) (by decide))) hW rfl hl.1 rfl (Nat.le_of_ble_eq_true rfl) dJ1_charAt_3b067_3 ⟨Nat.le_of_ble_eq_true rfl, Nat.le_of_ble_eq_true rfl⟩) hL (fun u_1 H locs k_2 hW hL => ?_)
  rw [k_2] at hW
  refine lv_aload_n hx hb dJ1_charAt_3b067_6 rfl (lv_at hl 0 rfl) ?_
  refine lv_iload_n hx hb dJ1_charAt_3b067_7 rfl (lv_at hl 1 rfl) ?_
  refine zByteE Cx hW0 hW hL (i := si) hsi ⟨(by omega), (by omega)⟩ dJ1_charAt_3b067_8 (fun z_3 hz_3 kz_3 ez_3 => ?_)
  refine lv_sipush (v := iv 255) hx hb dJ1_charAt_3b067_9 (by decide) ?_
  refine r_and255e hx hb ⟨(by omega), (by omega)⟩ dJ1_charAt_3b067_12 (fun z_4 hz_4 kz_4 ez_4 => ?_)
  refine r_i2c hx hb ⟨(by omega), (by omega)⟩ dJ1_charAt_3b067_13 ?_
  exact sCret Cx hr hlk hW hL ⟨(by omega), (by omega)⟩ ⟨rfl, ⟨(by omega), (by omega), (by omega)⟩⟩ dJ1_charAt_3b067_14

set_option maxRecDepth 100000 in
set_option maxHeartbeats 4000000 in
theorem v_J0_charAt (l : Launch) (G : sG) (S : sS) {si : Nat} {k : Int} (hsi : si < 38) (hk : 0 ≤ k ∧ k < (strN.getD si 0 : Nat)) : Met l yJ0_charAt_5068e (.code yJ0_charAt_5068e cJ0_charAt_5068e 2 (some .char) :: tb) (rmk 4 0 0) (sPc G 294 S [.ref (G.1.2 100 si), .int (iv k)]) (sQi G 294 (fun r u => u = S ∧ (r = sB si k ∧ 0 ≤ r ∧ r ≤ 127))) 0 0 (sF G) := by
  refine sEnterF (by decide) (Nat.le_of_ble_eq_true rfl) ?_
  intro p e s m args below meth c Cx hr hlk hnm hW ls hl
  have Cx : sC G p m c cJ0_charAt_5068e 2 s args RJ0 := Cx
  obtain ⟨hx, hb, hml, hown, hts⟩ := id Cx.1
  have hL : sL G [] := sL_nil
  have hl : lv_has ls 2 [(0, .ref (G.1.2 100 si)), (1, .int (iv k))] := hl
  have hW0 := hW
  have hnr := strN_r si hsi
  refine lv_aload_n hx hb dJ0_charAt_5068e_0 rfl (lv_at hl 0 rfl) ?_
  refine sBi (sVz (As := []) (rest := []) (a := G.1.2 100 si) Cx (s_J0_isLatin1_aae02 l G S (si := si) hsi) (c_J0_492 Cx rfl rfl (rmk_ok (by omega) (by decide))) hW (zRecv Cx hW0 hW hsi) rfl hl.1 rfl (Nat.le_of_ble_eq_true rfl) dJ0_charAt_5068e_1 ⟨Nat.le_of_ble_eq_true rfl, Nat.le_of_ble_eq_true rfl⟩) hL (fun r_3 u_1 H locs k_2 hW hL => ?_)
  obtain ⟨eu_1, xu_1⟩ := k_2
  rw [eu_1] at hW
  refine r_if_eq (tgt := 16) hx hb ⟨(by omega), (by omega)⟩ dJ0_charAt_5068e_4 (by decide) (fun c => absurd c (by omega)) (fun _ => ?_)
  refine lv_aload_n hx hb dJ0_charAt_5068e_7 rfl (lv_at hl 0 rfl) ?_
  refine zValue Cx hW0 hW hL (i := si) hsi w_2804 dJ0_charAt_5068e_8 ?_
  refine lv_iload_n hx hb dJ0_charAt_5068e_11 rfl (lv_at hl 1 rfl) ?_
  refine sBi (sSt (As := [.ref (G.1.2 101 si), .int (iv k)]) (rest := []) Cx (v_J1_charAt l G S (si := si) (k := k) hsi (by omega)) (c_J0_495 Cx rfl rfl (rmk_ok (by omega) (by decide))) hW rfl hl.1 rfl (Nat.le_of_ble_eq_true rfl) dJ0_charAt_5068e_12 ⟨Nat.le_of_ble_eq_true rfl, Nat.le_of_ble_eq_true rfl⟩) hL (fun r_6 u_4 H locs k_5 hW hL => ?_)
  obtain ⟨eu_4, xu_4⟩ := k_5
  rw [eu_4] at hW
  exact sCret Cx hr hlk hW hL ⟨(by omega), (by omega)⟩ ⟨rfl, (by omega)⟩ dJ0_charAt_5068e_15

set_option maxRecDepth 100000 in
set_option maxHeartbeats 4000000 in
theorem v_X10_put (l : Launch) (G : sG) (S : sS) {o N : Nat} {k : Int} {L : List Int} (hI : cX G S 0 0 0) (ht : txt o N) (hk : 0 ≤ k ∧ k ≤ 127) (hT : Hd (TXc S o N L)) : Met l yX10_put (.code yX10_put cX10_put 2 none :: tb) (rmk 1 0 0) (sPc G 294 S [.ref (G.2.2.1 + o), .int (iv k)]) (sQv G 294 (fun u => cX G u 0 0 0 ∧ Fr S u (pB o) ∧ (Hd (TXc u o N (L ++ [k]))))) 0 0 (sF G) := by
  refine sEnter (by decide) (Nat.le_of_ble_eq_true rfl) ?_
  intro p e s m args below meth c Cx hr hlk hnm hW ls hl
  have Cx : sC G p m c cX10_put 2 s args RX10 := Cx
  obtain ⟨hx, hb, hml, hown, hts⟩ := id Cx.1
  have hL : sL G [] := sL_nil
  have hl : lv_has ls 2 [(0, .ref (G.2.2.1 + o)), (1, .int (iv k))] := hl
  have hW0 := hW
  have hN3 := ht.2.2.2.2.2
  refine lv_aload_n hx hb dX10_put_0 rfl (lv_at hl 0 rfl) ?_
  have q_1 : 0 ≤ S.1 o 1 ∧ S.1 o 1 ≤ (N : Int) := txt_len ht hI
  refine g_X10_21 Cx hW (k := o) (Nat.lt_trans ht.1 (by decide)) ht.2.1 (v := S.1 o 1) rfl dX10_put_1 ?_
  refine lv_aload_n hx hb dX10_put_4 rfl (lv_at hl 0 rfl) ?_
  refine g_X10_15 Cx hW (k := o) (Nat.lt_trans ht.1 (by decide)) ht.2.1 (v := .ref (G.2.2.1 + (o + 1))) (hI.rq.2.1 o ht.1 ht.2.1) dX10_put_5 ?_
  refine sAlen Cx hW (k := o + 1) (txt_l1 ht) ht.2.2.1 2 rfl dX10_put_8 ?_
  refine r_icmp_lt (tgt := 18) hx hb ⟨(by omega), (by omega)⟩ ⟨(by omega), (by omega)⟩ dX10_put_9 (by decide) (fun c_2 => ?_) (fun c_2 => ?_)
  · refine lv_aload_n hx hb dX10_put_18 rfl (lv_at hl 0 rfl) ?_
    refine g_X10_15 Cx hW (k := o) (Nat.lt_trans ht.1 (by decide)) ht.2.1 (v := .ref (G.2.2.1 + (o + 1))) (hI.rq.2.1 o ht.1 ht.2.1) dX10_put_19 ?_
    refine lv_aload_n hx hb dX10_put_22 rfl (lv_at hl 0 rfl) ?_
    refine g_X10_21 Cx hW (k := o) (Nat.lt_trans ht.1 (by decide)) ht.2.1 (v := S.1 o 1) rfl dX10_put_23 ?_
    refine lv_iload_n hx hb dX10_put_26 rfl (lv_at hl 1 rfl) ?_
    refine r_i2bE hx hb ⟨(by omega), (by omega)⟩ dX10_put_27 (fun z_3 hz_3 kz_3 ez_3 => ?_)
    refine rBast Cx hW hL (k := o + 1) (txt_l1 ht) ht.2.2.1 (by omega) (by omega) (by omega) (nar_b (by omega) (by omega)) dX10_put_28 (fun H locs hW hL => ?_)
    have F_4 : Fr S (uA S (o + 1) (S.1 o 1) z_3) (pB o) := (Fr.rf : Fr S S (pB o)).A pB_1
    have i_5 : cX G (uA S (o + 1) (S.1 o 1) z_3) 0 0 0 := hI.byt ht ⟨by omega, by omega⟩
    refine lv_aload_n hx hb dX10_put_29 rfl (lv_at hl 0 rfl) ?_
    refine lv_dup hx hb dX10_put_30 rfl ?_
    refine g_X10_21 Cx hW (k := o) (Nat.lt_trans ht.1 (by decide)) ht.2.1 (v := S.1 o 1) uA_f dX10_put_31 ?_
    refine lv_iconst (v := iv 1) hx hb dX10_put_34 (by decide) ?_
    refine r_iadd hx hb dX10_put_35 ?_
    refine p_X10_21 Cx hW hL (k := o) (Nat.lt_trans ht.1 (by decide)) ht.2.1 dX10_put_36 (fun H locs hW hL => ?_)
    have F_6 : Fr S (uF (uA S (o + 1) (S.1 o 1) z_3) o 1 ((S.1 o 1) + 1)) (pB o) := F_4.F pB_0
    have i_7 : cX G (uF (uA S (o + 1) (S.1 o 1) z_3) o 1 ((S.1 o 1) + 1)) 0 0 0 := i_5.len ht ⟨by omega, by omega⟩
    exact sVret Cx hr hlk hW hL ⟨i_7, F_6, (TXc.put hT (txt_len ht hI) (fun _ => ⟨uF_on, ((uF_ne (fun h => absurd h.2 (by decide))).trans (uA_f)), fun j => (show (uA S (o + 1) (S.1 o 1) z_3).2.1 (o + 1) j = _ by rw [uA_get]; by_cases q : j = S.1 o 1; (rw [if_pos ⟨rfl, q⟩, if_pos q]; omega); (rw [if_neg (fun y => q y.2), if_neg q]))⟩) (fun q => absurd q (by omega)))⟩ dX10_put_39
  · refine lv_aload_n hx hb dX10_put_12 rfl (lv_at hl 0 rfl) ?_
    refine lv_iconst (v := iv 1) hx hb dX10_put_13 (by decide) ?_
    refine p_X10_25 Cx hW hL (k := o) (Nat.lt_trans ht.1 (by decide)) ht.2.1 (by omega) dX10_put_14 (fun H locs hW hL => ?_)
    have F_8 : Fr S (uF S o 2 1) (pB o) := (Fr.rf : Fr S S (pB o)).F pB_0
    have i_9 : cX G (uF S o 2 1) 0 0 0 := hI.F ht.2.1 rfl (show 0 ≤ 1 ∧ 1 ≤ 1 from ⟨by omega, by omega⟩)
    exact sVret Cx hr hlk hW hL ⟨i_9, F_8, (TXc.put hT (txt_len ht hI) (fun q => absurd q (by omega)) (fun _ => ⟨(uF_ne (fun h => absurd h.2 (by decide))), uF_on⟩))⟩ dX10_put_17

set_option maxRecDepth 100000 in
set_option maxHeartbeats 4000000 in
theorem v_X10_word (l : Launch) (G : sG) (S : sS) {o N si : Nat} {L : List Int} (hI : cX G S 0 0 0) (ht : txt o N) (hsi : si < 38) (hN1 : 1 ≤ N) (hT : Hd (TXc S o N L)) : Met l yX10_word (.code yX10_word cX10_word 3 none :: tb) (rmk 5 0 0) (sPc G 294 S [.ref (G.2.2.1 + o), .ref (G.1.2 100 si)]) (sQv G 294 (fun u => cX G u 0 0 0 ∧ Fr S u (pB o) ∧ (Hd (TXc u o N (tkn L (strB.getD si [])))))) 0 0 (sF G) := by
  refine sEnter (by decide) (Nat.le_of_ble_eq_true rfl) ?_
  intro p e s m args below meth c Cx hr hlk hnm hW ls hl
  have Cx : sC G p m c cX10_word 3 s args RX10 := Cx
  obtain ⟨hx, hb, hml, hown, hts⟩ := id Cx.1
  have hL : sL G [] := sL_nil
  have hl : lv_has ls 3 [(0, .ref (G.2.2.1 + o)), (1, .ref (G.1.2 100 si))] := hl
  have hW0 := hW
  have hN3 := ht.2.2.2.2.2
  have hnr := strN_r si hsi
  have join_13 : ∀ (S13 : sS)  (H : Heap) (locs : List Loc) (ls : Array Slot), (cX G S13 0 0 0) → (Fr S S13 (pB o)) → (Fr S S13 (pB o)) → (Hd (TXc S13 o N (L ++ spT L))) → sW G 294 S13 H → sL G locs → lv_has ls 3 [(0, .ref (G.2.2.1 + o)), (1, .ref (G.1.2 100 si))] → W p l e (rmk 5 0 0) s m args below meth c H locs 0 0 (MQ below (sQv G 294 (fun u => cX G u 0 0 0 ∧ Fr S u (pB o) ∧ (Hd (TXc u o N (tkn L (strB.getD si [])))))) args s 0 0 (sF G)) (F0 m 13 ls []) := by
    intro S13  H locs ls hI13 hFm13 hL13_ hj13 hW hL hl
    refine lv_iconst (v := iv 0) hx hb dX10_word_13 (by decide) ?_
    refine lv_istore_n (lv' := [(2, .int (iv 0)), (0, .ref (G.2.2.1 + o)), (1, .ref (G.1.2 100 si))]) hx hb dX10_word_14 rfl hl (by decide) rfl (fun ls hl => ?_)
    have loop_15 : ∀ (fuel : Nat) (S15 : sS) (i : Int) (H : Heap) (locs : List Loc) (ls : Array Slot), (71 - i).toNat < fuel → (cX G S15 0 0 0) → (Fr S S15 (pB o)) → (Fr S S15 (pB o)) → (Fr S13 S15 (pB o)) → (0 ≤ i ∧ i ≤ 70) → (i ≤ (strN.getD si 0 : Nat)) → (Hd (TXc S15 o N (L ++ spT L ++ (strB.getD si []).take i.toNat))) → sW G 294 S15 H → sL G locs → lv_has ls 3 [(2, .int (iv i)), (0, .ref (G.2.2.1 + o)), (1, .ref (G.1.2 100 si))] → W p l e (rmk 5 0 0) s m args below meth c H locs 0 0 (MQ below (sQv G 294 (fun u => cX G u 0 0 0 ∧ Fr S u (pB o) ∧ (Hd (TXc u o N (tkn L (strB.getD si [])))))) args s 0 0 (sF G)) (F0 m 15 ls []) := by
      intro fuel
      induction fuel with
      | zero => intro S15 i H locs ls hmeas hI15 hFm15 hFL1315 hL15_ hi hin hw hW hL hl; exact absurd hmeas (Nat.not_lt_zero _)
      | succ fuel ih_15 =>
        intro S15 i H locs ls hmeas hI15 hFm15 hFL1315 hL15_ hi hin hw hW hL hl
        refine lv_iload_n hx hb dX10_word_15 rfl (lv_at hl 0 rfl) ?_
        refine lv_aload_n hx hb dX10_word_16 rfl (lv_at hl 2 rfl) ?_
        refine sBi (sVz (As := []) (rest := [.int (iv i)]) (a := G.1.2 100 si) Cx (s_J0_length_8abf5 l G S15 (si := si) hsi) (c_X10_33 Cx rfl rfl (rmk_ok (by omega) (by decide))) hW (zRecv Cx hW0 hW hsi) rfl hl.1 rfl (Nat.le_of_ble_eq_true rfl) dX10_word_17 ⟨Nat.le_of_ble_eq_true rfl, Nat.le_of_ble_eq_true rfl⟩) hL (fun r_3 u_1 H locs k_2 hW hL => ?_)
        obtain ⟨eu_1, xu_1⟩ := k_2
        rw [eu_1] at hW
        refine r_icmp_ge (tgt := 38) hx hb ⟨(by omega), (by omega)⟩ ⟨(by omega), (by omega)⟩ dX10_word_20 (by decide) (fun c_4 => ?_) (fun c_4 => ?_)
        · exact sVret Cx hr hlk hW hL ⟨hI15, hFm15, (hw.eq (by rw [tkn_e, List.take_of_length_le (by rw [strB_len si hsi]; omega)]))⟩ dX10_word_38
        · refine lv_aload_n hx hb dX10_word_23 rfl (lv_at hl 1 rfl) ?_
          refine lv_aload_n hx hb dX10_word_24 rfl (lv_at hl 2 rfl) ?_
          refine lv_iload_n hx hb dX10_word_25 rfl (lv_at hl 0 rfl) ?_
          refine sBi (sVz (As := [.int (iv i)]) (rest := [.ref (G.2.2.1 + o)]) (a := G.1.2 100 si) Cx (v_J0_charAt l G S15 (si := si) (k := i) hsi (by omega)) (c_X10_38 Cx rfl rfl (rmk_ok (by omega) (by decide))) hW (zRecv Cx hW0 hW hsi) rfl hl.1 rfl (Nat.le_of_ble_eq_true rfl) dX10_word_26 ⟨Nat.le_of_ble_eq_true rfl, Nat.le_of_ble_eq_true rfl⟩) hL (fun r_7 u_5 H locs k_6 hW hL => ?_)
          obtain ⟨eu_5, xu_5⟩ := k_6
          rw [eu_5] at hW
          refine sBv (sV (As := [.int (iv r_7)]) (rest := []) (k := o) Cx (v_X10_put l G S15 (o := o) (k := r_7) (N := N) (L := (L ++ spT L ++ (strB.getD si []).take i.toNat)) hI15 ht (by omega) hw) (c_X10_29 Cx rfl rfl (rmk_ok (by omega) (by decide))) hW (Nat.lt_trans ht.1 (by decide)) ht.2.1 rfl rfl hl.1 rfl (Nat.le_of_ble_eq_true rfl) dX10_word_29 ⟨Nat.le_of_ble_eq_true rfl, Nat.le_of_ble_eq_true rfl⟩) hL (fun u_8 H locs k_9 hW hL => ?_)
          obtain ⟨iu_8, fu_8, xu_8⟩ := k_9
          have F_10 := hFm15.trans fu_8
          have F_11 := hFL1315.trans fu_8
          have F_12 := hL15_.trans fu_8
          refine lv_iinc (v := iv (i + 1)) (lv' := [(2, .int (iv (i + 1))), (0, .ref (G.2.2.1 + o)), (1, .ref (G.1.2 100 si))]) hx hb dX10_word_32 hl (k := 0) rfl ((Int32.ofInt_add _ _).symm) (by decide) rfl (fun ls hl => ?_)
          refine lv_goto (tgt := 15) hx hb dX10_word_35 (by decide) ?_
          exact ih_15 u_8 (i + 1) _ _ _ (by omega) iu_8 F_10 F_11 F_12 (by omega) (by omega) (show TXc _ o N _ from (xu_8).eq (by rw [List.append_assoc]; congr 1; rw [show (i + 1).toNat = i.toNat + 1 by omega, take_s (by rw [strB_len si hsi]; omega), xu_5.1]; rfl)) hW hL (lv_sub hl [0, 1, 2] rfl)
    exact loop_15 (_ + 1) S13 0 _ _ _ (Nat.lt_succ_self _) hI13 hFm13 hL13_ Fr.rf (by omega) (by omega) (hj13.eq (by rw [show ((0 : Int)).toNat = 0 from rfl, List.take_zero, List.append_nil])) hW hL (lv_sub hl [0, 1, 2] rfl)
  refine lv_aload_n hx hb dX10_word_0 rfl (lv_at hl 0 rfl) ?_
  have q_13 : 0 ≤ S.1 o 1 ∧ S.1 o 1 ≤ (N : Int) := txt_len ht hI
  refine g_X10_21 Cx hW (k := o) (Nat.lt_trans ht.1 (by decide)) ht.2.1 (v := S.1 o 1) rfl dX10_word_1 ?_
  refine r_if_le (tgt := 13) hx hb ⟨(by omega), (by omega)⟩ dX10_word_4 (by decide) (fun c_14 => ?_) (fun c_14 => ?_)
  · exact join_13 S  _ _ _ hI (Fr.rf : Fr S S (pB o)) (Fr.rf : Fr S S (pB o)) (TXc.eq hT (show L = L ++ spT L from (by unfold spT; rw [if_pos (by have := (hT.some hN1); omega), List.append_nil]))) hW hL (lv_sub hl [0, 1] rfl)
  · refine lv_aload_n hx hb dX10_word_7 rfl (lv_at hl 0 rfl) ?_
    refine lv_bipush (v := iv 32) hx hb dX10_word_8 (by decide) ?_
    refine sBv (sV (As := [.int (iv 32)]) (rest := []) (k := o) Cx (v_X10_put l G S (o := o) (k := 32) (N := N) (L := L) hI ht (by omega) hT) (c_X10_29 Cx rfl rfl (rmk_ok (by omega) (by decide))) hW (Nat.lt_trans ht.1 (by decide)) ht.2.1 rfl rfl hl.1 rfl (Nat.le_of_ble_eq_true rfl) dX10_word_10 ⟨Nat.le_of_ble_eq_true rfl, Nat.le_of_ble_eq_true rfl⟩) hL (fun u_15 H locs k_16 hW hL => ?_)
    obtain ⟨iu_15, fu_15, xu_15⟩ := k_16
    have F_17 := (Fr.rf : Fr S S (pB o)).trans fu_15
    have F_18 := (Fr.rf : Fr S S (pB o)).trans fu_15
    exact join_13 u_15  _ _ _ iu_15 F_17 F_18 (TXc.eq xu_15 (show L ++ [32] = L ++ spT L from (by unfold spT; rw [if_neg (by have := (hT.some hN1); omega)]))) hW hL (lv_sub hl [0, 1] rfl)

set_option maxRecDepth 100000 in
set_option maxHeartbeats 4000000 in
theorem v_X10_count (l : Launch) (G : sG) (S : sS) {o N : Nat} {k : Int} {L : List Int} (hI : cX G S 0 0 0) (ht : txt o N) (hN1 : 1 ≤ N) (hk1 : 1 ≤ k ∧ k ≤ 999999999) (hT : Hd (TXc S o N L)) : Met l yX10_count (.code yX10_count cX10_count 5 none :: tb) (rmk 2 0 0) (sPc G 294 S [.ref (G.2.2.1 + o), .int (iv k)]) (sQv G 294 (fun u => cX G u 0 0 0 ∧ Fr S u (pB o) ∧ (Hd (TXc u o N (tkn L (nmT k)))))) 0 0 (sF G) := by
  refine sEnter (by decide) (Nat.le_of_ble_eq_true rfl) ?_
  intro p e s m args below meth c Cx hr hlk hnm hW ls hl
  have Cx : sC G p m c cX10_count 5 s args RX10 := Cx
  obtain ⟨hx, hb, hml, hown, hts⟩ := id Cx.1
  have hL : sL G [] := sL_nil
  have hl : lv_has ls 5 [(0, .ref (G.2.2.1 + o)), (1, .int (iv k))] := hl
  have hW0 := hW
  have hN3 := ht.2.2.2.2.2
  have join_13 : ∀ (S13 : sS)  (H : Heap) (locs : List Loc) (ls : Array Slot), (cX G S13 0 0 0) → (Fr S S13 (pB o)) → (Fr S S13 (pB o)) → (Hd (TXc S13 o N (L ++ spT L))) → sW G 294 S13 H → sL G locs → lv_has ls 5 [(0, .ref (G.2.2.1 + o)), (1, .int (iv k))] → W p l e (rmk 2 0 0) s m args below meth c H locs 0 0 (MQ below (sQv G 294 (fun u => cX G u 0 0 0 ∧ Fr S u (pB o) ∧ (Hd (TXc u o N (tkn L (nmT k)))))) args s 0 0 (sF G)) (F0 m 13 ls []) := by
    intro S13  H locs ls hI13 hFm13 hL13_ hj13 hW hL hl
    refine lv_iconst (v := iv 0) hx hb dX10_count_13 (by decide) ?_
    refine lv_istore_n (lv' := [(2, .int (iv 0)), (0, .ref (G.2.2.1 + o)), (1, .int (iv k))]) hx hb dX10_count_14 rfl hl (by decide) rfl (fun ls hl => ?_)
    refine lv_ldc hx hb hown (hts _ w_1460) dX10_count_15 ?_
    refine lv_istore_n (lv' := [(3, .int (iv 1000000000)), (2, .int (iv 0)), (0, .ref (G.2.2.1 + o)), (1, .int (iv k))]) hx hb dX10_count_17 rfl hl (by decide) rfl (fun ls hl => ?_)
    have loop_18 : ∀ (fuel : Nat) (S18 : sS) (un : Int) (sd : Int) (H : Heap) (locs : List Loc) (ls : Array Slot), un.toNat < fuel → (cX G S18 0 0 0) → (Fr S S18 (pB o)) → (Fr S S18 (pB o)) → (Fr S13 S18 (pB o)) → (un = 1000000000 ∨ Hd (unS un) ∨ un = 0) → (0 ≤ un ∧ un ≤ 1000000000) → (0 ≤ sd ∧ sd ≤ 1) → (sd = 1 ↔ pfx k un ≠ 0) → (Hd (TXc S18 o N (L ++ spT L ++ dgz (pfx k un).toNat))) → sW G 294 S18 H → sL G locs → lv_has ls 5 [(3, .int (iv un)), (2, .int (iv sd)), (0, .ref (G.2.2.1 + o)), (1, .int (iv k))] → W p l e (rmk 2 0 0) s m args below meth c H locs 0 0 (MQ below (sQv G 294 (fun u => cX G u 0 0 0 ∧ Fr S u (pB o) ∧ (Hd (TXc u o N (tkn L (nmT k)))))) args s 0 0 (sF G)) (F0 m 18 ls []) := by
      intro fuel
      induction fuel with
      | zero => intro S18 un sd H locs ls hmeas hI18 hFm18 hFL1318 hL18_ hun hub hsd hsp hc hW hL hl; exact absurd hmeas (Nat.not_lt_zero _)
      | succ fuel ih_18 =>
        intro S18 un sd H locs ls hmeas hI18 hFm18 hFL1318 hL18_ hun hub hsd hsp hc hW hL hl
        refine lv_iload_n hx hb dX10_count_18 rfl (lv_at hl 0 rfl) ?_
        refine r_if_le (tgt := 71) hx hb ⟨(by omega), (by omega)⟩ dX10_count_19 (by decide) (fun c_1 => ?_) (fun c_1 => ?_)
        · exact sVret Cx hr hlk hW hL ⟨hI18, hFm18, (TXc.eq hc (by rw [tkn_e, show un = 0 by omega, show pfx k 0 = k from rfl, nm_p hk1.1]))⟩ dX10_count_71
        · have hu1 : 1 ≤ un := by omega
          refine lv_iload_n hx hb dX10_count_22 rfl (lv_at hl 3 rfl) ?_
          refine lv_iload_n hx hb dX10_count_23 rfl (lv_at hl 0 rfl) ?_
          refine r_idiv hx hb ⟨(by omega), (by omega)⟩ ⟨(by omega), (by omega)⟩ (by omega) dX10_count_24 ?_
          obtain ⟨dq, edq⟩ : ∃ z : Int, z = k.tdiv un := ⟨_, rfl⟩
          have hdq := tdv (a := k) (b := un) (by omega) (by omega)
          rw [← edq] at hdq
          refine r_i (b := dq) edq.symm ?_
          refine lv_bipush (v := iv 10) hx hb dX10_count_25 (by decide) ?_
          refine r_irem hx hb ⟨(by omega), (by omega)⟩ ⟨(by omega), (by omega)⟩ (by omega) dX10_count_27 ?_
          obtain ⟨dg, edg⟩ : ∃ z : Int, z = dq.tmod 10 := ⟨_, rfl⟩
          have hdg := tmodL (a := dq) (b := 10) (by omega)
          rw [← edg] at hdg
          refine r_i (b := dg) edg.symm ?_
          clear edg
          refine lv_istore (lv' := [(4, .int (iv dg)), (3, .int (iv un)), (2, .int (iv sd)), (0, .ref (G.2.2.1 + o)), (1, .int (iv k))]) hx hb dX10_count_28 hl (by decide) rfl (fun ls hl => ?_)
          refine lv_iload_n hx hb dX10_count_30 rfl (lv_at hl 2 rfl) ?_
          refine r_if_ne (tgt := 44) hx hb ⟨(by omega), (by omega)⟩ dX10_count_31 (by decide) (fun c_2 => ?_) (fun c_2 => ?_)
          · refine lv_iconst (v := iv 1) hx hb dX10_count_44 (by decide) ?_
            refine lv_goto (tgt := 49) hx hb dX10_count_45 (by decide) ?_
            refine lv_istore_n (lv' := [(2, .int (iv 1)), (4, .int (iv dg)), (3, .int (iv un)), (0, .ref (G.2.2.1 + o)), (1, .int (iv k))]) hx hb dX10_count_49 rfl hl (by decide) rfl (fun ls hl => ?_)
            refine lv_iload_n hx hb dX10_count_50 rfl (lv_at hl 0 rfl) ?_
            refine r_if_eq (tgt := 63) hx hb ⟨(by omega), (by omega)⟩ dX10_count_51 (by decide) (fun c => absurd c (by omega)) (fun _ => ?_)
            refine lv_aload_n hx hb dX10_count_54 rfl (lv_at hl 3 rfl) ?_
            refine lv_bipush (v := iv 48) hx hb dX10_count_55 (by decide) ?_
            refine lv_iload hx hb dX10_count_57 (lv_at hl 1 rfl) ?_
            refine r_iadd hx hb dX10_count_59 ?_
            refine sBv (sV (As := [.int (iv (48 + dg))]) (rest := []) (k := o) Cx (v_X10_put l G S18 (o := o) (k := 48 + dg) (N := N) (L := (L ++ spT L ++ dgz (pfx k un).toNat)) hI18 ht (by omega) hc) (c_X10_29 Cx rfl rfl (rmk_ok (by omega) (by decide))) hW (Nat.lt_trans ht.1 (by decide)) ht.2.1 rfl rfl hl.1 rfl (Nat.le_of_ble_eq_true rfl) dX10_count_60 ⟨Nat.le_of_ble_eq_true rfl, Nat.le_of_ble_eq_true rfl⟩) hL (fun u_3 H locs k_4 hW hL => ?_)
            obtain ⟨iu_3, fu_3, xu_3⟩ := k_4
            have F_5 := hFm18.trans fu_3
            have F_6 := hFL1318.trans fu_3
            have F_7 := hL18_.trans fu_3
            refine lv_iload_n hx hb dX10_count_63 rfl (lv_at hl 2 rfl) ?_
            refine lv_bipush (v := iv 10) hx hb dX10_count_64 (by decide) ?_
            refine r_idiv hx hb ⟨(by omega), (by omega)⟩ ⟨(by omega), (by omega)⟩ (by omega) dX10_count_66 ?_
            obtain ⟨un2, eun2⟩ : ∃ z : Int, z = un.tdiv 10 := ⟨_, rfl⟩
            have hun2 := tdivL (a := un) (b := 10) (by omega)
            rw [← eun2] at hun2
            refine r_i (b := un2) eun2.symm ?_
            clear eun2
            have hds : (0 ≤ dg ∧ dg ≤ 9) ∧ pfx k un2 = 10 * pfx k un + dg ∧ 0 ≤ pfx k un ∧ (unS un2 ∨ un2 = 0) ∧ (un2 = 0 → pfx k un2 = k) := by rcases hun with q | q | q; (have y := dg_s9 (X := k) (dq := dq) (dg := dg) (by omega) (by rw [hdq.1, q]) (by omega); rw [q, show un2 = 100000000 by omega]; exact ⟨y.1, y.2.1, y.2.2, .inl (.inl rfl), fun z => absurd z (by decide)⟩); (have y := dg_st (X := k) (H := 0) (l := k) (un := un) (dq := dq) (dg := dg) (un2 := un2) (by omega) (by omega) (by omega) q hdq.1 (by omega) (by omega); exact ⟨y.1, y.2.1, y.2.2.1, y.2.2.2, fun z => by rw [z]; rfl⟩); (exfalso; omega)
            refine lv_istore_n (lv' := [(3, .int (iv un2)), (2, .int (iv 1)), (4, .int (iv dg)), (0, .ref (G.2.2.1 + o)), (1, .int (iv k))]) hx hb dX10_count_67 rfl hl (by decide) rfl (fun ls hl => ?_)
            refine lv_goto (tgt := 18) hx hb dX10_count_68 (by decide) ?_
            exact ih_18 u_3 un2 1 _ _ _ (by omega) iu_3 F_5 F_6 F_7 (by rcases hds.2.2.2.1 with q | q; exact .inr (.inl q); exact .inr (.inr q)) (by omega) (by omega) (by have h1 := hds.1; have h2 := hds.2.1; have h3 := hds.2.2.1; have h4 := hds.2.2.2.2; omega) (TXc.eq xu_3 (by rw [List.append_assoc, hds.2.1, dgz_i hds.2.2.1 hds.1 (by omega)])) hW hL (lv_sub hl [0, 1, 3, 4] rfl)
          · refine lv_iload hx hb dX10_count_34 (lv_at hl 0 rfl) ?_
            refine r_if_ne (tgt := 44) hx hb ⟨(by omega), (by omega)⟩ dX10_count_36 (by decide) (fun c_8 => ?_) (fun c_8 => ?_)
            · refine lv_iconst (v := iv 1) hx hb dX10_count_44 (by decide) ?_
              refine lv_goto (tgt := 49) hx hb dX10_count_45 (by decide) ?_
              refine lv_istore_n (lv' := [(2, .int (iv 1)), (4, .int (iv dg)), (3, .int (iv un)), (0, .ref (G.2.2.1 + o)), (1, .int (iv k))]) hx hb dX10_count_49 rfl hl (by decide) rfl (fun ls hl => ?_)
              refine lv_iload_n hx hb dX10_count_50 rfl (lv_at hl 0 rfl) ?_
              refine r_if_eq (tgt := 63) hx hb ⟨(by omega), (by omega)⟩ dX10_count_51 (by decide) (fun c => absurd c (by omega)) (fun _ => ?_)
              refine lv_aload_n hx hb dX10_count_54 rfl (lv_at hl 3 rfl) ?_
              refine lv_bipush (v := iv 48) hx hb dX10_count_55 (by decide) ?_
              refine lv_iload hx hb dX10_count_57 (lv_at hl 1 rfl) ?_
              refine r_iadd hx hb dX10_count_59 ?_
              refine sBv (sV (As := [.int (iv (48 + dg))]) (rest := []) (k := o) Cx (v_X10_put l G S18 (o := o) (k := 48 + dg) (N := N) (L := (L ++ spT L ++ dgz (pfx k un).toNat)) hI18 ht (by omega) hc) (c_X10_29 Cx rfl rfl (rmk_ok (by omega) (by decide))) hW (Nat.lt_trans ht.1 (by decide)) ht.2.1 rfl rfl hl.1 rfl (Nat.le_of_ble_eq_true rfl) dX10_count_60 ⟨Nat.le_of_ble_eq_true rfl, Nat.le_of_ble_eq_true rfl⟩) hL (fun u_9 H locs k_10 hW hL => ?_)
              obtain ⟨iu_9, fu_9, xu_9⟩ := k_10
              have F_11 := hFm18.trans fu_9
              have F_12 := hFL1318.trans fu_9
              have F_13 := hL18_.trans fu_9
              refine lv_iload_n hx hb dX10_count_63 rfl (lv_at hl 2 rfl) ?_
              refine lv_bipush (v := iv 10) hx hb dX10_count_64 (by decide) ?_
              refine r_idiv hx hb ⟨(by omega), (by omega)⟩ ⟨(by omega), (by omega)⟩ (by omega) dX10_count_66 ?_
              obtain ⟨un2, eun2⟩ : ∃ z : Int, z = un.tdiv 10 := ⟨_, rfl⟩
              have hun2 := tdivL (a := un) (b := 10) (by omega)
              rw [← eun2] at hun2
              refine r_i (b := un2) eun2.symm ?_
              clear eun2
              have hds : (0 ≤ dg ∧ dg ≤ 9) ∧ pfx k un2 = 10 * pfx k un + dg ∧ 0 ≤ pfx k un ∧ (unS un2 ∨ un2 = 0) ∧ (un2 = 0 → pfx k un2 = k) := by rcases hun with q | q | q; (have y := dg_s9 (X := k) (dq := dq) (dg := dg) (by omega) (by rw [hdq.1, q]) (by omega); rw [q, show un2 = 100000000 by omega]; exact ⟨y.1, y.2.1, y.2.2, .inl (.inl rfl), fun z => absurd z (by decide)⟩); (have y := dg_st (X := k) (H := 0) (l := k) (un := un) (dq := dq) (dg := dg) (un2 := un2) (by omega) (by omega) (by omega) q hdq.1 (by omega) (by omega); exact ⟨y.1, y.2.1, y.2.2.1, y.2.2.2, fun z => by rw [z]; rfl⟩); (exfalso; omega)
              refine lv_istore_n (lv' := [(3, .int (iv un2)), (2, .int (iv 1)), (4, .int (iv dg)), (0, .ref (G.2.2.1 + o)), (1, .int (iv k))]) hx hb dX10_count_67 rfl hl (by decide) rfl (fun ls hl => ?_)
              refine lv_goto (tgt := 18) hx hb dX10_count_68 (by decide) ?_
              exact ih_18 u_9 un2 1 _ _ _ (by omega) iu_9 F_11 F_12 F_13 (by rcases hds.2.2.2.1 with q | q; exact .inr (.inl q); exact .inr (.inr q)) (by omega) (by omega) (by have h1 := hds.1; have h2 := hds.2.1; have h3 := hds.2.2.1; have h4 := hds.2.2.2.2; omega) (TXc.eq xu_9 (by rw [List.append_assoc, hds.2.1, dgz_i hds.2.2.1 hds.1 (by omega)])) hW hL (lv_sub hl [0, 1, 3, 4] rfl)
            · refine lv_iload_n hx hb dX10_count_39 rfl (lv_at hl 1 rfl) ?_
              refine lv_iconst (v := iv 1) hx hb dX10_count_40 (by decide) ?_
              refine r_icmp_ne (tgt := 48) hx hb ⟨(by omega), (by omega)⟩ ⟨(by omega), (by omega)⟩ dX10_count_41 (by decide) (fun c_14 => ?_) (fun c_14 => ?_)
              · refine lv_iconst (v := iv 0) hx hb dX10_count_48 (by decide) ?_
                refine lv_istore_n (lv' := [(2, .int (iv 0)), (4, .int (iv dg)), (3, .int (iv un)), (0, .ref (G.2.2.1 + o)), (1, .int (iv k))]) hx hb dX10_count_49 rfl hl (by decide) rfl (fun ls hl => ?_)
                refine lv_iload_n hx hb dX10_count_50 rfl (lv_at hl 0 rfl) ?_
                refine r_if_eq (tgt := 63) hx hb ⟨(by omega), (by omega)⟩ dX10_count_51 (by decide) (fun _ => ?_) (fun c => absurd (by omega) c)
                refine lv_iload_n hx hb dX10_count_63 rfl (lv_at hl 2 rfl) ?_
                refine lv_bipush (v := iv 10) hx hb dX10_count_64 (by decide) ?_
                refine r_idiv hx hb ⟨(by omega), (by omega)⟩ ⟨(by omega), (by omega)⟩ (by omega) dX10_count_66 ?_
                obtain ⟨un2, eun2⟩ : ∃ z : Int, z = un.tdiv 10 := ⟨_, rfl⟩
                have hun2 := tdivL (a := un) (b := 10) (by omega)
                rw [← eun2] at hun2
                refine r_i (b := un2) eun2.symm ?_
                clear eun2
                have hds : (0 ≤ dg ∧ dg ≤ 9) ∧ pfx k un2 = 10 * pfx k un + dg ∧ 0 ≤ pfx k un ∧ (unS un2 ∨ un2 = 0) ∧ (un2 = 0 → pfx k un2 = k) := by rcases hun with q | q | q; (have y := dg_s9 (X := k) (dq := dq) (dg := dg) (by omega) (by rw [hdq.1, q]) (by omega); rw [q, show un2 = 100000000 by omega]; exact ⟨y.1, y.2.1, y.2.2, .inl (.inl rfl), fun z => absurd z (by decide)⟩); (have y := dg_st (X := k) (H := 0) (l := k) (un := un) (dq := dq) (dg := dg) (un2 := un2) (by omega) (by omega) (by omega) q hdq.1 (by omega) (by omega); exact ⟨y.1, y.2.1, y.2.2.1, y.2.2.2, fun z => by rw [z]; rfl⟩); (exfalso; omega)
                refine lv_istore_n (lv' := [(3, .int (iv un2)), (2, .int (iv 0)), (4, .int (iv dg)), (0, .ref (G.2.2.1 + o)), (1, .int (iv k))]) hx hb dX10_count_67 rfl hl (by decide) rfl (fun ls hl => ?_)
                refine lv_goto (tgt := 18) hx hb dX10_count_68 (by decide) ?_
                exact ih_18 S18 un2 0 _ _ _ (by omega) hI18 hFm18 hFL1318 hL18_ (by rcases hds.2.2.2.1 with q | q; exact .inr (.inl q); exact .inr (.inr q)) (by omega) (by omega) (by have h1 := hds.1; have h2 := hds.2.1; have h3 := hds.2.2.1; have h4 := hds.2.2.2.2; omega) (TXc.eq hc (by rw [hds.2.1, show 10 * pfx k un + dg = pfx k un by omega])) hW hL (lv_sub hl [0, 1, 3, 4] rfl)
              · refine lv_iconst (v := iv 1) hx hb dX10_count_44 (by decide) ?_
                refine lv_goto (tgt := 49) hx hb dX10_count_45 (by decide) ?_
                refine lv_istore_n (lv' := [(2, .int (iv 1)), (4, .int (iv dg)), (3, .int (iv un)), (0, .ref (G.2.2.1 + o)), (1, .int (iv k))]) hx hb dX10_count_49 rfl hl (by decide) rfl (fun ls hl => ?_)
                refine lv_iload_n hx hb dX10_count_50 rfl (lv_at hl 0 rfl) ?_
                refine r_if_eq (tgt := 63) hx hb ⟨(by omega), (by omega)⟩ dX10_count_51 (by decide) (fun c => absurd c (by omega)) (fun _ => ?_)
                refine lv_aload_n hx hb dX10_count_54 rfl (lv_at hl 3 rfl) ?_
                refine lv_bipush (v := iv 48) hx hb dX10_count_55 (by decide) ?_
                refine lv_iload hx hb dX10_count_57 (lv_at hl 1 rfl) ?_
                refine r_iadd hx hb dX10_count_59 ?_
                refine sBv (sV (As := [.int (iv (48 + dg))]) (rest := []) (k := o) Cx (v_X10_put l G S18 (o := o) (k := 48 + dg) (N := N) (L := (L ++ spT L ++ dgz (pfx k un).toNat)) hI18 ht (by omega) hc) (c_X10_29 Cx rfl rfl (rmk_ok (by omega) (by decide))) hW (Nat.lt_trans ht.1 (by decide)) ht.2.1 rfl rfl hl.1 rfl (Nat.le_of_ble_eq_true rfl) dX10_count_60 ⟨Nat.le_of_ble_eq_true rfl, Nat.le_of_ble_eq_true rfl⟩) hL (fun u_15 H locs k_16 hW hL => ?_)
                obtain ⟨iu_15, fu_15, xu_15⟩ := k_16
                have F_17 := hFm18.trans fu_15
                have F_18 := hFL1318.trans fu_15
                have F_19 := hL18_.trans fu_15
                refine lv_iload_n hx hb dX10_count_63 rfl (lv_at hl 2 rfl) ?_
                refine lv_bipush (v := iv 10) hx hb dX10_count_64 (by decide) ?_
                refine r_idiv hx hb ⟨(by omega), (by omega)⟩ ⟨(by omega), (by omega)⟩ (by omega) dX10_count_66 ?_
                obtain ⟨un2, eun2⟩ : ∃ z : Int, z = un.tdiv 10 := ⟨_, rfl⟩
                have hun2 := tdivL (a := un) (b := 10) (by omega)
                rw [← eun2] at hun2
                refine r_i (b := un2) eun2.symm ?_
                clear eun2
                have hds : (0 ≤ dg ∧ dg ≤ 9) ∧ pfx k un2 = 10 * pfx k un + dg ∧ 0 ≤ pfx k un ∧ (unS un2 ∨ un2 = 0) ∧ (un2 = 0 → pfx k un2 = k) := by rcases hun with q | q | q; (have y := dg_s9 (X := k) (dq := dq) (dg := dg) (by omega) (by rw [hdq.1, q]) (by omega); rw [q, show un2 = 100000000 by omega]; exact ⟨y.1, y.2.1, y.2.2, .inl (.inl rfl), fun z => absurd z (by decide)⟩); (have y := dg_st (X := k) (H := 0) (l := k) (un := un) (dq := dq) (dg := dg) (un2 := un2) (by omega) (by omega) (by omega) q hdq.1 (by omega) (by omega); exact ⟨y.1, y.2.1, y.2.2.1, y.2.2.2, fun z => by rw [z]; rfl⟩); (exfalso; omega)
                refine lv_istore_n (lv' := [(3, .int (iv un2)), (2, .int (iv 1)), (4, .int (iv dg)), (0, .ref (G.2.2.1 + o)), (1, .int (iv k))]) hx hb dX10_count_67 rfl hl (by decide) rfl (fun ls hl => ?_)
                refine lv_goto (tgt := 18) hx hb dX10_count_68 (by decide) ?_
                exact ih_18 u_15 un2 1 _ _ _ (by omega) iu_15 F_17 F_18 F_19 (by rcases hds.2.2.2.1 with q | q; exact .inr (.inl q); exact .inr (.inr q)) (by omega) (by omega) (by have h1 := hds.1; have h2 := hds.2.1; have h3 := hds.2.2.1; have h4 := hds.2.2.2.2; omega) (TXc.eq xu_15 (by rw [List.append_assoc, hds.2.1, dgz_i hds.2.2.1 hds.1 (by omega)])) hW hL (lv_sub hl [0, 1, 3, 4] rfl)
    exact loop_18 (_ + 1) S13 1000000000 0 _ _ _ (Nat.lt_succ_self _) hI13 hFm13 hL13_ Fr.rf (.inl rfl) (by omega) (by omega) (by rw [(pfx_t (X := k)).1]; omega) (TXc.eq hj13 (by rw [(pfx_t (X := k)).1, show k / 10000000000 = 0 by omega]; exact (List.append_nil _).symm)) hW hL (lv_sub hl [0, 1, 2, 3] rfl)
  refine lv_aload_n hx hb dX10_count_0 rfl (lv_at hl 0 rfl) ?_
  have q_20 : 0 ≤ S.1 o 1 ∧ S.1 o 1 ≤ (N : Int) := txt_len ht hI
  refine g_X10_21 Cx hW (k := o) (Nat.lt_trans ht.1 (by decide)) ht.2.1 (v := S.1 o 1) rfl dX10_count_1 ?_
  refine r_if_le (tgt := 13) hx hb ⟨(by omega), (by omega)⟩ dX10_count_4 (by decide) (fun c_21 => ?_) (fun c_21 => ?_)
  · exact join_13 S  _ _ _ hI (Fr.rf : Fr S S (pB o)) (Fr.rf : Fr S S (pB o)) (TXc.eq hT (show L = L ++ spT L from (by unfold spT; rw [if_pos (by have := (hT.some hN1); omega), List.append_nil]))) hW hL (lv_sub hl [0, 1] rfl)
  · refine lv_aload_n hx hb dX10_count_7 rfl (lv_at hl 0 rfl) ?_
    refine lv_bipush (v := iv 32) hx hb dX10_count_8 (by decide) ?_
    refine sBv (sV (As := [.int (iv 32)]) (rest := []) (k := o) Cx (v_X10_put l G S (o := o) (k := 32) (N := N) (L := L) hI ht (by omega) hT) (c_X10_29 Cx rfl rfl (rmk_ok (by omega) (by decide))) hW (Nat.lt_trans ht.1 (by decide)) ht.2.1 rfl rfl hl.1 rfl (Nat.le_of_ble_eq_true rfl) dX10_count_10 ⟨Nat.le_of_ble_eq_true rfl, Nat.le_of_ble_eq_true rfl⟩) hL (fun u_22 H locs k_23 hW hL => ?_)
    obtain ⟨iu_22, fu_22, xu_22⟩ := k_23
    have F_24 := (Fr.rf : Fr S S (pB o)).trans fu_22
    have F_25 := (Fr.rf : Fr S S (pB o)).trans fu_22
    exact join_13 u_22  _ _ _ iu_22 F_24 F_25 (TXc.eq xu_22 (show L ++ [32] = L ++ spT L from (by unfold spT; rw [if_neg (by have := (hT.some hN1); omega)]))) hW hL (lv_sub hl [0, 1] rfl)

set_option maxRecDepth 100000 in
set_option maxHeartbeats 4000000 in
theorem v_X10_number (l : Launch) (G : sG) (S : sS) {o N v : Nat} {L : List Int} (hI : cX G S 0 0 0) (ht : txt o N) (hv : tau v = .inl 0) (hN1 : 1 ≤ N) (hbs : Hd (bs S v)) (hT : Hd (TXc S o N L)) : Met l yX10_number (.code yX10_number cX10_number 7 none :: tb) (rmk 2 0 0) (sPc G 294 S [.ref (G.2.2.1 + o), .ref (G.2.2.1 + v), .int (iv 1)]) (sQv G 294 (fun u => cX G u 0 0 0 ∧ Fr S u (pB o) ∧ (Hd (TXc u o N (tkn L (nmT (bv S v))))))) 0 0 (sF G) := by
  refine sEnter (by decide) (Nat.le_of_ble_eq_true rfl) ?_
  intro p e s m args below meth c Cx hr hlk hnm hW ls hl
  have Cx : sC G p m c cX10_number 7 s args RX10 := Cx
  obtain ⟨hx, hb, hml, hown, hts⟩ := id Cx.1
  have hL : sL G [] := sL_nil
  have hl : lv_has ls 7 [(0, .ref (G.2.2.1 + o)), (1, .ref (G.2.2.1 + v)), (2, .int (iv 1))] := hl
  have hW0 := hW
  have hN3 := ht.2.2.2.2.2
  have join_17 : ∀ (S17 : sS)  (H : Heap) (locs : List Loc) (ls : Array Slot), (cX G S17 0 0 0) → (Fr S S17 (pB o)) → (Fr S S17 (pB o)) → (Hd (TXc S17 o N (L ++ spT L))) → sW G 294 S17 H → sL G locs → lv_has ls 7 [(0, .ref (G.2.2.1 + o)), (1, .ref (G.2.2.1 + v)), (2, .int (iv 1))] → W p l e (rmk 2 0 0) s m args below meth c H locs 0 0 (MQ below (sQv G 294 (fun u => cX G u 0 0 0 ∧ Fr S u (pB o) ∧ (Hd (TXc u o N (tkn L (nmT (bv S v))))))) args s 0 0 (sF G)) (F0 m 17 ls []) := by
    intro S17  H locs ls hI17 hFm17 hL17_ hj17 hW hL hl
    have join_30 : ∀ (S30 : sS)  (H : Heap) (locs : List Loc) (ls : Array Slot), (cX G S30 0 0 0) → (Fr S S30 (pB o)) → (Fr S S30 (pB o)) → (Fr S17 S30 (pB o)) → (Hd (TXc S30 o N (L ++ spT L ++ (if S.1 v 2 < 0 then [45] else [])))) → sW G 294 S30 H → sL G locs → lv_has ls 7 [(0, .ref (G.2.2.1 + o)), (1, .ref (G.2.2.1 + v)), (2, .int (iv 1))] → W p l e (rmk 2 0 0) s m args below meth c H locs 0 0 (MQ below (sQv G 294 (fun u => cX G u 0 0 0 ∧ Fr S u (pB o) ∧ (Hd (TXc u o N (tkn L (nmT (bv S v))))))) args s 0 0 (sF G)) (F0 m 30 ls []) := by
      intro S30  H locs ls hI30 hFm30 hFL1730 hL30_ hj30 hW hL hl
      have join_43 : ∀ (S43 : sS)  (H : Heap) (locs : List Loc) (ls : Array Slot), (cX G S43 0 0 0) → (Fr S S43 (pB o)) → (Fr S S43 (pB o)) → (Fr S17 S43 (pB o)) → (Fr S30 S43 (pB o)) → (Hd (TXc S43 o N (L ++ spT L ++ sgT (S.1 v 2)))) → sW G 294 S43 H → sL G locs → lv_has ls 7 [(0, .ref (G.2.2.1 + o)), (1, .ref (G.2.2.1 + v)), (2, .int (iv 1))] → W p l e (rmk 2 0 0) s m args below meth c H locs 0 0 (MQ below (sQv G 294 (fun u => cX G u 0 0 0 ∧ Fr S u (pB o) ∧ (Hd (TXc u o N (tkn L (nmT (bv S v))))))) args s 0 0 (sF G)) (F0 m 43 ls []) := by
        intro S43  H locs ls hI43 hFm43 hFL1743 hFL3043 hL43_ hj43 hW hL hl
        refine lv_iconst (v := iv 0) hx hb dX10_number_43 (by decide) ?_
        refine lv_istore_n (lv' := [(3, .int (iv 0)), (0, .ref (G.2.2.1 + o)), (1, .ref (G.2.2.1 + v)), (2, .int (iv 1))]) hx hb dX10_number_44 rfl hl (by decide) rfl (fun ls hl => ?_)
        refine lv_aload_n hx hb dX10_number_45 rfl (lv_at hl 2 rfl) ?_
        have q_1 : 0 ≤ S.1 v 1 ∧ S.1 v 1 ≤ 32 := hI.fi v 1 0 (big_lt hv) hv
        refine g_X10_48 Cx hW (k := v) (big_l hv) hv (v := S.1 v 1) (((hL43_ v (pB_no (tau_ne hv ht.2.1 (fun h => by cases h)) (tau_ne hv ht.2.2.1 (fun h => by cases h)))).1 1).trans (((hL30_ v (pB_no (tau_ne hv ht.2.1 (fun h => by cases h)) (tau_ne hv ht.2.2.1 (fun h => by cases h)))).1 1).trans ((hL17_ v (pB_no (tau_ne hv ht.2.1 (fun h => by cases h)) (tau_ne hv ht.2.2.1 (fun h => by cases h)))).1 1))) dX10_number_46 ?_
        refine lv_iconst (v := iv 1) hx hb dX10_number_49 (by decide) ?_
        refine r_isub hx hb dX10_number_50 ?_
        refine lv_istore (lv' := [(4, .int (iv ((S.1 v 1) - 1))), (3, .int (iv 0)), (0, .ref (G.2.2.1 + o)), (1, .ref (G.2.2.1 + v)), (2, .int (iv 1))]) hx hb dX10_number_51 hl (by decide) rfl (fun ls hl => ?_)
        have loop_53 : ∀ (fuel : Nat) (S53 : sS) (i : Int) (sd : Int) (H : Heap) (locs : List Loc) (ls : Array Slot), (i + 1).toNat < fuel → (cX G S53 0 0 0) → (Fr S S53 (pB o)) → (Fr S S53 (pB o)) → (Fr S17 S53 (pB o)) → (Fr S30 S53 (pB o)) → (Fr S43 S53 (pB o)) → (-1 ≤ i ∧ i < S.1 v 1) → (0 ≤ sd ∧ sd ≤ 1) → (sd = 1 ↔ (V (S.2.1 (v + 1)) (i + 1) (S.1 v 1 - 1 - i).toNat) ≠ 0) → (Hd (TXc S53 o N (L ++ spT L ++ sgT (S.1 v 2) ++ dgz ((V (S.2.1 (v + 1)) (i + 1) (S.1 v 1 - 1 - i).toNat)).toNat))) → sW G 294 S53 H → sL G locs → lv_has ls 7 [(4, .int (iv i)), (3, .int (iv sd)), (0, .ref (G.2.2.1 + o)), (1, .ref (G.2.2.1 + v)), (2, .int (iv 1))] → W p l e (rmk 2 0 0) s m args below meth c H locs 0 0 (MQ below (sQv G 294 (fun u => cX G u 0 0 0 ∧ Fr S u (pB o) ∧ (Hd (TXc u o N (tkn L (nmT (bv S v))))))) args s 0 0 (sF G)) (F0 m 53 ls []) := by
          intro fuel
          induction fuel with
          | zero => intro S53 i sd H locs ls hmeas hI53 hFm53 hFL1753 hFL3053 hFL4353 hL53_ hi hsd hsp hc hW hL hl; exact absurd hmeas (Nat.not_lt_zero _)
          | succ fuel ih_53 =>
            intro S53 i sd H locs ls hmeas hI53 hFm53 hFL1753 hFL3053 hFL4353 hL53_ hi hsd hsp hc hW hL hl
            refine lv_iload hx hb dX10_number_53 (lv_at hl 0 rfl) ?_
            refine r_if_lt (tgt := 126) hx hb ⟨(by omega), (by omega)⟩ dX10_number_55 (by decide) (fun c_2 => ?_) (fun c_2 => ?_)
            · exact sVret Cx hr hlk hW hL ⟨hI53, hFm53, (TXc.eq hc (by rw [tkn_e, nm_bv hI hv hbs, show i = -1 by omega, show ((-1 : Int) + 1) = 0 from rfl, show S.1 v 1 - 1 - -1 = S.1 v 1 by omega, List.append_assoc (L ++ spT L)]; rfl))⟩ dX10_number_126
            · have hH0 : 0 ≤ (V (S.2.1 (v + 1)) (i + 1) (S.1 v 1 - 1 - i).toNat) := V_0 (fun j _ _ => (limbR hI hv j).1)
              refine lv_ldc hx hb hown (hts _ w_1439) dX10_number_58 ?_
              refine lv_istore (lv' := [(5, .int (iv 100000000)), (4, .int (iv i)), (3, .int (iv sd)), (0, .ref (G.2.2.1 + o)), (1, .ref (G.2.2.1 + v)), (2, .int (iv 1))]) hx hb dX10_number_60 hl (by decide) rfl (fun ls hl => ?_)
              have loop_62 : ∀ (fuel : Nat) (S62 : sS) (un : Int) (sd2 : Int) (H : Heap) (locs : List Loc) (ls : Array Slot), un.toNat < fuel → (cX G S62 0 0 0) → (Fr S S62 (pB o)) → (Fr S S62 (pB o)) → (Fr S17 S62 (pB o)) → (Fr S30 S62 (pB o)) → (Fr S43 S62 (pB o)) → (Fr S53 S62 (pB o)) → (Hd (unS un) ∨ un = 0) → (0 ≤ un ∧ un ≤ 100000000) → (0 ≤ sd2 ∧ sd2 ≤ 1) → (sd2 = 1 ↔ pfx (V (S.2.1 (v + 1)) i (S.1 v 1 - i).toNat) un ≠ 0) → (Hd (TXc S62 o N (L ++ spT L ++ sgT (S.1 v 2) ++ dgz (pfx (V (S.2.1 (v + 1)) i (S.1 v 1 - i).toNat) un).toNat))) → sW G 294 S62 H → sL G locs → lv_has ls 7 [(5, .int (iv un)), (4, .int (iv i)), (3, .int (iv sd2)), (0, .ref (G.2.2.1 + o)), (1, .ref (G.2.2.1 + v)), (2, .int (iv 1))] → W p l e (rmk 2 0 0) s m args below meth c H locs 0 0 (MQ below (sQv G 294 (fun u => cX G u 0 0 0 ∧ Fr S u (pB o) ∧ (Hd (TXc u o N (tkn L (nmT (bv S v))))))) args s 0 0 (sF G)) (F0 m 62 ls []) := by
                intro fuel
                induction fuel with
                | zero => intro S62 un sd2 H locs ls hmeas hI62 hFm62 hFL1762 hFL3062 hFL4362 hFL5362 hL62_ hun hub hsd2 hsp2 hc2 hW hL hl; exact absurd hmeas (Nat.not_lt_zero _)
                | succ fuel ih_62 =>
                  intro S62 un sd2 H locs ls hmeas hI62 hFm62 hFL1762 hFL3062 hFL4362 hFL5362 hL62_ hun hub hsd2 hsp2 hc2 hW hL hl
                  refine lv_iload hx hb dX10_number_62 (lv_at hl 0 rfl) ?_
                  refine r_if_le (tgt := 120) hx hb ⟨(by omega), (by omega)⟩ dX10_number_64 (by decide) (fun c_3 => ?_) (fun c_3 => ?_)
                  · refine lv_iinc (v := iv (i + (-1))) (lv' := [(4, .int (iv (i + (-1)))), (5, .int (iv un)), (3, .int (iv sd2)), (0, .ref (G.2.2.1 + o)), (1, .ref (G.2.2.1 + v)), (2, .int (iv 1))]) hx hb dX10_number_120 hl (k := 1) rfl ((Int32.ofInt_add _ _).symm) (by decide) rfl (fun ls hl => ?_)
                    refine lv_goto (tgt := 53) hx hb dX10_number_123 (by decide) ?_
                    exact ih_53 S62 (i + (-1)) sd2 _ _ _ (by omega) hI62 hFm62 hFL1762 hFL3062 hFL4362 hFL5362 (by omega) (by omega) (by rw [show i + -1 + 1 = i by omega, show S.1 v 1 - 1 - (i + -1) = S.1 v 1 - i by omega]; have e := hsp2; rw [show un = 0 by omega, show pfx (V (S.2.1 (v + 1)) i (S.1 v 1 - i).toNat) 0 = (V (S.2.1 (v + 1)) i (S.1 v 1 - i).toNat) from rfl] at e; exact e) (TXc.eq hc2 (by rw [show i + -1 + 1 = i by omega, show S.1 v 1 - 1 - (i + -1) = S.1 v 1 - i by omega, show un = 0 by omega]; rfl)) hW hL (lv_sub hl [0, 2, 3, 4, 5] rfl)
                  · have hu1 : 1 ≤ un := by omega
                    refine lv_aload_n hx hb dX10_number_67 rfl (lv_at hl 4 rfl) ?_
                    refine g_X10_52 Cx hW (k := v) (big_l hv) hv (v := .ref (G.2.2.1 + (v + 1))) (hI62.rq.1 v hv) dX10_number_68 ?_
                    refine lv_iload hx hb dX10_number_71 (lv_at hl 1 rfl) ?_
                    refine rIald Cx hW (k := v + 1) (big_l1 hv) (big_row hv).1 (by decide) (by omega) (by omega) dX10_number_73 ?_
                    have q_4 := limbR hI hv i
                    refine r_i (b := S.2.1 (v + 1) i) (((hL62_ (v + 1) (pB_no (tau_ne (big_row hv).1 ht.2.1 (fun h => by cases h)) (tau_ne (big_row hv).1 ht.2.2.1 (fun h => by cases h)))).2.1 i).trans (((hL53_ (v + 1) (pB_no (tau_ne (big_row hv).1 ht.2.1 (fun h => by cases h)) (tau_ne (big_row hv).1 ht.2.2.1 (fun h => by cases h)))).2.1 i).trans (((hL43_ (v + 1) (pB_no (tau_ne (big_row hv).1 ht.2.1 (fun h => by cases h)) (tau_ne (big_row hv).1 ht.2.2.1 (fun h => by cases h)))).2.1 i).trans (((hL30_ (v + 1) (pB_no (tau_ne (big_row hv).1 ht.2.1 (fun h => by cases h)) (tau_ne (big_row hv).1 ht.2.2.1 (fun h => by cases h)))).2.1 i).trans ((hL17_ (v + 1) (pB_no (tau_ne (big_row hv).1 ht.2.1 (fun h => by cases h)) (tau_ne (big_row hv).1 ht.2.2.1 (fun h => by cases h)))).2.1 i))))) ?_
                    refine lv_iload hx hb dX10_number_74 (lv_at hl 0 rfl) ?_
                    refine r_idiv hx hb ⟨(by omega), (by omega)⟩ ⟨(by omega), (by omega)⟩ (by omega) dX10_number_76 ?_
                    obtain ⟨dq, edq⟩ : ∃ z : Int, z = (S.2.1 (v + 1) i).tdiv un := ⟨_, rfl⟩
                    have hdq := tdv (a := S.2.1 (v + 1) i) (b := un) (by omega) (by omega)
                    rw [← edq] at hdq
                    refine r_i (b := dq) edq.symm ?_
                    refine lv_bipush (v := iv 10) hx hb dX10_number_77 (by decide) ?_
                    refine r_irem hx hb ⟨(by omega), (by omega)⟩ ⟨(by omega), (by omega)⟩ (by omega) dX10_number_79 ?_
                    obtain ⟨dg, edg⟩ : ∃ z : Int, z = dq.tmod 10 := ⟨_, rfl⟩
                    have hdg := tmodL (a := dq) (b := 10) (by omega)
                    rw [← edg] at hdg
                    refine r_i (b := dg) edg.symm ?_
                    clear edg
                    refine lv_istore (lv' := [(6, .int (iv dg)), (5, .int (iv un)), (4, .int (iv i)), (3, .int (iv sd2)), (0, .ref (G.2.2.1 + o)), (1, .ref (G.2.2.1 + v)), (2, .int (iv 1))]) hx hb dX10_number_80 hl (by decide) rfl (fun ls hl => ?_)
                    refine lv_iload_n hx hb dX10_number_82 rfl (lv_at hl 3 rfl) ?_
                    refine r_if_ne (tgt := 91) hx hb ⟨(by omega), (by omega)⟩ dX10_number_83 (by decide) (fun c_5 => ?_) (fun c_5 => ?_)
                    · refine lv_iconst (v := iv 1) hx hb dX10_number_91 (by decide) ?_
                      refine lv_goto (tgt := 96) hx hb dX10_number_92 (by decide) ?_
                      refine lv_istore_n (lv' := [(3, .int (iv 1)), (6, .int (iv dg)), (5, .int (iv un)), (4, .int (iv i)), (0, .ref (G.2.2.1 + o)), (1, .ref (G.2.2.1 + v)), (2, .int (iv 1))]) hx hb dX10_number_96 rfl hl (by decide) rfl (fun ls hl => ?_)
                      refine lv_iload_n hx hb dX10_number_97 rfl (lv_at hl 0 rfl) ?_
                      refine r_if_eq (tgt := 110) hx hb ⟨(by omega), (by omega)⟩ dX10_number_98 (by decide) (fun c => absurd c (by omega)) (fun _ => ?_)
                      refine lv_aload_n hx hb dX10_number_101 rfl (lv_at hl 4 rfl) ?_
                      refine lv_bipush (v := iv 48) hx hb dX10_number_102 (by decide) ?_
                      refine lv_iload hx hb dX10_number_104 (lv_at hl 1 rfl) ?_
                      refine r_iadd hx hb dX10_number_106 ?_
                      refine sBv (sV (As := [.int (iv (48 + dg))]) (rest := []) (k := o) Cx (v_X10_put l G S62 (o := o) (k := 48 + dg) (N := N) (L := (L ++ spT L ++ sgT (S.1 v 2) ++ dgz (pfx (V (S.2.1 (v + 1)) i (S.1 v 1 - i).toNat) un).toNat)) hI62 ht (by omega) hc2) (c_X10_29 Cx rfl rfl (rmk_ok (by omega) (by decide))) hW (Nat.lt_trans ht.1 (by decide)) ht.2.1 rfl rfl hl.1 rfl (Nat.le_of_ble_eq_true rfl) dX10_number_107 ⟨Nat.le_of_ble_eq_true rfl, Nat.le_of_ble_eq_true rfl⟩) hL (fun u_6 H locs k_7 hW hL => ?_)
                      obtain ⟨iu_6, fu_6, xu_6⟩ := k_7
                      have F_8 := hFm62.trans fu_6
                      have F_9 := hFL1762.trans fu_6
                      have F_10 := hFL3062.trans fu_6
                      have F_11 := hFL4362.trans fu_6
                      have F_12 := hFL5362.trans fu_6
                      have F_13 := hL62_.trans fu_6
                      refine lv_iload hx hb dX10_number_110 (lv_at hl 2 rfl) ?_
                      refine lv_bipush (v := iv 10) hx hb dX10_number_112 (by decide) ?_
                      refine r_idiv hx hb ⟨(by omega), (by omega)⟩ ⟨(by omega), (by omega)⟩ (by omega) dX10_number_114 ?_
                      obtain ⟨un2, eun2⟩ : ∃ z : Int, z = un.tdiv 10 := ⟨_, rfl⟩
                      have hun2 := tdivL (a := un) (b := 10) (by omega)
                      rw [← eun2] at hun2
                      refine r_i (b := un2) eun2.symm ?_
                      clear eun2
                      have hds : (0 ≤ dg ∧ dg ≤ 9) ∧ pfx (V (S.2.1 (v + 1)) i (S.1 v 1 - i).toNat) un2 = 10 * pfx (V (S.2.1 (v + 1)) i (S.1 v 1 - i).toNat) un + dg ∧ 0 ≤ pfx (V (S.2.1 (v + 1)) i (S.1 v 1 - i).toNat) un ∧ (unS un2 ∨ un2 = 0) := dg_st (X := (V (S.2.1 (v + 1)) i (S.1 v 1 - i).toNat)) (H := (V (S.2.1 (v + 1)) (i + 1) (S.1 v 1 - 1 - i).toNat)) (l := S.2.1 (v + 1) i) (un := un) (dq := dq) (dg := dg) (un2 := un2) (V_up1 (by omega)) hH0 (limbR hI hv i) (by rcases hun with q | q; exact q; exact absurd q (by omega)) hdq.1 (by omega) (by omega)
                      refine lv_istore (lv' := [(5, .int (iv un2)), (3, .int (iv 1)), (6, .int (iv dg)), (4, .int (iv i)), (0, .ref (G.2.2.1 + o)), (1, .ref (G.2.2.1 + v)), (2, .int (iv 1))]) hx hb dX10_number_115 hl (by decide) rfl (fun ls hl => ?_)
                      refine lv_goto (tgt := 62) hx hb dX10_number_117 (by decide) ?_
                      exact ih_62 u_6 un2 1 _ _ _ (by omega) iu_6 F_8 F_9 F_10 F_11 F_12 F_13 hds.2.2.2 (by omega) (by omega) (by have h1 := hds.1; have h2 := hds.2.1; have h3 := hds.2.2.1; omega) (TXc.eq xu_6 (by rw [List.append_assoc, hds.2.1, dgz_i hds.2.2.1 hds.1 (by omega)])) hW hL (lv_sub hl [0, 3, 1, 4, 5, 6] rfl)
                    · refine lv_iload hx hb dX10_number_86 (lv_at hl 0 rfl) ?_
                      refine r_if_eq (tgt := 95) hx hb ⟨(by omega), (by omega)⟩ dX10_number_88 (by decide) (fun c_14 => ?_) (fun c_14 => ?_)
                      · refine lv_iconst (v := iv 0) hx hb dX10_number_95 (by decide) ?_
                        refine lv_istore_n (lv' := [(3, .int (iv 0)), (6, .int (iv dg)), (5, .int (iv un)), (4, .int (iv i)), (0, .ref (G.2.2.1 + o)), (1, .ref (G.2.2.1 + v)), (2, .int (iv 1))]) hx hb dX10_number_96 rfl hl (by decide) rfl (fun ls hl => ?_)
                        refine lv_iload_n hx hb dX10_number_97 rfl (lv_at hl 0 rfl) ?_
                        refine r_if_eq (tgt := 110) hx hb ⟨(by omega), (by omega)⟩ dX10_number_98 (by decide) (fun _ => ?_) (fun c => absurd (by omega) c)
                        refine lv_iload hx hb dX10_number_110 (lv_at hl 2 rfl) ?_
                        refine lv_bipush (v := iv 10) hx hb dX10_number_112 (by decide) ?_
                        refine r_idiv hx hb ⟨(by omega), (by omega)⟩ ⟨(by omega), (by omega)⟩ (by omega) dX10_number_114 ?_
                        obtain ⟨un2, eun2⟩ : ∃ z : Int, z = un.tdiv 10 := ⟨_, rfl⟩
                        have hun2 := tdivL (a := un) (b := 10) (by omega)
                        rw [← eun2] at hun2
                        refine r_i (b := un2) eun2.symm ?_
                        clear eun2
                        have hds : (0 ≤ dg ∧ dg ≤ 9) ∧ pfx (V (S.2.1 (v + 1)) i (S.1 v 1 - i).toNat) un2 = 10 * pfx (V (S.2.1 (v + 1)) i (S.1 v 1 - i).toNat) un + dg ∧ 0 ≤ pfx (V (S.2.1 (v + 1)) i (S.1 v 1 - i).toNat) un ∧ (unS un2 ∨ un2 = 0) := dg_st (X := (V (S.2.1 (v + 1)) i (S.1 v 1 - i).toNat)) (H := (V (S.2.1 (v + 1)) (i + 1) (S.1 v 1 - 1 - i).toNat)) (l := S.2.1 (v + 1) i) (un := un) (dq := dq) (dg := dg) (un2 := un2) (V_up1 (by omega)) hH0 (limbR hI hv i) (by rcases hun with q | q; exact q; exact absurd q (by omega)) hdq.1 (by omega) (by omega)
                        refine lv_istore (lv' := [(5, .int (iv un2)), (3, .int (iv 0)), (6, .int (iv dg)), (4, .int (iv i)), (0, .ref (G.2.2.1 + o)), (1, .ref (G.2.2.1 + v)), (2, .int (iv 1))]) hx hb dX10_number_115 hl (by decide) rfl (fun ls hl => ?_)
                        refine lv_goto (tgt := 62) hx hb dX10_number_117 (by decide) ?_
                        exact ih_62 S62 un2 0 _ _ _ (by omega) hI62 hFm62 hFL1762 hFL3062 hFL4362 hFL5362 hL62_ hds.2.2.2 (by omega) (by omega) (by have h1 := hds.1; have h2 := hds.2.1; have h3 := hds.2.2.1; omega) (TXc.eq hc2 (by rw [hds.2.1, show 10 * pfx (V (S.2.1 (v + 1)) i (S.1 v 1 - i).toNat) un + dg = pfx (V (S.2.1 (v + 1)) i (S.1 v 1 - i).toNat) un by omega])) hW hL (lv_sub hl [0, 3, 1, 4, 5, 6] rfl)
                      · refine lv_iconst (v := iv 1) hx hb dX10_number_91 (by decide) ?_
                        refine lv_goto (tgt := 96) hx hb dX10_number_92 (by decide) ?_
                        refine lv_istore_n (lv' := [(3, .int (iv 1)), (6, .int (iv dg)), (5, .int (iv un)), (4, .int (iv i)), (0, .ref (G.2.2.1 + o)), (1, .ref (G.2.2.1 + v)), (2, .int (iv 1))]) hx hb dX10_number_96 rfl hl (by decide) rfl (fun ls hl => ?_)
                        refine lv_iload_n hx hb dX10_number_97 rfl (lv_at hl 0 rfl) ?_
                        refine r_if_eq (tgt := 110) hx hb ⟨(by omega), (by omega)⟩ dX10_number_98 (by decide) (fun c => absurd c (by omega)) (fun _ => ?_)
                        refine lv_aload_n hx hb dX10_number_101 rfl (lv_at hl 4 rfl) ?_
                        refine lv_bipush (v := iv 48) hx hb dX10_number_102 (by decide) ?_
                        refine lv_iload hx hb dX10_number_104 (lv_at hl 1 rfl) ?_
                        refine r_iadd hx hb dX10_number_106 ?_
                        refine sBv (sV (As := [.int (iv (48 + dg))]) (rest := []) (k := o) Cx (v_X10_put l G S62 (o := o) (k := 48 + dg) (N := N) (L := (L ++ spT L ++ sgT (S.1 v 2) ++ dgz (pfx (V (S.2.1 (v + 1)) i (S.1 v 1 - i).toNat) un).toNat)) hI62 ht (by omega) hc2) (c_X10_29 Cx rfl rfl (rmk_ok (by omega) (by decide))) hW (Nat.lt_trans ht.1 (by decide)) ht.2.1 rfl rfl hl.1 rfl (Nat.le_of_ble_eq_true rfl) dX10_number_107 ⟨Nat.le_of_ble_eq_true rfl, Nat.le_of_ble_eq_true rfl⟩) hL (fun u_15 H locs k_16 hW hL => ?_)
                        obtain ⟨iu_15, fu_15, xu_15⟩ := k_16
                        have F_17 := hFm62.trans fu_15
                        have F_18 := hFL1762.trans fu_15
                        have F_19 := hFL3062.trans fu_15
                        have F_20 := hFL4362.trans fu_15
                        have F_21 := hFL5362.trans fu_15
                        have F_22 := hL62_.trans fu_15
                        refine lv_iload hx hb dX10_number_110 (lv_at hl 2 rfl) ?_
                        refine lv_bipush (v := iv 10) hx hb dX10_number_112 (by decide) ?_
                        refine r_idiv hx hb ⟨(by omega), (by omega)⟩ ⟨(by omega), (by omega)⟩ (by omega) dX10_number_114 ?_
                        obtain ⟨un2, eun2⟩ : ∃ z : Int, z = un.tdiv 10 := ⟨_, rfl⟩
                        have hun2 := tdivL (a := un) (b := 10) (by omega)
                        rw [← eun2] at hun2
                        refine r_i (b := un2) eun2.symm ?_
                        clear eun2
                        have hds : (0 ≤ dg ∧ dg ≤ 9) ∧ pfx (V (S.2.1 (v + 1)) i (S.1 v 1 - i).toNat) un2 = 10 * pfx (V (S.2.1 (v + 1)) i (S.1 v 1 - i).toNat) un + dg ∧ 0 ≤ pfx (V (S.2.1 (v + 1)) i (S.1 v 1 - i).toNat) un ∧ (unS un2 ∨ un2 = 0) := dg_st (X := (V (S.2.1 (v + 1)) i (S.1 v 1 - i).toNat)) (H := (V (S.2.1 (v + 1)) (i + 1) (S.1 v 1 - 1 - i).toNat)) (l := S.2.1 (v + 1) i) (un := un) (dq := dq) (dg := dg) (un2 := un2) (V_up1 (by omega)) hH0 (limbR hI hv i) (by rcases hun with q | q; exact q; exact absurd q (by omega)) hdq.1 (by omega) (by omega)
                        refine lv_istore (lv' := [(5, .int (iv un2)), (3, .int (iv 1)), (6, .int (iv dg)), (4, .int (iv i)), (0, .ref (G.2.2.1 + o)), (1, .ref (G.2.2.1 + v)), (2, .int (iv 1))]) hx hb dX10_number_115 hl (by decide) rfl (fun ls hl => ?_)
                        refine lv_goto (tgt := 62) hx hb dX10_number_117 (by decide) ?_
                        exact ih_62 u_15 un2 1 _ _ _ (by omega) iu_15 F_17 F_18 F_19 F_20 F_21 F_22 hds.2.2.2 (by omega) (by omega) (by have h1 := hds.1; have h2 := hds.2.1; have h3 := hds.2.2.1; omega) (TXc.eq xu_15 (by rw [List.append_assoc, hds.2.1, dgz_i hds.2.2.1 hds.1 (by omega)])) hW hL (lv_sub hl [0, 3, 1, 4, 5, 6] rfl)
              exact loop_62 (_ + 1) S53 100000000 sd _ _ _ (Nat.lt_succ_self _) hI53 hFm53 hFL1753 hFL3053 hFL4353 hL53_ Fr.rf (.inl (.inl rfl)) (by omega) (by omega) (by rw [show (V (S.2.1 (v + 1)) i (S.1 v 1 - i).toNat) = (V (S.2.1 (v + 1)) (i + 1) (S.1 v 1 - 1 - i).toNat) * 1000000000 + S.2.1 (v + 1) i from V_up1 (by omega), pfx_i (limbR hI hv i)]; exact hsp) (TXc.eq hc (by rw [show (V (S.2.1 (v + 1)) i (S.1 v 1 - i).toNat) = (V (S.2.1 (v + 1)) (i + 1) (S.1 v 1 - 1 - i).toNat) * 1000000000 + S.2.1 (v + 1) i from V_up1 (by omega), pfx_i (limbR hI hv i)])) hW hL (lv_sub hl [0, 1, 2, 3, 4, 5] rfl)
        exact loop_53 (_ + 1) S43 ((S.1 v 1) - 1) 0 _ _ _ (Nat.lt_succ_self _) hI43 hFm43 hFL1743 hFL3043 hL43_ Fr.rf (by omega) (by omega) (by rw [show S.1 v 1 - 1 - (S.1 v 1 - 1) = 0 by omega]; exact ⟨fun q => absurd q (by decide), fun q => absurd rfl q⟩) (TXc.eq hj43 (by rw [show S.1 v 1 - 1 - (S.1 v 1 - 1) = 0 by omega]; exact (List.append_nil _).symm)) hW hL (lv_sub hl [0, 1, 2, 3, 4] rfl)
      refine lv_aload_n hx hb dX10_number_30 rfl (lv_at hl 1 rfl) ?_
      have q_23 : (-1) ≤ S.1 v 2 ∧ S.1 v 2 ≤ 1 := hI.fi v 2 0 (big_lt hv) hv
      refine g_X10_43 Cx hW (k := v) (big_l hv) hv (v := S.1 v 2) (((hL30_ v (pB_no (tau_ne hv ht.2.1 (fun h => by cases h)) (tau_ne hv ht.2.2.1 (fun h => by cases h)))).1 2).trans ((hL17_ v (pB_no (tau_ne hv ht.2.1 (fun h => by cases h)) (tau_ne hv ht.2.2.1 (fun h => by cases h)))).1 2)) dX10_number_31 ?_
      refine r_if_ne (tgt := 43) hx hb ⟨(by omega), (by omega)⟩ dX10_number_34 (by decide) (fun c_24 => ?_) (fun c_24 => ?_)
      · exact join_43 S30  _ _ _ hI30 hFm30 hFL1730 hL30_ (Fr.rf : Fr S30 S30 (pB o)) (TXc.eq hj30 (show L ++ spT L ++ (if S.1 v 2 < 0 then [45] else []) = L ++ spT L ++ sgT (S.1 v 2) from (by unfold sgT; rcases (by omega : S.1 v 2 < 0 ∨ 0 < S.1 v 2) with q | q; (rw [if_pos q, if_pos q]); (rw [if_neg (by omega), if_neg (by omega), if_neg (by omega)])))) hW hL (lv_sub hl [0, 1, 2] rfl)
      · refine lv_aload_n hx hb dX10_number_37 rfl (lv_at hl 0 rfl) ?_
        refine lv_bipush (v := iv 48) hx hb dX10_number_38 (by decide) ?_
        refine sBv (sV (As := [.int (iv 48)]) (rest := []) (k := o) Cx (v_X10_put l G S30 (o := o) (k := 48) (N := N) (L := (L ++ spT L ++ (if S.1 v 2 < 0 then [45] else []))) hI30 ht (by omega) hj30) (c_X10_29 Cx rfl rfl (rmk_ok (by omega) (by decide))) hW (Nat.lt_trans ht.1 (by decide)) ht.2.1 rfl rfl hl.1 rfl (Nat.le_of_ble_eq_true rfl) dX10_number_40 ⟨Nat.le_of_ble_eq_true rfl, Nat.le_of_ble_eq_true rfl⟩) hL (fun u_25 H locs k_26 hW hL => ?_)
        obtain ⟨iu_25, fu_25, xu_25⟩ := k_26
        have F_27 := hFm30.trans fu_25
        have F_28 := hFL1730.trans fu_25
        have F_29 := hL30_.trans fu_25
        have F_30 := (Fr.rf : Fr S30 S30 (pB o)).trans fu_25
        exact join_43 u_25  _ _ _ iu_25 F_27 F_28 F_29 F_30 (TXc.eq xu_25 (show ((L ++ spT L ++ (if S.1 v 2 < 0 then [45] else []))) ++ [48] = L ++ spT L ++ sgT (S.1 v 2) from (by unfold sgT; rw [if_neg (by omega), if_neg (by omega), if_pos (by omega), List.append_nil]))) hW hL (lv_sub hl [0, 1, 2] rfl)
    refine lv_aload_n hx hb dX10_number_17 rfl (lv_at hl 1 rfl) ?_
    have q_31 : (-1) ≤ S.1 v 2 ∧ S.1 v 2 ≤ 1 := hI.fi v 2 0 (big_lt hv) hv
    refine g_X10_43 Cx hW (k := v) (big_l hv) hv (v := S.1 v 2) ((hL17_ v (pB_no (tau_ne hv ht.2.1 (fun h => by cases h)) (tau_ne hv ht.2.2.1 (fun h => by cases h)))).1 2) dX10_number_18 ?_
    refine r_if_ge (tgt := 30) hx hb ⟨(by omega), (by omega)⟩ dX10_number_21 (by decide) (fun c_32 => ?_) (fun c_32 => ?_)
    · exact join_30 S17  _ _ _ hI17 hFm17 hL17_ (Fr.rf : Fr S17 S17 (pB o)) (TXc.eq hj17 (show L ++ spT L = L ++ spT L ++ (if S.1 v 2 < 0 then [45] else []) from (by rw [if_neg (by omega), List.append_nil]))) hW hL (lv_sub hl [0, 1, 2] rfl)
    · refine lv_aload_n hx hb dX10_number_24 rfl (lv_at hl 0 rfl) ?_
      refine lv_bipush (v := iv 45) hx hb dX10_number_25 (by decide) ?_
      refine sBv (sV (As := [.int (iv 45)]) (rest := []) (k := o) Cx (v_X10_put l G S17 (o := o) (k := 45) (N := N) (L := (L ++ spT L)) hI17 ht (by omega) hj17) (c_X10_29 Cx rfl rfl (rmk_ok (by omega) (by decide))) hW (Nat.lt_trans ht.1 (by decide)) ht.2.1 rfl rfl hl.1 rfl (Nat.le_of_ble_eq_true rfl) dX10_number_27 ⟨Nat.le_of_ble_eq_true rfl, Nat.le_of_ble_eq_true rfl⟩) hL (fun u_33 H locs k_34 hW hL => ?_)
      obtain ⟨iu_33, fu_33, xu_33⟩ := k_34
      have F_35 := hFm17.trans fu_33
      have F_36 := hL17_.trans fu_33
      have F_37 := (Fr.rf : Fr S17 S17 (pB o)).trans fu_33
      exact join_30 u_33  _ _ _ iu_33 F_35 F_36 F_37 (TXc.eq xu_33 (show ((L ++ spT L)) ++ [45] = L ++ spT L ++ (if S.1 v 2 < 0 then [45] else []) from (by rw [if_pos (by omega)]))) hW hL (lv_sub hl [0, 1, 2] rfl)
  refine lv_iload_n hx hb dX10_number_0 rfl (lv_at hl 2 rfl) ?_
  refine r_if_eq (tgt := 17) hx hb ⟨(by omega), (by omega)⟩ dX10_number_1 (by decide) (fun c => absurd c (by omega)) (fun _ => ?_)
  refine lv_aload_n hx hb dX10_number_4 rfl (lv_at hl 0 rfl) ?_
  have q_38 : 0 ≤ S.1 o 1 ∧ S.1 o 1 ≤ (N : Int) := txt_len ht hI
  refine g_X10_21 Cx hW (k := o) (Nat.lt_trans ht.1 (by decide)) ht.2.1 (v := S.1 o 1) rfl dX10_number_5 ?_
  refine r_if_le (tgt := 17) hx hb ⟨(by omega), (by omega)⟩ dX10_number_8 (by decide) (fun c_39 => ?_) (fun c_39 => ?_)
  · exact join_17 S  _ _ _ hI (Fr.rf : Fr S S (pB o)) (Fr.rf : Fr S S (pB o)) (TXc.eq hT (show L = L ++ spT L from (by unfold spT; rw [if_pos (by have := (hT.some hN1); omega), List.append_nil]))) hW hL (lv_sub hl [0, 1, 2] rfl)
  · refine lv_aload_n hx hb dX10_number_11 rfl (lv_at hl 0 rfl) ?_
    refine lv_bipush (v := iv 32) hx hb dX10_number_12 (by decide) ?_
    refine sBv (sV (As := [.int (iv 32)]) (rest := []) (k := o) Cx (v_X10_put l G S (o := o) (k := 32) (N := N) (L := L) hI ht (by omega) hT) (c_X10_29 Cx rfl rfl (rmk_ok (by omega) (by decide))) hW (Nat.lt_trans ht.1 (by decide)) ht.2.1 rfl rfl hl.1 rfl (Nat.le_of_ble_eq_true rfl) dX10_number_14 ⟨Nat.le_of_ble_eq_true rfl, Nat.le_of_ble_eq_true rfl⟩) hL (fun u_40 H locs k_41 hW hL => ?_)
    obtain ⟨iu_40, fu_40, xu_40⟩ := k_41
    have F_42 := (Fr.rf : Fr S S (pB o)).trans fu_40
    have F_43 := (Fr.rf : Fr S S (pB o)).trans fu_40
    exact join_17 u_40  _ _ _ iu_40 F_42 F_43 (TXc.eq xu_40 (show L ++ [32] = L ++ spT L from (by unfold spT; rw [if_neg (by have := (hT.some hN1); omega)]))) hW hL (lv_sub hl [0, 1, 2] rfl)

set_option maxRecDepth 100000 in
set_option maxHeartbeats 4000000 in
theorem v_X5_isTreeOver (l : Launch) (G : sG) (S : sS) {L : List Int} (hI : cX G S 0 0 0) (hT : Hd (TXc S 160 30000 L)) : Met l yX5_isTreeOver (.code yX5_isTreeOver cX5_isTreeOver 1 (some .boolean) :: tb) (rmk 2 0 0) (sPc G 294 S [.ref (G.2.2.1 + 157)]) (sQi G 294 (fun r u => u = S ∧ (0 ≤ r ∧ r ≤ 1 ∧ (r = 1 ↔ 30000 < L.length)))) 0 0 (sF G) := by
  refine sEnter (by decide) (Nat.le_of_ble_eq_true rfl) ?_
  intro p e s m args below meth c Cx hr hlk hnm hW ls hl
  have Cx : sC G p m c cX5_isTreeOver 1 s args RX5 := Cx
  obtain ⟨hx, hb, hml, hown, hts⟩ := id Cx.1
  have hL : sL G [] := sL_nil
  have hl : lv_has ls 1 [(0, .ref (G.2.2.1 + 157))] := hl
  have hW0 := hW
  refine lv_aload_n hx hb dX5_isTreeOver_0 rfl (lv_at hl 0 rfl) ?_
  refine g_X5_20 Cx hW (k := 157) (by decide) rfl (v := .ref (G.2.2.1 + 160)) (rf_157_1 hI) dX5_isTreeOver_1 ?_
  have q_1 : 0 ≤ S.1 160 2 ∧ S.1 160 2 ≤ 1 := hI.fi 160 2 10 (by decide) rfl
  refine sBi (sV (As := []) (rest := []) (k := 160) Cx (s_X10_isOver l G S (o := 160) (N := 30000) hI ⟨by decide, rfl, rfl, rfl, rfl, by decide⟩) (c_X5_55 Cx rfl rfl (rmk_ok (by omega) (by decide))) hW (by decide) rfl rfl rfl hl.1 rfl (Nat.le_of_ble_eq_true rfl) dX5_isTreeOver_4 ⟨Nat.le_of_ble_eq_true rfl, Nat.le_of_ble_eq_true rfl⟩) hL (fun r_4 u_2 H locs k_3 hW hL => ?_)
  obtain ⟨eu_2, xu_2⟩ := k_3
  rw [eu_2] at hW
  exact sZret Cx hr hlk hW hL (by omega) ⟨rfl, (by have y := hT.over; refine ⟨by omega, by omega, ?_⟩; omega)⟩ dX5_isTreeOver_7

set_option maxRecDepth 100000 in
set_option maxHeartbeats 4000000 in
theorem v_X5_writePair (l : Launch) (G : sG) (S : sS) {v : Nat} {k : Int} {L : List Int} (hI : cX G S 0 0 0) (hv : tau v = .inl 0) (hk1 : 1 ≤ k ∧ k ≤ 999999999) (hbs : Hd (bs S v)) (hT : Hd (TXc S 160 30000 L)) : Met l yX5_writePair (.code yX5_writePair cX5_writePair 3 none :: tb) (rmk 6 0 0) (sPc G 294 S [.ref (G.2.2.1 + 157), .int (iv k), .ref (G.2.2.1 + v)]) (sQv G 294 (fun u => cX G u 0 0 0 ∧ Fr S u (pB 160) ∧ (Hd (TXc u 160 30000 (prT L k (bv S v)))))) 0 0 (sF G) := by
  refine sEnter (by decide) (Nat.le_of_ble_eq_true rfl) ?_
  intro p e s m args below meth c Cx hr hlk hnm hW ls hl
  have Cx : sC G p m c cX5_writePair 3 s args RX5 := Cx
  obtain ⟨hx, hb, hml, hown, hts⟩ := id Cx.1
  have hL : sL G [] := sL_nil
  have hl : lv_has ls 3 [(0, .ref (G.2.2.1 + 157)), (1, .int (iv k)), (2, .ref (G.2.2.1 + v))] := hl
  have hW0 := hW
  refine lv_aload_n hx hb dX5_writePair_0 rfl (lv_at hl 2 rfl) ?_
  have q_1 : (-1) ≤ S.1 v 2 ∧ S.1 v 2 ≤ 1 := hI.fi v 2 0 (big_lt hv) hv
  refine g_X5_126 Cx hW (k := v) (big_l hv) hv (v := S.1 v 2) rfl dX5_writePair_1 ?_
  refine r_if_eq (tgt := 33) hx hb ⟨(by omega), (by omega)⟩ dX5_writePair_4 (by decide) (fun c_2 => ?_) (fun c_2 => ?_)
  · exact sVret Cx hr hlk hW hL ⟨hI, (Fr.rf : Fr S S (pB 160)), (TXc.eq hT (show L = prT L k (bv S v) from (by unfold prT; rw [if_pos ((bv_0 hI hv hbs).mp (by omega))])))⟩ dX5_writePair_33
  · refine lv_aload_n hx hb dX5_writePair_7 rfl (lv_at hl 0 rfl) ?_
    refine g_X5_20 Cx hW (k := 157) (by decide) rfl (v := .ref (G.2.2.1 + 160)) (rf_157_1 hI) dX5_writePair_8 ?_
    refine lv_iload_n hx hb dX5_writePair_11 rfl (lv_at hl 1 rfl) ?_
    refine sBv (sV (As := [.int (iv k)]) (rest := []) (k := 160) Cx (v_X10_count l G S (o := 160) (k := k) (N := 30000) (L := L) hI ⟨by decide, rfl, rfl, rfl, rfl, by decide⟩ (by omega) (by omega) hT) (c_X5_130 Cx rfl rfl (rmk_ok (by omega) (by decide))) hW (by decide) rfl rfl rfl hl.1 rfl (Nat.le_of_ble_eq_true rfl) dX5_writePair_12 ⟨Nat.le_of_ble_eq_true rfl, Nat.le_of_ble_eq_true rfl⟩) hL (fun u_3 H locs k_4 hW hL => ?_)
    obtain ⟨iu_3, fu_3, xu_3⟩ := k_4
    have F_5 := (Fr.rf : Fr S S (pB 160)).trans fu_3
    refine lv_aload_n hx hb dX5_writePair_15 rfl (lv_at hl 0 rfl) ?_
    refine g_X5_20 Cx hW (k := 157) (by decide) rfl (v := .ref (G.2.2.1 + 160)) (rf_157_1 iu_3) dX5_writePair_16 ?_
    refine zLdc Cx 3 (by decide) ⟨rfl, rfl⟩ dX5_writePair_19 ?_
    refine sBv (sV (As := [.ref (G.1.2 100 3)]) (rest := []) (k := 160) Cx (v_X10_word l G u_3 (o := 160) (si := 3) (N := 30000) (L := (tkn L (nmT k))) iu_3 ⟨by decide, rfl, rfl, rfl, rfl, by decide⟩ (by decide) (by omega) xu_3) (c_X5_95 Cx rfl rfl (rmk_ok (by omega) (by decide))) hW (by decide) rfl rfl rfl hl.1 rfl (Nat.le_of_ble_eq_true rfl) dX5_writePair_21 ⟨Nat.le_of_ble_eq_true rfl, Nat.le_of_ble_eq_true rfl⟩) hL (fun u_6 H locs k_7 hW hL => ?_)
    obtain ⟨iu_6, fu_6, xu_6⟩ := k_7
    have F_8 := F_5.trans fu_6
    refine lv_aload_n hx hb dX5_writePair_24 rfl (lv_at hl 0 rfl) ?_
    refine g_X5_20 Cx hW (k := 157) (by decide) rfl (v := .ref (G.2.2.1 + 160)) (rf_157_1 iu_6) dX5_writePair_25 ?_
    refine lv_aload_n hx hb dX5_writePair_28 rfl (lv_at hl 2 rfl) ?_
    refine lv_iconst (v := iv 1) hx hb dX5_writePair_29 (by decide) ?_
    refine sBv (sV (As := [.ref (G.2.2.1 + v), .int (iv 1)]) (rest := []) (k := 160) Cx (v_X10_number l G u_6 (o := 160) (v := v) (N := 30000) (L := (tkn ((tkn L (nmT k))) (strB.getD 3 []))) iu_6 ⟨by decide, rfl, rfl, rfl, rfl, by decide⟩ hv (by omega) (show Hd (bs u_6 v) from (bs_fr fu_6 (pB_no (tau_ne hv (rfl : tau 160 = .inl 10) (fun h => by cases h)) (tau_ne hv (rfl : tau 161 = .inr (.byte, 30000)) (fun h => by cases h))) (bs_fr fu_3 (pB_no (tau_ne hv (rfl : tau 160 = .inl 10) (fun h => by cases h)) (tau_ne hv (rfl : tau 161 = .inr (.byte, 30000)) (fun h => by cases h))) hbs))) xu_6) (c_X5_99 Cx rfl rfl (rmk_ok (by omega) (by decide))) hW (by decide) rfl rfl rfl hl.1 rfl (Nat.le_of_ble_eq_true rfl) dX5_writePair_30 ⟨Nat.le_of_ble_eq_true rfl, Nat.le_of_ble_eq_true rfl⟩) hL (fun u_9 H locs k_10 hW hL => ?_)
    obtain ⟨iu_9, fu_9, xu_9⟩ := k_10
    have F_11 := F_8.trans fu_9
    exact sVret Cx hr hlk hW hL ⟨iu_9, F_11, (TXc.eq (TXc.eq xu_9 (by rw [(show bv u_6 v = bv S v from (bv_fr fu_6 (pB_no (tau_ne hv (rfl : tau 160 = .inl 10) (fun h => by cases h)) (tau_ne hv (rfl : tau 161 = .inr (.byte, 30000)) (fun h => by cases h))) (pB_no (tau_ne (big_row hv).1 (rfl : tau 160 = .inl 10) (fun h => by cases h)) (ac_ne (big_row hv).2.1 (rfl : acode 161 = 2) (by decide)))).trans (bv_fr fu_3 (pB_no (tau_ne hv (rfl : tau 160 = .inl 10) (fun h => by cases h)) (tau_ne hv (rfl : tau 161 = .inr (.byte, 30000)) (fun h => by cases h))) (pB_no (tau_ne (big_row hv).1 (rfl : tau 160 = .inl 10) (fun h => by cases h)) (ac_ne (big_row hv).2.1 (rfl : acode 161 = 2) (by decide)))))])) (show tkn (tkn ((tkn L (nmT k))) (strB.getD 3 [])) (nmT (bv S v)) = prT L k (bv S v) from (by unfold prT; rw [if_neg (fun q => absurd ((bv_0 hI hv hbs).mpr q) (by omega))]; rfl)))⟩ dX5_writePair_33

set_option maxRecDepth 100000 in
set_option maxHeartbeats 4000000 in
theorem v_X5_writeBranch (l : Launch) (G : sG) (S : sS) {v : Nat} {k : Int} {L : List Int} (hI : cX G S 0 0 0) (hv : tau v = .inl 0) (hk1 : 1 ≤ k ∧ k ≤ 999999999) (hbs : Hd (bs S v)) (hT : Hd (TXc S 160 30000 L)) : Met l yX5_writeBranch (.code yX5_writeBranch cX5_writeBranch 3 none :: tb) (rmk 6 0 0) (sPc G 294 S [.ref (G.2.2.1 + 157), .int (iv k), .ref (G.2.2.1 + v)]) (sQv G 294 (fun u => cX G u 0 0 0 ∧ Fr S u (pB 160) ∧ (Hd (TXc u 160 30000 (tkn (tkn (tkn L wBr) (nmT k)) (nmT (bv S v))))))) 0 0 (sF G) := by
  refine sEnter (by decide) (Nat.le_of_ble_eq_true rfl) ?_
  intro p e s m args below meth c Cx hr hlk hnm hW ls hl
  have Cx : sC G p m c cX5_writeBranch 3 s args RX5 := Cx
  obtain ⟨hx, hb, hml, hown, hts⟩ := id Cx.1
  have hL : sL G [] := sL_nil
  have hl : lv_has ls 3 [(0, .ref (G.2.2.1 + 157)), (1, .int (iv k)), (2, .ref (G.2.2.1 + v))] := hl
  have hW0 := hW
  refine lv_aload_n hx hb dX5_writeBranch_0 rfl (lv_at hl 0 rfl) ?_
  refine g_X5_20 Cx hW (k := 157) (by decide) rfl (v := .ref (G.2.2.1 + 160)) (rf_157_1 hI) dX5_writeBranch_1 ?_
  refine zLdc Cx 6 (by decide) ⟨rfl, rfl⟩ dX5_writeBranch_4 ?_
  refine sBv (sV (As := [.ref (G.1.2 100 6)]) (rest := []) (k := 160) Cx (v_X10_word l G S (o := 160) (si := 6) (N := 30000) (L := L) hI ⟨by decide, rfl, rfl, rfl, rfl, by decide⟩ (by decide) (by omega) hT) (c_X5_95 Cx rfl rfl (rmk_ok (by omega) (by decide))) hW (by decide) rfl rfl rfl hl.1 rfl (Nat.le_of_ble_eq_true rfl) dX5_writeBranch_6 ⟨Nat.le_of_ble_eq_true rfl, Nat.le_of_ble_eq_true rfl⟩) hL (fun u_1 H locs k_2 hW hL => ?_)
  obtain ⟨iu_1, fu_1, xu_1⟩ := k_2
  have F_3 := (Fr.rf : Fr S S (pB 160)).trans fu_1
  refine lv_aload_n hx hb dX5_writeBranch_9 rfl (lv_at hl 0 rfl) ?_
  refine g_X5_20 Cx hW (k := 157) (by decide) rfl (v := .ref (G.2.2.1 + 160)) (rf_157_1 iu_1) dX5_writeBranch_10 ?_
  refine lv_iload_n hx hb dX5_writeBranch_13 rfl (lv_at hl 1 rfl) ?_
  refine sBv (sV (As := [.int (iv k)]) (rest := []) (k := 160) Cx (v_X10_count l G u_1 (o := 160) (k := k) (N := 30000) (L := (tkn L (strB.getD 6 []))) iu_1 ⟨by decide, rfl, rfl, rfl, rfl, by decide⟩ (by omega) (by omega) xu_1) (c_X5_130 Cx rfl rfl (rmk_ok (by omega) (by decide))) hW (by decide) rfl rfl rfl hl.1 rfl (Nat.le_of_ble_eq_true rfl) dX5_writeBranch_14 ⟨Nat.le_of_ble_eq_true rfl, Nat.le_of_ble_eq_true rfl⟩) hL (fun u_4 H locs k_5 hW hL => ?_)
  obtain ⟨iu_4, fu_4, xu_4⟩ := k_5
  have F_6 := F_3.trans fu_4
  refine lv_aload_n hx hb dX5_writeBranch_17 rfl (lv_at hl 0 rfl) ?_
  refine g_X5_20 Cx hW (k := 157) (by decide) rfl (v := .ref (G.2.2.1 + 160)) (rf_157_1 iu_4) dX5_writeBranch_18 ?_
  refine lv_aload_n hx hb dX5_writeBranch_21 rfl (lv_at hl 2 rfl) ?_
  refine lv_iconst (v := iv 1) hx hb dX5_writeBranch_22 (by decide) ?_
  refine sBv (sV (As := [.ref (G.2.2.1 + v), .int (iv 1)]) (rest := []) (k := 160) Cx (v_X10_number l G u_4 (o := 160) (v := v) (N := 30000) (L := (tkn ((tkn L (strB.getD 6 []))) (nmT k))) iu_4 ⟨by decide, rfl, rfl, rfl, rfl, by decide⟩ hv (by omega) (show Hd (bs u_4 v) from (bs_fr fu_4 (pB_no (tau_ne hv (rfl : tau 160 = .inl 10) (fun h => by cases h)) (tau_ne hv (rfl : tau 161 = .inr (.byte, 30000)) (fun h => by cases h))) (bs_fr fu_1 (pB_no (tau_ne hv (rfl : tau 160 = .inl 10) (fun h => by cases h)) (tau_ne hv (rfl : tau 161 = .inr (.byte, 30000)) (fun h => by cases h))) hbs))) xu_4) (c_X5_99 Cx rfl rfl (rmk_ok (by omega) (by decide))) hW (by decide) rfl rfl rfl hl.1 rfl (Nat.le_of_ble_eq_true rfl) dX5_writeBranch_23 ⟨Nat.le_of_ble_eq_true rfl, Nat.le_of_ble_eq_true rfl⟩) hL (fun u_7 H locs k_8 hW hL => ?_)
  obtain ⟨iu_7, fu_7, xu_7⟩ := k_8
  have F_9 := F_6.trans fu_7
  exact sVret Cx hr hlk hW hL ⟨iu_7, F_9, (TXc.eq (TXc.eq xu_7 (by rw [(show bv u_4 v = bv S v from (bv_fr fu_4 (pB_no (tau_ne hv (rfl : tau 160 = .inl 10) (fun h => by cases h)) (tau_ne hv (rfl : tau 161 = .inr (.byte, 30000)) (fun h => by cases h))) (pB_no (tau_ne (big_row hv).1 (rfl : tau 160 = .inl 10) (fun h => by cases h)) (ac_ne (big_row hv).2.1 (rfl : acode 161 = 2) (by decide)))).trans (bv_fr fu_1 (pB_no (tau_ne hv (rfl : tau 160 = .inl 10) (fun h => by cases h)) (tau_ne hv (rfl : tau 161 = .inr (.byte, 30000)) (fun h => by cases h))) (pB_no (tau_ne (big_row hv).1 (rfl : tau 160 = .inl 10) (fun h => by cases h)) (ac_ne (big_row hv).2.1 (rfl : acode 161 = 2) (by decide)))))])) (show tkn (tkn ((tkn L (strB.getD 6 []))) (nmT k)) (nmT (bv S v)) = tkn (tkn (tkn L wBr) (nmT k)) (nmT (bv S v)) from rfl))⟩ dX5_writeBranch_26

set_option maxRecDepth 100000 in
set_option maxHeartbeats 4000000 in
theorem v_X5_writeLeaf (l : Launch) (G : sG) (S : sS) {oc od : Nat} {n hw : Int} {d : dT} {L : List Int} {vs so : Int} (hI : cX G S 0 0 0) (hdq : dcs G S oc od) (hDR : Hd (DRc S oc n hw d)) (hT : Hd (TXc S 160 30000 L)) (hvs : vs = n ∧ 0 ≤ n ∧ n ≤ 12) (hso : -1 ≤ so ∧ so ≤ d.2.2.2.2.1) (hsw : so = -1 → hw = 1) : Met l yX5_writeLeaf (.code yX5_writeLeaf cX5_writeLeaf 5 none :: tb) (rmk 7 0 0) (sPc G 294 S [.ref (G.2.2.1 + 157), .ref (G.2.2.1 + 135), .int (iv vs), .int (iv so)]) (sQv G 294 (fun u => cX G u 0 0 0 ∧ Fr S u pWl ∧ (Hd (TXc u 160 30000 (leT n d so L))))) 0 0 (sF G) := by
  refine sEnter (by decide) (Nat.le_of_ble_eq_true rfl) ?_
  intro p e s m args below meth c Cx hr hlk hnm hW ls hl
  have Cx : sC G p m c cX5_writeLeaf 5 s args RX5 := Cx
  obtain ⟨hx, hb, hml, hown, hts⟩ := id Cx.1
  have hL : sL G [] := sL_nil
  have hl : lv_has ls 5 [(0, .ref (G.2.2.1 + 157)), (1, .ref (G.2.2.1 + 135)), (2, .int (iv vs)), (3, .int (iv so))] := hl
  have hW0 := hW
  obtain ⟨hoc, hod, hcd, hec, hed⟩ := id hdq
  have hd13 := hDR.2.2.2.2.1; have hd14 := hDR.2.2.2.2.2.1; have hd15 := hDR.2.2.2.2.2.2.1; have hd16 := hDR.2.2.2.2.2.2.2; have hm40 : 0 ≤ S.1 135 14 ∧ S.1 135 14 ≤ 40 := hI.fi 135 14 2 (by decide) rfl; have hp13 : 0 ≤ S.1 135 15 ∧ S.1 135 15 ≤ 13 := hI.fi 135 15 2 (by decide) rfl
  refine lv_aload_n hx hb dX5_writeLeaf_0 rfl (lv_at hl 0 rfl) ?_
  refine g_X5_20 Cx hW (k := 157) (by decide) rfl (v := .ref (G.2.2.1 + 160)) (rf_157_1 hI) dX5_writeLeaf_1 ?_
  refine lv_iload_n hx hb dX5_writeLeaf_4 rfl (lv_at hl 3 rfl) ?_
  refine r_if_ne (tgt := 13) hx hb ⟨(by omega), (by omega)⟩ dX5_writeLeaf_5 (by decide) (fun c_1 => ?_) (fun c_1 => ?_)
  · refine zLdc Cx 2 (by decide) ⟨rfl, rfl⟩ dX5_writeLeaf_13 ?_
    refine sBv (sV (As := [.ref (G.1.2 100 2)]) (rest := []) (k := 160) Cx (v_X10_word l G S (o := 160) (si := 2) (N := 30000) (L := L) hI ⟨by decide, rfl, rfl, rfl, rfl, by decide⟩ (by decide) (by omega) hT) (c_X5_95 Cx rfl rfl (rmk_ok (by omega) (by decide))) hW (by decide) rfl rfl rfl hl.1 rfl (Nat.le_of_ble_eq_true rfl) dX5_writeLeaf_15 ⟨Nat.le_of_ble_eq_true rfl, Nat.le_of_ble_eq_true rfl⟩) hL (fun u_2 H locs k_3 hW hL => ?_)
    obtain ⟨iu_2, fu_2, xu_2⟩ := k_3
    have F_4 := (Fr.rf : Fr S S pWl).trans (fu_2.to (pB_sub rfl rfl))
    refine lv_aload_n hx hb dX5_writeLeaf_18 rfl (lv_at hl 1 rfl) ?_
    refine lv_aload_n hx hb dX5_writeLeaf_19 rfl (lv_at hl 0 rfl) ?_
    refine g_X5_40 Cx hW (k := 157) (by decide) rfl (v := .ref (G.2.2.1 + 169)) (rf_157_6 iu_2) dX5_writeLeaf_20 ?_
    refine sBv (sV (As := [.ref (G.2.2.1 + 169)]) (rest := []) (k := 135) Cx (v_X2_denominator l G u_2 (v := 169) (oc := oc) (od := od) (n := n) (hw := hw) (d := d) iu_2 ⟨hoc, hod, (neD hcd), (((fu_2 135 rfl).2.2.2 0).trans hec), (((fu_2 135 rfl).2.2.2 1).trans hed)⟩ (DRc.of hDR (show u_2.1 135 13 = S.1 135 13 from (fu_2 135 rfl).1 13) (show u_2.1 135 14 = S.1 135 14 from (fu_2 135 rfl).1 14) (show u_2.1 135 15 = S.1 135 15 from (fu_2 135 rfl).1 15) (show u_2.1 135 16 = S.1 135 16 from (fu_2 135 rfl).1 16) (show u_2.2.1 oc = S.2.1 oc from funext fun x => (fu_2 oc (pB_no (tau_ne (dic_t hoc) (rfl : tau 160 = .inl 10) (fun h => by cases h)) (ac_ne (dic_c hoc) (rfl : acode 161 = 2) (by decide)))).2.1 x) (show u_2.2.1 138 = S.2.1 138 from funext fun x => (fu_2 138 rfl).2.1 x) (show u_2.2.1 139 = S.2.1 139 from funext fun x => (fu_2 139 rfl).2.1 x)) rfl) (c_X5_84 Cx rfl rfl (rmk_ok (by omega) (by decide))) hW (by decide) rfl rfl rfl hl.1 rfl (Nat.le_of_ble_eq_true rfl) dX5_writeLeaf_23 ⟨Nat.le_of_ble_eq_true rfl, Nat.le_of_ble_eq_true rfl⟩) hL (fun u_5 H locs k_6 hW hL => ?_)
    obtain ⟨iu_5, fu_5, xu_5⟩ := k_6
    have F_7 := F_4.trans (fu_5.to (pB_sub rfl rfl))
    have bv_8 : bv u_5 169 = d.1 := xu_5.2.2.2.1.1
    refine lv_aload_n hx hb dX5_writeLeaf_26 rfl (lv_at hl 0 rfl) ?_
    refine g_X5_20 Cx hW (k := 157) (by decide) rfl (v := .ref (G.2.2.1 + 160)) (rf_157_1 iu_5) dX5_writeLeaf_27 ?_
    refine lv_aload_n hx hb dX5_writeLeaf_30 rfl (lv_at hl 0 rfl) ?_
    refine g_X5_40 Cx hW (k := 157) (by decide) rfl (v := .ref (G.2.2.1 + 169)) (rf_157_6 iu_5) dX5_writeLeaf_31 ?_
    refine lv_iconst (v := iv 1) hx hb dX5_writeLeaf_34 (by decide) ?_
    refine sBv (sV (As := [.ref (G.2.2.1 + 169), .int (iv 1)]) (rest := []) (k := 160) Cx (v_X10_number l G u_5 (o := 160) (v := 169) (N := 30000) (L := (tkn L (strB.getD 2 []))) iu_5 ⟨by decide, rfl, rfl, rfl, rfl, by decide⟩ rfl (by omega) (show Hd (bs u_5 169) from xu_5.2.2.2.1.2) (TXc.of xu_2 (show u_5.1 160 1 = u_2.1 160 1 from (fu_5 160 rfl).1 1) (show u_5.1 160 2 = u_2.1 160 2 from (fu_5 160 rfl).1 2) (show u_5.2.1 161 = u_2.2.1 161 from funext fun x => (fu_5 161 rfl).2.1 x))) (c_X5_99 Cx rfl rfl (rmk_ok (by omega) (by decide))) hW (by decide) rfl rfl rfl hl.1 rfl (Nat.le_of_ble_eq_true rfl) dX5_writeLeaf_35 ⟨Nat.le_of_ble_eq_true rfl, Nat.le_of_ble_eq_true rfl⟩) hL (fun u_9 H locs k_10 hW hL => ?_)
    obtain ⟨iu_9, fu_9, xu_9⟩ := k_10
    have F_11 := F_7.trans (fu_9.to (pB_sub rfl rfl))
    refine lv_iconst (v := iv 1) hx hb dX5_writeLeaf_38 (by decide) ?_
    refine lv_istore (lv' := [(4, .int (iv 1)), (0, .ref (G.2.2.1 + 157)), (1, .ref (G.2.2.1 + 135)), (2, .int (iv vs)), (3, .int (iv so))]) hx hb dX5_writeLeaf_39 hl (by decide) rfl (fun ls hl => ?_)
    have loop_41 : ∀ (fuel : Nat) (S41 : sS) (k : Int) (H : Heap) (locs : List Loc) (ls : Array Slot), (41 - k).toNat < fuel → (cX G S41 0 0 0) → (Fr S S41 pWl) → (Fr u_9 S41 pWl) → (1 ≤ k ∧ k ≤ d.2.2.2.2.1 + 1) → (Hd (TXc S41 160 30000 (psT (fun k => mlt d so (n + k)) (tkn (tkn L (if so = 0 then wBo else wFa)) (nmT d.1)) (k - 1).toNat))) → (Hd (DRc S41 oc n hw d)) → sW G 294 S41 H → sL G locs → lv_has ls 5 [(4, .int (iv k)), (0, .ref (G.2.2.1 + 157)), (1, .ref (G.2.2.1 + 135)), (2, .int (iv vs)), (3, .int (iv so))] → W p l e (rmk 7 0 0) s m args below meth c H locs 0 0 (MQ below (sQv G 294 (fun u => cX G u 0 0 0 ∧ Fr S u pWl ∧ (Hd (TXc u 160 30000 (leT n d so L))))) args s 0 0 (sF G)) (F0 m 41 ls []) := by
      intro fuel
      induction fuel with
      | zero => intro S41 k H locs ls hmeas hI41 hFm41 hL41_ hk hl41 hD41 hW hL hl; exact absurd hmeas (Nat.not_lt_zero _)
      | succ fuel ih_41 =>
        intro S41 k H locs ls hmeas hI41 hFm41 hL41_ hk hl41 hD41 hW hL hl
        have hD4114 := hD41.2.2.2.2.2.1; have hD4115 := hD41.2.2.2.2.2.2.1
        refine lv_iload hx hb dX5_writeLeaf_41 (lv_at hl 0 rfl) ?_
        refine lv_aload_n hx hb dX5_writeLeaf_43 rfl (lv_at hl 2 rfl) ?_
        have q_12 : 0 ≤ S.1 135 14 ∧ S.1 135 14 ≤ 40 := hI.fi 135 14 2 (by decide) rfl
        have lk_13 : S41.1 135 14 = S.1 135 14 := ((hL41_ 135 rfl).1 14).trans (((fu_9 135 rfl).1 14).trans (((fu_5 135 rfl).1 14).trans ((fu_2 135 rfl).1 14)))
        refine sBi (sV (As := []) (rest := [.int (iv k)]) (k := 135) Cx (s_X2_rowCount l G S41  hI41) (c_X5_102 Cx rfl rfl (rmk_ok (by omega) (by decide))) hW (by decide) rfl rfl rfl hl.1 rfl (Nat.le_of_ble_eq_true rfl) dX5_writeLeaf_44 ⟨Nat.le_of_ble_eq_true rfl, Nat.le_of_ble_eq_true rfl⟩) hL (fun r_16 u_14 H locs k_15 hW hL => ?_)
        obtain ⟨eu_14, xu_14⟩ := k_15
        rw [eu_14] at hW
        refine r_icmp_gt (tgt := 79) hx hb ⟨(by omega), (by omega)⟩ ⟨(by omega), (by omega)⟩ dX5_writeLeaf_47 (by decide) (fun c_17 => ?_) (fun c_17 => ?_)
        · refine lv_aload_n hx hb dX5_writeLeaf_79 rfl (lv_at hl 1 rfl) ?_
          refine g_X5_20 Cx hW (k := 157) (by decide) rfl (v := .ref (G.2.2.1 + 160)) (rf_157_1 hI41) dX5_writeLeaf_80 ?_
          refine zLdc Cx 4 (by decide) ⟨rfl, rfl⟩ dX5_writeLeaf_83 ?_
          refine sBv (sV (As := [.ref (G.1.2 100 4)]) (rest := []) (k := 160) Cx (v_X10_word l G S41 (o := 160) (si := 4) (N := 30000) (L := (psT (fun k => mlt d so (n + k)) (tkn (tkn L (if so = 0 then wBo else wFa)) (nmT d.1)) (k - 1).toNat)) hI41 ⟨by decide, rfl, rfl, rfl, rfl, by decide⟩ (by decide) (by omega) hl41) (c_X5_95 Cx rfl rfl (rmk_ok (by omega) (by decide))) hW (by decide) rfl rfl rfl hl.1 rfl (Nat.le_of_ble_eq_true rfl) dX5_writeLeaf_85 ⟨Nat.le_of_ble_eq_true rfl, Nat.le_of_ble_eq_true rfl⟩) hL (fun u_18 H locs k_19 hW hL => ?_)
          obtain ⟨iu_18, fu_18, xu_18⟩ := k_19
          have F_20 := hFm41.trans (fu_18.to (pB_sub rfl rfl))
          have F_21 := hL41_.trans (fu_18.to (pB_sub rfl rfl))
          exact sVret Cx hr hlk hW hL ⟨iu_18, F_20, (TXc.eq xu_18 (by unfold leT; rw [show k - 1 = d.2.2.2.2.1 by omega]; rfl))⟩ dX5_writeLeaf_88
        · refine lv_aload_n hx hb dX5_writeLeaf_50 rfl (lv_at hl 2 rfl) ?_
          refine lv_iload_n hx hb dX5_writeLeaf_51 rfl (lv_at hl 4 rfl) ?_
          refine lv_iload_n hx hb dX5_writeLeaf_52 rfl (lv_at hl 3 rfl) ?_
          refine lv_iload hx hb dX5_writeLeaf_53 (lv_at hl 0 rfl) ?_
          refine r_iadd hx hb dX5_writeLeaf_55 ?_
          refine lv_aload_n hx hb dX5_writeLeaf_56 rfl (lv_at hl 1 rfl) ?_
          refine g_X5_40 Cx hW (k := 157) (by decide) rfl (v := .ref (G.2.2.1 + 169)) (rf_157_6 hI41) dX5_writeLeaf_57 ?_
          have hvk : vs + k = n + k := by omega
          refine sBv (sV (As := [.int (iv so), .int (iv (vs + k)), .ref (G.2.2.1 + 169)]) (rest := []) (k := 135) Cx (v_X2_multiplier l G S41 (i := so) (k := vs + k) (v := 169) (oc := oc) (od := od) (n := n) (hw := hw) (d := d) hI41 ⟨hoc, hod, (neD hcd), ((((hL41_ 135 rfl).2.2.2 0).trans (((fu_9 135 rfl).2.2.2 0).trans (((fu_5 135 rfl).2.2.2 0).trans ((fu_2 135 rfl).2.2.2 0)))).trans hec), ((((hL41_ 135 rfl).2.2.2 1).trans (((fu_9 135 rfl).2.2.2 1).trans (((fu_5 135 rfl).2.2.2 1).trans ((fu_2 135 rfl).2.2.2 1)))).trans hed)⟩ hD41 rfl (by omega) (by omega) (by omega)) (c_X5_105 Cx rfl rfl (rmk_ok (by omega) (by decide))) hW (by decide) rfl rfl rfl hl.1 rfl (Nat.le_of_ble_eq_true rfl) dX5_writeLeaf_60 ⟨Nat.le_of_ble_eq_true rfl, Nat.le_of_ble_eq_true rfl⟩) hL (fun u_22 H locs k_23 hW hL => ?_)
          obtain ⟨iu_22, fu_22, xu_22⟩ := k_23
          have F_24 := hFm41.trans (fu_22.to (pB_sub rfl rfl))
          have F_25 := hL41_.trans (fu_22.to (pB_sub rfl rfl))
          have bv_26 : bv u_22 169 = mlt d so (vs + k) := xu_22.2.1
          refine lv_aload_n hx hb dX5_writeLeaf_63 rfl (lv_at hl 1 rfl) ?_
          refine lv_iload hx hb dX5_writeLeaf_64 (lv_at hl 0 rfl) ?_
          refine lv_aload_n hx hb dX5_writeLeaf_66 rfl (lv_at hl 1 rfl) ?_
          refine g_X5_40 Cx hW (k := 157) (by decide) rfl (v := .ref (G.2.2.1 + 169)) (rf_157_6 iu_22) dX5_writeLeaf_67 ?_
          refine sBv (sV (As := [.int (iv k), .ref (G.2.2.1 + 169)]) (rest := []) (k := 157) Cx (v_X5_writePair l G u_22 (k := k) (v := 169) (L := (psT (fun k => mlt d so (n + k)) (tkn (tkn L (if so = 0 then wBo else wFa)) (nmT d.1)) (k - 1).toNat)) iu_22 rfl (by omega) (show Hd (bs u_22 169) from xu_22.2.2) (TXc.of hl41 (show u_22.1 160 1 = S41.1 160 1 from (fu_22 160 rfl).1 1) (show u_22.1 160 2 = S41.1 160 2 from (fu_22 160 rfl).1 2) (show u_22.2.1 161 = S41.2.1 161 from funext fun x => (fu_22 161 rfl).2.1 x))) (c_X5_108 Cx rfl rfl (rmk_ok (by omega) (by decide))) hW (by decide) rfl rfl rfl hl.1 rfl (Nat.le_of_ble_eq_true rfl) dX5_writeLeaf_70 ⟨Nat.le_of_ble_eq_true rfl, Nat.le_of_ble_eq_true rfl⟩) hL (fun u_27 H locs k_28 hW hL => ?_)
          obtain ⟨iu_27, fu_27, xu_27⟩ := k_28
          have F_29 := F_24.trans (fu_27.to (pB_sub rfl rfl))
          have F_30 := F_25.trans (fu_27.to (pB_sub rfl rfl))
          refine lv_iinc (v := iv (k + 1)) (lv' := [(4, .int (iv (k + 1))), (0, .ref (G.2.2.1 + 157)), (1, .ref (G.2.2.1 + 135)), (2, .int (iv vs)), (3, .int (iv so))]) hx hb dX5_writeLeaf_73 hl (k := 0) rfl ((Int32.ofInt_add _ _).symm) (by decide) rfl (fun ls hl => ?_)
          refine lv_goto (tgt := 41) hx hb dX5_writeLeaf_76 (by decide) ?_
          exact ih_41 u_27 (k + 1) _ _ _ (by omega) iu_27 F_29 F_30 (by omega) (TXc.eq (show TXc _ 160 30000 (prT (psT (fun k => mlt d so (n + k)) (tkn (tkn L (if so = 0 then wBo else wFa)) (nmT d.1)) (k - 1).toNat) k (mlt d so (vs + k))) from (TXc.eq xu_27 (by rw [(show bv u_22 169 = mlt d so (vs + k) from bv_26)]))) (by rw [show vs = n by omega]; exact (psT_s (by omega)).symm)) (DRc.of hD41 (show u_27.1 135 13 = S41.1 135 13 from ((fu_27 135 rfl).1 13).trans ((fu_22 135 rfl).1 13)) (show u_27.1 135 14 = S41.1 135 14 from ((fu_27 135 rfl).1 14).trans ((fu_22 135 rfl).1 14)) (show u_27.1 135 15 = S41.1 135 15 from ((fu_27 135 rfl).1 15).trans ((fu_22 135 rfl).1 15)) (show u_27.1 135 16 = S41.1 135 16 from ((fu_27 135 rfl).1 16).trans ((fu_22 135 rfl).1 16)) (show u_27.2.1 oc = S41.2.1 oc from funext fun x => ((fu_27 oc (pB_no (tau_ne (dic_t hoc) (rfl : tau 160 = .inl 10) (fun h => by cases h)) (ac_ne (dic_c hoc) (rfl : acode 161 = 2) (by decide)))).2.1 x).trans ((fu_22 oc (pB_no (tau_ne (dic_t hoc) (rfl : tau 169 = .inl 0) (fun h => by cases h)) (ac_ne (dic_c hoc) (rfl : acode 170 = 1) (by decide)))).2.1 x)) (show u_27.2.1 138 = S41.2.1 138 from funext fun x => ((fu_27 138 rfl).2.1 x).trans ((fu_22 138 rfl).2.1 x)) (show u_27.2.1 139 = S41.2.1 139 from funext fun x => ((fu_27 139 rfl).2.1 x).trans ((fu_22 139 rfl).2.1 x))) hW hL (lv_sub hl [0, 1, 2, 3, 4] rfl)
    exact loop_41 (_ + 1) u_9 1 _ _ _ (Nat.lt_succ_self _) iu_9 F_11 Fr.rf (by omega) (TXc.eq (show TXc _ 160 30000 (tkn (tkn L (strB.getD 2 [])) (nmT (d.1))) from (TXc.eq xu_9 (by rw [(show bv u_5 169 = d.1 from bv_8)]))) (by (first | rw [if_pos (by omega)] | rw [if_neg (by omega)]); rfl)) (DRc.of hDR (show u_9.1 135 13 = S.1 135 13 from ((fu_9 135 rfl).1 13).trans (((fu_5 135 rfl).1 13).trans ((fu_2 135 rfl).1 13))) (show u_9.1 135 14 = S.1 135 14 from ((fu_9 135 rfl).1 14).trans (((fu_5 135 rfl).1 14).trans ((fu_2 135 rfl).1 14))) (show u_9.1 135 15 = S.1 135 15 from ((fu_9 135 rfl).1 15).trans (((fu_5 135 rfl).1 15).trans ((fu_2 135 rfl).1 15))) (show u_9.1 135 16 = S.1 135 16 from ((fu_9 135 rfl).1 16).trans (((fu_5 135 rfl).1 16).trans ((fu_2 135 rfl).1 16))) (show u_9.2.1 oc = S.2.1 oc from funext fun x => ((fu_9 oc (pB_no (tau_ne (dic_t hoc) (rfl : tau 160 = .inl 10) (fun h => by cases h)) (ac_ne (dic_c hoc) (rfl : acode 161 = 2) (by decide)))).2.1 x).trans (((fu_5 oc (pB_no (tau_ne (dic_t hoc) (rfl : tau 169 = .inl 0) (fun h => by cases h)) (ac_ne (dic_c hoc) (rfl : acode 170 = 1) (by decide)))).2.1 x).trans ((fu_2 oc (pB_no (tau_ne (dic_t hoc) (rfl : tau 160 = .inl 10) (fun h => by cases h)) (ac_ne (dic_c hoc) (rfl : acode 161 = 2) (by decide)))).2.1 x))) (show u_9.2.1 138 = S.2.1 138 from funext fun x => ((fu_9 138 rfl).2.1 x).trans (((fu_5 138 rfl).2.1 x).trans ((fu_2 138 rfl).2.1 x))) (show u_9.2.1 139 = S.2.1 139 from funext fun x => ((fu_9 139 rfl).2.1 x).trans (((fu_5 139 rfl).2.1 x).trans ((fu_2 139 rfl).2.1 x)))) hW hL (lv_sub hl [0, 1, 2, 3, 4] rfl)
  · refine zLdc Cx 1 (by decide) ⟨rfl, rfl⟩ dX5_writeLeaf_8 ?_
    refine lv_goto (tgt := 15) hx hb dX5_writeLeaf_10 (by decide) ?_
    refine sBv (sV (As := [.ref (G.1.2 100 1)]) (rest := []) (k := 160) Cx (v_X10_word l G S (o := 160) (si := 1) (N := 30000) (L := L) hI ⟨by decide, rfl, rfl, rfl, rfl, by decide⟩ (by decide) (by omega) hT) (c_X5_95 Cx rfl rfl (rmk_ok (by omega) (by decide))) hW (by decide) rfl rfl rfl hl.1 rfl (Nat.le_of_ble_eq_true rfl) dX5_writeLeaf_15 ⟨Nat.le_of_ble_eq_true rfl, Nat.le_of_ble_eq_true rfl⟩) hL (fun u_31 H locs k_32 hW hL => ?_)
    obtain ⟨iu_31, fu_31, xu_31⟩ := k_32
    have F_33 := (Fr.rf : Fr S S pWl).trans (fu_31.to (pB_sub rfl rfl))
    refine lv_aload_n hx hb dX5_writeLeaf_18 rfl (lv_at hl 1 rfl) ?_
    refine lv_aload_n hx hb dX5_writeLeaf_19 rfl (lv_at hl 0 rfl) ?_
    refine g_X5_40 Cx hW (k := 157) (by decide) rfl (v := .ref (G.2.2.1 + 169)) (rf_157_6 iu_31) dX5_writeLeaf_20 ?_
    refine sBv (sV (As := [.ref (G.2.2.1 + 169)]) (rest := []) (k := 135) Cx (v_X2_denominator l G u_31 (v := 169) (oc := oc) (od := od) (n := n) (hw := hw) (d := d) iu_31 ⟨hoc, hod, (neD hcd), (((fu_31 135 rfl).2.2.2 0).trans hec), (((fu_31 135 rfl).2.2.2 1).trans hed)⟩ (DRc.of hDR (show u_31.1 135 13 = S.1 135 13 from (fu_31 135 rfl).1 13) (show u_31.1 135 14 = S.1 135 14 from (fu_31 135 rfl).1 14) (show u_31.1 135 15 = S.1 135 15 from (fu_31 135 rfl).1 15) (show u_31.1 135 16 = S.1 135 16 from (fu_31 135 rfl).1 16) (show u_31.2.1 oc = S.2.1 oc from funext fun x => (fu_31 oc (pB_no (tau_ne (dic_t hoc) (rfl : tau 160 = .inl 10) (fun h => by cases h)) (ac_ne (dic_c hoc) (rfl : acode 161 = 2) (by decide)))).2.1 x) (show u_31.2.1 138 = S.2.1 138 from funext fun x => (fu_31 138 rfl).2.1 x) (show u_31.2.1 139 = S.2.1 139 from funext fun x => (fu_31 139 rfl).2.1 x)) rfl) (c_X5_84 Cx rfl rfl (rmk_ok (by omega) (by decide))) hW (by decide) rfl rfl rfl hl.1 rfl (Nat.le_of_ble_eq_true rfl) dX5_writeLeaf_23 ⟨Nat.le_of_ble_eq_true rfl, Nat.le_of_ble_eq_true rfl⟩) hL (fun u_34 H locs k_35 hW hL => ?_)
    obtain ⟨iu_34, fu_34, xu_34⟩ := k_35
    have F_36 := F_33.trans (fu_34.to (pB_sub rfl rfl))
    have bv_37 : bv u_34 169 = d.1 := xu_34.2.2.2.1.1
    refine lv_aload_n hx hb dX5_writeLeaf_26 rfl (lv_at hl 0 rfl) ?_
    refine g_X5_20 Cx hW (k := 157) (by decide) rfl (v := .ref (G.2.2.1 + 160)) (rf_157_1 iu_34) dX5_writeLeaf_27 ?_
    refine lv_aload_n hx hb dX5_writeLeaf_30 rfl (lv_at hl 0 rfl) ?_
    refine g_X5_40 Cx hW (k := 157) (by decide) rfl (v := .ref (G.2.2.1 + 169)) (rf_157_6 iu_34) dX5_writeLeaf_31 ?_
    refine lv_iconst (v := iv 1) hx hb dX5_writeLeaf_34 (by decide) ?_
    refine sBv (sV (As := [.ref (G.2.2.1 + 169), .int (iv 1)]) (rest := []) (k := 160) Cx (v_X10_number l G u_34 (o := 160) (v := 169) (N := 30000) (L := (tkn L (strB.getD 1 []))) iu_34 ⟨by decide, rfl, rfl, rfl, rfl, by decide⟩ rfl (by omega) (show Hd (bs u_34 169) from xu_34.2.2.2.1.2) (TXc.of xu_31 (show u_34.1 160 1 = u_31.1 160 1 from (fu_34 160 rfl).1 1) (show u_34.1 160 2 = u_31.1 160 2 from (fu_34 160 rfl).1 2) (show u_34.2.1 161 = u_31.2.1 161 from funext fun x => (fu_34 161 rfl).2.1 x))) (c_X5_99 Cx rfl rfl (rmk_ok (by omega) (by decide))) hW (by decide) rfl rfl rfl hl.1 rfl (Nat.le_of_ble_eq_true rfl) dX5_writeLeaf_35 ⟨Nat.le_of_ble_eq_true rfl, Nat.le_of_ble_eq_true rfl⟩) hL (fun u_38 H locs k_39 hW hL => ?_)
    obtain ⟨iu_38, fu_38, xu_38⟩ := k_39
    have F_40 := F_36.trans (fu_38.to (pB_sub rfl rfl))
    refine lv_iconst (v := iv 1) hx hb dX5_writeLeaf_38 (by decide) ?_
    refine lv_istore (lv' := [(4, .int (iv 1)), (0, .ref (G.2.2.1 + 157)), (1, .ref (G.2.2.1 + 135)), (2, .int (iv vs)), (3, .int (iv so))]) hx hb dX5_writeLeaf_39 hl (by decide) rfl (fun ls hl => ?_)
    have loop_41 : ∀ (fuel : Nat) (S41 : sS) (k : Int) (H : Heap) (locs : List Loc) (ls : Array Slot), (41 - k).toNat < fuel → (cX G S41 0 0 0) → (Fr S S41 pWl) → (Fr u_38 S41 pWl) → (1 ≤ k ∧ k ≤ d.2.2.2.2.1 + 1) → (Hd (TXc S41 160 30000 (psT (fun k => mlt d so (n + k)) (tkn (tkn L (if so = 0 then wBo else wFa)) (nmT d.1)) (k - 1).toNat))) → (Hd (DRc S41 oc n hw d)) → sW G 294 S41 H → sL G locs → lv_has ls 5 [(4, .int (iv k)), (0, .ref (G.2.2.1 + 157)), (1, .ref (G.2.2.1 + 135)), (2, .int (iv vs)), (3, .int (iv so))] → W p l e (rmk 7 0 0) s m args below meth c H locs 0 0 (MQ below (sQv G 294 (fun u => cX G u 0 0 0 ∧ Fr S u pWl ∧ (Hd (TXc u 160 30000 (leT n d so L))))) args s 0 0 (sF G)) (F0 m 41 ls []) := by
      intro fuel
      induction fuel with
      | zero => intro S41 k H locs ls hmeas hI41 hFm41 hL41_ hk hl41 hD41 hW hL hl; exact absurd hmeas (Nat.not_lt_zero _)
      | succ fuel ih_41 =>
        intro S41 k H locs ls hmeas hI41 hFm41 hL41_ hk hl41 hD41 hW hL hl
        have hD4114 := hD41.2.2.2.2.2.1; have hD4115 := hD41.2.2.2.2.2.2.1
        refine lv_iload hx hb dX5_writeLeaf_41 (lv_at hl 0 rfl) ?_
        refine lv_aload_n hx hb dX5_writeLeaf_43 rfl (lv_at hl 2 rfl) ?_
        have q_41 : 0 ≤ S.1 135 14 ∧ S.1 135 14 ≤ 40 := hI.fi 135 14 2 (by decide) rfl
        have lk_42 : S41.1 135 14 = S.1 135 14 := ((hL41_ 135 rfl).1 14).trans (((fu_38 135 rfl).1 14).trans (((fu_34 135 rfl).1 14).trans ((fu_31 135 rfl).1 14)))
        refine sBi (sV (As := []) (rest := [.int (iv k)]) (k := 135) Cx (s_X2_rowCount l G S41  hI41) (c_X5_102 Cx rfl rfl (rmk_ok (by omega) (by decide))) hW (by decide) rfl rfl rfl hl.1 rfl (Nat.le_of_ble_eq_true rfl) dX5_writeLeaf_44 ⟨Nat.le_of_ble_eq_true rfl, Nat.le_of_ble_eq_true rfl⟩) hL (fun r_45 u_43 H locs k_44 hW hL => ?_)
        obtain ⟨eu_43, xu_43⟩ := k_44
        rw [eu_43] at hW
        refine r_icmp_gt (tgt := 79) hx hb ⟨(by omega), (by omega)⟩ ⟨(by omega), (by omega)⟩ dX5_writeLeaf_47 (by decide) (fun c_46 => ?_) (fun c_46 => ?_)
        · refine lv_aload_n hx hb dX5_writeLeaf_79 rfl (lv_at hl 1 rfl) ?_
          refine g_X5_20 Cx hW (k := 157) (by decide) rfl (v := .ref (G.2.2.1 + 160)) (rf_157_1 hI41) dX5_writeLeaf_80 ?_
          refine zLdc Cx 4 (by decide) ⟨rfl, rfl⟩ dX5_writeLeaf_83 ?_
          refine sBv (sV (As := [.ref (G.1.2 100 4)]) (rest := []) (k := 160) Cx (v_X10_word l G S41 (o := 160) (si := 4) (N := 30000) (L := (psT (fun k => mlt d so (n + k)) (tkn (tkn L (if so = 0 then wBo else wFa)) (nmT d.1)) (k - 1).toNat)) hI41 ⟨by decide, rfl, rfl, rfl, rfl, by decide⟩ (by decide) (by omega) hl41) (c_X5_95 Cx rfl rfl (rmk_ok (by omega) (by decide))) hW (by decide) rfl rfl rfl hl.1 rfl (Nat.le_of_ble_eq_true rfl) dX5_writeLeaf_85 ⟨Nat.le_of_ble_eq_true rfl, Nat.le_of_ble_eq_true rfl⟩) hL (fun u_47 H locs k_48 hW hL => ?_)
          obtain ⟨iu_47, fu_47, xu_47⟩ := k_48
          have F_49 := hFm41.trans (fu_47.to (pB_sub rfl rfl))
          have F_50 := hL41_.trans (fu_47.to (pB_sub rfl rfl))
          exact sVret Cx hr hlk hW hL ⟨iu_47, F_49, (TXc.eq xu_47 (by unfold leT; rw [show k - 1 = d.2.2.2.2.1 by omega]; rfl))⟩ dX5_writeLeaf_88
        · refine lv_aload_n hx hb dX5_writeLeaf_50 rfl (lv_at hl 2 rfl) ?_
          refine lv_iload_n hx hb dX5_writeLeaf_51 rfl (lv_at hl 4 rfl) ?_
          refine lv_iload_n hx hb dX5_writeLeaf_52 rfl (lv_at hl 3 rfl) ?_
          refine lv_iload hx hb dX5_writeLeaf_53 (lv_at hl 0 rfl) ?_
          refine r_iadd hx hb dX5_writeLeaf_55 ?_
          refine lv_aload_n hx hb dX5_writeLeaf_56 rfl (lv_at hl 1 rfl) ?_
          refine g_X5_40 Cx hW (k := 157) (by decide) rfl (v := .ref (G.2.2.1 + 169)) (rf_157_6 hI41) dX5_writeLeaf_57 ?_
          have hvk : vs + k = n + k := by omega
          refine sBv (sV (As := [.int (iv so), .int (iv (vs + k)), .ref (G.2.2.1 + 169)]) (rest := []) (k := 135) Cx (v_X2_multiplier l G S41 (i := so) (k := vs + k) (v := 169) (oc := oc) (od := od) (n := n) (hw := hw) (d := d) hI41 ⟨hoc, hod, (neD hcd), ((((hL41_ 135 rfl).2.2.2 0).trans (((fu_38 135 rfl).2.2.2 0).trans (((fu_34 135 rfl).2.2.2 0).trans ((fu_31 135 rfl).2.2.2 0)))).trans hec), ((((hL41_ 135 rfl).2.2.2 1).trans (((fu_38 135 rfl).2.2.2 1).trans (((fu_34 135 rfl).2.2.2 1).trans ((fu_31 135 rfl).2.2.2 1)))).trans hed)⟩ hD41 rfl (by omega) (by omega) (by omega)) (c_X5_105 Cx rfl rfl (rmk_ok (by omega) (by decide))) hW (by decide) rfl rfl rfl hl.1 rfl (Nat.le_of_ble_eq_true rfl) dX5_writeLeaf_60 ⟨Nat.le_of_ble_eq_true rfl, Nat.le_of_ble_eq_true rfl⟩) hL (fun u_51 H locs k_52 hW hL => ?_)
          obtain ⟨iu_51, fu_51, xu_51⟩ := k_52
          have F_53 := hFm41.trans (fu_51.to (pB_sub rfl rfl))
          have F_54 := hL41_.trans (fu_51.to (pB_sub rfl rfl))
          have bv_55 : bv u_51 169 = mlt d so (vs + k) := xu_51.2.1
          refine lv_aload_n hx hb dX5_writeLeaf_63 rfl (lv_at hl 1 rfl) ?_
          refine lv_iload hx hb dX5_writeLeaf_64 (lv_at hl 0 rfl) ?_
          refine lv_aload_n hx hb dX5_writeLeaf_66 rfl (lv_at hl 1 rfl) ?_
          refine g_X5_40 Cx hW (k := 157) (by decide) rfl (v := .ref (G.2.2.1 + 169)) (rf_157_6 iu_51) dX5_writeLeaf_67 ?_
          refine sBv (sV (As := [.int (iv k), .ref (G.2.2.1 + 169)]) (rest := []) (k := 157) Cx (v_X5_writePair l G u_51 (k := k) (v := 169) (L := (psT (fun k => mlt d so (n + k)) (tkn (tkn L (if so = 0 then wBo else wFa)) (nmT d.1)) (k - 1).toNat)) iu_51 rfl (by omega) (show Hd (bs u_51 169) from xu_51.2.2) (TXc.of hl41 (show u_51.1 160 1 = S41.1 160 1 from (fu_51 160 rfl).1 1) (show u_51.1 160 2 = S41.1 160 2 from (fu_51 160 rfl).1 2) (show u_51.2.1 161 = S41.2.1 161 from funext fun x => (fu_51 161 rfl).2.1 x))) (c_X5_108 Cx rfl rfl (rmk_ok (by omega) (by decide))) hW (by decide) rfl rfl rfl hl.1 rfl (Nat.le_of_ble_eq_true rfl) dX5_writeLeaf_70 ⟨Nat.le_of_ble_eq_true rfl, Nat.le_of_ble_eq_true rfl⟩) hL (fun u_56 H locs k_57 hW hL => ?_)
          obtain ⟨iu_56, fu_56, xu_56⟩ := k_57
          have F_58 := F_53.trans (fu_56.to (pB_sub rfl rfl))
          have F_59 := F_54.trans (fu_56.to (pB_sub rfl rfl))
          refine lv_iinc (v := iv (k + 1)) (lv' := [(4, .int (iv (k + 1))), (0, .ref (G.2.2.1 + 157)), (1, .ref (G.2.2.1 + 135)), (2, .int (iv vs)), (3, .int (iv so))]) hx hb dX5_writeLeaf_73 hl (k := 0) rfl ((Int32.ofInt_add _ _).symm) (by decide) rfl (fun ls hl => ?_)
          refine lv_goto (tgt := 41) hx hb dX5_writeLeaf_76 (by decide) ?_
          exact ih_41 u_56 (k + 1) _ _ _ (by omega) iu_56 F_58 F_59 (by omega) (TXc.eq (show TXc _ 160 30000 (prT (psT (fun k => mlt d so (n + k)) (tkn (tkn L (if so = 0 then wBo else wFa)) (nmT d.1)) (k - 1).toNat) k (mlt d so (vs + k))) from (TXc.eq xu_56 (by rw [(show bv u_51 169 = mlt d so (vs + k) from bv_55)]))) (by rw [show vs = n by omega]; exact (psT_s (by omega)).symm)) (DRc.of hD41 (show u_56.1 135 13 = S41.1 135 13 from ((fu_56 135 rfl).1 13).trans ((fu_51 135 rfl).1 13)) (show u_56.1 135 14 = S41.1 135 14 from ((fu_56 135 rfl).1 14).trans ((fu_51 135 rfl).1 14)) (show u_56.1 135 15 = S41.1 135 15 from ((fu_56 135 rfl).1 15).trans ((fu_51 135 rfl).1 15)) (show u_56.1 135 16 = S41.1 135 16 from ((fu_56 135 rfl).1 16).trans ((fu_51 135 rfl).1 16)) (show u_56.2.1 oc = S41.2.1 oc from funext fun x => ((fu_56 oc (pB_no (tau_ne (dic_t hoc) (rfl : tau 160 = .inl 10) (fun h => by cases h)) (ac_ne (dic_c hoc) (rfl : acode 161 = 2) (by decide)))).2.1 x).trans ((fu_51 oc (pB_no (tau_ne (dic_t hoc) (rfl : tau 169 = .inl 0) (fun h => by cases h)) (ac_ne (dic_c hoc) (rfl : acode 170 = 1) (by decide)))).2.1 x)) (show u_56.2.1 138 = S41.2.1 138 from funext fun x => ((fu_56 138 rfl).2.1 x).trans ((fu_51 138 rfl).2.1 x)) (show u_56.2.1 139 = S41.2.1 139 from funext fun x => ((fu_56 139 rfl).2.1 x).trans ((fu_51 139 rfl).2.1 x))) hW hL (lv_sub hl [0, 1, 2, 3, 4] rfl)
    exact loop_41 (_ + 1) u_38 1 _ _ _ (Nat.lt_succ_self _) iu_38 F_40 Fr.rf (by omega) (TXc.eq (show TXc _ 160 30000 (tkn (tkn L (strB.getD 1 [])) (nmT (d.1))) from (TXc.eq xu_38 (by rw [(show bv u_34 169 = d.1 from bv_37)]))) (by (first | rw [if_pos (by omega)] | rw [if_neg (by omega)]); rfl)) (DRc.of hDR (show u_38.1 135 13 = S.1 135 13 from ((fu_38 135 rfl).1 13).trans (((fu_34 135 rfl).1 13).trans ((fu_31 135 rfl).1 13))) (show u_38.1 135 14 = S.1 135 14 from ((fu_38 135 rfl).1 14).trans (((fu_34 135 rfl).1 14).trans ((fu_31 135 rfl).1 14))) (show u_38.1 135 15 = S.1 135 15 from ((fu_38 135 rfl).1 15).trans (((fu_34 135 rfl).1 15).trans ((fu_31 135 rfl).1 15))) (show u_38.1 135 16 = S.1 135 16 from ((fu_38 135 rfl).1 16).trans (((fu_34 135 rfl).1 16).trans ((fu_31 135 rfl).1 16))) (show u_38.2.1 oc = S.2.1 oc from funext fun x => ((fu_38 oc (pB_no (tau_ne (dic_t hoc) (rfl : tau 160 = .inl 10) (fun h => by cases h)) (ac_ne (dic_c hoc) (rfl : acode 161 = 2) (by decide)))).2.1 x).trans (((fu_34 oc (pB_no (tau_ne (dic_t hoc) (rfl : tau 169 = .inl 0) (fun h => by cases h)) (ac_ne (dic_c hoc) (rfl : acode 170 = 1) (by decide)))).2.1 x).trans ((fu_31 oc (pB_no (tau_ne (dic_t hoc) (rfl : tau 160 = .inl 10) (fun h => by cases h)) (ac_ne (dic_c hoc) (rfl : acode 161 = 2) (by decide)))).2.1 x))) (show u_38.2.1 138 = S.2.1 138 from funext fun x => ((fu_38 138 rfl).2.1 x).trans (((fu_34 138 rfl).2.1 x).trans ((fu_31 138 rfl).2.1 x))) (show u_38.2.1 139 = S.2.1 139 from funext fun x => ((fu_38 139 rfl).2.1 x).trans (((fu_34 139 rfl).2.1 x).trans ((fu_31 139 rfl).2.1 x)))) hW hL (lv_sub hl [0, 1, 2, 3, 4] rfl)

set_option maxRecDepth 100000 in
set_option maxHeartbeats 4000000 in
theorem v_X5_takePoint (l : Launch) (G : sG) (S : sS) {oc od : Nat} {n hw : Int} {d : dT} {L : List Int} {vs : Int} (hI : cX G S 0 0 0) (hdq : dcs G S oc od) (hDR : Hd (DRc S oc n hw d)) (hT : Hd (TXc S 160 30000 L)) (hvs : vs = n ∧ 0 ≤ n ∧ n ≤ 12) : Met l yX5_takePoint (.code yX5_takePoint cX5_takePoint 4 none :: tb) (rmk 4 0 0) (sPc G 294 S [.ref (G.2.2.1 + 157), .ref (G.2.2.1 + 135), .int (iv vs)]) (sQv G 294 (fun u => cX G u 0 0 0 ∧ Fr S u pGt ∧ (Hd (nv (u.2.1 162) 0 = d.2.1 0 0 ∧ nv (u.2.1 162) 104 = d.1 ∧ ∀ b, 1 ≤ b → b ≤ n → nv (u.2.1 162) (b * 8) = ptB d b)))) 0 0 (sF G) := by
  refine sEnter (by decide) (Nat.le_of_ble_eq_true rfl) ?_
  intro p e s m args below meth c Cx hr hlk hnm hW ls hl
  have Cx : sC G p m c cX5_takePoint 4 s args RX5 := Cx
  obtain ⟨hx, hb, hml, hown, hts⟩ := id Cx.1
  have hL : sL G [] := sL_nil
  have hl : lv_has ls 4 [(0, .ref (G.2.2.1 + 157)), (1, .ref (G.2.2.1 + 135)), (2, .int (iv vs))] := hl
  have hW0 := hW
  obtain ⟨hoc, hod, hcd, hec, hed⟩ := id hdq
  have hd13 := hDR.2.2.2.2.1; have hd14 := hDR.2.2.2.2.2.1; have hd15 := hDR.2.2.2.2.2.2.1; have hd16 := hDR.2.2.2.2.2.2.2; have hm40 : 0 ≤ S.1 135 14 ∧ S.1 135 14 ≤ 40 := hI.fi 135 14 2 (by decide) rfl; have hp13 : 0 ≤ S.1 135 15 ∧ S.1 135 15 ≤ 13 := hI.fi 135 15 2 (by decide) rfl
  refine lv_aload_n hx hb dX5_takePoint_0 rfl (lv_at hl 1 rfl) ?_
  refine lv_iconst (v := iv 0) hx hb dX5_takePoint_1 (by decide) ?_
  refine lv_iconst (v := iv 0) hx hb dX5_takePoint_2 (by decide) ?_
  refine lv_aload_n hx hb dX5_takePoint_3 rfl (lv_at hl 0 rfl) ?_
  refine g_X5_40 Cx hW (k := 157) (by decide) rfl (v := .ref (G.2.2.1 + 169)) (rf_157_6 hI) dX5_takePoint_4 ?_
  refine sBv (sV (As := [.int (iv 0), .int (iv 0), .ref (G.2.2.1 + 169)]) (rest := []) (k := 135) Cx (v_X2_number l G S (i := 0) (j := 0) (v := 169) (oc := oc) (od := od) (n := n) (hw := hw) (d := d) hI ⟨hoc, hod, (neD hcd), hec, hed⟩ hDR rfl (by omega) (by omega) (by omega)) (c_X5_72 Cx rfl rfl (rmk_ok (by omega) (by decide))) hW (by decide) rfl rfl rfl hl.1 rfl (Nat.le_of_ble_eq_true rfl) dX5_takePoint_7 ⟨Nat.le_of_ble_eq_true rfl, Nat.le_of_ble_eq_true rfl⟩) hL (fun u_1 H locs k_2 hW hL => ?_)
  obtain ⟨iu_1, fu_1, xu_1⟩ := k_2
  have F_3 := (Fr.rf : Fr S S pGt).trans (fu_1.to (pB_sub rfl rfl))
  have bv_4 : bv u_1 169 = d.2.1 0 0 := xu_1.2.1
  refine lv_aload_n hx hb dX5_takePoint_10 rfl (lv_at hl 0 rfl) ?_
  refine g_X5_40 Cx hW (k := 157) (by decide) rfl (v := .ref (G.2.2.1 + 169)) (rf_157_6 iu_1) dX5_takePoint_11 ?_
  refine lv_aload_n hx hb dX5_takePoint_14 rfl (lv_at hl 0 rfl) ?_
  refine g_X5_25 Cx hW (k := 157) (by decide) rfl (v := .ref (G.2.2.1 + 162)) (rf_157_2 iu_1) dX5_takePoint_15 ?_
  refine lv_iconst (v := iv 0) hx hb dX5_takePoint_18 (by decide) ?_
  have q_5 : 0 ≤ u_1.1 169 1 ∧ u_1.1 169 1 ≤ 32 := iu_1.fi 169 1 0 (by decide) rfl
  have q_6 : (-1) ≤ u_1.1 169 2 ∧ u_1.1 169 2 ≤ 1 := iu_1.fi 169 2 0 (by decide) rfl
  refine sBv (sV (As := [.ref (G.2.2.1 + 162), .int (iv 0)]) (rest := []) (k := 169) Cx (b_X0_save l G u_1 (o := 169) (k := 162) (a := 0) (N := 112) iu_1 rfl ⟨by decide, rfl, by decide, rfl, rfl, rfl⟩ (by omega) (show _ ≤ (7 : Int) ∧ (_ → _ ≤ (999999999 : Int)) from ⟨by omega, fun _ => by have := limbR iu_1 (rfl : tau 169 = .inl 0) 6; omega⟩) (fun q _ => by rcases q with q | q <;> exact absurd q (by decide))) (c_X5_76 Cx rfl rfl (rmk_ok (by omega) (by decide))) hW (by decide) rfl rfl rfl hl.1 rfl (Nat.le_of_ble_eq_true rfl) dX5_takePoint_19 ⟨Nat.le_of_ble_eq_true rfl, Nat.le_of_ble_eq_true rfl⟩) hL (fun u_7 H locs k_8 hW hL => ?_)
  obtain ⟨iu_7, fu_7, xu_7⟩ := k_8
  have F_9 := F_3.trans (fu_7.to (p1_sub rfl))
  refine lv_iconst (v := iv 1) hx hb dX5_takePoint_22 (by decide) ?_
  refine lv_istore_n (lv' := [(3, .int (iv 1)), (0, .ref (G.2.2.1 + 157)), (1, .ref (G.2.2.1 + 135)), (2, .int (iv vs))]) hx hb dX5_takePoint_23 rfl hl (by decide) rfl (fun ls hl => ?_)
  have loop_24 : ∀ (fuel : Nat) (S24 : sS) (j : Int) (H : Heap) (locs : List Loc) (ls : Array Slot), (13 - j).toNat < fuel → (cX G S24 0 0 0) → (Fr S S24 pGt) → (Fr u_7 S24 pGt) → (1 ≤ j ∧ j ≤ n + 1) → (Hd (nv (S24.2.1 162) 0 = d.2.1 0 0 ∧ ∀ b, 1 ≤ b → b < j → nv (S24.2.1 162) (b * 8) = ptB d b)) → (Hd (DRc S24 oc n hw d)) → sW G 294 S24 H → sL G locs → lv_has ls 4 [(3, .int (iv j)), (0, .ref (G.2.2.1 + 157)), (1, .ref (G.2.2.1 + 135)), (2, .int (iv vs))] → W p l e (rmk 4 0 0) s m args below meth c H locs 0 0 (MQ below (sQv G 294 (fun u => cX G u 0 0 0 ∧ Fr S u pGt ∧ (Hd (nv (u.2.1 162) 0 = d.2.1 0 0 ∧ nv (u.2.1 162) 104 = d.1 ∧ ∀ b, 1 ≤ b → b ≤ n → nv (u.2.1 162) (b * 8) = ptB d b)))) args s 0 0 (sF G)) (F0 m 24 ls []) := by
    intro fuel
    induction fuel with
    | zero => intro S24 j H locs ls hmeas hI24 hFm24 hL24_ hj hp24 hD24 hW hL hl; exact absurd hmeas (Nat.not_lt_zero _)
    | succ fuel ih_24 =>
      intro S24 j H locs ls hmeas hI24 hFm24 hL24_ hj hp24 hD24 hW hL hl
      have hD2414 := hD24.2.2.2.2.2.1; have hD2415 := hD24.2.2.2.2.2.2.1
      refine lv_iload_n hx hb dX5_takePoint_24 rfl (lv_at hl 0 rfl) ?_
      refine lv_iload_n hx hb dX5_takePoint_25 rfl (lv_at hl 3 rfl) ?_
      refine r_icmp_gt (tgt := 59) hx hb ⟨(by omega), (by omega)⟩ ⟨(by omega), (by omega)⟩ dX5_takePoint_26 (by decide) (fun c_10 => ?_) (fun c_10 => ?_)
      · refine lv_aload_n hx hb dX5_takePoint_59 rfl (lv_at hl 2 rfl) ?_
        refine lv_aload_n hx hb dX5_takePoint_60 rfl (lv_at hl 1 rfl) ?_
        refine g_X5_40 Cx hW (k := 157) (by decide) rfl (v := .ref (G.2.2.1 + 169)) (rf_157_6 hI24) dX5_takePoint_61 ?_
        refine sBv (sV (As := [.ref (G.2.2.1 + 169)]) (rest := []) (k := 135) Cx (v_X2_denominator l G S24 (v := 169) (oc := oc) (od := od) (n := n) (hw := hw) (d := d) hI24 ⟨hoc, hod, (neD hcd), ((((hL24_ 135 rfl).2.2.2 0).trans (((fu_7 135 rfl).2.2.2 0).trans ((fu_1 135 rfl).2.2.2 0))).trans hec), ((((hL24_ 135 rfl).2.2.2 1).trans (((fu_7 135 rfl).2.2.2 1).trans ((fu_1 135 rfl).2.2.2 1))).trans hed)⟩ hD24 rfl) (c_X5_84 Cx rfl rfl (rmk_ok (by omega) (by decide))) hW (by decide) rfl rfl rfl hl.1 rfl (Nat.le_of_ble_eq_true rfl) dX5_takePoint_64 ⟨Nat.le_of_ble_eq_true rfl, Nat.le_of_ble_eq_true rfl⟩) hL (fun u_11 H locs k_12 hW hL => ?_)
        obtain ⟨iu_11, fu_11, xu_11⟩ := k_12
        have F_13 := hFm24.trans (fu_11.to (pB_sub rfl rfl))
        have F_14 := hL24_.trans (fu_11.to (pB_sub rfl rfl))
        have bv_15 : bv u_11 169 = d.1 := xu_11.2.2.2.1.1
        refine lv_aload_n hx hb dX5_takePoint_67 rfl (lv_at hl 1 rfl) ?_
        refine g_X5_40 Cx hW (k := 157) (by decide) rfl (v := .ref (G.2.2.1 + 169)) (rf_157_6 iu_11) dX5_takePoint_68 ?_
        refine lv_aload_n hx hb dX5_takePoint_71 rfl (lv_at hl 1 rfl) ?_
        refine g_X5_25 Cx hW (k := 157) (by decide) rfl (v := .ref (G.2.2.1 + 162)) (rf_157_2 iu_11) dX5_takePoint_72 ?_
        refine lv_bipush (v := iv 104) hx hb dX5_takePoint_75 (by decide) ?_
        have q_16 : 0 ≤ u_11.1 169 1 ∧ u_11.1 169 1 ≤ 32 := iu_11.fi 169 1 0 (by decide) rfl
        have q_17 : (-1) ≤ u_11.1 169 2 ∧ u_11.1 169 2 ≤ 1 := iu_11.fi 169 2 0 (by decide) rfl
        refine sBv (sV (As := [.ref (G.2.2.1 + 162), .int (iv 104)]) (rest := []) (k := 169) Cx (b_X0_save l G u_11 (o := 169) (k := 162) (a := 104) (N := 112) iu_11 rfl ⟨by decide, rfl, by decide, rfl, rfl, rfl⟩ (by omega) (show _ ≤ (7 : Int) ∧ (_ → _ ≤ (999999999 : Int)) from ⟨by omega, fun _ => by have := limbR iu_11 (rfl : tau 169 = .inl 0) 6; omega⟩) (fun q _ => by rcases q with q | q <;> exact absurd q (by decide))) (c_X5_76 Cx rfl rfl (rmk_ok (by omega) (by decide))) hW (by decide) rfl rfl rfl hl.1 rfl (Nat.le_of_ble_eq_true rfl) dX5_takePoint_77 ⟨Nat.le_of_ble_eq_true rfl, Nat.le_of_ble_eq_true rfl⟩) hL (fun u_18 H locs k_19 hW hL => ?_)
        obtain ⟨iu_18, fu_18, xu_18⟩ := k_19
        have F_20 := F_13.trans (fu_18.to (p1_sub rfl))
        have F_21 := F_14.trans (fu_18.to (p1_sub rfl))
        exact sVret Cx hr hlk hW hL ⟨iu_18, F_20, ⟨by rw [nv_8 (f := u_11.2.1 162) (slot162 iu_11 0 (by omega) (by omega) (by omega)) (fun y y0 y1 => xu_18.2 y (by omega)), (show u_11.2.1 162 = S24.2.1 162 from funext fun x => (fu_11 162 rfl).2.1 x)]; exact hp24.1, (xu_18.1 (show Hd (bs u_11 169) from xu_11.2.2.2.1.2)).trans (show bv u_11 169 = d.1 from bv_15), fun b b0 b1 => by rw [nv_8 (f := u_11.2.1 162) (slot162 iu_11 (b * 8) (by omega) (by omega) (by omega)) (fun y y0 y1 => xu_18.2 y (by omega)), (show u_11.2.1 162 = S24.2.1 162 from funext fun x => (fu_11 162 rfl).2.1 x)]; exact hp24.2 b b0 (by omega)⟩⟩ dX5_takePoint_80
      · refine lv_aload_n hx hb dX5_takePoint_29 rfl (lv_at hl 2 rfl) ?_
        refine lv_iload_n hx hb dX5_takePoint_30 rfl (lv_at hl 0 rfl) ?_
        refine lv_aload_n hx hb dX5_takePoint_31 rfl (lv_at hl 1 rfl) ?_
        refine g_X5_40 Cx hW (k := 157) (by decide) rfl (v := .ref (G.2.2.1 + 169)) (rf_157_6 hI24) dX5_takePoint_32 ?_
        refine sBv (sV (As := [.int (iv j), .ref (G.2.2.1 + 169)]) (rest := []) (k := 135) Cx (v_X2_pointNumber l G S24 (k := j) (v := 169) (oc := oc) (od := od) (n := n) (hw := hw) (d := d) hI24 ⟨hoc, hod, (neD hcd), ((((hL24_ 135 rfl).2.2.2 0).trans (((fu_7 135 rfl).2.2.2 0).trans ((fu_1 135 rfl).2.2.2 0))).trans hec), ((((hL24_ 135 rfl).2.2.2 1).trans (((fu_7 135 rfl).2.2.2 1).trans ((fu_1 135 rfl).2.2.2 1))).trans hed)⟩ hD24 rfl (by omega)) (c_X5_80 Cx rfl rfl (rmk_ok (by omega) (by decide))) hW (by decide) rfl rfl rfl hl.1 rfl (Nat.le_of_ble_eq_true rfl) dX5_takePoint_35 ⟨Nat.le_of_ble_eq_true rfl, Nat.le_of_ble_eq_true rfl⟩) hL (fun u_22 H locs k_23 hW hL => ?_)
        obtain ⟨iu_22, fu_22, xu_22⟩ := k_23
        have F_24 := hFm24.trans (fu_22.to (pB_sub rfl rfl))
        have F_25 := hL24_.trans (fu_22.to (pB_sub rfl rfl))
        have bv_26 : bv u_22 169 = ptB d j := xu_22.2.1
        refine lv_aload_n hx hb dX5_takePoint_38 rfl (lv_at hl 1 rfl) ?_
        refine g_X5_40 Cx hW (k := 157) (by decide) rfl (v := .ref (G.2.2.1 + 169)) (rf_157_6 iu_22) dX5_takePoint_39 ?_
        refine lv_aload_n hx hb dX5_takePoint_42 rfl (lv_at hl 1 rfl) ?_
        refine g_X5_25 Cx hW (k := 157) (by decide) rfl (v := .ref (G.2.2.1 + 162)) (rf_157_2 iu_22) dX5_takePoint_43 ?_
        refine lv_iload_n hx hb dX5_takePoint_46 rfl (lv_at hl 0 rfl) ?_
        refine lv_bipush (v := iv 8) hx hb dX5_takePoint_47 (by decide) ?_
        refine r_imul hx hb dX5_takePoint_49 ?_
        have q_27 : 0 ≤ u_22.1 169 1 ∧ u_22.1 169 1 ≤ 32 := iu_22.fi 169 1 0 (by decide) rfl
        have q_28 : (-1) ≤ u_22.1 169 2 ∧ u_22.1 169 2 ≤ 1 := iu_22.fi 169 2 0 (by decide) rfl
        refine sBv (sV (As := [.ref (G.2.2.1 + 162), .int (iv (j * 8))]) (rest := []) (k := 169) Cx (b_X0_save l G u_22 (o := 169) (k := 162) (a := j * 8) (N := 112) iu_22 rfl ⟨by decide, rfl, by decide, rfl, rfl, rfl⟩ (by omega) (show _ ≤ (7 : Int) ∧ (_ → _ ≤ (999999999 : Int)) from ⟨by omega, fun _ => by have := limbR iu_22 (rfl : tau 169 = .inl 0) 6; omega⟩) (fun q _ => by rcases q with q | q <;> exact absurd q (by decide))) (c_X5_76 Cx rfl rfl (rmk_ok (by omega) (by decide))) hW (by decide) rfl rfl rfl hl.1 rfl (Nat.le_of_ble_eq_true rfl) dX5_takePoint_50 ⟨Nat.le_of_ble_eq_true rfl, Nat.le_of_ble_eq_true rfl⟩) hL (fun u_29 H locs k_30 hW hL => ?_)
        obtain ⟨iu_29, fu_29, xu_29⟩ := k_30
        have F_31 := F_24.trans (fu_29.to (p1_sub rfl))
        have F_32 := F_25.trans (fu_29.to (p1_sub rfl))
        refine lv_iinc (v := iv (j + 1)) (lv' := [(3, .int (iv (j + 1))), (0, .ref (G.2.2.1 + 157)), (1, .ref (G.2.2.1 + 135)), (2, .int (iv vs))]) hx hb dX5_takePoint_53 hl (k := 0) rfl ((Int32.ofInt_add _ _).symm) (by decide) rfl (fun ls hl => ?_)
        refine lv_goto (tgt := 24) hx hb dX5_takePoint_56 (by decide) ?_
        exact ih_24 u_29 (j + 1) _ _ _ (by omega) iu_29 F_31 F_32 (by omega) ⟨by rw [nv_8 (f := u_22.2.1 162) (slot162 iu_22 0 (by omega) (by omega) (by omega)) (fun y y0 y1 => xu_29.2 y (by omega)), (show u_22.2.1 162 = S24.2.1 162 from funext fun x => (fu_22 162 rfl).2.1 x)]; exact hp24.1, fun b b0 b1 => by by_cases q : b = j; (rw [q]; exact (xu_29.1 (show Hd (bs u_22 169) from xu_22.2.2)).trans (show bv u_22 169 = ptB d j from bv_26)); (rw [nv_8 (f := u_22.2.1 162) (slot162 iu_22 (b * 8) (by omega) (by omega) (by omega)) (fun y y0 y1 => xu_29.2 y (by omega)), (show u_22.2.1 162 = S24.2.1 162 from funext fun x => (fu_22 162 rfl).2.1 x)]; exact hp24.2 b b0 (by omega))⟩ (DRc.of hD24 (show u_29.1 135 13 = S24.1 135 13 from ((fu_29 135 rfl).1 13).trans ((fu_22 135 rfl).1 13)) (show u_29.1 135 14 = S24.1 135 14 from ((fu_29 135 rfl).1 14).trans ((fu_22 135 rfl).1 14)) (show u_29.1 135 15 = S24.1 135 15 from ((fu_29 135 rfl).1 15).trans ((fu_22 135 rfl).1 15)) (show u_29.1 135 16 = S24.1 135 16 from ((fu_29 135 rfl).1 16).trans ((fu_22 135 rfl).1 16)) (show u_29.2.1 oc = S24.2.1 oc from funext fun x => ((fu_29 oc (p1_no (tau_ne (dic_t hoc) (rfl : tau 162 = .inr (.int, 112)) (by decide)))).2.1 x).trans ((fu_22 oc (pB_no (tau_ne (dic_t hoc) (rfl : tau 169 = .inl 0) (fun h => by cases h)) (ac_ne (dic_c hoc) (rfl : acode 170 = 1) (by decide)))).2.1 x)) (show u_29.2.1 138 = S24.2.1 138 from funext fun x => ((fu_29 138 rfl).2.1 x).trans ((fu_22 138 rfl).2.1 x)) (show u_29.2.1 139 = S24.2.1 139 from funext fun x => ((fu_29 139 rfl).2.1 x).trans ((fu_22 139 rfl).2.1 x))) hW hL (lv_sub hl [0, 1, 2, 3] rfl)
  exact loop_24 (_ + 1) u_7 1 _ _ _ (Nat.lt_succ_self _) iu_7 F_9 Fr.rf (by omega) ⟨(xu_7.1 (show Hd (bs u_1 169) from xu_1.2.2)).trans (show bv u_1 169 = d.2.1 0 0 from bv_4), fun b b0 b1 => absurd b1 (by omega)⟩ (DRc.of hDR (show u_7.1 135 13 = S.1 135 13 from ((fu_7 135 rfl).1 13).trans ((fu_1 135 rfl).1 13)) (show u_7.1 135 14 = S.1 135 14 from ((fu_7 135 rfl).1 14).trans ((fu_1 135 rfl).1 14)) (show u_7.1 135 15 = S.1 135 15 from ((fu_7 135 rfl).1 15).trans ((fu_1 135 rfl).1 15)) (show u_7.1 135 16 = S.1 135 16 from ((fu_7 135 rfl).1 16).trans ((fu_1 135 rfl).1 16)) (show u_7.2.1 oc = S.2.1 oc from funext fun x => ((fu_7 oc (p1_no (tau_ne (dic_t hoc) (rfl : tau 162 = .inr (.int, 112)) (by decide)))).2.1 x).trans ((fu_1 oc (pB_no (tau_ne (dic_t hoc) (rfl : tau 169 = .inl 0) (fun h => by cases h)) (ac_ne (dic_c hoc) (rfl : acode 170 = 1) (by decide)))).2.1 x)) (show u_7.2.1 138 = S.2.1 138 from funext fun x => ((fu_7 138 rfl).2.1 x).trans ((fu_1 138 rfl).2.1 x)) (show u_7.2.1 139 = S.2.1 139 from funext fun x => ((fu_7 139 rfl).2.1 x).trans ((fu_1 139 rfl).2.1 x))) hW hL (lv_sub hl [0, 1, 2, 3] rfl)
