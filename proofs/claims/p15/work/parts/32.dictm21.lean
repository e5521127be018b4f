theorem tdivB {a b : Int} (h : 1 ≤ b) : (0 ≤ a → 0 ≤ a.tdiv b ∧ a.tdiv b ≤ a) ∧ (a ≤ 0 → a ≤ a.tdiv b ∧ a.tdiv b ≤ 0) := by
  have k : ∀ x : Int, 0 ≤ x → 0 ≤ x.tdiv b ∧ x.tdiv b ≤ x := fun x hx => by
    rw [Int.tdiv_eq_ediv_of_nonneg hx]
    exact ⟨Int.ediv_nonneg hx (by omega), Int.ediv_le_self _ hx⟩
  refine ⟨k a, fun q => ?_⟩
  have := k (-a) (by omega)
  rw [Int.neg_tdiv] at this
  omega
theorem mulT {t z M : Int} (h : -1 ≤ t ∧ t ≤ 1) (hz : -M ≤ z ∧ z ≤ M) : -M ≤ t * z ∧ t * z ≤ M := by
  have : t = -1 ∨ t = 0 ∨ t = 1 := by omega
  rcases this with rfl | rfl | rfl <;> omega
theorem mulB {a b A B : Int} (h1 : -A ≤ a ∧ a ≤ A) (h2 : -B ≤ b ∧ b ≤ B) : -(A * B) ≤ a * b ∧ a * b ≤ A * B := by
  have n1 : (a.natAbs : Int) ≤ A := by omega
  have n2 : (b.natAbs : Int) ≤ B := by omega
  have e : ((a * b).natAbs : Int) = (a.natAbs : Int) * (b.natAbs : Int) := by rw [Int.natAbs_mul]; exact Int.natCast_mul _ _
  have : (a.natAbs : Int) * (b.natAbs : Int) ≤ A * B := Int.mul_le_mul n1 n2 (by omega) (by omega)
  omega
section KP
variable {G : sG} {S : sS} {x y : Nat} {b : Int}
theorem cX.kA {i v : Int} (h : cX G S x y b) (hi : S.1 135 19 ≤ i) (hv : -2147483648 ≤ v ∧ v ≤ 2147483647) : cX G (uA S 140 i v) x y b := by
  refine ⟨⟨h.fi, h.ai.put hv, h.li⟩, h.2.1, ?_, ?_, h.ub, ?_⟩
  · intro o ho hx
    rw [uA_ne (fun q => by have := (big_row ho).2.1; rw [q.1] at this; revert this; decide)]
    exact h.nb o ho hx
  · intro k2 a m0 m1 m2 m3
    refine (h.ns k2 a m0 m1 m2 m3).cg (slotL7 _) (fun j j0 j1 => uA_ne (fun q => ?_))
    rw [q.1] at m2
    have : slotN 140 = 0 := rfl
    omega
  · obtain ⟨⟨n, hn⟩, hd⟩ := h.ko
    exact ⟨⟨n, hn.put (fun j j0 j1 => uA_ne (fun q => by have e : (uA S 140 i v).1 135 19 = S.1 135 19 := rfl; omega))⟩, by rw [uA_ne (fun q => absurd q.1 (by decide))]; exact hd.1, by rw [uA_ne (fun q => absurd q.1 (by decide))]; exact hd.2⟩
theorem cX.kC {k0 : Nat} {sp dp n : Int} (h : cX G S x y b) (hi : S.1 135 19 ≤ dp) (hr : ∀ j, -2147483648 ≤ S.2.1 k0 j ∧ S.2.1 k0 j ≤ 2147483647) : cX G (uC S k0 sp 140 dp n) x y b := by
  refine ⟨⟨h.fi, fun k j hk => ?_, h.li⟩, h.2.1, ?_, ?_, h.ub, ?_⟩
  · rw [uC_get]
    split
    · rename_i q
      rw [q.1]; exact hr _
    · exact h.ai k j hk
  · intro o ho hx
    rw [uC_get, if_neg (fun q => by have := (big_row ho).2.1; rw [q.1] at this; revert this; decide)]
    exact h.nb o ho hx
  · intro k2 a m0 m1 m2 m3
    refine (h.ns k2 a m0 m1 m2 m3).cg (slotL7 _) (fun j j0 j1 => if_neg (fun q => ?_))
    rw [q.1] at m2
    have : slotN 140 = 0 := rfl
    omega
  · obtain ⟨⟨n2, hn⟩, hd⟩ := h.ko
    exact ⟨⟨n2, hn.put (fun j j0 j1 => if_neg (fun q => by have e : (uC S k0 sp 140 dp n).1 135 19 = S.1 135 19 := rfl; omega))⟩, by rw [uC_get, if_neg (fun q => absurd q.1 (by decide))]; exact hd.1, by rw [uC_get, if_neg (fun q => absurd q.1 (by decide))]; exact hd.2⟩
/-- a new end of what is kept -/
theorem cX.kend {v : Int} (h : cX G S x y b) (hv : 0 ≤ v ∧ v ≤ 102220) (hk : ∃ n, KOn n (S.2.1 140) v) : cX G (uF S 135 19 v) x y b := by
  refine ⟨⟨h.fi.put (ci := 2) rfl hv, h.ai, h.li⟩, h.2.1, ?_, h.ns, ?_, ?_⟩
  · intro o ho hx
    rw [uF_ne (fun q => by rw [q.1] at ho; cases ho)]; exact h.nb o ho hx
  · intro q
    rw [uF_ne (by decide)] at q
    rw [uF_ne (by decide)]; exact h.ub q
  · obtain ⟨n, hn⟩ := hk
    exact ⟨⟨n, by rw [uF_on]; exact hn⟩, h.ko.2⟩
/-- what was kept comes back to the cells -/
theorem cX.rest {oc : Nat} {sp n : Int} (h : cX G S x 0 b) (m : dc oc) (hn : n % 112 = 0) (h0 : 0 ≤ S.2.1 140 sp) (hr : ∀ j, 0 ≤ j → j < n → -2147483648 ≤ S.2.1 140 (sp + j) ∧ S.2.1 140 (sp + j) ≤ 2147483647) (hs : ∀ a, a % 8 = 0 → 0 ≤ a → a + 7 < n → SlotOK (fun i => S.2.1 140 (sp + i)) a 6 999999999) : cX G (uC S 140 sp oc 0 n) x 0 b := by
  have ha := dic_a m
  refine ⟨⟨h.fi, fun k j hk => ?_, h.li⟩, h.2.1, ?_, ?_, h.ub, ?_⟩
  · rw [uC_get]
    split
    · rename_i q
      rw [q.1, dic_c m]
      have := hr (j - 0) (by omega) (by omega)
      exact this
    · exact h.ai k j hk
  · intro o ho hx
    rw [uC_get, if_neg (fun q => by have := (big_row ho).2.1; rw [q.1, dic_c m] at this; cases this)]
    exact h.nb o ho hx
  · intro k2 a m0 m1 m2 m3
    by_cases e : k2 = oc ∧ a < n
    · obtain ⟨e1, e2⟩ := e
      subst e1
      have s := hs a m0 m1 (by omega)
      have s2 : SlotOK ((uC S 140 sp k2 0 n).2.1 k2) a 6 999999999 := s.cg (by decide) (fun i i0 i1 => by rw [uC_get, if_pos ⟨rfl, by omega, by omega⟩, show sp + (i - 0) = sp + i by omega])
      exact dicI m s2
    · refine (h.ns k2 a m0 m1 m2 m3).cg (slotL7 _) (fun j j0 j1 => if_neg (fun q => ?_))
      exact e ⟨q.1, by omega⟩
  · obtain ⟨⟨n2, hn2⟩, hd⟩ := h.ko
    refine ⟨⟨n2, hn2.put (fun j j0 j1 => if_neg (fun q => by have := q.1; rcases m with e | e <;> omega))⟩, ?_, ?_⟩
    · rw [uC_get]; split
      · rw [show sp + ((0 : Int) - 0) = sp by omega]; exact h0
      · exact hd.1
    · rw [uC_get]; split
      · rw [show sp + ((0 : Int) - 0) = sp by omega]; exact h0
      · exact hd.2
/-- to a row of plain ints -/
theorem cX.plC {k0 k1 : Nat} {sp dp n : Int} (h : cX G S x y b) (hc : acode k1 = 0) (hr : ∀ j, dp ≤ j → j < dp + n → -2147483648 ≤ S.2.1 k0 (sp + (j - dp)) ∧ S.2.1 k0 (sp + (j - dp)) ≤ 2147483647) : cX G (uC S k0 sp k1 dp n) x y b := by
  refine ⟨⟨h.fi, fun k j hk => ?_, h.li⟩, h.2.1, ?_, ?_, h.ub, ?_⟩
  · rw [uC_get]
    split
    · rename_i q
      rw [q.1, hc]; exact hr j q.2.1 q.2.2
    · exact h.ai k j hk
  · intro o ho hx
    rw [uC_get, if_neg (fun q => by have := (big_row ho).2.1; rw [q.1, hc] at this; cases this)]
    exact h.nb o ho hx
  · intro k2 a m0 m1 m2 m3
    refine (h.ns k2 a m0 m1 m2 m3).cg (slotL7 _) (fun j j0 j1 => if_neg (fun q => ?_))
    rw [q.1, slotN0 (by rw [hc]; decide)] at m2
    omega
  · obtain ⟨⟨n2, hn⟩, hd⟩ := h.ko
    exact ⟨⟨n2, hn.put (fun j j0 j1 => if_neg (fun q => by rw [← q.1] at hc; revert hc; decide))⟩, by rw [uC_get, if_neg (fun q => by rw [← q.1] at hc; revert hc; decide)]; exact hd.1, by rw [uC_get, if_neg (fun q => by rw [← q.1] at hc; revert hc; decide)]; exact hd.2⟩
end KP
/-- a kept dictionary more -/
theorem KOn.more {n : Nat} {f g : Int → Int} {e r p q : Int} (h : KOn n f e) (he : 0 ≤ e) (hr : 0 ≤ r ∧ r ≤ 40) (hp : 0 ≤ p ∧ p ≤ 13) (hq : -1 ≤ q ∧ q ≤ 40) (hlow : ∀ i, 0 ≤ i → i < e → g i = f i) (hrng : ∀ i, -2147483648 ≤ g i ∧ g i ≤ 2147483647) (h3 : g (e + (r + 3) * 112 + r + p) = q) (h2 : g (e + (r + 3) * 112 + r + p + 1) = r) (h1 : g (e + (r + 3) * 112 + r + p + 2) = p) (h0 : 0 ≤ g e) (hs : ∀ a, a % 8 = 0 → 0 ≤ a → a + 7 < (r + 3) * 112 → SlotOK (fun i => g (e + i)) a 6 999999999) : KOn (n + 1) g (e + (r + 3) * 112 + r + p + 3) := by
  have a3 : g (e + (r + 3) * 112 + r + p + 3 - 3) = q := by rw [← h3]; congr 1; omega
  have a2 : g (e + (r + 3) * 112 + r + p + 3 - 2) = r := by rw [← h2]; congr 1; omega
  have a1 : g (e + (r + 3) * 112 + r + p + 3 - 1) = p := by rw [← h1]; congr 1; omega
  refine Or.inr ⟨by omega, by rw [a2]; exact hr, by rw [a1]; exact hp, by rw [a3]; exact hq, by rw [a1, a2]; omega, ?_, fun i _ _ => hrng i, ?_, ?_⟩
  · rw [a1, a2, show e + (r + 3) * 112 + r + p + 3 - 3 - p - r - (r + 3) * 112 = e by omega]; exact h0
  · rw [a1, a2, show e + (r + 3) * 112 + r + p + 3 - 3 - p - r - (r + 3) * 112 = e by omega]; exact hs
  · rw [a1, a2, show e + (r + 3) * 112 + r + p + 3 - 3 - p - r - (r + 3) * 112 = e by omega]; exact h.put hlow
set_option maxRecDepth 100000 in
set_option maxHeartbeats 4000000 in
theorem s_X2_isSmall (l : Launch) (G : sG) (S : sS) {oc od : Nat} {a : Int} (hI : cX G S 0 0 0) (hdq : dcs G S oc od) (ha : a % 8 = 0 ∧ 0 ≤ a ∧ a + 7 < 4816) : Met l yX2_isSmall (.code yX2_isSmall cX2_isSmall 2 (some .boolean) :: tb) (rmk 1 0 0) (sPc G 294 S [.ref (G.2.2.1 + 135), .int (iv a)]) (sQi G 294 (fun r u => u = S ∧ (0 ≤ r ∧ r ≤ 1 ∧ (r = 1 → -1 ≤ S.2.1 oc a ∧ S.2.1 oc a ≤ 1)))) 0 0 (sF G) := by
  refine sEnter (by decide) (Nat.le_of_ble_eq_true rfl) ?_
  intro p e s m args below meth c Cx hr hlk hnm hW ls hl
  have Cx : sC G p m c cX2_isSmall 2 s args RX2 := Cx
  obtain ⟨hx, hb, hml, hown, hts⟩ := id Cx.1
  have hL : sL G [] := sL_nil
  have hl : lv_has ls 2 [(0, .ref (G.2.2.1 + 135)), (1, .int (iv a))] := hl
  have hW0 := hW
  obtain ⟨hoc, hod, hcd, hec, hed⟩ := id hdq
  refine lv_aload_n hx hb dX2_isSmall_0 rfl (lv_at hl 0 rfl) ?_
  refine g_X2_13 Cx hW (k := 135) (by decide) rfl (v := .ref (G.2.2.1 + oc)) hec dX2_isSmall_1 ?_
  refine lv_iload_n hx hb dX2_isSmall_4 rfl (lv_at hl 1 rfl) ?_
  refine rIald Cx hW (k := oc) (dic_l hoc) (dic_t hoc) (by decide) (by omega) (by omega) dX2_isSmall_5 ?_
  have q_1 : (-2147483648) ≤ S.2.1 oc a ∧ S.2.1 oc a ≤ 2147483647 := sla_r (dic_a hoc) hI a 
  refine r_i (b := S.2.1 oc a) rfl ?_
  refine lv_iconst (v := iv (-1)) hx hb dX2_isSmall_6 (by decide) ?_
  refine r_icmp_lt (tgt := 24) hx hb ⟨(by omega), (by omega)⟩ ⟨(by omega), (by omega)⟩ dX2_isSmall_7 (by decide) (fun c_2 => ?_) (fun c_2 => ?_)
  · refine lv_iconst (v := iv 0) hx hb dX2_isSmall_24 (by decide) ?_
    exact sZret Cx hr hlk hW hL (by omega) ⟨rfl, (by omega)⟩ dX2_isSmall_25
  · refine lv_aload_n hx hb dX2_isSmall_10 rfl (lv_at hl 0 rfl) ?_
    refine g_X2_13 Cx hW (k := 135) (by decide) rfl (v := .ref (G.2.2.1 + oc)) hec dX2_isSmall_11 ?_
    refine lv_iload_n hx hb dX2_isSmall_14 rfl (lv_at hl 1 rfl) ?_
    refine rIald Cx hW (k := oc) (dic_l hoc) (dic_t hoc) (by decide) (by omega) (by omega) dX2_isSmall_15 ?_
    refine r_i (b := S.2.1 oc a) rfl ?_
    refine lv_iconst (v := iv 1) hx hb dX2_isSmall_16 (by decide) ?_
    refine r_icmp_gt (tgt := 24) hx hb ⟨(by omega), (by omega)⟩ ⟨(by omega), (by omega)⟩ dX2_isSmall_17 (by decide) (fun c_3 => ?_) (fun c_3 => ?_)
    · refine lv_iconst (v := iv 0) hx hb dX2_isSmall_24 (by decide) ?_
      exact sZret Cx hr hlk hW hL (by omega) ⟨rfl, (by omega)⟩ dX2_isSmall_25
    · refine lv_iconst (v := iv 1) hx hb dX2_isSmall_20 (by decide) ?_
      refine lv_goto (tgt := 25) hx hb dX2_isSmall_21 (by decide) ?_
      exact sZret Cx hr hlk hW hL (by omega) ⟨rfl, (by omega)⟩ dX2_isSmall_25

set_option maxRecDepth 100000 in
set_option maxHeartbeats 4000000 in
theorem s_X2_small (l : Launch) (G : sG) (S : sS) {oc od : Nat} {a : Int} (hI : cX G S 0 0 0) (hdq : dcs G S oc od) (ha : a % 8 = 0 ∧ 0 ≤ a ∧ a + 7 < 4816) : Met l yX2_small (.code yX2_small cX2_small 2 (some .long) :: tb) (rmk 1 0 0) (sPc G 294 S [.ref (G.2.2.1 + 135), .int (iv a)]) (sQl G 294 (fun r u => u = S ∧ (-5999999994 ≤ r ∧ r ≤ 5999999994 ∧ (-1 ≤ S.2.1 oc a → S.2.1 oc a ≤ 1 → -999999999 ≤ r ∧ r ≤ 999999999)))) 0 0 (sF G) := by
  refine sEnter (by decide) (Nat.le_of_ble_eq_true rfl) ?_
  intro p e s m args below meth c Cx hr hlk hnm hW ls hl
  have Cx : sC G p m c cX2_small 2 s args RX2 := Cx
  obtain ⟨hx, hb, hml, hown, hts⟩ := id Cx.1
  have hL : sL G [] := sL_nil
  have hl : lv_has ls 2 [(0, .ref (G.2.2.1 + 135)), (1, .int (iv a))] := hl
  have hW0 := hW
  obtain ⟨hoc, hod, hcd, hec, hed⟩ := id hdq
  have hsl := dicS hI hoc ha
  have hsh := hsl.1
  have hsm := hsl.2.1 (a + 1) (by omega) (by omega)
  refine lv_aload_n hx hb dX2_small_0 rfl (lv_at hl 0 rfl) ?_
  refine g_X2_13 Cx hW (k := 135) (by decide) rfl (v := .ref (G.2.2.1 + oc)) hec dX2_small_1 ?_
  refine lv_iload_n hx hb dX2_small_4 rfl (lv_at hl 1 rfl) ?_
  refine rIald Cx hW (k := oc) (dic_l hoc) (dic_t hoc) (by decide) (by omega) (by omega) dX2_small_5 ?_
  have q_1 : (-2147483648) ≤ S.2.1 oc a ∧ S.2.1 oc a ≤ 2147483647 := sla_r (dic_a hoc) hI a 
  refine r_i (b := S.2.1 oc a) rfl ?_
  refine r_i2l hx hb ⟨(by omega), (by omega)⟩ dX2_small_6 ?_
  refine lv_aload_n hx hb dX2_small_7 rfl (lv_at hl 0 rfl) ?_
  refine g_X2_13 Cx hW (k := 135) (by decide) rfl (v := .ref (G.2.2.1 + oc)) hec dX2_small_8 ?_
  refine lv_iload_n hx hb dX2_small_11 rfl (lv_at hl 1 rfl) ?_
  refine lv_iconst (v := iv 1) hx hb dX2_small_12 (by decide) ?_
  refine r_iadd hx hb dX2_small_13 ?_
  refine rIald Cx hW (k := oc) (dic_l hoc) (dic_t hoc) (by decide) (by omega) (by omega) dX2_small_14 ?_
  have q_2 : (-2147483648) ≤ S.2.1 oc (a + 1) ∧ S.2.1 oc (a + 1) ≤ 2147483647 := sla_r (dic_a hoc) hI (a + 1) 
  refine r_i (b := S.2.1 oc (a + 1)) rfl ?_
  refine r_i2l hx hb ⟨(by omega), (by omega)⟩ dX2_small_15 ?_
  refine r_lmul hx hb dX2_small_16 ?_
  obtain ⟨zz, ezz⟩ : ∃ z : Int, z = (S.2.1 oc a) * (S.2.1 oc (a + 1)) := ⟨_, rfl⟩
  refine r_j (b := zz) ezz.symm ?_
  have hzz : -(6 * 999999999) ≤ zz ∧ zz ≤ 6 * 999999999 := by rw [ezz]; exact mulB (by omega) (by omega)
  have hz1 : -1 ≤ S.2.1 oc a → S.2.1 oc a ≤ 1 → -999999999 ≤ zz ∧ zz ≤ 999999999 := fun q1 q2 => by rw [ezz]; exact mulT ⟨q1, q2⟩ (by omega)
  exact sLret Cx hr hlk hW hL ⟨rfl, (by omega)⟩ dX2_small_17

set_option maxRecDepth 100000 in
set_option maxHeartbeats 4000000 in
theorem s_X2_floor (l : Launch) (G : sG) (S : sS) {i : Int} (hI : cX G S 0 0 0) (hi : -2 ≤ i ∧ i ≤ 40) : Met l yX2_floor (.code yX2_floor cX2_floor 3 none :: tb) (rmk 5 0 0) (sPc G 294 S [.ref (G.2.2.1 + 135), .int (iv i), .ref (G.2.2.1 + 181)]) (sQv G 294 (fun u => cX G u 0 0 0 ∧ Fr S u pN ∧ (u.1 181 1 ≤ 7 ∧ Hd (u.1 181 1 = 7 → u.2.1 182 6 ≤ 1)))) 0 0 (sF G) := by
  refine sEnter (by decide) (Nat.le_of_ble_eq_true rfl) ?_
  intro p e s m args below meth c Cx hr hlk hnm hW ls hl
  have Cx : sC G p m c cX2_floor 3 s args RX2 := Cx
  obtain ⟨hx, hb, hml, hown, hts⟩ := id Cx.1
  have hL : sL G [] := sL_nil
  have hl : lv_has ls 3 [(0, .ref (G.2.2.1 + 135)), (1, .int (iv i)), (2, .ref (G.2.2.1 + 181))] := hl
  have hW0 := hW
  refine lv_aload_n hx hb dX2_floor_0 rfl (lv_at hl 0 rfl) ?_
  refine lv_aload_n hx hb dX2_floor_1 rfl (lv_at hl 0 rfl) ?_
  refine g_X2_35 Cx hW (k := 135) (by decide) rfl (v := .ref (G.2.2.1 + 143)) (rf_135_6 hI) dX2_floor_2 ?_
  refine sBv (sV (As := [.ref (G.2.2.1 + 143)]) (rest := []) (k := 135) Cx (s_X2_denominator l G S (v := 143) hI rfl) (c_X2_121 Cx rfl rfl (rmk_ok (by omega) (by decide))) hW (by decide) rfl rfl rfl hl.1 rfl (Nat.le_of_ble_eq_true rfl) dX2_floor_5 ⟨Nat.le_of_ble_eq_true rfl, Nat.le_of_ble_eq_true rfl⟩) hL (fun u_1 H locs k_2 hW hL => ?_)
  obtain ⟨iu_1, fu_1, xu_1⟩ := k_2
  have F_3 := (Fr.rf : Fr S S pN).trans (fu_1.to (pB_sub rfl rfl))
  refine lv_aload_n hx hb dX2_floor_8 rfl (lv_at hl 0 rfl) ?_
  refine g_X2_38 Cx hW (k := 135) (by decide) rfl (v := .ref (G.2.2.1 + 145)) (rf_135_7 iu_1) dX2_floor_9 ?_
  refine lv_aload_n hx hb dX2_floor_12 rfl (lv_at hl 0 rfl) ?_
  obtain ⟨o_4, o_5, mo_4, mo_5, no_4, eo_4, eo_5⟩ := rm_135 hI
  refine g_X2_13 Cx hW (k := 135) (by decide) rfl (v := .ref (G.2.2.1 + o_4)) (((fu_1 135 rfl).2.2.2 0).trans eo_4) dX2_floor_13 ?_
  refine lv_iload_n hx hb dX2_floor_16 rfl (lv_at hl 1 rfl) ?_
  refine lv_iconst (v := iv 0) hx hb dX2_floor_17 (by decide) ?_
  refine sBi (sSt (As := [.int (iv i), .int (iv 0)]) (rest := [.ref (G.2.2.1 + o_4), .ref (G.2.2.1 + 145)]) Cx (s_X2_at l G u_1 (i := i) (j := 0) (by omega) (by omega)) (c_X2_77 Cx rfl rfl (rmk_ok (by omega) (by decide))) hW rfl hl.1 rfl (Nat.le_of_ble_eq_true rfl) dX2_floor_18 ⟨Nat.le_of_ble_eq_true rfl, Nat.le_of_ble_eq_true rfl⟩) hL (fun r_8 u_6 H locs k_7 hW hL => ?_)
  obtain ⟨eu_6, xu_6⟩ := k_7
  rw [eu_6] at hW
  refine sBv (sV (As := [.ref (G.2.2.1 + o_4), .int (iv r_8)]) (rest := []) (k := 145) Cx (s_X0_load l G u_1 (o := 145) (k := o_4) (a := r_8) (N := 4816) iu_1 rfl (dic_a mo_4) (by omega)) (c_X2_106 Cx rfl rfl (rmk_ok (by omega) (by decide))) hW (by decide) rfl rfl rfl hl.1 rfl (Nat.le_of_ble_eq_true rfl) dX2_floor_21 ⟨Nat.le_of_ble_eq_true rfl, Nat.le_of_ble_eq_true rfl⟩) hL (fun u_9 H locs k_10 hW hL => ?_)
  obtain ⟨iu_9, fu_9, xu_9⟩ := k_10
  have F_11 := F_3.trans (fu_9.to (pB_sub rfl rfl))
  have yu_9 : u_9.1 145 1 ≤ 6 := by have e := xu_9.1; rw [dic_L mo_4] at e; exact e
  refine lv_aload_n hx hb dX2_floor_24 rfl (lv_at hl 0 rfl) ?_
  refine g_X2_38 Cx hW (k := 135) (by decide) rfl (v := .ref (G.2.2.1 + 145)) (rf_135_7 iu_9) dX2_floor_25 ?_
  refine lv_aload_n hx hb dX2_floor_28 rfl (lv_at hl 0 rfl) ?_
  refine g_X2_35 Cx hW (k := 135) (by decide) rfl (v := .ref (G.2.2.1 + 143)) (rf_135_6 iu_9) dX2_floor_29 ?_
  refine lv_aload_n hx hb dX2_floor_32 rfl (lv_at hl 2 rfl) ?_
  refine lv_aload_n hx hb dX2_floor_33 rfl (lv_at hl 0 rfl) ?_
  refine g_X2_53 Cx hW (k := 135) (by decide) rfl (v := .ref (G.2.2.1 + 155)) (rf_135_12 iu_9) dX2_floor_34 ?_
  have q_12 : 0 ≤ u_9.1 145 1 ∧ u_9.1 145 1 ≤ 32 := iu_9.fi 145 1 0 (by decide) rfl
  have q_13 : 0 ≤ u_1.1 143 1 ∧ u_1.1 143 1 ≤ 32 := iu_1.fi 143 1 0 (by decide) rfl
  have lk_14 : u_9.1 143 1 = u_1.1 143 1 := (fu_9 143 rfl).1 1
  have q_15 : (-1) ≤ u_9.1 145 2 ∧ u_9.1 145 2 ≤ 1 := iu_9.fi 145 2 0 (by decide) rfl
  have q_16 : (-1) ≤ u_1.1 143 2 ∧ u_1.1 143 2 ≤ 1 := iu_1.fi 143 2 0 (by decide) rfl
  have lk_17 : u_9.1 143 2 = u_1.1 143 2 := (fu_9 143 rfl).1 2
  refine sBv (sV (As := [.ref (G.2.2.1 + 143), .ref (G.2.2.1 + 181), .ref (G.2.2.1 + 155)]) (rest := []) (k := 145) Cx (s_X0_divide l G u_9 (o := 145) (b := 143) (q := 181) (h := 155) (n := 6) iu_9 rfl rfl rfl rfl (show (145 : Nat) ≠ 143 by decide) (show (145 : Nat) ≠ 181 by decide) (show (145 : Nat) ≠ 155 by decide) (show (143 : Nat) ≠ 181 by decide) (show (143 : Nat) ≠ 155 by decide) (show (181 : Nat) ≠ 155 by decide) (by omega)) (c_X2_141 Cx rfl rfl (rmk_ok (by omega) (by decide))) hW (by decide) rfl rfl rfl hl.1 rfl (Nat.le_of_ble_eq_true rfl) dX2_floor_37 ⟨Nat.le_of_ble_eq_true rfl, Nat.le_of_ble_eq_true rfl⟩) hL (fun u_18 H locs k_19 hW hL => ?_)
  obtain ⟨iu_18, fu_18, xu_18⟩ := k_19
  have F_20 := F_11.trans (fu_18.to (pD_sub (pB_sub rfl rfl) (pB_sub rfl rfl) (pB_sub rfl rfl)))
  have hq6 : Hd (u_18.1 181 1 = 7 → u_18.2.1 182 6 ≤ 1) := xu_18.2.2.1
  have q_21 : 0 ≤ u_18.1 181 1 ∧ u_18.1 181 1 ≤ 32 := iu_18.fi 181 1 0 (by decide) rfl
  exact sVret Cx hr hlk hW hL ⟨iu_18, F_20, ⟨by omega, hq6⟩⟩ dX2_floor_40

set_option maxRecDepth 100000 in
set_option maxHeartbeats 4000000 in
theorem s_X2_remainder_147 (l : Launch) (G : sG) (S : sS)  (hI : cX G S 0 0 0) (hc : S.1 147 1 ≤ 7) : Met l yX2_remainder (.code yX2_remainder cX2_remainder 2 none :: tb) (rmk 5 0 0) (sPc G 294 S [.ref (G.2.2.1 + 135), .ref (G.2.2.1 + 147)]) (sQv G 294 (fun u => cX G u 0 0 0 ∧ Fr S u (pD4 147) ∧ ((S.1 147 1 ≤ 6 → u.1 147 1 ≤ 6) ∧ u.1 147 1 ≤ 7 ∧ u.1 143 1 ≤ 6 ∧ 0 ≤ u.1 143 2 ∧ (0 < u.1 143 2 → 0 ≤ u.1 147 2)))) 0 0 (sF G) := by
  refine sEnter (by decide) (Nat.le_of_ble_eq_true rfl) ?_
  intro p e s m args below meth c Cx hr hlk hnm hW ls hl
  have Cx : sC G p m c cX2_remainder 2 s args RX2 := Cx
  obtain ⟨hx, hb, hml, hown, hts⟩ := id Cx.1
  have hL : sL G [] := sL_nil
  have hl : lv_has ls 2 [(0, .ref (G.2.2.1 + 135)), (1, .ref (G.2.2.1 + 147))] := hl
  have hW0 := hW
  refine lv_aload_n hx hb dX2_remainder_0 rfl (lv_at hl 0 rfl) ?_
  refine lv_aload_n hx hb dX2_remainder_1 rfl (lv_at hl 0 rfl) ?_
  refine g_X2_35 Cx hW (k := 135) (by decide) rfl (v := .ref (G.2.2.1 + 143)) (rf_135_6 hI) dX2_remainder_2 ?_
  refine sBv (sV (As := [.ref (G.2.2.1 + 143)]) (rest := []) (k := 135) Cx (s_X2_denominator l G S (v := 143) hI rfl) (c_X2_121 Cx rfl rfl (rmk_ok (by omega) (by decide))) hW (by decide) rfl rfl rfl hl.1 rfl (Nat.le_of_ble_eq_true rfl) dX2_remainder_5 ⟨Nat.le_of_ble_eq_true rfl, Nat.le_of_ble_eq_true rfl⟩) hL (fun u_1 H locs k_2 hW hL => ?_)
  obtain ⟨iu_1, fu_1, xu_1⟩ := k_2
  have F_3 := (Fr.rf : Fr S S (pD4 147)).trans (fu_1.to (pB_sub rfl rfl))
  refine lv_aload_n hx hb dX2_remainder_8 rfl (lv_at hl 1 rfl) ?_
  refine lv_aload_n hx hb dX2_remainder_9 rfl (lv_at hl 0 rfl) ?_
  refine g_X2_35 Cx hW (k := 135) (by decide) rfl (v := .ref (G.2.2.1 + 143)) (rf_135_6 iu_1) dX2_remainder_10 ?_
  refine lv_aload_n hx hb dX2_remainder_13 rfl (lv_at hl 0 rfl) ?_
  refine g_X2_50 Cx hW (k := 135) (by decide) rfl (v := .ref (G.2.2.1 + 153)) (rf_135_11 iu_1) dX2_remainder_14 ?_
  refine lv_aload_n hx hb dX2_remainder_17 rfl (lv_at hl 0 rfl) ?_
  refine g_X2_53 Cx hW (k := 135) (by decide) rfl (v := .ref (G.2.2.1 + 155)) (rf_135_12 iu_1) dX2_remainder_18 ?_
  have q_4 : 0 ≤ S.1 147 1 ∧ S.1 147 1 ≤ 32 := hI.fi 147 1 0 (by decide) rfl
  have lk_5 : u_1.1 147 1 = S.1 147 1 := (fu_1 147 rfl).1 1
  have q_6 : 0 ≤ u_1.1 143 1 ∧ u_1.1 143 1 ≤ 32 := iu_1.fi 143 1 0 (by decide) rfl
  have q_7 : (-1) ≤ S.1 147 2 ∧ S.1 147 2 ≤ 1 := hI.fi 147 2 0 (by decide) rfl
  have lk_8 : u_1.1 147 2 = S.1 147 2 := (fu_1 147 rfl).1 2
  have q_9 : (-1) ≤ u_1.1 143 2 ∧ u_1.1 143 2 ≤ 1 := iu_1.fi 143 2 0 (by decide) rfl
  refine sBv (sV (As := [.ref (G.2.2.1 + 143), .ref (G.2.2.1 + 153), .ref (G.2.2.1 + 155)]) (rest := []) (k := 147) Cx (s_X0_divide l G u_1 (o := 147) (b := 143) (q := 153) (h := 155) (n := 7) iu_1 rfl rfl rfl rfl (show (147 : Nat) ≠ 143 by decide) (show (147 : Nat) ≠ 153 by decide) (show (147 : Nat) ≠ 155 by decide) (show (143 : Nat) ≠ 153 by decide) (show (143 : Nat) ≠ 155 by decide) (show (153 : Nat) ≠ 155 by decide) (by omega)) (c_X2_141 Cx rfl rfl (rmk_ok (by omega) (by decide))) hW (by decide) rfl rfl rfl hl.1 rfl (Nat.le_of_ble_eq_true rfl) dX2_remainder_21 ⟨Nat.le_of_ble_eq_true rfl, Nat.le_of_ble_eq_true rfl⟩) hL (fun u_10 H locs k_11 hW hL => ?_)
  obtain ⟨iu_10, fu_10, xu_10⟩ := k_11
  have F_12 := F_3.trans (fu_10.to (pD_sub (pB_sub rfl rfl) (pB_sub rfl rfl) (pB_sub rfl rfl)))
  have q_13 : 0 ≤ u_10.1 147 1 ∧ u_10.1 147 1 ≤ 32 := iu_10.fi 147 1 0 (by decide) rfl
  have lk_14 : u_10.1 143 1 = u_1.1 143 1 := (fu_10 143 rfl).1 1
  have lk_15 : u_10.1 143 2 = u_1.1 143 2 := (fu_10 143 rfl).1 2
  have q_16 : (-1) ≤ u_10.1 147 2 ∧ u_10.1 147 2 ≤ 1 := iu_10.fi 147 2 0 (by decide) rfl
  exact sVret Cx hr hlk hW hL ⟨iu_10, F_12, (by omega)⟩ dX2_remainder_24

set_option maxRecDepth 100000 in
set_option maxHeartbeats 4000000 in
theorem s_X2_remainder_169 (l : Launch) (G : sG) (S : sS)  (hI : cX G S 0 0 0) (hc : S.1 169 1 ≤ 7) : Met l yX2_remainder (.code yX2_remainder cX2_remainder 2 none :: tb) (rmk 5 0 0) (sPc G 294 S [.ref (G.2.2.1 + 135), .ref (G.2.2.1 + 169)]) (sQv G 294 (fun u => cX G u 0 0 0 ∧ Fr S u (pD4 169) ∧ ((S.1 169 1 ≤ 6 → u.1 169 1 ≤ 6) ∧ u.1 169 1 ≤ 7 ∧ u.1 143 1 ≤ 6 ∧ 0 ≤ u.1 143 2 ∧ (0 < u.1 143 2 → 0 ≤ u.1 169 2)))) 0 0 (sF G) := by
  refine sEnter (by decide) (Nat.le_of_ble_eq_true rfl) ?_
  intro p e s m args below meth c Cx hr hlk hnm hW ls hl
  have Cx : sC G p m c cX2_remainder 2 s args RX2 := Cx
  obtain ⟨hx, hb, hml, hown, hts⟩ := id Cx.1
  have hL : sL G [] := sL_nil
  have hl : lv_has ls 2 [(0, .ref (G.2.2.1 + 135)), (1, .ref (G.2.2.1 + 169))] := hl
  have hW0 := hW
  refine lv_aload_n hx hb dX2_remainder_0 rfl (lv_at hl 0 rfl) ?_
  refine lv_aload_n hx hb dX2_remainder_1 rfl (lv_at hl 0 rfl) ?_
  refine g_X2_35 Cx hW (k := 135) (by decide) rfl (v := .ref (G.2.2.1 + 143)) (rf_135_6 hI) dX2_remainder_2 ?_
  refine sBv (sV (As := [.ref (G.2.2.1 + 143)]) (rest := []) (k := 135) Cx (s_X2_denominator l G S (v := 143) hI rfl) (c_X2_121 Cx rfl rfl (rmk_ok (by omega) (by decide))) hW (by decide) rfl rfl rfl hl.1 rfl (Nat.le_of_ble_eq_true rfl) dX2_remainder_5 ⟨Nat.le_of_ble_eq_true rfl, Nat.le_of_ble_eq_true rfl⟩) hL (fun u_1 H locs k_2 hW hL => ?_)
  obtain ⟨iu_1, fu_1, xu_1⟩ := k_2
  have F_3 := (Fr.rf : Fr S S (pD4 169)).trans (fu_1.to (pB_sub rfl rfl))
  refine lv_aload_n hx hb dX2_remainder_8 rfl (lv_at hl 1 rfl) ?_
  refine lv_aload_n hx hb dX2_remainder_9 rfl (lv_at hl 0 rfl) ?_
  refine g_X2_35 Cx hW (k := 135) (by decide) rfl (v := .ref (G.2.2.1 + 143)) (rf_135_6 iu_1) dX2_remainder_10 ?_
  refine lv_aload_n hx hb dX2_remainder_13 rfl (lv_at hl 0 rfl) ?_
  refine g_X2_50 Cx hW (k := 135) (by decide) rfl (v := .ref (G.2.2.1 + 153)) (rf_135_11 iu_1) dX2_remainder_14 ?_
  refine lv_aload_n hx hb dX2_remainder_17 rfl (lv_at hl 0 rfl) ?_
  refine g_X2_53 Cx hW (k := 135) (by decide) rfl (v := .ref (G.2.2.1 + 155)) (rf_135_12 iu_1) dX2_remainder_18 ?_
  have q_4 : 0 ≤ S.1 169 1 ∧ S.1 169 1 ≤ 32 := hI.fi 169 1 0 (by decide) rfl
  have lk_5 : u_1.1 169 1 = S.1 169 1 := (fu_1 169 rfl).1 1
  have q_6 : 0 ≤ u_1.1 143 1 ∧ u_1.1 143 1 ≤ 32 := iu_1.fi 143 1 0 (by decide) rfl
  have q_7 : (-1) ≤ S.1 169 2 ∧ S.1 169 2 ≤ 1 := hI.fi 169 2 0 (by decide) rfl
  have lk_8 : u_1.1 169 2 = S.1 169 2 := (fu_1 169 rfl).1 2
  have q_9 : (-1) ≤ u_1.1 143 2 ∧ u_1.1 143 2 ≤ 1 := iu_1.fi 143 2 0 (by decide) rfl
  refine sBv (sV (As := [.ref (G.2.2.1 + 143), .ref (G.2.2.1 + 153), .ref (G.2.2.1 + 155)]) (rest := []) (k := 169) Cx (s_X0_divide l G u_1 (o := 169) (b := 143) (q := 153) (h := 155) (n := 7) iu_1 rfl rfl rfl rfl (show (169 : Nat) ≠ 143 by decide) (show (169 : Nat) ≠ 153 by decide) (show (169 : Nat) ≠ 155 by decide) (show (143 : Nat) ≠ 153 by decide) (show (143 : Nat) ≠ 155 by decide) (show (153 : Nat) ≠ 155 by decide) (by omega)) (c_X2_141 Cx rfl rfl (rmk_ok (by omega) (by decide))) hW (by decide) rfl rfl rfl hl.1 rfl (Nat.le_of_ble_eq_true rfl) dX2_remainder_21 ⟨Nat.le_of_ble_eq_true rfl, Nat.le_of_ble_eq_true rfl⟩) hL (fun u_10 H locs k_11 hW hL => ?_)
  obtain ⟨iu_10, fu_10, xu_10⟩ := k_11
  have F_12 := F_3.trans (fu_10.to (pD_sub (pB_sub rfl rfl) (pB_sub rfl rfl) (pB_sub rfl rfl)))
  have q_13 : 0 ≤ u_10.1 169 1 ∧ u_10.1 169 1 ≤ 32 := iu_10.fi 169 1 0 (by decide) rfl
  have lk_14 : u_10.1 143 1 = u_1.1 143 1 := (fu_10 143 rfl).1 1
  have lk_15 : u_10.1 143 2 = u_1.1 143 2 := (fu_10 143 rfl).1 2
  have q_16 : (-1) ≤ u_10.1 169 2 ∧ u_10.1 169 2 ≤ 1 := iu_10.fi 169 2 0 (by decide) rfl
  exact sVret Cx hr hlk hW hL ⟨iu_10, F_12, (by omega)⟩ dX2_remainder_24

set_option maxRecDepth 100000 in
set_option maxHeartbeats 4000000 in
theorem s_X2_brokenRow (l : Launch) (G : sG) (S : sS) {md : Nat} (hI : cX G S 0 0 0) (hm2 : mdl md) : Met l yX2_brokenRow (.code yX2_brokenRow cX2_brokenRow 4 (some .int) :: tb) (rmk 5 0 0) (sPc G 294 S [.ref (G.2.2.1 + 135), .ref (G.2.2.1 + md)]) (sQi G 294 (fun r u => cX G u 0 0 0 ∧ Fr S u pN ∧ (0 ≤ r ∧ r ≤ 40))) 0 0 (sF G) := by
  refine sEnter (by decide) (Nat.le_of_ble_eq_true rfl) ?_
  intro p e s m args below meth c Cx hr hlk hnm hW ls hl
  have Cx : sC G p m c cX2_brokenRow 4 s args RX2 := Cx
  obtain ⟨hx, hb, hml, hown, hts⟩ := id Cx.1
  have hL : sL G [] := sL_nil
  have hl : lv_has ls 4 [(0, .ref (G.2.2.1 + 135)), (1, .ref (G.2.2.1 + md))] := hl
  have hW0 := hW
  refine lv_aload_n hx hb dX2_brokenRow_0 rfl (lv_at hl 0 rfl) ?_
  refine lv_aload_n hx hb dX2_brokenRow_1 rfl (lv_at hl 0 rfl) ?_
  refine g_X2_35 Cx hW (k := 135) (by decide) rfl (v := .ref (G.2.2.1 + 143)) (rf_135_6 hI) dX2_brokenRow_2 ?_
  refine sBv (sV (As := [.ref (G.2.2.1 + 143)]) (rest := []) (k := 135) Cx (s_X2_denominator l G S (v := 143) hI rfl) (c_X2_121 Cx rfl rfl (rmk_ok (by omega) (by decide))) hW (by decide) rfl rfl rfl hl.1 rfl (Nat.le_of_ble_eq_true rfl) dX2_brokenRow_5 ⟨Nat.le_of_ble_eq_true rfl, Nat.le_of_ble_eq_true rfl⟩) hL (fun u_1 H locs k_2 hW hL => ?_)
  obtain ⟨iu_1, fu_1, xu_1⟩ := k_2
  have F_3 := (Fr.rf : Fr S S pN).trans (fu_1.to (pB_sub rfl rfl))
  refine lv_iconst (v := iv 1) hx hb dX2_brokenRow_8 (by decide) ?_
  refine lv_istore_n (lv' := [(2, .int (iv 1)), (0, .ref (G.2.2.1 + 135)), (1, .ref (G.2.2.1 + md))]) hx hb dX2_brokenRow_9 rfl hl (by decide) rfl (fun ls hl => ?_)
  have loop_10 : ∀ (fuel : Nat) (S10 : sS) (k : Int) (H : Heap) (locs : List Loc) (ls : Array Slot), (13 - k).toNat < fuel → (cX G S10 0 0 0) → (Fr S S10 pN) → (Fr u_1 S10 pN) → (1 ≤ k ∧ k ≤ 13) → (S10.1 143 1 ≤ 30) → sW G 294 S10 H → sL G locs → lv_has ls 4 [(2, .int (iv k)), (0, .ref (G.2.2.1 + 135)), (1, .ref (G.2.2.1 + md))] → W p l e (rmk 5 0 0) s m args below meth c H locs 0 0 (MQ below (sQi G 294 (fun r u => cX G u 0 0 0 ∧ Fr S u pN ∧ (0 ≤ r ∧ r ≤ 40))) args s 0 0 (sF G)) (F0 m 10 ls []) := by
    intro fuel
    induction fuel with
    | zero => intro S10 k H locs ls hmeas hI10 hFm10 hL10_ hk hd6 hW hL hl; exact absurd hmeas (Nat.not_lt_zero _)
    | succ fuel ih_10 =>
      intro S10 k H locs ls hmeas hI10 hFm10 hL10_ hk hd6 hW hL hl
      refine lv_iload_n hx hb dX2_brokenRow_10 rfl (lv_at hl 0 rfl) ?_
      refine lv_aload_n hx hb dX2_brokenRow_11 rfl (lv_at hl 1 rfl) ?_
      have q_4 : 0 ≤ S.1 135 13 ∧ S.1 135 13 ≤ 12 := hI.fi 135 13 2 (by decide) rfl
      refine g_X2_62 Cx hW (k := 135) (by decide) rfl (v := S.1 135 13) (((hL10_ 135 rfl).1 13).trans ((fu_1 135 rfl).1 13)) dX2_brokenRow_12 ?_
      refine r_icmp_gt (tgt := 93) hx hb ⟨(by omega), (by omega)⟩ ⟨(by omega), (by omega)⟩ dX2_brokenRow_15 (by decide) (fun c_5 => ?_) (fun c_5 => ?_)
      · refine lv_iconst (v := iv 0) hx hb dX2_brokenRow_93 (by decide) ?_
        exact sIret Cx hr hlk hW hL ⟨hI10, hFm10, (by omega)⟩ dX2_brokenRow_94
      · refine lv_aload_n hx hb dX2_brokenRow_18 rfl (lv_at hl 2 rfl) ?_
        refine lv_iload_n hx hb dX2_brokenRow_19 rfl (lv_at hl 0 rfl) ?_
        have q_6 : 0 ≤ S.1 md 2 ∧ S.1 md 2 ≤ 12 := hI.fi md 2 3 (mdl_k hm2) hm2.1
        have lk_7 : S10.1 md 2 = S.1 md 2 := ((hL10_ md (mdl_pN hm2).1).1 2).trans ((fu_1 md (pB_no (tau_ne hm2.1 (rfl : tau 143 = .inl 0) (fun h => by cases h)) (tau_ne hm2.1 (rfl : tau 144 = .inr (.int, 32)) (fun h => by cases h)))).1 2)
        refine sBi (sV (As := [.int (iv k)]) (rest := []) (k := md) Cx (s_X3_isWhole l G S10 (o := md) (j := k) hI10 hm2 (by omega)) (c_X2_137 Cx rfl rfl (rmk_ok (by omega) (by decide))) hW (mdl_l hm2) hm2.1 rfl rfl hl.1 rfl (Nat.le_of_ble_eq_true rfl) dX2_brokenRow_20 ⟨Nat.le_of_ble_eq_true rfl, Nat.le_of_ble_eq_true rfl⟩) hL (fun r_10 u_8 H locs k_9 hW hL => ?_)
        obtain ⟨eu_8, xu_8⟩ := k_9
        rw [eu_8] at hW
        refine r_if_eq (tgt := 34) hx hb ⟨(by omega), (by omega)⟩ dX2_brokenRow_23 (by decide) (fun c_11 => ?_) (fun c_11 => ?_)
        · refine lv_iconst (v := iv (-1)) hx hb dX2_brokenRow_34 (by decide) ?_
          refine lv_istore_n (lv' := [(3, .int (iv ((-1)))), (2, .int (iv k)), (0, .ref (G.2.2.1 + 135)), (1, .ref (G.2.2.1 + md))]) hx hb dX2_brokenRow_35 rfl hl (by decide) rfl (fun ls hl => ?_)
          refine lv_iload_n hx hb dX2_brokenRow_36 rfl (lv_at hl 0 rfl) ?_
          refine r_if_le (tgt := 87) hx hb ⟨(by omega), (by omega)⟩ dX2_brokenRow_37 (by decide) (fun _ => ?_) (fun c => absurd (by omega) c)
          refine lv_iinc (v := iv (k + 1)) (lv' := [(2, .int (iv (k + 1))), (3, .int (iv ((-1)))), (0, .ref (G.2.2.1 + 135)), (1, .ref (G.2.2.1 + md))]) hx hb dX2_brokenRow_87 hl (k := 1) rfl ((Int32.ofInt_add _ _).symm) (by decide) rfl (fun ls hl => ?_)
          refine lv_goto (tgt := 10) hx hb dX2_brokenRow_90 (by decide) ?_
          have q_12 : 0 ≤ S10.1 143 1 ∧ S10.1 143 1 ≤ 32 := hI10.fi 143 1 0 (by decide) rfl
          exact ih_10 S10 (k + 1) _ _ _ (by omega) hI10 hFm10 hL10_ (by omega) (by omega) hW hL (lv_sub hl [0, 2, 3] rfl)
        · refine lv_aload_n hx hb dX2_brokenRow_26 rfl (lv_at hl 1 rfl) ?_
          refine lv_iload_n hx hb dX2_brokenRow_27 rfl (lv_at hl 0 rfl) ?_
          have q_13 : 0 ≤ S.1 135 14 ∧ S.1 135 14 ≤ 40 := hI.fi 135 14 2 (by decide) rfl
          have lk_14 : S10.1 135 14 = S.1 135 14 := ((hL10_ 135 rfl).1 14).trans ((fu_1 135 rfl).1 14)
          refine sBi (sV (As := [.int (iv k)]) (rest := []) (k := 135) Cx (s_X2_rowOf l G S10 (k := k) hI10 (by omega)) (c_X2_128 Cx rfl rfl (rmk_ok (by omega) (by decide))) hW (by decide) rfl rfl rfl hl.1 rfl (Nat.le_of_ble_eq_true rfl) dX2_brokenRow_28 ⟨Nat.le_of_ble_eq_true rfl, Nat.le_of_ble_eq_true rfl⟩) hL (fun r_17 u_15 H locs k_16 hW hL => ?_)
          obtain ⟨eu_15, xu_15⟩ := k_16
          rw [eu_15] at hW
          refine lv_goto (tgt := 35) hx hb dX2_brokenRow_31 (by decide) ?_
          refine lv_istore_n (lv' := [(3, .int (iv r_17)), (2, .int (iv k)), (0, .ref (G.2.2.1 + 135)), (1, .ref (G.2.2.1 + md))]) hx hb dX2_brokenRow_35 rfl hl (by decide) rfl (fun ls hl => ?_)
          refine lv_iload_n hx hb dX2_brokenRow_36 rfl (lv_at hl 0 rfl) ?_
          refine r_if_le (tgt := 87) hx hb ⟨(by omega), (by omega)⟩ dX2_brokenRow_37 (by decide) (fun c_18 => ?_) (fun c_18 => ?_)
          · refine lv_iinc (v := iv (k + 1)) (lv' := [(2, .int (iv (k + 1))), (3, .int (iv r_17)), (0, .ref (G.2.2.1 + 135)), (1, .ref (G.2.2.1 + md))]) hx hb dX2_brokenRow_87 hl (k := 1) rfl ((Int32.ofInt_add _ _).symm) (by decide) rfl (fun ls hl => ?_)
            refine lv_goto (tgt := 10) hx hb dX2_brokenRow_90 (by decide) ?_
            have q_19 : 0 ≤ S10.1 143 1 ∧ S10.1 143 1 ≤ 32 := hI10.fi 143 1 0 (by decide) rfl
            exact ih_10 S10 (k + 1) _ _ _ (by omega) hI10 hFm10 hL10_ (by omega) (by omega) hW hL (lv_sub hl [0, 2, 3] rfl)
          · refine lv_aload_n hx hb dX2_brokenRow_40 rfl (lv_at hl 2 rfl) ?_
            refine g_X2_38 Cx hW (k := 135) (by decide) rfl (v := .ref (G.2.2.1 + 145)) (rf_135_7 hI10) dX2_brokenRow_41 ?_
            refine lv_aload_n hx hb dX2_brokenRow_44 rfl (lv_at hl 2 rfl) ?_
            obtain ⟨o_20, o_21, mo_20, mo_21, no_20, eo_20, eo_21⟩ := rm_135 hI
            refine g_X2_13 Cx hW (k := 135) (by decide) rfl (v := .ref (G.2.2.1 + o_20)) ((((hL10_ 135 rfl).2.2.2 0).trans ((fu_1 135 rfl).2.2.2 0)).trans eo_20) dX2_brokenRow_45 ?_
            refine lv_iload_n hx hb dX2_brokenRow_48 rfl (lv_at hl 0 rfl) ?_
            refine lv_iconst (v := iv 0) hx hb dX2_brokenRow_49 (by decide) ?_
            refine sBi (sSt (As := [.int (iv r_17), .int (iv 0)]) (rest := [.ref (G.2.2.1 + o_20), .ref (G.2.2.1 + 145)]) Cx (s_X2_at l G S10 (i := r_17) (j := 0) (by omega) (by omega)) (c_X2_77 Cx rfl rfl (rmk_ok (by omega) (by decide))) hW rfl hl.1 rfl (Nat.le_of_ble_eq_true rfl) dX2_brokenRow_50 ⟨Nat.le_of_ble_eq_true rfl, Nat.le_of_ble_eq_true rfl⟩) hL (fun r_24 u_22 H locs k_23 hW hL => ?_)
            obtain ⟨eu_22, xu_22⟩ := k_23
            rw [eu_22] at hW
            refine sBv (sV (As := [.ref (G.2.2.1 + o_20), .int (iv r_24)]) (rest := []) (k := 145) Cx (s_X0_load l G S10 (o := 145) (k := o_20) (a := r_24) (N := 4816) hI10 rfl (dic_a mo_20) (by omega)) (c_X2_106 Cx rfl rfl (rmk_ok (by omega) (by decide))) hW (by decide) rfl rfl rfl hl.1 rfl (Nat.le_of_ble_eq_true rfl) dX2_brokenRow_53 ⟨Nat.le_of_ble_eq_true rfl, Nat.le_of_ble_eq_true rfl⟩) hL (fun u_25 H locs k_26 hW hL => ?_)
            obtain ⟨iu_25, fu_25, xu_25⟩ := k_26
            have F_27 := hFm10.trans (fu_25.to (pB_sub rfl rfl))
            have F_28 := hL10_.trans (fu_25.to (pB_sub rfl rfl))
            have yu_25 : u_25.1 145 1 ≤ 6 := by have e := xu_25.1; rw [dic_L mo_20] at e; exact e
            refine lv_aload_n hx hb dX2_brokenRow_56 rfl (lv_at hl 2 rfl) ?_
            refine g_X2_38 Cx hW (k := 135) (by decide) rfl (v := .ref (G.2.2.1 + 145)) (rf_135_7 iu_25) dX2_brokenRow_57 ?_
            refine lv_aload_n hx hb dX2_brokenRow_60 rfl (lv_at hl 2 rfl) ?_
            refine g_X2_35 Cx hW (k := 135) (by decide) rfl (v := .ref (G.2.2.1 + 143)) (rf_135_6 iu_25) dX2_brokenRow_61 ?_
            refine lv_aload_n hx hb dX2_brokenRow_64 rfl (lv_at hl 2 rfl) ?_
            refine g_X2_50 Cx hW (k := 135) (by decide) rfl (v := .ref (G.2.2.1 + 153)) (rf_135_11 iu_25) dX2_brokenRow_65 ?_
            refine lv_aload_n hx hb dX2_brokenRow_68 rfl (lv_at hl 2 rfl) ?_
            refine g_X2_53 Cx hW (k := 135) (by decide) rfl (v := .ref (G.2.2.1 + 155)) (rf_135_12 iu_25) dX2_brokenRow_69 ?_
            have q_29 : 0 ≤ u_25.1 145 1 ∧ u_25.1 145 1 ≤ 32 := iu_25.fi 145 1 0 (by decide) rfl
            have q_30 : 0 ≤ S10.1 143 1 ∧ S10.1 143 1 ≤ 32 := hI10.fi 143 1 0 (by decide) rfl
            have lk_31 : u_25.1 143 1 = S10.1 143 1 := (fu_25 143 rfl).1 1
            have q_32 : (-1) ≤ u_25.1 145 2 ∧ u_25.1 145 2 ≤ 1 := iu_25.fi 145 2 0 (by decide) rfl
            have q_33 : (-1) ≤ S10.1 143 2 ∧ S10.1 143 2 ≤ 1 := hI10.fi 143 2 0 (by decide) rfl
            have lk_34 : u_25.1 143 2 = S10.1 143 2 := (fu_25 143 rfl).1 2
            refine sBv (sV (As := [.ref (G.2.2.1 + 143), .ref (G.2.2.1 + 153), .ref (G.2.2.1 + 155)]) (rest := []) (k := 145) Cx (s_X0_divide l G u_25 (o := 145) (b := 143) (q := 153) (h := 155) (n := 6) iu_25 rfl rfl rfl rfl (show (145 : Nat) ≠ 143 by decide) (show (145 : Nat) ≠ 153 by decide) (show (145 : Nat) ≠ 155 by decide) (show (143 : Nat) ≠ 153 by decide) (show (143 : Nat) ≠ 155 by decide) (show (153 : Nat) ≠ 155 by decide) (by omega)) (c_X2_141 Cx rfl rfl (rmk_ok (by omega) (by decide))) hW (by decide) rfl rfl rfl hl.1 rfl (Nat.le_of_ble_eq_true rfl) dX2_brokenRow_72 ⟨Nat.le_of_ble_eq_true rfl, Nat.le_of_ble_eq_true rfl⟩) hL (fun u_35 H locs k_36 hW hL => ?_)
            obtain ⟨iu_35, fu_35, xu_35⟩ := k_36
            have F_37 := F_27.trans (fu_35.to (pD_sub (pB_sub rfl rfl) (pB_sub rfl rfl) (pB_sub rfl rfl)))
            have F_38 := F_28.trans (fu_35.to (pD_sub (pB_sub rfl rfl) (pB_sub rfl rfl) (pB_sub rfl rfl)))
            refine lv_aload_n hx hb dX2_brokenRow_75 rfl (lv_at hl 2 rfl) ?_
            refine g_X2_38 Cx hW (k := 135) (by decide) rfl (v := .ref (G.2.2.1 + 145)) (rf_135_7 iu_35) dX2_brokenRow_76 ?_
            have q_39 : (-1) ≤ u_35.1 145 2 ∧ u_35.1 145 2 ≤ 1 := iu_35.fi 145 2 0 (by decide) rfl
            refine g_X2_145 Cx hW (k := 145) (by decide) rfl (v := u_35.1 145 2) rfl dX2_brokenRow_79 ?_
            refine r_if_eq (tgt := 87) hx hb ⟨(by omega), (by omega)⟩ dX2_brokenRow_82 (by decide) (fun c_40 => ?_) (fun c_40 => ?_)
            · refine lv_iinc (v := iv (k + 1)) (lv' := [(2, .int (iv (k + 1))), (3, .int (iv r_17)), (0, .ref (G.2.2.1 + 135)), (1, .ref (G.2.2.1 + md))]) hx hb dX2_brokenRow_87 hl (k := 1) rfl ((Int32.ofInt_add _ _).symm) (by decide) rfl (fun ls hl => ?_)
              refine lv_goto (tgt := 10) hx hb dX2_brokenRow_90 (by decide) ?_
              have lk_41 : u_35.1 143 1 = S10.1 143 1 := ((fu_35 143 rfl).1 1).trans ((fu_25 143 rfl).1 1)
              exact ih_10 u_35 (k + 1) _ _ _ (by omega) iu_35 F_37 F_38 (by omega) (by omega) hW hL (lv_sub hl [0, 2, 3] rfl)
            · refine lv_iload_n hx hb dX2_brokenRow_85 rfl (lv_at hl 0 rfl) ?_
              exact sIret Cx hr hlk hW hL ⟨iu_35, F_37, (by omega)⟩ dX2_brokenRow_86
  have q_42 : 0 ≤ u_1.1 143 1 ∧ u_1.1 143 1 ≤ 32 := iu_1.fi 143 1 0 (by decide) rfl
  exact loop_10 (_ + 1) u_1 1 _ _ _ (Nat.lt_succ_self _) iu_1 F_3 Fr.rf (by omega) (by omega) hW hL (lv_sub hl [0, 1, 2] rfl)

set_option maxRecDepth 100000 in
set_option maxHeartbeats 4000000 in
theorem s_X2_write (l : Launch) (G : sG) (S : sS) {i j : Int} (hI : cX G S 0 0 0) (hi : -2147483648 ≤ i ∧ i ≤ 2147483647) (hj : -2147483648 ≤ j ∧ j ≤ 2147483647) : Met l yX2_write (.code yX2_write cX2_write 5 (some .boolean) :: tb) (rmk 3 0 0) (sPc G 294 S [.ref (G.2.2.1 + 135), .int (iv i), .int (iv j), .ref (G.2.2.1 + 3)]) (sQi G 294 (fun r u => cX G u 0 0 0 ∧ Fr S u pN ∧ (0 ≤ r ∧ r ≤ 1))) 0 0 (sF G) := by
  refine sEnter (by decide) (Nat.le_of_ble_eq_true rfl) ?_
  intro p e s m args below meth c Cx hr hlk hnm hW ls hl
  have Cx : sC G p m c cX2_write 5 s args RX2 := Cx
  obtain ⟨hx, hb, hml, hown, hts⟩ := id Cx.1
  have hL : sL G [] := sL_nil
  have hl : lv_has ls 5 [(0, .ref (G.2.2.1 + 135)), (1, .int (iv i)), (2, .int (iv j)), (3, .ref (G.2.2.1 + 3))] := hl
  have hW0 := hW
  refine lv_iload_n hx hb dX2_write_0 rfl (lv_at hl 1 rfl) ?_
  refine lv_bipush (v := iv (-2)) hx hb dX2_write_1 (by decide) ?_
  refine r_icmp_ne (tgt := 18) hx hb ⟨(by omega), (by omega)⟩ ⟨(by omega), (by omega)⟩ dX2_write_3 (by decide) (fun c_1 => ?_) (fun c_1 => ?_)
  · refine lv_iload_n hx hb dX2_write_18 rfl (lv_at hl 1 rfl) ?_
    refine lv_aload_n hx hb dX2_write_19 rfl (lv_at hl 0 rfl) ?_
    have q_2 : 0 ≤ S.1 135 16 ∧ S.1 135 16 ≤ 1 := hI.fi 135 16 2 (by decide) rfl
    refine g_X2_70 Cx hW (k := 135) (by decide) rfl (v := S.1 135 16) rfl dX2_write_20 ?_
    refine r_if_eq (tgt := 30) hx hb ⟨(by omega), (by omega)⟩ dX2_write_23 (by decide) (fun c_3 => ?_) (fun c_3 => ?_)
    · refine lv_iconst (v := iv 0) hx hb dX2_write_30 (by decide) ?_
      refine r_icmp_lt (tgt := 58) hx hb ⟨(by omega), (by omega)⟩ ⟨(by omega), (by omega)⟩ dX2_write_31 (by decide) (fun c_4 => ?_) (fun c_4 => ?_)
      · refine lv_iconst (v := iv 0) hx hb dX2_write_58 (by decide) ?_
        refine lv_istore (lv' := [(4, .int (iv 0)), (0, .ref (G.2.2.1 + 135)), (1, .int (iv i)), (2, .int (iv j)), (3, .ref (G.2.2.1 + 3))]) hx hb dX2_write_59 hl (by decide) rfl (fun ls hl => ?_)
        refine lv_iload hx hb dX2_write_61 (lv_at hl 0 rfl) ?_
        refine r_if_ne (tgt := 68) hx hb ⟨(by omega), (by omega)⟩ dX2_write_63 (by decide) (fun c => absurd (by omega) c) (fun _ => ?_)
        refine lv_iconst (v := iv 0) hx hb dX2_write_66 (by decide) ?_
        exact sZret Cx hr hlk hW hL (by omega) ⟨hI, (Fr.rf : Fr S S pN), (by omega)⟩ dX2_write_67
      · refine lv_iload_n hx hb dX2_write_34 rfl (lv_at hl 1 rfl) ?_
        refine lv_aload_n hx hb dX2_write_35 rfl (lv_at hl 0 rfl) ?_
        have q_5 : 0 ≤ S.1 135 14 ∧ S.1 135 14 ≤ 40 := hI.fi 135 14 2 (by decide) rfl
        refine g_X2_66 Cx hW (k := 135) (by decide) rfl (v := S.1 135 14) rfl dX2_write_36 ?_
        refine r_icmp_gt (tgt := 58) hx hb ⟨(by omega), (by omega)⟩ ⟨(by omega), (by omega)⟩ dX2_write_39 (by decide) (fun c_6 => ?_) (fun c_6 => ?_)
        · refine lv_iconst (v := iv 0) hx hb dX2_write_58 (by decide) ?_
          refine lv_istore (lv' := [(4, .int (iv 0)), (0, .ref (G.2.2.1 + 135)), (1, .int (iv i)), (2, .int (iv j)), (3, .ref (G.2.2.1 + 3))]) hx hb dX2_write_59 hl (by decide) rfl (fun ls hl => ?_)
          refine lv_iload hx hb dX2_write_61 (lv_at hl 0 rfl) ?_
          refine r_if_ne (tgt := 68) hx hb ⟨(by omega), (by omega)⟩ dX2_write_63 (by decide) (fun c => absurd (by omega) c) (fun _ => ?_)
          refine lv_iconst (v := iv 0) hx hb dX2_write_66 (by decide) ?_
          exact sZret Cx hr hlk hW hL (by omega) ⟨hI, (Fr.rf : Fr S S pN), (by omega)⟩ dX2_write_67
        · refine lv_iload_n hx hb dX2_write_42 rfl (lv_at hl 2 rfl) ?_
          refine r_if_lt (tgt := 58) hx hb ⟨(by omega), (by omega)⟩ dX2_write_43 (by decide) (fun c_7 => ?_) (fun c_7 => ?_)
          · refine lv_iconst (v := iv 0) hx hb dX2_write_58 (by decide) ?_
            refine lv_istore (lv' := [(4, .int (iv 0)), (0, .ref (G.2.2.1 + 135)), (1, .int (iv i)), (2, .int (iv j)), (3, .ref (G.2.2.1 + 3))]) hx hb dX2_write_59 hl (by decide) rfl (fun ls hl => ?_)
            refine lv_iload hx hb dX2_write_61 (lv_at hl 0 rfl) ?_
            refine r_if_ne (tgt := 68) hx hb ⟨(by omega), (by omega)⟩ dX2_write_63 (by decide) (fun c => absurd (by omega) c) (fun _ => ?_)
            refine lv_iconst (v := iv 0) hx hb dX2_write_66 (by decide) ?_
            exact sZret Cx hr hlk hW hL (by omega) ⟨hI, (Fr.rf : Fr S S pN), (by omega)⟩ dX2_write_67
          · refine lv_iload_n hx hb dX2_write_46 rfl (lv_at hl 2 rfl) ?_
            refine lv_aload_n hx hb dX2_write_47 rfl (lv_at hl 0 rfl) ?_
            have q_8 : 0 ≤ S.1 135 15 ∧ S.1 135 15 ≤ 13 := hI.fi 135 15 2 (by decide) rfl
            refine g_X2_67 Cx hW (k := 135) (by decide) rfl (v := S.1 135 15) rfl dX2_write_48 ?_
            refine r_icmp_gt (tgt := 58) hx hb ⟨(by omega), (by omega)⟩ ⟨(by omega), (by omega)⟩ dX2_write_51 (by decide) (fun c_9 => ?_) (fun c_9 => ?_)
            · refine lv_iconst (v := iv 0) hx hb dX2_write_58 (by decide) ?_
              refine lv_istore (lv' := [(4, .int (iv 0)), (0, .ref (G.2.2.1 + 135)), (1, .int (iv i)), (2, .int (iv j)), (3, .ref (G.2.2.1 + 3))]) hx hb dX2_write_59 hl (by decide) rfl (fun ls hl => ?_)
              refine lv_iload hx hb dX2_write_61 (lv_at hl 0 rfl) ?_
              refine r_if_ne (tgt := 68) hx hb ⟨(by omega), (by omega)⟩ dX2_write_63 (by decide) (fun c => absurd (by omega) c) (fun _ => ?_)
              refine lv_iconst (v := iv 0) hx hb dX2_write_66 (by decide) ?_
              exact sZret Cx hr hlk hW hL (by omega) ⟨hI, (Fr.rf : Fr S S pN), (by omega)⟩ dX2_write_67
            · refine lv_iconst (v := iv 1) hx hb dX2_write_54 (by decide) ?_
              refine lv_goto (tgt := 59) hx hb dX2_write_55 (by decide) ?_
              refine lv_istore (lv' := [(4, .int (iv 1)), (0, .ref (G.2.2.1 + 135)), (1, .int (iv i)), (2, .int (iv j)), (3, .ref (G.2.2.1 + 3))]) hx hb dX2_write_59 hl (by decide) rfl (fun ls hl => ?_)
              refine lv_iload hx hb dX2_write_61 (lv_at hl 0 rfl) ?_
              refine r_if_ne (tgt := 68) hx hb ⟨(by omega), (by omega)⟩ dX2_write_63 (by decide) (fun _ => ?_) (fun c => absurd c (by omega))
              refine lv_aload_n hx hb dX2_write_68 rfl (lv_at hl 1 rfl) ?_
              refine g_X2_38 Cx hW (k := 135) (by decide) rfl (v := .ref (G.2.2.1 + 145)) (rf_135_7 hI) dX2_write_69 ?_
              refine lv_aload_n hx hb dX2_write_72 rfl (lv_at hl 1 rfl) ?_
              obtain ⟨o_10, o_11, mo_10, mo_11, no_10, eo_10, eo_11⟩ := rm_135 hI
              refine g_X2_13 Cx hW (k := 135) (by decide) rfl (v := .ref (G.2.2.1 + o_10)) eo_10 dX2_write_73 ?_
              refine lv_iload_n hx hb dX2_write_76 rfl (lv_at hl 2 rfl) ?_
              refine lv_iload_n hx hb dX2_write_77 rfl (lv_at hl 3 rfl) ?_
              refine sBi (sSt (As := [.int (iv i), .int (iv j)]) (rest := [.ref (G.2.2.1 + o_10), .ref (G.2.2.1 + 145)]) Cx (s_X2_at l G S (i := i) (j := j) (by omega) (by omega)) (c_X2_77 Cx rfl rfl (rmk_ok (by omega) (by decide))) hW rfl hl.1 rfl (Nat.le_of_ble_eq_true rfl) dX2_write_78 ⟨Nat.le_of_ble_eq_true rfl, Nat.le_of_ble_eq_true rfl⟩) hL (fun r_14 u_12 H locs k_13 hW hL => ?_)
              obtain ⟨eu_12, xu_12⟩ := k_13
              rw [eu_12] at hW
              refine sBv (sV (As := [.ref (G.2.2.1 + o_10), .int (iv r_14)]) (rest := []) (k := 145) Cx (s_X0_load l G S (o := 145) (k := o_10) (a := r_14) (N := 4816) hI rfl (dic_a mo_10) (by omega)) (c_X2_106 Cx rfl rfl (rmk_ok (by omega) (by decide))) hW (by decide) rfl rfl rfl hl.1 rfl (Nat.le_of_ble_eq_true rfl) dX2_write_81 ⟨Nat.le_of_ble_eq_true rfl, Nat.le_of_ble_eq_true rfl⟩) hL (fun u_15 H locs k_16 hW hL => ?_)
              obtain ⟨iu_15, fu_15, xu_15⟩ := k_16
              have F_17 := (Fr.rf : Fr S S pN).trans (fu_15.to (pB_sub rfl rfl))
              have yu_15 : u_15.1 145 1 ≤ 6 := by have e := xu_15.1; rw [dic_L mo_10] at e; exact e
              refine lv_aload_n hx hb dX2_write_84 rfl (lv_at hl 4 rfl) ?_
              refine sBv (sV (As := []) (rest := []) (k := 3) Cx (s_X10_clear l G u_15 (o := 3) (N := 120) iu_15 ⟨by decide, rfl, rfl, rfl, rfl, by decide⟩) (c_X2_110 Cx rfl rfl (rmk_ok (by omega) (by decide))) hW (by decide) rfl rfl rfl hl.1 rfl (Nat.le_of_ble_eq_true rfl) dX2_write_85 ⟨Nat.le_of_ble_eq_true rfl, Nat.le_of_ble_eq_true rfl⟩) hL (fun u_18 H locs k_19 hW hL => ?_)
              obtain ⟨iu_18, fu_18, xu_18⟩ := k_19
              have F_20 := F_17.trans (fu_18.to (pB_sub rfl rfl))
              refine lv_aload_n hx hb dX2_write_88 rfl (lv_at hl 4 rfl) ?_
              refine lv_aload_n hx hb dX2_write_89 rfl (lv_at hl 1 rfl) ?_
              refine g_X2_38 Cx hW (k := 135) (by decide) rfl (v := .ref (G.2.2.1 + 145)) (rf_135_7 iu_18) dX2_write_90 ?_
              refine lv_iconst (v := iv 1) hx hb dX2_write_93 (by decide) ?_
              refine sBv (sV (As := [.ref (G.2.2.1 + 145), .int (iv 1)]) (rest := []) (k := 3) Cx (s_X10_number l G u_18 (o := 3) (v := 145) (ap := 1) (N := 120) iu_18 ⟨by decide, rfl, rfl, rfl, rfl, by decide⟩ rfl (by omega)) (c_X2_115 Cx rfl rfl (rmk_ok (by omega) (by decide))) hW (by decide) rfl rfl rfl hl.1 rfl (Nat.le_of_ble_eq_true rfl) dX2_write_94 ⟨Nat.le_of_ble_eq_true rfl, Nat.le_of_ble_eq_true rfl⟩) hL (fun u_21 H locs k_22 hW hL => ?_)
              obtain ⟨iu_21, fu_21⟩ := k_22
              have F_23 := F_20.trans (fu_21.to (pB_sub rfl rfl))
              refine lv_iconst (v := iv 1) hx hb dX2_write_97 (by decide) ?_
              exact sZret Cx hr hlk hW hL (by omega) ⟨iu_21, F_23, (by omega)⟩ dX2_write_98
    · refine lv_iconst (v := iv (-1)) hx hb dX2_write_26 (by decide) ?_
      refine lv_goto (tgt := 31) hx hb dX2_write_27 (by decide) ?_
      refine r_icmp_lt (tgt := 58) hx hb ⟨(by omega), (by omega)⟩ ⟨(by omega), (by omega)⟩ dX2_write_31 (by decide) (fun c_24 => ?_) (fun c_24 => ?_)
      · refine lv_iconst (v := iv 0) hx hb dX2_write_58 (by decide) ?_
        refine lv_istore (lv' := [(4, .int (iv 0)), (0, .ref (G.2.2.1 + 135)), (1, .int (iv i)), (2, .int (iv j)), (3, .ref (G.2.2.1 + 3))]) hx hb dX2_write_59 hl (by decide) rfl (fun ls hl => ?_)
        refine lv_iload hx hb dX2_write_61 (lv_at hl 0 rfl) ?_
        refine r_if_ne (tgt := 68) hx hb ⟨(by omega), (by omega)⟩ dX2_write_63 (by decide) (fun c => absurd (by omega) c) (fun _ => ?_)
        refine lv_iconst (v := iv 0) hx hb dX2_write_66 (by decide) ?_
        exact sZret Cx hr hlk hW hL (by omega) ⟨hI, (Fr.rf : Fr S S pN), (by omega)⟩ dX2_write_67
      · refine lv_iload_n hx hb dX2_write_34 rfl (lv_at hl 1 rfl) ?_
        refine lv_aload_n hx hb dX2_write_35 rfl (lv_at hl 0 rfl) ?_
        have q_25 : 0 ≤ S.1 135 14 ∧ S.1 135 14 ≤ 40 := hI.fi 135 14 2 (by decide) rfl
        refine g_X2_66 Cx hW (k := 135) (by decide) rfl (v := S.1 135 14) rfl dX2_write_36 ?_
        refine r_icmp_gt (tgt := 58) hx hb ⟨(by omega), (by omega)⟩ ⟨(by omega), (by omega)⟩ dX2_write_39 (by decide) (fun c_26 => ?_) (fun c_26 => ?_)
        · refine lv_iconst (v := iv 0) hx hb dX2_write_58 (by decide) ?_
          refine lv_istore (lv' := [(4, .int (iv 0)), (0, .ref (G.2.2.1 + 135)), (1, .int (iv i)), (2, .int (iv j)), (3, .ref (G.2.2.1 + 3))]) hx hb dX2_write_59 hl (by decide) rfl (fun ls hl => ?_)
          refine lv_iload hx hb dX2_write_61 (lv_at hl 0 rfl) ?_
          refine r_if_ne (tgt := 68) hx hb ⟨(by omega), (by omega)⟩ dX2_write_63 (by decide) (fun c => absurd (by omega) c) (fun _ => ?_)
          refine lv_iconst (v := iv 0) hx hb dX2_write_66 (by decide) ?_
          exact sZret Cx hr hlk hW hL (by omega) ⟨hI, (Fr.rf : Fr S S pN), (by omega)⟩ dX2_write_67
        · refine lv_iload_n hx hb dX2_write_42 rfl (lv_at hl 2 rfl) ?_
          refine r_if_lt (tgt := 58) hx hb ⟨(by omega), (by omega)⟩ dX2_write_43 (by decide) (fun c_27 => ?_) (fun c_27 => ?_)
          · refine lv_iconst (v := iv 0) hx hb dX2_write_58 (by decide) ?_
            refine lv_istore (lv' := [(4, .int (iv 0)), (0, .ref (G.2.2.1 + 135)), (1, .int (iv i)), (2, .int (iv j)), (3, .ref (G.2.2.1 + 3))]) hx hb dX2_write_59 hl (by decide) rfl (fun ls hl => ?_)
            refine lv_iload hx hb dX2_write_61 (lv_at hl 0 rfl) ?_
            refine r_if_ne (tgt := 68) hx hb ⟨(by omega), (by omega)⟩ dX2_write_63 (by decide) (fun c => absurd (by omega) c) (fun _ => ?_)
            refine lv_iconst (v := iv 0) hx hb dX2_write_66 (by decide) ?_
            exact sZret Cx hr hlk hW hL (by omega) ⟨hI, (Fr.rf : Fr S S pN), (by omega)⟩ dX2_write_67
          · refine lv_iload_n hx hb dX2_write_46 rfl (lv_at hl 2 rfl) ?_
            refine lv_aload_n hx hb dX2_write_47 rfl (lv_at hl 0 rfl) ?_
            have q_28 : 0 ≤ S.1 135 15 ∧ S.1 135 15 ≤ 13 := hI.fi 135 15 2 (by decide) rfl
            refine g_X2_67 Cx hW (k := 135) (by decide) rfl (v := S.1 135 15) rfl dX2_write_48 ?_
            refine r_icmp_gt (tgt := 58) hx hb ⟨(by omega), (by omega)⟩ ⟨(by omega), (by omega)⟩ dX2_write_51 (by decide) (fun c_29 => ?_) (fun c_29 => ?_)
            · refine lv_iconst (v := iv 0) hx hb dX2_write_58 (by decide) ?_
              refine lv_istore (lv' := [(4, .int (iv 0)), (0, .ref (G.2.2.1 + 135)), (1, .int (iv i)), (2, .int (iv j)), (3, .ref (G.2.2.1 + 3))]) hx hb dX2_write_59 hl (by decide) rfl (fun ls hl => ?_)
              refine lv_iload hx hb dX2_write_61 (lv_at hl 0 rfl) ?_
              refine r_if_ne (tgt := 68) hx hb ⟨(by omega), (by omega)⟩ dX2_write_63 (by decide) (fun c => absurd (by omega) c) (fun _ => ?_)
              refine lv_iconst (v := iv 0) hx hb dX2_write_66 (by decide) ?_
              exact sZret Cx hr hlk hW hL (by omega) ⟨hI, (Fr.rf : Fr S S pN), (by omega)⟩ dX2_write_67
            · refine lv_iconst (v := iv 1) hx hb dX2_write_54 (by decide) ?_
              refine lv_goto (tgt := 59) hx hb dX2_write_55 (by decide) ?_
              refine lv_istore (lv' := [(4, .int (iv 1)), (0, .ref (G.2.2.1 + 135)), (1, .int (iv i)), (2, .int (iv j)), (3, .ref (G.2.2.1 + 3))]) hx hb dX2_write_59 hl (by decide) rfl (fun ls hl => ?_)
              refine lv_iload hx hb dX2_write_61 (lv_at hl 0 rfl) ?_
              refine r_if_ne (tgt := 68) hx hb ⟨(by omega), (by omega)⟩ dX2_write_63 (by decide) (fun _ => ?_) (fun c => absurd c (by omega))
              refine lv_aload_n hx hb dX2_write_68 rfl (lv_at hl 1 rfl) ?_
              refine g_X2_38 Cx hW (k := 135) (by decide) rfl (v := .ref (G.2.2.1 + 145)) (rf_135_7 hI) dX2_write_69 ?_
              refine lv_aload_n hx hb dX2_write_72 rfl (lv_at hl 1 rfl) ?_
              obtain ⟨o_30, o_31, mo_30, mo_31, no_30, eo_30, eo_31⟩ := rm_135 hI
              refine g_X2_13 Cx hW (k := 135) (by decide) rfl (v := .ref (G.2.2.1 + o_30)) eo_30 dX2_write_73 ?_
              refine lv_iload_n hx hb dX2_write_76 rfl (lv_at hl 2 rfl) ?_
              refine lv_iload_n hx hb dX2_write_77 rfl (lv_at hl 3 rfl) ?_
              refine sBi (sSt (As := [.int (iv i), .int (iv j)]) (rest := [.ref (G.2.2.1 + o_30), .ref (G.2.2.1 + 145)]) Cx (s_X2_at l G S (i := i) (j := j) (by omega) (by omega)) (c_X2_77 Cx rfl rfl (rmk_ok (by omega) (by decide))) hW rfl hl.1 rfl (Nat.le_of_ble_eq_true rfl) dX2_write_78 ⟨Nat.le_of_ble_eq_true rfl, Nat.le_of_ble_eq_true rfl⟩) hL (fun r_34 u_32 H locs k_33 hW hL => ?_)
              obtain ⟨eu_32, xu_32⟩ := k_33
              rw [eu_32] at hW
              refine sBv (sV (As := [.ref (G.2.2.1 + o_30), .int (iv r_34)]) (rest := []) (k := 145) Cx (s_X0_load l G S (o := 145) (k := o_30) (a := r_34) (N := 4816) hI rfl (dic_a mo_30) (by omega)) (c_X2_106 Cx rfl rfl (rmk_ok (by omega) (by decide))) hW (by decide) rfl rfl rfl hl.1 rfl (Nat.le_of_ble_eq_true rfl) dX2_write_81 ⟨Nat.le_of_ble_eq_true rfl, Nat.le_of_ble_eq_true rfl⟩) hL (fun u_35 H locs k_36 hW hL => ?_)
              obtain ⟨iu_35, fu_35, xu_35⟩ := k_36
              have F_37 := (Fr.rf : Fr S S pN).trans (fu_35.to (pB_sub rfl rfl))
              have yu_35 : u_35.1 145 1 ≤ 6 := by have e := xu_35.1; rw [dic_L mo_30] at e; exact e
              refine lv_aload_n hx hb dX2_write_84 rfl (lv_at hl 4 rfl) ?_
              refine sBv (sV (As := []) (rest := []) (k := 3) Cx (s_X10_clear l G u_35 (o := 3) (N := 120) iu_35 ⟨by decide, rfl, rfl, rfl, rfl, by decide⟩) (c_X2_110 Cx rfl rfl (rmk_ok (by omega) (by decide))) hW (by decide) rfl rfl rfl hl.1 rfl (Nat.le_of_ble_eq_true rfl) dX2_write_85 ⟨Nat.le_of_ble_eq_true rfl, Nat.le_of_ble_eq_true rfl⟩) hL (fun u_38 H locs k_39 hW hL => ?_)
              obtain ⟨iu_38, fu_38, xu_38⟩ := k_39
              have F_40 := F_37.trans (fu_38.to (pB_sub rfl rfl))
              refine lv_aload_n hx hb dX2_write_88 rfl (lv_at hl 4 rfl) ?_
              refine lv_aload_n hx hb dX2_write_89 rfl (lv_at hl 1 rfl) ?_
              refine g_X2_38 Cx hW (k := 135) (by decide) rfl (v := .ref (G.2.2.1 + 145)) (rf_135_7 iu_38) dX2_write_90 ?_
              refine lv_iconst (v := iv 1) hx hb dX2_write_93 (by decide) ?_
              refine sBv (sV (As := [.ref (G.2.2.1 + 145), .int (iv 1)]) (rest := []) (k := 3) Cx (s_X10_number l G u_38 (o := 3) (v := 145) (ap := 1) (N := 120) iu_38 ⟨by decide, rfl, rfl, rfl, rfl, by decide⟩ rfl (by omega)) (c_X2_115 Cx rfl rfl (rmk_ok (by omega) (by decide))) hW (by decide) rfl rfl rfl hl.1 rfl (Nat.le_of_ble_eq_true rfl) dX2_write_94 ⟨Nat.le_of_ble_eq_true rfl, Nat.le_of_ble_eq_true rfl⟩) hL (fun u_41 H locs k_42 hW hL => ?_)
              obtain ⟨iu_41, fu_41⟩ := k_42
              have F_43 := F_40.trans (fu_41.to (pB_sub rfl rfl))
              refine lv_iconst (v := iv 1) hx hb dX2_write_97 (by decide) ?_
              exact sZret Cx hr hlk hW hL (by omega) ⟨iu_41, F_43, (by omega)⟩ dX2_write_98
  · refine lv_iload_n hx hb dX2_write_6 rfl (lv_at hl 2 rfl) ?_
    refine r_if_ne (tgt := 14) hx hb ⟨(by omega), (by omega)⟩ dX2_write_7 (by decide) (fun c_44 => ?_) (fun c_44 => ?_)
    · refine lv_iconst (v := iv 0) hx hb dX2_write_14 (by decide) ?_
      refine lv_goto (tgt := 59) hx hb dX2_write_15 (by decide) ?_
      refine lv_istore (lv' := [(4, .int (iv 0)), (0, .ref (G.2.2.1 + 135)), (1, .int (iv i)), (2, .int (iv j)), (3, .ref (G.2.2.1 + 3))]) hx hb dX2_write_59 hl (by decide) rfl (fun ls hl => ?_)
      refine lv_iload hx hb dX2_write_61 (lv_at hl 0 rfl) ?_
      refine r_if_ne (tgt := 68) hx hb ⟨(by omega), (by omega)⟩ dX2_write_63 (by decide) (fun c => absurd (by omega) c) (fun _ => ?_)
      refine lv_iconst (v := iv 0) hx hb dX2_write_66 (by decide) ?_
      exact sZret Cx hr hlk hW hL (by omega) ⟨hI, (Fr.rf : Fr S S pN), (by omega)⟩ dX2_write_67
    · refine lv_iconst (v := iv 1) hx hb dX2_write_10 (by decide) ?_
      refine lv_goto (tgt := 59) hx hb dX2_write_11 (by decide) ?_
      refine lv_istore (lv' := [(4, .int (iv 1)), (0, .ref (G.2.2.1 + 135)), (1, .int (iv i)), (2, .int (iv j)), (3, .ref (G.2.2.1 + 3))]) hx hb dX2_write_59 hl (by decide) rfl (fun ls hl => ?_)
      refine lv_iload hx hb dX2_write_61 (lv_at hl 0 rfl) ?_
      refine r_if_ne (tgt := 68) hx hb ⟨(by omega), (by omega)⟩ dX2_write_63 (by decide) (fun _ => ?_) (fun c => absurd c (by omega))
      refine lv_aload_n hx hb dX2_write_68 rfl (lv_at hl 1 rfl) ?_
      refine g_X2_38 Cx hW (k := 135) (by decide) rfl (v := .ref (G.2.2.1 + 145)) (rf_135_7 hI) dX2_write_69 ?_
      refine lv_aload_n hx hb dX2_write_72 rfl (lv_at hl 1 rfl) ?_
      obtain ⟨o_45, o_46, mo_45, mo_46, no_45, eo_45, eo_46⟩ := rm_135 hI
      refine g_X2_13 Cx hW (k := 135) (by decide) rfl (v := .ref (G.2.2.1 + o_45)) eo_45 dX2_write_73 ?_
      refine lv_iload_n hx hb dX2_write_76 rfl (lv_at hl 2 rfl) ?_
      refine lv_iload_n hx hb dX2_write_77 rfl (lv_at hl 3 rfl) ?_
      refine sBi (sSt (As := [.int (iv i), .int (iv j)]) (rest := [.ref (G.2.2.1 + o_45), .ref (G.2.2.1 + 145)]) Cx (s_X2_at l G S (i := i) (j := j) (by omega) (by omega)) (c_X2_77 Cx rfl rfl (rmk_ok (by omega) (by decide))) hW rfl hl.1 rfl (Nat.le_of_ble_eq_true rfl) dX2_write_78 ⟨Nat.le_of_ble_eq_true rfl, Nat.le_of_ble_eq_true rfl⟩) hL (fun r_49 u_47 H locs k_48 hW hL => ?_)
      obtain ⟨eu_47, xu_47⟩ := k_48
      rw [eu_47] at hW
      refine sBv (sV (As := [.ref (G.2.2.1 + o_45), .int (iv r_49)]) (rest := []) (k := 145) Cx (s_X0_load l G S (o := 145) (k := o_45) (a := r_49) (N := 4816) hI rfl (dic_a mo_45) (by omega)) (c_X2_106 Cx rfl rfl (rmk_ok (by omega) (by decide))) hW (by decide) rfl rfl rfl hl.1 rfl (Nat.le_of_ble_eq_true rfl) dX2_write_81 ⟨Nat.le_of_ble_eq_true rfl, Nat.le_of_ble_eq_true rfl⟩) hL (fun u_50 H locs k_51 hW hL => ?_)
      obtain ⟨iu_50, fu_50, xu_50⟩ := k_51
      have F_52 := (Fr.rf : Fr S S pN).trans (fu_50.to (pB_sub rfl rfl))
      have yu_50 : u_50.1 145 1 ≤ 6 := by have e := xu_50.1; rw [dic_L mo_45] at e; exact e
      refine lv_aload_n hx hb dX2_write_84 rfl (lv_at hl 4 rfl) ?_
      refine sBv (sV (As := []) (rest := []) (k := 3) Cx (s_X10_clear l G u_50 (o := 3) (N := 120) iu_50 ⟨by decide, rfl, rfl, rfl, rfl, by decide⟩) (c_X2_110 Cx rfl rfl (rmk_ok (by omega) (by decide))) hW (by decide) rfl rfl rfl hl.1 rfl (Nat.le_of_ble_eq_true rfl) dX2_write_85 ⟨Nat.le_of_ble_eq_true rfl, Nat.le_of_ble_eq_true rfl⟩) hL (fun u_53 H locs k_54 hW hL => ?_)
      obtain ⟨iu_53, fu_53, xu_53⟩ := k_54
      have F_55 := F_52.trans (fu_53.to (pB_sub rfl rfl))
      refine lv_aload_n hx hb dX2_write_88 rfl (lv_at hl 4 rfl) ?_
      refine lv_aload_n hx hb dX2_write_89 rfl (lv_at hl 1 rfl) ?_
      refine g_X2_38 Cx hW (k := 135) (by decide) rfl (v := .ref (G.2.2.1 + 145)) (rf_135_7 iu_53) dX2_write_90 ?_
      refine lv_iconst (v := iv 1) hx hb dX2_write_93 (by decide) ?_
      refine sBv (sV (As := [.ref (G.2.2.1 + 145), .int (iv 1)]) (rest := []) (k := 3) Cx (s_X10_number l G u_53 (o := 3) (v := 145) (ap := 1) (N := 120) iu_53 ⟨by decide, rfl, rfl, rfl, rfl, by decide⟩ rfl (by omega)) (c_X2_115 Cx rfl rfl (rmk_ok (by omega) (by decide))) hW (by decide) rfl rfl rfl hl.1 rfl (Nat.le_of_ble_eq_true rfl) dX2_write_94 ⟨Nat.le_of_ble_eq_true rfl, Nat.le_of_ble_eq_true rfl⟩) hL (fun u_56 H locs k_57 hW hL => ?_)
      obtain ⟨iu_56, fu_56⟩ := k_57
      have F_58 := F_55.trans (fu_56.to (pB_sub rfl rfl))
      refine lv_iconst (v := iv 1) hx hb dX2_write_97 (by decide) ?_
      exact sZret Cx hr hlk hW hL (by omega) ⟨iu_56, F_58, (by omega)⟩ dX2_write_98

set_option maxRecDepth 100000 in
set_option maxHeartbeats 4000000 in
theorem s_X2_dropHelper (l : Launch) (G : sG) (S : sS)  (hI : cX G S 0 0 0) : Met l yX2_dropHelper (.code yX2_dropHelper cX2_dropHelper 3 none :: tb) (rmk 3 0 0) (sPc G 294 S [.ref (G.2.2.1 + 135)]) (sQv G 294 (fun u => cX G u 0 0 0 ∧ Fr S u pX)) 0 0 (sF G) := by
  refine sEnter (by decide) (Nat.le_of_ble_eq_true rfl) ?_
  intro p e s m args below meth c Cx hr hlk hnm hW ls hl
  have Cx : sC G p m c cX2_dropHelper 3 s args RX2 := Cx
  obtain ⟨hx, hb, hml, hown, hts⟩ := id Cx.1
  have hL : sL G [] := sL_nil
  have hl : lv_has ls 3 [(0, .ref (G.2.2.1 + 135))] := hl
  have hW0 := hW
  refine lv_aload_n hx hb dX2_dropHelper_0 rfl (lv_at hl 0 rfl) ?_
  refine lv_iconst (v := iv 0) hx hb dX2_dropHelper_1 (by decide) ?_
  have q_1 : 0 ≤ S.1 135 15 ∧ S.1 135 15 ≤ 13 := hI.fi 135 15 2 (by decide) rfl
  refine sBi (sV (As := [.int (iv 0)]) (rest := []) (k := 135) Cx (s_X2_placeOf l G S (k := 0) hI (by omega)) (c_X2_118 Cx rfl rfl (rmk_ok (by omega) (by decide))) hW (by decide) rfl rfl rfl hl.1 rfl (Nat.le_of_ble_eq_true rfl) dX2_dropHelper_2 ⟨Nat.le_of_ble_eq_true rfl, Nat.le_of_ble_eq_true rfl⟩) hL (fun r_4 u_2 H locs k_3 hW hL => ?_)
  obtain ⟨eu_2, xu_2⟩ := k_3
  rw [eu_2] at hW
  refine lv_istore_n (lv' := [(1, .int (iv r_4)), (0, .ref (G.2.2.1 + 135))]) hx hb dX2_dropHelper_5 rfl hl (by decide) rfl (fun ls hl => ?_)
  refine lv_aload_n hx hb dX2_dropHelper_6 rfl (lv_at hl 1 rfl) ?_
  refine lv_iconst (v := iv 0) hx hb dX2_dropHelper_7 (by decide) ?_
  refine p_X2_70 Cx hW hL (k := 135) (by decide) rfl (by omega) dX2_dropHelper_8 (fun H locs hW hL => ?_)
  have F_5 : Fr S (uF S 135 16 0) pX := (Fr.rf : Fr S S pX).F rfl
  have i_6 : cX G (uF S 135 16 0) 0 0 0 := hI.F rfl rfl (show 0 ≤ 0 ∧ 0 ≤ 1 from ⟨by omega, by omega⟩)
  refine lv_iload_n hx hb dX2_dropHelper_11 rfl (lv_at hl 0 rfl) ?_
  refine lv_iconst (v := iv 1) hx hb dX2_dropHelper_12 (by decide) ?_
  refine r_icmp_ge (tgt := 17) hx hb ⟨(by omega), (by omega)⟩ ⟨(by omega), (by omega)⟩ dX2_dropHelper_13 (by decide) (fun c_7 => ?_) (fun c_7 => ?_)
  · refine lv_iconst (v := iv 0) hx hb dX2_dropHelper_17 (by decide) ?_
    refine lv_istore_n (lv' := [(2, .int (iv 0)), (1, .int (iv r_4)), (0, .ref (G.2.2.1 + 135))]) hx hb dX2_dropHelper_18 rfl hl (by decide) rfl (fun ls hl => ?_)
    have loop_19 : ∀ (fuel : Nat) (S19 : sS) (i : Int) (H : Heap) (locs : List Loc) (ls : Array Slot), (41 - i).toNat < fuel → (cX G S19 0 0 0) → (Fr S S19 pX) → (Fr ((uF S 135 16 0)) S19 pN) → (0 ≤ i ∧ i ≤ 41) → sW G 294 S19 H → sL G locs → lv_has ls 3 [(2, .int (iv i)), (1, .int (iv r_4)), (0, .ref (G.2.2.1 + 135))] → W p l e (rmk 3 0 0) s m args below meth c H locs 0 0 (MQ below (sQv G 294 (fun u => cX G u 0 0 0 ∧ Fr S u pX)) args s 0 0 (sF G)) (F0 m 19 ls []) := by
      intro fuel
      induction fuel with
      | zero => intro S19 i H locs ls hmeas hI19 hFm19 hL19_ hi hW hL hl; exact absurd hmeas (Nat.not_lt_zero _)
      | succ fuel ih_19 =>
        intro S19 i H locs ls hmeas hI19 hFm19 hL19_ hi hW hL hl
        refine lv_iload_n hx hb dX2_dropHelper_19 rfl (lv_at hl 0 rfl) ?_
        refine lv_aload_n hx hb dX2_dropHelper_20 rfl (lv_at hl 2 rfl) ?_
        have q_8 : 0 ≤ S.1 135 14 ∧ S.1 135 14 ≤ 40 := hI.fi 135 14 2 (by decide) rfl
        refine g_X2_66 Cx hW (k := 135) (by decide) rfl (v := S.1 135 14) (((hL19_ 135 rfl).1 14).trans (uF_ne (fun h => absurd h.2 (by decide)))) dX2_dropHelper_21 ?_
        refine r_icmp_gt (tgt := 68) hx hb ⟨(by omega), (by omega)⟩ ⟨(by omega), (by omega)⟩ dX2_dropHelper_24 (by decide) (fun c_9 => ?_) (fun c_9 => ?_)
        · refine lv_aload_n hx hb dX2_dropHelper_68 rfl (lv_at hl 2 rfl) ?_
          refine g_X2_23 Cx hW (k := 135) (by decide) rfl (v := .ref (G.2.2.1 + 139)) (rf_135_3 hI19) dX2_dropHelper_69 ?_
          refine lv_iload_n hx hb dX2_dropHelper_72 rfl (lv_at hl 1 rfl) ?_
          refine lv_aload_n hx hb dX2_dropHelper_73 rfl (lv_at hl 2 rfl) ?_
          refine g_X2_23 Cx hW (k := 135) (by decide) rfl (v := .ref (G.2.2.1 + 139)) (rf_135_3 hI19) dX2_dropHelper_74 ?_
          refine lv_aload_n hx hb dX2_dropHelper_77 rfl (lv_at hl 2 rfl) ?_
          refine g_X2_67 Cx hW (k := 135) (by decide) rfl (v := S.1 135 15) (((hL19_ 135 rfl).1 15).trans (uF_ne (fun h => absurd h.2 (by decide)))) dX2_dropHelper_78 ?_
          refine rIald Cx hW (k := 139) (by decide) rfl (by decide) (by omega) (by omega) dX2_dropHelper_81 ?_
          have q_10 : (-2147483648) ≤ S.2.1 139 (S.1 135 15) ∧ S.2.1 139 (S.1 135 15) ≤ 2147483647 := hI.ai 139 (S.1 135 15) (by decide)
          refine r_i (b := S.2.1 139 (S.1 135 15)) (((hL19_ 139 rfl).2.1 (S.1 135 15)).trans (uF_a)) ?_
          refine rIast Cx hW hL (k := 139) (by decide) rfl (by decide) (by omega) (by omega) dX2_dropHelper_82 (fun H locs hW hL => ?_)
          have F_11 : Fr S (uA S19 139 r_4 (S.2.1 139 (S.1 135 15))) pX := hFm19.A rfl
          have i_12 : cX G (uA S19 139 r_4 (S.2.1 139 (S.1 135 15))) 0 0 0 := hI19.A (by decide) (by decide) (by decide) (show (-2147483648) ≤ S.2.1 139 (S.1 135 15) ∧ S.2.1 139 (S.1 135 15) ≤ 2147483647 from ⟨by omega, by omega⟩)
          refine lv_aload_n hx hb dX2_dropHelper_83 rfl (lv_at hl 2 rfl) ?_
          refine lv_dup hx hb dX2_dropHelper_84 rfl ?_
          refine g_X2_67 Cx hW (k := 135) (by decide) rfl (v := S.1 135 15) ((uA_f).trans (((hL19_ 135 rfl).1 15).trans (uF_ne (fun h => absurd h.2 (by decide))))) dX2_dropHelper_85 ?_
          refine lv_iconst (v := iv 1) hx hb dX2_dropHelper_88 (by decide) ?_
          refine r_isub hx hb dX2_dropHelper_89 ?_
          refine p_X2_67 Cx hW hL (k := 135) (by decide) rfl dX2_dropHelper_90 (fun H locs hW hL => ?_)
          have F_13 : Fr S (uF (uA S19 139 r_4 (S.2.1 139 (S.1 135 15))) 135 15 ((S.1 135 15) - 1)) pX := F_11.F rfl
          have i_14 : cX G (uF (uA S19 139 r_4 (S.2.1 139 (S.1 135 15))) 135 15 ((S.1 135 15) - 1)) 0 0 0 := i_12.F rfl rfl (show 0 ≤ (S.1 135 15) - 1 ∧ (S.1 135 15) - 1 ≤ 13 from ⟨by omega, by omega⟩)
          exact sVret Cx hr hlk hW hL ⟨i_14, F_13⟩ dX2_dropHelper_93
        · refine lv_aload_n hx hb dX2_dropHelper_27 rfl (lv_at hl 2 rfl) ?_
          refine g_X2_38 Cx hW (k := 135) (by decide) rfl (v := .ref (G.2.2.1 + 145)) (rf_135_7 hI19) dX2_dropHelper_28 ?_
          refine lv_aload_n hx hb dX2_dropHelper_31 rfl (lv_at hl 2 rfl) ?_
          obtain ⟨o_15, o_16, mo_15, mo_16, no_15, eo_15, eo_16⟩ := rm_135 hI
          refine g_X2_13 Cx hW (k := 135) (by decide) rfl (v := .ref (G.2.2.1 + o_15)) ((((hL19_ 135 rfl).2.2.2 0).trans (uF_r)).trans eo_15) dX2_dropHelper_32 ?_
          refine lv_iload_n hx hb dX2_dropHelper_35 rfl (lv_at hl 0 rfl) ?_
          refine lv_aload_n hx hb dX2_dropHelper_36 rfl (lv_at hl 2 rfl) ?_
          refine g_X2_67 Cx hW (k := 135) (by decide) rfl (v := S.1 135 15) (((hL19_ 135 rfl).1 15).trans (uF_ne (fun h => absurd h.2 (by decide)))) dX2_dropHelper_37 ?_
          refine sBi (sSt (As := [.int (iv i), .int (iv (S.1 135 15))]) (rest := [.ref (G.2.2.1 + o_15), .ref (G.2.2.1 + 145)]) Cx (s_X2_at l G S19 (i := i) (j := S.1 135 15) (by omega) (by omega)) (c_X2_77 Cx rfl rfl (rmk_ok (by omega) (by decide))) hW rfl hl.1 rfl (Nat.le_of_ble_eq_true rfl) dX2_dropHelper_40 ⟨Nat.le_of_ble_eq_true rfl, Nat.le_of_ble_eq_true rfl⟩) hL (fun r_19 u_17 H locs k_18 hW hL => ?_)
          obtain ⟨eu_17, xu_17⟩ := k_18
          rw [eu_17] at hW
          refine sBv (sV (As := [.ref (G.2.2.1 + o_15), .int (iv r_19)]) (rest := []) (k := 145) Cx (s_X0_load l G S19 (o := 145) (k := o_15) (a := r_19) (N := 4816) hI19 rfl (dic_a mo_15) (by omega)) (c_X2_106 Cx rfl rfl (rmk_ok (by omega) (by decide))) hW (by decide) rfl rfl rfl hl.1 rfl (Nat.le_of_ble_eq_true rfl) dX2_dropHelper_43 ⟨Nat.le_of_ble_eq_true rfl, Nat.le_of_ble_eq_true rfl⟩) hL (fun u_20 H locs k_21 hW hL => ?_)
          obtain ⟨iu_20, fu_20, xu_20⟩ := k_21
          have F_22 := hFm19.trans (fu_20.to (pB_sub rfl rfl))
          have F_23 := hL19_.trans (fu_20.to (pB_sub rfl rfl))
          have yu_20 : u_20.1 145 1 ≤ 6 := by have e := xu_20.1; rw [dic_L mo_15] at e; exact e
          refine lv_aload_n hx hb dX2_dropHelper_46 rfl (lv_at hl 2 rfl) ?_
          refine g_X2_38 Cx hW (k := 135) (by decide) rfl (v := .ref (G.2.2.1 + 145)) (rf_135_7 iu_20) dX2_dropHelper_47 ?_
          refine lv_aload_n hx hb dX2_dropHelper_50 rfl (lv_at hl 2 rfl) ?_
          refine g_X2_13 Cx hW (k := 135) (by decide) rfl (v := .ref (G.2.2.1 + o_15)) ((((fu_20 135 rfl).2.2.2 0).trans (((hL19_ 135 rfl).2.2.2 0).trans (uF_r))).trans eo_15) dX2_dropHelper_51 ?_
          refine lv_iload_n hx hb dX2_dropHelper_54 rfl (lv_at hl 0 rfl) ?_
          refine lv_iload_n hx hb dX2_dropHelper_55 rfl (lv_at hl 1 rfl) ?_
          refine sBi (sSt (As := [.int (iv i), .int (iv r_4)]) (rest := [.ref (G.2.2.1 + o_15), .ref (G.2.2.1 + 145)]) Cx (s_X2_at l G u_20 (i := i) (j := r_4) (by omega) (by omega)) (c_X2_77 Cx rfl rfl (rmk_ok (by omega) (by decide))) hW rfl hl.1 rfl (Nat.le_of_ble_eq_true rfl) dX2_dropHelper_56 ⟨Nat.le_of_ble_eq_true rfl, Nat.le_of_ble_eq_true rfl⟩) hL (fun r_26 u_24 H locs k_25 hW hL => ?_)
          obtain ⟨eu_24, xu_24⟩ := k_25
          rw [eu_24] at hW
          have q_27 : 0 ≤ u_20.1 145 1 ∧ u_20.1 145 1 ≤ 32 := iu_20.fi 145 1 0 (by decide) rfl
          have q_28 : (-1) ≤ u_20.1 145 2 ∧ u_20.1 145 2 ≤ 1 := iu_20.fi 145 2 0 (by decide) rfl
          refine sBv (sV (As := [.ref (G.2.2.1 + o_15), .int (iv r_26)]) (rest := []) (k := 145) Cx (s_X0_save l G u_20 (o := 145) (k := o_15) (a := r_26) (N := 4816) iu_20 rfl (dic_a mo_15) (by omega) (dicSv mo_15 (by omega)) (fun _ q => by exfalso; omega)) (c_X2_154 Cx rfl rfl (rmk_ok (by omega) (by decide))) hW (by decide) rfl rfl rfl hl.1 rfl (Nat.le_of_ble_eq_true rfl) dX2_dropHelper_59 ⟨Nat.le_of_ble_eq_true rfl, Nat.le_of_ble_eq_true rfl⟩) hL (fun u_29 H locs k_30 hW hL => ?_)
          obtain ⟨iu_29, fu_29⟩ := k_30
          have F_31 := F_22.trans (fu_29.to (p1_sub ((fun k h => pF_X k (pZ_F k h)) _ (dic_z mo_15))))
          have F_32 := F_23.trans (fu_29.to (p1_sub (dic_p mo_15)))
          refine lv_iinc (v := iv (i + 1)) (lv' := [(2, .int (iv (i + 1))), (1, .int (iv r_4)), (0, .ref (G.2.2.1 + 135))]) hx hb dX2_dropHelper_62 hl (k := 0) rfl ((Int32.ofInt_add _ _).symm) (by decide) rfl (fun ls hl => ?_)
          refine lv_goto (tgt := 19) hx hb dX2_dropHelper_65 (by decide) ?_
          exact ih_19 u_29 (i + 1) _ _ _ (by omega) iu_29 F_31 F_32 (by omega) hW hL (lv_sub hl [0, 1, 2] rfl)
    exact loop_19 (_ + 1) (uF S 135 16 0) 0 _ _ _ (Nat.lt_succ_self _) i_6 F_5 Fr.rf (by omega) hW hL (lv_sub hl [0, 1, 2] rfl)
  · exact sVret Cx hr hlk hW hL ⟨i_6, F_5⟩ dX2_dropHelper_16

set_option maxRecDepth 100000 in
set_option maxHeartbeats 4000000 in
theorem s_X2_compareProducts (l : Launch) (G : sG) (S : sS) {a b1 c1 d1 : Int} (hI : cX G S 0 0 0) (ha : a % 8 = 0 ∧ 0 ≤ a ∧ a + 7 < 4816) (hb1 : b1 % 8 = 0 ∧ 0 ≤ b1 ∧ b1 + 7 < 4816) (hc1 : c1 % 8 = 0 ∧ 0 ≤ c1 ∧ c1 + 7 < 4816) (hd1 : d1 % 8 = 0 ∧ 0 ≤ d1 ∧ d1 + 7 < 4816) : Met l yX2_compareProducts (.code yX2_compareProducts cX2_compareProducts 5 (some .int) :: tb) (rmk 4 0 0) (sPc G 294 S [.ref (G.2.2.1 + 135), .int (iv a), .int (iv b1), .int (iv c1), .int (iv d1)]) (sQi G 294 (fun r u => cX G u 0 0 0 ∧ Fr S u pZ ∧ (-1 ≤ r ∧ r ≤ 1))) 0 0 (sF G) := by
  refine sEnter (by decide) (Nat.le_of_ble_eq_true rfl) ?_
  intro p e s m args below meth c Cx hr hlk hnm hW ls hl
  have Cx : sC G p m c cX2_compareProducts 5 s args RX2 := Cx
  obtain ⟨hx, hb, hml, hown, hts⟩ := id Cx.1
  have hL : sL G [] := sL_nil
  have hl : lv_has ls 5 [(0, .ref (G.2.2.1 + 135)), (1, .int (iv a)), (2, .int (iv b1)), (3, .int (iv c1)), (4, .int (iv d1))] := hl
  have hW0 := hW
  refine lv_aload_n hx hb dX2_compareProducts_0 rfl (lv_at hl 0 rfl) ?_
  refine lv_iload_n hx hb dX2_compareProducts_1 rfl (lv_at hl 1 rfl) ?_
  obtain ⟨o_1, o_2, mo_1, mo_2, no_1, eo_1, eo_2⟩ := rm_135 hI
  refine sBi (sV (As := [.int (iv a)]) (rest := []) (k := 135) Cx (s_X2_isSmall l G S (a := a) (oc := o_1) (od := o_2) hI ⟨mo_1, mo_2, (neD no_1), eo_1, eo_2⟩ (by omega)) (c_X2_167 Cx rfl rfl (rmk_ok (by omega) (by decide))) hW (by decide) rfl rfl rfl hl.1 rfl (Nat.le_of_ble_eq_true rfl) dX2_compareProducts_2 ⟨Nat.le_of_ble_eq_true rfl, Nat.le_of_ble_eq_true rfl⟩) hL (fun r_5 u_3 H locs k_4 hW hL => ?_)
  obtain ⟨eu_3, xu_3⟩ := k_4
  rw [eu_3] at hW
  refine r_if_eq (tgt := 60) hx hb ⟨(by omega), (by omega)⟩ dX2_compareProducts_5 (by decide) (fun c_6 => ?_) (fun c_6 => ?_)
  · refine lv_aload_n hx hb dX2_compareProducts_60 rfl (lv_at hl 0 rfl) ?_
    refine g_X2_38 Cx hW (k := 135) (by decide) rfl (v := .ref (G.2.2.1 + 145)) (rf_135_7 hI) dX2_compareProducts_61 ?_
    refine lv_aload_n hx hb dX2_compareProducts_64 rfl (lv_at hl 0 rfl) ?_
    refine g_X2_13 Cx hW (k := 135) (by decide) rfl (v := .ref (G.2.2.1 + o_1)) eo_1 dX2_compareProducts_65 ?_
    refine lv_iload_n hx hb dX2_compareProducts_68 rfl (lv_at hl 1 rfl) ?_
    refine sBv (sV (As := [.ref (G.2.2.1 + o_1), .int (iv a)]) (rest := []) (k := 145) Cx (s_X0_load l G S (o := 145) (k := o_1) (a := a) (N := 4816) hI rfl (dic_a mo_1) (by omega)) (c_X2_106 Cx rfl rfl (rmk_ok (by omega) (by decide))) hW (by decide) rfl rfl rfl hl.1 rfl (Nat.le_of_ble_eq_true rfl) dX2_compareProducts_69 ⟨Nat.le_of_ble_eq_true rfl, Nat.le_of_ble_eq_true rfl⟩) hL (fun u_7 H locs k_8 hW hL => ?_)
    obtain ⟨iu_7, fu_7, xu_7⟩ := k_8
    have F_9 := (Fr.rf : Fr S S pZ).trans (fu_7.to (pB_sub rfl rfl))
    have yu_7 : u_7.1 145 1 ≤ 6 := by have e := xu_7.1; rw [dic_L mo_1] at e; exact e
    refine lv_aload_n hx hb dX2_compareProducts_72 rfl (lv_at hl 0 rfl) ?_
    refine g_X2_41 Cx hW (k := 135) (by decide) rfl (v := .ref (G.2.2.1 + 147)) (rf_135_8 iu_7) dX2_compareProducts_73 ?_
    refine lv_aload_n hx hb dX2_compareProducts_76 rfl (lv_at hl 0 rfl) ?_
    refine g_X2_13 Cx hW (k := 135) (by decide) rfl (v := .ref (G.2.2.1 + o_1)) (((fu_7 135 rfl).2.2.2 0).trans eo_1) dX2_compareProducts_77 ?_
    refine lv_iload_n hx hb dX2_compareProducts_80 rfl (lv_at hl 2 rfl) ?_
    refine sBv (sV (As := [.ref (G.2.2.1 + o_1), .int (iv b1)]) (rest := []) (k := 147) Cx (s_X0_load l G u_7 (o := 147) (k := o_1) (a := b1) (N := 4816) iu_7 rfl (dic_a mo_1) (by omega)) (c_X2_106 Cx rfl rfl (rmk_ok (by omega) (by decide))) hW (by decide) rfl rfl rfl hl.1 rfl (Nat.le_of_ble_eq_true rfl) dX2_compareProducts_81 ⟨Nat.le_of_ble_eq_true rfl, Nat.le_of_ble_eq_true rfl⟩) hL (fun u_10 H locs k_11 hW hL => ?_)
    obtain ⟨iu_10, fu_10, xu_10⟩ := k_11
    have F_12 := F_9.trans (fu_10.to (pB_sub rfl rfl))
    have yu_10 : u_10.1 147 1 ≤ 6 := by have e := xu_10.1; rw [dic_L mo_1] at e; exact e
    refine lv_aload_n hx hb dX2_compareProducts_84 rfl (lv_at hl 0 rfl) ?_
    refine g_X2_44 Cx hW (k := 135) (by decide) rfl (v := .ref (G.2.2.1 + 149)) (rf_135_9 iu_10) dX2_compareProducts_85 ?_
    refine lv_aload_n hx hb dX2_compareProducts_88 rfl (lv_at hl 0 rfl) ?_
    refine g_X2_38 Cx hW (k := 135) (by decide) rfl (v := .ref (G.2.2.1 + 145)) (rf_135_7 iu_10) dX2_compareProducts_89 ?_
    refine lv_aload_n hx hb dX2_compareProducts_92 rfl (lv_at hl 0 rfl) ?_
    refine g_X2_41 Cx hW (k := 135) (by decide) rfl (v := .ref (G.2.2.1 + 147)) (rf_135_8 iu_10) dX2_compareProducts_93 ?_
    have q_13 : 0 ≤ u_7.1 145 1 ∧ u_7.1 145 1 ≤ 32 := iu_7.fi 145 1 0 (by decide) rfl
    have lk_14 : u_10.1 145 1 = u_7.1 145 1 := (fu_10 145 rfl).1 1
    have q_15 : 0 ≤ u_10.1 147 1 ∧ u_10.1 147 1 ≤ 32 := iu_10.fi 147 1 0 (by decide) rfl
    refine sBv (sV (As := [.ref (G.2.2.1 + 145), .ref (G.2.2.1 + 147)]) (rest := []) (k := 149) Cx (s_X0_product l G u_10 (o := 149) (a := 145) (b := 147) iu_10 rfl rfl rfl (show (149 : Nat) ≠ 145 by decide) (show (149 : Nat) ≠ 147 by decide)) (c_X2_176 Cx rfl rfl (rmk_ok (by omega) (by decide))) hW (by decide) rfl rfl rfl hl.1 rfl (Nat.le_of_ble_eq_true rfl) dX2_compareProducts_96 ⟨Nat.le_of_ble_eq_true rfl, Nat.le_of_ble_eq_true rfl⟩) hL (fun u_16 H locs k_17 hW hL => ?_)
    obtain ⟨iu_16, fu_16, xu_16⟩ := k_17
    have F_18 := F_12.trans (fu_16.to (pB_sub rfl rfl))
    refine lv_aload_n hx hb dX2_compareProducts_99 rfl (lv_at hl 0 rfl) ?_
    refine g_X2_38 Cx hW (k := 135) (by decide) rfl (v := .ref (G.2.2.1 + 145)) (rf_135_7 iu_16) dX2_compareProducts_100 ?_
    refine lv_aload_n hx hb dX2_compareProducts_103 rfl (lv_at hl 0 rfl) ?_
    refine g_X2_13 Cx hW (k := 135) (by decide) rfl (v := .ref (G.2.2.1 + o_1)) ((((fu_16 135 rfl).2.2.2 0).trans (((fu_10 135 rfl).2.2.2 0).trans ((fu_7 135 rfl).2.2.2 0))).trans eo_1) dX2_compareProducts_104 ?_
    refine lv_iload_n hx hb dX2_compareProducts_107 rfl (lv_at hl 3 rfl) ?_
    refine sBv (sV (As := [.ref (G.2.2.1 + o_1), .int (iv c1)]) (rest := []) (k := 145) Cx (s_X0_load l G u_16 (o := 145) (k := o_1) (a := c1) (N := 4816) iu_16 rfl (dic_a mo_1) (by omega)) (c_X2_106 Cx rfl rfl (rmk_ok (by omega) (by decide))) hW (by decide) rfl rfl rfl hl.1 rfl (Nat.le_of_ble_eq_true rfl) dX2_compareProducts_108 ⟨Nat.le_of_ble_eq_true rfl, Nat.le_of_ble_eq_true rfl⟩) hL (fun u_19 H locs k_20 hW hL => ?_)
    obtain ⟨iu_19, fu_19, xu_19⟩ := k_20
    have F_21 := F_18.trans (fu_19.to (pB_sub rfl rfl))
    have yu_19 : u_19.1 145 1 ≤ 6 := by have e := xu_19.1; rw [dic_L mo_1] at e; exact e
    refine lv_aload_n hx hb dX2_compareProducts_111 rfl (lv_at hl 0 rfl) ?_
    refine g_X2_41 Cx hW (k := 135) (by decide) rfl (v := .ref (G.2.2.1 + 147)) (rf_135_8 iu_19) dX2_compareProducts_112 ?_
    refine lv_aload_n hx hb dX2_compareProducts_115 rfl (lv_at hl 0 rfl) ?_
    refine g_X2_13 Cx hW (k := 135) (by decide) rfl (v := .ref (G.2.2.1 + o_1)) ((((fu_19 135 rfl).2.2.2 0).trans (((fu_16 135 rfl).2.2.2 0).trans (((fu_10 135 rfl).2.2.2 0).trans ((fu_7 135 rfl).2.2.2 0)))).trans eo_1) dX2_compareProducts_116 ?_
    refine lv_iload hx hb dX2_compareProducts_119 (lv_at hl 4 rfl) ?_
    refine sBv (sV (As := [.ref (G.2.2.1 + o_1), .int (iv d1)]) (rest := []) (k := 147) Cx (s_X0_load l G u_19 (o := 147) (k := o_1) (a := d1) (N := 4816) iu_19 rfl (dic_a mo_1) (by omega)) (c_X2_106 Cx rfl rfl (rmk_ok (by omega) (by decide))) hW (by decide) rfl rfl rfl hl.1 rfl (Nat.le_of_ble_eq_true rfl) dX2_compareProducts_121 ⟨Nat.le_of_ble_eq_true rfl, Nat.le_of_ble_eq_true rfl⟩) hL (fun u_22 H locs k_23 hW hL => ?_)
    obtain ⟨iu_22, fu_22, xu_22⟩ := k_23
    have F_24 := F_21.trans (fu_22.to (pB_sub rfl rfl))
    have yu_22 : u_22.1 147 1 ≤ 6 := by have e := xu_22.1; rw [dic_L mo_1] at e; exact e
    refine lv_aload_n hx hb dX2_compareProducts_124 rfl (lv_at hl 0 rfl) ?_
    refine g_X2_47 Cx hW (k := 135) (by decide) rfl (v := .ref (G.2.2.1 + 151)) (rf_135_10 iu_22) dX2_compareProducts_125 ?_
    refine lv_aload_n hx hb dX2_compareProducts_128 rfl (lv_at hl 0 rfl) ?_
    refine g_X2_38 Cx hW (k := 135) (by decide) rfl (v := .ref (G.2.2.1 + 145)) (rf_135_7 iu_22) dX2_compareProducts_129 ?_
    refine lv_aload_n hx hb dX2_compareProducts_132 rfl (lv_at hl 0 rfl) ?_
    refine g_X2_41 Cx hW (k := 135) (by decide) rfl (v := .ref (G.2.2.1 + 147)) (rf_135_8 iu_22) dX2_compareProducts_133 ?_
    have q_25 : 0 ≤ u_19.1 145 1 ∧ u_19.1 145 1 ≤ 32 := iu_19.fi 145 1 0 (by decide) rfl
    have lk_26 : u_22.1 145 1 = u_19.1 145 1 := (fu_22 145 rfl).1 1
    have q_27 : 0 ≤ u_22.1 147 1 ∧ u_22.1 147 1 ≤ 32 := iu_22.fi 147 1 0 (by decide) rfl
    refine sBv (sV (As := [.ref (G.2.2.1 + 145), .ref (G.2.2.1 + 147)]) (rest := []) (k := 151) Cx (s_X0_product l G u_22 (o := 151) (a := 145) (b := 147) iu_22 rfl rfl rfl (show (151 : Nat) ≠ 145 by decide) (show (151 : Nat) ≠ 147 by decide)) (c_X2_176 Cx rfl rfl (rmk_ok (by omega) (by decide))) hW (by decide) rfl rfl rfl hl.1 rfl (Nat.le_of_ble_eq_true rfl) dX2_compareProducts_136 ⟨Nat.le_of_ble_eq_true rfl, Nat.le_of_ble_eq_true rfl⟩) hL (fun u_28 H locs k_29 hW hL => ?_)
    obtain ⟨iu_28, fu_28, xu_28⟩ := k_29
    have F_30 := F_24.trans (fu_28.to (pB_sub rfl rfl))
    refine lv_aload_n hx hb dX2_compareProducts_139 rfl (lv_at hl 0 rfl) ?_
    refine g_X2_44 Cx hW (k := 135) (by decide) rfl (v := .ref (G.2.2.1 + 149)) (rf_135_9 iu_28) dX2_compareProducts_140 ?_
    refine lv_aload_n hx hb dX2_compareProducts_143 rfl (lv_at hl 0 rfl) ?_
    refine g_X2_47 Cx hW (k := 135) (by decide) rfl (v := .ref (G.2.2.1 + 151)) (rf_135_10 iu_28) dX2_compareProducts_144 ?_
    refine sBi (sV (As := [.ref (G.2.2.1 + 151)]) (rest := []) (k := 149) Cx (s_X0_compareWith l G u_28 (o := 149) (a := 151) iu_28 rfl rfl) (c_X2_180 Cx rfl rfl (rmk_ok (by omega) (by decide))) hW (by decide) rfl rfl rfl hl.1 rfl (Nat.le_of_ble_eq_true rfl) dX2_compareProducts_147 ⟨Nat.le_of_ble_eq_true rfl, Nat.le_of_ble_eq_true rfl⟩) hL (fun r_33 u_31 H locs k_32 hW hL => ?_)
    obtain ⟨eu_31, xu_31⟩ := k_32
    rw [eu_31] at hW
    exact sIret Cx hr hlk hW hL ⟨iu_28, F_30, (by omega)⟩ dX2_compareProducts_150
  · refine lv_aload_n hx hb dX2_compareProducts_8 rfl (lv_at hl 0 rfl) ?_
    refine lv_iload_n hx hb dX2_compareProducts_9 rfl (lv_at hl 2 rfl) ?_
    refine sBi (sV (As := [.int (iv b1)]) (rest := []) (k := 135) Cx (s_X2_isSmall l G S (a := b1) (oc := o_1) (od := o_2) hI ⟨mo_1, mo_2, (neD no_1), eo_1, eo_2⟩ (by omega)) (c_X2_167 Cx rfl rfl (rmk_ok (by omega) (by decide))) hW (by decide) rfl rfl rfl hl.1 rfl (Nat.le_of_ble_eq_true rfl) dX2_compareProducts_10 ⟨Nat.le_of_ble_eq_true rfl, Nat.le_of_ble_eq_true rfl⟩) hL (fun r_36 u_34 H locs k_35 hW hL => ?_)
    obtain ⟨eu_34, xu_34⟩ := k_35
    rw [eu_34] at hW
    refine r_if_eq (tgt := 60) hx hb ⟨(by omega), (by omega)⟩ dX2_compareProducts_13 (by decide) (fun c_37 => ?_) (fun c_37 => ?_)
    · refine lv_aload_n hx hb dX2_compareProducts_60 rfl (lv_at hl 0 rfl) ?_
      refine g_X2_38 Cx hW (k := 135) (by decide) rfl (v := .ref (G.2.2.1 + 145)) (rf_135_7 hI) dX2_compareProducts_61 ?_
      refine lv_aload_n hx hb dX2_compareProducts_64 rfl (lv_at hl 0 rfl) ?_
      refine g_X2_13 Cx hW (k := 135) (by decide) rfl (v := .ref (G.2.2.1 + o_1)) eo_1 dX2_compareProducts_65 ?_
      refine lv_iload_n hx hb dX2_compareProducts_68 rfl (lv_at hl 1 rfl) ?_
      refine sBv (sV (As := [.ref (G.2.2.1 + o_1), .int (iv a)]) (rest := []) (k := 145) Cx (s_X0_load l G S (o := 145) (k := o_1) (a := a) (N := 4816) hI rfl (dic_a mo_1) (by omega)) (c_X2_106 Cx rfl rfl (rmk_ok (by omega) (by decide))) hW (by decide) rfl rfl rfl hl.1 rfl (Nat.le_of_ble_eq_true rfl) dX2_compareProducts_69 ⟨Nat.le_of_ble_eq_true rfl, Nat.le_of_ble_eq_true rfl⟩) hL (fun u_38 H locs k_39 hW hL => ?_)
      obtain ⟨iu_38, fu_38, xu_38⟩ := k_39
      have F_40 := (Fr.rf : Fr S S pZ).trans (fu_38.to (pB_sub rfl rfl))
      have yu_38 : u_38.1 145 1 ≤ 6 := by have e := xu_38.1; rw [dic_L mo_1] at e; exact e
      refine lv_aload_n hx hb dX2_compareProducts_72 rfl (lv_at hl 0 rfl) ?_
      refine g_X2_41 Cx hW (k := 135) (by decide) rfl (v := .ref (G.2.2.1 + 147)) (rf_135_8 iu_38) dX2_compareProducts_73 ?_
      refine lv_aload_n hx hb dX2_compareProducts_76 rfl (lv_at hl 0 rfl) ?_
      refine g_X2_13 Cx hW (k := 135) (by decide) rfl (v := .ref (G.2.2.1 + o_1)) (((fu_38 135 rfl).2.2.2 0).trans eo_1) dX2_compareProducts_77 ?_
      refine lv_iload_n hx hb dX2_compareProducts_80 rfl (lv_at hl 2 rfl) ?_
      refine sBv (sV (As := [.ref (G.2.2.1 + o_1), .int (iv b1)]) (rest := []) (k := 147) Cx (s_X0_load l G u_38 (o := 147) (k := o_1) (a := b1) (N := 4816) iu_38 rfl (dic_a mo_1) (by omega)) (c_X2_106 Cx rfl rfl (rmk_ok (by omega) (by decide))) hW (by decide) rfl rfl rfl hl.1 rfl (Nat.le_of_ble_eq_true rfl) dX2_compareProducts_81 ⟨Nat.le_of_ble_eq_true rfl, Nat.le_of_ble_eq_true rfl⟩) hL (fun u_41 H locs k_42 hW hL => ?_)
      obtain ⟨iu_41, fu_41, xu_41⟩ := k_42
      have F_43 := F_40.trans (fu_41.to (pB_sub rfl rfl))
      have yu_41 : u_41.1 147 1 ≤ 6 := by have e := xu_41.1; rw [dic_L mo_1] at e; exact e
      refine lv_aload_n hx hb dX2_compareProducts_84 rfl (lv_at hl 0 rfl) ?_
      refine g_X2_44 Cx hW (k := 135) (by decide) rfl (v := .ref (G.2.2.1 + 149)) (rf_135_9 iu_41) dX2_compareProducts_85 ?_
      refine lv_aload_n hx hb dX2_compareProducts_88 rfl (lv_at hl 0 rfl) ?_
      refine g_X2_38 Cx hW (k := 135) (by decide) rfl (v := .ref (G.2.2.1 + 145)) (rf_135_7 iu_41) dX2_compareProducts_89 ?_
      refine lv_aload_n hx hb dX2_compareProducts_92 rfl (lv_at hl 0 rfl) ?_
      refine g_X2_41 Cx hW (k := 135) (by decide) rfl (v := .ref (G.2.2.1 + 147)) (rf_135_8 iu_41) dX2_compareProducts_93 ?_
      have q_44 : 0 ≤ u_38.1 145 1 ∧ u_38.1 145 1 ≤ 32 := iu_38.fi 145 1 0 (by decide) rfl
      have lk_45 : u_41.1 145 1 = u_38.1 145 1 := (fu_41 145 rfl).1 1
      have q_46 : 0 ≤ u_41.1 147 1 ∧ u_41.1 147 1 ≤ 32 := iu_41.fi 147 1 0 (by decide) rfl
      refine sBv (sV (As := [.ref (G.2.2.1 + 145), .ref (G.2.2.1 + 147)]) (rest := []) (k := 149) Cx (s_X0_product l G u_41 (o := 149) (a := 145) (b := 147) iu_41 rfl rfl rfl (show (149 : Nat) ≠ 145 by decide) (show (149 : Nat) ≠ 147 by decide)) (c_X2_176 Cx rfl rfl (rmk_ok (by omega) (by decide))) hW (by decide) rfl rfl rfl hl.1 rfl (Nat.le_of_ble_eq_true rfl) dX2_compareProducts_96 ⟨Nat.le_of_ble_eq_true rfl, Nat.le_of_ble_eq_true rfl⟩) hL (fun u_47 H locs k_48 hW hL => ?_)
      obtain ⟨iu_47, fu_47, xu_47⟩ := k_48
      have F_49 := F_43.trans (fu_47.to (pB_sub rfl rfl))
      refine lv_aload_n hx hb dX2_compareProducts_99 rfl (lv_at hl 0 rfl) ?_
      refine g_X2_38 Cx hW (k := 135) (by decide) rfl (v := .ref (G.2.2.1 + 145)) (rf_135_7 iu_47) dX2_compareProducts_100 ?_
      refine lv_aload_n hx hb dX2_compareProducts_103 rfl (lv_at hl 0 rfl) ?_
      refine g_X2_13 Cx hW (k := 135) (by decide) rfl (v := .ref (G.2.2.1 + o_1)) ((((fu_47 135 rfl).2.2.2 0).trans (((fu_41 135 rfl).2.2.2 0).trans ((fu_38 135 rfl).2.2.2 0))).trans eo_1) dX2_compareProducts_104 ?_
      refine lv_iload_n hx hb dX2_compareProducts_107 rfl (lv_at hl 3 rfl) ?_
      refine sBv (sV (As := [.ref (G.2.2.1 + o_1), .int (iv c1)]) (rest := []) (k := 145) Cx (s_X0_load l G u_47 (o := 145) (k := o_1) (a := c1) (N := 4816) iu_47 rfl (dic_a mo_1) (by omega)) (c_X2_106 Cx rfl rfl (rmk_ok (by omega) (by decide))) hW (by decide) rfl rfl rfl hl.1 rfl (Nat.le_of_ble_eq_true rfl) dX2_compareProducts_108 ⟨Nat.le_of_ble_eq_true rfl, Nat.le_of_ble_eq_true rfl⟩) hL (fun u_50 H locs k_51 hW hL => ?_)
      obtain ⟨iu_50, fu_50, xu_50⟩ := k_51
      have F_52 := F_49.trans (fu_50.to (pB_sub rfl rfl))
      have yu_50 : u_50.1 145 1 ≤ 6 := by have e := xu_50.1; rw [dic_L mo_1] at e; exact e
      refine lv_aload_n hx hb dX2_compareProducts_111 rfl (lv_at hl 0 rfl) ?_
      refine g_X2_41 Cx hW (k := 135) (by decide) rfl (v := .ref (G.2.2.1 + 147)) (rf_135_8 iu_50) dX2_compareProducts_112 ?_
      refine lv_aload_n hx hb dX2_compareProducts_115 rfl (lv_at hl 0 rfl) ?_
      refine g_X2_13 Cx hW (k := 135) (by decide) rfl (v := .ref (G.2.2.1 + o_1)) ((((fu_50 135 rfl).2.2.2 0).trans (((fu_47 135 rfl).2.2.2 0).trans (((fu_41 135 rfl).2.2.2 0).trans ((fu_38 135 rfl).2.2.2 0)))).trans eo_1) dX2_compareProducts_116 ?_
      refine lv_iload hx hb dX2_compareProducts_119 (lv_at hl 4 rfl) ?_
      refine sBv (sV (As := [.ref (G.2.2.1 + o_1), .int (iv d1)]) (rest := []) (k := 147) Cx (s_X0_load l G u_50 (o := 147) (k := o_1) (a := d1) (N := 4816) iu_50 rfl (dic_a mo_1) (by omega)) (c_X2_106 Cx rfl rfl (rmk_ok (by omega) (by decide))) hW (by decide) rfl rfl rfl hl.1 rfl (Nat.le_of_ble_eq_true rfl) dX2_compareProducts_121 ⟨Nat.le_of_ble_eq_true rfl, Nat.le_of_ble_eq_true rfl⟩) hL (fun u_53 H locs k_54 hW hL => ?_)
      obtain ⟨iu_53, fu_53, xu_53⟩ := k_54
      have F_55 := F_52.trans (fu_53.to (pB_sub rfl rfl))
      have yu_53 : u_53.1 147 1 ≤ 6 := by have e := xu_53.1; rw [dic_L mo_1] at e; exact e
      refine lv_aload_n hx hb dX2_compareProducts_124 rfl (lv_at hl 0 rfl) ?_
      refine g_X2_47 Cx hW (k := 135) (by decide) rfl (v := .ref (G.2.2.1 + 151)) (rf_135_10 iu_53) dX2_compareProducts_125 ?_
      refine lv_aload_n hx hb dX2_compareProducts_128 rfl (lv_at hl 0 rfl) ?_
      refine g_X2_38 Cx hW (k := 135) (by decide) rfl (v := .ref (G.2.2.1 + 145)) (rf_135_7 iu_53) dX2_compareProducts_129 ?_
      refine lv_aload_n hx hb dX2_compareProducts_132 rfl (lv_at hl 0 rfl) ?_
      refine g_X2_41 Cx hW (k := 135) (by decide) rfl (v := .ref (G.2.2.1 + 147)) (rf_135_8 iu_53) dX2_compareProducts_133 ?_
      have q_56 : 0 ≤ u_50.1 145 1 ∧ u_50.1 145 1 ≤ 32 := iu_50.fi 145 1 0 (by decide) rfl
      have lk_57 : u_53.1 145 1 = u_50.1 145 1 := (fu_53 145 rfl).1 1
      have q_58 : 0 ≤ u_53.1 147 1 ∧ u_53.1 147 1 ≤ 32 := iu_53.fi 147 1 0 (by decide) rfl
      refine sBv (sV (As := [.ref (G.2.2.1 + 145), .ref (G.2.2.1 + 147)]) (rest := []) (k := 151) Cx (s_X0_product l G u_53 (o := 151) (a := 145) (b := 147) iu_53 rfl rfl rfl (show (151 : Nat) ≠ 145 by decide) (show (151 : Nat) ≠ 147 by decide)) (c_X2_176 Cx rfl rfl (rmk_ok (by omega) (by decide))) hW (by decide) rfl rfl rfl hl.1 rfl (Nat.le_of_ble_eq_true rfl) dX2_compareProducts_136 ⟨Nat.le_of_ble_eq_true rfl, Nat.le_of_ble_eq_true rfl⟩) hL (fun u_59 H locs k_60 hW hL => ?_)
      obtain ⟨iu_59, fu_59, xu_59⟩ := k_60
      have F_61 := F_55.trans (fu_59.to (pB_sub rfl rfl))
      refine lv_aload_n hx hb dX2_compareProducts_139 rfl (lv_at hl 0 rfl) ?_
      refine g_X2_44 Cx hW (k := 135) (by decide) rfl (v := .ref (G.2.2.1 + 149)) (rf_135_9 iu_59) dX2_compareProducts_140 ?_
      refine lv_aload_n hx hb dX2_compareProducts_143 rfl (lv_at hl 0 rfl) ?_
      refine g_X2_47 Cx hW (k := 135) (by decide) rfl (v := .ref (G.2.2.1 + 151)) (rf_135_10 iu_59) dX2_compareProducts_144 ?_
      refine sBi (sV (As := [.ref (G.2.2.1 + 151)]) (rest := []) (k := 149) Cx (s_X0_compareWith l G u_59 (o := 149) (a := 151) iu_59 rfl rfl) (c_X2_180 Cx rfl rfl (rmk_ok (by omega) (by decide))) hW (by decide) rfl rfl rfl hl.1 rfl (Nat.le_of_ble_eq_true rfl) dX2_compareProducts_147 ⟨Nat.le_of_ble_eq_true rfl, Nat.le_of_ble_eq_true rfl⟩) hL (fun r_64 u_62 H locs k_63 hW hL => ?_)
      obtain ⟨eu_62, xu_62⟩ := k_63
      rw [eu_62] at hW
      exact sIret Cx hr hlk hW hL ⟨iu_59, F_61, (by omega)⟩ dX2_compareProducts_150
    · refine lv_aload_n hx hb dX2_compareProducts_16 rfl (lv_at hl 0 rfl) ?_
      refine lv_iload_n hx hb dX2_compareProducts_17 rfl (lv_at hl 3 rfl) ?_
      refine sBi (sV (As := [.int (iv c1)]) (rest := []) (k := 135) Cx (s_X2_isSmall l G S (a := c1) (oc := o_1) (od := o_2) hI ⟨mo_1, mo_2, (neD no_1), eo_1, eo_2⟩ (by omega)) (c_X2_167 Cx rfl rfl (rmk_ok (by omega) (by decide))) hW (by decide) rfl rfl rfl hl.1 rfl (Nat.le_of_ble_eq_true rfl) dX2_compareProducts_18 ⟨Nat.le_of_ble_eq_true rfl, Nat.le_of_ble_eq_true rfl⟩) hL (fun r_67 u_65 H locs k_66 hW hL => ?_)
      obtain ⟨eu_65, xu_65⟩ := k_66
      rw [eu_65] at hW
      refine r_if_eq (tgt := 60) hx hb ⟨(by omega), (by omega)⟩ dX2_compareProducts_21 (by decide) (fun c_68 => ?_) (fun c_68 => ?_)
      · refine lv_aload_n hx hb dX2_compareProducts_60 rfl (lv_at hl 0 rfl) ?_
        refine g_X2_38 Cx hW (k := 135) (by decide) rfl (v := .ref (G.2.2.1 + 145)) (rf_135_7 hI) dX2_compareProducts_61 ?_
        refine lv_aload_n hx hb dX2_compareProducts_64 rfl (lv_at hl 0 rfl) ?_
        refine g_X2_13 Cx hW (k := 135) (by decide) rfl (v := .ref (G.2.2.1 + o_1)) eo_1 dX2_compareProducts_65 ?_
        refine lv_iload_n hx hb dX2_compareProducts_68 rfl (lv_at hl 1 rfl) ?_
        refine sBv (sV (As := [.ref (G.2.2.1 + o_1), .int (iv a)]) (rest := []) (k := 145) Cx (s_X0_load l G S (o := 145) (k := o_1) (a := a) (N := 4816) hI rfl (dic_a mo_1) (by omega)) (c_X2_106 Cx rfl rfl (rmk_ok (by omega) (by decide))) hW (by decide) rfl rfl rfl hl.1 rfl (Nat.le_of_ble_eq_true rfl) dX2_compareProducts_69 ⟨Nat.le_of_ble_eq_true rfl, Nat.le_of_ble_eq_true rfl⟩) hL (fun u_69 H locs k_70 hW hL => ?_)
        obtain ⟨iu_69, fu_69, xu_69⟩ := k_70
        have F_71 := (Fr.rf : Fr S S pZ).trans (fu_69.to (pB_sub rfl rfl))
        have yu_69 : u_69.1 145 1 ≤ 6 := by have e := xu_69.1; rw [dic_L mo_1] at e; exact e
        refine lv_aload_n hx hb dX2_compareProducts_72 rfl (lv_at hl 0 rfl) ?_
        refine g_X2_41 Cx hW (k := 135) (by decide) rfl (v := .ref (G.2.2.1 + 147)) (rf_135_8 iu_69) dX2_compareProducts_73 ?_
        refine lv_aload_n hx hb dX2_compareProducts_76 rfl (lv_at hl 0 rfl) ?_
        refine g_X2_13 Cx hW (k := 135) (by decide) rfl (v := .ref (G.2.2.1 + o_1)) (((fu_69 135 rfl).2.2.2 0).trans eo_1) dX2_compareProducts_77 ?_
        refine lv_iload_n hx hb dX2_compareProducts_80 rfl (lv_at hl 2 rfl) ?_
        refine sBv (sV (As := [.ref (G.2.2.1 + o_1), .int (iv b1)]) (rest := []) (k := 147) Cx (s_X0_load l G u_69 (o := 147) (k := o_1) (a := b1) (N := 4816) iu_69 rfl (dic_a mo_1) (by omega)) (c_X2_106 Cx rfl rfl (rmk_ok (by omega) (by decide))) hW (by decide) rfl rfl rfl hl.1 rfl (Nat.le_of_ble_eq_true rfl) dX2_compareProducts_81 ⟨Nat.le_of_ble_eq_true rfl, Nat.le_of_ble_eq_true rfl⟩) hL (fun u_72 H locs k_73 hW hL => ?_)
        obtain ⟨iu_72, fu_72, xu_72⟩ := k_73
        have F_74 := F_71.trans (fu_72.to (pB_sub rfl rfl))
        have yu_72 : u_72.1 147 1 ≤ 6 := by have e := xu_72.1; rw [dic_L mo_1] at e; exact e
        refine lv_aload_n hx hb dX2_compareProducts_84 rfl (lv_at hl 0 rfl) ?_
        refine g_X2_44 Cx hW (k := 135) (by decide) rfl (v := .ref (G.2.2.1 + 149)) (rf_135_9 iu_72) dX2_compareProducts_85 ?_
        refine lv_aload_n hx hb dX2_compareProducts_88 rfl (lv_at hl 0 rfl) ?_
        refine g_X2_38 Cx hW (k := 135) (by decide) rfl (v := .ref (G.2.2.1 + 145)) (rf_135_7 iu_72) dX2_compareProducts_89 ?_
        refine lv_aload_n hx hb dX2_compareProducts_92 rfl (lv_at hl 0 rfl) ?_
        refine g_X2_41 Cx hW (k := 135) (by decide) rfl (v := .ref (G.2.2.1 + 147)) (rf_135_8 iu_72) dX2_compareProducts_93 ?_
        have q_75 : 0 ≤ u_69.1 145 1 ∧ u_69.1 145 1 ≤ 32 := iu_69.fi 145 1 0 (by decide) rfl
        have lk_76 : u_72.1 145 1 = u_69.1 145 1 := (fu_72 145 rfl).1 1
        have q_77 : 0 ≤ u_72.1 147 1 ∧ u_72.1 147 1 ≤ 32 := iu_72.fi 147 1 0 (by decide) rfl
        refine sBv (sV (As := [.ref (G.2.2.1 + 145), .ref (G.2.2.1 + 147)]) (rest := []) (k := 149) Cx (s_X0_product l G u_72 (o := 149) (a := 145) (b := 147) iu_72 rfl rfl rfl (show (149 : Nat) ≠ 145 by decide) (show (149 : Nat) ≠ 147 by decide)) (c_X2_176 Cx rfl rfl (rmk_ok (by omega) (by decide))) hW (by decide) rfl rfl rfl hl.1 rfl (Nat.le_of_ble_eq_true rfl) dX2_compareProducts_96 ⟨Nat.le_of_ble_eq_true rfl, Nat.le_of_ble_eq_true rfl⟩) hL (fun u_78 H locs k_79 hW hL => ?_)
        obtain ⟨iu_78, fu_78, xu_78⟩ := k_79
        have F_80 := F_74.trans (fu_78.to (pB_sub rfl rfl))
        refine lv_aload_n hx hb dX2_compareProducts_99 rfl (lv_at hl 0 rfl) ?_
        refine g_X2_38 Cx hW (k := 135) (by decide) rfl (v := .ref (G.2.2.1 + 145)) (rf_135_7 iu_78) dX2_compareProducts_100 ?_
        refine lv_aload_n hx hb dX2_compareProducts_103 rfl (lv_at hl 0 rfl) ?_
        refine g_X2_13 Cx hW (k := 135) (by decide) rfl (v := .ref (G.2.2.1 + o_1)) ((((fu_78 135 rfl).2.2.2 0).trans (((fu_72 135 rfl).2.2.2 0).trans ((fu_69 135 rfl).2.2.2 0))).trans eo_1) dX2_compareProducts_104 ?_
        refine lv_iload_n hx hb dX2_compareProducts_107 rfl (lv_at hl 3 rfl) ?_
        refine sBv (sV (As := [.ref (G.2.2.1 + o_1), .int (iv c1)]) (rest := []) (k := 145) Cx (s_X0_load l G u_78 (o := 145) (k := o_1) (a := c1) (N := 4816) iu_78 rfl (dic_a mo_1) (by omega)) (c_X2_106 Cx rfl rfl (rmk_ok (by omega) (by decide))) hW (by decide) rfl rfl rfl hl.1 rfl (Nat.le_of_ble_eq_true rfl) dX2_compareProducts_108 ⟨Nat.le_of_ble_eq_true rfl, Nat.le_of_ble_eq_true rfl⟩) hL (fun u_81 H locs k_82 hW hL => ?_)
        obtain ⟨iu_81, fu_81, xu_81⟩ := k_82
        have F_83 := F_80.trans (fu_81.to (pB_sub rfl rfl))
        have yu_81 : u_81.1 145 1 ≤ 6 := by have e := xu_81.1; rw [dic_L mo_1] at e; exact e
        refine lv_aload_n hx hb dX2_compareProducts_111 rfl (lv_at hl 0 rfl) ?_
        refine g_X2_41 Cx hW (k := 135) (by decide) rfl (v := .ref (G.2.2.1 + 147)) (rf_135_8 iu_81) dX2_compareProducts_112 ?_
        refine lv_aload_n hx hb dX2_compareProducts_115 rfl (lv_at hl 0 rfl) ?_
        refine g_X2_13 Cx hW (k := 135) (by decide) rfl (v := .ref (G.2.2.1 + o_1)) ((((fu_81 135 rfl).2.2.2 0).trans (((fu_78 135 rfl).2.2.2 0).trans (((fu_72 135 rfl).2.2.2 0).trans ((fu_69 135 rfl).2.2.2 0)))).trans eo_1) dX2_compareProducts_116 ?_
        refine lv_iload hx hb dX2_compareProducts_119 (lv_at hl 4 rfl) ?_
        refine sBv (sV (As := [.ref (G.2.2.1 + o_1), .int (iv d1)]) (rest := []) (k := 147) Cx (s_X0_load l G u_81 (o := 147) (k := o_1) (a := d1) (N := 4816) iu_81 rfl (dic_a mo_1) (by omega)) (c_X2_106 Cx rfl rfl (rmk_ok (by omega) (by decide))) hW (by decide) rfl rfl rfl hl.1 rfl (Nat.le_of_ble_eq_true rfl) dX2_compareProducts_121 ⟨Nat.le_of_ble_eq_true rfl, Nat.le_of_ble_eq_true rfl⟩) hL (fun u_84 H locs k_85 hW hL => ?_)
        obtain ⟨iu_84, fu_84, xu_84⟩ := k_85
        have F_86 := F_83.trans (fu_84.to (pB_sub rfl rfl))
        have yu_84 : u_84.1 147 1 ≤ 6 := by have e := xu_84.1; rw [dic_L mo_1] at e; exact e
        refine lv_aload_n hx hb dX2_compareProducts_124 rfl (lv_at hl 0 rfl) ?_
        refine g_X2_47 Cx hW (k := 135) (by decide) rfl (v := .ref (G.2.2.1 + 151)) (rf_135_10 iu_84) dX2_compareProducts_125 ?_
        refine lv_aload_n hx hb dX2_compareProducts_128 rfl (lv_at hl 0 rfl) ?_
        refine g_X2_38 Cx hW (k := 135) (by decide) rfl (v := .ref (G.2.2.1 + 145)) (rf_135_7 iu_84) dX2_compareProducts_129 ?_
        refine lv_aload_n hx hb dX2_compareProducts_132 rfl (lv_at hl 0 rfl) ?_
        refine g_X2_41 Cx hW (k := 135) (by decide) rfl (v := .ref (G.2.2.1 + 147)) (rf_135_8 iu_84) dX2_compareProducts_133 ?_
        have q_87 : 0 ≤ u_81.1 145 1 ∧ u_81.1 145 1 ≤ 32 := iu_81.fi 145 1 0 (by decide) rfl
        have lk_88 : u_84.1 145 1 = u_81.1 145 1 := (fu_84 145 rfl).1 1
        have q_89 : 0 ≤ u_84.1 147 1 ∧ u_84.1 147 1 ≤ 32 := iu_84.fi 147 1 0 (by decide) rfl
        refine sBv (sV (As := [.ref (G.2.2.1 + 145), .ref (G.2.2.1 + 147)]) (rest := []) (k := 151) Cx (s_X0_product l G u_84 (o := 151) (a := 145) (b := 147) iu_84 rfl rfl rfl (show (151 : Nat) ≠ 145 by decide) (show (151 : Nat) ≠ 147 by decide)) (c_X2_176 Cx rfl rfl (rmk_ok (by omega) (by decide))) hW (by decide) rfl rfl rfl hl.1 rfl (Nat.le_of_ble_eq_true rfl) dX2_compareProducts_136 ⟨Nat.le_of_ble_eq_true rfl, Nat.le_of_ble_eq_true rfl⟩) hL (fun u_90 H locs k_91 hW hL => ?_)
        obtain ⟨iu_90, fu_90, xu_90⟩ := k_91
        have F_92 := F_86.trans (fu_90.to (pB_sub rfl rfl))
        refine lv_aload_n hx hb dX2_compareProducts_139 rfl (lv_at hl 0 rfl) ?_
        refine g_X2_44 Cx hW (k := 135) (by decide) rfl (v := .ref (G.2.2.1 + 149)) (rf_135_9 iu_90) dX2_compareProducts_140 ?_
        refine lv_aload_n hx hb dX2_compareProducts_143 rfl (lv_at hl 0 rfl) ?_
        refine g_X2_47 Cx hW (k := 135) (by decide) rfl (v := .ref (G.2.2.1 + 151)) (rf_135_10 iu_90) dX2_compareProducts_144 ?_
        refine sBi (sV (As := [.ref (G.2.2.1 + 151)]) (rest := []) (k := 149) Cx (s_X0_compareWith l G u_90 (o := 149) (a := 151) iu_90 rfl rfl) (c_X2_180 Cx rfl rfl (rmk_ok (by omega) (by decide))) hW (by decide) rfl rfl rfl hl.1 rfl (Nat.le_of_ble_eq_true rfl) dX2_compareProducts_147 ⟨Nat.le_of_ble_eq_true rfl, Nat.le_of_ble_eq_true rfl⟩) hL (fun r_95 u_93 H locs k_94 hW hL => ?_)
        obtain ⟨eu_93, xu_93⟩ := k_94
        rw [eu_93] at hW
        exact sIret Cx hr hlk hW hL ⟨iu_90, F_92, (by omega)⟩ dX2_compareProducts_150
      · refine lv_aload_n hx hb dX2_compareProducts_24 rfl (lv_at hl 0 rfl) ?_
        refine lv_iload hx hb dX2_compareProducts_25 (lv_at hl 4 rfl) ?_
        refine sBi (sV (As := [.int (iv d1)]) (rest := []) (k := 135) Cx (s_X2_isSmall l G S (a := d1) (oc := o_1) (od := o_2) hI ⟨mo_1, mo_2, (neD no_1), eo_1, eo_2⟩ (by omega)) (c_X2_167 Cx rfl rfl (rmk_ok (by omega) (by decide))) hW (by decide) rfl rfl rfl hl.1 rfl (Nat.le_of_ble_eq_true rfl) dX2_compareProducts_27 ⟨Nat.le_of_ble_eq_true rfl, Nat.le_of_ble_eq_true rfl⟩) hL (fun r_98 u_96 H locs k_97 hW hL => ?_)
        obtain ⟨eu_96, xu_96⟩ := k_97
        rw [eu_96] at hW
        refine r_if_eq (tgt := 60) hx hb ⟨(by omega), (by omega)⟩ dX2_compareProducts_30 (by decide) (fun c_99 => ?_) (fun c_99 => ?_)
        · refine lv_aload_n hx hb dX2_compareProducts_60 rfl (lv_at hl 0 rfl) ?_
          refine g_X2_38 Cx hW (k := 135) (by decide) rfl (v := .ref (G.2.2.1 + 145)) (rf_135_7 hI) dX2_compareProducts_61 ?_
          refine lv_aload_n hx hb dX2_compareProducts_64 rfl (lv_at hl 0 rfl) ?_
          refine g_X2_13 Cx hW (k := 135) (by decide) rfl (v := .ref (G.2.2.1 + o_1)) eo_1 dX2_compareProducts_65 ?_
          refine lv_iload_n hx hb dX2_compareProducts_68 rfl (lv_at hl 1 rfl) ?_
          refine sBv (sV (As := [.ref (G.2.2.1 + o_1), .int (iv a)]) (rest := []) (k := 145) Cx (s_X0_load l G S (o := 145) (k := o_1) (a := a) (N := 4816) hI rfl (dic_a mo_1) (by omega)) (c_X2_106 Cx rfl rfl (rmk_ok (by omega) (by decide))) hW (by decide) rfl rfl rfl hl.1 rfl (Nat.le_of_ble_eq_true rfl) dX2_compareProducts_69 ⟨Nat.le_of_ble_eq_true rfl, Nat.le_of_ble_eq_true rfl⟩) hL (fun u_100 H locs k_101 hW hL => ?_)
          obtain ⟨iu_100, fu_100, xu_100⟩ := k_101
          have F_102 := (Fr.rf : Fr S S pZ).trans (fu_100.to (pB_sub rfl rfl))
          have yu_100 : u_100.1 145 1 ≤ 6 := by have e := xu_100.1; rw [dic_L mo_1] at e; exact e
          refine lv_aload_n hx hb dX2_compareProducts_72 rfl (lv_at hl 0 rfl) ?_
          refine g_X2_41 Cx hW (k := 135) (by decide) rfl (v := .ref (G.2.2.1 + 147)) (rf_135_8 iu_100) dX2_compareProducts_73 ?_
          refine lv_aload_n hx hb dX2_compareProducts_76 rfl (lv_at hl 0 rfl) ?_
          refine g_X2_13 Cx hW (k := 135) (by decide) rfl (v := .ref (G.2.2.1 + o_1)) (((fu_100 135 rfl).2.2.2 0).trans eo_1) dX2_compareProducts_77 ?_
          refine lv_iload_n hx hb dX2_compareProducts_80 rfl (lv_at hl 2 rfl) ?_
          refine sBv (sV (As := [.ref (G.2.2.1 + o_1), .int (iv b1)]) (rest := []) (k := 147) Cx (s_X0_load l G u_100 (o := 147) (k := o_1) (a := b1) (N := 4816) iu_100 rfl (dic_a mo_1) (by omega)) (c_X2_106 Cx rfl rfl (rmk_ok (by omega) (by decide))) hW (by decide) rfl rfl rfl hl.1 rfl (Nat.le_of_ble_eq_true rfl) dX2_compareProducts_81 ⟨Nat.le_of_ble_eq_true rfl, Nat.le_of_ble_eq_true rfl⟩) hL (fun u_103 H locs k_104 hW hL => ?_)
          obtain ⟨iu_103, fu_103, xu_103⟩ := k_104
          have F_105 := F_102.trans (fu_103.to (pB_sub rfl rfl))
          have yu_103 : u_103.1 147 1 ≤ 6 := by have e := xu_103.1; rw [dic_L mo_1] at e; exact e
          refine lv_aload_n hx hb dX2_compareProducts_84 rfl (lv_at hl 0 rfl) ?_
          refine g_X2_44 Cx hW (k := 135) (by decide) rfl (v := .ref (G.2.2.1 + 149)) (rf_135_9 iu_103) dX2_compareProducts_85 ?_
          refine lv_aload_n hx hb dX2_compareProducts_88 rfl (lv_at hl 0 rfl) ?_
          refine g_X2_38 Cx hW (k := 135) (by decide) rfl (v := .ref (G.2.2.1 + 145)) (rf_135_7 iu_103) dX2_compareProducts_89 ?_
          refine lv_aload_n hx hb dX2_compareProducts_92 rfl (lv_at hl 0 rfl) ?_
          refine g_X2_41 Cx hW (k := 135) (by decide) rfl (v := .ref (G.2.2.1 + 147)) (rf_135_8 iu_103) dX2_compareProducts_93 ?_
          have q_106 : 0 ≤ u_100.1 145 1 ∧ u_100.1 145 1 ≤ 32 := iu_100.fi 145 1 0 (by decide) rfl
          have lk_107 : u_103.1 145 1 = u_100.1 145 1 := (fu_103 145 rfl).1 1
          have q_108 : 0 ≤ u_103.1 147 1 ∧ u_103.1 147 1 ≤ 32 := iu_103.fi 147 1 0 (by decide) rfl
          refine sBv (sV (As := [.ref (G.2.2.1 + 145), .ref (G.2.2.1 + 147)]) (rest := []) (k := 149) Cx (s_X0_product l G u_103 (o := 149) (a := 145) (b := 147) iu_103 rfl rfl rfl (show (149 : Nat) ≠ 145 by decide) (show (149 : Nat) ≠ 147 by decide)) (c_X2_176 Cx rfl rfl (rmk_ok (by omega) (by decide))) hW (by decide) rfl rfl rfl hl.1 rfl (Nat.le_of_ble_eq_true rfl) dX2_compareProducts_96 ⟨Nat.le_of_ble_eq_true rfl, Nat.le_of_ble_eq_true rfl⟩) hL (fun u_109 H locs k_110 hW hL => ?_)
          obtain ⟨iu_109, fu_109, xu_109⟩ := k_110
          have F_111 := F_105.trans (fu_109.to (pB_sub rfl rfl))
          refine lv_aload_n hx hb dX2_compareProducts_99 rfl (lv_at hl 0 rfl) ?_
          refine g_X2_38 Cx hW (k := 135) (by decide) rfl (v := .ref (G.2.2.1 + 145)) (rf_135_7 iu_109) dX2_compareProducts_100 ?_
          refine lv_aload_n hx hb dX2_compareProducts_103 rfl (lv_at hl 0 rfl) ?_
          refine g_X2_13 Cx hW (k := 135) (by decide) rfl (v := .ref (G.2.2.1 + o_1)) ((((fu_109 135 rfl).2.2.2 0).trans (((fu_103 135 rfl).2.2.2 0).trans ((fu_100 135 rfl).2.2.2 0))).trans eo_1) dX2_compareProducts_104 ?_
          refine lv_iload_n hx hb dX2_compareProducts_107 rfl (lv_at hl 3 rfl) ?_
          refine sBv (sV (As := [.ref (G.2.2.1 + o_1), .int (iv c1)]) (rest := []) (k := 145) Cx (s_X0_load l G u_109 (o := 145) (k := o_1) (a := c1) (N := 4816) iu_109 rfl (dic_a mo_1) (by omega)) (c_X2_106 Cx rfl rfl (rmk_ok (by omega) (by decide))) hW (by decide) rfl rfl rfl hl.1 rfl (Nat.le_of_ble_eq_true rfl) dX2_compareProducts_108 ⟨Nat.le_of_ble_eq_true rfl, Nat.le_of_ble_eq_true rfl⟩) hL (fun u_112 H locs k_113 hW hL => ?_)
          obtain ⟨iu_112, fu_112, xu_112⟩ := k_113
          have F_114 := F_111.trans (fu_112.to (pB_sub rfl rfl))
          have yu_112 : u_112.1 145 1 ≤ 6 := by have e := xu_112.1; rw [dic_L mo_1] at e; exact e
          refine lv_aload_n hx hb dX2_compareProducts_111 rfl (lv_at hl 0 rfl) ?_
          refine g_X2_41 Cx hW (k := 135) (by decide) rfl (v := .ref (G.2.2.1 + 147)) (rf_135_8 iu_112) dX2_compareProducts_112 ?_
          refine lv_aload_n hx hb dX2_compareProducts_115 rfl (lv_at hl 0 rfl) ?_
          refine g_X2_13 Cx hW (k := 135) (by decide) rfl (v := .ref (G.2.2.1 + o_1)) ((((fu_112 135 rfl).2.2.2 0).trans (((fu_109 135 rfl).2.2.2 0).trans (((fu_103 135 rfl).2.2.2 0).trans ((fu_100 135 rfl).2.2.2 0)))).trans eo_1) dX2_compareProducts_116 ?_
          refine lv_iload hx hb dX2_compareProducts_119 (lv_at hl 4 rfl) ?_
          refine sBv (sV (As := [.ref (G.2.2.1 + o_1), .int (iv d1)]) (rest := []) (k := 147) Cx (s_X0_load l G u_112 (o := 147) (k := o_1) (a := d1) (N := 4816) iu_112 rfl (dic_a mo_1) (by omega)) (c_X2_106 Cx rfl rfl (rmk_ok (by omega) (by decide))) hW (by decide) rfl rfl rfl hl.1 rfl (Nat.le_of_ble_eq_true rfl) dX2_compareProducts_121 ⟨Nat.le_of_ble_eq_true rfl, Nat.le_of_ble_eq_true rfl⟩) hL (fun u_115 H locs k_116 hW hL => ?_)
          obtain ⟨iu_115, fu_115, xu_115⟩ := k_116
          have F_117 := F_114.trans (fu_115.to (pB_sub rfl rfl))
          have yu_115 : u_115.1 147 1 ≤ 6 := by have e := xu_115.1; rw [dic_L mo_1] at e; exact e
          refine lv_aload_n hx hb dX2_compareProducts_124 rfl (lv_at hl 0 rfl) ?_
          refine g_X2_47 Cx hW (k := 135) (by decide) rfl (v := .ref (G.2.2.1 + 151)) (rf_135_10 iu_115) dX2_compareProducts_125 ?_
          refine lv_aload_n hx hb dX2_compareProducts_128 rfl (lv_at hl 0 rfl) ?_
          refine g_X2_38 Cx hW (k := 135) (by decide) rfl (v := .ref (G.2.2.1 + 145)) (rf_135_7 iu_115) dX2_compareProducts_129 ?_
          refine lv_aload_n hx hb dX2_compareProducts_132 rfl (lv_at hl 0 rfl) ?_
          refine g_X2_41 Cx hW (k := 135) (by decide) rfl (v := .ref (G.2.2.1 + 147)) (rf_135_8 iu_115) dX2_compareProducts_133 ?_
          have q_118 : 0 ≤ u_112.1 145 1 ∧ u_112.1 145 1 ≤ 32 := iu_112.fi 145 1 0 (by decide) rfl
          have lk_119 : u_115.1 145 1 = u_112.1 145 1 := (fu_115 145 rfl).1 1
          have q_120 : 0 ≤ u_115.1 147 1 ∧ u_115.1 147 1 ≤ 32 := iu_115.fi 147 1 0 (by decide) rfl
          refine sBv (sV (As := [.ref (G.2.2.1 + 145), .ref (G.2.2.1 + 147)]) (rest := []) (k := 151) Cx (s_X0_product l G u_115 (o := 151) (a := 145) (b := 147) iu_115 rfl rfl rfl (show (151 : Nat) ≠ 145 by decide) (show (151 : Nat) ≠ 147 by decide)) (c_X2_176 Cx rfl rfl (rmk_ok (by omega) (by decide))) hW (by decide) rfl rfl rfl hl.1 rfl (Nat.le_of_ble_eq_true rfl) dX2_compareProducts_136 ⟨Nat.le_of_ble_eq_true rfl, Nat.le_of_ble_eq_true rfl⟩) hL (fun u_121 H locs k_122 hW hL => ?_)
          obtain ⟨iu_121, fu_121, xu_121⟩ := k_122
          have F_123 := F_117.trans (fu_121.to (pB_sub rfl rfl))
          refine lv_aload_n hx hb dX2_compareProducts_139 rfl (lv_at hl 0 rfl) ?_
          refine g_X2_44 Cx hW (k := 135) (by decide) rfl (v := .ref (G.2.2.1 + 149)) (rf_135_9 iu_121) dX2_compareProducts_140 ?_
          refine lv_aload_n hx hb dX2_compareProducts_143 rfl (lv_at hl 0 rfl) ?_
          refine g_X2_47 Cx hW (k := 135) (by decide) rfl (v := .ref (G.2.2.1 + 151)) (rf_135_10 iu_121) dX2_compareProducts_144 ?_
          refine sBi (sV (As := [.ref (G.2.2.1 + 151)]) (rest := []) (k := 149) Cx (s_X0_compareWith l G u_121 (o := 149) (a := 151) iu_121 rfl rfl) (c_X2_180 Cx rfl rfl (rmk_ok (by omega) (by decide))) hW (by decide) rfl rfl rfl hl.1 rfl (Nat.le_of_ble_eq_true rfl) dX2_compareProducts_147 ⟨Nat.le_of_ble_eq_true rfl, Nat.le_of_ble_eq_true rfl⟩) hL (fun r_126 u_124 H locs k_125 hW hL => ?_)
          obtain ⟨eu_124, xu_124⟩ := k_125
          rw [eu_124] at hW
          exact sIret Cx hr hlk hW hL ⟨iu_121, F_123, (by omega)⟩ dX2_compareProducts_150
        · refine lv_aload_n hx hb dX2_compareProducts_33 rfl (lv_at hl 0 rfl) ?_
          refine lv_iload_n hx hb dX2_compareProducts_34 rfl (lv_at hl 1 rfl) ?_
          refine sBl (sV (As := [.int (iv a)]) (rest := []) (k := 135) Cx (s_X2_small l G S (a := a) (oc := o_1) (od := o_2) hI ⟨mo_1, mo_2, (neD no_1), eo_1, eo_2⟩ (by omega)) (c_X2_150 Cx rfl rfl (rmk_ok (by omega) (by decide))) hW (by decide) rfl rfl rfl hl.1 rfl (Nat.le_of_ble_eq_true rfl) dX2_compareProducts_35 ⟨Nat.le_of_ble_eq_true rfl, Nat.le_of_ble_eq_true rfl⟩) hL (fun r_129 u_127 H locs k_128 hW hL => ?_)
          obtain ⟨eu_127, xu_127⟩ := k_128
          rw [eu_127] at hW
          refine lv_aload_n hx hb dX2_compareProducts_38 rfl (lv_at hl 0 rfl) ?_
          refine lv_iload_n hx hb dX2_compareProducts_39 rfl (lv_at hl 2 rfl) ?_
          refine sBl (sV (As := [.int (iv b1)]) (rest := [.long (jv r_129)]) (k := 135) Cx (s_X2_small l G S (a := b1) (oc := o_1) (od := o_2) hI ⟨mo_1, mo_2, (neD no_1), eo_1, eo_2⟩ (by omega)) (c_X2_150 Cx rfl rfl (rmk_ok (by omega) (by decide))) hW (by decide) rfl rfl rfl hl.1 rfl (Nat.le_of_ble_eq_true rfl) dX2_compareProducts_40 ⟨Nat.le_of_ble_eq_true rfl, Nat.le_of_ble_eq_true rfl⟩) hL (fun r_132 u_130 H locs k_131 hW hL => ?_)
          obtain ⟨eu_130, xu_130⟩ := k_131
          rw [eu_130] at hW
          refine r_lmul hx hb dX2_compareProducts_43 ?_
          obtain ⟨p1, ep1⟩ : ∃ z : Int, z = r_129 * r_132 := ⟨_, rfl⟩
          refine r_j (b := p1) ep1.symm ?_
          have hp1 : -(999999999 * 999999999) ≤ p1 ∧ p1 ≤ 999999999 * 999999999 := by rw [ep1]; exact mulB (by omega) (by omega)
          refine lv_aload_n hx hb dX2_compareProducts_44 rfl (lv_at hl 0 rfl) ?_
          refine lv_iload_n hx hb dX2_compareProducts_45 rfl (lv_at hl 3 rfl) ?_
          refine sBl (sV (As := [.int (iv c1)]) (rest := [.long (jv p1)]) (k := 135) Cx (s_X2_small l G S (a := c1) (oc := o_1) (od := o_2) hI ⟨mo_1, mo_2, (neD no_1), eo_1, eo_2⟩ (by omega)) (c_X2_150 Cx rfl rfl (rmk_ok (by omega) (by decide))) hW (by decide) rfl rfl rfl hl.1 rfl (Nat.le_of_ble_eq_true rfl) dX2_compareProducts_46 ⟨Nat.le_of_ble_eq_true rfl, Nat.le_of_ble_eq_true rfl⟩) hL (fun r_135 u_133 H locs k_134 hW hL => ?_)
          obtain ⟨eu_133, xu_133⟩ := k_134
          rw [eu_133] at hW
          refine lv_aload_n hx hb dX2_compareProducts_49 rfl (lv_at hl 0 rfl) ?_
          refine lv_iload hx hb dX2_compareProducts_50 (lv_at hl 4 rfl) ?_
          refine sBl (sV (As := [.int (iv d1)]) (rest := [.long (jv r_135), .long (jv p1)]) (k := 135) Cx (s_X2_small l G S (a := d1) (oc := o_1) (od := o_2) hI ⟨mo_1, mo_2, (neD no_1), eo_1, eo_2⟩ (by omega)) (c_X2_150 Cx rfl rfl (rmk_ok (by omega) (by decide))) hW (by decide) rfl rfl rfl hl.1 rfl (Nat.le_of_ble_eq_true rfl) dX2_compareProducts_52 ⟨Nat.le_of_ble_eq_true rfl, Nat.le_of_ble_eq_true rfl⟩) hL (fun r_138 u_136 H locs k_137 hW hL => ?_)
          obtain ⟨eu_136, xu_136⟩ := k_137
          rw [eu_136] at hW
          refine r_lmul hx hb dX2_compareProducts_55 ?_
          obtain ⟨p2, ep2⟩ : ∃ z : Int, z = r_135 * r_138 := ⟨_, rfl⟩
          refine r_j (b := p2) ep2.symm ?_
          have hp2 : -(999999999 * 999999999) ≤ p2 ∧ p2 ≤ 999999999 * 999999999 := by rw [ep2]; exact mulB (by omega) (by omega)
          refine sBi (sSt (As := [.long (jv p1), .long (jv p2)]) (rest := []) Cx (t_J13_compare_74951 l G S (a := p1) (b := p2) (by omega) (by omega)) (c_X2_170 Cx rfl rfl (rmk_ok (by omega) (by decide))) hW rfl hl.1 rfl (Nat.le_of_ble_eq_true rfl) dX2_compareProducts_56 ⟨Nat.le_of_ble_eq_true rfl, Nat.le_of_ble_eq_true rfl⟩) hL (fun r_141 u_139 H locs k_140 hW hL => ?_)
          obtain ⟨eu_139, xu_139⟩ := k_140
          rw [eu_139] at hW
          exact sIret Cx hr hlk hW hL ⟨hI, (Fr.rf : Fr S S pZ), (by omega)⟩ dX2_compareProducts_59

set_option maxRecDepth 100000 in
set_option maxHeartbeats 4000000 in
theorem s_X2_leavesAhead (l : Launch) (G : sG) (S : sS) {i : Int} (hI : cX G S 0 0 0) (hrc : 1 ≤ S.1 135 17 ∧ 1 ≤ S.1 135 18) (hi : 1 ≤ i ∧ i ≤ 40) : Met l yX2_leavesAhead (.code yX2_leavesAhead cX2_leavesAhead 3 (some .boolean) :: tb) (rmk 5 0 0) (sPc G 294 S [.ref (G.2.2.1 + 135), .int (iv i)]) (sQi G 294 (fun r u => cX G u 0 0 0 ∧ Fr S u pZ ∧ (0 ≤ r ∧ r ≤ 1))) 0 0 (sF G) := by
  refine sEnter (by decide) (Nat.le_of_ble_eq_true rfl) ?_
  intro p e s m args below meth c Cx hr hlk hnm hW ls hl
  have Cx : sC G p m c cX2_leavesAhead 3 s args RX2 := Cx
  obtain ⟨hx, hb, hml, hown, hts⟩ := id Cx.1
  have hL : sL G [] := sL_nil
  have hl : lv_has ls 3 [(0, .ref (G.2.2.1 + 135)), (1, .int (iv i))] := hl
  have hW0 := hW
  refine lv_aload_n hx hb dX2_leavesAhead_0 rfl (lv_at hl 0 rfl) ?_
  refine lv_iload_n hx hb dX2_leavesAhead_1 rfl (lv_at hl 1 rfl) ?_
  refine lv_iconst (v := iv 0) hx hb dX2_leavesAhead_2 (by decide) ?_
  refine sBi (sSt (As := [.int (iv i), .int (iv 0)]) (rest := [.ref (G.2.2.1 + 135)]) Cx (s_X2_at l G S (i := i) (j := 0) (by omega) (by omega)) (c_X2_77 Cx rfl rfl (rmk_ok (by omega) (by decide))) hW rfl hl.1 rfl (Nat.le_of_ble_eq_true rfl) dX2_leavesAhead_3 ⟨Nat.le_of_ble_eq_true rfl, Nat.le_of_ble_eq_true rfl⟩) hL (fun r_3 u_1 H locs k_2 hW hL => ?_)
  obtain ⟨eu_1, xu_1⟩ := k_2
  rw [eu_1] at hW
  refine lv_aload_n hx hb dX2_leavesAhead_6 rfl (lv_at hl 0 rfl) ?_
  have q_4 : (-1) ≤ S.1 135 17 ∧ S.1 135 17 ≤ 40 := hI.fi 135 17 2 (by decide) rfl
  refine g_X2_147 Cx hW (k := 135) (by decide) rfl (v := S.1 135 17) rfl dX2_leavesAhead_7 ?_
  refine lv_aload_n hx hb dX2_leavesAhead_10 rfl (lv_at hl 0 rfl) ?_
  have q_5 : (-1) ≤ S.1 135 18 ∧ S.1 135 18 ≤ 13 := hI.fi 135 18 2 (by decide) rfl
  refine g_X2_131 Cx hW (k := 135) (by decide) rfl (v := S.1 135 18) rfl dX2_leavesAhead_11 ?_
  refine sBi (sSt (As := [.int (iv (S.1 135 17)), .int (iv (S.1 135 18))]) (rest := [.int (iv r_3), .ref (G.2.2.1 + 135)]) Cx (s_X2_at l G S (i := S.1 135 17) (j := S.1 135 18) (by omega) (by omega)) (c_X2_77 Cx rfl rfl (rmk_ok (by omega) (by decide))) hW rfl hl.1 rfl (Nat.le_of_ble_eq_true rfl) dX2_leavesAhead_14 ⟨Nat.le_of_ble_eq_true rfl, Nat.le_of_ble_eq_true rfl⟩) hL (fun r_8 u_6 H locs k_7 hW hL => ?_)
  obtain ⟨eu_6, xu_6⟩ := k_7
  rw [eu_6] at hW
  refine lv_aload_n hx hb dX2_leavesAhead_17 rfl (lv_at hl 0 rfl) ?_
  refine g_X2_147 Cx hW (k := 135) (by decide) rfl (v := S.1 135 17) rfl dX2_leavesAhead_18 ?_
  refine lv_iconst (v := iv 0) hx hb dX2_leavesAhead_21 (by decide) ?_
  refine sBi (sSt (As := [.int (iv (S.1 135 17)), .int (iv 0)]) (rest := [.int (iv r_8), .int (iv r_3), .ref (G.2.2.1 + 135)]) Cx (s_X2_at l G S (i := S.1 135 17) (j := 0) (by omega) (by omega)) (c_X2_77 Cx rfl rfl (rmk_ok (by omega) (by decide))) hW rfl hl.1 rfl (Nat.le_of_ble_eq_true rfl) dX2_leavesAhead_22 ⟨Nat.le_of_ble_eq_true rfl, Nat.le_of_ble_eq_true rfl⟩) hL (fun r_11 u_9 H locs k_10 hW hL => ?_)
  obtain ⟨eu_9, xu_9⟩ := k_10
  rw [eu_9] at hW
  refine lv_iload_n hx hb dX2_leavesAhead_25 rfl (lv_at hl 1 rfl) ?_
  refine lv_aload_n hx hb dX2_leavesAhead_26 rfl (lv_at hl 0 rfl) ?_
  refine g_X2_131 Cx hW (k := 135) (by decide) rfl (v := S.1 135 18) rfl dX2_leavesAhead_27 ?_
  refine sBi (sSt (As := [.int (iv i), .int (iv (S.1 135 18))]) (rest := [.int (iv r_11), .int (iv r_8), .int (iv r_3), .ref (G.2.2.1 + 135)]) Cx (s_X2_at l G S (i := i) (j := S.1 135 18) (by omega) (by omega)) (c_X2_77 Cx rfl rfl (rmk_ok (by omega) (by decide))) hW rfl hl.1 rfl (Nat.le_of_ble_eq_true rfl) dX2_leavesAhead_30 ⟨Nat.le_of_ble_eq_true rfl, Nat.le_of_ble_eq_true rfl⟩) hL (fun r_14 u_12 H locs k_13 hW hL => ?_)
  obtain ⟨eu_12, xu_12⟩ := k_13
  rw [eu_12] at hW
  refine sBi (sV (As := [.int (iv r_3), .int (iv r_8), .int (iv r_11), .int (iv r_14)]) (rest := []) (k := 135) Cx (s_X2_compareProducts l G S (a := r_3) (b1 := r_8) (c1 := r_11) (d1 := r_14) hI (by omega) (by omega) (by omega) (by omega)) (c_X2_160 Cx rfl rfl (rmk_ok (by omega) (by decide))) hW (by decide) rfl rfl rfl hl.1 rfl (Nat.le_of_ble_eq_true rfl) dX2_leavesAhead_33 ⟨Nat.le_of_ble_eq_true rfl, Nat.le_of_ble_eq_true rfl⟩) hL (fun r_17 u_15 H locs k_16 hW hL => ?_)
  obtain ⟨iu_15, fu_15, xu_15⟩ := k_16
  have F_18 := (Fr.rf : Fr S S pZ).trans fu_15
  refine lv_istore_n (lv' := [(2, .int (iv r_17)), (0, .ref (G.2.2.1 + 135)), (1, .int (iv i))]) hx hb dX2_leavesAhead_36 rfl hl (by decide) rfl (fun ls hl => ?_)
  refine lv_iload_n hx hb dX2_leavesAhead_37 rfl (lv_at hl 0 rfl) ?_
  refine r_if_lt (tgt := 63) hx hb ⟨(by omega), (by omega)⟩ dX2_leavesAhead_38 (by decide) (fun c_19 => ?_) (fun c_19 => ?_)
  · refine lv_iconst (v := iv 1) hx hb dX2_leavesAhead_63 (by decide) ?_
    refine lv_goto (tgt := 68) hx hb dX2_leavesAhead_64 (by decide) ?_
    exact sZret Cx hr hlk hW hL (by omega) ⟨iu_15, F_18, (by omega)⟩ dX2_leavesAhead_68
  · refine lv_iload_n hx hb dX2_leavesAhead_41 rfl (lv_at hl 0 rfl) ?_
    refine r_if_ne (tgt := 67) hx hb ⟨(by omega), (by omega)⟩ dX2_leavesAhead_42 (by decide) (fun c_20 => ?_) (fun c_20 => ?_)
    · refine lv_iconst (v := iv 0) hx hb dX2_leavesAhead_67 (by decide) ?_
      exact sZret Cx hr hlk hW hL (by omega) ⟨iu_15, F_18, (by omega)⟩ dX2_leavesAhead_68
    · refine lv_aload_n hx hb dX2_leavesAhead_45 rfl (lv_at hl 1 rfl) ?_
      refine g_X2_20 Cx hW (k := 135) (by decide) rfl (v := .ref (G.2.2.1 + 138)) (rf_135_2 iu_15) dX2_leavesAhead_46 ?_
      refine lv_iload_n hx hb dX2_leavesAhead_49 rfl (lv_at hl 2 rfl) ?_
      refine rIald Cx hW (k := 138) (by decide) rfl (by decide) (by omega) (by omega) dX2_leavesAhead_50 ?_
      have q_21 : (-2147483648) ≤ S.2.1 138 i ∧ S.2.1 138 i ≤ 2147483647 := hI.ai 138 i (by decide)
      refine r_i (b := S.2.1 138 i) ((fu_15 138 rfl).2.1 i) ?_
      refine lv_aload_n hx hb dX2_leavesAhead_51 rfl (lv_at hl 1 rfl) ?_
      refine g_X2_20 Cx hW (k := 135) (by decide) rfl (v := .ref (G.2.2.1 + 138)) (rf_135_2 iu_15) dX2_leavesAhead_52 ?_
      refine lv_aload_n hx hb dX2_leavesAhead_55 rfl (lv_at hl 1 rfl) ?_
      refine g_X2_147 Cx hW (k := 135) (by decide) rfl (v := S.1 135 17) ((fu_15 135 rfl).1 17) dX2_leavesAhead_56 ?_
      refine rIald Cx hW (k := 138) (by decide) rfl (by decide) (by omega) (by omega) dX2_leavesAhead_59 ?_
      have q_22 : (-2147483648) ≤ S.2.1 138 (S.1 135 17) ∧ S.2.1 138 (S.1 135 17) ≤ 2147483647 := hI.ai 138 (S.1 135 17) (by decide)
      refine r_i (b := S.2.1 138 (S.1 135 17)) ((fu_15 138 rfl).2.1 (S.1 135 17)) ?_
      refine r_icmp_ge (tgt := 67) hx hb ⟨(by omega), (by omega)⟩ ⟨(by omega), (by omega)⟩ dX2_leavesAhead_60 (by decide) (fun c_23 => ?_) (fun c_23 => ?_)
      · refine lv_iconst (v := iv 0) hx hb dX2_leavesAhead_67 (by decide) ?_
        exact sZret Cx hr hlk hW hL (by omega) ⟨iu_15, F_18, (by omega)⟩ dX2_leavesAhead_68
      · refine lv_iconst (v := iv 1) hx hb dX2_leavesAhead_63 (by decide) ?_
        refine lv_goto (tgt := 68) hx hb dX2_leavesAhead_64 (by decide) ?_
        exact sZret Cx hr hlk hW hL (by omega) ⟨iu_15, F_18, (by omega)⟩ dX2_leavesAhead_68

set_option maxRecDepth 100000 in
set_option maxHeartbeats 4000000 in
theorem s_X2_entersAhead (l : Launch) (G : sG) (S : sS) {j : Int} (hI : cX G S 0 0 0) (hrc : 1 ≤ S.1 135 17 ∧ 1 ≤ S.1 135 18) (hj : 1 ≤ j ∧ j ≤ 13) : Met l yX2_entersAhead (.code yX2_entersAhead cX2_entersAhead 3 (some .boolean) :: tb) (rmk 5 0 0) (sPc G 294 S [.ref (G.2.2.1 + 135), .int (iv j)]) (sQi G 294 (fun r u => cX G u 0 0 0 ∧ Fr S u pZ ∧ (0 ≤ r ∧ r ≤ 1))) 0 0 (sF G) := by
  refine sEnter (by decide) (Nat.le_of_ble_eq_true rfl) ?_
  intro p e s m args below meth c Cx hr hlk hnm hW ls hl
  have Cx : sC G p m c cX2_entersAhead 3 s args RX2 := Cx
  obtain ⟨hx, hb, hml, hown, hts⟩ := id Cx.1
  have hL : sL G [] := sL_nil
  have hl : lv_has ls 3 [(0, .ref (G.2.2.1 + 135)), (1, .int (iv j))] := hl
  have hW0 := hW
  refine lv_aload_n hx hb dX2_entersAhead_0 rfl (lv_at hl 0 rfl) ?_
  refine lv_iconst (v := iv 0) hx hb dX2_entersAhead_1 (by decide) ?_
  refine lv_aload_n hx hb dX2_entersAhead_2 rfl (lv_at hl 0 rfl) ?_
  have q_1 : (-1) ≤ S.1 135 18 ∧ S.1 135 18 ≤ 13 := hI.fi 135 18 2 (by decide) rfl
  refine g_X2_131 Cx hW (k := 135) (by decide) rfl (v := S.1 135 18) rfl dX2_entersAhead_3 ?_
  refine sBi (sSt (As := [.int (iv 0), .int (iv (S.1 135 18))]) (rest := [.ref (G.2.2.1 + 135)]) Cx (s_X2_at l G S (i := 0) (j := S.1 135 18) (by omega) (by omega)) (c_X2_77 Cx rfl rfl (rmk_ok (by omega) (by decide))) hW rfl hl.1 rfl (Nat.le_of_ble_eq_true rfl) dX2_entersAhead_6 ⟨Nat.le_of_ble_eq_true rfl, Nat.le_of_ble_eq_true rfl⟩) hL (fun r_4 u_2 H locs k_3 hW hL => ?_)
  obtain ⟨eu_2, xu_2⟩ := k_3
  rw [eu_2] at hW
  refine lv_aload_n hx hb dX2_entersAhead_9 rfl (lv_at hl 0 rfl) ?_
  have q_5 : (-1) ≤ S.1 135 17 ∧ S.1 135 17 ≤ 40 := hI.fi 135 17 2 (by decide) rfl
  refine g_X2_147 Cx hW (k := 135) (by decide) rfl (v := S.1 135 17) rfl dX2_entersAhead_10 ?_
  refine lv_iload_n hx hb dX2_entersAhead_13 rfl (lv_at hl 1 rfl) ?_
  refine sBi (sSt (As := [.int (iv (S.1 135 17)), .int (iv j)]) (rest := [.int (iv r_4), .ref (G.2.2.1 + 135)]) Cx (s_X2_at l G S (i := S.1 135 17) (j := j) (by omega) (by omega)) (c_X2_77 Cx rfl rfl (rmk_ok (by omega) (by decide))) hW rfl hl.1 rfl (Nat.le_of_ble_eq_true rfl) dX2_entersAhead_14 ⟨Nat.le_of_ble_eq_true rfl, Nat.le_of_ble_eq_true rfl⟩) hL (fun r_8 u_6 H locs k_7 hW hL => ?_)
  obtain ⟨eu_6, xu_6⟩ := k_7
  rw [eu_6] at hW
  refine lv_iconst (v := iv 0) hx hb dX2_entersAhead_17 (by decide) ?_
  refine lv_iload_n hx hb dX2_entersAhead_18 rfl (lv_at hl 1 rfl) ?_
  refine sBi (sSt (As := [.int (iv 0), .int (iv j)]) (rest := [.int (iv r_8), .int (iv r_4), .ref (G.2.2.1 + 135)]) Cx (s_X2_at l G S (i := 0) (j := j) (by omega) (by omega)) (c_X2_77 Cx rfl rfl (rmk_ok (by omega) (by decide))) hW rfl hl.1 rfl (Nat.le_of_ble_eq_true rfl) dX2_entersAhead_19 ⟨Nat.le_of_ble_eq_true rfl, Nat.le_of_ble_eq_true rfl⟩) hL (fun r_11 u_9 H locs k_10 hW hL => ?_)
  obtain ⟨eu_9, xu_9⟩ := k_10
  rw [eu_9] at hW
  refine lv_aload_n hx hb dX2_entersAhead_22 rfl (lv_at hl 0 rfl) ?_
  refine g_X2_147 Cx hW (k := 135) (by decide) rfl (v := S.1 135 17) rfl dX2_entersAhead_23 ?_
  refine lv_aload_n hx hb dX2_entersAhead_26 rfl (lv_at hl 0 rfl) ?_
  refine g_X2_131 Cx hW (k := 135) (by decide) rfl (v := S.1 135 18) rfl dX2_entersAhead_27 ?_
  refine sBi (sSt (As := [.int (iv (S.1 135 17)), .int (iv (S.1 135 18))]) (rest := [.int (iv r_11), .int (iv r_8), .int (iv r_4), .ref (G.2.2.1 + 135)]) Cx (s_X2_at l G S (i := S.1 135 17) (j := S.1 135 18) (by omega) (by omega)) (c_X2_77 Cx rfl rfl (rmk_ok (by omega) (by decide))) hW rfl hl.1 rfl (Nat.le_of_ble_eq_true rfl) dX2_entersAhead_30 ⟨Nat.le_of_ble_eq_true rfl, Nat.le_of_ble_eq_true rfl⟩) hL (fun r_14 u_12 H locs k_13 hW hL => ?_)
  obtain ⟨eu_12, xu_12⟩ := k_13
  rw [eu_12] at hW
  refine sBi (sV (As := [.int (iv r_4), .int (iv r_8), .int (iv r_11), .int (iv r_14)]) (rest := []) (k := 135) Cx (s_X2_compareProducts l G S (a := r_4) (b1 := r_8) (c1 := r_11) (d1 := r_14) hI (by omega) (by omega) (by omega) (by omega)) (c_X2_160 Cx rfl rfl (rmk_ok (by omega) (by decide))) hW (by decide) rfl rfl rfl hl.1 rfl (Nat.le_of_ble_eq_true rfl) dX2_entersAhead_33 ⟨Nat.le_of_ble_eq_true rfl, Nat.le_of_ble_eq_true rfl⟩) hL (fun r_17 u_15 H locs k_16 hW hL => ?_)
  obtain ⟨iu_15, fu_15, xu_15⟩ := k_16
  have F_18 := (Fr.rf : Fr S S pZ).trans fu_15
  refine lv_istore_n (lv' := [(2, .int (iv r_17)), (0, .ref (G.2.2.1 + 135)), (1, .int (iv j))]) hx hb dX2_entersAhead_36 rfl hl (by decide) rfl (fun ls hl => ?_)
  refine lv_iload_n hx hb dX2_entersAhead_37 rfl (lv_at hl 0 rfl) ?_
  refine r_if_lt (tgt := 63) hx hb ⟨(by omega), (by omega)⟩ dX2_entersAhead_38 (by decide) (fun c_19 => ?_) (fun c_19 => ?_)
  · refine lv_iconst (v := iv 1) hx hb dX2_entersAhead_63 (by decide) ?_
    refine lv_goto (tgt := 68) hx hb dX2_entersAhead_64 (by decide) ?_
    exact sZret Cx hr hlk hW hL (by omega) ⟨iu_15, F_18, (by omega)⟩ dX2_entersAhead_68
  · refine lv_iload_n hx hb dX2_entersAhead_41 rfl (lv_at hl 0 rfl) ?_
    refine r_if_ne (tgt := 67) hx hb ⟨(by omega), (by omega)⟩ dX2_entersAhead_42 (by decide) (fun c_20 => ?_) (fun c_20 => ?_)
    · refine lv_iconst (v := iv 0) hx hb dX2_entersAhead_67 (by decide) ?_
      exact sZret Cx hr hlk hW hL (by omega) ⟨iu_15, F_18, (by omega)⟩ dX2_entersAhead_68
    · refine lv_aload_n hx hb dX2_entersAhead_45 rfl (lv_at hl 1 rfl) ?_
      refine g_X2_23 Cx hW (k := 135) (by decide) rfl (v := .ref (G.2.2.1 + 139)) (rf_135_3 iu_15) dX2_entersAhead_46 ?_
      refine lv_iload_n hx hb dX2_entersAhead_49 rfl (lv_at hl 2 rfl) ?_
      refine rIald Cx hW (k := 139) (by decide) rfl (by decide) (by omega) (by omega) dX2_entersAhead_50 ?_
      have q_21 : (-2147483648) ≤ S.2.1 139 j ∧ S.2.1 139 j ≤ 2147483647 := hI.ai 139 j (by decide)
      refine r_i (b := S.2.1 139 j) ((fu_15 139 rfl).2.1 j) ?_
      refine lv_aload_n hx hb dX2_entersAhead_51 rfl (lv_at hl 1 rfl) ?_
      refine g_X2_23 Cx hW (k := 135) (by decide) rfl (v := .ref (G.2.2.1 + 139)) (rf_135_3 iu_15) dX2_entersAhead_52 ?_
      refine lv_aload_n hx hb dX2_entersAhead_55 rfl (lv_at hl 1 rfl) ?_
      refine g_X2_131 Cx hW (k := 135) (by decide) rfl (v := S.1 135 18) ((fu_15 135 rfl).1 18) dX2_entersAhead_56 ?_
      refine rIald Cx hW (k := 139) (by decide) rfl (by decide) (by omega) (by omega) dX2_entersAhead_59 ?_
      have q_22 : (-2147483648) ≤ S.2.1 139 (S.1 135 18) ∧ S.2.1 139 (S.1 135 18) ≤ 2147483647 := hI.ai 139 (S.1 135 18) (by decide)
      refine r_i (b := S.2.1 139 (S.1 135 18)) ((fu_15 139 rfl).2.1 (S.1 135 18)) ?_
      refine r_icmp_ge (tgt := 67) hx hb ⟨(by omega), (by omega)⟩ ⟨(by omega), (by omega)⟩ dX2_entersAhead_60 (by decide) (fun c_23 => ?_) (fun c_23 => ?_)
      · refine lv_iconst (v := iv 0) hx hb dX2_entersAhead_67 (by decide) ?_
        exact sZret Cx hr hlk hW hL (by omega) ⟨iu_15, F_18, (by omega)⟩ dX2_entersAhead_68
      · refine lv_iconst (v := iv 1) hx hb dX2_entersAhead_63 (by decide) ?_
        refine lv_goto (tgt := 68) hx hb dX2_entersAhead_64 (by decide) ?_
        exact sZret Cx hr hlk hW hL (by omega) ⟨iu_15, F_18, (by omega)⟩ dX2_entersAhead_68

set_option maxRecDepth 100000 in
set_option maxHeartbeats 4000000 in
theorem s_X2_chooseFirst (l : Launch) (G : sG) (S : sS)  (hI : cX G S 0 0 0) (hst : S.1 119 9 = 1) : Met l yX2_chooseFirst (.code yX2_chooseFirst cX2_chooseFirst 2 (some .int) :: tb) (rmk 2 0 0) (sPc G 294 S [.ref (G.2.2.1 + 135)]) (sQi G 294 (fun r u => cX G u 0 0 0 ∧ Fr S u pF ∧ (r = 1))) 0 0 (sF G) := by
  refine sEnter (by decide) (Nat.le_of_ble_eq_true rfl) ?_
  intro p e s m args below meth c Cx hr hlk hnm hW ls hl
  have Cx : sC G p m c cX2_chooseFirst 2 s args RX2 := Cx
  obtain ⟨hx, hb, hml, hown, hts⟩ := id Cx.1
  have hL : sL G [] := sL_nil
  have hl : lv_has ls 2 [(0, .ref (G.2.2.1 + 135))] := hl
  have hW0 := hW
  refine lv_aload_n hx hb dX2_chooseFirst_0 rfl (lv_at hl 0 rfl) ?_
  refine lv_iconst (v := iv 1) hx hb dX2_chooseFirst_1 (by decide) ?_
  refine p_X2_147 Cx hW hL (k := 135) (by decide) rfl dX2_chooseFirst_2 (fun H locs hW hL => ?_)
  have F_1 : Fr S (uF S 135 17 1) pF := (Fr.rf : Fr S S pF).F rfl
  have i_2 : cX G (uF S 135 17 1) 0 0 0 := hI.F rfl rfl (show (-1) ≤ 1 ∧ 1 ≤ 40 from ⟨by omega, by omega⟩)
  refine lv_iconst (v := iv 2) hx hb dX2_chooseFirst_5 (by decide) ?_
  refine lv_istore_n (lv' := [(1, .int (iv 2)), (0, .ref (G.2.2.1 + 135))]) hx hb dX2_chooseFirst_6 rfl hl (by decide) rfl (fun ls hl => ?_)
  have loop_7 : ∀ (fuel : Nat) (S7 : sS) (i : Int) (H : Heap) (locs : List Loc) (ls : Array Slot), (41 - i).toNat < fuel → (cX G S7 0 0 0) → (Fr S S7 pF) → (Fr ((uF S 135 17 1)) S7 pF) → (2 ≤ i ∧ i ≤ 41) → (1 ≤ S7.1 135 17) → sW G 294 S7 H → sL G locs → lv_has ls 2 [(1, .int (iv i)), (0, .ref (G.2.2.1 + 135))] → W p l e (rmk 2 0 0) s m args below meth c H locs 0 0 (MQ below (sQi G 294 (fun r u => cX G u 0 0 0 ∧ Fr S u pF ∧ (r = 1))) args s 0 0 (sF G)) (F0 m 7 ls []) := by
    intro fuel
    induction fuel with
    | zero => intro S7 i H locs ls hmeas hI7 hFm7 hL7_ hi hrw hW hL hl; exact absurd hmeas (Nat.not_lt_zero _)
    | succ fuel ih_7 =>
      intro S7 i H locs ls hmeas hI7 hFm7 hL7_ hi hrw hW hL hl
      refine lv_iload_n hx hb dX2_chooseFirst_7 rfl (lv_at hl 0 rfl) ?_
      refine lv_aload_n hx hb dX2_chooseFirst_8 rfl (lv_at hl 1 rfl) ?_
      have q_3 : 0 ≤ S7.1 135 14 ∧ S7.1 135 14 ≤ 40 := hI7.fi 135 14 2 (by decide) rfl
      refine g_X2_66 Cx hW (k := 135) (by decide) rfl (v := S7.1 135 14) rfl dX2_chooseFirst_9 ?_
      refine r_icmp_gt (tgt := 51) hx hb ⟨(by omega), (by omega)⟩ ⟨(by omega), (by omega)⟩ dX2_chooseFirst_12 (by decide) (fun c_4 => ?_) (fun c_4 => ?_)
      · refine lv_aload_n hx hb dX2_chooseFirst_51 rfl (lv_at hl 1 rfl) ?_
        refine lv_aload_n hx hb dX2_chooseFirst_52 rfl (lv_at hl 1 rfl) ?_
        refine lv_iconst (v := iv 0) hx hb dX2_chooseFirst_53 (by decide) ?_
        have q_5 : 0 ≤ S7.1 135 15 ∧ S7.1 135 15 ≤ 13 := hI7.fi 135 15 2 (by decide) rfl
        refine sBi (sV (As := [.int (iv 0)]) (rest := [.ref (G.2.2.1 + 135)]) (k := 135) Cx (s_X2_placeOf l G S7 (k := 0) hI7 (by omega)) (c_X2_118 Cx rfl rfl (rmk_ok (by omega) (by decide))) hW (by decide) rfl rfl rfl hl.1 rfl (Nat.le_of_ble_eq_true rfl) dX2_chooseFirst_54 ⟨Nat.le_of_ble_eq_true rfl, Nat.le_of_ble_eq_true rfl⟩) hL (fun r_8 u_6 H locs k_7 hW hL => ?_)
        obtain ⟨eu_6, xu_6⟩ := k_7
        rw [eu_6] at hW
        refine p_X2_131 Cx hW hL (k := 135) (by decide) rfl dX2_chooseFirst_57 (fun H locs hW hL => ?_)
        have q_9 : 0 ≤ S.1 119 9 ∧ S.1 119 9 ≤ 6 := hI.fi 119 9 7 (by decide) rfl
        have lk_10 : S7.1 119 9 = S.1 119 9 := ((hL7_ 119 rfl).1 9).trans (uF_ne (fun h => absurd h.2 (by decide)))
        have F_11 : Fr S (uF S7 135 18 r_8) pF := hFm7.F rfl
        have F_12 : Fr ((uF S 135 17 1)) (uF S7 135 18 r_8) pF := hL7_.F rfl
        have i_13 : cX G (uF S7 135 18 r_8) 0 0 0 := hI7.column ⟨by omega, by omega⟩ (by omega)
        refine lv_iconst (v := iv 1) hx hb dX2_chooseFirst_60 (by decide) ?_
        exact sIret Cx hr hlk hW hL ⟨i_13, F_11, (by omega)⟩ dX2_chooseFirst_61
      · refine lv_aload_n hx hb dX2_chooseFirst_15 rfl (lv_at hl 1 rfl) ?_
        refine lv_iload_n hx hb dX2_chooseFirst_16 rfl (lv_at hl 0 rfl) ?_
        refine lv_iconst (v := iv 0) hx hb dX2_chooseFirst_17 (by decide) ?_
        refine sBi (sSt (As := [.int (iv i), .int (iv 0)]) (rest := [.ref (G.2.2.1 + 135)]) Cx (s_X2_at l G S7 (i := i) (j := 0) (by omega) (by omega)) (c_X2_77 Cx rfl rfl (rmk_ok (by omega) (by decide))) hW rfl hl.1 rfl (Nat.le_of_ble_eq_true rfl) dX2_chooseFirst_18 ⟨Nat.le_of_ble_eq_true rfl, Nat.le_of_ble_eq_true rfl⟩) hL (fun r_16 u_14 H locs k_15 hW hL => ?_)
        obtain ⟨eu_14, xu_14⟩ := k_15
        rw [eu_14] at hW
        obtain ⟨o_17, o_18, mo_17, mo_18, no_17, eo_17, eo_18⟩ := rm_135 hI7
        refine sBl (sV (As := [.int (iv r_16)]) (rest := []) (k := 135) Cx (s_X2_small l G S7 (a := r_16) (oc := o_17) (od := o_18) hI7 ⟨mo_17, mo_18, (neD no_17), eo_17, eo_18⟩ (by omega)) (c_X2_150 Cx rfl rfl (rmk_ok (by omega) (by decide))) hW (by decide) rfl rfl rfl hl.1 rfl (Nat.le_of_ble_eq_true rfl) dX2_chooseFirst_21 ⟨Nat.le_of_ble_eq_true rfl, Nat.le_of_ble_eq_true rfl⟩) hL (fun r_21 u_19 H locs k_20 hW hL => ?_)
        obtain ⟨eu_19, xu_19⟩ := k_20
        rw [eu_19] at hW
        refine lv_aload_n hx hb dX2_chooseFirst_24 rfl (lv_at hl 1 rfl) ?_
        refine lv_aload_n hx hb dX2_chooseFirst_25 rfl (lv_at hl 1 rfl) ?_
        have q_22 : (-1) ≤ S7.1 135 17 ∧ S7.1 135 17 ≤ 40 := hI7.fi 135 17 2 (by decide) rfl
        refine g_X2_147 Cx hW (k := 135) (by decide) rfl (v := S7.1 135 17) rfl dX2_chooseFirst_26 ?_
        refine lv_iconst (v := iv 0) hx hb dX2_chooseFirst_29 (by decide) ?_
        refine sBi (sSt (As := [.int (iv (S7.1 135 17)), .int (iv 0)]) (rest := [.ref (G.2.2.1 + 135), .long (jv r_21)]) Cx (s_X2_at l G S7 (i := S7.1 135 17) (j := 0) (by omega) (by omega)) (c_X2_77 Cx rfl rfl (rmk_ok (by omega) (by decide))) hW rfl hl.1 rfl (Nat.le_of_ble_eq_true rfl) dX2_chooseFirst_30 ⟨Nat.le_of_ble_eq_true rfl, Nat.le_of_ble_eq_true rfl⟩) hL (fun r_25 u_23 H locs k_24 hW hL => ?_)
        obtain ⟨eu_23, xu_23⟩ := k_24
        rw [eu_23] at hW
        refine sBl (sV (As := [.int (iv r_25)]) (rest := [.long (jv r_21)]) (k := 135) Cx (s_X2_small l G S7 (a := r_25) (oc := o_17) (od := o_18) hI7 ⟨mo_17, mo_18, (neD no_17), eo_17, eo_18⟩ (by omega)) (c_X2_150 Cx rfl rfl (rmk_ok (by omega) (by decide))) hW (by decide) rfl rfl rfl hl.1 rfl (Nat.le_of_ble_eq_true rfl) dX2_chooseFirst_33 ⟨Nat.le_of_ble_eq_true rfl, Nat.le_of_ble_eq_true rfl⟩) hL (fun r_28 u_26 H locs k_27 hW hL => ?_)
        obtain ⟨eu_26, xu_26⟩ := k_27
        rw [eu_26] at hW
        refine r_lcmp hx hb ⟨(by omega), (by omega)⟩ ⟨(by omega), (by omega)⟩ dX2_chooseFirst_36 (fun z_29 az_29 bz_29 cz_29 => ?_)
        refine r_if_ge (tgt := 45) hx hb ⟨(by omega), (by omega)⟩ dX2_chooseFirst_37 (by decide) (fun c_30 => ?_) (fun c_30 => ?_)
        · refine lv_iinc (v := iv (i + 1)) (lv' := [(1, .int (iv (i + 1))), (0, .ref (G.2.2.1 + 135))]) hx hb dX2_chooseFirst_45 hl (k := 0) rfl ((Int32.ofInt_add _ _).symm) (by decide) rfl (fun ls hl => ?_)
          refine lv_goto (tgt := 7) hx hb dX2_chooseFirst_48 (by decide) ?_
          exact ih_7 S7 (i + 1) _ _ _ (by omega) hI7 hFm7 hL7_ (by omega) (by omega) hW hL (lv_sub hl [0, 1] rfl)
        · refine lv_aload_n hx hb dX2_chooseFirst_40 rfl (lv_at hl 1 rfl) ?_
          refine lv_iload_n hx hb dX2_chooseFirst_41 rfl (lv_at hl 0 rfl) ?_
          refine p_X2_147 Cx hW hL (k := 135) (by decide) rfl dX2_chooseFirst_42 (fun H locs hW hL => ?_)
          have F_31 : Fr S (uF S7 135 17 i) pF := hFm7.F rfl
          have F_32 : Fr ((uF S 135 17 1)) (uF S7 135 17 i) pF := hL7_.F rfl
          have i_33 : cX G (uF S7 135 17 i) 0 0 0 := hI7.F rfl rfl (show (-1) ≤ i ∧ i ≤ 40 from ⟨by omega, by omega⟩)
          refine lv_iinc (v := iv (i + 1)) (lv' := [(1, .int (iv (i + 1))), (0, .ref (G.2.2.1 + 135))]) hx hb dX2_chooseFirst_45 hl (k := 0) rfl ((Int32.ofInt_add _ _).symm) (by decide) rfl (fun ls hl => ?_)
          refine lv_goto (tgt := 7) hx hb dX2_chooseFirst_48 (by decide) ?_
          have lk_34 : (uF S7 135 17 i).1 135 17 = i := uF_on
          exact ih_7 (uF S7 135 17 i) (i + 1) _ _ _ (by omega) i_33 F_31 F_32 (by omega) (by omega) hW hL (lv_sub hl [0, 1] rfl)
  have lk_35 : (uF S 135 17 1).1 135 17 = 1 := uF_on
  exact loop_7 (_ + 1) (uF S 135 17 1) 2 _ _ _ (Nat.lt_succ_self _) i_2 F_1 Fr.rf (by omega) (by omega) hW hL (lv_sub hl [0, 1] rfl)

set_option maxRecDepth 100000 in
set_option maxHeartbeats 4000000 in
theorem s_X2_chooseHelperOut (l : Launch) (G : sG) (S : sS)  (hI : cX G S 0 0 0) (hst : S.1 119 9 = 1) : Met l yX2_chooseHelperOut (.code yX2_chooseHelperOut cX2_chooseHelperOut 2 (some .int) :: tb) (rmk 3 0 0) (sPc G 294 S [.ref (G.2.2.1 + 135)]) (sQi G 294 (fun r u => cX G u 0 0 0 ∧ Fr S u pF ∧ (r = 1 ∨ r = 2))) 0 0 (sF G) := by
  refine sEnter (by decide) (Nat.le_of_ble_eq_true rfl) ?_
  intro p e s m args below meth c Cx hr hlk hnm hW ls hl
  have Cx : sC G p m c cX2_chooseHelperOut 2 s args RX2 := Cx
  obtain ⟨hx, hb, hml, hown, hts⟩ := id Cx.1
  have hL : sL G [] := sL_nil
  have hl : lv_has ls 2 [(0, .ref (G.2.2.1 + 135))] := hl
  have hW0 := hW
  refine lv_aload_n hx hb dX2_chooseHelperOut_0 rfl (lv_at hl 0 rfl) ?_
  refine lv_aload_n hx hb dX2_chooseHelperOut_1 rfl (lv_at hl 0 rfl) ?_
  refine lv_iconst (v := iv 0) hx hb dX2_chooseHelperOut_2 (by decide) ?_
  have q_1 : 0 ≤ S.1 135 14 ∧ S.1 135 14 ≤ 40 := hI.fi 135 14 2 (by decide) rfl
  refine sBi (sV (As := [.int (iv 0)]) (rest := [.ref (G.2.2.1 + 135)]) (k := 135) Cx (s_X2_rowOf l G S (k := 0) hI (by omega)) (c_X2_128 Cx rfl rfl (rmk_ok (by omega) (by decide))) hW (by decide) rfl rfl rfl hl.1 rfl (Nat.le_of_ble_eq_true rfl) dX2_chooseHelperOut_3 ⟨Nat.le_of_ble_eq_true rfl, Nat.le_of_ble_eq_true rfl⟩) hL (fun r_4 u_2 H locs k_3 hW hL => ?_)
  obtain ⟨eu_2, xu_2⟩ := k_3
  rw [eu_2] at hW
  refine p_X2_147 Cx hW hL (k := 135) (by decide) rfl dX2_chooseHelperOut_6 (fun H locs hW hL => ?_)
  have F_5 : Fr S (uF S 135 17 r_4) pF := (Fr.rf : Fr S S pF).F rfl
  have i_6 : cX G (uF S 135 17 r_4) 0 0 0 := hI.F rfl rfl (show (-1) ≤ r_4 ∧ r_4 ≤ 40 from ⟨by omega, by omega⟩)
  refine lv_aload_n hx hb dX2_chooseHelperOut_9 rfl (lv_at hl 0 rfl) ?_
  refine lv_iconst (v := iv 0) hx hb dX2_chooseHelperOut_10 (by decide) ?_
  refine p_X2_131 Cx hW hL (k := 135) (by decide) rfl dX2_chooseHelperOut_11 (fun H locs hW hL => ?_)
  have q_7 : 0 ≤ S.1 119 9 ∧ S.1 119 9 ≤ 6 := hI.fi 119 9 7 (by decide) rfl
  have lk_8 : (uF S 135 17 r_4).1 119 9 = S.1 119 9 := uF_ne (fun h => absurd h.2 (by decide))
  have F_9 : Fr S (uF (uF S 135 17 r_4) 135 18 0) pF := F_5.F rfl
  have i_10 : cX G (uF (uF S 135 17 r_4) 135 18 0) 0 0 0 := i_6.column ⟨by omega, by omega⟩ (by omega)
  refine lv_iconst (v := iv 1) hx hb dX2_chooseHelperOut_14 (by decide) ?_
  refine lv_istore_n (lv' := [(1, .int (iv 1)), (0, .ref (G.2.2.1 + 135))]) hx hb dX2_chooseHelperOut_15 rfl hl (by decide) rfl (fun ls hl => ?_)
  have loop_16 : ∀ (fuel : Nat) (S16 : sS) (j : Int) (H : Heap) (locs : List Loc) (ls : Array Slot), (14 - j).toNat < fuel → (cX G S16 0 0 0) → (Fr S S16 pF) → (Fr ((uF (uF S 135 17 r_4) 135 18 0)) S16 pF) → (1 ≤ j ∧ j ≤ 14) → (0 ≤ S16.1 135 18) → sW G 294 S16 H → sL G locs → lv_has ls 2 [(1, .int (iv j)), (0, .ref (G.2.2.1 + 135))] → W p l e (rmk 3 0 0) s m args below meth c H locs 0 0 (MQ below (sQi G 294 (fun r u => cX G u 0 0 0 ∧ Fr S u pF ∧ (r = 1 ∨ r = 2))) args s 0 0 (sF G)) (F0 m 16 ls []) := by
    intro fuel
    induction fuel with
    | zero => intro S16 j H locs ls hmeas hI16 hFm16 hL16_ hj hcl hW hL hl; exact absurd hmeas (Nat.not_lt_zero _)
    | succ fuel ih_16 =>
      intro S16 j H locs ls hmeas hI16 hFm16 hL16_ hj hcl hW hL hl
      refine lv_iload_n hx hb dX2_chooseHelperOut_16 rfl (lv_at hl 0 rfl) ?_
      refine lv_aload_n hx hb dX2_chooseHelperOut_17 rfl (lv_at hl 1 rfl) ?_
      have q_11 : 0 ≤ S16.1 135 15 ∧ S16.1 135 15 ≤ 13 := hI16.fi 135 15 2 (by decide) rfl
      refine g_X2_67 Cx hW (k := 135) (by decide) rfl (v := S16.1 135 15) rfl dX2_chooseHelperOut_18 ?_
      refine r_icmp_gt (tgt := 72) hx hb ⟨(by omega), (by omega)⟩ ⟨(by omega), (by omega)⟩ dX2_chooseHelperOut_21 (by decide) (fun c_12 => ?_) (fun c_12 => ?_)
      · refine lv_aload_n hx hb dX2_chooseHelperOut_72 rfl (lv_at hl 1 rfl) ?_
        have q_13 : (-1) ≤ S16.1 135 18 ∧ S16.1 135 18 ≤ 13 := hI16.fi 135 18 2 (by decide) rfl
        refine g_X2_131 Cx hW (k := 135) (by decide) rfl (v := S16.1 135 18) rfl dX2_chooseHelperOut_73 ?_
        refine r_if_le (tgt := 83) hx hb ⟨(by omega), (by omega)⟩ dX2_chooseHelperOut_76 (by decide) (fun c_14 => ?_) (fun c_14 => ?_)
        · refine lv_iconst (v := iv 2) hx hb dX2_chooseHelperOut_83 (by decide) ?_
          exact sIret Cx hr hlk hW hL ⟨hI16, hFm16, (by omega)⟩ dX2_chooseHelperOut_84
        · refine lv_iconst (v := iv 1) hx hb dX2_chooseHelperOut_79 (by decide) ?_
          refine lv_goto (tgt := 84) hx hb dX2_chooseHelperOut_80 (by decide) ?_
          exact sIret Cx hr hlk hW hL ⟨hI16, hFm16, (by omega)⟩ dX2_chooseHelperOut_84
      · refine lv_aload_n hx hb dX2_chooseHelperOut_24 rfl (lv_at hl 1 rfl) ?_
        refine lv_aload_n hx hb dX2_chooseHelperOut_25 rfl (lv_at hl 1 rfl) ?_
        have q_15 : (-1) ≤ S16.1 135 17 ∧ S16.1 135 17 ≤ 40 := hI16.fi 135 17 2 (by decide) rfl
        refine g_X2_147 Cx hW (k := 135) (by decide) rfl (v := S16.1 135 17) rfl dX2_chooseHelperOut_26 ?_
        refine lv_iload_n hx hb dX2_chooseHelperOut_29 rfl (lv_at hl 0 rfl) ?_
        refine sBi (sV (As := [.int (iv (S16.1 135 17)), .int (iv j)]) (rest := []) (k := 135) Cx (s_X2_sign l G S16 (i := S16.1 135 17) (j := j) hI16 (by omega) (by omega)) (c_X2_95 Cx rfl rfl (rmk_ok (by omega) (by decide))) hW (by decide) rfl rfl rfl hl.1 rfl (Nat.le_of_ble_eq_true rfl) dX2_chooseHelperOut_30 ⟨Nat.le_of_ble_eq_true rfl, Nat.le_of_ble_eq_true rfl⟩) hL (fun r_18 u_16 H locs k_17 hW hL => ?_)
        obtain ⟨eu_16, xu_16⟩ := k_17
        rw [eu_16] at hW
        refine r_if_eq (tgt := 66) hx hb ⟨(by omega), (by omega)⟩ dX2_chooseHelperOut_33 (by decide) (fun c_19 => ?_) (fun c_19 => ?_)
        · refine lv_iinc (v := iv (j + 1)) (lv' := [(1, .int (iv (j + 1))), (0, .ref (G.2.2.1 + 135))]) hx hb dX2_chooseHelperOut_66 hl (k := 0) rfl ((Int32.ofInt_add _ _).symm) (by decide) rfl (fun ls hl => ?_)
          refine lv_goto (tgt := 16) hx hb dX2_chooseHelperOut_69 (by decide) ?_
          have q_20 : (-1) ≤ S16.1 135 18 ∧ S16.1 135 18 ≤ 13 := hI16.fi 135 18 2 (by decide) rfl
          exact ih_16 S16 (j + 1) _ _ _ (by omega) hI16 hFm16 hL16_ (by omega) (by omega) hW hL (lv_sub hl [0, 1] rfl)
        · refine lv_aload_n hx hb dX2_chooseHelperOut_36 rfl (lv_at hl 1 rfl) ?_
          have q_21 : (-1) ≤ S16.1 135 18 ∧ S16.1 135 18 ≤ 13 := hI16.fi 135 18 2 (by decide) rfl
          refine g_X2_131 Cx hW (k := 135) (by decide) rfl (v := S16.1 135 18) rfl dX2_chooseHelperOut_37 ?_
          refine r_if_eq (tgt := 61) hx hb ⟨(by omega), (by omega)⟩ dX2_chooseHelperOut_40 (by decide) (fun c_22 => ?_) (fun c_22 => ?_)
          · refine lv_aload_n hx hb dX2_chooseHelperOut_61 rfl (lv_at hl 1 rfl) ?_
            refine lv_iload_n hx hb dX2_chooseHelperOut_62 rfl (lv_at hl 0 rfl) ?_
            refine p_X2_131 Cx hW hL (k := 135) (by decide) rfl dX2_chooseHelperOut_63 (fun H locs hW hL => ?_)
            have lk_23 : S16.1 119 9 = S.1 119 9 := ((hL16_ 119 rfl).1 9).trans ((uF_ne (fun h => absurd h.2 (by decide))).trans (uF_ne (fun h => absurd h.2 (by decide))))
            have F_24 : Fr S (uF S16 135 18 j) pF := hFm16.F rfl
            have F_25 : Fr ((uF (uF S 135 17 r_4) 135 18 0)) (uF S16 135 18 j) pF := hL16_.F rfl
            have i_26 : cX G (uF S16 135 18 j) 0 0 0 := hI16.column ⟨by omega, by omega⟩ (by omega)
            refine lv_iinc (v := iv (j + 1)) (lv' := [(1, .int (iv (j + 1))), (0, .ref (G.2.2.1 + 135))]) hx hb dX2_chooseHelperOut_66 hl (k := 0) rfl ((Int32.ofInt_add _ _).symm) (by decide) rfl (fun ls hl => ?_)
            refine lv_goto (tgt := 16) hx hb dX2_chooseHelperOut_69 (by decide) ?_
            have lk_27 : (uF S16 135 18 j).1 135 18 = j := uF_on
            exact ih_16 (uF S16 135 18 j) (j + 1) _ _ _ (by omega) i_26 F_24 F_25 (by omega) (by omega) hW hL (lv_sub hl [0, 1] rfl)
          · refine lv_aload_n hx hb dX2_chooseHelperOut_43 rfl (lv_at hl 1 rfl) ?_
            refine g_X2_23 Cx hW (k := 135) (by decide) rfl (v := .ref (G.2.2.1 + 139)) (rf_135_3 hI16) dX2_chooseHelperOut_44 ?_
            refine lv_iload_n hx hb dX2_chooseHelperOut_47 rfl (lv_at hl 0 rfl) ?_
            refine rIald Cx hW (k := 139) (by decide) rfl (by decide) (by omega) (by omega) dX2_chooseHelperOut_48 ?_
            have q_28 : (-2147483648) ≤ S.2.1 139 j ∧ S.2.1 139 j ≤ 2147483647 := hI.ai 139 j (by decide)
            refine r_i (b := S.2.1 139 j) (((hL16_ 139 rfl).2.1 j).trans ((uF_a).trans (uF_a))) ?_
            refine lv_aload_n hx hb dX2_chooseHelperOut_49 rfl (lv_at hl 1 rfl) ?_
            refine g_X2_23 Cx hW (k := 135) (by decide) rfl (v := .ref (G.2.2.1 + 139)) (rf_135_3 hI16) dX2_chooseHelperOut_50 ?_
            refine lv_aload_n hx hb dX2_chooseHelperOut_53 rfl (lv_at hl 1 rfl) ?_
            refine g_X2_131 Cx hW (k := 135) (by decide) rfl (v := S16.1 135 18) rfl dX2_chooseHelperOut_54 ?_
            refine rIald Cx hW (k := 139) (by decide) rfl (by decide) (by omega) (by omega) dX2_chooseHelperOut_57 ?_
            have q_29 : (-2147483648) ≤ S.2.1 139 (S16.1 135 18) ∧ S.2.1 139 (S16.1 135 18) ≤ 2147483647 := hI.ai 139 (S16.1 135 18) (by decide)
            refine r_i (b := S.2.1 139 (S16.1 135 18)) (((hL16_ 139 rfl).2.1 (S16.1 135 18)).trans ((uF_a).trans (uF_a))) ?_
            refine r_icmp_ge (tgt := 66) hx hb ⟨(by omega), (by omega)⟩ ⟨(by omega), (by omega)⟩ dX2_chooseHelperOut_58 (by decide) (fun c_30 => ?_) (fun c_30 => ?_)
            · refine lv_iinc (v := iv (j + 1)) (lv' := [(1, .int (iv (j + 1))), (0, .ref (G.2.2.1 + 135))]) hx hb dX2_chooseHelperOut_66 hl (k := 0) rfl ((Int32.ofInt_add _ _).symm) (by decide) rfl (fun ls hl => ?_)
              refine lv_goto (tgt := 16) hx hb dX2_chooseHelperOut_69 (by decide) ?_
              exact ih_16 S16 (j + 1) _ _ _ (by omega) hI16 hFm16 hL16_ (by omega) (by omega) hW hL (lv_sub hl [0, 1] rfl)
            · refine lv_aload_n hx hb dX2_chooseHelperOut_61 rfl (lv_at hl 1 rfl) ?_
              refine lv_iload_n hx hb dX2_chooseHelperOut_62 rfl (lv_at hl 0 rfl) ?_
              refine p_X2_131 Cx hW hL (k := 135) (by decide) rfl dX2_chooseHelperOut_63 (fun H locs hW hL => ?_)
              have lk_31 : S16.1 119 9 = S.1 119 9 := ((hL16_ 119 rfl).1 9).trans ((uF_ne (fun h => absurd h.2 (by decide))).trans (uF_ne (fun h => absurd h.2 (by decide))))
              have F_32 : Fr S (uF S16 135 18 j) pF := hFm16.F rfl
              have F_33 : Fr ((uF (uF S 135 17 r_4) 135 18 0)) (uF S16 135 18 j) pF := hL16_.F rfl
              have i_34 : cX G (uF S16 135 18 j) 0 0 0 := hI16.column ⟨by omega, by omega⟩ (by omega)
              refine lv_iinc (v := iv (j + 1)) (lv' := [(1, .int (iv (j + 1))), (0, .ref (G.2.2.1 + 135))]) hx hb dX2_chooseHelperOut_66 hl (k := 0) rfl ((Int32.ofInt_add _ _).symm) (by decide) rfl (fun ls hl => ?_)
              refine lv_goto (tgt := 16) hx hb dX2_chooseHelperOut_69 (by decide) ?_
              have lk_35 : (uF S16 135 18 j).1 135 18 = j := uF_on
              exact ih_16 (uF S16 135 18 j) (j + 1) _ _ _ (by omega) i_34 F_32 F_33 (by omega) (by omega) hW hL (lv_sub hl [0, 1] rfl)
  have lk_36 : (uF (uF S 135 17 r_4) 135 18 0).1 135 18 = 0 := uF_on
  exact loop_16 (_ + 1) (uF (uF S 135 17 r_4) 135 18 0) 1 _ _ _ (Nat.lt_succ_self _) i_10 F_9 Fr.rf (by omega) (by omega) hW hL (lv_sub hl [0, 1] rfl)

set_option maxRecDepth 100000 in
set_option maxHeartbeats 4000000 in
theorem s_X2_chooseUp (l : Launch) (G : sG) (S : sS) {gl : Int} (hI : cX G S 0 0 0) (hst : S.1 119 9 = 1) (hgl : -1 ≤ gl ∧ gl ≤ 0) : Met l yX2_chooseUp (.code yX2_chooseUp cX2_chooseUp 3 (some .int) :: tb) (rmk 6 0 0) (sPc G 294 S [.ref (G.2.2.1 + 135), .int (iv gl)]) (sQi G 294 (fun r u => cX G u 0 0 0 ∧ Fr S u pF ∧ (0 ≤ r ∧ r ≤ 2 ∧ (r = 2 → 1 ≤ u.1 135 18)))) 0 0 (sF G) := by
  refine sEnter (by decide) (Nat.le_of_ble_eq_true rfl) ?_
  intro p e s m args below meth c Cx hr hlk hnm hW ls hl
  have Cx : sC G p m c cX2_chooseUp 3 s args RX2 := Cx
  obtain ⟨hx, hb, hml, hown, hts⟩ := id Cx.1
  have hL : sL G [] := sL_nil
  have hl : lv_has ls 3 [(0, .ref (G.2.2.1 + 135)), (1, .int (iv gl))] := hl
  have hW0 := hW
  refine lv_aload_n hx hb dX2_chooseUp_0 rfl (lv_at hl 0 rfl) ?_
  refine lv_iconst (v := iv 0) hx hb dX2_chooseUp_1 (by decide) ?_
  refine p_X2_131 Cx hW hL (k := 135) (by decide) rfl dX2_chooseUp_2 (fun H locs hW hL => ?_)
  have q_1 : 0 ≤ S.1 119 9 ∧ S.1 119 9 ≤ 6 := hI.fi 119 9 7 (by decide) rfl
  have F_2 : Fr S (uF S 135 18 0) pF := (Fr.rf : Fr S S pF).F rfl
  have i_3 : cX G (uF S 135 18 0) 0 0 0 := hI.column ⟨by omega, by omega⟩ (by omega)
  refine lv_iconst (v := iv 1) hx hb dX2_chooseUp_5 (by decide) ?_
  refine lv_istore_n (lv' := [(2, .int (iv 1)), (0, .ref (G.2.2.1 + 135)), (1, .int (iv gl))]) hx hb dX2_chooseUp_6 rfl hl (by decide) rfl (fun ls hl => ?_)
  have loop_7 : ∀ (fuel : Nat) (S7 : sS) (j : Int) (H : Heap) (locs : List Loc) (ls : Array Slot), (14 - j).toNat < fuel → (cX G S7 0 0 0) → (Fr S S7 pF) → (Fr ((uF S 135 18 0)) S7 pF) → (1 ≤ j ∧ j ≤ 14) → (0 ≤ S7.1 135 18) → sW G 294 S7 H → sL G locs → lv_has ls 3 [(2, .int (iv j)), (0, .ref (G.2.2.1 + 135)), (1, .int (iv gl))] → W p l e (rmk 6 0 0) s m args below meth c H locs 0 0 (MQ below (sQi G 294 (fun r u => cX G u 0 0 0 ∧ Fr S u pF ∧ (0 ≤ r ∧ r ≤ 2 ∧ (r = 2 → 1 ≤ u.1 135 18)))) args s 0 0 (sF G)) (F0 m 7 ls []) := by
    intro fuel
    induction fuel with
    | zero => intro S7 j H locs ls hmeas hI7 hFm7 hL7_ hj hcl hW hL hl; exact absurd hmeas (Nat.not_lt_zero _)
    | succ fuel ih_7 =>
      intro S7 j H locs ls hmeas hI7 hFm7 hL7_ hj hcl hW hL hl
      refine lv_iload_n hx hb dX2_chooseUp_7 rfl (lv_at hl 0 rfl) ?_
      refine lv_aload_n hx hb dX2_chooseUp_8 rfl (lv_at hl 1 rfl) ?_
      have q_4 : 0 ≤ S7.1 135 15 ∧ S7.1 135 15 ≤ 13 := hI7.fi 135 15 2 (by decide) rfl
      refine g_X2_67 Cx hW (k := 135) (by decide) rfl (v := S7.1 135 15) rfl dX2_chooseUp_9 ?_
      refine r_icmp_gt (tgt := 60) hx hb ⟨(by omega), (by omega)⟩ ⟨(by omega), (by omega)⟩ dX2_chooseUp_12 (by decide) (fun c_5 => ?_) (fun c_5 => ?_)
      · refine lv_aload_n hx hb dX2_chooseUp_60 rfl (lv_at hl 1 rfl) ?_
        have q_6 : (-1) ≤ S7.1 135 18 ∧ S7.1 135 18 ≤ 13 := hI7.fi 135 18 2 (by decide) rfl
        refine g_X2_131 Cx hW (k := 135) (by decide) rfl (v := S7.1 135 18) rfl dX2_chooseUp_61 ?_
        refine r_if_ne (tgt := 69) hx hb ⟨(by omega), (by omega)⟩ dX2_chooseUp_64 (by decide) (fun c_7 => ?_) (fun c_7 => ?_)
        · refine lv_aload_n hx hb dX2_chooseUp_69 rfl (lv_at hl 1 rfl) ?_
          refine lv_iconst (v := iv 0) hx hb dX2_chooseUp_70 (by decide) ?_
          refine p_X2_147 Cx hW hL (k := 135) (by decide) rfl dX2_chooseUp_71 (fun H locs hW hL => ?_)
          have F_8 : Fr S (uF S7 135 17 0) pF := hFm7.F rfl
          have F_9 : Fr ((uF S 135 18 0)) (uF S7 135 17 0) pF := hL7_.F rfl
          have i_10 : cX G (uF S7 135 17 0) 0 0 0 := hI7.F rfl rfl (show (-1) ≤ 0 ∧ 0 ≤ 40 from ⟨by omega, by omega⟩)
          refine lv_iconst (v := iv 1) hx hb dX2_chooseUp_74 (by decide) ?_
          refine lv_istore_n (lv' := [(2, .int (iv 1)), (0, .ref (G.2.2.1 + 135)), (1, .int (iv gl))]) hx hb dX2_chooseUp_75 rfl hl (by decide) rfl (fun ls hl => ?_)
          have loop_76 : ∀ (fuel : Nat) (S76 : sS) (i : Int) (H : Heap) (locs : List Loc) (ls : Array Slot), (41 - i).toNat < fuel → (cX G S76 0 0 0) → (Fr S S76 pF) → (Fr ((uF S 135 18 0)) S76 pF) → (Fr ((uF S7 135 17 0)) S76 pF) → (1 ≤ i ∧ i ≤ 41) → (1 ≤ S76.1 135 18) → (0 ≤ S76.1 135 17) → sW G 294 S76 H → sL G locs → lv_has ls 3 [(2, .int (iv i)), (0, .ref (G.2.2.1 + 135)), (1, .int (iv gl))] → W p l e (rmk 6 0 0) s m args below meth c H locs 0 0 (MQ below (sQi G 294 (fun r u => cX G u 0 0 0 ∧ Fr S u pF ∧ (0 ≤ r ∧ r ≤ 2 ∧ (r = 2 → 1 ≤ u.1 135 18)))) args s 0 0 (sF G)) (F0 m 76 ls []) := by
            intro fuel
            induction fuel with
            | zero => intro S76 i H locs ls hmeas hI76 hFm76 hFL776 hL76_ hi hcl2 hrw hW hL hl; exact absurd hmeas (Nat.not_lt_zero _)
            | succ fuel ih_76 =>
              intro S76 i H locs ls hmeas hI76 hFm76 hFL776 hL76_ hi hcl2 hrw hW hL hl
              refine lv_iload_n hx hb dX2_chooseUp_76 rfl (lv_at hl 0 rfl) ?_
              refine lv_aload_n hx hb dX2_chooseUp_77 rfl (lv_at hl 1 rfl) ?_
              have q_11 : 0 ≤ S76.1 135 14 ∧ S76.1 135 14 ≤ 40 := hI76.fi 135 14 2 (by decide) rfl
              refine g_X2_66 Cx hW (k := 135) (by decide) rfl (v := S76.1 135 14) rfl dX2_chooseUp_78 ?_
              refine r_icmp_gt (tgt := 122) hx hb ⟨(by omega), (by omega)⟩ ⟨(by omega), (by omega)⟩ dX2_chooseUp_81 (by decide) (fun c_12 => ?_) (fun c_12 => ?_)
              · refine lv_aload_n hx hb dX2_chooseUp_122 rfl (lv_at hl 1 rfl) ?_
                have q_13 : (-1) ≤ S76.1 135 17 ∧ S76.1 135 17 ≤ 40 := hI76.fi 135 17 2 (by decide) rfl
                refine g_X2_147 Cx hW (k := 135) (by decide) rfl (v := S76.1 135 17) rfl dX2_chooseUp_123 ?_
                refine r_if_le (tgt := 133) hx hb ⟨(by omega), (by omega)⟩ dX2_chooseUp_126 (by decide) (fun c_14 => ?_) (fun c_14 => ?_)
                · refine lv_iconst (v := iv 2) hx hb dX2_chooseUp_133 (by decide) ?_
                  have q_15 : (-1) ≤ S76.1 135 18 ∧ S76.1 135 18 ≤ 13 := hI76.fi 135 18 2 (by decide) rfl
                  exact sIret Cx hr hlk hW hL ⟨hI76, hFm76, (by omega)⟩ dX2_chooseUp_134
                · refine lv_iconst (v := iv 1) hx hb dX2_chooseUp_129 (by decide) ?_
                  refine lv_goto (tgt := 134) hx hb dX2_chooseUp_130 (by decide) ?_
                  have q_16 : (-1) ≤ S76.1 135 18 ∧ S76.1 135 18 ≤ 13 := hI76.fi 135 18 2 (by decide) rfl
                  exact sIret Cx hr hlk hW hL ⟨hI76, hFm76, (by omega)⟩ dX2_chooseUp_134
              · refine lv_aload_n hx hb dX2_chooseUp_84 rfl (lv_at hl 1 rfl) ?_
                refine lv_iload_n hx hb dX2_chooseUp_85 rfl (lv_at hl 0 rfl) ?_
                refine lv_aload_n hx hb dX2_chooseUp_86 rfl (lv_at hl 1 rfl) ?_
                have q_17 : (-1) ≤ S76.1 135 18 ∧ S76.1 135 18 ≤ 13 := hI76.fi 135 18 2 (by decide) rfl
                refine g_X2_131 Cx hW (k := 135) (by decide) rfl (v := S76.1 135 18) rfl dX2_chooseUp_87 ?_
                refine sBi (sV (As := [.int (iv i), .int (iv (S76.1 135 18))]) (rest := []) (k := 135) Cx (s_X2_sign l G S76 (i := i) (j := S76.1 135 18) hI76 (by omega) (by omega)) (c_X2_95 Cx rfl rfl (rmk_ok (by omega) (by decide))) hW (by decide) rfl rfl rfl hl.1 rfl (Nat.le_of_ble_eq_true rfl) dX2_chooseUp_90 ⟨Nat.le_of_ble_eq_true rfl, Nat.le_of_ble_eq_true rfl⟩) hL (fun r_20 u_18 H locs k_19 hW hL => ?_)
                obtain ⟨eu_18, xu_18⟩ := k_19
                rw [eu_18] at hW
                refine r_if_le (tgt := 116) hx hb ⟨(by omega), (by omega)⟩ dX2_chooseUp_93 (by decide) (fun c_21 => ?_) (fun c_21 => ?_)
                · refine lv_iinc (v := iv (i + 1)) (lv' := [(2, .int (iv (i + 1))), (0, .ref (G.2.2.1 + 135)), (1, .int (iv gl))]) hx hb dX2_chooseUp_116 hl (k := 0) rfl ((Int32.ofInt_add _ _).symm) (by decide) rfl (fun ls hl => ?_)
                  refine lv_goto (tgt := 76) hx hb dX2_chooseUp_119 (by decide) ?_
                  have q_22 : (-1) ≤ S76.1 135 17 ∧ S76.1 135 17 ≤ 40 := hI76.fi 135 17 2 (by decide) rfl
                  exact ih_76 S76 (i + 1) _ _ _ (by omega) hI76 hFm76 hFL776 hL76_ (by omega) (by omega) (by omega) hW hL (lv_sub hl [0, 1, 2] rfl)
                · refine lv_aload_n hx hb dX2_chooseUp_96 rfl (lv_at hl 1 rfl) ?_
                  have q_23 : (-1) ≤ S76.1 135 17 ∧ S76.1 135 17 ≤ 40 := hI76.fi 135 17 2 (by decide) rfl
                  refine g_X2_147 Cx hW (k := 135) (by decide) rfl (v := S76.1 135 17) rfl dX2_chooseUp_97 ?_
                  refine r_if_eq (tgt := 111) hx hb ⟨(by omega), (by omega)⟩ dX2_chooseUp_100 (by decide) (fun c_24 => ?_) (fun c_24 => ?_)
                  · refine lv_aload_n hx hb dX2_chooseUp_111 rfl (lv_at hl 1 rfl) ?_
                    refine lv_iload_n hx hb dX2_chooseUp_112 rfl (lv_at hl 0 rfl) ?_
                    refine p_X2_147 Cx hW hL (k := 135) (by decide) rfl dX2_chooseUp_113 (fun H locs hW hL => ?_)
                    have F_25 : Fr S (uF S76 135 17 i) pF := hFm76.F rfl
                    have F_26 : Fr ((uF S 135 18 0)) (uF S76 135 17 i) pF := hFL776.F rfl
                    have F_27 : Fr ((uF S7 135 17 0)) (uF S76 135 17 i) pF := hL76_.F rfl
                    have i_28 : cX G (uF S76 135 17 i) 0 0 0 := hI76.F rfl rfl (show (-1) ≤ i ∧ i ≤ 40 from ⟨by omega, by omega⟩)
                    refine lv_iinc (v := iv (i + 1)) (lv' := [(2, .int (iv (i + 1))), (0, .ref (G.2.2.1 + 135)), (1, .int (iv gl))]) hx hb dX2_chooseUp_116 hl (k := 0) rfl ((Int32.ofInt_add _ _).symm) (by decide) rfl (fun ls hl => ?_)
                    refine lv_goto (tgt := 76) hx hb dX2_chooseUp_119 (by decide) ?_
                    have lk_29 : (uF S76 135 17 i).1 135 18 = S76.1 135 18 := uF_ne (fun h => absurd h.2 (by decide))
                    have lk_30 : (uF S76 135 17 i).1 135 17 = i := uF_on
                    exact ih_76 (uF S76 135 17 i) (i + 1) _ _ _ (by omega) i_28 F_25 F_26 F_27 (by omega) (by omega) (by omega) hW hL (lv_sub hl [0, 1, 2] rfl)
                  · refine lv_aload_n hx hb dX2_chooseUp_103 rfl (lv_at hl 1 rfl) ?_
                    refine lv_iload_n hx hb dX2_chooseUp_104 rfl (lv_at hl 0 rfl) ?_
                    refine sBi (sV (As := [.int (iv i)]) (rest := []) (k := 135) Cx (s_X2_leavesAhead l G S76 (i := i) hI76 (by omega) (by omega)) (c_X2_157 Cx rfl rfl (rmk_ok (by omega) (by decide))) hW (by decide) rfl rfl rfl hl.1 rfl (Nat.le_of_ble_eq_true rfl) dX2_chooseUp_105 ⟨Nat.le_of_ble_eq_true rfl, Nat.le_of_ble_eq_true rfl⟩) hL (fun r_33 u_31 H locs k_32 hW hL => ?_)
                    obtain ⟨iu_31, fu_31, xu_31⟩ := k_32
                    have F_34 := hFm76.trans (fu_31.to pZ_F)
                    have F_35 := hFL776.trans (fu_31.to pZ_F)
                    have F_36 := hL76_.trans (fu_31.to pZ_F)
                    refine r_if_eq (tgt := 116) hx hb ⟨(by omega), (by omega)⟩ dX2_chooseUp_108 (by decide) (fun c_37 => ?_) (fun c_37 => ?_)
                    · refine lv_iinc (v := iv (i + 1)) (lv' := [(2, .int (iv (i + 1))), (0, .ref (G.2.2.1 + 135)), (1, .int (iv gl))]) hx hb dX2_chooseUp_116 hl (k := 0) rfl ((Int32.ofInt_add _ _).symm) (by decide) rfl (fun ls hl => ?_)
                      refine lv_goto (tgt := 76) hx hb dX2_chooseUp_119 (by decide) ?_
                      have lk_38 : u_31.1 135 18 = S76.1 135 18 := (fu_31 135 rfl).1 18
                      have lk_39 : u_31.1 135 17 = S76.1 135 17 := (fu_31 135 rfl).1 17
                      exact ih_76 u_31 (i + 1) _ _ _ (by omega) iu_31 F_34 F_35 F_36 (by omega) (by omega) (by omega) hW hL (lv_sub hl [0, 1, 2] rfl)
                    · refine lv_aload_n hx hb dX2_chooseUp_111 rfl (lv_at hl 1 rfl) ?_
                      refine lv_iload_n hx hb dX2_chooseUp_112 rfl (lv_at hl 0 rfl) ?_
                      refine p_X2_147 Cx hW hL (k := 135) (by decide) rfl dX2_chooseUp_113 (fun H locs hW hL => ?_)
                      have F_40 : Fr S (uF u_31 135 17 i) pF := F_34.F rfl
                      have F_41 : Fr ((uF S 135 18 0)) (uF u_31 135 17 i) pF := F_35.F rfl
                      have F_42 : Fr ((uF S7 135 17 0)) (uF u_31 135 17 i) pF := F_36.F rfl
                      have i_43 : cX G (uF u_31 135 17 i) 0 0 0 := iu_31.F rfl rfl (show (-1) ≤ i ∧ i ≤ 40 from ⟨by omega, by omega⟩)
                      refine lv_iinc (v := iv (i + 1)) (lv' := [(2, .int (iv (i + 1))), (0, .ref (G.2.2.1 + 135)), (1, .int (iv gl))]) hx hb dX2_chooseUp_116 hl (k := 0) rfl ((Int32.ofInt_add _ _).symm) (by decide) rfl (fun ls hl => ?_)
                      refine lv_goto (tgt := 76) hx hb dX2_chooseUp_119 (by decide) ?_
                      have lk_44 : (uF u_31 135 17 i).1 135 18 = S76.1 135 18 := (uF_ne (fun h => absurd h.2 (by decide))).trans ((fu_31 135 rfl).1 18)
                      have lk_45 : (uF u_31 135 17 i).1 135 17 = i := uF_on
                      exact ih_76 (uF u_31 135 17 i) (i + 1) _ _ _ (by omega) i_43 F_40 F_41 F_42 (by omega) (by omega) (by omega) hW hL (lv_sub hl [0, 1, 2] rfl)
          have lk_46 : (uF S7 135 17 0).1 135 18 = S7.1 135 18 := uF_ne (fun h => absurd h.2 (by decide))
          have lk_47 : (uF S7 135 17 0).1 135 17 = 0 := uF_on
          exact loop_76 (_ + 1) (uF S7 135 17 0) 1 _ _ _ (Nat.lt_succ_self _) i_10 F_8 F_9 Fr.rf (by omega) (by omega) (by omega) hW hL (lv_sub hl [0, 1, 2] rfl)
        · refine lv_iconst (v := iv 0) hx hb dX2_chooseUp_67 (by decide) ?_
          exact sIret Cx hr hlk hW hL ⟨hI7, hFm7, (by omega)⟩ dX2_chooseUp_68
      · refine lv_aload_n hx hb dX2_chooseUp_15 rfl (lv_at hl 1 rfl) ?_
        refine lv_iload_n hx hb dX2_chooseUp_16 rfl (lv_at hl 2 rfl) ?_
        refine lv_iload_n hx hb dX2_chooseUp_17 rfl (lv_at hl 0 rfl) ?_
        refine sBi (sV (As := [.int (iv gl), .int (iv j)]) (rest := []) (k := 135) Cx (s_X2_sign l G S7 (i := gl) (j := j) hI7 (by omega) (by omega)) (c_X2_95 Cx rfl rfl (rmk_ok (by omega) (by decide))) hW (by decide) rfl rfl rfl hl.1 rfl (Nat.le_of_ble_eq_true rfl) dX2_chooseUp_18 ⟨Nat.le_of_ble_eq_true rfl, Nat.le_of_ble_eq_true rfl⟩) hL (fun r_50 u_48 H locs k_49 hW hL => ?_)
        obtain ⟨eu_48, xu_48⟩ := k_49
        rw [eu_48] at hW
        refine r_if_ge (tgt := 54) hx hb ⟨(by omega), (by omega)⟩ dX2_chooseUp_21 (by decide) (fun c_51 => ?_) (fun c_51 => ?_)
        · refine lv_iinc (v := iv (j + 1)) (lv' := [(2, .int (iv (j + 1))), (0, .ref (G.2.2.1 + 135)), (1, .int (iv gl))]) hx hb dX2_chooseUp_54 hl (k := 0) rfl ((Int32.ofInt_add _ _).symm) (by decide) rfl (fun ls hl => ?_)
          refine lv_goto (tgt := 7) hx hb dX2_chooseUp_57 (by decide) ?_
          have q_52 : (-1) ≤ S7.1 135 18 ∧ S7.1 135 18 ≤ 13 := hI7.fi 135 18 2 (by decide) rfl
          exact ih_7 S7 (j + 1) _ _ _ (by omega) hI7 hFm7 hL7_ (by omega) (by omega) hW hL (lv_sub hl [0, 1, 2] rfl)
        · refine lv_aload_n hx hb dX2_chooseUp_24 rfl (lv_at hl 1 rfl) ?_
          have q_53 : (-1) ≤ S7.1 135 18 ∧ S7.1 135 18 ≤ 13 := hI7.fi 135 18 2 (by decide) rfl
          refine g_X2_131 Cx hW (k := 135) (by decide) rfl (v := S7.1 135 18) rfl dX2_chooseUp_25 ?_
          refine r_if_eq (tgt := 49) hx hb ⟨(by omega), (by omega)⟩ dX2_chooseUp_28 (by decide) (fun c_54 => ?_) (fun c_54 => ?_)
          · refine lv_aload_n hx hb dX2_chooseUp_49 rfl (lv_at hl 1 rfl) ?_
            refine lv_iload_n hx hb dX2_chooseUp_50 rfl (lv_at hl 0 rfl) ?_
            refine p_X2_131 Cx hW hL (k := 135) (by decide) rfl dX2_chooseUp_51 (fun H locs hW hL => ?_)
            have lk_55 : S7.1 119 9 = S.1 119 9 := ((hL7_ 119 rfl).1 9).trans (uF_ne (fun h => absurd h.2 (by decide)))
            have F_56 : Fr S (uF S7 135 18 j) pF := hFm7.F rfl
            have F_57 : Fr ((uF S 135 18 0)) (uF S7 135 18 j) pF := hL7_.F rfl
            have i_58 : cX G (uF S7 135 18 j) 0 0 0 := hI7.column ⟨by omega, by omega⟩ (by omega)
            refine lv_iinc (v := iv (j + 1)) (lv' := [(2, .int (iv (j + 1))), (0, .ref (G.2.2.1 + 135)), (1, .int (iv gl))]) hx hb dX2_chooseUp_54 hl (k := 0) rfl ((Int32.ofInt_add _ _).symm) (by decide) rfl (fun ls hl => ?_)
            refine lv_goto (tgt := 7) hx hb dX2_chooseUp_57 (by decide) ?_
            have lk_59 : (uF S7 135 18 j).1 135 18 = j := uF_on
            exact ih_7 (uF S7 135 18 j) (j + 1) _ _ _ (by omega) i_58 F_56 F_57 (by omega) (by omega) hW hL (lv_sub hl [0, 1, 2] rfl)
          · refine lv_aload_n hx hb dX2_chooseUp_31 rfl (lv_at hl 1 rfl) ?_
            refine g_X2_23 Cx hW (k := 135) (by decide) rfl (v := .ref (G.2.2.1 + 139)) (rf_135_3 hI7) dX2_chooseUp_32 ?_
            refine lv_iload_n hx hb dX2_chooseUp_35 rfl (lv_at hl 0 rfl) ?_
            refine rIald Cx hW (k := 139) (by decide) rfl (by decide) (by omega) (by omega) dX2_chooseUp_36 ?_
            have q_60 : (-2147483648) ≤ S.2.1 139 j ∧ S.2.1 139 j ≤ 2147483647 := hI.ai 139 j (by decide)
            refine r_i (b := S.2.1 139 j) (((hL7_ 139 rfl).2.1 j).trans (uF_a)) ?_
            refine lv_aload_n hx hb dX2_chooseUp_37 rfl (lv_at hl 1 rfl) ?_
            refine g_X2_23 Cx hW (k := 135) (by decide) rfl (v := .ref (G.2.2.1 + 139)) (rf_135_3 hI7) dX2_chooseUp_38 ?_
            refine lv_aload_n hx hb dX2_chooseUp_41 rfl (lv_at hl 1 rfl) ?_
            refine g_X2_131 Cx hW (k := 135) (by decide) rfl (v := S7.1 135 18) rfl dX2_chooseUp_42 ?_
            refine rIald Cx hW (k := 139) (by decide) rfl (by decide) (by omega) (by omega) dX2_chooseUp_45 ?_
            have q_61 : (-2147483648) ≤ S.2.1 139 (S7.1 135 18) ∧ S.2.1 139 (S7.1 135 18) ≤ 2147483647 := hI.ai 139 (S7.1 135 18) (by decide)
            refine r_i (b := S.2.1 139 (S7.1 135 18)) (((hL7_ 139 rfl).2.1 (S7.1 135 18)).trans (uF_a)) ?_
            refine r_icmp_ge (tgt := 54) hx hb ⟨(by omega), (by omega)⟩ ⟨(by omega), (by omega)⟩ dX2_chooseUp_46 (by decide) (fun c_62 => ?_) (fun c_62 => ?_)
            · refine lv_iinc (v := iv (j + 1)) (lv' := [(2, .int (iv (j + 1))), (0, .ref (G.2.2.1 + 135)), (1, .int (iv gl))]) hx hb dX2_chooseUp_54 hl (k := 0) rfl ((Int32.ofInt_add _ _).symm) (by decide) rfl (fun ls hl => ?_)
              refine lv_goto (tgt := 7) hx hb dX2_chooseUp_57 (by decide) ?_
              exact ih_7 S7 (j + 1) _ _ _ (by omega) hI7 hFm7 hL7_ (by omega) (by omega) hW hL (lv_sub hl [0, 1, 2] rfl)
            · refine lv_aload_n hx hb dX2_chooseUp_49 rfl (lv_at hl 1 rfl) ?_
              refine lv_iload_n hx hb dX2_chooseUp_50 rfl (lv_at hl 0 rfl) ?_
              refine p_X2_131 Cx hW hL (k := 135) (by decide) rfl dX2_chooseUp_51 (fun H locs hW hL => ?_)
              have lk_63 : S7.1 119 9 = S.1 119 9 := ((hL7_ 119 rfl).1 9).trans (uF_ne (fun h => absurd h.2 (by decide)))
              have F_64 : Fr S (uF S7 135 18 j) pF := hFm7.F rfl
              have F_65 : Fr ((uF S 135 18 0)) (uF S7 135 18 j) pF := hL7_.F rfl
              have i_66 : cX G (uF S7 135 18 j) 0 0 0 := hI7.column ⟨by omega, by omega⟩ (by omega)
              refine lv_iinc (v := iv (j + 1)) (lv' := [(2, .int (iv (j + 1))), (0, .ref (G.2.2.1 + 135)), (1, .int (iv gl))]) hx hb dX2_chooseUp_54 hl (k := 0) rfl ((Int32.ofInt_add _ _).symm) (by decide) rfl (fun ls hl => ?_)
              refine lv_goto (tgt := 7) hx hb dX2_chooseUp_57 (by decide) ?_
              have lk_67 : (uF S7 135 18 j).1 135 18 = j := uF_on
              exact ih_7 (uF S7 135 18 j) (j + 1) _ _ _ (by omega) i_66 F_64 F_65 (by omega) (by omega) hW hL (lv_sub hl [0, 1, 2] rfl)
  have lk_68 : (uF S 135 18 0).1 135 18 = 0 := uF_on
  exact loop_7 (_ + 1) (uF S 135 18 0) 1 _ _ _ (Nat.lt_succ_self _) i_3 F_2 Fr.rf (by omega) (by omega) hW hL (lv_sub hl [0, 1, 2] rfl)

set_option maxRecDepth 100000 in
set_option maxHeartbeats 4000000 in
theorem s_X2_chooseDown (l : Launch) (G : sG) (S : sS)  (hI : cX G S 0 0 0) (hst : S.1 119 9 = 1) : Met l yX2_chooseDown (.code yX2_chooseDown cX2_chooseDown 2 (some .int) :: tb) (rmk 6 0 0) (sPc G 294 S [.ref (G.2.2.1 + 135)]) (sQi G 294 (fun r u => cX G u 0 0 0 ∧ Fr S u pF ∧ (0 ≤ r ∧ r ≤ 2))) 0 0 (sF G) := by
  refine sEnter (by decide) (Nat.le_of_ble_eq_true rfl) ?_
  intro p e s m args below meth c Cx hr hlk hnm hW ls hl
  have Cx : sC G p m c cX2_chooseDown 2 s args RX2 := Cx
  obtain ⟨hx, hb, hml, hown, hts⟩ := id Cx.1
  have hL : sL G [] := sL_nil
  have hl : lv_has ls 2 [(0, .ref (G.2.2.1 + 135))] := hl
  have hW0 := hW
  refine lv_aload_n hx hb dX2_chooseDown_0 rfl (lv_at hl 0 rfl) ?_
  refine lv_iconst (v := iv 0) hx hb dX2_chooseDown_1 (by decide) ?_
  refine p_X2_147 Cx hW hL (k := 135) (by decide) rfl dX2_chooseDown_2 (fun H locs hW hL => ?_)
  have F_1 : Fr S (uF S 135 17 0) pF := (Fr.rf : Fr S S pF).F rfl
  have i_2 : cX G (uF S 135 17 0) 0 0 0 := hI.F rfl rfl (show (-1) ≤ 0 ∧ 0 ≤ 40 from ⟨by omega, by omega⟩)
  refine lv_iconst (v := iv 1) hx hb dX2_chooseDown_5 (by decide) ?_
  refine lv_istore_n (lv' := [(1, .int (iv 1)), (0, .ref (G.2.2.1 + 135))]) hx hb dX2_chooseDown_6 rfl hl (by decide) rfl (fun ls hl => ?_)
  have loop_7 : ∀ (fuel : Nat) (S7 : sS) (i : Int) (H : Heap) (locs : List Loc) (ls : Array Slot), (41 - i).toNat < fuel → (cX G S7 0 0 0) → (Fr S S7 pF) → (Fr ((uF S 135 17 0)) S7 pF) → (1 ≤ i ∧ i ≤ 41) → (0 ≤ S7.1 135 17) → sW G 294 S7 H → sL G locs → lv_has ls 2 [(1, .int (iv i)), (0, .ref (G.2.2.1 + 135))] → W p l e (rmk 6 0 0) s m args below meth c H locs 0 0 (MQ below (sQi G 294 (fun r u => cX G u 0 0 0 ∧ Fr S u pF ∧ (0 ≤ r ∧ r ≤ 2))) args s 0 0 (sF G)) (F0 m 7 ls []) := by
    intro fuel
    induction fuel with
    | zero => intro S7 i H locs ls hmeas hI7 hFm7 hL7_ hi hrw hW hL hl; exact absurd hmeas (Nat.not_lt_zero _)
    | succ fuel ih_7 =>
      intro S7 i H locs ls hmeas hI7 hFm7 hL7_ hi hrw hW hL hl
      refine lv_iload_n hx hb dX2_chooseDown_7 rfl (lv_at hl 0 rfl) ?_
      refine lv_aload_n hx hb dX2_chooseDown_8 rfl (lv_at hl 1 rfl) ?_
      have q_3 : 0 ≤ S7.1 135 14 ∧ S7.1 135 14 ≤ 40 := hI7.fi 135 14 2 (by decide) rfl
      refine g_X2_66 Cx hW (k := 135) (by decide) rfl (v := S7.1 135 14) rfl dX2_chooseDown_9 ?_
      refine r_icmp_gt (tgt := 60) hx hb ⟨(by omega), (by omega)⟩ ⟨(by omega), (by omega)⟩ dX2_chooseDown_12 (by decide) (fun c_4 => ?_) (fun c_4 => ?_)
      · refine lv_aload_n hx hb dX2_chooseDown_60 rfl (lv_at hl 1 rfl) ?_
        have q_5 : (-1) ≤ S7.1 135 17 ∧ S7.1 135 17 ≤ 40 := hI7.fi 135 17 2 (by decide) rfl
        refine g_X2_147 Cx hW (k := 135) (by decide) rfl (v := S7.1 135 17) rfl dX2_chooseDown_61 ?_
        refine r_if_ne (tgt := 69) hx hb ⟨(by omega), (by omega)⟩ dX2_chooseDown_64 (by decide) (fun c_6 => ?_) (fun c_6 => ?_)
        · refine lv_aload_n hx hb dX2_chooseDown_69 rfl (lv_at hl 1 rfl) ?_
          refine lv_iconst (v := iv 0) hx hb dX2_chooseDown_70 (by decide) ?_
          refine p_X2_131 Cx hW hL (k := 135) (by decide) rfl dX2_chooseDown_71 (fun H locs hW hL => ?_)
          have q_7 : 0 ≤ S.1 119 9 ∧ S.1 119 9 ≤ 6 := hI.fi 119 9 7 (by decide) rfl
          have lk_8 : S7.1 119 9 = S.1 119 9 := ((hL7_ 119 rfl).1 9).trans (uF_ne (fun h => absurd h.2 (by decide)))
          have F_9 : Fr S (uF S7 135 18 0) pF := hFm7.F rfl
          have F_10 : Fr ((uF S 135 17 0)) (uF S7 135 18 0) pF := hL7_.F rfl
          have i_11 : cX G (uF S7 135 18 0) 0 0 0 := hI7.column ⟨by omega, by omega⟩ (by omega)
          refine lv_iconst (v := iv 1) hx hb dX2_chooseDown_74 (by decide) ?_
          refine lv_istore_n (lv' := [(1, .int (iv 1)), (0, .ref (G.2.2.1 + 135))]) hx hb dX2_chooseDown_75 rfl hl (by decide) rfl (fun ls hl => ?_)
          have loop_76 : ∀ (fuel : Nat) (S76 : sS) (j : Int) (H : Heap) (locs : List Loc) (ls : Array Slot), (14 - j).toNat < fuel → (cX G S76 0 0 0) → (Fr S S76 pF) → (Fr ((uF S 135 17 0)) S76 pF) → (Fr ((uF S7 135 18 0)) S76 pF) → (1 ≤ j ∧ j ≤ 14) → (0 ≤ S76.1 135 18) → (1 ≤ S76.1 135 17) → sW G 294 S76 H → sL G locs → lv_has ls 2 [(1, .int (iv j)), (0, .ref (G.2.2.1 + 135))] → W p l e (rmk 6 0 0) s m args below meth c H locs 0 0 (MQ below (sQi G 294 (fun r u => cX G u 0 0 0 ∧ Fr S u pF ∧ (0 ≤ r ∧ r ≤ 2))) args s 0 0 (sF G)) (F0 m 76 ls []) := by
            intro fuel
            induction fuel with
            | zero => intro S76 j H locs ls hmeas hI76 hFm76 hFL776 hL76_ hj hcl2 hrw2 hW hL hl; exact absurd hmeas (Nat.not_lt_zero _)
            | succ fuel ih_76 =>
              intro S76 j H locs ls hmeas hI76 hFm76 hFL776 hL76_ hj hcl2 hrw2 hW hL hl
              refine lv_iload_n hx hb dX2_chooseDown_76 rfl (lv_at hl 0 rfl) ?_
              refine lv_aload_n hx hb dX2_chooseDown_77 rfl (lv_at hl 1 rfl) ?_
              have q_12 : 0 ≤ S76.1 135 15 ∧ S76.1 135 15 ≤ 13 := hI76.fi 135 15 2 (by decide) rfl
              refine g_X2_67 Cx hW (k := 135) (by decide) rfl (v := S76.1 135 15) rfl dX2_chooseDown_78 ?_
              refine r_icmp_gt (tgt := 122) hx hb ⟨(by omega), (by omega)⟩ ⟨(by omega), (by omega)⟩ dX2_chooseDown_81 (by decide) (fun c_13 => ?_) (fun c_13 => ?_)
              · refine lv_aload_n hx hb dX2_chooseDown_122 rfl (lv_at hl 1 rfl) ?_
                have q_14 : (-1) ≤ S76.1 135 18 ∧ S76.1 135 18 ≤ 13 := hI76.fi 135 18 2 (by decide) rfl
                refine g_X2_131 Cx hW (k := 135) (by decide) rfl (v := S76.1 135 18) rfl dX2_chooseDown_123 ?_
                refine r_if_le (tgt := 133) hx hb ⟨(by omega), (by omega)⟩ dX2_chooseDown_126 (by decide) (fun c_15 => ?_) (fun c_15 => ?_)
                · refine lv_iconst (v := iv 2) hx hb dX2_chooseDown_133 (by decide) ?_
                  exact sIret Cx hr hlk hW hL ⟨hI76, hFm76, (by omega)⟩ dX2_chooseDown_134
                · refine lv_iconst (v := iv 1) hx hb dX2_chooseDown_129 (by decide) ?_
                  refine lv_goto (tgt := 134) hx hb dX2_chooseDown_130 (by decide) ?_
                  exact sIret Cx hr hlk hW hL ⟨hI76, hFm76, (by omega)⟩ dX2_chooseDown_134
              · refine lv_aload_n hx hb dX2_chooseDown_84 rfl (lv_at hl 1 rfl) ?_
                refine lv_aload_n hx hb dX2_chooseDown_85 rfl (lv_at hl 1 rfl) ?_
                have q_16 : (-1) ≤ S76.1 135 17 ∧ S76.1 135 17 ≤ 40 := hI76.fi 135 17 2 (by decide) rfl
                refine g_X2_147 Cx hW (k := 135) (by decide) rfl (v := S76.1 135 17) rfl dX2_chooseDown_86 ?_
                refine lv_iload_n hx hb dX2_chooseDown_89 rfl (lv_at hl 0 rfl) ?_
                refine sBi (sV (As := [.int (iv (S76.1 135 17)), .int (iv j)]) (rest := []) (k := 135) Cx (s_X2_sign l G S76 (i := S76.1 135 17) (j := j) hI76 (by omega) (by omega)) (c_X2_95 Cx rfl rfl (rmk_ok (by omega) (by decide))) hW (by decide) rfl rfl rfl hl.1 rfl (Nat.le_of_ble_eq_true rfl) dX2_chooseDown_90 ⟨Nat.le_of_ble_eq_true rfl, Nat.le_of_ble_eq_true rfl⟩) hL (fun r_19 u_17 H locs k_18 hW hL => ?_)
                obtain ⟨eu_17, xu_17⟩ := k_18
                rw [eu_17] at hW
                refine r_if_ge (tgt := 116) hx hb ⟨(by omega), (by omega)⟩ dX2_chooseDown_93 (by decide) (fun c_20 => ?_) (fun c_20 => ?_)
                · refine lv_iinc (v := iv (j + 1)) (lv' := [(1, .int (iv (j + 1))), (0, .ref (G.2.2.1 + 135))]) hx hb dX2_chooseDown_116 hl (k := 0) rfl ((Int32.ofInt_add _ _).symm) (by decide) rfl (fun ls hl => ?_)
                  refine lv_goto (tgt := 76) hx hb dX2_chooseDown_119 (by decide) ?_
                  have q_21 : (-1) ≤ S76.1 135 18 ∧ S76.1 135 18 ≤ 13 := hI76.fi 135 18 2 (by decide) rfl
                  exact ih_76 S76 (j + 1) _ _ _ (by omega) hI76 hFm76 hFL776 hL76_ (by omega) (by omega) (by omega) hW hL (lv_sub hl [0, 1] rfl)
                · refine lv_aload_n hx hb dX2_chooseDown_96 rfl (lv_at hl 1 rfl) ?_
                  have q_22 : (-1) ≤ S76.1 135 18 ∧ S76.1 135 18 ≤ 13 := hI76.fi 135 18 2 (by decide) rfl
                  refine g_X2_131 Cx hW (k := 135) (by decide) rfl (v := S76.1 135 18) rfl dX2_chooseDown_97 ?_
                  refine r_if_eq (tgt := 111) hx hb ⟨(by omega), (by omega)⟩ dX2_chooseDown_100 (by decide) (fun c_23 => ?_) (fun c_23 => ?_)
                  · refine lv_aload_n hx hb dX2_chooseDown_111 rfl (lv_at hl 1 rfl) ?_
                    refine lv_iload_n hx hb dX2_chooseDown_112 rfl (lv_at hl 0 rfl) ?_
                    refine p_X2_131 Cx hW hL (k := 135) (by decide) rfl dX2_chooseDown_113 (fun H locs hW hL => ?_)
                    have lk_24 : S76.1 119 9 = S.1 119 9 := ((hL76_ 119 rfl).1 9).trans ((uF_ne (fun h => absurd h.2 (by decide))).trans (((hL7_ 119 rfl).1 9).trans (uF_ne (fun h => absurd h.2 (by decide)))))
                    have F_25 : Fr S (uF S76 135 18 j) pF := hFm76.F rfl
                    have F_26 : Fr ((uF S 135 17 0)) (uF S76 135 18 j) pF := hFL776.F rfl
                    have F_27 : Fr ((uF S7 135 18 0)) (uF S76 135 18 j) pF := hL76_.F rfl
                    have i_28 : cX G (uF S76 135 18 j) 0 0 0 := hI76.column ⟨by omega, by omega⟩ (by omega)
                    refine lv_iinc (v := iv (j + 1)) (lv' := [(1, .int (iv (j + 1))), (0, .ref (G.2.2.1 + 135))]) hx hb dX2_chooseDown_116 hl (k := 0) rfl ((Int32.ofInt_add _ _).symm) (by decide) rfl (fun ls hl => ?_)
                    refine lv_goto (tgt := 76) hx hb dX2_chooseDown_119 (by decide) ?_
                    have lk_29 : (uF S76 135 18 j).1 135 18 = j := uF_on
                    have lk_30 : (uF S76 135 18 j).1 135 17 = S76.1 135 17 := uF_ne (fun h => absurd h.2 (by decide))
                    exact ih_76 (uF S76 135 18 j) (j + 1) _ _ _ (by omega) i_28 F_25 F_26 F_27 (by omega) (by omega) (by omega) hW hL (lv_sub hl [0, 1] rfl)
                  · refine lv_aload_n hx hb dX2_chooseDown_103 rfl (lv_at hl 1 rfl) ?_
                    refine lv_iload_n hx hb dX2_chooseDown_104 rfl (lv_at hl 0 rfl) ?_
                    refine sBi (sV (As := [.int (iv j)]) (rest := []) (k := 135) Cx (s_X2_entersAhead l G S76 (j := j) hI76 (by omega) (by omega)) (c_X2_164 Cx rfl rfl (rmk_ok (by omega) (by decide))) hW (by decide) rfl rfl rfl hl.1 rfl (Nat.le_of_ble_eq_true rfl) dX2_chooseDown_105 ⟨Nat.le_of_ble_eq_true rfl, Nat.le_of_ble_eq_true rfl⟩) hL (fun r_33 u_31 H locs k_32 hW hL => ?_)
                    obtain ⟨iu_31, fu_31, xu_31⟩ := k_32
                    have F_34 := hFm76.trans (fu_31.to pZ_F)
                    have F_35 := hFL776.trans (fu_31.to pZ_F)
                    have F_36 := hL76_.trans (fu_31.to pZ_F)
                    refine r_if_eq (tgt := 116) hx hb ⟨(by omega), (by omega)⟩ dX2_chooseDown_108 (by decide) (fun c_37 => ?_) (fun c_37 => ?_)
                    · refine lv_iinc (v := iv (j + 1)) (lv' := [(1, .int (iv (j + 1))), (0, .ref (G.2.2.1 + 135))]) hx hb dX2_chooseDown_116 hl (k := 0) rfl ((Int32.ofInt_add _ _).symm) (by decide) rfl (fun ls hl => ?_)
                      refine lv_goto (tgt := 76) hx hb dX2_chooseDown_119 (by decide) ?_
                      have lk_38 : u_31.1 135 18 = S76.1 135 18 := (fu_31 135 rfl).1 18
                      have lk_39 : u_31.1 135 17 = S76.1 135 17 := (fu_31 135 rfl).1 17
                      exact ih_76 u_31 (j + 1) _ _ _ (by omega) iu_31 F_34 F_35 F_36 (by omega) (by omega) (by omega) hW hL (lv_sub hl [0, 1] rfl)
                    · refine lv_aload_n hx hb dX2_chooseDown_111 rfl (lv_at hl 1 rfl) ?_
                      refine lv_iload_n hx hb dX2_chooseDown_112 rfl (lv_at hl 0 rfl) ?_
                      refine p_X2_131 Cx hW hL (k := 135) (by decide) rfl dX2_chooseDown_113 (fun H locs hW hL => ?_)
                      have lk_40 : u_31.1 119 9 = S.1 119 9 := ((fu_31 119 rfl).1 9).trans (((hL76_ 119 rfl).1 9).trans ((uF_ne (fun h => absurd h.2 (by decide))).trans (((hL7_ 119 rfl).1 9).trans (uF_ne (fun h => absurd h.2 (by decide))))))
                      have F_41 : Fr S (uF u_31 135 18 j) pF := F_34.F rfl
                      have F_42 : Fr ((uF S 135 17 0)) (uF u_31 135 18 j) pF := F_35.F rfl
                      have F_43 : Fr ((uF S7 135 18 0)) (uF u_31 135 18 j) pF := F_36.F rfl
                      have i_44 : cX G (uF u_31 135 18 j) 0 0 0 := iu_31.column ⟨by omega, by omega⟩ (by omega)
                      refine lv_iinc (v := iv (j + 1)) (lv' := [(1, .int (iv (j + 1))), (0, .ref (G.2.2.1 + 135))]) hx hb dX2_chooseDown_116 hl (k := 0) rfl ((Int32.ofInt_add _ _).symm) (by decide) rfl (fun ls hl => ?_)
                      refine lv_goto (tgt := 76) hx hb dX2_chooseDown_119 (by decide) ?_
                      have lk_45 : (uF u_31 135 18 j).1 135 18 = j := uF_on
                      have lk_46 : (uF u_31 135 18 j).1 135 17 = S76.1 135 17 := (uF_ne (fun h => absurd h.2 (by decide))).trans ((fu_31 135 rfl).1 17)
                      exact ih_76 (uF u_31 135 18 j) (j + 1) _ _ _ (by omega) i_44 F_41 F_42 F_43 (by omega) (by omega) (by omega) hW hL (lv_sub hl [0, 1] rfl)
          have lk_47 : (uF S7 135 18 0).1 135 18 = 0 := uF_on
          have lk_48 : (uF S7 135 18 0).1 135 17 = S7.1 135 17 := uF_ne (fun h => absurd h.2 (by decide))
          exact loop_76 (_ + 1) (uF S7 135 18 0) 1 _ _ _ (Nat.lt_succ_self _) i_11 F_9 F_10 Fr.rf (by omega) (by omega) (by omega) hW hL (lv_sub hl [0, 1] rfl)
        · refine lv_iconst (v := iv 0) hx hb dX2_chooseDown_67 (by decide) ?_
          exact sIret Cx hr hlk hW hL ⟨hI7, hFm7, (by omega)⟩ dX2_chooseDown_68
      · refine lv_aload_n hx hb dX2_chooseDown_15 rfl (lv_at hl 1 rfl) ?_
        refine lv_iload_n hx hb dX2_chooseDown_16 rfl (lv_at hl 0 rfl) ?_
        refine lv_iconst (v := iv 0) hx hb dX2_chooseDown_17 (by decide) ?_
        refine sBi (sV (As := [.int (iv i), .int (iv 0)]) (rest := []) (k := 135) Cx (s_X2_sign l G S7 (i := i) (j := 0) hI7 (by omega) (by omega)) (c_X2_95 Cx rfl rfl (rmk_ok (by omega) (by decide))) hW (by decide) rfl rfl rfl hl.1 rfl (Nat.le_of_ble_eq_true rfl) dX2_chooseDown_18 ⟨Nat.le_of_ble_eq_true rfl, Nat.le_of_ble_eq_true rfl⟩) hL (fun r_51 u_49 H locs k_50 hW hL => ?_)
        obtain ⟨eu_49, xu_49⟩ := k_50
        rw [eu_49] at hW
        refine r_if_ge (tgt := 54) hx hb ⟨(by omega), (by omega)⟩ dX2_chooseDown_21 (by decide) (fun c_52 => ?_) (fun c_52 => ?_)
        · refine lv_iinc (v := iv (i + 1)) (lv' := [(1, .int (iv (i + 1))), (0, .ref (G.2.2.1 + 135))]) hx hb dX2_chooseDown_54 hl (k := 0) rfl ((Int32.ofInt_add _ _).symm) (by decide) rfl (fun ls hl => ?_)
          refine lv_goto (tgt := 7) hx hb dX2_chooseDown_57 (by decide) ?_
          have q_53 : (-1) ≤ S7.1 135 17 ∧ S7.1 135 17 ≤ 40 := hI7.fi 135 17 2 (by decide) rfl
          exact ih_7 S7 (i + 1) _ _ _ (by omega) hI7 hFm7 hL7_ (by omega) (by omega) hW hL (lv_sub hl [0, 1] rfl)
        · refine lv_aload_n hx hb dX2_chooseDown_24 rfl (lv_at hl 1 rfl) ?_
          have q_54 : (-1) ≤ S7.1 135 17 ∧ S7.1 135 17 ≤ 40 := hI7.fi 135 17 2 (by decide) rfl
          refine g_X2_147 Cx hW (k := 135) (by decide) rfl (v := S7.1 135 17) rfl dX2_chooseDown_25 ?_
          refine r_if_eq (tgt := 49) hx hb ⟨(by omega), (by omega)⟩ dX2_chooseDown_28 (by decide) (fun c_55 => ?_) (fun c_55 => ?_)
          · refine lv_aload_n hx hb dX2_chooseDown_49 rfl (lv_at hl 1 rfl) ?_
            refine lv_iload_n hx hb dX2_chooseDown_50 rfl (lv_at hl 0 rfl) ?_
            refine p_X2_147 Cx hW hL (k := 135) (by decide) rfl dX2_chooseDown_51 (fun H locs hW hL => ?_)
            have F_56 : Fr S (uF S7 135 17 i) pF := hFm7.F rfl
            have F_57 : Fr ((uF S 135 17 0)) (uF S7 135 17 i) pF := hL7_.F rfl
            have i_58 : cX G (uF S7 135 17 i) 0 0 0 := hI7.F rfl rfl (show (-1) ≤ i ∧ i ≤ 40 from ⟨by omega, by omega⟩)
            refine lv_iinc (v := iv (i + 1)) (lv' := [(1, .int (iv (i + 1))), (0, .ref (G.2.2.1 + 135))]) hx hb dX2_chooseDown_54 hl (k := 0) rfl ((Int32.ofInt_add _ _).symm) (by decide) rfl (fun ls hl => ?_)
            refine lv_goto (tgt := 7) hx hb dX2_chooseDown_57 (by decide) ?_
            have lk_59 : (uF S7 135 17 i).1 135 17 = i := uF_on
            exact ih_7 (uF S7 135 17 i) (i + 1) _ _ _ (by omega) i_58 F_56 F_57 (by omega) (by omega) hW hL (lv_sub hl [0, 1] rfl)
          · refine lv_aload_n hx hb dX2_chooseDown_31 rfl (lv_at hl 1 rfl) ?_
            refine g_X2_20 Cx hW (k := 135) (by decide) rfl (v := .ref (G.2.2.1 + 138)) (rf_135_2 hI7) dX2_chooseDown_32 ?_
            refine lv_iload_n hx hb dX2_chooseDown_35 rfl (lv_at hl 0 rfl) ?_
            refine rIald Cx hW (k := 138) (by decide) rfl (by decide) (by omega) (by omega) dX2_chooseDown_36 ?_
            have q_60 : (-2147483648) ≤ S.2.1 138 i ∧ S.2.1 138 i ≤ 2147483647 := hI.ai 138 i (by decide)
            refine r_i (b := S.2.1 138 i) (((hL7_ 138 rfl).2.1 i).trans (uF_a)) ?_
            refine lv_aload_n hx hb dX2_chooseDown_37 rfl (lv_at hl 1 rfl) ?_
            refine g_X2_20 Cx hW (k := 135) (by decide) rfl (v := .ref (G.2.2.1 + 138)) (rf_135_2 hI7) dX2_chooseDown_38 ?_
            refine lv_aload_n hx hb dX2_chooseDown_41 rfl (lv_at hl 1 rfl) ?_
            refine g_X2_147 Cx hW (k := 135) (by decide) rfl (v := S7.1 135 17) rfl dX2_chooseDown_42 ?_
            refine rIald Cx hW (k := 138) (by decide) rfl (by decide) (by omega) (by omega) dX2_chooseDown_45 ?_
            have q_61 : (-2147483648) ≤ S.2.1 138 (S7.1 135 17) ∧ S.2.1 138 (S7.1 135 17) ≤ 2147483647 := hI.ai 138 (S7.1 135 17) (by decide)
            refine r_i (b := S.2.1 138 (S7.1 135 17)) (((hL7_ 138 rfl).2.1 (S7.1 135 17)).trans (uF_a)) ?_
            refine r_icmp_ge (tgt := 54) hx hb ⟨(by omega), (by omega)⟩ ⟨(by omega), (by omega)⟩ dX2_chooseDown_46 (by decide) (fun c_62 => ?_) (fun c_62 => ?_)
            · refine lv_iinc (v := iv (i + 1)) (lv' := [(1, .int (iv (i + 1))), (0, .ref (G.2.2.1 + 135))]) hx hb dX2_chooseDown_54 hl (k := 0) rfl ((Int32.ofInt_add _ _).symm) (by decide) rfl (fun ls hl => ?_)
              refine lv_goto (tgt := 7) hx hb dX2_chooseDown_57 (by decide) ?_
              exact ih_7 S7 (i + 1) _ _ _ (by omega) hI7 hFm7 hL7_ (by omega) (by omega) hW hL (lv_sub hl [0, 1] rfl)
            · refine lv_aload_n hx hb dX2_chooseDown_49 rfl (lv_at hl 1 rfl) ?_
              refine lv_iload_n hx hb dX2_chooseDown_50 rfl (lv_at hl 0 rfl) ?_
              refine p_X2_147 Cx hW hL (k := 135) (by decide) rfl dX2_chooseDown_51 (fun H locs hW hL => ?_)
              have F_63 : Fr S (uF S7 135 17 i) pF := hFm7.F rfl
              have F_64 : Fr ((uF S 135 17 0)) (uF S7 135 17 i) pF := hL7_.F rfl
              have i_65 : cX G (uF S7 135 17 i) 0 0 0 := hI7.F rfl rfl (show (-1) ≤ i ∧ i ≤ 40 from ⟨by omega, by omega⟩)
              refine lv_iinc (v := iv (i + 1)) (lv' := [(1, .int (iv (i + 1))), (0, .ref (G.2.2.1 + 135))]) hx hb dX2_chooseDown_54 hl (k := 0) rfl ((Int32.ofInt_add _ _).symm) (by decide) rfl (fun ls hl => ?_)
              refine lv_goto (tgt := 7) hx hb dX2_chooseDown_57 (by decide) ?_
              have lk_66 : (uF S7 135 17 i).1 135 17 = i := uF_on
              exact ih_7 (uF S7 135 17 i) (i + 1) _ _ _ (by omega) i_65 F_63 F_64 (by omega) (by omega) hW hL (lv_sub hl [0, 1] rfl)
  have lk_67 : (uF S 135 17 0).1 135 17 = 0 := uF_on
  exact loop_7 (_ + 1) (uF S 135 17 0) 1 _ _ _ (Nat.lt_succ_self _) i_2 F_1 Fr.rf (by omega) (by omega) hW hL (lv_sub hl [0, 1] rfl)

set_option maxRecDepth 100000 in
set_option maxHeartbeats 4000000 in
theorem s_X2_pivotGreat (l : Launch) (G : sG) (S : sS) {a b1 c1 tn : Int} (hI : cX G S 0 0 0) (ha : a % 8 = 0 ∧ 0 ≤ a ∧ a + 7 < 4816) (hb1 : b1 % 8 = 0 ∧ 0 ≤ b1 ∧ b1 + 7 < 4816) (hc1 : c1 % 8 = 0 ∧ 0 ≤ c1 ∧ c1 + 7 < 4816) (ha1 : 1 ≤ a) (htn : -1 ≤ tn ∧ tn ≤ 1) (hld : S.1 141 1 ≤ 6 ∧ S.1 143 1 ≤ 6) : Met l yX2_pivotGreat (.code yX2_pivotGreat cX2_pivotGreat 5 (some .boolean) :: tb) (rmk 5 0 0) (sPc G 294 S [.ref (G.2.2.1 + 135), .int (iv a), .int (iv b1), .int (iv c1), .int (iv tn)]) (sQi G 294 (fun r u => cX G u 0 0 0 ∧ Fr S u pZ ∧ (0 ≤ r ∧ r ≤ 1))) 0 0 (sF G) := by
  refine sEnter (by decide) (Nat.le_of_ble_eq_true rfl) ?_
  intro p e s m args below meth c Cx hr hlk hnm hW ls hl
  have Cx : sC G p m c cX2_pivotGreat 5 s args RX2 := Cx
  obtain ⟨hx, hb, hml, hown, hts⟩ := id Cx.1
  have hL : sL G [] := sL_nil
  have hl : lv_has ls 5 [(0, .ref (G.2.2.1 + 135)), (1, .int (iv a)), (2, .int (iv b1)), (3, .int (iv c1)), (4, .int (iv tn))] := hl
  have hW0 := hW
  refine lv_aload_n hx hb dX2_pivotGreat_0 rfl (lv_at hl 0 rfl) ?_
  refine g_X2_38 Cx hW (k := 135) (by decide) rfl (v := .ref (G.2.2.1 + 145)) (rf_135_7 hI) dX2_pivotGreat_1 ?_
  refine lv_aload_n hx hb dX2_pivotGreat_4 rfl (lv_at hl 0 rfl) ?_
  obtain ⟨o_1, o_2, mo_1, mo_2, no_1, eo_1, eo_2⟩ := rm_135 hI
  refine g_X2_13 Cx hW (k := 135) (by decide) rfl (v := .ref (G.2.2.1 + o_1)) eo_1 dX2_pivotGreat_5 ?_
  refine lv_iload_n hx hb dX2_pivotGreat_8 rfl (lv_at hl 1 rfl) ?_
  refine sBv (sV (As := [.ref (G.2.2.1 + o_1), .int (iv a)]) (rest := []) (k := 145) Cx (s_X0_load l G S (o := 145) (k := o_1) (a := a) (N := 4816) hI rfl (dic_a mo_1) (by omega)) (c_X2_106 Cx rfl rfl (rmk_ok (by omega) (by decide))) hW (by decide) rfl rfl rfl hl.1 rfl (Nat.le_of_ble_eq_true rfl) dX2_pivotGreat_9 ⟨Nat.le_of_ble_eq_true rfl, Nat.le_of_ble_eq_true rfl⟩) hL (fun u_3 H locs k_4 hW hL => ?_)
  obtain ⟨iu_3, fu_3, xu_3⟩ := k_4
  have F_5 := (Fr.rf : Fr S S pZ).trans (fu_3.to (pB_sub rfl rfl))
  have yu_3 : u_3.1 145 1 ≤ 6 := by have e := xu_3.1; rw [dic_L mo_1] at e; exact e
  refine lv_aload_n hx hb dX2_pivotGreat_12 rfl (lv_at hl 0 rfl) ?_
  refine g_X2_44 Cx hW (k := 135) (by decide) rfl (v := .ref (G.2.2.1 + 149)) (rf_135_9 iu_3) dX2_pivotGreat_13 ?_
  refine lv_aload_n hx hb dX2_pivotGreat_16 rfl (lv_at hl 0 rfl) ?_
  refine g_X2_38 Cx hW (k := 135) (by decide) rfl (v := .ref (G.2.2.1 + 145)) (rf_135_7 iu_3) dX2_pivotGreat_17 ?_
  refine lv_aload_n hx hb dX2_pivotGreat_20 rfl (lv_at hl 0 rfl) ?_
  refine g_X2_31 Cx hW (k := 135) (by decide) rfl (v := .ref (G.2.2.1 + 141)) (rf_135_5 iu_3) dX2_pivotGreat_21 ?_
  have q_6 : 0 ≤ u_3.1 145 1 ∧ u_3.1 145 1 ≤ 32 := iu_3.fi 145 1 0 (by decide) rfl
  have q_7 : 0 ≤ S.1 141 1 ∧ S.1 141 1 ≤ 32 := hI.fi 141 1 0 (by decide) rfl
  have lk_8 : u_3.1 141 1 = S.1 141 1 := (fu_3 141 rfl).1 1
  refine sBv (sV (As := [.ref (G.2.2.1 + 145), .ref (G.2.2.1 + 141)]) (rest := []) (k := 149) Cx (s_X0_product l G u_3 (o := 149) (a := 145) (b := 141) iu_3 rfl rfl rfl (show (149 : Nat) ≠ 145 by decide) (show (149 : Nat) ≠ 141 by decide)) (c_X2_176 Cx rfl rfl (rmk_ok (by omega) (by decide))) hW (by decide) rfl rfl rfl hl.1 rfl (Nat.le_of_ble_eq_true rfl) dX2_pivotGreat_24 ⟨Nat.le_of_ble_eq_true rfl, Nat.le_of_ble_eq_true rfl⟩) hL (fun u_9 H locs k_10 hW hL => ?_)
  obtain ⟨iu_9, fu_9, xu_9⟩ := k_10
  have F_11 := F_5.trans (fu_9.to (pB_sub rfl rfl))
  refine lv_aload_n hx hb dX2_pivotGreat_27 rfl (lv_at hl 0 rfl) ?_
  refine g_X2_38 Cx hW (k := 135) (by decide) rfl (v := .ref (G.2.2.1 + 145)) (rf_135_7 iu_9) dX2_pivotGreat_28 ?_
  refine lv_aload_n hx hb dX2_pivotGreat_31 rfl (lv_at hl 0 rfl) ?_
  refine g_X2_13 Cx hW (k := 135) (by decide) rfl (v := .ref (G.2.2.1 + o_1)) ((((fu_9 135 rfl).2.2.2 0).trans ((fu_3 135 rfl).2.2.2 0)).trans eo_1) dX2_pivotGreat_32 ?_
  refine lv_iload_n hx hb dX2_pivotGreat_35 rfl (lv_at hl 2 rfl) ?_
  refine sBv (sV (As := [.ref (G.2.2.1 + o_1), .int (iv b1)]) (rest := []) (k := 145) Cx (s_X0_load l G u_9 (o := 145) (k := o_1) (a := b1) (N := 4816) iu_9 rfl (dic_a mo_1) (by omega)) (c_X2_106 Cx rfl rfl (rmk_ok (by omega) (by decide))) hW (by decide) rfl rfl rfl hl.1 rfl (Nat.le_of_ble_eq_true rfl) dX2_pivotGreat_36 ⟨Nat.le_of_ble_eq_true rfl, Nat.le_of_ble_eq_true rfl⟩) hL (fun u_12 H locs k_13 hW hL => ?_)
  obtain ⟨iu_12, fu_12, xu_12⟩ := k_13
  have F_14 := F_11.trans (fu_12.to (pB_sub rfl rfl))
  have yu_12 : u_12.1 145 1 ≤ 6 := by have e := xu_12.1; rw [dic_L mo_1] at e; exact e
  refine lv_aload_n hx hb dX2_pivotGreat_39 rfl (lv_at hl 0 rfl) ?_
  refine g_X2_41 Cx hW (k := 135) (by decide) rfl (v := .ref (G.2.2.1 + 147)) (rf_135_8 iu_12) dX2_pivotGreat_40 ?_
  refine lv_aload_n hx hb dX2_pivotGreat_43 rfl (lv_at hl 0 rfl) ?_
  refine g_X2_13 Cx hW (k := 135) (by decide) rfl (v := .ref (G.2.2.1 + o_1)) ((((fu_12 135 rfl).2.2.2 0).trans (((fu_9 135 rfl).2.2.2 0).trans ((fu_3 135 rfl).2.2.2 0))).trans eo_1) dX2_pivotGreat_44 ?_
  refine lv_iload_n hx hb dX2_pivotGreat_47 rfl (lv_at hl 3 rfl) ?_
  refine sBv (sV (As := [.ref (G.2.2.1 + o_1), .int (iv c1)]) (rest := []) (k := 147) Cx (s_X0_load l G u_12 (o := 147) (k := o_1) (a := c1) (N := 4816) iu_12 rfl (dic_a mo_1) (by omega)) (c_X2_106 Cx rfl rfl (rmk_ok (by omega) (by decide))) hW (by decide) rfl rfl rfl hl.1 rfl (Nat.le_of_ble_eq_true rfl) dX2_pivotGreat_48 ⟨Nat.le_of_ble_eq_true rfl, Nat.le_of_ble_eq_true rfl⟩) hL (fun u_15 H locs k_16 hW hL => ?_)
  obtain ⟨iu_15, fu_15, xu_15⟩ := k_16
  have F_17 := F_14.trans (fu_15.to (pB_sub rfl rfl))
  have yu_15 : u_15.1 147 1 ≤ 6 := by have e := xu_15.1; rw [dic_L mo_1] at e; exact e
  refine lv_aload_n hx hb dX2_pivotGreat_51 rfl (lv_at hl 0 rfl) ?_
  refine g_X2_47 Cx hW (k := 135) (by decide) rfl (v := .ref (G.2.2.1 + 151)) (rf_135_10 iu_15) dX2_pivotGreat_52 ?_
  refine lv_aload_n hx hb dX2_pivotGreat_55 rfl (lv_at hl 0 rfl) ?_
  refine g_X2_38 Cx hW (k := 135) (by decide) rfl (v := .ref (G.2.2.1 + 145)) (rf_135_7 iu_15) dX2_pivotGreat_56 ?_
  refine lv_aload_n hx hb dX2_pivotGreat_59 rfl (lv_at hl 0 rfl) ?_
  refine g_X2_41 Cx hW (k := 135) (by decide) rfl (v := .ref (G.2.2.1 + 147)) (rf_135_8 iu_15) dX2_pivotGreat_60 ?_
  have q_18 : 0 ≤ u_12.1 145 1 ∧ u_12.1 145 1 ≤ 32 := iu_12.fi 145 1 0 (by decide) rfl
  have lk_19 : u_15.1 145 1 = u_12.1 145 1 := (fu_15 145 rfl).1 1
  have q_20 : 0 ≤ u_15.1 147 1 ∧ u_15.1 147 1 ≤ 32 := iu_15.fi 147 1 0 (by decide) rfl
  refine sBv (sV (As := [.ref (G.2.2.1 + 145), .ref (G.2.2.1 + 147)]) (rest := []) (k := 151) Cx (s_X0_product l G u_15 (o := 151) (a := 145) (b := 147) iu_15 rfl rfl rfl (show (151 : Nat) ≠ 145 by decide) (show (151 : Nat) ≠ 147 by decide)) (c_X2_176 Cx rfl rfl (rmk_ok (by omega) (by decide))) hW (by decide) rfl rfl rfl hl.1 rfl (Nat.le_of_ble_eq_true rfl) dX2_pivotGreat_63 ⟨Nat.le_of_ble_eq_true rfl, Nat.le_of_ble_eq_true rfl⟩) hL (fun u_21 H locs k_22 hW hL => ?_)
  obtain ⟨iu_21, fu_21, xu_21⟩ := k_22
  have F_23 := F_17.trans (fu_21.to (pB_sub rfl rfl))
  refine lv_aload_n hx hb dX2_pivotGreat_66 rfl (lv_at hl 0 rfl) ?_
  refine g_X2_44 Cx hW (k := 135) (by decide) rfl (v := .ref (G.2.2.1 + 149)) (rf_135_9 iu_21) dX2_pivotGreat_67 ?_
  refine lv_aload_n hx hb dX2_pivotGreat_70 rfl (lv_at hl 0 rfl) ?_
  refine g_X2_47 Cx hW (k := 135) (by decide) rfl (v := .ref (G.2.2.1 + 151)) (rf_135_10 iu_21) dX2_pivotGreat_71 ?_
  refine lv_iconst (v := iv (-1)) hx hb dX2_pivotGreat_74 (by decide) ?_
  have q_24 : 0 ≤ u_21.1 151 1 ∧ u_21.1 151 1 ≤ 32 := iu_21.fi 151 1 0 (by decide) rfl
  have q_25 : 0 ≤ u_9.1 149 1 ∧ u_9.1 149 1 ≤ 32 := iu_9.fi 149 1 0 (by decide) rfl
  have lk_26 : u_21.1 149 1 = u_9.1 149 1 := ((fu_21 149 rfl).1 1).trans (((fu_15 149 rfl).1 1).trans ((fu_12 149 rfl).1 1))
  have q_27 : (-1) ≤ u_9.1 149 2 ∧ u_9.1 149 2 ≤ 1 := iu_9.fi 149 2 0 (by decide) rfl
  have lk_28 : u_21.1 149 2 = u_9.1 149 2 := ((fu_21 149 rfl).1 2).trans (((fu_15 149 rfl).1 2).trans ((fu_12 149 rfl).1 2))
  have q_29 : (-1) ≤ u_21.1 151 2 ∧ u_21.1 151 2 ≤ 1 := iu_21.fi 151 2 0 (by decide) rfl
  refine sBv (sV (As := [.ref (G.2.2.1 + 151), .int (iv ((-1)))]) (rest := []) (k := 149) Cx (t_X0_add_m l G u_21 (o := 149) (a := 151) (n := 12) (t := 0) iu_21 rfl rfl (show (149 : Nat) ≠ 151 by decide) (by omega) (fun q => absurd q (by omega))) (c_X2_196 Cx rfl rfl (rmk_ok (by omega) (by decide))) hW (by decide) rfl rfl rfl hl.1 rfl (Nat.le_of_ble_eq_true rfl) dX2_pivotGreat_75 ⟨Nat.le_of_ble_eq_true rfl, Nat.le_of_ble_eq_true rfl⟩) hL (fun u_30 H locs k_31 hW hL => ?_)
  obtain ⟨iu_30, fu_30, xu_30⟩ := k_31
  have F_32 := F_23.trans (fu_30.to (pB_sub rfl rfl))
  refine lv_aload_n hx hb dX2_pivotGreat_78 rfl (lv_at hl 0 rfl) ?_
  refine g_X2_44 Cx hW (k := 135) (by decide) rfl (v := .ref (G.2.2.1 + 149)) (rf_135_9 iu_30) dX2_pivotGreat_79 ?_
  refine lv_aload_n hx hb dX2_pivotGreat_82 rfl (lv_at hl 0 rfl) ?_
  refine g_X2_35 Cx hW (k := 135) (by decide) rfl (v := .ref (G.2.2.1 + 143)) (rf_135_6 iu_30) dX2_pivotGreat_83 ?_
  refine lv_aload_n hx hb dX2_pivotGreat_86 rfl (lv_at hl 0 rfl) ?_
  refine g_X2_50 Cx hW (k := 135) (by decide) rfl (v := .ref (G.2.2.1 + 153)) (rf_135_11 iu_30) dX2_pivotGreat_87 ?_
  refine lv_aload_n hx hb dX2_pivotGreat_90 rfl (lv_at hl 0 rfl) ?_
  refine g_X2_53 Cx hW (k := 135) (by decide) rfl (v := .ref (G.2.2.1 + 155)) (rf_135_12 iu_30) dX2_pivotGreat_91 ?_
  have q_33 : 0 ≤ u_30.1 149 1 ∧ u_30.1 149 1 ≤ 32 := iu_30.fi 149 1 0 (by decide) rfl
  have q_34 : 0 ≤ S.1 143 1 ∧ S.1 143 1 ≤ 32 := hI.fi 143 1 0 (by decide) rfl
  have lk_35 : u_30.1 143 1 = S.1 143 1 := ((fu_30 143 rfl).1 1).trans (((fu_21 143 rfl).1 1).trans (((fu_15 143 rfl).1 1).trans (((fu_12 143 rfl).1 1).trans (((fu_9 143 rfl).1 1).trans ((fu_3 143 rfl).1 1)))))
  have q_36 : (-1) ≤ u_30.1 149 2 ∧ u_30.1 149 2 ≤ 1 := iu_30.fi 149 2 0 (by decide) rfl
  have q_37 : (-1) ≤ S.1 143 2 ∧ S.1 143 2 ≤ 1 := hI.fi 143 2 0 (by decide) rfl
  have lk_38 : u_30.1 143 2 = S.1 143 2 := ((fu_30 143 rfl).1 2).trans (((fu_21 143 rfl).1 2).trans (((fu_15 143 rfl).1 2).trans (((fu_12 143 rfl).1 2).trans (((fu_9 143 rfl).1 2).trans ((fu_3 143 rfl).1 2)))))
  refine sBv (sV (As := [.ref (G.2.2.1 + 143), .ref (G.2.2.1 + 153), .ref (G.2.2.1 + 155)]) (rest := []) (k := 149) Cx (s_X0_divide l G u_30 (o := 149) (b := 143) (q := 153) (h := 155) (n := 13) iu_30 rfl rfl rfl rfl (show (149 : Nat) ≠ 143 by decide) (show (149 : Nat) ≠ 153 by decide) (show (149 : Nat) ≠ 155 by decide) (show (143 : Nat) ≠ 153 by decide) (show (143 : Nat) ≠ 155 by decide) (show (153 : Nat) ≠ 155 by decide) (by omega)) (c_X2_141 Cx rfl rfl (rmk_ok (by omega) (by decide))) hW (by decide) rfl rfl rfl hl.1 rfl (Nat.le_of_ble_eq_true rfl) dX2_pivotGreat_94 ⟨Nat.le_of_ble_eq_true rfl, Nat.le_of_ble_eq_true rfl⟩) hL (fun u_39 H locs k_40 hW hL => ?_)
  obtain ⟨iu_39, fu_39, xu_39⟩ := k_40
  have F_41 := F_32.trans (fu_39.to (pD_sub (pB_sub rfl rfl) (pB_sub rfl rfl) (pB_sub rfl rfl)))
  refine lv_aload_n hx hb dX2_pivotGreat_97 rfl (lv_at hl 0 rfl) ?_
  refine g_X2_50 Cx hW (k := 135) (by decide) rfl (v := .ref (G.2.2.1 + 153)) (rf_135_11 iu_39) dX2_pivotGreat_98 ?_
  have q_42 : 0 ≤ u_39.1 153 1 ∧ u_39.1 153 1 ≤ 32 := iu_39.fi 153 1 0 (by decide) rfl
  refine g_X2_200 Cx hW (k := 153) (by decide) rfl (v := u_39.1 153 1) rfl dX2_pivotGreat_101 ?_
  refine lv_bipush (v := iv 6) hx hb dX2_pivotGreat_104 (by decide) ?_
  refine r_icmp_le (tgt := 111) hx hb ⟨(by omega), (by omega)⟩ ⟨(by omega), (by omega)⟩ dX2_pivotGreat_106 (by decide) (fun c_43 => ?_) (fun c_43 => ?_)
  · refine lv_aload_n hx hb dX2_pivotGreat_111 rfl (lv_at hl 0 rfl) ?_
    refine g_X2_50 Cx hW (k := 135) (by decide) rfl (v := .ref (G.2.2.1 + 153)) (rf_135_11 iu_39) dX2_pivotGreat_112 ?_
    refine lv_dup hx hb dX2_pivotGreat_115 rfl ?_
    have q_44 : (-1) ≤ u_39.1 153 2 ∧ u_39.1 153 2 ≤ 1 := iu_39.fi 153 2 0 (by decide) rfl
    refine g_X2_145 Cx hW (k := 153) (by decide) rfl (v := u_39.1 153 2) rfl dX2_pivotGreat_116 ?_
    refine lv_iload hx hb dX2_pivotGreat_119 (lv_at hl 4 rfl) ?_
    refine r_imul hx hb dX2_pivotGreat_121 ?_
    obtain ⟨sg, esg⟩ : ∃ z : Int, z = (u_39.1 153 2) * tn := ⟨_, rfl⟩
    refine r_i (b := sg) esg.symm ?_
    have hsg : -1 ≤ sg ∧ sg ≤ 1 := by rw [esg]; exact mul_s (by omega) (by omega)
    refine p_X2_145 Cx hW hL (k := 153) (by decide) rfl dX2_pivotGreat_122 (fun H locs hW hL => ?_)
    have F_45 : Fr S (uF u_39 153 2 sg) pZ := F_41.F rfl
    have i_46 : cX G (uF u_39 153 2 sg) 0 0 0 := iu_39.F rfl rfl (show (-1) ≤ sg ∧ sg ≤ 1 from ⟨by omega, by omega⟩)
    refine lv_aload_n hx hb dX2_pivotGreat_125 rfl (lv_at hl 0 rfl) ?_
    refine g_X2_50 Cx hW (k := 135) (by decide) rfl (v := .ref (G.2.2.1 + 153)) (rf_135_11 i_46) dX2_pivotGreat_126 ?_
    refine lv_aload_n hx hb dX2_pivotGreat_129 rfl (lv_at hl 0 rfl) ?_
    refine g_X2_17 Cx hW (k := 135) (by decide) rfl (v := .ref (G.2.2.1 + o_2)) (((uF_r).trans (((fu_39 135 rfl).2.2.2 1).trans (((fu_30 135 rfl).2.2.2 1).trans (((fu_21 135 rfl).2.2.2 1).trans (((fu_15 135 rfl).2.2.2 1).trans (((fu_12 135 rfl).2.2.2 1).trans (((fu_9 135 rfl).2.2.2 1).trans ((fu_3 135 rfl).2.2.2 1)))))))).trans eo_2) dX2_pivotGreat_130 ?_
    refine lv_iload_n hx hb dX2_pivotGreat_133 rfl (lv_at hl 1 rfl) ?_
    have lk_47 : (uF u_39 153 2 sg).1 153 1 = u_39.1 153 1 := uF_ne (fun h => absurd h.2 (by decide))
    have lk_48 : (uF u_39 153 2 sg).1 153 2 = sg := uF_on
    refine sBv (sV (As := [.ref (G.2.2.1 + o_2), .int (iv a)]) (rest := []) (k := 153) Cx (s_X0_save l G (uF u_39 153 2 sg) (o := 153) (k := o_2) (a := a) (N := 4816) i_46 rfl (dic_a mo_2) (by omega) (dicSv mo_2 (by omega)) (fun _ q => by exfalso; omega)) (c_X2_154 Cx rfl rfl (rmk_ok (by omega) (by decide))) hW (by decide) rfl rfl rfl hl.1 rfl (Nat.le_of_ble_eq_true rfl) dX2_pivotGreat_134 ⟨Nat.le_of_ble_eq_true rfl, Nat.le_of_ble_eq_true rfl⟩) hL (fun u_49 H locs k_50 hW hL => ?_)
    obtain ⟨iu_49, fu_49⟩ := k_50
    have F_51 := F_45.trans (fu_49.to (p1_sub (dic_z mo_2)))
    refine lv_iconst (v := iv 1) hx hb dX2_pivotGreat_137 (by decide) ?_
    exact sZret Cx hr hlk hW hL (by omega) ⟨iu_49, F_51, (by omega)⟩ dX2_pivotGreat_138
  · refine lv_iconst (v := iv 0) hx hb dX2_pivotGreat_109 (by decide) ?_
    exact sZret Cx hr hlk hW hL (by omega) ⟨iu_39, F_41, (by omega)⟩ dX2_pivotGreat_110

set_option maxRecDepth 100000 in
set_option maxHeartbeats 4000000 in
theorem s_X2_pivotRow (l : Launch) (G : sG) (S : sS) {i tn : Int} (hI : cX G S 0 0 0) (hrc : 1 ≤ S.1 135 17 ∧ 1 ≤ S.1 135 18) (hi : -1 ≤ i ∧ i ≤ 40) (htn : -1 ≤ tn ∧ tn ≤ 1) (hld : S.1 141 1 ≤ 6 ∧ S.1 143 1 ≤ 6) : Met l yX2_pivotRow (.code yX2_pivotRow cX2_pivotRow 18 (some .boolean) :: tb) (rmk 6 0 0) (sPc G 294 S [.ref (G.2.2.1 + 135), .int (iv i), .int (iv tn)]) (sQi G 294 (fun r u => cX G u 0 0 0 ∧ Fr S u pZ ∧ (0 ≤ r ∧ r ≤ 1))) 0 0 (sF G) := by
  refine sEnter (by decide) (Nat.le_of_ble_eq_true rfl) ?_
  intro p e s m args below meth c Cx hr hlk hnm hW ls hl
  have Cx : sC G p m c cX2_pivotRow 18 s args RX2 := Cx
  obtain ⟨hx, hb, hml, hown, hts⟩ := id Cx.1
  have hL : sL G [] := sL_nil
  have hl : lv_has ls 18 [(0, .ref (G.2.2.1 + 135)), (1, .int (iv i)), (2, .int (iv tn))] := hl
  have hW0 := hW
  refine lv_iload_n hx hb dX2_pivotRow_0 rfl (lv_at hl 1 rfl) ?_
  refine lv_iconst (v := iv 0) hx hb dX2_pivotRow_1 (by decide) ?_
  refine sBi (sSt (As := [.int (iv i), .int (iv 0)]) (rest := []) Cx (s_X2_at l G S (i := i) (j := 0) (by omega) (by omega)) (c_X2_77 Cx rfl rfl (rmk_ok (by omega) (by decide))) hW rfl hl.1 rfl (Nat.le_of_ble_eq_true rfl) dX2_pivotRow_2 ⟨Nat.le_of_ble_eq_true rfl, Nat.le_of_ble_eq_true rfl⟩) hL (fun r_3 u_1 H locs k_2 hW hL => ?_)
  obtain ⟨eu_1, xu_1⟩ := k_2
  rw [eu_1] at hW
  refine lv_istore_n (lv' := [(3, .int (iv r_3)), (0, .ref (G.2.2.1 + 135)), (1, .int (iv i)), (2, .int (iv tn))]) hx hb dX2_pivotRow_5 rfl hl (by decide) rfl (fun ls hl => ?_)
  refine lv_aload_n hx hb dX2_pivotRow_6 rfl (lv_at hl 1 rfl) ?_
  have q_4 : (-1) ≤ S.1 135 17 ∧ S.1 135 17 ≤ 40 := hI.fi 135 17 2 (by decide) rfl
  refine g_X2_147 Cx hW (k := 135) (by decide) rfl (v := S.1 135 17) rfl dX2_pivotRow_7 ?_
  refine lv_iconst (v := iv 0) hx hb dX2_pivotRow_10 (by decide) ?_
  refine sBi (sSt (As := [.int (iv (S.1 135 17)), .int (iv 0)]) (rest := []) Cx (s_X2_at l G S (i := S.1 135 17) (j := 0) (by omega) (by omega)) (c_X2_77 Cx rfl rfl (rmk_ok (by omega) (by decide))) hW rfl hl.1 rfl (Nat.le_of_ble_eq_true rfl) dX2_pivotRow_11 ⟨Nat.le_of_ble_eq_true rfl, Nat.le_of_ble_eq_true rfl⟩) hL (fun r_7 u_5 H locs k_6 hW hL => ?_)
  obtain ⟨eu_5, xu_5⟩ := k_6
  rw [eu_5] at hW
  refine lv_istore (lv' := [(4, .int (iv r_7)), (3, .int (iv r_3)), (0, .ref (G.2.2.1 + 135)), (1, .int (iv i)), (2, .int (iv tn))]) hx hb dX2_pivotRow_14 hl (by decide) rfl (fun ls hl => ?_)
  refine lv_aload_n hx hb dX2_pivotRow_16 rfl (lv_at hl 2 rfl) ?_
  have q_8 : (-1) ≤ S.1 135 18 ∧ S.1 135 18 ≤ 13 := hI.fi 135 18 2 (by decide) rfl
  refine g_X2_131 Cx hW (k := 135) (by decide) rfl (v := S.1 135 18) rfl dX2_pivotRow_17 ?_
  refine lv_bipush (v := iv 8) hx hb dX2_pivotRow_20 (by decide) ?_
  refine r_imul hx hb dX2_pivotRow_22 ?_
  refine lv_istore (lv' := [(5, .int (iv ((S.1 135 18) * 8))), (4, .int (iv r_7)), (3, .int (iv r_3)), (0, .ref (G.2.2.1 + 135)), (1, .int (iv i)), (2, .int (iv tn))]) hx hb dX2_pivotRow_23 hl (by decide) rfl (fun ls hl => ?_)
  refine lv_aload_n hx hb dX2_pivotRow_25 rfl (lv_at hl 3 rfl) ?_
  refine lv_bipush (v := iv (-2)) hx hb dX2_pivotRow_26 (by decide) ?_
  refine lv_iconst (v := iv 0) hx hb dX2_pivotRow_28 (by decide) ?_
  refine sBi (sSt (As := [.int (iv ((-2))), .int (iv 0)]) (rest := [.ref (G.2.2.1 + 135)]) Cx (s_X2_at l G S (i := (-2)) (j := 0) (by omega) (by omega)) (c_X2_77 Cx rfl rfl (rmk_ok (by omega) (by decide))) hW rfl hl.1 rfl (Nat.le_of_ble_eq_true rfl) dX2_pivotRow_29 ⟨Nat.le_of_ble_eq_true rfl, Nat.le_of_ble_eq_true rfl⟩) hL (fun r_11 u_9 H locs k_10 hW hL => ?_)
  obtain ⟨eu_9, xu_9⟩ := k_10
  rw [eu_9] at hW
  obtain ⟨o_12, o_13, mo_12, mo_13, no_12, eo_12, eo_13⟩ := rm_135 hI
  refine sBl (sV (As := [.int (iv r_11)]) (rest := []) (k := 135) Cx (s_X2_small l G S (a := r_11) (oc := o_12) (od := o_13) hI ⟨mo_12, mo_13, (neD no_12), eo_12, eo_13⟩ (by omega)) (c_X2_150 Cx rfl rfl (rmk_ok (by omega) (by decide))) hW (by decide) rfl rfl rfl hl.1 rfl (Nat.le_of_ble_eq_true rfl) dX2_pivotRow_32 ⟨Nat.le_of_ble_eq_true rfl, Nat.le_of_ble_eq_true rfl⟩) hL (fun by0 u_14 H locs k_15 hW hL => ?_)
  obtain ⟨eu_14, xu_14⟩ := k_15
  rw [eu_14] at hW
  refine lv_lstore (lv' := [(6, .long (jv by0)), (5, .int (iv ((S.1 135 18) * 8))), (4, .int (iv r_7)), (3, .int (iv r_3)), (0, .ref (G.2.2.1 + 135)), (1, .int (iv i)), (2, .int (iv tn))]) hx hb dX2_pivotRow_35 hl (by decide) rfl (fun ls hl => ?_)
  refine lv_aload_n hx hb dX2_pivotRow_37 rfl (lv_at hl 4 rfl) ?_
  refine lv_iload hx hb dX2_pivotRow_38 (lv_at hl 2 rfl) ?_
  refine lv_iload hx hb dX2_pivotRow_40 (lv_at hl 1 rfl) ?_
  refine r_iadd hx hb dX2_pivotRow_42 ?_
  refine sBl (sV (As := [.int (iv (r_7 + ((S.1 135 18) * 8)))]) (rest := []) (k := 135) Cx (s_X2_small l G S (a := r_7 + ((S.1 135 18) * 8)) (oc := o_12) (od := o_13) hI ⟨mo_12, mo_13, (neD no_12), eo_12, eo_13⟩ (by omega)) (c_X2_150 Cx rfl rfl (rmk_ok (by omega) (by decide))) hW (by decide) rfl rfl rfl hl.1 rfl (Nat.le_of_ble_eq_true rfl) dX2_pivotRow_43 ⟨Nat.le_of_ble_eq_true rfl, Nat.le_of_ble_eq_true rfl⟩) hL (fun pv u_16 H locs k_17 hW hL => ?_)
  obtain ⟨eu_16, xu_16⟩ := k_17
  rw [eu_16] at hW
  refine lv_lstore (lv' := [(8, .long (jv pv)), (6, .long (jv by0)), (5, .int (iv ((S.1 135 18) * 8))), (4, .int (iv r_7)), (3, .int (iv r_3)), (0, .ref (G.2.2.1 + 135)), (1, .int (iv i)), (2, .int (iv tn))]) hx hb dX2_pivotRow_46 hl (by decide) rfl (fun ls hl => ?_)
  refine lv_aload_n hx hb dX2_pivotRow_48 rfl (lv_at hl 5 rfl) ?_
  refine lv_iload_n hx hb dX2_pivotRow_49 rfl (lv_at hl 4 rfl) ?_
  refine lv_iload hx hb dX2_pivotRow_50 (lv_at hl 2 rfl) ?_
  refine r_iadd hx hb dX2_pivotRow_52 ?_
  refine sBl (sV (As := [.int (iv (r_3 + ((S.1 135 18) * 8)))]) (rest := []) (k := 135) Cx (s_X2_small l G S (a := r_3 + ((S.1 135 18) * 8)) (oc := o_12) (od := o_13) hI ⟨mo_12, mo_13, (neD no_12), eo_12, eo_13⟩ (by omega)) (c_X2_150 Cx rfl rfl (rmk_ok (by omega) (by decide))) hW (by decide) rfl rfl rfl hl.1 rfl (Nat.le_of_ble_eq_true rfl) dX2_pivotRow_53 ⟨Nat.le_of_ble_eq_true rfl, Nat.le_of_ble_eq_true rfl⟩) hL (fun tm u_18 H locs k_19 hW hL => ?_)
  obtain ⟨eu_18, xu_18⟩ := k_19
  rw [eu_18] at hW
  refine lv_lstore (lv' := [(10, .long (jv tm)), (8, .long (jv pv)), (6, .long (jv by0)), (5, .int (iv ((S.1 135 18) * 8))), (4, .int (iv r_7)), (3, .int (iv r_3)), (0, .ref (G.2.2.1 + 135)), (1, .int (iv i)), (2, .int (iv tn))]) hx hb dX2_pivotRow_56 hl (by decide) rfl (fun ls hl => ?_)
  refine lv_lload hx hb dX2_pivotRow_58 (lv_at hl 2 rfl) ?_
  refine lv_lconst (v := jv 0) hx hb dX2_pivotRow_60 (by decide) ?_
  refine r_lcmp hx hb ⟨(by omega), (by omega)⟩ ⟨(by omega), (by omega)⟩ dX2_pivotRow_61 (fun z_20 az_20 bz_20 cz_20 => ?_)
  refine r_if_le (tgt := 105) hx hb ⟨(by omega), (by omega)⟩ dX2_pivotRow_62 (by decide) (fun c_21 => ?_) (fun c_21 => ?_)
  · refine lv_iconst (v := iv 0) hx hb dX2_pivotRow_105 (by decide) ?_
    refine lv_istore (lv' := [(12, .int (iv 0)), (10, .long (jv tm)), (8, .long (jv pv)), (6, .long (jv by0)), (5, .int (iv ((S.1 135 18) * 8))), (4, .int (iv r_7)), (3, .int (iv r_3)), (0, .ref (G.2.2.1 + 135)), (1, .int (iv i)), (2, .int (iv tn))]) hx hb dX2_pivotRow_106 hl (by decide) rfl (fun ls hl => ?_)
    refine lv_iconst (v := iv 0) hx hb dX2_pivotRow_108 (by decide) ?_
    refine lv_istore (lv' := [(13, .int (iv 0)), (12, .int (iv 0)), (10, .long (jv tm)), (8, .long (jv pv)), (6, .long (jv by0)), (5, .int (iv ((S.1 135 18) * 8))), (4, .int (iv r_7)), (3, .int (iv r_3)), (0, .ref (G.2.2.1 + 135)), (1, .int (iv i)), (2, .int (iv tn))]) hx hb dX2_pivotRow_109 hl (by decide) rfl (fun ls hl => ?_)
    have loop_111 : ∀ (fuel : Nat) (S111 : sS) (j : Int) (H : Heap) (locs : List Loc) (ls : Array Slot), (14 - j).toNat < fuel → (cX G S111 0 0 0) → (Fr S S111 pZ) → (Fr S S111 pZ) → (0 ≤ j ∧ j ≤ 14) → sW G 294 S111 H → sL G locs → lv_has ls 18 [(13, .int (iv j)), (12, .int (iv 0)), (10, .long (jv tm)), (8, .long (jv pv)), (6, .long (jv by0)), (5, .int (iv ((S.1 135 18) * 8))), (4, .int (iv r_7)), (3, .int (iv r_3)), (0, .ref (G.2.2.1 + 135)), (1, .int (iv i)), (2, .int (iv tn))] → W p l e (rmk 6 0 0) s m args below meth c H locs 0 0 (MQ below (sQi G 294 (fun r u => cX G u 0 0 0 ∧ Fr S u pZ ∧ (0 ≤ r ∧ r ≤ 1))) args s 0 0 (sF G)) (F0 m 111 ls []) := by
      intro fuel
      induction fuel with
      | zero => intro S111 j H locs ls hmeas hI111 hFm111 hL111_ hj hW hL hl; exact absurd hmeas (Nat.not_lt_zero _)
      | succ fuel ih_111 =>
        intro S111 j H locs ls hmeas hI111 hFm111 hL111_ hj hW hL hl
        refine lv_iload hx hb dX2_pivotRow_111 (lv_at hl 0 rfl) ?_
        refine lv_aload_n hx hb dX2_pivotRow_113 rfl (lv_at hl 8 rfl) ?_
        have q_22 : 0 ≤ S.1 135 15 ∧ S.1 135 15 ≤ 13 := hI.fi 135 15 2 (by decide) rfl
        refine g_X2_67 Cx hW (k := 135) (by decide) rfl (v := S.1 135 15) ((hL111_ 135 rfl).1 15) dX2_pivotRow_114 ?_
        refine r_icmp_gt (tgt := 254) hx hb ⟨(by omega), (by omega)⟩ ⟨(by omega), (by omega)⟩ dX2_pivotRow_117 (by decide) (fun c_23 => ?_) (fun c_23 => ?_)
        · refine lv_iconst (v := iv 1) hx hb dX2_pivotRow_254 (by decide) ?_
          exact sZret Cx hr hlk hW hL (by omega) ⟨hI111, hFm111, (by omega)⟩ dX2_pivotRow_255
        · refine lv_iload_n hx hb dX2_pivotRow_120 rfl (lv_at hl 7 rfl) ?_
          refine lv_iload hx hb dX2_pivotRow_121 (lv_at hl 0 rfl) ?_
          refine lv_bipush (v := iv 8) hx hb dX2_pivotRow_123 (by decide) ?_
          refine r_imul hx hb dX2_pivotRow_125 ?_
          refine r_iadd hx hb dX2_pivotRow_126 ?_
          refine lv_istore (lv' := [(14, .int (iv (r_3 + (j * 8)))), (13, .int (iv j)), (12, .int (iv 0)), (10, .long (jv tm)), (8, .long (jv pv)), (6, .long (jv by0)), (5, .int (iv ((S.1 135 18) * 8))), (4, .int (iv r_7)), (3, .int (iv r_3)), (0, .ref (G.2.2.1 + 135)), (1, .int (iv i)), (2, .int (iv tn))]) hx hb dX2_pivotRow_127 hl (by decide) rfl (fun ls hl => ?_)
          refine lv_iload hx hb dX2_pivotRow_129 (lv_at hl 7 rfl) ?_
          refine lv_iload hx hb dX2_pivotRow_131 (lv_at hl 1 rfl) ?_
          refine lv_bipush (v := iv 8) hx hb dX2_pivotRow_133 (by decide) ?_
          refine r_imul hx hb dX2_pivotRow_135 ?_
          refine r_iadd hx hb dX2_pivotRow_136 ?_
          refine lv_istore (lv' := [(15, .int (iv (r_7 + (j * 8)))), (14, .int (iv (r_3 + (j * 8)))), (13, .int (iv j)), (12, .int (iv 0)), (10, .long (jv tm)), (8, .long (jv pv)), (6, .long (jv by0)), (5, .int (iv ((S.1 135 18) * 8))), (4, .int (iv r_7)), (3, .int (iv r_3)), (0, .ref (G.2.2.1 + 135)), (1, .int (iv i)), (2, .int (iv tn))]) hx hb dX2_pivotRow_137 hl (by decide) rfl (fun ls hl => ?_)
          refine lv_iload hx hb dX2_pivotRow_139 (lv_at hl 2 rfl) ?_
          refine lv_aload_n hx hb dX2_pivotRow_141 rfl (lv_at hl 10 rfl) ?_
          refine g_X2_131 Cx hW (k := 135) (by decide) rfl (v := S.1 135 18) ((hL111_ 135 rfl).1 18) dX2_pivotRow_142 ?_
          refine r_icmp_ne (tgt := 166) hx hb ⟨(by omega), (by omega)⟩ ⟨(by omega), (by omega)⟩ dX2_pivotRow_145 (by decide) (fun c_24 => ?_) (fun c_24 => ?_)
          · refine lv_iload hx hb dX2_pivotRow_166 (lv_at hl 3 rfl) ?_
            refine r_if_eq (tgt := 230) hx hb ⟨(by omega), (by omega)⟩ dX2_pivotRow_168 (by decide) (fun _ => ?_) (fun c => absurd (by omega) c)
            refine lv_aload_n hx hb dX2_pivotRow_230 rfl (lv_at hl 10 rfl) ?_
            refine lv_iload hx hb dX2_pivotRow_231 (lv_at hl 1 rfl) ?_
            refine lv_iload_n hx hb dX2_pivotRow_233 rfl (lv_at hl 9 rfl) ?_
            refine lv_iload hx hb dX2_pivotRow_234 (lv_at hl 7 rfl) ?_
            refine r_iadd hx hb dX2_pivotRow_236 ?_
            refine lv_iload hx hb dX2_pivotRow_237 (lv_at hl 0 rfl) ?_
            refine lv_iload_n hx hb dX2_pivotRow_239 rfl (lv_at hl 12 rfl) ?_
            have q_25 : 0 ≤ S.1 141 1 ∧ S.1 141 1 ≤ 32 := hI.fi 141 1 0 (by decide) rfl
            have lk_26 : S111.1 141 1 = S.1 141 1 := (hL111_ 141 rfl).1 1
            have q_27 : 0 ≤ S.1 143 1 ∧ S.1 143 1 ≤ 32 := hI.fi 143 1 0 (by decide) rfl
            have lk_28 : S111.1 143 1 = S.1 143 1 := (hL111_ 143 rfl).1 1
            refine sBi (sV (As := [.int (iv (r_3 + (j * 8))), .int (iv (r_3 + ((S.1 135 18) * 8))), .int (iv (r_7 + (j * 8))), .int (iv tn)]) (rest := []) (k := 135) Cx (s_X2_pivotGreat l G S111 (a := r_3 + (j * 8)) (b1 := r_3 + ((S.1 135 18) * 8)) (c1 := r_7 + (j * 8)) (tn := tn) hI111 (by omega) (by omega) (by omega) (by omega) (by omega) (by omega)) (c_X2_192 Cx rfl rfl (rmk_ok (by omega) (by decide))) hW (by decide) rfl rfl rfl hl.1 rfl (Nat.le_of_ble_eq_true rfl) dX2_pivotRow_240 ⟨Nat.le_of_ble_eq_true rfl, Nat.le_of_ble_eq_true rfl⟩) hL (fun r_31 u_29 H locs k_30 hW hL => ?_)
            obtain ⟨iu_29, fu_29, xu_29⟩ := k_30
            have F_32 := hFm111.trans fu_29
            have F_33 := hL111_.trans fu_29
            refine r_if_ne (tgt := 248) hx hb ⟨(by omega), (by omega)⟩ dX2_pivotRow_243 (by decide) (fun c_34 => ?_) (fun c_34 => ?_)
            · refine lv_iinc (v := iv (j + 1)) (lv' := [(13, .int (iv (j + 1))), (15, .int (iv (r_7 + (j * 8)))), (14, .int (iv (r_3 + (j * 8)))), (12, .int (iv 0)), (10, .long (jv tm)), (8, .long (jv pv)), (6, .long (jv by0)), (5, .int (iv ((S.1 135 18) * 8))), (4, .int (iv r_7)), (3, .int (iv r_3)), (0, .ref (G.2.2.1 + 135)), (1, .int (iv i)), (2, .int (iv tn))]) hx hb dX2_pivotRow_248 hl (k := 2) rfl ((Int32.ofInt_add _ _).symm) (by decide) rfl (fun ls hl => ?_)
              refine lv_goto (tgt := 111) hx hb dX2_pivotRow_251 (by decide) ?_
              exact ih_111 u_29 (j + 1) _ _ _ (by omega) iu_29 F_32 F_33 (by omega) hW hL (lv_sub hl [0, 3, 4, 5, 6, 7, 8, 9, 10, 11, 12] rfl)
            · refine lv_iconst (v := iv 0) hx hb dX2_pivotRow_246 (by decide) ?_
              exact sZret Cx hr hlk hW hL (by omega) ⟨iu_29, F_32, (by omega)⟩ dX2_pivotRow_247
          · refine lv_aload_n hx hb dX2_pivotRow_148 rfl (lv_at hl 10 rfl) ?_
            refine g_X2_13 Cx hW (k := 135) (by decide) rfl (v := .ref (G.2.2.1 + o_12)) (((hL111_ 135 rfl).2.2.2 0).trans eo_12) dX2_pivotRow_149 ?_
            refine lv_aload_n hx hb dX2_pivotRow_152 rfl (lv_at hl 10 rfl) ?_
            refine g_X2_17 Cx hW (k := 135) (by decide) rfl (v := .ref (G.2.2.1 + o_13)) (((hL111_ 135 rfl).2.2.2 1).trans eo_13) dX2_pivotRow_153 ?_
            refine lv_iload hx hb dX2_pivotRow_156 (lv_at hl 1 rfl) ?_
            refine lv_iload_n hx hb dX2_pivotRow_158 rfl (lv_at hl 12 rfl) ?_
            refine r_ineg hx hb dX2_pivotRow_159 ?_
            refine sBv (sSt (As := [.ref (G.2.2.1 + o_12), .ref (G.2.2.1 + o_13), .int (iv (r_3 + (j * 8))), .int (iv (-tn))]) (rest := []) Cx (s_X0_move l G S111 (kf := o_12) (kt := o_13) (a := r_3 + (j * 8)) (tn := -tn) hI111 mo_12 mo_13 (neD no_12) (by omega) (by omega)) (c_X2_188 Cx rfl rfl (rmk_ok (by omega) (by decide))) hW rfl hl.1 rfl (Nat.le_of_ble_eq_true rfl) dX2_pivotRow_160 ⟨Nat.le_of_ble_eq_true rfl, Nat.le_of_ble_eq_true rfl⟩) hL (fun u_35 H locs k_36 hW hL => ?_)
            obtain ⟨iu_35, fu_35⟩ := k_36
            have F_37 := hFm111.trans (fu_35.to (p1_sub (dic_z mo_13)))
            have F_38 := hL111_.trans (fu_35.to (p1_sub (dic_z mo_13)))
            refine lv_goto (tgt := 248) hx hb dX2_pivotRow_163 (by decide) ?_
            refine lv_iinc (v := iv (j + 1)) (lv' := [(13, .int (iv (j + 1))), (15, .int (iv (r_7 + (j * 8)))), (14, .int (iv (r_3 + (j * 8)))), (12, .int (iv 0)), (10, .long (jv tm)), (8, .long (jv pv)), (6, .long (jv by0)), (5, .int (iv ((S.1 135 18) * 8))), (4, .int (iv r_7)), (3, .int (iv r_3)), (0, .ref (G.2.2.1 + 135)), (1, .int (iv i)), (2, .int (iv tn))]) hx hb dX2_pivotRow_248 hl (k := 2) rfl ((Int32.ofInt_add _ _).symm) (by decide) rfl (fun ls hl => ?_)
            refine lv_goto (tgt := 111) hx hb dX2_pivotRow_251 (by decide) ?_
            exact ih_111 u_35 (j + 1) _ _ _ (by omega) iu_35 F_37 F_38 (by omega) hW hL (lv_sub hl [0, 3, 4, 5, 6, 7, 8, 9, 10, 11, 12] rfl)
    exact loop_111 (_ + 1) S 0 _ _ _ (Nat.lt_succ_self _) hI (Fr.rf : Fr S S pZ) Fr.rf (by omega) hW hL (lv_sub hl [0, 1, 2, 3, 4, 5, 6, 7, 8, 9, 10] rfl)
  · refine lv_aload_n hx hb dX2_pivotRow_65 rfl (lv_at hl 6 rfl) ?_
    refine lv_bipush (v := iv (-2)) hx hb dX2_pivotRow_66 (by decide) ?_
    refine lv_iconst (v := iv 0) hx hb dX2_pivotRow_68 (by decide) ?_
    refine sBi (sSt (As := [.int (iv ((-2))), .int (iv 0)]) (rest := [.ref (G.2.2.1 + 135)]) Cx (s_X2_at l G S (i := (-2)) (j := 0) (by omega) (by omega)) (c_X2_77 Cx rfl rfl (rmk_ok (by omega) (by decide))) hW rfl hl.1 rfl (Nat.le_of_ble_eq_true rfl) dX2_pivotRow_69 ⟨Nat.le_of_ble_eq_true rfl, Nat.le_of_ble_eq_true rfl⟩) hL (fun r_41 u_39 H locs k_40 hW hL => ?_)
    obtain ⟨eu_39, xu_39⟩ := k_40
    rw [eu_39] at hW
    refine sBi (sV (As := [.int (iv r_41)]) (rest := []) (k := 135) Cx (s_X2_isSmall l G S (a := r_41) (oc := o_12) (od := o_13) hI ⟨mo_12, mo_13, (neD no_12), eo_12, eo_13⟩ (by omega)) (c_X2_167 Cx rfl rfl (rmk_ok (by omega) (by decide))) hW (by decide) rfl rfl rfl hl.1 rfl (Nat.le_of_ble_eq_true rfl) dX2_pivotRow_72 ⟨Nat.le_of_ble_eq_true rfl, Nat.le_of_ble_eq_true rfl⟩) hL (fun r_44 u_42 H locs k_43 hW hL => ?_)
    obtain ⟨eu_42, xu_42⟩ := k_43
    rw [eu_42] at hW
    refine r_if_eq (tgt := 105) hx hb ⟨(by omega), (by omega)⟩ dX2_pivotRow_75 (by decide) (fun c_45 => ?_) (fun c_45 => ?_)
    · refine lv_iconst (v := iv 0) hx hb dX2_pivotRow_105 (by decide) ?_
      refine lv_istore (lv' := [(12, .int (iv 0)), (10, .long (jv tm)), (8, .long (jv pv)), (6, .long (jv by0)), (5, .int (iv ((S.1 135 18) * 8))), (4, .int (iv r_7)), (3, .int (iv r_3)), (0, .ref (G.2.2.1 + 135)), (1, .int (iv i)), (2, .int (iv tn))]) hx hb dX2_pivotRow_106 hl (by decide) rfl (fun ls hl => ?_)
      refine lv_iconst (v := iv 0) hx hb dX2_pivotRow_108 (by decide) ?_
      refine lv_istore (lv' := [(13, .int (iv 0)), (12, .int (iv 0)), (10, .long (jv tm)), (8, .long (jv pv)), (6, .long (jv by0)), (5, .int (iv ((S.1 135 18) * 8))), (4, .int (iv r_7)), (3, .int (iv r_3)), (0, .ref (G.2.2.1 + 135)), (1, .int (iv i)), (2, .int (iv tn))]) hx hb dX2_pivotRow_109 hl (by decide) rfl (fun ls hl => ?_)
      have loop_111 : ∀ (fuel : Nat) (S111 : sS) (j : Int) (H : Heap) (locs : List Loc) (ls : Array Slot), (14 - j).toNat < fuel → (cX G S111 0 0 0) → (Fr S S111 pZ) → (Fr S S111 pZ) → (0 ≤ j ∧ j ≤ 14) → sW G 294 S111 H → sL G locs → lv_has ls 18 [(13, .int (iv j)), (12, .int (iv 0)), (10, .long (jv tm)), (8, .long (jv pv)), (6, .long (jv by0)), (5, .int (iv ((S.1 135 18) * 8))), (4, .int (iv r_7)), (3, .int (iv r_3)), (0, .ref (G.2.2.1 + 135)), (1, .int (iv i)), (2, .int (iv tn))] → W p l e (rmk 6 0 0) s m args below meth c H locs 0 0 (MQ below (sQi G 294 (fun r u => cX G u 0 0 0 ∧ Fr S u pZ ∧ (0 ≤ r ∧ r ≤ 1))) args s 0 0 (sF G)) (F0 m 111 ls []) := by
        intro fuel
        induction fuel with
        | zero => intro S111 j H locs ls hmeas hI111 hFm111 hL111_ hj hW hL hl; exact absurd hmeas (Nat.not_lt_zero _)
        | succ fuel ih_111 =>
          intro S111 j H locs ls hmeas hI111 hFm111 hL111_ hj hW hL hl
          refine lv_iload hx hb dX2_pivotRow_111 (lv_at hl 0 rfl) ?_
          refine lv_aload_n hx hb dX2_pivotRow_113 rfl (lv_at hl 8 rfl) ?_
          have q_46 : 0 ≤ S.1 135 15 ∧ S.1 135 15 ≤ 13 := hI.fi 135 15 2 (by decide) rfl
          refine g_X2_67 Cx hW (k := 135) (by decide) rfl (v := S.1 135 15) ((hL111_ 135 rfl).1 15) dX2_pivotRow_114 ?_
          refine r_icmp_gt (tgt := 254) hx hb ⟨(by omega), (by omega)⟩ ⟨(by omega), (by omega)⟩ dX2_pivotRow_117 (by decide) (fun c_47 => ?_) (fun c_47 => ?_)
          · refine lv_iconst (v := iv 1) hx hb dX2_pivotRow_254 (by decide) ?_
            exact sZret Cx hr hlk hW hL (by omega) ⟨hI111, hFm111, (by omega)⟩ dX2_pivotRow_255
          · refine lv_iload_n hx hb dX2_pivotRow_120 rfl (lv_at hl 7 rfl) ?_
            refine lv_iload hx hb dX2_pivotRow_121 (lv_at hl 0 rfl) ?_
            refine lv_bipush (v := iv 8) hx hb dX2_pivotRow_123 (by decide) ?_
            refine r_imul hx hb dX2_pivotRow_125 ?_
            refine r_iadd hx hb dX2_pivotRow_126 ?_
            refine lv_istore (lv' := [(14, .int (iv (r_3 + (j * 8)))), (13, .int (iv j)), (12, .int (iv 0)), (10, .long (jv tm)), (8, .long (jv pv)), (6, .long (jv by0)), (5, .int (iv ((S.1 135 18) * 8))), (4, .int (iv r_7)), (3, .int (iv r_3)), (0, .ref (G.2.2.1 + 135)), (1, .int (iv i)), (2, .int (iv tn))]) hx hb dX2_pivotRow_127 hl (by decide) rfl (fun ls hl => ?_)
            refine lv_iload hx hb dX2_pivotRow_129 (lv_at hl 7 rfl) ?_
            refine lv_iload hx hb dX2_pivotRow_131 (lv_at hl 1 rfl) ?_
            refine lv_bipush (v := iv 8) hx hb dX2_pivotRow_133 (by decide) ?_
            refine r_imul hx hb dX2_pivotRow_135 ?_
            refine r_iadd hx hb dX2_pivotRow_136 ?_
            refine lv_istore (lv' := [(15, .int (iv (r_7 + (j * 8)))), (14, .int (iv (r_3 + (j * 8)))), (13, .int (iv j)), (12, .int (iv 0)), (10, .long (jv tm)), (8, .long (jv pv)), (6, .long (jv by0)), (5, .int (iv ((S.1 135 18) * 8))), (4, .int (iv r_7)), (3, .int (iv r_3)), (0, .ref (G.2.2.1 + 135)), (1, .int (iv i)), (2, .int (iv tn))]) hx hb dX2_pivotRow_137 hl (by decide) rfl (fun ls hl => ?_)
            refine lv_iload hx hb dX2_pivotRow_139 (lv_at hl 2 rfl) ?_
            refine lv_aload_n hx hb dX2_pivotRow_141 rfl (lv_at hl 10 rfl) ?_
            refine g_X2_131 Cx hW (k := 135) (by decide) rfl (v := S.1 135 18) ((hL111_ 135 rfl).1 18) dX2_pivotRow_142 ?_
            refine r_icmp_ne (tgt := 166) hx hb ⟨(by omega), (by omega)⟩ ⟨(by omega), (by omega)⟩ dX2_pivotRow_145 (by decide) (fun c_48 => ?_) (fun c_48 => ?_)
            · refine lv_iload hx hb dX2_pivotRow_166 (lv_at hl 3 rfl) ?_
              refine r_if_eq (tgt := 230) hx hb ⟨(by omega), (by omega)⟩ dX2_pivotRow_168 (by decide) (fun _ => ?_) (fun c => absurd (by omega) c)
              refine lv_aload_n hx hb dX2_pivotRow_230 rfl (lv_at hl 10 rfl) ?_
              refine lv_iload hx hb dX2_pivotRow_231 (lv_at hl 1 rfl) ?_
              refine lv_iload_n hx hb dX2_pivotRow_233 rfl (lv_at hl 9 rfl) ?_
              refine lv_iload hx hb dX2_pivotRow_234 (lv_at hl 7 rfl) ?_
              refine r_iadd hx hb dX2_pivotRow_236 ?_
              refine lv_iload hx hb dX2_pivotRow_237 (lv_at hl 0 rfl) ?_
              refine lv_iload_n hx hb dX2_pivotRow_239 rfl (lv_at hl 12 rfl) ?_
              have q_49 : 0 ≤ S.1 141 1 ∧ S.1 141 1 ≤ 32 := hI.fi 141 1 0 (by decide) rfl
              have lk_50 : S111.1 141 1 = S.1 141 1 := (hL111_ 141 rfl).1 1
              have q_51 : 0 ≤ S.1 143 1 ∧ S.1 143 1 ≤ 32 := hI.fi 143 1 0 (by decide) rfl
              have lk_52 : S111.1 143 1 = S.1 143 1 := (hL111_ 143 rfl).1 1
              refine sBi (sV (As := [.int (iv (r_3 + (j * 8))), .int (iv (r_3 + ((S.1 135 18) * 8))), .int (iv (r_7 + (j * 8))), .int (iv tn)]) (rest := []) (k := 135) Cx (s_X2_pivotGreat l G S111 (a := r_3 + (j * 8)) (b1 := r_3 + ((S.1 135 18) * 8)) (c1 := r_7 + (j * 8)) (tn := tn) hI111 (by omega) (by omega) (by omega) (by omega) (by omega) (by omega)) (c_X2_192 Cx rfl rfl (rmk_ok (by omega) (by decide))) hW (by decide) rfl rfl rfl hl.1 rfl (Nat.le_of_ble_eq_true rfl) dX2_pivotRow_240 ⟨Nat.le_of_ble_eq_true rfl, Nat.le_of_ble_eq_true rfl⟩) hL (fun r_55 u_53 H locs k_54 hW hL => ?_)
              obtain ⟨iu_53, fu_53, xu_53⟩ := k_54
              have F_56 := hFm111.trans fu_53
              have F_57 := hL111_.trans fu_53
              refine r_if_ne (tgt := 248) hx hb ⟨(by omega), (by omega)⟩ dX2_pivotRow_243 (by decide) (fun c_58 => ?_) (fun c_58 => ?_)
              · refine lv_iinc (v := iv (j + 1)) (lv' := [(13, .int (iv (j + 1))), (15, .int (iv (r_7 + (j * 8)))), (14, .int (iv (r_3 + (j * 8)))), (12, .int (iv 0)), (10, .long (jv tm)), (8, .long (jv pv)), (6, .long (jv by0)), (5, .int (iv ((S.1 135 18) * 8))), (4, .int (iv r_7)), (3, .int (iv r_3)), (0, .ref (G.2.2.1 + 135)), (1, .int (iv i)), (2, .int (iv tn))]) hx hb dX2_pivotRow_248 hl (k := 2) rfl ((Int32.ofInt_add _ _).symm) (by decide) rfl (fun ls hl => ?_)
                refine lv_goto (tgt := 111) hx hb dX2_pivotRow_251 (by decide) ?_
                exact ih_111 u_53 (j + 1) _ _ _ (by omega) iu_53 F_56 F_57 (by omega) hW hL (lv_sub hl [0, 3, 4, 5, 6, 7, 8, 9, 10, 11, 12] rfl)
              · refine lv_iconst (v := iv 0) hx hb dX2_pivotRow_246 (by decide) ?_
                exact sZret Cx hr hlk hW hL (by omega) ⟨iu_53, F_56, (by omega)⟩ dX2_pivotRow_247
            · refine lv_aload_n hx hb dX2_pivotRow_148 rfl (lv_at hl 10 rfl) ?_
              refine g_X2_13 Cx hW (k := 135) (by decide) rfl (v := .ref (G.2.2.1 + o_12)) (((hL111_ 135 rfl).2.2.2 0).trans eo_12) dX2_pivotRow_149 ?_
              refine lv_aload_n hx hb dX2_pivotRow_152 rfl (lv_at hl 10 rfl) ?_
              refine g_X2_17 Cx hW (k := 135) (by decide) rfl (v := .ref (G.2.2.1 + o_13)) (((hL111_ 135 rfl).2.2.2 1).trans eo_13) dX2_pivotRow_153 ?_
              refine lv_iload hx hb dX2_pivotRow_156 (lv_at hl 1 rfl) ?_
              refine lv_iload_n hx hb dX2_pivotRow_158 rfl (lv_at hl 12 rfl) ?_
              refine r_ineg hx hb dX2_pivotRow_159 ?_
              refine sBv (sSt (As := [.ref (G.2.2.1 + o_12), .ref (G.2.2.1 + o_13), .int (iv (r_3 + (j * 8))), .int (iv (-tn))]) (rest := []) Cx (s_X0_move l G S111 (kf := o_12) (kt := o_13) (a := r_3 + (j * 8)) (tn := -tn) hI111 mo_12 mo_13 (neD no_12) (by omega) (by omega)) (c_X2_188 Cx rfl rfl (rmk_ok (by omega) (by decide))) hW rfl hl.1 rfl (Nat.le_of_ble_eq_true rfl) dX2_pivotRow_160 ⟨Nat.le_of_ble_eq_true rfl, Nat.le_of_ble_eq_true rfl⟩) hL (fun u_59 H locs k_60 hW hL => ?_)
              obtain ⟨iu_59, fu_59⟩ := k_60
              have F_61 := hFm111.trans (fu_59.to (p1_sub (dic_z mo_13)))
              have F_62 := hL111_.trans (fu_59.to (p1_sub (dic_z mo_13)))
              refine lv_goto (tgt := 248) hx hb dX2_pivotRow_163 (by decide) ?_
              refine lv_iinc (v := iv (j + 1)) (lv' := [(13, .int (iv (j + 1))), (15, .int (iv (r_7 + (j * 8)))), (14, .int (iv (r_3 + (j * 8)))), (12, .int (iv 0)), (10, .long (jv tm)), (8, .long (jv pv)), (6, .long (jv by0)), (5, .int (iv ((S.1 135 18) * 8))), (4, .int (iv r_7)), (3, .int (iv r_3)), (0, .ref (G.2.2.1 + 135)), (1, .int (iv i)), (2, .int (iv tn))]) hx hb dX2_pivotRow_248 hl (k := 2) rfl ((Int32.ofInt_add _ _).symm) (by decide) rfl (fun ls hl => ?_)
              refine lv_goto (tgt := 111) hx hb dX2_pivotRow_251 (by decide) ?_
              exact ih_111 u_59 (j + 1) _ _ _ (by omega) iu_59 F_61 F_62 (by omega) hW hL (lv_sub hl [0, 3, 4, 5, 6, 7, 8, 9, 10, 11, 12] rfl)
      exact loop_111 (_ + 1) S 0 _ _ _ (Nat.lt_succ_self _) hI (Fr.rf : Fr S S pZ) Fr.rf (by omega) hW hL (lv_sub hl [0, 1, 2, 3, 4, 5, 6, 7, 8, 9, 10] rfl)
    · refine lv_aload_n hx hb dX2_pivotRow_78 rfl (lv_at hl 6 rfl) ?_
      refine lv_iload hx hb dX2_pivotRow_79 (lv_at hl 4 rfl) ?_
      refine lv_iload hx hb dX2_pivotRow_81 (lv_at hl 3 rfl) ?_
      refine r_iadd hx hb dX2_pivotRow_83 ?_
      refine sBi (sV (As := [.int (iv (r_7 + ((S.1 135 18) * 8)))]) (rest := []) (k := 135) Cx (s_X2_isSmall l G S (a := r_7 + ((S.1 135 18) * 8)) (oc := o_12) (od := o_13) hI ⟨mo_12, mo_13, (neD no_12), eo_12, eo_13⟩ (by omega)) (c_X2_167 Cx rfl rfl (rmk_ok (by omega) (by decide))) hW (by decide) rfl rfl rfl hl.1 rfl (Nat.le_of_ble_eq_true rfl) dX2_pivotRow_84 ⟨Nat.le_of_ble_eq_true rfl, Nat.le_of_ble_eq_true rfl⟩) hL (fun r_65 u_63 H locs k_64 hW hL => ?_)
      obtain ⟨eu_63, xu_63⟩ := k_64
      rw [eu_63] at hW
      refine r_if_eq (tgt := 105) hx hb ⟨(by omega), (by omega)⟩ dX2_pivotRow_87 (by decide) (fun c_66 => ?_) (fun c_66 => ?_)
      · refine lv_iconst (v := iv 0) hx hb dX2_pivotRow_105 (by decide) ?_
        refine lv_istore (lv' := [(12, .int (iv 0)), (10, .long (jv tm)), (8, .long (jv pv)), (6, .long (jv by0)), (5, .int (iv ((S.1 135 18) * 8))), (4, .int (iv r_7)), (3, .int (iv r_3)), (0, .ref (G.2.2.1 + 135)), (1, .int (iv i)), (2, .int (iv tn))]) hx hb dX2_pivotRow_106 hl (by decide) rfl (fun ls hl => ?_)
        refine lv_iconst (v := iv 0) hx hb dX2_pivotRow_108 (by decide) ?_
        refine lv_istore (lv' := [(13, .int (iv 0)), (12, .int (iv 0)), (10, .long (jv tm)), (8, .long (jv pv)), (6, .long (jv by0)), (5, .int (iv ((S.1 135 18) * 8))), (4, .int (iv r_7)), (3, .int (iv r_3)), (0, .ref (G.2.2.1 + 135)), (1, .int (iv i)), (2, .int (iv tn))]) hx hb dX2_pivotRow_109 hl (by decide) rfl (fun ls hl => ?_)
        have loop_111 : ∀ (fuel : Nat) (S111 : sS) (j : Int) (H : Heap) (locs : List Loc) (ls : Array Slot), (14 - j).toNat < fuel → (cX G S111 0 0 0) → (Fr S S111 pZ) → (Fr S S111 pZ) → (0 ≤ j ∧ j ≤ 14) → sW G 294 S111 H → sL G locs → lv_has ls 18 [(13, .int (iv j)), (12, .int (iv 0)), (10, .long (jv tm)), (8, .long (jv pv)), (6, .long (jv by0)), (5, .int (iv ((S.1 135 18) * 8))), (4, .int (iv r_7)), (3, .int (iv r_3)), (0, .ref (G.2.2.1 + 135)), (1, .int (iv i)), (2, .int (iv tn))] → W p l e (rmk 6 0 0) s m args below meth c H locs 0 0 (MQ below (sQi G 294 (fun r u => cX G u 0 0 0 ∧ Fr S u pZ ∧ (0 ≤ r ∧ r ≤ 1))) args s 0 0 (sF G)) (F0 m 111 ls []) := by
          intro fuel
          induction fuel with
          | zero => intro S111 j H locs ls hmeas hI111 hFm111 hL111_ hj hW hL hl; exact absurd hmeas (Nat.not_lt_zero _)
          | succ fuel ih_111 =>
            intro S111 j H locs ls hmeas hI111 hFm111 hL111_ hj hW hL hl
            refine lv_iload hx hb dX2_pivotRow_111 (lv_at hl 0 rfl) ?_
            refine lv_aload_n hx hb dX2_pivotRow_113 rfl (lv_at hl 8 rfl) ?_
            have q_67 : 0 ≤ S.1 135 15 ∧ S.1 135 15 ≤ 13 := hI.fi 135 15 2 (by decide) rfl
            refine g_X2_67 Cx hW (k := 135) (by decide) rfl (v := S.1 135 15) ((hL111_ 135 rfl).1 15) dX2_pivotRow_114 ?_
            refine r_icmp_gt (tgt := 254) hx hb ⟨(by omega), (by omega)⟩ ⟨(by omega), (by omega)⟩ dX2_pivotRow_117 (by decide) (fun c_68 => ?_) (fun c_68 => ?_)
            · refine lv_iconst (v := iv 1) hx hb dX2_pivotRow_254 (by decide) ?_
              exact sZret Cx hr hlk hW hL (by omega) ⟨hI111, hFm111, (by omega)⟩ dX2_pivotRow_255
            · refine lv_iload_n hx hb dX2_pivotRow_120 rfl (lv_at hl 7 rfl) ?_
              refine lv_iload hx hb dX2_pivotRow_121 (lv_at hl 0 rfl) ?_
              refine lv_bipush (v := iv 8) hx hb dX2_pivotRow_123 (by decide) ?_
              refine r_imul hx hb dX2_pivotRow_125 ?_
              refine r_iadd hx hb dX2_pivotRow_126 ?_
              refine lv_istore (lv' := [(14, .int (iv (r_3 + (j * 8)))), (13, .int (iv j)), (12, .int (iv 0)), (10, .long (jv tm)), (8, .long (jv pv)), (6, .long (jv by0)), (5, .int (iv ((S.1 135 18) * 8))), (4, .int (iv r_7)), (3, .int (iv r_3)), (0, .ref (G.2.2.1 + 135)), (1, .int (iv i)), (2, .int (iv tn))]) hx hb dX2_pivotRow_127 hl (by decide) rfl (fun ls hl => ?_)
              refine lv_iload hx hb dX2_pivotRow_129 (lv_at hl 7 rfl) ?_
              refine lv_iload hx hb dX2_pivotRow_131 (lv_at hl 1 rfl) ?_
              refine lv_bipush (v := iv 8) hx hb dX2_pivotRow_133 (by decide) ?_
              refine r_imul hx hb dX2_pivotRow_135 ?_
              refine r_iadd hx hb dX2_pivotRow_136 ?_
              refine lv_istore (lv' := [(15, .int (iv (r_7 + (j * 8)))), (14, .int (iv (r_3 + (j * 8)))), (13, .int (iv j)), (12, .int (iv 0)), (10, .long (jv tm)), (8, .long (jv pv)), (6, .long (jv by0)), (5, .int (iv ((S.1 135 18) * 8))), (4, .int (iv r_7)), (3, .int (iv r_3)), (0, .ref (G.2.2.1 + 135)), (1, .int (iv i)), (2, .int (iv tn))]) hx hb dX2_pivotRow_137 hl (by decide) rfl (fun ls hl => ?_)
              refine lv_iload hx hb dX2_pivotRow_139 (lv_at hl 2 rfl) ?_
              refine lv_aload_n hx hb dX2_pivotRow_141 rfl (lv_at hl 10 rfl) ?_
              refine g_X2_131 Cx hW (k := 135) (by decide) rfl (v := S.1 135 18) ((hL111_ 135 rfl).1 18) dX2_pivotRow_142 ?_
              refine r_icmp_ne (tgt := 166) hx hb ⟨(by omega), (by omega)⟩ ⟨(by omega), (by omega)⟩ dX2_pivotRow_145 (by decide) (fun c_69 => ?_) (fun c_69 => ?_)
              · refine lv_iload hx hb dX2_pivotRow_166 (lv_at hl 3 rfl) ?_
                refine r_if_eq (tgt := 230) hx hb ⟨(by omega), (by omega)⟩ dX2_pivotRow_168 (by decide) (fun _ => ?_) (fun c => absurd (by omega) c)
                refine lv_aload_n hx hb dX2_pivotRow_230 rfl (lv_at hl 10 rfl) ?_
                refine lv_iload hx hb dX2_pivotRow_231 (lv_at hl 1 rfl) ?_
                refine lv_iload_n hx hb dX2_pivotRow_233 rfl (lv_at hl 9 rfl) ?_
                refine lv_iload hx hb dX2_pivotRow_234 (lv_at hl 7 rfl) ?_
                refine r_iadd hx hb dX2_pivotRow_236 ?_
                refine lv_iload hx hb dX2_pivotRow_237 (lv_at hl 0 rfl) ?_
                refine lv_iload_n hx hb dX2_pivotRow_239 rfl (lv_at hl 12 rfl) ?_
                have q_70 : 0 ≤ S.1 141 1 ∧ S.1 141 1 ≤ 32 := hI.fi 141 1 0 (by decide) rfl
                have lk_71 : S111.1 141 1 = S.1 141 1 := (hL111_ 141 rfl).1 1
                have q_72 : 0 ≤ S.1 143 1 ∧ S.1 143 1 ≤ 32 := hI.fi 143 1 0 (by decide) rfl
                have lk_73 : S111.1 143 1 = S.1 143 1 := (hL111_ 143 rfl).1 1
                refine sBi (sV (As := [.int (iv (r_3 + (j * 8))), .int (iv (r_3 + ((S.1 135 18) * 8))), .int (iv (r_7 + (j * 8))), .int (iv tn)]) (rest := []) (k := 135) Cx (s_X2_pivotGreat l G S111 (a := r_3 + (j * 8)) (b1 := r_3 + ((S.1 135 18) * 8)) (c1 := r_7 + (j * 8)) (tn := tn) hI111 (by omega) (by omega) (by omega) (by omega) (by omega) (by omega)) (c_X2_192 Cx rfl rfl (rmk_ok (by omega) (by decide))) hW (by decide) rfl rfl rfl hl.1 rfl (Nat.le_of_ble_eq_true rfl) dX2_pivotRow_240 ⟨Nat.le_of_ble_eq_true rfl, Nat.le_of_ble_eq_true rfl⟩) hL (fun r_76 u_74 H locs k_75 hW hL => ?_)
                obtain ⟨iu_74, fu_74, xu_74⟩ := k_75
                have F_77 := hFm111.trans fu_74
                have F_78 := hL111_.trans fu_74
                refine r_if_ne (tgt := 248) hx hb ⟨(by omega), (by omega)⟩ dX2_pivotRow_243 (by decide) (fun c_79 => ?_) (fun c_79 => ?_)
                · refine lv_iinc (v := iv (j + 1)) (lv' := [(13, .int (iv (j + 1))), (15, .int (iv (r_7 + (j * 8)))), (14, .int (iv (r_3 + (j * 8)))), (12, .int (iv 0)), (10, .long (jv tm)), (8, .long (jv pv)), (6, .long (jv by0)), (5, .int (iv ((S.1 135 18) * 8))), (4, .int (iv r_7)), (3, .int (iv r_3)), (0, .ref (G.2.2.1 + 135)), (1, .int (iv i)), (2, .int (iv tn))]) hx hb dX2_pivotRow_248 hl (k := 2) rfl ((Int32.ofInt_add _ _).symm) (by decide) rfl (fun ls hl => ?_)
                  refine lv_goto (tgt := 111) hx hb dX2_pivotRow_251 (by decide) ?_
                  exact ih_111 u_74 (j + 1) _ _ _ (by omega) iu_74 F_77 F_78 (by omega) hW hL (lv_sub hl [0, 3, 4, 5, 6, 7, 8, 9, 10, 11, 12] rfl)
                · refine lv_iconst (v := iv 0) hx hb dX2_pivotRow_246 (by decide) ?_
                  exact sZret Cx hr hlk hW hL (by omega) ⟨iu_74, F_77, (by omega)⟩ dX2_pivotRow_247
              · refine lv_aload_n hx hb dX2_pivotRow_148 rfl (lv_at hl 10 rfl) ?_
                refine g_X2_13 Cx hW (k := 135) (by decide) rfl (v := .ref (G.2.2.1 + o_12)) (((hL111_ 135 rfl).2.2.2 0).trans eo_12) dX2_pivotRow_149 ?_
                refine lv_aload_n hx hb dX2_pivotRow_152 rfl (lv_at hl 10 rfl) ?_
                refine g_X2_17 Cx hW (k := 135) (by decide) rfl (v := .ref (G.2.2.1 + o_13)) (((hL111_ 135 rfl).2.2.2 1).trans eo_13) dX2_pivotRow_153 ?_
                refine lv_iload hx hb dX2_pivotRow_156 (lv_at hl 1 rfl) ?_
                refine lv_iload_n hx hb dX2_pivotRow_158 rfl (lv_at hl 12 rfl) ?_
                refine r_ineg hx hb dX2_pivotRow_159 ?_
                refine sBv (sSt (As := [.ref (G.2.2.1 + o_12), .ref (G.2.2.1 + o_13), .int (iv (r_3 + (j * 8))), .int (iv (-tn))]) (rest := []) Cx (s_X0_move l G S111 (kf := o_12) (kt := o_13) (a := r_3 + (j * 8)) (tn := -tn) hI111 mo_12 mo_13 (neD no_12) (by omega) (by omega)) (c_X2_188 Cx rfl rfl (rmk_ok (by omega) (by decide))) hW rfl hl.1 rfl (Nat.le_of_ble_eq_true rfl) dX2_pivotRow_160 ⟨Nat.le_of_ble_eq_true rfl, Nat.le_of_ble_eq_true rfl⟩) hL (fun u_80 H locs k_81 hW hL => ?_)
                obtain ⟨iu_80, fu_80⟩ := k_81
                have F_82 := hFm111.trans (fu_80.to (p1_sub (dic_z mo_13)))
                have F_83 := hL111_.trans (fu_80.to (p1_sub (dic_z mo_13)))
                refine lv_goto (tgt := 248) hx hb dX2_pivotRow_163 (by decide) ?_
                refine lv_iinc (v := iv (j + 1)) (lv' := [(13, .int (iv (j + 1))), (15, .int (iv (r_7 + (j * 8)))), (14, .int (iv (r_3 + (j * 8)))), (12, .int (iv 0)), (10, .long (jv tm)), (8, .long (jv pv)), (6, .long (jv by0)), (5, .int (iv ((S.1 135 18) * 8))), (4, .int (iv r_7)), (3, .int (iv r_3)), (0, .ref (G.2.2.1 + 135)), (1, .int (iv i)), (2, .int (iv tn))]) hx hb dX2_pivotRow_248 hl (k := 2) rfl ((Int32.ofInt_add _ _).symm) (by decide) rfl (fun ls hl => ?_)
                refine lv_goto (tgt := 111) hx hb dX2_pivotRow_251 (by decide) ?_
                exact ih_111 u_80 (j + 1) _ _ _ (by omega) iu_80 F_82 F_83 (by omega) hW hL (lv_sub hl [0, 3, 4, 5, 6, 7, 8, 9, 10, 11, 12] rfl)
        exact loop_111 (_ + 1) S 0 _ _ _ (Nat.lt_succ_self _) hI (Fr.rf : Fr S S pZ) Fr.rf (by omega) hW hL (lv_sub hl [0, 1, 2, 3, 4, 5, 6, 7, 8, 9, 10] rfl)
      · refine lv_aload_n hx hb dX2_pivotRow_90 rfl (lv_at hl 6 rfl) ?_
        refine lv_iload_n hx hb dX2_pivotRow_91 rfl (lv_at hl 5 rfl) ?_
        refine lv_iload hx hb dX2_pivotRow_92 (lv_at hl 3 rfl) ?_
        refine r_iadd hx hb dX2_pivotRow_94 ?_
        refine sBi (sV (As := [.int (iv (r_3 + ((S.1 135 18) * 8)))]) (rest := []) (k := 135) Cx (s_X2_isSmall l G S (a := r_3 + ((S.1 135 18) * 8)) (oc := o_12) (od := o_13) hI ⟨mo_12, mo_13, (neD no_12), eo_12, eo_13⟩ (by omega)) (c_X2_167 Cx rfl rfl (rmk_ok (by omega) (by decide))) hW (by decide) rfl rfl rfl hl.1 rfl (Nat.le_of_ble_eq_true rfl) dX2_pivotRow_95 ⟨Nat.le_of_ble_eq_true rfl, Nat.le_of_ble_eq_true rfl⟩) hL (fun r_86 u_84 H locs k_85 hW hL => ?_)
        obtain ⟨eu_84, xu_84⟩ := k_85
        rw [eu_84] at hW
        refine r_if_eq (tgt := 105) hx hb ⟨(by omega), (by omega)⟩ dX2_pivotRow_98 (by decide) (fun c_87 => ?_) (fun c_87 => ?_)
        · refine lv_iconst (v := iv 0) hx hb dX2_pivotRow_105 (by decide) ?_
          refine lv_istore (lv' := [(12, .int (iv 0)), (10, .long (jv tm)), (8, .long (jv pv)), (6, .long (jv by0)), (5, .int (iv ((S.1 135 18) * 8))), (4, .int (iv r_7)), (3, .int (iv r_3)), (0, .ref (G.2.2.1 + 135)), (1, .int (iv i)), (2, .int (iv tn))]) hx hb dX2_pivotRow_106 hl (by decide) rfl (fun ls hl => ?_)
          refine lv_iconst (v := iv 0) hx hb dX2_pivotRow_108 (by decide) ?_
          refine lv_istore (lv' := [(13, .int (iv 0)), (12, .int (iv 0)), (10, .long (jv tm)), (8, .long (jv pv)), (6, .long (jv by0)), (5, .int (iv ((S.1 135 18) * 8))), (4, .int (iv r_7)), (3, .int (iv r_3)), (0, .ref (G.2.2.1 + 135)), (1, .int (iv i)), (2, .int (iv tn))]) hx hb dX2_pivotRow_109 hl (by decide) rfl (fun ls hl => ?_)
          have loop_111 : ∀ (fuel : Nat) (S111 : sS) (j : Int) (H : Heap) (locs : List Loc) (ls : Array Slot), (14 - j).toNat < fuel → (cX G S111 0 0 0) → (Fr S S111 pZ) → (Fr S S111 pZ) → (0 ≤ j ∧ j ≤ 14) → sW G 294 S111 H → sL G locs → lv_has ls 18 [(13, .int (iv j)), (12, .int (iv 0)), (10, .long (jv tm)), (8, .long (jv pv)), (6, .long (jv by0)), (5, .int (iv ((S.1 135 18) * 8))), (4, .int (iv r_7)), (3, .int (iv r_3)), (0, .ref (G.2.2.1 + 135)), (1, .int (iv i)), (2, .int (iv tn))] → W p l e (rmk 6 0 0) s m args below meth c H locs 0 0 (MQ below (sQi G 294 (fun r u => cX G u 0 0 0 ∧ Fr S u pZ ∧ (0 ≤ r ∧ r ≤ 1))) args s 0 0 (sF G)) (F0 m 111 ls []) := by
            intro fuel
            induction fuel with
            | zero => intro S111 j H locs ls hmeas hI111 hFm111 hL111_ hj hW hL hl; exact absurd hmeas (Nat.not_lt_zero _)
            | succ fuel ih_111 =>
              intro S111 j H locs ls hmeas hI111 hFm111 hL111_ hj hW hL hl
              refine lv_iload hx hb dX2_pivotRow_111 (lv_at hl 0 rfl) ?_
              refine lv_aload_n hx hb dX2_pivotRow_113 rfl (lv_at hl 8 rfl) ?_
              have q_88 : 0 ≤ S.1 135 15 ∧ S.1 135 15 ≤ 13 := hI.fi 135 15 2 (by decide) rfl
              refine g_X2_67 Cx hW (k := 135) (by decide) rfl (v := S.1 135 15) ((hL111_ 135 rfl).1 15) dX2_pivotRow_114 ?_
              refine r_icmp_gt (tgt := 254) hx hb ⟨(by omega), (by omega)⟩ ⟨(by omega), (by omega)⟩ dX2_pivotRow_117 (by decide) (fun c_89 => ?_) (fun c_89 => ?_)
              · refine lv_iconst (v := iv 1) hx hb dX2_pivotRow_254 (by decide) ?_
                exact sZret Cx hr hlk hW hL (by omega) ⟨hI111, hFm111, (by omega)⟩ dX2_pivotRow_255
              · refine lv_iload_n hx hb dX2_pivotRow_120 rfl (lv_at hl 7 rfl) ?_
                refine lv_iload hx hb dX2_pivotRow_121 (lv_at hl 0 rfl) ?_
                refine lv_bipush (v := iv 8) hx hb dX2_pivotRow_123 (by decide) ?_
                refine r_imul hx hb dX2_pivotRow_125 ?_
                refine r_iadd hx hb dX2_pivotRow_126 ?_
                refine lv_istore (lv' := [(14, .int (iv (r_3 + (j * 8)))), (13, .int (iv j)), (12, .int (iv 0)), (10, .long (jv tm)), (8, .long (jv pv)), (6, .long (jv by0)), (5, .int (iv ((S.1 135 18) * 8))), (4, .int (iv r_7)), (3, .int (iv r_3)), (0, .ref (G.2.2.1 + 135)), (1, .int (iv i)), (2, .int (iv tn))]) hx hb dX2_pivotRow_127 hl (by decide) rfl (fun ls hl => ?_)
                refine lv_iload hx hb dX2_pivotRow_129 (lv_at hl 7 rfl) ?_
                refine lv_iload hx hb dX2_pivotRow_131 (lv_at hl 1 rfl) ?_
                refine lv_bipush (v := iv 8) hx hb dX2_pivotRow_133 (by decide) ?_
                refine r_imul hx hb dX2_pivotRow_135 ?_
                refine r_iadd hx hb dX2_pivotRow_136 ?_
                refine lv_istore (lv' := [(15, .int (iv (r_7 + (j * 8)))), (14, .int (iv (r_3 + (j * 8)))), (13, .int (iv j)), (12, .int (iv 0)), (10, .long (jv tm)), (8, .long (jv pv)), (6, .long (jv by0)), (5, .int (iv ((S.1 135 18) * 8))), (4, .int (iv r_7)), (3, .int (iv r_3)), (0, .ref (G.2.2.1 + 135)), (1, .int (iv i)), (2, .int (iv tn))]) hx hb dX2_pivotRow_137 hl (by decide) rfl (fun ls hl => ?_)
                refine lv_iload hx hb dX2_pivotRow_139 (lv_at hl 2 rfl) ?_
                refine lv_aload_n hx hb dX2_pivotRow_141 rfl (lv_at hl 10 rfl) ?_
                refine g_X2_131 Cx hW (k := 135) (by decide) rfl (v := S.1 135 18) ((hL111_ 135 rfl).1 18) dX2_pivotRow_142 ?_
                refine r_icmp_ne (tgt := 166) hx hb ⟨(by omega), (by omega)⟩ ⟨(by omega), (by omega)⟩ dX2_pivotRow_145 (by decide) (fun c_90 => ?_) (fun c_90 => ?_)
                · refine lv_iload hx hb dX2_pivotRow_166 (lv_at hl 3 rfl) ?_
                  refine r_if_eq (tgt := 230) hx hb ⟨(by omega), (by omega)⟩ dX2_pivotRow_168 (by decide) (fun _ => ?_) (fun c => absurd (by omega) c)
                  refine lv_aload_n hx hb dX2_pivotRow_230 rfl (lv_at hl 10 rfl) ?_
                  refine lv_iload hx hb dX2_pivotRow_231 (lv_at hl 1 rfl) ?_
                  refine lv_iload_n hx hb dX2_pivotRow_233 rfl (lv_at hl 9 rfl) ?_
                  refine lv_iload hx hb dX2_pivotRow_234 (lv_at hl 7 rfl) ?_
                  refine r_iadd hx hb dX2_pivotRow_236 ?_
                  refine lv_iload hx hb dX2_pivotRow_237 (lv_at hl 0 rfl) ?_
                  refine lv_iload_n hx hb dX2_pivotRow_239 rfl (lv_at hl 12 rfl) ?_
                  have q_91 : 0 ≤ S.1 141 1 ∧ S.1 141 1 ≤ 32 := hI.fi 141 1 0 (by decide) rfl
                  have lk_92 : S111.1 141 1 = S.1 141 1 := (hL111_ 141 rfl).1 1
                  have q_93 : 0 ≤ S.1 143 1 ∧ S.1 143 1 ≤ 32 := hI.fi 143 1 0 (by decide) rfl
                  have lk_94 : S111.1 143 1 = S.1 143 1 := (hL111_ 143 rfl).1 1
                  refine sBi (sV (As := [.int (iv (r_3 + (j * 8))), .int (iv (r_3 + ((S.1 135 18) * 8))), .int (iv (r_7 + (j * 8))), .int (iv tn)]) (rest := []) (k := 135) Cx (s_X2_pivotGreat l G S111 (a := r_3 + (j * 8)) (b1 := r_3 + ((S.1 135 18) * 8)) (c1 := r_7 + (j * 8)) (tn := tn) hI111 (by omega) (by omega) (by omega) (by omega) (by omega) (by omega)) (c_X2_192 Cx rfl rfl (rmk_ok (by omega) (by decide))) hW (by decide) rfl rfl rfl hl.1 rfl (Nat.le_of_ble_eq_true rfl) dX2_pivotRow_240 ⟨Nat.le_of_ble_eq_true rfl, Nat.le_of_ble_eq_true rfl⟩) hL (fun r_97 u_95 H locs k_96 hW hL => ?_)
                  obtain ⟨iu_95, fu_95, xu_95⟩ := k_96
                  have F_98 := hFm111.trans fu_95
                  have F_99 := hL111_.trans fu_95
                  refine r_if_ne (tgt := 248) hx hb ⟨(by omega), (by omega)⟩ dX2_pivotRow_243 (by decide) (fun c_100 => ?_) (fun c_100 => ?_)
                  · refine lv_iinc (v := iv (j + 1)) (lv' := [(13, .int (iv (j + 1))), (15, .int (iv (r_7 + (j * 8)))), (14, .int (iv (r_3 + (j * 8)))), (12, .int (iv 0)), (10, .long (jv tm)), (8, .long (jv pv)), (6, .long (jv by0)), (5, .int (iv ((S.1 135 18) * 8))), (4, .int (iv r_7)), (3, .int (iv r_3)), (0, .ref (G.2.2.1 + 135)), (1, .int (iv i)), (2, .int (iv tn))]) hx hb dX2_pivotRow_248 hl (k := 2) rfl ((Int32.ofInt_add _ _).symm) (by decide) rfl (fun ls hl => ?_)
                    refine lv_goto (tgt := 111) hx hb dX2_pivotRow_251 (by decide) ?_
                    exact ih_111 u_95 (j + 1) _ _ _ (by omega) iu_95 F_98 F_99 (by omega) hW hL (lv_sub hl [0, 3, 4, 5, 6, 7, 8, 9, 10, 11, 12] rfl)
                  · refine lv_iconst (v := iv 0) hx hb dX2_pivotRow_246 (by decide) ?_
                    exact sZret Cx hr hlk hW hL (by omega) ⟨iu_95, F_98, (by omega)⟩ dX2_pivotRow_247
                · refine lv_aload_n hx hb dX2_pivotRow_148 rfl (lv_at hl 10 rfl) ?_
                  refine g_X2_13 Cx hW (k := 135) (by decide) rfl (v := .ref (G.2.2.1 + o_12)) (((hL111_ 135 rfl).2.2.2 0).trans eo_12) dX2_pivotRow_149 ?_
                  refine lv_aload_n hx hb dX2_pivotRow_152 rfl (lv_at hl 10 rfl) ?_
                  refine g_X2_17 Cx hW (k := 135) (by decide) rfl (v := .ref (G.2.2.1 + o_13)) (((hL111_ 135 rfl).2.2.2 1).trans eo_13) dX2_pivotRow_153 ?_
                  refine lv_iload hx hb dX2_pivotRow_156 (lv_at hl 1 rfl) ?_
                  refine lv_iload_n hx hb dX2_pivotRow_158 rfl (lv_at hl 12 rfl) ?_
                  refine r_ineg hx hb dX2_pivotRow_159 ?_
                  refine sBv (sSt (As := [.ref (G.2.2.1 + o_12), .ref (G.2.2.1 + o_13), .int (iv (r_3 + (j * 8))), .int (iv (-tn))]) (rest := []) Cx (s_X0_move l G S111 (kf := o_12) (kt := o_13) (a := r_3 + (j * 8)) (tn := -tn) hI111 mo_12 mo_13 (neD no_12) (by omega) (by omega)) (c_X2_188 Cx rfl rfl (rmk_ok (by omega) (by decide))) hW rfl hl.1 rfl (Nat.le_of_ble_eq_true rfl) dX2_pivotRow_160 ⟨Nat.le_of_ble_eq_true rfl, Nat.le_of_ble_eq_true rfl⟩) hL (fun u_101 H locs k_102 hW hL => ?_)
                  obtain ⟨iu_101, fu_101⟩ := k_102
                  have F_103 := hFm111.trans (fu_101.to (p1_sub (dic_z mo_13)))
                  have F_104 := hL111_.trans (fu_101.to (p1_sub (dic_z mo_13)))
                  refine lv_goto (tgt := 248) hx hb dX2_pivotRow_163 (by decide) ?_
                  refine lv_iinc (v := iv (j + 1)) (lv' := [(13, .int (iv (j + 1))), (15, .int (iv (r_7 + (j * 8)))), (14, .int (iv (r_3 + (j * 8)))), (12, .int (iv 0)), (10, .long (jv tm)), (8, .long (jv pv)), (6, .long (jv by0)), (5, .int (iv ((S.1 135 18) * 8))), (4, .int (iv r_7)), (3, .int (iv r_3)), (0, .ref (G.2.2.1 + 135)), (1, .int (iv i)), (2, .int (iv tn))]) hx hb dX2_pivotRow_248 hl (k := 2) rfl ((Int32.ofInt_add _ _).symm) (by decide) rfl (fun ls hl => ?_)
                  refine lv_goto (tgt := 111) hx hb dX2_pivotRow_251 (by decide) ?_
                  exact ih_111 u_101 (j + 1) _ _ _ (by omega) iu_101 F_103 F_104 (by omega) hW hL (lv_sub hl [0, 3, 4, 5, 6, 7, 8, 9, 10, 11, 12] rfl)
          exact loop_111 (_ + 1) S 0 _ _ _ (Nat.lt_succ_self _) hI (Fr.rf : Fr S S pZ) Fr.rf (by omega) hW hL (lv_sub hl [0, 1, 2, 3, 4, 5, 6, 7, 8, 9, 10] rfl)
        · refine lv_iconst (v := iv 1) hx hb dX2_pivotRow_101 (by decide) ?_
          refine lv_goto (tgt := 106) hx hb dX2_pivotRow_102 (by decide) ?_
          refine lv_istore (lv' := [(12, .int (iv 1)), (10, .long (jv tm)), (8, .long (jv pv)), (6, .long (jv by0)), (5, .int (iv ((S.1 135 18) * 8))), (4, .int (iv r_7)), (3, .int (iv r_3)), (0, .ref (G.2.2.1 + 135)), (1, .int (iv i)), (2, .int (iv tn))]) hx hb dX2_pivotRow_106 hl (by decide) rfl (fun ls hl => ?_)
          refine lv_iconst (v := iv 0) hx hb dX2_pivotRow_108 (by decide) ?_
          refine lv_istore (lv' := [(13, .int (iv 0)), (12, .int (iv 1)), (10, .long (jv tm)), (8, .long (jv pv)), (6, .long (jv by0)), (5, .int (iv ((S.1 135 18) * 8))), (4, .int (iv r_7)), (3, .int (iv r_3)), (0, .ref (G.2.2.1 + 135)), (1, .int (iv i)), (2, .int (iv tn))]) hx hb dX2_pivotRow_109 hl (by decide) rfl (fun ls hl => ?_)
          have loop_111 : ∀ (fuel : Nat) (S111 : sS) (j : Int) (H : Heap) (locs : List Loc) (ls : Array Slot), (14 - j).toNat < fuel → (cX G S111 0 0 0) → (Fr S S111 pZ) → (Fr S S111 pZ) → (0 ≤ j ∧ j ≤ 14) → sW G 294 S111 H → sL G locs → lv_has ls 18 [(13, .int (iv j)), (12, .int (iv 1)), (10, .long (jv tm)), (8, .long (jv pv)), (6, .long (jv by0)), (5, .int (iv ((S.1 135 18) * 8))), (4, .int (iv r_7)), (3, .int (iv r_3)), (0, .ref (G.2.2.1 + 135)), (1, .int (iv i)), (2, .int (iv tn))] → W p l e (rmk 6 0 0) s m args below meth c H locs 0 0 (MQ below (sQi G 294 (fun r u => cX G u 0 0 0 ∧ Fr S u pZ ∧ (0 ≤ r ∧ r ≤ 1))) args s 0 0 (sF G)) (F0 m 111 ls []) := by
            intro fuel
            induction fuel with
            | zero => intro S111 j H locs ls hmeas hI111 hFm111 hL111_ hj hW hL hl; exact absurd hmeas (Nat.not_lt_zero _)
            | succ fuel ih_111 =>
              intro S111 j H locs ls hmeas hI111 hFm111 hL111_ hj hW hL hl
              refine lv_iload hx hb dX2_pivotRow_111 (lv_at hl 0 rfl) ?_
              refine lv_aload_n hx hb dX2_pivotRow_113 rfl (lv_at hl 8 rfl) ?_
              have q_105 : 0 ≤ S.1 135 15 ∧ S.1 135 15 ≤ 13 := hI.fi 135 15 2 (by decide) rfl
              refine g_X2_67 Cx hW (k := 135) (by decide) rfl (v := S.1 135 15) ((hL111_ 135 rfl).1 15) dX2_pivotRow_114 ?_
              refine r_icmp_gt (tgt := 254) hx hb ⟨(by omega), (by omega)⟩ ⟨(by omega), (by omega)⟩ dX2_pivotRow_117 (by decide) (fun c_106 => ?_) (fun c_106 => ?_)
              · refine lv_iconst (v := iv 1) hx hb dX2_pivotRow_254 (by decide) ?_
                exact sZret Cx hr hlk hW hL (by omega) ⟨hI111, hFm111, (by omega)⟩ dX2_pivotRow_255
              · refine lv_iload_n hx hb dX2_pivotRow_120 rfl (lv_at hl 7 rfl) ?_
                refine lv_iload hx hb dX2_pivotRow_121 (lv_at hl 0 rfl) ?_
                refine lv_bipush (v := iv 8) hx hb dX2_pivotRow_123 (by decide) ?_
                refine r_imul hx hb dX2_pivotRow_125 ?_
                refine r_iadd hx hb dX2_pivotRow_126 ?_
                refine lv_istore (lv' := [(14, .int (iv (r_3 + (j * 8)))), (13, .int (iv j)), (12, .int (iv 1)), (10, .long (jv tm)), (8, .long (jv pv)), (6, .long (jv by0)), (5, .int (iv ((S.1 135 18) * 8))), (4, .int (iv r_7)), (3, .int (iv r_3)), (0, .ref (G.2.2.1 + 135)), (1, .int (iv i)), (2, .int (iv tn))]) hx hb dX2_pivotRow_127 hl (by decide) rfl (fun ls hl => ?_)
                refine lv_iload hx hb dX2_pivotRow_129 (lv_at hl 7 rfl) ?_
                refine lv_iload hx hb dX2_pivotRow_131 (lv_at hl 1 rfl) ?_
                refine lv_bipush (v := iv 8) hx hb dX2_pivotRow_133 (by decide) ?_
                refine r_imul hx hb dX2_pivotRow_135 ?_
                refine r_iadd hx hb dX2_pivotRow_136 ?_
                refine lv_istore (lv' := [(15, .int (iv (r_7 + (j * 8)))), (14, .int (iv (r_3 + (j * 8)))), (13, .int (iv j)), (12, .int (iv 1)), (10, .long (jv tm)), (8, .long (jv pv)), (6, .long (jv by0)), (5, .int (iv ((S.1 135 18) * 8))), (4, .int (iv r_7)), (3, .int (iv r_3)), (0, .ref (G.2.2.1 + 135)), (1, .int (iv i)), (2, .int (iv tn))]) hx hb dX2_pivotRow_137 hl (by decide) rfl (fun ls hl => ?_)
                refine lv_iload hx hb dX2_pivotRow_139 (lv_at hl 2 rfl) ?_
                refine lv_aload_n hx hb dX2_pivotRow_141 rfl (lv_at hl 10 rfl) ?_
                refine g_X2_131 Cx hW (k := 135) (by decide) rfl (v := S.1 135 18) ((hL111_ 135 rfl).1 18) dX2_pivotRow_142 ?_
                refine r_icmp_ne (tgt := 166) hx hb ⟨(by omega), (by omega)⟩ ⟨(by omega), (by omega)⟩ dX2_pivotRow_145 (by decide) (fun c_107 => ?_) (fun c_107 => ?_)
                · refine lv_iload hx hb dX2_pivotRow_166 (lv_at hl 3 rfl) ?_
                  refine r_if_eq (tgt := 230) hx hb ⟨(by omega), (by omega)⟩ dX2_pivotRow_168 (by decide) (fun c => absurd c (by omega)) (fun _ => ?_)
                  refine lv_aload_n hx hb dX2_pivotRow_171 rfl (lv_at hl 10 rfl) ?_
                  refine lv_iload hx hb dX2_pivotRow_172 (lv_at hl 1 rfl) ?_
                  refine sBi (sV (As := [.int (iv (r_3 + (j * 8)))]) (rest := []) (k := 135) Cx (s_X2_isSmall l G S111 (a := r_3 + (j * 8)) (oc := o_12) (od := o_13) hI111 ⟨mo_12, mo_13, (neD no_12), (((hL111_ 135 rfl).2.2.2 0).trans eo_12), (((hL111_ 135 rfl).2.2.2 1).trans eo_13)⟩ (by omega)) (c_X2_167 Cx rfl rfl (rmk_ok (by omega) (by decide))) hW (by decide) rfl rfl rfl hl.1 rfl (Nat.le_of_ble_eq_true rfl) dX2_pivotRow_174 ⟨Nat.le_of_ble_eq_true rfl, Nat.le_of_ble_eq_true rfl⟩) hL (fun r_110 u_108 H locs k_109 hW hL => ?_)
                  obtain ⟨eu_108, xu_108⟩ := k_109
                  rw [eu_108] at hW
                  refine r_if_eq (tgt := 230) hx hb ⟨(by omega), (by omega)⟩ dX2_pivotRow_177 (by decide) (fun c_111 => ?_) (fun c_111 => ?_)
                  · refine lv_aload_n hx hb dX2_pivotRow_230 rfl (lv_at hl 10 rfl) ?_
                    refine lv_iload hx hb dX2_pivotRow_231 (lv_at hl 1 rfl) ?_
                    refine lv_iload_n hx hb dX2_pivotRow_233 rfl (lv_at hl 9 rfl) ?_
                    refine lv_iload hx hb dX2_pivotRow_234 (lv_at hl 7 rfl) ?_
                    refine r_iadd hx hb dX2_pivotRow_236 ?_
                    refine lv_iload hx hb dX2_pivotRow_237 (lv_at hl 0 rfl) ?_
                    refine lv_iload_n hx hb dX2_pivotRow_239 rfl (lv_at hl 12 rfl) ?_
                    have q_112 : 0 ≤ S.1 141 1 ∧ S.1 141 1 ≤ 32 := hI.fi 141 1 0 (by decide) rfl
                    have lk_113 : S111.1 141 1 = S.1 141 1 := (hL111_ 141 rfl).1 1
                    have q_114 : 0 ≤ S.1 143 1 ∧ S.1 143 1 ≤ 32 := hI.fi 143 1 0 (by decide) rfl
                    have lk_115 : S111.1 143 1 = S.1 143 1 := (hL111_ 143 rfl).1 1
                    refine sBi (sV (As := [.int (iv (r_3 + (j * 8))), .int (iv (r_3 + ((S.1 135 18) * 8))), .int (iv (r_7 + (j * 8))), .int (iv tn)]) (rest := []) (k := 135) Cx (s_X2_pivotGreat l G S111 (a := r_3 + (j * 8)) (b1 := r_3 + ((S.1 135 18) * 8)) (c1 := r_7 + (j * 8)) (tn := tn) hI111 (by omega) (by omega) (by omega) (by omega) (by omega) (by omega)) (c_X2_192 Cx rfl rfl (rmk_ok (by omega) (by decide))) hW (by decide) rfl rfl rfl hl.1 rfl (Nat.le_of_ble_eq_true rfl) dX2_pivotRow_240 ⟨Nat.le_of_ble_eq_true rfl, Nat.le_of_ble_eq_true rfl⟩) hL (fun r_118 u_116 H locs k_117 hW hL => ?_)
                    obtain ⟨iu_116, fu_116, xu_116⟩ := k_117
                    have F_119 := hFm111.trans fu_116
                    have F_120 := hL111_.trans fu_116
                    refine r_if_ne (tgt := 248) hx hb ⟨(by omega), (by omega)⟩ dX2_pivotRow_243 (by decide) (fun c_121 => ?_) (fun c_121 => ?_)
                    · refine lv_iinc (v := iv (j + 1)) (lv' := [(13, .int (iv (j + 1))), (15, .int (iv (r_7 + (j * 8)))), (14, .int (iv (r_3 + (j * 8)))), (12, .int (iv 1)), (10, .long (jv tm)), (8, .long (jv pv)), (6, .long (jv by0)), (5, .int (iv ((S.1 135 18) * 8))), (4, .int (iv r_7)), (3, .int (iv r_3)), (0, .ref (G.2.2.1 + 135)), (1, .int (iv i)), (2, .int (iv tn))]) hx hb dX2_pivotRow_248 hl (k := 2) rfl ((Int32.ofInt_add _ _).symm) (by decide) rfl (fun ls hl => ?_)
                      refine lv_goto (tgt := 111) hx hb dX2_pivotRow_251 (by decide) ?_
                      exact ih_111 u_116 (j + 1) _ _ _ (by omega) iu_116 F_119 F_120 (by omega) hW hL (lv_sub hl [0, 3, 4, 5, 6, 7, 8, 9, 10, 11, 12] rfl)
                    · refine lv_iconst (v := iv 0) hx hb dX2_pivotRow_246 (by decide) ?_
                      exact sZret Cx hr hlk hW hL (by omega) ⟨iu_116, F_119, (by omega)⟩ dX2_pivotRow_247
                  · refine lv_aload_n hx hb dX2_pivotRow_180 rfl (lv_at hl 10 rfl) ?_
                    refine lv_iload hx hb dX2_pivotRow_181 (lv_at hl 0 rfl) ?_
                    refine sBi (sV (As := [.int (iv (r_7 + (j * 8)))]) (rest := []) (k := 135) Cx (s_X2_isSmall l G S111 (a := r_7 + (j * 8)) (oc := o_12) (od := o_13) hI111 ⟨mo_12, mo_13, (neD no_12), (((hL111_ 135 rfl).2.2.2 0).trans eo_12), (((hL111_ 135 rfl).2.2.2 1).trans eo_13)⟩ (by omega)) (c_X2_167 Cx rfl rfl (rmk_ok (by omega) (by decide))) hW (by decide) rfl rfl rfl hl.1 rfl (Nat.le_of_ble_eq_true rfl) dX2_pivotRow_183 ⟨Nat.le_of_ble_eq_true rfl, Nat.le_of_ble_eq_true rfl⟩) hL (fun r_124 u_122 H locs k_123 hW hL => ?_)
                    obtain ⟨eu_122, xu_122⟩ := k_123
                    rw [eu_122] at hW
                    refine r_if_eq (tgt := 230) hx hb ⟨(by omega), (by omega)⟩ dX2_pivotRow_186 (by decide) (fun c_125 => ?_) (fun c_125 => ?_)
                    · refine lv_aload_n hx hb dX2_pivotRow_230 rfl (lv_at hl 10 rfl) ?_
                      refine lv_iload hx hb dX2_pivotRow_231 (lv_at hl 1 rfl) ?_
                      refine lv_iload_n hx hb dX2_pivotRow_233 rfl (lv_at hl 9 rfl) ?_
                      refine lv_iload hx hb dX2_pivotRow_234 (lv_at hl 7 rfl) ?_
                      refine r_iadd hx hb dX2_pivotRow_236 ?_
                      refine lv_iload hx hb dX2_pivotRow_237 (lv_at hl 0 rfl) ?_
                      refine lv_iload_n hx hb dX2_pivotRow_239 rfl (lv_at hl 12 rfl) ?_
                      have q_126 : 0 ≤ S.1 141 1 ∧ S.1 141 1 ≤ 32 := hI.fi 141 1 0 (by decide) rfl
                      have lk_127 : S111.1 141 1 = S.1 141 1 := (hL111_ 141 rfl).1 1
                      have q_128 : 0 ≤ S.1 143 1 ∧ S.1 143 1 ≤ 32 := hI.fi 143 1 0 (by decide) rfl
                      have lk_129 : S111.1 143 1 = S.1 143 1 := (hL111_ 143 rfl).1 1
                      refine sBi (sV (As := [.int (iv (r_3 + (j * 8))), .int (iv (r_3 + ((S.1 135 18) * 8))), .int (iv (r_7 + (j * 8))), .int (iv tn)]) (rest := []) (k := 135) Cx (s_X2_pivotGreat l G S111 (a := r_3 + (j * 8)) (b1 := r_3 + ((S.1 135 18) * 8)) (c1 := r_7 + (j * 8)) (tn := tn) hI111 (by omega) (by omega) (by omega) (by omega) (by omega) (by omega)) (c_X2_192 Cx rfl rfl (rmk_ok (by omega) (by decide))) hW (by decide) rfl rfl rfl hl.1 rfl (Nat.le_of_ble_eq_true rfl) dX2_pivotRow_240 ⟨Nat.le_of_ble_eq_true rfl, Nat.le_of_ble_eq_true rfl⟩) hL (fun r_132 u_130 H locs k_131 hW hL => ?_)
                      obtain ⟨iu_130, fu_130, xu_130⟩ := k_131
                      have F_133 := hFm111.trans fu_130
                      have F_134 := hL111_.trans fu_130
                      refine r_if_ne (tgt := 248) hx hb ⟨(by omega), (by omega)⟩ dX2_pivotRow_243 (by decide) (fun c_135 => ?_) (fun c_135 => ?_)
                      · refine lv_iinc (v := iv (j + 1)) (lv' := [(13, .int (iv (j + 1))), (15, .int (iv (r_7 + (j * 8)))), (14, .int (iv (r_3 + (j * 8)))), (12, .int (iv 1)), (10, .long (jv tm)), (8, .long (jv pv)), (6, .long (jv by0)), (5, .int (iv ((S.1 135 18) * 8))), (4, .int (iv r_7)), (3, .int (iv r_3)), (0, .ref (G.2.2.1 + 135)), (1, .int (iv i)), (2, .int (iv tn))]) hx hb dX2_pivotRow_248 hl (k := 2) rfl ((Int32.ofInt_add _ _).symm) (by decide) rfl (fun ls hl => ?_)
                        refine lv_goto (tgt := 111) hx hb dX2_pivotRow_251 (by decide) ?_
                        exact ih_111 u_130 (j + 1) _ _ _ (by omega) iu_130 F_133 F_134 (by omega) hW hL (lv_sub hl [0, 3, 4, 5, 6, 7, 8, 9, 10, 11, 12] rfl)
                      · refine lv_iconst (v := iv 0) hx hb dX2_pivotRow_246 (by decide) ?_
                        exact sZret Cx hr hlk hW hL (by omega) ⟨iu_130, F_133, (by omega)⟩ dX2_pivotRow_247
                    · refine lv_aload_n hx hb dX2_pivotRow_189 rfl (lv_at hl 10 rfl) ?_
                      refine lv_iload hx hb dX2_pivotRow_190 (lv_at hl 1 rfl) ?_
                      refine sBl (sV (As := [.int (iv (r_3 + (j * 8)))]) (rest := []) (k := 135) Cx (s_X2_small l G S111 (a := r_3 + (j * 8)) (oc := o_12) (od := o_13) hI111 ⟨mo_12, mo_13, (neD no_12), (((hL111_ 135 rfl).2.2.2 0).trans eo_12), (((hL111_ 135 rfl).2.2.2 1).trans eo_13)⟩ (by omega)) (c_X2_150 Cx rfl rfl (rmk_ok (by omega) (by decide))) hW (by decide) rfl rfl rfl hl.1 rfl (Nat.le_of_ble_eq_true rfl) dX2_pivotRow_192 ⟨Nat.le_of_ble_eq_true rfl, Nat.le_of_ble_eq_true rfl⟩) hL (fun r_138 u_136 H locs k_137 hW hL => ?_)
                      obtain ⟨eu_136, xu_136⟩ := k_137
                      rw [eu_136] at hW
                      refine lv_lload hx hb dX2_pivotRow_195 (lv_at hl 5 rfl) ?_
                      refine r_lmul hx hb dX2_pivotRow_197 ?_
                      obtain ⟨p1, ep1⟩ : ∃ z : Int, z = r_138 * pv := ⟨_, rfl⟩
                      refine r_j (b := p1) ep1.symm ?_
                      have hp1 : -(999999999 * 999999999) ≤ p1 ∧ p1 ≤ 999999999 * 999999999 := by rw [ep1]; exact mulB (by omega) (by omega)
                      refine lv_lload hx hb dX2_pivotRow_198 (lv_at hl 4 rfl) ?_
                      refine lv_aload_n hx hb dX2_pivotRow_200 rfl (lv_at hl 10 rfl) ?_
                      refine lv_iload hx hb dX2_pivotRow_201 (lv_at hl 0 rfl) ?_
                      refine sBl (sV (As := [.int (iv (r_7 + (j * 8)))]) (rest := [.long (jv tm), .long (jv p1)]) (k := 135) Cx (s_X2_small l G S111 (a := r_7 + (j * 8)) (oc := o_12) (od := o_13) hI111 ⟨mo_12, mo_13, (neD no_12), (((hL111_ 135 rfl).2.2.2 0).trans eo_12), (((hL111_ 135 rfl).2.2.2 1).trans eo_13)⟩ (by omega)) (c_X2_150 Cx rfl rfl (rmk_ok (by omega) (by decide))) hW (by decide) rfl rfl rfl hl.1 rfl (Nat.le_of_ble_eq_true rfl) dX2_pivotRow_203 ⟨Nat.le_of_ble_eq_true rfl, Nat.le_of_ble_eq_true rfl⟩) hL (fun r_141 u_139 H locs k_140 hW hL => ?_)
                      obtain ⟨eu_139, xu_139⟩ := k_140
                      rw [eu_139] at hW
                      refine r_lmul hx hb dX2_pivotRow_206 ?_
                      obtain ⟨p2, ep2⟩ : ∃ z : Int, z = tm * r_141 := ⟨_, rfl⟩
                      refine r_j (b := p2) ep2.symm ?_
                      have hp2 : -(999999999 * 999999999) ≤ p2 ∧ p2 ≤ 999999999 * 999999999 := by rw [ep2]; exact mulB (by omega) (by omega)
                      refine r_lsub hx hb dX2_pivotRow_207 ?_
                      refine lv_lstore (lv' := [(16, .long (jv (p1 - p2))), (15, .int (iv (r_7 + (j * 8)))), (14, .int (iv (r_3 + (j * 8)))), (13, .int (iv j)), (12, .int (iv 1)), (10, .long (jv tm)), (8, .long (jv pv)), (6, .long (jv by0)), (5, .int (iv ((S.1 135 18) * 8))), (4, .int (iv r_7)), (3, .int (iv r_3)), (0, .ref (G.2.2.1 + 135)), (1, .int (iv i)), (2, .int (iv tn))]) hx hb dX2_pivotRow_208 hl (by decide) rfl (fun ls hl => ?_)
                      refine lv_aload_n hx hb dX2_pivotRow_210 rfl (lv_at hl 11 rfl) ?_
                      refine g_X2_17 Cx hW (k := 135) (by decide) rfl (v := .ref (G.2.2.1 + o_13)) (((hL111_ 135 rfl).2.2.2 1).trans eo_13) dX2_pivotRow_211 ?_
                      refine lv_iload hx hb dX2_pivotRow_214 (lv_at hl 2 rfl) ?_
                      refine lv_iload_n hx hb dX2_pivotRow_216 rfl (lv_at hl 13 rfl) ?_
                      refine r_i2l hx hb ⟨(by omega), (by omega)⟩ dX2_pivotRow_217 ?_
                      refine lv_lload hx hb dX2_pivotRow_218 (lv_at hl 0 rfl) ?_
                      refine lv_lload hx hb dX2_pivotRow_220 (lv_at hl 7 rfl) ?_
                      refine r_ldiv hx hb ⟨(by omega), (by omega)⟩ ⟨(by omega), (by omega)⟩ (by omega) dX2_pivotRow_222 ?_
                      obtain ⟨dv, edv⟩ : ∃ z : Int, z = (p1 - p2).tdiv by0 := ⟨_, rfl⟩
                      have hdv := tdivB (a := p1 - p2) (b := by0) (by omega)
                      rw [← edv] at hdv
                      refine r_j (b := dv) edv.symm ?_
                      clear edv
                      refine r_lmul hx hb dX2_pivotRow_223 ?_
                      obtain ⟨p3, ep3⟩ : ∃ z : Int, z = tn * dv := ⟨_, rfl⟩
                      refine r_j (b := p3) ep3.symm ?_
                      have hp3 : -2000000000000000000 ≤ p3 ∧ p3 ≤ 2000000000000000000 := by rw [ep3]; exact mulT (by omega) (by omega)
                      refine sBv (sSt (As := [.ref (G.2.2.1 + o_13), .int (iv (r_3 + (j * 8))), .long (jv p3)]) (rest := []) Cx (s_X0_store l G S111 (k := o_13) (a := r_3 + (j * 8)) (v := p3) (N := 4816) hI111 (dic_a mo_13) (by omega) (by omega) (fun _ q => by exfalso; omega)) (c_X2_81 Cx rfl rfl (rmk_ok (by omega) (by decide))) hW rfl hl.1 rfl (Nat.le_of_ble_eq_true rfl) dX2_pivotRow_224 ⟨Nat.le_of_ble_eq_true rfl, Nat.le_of_ble_eq_true rfl⟩) hL (fun u_142 H locs k_143 hW hL => ?_)
                      obtain ⟨iu_142, fu_142⟩ := k_143
                      have F_144 := hFm111.trans (fu_142.to (p1_sub (dic_z mo_13)))
                      have F_145 := hL111_.trans (fu_142.to (p1_sub (dic_z mo_13)))
                      refine lv_goto (tgt := 248) hx hb dX2_pivotRow_227 (by decide) ?_
                      refine lv_iinc (v := iv (j + 1)) (lv' := [(13, .int (iv (j + 1))), (16, .long (jv (p1 - p2))), (15, .int (iv (r_7 + (j * 8)))), (14, .int (iv (r_3 + (j * 8)))), (12, .int (iv 1)), (10, .long (jv tm)), (8, .long (jv pv)), (6, .long (jv by0)), (5, .int (iv ((S.1 135 18) * 8))), (4, .int (iv r_7)), (3, .int (iv r_3)), (0, .ref (G.2.2.1 + 135)), (1, .int (iv i)), (2, .int (iv tn))]) hx hb dX2_pivotRow_248 hl (k := 3) rfl ((Int32.ofInt_add _ _).symm) (by decide) rfl (fun ls hl => ?_)
                      refine lv_goto (tgt := 111) hx hb dX2_pivotRow_251 (by decide) ?_
                      exact ih_111 u_142 (j + 1) _ _ _ (by omega) iu_142 F_144 F_145 (by omega) hW hL (lv_sub hl [0, 4, 5, 6, 7, 8, 9, 10, 11, 12, 13] rfl)
                · refine lv_aload_n hx hb dX2_pivotRow_148 rfl (lv_at hl 10 rfl) ?_
                  refine g_X2_13 Cx hW (k := 135) (by decide) rfl (v := .ref (G.2.2.1 + o_12)) (((hL111_ 135 rfl).2.2.2 0).trans eo_12) dX2_pivotRow_149 ?_
                  refine lv_aload_n hx hb dX2_pivotRow_152 rfl (lv_at hl 10 rfl) ?_
                  refine g_X2_17 Cx hW (k := 135) (by decide) rfl (v := .ref (G.2.2.1 + o_13)) (((hL111_ 135 rfl).2.2.2 1).trans eo_13) dX2_pivotRow_153 ?_
                  refine lv_iload hx hb dX2_pivotRow_156 (lv_at hl 1 rfl) ?_
                  refine lv_iload_n hx hb dX2_pivotRow_158 rfl (lv_at hl 12 rfl) ?_
                  refine r_ineg hx hb dX2_pivotRow_159 ?_
                  refine sBv (sSt (As := [.ref (G.2.2.1 + o_12), .ref (G.2.2.1 + o_13), .int (iv (r_3 + (j * 8))), .int (iv (-tn))]) (rest := []) Cx (s_X0_move l G S111 (kf := o_12) (kt := o_13) (a := r_3 + (j * 8)) (tn := -tn) hI111 mo_12 mo_13 (neD no_12) (by omega) (by omega)) (c_X2_188 Cx rfl rfl (rmk_ok (by omega) (by decide))) hW rfl hl.1 rfl (Nat.le_of_ble_eq_true rfl) dX2_pivotRow_160 ⟨Nat.le_of_ble_eq_true rfl, Nat.le_of_ble_eq_true rfl⟩) hL (fun u_146 H locs k_147 hW hL => ?_)
                  obtain ⟨iu_146, fu_146⟩ := k_147
                  have F_148 := hFm111.trans (fu_146.to (p1_sub (dic_z mo_13)))
                  have F_149 := hL111_.trans (fu_146.to (p1_sub (dic_z mo_13)))
                  refine lv_goto (tgt := 248) hx hb dX2_pivotRow_163 (by decide) ?_
                  refine lv_iinc (v := iv (j + 1)) (lv' := [(13, .int (iv (j + 1))), (15, .int (iv (r_7 + (j * 8)))), (14, .int (iv (r_3 + (j * 8)))), (12, .int (iv 1)), (10, .long (jv tm)), (8, .long (jv pv)), (6, .long (jv by0)), (5, .int (iv ((S.1 135 18) * 8))), (4, .int (iv r_7)), (3, .int (iv r_3)), (0, .ref (G.2.2.1 + 135)), (1, .int (iv i)), (2, .int (iv tn))]) hx hb dX2_pivotRow_248 hl (k := 2) rfl ((Int32.ofInt_add _ _).symm) (by decide) rfl (fun ls hl => ?_)
                  refine lv_goto (tgt := 111) hx hb dX2_pivotRow_251 (by decide) ?_
                  exact ih_111 u_146 (j + 1) _ _ _ (by omega) iu_146 F_148 F_149 (by omega) hW hL (lv_sub hl [0, 3, 4, 5, 6, 7, 8, 9, 10, 11, 12] rfl)
          exact loop_111 (_ + 1) S 0 _ _ _ (Nat.lt_succ_self _) hI (Fr.rf : Fr S S pZ) Fr.rf (by omega) hW hL (lv_sub hl [0, 1, 2, 3, 4, 5, 6, 7, 8, 9, 10] rfl)
