theorem NO.same {f g : Int → Int} {p L : Int} (h : NO f p L) (e : ∀ x, p ≤ x → x ≤ p + L → g x = f x) : NO g p L ∧ nv g p = nv f p := by
  have a := al_0 f p
  have c := h.cg (g := g) (q := p) (e p (by omega) (by have := h.1; omega)) (fun i i0 i1 => e _ (by omega) (by have := h.1; omega))
  exact ⟨c.1, c.2.1⟩
def TV (S : sS) (i j : Int) : Int := nv (S.2.1 262) (cl i j)
/-- what a pivot leaves at a cell -/
def PC (S : sS) (r s tn i j v : Int) : Prop := (i = r + 1 ∧ j = s → v = asn tn (nv (S.2.1 264) 0)) ∧ (i = r + 1 ∧ j ≠ s → v = asn tn (TV S i j)) ∧ (i ≠ r + 1 ∧ j = s → v = -asn tn (TV S i j)) ∧ (i ≠ r + 1 ∧ j ≠ s → ∃ Q R, v = asn tn Q ∧ TV S i j * TV S (r + 1) s - TV S i s * TV S (r + 1) j = nv (S.2.1 264) 0 * Q + R ∧ 0 ≤ R ∧ R < nv (S.2.1 264) 0)
theorem PC.a {S : sS} {r s tn i j v : Int} (hi : i = r + 1) (hj : j = s) (h : v = asn tn (nv (S.2.1 264) 0)) : PC S r s tn i j v := ⟨fun _ => h, fun q => absurd hj q.2, fun q => absurd hi q.1, fun q => absurd hi q.1⟩
theorem PC.b {S : sS} {r s tn i j v : Int} (hi : i = r + 1) (hj : j ≠ s) (h : v = asn tn (TV S i j)) : PC S r s tn i j v := ⟨fun q => absurd q.2 hj, fun _ => h, fun q => absurd hi q.1, fun q => absurd hi q.1⟩
theorem PC.c {S : sS} {r s tn i j v : Int} (hi : i ≠ r + 1) (hj : j = s) (h : v = -asn tn (TV S i j)) : PC S r s tn i j v := ⟨fun q => absurd q.1 hi, fun q => absurd q.1 hi, fun _ => h, fun q => absurd hj q.2⟩
theorem PC.d {S : sS} {r s tn i j v : Int} (hi : i ≠ r + 1) (hj : j ≠ s) (h : ∃ Q R, v = asn tn Q ∧ TV S i j * TV S (r + 1) s - TV S i s * TV S (r + 1) j = nv (S.2.1 264) 0 * Q + R ∧ 0 ≤ R ∧ R < nv (S.2.1 264) 0) : PC S r s tn i j v := ⟨fun q => absurd q.1 hi, fun q => absurd q.1 hi, fun q => absurd q.2 hj, fun _ => h⟩
/-- the cells ahead of (i, j) -/
def FO (S : sS) (f : Int → Int) (r s tn i j : Int) : Prop := ∀ a b, 0 ≤ a → (a < i ∨ a = i ∧ b < j) → a ≤ S.1 231 58 + 1 → (a = 1 → S.1 231 60 = 1) → 0 ≤ b → b ≤ S.1 231 59 → NO f (cl a b) 6 ∧ PC S r s tn a b (nv f (cl a b))
theorem cl_far {a b i j x : Int} (hb : 0 ≤ b ∧ b ≤ 14) (hj : 0 ≤ j ∧ j ≤ 14) (h : a < i ∨ i < a ∨ b < j ∨ j < b) (hx : cl a b ≤ x ∧ x ≤ cl a b + 6) : x < cl i j ∨ cl i j + 6 < x := by unfold cl at *; omega
theorem FO.step {S : sS} {f g : Int → Int} {r s tn i j : Int} (h : FO S f r s tn i j) (hp : S.1 231 59 ≤ 13) (hj : 0 ≤ j ∧ j ≤ 14) (ho : ∀ x, x < cl i j ∨ cl i j + 6 < x → g x = f x) (hn : NO g (cl i j) 6) (hc : PC S r s tn i j (nv g (cl i j))) : FO S g r s tn i (j + 1) := fun a b a0 ab a1 a2 b0 b1 => by
  by_cases e : a = i ∧ b = j
  · rw [e.1, e.2]; exact ⟨hn, hc⟩
  · have k := h a b a0 (by omega) a1 a2 b0 b1
    have m := k.1.same (g := g) (fun x x0 x1 => ho x (cl_far ⟨b0, by omega⟩ hj (by omega) ⟨x0, x1⟩))
    rw [m.2]; exact ⟨m.1, k.2⟩
theorem FO.row {S : sS} {f : Int → Int} {r s tn i : Int} (h : FO S f r s tn i (S.1 231 59 + 1)) : FO S f r s tn (i + 1) 0 := fun a b a0 ab a1 a2 b0 b1 => h a b a0 (by omega) a1 a2 b0 b1
theorem FO.skip {S : sS} {f : Int → Int} {r s tn : Int} (h : FO S f r s tn 1 0) (hw : S.1 231 60 = 0) : FO S f r s tn 2 0 := fun a b a0 ab a1 a2 b0 b1 => h a b a0 (by by_cases e : a = 1; have := a2 e; omega; omega) a1 a2 b0 b1
/-- cells that were brought back -/
def BK (S : sS) (f g : Int → Int) (i j : Int) : Prop := ∀ a b, 0 ≤ a → (a < i ∨ a = i ∧ b < j) → a ≤ S.1 231 58 + 1 → (a = 1 → S.1 231 60 = 1) → 0 ≤ b → b ≤ S.1 231 59 → NO g (cl a b) 6 ∧ nv g (cl a b) = nv f (cl a b)
theorem BK.step {S : sS} {f g g' : Int → Int} {i j : Int} (h : BK S f g i j) (hp : S.1 231 59 ≤ 13) (hj : 0 ≤ j ∧ j ≤ 14) (ho : ∀ x, x < cl i j ∨ cl i j + 6 < x → g' x = g x) (hn : NO g' (cl i j) 6) (hc : nv g' (cl i j) = nv f (cl i j)) : BK S f g' i (j + 1) := fun a b a0 ab a1 a2 b0 b1 => by
  by_cases e : a = i ∧ b = j
  · rw [e.1, e.2]; exact ⟨hn, hc⟩
  · have k := h a b a0 (by omega) a1 a2 b0 b1
    have m := k.1.same (g := g') (fun x x0 x1 => ho x (cl_far ⟨b0, by omega⟩ hj (by omega) ⟨x0, x1⟩))
    exact ⟨m.1, m.2.trans k.2⟩
theorem BK.row {S : sS} {f g : Int → Int} {i : Int} (h : BK S f g i (S.1 231 59 + 1)) : BK S f g (i + 1) 0 := fun a b a0 ab a1 a2 b0 b1 => h a b a0 (by omega) a1 a2 b0 b1
theorem BK.skip {S : sS} {f g : Int → Int} (h : BK S f g 1 0) (hw : S.1 231 60 = 0) : BK S f g 2 0 := fun a b a0 ab a1 a2 b0 b1 => h a b a0 (by by_cases e : a = 1; have := a2 e; omega; omega) a1 a2 b0 b1
/-- a pivot -/
def PV (S u : sS) (r s tn : Int) : Prop := (nv (u.2.1 264) 0 = asn tn (TV S (r + 1) s)) ∧ (∀ a b, 0 ≤ a → a ≤ S.1 231 58 + 1 → (a = 1 → S.1 231 60 = 1) → 0 ≤ b → b ≤ S.1 231 59 → PC S r s tn a b (TV u a b)) ∧ (∀ x, u.2.1 265 x = if x = r then S.2.1 266 s else S.2.1 265 x) ∧ ∀ x, u.2.1 266 x = if x = s then S.2.1 265 r else S.2.1 266 x
theorem DOK.pv {S u : sS} {fr : Int → Int} (h : DOK S) (e8 : u.1 231 58 = S.1 231 58) (e9 : u.1 231 59 = S.1 231 59) (e0 : u.1 231 60 = S.1 231 60) (hb : BK S fr (u.2.1 262) (S.1 231 58 + 2) 0) (hn : NO (u.2.1 264) 0 6) (hp : 0 < nv (u.2.1 264) 0) : DOK u := ⟨by rw [e8, e9]; exact h.1, by rw [e8, e9, e0]; exact fun i j i0 i1 i2 j0 j1 => (hb i j i0 (by omega) i1 i2 j0 j1).1, hn, hp⟩
theorem DOK.same {S u : sS} (h : DOK S) (e8 : u.1 231 58 = S.1 231 58) (e9 : u.1 231 59 = S.1 231 59) (e0 : u.1 231 60 = S.1 231 60) (e1 : u.2.1 262 = S.2.1 262) (e2 : u.2.1 264 = S.2.1 264) : DOK u := by unfold DOK; rw [e8, e9, e0, e1, e2]; exact h
set_option maxRecDepth 100000 in
set_option maxHeartbeats 4000000 in
theorem s_X12_across (l : Launch) (G : sG) (S : sS) {ii jj rr ss pp qq tn : Int} (hI : dX G S) (hij : (0 ≤ ii ∧ ii ≤ 42) ∧ (0 ≤ jj ∧ jj ≤ 14) ∧ (0 ≤ rr ∧ rr ≤ 41) ∧ 0 ≤ ss ∧ ss ≤ 14) (hppr : 0 ≤ pp ∧ pp + 6 < 5280) (hqqr : 0 ≤ qq ∧ qq + 6 < 5280) (htn : 0 ≤ tn ∧ tn ≤ 1) (hNq : NO (S.2.1 262) qq 6) (hNp : NO (S.2.1 262) pp 6) (hNis : NO (S.2.1 262) (8 * (15 * ii + ss)) 6) (hNrj : NO (S.2.1 262) (8 * (15 * (rr + 1) + jj)) 6) (hDn : NO (S.2.1 264) 0 6) (hDp : 0 < nv (S.2.1 264) 0) : Met l yX12_across (.code yX12_across cX12_across 8 (some .boolean) :: tb) (rmk 6 0 0) (sPc G 294 S [.ref (G.2.2.1 + 231), .int (iv ii), .int (iv jj), .int (iv rr), .int (iv ss), .int (iv pp), .int (iv qq), .int (iv tn)]) (sQi G 294 (fun r u => dX G u ∧ Fr S u (pl [233, 234, 235, 237, 238, 239, 240, 263]) ∧ FF S u (fl []) ∧ ((0 ≤ r ∧ r ≤ 1) ∧ Hd (r = 1 → NO (u.2.1 263) qq 6 ∧ ∃ Q R, nv (u.2.1 263) qq = asn tn Q ∧ nv (S.2.1 262) qq * nv (S.2.1 262) pp - nv (S.2.1 262) (8 * (15 * ii + ss)) * nv (S.2.1 262) (8 * (15 * (rr + 1) + jj)) = nv (S.2.1 264) 0 * Q + R ∧ 0 ≤ R ∧ R < nv (S.2.1 264) 0) ∧ (∀ x, x < qq ∨ qq + 6 < x → u.2.1 263 x = S.2.1 263 x)))) 0 0 (sF G) := by
  refine sEnter (by decide) (Nat.le_of_ble_eq_true rfl) ?_
  intro p e s m args below meth c Cx hr hlk hnm hW ls hl
  have Cx : sC G p m c cX12_across 8 s args RX12 := Cx
  obtain ⟨hx, hb, hml, hown, hts⟩ := id Cx.1
  have hL : sL G [] := sL_nil
  have hl : lv_has ls 8 [(0, .ref (G.2.2.1 + 231)), (1, .int (iv ii)), (2, .int (iv jj)), (3, .int (iv rr)), (4, .int (iv ss)), (5, .int (iv pp)), (6, .int (iv qq)), (7, .int (iv tn))] := hl
  have hW0 := hW
  have hDs := hDn.sgn
  refine lv_aload_n hx hb dX12_across_0 rfl (lv_at hl 0 rfl) ?_
  refine g_X12_103 Cx hW (k := 231) (by decide) rfl (v := .ref (G.2.2.1 + 262)) (rd_53 hI) dX12_across_1 ?_
  refine lv_iload hx hb dX12_across_4 (lv_at hl 6 rfl) ?_
  refine lv_aload_n hx hb dX12_across_6 rfl (lv_at hl 0 rfl) ?_
  refine g_X12_103 Cx hW (k := 231) (by decide) rfl (v := .ref (G.2.2.1 + 262)) (rd_53 hI) dX12_across_7 ?_
  refine lv_iload hx hb dX12_across_10 (lv_at hl 5 rfl) ?_
  refine lv_aload_n hx hb dX12_across_12 rfl (lv_at hl 0 rfl) ?_
  refine g_X12_26 Cx hW (k := 231) (by decide) rfl (v := .ref (G.2.2.1 + 237)) (rd_7 hI) dX12_across_13 ?_
  refine lv_iconst (v := iv 0) hx hb dX12_across_16 (by decide) ?_
  refine sBv (sSt (As := [.ref (G.2.2.1 + 262), .int (iv qq), .ref (G.2.2.1 + 262), .int (iv pp), .ref (G.2.2.1 + 237), .int (iv 0)]) (rest := []) Cx (s_X12_multiply l G S (ka := 262) (po := qq) (kb := 262) (qo := pp) (kc := 237) (ro := 0) (Nka := 5280) (Nkb := 5280) (Nkc := 68) (La := 6) (Lb := 6) hI ⟨rfl, by decide, by decide, by decide, rfl⟩ ⟨rfl, by decide, by decide, by decide, rfl⟩ ⟨rfl, by decide, by decide, by decide, rfl⟩ (show (237 : Nat) ≠ 262 by decide) (show (237 : Nat) ≠ 262 by decide) (by omega) hNq hNp) (c_X12_548 Cx rfl rfl (rmk_ok (by omega) (by decide))) hW rfl hl.1 rfl (Nat.le_of_ble_eq_true rfl) dX12_across_17 ⟨Nat.le_of_ble_eq_true rfl, Nat.le_of_ble_eq_true rfl⟩) hL (fun u_1 H locs k_2 hW hL => ?_)
  obtain ⟨iu_1, fu_1, xu_1⟩ := k_2
  have F_3 := (Fr.rf : Fr S S (pl [233, 234, 235, 237, 238, 239, 240, 263])).trans (fu_1.to (p1_sub rfl))
  have g_4 : FF S u_1 (fl []) := FF.fr FF.rf fu_1 rfl
  refine lv_aload_n hx hb dX12_across_20 rfl (lv_at hl 0 rfl) ?_
  refine g_X12_103 Cx hW (k := 231) (by decide) rfl (v := .ref (G.2.2.1 + 262)) (rd_53 iu_1) dX12_across_21 ?_
  refine lv_aload_n hx hb dX12_across_24 rfl (lv_at hl 0 rfl) ?_
  refine lv_iload_n hx hb dX12_across_25 rfl (lv_at hl 1 rfl) ?_
  refine lv_iload hx hb dX12_across_26 (lv_at hl 4 rfl) ?_
  refine sBi (sV (As := [.int (iv ii), .int (iv ss)]) (rest := [.ref (G.2.2.1 + 262)]) (k := 231) Cx (s_X12_cell l G u_1 (i := ii) (j := ss) (by omega) (by omega)) (c_X12_529 Cx rfl rfl (rmk_ok (by omega) (by decide))) hW (by decide) rfl rfl rfl hl.1 rfl (Nat.le_of_ble_eq_true rfl) dX12_across_28 ⟨Nat.le_of_ble_eq_true rfl, Nat.le_of_ble_eq_true rfl⟩) hL (fun cis u_5 H locs k_6 hW hL => ?_)
  obtain ⟨eu_5, xu_5⟩ := k_6
  rw [eu_5] at hW
  refine lv_aload_n hx hb dX12_across_31 rfl (lv_at hl 0 rfl) ?_
  refine g_X12_103 Cx hW (k := 231) (by decide) rfl (v := .ref (G.2.2.1 + 262)) (rd_53 iu_1) dX12_across_32 ?_
  refine lv_aload_n hx hb dX12_across_35 rfl (lv_at hl 0 rfl) ?_
  refine lv_iload_n hx hb dX12_across_36 rfl (lv_at hl 3 rfl) ?_
  refine lv_iconst (v := iv 1) hx hb dX12_across_37 (by decide) ?_
  refine r_iadd hx hb dX12_across_38 ?_
  refine lv_iload_n hx hb dX12_across_39 rfl (lv_at hl 2 rfl) ?_
  refine sBi (sV (As := [.int (iv (rr + 1)), .int (iv jj)]) (rest := [.ref (G.2.2.1 + 262), .int (iv cis), .ref (G.2.2.1 + 262)]) (k := 231) Cx (s_X12_cell l G u_1 (i := rr + 1) (j := jj) (by omega) (by omega)) (c_X12_529 Cx rfl rfl (rmk_ok (by omega) (by decide))) hW (by decide) rfl rfl rfl hl.1 rfl (Nat.le_of_ble_eq_true rfl) dX12_across_40 ⟨Nat.le_of_ble_eq_true rfl, Nat.le_of_ble_eq_true rfl⟩) hL (fun crj u_7 H locs k_8 hW hL => ?_)
  obtain ⟨eu_7, xu_7⟩ := k_8
  rw [eu_7] at hW
  refine lv_aload_n hx hb dX12_across_43 rfl (lv_at hl 0 rfl) ?_
  refine g_X12_29 Cx hW (k := 231) (by decide) rfl (v := .ref (G.2.2.1 + 238)) (rd_8 iu_1) dX12_across_44 ?_
  refine lv_iconst (v := iv 0) hx hb dX12_across_47 (by decide) ?_
  have e_is : nv (S.2.1 262) cis = nv (S.2.1 262) (8 * (15 * ii + ss)) := congrArg (nv (S.2.1 262)) (by omega)
  have e_rj : nv (S.2.1 262) crj = nv (S.2.1 262) (8 * (15 * (rr + 1) + jj)) := congrArg (nv (S.2.1 262)) (by omega)
  refine sBv (sSt (As := [.ref (G.2.2.1 + 262), .int (iv cis), .ref (G.2.2.1 + 262), .int (iv crj), .ref (G.2.2.1 + 238), .int (iv 0)]) (rest := []) Cx (s_X12_multiply l G u_1 (ka := 262) (po := cis) (kb := 262) (qo := crj) (kc := 238) (ro := 0) (Nka := 5280) (Nkb := 5280) (Nkc := 68) (La := 6) (Lb := 6) iu_1 ⟨rfl, by decide, by decide, by decide, rfl⟩ ⟨rfl, by decide, by decide, by decide, rfl⟩ ⟨rfl, by decide, by decide, by decide, rfl⟩ (show (238 : Nat) ≠ 262 by decide) (show (238 : Nat) ≠ 262 by decide) (by omega) (by rw [show u_1.2.1 262 = S.2.1 262 from (funext fun j => (fu_1 262 rfl).2.1 j : u_1.2.1 262 = S.2.1 262), show cis = (8 * (15 * ii + ss)) by omega]; exact hNis) (by rw [show u_1.2.1 262 = S.2.1 262 from (funext fun j => (fu_1 262 rfl).2.1 j : u_1.2.1 262 = S.2.1 262), show crj = (8 * (15 * (rr + 1) + jj)) by omega]; exact hNrj)) (c_X12_548 Cx rfl rfl (rmk_ok (by omega) (by decide))) hW rfl hl.1 rfl (Nat.le_of_ble_eq_true rfl) dX12_across_48 ⟨Nat.le_of_ble_eq_true rfl, Nat.le_of_ble_eq_true rfl⟩) hL (fun u_9 H locs k_10 hW hL => ?_)
  obtain ⟨iu_9, fu_9, xu_9⟩ := k_10
  have F_11 := F_3.trans (fu_9.to (p1_sub rfl))
  have g_12 : FF S u_9 (fl []) := FF.fr g_4 fu_9 rfl
  refine lv_aload_n hx hb dX12_across_51 rfl (lv_at hl 0 rfl) ?_
  refine g_X12_26 Cx hW (k := 231) (by decide) rfl (v := .ref (G.2.2.1 + 237)) (rd_7 iu_9) dX12_across_52 ?_
  refine lv_iconst (v := iv 0) hx hb dX12_across_55 (by decide) ?_
  refine lv_aload_n hx hb dX12_across_56 rfl (lv_at hl 0 rfl) ?_
  refine g_X12_29 Cx hW (k := 231) (by decide) rfl (v := .ref (G.2.2.1 + 238)) (rd_8 iu_9) dX12_across_57 ?_
  refine lv_iconst (v := iv 0) hx hb dX12_across_60 (by decide) ?_
  refine lv_iconst (v := iv 1) hx hb dX12_across_61 (by decide) ?_
  refine lv_aload_n hx hb dX12_across_62 rfl (lv_at hl 0 rfl) ?_
  refine g_X12_26 Cx hW (k := 231) (by decide) rfl (v := .ref (G.2.2.1 + 237)) (rd_7 iu_9) dX12_across_63 ?_
  refine lv_iconst (v := iv 0) hx hb dX12_across_66 (by decide) ?_
  refine sBv (sSt (As := [.ref (G.2.2.1 + 237), .int (iv 0), .ref (G.2.2.1 + 238), .int (iv 0), .int (iv 1), .ref (G.2.2.1 + 237), .int (iv 0)]) (rest := []) Cx (s_X12_add l G u_9 (ka := 237) (po := 0) (kb := 238) (qo := 0) (lz := 1) (kc := 237) (ro := 0) (Nka := 68) (Nkb := 68) (Nkc := 68) (La := 12) (Lb := 12) (Lc := 13) iu_9 ⟨rfl, by decide, by decide, by decide, rfl⟩ ⟨rfl, by decide, by decide, by decide, rfl⟩ ⟨rfl, by decide, by decide, by decide, rfl⟩ (show (237 : Nat) ≠ 238 by decide) (fun _ => rfl) (by omega) (by omega) (by rw [show u_9.2.1 237 = u_1.2.1 237 from (funext fun j => (fu_9 237 rfl).2.1 j : u_9.2.1 237 = u_1.2.1 237)]; exact xu_1.1) xu_9.1) (c_X12_249 Cx rfl rfl (rmk_ok (by omega) (by decide))) hW rfl hl.1 rfl (Nat.le_of_ble_eq_true rfl) dX12_across_67 ⟨Nat.le_of_ble_eq_true rfl, Nat.le_of_ble_eq_true rfl⟩) hL (fun u_13 H locs k_14 hW hL => ?_)
  obtain ⟨iu_13, fu_13, xu_13⟩ := k_14
  have F_15 := F_11.trans (fu_13.to (p1_sub rfl))
  have g_16 : FF S u_13 (fl []) := FF.fr g_12 fu_13 rfl
  refine lv_aload_n hx hb dX12_across_70 rfl (lv_at hl 0 rfl) ?_
  refine lv_aload_n hx hb dX12_across_71 rfl (lv_at hl 0 rfl) ?_
  refine g_X12_26 Cx hW (k := 231) (by decide) rfl (v := .ref (G.2.2.1 + 237)) (rd_7 iu_13) dX12_across_72 ?_
  refine lv_iconst (v := iv 0) hx hb dX12_across_75 (by decide) ?_
  refine lv_aload_n hx hb dX12_across_76 rfl (lv_at hl 0 rfl) ?_
  refine g_X12_109 Cx hW (k := 231) (by decide) rfl (v := .ref (G.2.2.1 + 264)) (rd_55 iu_13) dX12_across_77 ?_
  refine lv_iconst (v := iv 0) hx hb dX12_across_80 (by decide) ?_
  refine lv_aload_n hx hb dX12_across_81 rfl (lv_at hl 0 rfl) ?_
  refine g_X12_32 Cx hW (k := 231) (by decide) rfl (v := .ref (G.2.2.1 + 239)) (rd_9 iu_13) dX12_across_82 ?_
  refine lv_iconst (v := iv 0) hx hb dX12_across_85 (by decide) ?_
  refine lv_aload_n hx hb dX12_across_86 rfl (lv_at hl 0 rfl) ?_
  refine g_X12_35 Cx hW (k := 231) (by decide) rfl (v := .ref (G.2.2.1 + 240)) (rd_10 iu_13) dX12_across_87 ?_
  refine lv_iconst (v := iv 0) hx hb dX12_across_90 (by decide) ?_
  have hbp2 : 0 < u_13.2.1 264 0 := by rw [show u_13.2.1 264 = S.2.1 264 from (funext fun j => ((fu_13 264 rfl).2.1 j).trans (((fu_9 264 rfl).2.1 j).trans ((fu_1 264 rfl).2.1 j)) : u_13.2.1 264 = S.2.1 264)]; omega
  refine sBv (sV (As := [.ref (G.2.2.1 + 237), .int (iv 0), .ref (G.2.2.1 + 264), .int (iv 0), .ref (G.2.2.1 + 239), .int (iv 0), .ref (G.2.2.1 + 240), .int (iv 0)]) (rest := []) (k := 231) Cx (s_X12_divide l G u_13 (ka := 237) (po := 0) (kb := 264) (qo := 0) (kc := 239) (ro := 0) (kd := 240) (eo := 0) (Nka := 68) (Nkb := 8) (Nkc := 68) (Nkd := 68) (La := 13) (Lb := 6) (Ld := 7) iu_13 ⟨rfl, by decide, by decide, by decide, rfl⟩ ⟨rfl, by decide, by decide, by decide, rfl⟩ ⟨rfl, by decide, by decide, by decide, rfl⟩ ⟨rfl, by decide, by decide, by decide, rfl⟩ (show (239 : Nat) ≠ 237 by decide) (show (240 : Nat) ≠ 237 by decide) (show (239 : Nat) ≠ 264 by decide) (show (240 : Nat) ≠ 264 by decide) (show (239 : Nat) ≠ 240 by decide) (show (237 : Nat) ≠ 233 by decide) (show (264 : Nat) ≠ 233 by decide) (show (264 : Nat) ≠ 234 by decide) (show (264 : Nat) ≠ 235 by decide) (show (239 : Nat) ≠ 233 by decide) (show (239 : Nat) ≠ 234 by decide) (show (239 : Nat) ≠ 235 by decide) (show (240 : Nat) ≠ 233 by decide) (show (240 : Nat) ≠ 234 by decide) (show (240 : Nat) ≠ 235 by decide) (by omega) (by omega) xu_13.1 (by rw [show u_13.2.1 264 = S.2.1 264 from (funext fun j => ((fu_13 264 rfl).2.1 j).trans (((fu_9 264 rfl).2.1 j).trans ((fu_1 264 rfl).2.1 j)) : u_13.2.1 264 = S.2.1 264)]; exact hDn)) (c_X12_266 Cx rfl rfl (rmk_ok (by omega) (by decide))) hW (by decide) rfl rfl rfl hl.1 rfl (Nat.le_of_ble_eq_true rfl) dX12_across_91 ⟨Nat.le_of_ble_eq_true rfl, Nat.le_of_ble_eq_true rfl⟩) hL (fun u_17 H locs k_18 hW hL => ?_)
  obtain ⟨iu_17, fu_17, xu_17⟩ := k_18
  have F_19 := F_15.trans (fu_17.to (pl_sub (by decide)))
  have g_20 : FF S u_17 (fl []) := FF.fr g_16 fu_17 rfl
  refine lv_aload_n hx hb dX12_across_94 rfl (lv_at hl 0 rfl) ?_
  refine g_X12_32 Cx hW (k := 231) (by decide) rfl (v := .ref (G.2.2.1 + 239)) (rd_9 iu_17) dX12_across_95 ?_
  refine lv_iconst (v := iv 0) hx hb dX12_across_98 (by decide) ?_
  have hdb := xu_17.1.b
  refine sBi (sSt (As := [.ref (G.2.2.1 + 239), .int (iv 0)]) (rest := []) Cx (s_X12_limbs l G u_17 (ka := 239) (po := 0) (Nka := 68) iu_17 ⟨rfl, by decide, by decide, by decide, rfl⟩ (by omega) (by omega)) (c_X12_221 Cx rfl rfl (rmk_ok (by omega) (by decide))) hW rfl hl.1 rfl (Nat.le_of_ble_eq_true rfl) dX12_across_99 ⟨Nat.le_of_ble_eq_true rfl, Nat.le_of_ble_eq_true rfl⟩) hL (fun n u_21 H locs k_22 hW hL => ?_)
  obtain ⟨eu_21, xu_21⟩ := k_22
  rw [eu_21] at hW
  refine lv_bipush (v := iv 6) hx hb dX12_across_102 (by decide) ?_
  refine r_icmp_le (tgt := 109) hx hb ⟨(by omega), (by omega)⟩ ⟨(by omega), (by omega)⟩ dX12_across_104 (by decide) (fun c_23 => ?_) (fun c_23 => ?_)
  · refine lv_aload_n hx hb dX12_across_109 rfl (lv_at hl 0 rfl) ?_
    refine g_X12_32 Cx hW (k := 231) (by decide) rfl (v := .ref (G.2.2.1 + 239)) (rd_9 iu_17) dX12_across_110 ?_
    refine lv_iconst (v := iv 0) hx hb dX12_across_113 (by decide) ?_
    refine lv_aload_n hx hb dX12_across_114 rfl (lv_at hl 0 rfl) ?_
    refine g_X12_106 Cx hW (k := 231) (by decide) rfl (v := .ref (G.2.2.1 + 263)) (rd_54 iu_17) dX12_across_115 ?_
    refine lv_iload hx hb dX12_across_118 (lv_at hl 6 rfl) ?_
    refine sBv (sSt (As := [.ref (G.2.2.1 + 239), .int (iv 0), .ref (G.2.2.1 + 263), .int (iv qq)]) (rest := []) Cx (s_X12_copy l G u_17 (ka := 239) (po := 0) (kb := 263) (qo := qq) (Nka := 68) (Nkb := 5280) (La := 6) iu_17 ⟨rfl, by decide, by decide, by decide, rfl⟩ ⟨rfl, by decide, by decide, by decide, rfl⟩ (show (263 : Nat) ≠ 239 by decide) (by omega) ⟨(by omega), xu_17.1.2⟩) (c_X12_233 Cx rfl rfl (rmk_ok (by omega) (by decide))) hW rfl hl.1 rfl (Nat.le_of_ble_eq_true rfl) dX12_across_120 ⟨Nat.le_of_ble_eq_true rfl, Nat.le_of_ble_eq_true rfl⟩) hL (fun u_24 H locs k_25 hW hL => ?_)
    obtain ⟨iu_24, fu_24, xu_24⟩ := k_25
    have F_26 := F_19.trans (fu_24.to (p1_sub rfl))
    have g_27 : FF S u_24 (fl []) := FF.fr g_20 fu_24 rfl
    refine lv_iload hx hb dX12_across_123 (lv_at hl 7 rfl) ?_
    refine r_if_eq (tgt := 137) hx hb ⟨(by omega), (by omega)⟩ dX12_across_125 (by decide) (fun c_28 => ?_) (fun c_28 => ?_)
    · refine lv_iconst (v := iv 1) hx hb dX12_across_137 (by decide) ?_
      exact sZret Cx hr hlk hW hL (by omega) ⟨iu_24, F_26, g_27, ⟨(by omega), (fun _ => by have e1 : nv (u_13.2.1 237) 0 = nv (S.2.1 262) qq * nv (S.2.1 262) pp - nv (S.2.1 262) (8 * (15 * ii + ss)) * nv (S.2.1 262) (8 * (15 * (rr + 1) + jj)) := (by rw [xu_13.2.1, show u_9.2.1 237 = u_1.2.1 237 from (funext fun j => (fu_9 237 rfl).2.1 j : u_9.2.1 237 = u_1.2.1 237), xu_1.2.1, xu_9.2.1, show u_1.2.1 262 = S.2.1 262 from (funext fun j => (fu_1 262 rfl).2.1 j), asn_1, e_is, e_rj]; omega); have e2 := xu_17.2.2.1; rw [show u_13.2.1 264 = S.2.1 264 from (funext fun j => ((fu_13 264 rfl).2.1 j).trans (((fu_9 264 rfl).2.1 j).trans ((fu_1 264 rfl).2.1 j)) : u_13.2.1 264 = S.2.1 264), e1] at e2; exact ⟨xu_24.1.1, nv (u_17.2.1 239) 0, nv (u_17.2.1 240) 0, (by rw [xu_24.1.2.1, show tn = 0 by omega, asn_0]), e2.1, e2.2.1, e2.2.2⟩), (fun x a => by rw [xu_24.2 x (by omega)]; exact ((fu_17 263 rfl).2.1 x).trans (((fu_13 263 rfl).2.1 x).trans (((fu_9 263 rfl).2.1 x).trans ((fu_1 263 rfl).2.1 x))))⟩⟩ dX12_across_138
    · refine lv_aload_n hx hb dX12_across_128 rfl (lv_at hl 0 rfl) ?_
      refine g_X12_106 Cx hW (k := 231) (by decide) rfl (v := .ref (G.2.2.1 + 263)) (rd_54 iu_24) dX12_across_129 ?_
      refine lv_iload hx hb dX12_across_132 (lv_at hl 6 rfl) ?_
      refine sBv (sSt (As := [.ref (G.2.2.1 + 263), .int (iv qq)]) (rest := []) Cx (s_X12_negate l G u_24 (ka := 263) (po := qq) (Nka := 5280) (La := 6) iu_24 ⟨rfl, by decide, by decide, by decide, rfl⟩ (by omega) xu_24.1.1) (c_X12_540 Cx rfl rfl (rmk_ok (by omega) (by decide))) hW rfl hl.1 rfl (Nat.le_of_ble_eq_true rfl) dX12_across_134 ⟨Nat.le_of_ble_eq_true rfl, Nat.le_of_ble_eq_true rfl⟩) hL (fun u_29 H locs k_30 hW hL => ?_)
      obtain ⟨iu_29, fu_29, xu_29⟩ := k_30
      have F_31 := F_26.trans (fu_29.to (p1_sub rfl))
      have g_32 : FF S u_29 (fl []) := FF.fr g_27 fu_29 rfl
      refine lv_iconst (v := iv 1) hx hb dX12_across_137 (by decide) ?_
      exact sZret Cx hr hlk hW hL (by omega) ⟨iu_29, F_31, g_32, ⟨(by omega), (fun _ => by have e1 : nv (u_13.2.1 237) 0 = nv (S.2.1 262) qq * nv (S.2.1 262) pp - nv (S.2.1 262) (8 * (15 * ii + ss)) * nv (S.2.1 262) (8 * (15 * (rr + 1) + jj)) := (by rw [xu_13.2.1, show u_9.2.1 237 = u_1.2.1 237 from (funext fun j => (fu_9 237 rfl).2.1 j : u_9.2.1 237 = u_1.2.1 237), xu_1.2.1, xu_9.2.1, show u_1.2.1 262 = S.2.1 262 from (funext fun j => (fu_1 262 rfl).2.1 j), asn_1, e_is, e_rj]; omega); have e2 := xu_17.2.2.1; rw [show u_13.2.1 264 = S.2.1 264 from (funext fun j => ((fu_13 264 rfl).2.1 j).trans (((fu_9 264 rfl).2.1 j).trans ((fu_1 264 rfl).2.1 j)) : u_13.2.1 264 = S.2.1 264), e1] at e2; exact ⟨xu_29.1, nv (u_17.2.1 239) 0, nv (u_17.2.1 240) 0, (by rw [xu_29.2.1, xu_24.1.2.1, show tn = 1 by omega, asn_1]), e2.1, e2.2.1, e2.2.2⟩), (fun x a => by rw [xu_29.2.2, uA_ne (fun q => by have := q.2; omega)]; rw [xu_24.2 x (by omega)]; exact ((fu_17 263 rfl).2.1 x).trans (((fu_13 263 rfl).2.1 x).trans (((fu_9 263 rfl).2.1 x).trans ((fu_1 263 rfl).2.1 x))))⟩⟩ dX12_across_138
  · refine lv_iconst (v := iv 0) hx hb dX12_across_107 (by decide) ?_
    exact sZret Cx hr hlk hW hL (by omega) ⟨iu_17, F_19, g_20, ⟨(by omega), (fun q => absurd q (by omega)), (fun x a => ((fu_17 263 rfl).2.1 x).trans (((fu_13 263 rfl).2.1 x).trans (((fu_9 263 rfl).2.1 x).trans ((fu_1 263 rfl).2.1 x))))⟩⟩ dX12_across_108

set_option maxRecDepth 100000 in
set_option maxHeartbeats 4000000 in
theorem s_X12_pivot (l : Launch) (G : sG) (S : sS) {rr ss : Int} (hI : dX G S) (hD : DOK S) (hrs : (1 ≤ rr ∧ rr ≤ S.1 231 58) ∧ 1 ≤ ss ∧ ss ≤ S.1 231 59) (hpe : S.2.1 262 (8 * (15 * (rr + 1) + ss)) ≠ 0) : Met l yX12_pivot (.code yX12_pivot cX12_pivot 8 (some .boolean) :: tb) (rmk 7 0 0) (sPc G 294 S [.ref (G.2.2.1 + 231), .int (iv rr), .int (iv ss)]) (sQi G 294 (fun r u => dX G u ∧ Fr S u (pl [233, 234, 235, 237, 238, 239, 240, 262, 263, 264, 265, 266]) ∧ FF S u (fl []) ∧ ((0 ≤ r ∧ r ≤ 1) ∧ DOK u ∧ Hd (r = 1 → ∃ tn : Int, (0 ≤ tn ∧ tn ≤ 1) ∧ ((tn = 1 → TV S (rr + 1) ss < 0) ∧ (tn = 0 → 0 < TV S (rr + 1) ss)) ∧ PV S u rr ss tn) ∧ Hd (r = 0 → u.2.1 265 = S.2.1 265 ∧ u.2.1 266 = S.2.1 266)))) 0 0 (sF G) := by
  refine sEnter (by decide) (Nat.le_of_ble_eq_true rfl) ?_
  intro p e s m args below meth c Cx hr hlk hnm hW ls hl
  have Cx : sC G p m c cX12_pivot 8 s args RX12 := Cx
  obtain ⟨hx, hb, hml, hown, hts⟩ := id Cx.1
  have hL : sL G [] := sL_nil
  have hl : lv_has ls 8 [(0, .ref (G.2.2.1 + 231)), (1, .int (iv rr)), (2, .int (iv ss))] := hl
  have hW0 := hW
  have hd1 := hD.1
  have hNp0 := hD.at (i := rr + 1) (j := ss) (p := 8 * (15 * (rr + 1) + ss)) (by omega) (by omega) (by omega) rfl
  have hps0 := hNp0.sgn
  refine lv_aload_n hx hb dX12_pivot_0 rfl (lv_at hl 0 rfl) ?_
  refine lv_iload_n hx hb dX12_pivot_1 rfl (lv_at hl 1 rfl) ?_
  refine lv_iconst (v := iv 1) hx hb dX12_pivot_2 (by decide) ?_
  refine r_iadd hx hb dX12_pivot_3 ?_
  refine lv_iload_n hx hb dX12_pivot_4 rfl (lv_at hl 2 rfl) ?_
  refine sBi (sV (As := [.int (iv (rr + 1)), .int (iv ss)]) (rest := []) (k := 231) Cx (s_X12_cell l G S (i := rr + 1) (j := ss) (by omega) (by omega)) (c_X12_529 Cx rfl rfl (rmk_ok (by omega) (by decide))) hW (by decide) rfl rfl rfl hl.1 rfl (Nat.le_of_ble_eq_true rfl) dX12_pivot_5 ⟨Nat.le_of_ble_eq_true rfl, Nat.le_of_ble_eq_true rfl⟩) hL (fun pp u_1 H locs k_2 hW hL => ?_)
  obtain ⟨eu_1, xu_1⟩ := k_2
  rw [eu_1] at hW
  refine lv_istore_n (lv' := [(3, .int (iv pp)), (0, .ref (G.2.2.1 + 231)), (1, .int (iv rr)), (2, .int (iv ss))]) hx hb dX12_pivot_8 rfl hl (by decide) rfl (fun ls hl => ?_)
  have join_23 : ∀ (tn : Int) (H : Heap) (locs : List Loc) (ls : Array Slot), (0 ≤ tn ∧ tn ≤ 1) → ((tn = 1 → TV S (rr + 1) ss < 0) ∧ (tn = 0 → 0 < TV S (rr + 1) ss)) → sW G 294 S H → sL G locs → lv_has ls 8 [(3, .int (iv pp)), (0, .ref (G.2.2.1 + 231)), (1, .int (iv rr)), (2, .int (iv ss))] → W p l e (rmk 7 0 0) s m args below meth c H locs 0 0 (MQ below (sQi G 294 (fun r u => dX G u ∧ Fr S u (pl [233, 234, 235, 237, 238, 239, 240, 262, 263, 264, 265, 266]) ∧ FF S u (fl []) ∧ ((0 ≤ r ∧ r ≤ 1) ∧ DOK u ∧ Hd (r = 1 → ∃ tn : Int, (0 ≤ tn ∧ tn ≤ 1) ∧ ((tn = 1 → TV S (rr + 1) ss < 0) ∧ (tn = 0 → 0 < TV S (rr + 1) ss)) ∧ PV S u rr ss tn) ∧ Hd (r = 0 → u.2.1 265 = S.2.1 265 ∧ u.2.1 266 = S.2.1 266)))) args s 0 0 (sF G)) (F0 m 23 ls [.int (iv tn)]) := by
    intro tn H locs ls htn hpn hW hL hl
    refine lv_istore (lv' := [(4, .int (iv tn)), (3, .int (iv pp)), (0, .ref (G.2.2.1 + 231)), (1, .int (iv rr)), (2, .int (iv ss))]) hx hb dX12_pivot_23 hl (by decide) rfl (fun ls hl => ?_)
    refine lv_iconst (v := iv 0) hx hb dX12_pivot_25 (by decide) ?_
    refine lv_istore (lv' := [(5, .int (iv 0)), (4, .int (iv tn)), (3, .int (iv pp)), (0, .ref (G.2.2.1 + 231)), (1, .int (iv rr)), (2, .int (iv ss))]) hx hb dX12_pivot_26 hl (by decide) rfl (fun ls hl => ?_)
    have loop_28 : ∀ (fuel : Nat) (S28 : sS) (i : Int) (H : Heap) (locs : List Loc) (ls : Array Slot), (S.1 231 58 + 2 - i).toNat < fuel → (dX G S28) → (Fr S S28 (pl [233, 234, 235, 237, 238, 239, 240, 262, 263, 264, 265, 266])) → (Fr S S28 (pl [233, 234, 235, 237, 238, 239, 240, 263])) → (FF S S28 (fl [])) → (FF S S28 (fl [])) → (0 ≤ i ∧ i ≤ S.1 231 58 + 2) → (FO S (S28.2.1 263) rr ss tn i 0) → sW G 294 S28 H → sL G locs → lv_has ls 8 [(5, .int (iv i)), (4, .int (iv tn)), (3, .int (iv pp)), (0, .ref (G.2.2.1 + 231)), (1, .int (iv rr)), (2, .int (iv ss))] → W p l e (rmk 7 0 0) s m args below meth c H locs 0 0 (MQ below (sQi G 294 (fun r u => dX G u ∧ Fr S u (pl [233, 234, 235, 237, 238, 239, 240, 262, 263, 264, 265, 266]) ∧ FF S u (fl []) ∧ ((0 ≤ r ∧ r ≤ 1) ∧ DOK u ∧ Hd (r = 1 → ∃ tn : Int, (0 ≤ tn ∧ tn ≤ 1) ∧ ((tn = 1 → TV S (rr + 1) ss < 0) ∧ (tn = 0 → 0 < TV S (rr + 1) ss)) ∧ PV S u rr ss tn) ∧ Hd (r = 0 → u.2.1 265 = S.2.1 265 ∧ u.2.1 266 = S.2.1 266)))) args s 0 0 (sF G)) (F0 m 28 ls []) := by
      intro fuel
      induction fuel with
      | zero => intro S28 i H locs ls hmeas hI28 hFm28 hL28_ hGm28 gL28_ hi hFo hW hL hl; exact absurd hmeas (Nat.not_lt_zero _)
      | succ fuel ih_28 =>
        intro S28 i H locs ls hmeas hI28 hFm28 hL28_ hGm28 gL28_ hi hFo hW hL hl
        refine lv_iload hx hb dX12_pivot_28 (lv_at hl 0 rfl) ?_
        refine lv_aload_n hx hb dX12_pivot_30 rfl (lv_at hl 3 rfl) ?_
        have q_3 : (-2147483648) ≤ S.1 231 58 ∧ S.1 231 58 ≤ 2147483647 := hI.fi 58
        refine g_X12_483 Cx hW (k := 231) (by decide) rfl (v := S.1 231 58) (gL28_ 58 rfl) dX12_pivot_31 ?_
        refine lv_iconst (v := iv 1) hx hb dX12_pivot_34 (by decide) ?_
        refine r_iadd hx hb dX12_pivot_35 ?_
        refine r_icmp_gt (tgt := 232) hx hb ⟨(by omega), (by omega)⟩ ⟨(by omega), (by omega)⟩ dX12_pivot_36 (by decide) (fun c_4 => ?_) (fun c_4 => ?_)
        · have hFF : FO S (S28.2.1 263) rr ss tn (S.1 231 58 + 2) 0 := by have e := hFo; rw [show i = S.1 231 58 + 2 by omega] at e; exact e
          refine lv_aload_n hx hb dX12_pivot_232 rfl (lv_at hl 3 rfl) ?_
          refine g_X12_103 Cx hW (k := 231) (by decide) rfl (v := .ref (G.2.2.1 + 262)) (rd_53 hI28) dX12_pivot_233 ?_
          refine lv_iload_n hx hb dX12_pivot_236 rfl (lv_at hl 2 rfl) ?_
          refine lv_aload_n hx hb dX12_pivot_237 rfl (lv_at hl 3 rfl) ?_
          refine g_X12_109 Cx hW (k := 231) (by decide) rfl (v := .ref (G.2.2.1 + 264)) (rd_55 hI28) dX12_pivot_238 ?_
          refine lv_iconst (v := iv 0) hx hb dX12_pivot_241 (by decide) ?_
          refine sBv (sSt (As := [.ref (G.2.2.1 + 262), .int (iv pp), .ref (G.2.2.1 + 264), .int (iv 0)]) (rest := []) Cx (s_X12_copy l G S28 (ka := 262) (po := pp) (kb := 264) (qo := 0) (Nka := 5280) (Nkb := 8) (La := 6) hI28 ⟨rfl, by decide, by decide, by decide, rfl⟩ ⟨rfl, by decide, by decide, by decide, rfl⟩ (show (264 : Nat) ≠ 262 by decide) (by omega) (by rw [show S28.2.1 262 = S.2.1 262 from (funext fun j => (hL28_ 262 rfl).2.1 j : S28.2.1 262 = S.2.1 262)]; exact (hD.at (i := rr + 1) (j := ss) (by omega) (by omega) (by omega) (by omega)))) (c_X12_233 Cx rfl rfl (rmk_ok (by omega) (by decide))) hW rfl hl.1 rfl (Nat.le_of_ble_eq_true rfl) dX12_pivot_242 ⟨Nat.le_of_ble_eq_true rfl, Nat.le_of_ble_eq_true rfl⟩) hL (fun u_5 H locs k_6 hW hL => ?_)
          obtain ⟨iu_5, fu_5, xu_5⟩ := k_6
          have F_7 := hFm28.trans (fu_5.to (p1_sub rfl))
          have g_8 : FF S u_5 (fl []) := FF.fr hGm28 fu_5 rfl
          have g_9 : FF S u_5 (fl []) := FF.fr gL28_ fu_5 rfl
          have join_258 : ∀ (S258 : sS)  (H : Heap) (locs : List Loc) (ls : Array Slot), (dX G S258) → (Fr S S258 (pl [233, 234, 235, 237, 238, 239, 240, 262, 263, 264, 265, 266])) → (Fr u_5 S258 (pl [264])) → (FF S S258 (fl [])) → (FF S S258 (fl [])) → (FF u_5 S258 (fl [])) → (NO (S258.2.1 264) 0 6) → (nv (S258.2.1 264) 0 = asn tn (TV S (rr + 1) ss) ∧ 0 < nv (S258.2.1 264) 0) → sW G 294 S258 H → sL G locs → lv_has ls 8 [(5, .int (iv i)), (4, .int (iv tn)), (3, .int (iv pp)), (0, .ref (G.2.2.1 + 231)), (1, .int (iv rr)), (2, .int (iv ss))] → W p l e (rmk 7 0 0) s m args below meth c H locs 0 0 (MQ below (sQi G 294 (fun r u => dX G u ∧ Fr S u (pl [233, 234, 235, 237, 238, 239, 240, 262, 263, 264, 265, 266]) ∧ FF S u (fl []) ∧ ((0 ≤ r ∧ r ≤ 1) ∧ DOK u ∧ Hd (r = 1 → ∃ tn : Int, (0 ≤ tn ∧ tn ≤ 1) ∧ ((tn = 1 → TV S (rr + 1) ss < 0) ∧ (tn = 0 → 0 < TV S (rr + 1) ss)) ∧ PV S u rr ss tn) ∧ Hd (r = 0 → u.2.1 265 = S.2.1 265 ∧ u.2.1 266 = S.2.1 266)))) args s 0 0 (sF G)) (F0 m 258 ls []) := by
            intro S258  H locs ls hI258 hFm258 hL258_ hGm258 hGL28258 gL258_ hN258 hP258 hW hL hl
            refine lv_iconst (v := iv 0) hx hb dX12_pivot_258 (by decide) ?_
            refine lv_istore (lv' := [(5, .int (iv 0)), (4, .int (iv tn)), (3, .int (iv pp)), (0, .ref (G.2.2.1 + 231)), (1, .int (iv rr)), (2, .int (iv ss))]) hx hb dX12_pivot_259 hl (by decide) rfl (fun ls hl => ?_)
            have loop_261 : ∀ (fuel : Nat) (S261 : sS) (i : Int) (H : Heap) (locs : List Loc) (ls : Array Slot), (S.1 231 58 + 2 - i).toNat < fuel → (dX G S261) → (Fr S S261 (pl [233, 234, 235, 237, 238, 239, 240, 262, 263, 264, 265, 266])) → (Fr S258 S261 (pl [262])) → (FF S S261 (fl [])) → (FF S S261 (fl [])) → (FF u_5 S261 (fl [])) → (FF S258 S261 (fl [])) → (0 ≤ i ∧ i ≤ S.1 231 58 + 2) → (BK S (S28.2.1 263) (S261.2.1 262) i 0) → sW G 294 S261 H → sL G locs → lv_has ls 8 [(5, .int (iv i)), (4, .int (iv tn)), (3, .int (iv pp)), (0, .ref (G.2.2.1 + 231)), (1, .int (iv rr)), (2, .int (iv ss))] → W p l e (rmk 7 0 0) s m args below meth c H locs 0 0 (MQ below (sQi G 294 (fun r u => dX G u ∧ Fr S u (pl [233, 234, 235, 237, 238, 239, 240, 262, 263, 264, 265, 266]) ∧ FF S u (fl []) ∧ ((0 ≤ r ∧ r ≤ 1) ∧ DOK u ∧ Hd (r = 1 → ∃ tn : Int, (0 ≤ tn ∧ tn ≤ 1) ∧ ((tn = 1 → TV S (rr + 1) ss < 0) ∧ (tn = 0 → 0 < TV S (rr + 1) ss)) ∧ PV S u rr ss tn) ∧ Hd (r = 0 → u.2.1 265 = S.2.1 265 ∧ u.2.1 266 = S.2.1 266)))) args s 0 0 (sF G)) (F0 m 261 ls []) := by
              intro fuel
              induction fuel with
              | zero => intro S261 i H locs ls hmeas hI261 hFm261 hL261_ hGm261 hGL28261 hGL258261 gL261_ hi hB hW hL hl; exact absurd hmeas (Nat.not_lt_zero _)
              | succ fuel ih_261 =>
                intro S261 i H locs ls hmeas hI261 hFm261 hL261_ hGm261 hGL28261 hGL258261 gL261_ hi hB hW hL hl
                refine lv_iload hx hb dX12_pivot_261 (lv_at hl 0 rfl) ?_
                refine lv_aload_n hx hb dX12_pivot_263 rfl (lv_at hl 3 rfl) ?_
                refine g_X12_483 Cx hW (k := 231) (by decide) rfl (v := S.1 231 58) ((gL261_ 58 rfl).trans ((gL258_ 58 rfl).trans (((fu_5 231 rfl).1 58).trans (gL28_ 58 rfl)))) dX12_pivot_264 ?_
                refine lv_iconst (v := iv 1) hx hb dX12_pivot_267 (by decide) ?_
                refine r_iadd hx hb dX12_pivot_268 ?_
                refine r_icmp_gt (tgt := 339) hx hb ⟨(by omega), (by omega)⟩ ⟨(by omega), (by omega)⟩ dX12_pivot_269 (by decide) (fun c_10 => ?_) (fun c_10 => ?_)
                · refine lv_aload_n hx hb dX12_pivot_339 rfl (lv_at hl 3 rfl) ?_
                  refine g_X12_112 Cx hW (k := 231) (by decide) rfl (v := .ref (G.2.2.1 + 265)) (rd_56 hI261) dX12_pivot_340 ?_
                  refine lv_iload_n hx hb dX12_pivot_343 rfl (lv_at hl 4 rfl) ?_
                  refine rIald Cx hW (k := 265) (by decide) rfl (by decide) (by omega) (by omega) dX12_pivot_344 ?_
                  have q_11 : (-2147483648) ≤ S.2.1 265 rr ∧ S.2.1 265 rr ≤ 2147483647 := hI.ai 265 rr
                  refine r_i (b := S.2.1 265 rr) (((hL261_ 265 rfl).2.1 rr).trans (((hL258_ 265 rfl).2.1 rr).trans (((fu_5 265 rfl).2.1 rr).trans ((hL28_ 265 rfl).2.1 rr)))) ?_
                  refine lv_istore (lv' := [(5, .int (iv (S.2.1 265 rr))), (4, .int (iv tn)), (3, .int (iv pp)), (0, .ref (G.2.2.1 + 231)), (1, .int (iv rr)), (2, .int (iv ss))]) hx hb dX12_pivot_345 hl (by decide) rfl (fun ls hl => ?_)
                  refine lv_aload_n hx hb dX12_pivot_347 rfl (lv_at hl 3 rfl) ?_
                  refine g_X12_112 Cx hW (k := 231) (by decide) rfl (v := .ref (G.2.2.1 + 265)) (rd_56 hI261) dX12_pivot_348 ?_
                  refine lv_iload_n hx hb dX12_pivot_351 rfl (lv_at hl 4 rfl) ?_
                  refine lv_aload_n hx hb dX12_pivot_352 rfl (lv_at hl 3 rfl) ?_
                  refine g_X12_115 Cx hW (k := 231) (by decide) rfl (v := .ref (G.2.2.1 + 266)) (rd_57 hI261) dX12_pivot_353 ?_
                  refine lv_iload_n hx hb dX12_pivot_356 rfl (lv_at hl 5 rfl) ?_
                  refine rIald Cx hW (k := 266) (by decide) rfl (by decide) (by omega) (by omega) dX12_pivot_357 ?_
                  have q_12 : (-2147483648) ≤ S.2.1 266 ss ∧ S.2.1 266 ss ≤ 2147483647 := hI.ai 266 ss
                  refine r_i (b := S.2.1 266 ss) (((hL261_ 266 rfl).2.1 ss).trans (((hL258_ 266 rfl).2.1 ss).trans (((fu_5 266 rfl).2.1 ss).trans ((hL28_ 266 rfl).2.1 ss)))) ?_
                  refine rIast Cx hW hL (k := 265) (by decide) rfl (by decide) (by omega) (by omega) dX12_pivot_358 (fun H locs hW hL => ?_)
                  have F_13 : Fr S (uA S261 265 rr (S.2.1 266 ss)) (pl [233, 234, 235, 237, 238, 239, 240, 262, 263, 264, 265, 266]) := hFm261.A rfl
                  have i_14 : dX G (uA S261 265 rr (S.2.1 266 ss)) := hI261.A (k := 265) (show (-2147483648) ≤ S.2.1 266 ss ∧ S.2.1 266 ss ≤ 2147483647 from ⟨by omega, by omega⟩)
                  refine lv_aload_n hx hb dX12_pivot_359 rfl (lv_at hl 3 rfl) ?_
                  refine g_X12_115 Cx hW (k := 231) (by decide) rfl (v := .ref (G.2.2.1 + 266)) (rd_57 i_14) dX12_pivot_360 ?_
                  refine lv_iload_n hx hb dX12_pivot_363 rfl (lv_at hl 5 rfl) ?_
                  refine lv_iload hx hb dX12_pivot_364 (lv_at hl 0 rfl) ?_
                  refine rIast Cx hW hL (k := 266) (by decide) rfl (by decide) (by omega) (by omega) dX12_pivot_366 (fun H locs hW hL => ?_)
                  have F_15 : Fr S (uA (uA S261 265 rr (S.2.1 266 ss)) 266 ss (S.2.1 265 rr)) (pl [233, 234, 235, 237, 238, 239, 240, 262, 263, 264, 265, 266]) := F_13.A rfl
                  have i_16 : dX G (uA (uA S261 265 rr (S.2.1 266 ss)) 266 ss (S.2.1 265 rr)) := i_14.A (k := 266) (show (-2147483648) ≤ S.2.1 265 rr ∧ S.2.1 265 rr ≤ 2147483647 from ⟨by omega, by omega⟩)
                  refine lv_iconst (v := iv 1) hx hb dX12_pivot_367 (by decide) ?_
                  exact sZret Cx hr hlk hW hL (by omega) ⟨i_16, F_15, hGm261, ⟨(by omega), hD.pv (hGm261 58 rfl) (hGm261 59 rfl) (hGm261 60 rfl) (by rw [show (uA (uA S261 265 rr (S.2.1 266 ss)) 266 ss (S.2.1 265 rr)).2.1 262 = S261.2.1 262 from (funext fun j => (uA_ne (fun h => absurd h.1 (by decide))).trans (uA_ne (fun h => absurd h.1 (by decide))) : (uA (uA S261 265 rr (S.2.1 266 ss)) 266 ss (S.2.1 265 rr)).2.1 262 = S261.2.1 262)]; have e := hB; rw [show i = S.1 231 58 + 2 by omega] at e; exact e) (by rw [show (uA (uA S261 265 rr (S.2.1 266 ss)) 266 ss (S.2.1 265 rr)).2.1 264 = S258.2.1 264 from (funext fun j => (uA_ne (fun h => absurd h.1 (by decide))).trans ((uA_ne (fun h => absurd h.1 (by decide))).trans ((hL261_ 264 rfl).2.1 j)) : (uA (uA S261 265 rr (S.2.1 266 ss)) 266 ss (S.2.1 265 rr)).2.1 264 = S258.2.1 264)]; exact hN258) (by rw [show (uA (uA S261 265 rr (S.2.1 266 ss)) 266 ss (S.2.1 265 rr)).2.1 264 = S258.2.1 264 from (funext fun j => (uA_ne (fun h => absurd h.1 (by decide))).trans ((uA_ne (fun h => absurd h.1 (by decide))).trans ((hL261_ 264 rfl).2.1 j)) : (uA (uA S261 265 rr (S.2.1 266 ss)) 266 ss (S.2.1 265 rr)).2.1 264 = S258.2.1 264)]; exact hP258.2), (fun _ => ⟨tn, by omega, hpn, (by rw [show (uA (uA S261 265 rr (S.2.1 266 ss)) 266 ss (S.2.1 265 rr)).2.1 264 = S258.2.1 264 from (funext fun j => (uA_ne (fun h => absurd h.1 (by decide))).trans ((uA_ne (fun h => absurd h.1 (by decide))).trans ((hL261_ 264 rfl).2.1 j)) : (uA (uA S261 265 rr (S.2.1 266 ss)) 266 ss (S.2.1 265 rr)).2.1 264 = S258.2.1 264)]; exact hP258.1), (fun a b a0 a1 a2 b0 b1 => by unfold TV; rw [show (uA (uA S261 265 rr (S.2.1 266 ss)) 266 ss (S.2.1 265 rr)).2.1 262 = S261.2.1 262 from (funext fun j => (uA_ne (fun h => absurd h.1 (by decide))).trans (uA_ne (fun h => absurd h.1 (by decide))) : (uA (uA S261 265 rr (S.2.1 266 ss)) 266 ss (S.2.1 265 rr)).2.1 262 = S261.2.1 262)]; have e := hB a b a0 (by omega) a1 a2 b0 b1; have e2 := hFF a b a0 (by omega) a1 a2 b0 b1; rw [e.2]; exact e2.2), (fun x => by rw [show (uA (uA S261 265 rr (S.2.1 266 ss)) 266 ss (S.2.1 265 rr)).2.1 265 x = (uA S261 265 rr (S.2.1 266 ss)).2.1 265 x from uA_ne (fun h => absurd h.1 (by decide)), uA_get]; by_cases z : x = rr; (rw [if_pos ⟨rfl, z⟩, if_pos z]); rw [if_neg (fun h => z h.2), if_neg z]; exact ((hL261_ 265 rfl).2.1 x).trans (((hL258_ 265 rfl).2.1 x).trans (((fu_5 265 rfl).2.1 x).trans ((hL28_ 265 rfl).2.1 x)))), (fun x => by rw [uA_get]; by_cases z : x = ss; (rw [if_pos ⟨rfl, z⟩, if_pos z]); rw [if_neg (fun h => z h.2), if_neg z]; exact (uA_ne (fun h => absurd h.1 (by decide))).trans (((hL261_ 266 rfl).2.1 x).trans (((hL258_ 266 rfl).2.1 x).trans (((fu_5 266 rfl).2.1 x).trans ((hL28_ 266 rfl).2.1 x)))))⟩), (fun q => absurd q (by omega))⟩⟩ dX12_pivot_368
                · have join_333 : ∀ (S333 : sS)  (H : Heap) (locs : List Loc) (ls : Array Slot), (dX G S333) → (Fr S S333 (pl [233, 234, 235, 237, 238, 239, 240, 262, 263, 264, 265, 266])) → (Fr S258 S333 (pl [262])) → (Fr S261 S333 (pl [262])) → (FF S S333 (fl [])) → (FF S S333 (fl [])) → (FF u_5 S333 (fl [])) → (FF S258 S333 (fl [])) → (FF S261 S333 (fl [])) → (BK S (S28.2.1 263) (S333.2.1 262) (i + 1) 0) → sW G 294 S333 H → sL G locs → lv_has ls 8 [(5, .int (iv i)), (4, .int (iv tn)), (3, .int (iv pp)), (0, .ref (G.2.2.1 + 231)), (1, .int (iv rr)), (2, .int (iv ss))] → W p l e (rmk 7 0 0) s m args below meth c H locs 0 0 (MQ below (sQi G 294 (fun r u => dX G u ∧ Fr S u (pl [233, 234, 235, 237, 238, 239, 240, 262, 263, 264, 265, 266]) ∧ FF S u (fl []) ∧ ((0 ≤ r ∧ r ≤ 1) ∧ DOK u ∧ Hd (r = 1 → ∃ tn : Int, (0 ≤ tn ∧ tn ≤ 1) ∧ ((tn = 1 → TV S (rr + 1) ss < 0) ∧ (tn = 0 → 0 < TV S (rr + 1) ss)) ∧ PV S u rr ss tn) ∧ Hd (r = 0 → u.2.1 265 = S.2.1 265 ∧ u.2.1 266 = S.2.1 266)))) args s 0 0 (sF G)) (F0 m 333 ls []) := by
                    intro S333  H locs ls hI333 hFm333 hFL261333 hL333_ hGm333 hGL28333 hGL258333 hGL261333 gL333_ hB333 hW hL hl
                    refine lv_iinc (v := iv (i + 1)) (lv' := [(5, .int (iv (i + 1))), (4, .int (iv tn)), (3, .int (iv pp)), (0, .ref (G.2.2.1 + 231)), (1, .int (iv rr)), (2, .int (iv ss))]) hx hb dX12_pivot_333 hl (k := 0) rfl ((Int32.ofInt_add _ _).symm) (by decide) rfl (fun ls hl => ?_)
                    refine lv_goto (tgt := 261) hx hb dX12_pivot_336 (by decide) ?_
                    exact ih_261 S333 (i + 1) _ _ _ (by omega) hI333 hFm333 hFL261333 hGm333 hGL28333 hGL258333 hGL261333 (by omega) hB333 hW hL (lv_sub hl [0, 1, 2, 3, 4, 5] rfl)
                  refine lv_iload hx hb dX12_pivot_272 (lv_at hl 0 rfl) ?_
                  refine lv_iconst (v := iv 1) hx hb dX12_pivot_274 (by decide) ?_
                  refine r_icmp_ne (tgt := 288) hx hb ⟨(by omega), (by omega)⟩ ⟨(by omega), (by omega)⟩ dX12_pivot_275 (by decide) (fun c_17 => ?_) (fun c_17 => ?_)
                  · refine lv_iconst (v := iv 0) hx hb dX12_pivot_288 (by decide) ?_
                    refine lv_istore (lv' := [(6, .int (iv 0)), (5, .int (iv i)), (4, .int (iv tn)), (3, .int (iv pp)), (0, .ref (G.2.2.1 + 231)), (1, .int (iv rr)), (2, .int (iv ss))]) hx hb dX12_pivot_289 hl (by decide) rfl (fun ls hl => ?_)
                    have loop_291 : ∀ (fuel : Nat) (S291 : sS) (j : Int) (H : Heap) (locs : List Loc) (ls : Array Slot), (S.1 231 59 + 1 - j).toNat < fuel → (dX G S291) → (Fr S S291 (pl [233, 234, 235, 237, 238, 239, 240, 262, 263, 264, 265, 266])) → (Fr S258 S291 (pl [262])) → (Fr S261 S291 (pl [262])) → (Fr S261 S291 (pl [262])) → (FF S S291 (fl [])) → (FF S S291 (fl [])) → (FF u_5 S291 (fl [])) → (FF S258 S291 (fl [])) → (FF S261 S291 (fl [])) → (FF S261 S291 (fl [])) → (0 ≤ j ∧ j ≤ S.1 231 59 + 1) → (BK S (S28.2.1 263) (S291.2.1 262) i j) → sW G 294 S291 H → sL G locs → lv_has ls 8 [(6, .int (iv j)), (5, .int (iv i)), (4, .int (iv tn)), (3, .int (iv pp)), (0, .ref (G.2.2.1 + 231)), (1, .int (iv rr)), (2, .int (iv ss))] → W p l e (rmk 7 0 0) s m args below meth c H locs 0 0 (MQ below (sQi G 294 (fun r u => dX G u ∧ Fr S u (pl [233, 234, 235, 237, 238, 239, 240, 262, 263, 264, 265, 266]) ∧ FF S u (fl []) ∧ ((0 ≤ r ∧ r ≤ 1) ∧ DOK u ∧ Hd (r = 1 → ∃ tn : Int, (0 ≤ tn ∧ tn ≤ 1) ∧ ((tn = 1 → TV S (rr + 1) ss < 0) ∧ (tn = 0 → 0 < TV S (rr + 1) ss)) ∧ PV S u rr ss tn) ∧ Hd (r = 0 → u.2.1 265 = S.2.1 265 ∧ u.2.1 266 = S.2.1 266)))) args s 0 0 (sF G)) (F0 m 291 ls []) := by
                      intro fuel
                      induction fuel with
                      | zero => intro S291 j H locs ls hmeas hI291 hFm291 hFL261291 hFL333291 hL291_ hGm291 hGL28291 hGL258291 hGL261291 hGL333291 gL291_ hj hB2 hW hL hl; exact absurd hmeas (Nat.not_lt_zero _)
                      | succ fuel ih_291 =>
                        intro S291 j H locs ls hmeas hI291 hFm291 hFL261291 hFL333291 hL291_ hGm291 hGL28291 hGL258291 hGL261291 hGL333291 gL291_ hj hB2 hW hL hl
                        have e291 : S291.2.1 263 = S28.2.1 263 := (funext fun j => ((hL291_ 263 rfl).2.1 j).trans (((hL261_ 263 rfl).2.1 j).trans (((hL258_ 263 rfl).2.1 j).trans ((fu_5 263 rfl).2.1 j))) : S291.2.1 263 = S28.2.1 263)
                        refine lv_iload hx hb dX12_pivot_291 (lv_at hl 0 rfl) ?_
                        refine lv_aload_n hx hb dX12_pivot_293 rfl (lv_at hl 4 rfl) ?_
                        have q_18 : (-2147483648) ≤ S.1 231 59 ∧ S.1 231 59 ≤ 2147483647 := hI.fi 59
                        refine g_X12_526 Cx hW (k := 231) (by decide) rfl (v := S.1 231 59) ((gL291_ 59 rfl).trans ((gL261_ 59 rfl).trans ((gL258_ 59 rfl).trans (((fu_5 231 rfl).1 59).trans (gL28_ 59 rfl))))) dX12_pivot_294 ?_
                        refine r_icmp_gt (tgt := 333) hx hb ⟨(by omega), (by omega)⟩ ⟨(by omega), (by omega)⟩ dX12_pivot_297 (by decide) (fun c_19 => ?_) (fun c_19 => ?_)
                        · exact join_333 S291  _ _ _ hI291 hFm291 hFL261291 hFL333291 hGm291 hGL28291 hGL258291 hGL261291 hGL333291 (by have e := hB2; rw [show j = S.1 231 59 + 1 by omega] at e; exact e.row) hW hL (lv_sub hl [1, 2, 3, 4, 5, 6] rfl)
                        · refine lv_aload_n hx hb dX12_pivot_300 rfl (lv_at hl 4 rfl) ?_
                          refine g_X12_106 Cx hW (k := 231) (by decide) rfl (v := .ref (G.2.2.1 + 263)) (rd_54 hI291) dX12_pivot_301 ?_
                          refine lv_aload_n hx hb dX12_pivot_304 rfl (lv_at hl 4 rfl) ?_
                          refine lv_iload hx hb dX12_pivot_305 (lv_at hl 1 rfl) ?_
                          refine lv_iload hx hb dX12_pivot_307 (lv_at hl 0 rfl) ?_
                          refine sBi (sV (As := [.int (iv i), .int (iv j)]) (rest := [.ref (G.2.2.1 + 263)]) (k := 231) Cx (s_X12_cell l G S291 (i := i) (j := j) (by omega) (by omega)) (c_X12_529 Cx rfl rfl (rmk_ok (by omega) (by decide))) hW (by decide) rfl rfl rfl hl.1 rfl (Nat.le_of_ble_eq_true rfl) dX12_pivot_309 ⟨Nat.le_of_ble_eq_true rfl, Nat.le_of_ble_eq_true rfl⟩) hL (fun q1 u_20 H locs k_21 hW hL => ?_)
                          obtain ⟨eu_20, xu_20⟩ := k_21
                          rw [eu_20] at hW
                          refine lv_aload_n hx hb dX12_pivot_312 rfl (lv_at hl 4 rfl) ?_
                          refine g_X12_103 Cx hW (k := 231) (by decide) rfl (v := .ref (G.2.2.1 + 262)) (rd_53 hI291) dX12_pivot_313 ?_
                          refine lv_aload_n hx hb dX12_pivot_316 rfl (lv_at hl 4 rfl) ?_
                          refine lv_iload hx hb dX12_pivot_317 (lv_at hl 1 rfl) ?_
                          refine lv_iload hx hb dX12_pivot_319 (lv_at hl 0 rfl) ?_
                          refine sBi (sV (As := [.int (iv i), .int (iv j)]) (rest := [.ref (G.2.2.1 + 262), .int (iv q1), .ref (G.2.2.1 + 263)]) (k := 231) Cx (s_X12_cell l G S291 (i := i) (j := j) (by omega) (by omega)) (c_X12_529 Cx rfl rfl (rmk_ok (by omega) (by decide))) hW (by decide) rfl rfl rfl hl.1 rfl (Nat.le_of_ble_eq_true rfl) dX12_pivot_321 ⟨Nat.le_of_ble_eq_true rfl, Nat.le_of_ble_eq_true rfl⟩) hL (fun q2 u_22 H locs k_23 hW hL => ?_)
                          obtain ⟨eu_22, xu_22⟩ := k_23
                          rw [eu_22] at hW
                          refine sBv (sSt (As := [.ref (G.2.2.1 + 263), .int (iv q1), .ref (G.2.2.1 + 262), .int (iv q2)]) (rest := []) Cx (s_X12_copy l G S291 (ka := 263) (po := q1) (kb := 262) (qo := q2) (Nka := 5280) (Nkb := 5280) (La := 6) hI291 ⟨rfl, by decide, by decide, by decide, rfl⟩ ⟨rfl, by decide, by decide, by decide, rfl⟩ (show (262 : Nat) ≠ 263 by decide) (by omega) (by rw [show q1 = cl i j by unfold cl; omega, show S291.2.1 263 = S28.2.1 263 from (funext fun j => ((hL291_ 263 rfl).2.1 j).trans (((hL261_ 263 rfl).2.1 j).trans (((hL258_ 263 rfl).2.1 j).trans ((fu_5 263 rfl).2.1 j))) : S291.2.1 263 = S28.2.1 263)]; exact (hFF i j (by omega) (by omega) (by omega) (by omega) (by omega) (by omega)).1)) (c_X12_233 Cx rfl rfl (rmk_ok (by omega) (by decide))) hW rfl hl.1 rfl (Nat.le_of_ble_eq_true rfl) dX12_pivot_324 ⟨Nat.le_of_ble_eq_true rfl, Nat.le_of_ble_eq_true rfl⟩) hL (fun u_24 H locs k_25 hW hL => ?_)
                          obtain ⟨iu_24, fu_24, xu_24⟩ := k_25
                          have F_26 := hFm291.trans (fu_24.to (p1_sub rfl))
                          have F_27 := hFL261291.trans (fu_24.to (p1_sub rfl))
                          have F_28 := hFL333291.trans (fu_24.to (p1_sub rfl))
                          have F_29 := hL291_.trans (fu_24.to (p1_sub rfl))
                          have g_30 : FF S u_24 (fl []) := FF.fr hGm291 fu_24 rfl
                          have g_31 : FF S u_24 (fl []) := FF.fr hGL28291 fu_24 rfl
                          have g_32 : FF u_5 u_24 (fl []) := FF.fr hGL258291 fu_24 rfl
                          have g_33 : FF S258 u_24 (fl []) := FF.fr hGL261291 fu_24 rfl
                          have g_34 : FF S261 u_24 (fl []) := FF.fr hGL333291 fu_24 rfl
                          have g_35 : FF S261 u_24 (fl []) := FF.fr gL291_ fu_24 rfl
                          refine lv_iinc (v := iv (j + 1)) (lv' := [(6, .int (iv (j + 1))), (5, .int (iv i)), (4, .int (iv tn)), (3, .int (iv pp)), (0, .ref (G.2.2.1 + 231)), (1, .int (iv rr)), (2, .int (iv ss))]) hx hb dX12_pivot_327 hl (k := 0) rfl ((Int32.ofInt_add _ _).symm) (by decide) rfl (fun ls hl => ?_)
                          refine lv_goto (tgt := 291) hx hb dX12_pivot_330 (by decide) ?_
                          exact ih_291 u_24 (j + 1) _ _ _ (by omega) iu_24 F_26 F_27 F_28 F_29 g_30 g_31 g_32 g_33 g_34 g_35 (by omega) (BK.step hB2 (by omega) (by omega) (fun x a => xu_24.2 x (by rw [show cl i j = q2 by unfold cl; omega] at a; exact a)) (by rw [show cl i j = q2 by unfold cl; omega]; exact xu_24.1.1) (by rw [show nv (u_24.2.1 262) (cl i j) = nv (u_24.2.1 262) q2 from congrArg _ (by unfold cl; omega), xu_24.1.2.1, show S291.2.1 263 = S28.2.1 263 from e291]; exact congrArg _ (by unfold cl; omega))) hW hL (lv_sub hl [0, 1, 2, 3, 4, 5, 6] rfl)
                    exact loop_291 (_ + 1) S261 0 _ _ _ (Nat.lt_succ_self _) hI261 hFm261 hL261_ (Fr.rf : Fr S261 S261 (pl [262])) Fr.rf hGm261 hGL28261 hGL258261 gL261_ (FF.rf : FF S261 S261 (fl [])) FF.rf (by omega) hB hW hL (lv_sub hl [0, 1, 2, 3, 4, 5, 6] rfl)
                  · refine lv_aload_n hx hb dX12_pivot_278 rfl (lv_at hl 3 rfl) ?_
                    have q_36 : 0 ≤ S.1 231 60 ∧ S.1 231 60 ≤ 1 := hI.fi 60
                    refine g_X12_535 Cx hW (k := 231) (by decide) rfl (v := S.1 231 60) ((gL261_ 60 rfl).trans ((gL258_ 60 rfl).trans (((fu_5 231 rfl).1 60).trans (gL28_ 60 rfl)))) dX12_pivot_279 ?_
                    refine r_if_ne (tgt := 288) hx hb ⟨(by omega), (by omega)⟩ dX12_pivot_282 (by decide) (fun c_37 => ?_) (fun c_37 => ?_)
                    · refine lv_iconst (v := iv 0) hx hb dX12_pivot_288 (by decide) ?_
                      refine lv_istore (lv' := [(6, .int (iv 0)), (5, .int (iv i)), (4, .int (iv tn)), (3, .int (iv pp)), (0, .ref (G.2.2.1 + 231)), (1, .int (iv rr)), (2, .int (iv ss))]) hx hb dX12_pivot_289 hl (by decide) rfl (fun ls hl => ?_)
                      have loop_291 : ∀ (fuel : Nat) (S291 : sS) (j : Int) (H : Heap) (locs : List Loc) (ls : Array Slot), (S.1 231 59 + 1 - j).toNat < fuel → (dX G S291) → (Fr S S291 (pl [233, 234, 235, 237, 238, 239, 240, 262, 263, 264, 265, 266])) → (Fr S258 S291 (pl [262])) → (Fr S261 S291 (pl [262])) → (Fr S261 S291 (pl [262])) → (FF S S291 (fl [])) → (FF S S291 (fl [])) → (FF u_5 S291 (fl [])) → (FF S258 S291 (fl [])) → (FF S261 S291 (fl [])) → (FF S261 S291 (fl [])) → (0 ≤ j ∧ j ≤ S.1 231 59 + 1) → (BK S (S28.2.1 263) (S291.2.1 262) i j) → sW G 294 S291 H → sL G locs → lv_has ls 8 [(6, .int (iv j)), (5, .int (iv i)), (4, .int (iv tn)), (3, .int (iv pp)), (0, .ref (G.2.2.1 + 231)), (1, .int (iv rr)), (2, .int (iv ss))] → W p l e (rmk 7 0 0) s m args below meth c H locs 0 0 (MQ below (sQi G 294 (fun r u => dX G u ∧ Fr S u (pl [233, 234, 235, 237, 238, 239, 240, 262, 263, 264, 265, 266]) ∧ FF S u (fl []) ∧ ((0 ≤ r ∧ r ≤ 1) ∧ DOK u ∧ Hd (r = 1 → ∃ tn : Int, (0 ≤ tn ∧ tn ≤ 1) ∧ ((tn = 1 → TV S (rr + 1) ss < 0) ∧ (tn = 0 → 0 < TV S (rr + 1) ss)) ∧ PV S u rr ss tn) ∧ Hd (r = 0 → u.2.1 265 = S.2.1 265 ∧ u.2.1 266 = S.2.1 266)))) args s 0 0 (sF G)) (F0 m 291 ls []) := by
                        intro fuel
                        induction fuel with
                        | zero => intro S291 j H locs ls hmeas hI291 hFm291 hFL261291 hFL333291 hL291_ hGm291 hGL28291 hGL258291 hGL261291 hGL333291 gL291_ hj hB2 hW hL hl; exact absurd hmeas (Nat.not_lt_zero _)
                        | succ fuel ih_291 =>
                          intro S291 j H locs ls hmeas hI291 hFm291 hFL261291 hFL333291 hL291_ hGm291 hGL28291 hGL258291 hGL261291 hGL333291 gL291_ hj hB2 hW hL hl
                          have e291 : S291.2.1 263 = S28.2.1 263 := (funext fun j => ((hL291_ 263 rfl).2.1 j).trans (((hL261_ 263 rfl).2.1 j).trans (((hL258_ 263 rfl).2.1 j).trans ((fu_5 263 rfl).2.1 j))) : S291.2.1 263 = S28.2.1 263)
                          refine lv_iload hx hb dX12_pivot_291 (lv_at hl 0 rfl) ?_
                          refine lv_aload_n hx hb dX12_pivot_293 rfl (lv_at hl 4 rfl) ?_
                          have q_38 : (-2147483648) ≤ S.1 231 59 ∧ S.1 231 59 ≤ 2147483647 := hI.fi 59
                          refine g_X12_526 Cx hW (k := 231) (by decide) rfl (v := S.1 231 59) ((gL291_ 59 rfl).trans ((gL261_ 59 rfl).trans ((gL258_ 59 rfl).trans (((fu_5 231 rfl).1 59).trans (gL28_ 59 rfl))))) dX12_pivot_294 ?_
                          refine r_icmp_gt (tgt := 333) hx hb ⟨(by omega), (by omega)⟩ ⟨(by omega), (by omega)⟩ dX12_pivot_297 (by decide) (fun c_39 => ?_) (fun c_39 => ?_)
                          · exact join_333 S291  _ _ _ hI291 hFm291 hFL261291 hFL333291 hGm291 hGL28291 hGL258291 hGL261291 hGL333291 (by have e := hB2; rw [show j = S.1 231 59 + 1 by omega] at e; exact e.row) hW hL (lv_sub hl [1, 2, 3, 4, 5, 6] rfl)
                          · refine lv_aload_n hx hb dX12_pivot_300 rfl (lv_at hl 4 rfl) ?_
                            refine g_X12_106 Cx hW (k := 231) (by decide) rfl (v := .ref (G.2.2.1 + 263)) (rd_54 hI291) dX12_pivot_301 ?_
                            refine lv_aload_n hx hb dX12_pivot_304 rfl (lv_at hl 4 rfl) ?_
                            refine lv_iload hx hb dX12_pivot_305 (lv_at hl 1 rfl) ?_
                            refine lv_iload hx hb dX12_pivot_307 (lv_at hl 0 rfl) ?_
                            refine sBi (sV (As := [.int (iv i), .int (iv j)]) (rest := [.ref (G.2.2.1 + 263)]) (k := 231) Cx (s_X12_cell l G S291 (i := i) (j := j) (by omega) (by omega)) (c_X12_529 Cx rfl rfl (rmk_ok (by omega) (by decide))) hW (by decide) rfl rfl rfl hl.1 rfl (Nat.le_of_ble_eq_true rfl) dX12_pivot_309 ⟨Nat.le_of_ble_eq_true rfl, Nat.le_of_ble_eq_true rfl⟩) hL (fun q1 u_40 H locs k_41 hW hL => ?_)
                            obtain ⟨eu_40, xu_40⟩ := k_41
                            rw [eu_40] at hW
                            refine lv_aload_n hx hb dX12_pivot_312 rfl (lv_at hl 4 rfl) ?_
                            refine g_X12_103 Cx hW (k := 231) (by decide) rfl (v := .ref (G.2.2.1 + 262)) (rd_53 hI291) dX12_pivot_313 ?_
                            refine lv_aload_n hx hb dX12_pivot_316 rfl (lv_at hl 4 rfl) ?_
                            refine lv_iload hx hb dX12_pivot_317 (lv_at hl 1 rfl) ?_
                            refine lv_iload hx hb dX12_pivot_319 (lv_at hl 0 rfl) ?_
                            refine sBi (sV (As := [.int (iv i), .int (iv j)]) (rest := [.ref (G.2.2.1 + 262), .int (iv q1), .ref (G.2.2.1 + 263)]) (k := 231) Cx (s_X12_cell l G S291 (i := i) (j := j) (by omega) (by omega)) (c_X12_529 Cx rfl rfl (rmk_ok (by omega) (by decide))) hW (by decide) rfl rfl rfl hl.1 rfl (Nat.le_of_ble_eq_true rfl) dX12_pivot_321 ⟨Nat.le_of_ble_eq_true rfl, Nat.le_of_ble_eq_true rfl⟩) hL (fun q2 u_42 H locs k_43 hW hL => ?_)
                            obtain ⟨eu_42, xu_42⟩ := k_43
                            rw [eu_42] at hW
                            refine sBv (sSt (As := [.ref (G.2.2.1 + 263), .int (iv q1), .ref (G.2.2.1 + 262), .int (iv q2)]) (rest := []) Cx (s_X12_copy l G S291 (ka := 263) (po := q1) (kb := 262) (qo := q2) (Nka := 5280) (Nkb := 5280) (La := 6) hI291 ⟨rfl, by decide, by decide, by decide, rfl⟩ ⟨rfl, by decide, by decide, by decide, rfl⟩ (show (262 : Nat) ≠ 263 by decide) (by omega) (by rw [show q1 = cl i j by unfold cl; omega, show S291.2.1 263 = S28.2.1 263 from (funext fun j => ((hL291_ 263 rfl).2.1 j).trans (((hL261_ 263 rfl).2.1 j).trans (((hL258_ 263 rfl).2.1 j).trans ((fu_5 263 rfl).2.1 j))) : S291.2.1 263 = S28.2.1 263)]; exact (hFF i j (by omega) (by omega) (by omega) (by omega) (by omega) (by omega)).1)) (c_X12_233 Cx rfl rfl (rmk_ok (by omega) (by decide))) hW rfl hl.1 rfl (Nat.le_of_ble_eq_true rfl) dX12_pivot_324 ⟨Nat.le_of_ble_eq_true rfl, Nat.le_of_ble_eq_true rfl⟩) hL (fun u_44 H locs k_45 hW hL => ?_)
                            obtain ⟨iu_44, fu_44, xu_44⟩ := k_45
                            have F_46 := hFm291.trans (fu_44.to (p1_sub rfl))
                            have F_47 := hFL261291.trans (fu_44.to (p1_sub rfl))
                            have F_48 := hFL333291.trans (fu_44.to (p1_sub rfl))
                            have F_49 := hL291_.trans (fu_44.to (p1_sub rfl))
                            have g_50 : FF S u_44 (fl []) := FF.fr hGm291 fu_44 rfl
                            have g_51 : FF S u_44 (fl []) := FF.fr hGL28291 fu_44 rfl
                            have g_52 : FF u_5 u_44 (fl []) := FF.fr hGL258291 fu_44 rfl
                            have g_53 : FF S258 u_44 (fl []) := FF.fr hGL261291 fu_44 rfl
                            have g_54 : FF S261 u_44 (fl []) := FF.fr hGL333291 fu_44 rfl
                            have g_55 : FF S261 u_44 (fl []) := FF.fr gL291_ fu_44 rfl
                            refine lv_iinc (v := iv (j + 1)) (lv' := [(6, .int (iv (j + 1))), (5, .int (iv i)), (4, .int (iv tn)), (3, .int (iv pp)), (0, .ref (G.2.2.1 + 231)), (1, .int (iv rr)), (2, .int (iv ss))]) hx hb dX12_pivot_327 hl (k := 0) rfl ((Int32.ofInt_add _ _).symm) (by decide) rfl (fun ls hl => ?_)
                            refine lv_goto (tgt := 291) hx hb dX12_pivot_330 (by decide) ?_
                            exact ih_291 u_44 (j + 1) _ _ _ (by omega) iu_44 F_46 F_47 F_48 F_49 g_50 g_51 g_52 g_53 g_54 g_55 (by omega) (BK.step hB2 (by omega) (by omega) (fun x a => xu_44.2 x (by rw [show cl i j = q2 by unfold cl; omega] at a; exact a)) (by rw [show cl i j = q2 by unfold cl; omega]; exact xu_44.1.1) (by rw [show nv (u_44.2.1 262) (cl i j) = nv (u_44.2.1 262) q2 from congrArg _ (by unfold cl; omega), xu_44.1.2.1, show S291.2.1 263 = S28.2.1 263 from e291]; exact congrArg _ (by unfold cl; omega))) hW hL (lv_sub hl [0, 1, 2, 3, 4, 5, 6] rfl)
                      exact loop_291 (_ + 1) S261 0 _ _ _ (Nat.lt_succ_self _) hI261 hFm261 hL261_ (Fr.rf : Fr S261 S261 (pl [262])) Fr.rf hGm261 hGL28261 hGL258261 gL261_ (FF.rf : FF S261 S261 (fl [])) FF.rf (by omega) hB hW hL (lv_sub hl [0, 1, 2, 3, 4, 5, 6] rfl)
                    · refine lv_goto (tgt := 333) hx hb dX12_pivot_285 (by decide) ?_
                      exact join_333 S261  _ _ _ hI261 hFm261 hL261_ (Fr.rf : Fr S261 S261 (pl [262])) hGm261 hGL28261 hGL258261 gL261_ (FF.rf : FF S261 S261 (fl [])) (by have e := hB; rw [show i = 1 by omega] at e; rw [show i + 1 = 2 by omega]; exact e.skip (by omega)) hW hL (lv_sub hl [0, 1, 2, 3, 4, 5] rfl)
            exact loop_261 (_ + 1) S258 0 _ _ _ (Nat.lt_succ_self _) hI258 hFm258 Fr.rf hGm258 hGL28258 gL258_ FF.rf (by omega) (fun a b a0 ab _ _ b0 _ => absurd ab (by omega)) hW hL (lv_sub hl [0, 1, 2, 3, 4, 5] rfl)
          refine lv_iload hx hb dX12_pivot_245 (lv_at hl 1 rfl) ?_
          refine r_if_eq (tgt := 258) hx hb ⟨(by omega), (by omega)⟩ dX12_pivot_247 (by decide) (fun c_56 => ?_) (fun c_56 => ?_)
          · exact join_258 u_5  _ _ _ iu_5 F_7 (Fr.rf : Fr u_5 u_5 (pl [264])) g_8 g_9 (FF.rf : FF u_5 u_5 (fl [])) xu_5.1.1 (by have k : nv (u_5.2.1 264) 0 = TV S (rr + 1) ss := (by rw [xu_5.1.2.1, show S28.2.1 262 = S.2.1 262 from (funext fun j => (hL28_ 262 rfl).2.1 j : S28.2.1 262 = S.2.1 262)]; exact congrArg _ (by unfold cl; omega)); rw [k, show tn = 0 by omega, asn_0]; have := hpn.2 (by omega); omega) hW hL (lv_sub hl [0, 1, 2, 3, 4, 5] rfl)
          · refine lv_aload_n hx hb dX12_pivot_250 rfl (lv_at hl 3 rfl) ?_
            refine g_X12_109 Cx hW (k := 231) (by decide) rfl (v := .ref (G.2.2.1 + 264)) (rd_55 iu_5) dX12_pivot_251 ?_
            refine lv_iconst (v := iv 0) hx hb dX12_pivot_254 (by decide) ?_
            refine sBv (sSt (As := [.ref (G.2.2.1 + 264), .int (iv 0)]) (rest := []) Cx (s_X12_negate l G u_5 (ka := 264) (po := 0) (Nka := 8) (La := 6) iu_5 ⟨rfl, by decide, by decide, by decide, rfl⟩ (by omega) xu_5.1.1) (c_X12_540 Cx rfl rfl (rmk_ok (by omega) (by decide))) hW rfl hl.1 rfl (Nat.le_of_ble_eq_true rfl) dX12_pivot_255 ⟨Nat.le_of_ble_eq_true rfl, Nat.le_of_ble_eq_true rfl⟩) hL (fun u_57 H locs k_58 hW hL => ?_)
            obtain ⟨iu_57, fu_57, xu_57⟩ := k_58
            have F_59 := F_7.trans (fu_57.to (p1_sub rfl))
            have F_60 := (Fr.rf : Fr u_5 u_5 (pl [264])).trans (fu_57.to (p1_sub rfl))
            have g_61 : FF S u_57 (fl []) := FF.fr g_8 fu_57 rfl
            have g_62 : FF S u_57 (fl []) := FF.fr g_9 fu_57 rfl
            have g_63 : FF u_5 u_57 (fl []) := FF.fr (FF.rf : FF u_5 u_5 (fl [])) fu_57 rfl
            exact join_258 u_57  _ _ _ iu_57 F_59 F_60 g_61 g_62 g_63 xu_57.1 (by have k : nv (u_5.2.1 264) 0 = TV S (rr + 1) ss := (by rw [xu_5.1.2.1, show S28.2.1 262 = S.2.1 262 from (funext fun j => (hL28_ 262 rfl).2.1 j : S28.2.1 262 = S.2.1 262)]; exact congrArg _ (by unfold cl; omega)); rw [xu_57.2.1, k, show tn = 1 by omega, asn_1]; have := hpn.1 (by omega); omega) hW hL (lv_sub hl [0, 1, 2, 3, 4, 5] rfl)
        · have join_226 : ∀ (S226 : sS)  (H : Heap) (locs : List Loc) (ls : Array Slot), (dX G S226) → (Fr S S226 (pl [233, 234, 235, 237, 238, 239, 240, 262, 263, 264, 265, 266])) → (Fr S S226 (pl [233, 234, 235, 237, 238, 239, 240, 263])) → (Fr S28 S226 (pl [233, 234, 235, 237, 238, 239, 240, 263])) → (FF S S226 (fl [])) → (FF S S226 (fl [])) → (FF S28 S226 (fl [])) → (FO S (S226.2.1 263) rr ss tn (i + 1) 0) → sW G 294 S226 H → sL G locs → lv_has ls 8 [(5, .int (iv i)), (4, .int (iv tn)), (3, .int (iv pp)), (0, .ref (G.2.2.1 + 231)), (1, .int (iv rr)), (2, .int (iv ss))] → W p l e (rmk 7 0 0) s m args below meth c H locs 0 0 (MQ below (sQi G 294 (fun r u => dX G u ∧ Fr S u (pl [233, 234, 235, 237, 238, 239, 240, 262, 263, 264, 265, 266]) ∧ FF S u (fl []) ∧ ((0 ≤ r ∧ r ≤ 1) ∧ DOK u ∧ Hd (r = 1 → ∃ tn : Int, (0 ≤ tn ∧ tn ≤ 1) ∧ ((tn = 1 → TV S (rr + 1) ss < 0) ∧ (tn = 0 → 0 < TV S (rr + 1) ss)) ∧ PV S u rr ss tn) ∧ Hd (r = 0 → u.2.1 265 = S.2.1 265 ∧ u.2.1 266 = S.2.1 266)))) args s 0 0 (sF G)) (F0 m 226 ls []) := by
            intro S226  H locs ls hI226 hFm226 hFL28226 hL226_ hGm226 hGL28226 gL226_ hF226 hW hL hl
            refine lv_iinc (v := iv (i + 1)) (lv' := [(5, .int (iv (i + 1))), (4, .int (iv tn)), (3, .int (iv pp)), (0, .ref (G.2.2.1 + 231)), (1, .int (iv rr)), (2, .int (iv ss))]) hx hb dX12_pivot_226 hl (k := 0) rfl ((Int32.ofInt_add _ _).symm) (by decide) rfl (fun ls hl => ?_)
            refine lv_goto (tgt := 28) hx hb dX12_pivot_229 (by decide) ?_
            exact ih_28 S226 (i + 1) _ _ _ (by omega) hI226 hFm226 hFL28226 hGm226 hGL28226 (by omega) hF226 hW hL (lv_sub hl [0, 1, 2, 3, 4, 5] rfl)
          refine lv_iload hx hb dX12_pivot_39 (lv_at hl 0 rfl) ?_
          refine lv_iconst (v := iv 1) hx hb dX12_pivot_41 (by decide) ?_
          refine r_icmp_ne (tgt := 55) hx hb ⟨(by omega), (by omega)⟩ ⟨(by omega), (by omega)⟩ dX12_pivot_42 (by decide) (fun c_64 => ?_) (fun c_64 => ?_)
          · refine lv_iconst (v := iv 0) hx hb dX12_pivot_55 (by decide) ?_
            refine lv_istore (lv' := [(6, .int (iv 0)), (5, .int (iv i)), (4, .int (iv tn)), (3, .int (iv pp)), (0, .ref (G.2.2.1 + 231)), (1, .int (iv rr)), (2, .int (iv ss))]) hx hb dX12_pivot_56 hl (by decide) rfl (fun ls hl => ?_)
            have loop_58 : ∀ (fuel : Nat) (S58 : sS) (j : Int) (H : Heap) (locs : List Loc) (ls : Array Slot), (S.1 231 59 + 1 - j).toNat < fuel → (dX G S58) → (Fr S S58 (pl [233, 234, 235, 237, 238, 239, 240, 262, 263, 264, 265, 266])) → (Fr S S58 (pl [233, 234, 235, 237, 238, 239, 240, 263])) → (Fr S28 S58 (pl [233, 234, 235, 237, 238, 239, 240, 263])) → (Fr S28 S58 (pl [233, 234, 235, 237, 238, 239, 240, 263])) → (FF S S58 (fl [])) → (FF S S58 (fl [])) → (FF S28 S58 (fl [])) → (FF S28 S58 (fl [])) → (0 ≤ j ∧ j ≤ S.1 231 59 + 1) → (FO S (S58.2.1 263) rr ss tn i j) → sW G 294 S58 H → sL G locs → lv_has ls 8 [(6, .int (iv j)), (5, .int (iv i)), (4, .int (iv tn)), (3, .int (iv pp)), (0, .ref (G.2.2.1 + 231)), (1, .int (iv rr)), (2, .int (iv ss))] → W p l e (rmk 7 0 0) s m args below meth c H locs 0 0 (MQ below (sQi G 294 (fun r u => dX G u ∧ Fr S u (pl [233, 234, 235, 237, 238, 239, 240, 262, 263, 264, 265, 266]) ∧ FF S u (fl []) ∧ ((0 ≤ r ∧ r ≤ 1) ∧ DOK u ∧ Hd (r = 1 → ∃ tn : Int, (0 ≤ tn ∧ tn ≤ 1) ∧ ((tn = 1 → TV S (rr + 1) ss < 0) ∧ (tn = 0 → 0 < TV S (rr + 1) ss)) ∧ PV S u rr ss tn) ∧ Hd (r = 0 → u.2.1 265 = S.2.1 265 ∧ u.2.1 266 = S.2.1 266)))) args s 0 0 (sF G)) (F0 m 58 ls []) := by
              intro fuel
              induction fuel with
              | zero => intro S58 j H locs ls hmeas hI58 hFm58 hFL2858 hFL22658 hL58_ hGm58 hGL2858 hGL22658 gL58_ hj hF hW hL hl; exact absurd hmeas (Nat.not_lt_zero _)
              | succ fuel ih_58 =>
                intro S58 j H locs ls hmeas hI58 hFm58 hFL2858 hFL22658 hL58_ hGm58 hGL2858 hGL22658 gL58_ hj hF hW hL hl
                have eD58 : S58.2.1 262 = S.2.1 262 := (funext fun j => ((hL58_ 262 rfl).2.1 j).trans ((hL28_ 262 rfl).2.1 j) : S58.2.1 262 = S.2.1 262)
                have eN58 : S58.2.1 264 = S.2.1 264 := (funext fun j => ((hL58_ 264 rfl).2.1 j).trans ((hL28_ 264 rfl).2.1 j) : S58.2.1 264 = S.2.1 264)
                refine lv_iload hx hb dX12_pivot_58 (lv_at hl 0 rfl) ?_
                refine lv_aload_n hx hb dX12_pivot_60 rfl (lv_at hl 4 rfl) ?_
                have q_65 : (-2147483648) ≤ S.1 231 59 ∧ S.1 231 59 ≤ 2147483647 := hI.fi 59
                refine g_X12_526 Cx hW (k := 231) (by decide) rfl (v := S.1 231 59) ((gL58_ 59 rfl).trans (gL28_ 59 rfl)) dX12_pivot_61 ?_
                refine r_icmp_gt (tgt := 226) hx hb ⟨(by omega), (by omega)⟩ ⟨(by omega), (by omega)⟩ dX12_pivot_64 (by decide) (fun c_66 => ?_) (fun c_66 => ?_)
                · exact join_226 S58  _ _ _ hI58 hFm58 hFL2858 hFL22658 hGm58 hGL2858 hGL22658 (by have e := hF; rw [show j = S.1 231 59 + 1 by omega] at e; exact e.row) hW hL (lv_sub hl [1, 2, 3, 4, 5, 6] rfl)
                · refine lv_aload_n hx hb dX12_pivot_67 rfl (lv_at hl 4 rfl) ?_
                  refine lv_iload hx hb dX12_pivot_68 (lv_at hl 1 rfl) ?_
                  refine lv_iload hx hb dX12_pivot_70 (lv_at hl 0 rfl) ?_
                  refine sBi (sV (As := [.int (iv i), .int (iv j)]) (rest := []) (k := 231) Cx (s_X12_cell l G S58 (i := i) (j := j) (by omega) (by omega)) (c_X12_529 Cx rfl rfl (rmk_ok (by omega) (by decide))) hW (by decide) rfl rfl rfl hl.1 rfl (Nat.le_of_ble_eq_true rfl) dX12_pivot_72 ⟨Nat.le_of_ble_eq_true rfl, Nat.le_of_ble_eq_true rfl⟩) hL (fun q u_67 H locs k_68 hW hL => ?_)
                  obtain ⟨eu_67, xu_67⟩ := k_68
                  rw [eu_67] at hW
                  refine lv_istore (lv' := [(7, .int (iv q)), (6, .int (iv j)), (5, .int (iv i)), (4, .int (iv tn)), (3, .int (iv pp)), (0, .ref (G.2.2.1 + 231)), (1, .int (iv rr)), (2, .int (iv ss))]) hx hb dX12_pivot_75 hl (by decide) rfl (fun ls hl => ?_)
                  have join_220 : ∀ (S220 : sS)  (H : Heap) (locs : List Loc) (ls : Array Slot), (dX G S220) → (Fr S S220 (pl [233, 234, 235, 237, 238, 239, 240, 262, 263, 264, 265, 266])) → (Fr S S220 (pl [233, 234, 235, 237, 238, 239, 240, 263])) → (Fr S28 S220 (pl [233, 234, 235, 237, 238, 239, 240, 263])) → (Fr S28 S220 (pl [233, 234, 235, 237, 238, 239, 240, 263])) → (Fr S58 S220 (pl [233, 234, 235, 237, 238, 239, 240, 263])) → (FF S S220 (fl [])) → (FF S S220 (fl [])) → (FF S28 S220 (fl [])) → (FF S28 S220 (fl [])) → (FF S58 S220 (fl [])) → (FO S (S220.2.1 263) rr ss tn i (j + 1)) → sW G 294 S220 H → sL G locs → lv_has ls 8 [(7, .int (iv q)), (6, .int (iv j)), (5, .int (iv i)), (4, .int (iv tn)), (3, .int (iv pp)), (0, .ref (G.2.2.1 + 231)), (1, .int (iv rr)), (2, .int (iv ss))] → W p l e (rmk 7 0 0) s m args below meth c H locs 0 0 (MQ below (sQi G 294 (fun r u => dX G u ∧ Fr S u (pl [233, 234, 235, 237, 238, 239, 240, 262, 263, 264, 265, 266]) ∧ FF S u (fl []) ∧ ((0 ≤ r ∧ r ≤ 1) ∧ DOK u ∧ Hd (r = 1 → ∃ tn : Int, (0 ≤ tn ∧ tn ≤ 1) ∧ ((tn = 1 → TV S (rr + 1) ss < 0) ∧ (tn = 0 → 0 < TV S (rr + 1) ss)) ∧ PV S u rr ss tn) ∧ Hd (r = 0 → u.2.1 265 = S.2.1 265 ∧ u.2.1 266 = S.2.1 266)))) args s 0 0 (sF G)) (F0 m 220 ls []) := by
                    intro S220  H locs ls hI220 hFm220 hFL28220 hFL226220 hFL58220 hL220_ hGm220 hGL28220 hGL226220 hGL58220 gL220_ hF220 hW hL hl
                    refine lv_iinc (v := iv (j + 1)) (lv' := [(6, .int (iv (j + 1))), (7, .int (iv q)), (5, .int (iv i)), (4, .int (iv tn)), (3, .int (iv pp)), (0, .ref (G.2.2.1 + 231)), (1, .int (iv rr)), (2, .int (iv ss))]) hx hb dX12_pivot_220 hl (k := 1) rfl ((Int32.ofInt_add _ _).symm) (by decide) rfl (fun ls hl => ?_)
                    refine lv_goto (tgt := 58) hx hb dX12_pivot_223 (by decide) ?_
                    exact ih_58 S220 (j + 1) _ _ _ (by omega) hI220 hFm220 hFL28220 hFL226220 hFL58220 hGm220 hGL28220 hGL226220 hGL58220 (by omega) hF220 hW hL (lv_sub hl [0, 2, 3, 4, 5, 6, 7] rfl)
                  refine lv_iload hx hb dX12_pivot_77 (lv_at hl 2 rfl) ?_
                  refine lv_iload_n hx hb dX12_pivot_79 rfl (lv_at hl 6 rfl) ?_
                  refine lv_iconst (v := iv 1) hx hb dX12_pivot_80 (by decide) ?_
                  refine r_iadd hx hb dX12_pivot_81 ?_
                  refine r_icmp_ne (tgt := 122) hx hb ⟨(by omega), (by omega)⟩ ⟨(by omega), (by omega)⟩ dX12_pivot_82 (by decide) (fun c_69 => ?_) (fun c_69 => ?_)
                  · refine lv_iload hx hb dX12_pivot_122 (lv_at hl 2 rfl) ?_
                    refine lv_iload_n hx hb dX12_pivot_124 rfl (lv_at hl 6 rfl) ?_
                    refine lv_iconst (v := iv 1) hx hb dX12_pivot_125 (by decide) ?_
                    refine r_iadd hx hb dX12_pivot_126 ?_
                    refine r_icmp_ne (tgt := 162) hx hb ⟨(by omega), (by omega)⟩ ⟨(by omega), (by omega)⟩ dX12_pivot_127 (by decide) (fun c_70 => ?_) (fun c_70 => ?_)
                    · refine lv_iload hx hb dX12_pivot_162 (lv_at hl 1 rfl) ?_
                      refine lv_iload_n hx hb dX12_pivot_164 rfl (lv_at hl 7 rfl) ?_
                      refine r_icmp_ne (tgt := 200) hx hb ⟨(by omega), (by omega)⟩ ⟨(by omega), (by omega)⟩ dX12_pivot_165 (by decide) (fun c_71 => ?_) (fun c_71 => ?_)
                      · refine lv_aload_n hx hb dX12_pivot_200 rfl (lv_at hl 5 rfl) ?_
                        refine lv_iload hx hb dX12_pivot_201 (lv_at hl 2 rfl) ?_
                        refine lv_iload hx hb dX12_pivot_203 (lv_at hl 1 rfl) ?_
                        refine lv_iload_n hx hb dX12_pivot_205 rfl (lv_at hl 6 rfl) ?_
                        refine lv_iload_n hx hb dX12_pivot_206 rfl (lv_at hl 7 rfl) ?_
                        refine lv_iload_n hx hb dX12_pivot_207 rfl (lv_at hl 4 rfl) ?_
                        refine lv_iload hx hb dX12_pivot_208 (lv_at hl 0 rfl) ?_
                        refine lv_iload hx hb dX12_pivot_210 (lv_at hl 3 rfl) ?_
                        refine sBi (sV (As := [.int (iv i), .int (iv j), .int (iv rr), .int (iv ss), .int (iv pp), .int (iv q), .int (iv tn)]) (rest := []) (k := 231) Cx (s_X12_across l G S58 (ii := i) (jj := j) (rr := rr) (ss := ss) (pp := pp) (qq := q) (tn := tn) hI58 (by omega) (by omega) (by omega) (by omega) (by rw [show S58.2.1 262 = S.2.1 262 from (funext fun j => ((hL58_ 262 rfl).2.1 j).trans ((hL28_ 262 rfl).2.1 j) : S58.2.1 262 = S.2.1 262)]; exact (hD.at (i := i) (j := j) (by omega) (by omega) (by omega) (by omega))) (by rw [show S58.2.1 262 = S.2.1 262 from (funext fun j => ((hL58_ 262 rfl).2.1 j).trans ((hL28_ 262 rfl).2.1 j) : S58.2.1 262 = S.2.1 262)]; exact (hD.at (i := rr + 1) (j := ss) (by omega) (by omega) (by omega) (by omega))) (by rw [show S58.2.1 262 = S.2.1 262 from (funext fun j => ((hL58_ 262 rfl).2.1 j).trans ((hL28_ 262 rfl).2.1 j) : S58.2.1 262 = S.2.1 262)]; exact (hD.at (i := i) (j := ss) (by omega) (by omega) (by omega) (by omega))) (by rw [show S58.2.1 262 = S.2.1 262 from (funext fun j => ((hL58_ 262 rfl).2.1 j).trans ((hL28_ 262 rfl).2.1 j) : S58.2.1 262 = S.2.1 262)]; exact (hD.at (i := rr + 1) (j := j) (by omega) (by omega) (by omega) (by omega))) (by rw [show S58.2.1 264 = S.2.1 264 from (funext fun j => ((hL58_ 264 rfl).2.1 j).trans ((hL28_ 264 rfl).2.1 j) : S58.2.1 264 = S.2.1 264)]; exact hD.2.2.1) (by rw [show S58.2.1 264 = S.2.1 264 from (funext fun j => ((hL58_ 264 rfl).2.1 j).trans ((hL28_ 264 rfl).2.1 j) : S58.2.1 264 = S.2.1 264)]; exact hD.2.2.2)) (c_X12_544 Cx rfl rfl (rmk_ok (by omega) (by decide))) hW (by decide) rfl rfl rfl hl.1 rfl (Nat.le_of_ble_eq_true rfl) dX12_pivot_212 ⟨Nat.le_of_ble_eq_true rfl, Nat.le_of_ble_eq_true rfl⟩) hL (fun r_74 u_72 H locs k_73 hW hL => ?_)
                        obtain ⟨iu_72, fu_72, gu_72, xu_72⟩ := k_73
                        have F_75 := hFm58.trans (fu_72.to (pl_sub (by decide)))
                        have F_76 := hFL2858.trans fu_72
                        have F_77 := hFL22658.trans fu_72
                        have F_78 := hL58_.trans fu_72
                        have F_79 := (Fr.rf : Fr S58 S58 (pl [233, 234, 235, 237, 238, 239, 240, 263])).trans fu_72
                        have g_80 : FF S u_72 (fl []) := FF.trans hGm58 (FF.to gu_72 (fl_sub (by decide)))
                        have g_81 : FF S u_72 (fl []) := FF.trans hGL2858 (FF.to gu_72 (fl_sub (by decide)))
                        have g_82 : FF S28 u_72 (fl []) := FF.trans hGL22658 (FF.to gu_72 (fl_sub (by decide)))
                        have g_83 : FF S28 u_72 (fl []) := FF.trans gL58_ (FF.to gu_72 (fl_sub (by decide)))
                        have g_84 : FF S58 u_72 (fl []) := FF.trans (FF.rf : FF S58 S58 (fl [])) (FF.to gu_72 (fl_sub (by decide)))
                        refine r_if_ne (tgt := 220) hx hb ⟨(by omega), (by omega)⟩ dX12_pivot_215 (by decide) (fun c_85 => ?_) (fun c_85 => ?_)
                        · exact join_220 u_72  _ _ _ iu_72 F_75 F_76 F_77 F_78 F_79 g_80 g_81 g_82 g_83 g_84 (FO.step hF (by omega) (by omega) (fun x a => xu_72.2.2 x (by rw [show cl i j = q by unfold cl; omega] at a; exact a)) (by rw [show cl i j = q by unfold cl; omega]; exact (xu_72.2.1 (by omega)).1) (PC.d (by omega) (by omega) (by have e := (xu_72.2.1 (by omega)).2; rw [eD58, eN58] at e; obtain ⟨Q, R, h1, h2, h3, h4⟩ := e; refine ⟨Q, R, (by rw [show cl i j = q by unfold cl; omega]; exact h1), ?_, h3, h4⟩; unfold TV; rw [show cl i j = q by unfold cl; omega, show cl (rr + 1) ss = pp by unfold cl; omega]; exact h2))) hW hL (lv_sub hl [0, 1, 2, 3, 4, 5, 6, 7] rfl)
                        · refine lv_iconst (v := iv 0) hx hb dX12_pivot_218 (by decide) ?_
                          exact sZret Cx hr hlk hW hL (by omega) ⟨iu_72, F_75, g_80, ⟨(by omega), hD.same (g_80 58 rfl) (g_80 59 rfl) (g_80 60 rfl) (funext fun j => ((fu_72 262 rfl).2.1 j).trans (((hL58_ 262 rfl).2.1 j).trans ((hL28_ 262 rfl).2.1 j)) : u_72.2.1 262 = S.2.1 262) (funext fun j => ((fu_72 264 rfl).2.1 j).trans (((hL58_ 264 rfl).2.1 j).trans ((hL28_ 264 rfl).2.1 j)) : u_72.2.1 264 = S.2.1 264), (fun q => absurd q (by omega)), (fun _ => ⟨(funext fun j => ((fu_72 265 rfl).2.1 j).trans (((hL58_ 265 rfl).2.1 j).trans ((hL28_ 265 rfl).2.1 j)) : u_72.2.1 265 = S.2.1 265), (funext fun j => ((fu_72 266 rfl).2.1 j).trans (((hL58_ 266 rfl).2.1 j).trans ((hL28_ 266 rfl).2.1 j)) : u_72.2.1 266 = S.2.1 266)⟩)⟩⟩ dX12_pivot_219
                      · refine lv_aload_n hx hb dX12_pivot_168 rfl (lv_at hl 5 rfl) ?_
                        refine g_X12_103 Cx hW (k := 231) (by decide) rfl (v := .ref (G.2.2.1 + 262)) (rd_53 hI58) dX12_pivot_169 ?_
                        refine lv_iload hx hb dX12_pivot_172 (lv_at hl 0 rfl) ?_
                        refine lv_aload_n hx hb dX12_pivot_174 rfl (lv_at hl 5 rfl) ?_
                        refine g_X12_106 Cx hW (k := 231) (by decide) rfl (v := .ref (G.2.2.1 + 263)) (rd_54 hI58) dX12_pivot_175 ?_
                        refine lv_iload hx hb dX12_pivot_178 (lv_at hl 0 rfl) ?_
                        refine sBv (sSt (As := [.ref (G.2.2.1 + 262), .int (iv q), .ref (G.2.2.1 + 263), .int (iv q)]) (rest := []) Cx (s_X12_copy l G S58 (ka := 262) (po := q) (kb := 263) (qo := q) (Nka := 5280) (Nkb := 5280) (La := 6) hI58 ⟨rfl, by decide, by decide, by decide, rfl⟩ ⟨rfl, by decide, by decide, by decide, rfl⟩ (show (263 : Nat) ≠ 262 by decide) (by omega) (by rw [show S58.2.1 262 = S.2.1 262 from (funext fun j => ((hL58_ 262 rfl).2.1 j).trans ((hL28_ 262 rfl).2.1 j) : S58.2.1 262 = S.2.1 262)]; exact (hD.at (i := i) (j := j) (by omega) (by omega) (by omega) (by omega)))) (c_X12_233 Cx rfl rfl (rmk_ok (by omega) (by decide))) hW rfl hl.1 rfl (Nat.le_of_ble_eq_true rfl) dX12_pivot_180 ⟨Nat.le_of_ble_eq_true rfl, Nat.le_of_ble_eq_true rfl⟩) hL (fun u_86 H locs k_87 hW hL => ?_)
                        obtain ⟨iu_86, fu_86, xu_86⟩ := k_87
                        have F_88 := hFm58.trans (fu_86.to (p1_sub rfl))
                        have F_89 := hFL2858.trans (fu_86.to (p1_sub rfl))
                        have F_90 := hFL22658.trans (fu_86.to (p1_sub rfl))
                        have F_91 := hL58_.trans (fu_86.to (p1_sub rfl))
                        have F_92 := (Fr.rf : Fr S58 S58 (pl [233, 234, 235, 237, 238, 239, 240, 263])).trans (fu_86.to (p1_sub rfl))
                        have g_93 : FF S u_86 (fl []) := FF.fr hGm58 fu_86 rfl
                        have g_94 : FF S u_86 (fl []) := FF.fr hGL2858 fu_86 rfl
                        have g_95 : FF S28 u_86 (fl []) := FF.fr hGL22658 fu_86 rfl
                        have g_96 : FF S28 u_86 (fl []) := FF.fr gL58_ fu_86 rfl
                        have g_97 : FF S58 u_86 (fl []) := FF.fr (FF.rf : FF S58 S58 (fl [])) fu_86 rfl
                        refine lv_iload hx hb dX12_pivot_183 (lv_at hl 3 rfl) ?_
                        refine r_if_ne (tgt := 220) hx hb ⟨(by omega), (by omega)⟩ dX12_pivot_185 (by decide) (fun c_98 => ?_) (fun c_98 => ?_)
                        · exact join_220 u_86  _ _ _ iu_86 F_88 F_89 F_90 F_91 F_92 g_93 g_94 g_95 g_96 g_97 (FO.step hF (by omega) (by omega) (fun x a => by rw [show cl i j = q by unfold cl; omega] at a; exact xu_86.2 x a) (by rw [show cl i j = q by unfold cl; omega]; exact xu_86.1.1) (PC.c (by omega) (by omega) (by have k0 : nv (u_86.2.1 263) q = TV S i j := (by rw [xu_86.1.2.1, eD58]; unfold TV; rw [show cl i j = q by unfold cl; omega]); rw [show cl i j = q by unfold cl; omega, k0, show tn = 1 by omega, asn_1]; omega))) hW hL (lv_sub hl [0, 1, 2, 3, 4, 5, 6, 7] rfl)
                        · refine lv_aload_n hx hb dX12_pivot_188 rfl (lv_at hl 5 rfl) ?_
                          refine g_X12_106 Cx hW (k := 231) (by decide) rfl (v := .ref (G.2.2.1 + 263)) (rd_54 iu_86) dX12_pivot_189 ?_
                          refine lv_iload hx hb dX12_pivot_192 (lv_at hl 0 rfl) ?_
                          refine sBv (sSt (As := [.ref (G.2.2.1 + 263), .int (iv q)]) (rest := []) Cx (s_X12_negate l G u_86 (ka := 263) (po := q) (Nka := 5280) (La := 6) iu_86 ⟨rfl, by decide, by decide, by decide, rfl⟩ (by omega) xu_86.1.1) (c_X12_540 Cx rfl rfl (rmk_ok (by omega) (by decide))) hW rfl hl.1 rfl (Nat.le_of_ble_eq_true rfl) dX12_pivot_194 ⟨Nat.le_of_ble_eq_true rfl, Nat.le_of_ble_eq_true rfl⟩) hL (fun u_99 H locs k_100 hW hL => ?_)
                          obtain ⟨iu_99, fu_99, xu_99⟩ := k_100
                          have F_101 := F_88.trans (fu_99.to (p1_sub rfl))
                          have F_102 := F_89.trans (fu_99.to (p1_sub rfl))
                          have F_103 := F_90.trans (fu_99.to (p1_sub rfl))
                          have F_104 := F_91.trans (fu_99.to (p1_sub rfl))
                          have F_105 := F_92.trans (fu_99.to (p1_sub rfl))
                          have g_106 : FF S u_99 (fl []) := FF.fr g_93 fu_99 rfl
                          have g_107 : FF S u_99 (fl []) := FF.fr g_94 fu_99 rfl
                          have g_108 : FF S28 u_99 (fl []) := FF.fr g_95 fu_99 rfl
                          have g_109 : FF S28 u_99 (fl []) := FF.fr g_96 fu_99 rfl
                          have g_110 : FF S58 u_99 (fl []) := FF.fr g_97 fu_99 rfl
                          refine lv_goto (tgt := 220) hx hb dX12_pivot_197 (by decide) ?_
                          exact join_220 u_99  _ _ _ iu_99 F_101 F_102 F_103 F_104 F_105 g_106 g_107 g_108 g_109 g_110 (FO.step hF (by omega) (by omega) (fun x a => by rw [show cl i j = q by unfold cl; omega] at a; rw [xu_99.2.2, uA_ne (fun z => by have := z.2; omega)]; exact xu_86.2 x a) (by rw [show cl i j = q by unfold cl; omega]; exact xu_99.1) (PC.c (by omega) (by omega) (by have k0 : nv (u_86.2.1 263) q = TV S i j := (by rw [xu_86.1.2.1, eD58]; unfold TV; rw [show cl i j = q by unfold cl; omega]); rw [show cl i j = q by unfold cl; omega, xu_99.2.1, k0, show tn = 0 by omega, asn_0]))) hW hL (lv_sub hl [0, 1, 2, 3, 4, 5, 6, 7] rfl)
                    · refine lv_aload_n hx hb dX12_pivot_130 rfl (lv_at hl 5 rfl) ?_
                      refine g_X12_103 Cx hW (k := 231) (by decide) rfl (v := .ref (G.2.2.1 + 262)) (rd_53 hI58) dX12_pivot_131 ?_
                      refine lv_iload hx hb dX12_pivot_134 (lv_at hl 0 rfl) ?_
                      refine lv_aload_n hx hb dX12_pivot_136 rfl (lv_at hl 5 rfl) ?_
                      refine g_X12_106 Cx hW (k := 231) (by decide) rfl (v := .ref (G.2.2.1 + 263)) (rd_54 hI58) dX12_pivot_137 ?_
                      refine lv_iload hx hb dX12_pivot_140 (lv_at hl 0 rfl) ?_
                      refine sBv (sSt (As := [.ref (G.2.2.1 + 262), .int (iv q), .ref (G.2.2.1 + 263), .int (iv q)]) (rest := []) Cx (s_X12_copy l G S58 (ka := 262) (po := q) (kb := 263) (qo := q) (Nka := 5280) (Nkb := 5280) (La := 6) hI58 ⟨rfl, by decide, by decide, by decide, rfl⟩ ⟨rfl, by decide, by decide, by decide, rfl⟩ (show (263 : Nat) ≠ 262 by decide) (by omega) (by rw [show S58.2.1 262 = S.2.1 262 from (funext fun j => ((hL58_ 262 rfl).2.1 j).trans ((hL28_ 262 rfl).2.1 j) : S58.2.1 262 = S.2.1 262)]; exact (hD.at (i := i) (j := j) (by omega) (by omega) (by omega) (by omega)))) (c_X12_233 Cx rfl rfl (rmk_ok (by omega) (by decide))) hW rfl hl.1 rfl (Nat.le_of_ble_eq_true rfl) dX12_pivot_142 ⟨Nat.le_of_ble_eq_true rfl, Nat.le_of_ble_eq_true rfl⟩) hL (fun u_111 H locs k_112 hW hL => ?_)
                      obtain ⟨iu_111, fu_111, xu_111⟩ := k_112
                      have F_113 := hFm58.trans (fu_111.to (p1_sub rfl))
                      have F_114 := hFL2858.trans (fu_111.to (p1_sub rfl))
                      have F_115 := hFL22658.trans (fu_111.to (p1_sub rfl))
                      have F_116 := hL58_.trans (fu_111.to (p1_sub rfl))
                      have F_117 := (Fr.rf : Fr S58 S58 (pl [233, 234, 235, 237, 238, 239, 240, 263])).trans (fu_111.to (p1_sub rfl))
                      have g_118 : FF S u_111 (fl []) := FF.fr hGm58 fu_111 rfl
                      have g_119 : FF S u_111 (fl []) := FF.fr hGL2858 fu_111 rfl
                      have g_120 : FF S28 u_111 (fl []) := FF.fr hGL22658 fu_111 rfl
                      have g_121 : FF S28 u_111 (fl []) := FF.fr gL58_ fu_111 rfl
                      have g_122 : FF S58 u_111 (fl []) := FF.fr (FF.rf : FF S58 S58 (fl [])) fu_111 rfl
                      refine lv_iload hx hb dX12_pivot_145 (lv_at hl 3 rfl) ?_
                      refine r_if_eq (tgt := 220) hx hb ⟨(by omega), (by omega)⟩ dX12_pivot_147 (by decide) (fun c_123 => ?_) (fun c_123 => ?_)
                      · exact join_220 u_111  _ _ _ iu_111 F_113 F_114 F_115 F_116 F_117 g_118 g_119 g_120 g_121 g_122 (FO.step hF (by omega) (by omega) (fun x a => by rw [show cl i j = q by unfold cl; omega] at a; exact xu_111.2 x a) (by rw [show cl i j = q by unfold cl; omega]; exact xu_111.1.1) (PC.b (by omega) (by omega) (by have k0 : nv (u_111.2.1 263) q = TV S i j := (by rw [xu_111.1.2.1, eD58]; unfold TV; rw [show cl i j = q by unfold cl; omega]); rw [show cl i j = q by unfold cl; omega, k0, show tn = 0 by omega, asn_0]))) hW hL (lv_sub hl [0, 1, 2, 3, 4, 5, 6, 7] rfl)
                      · refine lv_aload_n hx hb dX12_pivot_150 rfl (lv_at hl 5 rfl) ?_
                        refine g_X12_106 Cx hW (k := 231) (by decide) rfl (v := .ref (G.2.2.1 + 263)) (rd_54 iu_111) dX12_pivot_151 ?_
                        refine lv_iload hx hb dX12_pivot_154 (lv_at hl 0 rfl) ?_
                        refine sBv (sSt (As := [.ref (G.2.2.1 + 263), .int (iv q)]) (rest := []) Cx (s_X12_negate l G u_111 (ka := 263) (po := q) (Nka := 5280) (La := 6) iu_111 ⟨rfl, by decide, by decide, by decide, rfl⟩ (by omega) xu_111.1.1) (c_X12_540 Cx rfl rfl (rmk_ok (by omega) (by decide))) hW rfl hl.1 rfl (Nat.le_of_ble_eq_true rfl) dX12_pivot_156 ⟨Nat.le_of_ble_eq_true rfl, Nat.le_of_ble_eq_true rfl⟩) hL (fun u_124 H locs k_125 hW hL => ?_)
                        obtain ⟨iu_124, fu_124, xu_124⟩ := k_125
                        have F_126 := F_113.trans (fu_124.to (p1_sub rfl))
                        have F_127 := F_114.trans (fu_124.to (p1_sub rfl))
                        have F_128 := F_115.trans (fu_124.to (p1_sub rfl))
                        have F_129 := F_116.trans (fu_124.to (p1_sub rfl))
                        have F_130 := F_117.trans (fu_124.to (p1_sub rfl))
                        have g_131 : FF S u_124 (fl []) := FF.fr g_118 fu_124 rfl
                        have g_132 : FF S u_124 (fl []) := FF.fr g_119 fu_124 rfl
                        have g_133 : FF S28 u_124 (fl []) := FF.fr g_120 fu_124 rfl
                        have g_134 : FF S28 u_124 (fl []) := FF.fr g_121 fu_124 rfl
                        have g_135 : FF S58 u_124 (fl []) := FF.fr g_122 fu_124 rfl
                        refine lv_goto (tgt := 220) hx hb dX12_pivot_159 (by decide) ?_
                        exact join_220 u_124  _ _ _ iu_124 F_126 F_127 F_128 F_129 F_130 g_131 g_132 g_133 g_134 g_135 (FO.step hF (by omega) (by omega) (fun x a => by rw [show cl i j = q by unfold cl; omega] at a; rw [xu_124.2.2, uA_ne (fun z => by have := z.2; omega)]; exact xu_111.2 x a) (by rw [show cl i j = q by unfold cl; omega]; exact xu_124.1) (PC.b (by omega) (by omega) (by have k0 : nv (u_111.2.1 263) q = TV S i j := (by rw [xu_111.1.2.1, eD58]; unfold TV; rw [show cl i j = q by unfold cl; omega]); rw [show cl i j = q by unfold cl; omega, xu_124.2.1, k0, show tn = 1 by omega, asn_1]))) hW hL (lv_sub hl [0, 1, 2, 3, 4, 5, 6, 7] rfl)
                  · refine lv_iload hx hb dX12_pivot_85 (lv_at hl 1 rfl) ?_
                    refine lv_iload_n hx hb dX12_pivot_87 rfl (lv_at hl 7 rfl) ?_
                    refine r_icmp_ne (tgt := 122) hx hb ⟨(by omega), (by omega)⟩ ⟨(by omega), (by omega)⟩ dX12_pivot_88 (by decide) (fun c_136 => ?_) (fun c_136 => ?_)
                    · refine lv_iload hx hb dX12_pivot_122 (lv_at hl 2 rfl) ?_
                      refine lv_iload_n hx hb dX12_pivot_124 rfl (lv_at hl 6 rfl) ?_
                      refine lv_iconst (v := iv 1) hx hb dX12_pivot_125 (by decide) ?_
                      refine r_iadd hx hb dX12_pivot_126 ?_
                      refine r_icmp_ne (tgt := 162) hx hb ⟨(by omega), (by omega)⟩ ⟨(by omega), (by omega)⟩ dX12_pivot_127 (by decide) (fun c_137 => ?_) (fun c_137 => ?_)
                      · refine lv_iload hx hb dX12_pivot_162 (lv_at hl 1 rfl) ?_
                        refine lv_iload_n hx hb dX12_pivot_164 rfl (lv_at hl 7 rfl) ?_
                        refine r_icmp_ne (tgt := 200) hx hb ⟨(by omega), (by omega)⟩ ⟨(by omega), (by omega)⟩ dX12_pivot_165 (by decide) (fun c_138 => ?_) (fun c_138 => ?_)
                        · refine lv_aload_n hx hb dX12_pivot_200 rfl (lv_at hl 5 rfl) ?_
                          refine lv_iload hx hb dX12_pivot_201 (lv_at hl 2 rfl) ?_
                          refine lv_iload hx hb dX12_pivot_203 (lv_at hl 1 rfl) ?_
                          refine lv_iload_n hx hb dX12_pivot_205 rfl (lv_at hl 6 rfl) ?_
                          refine lv_iload_n hx hb dX12_pivot_206 rfl (lv_at hl 7 rfl) ?_
                          refine lv_iload_n hx hb dX12_pivot_207 rfl (lv_at hl 4 rfl) ?_
                          refine lv_iload hx hb dX12_pivot_208 (lv_at hl 0 rfl) ?_
                          refine lv_iload hx hb dX12_pivot_210 (lv_at hl 3 rfl) ?_
                          refine sBi (sV (As := [.int (iv i), .int (iv j), .int (iv rr), .int (iv ss), .int (iv pp), .int (iv q), .int (iv tn)]) (rest := []) (k := 231) Cx (s_X12_across l G S58 (ii := i) (jj := j) (rr := rr) (ss := ss) (pp := pp) (qq := q) (tn := tn) hI58 (by omega) (by omega) (by omega) (by omega) (by rw [show S58.2.1 262 = S.2.1 262 from (funext fun j => ((hL58_ 262 rfl).2.1 j).trans ((hL28_ 262 rfl).2.1 j) : S58.2.1 262 = S.2.1 262)]; exact (hD.at (i := i) (j := j) (by omega) (by omega) (by omega) (by omega))) (by rw [show S58.2.1 262 = S.2.1 262 from (funext fun j => ((hL58_ 262 rfl).2.1 j).trans ((hL28_ 262 rfl).2.1 j) : S58.2.1 262 = S.2.1 262)]; exact (hD.at (i := rr + 1) (j := ss) (by omega) (by omega) (by omega) (by omega))) (by rw [show S58.2.1 262 = S.2.1 262 from (funext fun j => ((hL58_ 262 rfl).2.1 j).trans ((hL28_ 262 rfl).2.1 j) : S58.2.1 262 = S.2.1 262)]; exact (hD.at (i := i) (j := ss) (by omega) (by omega) (by omega) (by omega))) (by rw [show S58.2.1 262 = S.2.1 262 from (funext fun j => ((hL58_ 262 rfl).2.1 j).trans ((hL28_ 262 rfl).2.1 j) : S58.2.1 262 = S.2.1 262)]; exact (hD.at (i := rr + 1) (j := j) (by omega) (by omega) (by omega) (by omega))) (by rw [show S58.2.1 264 = S.2.1 264 from (funext fun j => ((hL58_ 264 rfl).2.1 j).trans ((hL28_ 264 rfl).2.1 j) : S58.2.1 264 = S.2.1 264)]; exact hD.2.2.1) (by rw [show S58.2.1 264 = S.2.1 264 from (funext fun j => ((hL58_ 264 rfl).2.1 j).trans ((hL28_ 264 rfl).2.1 j) : S58.2.1 264 = S.2.1 264)]; exact hD.2.2.2)) (c_X12_544 Cx rfl rfl (rmk_ok (by omega) (by decide))) hW (by decide) rfl rfl rfl hl.1 rfl (Nat.le_of_ble_eq_true rfl) dX12_pivot_212 ⟨Nat.le_of_ble_eq_true rfl, Nat.le_of_ble_eq_true rfl⟩) hL (fun r_141 u_139 H locs k_140 hW hL => ?_)
                          obtain ⟨iu_139, fu_139, gu_139, xu_139⟩ := k_140
                          have F_142 := hFm58.trans (fu_139.to (pl_sub (by decide)))
                          have F_143 := hFL2858.trans fu_139
                          have F_144 := hFL22658.trans fu_139
                          have F_145 := hL58_.trans fu_139
                          have F_146 := (Fr.rf : Fr S58 S58 (pl [233, 234, 235, 237, 238, 239, 240, 263])).trans fu_139
                          have g_147 : FF S u_139 (fl []) := FF.trans hGm58 (FF.to gu_139 (fl_sub (by decide)))
                          have g_148 : FF S u_139 (fl []) := FF.trans hGL2858 (FF.to gu_139 (fl_sub (by decide)))
                          have g_149 : FF S28 u_139 (fl []) := FF.trans hGL22658 (FF.to gu_139 (fl_sub (by decide)))
                          have g_150 : FF S28 u_139 (fl []) := FF.trans gL58_ (FF.to gu_139 (fl_sub (by decide)))
                          have g_151 : FF S58 u_139 (fl []) := FF.trans (FF.rf : FF S58 S58 (fl [])) (FF.to gu_139 (fl_sub (by decide)))
                          refine r_if_ne (tgt := 220) hx hb ⟨(by omega), (by omega)⟩ dX12_pivot_215 (by decide) (fun c_152 => ?_) (fun c_152 => ?_)
                          · exact join_220 u_139  _ _ _ iu_139 F_142 F_143 F_144 F_145 F_146 g_147 g_148 g_149 g_150 g_151 (FO.step hF (by omega) (by omega) (fun x a => xu_139.2.2 x (by rw [show cl i j = q by unfold cl; omega] at a; exact a)) (by rw [show cl i j = q by unfold cl; omega]; exact (xu_139.2.1 (by omega)).1) (PC.d (by omega) (by omega) (by have e := (xu_139.2.1 (by omega)).2; rw [eD58, eN58] at e; obtain ⟨Q, R, h1, h2, h3, h4⟩ := e; refine ⟨Q, R, (by rw [show cl i j = q by unfold cl; omega]; exact h1), ?_, h3, h4⟩; unfold TV; rw [show cl i j = q by unfold cl; omega, show cl (rr + 1) ss = pp by unfold cl; omega]; exact h2))) hW hL (lv_sub hl [0, 1, 2, 3, 4, 5, 6, 7] rfl)
                          · refine lv_iconst (v := iv 0) hx hb dX12_pivot_218 (by decide) ?_
                            exact sZret Cx hr hlk hW hL (by omega) ⟨iu_139, F_142, g_147, ⟨(by omega), hD.same (g_147 58 rfl) (g_147 59 rfl) (g_147 60 rfl) (funext fun j => ((fu_139 262 rfl).2.1 j).trans (((hL58_ 262 rfl).2.1 j).trans ((hL28_ 262 rfl).2.1 j)) : u_139.2.1 262 = S.2.1 262) (funext fun j => ((fu_139 264 rfl).2.1 j).trans (((hL58_ 264 rfl).2.1 j).trans ((hL28_ 264 rfl).2.1 j)) : u_139.2.1 264 = S.2.1 264), (fun q => absurd q (by omega)), (fun _ => ⟨(funext fun j => ((fu_139 265 rfl).2.1 j).trans (((hL58_ 265 rfl).2.1 j).trans ((hL28_ 265 rfl).2.1 j)) : u_139.2.1 265 = S.2.1 265), (funext fun j => ((fu_139 266 rfl).2.1 j).trans (((hL58_ 266 rfl).2.1 j).trans ((hL28_ 266 rfl).2.1 j)) : u_139.2.1 266 = S.2.1 266)⟩)⟩⟩ dX12_pivot_219
                        · refine lv_aload_n hx hb dX12_pivot_168 rfl (lv_at hl 5 rfl) ?_
                          refine g_X12_103 Cx hW (k := 231) (by decide) rfl (v := .ref (G.2.2.1 + 262)) (rd_53 hI58) dX12_pivot_169 ?_
                          refine lv_iload hx hb dX12_pivot_172 (lv_at hl 0 rfl) ?_
                          refine lv_aload_n hx hb dX12_pivot_174 rfl (lv_at hl 5 rfl) ?_
                          refine g_X12_106 Cx hW (k := 231) (by decide) rfl (v := .ref (G.2.2.1 + 263)) (rd_54 hI58) dX12_pivot_175 ?_
                          refine lv_iload hx hb dX12_pivot_178 (lv_at hl 0 rfl) ?_
                          refine sBv (sSt (As := [.ref (G.2.2.1 + 262), .int (iv q), .ref (G.2.2.1 + 263), .int (iv q)]) (rest := []) Cx (s_X12_copy l G S58 (ka := 262) (po := q) (kb := 263) (qo := q) (Nka := 5280) (Nkb := 5280) (La := 6) hI58 ⟨rfl, by decide, by decide, by decide, rfl⟩ ⟨rfl, by decide, by decide, by decide, rfl⟩ (show (263 : Nat) ≠ 262 by decide) (by omega) (by rw [show S58.2.1 262 = S.2.1 262 from (funext fun j => ((hL58_ 262 rfl).2.1 j).trans ((hL28_ 262 rfl).2.1 j) : S58.2.1 262 = S.2.1 262)]; exact (hD.at (i := i) (j := j) (by omega) (by omega) (by omega) (by omega)))) (c_X12_233 Cx rfl rfl (rmk_ok (by omega) (by decide))) hW rfl hl.1 rfl (Nat.le_of_ble_eq_true rfl) dX12_pivot_180 ⟨Nat.le_of_ble_eq_true rfl, Nat.le_of_ble_eq_true rfl⟩) hL (fun u_153 H locs k_154 hW hL => ?_)
                          obtain ⟨iu_153, fu_153, xu_153⟩ := k_154
                          have F_155 := hFm58.trans (fu_153.to (p1_sub rfl))
                          have F_156 := hFL2858.trans (fu_153.to (p1_sub rfl))
                          have F_157 := hFL22658.trans (fu_153.to (p1_sub rfl))
                          have F_158 := hL58_.trans (fu_153.to (p1_sub rfl))
                          have F_159 := (Fr.rf : Fr S58 S58 (pl [233, 234, 235, 237, 238, 239, 240, 263])).trans (fu_153.to (p1_sub rfl))
                          have g_160 : FF S u_153 (fl []) := FF.fr hGm58 fu_153 rfl
                          have g_161 : FF S u_153 (fl []) := FF.fr hGL2858 fu_153 rfl
                          have g_162 : FF S28 u_153 (fl []) := FF.fr hGL22658 fu_153 rfl
                          have g_163 : FF S28 u_153 (fl []) := FF.fr gL58_ fu_153 rfl
                          have g_164 : FF S58 u_153 (fl []) := FF.fr (FF.rf : FF S58 S58 (fl [])) fu_153 rfl
                          refine lv_iload hx hb dX12_pivot_183 (lv_at hl 3 rfl) ?_
                          refine r_if_ne (tgt := 220) hx hb ⟨(by omega), (by omega)⟩ dX12_pivot_185 (by decide) (fun c_165 => ?_) (fun c_165 => ?_)
                          · exact join_220 u_153  _ _ _ iu_153 F_155 F_156 F_157 F_158 F_159 g_160 g_161 g_162 g_163 g_164 (FO.step hF (by omega) (by omega) (fun x a => by rw [show cl i j = q by unfold cl; omega] at a; exact xu_153.2 x a) (by rw [show cl i j = q by unfold cl; omega]; exact xu_153.1.1) (PC.c (by omega) (by omega) (by have k0 : nv (u_153.2.1 263) q = TV S i j := (by rw [xu_153.1.2.1, eD58]; unfold TV; rw [show cl i j = q by unfold cl; omega]); rw [show cl i j = q by unfold cl; omega, k0, show tn = 1 by omega, asn_1]; omega))) hW hL (lv_sub hl [0, 1, 2, 3, 4, 5, 6, 7] rfl)
                          · refine lv_aload_n hx hb dX12_pivot_188 rfl (lv_at hl 5 rfl) ?_
                            refine g_X12_106 Cx hW (k := 231) (by decide) rfl (v := .ref (G.2.2.1 + 263)) (rd_54 iu_153) dX12_pivot_189 ?_
                            refine lv_iload hx hb dX12_pivot_192 (lv_at hl 0 rfl) ?_
                            refine sBv (sSt (As := [.ref (G.2.2.1 + 263), .int (iv q)]) (rest := []) Cx (s_X12_negate l G u_153 (ka := 263) (po := q) (Nka := 5280) (La := 6) iu_153 ⟨rfl, by decide, by decide, by decide, rfl⟩ (by omega) xu_153.1.1) (c_X12_540 Cx rfl rfl (rmk_ok (by omega) (by decide))) hW rfl hl.1 rfl (Nat.le_of_ble_eq_true rfl) dX12_pivot_194 ⟨Nat.le_of_ble_eq_true rfl, Nat.le_of_ble_eq_true rfl⟩) hL (fun u_166 H locs k_167 hW hL => ?_)
                            obtain ⟨iu_166, fu_166, xu_166⟩ := k_167
                            have F_168 := F_155.trans (fu_166.to (p1_sub rfl))
                            have F_169 := F_156.trans (fu_166.to (p1_sub rfl))
                            have F_170 := F_157.trans (fu_166.to (p1_sub rfl))
                            have F_171 := F_158.trans (fu_166.to (p1_sub rfl))
                            have F_172 := F_159.trans (fu_166.to (p1_sub rfl))
                            have g_173 : FF S u_166 (fl []) := FF.fr g_160 fu_166 rfl
                            have g_174 : FF S u_166 (fl []) := FF.fr g_161 fu_166 rfl
                            have g_175 : FF S28 u_166 (fl []) := FF.fr g_162 fu_166 rfl
                            have g_176 : FF S28 u_166 (fl []) := FF.fr g_163 fu_166 rfl
                            have g_177 : FF S58 u_166 (fl []) := FF.fr g_164 fu_166 rfl
                            refine lv_goto (tgt := 220) hx hb dX12_pivot_197 (by decide) ?_
                            exact join_220 u_166  _ _ _ iu_166 F_168 F_169 F_170 F_171 F_172 g_173 g_174 g_175 g_176 g_177 (FO.step hF (by omega) (by omega) (fun x a => by rw [show cl i j = q by unfold cl; omega] at a; rw [xu_166.2.2, uA_ne (fun z => by have := z.2; omega)]; exact xu_153.2 x a) (by rw [show cl i j = q by unfold cl; omega]; exact xu_166.1) (PC.c (by omega) (by omega) (by have k0 : nv (u_153.2.1 263) q = TV S i j := (by rw [xu_153.1.2.1, eD58]; unfold TV; rw [show cl i j = q by unfold cl; omega]); rw [show cl i j = q by unfold cl; omega, xu_166.2.1, k0, show tn = 0 by omega, asn_0]))) hW hL (lv_sub hl [0, 1, 2, 3, 4, 5, 6, 7] rfl)
                      · refine lv_aload_n hx hb dX12_pivot_130 rfl (lv_at hl 5 rfl) ?_
                        refine g_X12_103 Cx hW (k := 231) (by decide) rfl (v := .ref (G.2.2.1 + 262)) (rd_53 hI58) dX12_pivot_131 ?_
                        refine lv_iload hx hb dX12_pivot_134 (lv_at hl 0 rfl) ?_
                        refine lv_aload_n hx hb dX12_pivot_136 rfl (lv_at hl 5 rfl) ?_
                        refine g_X12_106 Cx hW (k := 231) (by decide) rfl (v := .ref (G.2.2.1 + 263)) (rd_54 hI58) dX12_pivot_137 ?_
                        refine lv_iload hx hb dX12_pivot_140 (lv_at hl 0 rfl) ?_
                        refine sBv (sSt (As := [.ref (G.2.2.1 + 262), .int (iv q), .ref (G.2.2.1 + 263), .int (iv q)]) (rest := []) Cx (s_X12_copy l G S58 (ka := 262) (po := q) (kb := 263) (qo := q) (Nka := 5280) (Nkb := 5280) (La := 6) hI58 ⟨rfl, by decide, by decide, by decide, rfl⟩ ⟨rfl, by decide, by decide, by decide, rfl⟩ (show (263 : Nat) ≠ 262 by decide) (by omega) (by rw [show S58.2.1 262 = S.2.1 262 from (funext fun j => ((hL58_ 262 rfl).2.1 j).trans ((hL28_ 262 rfl).2.1 j) : S58.2.1 262 = S.2.1 262)]; exact (hD.at (i := i) (j := j) (by omega) (by omega) (by omega) (by omega)))) (c_X12_233 Cx rfl rfl (rmk_ok (by omega) (by decide))) hW rfl hl.1 rfl (Nat.le_of_ble_eq_true rfl) dX12_pivot_142 ⟨Nat.le_of_ble_eq_true rfl, Nat.le_of_ble_eq_true rfl⟩) hL (fun u_178 H locs k_179 hW hL => ?_)
                        obtain ⟨iu_178, fu_178, xu_178⟩ := k_179
                        have F_180 := hFm58.trans (fu_178.to (p1_sub rfl))
                        have F_181 := hFL2858.trans (fu_178.to (p1_sub rfl))
                        have F_182 := hFL22658.trans (fu_178.to (p1_sub rfl))
                        have F_183 := hL58_.trans (fu_178.to (p1_sub rfl))
                        have F_184 := (Fr.rf : Fr S58 S58 (pl [233, 234, 235, 237, 238, 239, 240, 263])).trans (fu_178.to (p1_sub rfl))
                        have g_185 : FF S u_178 (fl []) := FF.fr hGm58 fu_178 rfl
                        have g_186 : FF S u_178 (fl []) := FF.fr hGL2858 fu_178 rfl
                        have g_187 : FF S28 u_178 (fl []) := FF.fr hGL22658 fu_178 rfl
                        have g_188 : FF S28 u_178 (fl []) := FF.fr gL58_ fu_178 rfl
                        have g_189 : FF S58 u_178 (fl []) := FF.fr (FF.rf : FF S58 S58 (fl [])) fu_178 rfl
                        refine lv_iload hx hb dX12_pivot_145 (lv_at hl 3 rfl) ?_
                        refine r_if_eq (tgt := 220) hx hb ⟨(by omega), (by omega)⟩ dX12_pivot_147 (by decide) (fun c_190 => ?_) (fun c_190 => ?_)
                        · exact join_220 u_178  _ _ _ iu_178 F_180 F_181 F_182 F_183 F_184 g_185 g_186 g_187 g_188 g_189 (FO.step hF (by omega) (by omega) (fun x a => by rw [show cl i j = q by unfold cl; omega] at a; exact xu_178.2 x a) (by rw [show cl i j = q by unfold cl; omega]; exact xu_178.1.1) (PC.b (by omega) (by omega) (by have k0 : nv (u_178.2.1 263) q = TV S i j := (by rw [xu_178.1.2.1, eD58]; unfold TV; rw [show cl i j = q by unfold cl; omega]); rw [show cl i j = q by unfold cl; omega, k0, show tn = 0 by omega, asn_0]))) hW hL (lv_sub hl [0, 1, 2, 3, 4, 5, 6, 7] rfl)
                        · refine lv_aload_n hx hb dX12_pivot_150 rfl (lv_at hl 5 rfl) ?_
                          refine g_X12_106 Cx hW (k := 231) (by decide) rfl (v := .ref (G.2.2.1 + 263)) (rd_54 iu_178) dX12_pivot_151 ?_
                          refine lv_iload hx hb dX12_pivot_154 (lv_at hl 0 rfl) ?_
                          refine sBv (sSt (As := [.ref (G.2.2.1 + 263), .int (iv q)]) (rest := []) Cx (s_X12_negate l G u_178 (ka := 263) (po := q) (Nka := 5280) (La := 6) iu_178 ⟨rfl, by decide, by decide, by decide, rfl⟩ (by omega) xu_178.1.1) (c_X12_540 Cx rfl rfl (rmk_ok (by omega) (by decide))) hW rfl hl.1 rfl (Nat.le_of_ble_eq_true rfl) dX12_pivot_156 ⟨Nat.le_of_ble_eq_true rfl, Nat.le_of_ble_eq_true rfl⟩) hL (fun u_191 H locs k_192 hW hL => ?_)
                          obtain ⟨iu_191, fu_191, xu_191⟩ := k_192
                          have F_193 := F_180.trans (fu_191.to (p1_sub rfl))
                          have F_194 := F_181.trans (fu_191.to (p1_sub rfl))
                          have F_195 := F_182.trans (fu_191.to (p1_sub rfl))
                          have F_196 := F_183.trans (fu_191.to (p1_sub rfl))
                          have F_197 := F_184.trans (fu_191.to (p1_sub rfl))
                          have g_198 : FF S u_191 (fl []) := FF.fr g_185 fu_191 rfl
                          have g_199 : FF S u_191 (fl []) := FF.fr g_186 fu_191 rfl
                          have g_200 : FF S28 u_191 (fl []) := FF.fr g_187 fu_191 rfl
                          have g_201 : FF S28 u_191 (fl []) := FF.fr g_188 fu_191 rfl
                          have g_202 : FF S58 u_191 (fl []) := FF.fr g_189 fu_191 rfl
                          refine lv_goto (tgt := 220) hx hb dX12_pivot_159 (by decide) ?_
                          exact join_220 u_191  _ _ _ iu_191 F_193 F_194 F_195 F_196 F_197 g_198 g_199 g_200 g_201 g_202 (FO.step hF (by omega) (by omega) (fun x a => by rw [show cl i j = q by unfold cl; omega] at a; rw [xu_191.2.2, uA_ne (fun z => by have := z.2; omega)]; exact xu_178.2 x a) (by rw [show cl i j = q by unfold cl; omega]; exact xu_191.1) (PC.b (by omega) (by omega) (by have k0 : nv (u_178.2.1 263) q = TV S i j := (by rw [xu_178.1.2.1, eD58]; unfold TV; rw [show cl i j = q by unfold cl; omega]); rw [show cl i j = q by unfold cl; omega, xu_191.2.1, k0, show tn = 1 by omega, asn_1]))) hW hL (lv_sub hl [0, 1, 2, 3, 4, 5, 6, 7] rfl)
                    · refine lv_aload_n hx hb dX12_pivot_91 rfl (lv_at hl 5 rfl) ?_
                      refine g_X12_109 Cx hW (k := 231) (by decide) rfl (v := .ref (G.2.2.1 + 264)) (rd_55 hI58) dX12_pivot_92 ?_
                      refine lv_iconst (v := iv 0) hx hb dX12_pivot_95 (by decide) ?_
                      refine lv_aload_n hx hb dX12_pivot_96 rfl (lv_at hl 5 rfl) ?_
                      refine g_X12_106 Cx hW (k := 231) (by decide) rfl (v := .ref (G.2.2.1 + 263)) (rd_54 hI58) dX12_pivot_97 ?_
                      refine lv_iload hx hb dX12_pivot_100 (lv_at hl 0 rfl) ?_
                      refine sBv (sSt (As := [.ref (G.2.2.1 + 264), .int (iv 0), .ref (G.2.2.1 + 263), .int (iv q)]) (rest := []) Cx (s_X12_copy l G S58 (ka := 264) (po := 0) (kb := 263) (qo := q) (Nka := 8) (Nkb := 5280) (La := 6) hI58 ⟨rfl, by decide, by decide, by decide, rfl⟩ ⟨rfl, by decide, by decide, by decide, rfl⟩ (show (263 : Nat) ≠ 264 by decide) (by omega) (by rw [show S58.2.1 264 = S.2.1 264 from (funext fun j => ((hL58_ 264 rfl).2.1 j).trans ((hL28_ 264 rfl).2.1 j) : S58.2.1 264 = S.2.1 264)]; exact hD.2.2.1)) (c_X12_233 Cx rfl rfl (rmk_ok (by omega) (by decide))) hW rfl hl.1 rfl (Nat.le_of_ble_eq_true rfl) dX12_pivot_102 ⟨Nat.le_of_ble_eq_true rfl, Nat.le_of_ble_eq_true rfl⟩) hL (fun u_203 H locs k_204 hW hL => ?_)
                      obtain ⟨iu_203, fu_203, xu_203⟩ := k_204
                      have F_205 := hFm58.trans (fu_203.to (p1_sub rfl))
                      have F_206 := hFL2858.trans (fu_203.to (p1_sub rfl))
                      have F_207 := hFL22658.trans (fu_203.to (p1_sub rfl))
                      have F_208 := hL58_.trans (fu_203.to (p1_sub rfl))
                      have F_209 := (Fr.rf : Fr S58 S58 (pl [233, 234, 235, 237, 238, 239, 240, 263])).trans (fu_203.to (p1_sub rfl))
                      have g_210 : FF S u_203 (fl []) := FF.fr hGm58 fu_203 rfl
                      have g_211 : FF S u_203 (fl []) := FF.fr hGL2858 fu_203 rfl
                      have g_212 : FF S28 u_203 (fl []) := FF.fr hGL22658 fu_203 rfl
                      have g_213 : FF S28 u_203 (fl []) := FF.fr gL58_ fu_203 rfl
                      have g_214 : FF S58 u_203 (fl []) := FF.fr (FF.rf : FF S58 S58 (fl [])) fu_203 rfl
                      refine lv_iload hx hb dX12_pivot_105 (lv_at hl 3 rfl) ?_
                      refine r_if_eq (tgt := 220) hx hb ⟨(by omega), (by omega)⟩ dX12_pivot_107 (by decide) (fun c_215 => ?_) (fun c_215 => ?_)
                      · exact join_220 u_203  _ _ _ iu_203 F_205 F_206 F_207 F_208 F_209 g_210 g_211 g_212 g_213 g_214 (FO.step hF (by omega) (by omega) (fun x a => by rw [show cl i j = q by unfold cl; omega] at a; exact xu_203.2 x a) (by rw [show cl i j = q by unfold cl; omega]; exact xu_203.1.1) (PC.a (by omega) (by omega) (by have k0 : nv (u_203.2.1 263) q = nv (S.2.1 264) 0 := (by rw [xu_203.1.2.1, eN58]); rw [show cl i j = q by unfold cl; omega, k0, show tn = 0 by omega, asn_0]))) hW hL (lv_sub hl [0, 1, 2, 3, 4, 5, 6, 7] rfl)
                      · refine lv_aload_n hx hb dX12_pivot_110 rfl (lv_at hl 5 rfl) ?_
                        refine g_X12_106 Cx hW (k := 231) (by decide) rfl (v := .ref (G.2.2.1 + 263)) (rd_54 iu_203) dX12_pivot_111 ?_
                        refine lv_iload hx hb dX12_pivot_114 (lv_at hl 0 rfl) ?_
                        refine sBv (sSt (As := [.ref (G.2.2.1 + 263), .int (iv q)]) (rest := []) Cx (s_X12_negate l G u_203 (ka := 263) (po := q) (Nka := 5280) (La := 6) iu_203 ⟨rfl, by decide, by decide, by decide, rfl⟩ (by omega) xu_203.1.1) (c_X12_540 Cx rfl rfl (rmk_ok (by omega) (by decide))) hW rfl hl.1 rfl (Nat.le_of_ble_eq_true rfl) dX12_pivot_116 ⟨Nat.le_of_ble_eq_true rfl, Nat.le_of_ble_eq_true rfl⟩) hL (fun u_216 H locs k_217 hW hL => ?_)
                        obtain ⟨iu_216, fu_216, xu_216⟩ := k_217
                        have F_218 := F_205.trans (fu_216.to (p1_sub rfl))
                        have F_219 := F_206.trans (fu_216.to (p1_sub rfl))
                        have F_220 := F_207.trans (fu_216.to (p1_sub rfl))
                        have F_221 := F_208.trans (fu_216.to (p1_sub rfl))
                        have F_222 := F_209.trans (fu_216.to (p1_sub rfl))
                        have g_223 : FF S u_216 (fl []) := FF.fr g_210 fu_216 rfl
                        have g_224 : FF S u_216 (fl []) := FF.fr g_211 fu_216 rfl
                        have g_225 : FF S28 u_216 (fl []) := FF.fr g_212 fu_216 rfl
                        have g_226 : FF S28 u_216 (fl []) := FF.fr g_213 fu_216 rfl
                        have g_227 : FF S58 u_216 (fl []) := FF.fr g_214 fu_216 rfl
                        refine lv_goto (tgt := 220) hx hb dX12_pivot_119 (by decide) ?_
                        exact join_220 u_216  _ _ _ iu_216 F_218 F_219 F_220 F_221 F_222 g_223 g_224 g_225 g_226 g_227 (FO.step hF (by omega) (by omega) (fun x a => by rw [show cl i j = q by unfold cl; omega] at a; rw [xu_216.2.2, uA_ne (fun z => by have := z.2; omega)]; exact xu_203.2 x a) (by rw [show cl i j = q by unfold cl; omega]; exact xu_216.1) (PC.a (by omega) (by omega) (by have k0 : nv (u_203.2.1 263) q = nv (S.2.1 264) 0 := (by rw [xu_203.1.2.1, eN58]); rw [show cl i j = q by unfold cl; omega, xu_216.2.1, k0, show tn = 1 by omega, asn_1]))) hW hL (lv_sub hl [0, 1, 2, 3, 4, 5, 6, 7] rfl)
            exact loop_58 (_ + 1) S28 0 _ _ _ (Nat.lt_succ_self _) hI28 hFm28 hL28_ (Fr.rf : Fr S28 S28 (pl [233, 234, 235, 237, 238, 239, 240, 263])) Fr.rf hGm28 gL28_ (FF.rf : FF S28 S28 (fl [])) FF.rf (by omega) hFo hW hL (lv_sub hl [0, 1, 2, 3, 4, 5, 6] rfl)
          · refine lv_aload_n hx hb dX12_pivot_45 rfl (lv_at hl 3 rfl) ?_
            have q_228 : 0 ≤ S.1 231 60 ∧ S.1 231 60 ≤ 1 := hI.fi 60
            refine g_X12_535 Cx hW (k := 231) (by decide) rfl (v := S.1 231 60) (gL28_ 60 rfl) dX12_pivot_46 ?_
            refine r_if_ne (tgt := 55) hx hb ⟨(by omega), (by omega)⟩ dX12_pivot_49 (by decide) (fun c_229 => ?_) (fun c_229 => ?_)
            · refine lv_iconst (v := iv 0) hx hb dX12_pivot_55 (by decide) ?_
              refine lv_istore (lv' := [(6, .int (iv 0)), (5, .int (iv i)), (4, .int (iv tn)), (3, .int (iv pp)), (0, .ref (G.2.2.1 + 231)), (1, .int (iv rr)), (2, .int (iv ss))]) hx hb dX12_pivot_56 hl (by decide) rfl (fun ls hl => ?_)
              have loop_58 : ∀ (fuel : Nat) (S58 : sS) (j : Int) (H : Heap) (locs : List Loc) (ls : Array Slot), (S.1 231 59 + 1 - j).toNat < fuel → (dX G S58) → (Fr S S58 (pl [233, 234, 235, 237, 238, 239, 240, 262, 263, 264, 265, 266])) → (Fr S S58 (pl [233, 234, 235, 237, 238, 239, 240, 263])) → (Fr S28 S58 (pl [233, 234, 235, 237, 238, 239, 240, 263])) → (Fr S28 S58 (pl [233, 234, 235, 237, 238, 239, 240, 263])) → (FF S S58 (fl [])) → (FF S S58 (fl [])) → (FF S28 S58 (fl [])) → (FF S28 S58 (fl [])) → (0 ≤ j ∧ j ≤ S.1 231 59 + 1) → (FO S (S58.2.1 263) rr ss tn i j) → sW G 294 S58 H → sL G locs → lv_has ls 8 [(6, .int (iv j)), (5, .int (iv i)), (4, .int (iv tn)), (3, .int (iv pp)), (0, .ref (G.2.2.1 + 231)), (1, .int (iv rr)), (2, .int (iv ss))] → W p l e (rmk 7 0 0) s m args below meth c H locs 0 0 (MQ below (sQi G 294 (fun r u => dX G u ∧ Fr S u (pl [233, 234, 235, 237, 238, 239, 240, 262, 263, 264, 265, 266]) ∧ FF S u (fl []) ∧ ((0 ≤ r ∧ r ≤ 1) ∧ DOK u ∧ Hd (r = 1 → ∃ tn : Int, (0 ≤ tn ∧ tn ≤ 1) ∧ ((tn = 1 → TV S (rr + 1) ss < 0) ∧ (tn = 0 → 0 < TV S (rr + 1) ss)) ∧ PV S u rr ss tn) ∧ Hd (r = 0 → u.2.1 265 = S.2.1 265 ∧ u.2.1 266 = S.2.1 266)))) args s 0 0 (sF G)) (F0 m 58 ls []) := by
                intro fuel
                induction fuel with
                | zero => intro S58 j H locs ls hmeas hI58 hFm58 hFL2858 hFL22658 hL58_ hGm58 hGL2858 hGL22658 gL58_ hj hF hW hL hl; exact absurd hmeas (Nat.not_lt_zero _)
                | succ fuel ih_58 =>
                  intro S58 j H locs ls hmeas hI58 hFm58 hFL2858 hFL22658 hL58_ hGm58 hGL2858 hGL22658 gL58_ hj hF hW hL hl
                  have eD58 : S58.2.1 262 = S.2.1 262 := (funext fun j => ((hL58_ 262 rfl).2.1 j).trans ((hL28_ 262 rfl).2.1 j) : S58.2.1 262 = S.2.1 262)
                  have eN58 : S58.2.1 264 = S.2.1 264 := (funext fun j => ((hL58_ 264 rfl).2.1 j).trans ((hL28_ 264 rfl).2.1 j) : S58.2.1 264 = S.2.1 264)
                  refine lv_iload hx hb dX12_pivot_58 (lv_at hl 0 rfl) ?_
                  refine lv_aload_n hx hb dX12_pivot_60 rfl (lv_at hl 4 rfl) ?_
                  have q_230 : (-2147483648) ≤ S.1 231 59 ∧ S.1 231 59 ≤ 2147483647 := hI.fi 59
                  refine g_X12_526 Cx hW (k := 231) (by decide) rfl (v := S.1 231 59) ((gL58_ 59 rfl).trans (gL28_ 59 rfl)) dX12_pivot_61 ?_
                  refine r_icmp_gt (tgt := 226) hx hb ⟨(by omega), (by omega)⟩ ⟨(by omega), (by omega)⟩ dX12_pivot_64 (by decide) (fun c_231 => ?_) (fun c_231 => ?_)
                  · exact join_226 S58  _ _ _ hI58 hFm58 hFL2858 hFL22658 hGm58 hGL2858 hGL22658 (by have e := hF; rw [show j = S.1 231 59 + 1 by omega] at e; exact e.row) hW hL (lv_sub hl [1, 2, 3, 4, 5, 6] rfl)
                  · refine lv_aload_n hx hb dX12_pivot_67 rfl (lv_at hl 4 rfl) ?_
                    refine lv_iload hx hb dX12_pivot_68 (lv_at hl 1 rfl) ?_
                    refine lv_iload hx hb dX12_pivot_70 (lv_at hl 0 rfl) ?_
                    refine sBi (sV (As := [.int (iv i), .int (iv j)]) (rest := []) (k := 231) Cx (s_X12_cell l G S58 (i := i) (j := j) (by omega) (by omega)) (c_X12_529 Cx rfl rfl (rmk_ok (by omega) (by decide))) hW (by decide) rfl rfl rfl hl.1 rfl (Nat.le_of_ble_eq_true rfl) dX12_pivot_72 ⟨Nat.le_of_ble_eq_true rfl, Nat.le_of_ble_eq_true rfl⟩) hL (fun q u_232 H locs k_233 hW hL => ?_)
                    obtain ⟨eu_232, xu_232⟩ := k_233
                    rw [eu_232] at hW
                    refine lv_istore (lv' := [(7, .int (iv q)), (6, .int (iv j)), (5, .int (iv i)), (4, .int (iv tn)), (3, .int (iv pp)), (0, .ref (G.2.2.1 + 231)), (1, .int (iv rr)), (2, .int (iv ss))]) hx hb dX12_pivot_75 hl (by decide) rfl (fun ls hl => ?_)
                    have join_220 : ∀ (S220 : sS)  (H : Heap) (locs : List Loc) (ls : Array Slot), (dX G S220) → (Fr S S220 (pl [233, 234, 235, 237, 238, 239, 240, 262, 263, 264, 265, 266])) → (Fr S S220 (pl [233, 234, 235, 237, 238, 239, 240, 263])) → (Fr S28 S220 (pl [233, 234, 235, 237, 238, 239, 240, 263])) → (Fr S28 S220 (pl [233, 234, 235, 237, 238, 239, 240, 263])) → (Fr S58 S220 (pl [233, 234, 235, 237, 238, 239, 240, 263])) → (FF S S220 (fl [])) → (FF S S220 (fl [])) → (FF S28 S220 (fl [])) → (FF S28 S220 (fl [])) → (FF S58 S220 (fl [])) → (FO S (S220.2.1 263) rr ss tn i (j + 1)) → sW G 294 S220 H → sL G locs → lv_has ls 8 [(7, .int (iv q)), (6, .int (iv j)), (5, .int (iv i)), (4, .int (iv tn)), (3, .int (iv pp)), (0, .ref (G.2.2.1 + 231)), (1, .int (iv rr)), (2, .int (iv ss))] → W p l e (rmk 7 0 0) s m args below meth c H locs 0 0 (MQ below (sQi G 294 (fun r u => dX G u ∧ Fr S u (pl [233, 234, 235, 237, 238, 239, 240, 262, 263, 264, 265, 266]) ∧ FF S u (fl []) ∧ ((0 ≤ r ∧ r ≤ 1) ∧ DOK u ∧ Hd (r = 1 → ∃ tn : Int, (0 ≤ tn ∧ tn ≤ 1) ∧ ((tn = 1 → TV S (rr + 1) ss < 0) ∧ (tn = 0 → 0 < TV S (rr + 1) ss)) ∧ PV S u rr ss tn) ∧ Hd (r = 0 → u.2.1 265 = S.2.1 265 ∧ u.2.1 266 = S.2.1 266)))) args s 0 0 (sF G)) (F0 m 220 ls []) := by
                      intro S220  H locs ls hI220 hFm220 hFL28220 hFL226220 hFL58220 hL220_ hGm220 hGL28220 hGL226220 hGL58220 gL220_ hF220 hW hL hl
                      refine lv_iinc (v := iv (j + 1)) (lv' := [(6, .int (iv (j + 1))), (7, .int (iv q)), (5, .int (iv i)), (4, .int (iv tn)), (3, .int (iv pp)), (0, .ref (G.2.2.1 + 231)), (1, .int (iv rr)), (2, .int (iv ss))]) hx hb dX12_pivot_220 hl (k := 1) rfl ((Int32.ofInt_add _ _).symm) (by decide) rfl (fun ls hl => ?_)
                      refine lv_goto (tgt := 58) hx hb dX12_pivot_223 (by decide) ?_
                      exact ih_58 S220 (j + 1) _ _ _ (by omega) hI220 hFm220 hFL28220 hFL226220 hFL58220 hGm220 hGL28220 hGL226220 hGL58220 (by omega) hF220 hW hL (lv_sub hl [0, 2, 3, 4, 5, 6, 7] rfl)
                    refine lv_iload hx hb dX12_pivot_77 (lv_at hl 2 rfl) ?_
                    refine lv_iload_n hx hb dX12_pivot_79 rfl (lv_at hl 6 rfl) ?_
                    refine lv_iconst (v := iv 1) hx hb dX12_pivot_80 (by decide) ?_
                    refine r_iadd hx hb dX12_pivot_81 ?_
                    refine r_icmp_ne (tgt := 122) hx hb ⟨(by omega), (by omega)⟩ ⟨(by omega), (by omega)⟩ dX12_pivot_82 (by decide) (fun c_234 => ?_) (fun c_234 => ?_)
                    · refine lv_iload hx hb dX12_pivot_122 (lv_at hl 2 rfl) ?_
                      refine lv_iload_n hx hb dX12_pivot_124 rfl (lv_at hl 6 rfl) ?_
                      refine lv_iconst (v := iv 1) hx hb dX12_pivot_125 (by decide) ?_
                      refine r_iadd hx hb dX12_pivot_126 ?_
                      refine r_icmp_ne (tgt := 162) hx hb ⟨(by omega), (by omega)⟩ ⟨(by omega), (by omega)⟩ dX12_pivot_127 (by decide) (fun c_235 => ?_) (fun c_235 => ?_)
                      · refine lv_iload hx hb dX12_pivot_162 (lv_at hl 1 rfl) ?_
                        refine lv_iload_n hx hb dX12_pivot_164 rfl (lv_at hl 7 rfl) ?_
                        refine r_icmp_ne (tgt := 200) hx hb ⟨(by omega), (by omega)⟩ ⟨(by omega), (by omega)⟩ dX12_pivot_165 (by decide) (fun c_236 => ?_) (fun c_236 => ?_)
                        · refine lv_aload_n hx hb dX12_pivot_200 rfl (lv_at hl 5 rfl) ?_
                          refine lv_iload hx hb dX12_pivot_201 (lv_at hl 2 rfl) ?_
                          refine lv_iload hx hb dX12_pivot_203 (lv_at hl 1 rfl) ?_
                          refine lv_iload_n hx hb dX12_pivot_205 rfl (lv_at hl 6 rfl) ?_
                          refine lv_iload_n hx hb dX12_pivot_206 rfl (lv_at hl 7 rfl) ?_
                          refine lv_iload_n hx hb dX12_pivot_207 rfl (lv_at hl 4 rfl) ?_
                          refine lv_iload hx hb dX12_pivot_208 (lv_at hl 0 rfl) ?_
                          refine lv_iload hx hb dX12_pivot_210 (lv_at hl 3 rfl) ?_
                          refine sBi (sV (As := [.int (iv i), .int (iv j), .int (iv rr), .int (iv ss), .int (iv pp), .int (iv q), .int (iv tn)]) (rest := []) (k := 231) Cx (s_X12_across l G S58 (ii := i) (jj := j) (rr := rr) (ss := ss) (pp := pp) (qq := q) (tn := tn) hI58 (by omega) (by omega) (by omega) (by omega) (by rw [show S58.2.1 262 = S.2.1 262 from (funext fun j => ((hL58_ 262 rfl).2.1 j).trans ((hL28_ 262 rfl).2.1 j) : S58.2.1 262 = S.2.1 262)]; exact (hD.at (i := i) (j := j) (by omega) (by omega) (by omega) (by omega))) (by rw [show S58.2.1 262 = S.2.1 262 from (funext fun j => ((hL58_ 262 rfl).2.1 j).trans ((hL28_ 262 rfl).2.1 j) : S58.2.1 262 = S.2.1 262)]; exact (hD.at (i := rr + 1) (j := ss) (by omega) (by omega) (by omega) (by omega))) (by rw [show S58.2.1 262 = S.2.1 262 from (funext fun j => ((hL58_ 262 rfl).2.1 j).trans ((hL28_ 262 rfl).2.1 j) : S58.2.1 262 = S.2.1 262)]; exact (hD.at (i := i) (j := ss) (by omega) (by omega) (by omega) (by omega))) (by rw [show S58.2.1 262 = S.2.1 262 from (funext fun j => ((hL58_ 262 rfl).2.1 j).trans ((hL28_ 262 rfl).2.1 j) : S58.2.1 262 = S.2.1 262)]; exact (hD.at (i := rr + 1) (j := j) (by omega) (by omega) (by omega) (by omega))) (by rw [show S58.2.1 264 = S.2.1 264 from (funext fun j => ((hL58_ 264 rfl).2.1 j).trans ((hL28_ 264 rfl).2.1 j) : S58.2.1 264 = S.2.1 264)]; exact hD.2.2.1) (by rw [show S58.2.1 264 = S.2.1 264 from (funext fun j => ((hL58_ 264 rfl).2.1 j).trans ((hL28_ 264 rfl).2.1 j) : S58.2.1 264 = S.2.1 264)]; exact hD.2.2.2)) (c_X12_544 Cx rfl rfl (rmk_ok (by omega) (by decide))) hW (by decide) rfl rfl rfl hl.1 rfl (Nat.le_of_ble_eq_true rfl) dX12_pivot_212 ⟨Nat.le_of_ble_eq_true rfl, Nat.le_of_ble_eq_true rfl⟩) hL (fun r_239 u_237 H locs k_238 hW hL => ?_)
                          obtain ⟨iu_237, fu_237, gu_237, xu_237⟩ := k_238
                          have F_240 := hFm58.trans (fu_237.to (pl_sub (by decide)))
                          have F_241 := hFL2858.trans fu_237
                          have F_242 := hFL22658.trans fu_237
                          have F_243 := hL58_.trans fu_237
                          have F_244 := (Fr.rf : Fr S58 S58 (pl [233, 234, 235, 237, 238, 239, 240, 263])).trans fu_237
                          have g_245 : FF S u_237 (fl []) := FF.trans hGm58 (FF.to gu_237 (fl_sub (by decide)))
                          have g_246 : FF S u_237 (fl []) := FF.trans hGL2858 (FF.to gu_237 (fl_sub (by decide)))
                          have g_247 : FF S28 u_237 (fl []) := FF.trans hGL22658 (FF.to gu_237 (fl_sub (by decide)))
                          have g_248 : FF S28 u_237 (fl []) := FF.trans gL58_ (FF.to gu_237 (fl_sub (by decide)))
                          have g_249 : FF S58 u_237 (fl []) := FF.trans (FF.rf : FF S58 S58 (fl [])) (FF.to gu_237 (fl_sub (by decide)))
                          refine r_if_ne (tgt := 220) hx hb ⟨(by omega), (by omega)⟩ dX12_pivot_215 (by decide) (fun c_250 => ?_) (fun c_250 => ?_)
                          · exact join_220 u_237  _ _ _ iu_237 F_240 F_241 F_242 F_243 F_244 g_245 g_246 g_247 g_248 g_249 (FO.step hF (by omega) (by omega) (fun x a => xu_237.2.2 x (by rw [show cl i j = q by unfold cl; omega] at a; exact a)) (by rw [show cl i j = q by unfold cl; omega]; exact (xu_237.2.1 (by omega)).1) (PC.d (by omega) (by omega) (by have e := (xu_237.2.1 (by omega)).2; rw [eD58, eN58] at e; obtain ⟨Q, R, h1, h2, h3, h4⟩ := e; refine ⟨Q, R, (by rw [show cl i j = q by unfold cl; omega]; exact h1), ?_, h3, h4⟩; unfold TV; rw [show cl i j = q by unfold cl; omega, show cl (rr + 1) ss = pp by unfold cl; omega]; exact h2))) hW hL (lv_sub hl [0, 1, 2, 3, 4, 5, 6, 7] rfl)
                          · refine lv_iconst (v := iv 0) hx hb dX12_pivot_218 (by decide) ?_
                            exact sZret Cx hr hlk hW hL (by omega) ⟨iu_237, F_240, g_245, ⟨(by omega), hD.same (g_245 58 rfl) (g_245 59 rfl) (g_245 60 rfl) (funext fun j => ((fu_237 262 rfl).2.1 j).trans (((hL58_ 262 rfl).2.1 j).trans ((hL28_ 262 rfl).2.1 j)) : u_237.2.1 262 = S.2.1 262) (funext fun j => ((fu_237 264 rfl).2.1 j).trans (((hL58_ 264 rfl).2.1 j).trans ((hL28_ 264 rfl).2.1 j)) : u_237.2.1 264 = S.2.1 264), (fun q => absurd q (by omega)), (fun _ => ⟨(funext fun j => ((fu_237 265 rfl).2.1 j).trans (((hL58_ 265 rfl).2.1 j).trans ((hL28_ 265 rfl).2.1 j)) : u_237.2.1 265 = S.2.1 265), (funext fun j => ((fu_237 266 rfl).2.1 j).trans (((hL58_ 266 rfl).2.1 j).trans ((hL28_ 266 rfl).2.1 j)) : u_237.2.1 266 = S.2.1 266)⟩)⟩⟩ dX12_pivot_219
                        · refine lv_aload_n hx hb dX12_pivot_168 rfl (lv_at hl 5 rfl) ?_
                          refine g_X12_103 Cx hW (k := 231) (by decide) rfl (v := .ref (G.2.2.1 + 262)) (rd_53 hI58) dX12_pivot_169 ?_
                          refine lv_iload hx hb dX12_pivot_172 (lv_at hl 0 rfl) ?_
                          refine lv_aload_n hx hb dX12_pivot_174 rfl (lv_at hl 5 rfl) ?_
                          refine g_X12_106 Cx hW (k := 231) (by decide) rfl (v := .ref (G.2.2.1 + 263)) (rd_54 hI58) dX12_pivot_175 ?_
                          refine lv_iload hx hb dX12_pivot_178 (lv_at hl 0 rfl) ?_
                          refine sBv (sSt (As := [.ref (G.2.2.1 + 262), .int (iv q), .ref (G.2.2.1 + 263), .int (iv q)]) (rest := []) Cx (s_X12_copy l G S58 (ka := 262) (po := q) (kb := 263) (qo := q) (Nka := 5280) (Nkb := 5280) (La := 6) hI58 ⟨rfl, by decide, by decide, by decide, rfl⟩ ⟨rfl, by decide, by decide, by decide, rfl⟩ (show (263 : Nat) ≠ 262 by decide) (by omega) (by rw [show S58.2.1 262 = S.2.1 262 from (funext fun j => ((hL58_ 262 rfl).2.1 j).trans ((hL28_ 262 rfl).2.1 j) : S58.2.1 262 = S.2.1 262)]; exact (hD.at (i := i) (j := j) (by omega) (by omega) (by omega) (by omega)))) (c_X12_233 Cx rfl rfl (rmk_ok (by omega) (by decide))) hW rfl hl.1 rfl (Nat.le_of_ble_eq_true rfl) dX12_pivot_180 ⟨Nat.le_of_ble_eq_true rfl, Nat.le_of_ble_eq_true rfl⟩) hL (fun u_251 H locs k_252 hW hL => ?_)
                          obtain ⟨iu_251, fu_251, xu_251⟩ := k_252
                          have F_253 := hFm58.trans (fu_251.to (p1_sub rfl))
                          have F_254 := hFL2858.trans (fu_251.to (p1_sub rfl))
                          have F_255 := hFL22658.trans (fu_251.to (p1_sub rfl))
                          have F_256 := hL58_.trans (fu_251.to (p1_sub rfl))
                          have F_257 := (Fr.rf : Fr S58 S58 (pl [233, 234, 235, 237, 238, 239, 240, 263])).trans (fu_251.to (p1_sub rfl))
                          have g_258 : FF S u_251 (fl []) := FF.fr hGm58 fu_251 rfl
                          have g_259 : FF S u_251 (fl []) := FF.fr hGL2858 fu_251 rfl
                          have g_260 : FF S28 u_251 (fl []) := FF.fr hGL22658 fu_251 rfl
                          have g_261 : FF S28 u_251 (fl []) := FF.fr gL58_ fu_251 rfl
                          have g_262 : FF S58 u_251 (fl []) := FF.fr (FF.rf : FF S58 S58 (fl [])) fu_251 rfl
                          refine lv_iload hx hb dX12_pivot_183 (lv_at hl 3 rfl) ?_
                          refine r_if_ne (tgt := 220) hx hb ⟨(by omega), (by omega)⟩ dX12_pivot_185 (by decide) (fun c_263 => ?_) (fun c_263 => ?_)
                          · exact join_220 u_251  _ _ _ iu_251 F_253 F_254 F_255 F_256 F_257 g_258 g_259 g_260 g_261 g_262 (FO.step hF (by omega) (by omega) (fun x a => by rw [show cl i j = q by unfold cl; omega] at a; exact xu_251.2 x a) (by rw [show cl i j = q by unfold cl; omega]; exact xu_251.1.1) (PC.c (by omega) (by omega) (by have k0 : nv (u_251.2.1 263) q = TV S i j := (by rw [xu_251.1.2.1, eD58]; unfold TV; rw [show cl i j = q by unfold cl; omega]); rw [show cl i j = q by unfold cl; omega, k0, show tn = 1 by omega, asn_1]; omega))) hW hL (lv_sub hl [0, 1, 2, 3, 4, 5, 6, 7] rfl)
                          · refine lv_aload_n hx hb dX12_pivot_188 rfl (lv_at hl 5 rfl) ?_
                            refine g_X12_106 Cx hW (k := 231) (by decide) rfl (v := .ref (G.2.2.1 + 263)) (rd_54 iu_251) dX12_pivot_189 ?_
                            refine lv_iload hx hb dX12_pivot_192 (lv_at hl 0 rfl) ?_
                            refine sBv (sSt (As := [.ref (G.2.2.1 + 263), .int (iv q)]) (rest := []) Cx (s_X12_negate l G u_251 (ka := 263) (po := q) (Nka := 5280) (La := 6) iu_251 ⟨rfl, by decide, by decide, by decide, rfl⟩ (by omega) xu_251.1.1) (c_X12_540 Cx rfl rfl (rmk_ok (by omega) (by decide))) hW rfl hl.1 rfl (Nat.le_of_ble_eq_true rfl) dX12_pivot_194 ⟨Nat.le_of_ble_eq_true rfl, Nat.le_of_ble_eq_true rfl⟩) hL (fun u_264 H locs k_265 hW hL => ?_)
                            obtain ⟨iu_264, fu_264, xu_264⟩ := k_265
                            have F_266 := F_253.trans (fu_264.to (p1_sub rfl))
                            have F_267 := F_254.trans (fu_264.to (p1_sub rfl))
                            have F_268 := F_255.trans (fu_264.to (p1_sub rfl))
                            have F_269 := F_256.trans (fu_264.to (p1_sub rfl))
                            have F_270 := F_257.trans (fu_264.to (p1_sub rfl))
                            have g_271 : FF S u_264 (fl []) := FF.fr g_258 fu_264 rfl
                            have g_272 : FF S u_264 (fl []) := FF.fr g_259 fu_264 rfl
                            have g_273 : FF S28 u_264 (fl []) := FF.fr g_260 fu_264 rfl
                            have g_274 : FF S28 u_264 (fl []) := FF.fr g_261 fu_264 rfl
                            have g_275 : FF S58 u_264 (fl []) := FF.fr g_262 fu_264 rfl
                            refine lv_goto (tgt := 220) hx hb dX12_pivot_197 (by decide) ?_
                            exact join_220 u_264  _ _ _ iu_264 F_266 F_267 F_268 F_269 F_270 g_271 g_272 g_273 g_274 g_275 (FO.step hF (by omega) (by omega) (fun x a => by rw [show cl i j = q by unfold cl; omega] at a; rw [xu_264.2.2, uA_ne (fun z => by have := z.2; omega)]; exact xu_251.2 x a) (by rw [show cl i j = q by unfold cl; omega]; exact xu_264.1) (PC.c (by omega) (by omega) (by have k0 : nv (u_251.2.1 263) q = TV S i j := (by rw [xu_251.1.2.1, eD58]; unfold TV; rw [show cl i j = q by unfold cl; omega]); rw [show cl i j = q by unfold cl; omega, xu_264.2.1, k0, show tn = 0 by omega, asn_0]))) hW hL (lv_sub hl [0, 1, 2, 3, 4, 5, 6, 7] rfl)
                      · refine lv_aload_n hx hb dX12_pivot_130 rfl (lv_at hl 5 rfl) ?_
                        refine g_X12_103 Cx hW (k := 231) (by decide) rfl (v := .ref (G.2.2.1 + 262)) (rd_53 hI58) dX12_pivot_131 ?_
                        refine lv_iload hx hb dX12_pivot_134 (lv_at hl 0 rfl) ?_
                        refine lv_aload_n hx hb dX12_pivot_136 rfl (lv_at hl 5 rfl) ?_
                        refine g_X12_106 Cx hW (k := 231) (by decide) rfl (v := .ref (G.2.2.1 + 263)) (rd_54 hI58) dX12_pivot_137 ?_
                        refine lv_iload hx hb dX12_pivot_140 (lv_at hl 0 rfl) ?_
                        refine sBv (sSt (As := [.ref (G.2.2.1 + 262), .int (iv q), .ref (G.2.2.1 + 263), .int (iv q)]) (rest := []) Cx (s_X12_copy l G S58 (ka := 262) (po := q) (kb := 263) (qo := q) (Nka := 5280) (Nkb := 5280) (La := 6) hI58 ⟨rfl, by decide, by decide, by decide, rfl⟩ ⟨rfl, by decide, by decide, by decide, rfl⟩ (show (263 : Nat) ≠ 262 by decide) (by omega) (by rw [show S58.2.1 262 = S.2.1 262 from (funext fun j => ((hL58_ 262 rfl).2.1 j).trans ((hL28_ 262 rfl).2.1 j) : S58.2.1 262 = S.2.1 262)]; exact (hD.at (i := i) (j := j) (by omega) (by omega) (by omega) (by omega)))) (c_X12_233 Cx rfl rfl (rmk_ok (by omega) (by decide))) hW rfl hl.1 rfl (Nat.le_of_ble_eq_true rfl) dX12_pivot_142 ⟨Nat.le_of_ble_eq_true rfl, Nat.le_of_ble_eq_true rfl⟩) hL (fun u_276 H locs k_277 hW hL => ?_)
                        obtain ⟨iu_276, fu_276, xu_276⟩ := k_277
                        have F_278 := hFm58.trans (fu_276.to (p1_sub rfl))
                        have F_279 := hFL2858.trans (fu_276.to (p1_sub rfl))
                        have F_280 := hFL22658.trans (fu_276.to (p1_sub rfl))
                        have F_281 := hL58_.trans (fu_276.to (p1_sub rfl))
                        have F_282 := (Fr.rf : Fr S58 S58 (pl [233, 234, 235, 237, 238, 239, 240, 263])).trans (fu_276.to (p1_sub rfl))
                        have g_283 : FF S u_276 (fl []) := FF.fr hGm58 fu_276 rfl
                        have g_284 : FF S u_276 (fl []) := FF.fr hGL2858 fu_276 rfl
                        have g_285 : FF S28 u_276 (fl []) := FF.fr hGL22658 fu_276 rfl
                        have g_286 : FF S28 u_276 (fl []) := FF.fr gL58_ fu_276 rfl
                        have g_287 : FF S58 u_276 (fl []) := FF.fr (FF.rf : FF S58 S58 (fl [])) fu_276 rfl
                        refine lv_iload hx hb dX12_pivot_145 (lv_at hl 3 rfl) ?_
                        refine r_if_eq (tgt := 220) hx hb ⟨(by omega), (by omega)⟩ dX12_pivot_147 (by decide) (fun c_288 => ?_) (fun c_288 => ?_)
                        · exact join_220 u_276  _ _ _ iu_276 F_278 F_279 F_280 F_281 F_282 g_283 g_284 g_285 g_286 g_287 (FO.step hF (by omega) (by omega) (fun x a => by rw [show cl i j = q by unfold cl; omega] at a; exact xu_276.2 x a) (by rw [show cl i j = q by unfold cl; omega]; exact xu_276.1.1) (PC.b (by omega) (by omega) (by have k0 : nv (u_276.2.1 263) q = TV S i j := (by rw [xu_276.1.2.1, eD58]; unfold TV; rw [show cl i j = q by unfold cl; omega]); rw [show cl i j = q by unfold cl; omega, k0, show tn = 0 by omega, asn_0]))) hW hL (lv_sub hl [0, 1, 2, 3, 4, 5, 6, 7] rfl)
                        · refine lv_aload_n hx hb dX12_pivot_150 rfl (lv_at hl 5 rfl) ?_
                          refine g_X12_106 Cx hW (k := 231) (by decide) rfl (v := .ref (G.2.2.1 + 263)) (rd_54 iu_276) dX12_pivot_151 ?_
                          refine lv_iload hx hb dX12_pivot_154 (lv_at hl 0 rfl) ?_
                          refine sBv (sSt (As := [.ref (G.2.2.1 + 263), .int (iv q)]) (rest := []) Cx (s_X12_negate l G u_276 (ka := 263) (po := q) (Nka := 5280) (La := 6) iu_276 ⟨rfl, by decide, by decide, by decide, rfl⟩ (by omega) xu_276.1.1) (c_X12_540 Cx rfl rfl (rmk_ok (by omega) (by decide))) hW rfl hl.1 rfl (Nat.le_of_ble_eq_true rfl) dX12_pivot_156 ⟨Nat.le_of_ble_eq_true rfl, Nat.le_of_ble_eq_true rfl⟩) hL (fun u_289 H locs k_290 hW hL => ?_)
                          obtain ⟨iu_289, fu_289, xu_289⟩ := k_290
                          have F_291 := F_278.trans (fu_289.to (p1_sub rfl))
                          have F_292 := F_279.trans (fu_289.to (p1_sub rfl))
                          have F_293 := F_280.trans (fu_289.to (p1_sub rfl))
                          have F_294 := F_281.trans (fu_289.to (p1_sub rfl))
                          have F_295 := F_282.trans (fu_289.to (p1_sub rfl))
                          have g_296 : FF S u_289 (fl []) := FF.fr g_283 fu_289 rfl
                          have g_297 : FF S u_289 (fl []) := FF.fr g_284 fu_289 rfl
                          have g_298 : FF S28 u_289 (fl []) := FF.fr g_285 fu_289 rfl
                          have g_299 : FF S28 u_289 (fl []) := FF.fr g_286 fu_289 rfl
                          have g_300 : FF S58 u_289 (fl []) := FF.fr g_287 fu_289 rfl
                          refine lv_goto (tgt := 220) hx hb dX12_pivot_159 (by decide) ?_
                          exact join_220 u_289  _ _ _ iu_289 F_291 F_292 F_293 F_294 F_295 g_296 g_297 g_298 g_299 g_300 (FO.step hF (by omega) (by omega) (fun x a => by rw [show cl i j = q by unfold cl; omega] at a; rw [xu_289.2.2, uA_ne (fun z => by have := z.2; omega)]; exact xu_276.2 x a) (by rw [show cl i j = q by unfold cl; omega]; exact xu_289.1) (PC.b (by omega) (by omega) (by have k0 : nv (u_276.2.1 263) q = TV S i j := (by rw [xu_276.1.2.1, eD58]; unfold TV; rw [show cl i j = q by unfold cl; omega]); rw [show cl i j = q by unfold cl; omega, xu_289.2.1, k0, show tn = 1 by omega, asn_1]))) hW hL (lv_sub hl [0, 1, 2, 3, 4, 5, 6, 7] rfl)
                    · refine lv_iload hx hb dX12_pivot_85 (lv_at hl 1 rfl) ?_
                      refine lv_iload_n hx hb dX12_pivot_87 rfl (lv_at hl 7 rfl) ?_
                      refine r_icmp_ne (tgt := 122) hx hb ⟨(by omega), (by omega)⟩ ⟨(by omega), (by omega)⟩ dX12_pivot_88 (by decide) (fun c_301 => ?_) (fun c_301 => ?_)
                      · refine lv_iload hx hb dX12_pivot_122 (lv_at hl 2 rfl) ?_
                        refine lv_iload_n hx hb dX12_pivot_124 rfl (lv_at hl 6 rfl) ?_
                        refine lv_iconst (v := iv 1) hx hb dX12_pivot_125 (by decide) ?_
                        refine r_iadd hx hb dX12_pivot_126 ?_
                        refine r_icmp_ne (tgt := 162) hx hb ⟨(by omega), (by omega)⟩ ⟨(by omega), (by omega)⟩ dX12_pivot_127 (by decide) (fun c_302 => ?_) (fun c_302 => ?_)
                        · refine lv_iload hx hb dX12_pivot_162 (lv_at hl 1 rfl) ?_
                          refine lv_iload_n hx hb dX12_pivot_164 rfl (lv_at hl 7 rfl) ?_
                          refine r_icmp_ne (tgt := 200) hx hb ⟨(by omega), (by omega)⟩ ⟨(by omega), (by omega)⟩ dX12_pivot_165 (by decide) (fun c_303 => ?_) (fun c_303 => ?_)
                          · refine lv_aload_n hx hb dX12_pivot_200 rfl (lv_at hl 5 rfl) ?_
                            refine lv_iload hx hb dX12_pivot_201 (lv_at hl 2 rfl) ?_
                            refine lv_iload hx hb dX12_pivot_203 (lv_at hl 1 rfl) ?_
                            refine lv_iload_n hx hb dX12_pivot_205 rfl (lv_at hl 6 rfl) ?_
                            refine lv_iload_n hx hb dX12_pivot_206 rfl (lv_at hl 7 rfl) ?_
                            refine lv_iload_n hx hb dX12_pivot_207 rfl (lv_at hl 4 rfl) ?_
                            refine lv_iload hx hb dX12_pivot_208 (lv_at hl 0 rfl) ?_
                            refine lv_iload hx hb dX12_pivot_210 (lv_at hl 3 rfl) ?_
                            refine sBi (sV (As := [.int (iv i), .int (iv j), .int (iv rr), .int (iv ss), .int (iv pp), .int (iv q), .int (iv tn)]) (rest := []) (k := 231) Cx (s_X12_across l G S58 (ii := i) (jj := j) (rr := rr) (ss := ss) (pp := pp) (qq := q) (tn := tn) hI58 (by omega) (by omega) (by omega) (by omega) (by rw [show S58.2.1 262 = S.2.1 262 from (funext fun j => ((hL58_ 262 rfl).2.1 j).trans ((hL28_ 262 rfl).2.1 j) : S58.2.1 262 = S.2.1 262)]; exact (hD.at (i := i) (j := j) (by omega) (by omega) (by omega) (by omega))) (by rw [show S58.2.1 262 = S.2.1 262 from (funext fun j => ((hL58_ 262 rfl).2.1 j).trans ((hL28_ 262 rfl).2.1 j) : S58.2.1 262 = S.2.1 262)]; exact (hD.at (i := rr + 1) (j := ss) (by omega) (by omega) (by omega) (by omega))) (by rw [show S58.2.1 262 = S.2.1 262 from (funext fun j => ((hL58_ 262 rfl).2.1 j).trans ((hL28_ 262 rfl).2.1 j) : S58.2.1 262 = S.2.1 262)]; exact (hD.at (i := i) (j := ss) (by omega) (by omega) (by omega) (by omega))) (by rw [show S58.2.1 262 = S.2.1 262 from (funext fun j => ((hL58_ 262 rfl).2.1 j).trans ((hL28_ 262 rfl).2.1 j) : S58.2.1 262 = S.2.1 262)]; exact (hD.at (i := rr + 1) (j := j) (by omega) (by omega) (by omega) (by omega))) (by rw [show S58.2.1 264 = S.2.1 264 from (funext fun j => ((hL58_ 264 rfl).2.1 j).trans ((hL28_ 264 rfl).2.1 j) : S58.2.1 264 = S.2.1 264)]; exact hD.2.2.1) (by rw [show S58.2.1 264 = S.2.1 264 from (funext fun j => ((hL58_ 264 rfl).2.1 j).trans ((hL28_ 264 rfl).2.1 j) : S58.2.1 264 = S.2.1 264)]; exact hD.2.2.2)) (c_X12_544 Cx rfl rfl (rmk_ok (by omega) (by decide))) hW (by decide) rfl rfl rfl hl.1 rfl (Nat.le_of_ble_eq_true rfl) dX12_pivot_212 ⟨Nat.le_of_ble_eq_true rfl, Nat.le_of_ble_eq_true rfl⟩) hL (fun r_306 u_304 H locs k_305 hW hL => ?_)
                            obtain ⟨iu_304, fu_304, gu_304, xu_304⟩ := k_305
                            have F_307 := hFm58.trans (fu_304.to (pl_sub (by decide)))
                            have F_308 := hFL2858.trans fu_304
                            have F_309 := hFL22658.trans fu_304
                            have F_310 := hL58_.trans fu_304
                            have F_311 := (Fr.rf : Fr S58 S58 (pl [233, 234, 235, 237, 238, 239, 240, 263])).trans fu_304
                            have g_312 : FF S u_304 (fl []) := FF.trans hGm58 (FF.to gu_304 (fl_sub (by decide)))
                            have g_313 : FF S u_304 (fl []) := FF.trans hGL2858 (FF.to gu_304 (fl_sub (by decide)))
                            have g_314 : FF S28 u_304 (fl []) := FF.trans hGL22658 (FF.to gu_304 (fl_sub (by decide)))
                            have g_315 : FF S28 u_304 (fl []) := FF.trans gL58_ (FF.to gu_304 (fl_sub (by decide)))
                            have g_316 : FF S58 u_304 (fl []) := FF.trans (FF.rf : FF S58 S58 (fl [])) (FF.to gu_304 (fl_sub (by decide)))
                            refine r_if_ne (tgt := 220) hx hb ⟨(by omega), (by omega)⟩ dX12_pivot_215 (by decide) (fun c_317 => ?_) (fun c_317 => ?_)
                            · exact join_220 u_304  _ _ _ iu_304 F_307 F_308 F_309 F_310 F_311 g_312 g_313 g_314 g_315 g_316 (FO.step hF (by omega) (by omega) (fun x a => xu_304.2.2 x (by rw [show cl i j = q by unfold cl; omega] at a; exact a)) (by rw [show cl i j = q by unfold cl; omega]; exact (xu_304.2.1 (by omega)).1) (PC.d (by omega) (by omega) (by have e := (xu_304.2.1 (by omega)).2; rw [eD58, eN58] at e; obtain ⟨Q, R, h1, h2, h3, h4⟩ := e; refine ⟨Q, R, (by rw [show cl i j = q by unfold cl; omega]; exact h1), ?_, h3, h4⟩; unfold TV; rw [show cl i j = q by unfold cl; omega, show cl (rr + 1) ss = pp by unfold cl; omega]; exact h2))) hW hL (lv_sub hl [0, 1, 2, 3, 4, 5, 6, 7] rfl)
                            · refine lv_iconst (v := iv 0) hx hb dX12_pivot_218 (by decide) ?_
                              exact sZret Cx hr hlk hW hL (by omega) ⟨iu_304, F_307, g_312, ⟨(by omega), hD.same (g_312 58 rfl) (g_312 59 rfl) (g_312 60 rfl) (funext fun j => ((fu_304 262 rfl).2.1 j).trans (((hL58_ 262 rfl).2.1 j).trans ((hL28_ 262 rfl).2.1 j)) : u_304.2.1 262 = S.2.1 262) (funext fun j => ((fu_304 264 rfl).2.1 j).trans (((hL58_ 264 rfl).2.1 j).trans ((hL28_ 264 rfl).2.1 j)) : u_304.2.1 264 = S.2.1 264), (fun q => absurd q (by omega)), (fun _ => ⟨(funext fun j => ((fu_304 265 rfl).2.1 j).trans (((hL58_ 265 rfl).2.1 j).trans ((hL28_ 265 rfl).2.1 j)) : u_304.2.1 265 = S.2.1 265), (funext fun j => ((fu_304 266 rfl).2.1 j).trans (((hL58_ 266 rfl).2.1 j).trans ((hL28_ 266 rfl).2.1 j)) : u_304.2.1 266 = S.2.1 266)⟩)⟩⟩ dX12_pivot_219
                          · refine lv_aload_n hx hb dX12_pivot_168 rfl (lv_at hl 5 rfl) ?_
                            refine g_X12_103 Cx hW (k := 231) (by decide) rfl (v := .ref (G.2.2.1 + 262)) (rd_53 hI58) dX12_pivot_169 ?_
                            refine lv_iload hx hb dX12_pivot_172 (lv_at hl 0 rfl) ?_
                            refine lv_aload_n hx hb dX12_pivot_174 rfl (lv_at hl 5 rfl) ?_
                            refine g_X12_106 Cx hW (k := 231) (by decide) rfl (v := .ref (G.2.2.1 + 263)) (rd_54 hI58) dX12_pivot_175 ?_
                            refine lv_iload hx hb dX12_pivot_178 (lv_at hl 0 rfl) ?_
                            refine sBv (sSt (As := [.ref (G.2.2.1 + 262), .int (iv q), .ref (G.2.2.1 + 263), .int (iv q)]) (rest := []) Cx (s_X12_copy l G S58 (ka := 262) (po := q) (kb := 263) (qo := q) (Nka := 5280) (Nkb := 5280) (La := 6) hI58 ⟨rfl, by decide, by decide, by decide, rfl⟩ ⟨rfl, by decide, by decide, by decide, rfl⟩ (show (263 : Nat) ≠ 262 by decide) (by omega) (by rw [show S58.2.1 262 = S.2.1 262 from (funext fun j => ((hL58_ 262 rfl).2.1 j).trans ((hL28_ 262 rfl).2.1 j) : S58.2.1 262 = S.2.1 262)]; exact (hD.at (i := i) (j := j) (by omega) (by omega) (by omega) (by omega)))) (c_X12_233 Cx rfl rfl (rmk_ok (by omega) (by decide))) hW rfl hl.1 rfl (Nat.le_of_ble_eq_true rfl) dX12_pivot_180 ⟨Nat.le_of_ble_eq_true rfl, Nat.le_of_ble_eq_true rfl⟩) hL (fun u_318 H locs k_319 hW hL => ?_)
                            obtain ⟨iu_318, fu_318, xu_318⟩ := k_319
                            have F_320 := hFm58.trans (fu_318.to (p1_sub rfl))
                            have F_321 := hFL2858.trans (fu_318.to (p1_sub rfl))
                            have F_322 := hFL22658.trans (fu_318.to (p1_sub rfl))
                            have F_323 := hL58_.trans (fu_318.to (p1_sub rfl))
                            have F_324 := (Fr.rf : Fr S58 S58 (pl [233, 234, 235, 237, 238, 239, 240, 263])).trans (fu_318.to (p1_sub rfl))
                            have g_325 : FF S u_318 (fl []) := FF.fr hGm58 fu_318 rfl
                            have g_326 : FF S u_318 (fl []) := FF.fr hGL2858 fu_318 rfl
                            have g_327 : FF S28 u_318 (fl []) := FF.fr hGL22658 fu_318 rfl
                            have g_328 : FF S28 u_318 (fl []) := FF.fr gL58_ fu_318 rfl
                            have g_329 : FF S58 u_318 (fl []) := FF.fr (FF.rf : FF S58 S58 (fl [])) fu_318 rfl
                            refine lv_iload hx hb dX12_pivot_183 (lv_at hl 3 rfl) ?_
                            refine r_if_ne (tgt := 220) hx hb ⟨(by omega), (by omega)⟩ dX12_pivot_185 (by decide) (fun c_330 => ?_) (fun c_330 => ?_)
                            · exact join_220 u_318  _ _ _ iu_318 F_320 F_321 F_322 F_323 F_324 g_325 g_326 g_327 g_328 g_329 (FO.step hF (by omega) (by omega) (fun x a => by rw [show cl i j = q by unfold cl; omega] at a; exact xu_318.2 x a) (by rw [show cl i j = q by unfold cl; omega]; exact xu_318.1.1) (PC.c (by omega) (by omega) (by have k0 : nv (u_318.2.1 263) q = TV S i j := (by rw [xu_318.1.2.1, eD58]; unfold TV; rw [show cl i j = q by unfold cl; omega]); rw [show cl i j = q by unfold cl; omega, k0, show tn = 1 by omega, asn_1]; omega))) hW hL (lv_sub hl [0, 1, 2, 3, 4, 5, 6, 7] rfl)
                            · refine lv_aload_n hx hb dX12_pivot_188 rfl (lv_at hl 5 rfl) ?_
                              refine g_X12_106 Cx hW (k := 231) (by decide) rfl (v := .ref (G.2.2.1 + 263)) (rd_54 iu_318) dX12_pivot_189 ?_
                              refine lv_iload hx hb dX12_pivot_192 (lv_at hl 0 rfl) ?_
                              refine sBv (sSt (As := [.ref (G.2.2.1 + 263), .int (iv q)]) (rest := []) Cx (s_X12_negate l G u_318 (ka := 263) (po := q) (Nka := 5280) (La := 6) iu_318 ⟨rfl, by decide, by decide, by decide, rfl⟩ (by omega) xu_318.1.1) (c_X12_540 Cx rfl rfl (rmk_ok (by omega) (by decide))) hW rfl hl.1 rfl (Nat.le_of_ble_eq_true rfl) dX12_pivot_194 ⟨Nat.le_of_ble_eq_true rfl, Nat.le_of_ble_eq_true rfl⟩) hL (fun u_331 H locs k_332 hW hL => ?_)
                              obtain ⟨iu_331, fu_331, xu_331⟩ := k_332
                              have F_333 := F_320.trans (fu_331.to (p1_sub rfl))
                              have F_334 := F_321.trans (fu_331.to (p1_sub rfl))
                              have F_335 := F_322.trans (fu_331.to (p1_sub rfl))
                              have F_336 := F_323.trans (fu_331.to (p1_sub rfl))
                              have F_337 := F_324.trans (fu_331.to (p1_sub rfl))
                              have g_338 : FF S u_331 (fl []) := FF.fr g_325 fu_331 rfl
                              have g_339 : FF S u_331 (fl []) := FF.fr g_326 fu_331 rfl
                              have g_340 : FF S28 u_331 (fl []) := FF.fr g_327 fu_331 rfl
                              have g_341 : FF S28 u_331 (fl []) := FF.fr g_328 fu_331 rfl
                              have g_342 : FF S58 u_331 (fl []) := FF.fr g_329 fu_331 rfl
                              refine lv_goto (tgt := 220) hx hb dX12_pivot_197 (by decide) ?_
                              exact join_220 u_331  _ _ _ iu_331 F_333 F_334 F_335 F_336 F_337 g_338 g_339 g_340 g_341 g_342 (FO.step hF (by omega) (by omega) (fun x a => by rw [show cl i j = q by unfold cl; omega] at a; rw [xu_331.2.2, uA_ne (fun z => by have := z.2; omega)]; exact xu_318.2 x a) (by rw [show cl i j = q by unfold cl; omega]; exact xu_331.1) (PC.c (by omega) (by omega) (by have k0 : nv (u_318.2.1 263) q = TV S i j := (by rw [xu_318.1.2.1, eD58]; unfold TV; rw [show cl i j = q by unfold cl; omega]); rw [show cl i j = q by unfold cl; omega, xu_331.2.1, k0, show tn = 0 by omega, asn_0]))) hW hL (lv_sub hl [0, 1, 2, 3, 4, 5, 6, 7] rfl)
                        · refine lv_aload_n hx hb dX12_pivot_130 rfl (lv_at hl 5 rfl) ?_
                          refine g_X12_103 Cx hW (k := 231) (by decide) rfl (v := .ref (G.2.2.1 + 262)) (rd_53 hI58) dX12_pivot_131 ?_
                          refine lv_iload hx hb dX12_pivot_134 (lv_at hl 0 rfl) ?_
                          refine lv_aload_n hx hb dX12_pivot_136 rfl (lv_at hl 5 rfl) ?_
                          refine g_X12_106 Cx hW (k := 231) (by decide) rfl (v := .ref (G.2.2.1 + 263)) (rd_54 hI58) dX12_pivot_137 ?_
                          refine lv_iload hx hb dX12_pivot_140 (lv_at hl 0 rfl) ?_
                          refine sBv (sSt (As := [.ref (G.2.2.1 + 262), .int (iv q), .ref (G.2.2.1 + 263), .int (iv q)]) (rest := []) Cx (s_X12_copy l G S58 (ka := 262) (po := q) (kb := 263) (qo := q) (Nka := 5280) (Nkb := 5280) (La := 6) hI58 ⟨rfl, by decide, by decide, by decide, rfl⟩ ⟨rfl, by decide, by decide, by decide, rfl⟩ (show (263 : Nat) ≠ 262 by decide) (by omega) (by rw [show S58.2.1 262 = S.2.1 262 from (funext fun j => ((hL58_ 262 rfl).2.1 j).trans ((hL28_ 262 rfl).2.1 j) : S58.2.1 262 = S.2.1 262)]; exact (hD.at (i := i) (j := j) (by omega) (by omega) (by omega) (by omega)))) (c_X12_233 Cx rfl rfl (rmk_ok (by omega) (by decide))) hW rfl hl.1 rfl (Nat.le_of_ble_eq_true rfl) dX12_pivot_142 ⟨Nat.le_of_ble_eq_true rfl, Nat.le_of_ble_eq_true rfl⟩) hL (fun u_343 H locs k_344 hW hL => ?_)
                          obtain ⟨iu_343, fu_343, xu_343⟩ := k_344
                          have F_345 := hFm58.trans (fu_343.to (p1_sub rfl))
                          have F_346 := hFL2858.trans (fu_343.to (p1_sub rfl))
                          have F_347 := hFL22658.trans (fu_343.to (p1_sub rfl))
                          have F_348 := hL58_.trans (fu_343.to (p1_sub rfl))
                          have F_349 := (Fr.rf : Fr S58 S58 (pl [233, 234, 235, 237, 238, 239, 240, 263])).trans (fu_343.to (p1_sub rfl))
                          have g_350 : FF S u_343 (fl []) := FF.fr hGm58 fu_343 rfl
                          have g_351 : FF S u_343 (fl []) := FF.fr hGL2858 fu_343 rfl
                          have g_352 : FF S28 u_343 (fl []) := FF.fr hGL22658 fu_343 rfl
                          have g_353 : FF S28 u_343 (fl []) := FF.fr gL58_ fu_343 rfl
                          have g_354 : FF S58 u_343 (fl []) := FF.fr (FF.rf : FF S58 S58 (fl [])) fu_343 rfl
                          refine lv_iload hx hb dX12_pivot_145 (lv_at hl 3 rfl) ?_
                          refine r_if_eq (tgt := 220) hx hb ⟨(by omega), (by omega)⟩ dX12_pivot_147 (by decide) (fun c_355 => ?_) (fun c_355 => ?_)
                          · exact join_220 u_343  _ _ _ iu_343 F_345 F_346 F_347 F_348 F_349 g_350 g_351 g_352 g_353 g_354 (FO.step hF (by omega) (by omega) (fun x a => by rw [show cl i j = q by unfold cl; omega] at a; exact xu_343.2 x a) (by rw [show cl i j = q by unfold cl; omega]; exact xu_343.1.1) (PC.b (by omega) (by omega) (by have k0 : nv (u_343.2.1 263) q = TV S i j := (by rw [xu_343.1.2.1, eD58]; unfold TV; rw [show cl i j = q by unfold cl; omega]); rw [show cl i j = q by unfold cl; omega, k0, show tn = 0 by omega, asn_0]))) hW hL (lv_sub hl [0, 1, 2, 3, 4, 5, 6, 7] rfl)
                          · refine lv_aload_n hx hb dX12_pivot_150 rfl (lv_at hl 5 rfl) ?_
                            refine g_X12_106 Cx hW (k := 231) (by decide) rfl (v := .ref (G.2.2.1 + 263)) (rd_54 iu_343) dX12_pivot_151 ?_
                            refine lv_iload hx hb dX12_pivot_154 (lv_at hl 0 rfl) ?_
                            refine sBv (sSt (As := [.ref (G.2.2.1 + 263), .int (iv q)]) (rest := []) Cx (s_X12_negate l G u_343 (ka := 263) (po := q) (Nka := 5280) (La := 6) iu_343 ⟨rfl, by decide, by decide, by decide, rfl⟩ (by omega) xu_343.1.1) (c_X12_540 Cx rfl rfl (rmk_ok (by omega) (by decide))) hW rfl hl.1 rfl (Nat.le_of_ble_eq_true rfl) dX12_pivot_156 ⟨Nat.le_of_ble_eq_true rfl, Nat.le_of_ble_eq_true rfl⟩) hL (fun u_356 H locs k_357 hW hL => ?_)
                            obtain ⟨iu_356, fu_356, xu_356⟩ := k_357
                            have F_358 := F_345.trans (fu_356.to (p1_sub rfl))
                            have F_359 := F_346.trans (fu_356.to (p1_sub rfl))
                            have F_360 := F_347.trans (fu_356.to (p1_sub rfl))
                            have F_361 := F_348.trans (fu_356.to (p1_sub rfl))
                            have F_362 := F_349.trans (fu_356.to (p1_sub rfl))
                            have g_363 : FF S u_356 (fl []) := FF.fr g_350 fu_356 rfl
                            have g_364 : FF S u_356 (fl []) := FF.fr g_351 fu_356 rfl
                            have g_365 : FF S28 u_356 (fl []) := FF.fr g_352 fu_356 rfl
                            have g_366 : FF S28 u_356 (fl []) := FF.fr g_353 fu_356 rfl
                            have g_367 : FF S58 u_356 (fl []) := FF.fr g_354 fu_356 rfl
                            refine lv_goto (tgt := 220) hx hb dX12_pivot_159 (by decide) ?_
                            exact join_220 u_356  _ _ _ iu_356 F_358 F_359 F_360 F_361 F_362 g_363 g_364 g_365 g_366 g_367 (FO.step hF (by omega) (by omega) (fun x a => by rw [show cl i j = q by unfold cl; omega] at a; rw [xu_356.2.2, uA_ne (fun z => by have := z.2; omega)]; exact xu_343.2 x a) (by rw [show cl i j = q by unfold cl; omega]; exact xu_356.1) (PC.b (by omega) (by omega) (by have k0 : nv (u_343.2.1 263) q = TV S i j := (by rw [xu_343.1.2.1, eD58]; unfold TV; rw [show cl i j = q by unfold cl; omega]); rw [show cl i j = q by unfold cl; omega, xu_356.2.1, k0, show tn = 1 by omega, asn_1]))) hW hL (lv_sub hl [0, 1, 2, 3, 4, 5, 6, 7] rfl)
                      · refine lv_aload_n hx hb dX12_pivot_91 rfl (lv_at hl 5 rfl) ?_
                        refine g_X12_109 Cx hW (k := 231) (by decide) rfl (v := .ref (G.2.2.1 + 264)) (rd_55 hI58) dX12_pivot_92 ?_
                        refine lv_iconst (v := iv 0) hx hb dX12_pivot_95 (by decide) ?_
                        refine lv_aload_n hx hb dX12_pivot_96 rfl (lv_at hl 5 rfl) ?_
                        refine g_X12_106 Cx hW (k := 231) (by decide) rfl (v := .ref (G.2.2.1 + 263)) (rd_54 hI58) dX12_pivot_97 ?_
                        refine lv_iload hx hb dX12_pivot_100 (lv_at hl 0 rfl) ?_
                        refine sBv (sSt (As := [.ref (G.2.2.1 + 264), .int (iv 0), .ref (G.2.2.1 + 263), .int (iv q)]) (rest := []) Cx (s_X12_copy l G S58 (ka := 264) (po := 0) (kb := 263) (qo := q) (Nka := 8) (Nkb := 5280) (La := 6) hI58 ⟨rfl, by decide, by decide, by decide, rfl⟩ ⟨rfl, by decide, by decide, by decide, rfl⟩ (show (263 : Nat) ≠ 264 by decide) (by omega) (by rw [show S58.2.1 264 = S.2.1 264 from (funext fun j => ((hL58_ 264 rfl).2.1 j).trans ((hL28_ 264 rfl).2.1 j) : S58.2.1 264 = S.2.1 264)]; exact hD.2.2.1)) (c_X12_233 Cx rfl rfl (rmk_ok (by omega) (by decide))) hW rfl hl.1 rfl (Nat.le_of_ble_eq_true rfl) dX12_pivot_102 ⟨Nat.le_of_ble_eq_true rfl, Nat.le_of_ble_eq_true rfl⟩) hL (fun u_368 H locs k_369 hW hL => ?_)
                        obtain ⟨iu_368, fu_368, xu_368⟩ := k_369
                        have F_370 := hFm58.trans (fu_368.to (p1_sub rfl))
                        have F_371 := hFL2858.trans (fu_368.to (p1_sub rfl))
                        have F_372 := hFL22658.trans (fu_368.to (p1_sub rfl))
                        have F_373 := hL58_.trans (fu_368.to (p1_sub rfl))
                        have F_374 := (Fr.rf : Fr S58 S58 (pl [233, 234, 235, 237, 238, 239, 240, 263])).trans (fu_368.to (p1_sub rfl))
                        have g_375 : FF S u_368 (fl []) := FF.fr hGm58 fu_368 rfl
                        have g_376 : FF S u_368 (fl []) := FF.fr hGL2858 fu_368 rfl
                        have g_377 : FF S28 u_368 (fl []) := FF.fr hGL22658 fu_368 rfl
                        have g_378 : FF S28 u_368 (fl []) := FF.fr gL58_ fu_368 rfl
                        have g_379 : FF S58 u_368 (fl []) := FF.fr (FF.rf : FF S58 S58 (fl [])) fu_368 rfl
                        refine lv_iload hx hb dX12_pivot_105 (lv_at hl 3 rfl) ?_
                        refine r_if_eq (tgt := 220) hx hb ⟨(by omega), (by omega)⟩ dX12_pivot_107 (by decide) (fun c_380 => ?_) (fun c_380 => ?_)
                        · exact join_220 u_368  _ _ _ iu_368 F_370 F_371 F_372 F_373 F_374 g_375 g_376 g_377 g_378 g_379 (FO.step hF (by omega) (by omega) (fun x a => by rw [show cl i j = q by unfold cl; omega] at a; exact xu_368.2 x a) (by rw [show cl i j = q by unfold cl; omega]; exact xu_368.1.1) (PC.a (by omega) (by omega) (by have k0 : nv (u_368.2.1 263) q = nv (S.2.1 264) 0 := (by rw [xu_368.1.2.1, eN58]); rw [show cl i j = q by unfold cl; omega, k0, show tn = 0 by omega, asn_0]))) hW hL (lv_sub hl [0, 1, 2, 3, 4, 5, 6, 7] rfl)
                        · refine lv_aload_n hx hb dX12_pivot_110 rfl (lv_at hl 5 rfl) ?_
                          refine g_X12_106 Cx hW (k := 231) (by decide) rfl (v := .ref (G.2.2.1 + 263)) (rd_54 iu_368) dX12_pivot_111 ?_
                          refine lv_iload hx hb dX12_pivot_114 (lv_at hl 0 rfl) ?_
                          refine sBv (sSt (As := [.ref (G.2.2.1 + 263), .int (iv q)]) (rest := []) Cx (s_X12_negate l G u_368 (ka := 263) (po := q) (Nka := 5280) (La := 6) iu_368 ⟨rfl, by decide, by decide, by decide, rfl⟩ (by omega) xu_368.1.1) (c_X12_540 Cx rfl rfl (rmk_ok (by omega) (by decide))) hW rfl hl.1 rfl (Nat.le_of_ble_eq_true rfl) dX12_pivot_116 ⟨Nat.le_of_ble_eq_true rfl, Nat.le_of_ble_eq_true rfl⟩) hL (fun u_381 H locs k_382 hW hL => ?_)
                          obtain ⟨iu_381, fu_381, xu_381⟩ := k_382
                          have F_383 := F_370.trans (fu_381.to (p1_sub rfl))
                          have F_384 := F_371.trans (fu_381.to (p1_sub rfl))
                          have F_385 := F_372.trans (fu_381.to (p1_sub rfl))
                          have F_386 := F_373.trans (fu_381.to (p1_sub rfl))
                          have F_387 := F_374.trans (fu_381.to (p1_sub rfl))
                          have g_388 : FF S u_381 (fl []) := FF.fr g_375 fu_381 rfl
                          have g_389 : FF S u_381 (fl []) := FF.fr g_376 fu_381 rfl
                          have g_390 : FF S28 u_381 (fl []) := FF.fr g_377 fu_381 rfl
                          have g_391 : FF S28 u_381 (fl []) := FF.fr g_378 fu_381 rfl
                          have g_392 : FF S58 u_381 (fl []) := FF.fr g_379 fu_381 rfl
                          refine lv_goto (tgt := 220) hx hb dX12_pivot_119 (by decide) ?_
                          exact join_220 u_381  _ _ _ iu_381 F_383 F_384 F_385 F_386 F_387 g_388 g_389 g_390 g_391 g_392 (FO.step hF (by omega) (by omega) (fun x a => by rw [show cl i j = q by unfold cl; omega] at a; rw [xu_381.2.2, uA_ne (fun z => by have := z.2; omega)]; exact xu_368.2 x a) (by rw [show cl i j = q by unfold cl; omega]; exact xu_381.1) (PC.a (by omega) (by omega) (by have k0 : nv (u_368.2.1 263) q = nv (S.2.1 264) 0 := (by rw [xu_368.1.2.1, eN58]); rw [show cl i j = q by unfold cl; omega, xu_381.2.1, k0, show tn = 1 by omega, asn_1]))) hW hL (lv_sub hl [0, 1, 2, 3, 4, 5, 6, 7] rfl)
              exact loop_58 (_ + 1) S28 0 _ _ _ (Nat.lt_succ_self _) hI28 hFm28 hL28_ (Fr.rf : Fr S28 S28 (pl [233, 234, 235, 237, 238, 239, 240, 263])) Fr.rf hGm28 gL28_ (FF.rf : FF S28 S28 (fl [])) FF.rf (by omega) hFo hW hL (lv_sub hl [0, 1, 2, 3, 4, 5, 6] rfl)
            · refine lv_goto (tgt := 226) hx hb dX12_pivot_52 (by decide) ?_
              exact join_226 S28  _ _ _ hI28 hFm28 hL28_ (Fr.rf : Fr S28 S28 (pl [233, 234, 235, 237, 238, 239, 240, 263])) hGm28 gL28_ (FF.rf : FF S28 S28 (fl [])) (by have e := hFo; rw [show i = 1 by omega] at e; rw [show i + 1 = 2 by omega]; exact e.skip (by omega)) hW hL (lv_sub hl [0, 1, 2, 3, 4, 5] rfl)
    exact loop_28 (_ + 1) S 0 _ _ _ (Nat.lt_succ_self _) hI (Fr.rf : Fr S S (pl [233, 234, 235, 237, 238, 239, 240, 262, 263, 264, 265, 266])) Fr.rf FF.rf FF.rf (by omega) (fun a b a0 ab _ _ b0 _ => absurd ab (by omega)) hW hL (lv_sub hl [0, 1, 2, 3, 4, 5] rfl)
  refine lv_aload_n hx hb dX12_pivot_9 rfl (lv_at hl 1 rfl) ?_
  refine g_X12_103 Cx hW (k := 231) (by decide) rfl (v := .ref (G.2.2.1 + 262)) (rd_53 hI) dX12_pivot_10 ?_
  refine lv_iload_n hx hb dX12_pivot_13 rfl (lv_at hl 0 rfl) ?_
  refine rIald Cx hW (k := 262) (by decide) rfl (by decide) (by omega) (by omega) dX12_pivot_14 ?_
  have q_393 : (-2147483648) ≤ S.2.1 262 pp ∧ S.2.1 262 pp ≤ 2147483647 := hI.ai 262 pp
  refine r_i (b := S.2.1 262 pp) rfl ?_
  have hrd : S.2.1 262 (8 * (15 * (rr + 1) + ss)) = S.2.1 262 pp := congrArg (S.2.1 262) (by omega)
  refine r_if_ge (tgt := 22) hx hb ⟨(by omega), (by omega)⟩ dX12_pivot_15 (by decide) (fun c_394 => ?_) (fun c_394 => ?_)
  · refine lv_iconst (v := iv 0) hx hb dX12_pivot_22 (by decide) ?_
    exact join_23 0 _ _ _ (by omega) (by unfold TV; rw [show cl (rr + 1) ss = 8 * (15 * (rr + 1) + ss) from rfl]; omega) hW hL (lv_sub hl [0, 1, 2, 3] rfl)
  · refine lv_iconst (v := iv 1) hx hb dX12_pivot_18 (by decide) ?_
    refine lv_goto (tgt := 23) hx hb dX12_pivot_19 (by decide) ?_
    exact join_23 1 _ _ _ (by omega) (by unfold TV; rw [show cl (rr + 1) ss = 8 * (15 * (rr + 1) + ss) from rfl]; omega) hW hL (lv_sub hl [0, 1, 2, 3] rfl)
