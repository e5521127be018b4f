/-! The second reading: factors, products, sums -/
def FtC (l : Launch) (G : sG) (D : Nat) (K V Fm Wd : Int → Int) (T : Int) (N : Nat) : Prop := ∀ (S : sS) (pz q ix : Int), dX G S → S.2.1 244 = K → S.2.1 247 = V → S.2.1 245 = Fm → S.2.1 246 = Wd → S.1 231 24 = pz → (0 ≤ pz ∧ pz ≤ q ∧ q ≤ T - 1) → Hd (S.1 231 20 = 0 → gF K V N pz q) → Hd (S.1 231 20 = 0 → NX S T) → (S.1 231 20 = 0 → 3 * S.1 231 25 ≤ pz) → (0 ≤ ix ∧ ix + (39 * N) + 12 < 1820) → Met l yX12_factor (.code yX12_factor cX12_factor 3 none :: tb) (rmk D 0 0) (sPc G 294 S [.ref (G.2.2.1 + 231), .int (iv ix)]) (sQv G 294 (fun u => dX G u ∧ Fr S u (pl [231, 248, 249, 250, 251, 252, 257, 258]) ∧ FF S u (fl [20, 21, 24, 25, 42, 43]) ∧ ((pz ≤ u.1 231 24 ∧ u.1 231 24 ≤ q) ∧ NR S u (S.1 231 25) ∧ S.1 231 25 ≤ u.1 231 25 ∧ Hd (u.1 231 20 = 0 → S.1 231 20 = 0 ∧ u.1 231 24 = q ∧ u.1 231 25 = S.1 231 25 ∧ fB u ix)))) 0 0 (sF G)
def PdC (l : Launch) (G : sG) (D : Nat) (K V Fm Wd : Int → Int) (T : Int) (N : Nat) : Prop := ∀ (S : sS) (pz q ix : Int), dX G S → S.2.1 244 = K → S.2.1 247 = V → S.2.1 245 = Fm → S.2.1 246 = Wd → S.1 231 24 = pz → (0 ≤ pz ∧ pz ≤ q ∧ q ≤ T - 1) → Hd (S.1 231 20 = 0 → gP K V (gF K V N) pz q) → Hd (S.1 231 20 = 0 → NX S T) → (S.1 231 20 = 0 → 3 * S.1 231 25 ≤ pz) → (0 ≤ ix ∧ ix + (39 * N + 13) + 12 < 1820) → Met l yX12_product (.code yX12_product cX12_product 8 none :: tb) (rmk D 0 0) (sPc G 294 S [.ref (G.2.2.1 + 231), .int (iv ix)]) (sQv G 294 (fun u => dX G u ∧ Fr S u (pl [231, 248, 249, 250, 251, 252, 257, 258]) ∧ FF S u (fl [20, 21, 24, 25, 42, 43]) ∧ ((pz ≤ u.1 231 24 ∧ u.1 231 24 ≤ q) ∧ NR S u (S.1 231 25) ∧ S.1 231 25 ≤ u.1 231 25 ∧ Hd (u.1 231 20 = 0 → S.1 231 20 = 0 ∧ u.1 231 24 = q ∧ u.1 231 25 = S.1 231 25 ∧ fB u ix)))) 0 0 (sF G)
def EpC (l : Launch) (G : sG) (D : Nat) (K V Fm Wd : Int → Int) (T : Int) (N : Nat) : Prop := ∀ (S : sS) (pz q ix : Int), dX G S → S.2.1 244 = K → S.2.1 247 = V → S.2.1 245 = Fm → S.2.1 246 = Wd → S.1 231 24 = pz → (0 ≤ pz ∧ pz ≤ q ∧ q ≤ T - 1) → Hd (S.1 231 20 = 0 → gU K V (gF K V N) pz q) → Hd (S.1 231 20 = 0 → NX S T) → (S.1 231 20 = 0 → 3 * S.1 231 25 ≤ pz) → (0 ≤ ix ∧ ix + (39 * N + 26) + 12 < 1820) → Met l yX12_expression (.code yX12_expression cX12_expression 5 none :: tb) (rmk D 0 0) (sPc G 294 S [.ref (G.2.2.1 + 231), .int (iv ix)]) (sQv G 294 (fun u => dX G u ∧ Fr S u (pl [231, 248, 249, 250, 251, 252, 257, 258]) ∧ FF S u (fl [20, 21, 24, 25, 42, 43]) ∧ ((pz ≤ u.1 231 24 ∧ u.1 231 24 ≤ q) ∧ NR S u (S.1 231 25) ∧ S.1 231 25 ≤ u.1 231 25 ∧ Hd (u.1 231 20 = 0 → S.1 231 20 = 0 ∧ u.1 231 24 = q ∧ u.1 231 25 = S.1 231 25 ∧ fB u ix)))) 0 0 (sF G)
def gSm (K V : Int → Int) (n : Nat) (pz q : Int) : Prop := ∃ a, gk K 1 (pz + 1) a ∧ ∃ b, gw K V 8 a b ∧ ∃ c, gk K 1 b c ∧ ∃ d, gs K V 40 c d ∧ ∃ ed, gU K V (gF K V n) d ed ∧ gs K V 41 ed q
theorem gL_sp {st : Int → Prop} {F : Int → Int → Prop} (hF : ∀ c ed, F c ed → c < ed) {A : Prop} {pz q : Int} (h : Hd (A → gL st F pz q)) (hpq : pz ≤ q) : ∃ ed, (pz ≤ ed ∧ ed ≤ q) ∧ Hd (A → F pz ed) ∧ Hd (A → gTl st (fun c x => F (c + 1) x) ed q) := by
  by_cases a : A
  · obtain ⟨ed, f, t⟩ := h a
    have := hF _ _ f
    have := gTl_le (R := fun c x => F (c + 1) x) (fun c ed r => by have := hF _ _ r; omega) t
    exact ⟨ed, by omega, fun _ => f, fun _ => t⟩
  · exact ⟨pz, by omega, fun z => absurd z a, fun z => absurd z a⟩
theorem gP_tl {K V : Int → Int} {N : Nat} {st : Int → Prop} {c q : Int} (t : gTl st (fun c x => gF K V N (c + 1) x) c q) : c ≤ q := gTl_le (R := fun c x => gF K V N (c + 1) x) (fun c ed r => by have := gF_lt N r; omega) t
theorem gU_tl {K V : Int → Int} {N : Nat} {st : Int → Prop} {c q : Int} (t : gTl st (fun c x => gP K V (gF K V N) (c + 1) x) c q) : c ≤ q := gTl_le (R := fun c x => gP K V (gF K V N) (c + 1) x) (fun c ed r => by have := gP_lt r; omega) t
theorem fB.cg {S u : sS} {ix : Int} (h : fB S ix) (ed : u.2.2.1 257 = S.2.2.1 257) : fB u ix := fun k a b => by rw [ed]; exact h k a b
theorem gF_pos {K V : Int → Int} {N : Nat} {pz q : Int} (h : gF K V N pz q) : ∃ n, N = n + 1 := by
  cases N with
  | zero => exact (show False from h).elim
  | succ n => exact ⟨n, rfl⟩
theorem NX.add {S u : sS} {T tk so : Int} (h : NX S T) (r : nRW S u (S.1 231 25) tk so (-1) (-1) 0) (e25 : u.1 231 25 = S.1 231 25 + 1) (e32 : u.1 231 32 = S.1 231 32) (e35 : u.1 231 35 = S.1 231 35) (a253 : u.2.1 253 = S.2.1 253) (htk : 0 ≤ tk ∧ tk < T) (hso : so = 4 ∨ so = 5) : NX u T := by
  refine ⟨h.1.add r.nr e25 (by omega) (by omega) ?_, fun i i0 i1 => by rw [a253]; exact h.2.1 i i0 (by omega), by have := h.2.2; omega, by have := h.2.2; omega⟩
  obtain ⟨a, b, c, d, ed⟩ := r.at
  unfold nOK nSet
  rw [a, b, c, d, ed]
  refine ⟨htk, fun z => absurd z (by omega), fun z => absurd z (by omega), fun z => absurd z (by omega), fun z => absurd z (by omega), fun _ => by decide⟩
theorem NX.put5 {S u : sS} {T j v : Int} (h : NX S T) (h5 : S.2.1 249 j = 5) (hv : 0 ≤ v ∧ v ≤ 99999) (a248 : u.2.1 248 = S.2.1 248) (a249 : u.2.1 249 = S.2.1 249) (a250 : u.2.1 250 = S.2.1 250) (a251 : u.2.1 251 = S.2.1 251) (a252 : ∀ x, u.2.1 252 x = if x = j then v else S.2.1 252 x) (e25 : u.1 231 25 = S.1 231 25) (e32 : u.1 231 32 = S.1 231 32) (e35 : u.1 231 35 = S.1 231 35) (a253 : u.2.1 253 = S.2.1 253) : NX u T := by
  refine ⟨⟨by have := h.1.1; omega, fun i i0 i1 => ?_⟩, fun i i0 i1 => by rw [a253]; exact h.2.1 i i0 (by omega), by have := h.2.2; omega, by have := h.2.2; omega⟩
  have q := h.1.2 i i0 (by omega)
  unfold nOK nSet nIx nSz at *
  rw [a248, a249, a250, a251, e25, e32, e35, a252]
  by_cases z : i = j
  · rw [if_pos z]
    rw [z] at q ⊢
    exact ⟨q.1, q.2.1, q.2.2.1, fun y => absurd (h5.symm.trans y) (by decide), fun y => absurd (h5.symm.trans y) (by decide), fun _ => hv⟩
  · rw [if_neg z]; exact q
set_option maxRecDepth 100000 in
set_option maxHeartbeats 4000000 in
theorem s_X12_sum (l : Launch) (G : sG) (S : sS) {K V Fm Wd : Int → Int} {T : Int} {D d1 n : Nat} {pz q ix : Int} (hI : dX G S) (hK : S.2.1 244 = K) (hV : S.2.1 247 = V) (hFm : S.2.1 245 = Fm) (hWd : S.2.1 246 = Wd) (hQ : gQ K V Fm Wd T) (h1 : d1 < D) (h8 : 10 ≤ D) (hU : Hd (EpC l G d1 K V Fm Wd T n)) (h20 : S.1 231 20 = 0) (hc : S.1 231 24 = pz) (hpq : 0 ≤ pz ∧ pz ≤ q ∧ q ≤ T - 1) (hg : gSm K V n pz q) (hNX : Hd (S.1 231 20 = 0 → NX S T)) (h3 : S.1 231 20 = 0 → 3 * S.1 231 25 ≤ pz) (hix : 0 ≤ ix ∧ ix + 13 + (39 * n + 26) + 12 < 1820) : Met l yX12_sum (.code yX12_sum cX12_sum 9 none :: tb) (rmk D 0 0) (sPc G 294 S [.ref (G.2.2.1 + 231), .int (iv ix)]) (sQv G 294 (fun u => dX G u ∧ Fr S u (pl [231, 248, 249, 250, 251, 252, 257, 258]) ∧ FF S u (fl [20, 21, 24, 25, 42, 43]) ∧ ((pz ≤ u.1 231 24 ∧ u.1 231 24 ≤ q) ∧ NR S u (S.1 231 25) ∧ S.1 231 25 ≤ u.1 231 25 ∧ Hd (u.1 231 20 = 0 → S.1 231 20 = 0 ∧ u.1 231 24 = q ∧ u.1 231 25 = S.1 231 25 ∧ fB u ix)))) 0 0 (sF G) := by
  refine sEnter (by decide) (Nat.le_of_ble_eq_true rfl) ?_
  intro p e s m args below meth c Cx hr hlk hnm hW ls hl
  have Cx : sC G p m c cX12_sum 9 s args RX12 := Cx
  obtain ⟨hx, hb, hml, hown, hts⟩ := id Cx.1
  have hL : sL G [] := sL_nil
  have hl : lv_has ls 9 [(0, .ref (G.2.2.1 + 231)), (1, .int (iv ix))] := hl
  have hW0 := hW
  have hQ1 := hQ.1
  have hn0 := (hNX (by omega)).1.1
  have h39 := h3 (by omega)
  obtain ⟨_, ⟨hk1, rfl⟩, _, ⟨hw1, rfl⟩, _, ⟨hk2, rfl⟩, _, ⟨hs1, rfl⟩, ed, he, hs2⟩ := hg
  have hq2 := hs2.2
  have hlt := gU_lt he
  refine lv_aload_n hx hb dX12_sum_0 rfl (lv_at hl 0 rfl) ?_
  have q_1 : (-2147483648) ≤ S.1 231 24 ∧ S.1 231 24 ≤ 2147483647 := hI.fi 24
  refine g_X12_315 Cx hW (k := 231) (by decide) rfl (v := S.1 231 24) rfl dX12_sum_1 ?_
  refine lv_istore_n (lv' := [(2, .int (iv (S.1 231 24))), (0, .ref (G.2.2.1 + 231)), (1, .int (iv ix))]) hx hb dX12_sum_4 rfl hl (by decide) rfl (fun ls hl => ?_)
  refine lv_aload_n hx hb dX12_sum_5 rfl (lv_at hl 1 rfl) ?_
  refine lv_dup hx hb dX12_sum_6 rfl ?_
  refine g_X12_315 Cx hW (k := 231) (by decide) rfl (v := S.1 231 24) rfl dX12_sum_7 ?_
  refine lv_iconst (v := iv 1) hx hb dX12_sum_10 (by decide) ?_
  refine r_iadd hx hb dX12_sum_11 ?_
  refine p_X12_315 Cx hW hL (k := 231) (by decide) rfl dX12_sum_12 (fun H locs hW hL => ?_)
  have F_2 : Fr S (uF S 231 24 ((S.1 231 24) + 1)) (pl [231, 248, 249, 250, 251, 252, 257, 258]) := (Fr.rf : Fr S S (pl [231, 248, 249, 250, 251, 252, 257, 258])).F rfl
  have g_3 : FF S (uF S 231 24 ((S.1 231 24) + 1)) (fl [20, 21, 24, 25, 42, 43]) := FF.F FF.rf rfl
  have i_4 : dX G (uF S 231 24 ((S.1 231 24) + 1)) := hI.F (i := 24) (show (-2147483648) ≤ (S.1 231 24) + 1 ∧ (S.1 231 24) + 1 ≤ 2147483647 from ⟨by omega, by omega⟩)
  refine lv_aload_n hx hb dX12_sum_15 rfl (lv_at hl 1 rfl) ?_
  refine lv_aload_n hx hb dX12_sum_16 rfl (lv_at hl 1 rfl) ?_
  refine g_X12_315 Cx hW (k := 231) (by decide) rfl (v := (S.1 231 24) + 1) uF_on dX12_sum_17 ?_
  refine lv_iconst (v := iv 5) hx hb dX12_sum_20 (by decide) ?_
  have q_5 : (-2147483648) ≤ S.1 231 20 ∧ S.1 231 20 ≤ 2147483647 := hI.fi 20
  have lk_6 : (uF S 231 24 ((S.1 231 24) + 1)).1 231 20 = S.1 231 20 := uF_ne (fun h => absurd h.2 (by decide))
  have q_7 : (-2147483648) ≤ S.1 231 25 ∧ S.1 231 25 ≤ 2147483647 := hI.fi 25
  have lk_8 : (uF S 231 24 ((S.1 231 24) + 1)).1 231 25 = S.1 231 25 := uF_ne (fun h => absurd h.2 (by decide))
  refine sBi (sV (As := [.int (iv ((S.1 231 24) + 1)), .int (iv 5)]) (rest := []) (k := 231) Cx (s_X12_add_ l G (uF S 231 24 ((S.1 231 24) + 1)) (tk := (S.1 231 24) + 1) (so := 5) (K := K) (V := V) (Fm := Fm) (Wd := Wd) (T := T) i_4 ((funext fun j => uF_a : (uF S 231 24 ((S.1 231 24) + 1)).2.1 244 = S.2.1 244).trans hK) ((funext fun j => uF_a : (uF S 231 24 ((S.1 231 24) + 1)).2.1 247 = S.2.1 247).trans hV) ((funext fun j => uF_a : (uF S 231 24 ((S.1 231 24) + 1)).2.1 245 = S.2.1 245).trans hFm) ((funext fun j => uF_a : (uF S 231 24 ((S.1 231 24) + 1)).2.1 246 = S.2.1 246).trans hWd) hQ (fun h => ((fun h => (NX.cg (S := S) (u := (uF S 231 24 ((S.1 231 24) + 1))) (hNX (by have e9 := (show (uF S 231 24 ((S.1 231 24) + 1)).1 231 20 = S.1 231 20 from uF_ne (fun h => absurd h.2 (by decide))); omega)) (NR.eq (funext fun j => uF_a) (funext fun j => uF_a) (funext fun j => uF_a) (funext fun j => uF_a) (funext fun j => uF_a)) (uF_ne (fun h => absurd h.2 (by decide))) (uF_ne (fun h => absurd h.2 (by decide))) (uF_ne (fun h => absurd h.2 (by decide))) (funext fun j => uF_a))) h).nt) (fun _ => by omega) (by omega) (by omega)) (c_X12_404 Cx rfl rfl (rmk_ok (by omega) (by decide))) hW (by decide) rfl rfl rfl hl.1 rfl (Nat.le_of_ble_eq_true rfl) dX12_sum_21 ⟨Nat.le_of_ble_eq_true rfl, Nat.le_of_ble_eq_true rfl⟩) hL (fun r_11 u_9 H locs k_10 hW hL => ?_)
  obtain ⟨iu_9, fu_9, gu_9, xu_9⟩ := k_10
  have F_12 := F_2.trans (fu_9.to (pl_sub (by decide)))
  have g_13 : FF S u_9 (fl [20, 21, 24, 25, 42, 43]) := FF.trans g_3 (FF.to gu_9 (fl_sub (by decide)))
  refine lv_istore_n (lv' := [(3, .int (iv r_11)), (2, .int (iv (S.1 231 24))), (0, .ref (G.2.2.1 + 231)), (1, .int (iv ix))]) hx hb dX12_sum_24 rfl hl (by decide) rfl (fun ls hl => ?_)
  refine lv_aload_n hx hb dX12_sum_25 rfl (lv_at hl 2 rfl) ?_
  have q_14 : (-2147483648) ≤ u_9.1 231 20 ∧ u_9.1 231 20 ≤ 2147483647 := iu_9.fi 20
  refine g_X12_270 Cx hW (k := 231) (by decide) rfl (v := u_9.1 231 20) rfl dX12_sum_26 ?_
  refine r_if_eq (tgt := 33) hx hb ⟨(by omega), (by omega)⟩ dX12_sum_29 (by decide) (fun c_15 => ?_) (fun c_15 => ?_)
  · have a1 := xu_9.2.2 (by omega)
    have hnu : Hd (u_9.1 231 20 = 0 → NX u_9 T) := fun _ => NX.add (S := (uF S 231 24 ((S.1 231 24) + 1))) (so := 5) (tk := S.1 231 24 + 1) ((fun _ => (NX.cg (S := S) (u := (uF S 231 24 ((S.1 231 24) + 1))) (hNX (by omega)) (NR.eq (funext fun j => uF_a) (funext fun j => uF_a) (funext fun j => uF_a) (funext fun j => uF_a) (funext fun j => uF_a)) (uF_ne (fun h => absurd h.2 (by decide))) (uF_ne (fun h => absurd h.2 (by decide))) (uF_ne (fun h => absurd h.2 (by decide))) (funext fun j => uF_a))) (by omega)) a1.2.2.2 a1.2.2.1 (gu_9 32 rfl) (gu_9 35 rfl) (funext fun j => (fu_9 253 rfl).2.1 j) (by omega) (.inr rfl)
    have hsl : u_9.2.1 249 (S.1 231 25) = 5 := (nRW.at a1.2.2.2).2.1
    refine lv_aload_n hx hb dX12_sum_33 rfl (lv_at hl 2 rfl) ?_
    refine lv_dup hx hb dX12_sum_34 rfl ?_
    refine g_X12_315 Cx hW (k := 231) (by decide) rfl (v := (S.1 231 24) + 1) ((gu_9 24 rfl).trans (uF_on)) dX12_sum_35 ?_
    refine lv_iconst (v := iv 2) hx hb dX12_sum_38 (by decide) ?_
    refine r_iadd hx hb dX12_sum_39 ?_
    refine p_X12_315 Cx hW hL (k := 231) (by decide) rfl dX12_sum_40 (fun H locs hW hL => ?_)
    have F_16 : Fr S (uF u_9 231 24 (((S.1 231 24) + 1) + 2)) (pl [231, 248, 249, 250, 251, 252, 257, 258]) := F_12.F rfl
    have g_17 : FF S (uF u_9 231 24 (((S.1 231 24) + 1) + 2)) (fl [20, 21, 24, 25, 42, 43]) := FF.F g_13 rfl
    have i_18 : dX G (uF u_9 231 24 (((S.1 231 24) + 1) + 2)) := iu_9.F (i := 24) (show (-2147483648) ≤ ((S.1 231 24) + 1) + 2 ∧ ((S.1 231 24) + 1) + 2 ≤ 2147483647 from ⟨by omega, by omega⟩)
    refine lv_aload_n hx hb dX12_sum_43 rfl (lv_at hl 2 rfl) ?_
    have lk_19 : (uF u_9 231 24 (((S.1 231 24) + 1) + 2)).1 231 20 = u_9.1 231 20 := uF_ne (fun h => absurd h.2 (by decide))
    have q_20 : (-2147483648) ≤ u_9.1 231 25 ∧ u_9.1 231 25 ≤ 2147483647 := iu_9.fi 25
    have lk_21 : (uF u_9 231 24 (((S.1 231 24) + 1) + 2)).1 231 25 = u_9.1 231 25 := uF_ne (fun h => absurd h.2 (by decide))
    have lk_22 : (uF u_9 231 24 (((S.1 231 24) + 1) + 2)).1 231 24 = ((S.1 231 24) + 1) + 2 := uF_on
    refine sBi (sV (As := []) (rest := []) (k := 231) Cx (s_X12_setHere l G (uF u_9 231 24 (((S.1 231 24) + 1) + 2)) (K := K) (V := V) (Fm := Fm) (Wd := Wd) (T := T) (pz := ((pz) + 1) + 2) i_18 ((funext fun j => (uF_a).trans (((fu_9 244 rfl).2.1 j).trans (uF_a)) : (uF u_9 231 24 (((S.1 231 24) + 1) + 2)).2.1 244 = S.2.1 244).trans hK) ((funext fun j => (uF_a).trans (((fu_9 247 rfl).2.1 j).trans (uF_a)) : (uF u_9 231 24 (((S.1 231 24) + 1) + 2)).2.1 247 = S.2.1 247).trans hV) ((funext fun j => (uF_a).trans (((fu_9 245 rfl).2.1 j).trans (uF_a)) : (uF u_9 231 24 (((S.1 231 24) + 1) + 2)).2.1 245 = S.2.1 245).trans hFm) ((funext fun j => (uF_a).trans (((fu_9 246 rfl).2.1 j).trans (uF_a)) : (uF u_9 231 24 (((S.1 231 24) + 1) + 2)).2.1 246 = S.2.1 246).trans hWd) hQ (fun h => ((fun h => (NX.cg (S := u_9) (u := (uF u_9 231 24 (((S.1 231 24) + 1) + 2))) (hnu (by have e9 := (show (uF u_9 231 24 (((S.1 231 24) + 1) + 2)).1 231 20 = u_9.1 231 20 from uF_ne (fun h => absurd h.2 (by decide))); omega)) (NR.eq (funext fun j => uF_a) (funext fun j => uF_a) (funext fun j => uF_a) (funext fun j => uF_a) (funext fun j => uF_a)) (uF_ne (fun h => absurd h.2 (by decide))) (uF_ne (fun h => absurd h.2 (by decide))) (uF_ne (fun h => absurd h.2 (by decide))) (funext fun j => uF_a))) h).nt) (fun _ => by omega) (by omega) (by omega)) (c_X12_364 Cx rfl rfl (rmk_ok (by omega) (by decide))) hW (by decide) rfl rfl rfl hl.1 rfl (Nat.le_of_ble_eq_true rfl) dX12_sum_44 ⟨Nat.le_of_ble_eq_true rfl, Nat.le_of_ble_eq_true rfl⟩) hL (fun s4 u_23 H locs k_24 hW hL => ?_)
    obtain ⟨iu_23, fu_23, gu_23, xu_23⟩ := k_24
    have F_25 := F_16.trans (fu_23.to (pl_sub (by decide)))
    have g_26 : FF S u_23 (fl [20, 21, 24, 25, 42, 43]) := FF.trans g_17 (FF.to gu_23 (fl_sub (by decide)))
    refine lv_istore (lv' := [(4, .int (iv s4)), (3, .int (iv r_11)), (2, .int (iv (S.1 231 24))), (0, .ref (G.2.2.1 + 231)), (1, .int (iv ix))]) hx hb dX12_sum_47 hl (by decide) rfl (fun ls hl => ?_)
    refine lv_aload_n hx hb dX12_sum_49 rfl (lv_at hl 3 rfl) ?_
    have q_27 : (-2147483648) ≤ u_23.1 231 20 ∧ u_23.1 231 20 ≤ 2147483647 := iu_23.fi 20
    refine g_X12_270 Cx hW (k := 231) (by decide) rfl (v := u_23.1 231 20) rfl dX12_sum_50 ?_
    refine r_if_eq (tgt := 57) hx hb ⟨(by omega), (by omega)⟩ dX12_sum_53 (by decide) (fun c_28 => ?_) (fun c_28 => ?_)
    · have a2 := xu_23.2.2 (by omega)
      have hs4 : s4 < S.1 231 25 := by by_cases z : s4 = S.1 231 25; (exfalso; have y := a2.2.2.2.2; rw [show (uF u_9 231 24 (((S.1 231 24) + 1) + 2)).2.1 249 s4 = u_9.2.1 249 s4 from uF_a, z, hsl] at y; exact absurd y (by decide)); omega
      have hs5 : S.2.1 249 s4 = 1 := by have y := a2.2.2.2.2; rw [show (uF u_9 231 24 (((S.1 231 24) + 1) + 2)).2.1 249 s4 = u_9.2.1 249 s4 from uF_a, (a1.2.2.2.nr s4 (by omega) hs4).2.1] at y; exact y
      have hst := ((hNX (by omega)).1.2 s4 (by omega) hs4).2.1 hs5
      have hq50 : u_9.2.1 250 s4 = S.2.1 250 s4 := (a1.2.2.2.nr s4 (by omega) hs4).2.2.1
      refine lv_aload_n hx hb dX12_sum_57 rfl (lv_at hl 3 rfl) ?_
      refine lv_dup hx hb dX12_sum_58 rfl ?_
      have q_29 : (-2147483648) ≤ u_23.1 231 24 ∧ u_23.1 231 24 ≤ 2147483647 := iu_23.fi 24
      refine g_X12_315 Cx hW (k := 231) (by decide) rfl (v := u_23.1 231 24) rfl dX12_sum_59 ?_
      refine lv_iconst (v := iv 1) hx hb dX12_sum_62 (by decide) ?_
      refine r_iadd hx hb dX12_sum_63 ?_
      refine p_X12_315 Cx hW hL (k := 231) (by decide) rfl dX12_sum_64 (fun H locs hW hL => ?_)
      have F_30 : Fr S (uF u_23 231 24 ((u_23.1 231 24) + 1)) (pl [231, 248, 249, 250, 251, 252, 257, 258]) := F_25.F rfl
      have g_31 : FF S (uF u_23 231 24 ((u_23.1 231 24) + 1)) (fl [20, 21, 24, 25, 42, 43]) := FF.F g_26 rfl
      have i_32 : dX G (uF u_23 231 24 ((u_23.1 231 24) + 1)) := iu_23.F (i := 24) (show (-2147483648) ≤ (u_23.1 231 24) + 1 ∧ (u_23.1 231 24) + 1 ≤ 2147483647 from ⟨by omega, by omega⟩)
      refine lv_aload_n hx hb dX12_sum_67 rfl (lv_at hl 3 rfl) ?_
      refine g_X12_315 Cx hW (k := 231) (by decide) rfl (v := (u_23.1 231 24) + 1) uF_on dX12_sum_68 ?_
      refine lv_istore (lv' := [(5, .int (iv ((u_23.1 231 24) + 1))), (4, .int (iv s4)), (3, .int (iv r_11)), (2, .int (iv (S.1 231 24))), (0, .ref (G.2.2.1 + 231)), (1, .int (iv ix))]) hx hb dX12_sum_71 hl (by decide) rfl (fun ls hl => ?_)
      refine lv_iload_n hx hb dX12_sum_73 rfl (lv_at hl 5 rfl) ?_
      refine lv_bipush (v := iv 12) hx hb dX12_sum_74 (by decide) ?_
      refine r_iadd hx hb dX12_sum_76 ?_
      refine lv_iconst (v := iv 1) hx hb dX12_sum_77 (by decide) ?_
      refine r_iadd hx hb dX12_sum_78 ?_
      refine lv_istore (lv' := [(6, .int (iv ((ix + 12) + 1))), (5, .int (iv ((u_23.1 231 24) + 1))), (4, .int (iv s4)), (3, .int (iv r_11)), (2, .int (iv (S.1 231 24))), (0, .ref (G.2.2.1 + 231)), (1, .int (iv ix))]) hx hb dX12_sum_79 hl (by decide) rfl (fun ls hl => ?_)
      refine lv_aload_n hx hb dX12_sum_81 rfl (lv_at hl 5 rfl) ?_
      refine lv_iload_n hx hb dX12_sum_82 rfl (lv_at hl 6 rfl) ?_
      refine lv_lconst (v := jv 0) hx hb dX12_sum_83 (by decide) ?_
      refine sBv (sV (As := [.int (iv ix), .long (jv 0)]) (rest := []) (k := 231) Cx (s_X12_constant l G (uF u_23 231 24 ((u_23.1 231 24) + 1)) (ix := ix) (v := 0) i_32 (by omega) (by omega)) (c_X12_431 Cx rfl rfl (rmk_ok (by omega) (by decide))) hW (by decide) rfl rfl rfl hl.1 rfl (Nat.le_of_ble_eq_true rfl) dX12_sum_84 ⟨Nat.le_of_ble_eq_true rfl, Nat.le_of_ble_eq_true rfl⟩) hL (fun u_33 H locs k_34 hW hL => ?_)
      obtain ⟨iu_33, fu_33, gu_33, xu_33⟩ := k_34
      have F_35 := F_30.trans (fu_33.to (pl_sub (by decide)))
      have g_36 : FF S u_33 (fl [20, 21, 24, 25, 42, 43]) := FF.trans g_31 (FF.to gu_33 (fl_sub (by decide)))
      refine lv_aload_n hx hb dX12_sum_87 rfl (lv_at hl 5 rfl) ?_
      refine g_X12_65 Cx hW (k := 231) (by decide) rfl (v := .ref (G.2.2.1 + 250)) (rd_28 iu_33) dX12_sum_88 ?_
      refine lv_iload hx hb dX12_sum_91 (lv_at hl 2 rfl) ?_
      refine rIald Cx hW (k := 250) (by decide) rfl (by decide) (by omega) (by omega) dX12_sum_93 ?_
      have q_37 : (-2147483648) ≤ u_9.2.1 250 s4 ∧ u_9.2.1 250 s4 ≤ 2147483647 := iu_9.ai 250 s4
      refine r_i (b := u_9.2.1 250 s4) (((fu_33 250 rfl).2.1 s4).trans ((uF_a).trans (((fu_23 250 rfl).2.1 s4).trans (uF_a)))) ?_
      refine lv_istore (lv' := [(7, .int (iv (u_9.2.1 250 s4))), (6, .int (iv ((ix + 12) + 1))), (5, .int (iv ((u_23.1 231 24) + 1))), (4, .int (iv s4)), (3, .int (iv r_11)), (2, .int (iv (S.1 231 24))), (0, .ref (G.2.2.1 + 231)), (1, .int (iv ix))]) hx hb dX12_sum_94 hl (by decide) rfl (fun ls hl => ?_)
      have loop_96 : ∀ (fuel : Nat) (S96 : sS) (va : Int) (H : Heap) (locs : List Loc) (ls : Array Slot), (S.2.1 251 s4 + 1 - va).toNat < fuel → (dX G S96) → (Fr S S96 (pl [231, 248, 249, 250, 251, 252, 257, 258])) → (Fr u_33 S96 (pl [231, 248, 249, 250, 251, 252, 257, 258])) → (FF S S96 (fl [20, 21, 24, 25, 42, 43])) → (FF u_33 S96 (fl [20, 21, 24, 25, 42, 43])) → (S.2.1 250 s4 ≤ va ∧ va ≤ S.2.1 251 s4 + 1) → (NR S S96 (S.1 231 25)) → (S.1 231 25 + 1 ≤ S96.1 231 25) → (pz ≤ S96.1 231 24 ∧ S96.1 231 24 ≤ ed + 0) → (Hd (S96.1 231 20 = 0 → NX S96 T ∧ S96.1 231 25 = S.1 231 25 + 1 ∧ S96.2.1 249 (S.1 231 25) = 5 ∧ (S.2.1 250 s4 < va → S96.1 231 24 = ed) ∧ fB S96 ix)) → sW G 294 S96 H → sL G locs → lv_has ls 9 [(7, .int (iv va)), (6, .int (iv ((ix + 12) + 1))), (5, .int (iv ((u_23.1 231 24) + 1))), (4, .int (iv s4)), (3, .int (iv r_11)), (2, .int (iv (S.1 231 24))), (0, .ref (G.2.2.1 + 231)), (1, .int (iv ix))] → W p l e (rmk D 0 0) s m args below meth c H locs 0 0 (MQ below (sQv G 294 (fun u => dX G u ∧ Fr S u (pl [231, 248, 249, 250, 251, 252, 257, 258]) ∧ FF S u (fl [20, 21, 24, 25, 42, 43]) ∧ ((pz ≤ u.1 231 24 ∧ u.1 231 24 ≤ q) ∧ NR S u (S.1 231 25) ∧ S.1 231 25 ≤ u.1 231 25 ∧ Hd (u.1 231 20 = 0 → S.1 231 20 = 0 ∧ u.1 231 24 = q ∧ u.1 231 25 = S.1 231 25 ∧ fB u ix)))) args s 0 0 (sF G)) (F0 m 96 ls []) := by
        intro fuel
        induction fuel with
        | zero => intro S96 va H locs ls hmeas hI96 hFm96 hL96_ hGm96 gL96_ hva hR96 h25_96 hc96 hN96 hW hL hl; exact absurd hmeas (Nat.not_lt_zero _)
        | succ fuel ih_96 =>
          intro S96 va H locs ls hmeas hI96 hFm96 hL96_ hGm96 gL96_ hva hR96 h25_96 hc96 hN96 hW hL hl
          have hq96 := hR96 s4 (by omega) hs4
          refine lv_iload hx hb dX12_sum_96 (lv_at hl 0 rfl) ?_
          refine lv_aload_n hx hb dX12_sum_98 rfl (lv_at hl 6 rfl) ?_
          refine g_X12_68 Cx hW (k := 231) (by decide) rfl (v := .ref (G.2.2.1 + 251)) (rd_29 hI96) dX12_sum_99 ?_
          refine lv_iload hx hb dX12_sum_102 (lv_at hl 3 rfl) ?_
          refine rIald Cx hW (k := 251) (by decide) rfl (by decide) (by omega) (by omega) dX12_sum_104 ?_
          have q_38 : (-2147483648) ≤ S96.2.1 251 s4 ∧ S96.2.1 251 s4 ≤ 2147483647 := hI96.ai 251 s4
          refine r_i (b := S96.2.1 251 s4) rfl ?_
          refine r_icmp_gt (tgt := 201) hx hb ⟨(by omega), (by omega)⟩ ⟨(by omega), (by omega)⟩ dX12_sum_105 (by decide) (fun c_39 => ?_) (fun c_39 => ?_)
          · refine lv_aload_n hx hb dX12_sum_201 rfl (lv_at hl 6 rfl) ?_
            refine lv_dup hx hb dX12_sum_202 rfl ?_
            have q_40 : (-2147483648) ≤ S96.1 231 25 ∧ S96.1 231 25 ≤ 2147483647 := hI96.fi 25
            refine g_X12_358 Cx hW (k := 231) (by decide) rfl (v := S96.1 231 25) rfl dX12_sum_203 ?_
            refine lv_iconst (v := iv 1) hx hb dX12_sum_206 (by decide) ?_
            refine r_isub hx hb dX12_sum_207 ?_
            refine p_X12_358 Cx hW hL (k := 231) (by decide) rfl dX12_sum_208 (fun H locs hW hL => ?_)
            have F_41 : Fr S (uF S96 231 25 ((S96.1 231 25) - 1)) (pl [231, 248, 249, 250, 251, 252, 257, 258]) := hFm96.F rfl
            have F_42 : Fr u_33 (uF S96 231 25 ((S96.1 231 25) - 1)) (pl [231, 248, 249, 250, 251, 252, 257, 258]) := hL96_.F rfl
            have g_43 : FF S (uF S96 231 25 ((S96.1 231 25) - 1)) (fl [20, 21, 24, 25, 42, 43]) := FF.F hGm96 rfl
            have g_44 : FF u_33 (uF S96 231 25 ((S96.1 231 25) - 1)) (fl [20, 21, 24, 25, 42, 43]) := FF.F gL96_ rfl
            have i_45 : dX G (uF S96 231 25 ((S96.1 231 25) - 1)) := hI96.F (i := 25) (show (-2147483648) ≤ (S96.1 231 25) - 1 ∧ (S96.1 231 25) - 1 ≤ 2147483647 from ⟨by omega, by omega⟩)
            refine lv_aload_n hx hb dX12_sum_211 rfl (lv_at hl 6 rfl) ?_
            refine lv_dup hx hb dX12_sum_212 rfl ?_
            have q_46 : (-2147483648) ≤ S96.1 231 24 ∧ S96.1 231 24 ≤ 2147483647 := hI96.fi 24
            refine g_X12_315 Cx hW (k := 231) (by decide) rfl (v := S96.1 231 24) (uF_ne (fun h => absurd h.2 (by decide))) dX12_sum_213 ?_
            refine lv_iconst (v := iv 1) hx hb dX12_sum_216 (by decide) ?_
            refine r_iadd hx hb dX12_sum_217 ?_
            refine p_X12_315 Cx hW hL (k := 231) (by decide) rfl dX12_sum_218 (fun H locs hW hL => ?_)
            have F_47 : Fr S (uF (uF S96 231 25 ((S96.1 231 25) - 1)) 231 24 ((S96.1 231 24) + 1)) (pl [231, 248, 249, 250, 251, 252, 257, 258]) := F_41.F rfl
            have F_48 : Fr u_33 (uF (uF S96 231 25 ((S96.1 231 25) - 1)) 231 24 ((S96.1 231 24) + 1)) (pl [231, 248, 249, 250, 251, 252, 257, 258]) := F_42.F rfl
            have g_49 : FF S (uF (uF S96 231 25 ((S96.1 231 25) - 1)) 231 24 ((S96.1 231 24) + 1)) (fl [20, 21, 24, 25, 42, 43]) := FF.F g_43 rfl
            have g_50 : FF u_33 (uF (uF S96 231 25 ((S96.1 231 25) - 1)) 231 24 ((S96.1 231 24) + 1)) (fl [20, 21, 24, 25, 42, 43]) := FF.F g_44 rfl
            have i_51 : dX G (uF (uF S96 231 25 ((S96.1 231 25) - 1)) 231 24 ((S96.1 231 24) + 1)) := i_45.F (i := 24) (show (-2147483648) ≤ (S96.1 231 24) + 1 ∧ (S96.1 231 24) + 1 ≤ 2147483647 from ⟨by omega, by omega⟩)
            have lk_52 : (uF (uF S96 231 25 ((S96.1 231 25) - 1)) 231 24 ((S96.1 231 24) + 1)).1 231 24 = (S96.1 231 24) + 1 := uF_on
            have lk_53 : (uF (uF S96 231 25 ((S96.1 231 25) - 1)) 231 24 ((S96.1 231 24) + 1)).1 231 25 = (S96.1 231 25) - 1 := (uF_ne (fun h => absurd h.2 (by decide))).trans (uF_on)
            have q_54 : (-2147483648) ≤ S96.1 231 20 ∧ S96.1 231 20 ≤ 2147483647 := hI96.fi 20
            have lk_55 : (uF (uF S96 231 25 ((S96.1 231 25) - 1)) 231 24 ((S96.1 231 24) + 1)).1 231 20 = S96.1 231 20 := (uF_ne (fun h => absurd h.2 (by decide))).trans (uF_ne (fun h => absurd h.2 (by decide)))
            exact sVret Cx hr hlk hW hL ⟨i_51, F_47, g_49, ⟨(by have e7 := (show (uF (uF S96 231 25 ((S96.1 231 25) - 1)) 231 24 ((S96.1 231 24) + 1)).1 231 24 = (S96.1 231 24) + 1 from uF_on); have e6 := (show (uF (uF S96 231 25 ((S96.1 231 25) - 1)) 231 24 ((S96.1 231 24) + 1)).1 231 25 = (S96.1 231 25) - 1 from (uF_ne (fun h => absurd h.2 (by decide))).trans (uF_on)); have e8 := (show (uF (uF S96 231 25 ((S96.1 231 25) - 1)) 231 24 ((S96.1 231 24) + 1)).1 231 20 = S96.1 231 20 from (uF_ne (fun h => absurd h.2 (by decide))).trans (uF_ne (fun h => absurd h.2 (by decide)))); omega), (NR.trans hR96 (NR.eq (S := S96) (u := (uF (uF S96 231 25 ((S96.1 231 25) - 1)) 231 24 ((S96.1 231 24) + 1))) (funext fun j => (uF_a).trans (uF_a)) (funext fun j => (uF_a).trans (uF_a)) (funext fun j => (uF_a).trans (uF_a)) (funext fun j => (uF_a).trans (uF_a)) (funext fun j => (uF_a).trans (uF_a)))), (by have e7 := (show (uF (uF S96 231 25 ((S96.1 231 25) - 1)) 231 24 ((S96.1 231 24) + 1)).1 231 24 = (S96.1 231 24) + 1 from uF_on); have e6 := (show (uF (uF S96 231 25 ((S96.1 231 25) - 1)) 231 24 ((S96.1 231 24) + 1)).1 231 25 = (S96.1 231 25) - 1 from (uF_ne (fun h => absurd h.2 (by decide))).trans (uF_on)); have e8 := (show (uF (uF S96 231 25 ((S96.1 231 25) - 1)) 231 24 ((S96.1 231 24) + 1)).1 231 20 = S96.1 231 20 from (uF_ne (fun h => absurd h.2 (by decide))).trans (uF_ne (fun h => absurd h.2 (by decide)))); omega), (fun h => by have e7 := (show (uF (uF S96 231 25 ((S96.1 231 25) - 1)) 231 24 ((S96.1 231 24) + 1)).1 231 24 = (S96.1 231 24) + 1 from uF_on); have e6 := (show (uF (uF S96 231 25 ((S96.1 231 25) - 1)) 231 24 ((S96.1 231 24) + 1)).1 231 25 = (S96.1 231 25) - 1 from (uF_ne (fun h => absurd h.2 (by decide))).trans (uF_on)); have e8 := (show (uF (uF S96 231 25 ((S96.1 231 25) - 1)) 231 24 ((S96.1 231 24) + 1)).1 231 20 = S96.1 231 20 from (uF_ne (fun h => absurd h.2 (by decide))).trans (uF_ne (fun h => absurd h.2 (by decide)))); have b96 := hN96 (by omega); have b95 := b96.2.2.2.1 (by omega); exact ⟨by omega, by omega, by omega, (fB.cg (S := S96) b96.2.2.2.2 (funext fun j => (uF_l).trans (uF_l)))⟩)⟩⟩ dX12_sum_221
          · refine lv_aload_n hx hb dX12_sum_108 rfl (lv_at hl 6 rfl) ?_
            have q_56 : (-2147483648) ≤ S96.1 231 20 ∧ S96.1 231 20 ≤ 2147483647 := hI96.fi 20
            refine g_X12_270 Cx hW (k := 231) (by decide) rfl (v := S96.1 231 20) rfl dX12_sum_109 ?_
            refine r_if_ne (tgt := 201) hx hb ⟨(by omega), (by omega)⟩ dX12_sum_112 (by decide) (fun c_57 => ?_) (fun c_57 => ?_)
            · refine lv_aload_n hx hb dX12_sum_201 rfl (lv_at hl 6 rfl) ?_
              refine lv_dup hx hb dX12_sum_202 rfl ?_
              have q_58 : (-2147483648) ≤ S96.1 231 25 ∧ S96.1 231 25 ≤ 2147483647 := hI96.fi 25
              refine g_X12_358 Cx hW (k := 231) (by decide) rfl (v := S96.1 231 25) rfl dX12_sum_203 ?_
              refine lv_iconst (v := iv 1) hx hb dX12_sum_206 (by decide) ?_
              refine r_isub hx hb dX12_sum_207 ?_
              refine p_X12_358 Cx hW hL (k := 231) (by decide) rfl dX12_sum_208 (fun H locs hW hL => ?_)
              have F_59 : Fr S (uF S96 231 25 ((S96.1 231 25) - 1)) (pl [231, 248, 249, 250, 251, 252, 257, 258]) := hFm96.F rfl
              have F_60 : Fr u_33 (uF S96 231 25 ((S96.1 231 25) - 1)) (pl [231, 248, 249, 250, 251, 252, 257, 258]) := hL96_.F rfl
              have g_61 : FF S (uF S96 231 25 ((S96.1 231 25) - 1)) (fl [20, 21, 24, 25, 42, 43]) := FF.F hGm96 rfl
              have g_62 : FF u_33 (uF S96 231 25 ((S96.1 231 25) - 1)) (fl [20, 21, 24, 25, 42, 43]) := FF.F gL96_ rfl
              have i_63 : dX G (uF S96 231 25 ((S96.1 231 25) - 1)) := hI96.F (i := 25) (show (-2147483648) ≤ (S96.1 231 25) - 1 ∧ (S96.1 231 25) - 1 ≤ 2147483647 from ⟨by omega, by omega⟩)
              refine lv_aload_n hx hb dX12_sum_211 rfl (lv_at hl 6 rfl) ?_
              refine lv_dup hx hb dX12_sum_212 rfl ?_
              have q_64 : (-2147483648) ≤ S96.1 231 24 ∧ S96.1 231 24 ≤ 2147483647 := hI96.fi 24
              refine g_X12_315 Cx hW (k := 231) (by decide) rfl (v := S96.1 231 24) (uF_ne (fun h => absurd h.2 (by decide))) dX12_sum_213 ?_
              refine lv_iconst (v := iv 1) hx hb dX12_sum_216 (by decide) ?_
              refine r_iadd hx hb dX12_sum_217 ?_
              refine p_X12_315 Cx hW hL (k := 231) (by decide) rfl dX12_sum_218 (fun H locs hW hL => ?_)
              have F_65 : Fr S (uF (uF S96 231 25 ((S96.1 231 25) - 1)) 231 24 ((S96.1 231 24) + 1)) (pl [231, 248, 249, 250, 251, 252, 257, 258]) := F_59.F rfl
              have F_66 : Fr u_33 (uF (uF S96 231 25 ((S96.1 231 25) - 1)) 231 24 ((S96.1 231 24) + 1)) (pl [231, 248, 249, 250, 251, 252, 257, 258]) := F_60.F rfl
              have g_67 : FF S (uF (uF S96 231 25 ((S96.1 231 25) - 1)) 231 24 ((S96.1 231 24) + 1)) (fl [20, 21, 24, 25, 42, 43]) := FF.F g_61 rfl
              have g_68 : FF u_33 (uF (uF S96 231 25 ((S96.1 231 25) - 1)) 231 24 ((S96.1 231 24) + 1)) (fl [20, 21, 24, 25, 42, 43]) := FF.F g_62 rfl
              have i_69 : dX G (uF (uF S96 231 25 ((S96.1 231 25) - 1)) 231 24 ((S96.1 231 24) + 1)) := i_63.F (i := 24) (show (-2147483648) ≤ (S96.1 231 24) + 1 ∧ (S96.1 231 24) + 1 ≤ 2147483647 from ⟨by omega, by omega⟩)
              have lk_70 : (uF (uF S96 231 25 ((S96.1 231 25) - 1)) 231 24 ((S96.1 231 24) + 1)).1 231 24 = (S96.1 231 24) + 1 := uF_on
              have lk_71 : (uF (uF S96 231 25 ((S96.1 231 25) - 1)) 231 24 ((S96.1 231 24) + 1)).1 231 25 = (S96.1 231 25) - 1 := (uF_ne (fun h => absurd h.2 (by decide))).trans (uF_on)
              have lk_72 : (uF (uF S96 231 25 ((S96.1 231 25) - 1)) 231 24 ((S96.1 231 24) + 1)).1 231 20 = S96.1 231 20 := (uF_ne (fun h => absurd h.2 (by decide))).trans (uF_ne (fun h => absurd h.2 (by decide)))
              exact sVret Cx hr hlk hW hL ⟨i_69, F_65, g_67, ⟨(by have e7 := (show (uF (uF S96 231 25 ((S96.1 231 25) - 1)) 231 24 ((S96.1 231 24) + 1)).1 231 24 = (S96.1 231 24) + 1 from uF_on); have e6 := (show (uF (uF S96 231 25 ((S96.1 231 25) - 1)) 231 24 ((S96.1 231 24) + 1)).1 231 25 = (S96.1 231 25) - 1 from (uF_ne (fun h => absurd h.2 (by decide))).trans (uF_on)); have e8 := (show (uF (uF S96 231 25 ((S96.1 231 25) - 1)) 231 24 ((S96.1 231 24) + 1)).1 231 20 = S96.1 231 20 from (uF_ne (fun h => absurd h.2 (by decide))).trans (uF_ne (fun h => absurd h.2 (by decide)))); omega), (NR.trans hR96 (NR.eq (S := S96) (u := (uF (uF S96 231 25 ((S96.1 231 25) - 1)) 231 24 ((S96.1 231 24) + 1))) (funext fun j => (uF_a).trans (uF_a)) (funext fun j => (uF_a).trans (uF_a)) (funext fun j => (uF_a).trans (uF_a)) (funext fun j => (uF_a).trans (uF_a)) (funext fun j => (uF_a).trans (uF_a)))), (by have e7 := (show (uF (uF S96 231 25 ((S96.1 231 25) - 1)) 231 24 ((S96.1 231 24) + 1)).1 231 24 = (S96.1 231 24) + 1 from uF_on); have e6 := (show (uF (uF S96 231 25 ((S96.1 231 25) - 1)) 231 24 ((S96.1 231 24) + 1)).1 231 25 = (S96.1 231 25) - 1 from (uF_ne (fun h => absurd h.2 (by decide))).trans (uF_on)); have e8 := (show (uF (uF S96 231 25 ((S96.1 231 25) - 1)) 231 24 ((S96.1 231 24) + 1)).1 231 20 = S96.1 231 20 from (uF_ne (fun h => absurd h.2 (by decide))).trans (uF_ne (fun h => absurd h.2 (by decide)))); omega), (fun h => by have e7 := (show (uF (uF S96 231 25 ((S96.1 231 25) - 1)) 231 24 ((S96.1 231 24) + 1)).1 231 24 = (S96.1 231 24) + 1 from uF_on); have e6 := (show (uF (uF S96 231 25 ((S96.1 231 25) - 1)) 231 24 ((S96.1 231 24) + 1)).1 231 25 = (S96.1 231 25) - 1 from (uF_ne (fun h => absurd h.2 (by decide))).trans (uF_on)); have e8 := (show (uF (uF S96 231 25 ((S96.1 231 25) - 1)) 231 24 ((S96.1 231 24) + 1)).1 231 20 = S96.1 231 20 from (uF_ne (fun h => absurd h.2 (by decide))).trans (uF_ne (fun h => absurd h.2 (by decide)))); have b96 := hN96 (by omega); have b95 := b96.2.2.2.1 (by omega); exact ⟨by omega, by omega, by omega, (fB.cg (S := S96) b96.2.2.2.2 (funext fun j => (uF_l).trans (uF_l)))⟩)⟩⟩ dX12_sum_221
            · have b96 := hN96 (by omega)
              have w96 := b96.2.2.1
              refine lv_aload_n hx hb dX12_sum_115 rfl (lv_at hl 6 rfl) ?_
              refine g_X12_71 Cx hW (k := 231) (by decide) rfl (v := .ref (G.2.2.1 + 252)) (rd_30 hI96) dX12_sum_116 ?_
              refine lv_iload_n hx hb dX12_sum_119 rfl (lv_at hl 4 rfl) ?_
              refine lv_iload hx hb dX12_sum_120 (lv_at hl 0 rfl) ?_
              refine rIast Cx hW hL (k := 252) (by decide) rfl (by decide) (by omega) (by omega) dX12_sum_122 (fun H locs hW hL => ?_)
              have F_73 : Fr S (uA S96 252 r_11 va) (pl [231, 248, 249, 250, 251, 252, 257, 258]) := hFm96.A rfl
              have F_74 : Fr u_33 (uA S96 252 r_11 va) (pl [231, 248, 249, 250, 251, 252, 257, 258]) := hL96_.A rfl
              have i_75 : dX G (uA S96 252 r_11 va) := hI96.A (k := 252) (show (-2147483648) ≤ va ∧ va ≤ 2147483647 from ⟨by omega, by omega⟩)
              have hnv : Hd ((uA S96 252 r_11 va).1 231 20 = 0 → NX (uA S96 252 r_11 va) T) := fun _ => NX.put5 (S := S96) (j := S.1 231 25) (v := va) b96.1 w96 (by omega) rfl rfl rfl rfl (fun x => by rw [uA_get]; by_cases z : x = S.1 231 25; (rw [if_pos ⟨rfl, (by omega)⟩, if_pos z]); rw [if_neg (fun h => z (by have := h.2; omega)), if_neg z]) rfl rfl rfl rfl
              refine lv_aload_n hx hb dX12_sum_123 rfl (lv_at hl 6 rfl) ?_
              refine lv_iload hx hb dX12_sum_124 (lv_at hl 2 rfl) ?_
              refine p_X12_315 Cx hW hL (k := 231) (by decide) rfl dX12_sum_126 (fun H locs hW hL => ?_)
              have F_76 : Fr S (uF (uA S96 252 r_11 va) 231 24 ((u_23.1 231 24) + 1)) (pl [231, 248, 249, 250, 251, 252, 257, 258]) := F_73.F rfl
              have F_77 : Fr u_33 (uF (uA S96 252 r_11 va) 231 24 ((u_23.1 231 24) + 1)) (pl [231, 248, 249, 250, 251, 252, 257, 258]) := F_74.F rfl
              have g_78 : FF S (uF (uA S96 252 r_11 va) 231 24 ((u_23.1 231 24) + 1)) (fl [20, 21, 24, 25, 42, 43]) := FF.F hGm96 rfl
              have g_79 : FF u_33 (uF (uA S96 252 r_11 va) 231 24 ((u_23.1 231 24) + 1)) (fl [20, 21, 24, 25, 42, 43]) := FF.F gL96_ rfl
              have i_80 : dX G (uF (uA S96 252 r_11 va) 231 24 ((u_23.1 231 24) + 1)) := i_75.F (i := 24) (show (-2147483648) ≤ (u_23.1 231 24) + 1 ∧ (u_23.1 231 24) + 1 ≤ 2147483647 from ⟨by omega, by omega⟩)
              refine lv_aload_n hx hb dX12_sum_129 rfl (lv_at hl 6 rfl) ?_
              refine lv_iload hx hb dX12_sum_130 (lv_at hl 1 rfl) ?_
              have lk_81 : (uF (uA S96 252 r_11 va) 231 24 ((u_23.1 231 24) + 1)).1 231 24 = (u_23.1 231 24) + 1 := uF_on
              have lk_82 : (uF (uA S96 252 r_11 va) 231 24 ((u_23.1 231 24) + 1)).1 231 20 = S96.1 231 20 := (uF_ne (fun h => absurd h.2 (by decide))).trans (uA_f)
              have q_83 : (-2147483648) ≤ S96.1 231 25 ∧ S96.1 231 25 ≤ 2147483647 := hI96.fi 25
              have lk_84 : (uF (uA S96 252 r_11 va) 231 24 ((u_23.1 231 24) + 1)).1 231 25 = S96.1 231 25 := (uF_ne (fun h => absurd h.2 (by decide))).trans (uA_f)
              refine sBv (sV (As := [.int (iv ((ix + 12) + 1))]) (rest := []) (k := 231) Cx (hU (uF (uA S96 252 r_11 va) 231 24 ((u_23.1 231 24) + 1)) (pz + 1 + 1 + 1 + 1 + 1) ed ((ix + 12) + 1) i_80 ((funext fun j => (uF_a).trans ((uA_ne (fun h => absurd h.1 (by decide))).trans (((hL96_ 244 rfl).2.1 j).trans (((fu_33 244 rfl).2.1 j).trans ((uF_a).trans (((fu_23 244 rfl).2.1 j).trans ((uF_a).trans (((fu_9 244 rfl).2.1 j).trans (uF_a)))))))) : (uF (uA S96 252 r_11 va) 231 24 ((u_23.1 231 24) + 1)).2.1 244 = S.2.1 244).trans hK) ((funext fun j => (uF_a).trans ((uA_ne (fun h => absurd h.1 (by decide))).trans (((hL96_ 247 rfl).2.1 j).trans (((fu_33 247 rfl).2.1 j).trans ((uF_a).trans (((fu_23 247 rfl).2.1 j).trans ((uF_a).trans (((fu_9 247 rfl).2.1 j).trans (uF_a)))))))) : (uF (uA S96 252 r_11 va) 231 24 ((u_23.1 231 24) + 1)).2.1 247 = S.2.1 247).trans hV) ((funext fun j => (uF_a).trans ((uA_ne (fun h => absurd h.1 (by decide))).trans (((hL96_ 245 rfl).2.1 j).trans (((fu_33 245 rfl).2.1 j).trans ((uF_a).trans (((fu_23 245 rfl).2.1 j).trans ((uF_a).trans (((fu_9 245 rfl).2.1 j).trans (uF_a)))))))) : (uF (uA S96 252 r_11 va) 231 24 ((u_23.1 231 24) + 1)).2.1 245 = S.2.1 245).trans hFm) ((funext fun j => (uF_a).trans ((uA_ne (fun h => absurd h.1 (by decide))).trans (((hL96_ 246 rfl).2.1 j).trans (((fu_33 246 rfl).2.1 j).trans ((uF_a).trans (((fu_23 246 rfl).2.1 j).trans ((uF_a).trans (((fu_9 246 rfl).2.1 j).trans (uF_a)))))))) : (uF (uA S96 252 r_11 va) 231 24 ((u_23.1 231 24) + 1)).2.1 246 = S.2.1 246).trans hWd) (by omega) (by omega) (fun _ => he) (fun h => (NX.cg (S := (uA S96 252 r_11 va)) (u := (uF (uA S96 252 r_11 va) 231 24 ((u_23.1 231 24) + 1))) (hnv (by have e9 := (show (uF (uA S96 252 r_11 va) 231 24 ((u_23.1 231 24) + 1)).1 231 20 = (uA S96 252 r_11 va).1 231 20 from uF_ne (fun h => absurd h.2 (by decide))); omega)) (NR.eq (funext fun j => uF_a) (funext fun j => uF_a) (funext fun j => uF_a) (funext fun j => uF_a) (funext fun j => uF_a)) (uF_ne (fun h => absurd h.2 (by decide))) (uF_ne (fun h => absurd h.2 (by decide))) (uF_ne (fun h => absurd h.2 (by decide))) (funext fun j => uF_a))) (fun _ => by omega) (by omega)) (c_X12_398 Cx rfl rfl (rmk_ok (by omega) (by decide))) hW (by decide) rfl rfl rfl hl.1 rfl (Nat.le_of_ble_eq_true rfl) dX12_sum_132 ⟨Nat.le_of_ble_eq_true rfl, Nat.le_of_ble_eq_true rfl⟩) hL (fun u_85 H locs k_86 hW hL => ?_)
              obtain ⟨iu_85, fu_85, gu_85, xu_85⟩ := k_86
              have F_87 := F_76.trans fu_85
              have F_88 := F_77.trans fu_85
              have g_89 : FF S u_85 (fl [20, 21, 24, 25, 42, 43]) := FF.trans g_78 (FF.to gu_85 (fl_sub (by decide)))
              have g_90 : FF u_33 u_85 (fl [20, 21, 24, 25, 42, 43]) := FF.trans g_79 (FF.to gu_85 (fl_sub (by decide)))
              have nu_85 : Hd (u_85.1 231 20 = 0 → NX u_85 T) := fun h => NX.cg (S := (uF (uA S96 252 r_11 va) 231 24 ((u_23.1 231 24) + 1))) ((fun h => (NX.cg (S := (uA S96 252 r_11 va)) (u := (uF (uA S96 252 r_11 va) 231 24 ((u_23.1 231 24) + 1))) (hnv (by have e9 := (show (uF (uA S96 252 r_11 va) 231 24 ((u_23.1 231 24) + 1)).1 231 20 = (uA S96 252 r_11 va).1 231 20 from uF_ne (fun h => absurd h.2 (by decide))); omega)) (NR.eq (funext fun j => uF_a) (funext fun j => uF_a) (funext fun j => uF_a) (funext fun j => uF_a) (funext fun j => uF_a)) (uF_ne (fun h => absurd h.2 (by decide))) (uF_ne (fun h => absurd h.2 (by decide))) (uF_ne (fun h => absurd h.2 (by decide))) (funext fun j => uF_a))) (xu_85.2.2.2 h).1) xu_85.2.1 (xu_85.2.2.2 h).2.2.1 (gu_85 32 rfl) (gu_85 35 rfl) (funext fun j => (fu_85 253 rfl).2.1 j)
              refine lv_iconst (v := iv 0) hx hb dX12_sum_135 (by decide) ?_
              refine lv_istore (lv' := [(8, .int (iv 0)), (7, .int (iv va)), (6, .int (iv ((ix + 12) + 1))), (5, .int (iv ((u_23.1 231 24) + 1))), (4, .int (iv s4)), (3, .int (iv r_11)), (2, .int (iv (S.1 231 24))), (0, .ref (G.2.2.1 + 231)), (1, .int (iv ix))]) hx hb dX12_sum_136 hl (by decide) rfl (fun ls hl => ?_)
              have loop_138 : ∀ (fuel : Nat) (S138 : sS) (k : Int) (H : Heap) (locs : List Loc) (ls : Array Slot), (13 - k).toNat < fuel → (dX G S138) → (Fr S S138 (pl [231, 248, 249, 250, 251, 252, 257, 258])) → (Fr u_33 S138 (pl [231, 248, 249, 250, 251, 252, 257, 258])) → (Fr u_85 S138 (pl [257])) → (FF S S138 (fl [20, 21, 24, 25, 42, 43])) → (FF u_33 S138 (fl [20, 21, 24, 25, 42, 43])) → (FF u_85 S138 (fl [])) → (0 ≤ k ∧ k ≤ 13) → sW G 294 S138 H → sL G locs → lv_has ls 9 [(8, .int (iv k)), (7, .int (iv va)), (6, .int (iv ((ix + 12) + 1))), (5, .int (iv ((u_23.1 231 24) + 1))), (4, .int (iv s4)), (3, .int (iv r_11)), (2, .int (iv (S.1 231 24))), (0, .ref (G.2.2.1 + 231)), (1, .int (iv ix))] → W p l e (rmk D 0 0) s m args below meth c H locs 0 0 (MQ below (sQv G 294 (fun u => dX G u ∧ Fr S u (pl [231, 248, 249, 250, 251, 252, 257, 258]) ∧ FF S u (fl [20, 21, 24, 25, 42, 43]) ∧ ((pz ≤ u.1 231 24 ∧ u.1 231 24 ≤ q) ∧ NR S u (S.1 231 25) ∧ S.1 231 25 ≤ u.1 231 25 ∧ Hd (u.1 231 20 = 0 → S.1 231 20 = 0 ∧ u.1 231 24 = q ∧ u.1 231 25 = S.1 231 25 ∧ fB u ix)))) args s 0 0 (sF G)) (F0 m 138 ls []) := by
                intro fuel
                induction fuel with
                | zero => intro S138 k H locs ls hmeas hI138 hFm138 hFL96138 hL138_ hGm138 hGL96138 gL138_ hk hW hL hl; exact absurd hmeas (Nat.not_lt_zero _)
                | succ fuel ih_138 =>
                  intro S138 k H locs ls hmeas hI138 hFm138 hFL96138 hL138_ hGm138 hGL96138 gL138_ hk hW hL hl
                  refine lv_iload hx hb dX12_sum_138 (lv_at hl 0 rfl) ?_
                  refine lv_bipush (v := iv 12) hx hb dX12_sum_140 (by decide) ?_
                  refine r_icmp_gt (tgt := 173) hx hb ⟨(by omega), (by omega)⟩ ⟨(by omega), (by omega)⟩ dX12_sum_142 (by decide) (fun c_91 => ?_) (fun c_91 => ?_)
                  · refine lv_aload_n hx hb dX12_sum_173 rfl (lv_at hl 7 rfl) ?_
                    have q_92 : (-2147483648) ≤ u_85.1 231 20 ∧ u_85.1 231 20 ≤ 2147483647 := iu_85.fi 20
                    refine g_X12_270 Cx hW (k := 231) (by decide) rfl (v := u_85.1 231 20) (gL138_ 20 rfl) dX12_sum_174 ?_
                    refine r_if_ne (tgt := 195) hx hb ⟨(by omega), (by omega)⟩ dX12_sum_177 (by decide) (fun c_93 => ?_) (fun c_93 => ?_)
                    · refine lv_iinc (v := iv (va + 1)) (lv' := [(7, .int (iv (va + 1))), (8, .int (iv k)), (6, .int (iv ((ix + 12) + 1))), (5, .int (iv ((u_23.1 231 24) + 1))), (4, .int (iv s4)), (3, .int (iv r_11)), (2, .int (iv (S.1 231 24))), (0, .ref (G.2.2.1 + 231)), (1, .int (iv ix))]) hx hb dX12_sum_195 hl (k := 1) rfl ((Int32.ofInt_add _ _).symm) (by decide) rfl (fun ls hl => ?_)
                      refine lv_goto (tgt := 96) hx hb dX12_sum_198 (by decide) ?_
                      have q_94 : (-2147483648) ≤ u_85.1 231 25 ∧ u_85.1 231 25 ≤ 2147483647 := iu_85.fi 25
                      have lk_95 : S138.1 231 25 = u_85.1 231 25 := gL138_ 25 rfl
                      have q_96 : (-2147483648) ≤ u_85.1 231 24 ∧ u_85.1 231 24 ≤ 2147483647 := iu_85.fi 24
                      have lk_97 : S138.1 231 24 = u_85.1 231 24 := gL138_ 24 rfl
                      have lk_98 : S138.1 231 20 = u_85.1 231 20 := gL138_ 20 rfl
                      exact ih_96 S138 (va + 1) _ _ _ (by omega) hI138 hFm138 hFL96138 hGm138 hGL96138 (by omega) (NR.trans (NR.trans (NR.trans (NR.trans hR96 (show NR S96 (uA S96 252 r_11 va) (S.1 231 25) from fun j _ j1 => ⟨rfl, rfl, rfl, rfl, uA_ne (fun h => by have := h.2; omega)⟩)) (NR.eq (S := (uA S96 252 r_11 va)) (u := (uF (uA S96 252 r_11 va) 231 24 ((u_23.1 231 24) + 1))) (funext fun j => uF_a) (funext fun j => uF_a) (funext fun j => uF_a) (funext fun j => uF_a) (funext fun j => uF_a))) (NR.mono xu_85.2.1 (by omega))) (NR.eq (S := u_85) (u := S138) (funext fun j => (hL138_ 248 rfl).2.1 j) (funext fun j => (hL138_ 249 rfl).2.1 j) (funext fun j => (hL138_ 250 rfl).2.1 j) (funext fun j => (hL138_ 251 rfl).2.1 j) (funext fun j => (hL138_ 252 rfl).2.1 j))) (by omega) (by omega) (fun h => absurd h (by have e8 := (show S138.1 231 20 = u_85.1 231 20 from gL138_ 20 rfl); omega)) hW hL (lv_sub hl [0, 2, 3, 4, 5, 6, 7, 8] rfl)
                    · refine lv_aload_n hx hb dX12_sum_180 rfl (lv_at hl 7 rfl) ?_
                      refine lv_iload_n hx hb dX12_sum_181 rfl (lv_at hl 8 rfl) ?_
                      refine sBi (sV (As := [.int (iv ix)]) (rest := []) (k := 231) Cx (s_X12_isGreat l G S138 (ix := ix) hI138 (by omega)) (c_X12_416 Cx rfl rfl (rmk_ok (by omega) (by decide))) hW (by decide) rfl rfl rfl hl.1 rfl (Nat.le_of_ble_eq_true rfl) dX12_sum_182 ⟨Nat.le_of_ble_eq_true rfl, Nat.le_of_ble_eq_true rfl⟩) hL (fun r_101 u_99 H locs k_100 hW hL => ?_)
                      obtain ⟨eu_99, xu_99⟩ := k_100
                      rw [eu_99] at hW
                      refine r_if_eq (tgt := 195) hx hb ⟨(by omega), (by omega)⟩ dX12_sum_185 (by decide) (fun c_102 => ?_) (fun c_102 => ?_)
                      · refine lv_iinc (v := iv (va + 1)) (lv' := [(7, .int (iv (va + 1))), (8, .int (iv k)), (6, .int (iv ((ix + 12) + 1))), (5, .int (iv ((u_23.1 231 24) + 1))), (4, .int (iv s4)), (3, .int (iv r_11)), (2, .int (iv (S.1 231 24))), (0, .ref (G.2.2.1 + 231)), (1, .int (iv ix))]) hx hb dX12_sum_195 hl (k := 1) rfl ((Int32.ofInt_add _ _).symm) (by decide) rfl (fun ls hl => ?_)
                        refine lv_goto (tgt := 96) hx hb dX12_sum_198 (by decide) ?_
                        have q_103 : (-2147483648) ≤ u_85.1 231 25 ∧ u_85.1 231 25 ≤ 2147483647 := iu_85.fi 25
                        have lk_104 : S138.1 231 25 = u_85.1 231 25 := gL138_ 25 rfl
                        have q_105 : (-2147483648) ≤ u_85.1 231 24 ∧ u_85.1 231 24 ≤ 2147483647 := iu_85.fi 24
                        have lk_106 : S138.1 231 24 = u_85.1 231 24 := gL138_ 24 rfl
                        have lk_107 : S138.1 231 20 = u_85.1 231 20 := gL138_ 20 rfl
                        exact ih_96 S138 (va + 1) _ _ _ (by omega) hI138 hFm138 hFL96138 hGm138 hGL96138 (by omega) (NR.trans (NR.trans (NR.trans (NR.trans hR96 (show NR S96 (uA S96 252 r_11 va) (S.1 231 25) from fun j _ j1 => ⟨rfl, rfl, rfl, rfl, uA_ne (fun h => by have := h.2; omega)⟩)) (NR.eq (S := (uA S96 252 r_11 va)) (u := (uF (uA S96 252 r_11 va) 231 24 ((u_23.1 231 24) + 1))) (funext fun j => uF_a) (funext fun j => uF_a) (funext fun j => uF_a) (funext fun j => uF_a) (funext fun j => uF_a))) (NR.mono xu_85.2.1 (by omega))) (NR.eq (S := u_85) (u := S138) (funext fun j => (hL138_ 248 rfl).2.1 j) (funext fun j => (hL138_ 249 rfl).2.1 j) (funext fun j => (hL138_ 250 rfl).2.1 j) (funext fun j => (hL138_ 251 rfl).2.1 j) (funext fun j => (hL138_ 252 rfl).2.1 j))) (by omega) (by omega) (fun h => by have e8 := (show S138.1 231 20 = u_85.1 231 20 from gL138_ 20 rfl); have a9 := xu_85.2.2.2 (by omega); exact ⟨(NX.cg (S := u_85) (u := S138) (nu_85 (by omega)) (NR.eq (funext fun j => (hL138_ 248 rfl).2.1 j) (funext fun j => (hL138_ 249 rfl).2.1 j) (funext fun j => (hL138_ 250 rfl).2.1 j) (funext fun j => (hL138_ 251 rfl).2.1 j) (funext fun j => (hL138_ 252 rfl).2.1 j)) (gL138_ 25 rfl) (gL138_ 32 rfl) (gL138_ 35 rfl) (funext fun j => (hL138_ 253 rfl).2.1 j)), (by have e6 := (show S138.1 231 25 = u_85.1 231 25 from gL138_ 25 rfl); omega), (by rw [show S138.2.1 249 (S.1 231 25) = u_85.2.1 249 (S.1 231 25) from (hL138_ 249 rfl).2.1 ((S.1 231 25)), (xu_85.2.1 (S.1 231 25) (by omega) (by omega)).2.1]; exact w96), (fun _ => by have e7 := (show S138.1 231 24 = u_85.1 231 24 from gL138_ 24 rfl); omega), (xu_99.2 (by omega))⟩) hW hL (lv_sub hl [0, 2, 3, 4, 5, 6, 7, 8] rfl)
                      · refine lv_aload_n hx hb dX12_sum_188 rfl (lv_at hl 7 rfl) ?_
                        refine lv_bipush (v := iv 6) hx hb dX12_sum_189 (by decide) ?_
                        refine lv_iload_n hx hb dX12_sum_191 rfl (lv_at hl 6 rfl) ?_
                        refine sBv (sV (As := [.int (iv 6), .int (iv (S.1 231 24))]) (rest := []) (k := 231) Cx (s_X12_wrong l G S138 (cd := 6) (tk := S.1 231 24) hI138 (by omega) (by omega)) (c_X12_321 Cx rfl rfl (rmk_ok (by omega) (by decide))) hW (by decide) rfl rfl rfl hl.1 rfl (Nat.le_of_ble_eq_true rfl) dX12_sum_192 ⟨Nat.le_of_ble_eq_true rfl, Nat.le_of_ble_eq_true rfl⟩) hL (fun u_108 H locs k_109 hW hL => ?_)
                        obtain ⟨iu_108, fu_108, gu_108, xu_108⟩ := k_109
                        have F_110 := hFm138.trans (fu_108.to (pl_sub (by decide)))
                        have F_111 := hFL96138.trans (fu_108.to (pl_sub (by decide)))
                        have g_112 : FF S u_108 (fl [20, 21, 24, 25, 42, 43]) := FF.trans hGm138 (FF.to gu_108 (fl_sub (by decide)))
                        have g_113 : FF u_33 u_108 (fl [20, 21, 24, 25, 42, 43]) := FF.trans hGL96138 (FF.to gu_108 (fl_sub (by decide)))
                        refine lv_iinc (v := iv (va + 1)) (lv' := [(7, .int (iv (va + 1))), (8, .int (iv k)), (6, .int (iv ((ix + 12) + 1))), (5, .int (iv ((u_23.1 231 24) + 1))), (4, .int (iv s4)), (3, .int (iv r_11)), (2, .int (iv (S.1 231 24))), (0, .ref (G.2.2.1 + 231)), (1, .int (iv ix))]) hx hb dX12_sum_195 hl (k := 1) rfl ((Int32.ofInt_add _ _).symm) (by decide) rfl (fun ls hl => ?_)
                        refine lv_goto (tgt := 96) hx hb dX12_sum_198 (by decide) ?_
                        have q_115 : (-2147483648) ≤ u_85.1 231 25 ∧ u_85.1 231 25 ≤ 2147483647 := iu_85.fi 25
                        have lk_116 : u_108.1 231 25 = u_85.1 231 25 := (gu_108 25 rfl).trans (gL138_ 25 rfl)
                        have q_117 : (-2147483648) ≤ u_85.1 231 24 ∧ u_85.1 231 24 ≤ 2147483647 := iu_85.fi 24
                        have lk_118 : u_108.1 231 24 = u_85.1 231 24 := (gu_108 24 rfl).trans (gL138_ 24 rfl)
                        have q_119 : (-2147483648) ≤ u_108.1 231 20 ∧ u_108.1 231 20 ≤ 2147483647 := iu_108.fi 20
                        exact ih_96 u_108 (va + 1) _ _ _ (by omega) iu_108 F_110 F_111 g_112 g_113 (by omega) (NR.trans (NR.trans (NR.trans (NR.trans hR96 (show NR S96 (uA S96 252 r_11 va) (S.1 231 25) from fun j _ j1 => ⟨rfl, rfl, rfl, rfl, uA_ne (fun h => by have := h.2; omega)⟩)) (NR.eq (S := (uA S96 252 r_11 va)) (u := (uF (uA S96 252 r_11 va) 231 24 ((u_23.1 231 24) + 1))) (funext fun j => uF_a) (funext fun j => uF_a) (funext fun j => uF_a) (funext fun j => uF_a) (funext fun j => uF_a))) (NR.mono xu_85.2.1 (by omega))) (NR.eq (S := u_85) (u := u_108) (funext fun j => ((fu_108 248 rfl).2.1 j).trans ((hL138_ 248 rfl).2.1 j)) (funext fun j => ((fu_108 249 rfl).2.1 j).trans ((hL138_ 249 rfl).2.1 j)) (funext fun j => ((fu_108 250 rfl).2.1 j).trans ((hL138_ 250 rfl).2.1 j)) (funext fun j => ((fu_108 251 rfl).2.1 j).trans ((hL138_ 251 rfl).2.1 j)) (funext fun j => ((fu_108 252 rfl).2.1 j).trans ((hL138_ 252 rfl).2.1 j)))) (by omega) (by omega) (fun h => absurd h (by have e9 := (show u_108.1 231 20 = u_108.1 231 20 from rfl); have a9 := xu_108; omega)) hW hL (lv_sub hl [0, 2, 3, 4, 5, 6, 7, 8] rfl)
                  · refine lv_aload_n hx hb dX12_sum_145 rfl (lv_at hl 7 rfl) ?_
                    refine g_X12_88 Cx hW (k := 231) (by decide) rfl (v := .ref (G.2.2.1 + 257)) (rd_41 hI138) dX12_sum_146 ?_
                    refine lv_iload_n hx hb dX12_sum_149 rfl (lv_at hl 8 rfl) ?_
                    refine lv_iload hx hb dX12_sum_150 (lv_at hl 0 rfl) ?_
                    refine r_iadd hx hb dX12_sum_152 ?_
                    refine lv_dup2_11 hx hb dX12_sum_153 rfl rfl ?_
                    refine rLald Cx hW (k := 257) (by decide) rfl (by decide) (by omega) (by omega) dX12_sum_154 ?_
                    have q_120 : -9223372036854775808 ≤ S138.2.2.1 257 (ix + k) ∧ S138.2.2.1 257 (ix + k) ≤ 9223372036854775807 := hI138.li 257 (ix + k)
                    refine r_j (b := S138.2.2.1 257 (ix + k)) rfl ?_
                    refine lv_aload_n hx hb dX12_sum_155 rfl (lv_at hl 7 rfl) ?_
                    refine g_X12_88 Cx hW (k := 231) (by decide) rfl (v := .ref (G.2.2.1 + 257)) (rd_41 hI138) dX12_sum_156 ?_
                    refine lv_iload hx hb dX12_sum_159 (lv_at hl 2 rfl) ?_
                    refine lv_iload hx hb dX12_sum_161 (lv_at hl 0 rfl) ?_
                    refine r_iadd hx hb dX12_sum_163 ?_
                    refine rLald Cx hW (k := 257) (by decide) rfl (by decide) (by omega) (by omega) dX12_sum_164 ?_
                    have q_121 : -9223372036854775808 ≤ S138.2.2.1 257 (((ix + 12) + 1) + k) ∧ S138.2.2.1 257 (((ix + 12) + 1) + k) ≤ 9223372036854775807 := hI138.li 257 (((ix + 12) + 1) + k)
                    refine r_j (b := S138.2.2.1 257 (((ix + 12) + 1) + k)) rfl ?_
                    refine r_ladd hx hb dX12_sum_165 ?_
                    obtain ⟨z_122, ez_122, hz_122, kz_122⟩ := jv_of (jv ((S138.2.2.1 257 (ix + k)) + (S138.2.2.1 257 (((ix + 12) + 1) + k))))
                    rw [ez_122]
                    refine rLast Cx hW hL (k := 257) (by decide) rfl (by decide) (by omega) (by omega) dX12_sum_166 (fun H locs hW hL => ?_)
                    have F_123 : Fr S (uL S138 257 (ix + k) z_122) (pl [231, 248, 249, 250, 251, 252, 257, 258]) := hFm138.L rfl
                    have F_124 : Fr u_33 (uL S138 257 (ix + k) z_122) (pl [231, 248, 249, 250, 251, 252, 257, 258]) := hFL96138.L rfl
                    have F_125 : Fr u_85 (uL S138 257 (ix + k) z_122) (pl [257]) := hL138_.L rfl
                    have i_126 : dX G (uL S138 257 (ix + k) z_122) := hI138.L ⟨by omega, by omega⟩
                    refine lv_iinc (v := iv (k + 1)) (lv' := [(8, .int (iv (k + 1))), (7, .int (iv va)), (6, .int (iv ((ix + 12) + 1))), (5, .int (iv ((u_23.1 231 24) + 1))), (4, .int (iv s4)), (3, .int (iv r_11)), (2, .int (iv (S.1 231 24))), (0, .ref (G.2.2.1 + 231)), (1, .int (iv ix))]) hx hb dX12_sum_167 hl (k := 0) rfl ((Int32.ofInt_add _ _).symm) (by decide) rfl (fun ls hl => ?_)
                    refine lv_goto (tgt := 138) hx hb dX12_sum_170 (by decide) ?_
                    exact ih_138 (uL S138 257 (ix + k) z_122) (k + 1) _ _ _ (by omega) i_126 F_123 F_124 F_125 hGm138 hGL96138 gL138_ (by omega) hW hL (lv_sub hl [0, 1, 2, 3, 4, 5, 6, 7, 8] rfl)
              exact loop_138 (_ + 1) u_85 0 _ _ _ (Nat.lt_succ_self _) iu_85 F_87 F_88 Fr.rf g_89 g_90 FF.rf (by omega) hW hL (lv_sub hl [0, 1, 2, 3, 4, 5, 6, 7, 8] rfl)
      have lk_127 : u_33.1 231 25 = u_9.1 231 25 := (gu_33 25 rfl).trans ((uF_ne (fun h => absurd h.2 (by decide))).trans ((gu_23 25 rfl).trans (uF_ne (fun h => absurd h.2 (by decide)))))
      have lk_128 : u_33.1 231 24 = (u_23.1 231 24) + 1 := (gu_33 24 rfl).trans (uF_on)
      have lk_129 : u_33.1 231 20 = u_23.1 231 20 := (gu_33 20 rfl).trans (uF_ne (fun h => absurd h.2 (by decide)))
      exact loop_96 (_ + 1) u_33 (u_9.2.1 250 s4) _ _ _ (Nat.lt_succ_self _) iu_33 F_35 Fr.rf g_36 FF.rf (by omega) (NR.trans (NR.trans (NR.eq (S := S) (u := (uF S 231 24 ((S.1 231 24) + 1))) (funext fun j => uF_a) (funext fun j => uF_a) (funext fun j => uF_a) (funext fun j => uF_a) (funext fun j => uF_a)) (a1.2.2.2.nr)) (NR.eq (S := u_9) (u := u_33) (funext fun j => ((fu_33 248 rfl).2.1 j).trans ((uF_a).trans (((fu_23 248 rfl).2.1 j).trans (uF_a)))) (funext fun j => ((fu_33 249 rfl).2.1 j).trans ((uF_a).trans (((fu_23 249 rfl).2.1 j).trans (uF_a)))) (funext fun j => ((fu_33 250 rfl).2.1 j).trans ((uF_a).trans (((fu_23 250 rfl).2.1 j).trans (uF_a)))) (funext fun j => ((fu_33 251 rfl).2.1 j).trans ((uF_a).trans (((fu_23 251 rfl).2.1 j).trans (uF_a)))) (funext fun j => ((fu_33 252 rfl).2.1 j).trans ((uF_a).trans (((fu_23 252 rfl).2.1 j).trans (uF_a)))))) (by omega) (by omega) (fun _ => ⟨(NX.cg (S := u_9) (u := u_33) (hnu (by omega)) (NR.eq (funext fun j => ((fu_33 248 rfl).2.1 j).trans ((uF_a).trans (((fu_23 248 rfl).2.1 j).trans (uF_a)))) (funext fun j => ((fu_33 249 rfl).2.1 j).trans ((uF_a).trans (((fu_23 249 rfl).2.1 j).trans (uF_a)))) (funext fun j => ((fu_33 250 rfl).2.1 j).trans ((uF_a).trans (((fu_23 250 rfl).2.1 j).trans (uF_a)))) (funext fun j => ((fu_33 251 rfl).2.1 j).trans ((uF_a).trans (((fu_23 251 rfl).2.1 j).trans (uF_a)))) (funext fun j => ((fu_33 252 rfl).2.1 j).trans ((uF_a).trans (((fu_23 252 rfl).2.1 j).trans (uF_a))))) ((gu_33 25 rfl).trans ((uF_ne (fun h => absurd h.2 (by decide))).trans ((gu_23 25 rfl).trans (uF_ne (fun h => absurd h.2 (by decide)))))) ((gu_33 32 rfl).trans ((uF_ne (fun h => absurd h.2 (by decide))).trans ((gu_23 32 rfl).trans (uF_ne (fun h => absurd h.2 (by decide)))))) ((gu_33 35 rfl).trans ((uF_ne (fun h => absurd h.2 (by decide))).trans ((gu_23 35 rfl).trans (uF_ne (fun h => absurd h.2 (by decide)))))) (funext fun j => ((fu_33 253 rfl).2.1 j).trans ((uF_a).trans (((fu_23 253 rfl).2.1 j).trans (uF_a))))), (by have e6 := (show u_33.1 231 25 = u_9.1 231 25 from (gu_33 25 rfl).trans ((uF_ne (fun h => absurd h.2 (by decide))).trans ((gu_23 25 rfl).trans (uF_ne (fun h => absurd h.2 (by decide)))))); omega), (by rw [show u_33.2.1 249 (S.1 231 25) = u_9.2.1 249 (S.1 231 25) from ((fu_33 249 rfl).2.1 ((S.1 231 25))).trans ((uF_a).trans (((fu_23 249 rfl).2.1 ((S.1 231 25))).trans (uF_a)))]; exact hsl), (fun z => absurd z (by omega)), (fB_c xu_33.1 xu_33.2 (by omega))⟩) hW hL (lv_sub hl [0, 1, 2, 3, 4, 5, 6, 7] rfl)
    · have q_130 : (-2147483648) ≤ u_23.1 231 24 ∧ u_23.1 231 24 ≤ 2147483647 := iu_23.fi 24
      have lk_131 : u_23.1 231 25 = u_9.1 231 25 := (gu_23 25 rfl).trans (uF_ne (fun h => absurd h.2 (by decide)))
      exact sVret Cx hr hlk hW hL ⟨iu_23, F_25, g_26, ⟨(by have e7 := (show u_23.1 231 24 = u_23.1 231 24 from rfl); have e6 := (show u_23.1 231 25 = u_9.1 231 25 from (gu_23 25 rfl).trans (uF_ne (fun h => absurd h.2 (by decide)))); have e8 := (show u_23.1 231 20 = u_23.1 231 20 from rfl); omega), (NR.trans (NR.trans (NR.eq (S := S) (u := (uF S 231 24 ((S.1 231 24) + 1))) (funext fun j => uF_a) (funext fun j => uF_a) (funext fun j => uF_a) (funext fun j => uF_a) (funext fun j => uF_a)) (a1.2.2.2.nr)) (NR.eq (S := u_9) (u := u_23) (funext fun j => ((fu_23 248 rfl).2.1 j).trans (uF_a)) (funext fun j => ((fu_23 249 rfl).2.1 j).trans (uF_a)) (funext fun j => ((fu_23 250 rfl).2.1 j).trans (uF_a)) (funext fun j => ((fu_23 251 rfl).2.1 j).trans (uF_a)) (funext fun j => ((fu_23 252 rfl).2.1 j).trans (uF_a)))), (by have e7 := (show u_23.1 231 24 = u_23.1 231 24 from rfl); have e6 := (show u_23.1 231 25 = u_9.1 231 25 from (gu_23 25 rfl).trans (uF_ne (fun h => absurd h.2 (by decide)))); have e8 := (show u_23.1 231 20 = u_23.1 231 20 from rfl); omega), (fun h => absurd h (by have e9 := (show u_23.1 231 20 = u_23.1 231 20 from rfl); omega))⟩⟩ dX12_sum_56
  · have lk_132 : u_9.1 231 24 = (S.1 231 24) + 1 := (gu_9 24 rfl).trans (uF_on)
    have q_133 : (-2147483648) ≤ u_9.1 231 25 ∧ u_9.1 231 25 ≤ 2147483647 := iu_9.fi 25
    exact sVret Cx hr hlk hW hL ⟨iu_9, F_12, g_13, ⟨(by have e7 := (show u_9.1 231 24 = (S.1 231 24) + 1 from (gu_9 24 rfl).trans (uF_on)); have e6 := (show u_9.1 231 25 = u_9.1 231 25 from rfl); have e8 := (show u_9.1 231 20 = u_9.1 231 20 from rfl); have y1 := (xu_9.2.1 (by omega)).1; omega), (NR.trans (NR.eq (S := S) (u := (uF S 231 24 ((S.1 231 24) + 1))) (funext fun j => uF_a) (funext fun j => uF_a) (funext fun j => uF_a) (funext fun j => uF_a) (funext fun j => uF_a)) ((xu_9.2.1 (by omega)).2.2 (S.1 231 25))), (by have e7 := (show u_9.1 231 24 = (S.1 231 24) + 1 from (gu_9 24 rfl).trans (uF_on)); have e6 := (show u_9.1 231 25 = u_9.1 231 25 from rfl); have e8 := (show u_9.1 231 20 = u_9.1 231 20 from rfl); have y1 := (xu_9.2.1 (by omega)).1; omega), (fun h => absurd h (by have e9 := (show u_9.1 231 20 = u_9.1 231 20 from rfl); omega))⟩⟩ dX12_sum_32

set_option maxRecDepth 100000 in
set_option maxHeartbeats 4000000 in
theorem s_X12_factor (l : Launch) (G : sG) (S : sS) {K V Fm Wd : Int → Int} {T : Int} {D dm d1 d2 N : Nat} {pz q ix : Int} (hI : dX G S) (hK : S.2.1 244 = K) (hV : S.2.1 247 = V) (hFm : S.2.1 245 = Fm) (hWd : S.2.1 246 = Wd) (hQ : gQ K V Fm Wd T) (h1 : d1 < D) (h2 : d2 < dm) (hm : dm < D) (h8 : 10 ≤ dm) (hF : Hd (∀ n, N = n + 1 → FtC l G d1 K V Fm Wd T n)) (hU : Hd (∀ n, N = n + 1 → EpC l G d2 K V Fm Wd T n)) (hc : S.1 231 24 = pz) (hpq : 0 ≤ pz ∧ pz ≤ q ∧ q ≤ T - 1) (hg : Hd (S.1 231 20 = 0 → gF K V N pz q)) (hNX : Hd (S.1 231 20 = 0 → NX S T)) (h3 : S.1 231 20 = 0 → 3 * S.1 231 25 ≤ pz) (hix : 0 ≤ ix ∧ ix + 39 * N + 12 < 1820) : Met l yX12_factor (.code yX12_factor cX12_factor 3 none :: tb) (rmk D 0 0) (sPc G 294 S [.ref (G.2.2.1 + 231), .int (iv ix)]) (sQv G 294 (fun u => dX G u ∧ Fr S u (pl [231, 248, 249, 250, 251, 252, 257, 258]) ∧ FF S u (fl [20, 21, 24, 25, 42, 43]) ∧ ((pz ≤ u.1 231 24 ∧ u.1 231 24 ≤ q) ∧ NR S u (S.1 231 25) ∧ S.1 231 25 ≤ u.1 231 25 ∧ Hd (u.1 231 20 = 0 → S.1 231 20 = 0 ∧ u.1 231 24 = q ∧ u.1 231 25 = S.1 231 25 ∧ fB u ix)))) 0 0 (sF G) := by
  refine sEnter (by decide) (Nat.le_of_ble_eq_true rfl) ?_
  intro p e s m args below meth c Cx hr hlk hnm hW ls hl
  have Cx : sC G p m c cX12_factor 3 s args RX12 := Cx
  obtain ⟨hx, hb, hml, hown, hts⟩ := id Cx.1
  have hL : sL G [] := sL_nil
  have hl : lv_has ls 3 [(0, .ref (G.2.2.1 + 231)), (1, .int (iv ix))] := hl
  have hW0 := hW
  have hQ1 := hQ.1
  refine lv_aload_n hx hb dX12_factor_0 rfl (lv_at hl 0 rfl) ?_
  have q_1 : (-2147483648) ≤ S.1 231 20 ∧ S.1 231 20 ≤ 2147483647 := hI.fi 20
  refine g_X12_270 Cx hW (k := 231) (by decide) rfl (v := S.1 231 20) rfl dX12_factor_1 ?_
  refine r_if_eq (tgt := 8) hx hb ⟨(by omega), (by omega)⟩ dX12_factor_4 (by decide) (fun c_2 => ?_) (fun c_2 => ?_)
  · have hn0 := (hNX (by omega)).1.1
    have h39 := h3 (by omega)
    have hlt := gF_lt _ (hg (by omega))
    obtain ⟨n, rfl⟩ := gF_pos (hg (by omega))
    have hg0 := gF_s.mp (hg (by omega))
    refine lv_aload_n hx hb dX12_factor_8 rfl (lv_at hl 0 rfl) ?_
    refine lv_dup hx hb dX12_factor_9 rfl ?_
    have q_3 : (-2147483648) ≤ S.1 231 42 ∧ S.1 231 42 ≤ 2147483647 := hI.fi 42
    refine g_X12_376 Cx hW (k := 231) (by decide) rfl (v := S.1 231 42) rfl dX12_factor_10 ?_
    refine lv_iconst (v := iv 1) hx hb dX12_factor_13 (by decide) ?_
    refine r_iadd hx hb dX12_factor_14 ?_
    obtain ⟨z_4, ez_4, hz_4, kz_4⟩ := iv_of (iv ((S.1 231 42) + 1))
    rw [ez_4]
    refine p_X12_376 Cx hW hL (k := 231) (by decide) rfl dX12_factor_15 (fun H locs hW hL => ?_)
    have F_5 : Fr S (uF S 231 42 z_4) (pl [231, 248, 249, 250, 251, 252, 257, 258]) := (Fr.rf : Fr S S (pl [231, 248, 249, 250, 251, 252, 257, 258])).F rfl
    have g_6 : FF S (uF S 231 42 z_4) (fl [20, 21, 24, 25, 42, 43]) := FF.F FF.rf rfl
    have i_7 : dX G (uF S 231 42 z_4) := hI.F (i := 42) (show (-2147483648) ≤ z_4 ∧ z_4 ≤ 2147483647 from ⟨by omega, by omega⟩)
    refine lv_aload_n hx hb dX12_factor_18 rfl (lv_at hl 0 rfl) ?_
    refine g_X12_376 Cx hW (k := 231) (by decide) rfl (v := z_4) uF_on dX12_factor_19 ?_
    refine lv_sipush (v := iv 20000) hx hb dX12_factor_22 (by decide) ?_
    refine r_icmp_le (tgt := 39) hx hb ⟨(by omega), (by omega)⟩ ⟨(by omega), (by omega)⟩ dX12_factor_25 (by decide) (fun c_8 => ?_) (fun c_8 => ?_)
    · refine lv_aload_n hx hb dX12_factor_39 rfl (lv_at hl 0 rfl) ?_
      refine lv_bipush (v := iv 45) hx hb dX12_factor_40 (by decide) ?_
      have q_9 : (-2147483648) ≤ S.1 231 24 ∧ S.1 231 24 ≤ 2147483647 := hI.fi 24
      have lk_10 : (uF S 231 42 z_4).1 231 24 = S.1 231 24 := uF_ne (fun h => absurd h.2 (by decide))
      refine sBi (sV (As := [.int (iv 45)]) (rest := []) (k := 231) Cx (s_X12_isSign l G (uF S 231 42 z_4) (sv := 45) (K := K) (V := V) (pz := pz) i_7 (by omega) ((funext fun j => uF_a : (uF S 231 42 z_4).2.1 244 = S.2.1 244).trans hK) ((funext fun j => uF_a : (uF S 231 42 z_4).2.1 247 = S.2.1 247).trans hV) (by omega) (by omega)) (c_X12_318 Cx rfl rfl (rmk_ok (by omega) (by decide))) hW (by decide) rfl rfl rfl hl.1 rfl (Nat.le_of_ble_eq_true rfl) dX12_factor_42 ⟨Nat.le_of_ble_eq_true rfl, Nat.le_of_ble_eq_true rfl⟩) hL (fun r_13 u_11 H locs k_12 hW hL => ?_)
      obtain ⟨eu_11, xu_11⟩ := k_12
      rw [eu_11] at hW
      refine r_if_eq (tgt := 97) hx hb ⟨(by omega), (by omega)⟩ dX12_factor_45 (by decide) (fun c_14 => ?_) (fun c_14 => ?_)
      · have hg2 := (hg0.resolve_left (fun h => (xu_11.2.2 (by omega)) h.1)).2
        refine lv_aload_n hx hb dX12_factor_97 rfl (lv_at hl 0 rfl) ?_
        refine g_X12_47 Cx hW (k := 231) (by decide) rfl (v := .ref (G.2.2.1 + 244)) (rd_15 i_7) dX12_factor_98 ?_
        refine lv_aload_n hx hb dX12_factor_101 rfl (lv_at hl 0 rfl) ?_
        refine g_X12_315 Cx hW (k := 231) (by decide) rfl (v := S.1 231 24) (uF_ne (fun h => absurd h.2 (by decide))) dX12_factor_102 ?_
        refine rIald Cx hW (k := 244) (by decide) rfl (by decide) (by omega) (by omega) dX12_factor_105 ?_
        have q_15 : (-2147483648) ≤ S.2.1 244 (S.1 231 24) ∧ S.2.1 244 (S.1 231 24) ≤ 2147483647 := hI.ai 244 (S.1 231 24)
        refine r_i (b := S.2.1 244 (S.1 231 24)) uF_a ?_
        have hr1 : K pz = S.2.1 244 (S.1 231 24) := by rw [← hK, ← hc]
        refine lv_iconst (v := iv 2) hx hb dX12_factor_106 (by decide) ?_
        refine r_icmp_ne (tgt := 138) hx hb ⟨(by omega), (by omega)⟩ ⟨(by omega), (by omega)⟩ dX12_factor_107 (by decide) (fun c_16 => ?_) (fun c_16 => ?_)
        · have hg3 := (hg2.resolve_left (fun h => absurd h.1 (by omega))).2
          refine lv_aload_n hx hb dX12_factor_138 rfl (lv_at hl 0 rfl) ?_
          refine lv_bipush (v := iv 40) hx hb dX12_factor_139 (by decide) ?_
          refine sBi (sV (As := [.int (iv 40)]) (rest := []) (k := 231) Cx (s_X12_isSign l G (uF S 231 42 z_4) (sv := 40) (K := K) (V := V) (pz := pz) i_7 (by omega) ((funext fun j => uF_a : (uF S 231 42 z_4).2.1 244 = S.2.1 244).trans hK) ((funext fun j => uF_a : (uF S 231 42 z_4).2.1 247 = S.2.1 247).trans hV) (by omega) (by omega)) (c_X12_318 Cx rfl rfl (rmk_ok (by omega) (by decide))) hW (by decide) rfl rfl rfl hl.1 rfl (Nat.le_of_ble_eq_true rfl) dX12_factor_141 ⟨Nat.le_of_ble_eq_true rfl, Nat.le_of_ble_eq_true rfl⟩) hL (fun r_19 u_17 H locs k_18 hW hL => ?_)
          obtain ⟨eu_17, xu_17⟩ := k_18
          rw [eu_17] at hW
          refine r_if_eq (tgt := 175) hx hb ⟨(by omega), (by omega)⟩ dX12_factor_144 (by decide) (fun c_20 => ?_) (fun c_20 => ?_)
          · have hg4 := (hg3.resolve_left (fun h => (xu_17.2.2 (by omega)) h.1)).2
            refine lv_aload_n hx hb dX12_factor_175 rfl (lv_at hl 0 rfl) ?_
            refine lv_bipush (v := iv 7) hx hb dX12_factor_176 (by decide) ?_
            refine sBi (sV (As := [.int (iv 7)]) (rest := []) (k := 231) Cx (s_X12_isWord l G (uF S 231 42 z_4) (sv := 7) (K := K) (V := V) (pz := pz) i_7 (by omega) ((funext fun j => uF_a : (uF S 231 42 z_4).2.1 244 = S.2.1 244).trans hK) ((funext fun j => uF_a : (uF S 231 42 z_4).2.1 247 = S.2.1 247).trans hV) (by omega) (by omega)) (c_X12_325 Cx rfl rfl (rmk_ok (by omega) (by decide))) hW (by decide) rfl rfl rfl hl.1 rfl (Nat.le_of_ble_eq_true rfl) dX12_factor_178 ⟨Nat.le_of_ble_eq_true rfl, Nat.le_of_ble_eq_true rfl⟩) hL (fun r_23 u_21 H locs k_22 hW hL => ?_)
            obtain ⟨eu_21, xu_21⟩ := k_22
            rw [eu_21] at hW
            refine r_if_eq (tgt := 192) hx hb ⟨(by omega), (by omega)⟩ dX12_factor_181 (by decide) (fun c_24 => ?_) (fun c_24 => ?_)
            · have hg6 := (hg4.resolve_left (fun h => (xu_21.2.2 (by omega)) h.1)).2
              refine lv_aload_n hx hb dX12_factor_192 rfl (lv_at hl 0 rfl) ?_
              refine lv_iload_n hx hb dX12_factor_193 rfl (lv_at hl 1 rfl) ?_
              have lk_25 : (uF S 231 42 z_4).1 231 20 = S.1 231 20 := uF_ne (fun h => absurd h.2 (by decide))
              have q_26 : (-2147483648) ≤ S.1 231 25 ∧ S.1 231 25 ≤ 2147483647 := hI.fi 25
              have lk_27 : (uF S 231 42 z_4).1 231 25 = S.1 231 25 := uF_ne (fun h => absurd h.2 (by decide))
              refine sBv (sV (As := [.int (iv ix)]) (rest := []) (k := 231) Cx (s_X12_named l G (uF S 231 42 z_4) (ix := ix) (K := K) (V := V) (Fm := Fm) (Wd := Wd) (T := T) (pz := pz) (q := q) i_7 ((funext fun j => uF_a : (uF S 231 42 z_4).2.1 244 = S.2.1 244).trans hK) ((funext fun j => uF_a : (uF S 231 42 z_4).2.1 247 = S.2.1 247).trans hV) ((funext fun j => uF_a : (uF S 231 42 z_4).2.1 245 = S.2.1 245).trans hFm) ((funext fun j => uF_a : (uF S 231 42 z_4).2.1 246 = S.2.1 246).trans hWd) hQ (by omega) ((fun h => (NX.cg (S := S) (u := (uF S 231 42 z_4)) (hNX (by have e9 := (show (uF S 231 42 z_4).1 231 20 = S.1 231 20 from uF_ne (fun h => absurd h.2 (by decide))); omega)) (NR.eq (funext fun j => uF_a) (funext fun j => uF_a) (funext fun j => uF_a) (funext fun j => uF_a) (funext fun j => uF_a)) (uF_ne (fun h => absurd h.2 (by decide))) (uF_ne (fun h => absurd h.2 (by decide))) (uF_ne (fun h => absurd h.2 (by decide))) (funext fun j => uF_a))) (by have e9 := (show (uF S 231 42 z_4).1 231 20 = S.1 231 20 from uF_ne (fun h => absurd h.2 (by decide))); omega)) (by omega) (by omega) hg6 (by omega) (by omega)) (c_X12_438 Cx rfl rfl (rmk_ok (by omega) (by decide))) hW (by decide) rfl rfl rfl hl.1 rfl (Nat.le_of_ble_eq_true rfl) dX12_factor_194 ⟨Nat.le_of_ble_eq_true rfl, Nat.le_of_ble_eq_true rfl⟩) hL (fun u_28 H locs k_29 hW hL => ?_)
              obtain ⟨iu_28, fu_28, gu_28, xu_28⟩ := k_29
              have F_30 := F_5.trans (fu_28.to (pl_sub (by decide)))
              have g_31 : FF S u_28 (fl [20, 21, 24, 25, 42, 43]) := FF.trans g_6 (FF.to gu_28 (fl_sub (by decide)))
              have q_32 : (-2147483648) ≤ u_28.1 231 24 ∧ u_28.1 231 24 ≤ 2147483647 := iu_28.fi 24
              have lk_33 : u_28.1 231 25 = S.1 231 25 := (gu_28 25 rfl).trans (uF_ne (fun h => absurd h.2 (by decide)))
              have q_34 : (-2147483648) ≤ u_28.1 231 20 ∧ u_28.1 231 20 ≤ 2147483647 := iu_28.fi 20
              exact sVret Cx hr hlk hW hL ⟨iu_28, F_30, g_31, ⟨(by have e7 := (show u_28.1 231 24 = u_28.1 231 24 from rfl); have e6 := (show u_28.1 231 25 = S.1 231 25 from (gu_28 25 rfl).trans (uF_ne (fun h => absurd h.2 (by decide)))); have e8 := (show u_28.1 231 20 = u_28.1 231 20 from rfl); omega), (NR.eq (S := S) (u := u_28) (funext fun j => ((fu_28 248 rfl).2.1 j).trans (uF_a)) (funext fun j => ((fu_28 249 rfl).2.1 j).trans (uF_a)) (funext fun j => ((fu_28 250 rfl).2.1 j).trans (uF_a)) (funext fun j => ((fu_28 251 rfl).2.1 j).trans (uF_a)) (funext fun j => ((fu_28 252 rfl).2.1 j).trans (uF_a))), (by have e7 := (show u_28.1 231 24 = u_28.1 231 24 from rfl); have e6 := (show u_28.1 231 25 = S.1 231 25 from (gu_28 25 rfl).trans (uF_ne (fun h => absurd h.2 (by decide)))); have e8 := (show u_28.1 231 20 = u_28.1 231 20 from rfl); omega), (fun h => by have e7 := (show u_28.1 231 24 = u_28.1 231 24 from rfl); have e6 := (show u_28.1 231 25 = S.1 231 25 from (gu_28 25 rfl).trans (uF_ne (fun h => absurd h.2 (by decide)))); have e8 := (show u_28.1 231 20 = u_28.1 231 20 from rfl); have a9 := xu_28.2 (by omega); exact ⟨by omega, by omega, by omega, a9.2⟩)⟩⟩ dX12_factor_197
            · have hg5 := (hg4.resolve_right (fun h => h.1 (xu_21.2.1 (by omega)))).2
              refine lv_aload_n hx hb dX12_factor_184 rfl (lv_at hl 0 rfl) ?_
              refine lv_iload_n hx hb dX12_factor_185 rfl (lv_at hl 1 rfl) ?_
              have lk_35 : (uF S 231 42 z_4).1 231 20 = S.1 231 20 := uF_ne (fun h => absurd h.2 (by decide))
              have q_36 : (-2147483648) ≤ S.1 231 25 ∧ S.1 231 25 ≤ 2147483647 := hI.fi 25
              have lk_37 : (uF S 231 42 z_4).1 231 25 = S.1 231 25 := uF_ne (fun h => absurd h.2 (by decide))
              refine sBv (sV (As := [.int (iv ix)]) (rest := []) (k := 231) Cx (s_X12_sum l G (uF S 231 42 z_4) (D := dm) (d1 := d2) (n := n) (pz := pz) (q := q) (ix := ix) (K := K) (V := V) (Fm := Fm) (Wd := Wd) (T := T) i_7 ((funext fun j => uF_a : (uF S 231 42 z_4).2.1 244 = S.2.1 244).trans hK) ((funext fun j => uF_a : (uF S 231 42 z_4).2.1 247 = S.2.1 247).trans hV) ((funext fun j => uF_a : (uF S 231 42 z_4).2.1 245 = S.2.1 245).trans hFm) ((funext fun j => uF_a : (uF S 231 42 z_4).2.1 246 = S.2.1 246).trans hWd) hQ (by omega) (by omega) (hU n rfl) (by omega) (by omega) (by omega) hg5 (fun h => (NX.cg (S := S) (u := (uF S 231 42 z_4)) (hNX (by have e9 := (show (uF S 231 42 z_4).1 231 20 = S.1 231 20 from uF_ne (fun h => absurd h.2 (by decide))); omega)) (NR.eq (funext fun j => uF_a) (funext fun j => uF_a) (funext fun j => uF_a) (funext fun j => uF_a) (funext fun j => uF_a)) (uF_ne (fun h => absurd h.2 (by decide))) (uF_ne (fun h => absurd h.2 (by decide))) (uF_ne (fun h => absurd h.2 (by decide))) (funext fun j => uF_a))) (fun _ => by omega) (by omega)) (c_X12_435 Cx rfl rfl (rmk_ok (by omega) (by decide))) hW (by decide) rfl rfl rfl hl.1 rfl (Nat.le_of_ble_eq_true rfl) dX12_factor_186 ⟨Nat.le_of_ble_eq_true rfl, Nat.le_of_ble_eq_true rfl⟩) hL (fun u_38 H locs k_39 hW hL => ?_)
              obtain ⟨iu_38, fu_38, gu_38, xu_38⟩ := k_39
              have F_40 := F_5.trans fu_38
              have g_41 : FF S u_38 (fl [20, 21, 24, 25, 42, 43]) := FF.trans g_6 (FF.to gu_38 (fl_sub (by decide)))
              have nu_38 : Hd (u_38.1 231 20 = 0 → NX u_38 T) := fun h => NX.cg (S := (uF S 231 42 z_4)) ((fun h => (NX.cg (S := S) (u := (uF S 231 42 z_4)) (hNX (by have e9 := (show (uF S 231 42 z_4).1 231 20 = S.1 231 20 from uF_ne (fun h => absurd h.2 (by decide))); omega)) (NR.eq (funext fun j => uF_a) (funext fun j => uF_a) (funext fun j => uF_a) (funext fun j => uF_a) (funext fun j => uF_a)) (uF_ne (fun h => absurd h.2 (by decide))) (uF_ne (fun h => absurd h.2 (by decide))) (uF_ne (fun h => absurd h.2 (by decide))) (funext fun j => uF_a))) (xu_38.2.2.2 h).1) xu_38.2.1 (xu_38.2.2.2 h).2.2.1 (gu_38 32 rfl) (gu_38 35 rfl) (funext fun j => (fu_38 253 rfl).2.1 j)
              refine lv_goto (tgt := 197) hx hb dX12_factor_189 (by decide) ?_
              have q_42 : (-2147483648) ≤ u_38.1 231 24 ∧ u_38.1 231 24 ≤ 2147483647 := iu_38.fi 24
              have q_43 : (-2147483648) ≤ u_38.1 231 25 ∧ u_38.1 231 25 ≤ 2147483647 := iu_38.fi 25
              have q_44 : (-2147483648) ≤ u_38.1 231 20 ∧ u_38.1 231 20 ≤ 2147483647 := iu_38.fi 20
              exact sVret Cx hr hlk hW hL ⟨iu_38, F_40, g_41, ⟨(by have e7 := (show u_38.1 231 24 = u_38.1 231 24 from rfl); have e6 := (show u_38.1 231 25 = u_38.1 231 25 from rfl); have e8 := (show u_38.1 231 20 = u_38.1 231 20 from rfl); omega), (NR.trans (NR.eq (S := S) (u := (uF S 231 42 z_4)) (funext fun j => uF_a) (funext fun j => uF_a) (funext fun j => uF_a) (funext fun j => uF_a) (funext fun j => uF_a)) xu_38.2.1), (by have e7 := (show u_38.1 231 24 = u_38.1 231 24 from rfl); have e6 := (show u_38.1 231 25 = u_38.1 231 25 from rfl); have e8 := (show u_38.1 231 20 = u_38.1 231 20 from rfl); omega), (fun h => by have e7 := (show u_38.1 231 24 = u_38.1 231 24 from rfl); have e6 := (show u_38.1 231 25 = u_38.1 231 25 from rfl); have e8 := (show u_38.1 231 20 = u_38.1 231 20 from rfl); have a9 := xu_38.2.2.2 (by omega); exact ⟨by omega, by omega, by omega, a9.2.2.2⟩)⟩⟩ dX12_factor_197
          · obtain ⟨ed, he, hs⟩ := (hg3.resolve_right (fun h => h.1 (xu_17.2.1 (by omega)))).2
            have hq2 := hs.2
            have hlt2 := gU_lt he
            refine lv_aload_n hx hb dX12_factor_147 rfl (lv_at hl 0 rfl) ?_
            refine lv_dup hx hb dX12_factor_148 rfl ?_
            refine g_X12_315 Cx hW (k := 231) (by decide) rfl (v := S.1 231 24) (uF_ne (fun h => absurd h.2 (by decide))) dX12_factor_149 ?_
            refine lv_iconst (v := iv 1) hx hb dX12_factor_152 (by decide) ?_
            refine r_iadd hx hb dX12_factor_153 ?_
            refine p_X12_315 Cx hW hL (k := 231) (by decide) rfl dX12_factor_154 (fun H locs hW hL => ?_)
            have F_45 : Fr S (uF (uF S 231 42 z_4) 231 24 ((S.1 231 24) + 1)) (pl [231, 248, 249, 250, 251, 252, 257, 258]) := F_5.F rfl
            have g_46 : FF S (uF (uF S 231 42 z_4) 231 24 ((S.1 231 24) + 1)) (fl [20, 21, 24, 25, 42, 43]) := FF.F g_6 rfl
            have i_47 : dX G (uF (uF S 231 42 z_4) 231 24 ((S.1 231 24) + 1)) := i_7.F (i := 24) (show (-2147483648) ≤ (S.1 231 24) + 1 ∧ (S.1 231 24) + 1 ≤ 2147483647 from ⟨by omega, by omega⟩)
            refine lv_aload_n hx hb dX12_factor_157 rfl (lv_at hl 0 rfl) ?_
            refine lv_iload_n hx hb dX12_factor_158 rfl (lv_at hl 1 rfl) ?_
            have lk_48 : (uF (uF S 231 42 z_4) 231 24 ((S.1 231 24) + 1)).1 231 24 = (S.1 231 24) + 1 := uF_on
            have lk_49 : (uF (uF S 231 42 z_4) 231 24 ((S.1 231 24) + 1)).1 231 20 = S.1 231 20 := (uF_ne (fun h => absurd h.2 (by decide))).trans (uF_ne (fun h => absurd h.2 (by decide)))
            have q_50 : (-2147483648) ≤ S.1 231 25 ∧ S.1 231 25 ≤ 2147483647 := hI.fi 25
            have lk_51 : (uF (uF S 231 42 z_4) 231 24 ((S.1 231 24) + 1)).1 231 25 = S.1 231 25 := (uF_ne (fun h => absurd h.2 (by decide))).trans (uF_ne (fun h => absurd h.2 (by decide)))
            refine sBv (sV (As := [.int (iv ix)]) (rest := []) (k := 231) Cx (hU n rfl (uF (uF S 231 42 z_4) 231 24 ((S.1 231 24) + 1)) (pz + 1) ed ix i_47 ((funext fun j => (uF_a).trans (uF_a) : (uF (uF S 231 42 z_4) 231 24 ((S.1 231 24) + 1)).2.1 244 = S.2.1 244).trans hK) ((funext fun j => (uF_a).trans (uF_a) : (uF (uF S 231 42 z_4) 231 24 ((S.1 231 24) + 1)).2.1 247 = S.2.1 247).trans hV) ((funext fun j => (uF_a).trans (uF_a) : (uF (uF S 231 42 z_4) 231 24 ((S.1 231 24) + 1)).2.1 245 = S.2.1 245).trans hFm) ((funext fun j => (uF_a).trans (uF_a) : (uF (uF S 231 42 z_4) 231 24 ((S.1 231 24) + 1)).2.1 246 = S.2.1 246).trans hWd) (by omega) (by omega) (fun _ => he) (fun h => (NX.cg (S := S) (u := (uF (uF S 231 42 z_4) 231 24 ((S.1 231 24) + 1))) (hNX (by have e9 := (show (uF (uF S 231 42 z_4) 231 24 ((S.1 231 24) + 1)).1 231 20 = S.1 231 20 from (uF_ne (fun h => absurd h.2 (by decide))).trans (uF_ne (fun h => absurd h.2 (by decide)))); omega)) (NR.eq (funext fun j => (uF_a).trans (uF_a)) (funext fun j => (uF_a).trans (uF_a)) (funext fun j => (uF_a).trans (uF_a)) (funext fun j => (uF_a).trans (uF_a)) (funext fun j => (uF_a).trans (uF_a))) ((uF_ne (fun h => absurd h.2 (by decide))).trans (uF_ne (fun h => absurd h.2 (by decide)))) ((uF_ne (fun h => absurd h.2 (by decide))).trans (uF_ne (fun h => absurd h.2 (by decide)))) ((uF_ne (fun h => absurd h.2 (by decide))).trans (uF_ne (fun h => absurd h.2 (by decide)))) (funext fun j => (uF_a).trans (uF_a)))) (fun _ => by omega) (by omega)) (c_X12_398 Cx rfl rfl (rmk_ok (by omega) (by decide))) hW (by decide) rfl rfl rfl hl.1 rfl (Nat.le_of_ble_eq_true rfl) dX12_factor_159 ⟨Nat.le_of_ble_eq_true rfl, Nat.le_of_ble_eq_true rfl⟩) hL (fun u_52 H locs k_53 hW hL => ?_)
            obtain ⟨iu_52, fu_52, gu_52, xu_52⟩ := k_53
            have F_54 := F_45.trans fu_52
            have g_55 : FF S u_52 (fl [20, 21, 24, 25, 42, 43]) := FF.trans g_46 (FF.to gu_52 (fl_sub (by decide)))
            have nu_52 : Hd (u_52.1 231 20 = 0 → NX u_52 T) := fun h => NX.cg (S := (uF (uF S 231 42 z_4) 231 24 ((S.1 231 24) + 1))) ((fun h => (NX.cg (S := S) (u := (uF (uF S 231 42 z_4) 231 24 ((S.1 231 24) + 1))) (hNX (by have e9 := (show (uF (uF S 231 42 z_4) 231 24 ((S.1 231 24) + 1)).1 231 20 = S.1 231 20 from (uF_ne (fun h => absurd h.2 (by decide))).trans (uF_ne (fun h => absurd h.2 (by decide)))); omega)) (NR.eq (funext fun j => (uF_a).trans (uF_a)) (funext fun j => (uF_a).trans (uF_a)) (funext fun j => (uF_a).trans (uF_a)) (funext fun j => (uF_a).trans (uF_a)) (funext fun j => (uF_a).trans (uF_a))) ((uF_ne (fun h => absurd h.2 (by decide))).trans (uF_ne (fun h => absurd h.2 (by decide)))) ((uF_ne (fun h => absurd h.2 (by decide))).trans (uF_ne (fun h => absurd h.2 (by decide)))) ((uF_ne (fun h => absurd h.2 (by decide))).trans (uF_ne (fun h => absurd h.2 (by decide)))) (funext fun j => (uF_a).trans (uF_a)))) (xu_52.2.2.2 h).1) xu_52.2.1 (xu_52.2.2.2 h).2.2.1 (gu_52 32 rfl) (gu_52 35 rfl) (funext fun j => (fu_52 253 rfl).2.1 j)
            refine lv_aload_n hx hb dX12_factor_162 rfl (lv_at hl 0 rfl) ?_
            refine lv_dup hx hb dX12_factor_163 rfl ?_
            have q_56 : (-2147483648) ≤ u_52.1 231 24 ∧ u_52.1 231 24 ≤ 2147483647 := iu_52.fi 24
            refine g_X12_315 Cx hW (k := 231) (by decide) rfl (v := u_52.1 231 24) rfl dX12_factor_164 ?_
            refine lv_iconst (v := iv 1) hx hb dX12_factor_167 (by decide) ?_
            refine r_iadd hx hb dX12_factor_168 ?_
            refine p_X12_315 Cx hW hL (k := 231) (by decide) rfl dX12_factor_169 (fun H locs hW hL => ?_)
            have F_57 : Fr S (uF u_52 231 24 ((u_52.1 231 24) + 1)) (pl [231, 248, 249, 250, 251, 252, 257, 258]) := F_54.F rfl
            have g_58 : FF S (uF u_52 231 24 ((u_52.1 231 24) + 1)) (fl [20, 21, 24, 25, 42, 43]) := FF.F g_55 rfl
            have i_59 : dX G (uF u_52 231 24 ((u_52.1 231 24) + 1)) := iu_52.F (i := 24) (show (-2147483648) ≤ (u_52.1 231 24) + 1 ∧ (u_52.1 231 24) + 1 ≤ 2147483647 from ⟨by omega, by omega⟩)
            refine lv_goto (tgt := 197) hx hb dX12_factor_172 (by decide) ?_
            have lk_60 : (uF u_52 231 24 ((u_52.1 231 24) + 1)).1 231 24 = (u_52.1 231 24) + 1 := uF_on
            have q_61 : (-2147483648) ≤ u_52.1 231 25 ∧ u_52.1 231 25 ≤ 2147483647 := iu_52.fi 25
            have lk_62 : (uF u_52 231 24 ((u_52.1 231 24) + 1)).1 231 25 = u_52.1 231 25 := uF_ne (fun h => absurd h.2 (by decide))
            have q_63 : (-2147483648) ≤ u_52.1 231 20 ∧ u_52.1 231 20 ≤ 2147483647 := iu_52.fi 20
            have lk_64 : (uF u_52 231 24 ((u_52.1 231 24) + 1)).1 231 20 = u_52.1 231 20 := uF_ne (fun h => absurd h.2 (by decide))
            exact sVret Cx hr hlk hW hL ⟨i_59, F_57, g_58, ⟨(by have e7 := (show (uF u_52 231 24 ((u_52.1 231 24) + 1)).1 231 24 = (u_52.1 231 24) + 1 from uF_on); have e6 := (show (uF u_52 231 24 ((u_52.1 231 24) + 1)).1 231 25 = u_52.1 231 25 from uF_ne (fun h => absurd h.2 (by decide))); have e8 := (show (uF u_52 231 24 ((u_52.1 231 24) + 1)).1 231 20 = u_52.1 231 20 from uF_ne (fun h => absurd h.2 (by decide))); omega), (NR.trans (NR.trans (NR.eq (S := S) (u := (uF (uF S 231 42 z_4) 231 24 ((S.1 231 24) + 1))) (funext fun j => (uF_a).trans (uF_a)) (funext fun j => (uF_a).trans (uF_a)) (funext fun j => (uF_a).trans (uF_a)) (funext fun j => (uF_a).trans (uF_a)) (funext fun j => (uF_a).trans (uF_a))) xu_52.2.1) (NR.eq (S := u_52) (u := (uF u_52 231 24 ((u_52.1 231 24) + 1))) (funext fun j => uF_a) (funext fun j => uF_a) (funext fun j => uF_a) (funext fun j => uF_a) (funext fun j => uF_a))), (by have e7 := (show (uF u_52 231 24 ((u_52.1 231 24) + 1)).1 231 24 = (u_52.1 231 24) + 1 from uF_on); have e6 := (show (uF u_52 231 24 ((u_52.1 231 24) + 1)).1 231 25 = u_52.1 231 25 from uF_ne (fun h => absurd h.2 (by decide))); have e8 := (show (uF u_52 231 24 ((u_52.1 231 24) + 1)).1 231 20 = u_52.1 231 20 from uF_ne (fun h => absurd h.2 (by decide))); omega), (fun h => by have e7 := (show (uF u_52 231 24 ((u_52.1 231 24) + 1)).1 231 24 = (u_52.1 231 24) + 1 from uF_on); have e6 := (show (uF u_52 231 24 ((u_52.1 231 24) + 1)).1 231 25 = u_52.1 231 25 from uF_ne (fun h => absurd h.2 (by decide))); have e8 := (show (uF u_52 231 24 ((u_52.1 231 24) + 1)).1 231 20 = u_52.1 231 20 from uF_ne (fun h => absurd h.2 (by decide))); have a9 := xu_52.2.2.2 (by omega); exact ⟨by omega, by omega, by omega, (fB.cg (S := u_52) a9.2.2.2 (funext fun j => uF_l))⟩)⟩⟩ dX12_factor_197
        · have hq2 := (hg2.resolve_right (fun h => h.1 (by omega))).2
          have hv9 := hQ.2.2 pz (by omega) (by omega) (by omega)
          refine lv_aload_n hx hb dX12_factor_110 rfl (lv_at hl 0 rfl) ?_
          refine lv_iload_n hx hb dX12_factor_111 rfl (lv_at hl 1 rfl) ?_
          refine lv_aload_n hx hb dX12_factor_112 rfl (lv_at hl 0 rfl) ?_
          refine g_X12_56 Cx hW (k := 231) (by decide) rfl (v := .ref (G.2.2.1 + 247)) (rd_18 i_7) dX12_factor_113 ?_
          refine lv_aload_n hx hb dX12_factor_116 rfl (lv_at hl 0 rfl) ?_
          refine g_X12_315 Cx hW (k := 231) (by decide) rfl (v := S.1 231 24) (uF_ne (fun h => absurd h.2 (by decide))) dX12_factor_117 ?_
          refine rIald Cx hW (k := 247) (by decide) rfl (by decide) (by omega) (by omega) dX12_factor_120 ?_
          have q_65 : (-2147483648) ≤ S.2.1 247 (S.1 231 24) ∧ S.2.1 247 (S.1 231 24) ≤ 2147483647 := hI.ai 247 (S.1 231 24)
          refine r_i (b := S.2.1 247 (S.1 231 24)) uF_a ?_
          have hv8 : V pz = S.2.1 247 (S.1 231 24) := by rw [← hV, ← hc]
          refine r_i2l hx hb ⟨(by omega), (by omega)⟩ dX12_factor_121 ?_
          refine sBv (sV (As := [.int (iv ix), .long (jv (S.2.1 247 (S.1 231 24)))]) (rest := []) (k := 231) Cx (s_X12_constant l G (uF S 231 42 z_4) (ix := ix) (v := S.2.1 247 (S.1 231 24)) i_7 (by omega) (by omega)) (c_X12_431 Cx rfl rfl (rmk_ok (by omega) (by decide))) hW (by decide) rfl rfl rfl hl.1 rfl (Nat.le_of_ble_eq_true rfl) dX12_factor_122 ⟨Nat.le_of_ble_eq_true rfl, Nat.le_of_ble_eq_true rfl⟩) hL (fun u_66 H locs k_67 hW hL => ?_)
          obtain ⟨iu_66, fu_66, gu_66, xu_66⟩ := k_67
          have F_68 := F_5.trans (fu_66.to (pl_sub (by decide)))
          have g_69 : FF S u_66 (fl [20, 21, 24, 25, 42, 43]) := FF.trans g_6 (FF.to gu_66 (fl_sub (by decide)))
          refine lv_aload_n hx hb dX12_factor_125 rfl (lv_at hl 0 rfl) ?_
          refine lv_dup hx hb dX12_factor_126 rfl ?_
          refine g_X12_315 Cx hW (k := 231) (by decide) rfl (v := S.1 231 24) ((gu_66 24 rfl).trans (uF_ne (fun h => absurd h.2 (by decide)))) dX12_factor_127 ?_
          refine lv_iconst (v := iv 1) hx hb dX12_factor_130 (by decide) ?_
          refine r_iadd hx hb dX12_factor_131 ?_
          refine p_X12_315 Cx hW hL (k := 231) (by decide) rfl dX12_factor_132 (fun H locs hW hL => ?_)
          have F_70 : Fr S (uF u_66 231 24 ((S.1 231 24) + 1)) (pl [231, 248, 249, 250, 251, 252, 257, 258]) := F_68.F rfl
          have g_71 : FF S (uF u_66 231 24 ((S.1 231 24) + 1)) (fl [20, 21, 24, 25, 42, 43]) := FF.F g_69 rfl
          have i_72 : dX G (uF u_66 231 24 ((S.1 231 24) + 1)) := iu_66.F (i := 24) (show (-2147483648) ≤ (S.1 231 24) + 1 ∧ (S.1 231 24) + 1 ≤ 2147483647 from ⟨by omega, by omega⟩)
          refine lv_goto (tgt := 197) hx hb dX12_factor_135 (by decide) ?_
          have lk_73 : (uF u_66 231 24 ((S.1 231 24) + 1)).1 231 24 = (S.1 231 24) + 1 := uF_on
          have q_74 : (-2147483648) ≤ S.1 231 25 ∧ S.1 231 25 ≤ 2147483647 := hI.fi 25
          have lk_75 : (uF u_66 231 24 ((S.1 231 24) + 1)).1 231 25 = S.1 231 25 := (uF_ne (fun h => absurd h.2 (by decide))).trans ((gu_66 25 rfl).trans (uF_ne (fun h => absurd h.2 (by decide))))
          have lk_76 : (uF u_66 231 24 ((S.1 231 24) + 1)).1 231 20 = S.1 231 20 := (uF_ne (fun h => absurd h.2 (by decide))).trans ((gu_66 20 rfl).trans (uF_ne (fun h => absurd h.2 (by decide))))
          exact sVret Cx hr hlk hW hL ⟨i_72, F_70, g_71, ⟨(by have e7 := (show (uF u_66 231 24 ((S.1 231 24) + 1)).1 231 24 = (S.1 231 24) + 1 from uF_on); have e6 := (show (uF u_66 231 24 ((S.1 231 24) + 1)).1 231 25 = S.1 231 25 from (uF_ne (fun h => absurd h.2 (by decide))).trans ((gu_66 25 rfl).trans (uF_ne (fun h => absurd h.2 (by decide))))); have e8 := (show (uF u_66 231 24 ((S.1 231 24) + 1)).1 231 20 = S.1 231 20 from (uF_ne (fun h => absurd h.2 (by decide))).trans ((gu_66 20 rfl).trans (uF_ne (fun h => absurd h.2 (by decide))))); omega), (NR.eq (S := S) (u := (uF u_66 231 24 ((S.1 231 24) + 1))) (funext fun j => (uF_a).trans (((fu_66 248 rfl).2.1 j).trans (uF_a))) (funext fun j => (uF_a).trans (((fu_66 249 rfl).2.1 j).trans (uF_a))) (funext fun j => (uF_a).trans (((fu_66 250 rfl).2.1 j).trans (uF_a))) (funext fun j => (uF_a).trans (((fu_66 251 rfl).2.1 j).trans (uF_a))) (funext fun j => (uF_a).trans (((fu_66 252 rfl).2.1 j).trans (uF_a)))), (by have e7 := (show (uF u_66 231 24 ((S.1 231 24) + 1)).1 231 24 = (S.1 231 24) + 1 from uF_on); have e6 := (show (uF u_66 231 24 ((S.1 231 24) + 1)).1 231 25 = S.1 231 25 from (uF_ne (fun h => absurd h.2 (by decide))).trans ((gu_66 25 rfl).trans (uF_ne (fun h => absurd h.2 (by decide))))); have e8 := (show (uF u_66 231 24 ((S.1 231 24) + 1)).1 231 20 = S.1 231 20 from (uF_ne (fun h => absurd h.2 (by decide))).trans ((gu_66 20 rfl).trans (uF_ne (fun h => absurd h.2 (by decide))))); omega), (fun h => by have e7 := (show (uF u_66 231 24 ((S.1 231 24) + 1)).1 231 24 = (S.1 231 24) + 1 from uF_on); have e6 := (show (uF u_66 231 24 ((S.1 231 24) + 1)).1 231 25 = S.1 231 25 from (uF_ne (fun h => absurd h.2 (by decide))).trans ((gu_66 25 rfl).trans (uF_ne (fun h => absurd h.2 (by decide))))); have e8 := (show (uF u_66 231 24 ((S.1 231 24) + 1)).1 231 20 = S.1 231 20 from (uF_ne (fun h => absurd h.2 (by decide))).trans ((gu_66 20 rfl).trans (uF_ne (fun h => absurd h.2 (by decide))))); exact ⟨by omega, by omega, by omega, (fB.cg (S := u_66) (fB_c xu_66.1 xu_66.2 (by omega)) (funext fun j => uF_l))⟩)⟩⟩ dX12_factor_197
      · have hg2 := (hg0.resolve_right (fun h => h.1 (xu_11.2.1 (by omega)))).2
        refine lv_aload_n hx hb dX12_factor_48 rfl (lv_at hl 0 rfl) ?_
        refine lv_dup hx hb dX12_factor_49 rfl ?_
        refine g_X12_315 Cx hW (k := 231) (by decide) rfl (v := S.1 231 24) (uF_ne (fun h => absurd h.2 (by decide))) dX12_factor_50 ?_
        refine lv_iconst (v := iv 1) hx hb dX12_factor_53 (by decide) ?_
        refine r_iadd hx hb dX12_factor_54 ?_
        refine p_X12_315 Cx hW hL (k := 231) (by decide) rfl dX12_factor_55 (fun H locs hW hL => ?_)
        have F_77 : Fr S (uF (uF S 231 42 z_4) 231 24 ((S.1 231 24) + 1)) (pl [231, 248, 249, 250, 251, 252, 257, 258]) := F_5.F rfl
        have g_78 : FF S (uF (uF S 231 42 z_4) 231 24 ((S.1 231 24) + 1)) (fl [20, 21, 24, 25, 42, 43]) := FF.F g_6 rfl
        have i_79 : dX G (uF (uF S 231 42 z_4) 231 24 ((S.1 231 24) + 1)) := i_7.F (i := 24) (show (-2147483648) ≤ (S.1 231 24) + 1 ∧ (S.1 231 24) + 1 ≤ 2147483647 from ⟨by omega, by omega⟩)
        refine lv_aload_n hx hb dX12_factor_58 rfl (lv_at hl 0 rfl) ?_
        refine lv_iload_n hx hb dX12_factor_59 rfl (lv_at hl 1 rfl) ?_
        have lk_80 : (uF (uF S 231 42 z_4) 231 24 ((S.1 231 24) + 1)).1 231 24 = (S.1 231 24) + 1 := uF_on
        have lk_81 : (uF (uF S 231 42 z_4) 231 24 ((S.1 231 24) + 1)).1 231 20 = S.1 231 20 := (uF_ne (fun h => absurd h.2 (by decide))).trans (uF_ne (fun h => absurd h.2 (by decide)))
        have q_82 : (-2147483648) ≤ S.1 231 25 ∧ S.1 231 25 ≤ 2147483647 := hI.fi 25
        have lk_83 : (uF (uF S 231 42 z_4) 231 24 ((S.1 231 24) + 1)).1 231 25 = S.1 231 25 := (uF_ne (fun h => absurd h.2 (by decide))).trans (uF_ne (fun h => absurd h.2 (by decide)))
        refine sBv (sV (As := [.int (iv ix)]) (rest := []) (k := 231) Cx (hF n rfl (uF (uF S 231 42 z_4) 231 24 ((S.1 231 24) + 1)) (pz + 1) q ix i_79 ((funext fun j => (uF_a).trans (uF_a) : (uF (uF S 231 42 z_4) 231 24 ((S.1 231 24) + 1)).2.1 244 = S.2.1 244).trans hK) ((funext fun j => (uF_a).trans (uF_a) : (uF (uF S 231 42 z_4) 231 24 ((S.1 231 24) + 1)).2.1 247 = S.2.1 247).trans hV) ((funext fun j => (uF_a).trans (uF_a) : (uF (uF S 231 42 z_4) 231 24 ((S.1 231 24) + 1)).2.1 245 = S.2.1 245).trans hFm) ((funext fun j => (uF_a).trans (uF_a) : (uF (uF S 231 42 z_4) 231 24 ((S.1 231 24) + 1)).2.1 246 = S.2.1 246).trans hWd) (by omega) (by omega) (fun _ => hg2) (fun h => (NX.cg (S := S) (u := (uF (uF S 231 42 z_4) 231 24 ((S.1 231 24) + 1))) (hNX (by have e9 := (show (uF (uF S 231 42 z_4) 231 24 ((S.1 231 24) + 1)).1 231 20 = S.1 231 20 from (uF_ne (fun h => absurd h.2 (by decide))).trans (uF_ne (fun h => absurd h.2 (by decide)))); omega)) (NR.eq (funext fun j => (uF_a).trans (uF_a)) (funext fun j => (uF_a).trans (uF_a)) (funext fun j => (uF_a).trans (uF_a)) (funext fun j => (uF_a).trans (uF_a)) (funext fun j => (uF_a).trans (uF_a))) ((uF_ne (fun h => absurd h.2 (by decide))).trans (uF_ne (fun h => absurd h.2 (by decide)))) ((uF_ne (fun h => absurd h.2 (by decide))).trans (uF_ne (fun h => absurd h.2 (by decide)))) ((uF_ne (fun h => absurd h.2 (by decide))).trans (uF_ne (fun h => absurd h.2 (by decide)))) (funext fun j => (uF_a).trans (uF_a)))) (fun _ => by omega) (by omega)) (c_X12_426 Cx rfl rfl (rmk_ok (by omega) (by decide))) hW (by decide) rfl rfl rfl hl.1 rfl (Nat.le_of_ble_eq_true rfl) dX12_factor_60 ⟨Nat.le_of_ble_eq_true rfl, Nat.le_of_ble_eq_true rfl⟩) hL (fun u_84 H locs k_85 hW hL => ?_)
        obtain ⟨iu_84, fu_84, gu_84, xu_84⟩ := k_85
        have F_86 := F_77.trans fu_84
        have g_87 : FF S u_84 (fl [20, 21, 24, 25, 42, 43]) := FF.trans g_78 (FF.to gu_84 (fl_sub (by decide)))
        have nu_84 : Hd (u_84.1 231 20 = 0 → NX u_84 T) := fun h => NX.cg (S := (uF (uF S 231 42 z_4) 231 24 ((S.1 231 24) + 1))) ((fun h => (NX.cg (S := S) (u := (uF (uF S 231 42 z_4) 231 24 ((S.1 231 24) + 1))) (hNX (by have e9 := (show (uF (uF S 231 42 z_4) 231 24 ((S.1 231 24) + 1)).1 231 20 = S.1 231 20 from (uF_ne (fun h => absurd h.2 (by decide))).trans (uF_ne (fun h => absurd h.2 (by decide)))); omega)) (NR.eq (funext fun j => (uF_a).trans (uF_a)) (funext fun j => (uF_a).trans (uF_a)) (funext fun j => (uF_a).trans (uF_a)) (funext fun j => (uF_a).trans (uF_a)) (funext fun j => (uF_a).trans (uF_a))) ((uF_ne (fun h => absurd h.2 (by decide))).trans (uF_ne (fun h => absurd h.2 (by decide)))) ((uF_ne (fun h => absurd h.2 (by decide))).trans (uF_ne (fun h => absurd h.2 (by decide)))) ((uF_ne (fun h => absurd h.2 (by decide))).trans (uF_ne (fun h => absurd h.2 (by decide)))) (funext fun j => (uF_a).trans (uF_a)))) (xu_84.2.2.2 h).1) xu_84.2.1 (xu_84.2.2.2 h).2.2.1 (gu_84 32 rfl) (gu_84 35 rfl) (funext fun j => (fu_84 253 rfl).2.1 j)
        refine lv_iconst (v := iv 0) hx hb dX12_factor_63 (by decide) ?_
        refine lv_istore_n (lv' := [(2, .int (iv 0)), (0, .ref (G.2.2.1 + 231)), (1, .int (iv ix))]) hx hb dX12_factor_64 rfl hl (by decide) rfl (fun ls hl => ?_)
        have loop_65 : ∀ (fuel : Nat) (S65 : sS) (k : Int) (H : Heap) (locs : List Loc) (ls : Array Slot), (13 - k).toNat < fuel → (dX G S65) → (Fr S S65 (pl [231, 248, 249, 250, 251, 252, 257, 258])) → (Fr u_84 S65 (pl [257])) → (FF S S65 (fl [20, 21, 24, 25, 42, 43])) → (FF u_84 S65 (fl [])) → (0 ≤ k ∧ k ≤ 13) → (Hd (u_84.1 231 20 = 0 → fB S65 ix)) → sW G 294 S65 H → sL G locs → lv_has ls 3 [(2, .int (iv k)), (0, .ref (G.2.2.1 + 231)), (1, .int (iv ix))] → W p l e (rmk D 0 0) s m args below meth c H locs 0 0 (MQ below (sQv G 294 (fun u => dX G u ∧ Fr S u (pl [231, 248, 249, 250, 251, 252, 257, 258]) ∧ FF S u (fl [20, 21, 24, 25, 42, 43]) ∧ ((pz ≤ u.1 231 24 ∧ u.1 231 24 ≤ q) ∧ NR S u (S.1 231 25) ∧ S.1 231 25 ≤ u.1 231 25 ∧ Hd (u.1 231 20 = 0 → S.1 231 20 = 0 ∧ u.1 231 24 = q ∧ u.1 231 25 = S.1 231 25 ∧ fB u ix)))) args s 0 0 (sF G)) (F0 m 65 ls []) := by
          intro fuel
          induction fuel with
          | zero => intro S65 k H locs ls hmeas hI65 hFm65 hL65_ hGm65 gL65_ hk hb65 hW hL hl; exact absurd hmeas (Nat.not_lt_zero _)
          | succ fuel ih_65 =>
            intro S65 k H locs ls hmeas hI65 hFm65 hL65_ hGm65 gL65_ hk hb65 hW hL hl
            refine lv_iload_n hx hb dX12_factor_65 rfl (lv_at hl 0 rfl) ?_
            refine lv_bipush (v := iv 12) hx hb dX12_factor_66 (by decide) ?_
            refine r_icmp_gt (tgt := 94) hx hb ⟨(by omega), (by omega)⟩ ⟨(by omega), (by omega)⟩ dX12_factor_68 (by decide) (fun c_88 => ?_) (fun c_88 => ?_)
            · refine lv_goto (tgt := 197) hx hb dX12_factor_94 (by decide) ?_
              have q_89 : (-2147483648) ≤ u_84.1 231 24 ∧ u_84.1 231 24 ≤ 2147483647 := iu_84.fi 24
              have lk_90 : S65.1 231 24 = u_84.1 231 24 := gL65_ 24 rfl
              have q_91 : (-2147483648) ≤ u_84.1 231 25 ∧ u_84.1 231 25 ≤ 2147483647 := iu_84.fi 25
              have lk_92 : S65.1 231 25 = u_84.1 231 25 := gL65_ 25 rfl
              have q_93 : (-2147483648) ≤ u_84.1 231 20 ∧ u_84.1 231 20 ≤ 2147483647 := iu_84.fi 20
              have lk_94 : S65.1 231 20 = u_84.1 231 20 := gL65_ 20 rfl
              exact sVret Cx hr hlk hW hL ⟨hI65, hFm65, hGm65, ⟨(by have e7 := (show S65.1 231 24 = u_84.1 231 24 from gL65_ 24 rfl); have e6 := (show S65.1 231 25 = u_84.1 231 25 from gL65_ 25 rfl); have e8 := (show S65.1 231 20 = u_84.1 231 20 from gL65_ 20 rfl); omega), (NR.trans (NR.trans (NR.eq (S := S) (u := (uF (uF S 231 42 z_4) 231 24 ((S.1 231 24) + 1))) (funext fun j => (uF_a).trans (uF_a)) (funext fun j => (uF_a).trans (uF_a)) (funext fun j => (uF_a).trans (uF_a)) (funext fun j => (uF_a).trans (uF_a)) (funext fun j => (uF_a).trans (uF_a))) xu_84.2.1) (NR.eq (S := u_84) (u := S65) (funext fun j => (hL65_ 248 rfl).2.1 j) (funext fun j => (hL65_ 249 rfl).2.1 j) (funext fun j => (hL65_ 250 rfl).2.1 j) (funext fun j => (hL65_ 251 rfl).2.1 j) (funext fun j => (hL65_ 252 rfl).2.1 j))), (by have e7 := (show S65.1 231 24 = u_84.1 231 24 from gL65_ 24 rfl); have e6 := (show S65.1 231 25 = u_84.1 231 25 from gL65_ 25 rfl); have e8 := (show S65.1 231 20 = u_84.1 231 20 from gL65_ 20 rfl); omega), (fun h => by have e7 := (show S65.1 231 24 = u_84.1 231 24 from gL65_ 24 rfl); have e6 := (show S65.1 231 25 = u_84.1 231 25 from gL65_ 25 rfl); have e8 := (show S65.1 231 20 = u_84.1 231 20 from gL65_ 20 rfl); have a9 := xu_84.2.2.2 (by omega); exact ⟨by omega, by omega, by omega, hb65 (by omega)⟩)⟩⟩ dX12_factor_197
            · refine lv_aload_n hx hb dX12_factor_71 rfl (lv_at hl 1 rfl) ?_
              refine g_X12_88 Cx hW (k := 231) (by decide) rfl (v := .ref (G.2.2.1 + 257)) (rd_41 hI65) dX12_factor_72 ?_
              refine lv_iload_n hx hb dX12_factor_75 rfl (lv_at hl 2 rfl) ?_
              refine lv_iload_n hx hb dX12_factor_76 rfl (lv_at hl 0 rfl) ?_
              refine r_iadd hx hb dX12_factor_77 ?_
              refine lv_aload_n hx hb dX12_factor_78 rfl (lv_at hl 1 rfl) ?_
              refine g_X12_88 Cx hW (k := 231) (by decide) rfl (v := .ref (G.2.2.1 + 257)) (rd_41 hI65) dX12_factor_79 ?_
              refine lv_iload_n hx hb dX12_factor_82 rfl (lv_at hl 2 rfl) ?_
              refine lv_iload_n hx hb dX12_factor_83 rfl (lv_at hl 0 rfl) ?_
              refine r_iadd hx hb dX12_factor_84 ?_
              refine rLald Cx hW (k := 257) (by decide) rfl (by decide) (by omega) (by omega) dX12_factor_85 ?_
              have q_95 : -9223372036854775808 ≤ S65.2.2.1 257 (ix + k) ∧ S65.2.2.1 257 (ix + k) ≤ 9223372036854775807 := hI65.li 257 (ix + k)
              refine r_j (b := S65.2.2.1 257 (ix + k)) rfl ?_
              refine r_lneg hx hb dX12_factor_86 ?_
              obtain ⟨zn, ezn, lzn, hzn, fzn⟩ := jv_h (-(S65.2.2.1 257 (ix + k)))
              rw [ezn]
              refine rLast Cx hW hL (k := 257) (by decide) rfl (by decide) (by omega) (by omega) dX12_factor_87 (fun H locs hW hL => ?_)
              have F_96 : Fr S (uL S65 257 (ix + k) zn) (pl [231, 248, 249, 250, 251, 252, 257, 258]) := hFm65.L rfl
              have F_97 : Fr u_84 (uL S65 257 (ix + k) zn) (pl [257]) := hL65_.L rfl
              have i_98 : dX G (uL S65 257 (ix + k) zn) := hI65.L ⟨by omega, by omega⟩
              refine lv_iinc (v := iv (k + 1)) (lv' := [(2, .int (iv (k + 1))), (0, .ref (G.2.2.1 + 231)), (1, .int (iv ix))]) hx hb dX12_factor_88 hl (k := 0) rfl ((Int32.ofInt_add _ _).symm) (by decide) rfl (fun ls hl => ?_)
              refine lv_goto (tgt := 65) hx hb dX12_factor_91 (by decide) ?_
              exact ih_65 (uL S65 257 (ix + k) zn) (k + 1) _ _ _ (by omega) i_98 F_96 F_97 hGm65 gL65_ (by omega) (fun h t a b => by have y := hb65 h k (by omega) (by omega); have y2 := fzn (by omega) (by omega); by_cases ed : t = k; (rw [ed]; rw [show (ix + k : Int) = ix + k from rfl, uL_on]; omega); rw [uL_ne (fun h => ed (by have := h.2; omega))]; exact hb65 h t a b) hW hL (lv_sub hl [0, 1, 2] rfl)
        exact loop_65 (_ + 1) u_84 0 _ _ _ (Nat.lt_succ_self _) iu_84 F_86 Fr.rf g_87 FF.rf (by omega) (fun h => (xu_84.2.2.2 h).2.2.2) hW hL (lv_sub hl [0, 1, 2] rfl)
    · refine lv_aload_n hx hb dX12_factor_28 rfl (lv_at hl 0 rfl) ?_
      refine lv_bipush (v := iv 7) hx hb dX12_factor_29 (by decide) ?_
      refine lv_aload_n hx hb dX12_factor_31 rfl (lv_at hl 0 rfl) ?_
      have q_99 : (-2147483648) ≤ S.1 231 24 ∧ S.1 231 24 ≤ 2147483647 := hI.fi 24
      refine g_X12_315 Cx hW (k := 231) (by decide) rfl (v := S.1 231 24) (uF_ne (fun h => absurd h.2 (by decide))) dX12_factor_32 ?_
      refine sBv (sV (As := [.int (iv 7), .int (iv (S.1 231 24))]) (rest := []) (k := 231) Cx (s_X12_wrong l G (uF S 231 42 z_4) (cd := 7) (tk := S.1 231 24) i_7 (by omega) (by omega)) (c_X12_321 Cx rfl rfl (rmk_ok (by omega) (by decide))) hW (by decide) rfl rfl rfl hl.1 rfl (Nat.le_of_ble_eq_true rfl) dX12_factor_35 ⟨Nat.le_of_ble_eq_true rfl, Nat.le_of_ble_eq_true rfl⟩) hL (fun u_100 H locs k_101 hW hL => ?_)
      obtain ⟨iu_100, fu_100, gu_100, xu_100⟩ := k_101
      have F_102 := F_5.trans (fu_100.to (pl_sub (by decide)))
      have g_103 : FF S u_100 (fl [20, 21, 24, 25, 42, 43]) := FF.trans g_6 (FF.to gu_100 (fl_sub (by decide)))
      have lk_104 : u_100.1 231 24 = S.1 231 24 := (gu_100 24 rfl).trans (uF_ne (fun h => absurd h.2 (by decide)))
      have q_105 : (-2147483648) ≤ S.1 231 25 ∧ S.1 231 25 ≤ 2147483647 := hI.fi 25
      have lk_106 : u_100.1 231 25 = S.1 231 25 := (gu_100 25 rfl).trans (uF_ne (fun h => absurd h.2 (by decide)))
      have q_107 : (-2147483648) ≤ u_100.1 231 20 ∧ u_100.1 231 20 ≤ 2147483647 := iu_100.fi 20
      exact sVret Cx hr hlk hW hL ⟨iu_100, F_102, g_103, ⟨(by have e7 := (show u_100.1 231 24 = S.1 231 24 from (gu_100 24 rfl).trans (uF_ne (fun h => absurd h.2 (by decide)))); have e6 := (show u_100.1 231 25 = S.1 231 25 from (gu_100 25 rfl).trans (uF_ne (fun h => absurd h.2 (by decide)))); have e8 := (show u_100.1 231 20 = u_100.1 231 20 from rfl); omega), (NR.eq (S := S) (u := u_100) (funext fun j => ((fu_100 248 rfl).2.1 j).trans (uF_a)) (funext fun j => ((fu_100 249 rfl).2.1 j).trans (uF_a)) (funext fun j => ((fu_100 250 rfl).2.1 j).trans (uF_a)) (funext fun j => ((fu_100 251 rfl).2.1 j).trans (uF_a)) (funext fun j => ((fu_100 252 rfl).2.1 j).trans (uF_a))), (by have e7 := (show u_100.1 231 24 = S.1 231 24 from (gu_100 24 rfl).trans (uF_ne (fun h => absurd h.2 (by decide)))); have e6 := (show u_100.1 231 25 = S.1 231 25 from (gu_100 25 rfl).trans (uF_ne (fun h => absurd h.2 (by decide)))); have e8 := (show u_100.1 231 20 = u_100.1 231 20 from rfl); omega), (fun h => absurd h (by have e9 := (show u_100.1 231 20 = u_100.1 231 20 from rfl); have a9 := xu_100; omega))⟩⟩ dX12_factor_38
  · have q_108 : (-2147483648) ≤ S.1 231 24 ∧ S.1 231 24 ≤ 2147483647 := hI.fi 24
    have q_109 : (-2147483648) ≤ S.1 231 25 ∧ S.1 231 25 ≤ 2147483647 := hI.fi 25
    exact sVret Cx hr hlk hW hL ⟨hI, (Fr.rf : Fr S S (pl [231, 248, 249, 250, 251, 252, 257, 258])), FF.rf, ⟨(by have e7 := (show S.1 231 24 = S.1 231 24 from rfl); have e6 := (show S.1 231 25 = S.1 231 25 from rfl); have e8 := (show S.1 231 20 = S.1 231 20 from rfl); omega), NR.rf, (by have e7 := (show S.1 231 24 = S.1 231 24 from rfl); have e6 := (show S.1 231 25 = S.1 231 25 from rfl); have e8 := (show S.1 231 20 = S.1 231 20 from rfl); omega), (fun h => absurd h (by have e9 := (show S.1 231 20 = S.1 231 20 from rfl); omega))⟩⟩ dX12_factor_7

set_option maxRecDepth 100000 in
set_option maxHeartbeats 4000000 in
theorem s_X12_product (l : Launch) (G : sG) (S : sS) {K V Fm Wd : Int → Int} {T : Int} {D d1 N : Nat} {pz q ix : Int} (hI : dX G S) (hK : S.2.1 244 = K) (hV : S.2.1 247 = V) (hFm : S.2.1 245 = Fm) (hWd : S.2.1 246 = Wd) (hQ : gQ K V Fm Wd T) (h1 : d1 < D) (h8 : 10 ≤ D) (hF : Hd (FtC l G d1 K V Fm Wd T N)) (hc : S.1 231 24 = pz) (hpq : 0 ≤ pz ∧ pz ≤ q ∧ q ≤ T - 1) (hg : Hd (S.1 231 20 = 0 → gP K V (gF K V N) pz q)) (hNX : Hd (S.1 231 20 = 0 → NX S T)) (h3 : S.1 231 20 = 0 → 3 * S.1 231 25 ≤ pz) (hix : 0 ≤ ix ∧ ix + (39 * N + 13) + 12 < 1820) : Met l yX12_product (.code yX12_product cX12_product 8 none :: tb) (rmk D 0 0) (sPc G 294 S [.ref (G.2.2.1 + 231), .int (iv ix)]) (sQv G 294 (fun u => dX G u ∧ Fr S u (pl [231, 248, 249, 250, 251, 252, 257, 258]) ∧ FF S u (fl [20, 21, 24, 25, 42, 43]) ∧ ((pz ≤ u.1 231 24 ∧ u.1 231 24 ≤ q) ∧ NR S u (S.1 231 25) ∧ S.1 231 25 ≤ u.1 231 25 ∧ Hd (u.1 231 20 = 0 → S.1 231 20 = 0 ∧ u.1 231 24 = q ∧ u.1 231 25 = S.1 231 25 ∧ fB u ix)))) 0 0 (sF G) := by
  refine sEnter (by decide) (Nat.le_of_ble_eq_true rfl) ?_
  intro p e s m args below meth c Cx hr hlk hnm hW ls hl
  have Cx : sC G p m c cX12_product 8 s args RX12 := Cx
  obtain ⟨hx, hb, hml, hown, hts⟩ := id Cx.1
  have hL : sL G [] := sL_nil
  have hl : lv_has ls 8 [(0, .ref (G.2.2.1 + 231)), (1, .int (iv ix))] := hl
  have hW0 := hW
  have hQ1 := hQ.1
  obtain ⟨ed, hpe, he, ht⟩ := gL_sp (A := S.1 231 20 = 0) (st := (fun c => gS K V c 42)) (F := (gF K V N)) (fun c x r => gF_lt _ r) hg (by omega)
  refine lv_aload_n hx hb dX12_product_0 rfl (lv_at hl 0 rfl) ?_
  refine lv_iload_n hx hb dX12_product_1 rfl (lv_at hl 1 rfl) ?_
  have q_1 : (-2147483648) ≤ S.1 231 24 ∧ S.1 231 24 ≤ 2147483647 := hI.fi 24
  have q_2 : (-2147483648) ≤ S.1 231 20 ∧ S.1 231 20 ≤ 2147483647 := hI.fi 20
  have q_3 : (-2147483648) ≤ S.1 231 25 ∧ S.1 231 25 ≤ 2147483647 := hI.fi 25
  refine sBv (sV (As := [.int (iv ix)]) (rest := []) (k := 231) Cx (hF S pz ed ix hI hK hV hFm hWd (by omega) (by omega) he hNX (fun h => h3 (by omega)) (by omega)) (c_X12_426 Cx rfl rfl (rmk_ok (by omega) (by decide))) hW (by decide) rfl rfl rfl hl.1 rfl (Nat.le_of_ble_eq_true rfl) dX12_product_2 ⟨Nat.le_of_ble_eq_true rfl, Nat.le_of_ble_eq_true rfl⟩) hL (fun u_4 H locs k_5 hW hL => ?_)
  obtain ⟨iu_4, fu_4, gu_4, xu_4⟩ := k_5
  have F_6 := (Fr.rf : Fr S S (pl [231, 248, 249, 250, 251, 252, 257, 258])).trans fu_4
  have g_7 : FF S u_4 (fl [20, 21, 24, 25, 42, 43]) := FF.trans FF.rf (FF.to gu_4 (fl_sub (by decide)))
  have nu_4 : Hd (u_4.1 231 20 = 0 → NX u_4 T) := fun h => NX.cg (S := S) (hNX (xu_4.2.2.2 h).1) xu_4.2.1 (xu_4.2.2.2 h).2.2.1 (gu_4 32 rfl) (gu_4 35 rfl) (funext fun j => (fu_4 253 rfl).2.1 j)
  refine lv_iload_n hx hb dX12_product_5 rfl (lv_at hl 1 rfl) ?_
  refine lv_bipush (v := iv 12) hx hb dX12_product_6 (by decide) ?_
  refine r_iadd hx hb dX12_product_8 ?_
  refine lv_iconst (v := iv 1) hx hb dX12_product_9 (by decide) ?_
  refine r_iadd hx hb dX12_product_10 ?_
  refine lv_istore_n (lv' := [(2, .int (iv ((ix + 12) + 1))), (0, .ref (G.2.2.1 + 231)), (1, .int (iv ix))]) hx hb dX12_product_11 rfl hl (by decide) rfl (fun ls hl => ?_)
  have loop_12 : ∀ (fuel : Nat) (S12 : sS)  (H : Heap) (locs : List Loc) (ls : Array Slot), mf S12 T < fuel → (dX G S12) → (Fr S S12 (pl [231, 248, 249, 250, 251, 252, 257, 258])) → (Fr u_4 S12 (pl [231, 248, 249, 250, 251, 252, 257, 258])) → (FF S S12 (fl [20, 21, 24, 25, 42, 43])) → (FF u_4 S12 (fl [20, 21, 24, 25, 42, 43])) → (NR S S12 (S.1 231 25)) → (S.1 231 25 ≤ S12.1 231 25) → (pz ≤ S12.1 231 24 ∧ S12.1 231 24 ≤ q) → (Hd (S12.1 231 20 = 0 → NX S12 T ∧ S12.1 231 25 = S.1 231 25 ∧ gTl (fun c => gS K V c 42) (fun c x => (gF K V N) (c + 1) x) (S12.1 231 24) q ∧ S.1 231 20 = 0 ∧ fB S12 ix)) → sW G 294 S12 H → sL G locs → lv_has ls 8 [(2, .int (iv ((ix + 12) + 1))), (0, .ref (G.2.2.1 + 231)), (1, .int (iv ix))] → W p l e (rmk D 0 0) s m args below meth c H locs 0 0 (MQ below (sQv G 294 (fun u => dX G u ∧ Fr S u (pl [231, 248, 249, 250, 251, 252, 257, 258]) ∧ FF S u (fl [20, 21, 24, 25, 42, 43]) ∧ ((pz ≤ u.1 231 24 ∧ u.1 231 24 ≤ q) ∧ NR S u (S.1 231 25) ∧ S.1 231 25 ≤ u.1 231 25 ∧ Hd (u.1 231 20 = 0 → S.1 231 20 = 0 ∧ u.1 231 24 = q ∧ u.1 231 25 = S.1 231 25 ∧ fB u ix)))) args s 0 0 (sF G)) (F0 m 12 ls []) := by
    intro fuel
    induction fuel with
    | zero => intro S12  H locs ls hmeas hI12 hFm12 hL12_ hGm12 gL12_ hR12 h25_12 hc12 hN12 hW hL hl; exact absurd hmeas (Nat.not_lt_zero _)
    | succ fuel ih_12 =>
      intro S12  H locs ls hmeas hI12 hFm12 hL12_ hGm12 gL12_ hR12 h25_12 hc12 hN12 hW hL hl
      have hM12 : Hd (S12.1 231 20 = 0 → NX S12 T) := fun h => (hN12 h).1
      have hm12 := hmeas
      refine lv_aload_n hx hb dX12_product_12 rfl (lv_at hl 1 rfl) ?_
      have q_8 : (-2147483648) ≤ S12.1 231 20 ∧ S12.1 231 20 ≤ 2147483647 := hI12.fi 20
      refine g_X12_270 Cx hW (k := 231) (by decide) rfl (v := S12.1 231 20) rfl dX12_product_13 ?_
      refine r_if_ne (tgt := 177) hx hb ⟨(by omega), (by omega)⟩ dX12_product_16 (by decide) (fun c_9 => ?_) (fun c_9 => ?_)
      · have q_10 : (-2147483648) ≤ S12.1 231 24 ∧ S12.1 231 24 ≤ 2147483647 := hI12.fi 24
        have q_11 : (-2147483648) ≤ S12.1 231 25 ∧ S12.1 231 25 ≤ 2147483647 := hI12.fi 25
        exact sVret Cx hr hlk hW hL ⟨hI12, hFm12, hGm12, ⟨(by have e7 := (show S12.1 231 24 = S12.1 231 24 from rfl); have e6 := (show S12.1 231 25 = S12.1 231 25 from rfl); have e8 := (show S12.1 231 20 = S12.1 231 20 from rfl); omega), hR12, (by have e7 := (show S12.1 231 24 = S12.1 231 24 from rfl); have e6 := (show S12.1 231 25 = S12.1 231 25 from rfl); have e8 := (show S12.1 231 20 = S12.1 231 20 from rfl); omega), (fun h => absurd h (by have e9 := (show S12.1 231 20 = S12.1 231 20 from rfl); omega))⟩⟩ dX12_product_177
      · have b12 := hN12 (by omega)
        refine lv_aload_n hx hb dX12_product_19 rfl (lv_at hl 1 rfl) ?_
        refine lv_bipush (v := iv 42) hx hb dX12_product_20 (by decide) ?_
        have q_12 : (-2147483648) ≤ S12.1 231 24 ∧ S12.1 231 24 ≤ 2147483647 := hI12.fi 24
        refine sBi (sV (As := [.int (iv 42)]) (rest := []) (k := 231) Cx (s_X12_isSign l G S12 (sv := 42) (K := K) (V := V) (pz := S12.1 231 24) hI12 (by omega) ((funext fun j => ((hL12_ 244 rfl).2.1 j).trans ((fu_4 244 rfl).2.1 j) : S12.2.1 244 = S.2.1 244).trans hK) ((funext fun j => ((hL12_ 247 rfl).2.1 j).trans ((fu_4 247 rfl).2.1 j) : S12.2.1 247 = S.2.1 247).trans hV) (by omega) (by omega)) (c_X12_318 Cx rfl rfl (rmk_ok (by omega) (by decide))) hW (by decide) rfl rfl rfl hl.1 rfl (Nat.le_of_ble_eq_true rfl) dX12_product_22 ⟨Nat.le_of_ble_eq_true rfl, Nat.le_of_ble_eq_true rfl⟩) hL (fun r_15 u_13 H locs k_14 hW hL => ?_)
        obtain ⟨eu_13, xu_13⟩ := k_14
        rw [eu_13] at hW
        refine r_if_eq (tgt := 177) hx hb ⟨(by omega), (by omega)⟩ dX12_product_25 (by decide) (fun c_16 => ?_) (fun c_16 => ?_)
        · have q_17 : (-2147483648) ≤ S12.1 231 25 ∧ S12.1 231 25 ≤ 2147483647 := hI12.fi 25
          exact sVret Cx hr hlk hW hL ⟨hI12, hFm12, hGm12, ⟨(by have e7 := (show S12.1 231 24 = S12.1 231 24 from rfl); have e6 := (show S12.1 231 25 = S12.1 231 25 from rfl); have e8 := (show S12.1 231 20 = S12.1 231 20 from rfl); omega), hR12, (by have e7 := (show S12.1 231 24 = S12.1 231 24 from rfl); have e6 := (show S12.1 231 25 = S12.1 231 25 from rfl); have e8 := (show S12.1 231 20 = S12.1 231 20 from rfl); omega), (fun h => by have e7 := (show S12.1 231 24 = S12.1 231 24 from rfl); have e6 := (show S12.1 231 25 = S12.1 231 25 from rfl); have e8 := (show S12.1 231 20 = S12.1 231 20 from rfl); have b12 := hN12 (by omega); have q9 := gTl.fin b12.2.2.1 (xu_13.2.2 (by omega)); exact ⟨by omega, by omega, by omega, b12.2.2.2.2⟩)⟩⟩ dX12_product_177
        · obtain ⟨e2, he2, ht2⟩ := gTl.inv b12.2.2.1 (xu_13.2.1 (by omega))
          have hl2 := gF_lt _ he2
          have hl3 := gP_tl ht2
          refine lv_aload_n hx hb dX12_product_28 rfl (lv_at hl 1 rfl) ?_
          refine g_X12_315 Cx hW (k := 231) (by decide) rfl (v := S12.1 231 24) rfl dX12_product_29 ?_
          refine lv_istore_n (lv' := [(3, .int (iv (S12.1 231 24))), (2, .int (iv ((ix + 12) + 1))), (0, .ref (G.2.2.1 + 231)), (1, .int (iv ix))]) hx hb dX12_product_32 rfl hl (by decide) rfl (fun ls hl => ?_)
          refine lv_aload_n hx hb dX12_product_33 rfl (lv_at hl 2 rfl) ?_
          refine lv_dup hx hb dX12_product_34 rfl ?_
          refine g_X12_315 Cx hW (k := 231) (by decide) rfl (v := S12.1 231 24) rfl dX12_product_35 ?_
          refine lv_iconst (v := iv 1) hx hb dX12_product_38 (by decide) ?_
          refine r_iadd hx hb dX12_product_39 ?_
          refine p_X12_315 Cx hW hL (k := 231) (by decide) rfl dX12_product_40 (fun H locs hW hL => ?_)
          have F_18 : Fr S (uF S12 231 24 ((S12.1 231 24) + 1)) (pl [231, 248, 249, 250, 251, 252, 257, 258]) := hFm12.F rfl
          have F_19 : Fr u_4 (uF S12 231 24 ((S12.1 231 24) + 1)) (pl [231, 248, 249, 250, 251, 252, 257, 258]) := hL12_.F rfl
          have g_20 : FF S (uF S12 231 24 ((S12.1 231 24) + 1)) (fl [20, 21, 24, 25, 42, 43]) := FF.F hGm12 rfl
          have g_21 : FF u_4 (uF S12 231 24 ((S12.1 231 24) + 1)) (fl [20, 21, 24, 25, 42, 43]) := FF.F gL12_ rfl
          have i_22 : dX G (uF S12 231 24 ((S12.1 231 24) + 1)) := hI12.F (i := 24) (show (-2147483648) ≤ (S12.1 231 24) + 1 ∧ (S12.1 231 24) + 1 ≤ 2147483647 from ⟨by omega, by omega⟩)
          refine lv_aload_n hx hb dX12_product_43 rfl (lv_at hl 2 rfl) ?_
          refine lv_iload_n hx hb dX12_product_44 rfl (lv_at hl 1 rfl) ?_
          have lk_23 : (uF S12 231 24 ((S12.1 231 24) + 1)).1 231 24 = (S12.1 231 24) + 1 := uF_on
          have lk_24 : (uF S12 231 24 ((S12.1 231 24) + 1)).1 231 20 = S12.1 231 20 := uF_ne (fun h => absurd h.2 (by decide))
          have q_25 : (-2147483648) ≤ S12.1 231 25 ∧ S12.1 231 25 ≤ 2147483647 := hI12.fi 25
          have lk_26 : (uF S12 231 24 ((S12.1 231 24) + 1)).1 231 25 = S12.1 231 25 := uF_ne (fun h => absurd h.2 (by decide))
          refine sBv (sV (As := [.int (iv ((ix + 12) + 1))]) (rest := []) (k := 231) Cx (hF (uF S12 231 24 ((S12.1 231 24) + 1)) (S12.1 231 24 + 1) e2 ((ix + 12) + 1) i_22 ((funext fun j => (uF_a).trans (((hL12_ 244 rfl).2.1 j).trans ((fu_4 244 rfl).2.1 j)) : (uF S12 231 24 ((S12.1 231 24) + 1)).2.1 244 = S.2.1 244).trans hK) ((funext fun j => (uF_a).trans (((hL12_ 247 rfl).2.1 j).trans ((fu_4 247 rfl).2.1 j)) : (uF S12 231 24 ((S12.1 231 24) + 1)).2.1 247 = S.2.1 247).trans hV) ((funext fun j => (uF_a).trans (((hL12_ 245 rfl).2.1 j).trans ((fu_4 245 rfl).2.1 j)) : (uF S12 231 24 ((S12.1 231 24) + 1)).2.1 245 = S.2.1 245).trans hFm) ((funext fun j => (uF_a).trans (((hL12_ 246 rfl).2.1 j).trans ((fu_4 246 rfl).2.1 j)) : (uF S12 231 24 ((S12.1 231 24) + 1)).2.1 246 = S.2.1 246).trans hWd) (by omega) (by omega) (fun _ => he2) (fun h => (NX.cg (S := S12) (u := (uF S12 231 24 ((S12.1 231 24) + 1))) (hM12 (by have e9 := (show (uF S12 231 24 ((S12.1 231 24) + 1)).1 231 20 = S12.1 231 20 from uF_ne (fun h => absurd h.2 (by decide))); omega)) (NR.eq (funext fun j => uF_a) (funext fun j => uF_a) (funext fun j => uF_a) (funext fun j => uF_a) (funext fun j => uF_a)) (uF_ne (fun h => absurd h.2 (by decide))) (uF_ne (fun h => absurd h.2 (by decide))) (uF_ne (fun h => absurd h.2 (by decide))) (funext fun j => uF_a))) (fun _ => by omega) (by omega)) (c_X12_426 Cx rfl rfl (rmk_ok (by omega) (by decide))) hW (by decide) rfl rfl rfl hl.1 rfl (Nat.le_of_ble_eq_true rfl) dX12_product_45 ⟨Nat.le_of_ble_eq_true rfl, Nat.le_of_ble_eq_true rfl⟩) hL (fun u_27 H locs k_28 hW hL => ?_)
          obtain ⟨iu_27, fu_27, gu_27, xu_27⟩ := k_28
          have F_29 := F_18.trans fu_27
          have F_30 := F_19.trans fu_27
          have g_31 : FF S u_27 (fl [20, 21, 24, 25, 42, 43]) := FF.trans g_20 (FF.to gu_27 (fl_sub (by decide)))
          have g_32 : FF u_4 u_27 (fl [20, 21, 24, 25, 42, 43]) := FF.trans g_21 (FF.to gu_27 (fl_sub (by decide)))
          have nu_27 : Hd (u_27.1 231 20 = 0 → NX u_27 T) := fun h => NX.cg (S := (uF S12 231 24 ((S12.1 231 24) + 1))) ((fun h => (NX.cg (S := S12) (u := (uF S12 231 24 ((S12.1 231 24) + 1))) (hM12 (by have e9 := (show (uF S12 231 24 ((S12.1 231 24) + 1)).1 231 20 = S12.1 231 20 from uF_ne (fun h => absurd h.2 (by decide))); omega)) (NR.eq (funext fun j => uF_a) (funext fun j => uF_a) (funext fun j => uF_a) (funext fun j => uF_a) (funext fun j => uF_a)) (uF_ne (fun h => absurd h.2 (by decide))) (uF_ne (fun h => absurd h.2 (by decide))) (uF_ne (fun h => absurd h.2 (by decide))) (funext fun j => uF_a))) (xu_27.2.2.2 h).1) xu_27.2.1 (xu_27.2.2.2 h).2.2.1 (gu_27 32 rfl) (gu_27 35 rfl) (funext fun j => (fu_27 253 rfl).2.1 j)
          refine lv_aload_n hx hb dX12_product_48 rfl (lv_at hl 2 rfl) ?_
          have q_33 : (-2147483648) ≤ u_27.1 231 20 ∧ u_27.1 231 20 ≤ 2147483647 := iu_27.fi 20
          refine g_X12_270 Cx hW (k := 231) (by decide) rfl (v := u_27.1 231 20) rfl dX12_product_49 ?_
          refine r_if_eq (tgt := 56) hx hb ⟨(by omega), (by omega)⟩ dX12_product_52 (by decide) (fun c_34 => ?_) (fun c_34 => ?_)
          · refine lv_aload_n hx hb dX12_product_56 rfl (lv_at hl 2 rfl) ?_
            refine lv_iload_n hx hb dX12_product_57 rfl (lv_at hl 3 rfl) ?_
            refine sBi (sV (As := [.int (iv ix)]) (rest := []) (k := 231) Cx (s_X12_hasVariables l G u_27 (ix := ix) iu_27 (by omega)) (c_X12_428 Cx rfl rfl (rmk_ok (by omega) (by decide))) hW (by decide) rfl rfl rfl hl.1 rfl (Nat.le_of_ble_eq_true rfl) dX12_product_58 ⟨Nat.le_of_ble_eq_true rfl, Nat.le_of_ble_eq_true rfl⟩) hL (fun r_37 u_35 H locs k_36 hW hL => ?_)
            obtain ⟨eu_35, xu_35⟩ := k_36
            rw [eu_35] at hW
            refine lv_istore (lv' := [(4, .int (iv r_37)), (3, .int (iv (S12.1 231 24))), (2, .int (iv ((ix + 12) + 1))), (0, .ref (G.2.2.1 + 231)), (1, .int (iv ix))]) hx hb dX12_product_61 hl (by decide) rfl (fun ls hl => ?_)
            refine lv_iload hx hb dX12_product_63 (lv_at hl 0 rfl) ?_
            refine r_if_eq (tgt := 83) hx hb ⟨(by omega), (by omega)⟩ dX12_product_65 (by decide) (fun c_38 => ?_) (fun c_38 => ?_)
            · refine lv_iload hx hb dX12_product_83 (lv_at hl 0 rfl) ?_
              refine r_if_eq (tgt := 97) hx hb ⟨(by omega), (by omega)⟩ dX12_product_85 (by decide) (fun c_39 => ?_) (fun c_39 => ?_)
              · refine lv_aload_n hx hb dX12_product_97 rfl (lv_at hl 3 rfl) ?_
                refine g_X12_88 Cx hW (k := 231) (by decide) rfl (v := .ref (G.2.2.1 + 257)) (rd_41 iu_27) dX12_product_98 ?_
                refine lv_iload_n hx hb dX12_product_101 rfl (lv_at hl 4 rfl) ?_
                refine rLald Cx hW (k := 257) (by decide) rfl (by decide) (by omega) (by omega) dX12_product_102 ?_
                have q_40 : -9223372036854775808 ≤ u_27.2.2.1 257 ix ∧ u_27.2.2.1 257 ix ≤ 9223372036854775807 := iu_27.li 257 ix
                refine r_j (b := u_27.2.2.1 257 ix) rfl ?_
                refine lv_lstore (lv' := [(5, .long (jv (u_27.2.2.1 257 ix))), (4, .int (iv r_37)), (3, .int (iv (S12.1 231 24))), (2, .int (iv ((ix + 12) + 1))), (0, .ref (G.2.2.1 + 231)), (1, .int (iv ix))]) hx hb dX12_product_103 hl (by decide) rfl (fun ls hl => ?_)
                refine lv_iconst (v := iv 0) hx hb dX12_product_105 (by decide) ?_
                refine lv_istore (lv' := [(7, .int (iv 0)), (5, .long (jv (u_27.2.2.1 257 ix))), (4, .int (iv r_37)), (3, .int (iv (S12.1 231 24))), (2, .int (iv ((ix + 12) + 1))), (0, .ref (G.2.2.1 + 231)), (1, .int (iv ix))]) hx hb dX12_product_106 hl (by decide) rfl (fun ls hl => ?_)
                have loop_108 : ∀ (fuel : Nat) (S108 : sS) (k : Int) (H : Heap) (locs : List Loc) (ls : Array Slot), (13 - k).toNat < fuel → (dX G S108) → (Fr S S108 (pl [231, 248, 249, 250, 251, 252, 257, 258])) → (Fr u_4 S108 (pl [231, 248, 249, 250, 251, 252, 257, 258])) → (Fr u_27 S108 (pl [257])) → (FF S S108 (fl [20, 21, 24, 25, 42, 43])) → (FF u_4 S108 (fl [20, 21, 24, 25, 42, 43])) → (FF u_27 S108 (fl [])) → (0 ≤ k ∧ k ≤ 13) → sW G 294 S108 H → sL G locs → lv_has ls 8 [(7, .int (iv k)), (5, .long (jv (u_27.2.2.1 257 ix))), (4, .int (iv r_37)), (3, .int (iv (S12.1 231 24))), (2, .int (iv ((ix + 12) + 1))), (0, .ref (G.2.2.1 + 231)), (1, .int (iv ix))] → W p l e (rmk D 0 0) s m args below meth c H locs 0 0 (MQ below (sQv G 294 (fun u => dX G u ∧ Fr S u (pl [231, 248, 249, 250, 251, 252, 257, 258]) ∧ FF S u (fl [20, 21, 24, 25, 42, 43]) ∧ ((pz ≤ u.1 231 24 ∧ u.1 231 24 ≤ q) ∧ NR S u (S.1 231 25) ∧ S.1 231 25 ≤ u.1 231 25 ∧ Hd (u.1 231 20 = 0 → S.1 231 20 = 0 ∧ u.1 231 24 = q ∧ u.1 231 25 = S.1 231 25 ∧ fB u ix)))) args s 0 0 (sF G)) (F0 m 108 ls []) := by
                  intro fuel
                  induction fuel with
                  | zero => intro S108 k H locs ls hmeas hI108 hFm108 hFL12108 hL108_ hGm108 hGL12108 gL108_ hk hW hL hl; exact absurd hmeas (Nat.not_lt_zero _)
                  | succ fuel ih_108 =>
                    intro S108 k H locs ls hmeas hI108 hFm108 hFL12108 hL108_ hGm108 hGL12108 gL108_ hk hW hL hl
                    refine lv_iload hx hb dX12_product_108 (lv_at hl 0 rfl) ?_
                    refine lv_bipush (v := iv 12) hx hb dX12_product_110 (by decide) ?_
                    refine r_icmp_gt (tgt := 159) hx hb ⟨(by omega), (by omega)⟩ ⟨(by omega), (by omega)⟩ dX12_product_112 (by decide) (fun c_41 => ?_) (fun c_41 => ?_)
                    · refine lv_aload_n hx hb dX12_product_159 rfl (lv_at hl 5 rfl) ?_
                      refine lv_iload_n hx hb dX12_product_160 rfl (lv_at hl 6 rfl) ?_
                      refine sBi (sV (As := [.int (iv ix)]) (rest := []) (k := 231) Cx (s_X12_isGreat l G S108 (ix := ix) hI108 (by omega)) (c_X12_416 Cx rfl rfl (rmk_ok (by omega) (by decide))) hW (by decide) rfl rfl rfl hl.1 rfl (Nat.le_of_ble_eq_true rfl) dX12_product_161 ⟨Nat.le_of_ble_eq_true rfl, Nat.le_of_ble_eq_true rfl⟩) hL (fun r_44 u_42 H locs k_43 hW hL => ?_)
                      obtain ⟨eu_42, xu_42⟩ := k_43
                      rw [eu_42] at hW
                      refine r_if_eq (tgt := 174) hx hb ⟨(by omega), (by omega)⟩ dX12_product_164 (by decide) (fun c_45 => ?_) (fun c_45 => ?_)
                      · refine lv_goto (tgt := 12) hx hb dX12_product_174 (by decide) ?_
                        have q_46 : (-2147483648) ≤ u_27.1 231 25 ∧ u_27.1 231 25 ≤ 2147483647 := iu_27.fi 25
                        have lk_47 : S108.1 231 25 = u_27.1 231 25 := gL108_ 25 rfl
                        have q_48 : (-2147483648) ≤ u_27.1 231 24 ∧ u_27.1 231 24 ≤ 2147483647 := iu_27.fi 24
                        have lk_49 : S108.1 231 24 = u_27.1 231 24 := gL108_ 24 rfl
                        have lk_50 : S108.1 231 20 = u_27.1 231 20 := gL108_ 20 rfl
                        exact ih_12 S108  _ _ _ (Nat.lt_of_lt_of_le (mf_lt (S := S12) (by omega) (by omega) (fun h => by have e8 := (show S108.1 231 20 = u_27.1 231 20 from gL108_ 20 rfl); have e7 := (show S108.1 231 24 = u_27.1 231 24 from gL108_ 24 rfl); have a9 := xu_27.2.2.2 (by omega); omega)) (Nat.le_of_lt_succ hm12)) hI108 hFm108 hFL12108 hGm108 hGL12108 (NR.trans (NR.trans (NR.trans hR12 (NR.eq (S := S12) (u := (uF S12 231 24 ((S12.1 231 24) + 1))) (funext fun j => uF_a) (funext fun j => uF_a) (funext fun j => uF_a) (funext fun j => uF_a) (funext fun j => uF_a))) (NR.mono xu_27.2.1 (by omega))) (NR.eq (S := u_27) (u := S108) (funext fun j => (hL108_ 248 rfl).2.1 j) (funext fun j => (hL108_ 249 rfl).2.1 j) (funext fun j => (hL108_ 250 rfl).2.1 j) (funext fun j => (hL108_ 251 rfl).2.1 j) (funext fun j => (hL108_ 252 rfl).2.1 j))) (by omega) (by omega) (fun h => by have e8 := (show S108.1 231 20 = u_27.1 231 20 from gL108_ 20 rfl); have a9 := xu_27.2.2.2 (by omega); exact ⟨(NX.cg (S := u_27) (u := S108) (nu_27 (by omega)) (NR.eq (funext fun j => (hL108_ 248 rfl).2.1 j) (funext fun j => (hL108_ 249 rfl).2.1 j) (funext fun j => (hL108_ 250 rfl).2.1 j) (funext fun j => (hL108_ 251 rfl).2.1 j) (funext fun j => (hL108_ 252 rfl).2.1 j)) (gL108_ 25 rfl) (gL108_ 32 rfl) (gL108_ 35 rfl) (funext fun j => (hL108_ 253 rfl).2.1 j)), (by have e6 := (show S108.1 231 25 = u_27.1 231 25 from gL108_ 25 rfl); omega), (by rw [show S108.1 231 24 = e2 by have e7 := (show S108.1 231 24 = u_27.1 231 24 from gL108_ 24 rfl); omega]; exact ht2), b12.2.2.2.1, (xu_42.2 (by omega))⟩) hW hL (lv_sub hl [4, 5, 6] rfl)
                      · refine lv_aload_n hx hb dX12_product_167 rfl (lv_at hl 5 rfl) ?_
                        refine lv_bipush (v := iv 6) hx hb dX12_product_168 (by decide) ?_
                        refine lv_iload_n hx hb dX12_product_170 rfl (lv_at hl 3 rfl) ?_
                        refine sBv (sV (As := [.int (iv 6), .int (iv (S12.1 231 24))]) (rest := []) (k := 231) Cx (s_X12_wrong l G S108 (cd := 6) (tk := S12.1 231 24) hI108 (by omega) (by omega)) (c_X12_321 Cx rfl rfl (rmk_ok (by omega) (by decide))) hW (by decide) rfl rfl rfl hl.1 rfl (Nat.le_of_ble_eq_true rfl) dX12_product_171 ⟨Nat.le_of_ble_eq_true rfl, Nat.le_of_ble_eq_true rfl⟩) hL (fun u_51 H locs k_52 hW hL => ?_)
                        obtain ⟨iu_51, fu_51, gu_51, xu_51⟩ := k_52
                        have F_53 := hFm108.trans (fu_51.to (pl_sub (by decide)))
                        have F_54 := hFL12108.trans (fu_51.to (pl_sub (by decide)))
                        have g_55 : FF S u_51 (fl [20, 21, 24, 25, 42, 43]) := FF.trans hGm108 (FF.to gu_51 (fl_sub (by decide)))
                        have g_56 : FF u_4 u_51 (fl [20, 21, 24, 25, 42, 43]) := FF.trans hGL12108 (FF.to gu_51 (fl_sub (by decide)))
                        refine lv_goto (tgt := 12) hx hb dX12_product_174 (by decide) ?_
                        have q_58 : (-2147483648) ≤ u_27.1 231 25 ∧ u_27.1 231 25 ≤ 2147483647 := iu_27.fi 25
                        have lk_59 : u_51.1 231 25 = u_27.1 231 25 := (gu_51 25 rfl).trans (gL108_ 25 rfl)
                        have q_60 : (-2147483648) ≤ u_27.1 231 24 ∧ u_27.1 231 24 ≤ 2147483647 := iu_27.fi 24
                        have lk_61 : u_51.1 231 24 = u_27.1 231 24 := (gu_51 24 rfl).trans (gL108_ 24 rfl)
                        have q_62 : (-2147483648) ≤ u_51.1 231 20 ∧ u_51.1 231 20 ≤ 2147483647 := iu_51.fi 20
                        exact ih_12 u_51  _ _ _ (Nat.lt_of_lt_of_le (mf_lt (S := S12) (by omega) (by omega) (fun h => by have e9 := (show u_51.1 231 20 = u_51.1 231 20 from rfl); have a9 := xu_51; omega)) (Nat.le_of_lt_succ hm12)) iu_51 F_53 F_54 g_55 g_56 (NR.trans (NR.trans (NR.trans hR12 (NR.eq (S := S12) (u := (uF S12 231 24 ((S12.1 231 24) + 1))) (funext fun j => uF_a) (funext fun j => uF_a) (funext fun j => uF_a) (funext fun j => uF_a) (funext fun j => uF_a))) (NR.mono xu_27.2.1 (by omega))) (NR.eq (S := u_27) (u := u_51) (funext fun j => ((fu_51 248 rfl).2.1 j).trans ((hL108_ 248 rfl).2.1 j)) (funext fun j => ((fu_51 249 rfl).2.1 j).trans ((hL108_ 249 rfl).2.1 j)) (funext fun j => ((fu_51 250 rfl).2.1 j).trans ((hL108_ 250 rfl).2.1 j)) (funext fun j => ((fu_51 251 rfl).2.1 j).trans ((hL108_ 251 rfl).2.1 j)) (funext fun j => ((fu_51 252 rfl).2.1 j).trans ((hL108_ 252 rfl).2.1 j)))) (by omega) (by omega) (fun h => absurd h (by have e9 := (show u_51.1 231 20 = u_51.1 231 20 from rfl); have a9 := xu_51; omega)) hW hL (lv_sub hl [4, 5, 6] rfl)
                    · refine lv_aload_n hx hb dX12_product_115 rfl (lv_at hl 5 rfl) ?_
                      refine g_X12_88 Cx hW (k := 231) (by decide) rfl (v := .ref (G.2.2.1 + 257)) (rd_41 hI108) dX12_product_116 ?_
                      refine lv_iload_n hx hb dX12_product_119 rfl (lv_at hl 6 rfl) ?_
                      refine lv_iload hx hb dX12_product_120 (lv_at hl 0 rfl) ?_
                      refine r_iadd hx hb dX12_product_122 ?_
                      refine lv_lload hx hb dX12_product_123 (lv_at hl 1 rfl) ?_
                      refine lv_iload hx hb dX12_product_125 (lv_at hl 2 rfl) ?_
                      refine r_if_eq (tgt := 142) hx hb ⟨(by omega), (by omega)⟩ dX12_product_127 (by decide) (fun c_63 => ?_) (fun c_63 => ?_)
                      · refine lv_aload_n hx hb dX12_product_142 rfl (lv_at hl 5 rfl) ?_
                        refine g_X12_88 Cx hW (k := 231) (by decide) rfl (v := .ref (G.2.2.1 + 257)) (rd_41 hI108) dX12_product_143 ?_
                        refine lv_iload_n hx hb dX12_product_146 rfl (lv_at hl 4 rfl) ?_
                        refine lv_iload hx hb dX12_product_147 (lv_at hl 0 rfl) ?_
                        refine r_iadd hx hb dX12_product_149 ?_
                        refine rLald Cx hW (k := 257) (by decide) rfl (by decide) (by omega) (by omega) dX12_product_150 ?_
                        have q_64 : -9223372036854775808 ≤ S108.2.2.1 257 (((ix + 12) + 1) + k) ∧ S108.2.2.1 257 (((ix + 12) + 1) + k) ≤ 9223372036854775807 := hI108.li 257 (((ix + 12) + 1) + k)
                        refine r_j (b := S108.2.2.1 257 (((ix + 12) + 1) + k)) rfl ?_
                        refine r_lmul hx hb dX12_product_151 ?_
                        obtain ⟨z_65, ez_65, hz_65, kz_65⟩ := jv_of (jv ((u_27.2.2.1 257 ix) * (S108.2.2.1 257 (((ix + 12) + 1) + k))))
                        rw [ez_65]
                        refine rLast Cx hW hL (k := 257) (by decide) rfl (by decide) (by omega) (by omega) dX12_product_152 (fun H locs hW hL => ?_)
                        have F_66 : Fr S (uL S108 257 (ix + k) z_65) (pl [231, 248, 249, 250, 251, 252, 257, 258]) := hFm108.L rfl
                        have F_67 : Fr u_4 (uL S108 257 (ix + k) z_65) (pl [231, 248, 249, 250, 251, 252, 257, 258]) := hFL12108.L rfl
                        have F_68 : Fr u_27 (uL S108 257 (ix + k) z_65) (pl [257]) := hL108_.L rfl
                        have i_69 : dX G (uL S108 257 (ix + k) z_65) := hI108.L ⟨by omega, by omega⟩
                        refine lv_iinc (v := iv (k + 1)) (lv' := [(7, .int (iv (k + 1))), (5, .long (jv (u_27.2.2.1 257 ix))), (4, .int (iv r_37)), (3, .int (iv (S12.1 231 24))), (2, .int (iv ((ix + 12) + 1))), (0, .ref (G.2.2.1 + 231)), (1, .int (iv ix))]) hx hb dX12_product_153 hl (k := 0) rfl ((Int32.ofInt_add _ _).symm) (by decide) rfl (fun ls hl => ?_)
                        refine lv_goto (tgt := 108) hx hb dX12_product_156 (by decide) ?_
                        exact ih_108 (uL S108 257 (ix + k) z_65) (k + 1) _ _ _ (by omega) i_69 F_66 F_67 F_68 hGm108 hGL12108 gL108_ (by omega) hW hL (lv_sub hl [0, 1, 2, 3, 4, 5, 6] rfl)
                      · refine lv_aload_n hx hb dX12_product_130 rfl (lv_at hl 5 rfl) ?_
                        refine g_X12_88 Cx hW (k := 231) (by decide) rfl (v := .ref (G.2.2.1 + 257)) (rd_41 hI108) dX12_product_131 ?_
                        refine lv_iload_n hx hb dX12_product_134 rfl (lv_at hl 6 rfl) ?_
                        refine lv_iload hx hb dX12_product_135 (lv_at hl 0 rfl) ?_
                        refine r_iadd hx hb dX12_product_137 ?_
                        refine rLald Cx hW (k := 257) (by decide) rfl (by decide) (by omega) (by omega) dX12_product_138 ?_
                        have q_70 : -9223372036854775808 ≤ S108.2.2.1 257 (ix + k) ∧ S108.2.2.1 257 (ix + k) ≤ 9223372036854775807 := hI108.li 257 (ix + k)
                        refine r_j (b := S108.2.2.1 257 (ix + k)) rfl ?_
                        refine lv_goto (tgt := 151) hx hb dX12_product_139 (by decide) ?_
                        refine r_lmul hx hb dX12_product_151 ?_
                        obtain ⟨z_71, ez_71, hz_71, kz_71⟩ := jv_of (jv ((u_27.2.2.1 257 ix) * (S108.2.2.1 257 (ix + k))))
                        rw [ez_71]
                        refine rLast Cx hW hL (k := 257) (by decide) rfl (by decide) (by omega) (by omega) dX12_product_152 (fun H locs hW hL => ?_)
                        have F_72 : Fr S (uL S108 257 (ix + k) z_71) (pl [231, 248, 249, 250, 251, 252, 257, 258]) := hFm108.L rfl
                        have F_73 : Fr u_4 (uL S108 257 (ix + k) z_71) (pl [231, 248, 249, 250, 251, 252, 257, 258]) := hFL12108.L rfl
                        have F_74 : Fr u_27 (uL S108 257 (ix + k) z_71) (pl [257]) := hL108_.L rfl
                        have i_75 : dX G (uL S108 257 (ix + k) z_71) := hI108.L ⟨by omega, by omega⟩
                        refine lv_iinc (v := iv (k + 1)) (lv' := [(7, .int (iv (k + 1))), (5, .long (jv (u_27.2.2.1 257 ix))), (4, .int (iv r_37)), (3, .int (iv (S12.1 231 24))), (2, .int (iv ((ix + 12) + 1))), (0, .ref (G.2.2.1 + 231)), (1, .int (iv ix))]) hx hb dX12_product_153 hl (k := 0) rfl ((Int32.ofInt_add _ _).symm) (by decide) rfl (fun ls hl => ?_)
                        refine lv_goto (tgt := 108) hx hb dX12_product_156 (by decide) ?_
                        exact ih_108 (uL S108 257 (ix + k) z_71) (k + 1) _ _ _ (by omega) i_75 F_72 F_73 F_74 hGm108 hGL12108 gL108_ (by omega) hW hL (lv_sub hl [0, 1, 2, 3, 4, 5, 6] rfl)
                exact loop_108 (_ + 1) u_27 0 _ _ _ (Nat.lt_succ_self _) iu_27 F_29 F_30 Fr.rf g_31 g_32 FF.rf (by omega) hW hL (lv_sub hl [0, 1, 2, 3, 4, 5, 6] rfl)
              · refine lv_aload_n hx hb dX12_product_88 rfl (lv_at hl 3 rfl) ?_
                refine g_X12_88 Cx hW (k := 231) (by decide) rfl (v := .ref (G.2.2.1 + 257)) (rd_41 iu_27) dX12_product_89 ?_
                refine lv_iload_n hx hb dX12_product_92 rfl (lv_at hl 2 rfl) ?_
                refine rLald Cx hW (k := 257) (by decide) rfl (by decide) (by omega) (by omega) dX12_product_93 ?_
                have q_76 : -9223372036854775808 ≤ u_27.2.2.1 257 ((ix + 12) + 1) ∧ u_27.2.2.1 257 ((ix + 12) + 1) ≤ 9223372036854775807 := iu_27.li 257 ((ix + 12) + 1)
                refine r_j (b := u_27.2.2.1 257 ((ix + 12) + 1)) rfl ?_
                refine lv_goto (tgt := 103) hx hb dX12_product_94 (by decide) ?_
                refine lv_lstore (lv' := [(5, .long (jv (u_27.2.2.1 257 ((ix + 12) + 1)))), (4, .int (iv r_37)), (3, .int (iv (S12.1 231 24))), (2, .int (iv ((ix + 12) + 1))), (0, .ref (G.2.2.1 + 231)), (1, .int (iv ix))]) hx hb dX12_product_103 hl (by decide) rfl (fun ls hl => ?_)
                refine lv_iconst (v := iv 0) hx hb dX12_product_105 (by decide) ?_
                refine lv_istore (lv' := [(7, .int (iv 0)), (5, .long (jv (u_27.2.2.1 257 ((ix + 12) + 1)))), (4, .int (iv r_37)), (3, .int (iv (S12.1 231 24))), (2, .int (iv ((ix + 12) + 1))), (0, .ref (G.2.2.1 + 231)), (1, .int (iv ix))]) hx hb dX12_product_106 hl (by decide) rfl (fun ls hl => ?_)
                have loop_108 : ∀ (fuel : Nat) (S108 : sS) (k : Int) (H : Heap) (locs : List Loc) (ls : Array Slot), (13 - k).toNat < fuel → (dX G S108) → (Fr S S108 (pl [231, 248, 249, 250, 251, 252, 257, 258])) → (Fr u_4 S108 (pl [231, 248, 249, 250, 251, 252, 257, 258])) → (Fr u_27 S108 (pl [257])) → (FF S S108 (fl [20, 21, 24, 25, 42, 43])) → (FF u_4 S108 (fl [20, 21, 24, 25, 42, 43])) → (FF u_27 S108 (fl [])) → (0 ≤ k ∧ k ≤ 13) → sW G 294 S108 H → sL G locs → lv_has ls 8 [(7, .int (iv k)), (5, .long (jv (u_27.2.2.1 257 ((ix + 12) + 1)))), (4, .int (iv r_37)), (3, .int (iv (S12.1 231 24))), (2, .int (iv ((ix + 12) + 1))), (0, .ref (G.2.2.1 + 231)), (1, .int (iv ix))] → W p l e (rmk D 0 0) s m args below meth c H locs 0 0 (MQ below (sQv G 294 (fun u => dX G u ∧ Fr S u (pl [231, 248, 249, 250, 251, 252, 257, 258]) ∧ FF S u (fl [20, 21, 24, 25, 42, 43]) ∧ ((pz ≤ u.1 231 24 ∧ u.1 231 24 ≤ q) ∧ NR S u (S.1 231 25) ∧ S.1 231 25 ≤ u.1 231 25 ∧ Hd (u.1 231 20 = 0 → S.1 231 20 = 0 ∧ u.1 231 24 = q ∧ u.1 231 25 = S.1 231 25 ∧ fB u ix)))) args s 0 0 (sF G)) (F0 m 108 ls []) := by
                  intro fuel
                  induction fuel with
                  | zero => intro S108 k H locs ls hmeas hI108 hFm108 hFL12108 hL108_ hGm108 hGL12108 gL108_ hk hW hL hl; exact absurd hmeas (Nat.not_lt_zero _)
                  | succ fuel ih_108 =>
                    intro S108 k H locs ls hmeas hI108 hFm108 hFL12108 hL108_ hGm108 hGL12108 gL108_ hk hW hL hl
                    refine lv_iload hx hb dX12_product_108 (lv_at hl 0 rfl) ?_
                    refine lv_bipush (v := iv 12) hx hb dX12_product_110 (by decide) ?_
                    refine r_icmp_gt (tgt := 159) hx hb ⟨(by omega), (by omega)⟩ ⟨(by omega), (by omega)⟩ dX12_product_112 (by decide) (fun c_77 => ?_) (fun c_77 => ?_)
                    · refine lv_aload_n hx hb dX12_product_159 rfl (lv_at hl 5 rfl) ?_
                      refine lv_iload_n hx hb dX12_product_160 rfl (lv_at hl 6 rfl) ?_
                      refine sBi (sV (As := [.int (iv ix)]) (rest := []) (k := 231) Cx (s_X12_isGreat l G S108 (ix := ix) hI108 (by omega)) (c_X12_416 Cx rfl rfl (rmk_ok (by omega) (by decide))) hW (by decide) rfl rfl rfl hl.1 rfl (Nat.le_of_ble_eq_true rfl) dX12_product_161 ⟨Nat.le_of_ble_eq_true rfl, Nat.le_of_ble_eq_true rfl⟩) hL (fun r_80 u_78 H locs k_79 hW hL => ?_)
                      obtain ⟨eu_78, xu_78⟩ := k_79
                      rw [eu_78] at hW
                      refine r_if_eq (tgt := 174) hx hb ⟨(by omega), (by omega)⟩ dX12_product_164 (by decide) (fun c_81 => ?_) (fun c_81 => ?_)
                      · refine lv_goto (tgt := 12) hx hb dX12_product_174 (by decide) ?_
                        have q_82 : (-2147483648) ≤ u_27.1 231 25 ∧ u_27.1 231 25 ≤ 2147483647 := iu_27.fi 25
                        have lk_83 : S108.1 231 25 = u_27.1 231 25 := gL108_ 25 rfl
                        have q_84 : (-2147483648) ≤ u_27.1 231 24 ∧ u_27.1 231 24 ≤ 2147483647 := iu_27.fi 24
                        have lk_85 : S108.1 231 24 = u_27.1 231 24 := gL108_ 24 rfl
                        have lk_86 : S108.1 231 20 = u_27.1 231 20 := gL108_ 20 rfl
                        exact ih_12 S108  _ _ _ (Nat.lt_of_lt_of_le (mf_lt (S := S12) (by omega) (by omega) (fun h => by have e8 := (show S108.1 231 20 = u_27.1 231 20 from gL108_ 20 rfl); have e7 := (show S108.1 231 24 = u_27.1 231 24 from gL108_ 24 rfl); have a9 := xu_27.2.2.2 (by omega); omega)) (Nat.le_of_lt_succ hm12)) hI108 hFm108 hFL12108 hGm108 hGL12108 (NR.trans (NR.trans (NR.trans hR12 (NR.eq (S := S12) (u := (uF S12 231 24 ((S12.1 231 24) + 1))) (funext fun j => uF_a) (funext fun j => uF_a) (funext fun j => uF_a) (funext fun j => uF_a) (funext fun j => uF_a))) (NR.mono xu_27.2.1 (by omega))) (NR.eq (S := u_27) (u := S108) (funext fun j => (hL108_ 248 rfl).2.1 j) (funext fun j => (hL108_ 249 rfl).2.1 j) (funext fun j => (hL108_ 250 rfl).2.1 j) (funext fun j => (hL108_ 251 rfl).2.1 j) (funext fun j => (hL108_ 252 rfl).2.1 j))) (by omega) (by omega) (fun h => by have e8 := (show S108.1 231 20 = u_27.1 231 20 from gL108_ 20 rfl); have a9 := xu_27.2.2.2 (by omega); exact ⟨(NX.cg (S := u_27) (u := S108) (nu_27 (by omega)) (NR.eq (funext fun j => (hL108_ 248 rfl).2.1 j) (funext fun j => (hL108_ 249 rfl).2.1 j) (funext fun j => (hL108_ 250 rfl).2.1 j) (funext fun j => (hL108_ 251 rfl).2.1 j) (funext fun j => (hL108_ 252 rfl).2.1 j)) (gL108_ 25 rfl) (gL108_ 32 rfl) (gL108_ 35 rfl) (funext fun j => (hL108_ 253 rfl).2.1 j)), (by have e6 := (show S108.1 231 25 = u_27.1 231 25 from gL108_ 25 rfl); omega), (by rw [show S108.1 231 24 = e2 by have e7 := (show S108.1 231 24 = u_27.1 231 24 from gL108_ 24 rfl); omega]; exact ht2), b12.2.2.2.1, (xu_78.2 (by omega))⟩) hW hL (lv_sub hl [4, 5, 6] rfl)
                      · refine lv_aload_n hx hb dX12_product_167 rfl (lv_at hl 5 rfl) ?_
                        refine lv_bipush (v := iv 6) hx hb dX12_product_168 (by decide) ?_
                        refine lv_iload_n hx hb dX12_product_170 rfl (lv_at hl 3 rfl) ?_
                        refine sBv (sV (As := [.int (iv 6), .int (iv (S12.1 231 24))]) (rest := []) (k := 231) Cx (s_X12_wrong l G S108 (cd := 6) (tk := S12.1 231 24) hI108 (by omega) (by omega)) (c_X12_321 Cx rfl rfl (rmk_ok (by omega) (by decide))) hW (by decide) rfl rfl rfl hl.1 rfl (Nat.le_of_ble_eq_true rfl) dX12_product_171 ⟨Nat.le_of_ble_eq_true rfl, Nat.le_of_ble_eq_true rfl⟩) hL (fun u_87 H locs k_88 hW hL => ?_)
                        obtain ⟨iu_87, fu_87, gu_87, xu_87⟩ := k_88
                        have F_89 := hFm108.trans (fu_87.to (pl_sub (by decide)))
                        have F_90 := hFL12108.trans (fu_87.to (pl_sub (by decide)))
                        have g_91 : FF S u_87 (fl [20, 21, 24, 25, 42, 43]) := FF.trans hGm108 (FF.to gu_87 (fl_sub (by decide)))
                        have g_92 : FF u_4 u_87 (fl [20, 21, 24, 25, 42, 43]) := FF.trans hGL12108 (FF.to gu_87 (fl_sub (by decide)))
                        refine lv_goto (tgt := 12) hx hb dX12_product_174 (by decide) ?_
                        have q_94 : (-2147483648) ≤ u_27.1 231 25 ∧ u_27.1 231 25 ≤ 2147483647 := iu_27.fi 25
                        have lk_95 : u_87.1 231 25 = u_27.1 231 25 := (gu_87 25 rfl).trans (gL108_ 25 rfl)
                        have q_96 : (-2147483648) ≤ u_27.1 231 24 ∧ u_27.1 231 24 ≤ 2147483647 := iu_27.fi 24
                        have lk_97 : u_87.1 231 24 = u_27.1 231 24 := (gu_87 24 rfl).trans (gL108_ 24 rfl)
                        have q_98 : (-2147483648) ≤ u_87.1 231 20 ∧ u_87.1 231 20 ≤ 2147483647 := iu_87.fi 20
                        exact ih_12 u_87  _ _ _ (Nat.lt_of_lt_of_le (mf_lt (S := S12) (by omega) (by omega) (fun h => by have e9 := (show u_87.1 231 20 = u_87.1 231 20 from rfl); have a9 := xu_87; omega)) (Nat.le_of_lt_succ hm12)) iu_87 F_89 F_90 g_91 g_92 (NR.trans (NR.trans (NR.trans hR12 (NR.eq (S := S12) (u := (uF S12 231 24 ((S12.1 231 24) + 1))) (funext fun j => uF_a) (funext fun j => uF_a) (funext fun j => uF_a) (funext fun j => uF_a) (funext fun j => uF_a))) (NR.mono xu_27.2.1 (by omega))) (NR.eq (S := u_27) (u := u_87) (funext fun j => ((fu_87 248 rfl).2.1 j).trans ((hL108_ 248 rfl).2.1 j)) (funext fun j => ((fu_87 249 rfl).2.1 j).trans ((hL108_ 249 rfl).2.1 j)) (funext fun j => ((fu_87 250 rfl).2.1 j).trans ((hL108_ 250 rfl).2.1 j)) (funext fun j => ((fu_87 251 rfl).2.1 j).trans ((hL108_ 251 rfl).2.1 j)) (funext fun j => ((fu_87 252 rfl).2.1 j).trans ((hL108_ 252 rfl).2.1 j)))) (by omega) (by omega) (fun h => absurd h (by have e9 := (show u_87.1 231 20 = u_87.1 231 20 from rfl); have a9 := xu_87; omega)) hW hL (lv_sub hl [4, 5, 6] rfl)
                    · refine lv_aload_n hx hb dX12_product_115 rfl (lv_at hl 5 rfl) ?_
                      refine g_X12_88 Cx hW (k := 231) (by decide) rfl (v := .ref (G.2.2.1 + 257)) (rd_41 hI108) dX12_product_116 ?_
                      refine lv_iload_n hx hb dX12_product_119 rfl (lv_at hl 6 rfl) ?_
                      refine lv_iload hx hb dX12_product_120 (lv_at hl 0 rfl) ?_
                      refine r_iadd hx hb dX12_product_122 ?_
                      refine lv_lload hx hb dX12_product_123 (lv_at hl 1 rfl) ?_
                      refine lv_iload hx hb dX12_product_125 (lv_at hl 2 rfl) ?_
                      refine r_if_eq (tgt := 142) hx hb ⟨(by omega), (by omega)⟩ dX12_product_127 (by decide) (fun c_99 => ?_) (fun c_99 => ?_)
                      · refine lv_aload_n hx hb dX12_product_142 rfl (lv_at hl 5 rfl) ?_
                        refine g_X12_88 Cx hW (k := 231) (by decide) rfl (v := .ref (G.2.2.1 + 257)) (rd_41 hI108) dX12_product_143 ?_
                        refine lv_iload_n hx hb dX12_product_146 rfl (lv_at hl 4 rfl) ?_
                        refine lv_iload hx hb dX12_product_147 (lv_at hl 0 rfl) ?_
                        refine r_iadd hx hb dX12_product_149 ?_
                        refine rLald Cx hW (k := 257) (by decide) rfl (by decide) (by omega) (by omega) dX12_product_150 ?_
                        have q_100 : -9223372036854775808 ≤ S108.2.2.1 257 (((ix + 12) + 1) + k) ∧ S108.2.2.1 257 (((ix + 12) + 1) + k) ≤ 9223372036854775807 := hI108.li 257 (((ix + 12) + 1) + k)
                        refine r_j (b := S108.2.2.1 257 (((ix + 12) + 1) + k)) rfl ?_
                        refine r_lmul hx hb dX12_product_151 ?_
                        obtain ⟨z_101, ez_101, hz_101, kz_101⟩ := jv_of (jv ((u_27.2.2.1 257 ((ix + 12) + 1)) * (S108.2.2.1 257 (((ix + 12) + 1) + k))))
                        rw [ez_101]
                        refine rLast Cx hW hL (k := 257) (by decide) rfl (by decide) (by omega) (by omega) dX12_product_152 (fun H locs hW hL => ?_)
                        have F_102 : Fr S (uL S108 257 (ix + k) z_101) (pl [231, 248, 249, 250, 251, 252, 257, 258]) := hFm108.L rfl
                        have F_103 : Fr u_4 (uL S108 257 (ix + k) z_101) (pl [231, 248, 249, 250, 251, 252, 257, 258]) := hFL12108.L rfl
                        have F_104 : Fr u_27 (uL S108 257 (ix + k) z_101) (pl [257]) := hL108_.L rfl
                        have i_105 : dX G (uL S108 257 (ix + k) z_101) := hI108.L ⟨by omega, by omega⟩
                        refine lv_iinc (v := iv (k + 1)) (lv' := [(7, .int (iv (k + 1))), (5, .long (jv (u_27.2.2.1 257 ((ix + 12) + 1)))), (4, .int (iv r_37)), (3, .int (iv (S12.1 231 24))), (2, .int (iv ((ix + 12) + 1))), (0, .ref (G.2.2.1 + 231)), (1, .int (iv ix))]) hx hb dX12_product_153 hl (k := 0) rfl ((Int32.ofInt_add _ _).symm) (by decide) rfl (fun ls hl => ?_)
                        refine lv_goto (tgt := 108) hx hb dX12_product_156 (by decide) ?_
                        exact ih_108 (uL S108 257 (ix + k) z_101) (k + 1) _ _ _ (by omega) i_105 F_102 F_103 F_104 hGm108 hGL12108 gL108_ (by omega) hW hL (lv_sub hl [0, 1, 2, 3, 4, 5, 6] rfl)
                      · refine lv_aload_n hx hb dX12_product_130 rfl (lv_at hl 5 rfl) ?_
                        refine g_X12_88 Cx hW (k := 231) (by decide) rfl (v := .ref (G.2.2.1 + 257)) (rd_41 hI108) dX12_product_131 ?_
                        refine lv_iload_n hx hb dX12_product_134 rfl (lv_at hl 6 rfl) ?_
                        refine lv_iload hx hb dX12_product_135 (lv_at hl 0 rfl) ?_
                        refine r_iadd hx hb dX12_product_137 ?_
                        refine rLald Cx hW (k := 257) (by decide) rfl (by decide) (by omega) (by omega) dX12_product_138 ?_
                        have q_106 : -9223372036854775808 ≤ S108.2.2.1 257 (ix + k) ∧ S108.2.2.1 257 (ix + k) ≤ 9223372036854775807 := hI108.li 257 (ix + k)
                        refine r_j (b := S108.2.2.1 257 (ix + k)) rfl ?_
                        refine lv_goto (tgt := 151) hx hb dX12_product_139 (by decide) ?_
                        refine r_lmul hx hb dX12_product_151 ?_
                        obtain ⟨z_107, ez_107, hz_107, kz_107⟩ := jv_of (jv ((u_27.2.2.1 257 ((ix + 12) + 1)) * (S108.2.2.1 257 (ix + k))))
                        rw [ez_107]
                        refine rLast Cx hW hL (k := 257) (by decide) rfl (by decide) (by omega) (by omega) dX12_product_152 (fun H locs hW hL => ?_)
                        have F_108 : Fr S (uL S108 257 (ix + k) z_107) (pl [231, 248, 249, 250, 251, 252, 257, 258]) := hFm108.L rfl
                        have F_109 : Fr u_4 (uL S108 257 (ix + k) z_107) (pl [231, 248, 249, 250, 251, 252, 257, 258]) := hFL12108.L rfl
                        have F_110 : Fr u_27 (uL S108 257 (ix + k) z_107) (pl [257]) := hL108_.L rfl
                        have i_111 : dX G (uL S108 257 (ix + k) z_107) := hI108.L ⟨by omega, by omega⟩
                        refine lv_iinc (v := iv (k + 1)) (lv' := [(7, .int (iv (k + 1))), (5, .long (jv (u_27.2.2.1 257 ((ix + 12) + 1)))), (4, .int (iv r_37)), (3, .int (iv (S12.1 231 24))), (2, .int (iv ((ix + 12) + 1))), (0, .ref (G.2.2.1 + 231)), (1, .int (iv ix))]) hx hb dX12_product_153 hl (k := 0) rfl ((Int32.ofInt_add _ _).symm) (by decide) rfl (fun ls hl => ?_)
                        refine lv_goto (tgt := 108) hx hb dX12_product_156 (by decide) ?_
                        exact ih_108 (uL S108 257 (ix + k) z_107) (k + 1) _ _ _ (by omega) i_111 F_108 F_109 F_110 hGm108 hGL12108 gL108_ (by omega) hW hL (lv_sub hl [0, 1, 2, 3, 4, 5, 6] rfl)
                exact loop_108 (_ + 1) u_27 0 _ _ _ (Nat.lt_succ_self _) iu_27 F_29 F_30 Fr.rf g_31 g_32 FF.rf (by omega) hW hL (lv_sub hl [0, 1, 2, 3, 4, 5, 6] rfl)
            · refine lv_aload_n hx hb dX12_product_68 rfl (lv_at hl 3 rfl) ?_
              refine lv_iload_n hx hb dX12_product_69 rfl (lv_at hl 2 rfl) ?_
              refine sBi (sV (As := [.int (iv ((ix + 12) + 1))]) (rest := []) (k := 231) Cx (s_X12_hasVariables l G u_27 (ix := (ix + 12) + 1) iu_27 (by omega)) (c_X12_428 Cx rfl rfl (rmk_ok (by omega) (by decide))) hW (by decide) rfl rfl rfl hl.1 rfl (Nat.le_of_ble_eq_true rfl) dX12_product_70 ⟨Nat.le_of_ble_eq_true rfl, Nat.le_of_ble_eq_true rfl⟩) hL (fun r_114 u_112 H locs k_113 hW hL => ?_)
              obtain ⟨eu_112, xu_112⟩ := k_113
              rw [eu_112] at hW
              refine r_if_eq (tgt := 83) hx hb ⟨(by omega), (by omega)⟩ dX12_product_73 (by decide) (fun c_115 => ?_) (fun c_115 => ?_)
              · refine lv_iload hx hb dX12_product_83 (lv_at hl 0 rfl) ?_
                refine r_if_eq (tgt := 97) hx hb ⟨(by omega), (by omega)⟩ dX12_product_85 (by decide) (fun c_116 => ?_) (fun c_116 => ?_)
                · refine lv_aload_n hx hb dX12_product_97 rfl (lv_at hl 3 rfl) ?_
                  refine g_X12_88 Cx hW (k := 231) (by decide) rfl (v := .ref (G.2.2.1 + 257)) (rd_41 iu_27) dX12_product_98 ?_
                  refine lv_iload_n hx hb dX12_product_101 rfl (lv_at hl 4 rfl) ?_
                  refine rLald Cx hW (k := 257) (by decide) rfl (by decide) (by omega) (by omega) dX12_product_102 ?_
                  have q_117 : -9223372036854775808 ≤ u_27.2.2.1 257 ix ∧ u_27.2.2.1 257 ix ≤ 9223372036854775807 := iu_27.li 257 ix
                  refine r_j (b := u_27.2.2.1 257 ix) rfl ?_
                  refine lv_lstore (lv' := [(5, .long (jv (u_27.2.2.1 257 ix))), (4, .int (iv r_37)), (3, .int (iv (S12.1 231 24))), (2, .int (iv ((ix + 12) + 1))), (0, .ref (G.2.2.1 + 231)), (1, .int (iv ix))]) hx hb dX12_product_103 hl (by decide) rfl (fun ls hl => ?_)
                  refine lv_iconst (v := iv 0) hx hb dX12_product_105 (by decide) ?_
                  refine lv_istore (lv' := [(7, .int (iv 0)), (5, .long (jv (u_27.2.2.1 257 ix))), (4, .int (iv r_37)), (3, .int (iv (S12.1 231 24))), (2, .int (iv ((ix + 12) + 1))), (0, .ref (G.2.2.1 + 231)), (1, .int (iv ix))]) hx hb dX12_product_106 hl (by decide) rfl (fun ls hl => ?_)
                  have loop_108 : ∀ (fuel : Nat) (S108 : sS) (k : Int) (H : Heap) (locs : List Loc) (ls : Array Slot), (13 - k).toNat < fuel → (dX G S108) → (Fr S S108 (pl [231, 248, 249, 250, 251, 252, 257, 258])) → (Fr u_4 S108 (pl [231, 248, 249, 250, 251, 252, 257, 258])) → (Fr u_27 S108 (pl [257])) → (FF S S108 (fl [20, 21, 24, 25, 42, 43])) → (FF u_4 S108 (fl [20, 21, 24, 25, 42, 43])) → (FF u_27 S108 (fl [])) → (0 ≤ k ∧ k ≤ 13) → sW G 294 S108 H → sL G locs → lv_has ls 8 [(7, .int (iv k)), (5, .long (jv (u_27.2.2.1 257 ix))), (4, .int (iv r_37)), (3, .int (iv (S12.1 231 24))), (2, .int (iv ((ix + 12) + 1))), (0, .ref (G.2.2.1 + 231)), (1, .int (iv ix))] → W p l e (rmk D 0 0) s m args below meth c H locs 0 0 (MQ below (sQv G 294 (fun u => dX G u ∧ Fr S u (pl [231, 248, 249, 250, 251, 252, 257, 258]) ∧ FF S u (fl [20, 21, 24, 25, 42, 43]) ∧ ((pz ≤ u.1 231 24 ∧ u.1 231 24 ≤ q) ∧ NR S u (S.1 231 25) ∧ S.1 231 25 ≤ u.1 231 25 ∧ Hd (u.1 231 20 = 0 → S.1 231 20 = 0 ∧ u.1 231 24 = q ∧ u.1 231 25 = S.1 231 25 ∧ fB u ix)))) args s 0 0 (sF G)) (F0 m 108 ls []) := by
                    intro fuel
                    induction fuel with
                    | zero => intro S108 k H locs ls hmeas hI108 hFm108 hFL12108 hL108_ hGm108 hGL12108 gL108_ hk hW hL hl; exact absurd hmeas (Nat.not_lt_zero _)
                    | succ fuel ih_108 =>
                      intro S108 k H locs ls hmeas hI108 hFm108 hFL12108 hL108_ hGm108 hGL12108 gL108_ hk hW hL hl
                      refine lv_iload hx hb dX12_product_108 (lv_at hl 0 rfl) ?_
                      refine lv_bipush (v := iv 12) hx hb dX12_product_110 (by decide) ?_
                      refine r_icmp_gt (tgt := 159) hx hb ⟨(by omega), (by omega)⟩ ⟨(by omega), (by omega)⟩ dX12_product_112 (by decide) (fun c_118 => ?_) (fun c_118 => ?_)
                      · refine lv_aload_n hx hb dX12_product_159 rfl (lv_at hl 5 rfl) ?_
                        refine lv_iload_n hx hb dX12_product_160 rfl (lv_at hl 6 rfl) ?_
                        refine sBi (sV (As := [.int (iv ix)]) (rest := []) (k := 231) Cx (s_X12_isGreat l G S108 (ix := ix) hI108 (by omega)) (c_X12_416 Cx rfl rfl (rmk_ok (by omega) (by decide))) hW (by decide) rfl rfl rfl hl.1 rfl (Nat.le_of_ble_eq_true rfl) dX12_product_161 ⟨Nat.le_of_ble_eq_true rfl, Nat.le_of_ble_eq_true rfl⟩) hL (fun r_121 u_119 H locs k_120 hW hL => ?_)
                        obtain ⟨eu_119, xu_119⟩ := k_120
                        rw [eu_119] at hW
                        refine r_if_eq (tgt := 174) hx hb ⟨(by omega), (by omega)⟩ dX12_product_164 (by decide) (fun c_122 => ?_) (fun c_122 => ?_)
                        · refine lv_goto (tgt := 12) hx hb dX12_product_174 (by decide) ?_
                          have q_123 : (-2147483648) ≤ u_27.1 231 25 ∧ u_27.1 231 25 ≤ 2147483647 := iu_27.fi 25
                          have lk_124 : S108.1 231 25 = u_27.1 231 25 := gL108_ 25 rfl
                          have q_125 : (-2147483648) ≤ u_27.1 231 24 ∧ u_27.1 231 24 ≤ 2147483647 := iu_27.fi 24
                          have lk_126 : S108.1 231 24 = u_27.1 231 24 := gL108_ 24 rfl
                          have lk_127 : S108.1 231 20 = u_27.1 231 20 := gL108_ 20 rfl
                          exact ih_12 S108  _ _ _ (Nat.lt_of_lt_of_le (mf_lt (S := S12) (by omega) (by omega) (fun h => by have e8 := (show S108.1 231 20 = u_27.1 231 20 from gL108_ 20 rfl); have e7 := (show S108.1 231 24 = u_27.1 231 24 from gL108_ 24 rfl); have a9 := xu_27.2.2.2 (by omega); omega)) (Nat.le_of_lt_succ hm12)) hI108 hFm108 hFL12108 hGm108 hGL12108 (NR.trans (NR.trans (NR.trans hR12 (NR.eq (S := S12) (u := (uF S12 231 24 ((S12.1 231 24) + 1))) (funext fun j => uF_a) (funext fun j => uF_a) (funext fun j => uF_a) (funext fun j => uF_a) (funext fun j => uF_a))) (NR.mono xu_27.2.1 (by omega))) (NR.eq (S := u_27) (u := S108) (funext fun j => (hL108_ 248 rfl).2.1 j) (funext fun j => (hL108_ 249 rfl).2.1 j) (funext fun j => (hL108_ 250 rfl).2.1 j) (funext fun j => (hL108_ 251 rfl).2.1 j) (funext fun j => (hL108_ 252 rfl).2.1 j))) (by omega) (by omega) (fun h => by have e8 := (show S108.1 231 20 = u_27.1 231 20 from gL108_ 20 rfl); have a9 := xu_27.2.2.2 (by omega); exact ⟨(NX.cg (S := u_27) (u := S108) (nu_27 (by omega)) (NR.eq (funext fun j => (hL108_ 248 rfl).2.1 j) (funext fun j => (hL108_ 249 rfl).2.1 j) (funext fun j => (hL108_ 250 rfl).2.1 j) (funext fun j => (hL108_ 251 rfl).2.1 j) (funext fun j => (hL108_ 252 rfl).2.1 j)) (gL108_ 25 rfl) (gL108_ 32 rfl) (gL108_ 35 rfl) (funext fun j => (hL108_ 253 rfl).2.1 j)), (by have e6 := (show S108.1 231 25 = u_27.1 231 25 from gL108_ 25 rfl); omega), (by rw [show S108.1 231 24 = e2 by have e7 := (show S108.1 231 24 = u_27.1 231 24 from gL108_ 24 rfl); omega]; exact ht2), b12.2.2.2.1, (xu_119.2 (by omega))⟩) hW hL (lv_sub hl [4, 5, 6] rfl)
                        · refine lv_aload_n hx hb dX12_product_167 rfl (lv_at hl 5 rfl) ?_
                          refine lv_bipush (v := iv 6) hx hb dX12_product_168 (by decide) ?_
                          refine lv_iload_n hx hb dX12_product_170 rfl (lv_at hl 3 rfl) ?_
                          refine sBv (sV (As := [.int (iv 6), .int (iv (S12.1 231 24))]) (rest := []) (k := 231) Cx (s_X12_wrong l G S108 (cd := 6) (tk := S12.1 231 24) hI108 (by omega) (by omega)) (c_X12_321 Cx rfl rfl (rmk_ok (by omega) (by decide))) hW (by decide) rfl rfl rfl hl.1 rfl (Nat.le_of_ble_eq_true rfl) dX12_product_171 ⟨Nat.le_of_ble_eq_true rfl, Nat.le_of_ble_eq_true rfl⟩) hL (fun u_128 H locs k_129 hW hL => ?_)
                          obtain ⟨iu_128, fu_128, gu_128, xu_128⟩ := k_129
                          have F_130 := hFm108.trans (fu_128.to (pl_sub (by decide)))
                          have F_131 := hFL12108.trans (fu_128.to (pl_sub (by decide)))
                          have g_132 : FF S u_128 (fl [20, 21, 24, 25, 42, 43]) := FF.trans hGm108 (FF.to gu_128 (fl_sub (by decide)))
                          have g_133 : FF u_4 u_128 (fl [20, 21, 24, 25, 42, 43]) := FF.trans hGL12108 (FF.to gu_128 (fl_sub (by decide)))
                          refine lv_goto (tgt := 12) hx hb dX12_product_174 (by decide) ?_
                          have q_135 : (-2147483648) ≤ u_27.1 231 25 ∧ u_27.1 231 25 ≤ 2147483647 := iu_27.fi 25
                          have lk_136 : u_128.1 231 25 = u_27.1 231 25 := (gu_128 25 rfl).trans (gL108_ 25 rfl)
                          have q_137 : (-2147483648) ≤ u_27.1 231 24 ∧ u_27.1 231 24 ≤ 2147483647 := iu_27.fi 24
                          have lk_138 : u_128.1 231 24 = u_27.1 231 24 := (gu_128 24 rfl).trans (gL108_ 24 rfl)
                          have q_139 : (-2147483648) ≤ u_128.1 231 20 ∧ u_128.1 231 20 ≤ 2147483647 := iu_128.fi 20
                          exact ih_12 u_128  _ _ _ (Nat.lt_of_lt_of_le (mf_lt (S := S12) (by omega) (by omega) (fun h => by have e9 := (show u_128.1 231 20 = u_128.1 231 20 from rfl); have a9 := xu_128; omega)) (Nat.le_of_lt_succ hm12)) iu_128 F_130 F_131 g_132 g_133 (NR.trans (NR.trans (NR.trans hR12 (NR.eq (S := S12) (u := (uF S12 231 24 ((S12.1 231 24) + 1))) (funext fun j => uF_a) (funext fun j => uF_a) (funext fun j => uF_a) (funext fun j => uF_a) (funext fun j => uF_a))) (NR.mono xu_27.2.1 (by omega))) (NR.eq (S := u_27) (u := u_128) (funext fun j => ((fu_128 248 rfl).2.1 j).trans ((hL108_ 248 rfl).2.1 j)) (funext fun j => ((fu_128 249 rfl).2.1 j).trans ((hL108_ 249 rfl).2.1 j)) (funext fun j => ((fu_128 250 rfl).2.1 j).trans ((hL108_ 250 rfl).2.1 j)) (funext fun j => ((fu_128 251 rfl).2.1 j).trans ((hL108_ 251 rfl).2.1 j)) (funext fun j => ((fu_128 252 rfl).2.1 j).trans ((hL108_ 252 rfl).2.1 j)))) (by omega) (by omega) (fun h => absurd h (by have e9 := (show u_128.1 231 20 = u_128.1 231 20 from rfl); have a9 := xu_128; omega)) hW hL (lv_sub hl [4, 5, 6] rfl)
                      · refine lv_aload_n hx hb dX12_product_115 rfl (lv_at hl 5 rfl) ?_
                        refine g_X12_88 Cx hW (k := 231) (by decide) rfl (v := .ref (G.2.2.1 + 257)) (rd_41 hI108) dX12_product_116 ?_
                        refine lv_iload_n hx hb dX12_product_119 rfl (lv_at hl 6 rfl) ?_
                        refine lv_iload hx hb dX12_product_120 (lv_at hl 0 rfl) ?_
                        refine r_iadd hx hb dX12_product_122 ?_
                        refine lv_lload hx hb dX12_product_123 (lv_at hl 1 rfl) ?_
                        refine lv_iload hx hb dX12_product_125 (lv_at hl 2 rfl) ?_
                        refine r_if_eq (tgt := 142) hx hb ⟨(by omega), (by omega)⟩ dX12_product_127 (by decide) (fun c_140 => ?_) (fun c_140 => ?_)
                        · refine lv_aload_n hx hb dX12_product_142 rfl (lv_at hl 5 rfl) ?_
                          refine g_X12_88 Cx hW (k := 231) (by decide) rfl (v := .ref (G.2.2.1 + 257)) (rd_41 hI108) dX12_product_143 ?_
                          refine lv_iload_n hx hb dX12_product_146 rfl (lv_at hl 4 rfl) ?_
                          refine lv_iload hx hb dX12_product_147 (lv_at hl 0 rfl) ?_
                          refine r_iadd hx hb dX12_product_149 ?_
                          refine rLald Cx hW (k := 257) (by decide) rfl (by decide) (by omega) (by omega) dX12_product_150 ?_
                          have q_141 : -9223372036854775808 ≤ S108.2.2.1 257 (((ix + 12) + 1) + k) ∧ S108.2.2.1 257 (((ix + 12) + 1) + k) ≤ 9223372036854775807 := hI108.li 257 (((ix + 12) + 1) + k)
                          refine r_j (b := S108.2.2.1 257 (((ix + 12) + 1) + k)) rfl ?_
                          refine r_lmul hx hb dX12_product_151 ?_
                          obtain ⟨z_142, ez_142, hz_142, kz_142⟩ := jv_of (jv ((u_27.2.2.1 257 ix) * (S108.2.2.1 257 (((ix + 12) + 1) + k))))
                          rw [ez_142]
                          refine rLast Cx hW hL (k := 257) (by decide) rfl (by decide) (by omega) (by omega) dX12_product_152 (fun H locs hW hL => ?_)
                          have F_143 : Fr S (uL S108 257 (ix + k) z_142) (pl [231, 248, 249, 250, 251, 252, 257, 258]) := hFm108.L rfl
                          have F_144 : Fr u_4 (uL S108 257 (ix + k) z_142) (pl [231, 248, 249, 250, 251, 252, 257, 258]) := hFL12108.L rfl
                          have F_145 : Fr u_27 (uL S108 257 (ix + k) z_142) (pl [257]) := hL108_.L rfl
                          have i_146 : dX G (uL S108 257 (ix + k) z_142) := hI108.L ⟨by omega, by omega⟩
                          refine lv_iinc (v := iv (k + 1)) (lv' := [(7, .int (iv (k + 1))), (5, .long (jv (u_27.2.2.1 257 ix))), (4, .int (iv r_37)), (3, .int (iv (S12.1 231 24))), (2, .int (iv ((ix + 12) + 1))), (0, .ref (G.2.2.1 + 231)), (1, .int (iv ix))]) hx hb dX12_product_153 hl (k := 0) rfl ((Int32.ofInt_add _ _).symm) (by decide) rfl (fun ls hl => ?_)
                          refine lv_goto (tgt := 108) hx hb dX12_product_156 (by decide) ?_
                          exact ih_108 (uL S108 257 (ix + k) z_142) (k + 1) _ _ _ (by omega) i_146 F_143 F_144 F_145 hGm108 hGL12108 gL108_ (by omega) hW hL (lv_sub hl [0, 1, 2, 3, 4, 5, 6] rfl)
                        · refine lv_aload_n hx hb dX12_product_130 rfl (lv_at hl 5 rfl) ?_
                          refine g_X12_88 Cx hW (k := 231) (by decide) rfl (v := .ref (G.2.2.1 + 257)) (rd_41 hI108) dX12_product_131 ?_
                          refine lv_iload_n hx hb dX12_product_134 rfl (lv_at hl 6 rfl) ?_
                          refine lv_iload hx hb dX12_product_135 (lv_at hl 0 rfl) ?_
                          refine r_iadd hx hb dX12_product_137 ?_
                          refine rLald Cx hW (k := 257) (by decide) rfl (by decide) (by omega) (by omega) dX12_product_138 ?_
                          have q_147 : -9223372036854775808 ≤ S108.2.2.1 257 (ix + k) ∧ S108.2.2.1 257 (ix + k) ≤ 9223372036854775807 := hI108.li 257 (ix + k)
                          refine r_j (b := S108.2.2.1 257 (ix + k)) rfl ?_
                          refine lv_goto (tgt := 151) hx hb dX12_product_139 (by decide) ?_
                          refine r_lmul hx hb dX12_product_151 ?_
                          obtain ⟨z_148, ez_148, hz_148, kz_148⟩ := jv_of (jv ((u_27.2.2.1 257 ix) * (S108.2.2.1 257 (ix + k))))
                          rw [ez_148]
                          refine rLast Cx hW hL (k := 257) (by decide) rfl (by decide) (by omega) (by omega) dX12_product_152 (fun H locs hW hL => ?_)
                          have F_149 : Fr S (uL S108 257 (ix + k) z_148) (pl [231, 248, 249, 250, 251, 252, 257, 258]) := hFm108.L rfl
                          have F_150 : Fr u_4 (uL S108 257 (ix + k) z_148) (pl [231, 248, 249, 250, 251, 252, 257, 258]) := hFL12108.L rfl
                          have F_151 : Fr u_27 (uL S108 257 (ix + k) z_148) (pl [257]) := hL108_.L rfl
                          have i_152 : dX G (uL S108 257 (ix + k) z_148) := hI108.L ⟨by omega, by omega⟩
                          refine lv_iinc (v := iv (k + 1)) (lv' := [(7, .int (iv (k + 1))), (5, .long (jv (u_27.2.2.1 257 ix))), (4, .int (iv r_37)), (3, .int (iv (S12.1 231 24))), (2, .int (iv ((ix + 12) + 1))), (0, .ref (G.2.2.1 + 231)), (1, .int (iv ix))]) hx hb dX12_product_153 hl (k := 0) rfl ((Int32.ofInt_add _ _).symm) (by decide) rfl (fun ls hl => ?_)
                          refine lv_goto (tgt := 108) hx hb dX12_product_156 (by decide) ?_
                          exact ih_108 (uL S108 257 (ix + k) z_148) (k + 1) _ _ _ (by omega) i_152 F_149 F_150 F_151 hGm108 hGL12108 gL108_ (by omega) hW hL (lv_sub hl [0, 1, 2, 3, 4, 5, 6] rfl)
                  exact loop_108 (_ + 1) u_27 0 _ _ _ (Nat.lt_succ_self _) iu_27 F_29 F_30 Fr.rf g_31 g_32 FF.rf (by omega) hW hL (lv_sub hl [0, 1, 2, 3, 4, 5, 6] rfl)
                · refine lv_aload_n hx hb dX12_product_88 rfl (lv_at hl 3 rfl) ?_
                  refine g_X12_88 Cx hW (k := 231) (by decide) rfl (v := .ref (G.2.2.1 + 257)) (rd_41 iu_27) dX12_product_89 ?_
                  refine lv_iload_n hx hb dX12_product_92 rfl (lv_at hl 2 rfl) ?_
                  refine rLald Cx hW (k := 257) (by decide) rfl (by decide) (by omega) (by omega) dX12_product_93 ?_
                  have q_153 : -9223372036854775808 ≤ u_27.2.2.1 257 ((ix + 12) + 1) ∧ u_27.2.2.1 257 ((ix + 12) + 1) ≤ 9223372036854775807 := iu_27.li 257 ((ix + 12) + 1)
                  refine r_j (b := u_27.2.2.1 257 ((ix + 12) + 1)) rfl ?_
                  refine lv_goto (tgt := 103) hx hb dX12_product_94 (by decide) ?_
                  refine lv_lstore (lv' := [(5, .long (jv (u_27.2.2.1 257 ((ix + 12) + 1)))), (4, .int (iv r_37)), (3, .int (iv (S12.1 231 24))), (2, .int (iv ((ix + 12) + 1))), (0, .ref (G.2.2.1 + 231)), (1, .int (iv ix))]) hx hb dX12_product_103 hl (by decide) rfl (fun ls hl => ?_)
                  refine lv_iconst (v := iv 0) hx hb dX12_product_105 (by decide) ?_
                  refine lv_istore (lv' := [(7, .int (iv 0)), (5, .long (jv (u_27.2.2.1 257 ((ix + 12) + 1)))), (4, .int (iv r_37)), (3, .int (iv (S12.1 231 24))), (2, .int (iv ((ix + 12) + 1))), (0, .ref (G.2.2.1 + 231)), (1, .int (iv ix))]) hx hb dX12_product_106 hl (by decide) rfl (fun ls hl => ?_)
                  have loop_108 : ∀ (fuel : Nat) (S108 : sS) (k : Int) (H : Heap) (locs : List Loc) (ls : Array Slot), (13 - k).toNat < fuel → (dX G S108) → (Fr S S108 (pl [231, 248, 249, 250, 251, 252, 257, 258])) → (Fr u_4 S108 (pl [231, 248, 249, 250, 251, 252, 257, 258])) → (Fr u_27 S108 (pl [257])) → (FF S S108 (fl [20, 21, 24, 25, 42, 43])) → (FF u_4 S108 (fl [20, 21, 24, 25, 42, 43])) → (FF u_27 S108 (fl [])) → (0 ≤ k ∧ k ≤ 13) → sW G 294 S108 H → sL G locs → lv_has ls 8 [(7, .int (iv k)), (5, .long (jv (u_27.2.2.1 257 ((ix + 12) + 1)))), (4, .int (iv r_37)), (3, .int (iv (S12.1 231 24))), (2, .int (iv ((ix + 12) + 1))), (0, .ref (G.2.2.1 + 231)), (1, .int (iv ix))] → W p l e (rmk D 0 0) s m args below meth c H locs 0 0 (MQ below (sQv G 294 (fun u => dX G u ∧ Fr S u (pl [231, 248, 249, 250, 251, 252, 257, 258]) ∧ FF S u (fl [20, 21, 24, 25, 42, 43]) ∧ ((pz ≤ u.1 231 24 ∧ u.1 231 24 ≤ q) ∧ NR S u (S.1 231 25) ∧ S.1 231 25 ≤ u.1 231 25 ∧ Hd (u.1 231 20 = 0 → S.1 231 20 = 0 ∧ u.1 231 24 = q ∧ u.1 231 25 = S.1 231 25 ∧ fB u ix)))) args s 0 0 (sF G)) (F0 m 108 ls []) := by
                    intro fuel
                    induction fuel with
                    | zero => intro S108 k H locs ls hmeas hI108 hFm108 hFL12108 hL108_ hGm108 hGL12108 gL108_ hk hW hL hl; exact absurd hmeas (Nat.not_lt_zero _)
                    | succ fuel ih_108 =>
                      intro S108 k H locs ls hmeas hI108 hFm108 hFL12108 hL108_ hGm108 hGL12108 gL108_ hk hW hL hl
                      refine lv_iload hx hb dX12_product_108 (lv_at hl 0 rfl) ?_
                      refine lv_bipush (v := iv 12) hx hb dX12_product_110 (by decide) ?_
                      refine r_icmp_gt (tgt := 159) hx hb ⟨(by omega), (by omega)⟩ ⟨(by omega), (by omega)⟩ dX12_product_112 (by decide) (fun c_154 => ?_) (fun c_154 => ?_)
                      · refine lv_aload_n hx hb dX12_product_159 rfl (lv_at hl 5 rfl) ?_
                        refine lv_iload_n hx hb dX12_product_160 rfl (lv_at hl 6 rfl) ?_
                        refine sBi (sV (As := [.int (iv ix)]) (rest := []) (k := 231) Cx (s_X12_isGreat l G S108 (ix := ix) hI108 (by omega)) (c_X12_416 Cx rfl rfl (rmk_ok (by omega) (by decide))) hW (by decide) rfl rfl rfl hl.1 rfl (Nat.le_of_ble_eq_true rfl) dX12_product_161 ⟨Nat.le_of_ble_eq_true rfl, Nat.le_of_ble_eq_true rfl⟩) hL (fun r_157 u_155 H locs k_156 hW hL => ?_)
                        obtain ⟨eu_155, xu_155⟩ := k_156
                        rw [eu_155] at hW
                        refine r_if_eq (tgt := 174) hx hb ⟨(by omega), (by omega)⟩ dX12_product_164 (by decide) (fun c_158 => ?_) (fun c_158 => ?_)
                        · refine lv_goto (tgt := 12) hx hb dX12_product_174 (by decide) ?_
                          have q_159 : (-2147483648) ≤ u_27.1 231 25 ∧ u_27.1 231 25 ≤ 2147483647 := iu_27.fi 25
                          have lk_160 : S108.1 231 25 = u_27.1 231 25 := gL108_ 25 rfl
                          have q_161 : (-2147483648) ≤ u_27.1 231 24 ∧ u_27.1 231 24 ≤ 2147483647 := iu_27.fi 24
                          have lk_162 : S108.1 231 24 = u_27.1 231 24 := gL108_ 24 rfl
                          have lk_163 : S108.1 231 20 = u_27.1 231 20 := gL108_ 20 rfl
                          exact ih_12 S108  _ _ _ (Nat.lt_of_lt_of_le (mf_lt (S := S12) (by omega) (by omega) (fun h => by have e8 := (show S108.1 231 20 = u_27.1 231 20 from gL108_ 20 rfl); have e7 := (show S108.1 231 24 = u_27.1 231 24 from gL108_ 24 rfl); have a9 := xu_27.2.2.2 (by omega); omega)) (Nat.le_of_lt_succ hm12)) hI108 hFm108 hFL12108 hGm108 hGL12108 (NR.trans (NR.trans (NR.trans hR12 (NR.eq (S := S12) (u := (uF S12 231 24 ((S12.1 231 24) + 1))) (funext fun j => uF_a) (funext fun j => uF_a) (funext fun j => uF_a) (funext fun j => uF_a) (funext fun j => uF_a))) (NR.mono xu_27.2.1 (by omega))) (NR.eq (S := u_27) (u := S108) (funext fun j => (hL108_ 248 rfl).2.1 j) (funext fun j => (hL108_ 249 rfl).2.1 j) (funext fun j => (hL108_ 250 rfl).2.1 j) (funext fun j => (hL108_ 251 rfl).2.1 j) (funext fun j => (hL108_ 252 rfl).2.1 j))) (by omega) (by omega) (fun h => by have e8 := (show S108.1 231 20 = u_27.1 231 20 from gL108_ 20 rfl); have a9 := xu_27.2.2.2 (by omega); exact ⟨(NX.cg (S := u_27) (u := S108) (nu_27 (by omega)) (NR.eq (funext fun j => (hL108_ 248 rfl).2.1 j) (funext fun j => (hL108_ 249 rfl).2.1 j) (funext fun j => (hL108_ 250 rfl).2.1 j) (funext fun j => (hL108_ 251 rfl).2.1 j) (funext fun j => (hL108_ 252 rfl).2.1 j)) (gL108_ 25 rfl) (gL108_ 32 rfl) (gL108_ 35 rfl) (funext fun j => (hL108_ 253 rfl).2.1 j)), (by have e6 := (show S108.1 231 25 = u_27.1 231 25 from gL108_ 25 rfl); omega), (by rw [show S108.1 231 24 = e2 by have e7 := (show S108.1 231 24 = u_27.1 231 24 from gL108_ 24 rfl); omega]; exact ht2), b12.2.2.2.1, (xu_155.2 (by omega))⟩) hW hL (lv_sub hl [4, 5, 6] rfl)
                        · refine lv_aload_n hx hb dX12_product_167 rfl (lv_at hl 5 rfl) ?_
                          refine lv_bipush (v := iv 6) hx hb dX12_product_168 (by decide) ?_
                          refine lv_iload_n hx hb dX12_product_170 rfl (lv_at hl 3 rfl) ?_
                          refine sBv (sV (As := [.int (iv 6), .int (iv (S12.1 231 24))]) (rest := []) (k := 231) Cx (s_X12_wrong l G S108 (cd := 6) (tk := S12.1 231 24) hI108 (by omega) (by omega)) (c_X12_321 Cx rfl rfl (rmk_ok (by omega) (by decide))) hW (by decide) rfl rfl rfl hl.1 rfl (Nat.le_of_ble_eq_true rfl) dX12_product_171 ⟨Nat.le_of_ble_eq_true rfl, Nat.le_of_ble_eq_true rfl⟩) hL (fun u_164 H locs k_165 hW hL => ?_)
                          obtain ⟨iu_164, fu_164, gu_164, xu_164⟩ := k_165
                          have F_166 := hFm108.trans (fu_164.to (pl_sub (by decide)))
                          have F_167 := hFL12108.trans (fu_164.to (pl_sub (by decide)))
                          have g_168 : FF S u_164 (fl [20, 21, 24, 25, 42, 43]) := FF.trans hGm108 (FF.to gu_164 (fl_sub (by decide)))
                          have g_169 : FF u_4 u_164 (fl [20, 21, 24, 25, 42, 43]) := FF.trans hGL12108 (FF.to gu_164 (fl_sub (by decide)))
                          refine lv_goto (tgt := 12) hx hb dX12_product_174 (by decide) ?_
                          have q_171 : (-2147483648) ≤ u_27.1 231 25 ∧ u_27.1 231 25 ≤ 2147483647 := iu_27.fi 25
                          have lk_172 : u_164.1 231 25 = u_27.1 231 25 := (gu_164 25 rfl).trans (gL108_ 25 rfl)
                          have q_173 : (-2147483648) ≤ u_27.1 231 24 ∧ u_27.1 231 24 ≤ 2147483647 := iu_27.fi 24
                          have lk_174 : u_164.1 231 24 = u_27.1 231 24 := (gu_164 24 rfl).trans (gL108_ 24 rfl)
                          have q_175 : (-2147483648) ≤ u_164.1 231 20 ∧ u_164.1 231 20 ≤ 2147483647 := iu_164.fi 20
                          exact ih_12 u_164  _ _ _ (Nat.lt_of_lt_of_le (mf_lt (S := S12) (by omega) (by omega) (fun h => by have e9 := (show u_164.1 231 20 = u_164.1 231 20 from rfl); have a9 := xu_164; omega)) (Nat.le_of_lt_succ hm12)) iu_164 F_166 F_167 g_168 g_169 (NR.trans (NR.trans (NR.trans hR12 (NR.eq (S := S12) (u := (uF S12 231 24 ((S12.1 231 24) + 1))) (funext fun j => uF_a) (funext fun j => uF_a) (funext fun j => uF_a) (funext fun j => uF_a) (funext fun j => uF_a))) (NR.mono xu_27.2.1 (by omega))) (NR.eq (S := u_27) (u := u_164) (funext fun j => ((fu_164 248 rfl).2.1 j).trans ((hL108_ 248 rfl).2.1 j)) (funext fun j => ((fu_164 249 rfl).2.1 j).trans ((hL108_ 249 rfl).2.1 j)) (funext fun j => ((fu_164 250 rfl).2.1 j).trans ((hL108_ 250 rfl).2.1 j)) (funext fun j => ((fu_164 251 rfl).2.1 j).trans ((hL108_ 251 rfl).2.1 j)) (funext fun j => ((fu_164 252 rfl).2.1 j).trans ((hL108_ 252 rfl).2.1 j)))) (by omega) (by omega) (fun h => absurd h (by have e9 := (show u_164.1 231 20 = u_164.1 231 20 from rfl); have a9 := xu_164; omega)) hW hL (lv_sub hl [4, 5, 6] rfl)
                      · refine lv_aload_n hx hb dX12_product_115 rfl (lv_at hl 5 rfl) ?_
                        refine g_X12_88 Cx hW (k := 231) (by decide) rfl (v := .ref (G.2.2.1 + 257)) (rd_41 hI108) dX12_product_116 ?_
                        refine lv_iload_n hx hb dX12_product_119 rfl (lv_at hl 6 rfl) ?_
                        refine lv_iload hx hb dX12_product_120 (lv_at hl 0 rfl) ?_
                        refine r_iadd hx hb dX12_product_122 ?_
                        refine lv_lload hx hb dX12_product_123 (lv_at hl 1 rfl) ?_
                        refine lv_iload hx hb dX12_product_125 (lv_at hl 2 rfl) ?_
                        refine r_if_eq (tgt := 142) hx hb ⟨(by omega), (by omega)⟩ dX12_product_127 (by decide) (fun c_176 => ?_) (fun c_176 => ?_)
                        · refine lv_aload_n hx hb dX12_product_142 rfl (lv_at hl 5 rfl) ?_
                          refine g_X12_88 Cx hW (k := 231) (by decide) rfl (v := .ref (G.2.2.1 + 257)) (rd_41 hI108) dX12_product_143 ?_
                          refine lv_iload_n hx hb dX12_product_146 rfl (lv_at hl 4 rfl) ?_
                          refine lv_iload hx hb dX12_product_147 (lv_at hl 0 rfl) ?_
                          refine r_iadd hx hb dX12_product_149 ?_
                          refine rLald Cx hW (k := 257) (by decide) rfl (by decide) (by omega) (by omega) dX12_product_150 ?_
                          have q_177 : -9223372036854775808 ≤ S108.2.2.1 257 (((ix + 12) + 1) + k) ∧ S108.2.2.1 257 (((ix + 12) + 1) + k) ≤ 9223372036854775807 := hI108.li 257 (((ix + 12) + 1) + k)
                          refine r_j (b := S108.2.2.1 257 (((ix + 12) + 1) + k)) rfl ?_
                          refine r_lmul hx hb dX12_product_151 ?_
                          obtain ⟨z_178, ez_178, hz_178, kz_178⟩ := jv_of (jv ((u_27.2.2.1 257 ((ix + 12) + 1)) * (S108.2.2.1 257 (((ix + 12) + 1) + k))))
                          rw [ez_178]
                          refine rLast Cx hW hL (k := 257) (by decide) rfl (by decide) (by omega) (by omega) dX12_product_152 (fun H locs hW hL => ?_)
                          have F_179 : Fr S (uL S108 257 (ix + k) z_178) (pl [231, 248, 249, 250, 251, 252, 257, 258]) := hFm108.L rfl
                          have F_180 : Fr u_4 (uL S108 257 (ix + k) z_178) (pl [231, 248, 249, 250, 251, 252, 257, 258]) := hFL12108.L rfl
                          have F_181 : Fr u_27 (uL S108 257 (ix + k) z_178) (pl [257]) := hL108_.L rfl
                          have i_182 : dX G (uL S108 257 (ix + k) z_178) := hI108.L ⟨by omega, by omega⟩
                          refine lv_iinc (v := iv (k + 1)) (lv' := [(7, .int (iv (k + 1))), (5, .long (jv (u_27.2.2.1 257 ((ix + 12) + 1)))), (4, .int (iv r_37)), (3, .int (iv (S12.1 231 24))), (2, .int (iv ((ix + 12) + 1))), (0, .ref (G.2.2.1 + 231)), (1, .int (iv ix))]) hx hb dX12_product_153 hl (k := 0) rfl ((Int32.ofInt_add _ _).symm) (by decide) rfl (fun ls hl => ?_)
                          refine lv_goto (tgt := 108) hx hb dX12_product_156 (by decide) ?_
                          exact ih_108 (uL S108 257 (ix + k) z_178) (k + 1) _ _ _ (by omega) i_182 F_179 F_180 F_181 hGm108 hGL12108 gL108_ (by omega) hW hL (lv_sub hl [0, 1, 2, 3, 4, 5, 6] rfl)
                        · refine lv_aload_n hx hb dX12_product_130 rfl (lv_at hl 5 rfl) ?_
                          refine g_X12_88 Cx hW (k := 231) (by decide) rfl (v := .ref (G.2.2.1 + 257)) (rd_41 hI108) dX12_product_131 ?_
                          refine lv_iload_n hx hb dX12_product_134 rfl (lv_at hl 6 rfl) ?_
                          refine lv_iload hx hb dX12_product_135 (lv_at hl 0 rfl) ?_
                          refine r_iadd hx hb dX12_product_137 ?_
                          refine rLald Cx hW (k := 257) (by decide) rfl (by decide) (by omega) (by omega) dX12_product_138 ?_
                          have q_183 : -9223372036854775808 ≤ S108.2.2.1 257 (ix + k) ∧ S108.2.2.1 257 (ix + k) ≤ 9223372036854775807 := hI108.li 257 (ix + k)
                          refine r_j (b := S108.2.2.1 257 (ix + k)) rfl ?_
                          refine lv_goto (tgt := 151) hx hb dX12_product_139 (by decide) ?_
                          refine r_lmul hx hb dX12_product_151 ?_
                          obtain ⟨z_184, ez_184, hz_184, kz_184⟩ := jv_of (jv ((u_27.2.2.1 257 ((ix + 12) + 1)) * (S108.2.2.1 257 (ix + k))))
                          rw [ez_184]
                          refine rLast Cx hW hL (k := 257) (by decide) rfl (by decide) (by omega) (by omega) dX12_product_152 (fun H locs hW hL => ?_)
                          have F_185 : Fr S (uL S108 257 (ix + k) z_184) (pl [231, 248, 249, 250, 251, 252, 257, 258]) := hFm108.L rfl
                          have F_186 : Fr u_4 (uL S108 257 (ix + k) z_184) (pl [231, 248, 249, 250, 251, 252, 257, 258]) := hFL12108.L rfl
                          have F_187 : Fr u_27 (uL S108 257 (ix + k) z_184) (pl [257]) := hL108_.L rfl
                          have i_188 : dX G (uL S108 257 (ix + k) z_184) := hI108.L ⟨by omega, by omega⟩
                          refine lv_iinc (v := iv (k + 1)) (lv' := [(7, .int (iv (k + 1))), (5, .long (jv (u_27.2.2.1 257 ((ix + 12) + 1)))), (4, .int (iv r_37)), (3, .int (iv (S12.1 231 24))), (2, .int (iv ((ix + 12) + 1))), (0, .ref (G.2.2.1 + 231)), (1, .int (iv ix))]) hx hb dX12_product_153 hl (k := 0) rfl ((Int32.ofInt_add _ _).symm) (by decide) rfl (fun ls hl => ?_)
                          refine lv_goto (tgt := 108) hx hb dX12_product_156 (by decide) ?_
                          exact ih_108 (uL S108 257 (ix + k) z_184) (k + 1) _ _ _ (by omega) i_188 F_185 F_186 F_187 hGm108 hGL12108 gL108_ (by omega) hW hL (lv_sub hl [0, 1, 2, 3, 4, 5, 6] rfl)
                  exact loop_108 (_ + 1) u_27 0 _ _ _ (Nat.lt_succ_self _) iu_27 F_29 F_30 Fr.rf g_31 g_32 FF.rf (by omega) hW hL (lv_sub hl [0, 1, 2, 3, 4, 5, 6] rfl)
              · refine lv_aload_n hx hb dX12_product_76 rfl (lv_at hl 3 rfl) ?_
                refine lv_iconst (v := iv 4) hx hb dX12_product_77 (by decide) ?_
                refine lv_iload_n hx hb dX12_product_78 rfl (lv_at hl 1 rfl) ?_
                refine sBv (sV (As := [.int (iv 4), .int (iv (S12.1 231 24))]) (rest := []) (k := 231) Cx (s_X12_wrong l G u_27 (cd := 4) (tk := S12.1 231 24) iu_27 (by omega) (by omega)) (c_X12_321 Cx rfl rfl (rmk_ok (by omega) (by decide))) hW (by decide) rfl rfl rfl hl.1 rfl (Nat.le_of_ble_eq_true rfl) dX12_product_79 ⟨Nat.le_of_ble_eq_true rfl, Nat.le_of_ble_eq_true rfl⟩) hL (fun u_189 H locs k_190 hW hL => ?_)
                obtain ⟨iu_189, fu_189, gu_189, xu_189⟩ := k_190
                have F_191 := F_29.trans (fu_189.to (pl_sub (by decide)))
                have F_192 := F_30.trans (fu_189.to (pl_sub (by decide)))
                have g_193 : FF S u_189 (fl [20, 21, 24, 25, 42, 43]) := FF.trans g_31 (FF.to gu_189 (fl_sub (by decide)))
                have g_194 : FF u_4 u_189 (fl [20, 21, 24, 25, 42, 43]) := FF.trans g_32 (FF.to gu_189 (fl_sub (by decide)))
                have q_195 : (-2147483648) ≤ u_27.1 231 24 ∧ u_27.1 231 24 ≤ 2147483647 := iu_27.fi 24
                have lk_196 : u_189.1 231 24 = u_27.1 231 24 := gu_189 24 rfl
                have q_197 : (-2147483648) ≤ u_27.1 231 25 ∧ u_27.1 231 25 ≤ 2147483647 := iu_27.fi 25
                have lk_198 : u_189.1 231 25 = u_27.1 231 25 := gu_189 25 rfl
                have q_199 : (-2147483648) ≤ u_189.1 231 20 ∧ u_189.1 231 20 ≤ 2147483647 := iu_189.fi 20
                exact sVret Cx hr hlk hW hL ⟨iu_189, F_191, g_193, ⟨(by have e7 := (show u_189.1 231 24 = u_27.1 231 24 from gu_189 24 rfl); have e6 := (show u_189.1 231 25 = u_27.1 231 25 from gu_189 25 rfl); have e8 := (show u_189.1 231 20 = u_189.1 231 20 from rfl); omega), (NR.trans (NR.trans (NR.trans hR12 (NR.eq (S := S12) (u := (uF S12 231 24 ((S12.1 231 24) + 1))) (funext fun j => uF_a) (funext fun j => uF_a) (funext fun j => uF_a) (funext fun j => uF_a) (funext fun j => uF_a))) (NR.mono xu_27.2.1 (by omega))) (NR.eq (S := u_27) (u := u_189) (funext fun j => (fu_189 248 rfl).2.1 j) (funext fun j => (fu_189 249 rfl).2.1 j) (funext fun j => (fu_189 250 rfl).2.1 j) (funext fun j => (fu_189 251 rfl).2.1 j) (funext fun j => (fu_189 252 rfl).2.1 j))), (by have e7 := (show u_189.1 231 24 = u_27.1 231 24 from gu_189 24 rfl); have e6 := (show u_189.1 231 25 = u_27.1 231 25 from gu_189 25 rfl); have e8 := (show u_189.1 231 20 = u_189.1 231 20 from rfl); omega), (fun h => absurd h (by have e9 := (show u_189.1 231 20 = u_189.1 231 20 from rfl); have a9 := xu_189; omega))⟩⟩ dX12_product_82
          · have q_200 : (-2147483648) ≤ u_27.1 231 24 ∧ u_27.1 231 24 ≤ 2147483647 := iu_27.fi 24
            have q_201 : (-2147483648) ≤ u_27.1 231 25 ∧ u_27.1 231 25 ≤ 2147483647 := iu_27.fi 25
            exact sVret Cx hr hlk hW hL ⟨iu_27, F_29, g_31, ⟨(by have e7 := (show u_27.1 231 24 = u_27.1 231 24 from rfl); have e6 := (show u_27.1 231 25 = u_27.1 231 25 from rfl); have e8 := (show u_27.1 231 20 = u_27.1 231 20 from rfl); omega), (NR.trans (NR.trans hR12 (NR.eq (S := S12) (u := (uF S12 231 24 ((S12.1 231 24) + 1))) (funext fun j => uF_a) (funext fun j => uF_a) (funext fun j => uF_a) (funext fun j => uF_a) (funext fun j => uF_a))) (NR.mono xu_27.2.1 (by omega))), (by have e7 := (show u_27.1 231 24 = u_27.1 231 24 from rfl); have e6 := (show u_27.1 231 25 = u_27.1 231 25 from rfl); have e8 := (show u_27.1 231 20 = u_27.1 231 20 from rfl); omega), (fun h => absurd h (by have e9 := (show u_27.1 231 20 = u_27.1 231 20 from rfl); omega))⟩⟩ dX12_product_55
  have q_202 : (-2147483648) ≤ u_4.1 231 25 ∧ u_4.1 231 25 ≤ 2147483647 := iu_4.fi 25
  have q_203 : (-2147483648) ≤ u_4.1 231 24 ∧ u_4.1 231 24 ≤ 2147483647 := iu_4.fi 24
  have q_204 : (-2147483648) ≤ u_4.1 231 20 ∧ u_4.1 231 20 ≤ 2147483647 := iu_4.fi 20
  exact loop_12 (_ + 1) u_4  _ _ _ (Nat.lt_succ_self _) iu_4 F_6 Fr.rf g_7 FF.rf xu_4.2.1 (by omega) (by omega) (fun h => by have a9 := xu_4.2.2.2 h; exact ⟨nu_4 h, a9.2.2.1, (by rw [a9.2.1]; exact ht a9.1), a9.1, a9.2.2.2⟩) hW hL (lv_sub hl [0, 1, 2] rfl)

set_option maxRecDepth 100000 in
set_option maxHeartbeats 4000000 in
theorem s_X12_expression (l : Launch) (G : sG) (S : sS) {K V Fm Wd : Int → Int} {T : Int} {D d1 N : Nat} {pz q ix : Int} (hI : dX G S) (hK : S.2.1 244 = K) (hV : S.2.1 247 = V) (hFm : S.2.1 245 = Fm) (hWd : S.2.1 246 = Wd) (hQ : gQ K V Fm Wd T) (h1 : d1 < D) (h8 : 10 ≤ D) (hF : Hd (PdC l G d1 K V Fm Wd T N)) (hc : S.1 231 24 = pz) (hpq : 0 ≤ pz ∧ pz ≤ q ∧ q ≤ T - 1) (hg : Hd (S.1 231 20 = 0 → gU K V (gF K V N) pz q)) (hNX : Hd (S.1 231 20 = 0 → NX S T)) (h3 : S.1 231 20 = 0 → 3 * S.1 231 25 ≤ pz) (hix : 0 ≤ ix ∧ ix + (39 * N + 26) + 12 < 1820) : Met l yX12_expression (.code yX12_expression cX12_expression 5 none :: tb) (rmk D 0 0) (sPc G 294 S [.ref (G.2.2.1 + 231), .int (iv ix)]) (sQv G 294 (fun u => dX G u ∧ Fr S u (pl [231, 248, 249, 250, 251, 252, 257, 258]) ∧ FF S u (fl [20, 21, 24, 25, 42, 43]) ∧ ((pz ≤ u.1 231 24 ∧ u.1 231 24 ≤ q) ∧ NR S u (S.1 231 25) ∧ S.1 231 25 ≤ u.1 231 25 ∧ Hd (u.1 231 20 = 0 → S.1 231 20 = 0 ∧ u.1 231 24 = q ∧ u.1 231 25 = S.1 231 25 ∧ fB u ix)))) 0 0 (sF G) := by
  refine sEnter (by decide) (Nat.le_of_ble_eq_true rfl) ?_
  intro p e s m args below meth c Cx hr hlk hnm hW ls hl
  have Cx : sC G p m c cX12_expression 5 s args RX12 := Cx
  obtain ⟨hx, hb, hml, hown, hts⟩ := id Cx.1
  have hL : sL G [] := sL_nil
  have hl : lv_has ls 5 [(0, .ref (G.2.2.1 + 231)), (1, .int (iv ix))] := hl
  have hW0 := hW
  have hQ1 := hQ.1
  obtain ⟨ed, hpe, he, ht⟩ := gL_sp (A := S.1 231 20 = 0) (st := (fun c => gS K V c 43 ∨ gS K V c 45)) (F := (gP K V (gF K V N))) (fun c x r => gP_lt r) hg (by omega)
  refine lv_aload_n hx hb dX12_expression_0 rfl (lv_at hl 0 rfl) ?_
  refine lv_iload_n hx hb dX12_expression_1 rfl (lv_at hl 1 rfl) ?_
  have q_1 : (-2147483648) ≤ S.1 231 24 ∧ S.1 231 24 ≤ 2147483647 := hI.fi 24
  have q_2 : (-2147483648) ≤ S.1 231 20 ∧ S.1 231 20 ≤ 2147483647 := hI.fi 20
  have q_3 : (-2147483648) ≤ S.1 231 25 ∧ S.1 231 25 ≤ 2147483647 := hI.fi 25
  refine sBv (sV (As := [.int (iv ix)]) (rest := []) (k := 231) Cx (hF S pz ed ix hI hK hV hFm hWd (by omega) (by omega) he hNX (fun h => h3 (by omega)) (by omega)) (c_X12_423 Cx rfl rfl (rmk_ok (by omega) (by decide))) hW (by decide) rfl rfl rfl hl.1 rfl (Nat.le_of_ble_eq_true rfl) dX12_expression_2 ⟨Nat.le_of_ble_eq_true rfl, Nat.le_of_ble_eq_true rfl⟩) hL (fun u_4 H locs k_5 hW hL => ?_)
  obtain ⟨iu_4, fu_4, gu_4, xu_4⟩ := k_5
  have F_6 := (Fr.rf : Fr S S (pl [231, 248, 249, 250, 251, 252, 257, 258])).trans fu_4
  have g_7 : FF S u_4 (fl [20, 21, 24, 25, 42, 43]) := FF.trans FF.rf (FF.to gu_4 (fl_sub (by decide)))
  have nu_4 : Hd (u_4.1 231 20 = 0 → NX u_4 T) := fun h => NX.cg (S := S) (hNX (xu_4.2.2.2 h).1) xu_4.2.1 (xu_4.2.2.2 h).2.2.1 (gu_4 32 rfl) (gu_4 35 rfl) (funext fun j => (fu_4 253 rfl).2.1 j)
  refine lv_iload_n hx hb dX12_expression_5 rfl (lv_at hl 1 rfl) ?_
  refine lv_bipush (v := iv 12) hx hb dX12_expression_6 (by decide) ?_
  refine r_iadd hx hb dX12_expression_8 ?_
  refine lv_iconst (v := iv 1) hx hb dX12_expression_9 (by decide) ?_
  refine r_iadd hx hb dX12_expression_10 ?_
  refine lv_istore_n (lv' := [(2, .int (iv ((ix + 12) + 1))), (0, .ref (G.2.2.1 + 231)), (1, .int (iv ix))]) hx hb dX12_expression_11 rfl hl (by decide) rfl (fun ls hl => ?_)
  have loop_12 : ∀ (fuel : Nat) (S12 : sS)  (H : Heap) (locs : List Loc) (ls : Array Slot), mf S12 T < fuel → (dX G S12) → (Fr S S12 (pl [231, 248, 249, 250, 251, 252, 257, 258])) → (Fr u_4 S12 (pl [231, 248, 249, 250, 251, 252, 257, 258])) → (FF S S12 (fl [20, 21, 24, 25, 42, 43])) → (FF u_4 S12 (fl [20, 21, 24, 25, 42, 43])) → (NR S S12 (S.1 231 25)) → (S.1 231 25 ≤ S12.1 231 25) → (pz ≤ S12.1 231 24 ∧ S12.1 231 24 ≤ q) → (Hd (S12.1 231 20 = 0 → NX S12 T ∧ S12.1 231 25 = S.1 231 25 ∧ gTl (fun c => gS K V c 43 ∨ gS K V c 45) (fun c x => (gP K V (gF K V N)) (c + 1) x) (S12.1 231 24) q ∧ S.1 231 20 = 0 ∧ fB S12 ix)) → sW G 294 S12 H → sL G locs → lv_has ls 5 [(2, .int (iv ((ix + 12) + 1))), (0, .ref (G.2.2.1 + 231)), (1, .int (iv ix))] → W p l e (rmk D 0 0) s m args below meth c H locs 0 0 (MQ below (sQv G 294 (fun u => dX G u ∧ Fr S u (pl [231, 248, 249, 250, 251, 252, 257, 258]) ∧ FF S u (fl [20, 21, 24, 25, 42, 43]) ∧ ((pz ≤ u.1 231 24 ∧ u.1 231 24 ≤ q) ∧ NR S u (S.1 231 25) ∧ S.1 231 25 ≤ u.1 231 25 ∧ Hd (u.1 231 20 = 0 → S.1 231 20 = 0 ∧ u.1 231 24 = q ∧ u.1 231 25 = S.1 231 25 ∧ fB u ix)))) args s 0 0 (sF G)) (F0 m 12 ls []) := by
    intro fuel
    induction fuel with
    | zero => intro S12  H locs ls hmeas hI12 hFm12 hL12_ hGm12 gL12_ hR12 h25_12 hc12 hN12 hW hL hl; exact absurd hmeas (Nat.not_lt_zero _)
    | succ fuel ih_12 =>
      intro S12  H locs ls hmeas hI12 hFm12 hL12_ hGm12 gL12_ hR12 h25_12 hc12 hN12 hW hL hl
      have hM12 : Hd (S12.1 231 20 = 0 → NX S12 T) := fun h => (hN12 h).1
      have hm12 := hmeas
      refine lv_aload_n hx hb dX12_expression_12 rfl (lv_at hl 1 rfl) ?_
      have q_8 : (-2147483648) ≤ S12.1 231 20 ∧ S12.1 231 20 ≤ 2147483647 := hI12.fi 20
      refine g_X12_270 Cx hW (k := 231) (by decide) rfl (v := S12.1 231 20) rfl dX12_expression_13 ?_
      refine r_if_ne (tgt := 143) hx hb ⟨(by omega), (by omega)⟩ dX12_expression_16 (by decide) (fun c_9 => ?_) (fun c_9 => ?_)
      · have q_10 : (-2147483648) ≤ S12.1 231 24 ∧ S12.1 231 24 ≤ 2147483647 := hI12.fi 24
        have q_11 : (-2147483648) ≤ S12.1 231 25 ∧ S12.1 231 25 ≤ 2147483647 := hI12.fi 25
        exact sVret Cx hr hlk hW hL ⟨hI12, hFm12, hGm12, ⟨(by have e7 := (show S12.1 231 24 = S12.1 231 24 from rfl); have e6 := (show S12.1 231 25 = S12.1 231 25 from rfl); have e8 := (show S12.1 231 20 = S12.1 231 20 from rfl); omega), hR12, (by have e7 := (show S12.1 231 24 = S12.1 231 24 from rfl); have e6 := (show S12.1 231 25 = S12.1 231 25 from rfl); have e8 := (show S12.1 231 20 = S12.1 231 20 from rfl); omega), (fun h => absurd h (by have e9 := (show S12.1 231 20 = S12.1 231 20 from rfl); omega))⟩⟩ dX12_expression_143
      · have b12 := hN12 (by omega)
        refine lv_aload_n hx hb dX12_expression_19 rfl (lv_at hl 1 rfl) ?_
        refine lv_bipush (v := iv 43) hx hb dX12_expression_20 (by decide) ?_
        have q_12 : (-2147483648) ≤ S12.1 231 24 ∧ S12.1 231 24 ≤ 2147483647 := hI12.fi 24
        refine sBi (sV (As := [.int (iv 43)]) (rest := []) (k := 231) Cx (s_X12_isSign l G S12 (sv := 43) (K := K) (V := V) (pz := S12.1 231 24) hI12 (by omega) ((funext fun j => ((hL12_ 244 rfl).2.1 j).trans ((fu_4 244 rfl).2.1 j) : S12.2.1 244 = S.2.1 244).trans hK) ((funext fun j => ((hL12_ 247 rfl).2.1 j).trans ((fu_4 247 rfl).2.1 j) : S12.2.1 247 = S.2.1 247).trans hV) (by omega) (by omega)) (c_X12_318 Cx rfl rfl (rmk_ok (by omega) (by decide))) hW (by decide) rfl rfl rfl hl.1 rfl (Nat.le_of_ble_eq_true rfl) dX12_expression_22 ⟨Nat.le_of_ble_eq_true rfl, Nat.le_of_ble_eq_true rfl⟩) hL (fun r_15 u_13 H locs k_14 hW hL => ?_)
        obtain ⟨eu_13, xu_13⟩ := k_14
        rw [eu_13] at hW
        refine r_if_ne (tgt := 37) hx hb ⟨(by omega), (by omega)⟩ dX12_expression_25 (by decide) (fun c_16 => ?_) (fun c_16 => ?_)
        · obtain ⟨e2, he2, ht2⟩ := gTl.inv b12.2.2.1 (.inl (xu_13.2.1 (by omega)))
          have hl2 := gP_lt he2
          have hl3 := gU_tl ht2
          refine lv_aload_n hx hb dX12_expression_37 rfl (lv_at hl 1 rfl) ?_
          refine g_X12_315 Cx hW (k := 231) (by decide) rfl (v := S12.1 231 24) rfl dX12_expression_38 ?_
          refine lv_istore_n (lv' := [(3, .int (iv (S12.1 231 24))), (2, .int (iv ((ix + 12) + 1))), (0, .ref (G.2.2.1 + 231)), (1, .int (iv ix))]) hx hb dX12_expression_41 rfl hl (by decide) rfl (fun ls hl => ?_)
          refine lv_aload_n hx hb dX12_expression_42 rfl (lv_at hl 2 rfl) ?_
          refine lv_dup hx hb dX12_expression_43 rfl ?_
          refine g_X12_315 Cx hW (k := 231) (by decide) rfl (v := S12.1 231 24) rfl dX12_expression_44 ?_
          refine lv_iconst (v := iv 1) hx hb dX12_expression_47 (by decide) ?_
          refine r_iadd hx hb dX12_expression_48 ?_
          refine p_X12_315 Cx hW hL (k := 231) (by decide) rfl dX12_expression_49 (fun H locs hW hL => ?_)
          have F_17 : Fr S (uF S12 231 24 ((S12.1 231 24) + 1)) (pl [231, 248, 249, 250, 251, 252, 257, 258]) := hFm12.F rfl
          have F_18 : Fr u_4 (uF S12 231 24 ((S12.1 231 24) + 1)) (pl [231, 248, 249, 250, 251, 252, 257, 258]) := hL12_.F rfl
          have g_19 : FF S (uF S12 231 24 ((S12.1 231 24) + 1)) (fl [20, 21, 24, 25, 42, 43]) := FF.F hGm12 rfl
          have g_20 : FF u_4 (uF S12 231 24 ((S12.1 231 24) + 1)) (fl [20, 21, 24, 25, 42, 43]) := FF.F gL12_ rfl
          have i_21 : dX G (uF S12 231 24 ((S12.1 231 24) + 1)) := hI12.F (i := 24) (show (-2147483648) ≤ (S12.1 231 24) + 1 ∧ (S12.1 231 24) + 1 ≤ 2147483647 from ⟨by omega, by omega⟩)
          refine lv_aload_n hx hb dX12_expression_52 rfl (lv_at hl 2 rfl) ?_
          refine lv_iload_n hx hb dX12_expression_53 rfl (lv_at hl 1 rfl) ?_
          have lk_22 : (uF S12 231 24 ((S12.1 231 24) + 1)).1 231 24 = (S12.1 231 24) + 1 := uF_on
          have lk_23 : (uF S12 231 24 ((S12.1 231 24) + 1)).1 231 20 = S12.1 231 20 := uF_ne (fun h => absurd h.2 (by decide))
          have q_24 : (-2147483648) ≤ S12.1 231 25 ∧ S12.1 231 25 ≤ 2147483647 := hI12.fi 25
          have lk_25 : (uF S12 231 24 ((S12.1 231 24) + 1)).1 231 25 = S12.1 231 25 := uF_ne (fun h => absurd h.2 (by decide))
          refine sBv (sV (As := [.int (iv ((ix + 12) + 1))]) (rest := []) (k := 231) Cx (hF (uF S12 231 24 ((S12.1 231 24) + 1)) (S12.1 231 24 + 1) e2 ((ix + 12) + 1) i_21 ((funext fun j => (uF_a).trans (((hL12_ 244 rfl).2.1 j).trans ((fu_4 244 rfl).2.1 j)) : (uF S12 231 24 ((S12.1 231 24) + 1)).2.1 244 = S.2.1 244).trans hK) ((funext fun j => (uF_a).trans (((hL12_ 247 rfl).2.1 j).trans ((fu_4 247 rfl).2.1 j)) : (uF S12 231 24 ((S12.1 231 24) + 1)).2.1 247 = S.2.1 247).trans hV) ((funext fun j => (uF_a).trans (((hL12_ 245 rfl).2.1 j).trans ((fu_4 245 rfl).2.1 j)) : (uF S12 231 24 ((S12.1 231 24) + 1)).2.1 245 = S.2.1 245).trans hFm) ((funext fun j => (uF_a).trans (((hL12_ 246 rfl).2.1 j).trans ((fu_4 246 rfl).2.1 j)) : (uF S12 231 24 ((S12.1 231 24) + 1)).2.1 246 = S.2.1 246).trans hWd) (by omega) (by omega) (fun _ => he2) (fun h => (NX.cg (S := S12) (u := (uF S12 231 24 ((S12.1 231 24) + 1))) (hM12 (by have e9 := (show (uF S12 231 24 ((S12.1 231 24) + 1)).1 231 20 = S12.1 231 20 from uF_ne (fun h => absurd h.2 (by decide))); omega)) (NR.eq (funext fun j => uF_a) (funext fun j => uF_a) (funext fun j => uF_a) (funext fun j => uF_a) (funext fun j => uF_a)) (uF_ne (fun h => absurd h.2 (by decide))) (uF_ne (fun h => absurd h.2 (by decide))) (uF_ne (fun h => absurd h.2 (by decide))) (funext fun j => uF_a))) (fun _ => by omega) (by omega)) (c_X12_423 Cx rfl rfl (rmk_ok (by omega) (by decide))) hW (by decide) rfl rfl rfl hl.1 rfl (Nat.le_of_ble_eq_true rfl) dX12_expression_54 ⟨Nat.le_of_ble_eq_true rfl, Nat.le_of_ble_eq_true rfl⟩) hL (fun u_26 H locs k_27 hW hL => ?_)
          obtain ⟨iu_26, fu_26, gu_26, xu_26⟩ := k_27
          have F_28 := F_17.trans fu_26
          have F_29 := F_18.trans fu_26
          have g_30 : FF S u_26 (fl [20, 21, 24, 25, 42, 43]) := FF.trans g_19 (FF.to gu_26 (fl_sub (by decide)))
          have g_31 : FF u_4 u_26 (fl [20, 21, 24, 25, 42, 43]) := FF.trans g_20 (FF.to gu_26 (fl_sub (by decide)))
          have nu_26 : Hd (u_26.1 231 20 = 0 → NX u_26 T) := fun h => NX.cg (S := (uF S12 231 24 ((S12.1 231 24) + 1))) ((fun h => (NX.cg (S := S12) (u := (uF S12 231 24 ((S12.1 231 24) + 1))) (hM12 (by have e9 := (show (uF S12 231 24 ((S12.1 231 24) + 1)).1 231 20 = S12.1 231 20 from uF_ne (fun h => absurd h.2 (by decide))); omega)) (NR.eq (funext fun j => uF_a) (funext fun j => uF_a) (funext fun j => uF_a) (funext fun j => uF_a) (funext fun j => uF_a)) (uF_ne (fun h => absurd h.2 (by decide))) (uF_ne (fun h => absurd h.2 (by decide))) (uF_ne (fun h => absurd h.2 (by decide))) (funext fun j => uF_a))) (xu_26.2.2.2 h).1) xu_26.2.1 (xu_26.2.2.2 h).2.2.1 (gu_26 32 rfl) (gu_26 35 rfl) (funext fun j => (fu_26 253 rfl).2.1 j)
          refine lv_iconst (v := iv 0) hx hb dX12_expression_57 (by decide) ?_
          refine lv_istore (lv' := [(4, .int (iv 0)), (3, .int (iv (S12.1 231 24))), (2, .int (iv ((ix + 12) + 1))), (0, .ref (G.2.2.1 + 231)), (1, .int (iv ix))]) hx hb dX12_expression_58 hl (by decide) rfl (fun ls hl => ?_)
          have loop_60 : ∀ (fuel : Nat) (S60 : sS) (k : Int) (H : Heap) (locs : List Loc) (ls : Array Slot), (13 - k).toNat < fuel → (dX G S60) → (Fr S S60 (pl [231, 248, 249, 250, 251, 252, 257, 258])) → (Fr u_4 S60 (pl [231, 248, 249, 250, 251, 252, 257, 258])) → (Fr u_26 S60 (pl [257])) → (FF S S60 (fl [20, 21, 24, 25, 42, 43])) → (FF u_4 S60 (fl [20, 21, 24, 25, 42, 43])) → (FF u_26 S60 (fl [])) → (0 ≤ k ∧ k ≤ 13) → sW G 294 S60 H → sL G locs → lv_has ls 5 [(4, .int (iv k)), (3, .int (iv (S12.1 231 24))), (2, .int (iv ((ix + 12) + 1))), (0, .ref (G.2.2.1 + 231)), (1, .int (iv ix))] → W p l e (rmk D 0 0) s m args below meth c H locs 0 0 (MQ below (sQv G 294 (fun u => dX G u ∧ Fr S u (pl [231, 248, 249, 250, 251, 252, 257, 258]) ∧ FF S u (fl [20, 21, 24, 25, 42, 43]) ∧ ((pz ≤ u.1 231 24 ∧ u.1 231 24 ≤ q) ∧ NR S u (S.1 231 25) ∧ S.1 231 25 ≤ u.1 231 25 ∧ Hd (u.1 231 20 = 0 → S.1 231 20 = 0 ∧ u.1 231 24 = q ∧ u.1 231 25 = S.1 231 25 ∧ fB u ix)))) args s 0 0 (sF G)) (F0 m 60 ls []) := by
            intro fuel
            induction fuel with
            | zero => intro S60 k H locs ls hmeas hI60 hFm60 hFL1260 hL60_ hGm60 hGL1260 gL60_ hk hW hL hl; exact absurd hmeas (Nat.not_lt_zero _)
            | succ fuel ih_60 =>
              intro S60 k H locs ls hmeas hI60 hFm60 hFL1260 hL60_ hGm60 hGL1260 gL60_ hk hW hL hl
              refine lv_iload hx hb dX12_expression_60 (lv_at hl 0 rfl) ?_
              refine lv_bipush (v := iv 12) hx hb dX12_expression_62 (by decide) ?_
              refine r_icmp_gt (tgt := 118) hx hb ⟨(by omega), (by omega)⟩ ⟨(by omega), (by omega)⟩ dX12_expression_64 (by decide) (fun c_32 => ?_) (fun c_32 => ?_)
              · refine lv_aload_n hx hb dX12_expression_118 rfl (lv_at hl 3 rfl) ?_
                have q_33 : (-2147483648) ≤ u_26.1 231 20 ∧ u_26.1 231 20 ≤ 2147483647 := iu_26.fi 20
                refine g_X12_270 Cx hW (k := 231) (by decide) rfl (v := u_26.1 231 20) (gL60_ 20 rfl) dX12_expression_119 ?_
                refine r_if_ne (tgt := 140) hx hb ⟨(by omega), (by omega)⟩ dX12_expression_122 (by decide) (fun c_34 => ?_) (fun c_34 => ?_)
                · refine lv_goto (tgt := 12) hx hb dX12_expression_140 (by decide) ?_
                  have q_35 : (-2147483648) ≤ u_26.1 231 25 ∧ u_26.1 231 25 ≤ 2147483647 := iu_26.fi 25
                  have lk_36 : S60.1 231 25 = u_26.1 231 25 := gL60_ 25 rfl
                  have q_37 : (-2147483648) ≤ u_26.1 231 24 ∧ u_26.1 231 24 ≤ 2147483647 := iu_26.fi 24
                  have lk_38 : S60.1 231 24 = u_26.1 231 24 := gL60_ 24 rfl
                  have lk_39 : S60.1 231 20 = u_26.1 231 20 := gL60_ 20 rfl
                  exact ih_12 S60  _ _ _ (Nat.lt_of_lt_of_le (mf_lt (S := S12) (by omega) (by omega) (fun h => by have e8 := (show S60.1 231 20 = u_26.1 231 20 from gL60_ 20 rfl); have e7 := (show S60.1 231 24 = u_26.1 231 24 from gL60_ 24 rfl); have a9 := xu_26.2.2.2 (by omega); omega)) (Nat.le_of_lt_succ hm12)) hI60 hFm60 hFL1260 hGm60 hGL1260 (NR.trans (NR.trans (NR.trans hR12 (NR.eq (S := S12) (u := (uF S12 231 24 ((S12.1 231 24) + 1))) (funext fun j => uF_a) (funext fun j => uF_a) (funext fun j => uF_a) (funext fun j => uF_a) (funext fun j => uF_a))) (NR.mono xu_26.2.1 (by omega))) (NR.eq (S := u_26) (u := S60) (funext fun j => (hL60_ 248 rfl).2.1 j) (funext fun j => (hL60_ 249 rfl).2.1 j) (funext fun j => (hL60_ 250 rfl).2.1 j) (funext fun j => (hL60_ 251 rfl).2.1 j) (funext fun j => (hL60_ 252 rfl).2.1 j))) (by omega) (by omega) (fun h => absurd h (by have e8 := (show S60.1 231 20 = u_26.1 231 20 from gL60_ 20 rfl); omega)) hW hL (lv_sub hl [2, 3, 4] rfl)
                · refine lv_aload_n hx hb dX12_expression_125 rfl (lv_at hl 3 rfl) ?_
                  refine lv_iload_n hx hb dX12_expression_126 rfl (lv_at hl 4 rfl) ?_
                  refine sBi (sV (As := [.int (iv ix)]) (rest := []) (k := 231) Cx (s_X12_isGreat l G S60 (ix := ix) hI60 (by omega)) (c_X12_416 Cx rfl rfl (rmk_ok (by omega) (by decide))) hW (by decide) rfl rfl rfl hl.1 rfl (Nat.le_of_ble_eq_true rfl) dX12_expression_127 ⟨Nat.le_of_ble_eq_true rfl, Nat.le_of_ble_eq_true rfl⟩) hL (fun r_42 u_40 H locs k_41 hW hL => ?_)
                  obtain ⟨eu_40, xu_40⟩ := k_41
                  rw [eu_40] at hW
                  refine r_if_eq (tgt := 140) hx hb ⟨(by omega), (by omega)⟩ dX12_expression_130 (by decide) (fun c_43 => ?_) (fun c_43 => ?_)
                  · refine lv_goto (tgt := 12) hx hb dX12_expression_140 (by decide) ?_
                    have q_44 : (-2147483648) ≤ u_26.1 231 25 ∧ u_26.1 231 25 ≤ 2147483647 := iu_26.fi 25
                    have lk_45 : S60.1 231 25 = u_26.1 231 25 := gL60_ 25 rfl
                    have q_46 : (-2147483648) ≤ u_26.1 231 24 ∧ u_26.1 231 24 ≤ 2147483647 := iu_26.fi 24
                    have lk_47 : S60.1 231 24 = u_26.1 231 24 := gL60_ 24 rfl
                    have lk_48 : S60.1 231 20 = u_26.1 231 20 := gL60_ 20 rfl
                    exact ih_12 S60  _ _ _ (Nat.lt_of_lt_of_le (mf_lt (S := S12) (by omega) (by omega) (fun h => by have e8 := (show S60.1 231 20 = u_26.1 231 20 from gL60_ 20 rfl); have e7 := (show S60.1 231 24 = u_26.1 231 24 from gL60_ 24 rfl); have a9 := xu_26.2.2.2 (by omega); omega)) (Nat.le_of_lt_succ hm12)) hI60 hFm60 hFL1260 hGm60 hGL1260 (NR.trans (NR.trans (NR.trans hR12 (NR.eq (S := S12) (u := (uF S12 231 24 ((S12.1 231 24) + 1))) (funext fun j => uF_a) (funext fun j => uF_a) (funext fun j => uF_a) (funext fun j => uF_a) (funext fun j => uF_a))) (NR.mono xu_26.2.1 (by omega))) (NR.eq (S := u_26) (u := S60) (funext fun j => (hL60_ 248 rfl).2.1 j) (funext fun j => (hL60_ 249 rfl).2.1 j) (funext fun j => (hL60_ 250 rfl).2.1 j) (funext fun j => (hL60_ 251 rfl).2.1 j) (funext fun j => (hL60_ 252 rfl).2.1 j))) (by omega) (by omega) (fun h => by have e8 := (show S60.1 231 20 = u_26.1 231 20 from gL60_ 20 rfl); have a9 := xu_26.2.2.2 (by omega); exact ⟨(NX.cg (S := u_26) (u := S60) (nu_26 (by omega)) (NR.eq (funext fun j => (hL60_ 248 rfl).2.1 j) (funext fun j => (hL60_ 249 rfl).2.1 j) (funext fun j => (hL60_ 250 rfl).2.1 j) (funext fun j => (hL60_ 251 rfl).2.1 j) (funext fun j => (hL60_ 252 rfl).2.1 j)) (gL60_ 25 rfl) (gL60_ 32 rfl) (gL60_ 35 rfl) (funext fun j => (hL60_ 253 rfl).2.1 j)), (by have e6 := (show S60.1 231 25 = u_26.1 231 25 from gL60_ 25 rfl); omega), (by rw [show S60.1 231 24 = e2 by have e7 := (show S60.1 231 24 = u_26.1 231 24 from gL60_ 24 rfl); omega]; exact ht2), b12.2.2.2.1, (xu_40.2 (by omega))⟩) hW hL (lv_sub hl [2, 3, 4] rfl)
                  · refine lv_aload_n hx hb dX12_expression_133 rfl (lv_at hl 3 rfl) ?_
                    refine lv_bipush (v := iv 6) hx hb dX12_expression_134 (by decide) ?_
                    refine lv_iload_n hx hb dX12_expression_136 rfl (lv_at hl 1 rfl) ?_
                    refine sBv (sV (As := [.int (iv 6), .int (iv (S12.1 231 24))]) (rest := []) (k := 231) Cx (s_X12_wrong l G S60 (cd := 6) (tk := S12.1 231 24) hI60 (by omega) (by omega)) (c_X12_321 Cx rfl rfl (rmk_ok (by omega) (by decide))) hW (by decide) rfl rfl rfl hl.1 rfl (Nat.le_of_ble_eq_true rfl) dX12_expression_137 ⟨Nat.le_of_ble_eq_true rfl, Nat.le_of_ble_eq_true rfl⟩) hL (fun u_49 H locs k_50 hW hL => ?_)
                    obtain ⟨iu_49, fu_49, gu_49, xu_49⟩ := k_50
                    have F_51 := hFm60.trans (fu_49.to (pl_sub (by decide)))
                    have F_52 := hFL1260.trans (fu_49.to (pl_sub (by decide)))
                    have g_53 : FF S u_49 (fl [20, 21, 24, 25, 42, 43]) := FF.trans hGm60 (FF.to gu_49 (fl_sub (by decide)))
                    have g_54 : FF u_4 u_49 (fl [20, 21, 24, 25, 42, 43]) := FF.trans hGL1260 (FF.to gu_49 (fl_sub (by decide)))
                    refine lv_goto (tgt := 12) hx hb dX12_expression_140 (by decide) ?_
                    have q_56 : (-2147483648) ≤ u_26.1 231 25 ∧ u_26.1 231 25 ≤ 2147483647 := iu_26.fi 25
                    have lk_57 : u_49.1 231 25 = u_26.1 231 25 := (gu_49 25 rfl).trans (gL60_ 25 rfl)
                    have q_58 : (-2147483648) ≤ u_26.1 231 24 ∧ u_26.1 231 24 ≤ 2147483647 := iu_26.fi 24
                    have lk_59 : u_49.1 231 24 = u_26.1 231 24 := (gu_49 24 rfl).trans (gL60_ 24 rfl)
                    have q_60 : (-2147483648) ≤ u_49.1 231 20 ∧ u_49.1 231 20 ≤ 2147483647 := iu_49.fi 20
                    exact ih_12 u_49  _ _ _ (Nat.lt_of_lt_of_le (mf_lt (S := S12) (by omega) (by omega) (fun h => by have e9 := (show u_49.1 231 20 = u_49.1 231 20 from rfl); have a9 := xu_49; omega)) (Nat.le_of_lt_succ hm12)) iu_49 F_51 F_52 g_53 g_54 (NR.trans (NR.trans (NR.trans hR12 (NR.eq (S := S12) (u := (uF S12 231 24 ((S12.1 231 24) + 1))) (funext fun j => uF_a) (funext fun j => uF_a) (funext fun j => uF_a) (funext fun j => uF_a) (funext fun j => uF_a))) (NR.mono xu_26.2.1 (by omega))) (NR.eq (S := u_26) (u := u_49) (funext fun j => ((fu_49 248 rfl).2.1 j).trans ((hL60_ 248 rfl).2.1 j)) (funext fun j => ((fu_49 249 rfl).2.1 j).trans ((hL60_ 249 rfl).2.1 j)) (funext fun j => ((fu_49 250 rfl).2.1 j).trans ((hL60_ 250 rfl).2.1 j)) (funext fun j => ((fu_49 251 rfl).2.1 j).trans ((hL60_ 251 rfl).2.1 j)) (funext fun j => ((fu_49 252 rfl).2.1 j).trans ((hL60_ 252 rfl).2.1 j)))) (by omega) (by omega) (fun h => absurd h (by have e9 := (show u_49.1 231 20 = u_49.1 231 20 from rfl); have a9 := xu_49; omega)) hW hL (lv_sub hl [2, 3, 4] rfl)
              · refine lv_aload_n hx hb dX12_expression_67 rfl (lv_at hl 3 rfl) ?_
                refine g_X12_88 Cx hW (k := 231) (by decide) rfl (v := .ref (G.2.2.1 + 257)) (rd_41 hI60) dX12_expression_68 ?_
                refine lv_iload_n hx hb dX12_expression_71 rfl (lv_at hl 4 rfl) ?_
                refine lv_iload hx hb dX12_expression_72 (lv_at hl 0 rfl) ?_
                refine r_iadd hx hb dX12_expression_74 ?_
                refine lv_dup2_11 hx hb dX12_expression_75 rfl rfl ?_
                refine rLald Cx hW (k := 257) (by decide) rfl (by decide) (by omega) (by omega) dX12_expression_76 ?_
                have q_61 : -9223372036854775808 ≤ S60.2.2.1 257 (ix + k) ∧ S60.2.2.1 257 (ix + k) ≤ 9223372036854775807 := hI60.li 257 (ix + k)
                refine r_j (b := S60.2.2.1 257 (ix + k)) rfl ?_
                refine lv_aload_n hx hb dX12_expression_77 rfl (lv_at hl 3 rfl) ?_
                refine g_X12_56 Cx hW (k := 231) (by decide) rfl (v := .ref (G.2.2.1 + 247)) (rd_18 hI60) dX12_expression_78 ?_
                refine lv_iload_n hx hb dX12_expression_81 rfl (lv_at hl 1 rfl) ?_
                refine rIald Cx hW (k := 247) (by decide) rfl (by decide) (by omega) (by omega) dX12_expression_82 ?_
                have q_62 : (-2147483648) ≤ S.2.1 247 (S12.1 231 24) ∧ S.2.1 247 (S12.1 231 24) ≤ 2147483647 := hI.ai 247 (S12.1 231 24)
                refine r_i (b := S.2.1 247 (S12.1 231 24)) (((hL60_ 247 rfl).2.1 (S12.1 231 24)).trans (((fu_26 247 rfl).2.1 (S12.1 231 24)).trans ((uF_a).trans (((hL12_ 247 rfl).2.1 (S12.1 231 24)).trans ((fu_4 247 rfl).2.1 (S12.1 231 24)))))) ?_
                refine lv_bipush (v := iv 43) hx hb dX12_expression_83 (by decide) ?_
                refine r_icmp_ne (tgt := 100) hx hb ⟨(by omega), (by omega)⟩ ⟨(by omega), (by omega)⟩ dX12_expression_85 (by decide) (fun c_63 => ?_) (fun c_63 => ?_)
                · refine lv_aload_n hx hb dX12_expression_100 rfl (lv_at hl 3 rfl) ?_
                  refine g_X12_88 Cx hW (k := 231) (by decide) rfl (v := .ref (G.2.2.1 + 257)) (rd_41 hI60) dX12_expression_101 ?_
                  refine lv_iload_n hx hb dX12_expression_104 rfl (lv_at hl 2 rfl) ?_
                  refine lv_iload hx hb dX12_expression_105 (lv_at hl 0 rfl) ?_
                  refine r_iadd hx hb dX12_expression_107 ?_
                  refine rLald Cx hW (k := 257) (by decide) rfl (by decide) (by omega) (by omega) dX12_expression_108 ?_
                  have q_64 : -9223372036854775808 ≤ S60.2.2.1 257 (((ix + 12) + 1) + k) ∧ S60.2.2.1 257 (((ix + 12) + 1) + k) ≤ 9223372036854775807 := hI60.li 257 (((ix + 12) + 1) + k)
                  refine r_j (b := S60.2.2.1 257 (((ix + 12) + 1) + k)) rfl ?_
                  refine r_lneg hx hb dX12_expression_109 ?_
                  obtain ⟨z_65, ez_65, hz_65, kz_65⟩ := jv_of (jv (-(S60.2.2.1 257 (((ix + 12) + 1) + k))))
                  rw [ez_65]
                  refine r_ladd hx hb dX12_expression_110 ?_
                  obtain ⟨z_66, ez_66, hz_66, kz_66⟩ := jv_of (jv ((S60.2.2.1 257 (ix + k)) + z_65))
                  rw [ez_66]
                  refine rLast Cx hW hL (k := 257) (by decide) rfl (by decide) (by omega) (by omega) dX12_expression_111 (fun H locs hW hL => ?_)
                  have F_67 : Fr S (uL S60 257 (ix + k) z_66) (pl [231, 248, 249, 250, 251, 252, 257, 258]) := hFm60.L rfl
                  have F_68 : Fr u_4 (uL S60 257 (ix + k) z_66) (pl [231, 248, 249, 250, 251, 252, 257, 258]) := hFL1260.L rfl
                  have F_69 : Fr u_26 (uL S60 257 (ix + k) z_66) (pl [257]) := hL60_.L rfl
                  have i_70 : dX G (uL S60 257 (ix + k) z_66) := hI60.L ⟨by omega, by omega⟩
                  refine lv_iinc (v := iv (k + 1)) (lv' := [(4, .int (iv (k + 1))), (3, .int (iv (S12.1 231 24))), (2, .int (iv ((ix + 12) + 1))), (0, .ref (G.2.2.1 + 231)), (1, .int (iv ix))]) hx hb dX12_expression_112 hl (k := 0) rfl ((Int32.ofInt_add _ _).symm) (by decide) rfl (fun ls hl => ?_)
                  refine lv_goto (tgt := 60) hx hb dX12_expression_115 (by decide) ?_
                  exact ih_60 (uL S60 257 (ix + k) z_66) (k + 1) _ _ _ (by omega) i_70 F_67 F_68 F_69 hGm60 hGL1260 gL60_ (by omega) hW hL (lv_sub hl [0, 1, 2, 3, 4] rfl)
                · refine lv_aload_n hx hb dX12_expression_88 rfl (lv_at hl 3 rfl) ?_
                  refine g_X12_88 Cx hW (k := 231) (by decide) rfl (v := .ref (G.2.2.1 + 257)) (rd_41 hI60) dX12_expression_89 ?_
                  refine lv_iload_n hx hb dX12_expression_92 rfl (lv_at hl 2 rfl) ?_
                  refine lv_iload hx hb dX12_expression_93 (lv_at hl 0 rfl) ?_
                  refine r_iadd hx hb dX12_expression_95 ?_
                  refine rLald Cx hW (k := 257) (by decide) rfl (by decide) (by omega) (by omega) dX12_expression_96 ?_
                  have q_71 : -9223372036854775808 ≤ S60.2.2.1 257 (((ix + 12) + 1) + k) ∧ S60.2.2.1 257 (((ix + 12) + 1) + k) ≤ 9223372036854775807 := hI60.li 257 (((ix + 12) + 1) + k)
                  refine r_j (b := S60.2.2.1 257 (((ix + 12) + 1) + k)) rfl ?_
                  refine lv_goto (tgt := 110) hx hb dX12_expression_97 (by decide) ?_
                  refine r_ladd hx hb dX12_expression_110 ?_
                  obtain ⟨z_72, ez_72, hz_72, kz_72⟩ := jv_of (jv ((S60.2.2.1 257 (ix + k)) + (S60.2.2.1 257 (((ix + 12) + 1) + k))))
                  rw [ez_72]
                  refine rLast Cx hW hL (k := 257) (by decide) rfl (by decide) (by omega) (by omega) dX12_expression_111 (fun H locs hW hL => ?_)
                  have F_73 : Fr S (uL S60 257 (ix + k) z_72) (pl [231, 248, 249, 250, 251, 252, 257, 258]) := hFm60.L rfl
                  have F_74 : Fr u_4 (uL S60 257 (ix + k) z_72) (pl [231, 248, 249, 250, 251, 252, 257, 258]) := hFL1260.L rfl
                  have F_75 : Fr u_26 (uL S60 257 (ix + k) z_72) (pl [257]) := hL60_.L rfl
                  have i_76 : dX G (uL S60 257 (ix + k) z_72) := hI60.L ⟨by omega, by omega⟩
                  refine lv_iinc (v := iv (k + 1)) (lv' := [(4, .int (iv (k + 1))), (3, .int (iv (S12.1 231 24))), (2, .int (iv ((ix + 12) + 1))), (0, .ref (G.2.2.1 + 231)), (1, .int (iv ix))]) hx hb dX12_expression_112 hl (k := 0) rfl ((Int32.ofInt_add _ _).symm) (by decide) rfl (fun ls hl => ?_)
                  refine lv_goto (tgt := 60) hx hb dX12_expression_115 (by decide) ?_
                  exact ih_60 (uL S60 257 (ix + k) z_72) (k + 1) _ _ _ (by omega) i_76 F_73 F_74 F_75 hGm60 hGL1260 gL60_ (by omega) hW hL (lv_sub hl [0, 1, 2, 3, 4] rfl)
          exact loop_60 (_ + 1) u_26 0 _ _ _ (Nat.lt_succ_self _) iu_26 F_28 F_29 Fr.rf g_30 g_31 FF.rf (by omega) hW hL (lv_sub hl [0, 1, 2, 3, 4] rfl)
        · refine lv_aload_n hx hb dX12_expression_28 rfl (lv_at hl 1 rfl) ?_
          refine lv_bipush (v := iv 45) hx hb dX12_expression_29 (by decide) ?_
          refine sBi (sV (As := [.int (iv 45)]) (rest := []) (k := 231) Cx (s_X12_isSign l G S12 (sv := 45) (K := K) (V := V) (pz := S12.1 231 24) hI12 (by omega) ((funext fun j => ((hL12_ 244 rfl).2.1 j).trans ((fu_4 244 rfl).2.1 j) : S12.2.1 244 = S.2.1 244).trans hK) ((funext fun j => ((hL12_ 247 rfl).2.1 j).trans ((fu_4 247 rfl).2.1 j) : S12.2.1 247 = S.2.1 247).trans hV) (by omega) (by omega)) (c_X12_318 Cx rfl rfl (rmk_ok (by omega) (by decide))) hW (by decide) rfl rfl rfl hl.1 rfl (Nat.le_of_ble_eq_true rfl) dX12_expression_31 ⟨Nat.le_of_ble_eq_true rfl, Nat.le_of_ble_eq_true rfl⟩) hL (fun r_79 u_77 H locs k_78 hW hL => ?_)
          obtain ⟨eu_77, xu_77⟩ := k_78
          rw [eu_77] at hW
          refine r_if_eq (tgt := 143) hx hb ⟨(by omega), (by omega)⟩ dX12_expression_34 (by decide) (fun c_80 => ?_) (fun c_80 => ?_)
          · have q_81 : (-2147483648) ≤ S12.1 231 25 ∧ S12.1 231 25 ≤ 2147483647 := hI12.fi 25
            exact sVret Cx hr hlk hW hL ⟨hI12, hFm12, hGm12, ⟨(by have e7 := (show S12.1 231 24 = S12.1 231 24 from rfl); have e6 := (show S12.1 231 25 = S12.1 231 25 from rfl); have e8 := (show S12.1 231 20 = S12.1 231 20 from rfl); omega), hR12, (by have e7 := (show S12.1 231 24 = S12.1 231 24 from rfl); have e6 := (show S12.1 231 25 = S12.1 231 25 from rfl); have e8 := (show S12.1 231 20 = S12.1 231 20 from rfl); omega), (fun h => by have e7 := (show S12.1 231 24 = S12.1 231 24 from rfl); have e6 := (show S12.1 231 25 = S12.1 231 25 from rfl); have e8 := (show S12.1 231 20 = S12.1 231 20 from rfl); have b12 := hN12 (by omega); have q9 := gTl.fin b12.2.2.1 (fun z => z.elim (xu_13.2.2 (by omega)) (xu_77.2.2 (by omega))); exact ⟨by omega, by omega, by omega, b12.2.2.2.2⟩)⟩⟩ dX12_expression_143
          · obtain ⟨e2, he2, ht2⟩ := gTl.inv b12.2.2.1 (.inr (xu_77.2.1 (by omega)))
            have hl2 := gP_lt he2
            have hl3 := gU_tl ht2
            refine lv_aload_n hx hb dX12_expression_37 rfl (lv_at hl 1 rfl) ?_
            refine g_X12_315 Cx hW (k := 231) (by decide) rfl (v := S12.1 231 24) rfl dX12_expression_38 ?_
            refine lv_istore_n (lv' := [(3, .int (iv (S12.1 231 24))), (2, .int (iv ((ix + 12) + 1))), (0, .ref (G.2.2.1 + 231)), (1, .int (iv ix))]) hx hb dX12_expression_41 rfl hl (by decide) rfl (fun ls hl => ?_)
            refine lv_aload_n hx hb dX12_expression_42 rfl (lv_at hl 2 rfl) ?_
            refine lv_dup hx hb dX12_expression_43 rfl ?_
            refine g_X12_315 Cx hW (k := 231) (by decide) rfl (v := S12.1 231 24) rfl dX12_expression_44 ?_
            refine lv_iconst (v := iv 1) hx hb dX12_expression_47 (by decide) ?_
            refine r_iadd hx hb dX12_expression_48 ?_
            refine p_X12_315 Cx hW hL (k := 231) (by decide) rfl dX12_expression_49 (fun H locs hW hL => ?_)
            have F_82 : Fr S (uF S12 231 24 ((S12.1 231 24) + 1)) (pl [231, 248, 249, 250, 251, 252, 257, 258]) := hFm12.F rfl
            have F_83 : Fr u_4 (uF S12 231 24 ((S12.1 231 24) + 1)) (pl [231, 248, 249, 250, 251, 252, 257, 258]) := hL12_.F rfl
            have g_84 : FF S (uF S12 231 24 ((S12.1 231 24) + 1)) (fl [20, 21, 24, 25, 42, 43]) := FF.F hGm12 rfl
            have g_85 : FF u_4 (uF S12 231 24 ((S12.1 231 24) + 1)) (fl [20, 21, 24, 25, 42, 43]) := FF.F gL12_ rfl
            have i_86 : dX G (uF S12 231 24 ((S12.1 231 24) + 1)) := hI12.F (i := 24) (show (-2147483648) ≤ (S12.1 231 24) + 1 ∧ (S12.1 231 24) + 1 ≤ 2147483647 from ⟨by omega, by omega⟩)
            refine lv_aload_n hx hb dX12_expression_52 rfl (lv_at hl 2 rfl) ?_
            refine lv_iload_n hx hb dX12_expression_53 rfl (lv_at hl 1 rfl) ?_
            have lk_87 : (uF S12 231 24 ((S12.1 231 24) + 1)).1 231 24 = (S12.1 231 24) + 1 := uF_on
            have lk_88 : (uF S12 231 24 ((S12.1 231 24) + 1)).1 231 20 = S12.1 231 20 := uF_ne (fun h => absurd h.2 (by decide))
            have q_89 : (-2147483648) ≤ S12.1 231 25 ∧ S12.1 231 25 ≤ 2147483647 := hI12.fi 25
            have lk_90 : (uF S12 231 24 ((S12.1 231 24) + 1)).1 231 25 = S12.1 231 25 := uF_ne (fun h => absurd h.2 (by decide))
            refine sBv (sV (As := [.int (iv ((ix + 12) + 1))]) (rest := []) (k := 231) Cx (hF (uF S12 231 24 ((S12.1 231 24) + 1)) (S12.1 231 24 + 1) e2 ((ix + 12) + 1) i_86 ((funext fun j => (uF_a).trans (((hL12_ 244 rfl).2.1 j).trans ((fu_4 244 rfl).2.1 j)) : (uF S12 231 24 ((S12.1 231 24) + 1)).2.1 244 = S.2.1 244).trans hK) ((funext fun j => (uF_a).trans (((hL12_ 247 rfl).2.1 j).trans ((fu_4 247 rfl).2.1 j)) : (uF S12 231 24 ((S12.1 231 24) + 1)).2.1 247 = S.2.1 247).trans hV) ((funext fun j => (uF_a).trans (((hL12_ 245 rfl).2.1 j).trans ((fu_4 245 rfl).2.1 j)) : (uF S12 231 24 ((S12.1 231 24) + 1)).2.1 245 = S.2.1 245).trans hFm) ((funext fun j => (uF_a).trans (((hL12_ 246 rfl).2.1 j).trans ((fu_4 246 rfl).2.1 j)) : (uF S12 231 24 ((S12.1 231 24) + 1)).2.1 246 = S.2.1 246).trans hWd) (by omega) (by omega) (fun _ => he2) (fun h => (NX.cg (S := S12) (u := (uF S12 231 24 ((S12.1 231 24) + 1))) (hM12 (by have e9 := (show (uF S12 231 24 ((S12.1 231 24) + 1)).1 231 20 = S12.1 231 20 from uF_ne (fun h => absurd h.2 (by decide))); omega)) (NR.eq (funext fun j => uF_a) (funext fun j => uF_a) (funext fun j => uF_a) (funext fun j => uF_a) (funext fun j => uF_a)) (uF_ne (fun h => absurd h.2 (by decide))) (uF_ne (fun h => absurd h.2 (by decide))) (uF_ne (fun h => absurd h.2 (by decide))) (funext fun j => uF_a))) (fun _ => by omega) (by omega)) (c_X12_423 Cx rfl rfl (rmk_ok (by omega) (by decide))) hW (by decide) rfl rfl rfl hl.1 rfl (Nat.le_of_ble_eq_true rfl) dX12_expression_54 ⟨Nat.le_of_ble_eq_true rfl, Nat.le_of_ble_eq_true rfl⟩) hL (fun u_91 H locs k_92 hW hL => ?_)
            obtain ⟨iu_91, fu_91, gu_91, xu_91⟩ := k_92
            have F_93 := F_82.trans fu_91
            have F_94 := F_83.trans fu_91
            have g_95 : FF S u_91 (fl [20, 21, 24, 25, 42, 43]) := FF.trans g_84 (FF.to gu_91 (fl_sub (by decide)))
            have g_96 : FF u_4 u_91 (fl [20, 21, 24, 25, 42, 43]) := FF.trans g_85 (FF.to gu_91 (fl_sub (by decide)))
            have nu_91 : Hd (u_91.1 231 20 = 0 → NX u_91 T) := fun h => NX.cg (S := (uF S12 231 24 ((S12.1 231 24) + 1))) ((fun h => (NX.cg (S := S12) (u := (uF S12 231 24 ((S12.1 231 24) + 1))) (hM12 (by have e9 := (show (uF S12 231 24 ((S12.1 231 24) + 1)).1 231 20 = S12.1 231 20 from uF_ne (fun h => absurd h.2 (by decide))); omega)) (NR.eq (funext fun j => uF_a) (funext fun j => uF_a) (funext fun j => uF_a) (funext fun j => uF_a) (funext fun j => uF_a)) (uF_ne (fun h => absurd h.2 (by decide))) (uF_ne (fun h => absurd h.2 (by decide))) (uF_ne (fun h => absurd h.2 (by decide))) (funext fun j => uF_a))) (xu_91.2.2.2 h).1) xu_91.2.1 (xu_91.2.2.2 h).2.2.1 (gu_91 32 rfl) (gu_91 35 rfl) (funext fun j => (fu_91 253 rfl).2.1 j)
            refine lv_iconst (v := iv 0) hx hb dX12_expression_57 (by decide) ?_
            refine lv_istore (lv' := [(4, .int (iv 0)), (3, .int (iv (S12.1 231 24))), (2, .int (iv ((ix + 12) + 1))), (0, .ref (G.2.2.1 + 231)), (1, .int (iv ix))]) hx hb dX12_expression_58 hl (by decide) rfl (fun ls hl => ?_)
            have loop_60 : ∀ (fuel : Nat) (S60 : sS) (k : Int) (H : Heap) (locs : List Loc) (ls : Array Slot), (13 - k).toNat < fuel → (dX G S60) → (Fr S S60 (pl [231, 248, 249, 250, 251, 252, 257, 258])) → (Fr u_4 S60 (pl [231, 248, 249, 250, 251, 252, 257, 258])) → (Fr u_91 S60 (pl [257])) → (FF S S60 (fl [20, 21, 24, 25, 42, 43])) → (FF u_4 S60 (fl [20, 21, 24, 25, 42, 43])) → (FF u_91 S60 (fl [])) → (0 ≤ k ∧ k ≤ 13) → sW G 294 S60 H → sL G locs → lv_has ls 5 [(4, .int (iv k)), (3, .int (iv (S12.1 231 24))), (2, .int (iv ((ix + 12) + 1))), (0, .ref (G.2.2.1 + 231)), (1, .int (iv ix))] → W p l e (rmk D 0 0) s m args below meth c H locs 0 0 (MQ below (sQv G 294 (fun u => dX G u ∧ Fr S u (pl [231, 248, 249, 250, 251, 252, 257, 258]) ∧ FF S u (fl [20, 21, 24, 25, 42, 43]) ∧ ((pz ≤ u.1 231 24 ∧ u.1 231 24 ≤ q) ∧ NR S u (S.1 231 25) ∧ S.1 231 25 ≤ u.1 231 25 ∧ Hd (u.1 231 20 = 0 → S.1 231 20 = 0 ∧ u.1 231 24 = q ∧ u.1 231 25 = S.1 231 25 ∧ fB u ix)))) args s 0 0 (sF G)) (F0 m 60 ls []) := by
              intro fuel
              induction fuel with
              | zero => intro S60 k H locs ls hmeas hI60 hFm60 hFL1260 hL60_ hGm60 hGL1260 gL60_ hk hW hL hl; exact absurd hmeas (Nat.not_lt_zero _)
              | succ fuel ih_60 =>
                intro S60 k H locs ls hmeas hI60 hFm60 hFL1260 hL60_ hGm60 hGL1260 gL60_ hk hW hL hl
                refine lv_iload hx hb dX12_expression_60 (lv_at hl 0 rfl) ?_
                refine lv_bipush (v := iv 12) hx hb dX12_expression_62 (by decide) ?_
                refine r_icmp_gt (tgt := 118) hx hb ⟨(by omega), (by omega)⟩ ⟨(by omega), (by omega)⟩ dX12_expression_64 (by decide) (fun c_97 => ?_) (fun c_97 => ?_)
                · refine lv_aload_n hx hb dX12_expression_118 rfl (lv_at hl 3 rfl) ?_
                  have q_98 : (-2147483648) ≤ u_91.1 231 20 ∧ u_91.1 231 20 ≤ 2147483647 := iu_91.fi 20
                  refine g_X12_270 Cx hW (k := 231) (by decide) rfl (v := u_91.1 231 20) (gL60_ 20 rfl) dX12_expression_119 ?_
                  refine r_if_ne (tgt := 140) hx hb ⟨(by omega), (by omega)⟩ dX12_expression_122 (by decide) (fun c_99 => ?_) (fun c_99 => ?_)
                  · refine lv_goto (tgt := 12) hx hb dX12_expression_140 (by decide) ?_
                    have q_100 : (-2147483648) ≤ u_91.1 231 25 ∧ u_91.1 231 25 ≤ 2147483647 := iu_91.fi 25
                    have lk_101 : S60.1 231 25 = u_91.1 231 25 := gL60_ 25 rfl
                    have q_102 : (-2147483648) ≤ u_91.1 231 24 ∧ u_91.1 231 24 ≤ 2147483647 := iu_91.fi 24
                    have lk_103 : S60.1 231 24 = u_91.1 231 24 := gL60_ 24 rfl
                    have lk_104 : S60.1 231 20 = u_91.1 231 20 := gL60_ 20 rfl
                    exact ih_12 S60  _ _ _ (Nat.lt_of_lt_of_le (mf_lt (S := S12) (by omega) (by omega) (fun h => by have e8 := (show S60.1 231 20 = u_91.1 231 20 from gL60_ 20 rfl); have e7 := (show S60.1 231 24 = u_91.1 231 24 from gL60_ 24 rfl); have a9 := xu_91.2.2.2 (by omega); omega)) (Nat.le_of_lt_succ hm12)) hI60 hFm60 hFL1260 hGm60 hGL1260 (NR.trans (NR.trans (NR.trans hR12 (NR.eq (S := S12) (u := (uF S12 231 24 ((S12.1 231 24) + 1))) (funext fun j => uF_a) (funext fun j => uF_a) (funext fun j => uF_a) (funext fun j => uF_a) (funext fun j => uF_a))) (NR.mono xu_91.2.1 (by omega))) (NR.eq (S := u_91) (u := S60) (funext fun j => (hL60_ 248 rfl).2.1 j) (funext fun j => (hL60_ 249 rfl).2.1 j) (funext fun j => (hL60_ 250 rfl).2.1 j) (funext fun j => (hL60_ 251 rfl).2.1 j) (funext fun j => (hL60_ 252 rfl).2.1 j))) (by omega) (by omega) (fun h => absurd h (by have e8 := (show S60.1 231 20 = u_91.1 231 20 from gL60_ 20 rfl); omega)) hW hL (lv_sub hl [2, 3, 4] rfl)
                  · refine lv_aload_n hx hb dX12_expression_125 rfl (lv_at hl 3 rfl) ?_
                    refine lv_iload_n hx hb dX12_expression_126 rfl (lv_at hl 4 rfl) ?_
                    refine sBi (sV (As := [.int (iv ix)]) (rest := []) (k := 231) Cx (s_X12_isGreat l G S60 (ix := ix) hI60 (by omega)) (c_X12_416 Cx rfl rfl (rmk_ok (by omega) (by decide))) hW (by decide) rfl rfl rfl hl.1 rfl (Nat.le_of_ble_eq_true rfl) dX12_expression_127 ⟨Nat.le_of_ble_eq_true rfl, Nat.le_of_ble_eq_true rfl⟩) hL (fun r_107 u_105 H locs k_106 hW hL => ?_)
                    obtain ⟨eu_105, xu_105⟩ := k_106
                    rw [eu_105] at hW
                    refine r_if_eq (tgt := 140) hx hb ⟨(by omega), (by omega)⟩ dX12_expression_130 (by decide) (fun c_108 => ?_) (fun c_108 => ?_)
                    · refine lv_goto (tgt := 12) hx hb dX12_expression_140 (by decide) ?_
                      have q_109 : (-2147483648) ≤ u_91.1 231 25 ∧ u_91.1 231 25 ≤ 2147483647 := iu_91.fi 25
                      have lk_110 : S60.1 231 25 = u_91.1 231 25 := gL60_ 25 rfl
                      have q_111 : (-2147483648) ≤ u_91.1 231 24 ∧ u_91.1 231 24 ≤ 2147483647 := iu_91.fi 24
                      have lk_112 : S60.1 231 24 = u_91.1 231 24 := gL60_ 24 rfl
                      have lk_113 : S60.1 231 20 = u_91.1 231 20 := gL60_ 20 rfl
                      exact ih_12 S60  _ _ _ (Nat.lt_of_lt_of_le (mf_lt (S := S12) (by omega) (by omega) (fun h => by have e8 := (show S60.1 231 20 = u_91.1 231 20 from gL60_ 20 rfl); have e7 := (show S60.1 231 24 = u_91.1 231 24 from gL60_ 24 rfl); have a9 := xu_91.2.2.2 (by omega); omega)) (Nat.le_of_lt_succ hm12)) hI60 hFm60 hFL1260 hGm60 hGL1260 (NR.trans (NR.trans (NR.trans hR12 (NR.eq (S := S12) (u := (uF S12 231 24 ((S12.1 231 24) + 1))) (funext fun j => uF_a) (funext fun j => uF_a) (funext fun j => uF_a) (funext fun j => uF_a) (funext fun j => uF_a))) (NR.mono xu_91.2.1 (by omega))) (NR.eq (S := u_91) (u := S60) (funext fun j => (hL60_ 248 rfl).2.1 j) (funext fun j => (hL60_ 249 rfl).2.1 j) (funext fun j => (hL60_ 250 rfl).2.1 j) (funext fun j => (hL60_ 251 rfl).2.1 j) (funext fun j => (hL60_ 252 rfl).2.1 j))) (by omega) (by omega) (fun h => by have e8 := (show S60.1 231 20 = u_91.1 231 20 from gL60_ 20 rfl); have a9 := xu_91.2.2.2 (by omega); exact ⟨(NX.cg (S := u_91) (u := S60) (nu_91 (by omega)) (NR.eq (funext fun j => (hL60_ 248 rfl).2.1 j) (funext fun j => (hL60_ 249 rfl).2.1 j) (funext fun j => (hL60_ 250 rfl).2.1 j) (funext fun j => (hL60_ 251 rfl).2.1 j) (funext fun j => (hL60_ 252 rfl).2.1 j)) (gL60_ 25 rfl) (gL60_ 32 rfl) (gL60_ 35 rfl) (funext fun j => (hL60_ 253 rfl).2.1 j)), (by have e6 := (show S60.1 231 25 = u_91.1 231 25 from gL60_ 25 rfl); omega), (by rw [show S60.1 231 24 = e2 by have e7 := (show S60.1 231 24 = u_91.1 231 24 from gL60_ 24 rfl); omega]; exact ht2), b12.2.2.2.1, (xu_105.2 (by omega))⟩) hW hL (lv_sub hl [2, 3, 4] rfl)
                    · refine lv_aload_n hx hb dX12_expression_133 rfl (lv_at hl 3 rfl) ?_
                      refine lv_bipush (v := iv 6) hx hb dX12_expression_134 (by decide) ?_
                      refine lv_iload_n hx hb dX12_expression_136 rfl (lv_at hl 1 rfl) ?_
                      refine sBv (sV (As := [.int (iv 6), .int (iv (S12.1 231 24))]) (rest := []) (k := 231) Cx (s_X12_wrong l G S60 (cd := 6) (tk := S12.1 231 24) hI60 (by omega) (by omega)) (c_X12_321 Cx rfl rfl (rmk_ok (by omega) (by decide))) hW (by decide) rfl rfl rfl hl.1 rfl (Nat.le_of_ble_eq_true rfl) dX12_expression_137 ⟨Nat.le_of_ble_eq_true rfl, Nat.le_of_ble_eq_true rfl⟩) hL (fun u_114 H locs k_115 hW hL => ?_)
                      obtain ⟨iu_114, fu_114, gu_114, xu_114⟩ := k_115
                      have F_116 := hFm60.trans (fu_114.to (pl_sub (by decide)))
                      have F_117 := hFL1260.trans (fu_114.to (pl_sub (by decide)))
                      have g_118 : FF S u_114 (fl [20, 21, 24, 25, 42, 43]) := FF.trans hGm60 (FF.to gu_114 (fl_sub (by decide)))
                      have g_119 : FF u_4 u_114 (fl [20, 21, 24, 25, 42, 43]) := FF.trans hGL1260 (FF.to gu_114 (fl_sub (by decide)))
                      refine lv_goto (tgt := 12) hx hb dX12_expression_140 (by decide) ?_
                      have q_121 : (-2147483648) ≤ u_91.1 231 25 ∧ u_91.1 231 25 ≤ 2147483647 := iu_91.fi 25
                      have lk_122 : u_114.1 231 25 = u_91.1 231 25 := (gu_114 25 rfl).trans (gL60_ 25 rfl)
                      have q_123 : (-2147483648) ≤ u_91.1 231 24 ∧ u_91.1 231 24 ≤ 2147483647 := iu_91.fi 24
                      have lk_124 : u_114.1 231 24 = u_91.1 231 24 := (gu_114 24 rfl).trans (gL60_ 24 rfl)
                      have q_125 : (-2147483648) ≤ u_114.1 231 20 ∧ u_114.1 231 20 ≤ 2147483647 := iu_114.fi 20
                      exact ih_12 u_114  _ _ _ (Nat.lt_of_lt_of_le (mf_lt (S := S12) (by omega) (by omega) (fun h => by have e9 := (show u_114.1 231 20 = u_114.1 231 20 from rfl); have a9 := xu_114; omega)) (Nat.le_of_lt_succ hm12)) iu_114 F_116 F_117 g_118 g_119 (NR.trans (NR.trans (NR.trans hR12 (NR.eq (S := S12) (u := (uF S12 231 24 ((S12.1 231 24) + 1))) (funext fun j => uF_a) (funext fun j => uF_a) (funext fun j => uF_a) (funext fun j => uF_a) (funext fun j => uF_a))) (NR.mono xu_91.2.1 (by omega))) (NR.eq (S := u_91) (u := u_114) (funext fun j => ((fu_114 248 rfl).2.1 j).trans ((hL60_ 248 rfl).2.1 j)) (funext fun j => ((fu_114 249 rfl).2.1 j).trans ((hL60_ 249 rfl).2.1 j)) (funext fun j => ((fu_114 250 rfl).2.1 j).trans ((hL60_ 250 rfl).2.1 j)) (funext fun j => ((fu_114 251 rfl).2.1 j).trans ((hL60_ 251 rfl).2.1 j)) (funext fun j => ((fu_114 252 rfl).2.1 j).trans ((hL60_ 252 rfl).2.1 j)))) (by omega) (by omega) (fun h => absurd h (by have e9 := (show u_114.1 231 20 = u_114.1 231 20 from rfl); have a9 := xu_114; omega)) hW hL (lv_sub hl [2, 3, 4] rfl)
                · refine lv_aload_n hx hb dX12_expression_67 rfl (lv_at hl 3 rfl) ?_
                  refine g_X12_88 Cx hW (k := 231) (by decide) rfl (v := .ref (G.2.2.1 + 257)) (rd_41 hI60) dX12_expression_68 ?_
                  refine lv_iload_n hx hb dX12_expression_71 rfl (lv_at hl 4 rfl) ?_
                  refine lv_iload hx hb dX12_expression_72 (lv_at hl 0 rfl) ?_
                  refine r_iadd hx hb dX12_expression_74 ?_
                  refine lv_dup2_11 hx hb dX12_expression_75 rfl rfl ?_
                  refine rLald Cx hW (k := 257) (by decide) rfl (by decide) (by omega) (by omega) dX12_expression_76 ?_
                  have q_126 : -9223372036854775808 ≤ S60.2.2.1 257 (ix + k) ∧ S60.2.2.1 257 (ix + k) ≤ 9223372036854775807 := hI60.li 257 (ix + k)
                  refine r_j (b := S60.2.2.1 257 (ix + k)) rfl ?_
                  refine lv_aload_n hx hb dX12_expression_77 rfl (lv_at hl 3 rfl) ?_
                  refine g_X12_56 Cx hW (k := 231) (by decide) rfl (v := .ref (G.2.2.1 + 247)) (rd_18 hI60) dX12_expression_78 ?_
                  refine lv_iload_n hx hb dX12_expression_81 rfl (lv_at hl 1 rfl) ?_
                  refine rIald Cx hW (k := 247) (by decide) rfl (by decide) (by omega) (by omega) dX12_expression_82 ?_
                  have q_127 : (-2147483648) ≤ S.2.1 247 (S12.1 231 24) ∧ S.2.1 247 (S12.1 231 24) ≤ 2147483647 := hI.ai 247 (S12.1 231 24)
                  refine r_i (b := S.2.1 247 (S12.1 231 24)) (((hL60_ 247 rfl).2.1 (S12.1 231 24)).trans (((fu_91 247 rfl).2.1 (S12.1 231 24)).trans ((uF_a).trans (((hL12_ 247 rfl).2.1 (S12.1 231 24)).trans ((fu_4 247 rfl).2.1 (S12.1 231 24)))))) ?_
                  refine lv_bipush (v := iv 43) hx hb dX12_expression_83 (by decide) ?_
                  refine r_icmp_ne (tgt := 100) hx hb ⟨(by omega), (by omega)⟩ ⟨(by omega), (by omega)⟩ dX12_expression_85 (by decide) (fun c_128 => ?_) (fun c_128 => ?_)
                  · refine lv_aload_n hx hb dX12_expression_100 rfl (lv_at hl 3 rfl) ?_
                    refine g_X12_88 Cx hW (k := 231) (by decide) rfl (v := .ref (G.2.2.1 + 257)) (rd_41 hI60) dX12_expression_101 ?_
                    refine lv_iload_n hx hb dX12_expression_104 rfl (lv_at hl 2 rfl) ?_
                    refine lv_iload hx hb dX12_expression_105 (lv_at hl 0 rfl) ?_
                    refine r_iadd hx hb dX12_expression_107 ?_
                    refine rLald Cx hW (k := 257) (by decide) rfl (by decide) (by omega) (by omega) dX12_expression_108 ?_
                    have q_129 : -9223372036854775808 ≤ S60.2.2.1 257 (((ix + 12) + 1) + k) ∧ S60.2.2.1 257 (((ix + 12) + 1) + k) ≤ 9223372036854775807 := hI60.li 257 (((ix + 12) + 1) + k)
                    refine r_j (b := S60.2.2.1 257 (((ix + 12) + 1) + k)) rfl ?_
                    refine r_lneg hx hb dX12_expression_109 ?_
                    obtain ⟨z_130, ez_130, hz_130, kz_130⟩ := jv_of (jv (-(S60.2.2.1 257 (((ix + 12) + 1) + k))))
                    rw [ez_130]
                    refine r_ladd hx hb dX12_expression_110 ?_
                    obtain ⟨z_131, ez_131, hz_131, kz_131⟩ := jv_of (jv ((S60.2.2.1 257 (ix + k)) + z_130))
                    rw [ez_131]
                    refine rLast Cx hW hL (k := 257) (by decide) rfl (by decide) (by omega) (by omega) dX12_expression_111 (fun H locs hW hL => ?_)
                    have F_132 : Fr S (uL S60 257 (ix + k) z_131) (pl [231, 248, 249, 250, 251, 252, 257, 258]) := hFm60.L rfl
                    have F_133 : Fr u_4 (uL S60 257 (ix + k) z_131) (pl [231, 248, 249, 250, 251, 252, 257, 258]) := hFL1260.L rfl
                    have F_134 : Fr u_91 (uL S60 257 (ix + k) z_131) (pl [257]) := hL60_.L rfl
                    have i_135 : dX G (uL S60 257 (ix + k) z_131) := hI60.L ⟨by omega, by omega⟩
                    refine lv_iinc (v := iv (k + 1)) (lv' := [(4, .int (iv (k + 1))), (3, .int (iv (S12.1 231 24))), (2, .int (iv ((ix + 12) + 1))), (0, .ref (G.2.2.1 + 231)), (1, .int (iv ix))]) hx hb dX12_expression_112 hl (k := 0) rfl ((Int32.ofInt_add _ _).symm) (by decide) rfl (fun ls hl => ?_)
                    refine lv_goto (tgt := 60) hx hb dX12_expression_115 (by decide) ?_
                    exact ih_60 (uL S60 257 (ix + k) z_131) (k + 1) _ _ _ (by omega) i_135 F_132 F_133 F_134 hGm60 hGL1260 gL60_ (by omega) hW hL (lv_sub hl [0, 1, 2, 3, 4] rfl)
                  · refine lv_aload_n hx hb dX12_expression_88 rfl (lv_at hl 3 rfl) ?_
                    refine g_X12_88 Cx hW (k := 231) (by decide) rfl (v := .ref (G.2.2.1 + 257)) (rd_41 hI60) dX12_expression_89 ?_
                    refine lv_iload_n hx hb dX12_expression_92 rfl (lv_at hl 2 rfl) ?_
                    refine lv_iload hx hb dX12_expression_93 (lv_at hl 0 rfl) ?_
                    refine r_iadd hx hb dX12_expression_95 ?_
                    refine rLald Cx hW (k := 257) (by decide) rfl (by decide) (by omega) (by omega) dX12_expression_96 ?_
                    have q_136 : -9223372036854775808 ≤ S60.2.2.1 257 (((ix + 12) + 1) + k) ∧ S60.2.2.1 257 (((ix + 12) + 1) + k) ≤ 9223372036854775807 := hI60.li 257 (((ix + 12) + 1) + k)
                    refine r_j (b := S60.2.2.1 257 (((ix + 12) + 1) + k)) rfl ?_
                    refine lv_goto (tgt := 110) hx hb dX12_expression_97 (by decide) ?_
                    refine r_ladd hx hb dX12_expression_110 ?_
                    obtain ⟨z_137, ez_137, hz_137, kz_137⟩ := jv_of (jv ((S60.2.2.1 257 (ix + k)) + (S60.2.2.1 257 (((ix + 12) + 1) + k))))
                    rw [ez_137]
                    refine rLast Cx hW hL (k := 257) (by decide) rfl (by decide) (by omega) (by omega) dX12_expression_111 (fun H locs hW hL => ?_)
                    have F_138 : Fr S (uL S60 257 (ix + k) z_137) (pl [231, 248, 249, 250, 251, 252, 257, 258]) := hFm60.L rfl
                    have F_139 : Fr u_4 (uL S60 257 (ix + k) z_137) (pl [231, 248, 249, 250, 251, 252, 257, 258]) := hFL1260.L rfl
                    have F_140 : Fr u_91 (uL S60 257 (ix + k) z_137) (pl [257]) := hL60_.L rfl
                    have i_141 : dX G (uL S60 257 (ix + k) z_137) := hI60.L ⟨by omega, by omega⟩
                    refine lv_iinc (v := iv (k + 1)) (lv' := [(4, .int (iv (k + 1))), (3, .int (iv (S12.1 231 24))), (2, .int (iv ((ix + 12) + 1))), (0, .ref (G.2.2.1 + 231)), (1, .int (iv ix))]) hx hb dX12_expression_112 hl (k := 0) rfl ((Int32.ofInt_add _ _).symm) (by decide) rfl (fun ls hl => ?_)
                    refine lv_goto (tgt := 60) hx hb dX12_expression_115 (by decide) ?_
                    exact ih_60 (uL S60 257 (ix + k) z_137) (k + 1) _ _ _ (by omega) i_141 F_138 F_139 F_140 hGm60 hGL1260 gL60_ (by omega) hW hL (lv_sub hl [0, 1, 2, 3, 4] rfl)
            exact loop_60 (_ + 1) u_91 0 _ _ _ (Nat.lt_succ_self _) iu_91 F_93 F_94 Fr.rf g_95 g_96 FF.rf (by omega) hW hL (lv_sub hl [0, 1, 2, 3, 4] rfl)
  have q_142 : (-2147483648) ≤ u_4.1 231 25 ∧ u_4.1 231 25 ≤ 2147483647 := iu_4.fi 25
  have q_143 : (-2147483648) ≤ u_4.1 231 24 ∧ u_4.1 231 24 ≤ 2147483647 := iu_4.fi 24
  have q_144 : (-2147483648) ≤ u_4.1 231 20 ∧ u_4.1 231 20 ≤ 2147483647 := iu_4.fi 20
  exact loop_12 (_ + 1) u_4  _ _ _ (Nat.lt_succ_self _) iu_4 F_6 Fr.rf g_7 FF.rf xu_4.2.1 (by omega) (by omega) (fun h => by have a9 := xu_4.2.2.2 h; exact ⟨nu_4 h, a9.2.2.1, (by rw [a9.2.1]; exact ht a9.1), a9.1, a9.2.2.2⟩) hW hL (lv_sub hl [0, 1, 2] rfl)

theorem ex_all (l : Launch) (G : sG) (K V Fm Wd : Int → Int) (T : Int) (hQ : gQ K V Fm Wd T) : ∀ N : Nat, FtC l G (4 * N + 11) K V Fm Wd T N ∧ PdC l G (4 * N + 12) K V Fm Wd T N ∧ EpC l G (4 * N + 13) K V Fm Wd T N := by
  have fin : ∀ N : Nat, FtC l G (4 * N + 11) K V Fm Wd T N → FtC l G (4 * N + 11) K V Fm Wd T N ∧ PdC l G (4 * N + 12) K V Fm Wd T N ∧ EpC l G (4 * N + 13) K V Fm Wd T N := fun N hF =>
    have hP : PdC l G (4 * N + 12) K V Fm Wd T N := fun S pz q ix hI hK hV hFm hWd hc hpq hg hn h3 hx => s_X12_product l G S hI hK hV hFm hWd hQ (d1 := 4 * N + 11) (by omega) (by omega) hF hc hpq hg hn h3 hx
    ⟨hF, hP, fun S pz q ix hI hK hV hFm hWd hc hpq hg hn h3 hx => s_X12_expression l G S hI hK hV hFm hWd hQ (d1 := 4 * N + 12) (by omega) (by omega) hP hc hpq hg hn h3 hx⟩
  intro N
  induction N with
  | zero => exact fin 0 (fun S pz q ix hI hK hV hFm hWd hc hpq hg hn h3 hx => s_X12_factor l G S hI hK hV hFm hWd hQ (dm := 10) (d1 := 0) (d2 := 0) (by omega) (by omega) (by omega) (by omega) (fun n h => absurd h (by omega)) (fun n h => absurd h (by omega)) hc hpq hg hn h3 hx)
  | succ N ih => exact fin (N + 1) (fun S pz q ix hI hK hV hFm hWd hc hpq hg hn h3 hx => s_X12_factor l G S hI hK hV hFm hWd hQ (dm := 4 * N + 14) (d1 := 4 * N + 11) (d2 := 4 * N + 13) (by omega) (by omega) (by omega) (by omega) (fun n h => by cases h; exact ih.1) (fun n h => by cases h; exact ih.2.2) hc hpq hg hn h3 hx)
