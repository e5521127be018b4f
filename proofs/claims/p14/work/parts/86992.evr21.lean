section EIR
variable {k v : Int → Int} {N : sN} {p s : Int}
theorem eI_n (c : k p = 3) : eI k v N p = some (v p, p + 1) := by unfold eI; rw [if_pos c]
theorem eI_x (c : k p ≠ 3) (e : s = eFind N (v p)) (h : ¬ (0 ≤ s ∧ N.2.2.1 s 0 = 2)) : eI k v N p = none := by unfold eI; rw [if_neg c, ← e, if_neg h]
theorem eI_p (c : k p ≠ 3) (e : s = eFind N (v p)) (h0 : 0 ≤ s) (h : N.2.2.1 s 0 = 2) (d : k (p + 1) = 21) : eI k v N p = some (N.2.2.1 s 1 + v (p + 1 + 1), p + 1 + 1 + 1) := by unfold eI; rw [if_neg c, ← e, if_pos ⟨h0, h⟩, if_pos d]
theorem eI_m (c : k p ≠ 3) (e : s = eFind N (v p)) (h0 : 0 ≤ s) (h : N.2.2.1 s 0 = 2) (d : k (p + 1) = 22) : eI k v N p = some (N.2.2.1 s 1 - v (p + 1 + 1), p + 1 + 1 + 1) := by unfold eI; rw [if_neg c, ← e, if_pos ⟨h0, h⟩, if_neg (by omega), if_pos d]
theorem eI_0 (c : k p ≠ 3) (e : s = eFind N (v p)) (h0 : 0 ≤ s) (h : N.2.2.1 s 0 = 2) (d : k (p + 1) ≠ 21) (d2 : k (p + 1) ≠ 22) : eI k v N p = some (N.2.2.1 s 1, p + 1) := by unfold eI; rw [if_neg c, ← e, if_pos ⟨h0, h⟩, if_neg d, if_neg d2]
end EIR
/-- a par or var with its items: how many there are, which -/
def eN3 (N : sN) (s im a0 a1 q lk : Int) : Option sR := if im = 0 then (if N.2.2.1 s 3 < 0 then some (q, eV N s 0, lk) else none) else if im = 1 then (if 0 ≤ N.2.2.1 s 3 ∧ N.2.2.1 s 4 < 0 ∧ inS N (N.2.2.1 s 3) a0 then some (q, eV N s (a0 - N.2.2.1 (N.2.2.1 s 3) 1), lk) else none) else (if 0 ≤ N.2.2.1 s 3 ∧ 0 ≤ N.2.2.1 s 4 ∧ inS N (N.2.2.1 s 3) a0 ∧ inS N (N.2.2.1 s 4) a1 then some (q, eV N s ((a0 - N.2.2.1 (N.2.2.1 s 3) 1) * siz N (N.2.2.1 s 4) + (a1 - N.2.2.1 (N.2.2.1 s 4) 1)), lk) else none)
def wnt (N : sN) (s dm : Int) : Prop := (dm = 2 ∧ 0 ≤ N.2.2.1 s 3 ∧ 0 ≤ N.2.2.1 s 4) ∨ (dm = 1 ∧ 0 ≤ N.2.2.1 s 3 ∧ N.2.2.1 s 4 < 0) ∨ (dm = 0 ∧ N.2.2.1 s 3 < 0 ∧ N.2.2.1 s 4 < 0)
def LP3 (N : sN) (s a0 a1 i pl : Int) : Prop := (i = 0 ∧ pl = 0) ∨ (i = 1 ∧ inS N (N.2.2.1 s 3) a0 ∧ pl = a0 - N.2.2.1 (N.2.2.1 s 3) 1) ∨ (i = 2 ∧ inS N (N.2.2.1 s 3) a0 ∧ inS N (N.2.2.1 s 4) a1 ∧ pl = (a0 - N.2.2.1 (N.2.2.1 s 3) 1) * siz N (N.2.2.1 s 4) + (a1 - N.2.2.1 (N.2.2.1 s 4) 1))
theorem eN3_w {N : sN} {s im dm a0 a1 q lk : Int} (h : wnt N s dm) (hi : 0 ≤ im ∧ im ≤ 2) (ne : im ≠ dm) : eN3 N s im a0 a1 q lk = none := by
  unfold eN3
  by_cases c : im = 0
  · rw [if_pos c]; exact if_neg (by rcases h with z | z | z <;> omega)
  · rw [if_neg c]
    by_cases d : im = 1
    · rw [if_pos d]; exact if_neg (fun y => by have y1 := y.1; have y2 := y.2.1; rcases h with z | z | z <;> omega)
    · rw [if_neg d]; exact if_neg (fun y => by have y1 := y.1; have y2 := y.2.1; rcases h with z | z | z <;> omega)
theorem eN3_0 {N : sN} {s dm a0 a1 q lk : Int} (h : wnt N s dm) (h1 : 1 ≤ dm) (ne : ¬ inS N (N.2.2.1 s 3) a0) : eN3 N s dm a0 a1 q lk = none := by
  unfold eN3; rw [if_neg (by omega)]
  by_cases d : dm = 1
  · rw [if_pos d]; exact if_neg (fun y => ne y.2.2)
  · rw [if_neg d]; exact if_neg (fun y => ne y.2.2.1)
theorem eN3_1 {N : sN} {s dm a0 a1 q lk : Int} (h1 : dm = 2) (ne : ¬ inS N (N.2.2.1 s 4) a1) : eN3 N s dm a0 a1 q lk = none := by
  unfold eN3; rw [if_neg (by omega), if_neg (by omega)]; exact if_neg (fun y => ne y.2.2.2)
theorem eN3_y {N : sN} {s dm a0 a1 q lk pl : Int} (h : wnt N s dm) (l : LP3 N s a0 a1 dm pl) : eN3 N s dm a0 a1 q lk = some (q, eV N s pl, lk) ∧ (0 ≤ pl ∧ pl < siz N (N.2.2.1 s 3) * siz N (N.2.2.1 s 4)) := by
  unfold eN3
  rcases l with z | z | z
  · have w3 : N.2.2.1 s 3 < 0 ∧ N.2.2.1 s 4 < 0 := by rcases h with y | y | y <;> omega
    rw [if_pos z.1, if_pos w3.1, z.2]; exact ⟨rfl, ho_0 w3.1 w3.2⟩
  · have w3 : 0 ≤ N.2.2.1 s 3 ∧ N.2.2.1 s 4 < 0 := by rcases h with y | y | y <;> omega
    rw [if_neg (by omega), if_pos z.1, if_pos ⟨w3.1, w3.2, z.2.1⟩, ← z.2.2]; exact ⟨rfl, ho_1 w3.1 w3.2 z.2.1 z.2.2⟩
  · have w3 : 0 ≤ N.2.2.1 s 3 ∧ 0 ≤ N.2.2.1 s 4 := by rcases h with y | y | y <;> omega
    rw [if_neg (by omega), if_neg (by omega), if_pos ⟨w3.1, w3.2, z.2.1, z.2.2.1⟩, ← z.2.2.2]; exact ⟨rfl, ho_2 w3.1 w3.2 z.2.1 z.2.2.1 z.2.2.2⟩
section EN3
variable {k v : Int → Int} {N : sN} {lk p s a qa b qb q a1 : Int}
theorem eN_a (e : eFind N (v p) = s) (hs : 0 ≤ s) (h : N.2.2.1 s 0 = 7 ∨ N.2.2.1 s 0 = 8) (hk : k (p + 1) ≠ 17) (hq : q = p + 1) : eN k v N lk p = eN3 N s 0 a a1 q lk := by
  rw [eN_1 e hs h hk, hq]; unfold eN3; rw [if_pos (show (0 : Int) = 0 from rfl)]
theorem eN_b (e : eFind N (v p) = s) (hs : 0 ≤ s) (h : N.2.2.1 s 0 = 7 ∨ N.2.2.1 s 0 = 8) (hk : k (p + 1) = 17) (ha : eI k v N (p + 1 + 1) = some (a, qa)) (hq : k qa ≠ 16) (hq2 : q = qa + 1) : eN k v N lk p = eN3 N s 1 a a1 q lk := by
  rw [eN_3 e hs h hk ha hq, hq2]; unfold eN3; rw [if_neg (show ¬ ((1 : Int) = 0) by decide), if_pos (show (1 : Int) = 1 from rfl)]
theorem eN_c (e : eFind N (v p) = s) (hs : 0 ≤ s) (h : N.2.2.1 s 0 = 7 ∨ N.2.2.1 s 0 = 8) (hk : k (p + 1) = 17) (ha : eI k v N (p + 1 + 1) = some (a, qa)) (hq : k qa = 16) (hb : eI k v N (qa + 1) = some (b, qb)) (hq2 : q = qb + 1) : eN k v N lk p = eN3 N s 2 a b q lk := by
  rw [eN_5 e hs h hk ha hq hb, hq2]; unfold eN3; rw [if_neg (show ¬ ((2 : Int) = 0) by decide), if_neg (show ¬ ((2 : Int) = 1) by decide)]
theorem eN_z (e : eFind N (v p) = s) (h : ¬ ((0 ≤ s ∧ N.2.2.1 s 0 = 2 ∧ k (p + 1) ≠ 17) ∨ (0 ≤ s ∧ (N.2.2.1 s 0 = 7 ∨ N.2.2.1 s 0 = 8)))) : eN k v N lk p = none := by
  unfold eN; rw [e]
  by_cases c : 0 ≤ s ∧ N.2.2.1 s 0 = 2
  · rw [if_pos c]
    by_cases d : k (p + 1) = 17
    · rw [if_pos d]
    · exact absurd (.inl ⟨c.1, c.2, d⟩) h
  · rw [if_neg c, if_neg (fun z => h (.inr z))]
end EN3
/-- what an F, T or E of the reference leaves -/
def EOr (S u : sS) (N : sN) (k v : Int → Int) (q : Int) (X : Option sR) (ix : Int) : Prop := Hd (∀ j, j < ix → u.2.2.1 257 j = S.2.2.1 257 j) ∧ Hd (u.1 231 20 = 0 → ∃ V, X = some (q, V, u.1 231 42) ∧ veq (fvr u ix) V ∧ vb9 V ∧ (0 ≤ u.1 231 42 ∧ u.1 231 42 ≤ 20000) ∧ u.1 231 24 = q ∧ NRr N k v u) ∧ Hd (u.1 231 20 ≠ 0 → X = none)
theorem fvr_of {S u : sS} {ix : Int} {V : Int → Int} (h : veq (fvr S ix) V) (e : u.2.2.1 257 = S.2.2.1 257) : veq (fvr u ix) V := fun j a b => by unfold fvr; rw [e]; exact h j a b
theorem fvr_1 {S : sS} {ix i : Int} (h : veq (fvr S ix) (cst 0)) (h1 : 1 ≤ i) : veq (fvr (uL S 257 (ix + i) 1) ix) (unt i) := fun j a b => by
  show (uL S 257 (ix + i) 1).2.2.1 257 (ix + j) = unt i j
  by_cases c : j = i
  · rw [c, uL_on]; exact (if_pos rfl).symm
  · rw [uL_ne (fun z => c (by have := z.2; omega))]; exact (h j a b).trans (by unfold cst unt; rw [if_neg c]; split <;> rfl)
set_option maxRecDepth 100000 in
set_option maxHeartbeats 4000000 in
theorem e_X12_index (l : Launch) (G : sG) (S : sS) {N : sN} {k v : Int → Int} {T pz q : Int} (hI : dX G S) (hkr : Hd (KRr S k v T)) (hNr : Hd (NRr N k v S)) (hK_ : Hd (NK N)) (hTV : Hd (TVn k v)) (hf0 : S.1 231 20 = 0) (hc : S.1 231 24 = pz) (hgx : Hd (ogX k pz = some q)) (hpq : 0 ≤ pz ∧ q ≤ T - 1) (h43 : 0 ≤ S.1 231 43 ∧ S.1 231 43 ≤ 1) : Met l yX12_index (.code yX12_index cX12_index 3 none :: tb) (rmk 2 0 0) (sPc G 294 S [.ref (G.2.2.1 + 231)]) (sQv G 294 (fun u => dX G u ∧ Fr S u (pl [231, 258]) ∧ FF S u (fl [20, 21, 24, 43]) ∧ ((pz ≤ u.1 231 24 ∧ u.1 231 24 ≤ q) ∧ Hd (u.1 231 20 ≠ 0 → eI k v N pz = none) ∧ Hd (u.1 231 20 = 0 → eI k v N pz = some (u.2.1 258 (S.1 231 43), q) ∧ u.1 231 24 = q ∧ u.1 231 43 = S.1 231 43 + 1 ∧ ∀ x, x ≠ S.1 231 43 → u.2.1 258 x = S.2.1 258 x)))) 0 0 (sF G) := by
  refine sEnter (by decide) (Nat.le_of_ble_eq_true rfl) ?_
  intro p e s m args below meth c Cx hr hlk hnm hW ls hl
  have Cx : sC G p m c cX12_index 3 s args RX12 := Cx
  obtain ⟨hx, hb, hml, hown, hts⟩ := id Cx.1
  have hL : sL G [] := sL_nil
  have hl : lv_has ls 3 [(0, .ref (G.2.2.1 + 231))] := hl
  have hW0 := hW
  obtain ⟨K, hK⟩ : ∃ z, S.2.1 244 = z := ⟨_, rfl⟩
  obtain ⟨V, hV⟩ : ∃ z, S.2.1 247 = z := ⟨_, rfl⟩
  obtain ⟨Fm, hFm⟩ : ∃ z, S.2.1 245 = z := ⟨_, rfl⟩
  obtain ⟨Wd, hWd⟩ : ∃ z, S.2.1 246 = z := ⟨_, rfl⟩
  have hkk : kr K V T = k := (by rw [← hK, ← hV]; exact hkr.1)
  have hTb := hkr.2.1
  have hN1 := hNr.1
  have hlt := ogX_inc _ _ hgx
  refine lv_aload_n hx hb dX12_index_0 rfl (lv_at hl 0 rfl) ?_
  have q_1 : (-2147483648) ≤ S.1 231 20 ∧ S.1 231 20 ≤ 2147483647 := hI.fi 20
  refine g_X12_270 Cx hW (k := 231) (by decide) rfl (v := S.1 231 20) rfl dX12_index_1 ?_
  refine r_if_eq (tgt := 8) hx hb ⟨(by omega), (by omega)⟩ dX12_index_4 (by decide) (fun _ => ?_) (fun c => absurd (by omega) c)
  refine lv_aload_n hx hb dX12_index_8 rfl (lv_at hl 0 rfl) ?_
  refine g_X12_47 Cx hW (k := 231) (by decide) rfl (v := .ref (G.2.2.1 + 244)) (rd_15 hI) dX12_index_9 ?_
  refine lv_aload_n hx hb dX12_index_12 rfl (lv_at hl 0 rfl) ?_
  have q_2 : (-2147483648) ≤ S.1 231 24 ∧ S.1 231 24 ≤ 2147483647 := hI.fi 24
  refine g_X12_315 Cx hW (k := 231) (by decide) rfl (v := S.1 231 24) rfl dX12_index_13 ?_
  refine rIald Cx hW (k := 244) (by decide) rfl (by decide) (by omega) (by omega) dX12_index_16 ?_
  have q_3 : (-2147483648) ≤ S.2.1 244 (S.1 231 24) ∧ S.2.1 244 (S.1 231 24) ≤ 2147483647 := hI.ai 244 (S.1 231 24)
  refine r_i (b := S.2.1 244 (S.1 231 24)) rfl ?_
  have hr1 : K pz = S.2.1 244 (S.1 231 24) := by rw [← hK, ← hc]
  refine lv_iconst (v := iv 2) hx hb dX12_index_17 (by decide) ?_
  refine r_icmp_ne (tgt := 44) hx hb ⟨(by omega), (by omega)⟩ ⟨(by omega), (by omega)⟩ dX12_index_18 (by decide) (fun c_4 => ?_) (fun c_4 => ?_)
  · have k3 : k pz ≠ 3 := (fun z => absurd ((kn_2 K V T pz).2 (by rw [hkk]; exact z)) (by omega))
    obtain ⟨k2, hg2⟩ : k pz = 2 ∧ Hd ((k (pz + 1) = 21 ∨ k (pz + 1) = 22) ∧ k (pz + 1 + 1) = 3 ∧ q = pz + 1 + 1 + 1 ∨ (¬ (k (pz + 1) = 21 ∨ k (pz + 1) = 22)) ∧ q = pz + 1) := (by rcases ogX_i hgx with z | z; (exact absurd z.1 k3); (exact ⟨z.1, z.2⟩))
    refine lv_aload_n hx hb dX12_index_44 rfl (lv_at hl 0 rfl) ?_
    refine lv_aload_n hx hb dX12_index_45 rfl (lv_at hl 0 rfl) ?_
    refine g_X12_315 Cx hW (k := 231) (by decide) rfl (v := S.1 231 24) rfl dX12_index_46 ?_
    have q_5 : (-2147483648) ≤ S.1 231 25 ∧ S.1 231 25 ≤ 2147483647 := hI.fi 25
    refine sBi (sV (As := [.int (iv (S.1 231 24))]) (rest := []) (k := 231) Cx (e_X12_find l G S (tk := S.1 231 24) hI hkr hNr hK_ (by rw [hc]; exact k2)) (c_X12_361 Cx rfl rfl (rmk_ok (by omega) (by decide))) hW (by decide) rfl rfl rfl hl.1 rfl (Nat.le_of_ble_eq_true rfl) dX12_index_49 ⟨Nat.le_of_ble_eq_true rfl, Nat.le_of_ble_eq_true rfl⟩) hL (fun r_8 u_6 H locs k_7 hW hL => ?_)
    obtain ⟨eu_6, xu_6⟩ := k_7
    rw [eu_6] at hW
    have fe : r_8 = eFind N (v pz) := (by rw [← hc]; exact xu_6.2)
    refine lv_istore_n (lv' := [(2, .int (iv r_8)), (0, .ref (G.2.2.1 + 231))]) hx hb dX12_index_52 rfl hl (by decide) rfl (fun ls hl => ?_)
    refine lv_iload_n hx hb dX12_index_53 rfl (lv_at hl 0 rfl) ?_
    refine lv_iconst (v := iv (-1)) hx hb dX12_index_54 (by decide) ?_
    refine r_icmp_eq (tgt := 68) hx hb ⟨(by omega), (by omega)⟩ ⟨(by omega), (by omega)⟩ dX12_index_55 (by decide) (fun c_9 => ?_) (fun c_9 => ?_)
    · refine lv_aload_n hx hb dX12_index_68 rfl (lv_at hl 1 rfl) ?_
      refine lv_iconst (v := iv 2) hx hb dX12_index_69 (by decide) ?_
      refine lv_aload_n hx hb dX12_index_70 rfl (lv_at hl 1 rfl) ?_
      refine g_X12_315 Cx hW (k := 231) (by decide) rfl (v := S.1 231 24) rfl dX12_index_71 ?_
      refine sBv (sV (As := [.int (iv 2), .int (iv (S.1 231 24))]) (rest := []) (k := 231) Cx (s_X12_wrong l G S (cd := 2) (tk := S.1 231 24) hI (by omega) (by omega)) (c_X12_321 Cx rfl rfl (rmk_ok (by omega) (by decide))) hW (by decide) rfl rfl rfl hl.1 rfl (Nat.le_of_ble_eq_true rfl) dX12_index_74 ⟨Nat.le_of_ble_eq_true rfl, Nat.le_of_ble_eq_true rfl⟩) hL (fun u_10 H locs k_11 hW hL => ?_)
      obtain ⟨iu_10, fu_10, gu_10, xu_10⟩ := k_11
      have F_12 := (Fr.rf : Fr S S (pl [231, 258])).trans (fu_10.to (pl_sub (by decide)))
      have g_13 : FF S u_10 (fl [20, 21, 24, 43]) := FF.trans FF.rf (FF.to gu_10 (fl_sub (by decide)))
      have lk_14 : u_10.1 231 24 = S.1 231 24 := gu_10 24 rfl
      have q_15 : (-2147483648) ≤ u_10.1 231 20 ∧ u_10.1 231 20 ≤ 2147483647 := iu_10.fi 20
      have q_16 : (-2147483648) ≤ S.1 231 43 ∧ S.1 231 43 ≤ 2147483647 := hI.fi 43
      have lk_17 : u_10.1 231 43 = S.1 231 43 := gu_10 43 rfl
      exact sVret Cx hr hlk hW hL ⟨iu_10, F_12, g_13, ⟨(by have e7 := (show u_10.1 231 24 = S.1 231 24 from gu_10 24 rfl); omega), (fun _ => eI_x k3 fe (fun z => by have fq := xu_6.1; have c1 := (cs_i (hNr.2.2 r_8 z.1 (by omega)).1).2.2.2.1; have z2 := z.2; omega)), (fun h => absurd h (by have e9 := (show u_10.1 231 20 = u_10.1 231 20 from rfl); have a9 := xu_10; omega))⟩⟩ dX12_index_77
    · refine lv_aload_n hx hb dX12_index_58 rfl (lv_at hl 1 rfl) ?_
      refine g_X12_62 Cx hW (k := 231) (by decide) rfl (v := .ref (G.2.2.1 + 249)) (rd_27 hI) dX12_index_59 ?_
      refine lv_iload_n hx hb dX12_index_62 rfl (lv_at hl 0 rfl) ?_
      refine rIald Cx hW (k := 249) (by decide) rfl (by decide) (by omega) (by omega) dX12_index_63 ?_
      have q_18 : (-2147483648) ≤ S.2.1 249 r_8 ∧ S.2.1 249 r_8 ≤ 2147483647 := hI.ai 249 r_8
      refine r_i (b := S.2.1 249 r_8) rfl ?_
      refine lv_iconst (v := iv 5) hx hb dX12_index_64 (by decide) ?_
      refine r_icmp_eq (tgt := 78) hx hb ⟨(by omega), (by omega)⟩ ⟨(by omega), (by omega)⟩ dX12_index_65 (by decide) (fun c_19 => ?_) (fun c_19 => ?_)
      · have fq := xu_6.1
        have n2 := hNr.2.2 r_8 (by omega) (by omega)
        have n5 : N.2.2.1 r_8 0 = 2 := (cs_i n2.1).2.2.2.1.mp (by omega)
        have n1 := n2.2.2.1 n5
        have nb := (hK_.2 r_8 (by omega) (by omega)).1 n5
        refine lv_aload_n hx hb dX12_index_78 rfl (lv_at hl 1 rfl) ?_
        refine g_X12_71 Cx hW (k := 231) (by decide) rfl (v := .ref (G.2.2.1 + 252)) (rd_30 hI) dX12_index_79 ?_
        refine lv_iload_n hx hb dX12_index_82 rfl (lv_at hl 0 rfl) ?_
        refine rIald Cx hW (k := 252) (by decide) rfl (by decide) (by omega) (by omega) dX12_index_83 ?_
        have q_20 : (-2147483648) ≤ S.2.1 252 r_8 ∧ S.2.1 252 r_8 ≤ 2147483647 := hI.ai 252 r_8
        refine r_i (b := S.2.1 252 r_8) rfl ?_
        refine lv_istore_n (lv' := [(1, .int (iv (S.2.1 252 r_8))), (2, .int (iv r_8)), (0, .ref (G.2.2.1 + 231))]) hx hb dX12_index_84 rfl hl (by decide) rfl (fun ls hl => ?_)
        refine lv_aload_n hx hb dX12_index_85 rfl (lv_at hl 2 rfl) ?_
        refine lv_dup hx hb dX12_index_86 rfl ?_
        refine g_X12_315 Cx hW (k := 231) (by decide) rfl (v := S.1 231 24) rfl dX12_index_87 ?_
        refine lv_iconst (v := iv 1) hx hb dX12_index_90 (by decide) ?_
        refine r_iadd hx hb dX12_index_91 ?_
        refine p_X12_315 Cx hW hL (k := 231) (by decide) rfl dX12_index_92 (fun H locs hW hL => ?_)
        have F_21 : Fr S (uF S 231 24 ((S.1 231 24) + 1)) (pl [231, 258]) := (Fr.rf : Fr S S (pl [231, 258])).F rfl
        have g_22 : FF S (uF S 231 24 ((S.1 231 24) + 1)) (fl [20, 21, 24, 43]) := FF.F FF.rf rfl
        have i_23 : dX G (uF S 231 24 ((S.1 231 24) + 1)) := hI.F (i := 24) (show (-2147483648) ≤ (S.1 231 24) + 1 ∧ (S.1 231 24) + 1 ≤ 2147483647 from ⟨by omega, by omega⟩)
        refine lv_aload_n hx hb dX12_index_95 rfl (lv_at hl 2 rfl) ?_
        refine lv_bipush (v := iv 43) hx hb dX12_index_96 (by decide) ?_
        have lk_24 : (uF S 231 24 ((S.1 231 24) + 1)).1 231 24 = (S.1 231 24) + 1 := uF_on
        refine sBi (sV (As := [.int (iv 43)]) (rest := []) (k := 231) Cx (s_X12_isSign l G (uF S 231 24 ((S.1 231 24) + 1)) (sv := 43) (K := K) (V := V) (pz := (pz) + 1) i_23 (by omega) ((funext fun j => uF_a : (uF S 231 24 ((S.1 231 24) + 1)).2.1 244 = S.2.1 244).trans hK) ((funext fun j => uF_a : (uF S 231 24 ((S.1 231 24) + 1)).2.1 247 = S.2.1 247).trans hV) (by omega) (by omega)) (c_X12_318 Cx rfl rfl (rmk_ok (by omega) (by decide))) hW (by decide) rfl rfl rfl hl.1 rfl (Nat.le_of_ble_eq_true rfl) dX12_index_98 ⟨Nat.le_of_ble_eq_true rfl, Nat.le_of_ble_eq_true rfl⟩) hL (fun r_27 u_25 H locs k_26 hW hL => ?_)
        obtain ⟨eu_25, xu_25⟩ := k_26
        rw [eu_25] at hW
        have tu_25a : Hd (r_27 = 1 → k ((pz) + 1) = 21) := (fun h => by rw [← hkk]; exact (osg_43 K V T _).1 (by omega) (by omega) (xu_25.2.1 h))
        have tu_25b : Hd (r_27 ≠ 1 → k ((pz) + 1) ≠ 21) := (fun h z => xu_25.2.2 h ((osg_43 K V T _).2 (by rw [hkk]; exact z)))
        refine r_if_ne (tgt := 113) hx hb ⟨(by omega), (by omega)⟩ dX12_index_101 (by decide) (fun c_28 => ?_) (fun c_28 => ?_)
        · obtain ⟨k33, hq9⟩ : k (pz + 1 + 1) = 3 ∧ q = pz + 1 + 1 + 1 := (by rcases hg2 with z | z; (exact z.2); (exact absurd (.inl (tu_25a (by omega))) z.1))
          have nv9 := hTV _ k33; have nw9 := hkr.2.2.2.1 _ k33
          refine lv_iload_n hx hb dX12_index_113 rfl (lv_at hl 0 rfl) ?_
          refine lv_aload_n hx hb dX12_index_114 rfl (lv_at hl 2 rfl) ?_
          refine lv_bipush (v := iv 43) hx hb dX12_index_115 (by decide) ?_
          refine sBi (sV (As := [.int (iv 43)]) (rest := [.int (iv (S.2.1 252 r_8))]) (k := 231) Cx (s_X12_isSign l G (uF S 231 24 ((S.1 231 24) + 1)) (sv := 43) (K := K) (V := V) (pz := (pz) + 1) i_23 (by omega) ((funext fun j => uF_a : (uF S 231 24 ((S.1 231 24) + 1)).2.1 244 = S.2.1 244).trans hK) ((funext fun j => uF_a : (uF S 231 24 ((S.1 231 24) + 1)).2.1 247 = S.2.1 247).trans hV) (by omega) (by omega)) (c_X12_318 Cx rfl rfl (rmk_ok (by omega) (by decide))) hW (by decide) rfl rfl rfl hl.1 rfl (Nat.le_of_ble_eq_true rfl) dX12_index_117 ⟨Nat.le_of_ble_eq_true rfl, Nat.le_of_ble_eq_true rfl⟩) hL (fun r_31 u_29 H locs k_30 hW hL => ?_)
          obtain ⟨eu_29, xu_29⟩ := k_30
          rw [eu_29] at hW
          have tu_29a : Hd (r_31 = 1 → k ((pz) + 1) = 21) := (fun h => by rw [← hkk]; exact (osg_43 K V T _).1 (by omega) (by omega) (xu_29.2.1 h))
          have tu_29b : Hd (r_31 ≠ 1 → k ((pz) + 1) ≠ 21) := (fun h z => xu_29.2.2 h ((osg_43 K V T _).2 (by rw [hkk]; exact z)))
          refine r_if_eq (tgt := 137) hx hb ⟨(by omega), (by omega)⟩ dX12_index_120 (by decide) (fun c_32 => ?_) (fun c_32 => ?_)
          · refine lv_aload_n hx hb dX12_index_137 rfl (lv_at hl 2 rfl) ?_
            refine g_X12_56 Cx hW (k := 231) (by decide) rfl (v := .ref (G.2.2.1 + 247)) (rd_18 i_23) dX12_index_138 ?_
            refine lv_aload_n hx hb dX12_index_141 rfl (lv_at hl 2 rfl) ?_
            refine g_X12_315 Cx hW (k := 231) (by decide) rfl (v := (S.1 231 24) + 1) uF_on dX12_index_142 ?_
            refine lv_iconst (v := iv 1) hx hb dX12_index_145 (by decide) ?_
            refine r_iadd hx hb dX12_index_146 ?_
            refine rIald Cx hW (k := 247) (by decide) rfl (by decide) (by omega) (by omega) dX12_index_147 ?_
            have q_33 : (-2147483648) ≤ S.2.1 247 (((S.1 231 24) + 1) + 1) ∧ S.2.1 247 (((S.1 231 24) + 1) + 1) ≤ 2147483647 := hI.ai 247 (((S.1 231 24) + 1) + 1)
            refine r_i (b := S.2.1 247 (((S.1 231 24) + 1) + 1)) uF_a ?_
            have nx9 : S.2.1 247 (((S.1 231 24) + 1) + 1) = v (pz + 1 + 1) := (by rw [nw9]; exact congrArg (S.2.1 247) (by omega))
            refine r_ineg hx hb dX12_index_148 ?_
            refine r_iadd hx hb dX12_index_149 ?_
            refine lv_istore_n (lv' := [(1, .int (iv ((S.2.1 252 r_8) + (-(S.2.1 247 (((S.1 231 24) + 1) + 1)))))), (2, .int (iv r_8)), (0, .ref (G.2.2.1 + 231))]) hx hb dX12_index_150 rfl hl (by decide) rfl (fun ls hl => ?_)
            refine lv_aload_n hx hb dX12_index_151 rfl (lv_at hl 2 rfl) ?_
            refine lv_dup hx hb dX12_index_152 rfl ?_
            refine g_X12_315 Cx hW (k := 231) (by decide) rfl (v := (S.1 231 24) + 1) uF_on dX12_index_153 ?_
            refine lv_iconst (v := iv 2) hx hb dX12_index_156 (by decide) ?_
            refine r_iadd hx hb dX12_index_157 ?_
            refine p_X12_315 Cx hW hL (k := 231) (by decide) rfl dX12_index_158 (fun H locs hW hL => ?_)
            have F_34 : Fr S (uF (uF S 231 24 ((S.1 231 24) + 1)) 231 24 (((S.1 231 24) + 1) + 2)) (pl [231, 258]) := F_21.F rfl
            have g_35 : FF S (uF (uF S 231 24 ((S.1 231 24) + 1)) 231 24 (((S.1 231 24) + 1) + 2)) (fl [20, 21, 24, 43]) := FF.F g_22 rfl
            have i_36 : dX G (uF (uF S 231 24 ((S.1 231 24) + 1)) 231 24 (((S.1 231 24) + 1) + 2)) := i_23.F (i := 24) (show (-2147483648) ≤ ((S.1 231 24) + 1) + 2 ∧ ((S.1 231 24) + 1) + 2 ≤ 2147483647 from ⟨by omega, by omega⟩)
            refine lv_aload_n hx hb dX12_index_161 rfl (lv_at hl 2 rfl) ?_
            refine g_X12_91 Cx hW (k := 231) (by decide) rfl (v := .ref (G.2.2.1 + 258)) (rd_44 i_36) dX12_index_162 ?_
            refine lv_aload_n hx hb dX12_index_165 rfl (lv_at hl 2 rfl) ?_
            have q_37 : (-2147483648) ≤ S.1 231 43 ∧ S.1 231 43 ≤ 2147483647 := hI.fi 43
            refine g_X12_441 Cx hW (k := 231) (by decide) rfl (v := S.1 231 43) ((uF_ne (fun h => absurd h.2 (by decide))).trans (uF_ne (fun h => absurd h.2 (by decide)))) dX12_index_166 ?_
            refine lv_iload_n hx hb dX12_index_169 rfl (lv_at hl 0 rfl) ?_
            refine rIast Cx hW hL (k := 258) (by decide) rfl (by decide) (by omega) (by omega) dX12_index_170 (fun H locs hW hL => ?_)
            have F_38 : Fr S (uA (uF (uF S 231 24 ((S.1 231 24) + 1)) 231 24 (((S.1 231 24) + 1) + 2)) 258 (S.1 231 43) ((S.2.1 252 r_8) + (-(S.2.1 247 (((S.1 231 24) + 1) + 1))))) (pl [231, 258]) := F_34.A rfl
            have i_39 : dX G (uA (uF (uF S 231 24 ((S.1 231 24) + 1)) 231 24 (((S.1 231 24) + 1) + 2)) 258 (S.1 231 43) ((S.2.1 252 r_8) + (-(S.2.1 247 (((S.1 231 24) + 1) + 1))))) := i_36.A (k := 258) (show (-2147483648) ≤ (S.2.1 252 r_8) + (-(S.2.1 247 (((S.1 231 24) + 1) + 1))) ∧ (S.2.1 252 r_8) + (-(S.2.1 247 (((S.1 231 24) + 1) + 1))) ≤ 2147483647 from ⟨by omega, by omega⟩)
            refine lv_aload_n hx hb dX12_index_171 rfl (lv_at hl 2 rfl) ?_
            refine lv_dup hx hb dX12_index_172 rfl ?_
            refine g_X12_441 Cx hW (k := 231) (by decide) rfl (v := S.1 231 43) ((uA_f).trans ((uF_ne (fun h => absurd h.2 (by decide))).trans (uF_ne (fun h => absurd h.2 (by decide))))) dX12_index_173 ?_
            refine lv_iconst (v := iv 1) hx hb dX12_index_176 (by decide) ?_
            refine r_iadd hx hb dX12_index_177 ?_
            refine p_X12_441 Cx hW hL (k := 231) (by decide) rfl dX12_index_178 (fun H locs hW hL => ?_)
            have F_40 : Fr S (uF (uA (uF (uF S 231 24 ((S.1 231 24) + 1)) 231 24 (((S.1 231 24) + 1) + 2)) 258 (S.1 231 43) ((S.2.1 252 r_8) + (-(S.2.1 247 (((S.1 231 24) + 1) + 1))))) 231 43 ((S.1 231 43) + 1)) (pl [231, 258]) := F_38.F rfl
            have g_41 : FF S (uF (uA (uF (uF S 231 24 ((S.1 231 24) + 1)) 231 24 (((S.1 231 24) + 1) + 2)) 258 (S.1 231 43) ((S.2.1 252 r_8) + (-(S.2.1 247 (((S.1 231 24) + 1) + 1))))) 231 43 ((S.1 231 43) + 1)) (fl [20, 21, 24, 43]) := FF.F g_35 rfl
            have i_42 : dX G (uF (uA (uF (uF S 231 24 ((S.1 231 24) + 1)) 231 24 (((S.1 231 24) + 1) + 2)) 258 (S.1 231 43) ((S.2.1 252 r_8) + (-(S.2.1 247 (((S.1 231 24) + 1) + 1))))) 231 43 ((S.1 231 43) + 1)) := i_39.F (i := 43) (show (-2147483648) ≤ (S.1 231 43) + 1 ∧ (S.1 231 43) + 1 ≤ 2147483647 from ⟨by omega, by omega⟩)
            have lk_43 : (uF (uA (uF (uF S 231 24 ((S.1 231 24) + 1)) 231 24 (((S.1 231 24) + 1) + 2)) 258 (S.1 231 43) ((S.2.1 252 r_8) + (-(S.2.1 247 (((S.1 231 24) + 1) + 1))))) 231 43 ((S.1 231 43) + 1)).1 231 24 = ((S.1 231 24) + 1) + 2 := (uF_ne (fun h => absurd h.2 (by decide))).trans ((uA_f).trans (uF_on))
            have lk_44 : (uF (uA (uF (uF S 231 24 ((S.1 231 24) + 1)) 231 24 (((S.1 231 24) + 1) + 2)) 258 (S.1 231 43) ((S.2.1 252 r_8) + (-(S.2.1 247 (((S.1 231 24) + 1) + 1))))) 231 43 ((S.1 231 43) + 1)).1 231 20 = S.1 231 20 := (uF_ne (fun h => absurd h.2 (by decide))).trans ((uA_f).trans ((uF_ne (fun h => absurd h.2 (by decide))).trans (uF_ne (fun h => absurd h.2 (by decide)))))
            have lk_45 : (uF (uA (uF (uF S 231 24 ((S.1 231 24) + 1)) 231 24 (((S.1 231 24) + 1) + 2)) 258 (S.1 231 43) ((S.2.1 252 r_8) + (-(S.2.1 247 (((S.1 231 24) + 1) + 1))))) 231 43 ((S.1 231 43) + 1)).1 231 43 = (S.1 231 43) + 1 := uF_on
            exact sVret Cx hr hlk hW hL ⟨i_42, F_40, g_41, ⟨(by have e7 := (show (uF (uA (uF (uF S 231 24 ((S.1 231 24) + 1)) 231 24 (((S.1 231 24) + 1) + 2)) 258 (S.1 231 43) ((S.2.1 252 r_8) + (-(S.2.1 247 (((S.1 231 24) + 1) + 1))))) 231 43 ((S.1 231 43) + 1)).1 231 24 = ((S.1 231 24) + 1) + 2 from (uF_ne (fun h => absurd h.2 (by decide))).trans ((uA_f).trans (uF_on))); omega), (fun h => absurd h (by omega)), (fun _ => by exfalso; have z1 := tu_25a (by omega); have z2 := tu_29b (by omega); exact z2 z1)⟩⟩ dX12_index_181
          · refine lv_aload_n hx hb dX12_index_123 rfl (lv_at hl 2 rfl) ?_
            refine g_X12_56 Cx hW (k := 231) (by decide) rfl (v := .ref (G.2.2.1 + 247)) (rd_18 i_23) dX12_index_124 ?_
            refine lv_aload_n hx hb dX12_index_127 rfl (lv_at hl 2 rfl) ?_
            refine g_X12_315 Cx hW (k := 231) (by decide) rfl (v := (S.1 231 24) + 1) uF_on dX12_index_128 ?_
            refine lv_iconst (v := iv 1) hx hb dX12_index_131 (by decide) ?_
            refine r_iadd hx hb dX12_index_132 ?_
            refine rIald Cx hW (k := 247) (by decide) rfl (by decide) (by omega) (by omega) dX12_index_133 ?_
            have q_46 : (-2147483648) ≤ S.2.1 247 (((S.1 231 24) + 1) + 1) ∧ S.2.1 247 (((S.1 231 24) + 1) + 1) ≤ 2147483647 := hI.ai 247 (((S.1 231 24) + 1) + 1)
            refine r_i (b := S.2.1 247 (((S.1 231 24) + 1) + 1)) uF_a ?_
            have nx9 : S.2.1 247 (((S.1 231 24) + 1) + 1) = v (pz + 1 + 1) := (by rw [nw9]; exact congrArg (S.2.1 247) (by omega))
            refine lv_goto (tgt := 149) hx hb dX12_index_134 (by decide) ?_
            refine r_iadd hx hb dX12_index_149 ?_
            refine lv_istore_n (lv' := [(1, .int (iv ((S.2.1 252 r_8) + (S.2.1 247 (((S.1 231 24) + 1) + 1))))), (2, .int (iv r_8)), (0, .ref (G.2.2.1 + 231))]) hx hb dX12_index_150 rfl hl (by decide) rfl (fun ls hl => ?_)
            refine lv_aload_n hx hb dX12_index_151 rfl (lv_at hl 2 rfl) ?_
            refine lv_dup hx hb dX12_index_152 rfl ?_
            refine g_X12_315 Cx hW (k := 231) (by decide) rfl (v := (S.1 231 24) + 1) uF_on dX12_index_153 ?_
            refine lv_iconst (v := iv 2) hx hb dX12_index_156 (by decide) ?_
            refine r_iadd hx hb dX12_index_157 ?_
            refine p_X12_315 Cx hW hL (k := 231) (by decide) rfl dX12_index_158 (fun H locs hW hL => ?_)
            have F_47 : Fr S (uF (uF S 231 24 ((S.1 231 24) + 1)) 231 24 (((S.1 231 24) + 1) + 2)) (pl [231, 258]) := F_21.F rfl
            have g_48 : FF S (uF (uF S 231 24 ((S.1 231 24) + 1)) 231 24 (((S.1 231 24) + 1) + 2)) (fl [20, 21, 24, 43]) := FF.F g_22 rfl
            have i_49 : dX G (uF (uF S 231 24 ((S.1 231 24) + 1)) 231 24 (((S.1 231 24) + 1) + 2)) := i_23.F (i := 24) (show (-2147483648) ≤ ((S.1 231 24) + 1) + 2 ∧ ((S.1 231 24) + 1) + 2 ≤ 2147483647 from ⟨by omega, by omega⟩)
            refine lv_aload_n hx hb dX12_index_161 rfl (lv_at hl 2 rfl) ?_
            refine g_X12_91 Cx hW (k := 231) (by decide) rfl (v := .ref (G.2.2.1 + 258)) (rd_44 i_49) dX12_index_162 ?_
            refine lv_aload_n hx hb dX12_index_165 rfl (lv_at hl 2 rfl) ?_
            have q_50 : (-2147483648) ≤ S.1 231 43 ∧ S.1 231 43 ≤ 2147483647 := hI.fi 43
            refine g_X12_441 Cx hW (k := 231) (by decide) rfl (v := S.1 231 43) ((uF_ne (fun h => absurd h.2 (by decide))).trans (uF_ne (fun h => absurd h.2 (by decide)))) dX12_index_166 ?_
            refine lv_iload_n hx hb dX12_index_169 rfl (lv_at hl 0 rfl) ?_
            refine rIast Cx hW hL (k := 258) (by decide) rfl (by decide) (by omega) (by omega) dX12_index_170 (fun H locs hW hL => ?_)
            have F_51 : Fr S (uA (uF (uF S 231 24 ((S.1 231 24) + 1)) 231 24 (((S.1 231 24) + 1) + 2)) 258 (S.1 231 43) ((S.2.1 252 r_8) + (S.2.1 247 (((S.1 231 24) + 1) + 1)))) (pl [231, 258]) := F_47.A rfl
            have i_52 : dX G (uA (uF (uF S 231 24 ((S.1 231 24) + 1)) 231 24 (((S.1 231 24) + 1) + 2)) 258 (S.1 231 43) ((S.2.1 252 r_8) + (S.2.1 247 (((S.1 231 24) + 1) + 1)))) := i_49.A (k := 258) (show (-2147483648) ≤ (S.2.1 252 r_8) + (S.2.1 247 (((S.1 231 24) + 1) + 1)) ∧ (S.2.1 252 r_8) + (S.2.1 247 (((S.1 231 24) + 1) + 1)) ≤ 2147483647 from ⟨by omega, by omega⟩)
            refine lv_aload_n hx hb dX12_index_171 rfl (lv_at hl 2 rfl) ?_
            refine lv_dup hx hb dX12_index_172 rfl ?_
            refine g_X12_441 Cx hW (k := 231) (by decide) rfl (v := S.1 231 43) ((uA_f).trans ((uF_ne (fun h => absurd h.2 (by decide))).trans (uF_ne (fun h => absurd h.2 (by decide))))) dX12_index_173 ?_
            refine lv_iconst (v := iv 1) hx hb dX12_index_176 (by decide) ?_
            refine r_iadd hx hb dX12_index_177 ?_
            refine p_X12_441 Cx hW hL (k := 231) (by decide) rfl dX12_index_178 (fun H locs hW hL => ?_)
            have F_53 : Fr S (uF (uA (uF (uF S 231 24 ((S.1 231 24) + 1)) 231 24 (((S.1 231 24) + 1) + 2)) 258 (S.1 231 43) ((S.2.1 252 r_8) + (S.2.1 247 (((S.1 231 24) + 1) + 1)))) 231 43 ((S.1 231 43) + 1)) (pl [231, 258]) := F_51.F rfl
            have g_54 : FF S (uF (uA (uF (uF S 231 24 ((S.1 231 24) + 1)) 231 24 (((S.1 231 24) + 1) + 2)) 258 (S.1 231 43) ((S.2.1 252 r_8) + (S.2.1 247 (((S.1 231 24) + 1) + 1)))) 231 43 ((S.1 231 43) + 1)) (fl [20, 21, 24, 43]) := FF.F g_48 rfl
            have i_55 : dX G (uF (uA (uF (uF S 231 24 ((S.1 231 24) + 1)) 231 24 (((S.1 231 24) + 1) + 2)) 258 (S.1 231 43) ((S.2.1 252 r_8) + (S.2.1 247 (((S.1 231 24) + 1) + 1)))) 231 43 ((S.1 231 43) + 1)) := i_52.F (i := 43) (show (-2147483648) ≤ (S.1 231 43) + 1 ∧ (S.1 231 43) + 1 ≤ 2147483647 from ⟨by omega, by omega⟩)
            have lk_56 : (uF (uA (uF (uF S 231 24 ((S.1 231 24) + 1)) 231 24 (((S.1 231 24) + 1) + 2)) 258 (S.1 231 43) ((S.2.1 252 r_8) + (S.2.1 247 (((S.1 231 24) + 1) + 1)))) 231 43 ((S.1 231 43) + 1)).1 231 24 = ((S.1 231 24) + 1) + 2 := (uF_ne (fun h => absurd h.2 (by decide))).trans ((uA_f).trans (uF_on))
            have lk_57 : (uF (uA (uF (uF S 231 24 ((S.1 231 24) + 1)) 231 24 (((S.1 231 24) + 1) + 2)) 258 (S.1 231 43) ((S.2.1 252 r_8) + (S.2.1 247 (((S.1 231 24) + 1) + 1)))) 231 43 ((S.1 231 43) + 1)).1 231 20 = S.1 231 20 := (uF_ne (fun h => absurd h.2 (by decide))).trans ((uA_f).trans ((uF_ne (fun h => absurd h.2 (by decide))).trans (uF_ne (fun h => absurd h.2 (by decide)))))
            have lk_58 : (uF (uA (uF (uF S 231 24 ((S.1 231 24) + 1)) 231 24 (((S.1 231 24) + 1) + 2)) 258 (S.1 231 43) ((S.2.1 252 r_8) + (S.2.1 247 (((S.1 231 24) + 1) + 1)))) 231 43 ((S.1 231 43) + 1)).1 231 43 = (S.1 231 43) + 1 := uF_on
            exact sVret Cx hr hlk hW hL ⟨i_55, F_53, g_54, ⟨(by have e7 := (show (uF (uA (uF (uF S 231 24 ((S.1 231 24) + 1)) 231 24 (((S.1 231 24) + 1) + 2)) 258 (S.1 231 43) ((S.2.1 252 r_8) + (S.2.1 247 (((S.1 231 24) + 1) + 1)))) 231 43 ((S.1 231 43) + 1)).1 231 24 = ((S.1 231 24) + 1) + 2 from (uF_ne (fun h => absurd h.2 (by decide))).trans ((uA_f).trans (uF_on))); omega), (fun h => absurd (show (uF (uA (uF (uF S 231 24 ((S.1 231 24) + 1)) 231 24 (((S.1 231 24) + 1) + 2)) 258 (S.1 231 43) ((S.2.1 252 r_8) + (S.2.1 247 (((S.1 231 24) + 1) + 1)))) 231 43 ((S.1 231 43) + 1)).1 231 20 = 0 by have e9 := (show (uF (uA (uF (uF S 231 24 ((S.1 231 24) + 1)) 231 24 (((S.1 231 24) + 1) + 2)) 258 (S.1 231 43) ((S.2.1 252 r_8) + (S.2.1 247 (((S.1 231 24) + 1) + 1)))) 231 43 ((S.1 231 43) + 1)).1 231 20 = S.1 231 20 from (uF_ne (fun h => absurd h.2 (by decide))).trans ((uA_f).trans ((uF_ne (fun h => absurd h.2 (by decide))).trans (uF_ne (fun h => absurd h.2 (by decide)))))); omega) h), (fun _ => ⟨(by rw [(show ∀ x, (uF (uA (uF (uF S 231 24 ((S.1 231 24) + 1)) 231 24 (((S.1 231 24) + 1) + 2)) 258 (S.1 231 43) ((S.2.1 252 r_8) + (S.2.1 247 (((S.1 231 24) + 1) + 1)))) 231 43 ((S.1 231 43) + 1)).2.1 258 x = (uA (uF (uF S 231 24 ((S.1 231 24) + 1)) 231 24 (((S.1 231 24) + 1) + 2)) 258 (S.1 231 43) ((S.2.1 252 r_8) + (S.2.1 247 (((S.1 231 24) + 1) + 1)))).2.1 258 x from fun x => uF_a) (S.1 231 43), uA_on, eI_p k3 fe (by omega) n5 (tu_29a (by omega)), hq9]; exact congrArg some (Prod.ext (by show _ = _; omega) rfl)), (by have e7 := (show (uF (uA (uF (uF S 231 24 ((S.1 231 24) + 1)) 231 24 (((S.1 231 24) + 1) + 2)) 258 (S.1 231 43) ((S.2.1 252 r_8) + (S.2.1 247 (((S.1 231 24) + 1) + 1)))) 231 43 ((S.1 231 43) + 1)).1 231 24 = ((S.1 231 24) + 1) + 2 from (uF_ne (fun h => absurd h.2 (by decide))).trans ((uA_f).trans (uF_on))); omega), (by have e6 := (show (uF (uA (uF (uF S 231 24 ((S.1 231 24) + 1)) 231 24 (((S.1 231 24) + 1) + 2)) 258 (S.1 231 43) ((S.2.1 252 r_8) + (S.2.1 247 (((S.1 231 24) + 1) + 1)))) 231 43 ((S.1 231 43) + 1)).1 231 43 = (S.1 231 43) + 1 from uF_on); omega), (fun x a => by rw [(show ∀ x, (uF (uA (uF (uF S 231 24 ((S.1 231 24) + 1)) 231 24 (((S.1 231 24) + 1) + 2)) 258 (S.1 231 43) ((S.2.1 252 r_8) + (S.2.1 247 (((S.1 231 24) + 1) + 1)))) 231 43 ((S.1 231 43) + 1)).2.1 258 x = (uA (uF (uF S 231 24 ((S.1 231 24) + 1)) 231 24 (((S.1 231 24) + 1) + 2)) 258 (S.1 231 43) ((S.2.1 252 r_8) + (S.2.1 247 (((S.1 231 24) + 1) + 1)))).2.1 258 x from fun x => uF_a) x, uA_ne (fun h => a h.2)]; exact (uF_a).trans (uF_a))⟩)⟩⟩ dX12_index_181
        · refine lv_aload_n hx hb dX12_index_104 rfl (lv_at hl 2 rfl) ?_
          refine lv_bipush (v := iv 45) hx hb dX12_index_105 (by decide) ?_
          refine sBi (sV (As := [.int (iv 45)]) (rest := []) (k := 231) Cx (s_X12_isSign l G (uF S 231 24 ((S.1 231 24) + 1)) (sv := 45) (K := K) (V := V) (pz := (pz) + 1) i_23 (by omega) ((funext fun j => uF_a : (uF S 231 24 ((S.1 231 24) + 1)).2.1 244 = S.2.1 244).trans hK) ((funext fun j => uF_a : (uF S 231 24 ((S.1 231 24) + 1)).2.1 247 = S.2.1 247).trans hV) (by omega) (by omega)) (c_X12_318 Cx rfl rfl (rmk_ok (by omega) (by decide))) hW (by decide) rfl rfl rfl hl.1 rfl (Nat.le_of_ble_eq_true rfl) dX12_index_107 ⟨Nat.le_of_ble_eq_true rfl, Nat.le_of_ble_eq_true rfl⟩) hL (fun r_61 u_59 H locs k_60 hW hL => ?_)
          obtain ⟨eu_59, xu_59⟩ := k_60
          rw [eu_59] at hW
          have tu_59a : Hd (r_61 = 1 → k ((pz) + 1) = 22) := (fun h => by rw [← hkk]; exact (osg_45 K V T _).1 (by omega) (by omega) (xu_59.2.1 h))
          have tu_59b : Hd (r_61 ≠ 1 → k ((pz) + 1) ≠ 22) := (fun h z => xu_59.2.2 h ((osg_45 K V T _).2 (by rw [hkk]; exact z)))
          refine r_if_eq (tgt := 161) hx hb ⟨(by omega), (by omega)⟩ dX12_index_110 (by decide) (fun c_62 => ?_) (fun c_62 => ?_)
          · have hq9 : q = pz + 1 := (by rcases hg2 with z | z; (exact absurd z.1 (fun y => y.elim (tu_25b (by omega)) (tu_59b (by omega)))); (exact z.2))
            refine lv_aload_n hx hb dX12_index_161 rfl (lv_at hl 2 rfl) ?_
            refine g_X12_91 Cx hW (k := 231) (by decide) rfl (v := .ref (G.2.2.1 + 258)) (rd_44 i_23) dX12_index_162 ?_
            refine lv_aload_n hx hb dX12_index_165 rfl (lv_at hl 2 rfl) ?_
            have q_63 : (-2147483648) ≤ S.1 231 43 ∧ S.1 231 43 ≤ 2147483647 := hI.fi 43
            refine g_X12_441 Cx hW (k := 231) (by decide) rfl (v := S.1 231 43) (uF_ne (fun h => absurd h.2 (by decide))) dX12_index_166 ?_
            refine lv_iload_n hx hb dX12_index_169 rfl (lv_at hl 0 rfl) ?_
            refine rIast Cx hW hL (k := 258) (by decide) rfl (by decide) (by omega) (by omega) dX12_index_170 (fun H locs hW hL => ?_)
            have F_64 : Fr S (uA (uF S 231 24 ((S.1 231 24) + 1)) 258 (S.1 231 43) (S.2.1 252 r_8)) (pl [231, 258]) := F_21.A rfl
            have i_65 : dX G (uA (uF S 231 24 ((S.1 231 24) + 1)) 258 (S.1 231 43) (S.2.1 252 r_8)) := i_23.A (k := 258) (show (-2147483648) ≤ S.2.1 252 r_8 ∧ S.2.1 252 r_8 ≤ 2147483647 from ⟨by omega, by omega⟩)
            refine lv_aload_n hx hb dX12_index_171 rfl (lv_at hl 2 rfl) ?_
            refine lv_dup hx hb dX12_index_172 rfl ?_
            refine g_X12_441 Cx hW (k := 231) (by decide) rfl (v := S.1 231 43) ((uA_f).trans (uF_ne (fun h => absurd h.2 (by decide)))) dX12_index_173 ?_
            refine lv_iconst (v := iv 1) hx hb dX12_index_176 (by decide) ?_
            refine r_iadd hx hb dX12_index_177 ?_
            refine p_X12_441 Cx hW hL (k := 231) (by decide) rfl dX12_index_178 (fun H locs hW hL => ?_)
            have F_66 : Fr S (uF (uA (uF S 231 24 ((S.1 231 24) + 1)) 258 (S.1 231 43) (S.2.1 252 r_8)) 231 43 ((S.1 231 43) + 1)) (pl [231, 258]) := F_64.F rfl
            have g_67 : FF S (uF (uA (uF S 231 24 ((S.1 231 24) + 1)) 258 (S.1 231 43) (S.2.1 252 r_8)) 231 43 ((S.1 231 43) + 1)) (fl [20, 21, 24, 43]) := FF.F g_22 rfl
            have i_68 : dX G (uF (uA (uF S 231 24 ((S.1 231 24) + 1)) 258 (S.1 231 43) (S.2.1 252 r_8)) 231 43 ((S.1 231 43) + 1)) := i_65.F (i := 43) (show (-2147483648) ≤ (S.1 231 43) + 1 ∧ (S.1 231 43) + 1 ≤ 2147483647 from ⟨by omega, by omega⟩)
            have lk_69 : (uF (uA (uF S 231 24 ((S.1 231 24) + 1)) 258 (S.1 231 43) (S.2.1 252 r_8)) 231 43 ((S.1 231 43) + 1)).1 231 24 = (S.1 231 24) + 1 := (uF_ne (fun h => absurd h.2 (by decide))).trans ((uA_f).trans (uF_on))
            have lk_70 : (uF (uA (uF S 231 24 ((S.1 231 24) + 1)) 258 (S.1 231 43) (S.2.1 252 r_8)) 231 43 ((S.1 231 43) + 1)).1 231 20 = S.1 231 20 := (uF_ne (fun h => absurd h.2 (by decide))).trans ((uA_f).trans (uF_ne (fun h => absurd h.2 (by decide))))
            have lk_71 : (uF (uA (uF S 231 24 ((S.1 231 24) + 1)) 258 (S.1 231 43) (S.2.1 252 r_8)) 231 43 ((S.1 231 43) + 1)).1 231 43 = (S.1 231 43) + 1 := uF_on
            exact sVret Cx hr hlk hW hL ⟨i_68, F_66, g_67, ⟨(by have e7 := (show (uF (uA (uF S 231 24 ((S.1 231 24) + 1)) 258 (S.1 231 43) (S.2.1 252 r_8)) 231 43 ((S.1 231 43) + 1)).1 231 24 = (S.1 231 24) + 1 from (uF_ne (fun h => absurd h.2 (by decide))).trans ((uA_f).trans (uF_on))); omega), (fun h => absurd (show (uF (uA (uF S 231 24 ((S.1 231 24) + 1)) 258 (S.1 231 43) (S.2.1 252 r_8)) 231 43 ((S.1 231 43) + 1)).1 231 20 = 0 by have e9 := (show (uF (uA (uF S 231 24 ((S.1 231 24) + 1)) 258 (S.1 231 43) (S.2.1 252 r_8)) 231 43 ((S.1 231 43) + 1)).1 231 20 = S.1 231 20 from (uF_ne (fun h => absurd h.2 (by decide))).trans ((uA_f).trans (uF_ne (fun h => absurd h.2 (by decide))))); omega) h), (fun _ => ⟨(by rw [(show ∀ x, (uF (uA (uF S 231 24 ((S.1 231 24) + 1)) 258 (S.1 231 43) (S.2.1 252 r_8)) 231 43 ((S.1 231 43) + 1)).2.1 258 x = (uA (uF S 231 24 ((S.1 231 24) + 1)) 258 (S.1 231 43) (S.2.1 252 r_8)).2.1 258 x from fun x => uF_a) (S.1 231 43), uA_on, eI_0 k3 fe (by omega) n5 (tu_25b (by omega)) (tu_59b (by omega)), hq9]; exact congrArg some (Prod.ext (by show _ = _; omega) rfl)), (by have e7 := (show (uF (uA (uF S 231 24 ((S.1 231 24) + 1)) 258 (S.1 231 43) (S.2.1 252 r_8)) 231 43 ((S.1 231 43) + 1)).1 231 24 = (S.1 231 24) + 1 from (uF_ne (fun h => absurd h.2 (by decide))).trans ((uA_f).trans (uF_on))); omega), (by have e6 := (show (uF (uA (uF S 231 24 ((S.1 231 24) + 1)) 258 (S.1 231 43) (S.2.1 252 r_8)) 231 43 ((S.1 231 43) + 1)).1 231 43 = (S.1 231 43) + 1 from uF_on); omega), (fun x a => by rw [(show ∀ x, (uF (uA (uF S 231 24 ((S.1 231 24) + 1)) 258 (S.1 231 43) (S.2.1 252 r_8)) 231 43 ((S.1 231 43) + 1)).2.1 258 x = (uA (uF S 231 24 ((S.1 231 24) + 1)) 258 (S.1 231 43) (S.2.1 252 r_8)).2.1 258 x from fun x => uF_a) x, uA_ne (fun h => a h.2)]; exact uF_a)⟩)⟩⟩ dX12_index_181
          · obtain ⟨k33, hq9⟩ : k (pz + 1 + 1) = 3 ∧ q = pz + 1 + 1 + 1 := (by rcases hg2 with z | z; (exact z.2); (exact absurd (.inr (tu_59a (by omega))) z.1))
            have nv9 := hTV _ k33; have nw9 := hkr.2.2.2.1 _ k33
            refine lv_iload_n hx hb dX12_index_113 rfl (lv_at hl 0 rfl) ?_
            refine lv_aload_n hx hb dX12_index_114 rfl (lv_at hl 2 rfl) ?_
            refine lv_bipush (v := iv 43) hx hb dX12_index_115 (by decide) ?_
            refine sBi (sV (As := [.int (iv 43)]) (rest := [.int (iv (S.2.1 252 r_8))]) (k := 231) Cx (s_X12_isSign l G (uF S 231 24 ((S.1 231 24) + 1)) (sv := 43) (K := K) (V := V) (pz := (pz) + 1) i_23 (by omega) ((funext fun j => uF_a : (uF S 231 24 ((S.1 231 24) + 1)).2.1 244 = S.2.1 244).trans hK) ((funext fun j => uF_a : (uF S 231 24 ((S.1 231 24) + 1)).2.1 247 = S.2.1 247).trans hV) (by omega) (by omega)) (c_X12_318 Cx rfl rfl (rmk_ok (by omega) (by decide))) hW (by decide) rfl rfl rfl hl.1 rfl (Nat.le_of_ble_eq_true rfl) dX12_index_117 ⟨Nat.le_of_ble_eq_true rfl, Nat.le_of_ble_eq_true rfl⟩) hL (fun r_74 u_72 H locs k_73 hW hL => ?_)
            obtain ⟨eu_72, xu_72⟩ := k_73
            rw [eu_72] at hW
            have tu_72a : Hd (r_74 = 1 → k ((pz) + 1) = 21) := (fun h => by rw [← hkk]; exact (osg_43 K V T _).1 (by omega) (by omega) (xu_72.2.1 h))
            have tu_72b : Hd (r_74 ≠ 1 → k ((pz) + 1) ≠ 21) := (fun h z => xu_72.2.2 h ((osg_43 K V T _).2 (by rw [hkk]; exact z)))
            refine r_if_eq (tgt := 137) hx hb ⟨(by omega), (by omega)⟩ dX12_index_120 (by decide) (fun c_75 => ?_) (fun c_75 => ?_)
            · refine lv_aload_n hx hb dX12_index_137 rfl (lv_at hl 2 rfl) ?_
              refine g_X12_56 Cx hW (k := 231) (by decide) rfl (v := .ref (G.2.2.1 + 247)) (rd_18 i_23) dX12_index_138 ?_
              refine lv_aload_n hx hb dX12_index_141 rfl (lv_at hl 2 rfl) ?_
              refine g_X12_315 Cx hW (k := 231) (by decide) rfl (v := (S.1 231 24) + 1) uF_on dX12_index_142 ?_
              refine lv_iconst (v := iv 1) hx hb dX12_index_145 (by decide) ?_
              refine r_iadd hx hb dX12_index_146 ?_
              refine rIald Cx hW (k := 247) (by decide) rfl (by decide) (by omega) (by omega) dX12_index_147 ?_
              have q_76 : (-2147483648) ≤ S.2.1 247 (((S.1 231 24) + 1) + 1) ∧ S.2.1 247 (((S.1 231 24) + 1) + 1) ≤ 2147483647 := hI.ai 247 (((S.1 231 24) + 1) + 1)
              refine r_i (b := S.2.1 247 (((S.1 231 24) + 1) + 1)) uF_a ?_
              have nx9 : S.2.1 247 (((S.1 231 24) + 1) + 1) = v (pz + 1 + 1) := (by rw [nw9]; exact congrArg (S.2.1 247) (by omega))
              refine r_ineg hx hb dX12_index_148 ?_
              refine r_iadd hx hb dX12_index_149 ?_
              refine lv_istore_n (lv' := [(1, .int (iv ((S.2.1 252 r_8) + (-(S.2.1 247 (((S.1 231 24) + 1) + 1)))))), (2, .int (iv r_8)), (0, .ref (G.2.2.1 + 231))]) hx hb dX12_index_150 rfl hl (by decide) rfl (fun ls hl => ?_)
              refine lv_aload_n hx hb dX12_index_151 rfl (lv_at hl 2 rfl) ?_
              refine lv_dup hx hb dX12_index_152 rfl ?_
              refine g_X12_315 Cx hW (k := 231) (by decide) rfl (v := (S.1 231 24) + 1) uF_on dX12_index_153 ?_
              refine lv_iconst (v := iv 2) hx hb dX12_index_156 (by decide) ?_
              refine r_iadd hx hb dX12_index_157 ?_
              refine p_X12_315 Cx hW hL (k := 231) (by decide) rfl dX12_index_158 (fun H locs hW hL => ?_)
              have F_77 : Fr S (uF (uF S 231 24 ((S.1 231 24) + 1)) 231 24 (((S.1 231 24) + 1) + 2)) (pl [231, 258]) := F_21.F rfl
              have g_78 : FF S (uF (uF S 231 24 ((S.1 231 24) + 1)) 231 24 (((S.1 231 24) + 1) + 2)) (fl [20, 21, 24, 43]) := FF.F g_22 rfl
              have i_79 : dX G (uF (uF S 231 24 ((S.1 231 24) + 1)) 231 24 (((S.1 231 24) + 1) + 2)) := i_23.F (i := 24) (show (-2147483648) ≤ ((S.1 231 24) + 1) + 2 ∧ ((S.1 231 24) + 1) + 2 ≤ 2147483647 from ⟨by omega, by omega⟩)
              refine lv_aload_n hx hb dX12_index_161 rfl (lv_at hl 2 rfl) ?_
              refine g_X12_91 Cx hW (k := 231) (by decide) rfl (v := .ref (G.2.2.1 + 258)) (rd_44 i_79) dX12_index_162 ?_
              refine lv_aload_n hx hb dX12_index_165 rfl (lv_at hl 2 rfl) ?_
              have q_80 : (-2147483648) ≤ S.1 231 43 ∧ S.1 231 43 ≤ 2147483647 := hI.fi 43
              refine g_X12_441 Cx hW (k := 231) (by decide) rfl (v := S.1 231 43) ((uF_ne (fun h => absurd h.2 (by decide))).trans (uF_ne (fun h => absurd h.2 (by decide)))) dX12_index_166 ?_
              refine lv_iload_n hx hb dX12_index_169 rfl (lv_at hl 0 rfl) ?_
              refine rIast Cx hW hL (k := 258) (by decide) rfl (by decide) (by omega) (by omega) dX12_index_170 (fun H locs hW hL => ?_)
              have F_81 : Fr S (uA (uF (uF S 231 24 ((S.1 231 24) + 1)) 231 24 (((S.1 231 24) + 1) + 2)) 258 (S.1 231 43) ((S.2.1 252 r_8) + (-(S.2.1 247 (((S.1 231 24) + 1) + 1))))) (pl [231, 258]) := F_77.A rfl
              have i_82 : dX G (uA (uF (uF S 231 24 ((S.1 231 24) + 1)) 231 24 (((S.1 231 24) + 1) + 2)) 258 (S.1 231 43) ((S.2.1 252 r_8) + (-(S.2.1 247 (((S.1 231 24) + 1) + 1))))) := i_79.A (k := 258) (show (-2147483648) ≤ (S.2.1 252 r_8) + (-(S.2.1 247 (((S.1 231 24) + 1) + 1))) ∧ (S.2.1 252 r_8) + (-(S.2.1 247 (((S.1 231 24) + 1) + 1))) ≤ 2147483647 from ⟨by omega, by omega⟩)
              refine lv_aload_n hx hb dX12_index_171 rfl (lv_at hl 2 rfl) ?_
              refine lv_dup hx hb dX12_index_172 rfl ?_
              refine g_X12_441 Cx hW (k := 231) (by decide) rfl (v := S.1 231 43) ((uA_f).trans ((uF_ne (fun h => absurd h.2 (by decide))).trans (uF_ne (fun h => absurd h.2 (by decide))))) dX12_index_173 ?_
              refine lv_iconst (v := iv 1) hx hb dX12_index_176 (by decide) ?_
              refine r_iadd hx hb dX12_index_177 ?_
              refine p_X12_441 Cx hW hL (k := 231) (by decide) rfl dX12_index_178 (fun H locs hW hL => ?_)
              have F_83 : Fr S (uF (uA (uF (uF S 231 24 ((S.1 231 24) + 1)) 231 24 (((S.1 231 24) + 1) + 2)) 258 (S.1 231 43) ((S.2.1 252 r_8) + (-(S.2.1 247 (((S.1 231 24) + 1) + 1))))) 231 43 ((S.1 231 43) + 1)) (pl [231, 258]) := F_81.F rfl
              have g_84 : FF S (uF (uA (uF (uF S 231 24 ((S.1 231 24) + 1)) 231 24 (((S.1 231 24) + 1) + 2)) 258 (S.1 231 43) ((S.2.1 252 r_8) + (-(S.2.1 247 (((S.1 231 24) + 1) + 1))))) 231 43 ((S.1 231 43) + 1)) (fl [20, 21, 24, 43]) := FF.F g_78 rfl
              have i_85 : dX G (uF (uA (uF (uF S 231 24 ((S.1 231 24) + 1)) 231 24 (((S.1 231 24) + 1) + 2)) 258 (S.1 231 43) ((S.2.1 252 r_8) + (-(S.2.1 247 (((S.1 231 24) + 1) + 1))))) 231 43 ((S.1 231 43) + 1)) := i_82.F (i := 43) (show (-2147483648) ≤ (S.1 231 43) + 1 ∧ (S.1 231 43) + 1 ≤ 2147483647 from ⟨by omega, by omega⟩)
              have lk_86 : (uF (uA (uF (uF S 231 24 ((S.1 231 24) + 1)) 231 24 (((S.1 231 24) + 1) + 2)) 258 (S.1 231 43) ((S.2.1 252 r_8) + (-(S.2.1 247 (((S.1 231 24) + 1) + 1))))) 231 43 ((S.1 231 43) + 1)).1 231 24 = ((S.1 231 24) + 1) + 2 := (uF_ne (fun h => absurd h.2 (by decide))).trans ((uA_f).trans (uF_on))
              have lk_87 : (uF (uA (uF (uF S 231 24 ((S.1 231 24) + 1)) 231 24 (((S.1 231 24) + 1) + 2)) 258 (S.1 231 43) ((S.2.1 252 r_8) + (-(S.2.1 247 (((S.1 231 24) + 1) + 1))))) 231 43 ((S.1 231 43) + 1)).1 231 20 = S.1 231 20 := (uF_ne (fun h => absurd h.2 (by decide))).trans ((uA_f).trans ((uF_ne (fun h => absurd h.2 (by decide))).trans (uF_ne (fun h => absurd h.2 (by decide)))))
              have lk_88 : (uF (uA (uF (uF S 231 24 ((S.1 231 24) + 1)) 231 24 (((S.1 231 24) + 1) + 2)) 258 (S.1 231 43) ((S.2.1 252 r_8) + (-(S.2.1 247 (((S.1 231 24) + 1) + 1))))) 231 43 ((S.1 231 43) + 1)).1 231 43 = (S.1 231 43) + 1 := uF_on
              exact sVret Cx hr hlk hW hL ⟨i_85, F_83, g_84, ⟨(by have e7 := (show (uF (uA (uF (uF S 231 24 ((S.1 231 24) + 1)) 231 24 (((S.1 231 24) + 1) + 2)) 258 (S.1 231 43) ((S.2.1 252 r_8) + (-(S.2.1 247 (((S.1 231 24) + 1) + 1))))) 231 43 ((S.1 231 43) + 1)).1 231 24 = ((S.1 231 24) + 1) + 2 from (uF_ne (fun h => absurd h.2 (by decide))).trans ((uA_f).trans (uF_on))); omega), (fun h => absurd (show (uF (uA (uF (uF S 231 24 ((S.1 231 24) + 1)) 231 24 (((S.1 231 24) + 1) + 2)) 258 (S.1 231 43) ((S.2.1 252 r_8) + (-(S.2.1 247 (((S.1 231 24) + 1) + 1))))) 231 43 ((S.1 231 43) + 1)).1 231 20 = 0 by have e9 := (show (uF (uA (uF (uF S 231 24 ((S.1 231 24) + 1)) 231 24 (((S.1 231 24) + 1) + 2)) 258 (S.1 231 43) ((S.2.1 252 r_8) + (-(S.2.1 247 (((S.1 231 24) + 1) + 1))))) 231 43 ((S.1 231 43) + 1)).1 231 20 = S.1 231 20 from (uF_ne (fun h => absurd h.2 (by decide))).trans ((uA_f).trans ((uF_ne (fun h => absurd h.2 (by decide))).trans (uF_ne (fun h => absurd h.2 (by decide)))))); omega) h), (fun _ => ⟨(by rw [(show ∀ x, (uF (uA (uF (uF S 231 24 ((S.1 231 24) + 1)) 231 24 (((S.1 231 24) + 1) + 2)) 258 (S.1 231 43) ((S.2.1 252 r_8) + (-(S.2.1 247 (((S.1 231 24) + 1) + 1))))) 231 43 ((S.1 231 43) + 1)).2.1 258 x = (uA (uF (uF S 231 24 ((S.1 231 24) + 1)) 231 24 (((S.1 231 24) + 1) + 2)) 258 (S.1 231 43) ((S.2.1 252 r_8) + (-(S.2.1 247 (((S.1 231 24) + 1) + 1))))).2.1 258 x from fun x => uF_a) (S.1 231 43), uA_on, eI_m k3 fe (by omega) n5 ((tu_59a (by omega))), hq9]; exact congrArg some (Prod.ext (by show _ = _; omega) rfl)), (by have e7 := (show (uF (uA (uF (uF S 231 24 ((S.1 231 24) + 1)) 231 24 (((S.1 231 24) + 1) + 2)) 258 (S.1 231 43) ((S.2.1 252 r_8) + (-(S.2.1 247 (((S.1 231 24) + 1) + 1))))) 231 43 ((S.1 231 43) + 1)).1 231 24 = ((S.1 231 24) + 1) + 2 from (uF_ne (fun h => absurd h.2 (by decide))).trans ((uA_f).trans (uF_on))); omega), (by have e6 := (show (uF (uA (uF (uF S 231 24 ((S.1 231 24) + 1)) 231 24 (((S.1 231 24) + 1) + 2)) 258 (S.1 231 43) ((S.2.1 252 r_8) + (-(S.2.1 247 (((S.1 231 24) + 1) + 1))))) 231 43 ((S.1 231 43) + 1)).1 231 43 = (S.1 231 43) + 1 from uF_on); omega), (fun x a => by rw [(show ∀ x, (uF (uA (uF (uF S 231 24 ((S.1 231 24) + 1)) 231 24 (((S.1 231 24) + 1) + 2)) 258 (S.1 231 43) ((S.2.1 252 r_8) + (-(S.2.1 247 (((S.1 231 24) + 1) + 1))))) 231 43 ((S.1 231 43) + 1)).2.1 258 x = (uA (uF (uF S 231 24 ((S.1 231 24) + 1)) 231 24 (((S.1 231 24) + 1) + 2)) 258 (S.1 231 43) ((S.2.1 252 r_8) + (-(S.2.1 247 (((S.1 231 24) + 1) + 1))))).2.1 258 x from fun x => uF_a) x, uA_ne (fun h => a h.2)]; exact (uF_a).trans (uF_a))⟩)⟩⟩ dX12_index_181
            · refine lv_aload_n hx hb dX12_index_123 rfl (lv_at hl 2 rfl) ?_
              refine g_X12_56 Cx hW (k := 231) (by decide) rfl (v := .ref (G.2.2.1 + 247)) (rd_18 i_23) dX12_index_124 ?_
              refine lv_aload_n hx hb dX12_index_127 rfl (lv_at hl 2 rfl) ?_
              refine g_X12_315 Cx hW (k := 231) (by decide) rfl (v := (S.1 231 24) + 1) uF_on dX12_index_128 ?_
              refine lv_iconst (v := iv 1) hx hb dX12_index_131 (by decide) ?_
              refine r_iadd hx hb dX12_index_132 ?_
              refine rIald Cx hW (k := 247) (by decide) rfl (by decide) (by omega) (by omega) dX12_index_133 ?_
              have q_89 : (-2147483648) ≤ S.2.1 247 (((S.1 231 24) + 1) + 1) ∧ S.2.1 247 (((S.1 231 24) + 1) + 1) ≤ 2147483647 := hI.ai 247 (((S.1 231 24) + 1) + 1)
              refine r_i (b := S.2.1 247 (((S.1 231 24) + 1) + 1)) uF_a ?_
              have nx9 : S.2.1 247 (((S.1 231 24) + 1) + 1) = v (pz + 1 + 1) := (by rw [nw9]; exact congrArg (S.2.1 247) (by omega))
              refine lv_goto (tgt := 149) hx hb dX12_index_134 (by decide) ?_
              refine r_iadd hx hb dX12_index_149 ?_
              refine lv_istore_n (lv' := [(1, .int (iv ((S.2.1 252 r_8) + (S.2.1 247 (((S.1 231 24) + 1) + 1))))), (2, .int (iv r_8)), (0, .ref (G.2.2.1 + 231))]) hx hb dX12_index_150 rfl hl (by decide) rfl (fun ls hl => ?_)
              refine lv_aload_n hx hb dX12_index_151 rfl (lv_at hl 2 rfl) ?_
              refine lv_dup hx hb dX12_index_152 rfl ?_
              refine g_X12_315 Cx hW (k := 231) (by decide) rfl (v := (S.1 231 24) + 1) uF_on dX12_index_153 ?_
              refine lv_iconst (v := iv 2) hx hb dX12_index_156 (by decide) ?_
              refine r_iadd hx hb dX12_index_157 ?_
              refine p_X12_315 Cx hW hL (k := 231) (by decide) rfl dX12_index_158 (fun H locs hW hL => ?_)
              have F_90 : Fr S (uF (uF S 231 24 ((S.1 231 24) + 1)) 231 24 (((S.1 231 24) + 1) + 2)) (pl [231, 258]) := F_21.F rfl
              have g_91 : FF S (uF (uF S 231 24 ((S.1 231 24) + 1)) 231 24 (((S.1 231 24) + 1) + 2)) (fl [20, 21, 24, 43]) := FF.F g_22 rfl
              have i_92 : dX G (uF (uF S 231 24 ((S.1 231 24) + 1)) 231 24 (((S.1 231 24) + 1) + 2)) := i_23.F (i := 24) (show (-2147483648) ≤ ((S.1 231 24) + 1) + 2 ∧ ((S.1 231 24) + 1) + 2 ≤ 2147483647 from ⟨by omega, by omega⟩)
              refine lv_aload_n hx hb dX12_index_161 rfl (lv_at hl 2 rfl) ?_
              refine g_X12_91 Cx hW (k := 231) (by decide) rfl (v := .ref (G.2.2.1 + 258)) (rd_44 i_92) dX12_index_162 ?_
              refine lv_aload_n hx hb dX12_index_165 rfl (lv_at hl 2 rfl) ?_
              have q_93 : (-2147483648) ≤ S.1 231 43 ∧ S.1 231 43 ≤ 2147483647 := hI.fi 43
              refine g_X12_441 Cx hW (k := 231) (by decide) rfl (v := S.1 231 43) ((uF_ne (fun h => absurd h.2 (by decide))).trans (uF_ne (fun h => absurd h.2 (by decide)))) dX12_index_166 ?_
              refine lv_iload_n hx hb dX12_index_169 rfl (lv_at hl 0 rfl) ?_
              refine rIast Cx hW hL (k := 258) (by decide) rfl (by decide) (by omega) (by omega) dX12_index_170 (fun H locs hW hL => ?_)
              have F_94 : Fr S (uA (uF (uF S 231 24 ((S.1 231 24) + 1)) 231 24 (((S.1 231 24) + 1) + 2)) 258 (S.1 231 43) ((S.2.1 252 r_8) + (S.2.1 247 (((S.1 231 24) + 1) + 1)))) (pl [231, 258]) := F_90.A rfl
              have i_95 : dX G (uA (uF (uF S 231 24 ((S.1 231 24) + 1)) 231 24 (((S.1 231 24) + 1) + 2)) 258 (S.1 231 43) ((S.2.1 252 r_8) + (S.2.1 247 (((S.1 231 24) + 1) + 1)))) := i_92.A (k := 258) (show (-2147483648) ≤ (S.2.1 252 r_8) + (S.2.1 247 (((S.1 231 24) + 1) + 1)) ∧ (S.2.1 252 r_8) + (S.2.1 247 (((S.1 231 24) + 1) + 1)) ≤ 2147483647 from ⟨by omega, by omega⟩)
              refine lv_aload_n hx hb dX12_index_171 rfl (lv_at hl 2 rfl) ?_
              refine lv_dup hx hb dX12_index_172 rfl ?_
              refine g_X12_441 Cx hW (k := 231) (by decide) rfl (v := S.1 231 43) ((uA_f).trans ((uF_ne (fun h => absurd h.2 (by decide))).trans (uF_ne (fun h => absurd h.2 (by decide))))) dX12_index_173 ?_
              refine lv_iconst (v := iv 1) hx hb dX12_index_176 (by decide) ?_
              refine r_iadd hx hb dX12_index_177 ?_
              refine p_X12_441 Cx hW hL (k := 231) (by decide) rfl dX12_index_178 (fun H locs hW hL => ?_)
              have F_96 : Fr S (uF (uA (uF (uF S 231 24 ((S.1 231 24) + 1)) 231 24 (((S.1 231 24) + 1) + 2)) 258 (S.1 231 43) ((S.2.1 252 r_8) + (S.2.1 247 (((S.1 231 24) + 1) + 1)))) 231 43 ((S.1 231 43) + 1)) (pl [231, 258]) := F_94.F rfl
              have g_97 : FF S (uF (uA (uF (uF S 231 24 ((S.1 231 24) + 1)) 231 24 (((S.1 231 24) + 1) + 2)) 258 (S.1 231 43) ((S.2.1 252 r_8) + (S.2.1 247 (((S.1 231 24) + 1) + 1)))) 231 43 ((S.1 231 43) + 1)) (fl [20, 21, 24, 43]) := FF.F g_91 rfl
              have i_98 : dX G (uF (uA (uF (uF S 231 24 ((S.1 231 24) + 1)) 231 24 (((S.1 231 24) + 1) + 2)) 258 (S.1 231 43) ((S.2.1 252 r_8) + (S.2.1 247 (((S.1 231 24) + 1) + 1)))) 231 43 ((S.1 231 43) + 1)) := i_95.F (i := 43) (show (-2147483648) ≤ (S.1 231 43) + 1 ∧ (S.1 231 43) + 1 ≤ 2147483647 from ⟨by omega, by omega⟩)
              have lk_99 : (uF (uA (uF (uF S 231 24 ((S.1 231 24) + 1)) 231 24 (((S.1 231 24) + 1) + 2)) 258 (S.1 231 43) ((S.2.1 252 r_8) + (S.2.1 247 (((S.1 231 24) + 1) + 1)))) 231 43 ((S.1 231 43) + 1)).1 231 24 = ((S.1 231 24) + 1) + 2 := (uF_ne (fun h => absurd h.2 (by decide))).trans ((uA_f).trans (uF_on))
              have lk_100 : (uF (uA (uF (uF S 231 24 ((S.1 231 24) + 1)) 231 24 (((S.1 231 24) + 1) + 2)) 258 (S.1 231 43) ((S.2.1 252 r_8) + (S.2.1 247 (((S.1 231 24) + 1) + 1)))) 231 43 ((S.1 231 43) + 1)).1 231 20 = S.1 231 20 := (uF_ne (fun h => absurd h.2 (by decide))).trans ((uA_f).trans ((uF_ne (fun h => absurd h.2 (by decide))).trans (uF_ne (fun h => absurd h.2 (by decide)))))
              have lk_101 : (uF (uA (uF (uF S 231 24 ((S.1 231 24) + 1)) 231 24 (((S.1 231 24) + 1) + 2)) 258 (S.1 231 43) ((S.2.1 252 r_8) + (S.2.1 247 (((S.1 231 24) + 1) + 1)))) 231 43 ((S.1 231 43) + 1)).1 231 43 = (S.1 231 43) + 1 := uF_on
              exact sVret Cx hr hlk hW hL ⟨i_98, F_96, g_97, ⟨(by have e7 := (show (uF (uA (uF (uF S 231 24 ((S.1 231 24) + 1)) 231 24 (((S.1 231 24) + 1) + 2)) 258 (S.1 231 43) ((S.2.1 252 r_8) + (S.2.1 247 (((S.1 231 24) + 1) + 1)))) 231 43 ((S.1 231 43) + 1)).1 231 24 = ((S.1 231 24) + 1) + 2 from (uF_ne (fun h => absurd h.2 (by decide))).trans ((uA_f).trans (uF_on))); omega), (fun h => absurd (show (uF (uA (uF (uF S 231 24 ((S.1 231 24) + 1)) 231 24 (((S.1 231 24) + 1) + 2)) 258 (S.1 231 43) ((S.2.1 252 r_8) + (S.2.1 247 (((S.1 231 24) + 1) + 1)))) 231 43 ((S.1 231 43) + 1)).1 231 20 = 0 by have e9 := (show (uF (uA (uF (uF S 231 24 ((S.1 231 24) + 1)) 231 24 (((S.1 231 24) + 1) + 2)) 258 (S.1 231 43) ((S.2.1 252 r_8) + (S.2.1 247 (((S.1 231 24) + 1) + 1)))) 231 43 ((S.1 231 43) + 1)).1 231 20 = S.1 231 20 from (uF_ne (fun h => absurd h.2 (by decide))).trans ((uA_f).trans ((uF_ne (fun h => absurd h.2 (by decide))).trans (uF_ne (fun h => absurd h.2 (by decide)))))); omega) h), (fun _ => ⟨(by rw [(show ∀ x, (uF (uA (uF (uF S 231 24 ((S.1 231 24) + 1)) 231 24 (((S.1 231 24) + 1) + 2)) 258 (S.1 231 43) ((S.2.1 252 r_8) + (S.2.1 247 (((S.1 231 24) + 1) + 1)))) 231 43 ((S.1 231 43) + 1)).2.1 258 x = (uA (uF (uF S 231 24 ((S.1 231 24) + 1)) 231 24 (((S.1 231 24) + 1) + 2)) 258 (S.1 231 43) ((S.2.1 252 r_8) + (S.2.1 247 (((S.1 231 24) + 1) + 1)))).2.1 258 x from fun x => uF_a) (S.1 231 43), uA_on, eI_p k3 fe (by omega) n5 (tu_72a (by omega)), hq9]; exact congrArg some (Prod.ext (by show _ = _; omega) rfl)), (by have e7 := (show (uF (uA (uF (uF S 231 24 ((S.1 231 24) + 1)) 231 24 (((S.1 231 24) + 1) + 2)) 258 (S.1 231 43) ((S.2.1 252 r_8) + (S.2.1 247 (((S.1 231 24) + 1) + 1)))) 231 43 ((S.1 231 43) + 1)).1 231 24 = ((S.1 231 24) + 1) + 2 from (uF_ne (fun h => absurd h.2 (by decide))).trans ((uA_f).trans (uF_on))); omega), (by have e6 := (show (uF (uA (uF (uF S 231 24 ((S.1 231 24) + 1)) 231 24 (((S.1 231 24) + 1) + 2)) 258 (S.1 231 43) ((S.2.1 252 r_8) + (S.2.1 247 (((S.1 231 24) + 1) + 1)))) 231 43 ((S.1 231 43) + 1)).1 231 43 = (S.1 231 43) + 1 from uF_on); omega), (fun x a => by rw [(show ∀ x, (uF (uA (uF (uF S 231 24 ((S.1 231 24) + 1)) 231 24 (((S.1 231 24) + 1) + 2)) 258 (S.1 231 43) ((S.2.1 252 r_8) + (S.2.1 247 (((S.1 231 24) + 1) + 1)))) 231 43 ((S.1 231 43) + 1)).2.1 258 x = (uA (uF (uF S 231 24 ((S.1 231 24) + 1)) 231 24 (((S.1 231 24) + 1) + 2)) 258 (S.1 231 43) ((S.2.1 252 r_8) + (S.2.1 247 (((S.1 231 24) + 1) + 1)))).2.1 258 x from fun x => uF_a) x, uA_ne (fun h => a h.2)]; exact (uF_a).trans (uF_a))⟩)⟩⟩ dX12_index_181
      · refine lv_aload_n hx hb dX12_index_68 rfl (lv_at hl 1 rfl) ?_
        refine lv_iconst (v := iv 2) hx hb dX12_index_69 (by decide) ?_
        refine lv_aload_n hx hb dX12_index_70 rfl (lv_at hl 1 rfl) ?_
        refine g_X12_315 Cx hW (k := 231) (by decide) rfl (v := S.1 231 24) rfl dX12_index_71 ?_
        refine sBv (sV (As := [.int (iv 2), .int (iv (S.1 231 24))]) (rest := []) (k := 231) Cx (s_X12_wrong l G S (cd := 2) (tk := S.1 231 24) hI (by omega) (by omega)) (c_X12_321 Cx rfl rfl (rmk_ok (by omega) (by decide))) hW (by decide) rfl rfl rfl hl.1 rfl (Nat.le_of_ble_eq_true rfl) dX12_index_74 ⟨Nat.le_of_ble_eq_true rfl, Nat.le_of_ble_eq_true rfl⟩) hL (fun u_102 H locs k_103 hW hL => ?_)
        obtain ⟨iu_102, fu_102, gu_102, xu_102⟩ := k_103
        have F_104 := (Fr.rf : Fr S S (pl [231, 258])).trans (fu_102.to (pl_sub (by decide)))
        have g_105 : FF S u_102 (fl [20, 21, 24, 43]) := FF.trans FF.rf (FF.to gu_102 (fl_sub (by decide)))
        have lk_106 : u_102.1 231 24 = S.1 231 24 := gu_102 24 rfl
        have q_107 : (-2147483648) ≤ u_102.1 231 20 ∧ u_102.1 231 20 ≤ 2147483647 := iu_102.fi 20
        have q_108 : (-2147483648) ≤ S.1 231 43 ∧ S.1 231 43 ≤ 2147483647 := hI.fi 43
        have lk_109 : u_102.1 231 43 = S.1 231 43 := gu_102 43 rfl
        exact sVret Cx hr hlk hW hL ⟨iu_102, F_104, g_105, ⟨(by have e7 := (show u_102.1 231 24 = S.1 231 24 from gu_102 24 rfl); omega), (fun _ => eI_x k3 fe (fun z => by have fq := xu_6.1; have c1 := (cs_i (hNr.2.2 r_8 z.1 (by omega)).1).2.2.2.1; have z2 := z.2; omega)), (fun h => absurd h (by have e9 := (show u_102.1 231 20 = u_102.1 231 20 from rfl); have a9 := xu_102; omega))⟩⟩ dX12_index_77
  · have k3 : k pz = 3 := (by rw [← hkk]; exact (kn_2 K V T _).1 (by omega) (by omega) (by omega))
    have hq9 : q = pz + 1 := (by rcases ogX_i hgx with z | z; (exact z.2); (exact absurd z.1 (by omega)))
    have nv9 := hTV _ k3; have nw9 := hkr.2.2.2.1 _ k3
    refine lv_aload_n hx hb dX12_index_21 rfl (lv_at hl 0 rfl) ?_
    refine g_X12_56 Cx hW (k := 231) (by decide) rfl (v := .ref (G.2.2.1 + 247)) (rd_18 hI) dX12_index_22 ?_
    refine lv_aload_n hx hb dX12_index_25 rfl (lv_at hl 0 rfl) ?_
    refine g_X12_315 Cx hW (k := 231) (by decide) rfl (v := S.1 231 24) rfl dX12_index_26 ?_
    refine rIald Cx hW (k := 247) (by decide) rfl (by decide) (by omega) (by omega) dX12_index_29 ?_
    have q_110 : (-2147483648) ≤ S.2.1 247 (S.1 231 24) ∧ S.2.1 247 (S.1 231 24) ≤ 2147483647 := hI.ai 247 (S.1 231 24)
    refine r_i (b := S.2.1 247 (S.1 231 24)) rfl ?_
    have nx9 : S.2.1 247 (S.1 231 24) = v (pz) := (by rw [nw9]; exact congrArg (S.2.1 247) (by omega))
    refine lv_istore_n (lv' := [(1, .int (iv (S.2.1 247 (S.1 231 24)))), (0, .ref (G.2.2.1 + 231))]) hx hb dX12_index_30 rfl hl (by decide) rfl (fun ls hl => ?_)
    refine lv_aload_n hx hb dX12_index_31 rfl (lv_at hl 1 rfl) ?_
    refine lv_dup hx hb dX12_index_32 rfl ?_
    refine g_X12_315 Cx hW (k := 231) (by decide) rfl (v := S.1 231 24) rfl dX12_index_33 ?_
    refine lv_iconst (v := iv 1) hx hb dX12_index_36 (by decide) ?_
    refine r_iadd hx hb dX12_index_37 ?_
    refine p_X12_315 Cx hW hL (k := 231) (by decide) rfl dX12_index_38 (fun H locs hW hL => ?_)
    have F_111 : Fr S (uF S 231 24 ((S.1 231 24) + 1)) (pl [231, 258]) := (Fr.rf : Fr S S (pl [231, 258])).F rfl
    have g_112 : FF S (uF S 231 24 ((S.1 231 24) + 1)) (fl [20, 21, 24, 43]) := FF.F FF.rf rfl
    have i_113 : dX G (uF S 231 24 ((S.1 231 24) + 1)) := hI.F (i := 24) (show (-2147483648) ≤ (S.1 231 24) + 1 ∧ (S.1 231 24) + 1 ≤ 2147483647 from ⟨by omega, by omega⟩)
    refine lv_goto (tgt := 161) hx hb dX12_index_41 (by decide) ?_
    refine lv_aload_n hx hb dX12_index_161 rfl (lv_at hl 1 rfl) ?_
    refine g_X12_91 Cx hW (k := 231) (by decide) rfl (v := .ref (G.2.2.1 + 258)) (rd_44 i_113) dX12_index_162 ?_
    refine lv_aload_n hx hb dX12_index_165 rfl (lv_at hl 1 rfl) ?_
    have q_114 : (-2147483648) ≤ S.1 231 43 ∧ S.1 231 43 ≤ 2147483647 := hI.fi 43
    refine g_X12_441 Cx hW (k := 231) (by decide) rfl (v := S.1 231 43) (uF_ne (fun h => absurd h.2 (by decide))) dX12_index_166 ?_
    refine lv_iload_n hx hb dX12_index_169 rfl (lv_at hl 0 rfl) ?_
    refine rIast Cx hW hL (k := 258) (by decide) rfl (by decide) (by omega) (by omega) dX12_index_170 (fun H locs hW hL => ?_)
    have F_115 : Fr S (uA (uF S 231 24 ((S.1 231 24) + 1)) 258 (S.1 231 43) (S.2.1 247 (S.1 231 24))) (pl [231, 258]) := F_111.A rfl
    have i_116 : dX G (uA (uF S 231 24 ((S.1 231 24) + 1)) 258 (S.1 231 43) (S.2.1 247 (S.1 231 24))) := i_113.A (k := 258) (show (-2147483648) ≤ S.2.1 247 (S.1 231 24) ∧ S.2.1 247 (S.1 231 24) ≤ 2147483647 from ⟨by omega, by omega⟩)
    refine lv_aload_n hx hb dX12_index_171 rfl (lv_at hl 1 rfl) ?_
    refine lv_dup hx hb dX12_index_172 rfl ?_
    refine g_X12_441 Cx hW (k := 231) (by decide) rfl (v := S.1 231 43) ((uA_f).trans (uF_ne (fun h => absurd h.2 (by decide)))) dX12_index_173 ?_
    refine lv_iconst (v := iv 1) hx hb dX12_index_176 (by decide) ?_
    refine r_iadd hx hb dX12_index_177 ?_
    refine p_X12_441 Cx hW hL (k := 231) (by decide) rfl dX12_index_178 (fun H locs hW hL => ?_)
    have F_117 : Fr S (uF (uA (uF S 231 24 ((S.1 231 24) + 1)) 258 (S.1 231 43) (S.2.1 247 (S.1 231 24))) 231 43 ((S.1 231 43) + 1)) (pl [231, 258]) := F_115.F rfl
    have g_118 : FF S (uF (uA (uF S 231 24 ((S.1 231 24) + 1)) 258 (S.1 231 43) (S.2.1 247 (S.1 231 24))) 231 43 ((S.1 231 43) + 1)) (fl [20, 21, 24, 43]) := FF.F g_112 rfl
    have i_119 : dX G (uF (uA (uF S 231 24 ((S.1 231 24) + 1)) 258 (S.1 231 43) (S.2.1 247 (S.1 231 24))) 231 43 ((S.1 231 43) + 1)) := i_116.F (i := 43) (show (-2147483648) ≤ (S.1 231 43) + 1 ∧ (S.1 231 43) + 1 ≤ 2147483647 from ⟨by omega, by omega⟩)
    have lk_120 : (uF (uA (uF S 231 24 ((S.1 231 24) + 1)) 258 (S.1 231 43) (S.2.1 247 (S.1 231 24))) 231 43 ((S.1 231 43) + 1)).1 231 24 = (S.1 231 24) + 1 := (uF_ne (fun h => absurd h.2 (by decide))).trans ((uA_f).trans (uF_on))
    have lk_121 : (uF (uA (uF S 231 24 ((S.1 231 24) + 1)) 258 (S.1 231 43) (S.2.1 247 (S.1 231 24))) 231 43 ((S.1 231 43) + 1)).1 231 20 = S.1 231 20 := (uF_ne (fun h => absurd h.2 (by decide))).trans ((uA_f).trans (uF_ne (fun h => absurd h.2 (by decide))))
    have lk_122 : (uF (uA (uF S 231 24 ((S.1 231 24) + 1)) 258 (S.1 231 43) (S.2.1 247 (S.1 231 24))) 231 43 ((S.1 231 43) + 1)).1 231 43 = (S.1 231 43) + 1 := uF_on
    exact sVret Cx hr hlk hW hL ⟨i_119, F_117, g_118, ⟨(by have e7 := (show (uF (uA (uF S 231 24 ((S.1 231 24) + 1)) 258 (S.1 231 43) (S.2.1 247 (S.1 231 24))) 231 43 ((S.1 231 43) + 1)).1 231 24 = (S.1 231 24) + 1 from (uF_ne (fun h => absurd h.2 (by decide))).trans ((uA_f).trans (uF_on))); omega), (fun h => absurd (show (uF (uA (uF S 231 24 ((S.1 231 24) + 1)) 258 (S.1 231 43) (S.2.1 247 (S.1 231 24))) 231 43 ((S.1 231 43) + 1)).1 231 20 = 0 by have e9 := (show (uF (uA (uF S 231 24 ((S.1 231 24) + 1)) 258 (S.1 231 43) (S.2.1 247 (S.1 231 24))) 231 43 ((S.1 231 43) + 1)).1 231 20 = S.1 231 20 from (uF_ne (fun h => absurd h.2 (by decide))).trans ((uA_f).trans (uF_ne (fun h => absurd h.2 (by decide))))); omega) h), (fun _ => ⟨(by rw [(show ∀ x, (uF (uA (uF S 231 24 ((S.1 231 24) + 1)) 258 (S.1 231 43) (S.2.1 247 (S.1 231 24))) 231 43 ((S.1 231 43) + 1)).2.1 258 x = (uA (uF S 231 24 ((S.1 231 24) + 1)) 258 (S.1 231 43) (S.2.1 247 (S.1 231 24))).2.1 258 x from fun x => uF_a) (S.1 231 43), uA_on, eI_n k3, hq9]; exact congrArg some (Prod.ext (by show _ = _; omega) rfl)), (by have e7 := (show (uF (uA (uF S 231 24 ((S.1 231 24) + 1)) 258 (S.1 231 43) (S.2.1 247 (S.1 231 24))) 231 43 ((S.1 231 43) + 1)).1 231 24 = (S.1 231 24) + 1 from (uF_ne (fun h => absurd h.2 (by decide))).trans ((uA_f).trans (uF_on))); omega), (by have e6 := (show (uF (uA (uF S 231 24 ((S.1 231 24) + 1)) 258 (S.1 231 43) (S.2.1 247 (S.1 231 24))) 231 43 ((S.1 231 43) + 1)).1 231 43 = (S.1 231 43) + 1 from uF_on); omega), (fun x a => by rw [(show ∀ x, (uF (uA (uF S 231 24 ((S.1 231 24) + 1)) 258 (S.1 231 43) (S.2.1 247 (S.1 231 24))) 231 43 ((S.1 231 43) + 1)).2.1 258 x = (uA (uF S 231 24 ((S.1 231 24) + 1)) 258 (S.1 231 43) (S.2.1 247 (S.1 231 24))).2.1 258 x from fun x => uF_a) x, uA_ne (fun h => a h.2)]; exact uF_a)⟩)⟩⟩ dX12_index_181
