/-! The grammar of the models -/
def gS (K V : Int → Int) (pz s : Int) : Prop := K pz = 4 ∧ V pz = s
def gW (K V : Int → Int) (pz w : Int) : Prop := K pz = 3 ∧ V pz = w
def gs (K V : Int → Int) (s pz q : Int) : Prop := gS K V pz s ∧ q = pz + 1
def gw (K V : Int → Int) (w pz q : Int) : Prop := gW K V pz w ∧ q = pz + 1
def gk (K : Int → Int) (k pz q : Int) : Prop := K pz = k ∧ q = pz + 1
def gTn (st : Int → Prop) (R : Int → Int → Prop) : Nat → Int → Int → Prop
  | 0, c, q => ¬ st c ∧ q = c
  | n + 1, c, q => st c ∧ ∃ e, R c e ∧ gTn st R n e q
def gTl (st : Int → Prop) (R : Int → Int → Prop) (c q : Int) : Prop := ∃ n, gTn st R n c q
theorem gTl.nil {st : Int → Prop} {R : Int → Int → Prop} {c : Int} (h : ¬ st c) : gTl st R c c := ⟨0, h, rfl⟩
theorem gTl.cons {st : Int → Prop} {R : Int → Int → Prop} {c e q : Int} (h : st c) (r : R c e) (t : gTl st R e q) : gTl st R c q := by
  obtain ⟨n, t⟩ := t; exact ⟨n + 1, h, e, r, t⟩
theorem gTl.inv {st : Int → Prop} {R : Int → Int → Prop} {c q : Int} (t : gTl st R c q) (h : st c) : ∃ e, R c e ∧ gTl st R e q := by
  obtain ⟨n, t⟩ := t
  cases n with
  | zero => exact absurd h t.1
  | succ n => obtain ⟨_, e, r, t⟩ := t; exact ⟨e, r, n, t⟩
theorem gTl.fin {st : Int → Prop} {R : Int → Int → Prop} {c q : Int} (t : gTl st R c q) (h : ¬ st c) : q = c := by
  obtain ⟨n, t⟩ := t
  cases n with
  | zero => exact t.2
  | succ n => exact absurd t.1 h
/-- one or more, with separators -/
def gL (st : Int → Prop) (F : Int → Int → Prop) (pz q : Int) : Prop := ∃ e, F pz e ∧ gTl st (fun c x => F (c + 1) x) e q
def gI (K V : Int → Int) (pz q : Int) : Prop := (¬ gS K V pz 91 ∧ q = pz) ∨ (gS K V pz 91 ∧ ∃ a, gk K 1 (pz + 1) a ∧ ((¬ gS K V a 44 ∧ gs K V 93 a q) ∨ (gS K V a 44 ∧ ∃ b, gk K 1 (a + 1) b ∧ gs K V 93 b q)))
def gV (K V : Int → Int) (pz q : Int) : Prop := (gS K V pz 45 ∧ gk K 2 (pz + 1) q) ∨ (¬ gS K V pz 45 ∧ gk K 2 pz q)
def gX (K V : Int → Int) (pz q : Int) : Prop := gk K 2 pz q ∨ (K pz ≠ 2 ∧ ∃ a, gk K 1 pz a ∧ ((¬ (gS K V a 43 ∨ gS K V a 45) ∧ q = a) ∨ ((gS K V a 43 ∨ gS K V a 45) ∧ gk K 2 (a + 1) q)))
def gN (K V : Int → Int) (pz q : Int) : Prop := K pz = 1 ∧ ((¬ gS K V (pz + 1) 91 ∧ q = pz + 1) ∨ (gS K V (pz + 1) 91 ∧ ∃ a, gX K V (pz + 1 + 1) a ∧ ((¬ gS K V a 44 ∧ gs K V 93 a q) ∨ (gS K V a 44 ∧ ∃ b, gX K V (a + 1) b ∧ gs K V 93 b q))))
def gP (K V : Int → Int) (F : Int → Int → Prop) : Int → Int → Prop := gL (fun c => gS K V c 42) F
def gU (K V : Int → Int) (F : Int → Int → Prop) : Int → Int → Prop := gL (fun c => gS K V c 43 ∨ gS K V c 45) (gP K V F)
def gF (K V : Int → Int) : Nat → Int → Int → Prop
  | 0, _, _ => False
  | n + 1, pz, q => (gS K V pz 45 ∧ gF K V n (pz + 1) q) ∨ (¬ gS K V pz 45 ∧ (gk K 2 pz q ∨ (K pz ≠ 2 ∧ ((gS K V pz 40 ∧ ∃ e, gU K V (gF K V n) (pz + 1) e ∧ gs K V 41 e q) ∨ (¬ gS K V pz 40 ∧ ((gW K V pz 7 ∧ ∃ a, gk K 1 (pz + 1) a ∧ ∃ b, gw K V 8 a b ∧ ∃ c, gk K 1 b c ∧ ∃ d, gs K V 40 c d ∧ ∃ e, gU K V (gF K V n) d e ∧ gs K V 41 e q) ∨ (¬ gW K V pz 7 ∧ gN K V pz q)))))))
theorem gF_s {K V : Int → Int} {n : Nat} {pz q : Int} : gF K V (n + 1) pz q ↔ (gS K V pz 45 ∧ gF K V n (pz + 1) q) ∨ (¬ gS K V pz 45 ∧ (gk K 2 pz q ∨ (K pz ≠ 2 ∧ ((gS K V pz 40 ∧ ∃ e, gU K V (gF K V n) (pz + 1) e ∧ gs K V 41 e q) ∨ (¬ gS K V pz 40 ∧ ((gW K V pz 7 ∧ ∃ a, gk K 1 (pz + 1) a ∧ ∃ b, gw K V 8 a b ∧ ∃ c, gk K 1 b c ∧ ∃ d, gs K V 40 c d ∧ ∃ e, gU K V (gF K V n) d e ∧ gs K V 41 e q) ∨ (¬ gW K V pz 7 ∧ gN K V pz q))))))) := Iff.rfl
def gT (K V : Int → Int) (pz q : Int) : Prop := (V pz = 2 ∧ ∃ a, gk K 1 (pz + 1) a ∧ ∃ b, gs K V 61 a b ∧ ∃ c, gk K 2 b c ∧ ∃ d, gs K V 1 c d ∧ ∃ e, gk K 2 d e ∧ gs K V 59 e q) ∨ (V pz = 3 ∧ ∃ a, gk K 1 (pz + 1) a ∧ ∃ b, gI K V a b ∧ ∃ c, gs K V 61 b c ∧ ∃ d, gL (fun c => gS K V c 44) (gV K V) c d ∧ gs K V 59 d q) ∨ (V pz = 4 ∧ ∃ a, gk K 1 (pz + 1) a ∧ ∃ b, gI K V a b ∧ ((gW K V b 5 ∧ gs K V 59 (b + 1) q) ∨ (¬ gW K V b 5 ∧ gs K V 59 b q)))
def gRi (K V : Int → Int) (a b : Int) : Prop := (¬ gS K V a 91 ∧ b = a) ∨ (gS K V a 91 ∧ ∃ c, gk K 1 (a + 1) c ∧ ∃ d, gw K V 8 c d ∧ ∃ e, gk K 1 d e ∧ gs K V 93 e b)
def gRo (K V : Int → Int) (F : Int → Int → Prop) (pz q : Int) : Prop := ∃ a, gk K 1 (pz + 1) a ∧ ∃ b, gRi K V a b ∧ ∃ c, gs K V 58 b c ∧ ∃ d, gU K V F c d ∧ (gS K V d 2 ∨ gS K V d 3 ∨ gS K V d 61) ∧ ∃ e, gU K V F (d + 1) e ∧ gs K V 59 e q
def gPrE (K V : Int → Int) : Prop := ∃ a, gTl (fun c => gW K V c 2 ∨ gW K V c 3 ∨ gW K V c 4) (gT K V) 0 a ∧ (gW K V a 0 ∨ gW K V a 1) ∧ ∃ b, gU K V (gF K V 30) (a + 1) b ∧ ∃ c, gs K V 59 b c ∧ ∃ d, gTl (fun c => gW K V c 6) (gRo K V (gF K V 30)) c d ∧ K d = 5
/-- the tokens' end -/
def gE (K : Int → Int) (T : Int) : Prop := (1 ≤ T ∧ T ≤ 30001) ∧ (∀ t, 0 ≤ t → t < T - 1 → 1 ≤ K t ∧ K t ≤ 4) ∧ (K (T - 1) = 5 ∨ K (T - 1) = 6)
theorem gE.nx {K : Int → Int} {T pz : Int} (h : gE K T) (h0 : 0 ≤ pz ∧ pz ≤ T - 1) (k : 1 ≤ K pz ∧ K pz ≤ 4) : pz + 1 ≤ T - 1 := by
  by_cases q : pz = T - 1
  · rw [q] at k; have := h.2.2; omega
  · omega
def mf (S : sS) (T : Int) : Nat := if S.1 231 20 = 0 then (T - S.1 231 24).toNat + 1 else 0
theorem mf_lt {S u : sS} {T : Int} (h : S.1 231 20 = 0) (hT : S.1 231 24 < T) (hu : u.1 231 20 = 0 → S.1 231 24 < u.1 231 24) : mf u T < mf S T := by
  unfold mf; rw [if_pos h]
  by_cases q : u.1 231 20 = 0
  · rw [if_pos q]; have := hu q; omega
  · rw [if_neg q]; omega
set_option maxRecDepth 100000 in
set_option maxHeartbeats 4000000 in
theorem s_X12_wrong (l : Launch) (G : sG) (S : sS) {cd tk : Int} (hI : dX G S) (hcd : 1 ≤ cd ∧ cd ≤ 9) (htk : 0 ≤ tk ∧ tk < 30004) : Met l yX12_wrong (.code yX12_wrong cX12_wrong 3 none :: tb) (rmk 1 0 0) (sPc G 294 S [.ref (G.2.2.1 + 231), .int (iv cd), .int (iv tk)]) (sQv G 294 (fun u => dX G u ∧ Fr S u (pl [231]) ∧ FF S u (fl [20, 21]) ∧ (u.1 231 20 ≠ 0))) 0 0 (sF G) := by
  refine sEnter (by decide) (Nat.le_of_ble_eq_true rfl) ?_
  intro p e s m args below meth c Cx hr hlk hnm hW ls hl
  have Cx : sC G p m c cX12_wrong 3 s args RX12 := Cx
  obtain ⟨hx, hb, hml, hown, hts⟩ := id Cx.1
  have hL : sL G [] := sL_nil
  have hl : lv_has ls 3 [(0, .ref (G.2.2.1 + 231)), (1, .int (iv cd)), (2, .int (iv tk))] := hl
  have hW0 := hW
  refine lv_aload_n hx hb dX12_wrong_0 rfl (lv_at hl 0 rfl) ?_
  have q_1 : (-2147483648) ≤ S.1 231 20 ∧ S.1 231 20 ≤ 2147483647 := hI.fi 20
  refine g_X12_270 Cx hW (k := 231) (by decide) rfl (v := S.1 231 20) rfl dX12_wrong_1 ?_
  refine r_if_eq (tgt := 8) hx hb ⟨(by omega), (by omega)⟩ dX12_wrong_4 (by decide) (fun c_2 => ?_) (fun c_2 => ?_)
  · refine lv_aload_n hx hb dX12_wrong_8 rfl (lv_at hl 0 rfl) ?_
    refine lv_iload_n hx hb dX12_wrong_9 rfl (lv_at hl 1 rfl) ?_
    refine p_X12_270 Cx hW hL (k := 231) (by decide) rfl dX12_wrong_10 (fun H locs hW hL => ?_)
    have F_3 : Fr S (uF S 231 20 cd) (pl [231]) := (Fr.rf : Fr S S (pl [231])).F rfl
    have g_4 : FF S (uF S 231 20 cd) (fl [20, 21]) := FF.F FF.rf rfl
    have i_5 : dX G (uF S 231 20 cd) := hI.F (i := 20) (show (-2147483648) ≤ cd ∧ cd ≤ 2147483647 from ⟨by omega, by omega⟩)
    refine lv_aload_n hx hb dX12_wrong_13 rfl (lv_at hl 0 rfl) ?_
    refine lv_aload_n hx hb dX12_wrong_14 rfl (lv_at hl 0 rfl) ?_
    refine g_X12_50 Cx hW (k := 231) (by decide) rfl (v := .ref (G.2.2.1 + 245)) (rd_16 i_5) dX12_wrong_15 ?_
    refine lv_iload_n hx hb dX12_wrong_18 rfl (lv_at hl 2 rfl) ?_
    refine rIald Cx hW (k := 245) (by decide) rfl (by decide) (by omega) (by omega) dX12_wrong_19 ?_
    have q_6 : (-2147483648) ≤ S.2.1 245 tk ∧ S.2.1 245 tk ≤ 2147483647 := hI.ai 245 tk
    refine r_i (b := S.2.1 245 tk) uF_a ?_
    refine p_X12_273 Cx hW hL (k := 231) (by decide) rfl dX12_wrong_20 (fun H locs hW hL => ?_)
    have F_7 : Fr S (uF (uF S 231 20 cd) 231 21 (S.2.1 245 tk)) (pl [231]) := F_3.F rfl
    have g_8 : FF S (uF (uF S 231 20 cd) 231 21 (S.2.1 245 tk)) (fl [20, 21]) := FF.F g_4 rfl
    have i_9 : dX G (uF (uF S 231 20 cd) 231 21 (S.2.1 245 tk)) := i_5.F (i := 21) (show (-2147483648) ≤ S.2.1 245 tk ∧ S.2.1 245 tk ≤ 2147483647 from ⟨by omega, by omega⟩)
    have lk_10 : (uF (uF S 231 20 cd) 231 21 (S.2.1 245 tk)).1 231 20 = cd := (uF_ne (fun h => absurd h.2 (by decide))).trans (uF_on)
    exact sVret Cx hr hlk hW hL ⟨i_9, F_7, g_8, (by omega)⟩ dX12_wrong_23
  · exact sVret Cx hr hlk hW hL ⟨hI, (Fr.rf : Fr S S (pl [231])), FF.rf, (by omega)⟩ dX12_wrong_7

set_option maxRecDepth 100000 in
set_option maxHeartbeats 4000000 in
theorem s_X12_isSign (l : Launch) (G : sG) (S : sS) {K V : Int → Int} {pz sv : Int} (hI : dX G S) (hsv : -2147483648 ≤ sv ∧ sv ≤ 2147483647) (hK : S.2.1 244 = K) (hV : S.2.1 247 = V) (hc : S.1 231 24 = pz) (hp : 0 ≤ pz ∧ pz < 30004) : Met l yX12_isSign (.code yX12_isSign cX12_isSign 2 (some .boolean) :: tb) (rmk 1 0 0) (sPc G 294 S [.ref (G.2.2.1 + 231), .int (iv sv)]) (sQi G 294 (fun r u => u = S ∧ ((0 ≤ r ∧ r ≤ 1) ∧ Hd (r = 1 → gS K V pz sv) ∧ Hd (r ≠ 1 → ¬ gS K V pz sv)))) 0 0 (sF G) := by
  refine sEnter (by decide) (Nat.le_of_ble_eq_true rfl) ?_
  intro p e s m args below meth c Cx hr hlk hnm hW ls hl
  have Cx : sC G p m c cX12_isSign 2 s args RX12 := Cx
  obtain ⟨hx, hb, hml, hown, hts⟩ := id Cx.1
  have hL : sL G [] := sL_nil
  have hl : lv_has ls 2 [(0, .ref (G.2.2.1 + 231)), (1, .int (iv sv))] := hl
  have hW0 := hW
  refine lv_aload_n hx hb dX12_isSign_0 rfl (lv_at hl 0 rfl) ?_
  refine g_X12_47 Cx hW (k := 231) (by decide) rfl (v := .ref (G.2.2.1 + 244)) (rd_15 hI) dX12_isSign_1 ?_
  refine lv_aload_n hx hb dX12_isSign_4 rfl (lv_at hl 0 rfl) ?_
  have q_1 : (-2147483648) ≤ S.1 231 24 ∧ S.1 231 24 ≤ 2147483647 := hI.fi 24
  refine g_X12_315 Cx hW (k := 231) (by decide) rfl (v := S.1 231 24) rfl dX12_isSign_5 ?_
  refine rIald Cx hW (k := 244) (by decide) rfl (by decide) (by omega) (by omega) dX12_isSign_8 ?_
  have q_2 : (-2147483648) ≤ S.2.1 244 (S.1 231 24) ∧ S.2.1 244 (S.1 231 24) ≤ 2147483647 := hI.ai 244 (S.1 231 24)
  refine r_i (b := S.2.1 244 (S.1 231 24)) rfl ?_
  have hr1 : K pz = S.2.1 244 (S.1 231 24) := by rw [← hK, ← hc]
  refine lv_iconst (v := iv 4) hx hb dX12_isSign_9 (by decide) ?_
  refine r_icmp_ne (tgt := 30) hx hb ⟨(by omega), (by omega)⟩ ⟨(by omega), (by omega)⟩ dX12_isSign_10 (by decide) (fun c_3 => ?_) (fun c_3 => ?_)
  · refine lv_iconst (v := iv 0) hx hb dX12_isSign_30 (by decide) ?_
    exact sZret Cx hr hlk hW hL (by omega) ⟨rfl, ⟨(by omega), (fun q => absurd q (by omega)), (fun _ h => by unfold gS at h; omega)⟩⟩ dX12_isSign_31
  · refine lv_aload_n hx hb dX12_isSign_13 rfl (lv_at hl 0 rfl) ?_
    refine g_X12_56 Cx hW (k := 231) (by decide) rfl (v := .ref (G.2.2.1 + 247)) (rd_18 hI) dX12_isSign_14 ?_
    refine lv_aload_n hx hb dX12_isSign_17 rfl (lv_at hl 0 rfl) ?_
    refine g_X12_315 Cx hW (k := 231) (by decide) rfl (v := S.1 231 24) rfl dX12_isSign_18 ?_
    refine rIald Cx hW (k := 247) (by decide) rfl (by decide) (by omega) (by omega) dX12_isSign_21 ?_
    have q_4 : (-2147483648) ≤ S.2.1 247 (S.1 231 24) ∧ S.2.1 247 (S.1 231 24) ≤ 2147483647 := hI.ai 247 (S.1 231 24)
    refine r_i (b := S.2.1 247 (S.1 231 24)) rfl ?_
    have hr2 : V pz = S.2.1 247 (S.1 231 24) := by rw [← hV, ← hc]
    refine lv_iload_n hx hb dX12_isSign_22 rfl (lv_at hl 1 rfl) ?_
    refine r_icmp_ne (tgt := 30) hx hb ⟨(by omega), (by omega)⟩ ⟨(by omega), (by omega)⟩ dX12_isSign_23 (by decide) (fun c_5 => ?_) (fun c_5 => ?_)
    · refine lv_iconst (v := iv 0) hx hb dX12_isSign_30 (by decide) ?_
      exact sZret Cx hr hlk hW hL (by omega) ⟨rfl, ⟨(by omega), (fun q => absurd q (by omega)), (fun _ h => by unfold gS at h; omega)⟩⟩ dX12_isSign_31
    · refine lv_iconst (v := iv 1) hx hb dX12_isSign_26 (by decide) ?_
      refine lv_goto (tgt := 31) hx hb dX12_isSign_27 (by decide) ?_
      exact sZret Cx hr hlk hW hL (by omega) ⟨rfl, ⟨(by omega), (fun _ => ⟨(by omega), (by omega)⟩), (fun q => absurd rfl q)⟩⟩ dX12_isSign_31

set_option maxRecDepth 100000 in
set_option maxHeartbeats 4000000 in
theorem s_X12_isWord (l : Launch) (G : sG) (S : sS) {K V : Int → Int} {pz sv : Int} (hI : dX G S) (hsv : -2147483648 ≤ sv ∧ sv ≤ 2147483647) (hK : S.2.1 244 = K) (hV : S.2.1 247 = V) (hc : S.1 231 24 = pz) (hp : 0 ≤ pz ∧ pz < 30004) : Met l yX12_isWord (.code yX12_isWord cX12_isWord 2 (some .boolean) :: tb) (rmk 1 0 0) (sPc G 294 S [.ref (G.2.2.1 + 231), .int (iv sv)]) (sQi G 294 (fun r u => u = S ∧ ((0 ≤ r ∧ r ≤ 1) ∧ Hd (r = 1 → gW K V pz sv) ∧ Hd (r ≠ 1 → ¬ gW K V pz sv)))) 0 0 (sF G) := by
  refine sEnter (by decide) (Nat.le_of_ble_eq_true rfl) ?_
  intro p e s m args below meth c Cx hr hlk hnm hW ls hl
  have Cx : sC G p m c cX12_isWord 2 s args RX12 := Cx
  obtain ⟨hx, hb, hml, hown, hts⟩ := id Cx.1
  have hL : sL G [] := sL_nil
  have hl : lv_has ls 2 [(0, .ref (G.2.2.1 + 231)), (1, .int (iv sv))] := hl
  have hW0 := hW
  refine lv_aload_n hx hb dX12_isWord_0 rfl (lv_at hl 0 rfl) ?_
  refine g_X12_47 Cx hW (k := 231) (by decide) rfl (v := .ref (G.2.2.1 + 244)) (rd_15 hI) dX12_isWord_1 ?_
  refine lv_aload_n hx hb dX12_isWord_4 rfl (lv_at hl 0 rfl) ?_
  have q_1 : (-2147483648) ≤ S.1 231 24 ∧ S.1 231 24 ≤ 2147483647 := hI.fi 24
  refine g_X12_315 Cx hW (k := 231) (by decide) rfl (v := S.1 231 24) rfl dX12_isWord_5 ?_
  refine rIald Cx hW (k := 244) (by decide) rfl (by decide) (by omega) (by omega) dX12_isWord_8 ?_
  have q_2 : (-2147483648) ≤ S.2.1 244 (S.1 231 24) ∧ S.2.1 244 (S.1 231 24) ≤ 2147483647 := hI.ai 244 (S.1 231 24)
  refine r_i (b := S.2.1 244 (S.1 231 24)) rfl ?_
  have hr1 : K pz = S.2.1 244 (S.1 231 24) := by rw [← hK, ← hc]
  refine lv_iconst (v := iv 3) hx hb dX12_isWord_9 (by decide) ?_
  refine r_icmp_ne (tgt := 30) hx hb ⟨(by omega), (by omega)⟩ ⟨(by omega), (by omega)⟩ dX12_isWord_10 (by decide) (fun c_3 => ?_) (fun c_3 => ?_)
  · refine lv_iconst (v := iv 0) hx hb dX12_isWord_30 (by decide) ?_
    exact sZret Cx hr hlk hW hL (by omega) ⟨rfl, ⟨(by omega), (fun q => absurd q (by omega)), (fun _ h => by unfold gW at h; omega)⟩⟩ dX12_isWord_31
  · refine lv_aload_n hx hb dX12_isWord_13 rfl (lv_at hl 0 rfl) ?_
    refine g_X12_56 Cx hW (k := 231) (by decide) rfl (v := .ref (G.2.2.1 + 247)) (rd_18 hI) dX12_isWord_14 ?_
    refine lv_aload_n hx hb dX12_isWord_17 rfl (lv_at hl 0 rfl) ?_
    refine g_X12_315 Cx hW (k := 231) (by decide) rfl (v := S.1 231 24) rfl dX12_isWord_18 ?_
    refine rIald Cx hW (k := 247) (by decide) rfl (by decide) (by omega) (by omega) dX12_isWord_21 ?_
    have q_4 : (-2147483648) ≤ S.2.1 247 (S.1 231 24) ∧ S.2.1 247 (S.1 231 24) ≤ 2147483647 := hI.ai 247 (S.1 231 24)
    refine r_i (b := S.2.1 247 (S.1 231 24)) rfl ?_
    have hr2 : V pz = S.2.1 247 (S.1 231 24) := by rw [← hV, ← hc]
    refine lv_iload_n hx hb dX12_isWord_22 rfl (lv_at hl 1 rfl) ?_
    refine r_icmp_ne (tgt := 30) hx hb ⟨(by omega), (by omega)⟩ ⟨(by omega), (by omega)⟩ dX12_isWord_23 (by decide) (fun c_5 => ?_) (fun c_5 => ?_)
    · refine lv_iconst (v := iv 0) hx hb dX12_isWord_30 (by decide) ?_
      exact sZret Cx hr hlk hW hL (by omega) ⟨rfl, ⟨(by omega), (fun q => absurd q (by omega)), (fun _ h => by unfold gW at h; omega)⟩⟩ dX12_isWord_31
    · refine lv_iconst (v := iv 1) hx hb dX12_isWord_26 (by decide) ?_
      refine lv_goto (tgt := 31) hx hb dX12_isWord_27 (by decide) ?_
      exact sZret Cx hr hlk hW hL (by omega) ⟨rfl, ⟨(by omega), (fun _ => ⟨(by omega), (by omega)⟩), (fun q => absurd rfl q)⟩⟩ dX12_isWord_31

set_option maxRecDepth 100000 in
set_option maxHeartbeats 4000000 in
theorem s_X12_want (l : Launch) (G : sG) (S : sS) {K V : Int → Int} {T pz : Int} {sv : Int} (hI : dX G S) (hsv : -2147483648 ≤ sv ∧ sv ≤ 2147483647) (hK : S.2.1 244 = K) (hV : S.2.1 247 = V) (hE : gE K T) (hc : S.1 231 24 = pz) (hcu : Hd (S.1 231 20 = 0 → 0 ≤ pz ∧ pz ≤ T - 1)) : Met l yX12_want (.code yX12_want cX12_want 2 none :: tb) (rmk 2 0 0) (sPc G 294 S [.ref (G.2.2.1 + 231), .int (iv sv)]) (sQv G 294 (fun u => dX G u ∧ Fr S u (pl [231]) ∧ FF S u (fl [20, 21, 24]) ∧ (Hd (u.1 231 20 = 0 → S.1 231 20 = 0 ∧ gs K V sv pz (u.1 231 24) ∧ pz < u.1 231 24 ∧ 0 ≤ u.1 231 24 ∧ u.1 231 24 ≤ T - 1)))) 0 0 (sF G) := by
  refine sEnter (by decide) (Nat.le_of_ble_eq_true rfl) ?_
  intro p e s m args below meth c Cx hr hlk hnm hW ls hl
  have Cx : sC G p m c cX12_want 2 s args RX12 := Cx
  obtain ⟨hx, hb, hml, hown, hts⟩ := id Cx.1
  have hL : sL G [] := sL_nil
  have hl : lv_has ls 2 [(0, .ref (G.2.2.1 + 231)), (1, .int (iv sv))] := hl
  have hW0 := hW
  have hE1 := hE.1
  refine lv_aload_n hx hb dX12_want_0 rfl (lv_at hl 0 rfl) ?_
  have q_1 : (-2147483648) ≤ S.1 231 20 ∧ S.1 231 20 ≤ 2147483647 := hI.fi 20
  refine g_X12_270 Cx hW (k := 231) (by decide) rfl (v := S.1 231 20) rfl dX12_want_1 ?_
  refine r_if_ne (tgt := 24) hx hb ⟨(by omega), (by omega)⟩ dX12_want_4 (by decide) (fun c_2 => ?_) (fun c_2 => ?_)
  · refine lv_aload_n hx hb dX12_want_24 rfl (lv_at hl 0 rfl) ?_
    refine lv_dup hx hb dX12_want_25 rfl ?_
    have q_3 : (-2147483648) ≤ S.1 231 24 ∧ S.1 231 24 ≤ 2147483647 := hI.fi 24
    refine g_X12_315 Cx hW (k := 231) (by decide) rfl (v := S.1 231 24) rfl dX12_want_26 ?_
    refine lv_iconst (v := iv 1) hx hb dX12_want_29 (by decide) ?_
    refine r_iadd hx hb dX12_want_30 ?_
    obtain ⟨z_4, ez_4, hz_4, kz_4⟩ := iv_of (iv ((S.1 231 24) + 1))
    rw [ez_4]
    refine p_X12_315 Cx hW hL (k := 231) (by decide) rfl dX12_want_31 (fun H locs hW hL => ?_)
    have F_5 : Fr S (uF S 231 24 z_4) (pl [231]) := (Fr.rf : Fr S S (pl [231])).F rfl
    have g_6 : FF S (uF S 231 24 z_4) (fl [20, 21, 24]) := FF.F FF.rf rfl
    have i_7 : dX G (uF S 231 24 z_4) := hI.F (i := 24) (show (-2147483648) ≤ z_4 ∧ z_4 ≤ 2147483647 from ⟨by omega, by omega⟩)
    have lk_8 : (uF S 231 24 z_4).1 231 20 = S.1 231 20 := uF_ne (fun h => absurd h.2 (by decide))
    have lk_9 : (uF S 231 24 z_4).1 231 24 = z_4 := uF_on
    exact sVret Cx hr hlk hW hL ⟨i_7, F_5, g_6, (fun h => by have e8 := (show (uF S 231 24 z_4).1 231 20 = S.1 231 20 from uF_ne (fun h => absurd h.2 (by decide))); exfalso; omega)⟩ dX12_want_34
  · have b_10 := hcu (by have e9 := (show S.1 231 20 = S.1 231 20 from rfl); omega)
    refine lv_aload_n hx hb dX12_want_7 rfl (lv_at hl 0 rfl) ?_
    refine lv_iload_n hx hb dX12_want_8 rfl (lv_at hl 1 rfl) ?_
    have q_11 : (-2147483648) ≤ S.1 231 24 ∧ S.1 231 24 ≤ 2147483647 := hI.fi 24
    refine sBi (sV (As := [.int (iv sv)]) (rest := []) (k := 231) Cx (s_X12_isSign l G S (sv := sv) (K := K) (V := V) (pz := pz) hI (by omega) hK hV (by omega) (by omega)) (c_X12_318 Cx rfl rfl (rmk_ok (by omega) (by decide))) hW (by decide) rfl rfl rfl hl.1 rfl (Nat.le_of_ble_eq_true rfl) dX12_want_9 ⟨Nat.le_of_ble_eq_true rfl, Nat.le_of_ble_eq_true rfl⟩) hL (fun r_14 u_12 H locs k_13 hW hL => ?_)
    obtain ⟨eu_12, xu_12⟩ := k_13
    rw [eu_12] at hW
    refine r_if_ne (tgt := 24) hx hb ⟨(by omega), (by omega)⟩ dX12_want_12 (by decide) (fun c_15 => ?_) (fun c_15 => ?_)
    · refine lv_aload_n hx hb dX12_want_24 rfl (lv_at hl 0 rfl) ?_
      refine lv_dup hx hb dX12_want_25 rfl ?_
      refine g_X12_315 Cx hW (k := 231) (by decide) rfl (v := S.1 231 24) rfl dX12_want_26 ?_
      refine lv_iconst (v := iv 1) hx hb dX12_want_29 (by decide) ?_
      refine r_iadd hx hb dX12_want_30 ?_
      refine p_X12_315 Cx hW hL (k := 231) (by decide) rfl dX12_want_31 (fun H locs hW hL => ?_)
      have F_16 : Fr S (uF S 231 24 ((S.1 231 24) + 1)) (pl [231]) := (Fr.rf : Fr S S (pl [231])).F rfl
      have g_17 : FF S (uF S 231 24 ((S.1 231 24) + 1)) (fl [20, 21, 24]) := FF.F FF.rf rfl
      have i_18 : dX G (uF S 231 24 ((S.1 231 24) + 1)) := hI.F (i := 24) (show (-2147483648) ≤ (S.1 231 24) + 1 ∧ (S.1 231 24) + 1 ≤ 2147483647 from ⟨by omega, by omega⟩)
      have lk_19 : (uF S 231 24 ((S.1 231 24) + 1)).1 231 20 = S.1 231 20 := uF_ne (fun h => absurd h.2 (by decide))
      have lk_20 : (uF S 231 24 ((S.1 231 24) + 1)).1 231 24 = (S.1 231 24) + 1 := uF_on
      exact sVret Cx hr hlk hW hL ⟨i_18, F_16, g_17, (fun h => by have e8 := (show (uF S 231 24 ((S.1 231 24) + 1)).1 231 20 = S.1 231 20 from uF_ne (fun h => absurd h.2 (by decide))); have e7 := (show (uF S 231 24 ((S.1 231 24) + 1)).1 231 24 = (S.1 231 24) + 1 from uF_on); have n9 := hE.nx (pz := pz) (hcu (by omega)) (by have z := (xu_12.2.1 (by omega)); unfold gS at z; omega); have n8 := hcu (by omega); exact ⟨(show S.1 231 20 = 0 by have e9 := (show (uF S 231 24 ((S.1 231 24) + 1)).1 231 20 = S.1 231 20 from uF_ne (fun h => absurd h.2 (by decide))); omega), ⟨(xu_12.2.1 (by omega)), by omega⟩, by omega, by omega, by omega⟩)⟩ dX12_want_34
    · refine lv_aload_n hx hb dX12_want_15 rfl (lv_at hl 0 rfl) ?_
      refine lv_iconst (v := iv 1) hx hb dX12_want_16 (by decide) ?_
      refine lv_aload_n hx hb dX12_want_17 rfl (lv_at hl 0 rfl) ?_
      refine g_X12_315 Cx hW (k := 231) (by decide) rfl (v := S.1 231 24) rfl dX12_want_18 ?_
      refine sBv (sV (As := [.int (iv 1), .int (iv (S.1 231 24))]) (rest := []) (k := 231) Cx (s_X12_wrong l G S (cd := 1) (tk := S.1 231 24) hI (by omega) (by omega)) (c_X12_321 Cx rfl rfl (rmk_ok (by omega) (by decide))) hW (by decide) rfl rfl rfl hl.1 rfl (Nat.le_of_ble_eq_true rfl) dX12_want_21 ⟨Nat.le_of_ble_eq_true rfl, Nat.le_of_ble_eq_true rfl⟩) hL (fun u_21 H locs k_22 hW hL => ?_)
      obtain ⟨iu_21, fu_21, gu_21, xu_21⟩ := k_22
      have F_23 := (Fr.rf : Fr S S (pl [231])).trans fu_21
      have g_24 : FF S u_21 (fl [20, 21, 24]) := FF.trans FF.rf (FF.to gu_21 (fl_sub (by decide)))
      refine lv_aload_n hx hb dX12_want_24 rfl (lv_at hl 0 rfl) ?_
      refine lv_dup hx hb dX12_want_25 rfl ?_
      refine g_X12_315 Cx hW (k := 231) (by decide) rfl (v := S.1 231 24) (gu_21 24 rfl) dX12_want_26 ?_
      refine lv_iconst (v := iv 1) hx hb dX12_want_29 (by decide) ?_
      refine r_iadd hx hb dX12_want_30 ?_
      refine p_X12_315 Cx hW hL (k := 231) (by decide) rfl dX12_want_31 (fun H locs hW hL => ?_)
      have F_25 : Fr S (uF u_21 231 24 ((S.1 231 24) + 1)) (pl [231]) := F_23.F rfl
      have g_26 : FF S (uF u_21 231 24 ((S.1 231 24) + 1)) (fl [20, 21, 24]) := FF.F g_24 rfl
      have i_27 : dX G (uF u_21 231 24 ((S.1 231 24) + 1)) := iu_21.F (i := 24) (show (-2147483648) ≤ (S.1 231 24) + 1 ∧ (S.1 231 24) + 1 ≤ 2147483647 from ⟨by omega, by omega⟩)
      have q_28 : (-2147483648) ≤ u_21.1 231 20 ∧ u_21.1 231 20 ≤ 2147483647 := iu_21.fi 20
      have lk_29 : (uF u_21 231 24 ((S.1 231 24) + 1)).1 231 20 = u_21.1 231 20 := uF_ne (fun h => absurd h.2 (by decide))
      have lk_30 : (uF u_21 231 24 ((S.1 231 24) + 1)).1 231 24 = (S.1 231 24) + 1 := uF_on
      exact sVret Cx hr hlk hW hL ⟨i_27, F_25, g_26, (fun h => absurd h (by have e9 := (show (uF u_21 231 24 ((S.1 231 24) + 1)).1 231 20 = u_21.1 231 20 from uF_ne (fun h => absurd h.2 (by decide))); have a9 := xu_21; omega))⟩ dX12_want_34

set_option maxRecDepth 100000 in
set_option maxHeartbeats 4000000 in
theorem s_X12_wantWord (l : Launch) (G : sG) (S : sS) {K V : Int → Int} {T pz : Int} {sv : Int} (hI : dX G S) (hsv : -2147483648 ≤ sv ∧ sv ≤ 2147483647) (hK : S.2.1 244 = K) (hV : S.2.1 247 = V) (hE : gE K T) (hc : S.1 231 24 = pz) (hcu : Hd (S.1 231 20 = 0 → 0 ≤ pz ∧ pz ≤ T - 1)) : Met l yX12_wantWord (.code yX12_wantWord cX12_wantWord 2 none :: tb) (rmk 2 0 0) (sPc G 294 S [.ref (G.2.2.1 + 231), .int (iv sv)]) (sQv G 294 (fun u => dX G u ∧ Fr S u (pl [231]) ∧ FF S u (fl [20, 21, 24]) ∧ (Hd (u.1 231 20 = 0 → S.1 231 20 = 0 ∧ gw K V sv pz (u.1 231 24) ∧ pz < u.1 231 24 ∧ 0 ≤ u.1 231 24 ∧ u.1 231 24 ≤ T - 1)))) 0 0 (sF G) := by
  refine sEnter (by decide) (Nat.le_of_ble_eq_true rfl) ?_
  intro p e s m args below meth c Cx hr hlk hnm hW ls hl
  have Cx : sC G p m c cX12_wantWord 2 s args RX12 := Cx
  obtain ⟨hx, hb, hml, hown, hts⟩ := id Cx.1
  have hL : sL G [] := sL_nil
  have hl : lv_has ls 2 [(0, .ref (G.2.2.1 + 231)), (1, .int (iv sv))] := hl
  have hW0 := hW
  have hE1 := hE.1
  refine lv_aload_n hx hb dX12_wantWord_0 rfl (lv_at hl 0 rfl) ?_
  have q_1 : (-2147483648) ≤ S.1 231 20 ∧ S.1 231 20 ≤ 2147483647 := hI.fi 20
  refine g_X12_270 Cx hW (k := 231) (by decide) rfl (v := S.1 231 20) rfl dX12_wantWord_1 ?_
  refine r_if_ne (tgt := 24) hx hb ⟨(by omega), (by omega)⟩ dX12_wantWord_4 (by decide) (fun c_2 => ?_) (fun c_2 => ?_)
  · refine lv_aload_n hx hb dX12_wantWord_24 rfl (lv_at hl 0 rfl) ?_
    refine lv_dup hx hb dX12_wantWord_25 rfl ?_
    have q_3 : (-2147483648) ≤ S.1 231 24 ∧ S.1 231 24 ≤ 2147483647 := hI.fi 24
    refine g_X12_315 Cx hW (k := 231) (by decide) rfl (v := S.1 231 24) rfl dX12_wantWord_26 ?_
    refine lv_iconst (v := iv 1) hx hb dX12_wantWord_29 (by decide) ?_
    refine r_iadd hx hb dX12_wantWord_30 ?_
    obtain ⟨z_4, ez_4, hz_4, kz_4⟩ := iv_of (iv ((S.1 231 24) + 1))
    rw [ez_4]
    refine p_X12_315 Cx hW hL (k := 231) (by decide) rfl dX12_wantWord_31 (fun H locs hW hL => ?_)
    have F_5 : Fr S (uF S 231 24 z_4) (pl [231]) := (Fr.rf : Fr S S (pl [231])).F rfl
    have g_6 : FF S (uF S 231 24 z_4) (fl [20, 21, 24]) := FF.F FF.rf rfl
    have i_7 : dX G (uF S 231 24 z_4) := hI.F (i := 24) (show (-2147483648) ≤ z_4 ∧ z_4 ≤ 2147483647 from ⟨by omega, by omega⟩)
    have lk_8 : (uF S 231 24 z_4).1 231 20 = S.1 231 20 := uF_ne (fun h => absurd h.2 (by decide))
    have lk_9 : (uF S 231 24 z_4).1 231 24 = z_4 := uF_on
    exact sVret Cx hr hlk hW hL ⟨i_7, F_5, g_6, (fun h => by have e8 := (show (uF S 231 24 z_4).1 231 20 = S.1 231 20 from uF_ne (fun h => absurd h.2 (by decide))); exfalso; omega)⟩ dX12_wantWord_34
  · have b_10 := hcu (by have e9 := (show S.1 231 20 = S.1 231 20 from rfl); omega)
    refine lv_aload_n hx hb dX12_wantWord_7 rfl (lv_at hl 0 rfl) ?_
    refine lv_iload_n hx hb dX12_wantWord_8 rfl (lv_at hl 1 rfl) ?_
    have q_11 : (-2147483648) ≤ S.1 231 24 ∧ S.1 231 24 ≤ 2147483647 := hI.fi 24
    refine sBi (sV (As := [.int (iv sv)]) (rest := []) (k := 231) Cx (s_X12_isWord l G S (sv := sv) (K := K) (V := V) (pz := pz) hI (by omega) hK hV (by omega) (by omega)) (c_X12_325 Cx rfl rfl (rmk_ok (by omega) (by decide))) hW (by decide) rfl rfl rfl hl.1 rfl (Nat.le_of_ble_eq_true rfl) dX12_wantWord_9 ⟨Nat.le_of_ble_eq_true rfl, Nat.le_of_ble_eq_true rfl⟩) hL (fun r_14 u_12 H locs k_13 hW hL => ?_)
    obtain ⟨eu_12, xu_12⟩ := k_13
    rw [eu_12] at hW
    refine r_if_ne (tgt := 24) hx hb ⟨(by omega), (by omega)⟩ dX12_wantWord_12 (by decide) (fun c_15 => ?_) (fun c_15 => ?_)
    · refine lv_aload_n hx hb dX12_wantWord_24 rfl (lv_at hl 0 rfl) ?_
      refine lv_dup hx hb dX12_wantWord_25 rfl ?_
      refine g_X12_315 Cx hW (k := 231) (by decide) rfl (v := S.1 231 24) rfl dX12_wantWord_26 ?_
      refine lv_iconst (v := iv 1) hx hb dX12_wantWord_29 (by decide) ?_
      refine r_iadd hx hb dX12_wantWord_30 ?_
      refine p_X12_315 Cx hW hL (k := 231) (by decide) rfl dX12_wantWord_31 (fun H locs hW hL => ?_)
      have F_16 : Fr S (uF S 231 24 ((S.1 231 24) + 1)) (pl [231]) := (Fr.rf : Fr S S (pl [231])).F rfl
      have g_17 : FF S (uF S 231 24 ((S.1 231 24) + 1)) (fl [20, 21, 24]) := FF.F FF.rf rfl
      have i_18 : dX G (uF S 231 24 ((S.1 231 24) + 1)) := hI.F (i := 24) (show (-2147483648) ≤ (S.1 231 24) + 1 ∧ (S.1 231 24) + 1 ≤ 2147483647 from ⟨by omega, by omega⟩)
      have lk_19 : (uF S 231 24 ((S.1 231 24) + 1)).1 231 20 = S.1 231 20 := uF_ne (fun h => absurd h.2 (by decide))
      have lk_20 : (uF S 231 24 ((S.1 231 24) + 1)).1 231 24 = (S.1 231 24) + 1 := uF_on
      exact sVret Cx hr hlk hW hL ⟨i_18, F_16, g_17, (fun h => by have e8 := (show (uF S 231 24 ((S.1 231 24) + 1)).1 231 20 = S.1 231 20 from uF_ne (fun h => absurd h.2 (by decide))); have e7 := (show (uF S 231 24 ((S.1 231 24) + 1)).1 231 24 = (S.1 231 24) + 1 from uF_on); have n9 := hE.nx (pz := pz) (hcu (by omega)) (by have z := (xu_12.2.1 (by omega)); unfold gW at z; omega); have n8 := hcu (by omega); exact ⟨(show S.1 231 20 = 0 by have e9 := (show (uF S 231 24 ((S.1 231 24) + 1)).1 231 20 = S.1 231 20 from uF_ne (fun h => absurd h.2 (by decide))); omega), ⟨(xu_12.2.1 (by omega)), by omega⟩, by omega, by omega, by omega⟩)⟩ dX12_wantWord_34
    · refine lv_aload_n hx hb dX12_wantWord_15 rfl (lv_at hl 0 rfl) ?_
      refine lv_iconst (v := iv 1) hx hb dX12_wantWord_16 (by decide) ?_
      refine lv_aload_n hx hb dX12_wantWord_17 rfl (lv_at hl 0 rfl) ?_
      refine g_X12_315 Cx hW (k := 231) (by decide) rfl (v := S.1 231 24) rfl dX12_wantWord_18 ?_
      refine sBv (sV (As := [.int (iv 1), .int (iv (S.1 231 24))]) (rest := []) (k := 231) Cx (s_X12_wrong l G S (cd := 1) (tk := S.1 231 24) hI (by omega) (by omega)) (c_X12_321 Cx rfl rfl (rmk_ok (by omega) (by decide))) hW (by decide) rfl rfl rfl hl.1 rfl (Nat.le_of_ble_eq_true rfl) dX12_wantWord_21 ⟨Nat.le_of_ble_eq_true rfl, Nat.le_of_ble_eq_true rfl⟩) hL (fun u_21 H locs k_22 hW hL => ?_)
      obtain ⟨iu_21, fu_21, gu_21, xu_21⟩ := k_22
      have F_23 := (Fr.rf : Fr S S (pl [231])).trans fu_21
      have g_24 : FF S u_21 (fl [20, 21, 24]) := FF.trans FF.rf (FF.to gu_21 (fl_sub (by decide)))
      refine lv_aload_n hx hb dX12_wantWord_24 rfl (lv_at hl 0 rfl) ?_
      refine lv_dup hx hb dX12_wantWord_25 rfl ?_
      refine g_X12_315 Cx hW (k := 231) (by decide) rfl (v := S.1 231 24) (gu_21 24 rfl) dX12_wantWord_26 ?_
      refine lv_iconst (v := iv 1) hx hb dX12_wantWord_29 (by decide) ?_
      refine r_iadd hx hb dX12_wantWord_30 ?_
      refine p_X12_315 Cx hW hL (k := 231) (by decide) rfl dX12_wantWord_31 (fun H locs hW hL => ?_)
      have F_25 : Fr S (uF u_21 231 24 ((S.1 231 24) + 1)) (pl [231]) := F_23.F rfl
      have g_26 : FF S (uF u_21 231 24 ((S.1 231 24) + 1)) (fl [20, 21, 24]) := FF.F g_24 rfl
      have i_27 : dX G (uF u_21 231 24 ((S.1 231 24) + 1)) := iu_21.F (i := 24) (show (-2147483648) ≤ (S.1 231 24) + 1 ∧ (S.1 231 24) + 1 ≤ 2147483647 from ⟨by omega, by omega⟩)
      have q_28 : (-2147483648) ≤ u_21.1 231 20 ∧ u_21.1 231 20 ≤ 2147483647 := iu_21.fi 20
      have lk_29 : (uF u_21 231 24 ((S.1 231 24) + 1)).1 231 20 = u_21.1 231 20 := uF_ne (fun h => absurd h.2 (by decide))
      have lk_30 : (uF u_21 231 24 ((S.1 231 24) + 1)).1 231 24 = (S.1 231 24) + 1 := uF_on
      exact sVret Cx hr hlk hW hL ⟨i_27, F_25, g_26, (fun h => absurd h (by have e9 := (show (uF u_21 231 24 ((S.1 231 24) + 1)).1 231 20 = u_21.1 231 20 from uF_ne (fun h => absurd h.2 (by decide))); have a9 := xu_21; omega))⟩ dX12_wantWord_34

set_option maxRecDepth 100000 in
set_option maxHeartbeats 4000000 in
theorem s_X12_wantKind (l : Launch) (G : sG) (S : sS) {K V : Int → Int} {T pz : Int} {k : Int} (hI : dX G S) (hk : 1 ≤ k ∧ k ≤ 4) (hK : S.2.1 244 = K) (hV : S.2.1 247 = V) (hE : gE K T) (hc : S.1 231 24 = pz) (hcu : Hd (S.1 231 20 = 0 → 0 ≤ pz ∧ pz ≤ T - 1)) : Met l yX12_wantKind (.code yX12_wantKind cX12_wantKind 2 none :: tb) (rmk 2 0 0) (sPc G 294 S [.ref (G.2.2.1 + 231), .int (iv k)]) (sQv G 294 (fun u => dX G u ∧ Fr S u (pl [231]) ∧ FF S u (fl [20, 21, 24]) ∧ (Hd (u.1 231 20 = 0 → S.1 231 20 = 0 ∧ gk K k pz (u.1 231 24) ∧ pz < u.1 231 24 ∧ 0 ≤ u.1 231 24 ∧ u.1 231 24 ≤ T - 1)))) 0 0 (sF G) := by
  refine sEnter (by decide) (Nat.le_of_ble_eq_true rfl) ?_
  intro p e s m args below meth c Cx hr hlk hnm hW ls hl
  have Cx : sC G p m c cX12_wantKind 2 s args RX12 := Cx
  obtain ⟨hx, hb, hml, hown, hts⟩ := id Cx.1
  have hL : sL G [] := sL_nil
  have hl : lv_has ls 2 [(0, .ref (G.2.2.1 + 231)), (1, .int (iv k))] := hl
  have hW0 := hW
  have hE1 := hE.1
  refine lv_aload_n hx hb dX12_wantKind_0 rfl (lv_at hl 0 rfl) ?_
  have q_1 : (-2147483648) ≤ S.1 231 20 ∧ S.1 231 20 ≤ 2147483647 := hI.fi 20
  refine g_X12_270 Cx hW (k := 231) (by decide) rfl (v := S.1 231 20) rfl dX12_wantKind_1 ?_
  refine r_if_ne (tgt := 29) hx hb ⟨(by omega), (by omega)⟩ dX12_wantKind_4 (by decide) (fun c_2 => ?_) (fun c_2 => ?_)
  · refine lv_aload_n hx hb dX12_wantKind_29 rfl (lv_at hl 0 rfl) ?_
    refine lv_dup hx hb dX12_wantKind_30 rfl ?_
    have q_3 : (-2147483648) ≤ S.1 231 24 ∧ S.1 231 24 ≤ 2147483647 := hI.fi 24
    refine g_X12_315 Cx hW (k := 231) (by decide) rfl (v := S.1 231 24) rfl dX12_wantKind_31 ?_
    refine lv_iconst (v := iv 1) hx hb dX12_wantKind_34 (by decide) ?_
    refine r_iadd hx hb dX12_wantKind_35 ?_
    obtain ⟨z_4, ez_4, hz_4, kz_4⟩ := iv_of (iv ((S.1 231 24) + 1))
    rw [ez_4]
    refine p_X12_315 Cx hW hL (k := 231) (by decide) rfl dX12_wantKind_36 (fun H locs hW hL => ?_)
    have F_5 : Fr S (uF S 231 24 z_4) (pl [231]) := (Fr.rf : Fr S S (pl [231])).F rfl
    have g_6 : FF S (uF S 231 24 z_4) (fl [20, 21, 24]) := FF.F FF.rf rfl
    have i_7 : dX G (uF S 231 24 z_4) := hI.F (i := 24) (show (-2147483648) ≤ z_4 ∧ z_4 ≤ 2147483647 from ⟨by omega, by omega⟩)
    have lk_8 : (uF S 231 24 z_4).1 231 20 = S.1 231 20 := uF_ne (fun h => absurd h.2 (by decide))
    have lk_9 : (uF S 231 24 z_4).1 231 24 = z_4 := uF_on
    exact sVret Cx hr hlk hW hL ⟨i_7, F_5, g_6, (fun h => by have e8 := (show (uF S 231 24 z_4).1 231 20 = S.1 231 20 from uF_ne (fun h => absurd h.2 (by decide))); exfalso; omega)⟩ dX12_wantKind_39
  · have b_10 := hcu (by have e9 := (show S.1 231 20 = S.1 231 20 from rfl); omega)
    refine lv_aload_n hx hb dX12_wantKind_7 rfl (lv_at hl 0 rfl) ?_
    refine g_X12_47 Cx hW (k := 231) (by decide) rfl (v := .ref (G.2.2.1 + 244)) (rd_15 hI) dX12_wantKind_8 ?_
    refine lv_aload_n hx hb dX12_wantKind_11 rfl (lv_at hl 0 rfl) ?_
    have q_11 : (-2147483648) ≤ S.1 231 24 ∧ S.1 231 24 ≤ 2147483647 := hI.fi 24
    refine g_X12_315 Cx hW (k := 231) (by decide) rfl (v := S.1 231 24) rfl dX12_wantKind_12 ?_
    refine rIald Cx hW (k := 244) (by decide) rfl (by decide) (by omega) (by omega) dX12_wantKind_15 ?_
    have q_12 : (-2147483648) ≤ S.2.1 244 (S.1 231 24) ∧ S.2.1 244 (S.1 231 24) ≤ 2147483647 := hI.ai 244 (S.1 231 24)
    refine r_i (b := S.2.1 244 (S.1 231 24)) rfl ?_
    have hr1 : K pz = S.2.1 244 (S.1 231 24) := by rw [← hK, ← hc]
    refine lv_iload_n hx hb dX12_wantKind_16 rfl (lv_at hl 1 rfl) ?_
    refine r_icmp_eq (tgt := 29) hx hb ⟨(by omega), (by omega)⟩ ⟨(by omega), (by omega)⟩ dX12_wantKind_17 (by decide) (fun c_13 => ?_) (fun c_13 => ?_)
    · refine lv_aload_n hx hb dX12_wantKind_29 rfl (lv_at hl 0 rfl) ?_
      refine lv_dup hx hb dX12_wantKind_30 rfl ?_
      refine g_X12_315 Cx hW (k := 231) (by decide) rfl (v := S.1 231 24) rfl dX12_wantKind_31 ?_
      refine lv_iconst (v := iv 1) hx hb dX12_wantKind_34 (by decide) ?_
      refine r_iadd hx hb dX12_wantKind_35 ?_
      refine p_X12_315 Cx hW hL (k := 231) (by decide) rfl dX12_wantKind_36 (fun H locs hW hL => ?_)
      have F_14 : Fr S (uF S 231 24 ((S.1 231 24) + 1)) (pl [231]) := (Fr.rf : Fr S S (pl [231])).F rfl
      have g_15 : FF S (uF S 231 24 ((S.1 231 24) + 1)) (fl [20, 21, 24]) := FF.F FF.rf rfl
      have i_16 : dX G (uF S 231 24 ((S.1 231 24) + 1)) := hI.F (i := 24) (show (-2147483648) ≤ (S.1 231 24) + 1 ∧ (S.1 231 24) + 1 ≤ 2147483647 from ⟨by omega, by omega⟩)
      have lk_17 : (uF S 231 24 ((S.1 231 24) + 1)).1 231 20 = S.1 231 20 := uF_ne (fun h => absurd h.2 (by decide))
      have lk_18 : (uF S 231 24 ((S.1 231 24) + 1)).1 231 24 = (S.1 231 24) + 1 := uF_on
      exact sVret Cx hr hlk hW hL ⟨i_16, F_14, g_15, (fun h => by have e8 := (show (uF S 231 24 ((S.1 231 24) + 1)).1 231 20 = S.1 231 20 from uF_ne (fun h => absurd h.2 (by decide))); have e7 := (show (uF S 231 24 ((S.1 231 24) + 1)).1 231 24 = (S.1 231 24) + 1 from uF_on); have n8 := hcu (by omega); have n9 := hE.nx (pz := pz) (hcu (by omega)) (by omega); exact ⟨(show S.1 231 20 = 0 by have e9 := (show (uF S 231 24 ((S.1 231 24) + 1)).1 231 20 = S.1 231 20 from uF_ne (fun h => absurd h.2 (by decide))); omega), ⟨by omega, by omega⟩, by omega, by omega, by omega⟩)⟩ dX12_wantKind_39
    · refine lv_aload_n hx hb dX12_wantKind_20 rfl (lv_at hl 0 rfl) ?_
      refine lv_iconst (v := iv 1) hx hb dX12_wantKind_21 (by decide) ?_
      refine lv_aload_n hx hb dX12_wantKind_22 rfl (lv_at hl 0 rfl) ?_
      refine g_X12_315 Cx hW (k := 231) (by decide) rfl (v := S.1 231 24) rfl dX12_wantKind_23 ?_
      refine sBv (sV (As := [.int (iv 1), .int (iv (S.1 231 24))]) (rest := []) (k := 231) Cx (s_X12_wrong l G S (cd := 1) (tk := S.1 231 24) hI (by omega) (by omega)) (c_X12_321 Cx rfl rfl (rmk_ok (by omega) (by decide))) hW (by decide) rfl rfl rfl hl.1 rfl (Nat.le_of_ble_eq_true rfl) dX12_wantKind_26 ⟨Nat.le_of_ble_eq_true rfl, Nat.le_of_ble_eq_true rfl⟩) hL (fun u_19 H locs k_20 hW hL => ?_)
      obtain ⟨iu_19, fu_19, gu_19, xu_19⟩ := k_20
      have F_21 := (Fr.rf : Fr S S (pl [231])).trans fu_19
      have g_22 : FF S u_19 (fl [20, 21, 24]) := FF.trans FF.rf (FF.to gu_19 (fl_sub (by decide)))
      refine lv_aload_n hx hb dX12_wantKind_29 rfl (lv_at hl 0 rfl) ?_
      refine lv_dup hx hb dX12_wantKind_30 rfl ?_
      refine g_X12_315 Cx hW (k := 231) (by decide) rfl (v := S.1 231 24) (gu_19 24 rfl) dX12_wantKind_31 ?_
      refine lv_iconst (v := iv 1) hx hb dX12_wantKind_34 (by decide) ?_
      refine r_iadd hx hb dX12_wantKind_35 ?_
      refine p_X12_315 Cx hW hL (k := 231) (by decide) rfl dX12_wantKind_36 (fun H locs hW hL => ?_)
      have F_23 : Fr S (uF u_19 231 24 ((S.1 231 24) + 1)) (pl [231]) := F_21.F rfl
      have g_24 : FF S (uF u_19 231 24 ((S.1 231 24) + 1)) (fl [20, 21, 24]) := FF.F g_22 rfl
      have i_25 : dX G (uF u_19 231 24 ((S.1 231 24) + 1)) := iu_19.F (i := 24) (show (-2147483648) ≤ (S.1 231 24) + 1 ∧ (S.1 231 24) + 1 ≤ 2147483647 from ⟨by omega, by omega⟩)
      have q_26 : (-2147483648) ≤ u_19.1 231 20 ∧ u_19.1 231 20 ≤ 2147483647 := iu_19.fi 20
      have lk_27 : (uF u_19 231 24 ((S.1 231 24) + 1)).1 231 20 = u_19.1 231 20 := uF_ne (fun h => absurd h.2 (by decide))
      have lk_28 : (uF u_19 231 24 ((S.1 231 24) + 1)).1 231 24 = (S.1 231 24) + 1 := uF_on
      exact sVret Cx hr hlk hW hL ⟨i_25, F_23, g_24, (fun h => absurd h (by have e9 := (show (uF u_19 231 24 ((S.1 231 24) + 1)).1 231 20 = u_19.1 231 20 from uF_ne (fun h => absurd h.2 (by decide))); have a9 := xu_19; omega))⟩ dX12_wantKind_39

set_option maxRecDepth 100000 in
set_option maxHeartbeats 4000000 in
theorem s_X12_indexRead (l : Launch) (G : sG) (S : sS) {K V : Int → Int} {T pz : Int}  (hI : dX G S) (hK : S.2.1 244 = K) (hV : S.2.1 247 = V) (hE : gE K T) (hc : S.1 231 24 = pz) (hcu : Hd (S.1 231 20 = 0 → 0 ≤ pz ∧ pz ≤ T - 1)) : Met l yX12_indexRead (.code yX12_indexRead cX12_indexRead 1 none :: tb) (rmk 3 0 0) (sPc G 294 S [.ref (G.2.2.1 + 231)]) (sQv G 294 (fun u => dX G u ∧ Fr S u (pl [231]) ∧ FF S u (fl [20, 21, 24]) ∧ (Hd (u.1 231 20 = 0 → S.1 231 20 = 0 ∧ gX K V pz (u.1 231 24) ∧ pz < u.1 231 24 ∧ 0 ≤ u.1 231 24 ∧ u.1 231 24 ≤ T - 1)))) 0 0 (sF G) := by
  refine sEnter (by decide) (Nat.le_of_ble_eq_true rfl) ?_
  intro p e s m args below meth c Cx hr hlk hnm hW ls hl
  have Cx : sC G p m c cX12_indexRead 1 s args RX12 := Cx
  obtain ⟨hx, hb, hml, hown, hts⟩ := id Cx.1
  have hL : sL G [] := sL_nil
  have hl : lv_has ls 1 [(0, .ref (G.2.2.1 + 231))] := hl
  have hW0 := hW
  have hE1 := hE.1
  refine lv_aload_n hx hb dX12_indexRead_0 rfl (lv_at hl 0 rfl) ?_
  have q_1 : (-2147483648) ≤ S.1 231 20 ∧ S.1 231 20 ≤ 2147483647 := hI.fi 20
  refine g_X12_270 Cx hW (k := 231) (by decide) rfl (v := S.1 231 20) rfl dX12_indexRead_1 ?_
  refine r_if_eq (tgt := 8) hx hb ⟨(by omega), (by omega)⟩ dX12_indexRead_4 (by decide) (fun c_2 => ?_) (fun c_2 => ?_)
  · have b_3 := hcu (by have e9 := (show S.1 231 20 = S.1 231 20 from rfl); omega)
    refine lv_aload_n hx hb dX12_indexRead_8 rfl (lv_at hl 0 rfl) ?_
    refine g_X12_47 Cx hW (k := 231) (by decide) rfl (v := .ref (G.2.2.1 + 244)) (rd_15 hI) dX12_indexRead_9 ?_
    refine lv_aload_n hx hb dX12_indexRead_12 rfl (lv_at hl 0 rfl) ?_
    have q_4 : (-2147483648) ≤ S.1 231 24 ∧ S.1 231 24 ≤ 2147483647 := hI.fi 24
    refine g_X12_315 Cx hW (k := 231) (by decide) rfl (v := S.1 231 24) rfl dX12_indexRead_13 ?_
    refine rIald Cx hW (k := 244) (by decide) rfl (by decide) (by omega) (by omega) dX12_indexRead_16 ?_
    have q_5 : (-2147483648) ≤ S.2.1 244 (S.1 231 24) ∧ S.2.1 244 (S.1 231 24) ≤ 2147483647 := hI.ai 244 (S.1 231 24)
    refine r_i (b := S.2.1 244 (S.1 231 24)) rfl ?_
    have hr1 : K pz = S.2.1 244 (S.1 231 24) := by rw [← hK, ← hc]
    refine lv_iconst (v := iv 2) hx hb dX12_indexRead_17 (by decide) ?_
    refine r_icmp_ne (tgt := 32) hx hb ⟨(by omega), (by omega)⟩ ⟨(by omega), (by omega)⟩ dX12_indexRead_18 (by decide) (fun c_6 => ?_) (fun c_6 => ?_)
    · refine lv_aload_n hx hb dX12_indexRead_32 rfl (lv_at hl 0 rfl) ?_
      refine lv_iconst (v := iv 1) hx hb dX12_indexRead_33 (by decide) ?_
      refine sBv (sV (As := [.int (iv 1)]) (rest := []) (k := 231) Cx (s_X12_wantKind l G S (k := 1) (K := K) (V := V) (T := T) (pz := pz) hI (by omega) hK hV hE (by omega) (fun h => by have e8 := (show S.1 231 20 = S.1 231 20 from rfl); have a9 := hcu (by have e9 := (show S.1 231 20 = S.1 231 20 from rfl); omega); omega)) (c_X12_328 Cx rfl rfl (rmk_ok (by omega) (by decide))) hW (by decide) rfl rfl rfl hl.1 rfl (Nat.le_of_ble_eq_true rfl) dX12_indexRead_34 ⟨Nat.le_of_ble_eq_true rfl, Nat.le_of_ble_eq_true rfl⟩) hL (fun u_7 H locs k_8 hW hL => ?_)
      obtain ⟨iu_7, fu_7, gu_7, xu_7⟩ := k_8
      have F_9 := (Fr.rf : Fr S S (pl [231])).trans fu_7
      have g_10 : FF S u_7 (fl [20, 21, 24]) := FF.trans FF.rf (FF.to gu_7 (fl_sub (by decide)))
      refine lv_aload_n hx hb dX12_indexRead_37 rfl (lv_at hl 0 rfl) ?_
      have q_11 : (-2147483648) ≤ u_7.1 231 20 ∧ u_7.1 231 20 ≤ 2147483647 := iu_7.fi 20
      refine g_X12_270 Cx hW (k := 231) (by decide) rfl (v := u_7.1 231 20) rfl dX12_indexRead_38 ?_
      refine r_if_ne (tgt := 77) hx hb ⟨(by omega), (by omega)⟩ dX12_indexRead_41 (by decide) (fun c_12 => ?_) (fun c_12 => ?_)
      · have q_13 : (-2147483648) ≤ u_7.1 231 24 ∧ u_7.1 231 24 ≤ 2147483647 := iu_7.fi 24
        exact sVret Cx hr hlk hW hL ⟨iu_7, F_9, g_10, (fun h => by have e8 := (show u_7.1 231 20 = u_7.1 231 20 from rfl); have au_7 := xu_7 (by have e9 := (show u_7.1 231 20 = u_7.1 231 20 from rfl); omega); exfalso; omega)⟩ dX12_indexRead_77
      · have b_14 := xu_7 (by have e9 := (show u_7.1 231 20 = u_7.1 231 20 from rfl); omega)
        refine lv_aload_n hx hb dX12_indexRead_44 rfl (lv_at hl 0 rfl) ?_
        refine lv_bipush (v := iv 43) hx hb dX12_indexRead_45 (by decide) ?_
        have q_15 : (-2147483648) ≤ u_7.1 231 24 ∧ u_7.1 231 24 ≤ 2147483647 := iu_7.fi 24
        refine sBi (sV (As := [.int (iv 43)]) (rest := []) (k := 231) Cx (s_X12_isSign l G u_7 (sv := 43) (K := K) (V := V) (pz := u_7.1 231 24) iu_7 (by omega) ((funext fun j => (fu_7 244 rfl).2.1 j : u_7.2.1 244 = S.2.1 244).trans hK) ((funext fun j => (fu_7 247 rfl).2.1 j : u_7.2.1 247 = S.2.1 247).trans hV) (by omega) (by omega)) (c_X12_318 Cx rfl rfl (rmk_ok (by omega) (by decide))) hW (by decide) rfl rfl rfl hl.1 rfl (Nat.le_of_ble_eq_true rfl) dX12_indexRead_47 ⟨Nat.le_of_ble_eq_true rfl, Nat.le_of_ble_eq_true rfl⟩) hL (fun r_18 u_16 H locs k_17 hW hL => ?_)
        obtain ⟨eu_16, xu_16⟩ := k_17
        rw [eu_16] at hW
        refine r_if_ne (tgt := 62) hx hb ⟨(by omega), (by omega)⟩ dX12_indexRead_50 (by decide) (fun c_19 => ?_) (fun c_19 => ?_)
        · refine lv_aload_n hx hb dX12_indexRead_62 rfl (lv_at hl 0 rfl) ?_
          refine lv_dup hx hb dX12_indexRead_63 rfl ?_
          refine g_X12_315 Cx hW (k := 231) (by decide) rfl (v := u_7.1 231 24) rfl dX12_indexRead_64 ?_
          have n_20 := hE.nx (pz := u_7.1 231 24) (by omega) (by have z := (xu_16.2.1 (by omega)); unfold gS at z; omega)
          refine lv_iconst (v := iv 1) hx hb dX12_indexRead_67 (by decide) ?_
          refine r_iadd hx hb dX12_indexRead_68 ?_
          refine p_X12_315 Cx hW hL (k := 231) (by decide) rfl dX12_indexRead_69 (fun H locs hW hL => ?_)
          have F_21 : Fr S (uF u_7 231 24 ((u_7.1 231 24) + 1)) (pl [231]) := F_9.F rfl
          have g_22 : FF S (uF u_7 231 24 ((u_7.1 231 24) + 1)) (fl [20, 21, 24]) := FF.F g_10 rfl
          have i_23 : dX G (uF u_7 231 24 ((u_7.1 231 24) + 1)) := iu_7.F (i := 24) (show (-2147483648) ≤ (u_7.1 231 24) + 1 ∧ (u_7.1 231 24) + 1 ≤ 2147483647 from ⟨by omega, by omega⟩)
          refine lv_aload_n hx hb dX12_indexRead_72 rfl (lv_at hl 0 rfl) ?_
          refine lv_iconst (v := iv 2) hx hb dX12_indexRead_73 (by decide) ?_
          have lk_24 : (uF u_7 231 24 ((u_7.1 231 24) + 1)).1 231 24 = (u_7.1 231 24) + 1 := uF_on
          have lk_25 : (uF u_7 231 24 ((u_7.1 231 24) + 1)).1 231 20 = u_7.1 231 20 := uF_ne (fun h => absurd h.2 (by decide))
          refine sBv (sV (As := [.int (iv 2)]) (rest := []) (k := 231) Cx (s_X12_wantKind l G (uF u_7 231 24 ((u_7.1 231 24) + 1)) (k := 2) (K := K) (V := V) (T := T) (pz := (u_7.1 231 24) + 1) i_23 (by omega) ((funext fun j => (uF_a).trans ((fu_7 244 rfl).2.1 j) : (uF u_7 231 24 ((u_7.1 231 24) + 1)).2.1 244 = S.2.1 244).trans hK) ((funext fun j => (uF_a).trans ((fu_7 247 rfl).2.1 j) : (uF u_7 231 24 ((u_7.1 231 24) + 1)).2.1 247 = S.2.1 247).trans hV) hE (by omega) (fun h => by have e8 := (show (uF u_7 231 24 ((u_7.1 231 24) + 1)).1 231 20 = u_7.1 231 20 from uF_ne (fun h => absurd h.2 (by decide))); have a9 := xu_7 (by have e9 := (show (uF u_7 231 24 ((u_7.1 231 24) + 1)).1 231 20 = u_7.1 231 20 from uF_ne (fun h => absurd h.2 (by decide))); omega); omega)) (c_X12_328 Cx rfl rfl (rmk_ok (by omega) (by decide))) hW (by decide) rfl rfl rfl hl.1 rfl (Nat.le_of_ble_eq_true rfl) dX12_indexRead_74 ⟨Nat.le_of_ble_eq_true rfl, Nat.le_of_ble_eq_true rfl⟩) hL (fun u_26 H locs k_27 hW hL => ?_)
          obtain ⟨iu_26, fu_26, gu_26, xu_26⟩ := k_27
          have F_28 := F_21.trans fu_26
          have g_29 : FF S u_26 (fl [20, 21, 24]) := FF.trans g_22 (FF.to gu_26 (fl_sub (by decide)))
          have q_30 : (-2147483648) ≤ u_26.1 231 20 ∧ u_26.1 231 20 ≤ 2147483647 := iu_26.fi 20
          have q_31 : (-2147483648) ≤ u_26.1 231 24 ∧ u_26.1 231 24 ≤ 2147483647 := iu_26.fi 24
          exact sVret Cx hr hlk hW hL ⟨iu_26, F_28, g_29, (fun h => by have e8 := (show u_26.1 231 20 = u_26.1 231 20 from rfl); have e7 := (show u_26.1 231 24 = u_26.1 231 24 from rfl); have au_26 := xu_26 (by have e9 := (show u_26.1 231 20 = u_26.1 231 20 from rfl); omega); have au_7 := xu_7 au_26.1; exact ⟨au_7.1, .inr ⟨by omega, _, au_7.2.1, .inr ⟨.inl (xu_16.2.1 (by omega)), au_26.2.1⟩⟩, by omega, by omega, by omega⟩)⟩ dX12_indexRead_77
        · refine lv_aload_n hx hb dX12_indexRead_53 rfl (lv_at hl 0 rfl) ?_
          refine lv_bipush (v := iv 45) hx hb dX12_indexRead_54 (by decide) ?_
          refine sBi (sV (As := [.int (iv 45)]) (rest := []) (k := 231) Cx (s_X12_isSign l G u_7 (sv := 45) (K := K) (V := V) (pz := u_7.1 231 24) iu_7 (by omega) ((funext fun j => (fu_7 244 rfl).2.1 j : u_7.2.1 244 = S.2.1 244).trans hK) ((funext fun j => (fu_7 247 rfl).2.1 j : u_7.2.1 247 = S.2.1 247).trans hV) (by omega) (by omega)) (c_X12_318 Cx rfl rfl (rmk_ok (by omega) (by decide))) hW (by decide) rfl rfl rfl hl.1 rfl (Nat.le_of_ble_eq_true rfl) dX12_indexRead_56 ⟨Nat.le_of_ble_eq_true rfl, Nat.le_of_ble_eq_true rfl⟩) hL (fun r_34 u_32 H locs k_33 hW hL => ?_)
          obtain ⟨eu_32, xu_32⟩ := k_33
          rw [eu_32] at hW
          refine r_if_eq (tgt := 77) hx hb ⟨(by omega), (by omega)⟩ dX12_indexRead_59 (by decide) (fun c_35 => ?_) (fun c_35 => ?_)
          · exact sVret Cx hr hlk hW hL ⟨iu_7, F_9, g_10, (fun h => by have e8 := (show u_7.1 231 20 = u_7.1 231 20 from rfl); have e7 := (show u_7.1 231 24 = u_7.1 231 24 from rfl); have au_7 := xu_7 (by have e9 := (show u_7.1 231 20 = u_7.1 231 20 from rfl); omega); exact ⟨au_7.1, .inr ⟨by omega, _, au_7.2.1, .inl ⟨(fun z => z.elim (xu_16.2.2 (by omega)) (xu_32.2.2 (by omega))), by omega⟩⟩, by omega, by omega, by omega⟩)⟩ dX12_indexRead_77
          · refine lv_aload_n hx hb dX12_indexRead_62 rfl (lv_at hl 0 rfl) ?_
            refine lv_dup hx hb dX12_indexRead_63 rfl ?_
            refine g_X12_315 Cx hW (k := 231) (by decide) rfl (v := u_7.1 231 24) rfl dX12_indexRead_64 ?_
            have n_36 := hE.nx (pz := u_7.1 231 24) (by omega) (by have z := (xu_32.2.1 (by omega)); unfold gS at z; omega)
            refine lv_iconst (v := iv 1) hx hb dX12_indexRead_67 (by decide) ?_
            refine r_iadd hx hb dX12_indexRead_68 ?_
            refine p_X12_315 Cx hW hL (k := 231) (by decide) rfl dX12_indexRead_69 (fun H locs hW hL => ?_)
            have F_37 : Fr S (uF u_7 231 24 ((u_7.1 231 24) + 1)) (pl [231]) := F_9.F rfl
            have g_38 : FF S (uF u_7 231 24 ((u_7.1 231 24) + 1)) (fl [20, 21, 24]) := FF.F g_10 rfl
            have i_39 : dX G (uF u_7 231 24 ((u_7.1 231 24) + 1)) := iu_7.F (i := 24) (show (-2147483648) ≤ (u_7.1 231 24) + 1 ∧ (u_7.1 231 24) + 1 ≤ 2147483647 from ⟨by omega, by omega⟩)
            refine lv_aload_n hx hb dX12_indexRead_72 rfl (lv_at hl 0 rfl) ?_
            refine lv_iconst (v := iv 2) hx hb dX12_indexRead_73 (by decide) ?_
            have lk_40 : (uF u_7 231 24 ((u_7.1 231 24) + 1)).1 231 24 = (u_7.1 231 24) + 1 := uF_on
            have lk_41 : (uF u_7 231 24 ((u_7.1 231 24) + 1)).1 231 20 = u_7.1 231 20 := uF_ne (fun h => absurd h.2 (by decide))
            refine sBv (sV (As := [.int (iv 2)]) (rest := []) (k := 231) Cx (s_X12_wantKind l G (uF u_7 231 24 ((u_7.1 231 24) + 1)) (k := 2) (K := K) (V := V) (T := T) (pz := (u_7.1 231 24) + 1) i_39 (by omega) ((funext fun j => (uF_a).trans ((fu_7 244 rfl).2.1 j) : (uF u_7 231 24 ((u_7.1 231 24) + 1)).2.1 244 = S.2.1 244).trans hK) ((funext fun j => (uF_a).trans ((fu_7 247 rfl).2.1 j) : (uF u_7 231 24 ((u_7.1 231 24) + 1)).2.1 247 = S.2.1 247).trans hV) hE (by omega) (fun h => by have e8 := (show (uF u_7 231 24 ((u_7.1 231 24) + 1)).1 231 20 = u_7.1 231 20 from uF_ne (fun h => absurd h.2 (by decide))); have a9 := xu_7 (by have e9 := (show (uF u_7 231 24 ((u_7.1 231 24) + 1)).1 231 20 = u_7.1 231 20 from uF_ne (fun h => absurd h.2 (by decide))); omega); omega)) (c_X12_328 Cx rfl rfl (rmk_ok (by omega) (by decide))) hW (by decide) rfl rfl rfl hl.1 rfl (Nat.le_of_ble_eq_true rfl) dX12_indexRead_74 ⟨Nat.le_of_ble_eq_true rfl, Nat.le_of_ble_eq_true rfl⟩) hL (fun u_42 H locs k_43 hW hL => ?_)
            obtain ⟨iu_42, fu_42, gu_42, xu_42⟩ := k_43
            have F_44 := F_37.trans fu_42
            have g_45 : FF S u_42 (fl [20, 21, 24]) := FF.trans g_38 (FF.to gu_42 (fl_sub (by decide)))
            have q_46 : (-2147483648) ≤ u_42.1 231 20 ∧ u_42.1 231 20 ≤ 2147483647 := iu_42.fi 20
            have q_47 : (-2147483648) ≤ u_42.1 231 24 ∧ u_42.1 231 24 ≤ 2147483647 := iu_42.fi 24
            exact sVret Cx hr hlk hW hL ⟨iu_42, F_44, g_45, (fun h => by have e8 := (show u_42.1 231 20 = u_42.1 231 20 from rfl); have e7 := (show u_42.1 231 24 = u_42.1 231 24 from rfl); have au_42 := xu_42 (by have e9 := (show u_42.1 231 20 = u_42.1 231 20 from rfl); omega); have au_7 := xu_7 au_42.1; exact ⟨au_7.1, .inr ⟨by omega, _, au_7.2.1, .inr ⟨.inr (xu_32.2.1 (by omega)), au_42.2.1⟩⟩, by omega, by omega, by omega⟩)⟩ dX12_indexRead_77
    · refine lv_aload_n hx hb dX12_indexRead_21 rfl (lv_at hl 0 rfl) ?_
      refine lv_dup hx hb dX12_indexRead_22 rfl ?_
      refine g_X12_315 Cx hW (k := 231) (by decide) rfl (v := S.1 231 24) rfl dX12_indexRead_23 ?_
      have n_48 := hE.nx (pz := pz) (by omega) (by omega)
      refine lv_iconst (v := iv 1) hx hb dX12_indexRead_26 (by decide) ?_
      refine r_iadd hx hb dX12_indexRead_27 ?_
      refine p_X12_315 Cx hW hL (k := 231) (by decide) rfl dX12_indexRead_28 (fun H locs hW hL => ?_)
      have F_49 : Fr S (uF S 231 24 ((S.1 231 24) + 1)) (pl [231]) := (Fr.rf : Fr S S (pl [231])).F rfl
      have g_50 : FF S (uF S 231 24 ((S.1 231 24) + 1)) (fl [20, 21, 24]) := FF.F FF.rf rfl
      have i_51 : dX G (uF S 231 24 ((S.1 231 24) + 1)) := hI.F (i := 24) (show (-2147483648) ≤ (S.1 231 24) + 1 ∧ (S.1 231 24) + 1 ≤ 2147483647 from ⟨by omega, by omega⟩)
      have lk_52 : (uF S 231 24 ((S.1 231 24) + 1)).1 231 20 = S.1 231 20 := uF_ne (fun h => absurd h.2 (by decide))
      have lk_53 : (uF S 231 24 ((S.1 231 24) + 1)).1 231 24 = (S.1 231 24) + 1 := uF_on
      exact sVret Cx hr hlk hW hL ⟨i_51, F_49, g_50, (fun h => by have e8 := (show (uF S 231 24 ((S.1 231 24) + 1)).1 231 20 = S.1 231 20 from uF_ne (fun h => absurd h.2 (by decide))); have e7 := (show (uF S 231 24 ((S.1 231 24) + 1)).1 231 24 = (S.1 231 24) + 1 from uF_on); exact ⟨(show S.1 231 20 = 0 by have e9 := (show (uF S 231 24 ((S.1 231 24) + 1)).1 231 20 = S.1 231 20 from uF_ne (fun h => absurd h.2 (by decide))); omega), .inl ⟨by omega, by omega⟩, by omega, by omega, by omega⟩)⟩ dX12_indexRead_31
  · have q_54 : (-2147483648) ≤ S.1 231 24 ∧ S.1 231 24 ≤ 2147483647 := hI.fi 24
    exact sVret Cx hr hlk hW hL ⟨hI, (Fr.rf : Fr S S (pl [231])), FF.rf, (fun h => by have e8 := (show S.1 231 20 = S.1 231 20 from rfl); exfalso; omega)⟩ dX12_indexRead_7
