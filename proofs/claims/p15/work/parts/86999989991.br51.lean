/-! The reference's checker by its values: rows and sums -/
theorem nobd {f : Int → Int} {p : Int} {n : Nat} (h : NO f p (n : Int)) : -pw n < nv f p ∧ nv f p < pw n := by
  have a := h.nul
  have b : pw (al f p).toNat ≤ pw n := pw_le (by have := h.1; have := al_0 f p; omega)
  have c := nv_abs h
  have d := h.nu0
  omega
theorem noof {f : Int → Int} {p L : Int} {n : Nat} (h : NO f p L) (hb : -pw n < nv f p ∧ nv f p < pw n) : NO f p (n : Int) := ⟨h.lim (by have c := nv_abs h; have d := h.nu0; omega), h.2⟩
/-- a NUMBER that has one limb -/
theorem noh1 {f : Int → Int} {L : Int} (h : NO f 0 L) : (f 0 = 1 → nv f 0 = f 1 ∧ 1 ≤ f 1) ∧ (f 0 ≠ 1 → nv f 0 ≤ 0 ∨ 1000000000 ≤ nv f 0) := by
  have s := h.sgn
  have c := nv_abs h
  have a := al_e (f := f) (p := 0)
  constructor
  · intro q
    have e1 : al f 0 = 1 := by omega
    have e2 : nu f 0 = f 1 := by
      unfold nu; rw [e1]
      show 0 + f (0 + 1 + ((0 : Nat) : Int)) * 1 = f 1
      rw [show (0 : Int) + 1 + ((0 : Nat) : Int) = 1 by omega]; omega
    have e3 := h.2.1 1 (by omega) (by omega)
    have e4 := h.2.2 (by omega)
    rw [e1, show (0 : Int) + 1 = 1 by omega] at e4
    have := s.2.1.mpr (by omega)
    omega
  · intro q
    by_cases z : f 0 ≤ 0
    · left; have := s.2.1.mp; omega
    · right
      have g := h.nug (by omega)
      have p := pw_le (m := 1) (n := (al f 0 - 1).toNat) (by omega)
      have p1 : pw 1 = 1000000000 := rfl
      have := s.2.1.mpr (by omega)
      omega
/-- a long number -/
theorem nolg {f : Int → Int} {p L : Int} (h : NO f p L) : (7 < al f p ∨ (al f p = 7 ∧ 1000000 ≤ f (p + 7))) ↔ lg60 (nv f p) := by
  have c := nv_abs h
  have n0 := h.nu0
  have nl := h.nul
  have a0 := al_0 f p
  have p6 : pw 6 = 1000000000000000000000000000000000000000000000000000000 := rfl
  have p7 : pw 7 = 1000000000000000000000000000000000000000000000000000000000000000 := rfl
  have key : (7 < al f p ∨ (al f p = 7 ∧ 1000000 ≤ f (p + 7))) ↔ 1000000000000000000000000000000000000000000000000000000000000 ≤ nu f p := by
    rcases (by omega : al f p ≤ 6 ∨ al f p = 7 ∨ 7 < al f p) with q | q | q
    · have b : pw (al f p).toNat ≤ pw 6 := pw_le (by omega)
      omega
    · have e := V_topr (f := f) (s := p + 1) (w := 7) (by omega)
      rw [show p + 1 + 7 - 1 = p + 7 by omega, show ((7 : Int) - 1).toNat = 6 from rfl] at e
      have e2 : nu f p = f (p + 7) * pw 6 + V f (p + 1) 6 := by
        have : nu f p = V f (p + 1) (7 : Int).toNat := by unfold nu; rw [q]
        rw [this]; exact e
      have v0 : 0 ≤ V f (p + 1) 6 := V_0 (fun i h0 h1 => (h.2.1 i (by omega) (by omega)).1)
      have v1 : V f (p + 1) 6 < pw 6 := V_lt (fun i h0 h1 => h.2.1 i (by omega) (by omega))
      rw [p6] at e2 v1
      omega
    · have g := h.nug (by omega)
      have b : pw 7 ≤ pw (al f p - 1).toNat := pw_le (by omega)
      omega
  rw [key]
  unfold lg60
  omega
/-- the rows that are held, by their values -/
def HRf (f : Int → Int) (c : Int) (R : Int → Int → Int) (n : Int) : Prop := ∀ k j, 1 ≤ k → k ≤ c → 0 ≤ j → j ≤ n → nv f (10 * (13 * k + j)) = R k j
def HRr (S : sS) (c : Int) (R : Int → Int → Int) (n : Int) : Prop := S.1 231 100 = c ∧ HRf (S.2.1 283) c R n
theorem HRr.sm {S u : sS} {c : Int} {R : Int → Int → Int} {n : Int} (h : HRr S c R n) (e100 : u.1 231 100 = S.1 231 100) (a283 : u.2.1 283 = S.2.1 283) : HRr u c R n := by unfold HRr; rw [e100, a283]; exact h
def RCf (f : Int → Int) (a n : Int) (g : Int → Int) : Prop := ∀ t, 0 ≤ t → t ≤ n → nv f (10 * (13 * a + t)) = g t
theorem HRf.out {f f' : Int → Int} {c n a b P : Int} {R : Int → Int → Int} (h : HRf f c R n) (hd : dHf f) (hP : P = 10 * (13 * a + b)) (ha : c < a ∧ a ≤ 40) (hb : 0 ≤ b ∧ b ≤ 12) (hn : n ≤ 12) (o : ∀ x, x < P ∨ P + 8 < x → f' x = f x) : HRf f' c R n := fun k j k0 k1 j0 j1 => by
  rw [((hd k j k0 (by omega) j0 (by omega)).same (g := f') (fun x x0 x1 => o x (by omega))).2]
  exact h k j k0 k1 j0 j1
theorem RCf.put {f f' g : Int → Int} {n a b P x : Int} (h : RCf f a n g) (hd : dHf f) (hP : P = 10 * (13 * a + b)) (ha : 1 ≤ a ∧ a ≤ 40) (hn : n ≤ 12) (hv : nv f' P = x) (o : ∀ y, y < P ∨ P + 8 < y → f' y = f y) : RCf f' a n (upf g b x) := fun t t0 t1 => by
  unfold upf
  by_cases q : t = b
  · rw [if_pos q, q, ← hP]; exact hv
  · rw [if_neg q, ((hd a t (by omega) (by omega) t0 (by omega)).same (g := f') (fun x x0 x1 => o x (by omega))).2]
    exact h t t0 t1
theorem HRf.new {f : Int → Int} {c n : Int} {R : Int → Int → Int} {g g' : Int → Int} (h : HRf f c R n) (h2 : RCf f (c + 1) n g) (e : ∀ t, 0 ≤ t → t ≤ n → g t = g' t) : HRf f (c + 1) (upR R (c + 1) g') n := fun k j k0 k1 j0 j1 => by
  unfold upR
  by_cases q : k = c + 1
  · rw [if_pos q, q, h2 j j0 j1]; exact e j j0 j1
  · rw [if_neg q]; exact h k j k0 (by omega) j0 j1
def SMr (S : sS) (ss : Int → Int) (n : Int) : Prop := ∀ j, 0 ≤ j → j ≤ n → nv (S.2.1 284) (40 * j) = ss j
theorem SMr.sm {S u : sS} {ss : Int → Int} {n : Int} (h : SMr S ss n) (a284 : u.2.1 284 = S.2.1 284) : SMr u ss n := by unfold SMr; rw [a284]; exact h
def DVr (S : sS) (qq : Int) : Prop := nv (S.2.1 288) 0 = qq
theorem DVr.sm {S u : sS} {qq : Int} (h : DVr S qq) (a288 : u.2.1 288 = S.2.1 288) : DVr u qq := by unfold DVr; rw [a288]; exact h
def okBs (n : Int) (g wh ss : Int → Int) (q vt vb : Int) : Prop := (∀ j, 1 ≤ j → j ≤ n → q * g j ≤ ss j) ∧ (gwh n g wh → (ss 0 + q * g 0) / q * vb ≤ vt) ∧ (¬ gwh n g wh → (ss 0 + q * g 0) * vb ≤ vt * q)
theorem okBs.i {n c : Int} {R : Int → Int → Int} {g wh ff ss : Int → Int} {q vt vb : Int} (hn : 0 ≤ n) (hg : ∀ j, 0 ≤ j → j ≤ n → R 0 j = g j) (hs : ∀ j, 0 ≤ j → j ≤ n → ss j = smf ff R j c.toNat) : okBs n g wh ss q vt vb ↔ okBd n c R wh ff q vt vb := by
  have e0 := hs 0 (by omega) hn
  have g0 := hg 0 (by omega) hn
  have eg : gwh n g wh ↔ gwh n (R 0) wh := ⟨fun h i a b c => h i a b (by rw [← hg i (by omega) b]; exact c), fun h i a b c => h i a b (by rw [hg i (by omega) b]; exact c)⟩
  unfold okBs okBd
  rw [eg, e0, g0]
  constructor
  · rintro ⟨a, b⟩; exact ⟨fun j x y => by have z := a j x y; rw [hs j (by omega) y, ← hg j (by omega) y] at z; exact z, b⟩
  · rintro ⟨a, b⟩; exact ⟨fun j x y => by have z := a j x y; rw [hs j (by omega) y, ← hg j (by omega) y]; exact z, b⟩
def okFs (n : Int) (ss : Int → Int) : Prop := (∀ j, 1 ≤ j → j ≤ n → 0 ≤ ss j) ∧ ss 0 < 0
/-- sums with no factor behind the last -/
theorem smf_z {ff : Int → Int} {R : Int → Int → Int} {j : Int} {a : Nat} (hz : ∀ i : Int, (a : Int) < i → ff i = 0) : ∀ b : Nat, smf ff R j (a + b) = smf ff R j a := by
  intro b
  induction b with
  | zero => rfl
  | succ b ih =>
    show smf ff R j (a + b) + ff ((a + b + 1 : Nat) : Int) * _ = _
    rw [ih, hz _ (by omega), Int.zero_mul]; omega
theorem smf_cg {ff gg : Int → Int} {R : Int → Int → Int} {j : Int} : ∀ b : Nat, (∀ i : Int, 1 ≤ i → i ≤ b → ff i = gg i) → smf ff R j b = smf gg R j b := by
  intro b
  induction b with
  | zero => intro _; rfl
  | succ b ih =>
    intro h
    show smf ff R j b + ff ((b + 1 : Nat) : Int) * _ = smf gg R j b + gg ((b + 1 : Nat) : Int) * _
    rw [ih (fun i a c => h i a (by omega)), h _ (by omega) (by omega)]
theorem smf_up {ff : Int → Int} {R : Int → Int → Int} {j pv k x : Int} (h0 : 0 ≤ pv) (hk : pv < k) (hz : ∀ i, pv < i → ff i = 0) : smf (upf ff k x) R j k.toNat = smf ff R j pv.toNat + x * R k j := by
  rw [show k.toNat = (k - 1).toNat + 1 by omega]
  show smf (upf ff k x) R j (k - 1).toNat + upf ff k x (((k - 1).toNat + 1 : Nat) : Int) * R (((k - 1).toNat + 1 : Nat) : Int) j = _
  rw [show ((((k - 1).toNat + 1 : Nat)) : Int) = k by omega, smf_cg (gg := ff) (k - 1).toNat (fun i a b => by unfold upf; rw [if_neg (by omega)]), show (k - 1).toNat = pv.toNat + (k - 1 - pv).toNat by omega, smf_z (fun i q => hz i (by omega))]
  unfold upf; rw [if_pos rfl]
theorem smf_e {ff : Int → Int} {R : Int → Int → Int} {j pv c : Int} (h0 : 0 ≤ pv ∧ pv ≤ c) (hz : ∀ i, pv < i → ff i = 0) : smf ff R j c.toNat = smf ff R j pv.toNat := by
  rw [show c.toNat = pv.toNat + (c - pv).toNat by omega, smf_z (fun i q => hz i (by omega))]
theorem gPr_le {kp : Int → Int} : ∀ (f : Nat) (t e : Int), gPr kp f t = some e → t + 1 ≤ e := by
  intro f
  induction f with
  | zero => intro t e h; cases h
  | succ f ih =>
    intro t e h
    by_cases k : kp t = 2
    · obtain ⟨g, e1, _, _, h2⟩ := gPr_2 h k
      rw [show f = g by omega] at ih
      have := ih _ _ h2; omega
    · obtain ⟨g, _, _, h2⟩ := gPr_5 h k; omega
/-- the PAIRS that are still to be read -/
def PGi (kp : Int → Int) (c e : Int) : Prop := ∃ f, gPr kp f c = some e
theorem PGi.k {kp : Int → Int} {c e : Int} (h : PGi kp c e) (k : kp c = 2) : kp (c + 2) = 2 ∧ PGi kp (c + 3) e ∧ c + 4 ≤ e := by
  obtain ⟨f, h⟩ := h
  obtain ⟨g, _, _, h3, h4⟩ := gPr_2 h k
  exact ⟨h3, ⟨g, h4⟩, by have := gPr_le _ _ _ h4; omega⟩
theorem PGi.z {kp : Int → Int} {c e : Int} (h : PGi kp c e) (k : kp c ≠ 2) : e = c + 1 := by
  obtain ⟨f, h⟩ := h
  obtain ⟨g, _, _, h3⟩ := gPr_5 h k
  exact h3
set_option maxRecDepth 100000 in
set_option maxHeartbeats 4000000 in
theorem q_X12_variableAt (l : Launch) (G : sG) (S : sS) {Xt Fm Wd Vt : Int → Int} {tk n : Int} {T : Int} {kp vp : Int → Int} (hI : dX G S) (hX : S.2.1 243 = Xt) (hFm : S.2.1 245 = Fm) (hWd : S.2.1 246 = Wd) (hVt : S.2.1 247 = Vt) (hkt : kp tk = 2) (htk : 0 ≤ tk ∧ tk < 30004) (hm : 0 ≤ S.1 231 46 ∧ S.1 231 46 ≤ 12) (hn : S.1 231 46 = n) (hQ : Hd (∀ t, 0 ≤ t → t < T → kp t = 2 → nTk Xt Fm Wd Vt t ∧ NVr Xt Fm Wd Vt t (vp t))) (hKS : Hd (KS T kp) ∧ T ≤ 30001) : Met l yX12_variableAt (.code yX12_variableAt cX12_variableAt 2 (some .int) :: tb) (rmk 3 0 0) (sPc G 294 S [.ref (G.2.2.1 + 231), .int (iv tk)]) (sQi G 294 (fun r u => dX G u ∧ Fr S u (pl [289]) ∧ FF S u (fl []) ∧ ((0 ≤ r ∧ r ≤ n) ∧ (1 ≤ vp tk → vp tk ≤ n → r = vp tk) ∧ (vp tk < 1 ∨ n < vp tk → r = 0)))) 0 0 (sF G) := by
  refine sEnter (by decide) (Nat.le_of_ble_eq_true rfl) ?_
  intro p e s m args below meth c Cx hr hlk hnm hW ls hl
  have Cx : sC G p m c cX12_variableAt 2 s args RX12 := Cx
  obtain ⟨hx, hb, hml, hown, hts⟩ := id Cx.1
  have hL : sL G [] := sL_nil
  have hl : lv_has ls 2 [(0, .ref (G.2.2.1 + 231)), (1, .int (iv tk))] := hl
  have hW0 := hW
  have hT3 := hKS.2
  refine lv_aload_n hx hb dX12_variableAt_0 rfl (lv_at hl 0 rfl) ?_
  refine lv_iload_n hx hb dX12_variableAt_1 rfl (lv_at hl 1 rfl) ?_
  refine lv_aload_n hx hb dX12_variableAt_2 rfl (lv_at hl 0 rfl) ?_
  have hq_1b := hKS.1 (tk) (by rw [hkt]; decide) (by rw [hkt]; decide)
  have hq_1 : Hd _ := hQ (tk) hq_1b.1 (by omega) hkt
  refine g_X12_187 Cx hW (k := 231) (by decide) rfl (v := .ref (G.2.2.1 + 289)) (rd_99 hI) dX12_variableAt_3 ?_
  refine lv_iconst (v := iv 0) hx hb dX12_variableAt_6 (by decide) ?_
  refine sBv (sV (As := [.int (iv tk), .ref (G.2.2.1 + 289), .int (iv 0)]) (rest := []) (k := 231) Cx (q_X12_numberAt l G S (tk := tk) (ka := 289) (po := 0) (Nka := 10) (Xt := Xt) (Fm := Fm) (Wd := Wd) (Vt := Vt) (xx := vp (tk)) hI ⟨rfl, by decide, by decide, by decide, rfl⟩ (show (289 : Nat) ≠ 243 by decide) (show (289 : Nat) ≠ 245 by decide) (show (289 : Nat) ≠ 246 by decide) (show (289 : Nat) ≠ 247 by decide) hX hFm hWd hVt hq_1.1 hq_1.2 (by omega) (by omega)) (c_X12_703 Cx rfl rfl (rmk_ok (by omega) (by decide))) hW (by decide) rfl rfl rfl hl.1 rfl (Nat.le_of_ble_eq_true rfl) dX12_variableAt_7 ⟨Nat.le_of_ble_eq_true rfl, Nat.le_of_ble_eq_true rfl⟩) hL (fun u_2 H locs k_3 hW hL => ?_)
  obtain ⟨iu_2, fu_2, gu_2, xu_2⟩ := k_3
  have F_4 := (Fr.rf : Fr S S (pl [289])).trans fu_2
  have g_5 : FF S u_2 (fl []) := FF.trans FF.rf (FF.to gu_2 (fl_sub (by decide)))
  have nv_6 : nv (u_2.2.1 289) 0 = vp (tk) := xu_2.2.1
  have hhnu_ := noh1 xu_2.1
  rw [xu_2.2.1] at hhnu_
  have hhanu_ := hhnu_.1; have hhbnu_ := hhnu_.2; clear hhnu_
  refine lv_aload_n hx hb dX12_variableAt_10 rfl (lv_at hl 0 rfl) ?_
  refine g_X12_187 Cx hW (k := 231) (by decide) rfl (v := .ref (G.2.2.1 + 289)) (rd_99 iu_2) dX12_variableAt_11 ?_
  refine lv_iconst (v := iv 0) hx hb dX12_variableAt_14 (by decide) ?_
  refine rIald Cx hW (k := 289) (by decide) rfl (by decide) (by omega) (by omega) dX12_variableAt_15 ?_
  have q_7 : (-2147483648) ≤ u_2.2.1 289 0 ∧ u_2.2.1 289 0 ≤ 2147483647 := iu_2.ai 289 0
  refine r_i (b := u_2.2.1 289 0) rfl ?_
  refine lv_iconst (v := iv 1) hx hb dX12_variableAt_16 (by decide) ?_
  refine r_icmp_ne (tgt := 42) hx hb ⟨(by omega), (by omega)⟩ ⟨(by omega), (by omega)⟩ dX12_variableAt_17 (by decide) (fun c_8 => ?_) (fun c_8 => ?_)
  · refine lv_iconst (v := iv 0) hx hb dX12_variableAt_42 (by decide) ?_
    exact sIret Cx hr hlk hW hL ⟨iu_2, F_4, g_5, (by omega)⟩ dX12_variableAt_43
  · have halnu_ : al (u_2.2.1 289) 0 = 1 := by unfold al; rw [if_neg (by omega)]; omega
    have hlbnu_ := xu_2.1.2.1 1 (by omega) (by rw [halnu_]; omega)
    refine lv_aload_n hx hb dX12_variableAt_20 rfl (lv_at hl 0 rfl) ?_
    refine g_X12_187 Cx hW (k := 231) (by decide) rfl (v := .ref (G.2.2.1 + 289)) (rd_99 iu_2) dX12_variableAt_21 ?_
    refine lv_iconst (v := iv 1) hx hb dX12_variableAt_24 (by decide) ?_
    refine rIald Cx hW (k := 289) (by decide) rfl (by decide) (by omega) (by omega) dX12_variableAt_25 ?_
    have q_9 : (-2147483648) ≤ u_2.2.1 289 1 ∧ u_2.2.1 289 1 ≤ 2147483647 := iu_2.ai 289 1
    refine r_i (b := u_2.2.1 289 1) rfl ?_
    refine lv_aload_n hx hb dX12_variableAt_26 rfl (lv_at hl 0 rfl) ?_
    have q_10 : (-2147483648) ≤ S.1 231 46 ∧ S.1 231 46 ≤ 2147483647 := hI.fi 46
    refine g_X12_465 Cx hW (k := 231) (by decide) rfl (v := S.1 231 46) (gu_2 46 rfl) dX12_variableAt_27 ?_
    refine r_icmp_gt (tgt := 42) hx hb ⟨(by omega), (by omega)⟩ ⟨(by omega), (by omega)⟩ dX12_variableAt_30 (by decide) (fun c_11 => ?_) (fun c_11 => ?_)
    · refine lv_iconst (v := iv 0) hx hb dX12_variableAt_42 (by decide) ?_
      exact sIret Cx hr hlk hW hL ⟨iu_2, F_4, g_5, (by omega)⟩ dX12_variableAt_43
    · refine lv_aload_n hx hb dX12_variableAt_33 rfl (lv_at hl 0 rfl) ?_
      refine g_X12_187 Cx hW (k := 231) (by decide) rfl (v := .ref (G.2.2.1 + 289)) (rd_99 iu_2) dX12_variableAt_34 ?_
      refine lv_iconst (v := iv 1) hx hb dX12_variableAt_37 (by decide) ?_
      refine rIald Cx hW (k := 289) (by decide) rfl (by decide) (by omega) (by omega) dX12_variableAt_38 ?_
      refine r_i (b := u_2.2.1 289 1) rfl ?_
      refine lv_goto (tgt := 43) hx hb dX12_variableAt_39 (by decide) ?_
      exact sIret Cx hr hlk hW hL ⟨iu_2, F_4, g_5, (by omega)⟩ dX12_variableAt_43

set_option maxRecDepth 100000 in
set_option maxHeartbeats 4000000 in
theorem q_X12_isLong (l : Launch) (G : sG) (S : sS) {ka Nka : Nat} {po : Int} (hI : dX G S) (hika : ia ka Nka) (hR : 0 ≤ po ∧ po + 17 < Nka) (hA : NO (S.2.1 ka) po 17) : Met l yX12_isLong (.code yX12_isLong cX12_isLong 4 (some .boolean) :: tb) (rmk 3 0 0) (sPc G 294 S [.ref (G.2.2.1 + 231), .ref (G.2.2.1 + ka), .int (iv po)]) (sQi G 294 (fun r u => u = S ∧ ((0 ≤ r ∧ r ≤ 1) ∧ Hd (r = 1 ↔ lg60 (nv (S.2.1 ka) po)) ∧ (r = 0 → al (S.2.1 ka) po ≤ 7)))) 0 0 (sF G) := by
  refine sEnter (by decide) (Nat.le_of_ble_eq_true rfl) ?_
  intro p e s m args below meth c Cx hr hlk hnm hW ls hl
  have Cx : sC G p m c cX12_isLong 4 s args RX12 := Cx
  obtain ⟨hx, hb, hml, hown, hts⟩ := id Cx.1
  have hL : sL G [] := sL_nil
  have hl : lv_has ls 4 [(0, .ref (G.2.2.1 + 231)), (1, .ref (G.2.2.1 + ka)), (2, .int (iv po))] := hl
  have hW0 := hW
  have hN := hika.2.2.2.1
  have hA1 := hA.b
  have hlg := nolg hA
  have hlg : Hd _ := hlg
  refine lv_aload_n hx hb dX12_isLong_0 rfl (lv_at hl 1 rfl) ?_
  refine lv_iload_n hx hb dX12_isLong_1 rfl (lv_at hl 2 rfl) ?_
  refine sBi (sSt (As := [.ref (G.2.2.1 + ka), .int (iv po)]) (rest := []) Cx (s_X12_limbs l G S (ka := ka) (po := po) (Nka := Nka) hI hika (by omega) (by omega)) (c_X12_221 Cx rfl rfl (rmk_ok (by omega) (by decide))) hW rfl hl.1 rfl (Nat.le_of_ble_eq_true rfl) dX12_isLong_2 ⟨Nat.le_of_ble_eq_true rfl, Nat.le_of_ble_eq_true rfl⟩) hL (fun r_3 u_1 H locs k_2 hW hL => ?_)
  obtain ⟨eu_1, xu_1⟩ := k_2
  rw [eu_1] at hW
  refine lv_istore_n (lv' := [(3, .int (iv r_3)), (0, .ref (G.2.2.1 + 231)), (1, .ref (G.2.2.1 + ka)), (2, .int (iv po))]) hx hb dX12_isLong_5 rfl hl (by decide) rfl (fun ls hl => ?_)
  refine lv_iload_n hx hb dX12_isLong_6 rfl (lv_at hl 0 rfl) ?_
  refine lv_bipush (v := iv 7) hx hb dX12_isLong_7 (by decide) ?_
  refine r_icmp_gt (tgt := 30) hx hb ⟨(by omega), (by omega)⟩ ⟨(by omega), (by omega)⟩ dX12_isLong_9 (by decide) (fun c_4 => ?_) (fun c_4 => ?_)
  · refine lv_iconst (v := iv 1) hx hb dX12_isLong_30 (by decide) ?_
    refine lv_goto (tgt := 35) hx hb dX12_isLong_31 (by decide) ?_
    exact sZret Cx hr hlk hW hL (by omega) ⟨rfl, ⟨(by omega), (show _ ↔ _ from ⟨fun _ => hlg.mp (by omega), fun _ => rfl⟩), fun z => absurd z (by omega)⟩⟩ dX12_isLong_35
  · refine lv_iload_n hx hb dX12_isLong_12 rfl (lv_at hl 0 rfl) ?_
    refine lv_bipush (v := iv 7) hx hb dX12_isLong_13 (by decide) ?_
    refine r_icmp_ne (tgt := 34) hx hb ⟨(by omega), (by omega)⟩ ⟨(by omega), (by omega)⟩ dX12_isLong_15 (by decide) (fun c_5 => ?_) (fun c_5 => ?_)
    · refine lv_iconst (v := iv 0) hx hb dX12_isLong_34 (by decide) ?_
      exact sZret Cx hr hlk hW hL (by omega) ⟨rfl, ⟨(by omega), (show _ ↔ _ from ⟨fun z => absurd z (by omega), fun z => absurd (hlg.mpr z) (by omega)⟩), fun _ => by omega⟩⟩ dX12_isLong_35
    · refine lv_aload_n hx hb dX12_isLong_18 rfl (lv_at hl 2 rfl) ?_
      refine lv_iload_n hx hb dX12_isLong_19 rfl (lv_at hl 3 rfl) ?_
      refine lv_bipush (v := iv 7) hx hb dX12_isLong_20 (by decide) ?_
      refine r_iadd hx hb dX12_isLong_22 ?_
      refine rIald Cx hW (k := ka) hika.lt hika.1 (by omega) (by omega) (by omega) dX12_isLong_23 ?_
      have q_6 : (-2147483648) ≤ S.2.1 ka (po + 7) ∧ S.2.1 ka (po + 7) ≤ 2147483647 := hI.aj hika.ge (po + 7)
      refine r_i (b := S.2.1 ka (po + 7)) rfl ?_
      refine lv_ldcw hx hb hown (hts _ w_2794) dX12_isLong_24 ?_
      refine r_icmp_lt (tgt := 34) hx hb ⟨(by omega), (by omega)⟩ ⟨(by omega), (by omega)⟩ dX12_isLong_27 (by decide) (fun c_7 => ?_) (fun c_7 => ?_)
      · refine lv_iconst (v := iv 0) hx hb dX12_isLong_34 (by decide) ?_
        exact sZret Cx hr hlk hW hL (by omega) ⟨rfl, ⟨(by omega), (show _ ↔ _ from ⟨fun z => absurd z (by omega), fun z => absurd (hlg.mpr z) (by omega)⟩), fun _ => by omega⟩⟩ dX12_isLong_35
      · refine lv_iconst (v := iv 1) hx hb dX12_isLong_30 (by decide) ?_
        refine lv_goto (tgt := 35) hx hb dX12_isLong_31 (by decide) ?_
        exact sZret Cx hr hlk hW hL (by omega) ⟨rfl, ⟨(by omega), (show _ ↔ _ from ⟨fun _ => hlg.mp (by omega), fun _ => rfl⟩), fun z => absurd z (by omega)⟩⟩ dX12_isLong_35

set_option maxRecDepth 100000 in
set_option maxHeartbeats 4000000 in
theorem q_X12_isFarkas (l : Launch) (G : sG) (S : sS) {n : Int} {ss : Int → Int} (hI : dX G S) (hm : 0 ≤ S.1 231 46 ∧ S.1 231 46 ≤ 12) (hn : S.1 231 46 = n) (hSM : dSM S) (hSS : Hd (SMr S ss n)) : Met l yX12_isFarkas (.code yX12_isFarkas cX12_isFarkas 2 (some .boolean) :: tb) (rmk 1 0 0) (sPc G 294 S [.ref (G.2.2.1 + 231)]) (sQi G 294 (fun r u => u = S ∧ ((0 ≤ r ∧ r ≤ 1) ∧ Hd (r = 1 ↔ okFs n ss)))) 0 0 (sF G) := by
  refine sEnter (by decide) (Nat.le_of_ble_eq_true rfl) ?_
  intro p e s m args below meth c Cx hr hlk hnm hW ls hl
  have Cx : sC G p m c cX12_isFarkas 2 s args RX12 := Cx
  obtain ⟨hx, hb, hml, hown, hts⟩ := id Cx.1
  have hL : sL G [] := sL_nil
  have hl : lv_has ls 2 [(0, .ref (G.2.2.1 + 231))] := hl
  have hW0 := hW
  refine lv_iconst (v := iv 1) hx hb dX12_isFarkas_0 (by decide) ?_
  refine lv_istore_n (lv' := [(1, .int (iv 1)), (0, .ref (G.2.2.1 + 231))]) hx hb dX12_isFarkas_1 rfl hl (by decide) rfl (fun ls hl => ?_)
  have loop_2 : ∀ (fuel : Nat) (j : Int) (H : Heap) (locs : List Loc) (ls : Array Slot), (S.1 231 46 + 1 - j).toNat < fuel → (1 ≤ j ∧ j ≤ S.1 231 46 + 1) → (Hd (∀ i, 1 ≤ i → i < j → 0 ≤ ss i)) → sW G 294 S H → sL G locs → lv_has ls 2 [(1, .int (iv j)), (0, .ref (G.2.2.1 + 231))] → W p l e (rmk 1 0 0) s m args below meth c H locs 0 0 (MQ below (sQi G 294 (fun r u => u = S ∧ ((0 ≤ r ∧ r ≤ 1) ∧ Hd (r = 1 ↔ okFs n ss)))) args s 0 0 (sF G)) (F0 m 2 ls []) := by
    intro fuel
    induction fuel with
    | zero => intro j H locs ls hmeas hj hok2 hW hL hl; exact absurd hmeas (Nat.not_lt_zero _)
    | succ fuel ih_2 =>
      intro j H locs ls hmeas hj hok2 hW hL hl
      refine lv_iload_n hx hb dX12_isFarkas_2 rfl (lv_at hl 0 rfl) ?_
      refine lv_aload_n hx hb dX12_isFarkas_3 rfl (lv_at hl 1 rfl) ?_
      have q_1 : (-2147483648) ≤ S.1 231 46 ∧ S.1 231 46 ≤ 2147483647 := hI.fi 46
      refine g_X12_465 Cx hW (k := 231) (by decide) rfl (v := S.1 231 46) rfl dX12_isFarkas_4 ?_
      refine r_icmp_gt (tgt := 30) hx hb ⟨(by omega), (by omega)⟩ ⟨(by omega), (by omega)⟩ dX12_isFarkas_7 (by decide) (fun c_2 => ?_) (fun c_2 => ?_)
      · have hs0 := (hSM 0 (by omega) (by omega)).sgn
        rw [show (40 : Int) * 0 = 0 from rfl] at hs0
        have hs9 := hSS 0 (by omega) (by omega)
        rw [show (40 : Int) * 0 = 0 from rfl] at hs9
        rw [hs9] at hs0
        have hs01 := hs0.1.mp; have hs02 := hs0.1.mpr; clear hs0 hs9
        refine lv_aload_n hx hb dX12_isFarkas_30 rfl (lv_at hl 1 rfl) ?_
        refine g_X12_172 Cx hW (k := 231) (by decide) rfl (v := .ref (G.2.2.1 + 284)) (rd_94 hI) dX12_isFarkas_31 ?_
        refine lv_iconst (v := iv 0) hx hb dX12_isFarkas_34 (by decide) ?_
        refine rIald Cx hW (k := 284) (by decide) rfl (by decide) (by omega) (by omega) dX12_isFarkas_35 ?_
        have q_3 : (-2147483648) ≤ S.2.1 284 0 ∧ S.2.1 284 0 ≤ 2147483647 := hI.ai 284 0
        refine r_i (b := S.2.1 284 0) rfl ?_
        refine r_if_ge (tgt := 43) hx hb ⟨(by omega), (by omega)⟩ dX12_isFarkas_36 (by decide) (fun c_4 => ?_) (fun c_4 => ?_)
        · refine lv_iconst (v := iv 0) hx hb dX12_isFarkas_43 (by decide) ?_
          exact sZret Cx hr hlk hW hL (by omega) ⟨rfl, ⟨(by omega), (show _ ↔ _ from ⟨fun z => absurd z (by omega), fun z => by have y := z.2; exfalso; omega⟩)⟩⟩ dX12_isFarkas_44
        · refine lv_iconst (v := iv 1) hx hb dX12_isFarkas_39 (by decide) ?_
          refine lv_goto (tgt := 44) hx hb dX12_isFarkas_40 (by decide) ?_
          exact sZret Cx hr hlk hW hL (by omega) ⟨rfl, ⟨(by omega), (show _ ↔ _ from ⟨fun _ => ⟨fun i a b => hok2 i a (by omega), by omega⟩, fun _ => rfl⟩)⟩⟩ dX12_isFarkas_44
      · have hsj := (hSM j (by omega) (by omega)).sgn
        rw [hSS j (by omega) (by omega)] at hsj
        have hsj1 := hsj.1.mp; have hsj2 := hsj.1.mpr; clear hsj
        refine lv_aload_n hx hb dX12_isFarkas_10 rfl (lv_at hl 1 rfl) ?_
        refine g_X12_172 Cx hW (k := 231) (by decide) rfl (v := .ref (G.2.2.1 + 284)) (rd_94 hI) dX12_isFarkas_11 ?_
        refine lv_bipush (v := iv 40) hx hb dX12_isFarkas_14 (by decide) ?_
        refine lv_iload_n hx hb dX12_isFarkas_16 rfl (lv_at hl 0 rfl) ?_
        refine r_imul hx hb dX12_isFarkas_17 ?_
        refine rIald Cx hW (k := 284) (by decide) rfl (by decide) (by omega) (by omega) dX12_isFarkas_18 ?_
        have q_5 : (-2147483648) ≤ S.2.1 284 (40 * j) ∧ S.2.1 284 (40 * j) ≤ 2147483647 := hI.ai 284 (40 * j)
        refine r_i (b := S.2.1 284 (40 * j)) rfl ?_
        refine r_if_ge (tgt := 24) hx hb ⟨(by omega), (by omega)⟩ dX12_isFarkas_19 (by decide) (fun c_6 => ?_) (fun c_6 => ?_)
        · refine lv_iinc (v := iv (j + 1)) (lv' := [(1, .int (iv (j + 1))), (0, .ref (G.2.2.1 + 231))]) hx hb dX12_isFarkas_24 hl (k := 0) rfl ((Int32.ofInt_add _ _).symm) (by decide) rfl (fun ls hl => ?_)
          refine lv_goto (tgt := 2) hx hb dX12_isFarkas_27 (by decide) ?_
          exact ih_2 (j + 1) _ _ _ (by omega) (by omega) (fun i a b => by by_cases z : i = j; (rw [z]; omega); exact hok2 i a (by omega)) hW hL (lv_sub hl [0, 1] rfl)
        · refine lv_iconst (v := iv 0) hx hb dX12_isFarkas_22 (by decide) ?_
          exact sZret Cx hr hlk hW hL (by omega) ⟨rfl, ⟨(by omega), (show _ ↔ _ from ⟨fun z => absurd z (by omega), fun z => by have y := z.1 j (by omega) (by omega); exfalso; omega⟩)⟩⟩ dX12_isFarkas_23
  exact loop_2 (_ + 1) 1 _ _ _ (Nat.lt_succ_self _) (by omega) (fun i a b => absurd b (by omega)) hW hL (lv_sub hl [0, 1] rfl)

set_option maxRecDepth 100000 in
set_option maxHeartbeats 4000000 in
theorem q_X12_isWholeGoal (l : Launch) (G : sG) (S : sS)  {n mm mx : Int} {A : Int → Int → Int} {wh : Int → Int} (hI : dX G S) (hm : 0 ≤ S.1 231 46 ∧ S.1 231 46 ≤ 12) (hGM : GM S) (hMR : Hd (MDr S n mm mx A wh)) : Met l yX12_isWholeGoal (.code yX12_isWholeGoal cX12_isWholeGoal 2 (some .boolean) :: tb) (rmk 1 0 0) (sPc G 294 S [.ref (G.2.2.1 + 231)]) (sQi G 294 (fun r u => u = S ∧ ((0 ≤ r ∧ r ≤ 1) ∧ Hd (r = 1 ↔ gwh n (A 0) wh)))) 0 0 (sF G) := by
  refine sEnter (by decide) (Nat.le_of_ble_eq_true rfl) ?_
  intro p e s m args below meth c Cx hr hlk hnm hW ls hl
  have Cx : sC G p m c cX12_isWholeGoal 2 s args RX12 := Cx
  obtain ⟨hx, hb, hml, hown, hts⟩ := id Cx.1
  have hL : sL G [] := sL_nil
  have hl : lv_has ls 2 [(0, .ref (G.2.2.1 + 231))] := hl
  have hW0 := hW
  have hMn := hMR.1; have hMm := hMR.2.1; have hMx := hMR.2.2.1; have hMw := hMR.2.2.2.1
  refine lv_iconst (v := iv 1) hx hb dX12_isWholeGoal_0 (by decide) ?_
  refine lv_istore_n (lv' := [(1, .int (iv 1)), (0, .ref (G.2.2.1 + 231))]) hx hb dX12_isWholeGoal_1 rfl hl (by decide) rfl (fun ls hl => ?_)
  have loop_2 : ∀ (fuel : Nat) (j : Int) (H : Heap) (locs : List Loc) (ls : Array Slot), (S.1 231 46 + 1 - j).toNat < fuel → (1 ≤ j ∧ j ≤ S.1 231 46 + 1) → (Hd (∀ i, 1 ≤ i → i < j → A 0 i ≠ 0 → wh i = 1)) → sW G 294 S H → sL G locs → lv_has ls 2 [(1, .int (iv j)), (0, .ref (G.2.2.1 + 231))] → W p l e (rmk 1 0 0) s m args below meth c H locs 0 0 (MQ below (sQi G 294 (fun r u => u = S ∧ ((0 ≤ r ∧ r ≤ 1) ∧ Hd (r = 1 ↔ gwh n (A 0) wh)))) args s 0 0 (sF G)) (F0 m 2 ls []) := by
    intro fuel
    induction fuel with
    | zero => intro j H locs ls hmeas hj hok2 hW hL hl; exact absurd hmeas (Nat.not_lt_zero _)
    | succ fuel ih_2 =>
      intro j H locs ls hmeas hj hok2 hW hL hl
      refine lv_iload_n hx hb dX12_isWholeGoal_2 rfl (lv_at hl 0 rfl) ?_
      refine lv_aload_n hx hb dX12_isWholeGoal_3 rfl (lv_at hl 1 rfl) ?_
      have q_1 : (-2147483648) ≤ S.1 231 46 ∧ S.1 231 46 ≤ 2147483647 := hI.fi 46
      refine g_X12_465 Cx hW (k := 231) (by decide) rfl (v := S.1 231 46) rfl dX12_isWholeGoal_4 ?_
      refine r_icmp_gt (tgt := 38) hx hb ⟨(by omega), (by omega)⟩ ⟨(by omega), (by omega)⟩ dX12_isWholeGoal_7 (by decide) (fun c_2 => ?_) (fun c_2 => ?_)
      · refine lv_iconst (v := iv 1) hx hb dX12_isWholeGoal_38 (by decide) ?_
        exact sZret Cx hr hlk hW hL (by omega) ⟨rfl, ⟨(by omega), (show _ ↔ _ from ⟨fun _ i a b z => hok2 i a (by omega) z, fun _ => rfl⟩)⟩⟩ dX12_isWholeGoal_39
      · have hgv := hGM.1 j
        have hgj := hMR.2.2.2.2.1 j (by omega) (by omega)
        have hwj := hMR.2.2.2.2.2.2 j (by omega) (by omega)
        refine lv_aload_n hx hb dX12_isWholeGoal_10 rfl (lv_at hl 1 rfl) ?_
        refine g_X12_97 Cx hW (k := 231) (by decide) rfl (v := .ref (G.2.2.1 + 260)) (rd_51 hI) dX12_isWholeGoal_11 ?_
        refine lv_iload_n hx hb dX12_isWholeGoal_14 rfl (lv_at hl 0 rfl) ?_
        refine rLald Cx hW (k := 260) (by decide) rfl (by decide) (by omega) (by omega) dX12_isWholeGoal_15 ?_
        have q_3 : -9223372036854775808 ≤ S.2.2.1 260 j ∧ S.2.2.1 260 j ≤ 9223372036854775807 := hI.li 260 j
        refine r_j (b := S.2.2.1 260 j) rfl ?_
        refine lv_lconst (v := jv 0) hx hb dX12_isWholeGoal_16 (by decide) ?_
        refine r_lcmp hx hb ⟨(by omega), (by omega)⟩ ⟨(by omega), (by omega)⟩ dX12_isWholeGoal_17 (fun z_4 az_4 bz_4 cz_4 => ?_)
        refine r_if_eq (tgt := 32) hx hb ⟨(by omega), (by omega)⟩ dX12_isWholeGoal_18 (by decide) (fun c_5 => ?_) (fun c_5 => ?_)
        · refine lv_iinc (v := iv (j + 1)) (lv' := [(1, .int (iv (j + 1))), (0, .ref (G.2.2.1 + 231))]) hx hb dX12_isWholeGoal_32 hl (k := 0) rfl ((Int32.ofInt_add _ _).symm) (by decide) rfl (fun ls hl => ?_)
          refine lv_goto (tgt := 2) hx hb dX12_isWholeGoal_35 (by decide) ?_
          exact ih_2 (j + 1) _ _ _ (by omega) (by omega) (fun i a b z9 => by by_cases z : i = j; (rw [z] at z9 ⊢; first | (exfalso; omega) | omega); exact hok2 i a (by omega) z9) hW hL (lv_sub hl [0, 1] rfl)
        · refine lv_aload_n hx hb dX12_isWholeGoal_21 rfl (lv_at hl 1 rfl) ?_
          refine g_X12_94 Cx hW (k := 231) (by decide) rfl (v := .ref (G.2.2.1 + 259)) (rd_50 hI) dX12_isWholeGoal_22 ?_
          refine lv_iload_n hx hb dX12_isWholeGoal_25 rfl (lv_at hl 0 rfl) ?_
          refine rZald Cx hW (k := 259) (by decide) rfl (by decide) (by omega) (by omega) dX12_isWholeGoal_26 ?_
          have q_6 : 0 ≤ S.2.1 259 j ∧ S.2.1 259 j ≤ 1 := hI.ai 259 j
          refine r_i (b := S.2.1 259 j) rfl ?_
          refine r_if_ne (tgt := 32) hx hb ⟨(by omega), (by omega)⟩ dX12_isWholeGoal_27 (by decide) (fun c_7 => ?_) (fun c_7 => ?_)
          · refine lv_iinc (v := iv (j + 1)) (lv' := [(1, .int (iv (j + 1))), (0, .ref (G.2.2.1 + 231))]) hx hb dX12_isWholeGoal_32 hl (k := 0) rfl ((Int32.ofInt_add _ _).symm) (by decide) rfl (fun ls hl => ?_)
            refine lv_goto (tgt := 2) hx hb dX12_isWholeGoal_35 (by decide) ?_
            exact ih_2 (j + 1) _ _ _ (by omega) (by omega) (fun i a b z9 => by by_cases z : i = j; (rw [z] at z9 ⊢; first | (exfalso; omega) | omega); exact hok2 i a (by omega) z9) hW hL (lv_sub hl [0, 1] rfl)
          · refine lv_iconst (v := iv 0) hx hb dX12_isWholeGoal_30 (by decide) ?_
            exact sZret Cx hr hlk hW hL (by omega) ⟨rfl, ⟨(by omega), (show _ ↔ _ from ⟨fun z => absurd z (by omega), fun z => by have y := z j (by omega) (by omega) (by omega); exfalso; omega⟩)⟩⟩ dX12_isWholeGoal_31
  exact loop_2 (_ + 1) 1 _ _ _ (Nat.lt_succ_self _) (by omega) (fun i a b => absurd b (by omega)) hW hL (lv_sub hl [0, 1] rfl)

set_option maxRecDepth 100000 in
set_option maxHeartbeats 4000000 in
theorem q_X12_isBound (l : Launch) (G : sG) (S : sS)  {n mm mx : Int} {A : Int → Int → Int} {wh : Int → Int} {ss : Int → Int} {qq vt vb : Int} (hI : dX G S) (hm : 0 ≤ S.1 231 46 ∧ S.1 231 46 ≤ 12) (hSM : dSM S) (hDV : dDV S) (hUP : dUP S) (hGM : GM S) (hMD : MD S) (hMR : Hd (MDr S n mm mx A wh)) (hSS : Hd (SMr S ss n)) (hDQ : Hd (DVr S qq)) (hUV : Hd (UVr S vt vb)) : Met l yX12_isBound (.code yX12_isBound cX12_isBound 2 (some .boolean) :: tb) (rmk 6 0 0) (sPc G 294 S [.ref (G.2.2.1 + 231)]) (sQi G 294 (fun r u => dX G u ∧ Fr S u (pl [233, 234, 235, 237, 238, 240, 277, 284]) ∧ FF S u (fl []) ∧ ((0 ≤ r ∧ r ≤ 1) ∧ Hd (r = 1 ↔ okBs n (A 0) wh ss qq vt vb)))) 0 0 (sF G) := by
  refine sEnter (by decide) (Nat.le_of_ble_eq_true rfl) ?_
  intro p e s m args below meth c Cx hr hlk hnm hW ls hl
  have Cx : sC G p m c cX12_isBound 2 s args RX12 := Cx
  obtain ⟨hx, hb, hml, hown, hts⟩ := id Cx.1
  have hL : sL G [] := sL_nil
  have hl : lv_has ls 2 [(0, .ref (G.2.2.1 + 231))] := hl
  have hW0 := hW
  have hMn := hMR.1; have hMm := hMR.2.1; have hMx := hMR.2.2.1; have hMw := hMR.2.2.2.1
  refine lv_iconst (v := iv 1) hx hb dX12_isBound_0 (by decide) ?_
  refine lv_istore_n (lv' := [(1, .int (iv 1)), (0, .ref (G.2.2.1 + 231))]) hx hb dX12_isBound_1 rfl hl (by decide) rfl (fun ls hl => ?_)
  have loop_2 : ∀ (fuel : Nat) (S2 : sS) (j : Int) (H : Heap) (locs : List Loc) (ls : Array Slot), (S.1 231 46 + 1 - j).toNat < fuel → (dX G S2) → (Fr S S2 (pl [233, 234, 235, 237, 238, 240, 277, 284])) → (Fr S S2 (pl [237, 277])) → (FF S S2 (fl [])) → (FF S S2 (fl [])) → (1 ≤ j ∧ j ≤ S.1 231 46 + 1) → (Hd (∀ i, 1 ≤ i → i < j → qq * A 0 i ≤ ss i)) → sW G 294 S2 H → sL G locs → lv_has ls 2 [(1, .int (iv j)), (0, .ref (G.2.2.1 + 231))] → W p l e (rmk 6 0 0) s m args below meth c H locs 0 0 (MQ below (sQi G 294 (fun r u => dX G u ∧ Fr S u (pl [233, 234, 235, 237, 238, 240, 277, 284]) ∧ FF S u (fl []) ∧ ((0 ≤ r ∧ r ≤ 1) ∧ Hd (r = 1 ↔ okBs n (A 0) wh ss qq vt vb)))) args s 0 0 (sF G)) (F0 m 2 ls []) := by
    intro fuel
    induction fuel with
    | zero => intro S2 j H locs ls hmeas hI2 hFm2 hL2_ hGm2 gL2_ hj hok2 hW hL hl; exact absurd hmeas (Nat.not_lt_zero _)
    | succ fuel ih_2 =>
      intro S2 j H locs ls hmeas hI2 hFm2 hL2_ hGm2 gL2_ hj hok2 hW hL hl
      refine lv_iload_n hx hb dX12_isBound_2 rfl (lv_at hl 0 rfl) ?_
      refine lv_aload_n hx hb dX12_isBound_3 rfl (lv_at hl 1 rfl) ?_
      have q_1 : (-2147483648) ≤ S.1 231 46 ∧ S.1 231 46 ≤ 2147483647 := hI.fi 46
      refine g_X12_465 Cx hW (k := 231) (by decide) rfl (v := S.1 231 46) (gL2_ 46 rfl) dX12_isBound_4 ?_
      refine r_icmp_gt (tgt := 69) hx hb ⟨(by omega), (by omega)⟩ ⟨(by omega), (by omega)⟩ dX12_isBound_7 (by decide) (fun c_2 => ?_) (fun c_2 => ?_)
      · refine lv_aload_n hx hb dX12_isBound_69 rfl (lv_at hl 1 rfl) ?_
        refine g_X12_151 Cx hW (k := 231) (by decide) rfl (v := .ref (G.2.2.1 + 277)) (rd_87 hI2) dX12_isBound_70 ?_
        refine lv_iconst (v := iv 0) hx hb dX12_isBound_73 (by decide) ?_
        have hgv := hGM.1 0
        refine lv_aload_n hx hb dX12_isBound_74 rfl (lv_at hl 1 rfl) ?_
        refine g_X12_97 Cx hW (k := 231) (by decide) rfl (v := .ref (G.2.2.1 + 260)) (rd_51 hI2) dX12_isBound_75 ?_
        refine lv_iconst (v := iv 0) hx hb dX12_isBound_78 (by decide) ?_
        refine rLald Cx hW (k := 260) (by decide) rfl (by decide) (by omega) (by omega) dX12_isBound_79 ?_
        have q_3 : -9223372036854775808 ≤ S.2.2.1 260 0 ∧ S.2.2.1 260 0 ≤ 9223372036854775807 := hI.li 260 0
        refine r_j (b := S.2.2.1 260 0) ((hL2_ 260 rfl).2.2.1 0) ?_
        refine sBv (sSt (As := [.ref (G.2.2.1 + 277), .int (iv 0), .long (jv (S.2.2.1 260 0))]) (rest := []) Cx (s_X12_put l G S2 (ka := 277) (po := 0) (v := S.2.2.1 260 0) (Nka := 4) hI2 ⟨rfl, by decide, by decide, by decide, rfl⟩ (by omega) (by omega)) (c_X12_241 Cx rfl rfl (rmk_ok (by omega) (by decide))) hW rfl hl.1 rfl (Nat.le_of_ble_eq_true rfl) dX12_isBound_80 ⟨Nat.le_of_ble_eq_true rfl, Nat.le_of_ble_eq_true rfl⟩) hL (fun u_4 H locs k_5 hW hL => ?_)
        obtain ⟨iu_4, fu_4, xu_4⟩ := k_5
        have F_6 := hFm2.trans (fu_4.to (p1_sub rfl))
        have F_7 := hL2_.trans (fu_4.to (p1_sub rfl))
        have g_8 : FF S u_4 (fl []) := FF.fr hGm2 fu_4 rfl
        have g_9 : FF S u_4 (fl []) := FF.fr gL2_ fu_4 rfl
        have nv_10 : nv (u_4.2.1 277) 0 = S.2.2.1 260 0 := xu_4.2.1
        have nv_11 : nv (u_4.2.1 277) 0 = A 0 0 := (by rw [xu_4.2.1]; exact hMR.2.2.2.2.1 0 (by omega) (by omega))
        refine lv_aload_n hx hb dX12_isBound_83 rfl (lv_at hl 1 rfl) ?_
        refine g_X12_184 Cx hW (k := 231) (by decide) rfl (v := .ref (G.2.2.1 + 288)) (rd_98 iu_4) dX12_isBound_84 ?_
        refine lv_iconst (v := iv 0) hx hb dX12_isBound_87 (by decide) ?_
        refine lv_aload_n hx hb dX12_isBound_88 rfl (lv_at hl 1 rfl) ?_
        refine g_X12_151 Cx hW (k := 231) (by decide) rfl (v := .ref (G.2.2.1 + 277)) (rd_87 iu_4) dX12_isBound_89 ?_
        refine lv_iconst (v := iv 0) hx hb dX12_isBound_92 (by decide) ?_
        refine lv_aload_n hx hb dX12_isBound_93 rfl (lv_at hl 1 rfl) ?_
        refine g_X12_26 Cx hW (k := 231) (by decide) rfl (v := .ref (G.2.2.1 + 237)) (rd_7 iu_4) dX12_isBound_94 ?_
        refine lv_iconst (v := iv 0) hx hb dX12_isBound_97 (by decide) ?_
        refine sBv (sSt (As := [.ref (G.2.2.1 + 288), .int (iv 0), .ref (G.2.2.1 + 277), .int (iv 0), .ref (G.2.2.1 + 237), .int (iv 0)]) (rest := []) Cx (s_X12_multiply l G u_4 (ka := 288) (po := 0) (kb := 277) (qo := 0) (kc := 237) (ro := 0) (Nka := 10) (Nkb := 4) (Nkc := 68) (La := 7) (Lb := 3) iu_4 ⟨rfl, by decide, by decide, by decide, rfl⟩ ⟨rfl, by decide, by decide, by decide, rfl⟩ ⟨rfl, by decide, by decide, by decide, rfl⟩ (show (237 : Nat) ≠ 277 by decide) (show (237 : Nat) ≠ 288 by decide) (by omega) (by rw [show u_4.2.1 288 = S.2.1 288 from (funext fun j => ((fu_4 288 rfl).2.1 j).trans ((hL2_ 288 rfl).2.1 j))]; exact hDV.1) xu_4.1) (c_X12_548 Cx rfl rfl (rmk_ok (by omega) (by decide))) hW rfl hl.1 rfl (Nat.le_of_ble_eq_true rfl) dX12_isBound_98 ⟨Nat.le_of_ble_eq_true rfl, Nat.le_of_ble_eq_true rfl⟩) hL (fun u_12 H locs k_13 hW hL => ?_)
        obtain ⟨iu_12, fu_12, xu_12⟩ := k_13
        have F_14 := F_6.trans (fu_12.to (p1_sub rfl))
        have F_15 := F_7.trans (fu_12.to (p1_sub rfl))
        have g_16 : FF S u_12 (fl []) := FF.fr g_8 fu_12 rfl
        have g_17 : FF S u_12 (fl []) := FF.fr g_9 fu_12 rfl
        have nv_18 : nv (u_12.2.1 237) 0 = qq * (A 0 0) := (by rw [xu_12.2.1, (show nv (u_4.2.1 288) 0 = qq by rw [show u_4.2.1 288 = S.2.1 288 from (funext fun j => ((fu_4 288 rfl).2.1 j).trans ((hL2_ 288 rfl).2.1 j))]; exact hDQ), (show nv (u_4.2.1 277) 0 = A 0 0 from nv_11)])
        refine lv_aload_n hx hb dX12_isBound_101 rfl (lv_at hl 1 rfl) ?_
        refine g_X12_172 Cx hW (k := 231) (by decide) rfl (v := .ref (G.2.2.1 + 284)) (rd_94 iu_12) dX12_isBound_102 ?_
        refine lv_iconst (v := iv 0) hx hb dX12_isBound_105 (by decide) ?_
        refine lv_aload_n hx hb dX12_isBound_106 rfl (lv_at hl 1 rfl) ?_
        refine g_X12_26 Cx hW (k := 231) (by decide) rfl (v := .ref (G.2.2.1 + 237)) (rd_7 iu_12) dX12_isBound_107 ?_
        refine lv_iconst (v := iv 0) hx hb dX12_isBound_110 (by decide) ?_
        refine lv_iconst (v := iv 0) hx hb dX12_isBound_111 (by decide) ?_
        refine lv_aload_n hx hb dX12_isBound_112 rfl (lv_at hl 1 rfl) ?_
        refine g_X12_172 Cx hW (k := 231) (by decide) rfl (v := .ref (G.2.2.1 + 284)) (rd_94 iu_12) dX12_isBound_113 ?_
        refine lv_iconst (v := iv 0) hx hb dX12_isBound_116 (by decide) ?_
        refine sBv (sSt (As := [.ref (G.2.2.1 + 284), .int (iv 0), .ref (G.2.2.1 + 237), .int (iv 0), .int (iv 0), .ref (G.2.2.1 + 284), .int (iv 0)]) (rest := []) Cx (s_X12_add l G u_12 (ka := 284) (po := 0) (kb := 237) (qo := 0) (lz := 0) (kc := 284) (ro := 0) (Nka := 520) (Nkb := 68) (Nkc := 520) (La := 16) (Lb := 10) (Lc := 17) iu_12 ⟨rfl, by decide, by decide, by decide, rfl⟩ ⟨rfl, by decide, by decide, by decide, rfl⟩ ⟨rfl, by decide, by decide, by decide, rfl⟩ (show (284 : Nat) ≠ 237 by decide) (fun _ => rfl) (by omega) (by omega) (by rw [show u_12.2.1 284 = S.2.1 284 from (funext fun j => ((fu_12 284 rfl).2.1 j).trans (((fu_4 284 rfl).2.1 j).trans ((hL2_ 284 rfl).2.1 j)))]; exact hSM 0 (by omega) (by omega)) xu_12.1) (c_X12_249 Cx rfl rfl (rmk_ok (by omega) (by decide))) hW rfl hl.1 rfl (Nat.le_of_ble_eq_true rfl) dX12_isBound_117 ⟨Nat.le_of_ble_eq_true rfl, Nat.le_of_ble_eq_true rfl⟩) hL (fun u_19 H locs k_20 hW hL => ?_)
        obtain ⟨iu_19, fu_19, xu_19⟩ := k_20
        have F_21 := F_14.trans (fu_19.to (p1_sub rfl))
        have g_22 : FF S u_19 (fl []) := FF.fr g_16 fu_19 rfl
        have g_23 : FF S u_19 (fl []) := FF.fr g_17 fu_19 rfl
        have nv_24 : nv (u_19.2.1 284) 0 = ss 0 + (qq * (A 0 0)) := (by rw [xu_19.2.1, asn_0, (show nv (u_12.2.1 284) 0 = ss 0 by rw [show u_12.2.1 284 = S.2.1 284 from (funext fun j => ((fu_12 284 rfl).2.1 j).trans (((fu_4 284 rfl).2.1 j).trans ((hL2_ 284 rfl).2.1 j)))]; exact (by have h := hSS 0 (by omega) (by omega); rw [show (40 : Int) * 0 = 0 from rfl] at h; exact h)), (show nv (u_12.2.1 237) 0 = qq * (A 0 0) from nv_18)])
        refine lv_aload_n hx hb dX12_isBound_120 rfl (lv_at hl 1 rfl) ?_
        have lk_25 : u_19.1 231 46 = S.1 231 46 := ((fu_19 231 rfl).1 46).trans (((fu_12 231 rfl).1 46).trans (((fu_4 231 rfl).1 46).trans (gL2_ 46 rfl)))
        refine sBi (sV (As := []) (rest := []) (k := 231) Cx (q_X12_isWholeGoal l G u_19 (n := n) (mm := mm) (mx := mx) (A := A) (wh := wh) iu_19 (by omega) (GM.sm (S := S) (u := u_19) hGM (funext fun j => ((fu_19 260 rfl).2.2.1 j).trans (((fu_12 260 rfl).2.2.1 j).trans (((fu_4 260 rfl).2.2.1 j).trans ((hL2_ 260 rfl).2.2.1 j)))) (funext fun j => ((fu_19 290 rfl).2.2.1 j).trans (((fu_12 290 rfl).2.2.1 j).trans (((fu_4 290 rfl).2.2.1 j).trans ((hL2_ 290 rfl).2.2.1 j))))) (MDr.sm (S := S) (u := u_19) hMR (((fu_19 231 rfl).1 46).trans (((fu_12 231 rfl).1 46).trans (((fu_4 231 rfl).1 46).trans (gL2_ 46 rfl)))) (((fu_19 231 rfl).1 47).trans (((fu_12 231 rfl).1 47).trans (((fu_4 231 rfl).1 47).trans (gL2_ 47 rfl)))) (((fu_19 231 rfl).1 48).trans (((fu_12 231 rfl).1 48).trans (((fu_4 231 rfl).1 48).trans (gL2_ 48 rfl)))) (((fu_19 231 rfl).1 49).trans (((fu_12 231 rfl).1 49).trans (((fu_4 231 rfl).1 49).trans (gL2_ 49 rfl)))) (funext fun j => ((fu_19 259 rfl).2.1 j).trans (((fu_12 259 rfl).2.1 j).trans (((fu_4 259 rfl).2.1 j).trans ((hL2_ 259 rfl).2.1 j)))) (funext fun j => ((fu_19 260 rfl).2.2.1 j).trans (((fu_12 260 rfl).2.2.1 j).trans (((fu_4 260 rfl).2.2.1 j).trans ((hL2_ 260 rfl).2.2.1 j)))) (funext fun j => ((fu_19 290 rfl).2.2.1 j).trans (((fu_12 290 rfl).2.2.1 j).trans (((fu_4 290 rfl).2.2.1 j).trans ((hL2_ 290 rfl).2.2.1 j)))))) (c_X12_628 Cx rfl rfl (rmk_ok (by omega) (by decide))) hW (by decide) rfl rfl rfl hl.1 rfl (Nat.le_of_ble_eq_true rfl) dX12_isBound_121 ⟨Nat.le_of_ble_eq_true rfl, Nat.le_of_ble_eq_true rfl⟩) hL (fun r_28 u_26 H locs k_27 hW hL => ?_)
        obtain ⟨eu_26, xu_26⟩ := k_27
        rw [eu_26] at hW
        have hwg := (show _ ↔ _ from xu_26.2)
        have hwg : Hd _ := hwg
        refine r_if_eq (tgt := 191) hx hb ⟨(by omega), (by omega)⟩ dX12_isBound_124 (by decide) (fun c_29 => ?_) (fun c_29 => ?_)
        · refine lv_aload_n hx hb dX12_isBound_191 rfl (lv_at hl 1 rfl) ?_
          refine g_X12_172 Cx hW (k := 231) (by decide) rfl (v := .ref (G.2.2.1 + 284)) (rd_94 iu_19) dX12_isBound_192 ?_
          refine lv_iconst (v := iv 0) hx hb dX12_isBound_195 (by decide) ?_
          refine lv_aload_n hx hb dX12_isBound_196 rfl (lv_at hl 1 rfl) ?_
          refine g_X12_181 Cx hW (k := 231) (by decide) rfl (v := .ref (G.2.2.1 + 287)) (rd_97 iu_19) dX12_isBound_197 ?_
          refine lv_iconst (v := iv 0) hx hb dX12_isBound_200 (by decide) ?_
          refine lv_aload_n hx hb dX12_isBound_201 rfl (lv_at hl 1 rfl) ?_
          refine g_X12_26 Cx hW (k := 231) (by decide) rfl (v := .ref (G.2.2.1 + 237)) (rd_7 iu_19) dX12_isBound_202 ?_
          refine lv_iconst (v := iv 0) hx hb dX12_isBound_205 (by decide) ?_
          refine sBv (sSt (As := [.ref (G.2.2.1 + 284), .int (iv 0), .ref (G.2.2.1 + 287), .int (iv 0), .ref (G.2.2.1 + 237), .int (iv 0)]) (rest := []) Cx (s_X12_multiply l G u_19 (ka := 284) (po := 0) (kb := 287) (qo := 0) (kc := 237) (ro := 0) (Nka := 520) (Nkb := 10) (Nkc := 68) (La := 17) (Lb := 7) iu_19 ⟨rfl, by decide, by decide, by decide, rfl⟩ ⟨rfl, by decide, by decide, by decide, rfl⟩ ⟨rfl, by decide, by decide, by decide, rfl⟩ (show (237 : Nat) ≠ 287 by decide) (show (237 : Nat) ≠ 284 by decide) (by omega) xu_19.1 (by rw [show u_19.2.1 287 = S.2.1 287 from (funext fun j => ((fu_19 287 rfl).2.1 j).trans (((fu_12 287 rfl).2.1 j).trans (((fu_4 287 rfl).2.1 j).trans ((hL2_ 287 rfl).2.1 j))))]; exact hUP.2)) (c_X12_548 Cx rfl rfl (rmk_ok (by omega) (by decide))) hW rfl hl.1 rfl (Nat.le_of_ble_eq_true rfl) dX12_isBound_206 ⟨Nat.le_of_ble_eq_true rfl, Nat.le_of_ble_eq_true rfl⟩) hL (fun u_30 H locs k_31 hW hL => ?_)
          obtain ⟨iu_30, fu_30, xu_30⟩ := k_31
          have F_32 := F_21.trans (fu_30.to (p1_sub rfl))
          have g_33 : FF S u_30 (fl []) := FF.fr g_22 fu_30 rfl
          have g_34 : FF S u_30 (fl []) := FF.fr g_23 fu_30 rfl
          have nv_35 : nv (u_30.2.1 237) 0 = (ss 0 + (qq * (A 0 0))) * vb := (by rw [xu_30.2.1, (show nv (u_19.2.1 284) 0 = ss 0 + (qq * (A 0 0)) from nv_24), (show nv (u_19.2.1 287) 0 = vb by rw [show u_19.2.1 287 = S.2.1 287 from (funext fun j => ((fu_19 287 rfl).2.1 j).trans (((fu_12 287 rfl).2.1 j).trans (((fu_4 287 rfl).2.1 j).trans ((hL2_ 287 rfl).2.1 j))))]; exact hUV.2)])
          refine lv_aload_n hx hb dX12_isBound_209 rfl (lv_at hl 1 rfl) ?_
          refine g_X12_178 Cx hW (k := 231) (by decide) rfl (v := .ref (G.2.2.1 + 286)) (rd_96 iu_30) dX12_isBound_210 ?_
          refine lv_iconst (v := iv 0) hx hb dX12_isBound_213 (by decide) ?_
          refine lv_aload_n hx hb dX12_isBound_214 rfl (lv_at hl 1 rfl) ?_
          refine g_X12_184 Cx hW (k := 231) (by decide) rfl (v := .ref (G.2.2.1 + 288)) (rd_98 iu_30) dX12_isBound_215 ?_
          refine lv_iconst (v := iv 0) hx hb dX12_isBound_218 (by decide) ?_
          refine lv_aload_n hx hb dX12_isBound_219 rfl (lv_at hl 1 rfl) ?_
          refine g_X12_29 Cx hW (k := 231) (by decide) rfl (v := .ref (G.2.2.1 + 238)) (rd_8 iu_30) dX12_isBound_220 ?_
          refine lv_iconst (v := iv 0) hx hb dX12_isBound_223 (by decide) ?_
          refine sBv (sSt (As := [.ref (G.2.2.1 + 286), .int (iv 0), .ref (G.2.2.1 + 288), .int (iv 0), .ref (G.2.2.1 + 238), .int (iv 0)]) (rest := []) Cx (s_X12_multiply l G u_30 (ka := 286) (po := 0) (kb := 288) (qo := 0) (kc := 238) (ro := 0) (Nka := 10) (Nkb := 10) (Nkc := 68) (La := 7) (Lb := 7) iu_30 ⟨rfl, by decide, by decide, by decide, rfl⟩ ⟨rfl, by decide, by decide, by decide, rfl⟩ ⟨rfl, by decide, by decide, by decide, rfl⟩ (show (238 : Nat) ≠ 288 by decide) (show (238 : Nat) ≠ 286 by decide) (by omega) (by rw [show u_30.2.1 286 = S.2.1 286 from (funext fun j => ((fu_30 286 rfl).2.1 j).trans (((fu_19 286 rfl).2.1 j).trans (((fu_12 286 rfl).2.1 j).trans (((fu_4 286 rfl).2.1 j).trans ((hL2_ 286 rfl).2.1 j)))))]; exact hUP.1) (by rw [show u_30.2.1 288 = S.2.1 288 from (funext fun j => ((fu_30 288 rfl).2.1 j).trans (((fu_19 288 rfl).2.1 j).trans (((fu_12 288 rfl).2.1 j).trans (((fu_4 288 rfl).2.1 j).trans ((hL2_ 288 rfl).2.1 j)))))]; exact hDV.1)) (c_X12_548 Cx rfl rfl (rmk_ok (by omega) (by decide))) hW rfl hl.1 rfl (Nat.le_of_ble_eq_true rfl) dX12_isBound_224 ⟨Nat.le_of_ble_eq_true rfl, Nat.le_of_ble_eq_true rfl⟩) hL (fun u_36 H locs k_37 hW hL => ?_)
          obtain ⟨iu_36, fu_36, xu_36⟩ := k_37
          have F_38 := F_32.trans (fu_36.to (p1_sub rfl))
          have g_39 : FF S u_36 (fl []) := FF.fr g_33 fu_36 rfl
          have g_40 : FF S u_36 (fl []) := FF.fr g_34 fu_36 rfl
          have nv_41 : nv (u_36.2.1 238) 0 = vt * qq := (by rw [xu_36.2.1, (show nv (u_30.2.1 286) 0 = vt by rw [show u_30.2.1 286 = S.2.1 286 from (funext fun j => ((fu_30 286 rfl).2.1 j).trans (((fu_19 286 rfl).2.1 j).trans (((fu_12 286 rfl).2.1 j).trans (((fu_4 286 rfl).2.1 j).trans ((hL2_ 286 rfl).2.1 j)))))]; exact hUV.1), (show nv (u_30.2.1 288) 0 = qq by rw [show u_30.2.1 288 = S.2.1 288 from (funext fun j => ((fu_30 288 rfl).2.1 j).trans (((fu_19 288 rfl).2.1 j).trans (((fu_12 288 rfl).2.1 j).trans (((fu_4 288 rfl).2.1 j).trans ((hL2_ 288 rfl).2.1 j)))))]; exact hDQ)])
          refine lv_aload_n hx hb dX12_isBound_227 rfl (lv_at hl 1 rfl) ?_
          refine g_X12_26 Cx hW (k := 231) (by decide) rfl (v := .ref (G.2.2.1 + 237)) (rd_7 iu_36) dX12_isBound_228 ?_
          refine lv_iconst (v := iv 0) hx hb dX12_isBound_231 (by decide) ?_
          refine lv_aload_n hx hb dX12_isBound_232 rfl (lv_at hl 1 rfl) ?_
          refine g_X12_29 Cx hW (k := 231) (by decide) rfl (v := .ref (G.2.2.1 + 238)) (rd_8 iu_36) dX12_isBound_233 ?_
          refine lv_iconst (v := iv 0) hx hb dX12_isBound_236 (by decide) ?_
          refine sBi (sSt (As := [.ref (G.2.2.1 + 237), .int (iv 0), .ref (G.2.2.1 + 238), .int (iv 0)]) (rest := []) Cx (s_X12_compare l G u_36 (ka := 237) (po := 0) (kb := 238) (qo := 0) (Nka := 68) (Nkb := 68) (La := 24) (Lb := 14) iu_36 ⟨rfl, by decide, by decide, by decide, rfl⟩ ⟨rfl, by decide, by decide, by decide, rfl⟩ (by omega) (by rw [show u_36.2.1 237 = u_30.2.1 237 from (funext fun j => (fu_36 237 rfl).2.1 j)]; exact xu_30.1) xu_36.1) (c_X12_552 Cx rfl rfl (rmk_ok (by omega) (by decide))) hW rfl hl.1 rfl (Nat.le_of_ble_eq_true rfl) dX12_isBound_237 ⟨Nat.le_of_ble_eq_true rfl, Nat.le_of_ble_eq_true rfl⟩) hL (fun r_44 u_42 H locs k_43 hW hL => ?_)
          obtain ⟨eu_42, xu_42⟩ := k_43
          rw [eu_42] at hW
          have cf_45 := (show _ ∧ _ ∧ _ from xu_42.2)
          rw [(show nv (u_36.2.1 237) 0 = (ss 0 + (qq * (A 0 0))) * vb by rw [show u_36.2.1 237 = u_30.2.1 237 from (funext fun j => (fu_36 237 rfl).2.1 j)]; exact nv_35), (show nv (u_36.2.1 238) 0 = vt * qq from nv_41)] at cf_45
          refine r_if_gt (tgt := 247) hx hb ⟨(by omega), (by omega)⟩ dX12_isBound_240 (by decide) (fun c_46 => ?_) (fun c_46 => ?_)
          · refine lv_iconst (v := iv 0) hx hb dX12_isBound_247 (by decide) ?_
            exact sZret Cx hr hlk hW hL (by omega) ⟨iu_36, F_38, g_39, ⟨(by omega), (show _ ↔ _ from ⟨fun z => absurd z (by omega), fun z => by have y := z.2.2 (fun y => absurd (hwg.mpr y) (by omega)); exfalso; omega⟩)⟩⟩ dX12_isBound_248
          · refine lv_iconst (v := iv 1) hx hb dX12_isBound_243 (by decide) ?_
            refine lv_goto (tgt := 248) hx hb dX12_isBound_244 (by decide) ?_
            exact sZret Cx hr hlk hW hL (by omega) ⟨iu_36, F_38, g_39, ⟨(by omega), (show _ ↔ _ from ⟨fun _ => ⟨fun i a b => hok2 i a (by omega), fun z => absurd (hwg.mpr z) (by omega), fun _ => by omega⟩, fun _ => rfl⟩)⟩⟩ dX12_isBound_248
        · have hbp127 : 0 < u_19.2.1 288 0 := by rw [show u_19.2.1 288 = S.2.1 288 from (funext fun j => ((fu_19 288 rfl).2.1 j).trans (((fu_12 288 rfl).2.1 j).trans (((fu_4 288 rfl).2.1 j).trans ((hL2_ 288 rfl).2.1 j))))]; exact hDV.1.sgn.2.1.mp hDV.2
          refine lv_aload_n hx hb dX12_isBound_127 rfl (lv_at hl 1 rfl) ?_
          refine lv_aload_n hx hb dX12_isBound_128 rfl (lv_at hl 1 rfl) ?_
          refine g_X12_172 Cx hW (k := 231) (by decide) rfl (v := .ref (G.2.2.1 + 284)) (rd_94 iu_19) dX12_isBound_129 ?_
          refine lv_iconst (v := iv 0) hx hb dX12_isBound_132 (by decide) ?_
          refine lv_aload_n hx hb dX12_isBound_133 rfl (lv_at hl 1 rfl) ?_
          refine g_X12_184 Cx hW (k := 231) (by decide) rfl (v := .ref (G.2.2.1 + 288)) (rd_98 iu_19) dX12_isBound_134 ?_
          refine lv_iconst (v := iv 0) hx hb dX12_isBound_137 (by decide) ?_
          refine lv_aload_n hx hb dX12_isBound_138 rfl (lv_at hl 1 rfl) ?_
          refine g_X12_29 Cx hW (k := 231) (by decide) rfl (v := .ref (G.2.2.1 + 238)) (rd_8 iu_19) dX12_isBound_139 ?_
          refine lv_iconst (v := iv 0) hx hb dX12_isBound_142 (by decide) ?_
          refine lv_aload_n hx hb dX12_isBound_143 rfl (lv_at hl 1 rfl) ?_
          refine g_X12_35 Cx hW (k := 231) (by decide) rfl (v := .ref (G.2.2.1 + 240)) (rd_10 iu_19) dX12_isBound_144 ?_
          refine lv_iconst (v := iv 0) hx hb dX12_isBound_147 (by decide) ?_
          refine sBv (sV (As := [.ref (G.2.2.1 + 284), .int (iv 0), .ref (G.2.2.1 + 288), .int (iv 0), .ref (G.2.2.1 + 238), .int (iv 0), .ref (G.2.2.1 + 240), .int (iv 0)]) (rest := []) (k := 231) Cx (s_X12_divide l G u_19 (ka := 284) (po := 0) (kb := 288) (qo := 0) (kc := 238) (ro := 0) (kd := 240) (eo := 0) (Nka := 520) (Nkb := 10) (Nkc := 68) (Nkd := 68) (La := 17) (Lb := 7) (Ld := 8) iu_19 ⟨rfl, by decide, by decide, by decide, rfl⟩ ⟨rfl, by decide, by decide, by decide, rfl⟩ ⟨rfl, by decide, by decide, by decide, rfl⟩ ⟨rfl, by decide, by decide, by decide, rfl⟩ (show (238 : Nat) ≠ 284 by decide) (show (240 : Nat) ≠ 284 by decide) (show (238 : Nat) ≠ 288 by decide) (show (240 : Nat) ≠ 288 by decide) (show (238 : Nat) ≠ 240 by decide) (show (284 : Nat) ≠ 233 by decide) (show (288 : Nat) ≠ 233 by decide) (show (288 : Nat) ≠ 234 by decide) (show (288 : Nat) ≠ 235 by decide) (show (238 : Nat) ≠ 233 by decide) (show (238 : Nat) ≠ 234 by decide) (show (238 : Nat) ≠ 235 by decide) (show (240 : Nat) ≠ 233 by decide) (show (240 : Nat) ≠ 234 by decide) (show (240 : Nat) ≠ 235 by decide) (by omega) (by omega) xu_19.1 (by rw [show u_19.2.1 288 = S.2.1 288 from (funext fun j => ((fu_19 288 rfl).2.1 j).trans (((fu_12 288 rfl).2.1 j).trans (((fu_4 288 rfl).2.1 j).trans ((hL2_ 288 rfl).2.1 j))))]; exact hDV.1)) (c_X12_266 Cx rfl rfl (rmk_ok (by omega) (by decide))) hW (by decide) rfl rfl rfl hl.1 rfl (Nat.le_of_ble_eq_true rfl) dX12_isBound_148 ⟨Nat.le_of_ble_eq_true rfl, Nat.le_of_ble_eq_true rfl⟩) hL (fun u_47 H locs k_48 hW hL => ?_)
          obtain ⟨iu_47, fu_47, xu_47⟩ := k_48
          have F_49 := F_21.trans (fu_47.to (pl_sub (by decide)))
          have g_50 : FF S u_47 (fl []) := FF.fr g_22 fu_47 rfl
          have g_51 : FF S u_47 (fl []) := FF.fr g_23 fu_47 rfl
          have dq_52 : Hd (nv (u_47.2.1 238) 0 = (ss 0 + (qq * (A 0 0))) / (qq) ∧ nv (u_47.2.1 240) 0 = (ss 0 + (qq * (A 0 0))) % (qq)) := dv_eq (by have h := xu_47.2.2.1; rw [(show nv (u_19.2.1 284) 0 = ss 0 + (qq * (A 0 0)) from nv_24), (show nv (u_19.2.1 288) 0 = qq by rw [show u_19.2.1 288 = S.2.1 288 from (funext fun j => ((fu_19 288 rfl).2.1 j).trans (((fu_12 288 rfl).2.1 j).trans (((fu_4 288 rfl).2.1 j).trans ((hL2_ 288 rfl).2.1 j))))]; exact hDQ)] at h; exact h)
          have nv_53 : nv (u_47.2.1 238) 0 = (ss 0 + (qq * (A 0 0))) / (qq) := dq_52.1
          have nv_54 : nv (u_47.2.1 240) 0 = (ss 0 + (qq * (A 0 0))) % (qq) := dq_52.2
          refine lv_aload_n hx hb dX12_isBound_151 rfl (lv_at hl 1 rfl) ?_
          refine g_X12_29 Cx hW (k := 231) (by decide) rfl (v := .ref (G.2.2.1 + 238)) (rd_8 iu_47) dX12_isBound_152 ?_
          refine lv_iconst (v := iv 0) hx hb dX12_isBound_155 (by decide) ?_
          refine lv_aload_n hx hb dX12_isBound_156 rfl (lv_at hl 1 rfl) ?_
          refine g_X12_181 Cx hW (k := 231) (by decide) rfl (v := .ref (G.2.2.1 + 287)) (rd_97 iu_47) dX12_isBound_157 ?_
          refine lv_iconst (v := iv 0) hx hb dX12_isBound_160 (by decide) ?_
          refine lv_aload_n hx hb dX12_isBound_161 rfl (lv_at hl 1 rfl) ?_
          refine g_X12_26 Cx hW (k := 231) (by decide) rfl (v := .ref (G.2.2.1 + 237)) (rd_7 iu_47) dX12_isBound_162 ?_
          refine lv_iconst (v := iv 0) hx hb dX12_isBound_165 (by decide) ?_
          refine sBv (sSt (As := [.ref (G.2.2.1 + 238), .int (iv 0), .ref (G.2.2.1 + 287), .int (iv 0), .ref (G.2.2.1 + 237), .int (iv 0)]) (rest := []) Cx (s_X12_multiply l G u_47 (ka := 238) (po := 0) (kb := 287) (qo := 0) (kc := 237) (ro := 0) (Nka := 68) (Nkb := 10) (Nkc := 68) (La := 18) (Lb := 7) iu_47 ⟨rfl, by decide, by decide, by decide, rfl⟩ ⟨rfl, by decide, by decide, by decide, rfl⟩ ⟨rfl, by decide, by decide, by decide, rfl⟩ (show (237 : Nat) ≠ 287 by decide) (show (237 : Nat) ≠ 238 by decide) (by omega) xu_47.1 (by rw [show u_47.2.1 287 = S.2.1 287 from (funext fun j => ((fu_47 287 rfl).2.1 j).trans (((fu_19 287 rfl).2.1 j).trans (((fu_12 287 rfl).2.1 j).trans (((fu_4 287 rfl).2.1 j).trans ((hL2_ 287 rfl).2.1 j)))))]; exact hUP.2)) (c_X12_548 Cx rfl rfl (rmk_ok (by omega) (by decide))) hW rfl hl.1 rfl (Nat.le_of_ble_eq_true rfl) dX12_isBound_166 ⟨Nat.le_of_ble_eq_true rfl, Nat.le_of_ble_eq_true rfl⟩) hL (fun u_55 H locs k_56 hW hL => ?_)
          obtain ⟨iu_55, fu_55, xu_55⟩ := k_56
          have F_57 := F_49.trans (fu_55.to (p1_sub rfl))
          have g_58 : FF S u_55 (fl []) := FF.fr g_50 fu_55 rfl
          have g_59 : FF S u_55 (fl []) := FF.fr g_51 fu_55 rfl
          have nv_60 : nv (u_55.2.1 237) 0 = ((ss 0 + (qq * (A 0 0))) / (qq)) * vb := (by rw [xu_55.2.1, (show nv (u_47.2.1 238) 0 = (ss 0 + (qq * (A 0 0))) / (qq) from nv_53), (show nv (u_47.2.1 287) 0 = vb by rw [show u_47.2.1 287 = S.2.1 287 from (funext fun j => ((fu_47 287 rfl).2.1 j).trans (((fu_19 287 rfl).2.1 j).trans (((fu_12 287 rfl).2.1 j).trans (((fu_4 287 rfl).2.1 j).trans ((hL2_ 287 rfl).2.1 j)))))]; exact hUV.2)])
          refine lv_aload_n hx hb dX12_isBound_169 rfl (lv_at hl 1 rfl) ?_
          refine g_X12_26 Cx hW (k := 231) (by decide) rfl (v := .ref (G.2.2.1 + 237)) (rd_7 iu_55) dX12_isBound_170 ?_
          refine lv_iconst (v := iv 0) hx hb dX12_isBound_173 (by decide) ?_
          refine lv_aload_n hx hb dX12_isBound_174 rfl (lv_at hl 1 rfl) ?_
          refine g_X12_178 Cx hW (k := 231) (by decide) rfl (v := .ref (G.2.2.1 + 286)) (rd_96 iu_55) dX12_isBound_175 ?_
          refine lv_iconst (v := iv 0) hx hb dX12_isBound_178 (by decide) ?_
          refine sBi (sSt (As := [.ref (G.2.2.1 + 237), .int (iv 0), .ref (G.2.2.1 + 286), .int (iv 0)]) (rest := []) Cx (s_X12_compare l G u_55 (ka := 237) (po := 0) (kb := 286) (qo := 0) (Nka := 68) (Nkb := 10) (La := 25) (Lb := 7) iu_55 ⟨rfl, by decide, by decide, by decide, rfl⟩ ⟨rfl, by decide, by decide, by decide, rfl⟩ (by omega) xu_55.1 (by rw [show u_55.2.1 286 = S.2.1 286 from (funext fun j => ((fu_55 286 rfl).2.1 j).trans (((fu_47 286 rfl).2.1 j).trans (((fu_19 286 rfl).2.1 j).trans (((fu_12 286 rfl).2.1 j).trans (((fu_4 286 rfl).2.1 j).trans ((hL2_ 286 rfl).2.1 j))))))]; exact hUP.1)) (c_X12_552 Cx rfl rfl (rmk_ok (by omega) (by decide))) hW rfl hl.1 rfl (Nat.le_of_ble_eq_true rfl) dX12_isBound_179 ⟨Nat.le_of_ble_eq_true rfl, Nat.le_of_ble_eq_true rfl⟩) hL (fun r_63 u_61 H locs k_62 hW hL => ?_)
          obtain ⟨eu_61, xu_61⟩ := k_62
          rw [eu_61] at hW
          have cf_64 := (show _ ∧ _ ∧ _ from xu_61.2)
          rw [(show nv (u_55.2.1 237) 0 = ((ss 0 + (qq * (A 0 0))) / (qq)) * vb from nv_60), (show nv (u_55.2.1 286) 0 = vt by rw [show u_55.2.1 286 = S.2.1 286 from (funext fun j => ((fu_55 286 rfl).2.1 j).trans (((fu_47 286 rfl).2.1 j).trans (((fu_19 286 rfl).2.1 j).trans (((fu_12 286 rfl).2.1 j).trans (((fu_4 286 rfl).2.1 j).trans ((hL2_ 286 rfl).2.1 j))))))]; exact hUV.1)] at cf_64
          refine r_if_gt (tgt := 189) hx hb ⟨(by omega), (by omega)⟩ dX12_isBound_182 (by decide) (fun c_65 => ?_) (fun c_65 => ?_)
          · refine lv_iconst (v := iv 0) hx hb dX12_isBound_189 (by decide) ?_
            exact sZret Cx hr hlk hW hL (by omega) ⟨iu_55, F_57, g_58, ⟨(by omega), (show _ ↔ _ from ⟨fun z => absurd z (by omega), fun z => by have y := z.2.1 (hwg.mp (by omega)); exfalso; omega⟩)⟩⟩ dX12_isBound_190
          · refine lv_iconst (v := iv 1) hx hb dX12_isBound_185 (by decide) ?_
            refine lv_goto (tgt := 190) hx hb dX12_isBound_186 (by decide) ?_
            exact sZret Cx hr hlk hW hL (by omega) ⟨iu_55, F_57, g_58, ⟨(by omega), (show _ ↔ _ from ⟨fun _ => ⟨fun i a b => hok2 i a (by omega), fun _ => by omega, fun z => absurd (hwg.mp (by omega)) z⟩, fun _ => rfl⟩)⟩⟩ dX12_isBound_190
      · refine lv_aload_n hx hb dX12_isBound_10 rfl (lv_at hl 1 rfl) ?_
        refine g_X12_151 Cx hW (k := 231) (by decide) rfl (v := .ref (G.2.2.1 + 277)) (rd_87 hI2) dX12_isBound_11 ?_
        refine lv_iconst (v := iv 0) hx hb dX12_isBound_14 (by decide) ?_
        have hgv := hGM.1 j
        refine lv_aload_n hx hb dX12_isBound_15 rfl (lv_at hl 1 rfl) ?_
        refine g_X12_97 Cx hW (k := 231) (by decide) rfl (v := .ref (G.2.2.1 + 260)) (rd_51 hI2) dX12_isBound_16 ?_
        refine lv_iload_n hx hb dX12_isBound_19 rfl (lv_at hl 0 rfl) ?_
        refine rLald Cx hW (k := 260) (by decide) rfl (by decide) (by omega) (by omega) dX12_isBound_20 ?_
        have q_66 : -9223372036854775808 ≤ S.2.2.1 260 j ∧ S.2.2.1 260 j ≤ 9223372036854775807 := hI.li 260 j
        refine r_j (b := S.2.2.1 260 j) ((hL2_ 260 rfl).2.2.1 j) ?_
        refine sBv (sSt (As := [.ref (G.2.2.1 + 277), .int (iv 0), .long (jv (S.2.2.1 260 j))]) (rest := []) Cx (s_X12_put l G S2 (ka := 277) (po := 0) (v := S.2.2.1 260 j) (Nka := 4) hI2 ⟨rfl, by decide, by decide, by decide, rfl⟩ (by omega) (by omega)) (c_X12_241 Cx rfl rfl (rmk_ok (by omega) (by decide))) hW rfl hl.1 rfl (Nat.le_of_ble_eq_true rfl) dX12_isBound_21 ⟨Nat.le_of_ble_eq_true rfl, Nat.le_of_ble_eq_true rfl⟩) hL (fun u_67 H locs k_68 hW hL => ?_)
        obtain ⟨iu_67, fu_67, xu_67⟩ := k_68
        have F_69 := hFm2.trans (fu_67.to (p1_sub rfl))
        have F_70 := hL2_.trans (fu_67.to (p1_sub rfl))
        have g_71 : FF S u_67 (fl []) := FF.fr hGm2 fu_67 rfl
        have g_72 : FF S u_67 (fl []) := FF.fr gL2_ fu_67 rfl
        have nv_73 : nv (u_67.2.1 277) 0 = S.2.2.1 260 j := xu_67.2.1
        have nv_74 : nv (u_67.2.1 277) 0 = A 0 j := (by rw [xu_67.2.1]; exact hMR.2.2.2.2.1 j (by omega) (by omega))
        refine lv_aload_n hx hb dX12_isBound_24 rfl (lv_at hl 1 rfl) ?_
        refine g_X12_184 Cx hW (k := 231) (by decide) rfl (v := .ref (G.2.2.1 + 288)) (rd_98 iu_67) dX12_isBound_25 ?_
        refine lv_iconst (v := iv 0) hx hb dX12_isBound_28 (by decide) ?_
        refine lv_aload_n hx hb dX12_isBound_29 rfl (lv_at hl 1 rfl) ?_
        refine g_X12_151 Cx hW (k := 231) (by decide) rfl (v := .ref (G.2.2.1 + 277)) (rd_87 iu_67) dX12_isBound_30 ?_
        refine lv_iconst (v := iv 0) hx hb dX12_isBound_33 (by decide) ?_
        refine lv_aload_n hx hb dX12_isBound_34 rfl (lv_at hl 1 rfl) ?_
        refine g_X12_26 Cx hW (k := 231) (by decide) rfl (v := .ref (G.2.2.1 + 237)) (rd_7 iu_67) dX12_isBound_35 ?_
        refine lv_iconst (v := iv 0) hx hb dX12_isBound_38 (by decide) ?_
        refine sBv (sSt (As := [.ref (G.2.2.1 + 288), .int (iv 0), .ref (G.2.2.1 + 277), .int (iv 0), .ref (G.2.2.1 + 237), .int (iv 0)]) (rest := []) Cx (s_X12_multiply l G u_67 (ka := 288) (po := 0) (kb := 277) (qo := 0) (kc := 237) (ro := 0) (Nka := 10) (Nkb := 4) (Nkc := 68) (La := 7) (Lb := 3) iu_67 ⟨rfl, by decide, by decide, by decide, rfl⟩ ⟨rfl, by decide, by decide, by decide, rfl⟩ ⟨rfl, by decide, by decide, by decide, rfl⟩ (show (237 : Nat) ≠ 277 by decide) (show (237 : Nat) ≠ 288 by decide) (by omega) (by rw [show u_67.2.1 288 = S.2.1 288 from (funext fun j => ((fu_67 288 rfl).2.1 j).trans ((hL2_ 288 rfl).2.1 j))]; exact hDV.1) xu_67.1) (c_X12_548 Cx rfl rfl (rmk_ok (by omega) (by decide))) hW rfl hl.1 rfl (Nat.le_of_ble_eq_true rfl) dX12_isBound_39 ⟨Nat.le_of_ble_eq_true rfl, Nat.le_of_ble_eq_true rfl⟩) hL (fun u_75 H locs k_76 hW hL => ?_)
        obtain ⟨iu_75, fu_75, xu_75⟩ := k_76
        have F_77 := F_69.trans (fu_75.to (p1_sub rfl))
        have F_78 := F_70.trans (fu_75.to (p1_sub rfl))
        have g_79 : FF S u_75 (fl []) := FF.fr g_71 fu_75 rfl
        have g_80 : FF S u_75 (fl []) := FF.fr g_72 fu_75 rfl
        have nv_81 : nv (u_75.2.1 237) 0 = qq * (A 0 j) := (by rw [xu_75.2.1, (show nv (u_67.2.1 288) 0 = qq by rw [show u_67.2.1 288 = S.2.1 288 from (funext fun j => ((fu_67 288 rfl).2.1 j).trans ((hL2_ 288 rfl).2.1 j))]; exact hDQ), (show nv (u_67.2.1 277) 0 = A 0 j from nv_74)])
        refine lv_aload_n hx hb dX12_isBound_42 rfl (lv_at hl 1 rfl) ?_
        refine g_X12_172 Cx hW (k := 231) (by decide) rfl (v := .ref (G.2.2.1 + 284)) (rd_94 iu_75) dX12_isBound_43 ?_
        refine lv_bipush (v := iv 40) hx hb dX12_isBound_46 (by decide) ?_
        refine lv_iload_n hx hb dX12_isBound_48 rfl (lv_at hl 0 rfl) ?_
        refine r_imul hx hb dX12_isBound_49 ?_
        refine lv_aload_n hx hb dX12_isBound_50 rfl (lv_at hl 1 rfl) ?_
        refine g_X12_26 Cx hW (k := 231) (by decide) rfl (v := .ref (G.2.2.1 + 237)) (rd_7 iu_75) dX12_isBound_51 ?_
        refine lv_iconst (v := iv 0) hx hb dX12_isBound_54 (by decide) ?_
        refine sBi (sSt (As := [.ref (G.2.2.1 + 284), .int (iv (40 * j)), .ref (G.2.2.1 + 237), .int (iv 0)]) (rest := []) Cx (s_X12_compare l G u_75 (ka := 284) (po := 40 * j) (kb := 237) (qo := 0) (Nka := 520) (Nkb := 68) (La := 16) (Lb := 10) iu_75 ⟨rfl, by decide, by decide, by decide, rfl⟩ ⟨rfl, by decide, by decide, by decide, rfl⟩ (by omega) (by rw [show u_75.2.1 284 = S.2.1 284 from (funext fun j => ((fu_75 284 rfl).2.1 j).trans (((fu_67 284 rfl).2.1 j).trans ((hL2_ 284 rfl).2.1 j)))]; exact hSM j (by omega) (by omega)) xu_75.1) (c_X12_552 Cx rfl rfl (rmk_ok (by omega) (by decide))) hW rfl hl.1 rfl (Nat.le_of_ble_eq_true rfl) dX12_isBound_55 ⟨Nat.le_of_ble_eq_true rfl, Nat.le_of_ble_eq_true rfl⟩) hL (fun r_84 u_82 H locs k_83 hW hL => ?_)
        obtain ⟨eu_82, xu_82⟩ := k_83
        rw [eu_82] at hW
        have cf_85 := (show _ ∧ _ ∧ _ from xu_82.2)
        rw [(show nv (u_75.2.1 284) (40 * j) = ss j by rw [show u_75.2.1 284 = S.2.1 284 from (funext fun j => ((fu_75 284 rfl).2.1 j).trans (((fu_67 284 rfl).2.1 j).trans ((hL2_ 284 rfl).2.1 j)))]; exact (hSS j (by omega) (by omega))), (show nv (u_75.2.1 237) 0 = qq * (A 0 j) from nv_81)] at cf_85
        refine r_if_ge (tgt := 63) hx hb ⟨(by omega), (by omega)⟩ dX12_isBound_58 (by decide) (fun c_86 => ?_) (fun c_86 => ?_)
        · refine lv_iinc (v := iv (j + 1)) (lv' := [(1, .int (iv (j + 1))), (0, .ref (G.2.2.1 + 231))]) hx hb dX12_isBound_63 hl (k := 0) rfl ((Int32.ofInt_add _ _).symm) (by decide) rfl (fun ls hl => ?_)
          refine lv_goto (tgt := 2) hx hb dX12_isBound_66 (by decide) ?_
          exact ih_2 u_75 (j + 1) _ _ _ (by omega) iu_75 F_77 F_78 g_79 g_80 (by omega) (fun i a b => by by_cases z : i = j; (rw [z]; omega); exact hok2 i a (by omega)) hW hL (lv_sub hl [0, 1] rfl)
        · refine lv_iconst (v := iv 0) hx hb dX12_isBound_61 (by decide) ?_
          exact sZret Cx hr hlk hW hL (by omega) ⟨iu_75, F_77, g_79, ⟨(by omega), (show _ ↔ _ from ⟨fun z => absurd z (by omega), fun z => by have y := z.1 j (by omega) (by omega); exfalso; omega⟩)⟩⟩ dX12_isBound_62
  exact loop_2 (_ + 1) S 1 _ _ _ (Nat.lt_succ_self _) hI (Fr.rf : Fr S S (pl [233, 234, 235, 237, 238, 240, 277, 284])) Fr.rf FF.rf FF.rf (by omega) (fun i a b => absurd b (by omega)) hW hL (lv_sub hl [0, 1] rfl)

set_option maxRecDepth 100000 in
set_option maxHeartbeats 4000000 in
theorem q_X12_branchRow (l : Launch) (G : sG) (S : sS) {Xt Fm Wd Vt : Int → Int} {k tk bb n : Int} {T : Int} {kp vp : Int → Int} {cc : Int} {RR : Int → Int → Int} (hI : dX G S) (hX : S.2.1 243 = Xt) (hFm : S.2.1 245 = Fm) (hWd : S.2.1 246 = Wd) (hVt : S.2.1 247 = Vt) (hkt : kp tk = 2) (htk : 0 ≤ tk ∧ tk < 30004) (hm : 0 ≤ S.1 231 46 ∧ S.1 231 46 ≤ 12) (hn : S.1 231 46 = n) (hk : 1 ≤ k ∧ k ≤ n) (hbb : 0 ≤ bb ∧ bb ≤ 1) (h100 : 0 ≤ S.1 231 100 ∧ S.1 231 100 ≤ 39) (hHA : dHA S) (hHR : Hd (HRr S cc RR n)) (hQ : Hd (∀ t, 0 ≤ t → t < T → kp t = 2 → nTk Xt Fm Wd Vt t ∧ NVr Xt Fm Wd Vt t (vp t))) (hKS : Hd (KS T kp) ∧ T ≤ 30001) : Met l yX12_branchRow (.code yX12_branchRow cX12_branchRow 5 none :: tb) (rmk 5 0 0) (sPc G 294 S [.ref (G.2.2.1 + 231), .int (iv k), .int (iv tk), .int (iv bb)]) (sQv G 294 (fun u => dX G u ∧ Fr S u (pl [231, 277, 283]) ∧ FF S u (fl [100]) ∧ (u.1 231 100 = S.1 231 100 + 1 ∧ dHA u ∧ Hd (HRr u (cc + 1) (upR RR (cc + 1) (limr k (vp tk) bb)) n)))) 0 0 (sF G) := by
  refine sEnter (by decide) (Nat.le_of_ble_eq_true rfl) ?_
  intro p e s m args below meth c Cx hr hlk hnm hW ls hl
  have Cx : sC G p m c cX12_branchRow 5 s args RX12 := Cx
  obtain ⟨hx, hb, hml, hown, hts⟩ := id Cx.1
  have hL : sL G [] := sL_nil
  have hl : lv_has ls 5 [(0, .ref (G.2.2.1 + 231)), (1, .int (iv k)), (2, .int (iv tk)), (3, .int (iv bb))] := hl
  have hW0 := hW
  have hT3 := hKS.2
  have hRc := hHR.1
  refine lv_aload_n hx hb dX12_branchRow_0 rfl (lv_at hl 0 rfl) ?_
  refine lv_dup hx hb dX12_branchRow_1 rfl ?_
  have q_1 : (-2147483648) ≤ S.1 231 100 ∧ S.1 231 100 ≤ 2147483647 := hI.fi 100
  refine g_X12_738 Cx hW (k := 231) (by decide) rfl (v := S.1 231 100) rfl dX12_branchRow_2 ?_
  refine lv_iconst (v := iv 1) hx hb dX12_branchRow_5 (by decide) ?_
  refine r_iadd hx hb dX12_branchRow_6 ?_
  refine p_X12_738 Cx hW hL (k := 231) (by decide) rfl dX12_branchRow_7 (fun H locs hW hL => ?_)
  have F_2 : Fr S (uF S 231 100 ((S.1 231 100) + 1)) (pl [231, 277, 283]) := (Fr.rf : Fr S S (pl [231, 277, 283])).F rfl
  have g_3 : FF S (uF S 231 100 ((S.1 231 100) + 1)) (fl [100]) := FF.F FF.rf rfl
  have i_4 : dX G (uF S 231 100 ((S.1 231 100) + 1)) := hI.F (i := 100) (show (-2147483648) ≤ (S.1 231 100) + 1 ∧ (S.1 231 100) + 1 ≤ 2147483647 from ⟨by omega, by omega⟩)
  refine lv_iconst (v := iv 0) hx hb dX12_branchRow_10 (by decide) ?_
  refine lv_istore (lv' := [(4, .int (iv 0)), (0, .ref (G.2.2.1 + 231)), (1, .int (iv k)), (2, .int (iv tk)), (3, .int (iv bb))]) hx hb dX12_branchRow_11 hl (by decide) rfl (fun ls hl => ?_)
  have loop_13 : ∀ (fuel : Nat) (S13 : sS) (j : Int) (H : Heap) (locs : List Loc) (ls : Array Slot), (S.1 231 46 + 1 - j).toNat < fuel → (dX G S13) → (Fr S S13 (pl [231, 277, 283])) → (Fr ((uF S 231 100 ((S.1 231 100) + 1))) S13 (pl [283])) → (FF S S13 (fl [100])) → (FF ((uF S 231 100 ((S.1 231 100) + 1))) S13 (fl [])) → (0 ≤ j ∧ j ≤ S.1 231 46 + 1) → (dHf (S13.2.1 283)) → (HRf (S13.2.1 283) cc RR n) → (RCf (S13.2.1 283) (S.1 231 100 + 1) (j - 1) (fun _ => 0)) → sW G 294 S13 H → sL G locs → lv_has ls 5 [(4, .int (iv j)), (0, .ref (G.2.2.1 + 231)), (1, .int (iv k)), (2, .int (iv tk)), (3, .int (iv bb))] → W p l e (rmk 5 0 0) s m args below meth c H locs 0 0 (MQ below (sQv G 294 (fun u => dX G u ∧ Fr S u (pl [231, 277, 283]) ∧ FF S u (fl [100]) ∧ (u.1 231 100 = S.1 231 100 + 1 ∧ dHA u ∧ Hd (HRr u (cc + 1) (upR RR (cc + 1) (limr k (vp tk) bb)) n)))) args s 0 0 (sF G)) (F0 m 13 ls []) := by
    intro fuel
    induction fuel with
    | zero => intro S13 j H locs ls hmeas hI13 hFm13 hL13_ hGm13 gL13_ hj hB13 hO13 hD13 hW hL hl; exact absurd hmeas (Nat.not_lt_zero _)
    | succ fuel ih_13 =>
      intro S13 j H locs ls hmeas hI13 hFm13 hL13_ hGm13 gL13_ hj hB13 hO13 hD13 hW hL hl
      refine lv_iload hx hb dX12_branchRow_13 (lv_at hl 0 rfl) ?_
      refine lv_aload_n hx hb dX12_branchRow_15 rfl (lv_at hl 1 rfl) ?_
      have q_5 : (-2147483648) ≤ S.1 231 46 ∧ S.1 231 46 ≤ 2147483647 := hI.fi 46
      refine g_X12_465 Cx hW (k := 231) (by decide) rfl (v := S.1 231 46) ((gL13_ 46 rfl).trans (uF_ne (fun h => absurd h.2 (by decide)))) dX12_branchRow_16 ?_
      refine r_icmp_gt (tgt := 44) hx hb ⟨(by omega), (by omega)⟩ ⟨(by omega), (by omega)⟩ dX12_branchRow_19 (by decide) (fun c_6 => ?_) (fun c_6 => ?_)
      · have hC13 : RCf (S13.2.1 283) (S.1 231 100 + 1) n (fun _ => 0) := by rw [show n = j - 1 by omega]; exact hD13
        refine lv_aload_n hx hb dX12_branchRow_44 rfl (lv_at hl 1 rfl) ?_
        refine g_X12_169 Cx hW (k := 231) (by decide) rfl (v := .ref (G.2.2.1 + 283)) (rd_93 hI13) dX12_branchRow_45 ?_
        refine lv_aload_n hx hb dX12_branchRow_48 rfl (lv_at hl 1 rfl) ?_
        refine lv_aload_n hx hb dX12_branchRow_49 rfl (lv_at hl 1 rfl) ?_
        refine g_X12_738 Cx hW (k := 231) (by decide) rfl (v := (S.1 231 100) + 1) ((gL13_ 100 rfl).trans (uF_on)) dX12_branchRow_50 ?_
        refine lv_iload_n hx hb dX12_branchRow_53 rfl (lv_at hl 2 rfl) ?_
        refine sBi (sV (As := [.int (iv ((S.1 231 100) + 1)), .int (iv k)]) (rest := [.ref (G.2.2.1 + 283)]) (k := 231) Cx (s_X12_heldCell l G S13 (i := (S.1 231 100) + 1) (j := k) (by omega) (by omega)) (c_X12_735 Cx rfl rfl (rmk_ok (by omega) (by decide))) hW (by decide) rfl rfl rfl hl.1 rfl (Nat.le_of_ble_eq_true rfl) dX12_branchRow_54 ⟨Nat.le_of_ble_eq_true rfl, Nat.le_of_ble_eq_true rfl⟩) hL (fun q1 u_7 H locs k_8 hW hL => ?_)
        obtain ⟨eu_7, xu_7⟩ := k_8
        rw [eu_7] at hW
        refine lv_iload_n hx hb dX12_branchRow_57 rfl (lv_at hl 4 rfl) ?_
        refine r_if_eq (tgt := 67) hx hb ⟨(by omega), (by omega)⟩ dX12_branchRow_58 (by decide) (fun c_9 => ?_) (fun c_9 => ?_)
        · refine lv_lconst (v := jv 1) hx hb dX12_branchRow_67 (by decide) ?_
          refine sBv (sSt (As := [.ref (G.2.2.1 + 283), .int (iv q1), .long (jv 1)]) (rest := []) Cx (s_X12_put l G S13 (ka := 283) (po := q1) (v := 1) (Nka := 5460) hI13 ⟨rfl, by decide, by decide, by decide, rfl⟩ (by omega) (by omega)) (c_X12_241 Cx rfl rfl (rmk_ok (by omega) (by decide))) hW rfl hl.1 rfl (Nat.le_of_ble_eq_true rfl) dX12_branchRow_68 ⟨Nat.le_of_ble_eq_true rfl, Nat.le_of_ble_eq_true rfl⟩) hL (fun u_10 H locs k_11 hW hL => ?_)
          obtain ⟨iu_10, fu_10, xu_10⟩ := k_11
          have F_12 := hFm13.trans (fu_10.to (p1_sub rfl))
          have F_13 := hL13_.trans (fu_10.to (p1_sub rfl))
          have g_14 : FF S u_10 (fl [100]) := FF.fr hGm13 fu_10 rfl
          have g_15 : FF ((uF S 231 100 ((S.1 231 100) + 1))) u_10 (fl []) := FF.fr gL13_ fu_10 rfl
          have nv_16 : nv (u_10.2.1 283) q1 = 1 := xu_10.2.1
          have hB1 : dHf (u_10.2.1 283) := dHf.put (f := S13.2.1 283) (a := (S.1 231 100 + 1)) (b := k) (P := q1) hB13 (by omega) (by omega) (by omega) (xu_10.1.mono (by omega)) (fun x a => xu_10.2.2 x (by omega))
          have hO1 : HRf (u_10.2.1 283) cc RR n := HRf.out (f := S13.2.1 283) (a := (S.1 231 100 + 1)) (b := k) (P := q1) hO13 hB13 (by omega) (by omega) (by omega) (by omega) (fun x a => xu_10.2.2 x (by omega))
          have hC1 : RCf (u_10.2.1 283) (S.1 231 100 + 1) n (upf (fun _ => 0) k (1)) := RCf.put (f := S13.2.1 283) (a := (S.1 231 100 + 1)) (b := k) (P := q1) hC13 hB13 (by omega) (by omega) (by omega) (show nv (u_10.2.1 283) q1 = 1 from nv_16) (fun x a => xu_10.2.2 x (by omega))
          refine lv_aload_n hx hb dX12_branchRow_71 rfl (lv_at hl 1 rfl) ?_
          refine lv_aload_n hx hb dX12_branchRow_72 rfl (lv_at hl 1 rfl) ?_
          refine g_X12_738 Cx hW (k := 231) (by decide) rfl (v := (S.1 231 100) + 1) (((fu_10 231 rfl).1 100).trans ((gL13_ 100 rfl).trans (uF_on))) dX12_branchRow_73 ?_
          refine lv_iconst (v := iv 0) hx hb dX12_branchRow_76 (by decide) ?_
          refine sBi (sV (As := [.int (iv ((S.1 231 100) + 1)), .int (iv 0)]) (rest := []) (k := 231) Cx (s_X12_heldCell l G u_10 (i := (S.1 231 100) + 1) (j := 0) (by omega) (by omega)) (c_X12_735 Cx rfl rfl (rmk_ok (by omega) (by decide))) hW (by decide) rfl rfl rfl hl.1 rfl (Nat.le_of_ble_eq_true rfl) dX12_branchRow_77 ⟨Nat.le_of_ble_eq_true rfl, Nat.le_of_ble_eq_true rfl⟩) hL (fun q2 u_17 H locs k_18 hW hL => ?_)
          obtain ⟨eu_17, xu_17⟩ := k_18
          rw [eu_17] at hW
          refine lv_istore (lv' := [(4, .int (iv q2)), (0, .ref (G.2.2.1 + 231)), (1, .int (iv k)), (2, .int (iv tk)), (3, .int (iv bb))]) hx hb dX12_branchRow_80 hl (by decide) rfl (fun ls hl => ?_)
          have hq_19b := hKS.1 (tk) (by rw [hkt]; decide) (by rw [hkt]; decide)
          have hq_19 : Hd _ := hQ (tk) hq_19b.1 (by omega) hkt
          refine lv_aload_n hx hb dX12_branchRow_82 rfl (lv_at hl 1 rfl) ?_
          refine lv_iload_n hx hb dX12_branchRow_83 rfl (lv_at hl 3 rfl) ?_
          refine lv_aload_n hx hb dX12_branchRow_84 rfl (lv_at hl 1 rfl) ?_
          refine g_X12_169 Cx hW (k := 231) (by decide) rfl (v := .ref (G.2.2.1 + 283)) (rd_93 iu_10) dX12_branchRow_85 ?_
          refine lv_iload hx hb dX12_branchRow_88 (lv_at hl 0 rfl) ?_
          refine sBv (sV (As := [.int (iv tk), .ref (G.2.2.1 + 283), .int (iv q2)]) (rest := []) (k := 231) Cx (q_X12_numberAt l G u_10 (tk := tk) (ka := 283) (po := q2) (Nka := 5460) (Xt := Xt) (Fm := Fm) (Wd := Wd) (Vt := Vt) (xx := vp (tk)) iu_10 ⟨rfl, by decide, by decide, by decide, rfl⟩ (show (283 : Nat) ≠ 243 by decide) (show (283 : Nat) ≠ 245 by decide) (show (283 : Nat) ≠ 246 by decide) (show (283 : Nat) ≠ 247 by decide) ((funext fun j => ((fu_10 243 rfl).2.1 j).trans (((hL13_ 243 rfl).2.1 j).trans (uF_a)) : u_10.2.1 243 = S.2.1 243).trans hX) ((funext fun j => ((fu_10 245 rfl).2.1 j).trans (((hL13_ 245 rfl).2.1 j).trans (uF_a)) : u_10.2.1 245 = S.2.1 245).trans hFm) ((funext fun j => ((fu_10 246 rfl).2.1 j).trans (((hL13_ 246 rfl).2.1 j).trans (uF_a)) : u_10.2.1 246 = S.2.1 246).trans hWd) ((funext fun j => ((fu_10 247 rfl).2.1 j).trans (((hL13_ 247 rfl).2.1 j).trans (uF_a)) : u_10.2.1 247 = S.2.1 247).trans hVt) hq_19.1 hq_19.2 (by omega) (by omega)) (c_X12_703 Cx rfl rfl (rmk_ok (by omega) (by decide))) hW (by decide) rfl rfl rfl hl.1 rfl (Nat.le_of_ble_eq_true rfl) dX12_branchRow_90 ⟨Nat.le_of_ble_eq_true rfl, Nat.le_of_ble_eq_true rfl⟩) hL (fun u_20 H locs k_21 hW hL => ?_)
          obtain ⟨iu_20, fu_20, gu_20, xu_20⟩ := k_21
          have F_22 := F_12.trans (fu_20.to (pl_sub (by decide)))
          have F_23 := F_13.trans fu_20
          have g_24 : FF S u_20 (fl [100]) := FF.trans g_14 (FF.to gu_20 (fl_sub (by decide)))
          have g_25 : FF ((uF S 231 100 ((S.1 231 100) + 1))) u_20 (fl []) := FF.trans g_15 (FF.to gu_20 (fl_sub (by decide)))
          have nv_26 : nv (u_20.2.1 283) q2 = vp (tk) := xu_20.2.1
          have hB2 : dHf (u_20.2.1 283) := dHf.put (f := u_10.2.1 283) (a := (S.1 231 100 + 1)) (b := 0) (P := q2) hB1 (by omega) (by omega) (by omega) (xu_20.1.mono (by omega)) (fun x a => xu_20.2.2 x (by omega))
          have hO2 : HRf (u_20.2.1 283) cc RR n := HRf.out (f := u_10.2.1 283) (a := (S.1 231 100 + 1)) (b := 0) (P := q2) hO1 hB1 (by omega) (by omega) (by omega) (by omega) (fun x a => xu_20.2.2 x (by omega))
          have hC2 : RCf (u_20.2.1 283) (S.1 231 100 + 1) n (upf (upf (fun _ => 0) k (1)) 0 (vp tk)) := RCf.put (f := u_10.2.1 283) (a := (S.1 231 100 + 1)) (b := 0) (P := q2) hC1 hB1 (by omega) (by omega) (by omega) xu_20.2.1 (fun x a => xu_20.2.2 x (by omega))
          refine lv_iload_n hx hb dX12_branchRow_93 rfl (lv_at hl 4 rfl) ?_
          refine r_if_ne (tgt := 98) hx hb ⟨(by omega), (by omega)⟩ dX12_branchRow_94 (by decide) (fun c_27 => ?_) (fun c_27 => ?_)
          · refine lv_aload_n hx hb dX12_branchRow_98 rfl (lv_at hl 1 rfl) ?_
            refine g_X12_151 Cx hW (k := 231) (by decide) rfl (v := .ref (G.2.2.1 + 277)) (rd_87 iu_20) dX12_branchRow_99 ?_
            refine lv_iconst (v := iv 0) hx hb dX12_branchRow_102 (by decide) ?_
            refine lv_lconst (v := jv 1) hx hb dX12_branchRow_103 (by decide) ?_
            refine sBv (sSt (As := [.ref (G.2.2.1 + 277), .int (iv 0), .long (jv 1)]) (rest := []) Cx (s_X12_put l G u_20 (ka := 277) (po := 0) (v := 1) (Nka := 4) iu_20 ⟨rfl, by decide, by decide, by decide, rfl⟩ (by omega) (by omega)) (c_X12_241 Cx rfl rfl (rmk_ok (by omega) (by decide))) hW rfl hl.1 rfl (Nat.le_of_ble_eq_true rfl) dX12_branchRow_104 ⟨Nat.le_of_ble_eq_true rfl, Nat.le_of_ble_eq_true rfl⟩) hL (fun u_28 H locs k_29 hW hL => ?_)
            obtain ⟨iu_28, fu_28, xu_28⟩ := k_29
            have F_30 := F_22.trans (fu_28.to (p1_sub rfl))
            have g_31 : FF S u_28 (fl [100]) := FF.fr g_24 fu_28 rfl
            have g_32 : FF ((uF S 231 100 ((S.1 231 100) + 1))) u_28 (fl []) := FF.fr g_25 fu_28 rfl
            have nv_33 : nv (u_28.2.1 277) 0 = 1 := xu_28.2.1
            refine lv_aload_n hx hb dX12_branchRow_107 rfl (lv_at hl 1 rfl) ?_
            refine g_X12_169 Cx hW (k := 231) (by decide) rfl (v := .ref (G.2.2.1 + 283)) (rd_93 iu_28) dX12_branchRow_108 ?_
            refine lv_iload hx hb dX12_branchRow_111 (lv_at hl 0 rfl) ?_
            refine lv_aload_n hx hb dX12_branchRow_113 rfl (lv_at hl 1 rfl) ?_
            refine g_X12_151 Cx hW (k := 231) (by decide) rfl (v := .ref (G.2.2.1 + 277)) (rd_87 iu_28) dX12_branchRow_114 ?_
            refine lv_iconst (v := iv 0) hx hb dX12_branchRow_117 (by decide) ?_
            refine lv_iconst (v := iv 0) hx hb dX12_branchRow_118 (by decide) ?_
            refine lv_aload_n hx hb dX12_branchRow_119 rfl (lv_at hl 1 rfl) ?_
            refine g_X12_169 Cx hW (k := 231) (by decide) rfl (v := .ref (G.2.2.1 + 283)) (rd_93 iu_28) dX12_branchRow_120 ?_
            refine lv_iload hx hb dX12_branchRow_123 (lv_at hl 0 rfl) ?_
            refine sBv (sSt (As := [.ref (G.2.2.1 + 283), .int (iv q2), .ref (G.2.2.1 + 277), .int (iv 0), .int (iv 0), .ref (G.2.2.1 + 283), .int (iv q2)]) (rest := []) Cx (s_X12_add l G u_28 (ka := 283) (po := q2) (kb := 277) (qo := 0) (lz := 0) (kc := 283) (ro := q2) (Nka := 5460) (Nkb := 4) (Nkc := 5460) (La := 7) (Lb := 3) (Lc := 8) iu_28 ⟨rfl, by decide, by decide, by decide, rfl⟩ ⟨rfl, by decide, by decide, by decide, rfl⟩ ⟨rfl, by decide, by decide, by decide, rfl⟩ (show (283 : Nat) ≠ 277 by decide) (fun _ => rfl) (by omega) (by omega) (by rw [show u_28.2.1 283 = u_20.2.1 283 from (funext fun j => (fu_28 283 rfl).2.1 j)]; exact xu_20.1) xu_28.1) (c_X12_249 Cx rfl rfl (rmk_ok (by omega) (by decide))) hW rfl hl.1 rfl (Nat.le_of_ble_eq_true rfl) dX12_branchRow_125 ⟨Nat.le_of_ble_eq_true rfl, Nat.le_of_ble_eq_true rfl⟩) hL (fun u_34 H locs k_35 hW hL => ?_)
            obtain ⟨iu_34, fu_34, xu_34⟩ := k_35
            have F_36 := F_30.trans (fu_34.to (p1_sub rfl))
            have g_37 : FF S u_34 (fl [100]) := FF.fr g_31 fu_34 rfl
            have g_38 : FF ((uF S 231 100 ((S.1 231 100) + 1))) u_34 (fl []) := FF.fr g_32 fu_34 rfl
            have nv_39 : nv (u_34.2.1 283) q2 = vp (tk) + 1 := (by rw [xu_34.2.1, asn_0, (show nv (u_28.2.1 283) q2 = vp (tk) by rw [show u_28.2.1 283 = u_20.2.1 283 from (funext fun j => (fu_28 283 rfl).2.1 j)]; exact nv_26), (show nv (u_28.2.1 277) 0 = 1 from nv_33)])
            refine lv_aload_n hx hb dX12_branchRow_128 rfl (lv_at hl 1 rfl) ?_
            refine g_X12_169 Cx hW (k := 231) (by decide) rfl (v := .ref (G.2.2.1 + 283)) (rd_93 iu_34) dX12_branchRow_129 ?_
            refine lv_iload hx hb dX12_branchRow_132 (lv_at hl 0 rfl) ?_
            refine sBv (sSt (As := [.ref (G.2.2.1 + 283), .int (iv q2)]) (rest := []) Cx (s_X12_negate l G u_34 (ka := 283) (po := q2) (Nka := 5460) (La := 8) iu_34 ⟨rfl, by decide, by decide, by decide, rfl⟩ (by omega) xu_34.1) (c_X12_540 Cx rfl rfl (rmk_ok (by omega) (by decide))) hW rfl hl.1 rfl (Nat.le_of_ble_eq_true rfl) dX12_branchRow_134 ⟨Nat.le_of_ble_eq_true rfl, Nat.le_of_ble_eq_true rfl⟩) hL (fun u_40 H locs k_41 hW hL => ?_)
            obtain ⟨iu_40, fu_40, xu_40⟩ := k_41
            have F_42 := F_36.trans (fu_40.to (p1_sub rfl))
            have g_43 : FF S u_40 (fl [100]) := FF.fr g_37 fu_40 rfl
            have g_44 : FF ((uF S 231 100 ((S.1 231 100) + 1))) u_40 (fl []) := FF.fr g_38 fu_40 rfl
            have nv_45 : nv (u_40.2.1 283) q2 = -(vp (tk) + 1) := (by rw [xu_40.2.1, (show nv (u_34.2.1 283) q2 = vp (tk) + 1 from nv_39)])
            have lk_46 : u_40.1 231 100 = (S.1 231 100) + 1 := ((fu_40 231 rfl).1 100).trans (((fu_34 231 rfl).1 100).trans (((fu_28 231 rfl).1 100).trans ((gu_20 100 rfl).trans (((fu_10 231 rfl).1 100).trans ((gL13_ 100 rfl).trans (uF_on))))))
            exact sVret Cx hr hlk hW hL ⟨iu_40, F_42, g_43, (by exfalso; omega)⟩ dX12_branchRow_137
          · have lk_47 : u_20.1 231 100 = (S.1 231 100) + 1 := (gu_20 100 rfl).trans (((fu_10 231 rfl).1 100).trans ((gL13_ 100 rfl).trans (uF_on)))
            exact sVret Cx hr hlk hW hL ⟨iu_20, F_22, g_24, ⟨(by have y := (show u_20.1 231 100 = (S.1 231 100) + 1 from (gu_20 100 rfl).trans (((fu_10 231 rfl).1 100).trans ((gL13_ 100 rfl).trans (uF_on)))); omega), hB2, (show HRr _ _ _ _ from ⟨(by have y := (show u_20.1 231 100 = (S.1 231 100) + 1 from (gu_20 100 rfl).trans (((fu_10 231 rfl).1 100).trans ((gL13_ 100 rfl).trans (uF_on)))); omega), HRf.new (g' := limr k (vp tk) bb) hO2 (by rw [show cc + 1 = (S.1 231 100 + 1) by omega]; exact hC2) (fun t t0 t1 => by unfold upf limr; (repeat' split) <;> first | rfl | omega)⟩)⟩⟩ dX12_branchRow_97
        · refine lv_ldc2 hx hb hown (hts _ w_2496) dX12_branchRow_61 ?_
          refine lv_goto (tgt := 68) hx hb dX12_branchRow_64 (by decide) ?_
          refine sBv (sSt (As := [.ref (G.2.2.1 + 283), .int (iv q1), .long (jv ((-1)))]) (rest := []) Cx (s_X12_put l G S13 (ka := 283) (po := q1) (v := (-1)) (Nka := 5460) hI13 ⟨rfl, by decide, by decide, by decide, rfl⟩ (by omega) (by omega)) (c_X12_241 Cx rfl rfl (rmk_ok (by omega) (by decide))) hW rfl hl.1 rfl (Nat.le_of_ble_eq_true rfl) dX12_branchRow_68 ⟨Nat.le_of_ble_eq_true rfl, Nat.le_of_ble_eq_true rfl⟩) hL (fun u_48 H locs k_49 hW hL => ?_)
          obtain ⟨iu_48, fu_48, xu_48⟩ := k_49
          have F_50 := hFm13.trans (fu_48.to (p1_sub rfl))
          have F_51 := hL13_.trans (fu_48.to (p1_sub rfl))
          have g_52 : FF S u_48 (fl [100]) := FF.fr hGm13 fu_48 rfl
          have g_53 : FF ((uF S 231 100 ((S.1 231 100) + 1))) u_48 (fl []) := FF.fr gL13_ fu_48 rfl
          have nv_54 : nv (u_48.2.1 283) q1 = (-1) := xu_48.2.1
          have hB1 : dHf (u_48.2.1 283) := dHf.put (f := S13.2.1 283) (a := (S.1 231 100 + 1)) (b := k) (P := q1) hB13 (by omega) (by omega) (by omega) (xu_48.1.mono (by omega)) (fun x a => xu_48.2.2 x (by omega))
          have hO1 : HRf (u_48.2.1 283) cc RR n := HRf.out (f := S13.2.1 283) (a := (S.1 231 100 + 1)) (b := k) (P := q1) hO13 hB13 (by omega) (by omega) (by omega) (by omega) (fun x a => xu_48.2.2 x (by omega))
          have hC1 : RCf (u_48.2.1 283) (S.1 231 100 + 1) n (upf (fun _ => 0) k ((-1))) := RCf.put (f := S13.2.1 283) (a := (S.1 231 100 + 1)) (b := k) (P := q1) hC13 hB13 (by omega) (by omega) (by omega) (show nv (u_48.2.1 283) q1 = (-1) from nv_54) (fun x a => xu_48.2.2 x (by omega))
          refine lv_aload_n hx hb dX12_branchRow_71 rfl (lv_at hl 1 rfl) ?_
          refine lv_aload_n hx hb dX12_branchRow_72 rfl (lv_at hl 1 rfl) ?_
          refine g_X12_738 Cx hW (k := 231) (by decide) rfl (v := (S.1 231 100) + 1) (((fu_48 231 rfl).1 100).trans ((gL13_ 100 rfl).trans (uF_on))) dX12_branchRow_73 ?_
          refine lv_iconst (v := iv 0) hx hb dX12_branchRow_76 (by decide) ?_
          refine sBi (sV (As := [.int (iv ((S.1 231 100) + 1)), .int (iv 0)]) (rest := []) (k := 231) Cx (s_X12_heldCell l G u_48 (i := (S.1 231 100) + 1) (j := 0) (by omega) (by omega)) (c_X12_735 Cx rfl rfl (rmk_ok (by omega) (by decide))) hW (by decide) rfl rfl rfl hl.1 rfl (Nat.le_of_ble_eq_true rfl) dX12_branchRow_77 ⟨Nat.le_of_ble_eq_true rfl, Nat.le_of_ble_eq_true rfl⟩) hL (fun q2 u_55 H locs k_56 hW hL => ?_)
          obtain ⟨eu_55, xu_55⟩ := k_56
          rw [eu_55] at hW
          refine lv_istore (lv' := [(4, .int (iv q2)), (0, .ref (G.2.2.1 + 231)), (1, .int (iv k)), (2, .int (iv tk)), (3, .int (iv bb))]) hx hb dX12_branchRow_80 hl (by decide) rfl (fun ls hl => ?_)
          have hq_57b := hKS.1 (tk) (by rw [hkt]; decide) (by rw [hkt]; decide)
          have hq_57 : Hd _ := hQ (tk) hq_57b.1 (by omega) hkt
          refine lv_aload_n hx hb dX12_branchRow_82 rfl (lv_at hl 1 rfl) ?_
          refine lv_iload_n hx hb dX12_branchRow_83 rfl (lv_at hl 3 rfl) ?_
          refine lv_aload_n hx hb dX12_branchRow_84 rfl (lv_at hl 1 rfl) ?_
          refine g_X12_169 Cx hW (k := 231) (by decide) rfl (v := .ref (G.2.2.1 + 283)) (rd_93 iu_48) dX12_branchRow_85 ?_
          refine lv_iload hx hb dX12_branchRow_88 (lv_at hl 0 rfl) ?_
          refine sBv (sV (As := [.int (iv tk), .ref (G.2.2.1 + 283), .int (iv q2)]) (rest := []) (k := 231) Cx (q_X12_numberAt l G u_48 (tk := tk) (ka := 283) (po := q2) (Nka := 5460) (Xt := Xt) (Fm := Fm) (Wd := Wd) (Vt := Vt) (xx := vp (tk)) iu_48 ⟨rfl, by decide, by decide, by decide, rfl⟩ (show (283 : Nat) ≠ 243 by decide) (show (283 : Nat) ≠ 245 by decide) (show (283 : Nat) ≠ 246 by decide) (show (283 : Nat) ≠ 247 by decide) ((funext fun j => ((fu_48 243 rfl).2.1 j).trans (((hL13_ 243 rfl).2.1 j).trans (uF_a)) : u_48.2.1 243 = S.2.1 243).trans hX) ((funext fun j => ((fu_48 245 rfl).2.1 j).trans (((hL13_ 245 rfl).2.1 j).trans (uF_a)) : u_48.2.1 245 = S.2.1 245).trans hFm) ((funext fun j => ((fu_48 246 rfl).2.1 j).trans (((hL13_ 246 rfl).2.1 j).trans (uF_a)) : u_48.2.1 246 = S.2.1 246).trans hWd) ((funext fun j => ((fu_48 247 rfl).2.1 j).trans (((hL13_ 247 rfl).2.1 j).trans (uF_a)) : u_48.2.1 247 = S.2.1 247).trans hVt) hq_57.1 hq_57.2 (by omega) (by omega)) (c_X12_703 Cx rfl rfl (rmk_ok (by omega) (by decide))) hW (by decide) rfl rfl rfl hl.1 rfl (Nat.le_of_ble_eq_true rfl) dX12_branchRow_90 ⟨Nat.le_of_ble_eq_true rfl, Nat.le_of_ble_eq_true rfl⟩) hL (fun u_58 H locs k_59 hW hL => ?_)
          obtain ⟨iu_58, fu_58, gu_58, xu_58⟩ := k_59
          have F_60 := F_50.trans (fu_58.to (pl_sub (by decide)))
          have F_61 := F_51.trans fu_58
          have g_62 : FF S u_58 (fl [100]) := FF.trans g_52 (FF.to gu_58 (fl_sub (by decide)))
          have g_63 : FF ((uF S 231 100 ((S.1 231 100) + 1))) u_58 (fl []) := FF.trans g_53 (FF.to gu_58 (fl_sub (by decide)))
          have nv_64 : nv (u_58.2.1 283) q2 = vp (tk) := xu_58.2.1
          have hB2 : dHf (u_58.2.1 283) := dHf.put (f := u_48.2.1 283) (a := (S.1 231 100 + 1)) (b := 0) (P := q2) hB1 (by omega) (by omega) (by omega) (xu_58.1.mono (by omega)) (fun x a => xu_58.2.2 x (by omega))
          have hO2 : HRf (u_58.2.1 283) cc RR n := HRf.out (f := u_48.2.1 283) (a := (S.1 231 100 + 1)) (b := 0) (P := q2) hO1 hB1 (by omega) (by omega) (by omega) (by omega) (fun x a => xu_58.2.2 x (by omega))
          have hC2 : RCf (u_58.2.1 283) (S.1 231 100 + 1) n (upf (upf (fun _ => 0) k ((-1))) 0 (vp tk)) := RCf.put (f := u_48.2.1 283) (a := (S.1 231 100 + 1)) (b := 0) (P := q2) hC1 hB1 (by omega) (by omega) (by omega) xu_58.2.1 (fun x a => xu_58.2.2 x (by omega))
          refine lv_iload_n hx hb dX12_branchRow_93 rfl (lv_at hl 4 rfl) ?_
          refine r_if_ne (tgt := 98) hx hb ⟨(by omega), (by omega)⟩ dX12_branchRow_94 (by decide) (fun c_65 => ?_) (fun c_65 => ?_)
          · refine lv_aload_n hx hb dX12_branchRow_98 rfl (lv_at hl 1 rfl) ?_
            refine g_X12_151 Cx hW (k := 231) (by decide) rfl (v := .ref (G.2.2.1 + 277)) (rd_87 iu_58) dX12_branchRow_99 ?_
            refine lv_iconst (v := iv 0) hx hb dX12_branchRow_102 (by decide) ?_
            refine lv_lconst (v := jv 1) hx hb dX12_branchRow_103 (by decide) ?_
            refine sBv (sSt (As := [.ref (G.2.2.1 + 277), .int (iv 0), .long (jv 1)]) (rest := []) Cx (s_X12_put l G u_58 (ka := 277) (po := 0) (v := 1) (Nka := 4) iu_58 ⟨rfl, by decide, by decide, by decide, rfl⟩ (by omega) (by omega)) (c_X12_241 Cx rfl rfl (rmk_ok (by omega) (by decide))) hW rfl hl.1 rfl (Nat.le_of_ble_eq_true rfl) dX12_branchRow_104 ⟨Nat.le_of_ble_eq_true rfl, Nat.le_of_ble_eq_true rfl⟩) hL (fun u_66 H locs k_67 hW hL => ?_)
            obtain ⟨iu_66, fu_66, xu_66⟩ := k_67
            have F_68 := F_60.trans (fu_66.to (p1_sub rfl))
            have g_69 : FF S u_66 (fl [100]) := FF.fr g_62 fu_66 rfl
            have g_70 : FF ((uF S 231 100 ((S.1 231 100) + 1))) u_66 (fl []) := FF.fr g_63 fu_66 rfl
            have nv_71 : nv (u_66.2.1 277) 0 = 1 := xu_66.2.1
            refine lv_aload_n hx hb dX12_branchRow_107 rfl (lv_at hl 1 rfl) ?_
            refine g_X12_169 Cx hW (k := 231) (by decide) rfl (v := .ref (G.2.2.1 + 283)) (rd_93 iu_66) dX12_branchRow_108 ?_
            refine lv_iload hx hb dX12_branchRow_111 (lv_at hl 0 rfl) ?_
            refine lv_aload_n hx hb dX12_branchRow_113 rfl (lv_at hl 1 rfl) ?_
            refine g_X12_151 Cx hW (k := 231) (by decide) rfl (v := .ref (G.2.2.1 + 277)) (rd_87 iu_66) dX12_branchRow_114 ?_
            refine lv_iconst (v := iv 0) hx hb dX12_branchRow_117 (by decide) ?_
            refine lv_iconst (v := iv 0) hx hb dX12_branchRow_118 (by decide) ?_
            refine lv_aload_n hx hb dX12_branchRow_119 rfl (lv_at hl 1 rfl) ?_
            refine g_X12_169 Cx hW (k := 231) (by decide) rfl (v := .ref (G.2.2.1 + 283)) (rd_93 iu_66) dX12_branchRow_120 ?_
            refine lv_iload hx hb dX12_branchRow_123 (lv_at hl 0 rfl) ?_
            refine sBv (sSt (As := [.ref (G.2.2.1 + 283), .int (iv q2), .ref (G.2.2.1 + 277), .int (iv 0), .int (iv 0), .ref (G.2.2.1 + 283), .int (iv q2)]) (rest := []) Cx (s_X12_add l G u_66 (ka := 283) (po := q2) (kb := 277) (qo := 0) (lz := 0) (kc := 283) (ro := q2) (Nka := 5460) (Nkb := 4) (Nkc := 5460) (La := 7) (Lb := 3) (Lc := 8) iu_66 ⟨rfl, by decide, by decide, by decide, rfl⟩ ⟨rfl, by decide, by decide, by decide, rfl⟩ ⟨rfl, by decide, by decide, by decide, rfl⟩ (show (283 : Nat) ≠ 277 by decide) (fun _ => rfl) (by omega) (by omega) (by rw [show u_66.2.1 283 = u_58.2.1 283 from (funext fun j => (fu_66 283 rfl).2.1 j)]; exact xu_58.1) xu_66.1) (c_X12_249 Cx rfl rfl (rmk_ok (by omega) (by decide))) hW rfl hl.1 rfl (Nat.le_of_ble_eq_true rfl) dX12_branchRow_125 ⟨Nat.le_of_ble_eq_true rfl, Nat.le_of_ble_eq_true rfl⟩) hL (fun u_72 H locs k_73 hW hL => ?_)
            obtain ⟨iu_72, fu_72, xu_72⟩ := k_73
            have F_74 := F_68.trans (fu_72.to (p1_sub rfl))
            have g_75 : FF S u_72 (fl [100]) := FF.fr g_69 fu_72 rfl
            have g_76 : FF ((uF S 231 100 ((S.1 231 100) + 1))) u_72 (fl []) := FF.fr g_70 fu_72 rfl
            have nv_77 : nv (u_72.2.1 283) q2 = vp (tk) + 1 := (by rw [xu_72.2.1, asn_0, (show nv (u_66.2.1 283) q2 = vp (tk) by rw [show u_66.2.1 283 = u_58.2.1 283 from (funext fun j => (fu_66 283 rfl).2.1 j)]; exact nv_64), (show nv (u_66.2.1 277) 0 = 1 from nv_71)])
            refine lv_aload_n hx hb dX12_branchRow_128 rfl (lv_at hl 1 rfl) ?_
            refine g_X12_169 Cx hW (k := 231) (by decide) rfl (v := .ref (G.2.2.1 + 283)) (rd_93 iu_72) dX12_branchRow_129 ?_
            refine lv_iload hx hb dX12_branchRow_132 (lv_at hl 0 rfl) ?_
            refine sBv (sSt (As := [.ref (G.2.2.1 + 283), .int (iv q2)]) (rest := []) Cx (s_X12_negate l G u_72 (ka := 283) (po := q2) (Nka := 5460) (La := 8) iu_72 ⟨rfl, by decide, by decide, by decide, rfl⟩ (by omega) xu_72.1) (c_X12_540 Cx rfl rfl (rmk_ok (by omega) (by decide))) hW rfl hl.1 rfl (Nat.le_of_ble_eq_true rfl) dX12_branchRow_134 ⟨Nat.le_of_ble_eq_true rfl, Nat.le_of_ble_eq_true rfl⟩) hL (fun u_78 H locs k_79 hW hL => ?_)
            obtain ⟨iu_78, fu_78, xu_78⟩ := k_79
            have F_80 := F_74.trans (fu_78.to (p1_sub rfl))
            have g_81 : FF S u_78 (fl [100]) := FF.fr g_75 fu_78 rfl
            have g_82 : FF ((uF S 231 100 ((S.1 231 100) + 1))) u_78 (fl []) := FF.fr g_76 fu_78 rfl
            have nv_83 : nv (u_78.2.1 283) q2 = -(vp (tk) + 1) := (by rw [xu_78.2.1, (show nv (u_72.2.1 283) q2 = vp (tk) + 1 from nv_77)])
            have lk_84 : u_78.1 231 100 = (S.1 231 100) + 1 := ((fu_78 231 rfl).1 100).trans (((fu_72 231 rfl).1 100).trans (((fu_66 231 rfl).1 100).trans ((gu_58 100 rfl).trans (((fu_48 231 rfl).1 100).trans ((gL13_ 100 rfl).trans (uF_on))))))
            exact sVret Cx hr hlk hW hL ⟨iu_78, F_80, g_81, ⟨(by have y := (show u_78.1 231 100 = (S.1 231 100) + 1 from ((fu_78 231 rfl).1 100).trans (((fu_72 231 rfl).1 100).trans (((fu_66 231 rfl).1 100).trans ((gu_58 100 rfl).trans (((fu_48 231 rfl).1 100).trans ((gL13_ 100 rfl).trans (uF_on))))))); omega), (dHf.put (f := u_58.2.1 283) (f' := u_78.2.1 283) (a := (S.1 231 100 + 1)) (b := 0) (P := q2) hB2 (by omega) (by omega) (by omega) xu_78.1 (fun x a => by rw [xu_78.2.2, uA_ne (fun h => by have := h.2; omega), xu_72.2.2 x (by omega)]; exact (fu_66 283 rfl).2.1 x)), (show HRr _ _ _ _ from ⟨(by have y := (show u_78.1 231 100 = (S.1 231 100) + 1 from ((fu_78 231 rfl).1 100).trans (((fu_72 231 rfl).1 100).trans (((fu_66 231 rfl).1 100).trans ((gu_58 100 rfl).trans (((fu_48 231 rfl).1 100).trans ((gL13_ 100 rfl).trans (uF_on))))))); omega), HRf.new (g' := limr k (vp tk) bb) (HRf.out (f := u_58.2.1 283) (f' := u_78.2.1 283) (a := (S.1 231 100 + 1)) (b := 0) (P := q2) hO2 hB2 (by omega) (by omega) (by omega) (by omega) (fun x a => by rw [xu_78.2.2, uA_ne (fun h => by have := h.2; omega), xu_72.2.2 x (by omega)]; exact (fu_66 283 rfl).2.1 x)) (by rw [show cc + 1 = (S.1 231 100 + 1) by omega]; exact (RCf.put (f := u_58.2.1 283) (f' := u_78.2.1 283) (a := (S.1 231 100 + 1)) (b := 0) (P := q2) (x := -(vp (tk) + 1)) hC2 hB2 (by omega) (by omega) (by omega) (show nv (u_78.2.1 283) q2 = -(vp (tk) + 1) from nv_83) (fun x a => by rw [xu_78.2.2, uA_ne (fun h => by have := h.2; omega), xu_72.2.2 x (by omega)]; exact (fu_66 283 rfl).2.1 x))) (fun t t0 t1 => by unfold upf limr; (repeat' split) <;> first | rfl | omega)⟩)⟩⟩ dX12_branchRow_137
          · have lk_85 : u_58.1 231 100 = (S.1 231 100) + 1 := (gu_58 100 rfl).trans (((fu_48 231 rfl).1 100).trans ((gL13_ 100 rfl).trans (uF_on)))
            exact sVret Cx hr hlk hW hL ⟨iu_58, F_60, g_62, (by exfalso; omega)⟩ dX12_branchRow_97
      · refine lv_aload_n hx hb dX12_branchRow_22 rfl (lv_at hl 1 rfl) ?_
        refine g_X12_169 Cx hW (k := 231) (by decide) rfl (v := .ref (G.2.2.1 + 283)) (rd_93 hI13) dX12_branchRow_23 ?_
        refine lv_aload_n hx hb dX12_branchRow_26 rfl (lv_at hl 1 rfl) ?_
        refine lv_aload_n hx hb dX12_branchRow_27 rfl (lv_at hl 1 rfl) ?_
        refine g_X12_738 Cx hW (k := 231) (by decide) rfl (v := (S.1 231 100) + 1) ((gL13_ 100 rfl).trans (uF_on)) dX12_branchRow_28 ?_
        refine lv_iload hx hb dX12_branchRow_31 (lv_at hl 0 rfl) ?_
        refine sBi (sV (As := [.int (iv ((S.1 231 100) + 1)), .int (iv j)]) (rest := [.ref (G.2.2.1 + 283)]) (k := 231) Cx (s_X12_heldCell l G S13 (i := (S.1 231 100) + 1) (j := j) (by omega) (by omega)) (c_X12_735 Cx rfl rfl (rmk_ok (by omega) (by decide))) hW (by decide) rfl rfl rfl hl.1 rfl (Nat.le_of_ble_eq_true rfl) dX12_branchRow_33 ⟨Nat.le_of_ble_eq_true rfl, Nat.le_of_ble_eq_true rfl⟩) hL (fun q0 u_86 H locs k_87 hW hL => ?_)
        obtain ⟨eu_86, xu_86⟩ := k_87
        rw [eu_86] at hW
        refine lv_iconst (v := iv 0) hx hb dX12_branchRow_36 (by decide) ?_
        refine rIast Cx hW hL (k := 283) (by decide) rfl (by decide) (by omega) (by omega) dX12_branchRow_37 (fun H locs hW hL => ?_)
        have F_88 : Fr S (uA S13 283 q0 0) (pl [231, 277, 283]) := hFm13.A rfl
        have F_89 : Fr ((uF S 231 100 ((S.1 231 100) + 1))) (uA S13 283 q0 0) (pl [283]) := hL13_.A rfl
        have i_90 : dX G (uA S13 283 q0 0) := hI13.A (k := 283) (show (-2147483648) ≤ 0 ∧ 0 ≤ 2147483647 from ⟨by omega, by omega⟩)
        refine lv_iinc (v := iv (j + 1)) (lv' := [(4, .int (iv (j + 1))), (0, .ref (G.2.2.1 + 231)), (1, .int (iv k)), (2, .int (iv tk)), (3, .int (iv bb))]) hx hb dX12_branchRow_38 hl (k := 0) rfl ((Int32.ofInt_add _ _).symm) (by decide) rfl (fun ls hl => ?_)
        refine lv_goto (tgt := 13) hx hb dX12_branchRow_41 (by decide) ?_
        exact ih_13 (uA S13 283 q0 0) (j + 1) _ _ _ (by omega) i_90 F_88 F_89 hGm13 gL13_ (by omega) (dHf.put (f := S13.2.1 283) (a := (S.1 231 100 + 1)) (b := j) (P := q0) hB13 (by omega) (by omega) (by omega) (NO_z uA_on (by omega)) (fun x a => uA_ne (fun h => by have := h.2; omega))) (HRf.out (f := S13.2.1 283) (a := (S.1 231 100 + 1)) (b := j) (P := q0) hO13 hB13 (by omega) (by omega) (by omega) (by omega) (fun x a => uA_ne (fun h => by have := h.2; omega))) (fun t t0 t1 => by by_cases z : t = j; (rw [z, show 10 * (13 * (S.1 231 100 + 1) + j) = q0 by omega]; exact nvz0 uA_on); (rw [((hB13 (S.1 231 100 + 1) t (by omega) (by omega) t0 (by omega)).same (g := (uA S13 283 q0 0).2.1 283) (fun x x0 x1 => uA_ne (fun h => by have := h.2; omega))).2]; exact hD13 t t0 (by omega))) hW hL (lv_sub hl [0, 1, 2, 3, 4] rfl)
  exact loop_13 (_ + 1) (uF S 231 100 ((S.1 231 100) + 1)) 0 _ _ _ (Nat.lt_succ_self _) i_4 F_2 Fr.rf g_3 FF.rf (by omega) (by rw [show (uF S 231 100 ((S.1 231 100) + 1)).2.1 283 = S.2.1 283 from (funext fun j => uF_a)]; exact hHA) (by rw [show (uF S 231 100 ((S.1 231 100) + 1)).2.1 283 = S.2.1 283 from (funext fun j => uF_a)]; exact hHR.2) (fun t a b => absurd b (by omega)) hW hL (lv_sub hl [0, 1, 2, 3, 4] rfl)

set_option maxRecDepth 100000 in
set_option maxHeartbeats 4000000 in
theorem q_X12_cutRow (l : Launch) (G : sG) (S : sS) {n : Int} {ss : Int → Int} {qq : Int} {cc : Int} {RR : Int → Int → Int} (hI : dX G S) (hm : 0 ≤ S.1 231 46 ∧ S.1 231 46 ≤ 12) (hn : S.1 231 46 = n) (h100 : 0 ≤ S.1 231 100 ∧ S.1 231 100 ≤ 39) (hSM : dSM S) (hDV : dDV S) (hHA : dHA S) (hHR : Hd (HRr S cc RR n)) (hSS : Hd (SMr S ss n)) (hDQ : Hd (DVr S qq)) : Met l yX12_cutRow (.code yX12_cutRow cX12_cutRow 2 (some .boolean) :: tb) (rmk 6 0 0) (sPc G 294 S [.ref (G.2.2.1 + 231)]) (sQi G 294 (fun r u => dX G u ∧ Fr S u (pl [231, 233, 234, 235, 237, 240, 283]) ∧ FF S u (fl [100]) ∧ ((0 ≤ r ∧ r ≤ 1) ∧ (r = 1 → u.1 231 100 = S.1 231 100 + 1) ∧ (r = 0 → u.1 231 100 = S.1 231 100) ∧ dHA u ∧ Hd (r = 1 → HRr u (cc + 1) (upR RR (cc + 1) (fun j => ss j / qq)) n ∧ ∀ j, 0 ≤ j → j ≤ n → ¬ lg60 (ss j / qq)) ∧ Hd (r = 0 → ∃ j, 0 ≤ j ∧ j ≤ n ∧ lg60 (ss j / qq))))) 0 0 (sF G) := by
  refine sEnter (by decide) (Nat.le_of_ble_eq_true rfl) ?_
  intro p e s m args below meth c Cx hr hlk hnm hW ls hl
  have Cx : sC G p m c cX12_cutRow 2 s args RX12 := Cx
  obtain ⟨hx, hb, hml, hown, hts⟩ := id Cx.1
  have hL : sL G [] := sL_nil
  have hl : lv_has ls 2 [(0, .ref (G.2.2.1 + 231))] := hl
  have hW0 := hW
  have hRc := hHR.1
  refine lv_iconst (v := iv 0) hx hb dX12_cutRow_0 (by decide) ?_
  refine lv_istore_n (lv' := [(1, .int (iv 0)), (0, .ref (G.2.2.1 + 231))]) hx hb dX12_cutRow_1 rfl hl (by decide) rfl (fun ls hl => ?_)
  have loop_2 : ∀ (fuel : Nat) (S2 : sS) (j : Int) (H : Heap) (locs : List Loc) (ls : Array Slot), (S.1 231 46 + 1 - j).toNat < fuel → (dX G S2) → (Fr S S2 (pl [231, 233, 234, 235, 237, 240, 283])) → (Fr S S2 (pl [233, 234, 235, 237, 240, 283])) → (FF S S2 (fl [100])) → (FF S S2 (fl [])) → (0 ≤ j ∧ j ≤ S.1 231 46 + 1) → (dHf (S2.2.1 283)) → (HRf (S2.2.1 283) cc RR n) → (RCf (S2.2.1 283) (S.1 231 100 + 1) (j - 1) (fun t => ss t / qq)) → (Hd (∀ t, 0 ≤ t → t < j → ¬ lg60 (ss t / qq))) → sW G 294 S2 H → sL G locs → lv_has ls 2 [(1, .int (iv j)), (0, .ref (G.2.2.1 + 231))] → W p l e (rmk 6 0 0) s m args below meth c H locs 0 0 (MQ below (sQi G 294 (fun r u => dX G u ∧ Fr S u (pl [231, 233, 234, 235, 237, 240, 283]) ∧ FF S u (fl [100]) ∧ ((0 ≤ r ∧ r ≤ 1) ∧ (r = 1 → u.1 231 100 = S.1 231 100 + 1) ∧ (r = 0 → u.1 231 100 = S.1 231 100) ∧ dHA u ∧ Hd (r = 1 → HRr u (cc + 1) (upR RR (cc + 1) (fun j => ss j / qq)) n ∧ ∀ j, 0 ≤ j → j ≤ n → ¬ lg60 (ss j / qq)) ∧ Hd (r = 0 → ∃ j, 0 ≤ j ∧ j ≤ n ∧ lg60 (ss j / qq))))) args s 0 0 (sF G)) (F0 m 2 ls []) := by
    intro fuel
    induction fuel with
    | zero => intro S2 j H locs ls hmeas hI2 hFm2 hL2_ hGm2 gL2_ hj hB2 hO2 hD2 hL2 hW hL hl; exact absurd hmeas (Nat.not_lt_zero _)
    | succ fuel ih_2 =>
      intro S2 j H locs ls hmeas hI2 hFm2 hL2_ hGm2 gL2_ hj hB2 hO2 hD2 hL2 hW hL hl
      refine lv_iload_n hx hb dX12_cutRow_2 rfl (lv_at hl 0 rfl) ?_
      refine lv_aload_n hx hb dX12_cutRow_3 rfl (lv_at hl 1 rfl) ?_
      have q_1 : (-2147483648) ≤ S.1 231 46 ∧ S.1 231 46 ≤ 2147483647 := hI.fi 46
      refine g_X12_465 Cx hW (k := 231) (by decide) rfl (v := S.1 231 46) (gL2_ 46 rfl) dX12_cutRow_4 ?_
      refine r_icmp_gt (tgt := 80) hx hb ⟨(by omega), (by omega)⟩ ⟨(by omega), (by omega)⟩ dX12_cutRow_7 (by decide) (fun c_2 => ?_) (fun c_2 => ?_)
      · refine lv_aload_n hx hb dX12_cutRow_80 rfl (lv_at hl 1 rfl) ?_
        refine lv_dup hx hb dX12_cutRow_81 rfl ?_
        have q_3 : (-2147483648) ≤ S.1 231 100 ∧ S.1 231 100 ≤ 2147483647 := hI.fi 100
        refine g_X12_738 Cx hW (k := 231) (by decide) rfl (v := S.1 231 100) (gL2_ 100 rfl) dX12_cutRow_82 ?_
        refine lv_iconst (v := iv 1) hx hb dX12_cutRow_85 (by decide) ?_
        refine r_iadd hx hb dX12_cutRow_86 ?_
        refine p_X12_738 Cx hW hL (k := 231) (by decide) rfl dX12_cutRow_87 (fun H locs hW hL => ?_)
        have F_4 : Fr S (uF S2 231 100 ((S.1 231 100) + 1)) (pl [231, 233, 234, 235, 237, 240, 283]) := hFm2.F rfl
        have g_5 : FF S (uF S2 231 100 ((S.1 231 100) + 1)) (fl [100]) := FF.F hGm2 rfl
        have i_6 : dX G (uF S2 231 100 ((S.1 231 100) + 1)) := hI2.F (i := 100) (show (-2147483648) ≤ (S.1 231 100) + 1 ∧ (S.1 231 100) + 1 ≤ 2147483647 from ⟨by omega, by omega⟩)
        refine lv_iconst (v := iv 1) hx hb dX12_cutRow_90 (by decide) ?_
        have lk_7 : (uF S2 231 100 ((S.1 231 100) + 1)).1 231 100 = (S.1 231 100) + 1 := uF_on
        exact sZret Cx hr hlk hW hL (by omega) ⟨i_6, F_4, g_5, ⟨(by omega), (by have y := (show (uF S2 231 100 ((S.1 231 100) + 1)).1 231 100 = (S.1 231 100) + 1 from uF_on); omega), (by have y := (show (uF S2 231 100 ((S.1 231 100) + 1)).1 231 100 = (S.1 231 100) + 1 from uF_on); omega), (show dHf ((uF S2 231 100 ((S.1 231 100) + 1)).2.1 283) from (by rw [show (uF S2 231 100 ((S.1 231 100) + 1)).2.1 283 = S2.2.1 283 from (funext fun j => uF_a)]; exact hB2)), (fun _ => ⟨(show HRr _ _ _ _ from ⟨(by have y := (show (uF S2 231 100 ((S.1 231 100) + 1)).1 231 100 = (S.1 231 100) + 1 from uF_on); omega), (by rw [show (uF S2 231 100 ((S.1 231 100) + 1)).2.1 283 = S2.2.1 283 from (funext fun j => uF_a)]; exact HRf.new hO2 (by rw [show cc + 1 = (S.1 231 100 + 1) by omega, show n = j - 1 by omega]; exact hD2) (fun t a b => rfl))⟩), fun t a b => hL2 t a (by omega)⟩), (fun z => absurd z (by omega))⟩⟩ dX12_cutRow_91
      · have hbp10 : 0 < S2.2.1 288 0 := by rw [show S2.2.1 288 = S.2.1 288 from (funext fun j => (hL2_ 288 rfl).2.1 j)]; exact hDV.1.sgn.2.1.mp hDV.2
        refine lv_aload_n hx hb dX12_cutRow_10 rfl (lv_at hl 1 rfl) ?_
        refine lv_aload_n hx hb dX12_cutRow_11 rfl (lv_at hl 1 rfl) ?_
        refine g_X12_172 Cx hW (k := 231) (by decide) rfl (v := .ref (G.2.2.1 + 284)) (rd_94 hI2) dX12_cutRow_12 ?_
        refine lv_bipush (v := iv 40) hx hb dX12_cutRow_15 (by decide) ?_
        refine lv_iload_n hx hb dX12_cutRow_17 rfl (lv_at hl 0 rfl) ?_
        refine r_imul hx hb dX12_cutRow_18 ?_
        refine lv_aload_n hx hb dX12_cutRow_19 rfl (lv_at hl 1 rfl) ?_
        refine g_X12_184 Cx hW (k := 231) (by decide) rfl (v := .ref (G.2.2.1 + 288)) (rd_98 hI2) dX12_cutRow_20 ?_
        refine lv_iconst (v := iv 0) hx hb dX12_cutRow_23 (by decide) ?_
        refine lv_aload_n hx hb dX12_cutRow_24 rfl (lv_at hl 1 rfl) ?_
        refine g_X12_26 Cx hW (k := 231) (by decide) rfl (v := .ref (G.2.2.1 + 237)) (rd_7 hI2) dX12_cutRow_25 ?_
        refine lv_iconst (v := iv 0) hx hb dX12_cutRow_28 (by decide) ?_
        refine lv_aload_n hx hb dX12_cutRow_29 rfl (lv_at hl 1 rfl) ?_
        refine g_X12_35 Cx hW (k := 231) (by decide) rfl (v := .ref (G.2.2.1 + 240)) (rd_10 hI2) dX12_cutRow_30 ?_
        refine lv_iconst (v := iv 0) hx hb dX12_cutRow_33 (by decide) ?_
        refine sBv (sV (As := [.ref (G.2.2.1 + 284), .int (iv (40 * j)), .ref (G.2.2.1 + 288), .int (iv 0), .ref (G.2.2.1 + 237), .int (iv 0), .ref (G.2.2.1 + 240), .int (iv 0)]) (rest := []) (k := 231) Cx (s_X12_divide l G S2 (ka := 284) (po := 40 * j) (kb := 288) (qo := 0) (kc := 237) (ro := 0) (kd := 240) (eo := 0) (Nka := 520) (Nkb := 10) (Nkc := 68) (Nkd := 68) (La := 16) (Lb := 7) (Ld := 8) hI2 ⟨rfl, by decide, by decide, by decide, rfl⟩ ⟨rfl, by decide, by decide, by decide, rfl⟩ ⟨rfl, by decide, by decide, by decide, rfl⟩ ⟨rfl, by decide, by decide, by decide, rfl⟩ (show (237 : Nat) ≠ 284 by decide) (show (240 : Nat) ≠ 284 by decide) (show (237 : Nat) ≠ 288 by decide) (show (240 : Nat) ≠ 288 by decide) (show (237 : Nat) ≠ 240 by decide) (show (284 : Nat) ≠ 233 by decide) (show (288 : Nat) ≠ 233 by decide) (show (288 : Nat) ≠ 234 by decide) (show (288 : Nat) ≠ 235 by decide) (show (237 : Nat) ≠ 233 by decide) (show (237 : Nat) ≠ 234 by decide) (show (237 : Nat) ≠ 235 by decide) (show (240 : Nat) ≠ 233 by decide) (show (240 : Nat) ≠ 234 by decide) (show (240 : Nat) ≠ 235 by decide) (by omega) (by omega) (by rw [show S2.2.1 284 = S.2.1 284 from (funext fun j => (hL2_ 284 rfl).2.1 j)]; exact hSM j (by omega) (by omega)) (by rw [show S2.2.1 288 = S.2.1 288 from (funext fun j => (hL2_ 288 rfl).2.1 j)]; exact hDV.1)) (c_X12_266 Cx rfl rfl (rmk_ok (by omega) (by decide))) hW (by decide) rfl rfl rfl hl.1 rfl (Nat.le_of_ble_eq_true rfl) dX12_cutRow_34 ⟨Nat.le_of_ble_eq_true rfl, Nat.le_of_ble_eq_true rfl⟩) hL (fun u_8 H locs k_9 hW hL => ?_)
        obtain ⟨iu_8, fu_8, xu_8⟩ := k_9
        have F_10 := hFm2.trans (fu_8.to (pl_sub (by decide)))
        have F_11 := hL2_.trans (fu_8.to (pl_sub (by decide)))
        have g_12 : FF S u_8 (fl [100]) := FF.fr hGm2 fu_8 rfl
        have g_13 : FF S u_8 (fl []) := FF.fr gL2_ fu_8 rfl
        have dq_14 : Hd (nv (u_8.2.1 237) 0 = (ss j) / (qq) ∧ nv (u_8.2.1 240) 0 = (ss j) % (qq)) := dv_eq (by have h := xu_8.2.2.1; rw [(show nv (S2.2.1 284) (40 * j) = ss j by rw [show S2.2.1 284 = S.2.1 284 from (funext fun j => (hL2_ 284 rfl).2.1 j)]; exact (hSS j (by omega) (by omega))), (show nv (S2.2.1 288) 0 = qq by rw [show S2.2.1 288 = S.2.1 288 from (funext fun j => (hL2_ 288 rfl).2.1 j)]; exact hDQ)] at h; exact h)
        have nv_15 : nv (u_8.2.1 237) 0 = (ss j) / (qq) := dq_14.1
        have nv_16 : nv (u_8.2.1 240) 0 = (ss j) % (qq) := dq_14.2
        refine lv_aload_n hx hb dX12_cutRow_37 rfl (lv_at hl 1 rfl) ?_
        refine lv_aload_n hx hb dX12_cutRow_38 rfl (lv_at hl 1 rfl) ?_
        refine g_X12_26 Cx hW (k := 231) (by decide) rfl (v := .ref (G.2.2.1 + 237)) (rd_7 iu_8) dX12_cutRow_39 ?_
        refine lv_iconst (v := iv 0) hx hb dX12_cutRow_42 (by decide) ?_
        refine sBi (sV (As := [.ref (G.2.2.1 + 237), .int (iv 0)]) (rest := []) (k := 231) Cx (q_X12_isLong l G u_8 (ka := 237) (po := 0) (Nka := 68) iu_8 ⟨rfl, by decide, by decide, by decide, rfl⟩ (by omega) xu_8.1) (c_X12_761 Cx rfl rfl (rmk_ok (by omega) (by decide))) hW (by decide) rfl rfl rfl hl.1 rfl (Nat.le_of_ble_eq_true rfl) dX12_cutRow_43 ⟨Nat.le_of_ble_eq_true rfl, Nat.le_of_ble_eq_true rfl⟩) hL (fun r_19 u_17 H locs k_18 hW hL => ?_)
        obtain ⟨eu_17, xu_17⟩ := k_18
        rw [eu_17] at hW
        have hlg := (show _ ↔ _ from xu_17.2.1)
        rw [(show nv (u_8.2.1 237) 0 = (ss j) / (qq) from nv_15)] at hlg
        have hlg : Hd _ := hlg; have hl7 := xu_17.2.2
        refine r_if_eq (tgt := 51) hx hb ⟨(by omega), (by omega)⟩ dX12_cutRow_46 (by decide) (fun c_20 => ?_) (fun c_20 => ?_)
        · refine lv_aload_n hx hb dX12_cutRow_51 rfl (lv_at hl 1 rfl) ?_
          refine g_X12_26 Cx hW (k := 231) (by decide) rfl (v := .ref (G.2.2.1 + 237)) (rd_7 iu_8) dX12_cutRow_52 ?_
          refine lv_iconst (v := iv 0) hx hb dX12_cutRow_55 (by decide) ?_
          refine lv_aload_n hx hb dX12_cutRow_56 rfl (lv_at hl 1 rfl) ?_
          refine g_X12_169 Cx hW (k := 231) (by decide) rfl (v := .ref (G.2.2.1 + 283)) (rd_93 iu_8) dX12_cutRow_57 ?_
          refine lv_aload_n hx hb dX12_cutRow_60 rfl (lv_at hl 1 rfl) ?_
          refine lv_aload_n hx hb dX12_cutRow_61 rfl (lv_at hl 1 rfl) ?_
          have q_21 : (-2147483648) ≤ S.1 231 100 ∧ S.1 231 100 ≤ 2147483647 := hI.fi 100
          refine g_X12_738 Cx hW (k := 231) (by decide) rfl (v := S.1 231 100) (((fu_8 231 rfl).1 100).trans (gL2_ 100 rfl)) dX12_cutRow_62 ?_
          refine lv_iconst (v := iv 1) hx hb dX12_cutRow_65 (by decide) ?_
          refine r_iadd hx hb dX12_cutRow_66 ?_
          refine lv_iload_n hx hb dX12_cutRow_67 rfl (lv_at hl 0 rfl) ?_
          refine sBi (sV (As := [.int (iv ((S.1 231 100) + 1)), .int (iv j)]) (rest := [.ref (G.2.2.1 + 283), .int (iv 0), .ref (G.2.2.1 + 237)]) (k := 231) Cx (s_X12_heldCell l G u_8 (i := (S.1 231 100) + 1) (j := j) (by omega) (by omega)) (c_X12_735 Cx rfl rfl (rmk_ok (by omega) (by decide))) hW (by decide) rfl rfl rfl hl.1 rfl (Nat.le_of_ble_eq_true rfl) dX12_cutRow_68 ⟨Nat.le_of_ble_eq_true rfl, Nat.le_of_ble_eq_true rfl⟩) hL (fun q0 u_22 H locs k_23 hW hL => ?_)
          obtain ⟨eu_22, xu_22⟩ := k_23
          rw [eu_22] at hW
          refine sBv (sSt (As := [.ref (G.2.2.1 + 237), .int (iv 0), .ref (G.2.2.1 + 283), .int (iv q0)]) (rest := []) Cx (s_X12_copy l G u_8 (ka := 237) (po := 0) (kb := 283) (qo := q0) (Nka := 68) (Nkb := 5460) (La := 7) iu_8 ⟨rfl, by decide, by decide, by decide, rfl⟩ ⟨rfl, by decide, by decide, by decide, rfl⟩ (show (283 : Nat) ≠ 237 by decide) (by omega) ⟨(by omega), xu_8.1.2⟩) (c_X12_233 Cx rfl rfl (rmk_ok (by omega) (by decide))) hW rfl hl.1 rfl (Nat.le_of_ble_eq_true rfl) dX12_cutRow_71 ⟨Nat.le_of_ble_eq_true rfl, Nat.le_of_ble_eq_true rfl⟩) hL (fun u_24 H locs k_25 hW hL => ?_)
          obtain ⟨iu_24, fu_24, xu_24⟩ := k_25
          have F_26 := F_10.trans (fu_24.to (p1_sub rfl))
          have F_27 := F_11.trans (fu_24.to (p1_sub rfl))
          have g_28 : FF S u_24 (fl [100]) := FF.fr g_12 fu_24 rfl
          have g_29 : FF S u_24 (fl []) := FF.fr g_13 fu_24 rfl
          have hcv : nv (u_24.2.1 283) q0 = ss j / qq := by rw [xu_24.1.2.1]; exact (show nv (u_8.2.1 237) 0 = (ss j) / (qq) from nv_15)
          refine lv_iinc (v := iv (j + 1)) (lv' := [(1, .int (iv (j + 1))), (0, .ref (G.2.2.1 + 231))]) hx hb dX12_cutRow_74 hl (k := 0) rfl ((Int32.ofInt_add _ _).symm) (by decide) rfl (fun ls hl => ?_)
          refine lv_goto (tgt := 2) hx hb dX12_cutRow_77 (by decide) ?_
          exact ih_2 u_24 (j + 1) _ _ _ (by omega) iu_24 F_26 F_27 g_28 g_29 (by omega) (dHf.put (f := S2.2.1 283) (a := (S.1 231 100 + 1)) (b := j) (P := q0) hB2 (by omega) (by omega) (by omega) (xu_24.1.1.mono (by omega)) (fun x a => (xu_24.2 x (by omega)).trans ((fu_8 283 rfl).2.1 x))) (HRf.out (f := S2.2.1 283) (a := (S.1 231 100 + 1)) (b := j) (P := q0) hO2 hB2 (by omega) (by omega) (by omega) (by omega) (fun x a => (xu_24.2 x (by omega)).trans ((fu_8 283 rfl).2.1 x))) (fun t t0 t1 => by by_cases z : t = j; (rw [z, show 10 * (13 * (S.1 231 100 + 1) + j) = q0 by omega]; exact hcv); (rw [((hB2 (S.1 231 100 + 1) t (by omega) (by omega) t0 (by omega)).same (g := u_24.2.1 283) (fun x x0 x1 => (xu_24.2 x (by omega)).trans ((fu_8 283 rfl).2.1 x))).2]; exact hD2 t t0 (by omega))) (fun t a b => by by_cases z : t = j; (rw [z]; exact fun y => absurd (hlg.mpr y) (by omega)); exact hL2 t a (by omega)) hW hL (lv_sub hl [0, 1] rfl)
        · refine lv_iconst (v := iv 0) hx hb dX12_cutRow_49 (by decide) ?_
          have q_30 : (-2147483648) ≤ S.1 231 100 ∧ S.1 231 100 ≤ 2147483647 := hI.fi 100
          have lk_31 : u_8.1 231 100 = S.1 231 100 := ((fu_8 231 rfl).1 100).trans (gL2_ 100 rfl)
          exact sZret Cx hr hlk hW hL (by omega) ⟨iu_8, F_10, g_12, ⟨(by omega), (by have y := (show u_8.1 231 100 = S.1 231 100 from ((fu_8 231 rfl).1 100).trans (gL2_ 100 rfl)); omega), (by have y := (show u_8.1 231 100 = S.1 231 100 from ((fu_8 231 rfl).1 100).trans (gL2_ 100 rfl)); omega), (show dHf (u_8.2.1 283) from (by rw [show u_8.2.1 283 = S2.2.1 283 from (funext fun j => (fu_8 283 rfl).2.1 j)]; exact hB2)), (fun z => absurd z (by omega)), (fun _ => ⟨j, by omega, by omega, hlg.mp (by omega)⟩)⟩⟩ dX12_cutRow_50
  exact loop_2 (_ + 1) S 0 _ _ _ (Nat.lt_succ_self _) hI (Fr.rf : Fr S S (pl [231, 233, 234, 235, 237, 240, 283])) Fr.rf FF.rf FF.rf (by omega) hHA hHR.2 (fun t a b => absurd b (by omega)) (fun t a b => absurd b (by omega)) hW hL (lv_sub hl [0, 1] rfl)
