/-! Texts that say the same -/
def chE (x y : Int) : Prop := x = y ∨ ((x < 0 ∨ 128 ≤ x) ∧ (y < 0 ∨ 128 ≤ y))
theorem enN_cg {st st' : Int → Prop} [DecidablePred st] [DecidablePred st'] (h : ∀ i, st i ↔ st' i) : ∀ (m : Nat) (p : Int), enN st m p = enN st' m p := by
  intro m
  induction m with
  | zero => intro p; rfl
  | succ m ih =>
    intro p
    show (if st p then enN st m (p + 1) else p) = (if st' p then enN st' m (p + 1) else p)
    by_cases c : st p
    · rw [if_pos c, if_pos ((h p).mp c), ih]
    · rw [if_neg c, if_neg (fun z => c ((h p).mpr z))]
theorem en_cg {n : Int} {st st' : Int → Prop} [DecidablePred st] [DecidablePred st'] (h : ∀ i, st i ↔ st' i) (p : Int) : en n st p = en n st' p := enN_cg h _ _
section
variable {B C : Int → Int} {n : Int}
theorem ch_cb (h : ∀ i, 0 ≤ i → i < n → chE (B i) (C i)) (i : Int) : chE (cb B n i) (cb C n i) := by
  unfold cb
  by_cases c : 0 ≤ i ∧ i < n
  · rw [if_pos c, if_pos c]; exact h i c.1 c.2
  · rw [if_neg c, if_neg c]; exact .inl rfl
theorem ch_L (h : ∀ i, 0 ≤ i → i < n → chE (B i) (C i)) (i : Int) : stL B n i ↔ stL C n i := by
  have a := ch_cb h i; unfold chE at a; unfold stL isLt; omega
theorem ch_D (h : ∀ i, 0 ≤ i → i < n → chE (B i) (C i)) (i : Int) : stD B n i ↔ stD C n i := by
  have a := ch_cb h i; unfold chE at a; unfold stD isDg; omega
theorem ch_B (h : ∀ i, 0 ≤ i → i < n → chE (B i) (C i)) (i : Int) : stB B n i ↔ stB C n i := by
  have a := ch_cb h i; unfold chE at a; unfold stB; omega
theorem ch_e (h : ∀ i, 0 ≤ i → i < n → chE (B i) (C i)) (i : Int) {x : Int} (hx : 0 ≤ x ∧ x ≤ 127) : cb B n i = x ↔ cb C n i = x := by
  have a := ch_cb h i; unfold chE at a; omega
theorem ch_Lq (h : ∀ i, 0 ≤ i → i < n → chE (B i) (C i)) {i : Int} (g : stL B n i) : B i = C i := by
  have b := cb_nz (B := B) (n := n) (i := i) (by unfold stL isLt at g; omega)
  have a := h i b.1 b.2.1; unfold chE at a; unfold stL isLt at g; omega
theorem ch_Dq (h : ∀ i, 0 ≤ i → i < n → chE (B i) (C i)) {i : Int} (g : stD B n i) : B i = C i := by
  have b := cb_nz (B := B) (n := n) (i := i) (by unfold stD isDg at g; omega)
  have a := h i b.1 b.2.1; unfold chE at a; unfold stD isDg at g; omega
theorem ch_dg (h : ∀ i, 0 ≤ i → i < n → chE (B i) (C i)) (p : Int) : qdg B n p = qdg C n p := by
  unfold qdg
  by_cases c : cb B n p = 45
  · rw [if_pos c, if_pos ((ch_e h p (by decide)).mp c)]
  · rw [if_neg c, if_neg (fun z => c ((ch_e h p (by decide)).mpr z))]
theorem ch_45 (h : ∀ i, 0 ≤ i → i < n → chE (B i) (C i)) (p : Int) : (cb B n p = 45 ∨ isDg (cb B n p)) ↔ (cb C n p = 45 ∨ isDg (cb C n p)) := by
  have a := ch_cb h p; unfold chE at a; unfold isDg; omega
theorem ch_qE (h : ∀ i, 0 ≤ i → i < n → chE (B i) (C i)) (p : Int) : qE B n p = qE C n p := by
  unfold qE
  have hL : isLt (cb B n p) ↔ isLt (cb C n p) := ch_L h p
  by_cases c : isLt (cb B n p)
  · rw [if_pos c, if_pos (hL.mp c)]; exact en_cg (ch_L h) p
  · rw [if_neg c, if_neg (fun z => c (hL.mpr z))]
    by_cases d : cb B n p = 45 ∨ isDg (cb B n p)
    · rw [if_pos d, if_pos ((ch_45 h p).mp d), ch_dg h p]; exact en_cg (ch_D h) _
    · rw [if_neg d, if_neg (fun z => d ((ch_45 h p).mpr z))]
theorem ch_nG (h : ∀ i, 0 ≤ i → i < n → chE (B i) (C i)) (p : Int) : nGd B n p ↔ nGd C n p := by
  unfold nGd
  rw [ch_dg h p, en_cg (ch_D h)]
  have r := enN_r (st := stD C n) (n - qdg C n p).toNat (qdg C n p)
  have e : ∀ i, qdg C n p ≤ i → i < en n (stD C n) (qdg C n p) → B i = C i := fun i a b => ch_Dq h ((ch_D h i).mpr (r.2.2 i a b))
  constructor
  · rintro ⟨a, b, c⟩
    refine ⟨a, b, fun z => ?_⟩
    obtain ⟨i, i1, i2, i3⟩ := c ((ch_e h p (by decide)).mpr z)
    exact ⟨i, i1, i2, by rw [← e i i1 i2]; exact i3⟩
  · rintro ⟨a, b, c⟩
    refine ⟨a, b, fun z => ?_⟩
    obtain ⟨i, i1, i2, i3⟩ := c ((ch_e h p (by decide)).mp z)
    exact ⟨i, i1, i2, by rw [e i i1 i2]; exact i3⟩
theorem WMc.cg {f b : Int} {si : Nat} (e : ∀ i, f ≤ i → i < b → B i = C i) (h : WMc B f b si) : WMc C f b si := ⟨h.1, fun j a c => by rw [← e (f + j) (by omega) (by omega)]; exact h.2 j a c⟩
theorem WK.cg {p e k : Int} (q : ∀ i, p ≤ i → i < e → B i = C i) (h : WK B p e k) : WK C p e k := by
  rcases h with ⟨a, b, c⟩ | ⟨a, b⟩
  · exact .inl ⟨a, b, c.cg q⟩
  · exact .inr ⟨a, fun i x y z => b i x y (z.cg (fun j u v => (q j u v).symm))⟩
theorem QK.cg (h : ∀ i, 0 ≤ i → i < n → chE (B i) (C i)) {p k : Int} (g : QK B n p k) : QK C n p k := by
  have hL : isLt (cb B n p) ↔ isLt (cb C n p) := ch_L h p
  refine ⟨fun a => ?_, fun a b => ?_, fun a b => ?_⟩
  · have a' := hL.mpr a
    rw [← ch_qE h p]
    refine (g.1 a').cg (fun i x y => ch_Lq h ?_)
    have r := enN_r (st := stL B n) (n - p).toNat p
    unfold qE at y; rw [if_pos a'] at y
    exact r.2.2 i x y
  · have z := g.2.1 (fun y => a (hL.mp y)) ((ch_45 h p).mpr b)
    exact ⟨fun y => z.1 ((ch_nG h p).mpr y), fun y => z.2 (fun x => y ((ch_nG h p).mp x))⟩
  · have z := g.2.2 (fun y => a (hL.mp y)) (fun y => b ((ch_45 h p).mp y))
    rw [z]
    have c := ch_cb h p; unfold chE at c
    rcases c with c | c
    · rw [c]
    · unfold sgk
      rw [if_neg (by omega), if_neg (by omega), if_neg (by omega), if_neg (by omega), if_neg (by omega), if_neg (by omega)]
theorem ch_qV (h : ∀ i, 0 ≤ i → i < n → chE (B i) (C i)) (p : Int) : qV B n p = qV C n p := by
  have e : ∀ q : Int, dvn B q (en n (stD B n) q - q).toNat = dvn C q (en n (stD C n) q - q).toNat := fun q => by
    rw [en_cg (ch_D h)]
    have r := enN_r (st := stD C n) (n - q).toNat q
    have r1 : q ≤ en n (stD C n) q := r.1
    exact dvn_cg _ (fun j a b => ch_Dq h ((ch_D h j).mpr (r.2.2 j a (by show j < en n (stD C n) q; omega))))
  unfold qV
  by_cases c : cb B n p = 45
  · rw [if_pos c, if_pos ((ch_e h p (by decide)).mp c), e]
  · rw [if_neg c, if_neg (fun z => c ((ch_e h p (by decide)).mpr z)), e]
theorem ch_ps (h : ∀ i, 0 ≤ i → i < n → chE (B i) (C i)) : ∀ j : Nat, qps B n j = qps C n j := by
  intro j
  induction j with
  | zero => exact en_cg (ch_B h) 0
  | succ j ih => show en n (stB B n) (qE B n (qps B n j)) = en n (stB C n) (qE C n (qps C n j)); rw [ih, ch_qE h, en_cg (ch_B h)]
theorem TQp.cg (h : ∀ i, 0 ≤ i → i < n → chE (B i) (C i)) {T : Int} {kp vp : Int → Int} (t : TQp B n T kp vp) : TQp C n T kp vp := by
  refine ⟨t.1, t.2.1, t.2.2.1, fun j q => ?_, t.2.2.2.2.1, fun j => ?_⟩
  · have z := t.2.2.2.1 j q
    rw [← ch_ps h j]
    exact ⟨fun y => (z.1 y).cg h, z.2⟩
  · rw [t.2.2.2.2.2 j, ch_ps h, ch_qV h]
end
/-- what the tokens are for the reader -/
theorem TPS.gE {B : Int → Int} {n : Int} {S : sS} (h : TPS B n S) (hT : S.1 231 19 ≤ 30001) : gE (S.2.1 244) (S.1 231 19) := by
  refine ⟨⟨h.1, hT⟩, fun t a b => ?_, h.2.2.1⟩
  have c := h.2.1 t.toNat (by omega)
  obtain ⟨_, kk, _, d, _⟩ := h.2.2.2 t.toNat (by omega)
  rw [show ((t.toNat : Nat) : Int) = t by omega] at c d
  unfold krq at d
  omega
theorem qE_ge {B : Int → Int} {n p : Int} : p ≤ qE B n p := by
  unfold qE
  by_cases a : isLt (cb B n p)
  · rw [if_pos a]; exact (enN_r (st := stL B n) (n - p).toNat p).1
  rw [if_neg a]
  by_cases b : cb B n p = 45 ∨ isDg (cb B n p)
  · rw [if_pos b]
    have c : p ≤ qdg B n p := by unfold qdg; split <;> omega
    have d : qdg B n p ≤ en n (stD B n) (qdg B n p) := (enN_r (st := stD B n) (n - qdg B n p).toNat (qdg B n p)).1
    omega
  · rw [if_neg b]; omega
theorem qps_ge {B : Int → Int} {n : Int} : ∀ j : Nat, 0 ≤ qps B n j := by
  intro j
  induction j with
  | zero => exact (enN_r (st := stB B n) (n - 0).toNat 0).1
  | succ j ih =>
    have a := qE_ge (B := B) (n := n) (p := qps B n j)
    have b : qE B n (qps B n j) ≤ en n (stB B n) (qE B n (qps B n j)) := (enN_r (st := stB B n) (n - qE B n (qps B n j)).toNat (qE B n (qps B n j))).1
    show 0 ≤ en n (stB B n) (qE B n (qps B n j))
    omega
theorem TPS.nt {B : Int → Int} {n : Int} {S : sS} (h : TPS B n S) (hn : n ≤ 30000) {t : Int} (h0 : 0 ≤ t) (h1 : t < S.1 231 19) (k : S.2.1 244 t = 2) : nTk B (S.2.1 245) (S.2.1 246) (S.2.1 247) t := by
  have g := h.2.2.2 t.toNat (by omega)
  unfold tkQ at g
  rw [show ((t.toNat : Nat) : Int) = t by omega] at g
  obtain ⟨g1, kk, g2, g3, g4⟩ := g
  obtain ⟨g5, g6⟩ := g4 k
  have e : kk = 2 := by unfold krq at g3; omega
  subst e
  have z : qps B n t.toNat < n := by
    by_cases y : qps B n t.toNat < n
    · exact y
    · exact absurd (g2.2 (by omega)) (by decide)
  have p0 := qps_ge (B := B) (n := n) t.toNat
  obtain ⟨n1, n2, n3⟩ := (g2.1 z).n
  have ge := qE_gt (B := B) (n := n) (p := qps B n t.toNat) p0 z
  have cz := cb_in (B := B) (n := n) p0 z
  have eq : qE B n (qps B n t.toNat) = en n (stD B n) (qdg B n (qps B n t.toNat)) := by unfold qE; rw [if_neg n1, if_pos n2]
  have run : ∀ x, qdg B n (qps B n t.toNat) ≤ x → x < qE B n (qps B n t.toNat) → 48 ≤ B x ∧ B x ≤ 57 := fun x a b => by
    rw [eq] at b
    have s := (enN_r (st := stD B n) (n - qdg B n (qps B n t.toNat)).toNat (qdg B n (qps B n t.toNat))).2.2 x a b
    have c := cb_nz (B := B) (n := n) (i := x) (by unfold stD isDg at s; omega)
    unfold stD isDg at s; omega
  unfold nTk
  rw [g1, g5, show qps B n t.toNat + (qE B n (qps B n t.toNat) - qps B n t.toNat) = qE B n (qps B n t.toNat) by omega]
  refine ⟨⟨p0, by omega⟩, by unfold vsg at g6; omega, ?_⟩
  unfold nGd at n3
  rw [← eq] at n3
  by_cases y : cb B n (qps B n t.toNat) = 45
  · have ed : qdg B n (qps B n t.toNat) = qps B n t.toNat + 1 := if_pos y
    rw [ed] at n3 run
    refine ⟨1, .inl ⟨rfl, by rw [← cz]; exact y⟩, by omega, run, fun v => ?_⟩
    obtain ⟨i, i1, i2, i3⟩ := n3.2.2 y
    exact ⟨i, i1, i2, i3⟩
  · have ed : qdg B n (qps B n t.toNat) = qps B n t.toNat := if_neg y
    rw [ed] at n3 run
    have n31 := n3.1; have n32 := n3.2.1; clear n3
    refine ⟨0, .inr ⟨rfl, by rw [← cz]; exact y⟩, by omega, by rw [show qps B n t.toNat + 0 = qps B n t.toNat by omega]; exact run, fun v => ?_⟩
    rw [show qps B n t.toNat + 0 = qps B n t.toNat by omega]
    have v1 : 0 < qV B n (qps B n t.toNat) := by unfold vsg at g6; omega
    unfold qV at v1
    rw [if_neg y, ← ed, ← eq, ed] at v1
    obtain ⟨i, i1, i2, i3⟩ := (dvn_pos (B := B) (p := qps B n t.toNat) (qE B n (qps B n t.toNat) - qps B n t.toNat).toNat (fun j a b => (run j a (by omega)).1)).mpr v1
    exact ⟨i, i1, by omega, i3⟩
/-- no value is told: it doesn't matter -/
theorem leaf_0 {n c : Int} {R : Int → Int → Int} {wh ff : Int → Int} {wd q vt vb vt' vb' : Int} : leaf n c R wh ff wd 0 q vt vb = leaf n c R wh ff wd 0 q vt' vb' := by
  unfold leaf
  apply propext
  constructor
  · rintro (h | h)
    · exact .inl h
    · exact absurd h.2.1 (by decide)
  · rintro (h | h)
    · exact .inl h
    · exact absurd h.2.1 (by decide)
theorem HT.v0 {n W : Int} {wh : Int → Int} {vt vb vt' vb' : Int} {kp vp : Int → Int} : ∀ (f : Nat) (t c : Int) (R : Int → Int → Int) (w : Int) (wr wk wv : Int → Int) (r : Int), HT n W wh 0 vt vb kp vp f t c R w wr wk wv r → HT n W wh 0 vt' vb' kp vp f t c R w wr wk wv r := by
  intro f
  induction f with
  | zero => intro t c R w wr wk wv r h; exact h
  | succ f ih =>
    intro t c R w wr wk wv r h
    refine ⟨fun k => ⟨fun y => (h.1 k).1 y, fun y => ⟨fun z => ((h.1 k).2 y).1 z, fun z => ih _ _ _ _ _ _ _ _ (((h.1 k).2 y).2 z)⟩⟩, fun k => ⟨fun y => (h.2 k).1 y, fun ff e y => ⟨fun k3 => ⟨fun x => (((h.2 k).2 ff e y).1 k3).1 x, fun x => ⟨fun z => ((((h.2 k).2 ff e y).1 k3).2 x).1 z, fun z => ih _ _ _ _ _ _ _ _ (((((h.2 k).2 ff e y).1 k3).2 x).2 z)⟩⟩, fun k3 => ⟨fun x => (((h.2 k).2 ff e y).2 k3).1 (by rw [leaf_0 (vt' := vt') (vb' := vb')]; exact x), fun x => ?_⟩⟩⟩⟩
    have z := (((h.2 k).2 ff e y).2 k3).2 (by rw [leaf_0 (vt' := vt') (vb' := vb')]; exact x)
    exact ⟨z.1, fun q => ih _ _ _ _ _ _ _ _ (z.2 q)⟩
section
variable {kp vp : Int → Int} {n : Int}
theorem isP.o2 (h : isP kp vp n) (k : kp 0 = 7) : gPn kp vp n 5 := by
  rcases h with h | h | h
  · exact h.2.2.2.2.2.1
  · have := h.1; omega
  · have := h.1; omega
theorem isP.u2 (h : isP kp vp n) (k : kp 0 = 9) : gPn kp vp n 2 ∧ gPn kp vp n (n + 5) := by
  rcases h with h | h | h
  · have := h.1; omega
  · have := h.1; omega
  · exact ⟨h.2.2.1, h.2.2.2.2.1⟩
end
set_option maxRecDepth 100000 in
set_option maxHeartbeats 4000000 in
theorem q_X12_holds (l : Launch) (G : sG) (S : sS) {K Xt Fm Wd Vt : Int → Int} {T : Int} {kp vp : Int → Int} {n mm mx : Int} {A : Int → Int → Int} {wh : Int → Int} (hI : dX G S) (hK : S.2.1 244 = K) (hX : S.2.1 243 = Xt) (hFm : S.2.1 245 = Fm) (hWd : S.2.1 246 = Wd) (hVt : S.2.1 247 = Vt) (hQ : Hd (∀ t, 0 ≤ t → t < T → kp t = 2 → nTk Xt Fm Wd Vt t ∧ NVr Xt Fm Wd Vt t (vp t))) (hKS : Hd (KS T kp) ∧ T ≤ 30001) (hkr : Hd (KVq K Vt T kp vp)) (hKT : Hd (KT T kp)) (hm : 0 ≤ S.1 231 46 ∧ S.1 231 46 ≤ 12) (hm2 : 0 ≤ S.1 231 47 ∧ S.1 231 47 ≤ 16) (hHA : dHA S) (hGM : GM S) (hMD : MD S) (hMR : Hd (MDr S n mm mx A wh)) (hUP0 : dUP S) (hwn : wct wh n.toNat ≤ n) (h20 : S.1 231 20 = 0) (hP : Hd (isP kp vp n)) : Met l yX12_holds (.code yX12_holds cX12_holds 3 none :: tb) (rmk 8 0 0) (sPc G 294 S [.ref (G.2.2.1 + 231)]) (sQv G 294 (fun u => dX G u ∧ Fr S u (pl [231, 233, 234, 235, 237, 238, 240, 277, 283, 284, 285, 286, 287, 288, 289, 291, 292, 293]) ∧ FF S u (fl [20, 21, 24, 100]) ∧ (dHA u ∧ dUP u ∧ Hd (HOLD n mm mx A wh kp vp (u.1 231 20))))) 0 0 (sF G) := by
  refine sEnter (by decide) (Nat.le_of_ble_eq_true rfl) ?_
  intro p e s m args below meth c Cx hr hlk hnm hW ls hl
  have Cx : sC G p m c cX12_holds 3 s args RX12 := Cx
  obtain ⟨hx, hb, hml, hown, hts⟩ := id Cx.1
  have hL : sL G [] := sL_nil
  have hl : lv_has ls 3 [(0, .ref (G.2.2.1 + 231))] := hl
  have hW0 := hW
  have hMn := hMR.1; have hMm := hMR.2.1; have hMx := hMR.2.2.1; have hMw := hMR.2.2.2.1
  have hT3 := hKS.2
  have hpk := hP.k
  have hT00 := hKT 0 (by omega)
  have hkq0 := hkr.1 0 (by omega) hT00.2
  unfold krq at hkq0
  refine lv_aload_n hx hb dX12_holds_0 rfl (lv_at hl 0 rfl) ?_
  refine g_X12_56 Cx hW (k := 231) (by decide) rfl (v := .ref (G.2.2.1 + 247)) (rd_18 hI) dX12_holds_1 ?_
  refine lv_iconst (v := iv 0) hx hb dX12_holds_4 (by decide) ?_
  refine rIald Cx hW (k := 247) (by decide) rfl (by decide) (by omega) (by omega) dX12_holds_5 ?_
  have q_1 : (-2147483648) ≤ S.2.1 247 0 ∧ S.2.1 247 0 ≤ 2147483647 := hI.ai 247 0
  refine r_i (b := S.2.1 247 0) rfl ?_
  have hr0 : Vt 0 = S.2.1 247 0 := by rw [← hVt]
  refine lv_istore_n (lv' := [(1, .int (iv (S.2.1 247 0))), (0, .ref (G.2.2.1 + 231))]) hx hb dX12_holds_6 rfl hl (by decide) rfl (fun ls hl => ?_)
  refine lv_aload_n hx hb dX12_holds_7 rfl (lv_at hl 1 rfl) ?_
  refine lv_iconst (v := iv 1) hx hb dX12_holds_8 (by decide) ?_
  refine p_X12_315 Cx hW hL (k := 231) (by decide) rfl dX12_holds_9 (fun H locs hW hL => ?_)
  have F_2 : Fr S (uF S 231 24 1) (pl [231, 233, 234, 235, 237, 238, 240, 277, 283, 284, 285, 286, 287, 288, 289, 291, 292, 293]) := (Fr.rf : Fr S S (pl [231, 233, 234, 235, 237, 238, 240, 277, 283, 284, 285, 286, 287, 288, 289, 291, 292, 293])).F rfl
  have g_3 : FF S (uF S 231 24 1) (fl [20, 21, 24, 100]) := FF.F FF.rf rfl
  have i_4 : dX G (uF S 231 24 1) := hI.F (i := 24) (show (-2147483648) ≤ 1 ∧ 1 ≤ 2147483647 from ⟨by omega, by omega⟩)
  refine lv_iload_n hx hb dX12_holds_12 rfl (lv_at hl 0 rfl) ?_
  refine r_if_ne (tgt := 97) hx hb ⟨(by omega), (by omega)⟩ dX12_holds_13 (by decide) (fun c_5 => ?_) (fun c_5 => ?_)
  · refine lv_iload_n hx hb dX12_holds_97 rfl (lv_at hl 0 rfl) ?_
    refine lv_iconst (v := iv 3) hx hb dX12_holds_98 (by decide) ?_
    refine r_icmp_ne (tgt := 165) hx hb ⟨(by omega), (by omega)⟩ ⟨(by omega), (by omega)⟩ dX12_holds_99 (by decide) (fun c_6 => ?_) (fun c_6 => ?_)
    · have hk8 : kp 0 = 8 := by omega
      have hi3 : Hd _ := hP.i hk8
      refine lv_aload_n hx hb dX12_holds_165 rfl (lv_at hl 1 rfl) ?_
      have q_7 : (-2147483648) ≤ S.1 231 20 ∧ S.1 231 20 ≤ 2147483647 := hI.fi 20
      refine g_X12_270 Cx hW (k := 231) (by decide) rfl (v := S.1 231 20) (uF_ne (fun h => absurd h.2 (by decide))) dX12_holds_166 ?_
      refine r_if_ne (tgt := 185) hx hb ⟨(by omega), (by omega)⟩ dX12_holds_169 (by decide) (fun c => absurd (by omega) c) (fun _ => ?_)
      refine lv_aload_n hx hb dX12_holds_172 rfl (lv_at hl 1 rfl) ?_
      refine lv_iload_n hx hb dX12_holds_173 rfl (lv_at hl 0 rfl) ?_
      refine r_if_ne (tgt := 181) hx hb ⟨(by omega), (by omega)⟩ dX12_holds_174 (by decide) (fun _ => ?_) (fun c => absurd c (by omega))
      refine lv_iconst (v := iv 0) hx hb dX12_holds_181 (by decide) ?_
      have q_8 : (-2147483648) ≤ S.1 231 46 ∧ S.1 231 46 ≤ 2147483647 := hI.fi 46
      have lk_9 : (uF S 231 24 1).1 231 46 = S.1 231 46 := uF_ne (fun h => absurd h.2 (by decide))
      have q_10 : (-2147483648) ≤ S.1 231 47 ∧ S.1 231 47 ≤ 2147483647 := hI.fi 47
      have lk_11 : (uF S 231 24 1).1 231 47 = S.1 231 47 := uF_ne (fun h => absurd h.2 (by decide))
      have lk_12 : (uF S 231 24 1).1 231 24 = 1 := uF_on
      have lk_13 : (uF S 231 24 1).1 231 20 = S.1 231 20 := uF_ne (fun h => absurd h.2 (by decide))
      refine sBv (sV (As := [.int (iv 0)]) (rest := []) (k := 231) Cx (q_X12_trees l G (uF S 231 24 1) (bb := 0) (Xt := Xt) (Fm := Fm) (Wd := Wd) (Vt := Vt) (T := T) (kp := kp) (vp := vp) (K := K) (n := n) (mm := mm) (mx := mx) (A := A) (wh := wh) (vt := (nv (S.2.1 286) 0)) (vb := (nv (S.2.1 287) 0)) (pz := 1) i_4 ((funext fun j => uF_a : (uF S 231 24 1).2.1 244 = S.2.1 244).trans hK) ((funext fun j => uF_a : (uF S 231 24 1).2.1 243 = S.2.1 243).trans hX) ((funext fun j => uF_a : (uF S 231 24 1).2.1 245 = S.2.1 245).trans hFm) ((funext fun j => uF_a : (uF S 231 24 1).2.1 246 = S.2.1 246).trans hWd) ((funext fun j => uF_a : (uF S 231 24 1).2.1 247 = S.2.1 247).trans hVt) hQ hKS hkr hKT (by omega) (by omega) (by omega) (dHA.sm (S := S) (u := (uF S 231 24 1)) hHA (funext fun j => uF_a)) (dUP.sm (S := S) (u := (uF S 231 24 1)) hUP0 (funext fun j => uF_a) (funext fun j => uF_a)) (GM.sm (S := S) (u := (uF S 231 24 1)) hGM (funext fun j => uF_l) (funext fun j => uF_l)) (MD.sm (S := S) (u := (uF S 231 24 1)) hMD (uF_ne (fun h => absurd h.2 (by decide))) (uF_ne (fun h => absurd h.2 (by decide))) (uF_ne (fun h => absurd h.2 (by decide)))) (MDr.sm (S := S) (u := (uF S 231 24 1)) hMR (uF_ne (fun h => absurd h.2 (by decide))) (uF_ne (fun h => absurd h.2 (by decide))) (uF_ne (fun h => absurd h.2 (by decide))) (uF_ne (fun h => absurd h.2 (by decide))) (funext fun j => uF_a) (funext fun j => uF_l) (funext fun j => uF_l)) ⟨(by rw [show (uF S 231 24 1).2.1 286 = S.2.1 286 from (funext fun j => uF_a)]), (by rw [show (uF S 231 24 1).2.1 287 = S.2.1 287 from (funext fun j => uF_a)])⟩ (by omega) (by omega) hi3 (by omega) (by omega)) (c_X12_731 Cx rfl rfl (rmk_ok (by omega) (by decide))) hW (by decide) rfl rfl rfl hl.1 rfl (Nat.le_of_ble_eq_true rfl) dX12_holds_182 ⟨Nat.le_of_ble_eq_true rfl, Nat.le_of_ble_eq_true rfl⟩) hL (fun u_14 H locs k_15 hW hL => ?_)
      obtain ⟨iu_14, fu_14, gu_14, xu_14⟩ := k_15
      have F_16 := F_2.trans (fu_14.to (pl_sub (by decide)))
      have g_17 : FF S u_14 (fl [20, 21, 24, 100]) := FF.trans g_3 (FF.to gu_14 (fl_sub (by decide)))
      have q_18 : (-2147483648) ≤ u_14.1 231 20 ∧ u_14.1 231 20 ≤ 2147483647 := iu_14.fi 20
      exact sVret Cx hr hlk hW hL ⟨iu_14, F_16, g_17, ⟨xu_14.1, (dUP.sm (S := S) (u := u_14) hUP0 (funext fun j => ((fu_14 286 rfl).2.1 j).trans (uF_a)) (funext fun j => ((fu_14 287 rfl).2.1 j).trans (uF_a))), (show HOLD _ _ _ _ _ _ _ _ from ⟨fun z => absurd hP z, fun _ => ⟨fun z => absurd z (by omega), fun z => absurd z (by omega), fun _ => HT.v0 _ _ _ _ _ _ _ _ _ (HT.cg xu_14.2 (by omega) rfl)⟩⟩)⟩⟩ dX12_holds_185
    · have hk9 : kp 0 = 9 := by omega
      have hu1 : Hd _ := (hP.u2 hk9).1; have hu2 : Hd _ := (hP.u2 hk9).2
      refine lv_aload_n hx hb dX12_holds_102 rfl (lv_at hl 1 rfl) ?_
      refine lv_iconst (v := iv 2) hx hb dX12_holds_103 (by decide) ?_
      refine p_X12_315 Cx hW hL (k := 231) (by decide) rfl dX12_holds_104 (fun H locs hW hL => ?_)
      have F_19 : Fr S (uF (uF S 231 24 1) 231 24 2) (pl [231, 233, 234, 235, 237, 238, 240, 277, 283, 284, 285, 286, 287, 288, 289, 291, 292, 293]) := F_2.F rfl
      have g_20 : FF S (uF (uF S 231 24 1) 231 24 2) (fl [20, 21, 24, 100]) := FF.F g_3 rfl
      have i_21 : dX G (uF (uF S 231 24 1) 231 24 2) := i_4.F (i := 24) (show (-2147483648) ≤ 2 ∧ 2 ≤ 2147483647 from ⟨by omega, by omega⟩)
      refine lv_aload_n hx hb dX12_holds_107 rfl (lv_at hl 1 rfl) ?_
      have q_22 : (-2147483648) ≤ S.1 231 46 ∧ S.1 231 46 ≤ 2147483647 := hI.fi 46
      have lk_23 : (uF (uF S 231 24 1) 231 24 2).1 231 46 = S.1 231 46 := (uF_ne (fun h => absurd h.2 (by decide))).trans (uF_ne (fun h => absurd h.2 (by decide)))
      have lk_24 : (uF (uF S 231 24 1) 231 24 2).1 231 24 = 2 := uF_on
      refine sBv (sV (As := []) (rest := []) (k := 231) Cx (q_X12_pointHere l G (uF (uF S 231 24 1) 231 24 2) (Xt := Xt) (Fm := Fm) (Wd := Wd) (Vt := Vt) (T := T) (kp := kp) (vp := vp) (n := n) (pz := 2) i_21 ((funext fun j => (uF_a).trans (uF_a) : (uF (uF S 231 24 1) 231 24 2).2.1 243 = S.2.1 243).trans hX) ((funext fun j => (uF_a).trans (uF_a) : (uF (uF S 231 24 1) 231 24 2).2.1 245 = S.2.1 245).trans hFm) ((funext fun j => (uF_a).trans (uF_a) : (uF (uF S 231 24 1) 231 24 2).2.1 246 = S.2.1 246).trans hWd) ((funext fun j => (uF_a).trans (uF_a) : (uF (uF S 231 24 1) 231 24 2).2.1 247 = S.2.1 247).trans hVt) (by omega) (by omega) (by omega) hu1 hQ hKS (by omega)) (c_X12_718 Cx rfl rfl (rmk_ok (by omega) (by decide))) hW (by decide) rfl rfl rfl hl.1 rfl (Nat.le_of_ble_eq_true rfl) dX12_holds_108 ⟨Nat.le_of_ble_eq_true rfl, Nat.le_of_ble_eq_true rfl⟩) hL (fun u_25 H locs k_26 hW hL => ?_)
      obtain ⟨iu_25, fu_25, gu_25, xu_25⟩ := k_26
      have F_27 := F_19.trans (fu_25.to (pl_sub (by decide)))
      have g_28 : FF S u_25 (fl [20, 21, 24, 100]) := FF.trans g_20 (FF.to gu_25 (fl_sub (by decide)))
      have hptu_25 : Hd (PTr u_25 (ptf vp n 1) n) := (by have h := xu_25.2.2; rw [show (2 : Int) - 1 = 1 by omega] at h; exact h)
      have hcuu_25 := xu_25.1
      refine lv_aload_n hx hb dX12_holds_111 rfl (lv_at hl 1 rfl) ?_
      refine lv_iconst (v := iv 0) hx hb dX12_holds_112 (by decide) ?_
      have lk_29 : u_25.1 231 46 = S.1 231 46 := (gu_25 46 rfl).trans ((uF_ne (fun h => absurd h.2 (by decide))).trans (uF_ne (fun h => absurd h.2 (by decide))))
      have q_30 : (-2147483648) ≤ S.1 231 47 ∧ S.1 231 47 ≤ 2147483647 := hI.fi 47
      have lk_31 : u_25.1 231 47 = S.1 231 47 := (gu_25 47 rfl).trans ((uF_ne (fun h => absurd h.2 (by decide))).trans (uF_ne (fun h => absurd h.2 (by decide))))
      refine sBi (sV (As := [.int (iv 0)]) (rest := []) (k := 231) Cx (q_X12_isPoint l G u_25 (bb := 0) (n := n) (mm := mm) (mx := mx) (A := A) (wh := wh) (pp := (ptf vp n 1)) iu_25 (by omega) (by omega) (by omega) xu_25.2.1 (GM.sm (S := S) (u := u_25) hGM (funext fun j => ((fu_25 260 rfl).2.2.1 j).trans ((uF_l).trans (uF_l))) (funext fun j => ((fu_25 290 rfl).2.2.1 j).trans ((uF_l).trans (uF_l)))) (MDr.sm (S := S) (u := u_25) hMR ((gu_25 46 rfl).trans ((uF_ne (fun h => absurd h.2 (by decide))).trans (uF_ne (fun h => absurd h.2 (by decide))))) ((gu_25 47 rfl).trans ((uF_ne (fun h => absurd h.2 (by decide))).trans (uF_ne (fun h => absurd h.2 (by decide))))) ((gu_25 48 rfl).trans ((uF_ne (fun h => absurd h.2 (by decide))).trans (uF_ne (fun h => absurd h.2 (by decide))))) ((gu_25 49 rfl).trans ((uF_ne (fun h => absurd h.2 (by decide))).trans (uF_ne (fun h => absurd h.2 (by decide))))) (funext fun j => ((fu_25 259 rfl).2.1 j).trans ((uF_a).trans (uF_a))) (funext fun j => ((fu_25 260 rfl).2.2.1 j).trans ((uF_l).trans (uF_l))) (funext fun j => ((fu_25 290 rfl).2.2.1 j).trans ((uF_l).trans (uF_l)))) hptu_25) (c_X12_724 Cx rfl rfl (rmk_ok (by omega) (by decide))) hW (by decide) rfl rfl rfl hl.1 rfl (Nat.le_of_ble_eq_true rfl) dX12_holds_113 ⟨Nat.le_of_ble_eq_true rfl, Nat.le_of_ble_eq_true rfl⟩) hL (fun r_34 u_32 H locs k_33 hW hL => ?_)
      obtain ⟨iu_32, fu_32, gu_32, xu_32⟩ := k_33
      have F_35 := F_27.trans (fu_32.to (pl_sub (by decide)))
      have g_36 : FF S u_32 (fl [20, 21, 24, 100]) := FF.trans g_28 (FF.to gu_32 (fl_sub (by decide)))
      have hop := (show _ ↔ _ from xu_32.2)
      have hop : Hd _ := hop
      refine r_if_ne (tgt := 125) hx hb ⟨(by omega), (by omega)⟩ dX12_holds_116 (by decide) (fun c_37 => ?_) (fun c_37 => ?_)
      · refine lv_aload_n hx hb dX12_holds_125 rfl (lv_at hl 1 rfl) ?_
        have q_38 : (-2147483648) ≤ u_25.1 231 24 ∧ u_25.1 231 24 ≤ 2147483647 := iu_25.fi 24
        refine g_X12_315 Cx hW (k := 231) (by decide) rfl (v := u_25.1 231 24) (gu_32 24 rfl) dX12_holds_126 ?_
        refine lv_istore_n (lv' := [(2, .int (iv (u_25.1 231 24))), (1, .int (iv (S.2.1 247 0))), (0, .ref (G.2.2.1 + 231))]) hx hb dX12_holds_129 rfl hl (by decide) rfl (fun ls hl => ?_)
        refine lv_aload_n hx hb dX12_holds_130 rfl (lv_at hl 2 rfl) ?_
        refine lv_dup hx hb dX12_holds_131 rfl ?_
        refine g_X12_315 Cx hW (k := 231) (by decide) rfl (v := u_25.1 231 24) (gu_32 24 rfl) dX12_holds_132 ?_
        refine lv_iconst (v := iv 1) hx hb dX12_holds_135 (by decide) ?_
        refine r_iadd hx hb dX12_holds_136 ?_
        refine p_X12_315 Cx hW hL (k := 231) (by decide) rfl dX12_holds_137 (fun H locs hW hL => ?_)
        have F_39 : Fr S (uF u_32 231 24 ((u_25.1 231 24) + 1)) (pl [231, 233, 234, 235, 237, 238, 240, 277, 283, 284, 285, 286, 287, 288, 289, 291, 292, 293]) := F_35.F rfl
        have g_40 : FF S (uF u_32 231 24 ((u_25.1 231 24) + 1)) (fl [20, 21, 24, 100]) := FF.F g_36 rfl
        have i_41 : dX G (uF u_32 231 24 ((u_25.1 231 24) + 1)) := iu_32.F (i := 24) (show (-2147483648) ≤ (u_25.1 231 24) + 1 ∧ (u_25.1 231 24) + 1 ≤ 2147483647 from ⟨by omega, by omega⟩)
        refine lv_aload_n hx hb dX12_holds_140 rfl (lv_at hl 2 rfl) ?_
        have lk_42 : (uF u_32 231 24 ((u_25.1 231 24) + 1)).1 231 46 = S.1 231 46 := (uF_ne (fun h => absurd h.2 (by decide))).trans ((gu_32 46 rfl).trans ((gu_25 46 rfl).trans ((uF_ne (fun h => absurd h.2 (by decide))).trans (uF_ne (fun h => absurd h.2 (by decide))))))
        have lk_43 : (uF u_32 231 24 ((u_25.1 231 24) + 1)).1 231 24 = (u_25.1 231 24) + 1 := uF_on
        refine sBv (sV (As := []) (rest := []) (k := 231) Cx (q_X12_pointHere l G (uF u_32 231 24 ((u_25.1 231 24) + 1)) (Xt := Xt) (Fm := Fm) (Wd := Wd) (Vt := Vt) (T := T) (kp := kp) (vp := vp) (n := n) (pz := (u_25.1 231 24) + 1) i_41 ((funext fun j => (uF_a).trans (((fu_32 243 rfl).2.1 j).trans (((fu_25 243 rfl).2.1 j).trans ((uF_a).trans (uF_a)))) : (uF u_32 231 24 ((u_25.1 231 24) + 1)).2.1 243 = S.2.1 243).trans hX) ((funext fun j => (uF_a).trans (((fu_32 245 rfl).2.1 j).trans (((fu_25 245 rfl).2.1 j).trans ((uF_a).trans (uF_a)))) : (uF u_32 231 24 ((u_25.1 231 24) + 1)).2.1 245 = S.2.1 245).trans hFm) ((funext fun j => (uF_a).trans (((fu_32 246 rfl).2.1 j).trans (((fu_25 246 rfl).2.1 j).trans ((uF_a).trans (uF_a)))) : (uF u_32 231 24 ((u_25.1 231 24) + 1)).2.1 246 = S.2.1 246).trans hWd) ((funext fun j => (uF_a).trans (((fu_32 247 rfl).2.1 j).trans (((fu_25 247 rfl).2.1 j).trans ((uF_a).trans (uF_a)))) : (uF u_32 231 24 ((u_25.1 231 24) + 1)).2.1 247 = S.2.1 247).trans hVt) (by omega) (by omega) (by omega) (by rw [show (u_25.1 231 24) + 1 = n + 5 by omega]; exact hu2) hQ hKS (by omega)) (c_X12_718 Cx rfl rfl (rmk_ok (by omega) (by decide))) hW (by decide) rfl rfl rfl hl.1 rfl (Nat.le_of_ble_eq_true rfl) dX12_holds_141 ⟨Nat.le_of_ble_eq_true rfl, Nat.le_of_ble_eq_true rfl⟩) hL (fun u_44 H locs k_45 hW hL => ?_)
        obtain ⟨iu_44, fu_44, gu_44, xu_44⟩ := k_45
        have F_46 := F_39.trans (fu_44.to (pl_sub (by decide)))
        have g_47 : FF S u_44 (fl [20, 21, 24, 100]) := FF.trans g_40 (FF.to gu_44 (fl_sub (by decide)))
        have hptu_44 : Hd (PTr u_44 (ptf vp n (n + 4)) n) := (by have h := xu_44.2.2; rw [show ((u_25.1 231 24) + 1 : Int) - 1 = n + 4 by omega] at h; exact h)
        have hcuu_44 := xu_44.1
        refine lv_aload_n hx hb dX12_holds_144 rfl (lv_at hl 2 rfl) ?_
        have q_48 : (-2147483648) ≤ S.1 231 20 ∧ S.1 231 20 ≤ 2147483647 := hI.fi 20
        refine g_X12_270 Cx hW (k := 231) (by decide) rfl (v := S.1 231 20) ((gu_44 20 rfl).trans ((uF_ne (fun h => absurd h.2 (by decide))).trans ((gu_32 20 rfl).trans ((gu_25 20 rfl).trans ((uF_ne (fun h => absurd h.2 (by decide))).trans (uF_ne (fun h => absurd h.2 (by decide)))))))) dX12_holds_145 ?_
        refine r_if_ne (tgt := 164) hx hb ⟨(by omega), (by omega)⟩ dX12_holds_148 (by decide) (fun c => absurd (by omega) c) (fun _ => ?_)
        refine lv_aload_n hx hb dX12_holds_151 rfl (lv_at hl 2 rfl) ?_
        have lk_49 : u_44.1 231 46 = S.1 231 46 := (gu_44 46 rfl).trans ((uF_ne (fun h => absurd h.2 (by decide))).trans ((gu_32 46 rfl).trans ((gu_25 46 rfl).trans ((uF_ne (fun h => absurd h.2 (by decide))).trans (uF_ne (fun h => absurd h.2 (by decide)))))))
        have lk_50 : u_44.1 231 47 = S.1 231 47 := (gu_44 47 rfl).trans ((uF_ne (fun h => absurd h.2 (by decide))).trans ((gu_32 47 rfl).trans ((gu_25 47 rfl).trans ((uF_ne (fun h => absurd h.2 (by decide))).trans (uF_ne (fun h => absurd h.2 (by decide)))))))
        refine sBi (sV (As := []) (rest := []) (k := 231) Cx (q_X12_isAlong l G u_44 (n := n) (mm := mm) (mx := mx) (A := A) (wh := wh) (pp := (ptf vp n (n + 4))) iu_44 (by omega) (by omega) xu_44.2.1 (GM.sm (S := S) (u := u_44) hGM (funext fun j => ((fu_44 260 rfl).2.2.1 j).trans ((uF_l).trans (((fu_32 260 rfl).2.2.1 j).trans (((fu_25 260 rfl).2.2.1 j).trans ((uF_l).trans (uF_l)))))) (funext fun j => ((fu_44 290 rfl).2.2.1 j).trans ((uF_l).trans (((fu_32 290 rfl).2.2.1 j).trans (((fu_25 290 rfl).2.2.1 j).trans ((uF_l).trans (uF_l))))))) (MDr.sm (S := S) (u := u_44) hMR ((gu_44 46 rfl).trans ((uF_ne (fun h => absurd h.2 (by decide))).trans ((gu_32 46 rfl).trans ((gu_25 46 rfl).trans ((uF_ne (fun h => absurd h.2 (by decide))).trans (uF_ne (fun h => absurd h.2 (by decide)))))))) ((gu_44 47 rfl).trans ((uF_ne (fun h => absurd h.2 (by decide))).trans ((gu_32 47 rfl).trans ((gu_25 47 rfl).trans ((uF_ne (fun h => absurd h.2 (by decide))).trans (uF_ne (fun h => absurd h.2 (by decide)))))))) ((gu_44 48 rfl).trans ((uF_ne (fun h => absurd h.2 (by decide))).trans ((gu_32 48 rfl).trans ((gu_25 48 rfl).trans ((uF_ne (fun h => absurd h.2 (by decide))).trans (uF_ne (fun h => absurd h.2 (by decide)))))))) ((gu_44 49 rfl).trans ((uF_ne (fun h => absurd h.2 (by decide))).trans ((gu_32 49 rfl).trans ((gu_25 49 rfl).trans ((uF_ne (fun h => absurd h.2 (by decide))).trans (uF_ne (fun h => absurd h.2 (by decide)))))))) (funext fun j => ((fu_44 259 rfl).2.1 j).trans ((uF_a).trans (((fu_32 259 rfl).2.1 j).trans (((fu_25 259 rfl).2.1 j).trans ((uF_a).trans (uF_a)))))) (funext fun j => ((fu_44 260 rfl).2.2.1 j).trans ((uF_l).trans (((fu_32 260 rfl).2.2.1 j).trans (((fu_25 260 rfl).2.2.1 j).trans ((uF_l).trans (uF_l)))))) (funext fun j => ((fu_44 290 rfl).2.2.1 j).trans ((uF_l).trans (((fu_32 290 rfl).2.2.1 j).trans (((fu_25 290 rfl).2.2.1 j).trans ((uF_l).trans (uF_l))))))) hptu_44) (c_X12_728 Cx rfl rfl (rmk_ok (by omega) (by decide))) hW (by decide) rfl rfl rfl hl.1 rfl (Nat.le_of_ble_eq_true rfl) dX12_holds_152 ⟨Nat.le_of_ble_eq_true rfl, Nat.le_of_ble_eq_true rfl⟩) hL (fun r_53 u_51 H locs k_52 hW hL => ?_)
        obtain ⟨iu_51, fu_51, gu_51, xu_51⟩ := k_52
        have F_54 := F_46.trans (fu_51.to (pl_sub (by decide)))
        have g_55 : FF S u_51 (fl [20, 21, 24, 100]) := FF.trans g_47 (FF.to gu_51 (fl_sub (by decide)))
        have hol := (show _ ↔ _ from xu_51.2)
        have hol : Hd _ := hol
        refine r_if_ne (tgt := 164) hx hb ⟨(by omega), (by omega)⟩ dX12_holds_155 (by decide) (fun c_56 => ?_) (fun c_56 => ?_)
        · have lk_57 : u_51.1 231 20 = S.1 231 20 := (gu_51 20 rfl).trans ((gu_44 20 rfl).trans ((uF_ne (fun h => absurd h.2 (by decide))).trans ((gu_32 20 rfl).trans ((gu_25 20 rfl).trans ((uF_ne (fun h => absurd h.2 (by decide))).trans (uF_ne (fun h => absurd h.2 (by decide))))))))
          exact sVret Cx hr hlk hW hL ⟨iu_51, F_54, g_55, ⟨(dHA.sm (S := S) (u := u_51) hHA (funext fun j => ((fu_51 283 rfl).2.1 j).trans (((fu_44 283 rfl).2.1 j).trans ((uF_a).trans (((fu_32 283 rfl).2.1 j).trans (((fu_25 283 rfl).2.1 j).trans ((uF_a).trans (uF_a)))))))), (dUP.sm (S := S) (u := u_51) hUP0 (funext fun j => ((fu_51 286 rfl).2.1 j).trans (((fu_44 286 rfl).2.1 j).trans ((uF_a).trans (((fu_32 286 rfl).2.1 j).trans (((fu_25 286 rfl).2.1 j).trans ((uF_a).trans (uF_a))))))) (funext fun j => ((fu_51 287 rfl).2.1 j).trans (((fu_44 287 rfl).2.1 j).trans ((uF_a).trans (((fu_32 287 rfl).2.1 j).trans (((fu_25 287 rfl).2.1 j).trans ((uF_a).trans (uF_a)))))))), (show HOLD _ _ _ _ _ _ _ _ from (by rw [(show u_51.1 231 20 = 0 by have y := (show u_51.1 231 20 = S.1 231 20 from (gu_51 20 rfl).trans ((gu_44 20 rfl).trans ((uF_ne (fun h => absurd h.2 (by decide))).trans ((gu_32 20 rfl).trans ((gu_25 20 rfl).trans ((uF_ne (fun h => absurd h.2 (by decide))).trans (uF_ne (fun h => absurd h.2 (by decide))))))))); omega)]; exact ⟨fun z => absurd hP z, fun _ => ⟨fun _ => ⟨fun z => absurd (hop.mp (by omega)) z, fun _ => ⟨fun z => absurd (hol.mp (by omega)) z, fun _ => rfl⟩⟩, fun z => absurd z (by omega), fun z => absurd z (by omega)⟩⟩))⟩⟩ dX12_holds_164
        · refine lv_aload_n hx hb dX12_holds_158 rfl (lv_at hl 2 rfl) ?_
          refine lv_iconst (v := iv 5) hx hb dX12_holds_159 (by decide) ?_
          refine lv_iload_n hx hb dX12_holds_160 rfl (lv_at hl 0 rfl) ?_
          have lk_58 : u_51.1 231 20 = S.1 231 20 := (gu_51 20 rfl).trans ((gu_44 20 rfl).trans ((uF_ne (fun h => absurd h.2 (by decide))).trans ((gu_32 20 rfl).trans ((gu_25 20 rfl).trans ((uF_ne (fun h => absurd h.2 (by decide))).trans (uF_ne (fun h => absurd h.2 (by decide))))))))
          refine sBv (sV (As := [.int (iv 5), .int (iv (u_25.1 231 24))]) (rest := []) (k := 231) Cx (q_X12_wrong l G u_51 (cd := 5) (tk := u_25.1 231 24) iu_51 (by omega) (by omega)) (c_X12_321 Cx rfl rfl (rmk_ok (by omega) (by decide))) hW (by decide) rfl rfl rfl hl.1 rfl (Nat.le_of_ble_eq_true rfl) dX12_holds_161 ⟨Nat.le_of_ble_eq_true rfl, Nat.le_of_ble_eq_true rfl⟩) hL (fun u_59 H locs k_60 hW hL => ?_)
          obtain ⟨iu_59, fu_59, gu_59, xu_59⟩ := k_60
          have F_61 := F_54.trans (fu_59.to (pl_sub (by decide)))
          have g_62 : FF S u_59 (fl [20, 21, 24, 100]) := FF.trans g_55 (FF.to gu_59 (fl_sub (by decide)))
          have q_63 : (-2147483648) ≤ u_59.1 231 20 ∧ u_59.1 231 20 ≤ 2147483647 := iu_59.fi 20
          exact sVret Cx hr hlk hW hL ⟨iu_59, F_61, g_62, ⟨(dHA.sm (S := S) (u := u_59) hHA (funext fun j => ((fu_59 283 rfl).2.1 j).trans (((fu_51 283 rfl).2.1 j).trans (((fu_44 283 rfl).2.1 j).trans ((uF_a).trans (((fu_32 283 rfl).2.1 j).trans (((fu_25 283 rfl).2.1 j).trans ((uF_a).trans (uF_a))))))))), (dUP.sm (S := S) (u := u_59) hUP0 (funext fun j => ((fu_59 286 rfl).2.1 j).trans (((fu_51 286 rfl).2.1 j).trans (((fu_44 286 rfl).2.1 j).trans ((uF_a).trans (((fu_32 286 rfl).2.1 j).trans (((fu_25 286 rfl).2.1 j).trans ((uF_a).trans (uF_a)))))))) (funext fun j => ((fu_59 287 rfl).2.1 j).trans (((fu_51 287 rfl).2.1 j).trans (((fu_44 287 rfl).2.1 j).trans ((uF_a).trans (((fu_32 287 rfl).2.1 j).trans (((fu_25 287 rfl).2.1 j).trans ((uF_a).trans (uF_a))))))))), (show HOLD _ _ _ _ _ _ _ _ from (by rw [(show u_59.1 231 20 = 5 by have y := (show u_59.1 231 20 = u_59.1 231 20 from rfl); have y2 := xu_59.1; omega)]; exact ⟨fun z => absurd hP z, fun _ => ⟨fun _ => ⟨fun z => absurd (hop.mp (by omega)) z, fun _ => ⟨fun _ => rfl, fun z => absurd (hol.mpr z) (by omega)⟩⟩, fun z => absurd z (by omega), fun z => absurd z (by omega)⟩⟩))⟩⟩ dX12_holds_164
      · refine lv_aload_n hx hb dX12_holds_119 rfl (lv_at hl 1 rfl) ?_
        refine lv_iconst (v := iv 2) hx hb dX12_holds_120 (by decide) ?_
        refine lv_iconst (v := iv 1) hx hb dX12_holds_121 (by decide) ?_
        have q_64 : (-2147483648) ≤ S.1 231 20 ∧ S.1 231 20 ≤ 2147483647 := hI.fi 20
        have lk_65 : u_32.1 231 20 = S.1 231 20 := (gu_32 20 rfl).trans ((gu_25 20 rfl).trans ((uF_ne (fun h => absurd h.2 (by decide))).trans (uF_ne (fun h => absurd h.2 (by decide)))))
        refine sBv (sV (As := [.int (iv 2), .int (iv 1)]) (rest := []) (k := 231) Cx (q_X12_wrong l G u_32 (cd := 2) (tk := 1) iu_32 (by omega) (by omega)) (c_X12_321 Cx rfl rfl (rmk_ok (by omega) (by decide))) hW (by decide) rfl rfl rfl hl.1 rfl (Nat.le_of_ble_eq_true rfl) dX12_holds_122 ⟨Nat.le_of_ble_eq_true rfl, Nat.le_of_ble_eq_true rfl⟩) hL (fun u_66 H locs k_67 hW hL => ?_)
        obtain ⟨iu_66, fu_66, gu_66, xu_66⟩ := k_67
        have F_68 := F_35.trans (fu_66.to (pl_sub (by decide)))
        have g_69 : FF S u_66 (fl [20, 21, 24, 100]) := FF.trans g_36 (FF.to gu_66 (fl_sub (by decide)))
        refine lv_aload_n hx hb dX12_holds_125 rfl (lv_at hl 1 rfl) ?_
        have q_70 : (-2147483648) ≤ u_25.1 231 24 ∧ u_25.1 231 24 ≤ 2147483647 := iu_25.fi 24
        refine g_X12_315 Cx hW (k := 231) (by decide) rfl (v := u_25.1 231 24) ((gu_66 24 rfl).trans (gu_32 24 rfl)) dX12_holds_126 ?_
        refine lv_istore_n (lv' := [(2, .int (iv (u_25.1 231 24))), (1, .int (iv (S.2.1 247 0))), (0, .ref (G.2.2.1 + 231))]) hx hb dX12_holds_129 rfl hl (by decide) rfl (fun ls hl => ?_)
        refine lv_aload_n hx hb dX12_holds_130 rfl (lv_at hl 2 rfl) ?_
        refine lv_dup hx hb dX12_holds_131 rfl ?_
        refine g_X12_315 Cx hW (k := 231) (by decide) rfl (v := u_25.1 231 24) ((gu_66 24 rfl).trans (gu_32 24 rfl)) dX12_holds_132 ?_
        refine lv_iconst (v := iv 1) hx hb dX12_holds_135 (by decide) ?_
        refine r_iadd hx hb dX12_holds_136 ?_
        refine p_X12_315 Cx hW hL (k := 231) (by decide) rfl dX12_holds_137 (fun H locs hW hL => ?_)
        have F_71 : Fr S (uF u_66 231 24 ((u_25.1 231 24) + 1)) (pl [231, 233, 234, 235, 237, 238, 240, 277, 283, 284, 285, 286, 287, 288, 289, 291, 292, 293]) := F_68.F rfl
        have g_72 : FF S (uF u_66 231 24 ((u_25.1 231 24) + 1)) (fl [20, 21, 24, 100]) := FF.F g_69 rfl
        have i_73 : dX G (uF u_66 231 24 ((u_25.1 231 24) + 1)) := iu_66.F (i := 24) (show (-2147483648) ≤ (u_25.1 231 24) + 1 ∧ (u_25.1 231 24) + 1 ≤ 2147483647 from ⟨by omega, by omega⟩)
        refine lv_aload_n hx hb dX12_holds_140 rfl (lv_at hl 2 rfl) ?_
        have lk_74 : (uF u_66 231 24 ((u_25.1 231 24) + 1)).1 231 46 = S.1 231 46 := (uF_ne (fun h => absurd h.2 (by decide))).trans ((gu_66 46 rfl).trans ((gu_32 46 rfl).trans ((gu_25 46 rfl).trans ((uF_ne (fun h => absurd h.2 (by decide))).trans (uF_ne (fun h => absurd h.2 (by decide)))))))
        have lk_75 : (uF u_66 231 24 ((u_25.1 231 24) + 1)).1 231 24 = (u_25.1 231 24) + 1 := uF_on
        refine sBv (sV (As := []) (rest := []) (k := 231) Cx (q_X12_pointHere l G (uF u_66 231 24 ((u_25.1 231 24) + 1)) (Xt := Xt) (Fm := Fm) (Wd := Wd) (Vt := Vt) (T := T) (kp := kp) (vp := vp) (n := n) (pz := (u_25.1 231 24) + 1) i_73 ((funext fun j => (uF_a).trans (((fu_66 243 rfl).2.1 j).trans (((fu_32 243 rfl).2.1 j).trans (((fu_25 243 rfl).2.1 j).trans ((uF_a).trans (uF_a))))) : (uF u_66 231 24 ((u_25.1 231 24) + 1)).2.1 243 = S.2.1 243).trans hX) ((funext fun j => (uF_a).trans (((fu_66 245 rfl).2.1 j).trans (((fu_32 245 rfl).2.1 j).trans (((fu_25 245 rfl).2.1 j).trans ((uF_a).trans (uF_a))))) : (uF u_66 231 24 ((u_25.1 231 24) + 1)).2.1 245 = S.2.1 245).trans hFm) ((funext fun j => (uF_a).trans (((fu_66 246 rfl).2.1 j).trans (((fu_32 246 rfl).2.1 j).trans (((fu_25 246 rfl).2.1 j).trans ((uF_a).trans (uF_a))))) : (uF u_66 231 24 ((u_25.1 231 24) + 1)).2.1 246 = S.2.1 246).trans hWd) ((funext fun j => (uF_a).trans (((fu_66 247 rfl).2.1 j).trans (((fu_32 247 rfl).2.1 j).trans (((fu_25 247 rfl).2.1 j).trans ((uF_a).trans (uF_a))))) : (uF u_66 231 24 ((u_25.1 231 24) + 1)).2.1 247 = S.2.1 247).trans hVt) (by omega) (by omega) (by omega) (by rw [show (u_25.1 231 24) + 1 = n + 5 by omega]; exact hu2) hQ hKS (by omega)) (c_X12_718 Cx rfl rfl (rmk_ok (by omega) (by decide))) hW (by decide) rfl rfl rfl hl.1 rfl (Nat.le_of_ble_eq_true rfl) dX12_holds_141 ⟨Nat.le_of_ble_eq_true rfl, Nat.le_of_ble_eq_true rfl⟩) hL (fun u_76 H locs k_77 hW hL => ?_)
        obtain ⟨iu_76, fu_76, gu_76, xu_76⟩ := k_77
        have F_78 := F_71.trans (fu_76.to (pl_sub (by decide)))
        have g_79 : FF S u_76 (fl [20, 21, 24, 100]) := FF.trans g_72 (FF.to gu_76 (fl_sub (by decide)))
        have hptu_76 : Hd (PTr u_76 (ptf vp n (n + 4)) n) := (by have h := xu_76.2.2; rw [show ((u_25.1 231 24) + 1 : Int) - 1 = n + 4 by omega] at h; exact h)
        have hcuu_76 := xu_76.1
        refine lv_aload_n hx hb dX12_holds_144 rfl (lv_at hl 2 rfl) ?_
        have q_80 : (-2147483648) ≤ u_66.1 231 20 ∧ u_66.1 231 20 ≤ 2147483647 := iu_66.fi 20
        refine g_X12_270 Cx hW (k := 231) (by decide) rfl (v := u_66.1 231 20) ((gu_76 20 rfl).trans (uF_ne (fun h => absurd h.2 (by decide)))) dX12_holds_145 ?_
        refine r_if_ne (tgt := 164) hx hb ⟨(by omega), (by omega)⟩ dX12_holds_148 (by decide) (fun _ => ?_) (fun c => absurd c (by omega))
        have lk_81 : u_76.1 231 20 = u_66.1 231 20 := (gu_76 20 rfl).trans (uF_ne (fun h => absurd h.2 (by decide)))
        exact sVret Cx hr hlk hW hL ⟨iu_76, F_78, g_79, ⟨(dHA.sm (S := S) (u := u_76) hHA (funext fun j => ((fu_76 283 rfl).2.1 j).trans ((uF_a).trans (((fu_66 283 rfl).2.1 j).trans (((fu_32 283 rfl).2.1 j).trans (((fu_25 283 rfl).2.1 j).trans ((uF_a).trans (uF_a)))))))), (dUP.sm (S := S) (u := u_76) hUP0 (funext fun j => ((fu_76 286 rfl).2.1 j).trans ((uF_a).trans (((fu_66 286 rfl).2.1 j).trans (((fu_32 286 rfl).2.1 j).trans (((fu_25 286 rfl).2.1 j).trans ((uF_a).trans (uF_a))))))) (funext fun j => ((fu_76 287 rfl).2.1 j).trans ((uF_a).trans (((fu_66 287 rfl).2.1 j).trans (((fu_32 287 rfl).2.1 j).trans (((fu_25 287 rfl).2.1 j).trans ((uF_a).trans (uF_a)))))))), (show HOLD _ _ _ _ _ _ _ _ from (by rw [(show u_76.1 231 20 = 2 by have y := (show u_76.1 231 20 = u_66.1 231 20 from (gu_76 20 rfl).trans (uF_ne (fun h => absurd h.2 (by decide)))); have y2 := xu_66.1; omega)]; exact ⟨fun z => absurd hP z, fun _ => ⟨fun _ => ⟨fun _ => rfl, fun z => absurd (hop.mpr z) (by omega)⟩, fun z => absurd z (by omega), fun z => absurd z (by omega)⟩⟩))⟩⟩ dX12_holds_164
  · have hk7 : kp 0 = 7 := by omega
    have ho1 := (hP.o hk7).1; have ho2 : Hd _ := hP.o2 hk7; have ho3 : Hd _ := (hP.o hk7).2.2
    have hk1 := ho1.1.1; have hk3 := ho1.1.2; have hv3 := ho1.2
    have hq_82b := hKS.1 (1) (by rw [hk1]; decide) (by rw [hk1]; decide)
    have hq_82 : Hd _ := hQ (1) hq_82b.1 (by omega) hk1
    refine lv_aload_n hx hb dX12_holds_16 rfl (lv_at hl 1 rfl) ?_
    refine lv_iconst (v := iv 1) hx hb dX12_holds_17 (by decide) ?_
    refine lv_aload_n hx hb dX12_holds_18 rfl (lv_at hl 1 rfl) ?_
    refine g_X12_178 Cx hW (k := 231) (by decide) rfl (v := .ref (G.2.2.1 + 286)) (rd_96 i_4) dX12_holds_19 ?_
    refine lv_iconst (v := iv 0) hx hb dX12_holds_22 (by decide) ?_
    refine sBv (sV (As := [.int (iv 1), .ref (G.2.2.1 + 286), .int (iv 0)]) (rest := []) (k := 231) Cx (q_X12_numberAt l G (uF S 231 24 1) (tk := 1) (ka := 286) (po := 0) (Nka := 10) (Xt := Xt) (Fm := Fm) (Wd := Wd) (Vt := Vt) (xx := vp (1)) i_4 ⟨rfl, by decide, by decide, by decide, rfl⟩ (show (286 : Nat) ≠ 243 by decide) (show (286 : Nat) ≠ 245 by decide) (show (286 : Nat) ≠ 246 by decide) (show (286 : Nat) ≠ 247 by decide) ((funext fun j => uF_a : (uF S 231 24 1).2.1 243 = S.2.1 243).trans hX) ((funext fun j => uF_a : (uF S 231 24 1).2.1 245 = S.2.1 245).trans hFm) ((funext fun j => uF_a : (uF S 231 24 1).2.1 246 = S.2.1 246).trans hWd) ((funext fun j => uF_a : (uF S 231 24 1).2.1 247 = S.2.1 247).trans hVt) hq_82.1 hq_82.2 (by omega) (by omega)) (c_X12_703 Cx rfl rfl (rmk_ok (by omega) (by decide))) hW (by decide) rfl rfl rfl hl.1 rfl (Nat.le_of_ble_eq_true rfl) dX12_holds_23 ⟨Nat.le_of_ble_eq_true rfl, Nat.le_of_ble_eq_true rfl⟩) hL (fun u_83 H locs k_84 hW hL => ?_)
    obtain ⟨iu_83, fu_83, gu_83, xu_83⟩ := k_84
    have F_85 := F_2.trans (fu_83.to (pl_sub (by decide)))
    have g_86 : FF S u_83 (fl [20, 21, 24, 100]) := FF.trans g_3 (FF.to gu_83 (fl_sub (by decide)))
    have nv_87 : nv (u_83.2.1 286) 0 = vp (1) := xu_83.2.1
    have join_41 : ∀ (S41 : sS)  (H : Heap) (locs : List Loc) (ls : Array Slot), (dX G S41) → (Fr S S41 (pl [231, 233, 234, 235, 237, 238, 240, 277, 283, 284, 285, 286, 287, 288, 289, 291, 292, 293])) → (Fr u_83 S41 (pl [286])) → (FF S S41 (fl [20, 21, 24, 100])) → (FF u_83 S41 (fl [])) → (NO (S41.2.1 286) 0 7) → (nv (S41.2.1 286) 0 = vtf mx (vp 1)) → sW G 294 S41 H → sL G locs → lv_has ls 3 [(1, .int (iv (S.2.1 247 0))), (0, .ref (G.2.2.1 + 231))] → W p l e (rmk 8 0 0) s m args below meth c H locs 0 0 (MQ below (sQv G 294 (fun u => dX G u ∧ Fr S u (pl [231, 233, 234, 235, 237, 238, 240, 277, 283, 284, 285, 286, 287, 288, 289, 291, 292, 293]) ∧ FF S u (fl [20, 21, 24, 100]) ∧ (dHA u ∧ dUP u ∧ Hd (HOLD n mm mx A wh kp vp (u.1 231 20))))) args s 0 0 (sF G)) (F0 m 41 ls []) := by
      intro S41  H locs ls hI41 hFm41 hL41_ hGm41 gL41_ h41 h41v hW hL hl
      refine lv_aload_n hx hb dX12_holds_41 rfl (lv_at hl 1 rfl) ?_
      have hq_88b := hKS.1 (3) (by rw [hk3]; decide) (by rw [hk3]; decide)
      have hq_88 : Hd _ := hQ (3) hq_88b.1 (by omega) hk3
      refine lv_iconst (v := iv 3) hx hb dX12_holds_42 (by decide) ?_
      refine lv_aload_n hx hb dX12_holds_43 rfl (lv_at hl 1 rfl) ?_
      refine g_X12_181 Cx hW (k := 231) (by decide) rfl (v := .ref (G.2.2.1 + 287)) (rd_97 hI41) dX12_holds_44 ?_
      refine lv_iconst (v := iv 0) hx hb dX12_holds_47 (by decide) ?_
      refine sBv (sV (As := [.int (iv 3), .ref (G.2.2.1 + 287), .int (iv 0)]) (rest := []) (k := 231) Cx (q_X12_numberAt l G S41 (tk := 3) (ka := 287) (po := 0) (Nka := 10) (Xt := Xt) (Fm := Fm) (Wd := Wd) (Vt := Vt) (xx := vp (3)) hI41 ⟨rfl, by decide, by decide, by decide, rfl⟩ (show (287 : Nat) ≠ 243 by decide) (show (287 : Nat) ≠ 245 by decide) (show (287 : Nat) ≠ 246 by decide) (show (287 : Nat) ≠ 247 by decide) ((funext fun j => ((hL41_ 243 rfl).2.1 j).trans (((fu_83 243 rfl).2.1 j).trans (uF_a)) : S41.2.1 243 = S.2.1 243).trans hX) ((funext fun j => ((hL41_ 245 rfl).2.1 j).trans (((fu_83 245 rfl).2.1 j).trans (uF_a)) : S41.2.1 245 = S.2.1 245).trans hFm) ((funext fun j => ((hL41_ 246 rfl).2.1 j).trans (((fu_83 246 rfl).2.1 j).trans (uF_a)) : S41.2.1 246 = S.2.1 246).trans hWd) ((funext fun j => ((hL41_ 247 rfl).2.1 j).trans (((fu_83 247 rfl).2.1 j).trans (uF_a)) : S41.2.1 247 = S.2.1 247).trans hVt) hq_88.1 hq_88.2 (by omega) (by omega)) (c_X12_703 Cx rfl rfl (rmk_ok (by omega) (by decide))) hW (by decide) rfl rfl rfl hl.1 rfl (Nat.le_of_ble_eq_true rfl) dX12_holds_48 ⟨Nat.le_of_ble_eq_true rfl, Nat.le_of_ble_eq_true rfl⟩) hL (fun u_89 H locs k_90 hW hL => ?_)
      obtain ⟨iu_89, fu_89, gu_89, xu_89⟩ := k_90
      have F_91 := hFm41.trans (fu_89.to (pl_sub (by decide)))
      have g_92 : FF S u_89 (fl [20, 21, 24, 100]) := FF.trans hGm41 (FF.to gu_89 (fl_sub (by decide)))
      have g_93 : FF u_83 u_89 (fl []) := FF.trans gL41_ (FF.to gu_89 (fl_sub (by decide)))
      have nv_94 : nv (u_89.2.1 287) 0 = vp (3) := xu_89.2.1
      refine lv_aload_n hx hb dX12_holds_51 rfl (lv_at hl 1 rfl) ?_
      refine lv_iconst (v := iv 5) hx hb dX12_holds_52 (by decide) ?_
      refine p_X12_315 Cx hW hL (k := 231) (by decide) rfl dX12_holds_53 (fun H locs hW hL => ?_)
      have F_95 : Fr S (uF u_89 231 24 5) (pl [231, 233, 234, 235, 237, 238, 240, 277, 283, 284, 285, 286, 287, 288, 289, 291, 292, 293]) := F_91.F rfl
      have g_96 : FF S (uF u_89 231 24 5) (fl [20, 21, 24, 100]) := FF.F g_92 rfl
      have i_97 : dX G (uF u_89 231 24 5) := iu_89.F (i := 24) (show (-2147483648) ≤ 5 ∧ 5 ≤ 2147483647 from ⟨by omega, by omega⟩)
      refine lv_aload_n hx hb dX12_holds_56 rfl (lv_at hl 1 rfl) ?_
      have q_98 : (-2147483648) ≤ S.1 231 46 ∧ S.1 231 46 ≤ 2147483647 := hI.fi 46
      have lk_99 : (uF u_89 231 24 5).1 231 46 = S.1 231 46 := (uF_ne (fun h => absurd h.2 (by decide))).trans ((gu_89 46 rfl).trans ((gL41_ 46 rfl).trans ((gu_83 46 rfl).trans (uF_ne (fun h => absurd h.2 (by decide))))))
      have lk_100 : (uF u_89 231 24 5).1 231 24 = 5 := uF_on
      refine sBv (sV (As := []) (rest := []) (k := 231) Cx (q_X12_pointHere l G (uF u_89 231 24 5) (Xt := Xt) (Fm := Fm) (Wd := Wd) (Vt := Vt) (T := T) (kp := kp) (vp := vp) (n := n) (pz := 5) i_97 ((funext fun j => (uF_a).trans (((fu_89 243 rfl).2.1 j).trans (((hL41_ 243 rfl).2.1 j).trans (((fu_83 243 rfl).2.1 j).trans (uF_a)))) : (uF u_89 231 24 5).2.1 243 = S.2.1 243).trans hX) ((funext fun j => (uF_a).trans (((fu_89 245 rfl).2.1 j).trans (((hL41_ 245 rfl).2.1 j).trans (((fu_83 245 rfl).2.1 j).trans (uF_a)))) : (uF u_89 231 24 5).2.1 245 = S.2.1 245).trans hFm) ((funext fun j => (uF_a).trans (((fu_89 246 rfl).2.1 j).trans (((hL41_ 246 rfl).2.1 j).trans (((fu_83 246 rfl).2.1 j).trans (uF_a)))) : (uF u_89 231 24 5).2.1 246 = S.2.1 246).trans hWd) ((funext fun j => (uF_a).trans (((fu_89 247 rfl).2.1 j).trans (((hL41_ 247 rfl).2.1 j).trans (((fu_83 247 rfl).2.1 j).trans (uF_a)))) : (uF u_89 231 24 5).2.1 247 = S.2.1 247).trans hVt) (by omega) (by omega) (by omega) ho2 hQ hKS (by omega)) (c_X12_718 Cx rfl rfl (rmk_ok (by omega) (by decide))) hW (by decide) rfl rfl rfl hl.1 rfl (Nat.le_of_ble_eq_true rfl) dX12_holds_57 ⟨Nat.le_of_ble_eq_true rfl, Nat.le_of_ble_eq_true rfl⟩) hL (fun u_101 H locs k_102 hW hL => ?_)
      obtain ⟨iu_101, fu_101, gu_101, xu_101⟩ := k_102
      have F_103 := F_95.trans (fu_101.to (pl_sub (by decide)))
      have g_104 : FF S u_101 (fl [20, 21, 24, 100]) := FF.trans g_96 (FF.to gu_101 (fl_sub (by decide)))
      have hptu_101 : Hd (PTr u_101 (ptf vp n 4) n) := (by have h := xu_101.2.2; rw [show (5 : Int) - 1 = 4 by omega] at h; exact h)
      have hcuu_101 := xu_101.1
      refine lv_aload_n hx hb dX12_holds_60 rfl (lv_at hl 1 rfl) ?_
      have lk_105 : u_101.1 231 46 = S.1 231 46 := (gu_101 46 rfl).trans ((uF_ne (fun h => absurd h.2 (by decide))).trans ((gu_89 46 rfl).trans ((gL41_ 46 rfl).trans ((gu_83 46 rfl).trans (uF_ne (fun h => absurd h.2 (by decide)))))))
      have q_106 : (-2147483648) ≤ S.1 231 47 ∧ S.1 231 47 ≤ 2147483647 := hI.fi 47
      have lk_107 : u_101.1 231 47 = S.1 231 47 := (gu_101 47 rfl).trans ((uF_ne (fun h => absurd h.2 (by decide))).trans ((gu_89 47 rfl).trans ((gL41_ 47 rfl).trans ((gu_83 47 rfl).trans (uF_ne (fun h => absurd h.2 (by decide)))))))
      refine sBi (sV (As := []) (rest := []) (k := 231) Cx (q_X12_isValue l G u_101 (n := n) (mm := mm) (mx := mx) (A := A) (wh := wh) (pp := (ptf vp n 4)) (vt := (vtf mx (vp 1))) (vb := (vp 3)) iu_101 (by omega) (by omega) xu_101.2.1 ⟨(by rw [show u_101.2.1 286 = S41.2.1 286 from (funext fun j => ((fu_101 286 rfl).2.1 j).trans ((uF_a).trans ((fu_89 286 rfl).2.1 j)))]; exact h41), (by rw [show u_101.2.1 287 = u_89.2.1 287 from (funext fun j => ((fu_101 287 rfl).2.1 j).trans (uF_a))]; exact xu_89.1)⟩ (GM.sm (S := S) (u := u_101) hGM (funext fun j => ((fu_101 260 rfl).2.2.1 j).trans ((uF_l).trans (((fu_89 260 rfl).2.2.1 j).trans (((hL41_ 260 rfl).2.2.1 j).trans (((fu_83 260 rfl).2.2.1 j).trans (uF_l)))))) (funext fun j => ((fu_101 290 rfl).2.2.1 j).trans ((uF_l).trans (((fu_89 290 rfl).2.2.1 j).trans (((hL41_ 290 rfl).2.2.1 j).trans (((fu_83 290 rfl).2.2.1 j).trans (uF_l))))))) (MDr.sm (S := S) (u := u_101) hMR ((gu_101 46 rfl).trans ((uF_ne (fun h => absurd h.2 (by decide))).trans ((gu_89 46 rfl).trans ((gL41_ 46 rfl).trans ((gu_83 46 rfl).trans (uF_ne (fun h => absurd h.2 (by decide)))))))) ((gu_101 47 rfl).trans ((uF_ne (fun h => absurd h.2 (by decide))).trans ((gu_89 47 rfl).trans ((gL41_ 47 rfl).trans ((gu_83 47 rfl).trans (uF_ne (fun h => absurd h.2 (by decide)))))))) ((gu_101 48 rfl).trans ((uF_ne (fun h => absurd h.2 (by decide))).trans ((gu_89 48 rfl).trans ((gL41_ 48 rfl).trans ((gu_83 48 rfl).trans (uF_ne (fun h => absurd h.2 (by decide)))))))) ((gu_101 49 rfl).trans ((uF_ne (fun h => absurd h.2 (by decide))).trans ((gu_89 49 rfl).trans ((gL41_ 49 rfl).trans ((gu_83 49 rfl).trans (uF_ne (fun h => absurd h.2 (by decide)))))))) (funext fun j => ((fu_101 259 rfl).2.1 j).trans ((uF_a).trans (((fu_89 259 rfl).2.1 j).trans (((hL41_ 259 rfl).2.1 j).trans (((fu_83 259 rfl).2.1 j).trans (uF_a)))))) (funext fun j => ((fu_101 260 rfl).2.2.1 j).trans ((uF_l).trans (((fu_89 260 rfl).2.2.1 j).trans (((hL41_ 260 rfl).2.2.1 j).trans (((fu_83 260 rfl).2.2.1 j).trans (uF_l)))))) (funext fun j => ((fu_101 290 rfl).2.2.1 j).trans ((uF_l).trans (((fu_89 290 rfl).2.2.1 j).trans (((hL41_ 290 rfl).2.2.1 j).trans (((fu_83 290 rfl).2.2.1 j).trans (uF_l))))))) hptu_101 ⟨(by rw [show u_101.2.1 286 = S41.2.1 286 from (funext fun j => ((fu_101 286 rfl).2.1 j).trans ((uF_a).trans ((fu_89 286 rfl).2.1 j)))]; exact h41v), (by rw [show u_101.2.1 287 = u_89.2.1 287 from (funext fun j => ((fu_101 287 rfl).2.1 j).trans (uF_a))]; exact xu_89.2.1)⟩) (c_X12_721 Cx rfl rfl (rmk_ok (by omega) (by decide))) hW (by decide) rfl rfl rfl hl.1 rfl (Nat.le_of_ble_eq_true rfl) dX12_holds_61 ⟨Nat.le_of_ble_eq_true rfl, Nat.le_of_ble_eq_true rfl⟩) hL (fun r_110 u_108 H locs k_109 hW hL => ?_)
      obtain ⟨iu_108, fu_108, gu_108, xu_108⟩ := k_109
      have F_111 := F_103.trans (fu_108.to (pl_sub (by decide)))
      have g_112 : FF S u_108 (fl [20, 21, 24, 100]) := FF.trans g_104 (FF.to gu_108 (fl_sub (by decide)))
      have hov := (show _ ↔ _ from xu_108.2)
      have hov : Hd _ := hov
      refine r_if_ne (tgt := 73) hx hb ⟨(by omega), (by omega)⟩ dX12_holds_64 (by decide) (fun c_113 => ?_) (fun c_113 => ?_)
      · refine lv_aload_n hx hb dX12_holds_73 rfl (lv_at hl 1 rfl) ?_
        have q_114 : (-2147483648) ≤ S.1 231 20 ∧ S.1 231 20 ≤ 2147483647 := hI.fi 20
        refine g_X12_270 Cx hW (k := 231) (by decide) rfl (v := S.1 231 20) ((gu_108 20 rfl).trans ((gu_101 20 rfl).trans ((uF_ne (fun h => absurd h.2 (by decide))).trans ((gu_89 20 rfl).trans ((gL41_ 20 rfl).trans ((gu_83 20 rfl).trans (uF_ne (fun h => absurd h.2 (by decide))))))))) dX12_holds_74 ?_
        refine r_if_ne (tgt := 165) hx hb ⟨(by omega), (by omega)⟩ dX12_holds_77 (by decide) (fun c => absurd (by omega) c) (fun _ => ?_)
        refine lv_aload_n hx hb dX12_holds_80 rfl (lv_at hl 1 rfl) ?_
        refine lv_iconst (v := iv 1) hx hb dX12_holds_81 (by decide) ?_
        have lk_115 : u_108.1 231 46 = S.1 231 46 := (gu_108 46 rfl).trans ((gu_101 46 rfl).trans ((uF_ne (fun h => absurd h.2 (by decide))).trans ((gu_89 46 rfl).trans ((gL41_ 46 rfl).trans ((gu_83 46 rfl).trans (uF_ne (fun h => absurd h.2 (by decide))))))))
        have lk_116 : u_108.1 231 47 = S.1 231 47 := (gu_108 47 rfl).trans ((gu_101 47 rfl).trans ((uF_ne (fun h => absurd h.2 (by decide))).trans ((gu_89 47 rfl).trans ((gL41_ 47 rfl).trans ((gu_83 47 rfl).trans (uF_ne (fun h => absurd h.2 (by decide))))))))
        refine sBi (sV (As := [.int (iv 1)]) (rest := []) (k := 231) Cx (q_X12_isPoint l G u_108 (bb := 1) (n := n) (mm := mm) (mx := mx) (A := A) (wh := wh) (pp := (ptf vp n 4)) iu_108 (by omega) (by omega) (by omega) (dPT.sm (S := u_101) (u := u_108) xu_101.2.1 (gu_108 46 rfl) (funext fun j => (fu_108 285 rfl).2.1 j)) (GM.sm (S := S) (u := u_108) hGM (funext fun j => ((fu_108 260 rfl).2.2.1 j).trans (((fu_101 260 rfl).2.2.1 j).trans ((uF_l).trans (((fu_89 260 rfl).2.2.1 j).trans (((hL41_ 260 rfl).2.2.1 j).trans (((fu_83 260 rfl).2.2.1 j).trans (uF_l))))))) (funext fun j => ((fu_108 290 rfl).2.2.1 j).trans (((fu_101 290 rfl).2.2.1 j).trans ((uF_l).trans (((fu_89 290 rfl).2.2.1 j).trans (((hL41_ 290 rfl).2.2.1 j).trans (((fu_83 290 rfl).2.2.1 j).trans (uF_l)))))))) (MDr.sm (S := S) (u := u_108) hMR ((gu_108 46 rfl).trans ((gu_101 46 rfl).trans ((uF_ne (fun h => absurd h.2 (by decide))).trans ((gu_89 46 rfl).trans ((gL41_ 46 rfl).trans ((gu_83 46 rfl).trans (uF_ne (fun h => absurd h.2 (by decide))))))))) ((gu_108 47 rfl).trans ((gu_101 47 rfl).trans ((uF_ne (fun h => absurd h.2 (by decide))).trans ((gu_89 47 rfl).trans ((gL41_ 47 rfl).trans ((gu_83 47 rfl).trans (uF_ne (fun h => absurd h.2 (by decide))))))))) ((gu_108 48 rfl).trans ((gu_101 48 rfl).trans ((uF_ne (fun h => absurd h.2 (by decide))).trans ((gu_89 48 rfl).trans ((gL41_ 48 rfl).trans ((gu_83 48 rfl).trans (uF_ne (fun h => absurd h.2 (by decide))))))))) ((gu_108 49 rfl).trans ((gu_101 49 rfl).trans ((uF_ne (fun h => absurd h.2 (by decide))).trans ((gu_89 49 rfl).trans ((gL41_ 49 rfl).trans ((gu_83 49 rfl).trans (uF_ne (fun h => absurd h.2 (by decide))))))))) (funext fun j => ((fu_108 259 rfl).2.1 j).trans (((fu_101 259 rfl).2.1 j).trans ((uF_a).trans (((fu_89 259 rfl).2.1 j).trans (((hL41_ 259 rfl).2.1 j).trans (((fu_83 259 rfl).2.1 j).trans (uF_a))))))) (funext fun j => ((fu_108 260 rfl).2.2.1 j).trans (((fu_101 260 rfl).2.2.1 j).trans ((uF_l).trans (((fu_89 260 rfl).2.2.1 j).trans (((hL41_ 260 rfl).2.2.1 j).trans (((fu_83 260 rfl).2.2.1 j).trans (uF_l))))))) (funext fun j => ((fu_108 290 rfl).2.2.1 j).trans (((fu_101 290 rfl).2.2.1 j).trans ((uF_l).trans (((fu_89 290 rfl).2.2.1 j).trans (((hL41_ 290 rfl).2.2.1 j).trans (((fu_83 290 rfl).2.2.1 j).trans (uF_l)))))))) (PTr.sm (S := u_101) (u := u_108) hptu_101 (funext fun j => (fu_108 285 rfl).2.1 j))) (c_X12_724 Cx rfl rfl (rmk_ok (by omega) (by decide))) hW (by decide) rfl rfl rfl hl.1 rfl (Nat.le_of_ble_eq_true rfl) dX12_holds_82 ⟨Nat.le_of_ble_eq_true rfl, Nat.le_of_ble_eq_true rfl⟩) hL (fun r_119 u_117 H locs k_118 hW hL => ?_)
        obtain ⟨iu_117, fu_117, gu_117, xu_117⟩ := k_118
        have F_120 := F_111.trans (fu_117.to (pl_sub (by decide)))
        have g_121 : FF S u_117 (fl [20, 21, 24, 100]) := FF.trans g_112 (FF.to gu_117 (fl_sub (by decide)))
        have hop := (show _ ↔ _ from xu_117.2)
        have hop : Hd _ := hop
        refine r_if_ne (tgt := 165) hx hb ⟨(by omega), (by omega)⟩ dX12_holds_85 (by decide) (fun c_122 => ?_) (fun c_122 => ?_)
        · refine lv_aload_n hx hb dX12_holds_165 rfl (lv_at hl 1 rfl) ?_
          refine g_X12_270 Cx hW (k := 231) (by decide) rfl (v := S.1 231 20) ((gu_117 20 rfl).trans ((gu_108 20 rfl).trans ((gu_101 20 rfl).trans ((uF_ne (fun h => absurd h.2 (by decide))).trans ((gu_89 20 rfl).trans ((gL41_ 20 rfl).trans ((gu_83 20 rfl).trans (uF_ne (fun h => absurd h.2 (by decide)))))))))) dX12_holds_166 ?_
          refine r_if_ne (tgt := 185) hx hb ⟨(by omega), (by omega)⟩ dX12_holds_169 (by decide) (fun c => absurd (by omega) c) (fun _ => ?_)
          refine lv_aload_n hx hb dX12_holds_172 rfl (lv_at hl 1 rfl) ?_
          refine lv_iload_n hx hb dX12_holds_173 rfl (lv_at hl 0 rfl) ?_
          refine r_if_ne (tgt := 181) hx hb ⟨(by omega), (by omega)⟩ dX12_holds_174 (by decide) (fun c => absurd (by omega) c) (fun _ => ?_)
          refine lv_iconst (v := iv 1) hx hb dX12_holds_177 (by decide) ?_
          refine lv_goto (tgt := 182) hx hb dX12_holds_178 (by decide) ?_
          have lk_123 : u_117.1 231 46 = S.1 231 46 := (gu_117 46 rfl).trans ((gu_108 46 rfl).trans ((gu_101 46 rfl).trans ((uF_ne (fun h => absurd h.2 (by decide))).trans ((gu_89 46 rfl).trans ((gL41_ 46 rfl).trans ((gu_83 46 rfl).trans (uF_ne (fun h => absurd h.2 (by decide)))))))))
          have lk_124 : u_117.1 231 47 = S.1 231 47 := (gu_117 47 rfl).trans ((gu_108 47 rfl).trans ((gu_101 47 rfl).trans ((uF_ne (fun h => absurd h.2 (by decide))).trans ((gu_89 47 rfl).trans ((gL41_ 47 rfl).trans ((gu_83 47 rfl).trans (uF_ne (fun h => absurd h.2 (by decide)))))))))
          have q_125 : (-2147483648) ≤ u_101.1 231 24 ∧ u_101.1 231 24 ≤ 2147483647 := iu_101.fi 24
          have lk_126 : u_117.1 231 24 = u_101.1 231 24 := (gu_117 24 rfl).trans (gu_108 24 rfl)
          have lk_127 : u_117.1 231 20 = S.1 231 20 := (gu_117 20 rfl).trans ((gu_108 20 rfl).trans ((gu_101 20 rfl).trans ((uF_ne (fun h => absurd h.2 (by decide))).trans ((gu_89 20 rfl).trans ((gL41_ 20 rfl).trans ((gu_83 20 rfl).trans (uF_ne (fun h => absurd h.2 (by decide)))))))))
          refine sBv (sV (As := [.int (iv 1)]) (rest := []) (k := 231) Cx (q_X12_trees l G u_117 (bb := 1) (Xt := Xt) (Fm := Fm) (Wd := Wd) (Vt := Vt) (T := T) (kp := kp) (vp := vp) (K := K) (n := n) (mm := mm) (mx := mx) (A := A) (wh := wh) (vt := (vtf mx (vp 1))) (vb := (vp 3)) (pz := u_101.1 231 24) iu_117 ((funext fun j => ((fu_117 244 rfl).2.1 j).trans (((fu_108 244 rfl).2.1 j).trans (((fu_101 244 rfl).2.1 j).trans ((uF_a).trans (((fu_89 244 rfl).2.1 j).trans (((hL41_ 244 rfl).2.1 j).trans (((fu_83 244 rfl).2.1 j).trans (uF_a))))))) : u_117.2.1 244 = S.2.1 244).trans hK) ((funext fun j => ((fu_117 243 rfl).2.1 j).trans (((fu_108 243 rfl).2.1 j).trans (((fu_101 243 rfl).2.1 j).trans ((uF_a).trans (((fu_89 243 rfl).2.1 j).trans (((hL41_ 243 rfl).2.1 j).trans (((fu_83 243 rfl).2.1 j).trans (uF_a))))))) : u_117.2.1 243 = S.2.1 243).trans hX) ((funext fun j => ((fu_117 245 rfl).2.1 j).trans (((fu_108 245 rfl).2.1 j).trans (((fu_101 245 rfl).2.1 j).trans ((uF_a).trans (((fu_89 245 rfl).2.1 j).trans (((hL41_ 245 rfl).2.1 j).trans (((fu_83 245 rfl).2.1 j).trans (uF_a))))))) : u_117.2.1 245 = S.2.1 245).trans hFm) ((funext fun j => ((fu_117 246 rfl).2.1 j).trans (((fu_108 246 rfl).2.1 j).trans (((fu_101 246 rfl).2.1 j).trans ((uF_a).trans (((fu_89 246 rfl).2.1 j).trans (((hL41_ 246 rfl).2.1 j).trans (((fu_83 246 rfl).2.1 j).trans (uF_a))))))) : u_117.2.1 246 = S.2.1 246).trans hWd) ((funext fun j => ((fu_117 247 rfl).2.1 j).trans (((fu_108 247 rfl).2.1 j).trans (((fu_101 247 rfl).2.1 j).trans ((uF_a).trans (((fu_89 247 rfl).2.1 j).trans (((hL41_ 247 rfl).2.1 j).trans (((fu_83 247 rfl).2.1 j).trans (uF_a))))))) : u_117.2.1 247 = S.2.1 247).trans hVt) hQ hKS hkr hKT (by omega) (by omega) (by omega) (dHA.sm (S := S) (u := u_117) hHA (funext fun j => ((fu_117 283 rfl).2.1 j).trans (((fu_108 283 rfl).2.1 j).trans (((fu_101 283 rfl).2.1 j).trans ((uF_a).trans (((fu_89 283 rfl).2.1 j).trans (((hL41_ 283 rfl).2.1 j).trans (((fu_83 283 rfl).2.1 j).trans (uF_a))))))))) ⟨(by rw [show u_117.2.1 286 = S41.2.1 286 from (funext fun j => ((fu_117 286 rfl).2.1 j).trans (((fu_108 286 rfl).2.1 j).trans (((fu_101 286 rfl).2.1 j).trans ((uF_a).trans ((fu_89 286 rfl).2.1 j)))))]; exact h41), (by rw [show u_117.2.1 287 = u_89.2.1 287 from (funext fun j => ((fu_117 287 rfl).2.1 j).trans (((fu_108 287 rfl).2.1 j).trans (((fu_101 287 rfl).2.1 j).trans (uF_a))))]; exact xu_89.1)⟩ (GM.sm (S := S) (u := u_117) hGM (funext fun j => ((fu_117 260 rfl).2.2.1 j).trans (((fu_108 260 rfl).2.2.1 j).trans (((fu_101 260 rfl).2.2.1 j).trans ((uF_l).trans (((fu_89 260 rfl).2.2.1 j).trans (((hL41_ 260 rfl).2.2.1 j).trans (((fu_83 260 rfl).2.2.1 j).trans (uF_l)))))))) (funext fun j => ((fu_117 290 rfl).2.2.1 j).trans (((fu_108 290 rfl).2.2.1 j).trans (((fu_101 290 rfl).2.2.1 j).trans ((uF_l).trans (((fu_89 290 rfl).2.2.1 j).trans (((hL41_ 290 rfl).2.2.1 j).trans (((fu_83 290 rfl).2.2.1 j).trans (uF_l))))))))) (MD.sm (S := S) (u := u_117) hMD ((gu_117 46 rfl).trans ((gu_108 46 rfl).trans ((gu_101 46 rfl).trans ((uF_ne (fun h => absurd h.2 (by decide))).trans ((gu_89 46 rfl).trans ((gL41_ 46 rfl).trans ((gu_83 46 rfl).trans (uF_ne (fun h => absurd h.2 (by decide)))))))))) ((gu_117 47 rfl).trans ((gu_108 47 rfl).trans ((gu_101 47 rfl).trans ((uF_ne (fun h => absurd h.2 (by decide))).trans ((gu_89 47 rfl).trans ((gL41_ 47 rfl).trans ((gu_83 47 rfl).trans (uF_ne (fun h => absurd h.2 (by decide)))))))))) ((gu_117 63 rfl).trans ((gu_108 63 rfl).trans ((gu_101 63 rfl).trans ((uF_ne (fun h => absurd h.2 (by decide))).trans ((gu_89 63 rfl).trans ((gL41_ 63 rfl).trans ((gu_83 63 rfl).trans (uF_ne (fun h => absurd h.2 (by decide))))))))))) (MDr.sm (S := S) (u := u_117) hMR ((gu_117 46 rfl).trans ((gu_108 46 rfl).trans ((gu_101 46 rfl).trans ((uF_ne (fun h => absurd h.2 (by decide))).trans ((gu_89 46 rfl).trans ((gL41_ 46 rfl).trans ((gu_83 46 rfl).trans (uF_ne (fun h => absurd h.2 (by decide)))))))))) ((gu_117 47 rfl).trans ((gu_108 47 rfl).trans ((gu_101 47 rfl).trans ((uF_ne (fun h => absurd h.2 (by decide))).trans ((gu_89 47 rfl).trans ((gL41_ 47 rfl).trans ((gu_83 47 rfl).trans (uF_ne (fun h => absurd h.2 (by decide)))))))))) ((gu_117 48 rfl).trans ((gu_108 48 rfl).trans ((gu_101 48 rfl).trans ((uF_ne (fun h => absurd h.2 (by decide))).trans ((gu_89 48 rfl).trans ((gL41_ 48 rfl).trans ((gu_83 48 rfl).trans (uF_ne (fun h => absurd h.2 (by decide)))))))))) ((gu_117 49 rfl).trans ((gu_108 49 rfl).trans ((gu_101 49 rfl).trans ((uF_ne (fun h => absurd h.2 (by decide))).trans ((gu_89 49 rfl).trans ((gL41_ 49 rfl).trans ((gu_83 49 rfl).trans (uF_ne (fun h => absurd h.2 (by decide)))))))))) (funext fun j => ((fu_117 259 rfl).2.1 j).trans (((fu_108 259 rfl).2.1 j).trans (((fu_101 259 rfl).2.1 j).trans ((uF_a).trans (((fu_89 259 rfl).2.1 j).trans (((hL41_ 259 rfl).2.1 j).trans (((fu_83 259 rfl).2.1 j).trans (uF_a)))))))) (funext fun j => ((fu_117 260 rfl).2.2.1 j).trans (((fu_108 260 rfl).2.2.1 j).trans (((fu_101 260 rfl).2.2.1 j).trans ((uF_l).trans (((fu_89 260 rfl).2.2.1 j).trans (((hL41_ 260 rfl).2.2.1 j).trans (((fu_83 260 rfl).2.2.1 j).trans (uF_l)))))))) (funext fun j => ((fu_117 290 rfl).2.2.1 j).trans (((fu_108 290 rfl).2.2.1 j).trans (((fu_101 290 rfl).2.2.1 j).trans ((uF_l).trans (((fu_89 290 rfl).2.2.1 j).trans (((hL41_ 290 rfl).2.2.1 j).trans (((fu_83 290 rfl).2.2.1 j).trans (uF_l))))))))) ⟨(by rw [show u_117.2.1 286 = S41.2.1 286 from (funext fun j => ((fu_117 286 rfl).2.1 j).trans (((fu_108 286 rfl).2.1 j).trans (((fu_101 286 rfl).2.1 j).trans ((uF_a).trans ((fu_89 286 rfl).2.1 j)))))]; exact h41v), (by rw [show u_117.2.1 287 = u_89.2.1 287 from (funext fun j => ((fu_117 287 rfl).2.1 j).trans (((fu_108 287 rfl).2.1 j).trans (((fu_101 287 rfl).2.1 j).trans (uF_a))))]; exact xu_89.2.1)⟩ (by omega) (by omega) (by rw [show u_101.1 231 24 = n + 7 by omega]; exact ho3) (by omega) (by omega)) (c_X12_731 Cx rfl rfl (rmk_ok (by omega) (by decide))) hW (by decide) rfl rfl rfl hl.1 rfl (Nat.le_of_ble_eq_true rfl) dX12_holds_182 ⟨Nat.le_of_ble_eq_true rfl, Nat.le_of_ble_eq_true rfl⟩) hL (fun u_128 H locs k_129 hW hL => ?_)
          obtain ⟨iu_128, fu_128, gu_128, xu_128⟩ := k_129
          have F_130 := F_120.trans (fu_128.to (pl_sub (by decide)))
          have g_131 : FF S u_128 (fl [20, 21, 24, 100]) := FF.trans g_121 (FF.to gu_128 (fl_sub (by decide)))
          have q_132 : (-2147483648) ≤ u_128.1 231 20 ∧ u_128.1 231 20 ≤ 2147483647 := iu_128.fi 20
          exact sVret Cx hr hlk hW hL ⟨iu_128, F_130, g_131, ⟨xu_128.1, ⟨(by rw [show u_128.2.1 286 = S41.2.1 286 from (funext fun j => ((fu_128 286 rfl).2.1 j).trans (((fu_117 286 rfl).2.1 j).trans (((fu_108 286 rfl).2.1 j).trans (((fu_101 286 rfl).2.1 j).trans ((uF_a).trans ((fu_89 286 rfl).2.1 j))))))]; exact h41), (by rw [show u_128.2.1 287 = u_89.2.1 287 from (funext fun j => ((fu_128 287 rfl).2.1 j).trans (((fu_117 287 rfl).2.1 j).trans (((fu_108 287 rfl).2.1 j).trans (((fu_101 287 rfl).2.1 j).trans (uF_a)))))]; exact xu_89.1)⟩, (show HOLD _ _ _ _ _ _ _ _ from (⟨fun z => absurd hP z, fun _ => ⟨fun z => absurd z (by omega), fun _ => ⟨fun z => absurd (hov.mp (by omega)) z, fun _ => ⟨fun z => absurd (hop.mp (by omega)) z, fun _ => HT.cg xu_128.2 (by omega) rfl⟩⟩, fun z => absurd z (by omega)⟩⟩))⟩⟩ dX12_holds_185
        · refine lv_aload_n hx hb dX12_holds_88 rfl (lv_at hl 1 rfl) ?_
          refine lv_iconst (v := iv 2) hx hb dX12_holds_89 (by decide) ?_
          refine lv_iconst (v := iv 4) hx hb dX12_holds_90 (by decide) ?_
          have lk_133 : u_117.1 231 20 = S.1 231 20 := (gu_117 20 rfl).trans ((gu_108 20 rfl).trans ((gu_101 20 rfl).trans ((uF_ne (fun h => absurd h.2 (by decide))).trans ((gu_89 20 rfl).trans ((gL41_ 20 rfl).trans ((gu_83 20 rfl).trans (uF_ne (fun h => absurd h.2 (by decide)))))))))
          refine sBv (sV (As := [.int (iv 2), .int (iv 4)]) (rest := []) (k := 231) Cx (q_X12_wrong l G u_117 (cd := 2) (tk := 4) iu_117 (by omega) (by omega)) (c_X12_321 Cx rfl rfl (rmk_ok (by omega) (by decide))) hW (by decide) rfl rfl rfl hl.1 rfl (Nat.le_of_ble_eq_true rfl) dX12_holds_91 ⟨Nat.le_of_ble_eq_true rfl, Nat.le_of_ble_eq_true rfl⟩) hL (fun u_134 H locs k_135 hW hL => ?_)
          obtain ⟨iu_134, fu_134, gu_134, xu_134⟩ := k_135
          have F_136 := F_120.trans (fu_134.to (pl_sub (by decide)))
          have g_137 : FF S u_134 (fl [20, 21, 24, 100]) := FF.trans g_121 (FF.to gu_134 (fl_sub (by decide)))
          refine lv_goto (tgt := 165) hx hb dX12_holds_94 (by decide) ?_
          refine lv_aload_n hx hb dX12_holds_165 rfl (lv_at hl 1 rfl) ?_
          have q_138 : (-2147483648) ≤ u_134.1 231 20 ∧ u_134.1 231 20 ≤ 2147483647 := iu_134.fi 20
          refine g_X12_270 Cx hW (k := 231) (by decide) rfl (v := u_134.1 231 20) rfl dX12_holds_166 ?_
          refine r_if_ne (tgt := 185) hx hb ⟨(by omega), (by omega)⟩ dX12_holds_169 (by decide) (fun _ => ?_) (fun c => absurd c (by omega))
          exact sVret Cx hr hlk hW hL ⟨iu_134, F_136, g_137, ⟨(dHA.sm (S := S) (u := u_134) hHA (funext fun j => ((fu_134 283 rfl).2.1 j).trans (((fu_117 283 rfl).2.1 j).trans (((fu_108 283 rfl).2.1 j).trans (((fu_101 283 rfl).2.1 j).trans ((uF_a).trans (((fu_89 283 rfl).2.1 j).trans (((hL41_ 283 rfl).2.1 j).trans (((fu_83 283 rfl).2.1 j).trans (uF_a)))))))))), ⟨(by rw [show u_134.2.1 286 = S41.2.1 286 from (funext fun j => ((fu_134 286 rfl).2.1 j).trans (((fu_117 286 rfl).2.1 j).trans (((fu_108 286 rfl).2.1 j).trans (((fu_101 286 rfl).2.1 j).trans ((uF_a).trans ((fu_89 286 rfl).2.1 j))))))]; exact h41), (by rw [show u_134.2.1 287 = u_89.2.1 287 from (funext fun j => ((fu_134 287 rfl).2.1 j).trans (((fu_117 287 rfl).2.1 j).trans (((fu_108 287 rfl).2.1 j).trans (((fu_101 287 rfl).2.1 j).trans (uF_a)))))]; exact xu_89.1)⟩, (show HOLD _ _ _ _ _ _ _ _ from (by rw [(show u_134.1 231 20 = 2 by have y := (show u_134.1 231 20 = u_134.1 231 20 from rfl); have y2 := xu_134.1; omega)]; exact ⟨fun z => absurd hP z, fun _ => ⟨fun z => absurd z (by omega), fun _ => ⟨fun z => absurd (hov.mp (by omega)) z, fun _ => ⟨fun _ => rfl, fun z => absurd (hop.mpr z) (by omega)⟩⟩, fun z => absurd z (by omega)⟩⟩))⟩⟩ dX12_holds_185
      · refine lv_aload_n hx hb dX12_holds_67 rfl (lv_at hl 1 rfl) ?_
        refine lv_iconst (v := iv 3) hx hb dX12_holds_68 (by decide) ?_
        refine lv_iconst (v := iv 0) hx hb dX12_holds_69 (by decide) ?_
        have q_139 : (-2147483648) ≤ S.1 231 20 ∧ S.1 231 20 ≤ 2147483647 := hI.fi 20
        have lk_140 : u_108.1 231 20 = S.1 231 20 := (gu_108 20 rfl).trans ((gu_101 20 rfl).trans ((uF_ne (fun h => absurd h.2 (by decide))).trans ((gu_89 20 rfl).trans ((gL41_ 20 rfl).trans ((gu_83 20 rfl).trans (uF_ne (fun h => absurd h.2 (by decide))))))))
        refine sBv (sV (As := [.int (iv 3), .int (iv 0)]) (rest := []) (k := 231) Cx (q_X12_wrong l G u_108 (cd := 3) (tk := 0) iu_108 (by omega) (by omega)) (c_X12_321 Cx rfl rfl (rmk_ok (by omega) (by decide))) hW (by decide) rfl rfl rfl hl.1 rfl (Nat.le_of_ble_eq_true rfl) dX12_holds_70 ⟨Nat.le_of_ble_eq_true rfl, Nat.le_of_ble_eq_true rfl⟩) hL (fun u_141 H locs k_142 hW hL => ?_)
        obtain ⟨iu_141, fu_141, gu_141, xu_141⟩ := k_142
        have F_143 := F_111.trans (fu_141.to (pl_sub (by decide)))
        have g_144 : FF S u_141 (fl [20, 21, 24, 100]) := FF.trans g_112 (FF.to gu_141 (fl_sub (by decide)))
        refine lv_aload_n hx hb dX12_holds_73 rfl (lv_at hl 1 rfl) ?_
        have q_145 : (-2147483648) ≤ u_141.1 231 20 ∧ u_141.1 231 20 ≤ 2147483647 := iu_141.fi 20
        refine g_X12_270 Cx hW (k := 231) (by decide) rfl (v := u_141.1 231 20) rfl dX12_holds_74 ?_
        refine r_if_ne (tgt := 165) hx hb ⟨(by omega), (by omega)⟩ dX12_holds_77 (by decide) (fun _ => ?_) (fun c => absurd c (by omega))
        refine lv_aload_n hx hb dX12_holds_165 rfl (lv_at hl 1 rfl) ?_
        refine g_X12_270 Cx hW (k := 231) (by decide) rfl (v := u_141.1 231 20) rfl dX12_holds_166 ?_
        refine r_if_ne (tgt := 185) hx hb ⟨(by omega), (by omega)⟩ dX12_holds_169 (by decide) (fun _ => ?_) (fun c => absurd c (by omega))
        exact sVret Cx hr hlk hW hL ⟨iu_141, F_143, g_144, ⟨(dHA.sm (S := S) (u := u_141) hHA (funext fun j => ((fu_141 283 rfl).2.1 j).trans (((fu_108 283 rfl).2.1 j).trans (((fu_101 283 rfl).2.1 j).trans ((uF_a).trans (((fu_89 283 rfl).2.1 j).trans (((hL41_ 283 rfl).2.1 j).trans (((fu_83 283 rfl).2.1 j).trans (uF_a))))))))), ⟨(by rw [show u_141.2.1 286 = S41.2.1 286 from (funext fun j => ((fu_141 286 rfl).2.1 j).trans (((fu_108 286 rfl).2.1 j).trans (((fu_101 286 rfl).2.1 j).trans ((uF_a).trans ((fu_89 286 rfl).2.1 j)))))]; exact h41), (by rw [show u_141.2.1 287 = u_89.2.1 287 from (funext fun j => ((fu_141 287 rfl).2.1 j).trans (((fu_108 287 rfl).2.1 j).trans (((fu_101 287 rfl).2.1 j).trans (uF_a))))]; exact xu_89.1)⟩, (show HOLD _ _ _ _ _ _ _ _ from (by rw [(show u_141.1 231 20 = 3 by have y := (show u_141.1 231 20 = u_141.1 231 20 from rfl); have y2 := xu_141.1; omega)]; exact ⟨fun z => absurd hP z, fun _ => ⟨fun z => absurd z (by omega), fun _ => ⟨fun _ => rfl, fun z => absurd (hov.mpr z) (by omega)⟩, fun z => absurd z (by omega)⟩⟩))⟩⟩ dX12_holds_185
    refine lv_aload_n hx hb dX12_holds_26 rfl (lv_at hl 1 rfl) ?_
    have q_146 : 0 ≤ S.1 231 49 ∧ S.1 231 49 ≤ 1 := hI.fi 49
    refine g_X12_474 Cx hW (k := 231) (by decide) rfl (v := S.1 231 49) ((gu_83 49 rfl).trans (uF_ne (fun h => absurd h.2 (by decide)))) dX12_holds_27 ?_
    refine r_if_ne (tgt := 41) hx hb ⟨(by omega), (by omega)⟩ dX12_holds_30 (by decide) (fun c_147 => ?_) (fun c_147 => ?_)
    · exact join_41 u_83  _ _ _ iu_83 F_85 (Fr.rf : Fr u_83 u_83 (pl [286])) g_86 (FF.rf : FF u_83 u_83 (fl [])) xu_83.1 (show nv (u_83.2.1 286) 0 = vtf mx (vp 1) by rw [(show nv (u_83.2.1 286) 0 = vp (1) from nv_87)]; unfold vtf; first | rw [if_pos (by omega)] | rw [if_neg (by omega)]) hW hL (lv_sub hl [0, 1] rfl)
    · refine lv_aload_n hx hb dX12_holds_33 rfl (lv_at hl 1 rfl) ?_
      refine g_X12_178 Cx hW (k := 231) (by decide) rfl (v := .ref (G.2.2.1 + 286)) (rd_96 iu_83) dX12_holds_34 ?_
      refine lv_iconst (v := iv 0) hx hb dX12_holds_37 (by decide) ?_
      refine sBv (sSt (As := [.ref (G.2.2.1 + 286), .int (iv 0)]) (rest := []) Cx (s_X12_negate l G u_83 (ka := 286) (po := 0) (Nka := 10) (La := 7) iu_83 ⟨rfl, by decide, by decide, by decide, rfl⟩ (by omega) xu_83.1) (c_X12_540 Cx rfl rfl (rmk_ok (by omega) (by decide))) hW rfl hl.1 rfl (Nat.le_of_ble_eq_true rfl) dX12_holds_38 ⟨Nat.le_of_ble_eq_true rfl, Nat.le_of_ble_eq_true rfl⟩) hL (fun u_148 H locs k_149 hW hL => ?_)
      obtain ⟨iu_148, fu_148, xu_148⟩ := k_149
      have F_150 := F_85.trans (fu_148.to (p1_sub rfl))
      have F_151 := (Fr.rf : Fr u_83 u_83 (pl [286])).trans (fu_148.to (p1_sub rfl))
      have g_152 : FF S u_148 (fl [20, 21, 24, 100]) := FF.fr g_86 fu_148 rfl
      have g_153 : FF u_83 u_148 (fl []) := FF.fr (FF.rf : FF u_83 u_83 (fl [])) fu_148 rfl
      have nv_154 : nv (u_148.2.1 286) 0 = -(vp (1)) := (by rw [xu_148.2.1, (show nv (u_83.2.1 286) 0 = vp (1) from nv_87)])
      exact join_41 u_148  _ _ _ iu_148 F_150 F_151 g_152 g_153 xu_148.1 (show nv (u_148.2.1 286) 0 = vtf mx (vp 1) by rw [(show nv (u_148.2.1 286) 0 = -(vp (1)) from nv_154)]; unfold vtf; first | rw [if_pos (by omega)] | rw [if_neg (by omega)]) hW hL (lv_sub hl [0, 1] rfl)

set_option maxRecDepth 100000 in
set_option maxHeartbeats 4000000 in
theorem q_X12_check (l : Launch) (G : sG) (S : sS)  {n mm mx : Int} {A : Int → Int → Int} {wh : Int → Int} (hI : dX G S) (hXI : XI S) (htp : 0 ≤ S.1 231 1 ∧ S.1 231 1 ≤ 30000) (hHA : dHA S) (hUP0 : dUP S) (hM0 : Hd (S.1 231 45 ≠ 0 → MDr S n mm mx A wh ∧ wct wh n.toNat ≤ n)) : Met l yX12_check (.code yX12_check cX12_check 2 (some .int) :: tb) (rmk 9 0 0) (sPc G 294 S [.ref (G.2.2.1 + 231)]) (sQi G 294 (fun r u => dX G u ∧ Fr S u (pl [231, 233, 234, 235, 237, 238, 240, 243, 244, 245, 246, 247, 277, 283, 284, 285, 286, 287, 288, 289, 291, 292, 293]) ∧ FF S u (fl [1, 14, 19, 20, 21, 22, 23, 24, 100]) ∧ (XI u ∧ dHA u ∧ dUP u ∧ u.1 231 1 = 0 ∧ Hd (S.1 231 45 = 0 → r = -1) ∧ Hd (S.1 231 45 ≠ 0 → HOLDB n mm mx A wh (S.2.1 232) (S.1 231 1) r)))) 0 0 (sF G) := by
  refine sEnter (by decide) (Nat.le_of_ble_eq_true rfl) ?_
  intro p e s m args below meth c Cx hr hlk hnm hW ls hl
  have Cx : sC G p m c cX12_check 2 s args RX12 := Cx
  obtain ⟨hx, hb, hml, hown, hts⟩ := id Cx.1
  have hL : sL G [] := sL_nil
  have hl : lv_has ls 2 [(0, .ref (G.2.2.1 + 231))] := hl
  have hW0 := hW
  obtain ⟨pz, hpz⟩ : ∃ pz : Int, S.1 231 24 = pz := ⟨_, rfl⟩
  have hm1 := hXI.1.1
  unfold MD at hm1
  refine lv_aload_n hx hb dX12_check_0 rfl (lv_at hl 0 rfl) ?_
  refine lv_aload_n hx hb dX12_check_1 rfl (lv_at hl 0 rfl) ?_
  have q_1 : (-2147483648) ≤ S.1 231 1 ∧ S.1 231 1 ≤ 2147483647 := hI.fi 1
  refine g_X12_202 Cx hW (k := 231) (by decide) rfl (v := S.1 231 1) rfl dX12_check_2 ?_
  refine p_X12_276 Cx hW hL (k := 231) (by decide) rfl dX12_check_5 (fun H locs hW hL => ?_)
  have F_2 : Fr S (uF S 231 14 (S.1 231 1)) (pl [231, 233, 234, 235, 237, 238, 240, 243, 244, 245, 246, 247, 277, 283, 284, 285, 286, 287, 288, 289, 291, 292, 293]) := (Fr.rf : Fr S S (pl [231, 233, 234, 235, 237, 238, 240, 243, 244, 245, 246, 247, 277, 283, 284, 285, 286, 287, 288, 289, 291, 292, 293])).F rfl
  have g_3 : FF S (uF S 231 14 (S.1 231 1)) (fl [1, 14, 19, 20, 21, 22, 23, 24, 100]) := FF.F FF.rf rfl
  have i_4 : dX G (uF S 231 14 (S.1 231 1)) := hI.F (i := 14) (show (-2147483648) ≤ S.1 231 1 ∧ S.1 231 1 ≤ 2147483647 from ⟨by omega, by omega⟩)
  refine lv_aload_n hx hb dX12_check_8 rfl (lv_at hl 0 rfl) ?_
  refine lv_iconst (v := iv 0) hx hb dX12_check_9 (by decide) ?_
  refine p_X12_202 Cx hW hL (k := 231) (by decide) rfl dX12_check_10 (fun H locs hW hL => ?_)
  have F_5 : Fr S (uF (uF S 231 14 (S.1 231 1)) 231 1 0) (pl [231, 233, 234, 235, 237, 238, 240, 243, 244, 245, 246, 247, 277, 283, 284, 285, 286, 287, 288, 289, 291, 292, 293]) := F_2.F rfl
  have g_6 : FF S (uF (uF S 231 14 (S.1 231 1)) 231 1 0) (fl [1, 14, 19, 20, 21, 22, 23, 24, 100]) := FF.F g_3 rfl
  have i_7 : dX G (uF (uF S 231 14 (S.1 231 1)) 231 1 0) := i_4.F (i := 1) (show (-2147483648) ≤ 0 ∧ 0 ≤ 2147483647 from ⟨by omega, by omega⟩)
  refine lv_aload_n hx hb dX12_check_13 rfl (lv_at hl 0 rfl) ?_
  have q_8 : 0 ≤ S.1 231 45 ∧ S.1 231 45 ≤ 1 := hI.fi 45
  refine g_X12_462 Cx hW (k := 231) (by decide) rfl (v := S.1 231 45) ((uF_ne (fun h => absurd h.2 (by decide))).trans (uF_ne (fun h => absurd h.2 (by decide)))) dX12_check_14 ?_
  refine r_if_ne (tgt := 22) hx hb ⟨(by omega), (by omega)⟩ dX12_check_17 (by decide) (fun c_9 => ?_) (fun c_9 => ?_)
  · have hMR : Hd (MDr S n mm mx A wh) := (hM0 (by omega)).1; have hwn := (hM0 (by omega)).2
    have hMn := hMR.1; have hMm := hMR.2.1
    refine lv_iconst (v := iv 0) hx hb dX12_check_22 (by decide) ?_
    refine lv_istore_n (lv' := [(1, .int (iv 0)), (0, .ref (G.2.2.1 + 231))]) hx hb dX12_check_23 rfl hl (by decide) rfl (fun ls hl => ?_)
    have loop_24 : ∀ (fuel : Nat) (S24 : sS) (k : Int) (H : Heap) (locs : List Loc) (ls : Array Slot), (S.1 231 1 - k).toNat < fuel → (dX G S24) → (Fr S S24 (pl [231, 233, 234, 235, 237, 238, 240, 243, 244, 245, 246, 247, 277, 283, 284, 285, 286, 287, 288, 289, 291, 292, 293])) → (Fr ((uF (uF S 231 14 (S.1 231 1)) 231 1 0)) S24 (pl [243])) → (FF S S24 (fl [1, 14, 19, 20, 21, 22, 23, 24, 100])) → (FF ((uF (uF S 231 14 (S.1 231 1)) 231 1 0)) S24 (fl [])) → (0 ≤ k ∧ k ≤ S.1 231 1) → (Hd (∀ x, 0 ≤ x → x < k → S24.2.1 243 x = S.2.1 232 x)) → sW G 294 S24 H → sL G locs → lv_has ls 2 [(1, .int (iv k)), (0, .ref (G.2.2.1 + 231))] → W p l e (rmk 9 0 0) s m args below meth c H locs 0 0 (MQ below (sQi G 294 (fun r u => dX G u ∧ Fr S u (pl [231, 233, 234, 235, 237, 238, 240, 243, 244, 245, 246, 247, 277, 283, 284, 285, 286, 287, 288, 289, 291, 292, 293]) ∧ FF S u (fl [1, 14, 19, 20, 21, 22, 23, 24, 100]) ∧ (XI u ∧ dHA u ∧ dUP u ∧ u.1 231 1 = 0 ∧ Hd (S.1 231 45 = 0 → r = -1) ∧ Hd (S.1 231 45 ≠ 0 → HOLDB n mm mx A wh (S.2.1 232) (S.1 231 1) r)))) args s 0 0 (sF G)) (F0 m 24 ls []) := by
      intro fuel
      induction fuel with
      | zero => intro S24 k H locs ls hmeas hI24 hFm24 hL24_ hGm24 gL24_ hk hcp hW hL hl; exact absurd hmeas (Nat.not_lt_zero _)
      | succ fuel ih_24 =>
        intro S24 k H locs ls hmeas hI24 hFm24 hL24_ hGm24 gL24_ hk hcp hW hL hl
        refine lv_iload_n hx hb dX12_check_24 rfl (lv_at hl 0 rfl) ?_
        refine lv_aload_n hx hb dX12_check_25 rfl (lv_at hl 1 rfl) ?_
        refine g_X12_276 Cx hW (k := 231) (by decide) rfl (v := S.1 231 1) ((gL24_ 14 rfl).trans ((uF_ne (fun h => absurd h.2 (by decide))).trans (uF_on))) dX12_check_26 ?_
        refine r_icmp_ge (tgt := 50) hx hb ⟨(by omega), (by omega)⟩ ⟨(by omega), (by omega)⟩ dX12_check_29 (by decide) (fun c_10 => ?_) (fun c_10 => ?_)
        · refine lv_aload_n hx hb dX12_check_50 rfl (lv_at hl 1 rfl) ?_
          refine lv_iconst (v := iv 0) hx hb dX12_check_51 (by decide) ?_
          refine p_X12_270 Cx hW hL (k := 231) (by decide) rfl dX12_check_52 (fun H locs hW hL => ?_)
          have F_11 : Fr S (uF S24 231 20 0) (pl [231, 233, 234, 235, 237, 238, 240, 243, 244, 245, 246, 247, 277, 283, 284, 285, 286, 287, 288, 289, 291, 292, 293]) := hFm24.F rfl
          have g_12 : FF S (uF S24 231 20 0) (fl [1, 14, 19, 20, 21, 22, 23, 24, 100]) := FF.F hGm24 rfl
          have i_13 : dX G (uF S24 231 20 0) := hI24.F (i := 20) (show (-2147483648) ≤ 0 ∧ 0 ≤ 2147483647 from ⟨by omega, by omega⟩)
          refine lv_aload_n hx hb dX12_check_55 rfl (lv_at hl 1 rfl) ?_
          refine lv_iconst (v := iv (-1)) hx hb dX12_check_56 (by decide) ?_
          refine p_X12_273 Cx hW hL (k := 231) (by decide) rfl dX12_check_57 (fun H locs hW hL => ?_)
          have F_14 : Fr S (uF (uF S24 231 20 0) 231 21 ((-1))) (pl [231, 233, 234, 235, 237, 238, 240, 243, 244, 245, 246, 247, 277, 283, 284, 285, 286, 287, 288, 289, 291, 292, 293]) := F_11.F rfl
          have g_15 : FF S (uF (uF S24 231 20 0) 231 21 ((-1))) (fl [1, 14, 19, 20, 21, 22, 23, 24, 100]) := FF.F g_12 rfl
          have i_16 : dX G (uF (uF S24 231 20 0) 231 21 ((-1))) := i_13.F (i := 21) (show (-2147483648) ≤ (-1) ∧ (-1) ≤ 2147483647 from ⟨by omega, by omega⟩)
          refine lv_aload_n hx hb dX12_check_60 rfl (lv_at hl 1 rfl) ?_
          have lk_17 : (uF (uF S24 231 20 0) 231 21 ((-1))).1 231 14 = S.1 231 1 := (uF_ne (fun h => absurd h.2 (by decide))).trans ((uF_ne (fun h => absurd h.2 (by decide))).trans ((gL24_ 14 rfl).trans ((uF_ne (fun h => absurd h.2 (by decide))).trans (uF_on))))
          refine sBv (sV (As := []) (rest := []) (k := 231) Cx (y_X12_tokenizeProof l G (uF (uF S24 231 20 0) 231 21 ((-1)))  i_16 (by omega)) (c_X12_709 Cx rfl rfl (rmk_ok (by omega) (by decide))) hW (by decide) rfl rfl rfl hl.1 rfl (Nat.le_of_ble_eq_true rfl) dX12_check_61 ⟨Nat.le_of_ble_eq_true rfl, Nat.le_of_ble_eq_true rfl⟩) hL (fun u_18 H locs k_19 hW hL => ?_)
          obtain ⟨iu_18, fu_18, gu_18, xu_18⟩ := k_19
          have F_20 := F_14.trans (fu_18.to (pl_sub (by decide)))
          have g_21 : FF S u_18 (fl [1, 14, 19, 20, 21, 22, 23, 24, 100]) := FF.trans g_15 (FF.to gu_18 (fl_sub (by decide)))
          obtain ⟨K, hK⟩ : ∃ f : Int → Int, u_18.2.1 244 = f := ⟨_, rfl⟩
          obtain ⟨Vt, hVt⟩ : ∃ f : Int → Int, u_18.2.1 247 = f := ⟨_, rfl⟩
          obtain ⟨Fm, hFm⟩ : ∃ f : Int → Int, u_18.2.1 245 = f := ⟨_, rfl⟩
          obtain ⟨Wd, hWd⟩ : ∃ f : Int → Int, u_18.2.1 246 = f := ⟨_, rfl⟩
          obtain ⟨Xt, hX⟩ : ∃ f : Int → Int, u_18.2.1 243 = f := ⟨_, rfl⟩
          have hV := hVt
          obtain ⟨T, hT⟩ : ∃ T : Int, u_18.1 231 19 = T := ⟨_, rfl⟩
          have x14 : (uF (uF S24 231 20 0) 231 21 ((-1))).1 231 14 = S.1 231 1 := (show (uF (uF S24 231 20 0) 231 21 ((-1))).1 231 14 = S.1 231 1 from (uF_ne (fun h => absurd h.2 (by decide))).trans ((uF_ne (fun h => absurd h.2 (by decide))).trans ((gL24_ 14 rfl).trans ((uF_ne (fun h => absurd h.2 (by decide))).trans (uF_on)))))
          have hxx : (uF (uF S24 231 20 0) 231 21 ((-1))).2.1 243 = Xt := ((funext fun j => (fu_18 243 rfl).2.1 j : u_18.2.1 243 = (uF (uF S24 231 20 0) 231 21 ((-1))).2.1 243).symm).trans hX
          have hTP : Hd (TPS Xt (S.1 231 1) u_18) := (by have h := xu_18.1; rw [hxx, x14] at h; exact h)
          have hT39 := xu_18.2
          have hE : gE K T := by rw [← hK, ← hT]; exact hTP.gE (by omega)
          have hE1 := hE.1
          obtain ⟨kp, vp, hTQ, hKR0, hNV⟩ := TPS.mk hTP
          rw [hT] at hTQ
          rw [hT, hK, hVt] at hKR0
          rw [hT, hFm, hWd, hVt] at hNV
          have hkr : Hd (KVq K Vt T kp vp) := ⟨hKR0, fun t a b c => (hNV t a b c).1⟩
          have hKS : Hd (KS T kp) ∧ T ≤ 30001 := ⟨hTQ.ks, by omega⟩
          have hKT : Hd (KT T kp) := hTQ.kt
          have hQ : Hd (∀ t, 0 ≤ t → t < T → kp t = 2 → nTk Xt Fm Wd Vt t ∧ NVr Xt Fm Wd Vt t (vp t)) := fun t a b c => ⟨(by have h := hTP.nt (by omega) (t := t) a (by omega) (by rw [hK]; exact (KVq.n hkr a b).mpr c); rw [hFm, hWd, hVt] at h; exact h), hNV t a b c⟩
          have hTT : Hd (TQp (S.2.1 232) (S.1 231 1) T kp vp) := TQp.cg (fun i a b => .inl (by rw [← hX]; exact ((show u_18.2.1 243 i = S24.2.1 243 i from ((fu_18 243 rfl).2.1 i).trans ((uF_a).trans (uF_a))).trans (hcp i a (by omega))))) hTQ
          refine lv_aload_n hx hb dX12_check_64 rfl (lv_at hl 1 rfl) ?_
          have e46 := (show u_18.1 231 46 = S.1 231 46 from (gu_18 46 rfl).trans ((uF_ne (fun h => absurd h.2 (by decide))).trans ((uF_ne (fun h => absurd h.2 (by decide))).trans ((gL24_ 46 rfl).trans ((uF_ne (fun h => absurd h.2 (by decide))).trans (uF_ne (fun h => absurd h.2 (by decide))))))))
          have q_22 : (-2147483648) ≤ S.1 231 46 ∧ S.1 231 46 ≤ 2147483647 := hI.fi 46
          have lk_23 : u_18.1 231 46 = S.1 231 46 := (gu_18 46 rfl).trans ((uF_ne (fun h => absurd h.2 (by decide))).trans ((uF_ne (fun h => absurd h.2 (by decide))).trans ((gL24_ 46 rfl).trans ((uF_ne (fun h => absurd h.2 (by decide))).trans (uF_ne (fun h => absurd h.2 (by decide)))))))
          have lk_24 : u_18.1 231 20 = 0 := (gu_18 20 rfl).trans ((uF_ne (fun h => absurd h.2 (by decide))).trans (uF_on))
          refine sBv (sV (As := []) (rest := []) (k := 231) Cx (q_X12_proofRead l G u_18 (K := K) (V := Vt) (T := T) (pz := pz) (kp := kp) (vp := vp) iu_18 (by omega) hkr (by omega) hK hV hE (by omega)) (c_X12_712 Cx rfl rfl (rmk_ok (by omega) (by decide))) hW (by decide) rfl rfl rfl hl.1 rfl (Nat.le_of_ble_eq_true rfl) dX12_check_65 ⟨Nat.le_of_ble_eq_true rfl, Nat.le_of_ble_eq_true rfl⟩) hL (fun u_25 H locs k_26 hW hL => ?_)
          obtain ⟨iu_25, fu_25, gu_25, xu_25⟩ := k_26
          have F_27 := F_20.trans (fu_25.to (pl_sub (by decide)))
          have g_28 : FF S u_25 (fl [1, 14, 19, 20, 21, 22, 23, 24, 100]) := FF.trans g_21 (FF.to gu_25 (fl_sub (by decide)))
          have hpr : Hd (u_25.1 231 20 = 0 ↔ isP kp vp n) := by have h := xu_25.1; rw [show u_18.1 231 46 = n by omega] at h; exact h
          refine lv_aload_n hx hb dX12_check_68 rfl (lv_at hl 1 rfl) ?_
          have q_29 : (-2147483648) ≤ u_25.1 231 20 ∧ u_25.1 231 20 ≤ 2147483647 := iu_25.fi 20
          refine g_X12_270 Cx hW (k := 231) (by decide) rfl (v := u_25.1 231 20) rfl dX12_check_69 ?_
          refine r_if_ne (tgt := 79) hx hb ⟨(by omega), (by omega)⟩ dX12_check_72 (by decide) (fun c_30 => ?_) (fun c_30 => ?_)
          · refine lv_aload_n hx hb dX12_check_79 rfl (lv_at hl 1 rfl) ?_
            refine lv_aload_n hx hb dX12_check_80 rfl (lv_at hl 1 rfl) ?_
            refine g_X12_270 Cx hW (k := 231) (by decide) rfl (v := u_25.1 231 20) rfl dX12_check_81 ?_
            refine p_X12_447 Cx hW hL (k := 231) (by decide) rfl dX12_check_84 (fun H locs hW hL => ?_)
            have F_31 : Fr S (uF u_25 231 22 (u_25.1 231 20)) (pl [231, 233, 234, 235, 237, 238, 240, 243, 244, 245, 246, 247, 277, 283, 284, 285, 286, 287, 288, 289, 291, 292, 293]) := F_27.F rfl
            have g_32 : FF S (uF u_25 231 22 (u_25.1 231 20)) (fl [1, 14, 19, 20, 21, 22, 23, 24, 100]) := FF.F g_28 rfl
            have i_33 : dX G (uF u_25 231 22 (u_25.1 231 20)) := iu_25.F (i := 22) (show (-2147483648) ≤ u_25.1 231 20 ∧ u_25.1 231 20 ≤ 2147483647 from ⟨by omega, by omega⟩)
            refine lv_aload_n hx hb dX12_check_87 rfl (lv_at hl 1 rfl) ?_
            refine lv_aload_n hx hb dX12_check_88 rfl (lv_at hl 1 rfl) ?_
            have q_34 : (-2147483648) ≤ u_25.1 231 21 ∧ u_25.1 231 21 ≤ 2147483647 := iu_25.fi 21
            refine g_X12_273 Cx hW (k := 231) (by decide) rfl (v := u_25.1 231 21) (uF_ne (fun h => absurd h.2 (by decide))) dX12_check_89 ?_
            refine p_X12_450 Cx hW hL (k := 231) (by decide) rfl dX12_check_92 (fun H locs hW hL => ?_)
            have F_35 : Fr S (uF (uF u_25 231 22 (u_25.1 231 20)) 231 23 (u_25.1 231 21)) (pl [231, 233, 234, 235, 237, 238, 240, 243, 244, 245, 246, 247, 277, 283, 284, 285, 286, 287, 288, 289, 291, 292, 293]) := F_31.F rfl
            have g_36 : FF S (uF (uF u_25 231 22 (u_25.1 231 20)) 231 23 (u_25.1 231 21)) (fl [1, 14, 19, 20, 21, 22, 23, 24, 100]) := FF.F g_32 rfl
            have i_37 : dX G (uF (uF u_25 231 22 (u_25.1 231 20)) 231 23 (u_25.1 231 21)) := i_33.F (i := 23) (show (-2147483648) ≤ u_25.1 231 21 ∧ u_25.1 231 21 ≤ 2147483647 from ⟨by omega, by omega⟩)
            refine lv_aload_n hx hb dX12_check_95 rfl (lv_at hl 1 rfl) ?_
            refine g_X12_270 Cx hW (k := 231) (by decide) rfl (v := u_25.1 231 20) ((uF_ne (fun h => absurd h.2 (by decide))).trans (uF_ne (fun h => absurd h.2 (by decide)))) dX12_check_96 ?_
            have lk_38 : (uF (uF u_25 231 22 (u_25.1 231 20)) 231 23 (u_25.1 231 21)).1 231 1 = 0 := (uF_ne (fun h => absurd h.2 (by decide))).trans ((uF_ne (fun h => absurd h.2 (by decide))).trans ((gu_25 1 rfl).trans ((gu_18 1 rfl).trans ((uF_ne (fun h => absurd h.2 (by decide))).trans ((uF_ne (fun h => absurd h.2 (by decide))).trans ((gL24_ 1 rfl).trans (uF_on)))))))
            exact sIret Cx hr hlk hW hL ⟨i_37, F_35, g_36, ⟨(XI.sm (S := S) (u := (uF (uF u_25 231 22 (u_25.1 231 20)) 231 23 (u_25.1 231 21))) hXI ((uF_ne (fun h => absurd h.2 (by decide))).trans ((uF_ne (fun h => absurd h.2 (by decide))).trans ((gu_25 46 rfl).trans ((gu_18 46 rfl).trans ((uF_ne (fun h => absurd h.2 (by decide))).trans ((uF_ne (fun h => absurd h.2 (by decide))).trans ((gL24_ 46 rfl).trans ((uF_ne (fun h => absurd h.2 (by decide))).trans (uF_ne (fun h => absurd h.2 (by decide))))))))))) ((uF_ne (fun h => absurd h.2 (by decide))).trans ((uF_ne (fun h => absurd h.2 (by decide))).trans ((gu_25 47 rfl).trans ((gu_18 47 rfl).trans ((uF_ne (fun h => absurd h.2 (by decide))).trans ((uF_ne (fun h => absurd h.2 (by decide))).trans ((gL24_ 47 rfl).trans ((uF_ne (fun h => absurd h.2 (by decide))).trans (uF_ne (fun h => absurd h.2 (by decide))))))))))) ((uF_ne (fun h => absurd h.2 (by decide))).trans ((uF_ne (fun h => absurd h.2 (by decide))).trans ((gu_25 48 rfl).trans ((gu_18 48 rfl).trans ((uF_ne (fun h => absurd h.2 (by decide))).trans ((uF_ne (fun h => absurd h.2 (by decide))).trans ((gL24_ 48 rfl).trans ((uF_ne (fun h => absurd h.2 (by decide))).trans (uF_ne (fun h => absurd h.2 (by decide))))))))))) ((uF_ne (fun h => absurd h.2 (by decide))).trans ((uF_ne (fun h => absurd h.2 (by decide))).trans ((gu_25 58 rfl).trans ((gu_18 58 rfl).trans ((uF_ne (fun h => absurd h.2 (by decide))).trans ((uF_ne (fun h => absurd h.2 (by decide))).trans ((gL24_ 58 rfl).trans ((uF_ne (fun h => absurd h.2 (by decide))).trans (uF_ne (fun h => absurd h.2 (by decide))))))))))) ((uF_ne (fun h => absurd h.2 (by decide))).trans ((uF_ne (fun h => absurd h.2 (by decide))).trans ((gu_25 59 rfl).trans ((gu_18 59 rfl).trans ((uF_ne (fun h => absurd h.2 (by decide))).trans ((uF_ne (fun h => absurd h.2 (by decide))).trans ((gL24_ 59 rfl).trans ((uF_ne (fun h => absurd h.2 (by decide))).trans (uF_ne (fun h => absurd h.2 (by decide))))))))))) ((uF_ne (fun h => absurd h.2 (by decide))).trans ((uF_ne (fun h => absurd h.2 (by decide))).trans ((gu_25 60 rfl).trans ((gu_18 60 rfl).trans ((uF_ne (fun h => absurd h.2 (by decide))).trans ((uF_ne (fun h => absurd h.2 (by decide))).trans ((gL24_ 60 rfl).trans ((uF_ne (fun h => absurd h.2 (by decide))).trans (uF_ne (fun h => absurd h.2 (by decide))))))))))) ((uF_ne (fun h => absurd h.2 (by decide))).trans ((uF_ne (fun h => absurd h.2 (by decide))).trans ((gu_25 61 rfl).trans ((gu_18 61 rfl).trans ((uF_ne (fun h => absurd h.2 (by decide))).trans ((uF_ne (fun h => absurd h.2 (by decide))).trans ((gL24_ 61 rfl).trans ((uF_ne (fun h => absurd h.2 (by decide))).trans (uF_ne (fun h => absurd h.2 (by decide))))))))))) ((uF_ne (fun h => absurd h.2 (by decide))).trans ((uF_ne (fun h => absurd h.2 (by decide))).trans ((gu_25 62 rfl).trans ((gu_18 62 rfl).trans ((uF_ne (fun h => absurd h.2 (by decide))).trans ((uF_ne (fun h => absurd h.2 (by decide))).trans ((gL24_ 62 rfl).trans ((uF_ne (fun h => absurd h.2 (by decide))).trans (uF_ne (fun h => absurd h.2 (by decide))))))))))) ((uF_ne (fun h => absurd h.2 (by decide))).trans ((uF_ne (fun h => absurd h.2 (by decide))).trans ((gu_25 63 rfl).trans ((gu_18 63 rfl).trans ((uF_ne (fun h => absurd h.2 (by decide))).trans ((uF_ne (fun h => absurd h.2 (by decide))).trans ((gL24_ 63 rfl).trans ((uF_ne (fun h => absurd h.2 (by decide))).trans (uF_ne (fun h => absurd h.2 (by decide))))))))))) ((uF_ne (fun h => absurd h.2 (by decide))).trans ((uF_ne (fun h => absurd h.2 (by decide))).trans ((gu_25 65 rfl).trans ((gu_18 65 rfl).trans ((uF_ne (fun h => absurd h.2 (by decide))).trans ((uF_ne (fun h => absurd h.2 (by decide))).trans ((gL24_ 65 rfl).trans ((uF_ne (fun h => absurd h.2 (by decide))).trans (uF_ne (fun h => absurd h.2 (by decide))))))))))) ((uF_ne (fun h => absurd h.2 (by decide))).trans ((uF_ne (fun h => absurd h.2 (by decide))).trans ((gu_25 68 rfl).trans ((gu_18 68 rfl).trans ((uF_ne (fun h => absurd h.2 (by decide))).trans ((uF_ne (fun h => absurd h.2 (by decide))).trans ((gL24_ 68 rfl).trans ((uF_ne (fun h => absurd h.2 (by decide))).trans (uF_ne (fun h => absurd h.2 (by decide))))))))))) ((uF_ne (fun h => absurd h.2 (by decide))).trans ((uF_ne (fun h => absurd h.2 (by decide))).trans ((gu_25 69 rfl).trans ((gu_18 69 rfl).trans ((uF_ne (fun h => absurd h.2 (by decide))).trans ((uF_ne (fun h => absurd h.2 (by decide))).trans ((gL24_ 69 rfl).trans ((uF_ne (fun h => absurd h.2 (by decide))).trans (uF_ne (fun h => absurd h.2 (by decide))))))))))) ((uF_ne (fun h => absurd h.2 (by decide))).trans ((uF_ne (fun h => absurd h.2 (by decide))).trans ((gu_25 70 rfl).trans ((gu_18 70 rfl).trans ((uF_ne (fun h => absurd h.2 (by decide))).trans ((uF_ne (fun h => absurd h.2 (by decide))).trans ((gL24_ 70 rfl).trans ((uF_ne (fun h => absurd h.2 (by decide))).trans (uF_ne (fun h => absurd h.2 (by decide))))))))))) ((uF_ne (fun h => absurd h.2 (by decide))).trans ((uF_ne (fun h => absurd h.2 (by decide))).trans ((gu_25 71 rfl).trans ((gu_18 71 rfl).trans ((uF_ne (fun h => absurd h.2 (by decide))).trans ((uF_ne (fun h => absurd h.2 (by decide))).trans ((gL24_ 71 rfl).trans ((uF_ne (fun h => absurd h.2 (by decide))).trans (uF_ne (fun h => absurd h.2 (by decide))))))))))) ((uF_ne (fun h => absurd h.2 (by decide))).trans ((uF_ne (fun h => absurd h.2 (by decide))).trans ((gu_25 72 rfl).trans ((gu_18 72 rfl).trans ((uF_ne (fun h => absurd h.2 (by decide))).trans ((uF_ne (fun h => absurd h.2 (by decide))).trans ((gL24_ 72 rfl).trans ((uF_ne (fun h => absurd h.2 (by decide))).trans (uF_ne (fun h => absurd h.2 (by decide))))))))))) ((uF_ne (fun h => absurd h.2 (by decide))).trans ((uF_ne (fun h => absurd h.2 (by decide))).trans ((gu_25 78 rfl).trans ((gu_18 78 rfl).trans ((uF_ne (fun h => absurd h.2 (by decide))).trans ((uF_ne (fun h => absurd h.2 (by decide))).trans ((gL24_ 78 rfl).trans ((uF_ne (fun h => absurd h.2 (by decide))).trans (uF_ne (fun h => absurd h.2 (by decide))))))))))) ((uF_ne (fun h => absurd h.2 (by decide))).trans ((uF_ne (fun h => absurd h.2 (by decide))).trans ((gu_25 79 rfl).trans ((gu_18 79 rfl).trans ((uF_ne (fun h => absurd h.2 (by decide))).trans ((uF_ne (fun h => absurd h.2 (by decide))).trans ((gL24_ 79 rfl).trans ((uF_ne (fun h => absurd h.2 (by decide))).trans (uF_ne (fun h => absurd h.2 (by decide))))))))))) ((uF_ne (fun h => absurd h.2 (by decide))).trans ((uF_ne (fun h => absurd h.2 (by decide))).trans ((gu_25 84 rfl).trans ((gu_18 84 rfl).trans ((uF_ne (fun h => absurd h.2 (by decide))).trans ((uF_ne (fun h => absurd h.2 (by decide))).trans ((gL24_ 84 rfl).trans ((uF_ne (fun h => absurd h.2 (by decide))).trans (uF_ne (fun h => absurd h.2 (by decide))))))))))) ((uF_ne (fun h => absurd h.2 (by decide))).trans ((uF_ne (fun h => absurd h.2 (by decide))).trans ((gu_25 86 rfl).trans ((gu_18 86 rfl).trans ((uF_ne (fun h => absurd h.2 (by decide))).trans ((uF_ne (fun h => absurd h.2 (by decide))).trans ((gL24_ 86 rfl).trans ((uF_ne (fun h => absurd h.2 (by decide))).trans (uF_ne (fun h => absurd h.2 (by decide))))))))))) (funext fun j => (uF_a).trans ((uF_a).trans (((fu_25 261 rfl).2.1 j).trans (((fu_18 261 rfl).2.1 j).trans ((uF_a).trans ((uF_a).trans (((hL24_ 261 rfl).2.1 j).trans ((uF_a).trans (uF_a))))))))) (funext fun j => (uF_a).trans ((uF_a).trans (((fu_25 262 rfl).2.1 j).trans (((fu_18 262 rfl).2.1 j).trans ((uF_a).trans ((uF_a).trans (((hL24_ 262 rfl).2.1 j).trans ((uF_a).trans (uF_a))))))))) (funext fun j => (uF_a).trans ((uF_a).trans (((fu_25 264 rfl).2.1 j).trans (((fu_18 264 rfl).2.1 j).trans ((uF_a).trans ((uF_a).trans (((hL24_ 264 rfl).2.1 j).trans ((uF_a).trans (uF_a))))))))) (funext fun j => (uF_a).trans ((uF_a).trans (((fu_25 265 rfl).2.1 j).trans (((fu_18 265 rfl).2.1 j).trans ((uF_a).trans ((uF_a).trans (((hL24_ 265 rfl).2.1 j).trans ((uF_a).trans (uF_a))))))))) (funext fun j => (uF_a).trans ((uF_a).trans (((fu_25 266 rfl).2.1 j).trans (((fu_18 266 rfl).2.1 j).trans ((uF_a).trans ((uF_a).trans (((hL24_ 266 rfl).2.1 j).trans ((uF_a).trans (uF_a))))))))) (funext fun j => (uF_a).trans ((uF_a).trans (((fu_25 267 rfl).2.1 j).trans (((fu_18 267 rfl).2.1 j).trans ((uF_a).trans ((uF_a).trans (((hL24_ 267 rfl).2.1 j).trans ((uF_a).trans (uF_a))))))))) (funext fun j => (uF_a).trans ((uF_a).trans (((fu_25 268 rfl).2.1 j).trans (((fu_18 268 rfl).2.1 j).trans ((uF_a).trans ((uF_a).trans (((hL24_ 268 rfl).2.1 j).trans ((uF_a).trans (uF_a))))))))) (funext fun j => (uF_a).trans ((uF_a).trans (((fu_25 269 rfl).2.1 j).trans (((fu_18 269 rfl).2.1 j).trans ((uF_a).trans ((uF_a).trans (((hL24_ 269 rfl).2.1 j).trans ((uF_a).trans (uF_a))))))))) (funext fun j => (uF_a).trans ((uF_a).trans (((fu_25 270 rfl).2.1 j).trans (((fu_18 270 rfl).2.1 j).trans ((uF_a).trans ((uF_a).trans (((hL24_ 270 rfl).2.1 j).trans ((uF_a).trans (uF_a))))))))) (funext fun j => (uF_a).trans ((uF_a).trans (((fu_25 271 rfl).2.1 j).trans (((fu_18 271 rfl).2.1 j).trans ((uF_a).trans ((uF_a).trans (((hL24_ 271 rfl).2.1 j).trans ((uF_a).trans (uF_a))))))))) (funext fun j => (uF_a).trans ((uF_a).trans (((fu_25 272 rfl).2.1 j).trans (((fu_18 272 rfl).2.1 j).trans ((uF_a).trans ((uF_a).trans (((hL24_ 272 rfl).2.1 j).trans ((uF_a).trans (uF_a))))))))) (funext fun j => (uF_a).trans ((uF_a).trans (((fu_25 273 rfl).2.1 j).trans (((fu_18 273 rfl).2.1 j).trans ((uF_a).trans ((uF_a).trans (((hL24_ 273 rfl).2.1 j).trans ((uF_a).trans (uF_a))))))))) (funext fun j => (uF_a).trans ((uF_a).trans (((fu_25 274 rfl).2.1 j).trans (((fu_18 274 rfl).2.1 j).trans ((uF_a).trans ((uF_a).trans (((hL24_ 274 rfl).2.1 j).trans ((uF_a).trans (uF_a))))))))) (funext fun j => (uF_l).trans ((uF_l).trans (((fu_25 260 rfl).2.2.1 j).trans (((fu_18 260 rfl).2.2.1 j).trans ((uF_l).trans ((uF_l).trans (((hL24_ 260 rfl).2.2.1 j).trans ((uF_l).trans (uF_l))))))))) (funext fun j => (uF_l).trans ((uF_l).trans (((fu_25 290 rfl).2.2.1 j).trans (((fu_18 290 rfl).2.2.1 j).trans ((uF_l).trans ((uF_l).trans (((hL24_ 290 rfl).2.2.1 j).trans ((uF_l).trans (uF_l)))))))))), (dHA.sm (S := S) (u := (uF (uF u_25 231 22 (u_25.1 231 20)) 231 23 (u_25.1 231 21))) hHA (funext fun j => (uF_a).trans ((uF_a).trans (((fu_25 283 rfl).2.1 j).trans (((fu_18 283 rfl).2.1 j).trans ((uF_a).trans ((uF_a).trans (((hL24_ 283 rfl).2.1 j).trans ((uF_a).trans (uF_a)))))))))), (dUP.sm (S := S) (u := (uF (uF u_25 231 22 (u_25.1 231 20)) 231 23 (u_25.1 231 21))) hUP0 (funext fun j => (uF_a).trans ((uF_a).trans (((fu_25 286 rfl).2.1 j).trans (((fu_18 286 rfl).2.1 j).trans ((uF_a).trans ((uF_a).trans (((hL24_ 286 rfl).2.1 j).trans ((uF_a).trans (uF_a))))))))) (funext fun j => (uF_a).trans ((uF_a).trans (((fu_25 287 rfl).2.1 j).trans (((fu_18 287 rfl).2.1 j).trans ((uF_a).trans ((uF_a).trans (((hL24_ 287 rfl).2.1 j).trans ((uF_a).trans (uF_a)))))))))), (by have y := (show (uF (uF u_25 231 22 (u_25.1 231 20)) 231 23 (u_25.1 231 21)).1 231 1 = 0 from (uF_ne (fun h => absurd h.2 (by decide))).trans ((uF_ne (fun h => absurd h.2 (by decide))).trans ((gu_25 1 rfl).trans ((gu_18 1 rfl).trans ((uF_ne (fun h => absurd h.2 (by decide))).trans ((uF_ne (fun h => absurd h.2 (by decide))).trans ((gL24_ 1 rfl).trans (uF_on)))))))); omega), (fun z => absurd z (by omega)), (fun _ => ⟨T, kp, vp, hTT, ⟨fun _ => by have y := xu_25.2; omega, fun z => absurd ((show _ ↔ _ from hpr).mpr z) (by omega)⟩⟩)⟩⟩ dX12_check_99
          · have hP : Hd (isP kp vp n) := hpr.mp (by omega)
            refine lv_aload_n hx hb dX12_check_75 rfl (lv_at hl 1 rfl) ?_
            have lk_39 : u_25.1 231 46 = S.1 231 46 := (gu_25 46 rfl).trans ((gu_18 46 rfl).trans ((uF_ne (fun h => absurd h.2 (by decide))).trans ((uF_ne (fun h => absurd h.2 (by decide))).trans ((gL24_ 46 rfl).trans ((uF_ne (fun h => absurd h.2 (by decide))).trans (uF_ne (fun h => absurd h.2 (by decide))))))))
            have q_40 : (-2147483648) ≤ S.1 231 47 ∧ S.1 231 47 ≤ 2147483647 := hI.fi 47
            have lk_41 : u_25.1 231 47 = S.1 231 47 := (gu_25 47 rfl).trans ((gu_18 47 rfl).trans ((uF_ne (fun h => absurd h.2 (by decide))).trans ((uF_ne (fun h => absurd h.2 (by decide))).trans ((gL24_ 47 rfl).trans ((uF_ne (fun h => absurd h.2 (by decide))).trans (uF_ne (fun h => absurd h.2 (by decide))))))))
            refine sBv (sV (As := []) (rest := []) (k := 231) Cx (q_X12_holds l G u_25 (Xt := Xt) (Fm := Fm) (Wd := Wd) (Vt := Vt) (T := T) (kp := kp) (vp := vp) (K := K) (n := n) (mm := mm) (mx := mx) (A := A) (wh := wh) iu_25 ((funext fun j => (fu_25 244 rfl).2.1 j : u_25.2.1 244 = u_18.2.1 244).trans hK) ((funext fun j => (fu_25 243 rfl).2.1 j : u_25.2.1 243 = u_18.2.1 243).trans hX) ((funext fun j => (fu_25 245 rfl).2.1 j : u_25.2.1 245 = u_18.2.1 245).trans hFm) ((funext fun j => (fu_25 246 rfl).2.1 j : u_25.2.1 246 = u_18.2.1 246).trans hWd) ((funext fun j => (fu_25 247 rfl).2.1 j : u_25.2.1 247 = u_18.2.1 247).trans hVt) hQ hKS hkr hKT (by omega) (by omega) (dHA.sm (S := S) (u := u_25) hHA (funext fun j => ((fu_25 283 rfl).2.1 j).trans (((fu_18 283 rfl).2.1 j).trans ((uF_a).trans ((uF_a).trans (((hL24_ 283 rfl).2.1 j).trans ((uF_a).trans (uF_a)))))))) (GM.sm (S := S) (u := u_25) hXI.1.2.1 (funext fun j => ((fu_25 260 rfl).2.2.1 j).trans (((fu_18 260 rfl).2.2.1 j).trans ((uF_l).trans ((uF_l).trans (((hL24_ 260 rfl).2.2.1 j).trans ((uF_l).trans (uF_l))))))) (funext fun j => ((fu_25 290 rfl).2.2.1 j).trans (((fu_18 290 rfl).2.2.1 j).trans ((uF_l).trans ((uF_l).trans (((hL24_ 290 rfl).2.2.1 j).trans ((uF_l).trans (uF_l)))))))) (MD.sm (S := S) (u := u_25) hXI.1.1 ((gu_25 46 rfl).trans ((gu_18 46 rfl).trans ((uF_ne (fun h => absurd h.2 (by decide))).trans ((uF_ne (fun h => absurd h.2 (by decide))).trans ((gL24_ 46 rfl).trans ((uF_ne (fun h => absurd h.2 (by decide))).trans (uF_ne (fun h => absurd h.2 (by decide))))))))) ((gu_25 47 rfl).trans ((gu_18 47 rfl).trans ((uF_ne (fun h => absurd h.2 (by decide))).trans ((uF_ne (fun h => absurd h.2 (by decide))).trans ((gL24_ 47 rfl).trans ((uF_ne (fun h => absurd h.2 (by decide))).trans (uF_ne (fun h => absurd h.2 (by decide))))))))) ((gu_25 63 rfl).trans ((gu_18 63 rfl).trans ((uF_ne (fun h => absurd h.2 (by decide))).trans ((uF_ne (fun h => absurd h.2 (by decide))).trans ((gL24_ 63 rfl).trans ((uF_ne (fun h => absurd h.2 (by decide))).trans (uF_ne (fun h => absurd h.2 (by decide)))))))))) (MDr.sm (S := S) (u := u_25) hMR ((gu_25 46 rfl).trans ((gu_18 46 rfl).trans ((uF_ne (fun h => absurd h.2 (by decide))).trans ((uF_ne (fun h => absurd h.2 (by decide))).trans ((gL24_ 46 rfl).trans ((uF_ne (fun h => absurd h.2 (by decide))).trans (uF_ne (fun h => absurd h.2 (by decide))))))))) ((gu_25 47 rfl).trans ((gu_18 47 rfl).trans ((uF_ne (fun h => absurd h.2 (by decide))).trans ((uF_ne (fun h => absurd h.2 (by decide))).trans ((gL24_ 47 rfl).trans ((uF_ne (fun h => absurd h.2 (by decide))).trans (uF_ne (fun h => absurd h.2 (by decide))))))))) ((gu_25 48 rfl).trans ((gu_18 48 rfl).trans ((uF_ne (fun h => absurd h.2 (by decide))).trans ((uF_ne (fun h => absurd h.2 (by decide))).trans ((gL24_ 48 rfl).trans ((uF_ne (fun h => absurd h.2 (by decide))).trans (uF_ne (fun h => absurd h.2 (by decide))))))))) ((gu_25 49 rfl).trans ((gu_18 49 rfl).trans ((uF_ne (fun h => absurd h.2 (by decide))).trans ((uF_ne (fun h => absurd h.2 (by decide))).trans ((gL24_ 49 rfl).trans ((uF_ne (fun h => absurd h.2 (by decide))).trans (uF_ne (fun h => absurd h.2 (by decide))))))))) (funext fun j => ((fu_25 259 rfl).2.1 j).trans (((fu_18 259 rfl).2.1 j).trans ((uF_a).trans ((uF_a).trans (((hL24_ 259 rfl).2.1 j).trans ((uF_a).trans (uF_a))))))) (funext fun j => ((fu_25 260 rfl).2.2.1 j).trans (((fu_18 260 rfl).2.2.1 j).trans ((uF_l).trans ((uF_l).trans (((hL24_ 260 rfl).2.2.1 j).trans ((uF_l).trans (uF_l))))))) (funext fun j => ((fu_25 290 rfl).2.2.1 j).trans (((fu_18 290 rfl).2.2.1 j).trans ((uF_l).trans ((uF_l).trans (((hL24_ 290 rfl).2.2.1 j).trans ((uF_l).trans (uF_l)))))))) (dUP.sm (S := S) (u := u_25) hUP0 (funext fun j => ((fu_25 286 rfl).2.1 j).trans (((fu_18 286 rfl).2.1 j).trans ((uF_a).trans ((uF_a).trans (((hL24_ 286 rfl).2.1 j).trans ((uF_a).trans (uF_a))))))) (funext fun j => ((fu_25 287 rfl).2.1 j).trans (((fu_18 287 rfl).2.1 j).trans ((uF_a).trans ((uF_a).trans (((hL24_ 287 rfl).2.1 j).trans ((uF_a).trans (uF_a)))))))) (by omega) (by omega) hP) (c_X12_715 Cx rfl rfl (rmk_ok (by omega) (by decide))) hW (by decide) rfl rfl rfl hl.1 rfl (Nat.le_of_ble_eq_true rfl) dX12_check_76 ⟨Nat.le_of_ble_eq_true rfl, Nat.le_of_ble_eq_true rfl⟩) hL (fun u_42 H locs k_43 hW hL => ?_)
            obtain ⟨iu_42, fu_42, gu_42, xu_42⟩ := k_43
            have F_44 := F_27.trans (fu_42.to (pl_sub (by decide)))
            have g_45 : FF S u_42 (fl [1, 14, 19, 20, 21, 22, 23, 24, 100]) := FF.trans g_28 (FF.to gu_42 (fl_sub (by decide)))
            refine lv_aload_n hx hb dX12_check_79 rfl (lv_at hl 1 rfl) ?_
            refine lv_aload_n hx hb dX12_check_80 rfl (lv_at hl 1 rfl) ?_
            have q_46 : (-2147483648) ≤ u_42.1 231 20 ∧ u_42.1 231 20 ≤ 2147483647 := iu_42.fi 20
            refine g_X12_270 Cx hW (k := 231) (by decide) rfl (v := u_42.1 231 20) rfl dX12_check_81 ?_
            refine p_X12_447 Cx hW hL (k := 231) (by decide) rfl dX12_check_84 (fun H locs hW hL => ?_)
            have F_47 : Fr S (uF u_42 231 22 (u_42.1 231 20)) (pl [231, 233, 234, 235, 237, 238, 240, 243, 244, 245, 246, 247, 277, 283, 284, 285, 286, 287, 288, 289, 291, 292, 293]) := F_44.F rfl
            have g_48 : FF S (uF u_42 231 22 (u_42.1 231 20)) (fl [1, 14, 19, 20, 21, 22, 23, 24, 100]) := FF.F g_45 rfl
            have i_49 : dX G (uF u_42 231 22 (u_42.1 231 20)) := iu_42.F (i := 22) (show (-2147483648) ≤ u_42.1 231 20 ∧ u_42.1 231 20 ≤ 2147483647 from ⟨by omega, by omega⟩)
            refine lv_aload_n hx hb dX12_check_87 rfl (lv_at hl 1 rfl) ?_
            refine lv_aload_n hx hb dX12_check_88 rfl (lv_at hl 1 rfl) ?_
            have q_50 : (-2147483648) ≤ u_42.1 231 21 ∧ u_42.1 231 21 ≤ 2147483647 := iu_42.fi 21
            refine g_X12_273 Cx hW (k := 231) (by decide) rfl (v := u_42.1 231 21) (uF_ne (fun h => absurd h.2 (by decide))) dX12_check_89 ?_
            refine p_X12_450 Cx hW hL (k := 231) (by decide) rfl dX12_check_92 (fun H locs hW hL => ?_)
            have F_51 : Fr S (uF (uF u_42 231 22 (u_42.1 231 20)) 231 23 (u_42.1 231 21)) (pl [231, 233, 234, 235, 237, 238, 240, 243, 244, 245, 246, 247, 277, 283, 284, 285, 286, 287, 288, 289, 291, 292, 293]) := F_47.F rfl
            have g_52 : FF S (uF (uF u_42 231 22 (u_42.1 231 20)) 231 23 (u_42.1 231 21)) (fl [1, 14, 19, 20, 21, 22, 23, 24, 100]) := FF.F g_48 rfl
            have i_53 : dX G (uF (uF u_42 231 22 (u_42.1 231 20)) 231 23 (u_42.1 231 21)) := i_49.F (i := 23) (show (-2147483648) ≤ u_42.1 231 21 ∧ u_42.1 231 21 ≤ 2147483647 from ⟨by omega, by omega⟩)
            refine lv_aload_n hx hb dX12_check_95 rfl (lv_at hl 1 rfl) ?_
            refine g_X12_270 Cx hW (k := 231) (by decide) rfl (v := u_42.1 231 20) ((uF_ne (fun h => absurd h.2 (by decide))).trans (uF_ne (fun h => absurd h.2 (by decide)))) dX12_check_96 ?_
            have lk_54 : (uF (uF u_42 231 22 (u_42.1 231 20)) 231 23 (u_42.1 231 21)).1 231 1 = 0 := (uF_ne (fun h => absurd h.2 (by decide))).trans ((uF_ne (fun h => absurd h.2 (by decide))).trans ((gu_42 1 rfl).trans ((gu_25 1 rfl).trans ((gu_18 1 rfl).trans ((uF_ne (fun h => absurd h.2 (by decide))).trans ((uF_ne (fun h => absurd h.2 (by decide))).trans ((gL24_ 1 rfl).trans (uF_on))))))))
            exact sIret Cx hr hlk hW hL ⟨i_53, F_51, g_52, ⟨(XI.sm (S := S) (u := (uF (uF u_42 231 22 (u_42.1 231 20)) 231 23 (u_42.1 231 21))) hXI ((uF_ne (fun h => absurd h.2 (by decide))).trans ((uF_ne (fun h => absurd h.2 (by decide))).trans ((gu_42 46 rfl).trans ((gu_25 46 rfl).trans ((gu_18 46 rfl).trans ((uF_ne (fun h => absurd h.2 (by decide))).trans ((uF_ne (fun h => absurd h.2 (by decide))).trans ((gL24_ 46 rfl).trans ((uF_ne (fun h => absurd h.2 (by decide))).trans (uF_ne (fun h => absurd h.2 (by decide)))))))))))) ((uF_ne (fun h => absurd h.2 (by decide))).trans ((uF_ne (fun h => absurd h.2 (by decide))).trans ((gu_42 47 rfl).trans ((gu_25 47 rfl).trans ((gu_18 47 rfl).trans ((uF_ne (fun h => absurd h.2 (by decide))).trans ((uF_ne (fun h => absurd h.2 (by decide))).trans ((gL24_ 47 rfl).trans ((uF_ne (fun h => absurd h.2 (by decide))).trans (uF_ne (fun h => absurd h.2 (by decide)))))))))))) ((uF_ne (fun h => absurd h.2 (by decide))).trans ((uF_ne (fun h => absurd h.2 (by decide))).trans ((gu_42 48 rfl).trans ((gu_25 48 rfl).trans ((gu_18 48 rfl).trans ((uF_ne (fun h => absurd h.2 (by decide))).trans ((uF_ne (fun h => absurd h.2 (by decide))).trans ((gL24_ 48 rfl).trans ((uF_ne (fun h => absurd h.2 (by decide))).trans (uF_ne (fun h => absurd h.2 (by decide)))))))))))) ((uF_ne (fun h => absurd h.2 (by decide))).trans ((uF_ne (fun h => absurd h.2 (by decide))).trans ((gu_42 58 rfl).trans ((gu_25 58 rfl).trans ((gu_18 58 rfl).trans ((uF_ne (fun h => absurd h.2 (by decide))).trans ((uF_ne (fun h => absurd h.2 (by decide))).trans ((gL24_ 58 rfl).trans ((uF_ne (fun h => absurd h.2 (by decide))).trans (uF_ne (fun h => absurd h.2 (by decide)))))))))))) ((uF_ne (fun h => absurd h.2 (by decide))).trans ((uF_ne (fun h => absurd h.2 (by decide))).trans ((gu_42 59 rfl).trans ((gu_25 59 rfl).trans ((gu_18 59 rfl).trans ((uF_ne (fun h => absurd h.2 (by decide))).trans ((uF_ne (fun h => absurd h.2 (by decide))).trans ((gL24_ 59 rfl).trans ((uF_ne (fun h => absurd h.2 (by decide))).trans (uF_ne (fun h => absurd h.2 (by decide)))))))))))) ((uF_ne (fun h => absurd h.2 (by decide))).trans ((uF_ne (fun h => absurd h.2 (by decide))).trans ((gu_42 60 rfl).trans ((gu_25 60 rfl).trans ((gu_18 60 rfl).trans ((uF_ne (fun h => absurd h.2 (by decide))).trans ((uF_ne (fun h => absurd h.2 (by decide))).trans ((gL24_ 60 rfl).trans ((uF_ne (fun h => absurd h.2 (by decide))).trans (uF_ne (fun h => absurd h.2 (by decide)))))))))))) ((uF_ne (fun h => absurd h.2 (by decide))).trans ((uF_ne (fun h => absurd h.2 (by decide))).trans ((gu_42 61 rfl).trans ((gu_25 61 rfl).trans ((gu_18 61 rfl).trans ((uF_ne (fun h => absurd h.2 (by decide))).trans ((uF_ne (fun h => absurd h.2 (by decide))).trans ((gL24_ 61 rfl).trans ((uF_ne (fun h => absurd h.2 (by decide))).trans (uF_ne (fun h => absurd h.2 (by decide)))))))))))) ((uF_ne (fun h => absurd h.2 (by decide))).trans ((uF_ne (fun h => absurd h.2 (by decide))).trans ((gu_42 62 rfl).trans ((gu_25 62 rfl).trans ((gu_18 62 rfl).trans ((uF_ne (fun h => absurd h.2 (by decide))).trans ((uF_ne (fun h => absurd h.2 (by decide))).trans ((gL24_ 62 rfl).trans ((uF_ne (fun h => absurd h.2 (by decide))).trans (uF_ne (fun h => absurd h.2 (by decide)))))))))))) ((uF_ne (fun h => absurd h.2 (by decide))).trans ((uF_ne (fun h => absurd h.2 (by decide))).trans ((gu_42 63 rfl).trans ((gu_25 63 rfl).trans ((gu_18 63 rfl).trans ((uF_ne (fun h => absurd h.2 (by decide))).trans ((uF_ne (fun h => absurd h.2 (by decide))).trans ((gL24_ 63 rfl).trans ((uF_ne (fun h => absurd h.2 (by decide))).trans (uF_ne (fun h => absurd h.2 (by decide)))))))))))) ((uF_ne (fun h => absurd h.2 (by decide))).trans ((uF_ne (fun h => absurd h.2 (by decide))).trans ((gu_42 65 rfl).trans ((gu_25 65 rfl).trans ((gu_18 65 rfl).trans ((uF_ne (fun h => absurd h.2 (by decide))).trans ((uF_ne (fun h => absurd h.2 (by decide))).trans ((gL24_ 65 rfl).trans ((uF_ne (fun h => absurd h.2 (by decide))).trans (uF_ne (fun h => absurd h.2 (by decide)))))))))))) ((uF_ne (fun h => absurd h.2 (by decide))).trans ((uF_ne (fun h => absurd h.2 (by decide))).trans ((gu_42 68 rfl).trans ((gu_25 68 rfl).trans ((gu_18 68 rfl).trans ((uF_ne (fun h => absurd h.2 (by decide))).trans ((uF_ne (fun h => absurd h.2 (by decide))).trans ((gL24_ 68 rfl).trans ((uF_ne (fun h => absurd h.2 (by decide))).trans (uF_ne (fun h => absurd h.2 (by decide)))))))))))) ((uF_ne (fun h => absurd h.2 (by decide))).trans ((uF_ne (fun h => absurd h.2 (by decide))).trans ((gu_42 69 rfl).trans ((gu_25 69 rfl).trans ((gu_18 69 rfl).trans ((uF_ne (fun h => absurd h.2 (by decide))).trans ((uF_ne (fun h => absurd h.2 (by decide))).trans ((gL24_ 69 rfl).trans ((uF_ne (fun h => absurd h.2 (by decide))).trans (uF_ne (fun h => absurd h.2 (by decide)))))))))))) ((uF_ne (fun h => absurd h.2 (by decide))).trans ((uF_ne (fun h => absurd h.2 (by decide))).trans ((gu_42 70 rfl).trans ((gu_25 70 rfl).trans ((gu_18 70 rfl).trans ((uF_ne (fun h => absurd h.2 (by decide))).trans ((uF_ne (fun h => absurd h.2 (by decide))).trans ((gL24_ 70 rfl).trans ((uF_ne (fun h => absurd h.2 (by decide))).trans (uF_ne (fun h => absurd h.2 (by decide)))))))))))) ((uF_ne (fun h => absurd h.2 (by decide))).trans ((uF_ne (fun h => absurd h.2 (by decide))).trans ((gu_42 71 rfl).trans ((gu_25 71 rfl).trans ((gu_18 71 rfl).trans ((uF_ne (fun h => absurd h.2 (by decide))).trans ((uF_ne (fun h => absurd h.2 (by decide))).trans ((gL24_ 71 rfl).trans ((uF_ne (fun h => absurd h.2 (by decide))).trans (uF_ne (fun h => absurd h.2 (by decide)))))))))))) ((uF_ne (fun h => absurd h.2 (by decide))).trans ((uF_ne (fun h => absurd h.2 (by decide))).trans ((gu_42 72 rfl).trans ((gu_25 72 rfl).trans ((gu_18 72 rfl).trans ((uF_ne (fun h => absurd h.2 (by decide))).trans ((uF_ne (fun h => absurd h.2 (by decide))).trans ((gL24_ 72 rfl).trans ((uF_ne (fun h => absurd h.2 (by decide))).trans (uF_ne (fun h => absurd h.2 (by decide)))))))))))) ((uF_ne (fun h => absurd h.2 (by decide))).trans ((uF_ne (fun h => absurd h.2 (by decide))).trans ((gu_42 78 rfl).trans ((gu_25 78 rfl).trans ((gu_18 78 rfl).trans ((uF_ne (fun h => absurd h.2 (by decide))).trans ((uF_ne (fun h => absurd h.2 (by decide))).trans ((gL24_ 78 rfl).trans ((uF_ne (fun h => absurd h.2 (by decide))).trans (uF_ne (fun h => absurd h.2 (by decide)))))))))))) ((uF_ne (fun h => absurd h.2 (by decide))).trans ((uF_ne (fun h => absurd h.2 (by decide))).trans ((gu_42 79 rfl).trans ((gu_25 79 rfl).trans ((gu_18 79 rfl).trans ((uF_ne (fun h => absurd h.2 (by decide))).trans ((uF_ne (fun h => absurd h.2 (by decide))).trans ((gL24_ 79 rfl).trans ((uF_ne (fun h => absurd h.2 (by decide))).trans (uF_ne (fun h => absurd h.2 (by decide)))))))))))) ((uF_ne (fun h => absurd h.2 (by decide))).trans ((uF_ne (fun h => absurd h.2 (by decide))).trans ((gu_42 84 rfl).trans ((gu_25 84 rfl).trans ((gu_18 84 rfl).trans ((uF_ne (fun h => absurd h.2 (by decide))).trans ((uF_ne (fun h => absurd h.2 (by decide))).trans ((gL24_ 84 rfl).trans ((uF_ne (fun h => absurd h.2 (by decide))).trans (uF_ne (fun h => absurd h.2 (by decide)))))))))))) ((uF_ne (fun h => absurd h.2 (by decide))).trans ((uF_ne (fun h => absurd h.2 (by decide))).trans ((gu_42 86 rfl).trans ((gu_25 86 rfl).trans ((gu_18 86 rfl).trans ((uF_ne (fun h => absurd h.2 (by decide))).trans ((uF_ne (fun h => absurd h.2 (by decide))).trans ((gL24_ 86 rfl).trans ((uF_ne (fun h => absurd h.2 (by decide))).trans (uF_ne (fun h => absurd h.2 (by decide)))))))))))) (funext fun j => (uF_a).trans ((uF_a).trans (((fu_42 261 rfl).2.1 j).trans (((fu_25 261 rfl).2.1 j).trans (((fu_18 261 rfl).2.1 j).trans ((uF_a).trans ((uF_a).trans (((hL24_ 261 rfl).2.1 j).trans ((uF_a).trans (uF_a)))))))))) (funext fun j => (uF_a).trans ((uF_a).trans (((fu_42 262 rfl).2.1 j).trans (((fu_25 262 rfl).2.1 j).trans (((fu_18 262 rfl).2.1 j).trans ((uF_a).trans ((uF_a).trans (((hL24_ 262 rfl).2.1 j).trans ((uF_a).trans (uF_a)))))))))) (funext fun j => (uF_a).trans ((uF_a).trans (((fu_42 264 rfl).2.1 j).trans (((fu_25 264 rfl).2.1 j).trans (((fu_18 264 rfl).2.1 j).trans ((uF_a).trans ((uF_a).trans (((hL24_ 264 rfl).2.1 j).trans ((uF_a).trans (uF_a)))))))))) (funext fun j => (uF_a).trans ((uF_a).trans (((fu_42 265 rfl).2.1 j).trans (((fu_25 265 rfl).2.1 j).trans (((fu_18 265 rfl).2.1 j).trans ((uF_a).trans ((uF_a).trans (((hL24_ 265 rfl).2.1 j).trans ((uF_a).trans (uF_a)))))))))) (funext fun j => (uF_a).trans ((uF_a).trans (((fu_42 266 rfl).2.1 j).trans (((fu_25 266 rfl).2.1 j).trans (((fu_18 266 rfl).2.1 j).trans ((uF_a).trans ((uF_a).trans (((hL24_ 266 rfl).2.1 j).trans ((uF_a).trans (uF_a)))))))))) (funext fun j => (uF_a).trans ((uF_a).trans (((fu_42 267 rfl).2.1 j).trans (((fu_25 267 rfl).2.1 j).trans (((fu_18 267 rfl).2.1 j).trans ((uF_a).trans ((uF_a).trans (((hL24_ 267 rfl).2.1 j).trans ((uF_a).trans (uF_a)))))))))) (funext fun j => (uF_a).trans ((uF_a).trans (((fu_42 268 rfl).2.1 j).trans (((fu_25 268 rfl).2.1 j).trans (((fu_18 268 rfl).2.1 j).trans ((uF_a).trans ((uF_a).trans (((hL24_ 268 rfl).2.1 j).trans ((uF_a).trans (uF_a)))))))))) (funext fun j => (uF_a).trans ((uF_a).trans (((fu_42 269 rfl).2.1 j).trans (((fu_25 269 rfl).2.1 j).trans (((fu_18 269 rfl).2.1 j).trans ((uF_a).trans ((uF_a).trans (((hL24_ 269 rfl).2.1 j).trans ((uF_a).trans (uF_a)))))))))) (funext fun j => (uF_a).trans ((uF_a).trans (((fu_42 270 rfl).2.1 j).trans (((fu_25 270 rfl).2.1 j).trans (((fu_18 270 rfl).2.1 j).trans ((uF_a).trans ((uF_a).trans (((hL24_ 270 rfl).2.1 j).trans ((uF_a).trans (uF_a)))))))))) (funext fun j => (uF_a).trans ((uF_a).trans (((fu_42 271 rfl).2.1 j).trans (((fu_25 271 rfl).2.1 j).trans (((fu_18 271 rfl).2.1 j).trans ((uF_a).trans ((uF_a).trans (((hL24_ 271 rfl).2.1 j).trans ((uF_a).trans (uF_a)))))))))) (funext fun j => (uF_a).trans ((uF_a).trans (((fu_42 272 rfl).2.1 j).trans (((fu_25 272 rfl).2.1 j).trans (((fu_18 272 rfl).2.1 j).trans ((uF_a).trans ((uF_a).trans (((hL24_ 272 rfl).2.1 j).trans ((uF_a).trans (uF_a)))))))))) (funext fun j => (uF_a).trans ((uF_a).trans (((fu_42 273 rfl).2.1 j).trans (((fu_25 273 rfl).2.1 j).trans (((fu_18 273 rfl).2.1 j).trans ((uF_a).trans ((uF_a).trans (((hL24_ 273 rfl).2.1 j).trans ((uF_a).trans (uF_a)))))))))) (funext fun j => (uF_a).trans ((uF_a).trans (((fu_42 274 rfl).2.1 j).trans (((fu_25 274 rfl).2.1 j).trans (((fu_18 274 rfl).2.1 j).trans ((uF_a).trans ((uF_a).trans (((hL24_ 274 rfl).2.1 j).trans ((uF_a).trans (uF_a)))))))))) (funext fun j => (uF_l).trans ((uF_l).trans (((fu_42 260 rfl).2.2.1 j).trans (((fu_25 260 rfl).2.2.1 j).trans (((fu_18 260 rfl).2.2.1 j).trans ((uF_l).trans ((uF_l).trans (((hL24_ 260 rfl).2.2.1 j).trans ((uF_l).trans (uF_l)))))))))) (funext fun j => (uF_l).trans ((uF_l).trans (((fu_42 290 rfl).2.2.1 j).trans (((fu_25 290 rfl).2.2.1 j).trans (((fu_18 290 rfl).2.2.1 j).trans ((uF_l).trans ((uF_l).trans (((hL24_ 290 rfl).2.2.1 j).trans ((uF_l).trans (uF_l))))))))))), (dHA.sm (S := u_42) (u := (uF (uF u_42 231 22 (u_42.1 231 20)) 231 23 (u_42.1 231 21))) xu_42.1 (funext fun j => (uF_a).trans (uF_a))), (dUP.sm (S := u_42) (u := (uF (uF u_42 231 22 (u_42.1 231 20)) 231 23 (u_42.1 231 21))) xu_42.2.1 (funext fun j => (uF_a).trans (uF_a)) (funext fun j => (uF_a).trans (uF_a))), (by have y := (show (uF (uF u_42 231 22 (u_42.1 231 20)) 231 23 (u_42.1 231 21)).1 231 1 = 0 from (uF_ne (fun h => absurd h.2 (by decide))).trans ((uF_ne (fun h => absurd h.2 (by decide))).trans ((gu_42 1 rfl).trans ((gu_25 1 rfl).trans ((gu_18 1 rfl).trans ((uF_ne (fun h => absurd h.2 (by decide))).trans ((uF_ne (fun h => absurd h.2 (by decide))).trans ((gL24_ 1 rfl).trans (uF_on))))))))); omega), (fun z => absurd z (by omega)), (fun _ => ⟨T, kp, vp, hTT, (by rw [show u_42.1 231 20 = u_42.1 231 20 by have y := (show (uF (uF u_42 231 22 (u_42.1 231 20)) 231 23 (u_42.1 231 21)).1 231 20 = u_42.1 231 20 from (uF_ne (fun h => absurd h.2 (by decide))).trans (uF_ne (fun h => absurd h.2 (by decide)))); omega]; exact xu_42.2.2)⟩)⟩⟩ dX12_check_99
        · refine lv_aload_n hx hb dX12_check_32 rfl (lv_at hl 1 rfl) ?_
          refine g_X12_44 Cx hW (k := 231) (by decide) rfl (v := .ref (G.2.2.1 + 243)) (rd_13 hI24) dX12_check_33 ?_
          refine lv_iload_n hx hb dX12_check_36 rfl (lv_at hl 0 rfl) ?_
          refine lv_aload_n hx hb dX12_check_37 rfl (lv_at hl 1 rfl) ?_
          refine g_X12_9 Cx hW (k := 231) (by decide) rfl (v := .ref (G.2.2.1 + 232)) (rd_0 hI24) dX12_check_38 ?_
          refine lv_iload_n hx hb dX12_check_41 rfl (lv_at hl 0 rfl) ?_
          refine rBald Cx hW (k := 232) (by decide) rfl (by decide) (by omega) (by omega) dX12_check_42 ?_
          have q_55 : (-128) ≤ S.2.1 232 k ∧ S.2.1 232 k ≤ 127 := hI.ai 232 k
          refine r_i (b := S.2.1 232 k) (((hL24_ 232 rfl).2.1 k).trans ((uF_a).trans (uF_a))) ?_
          refine rBast Cx hW hL (k := 243) (by decide) rfl (by decide) (by omega) (by omega) (nar_b (by omega) (by omega)) dX12_check_43 (fun H locs hW hL => ?_)
          have F_56 : Fr S (uA S24 243 k (S.2.1 232 k)) (pl [231, 233, 234, 235, 237, 238, 240, 243, 244, 245, 246, 247, 277, 283, 284, 285, 286, 287, 288, 289, 291, 292, 293]) := hFm24.A rfl
          have F_57 : Fr ((uF (uF S 231 14 (S.1 231 1)) 231 1 0)) (uA S24 243 k (S.2.1 232 k)) (pl [243]) := hL24_.A rfl
          have i_58 : dX G (uA S24 243 k (S.2.1 232 k)) := hI24.A (k := 243) (show (-128) ≤ S.2.1 232 k ∧ S.2.1 232 k ≤ 127 from ⟨by omega, by omega⟩)
          refine lv_iinc (v := iv (k + 1)) (lv' := [(1, .int (iv (k + 1))), (0, .ref (G.2.2.1 + 231))]) hx hb dX12_check_44 hl (k := 0) rfl ((Int32.ofInt_add _ _).symm) (by decide) rfl (fun ls hl => ?_)
          refine lv_goto (tgt := 24) hx hb dX12_check_47 (by decide) ?_
          exact ih_24 (uA S24 243 k (S.2.1 232 k)) (k + 1) _ _ _ (by omega) i_58 F_56 F_57 hGm24 gL24_ (by omega) (fun x a b => by rw [uA_get]; by_cases z : x = k; (rw [if_pos ⟨rfl, z⟩, z]); (rw [if_neg (fun h => z h.2)]; exact hcp x a (by omega))) hW hL (lv_sub hl [0, 1] rfl)
    exact loop_24 (_ + 1) (uF (uF S 231 14 (S.1 231 1)) 231 1 0) 0 _ _ _ (Nat.lt_succ_self _) i_7 F_5 Fr.rf g_6 FF.rf (by omega) (fun x a b => absurd b (by omega)) hW hL (lv_sub hl [0, 1] rfl)
  · refine lv_iconst (v := iv (-1)) hx hb dX12_check_20 (by decide) ?_
    have lk_59 : (uF (uF S 231 14 (S.1 231 1)) 231 1 0).1 231 1 = 0 := uF_on
    exact sIret Cx hr hlk hW hL ⟨i_7, F_5, g_6, ⟨(XI.sm (S := S) (u := (uF (uF S 231 14 (S.1 231 1)) 231 1 0)) hXI ((uF_ne (fun h => absurd h.2 (by decide))).trans (uF_ne (fun h => absurd h.2 (by decide)))) ((uF_ne (fun h => absurd h.2 (by decide))).trans (uF_ne (fun h => absurd h.2 (by decide)))) ((uF_ne (fun h => absurd h.2 (by decide))).trans (uF_ne (fun h => absurd h.2 (by decide)))) ((uF_ne (fun h => absurd h.2 (by decide))).trans (uF_ne (fun h => absurd h.2 (by decide)))) ((uF_ne (fun h => absurd h.2 (by decide))).trans (uF_ne (fun h => absurd h.2 (by decide)))) ((uF_ne (fun h => absurd h.2 (by decide))).trans (uF_ne (fun h => absurd h.2 (by decide)))) ((uF_ne (fun h => absurd h.2 (by decide))).trans (uF_ne (fun h => absurd h.2 (by decide)))) ((uF_ne (fun h => absurd h.2 (by decide))).trans (uF_ne (fun h => absurd h.2 (by decide)))) ((uF_ne (fun h => absurd h.2 (by decide))).trans (uF_ne (fun h => absurd h.2 (by decide)))) ((uF_ne (fun h => absurd h.2 (by decide))).trans (uF_ne (fun h => absurd h.2 (by decide)))) ((uF_ne (fun h => absurd h.2 (by decide))).trans (uF_ne (fun h => absurd h.2 (by decide)))) ((uF_ne (fun h => absurd h.2 (by decide))).trans (uF_ne (fun h => absurd h.2 (by decide)))) ((uF_ne (fun h => absurd h.2 (by decide))).trans (uF_ne (fun h => absurd h.2 (by decide)))) ((uF_ne (fun h => absurd h.2 (by decide))).trans (uF_ne (fun h => absurd h.2 (by decide)))) ((uF_ne (fun h => absurd h.2 (by decide))).trans (uF_ne (fun h => absurd h.2 (by decide)))) ((uF_ne (fun h => absurd h.2 (by decide))).trans (uF_ne (fun h => absurd h.2 (by decide)))) ((uF_ne (fun h => absurd h.2 (by decide))).trans (uF_ne (fun h => absurd h.2 (by decide)))) ((uF_ne (fun h => absurd h.2 (by decide))).trans (uF_ne (fun h => absurd h.2 (by decide)))) ((uF_ne (fun h => absurd h.2 (by decide))).trans (uF_ne (fun h => absurd h.2 (by decide)))) (funext fun j => (uF_a).trans (uF_a)) (funext fun j => (uF_a).trans (uF_a)) (funext fun j => (uF_a).trans (uF_a)) (funext fun j => (uF_a).trans (uF_a)) (funext fun j => (uF_a).trans (uF_a)) (funext fun j => (uF_a).trans (uF_a)) (funext fun j => (uF_a).trans (uF_a)) (funext fun j => (uF_a).trans (uF_a)) (funext fun j => (uF_a).trans (uF_a)) (funext fun j => (uF_a).trans (uF_a)) (funext fun j => (uF_a).trans (uF_a)) (funext fun j => (uF_a).trans (uF_a)) (funext fun j => (uF_a).trans (uF_a)) (funext fun j => (uF_l).trans (uF_l)) (funext fun j => (uF_l).trans (uF_l))), (dHA.sm (S := S) (u := (uF (uF S 231 14 (S.1 231 1)) 231 1 0)) hHA (funext fun j => (uF_a).trans (uF_a))), (dUP.sm (S := S) (u := (uF (uF S 231 14 (S.1 231 1)) 231 1 0)) hUP0 (funext fun j => (uF_a).trans (uF_a)) (funext fun j => (uF_a).trans (uF_a))), (by have y := (show (uF (uF S 231 14 (S.1 231 1)) 231 1 0).1 231 1 = 0 from uF_on); omega), (fun _ => rfl), (fun z => absurd (by omega) z)⟩⟩ dX12_check_21
