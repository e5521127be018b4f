/-! The class's begin and work by the machine; what the calls between leave -/
def pSv (k : Nat) : Bool := rgB 119 121 k || rgB 135 140 k || rgB 160 162 k
def svE (S u : sS) : Prop := ∀ k, pSv k = true → (∀ i, u.1 k i = S.1 k i) ∧ (∀ j, u.2.1 k j = S.2.1 k j) ∧ ∀ j, u.2.2.2 k j = S.2.2.2 k j
theorem svE.rf {S : sS} : svE S S := fun _ _ => ⟨fun _ => rfl, fun _ => rfl, fun _ => rfl⟩
theorem svE.tr {S u v : sS} (h : svE S u) (g : svE u v) : svE S v := fun k hk => ⟨fun i => ((g k hk).1 i).trans ((h k hk).1 i), fun j => ((g k hk).2.1 j).trans ((h k hk).2.1 j), fun j => ((g k hk).2.2 j).trans ((h k hk).2.2 j)⟩
theorem svE.of {S u : sS} {P : Nat → Bool} (f : Fr S u P) (hP : ∀ k, pSv k = true → P k = false) : svE S u := fun k hk => ⟨fun i => (f k (hP k hk)).1 i, fun j => (f k (hP k hk)).2.1 j, fun j => (f k (hP k hk)).2.2.2 j⟩
theorem svE.F0 {S : sS} {i : Nat} {v : Int} : svE S (uF S 0 i v) := fun k hk => ⟨fun _ => uF_ne (fun h => by rw [h.1] at hk; cases hk), fun _ => uF_a, fun _ => uF_r⟩
theorem pSv_Nz : ∀ k, pSv k = true → pNz k = false := fun k h => by
  cases e : pNz k
  · rfl
  · simp only [pSv, pNz, rgB, Bool.or_eq_true, Bool.and_eq_true, Nat.ble_eq, Nat.beq_eq] at h e; omega
theorem pSv_Zz : ∀ k, pSv k = true → pZz k = false := fun k h => by
  cases e : pZz k
  · rfl
  · simp only [pSv, pZz, rgB, Bool.or_eq_true, Bool.and_eq_true, Nat.ble_eq, Nat.beq_eq] at h e; omega
theorem pSv_B1 : ∀ k, pSv k = true → pB 1 k = false := fun k h => by
  cases e : pB 1 k
  · rfl
  · unfold pB at e; simp only [pSv, rgB, Bool.or_eq_true, Bool.and_eq_true, Nat.ble_eq, Nat.beq_eq] at h e; omega
theorem pSv_lt {k : Nat} (h : pSv k = true) : k < 231 := by
  simp only [pSv, rgB, Bool.or_eq_true, Bool.and_eq_true, Nat.ble_eq, Nat.beq_eq] at h; omega
theorem SRq.fr {G : sG} {S u : sS} {oc od md : Nat} {n mm mx al : Int} {A : Int → Int → Int} {wh : Int → Int} {RR : Int → Int → Int} {W : wT} (h : SRq G S oc od md n mm mx al A wh RR W) (e : svE S u) (o : OTc S u md) : SRq G u oc od md n mm mx al A wh RR W := by
  obtain ⟨h1, h2, h3, h4, h5, h6, ⟨h7, h8⟩, h9, h10⟩ := h
  have eoc : u.2.1 oc = S.2.1 oc := by
    rcases h1.1 with q | q
    · rw [q]; exact funext fun x => (e 136 rfl).2.1 x
    · rw [q]; exact funext fun x => (e 137 rfl).2.1 x
  refine ⟨⟨h1.1, h1.2.1, h1.2.2.1, ((e 135 rfl).2.2 0).trans h1.2.2.2.1, ((e 135 rfl).2.2 1).trans h1.2.2.2.2⟩, DRc.of h2 ((e 135 rfl).1 13) ((e 135 rfl).1 14) ((e 135 rfl).1 15) ((e 135 rfl).1 16) eoc (funext fun x => (e 138 rfl).2.1 x) (funext fun x => (e 139 rfl).2.1 x), KSc.of h3 ((e 135 rfl).1 19) (funext fun x => (e 140 rfl).2.1 x), TXc.of h4 ((e 160 rfl).1 1) ((e 160 rfl).1 2) (funext fun x => (e 161 rfl).2.1 x), RWz.of h5 ((e 120 rfl).1 8) ((e 120 rfl).1 9) (funext fun x => (e 121 rfl).2.1 x), h6, ⟨((e 119 rfl).2.2 7).trans h7, MDv.of h8 o.1 o.2.1 o.2.2.1 o.2.2.2.2 o.2.2.2.1⟩, BPc.of h9 (funext fun x => (e 162 rfl).2.1 x), ?_⟩
  unfold CRc at h10 ⊢
  rw [(e 119 rfl).1 8, (e 119 rfl).1 9, (e 119 rfl).1 10, (e 119 rfl).1 11, (e 119 rfl).1 12, (e 119 rfl).1 13, (e 119 rfl).1 14, (e 119 rfl).1 15, (e 119 rfl).1 16, (e 135 rfl).1 17, (e 135 rfl).1 18]
  exact h10
/-- the class's search, begun -/
def CGr (G : sG) (S : sS) (md : Nat) (n mm mx al : Int) (A : Int → Int → Int) (wh : Int → Int) (W : wT) : Prop := (W.2.1 0 = 1 → S.1 119 9 = 1 ∧ (∃ oc od RR, SRq G S oc od md n mm mx al A wh RR W) ∧ (Iv (KKm n A wh al) W ∧ Iw W) ∧ ¬ 30000 < W.2.2.1.length) ∧ (W.2.1 0 ≠ 1 → S.1 119 9 ≠ 1)
theorem CGr.fr {G : sG} {S u : sS} {md : Nat} {n mm mx al : Int} {A : Int → Int → Int} {wh : Int → Int} {W : wT} (h : CGr G S md n mm mx al A wh W) (e : svE S u) (o : OTc S u md) : CGr G u md n mm mx al A wh W := by
  refine ⟨fun q => ?_, fun q => by rw [(e 119 rfl).1 9]; exact h.2 q⟩
  obtain ⟨a, ⟨oc, od, RR, b⟩, c, d⟩ := h.1 q
  exact ⟨by rw [(e 119 rfl).1 9]; exact a, ⟨oc, od, RR, b.fr e o⟩, c, d⟩
theorem CGr.mk {G : sG} {S u : sS} {md : Nat} {n mm mx al : Int} {A : Int → Int → Int} {wh : Int → Int} {U : wT} (h9 : S.1 119 9 = U.2.1 0) (hS : U.2.1 0 ≤ 4 → ∃ oc od RR, SRq G S oc od md n mm mx al A wh RR U) (hI : U.2.1 0 = 1 → (Iv (KKm n A wh al) U ∧ Iw U) ∧ ¬ 30000 < U.2.2.1.length) (p1 : S.1 119 9 = 1 → u = S) (p2 : S.1 119 9 ≠ 1 → u.1 119 9 ≠ 1) : CGr G u md n mm mx al A wh U := by
  refine ⟨fun q => ?_, fun q => p2 (by rw [h9]; exact q)⟩
  have e := p1 (h9.trans q)
  subst e
  exact ⟨h9.trans q, hS (by omega), (hI q).1, (hI q).2⟩
def CIr (G : sG) (S : sS) (md : Nat) (n mm mx al : Int) (A : Int → Int → Int) (wh : Int → Int) (W : wT) : Prop := (S.1 0 8 = 0 → W.2.1 0 ≠ 1) ∧ (S.1 0 8 ≠ 0 → CGr G S md n mm mx al A wh W) ∧ (W.2.1 0 = 1 → (0 ≤ n ∧ n ≤ 12 ∧ 0 ≤ al ∧ al ≤ 20) ∧ 0 ≤ mm)
theorem CIr.fr {G : sG} {S u : sS} {md : Nat} {n mm mx al : Int} {A : Int → Int → Int} {wh : Int → Int} {W : wT} (h : CIr G S md n mm mx al A wh W) (e : svE S u) (o : OTc S u md) (h8 : u.1 0 8 = S.1 0 8) : CIr G u md n mm mx al A wh W := ⟨fun q => h.1 (h8.symm.trans q), fun q => (h.2.1 (fun z => q (h8.trans z))).fr e o, h.2.2⟩
theorem hwA.one {m : Int} {A : Int → Int → Int} {h1 h2 : Int} (a : hwA m A h1) (b : hwA m A h2) : h1 = h2 := by
  rcases a with ⟨a, p⟩ | ⟨a, i, hi, p⟩ <;> rcases b with ⟨b, q⟩ | ⟨b, j, hj, q⟩
  · omega
  · have := p j hj.1 hj.2; omega
  · have := q i hi.1 hi.2; omega
  · omega
theorem RGr.sm {S u : sS} {n mm mx al : Int} {A : Int → Int → Int} {wh : Int → Int} {W : wT} (h : RGr S n mm mx al A wh W) (hr : RRq u n mm mx al A wh W) (e62 : u.1 231 62 = S.1 231 62) : RGr u n mm mx al A wh W := by
  obtain ⟨_, b, c, d, m⟩ := h
  refine ⟨hr, b, c, d, ?_⟩
  unfold mdR; rw [e62]; exact m
theorem XIr.sm {S u : sS} {n mm mx al : Int} {A : Int → Int → Int} {wh : Int → Int} {W : wT} (h : XIr S n mm mx al A wh W) (e46 : u.1 231 46 = S.1 231 46) (e47 : u.1 231 47 = S.1 231 47) (e48 : u.1 231 48 = S.1 231 48) (e49 : u.1 231 49 = S.1 231 49) (e58 : u.1 231 58 = S.1 231 58) (e59 : u.1 231 59 = S.1 231 59) (e60 : u.1 231 60 = S.1 231 60) (e61 : u.1 231 61 = S.1 231 61) (e62 : u.1 231 62 = S.1 231 62) (e65 : u.1 231 65 = S.1 231 65) (e68 : u.1 231 68 = S.1 231 68) (e69 : u.1 231 69 = S.1 231 69) (e70 : u.1 231 70 = S.1 231 70) (e71 : u.1 231 71 = S.1 231 71) (e72 : u.1 231 72 = S.1 231 72) (e78 : u.1 231 78 = S.1 231 78) (e79 : u.1 231 79 = S.1 231 79) (e84 : u.1 231 84 = S.1 231 84) (a259 : u.2.1 259 = S.2.1 259) (a262 : u.2.1 262 = S.2.1 262) (a264 : u.2.1 264 = S.2.1 264) (a265 : u.2.1 265 = S.2.1 265) (a266 : u.2.1 266 = S.2.1 266) (a267 : u.2.1 267 = S.2.1 267) (a268 : u.2.1 268 = S.2.1 268) (a269 : u.2.1 269 = S.2.1 269) (a270 : u.2.1 270 = S.2.1 270) (a271 : u.2.1 271 = S.2.1 271) (a272 : u.2.1 272 = S.2.1 272) (a273 : u.2.1 273 = S.2.1 273) (a275 : u.2.1 275 = S.2.1 275) (l260 : u.2.2.1 260 = S.2.2.1 260) (l290 : u.2.2.1 290 = S.2.2.1 290) : XIr u n mm mx al A wh W := by
  have rr : ∀ V, RRq S n mm mx al A wh V → RRq u n mm mx al A wh V := fun V q => q.sm e46 e47 e48 e49 e58 e59 e60 e65 e68 e69 e78 e79 e84 a259 a262 a264 a265 a266 a267 a268 a269 a270 a271 a272 a273 a275 l260 l290
  refine ⟨fun q => ⟨fun z => ?_, fun z => ?_⟩, fun q => h.2 (fun z => q (e61.trans z))⟩
  · have a := (h.1 (e61.symm.trans q)).1 (e70.symm.trans z)
    exact a.sm (rr W a.1) e62
  · have a := (h.1 (e61.symm.trans q)).2 (fun y => z (e70.trans y))
    exact a.to (rr W a.1) e62 e71 e72
theorem XIr.cls {S u : sS} {n mm mx al : Int} {A : Int → Int → Int} {wh : Int → Int} {W : wT} (h : XIr S n mm mx al A wh W) (f : Fr S u pA) : XIr u n mm mx al A wh W := by
  have F := fun i => (f 231 rfl).1 i
  have R : ∀ k, pA k = false → u.2.1 k = S.2.1 k := fun k hk => funext fun j => (f k hk).2.1 j
  have L : ∀ k, pA k = false → u.2.2.1 k = S.2.2.1 k := fun k hk => funext fun j => (f k hk).2.2.1 j
  exact h.sm (F 46) (F 47) (F 48) (F 49) (F 58) (F 59) (F 60) (F 61) (F 62) (F 65) (F 68) (F 69) (F 70) (F 71) (F 72) (F 78) (F 79) (F 84) (R 259 rfl) (R 262 rfl) (R 264 rfl) (R 265 rfl) (R 266 rfl) (R 267 rfl) (R 268 rfl) (R 269 rfl) (R 270 rfl) (R 271 rfl) (R 272 rfl) (R 273 rfl) (R 275 rfl) (L 260 rfl) (L 290 rfl)
/-- between the calls: class and reference tell one state of the machine -/
def SLV (G : sG) (S : sS) (y : Nat) (i : Int) : Prop := ∃ n mm mx al A wh W, CIr G S y n mm mx al A wh W ∧ XIr S n mm mx al A wh W ∧ 0 ≤ W.2.1 4 ∧ W.2.1 4 ≤ 84 * i
theorem SLV.up {G : sG} {S : sS} {y : Nat} {i j : Int} (h : SLV G S y i) (e : i ≤ j) : SLV G S y j := by
  obtain ⟨n, mm, mx, al, A, wh, W, a, b, c, d⟩ := h
  exact ⟨n, mm, mx, al, A, wh, W, a, b, c, by omega⟩
theorem SLV.no {G : sG} {S : sS} {y : Nat} {i : Int} (hi : 0 ≤ i) (h8 : S.1 0 8 = 0) (h61 : S.1 231 61 = 0) : SLV G S y i := ⟨0, 0, 0, 0, fun _ _ => 0, fun _ => 0, (dS0 0 0 (fun _ _ => 0) 0, fun _ => 0, [], [], 0, 0, fun _ => 0), ⟨fun _ q => absurd (show (0 : Int) = 1 from q) (by decide), fun q => absurd h8 q, fun q => absurd (show (0 : Int) = 1 from q) (by decide)⟩, ⟨fun q => by omega, fun _ q => absurd (show (0 : Int) = 1 from q) (by decide)⟩, Int.le_refl _, by show (0 : Int) ≤ 84 * i; omega⟩
theorem SLV.fr {G : sG} {S u : sS} {y : Nat} {i j : Int} (h : SLV G S y i) (ij : i ≤ j) (e : svE S u) (o : OTc S u y) (h8 : u.1 0 8 = S.1 0 8) (x : ∀ n mm mx al A wh W, XIr S n mm mx al A wh W → XIr u n mm mx al A wh W) : SLV G u y j := by
  obtain ⟨n, mm, mx, al, A, wh, W, a, b, c, d⟩ := h
  exact ⟨n, mm, mx, al, A, wh, W, a.fr e o h8, x _ _ _ _ _ _ _ b, c, by omega⟩
/-- behind begin -/
theorem SLV.bg {G : sG} {S u1 u2 : sS} {y : Nat} {i k r1 r2 n mm mx : Int} {A : Int → Int → Int} {wh : Int → Int} (h : SLV G S y i) (hi : 0 ≤ i) (hr : 0 ≤ r1 ∧ r1 ≤ 1) (er : r1 = r2) (hn : r1 = 1 → (0 ≤ n ∧ n ≤ 12) ∧ 0 ≤ mm ∧ 0 ≤ k ∧ k ≤ 20) (c0 : r1 = 0 → u1 = S) (c1 : r1 = 1 → u1.1 0 8 = 1 ∧ ∃ hw, hwA mm A hw ∧ ∃ oc od RR, SRq G u1 oc od y n mm mx k A wh RR (W0m n mm A hw)) (d0 : r2 = 0 → u2 = u1) (e : svE u1 u2) (o : OTc u1 u2 y) (h8 : u2.1 0 8 = u1.1 0 8) (d1 : r2 = 1 → u2.1 231 61 = 1 ∧ u2.1 231 70 = 0) (d2 : r2 = 1 → ∃ hw, hwA mm A hw ∧ RGr u2 n mm mx k A wh (W0m n mm A hw)) : SLV G u2 y (i + 6) := by
  by_cases q : r1 = 1
  · obtain ⟨b8, hw, ha, oc, od, RR, hS⟩ := c1 q
    obtain ⟨hw2, ha2, hG⟩ := d2 (by omega)
    have z := hwA.one ha ha2
    subst z
    have d := d1 (by omega)
    have hq := hn q
    have s9 : u1.1 119 9 = 1 := hS.2.2.2.2.2.2.2.2.2.1
    refine ⟨n, mm, mx, k, A, wh, W0m n mm A hw, ⟨fun z => by omega, fun _ => ?_, fun _ => ⟨⟨hq.1.1, hq.1.2, hq.2.2⟩, hq.2.1⟩⟩, ⟨fun _ => ⟨fun _ => hG, fun z => absurd d.2 z⟩, fun z => absurd d.1 z⟩, Int.le_refl _, by show (0 : Int) ≤ 84 * (i + 6); omega⟩
    refine CGr.fr ⟨fun _ => ⟨s9, ⟨oc, od, RR, hS⟩, hG.2.1, fun z => absurd (show 30000 < 0 from z) (by decide)⟩, fun z => absurd rfl z⟩ e o
  · have e1 := c0 (by omega)
    have e2 := d0 (by omega)
    rw [e2, e1]; exact h.up (by omega)
/-- behind work, where the work goes on -/
theorem SLV.wk {G : sG} {S u1 u2 : sS} {y : Nat} {i k r1 r2 n mm mx al : Int} {A : Int → Int → Int} {wh : Int → Int} {W : wT} (hW : W.2.1 0 = 1) (hC : CIr G S y n mm mx al A wh W) (hX : XIr u1 n mm mx al A wh W) (hp : 0 ≤ W.2.1 4 ∧ W.2.1 4 ≤ 84 * i) (c8 : u1.1 0 8 = 1) (pc : (k < 1 ∨ 500 < k → r1 = -1 ∧ u1 = S) ∧ (1 ≤ k ∧ k ≤ 500 → ∃ U, wkW (KKm n A wh al) W (W.2.1 4 + k) U ∧ stW U (W.2.1 4 + k) ∧ r1 = U.2.1 4 - W.2.1 4 ∧ (0 ≤ r1 ∧ r1 ≤ k) ∧ CGr G u1 y n mm mx al A wh U)) (pr : WKr u1 u2 n mm mx al A wh W k r2) (e : svE u1 u2) (o : OTc u1 u2 y) (h8 : u2.1 0 8 = u1.1 0 8) : r1 = r2 ∧ SLV G u2 y (i + 6) := by
  have h61 : u1.1 231 61 = 1 := by
    by_cases q : u1.1 231 61 = 1
    · exact q
    · exact absurd hW (hX.2 q)
  have hb := hC.2.2 hW
  by_cases q : 1 ≤ k ∧ k ≤ 500
  · obtain ⟨U, a, b, c, d0, d⟩ := pc.2 q
    obtain ⟨V, a2, b2, c2, d2⟩ := pr.2.2 q h61
    have z := a.one a2 b b2
    subst z
    refine ⟨by omega, n, mm, mx, al, A, wh, U, ⟨fun z => by omega, fun _ => d.fr e o, fun _ => hb⟩, d2, by omega, by omega⟩
  · have a := pc.1 (by omega)
    have b := pr.1 (by omega)
    refine ⟨by omega, n, mm, mx, al, A, wh, W, ?_, b.2, hp.1, by omega⟩
    have c := hC
    rw [← a.2] at c
    exact c.fr e o h8
theorem SLV.w0 {G : sG} {S u1 u2 : sS} {y : Nat} {i k r1 r2 n mm mx al : Int} {A : Int → Int → Int} {wh : Int → Int} {W : wT} (hW : W.2.1 0 ≠ 1) (hX : XIr u1 n mm mx al A wh W) (hp : 0 ≤ W.2.1 4 ∧ W.2.1 4 ≤ 84 * i) (c8 : u1.1 0 8 = S.1 0 8) (c9 : S.1 0 8 = 0 ∨ u1.1 119 9 ≠ 1) (p1 : k < 1 ∨ 500 < k → r1 = -1) (p2 : 1 ≤ k ∧ k ≤ 500 → r1 = 0) (pr : WKr u1 u2 n mm mx al A wh W k r2) (e : svE u1 u2) (h8 : u2.1 0 8 = u1.1 0 8) : r1 = r2 ∧ SLV G u2 y (i + 6) := by
  have h61 : u1.1 231 61 ≠ 1 := fun q => by
    have a := hX.1 q
    by_cases z : u1.1 231 70 = 0
    · exact hW (a.1 z).2.2.1
    · exact hW (a.2 z).2.2.1
  have cg : CIr G u2 y n mm mx al A wh W := ⟨fun _ => hW, fun q => ⟨fun z => absurd z hW, fun _ => by rw [(e 119 rfl).1 9]; rcases c9 with z | z; (exact absurd (h8.trans (c8.trans z)) q); (exact z)⟩, fun z => absurd z hW⟩
  by_cases q : 1 ≤ k ∧ k ≤ 500
  · have b := pr.2.1 q h61
    exact ⟨by have := p2 q; omega, n, mm, mx, al, A, wh, W, cg, b.2, hp.1, by omega⟩
  · have b := pr.1 (by omega)
    exact ⟨by have := p1 (by omega); omega, n, mm, mx, al, A, wh, W, cg, b.2, hp.1, by omega⟩
/-- the numbers of a model, naught outside it -/
def clA (n mm : Int) (A : Int → Int → Int) : Int → Int → Int := fun k j => if (0 ≤ k ∧ k ≤ mm) ∧ 0 ≤ j ∧ j ≤ n then A k j else 0
theorem clA_in {n mm : Int} {A : Int → Int → Int} {k j : Int} (hk : 0 ≤ k ∧ k ≤ mm) (hj : 0 ≤ j ∧ j ≤ n) : clA n mm A k j = A k j := if_pos ⟨hk, hj⟩
theorem MDv.cl {S : sS} {o : Nat} {n mm mx : Int} {A : Int → Int → Int} {wh : Int → Int} (h : MDv S o n mm mx A wh) : MDv S o n mm mx (clA n mm A) wh := ⟨h.1, h.2.1, h.2.2.1, fun k j a b c d => by rw [clA_in ⟨a, b⟩ ⟨c, d⟩]; exact h.2.2.2.1 k j a b c d, h.2.2.2.2⟩
theorem MDr.cl {S : sS} {n mm mx : Int} {A : Int → Int → Int} {wh : Int → Int} (h : MDr S n mm mx A wh) (hm : 0 ≤ mm) : MDr S n mm mx (clA n mm A) wh := ⟨h.1, h.2.1, h.2.2.1, h.2.2.2.1, fun j a b => by rw [clA_in ⟨Int.le_refl _, hm⟩ ⟨a, b⟩]; exact h.2.2.2.2.1 j a b, fun k j a b c d => by rw [clA_in ⟨by omega, b⟩ ⟨c, d⟩]; exact h.2.2.2.2.2.1 k j a b c d, h.2.2.2.2.2.2⟩
theorem clA_b {S : sS} {n mm mx : Int} {A : Int → Int → Int} {wh : Int → Int} (h : MDr S n mm mx A wh) (g : GM S) (k j : Int) : -100000 ≤ clA n mm A k j ∧ clA n mm A k j ≤ 100000 := by
  unfold clA
  by_cases q : (0 ≤ k ∧ k ≤ mm) ∧ 0 ≤ j ∧ j ≤ n
  · rw [if_pos q]
    by_cases z : k = 0
    · rw [z, ← h.2.2.2.2.1 j q.2.1 q.2.2]; exact g.1 j
    · rw [← h.2.2.2.2.2.1 k j (by omega) q.1.2 q.2.1 q.2.2]; exact g.2 _
  · rw [if_neg q]; omega
theorem OTc.F0 {S : sS} {y i : Nat} {v : Int} (m : mdl y) : OTc S (uF S 0 i v) y := by
  have ne : y ≠ 0 := fun h => by have t := m.1; rw [h] at t; cases t
  exact ⟨uF_ne (fun h => ne h.1), uF_ne (fun h => ne h.1), uF_ne (fun h => ne h.1), rfl, rfl⟩
set_option maxRecDepth 100000 in
set_option maxHeartbeats 4000000 in
theorem v_X7_isProved (l : Launch) (G : sG) (S : sS)  (hI : cX G S 0 0 0) : Met l yX7_isProved (.code yX7_isProved cX7_isProved 1 (some .boolean) :: tb) (rmk 1 0 0) (sPc G 294 S [.ref (G.2.2.1 + 119)]) (sQi G 294 (fun r u => u = S ∧ (0 ≤ r ∧ r ≤ 1 ∧ (r = 1 → S.1 119 9 ≠ 1)))) 0 0 (sF G) := by
  refine sEnter (by decide) (Nat.le_of_ble_eq_true rfl) ?_
  intro p e s m args below meth c Cx hr hlk hnm hW ls hl
  have Cx : sC G p m c cX7_isProved 1 s args RX7 := Cx
  obtain ⟨hx, hb, hml, hown, hts⟩ := id Cx.1
  have hL : sL G [] := sL_nil
  have hl : lv_has ls 1 [(0, .ref (G.2.2.1 + 119))] := hl
  have hW0 := hW
  refine lv_aload_n hx hb dX7_isProved_0 rfl (lv_at hl 0 rfl) ?_
  have q_1 : 0 ≤ S.1 119 9 ∧ S.1 119 9 ≤ 6 := hI.fi 119 9 7 (by decide) rfl
  refine g_X7_69 Cx hW (k := 119) (by decide) rfl (v := S.1 119 9) rfl dX7_isProved_1 ?_
  refine lv_iconst (v := iv 2) hx hb dX7_isProved_4 (by decide) ?_
  refine r_icmp_lt (tgt := 20) hx hb ⟨(by omega), (by omega)⟩ ⟨(by omega), (by omega)⟩ dX7_isProved_5 (by decide) (fun c_2 => ?_) (fun c_2 => ?_)
  · refine lv_iconst (v := iv 0) hx hb dX7_isProved_20 (by decide) ?_
    exact sZret Cx hr hlk hW hL (by omega) ⟨rfl, ⟨by omega, by omega, fun q => by omega⟩⟩ dX7_isProved_21
  · refine lv_aload_n hx hb dX7_isProved_8 rfl (lv_at hl 0 rfl) ?_
    refine g_X7_69 Cx hW (k := 119) (by decide) rfl (v := S.1 119 9) rfl dX7_isProved_9 ?_
    refine lv_iconst (v := iv 4) hx hb dX7_isProved_12 (by decide) ?_
    refine r_icmp_gt (tgt := 20) hx hb ⟨(by omega), (by omega)⟩ ⟨(by omega), (by omega)⟩ dX7_isProved_13 (by decide) (fun c_3 => ?_) (fun c_3 => ?_)
    · refine lv_iconst (v := iv 0) hx hb dX7_isProved_20 (by decide) ?_
      exact sZret Cx hr hlk hW hL (by omega) ⟨rfl, ⟨by omega, by omega, fun q => by omega⟩⟩ dX7_isProved_21
    · refine lv_iconst (v := iv 1) hx hb dX7_isProved_16 (by decide) ?_
      refine lv_goto (tgt := 21) hx hb dX7_isProved_17 (by decide) ?_
      exact sZret Cx hr hlk hW hL (by omega) ⟨rfl, ⟨by omega, by omega, fun q => by omega⟩⟩ dX7_isProved_21

set_option maxRecDepth 100000 in
set_option maxHeartbeats 4000000 in
theorem v_X7_prove (l : Launch) (G : sG) (S : sS)  (hI : cX G S 0 0 0) : Met l yX7_prove (.code yX7_prove cX7_prove 1 none :: tb) (rmk 8 0 0) (sPc G 294 S [.ref (G.2.2.1 + 119)]) (sQv G 294 (fun u => cX G u 0 0 0 ∧ Fr S u pH ∧ ((S.1 119 9 = 1 → u = S) ∧ (S.1 119 9 ≠ 1 → u.1 119 9 ≠ 1)))) 0 0 (sF G) := by
  refine sEnter (by decide) (Nat.le_of_ble_eq_true rfl) ?_
  intro p e s m args below meth c Cx hr hlk hnm hW ls hl
  have Cx : sC G p m c cX7_prove 1 s args RX7 := Cx
  obtain ⟨hx, hb, hml, hown, hts⟩ := id Cx.1
  have hL : sL G [] := sL_nil
  have hl : lv_has ls 1 [(0, .ref (G.2.2.1 + 119))] := hl
  have hW0 := hW
  refine lv_aload_n hx hb dX7_prove_0 rfl (lv_at hl 0 rfl) ?_
  have q_1 : 0 ≤ S.1 119 9 ∧ S.1 119 9 ≤ 6 := hI.fi 119 9 7 (by decide) rfl
  refine sBi (sV (As := []) (rest := []) (k := 119) Cx (v_X7_isProved l G S  hI) (c_X7_104 Cx rfl rfl (rmk_ok (by omega) (by decide))) hW (by decide) rfl rfl rfl hl.1 rfl (Nat.le_of_ble_eq_true rfl) dX7_prove_1 ⟨Nat.le_of_ble_eq_true rfl, Nat.le_of_ble_eq_true rfl⟩) hL (fun r_4 u_2 H locs k_3 hW hL => ?_)
  obtain ⟨eu_2, xu_2⟩ := k_3
  rw [eu_2] at hW
  refine r_if_eq (tgt := 17) hx hb ⟨(by omega), (by omega)⟩ dX7_prove_4 (by decide) (fun c_5 => ?_) (fun c_5 => ?_)
  · exact sVret Cx hr hlk hW hL ⟨hI, (Fr.rf : Fr S S pH), ⟨fun _ => rfl, fun q => q⟩⟩ dX7_prove_17
  · refine lv_aload_n hx hb dX7_prove_7 rfl (lv_at hl 0 rfl) ?_
    refine g_X7_28 Cx hW (k := 119) (by decide) rfl (v := .ref (G.2.2.1 + 157)) (rf_119_2 hI) dX7_prove_8 ?_
    refine sBi (sV (As := []) (rest := []) (k := 157) Cx (s_X5_isMade l G S  hI) (c_X7_158 Cx rfl rfl (rmk_ok (by omega) (by decide))) hW (by decide) rfl rfl rfl hl.1 rfl (Nat.le_of_ble_eq_true rfl) dX7_prove_11 ⟨Nat.le_of_ble_eq_true rfl, Nat.le_of_ble_eq_true rfl⟩) hL (fun r_8 u_6 H locs k_7 hW hL => ?_)
    obtain ⟨eu_6, xu_6⟩ := k_7
    rw [eu_6] at hW
    refine r_if_eq (tgt := 18) hx hb ⟨(by omega), (by omega)⟩ dX7_prove_14 (by decide) (fun c_9 => ?_) (fun c_9 => ?_)
    · have join_81 : ∀ (S81 : sS)  (H : Heap) (locs : List Loc) (ls : Array Slot), (cX G S81 0 0 0) → (Fr S S81 pH) → (Fr S S81 pH) → (S81.1 119 9 = S.1 119 9) → sW G 294 S81 H → sL G locs → lv_has ls 1 [(0, .ref (G.2.2.1 + 119))] → W p l e (rmk 8 0 0) s m args below meth c H locs 0 0 (MQ below (sQv G 294 (fun u => cX G u 0 0 0 ∧ Fr S u pH ∧ ((S.1 119 9 = 1 → u = S) ∧ (S.1 119 9 ≠ 1 → u.1 119 9 ≠ 1)))) args s 0 0 (sF G)) (F0 m 81 ls []) := by
        intro S81  H locs ls hI81 hFm81 hL81_ h919 hW hL hl
        refine lv_aload_n hx hb dX7_prove_81 rfl (lv_at hl 0 rfl) ?_
        refine g_X7_28 Cx hW (k := 119) (by decide) rfl (v := .ref (G.2.2.1 + 157)) (rf_119_2 hI81) dX7_prove_82 ?_
        refine sBi (sV (As := []) (rest := []) (k := 157) Cx (s_X5_isOver l G S81  hI81) (c_X7_171 Cx rfl rfl (rmk_ok (by omega) (by decide))) hW (by decide) rfl rfl rfl hl.1 rfl (Nat.le_of_ble_eq_true rfl) dX7_prove_85 ⟨Nat.le_of_ble_eq_true rfl, Nat.le_of_ble_eq_true rfl⟩) hL (fun r_12 u_10 H locs k_11 hW hL => ?_)
        obtain ⟨eu_10, xu_10⟩ := k_11
        rw [eu_10] at hW
        refine r_if_eq (tgt := 97) hx hb ⟨(by omega), (by omega)⟩ dX7_prove_88 (by decide) (fun c_13 => ?_) (fun c_13 => ?_)
        · have q_14 : 0 ≤ S81.1 119 9 ∧ S81.1 119 9 ≤ 6 := hI81.fi 119 9 7 (by decide) rfl
          exact sVret Cx hr hlk hW hL ⟨hI81, hFm81, ⟨fun q => absurd q (by omega), fun _ => (show S81.1 119 9 ≠ 1 by omega)⟩⟩ dX7_prove_97
        · refine lv_aload_n hx hb dX7_prove_91 rfl (lv_at hl 0 rfl) ?_
          refine lv_bipush (v := iv 6) hx hb dX7_prove_92 (by decide) ?_
          refine p_X7_69 Cx hW hL (k := 119) (by decide) rfl dX7_prove_94 (fun H locs hW hL => ?_)
          have F_15 : Fr S (uF S81 119 9 6) pH := hFm81.F rfl
          have F_16 : Fr S (uF S81 119 9 6) pH := hL81_.F rfl
          have i_17 : cX G (uF S81 119 9 6) 0 0 0 := hI81.status ⟨by omega, by omega⟩ (by omega)
          have lk_18 : (uF S81 119 9 6).1 119 9 = 6 := uF_on
          exact sVret Cx hr hlk hW hL ⟨i_17, F_15, ⟨fun q => absurd q (by omega), fun _ => (show (uF S81 119 9 6).1 119 9 ≠ 1 by omega)⟩⟩ dX7_prove_97
      refine lv_aload_n hx hb dX7_prove_18 rfl (lv_at hl 0 rfl) ?_
      refine g_X7_69 Cx hW (k := 119) (by decide) rfl (v := S.1 119 9) rfl dX7_prove_19 ?_
      refine lv_iconst (v := iv 2) hx hb dX7_prove_22 (by decide) ?_
      refine r_icmp_ne (tgt := 40) hx hb ⟨(by omega), (by omega)⟩ ⟨(by omega), (by omega)⟩ dX7_prove_23 (by decide) (fun c_19 => ?_) (fun c_19 => ?_)
      · refine lv_aload_n hx hb dX7_prove_40 rfl (lv_at hl 0 rfl) ?_
        refine g_X7_69 Cx hW (k := 119) (by decide) rfl (v := S.1 119 9) rfl dX7_prove_41 ?_
        refine lv_iconst (v := iv 3) hx hb dX7_prove_44 (by decide) ?_
        refine r_icmp_ne (tgt := 58) hx hb ⟨(by omega), (by omega)⟩ ⟨(by omega), (by omega)⟩ dX7_prove_45 (by decide) (fun c_20 => ?_) (fun c_20 => ?_)
        · refine lv_aload_n hx hb dX7_prove_58 rfl (lv_at hl 0 rfl) ?_
          refine g_X7_69 Cx hW (k := 119) (by decide) rfl (v := S.1 119 9) rfl dX7_prove_59 ?_
          refine lv_iconst (v := iv 4) hx hb dX7_prove_62 (by decide) ?_
          refine r_icmp_ne (tgt := 81) hx hb ⟨(by omega), (by omega)⟩ ⟨(by omega), (by omega)⟩ dX7_prove_63 (by decide) (fun c_21 => ?_) (fun c_21 => ?_)
          · exact join_81 S  _ _ _ hI (Fr.rf : Fr S S pH) (Fr.rf : Fr S S pH) (by omega) hW hL (lv_sub hl [0] rfl)
          · have hcol := hI.ub (by omega)
            refine lv_aload_n hx hb dX7_prove_66 rfl (lv_at hl 0 rfl) ?_
            refine g_X7_28 Cx hW (k := 119) (by decide) rfl (v := .ref (G.2.2.1 + 157)) (rf_119_2 hI) dX7_prove_67 ?_
            refine lv_aload_n hx hb dX7_prove_70 rfl (lv_at hl 0 rfl) ?_
            obtain ⟨o_22, mo_22, eo_22⟩ := hI.rm.2.2.1
            refine g_X7_51 Cx hW (k := 119) (by decide) rfl (v := .ref (G.2.2.1 + o_22)) eo_22 dX7_prove_71 ?_
            refine lv_aload_n hx hb dX7_prove_74 rfl (lv_at hl 0 rfl) ?_
            refine g_X7_21 Cx hW (k := 119) (by decide) rfl (v := .ref (G.2.2.1 + 135)) (rf_119_1 hI) dX7_prove_75 ?_
            have q_23 : (-1) ≤ S.1 135 18 ∧ S.1 135 18 ≤ 13 := hI.fi 135 18 2 (by decide) rfl
            refine sBv (sV (As := [.ref (G.2.2.1 + o_22), .ref (G.2.2.1 + 135)]) (rest := []) (k := 157) Cx (s_X5_proveUnbounded l G S (md := o_22) hI mo_22 (by omega)) (c_X7_167 Cx rfl rfl (rmk_ok (by omega) (by decide))) hW (by decide) rfl rfl rfl hl.1 rfl (Nat.le_of_ble_eq_true rfl) dX7_prove_78 ⟨Nat.le_of_ble_eq_true rfl, Nat.le_of_ble_eq_true rfl⟩) hL (fun u_24 H locs k_25 hW hL => ?_)
            obtain ⟨iu_24, fu_24⟩ := k_25
            have F_26 := (Fr.rf : Fr S S pH).trans (fu_24.to (fun k h => pW_H k (pN_W k h)))
            have F_27 := (Fr.rf : Fr S S pH).trans (fu_24.to (fun k h => pW_H k (pN_W k h)))
            have lk_28 : u_24.1 119 9 = S.1 119 9 := (fu_24 119 rfl).1 9
            exact join_81 u_24  _ _ _ iu_24 F_26 F_27 (by omega) hW hL (lv_sub hl [0] rfl)
        · refine lv_aload_n hx hb dX7_prove_48 rfl (lv_at hl 0 rfl) ?_
          refine g_X7_28 Cx hW (k := 119) (by decide) rfl (v := .ref (G.2.2.1 + 157)) (rf_119_2 hI) dX7_prove_49 ?_
          refine sBv (sV (As := []) (rest := []) (k := 157) Cx (s_X5_proveInfeasible l G S  hI) (c_X7_164 Cx rfl rfl (rmk_ok (by omega) (by decide))) hW (by decide) rfl rfl rfl hl.1 rfl (Nat.le_of_ble_eq_true rfl) dX7_prove_52 ⟨Nat.le_of_ble_eq_true rfl, Nat.le_of_ble_eq_true rfl⟩) hL (fun u_29 H locs k_30 hW hL => ?_)
          obtain ⟨iu_29, fu_29⟩ := k_30
          have F_31 := (Fr.rf : Fr S S pH).trans (fu_29.to (fun k h => pW_H k (pN_W k h)))
          have F_32 := (Fr.rf : Fr S S pH).trans (fu_29.to (fun k h => pW_H k (pN_W k h)))
          refine lv_goto (tgt := 81) hx hb dX7_prove_55 (by decide) ?_
          have lk_33 : u_29.1 119 9 = S.1 119 9 := (fu_29 119 rfl).1 9
          exact join_81 u_29  _ _ _ iu_29 F_31 F_32 (by omega) hW hL (lv_sub hl [0] rfl)
      · refine lv_aload_n hx hb dX7_prove_26 rfl (lv_at hl 0 rfl) ?_
        refine g_X7_28 Cx hW (k := 119) (by decide) rfl (v := .ref (G.2.2.1 + 157)) (rf_119_2 hI) dX7_prove_27 ?_
        refine lv_aload_n hx hb dX7_prove_30 rfl (lv_at hl 0 rfl) ?_
        obtain ⟨o_34, mo_34, eo_34⟩ := hI.rm.2.2.1
        refine g_X7_51 Cx hW (k := 119) (by decide) rfl (v := .ref (G.2.2.1 + o_34)) eo_34 dX7_prove_31 ?_
        refine sBv (sV (As := [.ref (G.2.2.1 + o_34)]) (rest := []) (k := 157) Cx (s_X5_proveOptimal l G S (md := o_34) hI mo_34) (c_X7_161 Cx rfl rfl (rmk_ok (by omega) (by decide))) hW (by decide) rfl rfl rfl hl.1 rfl (Nat.le_of_ble_eq_true rfl) dX7_prove_34 ⟨Nat.le_of_ble_eq_true rfl, Nat.le_of_ble_eq_true rfl⟩) hL (fun u_35 H locs k_36 hW hL => ?_)
        obtain ⟨iu_35, fu_35⟩ := k_36
        have F_37 := (Fr.rf : Fr S S pH).trans (fu_35.to (fun k h => pW_H k (pN_W k h)))
        have F_38 := (Fr.rf : Fr S S pH).trans (fu_35.to (fun k h => pW_H k (pN_W k h)))
        refine lv_goto (tgt := 81) hx hb dX7_prove_37 (by decide) ?_
        have lk_39 : u_35.1 119 9 = S.1 119 9 := (fu_35 119 rfl).1 9
        exact join_81 u_35  _ _ _ iu_35 F_37 F_38 (by omega) hW hL (lv_sub hl [0] rfl)
    · exact sVret Cx hr hlk hW hL ⟨hI, (Fr.rf : Fr S S pH), ⟨fun _ => rfl, fun q => q⟩⟩ dX7_prove_17

set_option maxRecDepth 100000 in
set_option maxHeartbeats 4000000 in
theorem v_X7_run0 (l : Launch) (G : sG) (S : sS) {mo : Int} (hI : cX G S 0 0 0) (hst0 : S.1 119 9 ≠ 1) : Met l yX7_run (.code yX7_run cX7_run 4 (some .int) :: tb) (rmk 1 0 0) (sPc G 294 S [.ref (G.2.2.1 + 119), .int (iv mo)]) (sQi G 294 (fun r u => u = S ∧ (r = 0))) 0 0 (sF G) := by
  refine sEnter (by decide) (Nat.le_of_ble_eq_true rfl) ?_
  intro p e s m args below meth c Cx hr hlk hnm hW ls hl
  have Cx : sC G p m c cX7_run 4 s args RX7 := Cx
  obtain ⟨hx, hb, hml, hown, hts⟩ := id Cx.1
  have hL : sL G [] := sL_nil
  have hl : lv_has ls 4 [(0, .ref (G.2.2.1 + 119)), (1, .int (iv mo))] := hl
  have hW0 := hW
  refine lv_iconst (v := iv 0) hx hb dX7_run_0 (by decide) ?_
  refine lv_istore_n (lv' := [(2, .int (iv 0)), (0, .ref (G.2.2.1 + 119)), (1, .int (iv mo))]) hx hb dX7_run_1 rfl hl (by decide) rfl (fun ls hl => ?_)
  refine lv_iconst (v := iv 0) hx hb dX7_run_2 (by decide) ?_
  refine lv_istore_n (lv' := [(3, .int (iv 0)), (2, .int (iv 0)), (0, .ref (G.2.2.1 + 119)), (1, .int (iv mo))]) hx hb dX7_run_3 rfl hl (by decide) rfl (fun ls hl => ?_)
  have loop_4 : ∀ (fuel : Nat) (i : Int) (dn : Int) (H : Heap) (locs : List Loc) (ls : Array Slot), (1000000 - i).toNat < fuel → (0 ≤ i ∧ i ≤ 1000000) → (dn = 0) → sW G 294 S H → sL G locs → lv_has ls 4 [(3, .int (iv i)), (2, .int (iv dn)), (0, .ref (G.2.2.1 + 119)), (1, .int (iv mo))] → W p l e (rmk 1 0 0) s m args below meth c H locs 0 0 (MQ below (sQi G 294 (fun r u => u = S ∧ (r = 0))) args s 0 0 (sF G)) (F0 m 4 ls []) := by
    intro fuel
    induction fuel with
    | zero => intro i dn H locs ls hmeas hi hdn hW hL hl; exact absurd hmeas (Nat.not_lt_zero _)
    | succ fuel ih_4 =>
      intro i dn H locs ls hmeas hi hdn hW hL hl
      refine lv_iload_n hx hb dX7_run_4 rfl (lv_at hl 0 rfl) ?_
      refine lv_ldc hx hb hown (hts _ w_1229) dX7_run_5 ?_
      refine r_icmp_ge (tgt := 151) hx hb ⟨(by omega), (by omega)⟩ ⟨(by omega), (by omega)⟩ dX7_run_7 (by decide) (fun c_1 => ?_) (fun c_1 => ?_)
      · refine lv_iload_n hx hb dX7_run_151 rfl (lv_at hl 1 rfl) ?_
        exact sIret Cx hr hlk hW hL ⟨rfl, (by omega)⟩ dX7_run_152
      · refine lv_aload_n hx hb dX7_run_10 rfl (lv_at hl 2 rfl) ?_
        have q_2 : 0 ≤ S.1 119 9 ∧ S.1 119 9 ≤ 6 := hI.fi 119 9 7 (by decide) rfl
        refine g_X7_69 Cx hW (k := 119) (by decide) rfl (v := S.1 119 9) rfl dX7_run_11 ?_
        refine lv_iconst (v := iv 1) hx hb dX7_run_14 (by decide) ?_
        refine r_icmp_ne (tgt := 151) hx hb ⟨(by omega), (by omega)⟩ ⟨(by omega), (by omega)⟩ dX7_run_15 (by decide) (fun c_3 => ?_) (fun c_3 => ?_)
        · refine lv_iload_n hx hb dX7_run_151 rfl (lv_at hl 1 rfl) ?_
          exact sIret Cx hr hlk hW hL ⟨rfl, (by omega)⟩ dX7_run_152
        · exfalso; omega
  exact loop_4 (_ + 1) 0 0 _ _ _ (Nat.lt_succ_self _) (by omega) (by omega) hW hL (lv_sub hl [0, 1, 2, 3] rfl)

set_option maxRecDepth 100000 in
set_option maxHeartbeats 4000000 in
theorem v_X11_begin (l : Launch) (G : sG) (S : sS) {k : Int} {y : Nat} {n mm mx : Int} {A : Int → Int → Int} {wh : Int → Int} (hI : cX G S 0 0 0) (hk : -2147483648 ≤ k ∧ k ≤ 2147483647) (hmy : mdl y) (h5 : S.2.2.2 0 5 = .ref (G.2.2.1 + y)) (hMD : Hd (S.1 0 7 ≠ 0 → MDv S y n mm mx A wh ∧ ∀ k j, -100000 ≤ A k j ∧ A k j ≤ 100000)) : Met l yX11_begin (.code yX11_begin cX11_begin 2 (some .boolean) :: tb) (rmk 6 0 0) (sPc G 294 S [.ref (G.2.2.1 + 0), .int (iv k)]) (sQi G 294 (fun r u => cX G u 0 0 0 ∧ Fr S u pC ∧ ((0 ≤ r ∧ r ≤ 1) ∧ (r = 1 ↔ (S.1 0 7 = 1 ∧ 0 ≤ k ∧ k ≤ 20)) ∧ u.1 0 7 = S.1 0 7 ∧ Hd (OTc S u y ∧ u.2.2.2 0 5 = S.2.2.2 0 5 ∧ u.2.2.2 0 6 = S.2.2.2 0 6) ∧ Hd (r = 0 → u = S) ∧ Hd (r = 1 → u.1 0 8 = 1 ∧ ∃ hw, hwA mm A hw ∧ ∃ oc od RR, SRq G u oc od y n mm mx k A wh RR (W0m n mm A hw))))) 0 0 (sF G) := by
  refine sEnter (by decide) (Nat.le_of_ble_eq_true rfl) ?_
  intro p e s m args below meth c Cx hr hlk hnm hW ls hl
  have Cx : sC G p m c cX11_begin 2 s args RX11 := Cx
  obtain ⟨hx, hb, hml, hown, hts⟩ := id Cx.1
  have hL : sL G [] := sL_nil
  have hl : lv_has ls 2 [(0, .ref (G.2.2.1 + 0)), (1, .int (iv k))] := hl
  have hW0 := hW
  refine lv_aload_n hx hb dX11_begin_0 rfl (lv_at hl 0 rfl) ?_
  have q_1 : 0 ≤ S.1 0 7 ∧ S.1 0 7 ≤ 1 := hI.fi 0 7 11 (by decide) rfl
  refine g_X11_79 Cx hW (k := 0) (by decide) rfl (v := S.1 0 7) rfl dX11_begin_1 ?_
  refine r_if_eq (tgt := 17) hx hb ⟨(by omega), (by omega)⟩ dX11_begin_4 (by decide) (fun c_2 => ?_) (fun c_2 => ?_)
  · refine lv_iconst (v := iv 0) hx hb dX11_begin_17 (by decide) ?_
    have q_3 : 0 ≤ S.1 0 8 ∧ S.1 0 8 ≤ 1 := hI.fi 0 8 11 (by decide) rfl
    exact sZret Cx hr hlk hW hL (by omega) ⟨hI, (Fr.rf : Fr S S pC), ⟨(by omega), (by omega), (show S.1 0 7 = S.1 0 7 from rfl), ⟨OTc.rf, (show S.2.2.2 0 5 = S.2.2.2 0 5 from rfl), (show S.2.2.2 0 6 = S.2.2.2 0 6 from rfl)⟩, (fun _ => rfl), (fun q => absurd q (by omega))⟩⟩ dX11_begin_18
  · refine lv_iload_n hx hb dX11_begin_7 rfl (lv_at hl 1 rfl) ?_
    refine r_if_lt (tgt := 17) hx hb ⟨(by omega), (by omega)⟩ dX11_begin_8 (by decide) (fun c_4 => ?_) (fun c_4 => ?_)
    · refine lv_iconst (v := iv 0) hx hb dX11_begin_17 (by decide) ?_
      have q_5 : 0 ≤ S.1 0 8 ∧ S.1 0 8 ≤ 1 := hI.fi 0 8 11 (by decide) rfl
      exact sZret Cx hr hlk hW hL (by omega) ⟨hI, (Fr.rf : Fr S S pC), ⟨(by omega), (by omega), (show S.1 0 7 = S.1 0 7 from rfl), ⟨OTc.rf, (show S.2.2.2 0 5 = S.2.2.2 0 5 from rfl), (show S.2.2.2 0 6 = S.2.2.2 0 6 from rfl)⟩, (fun _ => rfl), (fun q => absurd q (by omega))⟩⟩ dX11_begin_18
    · refine lv_iload_n hx hb dX11_begin_11 rfl (lv_at hl 1 rfl) ?_
      refine lv_bipush (v := iv 20) hx hb dX11_begin_12 (by decide) ?_
      refine r_icmp_le (tgt := 19) hx hb ⟨(by omega), (by omega)⟩ ⟨(by omega), (by omega)⟩ dX11_begin_14 (by decide) (fun c_6 => ?_) (fun c_6 => ?_)
      · refine lv_aload_n hx hb dX11_begin_19 rfl (lv_at hl 0 rfl) ?_
        refine g_X11_41 Cx hW (k := 0) (by decide) rfl (v := .ref (G.2.2.1 + 119)) (rf_0_3 hI) dX11_begin_20 ?_
        refine lv_aload_n hx hb dX11_begin_23 rfl (lv_at hl 0 rfl) ?_
        refine g_X11_24 Cx hW (k := 0) (by decide) rfl (v := .ref (G.2.2.1 + y)) h5 dX11_begin_24 ?_
        refine lv_iload_n hx hb dX11_begin_27 rfl (lv_at hl 1 rfl) ?_
        obtain ⟨o_7, o_8, mo_7, mo_8, no_7, eo_7, eo_8⟩ := rm_135 hI
        refine sBv (sV (As := [.ref (G.2.2.1 + y), .int (iv k)]) (rest := []) (k := 119) Cx (v_X7_start l G S (md := y) (al := k) (oc := o_7) (od := o_8) (n := n) (mm := mm) (mx := mx) (A := A) (wh := wh) hI ⟨mo_7, mo_8, (neD no_7), eo_7, eo_8⟩ hmy (hMD (by omega)).1 (by omega) (hMD (by omega)).2) (c_X11_106 Cx rfl rfl (rmk_ok (by omega) (by decide))) hW (by decide) rfl rfl rfl hl.1 rfl (Nat.le_of_ble_eq_true rfl) dX11_begin_28 ⟨Nat.le_of_ble_eq_true rfl, Nat.le_of_ble_eq_true rfl⟩) hL (fun u_9 H locs k_10 hW hL => ?_)
        obtain ⟨iu_9, fu_9, xu_9⟩ := k_10
        have F_11 := (Fr.rf : Fr S S pC).trans (fu_9.to (fun k h => pH_C k (pBg_H k h)))
        refine lv_aload_n hx hb dX11_begin_31 rfl (lv_at hl 0 rfl) ?_
        refine lv_iconst (v := iv 1) hx hb dX11_begin_32 (by decide) ?_
        refine p_X11_83 Cx hW hL (k := 0) (by decide) rfl (by omega) dX11_begin_33 (fun H locs hW hL => ?_)
        have F_12 : Fr S (uF u_9 0 8 1) pC := F_11.F rfl
        have i_13 : cX G (uF u_9 0 8 1) 0 0 0 := iu_9.F rfl rfl (show 0 ≤ 1 ∧ 1 ≤ 1 from ⟨by omega, by omega⟩)
        refine lv_iconst (v := iv 1) hx hb dX11_begin_36 (by decide) ?_
        have lk_14 : (uF u_9 0 8 1).1 0 7 = S.1 0 7 := (uF_ne (fun h => absurd h.2 (by decide))).trans ((fu_9 0 rfl).1 7)
        have lk_15 : (uF u_9 0 8 1).1 0 8 = 1 := uF_on
        exact sZret Cx hr hlk hW hL (by omega) ⟨i_13, F_12, ⟨(by omega), (by omega), (show (uF u_9 0 8 1).1 0 7 = S.1 0 7 from (uF_ne (fun h => absurd h.2 (by decide))).trans ((fu_9 0 rfl).1 7)), ⟨(show OTc S (uF u_9 0 8 1) y from ⟨((uF_ne (fun h => absurd h.2 (by decide))).trans ((fu_9 y (mo_pBg hmy).1).1 2)), ((uF_ne (fun h => absurd h.2 (by decide))).trans ((fu_9 y (mo_pBg hmy).1).1 3)), ((uF_ne (fun h => absurd h.2 (by decide))).trans ((fu_9 y (mo_pBg hmy).1).1 4)), (funext fun x => (uF_a).trans ((fu_9 (y + 2) (mo_pBg hmy).2.2).2.1 x)), (funext fun x => (uF_a).trans ((fu_9 (y + 1) (mo_pBg hmy).2.1).2.1 x))⟩), (show (uF u_9 0 8 1).2.2.2 0 5 = S.2.2.2 0 5 from (uF_r).trans ((fu_9 0 rfl).2.2.2 5)), (show (uF u_9 0 8 1).2.2.2 0 6 = S.2.2.2 0 6 from (uF_r).trans ((fu_9 0 rfl).2.2.2 6))⟩, (fun q => absurd q (by omega)), (fun _ => ⟨uF_on, (by obtain ⟨hw, ha, oc, od, RR, hS⟩ := xu_9; exact ⟨hw, ha, oc, od, RR, hS.fr svE.F0 (OTc.F0 hmy)⟩)⟩)⟩⟩ dX11_begin_37
      · refine lv_iconst (v := iv 0) hx hb dX11_begin_17 (by decide) ?_
        have q_16 : 0 ≤ S.1 0 8 ∧ S.1 0 8 ≤ 1 := hI.fi 0 8 11 (by decide) rfl
        exact sZret Cx hr hlk hW hL (by omega) ⟨hI, (Fr.rf : Fr S S pC), ⟨(by omega), (by omega), (show S.1 0 7 = S.1 0 7 from rfl), ⟨OTc.rf, (show S.2.2.2 0 5 = S.2.2.2 0 5 from rfl), (show S.2.2.2 0 6 = S.2.2.2 0 6 from rfl)⟩, (fun _ => rfl), (fun q => absurd q (by omega))⟩⟩ dX11_begin_18

set_option maxRecDepth 100000 in
set_option maxHeartbeats 4000000 in
theorem v_X11_work (l : Launch) (G : sG) (S : sS) {k : Int} {y : Nat} {n mm mx al : Int} {A : Int → Int → Int} {wh : Int → Int} {Wm : wT} (hI : cX G S 0 0 0) (hk : -2147483648 ≤ k ∧ k ≤ 2147483647) (hmy : mdl y) (hWg : Wm.2.1 0 = 1) (hb8 : S.1 0 8 = 1) (hn12 : 0 ≤ n ∧ n ≤ 12 ∧ 0 ≤ al ∧ al ≤ 20) (hmm : 0 ≤ mm) (hpb : 0 ≤ Wm.2.1 4 ∧ Wm.2.1 4 ≤ 1000000) (hCG : Hd (CGr G S y n mm mx al A wh Wm)) : Met l yX11_work (.code yX11_work cX11_work 3 (some .int) :: tb) (rmk 10 0 0) (sPc G 294 S [.ref (G.2.2.1 + 0), .int (iv k)]) (sQi G 294 (fun r u => cX G u 0 0 0 ∧ Fr S u pC ∧ (u.1 0 7 = S.1 0 7 ∧ Hd (OTc S u y ∧ u.2.2.2 0 5 = S.2.2.2 0 5 ∧ u.2.2.2 0 6 = S.2.2.2 0 6) ∧ u.1 0 8 = S.1 0 8 ∧ Hd (k < 1 ∨ 500 < k → r = -1 ∧ u = S) ∧ Hd (1 ≤ k ∧ k ≤ 500 → ∃ U, wkW (KKm n A wh al) Wm (Wm.2.1 4 + k) U ∧ stW U (Wm.2.1 4 + k) ∧ r = U.2.1 4 - Wm.2.1 4 ∧ (0 ≤ r ∧ r ≤ k) ∧ CGr G u y n mm mx al A wh U)))) 0 0 (sF G) := by
  refine sEnter (by decide) (Nat.le_of_ble_eq_true rfl) ?_
  intro p e s m args below meth c Cx hr hlk hnm hW ls hl
  have Cx : sC G p m c cX11_work 3 s args RX11 := Cx
  obtain ⟨hx, hb, hml, hown, hts⟩ := id Cx.1
  have hL : sL G [] := sL_nil
  have hl : lv_has ls 3 [(0, .ref (G.2.2.1 + 0)), (1, .int (iv k))] := hl
  have hW0 := hW
  refine lv_iload_n hx hb dX11_work_0 rfl (lv_at hl 1 rfl) ?_
  refine lv_iconst (v := iv 1) hx hb dX11_work_1 (by decide) ?_
  refine r_icmp_lt (tgt := 12) hx hb ⟨(by omega), (by omega)⟩ ⟨(by omega), (by omega)⟩ dX11_work_2 (by decide) (fun c_1 => ?_) (fun c_1 => ?_)
  · refine lv_iconst (v := iv (-1)) hx hb dX11_work_12 (by decide) ?_
    have q_2 : 0 ≤ S.1 0 7 ∧ S.1 0 7 ≤ 1 := hI.fi 0 7 11 (by decide) rfl
    have q_3 : 0 ≤ S.1 0 8 ∧ S.1 0 8 ≤ 1 := hI.fi 0 8 11 (by decide) rfl
    exact sIret Cx hr hlk hW hL ⟨hI, (Fr.rf : Fr S S pC), ⟨(show S.1 0 7 = S.1 0 7 from rfl), ⟨OTc.rf, (show S.2.2.2 0 5 = S.2.2.2 0 5 from rfl), (show S.2.2.2 0 6 = S.2.2.2 0 6 from rfl)⟩, (show S.1 0 8 = S.1 0 8 from rfl), (fun _ => ⟨rfl, rfl⟩), (fun q => absurd q (by omega))⟩⟩ dX11_work_13
  · refine lv_iload_n hx hb dX11_work_5 rfl (lv_at hl 1 rfl) ?_
    refine lv_sipush (v := iv 500) hx hb dX11_work_6 (by decide) ?_
    refine r_icmp_le (tgt := 14) hx hb ⟨(by omega), (by omega)⟩ ⟨(by omega), (by omega)⟩ dX11_work_9 (by decide) (fun c_4 => ?_) (fun c_4 => ?_)
    · refine lv_aload_n hx hb dX11_work_14 rfl (lv_at hl 0 rfl) ?_
      have q_5 : 0 ≤ S.1 0 8 ∧ S.1 0 8 ≤ 1 := hI.fi 0 8 11 (by decide) rfl
      refine g_X11_83 Cx hW (k := 0) (by decide) rfl (v := S.1 0 8) rfl dX11_work_15 ?_
      refine r_if_ne (tgt := 23) hx hb ⟨(by omega), (by omega)⟩ dX11_work_18 (by decide) (fun c_6 => ?_) (fun c_6 => ?_)
      · have hcg9 : Hd (S.1 119 9 = 1 ∧ (∃ oc od RR, SRq G S oc od y n mm mx al A wh RR Wm) ∧ (Iv (KKm n A wh al) Wm ∧ Iw Wm) ∧ ¬ 30000 < Wm.2.2.1.length) := hCG.1 hWg
        refine lv_aload_n hx hb dX11_work_23 rfl (lv_at hl 0 rfl) ?_
        refine g_X11_41 Cx hW (k := 0) (by decide) rfl (v := .ref (G.2.2.1 + 119)) (rf_0_3 hI) dX11_work_24 ?_
        refine lv_iload_n hx hb dX11_work_27 rfl (lv_at hl 1 rfl) ?_
        refine sBi (sV (As := [.int (iv k)]) (rest := []) (k := 119) Cx (v_X7_run l G S (mo := k) (md := y) (n := n) (mm := mm) (mx := mx) (al := al) (A := A) (wh := wh) (Wm := Wm) hI hmy (by omega) (by omega) (by omega) (by omega) ⟨Wm, wkW.rf, (hcg9.1).trans hWg.symm, (by omega), (fun _ => hcg9.2.1), (by omega), (fun _ => ⟨hcg9.2.2.1, (by omega), hcg9.2.2.2⟩)⟩ (fun _ => hcg9.2.2.1)) (c_X11_110 Cx rfl rfl (rmk_ok (by omega) (by decide))) hW (by decide) rfl rfl rfl hl.1 rfl (Nat.le_of_ble_eq_true rfl) dX11_work_28 ⟨Nat.le_of_ble_eq_true rfl, Nat.le_of_ble_eq_true rfl⟩) hL (fun r_9 u_7 H locs k_8 hW hL => ?_)
        obtain ⟨iu_7, fu_7, xu_7⟩ := k_8
        have F_10 := (Fr.rf : Fr S S pC).trans (fu_7.to (fun k h => pH_C k (pSr_H k h)))
        refine lv_istore_n (lv' := [(2, .int (iv r_9)), (0, .ref (G.2.2.1 + 0)), (1, .int (iv k))]) hx hb dX11_work_31 rfl hl (by decide) rfl (fun ls hl => ?_)
        refine lv_aload_n hx hb dX11_work_32 rfl (lv_at hl 1 rfl) ?_
        refine g_X11_41 Cx hW (k := 0) (by decide) rfl (v := .ref (G.2.2.1 + 119)) (rf_0_3 iu_7) dX11_work_33 ?_
        have q_11 : 0 ≤ u_7.1 119 9 ∧ u_7.1 119 9 ≤ 6 := iu_7.fi 119 9 7 (by decide) rfl
        refine sBv (sV (As := []) (rest := []) (k := 119) Cx (v_X7_prove l G u_7  iu_7) (c_X11_114 Cx rfl rfl (rmk_ok (by omega) (by decide))) hW (by decide) rfl rfl rfl hl.1 rfl (Nat.le_of_ble_eq_true rfl) dX11_work_36 ⟨Nat.le_of_ble_eq_true rfl, Nat.le_of_ble_eq_true rfl⟩) hL (fun u_12 H locs k_13 hW hL => ?_)
        obtain ⟨iu_12, fu_12, xu_12⟩ := k_13
        have F_14 := F_10.trans (fu_12.to pH_C)
        refine lv_iload_n hx hb dX11_work_39 rfl (lv_at hl 0 rfl) ?_
        have q_15 : 0 ≤ S.1 0 7 ∧ S.1 0 7 ≤ 1 := hI.fi 0 7 11 (by decide) rfl
        have lk_16 : u_12.1 0 7 = S.1 0 7 := ((fu_12 0 rfl).1 7).trans ((fu_7 0 rfl).1 7)
        have lk_17 : u_12.1 0 8 = S.1 0 8 := ((fu_12 0 rfl).1 8).trans ((fu_7 0 rfl).1 8)
        exact sIret Cx hr hlk hW hL ⟨iu_12, F_14, ⟨(show u_12.1 0 7 = S.1 0 7 from ((fu_12 0 rfl).1 7).trans ((fu_7 0 rfl).1 7)), ⟨(show OTc S u_12 y from ⟨(((fu_12 y (mdl_oHE hmy).1.1).1 2).trans ((fu_7 y (mo_pSr hmy).1).1 2)), (((fu_12 y (mdl_oHE hmy).1.1).1 3).trans ((fu_7 y (mo_pSr hmy).1).1 3)), (((fu_12 y (mdl_oHE hmy).1.1).1 4).trans ((fu_7 y (mo_pSr hmy).1).1 4)), (funext fun x => ((fu_12 (y + 2) (mdl_oHE hmy).2.1.1).2.1 x).trans ((fu_7 (y + 2) (mo_pSr hmy).2.2).2.1 x)), (funext fun x => ((fu_12 (y + 1) (mdl_oHE hmy).2.2.1).2.1 x).trans ((fu_7 (y + 1) (mo_pSr hmy).2.1).2.1 x))⟩), (show u_12.2.2.2 0 5 = S.2.2.2 0 5 from ((fu_12 0 rfl).2.2.2 5).trans ((fu_7 0 rfl).2.2.2 5)), (show u_12.2.2.2 0 6 = S.2.2.2 0 6 from ((fu_12 0 rfl).2.2.2 6).trans ((fu_7 0 rfl).2.2.2 6))⟩, (show u_12.1 0 8 = S.1 0 8 from ((fu_12 0 rfl).1 8).trans ((fu_7 0 rfl).1 8)), (fun q => absurd q (by omega)), (fun _ => by obtain ⟨U, w1, w2, w3, w4, w5, w6⟩ := xu_7.2.2; exact ⟨U, w1, w2, w3, ⟨xu_7.1, xu_7.2.1⟩, CGr.mk w4 w5 w6 xu_12.1 xu_12.2⟩)⟩⟩ dX11_work_40
      · refine lv_iconst (v := iv 0) hx hb dX11_work_21 (by decide) ?_
        have q_18 : 0 ≤ S.1 0 7 ∧ S.1 0 7 ≤ 1 := hI.fi 0 7 11 (by decide) rfl
        exact sIret Cx hr hlk hW hL ⟨hI, (Fr.rf : Fr S S pC), (by exfalso; omega)⟩ dX11_work_22
    · refine lv_iconst (v := iv (-1)) hx hb dX11_work_12 (by decide) ?_
      have q_19 : 0 ≤ S.1 0 7 ∧ S.1 0 7 ≤ 1 := hI.fi 0 7 11 (by decide) rfl
      have q_20 : 0 ≤ S.1 0 8 ∧ S.1 0 8 ≤ 1 := hI.fi 0 8 11 (by decide) rfl
      exact sIret Cx hr hlk hW hL ⟨hI, (Fr.rf : Fr S S pC), ⟨(show S.1 0 7 = S.1 0 7 from rfl), ⟨OTc.rf, (show S.2.2.2 0 5 = S.2.2.2 0 5 from rfl), (show S.2.2.2 0 6 = S.2.2.2 0 6 from rfl)⟩, (show S.1 0 8 = S.1 0 8 from rfl), (fun _ => ⟨rfl, rfl⟩), (fun q => absurd q (by omega))⟩⟩ dX11_work_13

set_option maxRecDepth 100000 in
set_option maxHeartbeats 4000000 in
theorem v_X11_work0 (l : Launch) (G : sG) (S : sS) {k : Int} {y : Nat} (hI : cX G S 0 0 0) (hk : -2147483648 ≤ k ∧ k ≤ 2147483647) (hmy : mdl y) (hno : S.1 0 8 = 0 ∨ S.1 119 9 ≠ 1) : Met l yX11_work (.code yX11_work cX11_work 3 (some .int) :: tb) (rmk 9 0 0) (sPc G 294 S [.ref (G.2.2.1 + 0), .int (iv k)]) (sQi G 294 (fun r u => cX G u 0 0 0 ∧ Fr S u pC ∧ (u.1 0 7 = S.1 0 7 ∧ Hd (OTc S u y ∧ u.2.2.2 0 5 = S.2.2.2 0 5 ∧ u.2.2.2 0 6 = S.2.2.2 0 6) ∧ u.1 0 8 = S.1 0 8 ∧ Hd (k < 1 ∨ 500 < k → r = -1) ∧ Hd (1 ≤ k ∧ k ≤ 500 → r = 0) ∧ (S.1 0 8 = 0 ∨ u.1 119 9 ≠ 1)))) 0 0 (sF G) := by
  refine sEnter (by decide) (Nat.le_of_ble_eq_true rfl) ?_
  intro p e s m args below meth c Cx hr hlk hnm hW ls hl
  have Cx : sC G p m c cX11_work 3 s args RX11 := Cx
  obtain ⟨hx, hb, hml, hown, hts⟩ := id Cx.1
  have hL : sL G [] := sL_nil
  have hl : lv_has ls 3 [(0, .ref (G.2.2.1 + 0)), (1, .int (iv k))] := hl
  have hW0 := hW
  refine lv_iload_n hx hb dX11_work_0 rfl (lv_at hl 1 rfl) ?_
  refine lv_iconst (v := iv 1) hx hb dX11_work_1 (by decide) ?_
  refine r_icmp_lt (tgt := 12) hx hb ⟨(by omega), (by omega)⟩ ⟨(by omega), (by omega)⟩ dX11_work_2 (by decide) (fun c_1 => ?_) (fun c_1 => ?_)
  · refine lv_iconst (v := iv (-1)) hx hb dX11_work_12 (by decide) ?_
    have q_2 : 0 ≤ S.1 0 7 ∧ S.1 0 7 ≤ 1 := hI.fi 0 7 11 (by decide) rfl
    have q_3 : 0 ≤ S.1 0 8 ∧ S.1 0 8 ≤ 1 := hI.fi 0 8 11 (by decide) rfl
    have q_4 : 0 ≤ S.1 119 9 ∧ S.1 119 9 ≤ 6 := hI.fi 119 9 7 (by decide) rfl
    exact sIret Cx hr hlk hW hL ⟨hI, (Fr.rf : Fr S S pC), ⟨(show S.1 0 7 = S.1 0 7 from rfl), ⟨OTc.rf, (show S.2.2.2 0 5 = S.2.2.2 0 5 from rfl), (show S.2.2.2 0 6 = S.2.2.2 0 6 from rfl)⟩, (show S.1 0 8 = S.1 0 8 from rfl), (fun _ => rfl), (fun q => absurd q (by omega)), hno⟩⟩ dX11_work_13
  · refine lv_iload_n hx hb dX11_work_5 rfl (lv_at hl 1 rfl) ?_
    refine lv_sipush (v := iv 500) hx hb dX11_work_6 (by decide) ?_
    refine r_icmp_le (tgt := 14) hx hb ⟨(by omega), (by omega)⟩ ⟨(by omega), (by omega)⟩ dX11_work_9 (by decide) (fun c_5 => ?_) (fun c_5 => ?_)
    · refine lv_aload_n hx hb dX11_work_14 rfl (lv_at hl 0 rfl) ?_
      have q_6 : 0 ≤ S.1 0 8 ∧ S.1 0 8 ≤ 1 := hI.fi 0 8 11 (by decide) rfl
      refine g_X11_83 Cx hW (k := 0) (by decide) rfl (v := S.1 0 8) rfl dX11_work_15 ?_
      refine r_if_ne (tgt := 23) hx hb ⟨(by omega), (by omega)⟩ dX11_work_18 (by decide) (fun c_7 => ?_) (fun c_7 => ?_)
      · refine lv_aload_n hx hb dX11_work_23 rfl (lv_at hl 0 rfl) ?_
        refine g_X11_41 Cx hW (k := 0) (by decide) rfl (v := .ref (G.2.2.1 + 119)) (rf_0_3 hI) dX11_work_24 ?_
        refine lv_iload_n hx hb dX11_work_27 rfl (lv_at hl 1 rfl) ?_
        have q_8 : 0 ≤ S.1 119 9 ∧ S.1 119 9 ≤ 6 := hI.fi 119 9 7 (by decide) rfl
        refine sBi (sV (As := [.int (iv k)]) (rest := []) (k := 119) Cx (v_X7_run0 l G S (mo := k) hI (by omega)) (c_X11_110 Cx rfl rfl (rmk_ok (by omega) (by decide))) hW (by decide) rfl rfl rfl hl.1 rfl (Nat.le_of_ble_eq_true rfl) dX11_work_28 ⟨Nat.le_of_ble_eq_true rfl, Nat.le_of_ble_eq_true rfl⟩) hL (fun r_11 u_9 H locs k_10 hW hL => ?_)
        obtain ⟨eu_9, xu_9⟩ := k_10
        rw [eu_9] at hW
        refine lv_istore_n (lv' := [(2, .int (iv r_11)), (0, .ref (G.2.2.1 + 0)), (1, .int (iv k))]) hx hb dX11_work_31 rfl hl (by decide) rfl (fun ls hl => ?_)
        refine lv_aload_n hx hb dX11_work_32 rfl (lv_at hl 1 rfl) ?_
        refine g_X11_41 Cx hW (k := 0) (by decide) rfl (v := .ref (G.2.2.1 + 119)) (rf_0_3 hI) dX11_work_33 ?_
        refine sBv (sV (As := []) (rest := []) (k := 119) Cx (v_X7_prove l G S  hI) (c_X11_114 Cx rfl rfl (rmk_ok (by omega) (by decide))) hW (by decide) rfl rfl rfl hl.1 rfl (Nat.le_of_ble_eq_true rfl) dX11_work_36 ⟨Nat.le_of_ble_eq_true rfl, Nat.le_of_ble_eq_true rfl⟩) hL (fun u_12 H locs k_13 hW hL => ?_)
        obtain ⟨iu_12, fu_12, xu_12⟩ := k_13
        have F_14 := (Fr.rf : Fr S S pC).trans (fu_12.to pH_C)
        refine lv_iload_n hx hb dX11_work_39 rfl (lv_at hl 0 rfl) ?_
        have q_15 : 0 ≤ S.1 0 7 ∧ S.1 0 7 ≤ 1 := hI.fi 0 7 11 (by decide) rfl
        have lk_16 : u_12.1 0 7 = S.1 0 7 := (fu_12 0 rfl).1 7
        have lk_17 : u_12.1 0 8 = S.1 0 8 := (fu_12 0 rfl).1 8
        have q_18 : 0 ≤ u_12.1 119 9 ∧ u_12.1 119 9 ≤ 6 := iu_12.fi 119 9 7 (by decide) rfl
        exact sIret Cx hr hlk hW hL ⟨iu_12, F_14, ⟨(show u_12.1 0 7 = S.1 0 7 from (fu_12 0 rfl).1 7), ⟨(show OTc S u_12 y from ⟨((fu_12 y (mdl_oHE hmy).1.1).1 2), ((fu_12 y (mdl_oHE hmy).1.1).1 3), ((fu_12 y (mdl_oHE hmy).1.1).1 4), (funext fun x => (fu_12 (y + 2) (mdl_oHE hmy).2.1.1).2.1 x), (funext fun x => (fu_12 (y + 1) (mdl_oHE hmy).2.2.1).2.1 x)⟩), (show u_12.2.2.2 0 5 = S.2.2.2 0 5 from (fu_12 0 rfl).2.2.2 5), (show u_12.2.2.2 0 6 = S.2.2.2 0 6 from (fu_12 0 rfl).2.2.2 6)⟩, (show u_12.1 0 8 = S.1 0 8 from (fu_12 0 rfl).1 8), (fun q => absurd q (by omega)), (fun _ => by omega), .inr (xu_12.2 (by omega))⟩⟩ dX11_work_40
      · refine lv_iconst (v := iv 0) hx hb dX11_work_21 (by decide) ?_
        have q_19 : 0 ≤ S.1 0 7 ∧ S.1 0 7 ≤ 1 := hI.fi 0 7 11 (by decide) rfl
        have q_20 : 0 ≤ S.1 119 9 ∧ S.1 119 9 ≤ 6 := hI.fi 119 9 7 (by decide) rfl
        exact sIret Cx hr hlk hW hL ⟨hI, (Fr.rf : Fr S S pC), ⟨(show S.1 0 7 = S.1 0 7 from rfl), ⟨OTc.rf, (show S.2.2.2 0 5 = S.2.2.2 0 5 from rfl), (show S.2.2.2 0 6 = S.2.2.2 0 6 from rfl)⟩, (show S.1 0 8 = S.1 0 8 from rfl), (fun q => absurd q (by omega)), (fun _ => rfl), hno⟩⟩ dX11_work_22
    · refine lv_iconst (v := iv (-1)) hx hb dX11_work_12 (by decide) ?_
      have q_21 : 0 ≤ S.1 0 7 ∧ S.1 0 7 ≤ 1 := hI.fi 0 7 11 (by decide) rfl
      have q_22 : 0 ≤ S.1 0 8 ∧ S.1 0 8 ≤ 1 := hI.fi 0 8 11 (by decide) rfl
      have q_23 : 0 ≤ S.1 119 9 ∧ S.1 119 9 ≤ 6 := hI.fi 119 9 7 (by decide) rfl
      exact sIret Cx hr hlk hW hL ⟨hI, (Fr.rf : Fr S S pC), ⟨(show S.1 0 7 = S.1 0 7 from rfl), ⟨OTc.rf, (show S.2.2.2 0 5 = S.2.2.2 0 5 from rfl), (show S.2.2.2 0 6 = S.2.2.2 0 6 from rfl)⟩, (show S.1 0 8 = S.1 0 8 from rfl), (fun _ => rfl), (fun q => absurd q (by omega)), hno⟩⟩ dX11_work_13
