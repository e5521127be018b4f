/-! The class's begin and work by the machine; what the calls between leave -/
def pSv (k : Nat) : Bool := rgB 119 121 k || rgB 135 140 k || rgB 158 162 k
def svE (S u : sS) : Prop := ∀ k, pSv k = true → (∀ i, u.1 k i = S.1 k i) ∧ (∀ j, u.2.1 k j = S.2.1 k j) ∧ ∀ j, u.2.2.2 k j = S.2.2.2 k j
theorem svE.rf {S : sS} : svE S S := fun _ _ => ⟨fun _ => rfl, fun _ => rfl, fun _ => rfl⟩
theorem svE.tr {S u v : sS} (h : svE S u) (g : svE u v) : svE S v := fun k hk => ⟨fun i => ((g k hk).1 i).trans ((h k hk).1 i), fun j => ((g k hk).2.1 j).trans ((h k hk).2.1 j), fun j => ((g k hk).2.2 j).trans ((h k hk).2.2 j)⟩
theorem svE.of {S u : sS} {P : Nat → Bool} (f : Fr S u P) (hP : ∀ k, pSv k = true → P k = false) : svE S u := fun k hk => ⟨fun i => (f k (hP k hk)).1 i, fun j => (f k (hP k hk)).2.1 j, fun j => (f k (hP k hk)).2.2.2 j⟩
theorem svE.F0 {S : sS} {i : Nat} {v : Int} : svE S (uF S 0 i v) := fun k hk => ⟨fun _ => uF_ne (fun h => by rw [h.1] at hk; cases hk), fun _ => uF_a, fun _ => uF_r⟩
theorem pSv_Nz : ∀ k, pSv k = true → pNz k = false := fun k h => by
  cases e : pNz k
  · rfl
  · simp only [pSv, pNz, rgB, Bool.or_eq_true, Bool.and_eq_true, Nat.ble_eq, Nat.beq_eq] at h e; omega
theorem pSv_Zz : ∀ k, pSv k = true → pZz k = false := fun k h => by
  cases e : pZz k
  · rfl
  · simp only [pSv, pZz, rgB, Bool.or_eq_true, Bool.and_eq_true, Nat.ble_eq, Nat.beq_eq] at h e; omega
theorem pSv_B1 : ∀ k, pSv k = true → pB 1 k = false := fun k h => by
  cases e : pB 1 k
  · rfl
  · unfold pB at e; simp only [pSv, rgB, Bool.or_eq_true, Bool.and_eq_true, Nat.ble_eq, Nat.beq_eq] at h e; omega
theorem pSv_lt {k : Nat} (h : pSv k = true) : k < 231 := by
  simp only [pSv, rgB, Bool.or_eq_true, Bool.and_eq_true, Nat.ble_eq, Nat.beq_eq] at h; omega
theorem SRq.fr {G : sG} {S u : sS} {oc od md : Nat} {n mm mx al : Int} {A : Int → Int → Int} {wh : Int → Int} {RR : Int → Int → Int} {W : wT} (h : SRq G S oc od md n mm mx al A wh RR W) (e : svE S u) (o : OTc S u md) : SRq G u oc od md n mm mx al A wh RR W := by
  obtain ⟨h1, h2, h3, h4, h5, h6, ⟨h7, h8⟩, h9, h10⟩ := h
  have eoc : u.2.1 oc = S.2.1 oc := by
    rcases h1.1 with q | q
    · rw [q]; exact funext fun x => (e 136 rfl).2.1 x
    · rw [q]; exact funext fun x => (e 137 rfl).2.1 x
  refine ⟨⟨h1.1, h1.2.1, h1.2.2.1, ((e 135 rfl).2.2 0).trans h1.2.2.2.1, ((e 135 rfl).2.2 1).trans h1.2.2.2.2⟩, DRc.of h2 ((e 135 rfl).1 13) ((e 135 rfl).1 14) ((e 135 rfl).1 15) ((e 135 rfl).1 16) eoc (funext fun x => (e 138 rfl).2.1 x) (funext fun x => (e 139 rfl).2.1 x), KSc.of h3 ((e 135 rfl).1 19) (funext fun x => (e 140 rfl).2.1 x), TXc.of h4 ((e 160 rfl).1 1) ((e 160 rfl).1 2) (funext fun x => (e 161 rfl).2.1 x), RWz.of h5 ((e 120 rfl).1 8) ((e 120 rfl).1 9) (funext fun x => (e 121 rfl).2.1 x), h6, ⟨((e 119 rfl).2.2 7).trans h7, MDv.of h8 o.1 o.2.1 o.2.2.1 o.2.2.2.2 o.2.2.2.1⟩, BPc.of h9 (funext fun x => (e 162 rfl).2.1 x), ?_⟩
  unfold CRc at h10 ⊢
  rw [(e 119 rfl).1 8, (e 119 rfl).1 9, (e 119 rfl).1 10, (e 119 rfl).1 11, (e 119 rfl).1 12, (e 119 rfl).1 13, (e 119 rfl).1 14, (e 119 rfl).1 15, (e 119 rfl).1 16, (e 135 rfl).1 17, (e 135 rfl).1 18]
  exact h10
/-- the class's search, begun -/
def CGr (G : sG) (S : sS) (md : Nat) (n mm mx al : Int) (A : Int → Int → Int) (wh : Int → Int) (W : wT) : Prop := (W.2.1 0 = 1 → S.1 119 9 = 1 ∧ (∃ oc od RR, SRq G S oc od md n mm mx al A wh RR W) ∧ (Iv (KKm n A wh al) W ∧ Iw W) ∧ ¬ 30000 < W.2.2.1.length ∧ (S.1 158 1 = 0 ∧ S.1 158 2 = 0)) ∧ (W.2.1 0 ≠ 1 → S.1 119 9 ≠ 1 ∧ CEr S n mx W)
theorem CEr.fr {S u : sS} {n mx : Int} {W : wT} (h : CEr S n mx W) (e : svE S u) : CEr u n mx W := h.of ((e 119 rfl).1 9) ((e 158 rfl).1 1) ((e 158 rfl).1 2) (funext fun x => (e 159 rfl).2.1 x) ((e 160 rfl).1 1) ((e 160 rfl).1 2) (funext fun x => (e 161 rfl).2.1 x)
theorem CGr.fr {G : sG} {S u : sS} {md : Nat} {n mm mx al : Int} {A : Int → Int → Int} {wh : Int → Int} {W : wT} (h : CGr G S md n mm mx al A wh W) (e : svE S u) (o : OTc S u md) : CGr G u md n mm mx al A wh W := by
  refine ⟨fun q => ?_, fun q => ⟨by rw [(e 119 rfl).1 9]; exact (h.2 q).1, (h.2 q).2.fr e⟩⟩
  obtain ⟨a, ⟨oc, od, RR, b⟩, c, d, f⟩ := h.1 q
  exact ⟨by rw [(e 119 rfl).1 9]; exact a, ⟨oc, od, RR, b.fr e o⟩, c, d, by rw [(e 158 rfl).1 1, (e 158 rfl).1 2]; exact f⟩
theorem CGr.mk {G : sG} {S u : sS} {md : Nat} {n mm mx al : Int} {A : Int → Int → Int} {wh : Int → Int} {U : wT} (h9 : S.1 119 9 = U.2.1 0) (hS : U.2.1 0 ≤ 4 → ∃ oc od RR, SRq G S oc od md n mm mx al A wh RR U) (hI : U.2.1 0 = 1 → (Iv (KKm n A wh al) U ∧ Iw U) ∧ ¬ 30000 < U.2.2.1.length) (h80 : S.1 158 1 = 0 ∧ S.1 158 2 = 0) (p1 : S.1 119 9 = 1 → u = S) (p2 : S.1 119 9 ≠ 1 → u.1 119 9 ≠ 1 ∧ CEr u n mx U) : CGr G u md n mm mx al A wh U := by
  refine ⟨fun q => ?_, fun q => p2 (by rw [h9]; exact q)⟩
  have e := p1 (h9.trans q)
  subst e
  exact ⟨h9.trans q, hS (by omega), (hI q).1, (hI q).2, h80⟩
def CIr (G : sG) (S : sS) (md : Nat) (n mm mx al : Int) (A : Int → Int → Int) (wh : Int → Int) (W : wT) : Prop := (S.1 0 8 = 0 → W.2.1 0 ≠ 1) ∧ (S.1 0 8 ≠ 0 → CGr G S md n mm mx al A wh W) ∧ (W.2.1 0 = 1 → (0 ≤ n ∧ n ≤ 12 ∧ 0 ≤ al ∧ al ≤ 20) ∧ 0 ≤ mm)
theorem CIr.fr {G : sG} {S u : sS} {md : Nat} {n mm mx al : Int} {A : Int → Int → Int} {wh : Int → Int} {W : wT} (h : CIr G S md n mm mx al A wh W) (e : svE S u) (o : OTc S u md) (h8 : u.1 0 8 = S.1 0 8) : CIr G u md n mm mx al A wh W := ⟨fun q => h.1 (h8.symm.trans q), fun q => (h.2.1 (fun z => q (h8.trans z))).fr e o, h.2.2⟩
theorem hwA.one {m : Int} {A : Int → Int → Int} {h1 h2 : Int} (a : hwA m A h1) (b : hwA m A h2) : h1 = h2 := by
  rcases a with ⟨a, p⟩ | ⟨a, i, hi, p⟩ <;> rcases b with ⟨b, q⟩ | ⟨b, j, hj, q⟩
  · omega
  · have := p j hj.1 hj.2; omega
  · have := q i hi.1 hi.2; omega
  · omega
theorem RGr.sm {S u : sS} {n mm mx al : Int} {A : Int → Int → Int} {wh : Int → Int} {W : wT} (h : RGr S n mm mx al A wh W) (hr : RRq u n mm mx al A wh W) (e62 : u.1 231 62 = S.1 231 62) : RGr u n mm mx al A wh W := by
  obtain ⟨_, b, c, d, m⟩ := h
  refine ⟨hr, b, c, d, ?_⟩
  unfold mdR; rw [e62]; exact m
theorem XIr.sm {S u : sS} {n mm mx al : Int} {A : Int → Int → Int} {wh : Int → Int} {W : wT} (h : XIr S n mm mx al A wh W) (e46 : u.1 231 46 = S.1 231 46) (e47 : u.1 231 47 = S.1 231 47) (e48 : u.1 231 48 = S.1 231 48) (e49 : u.1 231 49 = S.1 231 49) (e58 : u.1 231 58 = S.1 231 58) (e59 : u.1 231 59 = S.1 231 59) (e60 : u.1 231 60 = S.1 231 60) (e61 : u.1 231 61 = S.1 231 61) (e62 : u.1 231 62 = S.1 231 62) (e65 : u.1 231 65 = S.1 231 65) (e68 : u.1 231 68 = S.1 231 68) (e69 : u.1 231 69 = S.1 231 69) (e70 : u.1 231 70 = S.1 231 70) (e71 : u.1 231 71 = S.1 231 71) (e72 : u.1 231 72 = S.1 231 72) (e78 : u.1 231 78 = S.1 231 78) (e79 : u.1 231 79 = S.1 231 79) (e84 : u.1 231 84 = S.1 231 84) (e86 : u.1 231 86 = S.1 231 86) (a259 : u.2.1 259 = S.2.1 259) (a262 : u.2.1 262 = S.2.1 262) (a264 : u.2.1 264 = S.2.1 264) (a265 : u.2.1 265 = S.2.1 265) (a266 : u.2.1 266 = S.2.1 266) (a267 : u.2.1 267 = S.2.1 267) (a268 : u.2.1 268 = S.2.1 268) (a269 : u.2.1 269 = S.2.1 269) (a270 : u.2.1 270 = S.2.1 270) (a271 : u.2.1 271 = S.2.1 271) (a272 : u.2.1 272 = S.2.1 272) (a273 : u.2.1 273 = S.2.1 273) (a274 : u.2.1 274 = S.2.1 274) (a275 : u.2.1 275 = S.2.1 275) (a276 : u.2.1 276 = S.2.1 276) (l260 : u.2.2.1 260 = S.2.2.1 260) (l290 : u.2.2.1 290 = S.2.2.1 290) : XIr u n mm mx al A wh W := by
  have rr : ∀ V, RRq S n mm mx al A wh V → RRq u n mm mx al A wh V := fun V q => q.sm e46 e47 e48 e49 e58 e59 e60 e65 e68 e69 e78 e79 e84 a259 a262 a264 a265 a266 a267 a268 a269 a270 a271 a272 a273 a274 a275 l260 l290
  refine ⟨fun q => ⟨fun z => ?_, fun z => ?_⟩, fun q => ⟨(h.2 (fun z => q (e61.trans z))).1, fun z => ((h.2 (fun z => q (e61.trans z))).2 (fun y => z (e61.trans y))).of e61 e86 a276⟩⟩
  · have a := (h.1 (e61.symm.trans q)).1 (e70.symm.trans z)
    exact a.sm (rr W a.1) e62
  · have a := (h.1 (e61.symm.trans q)).2 (fun y => z (e70.trans y))
    exact a.to (rr W a.1) e62 e71 e72
theorem XIr.cls {S u : sS} {n mm mx al : Int} {A : Int → Int → Int} {wh : Int → Int} {W : wT} (h : XIr S n mm mx al A wh W) (f : Fr S u pA) : XIr u n mm mx al A wh W := by
  have F := fun i => (f 231 rfl).1 i
  have R : ∀ k, pA k = false → u.2.1 k = S.2.1 k := fun k hk => funext fun j => (f k hk).2.1 j
  have L : ∀ k, pA k = false → u.2.2.1 k = S.2.2.1 k := fun k hk => funext fun j => (f k hk).2.2.1 j
  exact h.sm (F 46) (F 47) (F 48) (F 49) (F 58) (F 59) (F 60) (F 61) (F 62) (F 65) (F 68) (F 69) (F 70) (F 71) (F 72) (F 78) (F 79) (F 84) (F 86) (R 259 rfl) (R 262 rfl) (R 264 rfl) (R 265 rfl) (R 266 rfl) (R 267 rfl) (R 268 rfl) (R 269 rfl) (R 270 rfl) (R 271 rfl) (R 272 rfl) (R 273 rfl) (R 274 rfl) (R 275 rfl) (R 276 rfl) (L 260 rfl) (L 290 rfl)
/-- between the calls: class and reference tell one state of the machine -/
def SLV (G : sG) (S : sS) (y : Nat) (i : Int) : Prop := ∃ n mm mx al A wh W, CIr G S y n mm mx al A wh W ∧ XIr S n mm mx al A wh W ∧ 0 ≤ W.2.1 4 ∧ W.2.1 4 ≤ 84 * i ∧ (S.1 0 8 ≠ 0 → JA (KKm n A wh al) W) ∧ n ≤ 12 ∧ (S.1 0 8 = 0 ↔ S.1 231 61 = 0)
theorem SLV.up {G : sG} {S : sS} {y : Nat} {i j : Int} (h : SLV G S y i) (e : i ≤ j) : SLV G S y j := by
  obtain ⟨n, mm, mx, al, A, wh, W, a, b, c, d, f⟩ := h
  exact ⟨n, mm, mx, al, A, wh, W, a, b, c, by omega, f⟩
theorem SLV.no {G : sG} {S : sS} {y : Nat} {i : Int} (hi : 0 ≤ i) (h8 : S.1 0 8 = 0) (h61 : S.1 231 61 = 0) : SLV G S y i := ⟨0, 0, 0, 0, fun _ _ => 0, fun _ => 0, (dS0 0 0 (fun _ _ => 0) 0, fun _ => 0, [], [], 0, 0, fun _ => 0), ⟨fun _ q => absurd (show (0 : Int) = 1 from q) (by decide), fun q => absurd h8 q, fun q => absurd (show (0 : Int) = 1 from q) (by decide)⟩, ⟨fun q => by omega, fun _ => ⟨fun q => absurd (show (0 : Int) = 1 from q) (by decide), fun q => absurd h61 q⟩⟩, Int.le_refl _, (by show (0 : Int) ≤ 84 * i; omega), fun q => absurd h8 q, by decide, ⟨fun _ => h61, fun _ => h8⟩⟩
theorem SLV.fr {G : sG} {S u : sS} {y : Nat} {i j : Int} (h : SLV G S y i) (ij : i ≤ j) (e : svE S u) (o : OTc S u y) (h8 : u.1 0 8 = S.1 0 8) (h61 : u.1 231 61 = S.1 231 61) (x : ∀ n mm mx al A wh W, XIr S n mm mx al A wh W → XIr u n mm mx al A wh W) : SLV G u y j := by
  obtain ⟨n, mm, mx, al, A, wh, W, a, b, c, d, f1, f2, f3⟩ := h
  exact ⟨n, mm, mx, al, A, wh, W, a.fr e o h8, x _ _ _ _ _ _ _ b, c, by omega, fun q => f1 (fun z => q (h8.trans z)), f2, by rw [h8, h61]; exact f3⟩
/-- behind begin -/
theorem SLV.bg {G : sG} {S u1 u2 : sS} {y : Nat} {i k r1 r2 n mm mx : Int} {A : Int → Int → Int} {wh : Int → Int} (h : SLV G S y i) (hi : 0 ≤ i) (hr : 0 ≤ r1 ∧ r1 ≤ 1) (er : r1 = r2) (hn : r1 = 1 → (0 ≤ n ∧ n ≤ 12) ∧ 0 ≤ mm ∧ 0 ≤ k ∧ k ≤ 20) (hAb : r1 = 1 → ∀ i j, -100000 ≤ A i j ∧ A i j ≤ 100000) (c0 : r1 = 0 → u1 = S) (c1 : r1 = 1 → u1.1 0 8 = 1 ∧ (u1.1 158 1 = 0 ∧ u1.1 158 2 = 0) ∧ ∃ hw, hwA mm A hw ∧ ∃ oc od RR, SRq G u1 oc od y n mm mx k A wh RR (W0m n mm A hw)) (d0 : r2 = 0 → u2 = u1) (e : svE u1 u2) (o : OTc u1 u2 y) (h8 : u2.1 0 8 = u1.1 0 8) (d1 : r2 = 1 → u2.1 231 61 = 1 ∧ u2.1 231 70 = 0) (d2 : r2 = 1 → ∃ hw, hwA mm A hw ∧ RGr u2 n mm mx k A wh (W0m n mm A hw)) : SLV G u2 y (i + 6) := by
  by_cases q : r1 = 1
  · obtain ⟨b8, b80, hw, ha, oc, od, RR, hS⟩ := c1 q
    obtain ⟨hw2, ha2, hG⟩ := d2 (by omega)
    have z := hwA.one ha ha2
    subst z
    have d := d1 (by omega)
    have hq := hn q
    have s9 : u1.1 119 9 = 1 := hS.2.2.2.2.2.2.2.2.2.1
    refine ⟨n, mm, mx, k, A, wh, W0m n mm A hw, ⟨fun z => by omega, fun _ => ?_, fun _ => ⟨⟨hq.1.1, hq.1.2, hq.2.2⟩, hq.2.1⟩⟩, ⟨fun _ => ⟨fun _ => hG, fun z => absurd d.2 z⟩, fun z => absurd d.1 z⟩, Int.le_refl _, (by show (0 : Int) ≤ 84 * (i + 6); omega), fun _ => W0_ja ha hq.1.1 (hAb q), hq.1.2, ⟨fun z => by omega, fun z => by omega⟩⟩
    refine CGr.fr ⟨fun _ => ⟨s9, ⟨oc, od, RR, hS⟩, hG.2.1, (fun z => absurd (show 30000 < 0 from z) (by decide)), b80⟩, fun z => absurd rfl z⟩ e o
  · have e1 := c0 (by omega)
    have e2 := d0 (by omega)
    rw [e2, e1]; exact h.up (by omega)
/-- behind work, where the work goes on -/
theorem SLV.wk {G : sG} {S u1 u2 : sS} {y : Nat} {i k r1 r2 n mm mx al : Int} {A : Int → Int → Int} {wh : Int → Int} {W : wT} (hW : W.2.1 0 = 1) (hC : CIr G S y n mm mx al A wh W) (hX : XIr u1 n mm mx al A wh W) (hp : 0 ≤ W.2.1 4 ∧ W.2.1 4 ≤ 84 * i) (hJ : JA (KKm n A wh al) W) (c8 : u1.1 0 8 = 1) (pc : (k < 1 ∨ 500 < k → r1 = -1 ∧ u1 = S) ∧ (1 ≤ k ∧ k ≤ 500 → ∃ U, wkW (KKm n A wh al) W (W.2.1 4 + k) U ∧ stW U (W.2.1 4 + k) ∧ r1 = U.2.1 4 - W.2.1 4 ∧ (0 ≤ r1 ∧ r1 ≤ k) ∧ CGr G u1 y n mm mx al A wh U ∧ JA (KKm n A wh al) U)) (pr : WKr u1 u2 n mm mx al A wh W k r2) (e : svE u1 u2) (o : OTc u1 u2 y) (h8 : u2.1 0 8 = u1.1 0 8) : r1 = r2 ∧ SLV G u2 y (i + 6) := by
  have h61 : u1.1 231 61 = 1 := by
    by_cases q : u1.1 231 61 = 1
    · exact q
    · exact absurd hW (hX.2 q).1
  have hb := hC.2.2 hW
  by_cases q : 1 ≤ k ∧ k ≤ 500
  · obtain ⟨U, a, b, c, d0, d, dj⟩ := pc.2 q
    obtain ⟨V, a2, b2, c2, d2, d3⟩ := pr.2.2 q h61
    have z := a.one a2 b b2
    subst z
    refine ⟨by omega, n, mm, mx, al, A, wh, U, ⟨fun z => by omega, fun _ => d.fr e o, fun _ => hb⟩, d2, by omega, by omega, fun _ => dj, hb.1.2.1, ⟨fun z => by omega, fun z => absurd z d3⟩⟩
  · have a := pc.1 (by omega)
    have b := pr.1 (by omega)
    refine ⟨by omega, n, mm, mx, al, A, wh, W, ?_, b.2.1, hp.1, by omega, fun _ => hJ, hb.1.2.1, ⟨fun z => by omega, fun z => by have := b.2.2; omega⟩⟩
    have c := hC
    rw [← a.2] at c
    exact c.fr e o h8
theorem SLV.w0 {G : sG} {S u1 u2 : sS} {y : Nat} {i k r1 r2 n mm mx al : Int} {A : Int → Int → Int} {wh : Int → Int} {W : wT} (hW : W.2.1 0 ≠ 1) (hC : CIr G S y n mm mx al A wh W) (hX : XIr u1 n mm mx al A wh W) (hp : 0 ≤ W.2.1 4 ∧ W.2.1 4 ≤ 84 * i) (hJ : S.1 0 8 ≠ 0 → JA (KKm n A wh al) W) (hn : n ≤ 12) (hf : S.1 0 8 = 0 ↔ S.1 231 61 = 0) (eu : u1 = S) (p1 : k < 1 ∨ 500 < k → r1 = -1) (p2 : 1 ≤ k ∧ k ≤ 500 → r1 = 0) (pr : WKr u1 u2 n mm mx al A wh W k r2) (e : svE u1 u2) (o : OTc u1 u2 y) (h8 : u2.1 0 8 = u1.1 0 8) : r1 = r2 ∧ SLV G u2 y (i + 6) := by
  subst eu
  have h61 : u1.1 231 61 ≠ 1 := fun q => by
    have a := hX.1 q
    by_cases z : u1.1 231 70 = 0
    · exact hW (a.1 z).2.2.1
    · exact hW (a.2 z).2.2.1
  have cg := hC.fr e o h8
  have T : ∀ {x : Int}, u2.1 231 61 = u1.1 231 61 → (u2.1 0 8 ≠ 0 → JA (KKm n A wh al) W) ∧ n ≤ 12 ∧ (u2.1 0 8 = 0 ↔ u2.1 231 61 = 0) := fun {x} z => ⟨fun q => hJ (fun y => q (h8.trans y)), hn, by rw [h8, z]; exact hf⟩
  by_cases q : 1 ≤ k ∧ k ≤ 500
  · have b := pr.2.1 q h61
    exact ⟨by have := p2 q; omega, n, mm, mx, al, A, wh, W, cg, b.2.1, hp.1, by omega, T (x := 0) b.2.2⟩
  · have b := pr.1 (by omega)
    exact ⟨by have := p1 (by omega); omega, n, mm, mx, al, A, wh, W, cg, b.2.1, hp.1, by omega, T (x := 0) b.2.2⟩
/-- a byte of the proof -/
theorem SLV.pf {S u : sS} {n mx k r1 r2 : Int} {W : wT} (hf : S.1 0 8 = 0 ↔ S.1 231 61 = 0) (e61 : u.1 231 61 = S.1 231 61) (a : (S.1 0 8 = 0 → r1 = -1) ∧ (S.1 0 8 ≠ 0 → r1 = pfB n mx W k)) (b : (u.1 231 61 = 0 → r2 = -1) ∧ (u.1 231 61 ≠ 0 → r2 = pfB n mx W k)) : r1 = r2 := by
  by_cases q : S.1 0 8 = 0
  · rw [a.1 q, b.1 (e61.trans (hf.mp q))]
  · rw [a.2 q, b.2 (fun z => q (hf.mpr (e61.symm.trans z)))]
/-- the numbers of a model, naught outside it -/
def clA (n mm : Int) (A : Int → Int → Int) : Int → Int → Int := fun k j => if (0 ≤ k ∧ k ≤ mm) ∧ 0 ≤ j ∧ j ≤ n then A k j else 0
theorem clA_in {n mm : Int} {A : Int → Int → Int} {k j : Int} (hk : 0 ≤ k ∧ k ≤ mm) (hj : 0 ≤ j ∧ j ≤ n) : clA n mm A k j = A k j := if_pos ⟨hk, hj⟩
theorem MDv.cl {S : sS} {o : Nat} {n mm mx : Int} {A : Int → Int → Int} {wh : Int → Int} (h : MDv S o n mm mx A wh) : MDv S o n mm mx (clA n mm A) wh := ⟨h.1, h.2.1, h.2.2.1, fun k j a b c d => by rw [clA_in ⟨a, b⟩ ⟨c, d⟩]; exact h.2.2.2.1 k j a b c d, h.2.2.2.2⟩
theorem MDr.cl {S : sS} {n mm mx : Int} {A : Int → Int → Int} {wh : Int → Int} (h : MDr S n mm mx A wh) (hm : 0 ≤ mm) : MDr S n mm mx (clA n mm A) wh := ⟨h.1, h.2.1, h.2.2.1, h.2.2.2.1, fun j a b => by rw [clA_in ⟨Int.le_refl _, hm⟩ ⟨a, b⟩]; exact h.2.2.2.2.1 j a b, fun k j a b c d => by rw [clA_in ⟨by omega, b⟩ ⟨c, d⟩]; exact h.2.2.2.2.2.1 k j a b c d, h.2.2.2.2.2.2⟩
theorem clA_b {S : sS} {n mm mx : Int} {A : Int → Int → Int} {wh : Int → Int} (h : MDr S n mm mx A wh) (g : GM S) (k j : Int) : -100000 ≤ clA n mm A k j ∧ clA n mm A k j ≤ 100000 := by
  unfold clA
  by_cases q : (0 ≤ k ∧ k ≤ mm) ∧ 0 ≤ j ∧ j ≤ n
  · rw [if_pos q]
    by_cases z : k = 0
    · rw [z, ← h.2.2.2.2.1 j q.2.1 q.2.2]; exact g.1 j
    · rw [← h.2.2.2.2.2.1 k j (by omega) q.1.2 q.2.1 q.2.2]; exact g.2 _
  · rw [if_neg q]; omega
theorem OTc.F0 {S : sS} {y i : Nat} {v : Int} (m : mdl y) : OTc S (uF S 0 i v) y := by
  have ne : y ≠ 0 := fun h => by have t := m.1; rw [h] at t; cases t
  exact ⟨uF_ne (fun h => ne h.1), uF_ne (fun h => ne h.1), uF_ne (fun h => ne h.1), rfl, rfl⟩
set_option maxRecDepth 100000 in
set_option maxHeartbeats 4000000 in
theorem w_X5_clear (l : Launch) (G : sG) (S : sS)  (hI : cX G S 0 0 0) : Met l yX5_clear (.code yX5_clear cX5_clear 1 none :: tb) (rmk 2 0 0) (sPc G 294 S [.ref (G.2.2.1 + 157)]) (sQv G 294 (fun u => cX G u 0 0 0 ∧ Fr S u pCl ∧ (u.1 160 1 = 0 ∧ u.1 160 2 = 0 ∧ u.1 158 1 = 0 ∧ u.1 158 2 = 0))) 0 0 (sF G) := by
  refine sEnter (by decide) (Nat.le_of_ble_eq_true rfl) ?_
  intro p e s m args below meth c Cx hr hlk hnm hW ls hl
  have Cx : sC G p m c cX5_clear 1 s args RX5 := Cx
  obtain ⟨hx, hb, hml, hown, hts⟩ := id Cx.1
  have hL : sL G [] := sL_nil
  have hl : lv_has ls 1 [(0, .ref (G.2.2.1 + 157))] := hl
  have hW0 := hW
  refine lv_aload_n hx hb dX5_clear_0 rfl (lv_at hl 0 rfl) ?_
  refine g_X5_16 Cx hW (k := 157) (by decide) rfl (v := .ref (G.2.2.1 + 158)) (rf_157_0 hI) dX5_clear_1 ?_
  refine sBv (sV (As := []) (rest := []) (k := 158) Cx (s_X10_clear l G S (o := 158) (N := 1500) hI ⟨by decide, rfl, rfl, rfl, rfl, by decide⟩) (c_X5_52 Cx rfl rfl (rmk_ok (by omega) (by decide))) hW (by decide) rfl rfl rfl hl.1 rfl (Nat.le_of_ble_eq_true rfl) dX5_clear_4 ⟨Nat.le_of_ble_eq_true rfl, Nat.le_of_ble_eq_true rfl⟩) hL (fun u_1 H locs k_2 hW hL => ?_)
  obtain ⟨iu_1, fu_1, xu_1⟩ := k_2
  have F_3 := (Fr.rf : Fr S S pCl).trans (fu_1.to (pB_sub rfl rfl))
  refine lv_aload_n hx hb dX5_clear_7 rfl (lv_at hl 0 rfl) ?_
  refine g_X5_20 Cx hW (k := 157) (by decide) rfl (v := .ref (G.2.2.1 + 160)) (rf_157_1 iu_1) dX5_clear_8 ?_
  refine sBv (sV (As := []) (rest := []) (k := 160) Cx (s_X10_clear l G u_1 (o := 160) (N := 30000) iu_1 ⟨by decide, rfl, rfl, rfl, rfl, by decide⟩) (c_X5_52 Cx rfl rfl (rmk_ok (by omega) (by decide))) hW (by decide) rfl rfl rfl hl.1 rfl (Nat.le_of_ble_eq_true rfl) dX5_clear_11 ⟨Nat.le_of_ble_eq_true rfl, Nat.le_of_ble_eq_true rfl⟩) hL (fun u_4 H locs k_5 hW hL => ?_)
  obtain ⟨iu_4, fu_4, xu_4⟩ := k_5
  have F_6 := F_3.trans (fu_4.to (pB_sub rfl rfl))
  have q_7 : 0 ≤ u_4.1 160 1 ∧ u_4.1 160 1 ≤ 30000 := iu_4.fi 160 1 10 (by decide) rfl
  have q_8 : 0 ≤ u_4.1 160 2 ∧ u_4.1 160 2 ≤ 1 := iu_4.fi 160 2 10 (by decide) rfl
  have q_9 : 0 ≤ u_1.1 158 1 ∧ u_1.1 158 1 ≤ 1500 := iu_1.fi 158 1 10 (by decide) rfl
  have lk_10 : u_4.1 158 1 = u_1.1 158 1 := (fu_4 158 rfl).1 1
  have q_11 : 0 ≤ u_1.1 158 2 ∧ u_1.1 158 2 ≤ 1 := iu_1.fi 158 2 10 (by decide) rfl
  have lk_12 : u_4.1 158 2 = u_1.1 158 2 := (fu_4 158 rfl).1 2
  exact sVret Cx hr hlk hW hL ⟨iu_4, F_6, ⟨by omega, by omega, by omega, by omega⟩⟩ dX5_clear_14

set_option maxRecDepth 100000 in
set_option maxHeartbeats 4000000 in
theorem w_X7_start (l : Launch) (G : sG) (S : sS) {oc od md : Nat} {n mm mx al : Int} {A : Int → Int → Int} {wh : Int → Int} (hI : cX G S 0 0 0) (hdq : dcs G S oc od) (hmo : mdl md) (hMD : Hd (MDv S md n mm mx A wh)) (hal : 0 ≤ al ∧ al ≤ 20) (hAb : Hd (∀ k j, -100000 ≤ A k j ∧ A k j ≤ 100000)) : Met l yX7_start (.code yX7_start cX7_start 3 none :: tb) (rmk 5 0 0) (sPc G 294 S [.ref (G.2.2.1 + 119), .ref (G.2.2.1 + md), .int (iv al)]) (sQv G 294 (fun u => cX G u 0 0 0 ∧ Fr S u pBg ∧ (Hd (∃ hw, hwA mm A hw ∧ ∃ oc od RR, SRq G u oc od md n mm mx al A wh RR (W0m n mm A hw)) ∧ u.1 158 1 = 0 ∧ u.1 158 2 = 0))) 0 0 (sF G) := by
  refine sEnter (by decide) (Nat.le_of_ble_eq_true rfl) ?_
  intro p e s m args below meth c Cx hr hlk hnm hW ls hl
  have Cx : sC G p m c cX7_start 3 s args RX7 := Cx
  obtain ⟨hx, hb, hml, hown, hts⟩ := id Cx.1
  have hL : sL G [] := sL_nil
  have hl : lv_has ls 3 [(0, .ref (G.2.2.1 + 119)), (1, .ref (G.2.2.1 + md)), (2, .int (iv al))] := hl
  have hW0 := hW
  obtain ⟨hoc, hod, hcd, hec, hed⟩ := id hdq
  have hmd1 := hMD.1; have hmd2 := hMD.2.1; have hv12 : 0 ≤ S.1 md 2 ∧ S.1 md 2 ≤ 12 := hI.fi md 2 3 (mdl_k hmo) hmo.1; have hv16 : 0 ≤ S.1 md 3 ∧ S.1 md 3 ≤ 16 := hI.fi md 3 3 (mdl_k hmo) hmo.1
  refine lv_aload_n hx hb dX7_start_0 rfl (lv_at hl 0 rfl) ?_
  refine lv_aload_n hx hb dX7_start_1 rfl (lv_at hl 1 rfl) ?_
  refine p_X7_51 Cx hW hL (k := 119) (by decide) rfl dX7_start_2 (fun H locs hW hL => ?_)
  have F_1 : Fr S (uR S 119 7 (.ref (G.2.2.1 + md))) pBg := (Fr.rf : Fr S S pBg).R rfl
  have i_2 : cX G (uR S 119 7 (.ref (G.2.2.1 + md))) 0 0 0 := hI.mod119 hmo
  refine lv_aload_n hx hb dX7_start_5 rfl (lv_at hl 0 rfl) ?_
  refine lv_iload_n hx hb dX7_start_6 rfl (lv_at hl 2 rfl) ?_
  refine p_X7_55 Cx hW hL (k := 119) (by decide) rfl dX7_start_7 (fun H locs hW hL => ?_)
  have F_3 : Fr S (uF (uR S 119 7 (.ref (G.2.2.1 + md))) 119 8 al) pBg := F_1.F rfl
  have i_4 : cX G (uF (uR S 119 7 (.ref (G.2.2.1 + md))) 119 8 al) 0 0 0 := i_2.F rfl rfl (show 0 ≤ al ∧ al ≤ 20 from ⟨by omega, by omega⟩)
  refine lv_aload_n hx hb dX7_start_10 rfl (lv_at hl 0 rfl) ?_
  refine g_X7_12 Cx hW (k := 119) (by decide) rfl (v := .ref (G.2.2.1 + 120)) (rf_119_0 i_4) dX7_start_11 ?_
  refine lv_aload_n hx hb dX7_start_14 rfl (lv_at hl 1 rfl) ?_
  have q_5 : 0 ≤ S.1 md 2 ∧ S.1 md 2 ≤ 12 := hI.fi md 2 3 (mdl_k hmo) hmo.1
  have lk_6 : (uF (uR S 119 7 (.ref (G.2.2.1 + md))) 119 8 al).1 md 2 = S.1 md 2 := (uF_ne (fun h => absurd h.2 (by decide))).trans (uR_f)
  have q_7 : 0 ≤ S.1 md 3 ∧ S.1 md 3 ≤ 16 := hI.fi md 3 3 (mdl_k hmo) hmo.1
  have lk_8 : (uF (uR S 119 7 (.ref (G.2.2.1 + md))) 119 8 al).1 md 3 = S.1 md 3 := (uF_ne (fun h => absurd h.2 (by decide))).trans (uR_f)
  refine sBv (sV (As := [.ref (G.2.2.1 + md)]) (rest := []) (k := 120) Cx (z_X6_take_120 l G (uF (uR S 119 7 (.ref (G.2.2.1 + md))) 119 8 al) (md := md) i_4 hmo) (c_X7_59 Cx rfl rfl (rmk_ok (by omega) (by decide))) hW (by decide) rfl rfl rfl hl.1 rfl (Nat.le_of_ble_eq_true rfl) dX7_start_15 ⟨Nat.le_of_ble_eq_true rfl, Nat.le_of_ble_eq_true rfl⟩) hL (fun u_9 H locs k_10 hW hL => ?_)
  obtain ⟨iu_9, fu_9, xu_9⟩ := k_10
  have F_11 := F_3.trans (fu_9.to pRz_Bg)
  have hrw : RWz u_9 n mm A := by have e := xu_9.1; rw [show (uF (uR S 119 7 (.ref (G.2.2.1 + md))) 119 8 al).1 md 2 = n from ((MDv.of hMD (show (uF (uR S 119 7 (.ref (G.2.2.1 + md))) 119 8 al).1 md 2 = S.1 md 2 from (uF_ne (fun h => absurd h.2 (by decide))).trans (uR_f)) (show (uF (uR S 119 7 (.ref (G.2.2.1 + md))) 119 8 al).1 md 3 = S.1 md 3 from (uF_ne (fun h => absurd h.2 (by decide))).trans (uR_f)) (show (uF (uR S 119 7 (.ref (G.2.2.1 + md))) 119 8 al).1 md 4 = S.1 md 4 from (uF_ne (fun h => absurd h.2 (by decide))).trans (uR_f)) (show (uF (uR S 119 7 (.ref (G.2.2.1 + md))) 119 8 al).2.1 (md + 1) = S.2.1 (md + 1) from funext fun x => (uF_a).trans (uR_a)) (show (uF (uR S 119 7 (.ref (G.2.2.1 + md))) 119 8 al).2.1 (md + 2) = S.2.1 (md + 2) from funext fun x => (uF_a).trans (uR_a)))).1, show (uF (uR S 119 7 (.ref (G.2.2.1 + md))) 119 8 al).1 md 3 = mm from ((MDv.of hMD (show (uF (uR S 119 7 (.ref (G.2.2.1 + md))) 119 8 al).1 md 2 = S.1 md 2 from (uF_ne (fun h => absurd h.2 (by decide))).trans (uR_f)) (show (uF (uR S 119 7 (.ref (G.2.2.1 + md))) 119 8 al).1 md 3 = S.1 md 3 from (uF_ne (fun h => absurd h.2 (by decide))).trans (uR_f)) (show (uF (uR S 119 7 (.ref (G.2.2.1 + md))) 119 8 al).1 md 4 = S.1 md 4 from (uF_ne (fun h => absurd h.2 (by decide))).trans (uR_f)) (show (uF (uR S 119 7 (.ref (G.2.2.1 + md))) 119 8 al).2.1 (md + 1) = S.2.1 (md + 1) from funext fun x => (uF_a).trans (uR_a)) (show (uF (uR S 119 7 (.ref (G.2.2.1 + md))) 119 8 al).2.1 (md + 2) = S.2.1 (md + 2) from funext fun x => (uF_a).trans (uR_a)))).2.1] at e; exact ⟨e.1, e.2.1, fun k j k0 k1 j0 j1 => (e.2.2 k j k0 k1 j0 j1).trans (((MDv.of hMD (show (uF (uR S 119 7 (.ref (G.2.2.1 + md))) 119 8 al).1 md 2 = S.1 md 2 from (uF_ne (fun h => absurd h.2 (by decide))).trans (uR_f)) (show (uF (uR S 119 7 (.ref (G.2.2.1 + md))) 119 8 al).1 md 3 = S.1 md 3 from (uF_ne (fun h => absurd h.2 (by decide))).trans (uR_f)) (show (uF (uR S 119 7 (.ref (G.2.2.1 + md))) 119 8 al).1 md 4 = S.1 md 4 from (uF_ne (fun h => absurd h.2 (by decide))).trans (uR_f)) (show (uF (uR S 119 7 (.ref (G.2.2.1 + md))) 119 8 al).2.1 (md + 1) = S.2.1 (md + 1) from funext fun x => (uF_a).trans (uR_a)) (show (uF (uR S 119 7 (.ref (G.2.2.1 + md))) 119 8 al).2.1 (md + 2) = S.2.1 (md + 2) from funext fun x => (uF_a).trans (uR_a)))).2.2.2.1 k j k0 k1 j0 j1)⟩
  refine lv_aload_n hx hb dX7_start_18 rfl (lv_at hl 0 rfl) ?_
  refine g_X7_21 Cx hW (k := 119) (by decide) rfl (v := .ref (G.2.2.1 + 135)) (rf_119_1 iu_9) dX7_start_19 ?_
  refine lv_aload_n hx hb dX7_start_22 rfl (lv_at hl 1 rfl) ?_
  refine sBv (sV (As := [.ref (G.2.2.1 + md)]) (rest := []) (k := 135) Cx (v_X2_start l G u_9 (md := md) (oc := oc) (od := od) (n := n) (mm := mm) (mx := mx) (A := A) (wh := wh) iu_9 ⟨hoc, hod, (neD hcd), ((((fu_9 135 rfl).2.2.2 0).trans ((uF_r).trans (uR_ne (fun h => absurd h.2 (by decide))))).trans hec), ((((fu_9 135 rfl).2.2.2 1).trans ((uF_r).trans (uR_ne (fun h => absurd h.2 (by decide))))).trans hed)⟩ hmo (MDv.of hMD (show u_9.1 md 2 = S.1 md 2 from ((fu_9 md (mo_pRz hmo).1).1 2).trans ((uF_ne (fun h => absurd h.2 (by decide))).trans (uR_f))) (show u_9.1 md 3 = S.1 md 3 from ((fu_9 md (mo_pRz hmo).1).1 3).trans ((uF_ne (fun h => absurd h.2 (by decide))).trans (uR_f))) (show u_9.1 md 4 = S.1 md 4 from ((fu_9 md (mo_pRz hmo).1).1 4).trans ((uF_ne (fun h => absurd h.2 (by decide))).trans (uR_f))) (show u_9.2.1 (md + 1) = S.2.1 (md + 1) from funext fun x => ((fu_9 (md + 1) (mo_pRz hmo).2.1).2.1 x).trans ((uF_a).trans (uR_a))) (show u_9.2.1 (md + 2) = S.2.1 (md + 2) from funext fun x => ((fu_9 (md + 2) (mo_pRz hmo).2.2).2.1 x).trans ((uF_a).trans (uR_a))))) (c_X7_63 Cx rfl rfl (rmk_ok (by omega) (by decide))) hW (by decide) rfl rfl rfl hl.1 rfl (Nat.le_of_ble_eq_true rfl) dX7_start_23 ⟨Nat.le_of_ble_eq_true rfl, Nat.le_of_ble_eq_true rfl⟩) hL (fun u_12 H locs k_13 hW hL => ?_)
  obtain ⟨iu_12, fu_12, xu_12⟩ := k_13
  have F_14 := F_11.trans (fu_12.to pSt_Bg)
  obtain ⟨hw, hhw, hdn, hDn, hkn⟩ := xu_12
  have hw01 : hw = 0 ∨ hw = 1 := by rcases hhw with q | q; exact .inl q.1; exact .inr q.1
  have hDn16 := hDn.2.2.2.2.2.2.2
  refine lv_aload_n hx hb dX7_start_26 rfl (lv_at hl 0 rfl) ?_
  refine g_X7_28 Cx hW (k := 119) (by decide) rfl (v := .ref (G.2.2.1 + 157)) (rf_119_2 iu_12) dX7_start_27 ?_
  refine sBv (sV (As := []) (rest := []) (k := 157) Cx (w_X5_clear l G u_12  iu_12) (c_X7_66 Cx rfl rfl (rmk_ok (by omega) (by decide))) hW (by decide) rfl rfl rfl hl.1 rfl (Nat.le_of_ble_eq_true rfl) dX7_start_30 ⟨Nat.le_of_ble_eq_true rfl, Nat.le_of_ble_eq_true rfl⟩) hL (fun u_15 H locs k_16 hW hL => ?_)
  obtain ⟨iu_15, fu_15, xu_15⟩ := k_16
  have F_17 := F_14.trans (fu_15.to pCl_Bg)
  have htx : TXc u_15 160 30000 [] := TXc.z xu_15.1 xu_15.2.1
  refine lv_aload_n hx hb dX7_start_33 rfl (lv_at hl 0 rfl) ?_
  refine lv_iconst (v := iv 1) hx hb dX7_start_34 (by decide) ?_
  refine p_X7_69 Cx hW hL (k := 119) (by decide) rfl dX7_start_35 (fun H locs hW hL => ?_)
  have F_18 : Fr S (uF u_15 119 9 1) pBg := F_17.F rfl
  have i_19 : cX G (uF u_15 119 9 1) 0 0 0 := iu_15.status ⟨by omega, by omega⟩ (by omega)
  refine lv_aload_n hx hb dX7_start_38 rfl (lv_at hl 0 rfl) ?_
  refine lv_iconst (v := iv 0) hx hb dX7_start_39 (by decide) ?_
  refine p_X7_72 Cx hW hL (k := 119) (by decide) rfl dX7_start_40 (fun H locs hW hL => ?_)
  have F_20 : Fr S (uF (uF u_15 119 9 1) 119 10 0) pBg := F_18.F rfl
  have i_21 : cX G (uF (uF u_15 119 9 1) 119 10 0) 0 0 0 := i_19.F rfl rfl (show (-2147483648) ≤ 0 ∧ 0 ≤ 2147483647 from ⟨by omega, by omega⟩)
  refine lv_aload_n hx hb dX7_start_43 rfl (lv_at hl 0 rfl) ?_
  refine lv_iconst (v := iv 1) hx hb dX7_start_44 (by decide) ?_
  refine p_X7_75 Cx hW hL (k := 119) (by decide) rfl dX7_start_45 (fun H locs hW hL => ?_)
  have F_22 : Fr S (uF (uF (uF u_15 119 9 1) 119 10 0) 119 11 1) pBg := F_20.F rfl
  have i_23 : cX G (uF (uF (uF u_15 119 9 1) 119 10 0) 119 11 1) 0 0 0 := i_21.F rfl rfl (show 0 ≤ 1 ∧ 1 ≤ 1000 from ⟨by omega, by omega⟩)
  refine lv_aload_n hx hb dX7_start_48 rfl (lv_at hl 0 rfl) ?_
  refine lv_iconst (v := iv 0) hx hb dX7_start_49 (by decide) ?_
  refine p_X7_78 Cx hW hL (k := 119) (by decide) rfl dX7_start_50 (fun H locs hW hL => ?_)
  have F_24 : Fr S (uF (uF (uF (uF u_15 119 9 1) 119 10 0) 119 11 1) 119 12 0) pBg := F_22.F rfl
  have i_25 : cX G (uF (uF (uF (uF u_15 119 9 1) 119 10 0) 119 11 1) 119 12 0) 0 0 0 := i_23.F rfl rfl (show (-2147483648) ≤ 0 ∧ 0 ≤ 2147483647 from ⟨by omega, by omega⟩)
  refine lv_aload_n hx hb dX7_start_53 rfl (lv_at hl 0 rfl) ?_
  refine lv_iconst (v := iv 0) hx hb dX7_start_54 (by decide) ?_
  refine p_X7_81 Cx hW hL (k := 119) (by decide) rfl dX7_start_55 (fun H locs hW hL => ?_)
  have F_26 : Fr S (uF (uF (uF (uF (uF u_15 119 9 1) 119 10 0) 119 11 1) 119 12 0) 119 13 0) pBg := F_24.F rfl
  have i_27 : cX G (uF (uF (uF (uF (uF u_15 119 9 1) 119 10 0) 119 11 1) 119 12 0) 119 13 0) 0 0 0 := i_25.F rfl rfl (show (-2147483648) ≤ 0 ∧ 0 ≤ 2147483647 from ⟨by omega, by omega⟩)
  refine lv_aload_n hx hb dX7_start_58 rfl (lv_at hl 0 rfl) ?_
  refine lv_aload_n hx hb dX7_start_59 rfl (lv_at hl 0 rfl) ?_
  refine g_X7_21 Cx hW (k := 119) (by decide) rfl (v := .ref (G.2.2.1 + 135)) (rf_119_1 i_27) dX7_start_60 ?_
  have q_28 : 0 ≤ u_12.1 135 16 ∧ u_12.1 135 16 ≤ 1 := iu_12.fi 135 16 2 (by decide) rfl
  have lk_29 : (uF (uF (uF (uF (uF u_15 119 9 1) 119 10 0) 119 11 1) 119 12 0) 119 13 0).1 135 16 = u_12.1 135 16 := (uF_ne (fun h => absurd h.2 (by decide))).trans ((uF_ne (fun h => absurd h.2 (by decide))).trans ((uF_ne (fun h => absurd h.2 (by decide))).trans ((uF_ne (fun h => absurd h.2 (by decide))).trans ((uF_ne (fun h => absurd h.2 (by decide))).trans ((fu_15 135 rfl).1 16)))))
  refine sBi (sV (As := []) (rest := [.ref (G.2.2.1 + 119)]) (k := 135) Cx (s_X2_hasHelper l G (uF (uF (uF (uF (uF u_15 119 9 1) 119 10 0) 119 11 1) 119 12 0) 119 13 0)  i_27) (c_X7_84 Cx rfl rfl (rmk_ok (by omega) (by decide))) hW (by decide) rfl rfl rfl hl.1 rfl (Nat.le_of_ble_eq_true rfl) dX7_start_63 ⟨Nat.le_of_ble_eq_true rfl, Nat.le_of_ble_eq_true rfl⟩) hL (fun r_32 u_30 H locs k_31 hW hL => ?_)
  obtain ⟨eu_30, xu_30⟩ := k_31
  rw [eu_30] at hW
  refine r_if_eq (tgt := 73) hx hb ⟨(by omega), (by omega)⟩ dX7_start_66 (by decide) (fun c_33 => ?_) (fun c_33 => ?_)
  · refine lv_iconst (v := iv 2) hx hb dX7_start_73 (by decide) ?_
    refine p_X7_88 Cx hW hL (k := 119) (by decide) rfl dX7_start_74 (fun H locs hW hL => ?_)
    have F_34 : Fr S (uF (uF (uF (uF (uF (uF u_15 119 9 1) 119 10 0) 119 11 1) 119 12 0) 119 13 0) 119 14 2) pBg := F_26.F rfl
    have i_35 : cX G (uF (uF (uF (uF (uF (uF u_15 119 9 1) 119 10 0) 119 11 1) 119 12 0) 119 13 0) 119 14 2) 0 0 0 := i_27.F rfl rfl (show 0 ≤ 2 ∧ 2 ≤ 3 from ⟨by omega, by omega⟩)
    refine lv_aload_n hx hb dX7_start_77 rfl (lv_at hl 0 rfl) ?_
    refine lv_iconst (v := iv 0) hx hb dX7_start_78 (by decide) ?_
    refine p_X7_91 Cx hW hL (k := 119) (by decide) rfl dX7_start_79 (fun H locs hW hL => ?_)
    have F_36 : Fr S (uF (uF (uF (uF (uF (uF (uF u_15 119 9 1) 119 10 0) 119 11 1) 119 12 0) 119 13 0) 119 14 2) 119 15 0) pBg := F_34.F rfl
    have i_37 : cX G (uF (uF (uF (uF (uF (uF (uF u_15 119 9 1) 119 10 0) 119 11 1) 119 12 0) 119 13 0) 119 14 2) 119 15 0) 0 0 0 := i_35.F rfl rfl (show 0 ≤ 0 ∧ 0 ≤ 6 from ⟨by omega, by omega⟩)
    have q_38 : 0 ≤ u_15.1 158 1 ∧ u_15.1 158 1 ≤ 1500 := iu_15.fi 158 1 10 (by decide) rfl
    have lk_39 : (uF (uF (uF (uF (uF (uF (uF u_15 119 9 1) 119 10 0) 119 11 1) 119 12 0) 119 13 0) 119 14 2) 119 15 0).1 158 1 = u_15.1 158 1 := (uF_ne (fun h => absurd h.2 (by decide))).trans ((uF_ne (fun h => absurd h.2 (by decide))).trans ((uF_ne (fun h => absurd h.2 (by decide))).trans ((uF_ne (fun h => absurd h.2 (by decide))).trans ((uF_ne (fun h => absurd h.2 (by decide))).trans ((uF_ne (fun h => absurd h.2 (by decide))).trans (uF_ne (fun h => absurd h.2 (by decide))))))))
    have q_40 : 0 ≤ u_15.1 158 2 ∧ u_15.1 158 2 ≤ 1 := iu_15.fi 158 2 10 (by decide) rfl
    have lk_41 : (uF (uF (uF (uF (uF (uF (uF u_15 119 9 1) 119 10 0) 119 11 1) 119 12 0) 119 13 0) 119 14 2) 119 15 0).1 158 2 = u_15.1 158 2 := (uF_ne (fun h => absurd h.2 (by decide))).trans ((uF_ne (fun h => absurd h.2 (by decide))).trans ((uF_ne (fun h => absurd h.2 (by decide))).trans ((uF_ne (fun h => absurd h.2 (by decide))).trans ((uF_ne (fun h => absurd h.2 (by decide))).trans ((uF_ne (fun h => absurd h.2 (by decide))).trans (uF_ne (fun h => absurd h.2 (by decide))))))))
    have lk_42 : (uF (uF (uF (uF (uF (uF (uF u_15 119 9 1) 119 10 0) 119 11 1) 119 12 0) 119 13 0) 119 14 2) 119 15 0).1 119 8 = al := (uF_ne (fun h => absurd h.2 (by decide))).trans ((uF_ne (fun h => absurd h.2 (by decide))).trans ((uF_ne (fun h => absurd h.2 (by decide))).trans ((uF_ne (fun h => absurd h.2 (by decide))).trans ((uF_ne (fun h => absurd h.2 (by decide))).trans ((uF_ne (fun h => absurd h.2 (by decide))).trans ((uF_ne (fun h => absurd h.2 (by decide))).trans (((fu_15 119 rfl).1 8).trans (((fu_12 119 rfl).1 8).trans (((fu_9 119 rfl).1 8).trans (uF_on))))))))))
    have lk_43 : (uF (uF (uF (uF (uF (uF (uF u_15 119 9 1) 119 10 0) 119 11 1) 119 12 0) 119 13 0) 119 14 2) 119 15 0).1 119 9 = 1 := (uF_ne (fun h => absurd h.2 (by decide))).trans ((uF_ne (fun h => absurd h.2 (by decide))).trans ((uF_ne (fun h => absurd h.2 (by decide))).trans ((uF_ne (fun h => absurd h.2 (by decide))).trans ((uF_ne (fun h => absurd h.2 (by decide))).trans ((uF_ne (fun h => absurd h.2 (by decide))).trans (uF_on))))))
    have lk_44 : (uF (uF (uF (uF (uF (uF (uF u_15 119 9 1) 119 10 0) 119 11 1) 119 12 0) 119 13 0) 119 14 2) 119 15 0).1 119 10 = 0 := (uF_ne (fun h => absurd h.2 (by decide))).trans ((uF_ne (fun h => absurd h.2 (by decide))).trans ((uF_ne (fun h => absurd h.2 (by decide))).trans ((uF_ne (fun h => absurd h.2 (by decide))).trans ((uF_ne (fun h => absurd h.2 (by decide))).trans (uF_on)))))
    have lk_45 : (uF (uF (uF (uF (uF (uF (uF u_15 119 9 1) 119 10 0) 119 11 1) 119 12 0) 119 13 0) 119 14 2) 119 15 0).1 119 11 = 1 := (uF_ne (fun h => absurd h.2 (by decide))).trans ((uF_ne (fun h => absurd h.2 (by decide))).trans ((uF_ne (fun h => absurd h.2 (by decide))).trans ((uF_ne (fun h => absurd h.2 (by decide))).trans (uF_on))))
    have lk_46 : (uF (uF (uF (uF (uF (uF (uF u_15 119 9 1) 119 10 0) 119 11 1) 119 12 0) 119 13 0) 119 14 2) 119 15 0).1 119 12 = 0 := (uF_ne (fun h => absurd h.2 (by decide))).trans ((uF_ne (fun h => absurd h.2 (by decide))).trans ((uF_ne (fun h => absurd h.2 (by decide))).trans (uF_on)))
    have lk_47 : (uF (uF (uF (uF (uF (uF (uF u_15 119 9 1) 119 10 0) 119 11 1) 119 12 0) 119 13 0) 119 14 2) 119 15 0).1 119 13 = 0 := (uF_ne (fun h => absurd h.2 (by decide))).trans ((uF_ne (fun h => absurd h.2 (by decide))).trans (uF_on))
    have lk_48 : (uF (uF (uF (uF (uF (uF (uF u_15 119 9 1) 119 10 0) 119 11 1) 119 12 0) 119 13 0) 119 14 2) 119 15 0).1 119 14 = 2 := (uF_ne (fun h => absurd h.2 (by decide))).trans (uF_on)
    have lk_49 : (uF (uF (uF (uF (uF (uF (uF u_15 119 9 1) 119 10 0) 119 11 1) 119 12 0) 119 13 0) 119 14 2) 119 15 0).1 119 15 = 0 := uF_on
    have q_50 : (-1) ≤ S.1 119 16 ∧ S.1 119 16 ≤ 40 := hI.fi 119 16 7 (by decide) rfl
    have lk_51 : (uF (uF (uF (uF (uF (uF (uF u_15 119 9 1) 119 10 0) 119 11 1) 119 12 0) 119 13 0) 119 14 2) 119 15 0).1 119 16 = S.1 119 16 := (uF_ne (fun h => absurd h.2 (by decide))).trans ((uF_ne (fun h => absurd h.2 (by decide))).trans ((uF_ne (fun h => absurd h.2 (by decide))).trans ((uF_ne (fun h => absurd h.2 (by decide))).trans ((uF_ne (fun h => absurd h.2 (by decide))).trans ((uF_ne (fun h => absurd h.2 (by decide))).trans ((uF_ne (fun h => absurd h.2 (by decide))).trans (((fu_15 119 rfl).1 16).trans (((fu_12 119 rfl).1 16).trans (((fu_9 119 rfl).1 16).trans ((uF_ne (fun h => absurd h.2 (by decide))).trans (uR_f)))))))))))
    have q_52 : 0 ≤ u_12.1 135 19 ∧ u_12.1 135 19 ≤ 102220 := iu_12.fi 135 19 2 (by decide) rfl
    have lk_53 : (uF (uF (uF (uF (uF (uF (uF u_15 119 9 1) 119 10 0) 119 11 1) 119 12 0) 119 13 0) 119 14 2) 119 15 0).1 135 19 = u_12.1 135 19 := (uF_ne (fun h => absurd h.2 (by decide))).trans ((uF_ne (fun h => absurd h.2 (by decide))).trans ((uF_ne (fun h => absurd h.2 (by decide))).trans ((uF_ne (fun h => absurd h.2 (by decide))).trans ((uF_ne (fun h => absurd h.2 (by decide))).trans ((uF_ne (fun h => absurd h.2 (by decide))).trans ((uF_ne (fun h => absurd h.2 (by decide))).trans ((fu_15 135 rfl).1 19)))))))
    exact sVret Cx hr hlk hW hL ⟨i_37, F_36, ⟨⟨hw, hhw, oc, od, A, ⟨hoc, hod, (neD hcd), (((uF_r).trans ((uF_r).trans ((uF_r).trans ((uF_r).trans ((uF_r).trans ((uF_r).trans ((uF_r).trans ((fu_15 135 rfl).2.2.2 0)))))))).trans hdn.2.2.2.1), (((uF_r).trans ((uF_r).trans ((uF_r).trans ((uF_r).trans ((uF_r).trans ((uF_r).trans ((uF_r).trans ((fu_15 135 rfl).2.2.2 1)))))))).trans hdn.2.2.2.2)⟩, (by rw [W0_hw hw01]; exact (DRc.of hDn (show (uF (uF (uF (uF (uF (uF (uF u_15 119 9 1) 119 10 0) 119 11 1) 119 12 0) 119 13 0) 119 14 2) 119 15 0).1 135 13 = u_12.1 135 13 from (uF_ne (fun h => absurd h.2 (by decide))).trans ((uF_ne (fun h => absurd h.2 (by decide))).trans ((uF_ne (fun h => absurd h.1 (by decide))).trans ((uF_ne (fun h => absurd h.2 (by decide))).trans ((uF_ne (fun h => absurd h.2 (by decide))).trans ((uF_ne (fun h => absurd h.2 (by decide))).trans ((uF_ne (fun h => absurd h.2 (by decide))).trans ((fu_15 135 rfl).1 13)))))))) (show (uF (uF (uF (uF (uF (uF (uF u_15 119 9 1) 119 10 0) 119 11 1) 119 12 0) 119 13 0) 119 14 2) 119 15 0).1 135 14 = u_12.1 135 14 from (uF_ne (fun h => absurd h.2 (by decide))).trans ((uF_ne (fun h => absurd h.1 (by decide))).trans ((uF_ne (fun h => absurd h.2 (by decide))).trans ((uF_ne (fun h => absurd h.2 (by decide))).trans ((uF_ne (fun h => absurd h.2 (by decide))).trans ((uF_ne (fun h => absurd h.2 (by decide))).trans ((uF_ne (fun h => absurd h.2 (by decide))).trans ((fu_15 135 rfl).1 14)))))))) (show (uF (uF (uF (uF (uF (uF (uF u_15 119 9 1) 119 10 0) 119 11 1) 119 12 0) 119 13 0) 119 14 2) 119 15 0).1 135 15 = u_12.1 135 15 from (uF_ne (fun h => absurd h.1 (by decide))).trans ((uF_ne (fun h => absurd h.2 (by decide))).trans ((uF_ne (fun h => absurd h.2 (by decide))).trans ((uF_ne (fun h => absurd h.2 (by decide))).trans ((uF_ne (fun h => absurd h.2 (by decide))).trans ((uF_ne (fun h => absurd h.2 (by decide))).trans ((uF_ne (fun h => absurd h.2 (by decide))).trans ((fu_15 135 rfl).1 15)))))))) (show (uF (uF (uF (uF (uF (uF (uF u_15 119 9 1) 119 10 0) 119 11 1) 119 12 0) 119 13 0) 119 14 2) 119 15 0).1 135 16 = u_12.1 135 16 from (uF_ne (fun h => absurd h.2 (by decide))).trans ((uF_ne (fun h => absurd h.2 (by decide))).trans ((uF_ne (fun h => absurd h.2 (by decide))).trans ((uF_ne (fun h => absurd h.2 (by decide))).trans ((uF_ne (fun h => absurd h.2 (by decide))).trans ((uF_ne (fun h => absurd h.2 (by decide))).trans ((uF_ne (fun h => absurd h.2 (by decide))).trans ((fu_15 135 rfl).1 16)))))))) (show (uF (uF (uF (uF (uF (uF (uF u_15 119 9 1) 119 10 0) 119 11 1) 119 12 0) 119 13 0) 119 14 2) 119 15 0).2.1 oc = u_12.2.1 oc from funext fun x => (uF_a).trans ((uF_a).trans ((uF_a).trans ((uF_a).trans ((uF_a).trans ((uF_a).trans ((uF_a).trans ((fu_15 oc (dic_pCl hoc)).2.1 x)))))))) (show (uF (uF (uF (uF (uF (uF (uF u_15 119 9 1) 119 10 0) 119 11 1) 119 12 0) 119 13 0) 119 14 2) 119 15 0).2.1 138 = u_12.2.1 138 from funext fun x => (uF_a).trans ((uF_a).trans ((uF_a).trans ((uF_a).trans ((uF_a).trans ((uF_a).trans ((uF_a).trans ((fu_15 138 rfl).2.1 x)))))))) (show (uF (uF (uF (uF (uF (uF (uF u_15 119 9 1) 119 10 0) 119 11 1) 119 12 0) 119 13 0) 119 14 2) 119 15 0).2.1 139 = u_12.2.1 139 from funext fun x => (uF_a).trans ((uF_a).trans ((uF_a).trans ((uF_a).trans ((uF_a).trans ((uF_a).trans ((uF_a).trans ((fu_15 139 rfl).2.1 x)))))))))), (show (uF (uF (uF (uF (uF (uF (uF u_15 119 9 1) 119 10 0) 119 11 1) 119 12 0) 119 13 0) 119 14 2) 119 15 0).1 135 19 = 0 by omega), (TXc.of htx (show (uF (uF (uF (uF (uF (uF (uF u_15 119 9 1) 119 10 0) 119 11 1) 119 12 0) 119 13 0) 119 14 2) 119 15 0).1 160 1 = u_15.1 160 1 from (uF_ne (fun h => absurd h.2 (by decide))).trans ((uF_ne (fun h => absurd h.2 (by decide))).trans ((uF_ne (fun h => absurd h.2 (by decide))).trans ((uF_ne (fun h => absurd h.2 (by decide))).trans ((uF_ne (fun h => absurd h.2 (by decide))).trans ((uF_ne (fun h => absurd h.2 (by decide))).trans (uF_ne (fun h => absurd h.2 (by decide))))))))) (show (uF (uF (uF (uF (uF (uF (uF u_15 119 9 1) 119 10 0) 119 11 1) 119 12 0) 119 13 0) 119 14 2) 119 15 0).1 160 2 = u_15.1 160 2 from (uF_ne (fun h => absurd h.2 (by decide))).trans ((uF_ne (fun h => absurd h.2 (by decide))).trans ((uF_ne (fun h => absurd h.2 (by decide))).trans ((uF_ne (fun h => absurd h.2 (by decide))).trans ((uF_ne (fun h => absurd h.2 (by decide))).trans ((uF_ne (fun h => absurd h.2 (by decide))).trans (uF_ne (fun h => absurd h.2 (by decide))))))))) (show (uF (uF (uF (uF (uF (uF (uF u_15 119 9 1) 119 10 0) 119 11 1) 119 12 0) 119 13 0) 119 14 2) 119 15 0).2.1 161 = u_15.2.1 161 from funext fun x => (uF_a).trans ((uF_a).trans ((uF_a).trans ((uF_a).trans ((uF_a).trans ((uF_a).trans (uF_a)))))))), (RWz.of hrw (show (uF (uF (uF (uF (uF (uF (uF u_15 119 9 1) 119 10 0) 119 11 1) 119 12 0) 119 13 0) 119 14 2) 119 15 0).1 120 8 = u_9.1 120 8 from (uF_ne (fun h => absurd h.2 (by decide))).trans ((uF_ne (fun h => absurd h.2 (by decide))).trans ((uF_ne (fun h => absurd h.2 (by decide))).trans ((uF_ne (fun h => absurd h.2 (by decide))).trans ((uF_ne (fun h => absurd h.2 (by decide))).trans ((uF_ne (fun h => absurd h.2 (by decide))).trans ((uF_ne (fun h => absurd h.2 (by decide))).trans (((fu_15 120 rfl).1 8).trans ((fu_12 120 rfl).1 8))))))))) (show (uF (uF (uF (uF (uF (uF (uF u_15 119 9 1) 119 10 0) 119 11 1) 119 12 0) 119 13 0) 119 14 2) 119 15 0).1 120 9 = u_9.1 120 9 from (uF_ne (fun h => absurd h.2 (by decide))).trans ((uF_ne (fun h => absurd h.2 (by decide))).trans ((uF_ne (fun h => absurd h.2 (by decide))).trans ((uF_ne (fun h => absurd h.2 (by decide))).trans ((uF_ne (fun h => absurd h.2 (by decide))).trans ((uF_ne (fun h => absurd h.2 (by decide))).trans ((uF_ne (fun h => absurd h.1 (by decide))).trans (((fu_15 120 rfl).1 9).trans ((fu_12 120 rfl).1 9))))))))) (show (uF (uF (uF (uF (uF (uF (uF u_15 119 9 1) 119 10 0) 119 11 1) 119 12 0) 119 13 0) 119 14 2) 119 15 0).2.1 121 = u_9.2.1 121 from funext fun x => (uF_a).trans ((uF_a).trans ((uF_a).trans ((uF_a).trans ((uF_a).trans ((uF_a).trans ((uF_a).trans (((fu_15 121 rfl).2.1 x).trans ((fu_12 121 rfl).2.1 x)))))))))), (fun _ k j k0 k1 j0 j1 => hAb k j), ⟨(((uF_r).trans ((uF_r).trans ((uF_r).trans ((uF_r).trans ((uF_r).trans ((uF_r).trans ((uF_r).trans (((fu_15 119 rfl).2.2.2 7).trans (((fu_12 119 rfl).2.2.2 7).trans (((fu_9 119 rfl).2.2.2 7).trans ((uF_r).trans (uR_on)))))))))))) : (uF (uF (uF (uF (uF (uF (uF u_15 119 9 1) 119 10 0) 119 11 1) 119 12 0) 119 13 0) 119 14 2) 119 15 0).2.2.2 119 7 = _), (MDv.of hMD (show (uF (uF (uF (uF (uF (uF (uF u_15 119 9 1) 119 10 0) 119 11 1) 119 12 0) 119 13 0) 119 14 2) 119 15 0).1 md 2 = S.1 md 2 from (uF_ne (fun h => absurd h.2 (by decide))).trans ((uF_ne (fun h => absurd h.2 (by decide))).trans ((uF_ne (fun h => absurd h.2 (by decide))).trans ((uF_ne (fun h => absurd h.2 (by decide))).trans ((uF_ne (fun h => absurd h.2 (by decide))).trans ((uF_ne (fun h => absurd h.2 (by decide))).trans ((uF_ne (fun h => absurd h.2 (by decide))).trans (((fu_15 md (mo_pCl hmo).1).1 2).trans (((fu_12 md (mo_pSt hmo).1).1 2).trans (((fu_9 md (mo_pRz hmo).1).1 2).trans ((uF_ne (fun h => absurd h.2 (by decide))).trans (uR_f)))))))))))) (show (uF (uF (uF (uF (uF (uF (uF u_15 119 9 1) 119 10 0) 119 11 1) 119 12 0) 119 13 0) 119 14 2) 119 15 0).1 md 3 = S.1 md 3 from (uF_ne (fun h => absurd h.2 (by decide))).trans ((uF_ne (fun h => absurd h.2 (by decide))).trans ((uF_ne (fun h => absurd h.2 (by decide))).trans ((uF_ne (fun h => absurd h.2 (by decide))).trans ((uF_ne (fun h => absurd h.2 (by decide))).trans ((uF_ne (fun h => absurd h.2 (by decide))).trans ((uF_ne (fun h => absurd h.2 (by decide))).trans (((fu_15 md (mo_pCl hmo).1).1 3).trans (((fu_12 md (mo_pSt hmo).1).1 3).trans (((fu_9 md (mo_pRz hmo).1).1 3).trans ((uF_ne (fun h => absurd h.2 (by decide))).trans (uR_f)))))))))))) (show (uF (uF (uF (uF (uF (uF (uF u_15 119 9 1) 119 10 0) 119 11 1) 119 12 0) 119 13 0) 119 14 2) 119 15 0).1 md 4 = S.1 md 4 from (uF_ne (fun h => absurd h.2 (by decide))).trans ((uF_ne (fun h => absurd h.2 (by decide))).trans ((uF_ne (fun h => absurd h.2 (by decide))).trans ((uF_ne (fun h => absurd h.2 (by decide))).trans ((uF_ne (fun h => absurd h.2 (by decide))).trans ((uF_ne (fun h => absurd h.2 (by decide))).trans ((uF_ne (fun h => absurd h.2 (by decide))).trans (((fu_15 md (mo_pCl hmo).1).1 4).trans (((fu_12 md (mo_pSt hmo).1).1 4).trans (((fu_9 md (mo_pRz hmo).1).1 4).trans ((uF_ne (fun h => absurd h.2 (by decide))).trans (uR_f)))))))))))) (show (uF (uF (uF (uF (uF (uF (uF u_15 119 9 1) 119 10 0) 119 11 1) 119 12 0) 119 13 0) 119 14 2) 119 15 0).2.1 (md + 1) = S.2.1 (md + 1) from funext fun x => (uF_a).trans ((uF_a).trans ((uF_a).trans ((uF_a).trans ((uF_a).trans ((uF_a).trans ((uF_a).trans (((fu_15 (md + 1) (mo_pCl hmo).2.1).2.1 x).trans (((fu_12 (md + 1) (mo_pSt hmo).2.1).2.1 x).trans (((fu_9 (md + 1) (mo_pRz hmo).2.1).2.1 x).trans ((uF_a).trans (uR_a)))))))))))) (show (uF (uF (uF (uF (uF (uF (uF u_15 119 9 1) 119 10 0) 119 11 1) 119 12 0) 119 13 0) 119 14 2) 119 15 0).2.1 (md + 2) = S.2.1 (md + 2) from funext fun x => (uF_a).trans ((uF_a).trans ((uF_a).trans ((uF_a).trans ((uF_a).trans ((uF_a).trans ((uF_a).trans (((fu_15 (md + 2) (mo_pCl hmo).2.2).2.1 x).trans (((fu_12 (md + 2) (mo_pSt hmo).2.2).2.1 x).trans (((fu_9 (md + 2) (mo_pRz hmo).2.2).2.1 x).trans ((uF_a).trans (uR_a)))))))))))))⟩, (fun q => absurd (show (0 : Int) < 0 from q) (by decide)), ⟨(show (uF (uF (uF (uF (uF (uF (uF u_15 119 9 1) 119 10 0) 119 11 1) 119 12 0) 119 13 0) 119 14 2) 119 15 0).1 119 8 = al by omega), (show (uF (uF (uF (uF (uF (uF (uF u_15 119 9 1) 119 10 0) 119 11 1) 119 12 0) 119 13 0) 119 14 2) 119 15 0).1 119 9 = 1 by omega), (show (uF (uF (uF (uF (uF (uF (uF u_15 119 9 1) 119 10 0) 119 11 1) 119 12 0) 119 13 0) 119 14 2) 119 15 0).1 119 10 = 0 by omega), (show (uF (uF (uF (uF (uF (uF (uF u_15 119 9 1) 119 10 0) 119 11 1) 119 12 0) 119 13 0) 119 14 2) 119 15 0).1 119 11 = 1 by omega), (show (uF (uF (uF (uF (uF (uF (uF u_15 119 9 1) 119 10 0) 119 11 1) 119 12 0) 119 13 0) 119 14 2) 119 15 0).1 119 12 = 0 by omega), (show (uF (uF (uF (uF (uF (uF (uF u_15 119 9 1) 119 10 0) 119 11 1) 119 12 0) 119 13 0) 119 14 2) 119 15 0).1 119 13 = 0 by omega), (show (uF (uF (uF (uF (uF (uF (uF u_15 119 9 1) 119 10 0) 119 11 1) 119 12 0) 119 13 0) 119 14 2) 119 15 0).1 119 14 = phC (if hw = 1 then 0 else 3) by first | (rw [if_pos (show hw = 1 by omega)]; exact (show (uF (uF (uF (uF (uF (uF (uF u_15 119 9 1) 119 10 0) 119 11 1) 119 12 0) 119 13 0) 119 14 2) 119 15 0).1 119 14 = 1 by omega)) | (rw [if_neg (show ¬ hw = 1 by omega)]; exact (show (uF (uF (uF (uF (uF (uF (uF u_15 119 9 1) 119 10 0) 119 11 1) 119 12 0) 119 13 0) 119 14 2) 119 15 0).1 119 14 = 2 by omega))), (show (uF (uF (uF (uF (uF (uF (uF u_15 119 9 1) 119 10 0) 119 11 1) 119 12 0) 119 13 0) 119 14 2) 119 15 0).1 119 15 = 0 by omega), (fun q => absurd (show (3 : Int) ≤ 0 from q.1) (by decide)), (fun q => absurd (show (0 : Int) = 1 from q) (by decide)), (fun q => absurd (show (1 : Int) = 4 from q) (by decide))⟩⟩, (by omega), (by omega)⟩⟩ dX7_start_82
  · refine lv_iconst (v := iv 1) hx hb dX7_start_69 (by decide) ?_
    refine lv_goto (tgt := 74) hx hb dX7_start_70 (by decide) ?_
    refine p_X7_88 Cx hW hL (k := 119) (by decide) rfl dX7_start_74 (fun H locs hW hL => ?_)
    have F_54 : Fr S (uF (uF (uF (uF (uF (uF u_15 119 9 1) 119 10 0) 119 11 1) 119 12 0) 119 13 0) 119 14 1) pBg := F_26.F rfl
    have i_55 : cX G (uF (uF (uF (uF (uF (uF u_15 119 9 1) 119 10 0) 119 11 1) 119 12 0) 119 13 0) 119 14 1) 0 0 0 := i_27.F rfl rfl (show 0 ≤ 1 ∧ 1 ≤ 3 from ⟨by omega, by omega⟩)
    refine lv_aload_n hx hb dX7_start_77 rfl (lv_at hl 0 rfl) ?_
    refine lv_iconst (v := iv 0) hx hb dX7_start_78 (by decide) ?_
    refine p_X7_91 Cx hW hL (k := 119) (by decide) rfl dX7_start_79 (fun H locs hW hL => ?_)
    have F_56 : Fr S (uF (uF (uF (uF (uF (uF (uF u_15 119 9 1) 119 10 0) 119 11 1) 119 12 0) 119 13 0) 119 14 1) 119 15 0) pBg := F_54.F rfl
    have i_57 : cX G (uF (uF (uF (uF (uF (uF (uF u_15 119 9 1) 119 10 0) 119 11 1) 119 12 0) 119 13 0) 119 14 1) 119 15 0) 0 0 0 := i_55.F rfl rfl (show 0 ≤ 0 ∧ 0 ≤ 6 from ⟨by omega, by omega⟩)
    have q_58 : 0 ≤ u_15.1 158 1 ∧ u_15.1 158 1 ≤ 1500 := iu_15.fi 158 1 10 (by decide) rfl
    have lk_59 : (uF (uF (uF (uF (uF (uF (uF u_15 119 9 1) 119 10 0) 119 11 1) 119 12 0) 119 13 0) 119 14 1) 119 15 0).1 158 1 = u_15.1 158 1 := (uF_ne (fun h => absurd h.2 (by decide))).trans ((uF_ne (fun h => absurd h.2 (by decide))).trans ((uF_ne (fun h => absurd h.2 (by decide))).trans ((uF_ne (fun h => absurd h.2 (by decide))).trans ((uF_ne (fun h => absurd h.2 (by decide))).trans ((uF_ne (fun h => absurd h.2 (by decide))).trans (uF_ne (fun h => absurd h.2 (by decide))))))))
    have q_60 : 0 ≤ u_15.1 158 2 ∧ u_15.1 158 2 ≤ 1 := iu_15.fi 158 2 10 (by decide) rfl
    have lk_61 : (uF (uF (uF (uF (uF (uF (uF u_15 119 9 1) 119 10 0) 119 11 1) 119 12 0) 119 13 0) 119 14 1) 119 15 0).1 158 2 = u_15.1 158 2 := (uF_ne (fun h => absurd h.2 (by decide))).trans ((uF_ne (fun h => absurd h.2 (by decide))).trans ((uF_ne (fun h => absurd h.2 (by decide))).trans ((uF_ne (fun h => absurd h.2 (by decide))).trans ((uF_ne (fun h => absurd h.2 (by decide))).trans ((uF_ne (fun h => absurd h.2 (by decide))).trans (uF_ne (fun h => absurd h.2 (by decide))))))))
    have lk_62 : (uF (uF (uF (uF (uF (uF (uF u_15 119 9 1) 119 10 0) 119 11 1) 119 12 0) 119 13 0) 119 14 1) 119 15 0).1 119 8 = al := (uF_ne (fun h => absurd h.2 (by decide))).trans ((uF_ne (fun h => absurd h.2 (by decide))).trans ((uF_ne (fun h => absurd h.2 (by decide))).trans ((uF_ne (fun h => absurd h.2 (by decide))).trans ((uF_ne (fun h => absurd h.2 (by decide))).trans ((uF_ne (fun h => absurd h.2 (by decide))).trans ((uF_ne (fun h => absurd h.2 (by decide))).trans (((fu_15 119 rfl).1 8).trans (((fu_12 119 rfl).1 8).trans (((fu_9 119 rfl).1 8).trans (uF_on))))))))))
    have lk_63 : (uF (uF (uF (uF (uF (uF (uF u_15 119 9 1) 119 10 0) 119 11 1) 119 12 0) 119 13 0) 119 14 1) 119 15 0).1 119 9 = 1 := (uF_ne (fun h => absurd h.2 (by decide))).trans ((uF_ne (fun h => absurd h.2 (by decide))).trans ((uF_ne (fun h => absurd h.2 (by decide))).trans ((uF_ne (fun h => absurd h.2 (by decide))).trans ((uF_ne (fun h => absurd h.2 (by decide))).trans ((uF_ne (fun h => absurd h.2 (by decide))).trans (uF_on))))))
    have lk_64 : (uF (uF (uF (uF (uF (uF (uF u_15 119 9 1) 119 10 0) 119 11 1) 119 12 0) 119 13 0) 119 14 1) 119 15 0).1 119 10 = 0 := (uF_ne (fun h => absurd h.2 (by decide))).trans ((uF_ne (fun h => absurd h.2 (by decide))).trans ((uF_ne (fun h => absurd h.2 (by decide))).trans ((uF_ne (fun h => absurd h.2 (by decide))).trans ((uF_ne (fun h => absurd h.2 (by decide))).trans (uF_on)))))
    have lk_65 : (uF (uF (uF (uF (uF (uF (uF u_15 119 9 1) 119 10 0) 119 11 1) 119 12 0) 119 13 0) 119 14 1) 119 15 0).1 119 11 = 1 := (uF_ne (fun h => absurd h.2 (by decide))).trans ((uF_ne (fun h => absurd h.2 (by decide))).trans ((uF_ne (fun h => absurd h.2 (by decide))).trans ((uF_ne (fun h => absurd h.2 (by decide))).trans (uF_on))))
    have lk_66 : (uF (uF (uF (uF (uF (uF (uF u_15 119 9 1) 119 10 0) 119 11 1) 119 12 0) 119 13 0) 119 14 1) 119 15 0).1 119 12 = 0 := (uF_ne (fun h => absurd h.2 (by decide))).trans ((uF_ne (fun h => absurd h.2 (by decide))).trans ((uF_ne (fun h => absurd h.2 (by decide))).trans (uF_on)))
    have lk_67 : (uF (uF (uF (uF (uF (uF (uF u_15 119 9 1) 119 10 0) 119 11 1) 119 12 0) 119 13 0) 119 14 1) 119 15 0).1 119 13 = 0 := (uF_ne (fun h => absurd h.2 (by decide))).trans ((uF_ne (fun h => absurd h.2 (by decide))).trans (uF_on))
    have lk_68 : (uF (uF (uF (uF (uF (uF (uF u_15 119 9 1) 119 10 0) 119 11 1) 119 12 0) 119 13 0) 119 14 1) 119 15 0).1 119 14 = 1 := (uF_ne (fun h => absurd h.2 (by decide))).trans (uF_on)
    have lk_69 : (uF (uF (uF (uF (uF (uF (uF u_15 119 9 1) 119 10 0) 119 11 1) 119 12 0) 119 13 0) 119 14 1) 119 15 0).1 119 15 = 0 := uF_on
    have q_70 : (-1) ≤ S.1 119 16 ∧ S.1 119 16 ≤ 40 := hI.fi 119 16 7 (by decide) rfl
    have lk_71 : (uF (uF (uF (uF (uF (uF (uF u_15 119 9 1) 119 10 0) 119 11 1) 119 12 0) 119 13 0) 119 14 1) 119 15 0).1 119 16 = S.1 119 16 := (uF_ne (fun h => absurd h.2 (by decide))).trans ((uF_ne (fun h => absurd h.2 (by decide))).trans ((uF_ne (fun h => absurd h.2 (by decide))).trans ((uF_ne (fun h => absurd h.2 (by decide))).trans ((uF_ne (fun h => absurd h.2 (by decide))).trans ((uF_ne (fun h => absurd h.2 (by decide))).trans ((uF_ne (fun h => absurd h.2 (by decide))).trans (((fu_15 119 rfl).1 16).trans (((fu_12 119 rfl).1 16).trans (((fu_9 119 rfl).1 16).trans ((uF_ne (fun h => absurd h.2 (by decide))).trans (uR_f)))))))))))
    have q_72 : 0 ≤ u_12.1 135 19 ∧ u_12.1 135 19 ≤ 102220 := iu_12.fi 135 19 2 (by decide) rfl
    have lk_73 : (uF (uF (uF (uF (uF (uF (uF u_15 119 9 1) 119 10 0) 119 11 1) 119 12 0) 119 13 0) 119 14 1) 119 15 0).1 135 19 = u_12.1 135 19 := (uF_ne (fun h => absurd h.2 (by decide))).trans ((uF_ne (fun h => absurd h.2 (by decide))).trans ((uF_ne (fun h => absurd h.2 (by decide))).trans ((uF_ne (fun h => absurd h.2 (by decide))).trans ((uF_ne (fun h => absurd h.2 (by decide))).trans ((uF_ne (fun h => absurd h.2 (by decide))).trans ((uF_ne (fun h => absurd h.2 (by decide))).trans ((fu_15 135 rfl).1 19)))))))
    exact sVret Cx hr hlk hW hL ⟨i_57, F_56, ⟨⟨hw, hhw, oc, od, A, ⟨hoc, hod, (neD hcd), (((uF_r).trans ((uF_r).trans ((uF_r).trans ((uF_r).trans ((uF_r).trans ((uF_r).trans ((uF_r).trans ((fu_15 135 rfl).2.2.2 0)))))))).trans hdn.2.2.2.1), (((uF_r).trans ((uF_r).trans ((uF_r).trans ((uF_r).trans ((uF_r).trans ((uF_r).trans ((uF_r).trans ((fu_15 135 rfl).2.2.2 1)))))))).trans hdn.2.2.2.2)⟩, (by rw [W0_hw hw01]; exact (DRc.of hDn (show (uF (uF (uF (uF (uF (uF (uF u_15 119 9 1) 119 10 0) 119 11 1) 119 12 0) 119 13 0) 119 14 1) 119 15 0).1 135 13 = u_12.1 135 13 from (uF_ne (fun h => absurd h.2 (by decide))).trans ((uF_ne (fun h => absurd h.2 (by decide))).trans ((uF_ne (fun h => absurd h.1 (by decide))).trans ((uF_ne (fun h => absurd h.2 (by decide))).trans ((uF_ne (fun h => absurd h.2 (by decide))).trans ((uF_ne (fun h => absurd h.2 (by decide))).trans ((uF_ne (fun h => absurd h.2 (by decide))).trans ((fu_15 135 rfl).1 13)))))))) (show (uF (uF (uF (uF (uF (uF (uF u_15 119 9 1) 119 10 0) 119 11 1) 119 12 0) 119 13 0) 119 14 1) 119 15 0).1 135 14 = u_12.1 135 14 from (uF_ne (fun h => absurd h.2 (by decide))).trans ((uF_ne (fun h => absurd h.1 (by decide))).trans ((uF_ne (fun h => absurd h.2 (by decide))).trans ((uF_ne (fun h => absurd h.2 (by decide))).trans ((uF_ne (fun h => absurd h.2 (by decide))).trans ((uF_ne (fun h => absurd h.2 (by decide))).trans ((uF_ne (fun h => absurd h.2 (by decide))).trans ((fu_15 135 rfl).1 14)))))))) (show (uF (uF (uF (uF (uF (uF (uF u_15 119 9 1) 119 10 0) 119 11 1) 119 12 0) 119 13 0) 119 14 1) 119 15 0).1 135 15 = u_12.1 135 15 from (uF_ne (fun h => absurd h.1 (by decide))).trans ((uF_ne (fun h => absurd h.2 (by decide))).trans ((uF_ne (fun h => absurd h.2 (by decide))).trans ((uF_ne (fun h => absurd h.2 (by decide))).trans ((uF_ne (fun h => absurd h.2 (by decide))).trans ((uF_ne (fun h => absurd h.2 (by decide))).trans ((uF_ne (fun h => absurd h.2 (by decide))).trans ((fu_15 135 rfl).1 15)))))))) (show (uF (uF (uF (uF (uF (uF (uF u_15 119 9 1) 119 10 0) 119 11 1) 119 12 0) 119 13 0) 119 14 1) 119 15 0).1 135 16 = u_12.1 135 16 from (uF_ne (fun h => absurd h.2 (by decide))).trans ((uF_ne (fun h => absurd h.2 (by decide))).trans ((uF_ne (fun h => absurd h.2 (by decide))).trans ((uF_ne (fun h => absurd h.2 (by decide))).trans ((uF_ne (fun h => absurd h.2 (by decide))).trans ((uF_ne (fun h => absurd h.2 (by decide))).trans ((uF_ne (fun h => absurd h.2 (by decide))).trans ((fu_15 135 rfl).1 16)))))))) (show (uF (uF (uF (uF (uF (uF (uF u_15 119 9 1) 119 10 0) 119 11 1) 119 12 0) 119 13 0) 119 14 1) 119 15 0).2.1 oc = u_12.2.1 oc from funext fun x => (uF_a).trans ((uF_a).trans ((uF_a).trans ((uF_a).trans ((uF_a).trans ((uF_a).trans ((uF_a).trans ((fu_15 oc (dic_pCl hoc)).2.1 x)))))))) (show (uF (uF (uF (uF (uF (uF (uF u_15 119 9 1) 119 10 0) 119 11 1) 119 12 0) 119 13 0) 119 14 1) 119 15 0).2.1 138 = u_12.2.1 138 from funext fun x => (uF_a).trans ((uF_a).trans ((uF_a).trans ((uF_a).trans ((uF_a).trans ((uF_a).trans ((uF_a).trans ((fu_15 138 rfl).2.1 x)))))))) (show (uF (uF (uF (uF (uF (uF (uF u_15 119 9 1) 119 10 0) 119 11 1) 119 12 0) 119 13 0) 119 14 1) 119 15 0).2.1 139 = u_12.2.1 139 from funext fun x => (uF_a).trans ((uF_a).trans ((uF_a).trans ((uF_a).trans ((uF_a).trans ((uF_a).trans ((uF_a).trans ((fu_15 139 rfl).2.1 x)))))))))), (show (uF (uF (uF (uF (uF (uF (uF u_15 119 9 1) 119 10 0) 119 11 1) 119 12 0) 119 13 0) 119 14 1) 119 15 0).1 135 19 = 0 by omega), (TXc.of htx (show (uF (uF (uF (uF (uF (uF (uF u_15 119 9 1) 119 10 0) 119 11 1) 119 12 0) 119 13 0) 119 14 1) 119 15 0).1 160 1 = u_15.1 160 1 from (uF_ne (fun h => absurd h.2 (by decide))).trans ((uF_ne (fun h => absurd h.2 (by decide))).trans ((uF_ne (fun h => absurd h.2 (by decide))).trans ((uF_ne (fun h => absurd h.2 (by decide))).trans ((uF_ne (fun h => absurd h.2 (by decide))).trans ((uF_ne (fun h => absurd h.2 (by decide))).trans (uF_ne (fun h => absurd h.2 (by decide))))))))) (show (uF (uF (uF (uF (uF (uF (uF u_15 119 9 1) 119 10 0) 119 11 1) 119 12 0) 119 13 0) 119 14 1) 119 15 0).1 160 2 = u_15.1 160 2 from (uF_ne (fun h => absurd h.2 (by decide))).trans ((uF_ne (fun h => absurd h.2 (by decide))).trans ((uF_ne (fun h => absurd h.2 (by decide))).trans ((uF_ne (fun h => absurd h.2 (by decide))).trans ((uF_ne (fun h => absurd h.2 (by decide))).trans ((uF_ne (fun h => absurd h.2 (by decide))).trans (uF_ne (fun h => absurd h.2 (by decide))))))))) (show (uF (uF (uF (uF (uF (uF (uF u_15 119 9 1) 119 10 0) 119 11 1) 119 12 0) 119 13 0) 119 14 1) 119 15 0).2.1 161 = u_15.2.1 161 from funext fun x => (uF_a).trans ((uF_a).trans ((uF_a).trans ((uF_a).trans ((uF_a).trans ((uF_a).trans (uF_a)))))))), (RWz.of hrw (show (uF (uF (uF (uF (uF (uF (uF u_15 119 9 1) 119 10 0) 119 11 1) 119 12 0) 119 13 0) 119 14 1) 119 15 0).1 120 8 = u_9.1 120 8 from (uF_ne (fun h => absurd h.2 (by decide))).trans ((uF_ne (fun h => absurd h.2 (by decide))).trans ((uF_ne (fun h => absurd h.2 (by decide))).trans ((uF_ne (fun h => absurd h.2 (by decide))).trans ((uF_ne (fun h => absurd h.2 (by decide))).trans ((uF_ne (fun h => absurd h.2 (by decide))).trans ((uF_ne (fun h => absurd h.2 (by decide))).trans (((fu_15 120 rfl).1 8).trans ((fu_12 120 rfl).1 8))))))))) (show (uF (uF (uF (uF (uF (uF (uF u_15 119 9 1) 119 10 0) 119 11 1) 119 12 0) 119 13 0) 119 14 1) 119 15 0).1 120 9 = u_9.1 120 9 from (uF_ne (fun h => absurd h.2 (by decide))).trans ((uF_ne (fun h => absurd h.2 (by decide))).trans ((uF_ne (fun h => absurd h.2 (by decide))).trans ((uF_ne (fun h => absurd h.2 (by decide))).trans ((uF_ne (fun h => absurd h.2 (by decide))).trans ((uF_ne (fun h => absurd h.2 (by decide))).trans ((uF_ne (fun h => absurd h.1 (by decide))).trans (((fu_15 120 rfl).1 9).trans ((fu_12 120 rfl).1 9))))))))) (show (uF (uF (uF (uF (uF (uF (uF u_15 119 9 1) 119 10 0) 119 11 1) 119 12 0) 119 13 0) 119 14 1) 119 15 0).2.1 121 = u_9.2.1 121 from funext fun x => (uF_a).trans ((uF_a).trans ((uF_a).trans ((uF_a).trans ((uF_a).trans ((uF_a).trans ((uF_a).trans (((fu_15 121 rfl).2.1 x).trans ((fu_12 121 rfl).2.1 x)))))))))), (fun _ k j k0 k1 j0 j1 => hAb k j), ⟨(((uF_r).trans ((uF_r).trans ((uF_r).trans ((uF_r).trans ((uF_r).trans ((uF_r).trans ((uF_r).trans (((fu_15 119 rfl).2.2.2 7).trans (((fu_12 119 rfl).2.2.2 7).trans (((fu_9 119 rfl).2.2.2 7).trans ((uF_r).trans (uR_on)))))))))))) : (uF (uF (uF (uF (uF (uF (uF u_15 119 9 1) 119 10 0) 119 11 1) 119 12 0) 119 13 0) 119 14 1) 119 15 0).2.2.2 119 7 = _), (MDv.of hMD (show (uF (uF (uF (uF (uF (uF (uF u_15 119 9 1) 119 10 0) 119 11 1) 119 12 0) 119 13 0) 119 14 1) 119 15 0).1 md 2 = S.1 md 2 from (uF_ne (fun h => absurd h.2 (by decide))).trans ((uF_ne (fun h => absurd h.2 (by decide))).trans ((uF_ne (fun h => absurd h.2 (by decide))).trans ((uF_ne (fun h => absurd h.2 (by decide))).trans ((uF_ne (fun h => absurd h.2 (by decide))).trans ((uF_ne (fun h => absurd h.2 (by decide))).trans ((uF_ne (fun h => absurd h.2 (by decide))).trans (((fu_15 md (mo_pCl hmo).1).1 2).trans (((fu_12 md (mo_pSt hmo).1).1 2).trans (((fu_9 md (mo_pRz hmo).1).1 2).trans ((uF_ne (fun h => absurd h.2 (by decide))).trans (uR_f)))))))))))) (show (uF (uF (uF (uF (uF (uF (uF u_15 119 9 1) 119 10 0) 119 11 1) 119 12 0) 119 13 0) 119 14 1) 119 15 0).1 md 3 = S.1 md 3 from (uF_ne (fun h => absurd h.2 (by decide))).trans ((uF_ne (fun h => absurd h.2 (by decide))).trans ((uF_ne (fun h => absurd h.2 (by decide))).trans ((uF_ne (fun h => absurd h.2 (by decide))).trans ((uF_ne (fun h => absurd h.2 (by decide))).trans ((uF_ne (fun h => absurd h.2 (by decide))).trans ((uF_ne (fun h => absurd h.2 (by decide))).trans (((fu_15 md (mo_pCl hmo).1).1 3).trans (((fu_12 md (mo_pSt hmo).1).1 3).trans (((fu_9 md (mo_pRz hmo).1).1 3).trans ((uF_ne (fun h => absurd h.2 (by decide))).trans (uR_f)))))))))))) (show (uF (uF (uF (uF (uF (uF (uF u_15 119 9 1) 119 10 0) 119 11 1) 119 12 0) 119 13 0) 119 14 1) 119 15 0).1 md 4 = S.1 md 4 from (uF_ne (fun h => absurd h.2 (by decide))).trans ((uF_ne (fun h => absurd h.2 (by decide))).trans ((uF_ne (fun h => absurd h.2 (by decide))).trans ((uF_ne (fun h => absurd h.2 (by decide))).trans ((uF_ne (fun h => absurd h.2 (by decide))).trans ((uF_ne (fun h => absurd h.2 (by decide))).trans ((uF_ne (fun h => absurd h.2 (by decide))).trans (((fu_15 md (mo_pCl hmo).1).1 4).trans (((fu_12 md (mo_pSt hmo).1).1 4).trans (((fu_9 md (mo_pRz hmo).1).1 4).trans ((uF_ne (fun h => absurd h.2 (by decide))).trans (uR_f)))))))))))) (show (uF (uF (uF (uF (uF (uF (uF u_15 119 9 1) 119 10 0) 119 11 1) 119 12 0) 119 13 0) 119 14 1) 119 15 0).2.1 (md + 1) = S.2.1 (md + 1) from funext fun x => (uF_a).trans ((uF_a).trans ((uF_a).trans ((uF_a).trans ((uF_a).trans ((uF_a).trans ((uF_a).trans (((fu_15 (md + 1) (mo_pCl hmo).2.1).2.1 x).trans (((fu_12 (md + 1) (mo_pSt hmo).2.1).2.1 x).trans (((fu_9 (md + 1) (mo_pRz hmo).2.1).2.1 x).trans ((uF_a).trans (uR_a)))))))))))) (show (uF (uF (uF (uF (uF (uF (uF u_15 119 9 1) 119 10 0) 119 11 1) 119 12 0) 119 13 0) 119 14 1) 119 15 0).2.1 (md + 2) = S.2.1 (md + 2) from funext fun x => (uF_a).trans ((uF_a).trans ((uF_a).trans ((uF_a).trans ((uF_a).trans ((uF_a).trans ((uF_a).trans (((fu_15 (md + 2) (mo_pCl hmo).2.2).2.1 x).trans (((fu_12 (md + 2) (mo_pSt hmo).2.2).2.1 x).trans (((fu_9 (md + 2) (mo_pRz hmo).2.2).2.1 x).trans ((uF_a).trans (uR_a)))))))))))))⟩, (fun q => absurd (show (0 : Int) < 0 from q) (by decide)), ⟨(show (uF (uF (uF (uF (uF (uF (uF u_15 119 9 1) 119 10 0) 119 11 1) 119 12 0) 119 13 0) 119 14 1) 119 15 0).1 119 8 = al by omega), (show (uF (uF (uF (uF (uF (uF (uF u_15 119 9 1) 119 10 0) 119 11 1) 119 12 0) 119 13 0) 119 14 1) 119 15 0).1 119 9 = 1 by omega), (show (uF (uF (uF (uF (uF (uF (uF u_15 119 9 1) 119 10 0) 119 11 1) 119 12 0) 119 13 0) 119 14 1) 119 15 0).1 119 10 = 0 by omega), (show (uF (uF (uF (uF (uF (uF (uF u_15 119 9 1) 119 10 0) 119 11 1) 119 12 0) 119 13 0) 119 14 1) 119 15 0).1 119 11 = 1 by omega), (show (uF (uF (uF (uF (uF (uF (uF u_15 119 9 1) 119 10 0) 119 11 1) 119 12 0) 119 13 0) 119 14 1) 119 15 0).1 119 12 = 0 by omega), (show (uF (uF (uF (uF (uF (uF (uF u_15 119 9 1) 119 10 0) 119 11 1) 119 12 0) 119 13 0) 119 14 1) 119 15 0).1 119 13 = 0 by omega), (show (uF (uF (uF (uF (uF (uF (uF u_15 119 9 1) 119 10 0) 119 11 1) 119 12 0) 119 13 0) 119 14 1) 119 15 0).1 119 14 = phC (if hw = 1 then 0 else 3) by first | (rw [if_pos (show hw = 1 by omega)]; exact (show (uF (uF (uF (uF (uF (uF (uF u_15 119 9 1) 119 10 0) 119 11 1) 119 12 0) 119 13 0) 119 14 1) 119 15 0).1 119 14 = 1 by omega)) | (rw [if_neg (show ¬ hw = 1 by omega)]; exact (show (uF (uF (uF (uF (uF (uF (uF u_15 119 9 1) 119 10 0) 119 11 1) 119 12 0) 119 13 0) 119 14 1) 119 15 0).1 119 14 = 2 by omega))), (show (uF (uF (uF (uF (uF (uF (uF u_15 119 9 1) 119 10 0) 119 11 1) 119 12 0) 119 13 0) 119 14 1) 119 15 0).1 119 15 = 0 by omega), (fun q => absurd (show (3 : Int) ≤ 0 from q.1) (by decide)), (fun q => absurd (show (0 : Int) = 1 from q) (by decide)), (fun q => absurd (show (1 : Int) = 4 from q) (by decide))⟩⟩, (by omega), (by omega)⟩⟩ dX7_start_82

set_option maxRecDepth 100000 in
set_option maxHeartbeats 4000000 in
theorem v_X7_isProved (l : Launch) (G : sG) (S : sS)  (hI : cX G S 0 0 0) : Met l yX7_isProved (.code yX7_isProved cX7_isProved 1 (some .boolean) :: tb) (rmk 1 0 0) (sPc G 294 S [.ref (G.2.2.1 + 119)]) (sQi G 294 (fun r u => u = S ∧ (0 ≤ r ∧ r ≤ 1 ∧ (r = 1 ↔ 2 ≤ S.1 119 9 ∧ S.1 119 9 ≤ 4)))) 0 0 (sF G) := by
  refine sEnter (by decide) (Nat.le_of_ble_eq_true rfl) ?_
  intro p e s m args below meth c Cx hr hlk hnm hW ls hl
  have Cx : sC G p m c cX7_isProved 1 s args RX7 := Cx
  obtain ⟨hx, hb, hml, hown, hts⟩ := id Cx.1
  have hL : sL G [] := sL_nil
  have hl : lv_has ls 1 [(0, .ref (G.2.2.1 + 119))] := hl
  have hW0 := hW
  refine lv_aload_n hx hb dX7_isProved_0 rfl (lv_at hl 0 rfl) ?_
  have q_1 : 0 ≤ S.1 119 9 ∧ S.1 119 9 ≤ 6 := hI.fi 119 9 7 (by decide) rfl
  refine g_X7_69 Cx hW (k := 119) (by decide) rfl (v := S.1 119 9) rfl dX7_isProved_1 ?_
  refine lv_iconst (v := iv 2) hx hb dX7_isProved_4 (by decide) ?_
  refine r_icmp_lt (tgt := 20) hx hb ⟨(by omega), (by omega)⟩ ⟨(by omega), (by omega)⟩ dX7_isProved_5 (by decide) (fun c_2 => ?_) (fun c_2 => ?_)
  · refine lv_iconst (v := iv 0) hx hb dX7_isProved_20 (by decide) ?_
    exact sZret Cx hr hlk hW hL (by omega) ⟨rfl, (by omega)⟩ dX7_isProved_21
  · refine lv_aload_n hx hb dX7_isProved_8 rfl (lv_at hl 0 rfl) ?_
    refine g_X7_69 Cx hW (k := 119) (by decide) rfl (v := S.1 119 9) rfl dX7_isProved_9 ?_
    refine lv_iconst (v := iv 4) hx hb dX7_isProved_12 (by decide) ?_
    refine r_icmp_gt (tgt := 20) hx hb ⟨(by omega), (by omega)⟩ ⟨(by omega), (by omega)⟩ dX7_isProved_13 (by decide) (fun c_3 => ?_) (fun c_3 => ?_)
    · refine lv_iconst (v := iv 0) hx hb dX7_isProved_20 (by decide) ?_
      exact sZret Cx hr hlk hW hL (by omega) ⟨rfl, (by omega)⟩ dX7_isProved_21
    · refine lv_iconst (v := iv 1) hx hb dX7_isProved_16 (by decide) ?_
      refine lv_goto (tgt := 21) hx hb dX7_isProved_17 (by decide) ?_
      exact sZret Cx hr hlk hW hL (by omega) ⟨rfl, (by omega)⟩ dX7_isProved_21

set_option maxRecDepth 100000 in
set_option maxHeartbeats 4000000 in
theorem v_X7_prove (l : Launch) (G : sG) (S : sS) {md : Nat} {n mm mx al : Int} {A : Int → Int → Int} {wh : Int → Int} {Wm : wT} (hI : cX G S 0 0 0) (hmo : mdl md) (hP7 : Hd (S.1 119 9 = Wm.2.1 0 ∧ (Wm.2.1 0 ≤ 4 → ∃ oc od RR, SRq G S oc od md n mm mx al A wh RR Wm) ∧ (S.1 158 1 = 0 ∧ S.1 158 2 = 0) ∧ JA (KKm n A wh al) Wm)) (hn12 : 0 ≤ n ∧ n ≤ 12) : Met l yX7_prove (.code yX7_prove cX7_prove 1 none :: tb) (rmk 8 0 0) (sPc G 294 S [.ref (G.2.2.1 + 119)]) (sQv G 294 (fun u => cX G u 0 0 0 ∧ Fr S u pPr ∧ ((S.1 119 9 = 1 → u = S) ∧ (S.1 119 9 ≠ 1 → u.1 119 9 ≠ 1 ∧ Hd (CEr u n mx Wm))))) 0 0 (sF G) := by
  refine sEnter (by decide) (Nat.le_of_ble_eq_true rfl) ?_
  intro p e s m args below meth c Cx hr hlk hnm hW ls hl
  have Cx : sC G p m c cX7_prove 1 s args RX7 := Cx
  obtain ⟨hx, hb, hml, hown, hts⟩ := id Cx.1
  have hL : sL G [] := sL_nil
  have hl : lv_has ls 1 [(0, .ref (G.2.2.1 + 119))] := hl
  have hW0 := hW
  have h9 := hP7.1; have h80 := hP7.2.2.1
  refine lv_aload_n hx hb dX7_prove_0 rfl (lv_at hl 0 rfl) ?_
  have q_1 : 0 ≤ S.1 119 9 ∧ S.1 119 9 ≤ 6 := hI.fi 119 9 7 (by decide) rfl
  refine sBi (sV (As := []) (rest := []) (k := 119) Cx (v_X7_isProved l G S  hI) (c_X7_104 Cx rfl rfl (rmk_ok (by omega) (by decide))) hW (by decide) rfl rfl rfl hl.1 rfl (Nat.le_of_ble_eq_true rfl) dX7_prove_1 ⟨Nat.le_of_ble_eq_true rfl, Nat.le_of_ble_eq_true rfl⟩) hL (fun r_4 u_2 H locs k_3 hW hL => ?_)
  obtain ⟨eu_2, xu_2⟩ := k_3
  rw [eu_2] at hW
  refine r_if_eq (tgt := 17) hx hb ⟨(by omega), (by omega)⟩ dX7_prove_4 (by decide) (fun c_5 => ?_) (fun c_5 => ?_)
  · exact sVret Cx hr hlk hW hL ⟨hI, (Fr.rf : Fr S S pPr), ⟨(fun _ => rfl), (fun q => ⟨q, ⟨fun z => by exfalso; omega, fun z => by omega⟩⟩)⟩⟩ dX7_prove_17
  · refine lv_aload_n hx hb dX7_prove_7 rfl (lv_at hl 0 rfl) ?_
    refine g_X7_28 Cx hW (k := 119) (by decide) rfl (v := .ref (G.2.2.1 + 157)) (rf_119_2 hI) dX7_prove_8 ?_
    have q_6 : 0 ≤ S.1 158 1 ∧ S.1 158 1 ≤ 1500 := hI.fi 158 1 10 (by decide) rfl
    refine sBi (sV (As := []) (rest := []) (k := 157) Cx (v_X5_isMade l G S  hI) (c_X7_158 Cx rfl rfl (rmk_ok (by omega) (by decide))) hW (by decide) rfl rfl rfl hl.1 rfl (Nat.le_of_ble_eq_true rfl) dX7_prove_11 ⟨Nat.le_of_ble_eq_true rfl, Nat.le_of_ble_eq_true rfl⟩) hL (fun r_9 u_7 H locs k_8 hW hL => ?_)
    obtain ⟨eu_7, xu_7⟩ := k_8
    rw [eu_7] at hW
    refine r_if_eq (tgt := 18) hx hb ⟨(by omega), (by omega)⟩ dX7_prove_14 (by decide) (fun c_10 => ?_) (fun c_10 => ?_)
    · obtain ⟨oc, od, RR, hSR⟩ := hP7.2.1 (by omega)
      obtain ⟨hdq, hDR, hKS, hT, hRW, hRB, ⟨hmr, hMD⟩, hBP, hCR⟩ := id hSR
      have k18 := hCR.2.2.2.2.2.2.2.2.2.2; have hmd1 : S.1 md 2 = n := hMD.1; have hmd4 : S.1 md 4 = mx := hMD.2.2.1
      obtain ⟨hjp, hjt, hjb, hje, hja⟩ := id hP7.2.2.2
      have hdl : ((hdT n mx Wm)).length ≤ 1500 := hdT_len (by omega) hP7.2.2.2 (by omega)
      obtain ⟨hoc, hod, hcd, hec, hed⟩ := id hdq
      have hd13 := hDR.2.2.2.2.1; have hd14 := hDR.2.2.2.2.2.1; have hd15 := hDR.2.2.2.2.2.2.1; have hd16 := hDR.2.2.2.2.2.2.2; have hm40 : 0 ≤ S.1 135 14 ∧ S.1 135 14 ≤ 40 := hI.fi 135 14 2 (by decide) rfl; have hp13 : 0 ≤ S.1 135 15 ∧ S.1 135 15 ≤ 13 := hI.fi 135 15 2 (by decide) rfl
      have join_81 : ∀ (S81 : sS)  (H : Heap) (locs : List Loc) (ls : Array Slot), (cX G S81 0 0 0) → (Fr S S81 pPr) → (Fr S S81 pWu) → (S81.1 119 9 = S.1 119 9) → (Hd (TXc S81 158 1500 (hdT n mx Wm))) → (Hd (TXc S81 160 30000 Wm.2.2.1)) → sW G 294 S81 H → sL G locs → lv_has ls 1 [(0, .ref (G.2.2.1 + 119))] → W p l e (rmk 8 0 0) s m args below meth c H locs 0 0 (MQ below (sQv G 294 (fun u => cX G u 0 0 0 ∧ Fr S u pPr ∧ ((S.1 119 9 = 1 → u = S) ∧ (S.1 119 9 ≠ 1 → u.1 119 9 ≠ 1 ∧ Hd (CEr u n mx Wm))))) args s 0 0 (sF G)) (F0 m 81 ls []) := by
        intro S81  H locs ls hI81 hFm81 hL81_ h919 hh81 ht81 hW hL hl
        refine lv_aload_n hx hb dX7_prove_81 rfl (lv_at hl 0 rfl) ?_
        refine g_X7_28 Cx hW (k := 119) (by decide) rfl (v := .ref (G.2.2.1 + 157)) (rf_119_2 hI81) dX7_prove_82 ?_
        refine sBi (sV (As := []) (rest := []) (k := 157) Cx (v_X5_isOver l G S81 (Hx := (hdT n mx Wm)) (L := Wm.2.2.1) hI81 ⟨hh81, ht81⟩ (by omega)) (c_X7_171 Cx rfl rfl (rmk_ok (by omega) (by decide))) hW (by decide) rfl rfl rfl hl.1 rfl (Nat.le_of_ble_eq_true rfl) dX7_prove_85 ⟨Nat.le_of_ble_eq_true rfl, Nat.le_of_ble_eq_true rfl⟩) hL (fun r_13 u_11 H locs k_12 hW hL => ?_)
        obtain ⟨eu_11, xu_11⟩ := k_12
        rw [eu_11] at hW
        refine r_if_eq (tgt := 97) hx hb ⟨(by omega), (by omega)⟩ dX7_prove_88 (by decide) (fun c_14 => ?_) (fun c_14 => ?_)
        · have lk_15 : S81.1 119 9 = S.1 119 9 := (hL81_ 119 rfl).1 9
          exact sVret Cx hr hlk hW hL ⟨hI81, hFm81, ⟨(fun q => absurd q (by omega)), (fun _ => ⟨(show S81.1 119 9 ≠ 1 by omega), ⟨fun _ => ⟨fun z => (show S81.1 119 9 = 6 by have e := pfT_len (n := n) (mx := mx) hP7.2.2.2 (by omega); have y := xu_11.2.2; by_cases z0 : 0 < Wm.2.2.1.length; (rw [if_pos z0] at e y; omega); (rw [if_neg z0] at e y; omega)), fun z => ⟨(show S81.1 119 9 = Wm.2.1 0 by have e := pfT_len (n := n) (mx := mx) hP7.2.2.2 (by omega); have y := xu_11.2.2; by_cases z0 : 0 < Wm.2.2.1.length; (rw [if_pos z0] at e y; omega); (rw [if_neg z0] at e y; omega)), hh81, ht81⟩⟩, fun z => absurd (by omega) z⟩⟩)⟩⟩ dX7_prove_97
        · refine lv_aload_n hx hb dX7_prove_91 rfl (lv_at hl 0 rfl) ?_
          refine lv_bipush (v := iv 6) hx hb dX7_prove_92 (by decide) ?_
          refine p_X7_69 Cx hW hL (k := 119) (by decide) rfl dX7_prove_94 (fun H locs hW hL => ?_)
          have F_16 : Fr S (uF S81 119 9 6) pPr := hFm81.F rfl
          have i_17 : cX G (uF S81 119 9 6) 0 0 0 := hI81.status ⟨by omega, by omega⟩ (by omega)
          have lk_18 : (uF S81 119 9 6).1 119 9 = 6 := uF_on
          exact sVret Cx hr hlk hW hL ⟨i_17, F_16, ⟨(fun q => absurd q (by omega)), (fun _ => ⟨(show (uF S81 119 9 6).1 119 9 ≠ 1 by omega), ⟨fun _ => ⟨fun z => (show (uF S81 119 9 6).1 119 9 = 6 by have e := pfT_len (n := n) (mx := mx) hP7.2.2.2 (by omega); have y := xu_11.2.2; by_cases z0 : 0 < Wm.2.2.1.length; (rw [if_pos z0] at e y; omega); (rw [if_neg z0] at e y; omega)), fun z => ⟨(show (uF S81 119 9 6).1 119 9 = Wm.2.1 0 by have e := pfT_len (n := n) (mx := mx) hP7.2.2.2 (by omega); have y := xu_11.2.2; by_cases z0 : 0 < Wm.2.2.1.length; (rw [if_pos z0] at e y; omega); (rw [if_neg z0] at e y; omega)), (TXc.of hh81 (show (uF S81 119 9 6).1 158 1 = S81.1 158 1 from uF_ne (fun h => absurd h.2 (by decide))) (show (uF S81 119 9 6).1 158 2 = S81.1 158 2 from uF_ne (fun h => absurd h.2 (by decide))) (show (uF S81 119 9 6).2.1 159 = S81.2.1 159 from funext fun x => uF_a)), (TXc.of ht81 (show (uF S81 119 9 6).1 160 1 = S81.1 160 1 from uF_ne (fun h => absurd h.2 (by decide))) (show (uF S81 119 9 6).1 160 2 = S81.1 160 2 from uF_ne (fun h => absurd h.2 (by decide))) (show (uF S81 119 9 6).2.1 161 = S81.2.1 161 from funext fun x => uF_a))⟩⟩, fun z => absurd (by omega) z⟩⟩)⟩⟩ dX7_prove_97
      refine lv_aload_n hx hb dX7_prove_18 rfl (lv_at hl 0 rfl) ?_
      refine g_X7_69 Cx hW (k := 119) (by decide) rfl (v := S.1 119 9) rfl dX7_prove_19 ?_
      refine lv_iconst (v := iv 2) hx hb dX7_prove_22 (by decide) ?_
      refine r_icmp_ne (tgt := 40) hx hb ⟨(by omega), (by omega)⟩ ⟨(by omega), (by omega)⟩ dX7_prove_23 (by decide) (fun c_19 => ?_) (fun c_19 => ?_)
      · refine lv_aload_n hx hb dX7_prove_40 rfl (lv_at hl 0 rfl) ?_
        refine g_X7_69 Cx hW (k := 119) (by decide) rfl (v := S.1 119 9) rfl dX7_prove_41 ?_
        refine lv_iconst (v := iv 3) hx hb dX7_prove_44 (by decide) ?_
        refine r_icmp_ne (tgt := 58) hx hb ⟨(by omega), (by omega)⟩ ⟨(by omega), (by omega)⟩ dX7_prove_45 (by decide) (fun c_20 => ?_) (fun c_20 => ?_)
        · refine lv_aload_n hx hb dX7_prove_58 rfl (lv_at hl 0 rfl) ?_
          refine g_X7_69 Cx hW (k := 119) (by decide) rfl (v := S.1 119 9) rfl dX7_prove_59 ?_
          refine lv_iconst (v := iv 4) hx hb dX7_prove_62 (by decide) ?_
          refine r_icmp_ne (tgt := 81) hx hb ⟨(by omega), (by omega)⟩ ⟨(by omega), (by omega)⟩ dX7_prove_63 (by decide) (fun c_21 => ?_) (fun c_21 => ?_)
          · exact join_81 S  _ _ _ hI (Fr.rf : Fr S S pPr) (Fr.rf : Fr S S pWu) (by omega) (by exfalso; omega) hT hW hL (lv_sub hl [0] rfl)
          · have h4o : Hd (dOK (KKm n A wh al).1 0 Wm.1) := (hje.2.2.1 (by omega)).1.1; have h4c := (hje.2.2.1 (by omega)).2.2; have h18 := k18 (by omega)
            refine lv_aload_n hx hb dX7_prove_66 rfl (lv_at hl 0 rfl) ?_
            refine g_X7_28 Cx hW (k := 119) (by decide) rfl (v := .ref (G.2.2.1 + 157)) (rf_119_2 hI) dX7_prove_67 ?_
            refine lv_aload_n hx hb dX7_prove_70 rfl (lv_at hl 0 rfl) ?_
            refine g_X7_51 Cx hW (k := 119) (by decide) rfl (v := .ref (G.2.2.1 + md)) hmr dX7_prove_71 ?_
            refine lv_aload_n hx hb dX7_prove_74 rfl (lv_at hl 0 rfl) ?_
            refine g_X7_21 Cx hW (k := 119) (by decide) rfl (v := .ref (G.2.2.1 + 135)) (rf_119_1 hI) dX7_prove_75 ?_
            have q_22 : 0 ≤ S.1 md 2 ∧ S.1 md 2 ≤ 12 := hI.fi md 2 3 (mdl_k hmo) hmo.1
            have q_23 : (-1) ≤ S.1 135 18 ∧ S.1 135 18 ≤ 13 := hI.fi 135 18 2 (by decide) rfl
            refine sBv (sV (As := [.ref (G.2.2.1 + md), .ref (G.2.2.1 + 135)]) (rest := []) (k := 157) Cx (v_X5_proveUnbounded l G S (md := md) (oc := oc) (od := od) (n := n) (hw := (hwS Wm)) (d := Wm.1) (sc := (Wm.2.1 9)) (L := Wm.2.2.1) hI ⟨hoc, hod, (neD hcd), hec, hed⟩ hDR hmo hT (by omega) (by omega) (by omega) (by omega) ⟨h4o.2.2.1, ptB_nn (hje.2.2.1 (by omega)).1.2 h4o.1.1⟩) (c_X7_167 Cx rfl rfl (rmk_ok (by omega) (by decide))) hW (by decide) rfl rfl rfl hl.1 rfl (Nat.le_of_ble_eq_true rfl) dX7_prove_78 ⟨Nat.le_of_ble_eq_true rfl, Nat.le_of_ble_eq_true rfl⟩) hL (fun u_24 H locs k_25 hW hL => ?_)
            obtain ⟨iu_24, fu_24, xu_24⟩ := k_25
            have F_26 := (Fr.rf : Fr S S pPr).trans (fu_24.to pWu_Pr)
            have F_27 := (Fr.rf : Fr S S pWu).trans fu_24
            have lk_28 : u_24.1 119 9 = S.1 119 9 := (fu_24 119 rfl).1 9
            exact join_81 u_24  _ _ _ iu_24 F_26 F_27 (by omega) (TXc.eq xu_24 (show hdU n Wm.1 ((Wm.2.1 9)) = (hdT n mx Wm) by unfold hdT; rw [if_neg (by omega), if_neg (by omega)])) (TXc.of hT (show u_24.1 160 1 = S.1 160 1 from (fu_24 160 rfl).1 1) (show u_24.1 160 2 = S.1 160 2 from (fu_24 160 rfl).1 2) (show u_24.2.1 161 = S.2.1 161 from funext fun x => (fu_24 161 rfl).2.1 x)) hW hL (lv_sub hl [0] rfl)
        · refine lv_aload_n hx hb dX7_prove_48 rfl (lv_at hl 0 rfl) ?_
          refine g_X7_28 Cx hW (k := 119) (by decide) rfl (v := .ref (G.2.2.1 + 157)) (rf_119_2 hI) dX7_prove_49 ?_
          refine sBv (sV (As := []) (rest := []) (k := 157) Cx (v_X5_proveInfeasible l G S  hI) (c_X7_164 Cx rfl rfl (rmk_ok (by omega) (by decide))) hW (by decide) rfl rfl rfl hl.1 rfl (Nat.le_of_ble_eq_true rfl) dX7_prove_52 ⟨Nat.le_of_ble_eq_true rfl, Nat.le_of_ble_eq_true rfl⟩) hL (fun u_29 H locs k_30 hW hL => ?_)
          obtain ⟨iu_29, fu_29, xu_29⟩ := k_30
          have F_31 := (Fr.rf : Fr S S pPr).trans (fu_29.to (fun k h => pWu_Pr k (pWp_Wu k h)))
          have F_32 := (Fr.rf : Fr S S pWu).trans (fu_29.to pWp_Wu)
          refine lv_goto (tgt := 81) hx hb dX7_prove_55 (by decide) ?_
          have lk_33 : u_29.1 119 9 = S.1 119 9 := (fu_29 119 rfl).1 9
          exact join_81 u_29  _ _ _ iu_29 F_31 F_32 (by omega) (TXc.eq xu_29 (show tkn [] wIf = (hdT n mx Wm) by unfold hdT; rw [if_neg (by omega), if_pos (by omega)])) (TXc.of hT (show u_29.1 160 1 = S.1 160 1 from (fu_29 160 rfl).1 1) (show u_29.1 160 2 = S.1 160 2 from (fu_29 160 rfl).1 2) (show u_29.2.1 161 = S.2.1 161 from funext fun x => (fu_29 161 rfl).2.1 x)) hW hL (lv_sub hl [0] rfl)
      · refine lv_aload_n hx hb dX7_prove_26 rfl (lv_at hl 0 rfl) ?_
        refine g_X7_28 Cx hW (k := 119) (by decide) rfl (v := .ref (G.2.2.1 + 157)) (rf_119_2 hI) dX7_prove_27 ?_
        refine lv_aload_n hx hb dX7_prove_30 rfl (lv_at hl 0 rfl) ?_
        refine g_X7_51 Cx hW (k := 119) (by decide) rfl (v := .ref (G.2.2.1 + md)) hmr dX7_prove_31 ?_
        have q_34 : 0 ≤ S.1 md 2 ∧ S.1 md 2 ≤ 12 := hI.fi md 2 3 (mdl_k hmo) hmo.1
        have q_35 : 0 ≤ S.1 md 4 ∧ S.1 md 4 ≤ 1 := hI.fi md 4 3 (mdl_k hmo) hmo.1
        refine sBv (sV (As := [.ref (G.2.2.1 + md)]) (rest := []) (k := 157) Cx (v_X5_proveOptimal l G S (md := md) (n := n) (mx := mx) (bv0 := Wm.2.2.2.2.1) (D0 := Wm.2.2.2.2.2.1) (pt := Wm.2.2.2.2.2.2) hI hmo (by omega) (by omega) (show nv (S.2.1 162) 0 = _ from (hBP (hje.1 (by omega)).1).1) (hBP (hje.1 (by omega)).1).2 ⟨(hje.1 (by omega)).2, hjp.2.2.2.2 (hje.1 (by omega)).1⟩) (c_X7_161 Cx rfl rfl (rmk_ok (by omega) (by decide))) hW (by decide) rfl rfl rfl hl.1 rfl (Nat.le_of_ble_eq_true rfl) dX7_prove_34 ⟨Nat.le_of_ble_eq_true rfl, Nat.le_of_ble_eq_true rfl⟩) hL (fun u_36 H locs k_37 hW hL => ?_)
        obtain ⟨iu_36, fu_36, xu_36⟩ := k_37
        have F_38 := (Fr.rf : Fr S S pPr).trans (fu_36.to (fun k h => pWu_Pr k (pWp_Wu k h)))
        have F_39 := (Fr.rf : Fr S S pWu).trans (fu_36.to pWp_Wu)
        refine lv_goto (tgt := 81) hx hb dX7_prove_37 (by decide) ?_
        have lk_40 : u_36.1 119 9 = S.1 119 9 := (fu_36 119 rfl).1 9
        exact join_81 u_36  _ _ _ iu_36 F_38 F_39 (by omega) (TXc.eq xu_36 (show hdO n mx Wm.2.2.2.2.1 Wm.2.2.2.2.2.1 Wm.2.2.2.2.2.2 = (hdT n mx Wm) by unfold hdT; rw [if_pos (by omega)])) (TXc.of hT (show u_36.1 160 1 = S.1 160 1 from (fu_36 160 rfl).1 1) (show u_36.1 160 2 = S.1 160 2 from (fu_36 160 rfl).1 2) (show u_36.2.1 161 = S.2.1 161 from funext fun x => (fu_36 161 rfl).2.1 x)) hW hL (lv_sub hl [0] rfl)
    · exact sVret Cx hr hlk hW hL ⟨hI, (Fr.rf : Fr S S pPr), ⟨(fun _ => rfl), (fun q => ⟨q, ⟨fun z => by exfalso; omega, fun z => by omega⟩⟩)⟩⟩ dX7_prove_17

set_option maxRecDepth 100000 in
set_option maxHeartbeats 4000000 in
theorem v_X7_prove0 (l : Launch) (G : sG) (S : sS) {n mx : Int} {Wm : wT} (hI : cX G S 0 0 0) (hE0 : Hd (CEr S n mx Wm)) : Met l yX7_prove (.code yX7_prove cX7_prove 1 none :: tb) (rmk 3 0 0) (sPc G 294 S [.ref (G.2.2.1 + 119)]) (sQv G 294 (fun u => u = S)) 0 0 (sF G) := by
  refine sEnter (by decide) (Nat.le_of_ble_eq_true rfl) ?_
  intro p e s m args below meth c Cx hr hlk hnm hW ls hl
  have Cx : sC G p m c cX7_prove 1 s args RX7 := Cx
  obtain ⟨hx, hb, hml, hown, hts⟩ := id Cx.1
  have hL : sL G [] := sL_nil
  have hl : lv_has ls 1 [(0, .ref (G.2.2.1 + 119))] := hl
  have hW0 := hW
  refine lv_aload_n hx hb dX7_prove_0 rfl (lv_at hl 0 rfl) ?_
  have q_1 : 0 ≤ S.1 119 9 ∧ S.1 119 9 ≤ 6 := hI.fi 119 9 7 (by decide) rfl
  refine sBi (sV (As := []) (rest := []) (k := 119) Cx (v_X7_isProved l G S  hI) (c_X7_104 Cx rfl rfl (rmk_ok (by omega) (by decide))) hW (by decide) rfl rfl rfl hl.1 rfl (Nat.le_of_ble_eq_true rfl) dX7_prove_1 ⟨Nat.le_of_ble_eq_true rfl, Nat.le_of_ble_eq_true rfl⟩) hL (fun r_4 u_2 H locs k_3 hW hL => ?_)
  obtain ⟨eu_2, xu_2⟩ := k_3
  rw [eu_2] at hW
  refine r_if_eq (tgt := 17) hx hb ⟨(by omega), (by omega)⟩ dX7_prove_4 (by decide) (fun c_5 => ?_) (fun c_5 => ?_)
  · exact sVret Cx hr hlk hW hL rfl dX7_prove_17
  · refine lv_aload_n hx hb dX7_prove_7 rfl (lv_at hl 0 rfl) ?_
    refine g_X7_28 Cx hW (k := 119) (by decide) rfl (v := .ref (G.2.2.1 + 157)) (rf_119_2 hI) dX7_prove_8 ?_
    have q_6 : 0 ≤ S.1 158 1 ∧ S.1 158 1 ≤ 1500 := hI.fi 158 1 10 (by decide) rfl
    refine sBi (sV (As := []) (rest := []) (k := 157) Cx (v_X5_isMade l G S  hI) (c_X7_158 Cx rfl rfl (rmk_ok (by omega) (by decide))) hW (by decide) rfl rfl rfl hl.1 rfl (Nat.le_of_ble_eq_true rfl) dX7_prove_11 ⟨Nat.le_of_ble_eq_true rfl, Nat.le_of_ble_eq_true rfl⟩) hL (fun r_9 u_7 H locs k_8 hW hL => ?_)
    obtain ⟨eu_7, xu_7⟩ := k_8
    rw [eu_7] at hW
    refine r_if_eq (tgt := 18) hx hb ⟨(by omega), (by omega)⟩ dX7_prove_14 (by decide) (fun c_10 => ?_) (fun c_10 => ?_)
    · exfalso; have a := hE0; have b : 2 ≤ Wm.2.1 0 ∧ Wm.2.1 0 ≤ 4 := (by by_cases q : 2 ≤ Wm.2.1 0 ∧ Wm.2.1 0 ≤ 4; (exact q); (exact absurd (by omega) (a.2 q))); by_cases z : 30000 < (pfT n mx Wm).length; (have c := (a.1 b).1 z; omega); (have c := ((a.1 b).2 z).2.1; have d := (c.some (by decide)).mpr (fun e => hdT_nn (List.length_eq_zero_iff.mp e)); omega)
    · exact sVret Cx hr hlk hW hL rfl dX7_prove_17

set_option maxRecDepth 100000 in
set_option maxHeartbeats 4000000 in
theorem v_X7_run0 (l : Launch) (G : sG) (S : sS) {mo : Int} (hI : cX G S 0 0 0) (hst0 : S.1 119 9 ≠ 1) : Met l yX7_run (.code yX7_run cX7_run 4 (some .int) :: tb) (rmk 1 0 0) (sPc G 294 S [.ref (G.2.2.1 + 119), .int (iv mo)]) (sQi G 294 (fun r u => u = S ∧ (r = 0))) 0 0 (sF G) := by
  refine sEnter (by decide) (Nat.le_of_ble_eq_true rfl) ?_
  intro p e s m args below meth c Cx hr hlk hnm hW ls hl
  have Cx : sC G p m c cX7_run 4 s args RX7 := Cx
  obtain ⟨hx, hb, hml, hown, hts⟩ := id Cx.1
  have hL : sL G [] := sL_nil
  have hl : lv_has ls 4 [(0, .ref (G.2.2.1 + 119)), (1, .int (iv mo))] := hl
  have hW0 := hW
  refine lv_iconst (v := iv 0) hx hb dX7_run_0 (by decide) ?_
  refine lv_istore_n (lv' := [(2, .int (iv 0)), (0, .ref (G.2.2.1 + 119)), (1, .int (iv mo))]) hx hb dX7_run_1 rfl hl (by decide) rfl (fun ls hl => ?_)
  refine lv_iconst (v := iv 0) hx hb dX7_run_2 (by decide) ?_
  refine lv_istore_n (lv' := [(3, .int (iv 0)), (2, .int (iv 0)), (0, .ref (G.2.2.1 + 119)), (1, .int (iv mo))]) hx hb dX7_run_3 rfl hl (by decide) rfl (fun ls hl => ?_)
  have loop_4 : ∀ (fuel : Nat) (i : Int) (dn : Int) (H : Heap) (locs : List Loc) (ls : Array Slot), (1000000 - i).toNat < fuel → (0 ≤ i ∧ i ≤ 1000000) → (dn = 0) → sW G 294 S H → sL G locs → lv_has ls 4 [(3, .int (iv i)), (2, .int (iv dn)), (0, .ref (G.2.2.1 + 119)), (1, .int (iv mo))] → W p l e (rmk 1 0 0) s m args below meth c H locs 0 0 (MQ below (sQi G 294 (fun r u => u = S ∧ (r = 0))) args s 0 0 (sF G)) (F0 m 4 ls []) := by
    intro fuel
    induction fuel with
    | zero => intro i dn H locs ls hmeas hi hdn hW hL hl; exact absurd hmeas (Nat.not_lt_zero _)
    | succ fuel ih_4 =>
      intro i dn H locs ls hmeas hi hdn hW hL hl
      refine lv_iload_n hx hb dX7_run_4 rfl (lv_at hl 0 rfl) ?_
      refine lv_ldc hx hb hown (hts _ w_1229) dX7_run_5 ?_
      refine r_icmp_ge (tgt := 151) hx hb ⟨(by omega), (by omega)⟩ ⟨(by omega), (by omega)⟩ dX7_run_7 (by decide) (fun c_1 => ?_) (fun c_1 => ?_)
      · refine lv_iload_n hx hb dX7_run_151 rfl (lv_at hl 1 rfl) ?_
        exact sIret Cx hr hlk hW hL ⟨rfl, (by omega)⟩ dX7_run_152
      · refine lv_aload_n hx hb dX7_run_10 rfl (lv_at hl 2 rfl) ?_
        have q_2 : 0 ≤ S.1 119 9 ∧ S.1 119 9 ≤ 6 := hI.fi 119 9 7 (by decide) rfl
        refine g_X7_69 Cx hW (k := 119) (by decide) rfl (v := S.1 119 9) rfl dX7_run_11 ?_
        refine lv_iconst (v := iv 1) hx hb dX7_run_14 (by decide) ?_
        refine r_icmp_ne (tgt := 151) hx hb ⟨(by omega), (by omega)⟩ ⟨(by omega), (by omega)⟩ dX7_run_15 (by decide) (fun c_3 => ?_) (fun c_3 => ?_)
        · refine lv_iload_n hx hb dX7_run_151 rfl (lv_at hl 1 rfl) ?_
          exact sIret Cx hr hlk hW hL ⟨rfl, (by omega)⟩ dX7_run_152
        · exfalso; omega
  exact loop_4 (_ + 1) 0 0 _ _ _ (Nat.lt_succ_self _) (by omega) (by omega) hW hL (lv_sub hl [0, 1, 2, 3] rfl)

set_option maxRecDepth 100000 in
set_option maxHeartbeats 4000000 in
theorem v_X11_begin (l : Launch) (G : sG) (S : sS) {k : Int} {y : Nat} {n mm mx : Int} {A : Int → Int → Int} {wh : Int → Int} (hI : cX G S 0 0 0) (hk : -2147483648 ≤ k ∧ k ≤ 2147483647) (hmy : mdl y) (h5 : S.2.2.2 0 5 = .ref (G.2.2.1 + y)) (hMD : Hd (S.1 0 7 ≠ 0 → MDv S y n mm mx A wh ∧ ∀ k j, -100000 ≤ A k j ∧ A k j ≤ 100000)) : Met l yX11_begin (.code yX11_begin cX11_begin 2 (some .boolean) :: tb) (rmk 6 0 0) (sPc G 294 S [.ref (G.2.2.1 + 0), .int (iv k)]) (sQi G 294 (fun r u => cX G u 0 0 0 ∧ Fr S u pC ∧ ((0 ≤ r ∧ r ≤ 1) ∧ (r = 1 ↔ (S.1 0 7 = 1 ∧ 0 ≤ k ∧ k ≤ 20)) ∧ u.1 0 7 = S.1 0 7 ∧ Hd (OTc S u y ∧ u.2.2.2 0 5 = S.2.2.2 0 5 ∧ u.2.2.2 0 6 = S.2.2.2 0 6) ∧ Hd (r = 0 → u = S) ∧ Hd (r = 1 → u.1 0 8 = 1 ∧ (u.1 158 1 = 0 ∧ u.1 158 2 = 0) ∧ ∃ hw, hwA mm A hw ∧ ∃ oc od RR, SRq G u oc od y n mm mx k A wh RR (W0m n mm A hw))))) 0 0 (sF G) := by
  refine sEnter (by decide) (Nat.le_of_ble_eq_true rfl) ?_
  intro p e s m args below meth c Cx hr hlk hnm hW ls hl
  have Cx : sC G p m c cX11_begin 2 s args RX11 := Cx
  obtain ⟨hx, hb, hml, hown, hts⟩ := id Cx.1
  have hL : sL G [] := sL_nil
  have hl : lv_has ls 2 [(0, .ref (G.2.2.1 + 0)), (1, .int (iv k))] := hl
  have hW0 := hW
  refine lv_aload_n hx hb dX11_begin_0 rfl (lv_at hl 0 rfl) ?_
  have q_1 : 0 ≤ S.1 0 7 ∧ S.1 0 7 ≤ 1 := hI.fi 0 7 11 (by decide) rfl
  refine g_X11_79 Cx hW (k := 0) (by decide) rfl (v := S.1 0 7) rfl dX11_begin_1 ?_
  refine r_if_eq (tgt := 17) hx hb ⟨(by omega), (by omega)⟩ dX11_begin_4 (by decide) (fun c_2 => ?_) (fun c_2 => ?_)
  · refine lv_iconst (v := iv 0) hx hb dX11_begin_17 (by decide) ?_
    have q_3 : 0 ≤ S.1 0 8 ∧ S.1 0 8 ≤ 1 := hI.fi 0 8 11 (by decide) rfl
    have q_4 : 0 ≤ S.1 158 1 ∧ S.1 158 1 ≤ 1500 := hI.fi 158 1 10 (by decide) rfl
    have q_5 : 0 ≤ S.1 158 2 ∧ S.1 158 2 ≤ 1 := hI.fi 158 2 10 (by decide) rfl
    exact sZret Cx hr hlk hW hL (by omega) ⟨hI, (Fr.rf : Fr S S pC), ⟨(by omega), (by omega), (show S.1 0 7 = S.1 0 7 from rfl), ⟨OTc.rf, (show S.2.2.2 0 5 = S.2.2.2 0 5 from rfl), (show S.2.2.2 0 6 = S.2.2.2 0 6 from rfl)⟩, (fun _ => rfl), (fun q => absurd q (by omega))⟩⟩ dX11_begin_18
  · refine lv_iload_n hx hb dX11_begin_7 rfl (lv_at hl 1 rfl) ?_
    refine r_if_lt (tgt := 17) hx hb ⟨(by omega), (by omega)⟩ dX11_begin_8 (by decide) (fun c_6 => ?_) (fun c_6 => ?_)
    · refine lv_iconst (v := iv 0) hx hb dX11_begin_17 (by decide) ?_
      have q_7 : 0 ≤ S.1 0 8 ∧ S.1 0 8 ≤ 1 := hI.fi 0 8 11 (by decide) rfl
      have q_8 : 0 ≤ S.1 158 1 ∧ S.1 158 1 ≤ 1500 := hI.fi 158 1 10 (by decide) rfl
      have q_9 : 0 ≤ S.1 158 2 ∧ S.1 158 2 ≤ 1 := hI.fi 158 2 10 (by decide) rfl
      exact sZret Cx hr hlk hW hL (by omega) ⟨hI, (Fr.rf : Fr S S pC), ⟨(by omega), (by omega), (show S.1 0 7 = S.1 0 7 from rfl), ⟨OTc.rf, (show S.2.2.2 0 5 = S.2.2.2 0 5 from rfl), (show S.2.2.2 0 6 = S.2.2.2 0 6 from rfl)⟩, (fun _ => rfl), (fun q => absurd q (by omega))⟩⟩ dX11_begin_18
    · refine lv_iload_n hx hb dX11_begin_11 rfl (lv_at hl 1 rfl) ?_
      refine lv_bipush (v := iv 20) hx hb dX11_begin_12 (by decide) ?_
      refine r_icmp_le (tgt := 19) hx hb ⟨(by omega), (by omega)⟩ ⟨(by omega), (by omega)⟩ dX11_begin_14 (by decide) (fun c_10 => ?_) (fun c_10 => ?_)
      · refine lv_aload_n hx hb dX11_begin_19 rfl (lv_at hl 0 rfl) ?_
        refine g_X11_41 Cx hW (k := 0) (by decide) rfl (v := .ref (G.2.2.1 + 119)) (rf_0_3 hI) dX11_begin_20 ?_
        refine lv_aload_n hx hb dX11_begin_23 rfl (lv_at hl 0 rfl) ?_
        refine g_X11_24 Cx hW (k := 0) (by decide) rfl (v := .ref (G.2.2.1 + y)) h5 dX11_begin_24 ?_
        refine lv_iload_n hx hb dX11_begin_27 rfl (lv_at hl 1 rfl) ?_
        obtain ⟨o_11, o_12, mo_11, mo_12, no_11, eo_11, eo_12⟩ := rm_135 hI
        refine sBv (sV (As := [.ref (G.2.2.1 + y), .int (iv k)]) (rest := []) (k := 119) Cx (w_X7_start l G S (md := y) (al := k) (oc := o_11) (od := o_12) (n := n) (mm := mm) (mx := mx) (A := A) (wh := wh) hI ⟨mo_11, mo_12, (neD no_11), eo_11, eo_12⟩ hmy (hMD (by omega)).1 (by omega) (hMD (by omega)).2) (c_X11_106 Cx rfl rfl (rmk_ok (by omega) (by decide))) hW (by decide) rfl rfl rfl hl.1 rfl (Nat.le_of_ble_eq_true rfl) dX11_begin_28 ⟨Nat.le_of_ble_eq_true rfl, Nat.le_of_ble_eq_true rfl⟩) hL (fun u_13 H locs k_14 hW hL => ?_)
        obtain ⟨iu_13, fu_13, xu_13⟩ := k_14
        have F_15 := (Fr.rf : Fr S S pC).trans (fu_13.to (fun k h => pH_C k (pBg_H k h)))
        refine lv_aload_n hx hb dX11_begin_31 rfl (lv_at hl 0 rfl) ?_
        refine lv_iconst (v := iv 1) hx hb dX11_begin_32 (by decide) ?_
        refine p_X11_83 Cx hW hL (k := 0) (by decide) rfl (by omega) dX11_begin_33 (fun H locs hW hL => ?_)
        have F_16 : Fr S (uF u_13 0 8 1) pC := F_15.F rfl
        have i_17 : cX G (uF u_13 0 8 1) 0 0 0 := iu_13.F rfl rfl (show 0 ≤ 1 ∧ 1 ≤ 1 from ⟨by omega, by omega⟩)
        refine lv_iconst (v := iv 1) hx hb dX11_begin_36 (by decide) ?_
        have lk_18 : (uF u_13 0 8 1).1 0 7 = S.1 0 7 := (uF_ne (fun h => absurd h.2 (by decide))).trans ((fu_13 0 rfl).1 7)
        have lk_19 : (uF u_13 0 8 1).1 0 8 = 1 := uF_on
        have q_20 : 0 ≤ u_13.1 158 1 ∧ u_13.1 158 1 ≤ 1500 := iu_13.fi 158 1 10 (by decide) rfl
        have lk_21 : (uF u_13 0 8 1).1 158 1 = u_13.1 158 1 := uF_ne (fun h => absurd h.2 (by decide))
        have q_22 : 0 ≤ u_13.1 158 2 ∧ u_13.1 158 2 ≤ 1 := iu_13.fi 158 2 10 (by decide) rfl
        have lk_23 : (uF u_13 0 8 1).1 158 2 = u_13.1 158 2 := uF_ne (fun h => absurd h.2 (by decide))
        exact sZret Cx hr hlk hW hL (by omega) ⟨i_17, F_16, ⟨(by omega), (by omega), (show (uF u_13 0 8 1).1 0 7 = S.1 0 7 from (uF_ne (fun h => absurd h.2 (by decide))).trans ((fu_13 0 rfl).1 7)), ⟨(show OTc S (uF u_13 0 8 1) y from ⟨((uF_ne (fun h => absurd h.2 (by decide))).trans ((fu_13 y (mo_pBg hmy).1).1 2)), ((uF_ne (fun h => absurd h.2 (by decide))).trans ((fu_13 y (mo_pBg hmy).1).1 3)), ((uF_ne (fun h => absurd h.2 (by decide))).trans ((fu_13 y (mo_pBg hmy).1).1 4)), (funext fun x => (uF_a).trans ((fu_13 (y + 2) (mo_pBg hmy).2.2).2.1 x)), (funext fun x => (uF_a).trans ((fu_13 (y + 1) (mo_pBg hmy).2.1).2.1 x))⟩), (show (uF u_13 0 8 1).2.2.2 0 5 = S.2.2.2 0 5 from (uF_r).trans ((fu_13 0 rfl).2.2.2 5)), (show (uF u_13 0 8 1).2.2.2 0 6 = S.2.2.2 0 6 from (uF_r).trans ((fu_13 0 rfl).2.2.2 6))⟩, (fun q => absurd q (by omega)), (fun _ => ⟨uF_on, ⟨(show _ = (0 : Int) by omega), (show _ = (0 : Int) by omega)⟩, (by obtain ⟨hw, ha, oc, od, RR, hS⟩ := xu_13.1; exact ⟨hw, ha, oc, od, RR, hS.fr svE.F0 (OTc.F0 hmy)⟩)⟩)⟩⟩ dX11_begin_37
      · refine lv_iconst (v := iv 0) hx hb dX11_begin_17 (by decide) ?_
        have q_24 : 0 ≤ S.1 0 8 ∧ S.1 0 8 ≤ 1 := hI.fi 0 8 11 (by decide) rfl
        have q_25 : 0 ≤ S.1 158 1 ∧ S.1 158 1 ≤ 1500 := hI.fi 158 1 10 (by decide) rfl
        have q_26 : 0 ≤ S.1 158 2 ∧ S.1 158 2 ≤ 1 := hI.fi 158 2 10 (by decide) rfl
        exact sZret Cx hr hlk hW hL (by omega) ⟨hI, (Fr.rf : Fr S S pC), ⟨(by omega), (by omega), (show S.1 0 7 = S.1 0 7 from rfl), ⟨OTc.rf, (show S.2.2.2 0 5 = S.2.2.2 0 5 from rfl), (show S.2.2.2 0 6 = S.2.2.2 0 6 from rfl)⟩, (fun _ => rfl), (fun q => absurd q (by omega))⟩⟩ dX11_begin_18

set_option maxRecDepth 100000 in
set_option maxHeartbeats 4000000 in
theorem v_X11_work (l : Launch) (G : sG) (S : sS) {k : Int} {y : Nat} {n mm mx al : Int} {A : Int → Int → Int} {wh : Int → Int} {Wm : wT} (hI : cX G S 0 0 0) (hk : -2147483648 ≤ k ∧ k ≤ 2147483647) (hmy : mdl y) (hWg : Wm.2.1 0 = 1) (hb8 : S.1 0 8 = 1) (hn12 : 0 ≤ n ∧ n ≤ 12 ∧ 0 ≤ al ∧ al ≤ 20) (hmm : 0 ≤ mm) (hpb : 0 ≤ Wm.2.1 4 ∧ Wm.2.1 4 ≤ 1000000) (hCG : Hd (CGr G S y n mm mx al A wh Wm)) (hJA : Hd (JA (KKm n A wh al) Wm)) : Met l yX11_work (.code yX11_work cX11_work 3 (some .int) :: tb) (rmk 10 0 0) (sPc G 294 S [.ref (G.2.2.1 + 0), .int (iv k)]) (sQi G 294 (fun r u => cX G u 0 0 0 ∧ Fr S u pC ∧ (u.1 0 7 = S.1 0 7 ∧ Hd (OTc S u y ∧ u.2.2.2 0 5 = S.2.2.2 0 5 ∧ u.2.2.2 0 6 = S.2.2.2 0 6) ∧ u.1 0 8 = S.1 0 8 ∧ Hd (k < 1 ∨ 500 < k → r = -1 ∧ u = S) ∧ Hd (1 ≤ k ∧ k ≤ 500 → ∃ U, wkW (KKm n A wh al) Wm (Wm.2.1 4 + k) U ∧ stW U (Wm.2.1 4 + k) ∧ r = U.2.1 4 - Wm.2.1 4 ∧ (0 ≤ r ∧ r ≤ k) ∧ CGr G u y n mm mx al A wh U ∧ JA (KKm n A wh al) U)))) 0 0 (sF G) := by
  refine sEnter (by decide) (Nat.le_of_ble_eq_true rfl) ?_
  intro p e s m args below meth c Cx hr hlk hnm hW ls hl
  have Cx : sC G p m c cX11_work 3 s args RX11 := Cx
  obtain ⟨hx, hb, hml, hown, hts⟩ := id Cx.1
  have hL : sL G [] := sL_nil
  have hl : lv_has ls 3 [(0, .ref (G.2.2.1 + 0)), (1, .int (iv k))] := hl
  have hW0 := hW
  refine lv_iload_n hx hb dX11_work_0 rfl (lv_at hl 1 rfl) ?_
  refine lv_iconst (v := iv 1) hx hb dX11_work_1 (by decide) ?_
  refine r_icmp_lt (tgt := 12) hx hb ⟨(by omega), (by omega)⟩ ⟨(by omega), (by omega)⟩ dX11_work_2 (by decide) (fun c_1 => ?_) (fun c_1 => ?_)
  · refine lv_iconst (v := iv (-1)) hx hb dX11_work_12 (by decide) ?_
    have q_2 : 0 ≤ S.1 0 7 ∧ S.1 0 7 ≤ 1 := hI.fi 0 7 11 (by decide) rfl
    have q_3 : 0 ≤ S.1 0 8 ∧ S.1 0 8 ≤ 1 := hI.fi 0 8 11 (by decide) rfl
    exact sIret Cx hr hlk hW hL ⟨hI, (Fr.rf : Fr S S pC), ⟨(show S.1 0 7 = S.1 0 7 from rfl), ⟨OTc.rf, (show S.2.2.2 0 5 = S.2.2.2 0 5 from rfl), (show S.2.2.2 0 6 = S.2.2.2 0 6 from rfl)⟩, (show S.1 0 8 = S.1 0 8 from rfl), (fun _ => ⟨rfl, rfl⟩), (fun q => absurd q (by omega))⟩⟩ dX11_work_13
  · refine lv_iload_n hx hb dX11_work_5 rfl (lv_at hl 1 rfl) ?_
    refine lv_sipush (v := iv 500) hx hb dX11_work_6 (by decide) ?_
    refine r_icmp_le (tgt := 14) hx hb ⟨(by omega), (by omega)⟩ ⟨(by omega), (by omega)⟩ dX11_work_9 (by decide) (fun c_4 => ?_) (fun c_4 => ?_)
    · refine lv_aload_n hx hb dX11_work_14 rfl (lv_at hl 0 rfl) ?_
      have q_5 : 0 ≤ S.1 0 8 ∧ S.1 0 8 ≤ 1 := hI.fi 0 8 11 (by decide) rfl
      refine g_X11_83 Cx hW (k := 0) (by decide) rfl (v := S.1 0 8) rfl dX11_work_15 ?_
      refine r_if_ne (tgt := 23) hx hb ⟨(by omega), (by omega)⟩ dX11_work_18 (by decide) (fun c_6 => ?_) (fun c_6 => ?_)
      · have hcg9 : Hd (S.1 119 9 = 1 ∧ (∃ oc od RR, SRq G S oc od y n mm mx al A wh RR Wm) ∧ (Iv (KKm n A wh al) Wm ∧ Iw Wm) ∧ ¬ 30000 < Wm.2.2.1.length ∧ (S.1 158 1 = 0 ∧ S.1 158 2 = 0)) := hCG.1 hWg
        refine lv_aload_n hx hb dX11_work_23 rfl (lv_at hl 0 rfl) ?_
        refine g_X11_41 Cx hW (k := 0) (by decide) rfl (v := .ref (G.2.2.1 + 119)) (rf_0_3 hI) dX11_work_24 ?_
        refine lv_iload_n hx hb dX11_work_27 rfl (lv_at hl 1 rfl) ?_
        refine sBi (sV (As := [.int (iv k)]) (rest := []) (k := 119) Cx (v_X7_run l G S (mo := k) (md := y) (n := n) (mm := mm) (mx := mx) (al := al) (A := A) (wh := wh) (Wm := Wm) hI hmy (by omega) (by omega) (by omega) (by omega) ⟨Wm, wkW.rf, (hcg9.1).trans hWg.symm, (by omega), (fun _ => hcg9.2.1), (by omega), (fun _ => ⟨hcg9.2.2.1, (by omega), hcg9.2.2.2.1⟩)⟩ (fun _ => hcg9.2.2.1)) (c_X11_110 Cx rfl rfl (rmk_ok (by omega) (by decide))) hW (by decide) rfl rfl rfl hl.1 rfl (Nat.le_of_ble_eq_true rfl) dX11_work_28 ⟨Nat.le_of_ble_eq_true rfl, Nat.le_of_ble_eq_true rfl⟩) hL (fun r_9 u_7 H locs k_8 hW hL => ?_)
        obtain ⟨iu_7, fu_7, xu_7⟩ := k_8
        have F_10 := (Fr.rf : Fr S S pC).trans (fu_7.to (fun k h => pH_C k (pSr_H k h)))
        obtain ⟨U, w1, w2, w3, w4, w5, w6⟩ := xu_7.2.2
        have q_11 : 0 ≤ S.1 158 1 ∧ S.1 158 1 ≤ 1500 := hI.fi 158 1 10 (by decide) rfl
        have lk_12 : u_7.1 158 1 = S.1 158 1 := (fu_7 158 rfl).1 1
        have q_13 : 0 ≤ S.1 158 2 ∧ S.1 158 2 ≤ 1 := hI.fi 158 2 10 (by decide) rfl
        have lk_14 : u_7.1 158 2 = S.1 158 2 := (fu_7 158 rfl).1 2
        have hu80 : u_7.1 158 1 = 0 ∧ u_7.1 158 2 = 0 := (by have e8 := hcg9.2.2.2.2; have e7 : u_7.1 158 1 = S.1 158 1 := (fu_7 158 rfl).1 1; have e6 : u_7.1 158 2 = S.1 158 2 := (fu_7 158 rfl).1 2; omega)
        have hJU : Hd (JA (KKm n A wh al) U) := JA.wk (show 0 ≤ n by omega) (fun _ => hcg9.2.2.1) hJA w1
        refine lv_istore_n (lv' := [(2, .int (iv r_9)), (0, .ref (G.2.2.1 + 0)), (1, .int (iv k))]) hx hb dX11_work_31 rfl hl (by decide) rfl (fun ls hl => ?_)
        refine lv_aload_n hx hb dX11_work_32 rfl (lv_at hl 1 rfl) ?_
        refine g_X11_41 Cx hW (k := 0) (by decide) rfl (v := .ref (G.2.2.1 + 119)) (rf_0_3 iu_7) dX11_work_33 ?_
        have q_15 : 0 ≤ u_7.1 119 9 ∧ u_7.1 119 9 ≤ 6 := iu_7.fi 119 9 7 (by decide) rfl
        refine sBv (sV (As := []) (rest := []) (k := 119) Cx (v_X7_prove l G u_7 (md := y) (n := n) (mm := mm) (mx := mx) (al := al) (A := A) (wh := wh) (Wm := U) iu_7 hmy ⟨w4, w5, hu80, hJU⟩ (by omega)) (c_X11_114 Cx rfl rfl (rmk_ok (by omega) (by decide))) hW (by decide) rfl rfl rfl hl.1 rfl (Nat.le_of_ble_eq_true rfl) dX11_work_36 ⟨Nat.le_of_ble_eq_true rfl, Nat.le_of_ble_eq_true rfl⟩) hL (fun u_16 H locs k_17 hW hL => ?_)
        obtain ⟨iu_16, fu_16, xu_16⟩ := k_17
        have F_18 := F_10.trans (fu_16.to (fun k h => pH_C k (pPr_H k h)))
        refine lv_iload_n hx hb dX11_work_39 rfl (lv_at hl 0 rfl) ?_
        have q_19 : 0 ≤ S.1 0 7 ∧ S.1 0 7 ≤ 1 := hI.fi 0 7 11 (by decide) rfl
        have lk_20 : u_16.1 0 7 = S.1 0 7 := ((fu_16 0 rfl).1 7).trans ((fu_7 0 rfl).1 7)
        have lk_21 : u_16.1 0 8 = S.1 0 8 := ((fu_16 0 rfl).1 8).trans ((fu_7 0 rfl).1 8)
        exact sIret Cx hr hlk hW hL ⟨iu_16, F_18, ⟨(show u_16.1 0 7 = S.1 0 7 from ((fu_16 0 rfl).1 7).trans ((fu_7 0 rfl).1 7)), ⟨(show OTc S u_16 y from ⟨(((fu_16 y (mo_pPr hmy).1).1 2).trans ((fu_7 y (mo_pSr hmy).1).1 2)), (((fu_16 y (mo_pPr hmy).1).1 3).trans ((fu_7 y (mo_pSr hmy).1).1 3)), (((fu_16 y (mo_pPr hmy).1).1 4).trans ((fu_7 y (mo_pSr hmy).1).1 4)), (funext fun x => ((fu_16 (y + 2) (mo_pPr hmy).2.2).2.1 x).trans ((fu_7 (y + 2) (mo_pSr hmy).2.2).2.1 x)), (funext fun x => ((fu_16 (y + 1) (mo_pPr hmy).2.1).2.1 x).trans ((fu_7 (y + 1) (mo_pSr hmy).2.1).2.1 x))⟩), (show u_16.2.2.2 0 5 = S.2.2.2 0 5 from ((fu_16 0 rfl).2.2.2 5).trans ((fu_7 0 rfl).2.2.2 5)), (show u_16.2.2.2 0 6 = S.2.2.2 0 6 from ((fu_16 0 rfl).2.2.2 6).trans ((fu_7 0 rfl).2.2.2 6))⟩, (show u_16.1 0 8 = S.1 0 8 from ((fu_16 0 rfl).1 8).trans ((fu_7 0 rfl).1 8)), (fun q => absurd q (by omega)), (fun _ => ⟨U, w1, w2, w3, ⟨xu_7.1, xu_7.2.1⟩, CGr.mk w4 w5 w6 hu80 xu_16.1 xu_16.2, hJU⟩)⟩⟩ dX11_work_40
      · refine lv_iconst (v := iv 0) hx hb dX11_work_21 (by decide) ?_
        have q_22 : 0 ≤ S.1 0 7 ∧ S.1 0 7 ≤ 1 := hI.fi 0 7 11 (by decide) rfl
        exact sIret Cx hr hlk hW hL ⟨hI, (Fr.rf : Fr S S pC), (by exfalso; omega)⟩ dX11_work_22
    · refine lv_iconst (v := iv (-1)) hx hb dX11_work_12 (by decide) ?_
      have q_23 : 0 ≤ S.1 0 7 ∧ S.1 0 7 ≤ 1 := hI.fi 0 7 11 (by decide) rfl
      have q_24 : 0 ≤ S.1 0 8 ∧ S.1 0 8 ≤ 1 := hI.fi 0 8 11 (by decide) rfl
      exact sIret Cx hr hlk hW hL ⟨hI, (Fr.rf : Fr S S pC), ⟨(show S.1 0 7 = S.1 0 7 from rfl), ⟨OTc.rf, (show S.2.2.2 0 5 = S.2.2.2 0 5 from rfl), (show S.2.2.2 0 6 = S.2.2.2 0 6 from rfl)⟩, (show S.1 0 8 = S.1 0 8 from rfl), (fun _ => ⟨rfl, rfl⟩), (fun q => absurd q (by omega))⟩⟩ dX11_work_13

set_option maxRecDepth 100000 in
set_option maxHeartbeats 4000000 in
theorem v_X11_work0 (l : Launch) (G : sG) (S : sS) {k n mx : Int} {y : Nat} {Wm : wT} (hI : cX G S 0 0 0) (hk : -2147483648 ≤ k ∧ k ≤ 2147483647) (hmy : mdl y) (hno : S.1 0 8 = 0 ∨ S.1 119 9 ≠ 1) (hE0 : Hd (S.1 0 8 ≠ 0 → CEr S n mx Wm)) : Met l yX11_work (.code yX11_work cX11_work 3 (some .int) :: tb) (rmk 4 0 0) (sPc G 294 S [.ref (G.2.2.1 + 0), .int (iv k)]) (sQi G 294 (fun r u => cX G u 0 0 0 ∧ Fr S u pC ∧ (u.1 0 7 = S.1 0 7 ∧ Hd (OTc S u y ∧ u.2.2.2 0 5 = S.2.2.2 0 5 ∧ u.2.2.2 0 6 = S.2.2.2 0 6) ∧ u.1 0 8 = S.1 0 8 ∧ Hd (k < 1 ∨ 500 < k → r = -1) ∧ Hd (1 ≤ k ∧ k ≤ 500 → r = 0) ∧ (S.1 0 8 = 0 ∨ u.1 119 9 ≠ 1) ∧ u = S))) 0 0 (sF G) := by
  refine sEnter (by decide) (Nat.le_of_ble_eq_true rfl) ?_
  intro p e s m args below meth c Cx hr hlk hnm hW ls hl
  have Cx : sC G p m c cX11_work 3 s args RX11 := Cx
  obtain ⟨hx, hb, hml, hown, hts⟩ := id Cx.1
  have hL : sL G [] := sL_nil
  have hl : lv_has ls 3 [(0, .ref (G.2.2.1 + 0)), (1, .int (iv k))] := hl
  have hW0 := hW
  refine lv_iload_n hx hb dX11_work_0 rfl (lv_at hl 1 rfl) ?_
  refine lv_iconst (v := iv 1) hx hb dX11_work_1 (by decide) ?_
  refine r_icmp_lt (tgt := 12) hx hb ⟨(by omega), (by omega)⟩ ⟨(by omega), (by omega)⟩ dX11_work_2 (by decide) (fun c_1 => ?_) (fun c_1 => ?_)
  · refine lv_iconst (v := iv (-1)) hx hb dX11_work_12 (by decide) ?_
    have q_2 : 0 ≤ S.1 0 7 ∧ S.1 0 7 ≤ 1 := hI.fi 0 7 11 (by decide) rfl
    have q_3 : 0 ≤ S.1 0 8 ∧ S.1 0 8 ≤ 1 := hI.fi 0 8 11 (by decide) rfl
    have q_4 : 0 ≤ S.1 119 9 ∧ S.1 119 9 ≤ 6 := hI.fi 119 9 7 (by decide) rfl
    exact sIret Cx hr hlk hW hL ⟨hI, (Fr.rf : Fr S S pC), ⟨(show S.1 0 7 = S.1 0 7 from rfl), ⟨OTc.rf, (show S.2.2.2 0 5 = S.2.2.2 0 5 from rfl), (show S.2.2.2 0 6 = S.2.2.2 0 6 from rfl)⟩, (show S.1 0 8 = S.1 0 8 from rfl), (fun _ => rfl), (fun q => absurd q (by omega)), hno, rfl⟩⟩ dX11_work_13
  · refine lv_iload_n hx hb dX11_work_5 rfl (lv_at hl 1 rfl) ?_
    refine lv_sipush (v := iv 500) hx hb dX11_work_6 (by decide) ?_
    refine r_icmp_le (tgt := 14) hx hb ⟨(by omega), (by omega)⟩ ⟨(by omega), (by omega)⟩ dX11_work_9 (by decide) (fun c_5 => ?_) (fun c_5 => ?_)
    · refine lv_aload_n hx hb dX11_work_14 rfl (lv_at hl 0 rfl) ?_
      have q_6 : 0 ≤ S.1 0 8 ∧ S.1 0 8 ≤ 1 := hI.fi 0 8 11 (by decide) rfl
      refine g_X11_83 Cx hW (k := 0) (by decide) rfl (v := S.1 0 8) rfl dX11_work_15 ?_
      refine r_if_ne (tgt := 23) hx hb ⟨(by omega), (by omega)⟩ dX11_work_18 (by decide) (fun c_7 => ?_) (fun c_7 => ?_)
      · refine lv_aload_n hx hb dX11_work_23 rfl (lv_at hl 0 rfl) ?_
        refine g_X11_41 Cx hW (k := 0) (by decide) rfl (v := .ref (G.2.2.1 + 119)) (rf_0_3 hI) dX11_work_24 ?_
        refine lv_iload_n hx hb dX11_work_27 rfl (lv_at hl 1 rfl) ?_
        have q_8 : 0 ≤ S.1 119 9 ∧ S.1 119 9 ≤ 6 := hI.fi 119 9 7 (by decide) rfl
        refine sBi (sV (As := [.int (iv k)]) (rest := []) (k := 119) Cx (v_X7_run0 l G S (mo := k) hI (by omega)) (c_X11_110 Cx rfl rfl (rmk_ok (by omega) (by decide))) hW (by decide) rfl rfl rfl hl.1 rfl (Nat.le_of_ble_eq_true rfl) dX11_work_28 ⟨Nat.le_of_ble_eq_true rfl, Nat.le_of_ble_eq_true rfl⟩) hL (fun r_11 u_9 H locs k_10 hW hL => ?_)
        obtain ⟨eu_9, xu_9⟩ := k_10
        rw [eu_9] at hW
        refine lv_istore_n (lv' := [(2, .int (iv r_11)), (0, .ref (G.2.2.1 + 0)), (1, .int (iv k))]) hx hb dX11_work_31 rfl hl (by decide) rfl (fun ls hl => ?_)
        refine lv_aload_n hx hb dX11_work_32 rfl (lv_at hl 1 rfl) ?_
        refine g_X11_41 Cx hW (k := 0) (by decide) rfl (v := .ref (G.2.2.1 + 119)) (rf_0_3 hI) dX11_work_33 ?_
        refine sBv (sV (As := []) (rest := []) (k := 119) Cx (v_X7_prove0 l G S (n := n) (mx := mx) (Wm := Wm) hI (hE0 (by omega))) (c_X11_114 Cx rfl rfl (rmk_ok (by omega) (by decide))) hW (by decide) rfl rfl rfl hl.1 rfl (Nat.le_of_ble_eq_true rfl) dX11_work_36 ⟨Nat.le_of_ble_eq_true rfl, Nat.le_of_ble_eq_true rfl⟩) hL (fun u_12 H locs k_13 hW hL => ?_)
        rw [k_13] at hW
        refine lv_iload_n hx hb dX11_work_39 rfl (lv_at hl 0 rfl) ?_
        have q_14 : 0 ≤ S.1 0 7 ∧ S.1 0 7 ≤ 1 := hI.fi 0 7 11 (by decide) rfl
        exact sIret Cx hr hlk hW hL ⟨hI, (Fr.rf : Fr S S pC), ⟨(show S.1 0 7 = S.1 0 7 from rfl), ⟨OTc.rf, (show S.2.2.2 0 5 = S.2.2.2 0 5 from rfl), (show S.2.2.2 0 6 = S.2.2.2 0 6 from rfl)⟩, (show S.1 0 8 = S.1 0 8 from rfl), (fun q => absurd q (by omega)), (fun _ => by omega), hno, rfl⟩⟩ dX11_work_40
      · refine lv_iconst (v := iv 0) hx hb dX11_work_21 (by decide) ?_
        have q_15 : 0 ≤ S.1 0 7 ∧ S.1 0 7 ≤ 1 := hI.fi 0 7 11 (by decide) rfl
        have q_16 : 0 ≤ S.1 119 9 ∧ S.1 119 9 ≤ 6 := hI.fi 119 9 7 (by decide) rfl
        exact sIret Cx hr hlk hW hL ⟨hI, (Fr.rf : Fr S S pC), ⟨(show S.1 0 7 = S.1 0 7 from rfl), ⟨OTc.rf, (show S.2.2.2 0 5 = S.2.2.2 0 5 from rfl), (show S.2.2.2 0 6 = S.2.2.2 0 6 from rfl)⟩, (show S.1 0 8 = S.1 0 8 from rfl), (fun q => absurd q (by omega)), (fun _ => by omega), hno, rfl⟩⟩ dX11_work_22
    · refine lv_iconst (v := iv (-1)) hx hb dX11_work_12 (by decide) ?_
      have q_17 : 0 ≤ S.1 0 7 ∧ S.1 0 7 ≤ 1 := hI.fi 0 7 11 (by decide) rfl
      have q_18 : 0 ≤ S.1 0 8 ∧ S.1 0 8 ≤ 1 := hI.fi 0 8 11 (by decide) rfl
      have q_19 : 0 ≤ S.1 119 9 ∧ S.1 119 9 ≤ 6 := hI.fi 119 9 7 (by decide) rfl
      exact sIret Cx hr hlk hW hL ⟨hI, (Fr.rf : Fr S S pC), ⟨(show S.1 0 7 = S.1 0 7 from rfl), ⟨OTc.rf, (show S.2.2.2 0 5 = S.2.2.2 0 5 from rfl), (show S.2.2.2 0 6 = S.2.2.2 0 6 from rfl)⟩, (show S.1 0 8 = S.1 0 8 from rfl), (fun _ => rfl), (fun q => absurd q (by omega)), hno, rfl⟩⟩ dX11_work_13

set_option maxRecDepth 100000 in
set_option maxHeartbeats 4000000 in
theorem v_X11_proof (l : Launch) (G : sG) (S : sS) {k : Int} {n mx al : Int} {A : Int → Int → Int} {wh : Int → Int} {Wm : wT} (hI : cX G S 0 0 0) (hk : -2147483648 ≤ k ∧ k ≤ 2147483647) (hCE : Hd (S.1 0 8 ≠ 0 → Wm.2.1 0 ≠ 1 → CEr S n mx Wm)) (hC1 : Hd (S.1 0 8 ≠ 0 → Wm.2.1 0 = 1 → S.1 119 9 = 1)) (hJA : Hd (S.1 0 8 ≠ 0 → JA (KKm n A wh al) Wm)) (hn12 : n ≤ 12) : Met l yX11_proof (.code yX11_proof cX11_proof 2 (some .int) :: tb) (rmk 3 0 0) (sPc G 294 S [.ref (G.2.2.1 + 0), .int (iv k)]) (sQi G 294 (fun r u => u = S ∧ (Hd (S.1 0 8 = 0 → r = -1) ∧ Hd (S.1 0 8 ≠ 0 → r = pfB n mx Wm k)))) 0 0 (sF G) := by
  refine sEnter (by decide) (Nat.le_of_ble_eq_true rfl) ?_
  intro p e s m args below meth c Cx hr hlk hnm hW ls hl
  have Cx : sC G p m c cX11_proof 2 s args RX11 := Cx
  obtain ⟨hx, hb, hml, hown, hts⟩ := id Cx.1
  have hL : sL G [] := sL_nil
  have hl : lv_has ls 2 [(0, .ref (G.2.2.1 + 0)), (1, .int (iv k))] := hl
  have hW0 := hW
  refine lv_aload_n hx hb dX11_proof_0 rfl (lv_at hl 0 rfl) ?_
  have q_1 : 0 ≤ S.1 0 8 ∧ S.1 0 8 ≤ 1 := hI.fi 0 8 11 (by decide) rfl
  refine g_X11_83 Cx hW (k := 0) (by decide) rfl (v := S.1 0 8) rfl dX11_proof_1 ?_
  refine r_if_eq (tgt := 31) hx hb ⟨(by omega), (by omega)⟩ dX11_proof_4 (by decide) (fun c_2 => ?_) (fun c_2 => ?_)
  · refine lv_iconst (v := iv (-1)) hx hb dX11_proof_31 (by decide) ?_
    exact sIret Cx hr hlk hW hL ⟨rfl, ⟨(fun _ => by omega), (fun q => by unfold pfB; rw [cif_f (fun z => by have hW1 : Wm.2.1 0 ≠ 1 := (by omega); have a := (hCE q hW1).1 z.1; have b := (a.2 z.2.1).1; omega)] <;> omega)⟩⟩ dX11_proof_32
  · refine lv_aload_n hx hb dX11_proof_7 rfl (lv_at hl 0 rfl) ?_
    refine g_X11_41 Cx hW (k := 0) (by decide) rfl (v := .ref (G.2.2.1 + 119)) (rf_0_3 hI) dX11_proof_8 ?_
    have q_3 : 0 ≤ S.1 119 9 ∧ S.1 119 9 ≤ 6 := hI.fi 119 9 7 (by decide) rfl
    refine sBi (sV (As := []) (rest := []) (k := 119) Cx (v_X7_isProved l G S  hI) (c_X11_140 Cx rfl rfl (rmk_ok (by omega) (by decide))) hW (by decide) rfl rfl rfl hl.1 rfl (Nat.le_of_ble_eq_true rfl) dX11_proof_11 ⟨Nat.le_of_ble_eq_true rfl, Nat.le_of_ble_eq_true rfl⟩) hL (fun r_6 u_4 H locs k_5 hW hL => ?_)
    obtain ⟨eu_4, xu_4⟩ := k_5
    rw [eu_4] at hW
    refine r_if_eq (tgt := 31) hx hb ⟨(by omega), (by omega)⟩ dX11_proof_14 (by decide) (fun c_7 => ?_) (fun c_7 => ?_)
    · refine lv_iconst (v := iv (-1)) hx hb dX11_proof_31 (by decide) ?_
      exact sIret Cx hr hlk hW hL ⟨rfl, ⟨(fun _ => by omega), (fun q => by unfold pfB; rw [cif_f (fun z => by have hW1 : Wm.2.1 0 ≠ 1 := (by omega); have a := (hCE q hW1).1 z.1; have b := (a.2 z.2.1).1; omega)] <;> omega)⟩⟩ dX11_proof_32
    · have h8z : S.1 0 8 ≠ 0 := by omega
      have hW1 : Wm.2.1 0 ≠ 1 := (fun q => by have z := hC1 h8z q; omega)
      have hEc : Hd (CEr S n mx Wm) := hCE h8z hW1
      have hJc : Hd (JA (KKm n A wh al) Wm) := hJA h8z
      have hst : 2 ≤ Wm.2.1 0 ∧ Wm.2.1 0 ≤ 4 := (by by_cases q : 2 ≤ Wm.2.1 0 ∧ Wm.2.1 0 ≤ 4; (exact q); (exact absurd (by omega) (hEc.2 q)))
      have hov : ¬ 30000 < (pfT n mx Wm).length := (fun z => by have c := (hEc.1 hst).1 z; omega)
      have htx := (hEc.1 hst).2 hov
      have hdl : ((hdT n mx Wm)).length ≤ 1500 := hdT_len (by omega) hJc (by omega)
      have hpl := pfT_len (n := n) (mx := mx) hJc hst
      have hL3 : Wm.2.2.1.length ≤ 30000 := (by by_cases z : 0 < Wm.2.2.1.length; (rw [if_pos z] at hpl; omega); omega)
      have hpe := pfT_e (n := n) (mx := mx) hJc hst
      refine lv_aload_n hx hb dX11_proof_17 rfl (lv_at hl 0 rfl) ?_
      refine g_X11_41 Cx hW (k := 0) (by decide) rfl (v := .ref (G.2.2.1 + 119)) (rf_0_3 hI) dX11_proof_18 ?_
      refine g_X11_144 Cx hW (k := 119) (by decide) rfl (v := .ref (G.2.2.1 + 157)) (rf_119_2 hI) dX11_proof_21 ?_
      refine lv_iload_n hx hb dX11_proof_24 rfl (lv_at hl 1 rfl) ?_
      refine sBi (sV (As := [.int (iv k)]) (rest := []) (k := 157) Cx (v_X5_proofByte l G S (k := k) (Hx := (hdT n mx Wm)) (L := Wm.2.2.1) hI (by omega) ⟨htx.2.1, htx.2.2⟩ (by omega) (by omega) ⟨asc_hd, hJc.2.2.2.2⟩) (c_X11_148 Cx rfl rfl (rmk_ok (by omega) (by decide))) hW (by decide) rfl rfl rfl hl.1 rfl (Nat.le_of_ble_eq_true rfl) dX11_proof_25 ⟨Nat.le_of_ble_eq_true rfl, Nat.le_of_ble_eq_true rfl⟩) hL (fun r_10 u_8 H locs k_9 hW hL => ?_)
      obtain ⟨eu_8, xu_8⟩ := k_9
      rw [eu_8] at hW
      refine lv_goto (tgt := 32) hx hb dX11_proof_28 (by decide) ?_
      exact sIret Cx hr hlk hW hL ⟨rfl, ⟨(fun q => absurd q (by omega)), (fun _ => by have y := xu_8; rw [← hpe] at y; unfold pfB; by_cases q : 0 ≤ k ∧ k < ((pfT n mx Wm).length : Int); (rw [cif_t ⟨hst, hov, q.1, q.2⟩]; exact y.1 q); (rw [cif_f (fun z => q ⟨z.2.2.1, z.2.2.2⟩)]; exact y.2 (by omega)))⟩⟩ dX11_proof_32
