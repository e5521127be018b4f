/-! begin -/
def bgv (S : sS) (a b : Int) : Int := if S.1 231 46 < b then 0 else if a = 0 then (if b = 0 then S.2.2.1 260 0 else -S.2.2.1 260 b) else if a = 1 then 0 else if S.1 231 47 + 1 < a then 0 else S.2.2.1 290 (13 * (a - 1) + b)
def BGo (f : Int → Int) (g : Int → Int → Int) (K : Int) : Prop := (∀ a b, 0 ≤ a → a ≤ 43 → 0 ≤ b → b ≤ 14 → cl a b < K → NO f (cl a b) 3 ∧ nv f (cl a b) = g a b) ∧ ∀ x, K ≤ x → x < 5280 → f x = 0
def BGa (f : Int → Int) (g : Int → Int → Int) : Prop := ∀ a b, 0 ≤ a → a ≤ 43 → 0 ≤ b → b ≤ 14 → NO f (cl a b) 3 ∧ nv f (cl a b) = g a b
theorem nv_z {f : Int → Int} {p : Int} (h : f p = 0) : nv f p = 0 := (NO_z (L := 3) h (by decide)).sgn.2.2.mpr h
theorem BGo.put {f f' : Int → Int} {g : Int → Int → Int} {a b K : Int} (h : BGo f g K) (hK : K = cl a b) (ha : 0 ≤ a ∧ a ≤ 43) (hb : 0 ≤ b ∧ b ≤ 14) (hn : NO f' K 3) (hv : nv f' K = g a b) (ho : ∀ x, x < K ∨ K + 3 < x → f' x = f x) : BGo f' g (K + 8) := by
  subst hK
  refine ⟨fun c d c0 c1 d0 d1 lt => ?_, fun x x0 x1 => ?_⟩
  · by_cases e : c = a ∧ d = b
    · rw [e.1, e.2]; exact ⟨hn, hv⟩
    · have q : cl c d + 8 ≤ cl a b := by unfold cl at lt ⊢; omega
      have k := h.1 c d c0 c1 d0 d1 (by omega)
      have s := k.1.same (g := f') (fun x x0 x1 => ho x (by omega))
      exact ⟨s.1, s.2.trans k.2⟩
  · rw [ho x (by omega)]; exact h.2 x (by omega) x1
theorem BGo.skip {f : Int → Int} {g : Int → Int → Int} {K K' : Int} (h : BGo f g K) (hK : K ≤ K') (hz : ∀ a b, 0 ≤ a → a ≤ 43 → 0 ≤ b → b ≤ 14 → K ≤ cl a b → cl a b < K' → g a b = 0) : BGo f g K' := by
  refine ⟨fun c d c0 c1 d0 d1 lt => ?_, fun x x0 x1 => h.2 x (by omega) x1⟩
  by_cases e : cl c d < K
  · exact h.1 c d c0 c1 d0 d1 e
  · have z := h.2 (cl c d) (by omega) (by unfold cl; omega)
    exact ⟨NO_z z (by decide), by rw [nv_z z, hz c d c0 c1 d0 d1 (by omega) lt]⟩
theorem BGo.all {f : Int → Int} {g : Int → Int → Int} (h : BGo f g 5280) : BGa f g := fun a b a0 a1 b0 b1 => h.1 a b a0 a1 b0 b1 (by unfold cl; omega)
theorem BGa.put {f f' : Int → Int} {g g' : Int → Int → Int} {a b K : Int} (h : BGa f g) (hK : K = cl a b) (ha : 0 ≤ a ∧ a ≤ 43) (hb : 0 ≤ b ∧ b ≤ 14) (hn : NO f' K 3) (hv : nv f' K = g' a b) (hg : ∀ c d, ¬ (c = a ∧ d = b) → g' c d = g c d) (ho : ∀ x, x < K ∨ K + 3 < x → f' x = f x) : BGa f' g' := by
  subst hK
  intro c d c0 c1 d0 d1
  by_cases e : c = a ∧ d = b
  · rw [e.1, e.2]; exact ⟨hn, hv⟩
  · have k := h c d c0 c1 d0 d1
    have s := k.1.same (g := f') (fun x x0 x1 => ho x (by unfold cl at x0 x1 ⊢; omega))
    exact ⟨s.1, s.2.trans (k.2.trans (hg c d e).symm)⟩
/-- the numbers at the start: those of the model, and the column of x0 -/
def bg1 (S : sS) (i a b : Int) : Int := if b = S.1 231 46 + 1 ∧ 2 ≤ a ∧ a ≤ i then -1 else bgv S a b
def bg2 (S : sS) (hw a b : Int) : Int := if hw = 1 then (if a = 1 ∧ b = S.1 231 46 + 1 then 1 else bg1 S (S.1 231 47 + 1) a b) else bgv S a b
theorem NO.n3 {f : Int → Int} {p : Int} (h : NO f p 3) : nu f p ≤ cbp 0 := by
  have a := h.nul
  have b : pw (al f p).toNat ≤ pw 3 := pw_le (by have := h.1; have := al_0 f p; omega)
  have c : pw 3 = cbp 0 := by decide
  omega
theorem begin_GI {S u : sS} {hw : Int} (hM : MR S) (e46 : u.1 231 46 = S.1 231 46) (e47 : u.1 231 47 = S.1 231 47) (e58 : u.1 231 58 = S.1 231 47) (e59 : u.1 231 59 = S.1 231 46 + hw) (e60 : u.1 231 60 = hw) (hhw : (hw = 0 ∧ u.1 231 62 = 3) ∨ (hw = 1 ∧ 1 ≤ S.1 231 47 ∧ u.1 231 62 = 0)) (e63 : u.1 231 63 = S.1 231 47) (e65 : u.1 231 65 = 1) (e68 : 0 ≤ u.1 231 68 ∧ u.1 231 68 ≤ 20) (e69 : u.1 231 69 = 0) (e78 : u.1 231 78 = 0) (e79 : u.1 231 79 = 0) (e84 : u.1 231 84 = 0) (e86 : u.1 231 86 = 0) (a261 : u.2.1 261 = S.2.1 261) (l260 : u.2.2.1 260 = S.2.2.1 260) (l290 : u.2.2.1 290 = S.2.2.1 290) (hD : NO (u.2.1 264) 0 3 ∧ nv (u.2.1 264) 0 = 1) (hB : ∀ i, 1 ≤ i → i ≤ S.1 231 47 → u.2.1 265 i = S.1 231 46 + i) (hO : ∀ j, 1 ≤ j → j ≤ S.1 231 46 → u.2.1 266 j = j) (hOp : hw = 1 → u.2.1 266 (S.1 231 46 + 1) = 0) (hT : BGa (u.2.1 262) (bg2 S hw)) : GI u := by
  have hMD : (0 ≤ S.1 231 46 ∧ S.1 231 46 ≤ 12) ∧ (0 ≤ S.1 231 47 ∧ S.1 231 47 ≤ 16) ∧ 0 ≤ S.1 231 63 ∧ S.1 231 63 ≤ 40 := hM.1
  have hMu : MR u := ⟨by unfold MD; omega, hM.2.1.sm l260 l290, hM.2.2.1.sm e46 e47 a261, hM.2.2.2.sm a261⟩
  have tv : ∀ a b, 0 ≤ a → a ≤ 43 → 0 ≤ b → b ≤ 14 → TV u a b = bg2 S hw a b := fun a b a0 a1 b0 b1 => (hT a b a0 a1 b0 b1).2
  have hDOK : DOK u := ⟨by omega, fun i j i0 i1 _ j0 j1 => (hT i j i0 (by omega) j0 (by omega)).1.mono (by decide), hD.1.mono (by decide), by rw [hD.2]; decide⟩
  have hBO : BO u := ⟨fun i i0 i1 => by rw [hB i i0 (by omega)]; omega, fun j j0 j1 => by
    by_cases q : j ≤ S.1 231 46
    · rw [hO j j0 q]; omega
    · rw [show j = S.1 231 46 + 1 by omega, hOp (by omega)]; omega⟩
  refine ⟨⟨⟨hMu, hDOK, hBO, fun q => absurd q (by omega), by unfold dPS; omega⟩, by unfold GX; omega, fun q q0 q1 => absurd q1 (by omega), fun _ k j k0 k1 j0 j1 => ?_⟩, ?_⟩
  · rw [e69, a261]; exact (hM.2.2.1 k j k0 (by omega) j0 (by omega)).n3
  rcases hhw with ⟨q, h3⟩ | ⟨q, hm1, h0⟩
  · exact .inl ⟨.inl h3, by omega⟩
  have g0 : ∀ a b, bg2 S hw a b = if a = 1 ∧ b = S.1 231 46 + 1 then 1 else bg1 S (S.1 231 47 + 1) a b := fun a b => if_pos q
  refine .inr ⟨by unfold dSA; omega, .inl ⟨h0, ?_, ?_⟩⟩
  · have eB : ∀ (k i : Nat), (k : Int) < S.1 231 47 → Bv u k i = if (i : Int) < S.1 231 47 then (if k = i then 1 else 0) else 0 := fun k i hk => by
      unfold Bv Av
      rw [hB _ (by omega) (by omega), e46, e47]
      by_cases c : (i : Int) < S.1 231 47
      · rw [if_pos c, if_pos c, if_neg (by omega), if_neg (by omega)]
        by_cases d : k = i
        · rw [if_pos d, if_pos (by omega)]
        · rw [if_neg d, if_neg (by omega)]
      · rw [if_neg c, if_neg c]
    refine ⟨fun j j0 j1 i => ?_, ?_⟩
    · rw [hD.2, Int.one_mul, e47]
      by_cases c : (i : Int) < S.1 231 47
      · rw [sm_1 (a := i) (by omega) (fun k hk ne => by rw [eB k i (by omega), if_pos c, if_neg ne, Int.mul_zero]), eB i i c, if_pos c, if_pos rfl, Int.mul_one, tv _ _ (by omega) (by omega) j0 (by omega), g0, if_neg (by omega)]
        unfold bg1 bgv Cv
        by_cases z : j = 0
        · rw [if_pos z, if_neg (by omega), if_neg (by omega), if_neg (by omega), if_neg (by omega), if_neg (by omega)]
          unfold Bz mR
          rw [e47, if_pos c, l290, z]
          exact congrArg _ (by omega)
        · rw [if_neg z]
          unfold Av mR
          rw [e46, e47, l290, if_pos c]
          by_cases y : j ≤ S.1 231 46
          · rw [hO j (by omega) y, if_neg z, if_pos y, if_neg (by omega), if_neg (by omega), if_neg (by omega), if_neg (by omega), if_neg (by omega)]
            exact congrArg _ (by omega)
          · rw [show j = S.1 231 46 + 1 by omega, hOp q, if_pos rfl, if_pos (by omega)]
      · rw [sm_z (fun k hk => by rw [eB k i (by omega), if_neg c, Int.mul_zero])]
        unfold Cv Bz Av
        rw [e47]
        by_cases z : j = 0
        · rw [if_pos z, if_neg c]
        · rw [if_neg z, if_neg c]
    · rcases dt_I (n := (u.1 231 47).toNat) (M := Bv u) (fun a i ha hi => by rw [eB a i (by omega), if_pos (by omega)]) with e | e
      · exact ⟨1, .inl rfl, by rw [e, hD.2]; decide⟩
      · exact ⟨-1, .inr rfl, by rw [e, hD.2]; decide⟩
  · have e59' : u.1 231 59 = S.1 231 46 + 1 := by omega
    refine ⟨hD.2, fun j j0 j1 => ?_, ?_, fun i i0 i1 => ?_, fun i i0 i1 => ?_, fun j j0 j1 => ?_, ?_⟩
    · rw [tv _ _ (by omega) (by omega) j0 (by omega), g0, if_neg (by omega)]
      unfold bg1 bgv
      rw [if_neg (by omega), if_neg (by omega), if_neg (by omega), if_pos rfl]
    · rw [e59', tv _ _ (by omega) (by omega) (by omega) (by omega), g0, if_pos ⟨rfl, rfl⟩]
    · rw [e59', tv _ _ (by omega) (by omega) (by omega) (by omega), g0, if_neg (by omega)]
      unfold bg1
      rw [if_pos (by omega)]
    · rw [hB i i0 (by omega)]; omega
    · rw [hO j j0 (by omega)]; omega
    · rw [e59']; exact hOp q
theorem bgv_0 {S : sS} {j : Int} (hn : 0 ≤ S.1 231 46) (h : j = 0) : bgv S 0 j = S.2.2.1 260 0 := by unfold bgv; rw [if_neg (by omega), if_pos rfl, if_pos h]
theorem bgv_j {S : sS} {j : Int} (h : 1 ≤ j ∧ j ≤ S.1 231 46) : bgv S 0 j = -S.2.2.1 260 j := by unfold bgv; rw [if_neg (by omega), if_pos rfl, if_neg (by omega)]
theorem bgv_m {S : sS} {a b : Int} (ha : 2 ≤ a ∧ a ≤ S.1 231 47 + 1) (hb : 0 ≤ b ∧ b ≤ S.1 231 46) : bgv S a b = S.2.2.1 290 (13 * (a - 1) + b) := by unfold bgv; rw [if_neg (by omega), if_neg (by omega), if_neg (by omega), if_neg (by omega)]
theorem bgv_z1 {S : sS} {a b : Int} (ha : 0 ≤ a) (hb : 0 ≤ b ∧ b ≤ 14) (h0 : 8 * (S.1 231 46 + 1) ≤ cl a b) (h1 : cl a b < 240) : bgv S a b = 0 := by
  unfold cl at h0 h1
  unfold bgv
  by_cases q : S.1 231 46 < b
  · rw [if_pos q]
  · rw [if_neg q, if_neg (by omega), if_pos (by omega)]
theorem bgv_z2 {S : sS} {a b i : Int} (ha : 0 ≤ a) (hb : 0 ≤ b ∧ b ≤ 14) (h0 : 8 * (15 * (i + 1) + (S.1 231 46 + 1)) ≤ cl a b) (h1 : cl a b < 8 * (15 * (i + 1 + 1))) : bgv S a b = 0 := by
  unfold cl at h0 h1
  unfold bgv
  rw [if_pos (by omega)]
theorem bgv_z3 {S : sS} {a b : Int} (hm : 0 ≤ S.1 231 47) (ha : 0 ≤ a) (hb : 0 ≤ b ∧ b ≤ 14) (h0 : 8 * (15 * (S.1 231 47 + 1 + 1)) ≤ cl a b) : bgv S a b = 0 := by
  unfold cl at h0
  unfold bgv
  by_cases q : S.1 231 46 < b
  · rw [if_pos q]
  · rw [if_neg q, if_neg (by omega), if_neg (by omega), if_pos (by omega)]