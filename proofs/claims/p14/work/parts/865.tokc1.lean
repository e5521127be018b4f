/-! The class's scanner and the tokens -/
theorem bt_c {S : sS} {t : Nat} (hB : ∀ j, -128 ≤ S.2.1 (t + 1) j ∧ S.2.1 (t + 1) j ≤ 127) (i : Int) : (bt S t i = cb (S.2.1 (t + 1)) (S.1 t 1) i ∧ 0 ≤ cb (S.2.1 (t + 1)) (S.1 t 1) i ∧ cb (S.2.1 (t + 1)) (S.1 t 1) i ≤ 127) ∨ (cb (S.2.1 (t + 1)) (S.1 t 1) i = 0 ∧ bt S t i = -1) ∨ (cb (S.2.1 (t + 1)) (S.1 t 1) i < 0 ∧ bt S t i = cb (S.2.1 (t + 1)) (S.1 t 1) i + 256 ∧ 128 ≤ bt S t i) := by
  have h := hB i
  unfold bt cb
  by_cases c : 0 ≤ i ∧ i < S.1 t 1
  · rw [if_pos c, if_pos c]; omega
  · rw [if_neg c, if_neg c]; omega
theorem lt_bt {S : sS} {t : Nat} {i : Int} (hB : ∀ j, -128 ≤ S.2.1 (t + 1) j ∧ S.2.1 (t + 1) j ≤ 127) : isLt (bt S t i) ↔ isLt (cb (S.2.1 (t + 1)) (S.1 t 1) i) := by
  have := bt_c hB i; unfold isLt; omega
theorem dg_bt {S : sS} {t : Nat} {i : Int} (hB : ∀ j, -128 ≤ S.2.1 (t + 1) j ∧ S.2.1 (t + 1) j ≤ 127) : isDg (bt S t i) ↔ isDg (cb (S.2.1 (t + 1)) (S.1 t 1) i) := by
  have := bt_c hB i; unfold isDg; omega
theorem bt_eqc {S : sS} {t : Nat} {i q : Int} (hB : ∀ j, -128 ≤ S.2.1 (t + 1) j ∧ S.2.1 (t + 1) j ≤ 127) (h0 : 1 ≤ q) (h1 : q ≤ 127) : bt S t i = q ↔ cb (S.2.1 (t + 1)) (S.1 t 1) i = q := by
  have := bt_c hB i; omega
theorem bt_B {S : sS} {t : Nat} {i : Int} (hB : ∀ j, -128 ≤ S.2.1 (t + 1) j ∧ S.2.1 (t + 1) j ≤ 127) (h : 1 ≤ bt S t i ∧ bt S t i ≤ 127) : bt S t i = S.2.1 (t + 1) i ∧ cb (S.2.1 (t + 1)) (S.1 t 1) i = S.2.1 (t + 1) i := by
  have a := bt_c hB i
  have b := cb_nz (B := S.2.1 (t + 1)) (n := S.1 t 1) (i := i) (by omega)
  omega
/-- one token more -/
def tkA (S u : sS) (k f v : Int) : Prop := u.1 12 3 = S.1 12 3 + 1 ∧ (∀ x, u.2.1 13 x = if x = S.1 12 3 then k else S.2.1 13 x) ∧ (∀ x, u.2.1 14 x = if x = S.1 12 3 then f else S.2.1 14 x) ∧ ∀ x, u.2.2.1 15 x = if x = S.1 12 3 then v else S.2.2.1 15 x
theorem tkA_z {S u : sS} {k f v : Int} (h : tkA S u k f v) : u.2.2.1 15 (u.1 12 3 - 1) = v := by
  rw [h.2.2.2, h.1, if_pos (by omega)]
def tkB (S u : sS) (k f v : Int) : Prop := ∃ v', tkA S u k f v' ∧ (2 ≤ k → v' = v)
theorem dvn_s {B : Int → Int} {p i : Int} (h : p ≤ i) : dvn B p (i + 1 - p).toNat = 10 * dvn B p (i - p).toNat + B i - 48 := by
  rw [show (i + 1 - p).toNat = (i - p).toNat + 1 by omega]
  show 10 * dvn B p (i - p).toNat + B (p + ((i - p).toNat : Int)) - 48 = _
  rw [show p + ((i - p).toNat : Int) = i by omega]
theorem pkn_s {B : Int → Int} {p i : Int} (h : p ≤ i) : pkn B p (i + 1 - p).toNat = pkn B p (i - p).toNat * 256 + B i := by
  rw [show (i + 1 - p).toNat = (i - p).toNat + 1 by omega]
  show pkn B p (i - p).toNat * 256 + B (p + ((i - p).toNat : Int)) = _
  rw [show p + ((i - p).toNat : Int) = i by omega]
/-- a String's byte -/
def sB (i : Nat) (k : Int) : Int := (strB.getD i []).getD k.toNat 0
def wv (k : Int) : Int := wordsL.getD k.toNat 0
section TOKC
variable {p : Program} {l : Launch} {e : Env} {R : Room} {s : State} {m : MethodId} {args : Array Value} {below : List Frame} {meth : Method} {c : Code} {H : Heap} {locs : List Loc} {cells slots : Nat} {Q : State → Prop}
variable {cc : ByteArray} {pc nL : Nat} {ls : Array Slot} {rest st0 : List Value} {G : sG} {n : Nat} {S S0 : sS} {own : String}
theorem clampN {k : Int} (h0 : 0 ≤ k) (h1 : k ≤ 1000) : (iv k).toNatClampNeg = k.toNat := by
  show (iv k).toInt.toNat = k.toNat
  rw [iv_toInt ⟨by omega, by omega⟩]
theorem wv_r : ∀ j : Nat, j < 9 → -9223372036854775808 ≤ wordsL.getD j 0 ∧ wordsL.getD j 0 ≤ 9223372036854775807 := by decide
theorem zWatE (Cx : sC G p m c cc nL s args own) (h0 : sW G n S0 s.heap) (hW : sW G n S H) (hL : sL G locs) {k : Int} (hk : 0 ≤ k ∧ k < 9) (hdg : decode cc pc = .ok (.laload, 1)) (kk : ∀ z : Int, -9223372036854775808 ≤ z → z ≤ 9223372036854775807 → z = wv k → W p l e R s m args below meth c H locs cells slots Q (F0 m (pc + 1) ls (.long (jv z) :: rest))) : W p l e R s m args below meth c H locs cells slots Q (F0 m pc ls (.int (iv k) :: .ref (G.1.2 102 0) :: rest)) := by
  have e1 := clampN hk.1 (by omega)
  have r := wv_r k.toNat (by omega)
  exact va_tl (v := .long (jv (wordsL.getD (iv k).toNatClampNeg 0))) Cx.1.1 Cx.1.2.1 (Cx.2.2.2.2.2.1.2.kept h0.old) (h0.wS hW hL) (iv_in hk.1 hk.2 (by omega)) rfl hdg (by rw [e1]; exact kk _ r.1 r.2 rfl)
theorem zByteE (Cx : sC G p m c cc nL s args own) (h0 : sW G n S0 s.heap) (hW : sW G n S H) (hL : sL G locs) {i : Nat} {k : Int} (hi : i < 38) (hk : 0 ≤ k ∧ k < (strN.getD i 0 : Nat)) (hdg : decode cc pc = .ok (.baload, 1)) (kk : ∀ z : Int, 0 ≤ z → z ≤ 127 → z = sB i k → W p l e R s m args below meth c H locs cells slots Q (F0 m (pc + 1) ls (.int (iv z) :: rest))) : W p l e R s m args below meth c H locs cells slots Q (F0 m pc ls (.int (iv k) :: .ref (G.1.2 101 i) :: rest)) := by
  have r := strN_r i hi
  have g := strB_g (i := i) (j := (iv k).toNatClampNeg) hi
  exact va_tb (v := .int (iv ((strB.getD i []).getD (iv k).toNatClampNeg 0))) Cx.1.1 Cx.1.2.1 ((Cx.2.2.2.2.2.2 i hi).2.2.2.2.kept h0.old) (h0.wS hW hL) (iv_in hk.1 hk.2 (by omega)) rfl hdg (kk _ g.1 g.2 (by rw [clampN hk.1 (by omega)]; rfl))
theorem r_i2bE (hx : p.tables.exec = Jvm.exec) (hb : c.code = cc) {a : Int} (ha : -2147483648 ≤ a ∧ a ≤ 2147483647) (hdg : decode cc pc = .ok (.i2b, 1)) (kk : ∀ z : Int, -128 ≤ z → z ≤ 127 → z = (a + 128) % 256 - 128 → W p l e R s m args below meth c H locs cells slots Q (F0 m (pc + 1) ls (.int (iv z) :: rest))) : W p l e R s m args below meth c H locs cells slots Q (F0 m pc ls (.int (iv a) :: rest)) := by
  refine lv_i2b hx hb hdg (v := iv (iv a).toInt8.toInt) ?_ (kk _ (by have := (iv a).toInt8.le_toInt; omega) (by have := (iv a).toInt8.toInt_lt; omega) ?_)
  · exact Int32.toInt_inj.mp (by rw [Int8.toInt_toInt32, iv_toInt (by have := (iv a).toInt8.le_toInt; have := (iv a).toInt8.toInt_lt; omega)])
  · rw [Int32.toInt_toInt8, iv_toInt ha]
    show a.bmod 256 = _
    unfold Int.bmod; simp only []; split <;> omega
end TOKC
def WP (w x kn : Int) : Prop := (kn = 2 ∧ ∀ j, 0 ≤ j → j < w → x ≠ wv j) ∨ ∃ j, 0 ≤ j ∧ j < w ∧ x = wv j ∧ kn = 4 + j
theorem WP.r {w x kn : Int} (h : WP w x kn) (hw : w ≤ 9) : 2 ≤ kn ∧ kn ≤ 12 := by
  rcases h with h | ⟨j, h⟩ <;> omega
theorem WP.yes {w x kn : Int} (h : WP w x kn) (hk : kn = 2) (h0 : 0 ≤ w) (e : x = wv w) : WP (w + 1) x (4 + w) := .inr ⟨w, h0, by omega, e, rfl⟩
theorem WP.no {w x kn : Int} (h : WP w x kn) (hk : kn = 2 → x ≠ wv w) : WP (w + 1) x kn := by
  rcases h with ⟨e, h⟩ | ⟨j, h0, h1, h2, h3⟩
  · refine .inl ⟨e, fun j j0 j1 => ?_⟩
    by_cases q : j = w
    · rw [q]; exact hk e
    · exact h j j0 (by omega)
  · exact .inr ⟨j, h0, by omega, h2, h3⟩
theorem wv_l : wv 0 = 7168376 ∧ wv 1 = 7170414 ∧ wv 2 = 7562612 ∧ wv 3 = 7364978 ∧ wv 4 = 7758194 ∧ wv 5 = 512853240933 ∧ wv 6 = 7499639 ∧ wv 7 = 7566701 ∧ wv 8 = 26990 := by decide
theorem WP.fin {x kn : Int} (h : WP 9 x kn) : kn = wdk x := by
  obtain ⟨w0, w1, w2, w3, w4, w5, w6, w7, w8⟩ := wv_l
  rcases h with ⟨e, h⟩ | ⟨j, h0, h1, h2, h3⟩
  · have a0 := h 0 (by omega) (by omega); have a1 := h 1 (by omega) (by omega); have a2 := h 2 (by omega) (by omega); have a3 := h 3 (by omega) (by omega); have a4 := h 4 (by omega) (by omega)
    have a5 := h 5 (by omega) (by omega); have a6 := h 6 (by omega) (by omega); have a7 := h 7 (by omega) (by omega); have a8 := h 8 (by omega) (by omega)
    rw [w0] at a0; rw [w1] at a1; rw [w2] at a2; rw [w3] at a3; rw [w4] at a4; rw [w5] at a5; rw [w6] at a6; rw [w7] at a7; rw [w8] at a8
    unfold wdk
    rw [if_neg a0, if_neg a1, if_neg a2, if_neg a3, if_neg a4, if_neg a5, if_neg a6, if_neg a7, if_neg a8, e]
  · have e : j = 0 ∨ j = 1 ∨ j = 2 ∨ j = 3 ∨ j = 4 ∨ j = 5 ∨ j = 6 ∨ j = 7 ∨ j = 8 := by omega
    rcases e with rfl | rfl | rfl | rfl | rfl | rfl | rfl | rfl | rfl <;> (rw [h2, h3]; decide)
theorem pw7 : ∀ w : Nat, w ≤ 7 → (256 : Int) ^ w ≤ 72057594037927936 := by
  intro w h
  have e : w = 0 ∨ w = 1 ∨ w = 2 ∨ w = 3 ∨ w = 4 ∨ w = 5 ∨ w = 6 ∨ w = 7 := by omega
  rcases e with rfl | rfl | rfl | rfl | rfl | rfl | rfl | rfl <;> decide
theorem j_in {x z q : Int} (h0 : 0 ≤ x) (h1 : x < 9223372036854775808) (h2 : -9223372036854775808 ≤ z) (h3 : z ≤ 9223372036854775807) (e : z = x + 18446744073709551616 * q) : z = x := by
  have a : ¬ (q ≤ -1) := fun h => by omega
  have b : ¬ (1 ≤ q) := fun h => by omega
  rw [e, show q = 0 by omega]; omega
theorem pk_st {pk b z q : Int} {w : Nat} (h0 : 0 ≤ pk) (h1 : 255 * pk + 122 ≤ 122 * 256 ^ w) (hw : w ≤ 7) (hb : 0 ≤ b ∧ b ≤ 122) (h2 : -9223372036854775808 ≤ z) (h3 : z ≤ 9223372036854775807) (e : z = pk * 256 + b + 18446744073709551616 * q) : z = pk * 256 + b ∧ 0 ≤ z ∧ 255 * z + 122 ≤ 122 * 256 ^ (w + 1) := by
  have p7 := pw7 w hw
  have e1 := j_in (x := pk * 256 + b) (by omega) (by omega) h2 h3 e
  rw [Int.pow_succ]
  omega
theorem eOf_gt {B : Int → Int} {n p : Int} (h0 : 0 ≤ p) (h1 : p < n) : p < eOf B n p ∧ eOf B n p ≤ n := by
  unfold eOf
  by_cases a : isLt (cb B n p)
  · rw [if_pos a]
    have s : stN B n p := .inl a
    rw [en_st stN_lt s]; have := en_r (st := stN B n) (p + 1) (show p + 1 ≤ n by omega); omega
  rw [if_neg a]
  by_cases b : isDg (cb B n p)
  · rw [if_pos b]
    have s : stD B n p := b
    rw [en_st stD_lt s]; have := en_r (st := stD B n) (p + 1) (show p + 1 ≤ n by omega); omega
  rw [if_neg b]
  by_cases c : two (cb B n p) (cb B n (p + 1))
  · rw [if_pos c]; have := cb_nz (B := B) (n := n) (i := p + 1) (by unfold two at c; omega); omega
  · rw [if_neg c]; omega
def SGX (si : Nat) (x sg : Int) : Prop := (x < 128 ∧ ((sg = -1 ∧ ∀ j : Int, 0 ≤ j → j < ((strN.getD si 0 : Nat) : Int) → sB si j ≠ x) ∨ (0 ≤ sg ∧ sg < ((strN.getD si 0 : Nat) : Int) ∧ sB si sg = x))) ∨ (128 ≤ x ∧ sg = -1)
def tk0 (S u : sS) : Prop := u.1 12 3 = S.1 12 3 ∧ u.2.1 13 = S.2.1 13 ∧ u.2.1 14 = S.2.1 14 ∧ u.2.2.1 15 = S.2.2.1 15
/-- the tokens so far, and where it stands -/
def TKI (B : Int → Int) (n : Int) (S : sS) (i : Int) : Prop := en n (stB B n) i = psn B n (S.1 12 3).toNat ∧ ∀ j : Nat, (j : Int) < S.1 12 3 → S.2.1 14 j = psn B n j ∧ S.2.1 13 j = kS B n (psn B n j) ∧ 2 ≤ kS B n (psn B n j) ∧ S.2.2.1 15 j = vOf B n (psn B n j)
theorem TKI.blank {B : Int → Int} {n : Int} {S u : sS} {i : Int} (h : TKI B n S i) (hb : stB B n i) (t : tk0 S u) : TKI B n u (i + 1) := by
  obtain ⟨a, b⟩ := h; obtain ⟨t1, t2, t3, t4⟩ := t
  unfold TKI
  rw [t1, t2, t3, t4, ← en_st stB_lt hb]; exact ⟨a, b⟩
theorem TKI.at {B : Int → Int} {n : Int} {S : sS} {i : Int} (h : TKI B n S i) (hb : ¬ stB B n i) : psn B n (S.1 12 3).toNat = i := by rw [← h.1, en_no hb]
theorem TKI.tok {B : Int → Int} {n : Int} {S u : sS} {i : Int} (h : TKI B n S i) (h3 : 0 ≤ S.1 12 3) (hb : ¬ stB B n i) (hi : i < n) (t : tkB S u (kOf B n i) i (vOf B n i)) (hk : 2 ≤ kOf B n i) : TKI B n u (eOf B n i) := by
  obtain ⟨v, ⟨t1, t2, t3, t4⟩, hv⟩ := t
  have e := h.at hb
  refine ⟨?_, fun j hj => ?_⟩
  · rw [t1, show (S.1 12 3 + 1).toNat = (S.1 12 3).toNat + 1 by omega]
    show _ = en n (stB B n) (eOf B n (psn B n (S.1 12 3).toNat)); rw [e]
  · rw [t1] at hj
    rw [t2, t3, t4]
    by_cases q : (j : Int) = S.1 12 3
    · have e2 : psn B n j = i := by rw [show j = (S.1 12 3).toNat by omega]; exact e
      rw [if_pos q, if_pos q, if_pos q, e2]
      have e3 : kS B n i = kOf B n i := if_pos hi
      rw [e3]; exact ⟨rfl, rfl, hk, hv hk⟩
    · rw [if_neg q, if_neg q, if_neg q]; exact h.2 j (by omega)
theorem TKI.bad {B : Int → Int} {n : Int} {S u : sS} {i : Int} (h : TKI B n S i) (h3 : 0 ≤ S.1 12 3) (hb : ¬ stB B n i) (hi : i < n) (t : tkB S u (kOf B n i) i (vOf B n i)) (hk : kOf B n i = 1) : TKS B n (u.1 12 3) (u.2.1 13) (u.2.2.1 15) (u.2.1 14) := by
  obtain ⟨v, ⟨t1, t2, t3, t4⟩, hv⟩ := t
  have e := h.at hb
  have e3 : kS B n i = 1 := (if_pos hi).trans hk
  rw [t1]
  refine ⟨by omega, fun j hj => (h.2 j (by omega)).2.2.1, ?_, fun j hj => ?_⟩
  · rw [show (S.1 12 3 + 1 - 1).toNat = (S.1 12 3).toNat by omega, e, e3]; omega
  · rw [t2, t3, t4]
    by_cases q : (j : Int) = S.1 12 3
    · have e2 : psn B n j = i := by rw [show j = (S.1 12 3).toNat by omega]; exact e
      rw [if_pos q, if_pos q, if_pos q, e2]
      rw [e3, hk]; exact ⟨rfl, rfl, fun q => absurd q (by decide)⟩
    · rw [if_neg q, if_neg q, if_neg q]; have := h.2 j (by omega); exact ⟨this.1, this.2.1, fun _ => this.2.2.2⟩
theorem TKI.fin {B : Int → Int} {n : Int} {S u : sS} {i : Int} (h : TKI B n S i) (h3 : 0 ≤ S.1 12 3) (hi : i = n) (t : tkA S u 0 n 0) : TKS B n (u.1 12 3) (u.2.1 13) (u.2.2.1 15) (u.2.1 14) := by
  obtain ⟨t1, t2, t3, t4⟩ := t
  have hb : ¬ stB B n i := fun z => by have := stB_lt z; omega
  have e := h.at hb
  have e3 : kS B n i = 0 := if_neg (by omega)
  rw [t1]
  refine ⟨by omega, fun j hj => (h.2 j (by omega)).2.2.1, ?_, fun j hj => ?_⟩
  · rw [show (S.1 12 3 + 1 - 1).toNat = (S.1 12 3).toNat by omega, e, e3]; omega
  · rw [t2, t3, t4]
    by_cases q : (j : Int) = S.1 12 3
    · have e2 : psn B n j = i := by rw [show j = (S.1 12 3).toNat by omega]; exact e
      rw [if_pos q, if_pos q, if_pos q, e2]
      rw [e3]; exact ⟨hi.symm, rfl, fun q => absurd q (by decide)⟩
    · rw [if_neg q, if_neg q, if_neg q]; have := h.2 j (by omega); exact ⟨this.1, this.2.1, fun _ => this.2.2.2⟩
theorem TKI.zero {B : Int → Int} {n : Int} {S : sS} (h : S.1 12 3 = 0) : TKI B n S 0 := ⟨by rw [h]; rfl, fun j hj => by omega⟩
theorem kOf_r {B : Int → Int} {n p : Int} : 1 ≤ kOf B n p ∧ kOf B n p ≤ 26 := by
  have w : ∀ x, 2 ≤ wdk x ∧ wdk x ≤ 12 := by
    intro x; unfold wdk
    repeat' split
    all_goals omega
  have s1 : ∀ x, 1 ≤ sg1 x ∧ sg1 x ≤ 24 := by
    intro x; unfold sg1
    repeat' split
    all_goals omega
  unfold kOf
  by_cases a : isLt (cb B n p)
  · rw [if_pos a]; split
    · have := w (pkn B p (en n (stN B n) p - p).toNat); omega
    · omega
  rw [if_neg a]
  by_cases b : isDg (cb B n p)
  · rw [if_pos b]; split <;> omega
  rw [if_neg b]
  by_cases c : two (cb B n p) (cb B n (p + 1))
  · rw [if_pos c]; unfold two at c; unfold sg2; repeat' split
    all_goals omega
  · rw [if_neg c]; have := s1 (cb B n p); omega
theorem sg_c {S : sS} {t : Nat} {i : Int} (hB : ∀ j, -128 ≤ S.2.1 (t + 1) j ∧ S.2.1 (t + 1) j ≤ 127) : sg1 (bt S t i) = sg1 (cb (S.2.1 (t + 1)) (S.1 t 1) i) ∧ (two (bt S t i) (bt S t (i + 1)) ↔ two (cb (S.2.1 (t + 1)) (S.1 t 1) i) (cb (S.2.1 (t + 1)) (S.1 t 1) (i + 1))) := by
  have a := bt_c hB i; have b := bt_c hB (i + 1)
  refine ⟨?_, by unfold two; omega⟩
  rcases a with a | a | a
  · rw [a.1]
  · rw [a.1, a.2]; decide
  · have : ∀ x : Int, x < 0 ∨ 128 ≤ x → sg1 x = 1 := fun x h => by
      unfold sg1; rw [if_neg (by omega), if_neg (by omega), if_neg (by omega), if_neg (by omega), if_neg (by omega), if_neg (by omega), if_neg (by omega), if_neg (by omega), if_neg (by omega), if_neg (by omega), if_neg (by omega)]
    rw [this _ (.inr a.2.2), this _ (.inl a.1)]
theorem two_tw {x d : Int} (hx : x = 46 ∨ x = 60 ∨ x = 62) : two x d ↔ ((x = 46 → d = 46) ∧ (x ≠ 46 → d = 61)) := by unfold two; omega
theorem two_x {x d : Int} (h : two x d) : (x = 46 ∨ x = 60 ∨ x = 62) ∧ (x = 46 → d = 46) ∧ (x ≠ 46 → d = 61) := by unfold two at h; omega
set_option maxRecDepth 100000 in
set_option maxHeartbeats 4000000 in
theorem x_X8_isLetter (l : Launch) (G : sG) (S : sS) {k : Int} (hk : -2147483648 ≤ k ∧ k ≤ 2147483647) : Met l yX8_isLetter (.code yX8_isLetter cX8_isLetter 1 (some .boolean) :: tb) (rmk 1 0 0) (sPc G 294 S [.int (iv k)]) (sQi G 294 (fun r u => u = S ∧ ((0 ≤ r ∧ r ≤ 1) ∧ Hd (r = 1 → isLt k) ∧ Hd (r = 0 → ¬ isLt k)))) 0 0 (sF G) := by
  refine sEnter (by decide) (Nat.le_of_ble_eq_true rfl) ?_
  intro p e s m args below meth c Cx hr hlk hnm hW ls hl
  have Cx : sC G p m c cX8_isLetter 1 s args RX8 := Cx
  obtain ⟨hx, hb, hml, hown, hts⟩ := id Cx.1
  have hL : sL G [] := sL_nil
  have hl : lv_has ls 1 [(0, .int (iv k))] := hl
  have hW0 := hW
  refine lv_iload_n hx hb dX8_isLetter_0 rfl (lv_at hl 0 rfl) ?_
  refine lv_bipush (v := iv 97) hx hb dX8_isLetter_1 (by decide) ?_
  refine r_icmp_lt (tgt := 12) hx hb ⟨(by omega), (by omega)⟩ ⟨(by omega), (by omega)⟩ dX8_isLetter_3 (by decide) (fun c_1 => ?_) (fun c_1 => ?_)
  · refine lv_iload_n hx hb dX8_isLetter_12 rfl (lv_at hl 0 rfl) ?_
    refine lv_bipush (v := iv 65) hx hb dX8_isLetter_13 (by decide) ?_
    refine r_icmp_lt (tgt := 28) hx hb ⟨(by omega), (by omega)⟩ ⟨(by omega), (by omega)⟩ dX8_isLetter_15 (by decide) (fun c_2 => ?_) (fun c_2 => ?_)
    · refine lv_iconst (v := iv 0) hx hb dX8_isLetter_28 (by decide) ?_
      exact sZret Cx hr hlk hW hL (by omega) ⟨rfl, ⟨(by omega), (fun h => absurd h (by decide)), (fun _ => by unfold isLt; omega)⟩⟩ dX8_isLetter_29
    · refine lv_iload_n hx hb dX8_isLetter_18 rfl (lv_at hl 0 rfl) ?_
      refine lv_bipush (v := iv 90) hx hb dX8_isLetter_19 (by decide) ?_
      refine r_icmp_gt (tgt := 28) hx hb ⟨(by omega), (by omega)⟩ ⟨(by omega), (by omega)⟩ dX8_isLetter_21 (by decide) (fun c_3 => ?_) (fun c_3 => ?_)
      · refine lv_iconst (v := iv 0) hx hb dX8_isLetter_28 (by decide) ?_
        exact sZret Cx hr hlk hW hL (by omega) ⟨rfl, ⟨(by omega), (fun h => absurd h (by decide)), (fun _ => by unfold isLt; omega)⟩⟩ dX8_isLetter_29
      · refine lv_iconst (v := iv 1) hx hb dX8_isLetter_24 (by decide) ?_
        refine lv_goto (tgt := 29) hx hb dX8_isLetter_25 (by decide) ?_
        exact sZret Cx hr hlk hW hL (by omega) ⟨rfl, ⟨(by omega), (fun _ => by unfold isLt; omega), (fun h => absurd h (by decide))⟩⟩ dX8_isLetter_29
  · refine lv_iload_n hx hb dX8_isLetter_6 rfl (lv_at hl 0 rfl) ?_
    refine lv_bipush (v := iv 122) hx hb dX8_isLetter_7 (by decide) ?_
    refine r_icmp_le (tgt := 24) hx hb ⟨(by omega), (by omega)⟩ ⟨(by omega), (by omega)⟩ dX8_isLetter_9 (by decide) (fun c_4 => ?_) (fun c_4 => ?_)
    · refine lv_iconst (v := iv 1) hx hb dX8_isLetter_24 (by decide) ?_
      refine lv_goto (tgt := 29) hx hb dX8_isLetter_25 (by decide) ?_
      exact sZret Cx hr hlk hW hL (by omega) ⟨rfl, ⟨(by omega), (fun _ => by unfold isLt; omega), (fun h => absurd h (by decide))⟩⟩ dX8_isLetter_29
    · refine lv_iload_n hx hb dX8_isLetter_12 rfl (lv_at hl 0 rfl) ?_
      refine lv_bipush (v := iv 65) hx hb dX8_isLetter_13 (by decide) ?_
      refine r_icmp_lt (tgt := 28) hx hb ⟨(by omega), (by omega)⟩ ⟨(by omega), (by omega)⟩ dX8_isLetter_15 (by decide) (fun c_5 => ?_) (fun c_5 => ?_)
      · refine lv_iconst (v := iv 0) hx hb dX8_isLetter_28 (by decide) ?_
        exact sZret Cx hr hlk hW hL (by omega) ⟨rfl, ⟨(by omega), (fun h => absurd h (by decide)), (fun _ => by unfold isLt; omega)⟩⟩ dX8_isLetter_29
      · refine lv_iload_n hx hb dX8_isLetter_18 rfl (lv_at hl 0 rfl) ?_
        refine lv_bipush (v := iv 90) hx hb dX8_isLetter_19 (by decide) ?_
        refine r_icmp_gt (tgt := 28) hx hb ⟨(by omega), (by omega)⟩ ⟨(by omega), (by omega)⟩ dX8_isLetter_21 (by decide) (fun c_6 => ?_) (fun c_6 => ?_)
        · refine lv_iconst (v := iv 0) hx hb dX8_isLetter_28 (by decide) ?_
          exact sZret Cx hr hlk hW hL (by omega) ⟨rfl, ⟨(by omega), (fun h => absurd h (by decide)), (fun _ => by unfold isLt; omega)⟩⟩ dX8_isLetter_29
        · refine lv_iconst (v := iv 1) hx hb dX8_isLetter_24 (by decide) ?_
          refine lv_goto (tgt := 29) hx hb dX8_isLetter_25 (by decide) ?_
          exact sZret Cx hr hlk hW hL (by omega) ⟨rfl, ⟨(by omega), (fun _ => by unfold isLt; omega), (fun h => absurd h (by decide))⟩⟩ dX8_isLetter_29

set_option maxRecDepth 100000 in
set_option maxHeartbeats 4000000 in
theorem x_X8_isDigit (l : Launch) (G : sG) (S : sS) {k : Int} (hk : -2147483648 ≤ k ∧ k ≤ 2147483647) : Met l yX8_isDigit (.code yX8_isDigit cX8_isDigit 1 (some .boolean) :: tb) (rmk 1 0 0) (sPc G 294 S [.int (iv k)]) (sQi G 294 (fun r u => u = S ∧ ((0 ≤ r ∧ r ≤ 1) ∧ Hd (r = 1 → isDg k) ∧ Hd (r = 0 → ¬ isDg k)))) 0 0 (sF G) := by
  refine sEnter (by decide) (Nat.le_of_ble_eq_true rfl) ?_
  intro p e s m args below meth c Cx hr hlk hnm hW ls hl
  have Cx : sC G p m c cX8_isDigit 1 s args RX8 := Cx
  obtain ⟨hx, hb, hml, hown, hts⟩ := id Cx.1
  have hL : sL G [] := sL_nil
  have hl : lv_has ls 1 [(0, .int (iv k))] := hl
  have hW0 := hW
  refine lv_iload_n hx hb dX8_isDigit_0 rfl (lv_at hl 0 rfl) ?_
  refine lv_bipush (v := iv 48) hx hb dX8_isDigit_1 (by decide) ?_
  refine r_icmp_lt (tgt := 16) hx hb ⟨(by omega), (by omega)⟩ ⟨(by omega), (by omega)⟩ dX8_isDigit_3 (by decide) (fun c_1 => ?_) (fun c_1 => ?_)
  · refine lv_iconst (v := iv 0) hx hb dX8_isDigit_16 (by decide) ?_
    exact sZret Cx hr hlk hW hL (by omega) ⟨rfl, ⟨(by omega), (fun h => absurd h (by decide)), (fun _ => by unfold isDg; omega)⟩⟩ dX8_isDigit_17
  · refine lv_iload_n hx hb dX8_isDigit_6 rfl (lv_at hl 0 rfl) ?_
    refine lv_bipush (v := iv 57) hx hb dX8_isDigit_7 (by decide) ?_
    refine r_icmp_gt (tgt := 16) hx hb ⟨(by omega), (by omega)⟩ ⟨(by omega), (by omega)⟩ dX8_isDigit_9 (by decide) (fun c_2 => ?_) (fun c_2 => ?_)
    · refine lv_iconst (v := iv 0) hx hb dX8_isDigit_16 (by decide) ?_
      exact sZret Cx hr hlk hW hL (by omega) ⟨rfl, ⟨(by omega), (fun h => absurd h (by decide)), (fun _ => by unfold isDg; omega)⟩⟩ dX8_isDigit_17
    · refine lv_iconst (v := iv 1) hx hb dX8_isDigit_12 (by decide) ?_
      refine lv_goto (tgt := 17) hx hb dX8_isDigit_13 (by decide) ?_
      exact sZret Cx hr hlk hW hL (by omega) ⟨rfl, ⟨(by omega), (fun _ => by unfold isDg; omega), (fun h => absurd h (by decide))⟩⟩ dX8_isDigit_17

set_option maxRecDepth 100000 in
set_option maxHeartbeats 4000000 in
theorem x_X8_isNamePart (l : Launch) (G : sG) (S : sS) {k : Int} (hk : -2147483648 ≤ k ∧ k ≤ 2147483647) : Met l yX8_isNamePart (.code yX8_isNamePart cX8_isNamePart 1 (some .boolean) :: tb) (rmk 2 0 0) (sPc G 294 S [.int (iv k)]) (sQi G 294 (fun r u => u = S ∧ ((0 ≤ r ∧ r ≤ 1) ∧ Hd (r = 1 → isLt k ∨ isDg k) ∧ Hd (r = 0 → ¬ (isLt k ∨ isDg k))))) 0 0 (sF G) := by
  refine sEnter (by decide) (Nat.le_of_ble_eq_true rfl) ?_
  intro p e s m args below meth c Cx hr hlk hnm hW ls hl
  have Cx : sC G p m c cX8_isNamePart 1 s args RX8 := Cx
  obtain ⟨hx, hb, hml, hown, hts⟩ := id Cx.1
  have hL : sL G [] := sL_nil
  have hl : lv_has ls 1 [(0, .int (iv k))] := hl
  have hW0 := hW
  refine lv_iload_n hx hb dX8_isNamePart_0 rfl (lv_at hl 0 rfl) ?_
  refine sBi (sSt (As := [.int (iv k)]) (rest := []) Cx (x_X8_isLetter l G S (k := k) (by omega)) (c_X8_56 Cx rfl rfl (rmk_ok (by omega) (by decide))) hW rfl hl.1 rfl (Nat.le_of_ble_eq_true rfl) dX8_isNamePart_1 ⟨Nat.le_of_ble_eq_true rfl, Nat.le_of_ble_eq_true rfl⟩) hL (fun r_3 u_1 H locs k_2 hW hL => ?_)
  obtain ⟨eu_1, xu_1⟩ := k_2
  rw [eu_1] at hW
  refine r_if_ne (tgt := 14) hx hb ⟨(by omega), (by omega)⟩ dX8_isNamePart_4 (by decide) (fun c_4 => ?_) (fun c_4 => ?_)
  · refine lv_iconst (v := iv 1) hx hb dX8_isNamePart_14 (by decide) ?_
    refine lv_goto (tgt := 19) hx hb dX8_isNamePart_15 (by decide) ?_
    exact sZret Cx hr hlk hW hL (by omega) ⟨rfl, ⟨(by omega), (fun _ => .inl (xu_1.2.1 (by omega))), (fun h => absurd h (by decide))⟩⟩ dX8_isNamePart_19
  · refine lv_iload_n hx hb dX8_isNamePart_7 rfl (lv_at hl 0 rfl) ?_
    refine sBi (sSt (As := [.int (iv k)]) (rest := []) Cx (x_X8_isDigit l G S (k := k) (by omega)) (c_X8_63 Cx rfl rfl (rmk_ok (by omega) (by decide))) hW rfl hl.1 rfl (Nat.le_of_ble_eq_true rfl) dX8_isNamePart_8 ⟨Nat.le_of_ble_eq_true rfl, Nat.le_of_ble_eq_true rfl⟩) hL (fun r_7 u_5 H locs k_6 hW hL => ?_)
    obtain ⟨eu_5, xu_5⟩ := k_6
    rw [eu_5] at hW
    refine r_if_eq (tgt := 18) hx hb ⟨(by omega), (by omega)⟩ dX8_isNamePart_11 (by decide) (fun c_8 => ?_) (fun c_8 => ?_)
    · refine lv_iconst (v := iv 0) hx hb dX8_isNamePart_18 (by decide) ?_
      exact sZret Cx hr hlk hW hL (by omega) ⟨rfl, ⟨(by omega), (fun h => absurd h (by decide)), (fun _ z => z.elim (xu_1.2.2 (by omega)) (xu_5.2.2 (by omega)))⟩⟩ dX8_isNamePart_19
    · refine lv_iconst (v := iv 1) hx hb dX8_isNamePart_14 (by decide) ?_
      refine lv_goto (tgt := 19) hx hb dX8_isNamePart_15 (by decide) ?_
      exact sZret Cx hr hlk hW hL (by omega) ⟨rfl, ⟨(by omega), (fun _ => .inr (xu_5.2.1 (by omega))), (fun h => absurd h (by decide))⟩⟩ dX8_isNamePart_19

set_option maxRecDepth 100000 in
set_option maxHeartbeats 4000000 in
theorem x_X8_token (l : Launch) (G : sG) (S : sS) {kk sr v : Int} (hI : cX G S 0 0 0) (hkk : 0 ≤ kk ∧ kk ≤ 26) (hsr : 0 ≤ sr ∧ sr ≤ 2000) (hvr : -9223372036854775808 ≤ v ∧ v ≤ 9223372036854775807) (h3 : 0 ≤ S.1 12 3 ∧ S.1 12 3 ≤ 2000) : Met l yX8_token (.code yX8_token cX8_token 5 none :: tb) (rmk 1 0 0) (sPc G 294 S [.ref (G.2.2.1 + 12), .int (iv kk), .int (iv sr), .long (jv v)]) (sQv G 294 (fun u => cX G u 0 0 0 ∧ Fr S u pQ ∧ (Hd (tkA S u kk sr v)))) 0 0 (sF G) := by
  refine sEnter (by decide) (Nat.le_of_ble_eq_true rfl) ?_
  intro p e s m args below meth c Cx hr hlk hnm hW ls hl
  have Cx : sC G p m c cX8_token 5 s args RX8 := Cx
  obtain ⟨hx, hb, hml, hown, hts⟩ := id Cx.1
  have hL : sL G [] := sL_nil
  have hl : lv_has ls 5 [(0, .ref (G.2.2.1 + 12)), (1, .int (iv kk)), (2, .int (iv sr)), (3, .long (jv v))] := hl
  have hW0 := hW
  refine lv_aload_n hx hb dX8_token_0 rfl (lv_at hl 0 rfl) ?_
  have q_1 : 0 ≤ S.1 12 3 ∧ S.1 12 3 ≤ 2001 := hI.fi 12 3 8 (by decide) rfl
  refine g_X8_22 Cx hW (k := 12) (by decide) rfl (v := S.1 12 3) rfl dX8_token_1 ?_
  refine lv_aload_n hx hb dX8_token_4 rfl (lv_at hl 0 rfl) ?_
  refine g_X8_11 Cx hW (k := 12) (by decide) rfl (v := .ref (G.2.2.1 + 13)) (rf_12_0 hI) dX8_token_5 ?_
  refine sAlen Cx hW (k := 13) (by decide) rfl 0 rfl dX8_token_8 ?_
  refine r_icmp_ge (tgt := 52) hx hb ⟨(by omega), (by omega)⟩ ⟨(by omega), (by omega)⟩ dX8_token_9 (by decide) (fun c_2 => ?_) (fun c_2 => ?_)
  · exact sVret Cx hr hlk hW hL ⟨hI, (Fr.rf : Fr S S pQ), (by exfalso; omega)⟩ dX8_token_52
  · refine lv_aload_n hx hb dX8_token_12 rfl (lv_at hl 0 rfl) ?_
    refine g_X8_11 Cx hW (k := 12) (by decide) rfl (v := .ref (G.2.2.1 + 13)) (rf_12_0 hI) dX8_token_13 ?_
    refine lv_aload_n hx hb dX8_token_16 rfl (lv_at hl 0 rfl) ?_
    refine g_X8_22 Cx hW (k := 12) (by decide) rfl (v := S.1 12 3) rfl dX8_token_17 ?_
    refine lv_iload_n hx hb dX8_token_20 rfl (lv_at hl 1 rfl) ?_
    refine rIast Cx hW hL (k := 13) (by decide) rfl (by decide) (by omega) (by omega) dX8_token_21 (fun H locs hW hL => ?_)
    have F_3 : Fr S (uA S 13 (S.1 12 3) kk) pQ := (Fr.rf : Fr S S pQ).A rfl
    have i_4 : cX G (uA S 13 (S.1 12 3) kk) 0 0 0 := hI.A (by decide) (by decide) (by decide) (show 0 ≤ kk ∧ kk ≤ 26 from ⟨by omega, by omega⟩)
    refine lv_aload_n hx hb dX8_token_22 rfl (lv_at hl 0 rfl) ?_
    refine g_X8_15 Cx hW (k := 12) (by decide) rfl (v := .ref (G.2.2.1 + 14)) (rf_12_1 i_4) dX8_token_23 ?_
    refine lv_aload_n hx hb dX8_token_26 rfl (lv_at hl 0 rfl) ?_
    refine g_X8_22 Cx hW (k := 12) (by decide) rfl (v := S.1 12 3) uA_f dX8_token_27 ?_
    refine lv_iload_n hx hb dX8_token_30 rfl (lv_at hl 2 rfl) ?_
    refine rIast Cx hW hL (k := 14) (by decide) rfl (by decide) (by omega) (by omega) dX8_token_31 (fun H locs hW hL => ?_)
    have F_5 : Fr S (uA (uA S 13 (S.1 12 3) kk) 14 (S.1 12 3) sr) pQ := F_3.A rfl
    have i_6 : cX G (uA (uA S 13 (S.1 12 3) kk) 14 (S.1 12 3) sr) 0 0 0 := i_4.A (by decide) (by decide) (by decide) (show 0 ≤ sr ∧ sr ≤ 2000 from ⟨by omega, by omega⟩)
    refine lv_aload_n hx hb dX8_token_32 rfl (lv_at hl 0 rfl) ?_
    refine g_X8_18 Cx hW (k := 12) (by decide) rfl (v := .ref (G.2.2.1 + 15)) (rf_12_2 i_6) dX8_token_33 ?_
    refine lv_aload_n hx hb dX8_token_36 rfl (lv_at hl 0 rfl) ?_
    refine g_X8_22 Cx hW (k := 12) (by decide) rfl (v := S.1 12 3) ((uA_f).trans (uA_f)) dX8_token_37 ?_
    refine lv_lload_n hx hb dX8_token_40 rfl (lv_at hl 3 rfl) ?_
    refine rLast Cx hW hL (k := 15) (by decide) rfl (by decide) (by omega) (by omega) dX8_token_41 (fun H locs hW hL => ?_)
    have F_7 : Fr S (uL (uA (uA S 13 (S.1 12 3) kk) 14 (S.1 12 3) sr) 15 (S.1 12 3) v) pQ := F_5.L rfl
    have i_8 : cX G (uL (uA (uA S 13 (S.1 12 3) kk) 14 (S.1 12 3) sr) 15 (S.1 12 3) v) 0 0 0 := i_6.L ⟨by omega, by omega⟩
    refine lv_aload_n hx hb dX8_token_42 rfl (lv_at hl 0 rfl) ?_
    refine lv_dup hx hb dX8_token_43 rfl ?_
    refine g_X8_22 Cx hW (k := 12) (by decide) rfl (v := S.1 12 3) ((uL_f).trans ((uA_f).trans (uA_f))) dX8_token_44 ?_
    refine lv_iconst (v := iv 1) hx hb dX8_token_47 (by decide) ?_
    refine r_iadd hx hb dX8_token_48 ?_
    refine p_X8_22 Cx hW hL (k := 12) (by decide) rfl dX8_token_49 (fun H locs hW hL => ?_)
    have F_9 : Fr S (uF (uL (uA (uA S 13 (S.1 12 3) kk) 14 (S.1 12 3) sr) 15 (S.1 12 3) v) 12 3 ((S.1 12 3) + 1)) pQ := F_7.F rfl
    have i_10 : cX G (uF (uL (uA (uA S 13 (S.1 12 3) kk) 14 (S.1 12 3) sr) 15 (S.1 12 3) v) 12 3 ((S.1 12 3) + 1)) 0 0 0 := i_8.F rfl rfl (show 0 ≤ (S.1 12 3) + 1 ∧ (S.1 12 3) + 1 ≤ 2001 from ⟨by omega, by omega⟩)
    exact sVret Cx hr hlk hW hL ⟨i_10, F_9, ⟨uF_on, (fun x => by show (if (13 : Nat) = 13 ∧ x = S.1 12 3 then kk else S.2.1 13 x) = _; simp), (fun x => by show (if (14 : Nat) = 14 ∧ x = S.1 12 3 then sr else S.2.1 14 x) = _; simp), (fun x => by show (if (15 : Nat) = 15 ∧ x = S.1 12 3 then v else S.2.2.1 15 x) = _; simp)⟩⟩ dX8_token_52

set_option maxRecDepth 100000 in
set_option maxHeartbeats 4000000 in
theorem x_X8_scanNumber (l : Launch) (G : sG) (S : sS) {t N : Nat} {i0 : Int} (hI : cX G S 0 0 0) (ht : txt t N) (hi0 : 0 ≤ i0 ∧ i0 < (S.1 t 1) ∧ (S.1 t 1) ≤ 2000) (h3 : 0 ≤ S.1 12 3 ∧ S.1 12 3 ≤ 2000) (hdg : isDg (cb (S.2.1 (t + 1)) (S.1 t 1) i0)) : Met l yX8_scanNumber (.code yX8_scanNumber cX8_scanNumber 6 (some .int) :: tb) (rmk 2 0 0) (sPc G 294 S [.ref (G.2.2.1 + 12), .ref (G.2.2.1 + t), .int (iv i0)]) (sQi G 294 (fun r u => cX G u 0 0 0 ∧ Fr S u pQ ∧ (Hd (r = eOf (S.2.1 (t + 1)) (S.1 t 1) i0 ∧ tkB S u (kOf (S.2.1 (t + 1)) (S.1 t 1) i0) i0 (vOf (S.2.1 (t + 1)) (S.1 t 1) i0))))) 0 0 (sF G) := by
  refine sEnter (by decide) (Nat.le_of_ble_eq_true rfl) ?_
  intro p e s m args below meth c Cx hr hlk hnm hW ls hl
  have Cx : sC G p m c cX8_scanNumber 6 s args RX8 := Cx
  obtain ⟨hx, hb, hml, hown, hts⟩ := id Cx.1
  have hL : sL G [] := sL_nil
  have hl : lv_has ls 6 [(0, .ref (G.2.2.1 + 12)), (1, .ref (G.2.2.1 + t)), (2, .int (iv i0))] := hl
  have hW0 := hW
  have hN3 := ht.2.2.2.2.2
  have hB := fun j => txt_r ht hI j
  have hnl : ¬ isLt (cb (S.2.1 (t + 1)) (S.1 t 1) i0) := by unfold isLt; unfold isDg at hdg; omega
  refine lv_iconst (v := iv 0) hx hb dX8_scanNumber_0 (by decide) ?_
  refine lv_istore_n (lv' := [(3, .int (iv 0)), (0, .ref (G.2.2.1 + 12)), (1, .ref (G.2.2.1 + t)), (2, .int (iv i0))]) hx hb dX8_scanNumber_1 rfl hl (by decide) rfl (fun ls hl => ?_)
  refine lv_iload_n hx hb dX8_scanNumber_2 rfl (lv_at hl 3 rfl) ?_
  refine lv_istore (lv' := [(4, .int (iv i0)), (3, .int (iv 0)), (0, .ref (G.2.2.1 + 12)), (1, .ref (G.2.2.1 + t)), (2, .int (iv i0))]) hx hb dX8_scanNumber_3 hl (by decide) rfl (fun ls hl => ?_)
  have loop_5 : ∀ (fuel : Nat) (i : Int) (v : Int) (H : Heap) (locs : List Loc) (ls : Array Slot), (2000 - i).toNat < fuel → (i0 ≤ i ∧ i ≤ (S.1 t 1)) → (en (S.1 t 1) (stD (S.2.1 (t + 1)) (S.1 t 1)) i0 = en (S.1 t 1) (stD (S.2.1 (t + 1)) (S.1 t 1)) i) → (-2147483648 ≤ v ∧ v ≤ 2147483647) → ((i - i0 ≤ 0 → 0 ≤ v ∧ v ≤ 0) ∧ (i - i0 ≤ 1 → 0 ≤ v ∧ v ≤ 9) ∧ (i - i0 ≤ 2 → 0 ≤ v ∧ v ≤ 99) ∧ (i - i0 ≤ 3 → 0 ≤ v ∧ v ≤ 999) ∧ (i - i0 ≤ 4 → 0 ≤ v ∧ v ≤ 9999) ∧ (i - i0 ≤ 5 → 0 ≤ v ∧ v ≤ 99999)) → (Hd (i - i0 ≤ 5 → v = dvn (S.2.1 (t + 1)) i0 (i - i0).toNat)) → sW G 294 S H → sL G locs → lv_has ls 6 [(4, .int (iv i)), (3, .int (iv v)), (0, .ref (G.2.2.1 + 12)), (1, .ref (G.2.2.1 + t)), (2, .int (iv i0))] → W p l e (rmk 2 0 0) s m args below meth c H locs 0 0 (MQ below (sQi G 294 (fun r u => cX G u 0 0 0 ∧ Fr S u pQ ∧ (Hd (r = eOf (S.2.1 (t + 1)) (S.1 t 1) i0 ∧ tkB S u (kOf (S.2.1 (t + 1)) (S.1 t 1) i0) i0 (vOf (S.2.1 (t + 1)) (S.1 t 1) i0))))) args s 0 0 (sF G)) (F0 m 5 ls []) := by
    intro fuel
    induction fuel with
    | zero => intro i v H locs ls hmeas hi hen hv hv5 hdv hW hL hl; exact absurd hmeas (Nat.not_lt_zero _)
    | succ fuel ih_5 =>
      intro i v H locs ls hmeas hi hen hv hv5 hdv hW hL hl
      refine lv_iload hx hb dX8_scanNumber_5 (lv_at hl 0 rfl) ?_
      refine lv_sipush (v := iv 2000) hx hb dX8_scanNumber_7 (by decide) ?_
      refine r_icmp_ge (tgt := 46) hx hb ⟨(by omega), (by omega)⟩ ⟨(by omega), (by omega)⟩ dX8_scanNumber_10 (by decide) (fun c_1 => ?_) (fun c_1 => ?_)
      · have hend : en (S.1 t 1) (stD (S.2.1 (t + 1)) (S.1 t 1)) i0 = i := hen.trans (en_no (fun z => absurd (stD_lt z) (by omega)))
        refine lv_iload hx hb dX8_scanNumber_46 (lv_at hl 0 rfl) ?_
        refine lv_iload_n hx hb dX8_scanNumber_48 rfl (lv_at hl 4 rfl) ?_
        refine r_isub hx hb dX8_scanNumber_49 ?_
        refine lv_iconst (v := iv 5) hx hb dX8_scanNumber_50 (by decide) ?_
        refine r_icmp_gt (tgt := 66) hx hb ⟨(by omega), (by omega)⟩ ⟨(by omega), (by omega)⟩ dX8_scanNumber_51 (by decide) (fun c_2 => ?_) (fun c_2 => ?_)
        · refine lv_iconst (v := iv 1) hx hb dX8_scanNumber_66 (by decide) ?_
          refine lv_goto (tgt := 71) hx hb dX8_scanNumber_67 (by decide) ?_
          refine lv_istore (lv' := [(5, .int (iv 1)), (4, .int (iv i)), (3, .int (iv v)), (0, .ref (G.2.2.1 + 12)), (1, .ref (G.2.2.1 + t)), (2, .int (iv i0))]) hx hb dX8_scanNumber_71 hl (by decide) rfl (fun ls hl => ?_)
          refine lv_aload_n hx hb dX8_scanNumber_73 rfl (lv_at hl 3 rfl) ?_
          refine lv_iload hx hb dX8_scanNumber_74 (lv_at hl 0 rfl) ?_
          refine r_if_eq (tgt := 83) hx hb ⟨(by omega), (by omega)⟩ dX8_scanNumber_76 (by decide) (fun c => absurd c (by omega)) (fun _ => ?_)
          refine lv_iconst (v := iv 1) hx hb dX8_scanNumber_79 (by decide) ?_
          refine lv_goto (tgt := 84) hx hb dX8_scanNumber_80 (by decide) ?_
          refine lv_iload_n hx hb dX8_scanNumber_84 rfl (lv_at hl 5 rfl) ?_
          refine lv_iload_n hx hb dX8_scanNumber_85 rfl (lv_at hl 2 rfl) ?_
          refine r_i2l hx hb ⟨(by omega), (by omega)⟩ dX8_scanNumber_86 ?_
          have q_3 : 0 ≤ S.1 12 3 ∧ S.1 12 3 ≤ 2001 := hI.fi 12 3 8 (by decide) rfl
          refine sBv (sV (As := [.int (iv 1), .int (iv i0), .long (jv v)]) (rest := []) (k := 12) Cx (x_X8_token l G S (kk := 1) (sr := i0) (v := v) hI (by omega) (by omega) (by omega) (by omega)) (c_X8_49 Cx rfl rfl (rmk_ok (by omega) (by decide))) hW (by decide) rfl rfl rfl hl.1 rfl (Nat.le_of_ble_eq_true rfl) dX8_scanNumber_87 ⟨Nat.le_of_ble_eq_true rfl, Nat.le_of_ble_eq_true rfl⟩) hL (fun u_4 H locs k_5 hW hL => ?_)
          obtain ⟨iu_4, fu_4, xu_4⟩ := k_5
          have F_6 := (Fr.rf : Fr S S pQ).trans fu_4
          refine lv_iload hx hb dX8_scanNumber_90 (lv_at hl 1 rfl) ?_
          exact sIret Cx hr hlk hW hL ⟨iu_4, F_6, (by have q1 : eOf (S.2.1 (t + 1)) (S.1 t 1) i0 = i := (by unfold eOf; rw [if_neg hnl, if_pos hdg]; exact hend); have q2 : kOf (S.2.1 (t + 1)) (S.1 t 1) i0 = 1 := (by unfold kOf; rw [if_neg hnl, if_pos hdg, hend]; exact (if_neg (fun z => absurd z.1 (by omega)))); exact ⟨q1.symm, v, (by rw [q2]; exact xu_4), fun h => (by unfold vOf; rw [if_neg hnl, if_pos hdg, hend]; exact hdv (absurd h (by rw [q2]; decide)))⟩)⟩ dX8_scanNumber_92
        · refine lv_aload_n hx hb dX8_scanNumber_54 rfl (lv_at hl 3 rfl) ?_
          refine lv_iload hx hb dX8_scanNumber_55 (lv_at hl 0 rfl) ?_
          have q_7 : 0 ≤ S.1 t 1 ∧ S.1 t 1 ≤ (N : Int) := txt_len ht hI
          refine sBi (sV (As := [.int (iv i)]) (rest := []) (k := t) Cx (s_X10_byteAt l G S (o := t) (k := i) (N := N) hI ht (by omega)) (c_X8_53 Cx rfl rfl (rmk_ok (by omega) (by decide))) hW (Nat.lt_trans ht.1 (by decide)) ht.2.1 rfl rfl hl.1 rfl (Nat.le_of_ble_eq_true rfl) dX8_scanNumber_57 ⟨Nat.le_of_ble_eq_true rfl, Nat.le_of_ble_eq_true rfl⟩) hL (fun r_10 u_8 H locs k_9 hW hL => ?_)
          obtain ⟨eu_8, xu_8⟩ := k_9
          rw [eu_8] at hW
          refine sBi (sSt (As := [.int (iv r_10)]) (rest := []) Cx (x_X8_isLetter l G S (k := r_10) (by omega)) (c_X8_56 Cx rfl rfl (rmk_ok (by omega) (by decide))) hW rfl hl.1 rfl (Nat.le_of_ble_eq_true rfl) dX8_scanNumber_60 ⟨Nat.le_of_ble_eq_true rfl, Nat.le_of_ble_eq_true rfl⟩) hL (fun r_13 u_11 H locs k_12 hW hL => ?_)
          obtain ⟨eu_11, xu_11⟩ := k_12
          rw [eu_11] at hW
          refine r_if_eq (tgt := 70) hx hb ⟨(by omega), (by omega)⟩ dX8_scanNumber_63 (by decide) (fun c_14 => ?_) (fun c_14 => ?_)
          · refine lv_iconst (v := iv 0) hx hb dX8_scanNumber_70 (by decide) ?_
            refine lv_istore (lv' := [(5, .int (iv 0)), (4, .int (iv i)), (3, .int (iv v)), (0, .ref (G.2.2.1 + 12)), (1, .ref (G.2.2.1 + t)), (2, .int (iv i0))]) hx hb dX8_scanNumber_71 hl (by decide) rfl (fun ls hl => ?_)
            refine lv_aload_n hx hb dX8_scanNumber_73 rfl (lv_at hl 3 rfl) ?_
            refine lv_iload hx hb dX8_scanNumber_74 (lv_at hl 0 rfl) ?_
            refine r_if_eq (tgt := 83) hx hb ⟨(by omega), (by omega)⟩ dX8_scanNumber_76 (by decide) (fun _ => ?_) (fun c => absurd (by omega) c)
            refine lv_iconst (v := iv 3) hx hb dX8_scanNumber_83 (by decide) ?_
            refine lv_iload_n hx hb dX8_scanNumber_84 rfl (lv_at hl 5 rfl) ?_
            refine lv_iload_n hx hb dX8_scanNumber_85 rfl (lv_at hl 2 rfl) ?_
            refine r_i2l hx hb ⟨(by omega), (by omega)⟩ dX8_scanNumber_86 ?_
            have q_15 : 0 ≤ S.1 12 3 ∧ S.1 12 3 ≤ 2001 := hI.fi 12 3 8 (by decide) rfl
            refine sBv (sV (As := [.int (iv 3), .int (iv i0), .long (jv v)]) (rest := []) (k := 12) Cx (x_X8_token l G S (kk := 3) (sr := i0) (v := v) hI (by omega) (by omega) (by omega) (by omega)) (c_X8_49 Cx rfl rfl (rmk_ok (by omega) (by decide))) hW (by decide) rfl rfl rfl hl.1 rfl (Nat.le_of_ble_eq_true rfl) dX8_scanNumber_87 ⟨Nat.le_of_ble_eq_true rfl, Nat.le_of_ble_eq_true rfl⟩) hL (fun u_16 H locs k_17 hW hL => ?_)
            obtain ⟨iu_16, fu_16, xu_16⟩ := k_17
            have F_18 := (Fr.rf : Fr S S pQ).trans fu_16
            refine lv_iload hx hb dX8_scanNumber_90 (lv_at hl 1 rfl) ?_
            exact sIret Cx hr hlk hW hL ⟨iu_16, F_18, (by have q1 : eOf (S.2.1 (t + 1)) (S.1 t 1) i0 = i := (by unfold eOf; rw [if_neg hnl, if_pos hdg]; exact hend); have q2 : kOf (S.2.1 (t + 1)) (S.1 t 1) i0 = 3 := (by unfold kOf; rw [if_neg hnl, if_pos hdg, hend]; exact (if_pos ⟨(by omega), (fun z => xu_11.2.2 (by omega) (by rw [xu_8.1]; exact (lt_bt hB).mpr z))⟩)); exact ⟨q1.symm, v, (by rw [q2]; exact xu_16), fun h => (by unfold vOf; rw [if_neg hnl, if_pos hdg, hend]; exact hdv (by omega))⟩)⟩ dX8_scanNumber_92
          · refine lv_iconst (v := iv 1) hx hb dX8_scanNumber_66 (by decide) ?_
            refine lv_goto (tgt := 71) hx hb dX8_scanNumber_67 (by decide) ?_
            refine lv_istore (lv' := [(5, .int (iv 1)), (4, .int (iv i)), (3, .int (iv v)), (0, .ref (G.2.2.1 + 12)), (1, .ref (G.2.2.1 + t)), (2, .int (iv i0))]) hx hb dX8_scanNumber_71 hl (by decide) rfl (fun ls hl => ?_)
            refine lv_aload_n hx hb dX8_scanNumber_73 rfl (lv_at hl 3 rfl) ?_
            refine lv_iload hx hb dX8_scanNumber_74 (lv_at hl 0 rfl) ?_
            refine r_if_eq (tgt := 83) hx hb ⟨(by omega), (by omega)⟩ dX8_scanNumber_76 (by decide) (fun c => absurd c (by omega)) (fun _ => ?_)
            refine lv_iconst (v := iv 1) hx hb dX8_scanNumber_79 (by decide) ?_
            refine lv_goto (tgt := 84) hx hb dX8_scanNumber_80 (by decide) ?_
            refine lv_iload_n hx hb dX8_scanNumber_84 rfl (lv_at hl 5 rfl) ?_
            refine lv_iload_n hx hb dX8_scanNumber_85 rfl (lv_at hl 2 rfl) ?_
            refine r_i2l hx hb ⟨(by omega), (by omega)⟩ dX8_scanNumber_86 ?_
            have q_19 : 0 ≤ S.1 12 3 ∧ S.1 12 3 ≤ 2001 := hI.fi 12 3 8 (by decide) rfl
            refine sBv (sV (As := [.int (iv 1), .int (iv i0), .long (jv v)]) (rest := []) (k := 12) Cx (x_X8_token l G S (kk := 1) (sr := i0) (v := v) hI (by omega) (by omega) (by omega) (by omega)) (c_X8_49 Cx rfl rfl (rmk_ok (by omega) (by decide))) hW (by decide) rfl rfl rfl hl.1 rfl (Nat.le_of_ble_eq_true rfl) dX8_scanNumber_87 ⟨Nat.le_of_ble_eq_true rfl, Nat.le_of_ble_eq_true rfl⟩) hL (fun u_20 H locs k_21 hW hL => ?_)
            obtain ⟨iu_20, fu_20, xu_20⟩ := k_21
            have F_22 := (Fr.rf : Fr S S pQ).trans fu_20
            refine lv_iload hx hb dX8_scanNumber_90 (lv_at hl 1 rfl) ?_
            exact sIret Cx hr hlk hW hL ⟨iu_20, F_22, (by have q1 : eOf (S.2.1 (t + 1)) (S.1 t 1) i0 = i := (by unfold eOf; rw [if_neg hnl, if_pos hdg]; exact hend); have q2 : kOf (S.2.1 (t + 1)) (S.1 t 1) i0 = 1 := (by unfold kOf; rw [if_neg hnl, if_pos hdg, hend]; exact (if_neg (fun z => z.2 ((lt_bt hB).mp (by rw [← xu_8.1]; exact xu_11.2.1 (by omega)))))); exact ⟨q1.symm, v, (by rw [q2]; exact xu_20), fun h => (by unfold vOf; rw [if_neg hnl, if_pos hdg, hend]; exact hdv (absurd h (by rw [q2]; decide)))⟩)⟩ dX8_scanNumber_92
      · refine lv_aload_n hx hb dX8_scanNumber_13 rfl (lv_at hl 3 rfl) ?_
        refine lv_iload hx hb dX8_scanNumber_14 (lv_at hl 0 rfl) ?_
        have q_23 : 0 ≤ S.1 t 1 ∧ S.1 t 1 ≤ (N : Int) := txt_len ht hI
        refine sBi (sV (As := [.int (iv i)]) (rest := []) (k := t) Cx (s_X10_byteAt l G S (o := t) (k := i) (N := N) hI ht (by omega)) (c_X8_53 Cx rfl rfl (rmk_ok (by omega) (by decide))) hW (Nat.lt_trans ht.1 (by decide)) ht.2.1 rfl rfl hl.1 rfl (Nat.le_of_ble_eq_true rfl) dX8_scanNumber_16 ⟨Nat.le_of_ble_eq_true rfl, Nat.le_of_ble_eq_true rfl⟩) hL (fun r_26 u_24 H locs k_25 hW hL => ?_)
        obtain ⟨eu_24, xu_24⟩ := k_25
        rw [eu_24] at hW
        refine sBi (sSt (As := [.int (iv r_26)]) (rest := []) Cx (x_X8_isDigit l G S (k := r_26) (by omega)) (c_X8_63 Cx rfl rfl (rmk_ok (by omega) (by decide))) hW rfl hl.1 rfl (Nat.le_of_ble_eq_true rfl) dX8_scanNumber_19 ⟨Nat.le_of_ble_eq_true rfl, Nat.le_of_ble_eq_true rfl⟩) hL (fun r_29 u_27 H locs k_28 hW hL => ?_)
        obtain ⟨eu_27, xu_27⟩ := k_28
        rw [eu_27] at hW
        refine r_if_eq (tgt := 46) hx hb ⟨(by omega), (by omega)⟩ dX8_scanNumber_22 (by decide) (fun c_30 => ?_) (fun c_30 => ?_)
        · have hend : en (S.1 t 1) (stD (S.2.1 (t + 1)) (S.1 t 1)) i0 = i := hen.trans (en_no (fun z => xu_27.2.2 (by omega) (by rw [xu_24.1]; exact (dg_bt hB).mpr z)))
          refine lv_iload hx hb dX8_scanNumber_46 (lv_at hl 0 rfl) ?_
          refine lv_iload_n hx hb dX8_scanNumber_48 rfl (lv_at hl 4 rfl) ?_
          refine r_isub hx hb dX8_scanNumber_49 ?_
          refine lv_iconst (v := iv 5) hx hb dX8_scanNumber_50 (by decide) ?_
          refine r_icmp_gt (tgt := 66) hx hb ⟨(by omega), (by omega)⟩ ⟨(by omega), (by omega)⟩ dX8_scanNumber_51 (by decide) (fun c_31 => ?_) (fun c_31 => ?_)
          · refine lv_iconst (v := iv 1) hx hb dX8_scanNumber_66 (by decide) ?_
            refine lv_goto (tgt := 71) hx hb dX8_scanNumber_67 (by decide) ?_
            refine lv_istore (lv' := [(5, .int (iv 1)), (4, .int (iv i)), (3, .int (iv v)), (0, .ref (G.2.2.1 + 12)), (1, .ref (G.2.2.1 + t)), (2, .int (iv i0))]) hx hb dX8_scanNumber_71 hl (by decide) rfl (fun ls hl => ?_)
            refine lv_aload_n hx hb dX8_scanNumber_73 rfl (lv_at hl 3 rfl) ?_
            refine lv_iload hx hb dX8_scanNumber_74 (lv_at hl 0 rfl) ?_
            refine r_if_eq (tgt := 83) hx hb ⟨(by omega), (by omega)⟩ dX8_scanNumber_76 (by decide) (fun c => absurd c (by omega)) (fun _ => ?_)
            refine lv_iconst (v := iv 1) hx hb dX8_scanNumber_79 (by decide) ?_
            refine lv_goto (tgt := 84) hx hb dX8_scanNumber_80 (by decide) ?_
            refine lv_iload_n hx hb dX8_scanNumber_84 rfl (lv_at hl 5 rfl) ?_
            refine lv_iload_n hx hb dX8_scanNumber_85 rfl (lv_at hl 2 rfl) ?_
            refine r_i2l hx hb ⟨(by omega), (by omega)⟩ dX8_scanNumber_86 ?_
            have q_32 : 0 ≤ S.1 12 3 ∧ S.1 12 3 ≤ 2001 := hI.fi 12 3 8 (by decide) rfl
            refine sBv (sV (As := [.int (iv 1), .int (iv i0), .long (jv v)]) (rest := []) (k := 12) Cx (x_X8_token l G S (kk := 1) (sr := i0) (v := v) hI (by omega) (by omega) (by omega) (by omega)) (c_X8_49 Cx rfl rfl (rmk_ok (by omega) (by decide))) hW (by decide) rfl rfl rfl hl.1 rfl (Nat.le_of_ble_eq_true rfl) dX8_scanNumber_87 ⟨Nat.le_of_ble_eq_true rfl, Nat.le_of_ble_eq_true rfl⟩) hL (fun u_33 H locs k_34 hW hL => ?_)
            obtain ⟨iu_33, fu_33, xu_33⟩ := k_34
            have F_35 := (Fr.rf : Fr S S pQ).trans fu_33
            refine lv_iload hx hb dX8_scanNumber_90 (lv_at hl 1 rfl) ?_
            exact sIret Cx hr hlk hW hL ⟨iu_33, F_35, (by have q1 : eOf (S.2.1 (t + 1)) (S.1 t 1) i0 = i := (by unfold eOf; rw [if_neg hnl, if_pos hdg]; exact hend); have q2 : kOf (S.2.1 (t + 1)) (S.1 t 1) i0 = 1 := (by unfold kOf; rw [if_neg hnl, if_pos hdg, hend]; exact (if_neg (fun z => absurd z.1 (by omega)))); exact ⟨q1.symm, v, (by rw [q2]; exact xu_33), fun h => (by unfold vOf; rw [if_neg hnl, if_pos hdg, hend]; exact hdv (absurd h (by rw [q2]; decide)))⟩)⟩ dX8_scanNumber_92
          · refine lv_aload_n hx hb dX8_scanNumber_54 rfl (lv_at hl 3 rfl) ?_
            refine lv_iload hx hb dX8_scanNumber_55 (lv_at hl 0 rfl) ?_
            refine sBi (sV (As := [.int (iv i)]) (rest := []) (k := t) Cx (s_X10_byteAt l G S (o := t) (k := i) (N := N) hI ht (by omega)) (c_X8_53 Cx rfl rfl (rmk_ok (by omega) (by decide))) hW (Nat.lt_trans ht.1 (by decide)) ht.2.1 rfl rfl hl.1 rfl (Nat.le_of_ble_eq_true rfl) dX8_scanNumber_57 ⟨Nat.le_of_ble_eq_true rfl, Nat.le_of_ble_eq_true rfl⟩) hL (fun r_38 u_36 H locs k_37 hW hL => ?_)
            obtain ⟨eu_36, xu_36⟩ := k_37
            rw [eu_36] at hW
            refine sBi (sSt (As := [.int (iv r_38)]) (rest := []) Cx (x_X8_isLetter l G S (k := r_38) (by omega)) (c_X8_56 Cx rfl rfl (rmk_ok (by omega) (by decide))) hW rfl hl.1 rfl (Nat.le_of_ble_eq_true rfl) dX8_scanNumber_60 ⟨Nat.le_of_ble_eq_true rfl, Nat.le_of_ble_eq_true rfl⟩) hL (fun r_41 u_39 H locs k_40 hW hL => ?_)
            obtain ⟨eu_39, xu_39⟩ := k_40
            rw [eu_39] at hW
            refine r_if_eq (tgt := 70) hx hb ⟨(by omega), (by omega)⟩ dX8_scanNumber_63 (by decide) (fun c_42 => ?_) (fun c_42 => ?_)
            · refine lv_iconst (v := iv 0) hx hb dX8_scanNumber_70 (by decide) ?_
              refine lv_istore (lv' := [(5, .int (iv 0)), (4, .int (iv i)), (3, .int (iv v)), (0, .ref (G.2.2.1 + 12)), (1, .ref (G.2.2.1 + t)), (2, .int (iv i0))]) hx hb dX8_scanNumber_71 hl (by decide) rfl (fun ls hl => ?_)
              refine lv_aload_n hx hb dX8_scanNumber_73 rfl (lv_at hl 3 rfl) ?_
              refine lv_iload hx hb dX8_scanNumber_74 (lv_at hl 0 rfl) ?_
              refine r_if_eq (tgt := 83) hx hb ⟨(by omega), (by omega)⟩ dX8_scanNumber_76 (by decide) (fun _ => ?_) (fun c => absurd (by omega) c)
              refine lv_iconst (v := iv 3) hx hb dX8_scanNumber_83 (by decide) ?_
              refine lv_iload_n hx hb dX8_scanNumber_84 rfl (lv_at hl 5 rfl) ?_
              refine lv_iload_n hx hb dX8_scanNumber_85 rfl (lv_at hl 2 rfl) ?_
              refine r_i2l hx hb ⟨(by omega), (by omega)⟩ dX8_scanNumber_86 ?_
              have q_43 : 0 ≤ S.1 12 3 ∧ S.1 12 3 ≤ 2001 := hI.fi 12 3 8 (by decide) rfl
              refine sBv (sV (As := [.int (iv 3), .int (iv i0), .long (jv v)]) (rest := []) (k := 12) Cx (x_X8_token l G S (kk := 3) (sr := i0) (v := v) hI (by omega) (by omega) (by omega) (by omega)) (c_X8_49 Cx rfl rfl (rmk_ok (by omega) (by decide))) hW (by decide) rfl rfl rfl hl.1 rfl (Nat.le_of_ble_eq_true rfl) dX8_scanNumber_87 ⟨Nat.le_of_ble_eq_true rfl, Nat.le_of_ble_eq_true rfl⟩) hL (fun u_44 H locs k_45 hW hL => ?_)
              obtain ⟨iu_44, fu_44, xu_44⟩ := k_45
              have F_46 := (Fr.rf : Fr S S pQ).trans fu_44
              refine lv_iload hx hb dX8_scanNumber_90 (lv_at hl 1 rfl) ?_
              exact sIret Cx hr hlk hW hL ⟨iu_44, F_46, (by have q1 : eOf (S.2.1 (t + 1)) (S.1 t 1) i0 = i := (by unfold eOf; rw [if_neg hnl, if_pos hdg]; exact hend); have q2 : kOf (S.2.1 (t + 1)) (S.1 t 1) i0 = 3 := (by unfold kOf; rw [if_neg hnl, if_pos hdg, hend]; exact (if_pos ⟨(by omega), (fun z => xu_39.2.2 (by omega) (by rw [xu_36.1]; exact (lt_bt hB).mpr z))⟩)); exact ⟨q1.symm, v, (by rw [q2]; exact xu_44), fun h => (by unfold vOf; rw [if_neg hnl, if_pos hdg, hend]; exact hdv (by omega))⟩)⟩ dX8_scanNumber_92
            · refine lv_iconst (v := iv 1) hx hb dX8_scanNumber_66 (by decide) ?_
              refine lv_goto (tgt := 71) hx hb dX8_scanNumber_67 (by decide) ?_
              refine lv_istore (lv' := [(5, .int (iv 1)), (4, .int (iv i)), (3, .int (iv v)), (0, .ref (G.2.2.1 + 12)), (1, .ref (G.2.2.1 + t)), (2, .int (iv i0))]) hx hb dX8_scanNumber_71 hl (by decide) rfl (fun ls hl => ?_)
              refine lv_aload_n hx hb dX8_scanNumber_73 rfl (lv_at hl 3 rfl) ?_
              refine lv_iload hx hb dX8_scanNumber_74 (lv_at hl 0 rfl) ?_
              refine r_if_eq (tgt := 83) hx hb ⟨(by omega), (by omega)⟩ dX8_scanNumber_76 (by decide) (fun c => absurd c (by omega)) (fun _ => ?_)
              refine lv_iconst (v := iv 1) hx hb dX8_scanNumber_79 (by decide) ?_
              refine lv_goto (tgt := 84) hx hb dX8_scanNumber_80 (by decide) ?_
              refine lv_iload_n hx hb dX8_scanNumber_84 rfl (lv_at hl 5 rfl) ?_
              refine lv_iload_n hx hb dX8_scanNumber_85 rfl (lv_at hl 2 rfl) ?_
              refine r_i2l hx hb ⟨(by omega), (by omega)⟩ dX8_scanNumber_86 ?_
              have q_47 : 0 ≤ S.1 12 3 ∧ S.1 12 3 ≤ 2001 := hI.fi 12 3 8 (by decide) rfl
              refine sBv (sV (As := [.int (iv 1), .int (iv i0), .long (jv v)]) (rest := []) (k := 12) Cx (x_X8_token l G S (kk := 1) (sr := i0) (v := v) hI (by omega) (by omega) (by omega) (by omega)) (c_X8_49 Cx rfl rfl (rmk_ok (by omega) (by decide))) hW (by decide) rfl rfl rfl hl.1 rfl (Nat.le_of_ble_eq_true rfl) dX8_scanNumber_87 ⟨Nat.le_of_ble_eq_true rfl, Nat.le_of_ble_eq_true rfl⟩) hL (fun u_48 H locs k_49 hW hL => ?_)
              obtain ⟨iu_48, fu_48, xu_48⟩ := k_49
              have F_50 := (Fr.rf : Fr S S pQ).trans fu_48
              refine lv_iload hx hb dX8_scanNumber_90 (lv_at hl 1 rfl) ?_
              exact sIret Cx hr hlk hW hL ⟨iu_48, F_50, (by have q1 : eOf (S.2.1 (t + 1)) (S.1 t 1) i0 = i := (by unfold eOf; rw [if_neg hnl, if_pos hdg]; exact hend); have q2 : kOf (S.2.1 (t + 1)) (S.1 t 1) i0 = 1 := (by unfold kOf; rw [if_neg hnl, if_pos hdg, hend]; exact (if_neg (fun z => z.2 ((lt_bt hB).mp (by rw [← xu_36.1]; exact xu_39.2.1 (by omega)))))); exact ⟨q1.symm, v, (by rw [q2]; exact xu_48), fun h => (by unfold vOf; rw [if_neg hnl, if_pos hdg, hend]; exact hdv (absurd h (by rw [q2]; decide)))⟩)⟩ dX8_scanNumber_92
        · refine lv_bipush (v := iv 10) hx hb dX8_scanNumber_25 (by decide) ?_
          refine lv_iload_n hx hb dX8_scanNumber_27 rfl (lv_at hl 1 rfl) ?_
          refine r_imul hx hb dX8_scanNumber_28 ?_
          refine lv_aload_n hx hb dX8_scanNumber_29 rfl (lv_at hl 3 rfl) ?_
          refine lv_iload hx hb dX8_scanNumber_30 (lv_at hl 0 rfl) ?_
          refine sBi (sV (As := [.int (iv i)]) (rest := [.int (iv (10 * v))]) (k := t) Cx (s_X10_byteAt l G S (o := t) (k := i) (N := N) hI ht (by omega)) (c_X8_53 Cx rfl rfl (rmk_ok (by omega) (by decide))) hW (Nat.lt_trans ht.1 (by decide)) ht.2.1 rfl rfl hl.1 rfl (Nat.le_of_ble_eq_true rfl) dX8_scanNumber_32 ⟨Nat.le_of_ble_eq_true rfl, Nat.le_of_ble_eq_true rfl⟩) hL (fun r_53 u_51 H locs k_52 hW hL => ?_)
          obtain ⟨eu_51, xu_51⟩ := k_52
          rw [eu_51] at hW
          refine r_iadd hx hb dX8_scanNumber_35 ?_
          refine lv_bipush (v := iv 48) hx hb dX8_scanNumber_36 (by decide) ?_
          refine r_isub hx hb dX8_scanNumber_38 ?_
          obtain ⟨zv, ezv, hzv, kzv, fzv⟩ := iv_n (((10 * v) + r_53) - 48)
          rw [ezv]
          refine lv_istore_n (lv' := [(3, .int (iv zv)), (4, .int (iv i)), (0, .ref (G.2.2.1 + 12)), (1, .ref (G.2.2.1 + t)), (2, .int (iv i0))]) hx hb dX8_scanNumber_39 rfl hl (by decide) rfl (fun ls hl => ?_)
          refine lv_iinc (v := iv (i + 1)) (lv' := [(4, .int (iv (i + 1))), (3, .int (iv zv)), (0, .ref (G.2.2.1 + 12)), (1, .ref (G.2.2.1 + t)), (2, .int (iv i0))]) hx hb dX8_scanNumber_40 hl (k := 1) rfl ((Int32.ofInt_add _ _).symm) (by decide) rfl (fun ls hl => ?_)
          refine lv_goto (tgt := 5) hx hb dX8_scanNumber_43 (by decide) ?_
          exact ih_5 (i + 1) zv _ _ _ (by omega) (by have q2 : stD (S.2.1 (t + 1)) (S.1 t 1) i := (dg_bt hB).mp (by rw [← xu_24.1]; exact xu_27.2.1 (by omega)); have q3 := stD_lt q2; omega) (hen.trans (en_st stD_lt ((dg_bt hB).mp (by rw [← xu_24.1]; exact xu_27.2.1 (by omega))))) (by omega) (by have q2 : isDg r_26 := xu_27.2.1 (by omega); unfold isDg at q2; have q4 : r_53 = r_26 := xu_51.1.trans xu_24.1.symm; omega) (fun q => by have q1 := hdv (by omega); have q2 : isDg r_26 := xu_27.2.1 (by omega); unfold isDg at q2; have q3 := bt_B hB (i := i) (by rw [← xu_24.1]; omega); have q4 : r_53 = r_26 := xu_51.1.trans xu_24.1.symm; have q5 := xu_24.1; rw [dvn_s (by omega), ← q1]; have q6 := fzv (by omega) (by omega); omega) hW hL (lv_sub hl [0, 1, 2, 3, 4] rfl)
  exact loop_5 (_ + 1) i0 0 _ _ _ (Nat.lt_succ_self _) (by omega) rfl (by omega) (by omega) (fun _ => by rw [show (i0 - i0).toNat = 0 by omega]; rfl) hW hL (lv_sub hl [0, 1, 2, 3, 4] rfl)

set_option maxRecDepth 100000 in
set_option maxHeartbeats 4000000 in
theorem x_X8_scanName (l : Launch) (G : sG) (S : sS) {t N : Nat} {i0 : Int} (hI : cX G S 0 0 0) (ht : txt t N) (hi0 : 0 ≤ i0 ∧ i0 < (S.1 t 1) ∧ (S.1 t 1) ≤ 2000) (h3 : 0 ≤ S.1 12 3 ∧ S.1 12 3 ≤ 2000) (hlt : isLt (cb (S.2.1 (t + 1)) (S.1 t 1) i0)) : Met l yX8_scanName (.code yX8_scanName cX8_scanName 8 (some .int) :: tb) (rmk 3 0 0) (sPc G 294 S [.ref (G.2.2.1 + 12), .ref (G.2.2.1 + t), .int (iv i0)]) (sQi G 294 (fun r u => cX G u 0 0 0 ∧ Fr S u pQ ∧ (Hd (r = eOf (S.2.1 (t + 1)) (S.1 t 1) i0 ∧ tkB S u (kOf (S.2.1 (t + 1)) (S.1 t 1) i0) i0 (vOf (S.2.1 (t + 1)) (S.1 t 1) i0))))) 0 0 (sF G) := by
  refine sEnter (by decide) (Nat.le_of_ble_eq_true rfl) ?_
  intro p e s m args below meth c Cx hr hlk hnm hW ls hl
  have Cx : sC G p m c cX8_scanName 8 s args RX8 := Cx
  obtain ⟨hx, hb, hml, hown, hts⟩ := id Cx.1
  have hL : sL G [] := sL_nil
  have hl : lv_has ls 8 [(0, .ref (G.2.2.1 + 12)), (1, .ref (G.2.2.1 + t)), (2, .int (iv i0))] := hl
  have hW0 := hW
  have hN3 := ht.2.2.2.2.2
  have hB := fun j => txt_r ht hI j
  refine lv_lconst (v := jv 0) hx hb dX8_scanName_0 (by decide) ?_
  refine lv_lstore_n (lv' := [(3, .long (jv 0)), (0, .ref (G.2.2.1 + 12)), (1, .ref (G.2.2.1 + t)), (2, .int (iv i0))]) hx hb dX8_scanName_1 rfl hl (by decide) rfl (fun ls hl => ?_)
  refine lv_iload_n hx hb dX8_scanName_2 rfl (lv_at hl 3 rfl) ?_
  refine lv_istore (lv' := [(5, .int (iv i0)), (3, .long (jv 0)), (0, .ref (G.2.2.1 + 12)), (1, .ref (G.2.2.1 + t)), (2, .int (iv i0))]) hx hb dX8_scanName_3 hl (by decide) rfl (fun ls hl => ?_)
  have loop_5 : ∀ (fuel : Nat) (i : Int) (pk : Int) (H : Heap) (locs : List Loc) (ls : Array Slot), (2000 - i).toNat < fuel → (i0 ≤ i ∧ i ≤ (S.1 t 1)) → (en (S.1 t 1) (stN (S.2.1 (t + 1)) (S.1 t 1)) i0 = en (S.1 t 1) (stN (S.2.1 (t + 1)) (S.1 t 1)) i) → (-9223372036854775808 ≤ pk ∧ pk ≤ 9223372036854775807) → (Hd (i - i0 ≤ 8 → pk = pkn (S.2.1 (t + 1)) i0 (i - i0).toNat ∧ 0 ≤ pk ∧ 255 * pk + 122 ≤ 122 * 256 ^ (i - i0).toNat)) → sW G 294 S H → sL G locs → lv_has ls 8 [(5, .int (iv i)), (3, .long (jv pk)), (0, .ref (G.2.2.1 + 12)), (1, .ref (G.2.2.1 + t)), (2, .int (iv i0))] → W p l e (rmk 3 0 0) s m args below meth c H locs 0 0 (MQ below (sQi G 294 (fun r u => cX G u 0 0 0 ∧ Fr S u pQ ∧ (Hd (r = eOf (S.2.1 (t + 1)) (S.1 t 1) i0 ∧ tkB S u (kOf (S.2.1 (t + 1)) (S.1 t 1) i0) i0 (vOf (S.2.1 (t + 1)) (S.1 t 1) i0))))) args s 0 0 (sF G)) (F0 m 5 ls []) := by
    intro fuel
    induction fuel with
    | zero => intro i pk H locs ls hmeas hi hen hp hpk hW hL hl; exact absurd hmeas (Nat.not_lt_zero _)
    | succ fuel ih_5 =>
      intro i pk H locs ls hmeas hi hen hp hpk hW hL hl
      refine lv_iload hx hb dX8_scanName_5 (lv_at hl 0 rfl) ?_
      refine lv_sipush (v := iv 2000) hx hb dX8_scanName_7 (by decide) ?_
      refine r_icmp_ge (tgt := 44) hx hb ⟨(by omega), (by omega)⟩ ⟨(by omega), (by omega)⟩ dX8_scanName_10 (by decide) (fun c_1 => ?_) (fun c_1 => ?_)
      · have hend : en (S.1 t 1) (stN (S.2.1 (t + 1)) (S.1 t 1)) i0 = i := hen.trans (en_no (fun z => absurd (stN_lt z) (by omega)))
        refine lv_iload hx hb dX8_scanName_44 (lv_at hl 0 rfl) ?_
        refine lv_iload_n hx hb dX8_scanName_46 rfl (lv_at hl 4 rfl) ?_
        refine r_isub hx hb dX8_scanName_47 ?_
        refine lv_bipush (v := iv 8) hx hb dX8_scanName_48 (by decide) ?_
        refine r_icmp_le (tgt := 57) hx hb ⟨(by omega), (by omega)⟩ ⟨(by omega), (by omega)⟩ dX8_scanName_50 (by decide) (fun c_2 => ?_) (fun c_2 => ?_)
        · refine lv_iconst (v := iv 2) hx hb dX8_scanName_57 (by decide) ?_
          refine lv_istore (lv' := [(6, .int (iv 2)), (5, .int (iv i)), (3, .long (jv pk)), (0, .ref (G.2.2.1 + 12)), (1, .ref (G.2.2.1 + t)), (2, .int (iv i0))]) hx hb dX8_scanName_58 hl (by decide) rfl (fun ls hl => ?_)
          refine lv_iconst (v := iv 0) hx hb dX8_scanName_60 (by decide) ?_
          refine lv_istore (lv' := [(7, .int (iv 0)), (6, .int (iv 2)), (5, .int (iv i)), (3, .long (jv pk)), (0, .ref (G.2.2.1 + 12)), (1, .ref (G.2.2.1 + t)), (2, .int (iv i0))]) hx hb dX8_scanName_61 hl (by decide) rfl (fun ls hl => ?_)
          have loop_63 : ∀ (fuel : Nat) (wd : Int) (kn : Int) (H : Heap) (locs : List Loc) (ls : Array Slot), (9 - wd).toNat < fuel → (0 ≤ wd ∧ wd ≤ 9) → (1 ≤ kn ∧ kn ≤ 12) → (Hd (8 < i - i0 → kn = 1) ∧ Hd (i - i0 ≤ 8 → WP wd pk kn)) → sW G 294 S H → sL G locs → lv_has ls 8 [(7, .int (iv wd)), (6, .int (iv kn)), (5, .int (iv i)), (3, .long (jv pk)), (0, .ref (G.2.2.1 + 12)), (1, .ref (G.2.2.1 + t)), (2, .int (iv i0))] → W p l e (rmk 3 0 0) s m args below meth c H locs 0 0 (MQ below (sQi G 294 (fun r u => cX G u 0 0 0 ∧ Fr S u pQ ∧ (Hd (r = eOf (S.2.1 (t + 1)) (S.1 t 1) i0 ∧ tkB S u (kOf (S.2.1 (t + 1)) (S.1 t 1) i0) i0 (vOf (S.2.1 (t + 1)) (S.1 t 1) i0))))) args s 0 0 (sF G)) (F0 m 63 ls []) := by
            intro fuel
            induction fuel with
            | zero => intro wd kn H locs ls hmeas hw hkr hkn hW hL hl; exact absurd hmeas (Nat.not_lt_zero _)
            | succ fuel ih_63 =>
              intro wd kn H locs ls hmeas hw hkr hkn hW hL hl
              refine lv_iload hx hb dX8_scanName_63 (lv_at hl 0 rfl) ?_
              refine zWords Cx hW0 hW hL w_800 dX8_scanName_65 ?_
              refine zWlen Cx hW0 hW hL dX8_scanName_68 ?_
              refine r_icmp_ge (tgt := 101) hx hb ⟨(by omega), (by omega)⟩ ⟨(by omega), (by omega)⟩ dX8_scanName_69 (by decide) (fun c_3 => ?_) (fun c_3 => ?_)
              · refine lv_aload_n hx hb dX8_scanName_101 rfl (lv_at hl 4 rfl) ?_
                refine lv_iload hx hb dX8_scanName_102 (lv_at hl 1 rfl) ?_
                refine lv_iload_n hx hb dX8_scanName_104 rfl (lv_at hl 6 rfl) ?_
                refine lv_lload_n hx hb dX8_scanName_105 rfl (lv_at hl 3 rfl) ?_
                have q_4 : 0 ≤ S.1 12 3 ∧ S.1 12 3 ≤ 2001 := hI.fi 12 3 8 (by decide) rfl
                refine sBv (sV (As := [.int (iv kn), .int (iv i0), .long (jv pk)]) (rest := []) (k := 12) Cx (x_X8_token l G S (kk := kn) (sr := i0) (v := pk) hI (by omega) (by omega) (by omega) (by omega)) (c_X8_49 Cx rfl rfl (rmk_ok (by omega) (by decide))) hW (by decide) rfl rfl rfl hl.1 rfl (Nat.le_of_ble_eq_true rfl) dX8_scanName_106 ⟨Nat.le_of_ble_eq_true rfl, Nat.le_of_ble_eq_true rfl⟩) hL (fun u_5 H locs k_6 hW hL => ?_)
                obtain ⟨iu_5, fu_5, xu_5⟩ := k_6
                have F_7 := (Fr.rf : Fr S S pQ).trans fu_5
                refine lv_iload hx hb dX8_scanName_109 (lv_at hl 2 rfl) ?_
                exact sIret Cx hr hlk hW hL ⟨iu_5, F_7, (by have q1 : eOf (S.2.1 (t + 1)) (S.1 t 1) i0 = i := (by unfold eOf; rw [if_pos hlt]; exact hend); have q2 : kOf (S.2.1 (t + 1)) (S.1 t 1) i0 = kn := (by unfold kOf; rw [if_pos hlt, hend]; by_cases q : i - i0 ≤ 8; (rw [if_pos q]; have q3 := hkn.2 q; rw [show wd = 9 by omega, (hpk q).1] at q3; exact q3.fin.symm); (rw [if_neg q]; exact (hkn.1 (by omega)).symm)); exact ⟨q1.symm, pk, (by rw [q2]; exact xu_5), fun h => (by unfold vOf; rw [if_pos hlt, hend]; by_cases q : i - i0 ≤ 8; (exact (hpk q).1); (exact absurd h (by rw [q2, hkn.1 (by omega)]; decide)))⟩)⟩ dX8_scanName_111
              · refine lv_iload hx hb dX8_scanName_72 (lv_at hl 1 rfl) ?_
                refine lv_iconst (v := iv 2) hx hb dX8_scanName_74 (by decide) ?_
                refine r_icmp_ne (tgt := 95) hx hb ⟨(by omega), (by omega)⟩ ⟨(by omega), (by omega)⟩ dX8_scanName_75 (by decide) (fun c_8 => ?_) (fun c_8 => ?_)
                · refine lv_iinc (v := iv (wd + 1)) (lv' := [(7, .int (iv (wd + 1))), (6, .int (iv kn)), (5, .int (iv i)), (3, .long (jv pk)), (0, .ref (G.2.2.1 + 12)), (1, .ref (G.2.2.1 + t)), (2, .int (iv i0))]) hx hb dX8_scanName_95 hl (k := 0) rfl ((Int32.ofInt_add _ _).symm) (by decide) rfl (fun ls hl => ?_)
                  refine lv_goto (tgt := 63) hx hb dX8_scanName_98 (by decide) ?_
                  exact ih_63 (wd + 1) kn _ _ _ (by omega) (by omega) (by omega) ⟨(fun h => hkn.1 h), (fun h => (hkn.2 h).no (fun q => absurd q (by omega)))⟩ hW hL (lv_sub hl [0, 1, 2, 3, 4, 5, 6] rfl)
                · refine lv_lload_n hx hb dX8_scanName_78 rfl (lv_at hl 3 rfl) ?_
                  refine zWords Cx hW0 hW hL w_800 dX8_scanName_79 ?_
                  refine lv_iload hx hb dX8_scanName_82 (lv_at hl 0 rfl) ?_
                  refine zWatE Cx hW0 hW hL ⟨(by omega), (by omega)⟩ dX8_scanName_84 (fun z_9 hz_9 kz_9 ez_9 => ?_)
                  refine r_lcmp hx hb ⟨(by omega), (by omega)⟩ ⟨(by omega), (by omega)⟩ dX8_scanName_85 (fun z_10 az_10 bz_10 cz_10 => ?_)
                  refine r_if_ne (tgt := 95) hx hb ⟨(by omega), (by omega)⟩ dX8_scanName_86 (by decide) (fun c_11 => ?_) (fun c_11 => ?_)
                  · refine lv_iinc (v := iv (wd + 1)) (lv' := [(7, .int (iv (wd + 1))), (6, .int (iv kn)), (5, .int (iv i)), (3, .long (jv pk)), (0, .ref (G.2.2.1 + 12)), (1, .ref (G.2.2.1 + t)), (2, .int (iv i0))]) hx hb dX8_scanName_95 hl (k := 0) rfl ((Int32.ofInt_add _ _).symm) (by decide) rfl (fun ls hl => ?_)
                    refine lv_goto (tgt := 63) hx hb dX8_scanName_98 (by decide) ?_
                    exact ih_63 (wd + 1) kn _ _ _ (by omega) (by omega) (by omega) ⟨(fun h => hkn.1 h), (fun h => (hkn.2 h).no (fun q e => by have a1 := bz_10 (by omega); omega))⟩ hW hL (lv_sub hl [0, 1, 2, 3, 4, 5, 6] rfl)
                  · refine lv_iconst (v := iv 4) hx hb dX8_scanName_89 (by decide) ?_
                    refine lv_iload hx hb dX8_scanName_90 (lv_at hl 0 rfl) ?_
                    refine r_iadd hx hb dX8_scanName_92 ?_
                    refine lv_istore (lv' := [(6, .int (iv (4 + wd))), (7, .int (iv wd)), (5, .int (iv i)), (3, .long (jv pk)), (0, .ref (G.2.2.1 + 12)), (1, .ref (G.2.2.1 + t)), (2, .int (iv i0))]) hx hb dX8_scanName_93 hl (by decide) rfl (fun ls hl => ?_)
                    refine lv_iinc (v := iv (wd + 1)) (lv' := [(7, .int (iv (wd + 1))), (6, .int (iv (4 + wd))), (5, .int (iv i)), (3, .long (jv pk)), (0, .ref (G.2.2.1 + 12)), (1, .ref (G.2.2.1 + t)), (2, .int (iv i0))]) hx hb dX8_scanName_95 hl (k := 1) rfl ((Int32.ofInt_add _ _).symm) (by decide) rfl (fun ls hl => ?_)
                    refine lv_goto (tgt := 63) hx hb dX8_scanName_98 (by decide) ?_
                    exact ih_63 (wd + 1) (4 + wd) _ _ _ (by omega) (by omega) (by omega) ⟨(fun h => by have := hkn.1 h; omega), (fun h => (hkn.2 h).yes (by omega) (by omega) (by have a1 := az_10; have a2 := cz_10; omega))⟩ hW hL (lv_sub hl [0, 1, 2, 3, 4, 5, 6] rfl)
          exact loop_63 (_ + 1) 0 2 _ _ _ (Nat.lt_succ_self _) (by omega) (by omega) ⟨(fun h => absurd h (by omega)), (fun _ => .inl ⟨rfl, fun j a b => absurd b (by omega)⟩)⟩ hW hL (lv_sub hl [0, 1, 2, 3, 4, 5, 6] rfl)
        · refine lv_iconst (v := iv 1) hx hb dX8_scanName_53 (by decide) ?_
          refine lv_goto (tgt := 58) hx hb dX8_scanName_54 (by decide) ?_
          refine lv_istore (lv' := [(6, .int (iv 1)), (5, .int (iv i)), (3, .long (jv pk)), (0, .ref (G.2.2.1 + 12)), (1, .ref (G.2.2.1 + t)), (2, .int (iv i0))]) hx hb dX8_scanName_58 hl (by decide) rfl (fun ls hl => ?_)
          refine lv_iconst (v := iv 0) hx hb dX8_scanName_60 (by decide) ?_
          refine lv_istore (lv' := [(7, .int (iv 0)), (6, .int (iv 1)), (5, .int (iv i)), (3, .long (jv pk)), (0, .ref (G.2.2.1 + 12)), (1, .ref (G.2.2.1 + t)), (2, .int (iv i0))]) hx hb dX8_scanName_61 hl (by decide) rfl (fun ls hl => ?_)
          have loop_63 : ∀ (fuel : Nat) (wd : Int) (kn : Int) (H : Heap) (locs : List Loc) (ls : Array Slot), (9 - wd).toNat < fuel → (0 ≤ wd ∧ wd ≤ 9) → (1 ≤ kn ∧ kn ≤ 12) → (Hd (8 < i - i0 → kn = 1) ∧ Hd (i - i0 ≤ 8 → WP wd pk kn)) → sW G 294 S H → sL G locs → lv_has ls 8 [(7, .int (iv wd)), (6, .int (iv kn)), (5, .int (iv i)), (3, .long (jv pk)), (0, .ref (G.2.2.1 + 12)), (1, .ref (G.2.2.1 + t)), (2, .int (iv i0))] → W p l e (rmk 3 0 0) s m args below meth c H locs 0 0 (MQ below (sQi G 294 (fun r u => cX G u 0 0 0 ∧ Fr S u pQ ∧ (Hd (r = eOf (S.2.1 (t + 1)) (S.1 t 1) i0 ∧ tkB S u (kOf (S.2.1 (t + 1)) (S.1 t 1) i0) i0 (vOf (S.2.1 (t + 1)) (S.1 t 1) i0))))) args s 0 0 (sF G)) (F0 m 63 ls []) := by
            intro fuel
            induction fuel with
            | zero => intro wd kn H locs ls hmeas hw hkr hkn hW hL hl; exact absurd hmeas (Nat.not_lt_zero _)
            | succ fuel ih_63 =>
              intro wd kn H locs ls hmeas hw hkr hkn hW hL hl
              refine lv_iload hx hb dX8_scanName_63 (lv_at hl 0 rfl) ?_
              refine zWords Cx hW0 hW hL w_800 dX8_scanName_65 ?_
              refine zWlen Cx hW0 hW hL dX8_scanName_68 ?_
              refine r_icmp_ge (tgt := 101) hx hb ⟨(by omega), (by omega)⟩ ⟨(by omega), (by omega)⟩ dX8_scanName_69 (by decide) (fun c_12 => ?_) (fun c_12 => ?_)
              · refine lv_aload_n hx hb dX8_scanName_101 rfl (lv_at hl 4 rfl) ?_
                refine lv_iload hx hb dX8_scanName_102 (lv_at hl 1 rfl) ?_
                refine lv_iload_n hx hb dX8_scanName_104 rfl (lv_at hl 6 rfl) ?_
                refine lv_lload_n hx hb dX8_scanName_105 rfl (lv_at hl 3 rfl) ?_
                have q_13 : 0 ≤ S.1 12 3 ∧ S.1 12 3 ≤ 2001 := hI.fi 12 3 8 (by decide) rfl
                refine sBv (sV (As := [.int (iv kn), .int (iv i0), .long (jv pk)]) (rest := []) (k := 12) Cx (x_X8_token l G S (kk := kn) (sr := i0) (v := pk) hI (by omega) (by omega) (by omega) (by omega)) (c_X8_49 Cx rfl rfl (rmk_ok (by omega) (by decide))) hW (by decide) rfl rfl rfl hl.1 rfl (Nat.le_of_ble_eq_true rfl) dX8_scanName_106 ⟨Nat.le_of_ble_eq_true rfl, Nat.le_of_ble_eq_true rfl⟩) hL (fun u_14 H locs k_15 hW hL => ?_)
                obtain ⟨iu_14, fu_14, xu_14⟩ := k_15
                have F_16 := (Fr.rf : Fr S S pQ).trans fu_14
                refine lv_iload hx hb dX8_scanName_109 (lv_at hl 2 rfl) ?_
                exact sIret Cx hr hlk hW hL ⟨iu_14, F_16, (by have q1 : eOf (S.2.1 (t + 1)) (S.1 t 1) i0 = i := (by unfold eOf; rw [if_pos hlt]; exact hend); have q2 : kOf (S.2.1 (t + 1)) (S.1 t 1) i0 = kn := (by unfold kOf; rw [if_pos hlt, hend]; by_cases q : i - i0 ≤ 8; (rw [if_pos q]; have q3 := hkn.2 q; rw [show wd = 9 by omega, (hpk q).1] at q3; exact q3.fin.symm); (rw [if_neg q]; exact (hkn.1 (by omega)).symm)); exact ⟨q1.symm, pk, (by rw [q2]; exact xu_14), fun h => (by unfold vOf; rw [if_pos hlt, hend]; by_cases q : i - i0 ≤ 8; (exact (hpk q).1); (exact absurd h (by rw [q2, hkn.1 (by omega)]; decide)))⟩)⟩ dX8_scanName_111
              · refine lv_iload hx hb dX8_scanName_72 (lv_at hl 1 rfl) ?_
                refine lv_iconst (v := iv 2) hx hb dX8_scanName_74 (by decide) ?_
                refine r_icmp_ne (tgt := 95) hx hb ⟨(by omega), (by omega)⟩ ⟨(by omega), (by omega)⟩ dX8_scanName_75 (by decide) (fun c_17 => ?_) (fun c_17 => ?_)
                · refine lv_iinc (v := iv (wd + 1)) (lv' := [(7, .int (iv (wd + 1))), (6, .int (iv kn)), (5, .int (iv i)), (3, .long (jv pk)), (0, .ref (G.2.2.1 + 12)), (1, .ref (G.2.2.1 + t)), (2, .int (iv i0))]) hx hb dX8_scanName_95 hl (k := 0) rfl ((Int32.ofInt_add _ _).symm) (by decide) rfl (fun ls hl => ?_)
                  refine lv_goto (tgt := 63) hx hb dX8_scanName_98 (by decide) ?_
                  exact ih_63 (wd + 1) kn _ _ _ (by omega) (by omega) (by omega) ⟨(fun h => hkn.1 h), (fun h => (hkn.2 h).no (fun q => absurd q (by omega)))⟩ hW hL (lv_sub hl [0, 1, 2, 3, 4, 5, 6] rfl)
                · refine lv_lload_n hx hb dX8_scanName_78 rfl (lv_at hl 3 rfl) ?_
                  refine zWords Cx hW0 hW hL w_800 dX8_scanName_79 ?_
                  refine lv_iload hx hb dX8_scanName_82 (lv_at hl 0 rfl) ?_
                  refine zWatE Cx hW0 hW hL ⟨(by omega), (by omega)⟩ dX8_scanName_84 (fun z_18 hz_18 kz_18 ez_18 => ?_)
                  refine r_lcmp hx hb ⟨(by omega), (by omega)⟩ ⟨(by omega), (by omega)⟩ dX8_scanName_85 (fun z_19 az_19 bz_19 cz_19 => ?_)
                  refine r_if_ne (tgt := 95) hx hb ⟨(by omega), (by omega)⟩ dX8_scanName_86 (by decide) (fun c_20 => ?_) (fun c_20 => ?_)
                  · refine lv_iinc (v := iv (wd + 1)) (lv' := [(7, .int (iv (wd + 1))), (6, .int (iv kn)), (5, .int (iv i)), (3, .long (jv pk)), (0, .ref (G.2.2.1 + 12)), (1, .ref (G.2.2.1 + t)), (2, .int (iv i0))]) hx hb dX8_scanName_95 hl (k := 0) rfl ((Int32.ofInt_add _ _).symm) (by decide) rfl (fun ls hl => ?_)
                    refine lv_goto (tgt := 63) hx hb dX8_scanName_98 (by decide) ?_
                    exact ih_63 (wd + 1) kn _ _ _ (by omega) (by omega) (by omega) ⟨(fun h => hkn.1 h), (fun h => (hkn.2 h).no (fun q e => by have a1 := bz_19 (by omega); omega))⟩ hW hL (lv_sub hl [0, 1, 2, 3, 4, 5, 6] rfl)
                  · refine lv_iconst (v := iv 4) hx hb dX8_scanName_89 (by decide) ?_
                    refine lv_iload hx hb dX8_scanName_90 (lv_at hl 0 rfl) ?_
                    refine r_iadd hx hb dX8_scanName_92 ?_
                    refine lv_istore (lv' := [(6, .int (iv (4 + wd))), (7, .int (iv wd)), (5, .int (iv i)), (3, .long (jv pk)), (0, .ref (G.2.2.1 + 12)), (1, .ref (G.2.2.1 + t)), (2, .int (iv i0))]) hx hb dX8_scanName_93 hl (by decide) rfl (fun ls hl => ?_)
                    refine lv_iinc (v := iv (wd + 1)) (lv' := [(7, .int (iv (wd + 1))), (6, .int (iv (4 + wd))), (5, .int (iv i)), (3, .long (jv pk)), (0, .ref (G.2.2.1 + 12)), (1, .ref (G.2.2.1 + t)), (2, .int (iv i0))]) hx hb dX8_scanName_95 hl (k := 1) rfl ((Int32.ofInt_add _ _).symm) (by decide) rfl (fun ls hl => ?_)
                    refine lv_goto (tgt := 63) hx hb dX8_scanName_98 (by decide) ?_
                    exact ih_63 (wd + 1) (4 + wd) _ _ _ (by omega) (by omega) (by omega) ⟨(fun h => by have := hkn.1 h; omega), (fun h => (hkn.2 h).yes (by omega) (by omega) (by have a1 := az_19; have a2 := cz_19; omega))⟩ hW hL (lv_sub hl [0, 1, 2, 3, 4, 5, 6] rfl)
          exact loop_63 (_ + 1) 0 1 _ _ _ (Nat.lt_succ_self _) (by omega) (by omega) ⟨(fun _ => rfl), (fun h => absurd h (by omega))⟩ hW hL (lv_sub hl [0, 1, 2, 3, 4, 5, 6] rfl)
      · refine lv_aload_n hx hb dX8_scanName_13 rfl (lv_at hl 3 rfl) ?_
        refine lv_iload hx hb dX8_scanName_14 (lv_at hl 0 rfl) ?_
        have q_21 : 0 ≤ S.1 t 1 ∧ S.1 t 1 ≤ (N : Int) := txt_len ht hI
        refine sBi (sV (As := [.int (iv i)]) (rest := []) (k := t) Cx (s_X10_byteAt l G S (o := t) (k := i) (N := N) hI ht (by omega)) (c_X8_53 Cx rfl rfl (rmk_ok (by omega) (by decide))) hW (Nat.lt_trans ht.1 (by decide)) ht.2.1 rfl rfl hl.1 rfl (Nat.le_of_ble_eq_true rfl) dX8_scanName_16 ⟨Nat.le_of_ble_eq_true rfl, Nat.le_of_ble_eq_true rfl⟩) hL (fun r_24 u_22 H locs k_23 hW hL => ?_)
        obtain ⟨eu_22, xu_22⟩ := k_23
        rw [eu_22] at hW
        refine sBi (sSt (As := [.int (iv r_24)]) (rest := []) Cx (x_X8_isNamePart l G S (k := r_24) (by omega)) (c_X8_76 Cx rfl rfl (rmk_ok (by omega) (by decide))) hW rfl hl.1 rfl (Nat.le_of_ble_eq_true rfl) dX8_scanName_19 ⟨Nat.le_of_ble_eq_true rfl, Nat.le_of_ble_eq_true rfl⟩) hL (fun r_27 u_25 H locs k_26 hW hL => ?_)
        obtain ⟨eu_25, xu_25⟩ := k_26
        rw [eu_25] at hW
        refine r_if_eq (tgt := 44) hx hb ⟨(by omega), (by omega)⟩ dX8_scanName_22 (by decide) (fun c_28 => ?_) (fun c_28 => ?_)
        · have hend : en (S.1 t 1) (stN (S.2.1 (t + 1)) (S.1 t 1)) i0 = i := hen.trans (en_no (fun z => xu_25.2.2 (by omega) (by have z : isLt _ ∨ isDg _ := z; rw [xu_22.1, lt_bt hB, dg_bt hB]; exact z)))
          refine lv_iload hx hb dX8_scanName_44 (lv_at hl 0 rfl) ?_
          refine lv_iload_n hx hb dX8_scanName_46 rfl (lv_at hl 4 rfl) ?_
          refine r_isub hx hb dX8_scanName_47 ?_
          refine lv_bipush (v := iv 8) hx hb dX8_scanName_48 (by decide) ?_
          refine r_icmp_le (tgt := 57) hx hb ⟨(by omega), (by omega)⟩ ⟨(by omega), (by omega)⟩ dX8_scanName_50 (by decide) (fun c_29 => ?_) (fun c_29 => ?_)
          · refine lv_iconst (v := iv 2) hx hb dX8_scanName_57 (by decide) ?_
            refine lv_istore (lv' := [(6, .int (iv 2)), (5, .int (iv i)), (3, .long (jv pk)), (0, .ref (G.2.2.1 + 12)), (1, .ref (G.2.2.1 + t)), (2, .int (iv i0))]) hx hb dX8_scanName_58 hl (by decide) rfl (fun ls hl => ?_)
            refine lv_iconst (v := iv 0) hx hb dX8_scanName_60 (by decide) ?_
            refine lv_istore (lv' := [(7, .int (iv 0)), (6, .int (iv 2)), (5, .int (iv i)), (3, .long (jv pk)), (0, .ref (G.2.2.1 + 12)), (1, .ref (G.2.2.1 + t)), (2, .int (iv i0))]) hx hb dX8_scanName_61 hl (by decide) rfl (fun ls hl => ?_)
            have loop_63 : ∀ (fuel : Nat) (wd : Int) (kn : Int) (H : Heap) (locs : List Loc) (ls : Array Slot), (9 - wd).toNat < fuel → (0 ≤ wd ∧ wd ≤ 9) → (1 ≤ kn ∧ kn ≤ 12) → (Hd (8 < i - i0 → kn = 1) ∧ Hd (i - i0 ≤ 8 → WP wd pk kn)) → sW G 294 S H → sL G locs → lv_has ls 8 [(7, .int (iv wd)), (6, .int (iv kn)), (5, .int (iv i)), (3, .long (jv pk)), (0, .ref (G.2.2.1 + 12)), (1, .ref (G.2.2.1 + t)), (2, .int (iv i0))] → W p l e (rmk 3 0 0) s m args below meth c H locs 0 0 (MQ below (sQi G 294 (fun r u => cX G u 0 0 0 ∧ Fr S u pQ ∧ (Hd (r = eOf (S.2.1 (t + 1)) (S.1 t 1) i0 ∧ tkB S u (kOf (S.2.1 (t + 1)) (S.1 t 1) i0) i0 (vOf (S.2.1 (t + 1)) (S.1 t 1) i0))))) args s 0 0 (sF G)) (F0 m 63 ls []) := by
              intro fuel
              induction fuel with
              | zero => intro wd kn H locs ls hmeas hw hkr hkn hW hL hl; exact absurd hmeas (Nat.not_lt_zero _)
              | succ fuel ih_63 =>
                intro wd kn H locs ls hmeas hw hkr hkn hW hL hl
                refine lv_iload hx hb dX8_scanName_63 (lv_at hl 0 rfl) ?_
                refine zWords Cx hW0 hW hL w_800 dX8_scanName_65 ?_
                refine zWlen Cx hW0 hW hL dX8_scanName_68 ?_
                refine r_icmp_ge (tgt := 101) hx hb ⟨(by omega), (by omega)⟩ ⟨(by omega), (by omega)⟩ dX8_scanName_69 (by decide) (fun c_30 => ?_) (fun c_30 => ?_)
                · refine lv_aload_n hx hb dX8_scanName_101 rfl (lv_at hl 4 rfl) ?_
                  refine lv_iload hx hb dX8_scanName_102 (lv_at hl 1 rfl) ?_
                  refine lv_iload_n hx hb dX8_scanName_104 rfl (lv_at hl 6 rfl) ?_
                  refine lv_lload_n hx hb dX8_scanName_105 rfl (lv_at hl 3 rfl) ?_
                  have q_31 : 0 ≤ S.1 12 3 ∧ S.1 12 3 ≤ 2001 := hI.fi 12 3 8 (by decide) rfl
                  refine sBv (sV (As := [.int (iv kn), .int (iv i0), .long (jv pk)]) (rest := []) (k := 12) Cx (x_X8_token l G S (kk := kn) (sr := i0) (v := pk) hI (by omega) (by omega) (by omega) (by omega)) (c_X8_49 Cx rfl rfl (rmk_ok (by omega) (by decide))) hW (by decide) rfl rfl rfl hl.1 rfl (Nat.le_of_ble_eq_true rfl) dX8_scanName_106 ⟨Nat.le_of_ble_eq_true rfl, Nat.le_of_ble_eq_true rfl⟩) hL (fun u_32 H locs k_33 hW hL => ?_)
                  obtain ⟨iu_32, fu_32, xu_32⟩ := k_33
                  have F_34 := (Fr.rf : Fr S S pQ).trans fu_32
                  refine lv_iload hx hb dX8_scanName_109 (lv_at hl 2 rfl) ?_
                  exact sIret Cx hr hlk hW hL ⟨iu_32, F_34, (by have q1 : eOf (S.2.1 (t + 1)) (S.1 t 1) i0 = i := (by unfold eOf; rw [if_pos hlt]; exact hend); have q2 : kOf (S.2.1 (t + 1)) (S.1 t 1) i0 = kn := (by unfold kOf; rw [if_pos hlt, hend]; by_cases q : i - i0 ≤ 8; (rw [if_pos q]; have q3 := hkn.2 q; rw [show wd = 9 by omega, (hpk q).1] at q3; exact q3.fin.symm); (rw [if_neg q]; exact (hkn.1 (by omega)).symm)); exact ⟨q1.symm, pk, (by rw [q2]; exact xu_32), fun h => (by unfold vOf; rw [if_pos hlt, hend]; by_cases q : i - i0 ≤ 8; (exact (hpk q).1); (exact absurd h (by rw [q2, hkn.1 (by omega)]; decide)))⟩)⟩ dX8_scanName_111
                · refine lv_iload hx hb dX8_scanName_72 (lv_at hl 1 rfl) ?_
                  refine lv_iconst (v := iv 2) hx hb dX8_scanName_74 (by decide) ?_
                  refine r_icmp_ne (tgt := 95) hx hb ⟨(by omega), (by omega)⟩ ⟨(by omega), (by omega)⟩ dX8_scanName_75 (by decide) (fun c_35 => ?_) (fun c_35 => ?_)
                  · refine lv_iinc (v := iv (wd + 1)) (lv' := [(7, .int (iv (wd + 1))), (6, .int (iv kn)), (5, .int (iv i)), (3, .long (jv pk)), (0, .ref (G.2.2.1 + 12)), (1, .ref (G.2.2.1 + t)), (2, .int (iv i0))]) hx hb dX8_scanName_95 hl (k := 0) rfl ((Int32.ofInt_add _ _).symm) (by decide) rfl (fun ls hl => ?_)
                    refine lv_goto (tgt := 63) hx hb dX8_scanName_98 (by decide) ?_
                    exact ih_63 (wd + 1) kn _ _ _ (by omega) (by omega) (by omega) ⟨(fun h => hkn.1 h), (fun h => (hkn.2 h).no (fun q => absurd q (by omega)))⟩ hW hL (lv_sub hl [0, 1, 2, 3, 4, 5, 6] rfl)
                  · refine lv_lload_n hx hb dX8_scanName_78 rfl (lv_at hl 3 rfl) ?_
                    refine zWords Cx hW0 hW hL w_800 dX8_scanName_79 ?_
                    refine lv_iload hx hb dX8_scanName_82 (lv_at hl 0 rfl) ?_
                    refine zWatE Cx hW0 hW hL ⟨(by omega), (by omega)⟩ dX8_scanName_84 (fun z_36 hz_36 kz_36 ez_36 => ?_)
                    refine r_lcmp hx hb ⟨(by omega), (by omega)⟩ ⟨(by omega), (by omega)⟩ dX8_scanName_85 (fun z_37 az_37 bz_37 cz_37 => ?_)
                    refine r_if_ne (tgt := 95) hx hb ⟨(by omega), (by omega)⟩ dX8_scanName_86 (by decide) (fun c_38 => ?_) (fun c_38 => ?_)
                    · refine lv_iinc (v := iv (wd + 1)) (lv' := [(7, .int (iv (wd + 1))), (6, .int (iv kn)), (5, .int (iv i)), (3, .long (jv pk)), (0, .ref (G.2.2.1 + 12)), (1, .ref (G.2.2.1 + t)), (2, .int (iv i0))]) hx hb dX8_scanName_95 hl (k := 0) rfl ((Int32.ofInt_add _ _).symm) (by decide) rfl (fun ls hl => ?_)
                      refine lv_goto (tgt := 63) hx hb dX8_scanName_98 (by decide) ?_
                      exact ih_63 (wd + 1) kn _ _ _ (by omega) (by omega) (by omega) ⟨(fun h => hkn.1 h), (fun h => (hkn.2 h).no (fun q e => by have a1 := bz_37 (by omega); omega))⟩ hW hL (lv_sub hl [0, 1, 2, 3, 4, 5, 6] rfl)
                    · refine lv_iconst (v := iv 4) hx hb dX8_scanName_89 (by decide) ?_
                      refine lv_iload hx hb dX8_scanName_90 (lv_at hl 0 rfl) ?_
                      refine r_iadd hx hb dX8_scanName_92 ?_
                      refine lv_istore (lv' := [(6, .int (iv (4 + wd))), (7, .int (iv wd)), (5, .int (iv i)), (3, .long (jv pk)), (0, .ref (G.2.2.1 + 12)), (1, .ref (G.2.2.1 + t)), (2, .int (iv i0))]) hx hb dX8_scanName_93 hl (by decide) rfl (fun ls hl => ?_)
                      refine lv_iinc (v := iv (wd + 1)) (lv' := [(7, .int (iv (wd + 1))), (6, .int (iv (4 + wd))), (5, .int (iv i)), (3, .long (jv pk)), (0, .ref (G.2.2.1 + 12)), (1, .ref (G.2.2.1 + t)), (2, .int (iv i0))]) hx hb dX8_scanName_95 hl (k := 1) rfl ((Int32.ofInt_add _ _).symm) (by decide) rfl (fun ls hl => ?_)
                      refine lv_goto (tgt := 63) hx hb dX8_scanName_98 (by decide) ?_
                      exact ih_63 (wd + 1) (4 + wd) _ _ _ (by omega) (by omega) (by omega) ⟨(fun h => by have := hkn.1 h; omega), (fun h => (hkn.2 h).yes (by omega) (by omega) (by have a1 := az_37; have a2 := cz_37; omega))⟩ hW hL (lv_sub hl [0, 1, 2, 3, 4, 5, 6] rfl)
            exact loop_63 (_ + 1) 0 2 _ _ _ (Nat.lt_succ_self _) (by omega) (by omega) ⟨(fun h => absurd h (by omega)), (fun _ => .inl ⟨rfl, fun j a b => absurd b (by omega)⟩)⟩ hW hL (lv_sub hl [0, 1, 2, 3, 4, 5, 6] rfl)
          · refine lv_iconst (v := iv 1) hx hb dX8_scanName_53 (by decide) ?_
            refine lv_goto (tgt := 58) hx hb dX8_scanName_54 (by decide) ?_
            refine lv_istore (lv' := [(6, .int (iv 1)), (5, .int (iv i)), (3, .long (jv pk)), (0, .ref (G.2.2.1 + 12)), (1, .ref (G.2.2.1 + t)), (2, .int (iv i0))]) hx hb dX8_scanName_58 hl (by decide) rfl (fun ls hl => ?_)
            refine lv_iconst (v := iv 0) hx hb dX8_scanName_60 (by decide) ?_
            refine lv_istore (lv' := [(7, .int (iv 0)), (6, .int (iv 1)), (5, .int (iv i)), (3, .long (jv pk)), (0, .ref (G.2.2.1 + 12)), (1, .ref (G.2.2.1 + t)), (2, .int (iv i0))]) hx hb dX8_scanName_61 hl (by decide) rfl (fun ls hl => ?_)
            have loop_63 : ∀ (fuel : Nat) (wd : Int) (kn : Int) (H : Heap) (locs : List Loc) (ls : Array Slot), (9 - wd).toNat < fuel → (0 ≤ wd ∧ wd ≤ 9) → (1 ≤ kn ∧ kn ≤ 12) → (Hd (8 < i - i0 → kn = 1) ∧ Hd (i - i0 ≤ 8 → WP wd pk kn)) → sW G 294 S H → sL G locs → lv_has ls 8 [(7, .int (iv wd)), (6, .int (iv kn)), (5, .int (iv i)), (3, .long (jv pk)), (0, .ref (G.2.2.1 + 12)), (1, .ref (G.2.2.1 + t)), (2, .int (iv i0))] → W p l e (rmk 3 0 0) s m args below meth c H locs 0 0 (MQ below (sQi G 294 (fun r u => cX G u 0 0 0 ∧ Fr S u pQ ∧ (Hd (r = eOf (S.2.1 (t + 1)) (S.1 t 1) i0 ∧ tkB S u (kOf (S.2.1 (t + 1)) (S.1 t 1) i0) i0 (vOf (S.2.1 (t + 1)) (S.1 t 1) i0))))) args s 0 0 (sF G)) (F0 m 63 ls []) := by
              intro fuel
              induction fuel with
              | zero => intro wd kn H locs ls hmeas hw hkr hkn hW hL hl; exact absurd hmeas (Nat.not_lt_zero _)
              | succ fuel ih_63 =>
                intro wd kn H locs ls hmeas hw hkr hkn hW hL hl
                refine lv_iload hx hb dX8_scanName_63 (lv_at hl 0 rfl) ?_
                refine zWords Cx hW0 hW hL w_800 dX8_scanName_65 ?_
                refine zWlen Cx hW0 hW hL dX8_scanName_68 ?_
                refine r_icmp_ge (tgt := 101) hx hb ⟨(by omega), (by omega)⟩ ⟨(by omega), (by omega)⟩ dX8_scanName_69 (by decide) (fun c_39 => ?_) (fun c_39 => ?_)
                · refine lv_aload_n hx hb dX8_scanName_101 rfl (lv_at hl 4 rfl) ?_
                  refine lv_iload hx hb dX8_scanName_102 (lv_at hl 1 rfl) ?_
                  refine lv_iload_n hx hb dX8_scanName_104 rfl (lv_at hl 6 rfl) ?_
                  refine lv_lload_n hx hb dX8_scanName_105 rfl (lv_at hl 3 rfl) ?_
                  have q_40 : 0 ≤ S.1 12 3 ∧ S.1 12 3 ≤ 2001 := hI.fi 12 3 8 (by decide) rfl
                  refine sBv (sV (As := [.int (iv kn), .int (iv i0), .long (jv pk)]) (rest := []) (k := 12) Cx (x_X8_token l G S (kk := kn) (sr := i0) (v := pk) hI (by omega) (by omega) (by omega) (by omega)) (c_X8_49 Cx rfl rfl (rmk_ok (by omega) (by decide))) hW (by decide) rfl rfl rfl hl.1 rfl (Nat.le_of_ble_eq_true rfl) dX8_scanName_106 ⟨Nat.le_of_ble_eq_true rfl, Nat.le_of_ble_eq_true rfl⟩) hL (fun u_41 H locs k_42 hW hL => ?_)
                  obtain ⟨iu_41, fu_41, xu_41⟩ := k_42
                  have F_43 := (Fr.rf : Fr S S pQ).trans fu_41
                  refine lv_iload hx hb dX8_scanName_109 (lv_at hl 2 rfl) ?_
                  exact sIret Cx hr hlk hW hL ⟨iu_41, F_43, (by have q1 : eOf (S.2.1 (t + 1)) (S.1 t 1) i0 = i := (by unfold eOf; rw [if_pos hlt]; exact hend); have q2 : kOf (S.2.1 (t + 1)) (S.1 t 1) i0 = kn := (by unfold kOf; rw [if_pos hlt, hend]; by_cases q : i - i0 ≤ 8; (rw [if_pos q]; have q3 := hkn.2 q; rw [show wd = 9 by omega, (hpk q).1] at q3; exact q3.fin.symm); (rw [if_neg q]; exact (hkn.1 (by omega)).symm)); exact ⟨q1.symm, pk, (by rw [q2]; exact xu_41), fun h => (by unfold vOf; rw [if_pos hlt, hend]; by_cases q : i - i0 ≤ 8; (exact (hpk q).1); (exact absurd h (by rw [q2, hkn.1 (by omega)]; decide)))⟩)⟩ dX8_scanName_111
                · refine lv_iload hx hb dX8_scanName_72 (lv_at hl 1 rfl) ?_
                  refine lv_iconst (v := iv 2) hx hb dX8_scanName_74 (by decide) ?_
                  refine r_icmp_ne (tgt := 95) hx hb ⟨(by omega), (by omega)⟩ ⟨(by omega), (by omega)⟩ dX8_scanName_75 (by decide) (fun c_44 => ?_) (fun c_44 => ?_)
                  · refine lv_iinc (v := iv (wd + 1)) (lv' := [(7, .int (iv (wd + 1))), (6, .int (iv kn)), (5, .int (iv i)), (3, .long (jv pk)), (0, .ref (G.2.2.1 + 12)), (1, .ref (G.2.2.1 + t)), (2, .int (iv i0))]) hx hb dX8_scanName_95 hl (k := 0) rfl ((Int32.ofInt_add _ _).symm) (by decide) rfl (fun ls hl => ?_)
                    refine lv_goto (tgt := 63) hx hb dX8_scanName_98 (by decide) ?_
                    exact ih_63 (wd + 1) kn _ _ _ (by omega) (by omega) (by omega) ⟨(fun h => hkn.1 h), (fun h => (hkn.2 h).no (fun q => absurd q (by omega)))⟩ hW hL (lv_sub hl [0, 1, 2, 3, 4, 5, 6] rfl)
                  · refine lv_lload_n hx hb dX8_scanName_78 rfl (lv_at hl 3 rfl) ?_
                    refine zWords Cx hW0 hW hL w_800 dX8_scanName_79 ?_
                    refine lv_iload hx hb dX8_scanName_82 (lv_at hl 0 rfl) ?_
                    refine zWatE Cx hW0 hW hL ⟨(by omega), (by omega)⟩ dX8_scanName_84 (fun z_45 hz_45 kz_45 ez_45 => ?_)
                    refine r_lcmp hx hb ⟨(by omega), (by omega)⟩ ⟨(by omega), (by omega)⟩ dX8_scanName_85 (fun z_46 az_46 bz_46 cz_46 => ?_)
                    refine r_if_ne (tgt := 95) hx hb ⟨(by omega), (by omega)⟩ dX8_scanName_86 (by decide) (fun c_47 => ?_) (fun c_47 => ?_)
                    · refine lv_iinc (v := iv (wd + 1)) (lv' := [(7, .int (iv (wd + 1))), (6, .int (iv kn)), (5, .int (iv i)), (3, .long (jv pk)), (0, .ref (G.2.2.1 + 12)), (1, .ref (G.2.2.1 + t)), (2, .int (iv i0))]) hx hb dX8_scanName_95 hl (k := 0) rfl ((Int32.ofInt_add _ _).symm) (by decide) rfl (fun ls hl => ?_)
                      refine lv_goto (tgt := 63) hx hb dX8_scanName_98 (by decide) ?_
                      exact ih_63 (wd + 1) kn _ _ _ (by omega) (by omega) (by omega) ⟨(fun h => hkn.1 h), (fun h => (hkn.2 h).no (fun q e => by have a1 := bz_46 (by omega); omega))⟩ hW hL (lv_sub hl [0, 1, 2, 3, 4, 5, 6] rfl)
                    · refine lv_iconst (v := iv 4) hx hb dX8_scanName_89 (by decide) ?_
                      refine lv_iload hx hb dX8_scanName_90 (lv_at hl 0 rfl) ?_
                      refine r_iadd hx hb dX8_scanName_92 ?_
                      refine lv_istore (lv' := [(6, .int (iv (4 + wd))), (7, .int (iv wd)), (5, .int (iv i)), (3, .long (jv pk)), (0, .ref (G.2.2.1 + 12)), (1, .ref (G.2.2.1 + t)), (2, .int (iv i0))]) hx hb dX8_scanName_93 hl (by decide) rfl (fun ls hl => ?_)
                      refine lv_iinc (v := iv (wd + 1)) (lv' := [(7, .int (iv (wd + 1))), (6, .int (iv (4 + wd))), (5, .int (iv i)), (3, .long (jv pk)), (0, .ref (G.2.2.1 + 12)), (1, .ref (G.2.2.1 + t)), (2, .int (iv i0))]) hx hb dX8_scanName_95 hl (k := 1) rfl ((Int32.ofInt_add _ _).symm) (by decide) rfl (fun ls hl => ?_)
                      refine lv_goto (tgt := 63) hx hb dX8_scanName_98 (by decide) ?_
                      exact ih_63 (wd + 1) (4 + wd) _ _ _ (by omega) (by omega) (by omega) ⟨(fun h => by have := hkn.1 h; omega), (fun h => (hkn.2 h).yes (by omega) (by omega) (by have a1 := az_46; have a2 := cz_46; omega))⟩ hW hL (lv_sub hl [0, 1, 2, 3, 4, 5, 6] rfl)
            exact loop_63 (_ + 1) 0 1 _ _ _ (Nat.lt_succ_self _) (by omega) (by omega) ⟨(fun _ => rfl), (fun h => absurd h (by omega))⟩ hW hL (lv_sub hl [0, 1, 2, 3, 4, 5, 6] rfl)
        · refine lv_lload_n hx hb dX8_scanName_25 rfl (lv_at hl 1 rfl) ?_
          refine lv_bipush (v := iv 8) hx hb dX8_scanName_26 (by decide) ?_
          refine r_lshl8 hx hb dX8_scanName_28 ?_
          refine lv_aload_n hx hb dX8_scanName_29 rfl (lv_at hl 3 rfl) ?_
          refine lv_iload hx hb dX8_scanName_30 (lv_at hl 0 rfl) ?_
          refine sBi (sV (As := [.int (iv i)]) (rest := [.long (jv (pk * 256))]) (k := t) Cx (s_X10_byteAt l G S (o := t) (k := i) (N := N) hI ht (by omega)) (c_X8_53 Cx rfl rfl (rmk_ok (by omega) (by decide))) hW (Nat.lt_trans ht.1 (by decide)) ht.2.1 rfl rfl hl.1 rfl (Nat.le_of_ble_eq_true rfl) dX8_scanName_32 ⟨Nat.le_of_ble_eq_true rfl, Nat.le_of_ble_eq_true rfl⟩) hL (fun r_50 u_48 H locs k_49 hW hL => ?_)
          obtain ⟨eu_48, xu_48⟩ := k_49
          rw [eu_48] at hW
          refine r_i2l hx hb ⟨(by omega), (by omega)⟩ dX8_scanName_35 ?_
          have q9 := xu_25.2.1 (by omega)
          unfold isLt isDg at q9
          have q8 : r_50 = r_24 := xu_48.1.trans xu_22.1.symm
          refine r_lor8 hx hb (b := r_50) ⟨(by omega), (by omega)⟩ dX8_scanName_36 (fun zp qzp hzp kzp ezp => ?_)
          refine lv_lstore_n (lv' := [(3, .long (jv zp)), (5, .int (iv i)), (0, .ref (G.2.2.1 + 12)), (1, .ref (G.2.2.1 + t)), (2, .int (iv i0))]) hx hb dX8_scanName_37 rfl hl (by decide) rfl (fun ls hl => ?_)
          refine lv_iinc (v := iv (i + 1)) (lv' := [(5, .int (iv (i + 1))), (3, .long (jv zp)), (0, .ref (G.2.2.1 + 12)), (1, .ref (G.2.2.1 + t)), (2, .int (iv i0))]) hx hb dX8_scanName_38 hl (k := 1) rfl ((Int32.ofInt_add _ _).symm) (by decide) rfl (fun ls hl => ?_)
          refine lv_goto (tgt := 5) hx hb dX8_scanName_41 (by decide) ?_
          exact ih_5 (i + 1) zp _ _ _ (by omega) (by have q2 : stN (S.2.1 (t + 1)) (S.1 t 1) i := (by have q := xu_25.2.1 (by omega); rw [xu_22.1, lt_bt hB, dg_bt hB] at q; exact q : stN (S.2.1 (t + 1)) (S.1 t 1) i); have q3 := stN_lt q2; omega) (hen.trans (en_st stN_lt ((by have q := xu_25.2.1 (by omega); rw [xu_22.1, lt_bt hB, dg_bt hB] at q; exact q : stN (S.2.1 (t + 1)) (S.1 t 1) i)))) (by omega) (fun q => by have q1 := hpk (by omega); have q2 := xu_25.2.1 (by omega); unfold isLt isDg at q2; have q3 := bt_B hB (i := i) (by rw [← xu_22.1]; omega); have q4 : r_50 = r_24 := xu_48.1.trans xu_22.1.symm; have q5 := xu_22.1; have q6 := pk_st q1.2.1 q1.2.2 (by omega) (by omega) hzp kzp ezp; rw [show (i + 1 - i0).toNat = (i - i0).toNat + 1 by omega]; refine ⟨?_, q6.2⟩; rw [← show (i + 1 - i0).toNat = (i - i0).toNat + 1 by omega, pkn_s (by omega), ← q1.1]; omega) hW hL (lv_sub hl [0, 1, 2, 3, 4] rfl)
  exact loop_5 (_ + 1) i0 0 _ _ _ (Nat.lt_succ_self _) (by omega) rfl (by omega) (fun _ => by rw [show (i0 - i0).toNat = 0 by omega]; exact ⟨rfl, by decide⟩) hW hL (lv_sub hl [0, 1, 2, 3, 4] rfl)

set_option maxRecDepth 100000 in
set_option maxHeartbeats 4000000 in
theorem x_J1_indexOfChar (l : Launch) (G : sG) (S : sS) {si : Nat} {k f n : Int} (hsi : si < 38) (hk : 0 ≤ k ∧ k ≤ 127) (hf : f = 0 ∧ n = ((strN.getD si 0 : Nat) : Int)) : Met l yJ1_indexOfChar_4cfef (.code yJ1_indexOfChar_4cfef cJ1_indexOfChar_4cfef 6 (some .int) :: tb) (rmk 1 0 0) (sPc G 294 S [.ref (G.1.2 101 si), .int (iv k), .int (iv f), .int (iv n)]) (sQi G 294 (fun r u => u = S ∧ (Hd ((r = -1 ∧ ∀ j, 0 ≤ j → j < ((strN.getD si 0 : Nat) : Int) → sB si j ≠ k) ∨ (0 ≤ r ∧ r < ((strN.getD si 0 : Nat) : Int) ∧ sB si r = k))))) 0 0 (sF G) := by
  refine sEnterF (by decide) (Nat.le_of_ble_eq_true rfl) ?_
  intro p e s m args below meth c Cx hr hlk hnm hW ls hl
  have Cx : sC G p m c cJ1_indexOfChar_4cfef 6 s args RJ1 := Cx
  obtain ⟨hx, hb, hml, hown, hts⟩ := id Cx.1
  have hL : sL G [] := sL_nil
  have hl : lv_has ls 6 [(0, .ref (G.1.2 101 si)), (1, .int (iv k)), (2, .int (iv f)), (3, .int (iv n))] := hl
  have hW0 := hW
  have hnr := strN_r si hsi
  refine lv_iload_n hx hb dJ1_indexOfChar_4cfef_0 rfl (lv_at hl 1 rfl) ?_
  refine r_i2bE hx hb ⟨(by omega), (by omega)⟩ dJ1_indexOfChar_4cfef_1 (fun z_1 hz_1 kz_1 ez_1 => ?_)
  refine lv_istore (lv' := [(4, .int (iv z_1)), (0, .ref (G.1.2 101 si)), (1, .int (iv k)), (2, .int (iv f)), (3, .int (iv n))]) hx hb dJ1_indexOfChar_4cfef_2 hl (by decide) rfl (fun ls hl => ?_)
  refine lv_iload_n hx hb dJ1_indexOfChar_4cfef_4 rfl (lv_at hl 3 rfl) ?_
  refine lv_istore (lv' := [(5, .int (iv f)), (4, .int (iv z_1)), (0, .ref (G.1.2 101 si)), (1, .int (iv k)), (2, .int (iv f)), (3, .int (iv n))]) hx hb dJ1_indexOfChar_4cfef_5 hl (by decide) rfl (fun ls hl => ?_)
  have loop_7 : ∀ (fuel : Nat) (i : Int) (H : Heap) (locs : List Loc) (ls : Array Slot), (n - i).toNat < fuel → (0 ≤ i ∧ i ≤ n) → (Hd (∀ j, 0 ≤ j → j < i → sB si j ≠ k)) → sW G 294 S H → sL G locs → lv_has ls 6 [(5, .int (iv i)), (4, .int (iv z_1)), (0, .ref (G.1.2 101 si)), (1, .int (iv k)), (2, .int (iv f)), (3, .int (iv n))] → W p l e (rmk 1 0 0) s m args below meth c H locs 0 0 (MQ below (sQi G 294 (fun r u => u = S ∧ (Hd ((r = -1 ∧ ∀ j, 0 ≤ j → j < ((strN.getD si 0 : Nat) : Int) → sB si j ≠ k) ∨ (0 ≤ r ∧ r < ((strN.getD si 0 : Nat) : Int) ∧ sB si r = k))))) args s 0 0 (sF G)) (F0 m 7 ls []) := by
    intro fuel
    induction fuel with
    | zero => intro i H locs ls hmeas hi hno hW hL hl; exact absurd hmeas (Nat.not_lt_zero _)
    | succ fuel ih_7 =>
      intro i H locs ls hmeas hi hno hW hL hl
      refine lv_iload hx hb dJ1_indexOfChar_4cfef_7 (lv_at hl 0 rfl) ?_
      refine lv_iload_n hx hb dJ1_indexOfChar_4cfef_9 rfl (lv_at hl 5 rfl) ?_
      refine r_icmp_ge (tgt := 31) hx hb ⟨(by omega), (by omega)⟩ ⟨(by omega), (by omega)⟩ dJ1_indexOfChar_4cfef_10 (by decide) (fun c_2 => ?_) (fun c_2 => ?_)
      · refine lv_iconst (v := iv (-1)) hx hb dJ1_indexOfChar_4cfef_31 (by decide) ?_
        exact sIret Cx hr hlk hW hL ⟨rfl, (.inl ⟨rfl, fun j a b => hno j a (by omega)⟩)⟩ dJ1_indexOfChar_4cfef_32
      · refine lv_aload_n hx hb dJ1_indexOfChar_4cfef_13 rfl (lv_at hl 2 rfl) ?_
        refine lv_iload hx hb dJ1_indexOfChar_4cfef_14 (lv_at hl 0 rfl) ?_
        refine zByteE Cx hW0 hW hL (i := si) hsi ⟨(by omega), (by omega)⟩ dJ1_indexOfChar_4cfef_16 (fun z_3 hz_3 kz_3 ez_3 => ?_)
        refine lv_iload hx hb dJ1_indexOfChar_4cfef_17 (lv_at hl 1 rfl) ?_
        refine r_icmp_ne (tgt := 25) hx hb ⟨(by omega), (by omega)⟩ ⟨(by omega), (by omega)⟩ dJ1_indexOfChar_4cfef_19 (by decide) (fun c_4 => ?_) (fun c_4 => ?_)
        · refine lv_iinc (v := iv (i + 1)) (lv' := [(5, .int (iv (i + 1))), (4, .int (iv z_1)), (0, .ref (G.1.2 101 si)), (1, .int (iv k)), (2, .int (iv f)), (3, .int (iv n))]) hx hb dJ1_indexOfChar_4cfef_25 hl (k := 0) rfl ((Int32.ofInt_add _ _).symm) (by decide) rfl (fun ls hl => ?_)
          refine lv_goto (tgt := 7) hx hb dJ1_indexOfChar_4cfef_28 (by decide) ?_
          exact ih_7 (i + 1) _ _ _ (by omega) (by omega) (fun j a b => by by_cases q : j = i; (rw [q]; have q1 := ez_3; omega); exact hno j a (by omega)) hW hL (lv_sub hl [0, 1, 2, 3, 4, 5] rfl)
        · refine lv_iload hx hb dJ1_indexOfChar_4cfef_22 (lv_at hl 0 rfl) ?_
          exact sIret Cx hr hlk hW hL ⟨rfl, (.inr ⟨by omega, by omega, (by have q1 := ez_3; omega)⟩)⟩ dJ1_indexOfChar_4cfef_24
  exact loop_7 (_ + 1) f _ _ _ (Nat.lt_succ_self _) (by omega) (fun j a b => absurd b (by omega)) hW hL (lv_sub hl [0, 1, 2, 3, 4, 5] rfl)

set_option maxRecDepth 100000 in
set_option maxHeartbeats 4000000 in
theorem x_J1_canEncode (l : Launch) (G : sG) (S : sS) {k : Int} (hk : 0 ≤ k ∧ k ≤ 127) : Met l yJ1_canEncode_9a6ad (.code yJ1_canEncode_9a6ad cJ1_canEncode_9a6ad 1 (some .boolean) :: tb) (rmk 1 0 0) (sPc G 294 S [.int (iv k)]) (sQi G 294 (fun r u => u = S ∧ (r = 1))) 0 0 (sF G) := by
  refine sEnterF (by decide) (Nat.le_of_ble_eq_true rfl) ?_
  intro p e s m args below meth c Cx hr hlk hnm hW ls hl
  have Cx : sC G p m c cJ1_canEncode_9a6ad 1 s args RJ1 := Cx
  obtain ⟨hx, hb, hml, hown, hts⟩ := id Cx.1
  have hL : sL G [] := sL_nil
  have hl : lv_has ls 1 [(0, .int (iv k))] := hl
  have hW0 := hW
  refine lv_iload_n hx hb dJ1_canEncode_9a6ad_0 rfl (lv_at hl 0 rfl) ?_
  refine r_if_lt (tgt := 15) hx hb ⟨(by omega), (by omega)⟩ dJ1_canEncode_9a6ad_1 (by decide) (fun c_1 => ?_) (fun c_1 => ?_)
  · refine lv_iconst (v := iv 0) hx hb dJ1_canEncode_9a6ad_15 (by decide) ?_
    exact sZret Cx hr hlk hW hL (by omega) ⟨rfl, (by exfalso; omega)⟩ dJ1_canEncode_9a6ad_16
  · refine lv_iload_n hx hb dJ1_canEncode_9a6ad_4 rfl (lv_at hl 0 rfl) ?_
    refine lv_sipush (v := iv 255) hx hb dJ1_canEncode_9a6ad_5 (by decide) ?_
    refine r_icmp_gt (tgt := 15) hx hb ⟨(by omega), (by omega)⟩ ⟨(by omega), (by omega)⟩ dJ1_canEncode_9a6ad_8 (by decide) (fun c_2 => ?_) (fun c_2 => ?_)
    · refine lv_iconst (v := iv 0) hx hb dJ1_canEncode_9a6ad_15 (by decide) ?_
      exact sZret Cx hr hlk hW hL (by omega) ⟨rfl, (by exfalso; omega)⟩ dJ1_canEncode_9a6ad_16
    · refine lv_iconst (v := iv 1) hx hb dJ1_canEncode_9a6ad_11 (by decide) ?_
      refine lv_goto (tgt := 16) hx hb dJ1_canEncode_9a6ad_12 (by decide) ?_
      exact sZret Cx hr hlk hW hL (by omega) ⟨rfl, rfl⟩ dJ1_canEncode_9a6ad_16

set_option maxRecDepth 100000 in
set_option maxHeartbeats 4000000 in
theorem x_J1_indexOf (l : Launch) (G : sG) (S : sS) {si : Nat} {k n : Int} (hsi : si < 38) (hk : 0 ≤ k ∧ k ≤ 127) (hf : n = ((strN.getD si 0 : Nat) : Int) ∧ 0 < n) : Met l yJ1_indexOf_4cfef (.code yJ1_indexOf_4cfef cJ1_indexOf_4cfef 4 (some .int) :: tb) (rmk 2 0 0) (sPc G 294 S [.ref (G.1.2 101 si), .int (iv k), .int (iv 0), .int (iv n)]) (sQi G 294 (fun r u => u = S ∧ (Hd ((r = -1 ∧ ∀ j, 0 ≤ j → j < ((strN.getD si 0 : Nat) : Int) → sB si j ≠ k) ∨ (0 ≤ r ∧ r < ((strN.getD si 0 : Nat) : Int) ∧ sB si r = k))))) 0 0 (sF G) := by
  refine sEnterF (by decide) (Nat.le_of_ble_eq_true rfl) ?_
  intro p e s m args below meth c Cx hr hlk hnm hW ls hl
  have Cx : sC G p m c cJ1_indexOf_4cfef 4 s args RJ1 := Cx
  obtain ⟨hx, hb, hml, hown, hts⟩ := id Cx.1
  have hL : sL G [] := sL_nil
  have hl : lv_has ls 4 [(0, .ref (G.1.2 101 si)), (1, .int (iv k)), (2, .int (iv 0)), (3, .int (iv n))] := hl
  have hW0 := hW
  have hnr := strN_r si hsi
  refine lv_iload_n hx hb dJ1_indexOf_4cfef_0 rfl (lv_at hl 1 rfl) ?_
  refine sBi (sSt (As := [.int (iv k)]) (rest := []) Cx (x_J1_canEncode l G S (k := k) (by omega)) (c_J1_88 Cx rfl rfl (rmk_ok (by omega) (by decide))) hW rfl hl.1 rfl (Nat.le_of_ble_eq_true rfl) dJ1_indexOf_4cfef_1 ⟨Nat.le_of_ble_eq_true rfl, Nat.le_of_ble_eq_true rfl⟩) hL (fun r_3 u_1 H locs k_2 hW hL => ?_)
  obtain ⟨eu_1, xu_1⟩ := k_2
  rw [eu_1] at hW
  refine r_if_ne (tgt := 9) hx hb ⟨(by omega), (by omega)⟩ dJ1_indexOf_4cfef_4 (by decide) (fun c_4 => ?_) (fun c_4 => ?_)
  · refine lv_iload_n hx hb dJ1_indexOf_4cfef_9 rfl (lv_at hl 2 rfl) ?_
    refine lv_iconst (v := iv 0) hx hb dJ1_indexOf_4cfef_10 (by decide) ?_
    refine r_max hx hb (hml.trans hl.1.symm) hown (hts _ w_839) (hts _ w_242) (hts _ w_206) (hts _ w_243) (rmk_f (by omega)) (rmk_l (by omega) (Nat.le_of_ble_eq_true rfl)) (Nat.le_of_ble_eq_true rfl) (Nat.le_of_ble_eq_true rfl) ⟨(by omega), (by omega)⟩ ⟨(by omega), (by omega)⟩ dJ1_indexOf_4cfef_11 (fun z_5 hz_5 => ?_)
    refine lv_istore_n (lv' := [(2, .int (iv z_5)), (0, .ref (G.1.2 101 si)), (1, .int (iv k)), (3, .int (iv n))]) hx hb dJ1_indexOf_4cfef_14 rfl hl (by decide) rfl (fun ls hl => ?_)
    refine lv_iload_n hx hb dJ1_indexOf_4cfef_15 rfl (lv_at hl 3 rfl) ?_
    refine lv_aload_n hx hb dJ1_indexOf_4cfef_16 rfl (lv_at hl 1 rfl) ?_
    refine zLen Cx hW0 hW hL (i := si) hsi dJ1_indexOf_4cfef_17 ?_
    refine r_min hx hb (hml.trans hl.1.symm) hown (hts _ w_840) (hts _ w_777) (hts _ w_206) (hts _ w_778) (rmk_f (by omega)) (rmk_l (by omega) (Nat.le_of_ble_eq_true rfl)) (Nat.le_of_ble_eq_true rfl) (Nat.le_of_ble_eq_true rfl) ⟨(by omega), (by omega)⟩ ⟨(by omega), (by omega)⟩ dJ1_indexOf_4cfef_18 (fun z_6 hz_6 => ?_)
    refine lv_istore_n (lv' := [(3, .int (iv z_6)), (2, .int (iv z_5)), (0, .ref (G.1.2 101 si)), (1, .int (iv k))]) hx hb dJ1_indexOf_4cfef_21 rfl hl (by decide) rfl (fun ls hl => ?_)
    refine lv_iload_n hx hb dJ1_indexOf_4cfef_22 rfl (lv_at hl 1 rfl) ?_
    refine lv_iload_n hx hb dJ1_indexOf_4cfef_23 rfl (lv_at hl 0 rfl) ?_
    refine r_icmp_lt (tgt := 29) hx hb ⟨(by omega), (by omega)⟩ ⟨(by omega), (by omega)⟩ dJ1_indexOf_4cfef_24 (by decide) (fun c_7 => ?_) (fun c_7 => ?_)
    · refine lv_aload_n hx hb dJ1_indexOf_4cfef_29 rfl (lv_at hl 2 rfl) ?_
      refine lv_iload_n hx hb dJ1_indexOf_4cfef_30 rfl (lv_at hl 3 rfl) ?_
      refine lv_iload_n hx hb dJ1_indexOf_4cfef_31 rfl (lv_at hl 1 rfl) ?_
      refine lv_iload_n hx hb dJ1_indexOf_4cfef_32 rfl (lv_at hl 0 rfl) ?_
      refine sBi (sSt (As := [.ref (G.1.2 101 si), .int (iv k), .int (iv z_5), .int (iv z_6)]) (rest := []) Cx (x_J1_indexOfChar l G S (si := si) (k := k) (f := z_5) (n := z_6) hsi (by omega) (by omega)) (c_J1_95 Cx rfl rfl (rmk_ok (by omega) (by decide))) hW rfl hl.1 rfl (Nat.le_of_ble_eq_true rfl) dJ1_indexOf_4cfef_33 ⟨Nat.le_of_ble_eq_true rfl, Nat.le_of_ble_eq_true rfl⟩) hL (fun r_10 u_8 H locs k_9 hW hL => ?_)
      obtain ⟨eu_8, xu_8⟩ := k_9
      rw [eu_8] at hW
      exact sIret Cx hr hlk hW hL ⟨rfl, xu_8⟩ dJ1_indexOf_4cfef_36
    · refine lv_iconst (v := iv (-1)) hx hb dJ1_indexOf_4cfef_27 (by decide) ?_
      exact sIret Cx hr hlk hW hL ⟨rfl, (by exfalso; omega)⟩ dJ1_indexOf_4cfef_28
  · refine lv_iconst (v := iv (-1)) hx hb dJ1_indexOf_4cfef_7 (by decide) ?_
    exact sIret Cx hr hlk hW hL ⟨rfl, (by exfalso; omega)⟩ dJ1_indexOf_4cfef_8

set_option maxRecDepth 100000 in
set_option maxHeartbeats 4000000 in
theorem x_J0_indexOf_a (l : Launch) (G : sG) (S : sS) {si : Nat} {k : Int} (hsi : si < 38) (hk : 0 ≤ k ∧ k ≤ 127 ∧ 0 < ((strN.getD si 0 : Nat) : Int)) : Met l yJ0_indexOf_7cf53 (.code yJ0_indexOf_7cf53 cJ0_indexOf_7cf53 3 (some .int) :: tb) (rmk 3 0 0) (sPc G 294 S [.ref (G.1.2 100 si), .int (iv k), .int (iv 0)]) (sQi G 294 (fun r u => u = S ∧ (Hd ((r = -1 ∧ ∀ j, 0 ≤ j → j < ((strN.getD si 0 : Nat) : Int) → sB si j ≠ k) ∨ (0 ≤ r ∧ r < ((strN.getD si 0 : Nat) : Int) ∧ sB si r = k))))) 0 0 (sF G) := by
  refine sEnterF (by decide) (Nat.le_of_ble_eq_true rfl) ?_
  intro p e s m args below meth c Cx hr hlk hnm hW ls hl
  have Cx : sC G p m c cJ0_indexOf_7cf53 3 s args RJ0 := Cx
  obtain ⟨hx, hb, hml, hown, hts⟩ := id Cx.1
  have hL : sL G [] := sL_nil
  have hl : lv_has ls 3 [(0, .ref (G.1.2 100 si)), (1, .int (iv k)), (2, .int (iv 0))] := hl
  have hW0 := hW
  have hnr := strN_r si hsi
  refine lv_aload_n hx hb dJ0_indexOf_7cf53_0 rfl (lv_at hl 0 rfl) ?_
  refine sBi (sVz (As := []) (rest := []) (a := G.1.2 100 si) Cx (s_J0_isLatin1_aae02 l G S (si := si) hsi) (c_J0_492 Cx rfl rfl (rmk_ok (by omega) (by decide))) hW (zRecv Cx hW0 hW hsi) rfl hl.1 rfl (Nat.le_of_ble_eq_true rfl) dJ0_indexOf_7cf53_1 ⟨Nat.le_of_ble_eq_true rfl, Nat.le_of_ble_eq_true rfl⟩) hL (fun r_3 u_1 H locs k_2 hW hL => ?_)
  obtain ⟨eu_1, xu_1⟩ := k_2
  rw [eu_1] at hW
  refine r_if_eq (tgt := 23) hx hb ⟨(by omega), (by omega)⟩ dJ0_indexOf_7cf53_4 (by decide) (fun c => absurd c (by omega)) (fun _ => ?_)
  refine lv_aload_n hx hb dJ0_indexOf_7cf53_7 rfl (lv_at hl 0 rfl) ?_
  refine zValue Cx hW0 hW hL (i := si) hsi w_2804 dJ0_indexOf_7cf53_8 ?_
  refine lv_iload_n hx hb dJ0_indexOf_7cf53_11 rfl (lv_at hl 1 rfl) ?_
  refine lv_iload_n hx hb dJ0_indexOf_7cf53_12 rfl (lv_at hl 2 rfl) ?_
  refine lv_aload_n hx hb dJ0_indexOf_7cf53_13 rfl (lv_at hl 0 rfl) ?_
  refine sBi (sVz (As := []) (rest := [.int (iv 0), .int (iv k), .ref (G.1.2 101 si)]) (a := G.1.2 100 si) Cx (s_J0_length_8abf5 l G S (si := si) hsi) (c_J0_505 Cx rfl rfl (rmk_ok (by omega) (by decide))) hW (zRecv Cx hW0 hW hsi) rfl hl.1 rfl (Nat.le_of_ble_eq_true rfl) dJ0_indexOf_7cf53_14 ⟨Nat.le_of_ble_eq_true rfl, Nat.le_of_ble_eq_true rfl⟩) hL (fun r_6 u_4 H locs k_5 hW hL => ?_)
  obtain ⟨eu_4, xu_4⟩ := k_5
  rw [eu_4] at hW
  refine sBi (sSt (As := [.ref (G.1.2 101 si), .int (iv k), .int (iv 0), .int (iv r_6)]) (rest := []) Cx (x_J1_indexOf l G S (si := si) (k := k) (n := r_6) hsi (by omega) (by omega)) (c_J0_637 Cx rfl rfl (rmk_ok (by omega) (by decide))) hW rfl hl.1 rfl (Nat.le_of_ble_eq_true rfl) dJ0_indexOf_7cf53_17 ⟨Nat.le_of_ble_eq_true rfl, Nat.le_of_ble_eq_true rfl⟩) hL (fun r_9 u_7 H locs k_8 hW hL => ?_)
  obtain ⟨eu_7, xu_7⟩ := k_8
  rw [eu_7] at hW
  refine lv_goto (tgt := 36) hx hb dJ0_indexOf_7cf53_20 (by decide) ?_
  exact sIret Cx hr hlk hW hL ⟨rfl, xu_7⟩ dJ0_indexOf_7cf53_36

set_option maxRecDepth 100000 in
set_option maxHeartbeats 4000000 in
theorem x_J0_indexOf_b (l : Launch) (G : sG) (S : sS) {si : Nat} {k : Int} (hsi : si < 38) (hk : 0 ≤ k ∧ k ≤ 127 ∧ 0 < ((strN.getD si 0 : Nat) : Int)) : Met l yJ0_indexOf_0f7a4 (.code yJ0_indexOf_0f7a4 cJ0_indexOf_0f7a4 2 (some .int) :: tb) (rmk 4 0 0) (sPc G 294 S [.ref (G.1.2 100 si), .int (iv k)]) (sQi G 294 (fun r u => u = S ∧ (Hd ((r = -1 ∧ ∀ j, 0 ≤ j → j < ((strN.getD si 0 : Nat) : Int) → sB si j ≠ k) ∨ (0 ≤ r ∧ r < ((strN.getD si 0 : Nat) : Int) ∧ sB si r = k))))) 0 0 (sF G) := by
  refine sEnterF (by decide) (Nat.le_of_ble_eq_true rfl) ?_
  intro p e s m args below meth c Cx hr hlk hnm hW ls hl
  have Cx : sC G p m c cJ0_indexOf_0f7a4 2 s args RJ0 := Cx
  obtain ⟨hx, hb, hml, hown, hts⟩ := id Cx.1
  have hL : sL G [] := sL_nil
  have hl : lv_has ls 2 [(0, .ref (G.1.2 100 si)), (1, .int (iv k))] := hl
  have hW0 := hW
  have hnr := strN_r si hsi
  refine lv_aload_n hx hb dJ0_indexOf_0f7a4_0 rfl (lv_at hl 0 rfl) ?_
  refine lv_iload_n hx hb dJ0_indexOf_0f7a4_1 rfl (lv_at hl 1 rfl) ?_
  refine lv_iconst (v := iv 0) hx hb dJ0_indexOf_0f7a4_2 (by decide) ?_
  refine sBi (sVz (As := [.int (iv k), .int (iv 0)]) (rest := []) (a := G.1.2 100 si) Cx (x_J0_indexOf_a l G S (si := si) (k := k) hsi (by omega)) (c_J0_633 Cx rfl rfl (rmk_ok (by omega) (by decide))) hW (zRecv Cx hW0 hW hsi) rfl hl.1 rfl (Nat.le_of_ble_eq_true rfl) dJ0_indexOf_0f7a4_3 ⟨Nat.le_of_ble_eq_true rfl, Nat.le_of_ble_eq_true rfl⟩) hL (fun r_3 u_1 H locs k_2 hW hL => ?_)
  obtain ⟨eu_1, xu_1⟩ := k_2
  rw [eu_1] at hW
  exact sIret Cx hr hlk hW hL ⟨rfl, xu_1⟩ dJ0_indexOf_0f7a4_6

theorem sgx_k {x sg : Int} (h : SGX 0 x sg) : sg1 x = (if x = 61 then 13 else if 0 ≤ sg then 15 + sg else 1) := by
  have l : ((strN.getD 0 0 : Nat) : Int) = 10 := by decide
  have b : sB 0 0 = 59 ∧ sB 0 1 = 44 ∧ sB 0 2 = 91 ∧ sB 0 3 = 93 ∧ sB 0 4 = 40 ∧ sB 0 5 = 41 ∧ sB 0 6 = 43 ∧ sB 0 7 = 45 ∧ sB 0 8 = 42 ∧ sB 0 9 = 58 := by decide
  obtain ⟨b0, b1, b2, b3, b4, b5, b6, b7, b8, b9⟩ := b
  rcases h with ⟨hx, ⟨e, h⟩ | ⟨h0, h1, h2⟩⟩ | ⟨hx, e⟩
  · rw [l] at h
    have a0 := h 0 (by omega) (by omega); have a1 := h 1 (by omega) (by omega); have a2 := h 2 (by omega) (by omega); have a3 := h 3 (by omega) (by omega); have a4 := h 4 (by omega) (by omega)
    have a5 := h 5 (by omega) (by omega); have a6 := h 6 (by omega) (by omega); have a7 := h 7 (by omega) (by omega); have a8 := h 8 (by omega) (by omega); have a9 := h 9 (by omega) (by omega)
    unfold sg1
    by_cases q : x = 61
    · rw [if_pos q, if_pos q]
    · rw [if_neg q, if_neg q, if_neg (show ¬ 0 ≤ sg by omega), if_neg (by omega), if_neg (by omega), if_neg (by omega), if_neg (by omega), if_neg (by omega), if_neg (by omega), if_neg (by omega), if_neg (by omega), if_neg (by omega), if_neg (by omega)]
  · rw [l] at h1
    have e : sg = 0 ∨ sg = 1 ∨ sg = 2 ∨ sg = 3 ∨ sg = 4 ∨ sg = 5 ∨ sg = 6 ∨ sg = 7 ∨ sg = 8 ∨ sg = 9 := by omega
    rcases e with rfl | rfl | rfl | rfl | rfl | rfl | rfl | rfl | rfl | rfl <;> (rw [← h2]; decide)
  · unfold sg1
    rw [if_neg (show ¬ x = 61 by omega), if_neg (show ¬ x = 61 by omega), if_neg (show ¬ 0 ≤ sg by omega), if_neg (by omega), if_neg (by omega), if_neg (by omega), if_neg (by omega), if_neg (by omega), if_neg (by omega), if_neg (by omega), if_neg (by omega), if_neg (by omega), if_neg (by omega)]

set_option maxRecDepth 100000 in
set_option maxHeartbeats 4000000 in
theorem x_X8_scanOne (l : Launch) (G : sG) (S : sS) {t N : Nat} {i0 : Int} (hI : cX G S 0 0 0) (ht : txt t N) (hi0 : 0 ≤ i0 ∧ i0 < (S.1 t 1) ∧ (S.1 t 1) ≤ 2000) (h3 : 0 ≤ S.1 12 3 ∧ S.1 12 3 ≤ 2000) : Met l yX8_scanOne (.code yX8_scanOne cX8_scanOne 6 (some .int) :: tb) (rmk 5 0 0) (sPc G 294 S [.ref (G.2.2.1 + 12), .ref (G.2.2.1 + t), .int (iv i0)]) (sQi G 294 (fun r u => cX G u 0 0 0 ∧ Fr S u pQ ∧ (Hd (stB (S.2.1 (t + 1)) (S.1 t 1) i0 → r = i0 + 1 ∧ tk0 S u) ∧ Hd (¬ stB (S.2.1 (t + 1)) (S.1 t 1) i0 → r = eOf (S.2.1 (t + 1)) (S.1 t 1) i0 ∧ tkB S u (kOf (S.2.1 (t + 1)) (S.1 t 1) i0) i0 (vOf (S.2.1 (t + 1)) (S.1 t 1) i0))))) 0 0 (sF G) := by
  refine sEnter (by decide) (Nat.le_of_ble_eq_true rfl) ?_
  intro p e s m args below meth c Cx hr hlk hnm hW ls hl
  have Cx : sC G p m c cX8_scanOne 6 s args RX8 := Cx
  obtain ⟨hx, hb, hml, hown, hts⟩ := id Cx.1
  have hL : sL G [] := sL_nil
  have hl : lv_has ls 6 [(0, .ref (G.2.2.1 + 12)), (1, .ref (G.2.2.1 + t)), (2, .int (iv i0))] := hl
  have hW0 := hW
  have hN3 := ht.2.2.2.2.2
  have hB := fun j => txt_r ht hI j
  refine lv_aload_n hx hb dX8_scanOne_0 rfl (lv_at hl 1 rfl) ?_
  refine lv_iload_n hx hb dX8_scanOne_1 rfl (lv_at hl 2 rfl) ?_
  have q_1 : 0 ≤ S.1 t 1 ∧ S.1 t 1 ≤ (N : Int) := txt_len ht hI
  refine sBi (sV (As := [.int (iv i0)]) (rest := []) (k := t) Cx (s_X10_byteAt l G S (o := t) (k := i0) (N := N) hI ht (by omega)) (c_X8_53 Cx rfl rfl (rmk_ok (by omega) (by decide))) hW (Nat.lt_trans ht.1 (by decide)) ht.2.1 rfl rfl hl.1 rfl (Nat.le_of_ble_eq_true rfl) dX8_scanOne_2 ⟨Nat.le_of_ble_eq_true rfl, Nat.le_of_ble_eq_true rfl⟩) hL (fun xb u_2 H locs k_3 hW hL => ?_)
  obtain ⟨eu_2, xu_2⟩ := k_3
  rw [eu_2] at hW
  have exb : xb = bt S t i0 := xu_2.1
  have qb : stB (S.2.1 (t + 1)) (S.1 t 1) i0 ↔ (xb = 32 ∨ xb = 10) := (by unfold stB; rw [exb, ← bt_eqc hB (by decide) (by decide), ← bt_eqc hB (by decide) (by decide)])
  refine lv_istore_n (lv' := [(3, .int (iv xb)), (0, .ref (G.2.2.1 + 12)), (1, .ref (G.2.2.1 + t)), (2, .int (iv i0))]) hx hb dX8_scanOne_5 rfl hl (by decide) rfl (fun ls hl => ?_)
  refine lv_iload_n hx hb dX8_scanOne_6 rfl (lv_at hl 0 rfl) ?_
  refine lv_bipush (v := iv 32) hx hb dX8_scanOne_7 (by decide) ?_
  refine r_icmp_eq (tgt := 18) hx hb ⟨(by omega), (by omega)⟩ ⟨(by omega), (by omega)⟩ dX8_scanOne_9 (by decide) (fun c_4 => ?_) (fun c_4 => ?_)
  · refine lv_iload_n hx hb dX8_scanOne_18 rfl (lv_at hl 3 rfl) ?_
    refine lv_iconst (v := iv 1) hx hb dX8_scanOne_19 (by decide) ?_
    refine r_iadd hx hb dX8_scanOne_20 ?_
    exact sIret Cx hr hlk hW hL ⟨hI, (Fr.rf : Fr S S pQ), ⟨(fun _ => ⟨rfl, rfl, rfl, rfl, rfl⟩), (fun h => absurd (qb.mpr (by omega)) h)⟩⟩ dX8_scanOne_21
  · refine lv_iload_n hx hb dX8_scanOne_12 rfl (lv_at hl 0 rfl) ?_
    refine lv_bipush (v := iv 10) hx hb dX8_scanOne_13 (by decide) ?_
    refine r_icmp_ne (tgt := 22) hx hb ⟨(by omega), (by omega)⟩ ⟨(by omega), (by omega)⟩ dX8_scanOne_15 (by decide) (fun c_5 => ?_) (fun c_5 => ?_)
    · refine lv_iload_n hx hb dX8_scanOne_22 rfl (lv_at hl 0 rfl) ?_
      refine sBi (sSt (As := [.int (iv xb)]) (rest := []) Cx (x_X8_isLetter l G S (k := xb) (by omega)) (c_X8_56 Cx rfl rfl (rmk_ok (by omega) (by decide))) hW rfl hl.1 rfl (Nat.le_of_ble_eq_true rfl) dX8_scanOne_23 ⟨Nat.le_of_ble_eq_true rfl, Nat.le_of_ble_eq_true rfl⟩) hL (fun r_8 u_6 H locs k_7 hW hL => ?_)
      obtain ⟨eu_6, xu_6⟩ := k_7
      rw [eu_6] at hW
      refine r_if_eq (tgt := 36) hx hb ⟨(by omega), (by omega)⟩ dX8_scanOne_26 (by decide) (fun c_9 => ?_) (fun c_9 => ?_)
      · have hnl : ¬ isLt (cb (S.2.1 (t + 1)) (S.1 t 1) i0) := fun z => xu_6.2.2 (by omega) (by rw [exb]; exact (lt_bt hB).mpr z)
        refine lv_iload_n hx hb dX8_scanOne_36 rfl (lv_at hl 0 rfl) ?_
        refine sBi (sSt (As := [.int (iv xb)]) (rest := []) Cx (x_X8_isDigit l G S (k := xb) (by omega)) (c_X8_63 Cx rfl rfl (rmk_ok (by omega) (by decide))) hW rfl hl.1 rfl (Nat.le_of_ble_eq_true rfl) dX8_scanOne_37 ⟨Nat.le_of_ble_eq_true rfl, Nat.le_of_ble_eq_true rfl⟩) hL (fun r_12 u_10 H locs k_11 hW hL => ?_)
        obtain ⟨eu_10, xu_10⟩ := k_11
        rw [eu_10] at hW
        refine r_if_eq (tgt := 50) hx hb ⟨(by omega), (by omega)⟩ dX8_scanOne_40 (by decide) (fun c_13 => ?_) (fun c_13 => ?_)
        · have hnd : ¬ isDg (cb (S.2.1 (t + 1)) (S.1 t 1) i0) := fun z => xu_10.2.2 (by omega) (by rw [exb]; exact (dg_bt hB).mpr z)
          have join_78 : ∀ (tw : Int) (H : Heap) (locs : List Loc) (ls : Array Slot), ((0 ≤ tw ∧ tw ≤ 1) ∧ Hd (tw = 1 → ((xb = 46 → bt S t (i0 + 1) = 46) ∧ (xb ≠ 46 → bt S t (i0 + 1) = 61))) ∧ Hd (tw = 0 → ¬ ((xb = 46 → bt S t (i0 + 1) = 46) ∧ (xb ≠ 46 → bt S t (i0 + 1) = 61)))) → sW G 294 S H → sL G locs → lv_has ls 6 [(3, .int (iv xb)), (0, .ref (G.2.2.1 + 12)), (1, .ref (G.2.2.1 + t)), (2, .int (iv i0))] → W p l e (rmk 5 0 0) s m args below meth c H locs 0 0 (MQ below (sQi G 294 (fun r u => cX G u 0 0 0 ∧ Fr S u pQ ∧ (Hd (stB (S.2.1 (t + 1)) (S.1 t 1) i0 → r = i0 + 1 ∧ tk0 S u) ∧ Hd (¬ stB (S.2.1 (t + 1)) (S.1 t 1) i0 → r = eOf (S.2.1 (t + 1)) (S.1 t 1) i0 ∧ tkB S u (kOf (S.2.1 (t + 1)) (S.1 t 1) i0) i0 (vOf (S.2.1 (t + 1)) (S.1 t 1) i0))))) args s 0 0 (sF G)) (F0 m 78 ls [.int (iv tw)]) := by
            intro tw H locs ls htw hW hL hl
            refine lv_istore (lv' := [(4, .int (iv tw)), (3, .int (iv xb)), (0, .ref (G.2.2.1 + 12)), (1, .ref (G.2.2.1 + t)), (2, .int (iv i0))]) hx hb dX8_scanOne_78 hl (by decide) rfl (fun ls hl => ?_)
            have join_137 : ∀  (H : Heap) (locs : List Loc) (ls : Array Slot), (Hd (¬ two xb (bt S t (i0 + 1)))) → sW G 294 S H → sL G locs → lv_has ls 6 [(4, .int (iv tw)), (3, .int (iv xb)), (0, .ref (G.2.2.1 + 12)), (1, .ref (G.2.2.1 + t)), (2, .int (iv i0))] → W p l e (rmk 5 0 0) s m args below meth c H locs 0 0 (MQ below (sQi G 294 (fun r u => cX G u 0 0 0 ∧ Fr S u pQ ∧ (Hd (stB (S.2.1 (t + 1)) (S.1 t 1) i0 → r = i0 + 1 ∧ tk0 S u) ∧ Hd (¬ stB (S.2.1 (t + 1)) (S.1 t 1) i0 → r = eOf (S.2.1 (t + 1)) (S.1 t 1) i0 ∧ tkB S u (kOf (S.2.1 (t + 1)) (S.1 t 1) i0) i0 (vOf (S.2.1 (t + 1)) (S.1 t 1) i0))))) args s 0 0 (sF G)) (F0 m 137 ls []) := by
              intro  H locs ls hnt hW hL hl
              have join_155 : ∀ (sg : Int) (H : Heap) (locs : List Loc) (ls : Array Slot), (-1 ≤ sg ∧ sg < 10) → (Hd (SGX 0 xb sg)) → sW G 294 S H → sL G locs → lv_has ls 6 [(4, .int (iv tw)), (3, .int (iv xb)), (0, .ref (G.2.2.1 + 12)), (1, .ref (G.2.2.1 + t)), (2, .int (iv i0))] → W p l e (rmk 5 0 0) s m args below meth c H locs 0 0 (MQ below (sQi G 294 (fun r u => cX G u 0 0 0 ∧ Fr S u pQ ∧ (Hd (stB (S.2.1 (t + 1)) (S.1 t 1) i0 → r = i0 + 1 ∧ tk0 S u) ∧ Hd (¬ stB (S.2.1 (t + 1)) (S.1 t 1) i0 → r = eOf (S.2.1 (t + 1)) (S.1 t 1) i0 ∧ tkB S u (kOf (S.2.1 (t + 1)) (S.1 t 1) i0) i0 (vOf (S.2.1 (t + 1)) (S.1 t 1) i0))))) args s 0 0 (sF G)) (F0 m 155 ls [.int (iv sg)]) := by
                intro sg H locs ls hsgr hsg hW hL hl
                refine lv_istore (lv' := [(5, .int (iv sg)), (4, .int (iv tw)), (3, .int (iv xb)), (0, .ref (G.2.2.1 + 12)), (1, .ref (G.2.2.1 + t)), (2, .int (iv i0))]) hx hb dX8_scanOne_155 hl (by decide) rfl (fun ls hl => ?_)
                refine lv_aload_n hx hb dX8_scanOne_157 rfl (lv_at hl 3 rfl) ?_
                have join_183 : ∀ (kb : Int) (H : Heap) (locs : List Loc) (ls : Array Slot), (1 ≤ kb ∧ kb ≤ 26) → (Hd (kb = sg1 xb)) → sW G 294 S H → sL G locs → lv_has ls 6 [(5, .int (iv sg)), (4, .int (iv tw)), (3, .int (iv xb)), (0, .ref (G.2.2.1 + 12)), (1, .ref (G.2.2.1 + t)), (2, .int (iv i0))] → W p l e (rmk 5 0 0) s m args below meth c H locs 0 0 (MQ below (sQi G 294 (fun r u => cX G u 0 0 0 ∧ Fr S u pQ ∧ (Hd (stB (S.2.1 (t + 1)) (S.1 t 1) i0 → r = i0 + 1 ∧ tk0 S u) ∧ Hd (¬ stB (S.2.1 (t + 1)) (S.1 t 1) i0 → r = eOf (S.2.1 (t + 1)) (S.1 t 1) i0 ∧ tkB S u (kOf (S.2.1 (t + 1)) (S.1 t 1) i0) i0 (vOf (S.2.1 (t + 1)) (S.1 t 1) i0))))) args s 0 0 (sF G)) (F0 m 183 ls [.int (iv kb), .ref (G.2.2.1 + 12)]) := by
                  intro kb H locs ls hkbr hkb hW hL hl
                  refine lv_iload_n hx hb dX8_scanOne_183 rfl (lv_at hl 5 rfl) ?_
                  refine lv_lconst (v := jv 0) hx hb dX8_scanOne_184 (by decide) ?_
                  have q_14 : 0 ≤ S.1 12 3 ∧ S.1 12 3 ≤ 2001 := hI.fi 12 3 8 (by decide) rfl
                  refine sBv (sV (As := [.int (iv kb), .int (iv i0), .long (jv 0)]) (rest := []) (k := 12) Cx (x_X8_token l G S (kk := kb) (sr := i0) (v := 0) hI (by omega) (by omega) (by omega) (by omega)) (c_X8_49 Cx rfl rfl (rmk_ok (by omega) (by decide))) hW (by decide) rfl rfl rfl hl.1 rfl (Nat.le_of_ble_eq_true rfl) dX8_scanOne_185 ⟨Nat.le_of_ble_eq_true rfl, Nat.le_of_ble_eq_true rfl⟩) hL (fun u_15 H locs k_16 hW hL => ?_)
                  obtain ⟨iu_15, fu_15, xu_15⟩ := k_16
                  have F_17 := (Fr.rf : Fr S S pQ).trans fu_15
                  refine lv_iload_n hx hb dX8_scanOne_188 rfl (lv_at hl 5 rfl) ?_
                  refine lv_iconst (v := iv 1) hx hb dX8_scanOne_189 (by decide) ?_
                  refine r_iadd hx hb dX8_scanOne_190 ?_
                  exact sIret Cx hr hlk hW hL ⟨iu_15, F_17, ⟨(fun h => absurd (qb.mp h) (by omega)), (fun _ => by have q1 : eOf (S.2.1 (t + 1)) (S.1 t 1) i0 = i0 + 1 := (by unfold eOf; rw [if_neg hnl, if_neg hnd]; exact (if_neg (fun z => hnt (by rw [exb]; exact (sg_c (t := t) (i := i0) hB).2.mpr z)))); have q0 : kb = sg1 (cb (S.2.1 (t + 1)) (S.1 t 1) i0) := (by rw [hkb, exb]; exact (sg_c (t := t) (i := i0) hB).1); have q2 : kOf (S.2.1 (t + 1)) (S.1 t 1) i0 = kb := (by unfold kOf; rw [if_neg hnl, if_neg hnd]; exact ((if_neg (fun z => hnt (by rw [exb]; exact (sg_c (t := t) (i := i0) hB).2.mpr z)))).trans q0.symm); exact ⟨q1.symm, 0, (by rw [q2]; exact xu_15), fun _ => (by unfold vOf; rw [if_neg hnl, if_neg hnd])⟩)⟩⟩ dX8_scanOne_191
                refine lv_iload_n hx hb dX8_scanOne_158 rfl (lv_at hl 2 rfl) ?_
                refine lv_bipush (v := iv 61) hx hb dX8_scanOne_159 (by decide) ?_
                refine r_icmp_ne (tgt := 169) hx hb ⟨(by omega), (by omega)⟩ ⟨(by omega), (by omega)⟩ dX8_scanOne_161 (by decide) (fun c_18 => ?_) (fun c_18 => ?_)
                · refine lv_iload hx hb dX8_scanOne_169 (lv_at hl 0 rfl) ?_
                  refine r_if_lt (tgt := 182) hx hb ⟨(by omega), (by omega)⟩ dX8_scanOne_171 (by decide) (fun c_19 => ?_) (fun c_19 => ?_)
                  · refine lv_iconst (v := iv 1) hx hb dX8_scanOne_182 (by decide) ?_
                    exact join_183 1 _ _ _ (by omega) (by rw [sgx_k hsg, if_neg (by omega), if_neg (by omega)]; exact rfl) hW hL (lv_sub hl [0, 1, 2, 3, 4, 5] rfl)
                  · refine lv_bipush (v := iv 15) hx hb dX8_scanOne_174 (by decide) ?_
                    refine lv_iload hx hb dX8_scanOne_176 (lv_at hl 0 rfl) ?_
                    refine r_iadd hx hb dX8_scanOne_178 ?_
                    refine lv_goto (tgt := 183) hx hb dX8_scanOne_179 (by decide) ?_
                    exact join_183 (15 + sg) _ _ _ (by omega) (by rw [sgx_k hsg, if_neg (by omega), if_pos (by omega)]; exact rfl) hW hL (lv_sub hl [0, 1, 2, 3, 4, 5] rfl)
                · refine lv_bipush (v := iv 13) hx hb dX8_scanOne_164 (by decide) ?_
                  refine lv_goto (tgt := 183) hx hb dX8_scanOne_166 (by decide) ?_
                  exact join_183 13 _ _ _ (by omega) (by rw [sgx_k hsg, if_pos (by omega)]; exact rfl) hW hL (lv_sub hl [0, 1, 2, 3, 4, 5] rfl)
              refine lv_iload_n hx hb dX8_scanOne_137 rfl (lv_at hl 1 rfl) ?_
              refine lv_sipush (v := iv 128) hx hb dX8_scanOne_138 (by decide) ?_
              refine r_icmp_ge (tgt := 154) hx hb ⟨(by omega), (by omega)⟩ ⟨(by omega), (by omega)⟩ dX8_scanOne_141 (by decide) (fun c_20 => ?_) (fun c_20 => ?_)
              · refine lv_iconst (v := iv (-1)) hx hb dX8_scanOne_154 (by decide) ?_
                exact join_155 ((-1)) _ _ _ (by omega) (.inr ⟨by omega, rfl⟩) hW hL (lv_sub hl [0, 1, 2, 3, 4] rfl)
              · refine zLdc Cx 0 (by decide) ⟨rfl, rfl⟩ dX8_scanOne_144 ?_
                refine lv_iload_n hx hb dX8_scanOne_146 rfl (lv_at hl 1 rfl) ?_
                refine r_i2c hx hb ⟨(by omega), (by omega)⟩ dX8_scanOne_147 ?_
                refine sBi (sVz (As := [.int (iv xb)]) (rest := []) (a := G.1.2 100 0) Cx (x_J0_indexOf_b l G S (si := 0) (k := xb) (by decide) ⟨by omega, by omega, by decide⟩) (c_X8_71 Cx rfl rfl (rmk_ok (by omega) (by decide))) hW (zRecv Cx hW0 hW (by decide)) rfl hl.1 rfl (Nat.le_of_ble_eq_true rfl) dX8_scanOne_148 ⟨Nat.le_of_ble_eq_true rfl, Nat.le_of_ble_eq_true rfl⟩) hL (fun r_23 u_21 H locs k_22 hW hL => ?_)
                obtain ⟨eu_21, xu_21⟩ := k_22
                rw [eu_21] at hW
                have h10 : ((strN.getD 0 0 : Nat) : Int) = 10 := by decide
                refine lv_goto (tgt := 155) hx hb dX8_scanOne_151 (by decide) ?_
                exact join_155 r_23 _ _ _ (by have q1 := xu_21; rcases q1 with q1 | q1 <;> omega) (.inl ⟨by omega, xu_21⟩) hW hL (lv_sub hl [0, 1, 2, 3, 4] rfl)
            refine lv_iload hx hb dX8_scanOne_80 (lv_at hl 0 rfl) ?_
            refine r_if_eq (tgt := 137) hx hb ⟨(by omega), (by omega)⟩ dX8_scanOne_82 (by decide) (fun c_24 => ?_) (fun c_24 => ?_)
            · exact join_137  _ _ _ (fun z => by have q1 := two_x z; have q2 := htw.2.2; by_cases q : tw = 0; (exact q2 q q1.2); omega) hW hL (lv_sub hl [0, 1, 2, 3, 4] rfl)
            · have join_103 : ∀  (H : Heap) (locs : List Loc) (ls : Array Slot), (xb = 46 ∨ xb = 60 ∨ xb = 62) → sW G 294 S H → sL G locs → lv_has ls 6 [(4, .int (iv tw)), (3, .int (iv xb)), (0, .ref (G.2.2.1 + 12)), (1, .ref (G.2.2.1 + t)), (2, .int (iv i0))] → W p l e (rmk 5 0 0) s m args below meth c H locs 0 0 (MQ below (sQi G 294 (fun r u => cX G u 0 0 0 ∧ Fr S u pQ ∧ (Hd (stB (S.2.1 (t + 1)) (S.1 t 1) i0 → r = i0 + 1 ∧ tk0 S u) ∧ Hd (¬ stB (S.2.1 (t + 1)) (S.1 t 1) i0 → r = eOf (S.2.1 (t + 1)) (S.1 t 1) i0 ∧ tkB S u (kOf (S.2.1 (t + 1)) (S.1 t 1) i0) i0 (vOf (S.2.1 (t + 1)) (S.1 t 1) i0))))) args s 0 0 (sF G)) (F0 m 103 ls []) := by
                intro  H locs ls hyt hW hL hl
                refine lv_aload_n hx hb dX8_scanOne_103 rfl (lv_at hl 2 rfl) ?_
                have join_128 : ∀ (ka : Int) (H : Heap) (locs : List Loc) (ls : Array Slot), (2 ≤ ka ∧ ka ≤ 26) → (Hd (ka = sg2 xb)) → sW G 294 S H → sL G locs → lv_has ls 6 [(4, .int (iv tw)), (3, .int (iv xb)), (0, .ref (G.2.2.1 + 12)), (1, .ref (G.2.2.1 + t)), (2, .int (iv i0))] → W p l e (rmk 5 0 0) s m args below meth c H locs 0 0 (MQ below (sQi G 294 (fun r u => cX G u 0 0 0 ∧ Fr S u pQ ∧ (Hd (stB (S.2.1 (t + 1)) (S.1 t 1) i0 → r = i0 + 1 ∧ tk0 S u) ∧ Hd (¬ stB (S.2.1 (t + 1)) (S.1 t 1) i0 → r = eOf (S.2.1 (t + 1)) (S.1 t 1) i0 ∧ tkB S u (kOf (S.2.1 (t + 1)) (S.1 t 1) i0) i0 (vOf (S.2.1 (t + 1)) (S.1 t 1) i0))))) args s 0 0 (sF G)) (F0 m 128 ls [.int (iv ka), .ref (G.2.2.1 + 12)]) := by
                  intro ka H locs ls hkar hka hW hL hl
                  refine lv_iload_n hx hb dX8_scanOne_128 rfl (lv_at hl 4 rfl) ?_
                  refine lv_lconst (v := jv 0) hx hb dX8_scanOne_129 (by decide) ?_
                  have q_25 : 0 ≤ S.1 12 3 ∧ S.1 12 3 ≤ 2001 := hI.fi 12 3 8 (by decide) rfl
                  refine sBv (sV (As := [.int (iv ka), .int (iv i0), .long (jv 0)]) (rest := []) (k := 12) Cx (x_X8_token l G S (kk := ka) (sr := i0) (v := 0) hI (by omega) (by omega) (by omega) (by omega)) (c_X8_49 Cx rfl rfl (rmk_ok (by omega) (by decide))) hW (by decide) rfl rfl rfl hl.1 rfl (Nat.le_of_ble_eq_true rfl) dX8_scanOne_130 ⟨Nat.le_of_ble_eq_true rfl, Nat.le_of_ble_eq_true rfl⟩) hL (fun u_26 H locs k_27 hW hL => ?_)
                  obtain ⟨iu_26, fu_26, xu_26⟩ := k_27
                  have F_28 := (Fr.rf : Fr S S pQ).trans fu_26
                  refine lv_iload_n hx hb dX8_scanOne_133 rfl (lv_at hl 4 rfl) ?_
                  refine lv_iconst (v := iv 2) hx hb dX8_scanOne_134 (by decide) ?_
                  refine r_iadd hx hb dX8_scanOne_135 ?_
                  exact sIret Cx hr hlk hW hL ⟨iu_26, F_28, ⟨(fun h => absurd (qb.mp h) (by omega)), (fun _ => by have q1 : eOf (S.2.1 (t + 1)) (S.1 t 1) i0 = i0 + 2 := (by unfold eOf; rw [if_neg hnl, if_neg hnd]; exact if_pos ((sg_c (t := t) (i := i0) hB).2.mp (by rw [← exb]; exact (two_tw hyt).mpr (htw.2.1 (by omega))))); have q0 : ka = sg2 (cb (S.2.1 (t + 1)) (S.1 t 1) i0) := (by rw [hka, exb]; rcases bt_c hB i0 with q | q | q; (rw [q.1]); (exfalso; omega); (exfalso; omega)); have q2 : kOf (S.2.1 (t + 1)) (S.1 t 1) i0 = ka := (by unfold kOf; rw [if_neg hnl, if_neg hnd]; exact (if_pos ((sg_c (t := t) (i := i0) hB).2.mp (by rw [← exb]; exact (two_tw hyt).mpr (htw.2.1 (by omega))))).trans q0.symm); exact ⟨q1.symm, 0, (by rw [q2]; exact xu_26), fun _ => (by unfold vOf; rw [if_neg hnl, if_neg hnd])⟩)⟩⟩ dX8_scanOne_136
                refine lv_iload_n hx hb dX8_scanOne_104 rfl (lv_at hl 1 rfl) ?_
                refine lv_bipush (v := iv 46) hx hb dX8_scanOne_105 (by decide) ?_
                refine r_icmp_ne (tgt := 115) hx hb ⟨(by omega), (by omega)⟩ ⟨(by omega), (by omega)⟩ dX8_scanOne_107 (by decide) (fun c_29 => ?_) (fun c_29 => ?_)
                · refine lv_iload_n hx hb dX8_scanOne_115 rfl (lv_at hl 1 rfl) ?_
                  refine lv_bipush (v := iv 60) hx hb dX8_scanOne_116 (by decide) ?_
                  refine r_icmp_ne (tgt := 126) hx hb ⟨(by omega), (by omega)⟩ ⟨(by omega), (by omega)⟩ dX8_scanOne_118 (by decide) (fun c_30 => ?_) (fun c_30 => ?_)
                  · refine lv_bipush (v := iv 26) hx hb dX8_scanOne_126 (by decide) ?_
                    exact join_128 26 _ _ _ (by omega) (by unfold sg2; rw [if_neg (by omega), if_neg (by omega), if_pos (by omega)]; exact rfl) hW hL (lv_sub hl [0, 1, 2, 3, 4] rfl)
                  · refine lv_bipush (v := iv 25) hx hb dX8_scanOne_121 (by decide) ?_
                    refine lv_goto (tgt := 128) hx hb dX8_scanOne_123 (by decide) ?_
                    exact join_128 25 _ _ _ (by omega) (by unfold sg2; rw [if_neg (by omega), if_pos (by omega)]; exact rfl) hW hL (lv_sub hl [0, 1, 2, 3, 4] rfl)
                · refine lv_bipush (v := iv 14) hx hb dX8_scanOne_110 (by decide) ?_
                  refine lv_goto (tgt := 128) hx hb dX8_scanOne_112 (by decide) ?_
                  exact join_128 14 _ _ _ (by omega) (by unfold sg2; rw [if_pos (by omega)]; exact rfl) hW hL (lv_sub hl [0, 1, 2, 3, 4] rfl)
              refine lv_iload_n hx hb dX8_scanOne_85 rfl (lv_at hl 1 rfl) ?_
              refine lv_bipush (v := iv 46) hx hb dX8_scanOne_86 (by decide) ?_
              refine r_icmp_eq (tgt := 103) hx hb ⟨(by omega), (by omega)⟩ ⟨(by omega), (by omega)⟩ dX8_scanOne_88 (by decide) (fun c_31 => ?_) (fun c_31 => ?_)
              · exact join_103  _ _ _ (by omega) hW hL (lv_sub hl [0, 1, 2, 3, 4] rfl)
              · refine lv_iload_n hx hb dX8_scanOne_91 rfl (lv_at hl 1 rfl) ?_
                refine lv_bipush (v := iv 60) hx hb dX8_scanOne_92 (by decide) ?_
                refine r_icmp_eq (tgt := 103) hx hb ⟨(by omega), (by omega)⟩ ⟨(by omega), (by omega)⟩ dX8_scanOne_94 (by decide) (fun c_32 => ?_) (fun c_32 => ?_)
                · exact join_103  _ _ _ (by omega) hW hL (lv_sub hl [0, 1, 2, 3, 4] rfl)
                · refine lv_iload_n hx hb dX8_scanOne_97 rfl (lv_at hl 1 rfl) ?_
                  refine lv_bipush (v := iv 62) hx hb dX8_scanOne_98 (by decide) ?_
                  refine r_icmp_ne (tgt := 137) hx hb ⟨(by omega), (by omega)⟩ ⟨(by omega), (by omega)⟩ dX8_scanOne_100 (by decide) (fun c_33 => ?_) (fun c_33 => ?_)
                  · exact join_137  _ _ _ (fun z => by have q1 := two_x z; have q2 := htw.2.2; by_cases q : tw = 0; (exact q2 q q1.2); omega) hW hL (lv_sub hl [0, 1, 2, 3, 4] rfl)
                  · exact join_103  _ _ _ (by omega) hW hL (lv_sub hl [0, 1, 2, 3, 4] rfl)
          refine lv_aload_n hx hb dX8_scanOne_50 rfl (lv_at hl 2 rfl) ?_
          refine lv_iload_n hx hb dX8_scanOne_51 rfl (lv_at hl 3 rfl) ?_
          refine lv_iconst (v := iv 1) hx hb dX8_scanOne_52 (by decide) ?_
          refine r_iadd hx hb dX8_scanOne_53 ?_
          refine sBi (sV (As := [.int (iv (i0 + 1))]) (rest := []) (k := t) Cx (s_X10_byteAt l G S (o := t) (k := i0 + 1) (N := N) hI ht (by omega)) (c_X8_53 Cx rfl rfl (rmk_ok (by omega) (by decide))) hW (Nat.lt_trans ht.1 (by decide)) ht.2.1 rfl rfl hl.1 rfl (Nat.le_of_ble_eq_true rfl) dX8_scanOne_54 ⟨Nat.le_of_ble_eq_true rfl, Nat.le_of_ble_eq_true rfl⟩) hL (fun r_36 u_34 H locs k_35 hW hL => ?_)
          obtain ⟨eu_34, xu_34⟩ := k_35
          rw [eu_34] at hW
          refine lv_iload_n hx hb dX8_scanOne_57 rfl (lv_at hl 0 rfl) ?_
          refine lv_bipush (v := iv 46) hx hb dX8_scanOne_58 (by decide) ?_
          refine r_icmp_ne (tgt := 68) hx hb ⟨(by omega), (by omega)⟩ ⟨(by omega), (by omega)⟩ dX8_scanOne_60 (by decide) (fun c_37 => ?_) (fun c_37 => ?_)
          · refine lv_bipush (v := iv 61) hx hb dX8_scanOne_68 (by decide) ?_
            refine r_icmp_ne (tgt := 77) hx hb ⟨(by omega), (by omega)⟩ ⟨(by omega), (by omega)⟩ dX8_scanOne_70 (by decide) (fun c_38 => ?_) (fun c_38 => ?_)
            · refine lv_iconst (v := iv 0) hx hb dX8_scanOne_77 (by decide) ?_
              exact join_78 0 _ _ _ ⟨(by omega), (fun h => absurd h (by decide)), (fun _ z => by have q1 := xu_34.1; omega)⟩ hW hL (lv_sub hl [0, 1, 2, 3] rfl)
            · refine lv_iconst (v := iv 1) hx hb dX8_scanOne_73 (by decide) ?_
              refine lv_goto (tgt := 78) hx hb dX8_scanOne_74 (by decide) ?_
              exact join_78 1 _ _ _ ⟨(by omega), (fun _ => by have q1 := xu_34.1; omega), (fun h => absurd h (by decide))⟩ hW hL (lv_sub hl [0, 1, 2, 3] rfl)
          · refine lv_bipush (v := iv 46) hx hb dX8_scanOne_63 (by decide) ?_
            refine lv_goto (tgt := 70) hx hb dX8_scanOne_65 (by decide) ?_
            refine r_icmp_ne (tgt := 77) hx hb ⟨(by omega), (by omega)⟩ ⟨(by omega), (by omega)⟩ dX8_scanOne_70 (by decide) (fun c_39 => ?_) (fun c_39 => ?_)
            · refine lv_iconst (v := iv 0) hx hb dX8_scanOne_77 (by decide) ?_
              exact join_78 0 _ _ _ ⟨(by omega), (fun h => absurd h (by decide)), (fun _ z => by have q1 := xu_34.1; omega)⟩ hW hL (lv_sub hl [0, 1, 2, 3] rfl)
            · refine lv_iconst (v := iv 1) hx hb dX8_scanOne_73 (by decide) ?_
              refine lv_goto (tgt := 78) hx hb dX8_scanOne_74 (by decide) ?_
              exact join_78 1 _ _ _ ⟨(by omega), (fun _ => by have q1 := xu_34.1; omega), (fun h => absurd h (by decide))⟩ hW hL (lv_sub hl [0, 1, 2, 3] rfl)
        · have hdg : isDg (cb (S.2.1 (t + 1)) (S.1 t 1) i0) := (dg_bt hB).mp (by rw [← exb]; exact xu_10.2.1 (by omega))
          refine lv_aload_n hx hb dX8_scanOne_43 rfl (lv_at hl 1 rfl) ?_
          refine lv_aload_n hx hb dX8_scanOne_44 rfl (lv_at hl 2 rfl) ?_
          refine lv_iload_n hx hb dX8_scanOne_45 rfl (lv_at hl 3 rfl) ?_
          have q_40 : 0 ≤ S.1 12 3 ∧ S.1 12 3 ≤ 2001 := hI.fi 12 3 8 (by decide) rfl
          refine sBi (sV (As := [.ref (G.2.2.1 + t), .int (iv i0)]) (rest := []) (k := 12) Cx (x_X8_scanNumber l G S (t := t) (i0 := i0) (N := N) hI ht (by omega) (by omega) hdg) (c_X8_66 Cx rfl rfl (rmk_ok (by omega) (by decide))) hW (by decide) rfl rfl rfl hl.1 rfl (Nat.le_of_ble_eq_true rfl) dX8_scanOne_46 ⟨Nat.le_of_ble_eq_true rfl, Nat.le_of_ble_eq_true rfl⟩) hL (fun r_43 u_41 H locs k_42 hW hL => ?_)
          obtain ⟨iu_41, fu_41, xu_41⟩ := k_42
          have F_44 := (Fr.rf : Fr S S pQ).trans fu_41
          exact sIret Cx hr hlk hW hL ⟨iu_41, F_44, ⟨(fun h => absurd (qb.mp h) (by omega)), (fun _ => xu_41)⟩⟩ dX8_scanOne_49
      · have hlt : isLt (cb (S.2.1 (t + 1)) (S.1 t 1) i0) := (lt_bt hB).mp (by rw [← exb]; exact xu_6.2.1 (by omega))
        refine lv_aload_n hx hb dX8_scanOne_29 rfl (lv_at hl 1 rfl) ?_
        refine lv_aload_n hx hb dX8_scanOne_30 rfl (lv_at hl 2 rfl) ?_
        refine lv_iload_n hx hb dX8_scanOne_31 rfl (lv_at hl 3 rfl) ?_
        have q_45 : 0 ≤ S.1 12 3 ∧ S.1 12 3 ≤ 2001 := hI.fi 12 3 8 (by decide) rfl
        refine sBi (sV (As := [.ref (G.2.2.1 + t), .int (iv i0)]) (rest := []) (k := 12) Cx (x_X8_scanName l G S (t := t) (i0 := i0) (N := N) hI ht (by omega) (by omega) hlt) (c_X8_60 Cx rfl rfl (rmk_ok (by omega) (by decide))) hW (by decide) rfl rfl rfl hl.1 rfl (Nat.le_of_ble_eq_true rfl) dX8_scanOne_32 ⟨Nat.le_of_ble_eq_true rfl, Nat.le_of_ble_eq_true rfl⟩) hL (fun r_48 u_46 H locs k_47 hW hL => ?_)
        obtain ⟨iu_46, fu_46, xu_46⟩ := k_47
        have F_49 := (Fr.rf : Fr S S pQ).trans fu_46
        exact sIret Cx hr hlk hW hL ⟨iu_46, F_49, ⟨(fun h => absurd (qb.mp h) (by omega)), (fun _ => xu_46)⟩⟩ dX8_scanOne_35
    · refine lv_iload_n hx hb dX8_scanOne_18 rfl (lv_at hl 3 rfl) ?_
      refine lv_iconst (v := iv 1) hx hb dX8_scanOne_19 (by decide) ?_
      refine r_iadd hx hb dX8_scanOne_20 ?_
      exact sIret Cx hr hlk hW hL ⟨hI, (Fr.rf : Fr S S pQ), ⟨(fun _ => ⟨rfl, rfl, rfl, rfl, rfl⟩), (fun h => absurd (qb.mpr (by omega)) h)⟩⟩ dX8_scanOne_21

theorem hold {B : Int → Int} {n : Int} {u : sS} {i : Int} (h : TKI B n u i) (h0 : 0 < u.1 12 3) (h1 : u.2.1 13 (u.1 12 3 - 1) = 1) : False := by
  have a := h.2 (u.1 12 3 - 1).toNat (by omega)
  rw [show (((u.1 12 3 - 1).toNat : Nat) : Int) = u.1 12 3 - 1 by omega] at a
  omega

set_option maxRecDepth 100000 in
set_option maxHeartbeats 4000000 in
theorem x_X8_scan (l : Launch) (G : sG) (S : sS) {t N : Nat} (hI : cX G S 0 0 0) (ht : txt t N) (hn : (S.1 t 1) ≤ 2000) : Met l yX8_scan (.code yX8_scan cX8_scan 5 none :: tb) (rmk 6 0 0) (sPc G 294 S [.ref (G.2.2.1 + 12), .ref (G.2.2.1 + t)]) (sQv G 294 (fun u => cX G u 0 0 0 ∧ Fr S u pQ ∧ (Hd (TKS (S.2.1 (t + 1)) (S.1 t 1) (u.1 12 3) (u.2.1 13) (u.2.2.1 15) (u.2.1 14)) ∧ Hd (u.2.1 13 (u.1 12 3 - 1) = 0 → u.2.2.1 15 (u.1 12 3 - 1) = 0)))) 0 0 (sF G) := by
  refine sEnter (by decide) (Nat.le_of_ble_eq_true rfl) ?_
  intro p e s m args below meth c Cx hr hlk hnm hW ls hl
  have Cx : sC G p m c cX8_scan 5 s args RX8 := Cx
  obtain ⟨hx, hb, hml, hown, hts⟩ := id Cx.1
  have hL : sL G [] := sL_nil
  have hl : lv_has ls 5 [(0, .ref (G.2.2.1 + 12)), (1, .ref (G.2.2.1 + t))] := hl
  have hW0 := hW
  have hN3 := ht.2.2.2.2.2
  have hB := fun j => txt_r ht hI j
  refine lv_aload_n hx hb dX8_scan_0 rfl (lv_at hl 0 rfl) ?_
  refine lv_iconst (v := iv 0) hx hb dX8_scan_1 (by decide) ?_
  refine p_X8_22 Cx hW hL (k := 12) (by decide) rfl dX8_scan_2 (fun H locs hW hL => ?_)
  have F_1 : Fr S (uF S 12 3 0) pQ := (Fr.rf : Fr S S pQ).F rfl
  have i_2 : cX G (uF S 12 3 0) 0 0 0 := hI.F rfl rfl (show 0 ≤ 0 ∧ 0 ≤ 2001 from ⟨by omega, by omega⟩)
  refine lv_aload_n hx hb dX8_scan_5 rfl (lv_at hl 1 rfl) ?_
  have q_3 : 0 ≤ S.1 t 1 ∧ S.1 t 1 ≤ (N : Int) := txt_len ht hI
  have lk_4 : (uF S 12 3 0).1 t 1 = S.1 t 1 := uF_ne (fun h => absurd h.2 (by decide))
  refine sBi (sV (As := []) (rest := []) (k := t) Cx (s_X10_length l G (uF S 12 3 0) (o := t) (N := N) i_2 ht) (c_X8_33 Cx rfl rfl (rmk_ok (by omega) (by decide))) hW (Nat.lt_trans ht.1 (by decide)) ht.2.1 rfl rfl hl.1 rfl (Nat.le_of_ble_eq_true rfl) dX8_scan_6 ⟨Nat.le_of_ble_eq_true rfl, Nat.le_of_ble_eq_true rfl⟩) hL (fun r_7 u_5 H locs k_6 hW hL => ?_)
  obtain ⟨eu_5, xu_5⟩ := k_6
  rw [eu_5] at hW
  refine lv_sipush (v := iv 2000) hx hb dX8_scan_9 (by decide) ?_
  refine r_min hx hb (hml.trans hl.1.symm) hown (hts _ w_776) (hts _ w_777) (hts _ w_206) (hts _ w_778) (rmk_f (by omega)) (rmk_l (by omega) (Nat.le_of_ble_eq_true rfl)) (Nat.le_of_ble_eq_true rfl) (Nat.le_of_ble_eq_true rfl) ⟨(by omega), (by omega)⟩ ⟨(by omega), (by omega)⟩ dX8_scan_12 (fun z_l hz_l => ?_)
  refine lv_istore_n (lv' := [(2, .int (iv z_l)), (0, .ref (G.2.2.1 + 12)), (1, .ref (G.2.2.1 + t))]) hx hb dX8_scan_15 rfl hl (by decide) rfl (fun ls hl => ?_)
  refine lv_iconst (v := iv 0) hx hb dX8_scan_16 (by decide) ?_
  refine lv_istore_n (lv' := [(3, .int (iv 0)), (2, .int (iv z_l)), (0, .ref (G.2.2.1 + 12)), (1, .ref (G.2.2.1 + t))]) hx hb dX8_scan_17 rfl hl (by decide) rfl (fun ls hl => ?_)
  refine lv_iconst (v := iv 0) hx hb dX8_scan_18 (by decide) ?_
  refine lv_istore (lv' := [(4, .int (iv 0)), (3, .int (iv 0)), (2, .int (iv z_l)), (0, .ref (G.2.2.1 + 12)), (1, .ref (G.2.2.1 + t))]) hx hb dX8_scan_19 hl (by decide) rfl (fun ls hl => ?_)
  have loop_21 : ∀ (fuel : Nat) (S21 : sS) (tn : Int) (i : Int) (H : Heap) (locs : List Loc) (ls : Array Slot), (2000 - tn).toNat < fuel → (cX G S21 0 0 0) → (Fr S S21 pQ) → (Fr ((uF S 12 3 0)) S21 pQ) → (0 ≤ i ∧ i ≤ (S.1 t 1)) → (0 ≤ tn ∧ tn ≤ i) → (0 ≤ S21.1 12 3 ∧ S21.1 12 3 ≤ tn) → (Hd (TKI (S.2.1 (t + 1)) (S.1 t 1) S21 i)) → sW G 294 S21 H → sL G locs → lv_has ls 5 [(4, .int (iv tn)), (3, .int (iv i)), (2, .int (iv z_l)), (0, .ref (G.2.2.1 + 12)), (1, .ref (G.2.2.1 + t))] → W p l e (rmk 6 0 0) s m args below meth c H locs 0 0 (MQ below (sQv G 294 (fun u => cX G u 0 0 0 ∧ Fr S u pQ ∧ (Hd (TKS (S.2.1 (t + 1)) (S.1 t 1) (u.1 12 3) (u.2.1 13) (u.2.2.1 15) (u.2.1 14)) ∧ Hd (u.2.1 13 (u.1 12 3 - 1) = 0 → u.2.2.1 15 (u.1 12 3 - 1) = 0)))) args s 0 0 (sF G)) (F0 m 21 ls []) := by
    intro fuel
    induction fuel with
    | zero => intro S21 tn i H locs ls hmeas hI21 hFm21 hL21_ hi htn h12 hki hW hL hl; exact absurd hmeas (Nat.not_lt_zero _)
    | succ fuel ih_21 =>
      intro S21 tn i H locs ls hmeas hI21 hFm21 hL21_ hi htn h12 hki hW hL hl
      refine lv_iload hx hb dX8_scan_21 (lv_at hl 0 rfl) ?_
      refine lv_sipush (v := iv 2000) hx hb dX8_scan_23 (by decide) ?_
      refine r_icmp_ge (tgt := 70) hx hb ⟨(by omega), (by omega)⟩ ⟨(by omega), (by omega)⟩ dX8_scan_26 (by decide) (fun c_8 => ?_) (fun c_8 => ?_)
      · refine lv_aload_n hx hb dX8_scan_70 rfl (lv_at hl 3 rfl) ?_
        refine lv_iconst (v := iv 0) hx hb dX8_scan_71 (by decide) ?_
        refine lv_iload_n hx hb dX8_scan_72 rfl (lv_at hl 2 rfl) ?_
        refine lv_lconst (v := jv 0) hx hb dX8_scan_73 (by decide) ?_
        have q_9 : 0 ≤ S21.1 12 3 ∧ S21.1 12 3 ≤ 2001 := hI21.fi 12 3 8 (by decide) rfl
        refine sBv (sV (As := [.int (iv 0), .int (iv z_l), .long (jv 0)]) (rest := []) (k := 12) Cx (x_X8_token l G S21 (kk := 0) (sr := z_l) (v := 0) hI21 (by omega) (by omega) (by omega) (by omega)) (c_X8_49 Cx rfl rfl (rmk_ok (by omega) (by decide))) hW (by decide) rfl rfl rfl hl.1 rfl (Nat.le_of_ble_eq_true rfl) dX8_scan_74 ⟨Nat.le_of_ble_eq_true rfl, Nat.le_of_ble_eq_true rfl⟩) hL (fun u_10 H locs k_11 hW hL => ?_)
        obtain ⟨iu_10, fu_10, xu_10⟩ := k_11
        have F_12 := hFm21.trans fu_10
        have F_13 := hL21_.trans fu_10
        have q_14 : 0 ≤ u_10.1 12 3 ∧ u_10.1 12 3 ≤ 2001 := iu_10.fi 12 3 8 (by decide) rfl
        exact sVret Cx hr hlk hW hL ⟨iu_10, F_12, ⟨(hki.fin (by omega) (by omega) (by have q1 := xu_10; have q2 : z_l = (S.1 t 1) := (by omega); rw [q2] at q1; exact q1)), (fun _ => tkA_z xu_10)⟩⟩ dX8_scan_77
      · refine lv_iload_n hx hb dX8_scan_29 rfl (lv_at hl 1 rfl) ?_
        refine lv_iload_n hx hb dX8_scan_30 rfl (lv_at hl 2 rfl) ?_
        refine r_icmp_ge (tgt := 70) hx hb ⟨(by omega), (by omega)⟩ ⟨(by omega), (by omega)⟩ dX8_scan_31 (by decide) (fun c_15 => ?_) (fun c_15 => ?_)
        · refine lv_aload_n hx hb dX8_scan_70 rfl (lv_at hl 3 rfl) ?_
          refine lv_iconst (v := iv 0) hx hb dX8_scan_71 (by decide) ?_
          refine lv_iload_n hx hb dX8_scan_72 rfl (lv_at hl 2 rfl) ?_
          refine lv_lconst (v := jv 0) hx hb dX8_scan_73 (by decide) ?_
          have q_16 : 0 ≤ S21.1 12 3 ∧ S21.1 12 3 ≤ 2001 := hI21.fi 12 3 8 (by decide) rfl
          refine sBv (sV (As := [.int (iv 0), .int (iv z_l), .long (jv 0)]) (rest := []) (k := 12) Cx (x_X8_token l G S21 (kk := 0) (sr := z_l) (v := 0) hI21 (by omega) (by omega) (by omega) (by omega)) (c_X8_49 Cx rfl rfl (rmk_ok (by omega) (by decide))) hW (by decide) rfl rfl rfl hl.1 rfl (Nat.le_of_ble_eq_true rfl) dX8_scan_74 ⟨Nat.le_of_ble_eq_true rfl, Nat.le_of_ble_eq_true rfl⟩) hL (fun u_17 H locs k_18 hW hL => ?_)
          obtain ⟨iu_17, fu_17, xu_17⟩ := k_18
          have F_19 := hFm21.trans fu_17
          have F_20 := hL21_.trans fu_17
          have q_21 : 0 ≤ u_17.1 12 3 ∧ u_17.1 12 3 ≤ 2001 := iu_17.fi 12 3 8 (by decide) rfl
          exact sVret Cx hr hlk hW hL ⟨iu_17, F_19, ⟨(hki.fin (by omega) (by omega) (by have q1 := xu_17; have q2 : z_l = (S.1 t 1) := (by omega); rw [q2] at q1; exact q1)), (fun _ => tkA_z xu_17)⟩⟩ dX8_scan_77
        · refine lv_aload_n hx hb dX8_scan_34 rfl (lv_at hl 3 rfl) ?_
          refine lv_aload_n hx hb dX8_scan_35 rfl (lv_at hl 4 rfl) ?_
          refine lv_iload_n hx hb dX8_scan_36 rfl (lv_at hl 1 rfl) ?_
          have lk_22 : S21.1 t 1 = S.1 t 1 := ((hL21_ t (txt_pQ ht).1).1 1).trans (uF_ne (fun h => absurd h.2 (by decide)))
          have q_23 : 0 ≤ S21.1 12 3 ∧ S21.1 12 3 ≤ 2001 := hI21.fi 12 3 8 (by decide) rfl
          refine sBi (sV (As := [.ref (G.2.2.1 + t), .int (iv i)]) (rest := []) (k := 12) Cx (x_X8_scanOne l G S21 (t := t) (i0 := i) (N := N) hI21 ht (by omega) (by omega)) (c_X8_45 Cx rfl rfl (rmk_ok (by omega) (by decide))) hW (by decide) rfl rfl rfl hl.1 rfl (Nat.le_of_ble_eq_true rfl) dX8_scan_37 ⟨Nat.le_of_ble_eq_true rfl, Nat.le_of_ble_eq_true rfl⟩) hL (fun r_26 u_24 H locs k_25 hW hL => ?_)
          obtain ⟨iu_24, fu_24, xu_24⟩ := k_25
          have F_27 := hFm21.trans fu_24
          have F_28 := hL21_.trans fu_24
          have eT : S21.2.1 (t + 1) = (S.2.1 (t + 1)) := (funext fun j => ((hFm21 (t + 1) (txt_pQ ht).2).2.1 j))
          have eN : S21.1 t 1 = (S.1 t 1) := (hFm21 t (txt_pQ ht).1).1 1
          obtain ⟨y1u_24, y2u_24⟩ := xu_24
          rw [eT, eN] at y1u_24 y2u_24
          have gtu_24 := eOf_gt (B := (S.2.1 (t + 1))) (n := (S.1 t 1)) (p := i) (by omega) (by omega)
          have kru_24 := kOf_r (B := (S.2.1 (t + 1))) (n := (S.1 t 1)) (p := i)
          have hcase : (stB (S.2.1 (t + 1)) (S.1 t 1) i ∧ r_26 = i + 1 ∧ u_24.1 12 3 = S21.1 12 3 ∧ TKI (S.2.1 (t + 1)) (S.1 t 1) u_24 r_26) ∨ ((¬ stB (S.2.1 (t + 1)) (S.1 t 1) i) ∧ r_26 = eOf (S.2.1 (t + 1)) (S.1 t 1) i ∧ u_24.1 12 3 = S21.1 12 3 + 1 ∧ u_24.2.1 13 (u_24.1 12 3 - 1) = kOf (S.2.1 (t + 1)) (S.1 t 1) i ∧ (2 ≤ kOf (S.2.1 (t + 1)) (S.1 t 1) i → TKI (S.2.1 (t + 1)) (S.1 t 1) u_24 r_26) ∧ (kOf (S.2.1 (t + 1)) (S.1 t 1) i = 1 → TKS (S.2.1 (t + 1)) (S.1 t 1) (u_24.1 12 3) (u_24.2.1 13) (u_24.2.2.1 15) (u_24.2.1 14))) := (by by_cases q : stB (S.2.1 (t + 1)) (S.1 t 1) i; (have a := y1u_24 q; exact .inl ⟨q, a.1, a.2.1, (by rw [a.1]; exact hki.blank q a.2)⟩); (have a := y2u_24 q; obtain ⟨a1, v9, ⟨t1, t2, t3, t4⟩, a3⟩ := id a; exact .inr ⟨q, a1, t1, (by rw [t1, t2, if_pos (by omega)]), (fun z => by rw [a1]; exact hki.tok (by omega) q (by omega) a.2 z), (fun z => hki.bad (by omega) q (by omega) a.2 z)⟩))
          have hpos : i < r_26 ∧ r_26 ≤ (S.1 t 1) ∧ u_24.1 12 3 ≤ S21.1 12 3 + 1 ∧ 0 ≤ u_24.1 12 3 := (by rcases hcase with q | q; (have := stB_lt q.1; omega); omega)
          refine lv_istore_n (lv' := [(3, .int (iv r_26)), (4, .int (iv tn)), (2, .int (iv z_l)), (0, .ref (G.2.2.1 + 12)), (1, .ref (G.2.2.1 + t))]) hx hb dX8_scan_40 rfl hl (by decide) rfl (fun ls hl => ?_)
          refine lv_aload_n hx hb dX8_scan_41 rfl (lv_at hl 3 rfl) ?_
          have q_29 : 0 ≤ u_24.1 12 3 ∧ u_24.1 12 3 ≤ 2001 := iu_24.fi 12 3 8 (by decide) rfl
          refine g_X8_22 Cx hW (k := 12) (by decide) rfl (v := u_24.1 12 3) rfl dX8_scan_42 ?_
          refine r_if_le (tgt := 64) hx hb ⟨(by omega), (by omega)⟩ dX8_scan_45 (by decide) (fun c_30 => ?_) (fun c_30 => ?_)
          · refine lv_iinc (v := iv (tn + 1)) (lv' := [(4, .int (iv (tn + 1))), (3, .int (iv r_26)), (2, .int (iv z_l)), (0, .ref (G.2.2.1 + 12)), (1, .ref (G.2.2.1 + t))]) hx hb dX8_scan_64 hl (k := 1) rfl ((Int32.ofInt_add _ _).symm) (by decide) rfl (fun ls hl => ?_)
            refine lv_goto (tgt := 21) hx hb dX8_scan_67 (by decide) ?_
            exact ih_21 u_24 (tn + 1) r_26 _ _ _ (by omega) iu_24 F_27 F_28 (by omega) (by omega) (by omega) (by rcases hcase with q | q; (exact q.2.2.2); (exact q.2.2.2.2.1 (by have := q.2.2.2.1; omega))) hW hL (lv_sub hl [0, 1, 2, 3, 4] rfl)
          · refine lv_aload_n hx hb dX8_scan_48 rfl (lv_at hl 3 rfl) ?_
            refine g_X8_11 Cx hW (k := 12) (by decide) rfl (v := .ref (G.2.2.1 + 13)) (rf_12_0 iu_24) dX8_scan_49 ?_
            refine lv_aload_n hx hb dX8_scan_52 rfl (lv_at hl 3 rfl) ?_
            refine g_X8_22 Cx hW (k := 12) (by decide) rfl (v := u_24.1 12 3) rfl dX8_scan_53 ?_
            refine lv_iconst (v := iv 1) hx hb dX8_scan_56 (by decide) ?_
            refine r_isub hx hb dX8_scan_57 ?_
            refine rIald Cx hW (k := 13) (by decide) rfl (by decide) (by omega) (by omega) dX8_scan_58 ?_
            have q_31 : 0 ≤ u_24.2.1 13 ((u_24.1 12 3) - 1) ∧ u_24.2.1 13 ((u_24.1 12 3) - 1) ≤ 26 := iu_24.ai 13 ((u_24.1 12 3) - 1) (by decide)
            refine r_i (b := u_24.2.1 13 ((u_24.1 12 3) - 1)) rfl ?_
            refine lv_iconst (v := iv 1) hx hb dX8_scan_59 (by decide) ?_
            refine r_icmp_ne (tgt := 64) hx hb ⟨(by omega), (by omega)⟩ ⟨(by omega), (by omega)⟩ dX8_scan_60 (by decide) (fun c_32 => ?_) (fun c_32 => ?_)
            · refine lv_iinc (v := iv (tn + 1)) (lv' := [(4, .int (iv (tn + 1))), (3, .int (iv r_26)), (2, .int (iv z_l)), (0, .ref (G.2.2.1 + 12)), (1, .ref (G.2.2.1 + t))]) hx hb dX8_scan_64 hl (k := 1) rfl ((Int32.ofInt_add _ _).symm) (by decide) rfl (fun ls hl => ?_)
              refine lv_goto (tgt := 21) hx hb dX8_scan_67 (by decide) ?_
              exact ih_21 u_24 (tn + 1) r_26 _ _ _ (by omega) iu_24 F_27 F_28 (by omega) (by omega) (by omega) (by rcases hcase with q | q; (exact q.2.2.2); (exact q.2.2.2.2.1 (by have := q.2.2.2.1; omega))) hW hL (lv_sub hl [0, 1, 2, 3, 4] rfl)
            · exact sVret Cx hr hlk hW hL ⟨iu_24, F_27, ⟨(by rcases hcase with q | q; (exact (hold q.2.2.2 (by omega) (by omega)).elim); (exact q.2.2.2.2.2 (by have := q.2.2.2.1; omega))), (fun z => absurd z (by omega))⟩⟩ dX8_scan_63
  have lk_33 : (uF S 12 3 0).1 12 3 = 0 := uF_on
  exact loop_21 (_ + 1) (uF S 12 3 0) 0 0 _ _ _ (Nat.lt_succ_self _) i_2 F_1 Fr.rf (by omega) (by omega) (by omega) (TKI.zero uF_on) hW hL (lv_sub hl [0, 1, 2, 3, 4] rfl)
