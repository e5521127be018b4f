/-! The class's scanner and the tokens -/
theorem bt_c {S : sS} {t : Nat} (hB : ∀ j, -128 ≤ S.2.1 (t + 1) j ∧ S.2.1 (t + 1) j ≤ 127) (i : Int) : (bt S t i = cb (S.2.1 (t + 1)) (S.1 t 1) i ∧ 0 ≤ cb (S.2.1 (t + 1)) (S.1 t 1) i ∧ cb (S.2.1 (t + 1)) (S.1 t 1) i ≤ 127) ∨ (cb (S.2.1 (t + 1)) (S.1 t 1) i = 0 ∧ bt S t i = -1) ∨ (cb (S.2.1 (t + 1)) (S.1 t 1) i < 0 ∧ bt S t i = cb (S.2.1 (t + 1)) (S.1 t 1) i + 256 ∧ 128 ≤ bt S t i) := by
  have h := hB i
  unfold bt cb
  by_cases c : 0 ≤ i ∧ i < S.1 t 1
  · rw [if_pos c, if_pos c]; omega
  · rw [if_neg c, if_neg c]; omega
theorem lt_bt {S : sS} {t : Nat} {i : Int} (hB : ∀ j, -128 ≤ S.2.1 (t + 1) j ∧ S.2.1 (t + 1) j ≤ 127) : isLt (bt S t i) ↔ isLt (cb (S.2.1 (t + 1)) (S.1 t 1) i) := by
  have := bt_c hB i; unfold isLt; omega
theorem dg_bt {S : sS} {t : Nat} {i : Int} (hB : ∀ j, -128 ≤ S.2.1 (t + 1) j ∧ S.2.1 (t + 1) j ≤ 127) : isDg (bt S t i) ↔ isDg (cb (S.2.1 (t + 1)) (S.1 t 1) i) := by
  have := bt_c hB i; unfold isDg; omega
theorem bt_eqc {S : sS} {t : Nat} {i q : Int} (hB : ∀ j, -128 ≤ S.2.1 (t + 1) j ∧ S.2.1 (t + 1) j ≤ 127) (h0 : 1 ≤ q) (h1 : q ≤ 127) : bt S t i = q ↔ cb (S.2.1 (t + 1)) (S.1 t 1) i = q := by
  have := bt_c hB i; omega
theorem bt_B {S : sS} {t : Nat} {i : Int} (hB : ∀ j, -128 ≤ S.2.1 (t + 1) j ∧ S.2.1 (t + 1) j ≤ 127) (h : 1 ≤ bt S t i ∧ bt S t i ≤ 127) : bt S t i = S.2.1 (t + 1) i ∧ cb (S.2.1 (t + 1)) (S.1 t 1) i = S.2.1 (t + 1) i := by
  have a := bt_c hB i
  have b := cb_nz (B := S.2.1 (t + 1)) (n := S.1 t 1) (i := i) (by omega)
  omega
/-- one token more -/
def tkA (S u : sS) (k f v : Int) : Prop := u.1 12 3 = S.1 12 3 + 1 ∧ (∀ x, u.2.1 13 x = if x = S.1 12 3 then k else S.2.1 13 x) ∧ (∀ x, u.2.1 14 x = if x = S.1 12 3 then f else S.2.1 14 x) ∧ ∀ x, u.2.2.1 15 x = if x = S.1 12 3 then v else S.2.2.1 15 x
theorem tkA_z {S u : sS} {k f v : Int} (h : tkA S u k f v) : u.2.2.1 15 (u.1 12 3 - 1) = v := by
  rw [h.2.2.2, h.1, if_pos (by omega)]
def tkB (S u : sS) (k f v : Int) : Prop := ∃ v', tkA S u k f v' ∧ (2 ≤ k → v' = v)
theorem dvn_s {B : Int → Int} {p i : Int} (h : p ≤ i) : dvn B p (i + 1 - p).toNat = 10 * dvn B p (i - p).toNat + B i - 48 := by
  rw [show (i + 1 - p).toNat = (i - p).toNat + 1 by omega]
  show 10 * dvn B p (i - p).toNat + B (p + ((i - p).toNat : Int)) - 48 = _
  rw [show p + ((i - p).toNat : Int) = i by omega]
theorem pkn_s {B : Int → Int} {p i : Int} (h : p ≤ i) : pkn B p (i + 1 - p).toNat = pkn B p (i - p).toNat * 256 + B i := by
  rw [show (i + 1 - p).toNat = (i - p).toNat + 1 by omega]
  show pkn B p (i - p).toNat * 256 + B (p + ((i - p).toNat : Int)) = _
  rw [show p + ((i - p).toNat : Int) = i by omega]
/-- a String's byte -/
def sB (i : Nat) (k : Int) : Int := (strB.getD i []).getD k.toNat 0
def wv (k : Int) : Int := wordsL.getD k.toNat 0
section TOKC
variable {p : Program} {l : Launch} {e : Env} {R : Room} {s : State} {m : MethodId} {args : Array Value} {below : List Frame} {meth : Method} {c : Code} {H : Heap} {locs : List Loc} {cells slots : Nat} {Q : State → Prop}
variable {cc : ByteArray} {pc nL : Nat} {ls : Array Slot} {rest st0 : List Value} {G : sG} {n : Nat} {S S0 : sS} {own : String}
theorem clampN {k : Int} (h0 : 0 ≤ k) (h1 : k ≤ 1000) : (iv k).toNatClampNeg = k.toNat := by
  show (iv k).toInt.toNat = k.toNat
  rw [iv_toInt ⟨by omega, by omega⟩]
theorem wv_r : ∀ j : Nat, j < 9 → -9223372036854775808 ≤ wordsL.getD j 0 ∧ wordsL.getD j 0 ≤ 9223372036854775807 := by decide
theorem zWatE (Cx : sC G p m c cc nL s args own) (h0 : sW G n S0 s.heap) (hW : sW G n S H) (hL : sL G locs) {k : Int} (hk : 0 ≤ k ∧ k < 9) (hdg : decode cc pc = .ok (.laload, 1)) (kk : ∀ z : Int, -9223372036854775808 ≤ z → z ≤ 9223372036854775807 → z = wv k → W p l e R s m args below meth c H locs cells slots Q (F0 m (pc + 1) ls (.long (jv z) :: rest))) : W p l e R s m args below meth c H locs cells slots Q (F0 m pc ls (.int (iv k) :: .ref (G.1.2 102 0) :: rest)) := by
  have e1 := clampN hk.1 (by omega)
  have r := wv_r k.toNat (by omega)
  exact va_tl (v := .long (jv (wordsL.getD (iv k).toNatClampNeg 0))) Cx.1.1 Cx.1.2.1 (Cx.2.2.2.2.2.1.2.kept h0.old) (h0.wS hW hL) (iv_in hk.1 hk.2 (by omega)) rfl hdg (by rw [e1]; exact kk _ r.1 r.2 rfl)
theorem zByteE (Cx : sC G p m c cc nL s args own) (h0 : sW G n S0 s.heap) (hW : sW G n S H) (hL : sL G locs) {i : Nat} {k : Int} (hi : i < 38) (hk : 0 ≤ k ∧ k < (strN.getD i 0 : Nat)) (hdg : decode cc pc = .ok (.baload, 1)) (kk : ∀ z : Int, 0 ≤ z → z ≤ 127 → z = sB i k → W p l e R s m args below meth c H locs cells slots Q (F0 m (pc + 1) ls (.int (iv z) :: rest))) : W p l e R s m args below meth c H locs cells slots Q (F0 m pc ls (.int (iv k) :: .ref (G.1.2 101 i) :: rest)) := by
  have r := strN_r i hi
  have g := strB_g (i := i) (j := (iv k).toNatClampNeg) hi
  exact va_tb (v := .int (iv ((strB.getD i []).getD (iv k).toNatClampNeg 0))) Cx.1.1 Cx.1.2.1 ((Cx.2.2.2.2.2.2 i hi).2.2.2.2.kept h0.old) (h0.wS hW hL) (iv_in hk.1 hk.2 (by omega)) rfl hdg (kk _ g.1 g.2 (by rw [clampN hk.1 (by omega)]; rfl))
theorem r_i2bE (hx : p.tables.exec = Jvm.exec) (hb : c.code = cc) {a : Int} (ha : -2147483648 ≤ a ∧ a ≤ 2147483647) (hdg : decode cc pc = .ok (.i2b, 1)) (kk : ∀ z : Int, -128 ≤ z → z ≤ 127 → z = (a + 128) % 256 - 128 → W p l e R s m args below meth c H locs cells slots Q (F0 m (pc + 1) ls (.int (iv z) :: rest))) : W p l e R s m args below meth c H locs cells slots Q (F0 m pc ls (.int (iv a) :: rest)) := by
  refine lv_i2b hx hb hdg (v := iv (iv a).toInt8.toInt) ?_ (kk _ (by have := (iv a).toInt8.le_toInt; omega) (by have := (iv a).toInt8.toInt_lt; omega) ?_)
  · exact Int32.toInt_inj.mp (by rw [Int8.toInt_toInt32, iv_toInt (by have := (iv a).toInt8.le_toInt; have := (iv a).toInt8.toInt_lt; omega)])
  · rw [Int32.toInt_toInt8, iv_toInt ha]
    show a.bmod 256 = _
    unfold Int.bmod; simp only []; split <;> omega
end TOKC
def WP (w x kn : Int) : Prop := (kn = 2 ∧ ∀ j, 0 ≤ j → j < w → x ≠ wv j) ∨ ∃ j, 0 ≤ j ∧ j < w ∧ x = wv j ∧ kn = 4 + j
theorem WP.r {w x kn : Int} (h : WP w x kn) (hw : w ≤ 9) : 2 ≤ kn ∧ kn ≤ 12 := by
  rcases h with h | ⟨j, h⟩ <;> omega
theorem WP.yes {w x kn : Int} (h : WP w x kn) (hk : kn = 2) (h0 : 0 ≤ w) (e : x = wv w) : WP (w + 1) x (4 + w) := .inr ⟨w, h0, by omega, e, rfl⟩
theorem WP.no {w x kn : Int} (h : WP w x kn) (hk : kn = 2 → x ≠ wv w) : WP (w + 1) x kn := by
  rcases h with ⟨e, h⟩ | ⟨j, h0, h1, h2, h3⟩
  · refine .inl ⟨e, fun j j0 j1 => ?_⟩
    by_cases q : j = w
    · rw [q]; exact hk e
    · exact h j j0 (by omega)
  · exact .inr ⟨j, h0, by omega, h2, h3⟩
theorem wv_l : wv 0 = 7168376 ∧ wv 1 = 7170414 ∧ wv 2 = 7562612 ∧ wv 3 = 7364978 ∧ wv 4 = 7758194 ∧ wv 5 = 512853240933 ∧ wv 6 = 7499639 ∧ wv 7 = 7566701 ∧ wv 8 = 26990 := by decide
theorem WP.fin {x kn : Int} (h : WP 9 x kn) : kn = wdk x := by
  obtain ⟨w0, w1, w2, w3, w4, w5, w6, w7, w8⟩ := wv_l
  rcases h with ⟨e, h⟩ | ⟨j, h0, h1, h2, h3⟩
  · have a0 := h 0 (by omega) (by omega); have a1 := h 1 (by omega) (by omega); have a2 := h 2 (by omega) (by omega); have a3 := h 3 (by omega) (by omega); have a4 := h 4 (by omega) (by omega)
    have a5 := h 5 (by omega) (by omega); have a6 := h 6 (by omega) (by omega); have a7 := h 7 (by omega) (by omega); have a8 := h 8 (by omega) (by omega)
    rw [w0] at a0; rw [w1] at a1; rw [w2] at a2; rw [w3] at a3; rw [w4] at a4; rw [w5] at a5; rw [w6] at a6; rw [w7] at a7; rw [w8] at a8
    unfold wdk
    rw [if_neg a0, if_neg a1, if_neg a2, if_neg a3, if_neg a4, if_neg a5, if_neg a6, if_neg a7, if_neg a8, e]
  · have e : j = 0 ∨ j = 1 ∨ j = 2 ∨ j = 3 ∨ j = 4 ∨ j = 5 ∨ j = 6 ∨ j = 7 ∨ j = 8 := by omega
    rcases e with rfl | rfl | rfl | rfl | rfl | rfl | rfl | rfl | rfl <;> (rw [h2, h3]; decide)
theorem pw7 : ∀ w : Nat, w ≤ 7 → (256 : Int) ^ w ≤ 72057594037927936 := by
  intro w h
  have e : w = 0 ∨ w = 1 ∨ w = 2 ∨ w = 3 ∨ w = 4 ∨ w = 5 ∨ w = 6 ∨ w = 7 := by omega
  rcases e with rfl | rfl | rfl | rfl | rfl | rfl | rfl | rfl <;> decide
theorem j_in {x z q : Int} (h0 : 0 ≤ x) (h1 : x < 9223372036854775808) (h2 : -9223372036854775808 ≤ z) (h3 : z ≤ 9223372036854775807) (e : z = x + 18446744073709551616 * q) : z = x := by
  have a : ¬ (q ≤ -1) := fun h => by omega
  have b : ¬ (1 ≤ q) := fun h => by omega
  rw [e, show q = 0 by omega]; omega
theorem pk_st {pk b z q : Int} {w : Nat} (h0 : 0 ≤ pk) (h1 : 255 * pk + 122 ≤ 122 * 256 ^ w) (hw : w ≤ 7) (hb : 0 ≤ b ∧ b ≤ 122) (h2 : -9223372036854775808 ≤ z) (h3 : z ≤ 9223372036854775807) (e : z = pk * 256 + b + 18446744073709551616 * q) : z = pk * 256 + b ∧ 0 ≤ z ∧ 255 * z + 122 ≤ 122 * 256 ^ (w + 1) := by
  have p7 := pw7 w hw
  have e1 := j_in (x := pk * 256 + b) (by omega) (by omega) h2 h3 e
  rw [Int.pow_succ]
  omega
theorem eOf_gt {B : Int → Int} {n p : Int} (h0 : 0 ≤ p) (h1 : p < n) : p < eOf B n p ∧ eOf B n p ≤ n := by
  unfold eOf
  by_cases a : isLt (cb B n p)
  · rw [if_pos a]
    have s : stN B n p := .inl a
    rw [en_st stN_lt s]; have := en_r (st := stN B n) (p + 1) (show p + 1 ≤ n by omega); omega
  rw [if_neg a]
  by_cases b : isDg (cb B n p)
  · rw [if_pos b]
    have s : stD B n p := b
    rw [en_st stD_lt s]; have := en_r (st := stD B n) (p + 1) (show p + 1 ≤ n by omega); omega
  rw [if_neg b]
  by_cases c : two (cb B n p) (cb B n (p + 1))
  · rw [if_pos c]; have := cb_nz (B := B) (n := n) (i := p + 1) (by unfold two at c; omega); omega
  · rw [if_neg c]; omega
def SGX (si : Nat) (x sg : Int) : Prop := (x < 128 ∧ ((sg = -1 ∧ ∀ j : Int, 0 ≤ j → j < ((strN.getD si 0 : Nat) : Int) → sB si j ≠ x) ∨ (0 ≤ sg ∧ sg < ((strN.getD si 0 : Nat) : Int) ∧ sB si sg = x))) ∨ (128 ≤ x ∧ sg = -1)
def tk0 (S u : sS) : Prop := u.1 12 3 = S.1 12 3 ∧ u.2.1 13 = S.2.1 13 ∧ u.2.1 14 = S.2.1 14 ∧ u.2.2.1 15 = S.2.2.1 15
/-- the tokens so far, and where it stands -/
def TKI (B : Int → Int) (n : Int) (S : sS) (i : Int) : Prop := en n (stB B n) i = psn B n (S.1 12 3).toNat ∧ ∀ j : Nat, (j : Int) < S.1 12 3 → S.2.1 14 j = psn B n j ∧ S.2.1 13 j = kS B n (psn B n j) ∧ 2 ≤ kS B n (psn B n j) ∧ S.2.2.1 15 j = vOf B n (psn B n j)
theorem TKI.blank {B : Int → Int} {n : Int} {S u : sS} {i : Int} (h : TKI B n S i) (hb : stB B n i) (t : tk0 S u) : TKI B n u (i + 1) := by
  obtain ⟨a, b⟩ := h; obtain ⟨t1, t2, t3, t4⟩ := t
  unfold TKI
  rw [t1, t2, t3, t4, ← en_st stB_lt hb]; exact ⟨a, b⟩
theorem TKI.at {B : Int → Int} {n : Int} {S : sS} {i : Int} (h : TKI B n S i) (hb : ¬ stB B n i) : psn B n (S.1 12 3).toNat = i := by rw [← h.1, en_no hb]
theorem TKI.tok {B : Int → Int} {n : Int} {S u : sS} {i : Int} (h : TKI B n S i) (h3 : 0 ≤ S.1 12 3) (hb : ¬ stB B n i) (hi : i < n) (t : tkB S u (kOf B n i) i (vOf B n i)) (hk : 2 ≤ kOf B n i) : TKI B n u (eOf B n i) := by
  obtain ⟨v, ⟨t1, t2, t3, t4⟩, hv⟩ := t
  have e := h.at hb
  refine ⟨?_, fun j hj => ?_⟩
  · rw [t1, show (S.1 12 3 + 1).toNat = (S.1 12 3).toNat + 1 by omega]
    show _ = en n (stB B n) (eOf B n (psn B n (S.1 12 3).toNat)); rw [e]
  · rw [t1] at hj
    rw [t2, t3, t4]
    by_cases q : (j : Int) = S.1 12 3
    · have e2 : psn B n j = i := by rw [show j = (S.1 12 3).toNat by omega]; exact e
      rw [if_pos q, if_pos q, if_pos q, e2]
      have e3 : kS B n i = kOf B n i := if_pos hi
      rw [e3]; exact ⟨rfl, rfl, hk, hv hk⟩
    · rw [if_neg q, if_neg q, if_neg q]; exact h.2 j (by omega)
theorem TKI.bad {B : Int → Int} {n : Int} {S u : sS} {i : Int} (h : TKI B n S i) (h3 : 0 ≤ S.1 12 3) (hb : ¬ stB B n i) (hi : i < n) (t : tkB S u (kOf B n i) i (vOf B n i)) (hk : kOf B n i = 1) : TKS B n (u.1 12 3) (u.2.1 13) (u.2.2.1 15) (u.2.1 14) := by
  obtain ⟨v, ⟨t1, t2, t3, t4⟩, hv⟩ := t
  have e := h.at hb
  have e3 : kS B n i = 1 := (if_pos hi).trans hk
  rw [t1]
  refine ⟨by omega, fun j hj => (h.2 j (by omega)).2.2.1, ?_, fun j hj => ?_⟩
  · rw [show (S.1 12 3 + 1 - 1).toNat = (S.1 12 3).toNat by omega, e, e3]; omega
  · rw [t2, t3, t4]
    by_cases q : (j : Int) = S.1 12 3
    · have e2 : psn B n j = i := by rw [show j = (S.1 12 3).toNat by omega]; exact e
      rw [if_pos q, if_pos q, if_pos q, e2]
      rw [e3, hk]; exact ⟨rfl, rfl, fun q => absurd q (by decide)⟩
    · rw [if_neg q, if_neg q, if_neg q]; have := h.2 j (by omega); exact ⟨this.1, this.2.1, fun _ => this.2.2.2⟩
theorem TKI.fin {B : Int → Int} {n : Int} {S u : sS} {i : Int} (h : TKI B n S i) (h3 : 0 ≤ S.1 12 3) (hi : i = n) (t : tkA S u 0 n 0) : TKS B n (u.1 12 3) (u.2.1 13) (u.2.2.1 15) (u.2.1 14) := by
  obtain ⟨t1, t2, t3, t4⟩ := t
  have hb : ¬ stB B n i := fun z => by have := stB_lt z; omega
  have e := h.at hb
  have e3 : kS B n i = 0 := if_neg (by omega)
  rw [t1]
  refine ⟨by omega, fun j hj => (h.2 j (by omega)).2.2.1, ?_, fun j hj => ?_⟩
  · rw [show (S.1 12 3 + 1 - 1).toNat = (S.1 12 3).toNat by omega, e, e3]; omega
  · rw [t2, t3, t4]
    by_cases q : (j : Int) = S.1 12 3
    · have e2 : psn B n j = i := by rw [show j = (S.1 12 3).toNat by omega]; exact e
      rw [if_pos q, if_pos q, if_pos q, e2]
      rw [e3]; exact ⟨hi.symm, rfl, fun q => absurd q (by decide)⟩
    · rw [if_neg q, if_neg q, if_neg q]; have := h.2 j (by omega); exact ⟨this.1, this.2.1, fun _ => this.2.2.2⟩
theorem TKI.zero {B : Int → Int} {n : Int} {S : sS} (h : S.1 12 3 = 0) : TKI B n S 0 := ⟨by rw [h]; rfl, fun j hj => by omega⟩
theorem kOf_r {B : Int → Int} {n p : Int} : 1 ≤ kOf B n p ∧ kOf B n p ≤ 26 := by
  have w : ∀ x, 2 ≤ wdk x ∧ wdk x ≤ 12 := by
    intro x; unfold wdk
    repeat' split
    all_goals omega
  have s1 : ∀ x, 1 ≤ sg1 x ∧ sg1 x ≤ 24 := by
    intro x; unfold sg1
    repeat' split
    all_goals omega
  unfold kOf
  by_cases a : isLt (cb B n p)
  · rw [if_pos a]; split
    · have := w (pkn B p (en n (stN B n) p - p).toNat); omega
    · omega
  rw [if_neg a]
  by_cases b : isDg (cb B n p)
  · rw [if_pos b]; split <;> omega
  rw [if_neg b]
  by_cases c : two (cb B n p) (cb B n (p + 1))
  · rw [if_pos c]; unfold two at c; unfold sg2; repeat' split
    all_goals omega
  · rw [if_neg c]; have := s1 (cb B n p); omega
theorem sg_c {S : sS} {t : Nat} {i : Int} (hB : ∀ j, -128 ≤ S.2.1 (t + 1) j ∧ S.2.1 (t + 1) j ≤ 127) : sg1 (bt S t i) = sg1 (cb (S.2.1 (t + 1)) (S.1 t 1) i) ∧ (two (bt S t i) (bt S t (i + 1)) ↔ two (cb (S.2.1 (t + 1)) (S.1 t 1) i) (cb (S.2.1 (t + 1)) (S.1 t 1) (i + 1))) := by
  have a := bt_c hB i; have b := bt_c hB (i + 1)
  refine ⟨?_, by unfold two; omega⟩
  rcases a with a | a | a
  · rw [a.1]
  · rw [a.1, a.2]; decide
  · have : ∀ x : Int, x < 0 ∨ 128 ≤ x → sg1 x = 1 := fun x h => by
      unfold sg1; rw [if_neg (by omega), if_neg (by omega), if_neg (by omega), if_neg (by omega), if_neg (by omega), if_neg (by omega), if_neg (by omega), if_neg (by omega), if_neg (by omega), if_neg (by omega), if_neg (by omega)]
    rw [this _ (.inr a.2.2), this _ (.inl a.1)]
theorem two_tw {x d : Int} (hx : x = 46 ∨ x = 60 ∨ x = 62) : two x d ↔ ((x = 46 → d = 46) ∧ (x ≠ 46 → d = 61)) := by unfold two; omega
theorem two_x {x d : Int} (h : two x d) : (x = 46 ∨ x = 60 ∨ x = 62) ∧ (x = 46 → d = 46) ∧ (x ≠ 46 → d = 61) := by unfold two at h; omega
