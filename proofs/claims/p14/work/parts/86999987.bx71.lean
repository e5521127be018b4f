/-- e digits of a limb are gone, x is what is left -/
def DC (e x t : Int) : Prop := (e = 0 ∧ x ≤ 999999999 ∧ (t ≤ 999999 ↔ x ≤ 999999)) ∨ (e = 1 ∧ x ≤ 99999999 ∧ (t ≤ 999999 ↔ x ≤ 99999)) ∨ (e = 2 ∧ x ≤ 9999999 ∧ (t ≤ 999999 ↔ x ≤ 9999)) ∨ (e = 3 ∧ x ≤ 999999 ∧ (t ≤ 999999 ↔ x ≤ 999)) ∨ (e = 4 ∧ x ≤ 99999 ∧ (t ≤ 999999 ↔ x ≤ 99)) ∨ (e = 5 ∧ x ≤ 9999 ∧ (t ≤ 999999 ↔ x ≤ 9)) ∨ (e = 6 ∧ x ≤ 999 ∧ (t ≤ 999999 ↔ x ≤ 0)) ∨ (e = 7 ∧ x ≤ 99 ∧ 999999 < t) ∨ (e = 8 ∧ x ≤ 9 ∧ 999999 < t) ∨ (e = 9 ∧ x ≤ 0 ∧ 999999 < t)
theorem DC.st {e x y t f : Int} (h : DC e x t) (h0 : 0 < x) (hy : 10 * y ≤ x ∧ x < 10 * y + 10) (hf : f = e + 1) : DC f y t := by
  unfold DC at h ⊢
  rcases h with h | h | h | h | h | h | h | h | h | h
  · exact .inr (.inl (by omega))
  · exact .inr (.inr (.inl (by omega)))
  · exact .inr (.inr (.inr (.inl (by omega))))
  · exact .inr (.inr (.inr (.inr (.inl (by omega)))))
  · exact .inr (.inr (.inr (.inr (.inr (.inl (by omega))))))
  · exact .inr (.inr (.inr (.inr (.inr (.inr (.inl (by omega)))))))
  · exact .inr (.inr (.inr (.inr (.inr (.inr (.inr (.inl (by omega))))))))
  · exact .inr (.inr (.inr (.inr (.inr (.inr (.inr (.inr (.inl (by omega)))))))))
  · exact .inr (.inr (.inr (.inr (.inr (.inr (.inr (.inr (.inr (by omega)))))))))
  · exfalso; omega
theorem DC.fin {e x t : Int} (h : DC e x t) (h0 : x = 0) : 0 ≤ e ∧ e ≤ 9 ∧ (e ≤ 6 ↔ t ≤ 999999) := by
  unfold DC at h
  rcases h with h | h | h | h | h | h | h | h | h | h <;> omega
/-- too long for sixty digits -/
def lgB (S : sS) (o : Nat) : Prop := 8 ≤ S.1 o 1 ∨ (S.1 o 1 = 7 ∧ 1000000 ≤ S.2.1 (o + 1) 6)
theorem pw6 : pw 6 = 1000000000000000000000000000000000000000000000000000000 := by decide
theorem lg_top {f : Int → Int} {c : Int} (hc : 0 ≤ c ∧ c ≤ 32) (hl : ∀ j, 0 ≤ f j ∧ f j ≤ 999999999) (ht : 0 < c → f (c - 1) ≠ 0) : (8 ≤ c ∨ (c = 7 ∧ 1000000 ≤ f 6)) ↔ 1000000000000000000000000000000000000000000000000000000000000 ≤ V f 0 c.toNat := by
  have lt : ∀ n : Nat, V f 0 n < pw n := fun n => V_lt (fun j _ _ => hl j)
  have ge : ∀ n : Nat, 0 ≤ V f 0 n := fun n => V_0 (fun j _ _ => (hl j).1)
  have p6 : pw 6 = 1000000000000000000000000000000000000000000000000000000 := pw6
  have s7 : V f 0 7 = V f 0 6 + f 6 * pw 6 := by
    have e := V_stp (f := f) (s := 0) (i := 6) (by decide)
    exact e
  constructor
  · rintro (h | ⟨h, h6⟩)
    · have e := V_stp (f := f) (s := 0) (i := c - 1) (by omega)
      rw [show c - 1 + 1 = c by omega, show (0 : Int) + (c - 1) = c - 1 by omega] at e
      have t := ht (by omega)
      have a := hl (c - 1)
      have p := pw_pos (c - 1).toNat
      have m : pw 7 ≤ pw (c - 1).toNat := by
        rw [show (c - 1).toNat = 7 + (c - 8).toNat by omega, pw_add]
        have q := pw_pos (c - 8).toNat
        have z : pw 7 * 1 ≤ pw 7 * pw (c - 8).toNat := Int.mul_le_mul_of_nonneg_left (by omega) (by decide)
        omega
      have p7 : pw 7 = 1000000000000000000000000000000000000000000000000000000000000000 := by decide
      have z : 1 * pw (c - 1).toNat ≤ f (c - 1) * pw (c - 1).toNat := Int.mul_le_mul_of_nonneg_right (by omega) (by omega)
      have g := ge (c - 1).toNat
      omega
    · rw [h]
      show _ ≤ V f 0 7
      rw [s7, p6]
      have g := ge 6
      omega
  · intro h
    by_cases q : 8 ≤ c
    · exact .inl q
    · refine .inr ?_
      by_cases z : c = 7
      · refine ⟨z, ?_⟩
        rw [z] at h
        have h : _ ≤ V f 0 7 := h
        rw [s7, p6] at h
        have l := lt 6
        rw [p6] at l
        omega
      · exfalso
        have l := lt c.toNat
        have m : pw c.toNat ≤ pw 6 := by
          rw [show 6 = c.toNat + (6 - c.toNat) by omega, pw_add]
          have q := pw_pos (6 - c.toNat)
          have q2 := pw_pos c.toNat
          have z : pw c.toNat * 1 ≤ pw c.toNat * pw (6 - c.toNat) := Int.mul_le_mul_of_nonneg_left (by omega) (by omega)
          omega
        omega
/-- a number of more than sixty digits -/
def lg60 (x : Int) : Prop := 1000000000000000000000000000000000000000000000000000000000000 ≤ x ∨ x ≤ -1000000000000000000000000000000000000000000000000000000000000
theorem lg_bv {S : sS} {o : Nat} (hs : -1 ≤ S.1 o 2 ∧ S.1 o 2 ≤ 1) (hb : bs S o) (hv : 0 ≤ VR S o) : lg60 (bv S o) ↔ 1000000000000000000000000000000000000000000000000000000000000 ≤ VR S o := by
  unfold lg60
  rcases (by omega : S.1 o 2 = -1 ∨ S.1 o 2 = 0 ∨ S.1 o 2 = 1) with q | q | q
  · rw [bv_n (by omega) hs.1]; omega
  · have e : VR S o = 0 := by unfold VR; rw [hb.2 q]; rfl
    rw [bv_p (by omega) hs.2 hb, e]; omega
  · rw [bv_p (by omega) hs.2 hb]; omega
/-! digits -/
theorem dvn_app {B : Int → Int} {p : Int} {a : Nat} : ∀ c : Nat, dvn B p (a + c) = dvn B p a * 10 ^ c + dvn B (p + a) c := by
  intro c
  induction c with
  | zero => show dvn B p a = dvn B p a * 1 + 0; omega
  | succ c ih =>
    show 10 * dvn B p (a + c) + B (p + ((a + c : Nat) : Int)) - 48 = _ + (10 * dvn B (p + a) c + B (p + a + (c : Int)) - 48)
    rw [ih, show p + ((a + c : Nat) : Int) = p + a + (c : Int) by omega, show (10 : Int) ^ (c + 1) = 10 ^ c * 10 from Int.pow_succ 10 c]
    grind
/-- one limb of nine digits, or what is left -/
theorem dvn_9 {B : Int → Int} {f f0 b i L : Int} (hL : L = b - 9 * i - f) (h0 : 0 < L) (h1 : (9 ≤ L → f0 = b - 9 * i - 9) ∧ (L < 9 → f0 = f)) : dvn B f L.toNat = dvn B f (L - 9).toNat * 1000000000 + dvn B f0 (b - 9 * i - f0).toNat := by
  by_cases q : 9 ≤ L
  · rw [show L.toNat = (L - 9).toNat + 9 by omega, dvn_app, h1.1 q, show (b - 9 * i - (b - 9 * i - 9)).toNat = 9 by omega, show f + (((L - 9).toNat : Nat) : Int) = b - 9 * i - 9 by omega]
    rfl
  · rw [h1.2 (by omega), show (L - 9).toNat = 0 by omega, ← hL]
    show _ = 0 * _ + _
    omega
theorem dvn_1 {B : Int → Int} {f k c l : Int} (h : f ≤ k) (hl : l = dvn B f (k - f).toNat) (hc : c = B k) : 10 * l + c - 48 = dvn B f (k + 1 - f).toNat := by
  rw [show (k + 1 - f).toNat = (k - f).toNat + 1 by omega]
  show _ = 10 * dvn B f (k - f).toNat + B (f + (((k - f).toNat : Nat) : Int)) - 48
  rw [show f + (((k - f).toNat : Nat) : Int) = k by omega, hl, hc]
theorem dvn_cg {B C : Int → Int} {p : Int} : ∀ n : Nat, (∀ j : Int, p ≤ j → j < p + n → B j = C j) → dvn B p n = dvn C p n := by
  intro n
  induction n with
  | zero => intro _; rfl
  | succ n ih =>
    intro h
    show 10 * dvn B p n + B (p + n) - 48 = 10 * dvn C p n + C (p + n) - 48
    rw [ih (fun j a b => h j a (by omega)), h _ (by omega) (by omega)]
theorem mrd {D E F l P A : Int} (h : D = E * P + A) (h2 : E = l + F * 1000000000) : D = F * (1000000000 * P) + (A + l * P) := by subst h2; rw [h]; grind
set_option maxRecDepth 100000 in
set_option maxHeartbeats 4000000 in
theorem b_X0_digitCount (l : Launch) (G : sG) (S : sS) {o : Nat} (hI : cX G S 0 0 0) (ho : tau o = .inl 0) : Met l yX0_digitCount (.code yX0_digitCount cX0_digitCount 3 (some .int) :: tb) (rmk 1 0 0) (sPc G 294 S [.ref (G.2.2.1 + o)]) (sQi G 294 (fun r u => u = S ∧ (1 ≤ r ∧ r ≤ 1000000300 ∧ (r ≤ 60 → S.1 o 1 ≤ 7) ∧ Hd (60 < r ↔ lgB S o)))) 0 0 (sF G) := by
  refine sEnter (by decide) (Nat.le_of_ble_eq_true rfl) ?_
  intro p e s m args below meth c Cx hr hlk hnm hW ls hl
  have Cx : sC G p m c cX0_digitCount 3 s args RX0 := Cx
  obtain ⟨hx, hb, hml, hown, hts⟩ := id Cx.1
  have hL : sL G [] := sL_nil
  have hl : lv_has ls 3 [(0, .ref (G.2.2.1 + o))] := hl
  have hW0 := hW
  have hnb := nbH hI ho
  refine lv_aload_n hx hb dX0_digitCount_0 rfl (lv_at hl 0 rfl) ?_
  have q_1 : 0 ≤ S.1 o 1 ∧ S.1 o 1 ≤ 32 := hI.fi o 1 0 (big_lt ho) ho
  refine g_X0_24 Cx hW (k := o) (big_l ho) ho (v := S.1 o 1) rfl dX0_digitCount_1 ?_
  refine r_if_ne (tgt := 9) hx hb ⟨(by omega), (by omega)⟩ dX0_digitCount_4 (by decide) (fun c_2 => ?_) (fun c_2 => ?_)
  · refine lv_bipush (v := iv 9) hx hb dX0_digitCount_9 (by decide) ?_
    refine lv_aload_n hx hb dX0_digitCount_11 rfl (lv_at hl 0 rfl) ?_
    refine g_X0_24 Cx hW (k := o) (big_l ho) ho (v := S.1 o 1) rfl dX0_digitCount_12 ?_
    refine lv_iconst (v := iv 1) hx hb dX0_digitCount_15 (by decide) ?_
    refine r_isub hx hb dX0_digitCount_16 ?_
    refine r_imul hx hb dX0_digitCount_17 ?_
    refine lv_istore_n (lv' := [(1, .int (iv (9 * ((S.1 o 1) - 1)))), (0, .ref (G.2.2.1 + o))]) hx hb dX0_digitCount_18 rfl hl (by decide) rfl (fun ls hl => ?_)
    refine lv_aload_n hx hb dX0_digitCount_19 rfl (lv_at hl 1 rfl) ?_
    refine g_X0_9 Cx hW (k := o) (big_l ho) ho (v := .ref (G.2.2.1 + (o + 1))) (hI.rq.1 o ho) dX0_digitCount_20 ?_
    refine lv_aload_n hx hb dX0_digitCount_23 rfl (lv_at hl 1 rfl) ?_
    refine g_X0_24 Cx hW (k := o) (big_l ho) ho (v := S.1 o 1) rfl dX0_digitCount_24 ?_
    refine lv_iconst (v := iv 1) hx hb dX0_digitCount_27 (by decide) ?_
    refine r_isub hx hb dX0_digitCount_28 ?_
    refine rIald Cx hW (k := o + 1) (big_l1 ho) (big_row ho).1 (by decide) (by omega) (by omega) dX0_digitCount_29 ?_
    have q_3 := limbR hI ho ((S.1 o 1) - 1)
    refine r_i (b := S.2.1 (o + 1) ((S.1 o 1) - 1)) rfl ?_
    refine lv_istore_n (lv' := [(2, .int (iv (S.2.1 (o + 1) ((S.1 o 1) - 1)))), (1, .int (iv (9 * ((S.1 o 1) - 1)))), (0, .ref (G.2.2.1 + o))]) hx hb dX0_digitCount_30 rfl hl (by decide) rfl (fun ls hl => ?_)
    have loop_31 : ∀ (fuel : Nat) (x : Int) (d : Int) (H : Heap) (locs : List Loc) (ls : Array Slot), x.toNat < fuel → (0 ≤ x ∧ x ≤ 999999999) → (9 * (S.1 o 1 - 1) ≤ d ∧ d + x ≤ 9 * (S.1 o 1 - 1) + 999999999 ∧ (x = 0 → 9 * (S.1 o 1 - 1) + 1 ≤ d)) → (Hd (DC (d - 9 * (S.1 o 1 - 1)) x (S.2.1 (o + 1) (S.1 o 1 - 1)))) → sW G 294 S H → sL G locs → lv_has ls 3 [(2, .int (iv x)), (1, .int (iv d)), (0, .ref (G.2.2.1 + o))] → W p l e (rmk 1 0 0) s m args below meth c H locs 0 0 (MQ below (sQi G 294 (fun r u => u = S ∧ (1 ≤ r ∧ r ≤ 1000000300 ∧ (r ≤ 60 → S.1 o 1 ≤ 7) ∧ Hd (60 < r ↔ lgB S o)))) args s 0 0 (sF G)) (F0 m 31 ls []) := by
      intro fuel
      induction fuel with
      | zero => intro x d H locs ls hmeas hxx hd hdc hW hL hl; exact absurd hmeas (Nat.not_lt_zero _)
      | succ fuel ih_31 =>
        intro x d H locs ls hmeas hxx hd hdc hW hL hl
        refine lv_iload_n hx hb dX0_digitCount_31 rfl (lv_at hl 0 rfl) ?_
        refine r_if_le (tgt := 46) hx hb ⟨(by omega), (by omega)⟩ dX0_digitCount_32 (by decide) (fun c_4 => ?_) (fun c_4 => ?_)
        · refine lv_iload_n hx hb dX0_digitCount_46 rfl (lv_at hl 1 rfl) ?_
          exact sIret Cx hr hlk hW hL ⟨rfl, ⟨by omega, by omega, by omega, (show _ ↔ _ by have e := hdc.fin (by omega); unfold lgB; by_cases q : S.1 o 1 = 7; (rw [show S.1 o 1 - 1 = 6 by omega] at e; omega); omega)⟩⟩ dX0_digitCount_47
        · refine lv_iinc (v := iv (d + 1)) (lv' := [(1, .int (iv (d + 1))), (2, .int (iv x)), (0, .ref (G.2.2.1 + o))]) hx hb dX0_digitCount_35 hl (k := 1) rfl ((Int32.ofInt_add _ _).symm) (by decide) rfl (fun ls hl => ?_)
          refine lv_iload_n hx hb dX0_digitCount_38 rfl (lv_at hl 1 rfl) ?_
          refine lv_bipush (v := iv 10) hx hb dX0_digitCount_39 (by decide) ?_
          refine r_idiv hx hb ⟨(by omega), (by omega)⟩ ⟨(by omega), (by omega)⟩ (by omega) dX0_digitCount_41 ?_
          obtain ⟨z_5, ez_5⟩ : ∃ z : Int, z = x.tdiv 10 := ⟨_, rfl⟩
          have hz_5 := tdivL (a := x) (b := 10) (by omega)
          rw [← ez_5] at hz_5
          refine r_i (b := z_5) ez_5.symm ?_
          clear ez_5
          refine lv_istore_n (lv' := [(2, .int (iv z_5)), (1, .int (iv (d + 1))), (0, .ref (G.2.2.1 + o))]) hx hb dX0_digitCount_42 rfl hl (by decide) rfl (fun ls hl => ?_)
          refine lv_goto (tgt := 31) hx hb dX0_digitCount_43 (by decide) ?_
          exact ih_31 z_5 (d + 1) _ _ _ (by omega) (by omega) (by omega) (hdc.st (by omega) (by omega) (by omega)) hW hL (lv_sub hl [0, 1, 2] rfl)
    have hnb2 := hnb (by omega)
    exact loop_31 (_ + 1) (S.2.1 (o + 1) ((S.1 o 1) - 1)) (9 * ((S.1 o 1) - 1)) _ _ _ (Nat.lt_succ_self _) (by omega) (by omega) (.inl ⟨by omega, by omega, Iff.rfl⟩) hW hL (lv_sub hl [0, 1, 2] rfl)
  · refine lv_iconst (v := iv 1) hx hb dX0_digitCount_7 (by decide) ?_
    exact sIret Cx hr hlk hW hL ⟨rfl, ⟨by omega, by omega, by omega, (show _ ↔ _ by unfold lgB; omega)⟩⟩ dX0_digitCount_8
