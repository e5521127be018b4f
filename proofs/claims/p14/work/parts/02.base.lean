/-! The flat memory in whole numbers: S = (fields, int and byte and boolean rows, long rows, references) -/
abbrev iv (a : Int) : Int32 := Int32.ofInt a
abbrev jv (a : Int) : Int64 := Int64.ofInt a
def inI (a : Int) : Prop := -2147483648 ≤ a ∧ a ≤ 2147483647
def inJ (a : Int) : Prop := -9223372036854775808 ≤ a ∧ a ≤ 9223372036854775807
theorem iv_toInt {a : Int} (h : -2147483648 ≤ a ∧ a ≤ 2147483647) : (iv a).toInt = a := Int32.toInt_ofInt_of_le (by omega) (by omega)
theorem jv_toInt {a : Int} (h : -9223372036854775808 ≤ a ∧ a ≤ 9223372036854775807) : (jv a).toInt = a := Int64.toInt_ofInt_of_le (by omega) (by omega)
theorem iv_lt {a b : Int} (ha : -2147483648 ≤ a ∧ a ≤ 2147483647) (hb : -2147483648 ≤ b ∧ b ≤ 2147483647) : iv a < iv b ↔ a < b := by rw [Int32.lt_iff_toInt_lt, iv_toInt ha, iv_toInt hb]
theorem iv_le {a b : Int} (ha : -2147483648 ≤ a ∧ a ≤ 2147483647) (hb : -2147483648 ≤ b ∧ b ≤ 2147483647) : iv a ≤ iv b ↔ a ≤ b := by rw [Int32.le_iff_toInt_le, iv_toInt ha, iv_toInt hb]
theorem iv_eq {a b : Int} (ha : -2147483648 ≤ a ∧ a ≤ 2147483647) (hb : -2147483648 ≤ b ∧ b ≤ 2147483647) : iv a = iv b ↔ a = b := by rw [← Int32.toInt_inj, iv_toInt ha, iv_toInt hb]
theorem iv_z : (0 : Int32) = iv 0 := rfl
theorem iv_lt0 {a : Int} (ha : -2147483648 ≤ a ∧ a ≤ 2147483647) : iv a < 0 ↔ a < 0 := by rw [iv_z]; exact iv_lt ha (by decide)
theorem iv_le0 {a : Int} (ha : -2147483648 ≤ a ∧ a ≤ 2147483647) : iv a ≤ 0 ↔ a ≤ 0 := by rw [iv_z]; exact iv_le ha (by decide)
theorem iv_gt0 {a : Int} (ha : -2147483648 ≤ a ∧ a ≤ 2147483647) : 0 < iv a ↔ 0 < a := by rw [iv_z]; exact iv_lt (by decide) ha
theorem iv_ge0 {a : Int} (ha : -2147483648 ≤ a ∧ a ≤ 2147483647) : 0 ≤ iv a ↔ 0 ≤ a := by rw [iv_z]; exact iv_le (by decide) ha
theorem iv_eq0 {a : Int} (ha : -2147483648 ≤ a ∧ a ≤ 2147483647) : iv a = 0 ↔ a = 0 := by rw [iv_z]; exact iv_eq ha (by decide)
theorem iv_clamp {a : Int} (h0 : 0 ≤ a) (h1 : a ≤ 2147483647) : (iv a).toNatClampNeg = a.toNat := Int32.toNatClampNeg_ofInt_of_le (by omega) (by omega)
theorem iv_in {a : Int} {N : Nat} (h0 : 0 ≤ a) (h1 : a < N) (hN : N ≤ 2147483647) : vp_in (iv a) N := by
  rintro (q | q)
  · rw [iv_lt0 (by omega)] at q; omega
  · rw [iv_clamp h0 (by omega)] at q; omega
/-- an int is what some number in range is -/
theorem iv_of (x : Int32) : ∃ a : Int, x = iv a ∧ -2147483648 ≤ a ∧ a ≤ 2147483647 := ⟨x.toInt, (Int32.ofInt_toInt x).symm, by have := x.le_toInt; omega, by have := x.toInt_lt; omega⟩
theorem jv_of (x : Int64) : ∃ a : Int, x = jv a ∧ -9223372036854775808 ≤ a ∧ a ≤ 9223372036854775807 := ⟨x.toInt, (Int64.ofInt_toInt x).symm, by have := x.le_toInt; omega, by have := x.toInt_lt; omega⟩
def tb : List Cond := lw_tbl.filter goodWord
theorem tb_in {w : Cond} (i : Nat) (h : lw_tbl[i]? = some w) (g : goodWord w = true) : w ∈ tb := List.mem_filter.mpr ⟨List.mem_of_getElem? h, g⟩
theorem in_r {ws : List Cond} (ps : List Nat) (hp : ws = ps.filterMap (fun i => lw_tbl[i]?)) (h : ws.all goodWord = true) : ∀ w ∈ ws, w ∈ tb := by
  intro w hw
  have h1 := List.all_eq_true.mp h w hw
  rw [hp] at hw
  obtain ⟨i, -, hi⟩ := List.mem_filterMap.mp hw
  exact tb_in i hi h1
theorem tb_good : GoodIn tb tb := fun _ h => ⟨h, good_of_word (List.mem_filter.mp h).2⟩
def nst_is : Cond → Bool
  | .fieldLinkNest .. => true
  | .methodLinkNest .. => true
  | _ => false
def nst : List Cond := lw_tbl.filter nst_is
theorem nst_in {w : Cond} (i : Nat) (h : lw_tbl[i]? = some w) (g : nst_is w = true) : w ∈ nst := List.mem_filter.mpr ⟨List.mem_of_getElem? h, g⟩
def Nst (U : State) : Prop := ∀ w ∈ nst, va_Nw w U
theorem nst_on {w : Cond} (h : nst_is w = true) : w.onTables = true := by
  cases w <;> first | rfl | (simp [nst_is] at h)
theorem Nst.warm {s U : State} (hW : s.WarmedH U.vm) (h : Nst s) : Nst U := by
  intro w hw
  have h1 := h w hw
  have h2 := (List.mem_filter.mp hw).2
  cases w <;> first | exact va_Nw.warmF hW h1 | exact va_Nw.warmM hW h1 | (simp [nst_is] at h2)
theorem Nst.same {u U : State} (e : u.vm = U.vm) (h : Nst u) : Nst U := fun w hw => va_Nw.same (nst_on (List.mem_filter.mp hw).2) e (h w hw)
theorem tbl_1 {w : Cond} (h : w ∈ tables_1_1) : w ∈ lw_tbl := List.mem_append_right _ (show w ∈ tables_1 from List.mem_append_left _ h)
theorem tbc_1 {w : Cond} (i : Nat) (h : tables_1_1[i]? = some w) (g : goodWord w = true) : w ∈ tb := List.mem_filter.mpr ⟨tbl_1 (List.mem_of_getElem? h), g⟩
theorem nsc_1 {w : Cond} (i : Nat) (h : tables_1_1[i]? = some w) (g : nst_is w = true) : w ∈ nst := List.mem_filter.mpr ⟨tbl_1 (List.mem_of_getElem? h), g⟩
theorem tbl_2 {w : Cond} (h : w ∈ tables_1_2) : w ∈ lw_tbl := List.mem_append_right _ (show w ∈ tables_1 from List.mem_append_right _ (List.mem_append_left _ h))
theorem tbc_2 {w : Cond} (i : Nat) (h : tables_1_2[i]? = some w) (g : goodWord w = true) : w ∈ tb := List.mem_filter.mpr ⟨tbl_2 (List.mem_of_getElem? h), g⟩
theorem nsc_2 {w : Cond} (i : Nat) (h : tables_1_2[i]? = some w) (g : nst_is w = true) : w ∈ nst := List.mem_filter.mpr ⟨tbl_2 (List.mem_of_getElem? h), g⟩
theorem tbl_3 {w : Cond} (h : w ∈ tables_1_3) : w ∈ lw_tbl := List.mem_append_right _ (show w ∈ tables_1 from List.mem_append_right _ (List.mem_append_right _ (List.mem_append_left _ h)))
theorem tbc_3 {w : Cond} (i : Nat) (h : tables_1_3[i]? = some w) (g : goodWord w = true) : w ∈ tb := List.mem_filter.mpr ⟨tbl_3 (List.mem_of_getElem? h), g⟩
theorem nsc_3 {w : Cond} (i : Nat) (h : tables_1_3[i]? = some w) (g : nst_is w = true) : w ∈ nst := List.mem_filter.mpr ⟨tbl_3 (List.mem_of_getElem? h), g⟩
theorem tbl_4 {w : Cond} (h : w ∈ tables_1_4) : w ∈ lw_tbl := List.mem_append_right _ (show w ∈ tables_1 from List.mem_append_right _ (List.mem_append_right _ (List.mem_append_right _ (List.mem_append_left _ h))))
theorem tbc_4 {w : Cond} (i : Nat) (h : tables_1_4[i]? = some w) (g : goodWord w = true) : w ∈ tb := List.mem_filter.mpr ⟨tbl_4 (List.mem_of_getElem? h), g⟩
theorem nsc_4 {w : Cond} (i : Nat) (h : tables_1_4[i]? = some w) (g : nst_is w = true) : w ∈ nst := List.mem_filter.mpr ⟨tbl_4 (List.mem_of_getElem? h), g⟩
theorem tbl_5 {w : Cond} (h : w ∈ tables_1_5) : w ∈ lw_tbl := List.mem_append_right _ (show w ∈ tables_1 from List.mem_append_right _ (List.mem_append_right _ (List.mem_append_right _ (List.mem_append_right _ (List.mem_append_left _ h)))))
theorem tbc_5 {w : Cond} (i : Nat) (h : tables_1_5[i]? = some w) (g : goodWord w = true) : w ∈ tb := List.mem_filter.mpr ⟨tbl_5 (List.mem_of_getElem? h), g⟩
theorem nsc_5 {w : Cond} (i : Nat) (h : tables_1_5[i]? = some w) (g : nst_is w = true) : w ∈ nst := List.mem_filter.mpr ⟨tbl_5 (List.mem_of_getElem? h), g⟩
theorem tbl_6 {w : Cond} (h : w ∈ tables_1_6) : w ∈ lw_tbl := List.mem_append_right _ (show w ∈ tables_1 from List.mem_append_right _ (List.mem_append_right _ (List.mem_append_right _ (List.mem_append_right _ (List.mem_append_right _ (List.mem_append_left _ h))))))
theorem tbc_6 {w : Cond} (i : Nat) (h : tables_1_6[i]? = some w) (g : goodWord w = true) : w ∈ tb := List.mem_filter.mpr ⟨tbl_6 (List.mem_of_getElem? h), g⟩
theorem nsc_6 {w : Cond} (i : Nat) (h : tables_1_6[i]? = some w) (g : nst_is w = true) : w ∈ nst := List.mem_filter.mpr ⟨tbl_6 (List.mem_of_getElem? h), g⟩
theorem tbl_7 {w : Cond} (h : w ∈ tables_1_7) : w ∈ lw_tbl := List.mem_append_right _ (show w ∈ tables_1 from List.mem_append_right _ (List.mem_append_right _ (List.mem_append_right _ (List.mem_append_right _ (List.mem_append_right _ (List.mem_append_right _ (List.mem_append_left _ h)))))))
theorem tbc_7 {w : Cond} (i : Nat) (h : tables_1_7[i]? = some w) (g : goodWord w = true) : w ∈ tb := List.mem_filter.mpr ⟨tbl_7 (List.mem_of_getElem? h), g⟩
theorem nsc_7 {w : Cond} (i : Nat) (h : tables_1_7[i]? = some w) (g : nst_is w = true) : w ∈ nst := List.mem_filter.mpr ⟨tbl_7 (List.mem_of_getElem? h), g⟩
theorem tbl_8 {w : Cond} (h : w ∈ tables_1_8) : w ∈ lw_tbl := List.mem_append_right _ (show w ∈ tables_1 from List.mem_append_right _ (List.mem_append_right _ (List.mem_append_right _ (List.mem_append_right _ (List.mem_append_right _ (List.mem_append_right _ (List.mem_append_right _ (List.mem_append_left _ h))))))))
theorem tbc_8 {w : Cond} (i : Nat) (h : tables_1_8[i]? = some w) (g : goodWord w = true) : w ∈ tb := List.mem_filter.mpr ⟨tbl_8 (List.mem_of_getElem? h), g⟩
theorem nsc_8 {w : Cond} (i : Nat) (h : tables_1_8[i]? = some w) (g : nst_is w = true) : w ∈ nst := List.mem_filter.mpr ⟨tbl_8 (List.mem_of_getElem? h), g⟩
theorem tbl_9 {w : Cond} (h : w ∈ tables_1_9) : w ∈ lw_tbl := List.mem_append_right _ (show w ∈ tables_1 from List.mem_append_right _ (List.mem_append_right _ (List.mem_append_right _ (List.mem_append_right _ (List.mem_append_right _ (List.mem_append_right _ (List.mem_append_right _ (List.mem_append_right _ (List.mem_append_left _ h)))))))))
theorem tbc_9 {w : Cond} (i : Nat) (h : tables_1_9[i]? = some w) (g : goodWord w = true) : w ∈ tb := List.mem_filter.mpr ⟨tbl_9 (List.mem_of_getElem? h), g⟩
theorem nsc_9 {w : Cond} (i : Nat) (h : tables_1_9[i]? = some w) (g : nst_is w = true) : w ∈ nst := List.mem_filter.mpr ⟨tbl_9 (List.mem_of_getElem? h), g⟩
theorem tbl_10 {w : Cond} (h : w ∈ tables_1_10) : w ∈ lw_tbl := List.mem_append_right _ (show w ∈ tables_1 from List.mem_append_right _ (List.mem_append_right _ (List.mem_append_right _ (List.mem_append_right _ (List.mem_append_right _ (List.mem_append_right _ (List.mem_append_right _ (List.mem_append_right _ (List.mem_append_right _ (List.mem_append_left _ h))))))))))
theorem tbc_10 {w : Cond} (i : Nat) (h : tables_1_10[i]? = some w) (g : goodWord w = true) : w ∈ tb := List.mem_filter.mpr ⟨tbl_10 (List.mem_of_getElem? h), g⟩
theorem nsc_10 {w : Cond} (i : Nat) (h : tables_1_10[i]? = some w) (g : nst_is w = true) : w ∈ nst := List.mem_filter.mpr ⟨tbl_10 (List.mem_of_getElem? h), g⟩
theorem tbl_11 {w : Cond} (h : w ∈ tables_1_11) : w ∈ lw_tbl := List.mem_append_right _ (show w ∈ tables_1 from List.mem_append_right _ (List.mem_append_right _ (List.mem_append_right _ (List.mem_append_right _ (List.mem_append_right _ (List.mem_append_right _ (List.mem_append_right _ (List.mem_append_right _ (List.mem_append_right _ (List.mem_append_right _ (h)))))))))))
theorem tbc_11 {w : Cond} (i : Nat) (h : tables_1_11[i]? = some w) (g : goodWord w = true) : w ∈ tb := List.mem_filter.mpr ⟨tbl_11 (List.mem_of_getElem? h), g⟩
theorem nsc_11 {w : Cond} (i : Nat) (h : tables_1_11[i]? = some w) (g : nst_is w = true) : w ∈ nst := List.mem_filter.mpr ⟨tbl_11 (List.mem_of_getElem? h), g⟩
theorem sel_1 {q : MethodName × Nat} (i : Nat) (h0 : lw_privs_1[i]? = some q) : Cond.selects q.1.cls q.1 q.1 ∈ tb := by
  have h := List.mem_of_getElem? h0
  exact List.mem_filter.mpr ⟨List.mem_append_left _ (List.mem_map.mpr ⟨q, show q ∈ lw_privs from List.mem_append_left _ h, rfl⟩), rfl⟩
theorem sel_2 {q : MethodName × Nat} (i : Nat) (h0 : lw_privs_2[i]? = some q) : Cond.selects q.1.cls q.1 q.1 ∈ tb := by
  have h := List.mem_of_getElem? h0
  exact List.mem_filter.mpr ⟨List.mem_append_left _ (List.mem_map.mpr ⟨q, show q ∈ lw_privs from List.mem_append_right _ (List.mem_append_left _ h), rfl⟩), rfl⟩
theorem sel_3 {q : MethodName × Nat} (i : Nat) (h0 : lw_privs_3[i]? = some q) : Cond.selects q.1.cls q.1 q.1 ∈ tb := by
  have h := List.mem_of_getElem? h0
  exact List.mem_filter.mpr ⟨List.mem_append_left _ (List.mem_map.mpr ⟨q, show q ∈ lw_privs from List.mem_append_right _ (List.mem_append_right _ (List.mem_append_left _ h)), rfl⟩), rfl⟩
theorem sel_4 {q : MethodName × Nat} (i : Nat) (h0 : lw_privs_4[i]? = some q) : Cond.selects q.1.cls q.1 q.1 ∈ tb := by
  have h := List.mem_of_getElem? h0
  exact List.mem_filter.mpr ⟨List.mem_append_left _ (List.mem_map.mpr ⟨q, show q ∈ lw_privs from List.mem_append_right _ (List.mem_append_right _ (List.mem_append_right _ (List.mem_append_left _ h))), rfl⟩), rfl⟩
theorem sel_5 {q : MethodName × Nat} (i : Nat) (h0 : lw_privs_5[i]? = some q) : Cond.selects q.1.cls q.1 q.1 ∈ tb := by
  have h := List.mem_of_getElem? h0
  exact List.mem_filter.mpr ⟨List.mem_append_left _ (List.mem_map.mpr ⟨q, show q ∈ lw_privs from List.mem_append_right _ (List.mem_append_right _ (List.mem_append_right _ (List.mem_append_right _ (List.mem_append_left _ h)))), rfl⟩), rfl⟩
theorem sel_6 {q : MethodName × Nat} (i : Nat) (h0 : lw_privs_6[i]? = some q) : Cond.selects q.1.cls q.1 q.1 ∈ tb := by
  have h := List.mem_of_getElem? h0
  exact List.mem_filter.mpr ⟨List.mem_append_left _ (List.mem_map.mpr ⟨q, show q ∈ lw_privs from List.mem_append_right _ (List.mem_append_right _ (List.mem_append_right _ (List.mem_append_right _ (List.mem_append_right _ (List.mem_append_left _ h))))), rfl⟩), rfl⟩
theorem sel_7 {q : MethodName × Nat} (i : Nat) (h0 : lw_privs_7[i]? = some q) : Cond.selects q.1.cls q.1 q.1 ∈ tb := by
  have h := List.mem_of_getElem? h0
  exact List.mem_filter.mpr ⟨List.mem_append_left _ (List.mem_map.mpr ⟨q, show q ∈ lw_privs from List.mem_append_right _ (List.mem_append_right _ (List.mem_append_right _ (List.mem_append_right _ (List.mem_append_right _ (List.mem_append_right _ (List.mem_append_left _ h)))))), rfl⟩), rfl⟩
theorem sel_8 {q : MethodName × Nat} (i : Nat) (h0 : lw_privs_8[i]? = some q) : Cond.selects q.1.cls q.1 q.1 ∈ tb := by
  have h := List.mem_of_getElem? h0
  exact List.mem_filter.mpr ⟨List.mem_append_left _ (List.mem_map.mpr ⟨q, show q ∈ lw_privs from List.mem_append_right _ (List.mem_append_right _ (List.mem_append_right _ (List.mem_append_right _ (List.mem_append_right _ (List.mem_append_right _ (List.mem_append_right _ (List.mem_append_left _ h))))))), rfl⟩), rfl⟩
theorem sel_9 {q : MethodName × Nat} (i : Nat) (h0 : lw_privs_9[i]? = some q) : Cond.selects q.1.cls q.1 q.1 ∈ tb := by
  have h := List.mem_of_getElem? h0
  exact List.mem_filter.mpr ⟨List.mem_append_left _ (List.mem_map.mpr ⟨q, show q ∈ lw_privs from List.mem_append_right _ (List.mem_append_right _ (List.mem_append_right _ (List.mem_append_right _ (List.mem_append_right _ (List.mem_append_right _ (List.mem_append_right _ (List.mem_append_right _ (List.mem_append_left _ h)))))))), rfl⟩), rfl⟩
theorem sel_10 {q : MethodName × Nat} (i : Nat) (h0 : lw_privs_10[i]? = some q) : Cond.selects q.1.cls q.1 q.1 ∈ tb := by
  have h := List.mem_of_getElem? h0
  exact List.mem_filter.mpr ⟨List.mem_append_left _ (List.mem_map.mpr ⟨q, show q ∈ lw_privs from List.mem_append_right _ (List.mem_append_right _ (List.mem_append_right _ (List.mem_append_right _ (List.mem_append_right _ (List.mem_append_right _ (List.mem_append_right _ (List.mem_append_right _ (List.mem_append_right _ (List.mem_append_left _ h))))))))), rfl⟩), rfl⟩
theorem sel_11 {q : MethodName × Nat} (i : Nat) (h0 : lw_privs_11[i]? = some q) : Cond.selects q.1.cls q.1 q.1 ∈ tb := by
  have h := List.mem_of_getElem? h0
  exact List.mem_filter.mpr ⟨List.mem_append_left _ (List.mem_map.mpr ⟨q, show q ∈ lw_privs from List.mem_append_right _ (List.mem_append_right _ (List.mem_append_right _ (List.mem_append_right _ (List.mem_append_right _ (List.mem_append_right _ (List.mem_append_right _ (List.mem_append_right _ (List.mem_append_right _ (List.mem_append_right _ (List.mem_append_left _ h)))))))))), rfl⟩), rfl⟩
theorem sel_12 {q : MethodName × Nat} (i : Nat) (h0 : lw_privs_12[i]? = some q) : Cond.selects q.1.cls q.1 q.1 ∈ tb := by
  have h := List.mem_of_getElem? h0
  exact List.mem_filter.mpr ⟨List.mem_append_left _ (List.mem_map.mpr ⟨q, show q ∈ lw_privs from List.mem_append_right _ (List.mem_append_right _ (List.mem_append_right _ (List.mem_append_right _ (List.mem_append_right _ (List.mem_append_right _ (List.mem_append_right _ (List.mem_append_right _ (List.mem_append_right _ (List.mem_append_right _ (List.mem_append_right _ (List.mem_append_left _ h))))))))))), rfl⟩), rfl⟩
theorem sel_13 {q : MethodName × Nat} (i : Nat) (h0 : lw_privs_13[i]? = some q) : Cond.selects q.1.cls q.1 q.1 ∈ tb := by
  have h := List.mem_of_getElem? h0
  exact List.mem_filter.mpr ⟨List.mem_append_left _ (List.mem_map.mpr ⟨q, show q ∈ lw_privs from List.mem_append_right _ (List.mem_append_right _ (List.mem_append_right _ (List.mem_append_right _ (List.mem_append_right _ (List.mem_append_right _ (List.mem_append_right _ (List.mem_append_right _ (List.mem_append_right _ (List.mem_append_right _ (List.mem_append_right _ (List.mem_append_right _ (h)))))))))))), rfl⟩), rfl⟩
abbrev sS : Type := (Nat → Nat → Int) × (Nat → Int → Int) × (Nat → Int → Int) × (Nat → Nat → Value)
abbrev sG : Type := va_G × (FieldType → ClassId) × Nat × Heap
def fv (S : sS) (ty : FieldType) (k i : Nat) : Value := match ty with
  | .int => .int (iv (S.1 k i))
  | .boolean => .int (iv (S.1 k i))
  | .byte => .int (iv (S.1 k i))
  | _ => S.2.2.2 k i
def av (S : sS) (ty : FieldType) (k i : Nat) : Value := match ty with
  | .int => .int (iv (S.2.1 k i))
  | .boolean => .int (iv (S.2.1 k i))
  | .byte => .int (iv (S.2.1 k i))
  | .long => .long (jv (S.2.2.1 k i))
  | _ => S.2.2.2 k i
def uF (S : sS) (k i : Nat) (x : Int) : sS := (fun a j => cond (Nat.beq a k && Nat.beq j i) x (S.1 a j), S.2.1, S.2.2.1, S.2.2.2)
def uA (S : sS) (k : Nat) (i x : Int) : sS := (S.1, fun a j => if a = k ∧ j = i then x else S.2.1 a j, S.2.2.1, S.2.2.2)
def uL (S : sS) (k : Nat) (i x : Int) : sS := (S.1, S.2.1, fun a j => if a = k ∧ j = i then x else S.2.2.1 a j, S.2.2.2)
def uR (S : sS) (k i : Nat) (x : Value) : sS := (S.1, S.2.1, S.2.2.1, fun a j => cond (Nat.beq a k && Nat.beq j i) x (S.2.2.2 a j))
theorem beq_off {a j k i : Nat} (h : ¬ (a = k ∧ j = i)) : (Nat.beq a k && Nat.beq j i) = false := by
  cases h1 : Nat.beq a k <;> cases h2 : Nat.beq j i <;> first | rfl | exact absurd ⟨Nat.eq_of_beq_eq_true h1, Nat.eq_of_beq_eq_true h2⟩ h
theorem beq_on {k i : Nat} : (Nat.beq k k && Nat.beq i i) = true := by rw [Nat.beq_refl, Nat.beq_refl]; rfl
theorem uF_on {S : sS} {k i : Nat} {x : Int} : (uF S k i x).1 k i = x := by
  show cond (Nat.beq k k && Nat.beq i i) x _ = x
  rw [beq_on]; rfl
theorem uR_on {S : sS} {k i : Nat} {x : Value} : (uR S k i x).2.2.2 k i = x := by
  show cond (Nat.beq k k && Nat.beq i i) x _ = x
  rw [beq_on]; rfl
theorem uF_ne {S : sS} {k i a j : Nat} {x : Int} (h : ¬ (a = k ∧ j = i)) : (uF S k i x).1 a j = S.1 a j := by
  show cond (Nat.beq a k && Nat.beq j i) x _ = _
  rw [beq_off h]; rfl
theorem uR_ne {S : sS} {k i a j : Nat} {x : Value} (h : ¬ (a = k ∧ j = i)) : (uR S k i x).2.2.2 a j = S.2.2.2 a j := by
  show cond (Nat.beq a k && Nat.beq j i) x _ = _
  rw [beq_off h]; rfl
theorem uA_on {S : sS} {k : Nat} {i x : Int} : (uA S k i x).2.1 k i = x := if_pos ⟨rfl, rfl⟩
theorem uA_ne {S : sS} {k a : Nat} {i j x : Int} (h : ¬ (a = k ∧ j = i)) : (uA S k i x).2.1 a j = S.2.1 a j := if_neg h
theorem uL_on {S : sS} {k : Nat} {i x : Int} : (uL S k i x).2.2.1 k i = x := if_pos ⟨rfl, rfl⟩
theorem uL_ne {S : sS} {k a : Nat} {i j x : Int} (h : ¬ (a = k ∧ j = i)) : (uL S k i x).2.2.1 a j = S.2.2.1 a j := if_neg h
def sA (G : sG) (S : sS) (k : Nat) (t : Nat ⊕ (FieldType × Nat)) (H : Heap) : Prop := match t with
  | .inl ci => ∃ r : vw_C, vwCl[ci]? = some r ∧ t_OB (G.2.2.1 + k) (G.1.1 ci) r.2.2 (G.1.2 ci) H (fun i => fv S (tyOf ci i) k i)
  | .inr a => H[G.2.2.1 + k]? = some (arrV (G.2.1 a.1) a.2 (fun i => av S a.1 k i))
/-- a place that is not made yet -/
def sZ (S : sS) (k : Nat) : Prop := (∀ i, S.1 k i = 0) ∧ (∀ i, S.2.1 k i = 0) ∧ (∀ i, S.2.2.1 k i = 0) ∧ ∀ i, S.2.2.2 k i = .null
def same (S S' : sS) (k : Nat) : Prop := (∀ i, S'.1 k i = S.1 k i) ∧ (∀ i, S'.2.1 k i = S.2.1 k i) ∧ (∀ i, S'.2.2.1 k i = S.2.2.1 k i) ∧ ∀ i, S'.2.2.2 k i = S.2.2.2 k i
def sW (G : sG) (n : Nat) (S : sS) (H : Heap) : Prop := H.size = G.2.2.1 + n ∧ (∀ q, q < G.2.2.1 → H[q]? = G.2.2.2[q]?) ∧ (∀ k, k < n → sA G S k (tau k) H) ∧ ∀ k, n ≤ k → sZ S k
def sOK (ty : FieldType) : Bool := match ty with
  | .int => true
  | .boolean => true
  | .byte => true
  | .object _ => true
  | .array _ => true
  | _ => false
theorem sZ.dfltF {S : sS} {k : Nat} (h : sZ S k) {ty : FieldType} (ok : sOK ty = true) (i : Nat) : fv S ty k i = defaultValue ty := by
  cases ty <;> first | (simp [sOK] at ok; done) | exact congrArg (fun a => Value.int (iv a)) (h.1 i) | exact h.2.2.2 i
theorem sZ.dfltA {S : sS} {k : Nat} (h : sZ S k) {ty : FieldType} (ok : sOK ty = true ∨ ty = .long) (i : Nat) : av S ty k i = defaultValue ty := by
  cases ty <;> first | (simp [sOK] at ok; done) | exact congrArg (fun a => Value.int (iv a)) (h.2.1 i) | exact congrArg (fun a => Value.long (jv a)) (h.2.2.1 i) | exact h.2.2.2 i
theorem same.fv {S S' : sS} {k : Nat} (h : same S S' k) (ty : FieldType) (i : Nat) : fv S' ty k i = fv S ty k i := by
  cases ty <;> first | exact congrArg (fun a => Value.int (iv a)) (h.1 i) | exact h.2.2.2 i
theorem same.av {S S' : sS} {k : Nat} (h : same S S' k) (ty : FieldType) (i : Nat) : av S' ty k i = av S ty k i := by
  cases ty <;> first | exact congrArg (fun a => Value.int (iv a)) (h.2.1 i) | exact congrArg (fun a => Value.long (jv a)) (h.2.2.1 i) | exact h.2.2.2 i
theorem same.rf {S : sS} {k : Nat} : same S S k := ⟨fun _ => rfl, fun _ => rfl, fun _ => rfl, fun _ => rfl⟩
theorem same.z {S S' : sS} {k : Nat} (h : same S S' k) (hz : sZ S k) : sZ S' k := ⟨fun i => (h.1 i).trans (hz.1 i), fun i => (h.2.1 i).trans (hz.2.1 i), fun i => (h.2.2.1 i).trans (hz.2.2.1 i), fun i => (h.2.2.2 i).trans (hz.2.2.2 i)⟩
theorem uF_same {S : sS} {k i a : Nat} {x : Int} (h : a ≠ k) : same S (uF S k i x) a := ⟨fun _ => uF_ne (fun q => h q.1), fun _ => rfl, fun _ => rfl, fun _ => rfl⟩
theorem uA_same {S : sS} {k a : Nat} {i x : Int} (h : a ≠ k) : same S (uA S k i x) a := ⟨fun _ => rfl, fun _ => uA_ne (fun q => h q.1), fun _ => rfl, fun _ => rfl⟩
theorem uL_same {S : sS} {k a : Nat} {i x : Int} (h : a ≠ k) : same S (uL S k i x) a := ⟨fun _ => rfl, fun _ => rfl, fun _ => uL_ne (fun q => h q.1), fun _ => rfl⟩
theorem uR_same {S : sS} {k i a : Nat} {x : Value} (h : a ≠ k) : same S (uR S k i x) a := ⟨fun _ => rfl, fun _ => rfl, fun _ => rfl, fun _ => uR_ne (fun q => h q.1)⟩
theorem sA.kept {G : sG} {S S' : sS} {k : Nat} {t : Nat ⊕ (FieldType × Nat)} {H H' : Heap} (h : sA G S k t H) (hq : H'[G.2.2.1 + k]? = H[G.2.2.1 + k]?) (hs : same S S' k) : sA G S' k t H' := by
  cases t with
  | inl ci =>
    obtain ⟨r, h1, h2⟩ := h
    exact ⟨r, h1, (h2.kept hq).to (fun i _ => (hs.fv _ i).symm)⟩
  | inr a =>
    show H'[G.2.2.1 + k]? = some _
    rw [hq]
    exact Eq.trans h (congrArg some (congrArg (arrV _ _) (funext fun i => (hs.av _ i).symm)))
theorem sW.set {G : sG} {n : Nat} {S S' : sS} {H H' : Heap} {k : Nat} (h : sW G n S H) (hkn : k < n) (ho : ∀ a, a ≠ k → same S S' a) (hz : H'.size = H.size) (hq : ∀ q, q ≠ G.2.2.1 + k → H'[q]? = H[q]?) (hk : sA G S' k (tau k) H') : sW G n S' H' := by
  refine ⟨hz.trans h.1, fun q h1 => (hq q (by omega)).trans (h.2.1 q h1), fun a ha => ?_, fun a ha => (ho a (by omega)).z (h.2.2.2 a ha)⟩
  by_cases e : a = k
  · subst e; exact hk
  · exact (h.2.2.1 a ha).kept (hq _ (by omega)) (ho a e)
def sTy (G : sG) : List (ClassId × FieldType) := [(G.2.1 .int, .int), (G.2.1 .long, .long), (G.2.1 .byte, .byte), (G.2.1 .boolean, .boolean), (G.2.1 (.array .long), .array .long)]
theorem overA_spec {args : Array Value} {first s : State} {o : Option Outcome} {idx : List Nat} (h : (Cond.arrayOver (.array .long)).holds args first o s idx = true) :
    ∃ comp c k, s.vm.findClass (FieldType.array .long).toString = some comp ∧ (s.vm.classes.findIdx? fun (x : Class) => match x.kind with | .array component _ => component == comp | _ => false) = some c ∧ s.vm.classes[c]? = some k ∧ k.kind = .array comp (.array .long) ∧
      s.vm.findClass ("[" ++ (FieldType.array .long).toString) = some c := by
  simp only [Cond.holds, Cond.value, beq_iff_eq] at h
  cases hc : s.vm.findClass (FieldType.array .long).toString with
  | none => simp [hc] at h
  | some comp =>
    simp only [hc, Option.bind_some, Option.bind_eq_some_iff, Option.map_eq_some_iff] at h
    obtain ⟨c, hi, k, hk, hb⟩ := h
    obtain ⟨hlt, hp, -⟩ := Array.findIdx?_eq_some_iff_getElem.mp hi
    have hkk : s.vm.classes[c] = k := (Array.getElem?_eq_some_iff.mp hk).2
    rw [hkk] at hp
    cases hkind : k.kind with
    | array component ty =>
      rw [hkind] at hb hp
      simp at hb hp
      exact ⟨comp, c, k, rfl, hi, hk, by rw [hkind, hp, hb.1], hb.2⟩
    | _ => rw [hkind] at hb; simp at hb
/-- the class of the rows of rows -/
def sO (U : State) : Prop := (Cond.arrayOver (.array .long)).before #[] U = true
theorem sO.moved {u U : State} (hvm : u.vm.Alike U.vm) (h : sO u) : sO U := by
  obtain ⟨comp, c, k, h1, h2, h3, h4, h5⟩ := overA_spec h
  obtain ⟨k', hk', he⟩ := hvm.2.2 _ _ h3
  have hi : (U.vm.classes.findIdx? fun (x : Class) => match x.kind with | .array component _ => component == comp | _ => false) = some c := by
    have e1 := va_idx_bare U.vm comp
    have e2 := va_idx_bare u.vm comp
    have e3 : U.vm.bare = u.vm.bare := by first | exact hvm.bare_eq | exact hvm.bare_eq.symm
    rw [e3] at e1
    exact e1.symm.trans (e2.trans h2)
  have hkind : k'.kind = .array comp (.array .long) := by rw [he]; exact h4
  have f1 : U.vm.findClass (FieldType.array .long).toString = some comp := by rw [hvm.findClass]; exact h1
  have f2 : U.vm.findClass ("[" ++ (FieldType.array .long).toString) = some c := by rw [hvm.findClass]; exact h5
  unfold sO Cond.before Cond.holds
  simp only [Cond.value]
  rw [f1, Option.bind_some]
  refine (congrArg (fun o : Option Nat => (o.bind (fun c => (U.vm.classes[c]?).map fun (k : Class) => match k.kind with | .array _ ty => decide (ty = FieldType.array .long) && decide (U.vm.findClass ("[" ++ (FieldType.array .long).toString) = some c) | _ => false) == some true)) hi).trans ?_
  simp [hk', hkind, f2]
/-! String constants and static rows: their addresses stand in G.1.2 at 100, 101, 102 -/
def strL : List (String × Nat × String) := [("OptimumHouse$Syntax", 69, ";,[]()+-*:"), ("OptimumHouse$Prover", 91, "bound"), ("OptimumHouse$Prover", 93, "farkas"), ("OptimumHouse$Prover", 133, ":"), ("OptimumHouse$Prover", 111, ";"), ("OptimumHouse$Prover", 113, "cut"), ("OptimumHouse$Prover", 135, "branch"), ("OptimumHouse$Prover", 178, "optimal"), ("OptimumHouse$Prover", 176, "/"), ("OptimumHouse$Prover", 174, "at"), ("OptimumHouse$Prover", 192, "infeasible"), ("OptimumHouse$Prover", 198, "unbounded"), ("OptimumHouse$Prover", 200, "along"), ("OptimumHouse$Prover", 205, "1"), ("OptimumHouse$ProofReader", 70, "optimal"), ("OptimumHouse$ProofReader", 72, "infeasible"), ("OptimumHouse$ProofReader", 74, "unbounded"), ("OptimumHouse$ProofReader", 76, "at"), ("OptimumHouse$ProofReader", 77, "along"), ("OptimumHouse$ProofReader", 79, "branch"), ("OptimumHouse$ProofReader", 81, "cut"), ("OptimumHouse$ProofReader", 83, "bound"), ("OptimumHouse$ProofReader", 85, "farkas"), ("OptimumHouseModel", 302, " max min set par var whole row sum in "), ("OptimumHouseModel", 618, "farkas"), ("OptimumHouseModel", 611, ":"), ("OptimumHouseModel", 613, ";"), ("OptimumHouseModel", 669, "optimal"), ("OptimumHouseModel", 664, "/"), ("OptimumHouseModel", 674, "at"), ("OptimumHouseModel", 678, "infeasible"), ("OptimumHouseModel", 626, "bound"), ("OptimumHouseModel", 646, "cut"), ("OptimumHouseModel", 650, "branch"), ("OptimumHouseModel", 680, "unbounded"), ("OptimumHouseModel", 682, "along"), ("OptimumHouseModel", 684, "1"), ("OptimumHouseModel", 689, " optimal at infeasible unbounded along branch cut bound farkas ")]
def strN : List Nat := [10, 5, 6, 1, 1, 3, 6, 7, 1, 2, 10, 9, 5, 1, 7, 10, 9, 2, 5, 6, 3, 5, 6, 38, 6, 1, 1, 7, 1, 2, 10, 5, 3, 6, 9, 5, 1, 63]
def strB : List (List Int) := [[59, 44, 91, 93, 40, 41, 43, 45, 42, 58], [98, 111, 117, 110, 100], [102, 97, 114, 107, 97, 115], [58], [59], [99, 117, 116], [98, 114, 97, 110, 99, 104], [111, 112, 116, 105, 109, 97, 108], [47], [97, 116], [105, 110, 102, 101, 97, 115, 105, 98, 108, 101], [117, 110, 98, 111, 117, 110, 100, 101, 100], [97, 108, 111, 110, 103], [49], [111, 112, 116, 105, 109, 97, 108], [105, 110, 102, 101, 97, 115, 105, 98, 108, 101], [117, 110, 98, 111, 117, 110, 100, 101, 100], [97, 116], [97, 108, 111, 110, 103], [98, 114, 97, 110, 99, 104], [99, 117, 116], [98, 111, 117, 110, 100], [102, 97, 114, 107, 97, 115], [32, 109, 97, 120, 32, 109, 105, 110, 32, 115, 101, 116, 32, 112, 97, 114, 32, 118, 97, 114, 32, 119, 104, 111, 108, 101, 32, 114, 111, 119, 32, 115, 117, 109, 32, 105, 110, 32], [102, 97, 114, 107, 97, 115], [58], [59], [111, 112, 116, 105, 109, 97, 108], [47], [97, 116], [105, 110, 102, 101, 97, 115, 105, 98, 108, 101], [98, 111, 117, 110, 100], [99, 117, 116], [98, 114, 97, 110, 99, 104], [117, 110, 98, 111, 117, 110, 100, 101, 100], [97, 108, 111, 110, 103], [49], [32, 111, 112, 116, 105, 109, 97, 108, 32, 97, 116, 32, 105, 110, 102, 101, 97, 115, 105, 98, 108, 101, 32, 117, 110, 98, 111, 117, 110, 100, 101, 100, 32, 97, 108, 111, 110, 103, 32, 98, 114, 97, 110, 99, 104, 32, 99, 117, 116, 32, 98, 111, 117, 110, 100, 32, 102, 97, 114, 107, 97, 115, 32]]
def wordsL : List Int := [7168376, 7170414, 7562612, 7364978, 7758194, 512853240933, 7499639, 7566701, 26990]
def strF (G : sG) (U : State) (i : Nat) : Prop := vk_R (strL.getD i ("", 0, "")).1 (strL.getD i ("", 0, "")).2.1 (strL.getD i ("", 0, "")).2.2 (G.1.2 100 i) U ∧ va_O "java/lang/String" (G.1.2 100 i) (fun q => G.2.2.1 ≤ q) U G.2.2.2 ∧ va_OF "java/lang/String" "coder" "B" (.int 0) (G.1.2 100 i) (fun q => G.2.2.1 ≤ q) U G.2.2.2 ∧ va_OF "java/lang/String" "value" "[B" (.ref (G.1.2 101 i)) (G.1.2 100 i) (fun q => G.2.2.1 ≤ q) U G.2.2.2 ∧ va_T .byte (G.1.2 101 i) (strN.getD i 0) (fun j => .int (iv ((strB.getD i []).getD j 0))) (fun q => G.2.2.1 ≤ q) U G.2.2.2
def sT (G : sG) (U : State) : Prop := ((va_Z "jdk/internal/util/Preconditions" "SIOOBE_FORMATTER" "Ljava/util/function/BiFunction;" .null (fun q => G.2.2.1 ≤ q) U G.2.2.2 ∨ ∃ a, va_Z "jdk/internal/util/Preconditions" "SIOOBE_FORMATTER" "Ljava/util/function/BiFunction;" (.ref a) (fun q => G.2.2.1 ≤ q) U G.2.2.2) ∧ va_Z "java/lang/String" "COMPACT_STRINGS" "Z" (.int (iv 1)) (fun q => G.2.2.1 ≤ q) U G.2.2.2) ∧ (va_Z "OptimumHouse$Syntax" "WORDS" "[J" (.ref (G.1.2 102 0)) (fun q => G.2.2.1 ≤ q) U G.2.2.2 ∧ va_T .long (G.1.2 102 0) 9 (fun j => .long (jv (wordsL.getD j 0))) (fun q => G.2.2.1 ≤ q) U G.2.2.2) ∧ ∀ i, i < 38 → strF G U i
theorem strF.warm {G : sG} {s U : State} {i : Nat} (hW : s.WarmedH U.vm) (h : strF G s i) : strF G U i := ⟨h.1.warm hW, h.2.1.moved hW.alike, h.2.2.1.moved hW.alike, h.2.2.2.1.moved hW.alike, h.2.2.2.2.moved hW.alike⟩
theorem fmtM {G : sG} {u U : State} (ha : u.vm.Alike U.vm) (h : va_Z "jdk/internal/util/Preconditions" "SIOOBE_FORMATTER" "Ljava/util/function/BiFunction;" .null (fun q => G.2.2.1 ≤ q) u G.2.2.2 ∨ ∃ a, va_Z "jdk/internal/util/Preconditions" "SIOOBE_FORMATTER" "Ljava/util/function/BiFunction;" (.ref a) (fun q => G.2.2.1 ≤ q) u G.2.2.2) : va_Z "jdk/internal/util/Preconditions" "SIOOBE_FORMATTER" "Ljava/util/function/BiFunction;" .null (fun q => G.2.2.1 ≤ q) U G.2.2.2 ∨ ∃ a, va_Z "jdk/internal/util/Preconditions" "SIOOBE_FORMATTER" "Ljava/util/function/BiFunction;" (.ref a) (fun q => G.2.2.1 ≤ q) U G.2.2.2 := by
  rcases h with h | ⟨a, h⟩
  · exact Or.inl (h.moved ha)
  · exact Or.inr ⟨a, h.moved ha⟩
theorem sT.warm {G : sG} {s U : State} (hW : s.WarmedH U.vm) (h : sT G s) : sT G U := ⟨⟨fmtM hW.alike h.1.1, h.1.2.moved hW.alike⟩, ⟨h.2.1.1.moved hW.alike, h.2.1.2.moved hW.alike⟩, fun i hi => (h.2.2 i hi).warm hW⟩
theorem sT.same {G : sG} {u U : State} (hv : U.vm = u.vm) (ha : u.vm.Alike U.vm) (h : sT G u) : sT G U := ⟨⟨fmtM ha h.1.1, h.1.2.moved ha⟩, ⟨h.2.1.1.moved ha, h.2.1.2.moved ha⟩, fun i hi => have q := h.2.2 i hi; ⟨q.1.same hv, q.2.1.moved ha, q.2.2.1.moved ha, q.2.2.2.1.moved ha, q.2.2.2.2.moved ha⟩⟩
def sK (G : sG) (U : State) : Prop := va_K G.1 vwCl (sTy G) U ∧ Nst U ∧ sO U ∧ sT G U
theorem sK.warm {G : sG} {s U : State} (hW : s.WarmedH U.vm) (h : sK G s) : sK G U := ⟨va_K.moved hW.alike h.1, h.2.1.warm hW, h.2.2.1.moved hW.alike, h.2.2.2.warm hW⟩
def sF (G : sG) : Addr → Prop := fun q => G.2.2.1 ≤ q
def sL (G : sG) (locs : List Loc) : Prop := ∀ q ∈ locs, sF G q.base
theorem sL_nil {G : sG} : sL G [] := fun _ h => by cases h
theorem sL_put {G : sG} {locs : List Loc} {k i : Nat} (h : sL G locs) : sL G (locs ++ [⟨G.2.2.1 + k, i⟩]) := fun q hq => by
  rcases List.mem_append.mp hq with h1 | h1
  · exact h q h1
  · rw [List.mem_singleton.mp h1]; exact Nat.le_add_right _ _
theorem sL_app {G : sG} {locs L : List Loc} (h : sL G locs) (h2 : ∀ q ∈ L, sF G q.base) : sL G (locs ++ L) := fun q hq => by
  rcases List.mem_append.mp hq with h1 | h1
  · exact h q h1
  · exact h2 q h1
def sC (G : sG) (p : Program) (m : MethodId) (c : Code) (cc : ByteArray) (nL : Nat) (s : State) (args : Array Value) (own : String) : Prop := CallFix p m c cc nL s args tb own ∧ sK G s
def sPc (G : sG) (n : Nat) (S : sS) (av : List Value) : Array Value → State → Prop := fun v U => v = av.toArray ∧ sW G n S U.heap ∧ sK G U
def sQi (G : sG) (n : Nat) (post : Int → sS → Prop) : Array Value → State → Outcome → State → Prop := fun _ _ oc t => ∃ (r : Int) (u : sS), oc = .returned (some (.int (iv r))) ∧ post r u ∧ sW G n u t.heap
def sQl (G : sG) (n : Nat) (post : Int → sS → Prop) : Array Value → State → Outcome → State → Prop := fun _ _ oc t => ∃ (r : Int) (u : sS), oc = .returned (some (.long (jv r))) ∧ post r u ∧ sW G n u t.heap
def sQr (G : sG) (n : Nat) (post : Nat → sS → Prop) : Array Value → State → Outcome → State → Prop := fun _ _ oc t => ∃ (r : Nat) (u : sS), oc = .returned (some (.ref (G.2.2.1 + r))) ∧ post r u ∧ sW G n u t.heap
def sQv (G : sG) (n : Nat) (post : sS → Prop) : Array Value → State → Outcome → State → Prop := fun _ _ oc t => ∃ u : sS, oc = .returned none ∧ post u ∧ sW G n u t.heap
def rmk (d mc ms : Nat) : Room := { frames := d, cells := mc, slots := ms, locals := 64 * d }
theorem sPc_blind {G : sG} {n : Nat} {S : sS} {av : List Value} : FrameBlind (sPc G n S av) := fun a U g mk q => ⟨q.1, q.2.1, va_K.moved (u := U) (U := U.calling g mk a) (Vm.Alike.refl U.vm) q.2.2.1, Nst.same (u := U) (U := U.calling g mk a) rfl q.2.2.2.1, sO.moved (u := U) (U := U.calling g mk a) (Vm.Alike.refl U.vm) q.2.2.2.2.1, sT.same (u := U) (U := U.calling g mk a) rfl (Vm.Alike.refl U.vm) q.2.2.2.2.2⟩
theorem sEnter {l : Launch} {y : MethodName} {cc : ByteArray} {maxL : Nat} {ret : Option FieldType} {G : sG} {n : Nat} {S : sS} {av : List Value} {rm : Room} {Qc : Array Value → State → Outcome → State → Prop} {mc ms : Nat} (hy : plainName y.cls = true) (hlen : (lg_sl av).length ≤ maxL)
    (body : ∀ (p : Program) (e : Env) (s : State) (m : MethodId) (args : Array Value) (below : List Frame) (meth : Method) (c : Code), sC G p m c cc maxL s args y.cls → meth.sig.returnType = ret → meth.locks = false → meth.name = y.name → sW G n S s.heap → ∀ ls : Array Slot, lv_has ls maxL (lv_args 0 av) →
      W p l e rm s m args below meth c s.heap [] 0 0 (MQ below Qc args s mc ms (sF G)) (F0 m 0 ls [])) : Met l y (.code y cc maxL ret :: tb) rm (sPc G n S av) Qc mc ms (sF G) := by
  refine Met.ofW (cc := cc) (maxL := maxL) (ret := ret) hy rfl ?_
  intro p e s m args below meth c s₁ B hml hv
  obtain ⟨rfl, hW, hK⟩ := hv
  have hts := atoms_spec (ws := Cond.code y cc maxL ret :: tb) B.pre
  have hl := lv_entry av hlen
  rw [lg_entry_eq]
  exact body p e s m _ below meth c ⟨⟨B.exec, B.bytes, hml, findClass_of_methodNamed B.named, fun w hw => hts w (List.mem_cons_of_mem _ hw)⟩, hK⟩ B.returns B.notSynchronized (name_of_methodNamed B.named B.method).1 hW _ hl
section SV
variable {p : Program} {l : Launch} {e : Env} {R : Room} {s : State} {m : MethodId} {args : Array Value} {below : List Frame} {meth : Method} {c : Code} {H : Heap} {locs : List Loc} {cells slots : Nat} {Q : State → Prop}
variable {cc : ByteArray} {pc nL : Nat} {ls : Array Slot} {rest st0 : List Value} {G : sG} {n : Nat} {S : sS} {own : String}
theorem sGet (Cx : sC G p m c cc nL s args own) {C : String} {T : u_T} {N ci index : Nat} (hin : ∀ w ∈ u_ws C T N, w ∈ tb) (hc : vwCl[ci]? = some (C, T, N)) (i : Nat) (hi : i < N) (hl : Cond.fieldLink own index (T i).1 (T i).2.1 (T i).2.2.1 ∈ tb) (hW : sW G n S H) {k : Nat} (hk : k < n) (ht : tau k = .inl ci) {v : Value} (hv : fv S (tyOf ci i) k i = v) (hdg : decode cc pc = .ok (.getfield index, 3))
    (kk : W p l e R s m args below meth c H locs cells slots Q (F0 m (pc + 3) ls (v :: rest))) : W p l e R s m args below meth c H locs cells slots Q (F0 m pc ls (.ref (G.2.2.1 + k) :: rest)) := by
  obtain ⟨⟨hx, hb, hml, hown, hts⟩, hK, -⟩ := Cx
  have hat := hW.2.2.1 k hk
  rw [ht] at hat
  obtain ⟨r, h1, cell, q1, q2, q3, q4⟩ := hat
  have hr : r = (C, T, N) := Option.some.inj (h1.symm.trans hc)
  subst hr
  obtain ⟨hS, hfc, kC, hkC, hkind⟩ := hK.1 ci _ hc
  obtain ⟨cf, kf, fi, f, hf, hsl⟩ := hS i hi
  refine W.getf hx hb hown (hts _ hl) hf (u_facts hfc hkC (u_lays hts hin hi) hf).1 q1 (by rw [q3]; exact fun h => by cases h) (v := v) ?_ rfl rfl hdg kk
  rw [hsl, q4 i hi]
  exact congrArg some hv
theorem sGetN (Cx : sC G p m c cc nL s args own) {C host : String} {T : u_T} {N ci index : Nat} (hin : ∀ w ∈ u_ws C T N, w ∈ tb) (hc : vwCl[ci]? = some (C, T, N)) (i : Nat) (hi : i < N) (hl : Cond.fieldLinkNest own index (T i).1 (T i).2.1 (T i).2.2.1 host ∈ nst) (hW : sW G n S H) {k : Nat} (hk : k < n) (ht : tau k = .inl ci) {v : Value} (hv : fv S (tyOf ci i) k i = v) (hdg : decode cc pc = .ok (.getfield index, 3))
    (kk : W p l e R s m args below meth c H locs cells slots Q (F0 m (pc + 3) ls (v :: rest))) : W p l e R s m args below meth c H locs cells slots Q (F0 m pc ls (.ref (G.2.2.1 + k) :: rest)) := by
  obtain ⟨⟨hx, hb, hml, hown, hts⟩, hK, hN, -⟩ := Cx
  have hat := hW.2.2.1 k hk
  rw [ht] at hat
  obtain ⟨r, h1, cell, q1, q2, q3, q4⟩ := hat
  have hr : r = (C, T, N) := Option.some.inj (h1.symm.trans hc)
  subst hr
  obtain ⟨hS, hfc, kC, hkC, hkind⟩ := hK.1 ci _ hc
  obtain ⟨cf, kf, fi, f, hf, hsl⟩ := hS i hi
  refine va_Wgetf hx hb hown (va_Nw.use rfl (hN _ hl)) hf (u_facts hfc hkC (u_lays hts hin hi) hf).1 q1 (by rw [q3]; exact fun h => by cases h) (v := v) ?_ rfl rfl hdg kk
  rw [hsl, q4 i hi]
  exact congrArg some hv
theorem sA_put {G : sG} {S S' : sS} {k i ci N : Nat} {C : String} {T : u_T} {H' : Heap} {cell : Cell} {v : Value} (hc : vwCl[ci]? = some (C, T, N)) (ht : tau k = .inl ci) (q2 : cell.cls = G.1.1 ci) (q3 : cell.vm = .none) (q4 : ∀ j, j < N → cell.slots[G.1.2 ci j]? = some (fv S (tyOf ci j) k j)) (hap : ∀ a b, a < N → b < N → a ≠ b → G.1.2 ci a ≠ G.1.2 ci b) (hi : i < N) (e1 : H'[G.2.2.1 + k]? = some (cell.setSlot (G.1.2 ci i) v)) (ho : ∀ j, j ≠ i → fv S' (tyOf ci j) k j = fv S (tyOf ci j) k j) (hv : fv S' (tyOf ci i) k i = v) : sA G S' k (tau k) H' := by
  rw [ht]
  refine ⟨_, hc, t_OB.to (V := updV (fun j => fv S (tyOf ci j) k j) i v) ⟨_, e1, q2, q3, t_set q4 hap hi v⟩ (fun j _ => ?_)⟩
  unfold updV
  by_cases e : j = i
  · subst e; rw [if_pos rfl, hv]
  · rw [if_neg e]; exact (ho j e).symm
theorem sPut (Cx : sC G p m c cc nL s args own) {C : String} {T : u_T} {N ci index : Nat} (hin : ∀ w ∈ u_ws C T N, w ∈ tb) (ty0 : Nat → FieldType) (hty : ∀ k, k < N → parseFieldDescriptor (T k).2.2.1 = some (ty0 k)) (hnm : ∀ a, a < N → ∀ b, b < N → a ≠ b → (T a).2.1 ≠ (T b).2.1) (hc : vwCl[ci]? = some (C, T, N)) (i : Nat) (hi : i < N) (hl : Cond.fieldLink own index (T i).1 (T i).2.1 (T i).2.2.1 ∈ tb) (hfin : (T i).2.2.2 = false) (hW : sW G n S H) (hL : sL G locs) {k : Nat} (hk : k < n) (ht : tau k = .inl ci)
    {v : Value} (hn : narrow (ty0 i) v = v) (hfit : fits (ty0 i) v = true) {S' : sS} (hs : ∀ a, a ≠ k → same S S' a) (ho : ∀ j, j ≠ i → fv S' (tyOf ci j) k j = fv S (tyOf ci j) k j) (hv : fv S' (tyOf ci i) k i = v) (hdg : decode cc pc = .ok (.putfield index, 3))
    (kk : ∀ (H1 : Heap) (locs1 : List Loc), sW G n S' H1 → sL G locs1 → W p l e R s m args below meth c H1 locs1 cells slots Q (F0 m (pc + 3) ls rest)) : W p l e R s m args below meth c H locs cells slots Q (F0 m pc ls (v :: .ref (G.2.2.1 + k) :: rest)) := by
  obtain ⟨⟨hx, hb, hml, hown, hts⟩, hK, -⟩ := Cx
  have hap := va_apart (own := own) hts hin ty0 hty hnm hK hc
  have hat := hW.2.2.1 k hk
  rw [ht] at hat
  obtain ⟨r, h1, cell, q1, q2, q3, q4⟩ := hat
  have hr : r = (C, T, N) := Option.some.inj (h1.symm.trans hc)
  subst hr
  obtain ⟨hS, hfc, kC, hkC, hkind⟩ := hK.1 ci _ hc
  obtain ⟨cf, kf, fi, f, hf, hsl⟩ := hS i hi
  have hlay := hts _ (hin _ (u_in_lay hi))
  unfold u_lay at hlay
  rw [if_neg (by rw [hfin]; decide)] at hlay
  have hst := (u_facts hfc hkC (u_lays hts hin hi) hf).1
  have h6 := u_store hfc hkC hkind hlay hf (hty i hi) hn hfit
  refine W.putK hx hb (f := f) ⟨hown, hts _ hl, ⟨_, _, _, hf⟩, hst⟩ (by rw [q2]; exact h6) q1 q3 (by rw [hsl]; exact k2_hasslot (q4 i hi)) rfl rfl hdg fun H' e1 e2 e3 => ?_
  rw [hsl] at e1 ⊢
  exact kk H' _ (hW.set hk hs e2 e3 (sA_put hc ht q2 q3 q4 hap hi e1 ho hv)) (sL_put hL)
theorem sPutN (Cx : sC G p m c cc nL s args own) {C host : String} {T : u_T} {N ci index : Nat} (hin : ∀ w ∈ u_ws C T N, w ∈ tb) (ty0 : Nat → FieldType) (hty : ∀ k, k < N → parseFieldDescriptor (T k).2.2.1 = some (ty0 k)) (hnm : ∀ a, a < N → ∀ b, b < N → a ≠ b → (T a).2.1 ≠ (T b).2.1) (hc : vwCl[ci]? = some (C, T, N)) (i : Nat) (hi : i < N) (hl : Cond.fieldLinkNest own index (T i).1 (T i).2.1 (T i).2.2.1 host ∈ nst) (hfin : (T i).2.2.2 = false) (hW : sW G n S H) (hL : sL G locs) {k : Nat} (hk : k < n) (ht : tau k = .inl ci)
    {v : Value} (hn : narrow (ty0 i) v = v) (hfit : fits (ty0 i) v = true) {S' : sS} (hs : ∀ a, a ≠ k → same S S' a) (ho : ∀ j, j ≠ i → fv S' (tyOf ci j) k j = fv S (tyOf ci j) k j) (hv : fv S' (tyOf ci i) k i = v) (hdg : decode cc pc = .ok (.putfield index, 3))
    (kk : ∀ (H1 : Heap) (locs1 : List Loc), sW G n S' H1 → sL G locs1 → W p l e R s m args below meth c H1 locs1 cells slots Q (F0 m (pc + 3) ls rest)) : W p l e R s m args below meth c H locs cells slots Q (F0 m pc ls (v :: .ref (G.2.2.1 + k) :: rest)) := by
  obtain ⟨⟨hx, hb, hml, hown, hts⟩, hK, hN, -⟩ := Cx
  have hap := va_apart (own := own) hts hin ty0 hty hnm hK hc
  have hat := hW.2.2.1 k hk
  rw [ht] at hat
  obtain ⟨r, h1, cell, q1, q2, q3, q4⟩ := hat
  have hr : r = (C, T, N) := Option.some.inj (h1.symm.trans hc)
  subst hr
  obtain ⟨hS, hfc, kC, hkC, hkind⟩ := hK.1 ci _ hc
  obtain ⟨cf, kf, fi, f, hf, hsl⟩ := hS i hi
  have hlay := hts _ (hin _ (u_in_lay hi))
  unfold u_lay at hlay
  rw [if_neg (by rw [hfin]; decide)] at hlay
  have hst := (u_facts hfc hkC (u_lays hts hin hi) hf).1
  have h6 := u_store hfc hkC hkind hlay hf (hty i hi) hn hfit
  refine va_WputK hx hb (f := f) hown (va_Nw.use rfl (hN _ hl)) hf hst (by rw [q2]; exact h6) q1 q3 (by rw [hsl]; exact k2_hasslot (q4 i hi)) rfl rfl hdg fun H' e1 e2 e3 => ?_
  rw [hsl] at e1 ⊢
  exact kk H' _ (hW.set hk hs e2 e3 (sA_put hc ht q2 q3 q4 hap hi e1 ho hv)) (sL_put hL)
theorem sPutF (Cx : sC G p m c cc nL s args own) {C : String} {T : u_T} {N ci index : Nat} (hin : ∀ w ∈ u_ws C T N, w ∈ tb) (ty0 : Nat → FieldType) (hty : ∀ k, k < N → parseFieldDescriptor (T k).2.2.1 = some (ty0 k)) (hnm : ∀ a, a < N → ∀ b, b < N → a ≠ b → (T a).2.1 ≠ (T b).2.1) (hc : vwCl[ci]? = some (C, T, N)) (i : Nat) (hi : i < N) (hl : Cond.fieldLink own index (T i).1 (T i).2.1 (T i).2.2.1 ∈ tb) (hfin : (T i).2.2.2 = true) (hdecl : (T i).1 = own) (hin2 : meth.name = "<init>") (hW : sW G n S H) (hL : sL G locs) {k : Nat} (hk : k < n) (ht : tau k = .inl ci)
    {v : Value} (hn : narrow (ty0 i) v = v) (hfit : fits (ty0 i) v = true) {S' : sS} (hs : ∀ a, a ≠ k → same S S' a) (ho : ∀ j, j ≠ i → fv S' (tyOf ci j) k j = fv S (tyOf ci j) k j) (hv : fv S' (tyOf ci i) k i = v) (hdg : decode cc pc = .ok (.putfield index, 3))
    (kk : ∀ (H1 : Heap) (locs1 : List Loc), sW G n S' H1 → sL G locs1 → W p l e R s m args below meth c H1 locs1 cells slots Q (F0 m (pc + 3) ls rest)) : W p l e R s m args below meth c H locs cells slots Q (F0 m pc ls (v :: .ref (G.2.2.1 + k) :: rest)) := by
  obtain ⟨⟨hx, hb, hml, hown, hts⟩, hK, -⟩ := Cx
  have hap := va_apart (own := own) hts hin ty0 hty hnm hK hc
  have hat := hW.2.2.1 k hk
  rw [ht] at hat
  obtain ⟨r, h1, cell, q1, q2, q3, q4⟩ := hat
  have hr : r = (C, T, N) := Option.some.inj (h1.symm.trans hc)
  subst hr
  obtain ⟨hS, hfc, kC, hkC, hkind⟩ := hK.1 ci _ hc
  obtain ⟨cf, kf, fi, f, hf, hsl⟩ := hS i hi
  have hlay := hts _ (hin _ (u_in_lay hi))
  unfold u_lay at hlay
  rw [if_pos hfin] at hlay
  have hst := (u_facts hfc hkC (u_lays hts hin hi) hf).1
  have hcf : m.cls = cf := by
    obtain ⟨_, _, c', _, _, _, -, -, hf', -, -, -, hown2, -⟩ := Cond.laysFinal_spec hlay
    have e1 : c' = cf := by have := hf.symm.trans hf'; simp at this; exact this.1.symm
    rw [hdecl] at hown2
    rw [← e1]; exact Option.some.inj (hown.symm.trans hown2)
  have h6 := u_fits hfc hkC hkind (Or.inr hlay) hf (hty i hi) hn hfit
  refine W.putFinK hx hb hown (hts _ hl) hf hst hcf hin2 (by rw [q2]; exact h6) q1 q3 (by rw [hsl]; exact k2_hasslot (q4 i hi)) rfl rfl hdg fun H' e1 e2 e3 => ?_
  rw [hsl] at e1 ⊢
  exact kk H' _ (hW.set hk hs e2 e3 (sA_put hc ht q2 q3 q4 hap hi e1 ho hv)) (sL_put hL)
/-- a new object: nothing changes but the number of places -/
theorem sNew (Cx : sC G p m c cc nL s args own) {C : String} {T : u_T} {N ci index : Nat} (hin : ∀ w ∈ u_ws C T N, w ∈ tb) (hty : ∀ k, k < N → parseFieldDescriptor (T k).2.2.1 = some (tyOf ci k)) (hc : vwCl[ci]? = some (C, T, N)) (hcl : Cond.classLink own index C ∈ tb) (hins : Cond.instantiable C N ∈ tb) (hini : Cond.initialized C ∈ tb) (hW : sW G n S H) (ht : tau n = .inl ci) (hok : ∀ i, i < N → sOK (tyOf ci i) = true) (hcells : cells + 1 ≤ R.cells) (hslots : slots + N ≤ R.slots) (hdg : decode cc pc = .ok (.new index, 3))
    (kk : ∀ H1 : Heap, sW G (n + 1) S H1 → W p l e R s m args below meth c H1 locs (cells + 1) (slots + N) Q (F0 m (pc + 3) ls (.ref (G.2.2.1 + n) :: rest))) : W p l e R s m args below meth c H locs cells slots Q (F0 m pc ls rest) := by
  obtain ⟨⟨hx, hb, hml, hown, hts⟩, hK, -⟩ := Cx
  have hKn := hK.1 ci _ hc
  refine W.newcK hx hb hown (hts _ hcl) (hts _ hins) (hts _ hini) rfl hdg hcells hslots hKn.2.1 hW.1 fun H1 kC hkC e1 z1 o1 => ?_
  refine kk H1 ⟨z1, fun q hq => (o1 q (by omega)).trans (hW.2.1 q hq), fun k hk => ?_, fun k hk => hW.2.2.2 k (by omega)⟩
  by_cases e : k = n
  · subst e
    rw [ht]
    exact ⟨_, hc, (u_born (tyOf ci) hts hin hKn hkC e1 hty).to (fun i hi => ((hW.2.2.2 k (Nat.le_refl k)).dfltF (hok i hi) i).symm)⟩
  · exact (hW.2.2.1 k (by omega)).kept (o1 _ (by omega)) same.rf
theorem sArr {U : State} (hK : va_K G.1 vwCl (sTy G) U) {ty : FieldType} (t0 : Nat) (h : (sTy G)[t0]? = some (G.2.1 ty, ty)) : ArrOfT U (G.2.1 ty) ty ∧ va_RA U (G.2.1 ty) ty := hK.2 t0 _ h
theorem sNewa (Cx : sC G p m c cc nL s args own) {atype : ArrayType} {ty : FieldType} (hty : newarray.typeOf atype = ty) (t0 : Nat) (ht0 : (sTy G)[t0]? = some (G.2.1 ty, ty)) (hra : ∀ U : State, va_RA U (G.2.1 ty) ty → U.vm.findClass ("[" ++ ty.toString) = some (G.2.1 ty)) (harr : Cond.arrayClass ty ∈ tb) (hW : sW G n S H) {x : Int32} {N : Nat} (ht : tau n = .inr (ty, N)) (hok : sOK ty = true ∨ ty = .long) (hn : ¬ x < 0) (hN : x.toNatClampNeg = N) (hbytes : N * componentBytes ty ≤ 536870912) (hcells : cells + 1 ≤ R.cells) (hslots : slots + N ≤ R.slots) (hdg : decode cc pc = .ok (.newarray atype, 2))
    (kk : ∀ H1 : Heap, sW G (n + 1) S H1 → W p l e R s m args below meth c H1 locs (cells + 1) (slots + N) Q (F0 m (pc + 2) ls (.ref (G.2.2.1 + n) :: rest))) : W p l e R s m args below meth c H locs cells slots Q (F0 m pc ls (.int x :: rest)) := by
  obtain ⟨⟨hx, hb, hml, hown, hts⟩, hK, -⟩ := Cx
  subst hty
  refine va_newaK hx hb (hts _ harr) rfl hdg rfl hn hN hbytes hcells hslots hW.1 fun H1 cA e1 z1 o1 hAr hNm => ?_
  have hcA : cA = G.2.1 (newarray.typeOf atype) := Option.some.inj (hNm.symm.trans (hra s (sArr hK t0 ht0).2))
  refine kk H1 ⟨z1, fun q hq => (o1 q (by omega)).trans (hW.2.1 q hq), fun k hk => ?_, fun k hk => hW.2.2.2 k (by omega)⟩
  by_cases e : k = n
  · subst e
    rw [ht]
    show H1[_]? = some (arrV (G.2.1 (newarray.typeOf atype)) N (fun i => av S (newarray.typeOf atype) k i))
    rw [e1, hcA]
    unfold arrV
    congr 2
    congr 1
    funext j
    exact ((hW.2.2.2 k (Nat.le_refl k)).dfltA hok j.val).symm
  · exact (hW.2.2.1 k (by omega)).kept (o1 _ (by omega)) same.rf
end SV
section SV2
variable {p : Program} {l : Launch} {e : Env} {R : Room} {s : State} {m : MethodId} {args : Array Value} {below : List Frame} {meth : Method} {c : Code} {H : Heap} {locs : List Loc} {cells slots : Nat} {Q : State → Prop}
variable {cc : ByteArray} {pc nL : Nat} {ls : Array Slot} {rest st0 : List Value} {G : sG} {n : Nat} {S : sS} {own : String}
theorem sW.arr (hW : sW G n S H) {k N : Nat} {ty : FieldType} (hk : k < n) (ht : tau k = .inr (ty, N)) : H[G.2.2.1 + k]? = some (arrV (G.2.1 ty) N (fun i => av S ty k i)) := by
  have hat := hW.2.2.1 k hk
  rw [ht] at hat
  exact hat
theorem sA_ast {G : sG} {S S' : sS} {k j N : Nat} {ty : FieldType} {H' : Heap} {v : Value} (ht : tau k = .inr (ty, N)) (e1 : H'[G.2.2.1 + k]? = some ((arrV (G.2.1 ty) N (fun i => av S ty k i)).setSlot j v)) (ho : ∀ q, q ≠ j → av S' ty k q = av S ty k q) (hv : av S' ty k j = v) : sA G S' k (tau k) H' := by
  rw [ht]
  show H'[G.2.2.1 + k]? = some (arrV (G.2.1 ty) N (fun i => av S' ty k i))
  rw [e1, arrV_store]
  congr 2
  funext q
  unfold updV
  by_cases h : q = j
  · subst h; rw [if_pos rfl, hv]
  · rw [if_neg h]; exact (ho q h).symm
theorem vp_c {i : Int32} {N : Nat} (h : (decide (i < 0) || Nat.ble N i.toNatClampNeg) = false) : vp_in i N := fun q => by
  rw [Bool.or_eq_false_iff] at h
  rcases q with q | q
  · exact absurd q (of_decide_eq_false h.1)
  · have := Nat.ble_eq.mpr q
    rw [h.2] at this
    cases this
theorem sCi {x v : Int32} (h : x = v) (kk : W p l e R s m args below meth c H locs cells slots Q (F0 m pc ls (.int v :: rest))) : W p l e R s m args below meth c H locs cells slots Q (F0 m pc ls (.int x :: rest)) := by
  subst h
  exact kk
theorem rIald (Cx : sC G p m c cc nL s args own) (hW : sW G n S H) {k N : Nat} (hk : k < n) (ht : tau k = .inr (.int, N)) (hN : N ≤ 2147483647) {a : Int} (h0 : 0 ≤ a) (h1 : a < N) (hdg : decode cc pc = .ok (.iaload, 1))
    (kk : W p l e R s m args below meth c H locs cells slots Q (F0 m (pc + 1) ls (.int (iv (S.2.1 k a)) :: rest))) : W p l e R s m args below meth c H locs cells slots Q (F0 m pc ls (.int (iv a) :: .ref (G.2.2.1 + k) :: rest)) := by
  obtain ⟨⟨hx, hb, hml, hown, hts⟩, hK, -⟩ := Cx
  have hin := iv_in h0 h1 hN
  have hcl := iv_clamp h0 (by omega)
  have hlt : (iv a).toNatClampNeg < N := Nat.not_le.mp fun q => hin (Or.inr q)
  refine W.iald (v := .int (iv (S.2.1 k a))) hx hb (hW.arr hk ht) ((sArr hK 0 rfl).1 N _) (fun q => by cases q) (by show ¬ (iv a < 0 ∨ (arrV _ _ _).slots.size ≤ _); rw [arrV_size]; exact hin) ?_ rfl rfl hdg kk
  show (arrV _ _ _).slots[_]? = _
  rw [arrV_read _ _ hlt, hcl]
  show some (Value.int (iv (S.2.1 k (a.toNat : Int)))) = _
  rw [Int.toNat_of_nonneg h0]
theorem rBald (Cx : sC G p m c cc nL s args own) (hW : sW G n S H) {k N : Nat} (hk : k < n) (ht : tau k = .inr (.byte, N)) (hN : N ≤ 2147483647) {a : Int} (h0 : 0 ≤ a) (h1 : a < N) (hdg : decode cc pc = .ok (.baload, 1))
    (kk : W p l e R s m args below meth c H locs cells slots Q (F0 m (pc + 1) ls (.int (iv (S.2.1 k a)) :: rest))) : W p l e R s m args below meth c H locs cells slots Q (F0 m pc ls (.int (iv a) :: .ref (G.2.2.1 + k) :: rest)) := by
  obtain ⟨⟨hx, hb, hml, hown, hts⟩, hK, -⟩ := Cx
  have hin := iv_in h0 h1 hN
  have hcl := iv_clamp h0 (by omega)
  have hlt : (iv a).toNatClampNeg < N := Nat.not_le.mp fun q => hin (Or.inr q)
  refine W.bald (v := .int (iv (S.2.1 k a))) hx hb (hW.arr hk ht) ((sArr hK 2 rfl).1 N _) (fun q => by cases q) (by show ¬ (iv a < 0 ∨ (arrV _ _ _).slots.size ≤ _); rw [arrV_size]; exact hin) ?_ rfl rfl hdg kk
  show (arrV _ _ _).slots[_]? = _
  rw [arrV_read _ _ hlt, hcl]
  show some (Value.int (iv (S.2.1 k (a.toNat : Int)))) = _
  rw [Int.toNat_of_nonneg h0]
theorem rZald (Cx : sC G p m c cc nL s args own) (hW : sW G n S H) {k N : Nat} (hk : k < n) (ht : tau k = .inr (.boolean, N)) (hN : N ≤ 2147483647) {a : Int} (h0 : 0 ≤ a) (h1 : a < N) (hdg : decode cc pc = .ok (.baload, 1))
    (kk : W p l e R s m args below meth c H locs cells slots Q (F0 m (pc + 1) ls (.int (iv (S.2.1 k a)) :: rest))) : W p l e R s m args below meth c H locs cells slots Q (F0 m pc ls (.int (iv a) :: .ref (G.2.2.1 + k) :: rest)) := by
  obtain ⟨⟨hx, hb, hml, hown, hts⟩, hK, -⟩ := Cx
  have hin := iv_in h0 h1 hN
  have hcl := iv_clamp h0 (by omega)
  have hlt : (iv a).toNatClampNeg < N := Nat.not_le.mp fun q => hin (Or.inr q)
  refine W.zald (v := .int (iv (S.2.1 k a))) hx hb (hW.arr hk ht) ((sArr hK 3 rfl).1 N _) (fun q => by cases q) (by show ¬ (iv a < 0 ∨ (arrV _ _ _).slots.size ≤ _); rw [arrV_size]; exact hin) ?_ rfl rfl hdg kk
  show (arrV _ _ _).slots[_]? = _
  rw [arrV_read _ _ hlt, hcl]
  show some (Value.int (iv (S.2.1 k (a.toNat : Int)))) = _
  rw [Int.toNat_of_nonneg h0]
theorem rLald (Cx : sC G p m c cc nL s args own) (hW : sW G n S H) {k N : Nat} (hk : k < n) (ht : tau k = .inr (.long, N)) (hN : N ≤ 2147483647) {a : Int} (h0 : 0 ≤ a) (h1 : a < N) (hdg : decode cc pc = .ok (.laload, 1))
    (kk : W p l e R s m args below meth c H locs cells slots Q (F0 m (pc + 1) ls (.long (jv (S.2.2.1 k a)) :: rest))) : W p l e R s m args below meth c H locs cells slots Q (F0 m pc ls (.int (iv a) :: .ref (G.2.2.1 + k) :: rest)) := by
  obtain ⟨⟨hx, hb, hml, hown, hts⟩, hK, -⟩ := Cx
  have hin := iv_in h0 h1 hN
  have hcl := iv_clamp h0 (by omega)
  have hlt : (iv a).toNatClampNeg < N := Nat.not_le.mp fun q => hin (Or.inr q)
  refine W.lald (v := .long (jv (S.2.2.1 k a))) hx hb (hW.arr hk ht) ((sArr hK 1 rfl).1 N _) (fun q => by cases q) (by show ¬ (iv a < 0 ∨ (arrV _ _ _).slots.size ≤ _); rw [arrV_size]; exact hin) ?_ rfl rfl hdg kk
  show (arrV _ _ _).slots[_]? = _
  rw [arrV_read _ _ hlt, hcl]
  show some (Value.long (jv (S.2.2.1 k (a.toNat : Int)))) = _
  rw [Int.toNat_of_nonneg h0]
theorem rIast (Cx : sC G p m c cc nL s args own) (hW : sW G n S H) (hL : sL G locs) {k N : Nat} (hk : k < n) (ht : tau k = .inr (.int, N)) (hN : N ≤ 2147483647) {a x : Int} (h0 : 0 ≤ a) (h1 : a < N) (hdg : decode cc pc = .ok (.iastore, 1))
    (kk : ∀ (H1 : Heap) (locs1 : List Loc), sW G n (uA S k a x) H1 → sL G locs1 → W p l e R s m args below meth c H1 locs1 cells slots Q (F0 m (pc + 1) ls rest)) : W p l e R s m args below meth c H locs cells slots Q (F0 m pc ls (.int (iv x) :: .int (iv a) :: .ref (G.2.2.1 + k) :: rest)) := by
  obtain ⟨⟨hx, hb, hml, hown, hts⟩, hK, -⟩ := Cx
  have hin := iv_in h0 h1 hN
  have hcl := iv_clamp h0 (by omega)
  refine W.iast hx hb (hW.arr hk ht) ((sArr hK 0 rfl).1 N _) (fun q => by cases q) (by show ¬ (iv a < 0 ∨ (arrV _ _ _).slots.size ≤ _); rw [arrV_size]; exact hin) rfl rfl hdg fun H1 e1 z oq => ?_
  rw [hcl] at e1
  refine kk H1 _ (hW.set hk (fun _ h => uA_same h) z oq (sA_ast ht e1 (fun q hq => ?_) ?_)) (sL_put hL)
  · show Value.int (iv ((uA S k a x).2.1 k q)) = Value.int (iv (S.2.1 k q))
    rw [uA_ne (fun h => hq (by omega))]
  · show Value.int (iv ((uA S k a x).2.1 k (a.toNat : Int))) = _
    rw [Int.toNat_of_nonneg h0, uA_on]
theorem rBast (Cx : sC G p m c cc nL s args own) (hW : sW G n S H) (hL : sL G locs) {k N : Nat} (hk : k < n) (ht : tau k = .inr (.byte, N)) (hN : N ≤ 2147483647) {a x : Int} (h0 : 0 ≤ a) (h1 : a < N) (hv : narrow .byte (.int (iv x)) = .int (iv x)) (hdg : decode cc pc = .ok (.bastore, 1))
    (kk : ∀ (H1 : Heap) (locs1 : List Loc), sW G n (uA S k a x) H1 → sL G locs1 → W p l e R s m args below meth c H1 locs1 cells slots Q (F0 m (pc + 1) ls rest)) : W p l e R s m args below meth c H locs cells slots Q (F0 m pc ls (.int (iv x) :: .int (iv a) :: .ref (G.2.2.1 + k) :: rest)) := by
  obtain ⟨⟨hx, hb, hml, hown, hts⟩, hK, -⟩ := Cx
  have hin := iv_in h0 h1 hN
  have hcl := iv_clamp h0 (by omega)
  refine W.bast hx hb (hW.arr hk ht) ((sArr hK 2 rfl).1 N _) (fun q => by cases q) (by show ¬ (iv a < 0 ∨ (arrV _ _ _).slots.size ≤ _); rw [arrV_size]; exact hin) rfl rfl hdg fun H1 e1 z oq => ?_
  rw [hcl] at e1
  rw [hv] at e1
  refine kk H1 _ (hW.set hk (fun _ h => uA_same h) z oq (sA_ast ht e1 (fun q hq => ?_) ?_)) (sL_put hL)
  · show Value.int (iv ((uA S k a x).2.1 k q)) = Value.int (iv (S.2.1 k q))
    rw [uA_ne (fun h => hq (by omega))]
  · show Value.int (iv ((uA S k a x).2.1 k (a.toNat : Int))) = _
    rw [Int.toNat_of_nonneg h0, uA_on]
theorem rZast (Cx : sC G p m c cc nL s args own) (hW : sW G n S H) (hL : sL G locs) {k N : Nat} (hk : k < n) (ht : tau k = .inr (.boolean, N)) (hN : N ≤ 2147483647) {a x : Int} (h0 : 0 ≤ a) (h1 : a < N) (hv : narrow .boolean (.int (iv x)) = .int (iv x)) (hdg : decode cc pc = .ok (.bastore, 1))
    (kk : ∀ (H1 : Heap) (locs1 : List Loc), sW G n (uA S k a x) H1 → sL G locs1 → W p l e R s m args below meth c H1 locs1 cells slots Q (F0 m (pc + 1) ls rest)) : W p l e R s m args below meth c H locs cells slots Q (F0 m pc ls (.int (iv x) :: .int (iv a) :: .ref (G.2.2.1 + k) :: rest)) := by
  obtain ⟨⟨hx, hb, hml, hown, hts⟩, hK, -⟩ := Cx
  have hin := iv_in h0 h1 hN
  have hcl := iv_clamp h0 (by omega)
  refine W.zast hx hb (hW.arr hk ht) ((sArr hK 3 rfl).1 N _) (fun q => by cases q) (by show ¬ (iv a < 0 ∨ (arrV _ _ _).slots.size ≤ _); rw [arrV_size]; exact hin) rfl rfl hdg fun H1 e1 z oq => ?_
  rw [hcl] at e1
  rw [hv] at e1
  refine kk H1 _ (hW.set hk (fun _ h => uA_same h) z oq (sA_ast ht e1 (fun q hq => ?_) ?_)) (sL_put hL)
  · show Value.int (iv ((uA S k a x).2.1 k q)) = Value.int (iv (S.2.1 k q))
    rw [uA_ne (fun h => hq (by omega))]
  · show Value.int (iv ((uA S k a x).2.1 k (a.toNat : Int))) = _
    rw [Int.toNat_of_nonneg h0, uA_on]
theorem rLast (Cx : sC G p m c cc nL s args own) (hW : sW G n S H) (hL : sL G locs) {k N : Nat} (hk : k < n) (ht : tau k = .inr (.long, N)) (hN : N ≤ 2147483647) {a x : Int} (h0 : 0 ≤ a) (h1 : a < N) (hdg : decode cc pc = .ok (.lastore, 1))
    (kk : ∀ (H1 : Heap) (locs1 : List Loc), sW G n (uL S k a x) H1 → sL G locs1 → W p l e R s m args below meth c H1 locs1 cells slots Q (F0 m (pc + 1) ls rest)) : W p l e R s m args below meth c H locs cells slots Q (F0 m pc ls (.long (jv x) :: .int (iv a) :: .ref (G.2.2.1 + k) :: rest)) := by
  obtain ⟨⟨hx, hb, hml, hown, hts⟩, hK, -⟩ := Cx
  have hin := iv_in h0 h1 hN
  have hcl := iv_clamp h0 (by omega)
  refine W.last hx hb (hW.arr hk ht) ((sArr hK 1 rfl).1 N _) (fun q => by cases q) (by show ¬ (iv a < 0 ∨ (arrV _ _ _).slots.size ≤ _); rw [arrV_size]; exact hin) rfl rfl hdg fun H1 e1 z oq => ?_
  rw [hcl] at e1
  refine kk H1 _ (hW.set hk (fun _ h => uL_same h) z oq (sA_ast ht e1 (fun q hq => ?_) ?_)) (sL_put hL)
  · show Value.long (jv ((uL S k a x).2.2.1 k q)) = Value.long (jv (S.2.2.1 k q))
    rw [uL_ne (fun h => hq (by omega))]
  · show Value.long (jv ((uL S k a x).2.2.1 k (a.toNat : Int))) = _
    rw [Int.toNat_of_nonneg h0, uL_on]
theorem sAlen (Cx : sC G p m c cc nL s args own) (hW : sW G n S H) {k N : Nat} (hk : k < n) {ty : FieldType} (ht : tau k = .inr (ty, N)) (t0 : Nat) (ht0 : (sTy G)[t0]? = some (G.2.1 ty, ty)) (hdg : decode cc pc = .ok (.arraylength, 1))
    (kk : W p l e R s m args below meth c H locs cells slots Q (F0 m (pc + 1) ls (.int (iv N) :: rest))) : W p l e R s m args below meth c H locs cells slots Q (F0 m pc ls (.ref (G.2.2.1 + k) :: rest)) := by
  obtain ⟨⟨hx, hb, hml, hown, hts⟩, hK, -⟩ := Cx
  exact W.alen (n := iv N) hx hb (hW.arr hk ht) ((sArr hK t0 ht0).1 N _) (by rw [arrV_size]; exact (Int32.ofInt_eq_ofNat).symm) rfl rfl hdg kk
theorem sSlen (Cx : sC G p m c cc nL s args own) {b L : Nat} {xs : Nat → Int32} (hX : va_X b L xs s G.2.2.2) (hbl : b < G.2.2.1) (hW : sW G n S H) (hdg : decode cc pc = .ok (.arraylength, 1))
    (kk : W p l e R s m args below meth c H locs cells slots Q (F0 m (pc + 1) ls (.int (iv L) :: rest))) : W p l e R s m args below meth c H locs cells slots Q (F0 m pc ls (.ref b :: rest)) := by
  obtain ⟨⟨hx, hb, hml, hown, hts⟩, hK, -⟩ := Cx
  obtain ⟨scr, h1, h2, h3, h4, h5⟩ := hX
  exact W.alen (n := iv L) hx hb (by rw [hW.2.1 b hbl]; exact h1) h2 (by rw [h4]; exact (Int32.ofInt_eq_ofNat).symm) rfl rfl hdg kk
theorem sSld (Cx : sC G p m c cc nL s args own) {b L : Nat} {xs : Nat → Int32} (hX : va_X b L xs s G.2.2.2) (hbl : b < G.2.2.1) (hW : sW G n S H) {i : Int32} {j : Nat} (hj : i.toNatClampNeg = j) (hin : vp_in i L) (hdg : decode cc pc = .ok (.iaload, 1))
    (kk : W p l e R s m args below meth c H locs cells slots Q (F0 m (pc + 1) ls (.int (xs j) :: rest))) : W p l e R s m args below meth c H locs cells slots Q (F0 m pc ls (.int i :: .ref b :: rest)) := by
  obtain ⟨⟨hx, hb, hml, hown, hts⟩, hK, -⟩ := Cx
  obtain ⟨scr, h1, h2, h3, h4, h5⟩ := hX
  subst hj
  have hlt : i.toNatClampNeg < L := Nat.not_le.mp fun q => hin (Or.inr q)
  exact W.iald (v := .int (xs i.toNatClampNeg)) hx hb (by rw [hW.2.1 b hbl]; exact h1) h2 h3 (by rw [h4]; exact hin) (h5 _ hlt) rfl rfl hdg kk
theorem sIret {Qc : Int → sS → Prop} (Cx : sC G p m c cc nL s args own) (hr : meth.sig.returnType = some .int) (hlk : meth.locks = false) (hW : sW G n S H) (hL : sL G locs) {v : Int} (hp : Qc v S) (hdg : decode cc pc = .ok (.ireturn, 1)) : W p l e R s m args below meth c H locs cells slots (MQ below (sQi G n Qc) args s cells slots (sF G)) (F0 m pc ls [.int (iv v)]) :=
  W.iret Cx.1.1 Cx.1.2.1 hr (fun t ht _ => ⟨v, S, rfl, hp, by rw [ht]; exact hW⟩) hL hdg hlk
theorem sZret {Qc : Int → sS → Prop} (Cx : sC G p m c cc nL s args own) (hr : meth.sig.returnType = some .boolean) (hlk : meth.locks = false) (hW : sW G n S H) (hL : sL G locs) {v : Int} (hn : v = 0 ∨ v = 1) (hp : Qc v S) (hdg : decode cc pc = .ok (.ireturn, 1)) : W p l e R s m args below meth c H locs cells slots (MQ below (sQi G n Qc) args s cells slots (sF G)) (F0 m pc ls [.int (iv v)]) :=
  W.zret Cx.1.1 Cx.1.2.1 hr (by rcases hn with rfl | rfl <;> rfl) (fun t ht _ => ⟨v, S, rfl, hp, by rw [ht]; exact hW⟩) hL hdg hlk
theorem sLret {Qc : Int → sS → Prop} (Cx : sC G p m c cc nL s args own) (hr : meth.sig.returnType = some .long) (hlk : meth.locks = false) (hW : sW G n S H) (hL : sL G locs) {v : Int} (hp : Qc v S) (hdg : decode cc pc = .ok (.lreturn, 1)) : W p l e R s m args below meth c H locs cells slots (MQ below (sQl G n Qc) args s cells slots (sF G)) (F0 m pc ls [.long (jv v)]) :=
  W.lret Cx.1.1 Cx.1.2.1 hr (fun t ht _ => ⟨v, S, rfl, hp, by rw [ht]; exact hW⟩) hL hdg hlk
theorem sVret {Qc : sS → Prop} (Cx : sC G p m c cc nL s args own) (hr : meth.sig.returnType = none) (hlk : meth.locks = false) (hW : sW G n S H) (hL : sL G locs) (hp : Qc S) (hdg : decode cc pc = .ok (.return_, 1)) : W p l e R s m args below meth c H locs cells slots (MQ below (sQv G n Qc) args s cells slots (sF G)) (F0 m pc ls []) :=
  W.vret Cx.1.1 Cx.1.2.1 hr (fun t ht _ => ⟨S, rfl, hp, by rw [ht]; exact hW⟩) hL hdg hlk
/-- a call that has run: what comes back -/
theorem sBi {mc ms n' : Nat} {a : Array Value} {post : Int → sS → Prop} (hr : va_Run p l e R s m args below meth c H locs cells slots mc ms (F0 m pc ls st0) rest (sQi G n' post a) (sF G)) (hL : sL G locs)
    (kk : ∀ (r : Int) (u : sS) (H1 : Heap) (locs1 : List Loc), post r u → sW G n' u H1 → sL G locs1 → W p l e R s m args below meth c H1 locs1 (cells + mc) (slots + ms) Q (F0 m (pc + 3) ls (.int (iv r) :: rest))) : W p l e R s m args below meth c H locs cells slots Q (F0 m pc ls st0) := by
  intro T hT X
  obtain ⟨v, st₀, t, T', L, h0, X', hLf, e1, e2, ⟨r, u, hv, hp, hw⟩, st⟩ := hr T hT X
  cases hv
  obtain ⟨t2, a1, b1⟩ := kk r u T'.heap (locs ++ L) hp (by rw [e1]; exact hw) (sL_app hL hLf) T' rfl X'
  exact ⟨t2, st t2 a1, b1⟩
theorem sBl {mc ms n' : Nat} {a : Array Value} {post : Int → sS → Prop} (hr : va_Run p l e R s m args below meth c H locs cells slots mc ms (F0 m pc ls st0) rest (sQl G n' post a) (sF G)) (hL : sL G locs)
    (kk : ∀ (r : Int) (u : sS) (H1 : Heap) (locs1 : List Loc), post r u → sW G n' u H1 → sL G locs1 → W p l e R s m args below meth c H1 locs1 (cells + mc) (slots + ms) Q (F0 m (pc + 3) ls (.long (jv r) :: rest))) : W p l e R s m args below meth c H locs cells slots Q (F0 m pc ls st0) := by
  intro T hT X
  obtain ⟨v, st₀, t, T', L, h0, X', hLf, e1, e2, ⟨r, u, hv, hp, hw⟩, st⟩ := hr T hT X
  cases hv
  obtain ⟨t2, a1, b1⟩ := kk r u T'.heap (locs ++ L) hp (by rw [e1]; exact hw) (sL_app hL hLf) T' rfl X'
  exact ⟨t2, st t2 a1, b1⟩
theorem sBv {mc ms n' : Nat} {a : Array Value} {post : sS → Prop} (hr : va_Run p l e R s m args below meth c H locs cells slots mc ms (F0 m pc ls st0) rest (sQv G n' post a) (sF G)) (hL : sL G locs)
    (kk : ∀ (u : sS) (H1 : Heap) (locs1 : List Loc), post u → sW G n' u H1 → sL G locs1 → W p l e R s m args below meth c H1 locs1 (cells + mc) (slots + ms) Q (F0 m (pc + 3) ls rest)) : W p l e R s m args below meth c H locs cells slots Q (F0 m pc ls st0) := by
  intro T hT X
  obtain ⟨v, st₀, t, T', L, h0, X', hLf, e1, e2, ⟨u, hv, hp, hw⟩, st⟩ := hr T hT X
  cases hv
  obtain ⟨t2, a1, b1⟩ := kk u T'.heap (locs ++ L) hp (by rw [e1]; exact hw) (sL_app hL hLf) T' rfl X'
  exact ⟨t2, st t2 a1, b1⟩
theorem sBr {mc ms n' : Nat} {a : Array Value} {post : Nat → sS → Prop} (hr : va_Run p l e R s m args below meth c H locs cells slots mc ms (F0 m pc ls st0) rest (sQr G n' post a) (sF G)) (hL : sL G locs)
    (kk : ∀ (r : Nat) (u : sS) (H1 : Heap) (locs1 : List Loc), post r u → sW G n' u H1 → sL G locs1 → W p l e R s m args below meth c H1 locs1 (cells + mc) (slots + ms) Q (F0 m (pc + 3) ls (.ref (G.2.2.1 + r) :: rest))) : W p l e R s m args below meth c H locs cells slots Q (F0 m pc ls st0) := by
  intro T hT X
  obtain ⟨v, st₀, t, T', L, h0, X', hLf, e1, e2, ⟨r, u, hv, hp, hw⟩, st⟩ := hr T hT X
  cases hv
  obtain ⟨t2, a1, b1⟩ := kk r u T'.heap (locs ++ L) hp (by rw [e1]; exact hw) (sL_app hL hLf) T' rfl X'
  exact ⟨t2, st t2 a1, b1⟩
variable {y : MethodName} {bytes : ByteArray} {maxL mc ms na index : Nat} {ret : Option FieldType} {rm : Room} {Qc : Array Value → State → Outcome → State → Prop} {C host : String} {As : List Value} {k : Nat}
theorem sPre (Cx : sC G p m c cc nL s args own) (hW : sW G n S H) {av : List Value} : PreS s H (sPc G n S av) av := ⟨sPc_blind, fun U hU hw => ⟨rfl, by rw [hU]; exact hW, Cx.2.warm hw⟩⟩
theorem sRecv (Cx : sC G p m c cc nL s args own) (hW : sW G n S H) {k ci N : Nat} {T : u_T} (hk : k < n) (ht : tau k = .inl ci) (hc : vwCl[ci]? = some (C, T, N)) : ∃ cellB : Cell, H[G.2.2.1 + k]? = some cellB ∧ cellB.vm.isStatics = false ∧ s.vm.findClass C = some cellB.cls := by
  have hat := hW.2.2.1 k hk
  rw [ht] at hat
  obtain ⟨r, h1, cell, q1, q2, q3, q4⟩ := hat
  exact ⟨cell, q1, by rw [q3]; rfl, by rw [q2]; exact (Cx.2.1.1 ci _ hc).2.1⟩
/-- invokevirtual -/
theorem sV (Cx : sC G p m c cc nL s args own) (hM : Met l y (.code y bytes maxL ret :: tb) rm (sPc G n S (.ref (G.2.2.1 + k) :: As)) Qc mc ms (sF G)) (cw : CallW R s args own C index y bytes maxL ret (.code y bytes maxL ret :: tb) rm mc ms na) (hW : sW G n S H) {ci N : Nat} {T : u_T} (hk : k < n) (ht : tau k = .inl ci) (hc : vwCl[ci]? = some (C, T, N))
    (hn : As.length = na) (hsz : ls.size = nL) (hst : st0 = As.reverse ++ .ref (G.2.2.1 + k) :: rest) (hro : (rest.map fun v => v.category).sum ≤ 8) (hdg : decode cc pc = .ok (.invokevirtual index, 3)) (hf : cells + mc ≤ R.cells ∧ slots + ms ≤ R.slots) :
    va_Run p l e R s m args below meth c H locs cells slots mc ms (F0 m pc ls st0) rest (Qc (Value.ref (G.2.2.1 + k) :: As).toArray) (sF G) :=
  va_runV Cx.1 hM cw ⟨sPc_blind, sRecv Cx hW hk ht hc, (sPre Cx hW).2⟩ rfl hn hsz hst (lv_room hro) hdg hf
/-- invokestatic -/
theorem sSt (Cx : sC G p m c cc nL s args own) (hM : Met l y (.code y bytes maxL ret :: tb) rm (sPc G n S As) Qc mc ms (sF G)) (cw : CallB R s args own index y bytes maxL ret (.code y bytes maxL ret :: tb) rm mc ms na ∧ (Cond.static y).before args s = true) (hW : sW G n S H)
    (hn : As.length = na) (hsz : ls.size = nL) (hst : st0 = As.reverse ++ rest) (hro : (rest.map fun v => v.category).sum ≤ 8) (hdg : decode cc pc = .ok (.invokestatic index, 3)) (hf : cells + mc ≤ R.cells ∧ slots + ms ≤ R.slots) :
    va_Run p l e R s m args below meth c H locs cells slots mc ms (F0 m pc ls st0) rest (Qc As.toArray) (sF G) :=
  va_runS Cx.1 hM cw (sPre Cx hW) rfl hn hsz hst (lv_room hro) hdg hf
/-- invokespecial of a constructor -/
theorem sIn (Cx : sC G p m c cc nL s args own) (hM : Met l y (.code y bytes maxL none :: tb) rm (sPc G n S (.ref (G.2.2.1 + k) :: As)) Qc mc ms (sF G)) (cw : CallB R s args own index y bytes maxL none (.code y bytes maxL none :: tb) rm mc ms na ∧ y.name = "<init>" ∧ (Cond.instanceMethod y).before args s = true) (hW : sW G n S H)
    (hn : As.length = na) (hsz : ls.size = nL) (hst : st0 = As.reverse ++ .ref (G.2.2.1 + k) :: rest) (hro : (rest.map fun v => v.category).sum ≤ 8) (hdg : decode cc pc = .ok (.invokespecial index, 3)) (hf : cells + mc ≤ R.cells ∧ slots + ms ≤ R.slots) :
    va_Run p l e R s m args below meth c H locs cells slots mc ms (F0 m pc ls st0) rest (Qc (Value.ref (G.2.2.1 + k) :: As).toArray) (sF G) :=
  va_runI Cx.1 hM cw (sPre Cx hW) rfl hn hsz hst (lv_room hro) hdg hf
theorem sInN (Cx : sC G p m c cc nL s args own) (hM : Met l y (.code y bytes maxL none :: tb) rm (sPc G n S (.ref (G.2.2.1 + k) :: As)) Qc mc ms (sF G)) (cw : va_CN R s args own index y host bytes maxL none (.code y bytes maxL none :: tb) rm mc ms na ∧ y.name = "<init>" ∧ (Cond.instanceMethod y).before args s = true) (hW : sW G n S H)
    (hn : As.length = na) (hsz : ls.size = nL) (hst : st0 = As.reverse ++ .ref (G.2.2.1 + k) :: rest) (hro : (rest.map fun v => v.category).sum ≤ 8) (hdg : decode cc pc = .ok (.invokespecial index, 3)) (hf : cells + mc ≤ R.cells ∧ slots + ms ≤ R.slots) :
    va_Run p l e R s m args below meth c H locs cells slots mc ms (F0 m pc ls st0) rest (Qc (Value.ref (G.2.2.1 + k) :: As).toArray) (sF G) :=
  va_runIN Cx.1 hM cw (sPre Cx hW) rfl hn hsz hst (lv_room hro) hdg hf
/-- the words of a call -/
theorem tb_code {ws : List Cond} (h : Cond.code y bytes maxL ret ∈ tb) (e : ws = .code y bytes maxL ret :: tb) : GoodIn tb ws := by
  intro w hw
  rw [e] at hw
  rcases List.mem_cons.mp hw with rfl | h1
  · exact tb_good _ h
  · exact tb_good _ h1
theorem sCw (Cx : sC G p m c cc nL s args own) (na : Nat) (h1 : Cond.methodLink own index y ∈ tb) (h2 : Cond.instanceMethod y ∈ tb) (h3 : Cond.selects C y y ∈ tb) (h4 : Cond.initialized C ∈ tb) (h5 : Cond.code y bytes maxL ret ∈ tb) (hd : y.cls = C ∧ y.cls ≠ "java/lang/invoke/MethodHandle" ∧ y.cls ≠ "java/lang/invoke/VarHandle" ∧ (parseMethodDescriptor y.desc).map (fun d => d.parameters.length) = some na)
    (hrc : rm.cells = mc) (hrs : rm.slots = ms) (hR : rm.frames + 1 ≤ R.frames ∧ 8 + (maxL + 11) + rm.locals ≤ R.locals) : CallW R s args own C index y bytes maxL ret (.code y bytes maxL ret :: tb) rm mc ms na := by
  refine cwV na Cx.1.2.2.2.2 (fun w hw => ?_) rfl hrc hrs hd hR
  unfold wsV at hw
  rcases List.mem_append.mp hw with h | h
  · simp only [List.mem_cons, List.not_mem_nil, or_false] at h
    rcases h with rfl | rfl | rfl | rfl
    · exact tb_good _ h1
    · exact tb_good _ h2
    · exact tb_good _ h3
    · exact tb_good _ h4
  · exact tb_code h5 rfl w h
theorem sCS (Cx : sC G p m c cc nL s args own) (na : Nat) (h1 : Cond.methodLink own index y ∈ tb) (h2 : Cond.static y ∈ tb) (h4 : Cond.initialized y.cls ∈ tb) (h5 : Cond.code y bytes maxL ret ∈ tb) (hd : y.cls ≠ "java/lang/invoke/MethodHandle" ∧ y.cls ≠ "java/lang/invoke/VarHandle" ∧ (parseMethodDescriptor y.desc).map (fun d => d.parameters.length) = some na)
    (hrc : rm.cells = mc) (hrs : rm.slots = ms) (hR : rm.frames + 1 ≤ R.frames ∧ 8 + (maxL + 11) + rm.locals ≤ R.locals) : CallB R s args own index y bytes maxL ret (.code y bytes maxL ret :: tb) rm mc ms na ∧ (Cond.static y).before args s = true :=
  ⟨callB_of na Cx.1.2.2.2.2 (tb_code h5 rfl) rfl hrc hrs (Cx.1.2.2.2.2 _ h4) (Cx.1.2.2.2.2 _ h1) hd hR, Cx.1.2.2.2.2 _ h2⟩
theorem sCI (Cx : sC G p m c cc nL s args own) (na : Nat) (h1 : Cond.methodLink own index y ∈ tb) (h2 : Cond.instanceMethod y ∈ tb) (h4 : Cond.initialized y.cls ∈ tb) (h5 : Cond.code y bytes maxL none ∈ tb) (hy : y.name = "<init>") (hd : y.cls ≠ "java/lang/invoke/MethodHandle" ∧ y.cls ≠ "java/lang/invoke/VarHandle" ∧ (parseMethodDescriptor y.desc).map (fun d => d.parameters.length) = some na)
    (hrc : rm.cells = mc) (hrs : rm.slots = ms) (hR : rm.frames + 1 ≤ R.frames ∧ 8 + (maxL + 11) + rm.locals ≤ R.locals) : CallB R s args own index y bytes maxL none (.code y bytes maxL none :: tb) rm mc ms na ∧ y.name = "<init>" ∧ (Cond.instanceMethod y).before args s = true :=
  cwI na Cx.1.2.2.2.2 (tb_code h5 rfl) rfl hrc hrs (Cx.1.2.2.2.2 _ h4) (Cx.1.2.2.2.2 _ h1) (Cx.1.2.2.2.2 _ h2) hy hd hR
theorem sCN (Cx : sC G p m c cc nL s args own) (na : Nat) (h1 : Cond.methodLinkNest own index y host ∈ nst) (h4 : Cond.initialized y.cls ∈ tb) (h5 : Cond.code y bytes maxL ret ∈ tb) (hd : y.cls ≠ "java/lang/invoke/MethodHandle" ∧ y.cls ≠ "java/lang/invoke/VarHandle" ∧ (parseMethodDescriptor y.desc).map (fun d => d.parameters.length) = some na)
    (hrc : rm.cells = mc) (hrs : rm.slots = ms) (hR : rm.frames + 1 ≤ R.frames ∧ 8 + (maxL + 11) + rm.locals ≤ R.locals) : va_CN R s args own index y host bytes maxL ret (.code y bytes maxL ret :: tb) rm mc ms na :=
  va_cnB na Cx.1.2.2.2.2 (tb_code h5 rfl) rfl hrc hrs (Cx.2.2.1 _ h1) (Cx.1.2.2.2.2 _ h4) hd hR
end SV2
section AR
variable {p : Program} {l : Launch} {e : Env} {R : Room} {s : State} {m : MethodId} {args : Array Value} {below : List Frame} {meth : Method} {c : Code} {H : Heap} {locs : List Loc} {cells slots : Nat} {Q : State → Prop}
variable {cc : ByteArray} {pc nL : Nat} {ls : Array Slot} {rest : List Value}
theorem r_iadd (hx : p.tables.exec = Jvm.exec) (hb : c.code = cc) {a b : Int} (hdg : decode cc pc = .ok (.iadd, 1)) (kk : W p l e R s m args below meth c H locs cells slots Q (F0 m (pc + 1) ls (.int (iv (a + b)) :: rest))) : W p l e R s m args below meth c H locs cells slots Q (F0 m pc ls (.int (iv b) :: .int (iv a) :: rest)) :=
  lv_iadd hx hb hdg (by rw [← Int32.ofInt_add]; exact kk)
theorem r_isub (hx : p.tables.exec = Jvm.exec) (hb : c.code = cc) {a b : Int} (hdg : decode cc pc = .ok (.isub, 1)) (kk : W p l e R s m args below meth c H locs cells slots Q (F0 m (pc + 1) ls (.int (iv (a - b)) :: rest))) : W p l e R s m args below meth c H locs cells slots Q (F0 m pc ls (.int (iv b) :: .int (iv a) :: rest)) :=
  lv_isub hx hb hdg (by rw [← Int32.ofInt_sub]; exact kk)
theorem r_imul (hx : p.tables.exec = Jvm.exec) (hb : c.code = cc) {a b : Int} (hdg : decode cc pc = .ok (.imul, 1)) (kk : W p l e R s m args below meth c H locs cells slots Q (F0 m (pc + 1) ls (.int (iv (a * b)) :: rest))) : W p l e R s m args below meth c H locs cells slots Q (F0 m pc ls (.int (iv b) :: .int (iv a) :: rest)) :=
  lv_imul hx hb hdg (by rw [← Int32.ofInt_mul]; exact kk)
theorem r_ladd (hx : p.tables.exec = Jvm.exec) (hb : c.code = cc) {a b : Int} (hdg : decode cc pc = .ok (.ladd, 1)) (kk : W p l e R s m args below meth c H locs cells slots Q (F0 m (pc + 1) ls (.long (jv (a + b)) :: rest))) : W p l e R s m args below meth c H locs cells slots Q (F0 m pc ls (.long (jv b) :: .long (jv a) :: rest)) :=
  lv_ladd hx hb hdg (by rw [← Int64.ofInt_add]; exact kk)
theorem r_lsub (hx : p.tables.exec = Jvm.exec) (hb : c.code = cc) {a b : Int} (hdg : decode cc pc = .ok (.lsub, 1)) (kk : W p l e R s m args below meth c H locs cells slots Q (F0 m (pc + 1) ls (.long (jv (a - b)) :: rest))) : W p l e R s m args below meth c H locs cells slots Q (F0 m pc ls (.long (jv b) :: .long (jv a) :: rest)) :=
  lv_lsub hx hb hdg (by rw [← Int64.ofInt_sub]; exact kk)
theorem r_lmul (hx : p.tables.exec = Jvm.exec) (hb : c.code = cc) {a b : Int} (hdg : decode cc pc = .ok (.lmul, 1)) (kk : W p l e R s m args below meth c H locs cells slots Q (F0 m (pc + 1) ls (.long (jv (a * b)) :: rest))) : W p l e R s m args below meth c H locs cells slots Q (F0 m pc ls (.long (jv b) :: .long (jv a) :: rest)) :=
  lv_lmul hx hb hdg (by rw [← Int64.ofInt_mul]; exact kk)
theorem r_ineg (hx : p.tables.exec = Jvm.exec) (hb : c.code = cc) {a : Int} (hdg : decode cc pc = .ok (.ineg, 1)) (kk : W p l e R s m args below meth c H locs cells slots Q (F0 m (pc + 1) ls (.int (iv (-a)) :: rest))) : W p l e R s m args below meth c H locs cells slots Q (F0 m pc ls (.int (iv a) :: rest)) :=
  lv_ineg hx hb hdg (by rw [← Int32.ofInt_neg]; exact kk)
theorem r_lneg (hx : p.tables.exec = Jvm.exec) (hb : c.code = cc) {a : Int} (hdg : decode cc pc = .ok (.lneg, 1)) (kk : W p l e R s m args below meth c H locs cells slots Q (F0 m (pc + 1) ls (.long (jv (-a)) :: rest))) : W p l e R s m args below meth c H locs cells slots Q (F0 m pc ls (.long (jv a) :: rest)) :=
  lv_lneg hx hb hdg (by rw [← Int64.ofInt_neg]; exact kk)
theorem r_i2l (hx : p.tables.exec = Jvm.exec) (hb : c.code = cc) {a : Int} (h : -2147483648 ≤ a ∧ a ≤ 2147483647) (hdg : decode cc pc = .ok (.i2l, 1)) (kk : W p l e R s m args below meth c H locs cells slots Q (F0 m (pc + 1) ls (.long (jv a) :: rest))) : W p l e R s m args below meth c H locs cells slots Q (F0 m pc ls (.int (iv a) :: rest)) :=
  lv_i2l hx hb hdg (Int32.toInt64_ofInt h.1 h.2) kk
theorem r_l2i (hx : p.tables.exec = Jvm.exec) (hb : c.code = cc) {a : Int} (hdg : decode cc pc = .ok (.l2i, 1)) (kk : W p l e R s m args below meth c H locs cells slots Q (F0 m (pc + 1) ls (.int (iv a) :: rest))) : W p l e R s m args below meth c H locs cells slots Q (F0 m pc ls (.long (jv a) :: rest)) :=
  lv_l2i hx hb hdg Int64.toInt32_ofInt kk
theorem r_idiv (hx : p.tables.exec = Jvm.exec) (hb : c.code = cc) {a b : Int} (ha : -2147483648 ≤ a ∧ a ≤ 2147483647) (hb0 : -2147483648 ≤ b ∧ b ≤ 2147483647) (h0 : b ≠ 0) (hdg : decode cc pc = .ok (.idiv, 1)) (kk : W p l e R s m args below meth c H locs cells slots Q (F0 m (pc + 1) ls (.int (iv (a.tdiv b)) :: rest))) : W p l e R s m args below meth c H locs cells slots Q (F0 m pc ls (.int (iv b) :: .int (iv a) :: rest)) :=
  lv_idiv hx hb hdg (fun h => h0 ((iv_eq0 hb0).mp h)) (by rw [← Int32.ofInt_tdiv ha.1 ha.2 hb0.1 hb0.2]; exact kk)
theorem r_irem (hx : p.tables.exec = Jvm.exec) (hb : c.code = cc) {a b : Int} (ha : -2147483648 ≤ a ∧ a ≤ 2147483647) (hb0 : -2147483648 ≤ b ∧ b ≤ 2147483647) (h0 : b ≠ 0) (hdg : decode cc pc = .ok (.irem, 1)) (kk : W p l e R s m args below meth c H locs cells slots Q (F0 m (pc + 1) ls (.int (iv (a.tmod b)) :: rest))) : W p l e R s m args below meth c H locs cells slots Q (F0 m pc ls (.int (iv b) :: .int (iv a) :: rest)) :=
  lv_irem hx hb hdg (fun h => h0 ((iv_eq0 hb0).mp h)) (by rw [← Int32.ofInt_tdiv ha.1 ha.2 hb0.1 hb0.2, ← Int32.ofInt_mul, ← Int32.ofInt_sub, show a - a.tdiv b * b = a.tmod b by rw [Int.tmod_def, Int.mul_comm]]; exact kk)
theorem jv_eq0 {a : Int} (ha : -9223372036854775808 ≤ a ∧ a ≤ 9223372036854775807) : jv a = 0 ↔ a = 0 := by
  have e : (0 : Int64) = jv 0 := rfl
  rw [e, ← Int64.toInt_inj, jv_toInt ha, jv_toInt (by decide)]
theorem r_ldiv (hx : p.tables.exec = Jvm.exec) (hb : c.code = cc) {a b : Int} (ha : -9223372036854775808 ≤ a ∧ a ≤ 9223372036854775807) (hb0 : -9223372036854775808 ≤ b ∧ b ≤ 9223372036854775807) (h0 : b ≠ 0) (hdg : decode cc pc = .ok (.ldiv, 1)) (kk : W p l e R s m args below meth c H locs cells slots Q (F0 m (pc + 1) ls (.long (jv (a.tdiv b)) :: rest))) : W p l e R s m args below meth c H locs cells slots Q (F0 m pc ls (.long (jv b) :: .long (jv a) :: rest)) :=
  lv_ldiv hx hb hdg (fun h => h0 ((jv_eq0 hb0).mp h)) (by rw [← Int64.ofInt_tdiv ha.1 ha.2 hb0.1 hb0.2]; exact kk)
theorem r_lrem (hx : p.tables.exec = Jvm.exec) (hb : c.code = cc) {a b : Int} (ha : -9223372036854775808 ≤ a ∧ a ≤ 9223372036854775807) (hb0 : -9223372036854775808 ≤ b ∧ b ≤ 9223372036854775807) (h0 : b ≠ 0) (hdg : decode cc pc = .ok (.lrem, 1)) (kk : W p l e R s m args below meth c H locs cells slots Q (F0 m (pc + 1) ls (.long (jv (a.tmod b)) :: rest))) : W p l e R s m args below meth c H locs cells slots Q (F0 m pc ls (.long (jv b) :: .long (jv a) :: rest)) :=
  lv_lrem hx hb hdg (fun h => h0 ((jv_eq0 hb0).mp h)) (by rw [← Int64.ofInt_tdiv ha.1 ha.2 hb0.1 hb0.2, ← Int64.ofInt_mul, ← Int64.ofInt_sub, show a - a.tdiv b * b = a.tmod b by rw [Int.tmod_def, Int.mul_comm]]; exact kk)
theorem r_i2b (hx : p.tables.exec = Jvm.exec) (hb : c.code = cc) {a : Int} (hdg : decode cc pc = .ok (.i2b, 1)) (kk : ∀ z : Int, -128 ≤ z → z ≤ 127 → W p l e R s m args below meth c H locs cells slots Q (F0 m (pc + 1) ls (.int (iv z) :: rest))) : W p l e R s m args below meth c H locs cells slots Q (F0 m pc ls (.int (iv a) :: rest)) := by
  refine lv_i2b hx hb hdg (v := iv (iv a).toInt8.toInt) ?_ (kk _ (by have := (iv a).toInt8.le_toInt; omega) (by have := (iv a).toInt8.toInt_lt; omega))
  exact Int32.toInt_inj.mp (by rw [Int8.toInt_toInt32, iv_toInt (by have := (iv a).toInt8.le_toInt; have := (iv a).toInt8.toInt_lt; omega)])
theorem r_lcmp (hx : p.tables.exec = Jvm.exec) (hb : c.code = cc) {a b : Int} (ha : -9223372036854775808 ≤ a ∧ a ≤ 9223372036854775807) (hb0 : -9223372036854775808 ≤ b ∧ b ≤ 9223372036854775807) (hdg : decode cc pc = .ok (.lcmp, 1)) (kk : ∀ z : Int, (a < b → z = -1) → (a = b → z = 0) → (b < a → z = 1) → W p l e R s m args below meth c H locs cells slots Q (F0 m (pc + 1) ls (.int (iv z) :: rest))) : W p l e R s m args below meth c H locs cells slots Q (F0 m pc ls (.long (jv b) :: .long (jv a) :: rest)) := by
  have ea := jv_toInt ha
  have eb := jv_toInt hb0
  refine W.lcmp hx hb hdg ?_
  rcases Int.lt_trichotomy a b with h | h | h
  · have h1 : ¬ jv b < jv a := by rw [Int64.lt_iff_toInt_lt, ea, eb]; omega
    have h2 : ¬ jv a = jv b := by rw [← Int64.toInt_inj, ea, eb]; omega
    have e1 : lg_cmp (jv a) (jv b) = iv (-1) := by simp [lg_cmp, h1, h2] <;> rfl
    rw [e1]
    exact kk (-1) (fun _ => rfl) (by omega) (by omega)
  · subst h
    have e1 : lg_cmp (jv a) (jv a) = iv 0 := by simp [lg_cmp] <;> rfl
    rw [e1]
    exact kk 0 (by omega) (fun _ => rfl) (by omega)
  · have h1 : jv b < jv a := by rw [Int64.lt_iff_toInt_lt, ea, eb]; omega
    have e1 : lg_cmp (jv a) (jv b) = iv 1 := by simp [lg_cmp, h1] <;> rfl
    rw [e1]
    exact kk 1 (by omega) (by omega) (fun _ => rfl)
theorem r_if_eq (hx : p.tables.exec = Jvm.exec) (hb : c.code = cc) {a : Int} {off : Int} {tgt : Nat} (ha : -2147483648 ≤ a ∧ a ≤ 2147483647) (hdg : decode cc pc = .ok (.ifCond .eq off, 3)) (ht : (pc : Int) + off = (tgt : Int)) (kt : a = 0 → W p l e R s m args below meth c H locs cells slots Q (F0 m tgt ls rest)) (kf : ¬ a = 0 → W p l e R s m args below meth c H locs cells slots Q (F0 m (pc + 3) ls rest)) : W p l e R s m args below meth c H locs cells slots Q (F0 m pc ls (.int (iv a) :: rest)) :=
  lv_if_eq hx hb hdg ht (fun q => kt ((iv_eq0 ha).mp q)) (fun q => kf (fun h => q ((iv_eq0 ha).mpr h)))
theorem r_icmp_eq (hx : p.tables.exec = Jvm.exec) (hb : c.code = cc) {a b : Int} {off : Int} {tgt : Nat} (ha : -2147483648 ≤ a ∧ a ≤ 2147483647) (hb0 : -2147483648 ≤ b ∧ b ≤ 2147483647) (hdg : decode cc pc = .ok (.if_icmp .eq off, 3)) (ht : (pc : Int) + off = (tgt : Int)) (kt : a = b → W p l e R s m args below meth c H locs cells slots Q (F0 m tgt ls rest)) (kf : ¬ a = b → W p l e R s m args below meth c H locs cells slots Q (F0 m (pc + 3) ls rest)) : W p l e R s m args below meth c H locs cells slots Q (F0 m pc ls (.int (iv b) :: .int (iv a) :: rest)) :=
  lv_icmp_eq hx hb hdg ht (fun q => kt ((iv_eq ha hb0).mp q)) (fun q => kf (fun h => q ((iv_eq ha hb0).mpr h)))
theorem r_if_ne (hx : p.tables.exec = Jvm.exec) (hb : c.code = cc) {a : Int} {off : Int} {tgt : Nat} (ha : -2147483648 ≤ a ∧ a ≤ 2147483647) (hdg : decode cc pc = .ok (.ifCond .ne off, 3)) (ht : (pc : Int) + off = (tgt : Int)) (kt : ¬ a = 0 → W p l e R s m args below meth c H locs cells slots Q (F0 m tgt ls rest)) (kf : a = 0 → W p l e R s m args below meth c H locs cells slots Q (F0 m (pc + 3) ls rest)) : W p l e R s m args below meth c H locs cells slots Q (F0 m pc ls (.int (iv a) :: rest)) :=
  lv_if_ne hx hb hdg ht (fun q => kt (fun h => q ((iv_eq0 ha).mpr h))) (fun q => kf ((iv_eq0 ha).mp q))
theorem r_icmp_ne (hx : p.tables.exec = Jvm.exec) (hb : c.code = cc) {a b : Int} {off : Int} {tgt : Nat} (ha : -2147483648 ≤ a ∧ a ≤ 2147483647) (hb0 : -2147483648 ≤ b ∧ b ≤ 2147483647) (hdg : decode cc pc = .ok (.if_icmp .ne off, 3)) (ht : (pc : Int) + off = (tgt : Int)) (kt : ¬ a = b → W p l e R s m args below meth c H locs cells slots Q (F0 m tgt ls rest)) (kf : a = b → W p l e R s m args below meth c H locs cells slots Q (F0 m (pc + 3) ls rest)) : W p l e R s m args below meth c H locs cells slots Q (F0 m pc ls (.int (iv b) :: .int (iv a) :: rest)) :=
  lv_icmp_ne hx hb hdg ht (fun q => kt (fun h => q ((iv_eq ha hb0).mpr h))) (fun q => kf ((iv_eq ha hb0).mp q))
theorem r_if_lt (hx : p.tables.exec = Jvm.exec) (hb : c.code = cc) {a : Int} {off : Int} {tgt : Nat} (ha : -2147483648 ≤ a ∧ a ≤ 2147483647) (hdg : decode cc pc = .ok (.ifCond .lt off, 3)) (ht : (pc : Int) + off = (tgt : Int)) (kt : a < 0 → W p l e R s m args below meth c H locs cells slots Q (F0 m tgt ls rest)) (kf : ¬ a < 0 → W p l e R s m args below meth c H locs cells slots Q (F0 m (pc + 3) ls rest)) : W p l e R s m args below meth c H locs cells slots Q (F0 m pc ls (.int (iv a) :: rest)) :=
  lv_if_lt hx hb hdg ht (fun q => kt ((iv_lt0 ha).mp q)) (fun q => kf (fun h => q ((iv_lt0 ha).mpr h)))
theorem r_icmp_lt (hx : p.tables.exec = Jvm.exec) (hb : c.code = cc) {a b : Int} {off : Int} {tgt : Nat} (ha : -2147483648 ≤ a ∧ a ≤ 2147483647) (hb0 : -2147483648 ≤ b ∧ b ≤ 2147483647) (hdg : decode cc pc = .ok (.if_icmp .lt off, 3)) (ht : (pc : Int) + off = (tgt : Int)) (kt : a < b → W p l e R s m args below meth c H locs cells slots Q (F0 m tgt ls rest)) (kf : ¬ a < b → W p l e R s m args below meth c H locs cells slots Q (F0 m (pc + 3) ls rest)) : W p l e R s m args below meth c H locs cells slots Q (F0 m pc ls (.int (iv b) :: .int (iv a) :: rest)) :=
  lv_icmp_lt hx hb hdg ht (fun q => kt ((iv_lt ha hb0).mp q)) (fun q => kf (fun h => q ((iv_lt ha hb0).mpr h)))
theorem r_if_ge (hx : p.tables.exec = Jvm.exec) (hb : c.code = cc) {a : Int} {off : Int} {tgt : Nat} (ha : -2147483648 ≤ a ∧ a ≤ 2147483647) (hdg : decode cc pc = .ok (.ifCond .ge off, 3)) (ht : (pc : Int) + off = (tgt : Int)) (kt : 0 ≤ a → W p l e R s m args below meth c H locs cells slots Q (F0 m tgt ls rest)) (kf : ¬ 0 ≤ a → W p l e R s m args below meth c H locs cells slots Q (F0 m (pc + 3) ls rest)) : W p l e R s m args below meth c H locs cells slots Q (F0 m pc ls (.int (iv a) :: rest)) :=
  lv_if_ge hx hb hdg ht (fun q => kt ((iv_ge0 ha).mp q)) (fun q => kf (fun h => q ((iv_ge0 ha).mpr h)))
theorem r_icmp_ge (hx : p.tables.exec = Jvm.exec) (hb : c.code = cc) {a b : Int} {off : Int} {tgt : Nat} (ha : -2147483648 ≤ a ∧ a ≤ 2147483647) (hb0 : -2147483648 ≤ b ∧ b ≤ 2147483647) (hdg : decode cc pc = .ok (.if_icmp .ge off, 3)) (ht : (pc : Int) + off = (tgt : Int)) (kt : b ≤ a → W p l e R s m args below meth c H locs cells slots Q (F0 m tgt ls rest)) (kf : ¬ b ≤ a → W p l e R s m args below meth c H locs cells slots Q (F0 m (pc + 3) ls rest)) : W p l e R s m args below meth c H locs cells slots Q (F0 m pc ls (.int (iv b) :: .int (iv a) :: rest)) :=
  lv_icmp_ge hx hb hdg ht (fun q => kt ((iv_le hb0 ha).mp q)) (fun q => kf (fun h => q ((iv_le hb0 ha).mpr h)))
theorem r_if_gt (hx : p.tables.exec = Jvm.exec) (hb : c.code = cc) {a : Int} {off : Int} {tgt : Nat} (ha : -2147483648 ≤ a ∧ a ≤ 2147483647) (hdg : decode cc pc = .ok (.ifCond .gt off, 3)) (ht : (pc : Int) + off = (tgt : Int)) (kt : 0 < a → W p l e R s m args below meth c H locs cells slots Q (F0 m tgt ls rest)) (kf : ¬ 0 < a → W p l e R s m args below meth c H locs cells slots Q (F0 m (pc + 3) ls rest)) : W p l e R s m args below meth c H locs cells slots Q (F0 m pc ls (.int (iv a) :: rest)) :=
  lv_if_gt hx hb hdg ht (fun q => kt ((iv_gt0 ha).mp q)) (fun q => kf (fun h => q ((iv_gt0 ha).mpr h)))
theorem r_icmp_gt (hx : p.tables.exec = Jvm.exec) (hb : c.code = cc) {a b : Int} {off : Int} {tgt : Nat} (ha : -2147483648 ≤ a ∧ a ≤ 2147483647) (hb0 : -2147483648 ≤ b ∧ b ≤ 2147483647) (hdg : decode cc pc = .ok (.if_icmp .gt off, 3)) (ht : (pc : Int) + off = (tgt : Int)) (kt : b < a → W p l e R s m args below meth c H locs cells slots Q (F0 m tgt ls rest)) (kf : ¬ b < a → W p l e R s m args below meth c H locs cells slots Q (F0 m (pc + 3) ls rest)) : W p l e R s m args below meth c H locs cells slots Q (F0 m pc ls (.int (iv b) :: .int (iv a) :: rest)) :=
  lv_icmp_gt hx hb hdg ht (fun q => kt ((iv_lt hb0 ha).mp q)) (fun q => kf (fun h => q ((iv_lt hb0 ha).mpr h)))
theorem r_if_le (hx : p.tables.exec = Jvm.exec) (hb : c.code = cc) {a : Int} {off : Int} {tgt : Nat} (ha : -2147483648 ≤ a ∧ a ≤ 2147483647) (hdg : decode cc pc = .ok (.ifCond .le off, 3)) (ht : (pc : Int) + off = (tgt : Int)) (kt : a ≤ 0 → W p l e R s m args below meth c H locs cells slots Q (F0 m tgt ls rest)) (kf : ¬ a ≤ 0 → W p l e R s m args below meth c H locs cells slots Q (F0 m (pc + 3) ls rest)) : W p l e R s m args below meth c H locs cells slots Q (F0 m pc ls (.int (iv a) :: rest)) :=
  lv_if_le hx hb hdg ht (fun q => kt ((iv_le0 ha).mp q)) (fun q => kf (fun h => q ((iv_le0 ha).mpr h)))
theorem r_icmp_le (hx : p.tables.exec = Jvm.exec) (hb : c.code = cc) {a b : Int} {off : Int} {tgt : Nat} (ha : -2147483648 ≤ a ∧ a ≤ 2147483647) (hb0 : -2147483648 ≤ b ∧ b ≤ 2147483647) (hdg : decode cc pc = .ok (.if_icmp .le off, 3)) (ht : (pc : Int) + off = (tgt : Int)) (kt : a ≤ b → W p l e R s m args below meth c H locs cells slots Q (F0 m tgt ls rest)) (kf : ¬ a ≤ b → W p l e R s m args below meth c H locs cells slots Q (F0 m (pc + 3) ls rest)) : W p l e R s m args below meth c H locs cells slots Q (F0 m pc ls (.int (iv b) :: .int (iv a) :: rest)) :=
  lv_icmp_le hx hb hdg ht (fun q => kt ((iv_le ha hb0).mp q)) (fun q => kf (fun h => q ((iv_le ha hb0).mpr h)))
/-- a value under another name -/
theorem r_i {a b : Int} (h : a = b) (kk : W p l e R s m args below meth c H locs cells slots Q (F0 m pc ls (.int (iv b) :: rest))) : W p l e R s m args below meth c H locs cells slots Q (F0 m pc ls (.int (iv a) :: rest)) := by
  subst h
  exact kk
theorem r_j {a b : Int} (h : a = b) (kk : W p l e R s m args below meth c H locs cells slots Q (F0 m pc ls (.long (jv b) :: rest))) : W p l e R s m args below meth c H locs cells slots Q (F0 m pc ls (.long (jv a) :: rest)) := by
  subst h
  exact kk
end AR
