section RF7
variable {p : Program} {l : Launch} {e : Env} {R : Room} {s : State} {m : MethodId} {args : Array Value} {below : List Frame} {meth : Method} {c : Code} {H : Heap} {locs : List Loc} {cells slots : Nat} {Q : State → Prop}
variable {cc : ByteArray} {pc nL : Nat} {ls : Array Slot} {rest st0 : List Value} {G : sG} {n : Nat} {S : sS} {own : String}
theorem sLdcw {T : State} (X : Stand p l e R s m args below meth c T locs cells slots) (hexec : p.tables.exec = Jvm.exec) {own text : String} {index : Nat} {a : Addr} (hown : s.vm.findClass own = some m.cls)
    (hconst : (Cond.stringRef own index text).before args s = true) (hev : (Term.string own index).eval args s none [] s = some (.ref a)) {g : JFrame} (hg : g.method = m) (hdg : decode c.code g.pc = .ok (.ldc_w index, 3)) :
    ∀ target, Steps p.tables e below (T.setTop { g with pc := g.pc + 3, stack := .ref a :: g.stack }) target → Steps p.tables e below (T.setTop g) target := by
  obtain ⟨k, cf, i, a', hk, hcf, hcp, -, hr, hev'⟩ := Cond.stringRef_spec hown hconst
  cases hev.symm.trans hev'
  obtain ⟨k', hk', he⟩ := X.warmed.alike.2.2 _ _ hk
  have hr' : k'.resolved[index]? = some (some (.string a)) := by
    rcases X.warmed.entry hk hk' index with h | ⟨h, -⟩
    · rw [h]; exact hr
    · rw [hr] at h; cases h
  intro target hrest
  subst hg
  jvm_step X.here [hexec, hdg, ldc_w.wp_string (e := e) (s := T) (f := g) X.here.top hk' (by rw [he]; exact hcf) hcp hr']
  exact hrest
theorem zLdcw (Cx : sC G p m c cc nL s args own) {index : Nat} (i : Nat) (hi : i < 38) (hq : (strL.getD i ("", 0, "")).1 = own ∧ (strL.getD i ("", 0, "")).2.1 = index) (hdg : decode cc pc = .ok (.ldc_w index, 3)) (kk : W p l e R s m args below meth c H locs cells slots Q (F0 m (pc + 3) ls (.ref (G.1.2 100 i) :: rest))) : W p l e R s m args below meth c H locs cells slots Q (F0 m pc ls rest) := by
  have h := (Cx.2.2.2.2.2.2 i hi).1
  rw [hq.1, hq.2] at h
  intro T hT X
  obtain ⟨t, a1, b1⟩ := kk T hT X
  exact ⟨t, sLdcw X Cx.1.1 Cx.1.2.2.2.1 h.1 h.2 (g := F0 m pc ls rest) rfl (by rw [Cx.1.2.1]; exact hdg) t a1, b1⟩
end RF7
theorem NO.abs {S : sS} {a : Nat} {p L z : Int} (h : NO (S.2.1 a) p L) (hz : (0 ≤ S.2.1 a p → z = S.2.1 a p) ∧ (S.2.1 a p ≤ 0 → z = -(S.2.1 a p))) : NO ((uA S a p z).2.1 a) p L ∧ nv ((uA S a p z).2.1 a) p = nu (S.2.1 a) p := by
  have v := nv_abs h
  have g := h.sgn
  rcases (by omega : S.2.1 a p < 0 ∨ 0 ≤ S.2.1 a p) with q | q
  · rw [hz.2 (by omega)]
    exact ⟨h.neg.1, by rw [h.neg.2]; omega⟩
  · rw [hz.1 q]
    have e : (uA S a p (S.2.1 a p)).2.1 a = S.2.1 a := funext fun j => by
      rw [uA_get]; split
      · rename_i w; rw [w.2]
      · rfl
    rw [e]; exact ⟨h, by omega⟩
theorem NO.less {f g : Int → Int} {p q L M : Int} (h : NO f p L) (k : NO g q M) (h0 : 0 ≤ nv f p) (hl : nv f p < nv g q) : NO f p M := by
  have a := nv_abs h
  have b := nv_abs k
  have c := k.nul
  have e := h.lim (n := (al g q).toNat) (by omega)
  exact ⟨by have := k.1; have := al_0 g q; omega, h.2⟩
