theorem XI.sm {S u : sS} (h : XI S) (e46 : u.1 231 46 = S.1 231 46) (e47 : u.1 231 47 = S.1 231 47) (e48 : u.1 231 48 = S.1 231 48) (e58 : u.1 231 58 = S.1 231 58) (e59 : u.1 231 59 = S.1 231 59) (e60 : u.1 231 60 = S.1 231 60) (e61 : u.1 231 61 = S.1 231 61) (e62 : u.1 231 62 = S.1 231 62) (e63 : u.1 231 63 = S.1 231 63) (e65 : u.1 231 65 = S.1 231 65) (e68 : u.1 231 68 = S.1 231 68) (e69 : u.1 231 69 = S.1 231 69) (e70 : u.1 231 70 = S.1 231 70) (e71 : u.1 231 71 = S.1 231 71) (e72 : u.1 231 72 = S.1 231 72) (e78 : u.1 231 78 = S.1 231 78) (e79 : u.1 231 79 = S.1 231 79) (e84 : u.1 231 84 = S.1 231 84) (e86 : u.1 231 86 = S.1 231 86) (a261 : u.2.1 261 = S.2.1 261) (a262 : u.2.1 262 = S.2.1 262) (a264 : u.2.1 264 = S.2.1 264) (a265 : u.2.1 265 = S.2.1 265) (a266 : u.2.1 266 = S.2.1 266) (a267 : u.2.1 267 = S.2.1 267) (a268 : u.2.1 268 = S.2.1 268) (a269 : u.2.1 269 = S.2.1 269) (a270 : u.2.1 270 = S.2.1 270) (a271 : u.2.1 271 = S.2.1 271) (a272 : u.2.1 272 = S.2.1 272) (a273 : u.2.1 273 = S.2.1 273) (a274 : u.2.1 274 = S.2.1 274) (l260 : u.2.2.1 260 = S.2.2.1 260) (l290 : u.2.2.1 290 = S.2.2.1 290) : XI u := by
  refine ⟨h.1.sm e46 e47 e63 a261 l260 l290, by rw [e61]; exact h.2.1, fun a b => (h.2.2.1 (e61.symm.trans a) (e70.symm.trans b)).sm e46 e47 e48 e58 e59 e60 e62 e63 e65 e68 e69 e78 e79 e84 e86 a261 a262 a264 a265 a266 a267 a268 a269 a270 a271 a272 a273 a274 l260 l290, fun a b => (h.2.2.2.1 (e61.symm.trans a) (e70.symm.trans b)).sm e46 e47 e48 e58 e59 e60 e62 e63 e65 e68 e69 e71 e72 e78 e79 e84 e86 a261 a262 a264 a265 a266 a267 a268 a269 a270 a271 a272 a273 a274 l260 l290, fun a => (h.2.2.2.2 (by rw [e61] at a; exact a)).sm e46 e47 e58 e59 e60 e63 e79 e86 a261 a262 a264 a265 a266 a272 a273 a274 l260 l290⟩
/-! What is asked of the reference -/
theorem XI.ei {S : sS} (h : XI S) (h7 : 0 ≤ S.1 231 70 ∧ S.1 231 70 ≤ 1) (h6 : S.1 231 61 ≠ 0) : EI S := by
  obtain ⟨a, b, c, d, e⟩ := h
  by_cases q : S.1 231 61 = 1
  · by_cases z : S.1 231 70 = 0
    · exact (c q z).1.1
    · exact (d q (by omega)).1.1
  · exact e (by omega)
set_option maxRecDepth 100000 in
set_option maxHeartbeats 4000000 in
theorem s_X12_look (l : Launch) (G : sG) (S : sS) {a : Int} (hI : dX G S) (ha : -2147483648 ≤ a ∧ a ≤ 2147483647) (hXI : XI S) : Met l yX12_look (.code yX12_look cX12_look 3 (some .int) :: tb) (rmk 1 0 0) (sPc G 294 S [.ref (G.2.2.1 + 231), .int (iv a)]) (sQi G 294 (fun r u => u = S)) 0 0 (sF G) := by
  refine sEnter (by decide) (Nat.le_of_ble_eq_true rfl) ?_
  intro p e s m args below meth c Cx hr hlk hnm hW ls hl
  have Cx : sC G p m c cX12_look 3 s args RX12 := Cx
  obtain ⟨hx, hb, hml, hown, hts⟩ := id Cx.1
  have hL : sL G [] := sL_nil
  have hl : lv_has ls 3 [(0, .ref (G.2.2.1 + 231)), (1, .int (iv a))] := hl
  have hW0 := hW
  have hm1 := hXI.1.1
  unfold MD at hm1
  refine lv_aload_n hx hb dX12_look_0 rfl (lv_at hl 0 rfl) ?_
  have q_1 : (-2147483648) ≤ S.1 231 61 ∧ S.1 231 61 ≤ 2147483647 := hI.fi 61
  refine g_X12_477 Cx hW (k := 231) (by decide) rfl (v := S.1 231 61) rfl dX12_look_1 ?_
  refine r_if_le (tgt := 11) hx hb ⟨(by omega), (by omega)⟩ dX12_look_4 (by decide) (fun c_2 => ?_) (fun c_2 => ?_)
  · refine lv_iconst (v := iv 0) hx hb dX12_look_11 (by decide) ?_
    refine lv_istore_n (lv' := [(2, .int (iv 0)), (0, .ref (G.2.2.1 + 231)), (1, .int (iv a))]) hx hb dX12_look_12 rfl hl (by decide) rfl (fun ls hl => ?_)
    refine lv_iload_n hx hb dX12_look_13 rfl (lv_at hl 2 rfl) ?_
    by_cases c_3 : a = 0
    · refine lv_tableIn (off := 54) (tgt := 68) hx hb dX12_look_14 (by rw [c_3]; decide) (by rw [c_3]; decide) (by rw [c_3]; decide) (by decide) ?_
      refine lv_aload_n hx hb dX12_look_68 rfl (lv_at hl 1 rfl) ?_
      refine g_X12_477 Cx hW (k := 231) (by decide) rfl (v := S.1 231 61) rfl dX12_look_69 ?_
      exact sIret Cx hr hlk hW hL rfl dX12_look_72
    by_cases c_4 : a = 1
    · refine lv_tableIn (off := 59) (tgt := 73) hx hb dX12_look_14 (by rw [c_4]; decide) (by rw [c_4]; decide) (by rw [c_4]; decide) (by decide) ?_
      refine lv_iload_n hx hb dX12_look_73 rfl (lv_at hl 0 rfl) ?_
      refine r_if_eq (tgt := 84) hx hb ⟨(by omega), (by omega)⟩ dX12_look_74 (by decide) (fun _ => ?_) (fun c => absurd (by omega) c)
      refine lv_iconst (v := iv 0) hx hb dX12_look_84 (by decide) ?_
      exact sIret Cx hr hlk hW hL rfl dX12_look_85
    by_cases c_5 : a = 2
    · refine lv_tableIn (off := 72) (tgt := 86) hx hb dX12_look_14 (by rw [c_5]; decide) (by rw [c_5]; decide) (by rw [c_5]; decide) (by decide) ?_
      refine lv_iload_n hx hb dX12_look_86 rfl (lv_at hl 0 rfl) ?_
      refine r_if_eq (tgt := 97) hx hb ⟨(by omega), (by omega)⟩ dX12_look_87 (by decide) (fun _ => ?_) (fun c => absurd (by omega) c)
      refine lv_iconst (v := iv 0) hx hb dX12_look_97 (by decide) ?_
      exact sIret Cx hr hlk hW hL rfl dX12_look_98
    by_cases c_6 : a = 3
    · refine lv_tableIn (off := 85) (tgt := 99) hx hb dX12_look_14 (by rw [c_6]; decide) (by rw [c_6]; decide) (by rw [c_6]; decide) (by decide) ?_
      refine lv_iload_n hx hb dX12_look_99 rfl (lv_at hl 0 rfl) ?_
      refine r_if_eq (tgt := 110) hx hb ⟨(by omega), (by omega)⟩ dX12_look_100 (by decide) (fun _ => ?_) (fun c => absurd (by omega) c)
      refine lv_iconst (v := iv 0) hx hb dX12_look_110 (by decide) ?_
      exact sIret Cx hr hlk hW hL rfl dX12_look_111
    by_cases c_7 : a = 4
    · refine lv_tableIn (off := 98) (tgt := 112) hx hb dX12_look_14 (by rw [c_7]; decide) (by rw [c_7]; decide) (by rw [c_7]; decide) (by decide) ?_
      refine lv_iload_n hx hb dX12_look_112 rfl (lv_at hl 0 rfl) ?_
      refine r_if_eq (tgt := 123) hx hb ⟨(by omega), (by omega)⟩ dX12_look_113 (by decide) (fun _ => ?_) (fun c => absurd (by omega) c)
      refine lv_iconst (v := iv 0) hx hb dX12_look_123 (by decide) ?_
      exact sIret Cx hr hlk hW hL rfl dX12_look_124
    by_cases c_8 : a = 5
    · refine lv_tableIn (off := 111) (tgt := 125) hx hb dX12_look_14 (by rw [c_8]; decide) (by rw [c_8]; decide) (by rw [c_8]; decide) (by decide) ?_
      refine lv_iload_n hx hb dX12_look_125 rfl (lv_at hl 0 rfl) ?_
      refine r_if_eq (tgt := 136) hx hb ⟨(by omega), (by omega)⟩ dX12_look_126 (by decide) (fun _ => ?_) (fun c => absurd (by omega) c)
      refine lv_iconst (v := iv 0) hx hb dX12_look_136 (by decide) ?_
      exact sIret Cx hr hlk hW hL rfl dX12_look_137
    by_cases c_9 : a = 6
    · refine lv_tableIn (off := 124) (tgt := 138) hx hb dX12_look_14 (by rw [c_9]; decide) (by rw [c_9]; decide) (by rw [c_9]; decide) (by decide) ?_
      refine lv_iload_n hx hb dX12_look_138 rfl (lv_at hl 0 rfl) ?_
      refine r_if_eq (tgt := 154) hx hb ⟨(by omega), (by omega)⟩ dX12_look_139 (by decide) (fun _ => ?_) (fun c => absurd (by omega) c)
      refine lv_iconst (v := iv 0) hx hb dX12_look_154 (by decide) ?_
      exact sIret Cx hr hlk hW hL rfl dX12_look_155
    by_cases c_10 : a = 7
    · refine lv_tableIn (off := 142) (tgt := 156) hx hb dX12_look_14 (by rw [c_10]; decide) (by rw [c_10]; decide) (by rw [c_10]; decide) (by decide) ?_
      refine lv_iload_n hx hb dX12_look_156 rfl (lv_at hl 0 rfl) ?_
      refine r_if_ne (tgt := 164) hx hb ⟨(by omega), (by omega)⟩ dX12_look_157 (by decide) (fun c => absurd (by omega) c) (fun _ => ?_)
      refine lv_iconst (v := iv 0) hx hb dX12_look_160 (by decide) ?_
      refine lv_goto (tgt := 189) hx hb dX12_look_161 (by decide) ?_
      exact sIret Cx hr hlk hW hL rfl dX12_look_189
    by_cases c_11 : a = 8
    · refine lv_tableIn (off := 176) (tgt := 190) hx hb dX12_look_14 (by rw [c_11]; decide) (by rw [c_11]; decide) (by rw [c_11]; decide) (by decide) ?_
      refine lv_aload_n hx hb dX12_look_190 rfl (lv_at hl 1 rfl) ?_
      refine g_X12_477 Cx hW (k := 231) (by decide) rfl (v := S.1 231 61) rfl dX12_look_191 ?_
      refine lv_iconst (v := iv 2) hx hb dX12_look_194 (by decide) ?_
      refine r_icmp_lt (tgt := 213) hx hb ⟨(by omega), (by omega)⟩ ⟨(by omega), (by omega)⟩ dX12_look_195 (by decide) (fun c_12 => ?_) (fun c_12 => ?_)
      · refine lv_iconst (v := iv 0) hx hb dX12_look_213 (by decide) ?_
        exact sIret Cx hr hlk hW hL rfl dX12_look_214
      · refine lv_aload_n hx hb dX12_look_198 rfl (lv_at hl 1 rfl) ?_
        refine g_X12_477 Cx hW (k := 231) (by decide) rfl (v := S.1 231 61) rfl dX12_look_199 ?_
        refine lv_iconst (v := iv 4) hx hb dX12_look_202 (by decide) ?_
        refine r_icmp_gt (tgt := 213) hx hb ⟨(by omega), (by omega)⟩ ⟨(by omega), (by omega)⟩ dX12_look_203 (by decide) (fun c_13 => ?_) (fun c_13 => ?_)
        · refine lv_iconst (v := iv 0) hx hb dX12_look_213 (by decide) ?_
          exact sIret Cx hr hlk hW hL rfl dX12_look_214
        · refine lv_aload_n hx hb dX12_look_206 rfl (lv_at hl 1 rfl) ?_
          have q_14 : (-2147483648) ≤ S.1 231 86 ∧ S.1 231 86 ≤ 2147483647 := hI.fi 86
          refine g_X12_523 Cx hW (k := 231) (by decide) rfl (v := S.1 231 86) rfl dX12_look_207 ?_
          refine lv_goto (tgt := 214) hx hb dX12_look_210 (by decide) ?_
          exact sIret Cx hr hlk hW hL rfl dX12_look_214
    by_cases c_15 : a = 9
    · refine lv_tableIn (off := 201) (tgt := 215) hx hb dX12_look_14 (by rw [c_15]; decide) (by rw [c_15]; decide) (by rw [c_15]; decide) (by decide) ?_
      refine lv_aload_n hx hb dX12_look_215 rfl (lv_at hl 1 rfl) ?_
      have q_16 : (-2147483648) ≤ S.1 231 1 ∧ S.1 231 1 ≤ 2147483647 := hI.fi 1
      refine g_X12_202 Cx hW (k := 231) (by decide) rfl (v := S.1 231 1) rfl dX12_look_216 ?_
      exact sIret Cx hr hlk hW hL rfl dX12_look_219
    refine lv_tableOut (tgt := 220) hx hb dX12_look_14 (by rw [iv_toInt ⟨(by omega), (by omega)⟩]; omega) (by decide) ?_
    refine lv_iconst (v := iv (-1)) hx hb dX12_look_220 (by decide) ?_
    exact sIret Cx hr hlk hW hL rfl dX12_look_221
  · refine lv_iconst (v := iv 1) hx hb dX12_look_7 (by decide) ?_
    refine lv_goto (tgt := 12) hx hb dX12_look_8 (by decide) ?_
    refine lv_istore_n (lv' := [(2, .int (iv 1)), (0, .ref (G.2.2.1 + 231)), (1, .int (iv a))]) hx hb dX12_look_12 rfl hl (by decide) rfl (fun ls hl => ?_)
    refine lv_iload_n hx hb dX12_look_13 rfl (lv_at hl 2 rfl) ?_
    by_cases c_17 : a = 0
    · refine lv_tableIn (off := 54) (tgt := 68) hx hb dX12_look_14 (by rw [c_17]; decide) (by rw [c_17]; decide) (by rw [c_17]; decide) (by decide) ?_
      refine lv_aload_n hx hb dX12_look_68 rfl (lv_at hl 1 rfl) ?_
      refine g_X12_477 Cx hW (k := 231) (by decide) rfl (v := S.1 231 61) rfl dX12_look_69 ?_
      exact sIret Cx hr hlk hW hL rfl dX12_look_72
    by_cases c_18 : a = 1
    · refine lv_tableIn (off := 59) (tgt := 73) hx hb dX12_look_14 (by rw [c_18]; decide) (by rw [c_18]; decide) (by rw [c_18]; decide) (by decide) ?_
      refine lv_iload_n hx hb dX12_look_73 rfl (lv_at hl 0 rfl) ?_
      refine r_if_eq (tgt := 84) hx hb ⟨(by omega), (by omega)⟩ dX12_look_74 (by decide) (fun c => absurd c (by omega)) (fun _ => ?_)
      refine lv_aload_n hx hb dX12_look_77 rfl (lv_at hl 1 rfl) ?_
      have q_19 : (-2147483648) ≤ S.1 231 64 ∧ S.1 231 64 ≤ 2147483647 := hI.fi 64
      refine g_X12_496 Cx hW (k := 231) (by decide) rfl (v := S.1 231 64) rfl dX12_look_78 ?_
      refine lv_goto (tgt := 85) hx hb dX12_look_81 (by decide) ?_
      exact sIret Cx hr hlk hW hL rfl dX12_look_85
    by_cases c_20 : a = 2
    · refine lv_tableIn (off := 72) (tgt := 86) hx hb dX12_look_14 (by rw [c_20]; decide) (by rw [c_20]; decide) (by rw [c_20]; decide) (by decide) ?_
      refine lv_iload_n hx hb dX12_look_86 rfl (lv_at hl 0 rfl) ?_
      refine r_if_eq (tgt := 97) hx hb ⟨(by omega), (by omega)⟩ dX12_look_87 (by decide) (fun c => absurd c (by omega)) (fun _ => ?_)
      refine lv_aload_n hx hb dX12_look_90 rfl (lv_at hl 1 rfl) ?_
      have q_21 : (-2147483648) ≤ S.1 231 65 ∧ S.1 231 65 ≤ 2147483647 := hI.fi 65
      refine g_X12_499 Cx hW (k := 231) (by decide) rfl (v := S.1 231 65) rfl dX12_look_91 ?_
      refine lv_goto (tgt := 98) hx hb dX12_look_94 (by decide) ?_
      exact sIret Cx hr hlk hW hL rfl dX12_look_98
    by_cases c_22 : a = 3
    · refine lv_tableIn (off := 85) (tgt := 99) hx hb dX12_look_14 (by rw [c_22]; decide) (by rw [c_22]; decide) (by rw [c_22]; decide) (by decide) ?_
      refine lv_iload_n hx hb dX12_look_99 rfl (lv_at hl 0 rfl) ?_
      refine r_if_eq (tgt := 110) hx hb ⟨(by omega), (by omega)⟩ dX12_look_100 (by decide) (fun c => absurd c (by omega)) (fun _ => ?_)
      refine lv_aload_n hx hb dX12_look_103 rfl (lv_at hl 1 rfl) ?_
      have q_23 : (-2147483648) ≤ S.1 231 66 ∧ S.1 231 66 ≤ 2147483647 := hI.fi 66
      refine g_X12_502 Cx hW (k := 231) (by decide) rfl (v := S.1 231 66) rfl dX12_look_104 ?_
      refine lv_goto (tgt := 111) hx hb dX12_look_107 (by decide) ?_
      exact sIret Cx hr hlk hW hL rfl dX12_look_111
    by_cases c_24 : a = 4
    · refine lv_tableIn (off := 98) (tgt := 112) hx hb dX12_look_14 (by rw [c_24]; decide) (by rw [c_24]; decide) (by rw [c_24]; decide) (by decide) ?_
      refine lv_iload_n hx hb dX12_look_112 rfl (lv_at hl 0 rfl) ?_
      refine r_if_eq (tgt := 123) hx hb ⟨(by omega), (by omega)⟩ dX12_look_113 (by decide) (fun c => absurd c (by omega)) (fun _ => ?_)
      refine lv_aload_n hx hb dX12_look_116 rfl (lv_at hl 1 rfl) ?_
      have q_25 : (-2147483648) ≤ S.1 231 67 ∧ S.1 231 67 ≤ 2147483647 := hI.fi 67
      refine g_X12_505 Cx hW (k := 231) (by decide) rfl (v := S.1 231 67) rfl dX12_look_117 ?_
      refine lv_goto (tgt := 124) hx hb dX12_look_120 (by decide) ?_
      exact sIret Cx hr hlk hW hL rfl dX12_look_124
    by_cases c_26 : a = 5
    · refine lv_tableIn (off := 111) (tgt := 125) hx hb dX12_look_14 (by rw [c_26]; decide) (by rw [c_26]; decide) (by rw [c_26]; decide) (by decide) ?_
      refine lv_iload_n hx hb dX12_look_125 rfl (lv_at hl 0 rfl) ?_
      refine r_if_eq (tgt := 136) hx hb ⟨(by omega), (by omega)⟩ dX12_look_126 (by decide) (fun c => absurd c (by omega)) (fun _ => ?_)
      refine lv_aload_n hx hb dX12_look_129 rfl (lv_at hl 1 rfl) ?_
      have q_27 : (-2147483648) ≤ S.1 231 63 ∧ S.1 231 63 ≤ 2147483647 := hI.fi 63
      refine g_X12_480 Cx hW (k := 231) (by decide) rfl (v := S.1 231 63) rfl dX12_look_130 ?_
      refine lv_goto (tgt := 137) hx hb dX12_look_133 (by decide) ?_
      exact sIret Cx hr hlk hW hL rfl dX12_look_137
    by_cases c_28 : a = 6
    · refine lv_tableIn (off := 124) (tgt := 138) hx hb dX12_look_14 (by rw [c_28]; decide) (by rw [c_28]; decide) (by rw [c_28]; decide) (by decide) ?_
      refine lv_iload_n hx hb dX12_look_138 rfl (lv_at hl 0 rfl) ?_
      refine r_if_eq (tgt := 154) hx hb ⟨(by omega), (by omega)⟩ dX12_look_139 (by decide) (fun c => absurd c (by omega)) (fun _ => ?_)
      refine lv_aload_n hx hb dX12_look_142 rfl (lv_at hl 1 rfl) ?_
      have q_29 : (-2147483648) ≤ S.1 231 63 ∧ S.1 231 63 ≤ 2147483647 := hI.fi 63
      refine g_X12_480 Cx hW (k := 231) (by decide) rfl (v := S.1 231 63) rfl dX12_look_143 ?_
      refine lv_aload_n hx hb dX12_look_146 rfl (lv_at hl 1 rfl) ?_
      have q_30 : (-2147483648) ≤ S.1 231 47 ∧ S.1 231 47 ≤ 2147483647 := hI.fi 47
      refine g_X12_468 Cx hW (k := 231) (by decide) rfl (v := S.1 231 47) rfl dX12_look_147 ?_
      refine r_isub hx hb dX12_look_150 ?_
      refine lv_goto (tgt := 155) hx hb dX12_look_151 (by decide) ?_
      exact sIret Cx hr hlk hW hL rfl dX12_look_155
    by_cases c_31 : a = 7
    · refine lv_tableIn (off := 142) (tgt := 156) hx hb dX12_look_14 (by rw [c_31]; decide) (by rw [c_31]; decide) (by rw [c_31]; decide) (by decide) ?_
      refine lv_iload_n hx hb dX12_look_156 rfl (lv_at hl 0 rfl) ?_
      refine r_if_ne (tgt := 164) hx hb ⟨(by omega), (by omega)⟩ dX12_look_157 (by decide) (fun _ => ?_) (fun c => absurd c (by omega))
      refine lv_aload_n hx hb dX12_look_164 rfl (lv_at hl 1 rfl) ?_
      have q_32 : (-2147483648) ≤ S.1 231 62 ∧ S.1 231 62 ≤ 2147483647 := hI.fi 62
      refine g_X12_532 Cx hW (k := 231) (by decide) rfl (v := S.1 231 62) rfl dX12_look_165 ?_
      refine lv_iconst (v := iv 3) hx hb dX12_look_168 (by decide) ?_
      refine r_icmp_ne (tgt := 176) hx hb ⟨(by omega), (by omega)⟩ ⟨(by omega), (by omega)⟩ dX12_look_169 (by decide) (fun c_33 => ?_) (fun c_33 => ?_)
      · refine lv_aload_n hx hb dX12_look_176 rfl (lv_at hl 1 rfl) ?_
        refine g_X12_532 Cx hW (k := 231) (by decide) rfl (v := S.1 231 62) rfl dX12_look_177 ?_
        refine lv_iconst (v := iv 4) hx hb dX12_look_180 (by decide) ?_
        refine r_icmp_ne (tgt := 188) hx hb ⟨(by omega), (by omega)⟩ ⟨(by omega), (by omega)⟩ dX12_look_181 (by decide) (fun c_34 => ?_) (fun c_34 => ?_)
        · refine lv_iconst (v := iv 1) hx hb dX12_look_188 (by decide) ?_
          exact sIret Cx hr hlk hW hL rfl dX12_look_189
        · refine lv_iconst (v := iv 3) hx hb dX12_look_184 (by decide) ?_
          refine lv_goto (tgt := 189) hx hb dX12_look_185 (by decide) ?_
          exact sIret Cx hr hlk hW hL rfl dX12_look_189
      · refine lv_iconst (v := iv 2) hx hb dX12_look_172 (by decide) ?_
        refine lv_goto (tgt := 189) hx hb dX12_look_173 (by decide) ?_
        exact sIret Cx hr hlk hW hL rfl dX12_look_189
    by_cases c_35 : a = 8
    · refine lv_tableIn (off := 176) (tgt := 190) hx hb dX12_look_14 (by rw [c_35]; decide) (by rw [c_35]; decide) (by rw [c_35]; decide) (by decide) ?_
      refine lv_aload_n hx hb dX12_look_190 rfl (lv_at hl 1 rfl) ?_
      refine g_X12_477 Cx hW (k := 231) (by decide) rfl (v := S.1 231 61) rfl dX12_look_191 ?_
      refine lv_iconst (v := iv 2) hx hb dX12_look_194 (by decide) ?_
      refine r_icmp_lt (tgt := 213) hx hb ⟨(by omega), (by omega)⟩ ⟨(by omega), (by omega)⟩ dX12_look_195 (by decide) (fun c_36 => ?_) (fun c_36 => ?_)
      · refine lv_iconst (v := iv 0) hx hb dX12_look_213 (by decide) ?_
        exact sIret Cx hr hlk hW hL rfl dX12_look_214
      · refine lv_aload_n hx hb dX12_look_198 rfl (lv_at hl 1 rfl) ?_
        refine g_X12_477 Cx hW (k := 231) (by decide) rfl (v := S.1 231 61) rfl dX12_look_199 ?_
        refine lv_iconst (v := iv 4) hx hb dX12_look_202 (by decide) ?_
        refine r_icmp_gt (tgt := 213) hx hb ⟨(by omega), (by omega)⟩ ⟨(by omega), (by omega)⟩ dX12_look_203 (by decide) (fun c_37 => ?_) (fun c_37 => ?_)
        · refine lv_iconst (v := iv 0) hx hb dX12_look_213 (by decide) ?_
          exact sIret Cx hr hlk hW hL rfl dX12_look_214
        · refine lv_aload_n hx hb dX12_look_206 rfl (lv_at hl 1 rfl) ?_
          have q_38 : (-2147483648) ≤ S.1 231 86 ∧ S.1 231 86 ≤ 2147483647 := hI.fi 86
          refine g_X12_523 Cx hW (k := 231) (by decide) rfl (v := S.1 231 86) rfl dX12_look_207 ?_
          refine lv_goto (tgt := 214) hx hb dX12_look_210 (by decide) ?_
          exact sIret Cx hr hlk hW hL rfl dX12_look_214
    by_cases c_39 : a = 9
    · refine lv_tableIn (off := 201) (tgt := 215) hx hb dX12_look_14 (by rw [c_39]; decide) (by rw [c_39]; decide) (by rw [c_39]; decide) (by decide) ?_
      refine lv_aload_n hx hb dX12_look_215 rfl (lv_at hl 1 rfl) ?_
      have q_40 : (-2147483648) ≤ S.1 231 1 ∧ S.1 231 1 ≤ 2147483647 := hI.fi 1
      refine g_X12_202 Cx hW (k := 231) (by decide) rfl (v := S.1 231 1) rfl dX12_look_216 ?_
      exact sIret Cx hr hlk hW hL rfl dX12_look_219
    refine lv_tableOut (tgt := 220) hx hb dX12_look_14 (by rw [iv_toInt ⟨(by omega), (by omega)⟩]; omega) (by decide) ?_
    refine lv_iconst (v := iv (-1)) hx hb dX12_look_220 (by decide) ?_
    exact sIret Cx hr hlk hW hL rfl dX12_look_221

set_option maxRecDepth 100000 in
set_option maxHeartbeats 4000000 in
theorem s_X12_place (l : Launch) (G : sG) (S : sS) {a : Int} (hI : dX G S) (ha : -2147483648 ≤ a ∧ a ≤ 2147483647) (hXI : XI S) : Met l yX12_place (.code yX12_place cX12_place 2 (some .int) :: tb) (rmk 1 0 0) (sPc G 294 S [.ref (G.2.2.1 + 231), .int (iv a)]) (sQi G 294 (fun r u => u = S)) 0 0 (sF G) := by
  refine sEnter (by decide) (Nat.le_of_ble_eq_true rfl) ?_
  intro p e s m args below meth c Cx hr hlk hnm hW ls hl
  have Cx : sC G p m c cX12_place 2 s args RX12 := Cx
  obtain ⟨hx, hb, hml, hown, hts⟩ := id Cx.1
  have hL : sL G [] := sL_nil
  have hl : lv_has ls 2 [(0, .ref (G.2.2.1 + 231)), (1, .int (iv a))] := hl
  have hW0 := hW
  have hm1 := hXI.1.1
  unfold MD at hm1
  refine lv_aload_n hx hb dX12_place_0 rfl (lv_at hl 0 rfl) ?_
  have q_1 : (-2147483648) ≤ S.1 231 61 ∧ S.1 231 61 ≤ 2147483647 := hI.fi 61
  refine g_X12_477 Cx hW (k := 231) (by decide) rfl (v := S.1 231 61) rfl dX12_place_1 ?_
  refine r_if_ne (tgt := 9) hx hb ⟨(by omega), (by omega)⟩ dX12_place_4 (by decide) (fun c_2 => ?_) (fun c_2 => ?_)
  · have hei := XI.ei hXI (hI.fi 70) (by omega)
    have hd1 := hei.2.1.1
    refine lv_iload_n hx hb dX12_place_9 rfl (lv_at hl 1 rfl) ?_
    refine r_if_le (tgt := 32) hx hb ⟨(by omega), (by omega)⟩ dX12_place_10 (by decide) (fun c_3 => ?_) (fun c_3 => ?_)
    · refine lv_iload_n hx hb dX12_place_32 rfl (lv_at hl 1 rfl) ?_
      refine r_if_ge (tgt := 55) hx hb ⟨(by omega), (by omega)⟩ dX12_place_33 (by decide) (fun c_4 => ?_) (fun c_4 => ?_)
      · refine lv_iconst (v := iv (-1)) hx hb dX12_place_55 (by decide) ?_
        exact sIret Cx hr hlk hW hL rfl dX12_place_56
      · refine lv_iload_n hx hb dX12_place_36 rfl (lv_at hl 1 rfl) ?_
        refine lv_aload_n hx hb dX12_place_37 rfl (lv_at hl 0 rfl) ?_
        have q_5 : (-2147483648) ≤ S.1 231 59 ∧ S.1 231 59 ≤ 2147483647 := hI.fi 59
        refine g_X12_526 Cx hW (k := 231) (by decide) rfl (v := S.1 231 59) rfl dX12_place_38 ?_
        refine r_ineg hx hb dX12_place_41 ?_
        refine r_icmp_lt (tgt := 55) hx hb ⟨(by omega), (by omega)⟩ ⟨(by omega), (by omega)⟩ dX12_place_42 (by decide) (fun c_6 => ?_) (fun c_6 => ?_)
        · refine lv_iconst (v := iv (-1)) hx hb dX12_place_55 (by decide) ?_
          exact sIret Cx hr hlk hW hL rfl dX12_place_56
        · refine lv_aload_n hx hb dX12_place_45 rfl (lv_at hl 0 rfl) ?_
          refine g_X12_115 Cx hW (k := 231) (by decide) rfl (v := .ref (G.2.2.1 + 266)) (rd_57 hI) dX12_place_46 ?_
          refine lv_iload_n hx hb dX12_place_49 rfl (lv_at hl 1 rfl) ?_
          refine r_ineg hx hb dX12_place_50 ?_
          refine rIald Cx hW (k := 266) (by decide) rfl (by decide) (by omega) (by omega) dX12_place_51 ?_
          have q_7 : (-2147483648) ≤ S.2.1 266 (-a) ∧ S.2.1 266 (-a) ≤ 2147483647 := hI.ai 266 (-a)
          refine r_i (b := S.2.1 266 (-a)) rfl ?_
          refine lv_goto (tgt := 56) hx hb dX12_place_52 (by decide) ?_
          exact sIret Cx hr hlk hW hL rfl dX12_place_56
    · refine lv_iload_n hx hb dX12_place_13 rfl (lv_at hl 1 rfl) ?_
      refine lv_aload_n hx hb dX12_place_14 rfl (lv_at hl 0 rfl) ?_
      have q_8 : (-2147483648) ≤ S.1 231 58 ∧ S.1 231 58 ≤ 2147483647 := hI.fi 58
      refine g_X12_483 Cx hW (k := 231) (by decide) rfl (v := S.1 231 58) rfl dX12_place_15 ?_
      refine r_icmp_gt (tgt := 30) hx hb ⟨(by omega), (by omega)⟩ ⟨(by omega), (by omega)⟩ dX12_place_18 (by decide) (fun c_9 => ?_) (fun c_9 => ?_)
      · refine lv_iconst (v := iv (-1)) hx hb dX12_place_30 (by decide) ?_
        exact sIret Cx hr hlk hW hL rfl dX12_place_31
      · refine lv_aload_n hx hb dX12_place_21 rfl (lv_at hl 0 rfl) ?_
        refine g_X12_112 Cx hW (k := 231) (by decide) rfl (v := .ref (G.2.2.1 + 265)) (rd_56 hI) dX12_place_22 ?_
        refine lv_iload_n hx hb dX12_place_25 rfl (lv_at hl 1 rfl) ?_
        refine rIald Cx hW (k := 265) (by decide) rfl (by decide) (by omega) (by omega) dX12_place_26 ?_
        have q_10 : (-2147483648) ≤ S.2.1 265 a ∧ S.2.1 265 a ≤ 2147483647 := hI.ai 265 a
        refine r_i (b := S.2.1 265 a) rfl ?_
        refine lv_goto (tgt := 31) hx hb dX12_place_27 (by decide) ?_
        exact sIret Cx hr hlk hW hL rfl dX12_place_31
  · refine lv_iconst (v := iv (-1)) hx hb dX12_place_7 (by decide) ?_
    exact sIret Cx hr hlk hW hL rfl dX12_place_8

set_option maxRecDepth 100000 in
set_option maxHeartbeats 4000000 in
theorem s_X12_letterAt (l : Launch) (G : sG) (S : sS) {a : Int} (hI : dX G S) (ha : -2147483648 ≤ a ∧ a ≤ 2147483647) (h6 : 0 ≤ S.1 231 6 ∧ S.1 231 6 ≤ 576) : Met l yX12_letterAt (.code yX12_letterAt cX12_letterAt 2 (some .int) :: tb) (rmk 1 0 0) (sPc G 294 S [.ref (G.2.2.1 + 231), .int (iv a)]) (sQi G 294 (fun r u => u = S)) 0 0 (sF G) := by
  refine sEnter (by decide) (Nat.le_of_ble_eq_true rfl) ?_
  intro p e s m args below meth c Cx hr hlk hnm hW ls hl
  have Cx : sC G p m c cX12_letterAt 2 s args RX12 := Cx
  obtain ⟨hx, hb, hml, hown, hts⟩ := id Cx.1
  have hL : sL G [] := sL_nil
  have hl : lv_has ls 2 [(0, .ref (G.2.2.1 + 231)), (1, .int (iv a))] := hl
  have hW0 := hW
  refine lv_iload_n hx hb dX12_letterAt_0 rfl (lv_at hl 1 rfl) ?_
  refine r_if_lt (tgt := 21) hx hb ⟨(by omega), (by omega)⟩ dX12_letterAt_1 (by decide) (fun c_1 => ?_) (fun c_1 => ?_)
  · refine lv_iconst (v := iv (-1)) hx hb dX12_letterAt_21 (by decide) ?_
    exact sIret Cx hr hlk hW hL rfl dX12_letterAt_22
  · refine lv_iload_n hx hb dX12_letterAt_4 rfl (lv_at hl 1 rfl) ?_
    refine lv_aload_n hx hb dX12_letterAt_5 rfl (lv_at hl 0 rfl) ?_
    have q_2 : (-2147483648) ≤ S.1 231 6 ∧ S.1 231 6 ≤ 2147483647 := hI.fi 6
    refine g_X12_259 Cx hW (k := 231) (by decide) rfl (v := S.1 231 6) rfl dX12_letterAt_6 ?_
    refine r_icmp_ge (tgt := 21) hx hb ⟨(by omega), (by omega)⟩ ⟨(by omega), (by omega)⟩ dX12_letterAt_9 (by decide) (fun c_3 => ?_) (fun c_3 => ?_)
    · refine lv_iconst (v := iv (-1)) hx hb dX12_letterAt_21 (by decide) ?_
      exact sIret Cx hr hlk hW hL rfl dX12_letterAt_22
    · refine lv_aload_n hx hb dX12_letterAt_12 rfl (lv_at hl 0 rfl) ?_
      refine g_X12_23 Cx hW (k := 231) (by decide) rfl (v := .ref (G.2.2.1 + 236)) (rd_5 hI) dX12_letterAt_13 ?_
      refine lv_iload_n hx hb dX12_letterAt_16 rfl (lv_at hl 1 rfl) ?_
      refine rBald Cx hW (k := 236) (by decide) rfl (by decide) (by omega) (by omega) dX12_letterAt_17 ?_
      have q_4 : (-128) ≤ S.2.1 236 a ∧ S.2.1 236 a ≤ 127 := hI.ai 236 a
      refine r_i (b := S.2.1 236 a) rfl ?_
      refine lv_goto (tgt := 22) hx hb dX12_letterAt_18 (by decide) ?_
      exact sIret Cx hr hlk hW hL rfl dX12_letterAt_22

set_option maxRecDepth 100000 in
set_option maxHeartbeats 4000000 in
theorem s_X12_fault (l : Launch) (G : sG) (S : sS) {a : Int} (hI : dX G S) (ha : -2147483648 ≤ a ∧ a ≤ 2147483647) : Met l yX12_fault (.code yX12_fault cX12_fault 2 (some .int) :: tb) (rmk 1 0 0) (sPc G 294 S [.ref (G.2.2.1 + 231), .int (iv a)]) (sQi G 294 (fun r u => u = S)) 0 0 (sF G) := by
  refine sEnter (by decide) (Nat.le_of_ble_eq_true rfl) ?_
  intro p e s m args below meth c Cx hr hlk hnm hW ls hl
  have Cx : sC G p m c cX12_fault 2 s args RX12 := Cx
  obtain ⟨hx, hb, hml, hown, hts⟩ := id Cx.1
  have hL : sL G [] := sL_nil
  have hl : lv_has ls 2 [(0, .ref (G.2.2.1 + 231)), (1, .int (iv a))] := hl
  have hW0 := hW
  refine lv_iload_n hx hb dX12_fault_0 rfl (lv_at hl 1 rfl) ?_
  refine r_if_ne (tgt := 11) hx hb ⟨(by omega), (by omega)⟩ dX12_fault_1 (by decide) (fun c_1 => ?_) (fun c_1 => ?_)
  · refine lv_iload_n hx hb dX12_fault_11 rfl (lv_at hl 1 rfl) ?_
    refine lv_iconst (v := iv 1) hx hb dX12_fault_12 (by decide) ?_
    refine r_icmp_ne (tgt := 30) hx hb ⟨(by omega), (by omega)⟩ ⟨(by omega), (by omega)⟩ dX12_fault_13 (by decide) (fun c_2 => ?_) (fun c_2 => ?_)
    · refine lv_iconst (v := iv (-1)) hx hb dX12_fault_30 (by decide) ?_
      exact sIret Cx hr hlk hW hL rfl dX12_fault_31
    · refine lv_aload_n hx hb dX12_fault_16 rfl (lv_at hl 0 rfl) ?_
      have q_3 : (-2147483648) ≤ S.1 231 22 ∧ S.1 231 22 ≤ 2147483647 := hI.fi 22
      refine g_X12_447 Cx hW (k := 231) (by decide) rfl (v := S.1 231 22) rfl dX12_fault_17 ?_
      refine r_if_le (tgt := 30) hx hb ⟨(by omega), (by omega)⟩ dX12_fault_20 (by decide) (fun c_4 => ?_) (fun c_4 => ?_)
      · refine lv_iconst (v := iv (-1)) hx hb dX12_fault_30 (by decide) ?_
        exact sIret Cx hr hlk hW hL rfl dX12_fault_31
      · refine lv_aload_n hx hb dX12_fault_23 rfl (lv_at hl 0 rfl) ?_
        have q_5 : (-2147483648) ≤ S.1 231 23 ∧ S.1 231 23 ≤ 2147483647 := hI.fi 23
        refine g_X12_450 Cx hW (k := 231) (by decide) rfl (v := S.1 231 23) rfl dX12_fault_24 ?_
        refine lv_goto (tgt := 31) hx hb dX12_fault_27 (by decide) ?_
        exact sIret Cx hr hlk hW hL rfl dX12_fault_31
  · refine lv_aload_n hx hb dX12_fault_4 rfl (lv_at hl 0 rfl) ?_
    have q_6 : (-2147483648) ≤ S.1 231 22 ∧ S.1 231 22 ≤ 2147483647 := hI.fi 22
    refine g_X12_447 Cx hW (k := 231) (by decide) rfl (v := S.1 231 22) rfl dX12_fault_5 ?_
    refine lv_goto (tgt := 31) hx hb dX12_fault_8 (by decide) ?_
    exact sIret Cx hr hlk hW hL rfl dX12_fault_31

set_option maxRecDepth 100000 in
set_option maxHeartbeats 4000000 in
theorem s_X12_coefficient (l : Launch) (G : sG) (S : sS) {a b : Int} (hI : dX G S) (ha : -2147483648 ≤ a ∧ a ≤ 2147483647) (hb : -2147483648 ≤ b ∧ b ≤ 2147483647) (hXI : XI S) : Met l yX12_coefficient (.code yX12_coefficient cX12_coefficient 3 (some .long) :: tb) (rmk 4 0 0) (sPc G 294 S [.ref (G.2.2.1 + 231), .int (iv a), .int (iv b)]) (sQl G 294 (fun r u => u = S)) 0 0 (sF G) := by
  refine sEnter (by decide) (Nat.le_of_ble_eq_true rfl) ?_
  intro p e s m args below meth c Cx hr hlk hnm hW ls hl
  have Cx : sC G p m c cX12_coefficient 3 s args RX12 := Cx
  obtain ⟨hx, hb, hml, hown, hts⟩ := id Cx.1
  have hL : sL G [] := sL_nil
  have hl : lv_has ls 3 [(0, .ref (G.2.2.1 + 231)), (1, .int (iv a)), (2, .int (iv b))] := hl
  have hW0 := hW
  have hm1 := hXI.1.1
  unfold MD at hm1
  refine lv_aload_n hx hb dX12_coefficient_0 rfl (lv_at hl 0 rfl) ?_
  have q_1 : 0 ≤ S.1 231 45 ∧ S.1 231 45 ≤ 1 := hI.fi 45
  refine g_X12_462 Cx hW (k := 231) (by decide) rfl (v := S.1 231 45) rfl dX12_coefficient_1 ?_
  refine r_if_eq (tgt := 31) hx hb ⟨(by omega), (by omega)⟩ dX12_coefficient_4 (by decide) (fun c_2 => ?_) (fun c_2 => ?_)
  · refine lv_lconst (v := jv 0) hx hb dX12_coefficient_31 (by decide) ?_
    exact sLret Cx hr hlk hW hL rfl dX12_coefficient_32
  · refine lv_iload_n hx hb dX12_coefficient_7 rfl (lv_at hl 2 rfl) ?_
    refine r_if_lt (tgt := 31) hx hb ⟨(by omega), (by omega)⟩ dX12_coefficient_8 (by decide) (fun c_3 => ?_) (fun c_3 => ?_)
    · refine lv_lconst (v := jv 0) hx hb dX12_coefficient_31 (by decide) ?_
      exact sLret Cx hr hlk hW hL rfl dX12_coefficient_32
    · refine lv_iload_n hx hb dX12_coefficient_11 rfl (lv_at hl 2 rfl) ?_
      refine lv_aload_n hx hb dX12_coefficient_12 rfl (lv_at hl 0 rfl) ?_
      have q_4 : (-2147483648) ≤ S.1 231 46 ∧ S.1 231 46 ≤ 2147483647 := hI.fi 46
      refine g_X12_465 Cx hW (k := 231) (by decide) rfl (v := S.1 231 46) rfl dX12_coefficient_13 ?_
      refine r_icmp_gt (tgt := 31) hx hb ⟨(by omega), (by omega)⟩ ⟨(by omega), (by omega)⟩ dX12_coefficient_16 (by decide) (fun c_5 => ?_) (fun c_5 => ?_)
      · refine lv_lconst (v := jv 0) hx hb dX12_coefficient_31 (by decide) ?_
        exact sLret Cx hr hlk hW hL rfl dX12_coefficient_32
      · refine lv_iload_n hx hb dX12_coefficient_19 rfl (lv_at hl 1 rfl) ?_
        refine r_if_lt (tgt := 31) hx hb ⟨(by omega), (by omega)⟩ dX12_coefficient_20 (by decide) (fun c_6 => ?_) (fun c_6 => ?_)
        · refine lv_lconst (v := jv 0) hx hb dX12_coefficient_31 (by decide) ?_
          exact sLret Cx hr hlk hW hL rfl dX12_coefficient_32
        · refine lv_iload_n hx hb dX12_coefficient_23 rfl (lv_at hl 1 rfl) ?_
          refine lv_aload_n hx hb dX12_coefficient_24 rfl (lv_at hl 0 rfl) ?_
          have q_7 : (-2147483648) ≤ S.1 231 63 ∧ S.1 231 63 ≤ 2147483647 := hI.fi 63
          refine g_X12_480 Cx hW (k := 231) (by decide) rfl (v := S.1 231 63) rfl dX12_coefficient_25 ?_
          refine r_icmp_le (tgt := 33) hx hb ⟨(by omega), (by omega)⟩ ⟨(by omega), (by omega)⟩ dX12_coefficient_28 (by decide) (fun c_8 => ?_) (fun c_8 => ?_)
          · refine lv_iload_n hx hb dX12_coefficient_33 rfl (lv_at hl 1 rfl) ?_
            refine r_if_ne (tgt := 46) hx hb ⟨(by omega), (by omega)⟩ dX12_coefficient_34 (by decide) (fun c_9 => ?_) (fun c_9 => ?_)
            · refine lv_aload_n hx hb dX12_coefficient_46 rfl (lv_at hl 0 rfl) ?_
              refine lv_aload_n hx hb dX12_coefficient_47 rfl (lv_at hl 0 rfl) ?_
              refine g_X12_100 Cx hW (k := 231) (by decide) rfl (v := .ref (G.2.2.1 + 261)) (rd_52 hI) dX12_coefficient_48 ?_
              refine lv_iload_n hx hb dX12_coefficient_51 rfl (lv_at hl 1 rfl) ?_
              refine lv_iload_n hx hb dX12_coefficient_52 rfl (lv_at hl 2 rfl) ?_
              refine sBi (sSt (As := [.int (iv a), .int (iv b)]) (rest := [.ref (G.2.2.1 + 261), .ref (G.2.2.1 + 231)]) Cx (s_X12_rowCell l G S (i := a) (j := b) (by omega) (by omega)) (c_X12_486 Cx rfl rfl (rmk_ok (by omega) (by decide))) hW rfl hl.1 rfl (Nat.le_of_ble_eq_true rfl) dX12_coefficient_53 ⟨Nat.le_of_ble_eq_true rfl, Nat.le_of_ble_eq_true rfl⟩) hL (fun qz u_10 H locs k_11 hW hL => ?_)
              obtain ⟨eu_10, xu_10⟩ := k_11
              rw [eu_10] at hW
              refine sBl (sV (As := [.ref (G.2.2.1 + 261), .int (iv qz)]) (rest := []) (k := 231) Cx (s_X12_asLong l G S (ka := 261) (po := qz) (Nka := 4368) (La := 7) hI ⟨rfl, by decide, by decide, by decide, rfl⟩ (by omega) (by rw [show qz = 8 * (13 * a + b) by omega]; exact hXI.1.2.2.2 a b (by omega) (by omega) (by omega) (by omega))) (c_X12_489 Cx rfl rfl (rmk_ok (by omega) (by decide))) hW (by decide) rfl rfl rfl hl.1 rfl (Nat.le_of_ble_eq_true rfl) dX12_coefficient_56 ⟨Nat.le_of_ble_eq_true rfl, Nat.le_of_ble_eq_true rfl⟩) hL (fun r_14 u_12 H locs k_13 hW hL => ?_)
              obtain ⟨eu_12, xu_12⟩ := k_13
              rw [eu_12] at hW
              exact sLret Cx hr hlk hW hL rfl dX12_coefficient_59
            · refine lv_aload_n hx hb dX12_coefficient_37 rfl (lv_at hl 0 rfl) ?_
              refine g_X12_97 Cx hW (k := 231) (by decide) rfl (v := .ref (G.2.2.1 + 260)) (rd_51 hI) dX12_coefficient_38 ?_
              refine lv_iload_n hx hb dX12_coefficient_41 rfl (lv_at hl 2 rfl) ?_
              refine rLald Cx hW (k := 260) (by decide) rfl (by decide) (by omega) (by omega) dX12_coefficient_42 ?_
              have q_15 : -9223372036854775808 ≤ S.2.2.1 260 b ∧ S.2.2.1 260 b ≤ 9223372036854775807 := hI.li 260 b
              refine r_j (b := S.2.2.1 260 b) rfl ?_
              refine lv_goto (tgt := 59) hx hb dX12_coefficient_43 (by decide) ?_
              exact sLret Cx hr hlk hW hL rfl dX12_coefficient_59
          · refine lv_lconst (v := jv 0) hx hb dX12_coefficient_31 (by decide) ?_
            exact sLret Cx hr hlk hW hL rfl dX12_coefficient_32

set_option maxRecDepth 100000 in
set_option maxHeartbeats 4000000 in
theorem s_X12_entry (l : Launch) (G : sG) (S : sS) {a b cc : Int} (hI : dX G S) (ha : -2147483648 ≤ a ∧ a ≤ 2147483647) (hb : -2147483648 ≤ b ∧ b ≤ 2147483647) (hcc : -2147483648 ≤ cc ∧ cc ≤ 2147483647) (hXI : XI S) : Met l yX12_entry (.code yX12_entry cX12_entry 4 (some .int) :: tb) (rmk 4 0 0) (sPc G 294 S [.ref (G.2.2.1 + 231), .int (iv a), .int (iv b), .int (iv cc)]) (sQi G 294 (fun r u => dX G u ∧ Fr S u (pl [231, 236]) ∧ FF S u (fl [6]) ∧ (XI u))) 0 0 (sF G) := by
  refine sEnter (by decide) (Nat.le_of_ble_eq_true rfl) ?_
  intro p e s m args below meth c Cx hr hlk hnm hW ls hl
  have Cx : sC G p m c cX12_entry 4 s args RX12 := Cx
  obtain ⟨hx, hb, hml, hown, hts⟩ := id Cx.1
  have hL : sL G [] := sL_nil
  have hl : lv_has ls 4 [(0, .ref (G.2.2.1 + 231)), (1, .int (iv a)), (2, .int (iv b)), (3, .int (iv cc))] := hl
  have hW0 := hW
  have hm1 := hXI.1.1
  unfold MD at hm1
  refine lv_aload_n hx hb dX12_entry_0 rfl (lv_at hl 0 rfl) ?_
  have q_1 : (-2147483648) ≤ S.1 231 61 ∧ S.1 231 61 ≤ 2147483647 := hI.fi 61
  refine g_X12_477 Cx hW (k := 231) (by decide) rfl (v := S.1 231 61) rfl dX12_entry_1 ?_
  refine r_if_eq (tgt := 55) hx hb ⟨(by omega), (by omega)⟩ dX12_entry_4 (by decide) (fun c_2 => ?_) (fun c_2 => ?_)
  · refine lv_iconst (v := iv (-1)) hx hb dX12_entry_55 (by decide) ?_
    exact sIret Cx hr hlk hW hL ⟨hI, (Fr.rf : Fr S S (pl [231, 236])), FF.rf, hXI⟩ dX12_entry_56
  · have hei := XI.ei hXI (hI.fi 70) (by omega)
    have hd1 := hei.2.1.1
    refine lv_iload_n hx hb dX12_entry_7 rfl (lv_at hl 1 rfl) ?_
    refine lv_bipush (v := iv (-2)) hx hb dX12_entry_8 (by decide) ?_
    refine r_icmp_lt (tgt := 55) hx hb ⟨(by omega), (by omega)⟩ ⟨(by omega), (by omega)⟩ dX12_entry_10 (by decide) (fun c_3 => ?_) (fun c_3 => ?_)
    · refine lv_iconst (v := iv (-1)) hx hb dX12_entry_55 (by decide) ?_
      exact sIret Cx hr hlk hW hL ⟨hI, (Fr.rf : Fr S S (pl [231, 236])), FF.rf, hXI⟩ dX12_entry_56
    · refine lv_iload_n hx hb dX12_entry_13 rfl (lv_at hl 1 rfl) ?_
      refine lv_aload_n hx hb dX12_entry_14 rfl (lv_at hl 0 rfl) ?_
      have q_4 : (-2147483648) ≤ S.1 231 58 ∧ S.1 231 58 ≤ 2147483647 := hI.fi 58
      refine g_X12_483 Cx hW (k := 231) (by decide) rfl (v := S.1 231 58) rfl dX12_entry_15 ?_
      refine r_icmp_gt (tgt := 55) hx hb ⟨(by omega), (by omega)⟩ ⟨(by omega), (by omega)⟩ dX12_entry_18 (by decide) (fun c_5 => ?_) (fun c_5 => ?_)
      · refine lv_iconst (v := iv (-1)) hx hb dX12_entry_55 (by decide) ?_
        exact sIret Cx hr hlk hW hL ⟨hI, (Fr.rf : Fr S S (pl [231, 236])), FF.rf, hXI⟩ dX12_entry_56
      · refine lv_iload_n hx hb dX12_entry_21 rfl (lv_at hl 2 rfl) ?_
        refine r_if_lt (tgt := 55) hx hb ⟨(by omega), (by omega)⟩ dX12_entry_22 (by decide) (fun c_6 => ?_) (fun c_6 => ?_)
        · refine lv_iconst (v := iv (-1)) hx hb dX12_entry_55 (by decide) ?_
          exact sIret Cx hr hlk hW hL ⟨hI, (Fr.rf : Fr S S (pl [231, 236])), FF.rf, hXI⟩ dX12_entry_56
        · refine lv_iload_n hx hb dX12_entry_25 rfl (lv_at hl 2 rfl) ?_
          refine lv_aload_n hx hb dX12_entry_26 rfl (lv_at hl 0 rfl) ?_
          have q_7 : (-2147483648) ≤ S.1 231 59 ∧ S.1 231 59 ≤ 2147483647 := hI.fi 59
          refine g_X12_526 Cx hW (k := 231) (by decide) rfl (v := S.1 231 59) rfl dX12_entry_27 ?_
          refine r_icmp_gt (tgt := 55) hx hb ⟨(by omega), (by omega)⟩ ⟨(by omega), (by omega)⟩ dX12_entry_30 (by decide) (fun c_8 => ?_) (fun c_8 => ?_)
          · refine lv_iconst (v := iv (-1)) hx hb dX12_entry_55 (by decide) ?_
            exact sIret Cx hr hlk hW hL ⟨hI, (Fr.rf : Fr S S (pl [231, 236])), FF.rf, hXI⟩ dX12_entry_56
          · refine lv_iload_n hx hb dX12_entry_33 rfl (lv_at hl 1 rfl) ?_
            refine lv_iconst (v := iv (-1)) hx hb dX12_entry_34 (by decide) ?_
            refine r_icmp_ne (tgt := 45) hx hb ⟨(by omega), (by omega)⟩ ⟨(by omega), (by omega)⟩ dX12_entry_35 (by decide) (fun c_9 => ?_) (fun c_9 => ?_)
            · refine lv_iload_n hx hb dX12_entry_45 rfl (lv_at hl 1 rfl) ?_
              refine lv_bipush (v := iv (-2)) hx hb dX12_entry_46 (by decide) ?_
              refine r_icmp_ne (tgt := 57) hx hb ⟨(by omega), (by omega)⟩ ⟨(by omega), (by omega)⟩ dX12_entry_48 (by decide) (fun c_10 => ?_) (fun c_10 => ?_)
              · refine lv_aload_n hx hb dX12_entry_57 rfl (lv_at hl 0 rfl) ?_
                refine lv_iconst (v := iv 0) hx hb dX12_entry_58 (by decide) ?_
                refine p_X12_259 Cx hW hL (k := 231) (by decide) rfl dX12_entry_59 (fun H locs hW hL => ?_)
                have F_11 : Fr S (uF S 231 6 0) (pl [231, 236]) := (Fr.rf : Fr S S (pl [231, 236])).F rfl
                have g_12 : FF S (uF S 231 6 0) (fl [6]) := FF.F FF.rf rfl
                have i_13 : dX G (uF S 231 6 0) := hI.F (i := 6) (show (-2147483648) ≤ 0 ∧ 0 ≤ 2147483647 from ⟨by omega, by omega⟩)
                refine lv_iload_n hx hb dX12_entry_62 rfl (lv_at hl 1 rfl) ?_
                refine lv_bipush (v := iv (-2)) hx hb dX12_entry_63 (by decide) ?_
                refine r_icmp_ne (tgt := 80) hx hb ⟨(by omega), (by omega)⟩ ⟨(by omega), (by omega)⟩ dX12_entry_65 (by decide) (fun c_14 => ?_) (fun c_14 => ?_)
                · refine lv_aload_n hx hb dX12_entry_80 rfl (lv_at hl 0 rfl) ?_
                  refine lv_aload_n hx hb dX12_entry_81 rfl (lv_at hl 0 rfl) ?_
                  refine g_X12_103 Cx hW (k := 231) (by decide) rfl (v := .ref (G.2.2.1 + 262)) (rd_53 i_13) dX12_entry_82 ?_
                  refine lv_aload_n hx hb dX12_entry_85 rfl (lv_at hl 0 rfl) ?_
                  refine lv_iload_n hx hb dX12_entry_86 rfl (lv_at hl 1 rfl) ?_
                  refine r_if_ne (tgt := 94) hx hb ⟨(by omega), (by omega)⟩ dX12_entry_87 (by decide) (fun c_15 => ?_) (fun c_15 => ?_)
                  · refine lv_iload_n hx hb dX12_entry_94 rfl (lv_at hl 1 rfl) ?_
                    refine lv_iconst (v := iv (-1)) hx hb dX12_entry_95 (by decide) ?_
                    refine r_icmp_ne (tgt := 103) hx hb ⟨(by omega), (by omega)⟩ ⟨(by omega), (by omega)⟩ dX12_entry_96 (by decide) (fun c_16 => ?_) (fun c_16 => ?_)
                    · refine lv_iload_n hx hb dX12_entry_103 rfl (lv_at hl 1 rfl) ?_
                      refine lv_iconst (v := iv 1) hx hb dX12_entry_104 (by decide) ?_
                      refine r_iadd hx hb dX12_entry_105 ?_
                      refine lv_iload_n hx hb dX12_entry_106 rfl (lv_at hl 2 rfl) ?_
                      refine sBi (sV (As := [.int (iv (a + 1)), .int (iv b)]) (rest := [.ref (G.2.2.1 + 262), .ref (G.2.2.1 + 231)]) (k := 231) Cx (s_X12_cell l G (uF S 231 6 0) (i := a + 1) (j := b) (by omega) (by omega)) (c_X12_529 Cx rfl rfl (rmk_ok (by omega) (by decide))) hW (by decide) rfl rfl rfl hl.1 rfl (Nat.le_of_ble_eq_true rfl) dX12_entry_107 ⟨Nat.le_of_ble_eq_true rfl, Nat.le_of_ble_eq_true rfl⟩) hL (fun qz u_17 H locs k_18 hW hL => ?_)
                      obtain ⟨eu_17, xu_17⟩ := k_18
                      rw [eu_17] at hW
                      have lk_19 : (uF S 231 6 0).1 231 6 = 0 := uF_on
                      refine sBv (sV (As := [.ref (G.2.2.1 + 262), .int (iv qz)]) (rest := []) (k := 231) Cx (s_X12_spell l G (uF S 231 6 0) (ka := 262) (po := qz) (Nka := 5280) (La := 6) i_13 ⟨rfl, by decide, by decide, by decide, rfl⟩ (by omega) (by omega) (by rw [show (uF S 231 6 0).2.1 262 = S.2.1 262 from (funext fun j => uF_a)]; exact hei.2.1.at (i := a + 1) (j := b) (by omega) (by omega) (by omega) (by omega)) (show (262 : Nat) ≠ 231 by decide) (show (262 : Nat) ≠ 236 by decide)) (c_X12_594 Cx rfl rfl (rmk_ok (by omega) (by decide))) hW (by decide) rfl rfl rfl hl.1 rfl (Nat.le_of_ble_eq_true rfl) dX12_entry_110 ⟨Nat.le_of_ble_eq_true rfl, Nat.le_of_ble_eq_true rfl⟩) hL (fun u_20 H locs k_21 hW hL => ?_)
                      obtain ⟨iu_20, fu_20, gu_20, xu_20⟩ := k_21
                      have F_22 := F_11.trans fu_20
                      have g_23 : FF S u_20 (fl [6]) := FF.trans g_12 (FF.to gu_20 (fl_sub (by decide)))
                      refine lv_aload_n hx hb dX12_entry_113 rfl (lv_at hl 0 rfl) ?_
                      refine lv_iload_n hx hb dX12_entry_114 rfl (lv_at hl 3 rfl) ?_
                      have q_24 : (-2147483648) ≤ u_20.1 231 6 ∧ u_20.1 231 6 ≤ 2147483647 := iu_20.fi 6
                      refine sBi (sV (As := [.int (iv cc)]) (rest := []) (k := 231) Cx (s_X12_letterAt l G u_20 (a := cc) iu_20 (by omega) (by omega)) (c_X12_686 Cx rfl rfl (rmk_ok (by omega) (by decide))) hW (by decide) rfl rfl rfl hl.1 rfl (Nat.le_of_ble_eq_true rfl) dX12_entry_115 ⟨Nat.le_of_ble_eq_true rfl, Nat.le_of_ble_eq_true rfl⟩) hL (fun r_27 u_25 H locs k_26 hW hL => ?_)
                      rw [k_26] at hW
                      exact sIret Cx hr hlk hW hL ⟨iu_20, F_22, g_23, (XI.sm (S := S) (u := u_20) hXI ((gu_20 46 rfl).trans (uF_ne (fun h => absurd h.2 (by decide)))) ((gu_20 47 rfl).trans (uF_ne (fun h => absurd h.2 (by decide)))) ((gu_20 48 rfl).trans (uF_ne (fun h => absurd h.2 (by decide)))) ((gu_20 58 rfl).trans (uF_ne (fun h => absurd h.2 (by decide)))) ((gu_20 59 rfl).trans (uF_ne (fun h => absurd h.2 (by decide)))) ((gu_20 60 rfl).trans (uF_ne (fun h => absurd h.2 (by decide)))) ((gu_20 61 rfl).trans (uF_ne (fun h => absurd h.2 (by decide)))) ((gu_20 62 rfl).trans (uF_ne (fun h => absurd h.2 (by decide)))) ((gu_20 63 rfl).trans (uF_ne (fun h => absurd h.2 (by decide)))) ((gu_20 65 rfl).trans (uF_ne (fun h => absurd h.2 (by decide)))) ((gu_20 68 rfl).trans (uF_ne (fun h => absurd h.2 (by decide)))) ((gu_20 69 rfl).trans (uF_ne (fun h => absurd h.2 (by decide)))) ((gu_20 70 rfl).trans (uF_ne (fun h => absurd h.2 (by decide)))) ((gu_20 71 rfl).trans (uF_ne (fun h => absurd h.2 (by decide)))) ((gu_20 72 rfl).trans (uF_ne (fun h => absurd h.2 (by decide)))) ((gu_20 78 rfl).trans (uF_ne (fun h => absurd h.2 (by decide)))) ((gu_20 79 rfl).trans (uF_ne (fun h => absurd h.2 (by decide)))) ((gu_20 84 rfl).trans (uF_ne (fun h => absurd h.2 (by decide)))) ((gu_20 86 rfl).trans (uF_ne (fun h => absurd h.2 (by decide)))) (funext fun j => ((fu_20 261 rfl).2.1 j).trans (uF_a)) (funext fun j => ((fu_20 262 rfl).2.1 j).trans (uF_a)) (funext fun j => ((fu_20 264 rfl).2.1 j).trans (uF_a)) (funext fun j => ((fu_20 265 rfl).2.1 j).trans (uF_a)) (funext fun j => ((fu_20 266 rfl).2.1 j).trans (uF_a)) (funext fun j => ((fu_20 267 rfl).2.1 j).trans (uF_a)) (funext fun j => ((fu_20 268 rfl).2.1 j).trans (uF_a)) (funext fun j => ((fu_20 269 rfl).2.1 j).trans (uF_a)) (funext fun j => ((fu_20 270 rfl).2.1 j).trans (uF_a)) (funext fun j => ((fu_20 271 rfl).2.1 j).trans (uF_a)) (funext fun j => ((fu_20 272 rfl).2.1 j).trans (uF_a)) (funext fun j => ((fu_20 273 rfl).2.1 j).trans (uF_a)) (funext fun j => ((fu_20 274 rfl).2.1 j).trans (uF_a)) (funext fun j => ((fu_20 260 rfl).2.2.1 j).trans (uF_l)) (funext fun j => ((fu_20 290 rfl).2.2.1 j).trans (uF_l)))⟩ dX12_entry_118
                    · refine lv_iconst (v := iv 1) hx hb dX12_entry_99 (by decide) ?_
                      refine lv_goto (tgt := 106) hx hb dX12_entry_100 (by decide) ?_
                      refine lv_iload_n hx hb dX12_entry_106 rfl (lv_at hl 2 rfl) ?_
                      refine sBi (sV (As := [.int (iv 1), .int (iv b)]) (rest := [.ref (G.2.2.1 + 262), .ref (G.2.2.1 + 231)]) (k := 231) Cx (s_X12_cell l G (uF S 231 6 0) (i := 1) (j := b) (by omega) (by omega)) (c_X12_529 Cx rfl rfl (rmk_ok (by omega) (by decide))) hW (by decide) rfl rfl rfl hl.1 rfl (Nat.le_of_ble_eq_true rfl) dX12_entry_107 ⟨Nat.le_of_ble_eq_true rfl, Nat.le_of_ble_eq_true rfl⟩) hL (fun qz u_28 H locs k_29 hW hL => ?_)
                      obtain ⟨eu_28, xu_28⟩ := k_29
                      rw [eu_28] at hW
                      have lk_30 : (uF S 231 6 0).1 231 6 = 0 := uF_on
                      refine sBv (sV (As := [.ref (G.2.2.1 + 262), .int (iv qz)]) (rest := []) (k := 231) Cx (s_X12_spell l G (uF S 231 6 0) (ka := 262) (po := qz) (Nka := 5280) (La := 6) i_13 ⟨rfl, by decide, by decide, by decide, rfl⟩ (by omega) (by omega) (by rw [show (uF S 231 6 0).2.1 262 = S.2.1 262 from (funext fun j => uF_a)]; exact hei.2.1.at (i := 1) (j := b) (by omega) (by omega) (by omega) (by omega)) (show (262 : Nat) ≠ 231 by decide) (show (262 : Nat) ≠ 236 by decide)) (c_X12_594 Cx rfl rfl (rmk_ok (by omega) (by decide))) hW (by decide) rfl rfl rfl hl.1 rfl (Nat.le_of_ble_eq_true rfl) dX12_entry_110 ⟨Nat.le_of_ble_eq_true rfl, Nat.le_of_ble_eq_true rfl⟩) hL (fun u_31 H locs k_32 hW hL => ?_)
                      obtain ⟨iu_31, fu_31, gu_31, xu_31⟩ := k_32
                      have F_33 := F_11.trans fu_31
                      have g_34 : FF S u_31 (fl [6]) := FF.trans g_12 (FF.to gu_31 (fl_sub (by decide)))
                      refine lv_aload_n hx hb dX12_entry_113 rfl (lv_at hl 0 rfl) ?_
                      refine lv_iload_n hx hb dX12_entry_114 rfl (lv_at hl 3 rfl) ?_
                      have q_35 : (-2147483648) ≤ u_31.1 231 6 ∧ u_31.1 231 6 ≤ 2147483647 := iu_31.fi 6
                      refine sBi (sV (As := [.int (iv cc)]) (rest := []) (k := 231) Cx (s_X12_letterAt l G u_31 (a := cc) iu_31 (by omega) (by omega)) (c_X12_686 Cx rfl rfl (rmk_ok (by omega) (by decide))) hW (by decide) rfl rfl rfl hl.1 rfl (Nat.le_of_ble_eq_true rfl) dX12_entry_115 ⟨Nat.le_of_ble_eq_true rfl, Nat.le_of_ble_eq_true rfl⟩) hL (fun r_38 u_36 H locs k_37 hW hL => ?_)
                      rw [k_37] at hW
                      exact sIret Cx hr hlk hW hL ⟨iu_31, F_33, g_34, (XI.sm (S := S) (u := u_31) hXI ((gu_31 46 rfl).trans (uF_ne (fun h => absurd h.2 (by decide)))) ((gu_31 47 rfl).trans (uF_ne (fun h => absurd h.2 (by decide)))) ((gu_31 48 rfl).trans (uF_ne (fun h => absurd h.2 (by decide)))) ((gu_31 58 rfl).trans (uF_ne (fun h => absurd h.2 (by decide)))) ((gu_31 59 rfl).trans (uF_ne (fun h => absurd h.2 (by decide)))) ((gu_31 60 rfl).trans (uF_ne (fun h => absurd h.2 (by decide)))) ((gu_31 61 rfl).trans (uF_ne (fun h => absurd h.2 (by decide)))) ((gu_31 62 rfl).trans (uF_ne (fun h => absurd h.2 (by decide)))) ((gu_31 63 rfl).trans (uF_ne (fun h => absurd h.2 (by decide)))) ((gu_31 65 rfl).trans (uF_ne (fun h => absurd h.2 (by decide)))) ((gu_31 68 rfl).trans (uF_ne (fun h => absurd h.2 (by decide)))) ((gu_31 69 rfl).trans (uF_ne (fun h => absurd h.2 (by decide)))) ((gu_31 70 rfl).trans (uF_ne (fun h => absurd h.2 (by decide)))) ((gu_31 71 rfl).trans (uF_ne (fun h => absurd h.2 (by decide)))) ((gu_31 72 rfl).trans (uF_ne (fun h => absurd h.2 (by decide)))) ((gu_31 78 rfl).trans (uF_ne (fun h => absurd h.2 (by decide)))) ((gu_31 79 rfl).trans (uF_ne (fun h => absurd h.2 (by decide)))) ((gu_31 84 rfl).trans (uF_ne (fun h => absurd h.2 (by decide)))) ((gu_31 86 rfl).trans (uF_ne (fun h => absurd h.2 (by decide)))) (funext fun j => ((fu_31 261 rfl).2.1 j).trans (uF_a)) (funext fun j => ((fu_31 262 rfl).2.1 j).trans (uF_a)) (funext fun j => ((fu_31 264 rfl).2.1 j).trans (uF_a)) (funext fun j => ((fu_31 265 rfl).2.1 j).trans (uF_a)) (funext fun j => ((fu_31 266 rfl).2.1 j).trans (uF_a)) (funext fun j => ((fu_31 267 rfl).2.1 j).trans (uF_a)) (funext fun j => ((fu_31 268 rfl).2.1 j).trans (uF_a)) (funext fun j => ((fu_31 269 rfl).2.1 j).trans (uF_a)) (funext fun j => ((fu_31 270 rfl).2.1 j).trans (uF_a)) (funext fun j => ((fu_31 271 rfl).2.1 j).trans (uF_a)) (funext fun j => ((fu_31 272 rfl).2.1 j).trans (uF_a)) (funext fun j => ((fu_31 273 rfl).2.1 j).trans (uF_a)) (funext fun j => ((fu_31 274 rfl).2.1 j).trans (uF_a)) (funext fun j => ((fu_31 260 rfl).2.2.1 j).trans (uF_l)) (funext fun j => ((fu_31 290 rfl).2.2.1 j).trans (uF_l)))⟩ dX12_entry_118
                  · refine lv_iconst (v := iv 0) hx hb dX12_entry_90 (by decide) ?_
                    refine lv_goto (tgt := 106) hx hb dX12_entry_91 (by decide) ?_
                    refine lv_iload_n hx hb dX12_entry_106 rfl (lv_at hl 2 rfl) ?_
                    refine sBi (sV (As := [.int (iv 0), .int (iv b)]) (rest := [.ref (G.2.2.1 + 262), .ref (G.2.2.1 + 231)]) (k := 231) Cx (s_X12_cell l G (uF S 231 6 0) (i := 0) (j := b) (by omega) (by omega)) (c_X12_529 Cx rfl rfl (rmk_ok (by omega) (by decide))) hW (by decide) rfl rfl rfl hl.1 rfl (Nat.le_of_ble_eq_true rfl) dX12_entry_107 ⟨Nat.le_of_ble_eq_true rfl, Nat.le_of_ble_eq_true rfl⟩) hL (fun qz u_39 H locs k_40 hW hL => ?_)
                    obtain ⟨eu_39, xu_39⟩ := k_40
                    rw [eu_39] at hW
                    have lk_41 : (uF S 231 6 0).1 231 6 = 0 := uF_on
                    refine sBv (sV (As := [.ref (G.2.2.1 + 262), .int (iv qz)]) (rest := []) (k := 231) Cx (s_X12_spell l G (uF S 231 6 0) (ka := 262) (po := qz) (Nka := 5280) (La := 6) i_13 ⟨rfl, by decide, by decide, by decide, rfl⟩ (by omega) (by omega) (by rw [show (uF S 231 6 0).2.1 262 = S.2.1 262 from (funext fun j => uF_a)]; exact hei.2.1.at (i := 0) (j := b) (by omega) (by omega) (by omega) (by omega)) (show (262 : Nat) ≠ 231 by decide) (show (262 : Nat) ≠ 236 by decide)) (c_X12_594 Cx rfl rfl (rmk_ok (by omega) (by decide))) hW (by decide) rfl rfl rfl hl.1 rfl (Nat.le_of_ble_eq_true rfl) dX12_entry_110 ⟨Nat.le_of_ble_eq_true rfl, Nat.le_of_ble_eq_true rfl⟩) hL (fun u_42 H locs k_43 hW hL => ?_)
                    obtain ⟨iu_42, fu_42, gu_42, xu_42⟩ := k_43
                    have F_44 := F_11.trans fu_42
                    have g_45 : FF S u_42 (fl [6]) := FF.trans g_12 (FF.to gu_42 (fl_sub (by decide)))
                    refine lv_aload_n hx hb dX12_entry_113 rfl (lv_at hl 0 rfl) ?_
                    refine lv_iload_n hx hb dX12_entry_114 rfl (lv_at hl 3 rfl) ?_
                    have q_46 : (-2147483648) ≤ u_42.1 231 6 ∧ u_42.1 231 6 ≤ 2147483647 := iu_42.fi 6
                    refine sBi (sV (As := [.int (iv cc)]) (rest := []) (k := 231) Cx (s_X12_letterAt l G u_42 (a := cc) iu_42 (by omega) (by omega)) (c_X12_686 Cx rfl rfl (rmk_ok (by omega) (by decide))) hW (by decide) rfl rfl rfl hl.1 rfl (Nat.le_of_ble_eq_true rfl) dX12_entry_115 ⟨Nat.le_of_ble_eq_true rfl, Nat.le_of_ble_eq_true rfl⟩) hL (fun r_49 u_47 H locs k_48 hW hL => ?_)
                    rw [k_48] at hW
                    exact sIret Cx hr hlk hW hL ⟨iu_42, F_44, g_45, (XI.sm (S := S) (u := u_42) hXI ((gu_42 46 rfl).trans (uF_ne (fun h => absurd h.2 (by decide)))) ((gu_42 47 rfl).trans (uF_ne (fun h => absurd h.2 (by decide)))) ((gu_42 48 rfl).trans (uF_ne (fun h => absurd h.2 (by decide)))) ((gu_42 58 rfl).trans (uF_ne (fun h => absurd h.2 (by decide)))) ((gu_42 59 rfl).trans (uF_ne (fun h => absurd h.2 (by decide)))) ((gu_42 60 rfl).trans (uF_ne (fun h => absurd h.2 (by decide)))) ((gu_42 61 rfl).trans (uF_ne (fun h => absurd h.2 (by decide)))) ((gu_42 62 rfl).trans (uF_ne (fun h => absurd h.2 (by decide)))) ((gu_42 63 rfl).trans (uF_ne (fun h => absurd h.2 (by decide)))) ((gu_42 65 rfl).trans (uF_ne (fun h => absurd h.2 (by decide)))) ((gu_42 68 rfl).trans (uF_ne (fun h => absurd h.2 (by decide)))) ((gu_42 69 rfl).trans (uF_ne (fun h => absurd h.2 (by decide)))) ((gu_42 70 rfl).trans (uF_ne (fun h => absurd h.2 (by decide)))) ((gu_42 71 rfl).trans (uF_ne (fun h => absurd h.2 (by decide)))) ((gu_42 72 rfl).trans (uF_ne (fun h => absurd h.2 (by decide)))) ((gu_42 78 rfl).trans (uF_ne (fun h => absurd h.2 (by decide)))) ((gu_42 79 rfl).trans (uF_ne (fun h => absurd h.2 (by decide)))) ((gu_42 84 rfl).trans (uF_ne (fun h => absurd h.2 (by decide)))) ((gu_42 86 rfl).trans (uF_ne (fun h => absurd h.2 (by decide)))) (funext fun j => ((fu_42 261 rfl).2.1 j).trans (uF_a)) (funext fun j => ((fu_42 262 rfl).2.1 j).trans (uF_a)) (funext fun j => ((fu_42 264 rfl).2.1 j).trans (uF_a)) (funext fun j => ((fu_42 265 rfl).2.1 j).trans (uF_a)) (funext fun j => ((fu_42 266 rfl).2.1 j).trans (uF_a)) (funext fun j => ((fu_42 267 rfl).2.1 j).trans (uF_a)) (funext fun j => ((fu_42 268 rfl).2.1 j).trans (uF_a)) (funext fun j => ((fu_42 269 rfl).2.1 j).trans (uF_a)) (funext fun j => ((fu_42 270 rfl).2.1 j).trans (uF_a)) (funext fun j => ((fu_42 271 rfl).2.1 j).trans (uF_a)) (funext fun j => ((fu_42 272 rfl).2.1 j).trans (uF_a)) (funext fun j => ((fu_42 273 rfl).2.1 j).trans (uF_a)) (funext fun j => ((fu_42 274 rfl).2.1 j).trans (uF_a)) (funext fun j => ((fu_42 260 rfl).2.2.1 j).trans (uF_l)) (funext fun j => ((fu_42 290 rfl).2.2.1 j).trans (uF_l)))⟩ dX12_entry_118
                · refine lv_aload_n hx hb dX12_entry_68 rfl (lv_at hl 0 rfl) ?_
                  refine lv_aload_n hx hb dX12_entry_69 rfl (lv_at hl 0 rfl) ?_
                  refine g_X12_109 Cx hW (k := 231) (by decide) rfl (v := .ref (G.2.2.1 + 264)) (rd_55 i_13) dX12_entry_70 ?_
                  refine lv_iconst (v := iv 0) hx hb dX12_entry_73 (by decide) ?_
                  have lk_50 : (uF S 231 6 0).1 231 6 = 0 := uF_on
                  refine sBv (sV (As := [.ref (G.2.2.1 + 264), .int (iv 0)]) (rest := []) (k := 231) Cx (s_X12_spell l G (uF S 231 6 0) (ka := 264) (po := 0) (Nka := 8) (La := 6) i_13 ⟨rfl, by decide, by decide, by decide, rfl⟩ (by omega) (by omega) (by rw [show (uF S 231 6 0).2.1 264 = S.2.1 264 from (funext fun j => uF_a)]; exact hei.2.1.2.2.1) (show (264 : Nat) ≠ 231 by decide) (show (264 : Nat) ≠ 236 by decide)) (c_X12_594 Cx rfl rfl (rmk_ok (by omega) (by decide))) hW (by decide) rfl rfl rfl hl.1 rfl (Nat.le_of_ble_eq_true rfl) dX12_entry_74 ⟨Nat.le_of_ble_eq_true rfl, Nat.le_of_ble_eq_true rfl⟩) hL (fun u_51 H locs k_52 hW hL => ?_)
                  obtain ⟨iu_51, fu_51, gu_51, xu_51⟩ := k_52
                  have F_53 := F_11.trans fu_51
                  have g_54 : FF S u_51 (fl [6]) := FF.trans g_12 (FF.to gu_51 (fl_sub (by decide)))
                  refine lv_goto (tgt := 113) hx hb dX12_entry_77 (by decide) ?_
                  refine lv_aload_n hx hb dX12_entry_113 rfl (lv_at hl 0 rfl) ?_
                  refine lv_iload_n hx hb dX12_entry_114 rfl (lv_at hl 3 rfl) ?_
                  have q_55 : (-2147483648) ≤ u_51.1 231 6 ∧ u_51.1 231 6 ≤ 2147483647 := iu_51.fi 6
                  refine sBi (sV (As := [.int (iv cc)]) (rest := []) (k := 231) Cx (s_X12_letterAt l G u_51 (a := cc) iu_51 (by omega) (by omega)) (c_X12_686 Cx rfl rfl (rmk_ok (by omega) (by decide))) hW (by decide) rfl rfl rfl hl.1 rfl (Nat.le_of_ble_eq_true rfl) dX12_entry_115 ⟨Nat.le_of_ble_eq_true rfl, Nat.le_of_ble_eq_true rfl⟩) hL (fun r_58 u_56 H locs k_57 hW hL => ?_)
                  rw [k_57] at hW
                  exact sIret Cx hr hlk hW hL ⟨iu_51, F_53, g_54, (XI.sm (S := S) (u := u_51) hXI ((gu_51 46 rfl).trans (uF_ne (fun h => absurd h.2 (by decide)))) ((gu_51 47 rfl).trans (uF_ne (fun h => absurd h.2 (by decide)))) ((gu_51 48 rfl).trans (uF_ne (fun h => absurd h.2 (by decide)))) ((gu_51 58 rfl).trans (uF_ne (fun h => absurd h.2 (by decide)))) ((gu_51 59 rfl).trans (uF_ne (fun h => absurd h.2 (by decide)))) ((gu_51 60 rfl).trans (uF_ne (fun h => absurd h.2 (by decide)))) ((gu_51 61 rfl).trans (uF_ne (fun h => absurd h.2 (by decide)))) ((gu_51 62 rfl).trans (uF_ne (fun h => absurd h.2 (by decide)))) ((gu_51 63 rfl).trans (uF_ne (fun h => absurd h.2 (by decide)))) ((gu_51 65 rfl).trans (uF_ne (fun h => absurd h.2 (by decide)))) ((gu_51 68 rfl).trans (uF_ne (fun h => absurd h.2 (by decide)))) ((gu_51 69 rfl).trans (uF_ne (fun h => absurd h.2 (by decide)))) ((gu_51 70 rfl).trans (uF_ne (fun h => absurd h.2 (by decide)))) ((gu_51 71 rfl).trans (uF_ne (fun h => absurd h.2 (by decide)))) ((gu_51 72 rfl).trans (uF_ne (fun h => absurd h.2 (by decide)))) ((gu_51 78 rfl).trans (uF_ne (fun h => absurd h.2 (by decide)))) ((gu_51 79 rfl).trans (uF_ne (fun h => absurd h.2 (by decide)))) ((gu_51 84 rfl).trans (uF_ne (fun h => absurd h.2 (by decide)))) ((gu_51 86 rfl).trans (uF_ne (fun h => absurd h.2 (by decide)))) (funext fun j => ((fu_51 261 rfl).2.1 j).trans (uF_a)) (funext fun j => ((fu_51 262 rfl).2.1 j).trans (uF_a)) (funext fun j => ((fu_51 264 rfl).2.1 j).trans (uF_a)) (funext fun j => ((fu_51 265 rfl).2.1 j).trans (uF_a)) (funext fun j => ((fu_51 266 rfl).2.1 j).trans (uF_a)) (funext fun j => ((fu_51 267 rfl).2.1 j).trans (uF_a)) (funext fun j => ((fu_51 268 rfl).2.1 j).trans (uF_a)) (funext fun j => ((fu_51 269 rfl).2.1 j).trans (uF_a)) (funext fun j => ((fu_51 270 rfl).2.1 j).trans (uF_a)) (funext fun j => ((fu_51 271 rfl).2.1 j).trans (uF_a)) (funext fun j => ((fu_51 272 rfl).2.1 j).trans (uF_a)) (funext fun j => ((fu_51 273 rfl).2.1 j).trans (uF_a)) (funext fun j => ((fu_51 274 rfl).2.1 j).trans (uF_a)) (funext fun j => ((fu_51 260 rfl).2.2.1 j).trans (uF_l)) (funext fun j => ((fu_51 290 rfl).2.2.1 j).trans (uF_l)))⟩ dX12_entry_118
              · refine lv_iload_n hx hb dX12_entry_51 rfl (lv_at hl 2 rfl) ?_
                refine r_if_eq (tgt := 57) hx hb ⟨(by omega), (by omega)⟩ dX12_entry_52 (by decide) (fun c_59 => ?_) (fun c_59 => ?_)
                · refine lv_aload_n hx hb dX12_entry_57 rfl (lv_at hl 0 rfl) ?_
                  refine lv_iconst (v := iv 0) hx hb dX12_entry_58 (by decide) ?_
                  refine p_X12_259 Cx hW hL (k := 231) (by decide) rfl dX12_entry_59 (fun H locs hW hL => ?_)
                  have F_60 : Fr S (uF S 231 6 0) (pl [231, 236]) := (Fr.rf : Fr S S (pl [231, 236])).F rfl
                  have g_61 : FF S (uF S 231 6 0) (fl [6]) := FF.F FF.rf rfl
                  have i_62 : dX G (uF S 231 6 0) := hI.F (i := 6) (show (-2147483648) ≤ 0 ∧ 0 ≤ 2147483647 from ⟨by omega, by omega⟩)
                  refine lv_iload_n hx hb dX12_entry_62 rfl (lv_at hl 1 rfl) ?_
                  refine lv_bipush (v := iv (-2)) hx hb dX12_entry_63 (by decide) ?_
                  refine r_icmp_ne (tgt := 80) hx hb ⟨(by omega), (by omega)⟩ ⟨(by omega), (by omega)⟩ dX12_entry_65 (by decide) (fun c_63 => ?_) (fun c_63 => ?_)
                  · refine lv_aload_n hx hb dX12_entry_80 rfl (lv_at hl 0 rfl) ?_
                    refine lv_aload_n hx hb dX12_entry_81 rfl (lv_at hl 0 rfl) ?_
                    refine g_X12_103 Cx hW (k := 231) (by decide) rfl (v := .ref (G.2.2.1 + 262)) (rd_53 i_62) dX12_entry_82 ?_
                    refine lv_aload_n hx hb dX12_entry_85 rfl (lv_at hl 0 rfl) ?_
                    refine lv_iload_n hx hb dX12_entry_86 rfl (lv_at hl 1 rfl) ?_
                    refine r_if_ne (tgt := 94) hx hb ⟨(by omega), (by omega)⟩ dX12_entry_87 (by decide) (fun c_64 => ?_) (fun c_64 => ?_)
                    · refine lv_iload_n hx hb dX12_entry_94 rfl (lv_at hl 1 rfl) ?_
                      refine lv_iconst (v := iv (-1)) hx hb dX12_entry_95 (by decide) ?_
                      refine r_icmp_ne (tgt := 103) hx hb ⟨(by omega), (by omega)⟩ ⟨(by omega), (by omega)⟩ dX12_entry_96 (by decide) (fun c_65 => ?_) (fun c_65 => ?_)
                      · refine lv_iload_n hx hb dX12_entry_103 rfl (lv_at hl 1 rfl) ?_
                        refine lv_iconst (v := iv 1) hx hb dX12_entry_104 (by decide) ?_
                        refine r_iadd hx hb dX12_entry_105 ?_
                        refine lv_iload_n hx hb dX12_entry_106 rfl (lv_at hl 2 rfl) ?_
                        refine sBi (sV (As := [.int (iv (a + 1)), .int (iv b)]) (rest := [.ref (G.2.2.1 + 262), .ref (G.2.2.1 + 231)]) (k := 231) Cx (s_X12_cell l G (uF S 231 6 0) (i := a + 1) (j := b) (by omega) (by omega)) (c_X12_529 Cx rfl rfl (rmk_ok (by omega) (by decide))) hW (by decide) rfl rfl rfl hl.1 rfl (Nat.le_of_ble_eq_true rfl) dX12_entry_107 ⟨Nat.le_of_ble_eq_true rfl, Nat.le_of_ble_eq_true rfl⟩) hL (fun qz u_66 H locs k_67 hW hL => ?_)
                        obtain ⟨eu_66, xu_66⟩ := k_67
                        rw [eu_66] at hW
                        have lk_68 : (uF S 231 6 0).1 231 6 = 0 := uF_on
                        refine sBv (sV (As := [.ref (G.2.2.1 + 262), .int (iv qz)]) (rest := []) (k := 231) Cx (s_X12_spell l G (uF S 231 6 0) (ka := 262) (po := qz) (Nka := 5280) (La := 6) i_62 ⟨rfl, by decide, by decide, by decide, rfl⟩ (by omega) (by omega) (by rw [show (uF S 231 6 0).2.1 262 = S.2.1 262 from (funext fun j => uF_a)]; exact hei.2.1.at (i := a + 1) (j := b) (by omega) (by omega) (by omega) (by omega)) (show (262 : Nat) ≠ 231 by decide) (show (262 : Nat) ≠ 236 by decide)) (c_X12_594 Cx rfl rfl (rmk_ok (by omega) (by decide))) hW (by decide) rfl rfl rfl hl.1 rfl (Nat.le_of_ble_eq_true rfl) dX12_entry_110 ⟨Nat.le_of_ble_eq_true rfl, Nat.le_of_ble_eq_true rfl⟩) hL (fun u_69 H locs k_70 hW hL => ?_)
                        obtain ⟨iu_69, fu_69, gu_69, xu_69⟩ := k_70
                        have F_71 := F_60.trans fu_69
                        have g_72 : FF S u_69 (fl [6]) := FF.trans g_61 (FF.to gu_69 (fl_sub (by decide)))
                        refine lv_aload_n hx hb dX12_entry_113 rfl (lv_at hl 0 rfl) ?_
                        refine lv_iload_n hx hb dX12_entry_114 rfl (lv_at hl 3 rfl) ?_
                        have q_73 : (-2147483648) ≤ u_69.1 231 6 ∧ u_69.1 231 6 ≤ 2147483647 := iu_69.fi 6
                        refine sBi (sV (As := [.int (iv cc)]) (rest := []) (k := 231) Cx (s_X12_letterAt l G u_69 (a := cc) iu_69 (by omega) (by omega)) (c_X12_686 Cx rfl rfl (rmk_ok (by omega) (by decide))) hW (by decide) rfl rfl rfl hl.1 rfl (Nat.le_of_ble_eq_true rfl) dX12_entry_115 ⟨Nat.le_of_ble_eq_true rfl, Nat.le_of_ble_eq_true rfl⟩) hL (fun r_76 u_74 H locs k_75 hW hL => ?_)
                        rw [k_75] at hW
                        exact sIret Cx hr hlk hW hL ⟨iu_69, F_71, g_72, (XI.sm (S := S) (u := u_69) hXI ((gu_69 46 rfl).trans (uF_ne (fun h => absurd h.2 (by decide)))) ((gu_69 47 rfl).trans (uF_ne (fun h => absurd h.2 (by decide)))) ((gu_69 48 rfl).trans (uF_ne (fun h => absurd h.2 (by decide)))) ((gu_69 58 rfl).trans (uF_ne (fun h => absurd h.2 (by decide)))) ((gu_69 59 rfl).trans (uF_ne (fun h => absurd h.2 (by decide)))) ((gu_69 60 rfl).trans (uF_ne (fun h => absurd h.2 (by decide)))) ((gu_69 61 rfl).trans (uF_ne (fun h => absurd h.2 (by decide)))) ((gu_69 62 rfl).trans (uF_ne (fun h => absurd h.2 (by decide)))) ((gu_69 63 rfl).trans (uF_ne (fun h => absurd h.2 (by decide)))) ((gu_69 65 rfl).trans (uF_ne (fun h => absurd h.2 (by decide)))) ((gu_69 68 rfl).trans (uF_ne (fun h => absurd h.2 (by decide)))) ((gu_69 69 rfl).trans (uF_ne (fun h => absurd h.2 (by decide)))) ((gu_69 70 rfl).trans (uF_ne (fun h => absurd h.2 (by decide)))) ((gu_69 71 rfl).trans (uF_ne (fun h => absurd h.2 (by decide)))) ((gu_69 72 rfl).trans (uF_ne (fun h => absurd h.2 (by decide)))) ((gu_69 78 rfl).trans (uF_ne (fun h => absurd h.2 (by decide)))) ((gu_69 79 rfl).trans (uF_ne (fun h => absurd h.2 (by decide)))) ((gu_69 84 rfl).trans (uF_ne (fun h => absurd h.2 (by decide)))) ((gu_69 86 rfl).trans (uF_ne (fun h => absurd h.2 (by decide)))) (funext fun j => ((fu_69 261 rfl).2.1 j).trans (uF_a)) (funext fun j => ((fu_69 262 rfl).2.1 j).trans (uF_a)) (funext fun j => ((fu_69 264 rfl).2.1 j).trans (uF_a)) (funext fun j => ((fu_69 265 rfl).2.1 j).trans (uF_a)) (funext fun j => ((fu_69 266 rfl).2.1 j).trans (uF_a)) (funext fun j => ((fu_69 267 rfl).2.1 j).trans (uF_a)) (funext fun j => ((fu_69 268 rfl).2.1 j).trans (uF_a)) (funext fun j => ((fu_69 269 rfl).2.1 j).trans (uF_a)) (funext fun j => ((fu_69 270 rfl).2.1 j).trans (uF_a)) (funext fun j => ((fu_69 271 rfl).2.1 j).trans (uF_a)) (funext fun j => ((fu_69 272 rfl).2.1 j).trans (uF_a)) (funext fun j => ((fu_69 273 rfl).2.1 j).trans (uF_a)) (funext fun j => ((fu_69 274 rfl).2.1 j).trans (uF_a)) (funext fun j => ((fu_69 260 rfl).2.2.1 j).trans (uF_l)) (funext fun j => ((fu_69 290 rfl).2.2.1 j).trans (uF_l)))⟩ dX12_entry_118
                      · refine lv_iconst (v := iv 1) hx hb dX12_entry_99 (by decide) ?_
                        refine lv_goto (tgt := 106) hx hb dX12_entry_100 (by decide) ?_
                        refine lv_iload_n hx hb dX12_entry_106 rfl (lv_at hl 2 rfl) ?_
                        refine sBi (sV (As := [.int (iv 1), .int (iv b)]) (rest := [.ref (G.2.2.1 + 262), .ref (G.2.2.1 + 231)]) (k := 231) Cx (s_X12_cell l G (uF S 231 6 0) (i := 1) (j := b) (by omega) (by omega)) (c_X12_529 Cx rfl rfl (rmk_ok (by omega) (by decide))) hW (by decide) rfl rfl rfl hl.1 rfl (Nat.le_of_ble_eq_true rfl) dX12_entry_107 ⟨Nat.le_of_ble_eq_true rfl, Nat.le_of_ble_eq_true rfl⟩) hL (fun qz u_77 H locs k_78 hW hL => ?_)
                        obtain ⟨eu_77, xu_77⟩ := k_78
                        rw [eu_77] at hW
                        have lk_79 : (uF S 231 6 0).1 231 6 = 0 := uF_on
                        refine sBv (sV (As := [.ref (G.2.2.1 + 262), .int (iv qz)]) (rest := []) (k := 231) Cx (s_X12_spell l G (uF S 231 6 0) (ka := 262) (po := qz) (Nka := 5280) (La := 6) i_62 ⟨rfl, by decide, by decide, by decide, rfl⟩ (by omega) (by omega) (by rw [show (uF S 231 6 0).2.1 262 = S.2.1 262 from (funext fun j => uF_a)]; exact hei.2.1.at (i := 1) (j := b) (by omega) (by omega) (by omega) (by omega)) (show (262 : Nat) ≠ 231 by decide) (show (262 : Nat) ≠ 236 by decide)) (c_X12_594 Cx rfl rfl (rmk_ok (by omega) (by decide))) hW (by decide) rfl rfl rfl hl.1 rfl (Nat.le_of_ble_eq_true rfl) dX12_entry_110 ⟨Nat.le_of_ble_eq_true rfl, Nat.le_of_ble_eq_true rfl⟩) hL (fun u_80 H locs k_81 hW hL => ?_)
                        obtain ⟨iu_80, fu_80, gu_80, xu_80⟩ := k_81
                        have F_82 := F_60.trans fu_80
                        have g_83 : FF S u_80 (fl [6]) := FF.trans g_61 (FF.to gu_80 (fl_sub (by decide)))
                        refine lv_aload_n hx hb dX12_entry_113 rfl (lv_at hl 0 rfl) ?_
                        refine lv_iload_n hx hb dX12_entry_114 rfl (lv_at hl 3 rfl) ?_
                        have q_84 : (-2147483648) ≤ u_80.1 231 6 ∧ u_80.1 231 6 ≤ 2147483647 := iu_80.fi 6
                        refine sBi (sV (As := [.int (iv cc)]) (rest := []) (k := 231) Cx (s_X12_letterAt l G u_80 (a := cc) iu_80 (by omega) (by omega)) (c_X12_686 Cx rfl rfl (rmk_ok (by omega) (by decide))) hW (by decide) rfl rfl rfl hl.1 rfl (Nat.le_of_ble_eq_true rfl) dX12_entry_115 ⟨Nat.le_of_ble_eq_true rfl, Nat.le_of_ble_eq_true rfl⟩) hL (fun r_87 u_85 H locs k_86 hW hL => ?_)
                        rw [k_86] at hW
                        exact sIret Cx hr hlk hW hL ⟨iu_80, F_82, g_83, (XI.sm (S := S) (u := u_80) hXI ((gu_80 46 rfl).trans (uF_ne (fun h => absurd h.2 (by decide)))) ((gu_80 47 rfl).trans (uF_ne (fun h => absurd h.2 (by decide)))) ((gu_80 48 rfl).trans (uF_ne (fun h => absurd h.2 (by decide)))) ((gu_80 58 rfl).trans (uF_ne (fun h => absurd h.2 (by decide)))) ((gu_80 59 rfl).trans (uF_ne (fun h => absurd h.2 (by decide)))) ((gu_80 60 rfl).trans (uF_ne (fun h => absurd h.2 (by decide)))) ((gu_80 61 rfl).trans (uF_ne (fun h => absurd h.2 (by decide)))) ((gu_80 62 rfl).trans (uF_ne (fun h => absurd h.2 (by decide)))) ((gu_80 63 rfl).trans (uF_ne (fun h => absurd h.2 (by decide)))) ((gu_80 65 rfl).trans (uF_ne (fun h => absurd h.2 (by decide)))) ((gu_80 68 rfl).trans (uF_ne (fun h => absurd h.2 (by decide)))) ((gu_80 69 rfl).trans (uF_ne (fun h => absurd h.2 (by decide)))) ((gu_80 70 rfl).trans (uF_ne (fun h => absurd h.2 (by decide)))) ((gu_80 71 rfl).trans (uF_ne (fun h => absurd h.2 (by decide)))) ((gu_80 72 rfl).trans (uF_ne (fun h => absurd h.2 (by decide)))) ((gu_80 78 rfl).trans (uF_ne (fun h => absurd h.2 (by decide)))) ((gu_80 79 rfl).trans (uF_ne (fun h => absurd h.2 (by decide)))) ((gu_80 84 rfl).trans (uF_ne (fun h => absurd h.2 (by decide)))) ((gu_80 86 rfl).trans (uF_ne (fun h => absurd h.2 (by decide)))) (funext fun j => ((fu_80 261 rfl).2.1 j).trans (uF_a)) (funext fun j => ((fu_80 262 rfl).2.1 j).trans (uF_a)) (funext fun j => ((fu_80 264 rfl).2.1 j).trans (uF_a)) (funext fun j => ((fu_80 265 rfl).2.1 j).trans (uF_a)) (funext fun j => ((fu_80 266 rfl).2.1 j).trans (uF_a)) (funext fun j => ((fu_80 267 rfl).2.1 j).trans (uF_a)) (funext fun j => ((fu_80 268 rfl).2.1 j).trans (uF_a)) (funext fun j => ((fu_80 269 rfl).2.1 j).trans (uF_a)) (funext fun j => ((fu_80 270 rfl).2.1 j).trans (uF_a)) (funext fun j => ((fu_80 271 rfl).2.1 j).trans (uF_a)) (funext fun j => ((fu_80 272 rfl).2.1 j).trans (uF_a)) (funext fun j => ((fu_80 273 rfl).2.1 j).trans (uF_a)) (funext fun j => ((fu_80 274 rfl).2.1 j).trans (uF_a)) (funext fun j => ((fu_80 260 rfl).2.2.1 j).trans (uF_l)) (funext fun j => ((fu_80 290 rfl).2.2.1 j).trans (uF_l)))⟩ dX12_entry_118
                    · refine lv_iconst (v := iv 0) hx hb dX12_entry_90 (by decide) ?_
                      refine lv_goto (tgt := 106) hx hb dX12_entry_91 (by decide) ?_
                      refine lv_iload_n hx hb dX12_entry_106 rfl (lv_at hl 2 rfl) ?_
                      refine sBi (sV (As := [.int (iv 0), .int (iv b)]) (rest := [.ref (G.2.2.1 + 262), .ref (G.2.2.1 + 231)]) (k := 231) Cx (s_X12_cell l G (uF S 231 6 0) (i := 0) (j := b) (by omega) (by omega)) (c_X12_529 Cx rfl rfl (rmk_ok (by omega) (by decide))) hW (by decide) rfl rfl rfl hl.1 rfl (Nat.le_of_ble_eq_true rfl) dX12_entry_107 ⟨Nat.le_of_ble_eq_true rfl, Nat.le_of_ble_eq_true rfl⟩) hL (fun qz u_88 H locs k_89 hW hL => ?_)
                      obtain ⟨eu_88, xu_88⟩ := k_89
                      rw [eu_88] at hW
                      have lk_90 : (uF S 231 6 0).1 231 6 = 0 := uF_on
                      refine sBv (sV (As := [.ref (G.2.2.1 + 262), .int (iv qz)]) (rest := []) (k := 231) Cx (s_X12_spell l G (uF S 231 6 0) (ka := 262) (po := qz) (Nka := 5280) (La := 6) i_62 ⟨rfl, by decide, by decide, by decide, rfl⟩ (by omega) (by omega) (by rw [show (uF S 231 6 0).2.1 262 = S.2.1 262 from (funext fun j => uF_a)]; exact hei.2.1.at (i := 0) (j := b) (by omega) (by omega) (by omega) (by omega)) (show (262 : Nat) ≠ 231 by decide) (show (262 : Nat) ≠ 236 by decide)) (c_X12_594 Cx rfl rfl (rmk_ok (by omega) (by decide))) hW (by decide) rfl rfl rfl hl.1 rfl (Nat.le_of_ble_eq_true rfl) dX12_entry_110 ⟨Nat.le_of_ble_eq_true rfl, Nat.le_of_ble_eq_true rfl⟩) hL (fun u_91 H locs k_92 hW hL => ?_)
                      obtain ⟨iu_91, fu_91, gu_91, xu_91⟩ := k_92
                      have F_93 := F_60.trans fu_91
                      have g_94 : FF S u_91 (fl [6]) := FF.trans g_61 (FF.to gu_91 (fl_sub (by decide)))
                      refine lv_aload_n hx hb dX12_entry_113 rfl (lv_at hl 0 rfl) ?_
                      refine lv_iload_n hx hb dX12_entry_114 rfl (lv_at hl 3 rfl) ?_
                      have q_95 : (-2147483648) ≤ u_91.1 231 6 ∧ u_91.1 231 6 ≤ 2147483647 := iu_91.fi 6
                      refine sBi (sV (As := [.int (iv cc)]) (rest := []) (k := 231) Cx (s_X12_letterAt l G u_91 (a := cc) iu_91 (by omega) (by omega)) (c_X12_686 Cx rfl rfl (rmk_ok (by omega) (by decide))) hW (by decide) rfl rfl rfl hl.1 rfl (Nat.le_of_ble_eq_true rfl) dX12_entry_115 ⟨Nat.le_of_ble_eq_true rfl, Nat.le_of_ble_eq_true rfl⟩) hL (fun r_98 u_96 H locs k_97 hW hL => ?_)
                      rw [k_97] at hW
                      exact sIret Cx hr hlk hW hL ⟨iu_91, F_93, g_94, (XI.sm (S := S) (u := u_91) hXI ((gu_91 46 rfl).trans (uF_ne (fun h => absurd h.2 (by decide)))) ((gu_91 47 rfl).trans (uF_ne (fun h => absurd h.2 (by decide)))) ((gu_91 48 rfl).trans (uF_ne (fun h => absurd h.2 (by decide)))) ((gu_91 58 rfl).trans (uF_ne (fun h => absurd h.2 (by decide)))) ((gu_91 59 rfl).trans (uF_ne (fun h => absurd h.2 (by decide)))) ((gu_91 60 rfl).trans (uF_ne (fun h => absurd h.2 (by decide)))) ((gu_91 61 rfl).trans (uF_ne (fun h => absurd h.2 (by decide)))) ((gu_91 62 rfl).trans (uF_ne (fun h => absurd h.2 (by decide)))) ((gu_91 63 rfl).trans (uF_ne (fun h => absurd h.2 (by decide)))) ((gu_91 65 rfl).trans (uF_ne (fun h => absurd h.2 (by decide)))) ((gu_91 68 rfl).trans (uF_ne (fun h => absurd h.2 (by decide)))) ((gu_91 69 rfl).trans (uF_ne (fun h => absurd h.2 (by decide)))) ((gu_91 70 rfl).trans (uF_ne (fun h => absurd h.2 (by decide)))) ((gu_91 71 rfl).trans (uF_ne (fun h => absurd h.2 (by decide)))) ((gu_91 72 rfl).trans (uF_ne (fun h => absurd h.2 (by decide)))) ((gu_91 78 rfl).trans (uF_ne (fun h => absurd h.2 (by decide)))) ((gu_91 79 rfl).trans (uF_ne (fun h => absurd h.2 (by decide)))) ((gu_91 84 rfl).trans (uF_ne (fun h => absurd h.2 (by decide)))) ((gu_91 86 rfl).trans (uF_ne (fun h => absurd h.2 (by decide)))) (funext fun j => ((fu_91 261 rfl).2.1 j).trans (uF_a)) (funext fun j => ((fu_91 262 rfl).2.1 j).trans (uF_a)) (funext fun j => ((fu_91 264 rfl).2.1 j).trans (uF_a)) (funext fun j => ((fu_91 265 rfl).2.1 j).trans (uF_a)) (funext fun j => ((fu_91 266 rfl).2.1 j).trans (uF_a)) (funext fun j => ((fu_91 267 rfl).2.1 j).trans (uF_a)) (funext fun j => ((fu_91 268 rfl).2.1 j).trans (uF_a)) (funext fun j => ((fu_91 269 rfl).2.1 j).trans (uF_a)) (funext fun j => ((fu_91 270 rfl).2.1 j).trans (uF_a)) (funext fun j => ((fu_91 271 rfl).2.1 j).trans (uF_a)) (funext fun j => ((fu_91 272 rfl).2.1 j).trans (uF_a)) (funext fun j => ((fu_91 273 rfl).2.1 j).trans (uF_a)) (funext fun j => ((fu_91 274 rfl).2.1 j).trans (uF_a)) (funext fun j => ((fu_91 260 rfl).2.2.1 j).trans (uF_l)) (funext fun j => ((fu_91 290 rfl).2.2.1 j).trans (uF_l)))⟩ dX12_entry_118
                  · refine lv_aload_n hx hb dX12_entry_68 rfl (lv_at hl 0 rfl) ?_
                    refine lv_aload_n hx hb dX12_entry_69 rfl (lv_at hl 0 rfl) ?_
                    refine g_X12_109 Cx hW (k := 231) (by decide) rfl (v := .ref (G.2.2.1 + 264)) (rd_55 i_62) dX12_entry_70 ?_
                    refine lv_iconst (v := iv 0) hx hb dX12_entry_73 (by decide) ?_
                    have lk_99 : (uF S 231 6 0).1 231 6 = 0 := uF_on
                    refine sBv (sV (As := [.ref (G.2.2.1 + 264), .int (iv 0)]) (rest := []) (k := 231) Cx (s_X12_spell l G (uF S 231 6 0) (ka := 264) (po := 0) (Nka := 8) (La := 6) i_62 ⟨rfl, by decide, by decide, by decide, rfl⟩ (by omega) (by omega) (by rw [show (uF S 231 6 0).2.1 264 = S.2.1 264 from (funext fun j => uF_a)]; exact hei.2.1.2.2.1) (show (264 : Nat) ≠ 231 by decide) (show (264 : Nat) ≠ 236 by decide)) (c_X12_594 Cx rfl rfl (rmk_ok (by omega) (by decide))) hW (by decide) rfl rfl rfl hl.1 rfl (Nat.le_of_ble_eq_true rfl) dX12_entry_74 ⟨Nat.le_of_ble_eq_true rfl, Nat.le_of_ble_eq_true rfl⟩) hL (fun u_100 H locs k_101 hW hL => ?_)
                    obtain ⟨iu_100, fu_100, gu_100, xu_100⟩ := k_101
                    have F_102 := F_60.trans fu_100
                    have g_103 : FF S u_100 (fl [6]) := FF.trans g_61 (FF.to gu_100 (fl_sub (by decide)))
                    refine lv_goto (tgt := 113) hx hb dX12_entry_77 (by decide) ?_
                    refine lv_aload_n hx hb dX12_entry_113 rfl (lv_at hl 0 rfl) ?_
                    refine lv_iload_n hx hb dX12_entry_114 rfl (lv_at hl 3 rfl) ?_
                    have q_104 : (-2147483648) ≤ u_100.1 231 6 ∧ u_100.1 231 6 ≤ 2147483647 := iu_100.fi 6
                    refine sBi (sV (As := [.int (iv cc)]) (rest := []) (k := 231) Cx (s_X12_letterAt l G u_100 (a := cc) iu_100 (by omega) (by omega)) (c_X12_686 Cx rfl rfl (rmk_ok (by omega) (by decide))) hW (by decide) rfl rfl rfl hl.1 rfl (Nat.le_of_ble_eq_true rfl) dX12_entry_115 ⟨Nat.le_of_ble_eq_true rfl, Nat.le_of_ble_eq_true rfl⟩) hL (fun r_107 u_105 H locs k_106 hW hL => ?_)
                    rw [k_106] at hW
                    exact sIret Cx hr hlk hW hL ⟨iu_100, F_102, g_103, (XI.sm (S := S) (u := u_100) hXI ((gu_100 46 rfl).trans (uF_ne (fun h => absurd h.2 (by decide)))) ((gu_100 47 rfl).trans (uF_ne (fun h => absurd h.2 (by decide)))) ((gu_100 48 rfl).trans (uF_ne (fun h => absurd h.2 (by decide)))) ((gu_100 58 rfl).trans (uF_ne (fun h => absurd h.2 (by decide)))) ((gu_100 59 rfl).trans (uF_ne (fun h => absurd h.2 (by decide)))) ((gu_100 60 rfl).trans (uF_ne (fun h => absurd h.2 (by decide)))) ((gu_100 61 rfl).trans (uF_ne (fun h => absurd h.2 (by decide)))) ((gu_100 62 rfl).trans (uF_ne (fun h => absurd h.2 (by decide)))) ((gu_100 63 rfl).trans (uF_ne (fun h => absurd h.2 (by decide)))) ((gu_100 65 rfl).trans (uF_ne (fun h => absurd h.2 (by decide)))) ((gu_100 68 rfl).trans (uF_ne (fun h => absurd h.2 (by decide)))) ((gu_100 69 rfl).trans (uF_ne (fun h => absurd h.2 (by decide)))) ((gu_100 70 rfl).trans (uF_ne (fun h => absurd h.2 (by decide)))) ((gu_100 71 rfl).trans (uF_ne (fun h => absurd h.2 (by decide)))) ((gu_100 72 rfl).trans (uF_ne (fun h => absurd h.2 (by decide)))) ((gu_100 78 rfl).trans (uF_ne (fun h => absurd h.2 (by decide)))) ((gu_100 79 rfl).trans (uF_ne (fun h => absurd h.2 (by decide)))) ((gu_100 84 rfl).trans (uF_ne (fun h => absurd h.2 (by decide)))) ((gu_100 86 rfl).trans (uF_ne (fun h => absurd h.2 (by decide)))) (funext fun j => ((fu_100 261 rfl).2.1 j).trans (uF_a)) (funext fun j => ((fu_100 262 rfl).2.1 j).trans (uF_a)) (funext fun j => ((fu_100 264 rfl).2.1 j).trans (uF_a)) (funext fun j => ((fu_100 265 rfl).2.1 j).trans (uF_a)) (funext fun j => ((fu_100 266 rfl).2.1 j).trans (uF_a)) (funext fun j => ((fu_100 267 rfl).2.1 j).trans (uF_a)) (funext fun j => ((fu_100 268 rfl).2.1 j).trans (uF_a)) (funext fun j => ((fu_100 269 rfl).2.1 j).trans (uF_a)) (funext fun j => ((fu_100 270 rfl).2.1 j).trans (uF_a)) (funext fun j => ((fu_100 271 rfl).2.1 j).trans (uF_a)) (funext fun j => ((fu_100 272 rfl).2.1 j).trans (uF_a)) (funext fun j => ((fu_100 273 rfl).2.1 j).trans (uF_a)) (funext fun j => ((fu_100 274 rfl).2.1 j).trans (uF_a)) (funext fun j => ((fu_100 260 rfl).2.2.1 j).trans (uF_l)) (funext fun j => ((fu_100 290 rfl).2.2.1 j).trans (uF_l)))⟩ dX12_entry_118
                · refine lv_iconst (v := iv (-1)) hx hb dX12_entry_55 (by decide) ?_
                  exact sIret Cx hr hlk hW hL ⟨hI, (Fr.rf : Fr S S (pl [231, 236])), FF.rf, hXI⟩ dX12_entry_56
            · refine lv_aload_n hx hb dX12_entry_38 rfl (lv_at hl 0 rfl) ?_
              have q_108 : 0 ≤ S.1 231 60 ∧ S.1 231 60 ≤ 1 := hI.fi 60
              refine g_X12_535 Cx hW (k := 231) (by decide) rfl (v := S.1 231 60) rfl dX12_entry_39 ?_
              refine r_if_eq (tgt := 55) hx hb ⟨(by omega), (by omega)⟩ dX12_entry_42 (by decide) (fun c_109 => ?_) (fun c_109 => ?_)
              · refine lv_iconst (v := iv (-1)) hx hb dX12_entry_55 (by decide) ?_
                exact sIret Cx hr hlk hW hL ⟨hI, (Fr.rf : Fr S S (pl [231, 236])), FF.rf, hXI⟩ dX12_entry_56
              · refine lv_iload_n hx hb dX12_entry_45 rfl (lv_at hl 1 rfl) ?_
                refine lv_bipush (v := iv (-2)) hx hb dX12_entry_46 (by decide) ?_
                refine r_icmp_ne (tgt := 57) hx hb ⟨(by omega), (by omega)⟩ ⟨(by omega), (by omega)⟩ dX12_entry_48 (by decide) (fun c_110 => ?_) (fun c_110 => ?_)
                · refine lv_aload_n hx hb dX12_entry_57 rfl (lv_at hl 0 rfl) ?_
                  refine lv_iconst (v := iv 0) hx hb dX12_entry_58 (by decide) ?_
                  refine p_X12_259 Cx hW hL (k := 231) (by decide) rfl dX12_entry_59 (fun H locs hW hL => ?_)
                  have F_111 : Fr S (uF S 231 6 0) (pl [231, 236]) := (Fr.rf : Fr S S (pl [231, 236])).F rfl
                  have g_112 : FF S (uF S 231 6 0) (fl [6]) := FF.F FF.rf rfl
                  have i_113 : dX G (uF S 231 6 0) := hI.F (i := 6) (show (-2147483648) ≤ 0 ∧ 0 ≤ 2147483647 from ⟨by omega, by omega⟩)
                  refine lv_iload_n hx hb dX12_entry_62 rfl (lv_at hl 1 rfl) ?_
                  refine lv_bipush (v := iv (-2)) hx hb dX12_entry_63 (by decide) ?_
                  refine r_icmp_ne (tgt := 80) hx hb ⟨(by omega), (by omega)⟩ ⟨(by omega), (by omega)⟩ dX12_entry_65 (by decide) (fun c_114 => ?_) (fun c_114 => ?_)
                  · refine lv_aload_n hx hb dX12_entry_80 rfl (lv_at hl 0 rfl) ?_
                    refine lv_aload_n hx hb dX12_entry_81 rfl (lv_at hl 0 rfl) ?_
                    refine g_X12_103 Cx hW (k := 231) (by decide) rfl (v := .ref (G.2.2.1 + 262)) (rd_53 i_113) dX12_entry_82 ?_
                    refine lv_aload_n hx hb dX12_entry_85 rfl (lv_at hl 0 rfl) ?_
                    refine lv_iload_n hx hb dX12_entry_86 rfl (lv_at hl 1 rfl) ?_
                    refine r_if_ne (tgt := 94) hx hb ⟨(by omega), (by omega)⟩ dX12_entry_87 (by decide) (fun c_115 => ?_) (fun c_115 => ?_)
                    · refine lv_iload_n hx hb dX12_entry_94 rfl (lv_at hl 1 rfl) ?_
                      refine lv_iconst (v := iv (-1)) hx hb dX12_entry_95 (by decide) ?_
                      refine r_icmp_ne (tgt := 103) hx hb ⟨(by omega), (by omega)⟩ ⟨(by omega), (by omega)⟩ dX12_entry_96 (by decide) (fun c_116 => ?_) (fun c_116 => ?_)
                      · refine lv_iload_n hx hb dX12_entry_103 rfl (lv_at hl 1 rfl) ?_
                        refine lv_iconst (v := iv 1) hx hb dX12_entry_104 (by decide) ?_
                        refine r_iadd hx hb dX12_entry_105 ?_
                        refine lv_iload_n hx hb dX12_entry_106 rfl (lv_at hl 2 rfl) ?_
                        refine sBi (sV (As := [.int (iv (a + 1)), .int (iv b)]) (rest := [.ref (G.2.2.1 + 262), .ref (G.2.2.1 + 231)]) (k := 231) Cx (s_X12_cell l G (uF S 231 6 0) (i := a + 1) (j := b) (by omega) (by omega)) (c_X12_529 Cx rfl rfl (rmk_ok (by omega) (by decide))) hW (by decide) rfl rfl rfl hl.1 rfl (Nat.le_of_ble_eq_true rfl) dX12_entry_107 ⟨Nat.le_of_ble_eq_true rfl, Nat.le_of_ble_eq_true rfl⟩) hL (fun qz u_117 H locs k_118 hW hL => ?_)
                        obtain ⟨eu_117, xu_117⟩ := k_118
                        rw [eu_117] at hW
                        have lk_119 : (uF S 231 6 0).1 231 6 = 0 := uF_on
                        refine sBv (sV (As := [.ref (G.2.2.1 + 262), .int (iv qz)]) (rest := []) (k := 231) Cx (s_X12_spell l G (uF S 231 6 0) (ka := 262) (po := qz) (Nka := 5280) (La := 6) i_113 ⟨rfl, by decide, by decide, by decide, rfl⟩ (by omega) (by omega) (by rw [show (uF S 231 6 0).2.1 262 = S.2.1 262 from (funext fun j => uF_a)]; exact hei.2.1.at (i := a + 1) (j := b) (by omega) (by omega) (by omega) (by omega)) (show (262 : Nat) ≠ 231 by decide) (show (262 : Nat) ≠ 236 by decide)) (c_X12_594 Cx rfl rfl (rmk_ok (by omega) (by decide))) hW (by decide) rfl rfl rfl hl.1 rfl (Nat.le_of_ble_eq_true rfl) dX12_entry_110 ⟨Nat.le_of_ble_eq_true rfl, Nat.le_of_ble_eq_true rfl⟩) hL (fun u_120 H locs k_121 hW hL => ?_)
                        obtain ⟨iu_120, fu_120, gu_120, xu_120⟩ := k_121
                        have F_122 := F_111.trans fu_120
                        have g_123 : FF S u_120 (fl [6]) := FF.trans g_112 (FF.to gu_120 (fl_sub (by decide)))
                        refine lv_aload_n hx hb dX12_entry_113 rfl (lv_at hl 0 rfl) ?_
                        refine lv_iload_n hx hb dX12_entry_114 rfl (lv_at hl 3 rfl) ?_
                        have q_124 : (-2147483648) ≤ u_120.1 231 6 ∧ u_120.1 231 6 ≤ 2147483647 := iu_120.fi 6
                        refine sBi (sV (As := [.int (iv cc)]) (rest := []) (k := 231) Cx (s_X12_letterAt l G u_120 (a := cc) iu_120 (by omega) (by omega)) (c_X12_686 Cx rfl rfl (rmk_ok (by omega) (by decide))) hW (by decide) rfl rfl rfl hl.1 rfl (Nat.le_of_ble_eq_true rfl) dX12_entry_115 ⟨Nat.le_of_ble_eq_true rfl, Nat.le_of_ble_eq_true rfl⟩) hL (fun r_127 u_125 H locs k_126 hW hL => ?_)
                        rw [k_126] at hW
                        exact sIret Cx hr hlk hW hL ⟨iu_120, F_122, g_123, (XI.sm (S := S) (u := u_120) hXI ((gu_120 46 rfl).trans (uF_ne (fun h => absurd h.2 (by decide)))) ((gu_120 47 rfl).trans (uF_ne (fun h => absurd h.2 (by decide)))) ((gu_120 48 rfl).trans (uF_ne (fun h => absurd h.2 (by decide)))) ((gu_120 58 rfl).trans (uF_ne (fun h => absurd h.2 (by decide)))) ((gu_120 59 rfl).trans (uF_ne (fun h => absurd h.2 (by decide)))) ((gu_120 60 rfl).trans (uF_ne (fun h => absurd h.2 (by decide)))) ((gu_120 61 rfl).trans (uF_ne (fun h => absurd h.2 (by decide)))) ((gu_120 62 rfl).trans (uF_ne (fun h => absurd h.2 (by decide)))) ((gu_120 63 rfl).trans (uF_ne (fun h => absurd h.2 (by decide)))) ((gu_120 65 rfl).trans (uF_ne (fun h => absurd h.2 (by decide)))) ((gu_120 68 rfl).trans (uF_ne (fun h => absurd h.2 (by decide)))) ((gu_120 69 rfl).trans (uF_ne (fun h => absurd h.2 (by decide)))) ((gu_120 70 rfl).trans (uF_ne (fun h => absurd h.2 (by decide)))) ((gu_120 71 rfl).trans (uF_ne (fun h => absurd h.2 (by decide)))) ((gu_120 72 rfl).trans (uF_ne (fun h => absurd h.2 (by decide)))) ((gu_120 78 rfl).trans (uF_ne (fun h => absurd h.2 (by decide)))) ((gu_120 79 rfl).trans (uF_ne (fun h => absurd h.2 (by decide)))) ((gu_120 84 rfl).trans (uF_ne (fun h => absurd h.2 (by decide)))) ((gu_120 86 rfl).trans (uF_ne (fun h => absurd h.2 (by decide)))) (funext fun j => ((fu_120 261 rfl).2.1 j).trans (uF_a)) (funext fun j => ((fu_120 262 rfl).2.1 j).trans (uF_a)) (funext fun j => ((fu_120 264 rfl).2.1 j).trans (uF_a)) (funext fun j => ((fu_120 265 rfl).2.1 j).trans (uF_a)) (funext fun j => ((fu_120 266 rfl).2.1 j).trans (uF_a)) (funext fun j => ((fu_120 267 rfl).2.1 j).trans (uF_a)) (funext fun j => ((fu_120 268 rfl).2.1 j).trans (uF_a)) (funext fun j => ((fu_120 269 rfl).2.1 j).trans (uF_a)) (funext fun j => ((fu_120 270 rfl).2.1 j).trans (uF_a)) (funext fun j => ((fu_120 271 rfl).2.1 j).trans (uF_a)) (funext fun j => ((fu_120 272 rfl).2.1 j).trans (uF_a)) (funext fun j => ((fu_120 273 rfl).2.1 j).trans (uF_a)) (funext fun j => ((fu_120 274 rfl).2.1 j).trans (uF_a)) (funext fun j => ((fu_120 260 rfl).2.2.1 j).trans (uF_l)) (funext fun j => ((fu_120 290 rfl).2.2.1 j).trans (uF_l)))⟩ dX12_entry_118
                      · refine lv_iconst (v := iv 1) hx hb dX12_entry_99 (by decide) ?_
                        refine lv_goto (tgt := 106) hx hb dX12_entry_100 (by decide) ?_
                        refine lv_iload_n hx hb dX12_entry_106 rfl (lv_at hl 2 rfl) ?_
                        refine sBi (sV (As := [.int (iv 1), .int (iv b)]) (rest := [.ref (G.2.2.1 + 262), .ref (G.2.2.1 + 231)]) (k := 231) Cx (s_X12_cell l G (uF S 231 6 0) (i := 1) (j := b) (by omega) (by omega)) (c_X12_529 Cx rfl rfl (rmk_ok (by omega) (by decide))) hW (by decide) rfl rfl rfl hl.1 rfl (Nat.le_of_ble_eq_true rfl) dX12_entry_107 ⟨Nat.le_of_ble_eq_true rfl, Nat.le_of_ble_eq_true rfl⟩) hL (fun qz u_128 H locs k_129 hW hL => ?_)
                        obtain ⟨eu_128, xu_128⟩ := k_129
                        rw [eu_128] at hW
                        have lk_130 : (uF S 231 6 0).1 231 6 = 0 := uF_on
                        refine sBv (sV (As := [.ref (G.2.2.1 + 262), .int (iv qz)]) (rest := []) (k := 231) Cx (s_X12_spell l G (uF S 231 6 0) (ka := 262) (po := qz) (Nka := 5280) (La := 6) i_113 ⟨rfl, by decide, by decide, by decide, rfl⟩ (by omega) (by omega) (by rw [show (uF S 231 6 0).2.1 262 = S.2.1 262 from (funext fun j => uF_a)]; exact hei.2.1.at (i := 1) (j := b) (by omega) (by omega) (by omega) (by omega)) (show (262 : Nat) ≠ 231 by decide) (show (262 : Nat) ≠ 236 by decide)) (c_X12_594 Cx rfl rfl (rmk_ok (by omega) (by decide))) hW (by decide) rfl rfl rfl hl.1 rfl (Nat.le_of_ble_eq_true rfl) dX12_entry_110 ⟨Nat.le_of_ble_eq_true rfl, Nat.le_of_ble_eq_true rfl⟩) hL (fun u_131 H locs k_132 hW hL => ?_)
                        obtain ⟨iu_131, fu_131, gu_131, xu_131⟩ := k_132
                        have F_133 := F_111.trans fu_131
                        have g_134 : FF S u_131 (fl [6]) := FF.trans g_112 (FF.to gu_131 (fl_sub (by decide)))
                        refine lv_aload_n hx hb dX12_entry_113 rfl (lv_at hl 0 rfl) ?_
                        refine lv_iload_n hx hb dX12_entry_114 rfl (lv_at hl 3 rfl) ?_
                        have q_135 : (-2147483648) ≤ u_131.1 231 6 ∧ u_131.1 231 6 ≤ 2147483647 := iu_131.fi 6
                        refine sBi (sV (As := [.int (iv cc)]) (rest := []) (k := 231) Cx (s_X12_letterAt l G u_131 (a := cc) iu_131 (by omega) (by omega)) (c_X12_686 Cx rfl rfl (rmk_ok (by omega) (by decide))) hW (by decide) rfl rfl rfl hl.1 rfl (Nat.le_of_ble_eq_true rfl) dX12_entry_115 ⟨Nat.le_of_ble_eq_true rfl, Nat.le_of_ble_eq_true rfl⟩) hL (fun r_138 u_136 H locs k_137 hW hL => ?_)
                        rw [k_137] at hW
                        exact sIret Cx hr hlk hW hL ⟨iu_131, F_133, g_134, (XI.sm (S := S) (u := u_131) hXI ((gu_131 46 rfl).trans (uF_ne (fun h => absurd h.2 (by decide)))) ((gu_131 47 rfl).trans (uF_ne (fun h => absurd h.2 (by decide)))) ((gu_131 48 rfl).trans (uF_ne (fun h => absurd h.2 (by decide)))) ((gu_131 58 rfl).trans (uF_ne (fun h => absurd h.2 (by decide)))) ((gu_131 59 rfl).trans (uF_ne (fun h => absurd h.2 (by decide)))) ((gu_131 60 rfl).trans (uF_ne (fun h => absurd h.2 (by decide)))) ((gu_131 61 rfl).trans (uF_ne (fun h => absurd h.2 (by decide)))) ((gu_131 62 rfl).trans (uF_ne (fun h => absurd h.2 (by decide)))) ((gu_131 63 rfl).trans (uF_ne (fun h => absurd h.2 (by decide)))) ((gu_131 65 rfl).trans (uF_ne (fun h => absurd h.2 (by decide)))) ((gu_131 68 rfl).trans (uF_ne (fun h => absurd h.2 (by decide)))) ((gu_131 69 rfl).trans (uF_ne (fun h => absurd h.2 (by decide)))) ((gu_131 70 rfl).trans (uF_ne (fun h => absurd h.2 (by decide)))) ((gu_131 71 rfl).trans (uF_ne (fun h => absurd h.2 (by decide)))) ((gu_131 72 rfl).trans (uF_ne (fun h => absurd h.2 (by decide)))) ((gu_131 78 rfl).trans (uF_ne (fun h => absurd h.2 (by decide)))) ((gu_131 79 rfl).trans (uF_ne (fun h => absurd h.2 (by decide)))) ((gu_131 84 rfl).trans (uF_ne (fun h => absurd h.2 (by decide)))) ((gu_131 86 rfl).trans (uF_ne (fun h => absurd h.2 (by decide)))) (funext fun j => ((fu_131 261 rfl).2.1 j).trans (uF_a)) (funext fun j => ((fu_131 262 rfl).2.1 j).trans (uF_a)) (funext fun j => ((fu_131 264 rfl).2.1 j).trans (uF_a)) (funext fun j => ((fu_131 265 rfl).2.1 j).trans (uF_a)) (funext fun j => ((fu_131 266 rfl).2.1 j).trans (uF_a)) (funext fun j => ((fu_131 267 rfl).2.1 j).trans (uF_a)) (funext fun j => ((fu_131 268 rfl).2.1 j).trans (uF_a)) (funext fun j => ((fu_131 269 rfl).2.1 j).trans (uF_a)) (funext fun j => ((fu_131 270 rfl).2.1 j).trans (uF_a)) (funext fun j => ((fu_131 271 rfl).2.1 j).trans (uF_a)) (funext fun j => ((fu_131 272 rfl).2.1 j).trans (uF_a)) (funext fun j => ((fu_131 273 rfl).2.1 j).trans (uF_a)) (funext fun j => ((fu_131 274 rfl).2.1 j).trans (uF_a)) (funext fun j => ((fu_131 260 rfl).2.2.1 j).trans (uF_l)) (funext fun j => ((fu_131 290 rfl).2.2.1 j).trans (uF_l)))⟩ dX12_entry_118
                    · refine lv_iconst (v := iv 0) hx hb dX12_entry_90 (by decide) ?_
                      refine lv_goto (tgt := 106) hx hb dX12_entry_91 (by decide) ?_
                      refine lv_iload_n hx hb dX12_entry_106 rfl (lv_at hl 2 rfl) ?_
                      refine sBi (sV (As := [.int (iv 0), .int (iv b)]) (rest := [.ref (G.2.2.1 + 262), .ref (G.2.2.1 + 231)]) (k := 231) Cx (s_X12_cell l G (uF S 231 6 0) (i := 0) (j := b) (by omega) (by omega)) (c_X12_529 Cx rfl rfl (rmk_ok (by omega) (by decide))) hW (by decide) rfl rfl rfl hl.1 rfl (Nat.le_of_ble_eq_true rfl) dX12_entry_107 ⟨Nat.le_of_ble_eq_true rfl, Nat.le_of_ble_eq_true rfl⟩) hL (fun qz u_139 H locs k_140 hW hL => ?_)
                      obtain ⟨eu_139, xu_139⟩ := k_140
                      rw [eu_139] at hW
                      have lk_141 : (uF S 231 6 0).1 231 6 = 0 := uF_on
                      refine sBv (sV (As := [.ref (G.2.2.1 + 262), .int (iv qz)]) (rest := []) (k := 231) Cx (s_X12_spell l G (uF S 231 6 0) (ka := 262) (po := qz) (Nka := 5280) (La := 6) i_113 ⟨rfl, by decide, by decide, by decide, rfl⟩ (by omega) (by omega) (by rw [show (uF S 231 6 0).2.1 262 = S.2.1 262 from (funext fun j => uF_a)]; exact hei.2.1.at (i := 0) (j := b) (by omega) (by omega) (by omega) (by omega)) (show (262 : Nat) ≠ 231 by decide) (show (262 : Nat) ≠ 236 by decide)) (c_X12_594 Cx rfl rfl (rmk_ok (by omega) (by decide))) hW (by decide) rfl rfl rfl hl.1 rfl (Nat.le_of_ble_eq_true rfl) dX12_entry_110 ⟨Nat.le_of_ble_eq_true rfl, Nat.le_of_ble_eq_true rfl⟩) hL (fun u_142 H locs k_143 hW hL => ?_)
                      obtain ⟨iu_142, fu_142, gu_142, xu_142⟩ := k_143
                      have F_144 := F_111.trans fu_142
                      have g_145 : FF S u_142 (fl [6]) := FF.trans g_112 (FF.to gu_142 (fl_sub (by decide)))
                      refine lv_aload_n hx hb dX12_entry_113 rfl (lv_at hl 0 rfl) ?_
                      refine lv_iload_n hx hb dX12_entry_114 rfl (lv_at hl 3 rfl) ?_
                      have q_146 : (-2147483648) ≤ u_142.1 231 6 ∧ u_142.1 231 6 ≤ 2147483647 := iu_142.fi 6
                      refine sBi (sV (As := [.int (iv cc)]) (rest := []) (k := 231) Cx (s_X12_letterAt l G u_142 (a := cc) iu_142 (by omega) (by omega)) (c_X12_686 Cx rfl rfl (rmk_ok (by omega) (by decide))) hW (by decide) rfl rfl rfl hl.1 rfl (Nat.le_of_ble_eq_true rfl) dX12_entry_115 ⟨Nat.le_of_ble_eq_true rfl, Nat.le_of_ble_eq_true rfl⟩) hL (fun r_149 u_147 H locs k_148 hW hL => ?_)
                      rw [k_148] at hW
                      exact sIret Cx hr hlk hW hL ⟨iu_142, F_144, g_145, (XI.sm (S := S) (u := u_142) hXI ((gu_142 46 rfl).trans (uF_ne (fun h => absurd h.2 (by decide)))) ((gu_142 47 rfl).trans (uF_ne (fun h => absurd h.2 (by decide)))) ((gu_142 48 rfl).trans (uF_ne (fun h => absurd h.2 (by decide)))) ((gu_142 58 rfl).trans (uF_ne (fun h => absurd h.2 (by decide)))) ((gu_142 59 rfl).trans (uF_ne (fun h => absurd h.2 (by decide)))) ((gu_142 60 rfl).trans (uF_ne (fun h => absurd h.2 (by decide)))) ((gu_142 61 rfl).trans (uF_ne (fun h => absurd h.2 (by decide)))) ((gu_142 62 rfl).trans (uF_ne (fun h => absurd h.2 (by decide)))) ((gu_142 63 rfl).trans (uF_ne (fun h => absurd h.2 (by decide)))) ((gu_142 65 rfl).trans (uF_ne (fun h => absurd h.2 (by decide)))) ((gu_142 68 rfl).trans (uF_ne (fun h => absurd h.2 (by decide)))) ((gu_142 69 rfl).trans (uF_ne (fun h => absurd h.2 (by decide)))) ((gu_142 70 rfl).trans (uF_ne (fun h => absurd h.2 (by decide)))) ((gu_142 71 rfl).trans (uF_ne (fun h => absurd h.2 (by decide)))) ((gu_142 72 rfl).trans (uF_ne (fun h => absurd h.2 (by decide)))) ((gu_142 78 rfl).trans (uF_ne (fun h => absurd h.2 (by decide)))) ((gu_142 79 rfl).trans (uF_ne (fun h => absurd h.2 (by decide)))) ((gu_142 84 rfl).trans (uF_ne (fun h => absurd h.2 (by decide)))) ((gu_142 86 rfl).trans (uF_ne (fun h => absurd h.2 (by decide)))) (funext fun j => ((fu_142 261 rfl).2.1 j).trans (uF_a)) (funext fun j => ((fu_142 262 rfl).2.1 j).trans (uF_a)) (funext fun j => ((fu_142 264 rfl).2.1 j).trans (uF_a)) (funext fun j => ((fu_142 265 rfl).2.1 j).trans (uF_a)) (funext fun j => ((fu_142 266 rfl).2.1 j).trans (uF_a)) (funext fun j => ((fu_142 267 rfl).2.1 j).trans (uF_a)) (funext fun j => ((fu_142 268 rfl).2.1 j).trans (uF_a)) (funext fun j => ((fu_142 269 rfl).2.1 j).trans (uF_a)) (funext fun j => ((fu_142 270 rfl).2.1 j).trans (uF_a)) (funext fun j => ((fu_142 271 rfl).2.1 j).trans (uF_a)) (funext fun j => ((fu_142 272 rfl).2.1 j).trans (uF_a)) (funext fun j => ((fu_142 273 rfl).2.1 j).trans (uF_a)) (funext fun j => ((fu_142 274 rfl).2.1 j).trans (uF_a)) (funext fun j => ((fu_142 260 rfl).2.2.1 j).trans (uF_l)) (funext fun j => ((fu_142 290 rfl).2.2.1 j).trans (uF_l)))⟩ dX12_entry_118
                  · refine lv_aload_n hx hb dX12_entry_68 rfl (lv_at hl 0 rfl) ?_
                    refine lv_aload_n hx hb dX12_entry_69 rfl (lv_at hl 0 rfl) ?_
                    refine g_X12_109 Cx hW (k := 231) (by decide) rfl (v := .ref (G.2.2.1 + 264)) (rd_55 i_113) dX12_entry_70 ?_
                    refine lv_iconst (v := iv 0) hx hb dX12_entry_73 (by decide) ?_
                    have lk_150 : (uF S 231 6 0).1 231 6 = 0 := uF_on
                    refine sBv (sV (As := [.ref (G.2.2.1 + 264), .int (iv 0)]) (rest := []) (k := 231) Cx (s_X12_spell l G (uF S 231 6 0) (ka := 264) (po := 0) (Nka := 8) (La := 6) i_113 ⟨rfl, by decide, by decide, by decide, rfl⟩ (by omega) (by omega) (by rw [show (uF S 231 6 0).2.1 264 = S.2.1 264 from (funext fun j => uF_a)]; exact hei.2.1.2.2.1) (show (264 : Nat) ≠ 231 by decide) (show (264 : Nat) ≠ 236 by decide)) (c_X12_594 Cx rfl rfl (rmk_ok (by omega) (by decide))) hW (by decide) rfl rfl rfl hl.1 rfl (Nat.le_of_ble_eq_true rfl) dX12_entry_74 ⟨Nat.le_of_ble_eq_true rfl, Nat.le_of_ble_eq_true rfl⟩) hL (fun u_151 H locs k_152 hW hL => ?_)
                    obtain ⟨iu_151, fu_151, gu_151, xu_151⟩ := k_152
                    have F_153 := F_111.trans fu_151
                    have g_154 : FF S u_151 (fl [6]) := FF.trans g_112 (FF.to gu_151 (fl_sub (by decide)))
                    refine lv_goto (tgt := 113) hx hb dX12_entry_77 (by decide) ?_
                    refine lv_aload_n hx hb dX12_entry_113 rfl (lv_at hl 0 rfl) ?_
                    refine lv_iload_n hx hb dX12_entry_114 rfl (lv_at hl 3 rfl) ?_
                    have q_155 : (-2147483648) ≤ u_151.1 231 6 ∧ u_151.1 231 6 ≤ 2147483647 := iu_151.fi 6
                    refine sBi (sV (As := [.int (iv cc)]) (rest := []) (k := 231) Cx (s_X12_letterAt l G u_151 (a := cc) iu_151 (by omega) (by omega)) (c_X12_686 Cx rfl rfl (rmk_ok (by omega) (by decide))) hW (by decide) rfl rfl rfl hl.1 rfl (Nat.le_of_ble_eq_true rfl) dX12_entry_115 ⟨Nat.le_of_ble_eq_true rfl, Nat.le_of_ble_eq_true rfl⟩) hL (fun r_158 u_156 H locs k_157 hW hL => ?_)
                    rw [k_157] at hW
                    exact sIret Cx hr hlk hW hL ⟨iu_151, F_153, g_154, (XI.sm (S := S) (u := u_151) hXI ((gu_151 46 rfl).trans (uF_ne (fun h => absurd h.2 (by decide)))) ((gu_151 47 rfl).trans (uF_ne (fun h => absurd h.2 (by decide)))) ((gu_151 48 rfl).trans (uF_ne (fun h => absurd h.2 (by decide)))) ((gu_151 58 rfl).trans (uF_ne (fun h => absurd h.2 (by decide)))) ((gu_151 59 rfl).trans (uF_ne (fun h => absurd h.2 (by decide)))) ((gu_151 60 rfl).trans (uF_ne (fun h => absurd h.2 (by decide)))) ((gu_151 61 rfl).trans (uF_ne (fun h => absurd h.2 (by decide)))) ((gu_151 62 rfl).trans (uF_ne (fun h => absurd h.2 (by decide)))) ((gu_151 63 rfl).trans (uF_ne (fun h => absurd h.2 (by decide)))) ((gu_151 65 rfl).trans (uF_ne (fun h => absurd h.2 (by decide)))) ((gu_151 68 rfl).trans (uF_ne (fun h => absurd h.2 (by decide)))) ((gu_151 69 rfl).trans (uF_ne (fun h => absurd h.2 (by decide)))) ((gu_151 70 rfl).trans (uF_ne (fun h => absurd h.2 (by decide)))) ((gu_151 71 rfl).trans (uF_ne (fun h => absurd h.2 (by decide)))) ((gu_151 72 rfl).trans (uF_ne (fun h => absurd h.2 (by decide)))) ((gu_151 78 rfl).trans (uF_ne (fun h => absurd h.2 (by decide)))) ((gu_151 79 rfl).trans (uF_ne (fun h => absurd h.2 (by decide)))) ((gu_151 84 rfl).trans (uF_ne (fun h => absurd h.2 (by decide)))) ((gu_151 86 rfl).trans (uF_ne (fun h => absurd h.2 (by decide)))) (funext fun j => ((fu_151 261 rfl).2.1 j).trans (uF_a)) (funext fun j => ((fu_151 262 rfl).2.1 j).trans (uF_a)) (funext fun j => ((fu_151 264 rfl).2.1 j).trans (uF_a)) (funext fun j => ((fu_151 265 rfl).2.1 j).trans (uF_a)) (funext fun j => ((fu_151 266 rfl).2.1 j).trans (uF_a)) (funext fun j => ((fu_151 267 rfl).2.1 j).trans (uF_a)) (funext fun j => ((fu_151 268 rfl).2.1 j).trans (uF_a)) (funext fun j => ((fu_151 269 rfl).2.1 j).trans (uF_a)) (funext fun j => ((fu_151 270 rfl).2.1 j).trans (uF_a)) (funext fun j => ((fu_151 271 rfl).2.1 j).trans (uF_a)) (funext fun j => ((fu_151 272 rfl).2.1 j).trans (uF_a)) (funext fun j => ((fu_151 273 rfl).2.1 j).trans (uF_a)) (funext fun j => ((fu_151 274 rfl).2.1 j).trans (uF_a)) (funext fun j => ((fu_151 260 rfl).2.2.1 j).trans (uF_l)) (funext fun j => ((fu_151 290 rfl).2.2.1 j).trans (uF_l)))⟩ dX12_entry_118
                · refine lv_iload_n hx hb dX12_entry_51 rfl (lv_at hl 2 rfl) ?_
                  refine r_if_eq (tgt := 57) hx hb ⟨(by omega), (by omega)⟩ dX12_entry_52 (by decide) (fun c_159 => ?_) (fun c_159 => ?_)
                  · refine lv_aload_n hx hb dX12_entry_57 rfl (lv_at hl 0 rfl) ?_
                    refine lv_iconst (v := iv 0) hx hb dX12_entry_58 (by decide) ?_
                    refine p_X12_259 Cx hW hL (k := 231) (by decide) rfl dX12_entry_59 (fun H locs hW hL => ?_)
                    have F_160 : Fr S (uF S 231 6 0) (pl [231, 236]) := (Fr.rf : Fr S S (pl [231, 236])).F rfl
                    have g_161 : FF S (uF S 231 6 0) (fl [6]) := FF.F FF.rf rfl
                    have i_162 : dX G (uF S 231 6 0) := hI.F (i := 6) (show (-2147483648) ≤ 0 ∧ 0 ≤ 2147483647 from ⟨by omega, by omega⟩)
                    refine lv_iload_n hx hb dX12_entry_62 rfl (lv_at hl 1 rfl) ?_
                    refine lv_bipush (v := iv (-2)) hx hb dX12_entry_63 (by decide) ?_
                    refine r_icmp_ne (tgt := 80) hx hb ⟨(by omega), (by omega)⟩ ⟨(by omega), (by omega)⟩ dX12_entry_65 (by decide) (fun c_163 => ?_) (fun c_163 => ?_)
                    · refine lv_aload_n hx hb dX12_entry_80 rfl (lv_at hl 0 rfl) ?_
                      refine lv_aload_n hx hb dX12_entry_81 rfl (lv_at hl 0 rfl) ?_
                      refine g_X12_103 Cx hW (k := 231) (by decide) rfl (v := .ref (G.2.2.1 + 262)) (rd_53 i_162) dX12_entry_82 ?_
                      refine lv_aload_n hx hb dX12_entry_85 rfl (lv_at hl 0 rfl) ?_
                      refine lv_iload_n hx hb dX12_entry_86 rfl (lv_at hl 1 rfl) ?_
                      refine r_if_ne (tgt := 94) hx hb ⟨(by omega), (by omega)⟩ dX12_entry_87 (by decide) (fun c_164 => ?_) (fun c_164 => ?_)
                      · refine lv_iload_n hx hb dX12_entry_94 rfl (lv_at hl 1 rfl) ?_
                        refine lv_iconst (v := iv (-1)) hx hb dX12_entry_95 (by decide) ?_
                        refine r_icmp_ne (tgt := 103) hx hb ⟨(by omega), (by omega)⟩ ⟨(by omega), (by omega)⟩ dX12_entry_96 (by decide) (fun c_165 => ?_) (fun c_165 => ?_)
                        · refine lv_iload_n hx hb dX12_entry_103 rfl (lv_at hl 1 rfl) ?_
                          refine lv_iconst (v := iv 1) hx hb dX12_entry_104 (by decide) ?_
                          refine r_iadd hx hb dX12_entry_105 ?_
                          refine lv_iload_n hx hb dX12_entry_106 rfl (lv_at hl 2 rfl) ?_
                          refine sBi (sV (As := [.int (iv (a + 1)), .int (iv b)]) (rest := [.ref (G.2.2.1 + 262), .ref (G.2.2.1 + 231)]) (k := 231) Cx (s_X12_cell l G (uF S 231 6 0) (i := a + 1) (j := b) (by omega) (by omega)) (c_X12_529 Cx rfl rfl (rmk_ok (by omega) (by decide))) hW (by decide) rfl rfl rfl hl.1 rfl (Nat.le_of_ble_eq_true rfl) dX12_entry_107 ⟨Nat.le_of_ble_eq_true rfl, Nat.le_of_ble_eq_true rfl⟩) hL (fun qz u_166 H locs k_167 hW hL => ?_)
                          obtain ⟨eu_166, xu_166⟩ := k_167
                          rw [eu_166] at hW
                          have lk_168 : (uF S 231 6 0).1 231 6 = 0 := uF_on
                          refine sBv (sV (As := [.ref (G.2.2.1 + 262), .int (iv qz)]) (rest := []) (k := 231) Cx (s_X12_spell l G (uF S 231 6 0) (ka := 262) (po := qz) (Nka := 5280) (La := 6) i_162 ⟨rfl, by decide, by decide, by decide, rfl⟩ (by omega) (by omega) (by rw [show (uF S 231 6 0).2.1 262 = S.2.1 262 from (funext fun j => uF_a)]; exact hei.2.1.at (i := a + 1) (j := b) (by omega) (by omega) (by omega) (by omega)) (show (262 : Nat) ≠ 231 by decide) (show (262 : Nat) ≠ 236 by decide)) (c_X12_594 Cx rfl rfl (rmk_ok (by omega) (by decide))) hW (by decide) rfl rfl rfl hl.1 rfl (Nat.le_of_ble_eq_true rfl) dX12_entry_110 ⟨Nat.le_of_ble_eq_true rfl, Nat.le_of_ble_eq_true rfl⟩) hL (fun u_169 H locs k_170 hW hL => ?_)
                          obtain ⟨iu_169, fu_169, gu_169, xu_169⟩ := k_170
                          have F_171 := F_160.trans fu_169
                          have g_172 : FF S u_169 (fl [6]) := FF.trans g_161 (FF.to gu_169 (fl_sub (by decide)))
                          refine lv_aload_n hx hb dX12_entry_113 rfl (lv_at hl 0 rfl) ?_
                          refine lv_iload_n hx hb dX12_entry_114 rfl (lv_at hl 3 rfl) ?_
                          have q_173 : (-2147483648) ≤ u_169.1 231 6 ∧ u_169.1 231 6 ≤ 2147483647 := iu_169.fi 6
                          refine sBi (sV (As := [.int (iv cc)]) (rest := []) (k := 231) Cx (s_X12_letterAt l G u_169 (a := cc) iu_169 (by omega) (by omega)) (c_X12_686 Cx rfl rfl (rmk_ok (by omega) (by decide))) hW (by decide) rfl rfl rfl hl.1 rfl (Nat.le_of_ble_eq_true rfl) dX12_entry_115 ⟨Nat.le_of_ble_eq_true rfl, Nat.le_of_ble_eq_true rfl⟩) hL (fun r_176 u_174 H locs k_175 hW hL => ?_)
                          rw [k_175] at hW
                          exact sIret Cx hr hlk hW hL ⟨iu_169, F_171, g_172, (XI.sm (S := S) (u := u_169) hXI ((gu_169 46 rfl).trans (uF_ne (fun h => absurd h.2 (by decide)))) ((gu_169 47 rfl).trans (uF_ne (fun h => absurd h.2 (by decide)))) ((gu_169 48 rfl).trans (uF_ne (fun h => absurd h.2 (by decide)))) ((gu_169 58 rfl).trans (uF_ne (fun h => absurd h.2 (by decide)))) ((gu_169 59 rfl).trans (uF_ne (fun h => absurd h.2 (by decide)))) ((gu_169 60 rfl).trans (uF_ne (fun h => absurd h.2 (by decide)))) ((gu_169 61 rfl).trans (uF_ne (fun h => absurd h.2 (by decide)))) ((gu_169 62 rfl).trans (uF_ne (fun h => absurd h.2 (by decide)))) ((gu_169 63 rfl).trans (uF_ne (fun h => absurd h.2 (by decide)))) ((gu_169 65 rfl).trans (uF_ne (fun h => absurd h.2 (by decide)))) ((gu_169 68 rfl).trans (uF_ne (fun h => absurd h.2 (by decide)))) ((gu_169 69 rfl).trans (uF_ne (fun h => absurd h.2 (by decide)))) ((gu_169 70 rfl).trans (uF_ne (fun h => absurd h.2 (by decide)))) ((gu_169 71 rfl).trans (uF_ne (fun h => absurd h.2 (by decide)))) ((gu_169 72 rfl).trans (uF_ne (fun h => absurd h.2 (by decide)))) ((gu_169 78 rfl).trans (uF_ne (fun h => absurd h.2 (by decide)))) ((gu_169 79 rfl).trans (uF_ne (fun h => absurd h.2 (by decide)))) ((gu_169 84 rfl).trans (uF_ne (fun h => absurd h.2 (by decide)))) ((gu_169 86 rfl).trans (uF_ne (fun h => absurd h.2 (by decide)))) (funext fun j => ((fu_169 261 rfl).2.1 j).trans (uF_a)) (funext fun j => ((fu_169 262 rfl).2.1 j).trans (uF_a)) (funext fun j => ((fu_169 264 rfl).2.1 j).trans (uF_a)) (funext fun j => ((fu_169 265 rfl).2.1 j).trans (uF_a)) (funext fun j => ((fu_169 266 rfl).2.1 j).trans (uF_a)) (funext fun j => ((fu_169 267 rfl).2.1 j).trans (uF_a)) (funext fun j => ((fu_169 268 rfl).2.1 j).trans (uF_a)) (funext fun j => ((fu_169 269 rfl).2.1 j).trans (uF_a)) (funext fun j => ((fu_169 270 rfl).2.1 j).trans (uF_a)) (funext fun j => ((fu_169 271 rfl).2.1 j).trans (uF_a)) (funext fun j => ((fu_169 272 rfl).2.1 j).trans (uF_a)) (funext fun j => ((fu_169 273 rfl).2.1 j).trans (uF_a)) (funext fun j => ((fu_169 274 rfl).2.1 j).trans (uF_a)) (funext fun j => ((fu_169 260 rfl).2.2.1 j).trans (uF_l)) (funext fun j => ((fu_169 290 rfl).2.2.1 j).trans (uF_l)))⟩ dX12_entry_118
                        · refine lv_iconst (v := iv 1) hx hb dX12_entry_99 (by decide) ?_
                          refine lv_goto (tgt := 106) hx hb dX12_entry_100 (by decide) ?_
                          refine lv_iload_n hx hb dX12_entry_106 rfl (lv_at hl 2 rfl) ?_
                          refine sBi (sV (As := [.int (iv 1), .int (iv b)]) (rest := [.ref (G.2.2.1 + 262), .ref (G.2.2.1 + 231)]) (k := 231) Cx (s_X12_cell l G (uF S 231 6 0) (i := 1) (j := b) (by omega) (by omega)) (c_X12_529 Cx rfl rfl (rmk_ok (by omega) (by decide))) hW (by decide) rfl rfl rfl hl.1 rfl (Nat.le_of_ble_eq_true rfl) dX12_entry_107 ⟨Nat.le_of_ble_eq_true rfl, Nat.le_of_ble_eq_true rfl⟩) hL (fun qz u_177 H locs k_178 hW hL => ?_)
                          obtain ⟨eu_177, xu_177⟩ := k_178
                          rw [eu_177] at hW
                          have lk_179 : (uF S 231 6 0).1 231 6 = 0 := uF_on
                          refine sBv (sV (As := [.ref (G.2.2.1 + 262), .int (iv qz)]) (rest := []) (k := 231) Cx (s_X12_spell l G (uF S 231 6 0) (ka := 262) (po := qz) (Nka := 5280) (La := 6) i_162 ⟨rfl, by decide, by decide, by decide, rfl⟩ (by omega) (by omega) (by rw [show (uF S 231 6 0).2.1 262 = S.2.1 262 from (funext fun j => uF_a)]; exact hei.2.1.at (i := 1) (j := b) (by omega) (by omega) (by omega) (by omega)) (show (262 : Nat) ≠ 231 by decide) (show (262 : Nat) ≠ 236 by decide)) (c_X12_594 Cx rfl rfl (rmk_ok (by omega) (by decide))) hW (by decide) rfl rfl rfl hl.1 rfl (Nat.le_of_ble_eq_true rfl) dX12_entry_110 ⟨Nat.le_of_ble_eq_true rfl, Nat.le_of_ble_eq_true rfl⟩) hL (fun u_180 H locs k_181 hW hL => ?_)
                          obtain ⟨iu_180, fu_180, gu_180, xu_180⟩ := k_181
                          have F_182 := F_160.trans fu_180
                          have g_183 : FF S u_180 (fl [6]) := FF.trans g_161 (FF.to gu_180 (fl_sub (by decide)))
                          refine lv_aload_n hx hb dX12_entry_113 rfl (lv_at hl 0 rfl) ?_
                          refine lv_iload_n hx hb dX12_entry_114 rfl (lv_at hl 3 rfl) ?_
                          have q_184 : (-2147483648) ≤ u_180.1 231 6 ∧ u_180.1 231 6 ≤ 2147483647 := iu_180.fi 6
                          refine sBi (sV (As := [.int (iv cc)]) (rest := []) (k := 231) Cx (s_X12_letterAt l G u_180 (a := cc) iu_180 (by omega) (by omega)) (c_X12_686 Cx rfl rfl (rmk_ok (by omega) (by decide))) hW (by decide) rfl rfl rfl hl.1 rfl (Nat.le_of_ble_eq_true rfl) dX12_entry_115 ⟨Nat.le_of_ble_eq_true rfl, Nat.le_of_ble_eq_true rfl⟩) hL (fun r_187 u_185 H locs k_186 hW hL => ?_)
                          rw [k_186] at hW
                          exact sIret Cx hr hlk hW hL ⟨iu_180, F_182, g_183, (XI.sm (S := S) (u := u_180) hXI ((gu_180 46 rfl).trans (uF_ne (fun h => absurd h.2 (by decide)))) ((gu_180 47 rfl).trans (uF_ne (fun h => absurd h.2 (by decide)))) ((gu_180 48 rfl).trans (uF_ne (fun h => absurd h.2 (by decide)))) ((gu_180 58 rfl).trans (uF_ne (fun h => absurd h.2 (by decide)))) ((gu_180 59 rfl).trans (uF_ne (fun h => absurd h.2 (by decide)))) ((gu_180 60 rfl).trans (uF_ne (fun h => absurd h.2 (by decide)))) ((gu_180 61 rfl).trans (uF_ne (fun h => absurd h.2 (by decide)))) ((gu_180 62 rfl).trans (uF_ne (fun h => absurd h.2 (by decide)))) ((gu_180 63 rfl).trans (uF_ne (fun h => absurd h.2 (by decide)))) ((gu_180 65 rfl).trans (uF_ne (fun h => absurd h.2 (by decide)))) ((gu_180 68 rfl).trans (uF_ne (fun h => absurd h.2 (by decide)))) ((gu_180 69 rfl).trans (uF_ne (fun h => absurd h.2 (by decide)))) ((gu_180 70 rfl).trans (uF_ne (fun h => absurd h.2 (by decide)))) ((gu_180 71 rfl).trans (uF_ne (fun h => absurd h.2 (by decide)))) ((gu_180 72 rfl).trans (uF_ne (fun h => absurd h.2 (by decide)))) ((gu_180 78 rfl).trans (uF_ne (fun h => absurd h.2 (by decide)))) ((gu_180 79 rfl).trans (uF_ne (fun h => absurd h.2 (by decide)))) ((gu_180 84 rfl).trans (uF_ne (fun h => absurd h.2 (by decide)))) ((gu_180 86 rfl).trans (uF_ne (fun h => absurd h.2 (by decide)))) (funext fun j => ((fu_180 261 rfl).2.1 j).trans (uF_a)) (funext fun j => ((fu_180 262 rfl).2.1 j).trans (uF_a)) (funext fun j => ((fu_180 264 rfl).2.1 j).trans (uF_a)) (funext fun j => ((fu_180 265 rfl).2.1 j).trans (uF_a)) (funext fun j => ((fu_180 266 rfl).2.1 j).trans (uF_a)) (funext fun j => ((fu_180 267 rfl).2.1 j).trans (uF_a)) (funext fun j => ((fu_180 268 rfl).2.1 j).trans (uF_a)) (funext fun j => ((fu_180 269 rfl).2.1 j).trans (uF_a)) (funext fun j => ((fu_180 270 rfl).2.1 j).trans (uF_a)) (funext fun j => ((fu_180 271 rfl).2.1 j).trans (uF_a)) (funext fun j => ((fu_180 272 rfl).2.1 j).trans (uF_a)) (funext fun j => ((fu_180 273 rfl).2.1 j).trans (uF_a)) (funext fun j => ((fu_180 274 rfl).2.1 j).trans (uF_a)) (funext fun j => ((fu_180 260 rfl).2.2.1 j).trans (uF_l)) (funext fun j => ((fu_180 290 rfl).2.2.1 j).trans (uF_l)))⟩ dX12_entry_118
                      · refine lv_iconst (v := iv 0) hx hb dX12_entry_90 (by decide) ?_
                        refine lv_goto (tgt := 106) hx hb dX12_entry_91 (by decide) ?_
                        refine lv_iload_n hx hb dX12_entry_106 rfl (lv_at hl 2 rfl) ?_
                        refine sBi (sV (As := [.int (iv 0), .int (iv b)]) (rest := [.ref (G.2.2.1 + 262), .ref (G.2.2.1 + 231)]) (k := 231) Cx (s_X12_cell l G (uF S 231 6 0) (i := 0) (j := b) (by omega) (by omega)) (c_X12_529 Cx rfl rfl (rmk_ok (by omega) (by decide))) hW (by decide) rfl rfl rfl hl.1 rfl (Nat.le_of_ble_eq_true rfl) dX12_entry_107 ⟨Nat.le_of_ble_eq_true rfl, Nat.le_of_ble_eq_true rfl⟩) hL (fun qz u_188 H locs k_189 hW hL => ?_)
                        obtain ⟨eu_188, xu_188⟩ := k_189
                        rw [eu_188] at hW
                        have lk_190 : (uF S 231 6 0).1 231 6 = 0 := uF_on
                        refine sBv (sV (As := [.ref (G.2.2.1 + 262), .int (iv qz)]) (rest := []) (k := 231) Cx (s_X12_spell l G (uF S 231 6 0) (ka := 262) (po := qz) (Nka := 5280) (La := 6) i_162 ⟨rfl, by decide, by decide, by decide, rfl⟩ (by omega) (by omega) (by rw [show (uF S 231 6 0).2.1 262 = S.2.1 262 from (funext fun j => uF_a)]; exact hei.2.1.at (i := 0) (j := b) (by omega) (by omega) (by omega) (by omega)) (show (262 : Nat) ≠ 231 by decide) (show (262 : Nat) ≠ 236 by decide)) (c_X12_594 Cx rfl rfl (rmk_ok (by omega) (by decide))) hW (by decide) rfl rfl rfl hl.1 rfl (Nat.le_of_ble_eq_true rfl) dX12_entry_110 ⟨Nat.le_of_ble_eq_true rfl, Nat.le_of_ble_eq_true rfl⟩) hL (fun u_191 H locs k_192 hW hL => ?_)
                        obtain ⟨iu_191, fu_191, gu_191, xu_191⟩ := k_192
                        have F_193 := F_160.trans fu_191
                        have g_194 : FF S u_191 (fl [6]) := FF.trans g_161 (FF.to gu_191 (fl_sub (by decide)))
                        refine lv_aload_n hx hb dX12_entry_113 rfl (lv_at hl 0 rfl) ?_
                        refine lv_iload_n hx hb dX12_entry_114 rfl (lv_at hl 3 rfl) ?_
                        have q_195 : (-2147483648) ≤ u_191.1 231 6 ∧ u_191.1 231 6 ≤ 2147483647 := iu_191.fi 6
                        refine sBi (sV (As := [.int (iv cc)]) (rest := []) (k := 231) Cx (s_X12_letterAt l G u_191 (a := cc) iu_191 (by omega) (by omega)) (c_X12_686 Cx rfl rfl (rmk_ok (by omega) (by decide))) hW (by decide) rfl rfl rfl hl.1 rfl (Nat.le_of_ble_eq_true rfl) dX12_entry_115 ⟨Nat.le_of_ble_eq_true rfl, Nat.le_of_ble_eq_true rfl⟩) hL (fun r_198 u_196 H locs k_197 hW hL => ?_)
                        rw [k_197] at hW
                        exact sIret Cx hr hlk hW hL ⟨iu_191, F_193, g_194, (XI.sm (S := S) (u := u_191) hXI ((gu_191 46 rfl).trans (uF_ne (fun h => absurd h.2 (by decide)))) ((gu_191 47 rfl).trans (uF_ne (fun h => absurd h.2 (by decide)))) ((gu_191 48 rfl).trans (uF_ne (fun h => absurd h.2 (by decide)))) ((gu_191 58 rfl).trans (uF_ne (fun h => absurd h.2 (by decide)))) ((gu_191 59 rfl).trans (uF_ne (fun h => absurd h.2 (by decide)))) ((gu_191 60 rfl).trans (uF_ne (fun h => absurd h.2 (by decide)))) ((gu_191 61 rfl).trans (uF_ne (fun h => absurd h.2 (by decide)))) ((gu_191 62 rfl).trans (uF_ne (fun h => absurd h.2 (by decide)))) ((gu_191 63 rfl).trans (uF_ne (fun h => absurd h.2 (by decide)))) ((gu_191 65 rfl).trans (uF_ne (fun h => absurd h.2 (by decide)))) ((gu_191 68 rfl).trans (uF_ne (fun h => absurd h.2 (by decide)))) ((gu_191 69 rfl).trans (uF_ne (fun h => absurd h.2 (by decide)))) ((gu_191 70 rfl).trans (uF_ne (fun h => absurd h.2 (by decide)))) ((gu_191 71 rfl).trans (uF_ne (fun h => absurd h.2 (by decide)))) ((gu_191 72 rfl).trans (uF_ne (fun h => absurd h.2 (by decide)))) ((gu_191 78 rfl).trans (uF_ne (fun h => absurd h.2 (by decide)))) ((gu_191 79 rfl).trans (uF_ne (fun h => absurd h.2 (by decide)))) ((gu_191 84 rfl).trans (uF_ne (fun h => absurd h.2 (by decide)))) ((gu_191 86 rfl).trans (uF_ne (fun h => absurd h.2 (by decide)))) (funext fun j => ((fu_191 261 rfl).2.1 j).trans (uF_a)) (funext fun j => ((fu_191 262 rfl).2.1 j).trans (uF_a)) (funext fun j => ((fu_191 264 rfl).2.1 j).trans (uF_a)) (funext fun j => ((fu_191 265 rfl).2.1 j).trans (uF_a)) (funext fun j => ((fu_191 266 rfl).2.1 j).trans (uF_a)) (funext fun j => ((fu_191 267 rfl).2.1 j).trans (uF_a)) (funext fun j => ((fu_191 268 rfl).2.1 j).trans (uF_a)) (funext fun j => ((fu_191 269 rfl).2.1 j).trans (uF_a)) (funext fun j => ((fu_191 270 rfl).2.1 j).trans (uF_a)) (funext fun j => ((fu_191 271 rfl).2.1 j).trans (uF_a)) (funext fun j => ((fu_191 272 rfl).2.1 j).trans (uF_a)) (funext fun j => ((fu_191 273 rfl).2.1 j).trans (uF_a)) (funext fun j => ((fu_191 274 rfl).2.1 j).trans (uF_a)) (funext fun j => ((fu_191 260 rfl).2.2.1 j).trans (uF_l)) (funext fun j => ((fu_191 290 rfl).2.2.1 j).trans (uF_l)))⟩ dX12_entry_118
                    · refine lv_aload_n hx hb dX12_entry_68 rfl (lv_at hl 0 rfl) ?_
                      refine lv_aload_n hx hb dX12_entry_69 rfl (lv_at hl 0 rfl) ?_
                      refine g_X12_109 Cx hW (k := 231) (by decide) rfl (v := .ref (G.2.2.1 + 264)) (rd_55 i_162) dX12_entry_70 ?_
                      refine lv_iconst (v := iv 0) hx hb dX12_entry_73 (by decide) ?_
                      have lk_199 : (uF S 231 6 0).1 231 6 = 0 := uF_on
                      refine sBv (sV (As := [.ref (G.2.2.1 + 264), .int (iv 0)]) (rest := []) (k := 231) Cx (s_X12_spell l G (uF S 231 6 0) (ka := 264) (po := 0) (Nka := 8) (La := 6) i_162 ⟨rfl, by decide, by decide, by decide, rfl⟩ (by omega) (by omega) (by rw [show (uF S 231 6 0).2.1 264 = S.2.1 264 from (funext fun j => uF_a)]; exact hei.2.1.2.2.1) (show (264 : Nat) ≠ 231 by decide) (show (264 : Nat) ≠ 236 by decide)) (c_X12_594 Cx rfl rfl (rmk_ok (by omega) (by decide))) hW (by decide) rfl rfl rfl hl.1 rfl (Nat.le_of_ble_eq_true rfl) dX12_entry_74 ⟨Nat.le_of_ble_eq_true rfl, Nat.le_of_ble_eq_true rfl⟩) hL (fun u_200 H locs k_201 hW hL => ?_)
                      obtain ⟨iu_200, fu_200, gu_200, xu_200⟩ := k_201
                      have F_202 := F_160.trans fu_200
                      have g_203 : FF S u_200 (fl [6]) := FF.trans g_161 (FF.to gu_200 (fl_sub (by decide)))
                      refine lv_goto (tgt := 113) hx hb dX12_entry_77 (by decide) ?_
                      refine lv_aload_n hx hb dX12_entry_113 rfl (lv_at hl 0 rfl) ?_
                      refine lv_iload_n hx hb dX12_entry_114 rfl (lv_at hl 3 rfl) ?_
                      have q_204 : (-2147483648) ≤ u_200.1 231 6 ∧ u_200.1 231 6 ≤ 2147483647 := iu_200.fi 6
                      refine sBi (sV (As := [.int (iv cc)]) (rest := []) (k := 231) Cx (s_X12_letterAt l G u_200 (a := cc) iu_200 (by omega) (by omega)) (c_X12_686 Cx rfl rfl (rmk_ok (by omega) (by decide))) hW (by decide) rfl rfl rfl hl.1 rfl (Nat.le_of_ble_eq_true rfl) dX12_entry_115 ⟨Nat.le_of_ble_eq_true rfl, Nat.le_of_ble_eq_true rfl⟩) hL (fun r_207 u_205 H locs k_206 hW hL => ?_)
                      rw [k_206] at hW
                      exact sIret Cx hr hlk hW hL ⟨iu_200, F_202, g_203, (XI.sm (S := S) (u := u_200) hXI ((gu_200 46 rfl).trans (uF_ne (fun h => absurd h.2 (by decide)))) ((gu_200 47 rfl).trans (uF_ne (fun h => absurd h.2 (by decide)))) ((gu_200 48 rfl).trans (uF_ne (fun h => absurd h.2 (by decide)))) ((gu_200 58 rfl).trans (uF_ne (fun h => absurd h.2 (by decide)))) ((gu_200 59 rfl).trans (uF_ne (fun h => absurd h.2 (by decide)))) ((gu_200 60 rfl).trans (uF_ne (fun h => absurd h.2 (by decide)))) ((gu_200 61 rfl).trans (uF_ne (fun h => absurd h.2 (by decide)))) ((gu_200 62 rfl).trans (uF_ne (fun h => absurd h.2 (by decide)))) ((gu_200 63 rfl).trans (uF_ne (fun h => absurd h.2 (by decide)))) ((gu_200 65 rfl).trans (uF_ne (fun h => absurd h.2 (by decide)))) ((gu_200 68 rfl).trans (uF_ne (fun h => absurd h.2 (by decide)))) ((gu_200 69 rfl).trans (uF_ne (fun h => absurd h.2 (by decide)))) ((gu_200 70 rfl).trans (uF_ne (fun h => absurd h.2 (by decide)))) ((gu_200 71 rfl).trans (uF_ne (fun h => absurd h.2 (by decide)))) ((gu_200 72 rfl).trans (uF_ne (fun h => absurd h.2 (by decide)))) ((gu_200 78 rfl).trans (uF_ne (fun h => absurd h.2 (by decide)))) ((gu_200 79 rfl).trans (uF_ne (fun h => absurd h.2 (by decide)))) ((gu_200 84 rfl).trans (uF_ne (fun h => absurd h.2 (by decide)))) ((gu_200 86 rfl).trans (uF_ne (fun h => absurd h.2 (by decide)))) (funext fun j => ((fu_200 261 rfl).2.1 j).trans (uF_a)) (funext fun j => ((fu_200 262 rfl).2.1 j).trans (uF_a)) (funext fun j => ((fu_200 264 rfl).2.1 j).trans (uF_a)) (funext fun j => ((fu_200 265 rfl).2.1 j).trans (uF_a)) (funext fun j => ((fu_200 266 rfl).2.1 j).trans (uF_a)) (funext fun j => ((fu_200 267 rfl).2.1 j).trans (uF_a)) (funext fun j => ((fu_200 268 rfl).2.1 j).trans (uF_a)) (funext fun j => ((fu_200 269 rfl).2.1 j).trans (uF_a)) (funext fun j => ((fu_200 270 rfl).2.1 j).trans (uF_a)) (funext fun j => ((fu_200 271 rfl).2.1 j).trans (uF_a)) (funext fun j => ((fu_200 272 rfl).2.1 j).trans (uF_a)) (funext fun j => ((fu_200 273 rfl).2.1 j).trans (uF_a)) (funext fun j => ((fu_200 274 rfl).2.1 j).trans (uF_a)) (funext fun j => ((fu_200 260 rfl).2.2.1 j).trans (uF_l)) (funext fun j => ((fu_200 290 rfl).2.2.1 j).trans (uF_l)))⟩ dX12_entry_118
                  · refine lv_iconst (v := iv (-1)) hx hb dX12_entry_55 (by decide) ?_
                    exact sIret Cx hr hlk hW hL ⟨hI, (Fr.rf : Fr S S (pl [231, 236])), FF.rf, hXI⟩ dX12_entry_56

set_option maxRecDepth 100000 in
set_option maxHeartbeats 4000000 in
theorem s_X12_lower0 (l : Launch) (G : sG) (S : sS) {ka kb Nka Nkb : Nat} {po qo : Int} (hI : dX G S) (hika : ia ka Nka) (hikb : ia kb Nkb) (nka233 : Hd (ka ≠ 233)) (nka234 : Hd (ka ≠ 234)) (nka235 : Hd (ka ≠ 235)) (nka237 : Hd (ka ≠ 237)) (nka238 : Hd (ka ≠ 238)) (nka239 : Hd (ka ≠ 239)) (nka240 : Hd (ka ≠ 240)) (nka241 : Hd (ka ≠ 241)) (nka242 : Hd (ka ≠ 242)) (nka280 : Hd (ka ≠ 280)) (nkb233 : Hd (kb ≠ 233)) (nkb234 : Hd (kb ≠ 234)) (nkb235 : Hd (kb ≠ 235)) (nkb237 : Hd (kb ≠ 237)) (nkb238 : Hd (kb ≠ 238)) (nkb239 : Hd (kb ≠ 239)) (nkb240 : Hd (kb ≠ 240)) (nkb241 : Hd (kb ≠ 241)) (nkb242 : Hd (kb ≠ 242)) (nkb280 : Hd (kb ≠ 280)) (hR : (0 ≤ po ∧ po + 2 < Nka) ∧ 0 ≤ qo ∧ qo + 6 < Nkb) (hA : NO (S.2.1 ka) po 2) (hB : NO (S.2.1 kb) qo 6) (hps : 0 < nv (S.2.1 kb) qo) : Met l yX12_lower (.code yX12_lower cX12_lower 5 none :: tb) (rmk 7 0 0) (sPc G 294 S [.ref (G.2.2.1 + 231), .ref (G.2.2.1 + ka), .int (iv po), .ref (G.2.2.1 + kb), .int (iv qo)]) (sQv G 294 (fun u => dX G u ∧ Fr S u (pl [233, 234, 235, 237, 238, 239, 240, 241, 242, 280]) ∧ FF S u (fl []) ∧ (NO (u.2.1 237) 0 7 ∧ NO (u.2.1 238) 0 7))) 0 0 (sF G) := by
  refine sEnter (by decide) (Nat.le_of_ble_eq_true rfl) ?_
  intro p e s m args below meth c Cx hr hlk hnm hW ls hl
  have Cx : sC G p m c cX12_lower 5 s args RX12 := Cx
  obtain ⟨hx, hb, hml, hown, hts⟩ := id Cx.1
  have hL : sL G [] := sL_nil
  have hl : lv_has ls 5 [(0, .ref (G.2.2.1 + 231)), (1, .ref (G.2.2.1 + ka)), (2, .int (iv po)), (3, .ref (G.2.2.1 + kb)), (4, .int (iv qo))] := hl
  have hW0 := hW
  refine lv_aload_n hx hb dX12_lower_0 rfl (lv_at hl 0 rfl) ?_
  refine lv_aload_n hx hb dX12_lower_1 rfl (lv_at hl 3 rfl) ?_
  refine lv_iload hx hb dX12_lower_2 (lv_at hl 4 rfl) ?_
  refine lv_aload_n hx hb dX12_lower_4 rfl (lv_at hl 1 rfl) ?_
  refine lv_iload_n hx hb dX12_lower_5 rfl (lv_at hl 2 rfl) ?_
  refine sBv (sV (As := [.ref (G.2.2.1 + kb), .int (iv qo), .ref (G.2.2.1 + ka), .int (iv po)]) (rest := []) (k := 231) Cx (s_X12_common l G S (ka := kb) (po := qo) (kb := ka) (qo := po) (Nka := Nkb) (Nkb := Nka) (La := 6) (Lb := 2) (Lx := 6) hI hikb hika (neD nkb241) (neD nka241) (neD nka242) (by omega) hB hA (.inl hps)) (c_X12_658 Cx rfl rfl (rmk_ok (by omega) (by decide))) hW (by decide) rfl rfl rfl hl.1 rfl (Nat.le_of_ble_eq_true rfl) dX12_lower_6 ⟨Nat.le_of_ble_eq_true rfl, Nat.le_of_ble_eq_true rfl⟩) hL (fun u_1 H locs k_2 hW hL => ?_)
  obtain ⟨iu_1, fu_1, gu_1, xu_1⟩ := k_2
  have F_3 := (Fr.rf : Fr S S (pl [233, 234, 235, 237, 238, 239, 240, 241, 242, 280])).trans (fu_1.to (pl_sub (by decide)))
  have g_4 : FF S u_1 (fl []) := FF.trans FF.rf (FF.to gu_1 (fl_sub (by decide)))
  refine lv_aload_n hx hb dX12_lower_9 rfl (lv_at hl 0 rfl) ?_
  refine g_X12_38 Cx hW (k := 231) (by decide) rfl (v := .ref (G.2.2.1 + 241)) (rd_11 iu_1) dX12_lower_10 ?_
  refine lv_iconst (v := iv 0) hx hb dX12_lower_13 (by decide) ?_
  refine lv_aload_n hx hb dX12_lower_14 rfl (lv_at hl 0 rfl) ?_
  refine g_X12_160 Cx hW (k := 231) (by decide) rfl (v := .ref (G.2.2.1 + 280)) (rd_90 iu_1) dX12_lower_15 ?_
  refine lv_iconst (v := iv 0) hx hb dX12_lower_18 (by decide) ?_
  refine sBv (sSt (As := [.ref (G.2.2.1 + 241), .int (iv 0), .ref (G.2.2.1 + 280), .int (iv 0)]) (rest := []) Cx (s_X12_copy l G u_1 (ka := 241) (po := 0) (kb := 280) (qo := 0) (Nka := 68) (Nkb := 68) (La := 6) iu_1 ⟨rfl, by decide, by decide, by decide, rfl⟩ ⟨rfl, by decide, by decide, by decide, rfl⟩ (show (280 : Nat) ≠ 241 by decide) (by omega) xu_1.1) (c_X12_233 Cx rfl rfl (rmk_ok (by omega) (by decide))) hW rfl hl.1 rfl (Nat.le_of_ble_eq_true rfl) dX12_lower_19 ⟨Nat.le_of_ble_eq_true rfl, Nat.le_of_ble_eq_true rfl⟩) hL (fun u_5 H locs k_6 hW hL => ?_)
  obtain ⟨iu_5, fu_5, xu_5⟩ := k_6
  have F_7 := F_3.trans (fu_5.to (p1_sub rfl))
  have g_8 : FF S u_5 (fl []) := FF.fr g_4 fu_5 rfl
  have hpcp : 0 < u_5.2.1 280 0 := by rw [xu_5.1.2.2]; exact xu_1.1.sgn.2.1.mp xu_1.2
  refine lv_aload_n hx hb dX12_lower_22 rfl (lv_at hl 0 rfl) ?_
  refine lv_aload_n hx hb dX12_lower_23 rfl (lv_at hl 3 rfl) ?_
  refine lv_iload hx hb dX12_lower_24 (lv_at hl 4 rfl) ?_
  refine lv_aload_n hx hb dX12_lower_26 rfl (lv_at hl 0 rfl) ?_
  refine g_X12_160 Cx hW (k := 231) (by decide) rfl (v := .ref (G.2.2.1 + 280)) (rd_90 iu_5) dX12_lower_27 ?_
  refine lv_iconst (v := iv 0) hx hb dX12_lower_30 (by decide) ?_
  refine lv_aload_n hx hb dX12_lower_31 rfl (lv_at hl 0 rfl) ?_
  refine g_X12_29 Cx hW (k := 231) (by decide) rfl (v := .ref (G.2.2.1 + 238)) (rd_8 iu_5) dX12_lower_32 ?_
  refine lv_iconst (v := iv 0) hx hb dX12_lower_35 (by decide) ?_
  refine lv_aload_n hx hb dX12_lower_36 rfl (lv_at hl 0 rfl) ?_
  refine g_X12_35 Cx hW (k := 231) (by decide) rfl (v := .ref (G.2.2.1 + 240)) (rd_10 iu_5) dX12_lower_37 ?_
  refine lv_iconst (v := iv 0) hx hb dX12_lower_40 (by decide) ?_
  have hbp41 : 0 < u_5.2.1 280 0 := by rw [show u_5.2.1 280 = u_5.2.1 280 from (funext fun j => rfl)]; exact hpcp
  refine sBv (sV (As := [.ref (G.2.2.1 + kb), .int (iv qo), .ref (G.2.2.1 + 280), .int (iv 0), .ref (G.2.2.1 + 238), .int (iv 0), .ref (G.2.2.1 + 240), .int (iv 0)]) (rest := []) (k := 231) Cx (s_X12_divide l G u_5 (ka := kb) (po := qo) (kb := 280) (qo := 0) (kc := 238) (ro := 0) (kd := 240) (eo := 0) (Nka := Nkb) (Nkb := 68) (Nkc := 68) (Nkd := 68) (La := 6) (Lb := 6) (Ld := 7) iu_5 hikb ⟨rfl, by decide, by decide, by decide, rfl⟩ ⟨rfl, by decide, by decide, by decide, rfl⟩ ⟨rfl, by decide, by decide, by decide, rfl⟩ (neS nkb238) (neS nkb240) (show (238 : Nat) ≠ 280 by decide) (show (240 : Nat) ≠ 280 by decide) (show (238 : Nat) ≠ 240 by decide) (neD nkb233) (show (280 : Nat) ≠ 233 by decide) (show (280 : Nat) ≠ 234 by decide) (show (280 : Nat) ≠ 235 by decide) (show (238 : Nat) ≠ 233 by decide) (show (238 : Nat) ≠ 234 by decide) (show (238 : Nat) ≠ 235 by decide) (show (240 : Nat) ≠ 233 by decide) (show (240 : Nat) ≠ 234 by decide) (show (240 : Nat) ≠ 235 by decide) (by omega) (by omega) (by rw [show u_5.2.1 kb = S.2.1 kb from (funext fun j => ((fu_5 kb (p1_no (neD nkb280))).2.1 j).trans ((fu_1 kb (pl_c (neD nkb233) (pl_c (neD nkb234) (pl_c (neD nkb235) (pl_c (neD nkb239) (pl_c (neD nkb240) (pl_c (neD nkb241) (pl_c (neD nkb242) rfl)))))))).2.1 j))]; exact hB) xu_5.1.1) (c_X12_266 Cx rfl rfl (rmk_ok (by omega) (by decide))) hW (by decide) rfl rfl rfl hl.1 rfl (Nat.le_of_ble_eq_true rfl) dX12_lower_41 ⟨Nat.le_of_ble_eq_true rfl, Nat.le_of_ble_eq_true rfl⟩) hL (fun u_9 H locs k_10 hW hL => ?_)
  obtain ⟨iu_9, fu_9, xu_9⟩ := k_10
  have F_11 := F_7.trans (fu_9.to (pl_sub (by decide)))
  have g_12 : FF S u_9 (fl []) := FF.fr g_8 fu_9 rfl
  refine lv_aload_n hx hb dX12_lower_44 rfl (lv_at hl 0 rfl) ?_
  refine lv_aload_n hx hb dX12_lower_45 rfl (lv_at hl 1 rfl) ?_
  refine lv_iload_n hx hb dX12_lower_46 rfl (lv_at hl 2 rfl) ?_
  refine lv_aload_n hx hb dX12_lower_47 rfl (lv_at hl 0 rfl) ?_
  refine g_X12_160 Cx hW (k := 231) (by decide) rfl (v := .ref (G.2.2.1 + 280)) (rd_90 iu_9) dX12_lower_48 ?_
  refine lv_iconst (v := iv 0) hx hb dX12_lower_51 (by decide) ?_
  refine lv_aload_n hx hb dX12_lower_52 rfl (lv_at hl 0 rfl) ?_
  refine g_X12_26 Cx hW (k := 231) (by decide) rfl (v := .ref (G.2.2.1 + 237)) (rd_7 iu_9) dX12_lower_53 ?_
  refine lv_iconst (v := iv 0) hx hb dX12_lower_56 (by decide) ?_
  refine lv_aload_n hx hb dX12_lower_57 rfl (lv_at hl 0 rfl) ?_
  refine g_X12_35 Cx hW (k := 231) (by decide) rfl (v := .ref (G.2.2.1 + 240)) (rd_10 iu_9) dX12_lower_58 ?_
  refine lv_iconst (v := iv 0) hx hb dX12_lower_61 (by decide) ?_
  have hbp62 : 0 < u_9.2.1 280 0 := by rw [show u_9.2.1 280 = u_5.2.1 280 from (funext fun j => (fu_9 280 rfl).2.1 j)]; exact hpcp
  refine sBv (sV (As := [.ref (G.2.2.1 + ka), .int (iv po), .ref (G.2.2.1 + 280), .int (iv 0), .ref (G.2.2.1 + 237), .int (iv 0), .ref (G.2.2.1 + 240), .int (iv 0)]) (rest := []) (k := 231) Cx (s_X12_divide l G u_9 (ka := ka) (po := po) (kb := 280) (qo := 0) (kc := 237) (ro := 0) (kd := 240) (eo := 0) (Nka := Nka) (Nkb := 68) (Nkc := 68) (Nkd := 68) (La := 2) (Lb := 6) (Ld := 7) iu_9 hika ⟨rfl, by decide, by decide, by decide, rfl⟩ ⟨rfl, by decide, by decide, by decide, rfl⟩ ⟨rfl, by decide, by decide, by decide, rfl⟩ (neS nka237) (neS nka240) (show (237 : Nat) ≠ 280 by decide) (show (240 : Nat) ≠ 280 by decide) (show (237 : Nat) ≠ 240 by decide) (neD nka233) (show (280 : Nat) ≠ 233 by decide) (show (280 : Nat) ≠ 234 by decide) (show (280 : Nat) ≠ 235 by decide) (show (237 : Nat) ≠ 233 by decide) (show (237 : Nat) ≠ 234 by decide) (show (237 : Nat) ≠ 235 by decide) (show (240 : Nat) ≠ 233 by decide) (show (240 : Nat) ≠ 234 by decide) (show (240 : Nat) ≠ 235 by decide) (by omega) (by omega) (by rw [show u_9.2.1 ka = S.2.1 ka from (funext fun j => ((fu_9 ka (pl_c (neD nka233) (pl_c (neD nka234) (pl_c (neD nka235) (pl_c (neD nka238) (pl_c (neD nka240) rfl)))))).2.1 j).trans (((fu_5 ka (p1_no (neD nka280))).2.1 j).trans ((fu_1 ka (pl_c (neD nka233) (pl_c (neD nka234) (pl_c (neD nka235) (pl_c (neD nka239) (pl_c (neD nka240) (pl_c (neD nka241) (pl_c (neD nka242) rfl)))))))).2.1 j)))]; exact hA) (by rw [show u_9.2.1 280 = u_5.2.1 280 from (funext fun j => (fu_9 280 rfl).2.1 j)]; exact xu_5.1.1)) (c_X12_266 Cx rfl rfl (rmk_ok (by omega) (by decide))) hW (by decide) rfl rfl rfl hl.1 rfl (Nat.le_of_ble_eq_true rfl) dX12_lower_62 ⟨Nat.le_of_ble_eq_true rfl, Nat.le_of_ble_eq_true rfl⟩) hL (fun u_13 H locs k_14 hW hL => ?_)
  obtain ⟨iu_13, fu_13, xu_13⟩ := k_14
  have F_15 := F_11.trans (fu_13.to (pl_sub (by decide)))
  have g_16 : FF S u_13 (fl []) := FF.fr g_12 fu_13 rfl
  exact sVret Cx hr hlk hW hL ⟨iu_13, F_15, g_16, ⟨xu_13.1.mono (by omega), (by rw [show u_13.2.1 238 = u_9.2.1 238 from (funext fun j => (fu_13 238 rfl).2.1 j)]; exact xu_9.1)⟩⟩ dX12_lower_65

set_option maxRecDepth 100000 in
set_option maxHeartbeats 4000000 in
theorem s_X12_told_ (l : Launch) (G : sG) (S : sS) {a b : Int} (hI : dX G S) (ha : -2147483648 ≤ a ∧ a ≤ 2147483647) (hb : -2147483648 ≤ b ∧ b ≤ 2147483647) (hXI : XI S) : Met l yX12_told_ (.code yX12_told_ cX12_told_ 6 (some .int) :: tb) (rmk 8 0 0) (sPc G 294 S [.ref (G.2.2.1 + 231), .int (iv a), .int (iv b)]) (sQi G 294 (fun r u => dX G u ∧ Fr S u (pl [231, 233, 234, 235, 236, 237, 238, 239, 240, 241, 242, 280, 282]) ∧ FF S u (fl [6]) ∧ (XI u))) 0 0 (sF G) := by
  refine sEnter (by decide) (Nat.le_of_ble_eq_true rfl) ?_
  intro p e s m args below meth c Cx hr hlk hnm hW ls hl
  have Cx : sC G p m c cX12_told_ 6 s args RX12 := Cx
  obtain ⟨hx, hb, hml, hown, hts⟩ := id Cx.1
  have hL : sL G [] := sL_nil
  have hl : lv_has ls 6 [(0, .ref (G.2.2.1 + 231)), (1, .int (iv a)), (2, .int (iv b))] := hl
  have hW0 := hW
  have hm1 := hXI.1.1
  unfold MD at hm1
  refine lv_aload_n hx hb dX12_told__0 rfl (lv_at hl 0 rfl) ?_
  have q_1 : (-2147483648) ≤ S.1 231 61 ∧ S.1 231 61 ≤ 2147483647 := hI.fi 61
  refine g_X12_477 Cx hW (k := 231) (by decide) rfl (v := S.1 231 61) rfl dX12_told__1 ?_
  refine r_if_eq (tgt := 35) hx hb ⟨(by omega), (by omega)⟩ dX12_told__4 (by decide) (fun c_2 => ?_) (fun c_2 => ?_)
  · refine lv_iconst (v := iv (-1)) hx hb dX12_told__35 (by decide) ?_
    exact sIret Cx hr hlk hW hL ⟨hI, (Fr.rf : Fr S S (pl [231, 233, 234, 235, 236, 237, 238, 239, 240, 241, 242, 280, 282])), FF.rf, hXI⟩ dX12_told__36
  · have hei := XI.ei hXI (hI.fi 70) (by omega)
    have hd1 := hei.2.1.1
    refine lv_iload_n hx hb dX12_told__7 rfl (lv_at hl 1 rfl) ?_
    refine r_if_lt (tgt := 18) hx hb ⟨(by omega), (by omega)⟩ dX12_told__8 (by decide) (fun c_3 => ?_) (fun c_3 => ?_)
    · refine lv_iload_n hx hb dX12_told__18 rfl (lv_at hl 1 rfl) ?_
      refine lv_aload_n hx hb dX12_told__19 rfl (lv_at hl 0 rfl) ?_
      have q_4 : (-2147483648) ≤ S.1 231 46 ∧ S.1 231 46 ≤ 2147483647 := hI.fi 46
      refine g_X12_465 Cx hW (k := 231) (by decide) rfl (v := S.1 231 46) rfl dX12_told__20 ?_
      refine r_icmp_gt (tgt := 35) hx hb ⟨(by omega), (by omega)⟩ ⟨(by omega), (by omega)⟩ dX12_told__23 (by decide) (fun c_5 => ?_) (fun c_5 => ?_)
      · refine lv_iconst (v := iv (-1)) hx hb dX12_told__35 (by decide) ?_
        exact sIret Cx hr hlk hW hL ⟨hI, (Fr.rf : Fr S S (pl [231, 233, 234, 235, 236, 237, 238, 239, 240, 241, 242, 280, 282])), FF.rf, hXI⟩ dX12_told__36
      · refine lv_iload_n hx hb dX12_told__26 rfl (lv_at hl 1 rfl) ?_
        refine lv_aload_n hx hb dX12_told__27 rfl (lv_at hl 0 rfl) ?_
        have q_6 : (-2147483648) ≤ S.1 231 63 ∧ S.1 231 63 ≤ 2147483647 := hI.fi 63
        refine g_X12_480 Cx hW (k := 231) (by decide) rfl (v := S.1 231 63) rfl dX12_told__28 ?_
        refine r_ineg hx hb dX12_told__31 ?_
        refine r_icmp_ge (tgt := 37) hx hb ⟨(by omega), (by omega)⟩ ⟨(by omega), (by omega)⟩ dX12_told__32 (by decide) (fun c_7 => ?_) (fun c_7 => ?_)
        · refine lv_iconst (v := iv 0) hx hb dX12_told__37 (by decide) ?_
          refine lv_istore_n (lv' := [(3, .int (iv 0)), (0, .ref (G.2.2.1 + 231)), (1, .int (iv a)), (2, .int (iv b))]) hx hb dX12_told__38 rfl hl (by decide) rfl (fun ls hl => ?_)
          have join_187 : ∀ (S187 : sS) (flg : Int) (H : Heap) (locs : List Loc) (ls : Array Slot), (dX G S187) → (Fr S S187 (pl [231, 233, 234, 235, 236, 237, 238, 239, 240, 241, 242, 280, 282])) → (Fr S S187 (pl [233, 234, 235, 237, 238, 239, 240, 241, 242, 280, 282])) → (FF S S187 (fl [6])) → (FF S S187 (fl [])) → (NO (S187.2.1 237) 0 7) → (NO (S187.2.1 238) 0 7) → (0 ≤ flg ∧ flg ≤ 1) → sW G 294 S187 H → sL G locs → lv_has ls 6 [(3, .int (iv flg)), (0, .ref (G.2.2.1 + 231)), (1, .int (iv a)), (2, .int (iv b))] → W p l e (rmk 8 0 0) s m args below meth c H locs 0 0 (MQ below (sQi G 294 (fun r u => dX G u ∧ Fr S u (pl [231, 233, 234, 235, 236, 237, 238, 239, 240, 241, 242, 280, 282]) ∧ FF S u (fl [6]) ∧ (XI u))) args s 0 0 (sF G)) (F0 m 187 ls []) := by
            intro S187 flg H locs ls hI187 hFm187 hL187_ hGm187 gL187_ hN1 hN2 hfl hW hL hl
            have join_199 : ∀ (S199 : sS)  (H : Heap) (locs : List Loc) (ls : Array Slot), (dX G S199) → (Fr S S199 (pl [231, 233, 234, 235, 236, 237, 238, 239, 240, 241, 242, 280, 282])) → (Fr S S199 (pl [233, 234, 235, 237, 238, 239, 240, 241, 242, 280, 282])) → (Fr S187 S199 (pl [237])) → (FF S S199 (fl [6])) → (FF S S199 (fl [])) → (FF S187 S199 (fl [])) → (NO (S199.2.1 237) 0 7) → (NO (S199.2.1 238) 0 7) → sW G 294 S199 H → sL G locs → lv_has ls 6 [(3, .int (iv flg)), (0, .ref (G.2.2.1 + 231)), (1, .int (iv a)), (2, .int (iv b))] → W p l e (rmk 8 0 0) s m args below meth c H locs 0 0 (MQ below (sQi G 294 (fun r u => dX G u ∧ Fr S u (pl [231, 233, 234, 235, 236, 237, 238, 239, 240, 241, 242, 280, 282]) ∧ FF S u (fl [6]) ∧ (XI u))) args s 0 0 (sF G)) (F0 m 199 ls []) := by
              intro S199  H locs ls hI199 hFm199 hFL187199 hL199_ hGm199 hGL187199 gL199_ hM1 hM2 hW hL hl
              refine lv_aload_n hx hb dX12_told__199 rfl (lv_at hl 1 rfl) ?_
              refine lv_iconst (v := iv 0) hx hb dX12_told__200 (by decide) ?_
              refine p_X12_259 Cx hW hL (k := 231) (by decide) rfl dX12_told__201 (fun H locs hW hL => ?_)
              have F_8 : Fr S (uF S199 231 6 0) (pl [231, 233, 234, 235, 236, 237, 238, 239, 240, 241, 242, 280, 282]) := hFm199.F rfl
              have g_9 : FF S (uF S199 231 6 0) (fl [6]) := FF.F hGm199 rfl
              have i_10 : dX G (uF S199 231 6 0) := hI199.F (i := 6) (show (-2147483648) ≤ 0 ∧ 0 ≤ 2147483647 from ⟨by omega, by omega⟩)
              refine lv_aload_n hx hb dX12_told__204 rfl (lv_at hl 1 rfl) ?_
              refine lv_aload_n hx hb dX12_told__205 rfl (lv_at hl 1 rfl) ?_
              refine g_X12_26 Cx hW (k := 231) (by decide) rfl (v := .ref (G.2.2.1 + 237)) (rd_7 i_10) dX12_told__206 ?_
              refine lv_iconst (v := iv 0) hx hb dX12_told__209 (by decide) ?_
              have lk_11 : (uF S199 231 6 0).1 231 6 = 0 := uF_on
              refine sBv (sV (As := [.ref (G.2.2.1 + 237), .int (iv 0)]) (rest := []) (k := 231) Cx (s_X12_spell l G (uF S199 231 6 0) (ka := 237) (po := 0) (Nka := 68) (La := 7) i_10 ⟨rfl, by decide, by decide, by decide, rfl⟩ (by omega) (by omega) (by rw [show (uF S199 231 6 0).2.1 237 = S199.2.1 237 from (funext fun j => uF_a)]; exact hM1) (show (237 : Nat) ≠ 231 by decide) (show (237 : Nat) ≠ 236 by decide)) (c_X12_594 Cx rfl rfl (rmk_ok (by omega) (by decide))) hW (by decide) rfl rfl rfl hl.1 rfl (Nat.le_of_ble_eq_true rfl) dX12_told__210 ⟨Nat.le_of_ble_eq_true rfl, Nat.le_of_ble_eq_true rfl⟩) hL (fun u_12 H locs k_13 hW hL => ?_)
              obtain ⟨iu_12, fu_12, gu_12, xu_12⟩ := k_13
              have F_14 := F_8.trans (fu_12.to (pl_sub (by decide)))
              have g_15 : FF S u_12 (fl [6]) := FF.trans g_9 (FF.to gu_12 (fl_sub (by decide)))
              refine lv_aload_n hx hb dX12_told__213 rfl (lv_at hl 1 rfl) ?_
              refine g_X12_29 Cx hW (k := 231) (by decide) rfl (v := .ref (G.2.2.1 + 238)) (rd_8 iu_12) dX12_told__214 ?_
              refine lv_iconst (v := iv 0) hx hb dX12_told__217 (by decide) ?_
              refine rIald Cx hW (k := 238) (by decide) rfl (by decide) (by omega) (by omega) dX12_told__218 ?_
              have q_16 : (-2147483648) ≤ S187.2.1 238 0 ∧ S187.2.1 238 0 ≤ 2147483647 := hI187.ai 238 0
              refine r_i (b := S187.2.1 238 0) (((fu_12 238 rfl).2.1 0).trans ((uF_a).trans ((hL199_ 238 rfl).2.1 0))) ?_
              refine lv_iconst (v := iv 1) hx hb dX12_told__219 (by decide) ?_
              refine r_icmp_ne (tgt := 233) hx hb ⟨(by omega), (by omega)⟩ ⟨(by omega), (by omega)⟩ dX12_told__220 (by decide) (fun c_17 => ?_) (fun c_17 => ?_)
              · refine lv_aload_n hx hb dX12_told__233 rfl (lv_at hl 1 rfl) ?_
                refine lv_bipush (v := iv 47) hx hb dX12_told__234 (by decide) ?_
                have q_18 : (-2147483648) ≤ u_12.1 231 6 ∧ u_12.1 231 6 ≤ 2147483647 := iu_12.fi 6
                refine sBv (sV (As := [.int (iv 47)]) (rest := []) (k := 231) Cx (s_X12_letter l G u_12 (ch := 47) iu_12 (by omega) (by omega)) (c_X12_262 Cx rfl rfl (rmk_ok (by omega) (by decide))) hW (by decide) rfl rfl rfl hl.1 rfl (Nat.le_of_ble_eq_true rfl) dX12_told__236 ⟨Nat.le_of_ble_eq_true rfl, Nat.le_of_ble_eq_true rfl⟩) hL (fun u_19 H locs k_20 hW hL => ?_)
                obtain ⟨iu_19, fu_19, gu_19, xu_19⟩ := k_20
                have F_21 := F_14.trans (fu_19.to (pl_sub (by decide)))
                have g_22 : FF S u_19 (fl [6]) := FF.trans g_15 (FF.to gu_19 (fl_sub (by decide)))
                refine lv_aload_n hx hb dX12_told__239 rfl (lv_at hl 1 rfl) ?_
                refine lv_aload_n hx hb dX12_told__240 rfl (lv_at hl 1 rfl) ?_
                refine g_X12_29 Cx hW (k := 231) (by decide) rfl (v := .ref (G.2.2.1 + 238)) (rd_8 iu_19) dX12_told__241 ?_
                refine lv_iconst (v := iv 0) hx hb dX12_told__244 (by decide) ?_
                have q_23 : (-2147483648) ≤ u_19.1 231 6 ∧ u_19.1 231 6 ≤ 2147483647 := iu_19.fi 6
                refine sBv (sV (As := [.ref (G.2.2.1 + 238), .int (iv 0)]) (rest := []) (k := 231) Cx (s_X12_spell l G u_19 (ka := 238) (po := 0) (Nka := 68) (La := 7) iu_19 ⟨rfl, by decide, by decide, by decide, rfl⟩ (by omega) (by omega) (by rw [show u_19.2.1 238 = S199.2.1 238 from (funext fun j => ((fu_19 238 rfl).2.1 j).trans (((fu_12 238 rfl).2.1 j).trans (uF_a)))]; exact hM2) (show (238 : Nat) ≠ 231 by decide) (show (238 : Nat) ≠ 236 by decide)) (c_X12_594 Cx rfl rfl (rmk_ok (by omega) (by decide))) hW (by decide) rfl rfl rfl hl.1 rfl (Nat.le_of_ble_eq_true rfl) dX12_told__245 ⟨Nat.le_of_ble_eq_true rfl, Nat.le_of_ble_eq_true rfl⟩) hL (fun u_24 H locs k_25 hW hL => ?_)
                obtain ⟨iu_24, fu_24, gu_24, xu_24⟩ := k_25
                have F_26 := F_21.trans (fu_24.to (pl_sub (by decide)))
                have g_27 : FF S u_24 (fl [6]) := FF.trans g_22 (FF.to gu_24 (fl_sub (by decide)))
                refine lv_aload_n hx hb dX12_told__248 rfl (lv_at hl 1 rfl) ?_
                refine lv_iload_n hx hb dX12_told__249 rfl (lv_at hl 3 rfl) ?_
                have q_28 : (-2147483648) ≤ u_24.1 231 6 ∧ u_24.1 231 6 ≤ 2147483647 := iu_24.fi 6
                refine sBi (sV (As := [.int (iv b)]) (rest := []) (k := 231) Cx (s_X12_letterAt l G u_24 (a := b) iu_24 (by omega) (by omega)) (c_X12_686 Cx rfl rfl (rmk_ok (by omega) (by decide))) hW (by decide) rfl rfl rfl hl.1 rfl (Nat.le_of_ble_eq_true rfl) dX12_told__250 ⟨Nat.le_of_ble_eq_true rfl, Nat.le_of_ble_eq_true rfl⟩) hL (fun r_31 u_29 H locs k_30 hW hL => ?_)
                rw [k_30] at hW
                exact sIret Cx hr hlk hW hL ⟨iu_24, F_26, g_27, (XI.sm (S := S) (u := u_24) hXI ((gu_24 46 rfl).trans ((gu_19 46 rfl).trans ((gu_12 46 rfl).trans ((uF_ne (fun h => absurd h.2 (by decide))).trans ((gL199_ 46 rfl).trans (gL187_ 46 rfl)))))) ((gu_24 47 rfl).trans ((gu_19 47 rfl).trans ((gu_12 47 rfl).trans ((uF_ne (fun h => absurd h.2 (by decide))).trans ((gL199_ 47 rfl).trans (gL187_ 47 rfl)))))) ((gu_24 48 rfl).trans ((gu_19 48 rfl).trans ((gu_12 48 rfl).trans ((uF_ne (fun h => absurd h.2 (by decide))).trans ((gL199_ 48 rfl).trans (gL187_ 48 rfl)))))) ((gu_24 58 rfl).trans ((gu_19 58 rfl).trans ((gu_12 58 rfl).trans ((uF_ne (fun h => absurd h.2 (by decide))).trans ((gL199_ 58 rfl).trans (gL187_ 58 rfl)))))) ((gu_24 59 rfl).trans ((gu_19 59 rfl).trans ((gu_12 59 rfl).trans ((uF_ne (fun h => absurd h.2 (by decide))).trans ((gL199_ 59 rfl).trans (gL187_ 59 rfl)))))) ((gu_24 60 rfl).trans ((gu_19 60 rfl).trans ((gu_12 60 rfl).trans ((uF_ne (fun h => absurd h.2 (by decide))).trans ((gL199_ 60 rfl).trans (gL187_ 60 rfl)))))) ((gu_24 61 rfl).trans ((gu_19 61 rfl).trans ((gu_12 61 rfl).trans ((uF_ne (fun h => absurd h.2 (by decide))).trans ((gL199_ 61 rfl).trans (gL187_ 61 rfl)))))) ((gu_24 62 rfl).trans ((gu_19 62 rfl).trans ((gu_12 62 rfl).trans ((uF_ne (fun h => absurd h.2 (by decide))).trans ((gL199_ 62 rfl).trans (gL187_ 62 rfl)))))) ((gu_24 63 rfl).trans ((gu_19 63 rfl).trans ((gu_12 63 rfl).trans ((uF_ne (fun h => absurd h.2 (by decide))).trans ((gL199_ 63 rfl).trans (gL187_ 63 rfl)))))) ((gu_24 65 rfl).trans ((gu_19 65 rfl).trans ((gu_12 65 rfl).trans ((uF_ne (fun h => absurd h.2 (by decide))).trans ((gL199_ 65 rfl).trans (gL187_ 65 rfl)))))) ((gu_24 68 rfl).trans ((gu_19 68 rfl).trans ((gu_12 68 rfl).trans ((uF_ne (fun h => absurd h.2 (by decide))).trans ((gL199_ 68 rfl).trans (gL187_ 68 rfl)))))) ((gu_24 69 rfl).trans ((gu_19 69 rfl).trans ((gu_12 69 rfl).trans ((uF_ne (fun h => absurd h.2 (by decide))).trans ((gL199_ 69 rfl).trans (gL187_ 69 rfl)))))) ((gu_24 70 rfl).trans ((gu_19 70 rfl).trans ((gu_12 70 rfl).trans ((uF_ne (fun h => absurd h.2 (by decide))).trans ((gL199_ 70 rfl).trans (gL187_ 70 rfl)))))) ((gu_24 71 rfl).trans ((gu_19 71 rfl).trans ((gu_12 71 rfl).trans ((uF_ne (fun h => absurd h.2 (by decide))).trans ((gL199_ 71 rfl).trans (gL187_ 71 rfl)))))) ((gu_24 72 rfl).trans ((gu_19 72 rfl).trans ((gu_12 72 rfl).trans ((uF_ne (fun h => absurd h.2 (by decide))).trans ((gL199_ 72 rfl).trans (gL187_ 72 rfl)))))) ((gu_24 78 rfl).trans ((gu_19 78 rfl).trans ((gu_12 78 rfl).trans ((uF_ne (fun h => absurd h.2 (by decide))).trans ((gL199_ 78 rfl).trans (gL187_ 78 rfl)))))) ((gu_24 79 rfl).trans ((gu_19 79 rfl).trans ((gu_12 79 rfl).trans ((uF_ne (fun h => absurd h.2 (by decide))).trans ((gL199_ 79 rfl).trans (gL187_ 79 rfl)))))) ((gu_24 84 rfl).trans ((gu_19 84 rfl).trans ((gu_12 84 rfl).trans ((uF_ne (fun h => absurd h.2 (by decide))).trans ((gL199_ 84 rfl).trans (gL187_ 84 rfl)))))) ((gu_24 86 rfl).trans ((gu_19 86 rfl).trans ((gu_12 86 rfl).trans ((uF_ne (fun h => absurd h.2 (by decide))).trans ((gL199_ 86 rfl).trans (gL187_ 86 rfl)))))) (funext fun j => ((fu_24 261 rfl).2.1 j).trans (((fu_19 261 rfl).2.1 j).trans (((fu_12 261 rfl).2.1 j).trans ((uF_a).trans (((hL199_ 261 rfl).2.1 j).trans ((hL187_ 261 rfl).2.1 j)))))) (funext fun j => ((fu_24 262 rfl).2.1 j).trans (((fu_19 262 rfl).2.1 j).trans (((fu_12 262 rfl).2.1 j).trans ((uF_a).trans (((hL199_ 262 rfl).2.1 j).trans ((hL187_ 262 rfl).2.1 j)))))) (funext fun j => ((fu_24 264 rfl).2.1 j).trans (((fu_19 264 rfl).2.1 j).trans (((fu_12 264 rfl).2.1 j).trans ((uF_a).trans (((hL199_ 264 rfl).2.1 j).trans ((hL187_ 264 rfl).2.1 j)))))) (funext fun j => ((fu_24 265 rfl).2.1 j).trans (((fu_19 265 rfl).2.1 j).trans (((fu_12 265 rfl).2.1 j).trans ((uF_a).trans (((hL199_ 265 rfl).2.1 j).trans ((hL187_ 265 rfl).2.1 j)))))) (funext fun j => ((fu_24 266 rfl).2.1 j).trans (((fu_19 266 rfl).2.1 j).trans (((fu_12 266 rfl).2.1 j).trans ((uF_a).trans (((hL199_ 266 rfl).2.1 j).trans ((hL187_ 266 rfl).2.1 j)))))) (funext fun j => ((fu_24 267 rfl).2.1 j).trans (((fu_19 267 rfl).2.1 j).trans (((fu_12 267 rfl).2.1 j).trans ((uF_a).trans (((hL199_ 267 rfl).2.1 j).trans ((hL187_ 267 rfl).2.1 j)))))) (funext fun j => ((fu_24 268 rfl).2.1 j).trans (((fu_19 268 rfl).2.1 j).trans (((fu_12 268 rfl).2.1 j).trans ((uF_a).trans (((hL199_ 268 rfl).2.1 j).trans ((hL187_ 268 rfl).2.1 j)))))) (funext fun j => ((fu_24 269 rfl).2.1 j).trans (((fu_19 269 rfl).2.1 j).trans (((fu_12 269 rfl).2.1 j).trans ((uF_a).trans (((hL199_ 269 rfl).2.1 j).trans ((hL187_ 269 rfl).2.1 j)))))) (funext fun j => ((fu_24 270 rfl).2.1 j).trans (((fu_19 270 rfl).2.1 j).trans (((fu_12 270 rfl).2.1 j).trans ((uF_a).trans (((hL199_ 270 rfl).2.1 j).trans ((hL187_ 270 rfl).2.1 j)))))) (funext fun j => ((fu_24 271 rfl).2.1 j).trans (((fu_19 271 rfl).2.1 j).trans (((fu_12 271 rfl).2.1 j).trans ((uF_a).trans (((hL199_ 271 rfl).2.1 j).trans ((hL187_ 271 rfl).2.1 j)))))) (funext fun j => ((fu_24 272 rfl).2.1 j).trans (((fu_19 272 rfl).2.1 j).trans (((fu_12 272 rfl).2.1 j).trans ((uF_a).trans (((hL199_ 272 rfl).2.1 j).trans ((hL187_ 272 rfl).2.1 j)))))) (funext fun j => ((fu_24 273 rfl).2.1 j).trans (((fu_19 273 rfl).2.1 j).trans (((fu_12 273 rfl).2.1 j).trans ((uF_a).trans (((hL199_ 273 rfl).2.1 j).trans ((hL187_ 273 rfl).2.1 j)))))) (funext fun j => ((fu_24 274 rfl).2.1 j).trans (((fu_19 274 rfl).2.1 j).trans (((fu_12 274 rfl).2.1 j).trans ((uF_a).trans (((hL199_ 274 rfl).2.1 j).trans ((hL187_ 274 rfl).2.1 j)))))) (funext fun j => ((fu_24 260 rfl).2.2.1 j).trans (((fu_19 260 rfl).2.2.1 j).trans (((fu_12 260 rfl).2.2.1 j).trans ((uF_l).trans (((hL199_ 260 rfl).2.2.1 j).trans ((hL187_ 260 rfl).2.2.1 j)))))) (funext fun j => ((fu_24 290 rfl).2.2.1 j).trans (((fu_19 290 rfl).2.2.1 j).trans (((fu_12 290 rfl).2.2.1 j).trans ((uF_l).trans (((hL199_ 290 rfl).2.2.1 j).trans ((hL187_ 290 rfl).2.2.1 j)))))))⟩ dX12_told__253
              · refine lv_aload_n hx hb dX12_told__223 rfl (lv_at hl 1 rfl) ?_
                refine g_X12_29 Cx hW (k := 231) (by decide) rfl (v := .ref (G.2.2.1 + 238)) (rd_8 iu_12) dX12_told__224 ?_
                refine lv_iconst (v := iv 1) hx hb dX12_told__227 (by decide) ?_
                refine rIald Cx hW (k := 238) (by decide) rfl (by decide) (by omega) (by omega) dX12_told__228 ?_
                have q_32 : (-2147483648) ≤ S187.2.1 238 1 ∧ S187.2.1 238 1 ≤ 2147483647 := hI187.ai 238 1
                refine r_i (b := S187.2.1 238 1) (((fu_12 238 rfl).2.1 1).trans ((uF_a).trans ((hL199_ 238 rfl).2.1 1))) ?_
                refine lv_iconst (v := iv 1) hx hb dX12_told__229 (by decide) ?_
                refine r_icmp_eq (tgt := 248) hx hb ⟨(by omega), (by omega)⟩ ⟨(by omega), (by omega)⟩ dX12_told__230 (by decide) (fun c_33 => ?_) (fun c_33 => ?_)
                · refine lv_aload_n hx hb dX12_told__248 rfl (lv_at hl 1 rfl) ?_
                  refine lv_iload_n hx hb dX12_told__249 rfl (lv_at hl 3 rfl) ?_
                  have q_34 : (-2147483648) ≤ u_12.1 231 6 ∧ u_12.1 231 6 ≤ 2147483647 := iu_12.fi 6
                  refine sBi (sV (As := [.int (iv b)]) (rest := []) (k := 231) Cx (s_X12_letterAt l G u_12 (a := b) iu_12 (by omega) (by omega)) (c_X12_686 Cx rfl rfl (rmk_ok (by omega) (by decide))) hW (by decide) rfl rfl rfl hl.1 rfl (Nat.le_of_ble_eq_true rfl) dX12_told__250 ⟨Nat.le_of_ble_eq_true rfl, Nat.le_of_ble_eq_true rfl⟩) hL (fun r_37 u_35 H locs k_36 hW hL => ?_)
                  rw [k_36] at hW
                  exact sIret Cx hr hlk hW hL ⟨iu_12, F_14, g_15, (XI.sm (S := S) (u := u_12) hXI ((gu_12 46 rfl).trans ((uF_ne (fun h => absurd h.2 (by decide))).trans ((gL199_ 46 rfl).trans (gL187_ 46 rfl)))) ((gu_12 47 rfl).trans ((uF_ne (fun h => absurd h.2 (by decide))).trans ((gL199_ 47 rfl).trans (gL187_ 47 rfl)))) ((gu_12 48 rfl).trans ((uF_ne (fun h => absurd h.2 (by decide))).trans ((gL199_ 48 rfl).trans (gL187_ 48 rfl)))) ((gu_12 58 rfl).trans ((uF_ne (fun h => absurd h.2 (by decide))).trans ((gL199_ 58 rfl).trans (gL187_ 58 rfl)))) ((gu_12 59 rfl).trans ((uF_ne (fun h => absurd h.2 (by decide))).trans ((gL199_ 59 rfl).trans (gL187_ 59 rfl)))) ((gu_12 60 rfl).trans ((uF_ne (fun h => absurd h.2 (by decide))).trans ((gL199_ 60 rfl).trans (gL187_ 60 rfl)))) ((gu_12 61 rfl).trans ((uF_ne (fun h => absurd h.2 (by decide))).trans ((gL199_ 61 rfl).trans (gL187_ 61 rfl)))) ((gu_12 62 rfl).trans ((uF_ne (fun h => absurd h.2 (by decide))).trans ((gL199_ 62 rfl).trans (gL187_ 62 rfl)))) ((gu_12 63 rfl).trans ((uF_ne (fun h => absurd h.2 (by decide))).trans ((gL199_ 63 rfl).trans (gL187_ 63 rfl)))) ((gu_12 65 rfl).trans ((uF_ne (fun h => absurd h.2 (by decide))).trans ((gL199_ 65 rfl).trans (gL187_ 65 rfl)))) ((gu_12 68 rfl).trans ((uF_ne (fun h => absurd h.2 (by decide))).trans ((gL199_ 68 rfl).trans (gL187_ 68 rfl)))) ((gu_12 69 rfl).trans ((uF_ne (fun h => absurd h.2 (by decide))).trans ((gL199_ 69 rfl).trans (gL187_ 69 rfl)))) ((gu_12 70 rfl).trans ((uF_ne (fun h => absurd h.2 (by decide))).trans ((gL199_ 70 rfl).trans (gL187_ 70 rfl)))) ((gu_12 71 rfl).trans ((uF_ne (fun h => absurd h.2 (by decide))).trans ((gL199_ 71 rfl).trans (gL187_ 71 rfl)))) ((gu_12 72 rfl).trans ((uF_ne (fun h => absurd h.2 (by decide))).trans ((gL199_ 72 rfl).trans (gL187_ 72 rfl)))) ((gu_12 78 rfl).trans ((uF_ne (fun h => absurd h.2 (by decide))).trans ((gL199_ 78 rfl).trans (gL187_ 78 rfl)))) ((gu_12 79 rfl).trans ((uF_ne (fun h => absurd h.2 (by decide))).trans ((gL199_ 79 rfl).trans (gL187_ 79 rfl)))) ((gu_12 84 rfl).trans ((uF_ne (fun h => absurd h.2 (by decide))).trans ((gL199_ 84 rfl).trans (gL187_ 84 rfl)))) ((gu_12 86 rfl).trans ((uF_ne (fun h => absurd h.2 (by decide))).trans ((gL199_ 86 rfl).trans (gL187_ 86 rfl)))) (funext fun j => ((fu_12 261 rfl).2.1 j).trans ((uF_a).trans (((hL199_ 261 rfl).2.1 j).trans ((hL187_ 261 rfl).2.1 j)))) (funext fun j => ((fu_12 262 rfl).2.1 j).trans ((uF_a).trans (((hL199_ 262 rfl).2.1 j).trans ((hL187_ 262 rfl).2.1 j)))) (funext fun j => ((fu_12 264 rfl).2.1 j).trans ((uF_a).trans (((hL199_ 264 rfl).2.1 j).trans ((hL187_ 264 rfl).2.1 j)))) (funext fun j => ((fu_12 265 rfl).2.1 j).trans ((uF_a).trans (((hL199_ 265 rfl).2.1 j).trans ((hL187_ 265 rfl).2.1 j)))) (funext fun j => ((fu_12 266 rfl).2.1 j).trans ((uF_a).trans (((hL199_ 266 rfl).2.1 j).trans ((hL187_ 266 rfl).2.1 j)))) (funext fun j => ((fu_12 267 rfl).2.1 j).trans ((uF_a).trans (((hL199_ 267 rfl).2.1 j).trans ((hL187_ 267 rfl).2.1 j)))) (funext fun j => ((fu_12 268 rfl).2.1 j).trans ((uF_a).trans (((hL199_ 268 rfl).2.1 j).trans ((hL187_ 268 rfl).2.1 j)))) (funext fun j => ((fu_12 269 rfl).2.1 j).trans ((uF_a).trans (((hL199_ 269 rfl).2.1 j).trans ((hL187_ 269 rfl).2.1 j)))) (funext fun j => ((fu_12 270 rfl).2.1 j).trans ((uF_a).trans (((hL199_ 270 rfl).2.1 j).trans ((hL187_ 270 rfl).2.1 j)))) (funext fun j => ((fu_12 271 rfl).2.1 j).trans ((uF_a).trans (((hL199_ 271 rfl).2.1 j).trans ((hL187_ 271 rfl).2.1 j)))) (funext fun j => ((fu_12 272 rfl).2.1 j).trans ((uF_a).trans (((hL199_ 272 rfl).2.1 j).trans ((hL187_ 272 rfl).2.1 j)))) (funext fun j => ((fu_12 273 rfl).2.1 j).trans ((uF_a).trans (((hL199_ 273 rfl).2.1 j).trans ((hL187_ 273 rfl).2.1 j)))) (funext fun j => ((fu_12 274 rfl).2.1 j).trans ((uF_a).trans (((hL199_ 274 rfl).2.1 j).trans ((hL187_ 274 rfl).2.1 j)))) (funext fun j => ((fu_12 260 rfl).2.2.1 j).trans ((uF_l).trans (((hL199_ 260 rfl).2.2.1 j).trans ((hL187_ 260 rfl).2.2.1 j)))) (funext fun j => ((fu_12 290 rfl).2.2.1 j).trans ((uF_l).trans (((hL199_ 290 rfl).2.2.1 j).trans ((hL187_ 290 rfl).2.2.1 j)))))⟩ dX12_told__253
                · refine lv_aload_n hx hb dX12_told__233 rfl (lv_at hl 1 rfl) ?_
                  refine lv_bipush (v := iv 47) hx hb dX12_told__234 (by decide) ?_
                  have q_38 : (-2147483648) ≤ u_12.1 231 6 ∧ u_12.1 231 6 ≤ 2147483647 := iu_12.fi 6
                  refine sBv (sV (As := [.int (iv 47)]) (rest := []) (k := 231) Cx (s_X12_letter l G u_12 (ch := 47) iu_12 (by omega) (by omega)) (c_X12_262 Cx rfl rfl (rmk_ok (by omega) (by decide))) hW (by decide) rfl rfl rfl hl.1 rfl (Nat.le_of_ble_eq_true rfl) dX12_told__236 ⟨Nat.le_of_ble_eq_true rfl, Nat.le_of_ble_eq_true rfl⟩) hL (fun u_39 H locs k_40 hW hL => ?_)
                  obtain ⟨iu_39, fu_39, gu_39, xu_39⟩ := k_40
                  have F_41 := F_14.trans (fu_39.to (pl_sub (by decide)))
                  have g_42 : FF S u_39 (fl [6]) := FF.trans g_15 (FF.to gu_39 (fl_sub (by decide)))
                  refine lv_aload_n hx hb dX12_told__239 rfl (lv_at hl 1 rfl) ?_
                  refine lv_aload_n hx hb dX12_told__240 rfl (lv_at hl 1 rfl) ?_
                  refine g_X12_29 Cx hW (k := 231) (by decide) rfl (v := .ref (G.2.2.1 + 238)) (rd_8 iu_39) dX12_told__241 ?_
                  refine lv_iconst (v := iv 0) hx hb dX12_told__244 (by decide) ?_
                  have q_43 : (-2147483648) ≤ u_39.1 231 6 ∧ u_39.1 231 6 ≤ 2147483647 := iu_39.fi 6
                  refine sBv (sV (As := [.ref (G.2.2.1 + 238), .int (iv 0)]) (rest := []) (k := 231) Cx (s_X12_spell l G u_39 (ka := 238) (po := 0) (Nka := 68) (La := 7) iu_39 ⟨rfl, by decide, by decide, by decide, rfl⟩ (by omega) (by omega) (by rw [show u_39.2.1 238 = S199.2.1 238 from (funext fun j => ((fu_39 238 rfl).2.1 j).trans (((fu_12 238 rfl).2.1 j).trans (uF_a)))]; exact hM2) (show (238 : Nat) ≠ 231 by decide) (show (238 : Nat) ≠ 236 by decide)) (c_X12_594 Cx rfl rfl (rmk_ok (by omega) (by decide))) hW (by decide) rfl rfl rfl hl.1 rfl (Nat.le_of_ble_eq_true rfl) dX12_told__245 ⟨Nat.le_of_ble_eq_true rfl, Nat.le_of_ble_eq_true rfl⟩) hL (fun u_44 H locs k_45 hW hL => ?_)
                  obtain ⟨iu_44, fu_44, gu_44, xu_44⟩ := k_45
                  have F_46 := F_41.trans (fu_44.to (pl_sub (by decide)))
                  have g_47 : FF S u_44 (fl [6]) := FF.trans g_42 (FF.to gu_44 (fl_sub (by decide)))
                  refine lv_aload_n hx hb dX12_told__248 rfl (lv_at hl 1 rfl) ?_
                  refine lv_iload_n hx hb dX12_told__249 rfl (lv_at hl 3 rfl) ?_
                  have q_48 : (-2147483648) ≤ u_44.1 231 6 ∧ u_44.1 231 6 ≤ 2147483647 := iu_44.fi 6
                  refine sBi (sV (As := [.int (iv b)]) (rest := []) (k := 231) Cx (s_X12_letterAt l G u_44 (a := b) iu_44 (by omega) (by omega)) (c_X12_686 Cx rfl rfl (rmk_ok (by omega) (by decide))) hW (by decide) rfl rfl rfl hl.1 rfl (Nat.le_of_ble_eq_true rfl) dX12_told__250 ⟨Nat.le_of_ble_eq_true rfl, Nat.le_of_ble_eq_true rfl⟩) hL (fun r_51 u_49 H locs k_50 hW hL => ?_)
                  rw [k_50] at hW
                  exact sIret Cx hr hlk hW hL ⟨iu_44, F_46, g_47, (XI.sm (S := S) (u := u_44) hXI ((gu_44 46 rfl).trans ((gu_39 46 rfl).trans ((gu_12 46 rfl).trans ((uF_ne (fun h => absurd h.2 (by decide))).trans ((gL199_ 46 rfl).trans (gL187_ 46 rfl)))))) ((gu_44 47 rfl).trans ((gu_39 47 rfl).trans ((gu_12 47 rfl).trans ((uF_ne (fun h => absurd h.2 (by decide))).trans ((gL199_ 47 rfl).trans (gL187_ 47 rfl)))))) ((gu_44 48 rfl).trans ((gu_39 48 rfl).trans ((gu_12 48 rfl).trans ((uF_ne (fun h => absurd h.2 (by decide))).trans ((gL199_ 48 rfl).trans (gL187_ 48 rfl)))))) ((gu_44 58 rfl).trans ((gu_39 58 rfl).trans ((gu_12 58 rfl).trans ((uF_ne (fun h => absurd h.2 (by decide))).trans ((gL199_ 58 rfl).trans (gL187_ 58 rfl)))))) ((gu_44 59 rfl).trans ((gu_39 59 rfl).trans ((gu_12 59 rfl).trans ((uF_ne (fun h => absurd h.2 (by decide))).trans ((gL199_ 59 rfl).trans (gL187_ 59 rfl)))))) ((gu_44 60 rfl).trans ((gu_39 60 rfl).trans ((gu_12 60 rfl).trans ((uF_ne (fun h => absurd h.2 (by decide))).trans ((gL199_ 60 rfl).trans (gL187_ 60 rfl)))))) ((gu_44 61 rfl).trans ((gu_39 61 rfl).trans ((gu_12 61 rfl).trans ((uF_ne (fun h => absurd h.2 (by decide))).trans ((gL199_ 61 rfl).trans (gL187_ 61 rfl)))))) ((gu_44 62 rfl).trans ((gu_39 62 rfl).trans ((gu_12 62 rfl).trans ((uF_ne (fun h => absurd h.2 (by decide))).trans ((gL199_ 62 rfl).trans (gL187_ 62 rfl)))))) ((gu_44 63 rfl).trans ((gu_39 63 rfl).trans ((gu_12 63 rfl).trans ((uF_ne (fun h => absurd h.2 (by decide))).trans ((gL199_ 63 rfl).trans (gL187_ 63 rfl)))))) ((gu_44 65 rfl).trans ((gu_39 65 rfl).trans ((gu_12 65 rfl).trans ((uF_ne (fun h => absurd h.2 (by decide))).trans ((gL199_ 65 rfl).trans (gL187_ 65 rfl)))))) ((gu_44 68 rfl).trans ((gu_39 68 rfl).trans ((gu_12 68 rfl).trans ((uF_ne (fun h => absurd h.2 (by decide))).trans ((gL199_ 68 rfl).trans (gL187_ 68 rfl)))))) ((gu_44 69 rfl).trans ((gu_39 69 rfl).trans ((gu_12 69 rfl).trans ((uF_ne (fun h => absurd h.2 (by decide))).trans ((gL199_ 69 rfl).trans (gL187_ 69 rfl)))))) ((gu_44 70 rfl).trans ((gu_39 70 rfl).trans ((gu_12 70 rfl).trans ((uF_ne (fun h => absurd h.2 (by decide))).trans ((gL199_ 70 rfl).trans (gL187_ 70 rfl)))))) ((gu_44 71 rfl).trans ((gu_39 71 rfl).trans ((gu_12 71 rfl).trans ((uF_ne (fun h => absurd h.2 (by decide))).trans ((gL199_ 71 rfl).trans (gL187_ 71 rfl)))))) ((gu_44 72 rfl).trans ((gu_39 72 rfl).trans ((gu_12 72 rfl).trans ((uF_ne (fun h => absurd h.2 (by decide))).trans ((gL199_ 72 rfl).trans (gL187_ 72 rfl)))))) ((gu_44 78 rfl).trans ((gu_39 78 rfl).trans ((gu_12 78 rfl).trans ((uF_ne (fun h => absurd h.2 (by decide))).trans ((gL199_ 78 rfl).trans (gL187_ 78 rfl)))))) ((gu_44 79 rfl).trans ((gu_39 79 rfl).trans ((gu_12 79 rfl).trans ((uF_ne (fun h => absurd h.2 (by decide))).trans ((gL199_ 79 rfl).trans (gL187_ 79 rfl)))))) ((gu_44 84 rfl).trans ((gu_39 84 rfl).trans ((gu_12 84 rfl).trans ((uF_ne (fun h => absurd h.2 (by decide))).trans ((gL199_ 84 rfl).trans (gL187_ 84 rfl)))))) ((gu_44 86 rfl).trans ((gu_39 86 rfl).trans ((gu_12 86 rfl).trans ((uF_ne (fun h => absurd h.2 (by decide))).trans ((gL199_ 86 rfl).trans (gL187_ 86 rfl)))))) (funext fun j => ((fu_44 261 rfl).2.1 j).trans (((fu_39 261 rfl).2.1 j).trans (((fu_12 261 rfl).2.1 j).trans ((uF_a).trans (((hL199_ 261 rfl).2.1 j).trans ((hL187_ 261 rfl).2.1 j)))))) (funext fun j => ((fu_44 262 rfl).2.1 j).trans (((fu_39 262 rfl).2.1 j).trans (((fu_12 262 rfl).2.1 j).trans ((uF_a).trans (((hL199_ 262 rfl).2.1 j).trans ((hL187_ 262 rfl).2.1 j)))))) (funext fun j => ((fu_44 264 rfl).2.1 j).trans (((fu_39 264 rfl).2.1 j).trans (((fu_12 264 rfl).2.1 j).trans ((uF_a).trans (((hL199_ 264 rfl).2.1 j).trans ((hL187_ 264 rfl).2.1 j)))))) (funext fun j => ((fu_44 265 rfl).2.1 j).trans (((fu_39 265 rfl).2.1 j).trans (((fu_12 265 rfl).2.1 j).trans ((uF_a).trans (((hL199_ 265 rfl).2.1 j).trans ((hL187_ 265 rfl).2.1 j)))))) (funext fun j => ((fu_44 266 rfl).2.1 j).trans (((fu_39 266 rfl).2.1 j).trans (((fu_12 266 rfl).2.1 j).trans ((uF_a).trans (((hL199_ 266 rfl).2.1 j).trans ((hL187_ 266 rfl).2.1 j)))))) (funext fun j => ((fu_44 267 rfl).2.1 j).trans (((fu_39 267 rfl).2.1 j).trans (((fu_12 267 rfl).2.1 j).trans ((uF_a).trans (((hL199_ 267 rfl).2.1 j).trans ((hL187_ 267 rfl).2.1 j)))))) (funext fun j => ((fu_44 268 rfl).2.1 j).trans (((fu_39 268 rfl).2.1 j).trans (((fu_12 268 rfl).2.1 j).trans ((uF_a).trans (((hL199_ 268 rfl).2.1 j).trans ((hL187_ 268 rfl).2.1 j)))))) (funext fun j => ((fu_44 269 rfl).2.1 j).trans (((fu_39 269 rfl).2.1 j).trans (((fu_12 269 rfl).2.1 j).trans ((uF_a).trans (((hL199_ 269 rfl).2.1 j).trans ((hL187_ 269 rfl).2.1 j)))))) (funext fun j => ((fu_44 270 rfl).2.1 j).trans (((fu_39 270 rfl).2.1 j).trans (((fu_12 270 rfl).2.1 j).trans ((uF_a).trans (((hL199_ 270 rfl).2.1 j).trans ((hL187_ 270 rfl).2.1 j)))))) (funext fun j => ((fu_44 271 rfl).2.1 j).trans (((fu_39 271 rfl).2.1 j).trans (((fu_12 271 rfl).2.1 j).trans ((uF_a).trans (((hL199_ 271 rfl).2.1 j).trans ((hL187_ 271 rfl).2.1 j)))))) (funext fun j => ((fu_44 272 rfl).2.1 j).trans (((fu_39 272 rfl).2.1 j).trans (((fu_12 272 rfl).2.1 j).trans ((uF_a).trans (((hL199_ 272 rfl).2.1 j).trans ((hL187_ 272 rfl).2.1 j)))))) (funext fun j => ((fu_44 273 rfl).2.1 j).trans (((fu_39 273 rfl).2.1 j).trans (((fu_12 273 rfl).2.1 j).trans ((uF_a).trans (((hL199_ 273 rfl).2.1 j).trans ((hL187_ 273 rfl).2.1 j)))))) (funext fun j => ((fu_44 274 rfl).2.1 j).trans (((fu_39 274 rfl).2.1 j).trans (((fu_12 274 rfl).2.1 j).trans ((uF_a).trans (((hL199_ 274 rfl).2.1 j).trans ((hL187_ 274 rfl).2.1 j)))))) (funext fun j => ((fu_44 260 rfl).2.2.1 j).trans (((fu_39 260 rfl).2.2.1 j).trans (((fu_12 260 rfl).2.2.1 j).trans ((uF_l).trans (((hL199_ 260 rfl).2.2.1 j).trans ((hL187_ 260 rfl).2.2.1 j)))))) (funext fun j => ((fu_44 290 rfl).2.2.1 j).trans (((fu_39 290 rfl).2.2.1 j).trans (((fu_12 290 rfl).2.2.1 j).trans ((uF_l).trans (((hL199_ 290 rfl).2.2.1 j).trans ((hL187_ 290 rfl).2.2.1 j)))))))⟩ dX12_told__253
            refine lv_iload_n hx hb dX12_told__187 rfl (lv_at hl 0 rfl) ?_
            refine r_if_eq (tgt := 199) hx hb ⟨(by omega), (by omega)⟩ dX12_told__188 (by decide) (fun c_52 => ?_) (fun c_52 => ?_)
            · exact join_199 S187  _ _ _ hI187 hFm187 hL187_ (Fr.rf : Fr S187 S187 (pl [237])) hGm187 gL187_ (FF.rf : FF S187 S187 (fl [])) hN1 hN2 hW hL (lv_sub hl [0, 1, 2, 3] rfl)
            · refine lv_aload_n hx hb dX12_told__191 rfl (lv_at hl 1 rfl) ?_
              refine g_X12_26 Cx hW (k := 231) (by decide) rfl (v := .ref (G.2.2.1 + 237)) (rd_7 hI187) dX12_told__192 ?_
              refine lv_iconst (v := iv 0) hx hb dX12_told__195 (by decide) ?_
              refine sBv (sSt (As := [.ref (G.2.2.1 + 237), .int (iv 0)]) (rest := []) Cx (s_X12_negate l G S187 (ka := 237) (po := 0) (Nka := 68) (La := 7) hI187 ⟨rfl, by decide, by decide, by decide, rfl⟩ (by omega) hN1) (c_X12_540 Cx rfl rfl (rmk_ok (by omega) (by decide))) hW rfl hl.1 rfl (Nat.le_of_ble_eq_true rfl) dX12_told__196 ⟨Nat.le_of_ble_eq_true rfl, Nat.le_of_ble_eq_true rfl⟩) hL (fun u_53 H locs k_54 hW hL => ?_)
              obtain ⟨iu_53, fu_53, xu_53⟩ := k_54
              have F_55 := hFm187.trans (fu_53.to (p1_sub rfl))
              have F_56 := hL187_.trans (fu_53.to (p1_sub rfl))
              have F_57 := (Fr.rf : Fr S187 S187 (pl [237])).trans (fu_53.to (p1_sub rfl))
              have g_58 : FF S u_53 (fl [6]) := FF.fr hGm187 fu_53 rfl
              have g_59 : FF S u_53 (fl []) := FF.fr gL187_ fu_53 rfl
              have g_60 : FF S187 u_53 (fl []) := FF.fr (FF.rf : FF S187 S187 (fl [])) fu_53 rfl
              exact join_199 u_53  _ _ _ iu_53 F_55 F_56 F_57 g_58 g_59 g_60 xu_53.1 (by rw [show u_53.2.1 238 = S187.2.1 238 from (funext fun j => (fu_53 238 rfl).2.1 j)]; exact hN2) hW hL (lv_sub hl [0, 1, 2, 3] rfl)
          refine lv_iload_n hx hb dX12_told__39 rfl (lv_at hl 2 rfl) ?_
          refine r_if_ge (tgt := 136) hx hb ⟨(by omega), (by omega)⟩ dX12_told__40 (by decide) (fun c_61 => ?_) (fun c_61 => ?_)
          · refine lv_iload_n hx hb dX12_told__136 rfl (lv_at hl 2 rfl) ?_
            refine r_if_ne (tgt := 170) hx hb ⟨(by omega), (by omega)⟩ dX12_told__137 (by decide) (fun c_62 => ?_) (fun c_62 => ?_)
            · have hbs := hei.2.2.2.1 (by omega)
              refine lv_aload_n hx hb dX12_told__170 rfl (lv_at hl 1 rfl) ?_
              refine lv_aload_n hx hb dX12_told__171 rfl (lv_at hl 1 rfl) ?_
              refine g_X12_140 Cx hW (k := 231) (by decide) rfl (v := .ref (G.2.2.1 + 274)) (rd_82 hI) dX12_told__172 ?_
              refine lv_bipush (v := iv 8) hx hb dX12_told__175 (by decide) ?_
              refine lv_iload_n hx hb dX12_told__177 rfl (lv_at hl 2 rfl) ?_
              refine r_imul hx hb dX12_told__178 ?_
              refine lv_aload_n hx hb dX12_told__179 rfl (lv_at hl 1 rfl) ?_
              refine g_X12_137 Cx hW (k := 231) (by decide) rfl (v := .ref (G.2.2.1 + 273)) (rd_81 hI) dX12_told__180 ?_
              refine lv_iconst (v := iv 0) hx hb dX12_told__183 (by decide) ?_
              refine sBv (sV (As := [.ref (G.2.2.1 + 274), .int (iv (8 * a)), .ref (G.2.2.1 + 273), .int (iv 0)]) (rest := []) (k := 231) Cx (s_X12_lower l G S (ka := 274) (po := 8 * a) (kb := 273) (qo := 0) (Nka := 104) (Nkb := 8) hI ⟨rfl, by decide, by decide, by decide, rfl⟩ ⟨rfl, by decide, by decide, by decide, rfl⟩ (show (274 : Nat) ≠ 233 by decide) (show (274 : Nat) ≠ 234 by decide) (show (274 : Nat) ≠ 235 by decide) (show (274 : Nat) ≠ 237 by decide) (show (274 : Nat) ≠ 238 by decide) (show (274 : Nat) ≠ 239 by decide) (show (274 : Nat) ≠ 240 by decide) (show (274 : Nat) ≠ 241 by decide) (show (274 : Nat) ≠ 242 by decide) (show (274 : Nat) ≠ 280 by decide) (show (273 : Nat) ≠ 233 by decide) (show (273 : Nat) ≠ 234 by decide) (show (273 : Nat) ≠ 235 by decide) (show (273 : Nat) ≠ 237 by decide) (show (273 : Nat) ≠ 238 by decide) (show (273 : Nat) ≠ 239 by decide) (show (273 : Nat) ≠ 240 by decide) (show (273 : Nat) ≠ 241 by decide) (show (273 : Nat) ≠ 242 by decide) (show (273 : Nat) ≠ 280 by decide) (by omega) (hbs.2.2.2 a (by omega) (by omega)) hbs.2.1 hbs.2.2.1) (c_X12_671 Cx rfl rfl (rmk_ok (by omega) (by decide))) hW (by decide) rfl rfl rfl hl.1 rfl (Nat.le_of_ble_eq_true rfl) dX12_told__184 ⟨Nat.le_of_ble_eq_true rfl, Nat.le_of_ble_eq_true rfl⟩) hL (fun u_63 H locs k_64 hW hL => ?_)
              obtain ⟨iu_63, fu_63, gu_63, xu_63⟩ := k_64
              have F_65 := (Fr.rf : Fr S S (pl [231, 233, 234, 235, 236, 237, 238, 239, 240, 241, 242, 280, 282])).trans (fu_63.to (pl_sub (by decide)))
              have F_66 := (Fr.rf : Fr S S (pl [233, 234, 235, 237, 238, 239, 240, 241, 242, 280, 282])).trans (fu_63.to (pl_sub (by decide)))
              have g_67 : FF S u_63 (fl [6]) := FF.trans FF.rf (FF.to gu_63 (fl_sub (by decide)))
              have g_68 : FF S u_63 (fl []) := FF.trans (FF.rf : FF S S (fl [])) (FF.to gu_63 (fl_sub (by decide)))
              exact join_187 u_63 0 _ _ _ iu_63 F_65 F_66 g_67 g_68 xu_63.1 xu_63.2 (by omega) hW hL (lv_sub hl [0, 1, 2, 3] rfl)
            · have hbs := hei.2.2.2.1 (by omega)
              refine lv_aload_n hx hb dX12_told__140 rfl (lv_at hl 1 rfl) ?_
              refine lv_aload_n hx hb dX12_told__141 rfl (lv_at hl 1 rfl) ?_
              refine g_X12_134 Cx hW (k := 231) (by decide) rfl (v := .ref (G.2.2.1 + 272)) (rd_80 hI) dX12_told__142 ?_
              refine lv_iconst (v := iv 0) hx hb dX12_told__145 (by decide) ?_
              refine lv_aload_n hx hb dX12_told__146 rfl (lv_at hl 1 rfl) ?_
              refine g_X12_137 Cx hW (k := 231) (by decide) rfl (v := .ref (G.2.2.1 + 273)) (rd_81 hI) dX12_told__147 ?_
              refine lv_iconst (v := iv 0) hx hb dX12_told__150 (by decide) ?_
              refine sBv (sV (As := [.ref (G.2.2.1 + 272), .int (iv 0), .ref (G.2.2.1 + 273), .int (iv 0)]) (rest := []) (k := 231) Cx (s_X12_lower l G S (ka := 272) (po := 0) (kb := 273) (qo := 0) (Nka := 8) (Nkb := 8) hI ⟨rfl, by decide, by decide, by decide, rfl⟩ ⟨rfl, by decide, by decide, by decide, rfl⟩ (show (272 : Nat) ≠ 233 by decide) (show (272 : Nat) ≠ 234 by decide) (show (272 : Nat) ≠ 235 by decide) (show (272 : Nat) ≠ 237 by decide) (show (272 : Nat) ≠ 238 by decide) (show (272 : Nat) ≠ 239 by decide) (show (272 : Nat) ≠ 240 by decide) (show (272 : Nat) ≠ 241 by decide) (show (272 : Nat) ≠ 242 by decide) (show (272 : Nat) ≠ 280 by decide) (show (273 : Nat) ≠ 233 by decide) (show (273 : Nat) ≠ 234 by decide) (show (273 : Nat) ≠ 235 by decide) (show (273 : Nat) ≠ 237 by decide) (show (273 : Nat) ≠ 238 by decide) (show (273 : Nat) ≠ 239 by decide) (show (273 : Nat) ≠ 240 by decide) (show (273 : Nat) ≠ 241 by decide) (show (273 : Nat) ≠ 242 by decide) (show (273 : Nat) ≠ 280 by decide) (by omega) hbs.1 hbs.2.1 hbs.2.2.1) (c_X12_671 Cx rfl rfl (rmk_ok (by omega) (by decide))) hW (by decide) rfl rfl rfl hl.1 rfl (Nat.le_of_ble_eq_true rfl) dX12_told__151 ⟨Nat.le_of_ble_eq_true rfl, Nat.le_of_ble_eq_true rfl⟩) hL (fun u_69 H locs k_70 hW hL => ?_)
              obtain ⟨iu_69, fu_69, gu_69, xu_69⟩ := k_70
              have F_71 := (Fr.rf : Fr S S (pl [231, 233, 234, 235, 236, 237, 238, 239, 240, 241, 242, 280, 282])).trans (fu_69.to (pl_sub (by decide)))
              have F_72 := (Fr.rf : Fr S S (pl [233, 234, 235, 237, 238, 239, 240, 241, 242, 280, 282])).trans (fu_69.to (pl_sub (by decide)))
              have g_73 : FF S u_69 (fl [6]) := FF.trans FF.rf (FF.to gu_69 (fl_sub (by decide)))
              have g_74 : FF S u_69 (fl []) := FF.trans (FF.rf : FF S S (fl [])) (FF.to gu_69 (fl_sub (by decide)))
              refine lv_aload_n hx hb dX12_told__154 rfl (lv_at hl 1 rfl) ?_
              have q_75 : 0 ≤ S.1 231 49 ∧ S.1 231 49 ≤ 1 := hI.fi 49
              refine g_X12_474 Cx hW (k := 231) (by decide) rfl (v := S.1 231 49) (gu_69 49 rfl) dX12_told__155 ?_
              refine r_if_ne (tgt := 165) hx hb ⟨(by omega), (by omega)⟩ dX12_told__158 (by decide) (fun c_76 => ?_) (fun c_76 => ?_)
              · refine lv_iconst (v := iv 0) hx hb dX12_told__165 (by decide) ?_
                refine lv_istore_n (lv' := [(3, .int (iv 0)), (0, .ref (G.2.2.1 + 231)), (1, .int (iv a)), (2, .int (iv b))]) hx hb dX12_told__166 rfl hl (by decide) rfl (fun ls hl => ?_)
                refine lv_goto (tgt := 187) hx hb dX12_told__167 (by decide) ?_
                exact join_187 u_69 0 _ _ _ iu_69 F_71 F_72 g_73 g_74 xu_69.1 xu_69.2 (by omega) hW hL (lv_sub hl [0, 1, 2, 3] rfl)
              · refine lv_iconst (v := iv 1) hx hb dX12_told__161 (by decide) ?_
                refine lv_goto (tgt := 166) hx hb dX12_told__162 (by decide) ?_
                refine lv_istore_n (lv' := [(3, .int (iv 1)), (0, .ref (G.2.2.1 + 231)), (1, .int (iv a)), (2, .int (iv b))]) hx hb dX12_told__166 rfl hl (by decide) rfl (fun ls hl => ?_)
                refine lv_goto (tgt := 187) hx hb dX12_told__167 (by decide) ?_
                exact join_187 u_69 1 _ _ _ iu_69 F_71 F_72 g_73 g_74 xu_69.1 xu_69.2 (by omega) hW hL (lv_sub hl [0, 1, 2, 3] rfl)
          · refine lv_iconst (v := iv 0) hx hb dX12_told__43 (by decide) ?_
            refine lv_istore (lv' := [(4, .int (iv 0)), (3, .int (iv 0)), (0, .ref (G.2.2.1 + 231)), (1, .int (iv a)), (2, .int (iv b))]) hx hb dX12_told__44 hl (by decide) rfl (fun ls hl => ?_)
            refine lv_iconst (v := iv 1) hx hb dX12_told__46 (by decide) ?_
            refine lv_istore (lv' := [(5, .int (iv 1)), (4, .int (iv 0)), (3, .int (iv 0)), (0, .ref (G.2.2.1 + 231)), (1, .int (iv a)), (2, .int (iv b))]) hx hb dX12_told__47 hl (by decide) rfl (fun ls hl => ?_)
            have loop_49 : ∀ (fuel : Nat) (j : Int) (f : Int) (H : Heap) (locs : List Loc) (ls : Array Slot), (S.1 231 59 + 1 - j).toNat < fuel → (1 ≤ j ∧ j ≤ S.1 231 59 + 1) → (0 ≤ f ∧ f < j) → sW G 294 S H → sL G locs → lv_has ls 6 [(5, .int (iv j)), (4, .int (iv f)), (3, .int (iv 0)), (0, .ref (G.2.2.1 + 231)), (1, .int (iv a)), (2, .int (iv b))] → W p l e (rmk 8 0 0) s m args below meth c H locs 0 0 (MQ below (sQi G 294 (fun r u => dX G u ∧ Fr S u (pl [231, 233, 234, 235, 236, 237, 238, 239, 240, 241, 242, 280, 282]) ∧ FF S u (fl [6]) ∧ (XI u))) args s 0 0 (sF G)) (F0 m 49 ls []) := by
              intro fuel
              induction fuel with
              | zero => intro j f H locs ls hmeas hj hf hW hL hl; exact absurd hmeas (Nat.not_lt_zero _)
              | succ fuel ih_49 =>
                intro j f H locs ls hmeas hj hf hW hL hl
                refine lv_iload hx hb dX12_told__49 (lv_at hl 0 rfl) ?_
                refine lv_aload_n hx hb dX12_told__51 rfl (lv_at hl 3 rfl) ?_
                have q_77 : (-2147483648) ≤ S.1 231 59 ∧ S.1 231 59 ≤ 2147483647 := hI.fi 59
                refine g_X12_526 Cx hW (k := 231) (by decide) rfl (v := S.1 231 59) rfl dX12_told__52 ?_
                refine r_icmp_gt (tgt := 84) hx hb ⟨(by omega), (by omega)⟩ ⟨(by omega), (by omega)⟩ dX12_told__55 (by decide) (fun c_78 => ?_) (fun c_78 => ?_)
                · refine lv_aload_n hx hb dX12_told__84 rfl (lv_at hl 3 rfl) ?_
                  refine g_X12_166 Cx hW (k := 231) (by decide) rfl (v := .ref (G.2.2.1 + 282)) (rd_92 hI) dX12_told__85 ?_
                  refine lv_iconst (v := iv 0) hx hb dX12_told__88 (by decide) ?_
                  refine lv_iconst (v := iv 0) hx hb dX12_told__89 (by decide) ?_
                  refine rIast Cx hW hL (k := 282) (by decide) rfl (by decide) (by omega) (by omega) dX12_told__90 (fun H locs hW hL => ?_)
                  have F_79 : Fr S (uA S 282 0 0) (pl [231, 233, 234, 235, 236, 237, 238, 239, 240, 241, 242, 280, 282]) := (Fr.rf : Fr S S (pl [231, 233, 234, 235, 236, 237, 238, 239, 240, 241, 242, 280, 282])).A rfl
                  have F_80 : Fr S (uA S 282 0 0) (pl [233, 234, 235, 237, 238, 239, 240, 241, 242, 280, 282]) := (Fr.rf : Fr S S (pl [233, 234, 235, 237, 238, 239, 240, 241, 242, 280, 282])).A rfl
                  have i_81 : dX G (uA S 282 0 0) := hI.A (k := 282) (show (-2147483648) ≤ 0 ∧ 0 ≤ 2147483647 from ⟨by omega, by omega⟩)
                  refine lv_iload hx hb dX12_told__91 (lv_at hl 1 rfl) ?_
                  refine r_if_le (tgt := 119) hx hb ⟨(by omega), (by omega)⟩ dX12_told__93 (by decide) (fun c_82 => ?_) (fun c_82 => ?_)
                  · refine lv_aload_n hx hb dX12_told__119 rfl (lv_at hl 3 rfl) ?_
                    refine lv_aload_n hx hb dX12_told__120 rfl (lv_at hl 3 rfl) ?_
                    refine g_X12_166 Cx hW (k := 231) (by decide) rfl (v := .ref (G.2.2.1 + 282)) (rd_92 i_81) dX12_told__121 ?_
                    refine lv_iconst (v := iv 0) hx hb dX12_told__124 (by decide) ?_
                    refine lv_aload_n hx hb dX12_told__125 rfl (lv_at hl 3 rfl) ?_
                    refine g_X12_109 Cx hW (k := 231) (by decide) rfl (v := .ref (G.2.2.1 + 264)) (rd_55 i_81) dX12_told__126 ?_
                    refine lv_iconst (v := iv 0) hx hb dX12_told__129 (by decide) ?_
                    refine sBv (sV (As := [.ref (G.2.2.1 + 282), .int (iv 0), .ref (G.2.2.1 + 264), .int (iv 0)]) (rest := []) (k := 231) Cx (s_X12_lower0 l G (uA S 282 0 0) (ka := 282) (po := 0) (kb := 264) (qo := 0) (Nka := 4) (Nkb := 8) i_81 ⟨rfl, by decide, by decide, by decide, rfl⟩ ⟨rfl, by decide, by decide, by decide, rfl⟩ (show (282 : Nat) ≠ 233 by decide) (show (282 : Nat) ≠ 234 by decide) (show (282 : Nat) ≠ 235 by decide) (show (282 : Nat) ≠ 237 by decide) (show (282 : Nat) ≠ 238 by decide) (show (282 : Nat) ≠ 239 by decide) (show (282 : Nat) ≠ 240 by decide) (show (282 : Nat) ≠ 241 by decide) (show (282 : Nat) ≠ 242 by decide) (show (282 : Nat) ≠ 280 by decide) (show (264 : Nat) ≠ 233 by decide) (show (264 : Nat) ≠ 234 by decide) (show (264 : Nat) ≠ 235 by decide) (show (264 : Nat) ≠ 237 by decide) (show (264 : Nat) ≠ 238 by decide) (show (264 : Nat) ≠ 239 by decide) (show (264 : Nat) ≠ 240 by decide) (show (264 : Nat) ≠ 241 by decide) (show (264 : Nat) ≠ 242 by decide) (show (264 : Nat) ≠ 280 by decide) (by omega) (NO_z uA_on (by omega)) (by rw [show (uA S 282 0 0).2.1 264 = S.2.1 264 from (funext fun j => uA_ne (fun h => absurd h.1 (by decide)))]; exact hei.2.1.2.2.1) (by rw [show (uA S 282 0 0).2.1 264 = S.2.1 264 from (funext fun j => uA_ne (fun h => absurd h.1 (by decide)))]; exact hei.2.1.2.2.2)) (c_X12_671 Cx rfl rfl (rmk_ok (by omega) (by decide))) hW (by decide) rfl rfl rfl hl.1 rfl (Nat.le_of_ble_eq_true rfl) dX12_told__130 ⟨Nat.le_of_ble_eq_true rfl, Nat.le_of_ble_eq_true rfl⟩) hL (fun u_83 H locs k_84 hW hL => ?_)
                    obtain ⟨iu_83, fu_83, gu_83, xu_83⟩ := k_84
                    have F_85 := F_79.trans (fu_83.to (pl_sub (by decide)))
                    have F_86 := F_80.trans (fu_83.to (pl_sub (by decide)))
                    have g_87 : FF S u_83 (fl [6]) := FF.trans FF.rf (FF.to gu_83 (fl_sub (by decide)))
                    have g_88 : FF S u_83 (fl []) := FF.trans (FF.rf : FF S S (fl [])) (FF.to gu_83 (fl_sub (by decide)))
                    refine lv_goto (tgt := 187) hx hb dX12_told__133 (by decide) ?_
                    exact join_187 u_83 0 _ _ _ iu_83 F_85 F_86 g_87 g_88 xu_83.1 xu_83.2 (by omega) hW hL (lv_sub hl [2, 3, 4, 5] rfl)
                  · refine lv_aload_n hx hb dX12_told__96 rfl (lv_at hl 3 rfl) ?_
                    refine lv_aload_n hx hb dX12_told__97 rfl (lv_at hl 3 rfl) ?_
                    refine g_X12_103 Cx hW (k := 231) (by decide) rfl (v := .ref (G.2.2.1 + 262)) (rd_53 i_81) dX12_told__98 ?_
                    refine lv_aload_n hx hb dX12_told__101 rfl (lv_at hl 3 rfl) ?_
                    refine lv_iconst (v := iv 0) hx hb dX12_told__102 (by decide) ?_
                    refine lv_iload hx hb dX12_told__103 (lv_at hl 1 rfl) ?_
                    refine sBi (sV (As := [.int (iv 0), .int (iv f)]) (rest := [.ref (G.2.2.1 + 262), .ref (G.2.2.1 + 231)]) (k := 231) Cx (s_X12_cell l G (uA S 282 0 0) (i := 0) (j := f) (by omega) (by omega)) (c_X12_529 Cx rfl rfl (rmk_ok (by omega) (by decide))) hW (by decide) rfl rfl rfl hl.1 rfl (Nat.le_of_ble_eq_true rfl) dX12_told__105 ⟨Nat.le_of_ble_eq_true rfl, Nat.le_of_ble_eq_true rfl⟩) hL (fun qz u_89 H locs k_90 hW hL => ?_)
                    obtain ⟨eu_89, xu_89⟩ := k_90
                    rw [eu_89] at hW
                    refine lv_aload_n hx hb dX12_told__108 rfl (lv_at hl 3 rfl) ?_
                    refine g_X12_109 Cx hW (k := 231) (by decide) rfl (v := .ref (G.2.2.1 + 264)) (rd_55 i_81) dX12_told__109 ?_
                    refine lv_iconst (v := iv 0) hx hb dX12_told__112 (by decide) ?_
                    refine sBv (sV (As := [.ref (G.2.2.1 + 262), .int (iv qz), .ref (G.2.2.1 + 264), .int (iv 0)]) (rest := []) (k := 231) Cx (s_X12_lower l G (uA S 282 0 0) (ka := 262) (po := qz) (kb := 264) (qo := 0) (Nka := 5280) (Nkb := 8) i_81 ⟨rfl, by decide, by decide, by decide, rfl⟩ ⟨rfl, by decide, by decide, by decide, rfl⟩ (show (262 : Nat) ≠ 233 by decide) (show (262 : Nat) ≠ 234 by decide) (show (262 : Nat) ≠ 235 by decide) (show (262 : Nat) ≠ 237 by decide) (show (262 : Nat) ≠ 238 by decide) (show (262 : Nat) ≠ 239 by decide) (show (262 : Nat) ≠ 240 by decide) (show (262 : Nat) ≠ 241 by decide) (show (262 : Nat) ≠ 242 by decide) (show (262 : Nat) ≠ 280 by decide) (show (264 : Nat) ≠ 233 by decide) (show (264 : Nat) ≠ 234 by decide) (show (264 : Nat) ≠ 235 by decide) (show (264 : Nat) ≠ 237 by decide) (show (264 : Nat) ≠ 238 by decide) (show (264 : Nat) ≠ 239 by decide) (show (264 : Nat) ≠ 240 by decide) (show (264 : Nat) ≠ 241 by decide) (show (264 : Nat) ≠ 242 by decide) (show (264 : Nat) ≠ 280 by decide) (by omega) (by rw [show (uA S 282 0 0).2.1 262 = S.2.1 262 from (funext fun j => uA_ne (fun h => absurd h.1 (by decide)))]; exact hei.2.1.at (i := 0) (j := f) (by omega) (by omega) (by omega) (by omega)) (by rw [show (uA S 282 0 0).2.1 264 = S.2.1 264 from (funext fun j => uA_ne (fun h => absurd h.1 (by decide)))]; exact hei.2.1.2.2.1) (by rw [show (uA S 282 0 0).2.1 264 = S.2.1 264 from (funext fun j => uA_ne (fun h => absurd h.1 (by decide)))]; exact hei.2.1.2.2.2)) (c_X12_671 Cx rfl rfl (rmk_ok (by omega) (by decide))) hW (by decide) rfl rfl rfl hl.1 rfl (Nat.le_of_ble_eq_true rfl) dX12_told__113 ⟨Nat.le_of_ble_eq_true rfl, Nat.le_of_ble_eq_true rfl⟩) hL (fun u_91 H locs k_92 hW hL => ?_)
                    obtain ⟨iu_91, fu_91, gu_91, xu_91⟩ := k_92
                    have F_93 := F_79.trans (fu_91.to (pl_sub (by decide)))
                    have F_94 := F_80.trans (fu_91.to (pl_sub (by decide)))
                    have g_95 : FF S u_91 (fl [6]) := FF.trans FF.rf (FF.to gu_91 (fl_sub (by decide)))
                    have g_96 : FF S u_91 (fl []) := FF.trans (FF.rf : FF S S (fl [])) (FF.to gu_91 (fl_sub (by decide)))
                    refine lv_goto (tgt := 133) hx hb dX12_told__116 (by decide) ?_
                    refine lv_goto (tgt := 187) hx hb dX12_told__133 (by decide) ?_
                    exact join_187 u_91 0 _ _ _ iu_91 F_93 F_94 g_95 g_96 xu_91.1 xu_91.2 (by omega) hW hL (lv_sub hl [2, 3, 4, 5] rfl)
                · refine lv_aload_n hx hb dX12_told__58 rfl (lv_at hl 3 rfl) ?_
                  refine g_X12_115 Cx hW (k := 231) (by decide) rfl (v := .ref (G.2.2.1 + 266)) (rd_57 hI) dX12_told__59 ?_
                  refine lv_iload hx hb dX12_told__62 (lv_at hl 0 rfl) ?_
                  refine rIald Cx hW (k := 266) (by decide) rfl (by decide) (by omega) (by omega) dX12_told__64 ?_
                  have q_97 : (-2147483648) ≤ S.2.1 266 j ∧ S.2.1 266 j ≤ 2147483647 := hI.ai 266 j
                  refine r_i (b := S.2.1 266 j) rfl ?_
                  refine lv_aload_n hx hb dX12_told__65 rfl (lv_at hl 3 rfl) ?_
                  refine g_X12_465 Cx hW (k := 231) (by decide) rfl (v := S.1 231 46) rfl dX12_told__66 ?_
                  refine lv_iload_n hx hb dX12_told__69 rfl (lv_at hl 4 rfl) ?_
                  refine r_isub hx hb dX12_told__70 ?_
                  refine r_icmp_ne (tgt := 78) hx hb ⟨(by omega), (by omega)⟩ ⟨(by omega), (by omega)⟩ dX12_told__71 (by decide) (fun c_98 => ?_) (fun c_98 => ?_)
                  · refine lv_iinc (v := iv (j + 1)) (lv' := [(5, .int (iv (j + 1))), (4, .int (iv f)), (3, .int (iv 0)), (0, .ref (G.2.2.1 + 231)), (1, .int (iv a)), (2, .int (iv b))]) hx hb dX12_told__78 hl (k := 0) rfl ((Int32.ofInt_add _ _).symm) (by decide) rfl (fun ls hl => ?_)
                    refine lv_goto (tgt := 49) hx hb dX12_told__81 (by decide) ?_
                    exact ih_49 (j + 1) f _ _ _ (by omega) (by omega) (by omega) hW hL (lv_sub hl [0, 1, 2, 3, 4, 5] rfl)
                  · refine lv_iload hx hb dX12_told__74 (lv_at hl 0 rfl) ?_
                    refine lv_istore (lv' := [(4, .int (iv j)), (5, .int (iv j)), (3, .int (iv 0)), (0, .ref (G.2.2.1 + 231)), (1, .int (iv a)), (2, .int (iv b))]) hx hb dX12_told__76 hl (by decide) rfl (fun ls hl => ?_)
                    refine lv_iinc (v := iv (j + 1)) (lv' := [(5, .int (iv (j + 1))), (4, .int (iv j)), (3, .int (iv 0)), (0, .ref (G.2.2.1 + 231)), (1, .int (iv a)), (2, .int (iv b))]) hx hb dX12_told__78 hl (k := 1) rfl ((Int32.ofInt_add _ _).symm) (by decide) rfl (fun ls hl => ?_)
                    refine lv_goto (tgt := 49) hx hb dX12_told__81 (by decide) ?_
                    exact ih_49 (j + 1) j _ _ _ (by omega) (by omega) (by omega) hW hL (lv_sub hl [0, 1, 2, 3, 4, 5] rfl)
            exact loop_49 (_ + 1) 1 0 _ _ _ (Nat.lt_succ_self _) (by omega) (by omega) hW hL (lv_sub hl [0, 1, 2, 3, 4, 5] rfl)
        · refine lv_iconst (v := iv (-1)) hx hb dX12_told__35 (by decide) ?_
          exact sIret Cx hr hlk hW hL ⟨hI, (Fr.rf : Fr S S (pl [231, 233, 234, 235, 236, 237, 238, 239, 240, 241, 242, 280, 282])), FF.rf, hXI⟩ dX12_told__36
    · refine lv_aload_n hx hb dX12_told__11 rfl (lv_at hl 0 rfl) ?_
      have q_99 : 0 ≤ S.1 231 79 ∧ S.1 231 79 ≤ 1 := hI.fi 79
      refine g_X12_514 Cx hW (k := 231) (by decide) rfl (v := S.1 231 79) rfl dX12_told__12 ?_
      refine r_if_eq (tgt := 35) hx hb ⟨(by omega), (by omega)⟩ dX12_told__15 (by decide) (fun c_100 => ?_) (fun c_100 => ?_)
      · refine lv_iconst (v := iv (-1)) hx hb dX12_told__35 (by decide) ?_
        exact sIret Cx hr hlk hW hL ⟨hI, (Fr.rf : Fr S S (pl [231, 233, 234, 235, 236, 237, 238, 239, 240, 241, 242, 280, 282])), FF.rf, hXI⟩ dX12_told__36
      · refine lv_iload_n hx hb dX12_told__18 rfl (lv_at hl 1 rfl) ?_
        refine lv_aload_n hx hb dX12_told__19 rfl (lv_at hl 0 rfl) ?_
        have q_101 : (-2147483648) ≤ S.1 231 46 ∧ S.1 231 46 ≤ 2147483647 := hI.fi 46
        refine g_X12_465 Cx hW (k := 231) (by decide) rfl (v := S.1 231 46) rfl dX12_told__20 ?_
        refine r_icmp_gt (tgt := 35) hx hb ⟨(by omega), (by omega)⟩ ⟨(by omega), (by omega)⟩ dX12_told__23 (by decide) (fun c_102 => ?_) (fun c_102 => ?_)
        · refine lv_iconst (v := iv (-1)) hx hb dX12_told__35 (by decide) ?_
          exact sIret Cx hr hlk hW hL ⟨hI, (Fr.rf : Fr S S (pl [231, 233, 234, 235, 236, 237, 238, 239, 240, 241, 242, 280, 282])), FF.rf, hXI⟩ dX12_told__36
        · refine lv_iload_n hx hb dX12_told__26 rfl (lv_at hl 1 rfl) ?_
          refine lv_aload_n hx hb dX12_told__27 rfl (lv_at hl 0 rfl) ?_
          have q_103 : (-2147483648) ≤ S.1 231 63 ∧ S.1 231 63 ≤ 2147483647 := hI.fi 63
          refine g_X12_480 Cx hW (k := 231) (by decide) rfl (v := S.1 231 63) rfl dX12_told__28 ?_
          refine r_ineg hx hb dX12_told__31 ?_
          refine r_icmp_ge (tgt := 37) hx hb ⟨(by omega), (by omega)⟩ ⟨(by omega), (by omega)⟩ dX12_told__32 (by decide) (fun c_104 => ?_) (fun c_104 => ?_)
          · refine lv_iconst (v := iv 0) hx hb dX12_told__37 (by decide) ?_
            refine lv_istore_n (lv' := [(3, .int (iv 0)), (0, .ref (G.2.2.1 + 231)), (1, .int (iv a)), (2, .int (iv b))]) hx hb dX12_told__38 rfl hl (by decide) rfl (fun ls hl => ?_)
            have join_187 : ∀ (S187 : sS) (flg : Int) (H : Heap) (locs : List Loc) (ls : Array Slot), (dX G S187) → (Fr S S187 (pl [231, 233, 234, 235, 236, 237, 238, 239, 240, 241, 242, 280, 282])) → (Fr S S187 (pl [233, 234, 235, 237, 238, 239, 240, 241, 242, 280, 282])) → (FF S S187 (fl [6])) → (FF S S187 (fl [])) → (NO (S187.2.1 237) 0 7) → (NO (S187.2.1 238) 0 7) → (0 ≤ flg ∧ flg ≤ 1) → sW G 294 S187 H → sL G locs → lv_has ls 6 [(3, .int (iv flg)), (0, .ref (G.2.2.1 + 231)), (1, .int (iv a)), (2, .int (iv b))] → W p l e (rmk 8 0 0) s m args below meth c H locs 0 0 (MQ below (sQi G 294 (fun r u => dX G u ∧ Fr S u (pl [231, 233, 234, 235, 236, 237, 238, 239, 240, 241, 242, 280, 282]) ∧ FF S u (fl [6]) ∧ (XI u))) args s 0 0 (sF G)) (F0 m 187 ls []) := by
              intro S187 flg H locs ls hI187 hFm187 hL187_ hGm187 gL187_ hN1 hN2 hfl hW hL hl
              have join_199 : ∀ (S199 : sS)  (H : Heap) (locs : List Loc) (ls : Array Slot), (dX G S199) → (Fr S S199 (pl [231, 233, 234, 235, 236, 237, 238, 239, 240, 241, 242, 280, 282])) → (Fr S S199 (pl [233, 234, 235, 237, 238, 239, 240, 241, 242, 280, 282])) → (Fr S187 S199 (pl [237])) → (FF S S199 (fl [6])) → (FF S S199 (fl [])) → (FF S187 S199 (fl [])) → (NO (S199.2.1 237) 0 7) → (NO (S199.2.1 238) 0 7) → sW G 294 S199 H → sL G locs → lv_has ls 6 [(3, .int (iv flg)), (0, .ref (G.2.2.1 + 231)), (1, .int (iv a)), (2, .int (iv b))] → W p l e (rmk 8 0 0) s m args below meth c H locs 0 0 (MQ below (sQi G 294 (fun r u => dX G u ∧ Fr S u (pl [231, 233, 234, 235, 236, 237, 238, 239, 240, 241, 242, 280, 282]) ∧ FF S u (fl [6]) ∧ (XI u))) args s 0 0 (sF G)) (F0 m 199 ls []) := by
                intro S199  H locs ls hI199 hFm199 hFL187199 hL199_ hGm199 hGL187199 gL199_ hM1 hM2 hW hL hl
                refine lv_aload_n hx hb dX12_told__199 rfl (lv_at hl 1 rfl) ?_
                refine lv_iconst (v := iv 0) hx hb dX12_told__200 (by decide) ?_
                refine p_X12_259 Cx hW hL (k := 231) (by decide) rfl dX12_told__201 (fun H locs hW hL => ?_)
                have F_105 : Fr S (uF S199 231 6 0) (pl [231, 233, 234, 235, 236, 237, 238, 239, 240, 241, 242, 280, 282]) := hFm199.F rfl
                have g_106 : FF S (uF S199 231 6 0) (fl [6]) := FF.F hGm199 rfl
                have i_107 : dX G (uF S199 231 6 0) := hI199.F (i := 6) (show (-2147483648) ≤ 0 ∧ 0 ≤ 2147483647 from ⟨by omega, by omega⟩)
                refine lv_aload_n hx hb dX12_told__204 rfl (lv_at hl 1 rfl) ?_
                refine lv_aload_n hx hb dX12_told__205 rfl (lv_at hl 1 rfl) ?_
                refine g_X12_26 Cx hW (k := 231) (by decide) rfl (v := .ref (G.2.2.1 + 237)) (rd_7 i_107) dX12_told__206 ?_
                refine lv_iconst (v := iv 0) hx hb dX12_told__209 (by decide) ?_
                have lk_108 : (uF S199 231 6 0).1 231 6 = 0 := uF_on
                refine sBv (sV (As := [.ref (G.2.2.1 + 237), .int (iv 0)]) (rest := []) (k := 231) Cx (s_X12_spell l G (uF S199 231 6 0) (ka := 237) (po := 0) (Nka := 68) (La := 7) i_107 ⟨rfl, by decide, by decide, by decide, rfl⟩ (by omega) (by omega) (by rw [show (uF S199 231 6 0).2.1 237 = S199.2.1 237 from (funext fun j => uF_a)]; exact hM1) (show (237 : Nat) ≠ 231 by decide) (show (237 : Nat) ≠ 236 by decide)) (c_X12_594 Cx rfl rfl (rmk_ok (by omega) (by decide))) hW (by decide) rfl rfl rfl hl.1 rfl (Nat.le_of_ble_eq_true rfl) dX12_told__210 ⟨Nat.le_of_ble_eq_true rfl, Nat.le_of_ble_eq_true rfl⟩) hL (fun u_109 H locs k_110 hW hL => ?_)
                obtain ⟨iu_109, fu_109, gu_109, xu_109⟩ := k_110
                have F_111 := F_105.trans (fu_109.to (pl_sub (by decide)))
                have g_112 : FF S u_109 (fl [6]) := FF.trans g_106 (FF.to gu_109 (fl_sub (by decide)))
                refine lv_aload_n hx hb dX12_told__213 rfl (lv_at hl 1 rfl) ?_
                refine g_X12_29 Cx hW (k := 231) (by decide) rfl (v := .ref (G.2.2.1 + 238)) (rd_8 iu_109) dX12_told__214 ?_
                refine lv_iconst (v := iv 0) hx hb dX12_told__217 (by decide) ?_
                refine rIald Cx hW (k := 238) (by decide) rfl (by decide) (by omega) (by omega) dX12_told__218 ?_
                have q_113 : (-2147483648) ≤ S187.2.1 238 0 ∧ S187.2.1 238 0 ≤ 2147483647 := hI187.ai 238 0
                refine r_i (b := S187.2.1 238 0) (((fu_109 238 rfl).2.1 0).trans ((uF_a).trans ((hL199_ 238 rfl).2.1 0))) ?_
                refine lv_iconst (v := iv 1) hx hb dX12_told__219 (by decide) ?_
                refine r_icmp_ne (tgt := 233) hx hb ⟨(by omega), (by omega)⟩ ⟨(by omega), (by omega)⟩ dX12_told__220 (by decide) (fun c_114 => ?_) (fun c_114 => ?_)
                · refine lv_aload_n hx hb dX12_told__233 rfl (lv_at hl 1 rfl) ?_
                  refine lv_bipush (v := iv 47) hx hb dX12_told__234 (by decide) ?_
                  have q_115 : (-2147483648) ≤ u_109.1 231 6 ∧ u_109.1 231 6 ≤ 2147483647 := iu_109.fi 6
                  refine sBv (sV (As := [.int (iv 47)]) (rest := []) (k := 231) Cx (s_X12_letter l G u_109 (ch := 47) iu_109 (by omega) (by omega)) (c_X12_262 Cx rfl rfl (rmk_ok (by omega) (by decide))) hW (by decide) rfl rfl rfl hl.1 rfl (Nat.le_of_ble_eq_true rfl) dX12_told__236 ⟨Nat.le_of_ble_eq_true rfl, Nat.le_of_ble_eq_true rfl⟩) hL (fun u_116 H locs k_117 hW hL => ?_)
                  obtain ⟨iu_116, fu_116, gu_116, xu_116⟩ := k_117
                  have F_118 := F_111.trans (fu_116.to (pl_sub (by decide)))
                  have g_119 : FF S u_116 (fl [6]) := FF.trans g_112 (FF.to gu_116 (fl_sub (by decide)))
                  refine lv_aload_n hx hb dX12_told__239 rfl (lv_at hl 1 rfl) ?_
                  refine lv_aload_n hx hb dX12_told__240 rfl (lv_at hl 1 rfl) ?_
                  refine g_X12_29 Cx hW (k := 231) (by decide) rfl (v := .ref (G.2.2.1 + 238)) (rd_8 iu_116) dX12_told__241 ?_
                  refine lv_iconst (v := iv 0) hx hb dX12_told__244 (by decide) ?_
                  have q_120 : (-2147483648) ≤ u_116.1 231 6 ∧ u_116.1 231 6 ≤ 2147483647 := iu_116.fi 6
                  refine sBv (sV (As := [.ref (G.2.2.1 + 238), .int (iv 0)]) (rest := []) (k := 231) Cx (s_X12_spell l G u_116 (ka := 238) (po := 0) (Nka := 68) (La := 7) iu_116 ⟨rfl, by decide, by decide, by decide, rfl⟩ (by omega) (by omega) (by rw [show u_116.2.1 238 = S199.2.1 238 from (funext fun j => ((fu_116 238 rfl).2.1 j).trans (((fu_109 238 rfl).2.1 j).trans (uF_a)))]; exact hM2) (show (238 : Nat) ≠ 231 by decide) (show (238 : Nat) ≠ 236 by decide)) (c_X12_594 Cx rfl rfl (rmk_ok (by omega) (by decide))) hW (by decide) rfl rfl rfl hl.1 rfl (Nat.le_of_ble_eq_true rfl) dX12_told__245 ⟨Nat.le_of_ble_eq_true rfl, Nat.le_of_ble_eq_true rfl⟩) hL (fun u_121 H locs k_122 hW hL => ?_)
                  obtain ⟨iu_121, fu_121, gu_121, xu_121⟩ := k_122
                  have F_123 := F_118.trans (fu_121.to (pl_sub (by decide)))
                  have g_124 : FF S u_121 (fl [6]) := FF.trans g_119 (FF.to gu_121 (fl_sub (by decide)))
                  refine lv_aload_n hx hb dX12_told__248 rfl (lv_at hl 1 rfl) ?_
                  refine lv_iload_n hx hb dX12_told__249 rfl (lv_at hl 3 rfl) ?_
                  have q_125 : (-2147483648) ≤ u_121.1 231 6 ∧ u_121.1 231 6 ≤ 2147483647 := iu_121.fi 6
                  refine sBi (sV (As := [.int (iv b)]) (rest := []) (k := 231) Cx (s_X12_letterAt l G u_121 (a := b) iu_121 (by omega) (by omega)) (c_X12_686 Cx rfl rfl (rmk_ok (by omega) (by decide))) hW (by decide) rfl rfl rfl hl.1 rfl (Nat.le_of_ble_eq_true rfl) dX12_told__250 ⟨Nat.le_of_ble_eq_true rfl, Nat.le_of_ble_eq_true rfl⟩) hL (fun r_128 u_126 H locs k_127 hW hL => ?_)
                  rw [k_127] at hW
                  exact sIret Cx hr hlk hW hL ⟨iu_121, F_123, g_124, (XI.sm (S := S) (u := u_121) hXI ((gu_121 46 rfl).trans ((gu_116 46 rfl).trans ((gu_109 46 rfl).trans ((uF_ne (fun h => absurd h.2 (by decide))).trans ((gL199_ 46 rfl).trans (gL187_ 46 rfl)))))) ((gu_121 47 rfl).trans ((gu_116 47 rfl).trans ((gu_109 47 rfl).trans ((uF_ne (fun h => absurd h.2 (by decide))).trans ((gL199_ 47 rfl).trans (gL187_ 47 rfl)))))) ((gu_121 48 rfl).trans ((gu_116 48 rfl).trans ((gu_109 48 rfl).trans ((uF_ne (fun h => absurd h.2 (by decide))).trans ((gL199_ 48 rfl).trans (gL187_ 48 rfl)))))) ((gu_121 58 rfl).trans ((gu_116 58 rfl).trans ((gu_109 58 rfl).trans ((uF_ne (fun h => absurd h.2 (by decide))).trans ((gL199_ 58 rfl).trans (gL187_ 58 rfl)))))) ((gu_121 59 rfl).trans ((gu_116 59 rfl).trans ((gu_109 59 rfl).trans ((uF_ne (fun h => absurd h.2 (by decide))).trans ((gL199_ 59 rfl).trans (gL187_ 59 rfl)))))) ((gu_121 60 rfl).trans ((gu_116 60 rfl).trans ((gu_109 60 rfl).trans ((uF_ne (fun h => absurd h.2 (by decide))).trans ((gL199_ 60 rfl).trans (gL187_ 60 rfl)))))) ((gu_121 61 rfl).trans ((gu_116 61 rfl).trans ((gu_109 61 rfl).trans ((uF_ne (fun h => absurd h.2 (by decide))).trans ((gL199_ 61 rfl).trans (gL187_ 61 rfl)))))) ((gu_121 62 rfl).trans ((gu_116 62 rfl).trans ((gu_109 62 rfl).trans ((uF_ne (fun h => absurd h.2 (by decide))).trans ((gL199_ 62 rfl).trans (gL187_ 62 rfl)))))) ((gu_121 63 rfl).trans ((gu_116 63 rfl).trans ((gu_109 63 rfl).trans ((uF_ne (fun h => absurd h.2 (by decide))).trans ((gL199_ 63 rfl).trans (gL187_ 63 rfl)))))) ((gu_121 65 rfl).trans ((gu_116 65 rfl).trans ((gu_109 65 rfl).trans ((uF_ne (fun h => absurd h.2 (by decide))).trans ((gL199_ 65 rfl).trans (gL187_ 65 rfl)))))) ((gu_121 68 rfl).trans ((gu_116 68 rfl).trans ((gu_109 68 rfl).trans ((uF_ne (fun h => absurd h.2 (by decide))).trans ((gL199_ 68 rfl).trans (gL187_ 68 rfl)))))) ((gu_121 69 rfl).trans ((gu_116 69 rfl).trans ((gu_109 69 rfl).trans ((uF_ne (fun h => absurd h.2 (by decide))).trans ((gL199_ 69 rfl).trans (gL187_ 69 rfl)))))) ((gu_121 70 rfl).trans ((gu_116 70 rfl).trans ((gu_109 70 rfl).trans ((uF_ne (fun h => absurd h.2 (by decide))).trans ((gL199_ 70 rfl).trans (gL187_ 70 rfl)))))) ((gu_121 71 rfl).trans ((gu_116 71 rfl).trans ((gu_109 71 rfl).trans ((uF_ne (fun h => absurd h.2 (by decide))).trans ((gL199_ 71 rfl).trans (gL187_ 71 rfl)))))) ((gu_121 72 rfl).trans ((gu_116 72 rfl).trans ((gu_109 72 rfl).trans ((uF_ne (fun h => absurd h.2 (by decide))).trans ((gL199_ 72 rfl).trans (gL187_ 72 rfl)))))) ((gu_121 78 rfl).trans ((gu_116 78 rfl).trans ((gu_109 78 rfl).trans ((uF_ne (fun h => absurd h.2 (by decide))).trans ((gL199_ 78 rfl).trans (gL187_ 78 rfl)))))) ((gu_121 79 rfl).trans ((gu_116 79 rfl).trans ((gu_109 79 rfl).trans ((uF_ne (fun h => absurd h.2 (by decide))).trans ((gL199_ 79 rfl).trans (gL187_ 79 rfl)))))) ((gu_121 84 rfl).trans ((gu_116 84 rfl).trans ((gu_109 84 rfl).trans ((uF_ne (fun h => absurd h.2 (by decide))).trans ((gL199_ 84 rfl).trans (gL187_ 84 rfl)))))) ((gu_121 86 rfl).trans ((gu_116 86 rfl).trans ((gu_109 86 rfl).trans ((uF_ne (fun h => absurd h.2 (by decide))).trans ((gL199_ 86 rfl).trans (gL187_ 86 rfl)))))) (funext fun j => ((fu_121 261 rfl).2.1 j).trans (((fu_116 261 rfl).2.1 j).trans (((fu_109 261 rfl).2.1 j).trans ((uF_a).trans (((hL199_ 261 rfl).2.1 j).trans ((hL187_ 261 rfl).2.1 j)))))) (funext fun j => ((fu_121 262 rfl).2.1 j).trans (((fu_116 262 rfl).2.1 j).trans (((fu_109 262 rfl).2.1 j).trans ((uF_a).trans (((hL199_ 262 rfl).2.1 j).trans ((hL187_ 262 rfl).2.1 j)))))) (funext fun j => ((fu_121 264 rfl).2.1 j).trans (((fu_116 264 rfl).2.1 j).trans (((fu_109 264 rfl).2.1 j).trans ((uF_a).trans (((hL199_ 264 rfl).2.1 j).trans ((hL187_ 264 rfl).2.1 j)))))) (funext fun j => ((fu_121 265 rfl).2.1 j).trans (((fu_116 265 rfl).2.1 j).trans (((fu_109 265 rfl).2.1 j).trans ((uF_a).trans (((hL199_ 265 rfl).2.1 j).trans ((hL187_ 265 rfl).2.1 j)))))) (funext fun j => ((fu_121 266 rfl).2.1 j).trans (((fu_116 266 rfl).2.1 j).trans (((fu_109 266 rfl).2.1 j).trans ((uF_a).trans (((hL199_ 266 rfl).2.1 j).trans ((hL187_ 266 rfl).2.1 j)))))) (funext fun j => ((fu_121 267 rfl).2.1 j).trans (((fu_116 267 rfl).2.1 j).trans (((fu_109 267 rfl).2.1 j).trans ((uF_a).trans (((hL199_ 267 rfl).2.1 j).trans ((hL187_ 267 rfl).2.1 j)))))) (funext fun j => ((fu_121 268 rfl).2.1 j).trans (((fu_116 268 rfl).2.1 j).trans (((fu_109 268 rfl).2.1 j).trans ((uF_a).trans (((hL199_ 268 rfl).2.1 j).trans ((hL187_ 268 rfl).2.1 j)))))) (funext fun j => ((fu_121 269 rfl).2.1 j).trans (((fu_116 269 rfl).2.1 j).trans (((fu_109 269 rfl).2.1 j).trans ((uF_a).trans (((hL199_ 269 rfl).2.1 j).trans ((hL187_ 269 rfl).2.1 j)))))) (funext fun j => ((fu_121 270 rfl).2.1 j).trans (((fu_116 270 rfl).2.1 j).trans (((fu_109 270 rfl).2.1 j).trans ((uF_a).trans (((hL199_ 270 rfl).2.1 j).trans ((hL187_ 270 rfl).2.1 j)))))) (funext fun j => ((fu_121 271 rfl).2.1 j).trans (((fu_116 271 rfl).2.1 j).trans (((fu_109 271 rfl).2.1 j).trans ((uF_a).trans (((hL199_ 271 rfl).2.1 j).trans ((hL187_ 271 rfl).2.1 j)))))) (funext fun j => ((fu_121 272 rfl).2.1 j).trans (((fu_116 272 rfl).2.1 j).trans (((fu_109 272 rfl).2.1 j).trans ((uF_a).trans (((hL199_ 272 rfl).2.1 j).trans ((hL187_ 272 rfl).2.1 j)))))) (funext fun j => ((fu_121 273 rfl).2.1 j).trans (((fu_116 273 rfl).2.1 j).trans (((fu_109 273 rfl).2.1 j).trans ((uF_a).trans (((hL199_ 273 rfl).2.1 j).trans ((hL187_ 273 rfl).2.1 j)))))) (funext fun j => ((fu_121 274 rfl).2.1 j).trans (((fu_116 274 rfl).2.1 j).trans (((fu_109 274 rfl).2.1 j).trans ((uF_a).trans (((hL199_ 274 rfl).2.1 j).trans ((hL187_ 274 rfl).2.1 j)))))) (funext fun j => ((fu_121 260 rfl).2.2.1 j).trans (((fu_116 260 rfl).2.2.1 j).trans (((fu_109 260 rfl).2.2.1 j).trans ((uF_l).trans (((hL199_ 260 rfl).2.2.1 j).trans ((hL187_ 260 rfl).2.2.1 j)))))) (funext fun j => ((fu_121 290 rfl).2.2.1 j).trans (((fu_116 290 rfl).2.2.1 j).trans (((fu_109 290 rfl).2.2.1 j).trans ((uF_l).trans (((hL199_ 290 rfl).2.2.1 j).trans ((hL187_ 290 rfl).2.2.1 j)))))))⟩ dX12_told__253
                · refine lv_aload_n hx hb dX12_told__223 rfl (lv_at hl 1 rfl) ?_
                  refine g_X12_29 Cx hW (k := 231) (by decide) rfl (v := .ref (G.2.2.1 + 238)) (rd_8 iu_109) dX12_told__224 ?_
                  refine lv_iconst (v := iv 1) hx hb dX12_told__227 (by decide) ?_
                  refine rIald Cx hW (k := 238) (by decide) rfl (by decide) (by omega) (by omega) dX12_told__228 ?_
                  have q_129 : (-2147483648) ≤ S187.2.1 238 1 ∧ S187.2.1 238 1 ≤ 2147483647 := hI187.ai 238 1
                  refine r_i (b := S187.2.1 238 1) (((fu_109 238 rfl).2.1 1).trans ((uF_a).trans ((hL199_ 238 rfl).2.1 1))) ?_
                  refine lv_iconst (v := iv 1) hx hb dX12_told__229 (by decide) ?_
                  refine r_icmp_eq (tgt := 248) hx hb ⟨(by omega), (by omega)⟩ ⟨(by omega), (by omega)⟩ dX12_told__230 (by decide) (fun c_130 => ?_) (fun c_130 => ?_)
                  · refine lv_aload_n hx hb dX12_told__248 rfl (lv_at hl 1 rfl) ?_
                    refine lv_iload_n hx hb dX12_told__249 rfl (lv_at hl 3 rfl) ?_
                    have q_131 : (-2147483648) ≤ u_109.1 231 6 ∧ u_109.1 231 6 ≤ 2147483647 := iu_109.fi 6
                    refine sBi (sV (As := [.int (iv b)]) (rest := []) (k := 231) Cx (s_X12_letterAt l G u_109 (a := b) iu_109 (by omega) (by omega)) (c_X12_686 Cx rfl rfl (rmk_ok (by omega) (by decide))) hW (by decide) rfl rfl rfl hl.1 rfl (Nat.le_of_ble_eq_true rfl) dX12_told__250 ⟨Nat.le_of_ble_eq_true rfl, Nat.le_of_ble_eq_true rfl⟩) hL (fun r_134 u_132 H locs k_133 hW hL => ?_)
                    rw [k_133] at hW
                    exact sIret Cx hr hlk hW hL ⟨iu_109, F_111, g_112, (XI.sm (S := S) (u := u_109) hXI ((gu_109 46 rfl).trans ((uF_ne (fun h => absurd h.2 (by decide))).trans ((gL199_ 46 rfl).trans (gL187_ 46 rfl)))) ((gu_109 47 rfl).trans ((uF_ne (fun h => absurd h.2 (by decide))).trans ((gL199_ 47 rfl).trans (gL187_ 47 rfl)))) ((gu_109 48 rfl).trans ((uF_ne (fun h => absurd h.2 (by decide))).trans ((gL199_ 48 rfl).trans (gL187_ 48 rfl)))) ((gu_109 58 rfl).trans ((uF_ne (fun h => absurd h.2 (by decide))).trans ((gL199_ 58 rfl).trans (gL187_ 58 rfl)))) ((gu_109 59 rfl).trans ((uF_ne (fun h => absurd h.2 (by decide))).trans ((gL199_ 59 rfl).trans (gL187_ 59 rfl)))) ((gu_109 60 rfl).trans ((uF_ne (fun h => absurd h.2 (by decide))).trans ((gL199_ 60 rfl).trans (gL187_ 60 rfl)))) ((gu_109 61 rfl).trans ((uF_ne (fun h => absurd h.2 (by decide))).trans ((gL199_ 61 rfl).trans (gL187_ 61 rfl)))) ((gu_109 62 rfl).trans ((uF_ne (fun h => absurd h.2 (by decide))).trans ((gL199_ 62 rfl).trans (gL187_ 62 rfl)))) ((gu_109 63 rfl).trans ((uF_ne (fun h => absurd h.2 (by decide))).trans ((gL199_ 63 rfl).trans (gL187_ 63 rfl)))) ((gu_109 65 rfl).trans ((uF_ne (fun h => absurd h.2 (by decide))).trans ((gL199_ 65 rfl).trans (gL187_ 65 rfl)))) ((gu_109 68 rfl).trans ((uF_ne (fun h => absurd h.2 (by decide))).trans ((gL199_ 68 rfl).trans (gL187_ 68 rfl)))) ((gu_109 69 rfl).trans ((uF_ne (fun h => absurd h.2 (by decide))).trans ((gL199_ 69 rfl).trans (gL187_ 69 rfl)))) ((gu_109 70 rfl).trans ((uF_ne (fun h => absurd h.2 (by decide))).trans ((gL199_ 70 rfl).trans (gL187_ 70 rfl)))) ((gu_109 71 rfl).trans ((uF_ne (fun h => absurd h.2 (by decide))).trans ((gL199_ 71 rfl).trans (gL187_ 71 rfl)))) ((gu_109 72 rfl).trans ((uF_ne (fun h => absurd h.2 (by decide))).trans ((gL199_ 72 rfl).trans (gL187_ 72 rfl)))) ((gu_109 78 rfl).trans ((uF_ne (fun h => absurd h.2 (by decide))).trans ((gL199_ 78 rfl).trans (gL187_ 78 rfl)))) ((gu_109 79 rfl).trans ((uF_ne (fun h => absurd h.2 (by decide))).trans ((gL199_ 79 rfl).trans (gL187_ 79 rfl)))) ((gu_109 84 rfl).trans ((uF_ne (fun h => absurd h.2 (by decide))).trans ((gL199_ 84 rfl).trans (gL187_ 84 rfl)))) ((gu_109 86 rfl).trans ((uF_ne (fun h => absurd h.2 (by decide))).trans ((gL199_ 86 rfl).trans (gL187_ 86 rfl)))) (funext fun j => ((fu_109 261 rfl).2.1 j).trans ((uF_a).trans (((hL199_ 261 rfl).2.1 j).trans ((hL187_ 261 rfl).2.1 j)))) (funext fun j => ((fu_109 262 rfl).2.1 j).trans ((uF_a).trans (((hL199_ 262 rfl).2.1 j).trans ((hL187_ 262 rfl).2.1 j)))) (funext fun j => ((fu_109 264 rfl).2.1 j).trans ((uF_a).trans (((hL199_ 264 rfl).2.1 j).trans ((hL187_ 264 rfl).2.1 j)))) (funext fun j => ((fu_109 265 rfl).2.1 j).trans ((uF_a).trans (((hL199_ 265 rfl).2.1 j).trans ((hL187_ 265 rfl).2.1 j)))) (funext fun j => ((fu_109 266 rfl).2.1 j).trans ((uF_a).trans (((hL199_ 266 rfl).2.1 j).trans ((hL187_ 266 rfl).2.1 j)))) (funext fun j => ((fu_109 267 rfl).2.1 j).trans ((uF_a).trans (((hL199_ 267 rfl).2.1 j).trans ((hL187_ 267 rfl).2.1 j)))) (funext fun j => ((fu_109 268 rfl).2.1 j).trans ((uF_a).trans (((hL199_ 268 rfl).2.1 j).trans ((hL187_ 268 rfl).2.1 j)))) (funext fun j => ((fu_109 269 rfl).2.1 j).trans ((uF_a).trans (((hL199_ 269 rfl).2.1 j).trans ((hL187_ 269 rfl).2.1 j)))) (funext fun j => ((fu_109 270 rfl).2.1 j).trans ((uF_a).trans (((hL199_ 270 rfl).2.1 j).trans ((hL187_ 270 rfl).2.1 j)))) (funext fun j => ((fu_109 271 rfl).2.1 j).trans ((uF_a).trans (((hL199_ 271 rfl).2.1 j).trans ((hL187_ 271 rfl).2.1 j)))) (funext fun j => ((fu_109 272 rfl).2.1 j).trans ((uF_a).trans (((hL199_ 272 rfl).2.1 j).trans ((hL187_ 272 rfl).2.1 j)))) (funext fun j => ((fu_109 273 rfl).2.1 j).trans ((uF_a).trans (((hL199_ 273 rfl).2.1 j).trans ((hL187_ 273 rfl).2.1 j)))) (funext fun j => ((fu_109 274 rfl).2.1 j).trans ((uF_a).trans (((hL199_ 274 rfl).2.1 j).trans ((hL187_ 274 rfl).2.1 j)))) (funext fun j => ((fu_109 260 rfl).2.2.1 j).trans ((uF_l).trans (((hL199_ 260 rfl).2.2.1 j).trans ((hL187_ 260 rfl).2.2.1 j)))) (funext fun j => ((fu_109 290 rfl).2.2.1 j).trans ((uF_l).trans (((hL199_ 290 rfl).2.2.1 j).trans ((hL187_ 290 rfl).2.2.1 j)))))⟩ dX12_told__253
                  · refine lv_aload_n hx hb dX12_told__233 rfl (lv_at hl 1 rfl) ?_
                    refine lv_bipush (v := iv 47) hx hb dX12_told__234 (by decide) ?_
                    have q_135 : (-2147483648) ≤ u_109.1 231 6 ∧ u_109.1 231 6 ≤ 2147483647 := iu_109.fi 6
                    refine sBv (sV (As := [.int (iv 47)]) (rest := []) (k := 231) Cx (s_X12_letter l G u_109 (ch := 47) iu_109 (by omega) (by omega)) (c_X12_262 Cx rfl rfl (rmk_ok (by omega) (by decide))) hW (by decide) rfl rfl rfl hl.1 rfl (Nat.le_of_ble_eq_true rfl) dX12_told__236 ⟨Nat.le_of_ble_eq_true rfl, Nat.le_of_ble_eq_true rfl⟩) hL (fun u_136 H locs k_137 hW hL => ?_)
                    obtain ⟨iu_136, fu_136, gu_136, xu_136⟩ := k_137
                    have F_138 := F_111.trans (fu_136.to (pl_sub (by decide)))
                    have g_139 : FF S u_136 (fl [6]) := FF.trans g_112 (FF.to gu_136 (fl_sub (by decide)))
                    refine lv_aload_n hx hb dX12_told__239 rfl (lv_at hl 1 rfl) ?_
                    refine lv_aload_n hx hb dX12_told__240 rfl (lv_at hl 1 rfl) ?_
                    refine g_X12_29 Cx hW (k := 231) (by decide) rfl (v := .ref (G.2.2.1 + 238)) (rd_8 iu_136) dX12_told__241 ?_
                    refine lv_iconst (v := iv 0) hx hb dX12_told__244 (by decide) ?_
                    have q_140 : (-2147483648) ≤ u_136.1 231 6 ∧ u_136.1 231 6 ≤ 2147483647 := iu_136.fi 6
                    refine sBv (sV (As := [.ref (G.2.2.1 + 238), .int (iv 0)]) (rest := []) (k := 231) Cx (s_X12_spell l G u_136 (ka := 238) (po := 0) (Nka := 68) (La := 7) iu_136 ⟨rfl, by decide, by decide, by decide, rfl⟩ (by omega) (by omega) (by rw [show u_136.2.1 238 = S199.2.1 238 from (funext fun j => ((fu_136 238 rfl).2.1 j).trans (((fu_109 238 rfl).2.1 j).trans (uF_a)))]; exact hM2) (show (238 : Nat) ≠ 231 by decide) (show (238 : Nat) ≠ 236 by decide)) (c_X12_594 Cx rfl rfl (rmk_ok (by omega) (by decide))) hW (by decide) rfl rfl rfl hl.1 rfl (Nat.le_of_ble_eq_true rfl) dX12_told__245 ⟨Nat.le_of_ble_eq_true rfl, Nat.le_of_ble_eq_true rfl⟩) hL (fun u_141 H locs k_142 hW hL => ?_)
                    obtain ⟨iu_141, fu_141, gu_141, xu_141⟩ := k_142
                    have F_143 := F_138.trans (fu_141.to (pl_sub (by decide)))
                    have g_144 : FF S u_141 (fl [6]) := FF.trans g_139 (FF.to gu_141 (fl_sub (by decide)))
                    refine lv_aload_n hx hb dX12_told__248 rfl (lv_at hl 1 rfl) ?_
                    refine lv_iload_n hx hb dX12_told__249 rfl (lv_at hl 3 rfl) ?_
                    have q_145 : (-2147483648) ≤ u_141.1 231 6 ∧ u_141.1 231 6 ≤ 2147483647 := iu_141.fi 6
                    refine sBi (sV (As := [.int (iv b)]) (rest := []) (k := 231) Cx (s_X12_letterAt l G u_141 (a := b) iu_141 (by omega) (by omega)) (c_X12_686 Cx rfl rfl (rmk_ok (by omega) (by decide))) hW (by decide) rfl rfl rfl hl.1 rfl (Nat.le_of_ble_eq_true rfl) dX12_told__250 ⟨Nat.le_of_ble_eq_true rfl, Nat.le_of_ble_eq_true rfl⟩) hL (fun r_148 u_146 H locs k_147 hW hL => ?_)
                    rw [k_147] at hW
                    exact sIret Cx hr hlk hW hL ⟨iu_141, F_143, g_144, (XI.sm (S := S) (u := u_141) hXI ((gu_141 46 rfl).trans ((gu_136 46 rfl).trans ((gu_109 46 rfl).trans ((uF_ne (fun h => absurd h.2 (by decide))).trans ((gL199_ 46 rfl).trans (gL187_ 46 rfl)))))) ((gu_141 47 rfl).trans ((gu_136 47 rfl).trans ((gu_109 47 rfl).trans ((uF_ne (fun h => absurd h.2 (by decide))).trans ((gL199_ 47 rfl).trans (gL187_ 47 rfl)))))) ((gu_141 48 rfl).trans ((gu_136 48 rfl).trans ((gu_109 48 rfl).trans ((uF_ne (fun h => absurd h.2 (by decide))).trans ((gL199_ 48 rfl).trans (gL187_ 48 rfl)))))) ((gu_141 58 rfl).trans ((gu_136 58 rfl).trans ((gu_109 58 rfl).trans ((uF_ne (fun h => absurd h.2 (by decide))).trans ((gL199_ 58 rfl).trans (gL187_ 58 rfl)))))) ((gu_141 59 rfl).trans ((gu_136 59 rfl).trans ((gu_109 59 rfl).trans ((uF_ne (fun h => absurd h.2 (by decide))).trans ((gL199_ 59 rfl).trans (gL187_ 59 rfl)))))) ((gu_141 60 rfl).trans ((gu_136 60 rfl).trans ((gu_109 60 rfl).trans ((uF_ne (fun h => absurd h.2 (by decide))).trans ((gL199_ 60 rfl).trans (gL187_ 60 rfl)))))) ((gu_141 61 rfl).trans ((gu_136 61 rfl).trans ((gu_109 61 rfl).trans ((uF_ne (fun h => absurd h.2 (by decide))).trans ((gL199_ 61 rfl).trans (gL187_ 61 rfl)))))) ((gu_141 62 rfl).trans ((gu_136 62 rfl).trans ((gu_109 62 rfl).trans ((uF_ne (fun h => absurd h.2 (by decide))).trans ((gL199_ 62 rfl).trans (gL187_ 62 rfl)))))) ((gu_141 63 rfl).trans ((gu_136 63 rfl).trans ((gu_109 63 rfl).trans ((uF_ne (fun h => absurd h.2 (by decide))).trans ((gL199_ 63 rfl).trans (gL187_ 63 rfl)))))) ((gu_141 65 rfl).trans ((gu_136 65 rfl).trans ((gu_109 65 rfl).trans ((uF_ne (fun h => absurd h.2 (by decide))).trans ((gL199_ 65 rfl).trans (gL187_ 65 rfl)))))) ((gu_141 68 rfl).trans ((gu_136 68 rfl).trans ((gu_109 68 rfl).trans ((uF_ne (fun h => absurd h.2 (by decide))).trans ((gL199_ 68 rfl).trans (gL187_ 68 rfl)))))) ((gu_141 69 rfl).trans ((gu_136 69 rfl).trans ((gu_109 69 rfl).trans ((uF_ne (fun h => absurd h.2 (by decide))).trans ((gL199_ 69 rfl).trans (gL187_ 69 rfl)))))) ((gu_141 70 rfl).trans ((gu_136 70 rfl).trans ((gu_109 70 rfl).trans ((uF_ne (fun h => absurd h.2 (by decide))).trans ((gL199_ 70 rfl).trans (gL187_ 70 rfl)))))) ((gu_141 71 rfl).trans ((gu_136 71 rfl).trans ((gu_109 71 rfl).trans ((uF_ne (fun h => absurd h.2 (by decide))).trans ((gL199_ 71 rfl).trans (gL187_ 71 rfl)))))) ((gu_141 72 rfl).trans ((gu_136 72 rfl).trans ((gu_109 72 rfl).trans ((uF_ne (fun h => absurd h.2 (by decide))).trans ((gL199_ 72 rfl).trans (gL187_ 72 rfl)))))) ((gu_141 78 rfl).trans ((gu_136 78 rfl).trans ((gu_109 78 rfl).trans ((uF_ne (fun h => absurd h.2 (by decide))).trans ((gL199_ 78 rfl).trans (gL187_ 78 rfl)))))) ((gu_141 79 rfl).trans ((gu_136 79 rfl).trans ((gu_109 79 rfl).trans ((uF_ne (fun h => absurd h.2 (by decide))).trans ((gL199_ 79 rfl).trans (gL187_ 79 rfl)))))) ((gu_141 84 rfl).trans ((gu_136 84 rfl).trans ((gu_109 84 rfl).trans ((uF_ne (fun h => absurd h.2 (by decide))).trans ((gL199_ 84 rfl).trans (gL187_ 84 rfl)))))) ((gu_141 86 rfl).trans ((gu_136 86 rfl).trans ((gu_109 86 rfl).trans ((uF_ne (fun h => absurd h.2 (by decide))).trans ((gL199_ 86 rfl).trans (gL187_ 86 rfl)))))) (funext fun j => ((fu_141 261 rfl).2.1 j).trans (((fu_136 261 rfl).2.1 j).trans (((fu_109 261 rfl).2.1 j).trans ((uF_a).trans (((hL199_ 261 rfl).2.1 j).trans ((hL187_ 261 rfl).2.1 j)))))) (funext fun j => ((fu_141 262 rfl).2.1 j).trans (((fu_136 262 rfl).2.1 j).trans (((fu_109 262 rfl).2.1 j).trans ((uF_a).trans (((hL199_ 262 rfl).2.1 j).trans ((hL187_ 262 rfl).2.1 j)))))) (funext fun j => ((fu_141 264 rfl).2.1 j).trans (((fu_136 264 rfl).2.1 j).trans (((fu_109 264 rfl).2.1 j).trans ((uF_a).trans (((hL199_ 264 rfl).2.1 j).trans ((hL187_ 264 rfl).2.1 j)))))) (funext fun j => ((fu_141 265 rfl).2.1 j).trans (((fu_136 265 rfl).2.1 j).trans (((fu_109 265 rfl).2.1 j).trans ((uF_a).trans (((hL199_ 265 rfl).2.1 j).trans ((hL187_ 265 rfl).2.1 j)))))) (funext fun j => ((fu_141 266 rfl).2.1 j).trans (((fu_136 266 rfl).2.1 j).trans (((fu_109 266 rfl).2.1 j).trans ((uF_a).trans (((hL199_ 266 rfl).2.1 j).trans ((hL187_ 266 rfl).2.1 j)))))) (funext fun j => ((fu_141 267 rfl).2.1 j).trans (((fu_136 267 rfl).2.1 j).trans (((fu_109 267 rfl).2.1 j).trans ((uF_a).trans (((hL199_ 267 rfl).2.1 j).trans ((hL187_ 267 rfl).2.1 j)))))) (funext fun j => ((fu_141 268 rfl).2.1 j).trans (((fu_136 268 rfl).2.1 j).trans (((fu_109 268 rfl).2.1 j).trans ((uF_a).trans (((hL199_ 268 rfl).2.1 j).trans ((hL187_ 268 rfl).2.1 j)))))) (funext fun j => ((fu_141 269 rfl).2.1 j).trans (((fu_136 269 rfl).2.1 j).trans (((fu_109 269 rfl).2.1 j).trans ((uF_a).trans (((hL199_ 269 rfl).2.1 j).trans ((hL187_ 269 rfl).2.1 j)))))) (funext fun j => ((fu_141 270 rfl).2.1 j).trans (((fu_136 270 rfl).2.1 j).trans (((fu_109 270 rfl).2.1 j).trans ((uF_a).trans (((hL199_ 270 rfl).2.1 j).trans ((hL187_ 270 rfl).2.1 j)))))) (funext fun j => ((fu_141 271 rfl).2.1 j).trans (((fu_136 271 rfl).2.1 j).trans (((fu_109 271 rfl).2.1 j).trans ((uF_a).trans (((hL199_ 271 rfl).2.1 j).trans ((hL187_ 271 rfl).2.1 j)))))) (funext fun j => ((fu_141 272 rfl).2.1 j).trans (((fu_136 272 rfl).2.1 j).trans (((fu_109 272 rfl).2.1 j).trans ((uF_a).trans (((hL199_ 272 rfl).2.1 j).trans ((hL187_ 272 rfl).2.1 j)))))) (funext fun j => ((fu_141 273 rfl).2.1 j).trans (((fu_136 273 rfl).2.1 j).trans (((fu_109 273 rfl).2.1 j).trans ((uF_a).trans (((hL199_ 273 rfl).2.1 j).trans ((hL187_ 273 rfl).2.1 j)))))) (funext fun j => ((fu_141 274 rfl).2.1 j).trans (((fu_136 274 rfl).2.1 j).trans (((fu_109 274 rfl).2.1 j).trans ((uF_a).trans (((hL199_ 274 rfl).2.1 j).trans ((hL187_ 274 rfl).2.1 j)))))) (funext fun j => ((fu_141 260 rfl).2.2.1 j).trans (((fu_136 260 rfl).2.2.1 j).trans (((fu_109 260 rfl).2.2.1 j).trans ((uF_l).trans (((hL199_ 260 rfl).2.2.1 j).trans ((hL187_ 260 rfl).2.2.1 j)))))) (funext fun j => ((fu_141 290 rfl).2.2.1 j).trans (((fu_136 290 rfl).2.2.1 j).trans (((fu_109 290 rfl).2.2.1 j).trans ((uF_l).trans (((hL199_ 290 rfl).2.2.1 j).trans ((hL187_ 290 rfl).2.2.1 j)))))))⟩ dX12_told__253
              refine lv_iload_n hx hb dX12_told__187 rfl (lv_at hl 0 rfl) ?_
              refine r_if_eq (tgt := 199) hx hb ⟨(by omega), (by omega)⟩ dX12_told__188 (by decide) (fun c_149 => ?_) (fun c_149 => ?_)
              · exact join_199 S187  _ _ _ hI187 hFm187 hL187_ (Fr.rf : Fr S187 S187 (pl [237])) hGm187 gL187_ (FF.rf : FF S187 S187 (fl [])) hN1 hN2 hW hL (lv_sub hl [0, 1, 2, 3] rfl)
              · refine lv_aload_n hx hb dX12_told__191 rfl (lv_at hl 1 rfl) ?_
                refine g_X12_26 Cx hW (k := 231) (by decide) rfl (v := .ref (G.2.2.1 + 237)) (rd_7 hI187) dX12_told__192 ?_
                refine lv_iconst (v := iv 0) hx hb dX12_told__195 (by decide) ?_
                refine sBv (sSt (As := [.ref (G.2.2.1 + 237), .int (iv 0)]) (rest := []) Cx (s_X12_negate l G S187 (ka := 237) (po := 0) (Nka := 68) (La := 7) hI187 ⟨rfl, by decide, by decide, by decide, rfl⟩ (by omega) hN1) (c_X12_540 Cx rfl rfl (rmk_ok (by omega) (by decide))) hW rfl hl.1 rfl (Nat.le_of_ble_eq_true rfl) dX12_told__196 ⟨Nat.le_of_ble_eq_true rfl, Nat.le_of_ble_eq_true rfl⟩) hL (fun u_150 H locs k_151 hW hL => ?_)
                obtain ⟨iu_150, fu_150, xu_150⟩ := k_151
                have F_152 := hFm187.trans (fu_150.to (p1_sub rfl))
                have F_153 := hL187_.trans (fu_150.to (p1_sub rfl))
                have F_154 := (Fr.rf : Fr S187 S187 (pl [237])).trans (fu_150.to (p1_sub rfl))
                have g_155 : FF S u_150 (fl [6]) := FF.fr hGm187 fu_150 rfl
                have g_156 : FF S u_150 (fl []) := FF.fr gL187_ fu_150 rfl
                have g_157 : FF S187 u_150 (fl []) := FF.fr (FF.rf : FF S187 S187 (fl [])) fu_150 rfl
                exact join_199 u_150  _ _ _ iu_150 F_152 F_153 F_154 g_155 g_156 g_157 xu_150.1 (by rw [show u_150.2.1 238 = S187.2.1 238 from (funext fun j => (fu_150 238 rfl).2.1 j)]; exact hN2) hW hL (lv_sub hl [0, 1, 2, 3] rfl)
            refine lv_iload_n hx hb dX12_told__39 rfl (lv_at hl 2 rfl) ?_
            refine r_if_ge (tgt := 136) hx hb ⟨(by omega), (by omega)⟩ dX12_told__40 (by decide) (fun c_158 => ?_) (fun c_158 => ?_)
            · refine lv_iload_n hx hb dX12_told__136 rfl (lv_at hl 2 rfl) ?_
              refine r_if_ne (tgt := 170) hx hb ⟨(by omega), (by omega)⟩ dX12_told__137 (by decide) (fun c_159 => ?_) (fun c_159 => ?_)
              · have hbs := hei.2.2.2.1 (by omega)
                refine lv_aload_n hx hb dX12_told__170 rfl (lv_at hl 1 rfl) ?_
                refine lv_aload_n hx hb dX12_told__171 rfl (lv_at hl 1 rfl) ?_
                refine g_X12_140 Cx hW (k := 231) (by decide) rfl (v := .ref (G.2.2.1 + 274)) (rd_82 hI) dX12_told__172 ?_
                refine lv_bipush (v := iv 8) hx hb dX12_told__175 (by decide) ?_
                refine lv_iload_n hx hb dX12_told__177 rfl (lv_at hl 2 rfl) ?_
                refine r_imul hx hb dX12_told__178 ?_
                refine lv_aload_n hx hb dX12_told__179 rfl (lv_at hl 1 rfl) ?_
                refine g_X12_137 Cx hW (k := 231) (by decide) rfl (v := .ref (G.2.2.1 + 273)) (rd_81 hI) dX12_told__180 ?_
                refine lv_iconst (v := iv 0) hx hb dX12_told__183 (by decide) ?_
                refine sBv (sV (As := [.ref (G.2.2.1 + 274), .int (iv (8 * a)), .ref (G.2.2.1 + 273), .int (iv 0)]) (rest := []) (k := 231) Cx (s_X12_lower l G S (ka := 274) (po := 8 * a) (kb := 273) (qo := 0) (Nka := 104) (Nkb := 8) hI ⟨rfl, by decide, by decide, by decide, rfl⟩ ⟨rfl, by decide, by decide, by decide, rfl⟩ (show (274 : Nat) ≠ 233 by decide) (show (274 : Nat) ≠ 234 by decide) (show (274 : Nat) ≠ 235 by decide) (show (274 : Nat) ≠ 237 by decide) (show (274 : Nat) ≠ 238 by decide) (show (274 : Nat) ≠ 239 by decide) (show (274 : Nat) ≠ 240 by decide) (show (274 : Nat) ≠ 241 by decide) (show (274 : Nat) ≠ 242 by decide) (show (274 : Nat) ≠ 280 by decide) (show (273 : Nat) ≠ 233 by decide) (show (273 : Nat) ≠ 234 by decide) (show (273 : Nat) ≠ 235 by decide) (show (273 : Nat) ≠ 237 by decide) (show (273 : Nat) ≠ 238 by decide) (show (273 : Nat) ≠ 239 by decide) (show (273 : Nat) ≠ 240 by decide) (show (273 : Nat) ≠ 241 by decide) (show (273 : Nat) ≠ 242 by decide) (show (273 : Nat) ≠ 280 by decide) (by omega) (hbs.2.2.2 a (by omega) (by omega)) hbs.2.1 hbs.2.2.1) (c_X12_671 Cx rfl rfl (rmk_ok (by omega) (by decide))) hW (by decide) rfl rfl rfl hl.1 rfl (Nat.le_of_ble_eq_true rfl) dX12_told__184 ⟨Nat.le_of_ble_eq_true rfl, Nat.le_of_ble_eq_true rfl⟩) hL (fun u_160 H locs k_161 hW hL => ?_)
                obtain ⟨iu_160, fu_160, gu_160, xu_160⟩ := k_161
                have F_162 := (Fr.rf : Fr S S (pl [231, 233, 234, 235, 236, 237, 238, 239, 240, 241, 242, 280, 282])).trans (fu_160.to (pl_sub (by decide)))
                have F_163 := (Fr.rf : Fr S S (pl [233, 234, 235, 237, 238, 239, 240, 241, 242, 280, 282])).trans (fu_160.to (pl_sub (by decide)))
                have g_164 : FF S u_160 (fl [6]) := FF.trans FF.rf (FF.to gu_160 (fl_sub (by decide)))
                have g_165 : FF S u_160 (fl []) := FF.trans (FF.rf : FF S S (fl [])) (FF.to gu_160 (fl_sub (by decide)))
                exact join_187 u_160 0 _ _ _ iu_160 F_162 F_163 g_164 g_165 xu_160.1 xu_160.2 (by omega) hW hL (lv_sub hl [0, 1, 2, 3] rfl)
              · have hbs := hei.2.2.2.1 (by omega)
                refine lv_aload_n hx hb dX12_told__140 rfl (lv_at hl 1 rfl) ?_
                refine lv_aload_n hx hb dX12_told__141 rfl (lv_at hl 1 rfl) ?_
                refine g_X12_134 Cx hW (k := 231) (by decide) rfl (v := .ref (G.2.2.1 + 272)) (rd_80 hI) dX12_told__142 ?_
                refine lv_iconst (v := iv 0) hx hb dX12_told__145 (by decide) ?_
                refine lv_aload_n hx hb dX12_told__146 rfl (lv_at hl 1 rfl) ?_
                refine g_X12_137 Cx hW (k := 231) (by decide) rfl (v := .ref (G.2.2.1 + 273)) (rd_81 hI) dX12_told__147 ?_
                refine lv_iconst (v := iv 0) hx hb dX12_told__150 (by decide) ?_
                refine sBv (sV (As := [.ref (G.2.2.1 + 272), .int (iv 0), .ref (G.2.2.1 + 273), .int (iv 0)]) (rest := []) (k := 231) Cx (s_X12_lower l G S (ka := 272) (po := 0) (kb := 273) (qo := 0) (Nka := 8) (Nkb := 8) hI ⟨rfl, by decide, by decide, by decide, rfl⟩ ⟨rfl, by decide, by decide, by decide, rfl⟩ (show (272 : Nat) ≠ 233 by decide) (show (272 : Nat) ≠ 234 by decide) (show (272 : Nat) ≠ 235 by decide) (show (272 : Nat) ≠ 237 by decide) (show (272 : Nat) ≠ 238 by decide) (show (272 : Nat) ≠ 239 by decide) (show (272 : Nat) ≠ 240 by decide) (show (272 : Nat) ≠ 241 by decide) (show (272 : Nat) ≠ 242 by decide) (show (272 : Nat) ≠ 280 by decide) (show (273 : Nat) ≠ 233 by decide) (show (273 : Nat) ≠ 234 by decide) (show (273 : Nat) ≠ 235 by decide) (show (273 : Nat) ≠ 237 by decide) (show (273 : Nat) ≠ 238 by decide) (show (273 : Nat) ≠ 239 by decide) (show (273 : Nat) ≠ 240 by decide) (show (273 : Nat) ≠ 241 by decide) (show (273 : Nat) ≠ 242 by decide) (show (273 : Nat) ≠ 280 by decide) (by omega) hbs.1 hbs.2.1 hbs.2.2.1) (c_X12_671 Cx rfl rfl (rmk_ok (by omega) (by decide))) hW (by decide) rfl rfl rfl hl.1 rfl (Nat.le_of_ble_eq_true rfl) dX12_told__151 ⟨Nat.le_of_ble_eq_true rfl, Nat.le_of_ble_eq_true rfl⟩) hL (fun u_166 H locs k_167 hW hL => ?_)
                obtain ⟨iu_166, fu_166, gu_166, xu_166⟩ := k_167
                have F_168 := (Fr.rf : Fr S S (pl [231, 233, 234, 235, 236, 237, 238, 239, 240, 241, 242, 280, 282])).trans (fu_166.to (pl_sub (by decide)))
                have F_169 := (Fr.rf : Fr S S (pl [233, 234, 235, 237, 238, 239, 240, 241, 242, 280, 282])).trans (fu_166.to (pl_sub (by decide)))
                have g_170 : FF S u_166 (fl [6]) := FF.trans FF.rf (FF.to gu_166 (fl_sub (by decide)))
                have g_171 : FF S u_166 (fl []) := FF.trans (FF.rf : FF S S (fl [])) (FF.to gu_166 (fl_sub (by decide)))
                refine lv_aload_n hx hb dX12_told__154 rfl (lv_at hl 1 rfl) ?_
                have q_172 : 0 ≤ S.1 231 49 ∧ S.1 231 49 ≤ 1 := hI.fi 49
                refine g_X12_474 Cx hW (k := 231) (by decide) rfl (v := S.1 231 49) (gu_166 49 rfl) dX12_told__155 ?_
                refine r_if_ne (tgt := 165) hx hb ⟨(by omega), (by omega)⟩ dX12_told__158 (by decide) (fun c_173 => ?_) (fun c_173 => ?_)
                · refine lv_iconst (v := iv 0) hx hb dX12_told__165 (by decide) ?_
                  refine lv_istore_n (lv' := [(3, .int (iv 0)), (0, .ref (G.2.2.1 + 231)), (1, .int (iv a)), (2, .int (iv b))]) hx hb dX12_told__166 rfl hl (by decide) rfl (fun ls hl => ?_)
                  refine lv_goto (tgt := 187) hx hb dX12_told__167 (by decide) ?_
                  exact join_187 u_166 0 _ _ _ iu_166 F_168 F_169 g_170 g_171 xu_166.1 xu_166.2 (by omega) hW hL (lv_sub hl [0, 1, 2, 3] rfl)
                · refine lv_iconst (v := iv 1) hx hb dX12_told__161 (by decide) ?_
                  refine lv_goto (tgt := 166) hx hb dX12_told__162 (by decide) ?_
                  refine lv_istore_n (lv' := [(3, .int (iv 1)), (0, .ref (G.2.2.1 + 231)), (1, .int (iv a)), (2, .int (iv b))]) hx hb dX12_told__166 rfl hl (by decide) rfl (fun ls hl => ?_)
                  refine lv_goto (tgt := 187) hx hb dX12_told__167 (by decide) ?_
                  exact join_187 u_166 1 _ _ _ iu_166 F_168 F_169 g_170 g_171 xu_166.1 xu_166.2 (by omega) hW hL (lv_sub hl [0, 1, 2, 3] rfl)
            · refine lv_iconst (v := iv 0) hx hb dX12_told__43 (by decide) ?_
              refine lv_istore (lv' := [(4, .int (iv 0)), (3, .int (iv 0)), (0, .ref (G.2.2.1 + 231)), (1, .int (iv a)), (2, .int (iv b))]) hx hb dX12_told__44 hl (by decide) rfl (fun ls hl => ?_)
              refine lv_iconst (v := iv 1) hx hb dX12_told__46 (by decide) ?_
              refine lv_istore (lv' := [(5, .int (iv 1)), (4, .int (iv 0)), (3, .int (iv 0)), (0, .ref (G.2.2.1 + 231)), (1, .int (iv a)), (2, .int (iv b))]) hx hb dX12_told__47 hl (by decide) rfl (fun ls hl => ?_)
              have loop_49 : ∀ (fuel : Nat) (j : Int) (f : Int) (H : Heap) (locs : List Loc) (ls : Array Slot), (S.1 231 59 + 1 - j).toNat < fuel → (1 ≤ j ∧ j ≤ S.1 231 59 + 1) → (0 ≤ f ∧ f < j) → sW G 294 S H → sL G locs → lv_has ls 6 [(5, .int (iv j)), (4, .int (iv f)), (3, .int (iv 0)), (0, .ref (G.2.2.1 + 231)), (1, .int (iv a)), (2, .int (iv b))] → W p l e (rmk 8 0 0) s m args below meth c H locs 0 0 (MQ below (sQi G 294 (fun r u => dX G u ∧ Fr S u (pl [231, 233, 234, 235, 236, 237, 238, 239, 240, 241, 242, 280, 282]) ∧ FF S u (fl [6]) ∧ (XI u))) args s 0 0 (sF G)) (F0 m 49 ls []) := by
                intro fuel
                induction fuel with
                | zero => intro j f H locs ls hmeas hj hf hW hL hl; exact absurd hmeas (Nat.not_lt_zero _)
                | succ fuel ih_49 =>
                  intro j f H locs ls hmeas hj hf hW hL hl
                  refine lv_iload hx hb dX12_told__49 (lv_at hl 0 rfl) ?_
                  refine lv_aload_n hx hb dX12_told__51 rfl (lv_at hl 3 rfl) ?_
                  have q_174 : (-2147483648) ≤ S.1 231 59 ∧ S.1 231 59 ≤ 2147483647 := hI.fi 59
                  refine g_X12_526 Cx hW (k := 231) (by decide) rfl (v := S.1 231 59) rfl dX12_told__52 ?_
                  refine r_icmp_gt (tgt := 84) hx hb ⟨(by omega), (by omega)⟩ ⟨(by omega), (by omega)⟩ dX12_told__55 (by decide) (fun c_175 => ?_) (fun c_175 => ?_)
                  · refine lv_aload_n hx hb dX12_told__84 rfl (lv_at hl 3 rfl) ?_
                    refine g_X12_166 Cx hW (k := 231) (by decide) rfl (v := .ref (G.2.2.1 + 282)) (rd_92 hI) dX12_told__85 ?_
                    refine lv_iconst (v := iv 0) hx hb dX12_told__88 (by decide) ?_
                    refine lv_iconst (v := iv 0) hx hb dX12_told__89 (by decide) ?_
                    refine rIast Cx hW hL (k := 282) (by decide) rfl (by decide) (by omega) (by omega) dX12_told__90 (fun H locs hW hL => ?_)
                    have F_176 : Fr S (uA S 282 0 0) (pl [231, 233, 234, 235, 236, 237, 238, 239, 240, 241, 242, 280, 282]) := (Fr.rf : Fr S S (pl [231, 233, 234, 235, 236, 237, 238, 239, 240, 241, 242, 280, 282])).A rfl
                    have F_177 : Fr S (uA S 282 0 0) (pl [233, 234, 235, 237, 238, 239, 240, 241, 242, 280, 282]) := (Fr.rf : Fr S S (pl [233, 234, 235, 237, 238, 239, 240, 241, 242, 280, 282])).A rfl
                    have i_178 : dX G (uA S 282 0 0) := hI.A (k := 282) (show (-2147483648) ≤ 0 ∧ 0 ≤ 2147483647 from ⟨by omega, by omega⟩)
                    refine lv_iload hx hb dX12_told__91 (lv_at hl 1 rfl) ?_
                    refine r_if_le (tgt := 119) hx hb ⟨(by omega), (by omega)⟩ dX12_told__93 (by decide) (fun c_179 => ?_) (fun c_179 => ?_)
                    · refine lv_aload_n hx hb dX12_told__119 rfl (lv_at hl 3 rfl) ?_
                      refine lv_aload_n hx hb dX12_told__120 rfl (lv_at hl 3 rfl) ?_
                      refine g_X12_166 Cx hW (k := 231) (by decide) rfl (v := .ref (G.2.2.1 + 282)) (rd_92 i_178) dX12_told__121 ?_
                      refine lv_iconst (v := iv 0) hx hb dX12_told__124 (by decide) ?_
                      refine lv_aload_n hx hb dX12_told__125 rfl (lv_at hl 3 rfl) ?_
                      refine g_X12_109 Cx hW (k := 231) (by decide) rfl (v := .ref (G.2.2.1 + 264)) (rd_55 i_178) dX12_told__126 ?_
                      refine lv_iconst (v := iv 0) hx hb dX12_told__129 (by decide) ?_
                      refine sBv (sV (As := [.ref (G.2.2.1 + 282), .int (iv 0), .ref (G.2.2.1 + 264), .int (iv 0)]) (rest := []) (k := 231) Cx (s_X12_lower0 l G (uA S 282 0 0) (ka := 282) (po := 0) (kb := 264) (qo := 0) (Nka := 4) (Nkb := 8) i_178 ⟨rfl, by decide, by decide, by decide, rfl⟩ ⟨rfl, by decide, by decide, by decide, rfl⟩ (show (282 : Nat) ≠ 233 by decide) (show (282 : Nat) ≠ 234 by decide) (show (282 : Nat) ≠ 235 by decide) (show (282 : Nat) ≠ 237 by decide) (show (282 : Nat) ≠ 238 by decide) (show (282 : Nat) ≠ 239 by decide) (show (282 : Nat) ≠ 240 by decide) (show (282 : Nat) ≠ 241 by decide) (show (282 : Nat) ≠ 242 by decide) (show (282 : Nat) ≠ 280 by decide) (show (264 : Nat) ≠ 233 by decide) (show (264 : Nat) ≠ 234 by decide) (show (264 : Nat) ≠ 235 by decide) (show (264 : Nat) ≠ 237 by decide) (show (264 : Nat) ≠ 238 by decide) (show (264 : Nat) ≠ 239 by decide) (show (264 : Nat) ≠ 240 by decide) (show (264 : Nat) ≠ 241 by decide) (show (264 : Nat) ≠ 242 by decide) (show (264 : Nat) ≠ 280 by decide) (by omega) (NO_z uA_on (by omega)) (by rw [show (uA S 282 0 0).2.1 264 = S.2.1 264 from (funext fun j => uA_ne (fun h => absurd h.1 (by decide)))]; exact hei.2.1.2.2.1) (by rw [show (uA S 282 0 0).2.1 264 = S.2.1 264 from (funext fun j => uA_ne (fun h => absurd h.1 (by decide)))]; exact hei.2.1.2.2.2)) (c_X12_671 Cx rfl rfl (rmk_ok (by omega) (by decide))) hW (by decide) rfl rfl rfl hl.1 rfl (Nat.le_of_ble_eq_true rfl) dX12_told__130 ⟨Nat.le_of_ble_eq_true rfl, Nat.le_of_ble_eq_true rfl⟩) hL (fun u_180 H locs k_181 hW hL => ?_)
                      obtain ⟨iu_180, fu_180, gu_180, xu_180⟩ := k_181
                      have F_182 := F_176.trans (fu_180.to (pl_sub (by decide)))
                      have F_183 := F_177.trans (fu_180.to (pl_sub (by decide)))
                      have g_184 : FF S u_180 (fl [6]) := FF.trans FF.rf (FF.to gu_180 (fl_sub (by decide)))
                      have g_185 : FF S u_180 (fl []) := FF.trans (FF.rf : FF S S (fl [])) (FF.to gu_180 (fl_sub (by decide)))
                      refine lv_goto (tgt := 187) hx hb dX12_told__133 (by decide) ?_
                      exact join_187 u_180 0 _ _ _ iu_180 F_182 F_183 g_184 g_185 xu_180.1 xu_180.2 (by omega) hW hL (lv_sub hl [2, 3, 4, 5] rfl)
                    · refine lv_aload_n hx hb dX12_told__96 rfl (lv_at hl 3 rfl) ?_
                      refine lv_aload_n hx hb dX12_told__97 rfl (lv_at hl 3 rfl) ?_
                      refine g_X12_103 Cx hW (k := 231) (by decide) rfl (v := .ref (G.2.2.1 + 262)) (rd_53 i_178) dX12_told__98 ?_
                      refine lv_aload_n hx hb dX12_told__101 rfl (lv_at hl 3 rfl) ?_
                      refine lv_iconst (v := iv 0) hx hb dX12_told__102 (by decide) ?_
                      refine lv_iload hx hb dX12_told__103 (lv_at hl 1 rfl) ?_
                      refine sBi (sV (As := [.int (iv 0), .int (iv f)]) (rest := [.ref (G.2.2.1 + 262), .ref (G.2.2.1 + 231)]) (k := 231) Cx (s_X12_cell l G (uA S 282 0 0) (i := 0) (j := f) (by omega) (by omega)) (c_X12_529 Cx rfl rfl (rmk_ok (by omega) (by decide))) hW (by decide) rfl rfl rfl hl.1 rfl (Nat.le_of_ble_eq_true rfl) dX12_told__105 ⟨Nat.le_of_ble_eq_true rfl, Nat.le_of_ble_eq_true rfl⟩) hL (fun qz u_186 H locs k_187 hW hL => ?_)
                      obtain ⟨eu_186, xu_186⟩ := k_187
                      rw [eu_186] at hW
                      refine lv_aload_n hx hb dX12_told__108 rfl (lv_at hl 3 rfl) ?_
                      refine g_X12_109 Cx hW (k := 231) (by decide) rfl (v := .ref (G.2.2.1 + 264)) (rd_55 i_178) dX12_told__109 ?_
                      refine lv_iconst (v := iv 0) hx hb dX12_told__112 (by decide) ?_
                      refine sBv (sV (As := [.ref (G.2.2.1 + 262), .int (iv qz), .ref (G.2.2.1 + 264), .int (iv 0)]) (rest := []) (k := 231) Cx (s_X12_lower l G (uA S 282 0 0) (ka := 262) (po := qz) (kb := 264) (qo := 0) (Nka := 5280) (Nkb := 8) i_178 ⟨rfl, by decide, by decide, by decide, rfl⟩ ⟨rfl, by decide, by decide, by decide, rfl⟩ (show (262 : Nat) ≠ 233 by decide) (show (262 : Nat) ≠ 234 by decide) (show (262 : Nat) ≠ 235 by decide) (show (262 : Nat) ≠ 237 by decide) (show (262 : Nat) ≠ 238 by decide) (show (262 : Nat) ≠ 239 by decide) (show (262 : Nat) ≠ 240 by decide) (show (262 : Nat) ≠ 241 by decide) (show (262 : Nat) ≠ 242 by decide) (show (262 : Nat) ≠ 280 by decide) (show (264 : Nat) ≠ 233 by decide) (show (264 : Nat) ≠ 234 by decide) (show (264 : Nat) ≠ 235 by decide) (show (264 : Nat) ≠ 237 by decide) (show (264 : Nat) ≠ 238 by decide) (show (264 : Nat) ≠ 239 by decide) (show (264 : Nat) ≠ 240 by decide) (show (264 : Nat) ≠ 241 by decide) (show (264 : Nat) ≠ 242 by decide) (show (264 : Nat) ≠ 280 by decide) (by omega) (by rw [show (uA S 282 0 0).2.1 262 = S.2.1 262 from (funext fun j => uA_ne (fun h => absurd h.1 (by decide)))]; exact hei.2.1.at (i := 0) (j := f) (by omega) (by omega) (by omega) (by omega)) (by rw [show (uA S 282 0 0).2.1 264 = S.2.1 264 from (funext fun j => uA_ne (fun h => absurd h.1 (by decide)))]; exact hei.2.1.2.2.1) (by rw [show (uA S 282 0 0).2.1 264 = S.2.1 264 from (funext fun j => uA_ne (fun h => absurd h.1 (by decide)))]; exact hei.2.1.2.2.2)) (c_X12_671 Cx rfl rfl (rmk_ok (by omega) (by decide))) hW (by decide) rfl rfl rfl hl.1 rfl (Nat.le_of_ble_eq_true rfl) dX12_told__113 ⟨Nat.le_of_ble_eq_true rfl, Nat.le_of_ble_eq_true rfl⟩) hL (fun u_188 H locs k_189 hW hL => ?_)
                      obtain ⟨iu_188, fu_188, gu_188, xu_188⟩ := k_189
                      have F_190 := F_176.trans (fu_188.to (pl_sub (by decide)))
                      have F_191 := F_177.trans (fu_188.to (pl_sub (by decide)))
                      have g_192 : FF S u_188 (fl [6]) := FF.trans FF.rf (FF.to gu_188 (fl_sub (by decide)))
                      have g_193 : FF S u_188 (fl []) := FF.trans (FF.rf : FF S S (fl [])) (FF.to gu_188 (fl_sub (by decide)))
                      refine lv_goto (tgt := 133) hx hb dX12_told__116 (by decide) ?_
                      refine lv_goto (tgt := 187) hx hb dX12_told__133 (by decide) ?_
                      exact join_187 u_188 0 _ _ _ iu_188 F_190 F_191 g_192 g_193 xu_188.1 xu_188.2 (by omega) hW hL (lv_sub hl [2, 3, 4, 5] rfl)
                  · refine lv_aload_n hx hb dX12_told__58 rfl (lv_at hl 3 rfl) ?_
                    refine g_X12_115 Cx hW (k := 231) (by decide) rfl (v := .ref (G.2.2.1 + 266)) (rd_57 hI) dX12_told__59 ?_
                    refine lv_iload hx hb dX12_told__62 (lv_at hl 0 rfl) ?_
                    refine rIald Cx hW (k := 266) (by decide) rfl (by decide) (by omega) (by omega) dX12_told__64 ?_
                    have q_194 : (-2147483648) ≤ S.2.1 266 j ∧ S.2.1 266 j ≤ 2147483647 := hI.ai 266 j
                    refine r_i (b := S.2.1 266 j) rfl ?_
                    refine lv_aload_n hx hb dX12_told__65 rfl (lv_at hl 3 rfl) ?_
                    refine g_X12_465 Cx hW (k := 231) (by decide) rfl (v := S.1 231 46) rfl dX12_told__66 ?_
                    refine lv_iload_n hx hb dX12_told__69 rfl (lv_at hl 4 rfl) ?_
                    refine r_isub hx hb dX12_told__70 ?_
                    refine r_icmp_ne (tgt := 78) hx hb ⟨(by omega), (by omega)⟩ ⟨(by omega), (by omega)⟩ dX12_told__71 (by decide) (fun c_195 => ?_) (fun c_195 => ?_)
                    · refine lv_iinc (v := iv (j + 1)) (lv' := [(5, .int (iv (j + 1))), (4, .int (iv f)), (3, .int (iv 0)), (0, .ref (G.2.2.1 + 231)), (1, .int (iv a)), (2, .int (iv b))]) hx hb dX12_told__78 hl (k := 0) rfl ((Int32.ofInt_add _ _).symm) (by decide) rfl (fun ls hl => ?_)
                      refine lv_goto (tgt := 49) hx hb dX12_told__81 (by decide) ?_
                      exact ih_49 (j + 1) f _ _ _ (by omega) (by omega) (by omega) hW hL (lv_sub hl [0, 1, 2, 3, 4, 5] rfl)
                    · refine lv_iload hx hb dX12_told__74 (lv_at hl 0 rfl) ?_
                      refine lv_istore (lv' := [(4, .int (iv j)), (5, .int (iv j)), (3, .int (iv 0)), (0, .ref (G.2.2.1 + 231)), (1, .int (iv a)), (2, .int (iv b))]) hx hb dX12_told__76 hl (by decide) rfl (fun ls hl => ?_)
                      refine lv_iinc (v := iv (j + 1)) (lv' := [(5, .int (iv (j + 1))), (4, .int (iv j)), (3, .int (iv 0)), (0, .ref (G.2.2.1 + 231)), (1, .int (iv a)), (2, .int (iv b))]) hx hb dX12_told__78 hl (k := 1) rfl ((Int32.ofInt_add _ _).symm) (by decide) rfl (fun ls hl => ?_)
                      refine lv_goto (tgt := 49) hx hb dX12_told__81 (by decide) ?_
                      exact ih_49 (j + 1) j _ _ _ (by omega) (by omega) (by omega) hW hL (lv_sub hl [0, 1, 2, 3, 4, 5] rfl)
              exact loop_49 (_ + 1) 1 0 _ _ _ (Nat.lt_succ_self _) (by omega) (by omega) hW hL (lv_sub hl [0, 1, 2, 3, 4, 5] rfl)
          · refine lv_iconst (v := iv (-1)) hx hb dX12_told__35 (by decide) ?_
            exact sIret Cx hr hlk hW hL ⟨hI, (Fr.rf : Fr S S (pl [231, 233, 234, 235, 236, 237, 238, 239, 240, 241, 242, 280, 282])), FF.rf, hXI⟩ dX12_told__36
