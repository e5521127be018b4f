set_option maxHeartbeats 40000000 in
set_option maxRecDepth 100000 in
theorem whole_start {p : Program} {e : Env} {s : State} {m : MethodId} {below : List Frame} {meth : Method} {c : Code} (l : Launch) {b L : Nat} {xs : Nat → Int32} (hL6 : L ≤ 6) (C0 : lw_At p s m meth c b L xs) : W p l e room_1 s m #[Value.ref b] below meth c s.heap [] 0 0 (lw_Z below #[Value.ref b] s) (entryFrame m ([Value.ref b] : List Value).toArray 4) := by
  obtain ⟨hx, hb, hr, hml, hown, hts0, hX, hbl, hlocks, hgv⟩ := id C0
  obtain ⟨D, dT, hKK⟩ := sStart hts0
  obtain ⟨G, hG⟩ : ∃ G : sG, G = (D, dT, s.heap.size, s.heap) := ⟨_, rfl⟩
  have hK : sK G s := by rw [hG]; exact hKK _ _
  have Cx : sC G p m c cL_law 4 s #[Value.ref b] RL := ⟨⟨hx, hb, hml, hown, fun w hw => hts0 w (List.mem_filter.mp hw).1⟩, hK⟩
  have hts := Cx.1.2.2.2.2
  have hbG : b < G.2.2.1 := by rw [hG]; exact hbl
  have hX : va_X b L xs s G.2.2.2 := by rw [hG]; exact hX
  have hsz : s.heap.size ≤ G.2.2.1 := by rw [hG]; exact Nat.le_refl _
  have hW : sW G 0 sS0 s.heap := by rw [hG]; exact ⟨rfl, fun _ _ => rfl, fun k h => absurd h (Nat.not_lt_zero k), fun k _ => ⟨fun _ => rfl, fun _ => rfl, fun _ => rfl⟩⟩
  clear hKK hG hgv
  have hl := lv_entry ([.ref b]) (n := 4) (Nat.le_of_ble_eq_true rfl)
  rw [lg_entry_eq]
  generalize (lg_sl ([.ref b]) ++ List.replicate (4 - (lg_sl ([.ref b])).length) Slot.unset).toArray = ls at hl ⊢
  have hl : lv_has ls 4 [(0, .ref b)] := hl
  have hL : sL G [] := sL_nil
  refine n_L_7 Cx hW rfl (Nat.le_of_ble_eq_true rfl) (Nat.le_of_ble_eq_true rfl) dL_law_0 (fun H hW => ?_)
  refine lv_dup hx hb dL_law_3 rfl ?_
  refine sBvE (sIn (As := []) (rest := [.ref (G.2.2.1 + 0)]) (k := 0) Cx (c_House l G sS0) (c_L_9 Cx rfl rfl ⟨Nat.le_of_ble_eq_true rfl, Nat.le_of_ble_eq_true rfl⟩) hW rfl hl.1 rfl (Nat.le_of_ble_eq_true rfl) dL_law_4 ⟨Nat.le_of_ble_eq_true rfl, Nat.le_of_ble_eq_true rfl⟩) hL (fun H locs hW hL => ?_)
  refine lv_astore_n (lv' := [(1, .ref (G.2.2.1 + 0)), (0, .ref b)]) hx hb dL_law_7 rfl hl (by decide) rfl (fun ls hl => ?_)
  refine n_L_10 Cx hW rfl (Nat.le_of_ble_eq_true rfl) (Nat.le_of_ble_eq_true rfl) dL_law_8 (fun H hW => ?_)
  refine lv_dup hx hb dL_law_11 rfl ?_
  refine sBvE (sIn (As := []) (rest := [.ref (G.2.2.1 + 231)]) (k := 231) Cx (c_Model l G (sI (sR (sR (sR (sR (sR (sR (sR (sR (sR (sR (sR (sR (sR (sR (sR (sR (sR (sR (sR (sR (sR (sR (sR (sR (sR (sR (sR (sR (sR (sR (sR (sR (sR (sR (sR (sR (sR (sR (sR (sR (sR (sR (sR (sR (sR (sR (sR (sR (sR (sR (sR (sR (sR (sR (sR (sR (sR (sR (sR (sR (sR (sR (sR (sR (sR (sR (sR (sR (sR (sR (sR (sR (sR (sR (sR (sR (sR (sR (sR (sR (sR (sR (sR (sR (sR (sR (sR (sR (sR (sR (sR (sR (sR (sR (sR (sR (sR (sR (sR (sR (sR (sR (sR (sR (sR (sR (sR (sR (sR (sR (sR (sR (sR (sR (sR (sR (sR (sR (sM G.2.2.1 (sR (sM G.2.2.1 (sR (sM G.2.2.1 (sR (sR (sR (sR (sR (sR (sR (sR (sR (sR (sR (sR (sR (sR (sR (sR (sR sS0 1 0 (.ref (G.2.2.1 + 2))) 0 0 (.ref (G.2.2.1 + 1))) 3 0 (.ref (G.2.2.1 + 4))) 0 1 (.ref (G.2.2.1 + 3))) 5 0 (.ref (G.2.2.1 + 6))) 5 1 (.ref (G.2.2.1 + 7))) 0 5 (.ref (G.2.2.1 + 5))) 8 0 (.ref (G.2.2.1 + 9))) 8 1 (.ref (G.2.2.1 + 10))) 0 6 (.ref (G.2.2.1 + 8))) 12 0 (.ref (G.2.2.1 + 13))) 12 1 (.ref (G.2.2.1 + 14))) 12 2 (.ref (G.2.2.1 + 15))) 11 0 (.ref (G.2.2.1 + 12))) 11 1 (.ref (G.2.2.1 + 16))) 11 2 (.ref (G.2.2.1 + 17))) 11 3 (.ref (G.2.2.1 + 18))) 19 31) 11 4 (.ref (G.2.2.1 + 19))) 51 31) 11 5 (.ref (G.2.2.1 + 51))) 83 31) 11 6 (.ref (G.2.2.1 + 83))) 11 7 (.ref (G.2.2.1 + 115))) 116 0 (.ref (G.2.2.1 + 117))) 116 1 (.ref (G.2.2.1 + 118))) 11 8 (.ref (G.2.2.1 + 116))) 0 2 (.ref (G.2.2.1 + 11))) 120 0 (.ref (G.2.2.1 + 121))) 120 1 (.ref (G.2.2.1 + 122))) 123 0 (.ref (G.2.2.1 + 124))) 120 2 (.ref (G.2.2.1 + 123))) 125 0 (.ref (G.2.2.1 + 126))) 120 3 (.ref (G.2.2.1 + 125))) 127 0 (.ref (G.2.2.1 + 128))) 120 4 (.ref (G.2.2.1 + 127))) 129 0 (.ref (G.2.2.1 + 130))) 120 5 (.ref (G.2.2.1 + 129))) 131 0 (.ref (G.2.2.1 + 132))) 120 6 (.ref (G.2.2.1 + 131))) 133 0 (.ref (G.2.2.1 + 134))) 120 7 (.ref (G.2.2.1 + 133))) 119 0 (.ref (G.2.2.1 + 120))) 135 0 (.ref (G.2.2.1 + 136))) 135 1 (.ref (G.2.2.1 + 137))) 135 2 (.ref (G.2.2.1 + 138))) 135 3 (.ref (G.2.2.1 + 139))) 135 4 (.ref (G.2.2.1 + 140))) 141 0 (.ref (G.2.2.1 + 142))) 135 5 (.ref (G.2.2.1 + 141))) 143 0 (.ref (G.2.2.1 + 144))) 135 6 (.ref (G.2.2.1 + 143))) 145 0 (.ref (G.2.2.1 + 146))) 135 7 (.ref (G.2.2.1 + 145))) 147 0 (.ref (G.2.2.1 + 148))) 135 8 (.ref (G.2.2.1 + 147))) 149 0 (.ref (G.2.2.1 + 150))) 135 9 (.ref (G.2.2.1 + 149))) 151 0 (.ref (G.2.2.1 + 152))) 135 10 (.ref (G.2.2.1 + 151))) 153 0 (.ref (G.2.2.1 + 154))) 135 11 (.ref (G.2.2.1 + 153))) 155 0 (.ref (G.2.2.1 + 156))) 135 12 (.ref (G.2.2.1 + 155))) 119 1 (.ref (G.2.2.1 + 135))) 158 0 (.ref (G.2.2.1 + 159))) 157 0 (.ref (G.2.2.1 + 158))) 160 0 (.ref (G.2.2.1 + 161))) 157 1 (.ref (G.2.2.1 + 160))) 157 2 (.ref (G.2.2.1 + 162))) 163 0 (.ref (G.2.2.1 + 164))) 157 3 (.ref (G.2.2.1 + 163))) 165 0 (.ref (G.2.2.1 + 166))) 157 4 (.ref (G.2.2.1 + 165))) 167 0 (.ref (G.2.2.1 + 168))) 157 5 (.ref (G.2.2.1 + 167))) 169 0 (.ref (G.2.2.1 + 170))) 157 6 (.ref (G.2.2.1 + 169))) 171 0 (.ref (G.2.2.1 + 172))) 157 7 (.ref (G.2.2.1 + 171))) 173 0 (.ref (G.2.2.1 + 174))) 157 8 (.ref (G.2.2.1 + 173))) 175 0 (.ref (G.2.2.1 + 176))) 157 9 (.ref (G.2.2.1 + 175))) 119 2 (.ref (G.2.2.1 + 157))) 177 0 (.ref (G.2.2.1 + 178))) 119 3 (.ref (G.2.2.1 + 177))) 179 0 (.ref (G.2.2.1 + 180))) 119 4 (.ref (G.2.2.1 + 179))) 181 0 (.ref (G.2.2.1 + 182))) 119 5 (.ref (G.2.2.1 + 181))) 183 0 (.ref (G.2.2.1 + 184))) 119 6 (.ref (G.2.2.1 + 183))) 185 0 (.ref (G.2.2.1 + 186))) 185 1 (.ref (G.2.2.1 + 187))) 119 7 (.ref (G.2.2.1 + 185))) 0 3 (.ref (G.2.2.1 + 119))) 190 0 (.ref (G.2.2.1 + 191))) 189 0 (.ref (G.2.2.1 + 190))) 189 1 (.ref (G.2.2.1 + 192))) 188 0 (.ref (G.2.2.1 + 189))) 193 0 (.ref (G.2.2.1 + 194))) 193 1 (.ref (G.2.2.1 + 195))) 196 0 (.ref (G.2.2.1 + 197))) 193 2 (.ref (G.2.2.1 + 196))) 198 0 (.ref (G.2.2.1 + 199))) 193 3 (.ref (G.2.2.1 + 198))) 200 0 (.ref (G.2.2.1 + 201))) 193 4 (.ref (G.2.2.1 + 200))) 202 0 (.ref (G.2.2.1 + 203))) 193 5 (.ref (G.2.2.1 + 202))) 204 0 (.ref (G.2.2.1 + 205))) 193 6 (.ref (G.2.2.1 + 204))) 206 0 (.ref (G.2.2.1 + 207))) 193 7 (.ref (G.2.2.1 + 206))) 188 1 (.ref (G.2.2.1 + 193))) 188 2 (.ref (G.2.2.1 + 208))) 209 0 (.ref (G.2.2.1 + 210))) 188 3 (.ref (G.2.2.1 + 209))) 211 0 (.ref (G.2.2.1 + 212))) 188 4 (.ref (G.2.2.1 + 211))) 213 0 (.ref (G.2.2.1 + 214))) 188 5 (.ref (G.2.2.1 + 213))) 215 0 (.ref (G.2.2.1 + 216))) 188 6 (.ref (G.2.2.1 + 215))) 217 0 (.ref (G.2.2.1 + 218))) 188 7 (.ref (G.2.2.1 + 217))) 219 0 (.ref (G.2.2.1 + 220))) 188 8 (.ref (G.2.2.1 + 219))) 221 0 (.ref (G.2.2.1 + 222))) 188 9 (.ref (G.2.2.1 + 221))) 223 0 (.ref (G.2.2.1 + 224))) 188 10 (.ref (G.2.2.1 + 223))) 188 11 (.ref (G.2.2.1 + 225))) 188 12 (.ref (G.2.2.1 + 226))) 188 13 (.ref (G.2.2.1 + 227))) 228 0 (.ref (G.2.2.1 + 229))) 228 1 (.ref (G.2.2.1 + 230))) 188 15 (.ref (G.2.2.1 + 228))) 0 4 (.ref (G.2.2.1 + 188))) 0 10 ((-1)))) (c_L_12 Cx rfl rfl ⟨Nat.le_of_ble_eq_true rfl, Nat.le_of_ble_eq_true rfl⟩) hW rfl hl.1 rfl (Nat.le_of_ble_eq_true rfl) dL_law_12 ⟨Nat.le_of_ble_eq_true rfl, Nat.le_of_ble_eq_true rfl⟩) hL (fun H locs hW hL => ?_)
  refine lv_astore_n (lv' := [(2, .ref (G.2.2.1 + 231)), (1, .ref (G.2.2.1 + 0)), (0, .ref b)]) hx hb dL_law_15 rfl hl (by decide) rfl (fun ls hl => ?_)
  refine lv_iconst (v := 0) hx hb dL_law_16 (by decide) ?_
  refine lv_istore_n (lv' := [(3, .int 0), (2, .ref (G.2.2.1 + 231)), (1, .ref (G.2.2.1 + 0)), (0, .ref b)]) hx hb dL_law_17 rfl hl (by decide) rfl (fun ls hl => ?_)
  obtain ⟨S, hS⟩ : ∃ z : sS, z = (sR (sR (sR (sR (sR (sR (sR (sR (sR (sR (sR (sR (sR (sR (sR (sR (sR (sR (sR (sR (sR (sR (sR (sR (sR (sR (sR (sR (sR (sR (sR (sR (sR (sR (sR (sR (sR (sR (sR (sR (sR (sR (sR (sR (sR (sR (sR (sR (sR (sR (sR (sR (sR (sR (sR (sR (sR (sR (sR (sR (sR (sR (sI (sR (sR (sR (sR (sR (sR (sR (sR (sR (sR (sR (sR (sR (sR (sR (sR (sR (sR (sR (sR (sR (sR (sR (sR (sR (sR (sR (sR (sR (sR (sR (sR (sR (sR (sR (sR (sR (sR (sR (sR (sR (sR (sR (sR (sR (sR (sR (sR (sR (sR (sR (sR (sR (sR (sR (sR (sR (sR (sR (sR (sR (sR (sR (sR (sR (sR (sR (sR (sR (sR (sR (sR (sR (sR (sR (sR (sR (sR (sR (sR (sR (sR (sR (sR (sR (sR (sR (sR (sR (sR (sR (sR (sR (sR (sR (sR (sR (sR (sR (sR (sR (sR (sR (sR (sR (sR (sR (sR (sR (sR (sR (sR (sR (sR (sR (sR (sR (sR (sM G.2.2.1 (sR (sM G.2.2.1 (sR (sM G.2.2.1 (sR (sR (sR (sR (sR (sR (sR (sR (sR (sR (sR (sR (sR (sR (sR (sR (sR sS0 1 0 (.ref (G.2.2.1 + 2))) 0 0 (.ref (G.2.2.1 + 1))) 3 0 (.ref (G.2.2.1 + 4))) 0 1 (.ref (G.2.2.1 + 3))) 5 0 (.ref (G.2.2.1 + 6))) 5 1 (.ref (G.2.2.1 + 7))) 0 5 (.ref (G.2.2.1 + 5))) 8 0 (.ref (G.2.2.1 + 9))) 8 1 (.ref (G.2.2.1 + 10))) 0 6 (.ref (G.2.2.1 + 8))) 12 0 (.ref (G.2.2.1 + 13))) 12 1 (.ref (G.2.2.1 + 14))) 12 2 (.ref (G.2.2.1 + 15))) 11 0 (.ref (G.2.2.1 + 12))) 11 1 (.ref (G.2.2.1 + 16))) 11 2 (.ref (G.2.2.1 + 17))) 11 3 (.ref (G.2.2.1 + 18))) 19 31) 11 4 (.ref (G.2.2.1 + 19))) 51 31) 11 5 (.ref (G.2.2.1 + 51))) 83 31) 11 6 (.ref (G.2.2.1 + 83))) 11 7 (.ref (G.2.2.1 + 115))) 116 0 (.ref (G.2.2.1 + 117))) 116 1 (.ref (G.2.2.1 + 118))) 11 8 (.ref (G.2.2.1 + 116))) 0 2 (.ref (G.2.2.1 + 11))) 120 0 (.ref (G.2.2.1 + 121))) 120 1 (.ref (G.2.2.1 + 122))) 123 0 (.ref (G.2.2.1 + 124))) 120 2 (.ref (G.2.2.1 + 123))) 125 0 (.ref (G.2.2.1 + 126))) 120 3 (.ref (G.2.2.1 + 125))) 127 0 (.ref (G.2.2.1 + 128))) 120 4 (.ref (G.2.2.1 + 127))) 129 0 (.ref (G.2.2.1 + 130))) 120 5 (.ref (G.2.2.1 + 129))) 131 0 (.ref (G.2.2.1 + 132))) 120 6 (.ref (G.2.2.1 + 131))) 133 0 (.ref (G.2.2.1 + 134))) 120 7 (.ref (G.2.2.1 + 133))) 119 0 (.ref (G.2.2.1 + 120))) 135 0 (.ref (G.2.2.1 + 136))) 135 1 (.ref (G.2.2.1 + 137))) 135 2 (.ref (G.2.2.1 + 138))) 135 3 (.ref (G.2.2.1 + 139))) 135 4 (.ref (G.2.2.1 + 140))) 141 0 (.ref (G.2.2.1 + 142))) 135 5 (.ref (G.2.2.1 + 141))) 143 0 (.ref (G.2.2.1 + 144))) 135 6 (.ref (G.2.2.1 + 143))) 145 0 (.ref (G.2.2.1 + 146))) 135 7 (.ref (G.2.2.1 + 145))) 147 0 (.ref (G.2.2.1 + 148))) 135 8 (.ref (G.2.2.1 + 147))) 149 0 (.ref (G.2.2.1 + 150))) 135 9 (.ref (G.2.2.1 + 149))) 151 0 (.ref (G.2.2.1 + 152))) 135 10 (.ref (G.2.2.1 + 151))) 153 0 (.ref (G.2.2.1 + 154))) 135 11 (.ref (G.2.2.1 + 153))) 155 0 (.ref (G.2.2.1 + 156))) 135 12 (.ref (G.2.2.1 + 155))) 119 1 (.ref (G.2.2.1 + 135))) 158 0 (.ref (G.2.2.1 + 159))) 157 0 (.ref (G.2.2.1 + 158))) 160 0 (.ref (G.2.2.1 + 161))) 157 1 (.ref (G.2.2.1 + 160))) 157 2 (.ref (G.2.2.1 + 162))) 163 0 (.ref (G.2.2.1 + 164))) 157 3 (.ref (G.2.2.1 + 163))) 165 0 (.ref (G.2.2.1 + 166))) 157 4 (.ref (G.2.2.1 + 165))) 167 0 (.ref (G.2.2.1 + 168))) 157 5 (.ref (G.2.2.1 + 167))) 169 0 (.ref (G.2.2.1 + 170))) 157 6 (.ref (G.2.2.1 + 169))) 171 0 (.ref (G.2.2.1 + 172))) 157 7 (.ref (G.2.2.1 + 171))) 173 0 (.ref (G.2.2.1 + 174))) 157 8 (.ref (G.2.2.1 + 173))) 175 0 (.ref (G.2.2.1 + 176))) 157 9 (.ref (G.2.2.1 + 175))) 119 2 (.ref (G.2.2.1 + 157))) 177 0 (.ref (G.2.2.1 + 178))) 119 3 (.ref (G.2.2.1 + 177))) 179 0 (.ref (G.2.2.1 + 180))) 119 4 (.ref (G.2.2.1 + 179))) 181 0 (.ref (G.2.2.1 + 182))) 119 5 (.ref (G.2.2.1 + 181))) 183 0 (.ref (G.2.2.1 + 184))) 119 6 (.ref (G.2.2.1 + 183))) 185 0 (.ref (G.2.2.1 + 186))) 185 1 (.ref (G.2.2.1 + 187))) 119 7 (.ref (G.2.2.1 + 185))) 0 3 (.ref (G.2.2.1 + 119))) 190 0 (.ref (G.2.2.1 + 191))) 189 0 (.ref (G.2.2.1 + 190))) 189 1 (.ref (G.2.2.1 + 192))) 188 0 (.ref (G.2.2.1 + 189))) 193 0 (.ref (G.2.2.1 + 194))) 193 1 (.ref (G.2.2.1 + 195))) 196 0 (.ref (G.2.2.1 + 197))) 193 2 (.ref (G.2.2.1 + 196))) 198 0 (.ref (G.2.2.1 + 199))) 193 3 (.ref (G.2.2.1 + 198))) 200 0 (.ref (G.2.2.1 + 201))) 193 4 (.ref (G.2.2.1 + 200))) 202 0 (.ref (G.2.2.1 + 203))) 193 5 (.ref (G.2.2.1 + 202))) 204 0 (.ref (G.2.2.1 + 205))) 193 6 (.ref (G.2.2.1 + 204))) 206 0 (.ref (G.2.2.1 + 207))) 193 7 (.ref (G.2.2.1 + 206))) 188 1 (.ref (G.2.2.1 + 193))) 188 2 (.ref (G.2.2.1 + 208))) 209 0 (.ref (G.2.2.1 + 210))) 188 3 (.ref (G.2.2.1 + 209))) 211 0 (.ref (G.2.2.1 + 212))) 188 4 (.ref (G.2.2.1 + 211))) 213 0 (.ref (G.2.2.1 + 214))) 188 5 (.ref (G.2.2.1 + 213))) 215 0 (.ref (G.2.2.1 + 216))) 188 6 (.ref (G.2.2.1 + 215))) 217 0 (.ref (G.2.2.1 + 218))) 188 7 (.ref (G.2.2.1 + 217))) 219 0 (.ref (G.2.2.1 + 220))) 188 8 (.ref (G.2.2.1 + 219))) 221 0 (.ref (G.2.2.1 + 222))) 188 9 (.ref (G.2.2.1 + 221))) 223 0 (.ref (G.2.2.1 + 224))) 188 10 (.ref (G.2.2.1 + 223))) 188 11 (.ref (G.2.2.1 + 225))) 188 12 (.ref (G.2.2.1 + 226))) 188 13 (.ref (G.2.2.1 + 227))) 228 0 (.ref (G.2.2.1 + 229))) 228 1 (.ref (G.2.2.1 + 230))) 188 15 (.ref (G.2.2.1 + 228))) 0 4 (.ref (G.2.2.1 + 188))) 0 10 ((-1))) 231 0 (.ref (G.2.2.1 + 232))) 231 2 (.ref (G.2.2.1 + 233))) 231 3 (.ref (G.2.2.1 + 234))) 231 4 (.ref (G.2.2.1 + 235))) 231 5 (.ref (G.2.2.1 + 236))) 231 7 (.ref (G.2.2.1 + 237))) 231 8 (.ref (G.2.2.1 + 238))) 231 9 (.ref (G.2.2.1 + 239))) 231 10 (.ref (G.2.2.1 + 240))) 231 11 (.ref (G.2.2.1 + 241))) 231 12 (.ref (G.2.2.1 + 242))) 231 13 (.ref (G.2.2.1 + 243))) 231 15 (.ref (G.2.2.1 + 244))) 231 16 (.ref (G.2.2.1 + 245))) 231 17 (.ref (G.2.2.1 + 246))) 231 18 (.ref (G.2.2.1 + 247))) 231 26 (.ref (G.2.2.1 + 248))) 231 27 (.ref (G.2.2.1 + 249))) 231 28 (.ref (G.2.2.1 + 250))) 231 29 (.ref (G.2.2.1 + 251))) 231 30 (.ref (G.2.2.1 + 252))) 231 31 (.ref (G.2.2.1 + 253))) 231 37 (.ref (G.2.2.1 + 254))) 231 38 (.ref (G.2.2.1 + 255))) 231 39 (.ref (G.2.2.1 + 256))) 231 41 (.ref (G.2.2.1 + 257))) 231 44 (.ref (G.2.2.1 + 258))) 231 50 (.ref (G.2.2.1 + 259))) 231 51 (.ref (G.2.2.1 + 260))) 231 52 (.ref (G.2.2.1 + 261))) 231 53 (.ref (G.2.2.1 + 262))) 231 54 (.ref (G.2.2.1 + 263))) 231 55 (.ref (G.2.2.1 + 264))) 231 56 (.ref (G.2.2.1 + 265))) 231 57 (.ref (G.2.2.1 + 266))) 231 73 (.ref (G.2.2.1 + 267))) 231 74 (.ref (G.2.2.1 + 268))) 231 75 (.ref (G.2.2.1 + 269))) 231 76 (.ref (G.2.2.1 + 270))) 231 77 (.ref (G.2.2.1 + 271))) 231 80 (.ref (G.2.2.1 + 272))) 231 81 (.ref (G.2.2.1 + 273))) 231 82 (.ref (G.2.2.1 + 274))) 231 83 (.ref (G.2.2.1 + 275))) 231 85 (.ref (G.2.2.1 + 276))) 231 87 (.ref (G.2.2.1 + 277))) 231 88 (.ref (G.2.2.1 + 278))) 231 89 (.ref (G.2.2.1 + 279))) 231 90 (.ref (G.2.2.1 + 280))) 231 91 (.ref (G.2.2.1 + 281))) 231 92 (.ref (G.2.2.1 + 282))) 231 93 (.ref (G.2.2.1 + 283))) 231 94 (.ref (G.2.2.1 + 284))) 231 95 (.ref (G.2.2.1 + 285))) 231 96 (.ref (G.2.2.1 + 286))) 231 97 (.ref (G.2.2.1 + 287))) 231 98 (.ref (G.2.2.1 + 288))) 231 99 (.ref (G.2.2.1 + 289))) 231 101 (.ref (G.2.2.1 + 290))) 231 102 (.ref (G.2.2.1 + 291))) 231 103 (.ref (G.2.2.1 + 292))) 231 104 (.ref (G.2.2.1 + 293))) := ⟨_, rfl⟩
  have hW : sW G 294 S H := by rw [hS]; exact hW
  have hR_0_0 : S.2.2 0 0 = .ref (G.2.2.1 + 1) := by rw [hS]; rfl
  have hI_1_1 : S.1 1 1 = 0 := by rw [hS]; rfl
  have hR_1_0 : S.2.2 1 0 = .ref (G.2.2.1 + 2) := by rw [hS]; rfl
  have hI_231_1 : S.1 231 1 = 0 := by rw [hS]; rfl
  have hR_231_0 : S.2.2 231 0 = .ref (G.2.2.1 + 232) := by rw [hS]; rfl
  have hR_0_2 : S.2.2 0 2 = .ref (G.2.2.1 + 11) := by rw [hS]; rfl
  have hR_0_6 : S.2.2 0 6 = .ref (G.2.2.1 + 8) := by rw [hS]; rfl
  have hR_11_0 : S.2.2 11 0 = .ref (G.2.2.1 + 12) := by rw [hS]; rfl
  have hR_12_0 : S.2.2 12 0 = .ref (G.2.2.1 + 13) := by rw [hS]; rfl
  have hR_12_1 : S.2.2 12 1 = .ref (G.2.2.1 + 14) := by rw [hS]; rfl
  have hR_12_2 : S.2.2 12 2 = .ref (G.2.2.1 + 15) := by rw [hS]; rfl
  have hR_231_15 : S.2.2 231 15 = .ref (G.2.2.1 + 244) := by rw [hS]; rfl
  have hR_231_16 : S.2.2 231 16 = .ref (G.2.2.1 + 245) := by rw [hS]; rfl
  have hR_231_17 : S.2.2 231 17 = .ref (G.2.2.1 + 246) := by rw [hS]; rfl
  have hR_231_18 : S.2.2 231 18 = .ref (G.2.2.1 + 247) := by rw [hS]; rfl
  have hI_0_9 : S.1 0 9 = 0 := by rw [hS]; rfl
  have hI_0_10 : S.1 0 10 = (-1) := by rw [hS]; rfl
  have hI_231_22 : S.1 231 22 = 0 := by rw [hS]; rfl
  have hI_0_7 : S.1 0 7 = 0 := by rw [hS]; rfl
  have hI_231_45 : S.1 231 45 = 0 := by rw [hS]; rfl
  have hI_0_8 : S.1 0 8 = 0 := by rw [hS]; rfl
  have hI_231_61 : S.1 231 61 = 0 := by rw [hS]; rfl
  rcases (show L = 0 ∨ L = 1 ∨ L = 2 ∨ L = 3 ∨ L = 4 ∨ L = 5 ∨ L = 6 by omega) with rfl | rfl | rfl | rfl | rfl | rfl | rfl
  · refine lv_iload_n hx hb dL_law_18 rfl (lv_at hl 0 rfl) ?_
    refine lv_aload_n hx hb dL_law_19 rfl (lv_at hl 3 rfl) ?_
    refine sSlen Cx hX hbG hW (v := 0) (by decide) dL_law_20 ?_
    refine lv_bipush (v := 6) hx hb dL_law_21 (by decide) ?_
    refine lv_isub hx hb dL_law_23 ?_
    refine sCi (v := (-6)) (by decide) ?_
    refine lv_icmp_gt (tgt := 493) hx hb dL_law_24 (by decide) (fun _ => ?_) (fun c => absurd (by decide) c)
    refine lv_iconst (v := 1) hx hb dL_law_493 (by decide) ?_
    refine va_forget (fun q hq => Nat.le_trans hsz (hL q hq)) ?_
    refine W.widen (k := 600000) (n := 7302250) (Nat.le_of_ble_eq_true rfl) (Nat.le_of_ble_eq_true rfl) ?_
    exact lw_ret hx hb hr hlocks dL_law_494
  · refine lv_iload_n hx hb dL_law_18 rfl (lv_at hl 0 rfl) ?_
    refine lv_aload_n hx hb dL_law_19 rfl (lv_at hl 3 rfl) ?_
    refine sSlen Cx hX hbG hW (v := 1) (by decide) dL_law_20 ?_
    refine lv_bipush (v := 6) hx hb dL_law_21 (by decide) ?_
    refine lv_isub hx hb dL_law_23 ?_
    refine sCi (v := (-5)) (by decide) ?_
    refine lv_icmp_gt (tgt := 493) hx hb dL_law_24 (by decide) (fun _ => ?_) (fun c => absurd (by decide) c)
    refine lv_iconst (v := 1) hx hb dL_law_493 (by decide) ?_
    refine va_forget (fun q hq => Nat.le_trans hsz (hL q hq)) ?_
    refine W.widen (k := 600000) (n := 7302250) (Nat.le_of_ble_eq_true rfl) (Nat.le_of_ble_eq_true rfl) ?_
    exact lw_ret hx hb hr hlocks dL_law_494
  · refine lv_iload_n hx hb dL_law_18 rfl (lv_at hl 0 rfl) ?_
    refine lv_aload_n hx hb dL_law_19 rfl (lv_at hl 3 rfl) ?_
    refine sSlen Cx hX hbG hW (v := 2) (by decide) dL_law_20 ?_
    refine lv_bipush (v := 6) hx hb dL_law_21 (by decide) ?_
    refine lv_isub hx hb dL_law_23 ?_
    refine sCi (v := (-4)) (by decide) ?_
    refine lv_icmp_gt (tgt := 493) hx hb dL_law_24 (by decide) (fun _ => ?_) (fun c => absurd (by decide) c)
    refine lv_iconst (v := 1) hx hb dL_law_493 (by decide) ?_
    refine va_forget (fun q hq => Nat.le_trans hsz (hL q hq)) ?_
    refine W.widen (k := 600000) (n := 7302250) (Nat.le_of_ble_eq_true rfl) (Nat.le_of_ble_eq_true rfl) ?_
    exact lw_ret hx hb hr hlocks dL_law_494
  · refine lv_iload_n hx hb dL_law_18 rfl (lv_at hl 0 rfl) ?_
    refine lv_aload_n hx hb dL_law_19 rfl (lv_at hl 3 rfl) ?_
    refine sSlen Cx hX hbG hW (v := 3) (by decide) dL_law_20 ?_
    refine lv_bipush (v := 6) hx hb dL_law_21 (by decide) ?_
    refine lv_isub hx hb dL_law_23 ?_
    refine sCi (v := (-3)) (by decide) ?_
    refine lv_icmp_gt (tgt := 493) hx hb dL_law_24 (by decide) (fun _ => ?_) (fun c => absurd (by decide) c)
    refine lv_iconst (v := 1) hx hb dL_law_493 (by decide) ?_
    refine va_forget (fun q hq => Nat.le_trans hsz (hL q hq)) ?_
    refine W.widen (k := 600000) (n := 7302250) (Nat.le_of_ble_eq_true rfl) (Nat.le_of_ble_eq_true rfl) ?_
    exact lw_ret hx hb hr hlocks dL_law_494
  · refine lv_iload_n hx hb dL_law_18 rfl (lv_at hl 0 rfl) ?_
    refine lv_aload_n hx hb dL_law_19 rfl (lv_at hl 3 rfl) ?_
    refine sSlen Cx hX hbG hW (v := 4) (by decide) dL_law_20 ?_
    refine lv_bipush (v := 6) hx hb dL_law_21 (by decide) ?_
    refine lv_isub hx hb dL_law_23 ?_
    refine sCi (v := (-2)) (by decide) ?_
    refine lv_icmp_gt (tgt := 493) hx hb dL_law_24 (by decide) (fun _ => ?_) (fun c => absurd (by decide) c)
    refine lv_iconst (v := 1) hx hb dL_law_493 (by decide) ?_
    refine va_forget (fun q hq => Nat.le_trans hsz (hL q hq)) ?_
    refine W.widen (k := 600000) (n := 7302250) (Nat.le_of_ble_eq_true rfl) (Nat.le_of_ble_eq_true rfl) ?_
    exact lw_ret hx hb hr hlocks dL_law_494
  · refine lv_iload_n hx hb dL_law_18 rfl (lv_at hl 0 rfl) ?_
    refine lv_aload_n hx hb dL_law_19 rfl (lv_at hl 3 rfl) ?_
    refine sSlen Cx hX hbG hW (v := 5) (by decide) dL_law_20 ?_
    refine lv_bipush (v := 6) hx hb dL_law_21 (by decide) ?_
    refine lv_isub hx hb dL_law_23 ?_
    refine sCi (v := (-1)) (by decide) ?_
    refine lv_icmp_gt (tgt := 493) hx hb dL_law_24 (by decide) (fun _ => ?_) (fun c => absurd (by decide) c)
    refine lv_iconst (v := 1) hx hb dL_law_493 (by decide) ?_
    refine va_forget (fun q hq => Nat.le_trans hsz (hL q hq)) ?_
    refine W.widen (k := 600000) (n := 7302250) (Nat.le_of_ble_eq_true rfl) (Nat.le_of_ble_eq_true rfl) ?_
    exact lw_ret hx hb hr hlocks dL_law_494
  · refine lv_iload_n hx hb dL_law_18 rfl (lv_at hl 0 rfl) ?_
    refine lv_aload_n hx hb dL_law_19 rfl (lv_at hl 3 rfl) ?_
    refine sSlen Cx hX hbG hW (v := 6) (by decide) dL_law_20 ?_
    refine lv_bipush (v := 6) hx hb dL_law_21 (by decide) ?_
    refine lv_isub hx hb dL_law_23 ?_
    refine sCi (v := 0) (by decide) ?_
    refine lv_icmp_gt (tgt := 493) hx hb dL_law_24 (by decide) (fun c => absurd c (by decide)) (fun _ => ?_)
    refine lv_aload_n hx hb dL_law_27 rfl (lv_at hl 3 rfl) ?_
    refine lv_iload_n hx hb dL_law_28 rfl (lv_at hl 0 rfl) ?_
    refine sSld Cx hX hbG hW (j := 0) (by decide) (vp_c (by decide)) dL_law_29 ?_
    refine lv_bipush (v := 15) hx hb dL_law_30 (by decide) ?_
    refine lv_iand hx hb dL_law_32 ?_
    by_cases c1 : (xs 0) &&& 15 = 0
    · refine lv_tableIn (off := 71) (tgt := 104) hx hb dL_law_33 (by rw [c1]; decide) (by rw [c1]; decide) (by rw [c1]; decide) (by decide) ?_
      refine lv_aload_n hx hb dL_law_104 rfl (lv_at hl 2 rfl) ?_
      refine lv_aload_n hx hb dL_law_105 rfl (lv_at hl 3 rfl) ?_
      refine lv_iload_n hx hb dL_law_106 rfl (lv_at hl 0 rfl) ?_
      refine lv_iconst (v := 1) hx hb dL_law_107 (by decide) ?_
      refine lv_iadd hx hb dL_law_108 ?_
      refine sCi (v := 1) (by decide) ?_
      refine sSld Cx hX hbG hW (j := 1) (by decide) (vp_c (by decide)) dL_law_109 ?_
      refine lv_aload_n hx hb dL_law_110 rfl (lv_at hl 3 rfl) ?_
      refine lv_iload_n hx hb dL_law_111 rfl (lv_at hl 0 rfl) ?_
      refine lv_iconst (v := 2) hx hb dL_law_112 (by decide) ?_
      refine lv_iadd hx hb dL_law_113 ?_
      refine sCi (v := 2) (by decide) ?_
      refine sSld Cx hX hbG hW (j := 2) (by decide) (vp_c (by decide)) dL_law_114 ?_
      refine lv_aload_n hx hb dL_law_115 rfl (lv_at hl 3 rfl) ?_
      refine lv_iload_n hx hb dL_law_116 rfl (lv_at hl 0 rfl) ?_
      refine lv_iconst (v := 3) hx hb dL_law_117 (by decide) ?_
      refine lv_iadd hx hb dL_law_118 ?_
      refine sCi (v := 3) (by decide) ?_
      refine sSld Cx hX hbG hW (j := 3) (by decide) (vp_c (by decide)) dL_law_119 ?_
      refine lv_aload_n hx hb dL_law_120 rfl (lv_at hl 3 rfl) ?_
      refine lv_iload_n hx hb dL_law_121 rfl (lv_at hl 0 rfl) ?_
      refine lv_iconst (v := 4) hx hb dL_law_122 (by decide) ?_
      refine lv_iadd hx hb dL_law_123 ?_
      refine sCi (v := 4) (by decide) ?_
      refine sSld Cx hX hbG hW (j := 4) (by decide) (vp_c (by decide)) dL_law_124 ?_
      refine lv_aload_n hx hb dL_law_125 rfl (lv_at hl 3 rfl) ?_
      refine lv_iload_n hx hb dL_law_126 rfl (lv_at hl 0 rfl) ?_
      refine lv_iconst (v := 5) hx hb dL_law_127 (by decide) ?_
      refine lv_iadd hx hb dL_law_128 ?_
      refine sCi (v := 5) (by decide) ?_
      refine sSld Cx hX hbG hW (j := 5) (by decide) (vp_c (by decide)) dL_law_129 ?_
      refine sBiE (sV (As := [.int (xs 1), .int (xs 2), .int (xs 3), .int (xs 4), .int (xs 5)]) (rest := []) (k := 0) Cx (m_X11_feed l G S (xs 1) (xs 2) (xs 3) (xs 4) (xs 5) hR_0_0 hI_1_1 hR_1_0) (c_L_13 Cx rfl rfl ⟨Nat.le_of_ble_eq_true rfl, Nat.le_of_ble_eq_true rfl⟩) hW (by decide) rfl rfl rfl hl.1 rfl (Nat.le_of_ble_eq_true rfl) dL_law_130 ⟨Nat.le_of_ble_eq_true rfl, Nat.le_of_ble_eq_true rfl⟩) hL (fun H locs hW hL => ?_)
      refine lv_aload_n hx hb dL_law_133 rfl (lv_at hl 1 rfl) ?_
      refine lv_aload_n hx hb dL_law_134 rfl (lv_at hl 3 rfl) ?_
      refine lv_iload_n hx hb dL_law_135 rfl (lv_at hl 0 rfl) ?_
      refine lv_iconst (v := 1) hx hb dL_law_136 (by decide) ?_
      refine lv_iadd hx hb dL_law_137 ?_
      refine sCi (v := 1) (by decide) ?_
      refine sSld Cx hX hbG hW (j := 1) (by decide) (vp_c (by decide)) dL_law_138 ?_
      refine lv_aload_n hx hb dL_law_139 rfl (lv_at hl 3 rfl) ?_
      refine lv_iload_n hx hb dL_law_140 rfl (lv_at hl 0 rfl) ?_
      refine lv_iconst (v := 2) hx hb dL_law_141 (by decide) ?_
      refine lv_iadd hx hb dL_law_142 ?_
      refine sCi (v := 2) (by decide) ?_
      refine sSld Cx hX hbG hW (j := 2) (by decide) (vp_c (by decide)) dL_law_143 ?_
      refine lv_aload_n hx hb dL_law_144 rfl (lv_at hl 3 rfl) ?_
      refine lv_iload_n hx hb dL_law_145 rfl (lv_at hl 0 rfl) ?_
      refine lv_iconst (v := 3) hx hb dL_law_146 (by decide) ?_
      refine lv_iadd hx hb dL_law_147 ?_
      refine sCi (v := 3) (by decide) ?_
      refine sSld Cx hX hbG hW (j := 3) (by decide) (vp_c (by decide)) dL_law_148 ?_
      refine lv_aload_n hx hb dL_law_149 rfl (lv_at hl 3 rfl) ?_
      refine lv_iload_n hx hb dL_law_150 rfl (lv_at hl 0 rfl) ?_
      refine lv_iconst (v := 4) hx hb dL_law_151 (by decide) ?_
      refine lv_iadd hx hb dL_law_152 ?_
      refine sCi (v := 4) (by decide) ?_
      refine sSld Cx hX hbG hW (j := 4) (by decide) (vp_c (by decide)) dL_law_153 ?_
      refine lv_aload_n hx hb dL_law_154 rfl (lv_at hl 3 rfl) ?_
      refine lv_iload_n hx hb dL_law_155 rfl (lv_at hl 0 rfl) ?_
      refine lv_iconst (v := 5) hx hb dL_law_156 (by decide) ?_
      refine lv_iadd hx hb dL_law_157 ?_
      refine sCi (v := 5) (by decide) ?_
      refine sSld Cx hX hbG hW (j := 5) (by decide) (vp_c (by decide)) dL_law_158 ?_
      refine sBiE (sV (As := [.int (xs 1), .int (xs 2), .int (xs 3), .int (xs 4), .int (xs 5)]) (rest := [.int 20]) (k := 231) Cx (m_X12_feed l G (sI (sI (sI (sI (sI (sI (sI (sI (sI (sI (sI (sI (sI (sI (sI (sI (sI (sI (sI (sI (sI (sI (sI (sI (sI (sI (sI (sI (sI (sI (sI (sI (sI (sI (sI (sI (sI (sI (sI (sI S 2 0 (vp_nar .byte (i2bI (ushrI (xs 1) 24)))) 1 1 1) 2 1 (vp_nar .byte (i2bI (ushrI (xs 1) 16)))) 1 1 2) 2 2 (vp_nar .byte (i2bI (ushrI (xs 1) 8)))) 1 1 3) 2 3 (vp_nar .byte (i2bI (xs 1)))) 1 1 4) 2 4 (vp_nar .byte (i2bI (ushrI (xs 2) 24)))) 1 1 5) 2 5 (vp_nar .byte (i2bI (ushrI (xs 2) 16)))) 1 1 6) 2 6 (vp_nar .byte (i2bI (ushrI (xs 2) 8)))) 1 1 7) 2 7 (vp_nar .byte (i2bI (xs 2)))) 1 1 8) 2 8 (vp_nar .byte (i2bI (ushrI (xs 3) 24)))) 1 1 9) 2 9 (vp_nar .byte (i2bI (ushrI (xs 3) 16)))) 1 1 10) 2 10 (vp_nar .byte (i2bI (ushrI (xs 3) 8)))) 1 1 11) 2 11 (vp_nar .byte (i2bI (xs 3)))) 1 1 12) 2 12 (vp_nar .byte (i2bI (ushrI (xs 4) 24)))) 1 1 13) 2 13 (vp_nar .byte (i2bI (ushrI (xs 4) 16)))) 1 1 14) 2 14 (vp_nar .byte (i2bI (ushrI (xs 4) 8)))) 1 1 15) 2 15 (vp_nar .byte (i2bI (xs 4)))) 1 1 16) 2 16 (vp_nar .byte (i2bI (ushrI (xs 5) 24)))) 1 1 17) 2 17 (vp_nar .byte (i2bI (ushrI (xs 5) 16)))) 1 1 18) 2 18 (vp_nar .byte (i2bI (ushrI (xs 5) 8)))) 1 1 19) 2 19 (vp_nar .byte (i2bI (xs 5)))) 1 1 20) (xs 1) (xs 2) (xs 3) (xs 4) (xs 5) hI_231_1 hR_231_0) (c_L_17 Cx rfl rfl ⟨Nat.le_of_ble_eq_true rfl, Nat.le_of_ble_eq_true rfl⟩) hW (by decide) rfl rfl rfl hl.1 rfl (Nat.le_of_ble_eq_true rfl) dL_law_159 ⟨Nat.le_of_ble_eq_true rfl, Nat.le_of_ble_eq_true rfl⟩) hL (fun H locs hW hL => ?_)
      refine lv_icmp_eq (tgt := 487) hx hb dL_law_162 (by decide) (fun _ => ?_) (fun c => absurd (by decide) c)
      refine lv_iinc (v := 6) (lv' := [(3, .int 6), (2, .ref (G.2.2.1 + 231)), (1, .ref (G.2.2.1 + 0)), (0, .ref b)]) hx hb dL_law_487 hl (k := 0) rfl (by decide) (by decide) rfl (fun ls hl => ?_)
      refine lv_goto (tgt := 18) hx hb dL_law_490 (by decide) ?_
      refine lv_iload_n hx hb dL_law_18 rfl (lv_at hl 0 rfl) ?_
      refine lv_aload_n hx hb dL_law_19 rfl (lv_at hl 3 rfl) ?_
      refine sSlen Cx hX hbG hW (v := 6) (by decide) dL_law_20 ?_
      refine lv_bipush (v := 6) hx hb dL_law_21 (by decide) ?_
      refine lv_isub hx hb dL_law_23 ?_
      refine sCi (v := 0) (by decide) ?_
      refine lv_icmp_gt (tgt := 493) hx hb dL_law_24 (by decide) (fun _ => ?_) (fun c => absurd (by decide) c)
      refine lv_iconst (v := 1) hx hb dL_law_493 (by decide) ?_
      refine va_forget (fun q hq => Nat.le_trans hsz (hL q hq)) ?_
      refine W.widen (k := 600000) (n := 7302250) (Nat.le_of_ble_eq_true rfl) (Nat.le_of_ble_eq_true rfl) ?_
      exact lw_ret hx hb hr hlocks dL_law_494
    by_cases c4 : (xs 0) &&& 15 = 1
    · refine lv_tableIn (off := 134) (tgt := 167) hx hb dL_law_33 (by rw [c4]; decide) (by rw [c4]; decide) (by rw [c4]; decide) (by decide) ?_
      refine lv_aload_n hx hb dL_law_167 rfl (lv_at hl 2 rfl) ?_
      refine lv_aload_n hx hb dL_law_168 rfl (lv_at hl 3 rfl) ?_
      refine lv_iload_n hx hb dL_law_169 rfl (lv_at hl 0 rfl) ?_
      refine lv_iconst (v := 1) hx hb dL_law_170 (by decide) ?_
      refine lv_iadd hx hb dL_law_171 ?_
      refine sCi (v := 1) (by decide) ?_
      refine sSld Cx hX hbG hW (j := 1) (by decide) (vp_c (by decide)) dL_law_172 ?_
      refine sBiE (sV (As := [.int (xs 1)]) (rest := []) (k := 0) Cx (m_X11_end l G S (xs 1) hR_0_0 hI_1_1) (c_L_18 Cx rfl rfl ⟨Nat.le_of_ble_eq_true rfl, Nat.le_of_ble_eq_true rfl⟩) hW (by decide) rfl rfl rfl hl.1 rfl (Nat.le_of_ble_eq_true rfl) dL_law_173 ⟨Nat.le_of_ble_eq_true rfl, Nat.le_of_ble_eq_true rfl⟩) hL (fun H locs hW hL => ?_)
      refine lv_aload_n hx hb dL_law_176 rfl (lv_at hl 1 rfl) ?_
      refine lv_aload_n hx hb dL_law_177 rfl (lv_at hl 3 rfl) ?_
      refine lv_iload_n hx hb dL_law_178 rfl (lv_at hl 0 rfl) ?_
      refine lv_iconst (v := 1) hx hb dL_law_179 (by decide) ?_
      refine lv_iadd hx hb dL_law_180 ?_
      refine sCi (v := 1) (by decide) ?_
      refine sSld Cx hX hbG hW (j := 1) (by decide) (vp_c (by decide)) dL_law_181 ?_
      refine sBiE (sV (As := [.int (xs 1)]) (rest := [.int (endF (xs 1))]) (k := 231) Cx (m_X12_end l G S (xs 1) hI_231_1) (c_L_22 Cx rfl rfl ⟨Nat.le_of_ble_eq_true rfl, Nat.le_of_ble_eq_true rfl⟩) hW (by decide) rfl rfl rfl hl.1 rfl (Nat.le_of_ble_eq_true rfl) dL_law_182 ⟨Nat.le_of_ble_eq_true rfl, Nat.le_of_ble_eq_true rfl⟩) hL (fun H locs hW hL => ?_)
      refine lv_icmp_eq (tgt := 487) hx hb dL_law_185 (by decide) (fun _ => ?_) (fun c => absurd rfl c)
      refine lv_iinc (v := 6) (lv' := [(3, .int 6), (2, .ref (G.2.2.1 + 231)), (1, .ref (G.2.2.1 + 0)), (0, .ref b)]) hx hb dL_law_487 hl (k := 0) rfl (by decide) (by decide) rfl (fun ls hl => ?_)
      refine lv_goto (tgt := 18) hx hb dL_law_490 (by decide) ?_
      refine lv_iload_n hx hb dL_law_18 rfl (lv_at hl 0 rfl) ?_
      refine lv_aload_n hx hb dL_law_19 rfl (lv_at hl 3 rfl) ?_
      refine sSlen Cx hX hbG hW (v := 6) (by decide) dL_law_20 ?_
      refine lv_bipush (v := 6) hx hb dL_law_21 (by decide) ?_
      refine lv_isub hx hb dL_law_23 ?_
      refine sCi (v := 0) (by decide) ?_
      refine lv_icmp_gt (tgt := 493) hx hb dL_law_24 (by decide) (fun _ => ?_) (fun c => absurd (by decide) c)
      refine lv_iconst (v := 1) hx hb dL_law_493 (by decide) ?_
      refine va_forget (fun q hq => Nat.le_trans hsz (hL q hq)) ?_
      refine W.widen (k := 600000) (n := 7302250) (Nat.le_of_ble_eq_true rfl) (Nat.le_of_ble_eq_true rfl) ?_
      exact lw_ret hx hb hr hlocks dL_law_494
    by_cases c7 : (xs 0) &&& 15 = 2
    · refine lv_tableIn (off := 157) (tgt := 190) hx hb dL_law_33 (by rw [c7]; decide) (by rw [c7]; decide) (by rw [c7]; decide) (by decide) ?_
      refine lv_aload_n hx hb dL_law_190 rfl (lv_at hl 2 rfl) ?_
      refine sBiE (sV (As := []) (rest := []) (k := 0) Cx (m_X11_tell l G S hR_0_2 hR_0_0 hR_0_6 hI_1_1 hR_11_0 hR_12_0 hR_12_1 hR_12_2) (c_L_23 Cx rfl rfl ⟨Nat.le_of_ble_eq_true rfl, Nat.le_of_ble_eq_true rfl⟩) hW (by decide) rfl rfl rfl hl.1 rfl (Nat.le_of_ble_eq_true rfl) dL_law_191 ⟨Nat.le_of_ble_eq_true rfl, Nat.le_of_ble_eq_true rfl⟩) hL (fun H locs hW hL => ?_)
      refine lv_aload_n hx hb dL_law_194 rfl (lv_at hl 1 rfl) ?_
      refine sBiE (sV (As := []) (rest := [.int 1]) (k := 231) Cx (m_X12_tell l G (sI (sI (sI (sI (sI (sI (sI (sI (sJ (sI (sI (sI (sI (sI S 11 14 0) 11 16 ((-1))) 12 3 0) 13 0 0) 14 0 0) 15 0 0) 12 3 1) 12 4 0) 11 14 1) 11 16 0) 0 9 1) 0 10 0) 1 1 0) 1 2 0) hI_231_1 hR_231_15 hR_231_16 hR_231_17 hR_231_18) (c_L_27 Cx rfl rfl ⟨Nat.le_of_ble_eq_true rfl, Nat.le_of_ble_eq_true rfl⟩) hW (by decide) rfl rfl rfl hl.1 rfl (Nat.le_of_ble_eq_true rfl) dL_law_195 ⟨Nat.le_of_ble_eq_true rfl, Nat.le_of_ble_eq_true rfl⟩) hL (fun H locs hW hL => ?_)
      refine lv_icmp_eq (tgt := 487) hx hb dL_law_198 (by decide) (fun _ => ?_) (fun c => absurd (by decide) c)
      refine lv_iinc (v := 6) (lv' := [(3, .int 6), (2, .ref (G.2.2.1 + 231)), (1, .ref (G.2.2.1 + 0)), (0, .ref b)]) hx hb dL_law_487 hl (k := 0) rfl (by decide) (by decide) rfl (fun ls hl => ?_)
      refine lv_goto (tgt := 18) hx hb dL_law_490 (by decide) ?_
      refine lv_iload_n hx hb dL_law_18 rfl (lv_at hl 0 rfl) ?_
      refine lv_aload_n hx hb dL_law_19 rfl (lv_at hl 3 rfl) ?_
      refine sSlen Cx hX hbG hW (v := 6) (by decide) dL_law_20 ?_
      refine lv_bipush (v := 6) hx hb dL_law_21 (by decide) ?_
      refine lv_isub hx hb dL_law_23 ?_
      refine sCi (v := 0) (by decide) ?_
      refine lv_icmp_gt (tgt := 493) hx hb dL_law_24 (by decide) (fun _ => ?_) (fun c => absurd (by decide) c)
      refine lv_iconst (v := 1) hx hb dL_law_493 (by decide) ?_
      refine va_forget (fun q hq => Nat.le_trans hsz (hL q hq)) ?_
      refine W.widen (k := 600000) (n := 7302250) (Nat.le_of_ble_eq_true rfl) (Nat.le_of_ble_eq_true rfl) ?_
      exact lw_ret hx hb hr hlocks dL_law_494
    by_cases c10 : (xs 0) &&& 15 = 3
    · refine lv_tableIn (off := 170) (tgt := 203) hx hb dL_law_33 (by rw [c10]; decide) (by rw [c10]; decide) (by rw [c10]; decide) (by decide) ?_
      refine lv_aload_n hx hb dL_law_203 rfl (lv_at hl 2 rfl) ?_
      refine lv_aload_n hx hb dL_law_204 rfl (lv_at hl 3 rfl) ?_
      refine lv_iload_n hx hb dL_law_205 rfl (lv_at hl 0 rfl) ?_
      refine lv_iconst (v := 1) hx hb dL_law_206 (by decide) ?_
      refine lv_iadd hx hb dL_law_207 ?_
      refine sCi (v := 1) (by decide) ?_
      refine sSld Cx hX hbG hW (j := 1) (by decide) (vp_c (by decide)) dL_law_208 ?_
      refine sBiE (sV (As := [.int (xs 1)]) (rest := []) (k := 0) Cx (m_X11_fault l G S (xs 1) hI_0_9 hI_0_10) (c_L_28 Cx rfl rfl ⟨Nat.le_of_ble_eq_true rfl, Nat.le_of_ble_eq_true rfl⟩) hW (by decide) rfl rfl rfl hl.1 rfl (Nat.le_of_ble_eq_true rfl) dL_law_209 ⟨Nat.le_of_ble_eq_true rfl, Nat.le_of_ble_eq_true rfl⟩) hL (fun H locs hW hL => ?_)
      refine lv_aload_n hx hb dL_law_212 rfl (lv_at hl 1 rfl) ?_
      refine lv_aload_n hx hb dL_law_213 rfl (lv_at hl 3 rfl) ?_
      refine lv_iload_n hx hb dL_law_214 rfl (lv_at hl 0 rfl) ?_
      refine lv_iconst (v := 1) hx hb dL_law_215 (by decide) ?_
      refine lv_iadd hx hb dL_law_216 ?_
      refine sCi (v := 1) (by decide) ?_
      refine sSld Cx hX hbG hW (j := 1) (by decide) (vp_c (by decide)) dL_law_217 ?_
      refine sBiE (sV (As := [.int (xs 1)]) (rest := [.int (faultF (xs 1))]) (k := 231) Cx (m_X12_fault l G S (xs 1) hI_231_22) (c_L_32 Cx rfl rfl ⟨Nat.le_of_ble_eq_true rfl, Nat.le_of_ble_eq_true rfl⟩) hW (by decide) rfl rfl rfl hl.1 rfl (Nat.le_of_ble_eq_true rfl) dL_law_218 ⟨Nat.le_of_ble_eq_true rfl, Nat.le_of_ble_eq_true rfl⟩) hL (fun H locs hW hL => ?_)
      refine lv_icmp_eq (tgt := 487) hx hb dL_law_221 (by decide) (fun _ => ?_) (fun c => absurd rfl c)
      refine lv_iinc (v := 6) (lv' := [(3, .int 6), (2, .ref (G.2.2.1 + 231)), (1, .ref (G.2.2.1 + 0)), (0, .ref b)]) hx hb dL_law_487 hl (k := 0) rfl (by decide) (by decide) rfl (fun ls hl => ?_)
      refine lv_goto (tgt := 18) hx hb dL_law_490 (by decide) ?_
      refine lv_iload_n hx hb dL_law_18 rfl (lv_at hl 0 rfl) ?_
      refine lv_aload_n hx hb dL_law_19 rfl (lv_at hl 3 rfl) ?_
      refine sSlen Cx hX hbG hW (v := 6) (by decide) dL_law_20 ?_
      refine lv_bipush (v := 6) hx hb dL_law_21 (by decide) ?_
      refine lv_isub hx hb dL_law_23 ?_
      refine sCi (v := 0) (by decide) ?_
      refine lv_icmp_gt (tgt := 493) hx hb dL_law_24 (by decide) (fun _ => ?_) (fun c => absurd (by decide) c)
      refine lv_iconst (v := 1) hx hb dL_law_493 (by decide) ?_
      refine va_forget (fun q hq => Nat.le_trans hsz (hL q hq)) ?_
      refine W.widen (k := 600000) (n := 7302250) (Nat.le_of_ble_eq_true rfl) (Nat.le_of_ble_eq_true rfl) ?_
      exact lw_ret hx hb hr hlocks dL_law_494
    by_cases c13 : (xs 0) &&& 15 = 4
    · refine lv_tableIn (off := 193) (tgt := 226) hx hb dL_law_33 (by rw [c13]; decide) (by rw [c13]; decide) (by rw [c13]; decide) (by decide) ?_
      refine lv_aload_n hx hb dL_law_226 rfl (lv_at hl 2 rfl) ?_
      refine lv_aload_n hx hb dL_law_227 rfl (lv_at hl 3 rfl) ?_
      refine lv_iload_n hx hb dL_law_228 rfl (lv_at hl 0 rfl) ?_
      refine lv_iconst (v := 1) hx hb dL_law_229 (by decide) ?_
      refine lv_iadd hx hb dL_law_230 ?_
      refine sCi (v := 1) (by decide) ?_
      refine sSld Cx hX hbG hW (j := 1) (by decide) (vp_c (by decide)) dL_law_231 ?_
      refine sBiE (sV (As := [.int (xs 1)]) (rest := []) (k := 0) Cx (m_X11_size l G S (xs 1) hI_0_7) (c_L_33 Cx rfl rfl ⟨Nat.le_of_ble_eq_true rfl, Nat.le_of_ble_eq_true rfl⟩) hW (by decide) rfl rfl rfl hl.1 rfl (Nat.le_of_ble_eq_true rfl) dL_law_232 ⟨Nat.le_of_ble_eq_true rfl, Nat.le_of_ble_eq_true rfl⟩) hL (fun H locs hW hL => ?_)
      refine lv_aload_n hx hb dL_law_235 rfl (lv_at hl 1 rfl) ?_
      refine lv_aload_n hx hb dL_law_236 rfl (lv_at hl 3 rfl) ?_
      refine lv_iload_n hx hb dL_law_237 rfl (lv_at hl 0 rfl) ?_
      refine lv_iconst (v := 1) hx hb dL_law_238 (by decide) ?_
      refine lv_iadd hx hb dL_law_239 ?_
      refine sCi (v := 1) (by decide) ?_
      refine sSld Cx hX hbG hW (j := 1) (by decide) (vp_c (by decide)) dL_law_240 ?_
      refine sBiE (sV (As := [.int (xs 1)]) (rest := [.int (sizeF (xs 1))]) (k := 231) Cx (m_X12_size l G S (xs 1) hI_231_45) (c_L_36 Cx rfl rfl ⟨Nat.le_of_ble_eq_true rfl, Nat.le_of_ble_eq_true rfl⟩) hW (by decide) rfl rfl rfl hl.1 rfl (Nat.le_of_ble_eq_true rfl) dL_law_241 ⟨Nat.le_of_ble_eq_true rfl, Nat.le_of_ble_eq_true rfl⟩) hL (fun H locs hW hL => ?_)
      refine lv_icmp_eq (tgt := 487) hx hb dL_law_244 (by decide) (fun _ => ?_) (fun c => absurd rfl c)
      refine lv_iinc (v := 6) (lv' := [(3, .int 6), (2, .ref (G.2.2.1 + 231)), (1, .ref (G.2.2.1 + 0)), (0, .ref b)]) hx hb dL_law_487 hl (k := 0) rfl (by decide) (by decide) rfl (fun ls hl => ?_)
      refine lv_goto (tgt := 18) hx hb dL_law_490 (by decide) ?_
      refine lv_iload_n hx hb dL_law_18 rfl (lv_at hl 0 rfl) ?_
      refine lv_aload_n hx hb dL_law_19 rfl (lv_at hl 3 rfl) ?_
      refine sSlen Cx hX hbG hW (v := 6) (by decide) dL_law_20 ?_
      refine lv_bipush (v := 6) hx hb dL_law_21 (by decide) ?_
      refine lv_isub hx hb dL_law_23 ?_
      refine sCi (v := 0) (by decide) ?_
      refine lv_icmp_gt (tgt := 493) hx hb dL_law_24 (by decide) (fun _ => ?_) (fun c => absurd (by decide) c)
      refine lv_iconst (v := 1) hx hb dL_law_493 (by decide) ?_
      refine va_forget (fun q hq => Nat.le_trans hsz (hL q hq)) ?_
      refine W.widen (k := 600000) (n := 7302250) (Nat.le_of_ble_eq_true rfl) (Nat.le_of_ble_eq_true rfl) ?_
      exact lw_ret hx hb hr hlocks dL_law_494
    by_cases c16 : (xs 0) &&& 15 = 5
    · refine lv_tableIn (off := 216) (tgt := 249) hx hb dL_law_33 (by rw [c16]; decide) (by rw [c16]; decide) (by rw [c16]; decide) (by decide) ?_
      refine lv_aload_n hx hb dL_law_249 rfl (lv_at hl 2 rfl) ?_
      refine lv_aload_n hx hb dL_law_250 rfl (lv_at hl 3 rfl) ?_
      refine lv_iload_n hx hb dL_law_251 rfl (lv_at hl 0 rfl) ?_
      refine lv_iconst (v := 1) hx hb dL_law_252 (by decide) ?_
      refine lv_iadd hx hb dL_law_253 ?_
      refine sCi (v := 1) (by decide) ?_
      refine sSld Cx hX hbG hW (j := 1) (by decide) (vp_c (by decide)) dL_law_254 ?_
      refine lv_aload_n hx hb dL_law_255 rfl (lv_at hl 3 rfl) ?_
      refine lv_iload_n hx hb dL_law_256 rfl (lv_at hl 0 rfl) ?_
      refine lv_iconst (v := 2) hx hb dL_law_257 (by decide) ?_
      refine lv_iadd hx hb dL_law_258 ?_
      refine sCi (v := 2) (by decide) ?_
      refine sSld Cx hX hbG hW (j := 2) (by decide) (vp_c (by decide)) dL_law_259 ?_
      refine sBlE (sV (As := [.int (xs 1), .int (xs 2)]) (rest := []) (k := 0) Cx (m_X11_coefficient l G S (xs 1) (xs 2) hI_0_7) (c_L_37 Cx rfl rfl ⟨Nat.le_of_ble_eq_true rfl, Nat.le_of_ble_eq_true rfl⟩) hW (by decide) rfl rfl rfl hl.1 rfl (Nat.le_of_ble_eq_true rfl) dL_law_260 ⟨Nat.le_of_ble_eq_true rfl, Nat.le_of_ble_eq_true rfl⟩) hL (fun H locs hW hL => ?_)
      refine lv_aload_n hx hb dL_law_263 rfl (lv_at hl 1 rfl) ?_
      refine lv_aload_n hx hb dL_law_264 rfl (lv_at hl 3 rfl) ?_
      refine lv_iload_n hx hb dL_law_265 rfl (lv_at hl 0 rfl) ?_
      refine lv_iconst (v := 1) hx hb dL_law_266 (by decide) ?_
      refine lv_iadd hx hb dL_law_267 ?_
      refine sCi (v := 1) (by decide) ?_
      refine sSld Cx hX hbG hW (j := 1) (by decide) (vp_c (by decide)) dL_law_268 ?_
      refine lv_aload_n hx hb dL_law_269 rfl (lv_at hl 3 rfl) ?_
      refine lv_iload_n hx hb dL_law_270 rfl (lv_at hl 0 rfl) ?_
      refine lv_iconst (v := 2) hx hb dL_law_271 (by decide) ?_
      refine lv_iadd hx hb dL_law_272 ?_
      refine sCi (v := 2) (by decide) ?_
      refine sSld Cx hX hbG hW (j := 2) (by decide) (vp_c (by decide)) dL_law_273 ?_
      refine sBlE (sV (As := [.int (xs 1), .int (xs 2)]) (rest := [.long 0]) (k := 231) Cx (m_X12_coefficient l G S (xs 1) (xs 2) hI_231_45) (c_L_41 Cx rfl rfl ⟨Nat.le_of_ble_eq_true rfl, Nat.le_of_ble_eq_true rfl⟩) hW (by decide) rfl rfl rfl hl.1 rfl (Nat.le_of_ble_eq_true rfl) dL_law_274 ⟨Nat.le_of_ble_eq_true rfl, Nat.le_of_ble_eq_true rfl⟩) hL (fun H locs hW hL => ?_)
      refine W.lcmp hx hb dL_law_277 ?_
      refine sCi (v := 0) (by decide) ?_
      refine lv_if_eq (tgt := 487) hx hb dL_law_278 (by decide) (fun _ => ?_) (fun c => absurd (by decide) c)
      refine lv_iinc (v := 6) (lv' := [(3, .int 6), (2, .ref (G.2.2.1 + 231)), (1, .ref (G.2.2.1 + 0)), (0, .ref b)]) hx hb dL_law_487 hl (k := 0) rfl (by decide) (by decide) rfl (fun ls hl => ?_)
      refine lv_goto (tgt := 18) hx hb dL_law_490 (by decide) ?_
      refine lv_iload_n hx hb dL_law_18 rfl (lv_at hl 0 rfl) ?_
      refine lv_aload_n hx hb dL_law_19 rfl (lv_at hl 3 rfl) ?_
      refine sSlen Cx hX hbG hW (v := 6) (by decide) dL_law_20 ?_
      refine lv_bipush (v := 6) hx hb dL_law_21 (by decide) ?_
      refine lv_isub hx hb dL_law_23 ?_
      refine sCi (v := 0) (by decide) ?_
      refine lv_icmp_gt (tgt := 493) hx hb dL_law_24 (by decide) (fun _ => ?_) (fun c => absurd (by decide) c)
      refine lv_iconst (v := 1) hx hb dL_law_493 (by decide) ?_
      refine va_forget (fun q hq => Nat.le_trans hsz (hL q hq)) ?_
      refine W.widen (k := 600000) (n := 7302250) (Nat.le_of_ble_eq_true rfl) (Nat.le_of_ble_eq_true rfl) ?_
      exact lw_ret hx hb hr hlocks dL_law_494
    by_cases c19 : (xs 0) &&& 15 = 6
    · refine lv_tableIn (off := 250) (tgt := 283) hx hb dL_law_33 (by rw [c19]; decide) (by rw [c19]; decide) (by rw [c19]; decide) (by decide) ?_
      refine lv_aload_n hx hb dL_law_283 rfl (lv_at hl 2 rfl) ?_
      refine lv_aload_n hx hb dL_law_284 rfl (lv_at hl 3 rfl) ?_
      refine lv_iload_n hx hb dL_law_285 rfl (lv_at hl 0 rfl) ?_
      refine lv_iconst (v := 1) hx hb dL_law_286 (by decide) ?_
      refine lv_iadd hx hb dL_law_287 ?_
      refine sCi (v := 1) (by decide) ?_
      refine sSld Cx hX hbG hW (j := 1) (by decide) (vp_c (by decide)) dL_law_288 ?_
      refine sBiE (sV (As := [.int (xs 1)]) (rest := []) (k := 0) Cx (m_X11_begin l G S (xs 1) hI_0_7) (c_L_42 Cx rfl rfl ⟨Nat.le_of_ble_eq_true rfl, Nat.le_of_ble_eq_true rfl⟩) hW (by decide) rfl rfl rfl hl.1 rfl (Nat.le_of_ble_eq_true rfl) dL_law_289 ⟨Nat.le_of_ble_eq_true rfl, Nat.le_of_ble_eq_true rfl⟩) hL (fun H locs hW hL => ?_)
      refine lv_aload_n hx hb dL_law_292 rfl (lv_at hl 1 rfl) ?_
      refine lv_aload_n hx hb dL_law_293 rfl (lv_at hl 3 rfl) ?_
      refine lv_iload_n hx hb dL_law_294 rfl (lv_at hl 0 rfl) ?_
      refine lv_iconst (v := 1) hx hb dL_law_295 (by decide) ?_
      refine lv_iadd hx hb dL_law_296 ?_
      refine sCi (v := 1) (by decide) ?_
      refine sSld Cx hX hbG hW (j := 1) (by decide) (vp_c (by decide)) dL_law_297 ?_
      refine sBiE (sV (As := [.int (xs 1)]) (rest := [.int 0]) (k := 231) Cx (m_X12_begin l G S (xs 1) hI_231_45) (c_L_45 Cx rfl rfl ⟨Nat.le_of_ble_eq_true rfl, Nat.le_of_ble_eq_true rfl⟩) hW (by decide) rfl rfl rfl hl.1 rfl (Nat.le_of_ble_eq_true rfl) dL_law_298 ⟨Nat.le_of_ble_eq_true rfl, Nat.le_of_ble_eq_true rfl⟩) hL (fun H locs hW hL => ?_)
      refine lv_icmp_eq (tgt := 487) hx hb dL_law_301 (by decide) (fun _ => ?_) (fun c => absurd (by decide) c)
      refine lv_iinc (v := 6) (lv' := [(3, .int 6), (2, .ref (G.2.2.1 + 231)), (1, .ref (G.2.2.1 + 0)), (0, .ref b)]) hx hb dL_law_487 hl (k := 0) rfl (by decide) (by decide) rfl (fun ls hl => ?_)
      refine lv_goto (tgt := 18) hx hb dL_law_490 (by decide) ?_
      refine lv_iload_n hx hb dL_law_18 rfl (lv_at hl 0 rfl) ?_
      refine lv_aload_n hx hb dL_law_19 rfl (lv_at hl 3 rfl) ?_
      refine sSlen Cx hX hbG hW (v := 6) (by decide) dL_law_20 ?_
      refine lv_bipush (v := 6) hx hb dL_law_21 (by decide) ?_
      refine lv_isub hx hb dL_law_23 ?_
      refine sCi (v := 0) (by decide) ?_
      refine lv_icmp_gt (tgt := 493) hx hb dL_law_24 (by decide) (fun _ => ?_) (fun c => absurd (by decide) c)
      refine lv_iconst (v := 1) hx hb dL_law_493 (by decide) ?_
      refine va_forget (fun q hq => Nat.le_trans hsz (hL q hq)) ?_
      refine W.widen (k := 600000) (n := 7302250) (Nat.le_of_ble_eq_true rfl) (Nat.le_of_ble_eq_true rfl) ?_
      exact lw_ret hx hb hr hlocks dL_law_494
    by_cases c22 : (xs 0) &&& 15 = 7
    · refine lv_tableIn (off := 273) (tgt := 306) hx hb dL_law_33 (by rw [c22]; decide) (by rw [c22]; decide) (by rw [c22]; decide) (by decide) ?_
      refine lv_aload_n hx hb dL_law_306 rfl (lv_at hl 2 rfl) ?_
      refine lv_aload_n hx hb dL_law_307 rfl (lv_at hl 3 rfl) ?_
      refine lv_iload_n hx hb dL_law_308 rfl (lv_at hl 0 rfl) ?_
      refine lv_iconst (v := 1) hx hb dL_law_309 (by decide) ?_
      refine lv_iadd hx hb dL_law_310 ?_
      refine sCi (v := 1) (by decide) ?_
      refine sSld Cx hX hbG hW (j := 1) (by decide) (vp_c (by decide)) dL_law_311 ?_
      refine sBiE (sV (As := [.int (xs 1)]) (rest := []) (k := 0) Cx (m_X11_work l G S (xs 1) hI_0_8) (c_L_46 Cx rfl rfl ⟨Nat.le_of_ble_eq_true rfl, Nat.le_of_ble_eq_true rfl⟩) hW (by decide) rfl rfl rfl hl.1 rfl (Nat.le_of_ble_eq_true rfl) dL_law_312 ⟨Nat.le_of_ble_eq_true rfl, Nat.le_of_ble_eq_true rfl⟩) hL (fun H locs hW hL => ?_)
      refine lv_aload_n hx hb dL_law_315 rfl (lv_at hl 1 rfl) ?_
      refine lv_aload_n hx hb dL_law_316 rfl (lv_at hl 3 rfl) ?_
      refine lv_iload_n hx hb dL_law_317 rfl (lv_at hl 0 rfl) ?_
      refine lv_iconst (v := 1) hx hb dL_law_318 (by decide) ?_
      refine lv_iadd hx hb dL_law_319 ?_
      refine sCi (v := 1) (by decide) ?_
      refine sSld Cx hX hbG hW (j := 1) (by decide) (vp_c (by decide)) dL_law_320 ?_
      refine sBiE (sV (As := [.int (xs 1)]) (rest := [.int (workF (xs 1))]) (k := 231) Cx (m_X12_work l G S (xs 1) hI_231_61) (c_L_49 Cx rfl rfl ⟨Nat.le_of_ble_eq_true rfl, Nat.le_of_ble_eq_true rfl⟩) hW (by decide) rfl rfl rfl hl.1 rfl (Nat.le_of_ble_eq_true rfl) dL_law_321 ⟨Nat.le_of_ble_eq_true rfl, Nat.le_of_ble_eq_true rfl⟩) hL (fun H locs hW hL => ?_)
      refine lv_icmp_eq (tgt := 487) hx hb dL_law_324 (by decide) (fun _ => ?_) (fun c => absurd rfl c)
      refine lv_iinc (v := 6) (lv' := [(3, .int 6), (2, .ref (G.2.2.1 + 231)), (1, .ref (G.2.2.1 + 0)), (0, .ref b)]) hx hb dL_law_487 hl (k := 0) rfl (by decide) (by decide) rfl (fun ls hl => ?_)
      refine lv_goto (tgt := 18) hx hb dL_law_490 (by decide) ?_
      refine lv_iload_n hx hb dL_law_18 rfl (lv_at hl 0 rfl) ?_
      refine lv_aload_n hx hb dL_law_19 rfl (lv_at hl 3 rfl) ?_
      refine sSlen Cx hX hbG hW (v := 6) (by decide) dL_law_20 ?_
      refine lv_bipush (v := 6) hx hb dL_law_21 (by decide) ?_
      refine lv_isub hx hb dL_law_23 ?_
      refine sCi (v := 0) (by decide) ?_
      refine lv_icmp_gt (tgt := 493) hx hb dL_law_24 (by decide) (fun _ => ?_) (fun c => absurd (by decide) c)
      refine lv_iconst (v := 1) hx hb dL_law_493 (by decide) ?_
      refine va_forget (fun q hq => Nat.le_trans hsz (hL q hq)) ?_
      refine W.widen (k := 600000) (n := 7302250) (Nat.le_of_ble_eq_true rfl) (Nat.le_of_ble_eq_true rfl) ?_
      exact lw_ret hx hb hr hlocks dL_law_494
    by_cases c25 : (xs 0) &&& 15 = 8
    · refine lv_tableIn (off := 296) (tgt := 329) hx hb dL_law_33 (by rw [c25]; decide) (by rw [c25]; decide) (by rw [c25]; decide) (by decide) ?_
      refine lv_aload_n hx hb dL_law_329 rfl (lv_at hl 2 rfl) ?_
      refine lv_aload_n hx hb dL_law_330 rfl (lv_at hl 3 rfl) ?_
      refine lv_iload_n hx hb dL_law_331 rfl (lv_at hl 0 rfl) ?_
      refine lv_iconst (v := 1) hx hb dL_law_332 (by decide) ?_
      refine lv_iadd hx hb dL_law_333 ?_
      refine sCi (v := 1) (by decide) ?_
      refine sSld Cx hX hbG hW (j := 1) (by decide) (vp_c (by decide)) dL_law_334 ?_
      refine sBiE (sV (As := [.int (xs 1)]) (rest := []) (k := 0) Cx (m_X11_look l G S (xs 1) hI_0_8 hR_0_0 hI_1_1) (c_L_50 Cx rfl rfl ⟨Nat.le_of_ble_eq_true rfl, Nat.le_of_ble_eq_true rfl⟩) hW (by decide) rfl rfl rfl hl.1 rfl (Nat.le_of_ble_eq_true rfl) dL_law_335 ⟨Nat.le_of_ble_eq_true rfl, Nat.le_of_ble_eq_true rfl⟩) hL (fun H locs hW hL => ?_)
      refine lv_aload_n hx hb dL_law_338 rfl (lv_at hl 1 rfl) ?_
      refine lv_aload_n hx hb dL_law_339 rfl (lv_at hl 3 rfl) ?_
      refine lv_iload_n hx hb dL_law_340 rfl (lv_at hl 0 rfl) ?_
      refine lv_iconst (v := 1) hx hb dL_law_341 (by decide) ?_
      refine lv_iadd hx hb dL_law_342 ?_
      refine sCi (v := 1) (by decide) ?_
      refine sSld Cx hX hbG hW (j := 1) (by decide) (vp_c (by decide)) dL_law_343 ?_
      refine sBiE (sV (As := [.int (xs 1)]) (rest := [.int (lookF (xs 1))]) (k := 231) Cx (m_X12_look l G S (xs 1) hI_231_61 hI_231_1) (c_L_53 Cx rfl rfl ⟨Nat.le_of_ble_eq_true rfl, Nat.le_of_ble_eq_true rfl⟩) hW (by decide) rfl rfl rfl hl.1 rfl (Nat.le_of_ble_eq_true rfl) dL_law_344 ⟨Nat.le_of_ble_eq_true rfl, Nat.le_of_ble_eq_true rfl⟩) hL (fun H locs hW hL => ?_)
      refine lv_icmp_eq (tgt := 487) hx hb dL_law_347 (by decide) (fun _ => ?_) (fun c => absurd rfl c)
      refine lv_iinc (v := 6) (lv' := [(3, .int 6), (2, .ref (G.2.2.1 + 231)), (1, .ref (G.2.2.1 + 0)), (0, .ref b)]) hx hb dL_law_487 hl (k := 0) rfl (by decide) (by decide) rfl (fun ls hl => ?_)
      refine lv_goto (tgt := 18) hx hb dL_law_490 (by decide) ?_
      refine lv_iload_n hx hb dL_law_18 rfl (lv_at hl 0 rfl) ?_
      refine lv_aload_n hx hb dL_law_19 rfl (lv_at hl 3 rfl) ?_
      refine sSlen Cx hX hbG hW (v := 6) (by decide) dL_law_20 ?_
      refine lv_bipush (v := 6) hx hb dL_law_21 (by decide) ?_
      refine lv_isub hx hb dL_law_23 ?_
      refine sCi (v := 0) (by decide) ?_
      refine lv_icmp_gt (tgt := 493) hx hb dL_law_24 (by decide) (fun _ => ?_) (fun c => absurd (by decide) c)
      refine lv_iconst (v := 1) hx hb dL_law_493 (by decide) ?_
      refine va_forget (fun q hq => Nat.le_trans hsz (hL q hq)) ?_
      refine W.widen (k := 600000) (n := 7302250) (Nat.le_of_ble_eq_true rfl) (Nat.le_of_ble_eq_true rfl) ?_
      exact lw_ret hx hb hr hlocks dL_law_494
    by_cases c28 : (xs 0) &&& 15 = 9
    · refine lv_tableIn (off := 319) (tgt := 352) hx hb dL_law_33 (by rw [c28]; decide) (by rw [c28]; decide) (by rw [c28]; decide) (by decide) ?_
      refine lv_aload_n hx hb dL_law_352 rfl (lv_at hl 2 rfl) ?_
      refine lv_aload_n hx hb dL_law_353 rfl (lv_at hl 3 rfl) ?_
      refine lv_iload_n hx hb dL_law_354 rfl (lv_at hl 0 rfl) ?_
      refine lv_iconst (v := 1) hx hb dL_law_355 (by decide) ?_
      refine lv_iadd hx hb dL_law_356 ?_
      refine sCi (v := 1) (by decide) ?_
      refine sSld Cx hX hbG hW (j := 1) (by decide) (vp_c (by decide)) dL_law_357 ?_
      refine sBiE (sV (As := [.int (xs 1)]) (rest := []) (k := 0) Cx (m_X11_place l G S (xs 1) hI_0_8) (c_L_54 Cx rfl rfl ⟨Nat.le_of_ble_eq_true rfl, Nat.le_of_ble_eq_true rfl⟩) hW (by decide) rfl rfl rfl hl.1 rfl (Nat.le_of_ble_eq_true rfl) dL_law_358 ⟨Nat.le_of_ble_eq_true rfl, Nat.le_of_ble_eq_true rfl⟩) hL (fun H locs hW hL => ?_)
      refine lv_aload_n hx hb dL_law_361 rfl (lv_at hl 1 rfl) ?_
      refine lv_aload_n hx hb dL_law_362 rfl (lv_at hl 3 rfl) ?_
      refine lv_iload_n hx hb dL_law_363 rfl (lv_at hl 0 rfl) ?_
      refine lv_iconst (v := 1) hx hb dL_law_364 (by decide) ?_
      refine lv_iadd hx hb dL_law_365 ?_
      refine sCi (v := 1) (by decide) ?_
      refine sSld Cx hX hbG hW (j := 1) (by decide) (vp_c (by decide)) dL_law_366 ?_
      refine sBiE (sV (As := [.int (xs 1)]) (rest := [.int ((-1))]) (k := 231) Cx (m_X12_place l G S (xs 1) hI_231_61) (c_L_57 Cx rfl rfl ⟨Nat.le_of_ble_eq_true rfl, Nat.le_of_ble_eq_true rfl⟩) hW (by decide) rfl rfl rfl hl.1 rfl (Nat.le_of_ble_eq_true rfl) dL_law_367 ⟨Nat.le_of_ble_eq_true rfl, Nat.le_of_ble_eq_true rfl⟩) hL (fun H locs hW hL => ?_)
      refine lv_icmp_eq (tgt := 487) hx hb dL_law_370 (by decide) (fun _ => ?_) (fun c => absurd (by decide) c)
      refine lv_iinc (v := 6) (lv' := [(3, .int 6), (2, .ref (G.2.2.1 + 231)), (1, .ref (G.2.2.1 + 0)), (0, .ref b)]) hx hb dL_law_487 hl (k := 0) rfl (by decide) (by decide) rfl (fun ls hl => ?_)
      refine lv_goto (tgt := 18) hx hb dL_law_490 (by decide) ?_
      refine lv_iload_n hx hb dL_law_18 rfl (lv_at hl 0 rfl) ?_
      refine lv_aload_n hx hb dL_law_19 rfl (lv_at hl 3 rfl) ?_
      refine sSlen Cx hX hbG hW (v := 6) (by decide) dL_law_20 ?_
      refine lv_bipush (v := 6) hx hb dL_law_21 (by decide) ?_
      refine lv_isub hx hb dL_law_23 ?_
      refine sCi (v := 0) (by decide) ?_
      refine lv_icmp_gt (tgt := 493) hx hb dL_law_24 (by decide) (fun _ => ?_) (fun c => absurd (by decide) c)
      refine lv_iconst (v := 1) hx hb dL_law_493 (by decide) ?_
      refine va_forget (fun q hq => Nat.le_trans hsz (hL q hq)) ?_
      refine W.widen (k := 600000) (n := 7302250) (Nat.le_of_ble_eq_true rfl) (Nat.le_of_ble_eq_true rfl) ?_
      exact lw_ret hx hb hr hlocks dL_law_494
    by_cases c31 : (xs 0) &&& 15 = 10
    · refine lv_tableIn (off := 342) (tgt := 375) hx hb dL_law_33 (by rw [c31]; decide) (by rw [c31]; decide) (by rw [c31]; decide) (by decide) ?_
      refine lv_aload_n hx hb dL_law_375 rfl (lv_at hl 2 rfl) ?_
      refine lv_aload_n hx hb dL_law_376 rfl (lv_at hl 3 rfl) ?_
      refine lv_iload_n hx hb dL_law_377 rfl (lv_at hl 0 rfl) ?_
      refine lv_iconst (v := 1) hx hb dL_law_378 (by decide) ?_
      refine lv_iadd hx hb dL_law_379 ?_
      refine sCi (v := 1) (by decide) ?_
      refine sSld Cx hX hbG hW (j := 1) (by decide) (vp_c (by decide)) dL_law_380 ?_
      refine lv_aload_n hx hb dL_law_381 rfl (lv_at hl 3 rfl) ?_
      refine lv_iload_n hx hb dL_law_382 rfl (lv_at hl 0 rfl) ?_
      refine lv_iconst (v := 2) hx hb dL_law_383 (by decide) ?_
      refine lv_iadd hx hb dL_law_384 ?_
      refine sCi (v := 2) (by decide) ?_
      refine sSld Cx hX hbG hW (j := 2) (by decide) (vp_c (by decide)) dL_law_385 ?_
      refine lv_aload_n hx hb dL_law_386 rfl (lv_at hl 3 rfl) ?_
      refine lv_iload_n hx hb dL_law_387 rfl (lv_at hl 0 rfl) ?_
      refine lv_iconst (v := 3) hx hb dL_law_388 (by decide) ?_
      refine lv_iadd hx hb dL_law_389 ?_
      refine sCi (v := 3) (by decide) ?_
      refine sSld Cx hX hbG hW (j := 3) (by decide) (vp_c (by decide)) dL_law_390 ?_
      refine sBiE (sV (As := [.int (xs 1), .int (xs 2), .int (xs 3)]) (rest := []) (k := 0) Cx (m_X11_entry l G S (xs 1) (xs 2) (xs 3) hI_0_8) (c_L_58 Cx rfl rfl ⟨Nat.le_of_ble_eq_true rfl, Nat.le_of_ble_eq_true rfl⟩) hW (by decide) rfl rfl rfl hl.1 rfl (Nat.le_of_ble_eq_true rfl) dL_law_391 ⟨Nat.le_of_ble_eq_true rfl, Nat.le_of_ble_eq_true rfl⟩) hL (fun H locs hW hL => ?_)
      refine lv_aload_n hx hb dL_law_394 rfl (lv_at hl 1 rfl) ?_
      refine lv_aload_n hx hb dL_law_395 rfl (lv_at hl 3 rfl) ?_
      refine lv_iload_n hx hb dL_law_396 rfl (lv_at hl 0 rfl) ?_
      refine lv_iconst (v := 1) hx hb dL_law_397 (by decide) ?_
      refine lv_iadd hx hb dL_law_398 ?_
      refine sCi (v := 1) (by decide) ?_
      refine sSld Cx hX hbG hW (j := 1) (by decide) (vp_c (by decide)) dL_law_399 ?_
      refine lv_aload_n hx hb dL_law_400 rfl (lv_at hl 3 rfl) ?_
      refine lv_iload_n hx hb dL_law_401 rfl (lv_at hl 0 rfl) ?_
      refine lv_iconst (v := 2) hx hb dL_law_402 (by decide) ?_
      refine lv_iadd hx hb dL_law_403 ?_
      refine sCi (v := 2) (by decide) ?_
      refine sSld Cx hX hbG hW (j := 2) (by decide) (vp_c (by decide)) dL_law_404 ?_
      refine lv_aload_n hx hb dL_law_405 rfl (lv_at hl 3 rfl) ?_
      refine lv_iload_n hx hb dL_law_406 rfl (lv_at hl 0 rfl) ?_
      refine lv_iconst (v := 3) hx hb dL_law_407 (by decide) ?_
      refine lv_iadd hx hb dL_law_408 ?_
      refine sCi (v := 3) (by decide) ?_
      refine sSld Cx hX hbG hW (j := 3) (by decide) (vp_c (by decide)) dL_law_409 ?_
      refine sBiE (sV (As := [.int (xs 1), .int (xs 2), .int (xs 3)]) (rest := [.int ((-1))]) (k := 231) Cx (m_X12_entry l G S (xs 1) (xs 2) (xs 3) hI_231_61) (c_L_62 Cx rfl rfl ⟨Nat.le_of_ble_eq_true rfl, Nat.le_of_ble_eq_true rfl⟩) hW (by decide) rfl rfl rfl hl.1 rfl (Nat.le_of_ble_eq_true rfl) dL_law_410 ⟨Nat.le_of_ble_eq_true rfl, Nat.le_of_ble_eq_true rfl⟩) hL (fun H locs hW hL => ?_)
      refine lv_icmp_eq (tgt := 487) hx hb dL_law_413 (by decide) (fun _ => ?_) (fun c => absurd (by decide) c)
      refine lv_iinc (v := 6) (lv' := [(3, .int 6), (2, .ref (G.2.2.1 + 231)), (1, .ref (G.2.2.1 + 0)), (0, .ref b)]) hx hb dL_law_487 hl (k := 0) rfl (by decide) (by decide) rfl (fun ls hl => ?_)
      refine lv_goto (tgt := 18) hx hb dL_law_490 (by decide) ?_
      refine lv_iload_n hx hb dL_law_18 rfl (lv_at hl 0 rfl) ?_
      refine lv_aload_n hx hb dL_law_19 rfl (lv_at hl 3 rfl) ?_
      refine sSlen Cx hX hbG hW (v := 6) (by decide) dL_law_20 ?_
      refine lv_bipush (v := 6) hx hb dL_law_21 (by decide) ?_
      refine lv_isub hx hb dL_law_23 ?_
      refine sCi (v := 0) (by decide) ?_
      refine lv_icmp_gt (tgt := 493) hx hb dL_law_24 (by decide) (fun _ => ?_) (fun c => absurd (by decide) c)
      refine lv_iconst (v := 1) hx hb dL_law_493 (by decide) ?_
      refine va_forget (fun q hq => Nat.le_trans hsz (hL q hq)) ?_
      refine W.widen (k := 600000) (n := 7302250) (Nat.le_of_ble_eq_true rfl) (Nat.le_of_ble_eq_true rfl) ?_
      exact lw_ret hx hb hr hlocks dL_law_494
    by_cases c34 : (xs 0) &&& 15 = 11
    · refine lv_tableIn (off := 385) (tgt := 418) hx hb dL_law_33 (by rw [c34]; decide) (by rw [c34]; decide) (by rw [c34]; decide) (by decide) ?_
      refine lv_aload_n hx hb dL_law_418 rfl (lv_at hl 2 rfl) ?_
      refine lv_aload_n hx hb dL_law_419 rfl (lv_at hl 3 rfl) ?_
      refine lv_iload_n hx hb dL_law_420 rfl (lv_at hl 0 rfl) ?_
      refine lv_iconst (v := 1) hx hb dL_law_421 (by decide) ?_
      refine lv_iadd hx hb dL_law_422 ?_
      refine sCi (v := 1) (by decide) ?_
      refine sSld Cx hX hbG hW (j := 1) (by decide) (vp_c (by decide)) dL_law_423 ?_
      refine lv_aload_n hx hb dL_law_424 rfl (lv_at hl 3 rfl) ?_
      refine lv_iload_n hx hb dL_law_425 rfl (lv_at hl 0 rfl) ?_
      refine lv_iconst (v := 2) hx hb dL_law_426 (by decide) ?_
      refine lv_iadd hx hb dL_law_427 ?_
      refine sCi (v := 2) (by decide) ?_
      refine sSld Cx hX hbG hW (j := 2) (by decide) (vp_c (by decide)) dL_law_428 ?_
      refine sBiE (sV (As := [.int (xs 1), .int (xs 2)]) (rest := []) (k := 0) Cx (m_X11_told l G S (xs 1) (xs 2) hI_0_8) (c_L_63 Cx rfl rfl ⟨Nat.le_of_ble_eq_true rfl, Nat.le_of_ble_eq_true rfl⟩) hW (by decide) rfl rfl rfl hl.1 rfl (Nat.le_of_ble_eq_true rfl) dL_law_429 ⟨Nat.le_of_ble_eq_true rfl, Nat.le_of_ble_eq_true rfl⟩) hL (fun H locs hW hL => ?_)
      refine lv_aload_n hx hb dL_law_432 rfl (lv_at hl 1 rfl) ?_
      refine lv_aload_n hx hb dL_law_433 rfl (lv_at hl 3 rfl) ?_
      refine lv_iload_n hx hb dL_law_434 rfl (lv_at hl 0 rfl) ?_
      refine lv_iconst (v := 1) hx hb dL_law_435 (by decide) ?_
      refine lv_iadd hx hb dL_law_436 ?_
      refine sCi (v := 1) (by decide) ?_
      refine sSld Cx hX hbG hW (j := 1) (by decide) (vp_c (by decide)) dL_law_437 ?_
      refine lv_aload_n hx hb dL_law_438 rfl (lv_at hl 3 rfl) ?_
      refine lv_iload_n hx hb dL_law_439 rfl (lv_at hl 0 rfl) ?_
      refine lv_iconst (v := 2) hx hb dL_law_440 (by decide) ?_
      refine lv_iadd hx hb dL_law_441 ?_
      refine sCi (v := 2) (by decide) ?_
      refine sSld Cx hX hbG hW (j := 2) (by decide) (vp_c (by decide)) dL_law_442 ?_
      refine sBiE (sV (As := [.int (xs 1), .int (xs 2)]) (rest := [.int ((-1))]) (k := 231) Cx (m_X12_told l G S (xs 1) (xs 2) hI_231_61) (c_L_67 Cx rfl rfl ⟨Nat.le_of_ble_eq_true rfl, Nat.le_of_ble_eq_true rfl⟩) hW (by decide) rfl rfl rfl hl.1 rfl (Nat.le_of_ble_eq_true rfl) dL_law_443 ⟨Nat.le_of_ble_eq_true rfl, Nat.le_of_ble_eq_true rfl⟩) hL (fun H locs hW hL => ?_)
      refine lv_icmp_eq (tgt := 487) hx hb dL_law_446 (by decide) (fun _ => ?_) (fun c => absurd (by decide) c)
      refine lv_iinc (v := 6) (lv' := [(3, .int 6), (2, .ref (G.2.2.1 + 231)), (1, .ref (G.2.2.1 + 0)), (0, .ref b)]) hx hb dL_law_487 hl (k := 0) rfl (by decide) (by decide) rfl (fun ls hl => ?_)
      refine lv_goto (tgt := 18) hx hb dL_law_490 (by decide) ?_
      refine lv_iload_n hx hb dL_law_18 rfl (lv_at hl 0 rfl) ?_
      refine lv_aload_n hx hb dL_law_19 rfl (lv_at hl 3 rfl) ?_
      refine sSlen Cx hX hbG hW (v := 6) (by decide) dL_law_20 ?_
      refine lv_bipush (v := 6) hx hb dL_law_21 (by decide) ?_
      refine lv_isub hx hb dL_law_23 ?_
      refine sCi (v := 0) (by decide) ?_
      refine lv_icmp_gt (tgt := 493) hx hb dL_law_24 (by decide) (fun _ => ?_) (fun c => absurd (by decide) c)
      refine lv_iconst (v := 1) hx hb dL_law_493 (by decide) ?_
      refine va_forget (fun q hq => Nat.le_trans hsz (hL q hq)) ?_
      refine W.widen (k := 600000) (n := 7302250) (Nat.le_of_ble_eq_true rfl) (Nat.le_of_ble_eq_true rfl) ?_
      exact lw_ret hx hb hr hlocks dL_law_494
    by_cases c37 : (xs 0) &&& 15 = 12
    · refine lv_tableIn (off := 418) (tgt := 451) hx hb dL_law_33 (by rw [c37]; decide) (by rw [c37]; decide) (by rw [c37]; decide) (by decide) ?_
      refine lv_aload_n hx hb dL_law_451 rfl (lv_at hl 2 rfl) ?_
      refine lv_aload_n hx hb dL_law_452 rfl (lv_at hl 3 rfl) ?_
      refine lv_iload_n hx hb dL_law_453 rfl (lv_at hl 0 rfl) ?_
      refine lv_iconst (v := 1) hx hb dL_law_454 (by decide) ?_
      refine lv_iadd hx hb dL_law_455 ?_
      refine sCi (v := 1) (by decide) ?_
      refine sSld Cx hX hbG hW (j := 1) (by decide) (vp_c (by decide)) dL_law_456 ?_
      refine sBiE (sV (As := [.int (xs 1)]) (rest := []) (k := 0) Cx (m_X11_proof l G S (xs 1) hI_0_8) (c_L_68 Cx rfl rfl ⟨Nat.le_of_ble_eq_true rfl, Nat.le_of_ble_eq_true rfl⟩) hW (by decide) rfl rfl rfl hl.1 rfl (Nat.le_of_ble_eq_true rfl) dL_law_457 ⟨Nat.le_of_ble_eq_true rfl, Nat.le_of_ble_eq_true rfl⟩) hL (fun H locs hW hL => ?_)
      refine lv_aload_n hx hb dL_law_460 rfl (lv_at hl 1 rfl) ?_
      refine lv_aload_n hx hb dL_law_461 rfl (lv_at hl 3 rfl) ?_
      refine lv_iload_n hx hb dL_law_462 rfl (lv_at hl 0 rfl) ?_
      refine lv_iconst (v := 1) hx hb dL_law_463 (by decide) ?_
      refine lv_iadd hx hb dL_law_464 ?_
      refine sCi (v := 1) (by decide) ?_
      refine sSld Cx hX hbG hW (j := 1) (by decide) (vp_c (by decide)) dL_law_465 ?_
      refine sBiE (sV (As := [.int (xs 1)]) (rest := [.int ((-1))]) (k := 231) Cx (m_X12_proof l G S (xs 1) hI_231_61) (c_L_71 Cx rfl rfl ⟨Nat.le_of_ble_eq_true rfl, Nat.le_of_ble_eq_true rfl⟩) hW (by decide) rfl rfl rfl hl.1 rfl (Nat.le_of_ble_eq_true rfl) dL_law_466 ⟨Nat.le_of_ble_eq_true rfl, Nat.le_of_ble_eq_true rfl⟩) hL (fun H locs hW hL => ?_)
      refine lv_icmp_eq (tgt := 487) hx hb dL_law_469 (by decide) (fun _ => ?_) (fun c => absurd (by decide) c)
      refine lv_iinc (v := 6) (lv' := [(3, .int 6), (2, .ref (G.2.2.1 + 231)), (1, .ref (G.2.2.1 + 0)), (0, .ref b)]) hx hb dL_law_487 hl (k := 0) rfl (by decide) (by decide) rfl (fun ls hl => ?_)
      refine lv_goto (tgt := 18) hx hb dL_law_490 (by decide) ?_
      refine lv_iload_n hx hb dL_law_18 rfl (lv_at hl 0 rfl) ?_
      refine lv_aload_n hx hb dL_law_19 rfl (lv_at hl 3 rfl) ?_
      refine sSlen Cx hX hbG hW (v := 6) (by decide) dL_law_20 ?_
      refine lv_bipush (v := 6) hx hb dL_law_21 (by decide) ?_
      refine lv_isub hx hb dL_law_23 ?_
      refine sCi (v := 0) (by decide) ?_
      refine lv_icmp_gt (tgt := 493) hx hb dL_law_24 (by decide) (fun _ => ?_) (fun c => absurd (by decide) c)
      refine lv_iconst (v := 1) hx hb dL_law_493 (by decide) ?_
      refine va_forget (fun q hq => Nat.le_trans hsz (hL q hq)) ?_
      refine W.widen (k := 600000) (n := 7302250) (Nat.le_of_ble_eq_true rfl) (Nat.le_of_ble_eq_true rfl) ?_
      exact lw_ret hx hb hr hlocks dL_law_494
    by_cases c40 : (xs 0) &&& 15 = 13
    · refine lv_tableIn (off := 441) (tgt := 474) hx hb dL_law_33 (by rw [c40]; decide) (by rw [c40]; decide) (by rw [c40]; decide) (by decide) ?_
      refine lv_aload_n hx hb dL_law_474 rfl (lv_at hl 2 rfl) ?_
      refine sBiE (sV (As := []) (rest := []) (k := 0) Cx (m_X11_check l G S hI_0_7 hR_0_0) (c_L_72 Cx rfl rfl ⟨Nat.le_of_ble_eq_true rfl, Nat.le_of_ble_eq_true rfl⟩) hW (by decide) rfl rfl rfl hl.1 rfl (Nat.le_of_ble_eq_true rfl) dL_law_475 ⟨Nat.le_of_ble_eq_true rfl, Nat.le_of_ble_eq_true rfl⟩) hL (fun H locs hW hL => ?_)
      refine lv_aload_n hx hb dL_law_478 rfl (lv_at hl 1 rfl) ?_
      refine sBiE (sV (As := []) (rest := [.int ((-1))]) (k := 231) Cx (m_X12_check l G (sI (sI (sI (sI S 0 9 0) 0 10 ((-1))) 1 1 0) 1 2 0) hI_231_1 hI_231_45) (c_L_75 Cx rfl rfl ⟨Nat.le_of_ble_eq_true rfl, Nat.le_of_ble_eq_true rfl⟩) hW (by decide) rfl rfl rfl hl.1 rfl (Nat.le_of_ble_eq_true rfl) dL_law_479 ⟨Nat.le_of_ble_eq_true rfl, Nat.le_of_ble_eq_true rfl⟩) hL (fun H locs hW hL => ?_)
      refine lv_icmp_eq (tgt := 487) hx hb dL_law_482 (by decide) (fun _ => ?_) (fun c => absurd (by decide) c)
      refine lv_iinc (v := 6) (lv' := [(3, .int 6), (2, .ref (G.2.2.1 + 231)), (1, .ref (G.2.2.1 + 0)), (0, .ref b)]) hx hb dL_law_487 hl (k := 0) rfl (by decide) (by decide) rfl (fun ls hl => ?_)
      refine lv_goto (tgt := 18) hx hb dL_law_490 (by decide) ?_
      refine lv_iload_n hx hb dL_law_18 rfl (lv_at hl 0 rfl) ?_
      refine lv_aload_n hx hb dL_law_19 rfl (lv_at hl 3 rfl) ?_
      refine sSlen Cx hX hbG hW (v := 6) (by decide) dL_law_20 ?_
      refine lv_bipush (v := 6) hx hb dL_law_21 (by decide) ?_
      refine lv_isub hx hb dL_law_23 ?_
      refine sCi (v := 0) (by decide) ?_
      refine lv_icmp_gt (tgt := 493) hx hb dL_law_24 (by decide) (fun _ => ?_) (fun c => absurd (by decide) c)
      refine lv_iconst (v := 1) hx hb dL_law_493 (by decide) ?_
      refine va_forget (fun q hq => Nat.le_trans hsz (hL q hq)) ?_
      refine W.widen (k := 600000) (n := 7302250) (Nat.le_of_ble_eq_true rfl) (Nat.le_of_ble_eq_true rfl) ?_
      exact lw_ret hx hb hr hlocks dL_law_494
    refine lv_tableOut (tgt := 487) hx hb dL_law_33 (tabOut14 c1 c4 c7 c10 c13 c16 c19 c22 c25 c28 c31 c34 c37 c40) (by decide) ?_
    refine lv_iinc (v := 6) (lv' := [(3, .int 6), (2, .ref (G.2.2.1 + 231)), (1, .ref (G.2.2.1 + 0)), (0, .ref b)]) hx hb dL_law_487 hl (k := 0) rfl (by decide) (by decide) rfl (fun ls hl => ?_)
    refine lv_goto (tgt := 18) hx hb dL_law_490 (by decide) ?_
    refine lv_iload_n hx hb dL_law_18 rfl (lv_at hl 0 rfl) ?_
    refine lv_aload_n hx hb dL_law_19 rfl (lv_at hl 3 rfl) ?_
    refine sSlen Cx hX hbG hW (v := 6) (by decide) dL_law_20 ?_
    refine lv_bipush (v := 6) hx hb dL_law_21 (by decide) ?_
    refine lv_isub hx hb dL_law_23 ?_
    refine sCi (v := 0) (by decide) ?_
    refine lv_icmp_gt (tgt := 493) hx hb dL_law_24 (by decide) (fun _ => ?_) (fun c => absurd (by decide) c)
    refine lv_iconst (v := 1) hx hb dL_law_493 (by decide) ?_
    refine va_forget (fun q hq => Nat.le_trans hsz (hL q hq)) ?_
    refine W.widen (k := 600000) (n := 7302250) (Nat.le_of_ble_eq_true rfl) (Nat.le_of_ble_eq_true rfl) ?_
    exact lw_ret hx hb hr hlocks dL_law_494
