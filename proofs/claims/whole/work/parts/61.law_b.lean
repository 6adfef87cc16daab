set_option maxHeartbeats 8000000 in
set_option maxRecDepth 100000 in
theorem law_c_0 {p : Program} {l : Launch} {e : Env} {s : State} {m : MethodId} {below : List Frame} {meth : Method} {c : Code} {g : En} {b L j : Nat} {xs : Nat → Int32} (hL : L ≤ 3072) (C0 : lw_At p s m meth c b L xs) (hK : va_K g.1 vwCl (tyl g) s) (hj : 6 * j + 6 ≤ L) (NX : ∀ (S7 : St) (S5 : St) (S6 : St) (S1 : St) (S2 : St) (S4 : St) (S3 : St) (S0 : St) (S8 : St) (H : Heap) (locs : List Loc) (ls : Array Slot), Rel S7 S5 S6 S2 S4 S3 S0 S8 → va_P g.1 vwCl (wd_7_5_6_1_2_4_3_0_8 g S7 S5 S6 S1 S2 S4 S3 S0 S8) H → va_D (fun q : Nat => s.heap.size ≤ q) (wd_7_5_6_1_2_4_3_0_8 g S7 S5 S6 S1 S2 S4 S3 S0 S8) → va_S (fun q : Nat => s.heap.size ≤ q) s.heap H locs → lv_has ls 4 [(0, .ref b), (1, .ref (g.2.2.1 7)), (2, .ref (g.2.2.1 8)), (3, .int (nI (6 * j)))] → W p l e room_1 s m #[Value.ref b] below meth c H locs 74 3834 (lw_Z below #[Value.ref b] s) (F0 m 1616 ls [])) : ∀ (S7 : St) (S5 : St) (S6 : St) (S1 : St) (S2 : St) (S4 : St) (S3 : St) (S0 : St) (S8 : St) (H : Heap) (locs : List Loc) (ls : Array Slot), Rel S7 S5 S6 S2 S4 S3 S0 S8 → va_P g.1 vwCl (wd_7_5_6_1_2_4_3_0_8 g S7 S5 S6 S1 S2 S4 S3 S0 S8) H → va_D (fun q : Nat => s.heap.size ≤ q) (wd_7_5_6_1_2_4_3_0_8 g S7 S5 S6 S1 S2 S4 S3 S0 S8) → va_S (fun q : Nat => s.heap.size ≤ q) s.heap H locs → lv_has ls 4 [(0, .ref b), (1, .ref (g.2.2.1 7)), (2, .ref (g.2.2.1 8)), (3, .int (nI (6 * j)))] → W p l e room_1 s m #[Value.ref b] below meth c H locs 74 3834 (lw_Z below #[Value.ref b] s) (F0 m 220 ls []) := by
  intro S7 S5 S6 S1 S2 S4 S3 S0 S8 H locs ls hR hP hD hS hl
  obtain ⟨hx, hb, hr, hml, hown0, hts0, hX, hbl, hlocks, hgv⟩ := id C0
  have hown : s.vm.findClass RL = some m.cls := hown0
  have hts : ∀ w ∈ wsL_law, w.before #[Value.ref b] s = true := fun w h => hts0 w (wsL_law_in w h)
  have hA : ∀ q : Nat, s.heap.size ≤ q → (fun q : Nat => s.heap.size ≤ q) q := fun _ h => h
  have hbA : ¬ (fun q : Nat => s.heap.size ≤ q) b := Nat.not_le.mpr hbl
  refine lv_aload_n (pc := 220) hx hb dL_law_220 rfl (lv_at hl 1 rfl) ?_
  refine lv_aload_n (pc := 221) hx hb dL_law_221 rfl (lv_at hl 0 rfl) ?_
  refine lv_iload_n (pc := 222) hx hb dL_law_222 rfl (lv_at hl 3 rfl) ?_
  refine lv_iconst (v := 1) (pc := 223) hx hb dL_law_223 (by decide) ?_
  refine lv_iadd (pc := 224) hx hb dL_law_224 ?_
  refine va_sld (pc := 225) hx hb hX hbl hbA hS (lix1 hL hj) dL_law_225 ?_
  obtain ⟨r9, T7, T8, e1, e2, hR⟩ := sim_later (N := 3000) (by decide) hR ((xs (Int32.toNatClampNeg ((nI (6 * j)) + 1))))
  refine kwI (g := g) (A := (fun q : Nat => s.heap.size ≤ q)) (W0 := (wd_7_5_6_1_2_4_3_0_8 g S7 S5 S6 S1 S2 S4 S3 S0 S8)) (wc := (wd_7 g S7)) (wr := (wd_5_6_1_2_4_3_0_8 g S5 S6 S1 S2 S4 S3 S0 S8)) (w1 := (wd_7 g T7)) (W1 := (wd_7_5_6_1_2_4_3_0_8 g T7 S5 S6 S1 S2 S4 S3 S0 S8)) (pc := 226) (As := [.int (xs (Int32.toNatClampNeg ((nI (6 * j)) + 1)))]) (rest := []) ⟨hx, hb, hml, hown, hts⟩ hK hA hP hD hS (c_X7_later l g 3000 H.size S7 ((xs (Int32.toNatClampNeg ((nI (6 * j)) + 1)))) (r9, T7) e1) (cwV 1 hts gL_law_X7_later rfl rfl rfl h_X7_later ⟨Nat.le_of_ble_eq_true rfl, Nat.le_of_ble_eq_true rfl⟩) [0, 1] [2, 3, 4, 5, 6, 7, 8, 9, 10, 11, 12, 13, 14, 15, 16, 17, 18, 19, 20, 21, 22, 23, 24, 25, 26, 27, 28, 29, 30, 31, 32, 33, 34, 35, 36, 37, 38, 39, 40, 41, 42, 43, 44, 45, 46, 47, 48, 49, 50, 51, 52, 53, 54, 55, 56, 57, 58, 59, 60, 61, 62, 63, 64, 65, 66, 67, 68, 69, 70, 71, 72, 73] [72, 73, 0, 1, 2, 3, 4, 5, 6, 7, 8, 9, 10, 11, 12, 13, 14, 15, 16, 17, 18, 19, 20, 21, 22, 23, 24, 25, 26, 27, 28, 29, 30, 31, 32, 33, 34, 35, 36, 37, 38, 39, 40, 41, 42, 43, 44, 45, 46, 47, 48, 49, 50, 51, 52, 53, 54, 55, 56, 57, 58, 59, 60, 61, 62, 63, 64, 65, 66, 67, 68, 69, 70, 71] rfl rfl rfl rfl rfl (by decide) rfl rfl rfl rfl rfl rfl hl.1 rfl (Nat.le_of_ble_eq_true rfl) dL_law_226 ⟨Nat.le_of_ble_eq_true rfl, Nat.le_of_ble_eq_true rfl⟩ (fun H locs hP hD hS => ?_)
  refine lv_aload_n (pc := 229) hx hb dL_law_229 rfl (lv_at hl 2 rfl) ?_
  refine lv_aload_n (pc := 230) hx hb dL_law_230 rfl (lv_at hl 0 rfl) ?_
  refine lv_iload_n (pc := 231) hx hb dL_law_231 rfl (lv_at hl 3 rfl) ?_
  refine lv_iconst (v := 1) (pc := 232) hx hb dL_law_232 (by decide) ?_
  refine lv_iadd (pc := 233) hx hb dL_law_233 ?_
  refine va_sld (pc := 234) hx hb hX hbl hbA hS (lix1 hL hj) dL_law_234 ?_
  refine kwI (g := g) (A := (fun q : Nat => s.heap.size ≤ q)) (W0 := (wd_7_5_6_1_2_4_3_0_8 g T7 S5 S6 S1 S2 S4 S3 S0 S8)) (wc := (wd_8 g S8)) (wr := (wd_7_5_6_1_2_4_3_0 g T7 S5 S6 S1 S2 S4 S3 S0)) (w1 := (wd_8 g T8)) (W1 := (wd_7_5_6_1_2_4_3_0_8 g T7 S5 S6 S1 S2 S4 S3 S0 T8)) (pc := 235) (As := [.int (xs (Int32.toNatClampNeg ((nI (6 * j)) + 1)))]) (rest := [.int r9]) ⟨hx, hb, hml, hown, hts⟩ hK hA hP hD hS (c_X8_later l g 3000 H.size S8 ((xs (Int32.toNatClampNeg ((nI (6 * j)) + 1)))) (r9, T8) e2) (cwV 1 hts gL_law_X8_later rfl rfl rfl h_X8_later ⟨Nat.le_of_ble_eq_true rfl, Nat.le_of_ble_eq_true rfl⟩) [42, 43, 44, 45, 46, 47, 48, 49, 50, 51, 52, 53, 54, 55, 56, 57, 58, 59, 60, 61, 62, 63, 64, 65, 66, 67, 68, 69, 70, 71, 72, 73] [0, 1, 2, 3, 4, 5, 6, 7, 8, 9, 10, 11, 12, 13, 14, 15, 16, 17, 18, 19, 20, 21, 22, 23, 24, 25, 26, 27, 28, 29, 30, 31, 32, 33, 34, 35, 36, 37, 38, 39, 40, 41] [0, 1, 2, 3, 4, 5, 6, 7, 8, 9, 10, 11, 12, 13, 14, 15, 16, 17, 18, 19, 20, 21, 22, 23, 24, 25, 26, 27, 28, 29, 30, 31, 32, 33, 34, 35, 36, 37, 38, 39, 40, 41, 42, 43, 44, 45, 46, 47, 48, 49, 50, 51, 52, 53, 54, 55, 56, 57, 58, 59, 60, 61, 62, 63, 64, 65, 66, 67, 68, 69, 70, 71, 72, 73] rfl rfl rfl rfl rfl (by decide) rfl rfl rfl rfl rfl rfl hl.1 rfl (Nat.le_of_ble_eq_true rfl) dL_law_235 ⟨Nat.le_of_ble_eq_true rfl, Nat.le_of_ble_eq_true rfl⟩ (fun H locs hP hD hS => ?_)
  refine lv_icmp_eq (tgt := 1616) (pc := 238) hx hb dL_law_238 (by decide) (fun _ => ?_) (fun q => absurd rfl q)
  exact NX T7 S5 S6 S1 S2 S4 S3 S0 T8 H locs ls hR hP hD hS hl
set_option maxHeartbeats 8000000 in
set_option maxRecDepth 100000 in
theorem law_c_1 {p : Program} {l : Launch} {e : Env} {s : State} {m : MethodId} {below : List Frame} {meth : Method} {c : Code} {g : En} {b L j : Nat} {xs : Nat → Int32} (hL : L ≤ 3072) (C0 : lw_At p s m meth c b L xs) (hK : va_K g.1 vwCl (tyl g) s) (hj : 6 * j + 6 ≤ L) (NX : ∀ (S7 : St) (S5 : St) (S6 : St) (S1 : St) (S2 : St) (S4 : St) (S3 : St) (S0 : St) (S8 : St) (H : Heap) (locs : List Loc) (ls : Array Slot), Rel S7 S5 S6 S2 S4 S3 S0 S8 → va_P g.1 vwCl (wd_7_5_6_1_2_4_3_0_8 g S7 S5 S6 S1 S2 S4 S3 S0 S8) H → va_D (fun q : Nat => s.heap.size ≤ q) (wd_7_5_6_1_2_4_3_0_8 g S7 S5 S6 S1 S2 S4 S3 S0 S8) → va_S (fun q : Nat => s.heap.size ≤ q) s.heap H locs → lv_has ls 4 [(0, .ref b), (1, .ref (g.2.2.1 7)), (2, .ref (g.2.2.1 8)), (3, .int (nI (6 * j)))] → W p l e room_1 s m #[Value.ref b] below meth c H locs 74 3834 (lw_Z below #[Value.ref b] s) (F0 m 1616 ls [])) : ∀ (S7 : St) (S5 : St) (S6 : St) (S1 : St) (S2 : St) (S4 : St) (S3 : St) (S0 : St) (S8 : St) (H : Heap) (locs : List Loc) (ls : Array Slot), Rel S7 S5 S6 S2 S4 S3 S0 S8 → va_P g.1 vwCl (wd_7_5_6_1_2_4_3_0_8 g S7 S5 S6 S1 S2 S4 S3 S0 S8) H → va_D (fun q : Nat => s.heap.size ≤ q) (wd_7_5_6_1_2_4_3_0_8 g S7 S5 S6 S1 S2 S4 S3 S0 S8) → va_S (fun q : Nat => s.heap.size ≤ q) s.heap H locs → lv_has ls 4 [(0, .ref b), (1, .ref (g.2.2.1 7)), (2, .ref (g.2.2.1 8)), (3, .int (nI (6 * j)))] → W p l e room_1 s m #[Value.ref b] below meth c H locs 74 3834 (lw_Z below #[Value.ref b] s) (F0 m 243 ls []) := by
  intro S7 S5 S6 S1 S2 S4 S3 S0 S8 H locs ls hR hP hD hS hl
  obtain ⟨hx, hb, hr, hml, hown0, hts0, hX, hbl, hlocks, hgv⟩ := id C0
  have hown : s.vm.findClass RL = some m.cls := hown0
  have hts : ∀ w ∈ wsL_law, w.before #[Value.ref b] s = true := fun w h => hts0 w (wsL_law_in w h)
  have hA : ∀ q : Nat, s.heap.size ≤ q → (fun q : Nat => s.heap.size ≤ q) q := fun _ h => h
  have hbA : ¬ (fun q : Nat => s.heap.size ≤ q) b := Nat.not_le.mpr hbl
  refine lv_aload_n (pc := 243) hx hb dL_law_243 rfl (lv_at hl 1 rfl) ?_
  refine lv_aload_n (pc := 244) hx hb dL_law_244 rfl (lv_at hl 0 rfl) ?_
  refine lv_iload_n (pc := 245) hx hb dL_law_245 rfl (lv_at hl 3 rfl) ?_
  refine lv_iconst (v := 1) (pc := 246) hx hb dL_law_246 (by decide) ?_
  refine lv_iadd (pc := 247) hx hb dL_law_247 ?_
  refine va_sld (pc := 248) hx hb hX hbl hbA hS (lix1 hL hj) dL_law_248 ?_
  refine lv_aload_n (pc := 249) hx hb dL_law_249 rfl (lv_at hl 0 rfl) ?_
  refine lv_iload_n (pc := 250) hx hb dL_law_250 rfl (lv_at hl 3 rfl) ?_
  refine lv_iconst (v := 2) (pc := 251) hx hb dL_law_251 (by decide) ?_
  refine lv_iadd (pc := 252) hx hb dL_law_252 ?_
  refine va_sld (pc := 253) hx hb hX hbl hbA hS (lix2 hL hj) dL_law_253 ?_
  obtain ⟨r9, T7, T6, T8, e1, e2, hR⟩ := sim_row (N := 3000) (by decide) hR ((xs (Int32.toNatClampNeg ((nI (6 * j)) + 1)))) ((xs (Int32.toNatClampNeg ((nI (6 * j)) + 2))))
  refine kwI (g := g) (A := (fun q : Nat => s.heap.size ≤ q)) (W0 := (wd_7_5_6_1_2_4_3_0_8 g S7 S5 S6 S1 S2 S4 S3 S0 S8)) (wc := (wd_7_6 g S7 S6)) (wr := (wd_5_1_2_4_3_0_8 g S5 S1 S2 S4 S3 S0 S8)) (w1 := (wd_7_6 g T7 T6)) (W1 := (wd_7_5_6_1_2_4_3_0_8 g T7 S5 T6 S1 S2 S4 S3 S0 S8)) (pc := 254) (As := [.int (xs (Int32.toNatClampNeg ((nI (6 * j)) + 1))), .int (xs (Int32.toNatClampNeg ((nI (6 * j)) + 2)))]) (rest := []) ⟨hx, hb, hml, hown, hts⟩ hK hA hP hD hS (c_X7_row l g 3000 H.size S7 S6 ((xs (Int32.toNatClampNeg ((nI (6 * j)) + 1)))) ((xs (Int32.toNatClampNeg ((nI (6 * j)) + 2)))) (r9, T7, T6) e1) (cwV 2 hts gL_law_X7_row rfl rfl rfl h_X7_row ⟨Nat.le_of_ble_eq_true rfl, Nat.le_of_ble_eq_true rfl⟩) [0, 1, 12, 13, 14] [2, 3, 4, 5, 6, 7, 8, 9, 10, 11, 15, 16, 17, 18, 19, 20, 21, 22, 23, 24, 25, 26, 27, 28, 29, 30, 31, 32, 33, 34, 35, 36, 37, 38, 39, 40, 41, 42, 43, 44, 45, 46, 47, 48, 49, 50, 51, 52, 53, 54, 55, 56, 57, 58, 59, 60, 61, 62, 63, 64, 65, 66, 67, 68, 69, 70, 71, 72, 73] [69, 70, 0, 1, 2, 3, 4, 5, 6, 7, 8, 9, 71, 72, 73, 10, 11, 12, 13, 14, 15, 16, 17, 18, 19, 20, 21, 22, 23, 24, 25, 26, 27, 28, 29, 30, 31, 32, 33, 34, 35, 36, 37, 38, 39, 40, 41, 42, 43, 44, 45, 46, 47, 48, 49, 50, 51, 52, 53, 54, 55, 56, 57, 58, 59, 60, 61, 62, 63, 64, 65, 66, 67, 68] rfl rfl rfl rfl rfl (by decide) rfl rfl rfl rfl rfl rfl hl.1 rfl (Nat.le_of_ble_eq_true rfl) dL_law_254 ⟨Nat.le_of_ble_eq_true rfl, Nat.le_of_ble_eq_true rfl⟩ (fun H locs hP hD hS => ?_)
  refine lv_aload_n (pc := 257) hx hb dL_law_257 rfl (lv_at hl 2 rfl) ?_
  refine lv_aload_n (pc := 258) hx hb dL_law_258 rfl (lv_at hl 0 rfl) ?_
  refine lv_iload_n (pc := 259) hx hb dL_law_259 rfl (lv_at hl 3 rfl) ?_
  refine lv_iconst (v := 1) (pc := 260) hx hb dL_law_260 (by decide) ?_
  refine lv_iadd (pc := 261) hx hb dL_law_261 ?_
  refine va_sld (pc := 262) hx hb hX hbl hbA hS (lix1 hL hj) dL_law_262 ?_
  refine lv_aload_n (pc := 263) hx hb dL_law_263 rfl (lv_at hl 0 rfl) ?_
  refine lv_iload_n (pc := 264) hx hb dL_law_264 rfl (lv_at hl 3 rfl) ?_
  refine lv_iconst (v := 2) (pc := 265) hx hb dL_law_265 (by decide) ?_
  refine lv_iadd (pc := 266) hx hb dL_law_266 ?_
  refine va_sld (pc := 267) hx hb hX hbl hbA hS (lix2 hL hj) dL_law_267 ?_
  refine kwI (g := g) (A := (fun q : Nat => s.heap.size ≤ q)) (W0 := (wd_7_5_6_1_2_4_3_0_8 g T7 S5 T6 S1 S2 S4 S3 S0 S8)) (wc := (wd_8 g S8)) (wr := (wd_7_5_6_1_2_4_3_0 g T7 S5 T6 S1 S2 S4 S3 S0)) (w1 := (wd_8 g T8)) (W1 := (wd_7_5_6_1_2_4_3_0_8 g T7 S5 T6 S1 S2 S4 S3 S0 T8)) (pc := 268) (As := [.int (xs (Int32.toNatClampNeg ((nI (6 * j)) + 1))), .int (xs (Int32.toNatClampNeg ((nI (6 * j)) + 2)))]) (rest := [.int r9]) ⟨hx, hb, hml, hown, hts⟩ hK hA hP hD hS (c_X8_row l g 3000 H.size S8 ((xs (Int32.toNatClampNeg ((nI (6 * j)) + 1)))) ((xs (Int32.toNatClampNeg ((nI (6 * j)) + 2)))) (r9, T8) e2) (cwV 2 hts gL_law_X8_row rfl rfl rfl h_X8_row ⟨Nat.le_of_ble_eq_true rfl, Nat.le_of_ble_eq_true rfl⟩) [42, 43, 44, 45, 46, 47, 48, 49, 50, 51, 52, 53, 54, 55, 56, 57, 58, 59, 60, 61, 62, 63, 64, 65, 66, 67, 68, 69, 70, 71, 72, 73] [0, 1, 2, 3, 4, 5, 6, 7, 8, 9, 10, 11, 12, 13, 14, 15, 16, 17, 18, 19, 20, 21, 22, 23, 24, 25, 26, 27, 28, 29, 30, 31, 32, 33, 34, 35, 36, 37, 38, 39, 40, 41] [0, 1, 2, 3, 4, 5, 6, 7, 8, 9, 10, 11, 12, 13, 14, 15, 16, 17, 18, 19, 20, 21, 22, 23, 24, 25, 26, 27, 28, 29, 30, 31, 32, 33, 34, 35, 36, 37, 38, 39, 40, 41, 42, 43, 44, 45, 46, 47, 48, 49, 50, 51, 52, 53, 54, 55, 56, 57, 58, 59, 60, 61, 62, 63, 64, 65, 66, 67, 68, 69, 70, 71, 72, 73] rfl rfl rfl rfl rfl (by decide) rfl rfl rfl rfl rfl rfl hl.1 rfl (Nat.le_of_ble_eq_true rfl) dL_law_268 ⟨Nat.le_of_ble_eq_true rfl, Nat.le_of_ble_eq_true rfl⟩ (fun H locs hP hD hS => ?_)
  refine lv_icmp_eq (tgt := 1616) (pc := 271) hx hb dL_law_271 (by decide) (fun _ => ?_) (fun q => absurd rfl q)
  exact NX T7 S5 T6 S1 S2 S4 S3 S0 T8 H locs ls hR hP hD hS hl
set_option maxHeartbeats 8000000 in
set_option maxRecDepth 100000 in
theorem law_c_2 {p : Program} {l : Launch} {e : Env} {s : State} {m : MethodId} {below : List Frame} {meth : Method} {c : Code} {g : En} {b L j : Nat} {xs : Nat → Int32} (hL : L ≤ 3072) (C0 : lw_At p s m meth c b L xs) (hK : va_K g.1 vwCl (tyl g) s) (hj : 6 * j + 6 ≤ L) (NX : ∀ (S7 : St) (S5 : St) (S6 : St) (S1 : St) (S2 : St) (S4 : St) (S3 : St) (S0 : St) (S8 : St) (H : Heap) (locs : List Loc) (ls : Array Slot), Rel S7 S5 S6 S2 S4 S3 S0 S8 → va_P g.1 vwCl (wd_7_5_6_1_2_4_3_0_8 g S7 S5 S6 S1 S2 S4 S3 S0 S8) H → va_D (fun q : Nat => s.heap.size ≤ q) (wd_7_5_6_1_2_4_3_0_8 g S7 S5 S6 S1 S2 S4 S3 S0 S8) → va_S (fun q : Nat => s.heap.size ≤ q) s.heap H locs → lv_has ls 4 [(0, .ref b), (1, .ref (g.2.2.1 7)), (2, .ref (g.2.2.1 8)), (3, .int (nI (6 * j)))] → W p l e room_1 s m #[Value.ref b] below meth c H locs 74 3834 (lw_Z below #[Value.ref b] s) (F0 m 1616 ls [])) : ∀ (S7 : St) (S5 : St) (S6 : St) (S1 : St) (S2 : St) (S4 : St) (S3 : St) (S0 : St) (S8 : St) (H : Heap) (locs : List Loc) (ls : Array Slot), Rel S7 S5 S6 S2 S4 S3 S0 S8 → va_P g.1 vwCl (wd_7_5_6_1_2_4_3_0_8 g S7 S5 S6 S1 S2 S4 S3 S0 S8) H → va_D (fun q : Nat => s.heap.size ≤ q) (wd_7_5_6_1_2_4_3_0_8 g S7 S5 S6 S1 S2 S4 S3 S0 S8) → va_S (fun q : Nat => s.heap.size ≤ q) s.heap H locs → lv_has ls 4 [(0, .ref b), (1, .ref (g.2.2.1 7)), (2, .ref (g.2.2.1 8)), (3, .int (nI (6 * j)))] → W p l e room_1 s m #[Value.ref b] below meth c H locs 74 3834 (lw_Z below #[Value.ref b] s) (F0 m 276 ls []) := by
  intro S7 S5 S6 S1 S2 S4 S3 S0 S8 H locs ls hR hP hD hS hl
  obtain ⟨hx, hb, hr, hml, hown0, hts0, hX, hbl, hlocks, hgv⟩ := id C0
  have hown : s.vm.findClass RL = some m.cls := hown0
  have hts : ∀ w ∈ wsL_law, w.before #[Value.ref b] s = true := fun w h => hts0 w (wsL_law_in w h)
  have hA : ∀ q : Nat, s.heap.size ≤ q → (fun q : Nat => s.heap.size ≤ q) q := fun _ h => h
  have hbA : ¬ (fun q : Nat => s.heap.size ≤ q) b := Nat.not_le.mpr hbl
  refine lv_aload_n (pc := 276) hx hb dL_law_276 rfl (lv_at hl 1 rfl) ?_
  refine lv_aload_n (pc := 277) hx hb dL_law_277 rfl (lv_at hl 0 rfl) ?_
  refine lv_iload_n (pc := 278) hx hb dL_law_278 rfl (lv_at hl 3 rfl) ?_
  refine lv_iconst (v := 1) (pc := 279) hx hb dL_law_279 (by decide) ?_
  refine lv_iadd (pc := 280) hx hb dL_law_280 ?_
  refine va_sld (pc := 281) hx hb hX hbl hbA hS (lix1 hL hj) dL_law_281 ?_
  refine lv_aload_n (pc := 282) hx hb dL_law_282 rfl (lv_at hl 0 rfl) ?_
  refine lv_iload_n (pc := 283) hx hb dL_law_283 rfl (lv_at hl 3 rfl) ?_
  refine lv_iconst (v := 2) (pc := 284) hx hb dL_law_284 (by decide) ?_
  refine lv_iadd (pc := 285) hx hb dL_law_285 ?_
  refine va_sld (pc := 286) hx hb hX hbl hbA hS (lix2 hL hj) dL_law_286 ?_
  refine lv_aload_n (pc := 287) hx hb dL_law_287 rfl (lv_at hl 0 rfl) ?_
  refine lv_iload_n (pc := 288) hx hb dL_law_288 rfl (lv_at hl 3 rfl) ?_
  refine lv_iconst (v := 3) (pc := 289) hx hb dL_law_289 (by decide) ?_
  refine lv_iadd (pc := 290) hx hb dL_law_290 ?_
  refine va_sld (pc := 291) hx hb hX hbl hbA hS (lix3 hL hj) dL_law_291 ?_
  obtain ⟨r9, T7, T6, T8, e1, e2, hR⟩ := sim_lay (N := 3000) (by decide) hR ((xs (Int32.toNatClampNeg ((nI (6 * j)) + 1)))) ((xs (Int32.toNatClampNeg ((nI (6 * j)) + 2)))) ((xs (Int32.toNatClampNeg ((nI (6 * j)) + 3))))
  refine kwI (g := g) (A := (fun q : Nat => s.heap.size ≤ q)) (W0 := (wd_7_5_6_1_2_4_3_0_8 g S7 S5 S6 S1 S2 S4 S3 S0 S8)) (wc := (wd_7_6 g S7 S6)) (wr := (wd_5_1_2_4_3_0_8 g S5 S1 S2 S4 S3 S0 S8)) (w1 := (wd_7_6 g T7 T6)) (W1 := (wd_7_5_6_1_2_4_3_0_8 g T7 S5 T6 S1 S2 S4 S3 S0 S8)) (pc := 292) (As := [.int (xs (Int32.toNatClampNeg ((nI (6 * j)) + 1))), .int (xs (Int32.toNatClampNeg ((nI (6 * j)) + 2))), .int (xs (Int32.toNatClampNeg ((nI (6 * j)) + 3)))]) (rest := []) ⟨hx, hb, hml, hown, hts⟩ hK hA hP hD hS (c_X7_lay l g 3000 H.size S7 S6 ((xs (Int32.toNatClampNeg ((nI (6 * j)) + 1)))) ((xs (Int32.toNatClampNeg ((nI (6 * j)) + 2)))) ((xs (Int32.toNatClampNeg ((nI (6 * j)) + 3)))) (r9, T7, T6) e1) (cwV 3 hts gL_law_X7_lay rfl rfl rfl h_X7_lay ⟨Nat.le_of_ble_eq_true rfl, Nat.le_of_ble_eq_true rfl⟩) [0, 1, 12, 13, 14] [2, 3, 4, 5, 6, 7, 8, 9, 10, 11, 15, 16, 17, 18, 19, 20, 21, 22, 23, 24, 25, 26, 27, 28, 29, 30, 31, 32, 33, 34, 35, 36, 37, 38, 39, 40, 41, 42, 43, 44, 45, 46, 47, 48, 49, 50, 51, 52, 53, 54, 55, 56, 57, 58, 59, 60, 61, 62, 63, 64, 65, 66, 67, 68, 69, 70, 71, 72, 73] [69, 70, 0, 1, 2, 3, 4, 5, 6, 7, 8, 9, 71, 72, 73, 10, 11, 12, 13, 14, 15, 16, 17, 18, 19, 20, 21, 22, 23, 24, 25, 26, 27, 28, 29, 30, 31, 32, 33, 34, 35, 36, 37, 38, 39, 40, 41, 42, 43, 44, 45, 46, 47, 48, 49, 50, 51, 52, 53, 54, 55, 56, 57, 58, 59, 60, 61, 62, 63, 64, 65, 66, 67, 68] rfl rfl rfl rfl rfl (by decide) rfl rfl rfl rfl rfl rfl hl.1 rfl (Nat.le_of_ble_eq_true rfl) dL_law_292 ⟨Nat.le_of_ble_eq_true rfl, Nat.le_of_ble_eq_true rfl⟩ (fun H locs hP hD hS => ?_)
  refine lv_aload_n (pc := 295) hx hb dL_law_295 rfl (lv_at hl 2 rfl) ?_
  refine lv_aload_n (pc := 296) hx hb dL_law_296 rfl (lv_at hl 0 rfl) ?_
  refine lv_iload_n (pc := 297) hx hb dL_law_297 rfl (lv_at hl 3 rfl) ?_
  refine lv_iconst (v := 1) (pc := 298) hx hb dL_law_298 (by decide) ?_
  refine lv_iadd (pc := 299) hx hb dL_law_299 ?_
  refine va_sld (pc := 300) hx hb hX hbl hbA hS (lix1 hL hj) dL_law_300 ?_
  refine lv_aload_n (pc := 301) hx hb dL_law_301 rfl (lv_at hl 0 rfl) ?_
  refine lv_iload_n (pc := 302) hx hb dL_law_302 rfl (lv_at hl 3 rfl) ?_
  refine lv_iconst (v := 2) (pc := 303) hx hb dL_law_303 (by decide) ?_
  refine lv_iadd (pc := 304) hx hb dL_law_304 ?_
  refine va_sld (pc := 305) hx hb hX hbl hbA hS (lix2 hL hj) dL_law_305 ?_
  refine lv_aload_n (pc := 306) hx hb dL_law_306 rfl (lv_at hl 0 rfl) ?_
  refine lv_iload_n (pc := 307) hx hb dL_law_307 rfl (lv_at hl 3 rfl) ?_
  refine lv_iconst (v := 3) (pc := 308) hx hb dL_law_308 (by decide) ?_
  refine lv_iadd (pc := 309) hx hb dL_law_309 ?_
  refine va_sld (pc := 310) hx hb hX hbl hbA hS (lix3 hL hj) dL_law_310 ?_
  refine kwI (g := g) (A := (fun q : Nat => s.heap.size ≤ q)) (W0 := (wd_7_5_6_1_2_4_3_0_8 g T7 S5 T6 S1 S2 S4 S3 S0 S8)) (wc := (wd_8 g S8)) (wr := (wd_7_5_6_1_2_4_3_0 g T7 S5 T6 S1 S2 S4 S3 S0)) (w1 := (wd_8 g T8)) (W1 := (wd_7_5_6_1_2_4_3_0_8 g T7 S5 T6 S1 S2 S4 S3 S0 T8)) (pc := 311) (As := [.int (xs (Int32.toNatClampNeg ((nI (6 * j)) + 1))), .int (xs (Int32.toNatClampNeg ((nI (6 * j)) + 2))), .int (xs (Int32.toNatClampNeg ((nI (6 * j)) + 3)))]) (rest := [.int r9]) ⟨hx, hb, hml, hown, hts⟩ hK hA hP hD hS (c_X8_lay l g 3000 H.size S8 ((xs (Int32.toNatClampNeg ((nI (6 * j)) + 1)))) ((xs (Int32.toNatClampNeg ((nI (6 * j)) + 2)))) ((xs (Int32.toNatClampNeg ((nI (6 * j)) + 3)))) (r9, T8) e2) (cwV 3 hts gL_law_X8_lay rfl rfl rfl h_X8_lay ⟨Nat.le_of_ble_eq_true rfl, Nat.le_of_ble_eq_true rfl⟩) [42, 43, 44, 45, 46, 47, 48, 49, 50, 51, 52, 53, 54, 55, 56, 57, 58, 59, 60, 61, 62, 63, 64, 65, 66, 67, 68, 69, 70, 71, 72, 73] [0, 1, 2, 3, 4, 5, 6, 7, 8, 9, 10, 11, 12, 13, 14, 15, 16, 17, 18, 19, 20, 21, 22, 23, 24, 25, 26, 27, 28, 29, 30, 31, 32, 33, 34, 35, 36, 37, 38, 39, 40, 41] [0, 1, 2, 3, 4, 5, 6, 7, 8, 9, 10, 11, 12, 13, 14, 15, 16, 17, 18, 19, 20, 21, 22, 23, 24, 25, 26, 27, 28, 29, 30, 31, 32, 33, 34, 35, 36, 37, 38, 39, 40, 41, 42, 43, 44, 45, 46, 47, 48, 49, 50, 51, 52, 53, 54, 55, 56, 57, 58, 59, 60, 61, 62, 63, 64, 65, 66, 67, 68, 69, 70, 71, 72, 73] rfl rfl rfl rfl rfl (by decide) rfl rfl rfl rfl rfl rfl hl.1 rfl (Nat.le_of_ble_eq_true rfl) dL_law_311 ⟨Nat.le_of_ble_eq_true rfl, Nat.le_of_ble_eq_true rfl⟩ (fun H locs hP hD hS => ?_)
  refine lv_icmp_eq (tgt := 1616) (pc := 314) hx hb dL_law_314 (by decide) (fun _ => ?_) (fun q => absurd rfl q)
  exact NX T7 S5 T6 S1 S2 S4 S3 S0 T8 H locs ls hR hP hD hS hl
set_option maxHeartbeats 8000000 in
set_option maxRecDepth 100000 in
theorem law_c_3 {p : Program} {l : Launch} {e : Env} {s : State} {m : MethodId} {below : List Frame} {meth : Method} {c : Code} {g : En} {b L j : Nat} {xs : Nat → Int32} (hL : L ≤ 3072) (C0 : lw_At p s m meth c b L xs) (hK : va_K g.1 vwCl (tyl g) s) (hj : 6 * j + 6 ≤ L) (NX : ∀ (S7 : St) (S5 : St) (S6 : St) (S1 : St) (S2 : St) (S4 : St) (S3 : St) (S0 : St) (S8 : St) (H : Heap) (locs : List Loc) (ls : Array Slot), Rel S7 S5 S6 S2 S4 S3 S0 S8 → va_P g.1 vwCl (wd_7_5_6_1_2_4_3_0_8 g S7 S5 S6 S1 S2 S4 S3 S0 S8) H → va_D (fun q : Nat => s.heap.size ≤ q) (wd_7_5_6_1_2_4_3_0_8 g S7 S5 S6 S1 S2 S4 S3 S0 S8) → va_S (fun q : Nat => s.heap.size ≤ q) s.heap H locs → lv_has ls 4 [(0, .ref b), (1, .ref (g.2.2.1 7)), (2, .ref (g.2.2.1 8)), (3, .int (nI (6 * j)))] → W p l e room_1 s m #[Value.ref b] below meth c H locs 74 3834 (lw_Z below #[Value.ref b] s) (F0 m 1616 ls [])) : ∀ (S7 : St) (S5 : St) (S6 : St) (S1 : St) (S2 : St) (S4 : St) (S3 : St) (S0 : St) (S8 : St) (H : Heap) (locs : List Loc) (ls : Array Slot), Rel S7 S5 S6 S2 S4 S3 S0 S8 → va_P g.1 vwCl (wd_7_5_6_1_2_4_3_0_8 g S7 S5 S6 S1 S2 S4 S3 S0 S8) H → va_D (fun q : Nat => s.heap.size ≤ q) (wd_7_5_6_1_2_4_3_0_8 g S7 S5 S6 S1 S2 S4 S3 S0 S8) → va_S (fun q : Nat => s.heap.size ≤ q) s.heap H locs → lv_has ls 4 [(0, .ref b), (1, .ref (g.2.2.1 7)), (2, .ref (g.2.2.1 8)), (3, .int (nI (6 * j)))] → W p l e room_1 s m #[Value.ref b] below meth c H locs 74 3834 (lw_Z below #[Value.ref b] s) (F0 m 319 ls []) := by
  intro S7 S5 S6 S1 S2 S4 S3 S0 S8 H locs ls hR hP hD hS hl
  obtain ⟨hx, hb, hr, hml, hown0, hts0, hX, hbl, hlocks, hgv⟩ := id C0
  have hown : s.vm.findClass RL = some m.cls := hown0
  have hts : ∀ w ∈ wsL_law, w.before #[Value.ref b] s = true := fun w h => hts0 w (wsL_law_in w h)
  have hA : ∀ q : Nat, s.heap.size ≤ q → (fun q : Nat => s.heap.size ≤ q) q := fun _ h => h
  have hbA : ¬ (fun q : Nat => s.heap.size ≤ q) b := Nat.not_le.mpr hbl
  refine lv_aload_n (pc := 319) hx hb dL_law_319 rfl (lv_at hl 1 rfl) ?_
  refine lv_aload_n (pc := 320) hx hb dL_law_320 rfl (lv_at hl 0 rfl) ?_
  refine lv_iload_n (pc := 321) hx hb dL_law_321 rfl (lv_at hl 3 rfl) ?_
  refine lv_iconst (v := 1) (pc := 322) hx hb dL_law_322 (by decide) ?_
  refine lv_iadd (pc := 323) hx hb dL_law_323 ?_
  refine va_sld (pc := 324) hx hb hX hbl hbA hS (lix1 hL hj) dL_law_324 ?_
  obtain ⟨r9, T7, T6, T8, e1, e2, hR⟩ := sim_tear (N := 3000) (by decide) hR ((xs (Int32.toNatClampNeg ((nI (6 * j)) + 1))))
  refine kwI (g := g) (A := (fun q : Nat => s.heap.size ≤ q)) (W0 := (wd_7_5_6_1_2_4_3_0_8 g S7 S5 S6 S1 S2 S4 S3 S0 S8)) (wc := (wd_7_6 g S7 S6)) (wr := (wd_5_1_2_4_3_0_8 g S5 S1 S2 S4 S3 S0 S8)) (w1 := (wd_7_6 g T7 T6)) (W1 := (wd_7_5_6_1_2_4_3_0_8 g T7 S5 T6 S1 S2 S4 S3 S0 S8)) (pc := 325) (As := [.int (xs (Int32.toNatClampNeg ((nI (6 * j)) + 1)))]) (rest := []) ⟨hx, hb, hml, hown, hts⟩ hK hA hP hD hS (c_X7_tear l g 3000 H.size S7 S6 ((xs (Int32.toNatClampNeg ((nI (6 * j)) + 1)))) (r9, T7, T6) e1) (cwV 1 hts gL_law_X7_tear rfl rfl rfl h_X7_tear ⟨Nat.le_of_ble_eq_true rfl, Nat.le_of_ble_eq_true rfl⟩) [0, 1, 12, 13, 14] [2, 3, 4, 5, 6, 7, 8, 9, 10, 11, 15, 16, 17, 18, 19, 20, 21, 22, 23, 24, 25, 26, 27, 28, 29, 30, 31, 32, 33, 34, 35, 36, 37, 38, 39, 40, 41, 42, 43, 44, 45, 46, 47, 48, 49, 50, 51, 52, 53, 54, 55, 56, 57, 58, 59, 60, 61, 62, 63, 64, 65, 66, 67, 68, 69, 70, 71, 72, 73] [69, 70, 0, 1, 2, 3, 4, 5, 6, 7, 8, 9, 71, 72, 73, 10, 11, 12, 13, 14, 15, 16, 17, 18, 19, 20, 21, 22, 23, 24, 25, 26, 27, 28, 29, 30, 31, 32, 33, 34, 35, 36, 37, 38, 39, 40, 41, 42, 43, 44, 45, 46, 47, 48, 49, 50, 51, 52, 53, 54, 55, 56, 57, 58, 59, 60, 61, 62, 63, 64, 65, 66, 67, 68] rfl rfl rfl rfl rfl (by decide) rfl rfl rfl rfl rfl rfl hl.1 rfl (Nat.le_of_ble_eq_true rfl) dL_law_325 ⟨Nat.le_of_ble_eq_true rfl, Nat.le_of_ble_eq_true rfl⟩ (fun H locs hP hD hS => ?_)
  refine lv_aload_n (pc := 328) hx hb dL_law_328 rfl (lv_at hl 2 rfl) ?_
  refine lv_aload_n (pc := 329) hx hb dL_law_329 rfl (lv_at hl 0 rfl) ?_
  refine lv_iload_n (pc := 330) hx hb dL_law_330 rfl (lv_at hl 3 rfl) ?_
  refine lv_iconst (v := 1) (pc := 331) hx hb dL_law_331 (by decide) ?_
  refine lv_iadd (pc := 332) hx hb dL_law_332 ?_
  refine va_sld (pc := 333) hx hb hX hbl hbA hS (lix1 hL hj) dL_law_333 ?_
  refine kwI (g := g) (A := (fun q : Nat => s.heap.size ≤ q)) (W0 := (wd_7_5_6_1_2_4_3_0_8 g T7 S5 T6 S1 S2 S4 S3 S0 S8)) (wc := (wd_8 g S8)) (wr := (wd_7_5_6_1_2_4_3_0 g T7 S5 T6 S1 S2 S4 S3 S0)) (w1 := (wd_8 g T8)) (W1 := (wd_7_5_6_1_2_4_3_0_8 g T7 S5 T6 S1 S2 S4 S3 S0 T8)) (pc := 334) (As := [.int (xs (Int32.toNatClampNeg ((nI (6 * j)) + 1)))]) (rest := [.int r9]) ⟨hx, hb, hml, hown, hts⟩ hK hA hP hD hS (c_X8_tear l g 3000 H.size S8 ((xs (Int32.toNatClampNeg ((nI (6 * j)) + 1)))) (r9, T8) e2) (cwV 1 hts gL_law_X8_tear rfl rfl rfl h_X8_tear ⟨Nat.le_of_ble_eq_true rfl, Nat.le_of_ble_eq_true rfl⟩) [42, 43, 44, 45, 46, 47, 48, 49, 50, 51, 52, 53, 54, 55, 56, 57, 58, 59, 60, 61, 62, 63, 64, 65, 66, 67, 68, 69, 70, 71, 72, 73] [0, 1, 2, 3, 4, 5, 6, 7, 8, 9, 10, 11, 12, 13, 14, 15, 16, 17, 18, 19, 20, 21, 22, 23, 24, 25, 26, 27, 28, 29, 30, 31, 32, 33, 34, 35, 36, 37, 38, 39, 40, 41] [0, 1, 2, 3, 4, 5, 6, 7, 8, 9, 10, 11, 12, 13, 14, 15, 16, 17, 18, 19, 20, 21, 22, 23, 24, 25, 26, 27, 28, 29, 30, 31, 32, 33, 34, 35, 36, 37, 38, 39, 40, 41, 42, 43, 44, 45, 46, 47, 48, 49, 50, 51, 52, 53, 54, 55, 56, 57, 58, 59, 60, 61, 62, 63, 64, 65, 66, 67, 68, 69, 70, 71, 72, 73] rfl rfl rfl rfl rfl (by decide) rfl rfl rfl rfl rfl rfl hl.1 rfl (Nat.le_of_ble_eq_true rfl) dL_law_334 ⟨Nat.le_of_ble_eq_true rfl, Nat.le_of_ble_eq_true rfl⟩ (fun H locs hP hD hS => ?_)
  refine lv_icmp_eq (tgt := 1616) (pc := 337) hx hb dL_law_337 (by decide) (fun _ => ?_) (fun q => absurd rfl q)
  exact NX T7 S5 T6 S1 S2 S4 S3 S0 T8 H locs ls hR hP hD hS hl
set_option maxHeartbeats 8000000 in
set_option maxRecDepth 100000 in
theorem law_c_4 {p : Program} {l : Launch} {e : Env} {s : State} {m : MethodId} {below : List Frame} {meth : Method} {c : Code} {g : En} {b L j : Nat} {xs : Nat → Int32} (hL : L ≤ 3072) (C0 : lw_At p s m meth c b L xs) (hK : va_K g.1 vwCl (tyl g) s) (hj : 6 * j + 6 ≤ L) (NX : ∀ (S7 : St) (S5 : St) (S6 : St) (S1 : St) (S2 : St) (S4 : St) (S3 : St) (S0 : St) (S8 : St) (H : Heap) (locs : List Loc) (ls : Array Slot), Rel S7 S5 S6 S2 S4 S3 S0 S8 → va_P g.1 vwCl (wd_7_5_6_1_2_4_3_0_8 g S7 S5 S6 S1 S2 S4 S3 S0 S8) H → va_D (fun q : Nat => s.heap.size ≤ q) (wd_7_5_6_1_2_4_3_0_8 g S7 S5 S6 S1 S2 S4 S3 S0 S8) → va_S (fun q : Nat => s.heap.size ≤ q) s.heap H locs → lv_has ls 4 [(0, .ref b), (1, .ref (g.2.2.1 7)), (2, .ref (g.2.2.1 8)), (3, .int (nI (6 * j)))] → W p l e room_1 s m #[Value.ref b] below meth c H locs 74 3834 (lw_Z below #[Value.ref b] s) (F0 m 1616 ls [])) : ∀ (S7 : St) (S5 : St) (S6 : St) (S1 : St) (S2 : St) (S4 : St) (S3 : St) (S0 : St) (S8 : St) (H : Heap) (locs : List Loc) (ls : Array Slot), Rel S7 S5 S6 S2 S4 S3 S0 S8 → va_P g.1 vwCl (wd_7_5_6_1_2_4_3_0_8 g S7 S5 S6 S1 S2 S4 S3 S0 S8) H → va_D (fun q : Nat => s.heap.size ≤ q) (wd_7_5_6_1_2_4_3_0_8 g S7 S5 S6 S1 S2 S4 S3 S0 S8) → va_S (fun q : Nat => s.heap.size ≤ q) s.heap H locs → lv_has ls 4 [(0, .ref b), (1, .ref (g.2.2.1 7)), (2, .ref (g.2.2.1 8)), (3, .int (nI (6 * j)))] → W p l e room_1 s m #[Value.ref b] below meth c H locs 74 3834 (lw_Z below #[Value.ref b] s) (F0 m 342 ls []) := by
  intro S7 S5 S6 S1 S2 S4 S3 S0 S8 H locs ls hR hP hD hS hl
  obtain ⟨hx, hb, hr, hml, hown0, hts0, hX, hbl, hlocks, hgv⟩ := id C0
  have hown : s.vm.findClass RL = some m.cls := hown0
  have hts : ∀ w ∈ wsL_law, w.before #[Value.ref b] s = true := fun w h => hts0 w (wsL_law_in w h)
  have hA : ∀ q : Nat, s.heap.size ≤ q → (fun q : Nat => s.heap.size ≤ q) q := fun _ h => h
  have hbA : ¬ (fun q : Nat => s.heap.size ≤ q) b := Nat.not_le.mpr hbl
  refine lv_aload_n (pc := 342) hx hb dL_law_342 rfl (lv_at hl 1 rfl) ?_
  refine lv_aload_n (pc := 343) hx hb dL_law_343 rfl (lv_at hl 0 rfl) ?_
  refine lv_iload_n (pc := 344) hx hb dL_law_344 rfl (lv_at hl 3 rfl) ?_
  refine lv_iconst (v := 1) (pc := 345) hx hb dL_law_345 (by decide) ?_
  refine lv_iadd (pc := 346) hx hb dL_law_346 ?_
  refine va_sld (pc := 347) hx hb hX hbl hbA hS (lix1 hL hj) dL_law_347 ?_
  refine lv_aload_n (pc := 348) hx hb dL_law_348 rfl (lv_at hl 0 rfl) ?_
  refine lv_iload_n (pc := 349) hx hb dL_law_349 rfl (lv_at hl 3 rfl) ?_
  refine lv_iconst (v := 2) (pc := 350) hx hb dL_law_350 (by decide) ?_
  refine lv_iadd (pc := 351) hx hb dL_law_351 ?_
  refine va_sld (pc := 352) hx hb hX hbl hbA hS (lix2 hL hj) dL_law_352 ?_
  refine lv_aload_n (pc := 353) hx hb dL_law_353 rfl (lv_at hl 0 rfl) ?_
  refine lv_iload_n (pc := 354) hx hb dL_law_354 rfl (lv_at hl 3 rfl) ?_
  refine lv_iconst (v := 3) (pc := 355) hx hb dL_law_355 (by decide) ?_
  refine lv_iadd (pc := 356) hx hb dL_law_356 ?_
  refine va_sld (pc := 357) hx hb hX hbl hbA hS (lix3 hL hj) dL_law_357 ?_
  refine lv_aload_n (pc := 358) hx hb dL_law_358 rfl (lv_at hl 0 rfl) ?_
  refine lv_iload_n (pc := 359) hx hb dL_law_359 rfl (lv_at hl 3 rfl) ?_
  refine lv_iconst (v := 4) (pc := 360) hx hb dL_law_360 (by decide) ?_
  refine lv_iadd (pc := 361) hx hb dL_law_361 ?_
  refine va_sld (pc := 362) hx hb hX hbl hbA hS (lix4 hL hj) dL_law_362 ?_
  refine lv_aload_n (pc := 363) hx hb dL_law_363 rfl (lv_at hl 0 rfl) ?_
  refine lv_iload_n (pc := 364) hx hb dL_law_364 rfl (lv_at hl 3 rfl) ?_
  refine lv_iconst (v := 5) (pc := 365) hx hb dL_law_365 (by decide) ?_
  refine lv_iadd (pc := 366) hx hb dL_law_366 ?_
  refine va_sld (pc := 367) hx hb hX hbl hbA hS (lix5 hL hj) dL_law_367 ?_
  obtain ⟨r9, T7, T6, T8, e1, e2, hR⟩ := sim_copy (N := 3000) (by decide) hR ((xs (Int32.toNatClampNeg ((nI (6 * j)) + 1)))) ((xs (Int32.toNatClampNeg ((nI (6 * j)) + 2)))) ((xs (Int32.toNatClampNeg ((nI (6 * j)) + 3)))) ((xs (Int32.toNatClampNeg ((nI (6 * j)) + 4)))) ((xs (Int32.toNatClampNeg ((nI (6 * j)) + 5))))
  refine kwI (g := g) (A := (fun q : Nat => s.heap.size ≤ q)) (W0 := (wd_7_5_6_1_2_4_3_0_8 g S7 S5 S6 S1 S2 S4 S3 S0 S8)) (wc := (wd_7_6 g S7 S6)) (wr := (wd_5_1_2_4_3_0_8 g S5 S1 S2 S4 S3 S0 S8)) (w1 := (wd_7_6 g T7 T6)) (W1 := (wd_7_5_6_1_2_4_3_0_8 g T7 S5 T6 S1 S2 S4 S3 S0 S8)) (pc := 368) (As := [.int (xs (Int32.toNatClampNeg ((nI (6 * j)) + 1))), .int (xs (Int32.toNatClampNeg ((nI (6 * j)) + 2))), .int (xs (Int32.toNatClampNeg ((nI (6 * j)) + 3))), .int (xs (Int32.toNatClampNeg ((nI (6 * j)) + 4))), .int (xs (Int32.toNatClampNeg ((nI (6 * j)) + 5)))]) (rest := []) ⟨hx, hb, hml, hown, hts⟩ hK hA hP hD hS (c_X7_copy l g 3000 H.size S7 S6 ((xs (Int32.toNatClampNeg ((nI (6 * j)) + 1)))) ((xs (Int32.toNatClampNeg ((nI (6 * j)) + 2)))) ((xs (Int32.toNatClampNeg ((nI (6 * j)) + 3)))) ((xs (Int32.toNatClampNeg ((nI (6 * j)) + 4)))) ((xs (Int32.toNatClampNeg ((nI (6 * j)) + 5)))) (r9, T7, T6) e1) (cwV 5 hts gL_law_X7_copy rfl rfl rfl h_X7_copy ⟨Nat.le_of_ble_eq_true rfl, Nat.le_of_ble_eq_true rfl⟩) [0, 1, 12, 13, 14] [2, 3, 4, 5, 6, 7, 8, 9, 10, 11, 15, 16, 17, 18, 19, 20, 21, 22, 23, 24, 25, 26, 27, 28, 29, 30, 31, 32, 33, 34, 35, 36, 37, 38, 39, 40, 41, 42, 43, 44, 45, 46, 47, 48, 49, 50, 51, 52, 53, 54, 55, 56, 57, 58, 59, 60, 61, 62, 63, 64, 65, 66, 67, 68, 69, 70, 71, 72, 73] [69, 70, 0, 1, 2, 3, 4, 5, 6, 7, 8, 9, 71, 72, 73, 10, 11, 12, 13, 14, 15, 16, 17, 18, 19, 20, 21, 22, 23, 24, 25, 26, 27, 28, 29, 30, 31, 32, 33, 34, 35, 36, 37, 38, 39, 40, 41, 42, 43, 44, 45, 46, 47, 48, 49, 50, 51, 52, 53, 54, 55, 56, 57, 58, 59, 60, 61, 62, 63, 64, 65, 66, 67, 68] rfl rfl rfl rfl rfl (by decide) rfl rfl rfl rfl rfl rfl hl.1 rfl (Nat.le_of_ble_eq_true rfl) dL_law_368 ⟨Nat.le_of_ble_eq_true rfl, Nat.le_of_ble_eq_true rfl⟩ (fun H locs hP hD hS => ?_)
  refine lv_aload_n (pc := 371) hx hb dL_law_371 rfl (lv_at hl 2 rfl) ?_
  refine lv_aload_n (pc := 372) hx hb dL_law_372 rfl (lv_at hl 0 rfl) ?_
  refine lv_iload_n (pc := 373) hx hb dL_law_373 rfl (lv_at hl 3 rfl) ?_
  refine lv_iconst (v := 1) (pc := 374) hx hb dL_law_374 (by decide) ?_
  refine lv_iadd (pc := 375) hx hb dL_law_375 ?_
  refine va_sld (pc := 376) hx hb hX hbl hbA hS (lix1 hL hj) dL_law_376 ?_
  refine lv_aload_n (pc := 377) hx hb dL_law_377 rfl (lv_at hl 0 rfl) ?_
  refine lv_iload_n (pc := 378) hx hb dL_law_378 rfl (lv_at hl 3 rfl) ?_
  refine lv_iconst (v := 2) (pc := 379) hx hb dL_law_379 (by decide) ?_
  refine lv_iadd (pc := 380) hx hb dL_law_380 ?_
  refine va_sld (pc := 381) hx hb hX hbl hbA hS (lix2 hL hj) dL_law_381 ?_
  refine lv_aload_n (pc := 382) hx hb dL_law_382 rfl (lv_at hl 0 rfl) ?_
  refine lv_iload_n (pc := 383) hx hb dL_law_383 rfl (lv_at hl 3 rfl) ?_
  refine lv_iconst (v := 3) (pc := 384) hx hb dL_law_384 (by decide) ?_
  refine lv_iadd (pc := 385) hx hb dL_law_385 ?_
  refine va_sld (pc := 386) hx hb hX hbl hbA hS (lix3 hL hj) dL_law_386 ?_
  refine lv_aload_n (pc := 387) hx hb dL_law_387 rfl (lv_at hl 0 rfl) ?_
  refine lv_iload_n (pc := 388) hx hb dL_law_388 rfl (lv_at hl 3 rfl) ?_
  refine lv_iconst (v := 4) (pc := 389) hx hb dL_law_389 (by decide) ?_
  refine lv_iadd (pc := 390) hx hb dL_law_390 ?_
  refine va_sld (pc := 391) hx hb hX hbl hbA hS (lix4 hL hj) dL_law_391 ?_
  refine lv_aload_n (pc := 392) hx hb dL_law_392 rfl (lv_at hl 0 rfl) ?_
  refine lv_iload_n (pc := 393) hx hb dL_law_393 rfl (lv_at hl 3 rfl) ?_
  refine lv_iconst (v := 5) (pc := 394) hx hb dL_law_394 (by decide) ?_
  refine lv_iadd (pc := 395) hx hb dL_law_395 ?_
  refine va_sld (pc := 396) hx hb hX hbl hbA hS (lix5 hL hj) dL_law_396 ?_
  refine kwI (g := g) (A := (fun q : Nat => s.heap.size ≤ q)) (W0 := (wd_7_5_6_1_2_4_3_0_8 g T7 S5 T6 S1 S2 S4 S3 S0 S8)) (wc := (wd_8 g S8)) (wr := (wd_7_5_6_1_2_4_3_0 g T7 S5 T6 S1 S2 S4 S3 S0)) (w1 := (wd_8 g T8)) (W1 := (wd_7_5_6_1_2_4_3_0_8 g T7 S5 T6 S1 S2 S4 S3 S0 T8)) (pc := 397) (As := [.int (xs (Int32.toNatClampNeg ((nI (6 * j)) + 1))), .int (xs (Int32.toNatClampNeg ((nI (6 * j)) + 2))), .int (xs (Int32.toNatClampNeg ((nI (6 * j)) + 3))), .int (xs (Int32.toNatClampNeg ((nI (6 * j)) + 4))), .int (xs (Int32.toNatClampNeg ((nI (6 * j)) + 5)))]) (rest := [.int r9]) ⟨hx, hb, hml, hown, hts⟩ hK hA hP hD hS (c_X8_copy l g 3000 H.size S8 ((xs (Int32.toNatClampNeg ((nI (6 * j)) + 1)))) ((xs (Int32.toNatClampNeg ((nI (6 * j)) + 2)))) ((xs (Int32.toNatClampNeg ((nI (6 * j)) + 3)))) ((xs (Int32.toNatClampNeg ((nI (6 * j)) + 4)))) ((xs (Int32.toNatClampNeg ((nI (6 * j)) + 5)))) (r9, T8) e2) (cwV 5 hts gL_law_X8_copy rfl rfl rfl h_X8_copy ⟨Nat.le_of_ble_eq_true rfl, Nat.le_of_ble_eq_true rfl⟩) [42, 43, 44, 45, 46, 47, 48, 49, 50, 51, 52, 53, 54, 55, 56, 57, 58, 59, 60, 61, 62, 63, 64, 65, 66, 67, 68, 69, 70, 71, 72, 73] [0, 1, 2, 3, 4, 5, 6, 7, 8, 9, 10, 11, 12, 13, 14, 15, 16, 17, 18, 19, 20, 21, 22, 23, 24, 25, 26, 27, 28, 29, 30, 31, 32, 33, 34, 35, 36, 37, 38, 39, 40, 41] [0, 1, 2, 3, 4, 5, 6, 7, 8, 9, 10, 11, 12, 13, 14, 15, 16, 17, 18, 19, 20, 21, 22, 23, 24, 25, 26, 27, 28, 29, 30, 31, 32, 33, 34, 35, 36, 37, 38, 39, 40, 41, 42, 43, 44, 45, 46, 47, 48, 49, 50, 51, 52, 53, 54, 55, 56, 57, 58, 59, 60, 61, 62, 63, 64, 65, 66, 67, 68, 69, 70, 71, 72, 73] rfl rfl rfl rfl rfl (by decide) rfl rfl rfl rfl rfl rfl hl.1 rfl (Nat.le_of_ble_eq_true rfl) dL_law_397 ⟨Nat.le_of_ble_eq_true rfl, Nat.le_of_ble_eq_true rfl⟩ (fun H locs hP hD hS => ?_)
  refine lv_icmp_eq (tgt := 1616) (pc := 400) hx hb dL_law_400 (by decide) (fun _ => ?_) (fun q => absurd rfl q)
  exact NX T7 S5 T6 S1 S2 S4 S3 S0 T8 H locs ls hR hP hD hS hl
set_option maxHeartbeats 8000000 in
set_option maxRecDepth 100000 in
theorem law_c_5 {p : Program} {l : Launch} {e : Env} {s : State} {m : MethodId} {below : List Frame} {meth : Method} {c : Code} {g : En} {b L j : Nat} {xs : Nat → Int32} (hL : L ≤ 3072) (C0 : lw_At p s m meth c b L xs) (hK : va_K g.1 vwCl (tyl g) s) (hj : 6 * j + 6 ≤ L) (NX : ∀ (S7 : St) (S5 : St) (S6 : St) (S1 : St) (S2 : St) (S4 : St) (S3 : St) (S0 : St) (S8 : St) (H : Heap) (locs : List Loc) (ls : Array Slot), Rel S7 S5 S6 S2 S4 S3 S0 S8 → va_P g.1 vwCl (wd_7_5_6_1_2_4_3_0_8 g S7 S5 S6 S1 S2 S4 S3 S0 S8) H → va_D (fun q : Nat => s.heap.size ≤ q) (wd_7_5_6_1_2_4_3_0_8 g S7 S5 S6 S1 S2 S4 S3 S0 S8) → va_S (fun q : Nat => s.heap.size ≤ q) s.heap H locs → lv_has ls 4 [(0, .ref b), (1, .ref (g.2.2.1 7)), (2, .ref (g.2.2.1 8)), (3, .int (nI (6 * j)))] → W p l e room_1 s m #[Value.ref b] below meth c H locs 74 3834 (lw_Z below #[Value.ref b] s) (F0 m 1616 ls [])) : ∀ (S7 : St) (S5 : St) (S6 : St) (S1 : St) (S2 : St) (S4 : St) (S3 : St) (S0 : St) (S8 : St) (H : Heap) (locs : List Loc) (ls : Array Slot), Rel S7 S5 S6 S2 S4 S3 S0 S8 → va_P g.1 vwCl (wd_7_5_6_1_2_4_3_0_8 g S7 S5 S6 S1 S2 S4 S3 S0 S8) H → va_D (fun q : Nat => s.heap.size ≤ q) (wd_7_5_6_1_2_4_3_0_8 g S7 S5 S6 S1 S2 S4 S3 S0 S8) → va_S (fun q : Nat => s.heap.size ≤ q) s.heap H locs → lv_has ls 4 [(0, .ref b), (1, .ref (g.2.2.1 7)), (2, .ref (g.2.2.1 8)), (3, .int (nI (6 * j)))] → W p l e room_1 s m #[Value.ref b] below meth c H locs 74 3834 (lw_Z below #[Value.ref b] s) (F0 m 405 ls []) := by
  intro S7 S5 S6 S1 S2 S4 S3 S0 S8 H locs ls hR hP hD hS hl
  obtain ⟨hx, hb, hr, hml, hown0, hts0, hX, hbl, hlocks, hgv⟩ := id C0
  have hown : s.vm.findClass RL = some m.cls := hown0
  have hts : ∀ w ∈ wsL_law, w.before #[Value.ref b] s = true := fun w h => hts0 w (wsL_law_in w h)
  have hA : ∀ q : Nat, s.heap.size ≤ q → (fun q : Nat => s.heap.size ≤ q) q := fun _ h => h
  have hbA : ¬ (fun q : Nat => s.heap.size ≤ q) b := Nat.not_le.mpr hbl
  refine lv_aload_n (pc := 405) hx hb dL_law_405 rfl (lv_at hl 1 rfl) ?_
  refine lv_aload_n (pc := 406) hx hb dL_law_406 rfl (lv_at hl 0 rfl) ?_
  refine lv_iload_n (pc := 407) hx hb dL_law_407 rfl (lv_at hl 3 rfl) ?_
  refine lv_iconst (v := 1) (pc := 408) hx hb dL_law_408 (by decide) ?_
  refine lv_iadd (pc := 409) hx hb dL_law_409 ?_
  refine va_sld (pc := 410) hx hb hX hbl hbA hS (lix1 hL hj) dL_law_410 ?_
  refine lv_aload_n (pc := 411) hx hb dL_law_411 rfl (lv_at hl 0 rfl) ?_
  refine lv_iload_n (pc := 412) hx hb dL_law_412 rfl (lv_at hl 3 rfl) ?_
  refine lv_iconst (v := 2) (pc := 413) hx hb dL_law_413 (by decide) ?_
  refine lv_iadd (pc := 414) hx hb dL_law_414 ?_
  refine va_sld (pc := 415) hx hb hX hbl hbA hS (lix2 hL hj) dL_law_415 ?_
  obtain ⟨r9, T7, T8, e1, e2, hR⟩ := sim_match (N := 3000) (by decide) hR ((xs (Int32.toNatClampNeg ((nI (6 * j)) + 1)))) ((xs (Int32.toNatClampNeg ((nI (6 * j)) + 2))))
  refine kwI (g := g) (A := (fun q : Nat => s.heap.size ≤ q)) (W0 := (wd_7_5_6_1_2_4_3_0_8 g S7 S5 S6 S1 S2 S4 S3 S0 S8)) (wc := (wd_7_6 g S7 S6)) (wr := (wd_5_1_2_4_3_0_8 g S5 S1 S2 S4 S3 S0 S8)) (w1 := (wd_7_6 g T7 S6)) (W1 := (wd_7_5_6_1_2_4_3_0_8 g T7 S5 S6 S1 S2 S4 S3 S0 S8)) (pc := 416) (As := [.int (xs (Int32.toNatClampNeg ((nI (6 * j)) + 1))), .int (xs (Int32.toNatClampNeg ((nI (6 * j)) + 2)))]) (rest := []) ⟨hx, hb, hml, hown, hts⟩ hK hA hP hD hS (c_X7_match l g 3000 H.size S7 S6 ((xs (Int32.toNatClampNeg ((nI (6 * j)) + 1)))) ((xs (Int32.toNatClampNeg ((nI (6 * j)) + 2)))) (r9, T7) e1) (cwV 2 hts gL_law_X7_match rfl rfl rfl h_X7_match ⟨Nat.le_of_ble_eq_true rfl, Nat.le_of_ble_eq_true rfl⟩) [0, 1, 12, 13, 14] [2, 3, 4, 5, 6, 7, 8, 9, 10, 11, 15, 16, 17, 18, 19, 20, 21, 22, 23, 24, 25, 26, 27, 28, 29, 30, 31, 32, 33, 34, 35, 36, 37, 38, 39, 40, 41, 42, 43, 44, 45, 46, 47, 48, 49, 50, 51, 52, 53, 54, 55, 56, 57, 58, 59, 60, 61, 62, 63, 64, 65, 66, 67, 68, 69, 70, 71, 72, 73] [69, 70, 0, 1, 2, 3, 4, 5, 6, 7, 8, 9, 71, 72, 73, 10, 11, 12, 13, 14, 15, 16, 17, 18, 19, 20, 21, 22, 23, 24, 25, 26, 27, 28, 29, 30, 31, 32, 33, 34, 35, 36, 37, 38, 39, 40, 41, 42, 43, 44, 45, 46, 47, 48, 49, 50, 51, 52, 53, 54, 55, 56, 57, 58, 59, 60, 61, 62, 63, 64, 65, 66, 67, 68] rfl rfl rfl rfl rfl (by decide) rfl rfl rfl rfl rfl rfl hl.1 rfl (Nat.le_of_ble_eq_true rfl) dL_law_416 ⟨Nat.le_of_ble_eq_true rfl, Nat.le_of_ble_eq_true rfl⟩ (fun H locs hP hD hS => ?_)
  refine lv_aload_n (pc := 419) hx hb dL_law_419 rfl (lv_at hl 2 rfl) ?_
  refine lv_aload_n (pc := 420) hx hb dL_law_420 rfl (lv_at hl 0 rfl) ?_
  refine lv_iload_n (pc := 421) hx hb dL_law_421 rfl (lv_at hl 3 rfl) ?_
  refine lv_iconst (v := 1) (pc := 422) hx hb dL_law_422 (by decide) ?_
  refine lv_iadd (pc := 423) hx hb dL_law_423 ?_
  refine va_sld (pc := 424) hx hb hX hbl hbA hS (lix1 hL hj) dL_law_424 ?_
  refine lv_aload_n (pc := 425) hx hb dL_law_425 rfl (lv_at hl 0 rfl) ?_
  refine lv_iload_n (pc := 426) hx hb dL_law_426 rfl (lv_at hl 3 rfl) ?_
  refine lv_iconst (v := 2) (pc := 427) hx hb dL_law_427 (by decide) ?_
  refine lv_iadd (pc := 428) hx hb dL_law_428 ?_
  refine va_sld (pc := 429) hx hb hX hbl hbA hS (lix2 hL hj) dL_law_429 ?_
  refine kwI (g := g) (A := (fun q : Nat => s.heap.size ≤ q)) (W0 := (wd_7_5_6_1_2_4_3_0_8 g T7 S5 S6 S1 S2 S4 S3 S0 S8)) (wc := (wd_8 g S8)) (wr := (wd_7_5_6_1_2_4_3_0 g T7 S5 S6 S1 S2 S4 S3 S0)) (w1 := (wd_8 g T8)) (W1 := (wd_7_5_6_1_2_4_3_0_8 g T7 S5 S6 S1 S2 S4 S3 S0 T8)) (pc := 430) (As := [.int (xs (Int32.toNatClampNeg ((nI (6 * j)) + 1))), .int (xs (Int32.toNatClampNeg ((nI (6 * j)) + 2)))]) (rest := [.int r9]) ⟨hx, hb, hml, hown, hts⟩ hK hA hP hD hS (c_X8_match l g 3000 H.size S8 ((xs (Int32.toNatClampNeg ((nI (6 * j)) + 1)))) ((xs (Int32.toNatClampNeg ((nI (6 * j)) + 2)))) (r9, T8) e2) (cwV 2 hts gL_law_X8_match rfl rfl rfl h_X8_match ⟨Nat.le_of_ble_eq_true rfl, Nat.le_of_ble_eq_true rfl⟩) [42, 43, 44, 45, 46, 47, 48, 49, 50, 51, 52, 53, 54, 55, 56, 57, 58, 59, 60, 61, 62, 63, 64, 65, 66, 67, 68, 69, 70, 71, 72, 73] [0, 1, 2, 3, 4, 5, 6, 7, 8, 9, 10, 11, 12, 13, 14, 15, 16, 17, 18, 19, 20, 21, 22, 23, 24, 25, 26, 27, 28, 29, 30, 31, 32, 33, 34, 35, 36, 37, 38, 39, 40, 41] [0, 1, 2, 3, 4, 5, 6, 7, 8, 9, 10, 11, 12, 13, 14, 15, 16, 17, 18, 19, 20, 21, 22, 23, 24, 25, 26, 27, 28, 29, 30, 31, 32, 33, 34, 35, 36, 37, 38, 39, 40, 41, 42, 43, 44, 45, 46, 47, 48, 49, 50, 51, 52, 53, 54, 55, 56, 57, 58, 59, 60, 61, 62, 63, 64, 65, 66, 67, 68, 69, 70, 71, 72, 73] rfl rfl rfl rfl rfl (by decide) rfl rfl rfl rfl rfl rfl hl.1 rfl (Nat.le_of_ble_eq_true rfl) dL_law_430 ⟨Nat.le_of_ble_eq_true rfl, Nat.le_of_ble_eq_true rfl⟩ (fun H locs hP hD hS => ?_)
  refine lv_icmp_eq (tgt := 1616) (pc := 433) hx hb dL_law_433 (by decide) (fun _ => ?_) (fun q => absurd rfl q)
  exact NX T7 S5 S6 S1 S2 S4 S3 S0 T8 H locs ls hR hP hD hS hl
set_option maxHeartbeats 8000000 in
set_option maxRecDepth 100000 in
theorem law_c_6 {p : Program} {l : Launch} {e : Env} {s : State} {m : MethodId} {below : List Frame} {meth : Method} {c : Code} {g : En} {b L j : Nat} {xs : Nat → Int32} (hL : L ≤ 3072) (C0 : lw_At p s m meth c b L xs) (hK : va_K g.1 vwCl (tyl g) s) (hj : 6 * j + 6 ≤ L) (NX : ∀ (S7 : St) (S5 : St) (S6 : St) (S1 : St) (S2 : St) (S4 : St) (S3 : St) (S0 : St) (S8 : St) (H : Heap) (locs : List Loc) (ls : Array Slot), Rel S7 S5 S6 S2 S4 S3 S0 S8 → va_P g.1 vwCl (wd_7_5_6_1_2_4_3_0_8 g S7 S5 S6 S1 S2 S4 S3 S0 S8) H → va_D (fun q : Nat => s.heap.size ≤ q) (wd_7_5_6_1_2_4_3_0_8 g S7 S5 S6 S1 S2 S4 S3 S0 S8) → va_S (fun q : Nat => s.heap.size ≤ q) s.heap H locs → lv_has ls 4 [(0, .ref b), (1, .ref (g.2.2.1 7)), (2, .ref (g.2.2.1 8)), (3, .int (nI (6 * j)))] → W p l e room_1 s m #[Value.ref b] below meth c H locs 74 3834 (lw_Z below #[Value.ref b] s) (F0 m 1616 ls [])) : ∀ (S7 : St) (S5 : St) (S6 : St) (S1 : St) (S2 : St) (S4 : St) (S3 : St) (S0 : St) (S8 : St) (H : Heap) (locs : List Loc) (ls : Array Slot), Rel S7 S5 S6 S2 S4 S3 S0 S8 → va_P g.1 vwCl (wd_7_5_6_1_2_4_3_0_8 g S7 S5 S6 S1 S2 S4 S3 S0 S8) H → va_D (fun q : Nat => s.heap.size ≤ q) (wd_7_5_6_1_2_4_3_0_8 g S7 S5 S6 S1 S2 S4 S3 S0 S8) → va_S (fun q : Nat => s.heap.size ≤ q) s.heap H locs → lv_has ls 4 [(0, .ref b), (1, .ref (g.2.2.1 7)), (2, .ref (g.2.2.1 8)), (3, .int (nI (6 * j)))] → W p l e room_1 s m #[Value.ref b] below meth c H locs 74 3834 (lw_Z below #[Value.ref b] s) (F0 m 438 ls []) := by
  intro S7 S5 S6 S1 S2 S4 S3 S0 S8 H locs ls hR hP hD hS hl
  obtain ⟨hx, hb, hr, hml, hown0, hts0, hX, hbl, hlocks, hgv⟩ := id C0
  have hown : s.vm.findClass RL = some m.cls := hown0
  have hts : ∀ w ∈ wsL_law, w.before #[Value.ref b] s = true := fun w h => hts0 w (wsL_law_in w h)
  have hA : ∀ q : Nat, s.heap.size ≤ q → (fun q : Nat => s.heap.size ≤ q) q := fun _ h => h
  have hbA : ¬ (fun q : Nat => s.heap.size ≤ q) b := Nat.not_le.mpr hbl
  refine lv_aload_n (pc := 438) hx hb dL_law_438 rfl (lv_at hl 1 rfl) ?_
  refine lv_aload_n (pc := 439) hx hb dL_law_439 rfl (lv_at hl 0 rfl) ?_
  refine lv_iload_n (pc := 440) hx hb dL_law_440 rfl (lv_at hl 3 rfl) ?_
  refine lv_iconst (v := 1) (pc := 441) hx hb dL_law_441 (by decide) ?_
  refine lv_iadd (pc := 442) hx hb dL_law_442 ?_
  refine va_sld (pc := 443) hx hb hX hbl hbA hS (lix1 hL hj) dL_law_443 ?_
  refine lv_aload_n (pc := 444) hx hb dL_law_444 rfl (lv_at hl 0 rfl) ?_
  refine lv_iload_n (pc := 445) hx hb dL_law_445 rfl (lv_at hl 3 rfl) ?_
  refine lv_iconst (v := 2) (pc := 446) hx hb dL_law_446 (by decide) ?_
  refine lv_iadd (pc := 447) hx hb dL_law_447 ?_
  refine va_sld (pc := 448) hx hb hX hbl hbA hS (lix2 hL hj) dL_law_448 ?_
  obtain ⟨r9, e1, e2⟩ := sim_sure (N := 3000) (by decide) hR ((xs (Int32.toNatClampNeg ((nI (6 * j)) + 1)))) ((xs (Int32.toNatClampNeg ((nI (6 * j)) + 2))))
  refine krI (g := g) (wc := (wd_7_6 g S7 S6)) (pc := 449) (As := [.int (xs (Int32.toNatClampNeg ((nI (6 * j)) + 1))), .int (xs (Int32.toNatClampNeg ((nI (6 * j)) + 2)))]) (rest := []) ⟨hx, hb, hml, hown, hts⟩ (c_X7_sure l g 3000 S7 S6 ((xs (Int32.toNatClampNeg ((nI (6 * j)) + 1)))) ((xs (Int32.toNatClampNeg ((nI (6 * j)) + 2)))) r9 e1) (cwV 2 hts gL_law_X7_sure rfl rfl rfl h_X7_sure ⟨Nat.le_of_ble_eq_true rfl, Nat.le_of_ble_eq_true rfl⟩) hK (hP.sub (ws' := (wd_7_6 g S7 S6)) [0, 1, 12, 13, 14] rfl) rfl rfl rfl hl.1 rfl (Nat.le_of_ble_eq_true rfl) dL_law_449 ⟨Nat.le_of_ble_eq_true rfl, Nat.le_of_ble_eq_true rfl⟩ ?_
  refine lv_aload_n (pc := 452) hx hb dL_law_452 rfl (lv_at hl 2 rfl) ?_
  refine lv_aload_n (pc := 453) hx hb dL_law_453 rfl (lv_at hl 0 rfl) ?_
  refine lv_iload_n (pc := 454) hx hb dL_law_454 rfl (lv_at hl 3 rfl) ?_
  refine lv_iconst (v := 1) (pc := 455) hx hb dL_law_455 (by decide) ?_
  refine lv_iadd (pc := 456) hx hb dL_law_456 ?_
  refine va_sld (pc := 457) hx hb hX hbl hbA hS (lix1 hL hj) dL_law_457 ?_
  refine lv_aload_n (pc := 458) hx hb dL_law_458 rfl (lv_at hl 0 rfl) ?_
  refine lv_iload_n (pc := 459) hx hb dL_law_459 rfl (lv_at hl 3 rfl) ?_
  refine lv_iconst (v := 2) (pc := 460) hx hb dL_law_460 (by decide) ?_
  refine lv_iadd (pc := 461) hx hb dL_law_461 ?_
  refine va_sld (pc := 462) hx hb hX hbl hbA hS (lix2 hL hj) dL_law_462 ?_
  refine krI (g := g) (wc := (wd_8 g S8)) (pc := 463) (As := [.int (xs (Int32.toNatClampNeg ((nI (6 * j)) + 1))), .int (xs (Int32.toNatClampNeg ((nI (6 * j)) + 2)))]) (rest := [.int r9]) ⟨hx, hb, hml, hown, hts⟩ (c_X8_sure l g 3000 S8 ((xs (Int32.toNatClampNeg ((nI (6 * j)) + 1)))) ((xs (Int32.toNatClampNeg ((nI (6 * j)) + 2)))) r9 e2) (cwV 2 hts gL_law_X8_sure rfl rfl rfl h_X8_sure ⟨Nat.le_of_ble_eq_true rfl, Nat.le_of_ble_eq_true rfl⟩) hK (hP.sub (ws' := (wd_8 g S8)) [42, 43, 44, 45, 46, 47, 48, 49, 50, 51, 52, 53, 54, 55, 56, 57, 58, 59, 60, 61, 62, 63, 64, 65, 66, 67, 68, 69, 70, 71, 72, 73] rfl) rfl rfl rfl hl.1 rfl (Nat.le_of_ble_eq_true rfl) dL_law_463 ⟨Nat.le_of_ble_eq_true rfl, Nat.le_of_ble_eq_true rfl⟩ ?_
  refine lv_icmp_eq (tgt := 1616) (pc := 466) hx hb dL_law_466 (by decide) (fun _ => ?_) (fun q => absurd rfl q)
  exact NX S7 S5 S6 S1 S2 S4 S3 S0 S8 H locs ls hR hP hD hS hl
set_option maxHeartbeats 8000000 in
set_option maxRecDepth 100000 in
theorem law_c_7 {p : Program} {l : Launch} {e : Env} {s : State} {m : MethodId} {below : List Frame} {meth : Method} {c : Code} {g : En} {b L j : Nat} {xs : Nat → Int32} (hL : L ≤ 3072) (C0 : lw_At p s m meth c b L xs) (hK : va_K g.1 vwCl (tyl g) s) (hj : 6 * j + 6 ≤ L) (NX : ∀ (S7 : St) (S5 : St) (S6 : St) (S1 : St) (S2 : St) (S4 : St) (S3 : St) (S0 : St) (S8 : St) (H : Heap) (locs : List Loc) (ls : Array Slot), Rel S7 S5 S6 S2 S4 S3 S0 S8 → va_P g.1 vwCl (wd_7_5_6_1_2_4_3_0_8 g S7 S5 S6 S1 S2 S4 S3 S0 S8) H → va_D (fun q : Nat => s.heap.size ≤ q) (wd_7_5_6_1_2_4_3_0_8 g S7 S5 S6 S1 S2 S4 S3 S0 S8) → va_S (fun q : Nat => s.heap.size ≤ q) s.heap H locs → lv_has ls 4 [(0, .ref b), (1, .ref (g.2.2.1 7)), (2, .ref (g.2.2.1 8)), (3, .int (nI (6 * j)))] → W p l e room_1 s m #[Value.ref b] below meth c H locs 74 3834 (lw_Z below #[Value.ref b] s) (F0 m 1616 ls [])) : ∀ (S7 : St) (S5 : St) (S6 : St) (S1 : St) (S2 : St) (S4 : St) (S3 : St) (S0 : St) (S8 : St) (H : Heap) (locs : List Loc) (ls : Array Slot), Rel S7 S5 S6 S2 S4 S3 S0 S8 → va_P g.1 vwCl (wd_7_5_6_1_2_4_3_0_8 g S7 S5 S6 S1 S2 S4 S3 S0 S8) H → va_D (fun q : Nat => s.heap.size ≤ q) (wd_7_5_6_1_2_4_3_0_8 g S7 S5 S6 S1 S2 S4 S3 S0 S8) → va_S (fun q : Nat => s.heap.size ≤ q) s.heap H locs → lv_has ls 4 [(0, .ref b), (1, .ref (g.2.2.1 7)), (2, .ref (g.2.2.1 8)), (3, .int (nI (6 * j)))] → W p l e room_1 s m #[Value.ref b] below meth c H locs 74 3834 (lw_Z below #[Value.ref b] s) (F0 m 471 ls []) := by
  intro S7 S5 S6 S1 S2 S4 S3 S0 S8 H locs ls hR hP hD hS hl
  obtain ⟨hx, hb, hr, hml, hown0, hts0, hX, hbl, hlocks, hgv⟩ := id C0
  have hown : s.vm.findClass RL = some m.cls := hown0
  have hts : ∀ w ∈ wsL_law, w.before #[Value.ref b] s = true := fun w h => hts0 w (wsL_law_in w h)
  have hA : ∀ q : Nat, s.heap.size ≤ q → (fun q : Nat => s.heap.size ≤ q) q := fun _ h => h
  have hbA : ¬ (fun q : Nat => s.heap.size ≤ q) b := Nat.not_le.mpr hbl
  refine lv_aload_n (pc := 471) hx hb dL_law_471 rfl (lv_at hl 1 rfl) ?_
  refine lv_aload_n (pc := 472) hx hb dL_law_472 rfl (lv_at hl 0 rfl) ?_
  refine lv_iload_n (pc := 473) hx hb dL_law_473 rfl (lv_at hl 3 rfl) ?_
  refine lv_iconst (v := 1) (pc := 474) hx hb dL_law_474 (by decide) ?_
  refine lv_iadd (pc := 475) hx hb dL_law_475 ?_
  refine va_sld (pc := 476) hx hb hX hbl hbA hS (lix1 hL hj) dL_law_476 ?_
  refine lv_aload_n (pc := 477) hx hb dL_law_477 rfl (lv_at hl 0 rfl) ?_
  refine lv_iload_n (pc := 478) hx hb dL_law_478 rfl (lv_at hl 3 rfl) ?_
  refine lv_iconst (v := 2) (pc := 479) hx hb dL_law_479 (by decide) ?_
  refine lv_iadd (pc := 480) hx hb dL_law_480 ?_
  refine va_sld (pc := 481) hx hb hX hbl hbA hS (lix2 hL hj) dL_law_481 ?_
  obtain ⟨r9, T5, T8, e1, e2, hR⟩ := sim_paint (N := 3000) (by decide) hR ((xs (Int32.toNatClampNeg ((nI (6 * j)) + 1)))) ((xs (Int32.toNatClampNeg ((nI (6 * j)) + 2))))
  refine kwI (g := g) (A := (fun q : Nat => s.heap.size ≤ q)) (W0 := (wd_7_5_6_1_2_4_3_0_8 g S7 S5 S6 S1 S2 S4 S3 S0 S8)) (wc := (wd_7_5 g S7 S5)) (wr := (wd_6_1_2_4_3_0_8 g S6 S1 S2 S4 S3 S0 S8)) (w1 := (wd_7_5 g S7 T5)) (W1 := (wd_7_5_6_1_2_4_3_0_8 g S7 T5 S6 S1 S2 S4 S3 S0 S8)) (pc := 482) (As := [.int (xs (Int32.toNatClampNeg ((nI (6 * j)) + 1))), .int (xs (Int32.toNatClampNeg ((nI (6 * j)) + 2)))]) (rest := []) ⟨hx, hb, hml, hown, hts⟩ hK hA hP hD hS (c_X7_paint l g 3000 H.size S7 S5 ((xs (Int32.toNatClampNeg ((nI (6 * j)) + 1)))) ((xs (Int32.toNatClampNeg ((nI (6 * j)) + 2)))) (r9, T5) e1) (cwV 2 hts gL_law_X7_paint rfl rfl rfl h_X7_paint ⟨Nat.le_of_ble_eq_true rfl, Nat.le_of_ble_eq_true rfl⟩) [0, 1, 2, 3, 4, 5, 6, 7, 8, 9, 10, 11] [12, 13, 14, 15, 16, 17, 18, 19, 20, 21, 22, 23, 24, 25, 26, 27, 28, 29, 30, 31, 32, 33, 34, 35, 36, 37, 38, 39, 40, 41, 42, 43, 44, 45, 46, 47, 48, 49, 50, 51, 52, 53, 54, 55, 56, 57, 58, 59, 60, 61, 62, 63, 64, 65, 66, 67, 68, 69, 70, 71, 72, 73] [62, 63, 64, 65, 66, 67, 68, 69, 70, 71, 72, 73, 0, 1, 2, 3, 4, 5, 6, 7, 8, 9, 10, 11, 12, 13, 14, 15, 16, 17, 18, 19, 20, 21, 22, 23, 24, 25, 26, 27, 28, 29, 30, 31, 32, 33, 34, 35, 36, 37, 38, 39, 40, 41, 42, 43, 44, 45, 46, 47, 48, 49, 50, 51, 52, 53, 54, 55, 56, 57, 58, 59, 60, 61] rfl rfl rfl rfl rfl (by decide) rfl rfl rfl rfl rfl rfl hl.1 rfl (Nat.le_of_ble_eq_true rfl) dL_law_482 ⟨Nat.le_of_ble_eq_true rfl, Nat.le_of_ble_eq_true rfl⟩ (fun H locs hP hD hS => ?_)
  refine lv_aload_n (pc := 485) hx hb dL_law_485 rfl (lv_at hl 2 rfl) ?_
  refine lv_aload_n (pc := 486) hx hb dL_law_486 rfl (lv_at hl 0 rfl) ?_
  refine lv_iload_n (pc := 487) hx hb dL_law_487 rfl (lv_at hl 3 rfl) ?_
  refine lv_iconst (v := 1) (pc := 488) hx hb dL_law_488 (by decide) ?_
  refine lv_iadd (pc := 489) hx hb dL_law_489 ?_
  refine va_sld (pc := 490) hx hb hX hbl hbA hS (lix1 hL hj) dL_law_490 ?_
  refine lv_aload_n (pc := 491) hx hb dL_law_491 rfl (lv_at hl 0 rfl) ?_
  refine lv_iload_n (pc := 492) hx hb dL_law_492 rfl (lv_at hl 3 rfl) ?_
  refine lv_iconst (v := 2) (pc := 493) hx hb dL_law_493 (by decide) ?_
  refine lv_iadd (pc := 494) hx hb dL_law_494 ?_
  refine va_sld (pc := 495) hx hb hX hbl hbA hS (lix2 hL hj) dL_law_495 ?_
  refine kwI (g := g) (A := (fun q : Nat => s.heap.size ≤ q)) (W0 := (wd_7_5_6_1_2_4_3_0_8 g S7 T5 S6 S1 S2 S4 S3 S0 S8)) (wc := (wd_8 g S8)) (wr := (wd_7_5_6_1_2_4_3_0 g S7 T5 S6 S1 S2 S4 S3 S0)) (w1 := (wd_8 g T8)) (W1 := (wd_7_5_6_1_2_4_3_0_8 g S7 T5 S6 S1 S2 S4 S3 S0 T8)) (pc := 496) (As := [.int (xs (Int32.toNatClampNeg ((nI (6 * j)) + 1))), .int (xs (Int32.toNatClampNeg ((nI (6 * j)) + 2)))]) (rest := [.int r9]) ⟨hx, hb, hml, hown, hts⟩ hK hA hP hD hS (c_X8_paint l g 3000 H.size S8 ((xs (Int32.toNatClampNeg ((nI (6 * j)) + 1)))) ((xs (Int32.toNatClampNeg ((nI (6 * j)) + 2)))) (r9, T8) e2) (cwV 2 hts gL_law_X8_paint rfl rfl rfl h_X8_paint ⟨Nat.le_of_ble_eq_true rfl, Nat.le_of_ble_eq_true rfl⟩) [42, 43, 44, 45, 46, 47, 48, 49, 50, 51, 52, 53, 54, 55, 56, 57, 58, 59, 60, 61, 62, 63, 64, 65, 66, 67, 68, 69, 70, 71, 72, 73] [0, 1, 2, 3, 4, 5, 6, 7, 8, 9, 10, 11, 12, 13, 14, 15, 16, 17, 18, 19, 20, 21, 22, 23, 24, 25, 26, 27, 28, 29, 30, 31, 32, 33, 34, 35, 36, 37, 38, 39, 40, 41] [0, 1, 2, 3, 4, 5, 6, 7, 8, 9, 10, 11, 12, 13, 14, 15, 16, 17, 18, 19, 20, 21, 22, 23, 24, 25, 26, 27, 28, 29, 30, 31, 32, 33, 34, 35, 36, 37, 38, 39, 40, 41, 42, 43, 44, 45, 46, 47, 48, 49, 50, 51, 52, 53, 54, 55, 56, 57, 58, 59, 60, 61, 62, 63, 64, 65, 66, 67, 68, 69, 70, 71, 72, 73] rfl rfl rfl rfl rfl (by decide) rfl rfl rfl rfl rfl rfl hl.1 rfl (Nat.le_of_ble_eq_true rfl) dL_law_496 ⟨Nat.le_of_ble_eq_true rfl, Nat.le_of_ble_eq_true rfl⟩ (fun H locs hP hD hS => ?_)
  refine lv_icmp_eq (tgt := 1616) (pc := 499) hx hb dL_law_499 (by decide) (fun _ => ?_) (fun q => absurd rfl q)
  exact NX S7 T5 S6 S1 S2 S4 S3 S0 T8 H locs ls hR hP hD hS hl
set_option maxHeartbeats 8000000 in
set_option maxRecDepth 100000 in
theorem law_c_8 {p : Program} {l : Launch} {e : Env} {s : State} {m : MethodId} {below : List Frame} {meth : Method} {c : Code} {g : En} {b L j : Nat} {xs : Nat → Int32} (hL : L ≤ 3072) (C0 : lw_At p s m meth c b L xs) (hK : va_K g.1 vwCl (tyl g) s) (hj : 6 * j + 6 ≤ L) (NX : ∀ (S7 : St) (S5 : St) (S6 : St) (S1 : St) (S2 : St) (S4 : St) (S3 : St) (S0 : St) (S8 : St) (H : Heap) (locs : List Loc) (ls : Array Slot), Rel S7 S5 S6 S2 S4 S3 S0 S8 → va_P g.1 vwCl (wd_7_5_6_1_2_4_3_0_8 g S7 S5 S6 S1 S2 S4 S3 S0 S8) H → va_D (fun q : Nat => s.heap.size ≤ q) (wd_7_5_6_1_2_4_3_0_8 g S7 S5 S6 S1 S2 S4 S3 S0 S8) → va_S (fun q : Nat => s.heap.size ≤ q) s.heap H locs → lv_has ls 4 [(0, .ref b), (1, .ref (g.2.2.1 7)), (2, .ref (g.2.2.1 8)), (3, .int (nI (6 * j)))] → W p l e room_1 s m #[Value.ref b] below meth c H locs 74 3834 (lw_Z below #[Value.ref b] s) (F0 m 1616 ls [])) : ∀ (S7 : St) (S5 : St) (S6 : St) (S1 : St) (S2 : St) (S4 : St) (S3 : St) (S0 : St) (S8 : St) (H : Heap) (locs : List Loc) (ls : Array Slot), Rel S7 S5 S6 S2 S4 S3 S0 S8 → va_P g.1 vwCl (wd_7_5_6_1_2_4_3_0_8 g S7 S5 S6 S1 S2 S4 S3 S0 S8) H → va_D (fun q : Nat => s.heap.size ≤ q) (wd_7_5_6_1_2_4_3_0_8 g S7 S5 S6 S1 S2 S4 S3 S0 S8) → va_S (fun q : Nat => s.heap.size ≤ q) s.heap H locs → lv_has ls 4 [(0, .ref b), (1, .ref (g.2.2.1 7)), (2, .ref (g.2.2.1 8)), (3, .int (nI (6 * j)))] → W p l e room_1 s m #[Value.ref b] below meth c H locs 74 3834 (lw_Z below #[Value.ref b] s) (F0 m 504 ls []) := by
  intro S7 S5 S6 S1 S2 S4 S3 S0 S8 H locs ls hR hP hD hS hl
  obtain ⟨hx, hb, hr, hml, hown0, hts0, hX, hbl, hlocks, hgv⟩ := id C0
  have hown : s.vm.findClass RL = some m.cls := hown0
  have hts : ∀ w ∈ wsL_law, w.before #[Value.ref b] s = true := fun w h => hts0 w (wsL_law_in w h)
  have hA : ∀ q : Nat, s.heap.size ≤ q → (fun q : Nat => s.heap.size ≤ q) q := fun _ h => h
  have hbA : ¬ (fun q : Nat => s.heap.size ≤ q) b := Nat.not_le.mpr hbl
  refine lv_aload_n (pc := 504) hx hb dL_law_504 rfl (lv_at hl 1 rfl) ?_
  refine lv_aload_n (pc := 505) hx hb dL_law_505 rfl (lv_at hl 0 rfl) ?_
  refine lv_iload_n (pc := 506) hx hb dL_law_506 rfl (lv_at hl 3 rfl) ?_
  refine lv_iconst (v := 1) (pc := 507) hx hb dL_law_507 (by decide) ?_
  refine lv_iadd (pc := 508) hx hb dL_law_508 ?_
  refine va_sld (pc := 509) hx hb hX hbl hbA hS (lix1 hL hj) dL_law_509 ?_
  refine lv_aload_n (pc := 510) hx hb dL_law_510 rfl (lv_at hl 0 rfl) ?_
  refine lv_iload_n (pc := 511) hx hb dL_law_511 rfl (lv_at hl 3 rfl) ?_
  refine lv_iconst (v := 2) (pc := 512) hx hb dL_law_512 (by decide) ?_
  refine lv_iadd (pc := 513) hx hb dL_law_513 ?_
  refine va_sld (pc := 514) hx hb hX hbl hbA hS (lix2 hL hj) dL_law_514 ?_
  refine lv_aload_n (pc := 515) hx hb dL_law_515 rfl (lv_at hl 0 rfl) ?_
  refine lv_iload_n (pc := 516) hx hb dL_law_516 rfl (lv_at hl 3 rfl) ?_
  refine lv_iconst (v := 3) (pc := 517) hx hb dL_law_517 (by decide) ?_
  refine lv_iadd (pc := 518) hx hb dL_law_518 ?_
  refine va_sld (pc := 519) hx hb hX hbl hbA hS (lix3 hL hj) dL_law_519 ?_
  obtain ⟨r9, T5, T8, e1, e2, hR⟩ := sim_sap (N := 3000) (by decide) hR ((xs (Int32.toNatClampNeg ((nI (6 * j)) + 1)))) ((xs (Int32.toNatClampNeg ((nI (6 * j)) + 2)))) ((xs (Int32.toNatClampNeg ((nI (6 * j)) + 3))))
  refine kwI (g := g) (A := (fun q : Nat => s.heap.size ≤ q)) (W0 := (wd_7_5_6_1_2_4_3_0_8 g S7 S5 S6 S1 S2 S4 S3 S0 S8)) (wc := (wd_7_5 g S7 S5)) (wr := (wd_6_1_2_4_3_0_8 g S6 S1 S2 S4 S3 S0 S8)) (w1 := (wd_7_5 g S7 T5)) (W1 := (wd_7_5_6_1_2_4_3_0_8 g S7 T5 S6 S1 S2 S4 S3 S0 S8)) (pc := 520) (As := [.int (xs (Int32.toNatClampNeg ((nI (6 * j)) + 1))), .int (xs (Int32.toNatClampNeg ((nI (6 * j)) + 2))), .int (xs (Int32.toNatClampNeg ((nI (6 * j)) + 3)))]) (rest := []) ⟨hx, hb, hml, hown, hts⟩ hK hA hP hD hS (c_X7_sap l g 3000 H.size S7 S5 ((xs (Int32.toNatClampNeg ((nI (6 * j)) + 1)))) ((xs (Int32.toNatClampNeg ((nI (6 * j)) + 2)))) ((xs (Int32.toNatClampNeg ((nI (6 * j)) + 3)))) (r9, T5) e1) (cwV 3 hts gL_law_X7_sap rfl rfl rfl h_X7_sap ⟨Nat.le_of_ble_eq_true rfl, Nat.le_of_ble_eq_true rfl⟩) [0, 1, 2, 3, 4, 5, 6, 7, 8, 9, 10, 11] [12, 13, 14, 15, 16, 17, 18, 19, 20, 21, 22, 23, 24, 25, 26, 27, 28, 29, 30, 31, 32, 33, 34, 35, 36, 37, 38, 39, 40, 41, 42, 43, 44, 45, 46, 47, 48, 49, 50, 51, 52, 53, 54, 55, 56, 57, 58, 59, 60, 61, 62, 63, 64, 65, 66, 67, 68, 69, 70, 71, 72, 73] [62, 63, 64, 65, 66, 67, 68, 69, 70, 71, 72, 73, 0, 1, 2, 3, 4, 5, 6, 7, 8, 9, 10, 11, 12, 13, 14, 15, 16, 17, 18, 19, 20, 21, 22, 23, 24, 25, 26, 27, 28, 29, 30, 31, 32, 33, 34, 35, 36, 37, 38, 39, 40, 41, 42, 43, 44, 45, 46, 47, 48, 49, 50, 51, 52, 53, 54, 55, 56, 57, 58, 59, 60, 61] rfl rfl rfl rfl rfl (by decide) rfl rfl rfl rfl rfl rfl hl.1 rfl (Nat.le_of_ble_eq_true rfl) dL_law_520 ⟨Nat.le_of_ble_eq_true rfl, Nat.le_of_ble_eq_true rfl⟩ (fun H locs hP hD hS => ?_)
  refine lv_aload_n (pc := 523) hx hb dL_law_523 rfl (lv_at hl 2 rfl) ?_
  refine lv_aload_n (pc := 524) hx hb dL_law_524 rfl (lv_at hl 0 rfl) ?_
  refine lv_iload_n (pc := 525) hx hb dL_law_525 rfl (lv_at hl 3 rfl) ?_
  refine lv_iconst (v := 1) (pc := 526) hx hb dL_law_526 (by decide) ?_
  refine lv_iadd (pc := 527) hx hb dL_law_527 ?_
  refine va_sld (pc := 528) hx hb hX hbl hbA hS (lix1 hL hj) dL_law_528 ?_
  refine lv_aload_n (pc := 529) hx hb dL_law_529 rfl (lv_at hl 0 rfl) ?_
  refine lv_iload_n (pc := 530) hx hb dL_law_530 rfl (lv_at hl 3 rfl) ?_
  refine lv_iconst (v := 2) (pc := 531) hx hb dL_law_531 (by decide) ?_
  refine lv_iadd (pc := 532) hx hb dL_law_532 ?_
  refine va_sld (pc := 533) hx hb hX hbl hbA hS (lix2 hL hj) dL_law_533 ?_
  refine lv_aload_n (pc := 534) hx hb dL_law_534 rfl (lv_at hl 0 rfl) ?_
  refine lv_iload_n (pc := 535) hx hb dL_law_535 rfl (lv_at hl 3 rfl) ?_
  refine lv_iconst (v := 3) (pc := 536) hx hb dL_law_536 (by decide) ?_
  refine lv_iadd (pc := 537) hx hb dL_law_537 ?_
  refine va_sld (pc := 538) hx hb hX hbl hbA hS (lix3 hL hj) dL_law_538 ?_
  refine kwI (g := g) (A := (fun q : Nat => s.heap.size ≤ q)) (W0 := (wd_7_5_6_1_2_4_3_0_8 g S7 T5 S6 S1 S2 S4 S3 S0 S8)) (wc := (wd_8 g S8)) (wr := (wd_7_5_6_1_2_4_3_0 g S7 T5 S6 S1 S2 S4 S3 S0)) (w1 := (wd_8 g T8)) (W1 := (wd_7_5_6_1_2_4_3_0_8 g S7 T5 S6 S1 S2 S4 S3 S0 T8)) (pc := 539) (As := [.int (xs (Int32.toNatClampNeg ((nI (6 * j)) + 1))), .int (xs (Int32.toNatClampNeg ((nI (6 * j)) + 2))), .int (xs (Int32.toNatClampNeg ((nI (6 * j)) + 3)))]) (rest := [.int r9]) ⟨hx, hb, hml, hown, hts⟩ hK hA hP hD hS (c_X8_sap l g 3000 H.size S8 ((xs (Int32.toNatClampNeg ((nI (6 * j)) + 1)))) ((xs (Int32.toNatClampNeg ((nI (6 * j)) + 2)))) ((xs (Int32.toNatClampNeg ((nI (6 * j)) + 3)))) (r9, T8) e2) (cwV 3 hts gL_law_X8_sap rfl rfl rfl h_X8_sap ⟨Nat.le_of_ble_eq_true rfl, Nat.le_of_ble_eq_true rfl⟩) [42, 43, 44, 45, 46, 47, 48, 49, 50, 51, 52, 53, 54, 55, 56, 57, 58, 59, 60, 61, 62, 63, 64, 65, 66, 67, 68, 69, 70, 71, 72, 73] [0, 1, 2, 3, 4, 5, 6, 7, 8, 9, 10, 11, 12, 13, 14, 15, 16, 17, 18, 19, 20, 21, 22, 23, 24, 25, 26, 27, 28, 29, 30, 31, 32, 33, 34, 35, 36, 37, 38, 39, 40, 41] [0, 1, 2, 3, 4, 5, 6, 7, 8, 9, 10, 11, 12, 13, 14, 15, 16, 17, 18, 19, 20, 21, 22, 23, 24, 25, 26, 27, 28, 29, 30, 31, 32, 33, 34, 35, 36, 37, 38, 39, 40, 41, 42, 43, 44, 45, 46, 47, 48, 49, 50, 51, 52, 53, 54, 55, 56, 57, 58, 59, 60, 61, 62, 63, 64, 65, 66, 67, 68, 69, 70, 71, 72, 73] rfl rfl rfl rfl rfl (by decide) rfl rfl rfl rfl rfl rfl hl.1 rfl (Nat.le_of_ble_eq_true rfl) dL_law_539 ⟨Nat.le_of_ble_eq_true rfl, Nat.le_of_ble_eq_true rfl⟩ (fun H locs hP hD hS => ?_)
  refine lv_icmp_eq (tgt := 1616) (pc := 542) hx hb dL_law_542 (by decide) (fun _ => ?_) (fun q => absurd rfl q)
  exact NX S7 T5 S6 S1 S2 S4 S3 S0 T8 H locs ls hR hP hD hS hl
set_option maxHeartbeats 8000000 in
set_option maxRecDepth 100000 in
theorem law_c_9 {p : Program} {l : Launch} {e : Env} {s : State} {m : MethodId} {below : List Frame} {meth : Method} {c : Code} {g : En} {b L j : Nat} {xs : Nat → Int32} (hL : L ≤ 3072) (C0 : lw_At p s m meth c b L xs) (hK : va_K g.1 vwCl (tyl g) s) (hj : 6 * j + 6 ≤ L) (NX : ∀ (S7 : St) (S5 : St) (S6 : St) (S1 : St) (S2 : St) (S4 : St) (S3 : St) (S0 : St) (S8 : St) (H : Heap) (locs : List Loc) (ls : Array Slot), Rel S7 S5 S6 S2 S4 S3 S0 S8 → va_P g.1 vwCl (wd_7_5_6_1_2_4_3_0_8 g S7 S5 S6 S1 S2 S4 S3 S0 S8) H → va_D (fun q : Nat => s.heap.size ≤ q) (wd_7_5_6_1_2_4_3_0_8 g S7 S5 S6 S1 S2 S4 S3 S0 S8) → va_S (fun q : Nat => s.heap.size ≤ q) s.heap H locs → lv_has ls 4 [(0, .ref b), (1, .ref (g.2.2.1 7)), (2, .ref (g.2.2.1 8)), (3, .int (nI (6 * j)))] → W p l e room_1 s m #[Value.ref b] below meth c H locs 74 3834 (lw_Z below #[Value.ref b] s) (F0 m 1616 ls [])) : ∀ (S7 : St) (S5 : St) (S6 : St) (S1 : St) (S2 : St) (S4 : St) (S3 : St) (S0 : St) (S8 : St) (H : Heap) (locs : List Loc) (ls : Array Slot), Rel S7 S5 S6 S2 S4 S3 S0 S8 → va_P g.1 vwCl (wd_7_5_6_1_2_4_3_0_8 g S7 S5 S6 S1 S2 S4 S3 S0 S8) H → va_D (fun q : Nat => s.heap.size ≤ q) (wd_7_5_6_1_2_4_3_0_8 g S7 S5 S6 S1 S2 S4 S3 S0 S8) → va_S (fun q : Nat => s.heap.size ≤ q) s.heap H locs → lv_has ls 4 [(0, .ref b), (1, .ref (g.2.2.1 7)), (2, .ref (g.2.2.1 8)), (3, .int (nI (6 * j)))] → W p l e room_1 s m #[Value.ref b] below meth c H locs 74 3834 (lw_Z below #[Value.ref b] s) (F0 m 547 ls []) := by
  intro S7 S5 S6 S1 S2 S4 S3 S0 S8 H locs ls hR hP hD hS hl
  obtain ⟨hx, hb, hr, hml, hown0, hts0, hX, hbl, hlocks, hgv⟩ := id C0
  have hown : s.vm.findClass RL = some m.cls := hown0
  have hts : ∀ w ∈ wsL_law, w.before #[Value.ref b] s = true := fun w h => hts0 w (wsL_law_in w h)
  have hA : ∀ q : Nat, s.heap.size ≤ q → (fun q : Nat => s.heap.size ≤ q) q := fun _ h => h
  have hbA : ¬ (fun q : Nat => s.heap.size ≤ q) b := Nat.not_le.mpr hbl
  refine lv_aload_n (pc := 547) hx hb dL_law_547 rfl (lv_at hl 1 rfl) ?_
  refine lv_aload_n (pc := 548) hx hb dL_law_548 rfl (lv_at hl 0 rfl) ?_
  refine lv_iload_n (pc := 549) hx hb dL_law_549 rfl (lv_at hl 3 rfl) ?_
  refine lv_iconst (v := 1) (pc := 550) hx hb dL_law_550 (by decide) ?_
  refine lv_iadd (pc := 551) hx hb dL_law_551 ?_
  refine va_sld (pc := 552) hx hb hX hbl hbA hS (lix1 hL hj) dL_law_552 ?_
  refine lv_aload_n (pc := 553) hx hb dL_law_553 rfl (lv_at hl 0 rfl) ?_
  refine lv_iload_n (pc := 554) hx hb dL_law_554 rfl (lv_at hl 3 rfl) ?_
  refine lv_iconst (v := 2) (pc := 555) hx hb dL_law_555 (by decide) ?_
  refine lv_iadd (pc := 556) hx hb dL_law_556 ?_
  refine va_sld (pc := 557) hx hb hX hbl hbA hS (lix2 hL hj) dL_law_557 ?_
  refine lv_aload_n (pc := 558) hx hb dL_law_558 rfl (lv_at hl 0 rfl) ?_
  refine lv_iload_n (pc := 559) hx hb dL_law_559 rfl (lv_at hl 3 rfl) ?_
  refine lv_iconst (v := 3) (pc := 560) hx hb dL_law_560 (by decide) ?_
  refine lv_iadd (pc := 561) hx hb dL_law_561 ?_
  refine va_sld (pc := 562) hx hb hX hbl hbA hS (lix3 hL hj) dL_law_562 ?_
  obtain ⟨r9, T5, T8, e1, e2, hR⟩ := sim_proof (N := 3000) (by decide) hR ((xs (Int32.toNatClampNeg ((nI (6 * j)) + 1)))) ((xs (Int32.toNatClampNeg ((nI (6 * j)) + 2)))) ((xs (Int32.toNatClampNeg ((nI (6 * j)) + 3))))
  refine kwI (g := g) (A := (fun q : Nat => s.heap.size ≤ q)) (W0 := (wd_7_5_6_1_2_4_3_0_8 g S7 S5 S6 S1 S2 S4 S3 S0 S8)) (wc := (wd_7_5 g S7 S5)) (wr := (wd_6_1_2_4_3_0_8 g S6 S1 S2 S4 S3 S0 S8)) (w1 := (wd_7_5 g S7 T5)) (W1 := (wd_7_5_6_1_2_4_3_0_8 g S7 T5 S6 S1 S2 S4 S3 S0 S8)) (pc := 563) (As := [.int (xs (Int32.toNatClampNeg ((nI (6 * j)) + 1))), .int (xs (Int32.toNatClampNeg ((nI (6 * j)) + 2))), .int (xs (Int32.toNatClampNeg ((nI (6 * j)) + 3)))]) (rest := []) ⟨hx, hb, hml, hown, hts⟩ hK hA hP hD hS (c_X7_proof l g 3000 H.size S7 S5 ((xs (Int32.toNatClampNeg ((nI (6 * j)) + 1)))) ((xs (Int32.toNatClampNeg ((nI (6 * j)) + 2)))) ((xs (Int32.toNatClampNeg ((nI (6 * j)) + 3)))) (r9, T5) e1) (cwV 3 hts gL_law_X7_proof rfl rfl rfl h_X7_proof ⟨Nat.le_of_ble_eq_true rfl, Nat.le_of_ble_eq_true rfl⟩) [0, 1, 2, 3, 4, 5, 6, 7, 8, 9, 10, 11] [12, 13, 14, 15, 16, 17, 18, 19, 20, 21, 22, 23, 24, 25, 26, 27, 28, 29, 30, 31, 32, 33, 34, 35, 36, 37, 38, 39, 40, 41, 42, 43, 44, 45, 46, 47, 48, 49, 50, 51, 52, 53, 54, 55, 56, 57, 58, 59, 60, 61, 62, 63, 64, 65, 66, 67, 68, 69, 70, 71, 72, 73] [62, 63, 64, 65, 66, 67, 68, 69, 70, 71, 72, 73, 0, 1, 2, 3, 4, 5, 6, 7, 8, 9, 10, 11, 12, 13, 14, 15, 16, 17, 18, 19, 20, 21, 22, 23, 24, 25, 26, 27, 28, 29, 30, 31, 32, 33, 34, 35, 36, 37, 38, 39, 40, 41, 42, 43, 44, 45, 46, 47, 48, 49, 50, 51, 52, 53, 54, 55, 56, 57, 58, 59, 60, 61] rfl rfl rfl rfl rfl (by decide) rfl rfl rfl rfl rfl rfl hl.1 rfl (Nat.le_of_ble_eq_true rfl) dL_law_563 ⟨Nat.le_of_ble_eq_true rfl, Nat.le_of_ble_eq_true rfl⟩ (fun H locs hP hD hS => ?_)
  refine lv_aload_n (pc := 566) hx hb dL_law_566 rfl (lv_at hl 2 rfl) ?_
  refine lv_aload_n (pc := 567) hx hb dL_law_567 rfl (lv_at hl 0 rfl) ?_
  refine lv_iload_n (pc := 568) hx hb dL_law_568 rfl (lv_at hl 3 rfl) ?_
  refine lv_iconst (v := 1) (pc := 569) hx hb dL_law_569 (by decide) ?_
  refine lv_iadd (pc := 570) hx hb dL_law_570 ?_
  refine va_sld (pc := 571) hx hb hX hbl hbA hS (lix1 hL hj) dL_law_571 ?_
  refine lv_aload_n (pc := 572) hx hb dL_law_572 rfl (lv_at hl 0 rfl) ?_
  refine lv_iload_n (pc := 573) hx hb dL_law_573 rfl (lv_at hl 3 rfl) ?_
  refine lv_iconst (v := 2) (pc := 574) hx hb dL_law_574 (by decide) ?_
  refine lv_iadd (pc := 575) hx hb dL_law_575 ?_
  refine va_sld (pc := 576) hx hb hX hbl hbA hS (lix2 hL hj) dL_law_576 ?_
  refine lv_aload_n (pc := 577) hx hb dL_law_577 rfl (lv_at hl 0 rfl) ?_
  refine lv_iload_n (pc := 578) hx hb dL_law_578 rfl (lv_at hl 3 rfl) ?_
  refine lv_iconst (v := 3) (pc := 579) hx hb dL_law_579 (by decide) ?_
  refine lv_iadd (pc := 580) hx hb dL_law_580 ?_
  refine va_sld (pc := 581) hx hb hX hbl hbA hS (lix3 hL hj) dL_law_581 ?_
  refine kwI (g := g) (A := (fun q : Nat => s.heap.size ≤ q)) (W0 := (wd_7_5_6_1_2_4_3_0_8 g S7 T5 S6 S1 S2 S4 S3 S0 S8)) (wc := (wd_8 g S8)) (wr := (wd_7_5_6_1_2_4_3_0 g S7 T5 S6 S1 S2 S4 S3 S0)) (w1 := (wd_8 g T8)) (W1 := (wd_7_5_6_1_2_4_3_0_8 g S7 T5 S6 S1 S2 S4 S3 S0 T8)) (pc := 582) (As := [.int (xs (Int32.toNatClampNeg ((nI (6 * j)) + 1))), .int (xs (Int32.toNatClampNeg ((nI (6 * j)) + 2))), .int (xs (Int32.toNatClampNeg ((nI (6 * j)) + 3)))]) (rest := [.int r9]) ⟨hx, hb, hml, hown, hts⟩ hK hA hP hD hS (c_X8_proof l g 3000 H.size S8 ((xs (Int32.toNatClampNeg ((nI (6 * j)) + 1)))) ((xs (Int32.toNatClampNeg ((nI (6 * j)) + 2)))) ((xs (Int32.toNatClampNeg ((nI (6 * j)) + 3)))) (r9, T8) e2) (cwV 3 hts gL_law_X8_proof rfl rfl rfl h_X8_proof ⟨Nat.le_of_ble_eq_true rfl, Nat.le_of_ble_eq_true rfl⟩) [42, 43, 44, 45, 46, 47, 48, 49, 50, 51, 52, 53, 54, 55, 56, 57, 58, 59, 60, 61, 62, 63, 64, 65, 66, 67, 68, 69, 70, 71, 72, 73] [0, 1, 2, 3, 4, 5, 6, 7, 8, 9, 10, 11, 12, 13, 14, 15, 16, 17, 18, 19, 20, 21, 22, 23, 24, 25, 26, 27, 28, 29, 30, 31, 32, 33, 34, 35, 36, 37, 38, 39, 40, 41] [0, 1, 2, 3, 4, 5, 6, 7, 8, 9, 10, 11, 12, 13, 14, 15, 16, 17, 18, 19, 20, 21, 22, 23, 24, 25, 26, 27, 28, 29, 30, 31, 32, 33, 34, 35, 36, 37, 38, 39, 40, 41, 42, 43, 44, 45, 46, 47, 48, 49, 50, 51, 52, 53, 54, 55, 56, 57, 58, 59, 60, 61, 62, 63, 64, 65, 66, 67, 68, 69, 70, 71, 72, 73] rfl rfl rfl rfl rfl (by decide) rfl rfl rfl rfl rfl rfl hl.1 rfl (Nat.le_of_ble_eq_true rfl) dL_law_582 ⟨Nat.le_of_ble_eq_true rfl, Nat.le_of_ble_eq_true rfl⟩ (fun H locs hP hD hS => ?_)
  refine lv_icmp_eq (tgt := 1616) (pc := 585) hx hb dL_law_585 (by decide) (fun _ => ?_) (fun q => absurd rfl q)
  exact NX S7 T5 S6 S1 S2 S4 S3 S0 T8 H locs ls hR hP hD hS hl
set_option maxHeartbeats 8000000 in
set_option maxRecDepth 100000 in
theorem law_c_10 {p : Program} {l : Launch} {e : Env} {s : State} {m : MethodId} {below : List Frame} {meth : Method} {c : Code} {g : En} {b L j : Nat} {xs : Nat → Int32} (hL : L ≤ 3072) (C0 : lw_At p s m meth c b L xs) (hK : va_K g.1 vwCl (tyl g) s) (hj : 6 * j + 6 ≤ L) (NX : ∀ (S7 : St) (S5 : St) (S6 : St) (S1 : St) (S2 : St) (S4 : St) (S3 : St) (S0 : St) (S8 : St) (H : Heap) (locs : List Loc) (ls : Array Slot), Rel S7 S5 S6 S2 S4 S3 S0 S8 → va_P g.1 vwCl (wd_7_5_6_1_2_4_3_0_8 g S7 S5 S6 S1 S2 S4 S3 S0 S8) H → va_D (fun q : Nat => s.heap.size ≤ q) (wd_7_5_6_1_2_4_3_0_8 g S7 S5 S6 S1 S2 S4 S3 S0 S8) → va_S (fun q : Nat => s.heap.size ≤ q) s.heap H locs → lv_has ls 4 [(0, .ref b), (1, .ref (g.2.2.1 7)), (2, .ref (g.2.2.1 8)), (3, .int (nI (6 * j)))] → W p l e room_1 s m #[Value.ref b] below meth c H locs 74 3834 (lw_Z below #[Value.ref b] s) (F0 m 1616 ls [])) : ∀ (S7 : St) (S5 : St) (S6 : St) (S1 : St) (S2 : St) (S4 : St) (S3 : St) (S0 : St) (S8 : St) (H : Heap) (locs : List Loc) (ls : Array Slot), Rel S7 S5 S6 S2 S4 S3 S0 S8 → va_P g.1 vwCl (wd_7_5_6_1_2_4_3_0_8 g S7 S5 S6 S1 S2 S4 S3 S0 S8) H → va_D (fun q : Nat => s.heap.size ≤ q) (wd_7_5_6_1_2_4_3_0_8 g S7 S5 S6 S1 S2 S4 S3 S0 S8) → va_S (fun q : Nat => s.heap.size ≤ q) s.heap H locs → lv_has ls 4 [(0, .ref b), (1, .ref (g.2.2.1 7)), (2, .ref (g.2.2.1 8)), (3, .int (nI (6 * j)))] → W p l e room_1 s m #[Value.ref b] below meth c H locs 74 3834 (lw_Z below #[Value.ref b] s) (F0 m 590 ls []) := by
  intro S7 S5 S6 S1 S2 S4 S3 S0 S8 H locs ls hR hP hD hS hl
  obtain ⟨hx, hb, hr, hml, hown0, hts0, hX, hbl, hlocks, hgv⟩ := id C0
  have hown : s.vm.findClass RL = some m.cls := hown0
  have hts : ∀ w ∈ wsL_law, w.before #[Value.ref b] s = true := fun w h => hts0 w (wsL_law_in w h)
  have hA : ∀ q : Nat, s.heap.size ≤ q → (fun q : Nat => s.heap.size ≤ q) q := fun _ h => h
  have hbA : ¬ (fun q : Nat => s.heap.size ≤ q) b := Nat.not_le.mpr hbl
  refine lv_aload_n (pc := 590) hx hb dL_law_590 rfl (lv_at hl 1 rfl) ?_
  refine lv_aload_n (pc := 591) hx hb dL_law_591 rfl (lv_at hl 0 rfl) ?_
  refine lv_iload_n (pc := 592) hx hb dL_law_592 rfl (lv_at hl 3 rfl) ?_
  refine lv_iconst (v := 1) (pc := 593) hx hb dL_law_593 (by decide) ?_
  refine lv_iadd (pc := 594) hx hb dL_law_594 ?_
  refine va_sld (pc := 595) hx hb hX hbl hbA hS (lix1 hL hj) dL_law_595 ?_
  refine lv_aload_n (pc := 596) hx hb dL_law_596 rfl (lv_at hl 0 rfl) ?_
  refine lv_iload_n (pc := 597) hx hb dL_law_597 rfl (lv_at hl 3 rfl) ?_
  refine lv_iconst (v := 2) (pc := 598) hx hb dL_law_598 (by decide) ?_
  refine lv_iadd (pc := 599) hx hb dL_law_599 ?_
  refine va_sld (pc := 600) hx hb hX hbl hbA hS (lix2 hL hj) dL_law_600 ?_
  obtain ⟨r9, T5, T8, e1, e2, hR⟩ := sim_found (N := 3000) (by decide) hR ((xs (Int32.toNatClampNeg ((nI (6 * j)) + 1)))) ((xs (Int32.toNatClampNeg ((nI (6 * j)) + 2))))
  refine kwI (g := g) (A := (fun q : Nat => s.heap.size ≤ q)) (W0 := (wd_7_5_6_1_2_4_3_0_8 g S7 S5 S6 S1 S2 S4 S3 S0 S8)) (wc := (wd_7_5 g S7 S5)) (wr := (wd_6_1_2_4_3_0_8 g S6 S1 S2 S4 S3 S0 S8)) (w1 := (wd_7_5 g S7 T5)) (W1 := (wd_7_5_6_1_2_4_3_0_8 g S7 T5 S6 S1 S2 S4 S3 S0 S8)) (pc := 601) (As := [.int (xs (Int32.toNatClampNeg ((nI (6 * j)) + 1))), .int (xs (Int32.toNatClampNeg ((nI (6 * j)) + 2)))]) (rest := []) ⟨hx, hb, hml, hown, hts⟩ hK hA hP hD hS (c_X7_found l g 3000 H.size S7 S5 ((xs (Int32.toNatClampNeg ((nI (6 * j)) + 1)))) ((xs (Int32.toNatClampNeg ((nI (6 * j)) + 2)))) (r9, T5) e1) (cwV 2 hts gL_law_X7_found rfl rfl rfl h_X7_found ⟨Nat.le_of_ble_eq_true rfl, Nat.le_of_ble_eq_true rfl⟩) [0, 1, 2, 3, 4, 5, 6, 7, 8, 9, 10, 11] [12, 13, 14, 15, 16, 17, 18, 19, 20, 21, 22, 23, 24, 25, 26, 27, 28, 29, 30, 31, 32, 33, 34, 35, 36, 37, 38, 39, 40, 41, 42, 43, 44, 45, 46, 47, 48, 49, 50, 51, 52, 53, 54, 55, 56, 57, 58, 59, 60, 61, 62, 63, 64, 65, 66, 67, 68, 69, 70, 71, 72, 73] [62, 63, 64, 65, 66, 67, 68, 69, 70, 71, 72, 73, 0, 1, 2, 3, 4, 5, 6, 7, 8, 9, 10, 11, 12, 13, 14, 15, 16, 17, 18, 19, 20, 21, 22, 23, 24, 25, 26, 27, 28, 29, 30, 31, 32, 33, 34, 35, 36, 37, 38, 39, 40, 41, 42, 43, 44, 45, 46, 47, 48, 49, 50, 51, 52, 53, 54, 55, 56, 57, 58, 59, 60, 61] rfl rfl rfl rfl rfl (by decide) rfl rfl rfl rfl rfl rfl hl.1 rfl (Nat.le_of_ble_eq_true rfl) dL_law_601 ⟨Nat.le_of_ble_eq_true rfl, Nat.le_of_ble_eq_true rfl⟩ (fun H locs hP hD hS => ?_)
  refine lv_aload_n (pc := 604) hx hb dL_law_604 rfl (lv_at hl 2 rfl) ?_
  refine lv_aload_n (pc := 605) hx hb dL_law_605 rfl (lv_at hl 0 rfl) ?_
  refine lv_iload_n (pc := 606) hx hb dL_law_606 rfl (lv_at hl 3 rfl) ?_
  refine lv_iconst (v := 1) (pc := 607) hx hb dL_law_607 (by decide) ?_
  refine lv_iadd (pc := 608) hx hb dL_law_608 ?_
  refine va_sld (pc := 609) hx hb hX hbl hbA hS (lix1 hL hj) dL_law_609 ?_
  refine lv_aload_n (pc := 610) hx hb dL_law_610 rfl (lv_at hl 0 rfl) ?_
  refine lv_iload_n (pc := 611) hx hb dL_law_611 rfl (lv_at hl 3 rfl) ?_
  refine lv_iconst (v := 2) (pc := 612) hx hb dL_law_612 (by decide) ?_
  refine lv_iadd (pc := 613) hx hb dL_law_613 ?_
  refine va_sld (pc := 614) hx hb hX hbl hbA hS (lix2 hL hj) dL_law_614 ?_
  refine kwI (g := g) (A := (fun q : Nat => s.heap.size ≤ q)) (W0 := (wd_7_5_6_1_2_4_3_0_8 g S7 T5 S6 S1 S2 S4 S3 S0 S8)) (wc := (wd_8 g S8)) (wr := (wd_7_5_6_1_2_4_3_0 g S7 T5 S6 S1 S2 S4 S3 S0)) (w1 := (wd_8 g T8)) (W1 := (wd_7_5_6_1_2_4_3_0_8 g S7 T5 S6 S1 S2 S4 S3 S0 T8)) (pc := 615) (As := [.int (xs (Int32.toNatClampNeg ((nI (6 * j)) + 1))), .int (xs (Int32.toNatClampNeg ((nI (6 * j)) + 2)))]) (rest := [.int r9]) ⟨hx, hb, hml, hown, hts⟩ hK hA hP hD hS (c_X8_found l g 3000 H.size S8 ((xs (Int32.toNatClampNeg ((nI (6 * j)) + 1)))) ((xs (Int32.toNatClampNeg ((nI (6 * j)) + 2)))) (r9, T8) e2) (cwV 2 hts gL_law_X8_found rfl rfl rfl h_X8_found ⟨Nat.le_of_ble_eq_true rfl, Nat.le_of_ble_eq_true rfl⟩) [42, 43, 44, 45, 46, 47, 48, 49, 50, 51, 52, 53, 54, 55, 56, 57, 58, 59, 60, 61, 62, 63, 64, 65, 66, 67, 68, 69, 70, 71, 72, 73] [0, 1, 2, 3, 4, 5, 6, 7, 8, 9, 10, 11, 12, 13, 14, 15, 16, 17, 18, 19, 20, 21, 22, 23, 24, 25, 26, 27, 28, 29, 30, 31, 32, 33, 34, 35, 36, 37, 38, 39, 40, 41] [0, 1, 2, 3, 4, 5, 6, 7, 8, 9, 10, 11, 12, 13, 14, 15, 16, 17, 18, 19, 20, 21, 22, 23, 24, 25, 26, 27, 28, 29, 30, 31, 32, 33, 34, 35, 36, 37, 38, 39, 40, 41, 42, 43, 44, 45, 46, 47, 48, 49, 50, 51, 52, 53, 54, 55, 56, 57, 58, 59, 60, 61, 62, 63, 64, 65, 66, 67, 68, 69, 70, 71, 72, 73] rfl rfl rfl rfl rfl (by decide) rfl rfl rfl rfl rfl rfl hl.1 rfl (Nat.le_of_ble_eq_true rfl) dL_law_615 ⟨Nat.le_of_ble_eq_true rfl, Nat.le_of_ble_eq_true rfl⟩ (fun H locs hP hD hS => ?_)
  refine lv_icmp_eq (tgt := 1616) (pc := 618) hx hb dL_law_618 (by decide) (fun _ => ?_) (fun q => absurd rfl q)
  exact NX S7 T5 S6 S1 S2 S4 S3 S0 T8 H locs ls hR hP hD hS hl
set_option maxHeartbeats 8000000 in
set_option maxRecDepth 100000 in
theorem law_c_11 {p : Program} {l : Launch} {e : Env} {s : State} {m : MethodId} {below : List Frame} {meth : Method} {c : Code} {g : En} {b L j : Nat} {xs : Nat → Int32} (hL : L ≤ 3072) (C0 : lw_At p s m meth c b L xs) (hK : va_K g.1 vwCl (tyl g) s) (hj : 6 * j + 6 ≤ L) (NX : ∀ (S7 : St) (S5 : St) (S6 : St) (S1 : St) (S2 : St) (S4 : St) (S3 : St) (S0 : St) (S8 : St) (H : Heap) (locs : List Loc) (ls : Array Slot), Rel S7 S5 S6 S2 S4 S3 S0 S8 → va_P g.1 vwCl (wd_7_5_6_1_2_4_3_0_8 g S7 S5 S6 S1 S2 S4 S3 S0 S8) H → va_D (fun q : Nat => s.heap.size ≤ q) (wd_7_5_6_1_2_4_3_0_8 g S7 S5 S6 S1 S2 S4 S3 S0 S8) → va_S (fun q : Nat => s.heap.size ≤ q) s.heap H locs → lv_has ls 4 [(0, .ref b), (1, .ref (g.2.2.1 7)), (2, .ref (g.2.2.1 8)), (3, .int (nI (6 * j)))] → W p l e room_1 s m #[Value.ref b] below meth c H locs 74 3834 (lw_Z below #[Value.ref b] s) (F0 m 1616 ls [])) : ∀ (S7 : St) (S5 : St) (S6 : St) (S1 : St) (S2 : St) (S4 : St) (S3 : St) (S0 : St) (S8 : St) (H : Heap) (locs : List Loc) (ls : Array Slot), Rel S7 S5 S6 S2 S4 S3 S0 S8 → va_P g.1 vwCl (wd_7_5_6_1_2_4_3_0_8 g S7 S5 S6 S1 S2 S4 S3 S0 S8) H → va_D (fun q : Nat => s.heap.size ≤ q) (wd_7_5_6_1_2_4_3_0_8 g S7 S5 S6 S1 S2 S4 S3 S0 S8) → va_S (fun q : Nat => s.heap.size ≤ q) s.heap H locs → lv_has ls 4 [(0, .ref b), (1, .ref (g.2.2.1 7)), (2, .ref (g.2.2.1 8)), (3, .int (nI (6 * j)))] → W p l e room_1 s m #[Value.ref b] below meth c H locs 74 3834 (lw_Z below #[Value.ref b] s) (F0 m 623 ls []) := by
  intro S7 S5 S6 S1 S2 S4 S3 S0 S8 H locs ls hR hP hD hS hl
  obtain ⟨hx, hb, hr, hml, hown0, hts0, hX, hbl, hlocks, hgv⟩ := id C0
  have hown : s.vm.findClass RL = some m.cls := hown0
  have hts : ∀ w ∈ wsL_law, w.before #[Value.ref b] s = true := fun w h => hts0 w (wsL_law_in w h)
  have hA : ∀ q : Nat, s.heap.size ≤ q → (fun q : Nat => s.heap.size ≤ q) q := fun _ h => h
  have hbA : ¬ (fun q : Nat => s.heap.size ≤ q) b := Nat.not_le.mpr hbl
  refine lv_aload_n (pc := 623) hx hb dL_law_623 rfl (lv_at hl 1 rfl) ?_
  refine lv_aload_n (pc := 624) hx hb dL_law_624 rfl (lv_at hl 0 rfl) ?_
  refine lv_iload_n (pc := 625) hx hb dL_law_625 rfl (lv_at hl 3 rfl) ?_
  refine lv_iconst (v := 1) (pc := 626) hx hb dL_law_626 (by decide) ?_
  refine lv_iadd (pc := 627) hx hb dL_law_627 ?_
  refine va_sld (pc := 628) hx hb hX hbl hbA hS (lix1 hL hj) dL_law_628 ?_
  refine lv_aload_n (pc := 629) hx hb dL_law_629 rfl (lv_at hl 0 rfl) ?_
  refine lv_iload_n (pc := 630) hx hb dL_law_630 rfl (lv_at hl 3 rfl) ?_
  refine lv_iconst (v := 2) (pc := 631) hx hb dL_law_631 (by decide) ?_
  refine lv_iadd (pc := 632) hx hb dL_law_632 ?_
  refine va_sld (pc := 633) hx hb hX hbl hbA hS (lix2 hL hj) dL_law_633 ?_
  refine lv_aload_n (pc := 634) hx hb dL_law_634 rfl (lv_at hl 0 rfl) ?_
  refine lv_iload_n (pc := 635) hx hb dL_law_635 rfl (lv_at hl 3 rfl) ?_
  refine lv_iconst (v := 3) (pc := 636) hx hb dL_law_636 (by decide) ?_
  refine lv_iadd (pc := 637) hx hb dL_law_637 ?_
  refine va_sld (pc := 638) hx hb hX hbl hbA hS (lix3 hL hj) dL_law_638 ?_
  obtain ⟨r9, T5, T8, e1, e2, hR⟩ := sim_rings (N := 3000) (by decide) hR ((xs (Int32.toNatClampNeg ((nI (6 * j)) + 1)))) ((xs (Int32.toNatClampNeg ((nI (6 * j)) + 2)))) ((xs (Int32.toNatClampNeg ((nI (6 * j)) + 3))))
  refine kwI (g := g) (A := (fun q : Nat => s.heap.size ≤ q)) (W0 := (wd_7_5_6_1_2_4_3_0_8 g S7 S5 S6 S1 S2 S4 S3 S0 S8)) (wc := (wd_7_5 g S7 S5)) (wr := (wd_6_1_2_4_3_0_8 g S6 S1 S2 S4 S3 S0 S8)) (w1 := (wd_7_5 g S7 T5)) (W1 := (wd_7_5_6_1_2_4_3_0_8 g S7 T5 S6 S1 S2 S4 S3 S0 S8)) (pc := 639) (As := [.int (xs (Int32.toNatClampNeg ((nI (6 * j)) + 1))), .int (xs (Int32.toNatClampNeg ((nI (6 * j)) + 2))), .int (xs (Int32.toNatClampNeg ((nI (6 * j)) + 3)))]) (rest := []) ⟨hx, hb, hml, hown, hts⟩ hK hA hP hD hS (c_X7_rings l g 3000 H.size S7 S5 ((xs (Int32.toNatClampNeg ((nI (6 * j)) + 1)))) ((xs (Int32.toNatClampNeg ((nI (6 * j)) + 2)))) ((xs (Int32.toNatClampNeg ((nI (6 * j)) + 3)))) (r9, T5) e1) (cwV 3 hts gL_law_X7_rings rfl rfl rfl h_X7_rings ⟨Nat.le_of_ble_eq_true rfl, Nat.le_of_ble_eq_true rfl⟩) [0, 1, 2, 3, 4, 5, 6, 7, 8, 9, 10, 11] [12, 13, 14, 15, 16, 17, 18, 19, 20, 21, 22, 23, 24, 25, 26, 27, 28, 29, 30, 31, 32, 33, 34, 35, 36, 37, 38, 39, 40, 41, 42, 43, 44, 45, 46, 47, 48, 49, 50, 51, 52, 53, 54, 55, 56, 57, 58, 59, 60, 61, 62, 63, 64, 65, 66, 67, 68, 69, 70, 71, 72, 73] [62, 63, 64, 65, 66, 67, 68, 69, 70, 71, 72, 73, 0, 1, 2, 3, 4, 5, 6, 7, 8, 9, 10, 11, 12, 13, 14, 15, 16, 17, 18, 19, 20, 21, 22, 23, 24, 25, 26, 27, 28, 29, 30, 31, 32, 33, 34, 35, 36, 37, 38, 39, 40, 41, 42, 43, 44, 45, 46, 47, 48, 49, 50, 51, 52, 53, 54, 55, 56, 57, 58, 59, 60, 61] rfl rfl rfl rfl rfl (by decide) rfl rfl rfl rfl rfl rfl hl.1 rfl (Nat.le_of_ble_eq_true rfl) dL_law_639 ⟨Nat.le_of_ble_eq_true rfl, Nat.le_of_ble_eq_true rfl⟩ (fun H locs hP hD hS => ?_)
  refine lv_aload_n (pc := 642) hx hb dL_law_642 rfl (lv_at hl 2 rfl) ?_
  refine lv_aload_n (pc := 643) hx hb dL_law_643 rfl (lv_at hl 0 rfl) ?_
  refine lv_iload_n (pc := 644) hx hb dL_law_644 rfl (lv_at hl 3 rfl) ?_
  refine lv_iconst (v := 1) (pc := 645) hx hb dL_law_645 (by decide) ?_
  refine lv_iadd (pc := 646) hx hb dL_law_646 ?_
  refine va_sld (pc := 647) hx hb hX hbl hbA hS (lix1 hL hj) dL_law_647 ?_
  refine lv_aload_n (pc := 648) hx hb dL_law_648 rfl (lv_at hl 0 rfl) ?_
  refine lv_iload_n (pc := 649) hx hb dL_law_649 rfl (lv_at hl 3 rfl) ?_
  refine lv_iconst (v := 2) (pc := 650) hx hb dL_law_650 (by decide) ?_
  refine lv_iadd (pc := 651) hx hb dL_law_651 ?_
  refine va_sld (pc := 652) hx hb hX hbl hbA hS (lix2 hL hj) dL_law_652 ?_
  refine lv_aload_n (pc := 653) hx hb dL_law_653 rfl (lv_at hl 0 rfl) ?_
  refine lv_iload_n (pc := 654) hx hb dL_law_654 rfl (lv_at hl 3 rfl) ?_
  refine lv_iconst (v := 3) (pc := 655) hx hb dL_law_655 (by decide) ?_
  refine lv_iadd (pc := 656) hx hb dL_law_656 ?_
  refine va_sld (pc := 657) hx hb hX hbl hbA hS (lix3 hL hj) dL_law_657 ?_
  refine kwI (g := g) (A := (fun q : Nat => s.heap.size ≤ q)) (W0 := (wd_7_5_6_1_2_4_3_0_8 g S7 T5 S6 S1 S2 S4 S3 S0 S8)) (wc := (wd_8 g S8)) (wr := (wd_7_5_6_1_2_4_3_0 g S7 T5 S6 S1 S2 S4 S3 S0)) (w1 := (wd_8 g T8)) (W1 := (wd_7_5_6_1_2_4_3_0_8 g S7 T5 S6 S1 S2 S4 S3 S0 T8)) (pc := 658) (As := [.int (xs (Int32.toNatClampNeg ((nI (6 * j)) + 1))), .int (xs (Int32.toNatClampNeg ((nI (6 * j)) + 2))), .int (xs (Int32.toNatClampNeg ((nI (6 * j)) + 3)))]) (rest := [.int r9]) ⟨hx, hb, hml, hown, hts⟩ hK hA hP hD hS (c_X8_rings l g 3000 H.size S8 ((xs (Int32.toNatClampNeg ((nI (6 * j)) + 1)))) ((xs (Int32.toNatClampNeg ((nI (6 * j)) + 2)))) ((xs (Int32.toNatClampNeg ((nI (6 * j)) + 3)))) (r9, T8) e2) (cwV 3 hts gL_law_X8_rings rfl rfl rfl h_X8_rings ⟨Nat.le_of_ble_eq_true rfl, Nat.le_of_ble_eq_true rfl⟩) [42, 43, 44, 45, 46, 47, 48, 49, 50, 51, 52, 53, 54, 55, 56, 57, 58, 59, 60, 61, 62, 63, 64, 65, 66, 67, 68, 69, 70, 71, 72, 73] [0, 1, 2, 3, 4, 5, 6, 7, 8, 9, 10, 11, 12, 13, 14, 15, 16, 17, 18, 19, 20, 21, 22, 23, 24, 25, 26, 27, 28, 29, 30, 31, 32, 33, 34, 35, 36, 37, 38, 39, 40, 41] [0, 1, 2, 3, 4, 5, 6, 7, 8, 9, 10, 11, 12, 13, 14, 15, 16, 17, 18, 19, 20, 21, 22, 23, 24, 25, 26, 27, 28, 29, 30, 31, 32, 33, 34, 35, 36, 37, 38, 39, 40, 41, 42, 43, 44, 45, 46, 47, 48, 49, 50, 51, 52, 53, 54, 55, 56, 57, 58, 59, 60, 61, 62, 63, 64, 65, 66, 67, 68, 69, 70, 71, 72, 73] rfl rfl rfl rfl rfl (by decide) rfl rfl rfl rfl rfl rfl hl.1 rfl (Nat.le_of_ble_eq_true rfl) dL_law_658 ⟨Nat.le_of_ble_eq_true rfl, Nat.le_of_ble_eq_true rfl⟩ (fun H locs hP hD hS => ?_)
  refine lv_icmp_eq (tgt := 1616) (pc := 661) hx hb dL_law_661 (by decide) (fun _ => ?_) (fun q => absurd rfl q)
  exact NX S7 T5 S6 S1 S2 S4 S3 S0 T8 H locs ls hR hP hD hS hl
set_option maxHeartbeats 8000000 in
set_option maxRecDepth 100000 in
theorem law_c_12 {p : Program} {l : Launch} {e : Env} {s : State} {m : MethodId} {below : List Frame} {meth : Method} {c : Code} {g : En} {b L j : Nat} {xs : Nat → Int32} (hL : L ≤ 3072) (C0 : lw_At p s m meth c b L xs) (hK : va_K g.1 vwCl (tyl g) s) (hj : 6 * j + 6 ≤ L) (NX : ∀ (S7 : St) (S5 : St) (S6 : St) (S1 : St) (S2 : St) (S4 : St) (S3 : St) (S0 : St) (S8 : St) (H : Heap) (locs : List Loc) (ls : Array Slot), Rel S7 S5 S6 S2 S4 S3 S0 S8 → va_P g.1 vwCl (wd_7_5_6_1_2_4_3_0_8 g S7 S5 S6 S1 S2 S4 S3 S0 S8) H → va_D (fun q : Nat => s.heap.size ≤ q) (wd_7_5_6_1_2_4_3_0_8 g S7 S5 S6 S1 S2 S4 S3 S0 S8) → va_S (fun q : Nat => s.heap.size ≤ q) s.heap H locs → lv_has ls 4 [(0, .ref b), (1, .ref (g.2.2.1 7)), (2, .ref (g.2.2.1 8)), (3, .int (nI (6 * j)))] → W p l e room_1 s m #[Value.ref b] below meth c H locs 74 3834 (lw_Z below #[Value.ref b] s) (F0 m 1616 ls [])) : ∀ (S7 : St) (S5 : St) (S6 : St) (S1 : St) (S2 : St) (S4 : St) (S3 : St) (S0 : St) (S8 : St) (H : Heap) (locs : List Loc) (ls : Array Slot), Rel S7 S5 S6 S2 S4 S3 S0 S8 → va_P g.1 vwCl (wd_7_5_6_1_2_4_3_0_8 g S7 S5 S6 S1 S2 S4 S3 S0 S8) H → va_D (fun q : Nat => s.heap.size ≤ q) (wd_7_5_6_1_2_4_3_0_8 g S7 S5 S6 S1 S2 S4 S3 S0 S8) → va_S (fun q : Nat => s.heap.size ≤ q) s.heap H locs → lv_has ls 4 [(0, .ref b), (1, .ref (g.2.2.1 7)), (2, .ref (g.2.2.1 8)), (3, .int (nI (6 * j)))] → W p l e room_1 s m #[Value.ref b] below meth c H locs 74 3834 (lw_Z below #[Value.ref b] s) (F0 m 666 ls []) := by
  intro S7 S5 S6 S1 S2 S4 S3 S0 S8 H locs ls hR hP hD hS hl
  obtain ⟨hx, hb, hr, hml, hown0, hts0, hX, hbl, hlocks, hgv⟩ := id C0
  have hown : s.vm.findClass RL = some m.cls := hown0
  have hts : ∀ w ∈ wsL_law, w.before #[Value.ref b] s = true := fun w h => hts0 w (wsL_law_in w h)
  have hA : ∀ q : Nat, s.heap.size ≤ q → (fun q : Nat => s.heap.size ≤ q) q := fun _ h => h
  have hbA : ¬ (fun q : Nat => s.heap.size ≤ q) b := Nat.not_le.mpr hbl
  refine lv_aload_n (pc := 666) hx hb dL_law_666 rfl (lv_at hl 1 rfl) ?_
  refine lv_aload_n (pc := 667) hx hb dL_law_667 rfl (lv_at hl 0 rfl) ?_
  refine lv_iload_n (pc := 668) hx hb dL_law_668 rfl (lv_at hl 3 rfl) ?_
  refine lv_iconst (v := 1) (pc := 669) hx hb dL_law_669 (by decide) ?_
  refine lv_iadd (pc := 670) hx hb dL_law_670 ?_
  refine va_sld (pc := 671) hx hb hX hbl hbA hS (lix1 hL hj) dL_law_671 ?_
  refine lv_aload_n (pc := 672) hx hb dL_law_672 rfl (lv_at hl 0 rfl) ?_
  refine lv_iload_n (pc := 673) hx hb dL_law_673 rfl (lv_at hl 3 rfl) ?_
  refine lv_iconst (v := 2) (pc := 674) hx hb dL_law_674 (by decide) ?_
  refine lv_iadd (pc := 675) hx hb dL_law_675 ?_
  refine va_sld (pc := 676) hx hb hX hbl hbA hS (lix2 hL hj) dL_law_676 ?_
  refine lv_aload_n (pc := 677) hx hb dL_law_677 rfl (lv_at hl 0 rfl) ?_
  refine lv_iload_n (pc := 678) hx hb dL_law_678 rfl (lv_at hl 3 rfl) ?_
  refine lv_iconst (v := 3) (pc := 679) hx hb dL_law_679 (by decide) ?_
  refine lv_iadd (pc := 680) hx hb dL_law_680 ?_
  refine va_sld (pc := 681) hx hb hX hbl hbA hS (lix3 hL hj) dL_law_681 ?_
  refine lv_aload_n (pc := 682) hx hb dL_law_682 rfl (lv_at hl 0 rfl) ?_
  refine lv_iload_n (pc := 683) hx hb dL_law_683 rfl (lv_at hl 3 rfl) ?_
  refine lv_iconst (v := 4) (pc := 684) hx hb dL_law_684 (by decide) ?_
  refine lv_iadd (pc := 685) hx hb dL_law_685 ?_
  refine va_sld (pc := 686) hx hb hX hbl hbA hS (lix4 hL hj) dL_law_686 ?_
  refine lv_aload_n (pc := 687) hx hb dL_law_687 rfl (lv_at hl 0 rfl) ?_
  refine lv_iload_n (pc := 688) hx hb dL_law_688 rfl (lv_at hl 3 rfl) ?_
  refine lv_iconst (v := 5) (pc := 689) hx hb dL_law_689 (by decide) ?_
  refine lv_iadd (pc := 690) hx hb dL_law_690 ?_
  refine va_sld (pc := 691) hx hb hX hbl hbA hS (lix5 hL hj) dL_law_691 ?_
  obtain ⟨r9, T5, T8, e1, e2, hR⟩ := sim_threads (N := 3000) (by decide) hR ((xs (Int32.toNatClampNeg ((nI (6 * j)) + 1)))) ((xs (Int32.toNatClampNeg ((nI (6 * j)) + 2)))) ((xs (Int32.toNatClampNeg ((nI (6 * j)) + 3)))) ((xs (Int32.toNatClampNeg ((nI (6 * j)) + 4)))) ((xs (Int32.toNatClampNeg ((nI (6 * j)) + 5))))
  refine kwI (g := g) (A := (fun q : Nat => s.heap.size ≤ q)) (W0 := (wd_7_5_6_1_2_4_3_0_8 g S7 S5 S6 S1 S2 S4 S3 S0 S8)) (wc := (wd_7_5 g S7 S5)) (wr := (wd_6_1_2_4_3_0_8 g S6 S1 S2 S4 S3 S0 S8)) (w1 := (wd_7_5 g S7 T5)) (W1 := (wd_7_5_6_1_2_4_3_0_8 g S7 T5 S6 S1 S2 S4 S3 S0 S8)) (pc := 692) (As := [.int (xs (Int32.toNatClampNeg ((nI (6 * j)) + 1))), .int (xs (Int32.toNatClampNeg ((nI (6 * j)) + 2))), .int (xs (Int32.toNatClampNeg ((nI (6 * j)) + 3))), .int (xs (Int32.toNatClampNeg ((nI (6 * j)) + 4))), .int (xs (Int32.toNatClampNeg ((nI (6 * j)) + 5)))]) (rest := []) ⟨hx, hb, hml, hown, hts⟩ hK hA hP hD hS (c_X7_threads l g 3000 H.size S7 S5 ((xs (Int32.toNatClampNeg ((nI (6 * j)) + 1)))) ((xs (Int32.toNatClampNeg ((nI (6 * j)) + 2)))) ((xs (Int32.toNatClampNeg ((nI (6 * j)) + 3)))) ((xs (Int32.toNatClampNeg ((nI (6 * j)) + 4)))) ((xs (Int32.toNatClampNeg ((nI (6 * j)) + 5)))) (r9, T5) e1) (cwV 5 hts gL_law_X7_threads rfl rfl rfl h_X7_threads ⟨Nat.le_of_ble_eq_true rfl, Nat.le_of_ble_eq_true rfl⟩) [0, 1, 2, 3, 4, 5, 6, 7, 8, 9, 10, 11] [12, 13, 14, 15, 16, 17, 18, 19, 20, 21, 22, 23, 24, 25, 26, 27, 28, 29, 30, 31, 32, 33, 34, 35, 36, 37, 38, 39, 40, 41, 42, 43, 44, 45, 46, 47, 48, 49, 50, 51, 52, 53, 54, 55, 56, 57, 58, 59, 60, 61, 62, 63, 64, 65, 66, 67, 68, 69, 70, 71, 72, 73] [62, 63, 64, 65, 66, 67, 68, 69, 70, 71, 72, 73, 0, 1, 2, 3, 4, 5, 6, 7, 8, 9, 10, 11, 12, 13, 14, 15, 16, 17, 18, 19, 20, 21, 22, 23, 24, 25, 26, 27, 28, 29, 30, 31, 32, 33, 34, 35, 36, 37, 38, 39, 40, 41, 42, 43, 44, 45, 46, 47, 48, 49, 50, 51, 52, 53, 54, 55, 56, 57, 58, 59, 60, 61] rfl rfl rfl rfl rfl (by decide) rfl rfl rfl rfl rfl rfl hl.1 rfl (Nat.le_of_ble_eq_true rfl) dL_law_692 ⟨Nat.le_of_ble_eq_true rfl, Nat.le_of_ble_eq_true rfl⟩ (fun H locs hP hD hS => ?_)
  refine lv_aload_n (pc := 695) hx hb dL_law_695 rfl (lv_at hl 2 rfl) ?_
  refine lv_aload_n (pc := 696) hx hb dL_law_696 rfl (lv_at hl 0 rfl) ?_
  refine lv_iload_n (pc := 697) hx hb dL_law_697 rfl (lv_at hl 3 rfl) ?_
  refine lv_iconst (v := 1) (pc := 698) hx hb dL_law_698 (by decide) ?_
  refine lv_iadd (pc := 699) hx hb dL_law_699 ?_
  refine va_sld (pc := 700) hx hb hX hbl hbA hS (lix1 hL hj) dL_law_700 ?_
  refine lv_aload_n (pc := 701) hx hb dL_law_701 rfl (lv_at hl 0 rfl) ?_
  refine lv_iload_n (pc := 702) hx hb dL_law_702 rfl (lv_at hl 3 rfl) ?_
  refine lv_iconst (v := 2) (pc := 703) hx hb dL_law_703 (by decide) ?_
  refine lv_iadd (pc := 704) hx hb dL_law_704 ?_
  refine va_sld (pc := 705) hx hb hX hbl hbA hS (lix2 hL hj) dL_law_705 ?_
  refine lv_aload_n (pc := 706) hx hb dL_law_706 rfl (lv_at hl 0 rfl) ?_
  refine lv_iload_n (pc := 707) hx hb dL_law_707 rfl (lv_at hl 3 rfl) ?_
  refine lv_iconst (v := 3) (pc := 708) hx hb dL_law_708 (by decide) ?_
  refine lv_iadd (pc := 709) hx hb dL_law_709 ?_
  refine va_sld (pc := 710) hx hb hX hbl hbA hS (lix3 hL hj) dL_law_710 ?_
  refine lv_aload_n (pc := 711) hx hb dL_law_711 rfl (lv_at hl 0 rfl) ?_
  refine lv_iload_n (pc := 712) hx hb dL_law_712 rfl (lv_at hl 3 rfl) ?_
  refine lv_iconst (v := 4) (pc := 713) hx hb dL_law_713 (by decide) ?_
  refine lv_iadd (pc := 714) hx hb dL_law_714 ?_
  refine va_sld (pc := 715) hx hb hX hbl hbA hS (lix4 hL hj) dL_law_715 ?_
  refine lv_aload_n (pc := 716) hx hb dL_law_716 rfl (lv_at hl 0 rfl) ?_
  refine lv_iload_n (pc := 717) hx hb dL_law_717 rfl (lv_at hl 3 rfl) ?_
  refine lv_iconst (v := 5) (pc := 718) hx hb dL_law_718 (by decide) ?_
  refine lv_iadd (pc := 719) hx hb dL_law_719 ?_
  refine va_sld (pc := 720) hx hb hX hbl hbA hS (lix5 hL hj) dL_law_720 ?_
  refine kwI (g := g) (A := (fun q : Nat => s.heap.size ≤ q)) (W0 := (wd_7_5_6_1_2_4_3_0_8 g S7 T5 S6 S1 S2 S4 S3 S0 S8)) (wc := (wd_8 g S8)) (wr := (wd_7_5_6_1_2_4_3_0 g S7 T5 S6 S1 S2 S4 S3 S0)) (w1 := (wd_8 g T8)) (W1 := (wd_7_5_6_1_2_4_3_0_8 g S7 T5 S6 S1 S2 S4 S3 S0 T8)) (pc := 721) (As := [.int (xs (Int32.toNatClampNeg ((nI (6 * j)) + 1))), .int (xs (Int32.toNatClampNeg ((nI (6 * j)) + 2))), .int (xs (Int32.toNatClampNeg ((nI (6 * j)) + 3))), .int (xs (Int32.toNatClampNeg ((nI (6 * j)) + 4))), .int (xs (Int32.toNatClampNeg ((nI (6 * j)) + 5)))]) (rest := [.int r9]) ⟨hx, hb, hml, hown, hts⟩ hK hA hP hD hS (c_X8_threads l g 3000 H.size S8 ((xs (Int32.toNatClampNeg ((nI (6 * j)) + 1)))) ((xs (Int32.toNatClampNeg ((nI (6 * j)) + 2)))) ((xs (Int32.toNatClampNeg ((nI (6 * j)) + 3)))) ((xs (Int32.toNatClampNeg ((nI (6 * j)) + 4)))) ((xs (Int32.toNatClampNeg ((nI (6 * j)) + 5)))) (r9, T8) e2) (cwV 5 hts gL_law_X8_threads rfl rfl rfl h_X8_threads ⟨Nat.le_of_ble_eq_true rfl, Nat.le_of_ble_eq_true rfl⟩) [42, 43, 44, 45, 46, 47, 48, 49, 50, 51, 52, 53, 54, 55, 56, 57, 58, 59, 60, 61, 62, 63, 64, 65, 66, 67, 68, 69, 70, 71, 72, 73] [0, 1, 2, 3, 4, 5, 6, 7, 8, 9, 10, 11, 12, 13, 14, 15, 16, 17, 18, 19, 20, 21, 22, 23, 24, 25, 26, 27, 28, 29, 30, 31, 32, 33, 34, 35, 36, 37, 38, 39, 40, 41] [0, 1, 2, 3, 4, 5, 6, 7, 8, 9, 10, 11, 12, 13, 14, 15, 16, 17, 18, 19, 20, 21, 22, 23, 24, 25, 26, 27, 28, 29, 30, 31, 32, 33, 34, 35, 36, 37, 38, 39, 40, 41, 42, 43, 44, 45, 46, 47, 48, 49, 50, 51, 52, 53, 54, 55, 56, 57, 58, 59, 60, 61, 62, 63, 64, 65, 66, 67, 68, 69, 70, 71, 72, 73] rfl rfl rfl rfl rfl (by decide) rfl rfl rfl rfl rfl rfl hl.1 rfl (Nat.le_of_ble_eq_true rfl) dL_law_721 ⟨Nat.le_of_ble_eq_true rfl, Nat.le_of_ble_eq_true rfl⟩ (fun H locs hP hD hS => ?_)
  refine lv_icmp_eq (tgt := 1616) (pc := 724) hx hb dL_law_724 (by decide) (fun _ => ?_) (fun q => absurd rfl q)
  exact NX S7 T5 S6 S1 S2 S4 S3 S0 T8 H locs ls hR hP hD hS hl
set_option maxHeartbeats 8000000 in
set_option maxRecDepth 100000 in
theorem law_c_13 {p : Program} {l : Launch} {e : Env} {s : State} {m : MethodId} {below : List Frame} {meth : Method} {c : Code} {g : En} {b L j : Nat} {xs : Nat → Int32} (hL : L ≤ 3072) (C0 : lw_At p s m meth c b L xs) (hK : va_K g.1 vwCl (tyl g) s) (hj : 6 * j + 6 ≤ L) (NX : ∀ (S7 : St) (S5 : St) (S6 : St) (S1 : St) (S2 : St) (S4 : St) (S3 : St) (S0 : St) (S8 : St) (H : Heap) (locs : List Loc) (ls : Array Slot), Rel S7 S5 S6 S2 S4 S3 S0 S8 → va_P g.1 vwCl (wd_7_5_6_1_2_4_3_0_8 g S7 S5 S6 S1 S2 S4 S3 S0 S8) H → va_D (fun q : Nat => s.heap.size ≤ q) (wd_7_5_6_1_2_4_3_0_8 g S7 S5 S6 S1 S2 S4 S3 S0 S8) → va_S (fun q : Nat => s.heap.size ≤ q) s.heap H locs → lv_has ls 4 [(0, .ref b), (1, .ref (g.2.2.1 7)), (2, .ref (g.2.2.1 8)), (3, .int (nI (6 * j)))] → W p l e room_1 s m #[Value.ref b] below meth c H locs 74 3834 (lw_Z below #[Value.ref b] s) (F0 m 1616 ls [])) : ∀ (S7 : St) (S5 : St) (S6 : St) (S1 : St) (S2 : St) (S4 : St) (S3 : St) (S0 : St) (S8 : St) (H : Heap) (locs : List Loc) (ls : Array Slot), Rel S7 S5 S6 S2 S4 S3 S0 S8 → va_P g.1 vwCl (wd_7_5_6_1_2_4_3_0_8 g S7 S5 S6 S1 S2 S4 S3 S0 S8) H → va_D (fun q : Nat => s.heap.size ≤ q) (wd_7_5_6_1_2_4_3_0_8 g S7 S5 S6 S1 S2 S4 S3 S0 S8) → va_S (fun q : Nat => s.heap.size ≤ q) s.heap H locs → lv_has ls 4 [(0, .ref b), (1, .ref (g.2.2.1 7)), (2, .ref (g.2.2.1 8)), (3, .int (nI (6 * j)))] → W p l e room_1 s m #[Value.ref b] below meth c H locs 74 3834 (lw_Z below #[Value.ref b] s) (F0 m 729 ls []) := by
  intro S7 S5 S6 S1 S2 S4 S3 S0 S8 H locs ls hR hP hD hS hl
  obtain ⟨hx, hb, hr, hml, hown0, hts0, hX, hbl, hlocks, hgv⟩ := id C0
  have hown : s.vm.findClass RL = some m.cls := hown0
  have hts : ∀ w ∈ wsL_law, w.before #[Value.ref b] s = true := fun w h => hts0 w (wsL_law_in w h)
  have hA : ∀ q : Nat, s.heap.size ≤ q → (fun q : Nat => s.heap.size ≤ q) q := fun _ h => h
  have hbA : ¬ (fun q : Nat => s.heap.size ≤ q) b := Nat.not_le.mpr hbl
  refine lv_aload_n (pc := 729) hx hb dL_law_729 rfl (lv_at hl 1 rfl) ?_
  refine lv_aload_n (pc := 730) hx hb dL_law_730 rfl (lv_at hl 0 rfl) ?_
  refine lv_iload_n (pc := 731) hx hb dL_law_731 rfl (lv_at hl 3 rfl) ?_
  refine lv_iconst (v := 1) (pc := 732) hx hb dL_law_732 (by decide) ?_
  refine lv_iadd (pc := 733) hx hb dL_law_733 ?_
  refine va_sld (pc := 734) hx hb hX hbl hbA hS (lix1 hL hj) dL_law_734 ?_
  obtain ⟨r9, T5, T8, e1, e2, hR⟩ := sim_strike (N := 3000) (by decide) hR ((xs (Int32.toNatClampNeg ((nI (6 * j)) + 1))))
  refine kwI (g := g) (A := (fun q : Nat => s.heap.size ≤ q)) (W0 := (wd_7_5_6_1_2_4_3_0_8 g S7 S5 S6 S1 S2 S4 S3 S0 S8)) (wc := (wd_7_5 g S7 S5)) (wr := (wd_6_1_2_4_3_0_8 g S6 S1 S2 S4 S3 S0 S8)) (w1 := (wd_7_5 g S7 T5)) (W1 := (wd_7_5_6_1_2_4_3_0_8 g S7 T5 S6 S1 S2 S4 S3 S0 S8)) (pc := 735) (As := [.int (xs (Int32.toNatClampNeg ((nI (6 * j)) + 1)))]) (rest := []) ⟨hx, hb, hml, hown, hts⟩ hK hA hP hD hS (c_X7_strike l g 3000 H.size S7 S5 ((xs (Int32.toNatClampNeg ((nI (6 * j)) + 1)))) (r9, T5) e1) (cwV 1 hts gL_law_X7_strike rfl rfl rfl h_X7_strike ⟨Nat.le_of_ble_eq_true rfl, Nat.le_of_ble_eq_true rfl⟩) [0, 1, 2, 3, 4, 5, 6, 7, 8, 9, 10, 11] [12, 13, 14, 15, 16, 17, 18, 19, 20, 21, 22, 23, 24, 25, 26, 27, 28, 29, 30, 31, 32, 33, 34, 35, 36, 37, 38, 39, 40, 41, 42, 43, 44, 45, 46, 47, 48, 49, 50, 51, 52, 53, 54, 55, 56, 57, 58, 59, 60, 61, 62, 63, 64, 65, 66, 67, 68, 69, 70, 71, 72, 73] [62, 63, 64, 65, 66, 67, 68, 69, 70, 71, 72, 73, 0, 1, 2, 3, 4, 5, 6, 7, 8, 9, 10, 11, 12, 13, 14, 15, 16, 17, 18, 19, 20, 21, 22, 23, 24, 25, 26, 27, 28, 29, 30, 31, 32, 33, 34, 35, 36, 37, 38, 39, 40, 41, 42, 43, 44, 45, 46, 47, 48, 49, 50, 51, 52, 53, 54, 55, 56, 57, 58, 59, 60, 61] rfl rfl rfl rfl rfl (by decide) rfl rfl rfl rfl rfl rfl hl.1 rfl (Nat.le_of_ble_eq_true rfl) dL_law_735 ⟨Nat.le_of_ble_eq_true rfl, Nat.le_of_ble_eq_true rfl⟩ (fun H locs hP hD hS => ?_)
  refine lv_aload_n (pc := 738) hx hb dL_law_738 rfl (lv_at hl 2 rfl) ?_
  refine lv_aload_n (pc := 739) hx hb dL_law_739 rfl (lv_at hl 0 rfl) ?_
  refine lv_iload_n (pc := 740) hx hb dL_law_740 rfl (lv_at hl 3 rfl) ?_
  refine lv_iconst (v := 1) (pc := 741) hx hb dL_law_741 (by decide) ?_
  refine lv_iadd (pc := 742) hx hb dL_law_742 ?_
  refine va_sld (pc := 743) hx hb hX hbl hbA hS (lix1 hL hj) dL_law_743 ?_
  refine kwI (g := g) (A := (fun q : Nat => s.heap.size ≤ q)) (W0 := (wd_7_5_6_1_2_4_3_0_8 g S7 T5 S6 S1 S2 S4 S3 S0 S8)) (wc := (wd_8 g S8)) (wr := (wd_7_5_6_1_2_4_3_0 g S7 T5 S6 S1 S2 S4 S3 S0)) (w1 := (wd_8 g T8)) (W1 := (wd_7_5_6_1_2_4_3_0_8 g S7 T5 S6 S1 S2 S4 S3 S0 T8)) (pc := 744) (As := [.int (xs (Int32.toNatClampNeg ((nI (6 * j)) + 1)))]) (rest := [.int r9]) ⟨hx, hb, hml, hown, hts⟩ hK hA hP hD hS (c_X8_strike l g 3000 H.size S8 ((xs (Int32.toNatClampNeg ((nI (6 * j)) + 1)))) (r9, T8) e2) (cwV 1 hts gL_law_X8_strike rfl rfl rfl h_X8_strike ⟨Nat.le_of_ble_eq_true rfl, Nat.le_of_ble_eq_true rfl⟩) [42, 43, 44, 45, 46, 47, 48, 49, 50, 51, 52, 53, 54, 55, 56, 57, 58, 59, 60, 61, 62, 63, 64, 65, 66, 67, 68, 69, 70, 71, 72, 73] [0, 1, 2, 3, 4, 5, 6, 7, 8, 9, 10, 11, 12, 13, 14, 15, 16, 17, 18, 19, 20, 21, 22, 23, 24, 25, 26, 27, 28, 29, 30, 31, 32, 33, 34, 35, 36, 37, 38, 39, 40, 41] [0, 1, 2, 3, 4, 5, 6, 7, 8, 9, 10, 11, 12, 13, 14, 15, 16, 17, 18, 19, 20, 21, 22, 23, 24, 25, 26, 27, 28, 29, 30, 31, 32, 33, 34, 35, 36, 37, 38, 39, 40, 41, 42, 43, 44, 45, 46, 47, 48, 49, 50, 51, 52, 53, 54, 55, 56, 57, 58, 59, 60, 61, 62, 63, 64, 65, 66, 67, 68, 69, 70, 71, 72, 73] rfl rfl rfl rfl rfl (by decide) rfl rfl rfl rfl rfl rfl hl.1 rfl (Nat.le_of_ble_eq_true rfl) dL_law_744 ⟨Nat.le_of_ble_eq_true rfl, Nat.le_of_ble_eq_true rfl⟩ (fun H locs hP hD hS => ?_)
  refine lv_icmp_eq (tgt := 1616) (pc := 747) hx hb dL_law_747 (by decide) (fun _ => ?_) (fun q => absurd rfl q)
  exact NX S7 T5 S6 S1 S2 S4 S3 S0 T8 H locs ls hR hP hD hS hl
set_option maxHeartbeats 8000000 in
set_option maxRecDepth 100000 in
theorem law_c_14 {p : Program} {l : Launch} {e : Env} {s : State} {m : MethodId} {below : List Frame} {meth : Method} {c : Code} {g : En} {b L j : Nat} {xs : Nat → Int32} (hL : L ≤ 3072) (C0 : lw_At p s m meth c b L xs) (hK : va_K g.1 vwCl (tyl g) s) (hj : 6 * j + 6 ≤ L) (NX : ∀ (S7 : St) (S5 : St) (S6 : St) (S1 : St) (S2 : St) (S4 : St) (S3 : St) (S0 : St) (S8 : St) (H : Heap) (locs : List Loc) (ls : Array Slot), Rel S7 S5 S6 S2 S4 S3 S0 S8 → va_P g.1 vwCl (wd_7_5_6_1_2_4_3_0_8 g S7 S5 S6 S1 S2 S4 S3 S0 S8) H → va_D (fun q : Nat => s.heap.size ≤ q) (wd_7_5_6_1_2_4_3_0_8 g S7 S5 S6 S1 S2 S4 S3 S0 S8) → va_S (fun q : Nat => s.heap.size ≤ q) s.heap H locs → lv_has ls 4 [(0, .ref b), (1, .ref (g.2.2.1 7)), (2, .ref (g.2.2.1 8)), (3, .int (nI (6 * j)))] → W p l e room_1 s m #[Value.ref b] below meth c H locs 74 3834 (lw_Z below #[Value.ref b] s) (F0 m 1616 ls [])) : ∀ (S7 : St) (S5 : St) (S6 : St) (S1 : St) (S2 : St) (S4 : St) (S3 : St) (S0 : St) (S8 : St) (H : Heap) (locs : List Loc) (ls : Array Slot), Rel S7 S5 S6 S2 S4 S3 S0 S8 → va_P g.1 vwCl (wd_7_5_6_1_2_4_3_0_8 g S7 S5 S6 S1 S2 S4 S3 S0 S8) H → va_D (fun q : Nat => s.heap.size ≤ q) (wd_7_5_6_1_2_4_3_0_8 g S7 S5 S6 S1 S2 S4 S3 S0 S8) → va_S (fun q : Nat => s.heap.size ≤ q) s.heap H locs → lv_has ls 4 [(0, .ref b), (1, .ref (g.2.2.1 7)), (2, .ref (g.2.2.1 8)), (3, .int (nI (6 * j)))] → W p l e room_1 s m #[Value.ref b] below meth c H locs 74 3834 (lw_Z below #[Value.ref b] s) (F0 m 752 ls []) := by
  intro S7 S5 S6 S1 S2 S4 S3 S0 S8 H locs ls hR hP hD hS hl
  obtain ⟨hx, hb, hr, hml, hown0, hts0, hX, hbl, hlocks, hgv⟩ := id C0
  have hown : s.vm.findClass RL = some m.cls := hown0
  have hts : ∀ w ∈ wsL_law, w.before #[Value.ref b] s = true := fun w h => hts0 w (wsL_law_in w h)
  have hA : ∀ q : Nat, s.heap.size ≤ q → (fun q : Nat => s.heap.size ≤ q) q := fun _ h => h
  have hbA : ¬ (fun q : Nat => s.heap.size ≤ q) b := Nat.not_le.mpr hbl
  refine lv_aload_n (pc := 752) hx hb dL_law_752 rfl (lv_at hl 1 rfl) ?_
  refine lv_aload_n (pc := 753) hx hb dL_law_753 rfl (lv_at hl 0 rfl) ?_
  refine lv_iload_n (pc := 754) hx hb dL_law_754 rfl (lv_at hl 3 rfl) ?_
  refine lv_iconst (v := 1) (pc := 755) hx hb dL_law_755 (by decide) ?_
  refine lv_iadd (pc := 756) hx hb dL_law_756 ?_
  refine va_sld (pc := 757) hx hb hX hbl hbA hS (lix1 hL hj) dL_law_757 ?_
  refine lv_aload_n (pc := 758) hx hb dL_law_758 rfl (lv_at hl 0 rfl) ?_
  refine lv_iload_n (pc := 759) hx hb dL_law_759 rfl (lv_at hl 3 rfl) ?_
  refine lv_iconst (v := 2) (pc := 760) hx hb dL_law_760 (by decide) ?_
  refine lv_iadd (pc := 761) hx hb dL_law_761 ?_
  refine va_sld (pc := 762) hx hb hX hbl hbA hS (lix2 hL hj) dL_law_762 ?_
  obtain ⟨r9, e1, e2⟩ := sim_told (N := 3000) (by decide) hR ((xs (Int32.toNatClampNeg ((nI (6 * j)) + 1)))) ((xs (Int32.toNatClampNeg ((nI (6 * j)) + 2))))
  refine krI (g := g) (wc := (wd_7_5_6 g S7 S5 S6)) (pc := 763) (As := [.int (xs (Int32.toNatClampNeg ((nI (6 * j)) + 1))), .int (xs (Int32.toNatClampNeg ((nI (6 * j)) + 2)))]) (rest := []) ⟨hx, hb, hml, hown, hts⟩ (c_X7_told l g 3000 S7 S5 S6 ((xs (Int32.toNatClampNeg ((nI (6 * j)) + 1)))) ((xs (Int32.toNatClampNeg ((nI (6 * j)) + 2)))) r9 e1) (cwV 2 hts gL_law_X7_told rfl rfl rfl h_X7_told ⟨Nat.le_of_ble_eq_true rfl, Nat.le_of_ble_eq_true rfl⟩) hK (hP.sub (ws' := (wd_7_5_6 g S7 S5 S6)) [0, 1, 2, 3, 4, 5, 6, 7, 8, 9, 10, 11, 12, 13, 14] rfl) rfl rfl rfl hl.1 rfl (Nat.le_of_ble_eq_true rfl) dL_law_763 ⟨Nat.le_of_ble_eq_true rfl, Nat.le_of_ble_eq_true rfl⟩ ?_
  refine lv_aload_n (pc := 766) hx hb dL_law_766 rfl (lv_at hl 2 rfl) ?_
  refine lv_aload_n (pc := 767) hx hb dL_law_767 rfl (lv_at hl 0 rfl) ?_
  refine lv_iload_n (pc := 768) hx hb dL_law_768 rfl (lv_at hl 3 rfl) ?_
  refine lv_iconst (v := 1) (pc := 769) hx hb dL_law_769 (by decide) ?_
  refine lv_iadd (pc := 770) hx hb dL_law_770 ?_
  refine va_sld (pc := 771) hx hb hX hbl hbA hS (lix1 hL hj) dL_law_771 ?_
  refine lv_aload_n (pc := 772) hx hb dL_law_772 rfl (lv_at hl 0 rfl) ?_
  refine lv_iload_n (pc := 773) hx hb dL_law_773 rfl (lv_at hl 3 rfl) ?_
  refine lv_iconst (v := 2) (pc := 774) hx hb dL_law_774 (by decide) ?_
  refine lv_iadd (pc := 775) hx hb dL_law_775 ?_
  refine va_sld (pc := 776) hx hb hX hbl hbA hS (lix2 hL hj) dL_law_776 ?_
  refine krI (g := g) (wc := (wd_8 g S8)) (pc := 777) (As := [.int (xs (Int32.toNatClampNeg ((nI (6 * j)) + 1))), .int (xs (Int32.toNatClampNeg ((nI (6 * j)) + 2)))]) (rest := [.int r9]) ⟨hx, hb, hml, hown, hts⟩ (c_X8_told l g 3000 S8 ((xs (Int32.toNatClampNeg ((nI (6 * j)) + 1)))) ((xs (Int32.toNatClampNeg ((nI (6 * j)) + 2)))) r9 e2) (cwV 2 hts gL_law_X8_told rfl rfl rfl h_X8_told ⟨Nat.le_of_ble_eq_true rfl, Nat.le_of_ble_eq_true rfl⟩) hK (hP.sub (ws' := (wd_8 g S8)) [42, 43, 44, 45, 46, 47, 48, 49, 50, 51, 52, 53, 54, 55, 56, 57, 58, 59, 60, 61, 62, 63, 64, 65, 66, 67, 68, 69, 70, 71, 72, 73] rfl) rfl rfl rfl hl.1 rfl (Nat.le_of_ble_eq_true rfl) dL_law_777 ⟨Nat.le_of_ble_eq_true rfl, Nat.le_of_ble_eq_true rfl⟩ ?_
  refine lv_icmp_eq (tgt := 1616) (pc := 780) hx hb dL_law_780 (by decide) (fun _ => ?_) (fun q => absurd rfl q)
  exact NX S7 S5 S6 S1 S2 S4 S3 S0 S8 H locs ls hR hP hD hS hl
set_option maxHeartbeats 8000000 in
set_option maxRecDepth 100000 in
theorem law_c_15 {p : Program} {l : Launch} {e : Env} {s : State} {m : MethodId} {below : List Frame} {meth : Method} {c : Code} {g : En} {b L j : Nat} {xs : Nat → Int32} (hL : L ≤ 3072) (C0 : lw_At p s m meth c b L xs) (hK : va_K g.1 vwCl (tyl g) s) (hj : 6 * j + 6 ≤ L) (NX : ∀ (S7 : St) (S5 : St) (S6 : St) (S1 : St) (S2 : St) (S4 : St) (S3 : St) (S0 : St) (S8 : St) (H : Heap) (locs : List Loc) (ls : Array Slot), Rel S7 S5 S6 S2 S4 S3 S0 S8 → va_P g.1 vwCl (wd_7_5_6_1_2_4_3_0_8 g S7 S5 S6 S1 S2 S4 S3 S0 S8) H → va_D (fun q : Nat => s.heap.size ≤ q) (wd_7_5_6_1_2_4_3_0_8 g S7 S5 S6 S1 S2 S4 S3 S0 S8) → va_S (fun q : Nat => s.heap.size ≤ q) s.heap H locs → lv_has ls 4 [(0, .ref b), (1, .ref (g.2.2.1 7)), (2, .ref (g.2.2.1 8)), (3, .int (nI (6 * j)))] → W p l e room_1 s m #[Value.ref b] below meth c H locs 74 3834 (lw_Z below #[Value.ref b] s) (F0 m 1616 ls [])) : ∀ (S7 : St) (S5 : St) (S6 : St) (S1 : St) (S2 : St) (S4 : St) (S3 : St) (S0 : St) (S8 : St) (H : Heap) (locs : List Loc) (ls : Array Slot), Rel S7 S5 S6 S2 S4 S3 S0 S8 → va_P g.1 vwCl (wd_7_5_6_1_2_4_3_0_8 g S7 S5 S6 S1 S2 S4 S3 S0 S8) H → va_D (fun q : Nat => s.heap.size ≤ q) (wd_7_5_6_1_2_4_3_0_8 g S7 S5 S6 S1 S2 S4 S3 S0 S8) → va_S (fun q : Nat => s.heap.size ≤ q) s.heap H locs → lv_has ls 4 [(0, .ref b), (1, .ref (g.2.2.1 7)), (2, .ref (g.2.2.1 8)), (3, .int (nI (6 * j)))] → W p l e room_1 s m #[Value.ref b] below meth c H locs 74 3834 (lw_Z below #[Value.ref b] s) (F0 m 785 ls []) := by
  intro S7 S5 S6 S1 S2 S4 S3 S0 S8 H locs ls hR hP hD hS hl
  obtain ⟨hx, hb, hr, hml, hown0, hts0, hX, hbl, hlocks, hgv⟩ := id C0
  have hown : s.vm.findClass RL = some m.cls := hown0
  have hts : ∀ w ∈ wsL_law, w.before #[Value.ref b] s = true := fun w h => hts0 w (wsL_law_in w h)
  have hA : ∀ q : Nat, s.heap.size ≤ q → (fun q : Nat => s.heap.size ≤ q) q := fun _ h => h
  have hbA : ¬ (fun q : Nat => s.heap.size ≤ q) b := Nat.not_le.mpr hbl
  refine lv_aload_n (pc := 785) hx hb dL_law_785 rfl (lv_at hl 1 rfl) ?_
  refine lv_aload_n (pc := 786) hx hb dL_law_786 rfl (lv_at hl 0 rfl) ?_
  refine lv_iload_n (pc := 787) hx hb dL_law_787 rfl (lv_at hl 3 rfl) ?_
  refine lv_iconst (v := 1) (pc := 788) hx hb dL_law_788 (by decide) ?_
  refine lv_iadd (pc := 789) hx hb dL_law_789 ?_
  refine va_sld (pc := 790) hx hb hX hbl hbA hS (lix1 hL hj) dL_law_790 ?_
  refine lv_aload_n (pc := 791) hx hb dL_law_791 rfl (lv_at hl 0 rfl) ?_
  refine lv_iload_n (pc := 792) hx hb dL_law_792 rfl (lv_at hl 3 rfl) ?_
  refine lv_iconst (v := 2) (pc := 793) hx hb dL_law_793 (by decide) ?_
  refine lv_iadd (pc := 794) hx hb dL_law_794 ?_
  refine va_sld (pc := 795) hx hb hX hbl hbA hS (lix2 hL hj) dL_law_795 ?_
  obtain ⟨r9, T7, T8, e1, e2, hR⟩ := sim_mark (N := 3000) (by decide) hR ((xs (Int32.toNatClampNeg ((nI (6 * j)) + 1)))) ((xs (Int32.toNatClampNeg ((nI (6 * j)) + 2))))
  refine kwI (g := g) (A := (fun q : Nat => s.heap.size ≤ q)) (W0 := (wd_7_5_6_1_2_4_3_0_8 g S7 S5 S6 S1 S2 S4 S3 S0 S8)) (wc := (wd_7_5_6 g S7 S5 S6)) (wr := (wd_1_2_4_3_0_8 g S1 S2 S4 S3 S0 S8)) (w1 := (wd_7_5_6 g T7 S5 S6)) (W1 := (wd_7_5_6_1_2_4_3_0_8 g T7 S5 S6 S1 S2 S4 S3 S0 S8)) (pc := 796) (As := [.int (xs (Int32.toNatClampNeg ((nI (6 * j)) + 1))), .int (xs (Int32.toNatClampNeg ((nI (6 * j)) + 2)))]) (rest := []) ⟨hx, hb, hml, hown, hts⟩ hK hA hP hD hS (c_X7_mark l g 3000 H.size S7 S5 S6 ((xs (Int32.toNatClampNeg ((nI (6 * j)) + 1)))) ((xs (Int32.toNatClampNeg ((nI (6 * j)) + 2)))) (r9, T7) e1) (cwV 2 hts gL_law_X7_mark rfl rfl rfl h_X7_mark ⟨Nat.le_of_ble_eq_true rfl, Nat.le_of_ble_eq_true rfl⟩) [0, 1, 2, 3, 4, 5, 6, 7, 8, 9, 10, 11, 12, 13, 14] [15, 16, 17, 18, 19, 20, 21, 22, 23, 24, 25, 26, 27, 28, 29, 30, 31, 32, 33, 34, 35, 36, 37, 38, 39, 40, 41, 42, 43, 44, 45, 46, 47, 48, 49, 50, 51, 52, 53, 54, 55, 56, 57, 58, 59, 60, 61, 62, 63, 64, 65, 66, 67, 68, 69, 70, 71, 72, 73] [59, 60, 61, 62, 63, 64, 65, 66, 67, 68, 69, 70, 71, 72, 73, 0, 1, 2, 3, 4, 5, 6, 7, 8, 9, 10, 11, 12, 13, 14, 15, 16, 17, 18, 19, 20, 21, 22, 23, 24, 25, 26, 27, 28, 29, 30, 31, 32, 33, 34, 35, 36, 37, 38, 39, 40, 41, 42, 43, 44, 45, 46, 47, 48, 49, 50, 51, 52, 53, 54, 55, 56, 57, 58] rfl rfl rfl rfl rfl (by decide) rfl rfl rfl rfl rfl rfl hl.1 rfl (Nat.le_of_ble_eq_true rfl) dL_law_796 ⟨Nat.le_of_ble_eq_true rfl, Nat.le_of_ble_eq_true rfl⟩ (fun H locs hP hD hS => ?_)
  refine lv_aload_n (pc := 799) hx hb dL_law_799 rfl (lv_at hl 2 rfl) ?_
  refine lv_aload_n (pc := 800) hx hb dL_law_800 rfl (lv_at hl 0 rfl) ?_
  refine lv_iload_n (pc := 801) hx hb dL_law_801 rfl (lv_at hl 3 rfl) ?_
  refine lv_iconst (v := 1) (pc := 802) hx hb dL_law_802 (by decide) ?_
  refine lv_iadd (pc := 803) hx hb dL_law_803 ?_
  refine va_sld (pc := 804) hx hb hX hbl hbA hS (lix1 hL hj) dL_law_804 ?_
  refine lv_aload_n (pc := 805) hx hb dL_law_805 rfl (lv_at hl 0 rfl) ?_
  refine lv_iload_n (pc := 806) hx hb dL_law_806 rfl (lv_at hl 3 rfl) ?_
  refine lv_iconst (v := 2) (pc := 807) hx hb dL_law_807 (by decide) ?_
  refine lv_iadd (pc := 808) hx hb dL_law_808 ?_
  refine va_sld (pc := 809) hx hb hX hbl hbA hS (lix2 hL hj) dL_law_809 ?_
  refine kwI (g := g) (A := (fun q : Nat => s.heap.size ≤ q)) (W0 := (wd_7_5_6_1_2_4_3_0_8 g T7 S5 S6 S1 S2 S4 S3 S0 S8)) (wc := (wd_8 g S8)) (wr := (wd_7_5_6_1_2_4_3_0 g T7 S5 S6 S1 S2 S4 S3 S0)) (w1 := (wd_8 g T8)) (W1 := (wd_7_5_6_1_2_4_3_0_8 g T7 S5 S6 S1 S2 S4 S3 S0 T8)) (pc := 810) (As := [.int (xs (Int32.toNatClampNeg ((nI (6 * j)) + 1))), .int (xs (Int32.toNatClampNeg ((nI (6 * j)) + 2)))]) (rest := [.int r9]) ⟨hx, hb, hml, hown, hts⟩ hK hA hP hD hS (c_X8_mark l g 3000 H.size S8 ((xs (Int32.toNatClampNeg ((nI (6 * j)) + 1)))) ((xs (Int32.toNatClampNeg ((nI (6 * j)) + 2)))) (r9, T8) e2) (cwV 2 hts gL_law_X8_mark rfl rfl rfl h_X8_mark ⟨Nat.le_of_ble_eq_true rfl, Nat.le_of_ble_eq_true rfl⟩) [42, 43, 44, 45, 46, 47, 48, 49, 50, 51, 52, 53, 54, 55, 56, 57, 58, 59, 60, 61, 62, 63, 64, 65, 66, 67, 68, 69, 70, 71, 72, 73] [0, 1, 2, 3, 4, 5, 6, 7, 8, 9, 10, 11, 12, 13, 14, 15, 16, 17, 18, 19, 20, 21, 22, 23, 24, 25, 26, 27, 28, 29, 30, 31, 32, 33, 34, 35, 36, 37, 38, 39, 40, 41] [0, 1, 2, 3, 4, 5, 6, 7, 8, 9, 10, 11, 12, 13, 14, 15, 16, 17, 18, 19, 20, 21, 22, 23, 24, 25, 26, 27, 28, 29, 30, 31, 32, 33, 34, 35, 36, 37, 38, 39, 40, 41, 42, 43, 44, 45, 46, 47, 48, 49, 50, 51, 52, 53, 54, 55, 56, 57, 58, 59, 60, 61, 62, 63, 64, 65, 66, 67, 68, 69, 70, 71, 72, 73] rfl rfl rfl rfl rfl (by decide) rfl rfl rfl rfl rfl rfl hl.1 rfl (Nat.le_of_ble_eq_true rfl) dL_law_810 ⟨Nat.le_of_ble_eq_true rfl, Nat.le_of_ble_eq_true rfl⟩ (fun H locs hP hD hS => ?_)
  refine lv_icmp_eq (tgt := 1616) (pc := 813) hx hb dL_law_813 (by decide) (fun _ => ?_) (fun q => absurd rfl q)
  exact NX T7 S5 S6 S1 S2 S4 S3 S0 T8 H locs ls hR hP hD hS hl
set_option maxHeartbeats 8000000 in
set_option maxRecDepth 100000 in
theorem law_c_16 {p : Program} {l : Launch} {e : Env} {s : State} {m : MethodId} {below : List Frame} {meth : Method} {c : Code} {g : En} {b L j : Nat} {xs : Nat → Int32} (hL : L ≤ 3072) (C0 : lw_At p s m meth c b L xs) (hK : va_K g.1 vwCl (tyl g) s) (hj : 6 * j + 6 ≤ L) (NX : ∀ (S7 : St) (S5 : St) (S6 : St) (S1 : St) (S2 : St) (S4 : St) (S3 : St) (S0 : St) (S8 : St) (H : Heap) (locs : List Loc) (ls : Array Slot), Rel S7 S5 S6 S2 S4 S3 S0 S8 → va_P g.1 vwCl (wd_7_5_6_1_2_4_3_0_8 g S7 S5 S6 S1 S2 S4 S3 S0 S8) H → va_D (fun q : Nat => s.heap.size ≤ q) (wd_7_5_6_1_2_4_3_0_8 g S7 S5 S6 S1 S2 S4 S3 S0 S8) → va_S (fun q : Nat => s.heap.size ≤ q) s.heap H locs → lv_has ls 4 [(0, .ref b), (1, .ref (g.2.2.1 7)), (2, .ref (g.2.2.1 8)), (3, .int (nI (6 * j)))] → W p l e room_1 s m #[Value.ref b] below meth c H locs 74 3834 (lw_Z below #[Value.ref b] s) (F0 m 1616 ls [])) : ∀ (S7 : St) (S5 : St) (S6 : St) (S1 : St) (S2 : St) (S4 : St) (S3 : St) (S0 : St) (S8 : St) (H : Heap) (locs : List Loc) (ls : Array Slot), Rel S7 S5 S6 S2 S4 S3 S0 S8 → va_P g.1 vwCl (wd_7_5_6_1_2_4_3_0_8 g S7 S5 S6 S1 S2 S4 S3 S0 S8) H → va_D (fun q : Nat => s.heap.size ≤ q) (wd_7_5_6_1_2_4_3_0_8 g S7 S5 S6 S1 S2 S4 S3 S0 S8) → va_S (fun q : Nat => s.heap.size ≤ q) s.heap H locs → lv_has ls 4 [(0, .ref b), (1, .ref (g.2.2.1 7)), (2, .ref (g.2.2.1 8)), (3, .int (nI (6 * j)))] → W p l e room_1 s m #[Value.ref b] below meth c H locs 74 3834 (lw_Z below #[Value.ref b] s) (F0 m 818 ls []) := by
  intro S7 S5 S6 S1 S2 S4 S3 S0 S8 H locs ls hR hP hD hS hl
  obtain ⟨hx, hb, hr, hml, hown0, hts0, hX, hbl, hlocks, hgv⟩ := id C0
  have hown : s.vm.findClass RL = some m.cls := hown0
  have hts : ∀ w ∈ wsL_law, w.before #[Value.ref b] s = true := fun w h => hts0 w (wsL_law_in w h)
  have hA : ∀ q : Nat, s.heap.size ≤ q → (fun q : Nat => s.heap.size ≤ q) q := fun _ h => h
  have hbA : ¬ (fun q : Nat => s.heap.size ≤ q) b := Nat.not_le.mpr hbl
  refine lv_aload_n (pc := 818) hx hb dL_law_818 rfl (lv_at hl 1 rfl) ?_
  refine lv_aload_n (pc := 819) hx hb dL_law_819 rfl (lv_at hl 0 rfl) ?_
  refine lv_iload_n (pc := 820) hx hb dL_law_820 rfl (lv_at hl 3 rfl) ?_
  refine lv_iconst (v := 1) (pc := 821) hx hb dL_law_821 (by decide) ?_
  refine lv_iadd (pc := 822) hx hb dL_law_822 ?_
  refine va_sld (pc := 823) hx hb hX hbl hbA hS (lix1 hL hj) dL_law_823 ?_
  refine lv_aload_n (pc := 824) hx hb dL_law_824 rfl (lv_at hl 0 rfl) ?_
  refine lv_iload_n (pc := 825) hx hb dL_law_825 rfl (lv_at hl 3 rfl) ?_
  refine lv_iconst (v := 2) (pc := 826) hx hb dL_law_826 (by decide) ?_
  refine lv_iadd (pc := 827) hx hb dL_law_827 ?_
  refine va_sld (pc := 828) hx hb hX hbl hbA hS (lix2 hL hj) dL_law_828 ?_
  refine lv_if_eq (tgt := 836) (pc := 829) hx hb dL_law_829 (by decide) (fun z2 => ?_) (fun z2 => ?_)
  · refine lv_iconst (v := 0) (pc := 836) hx hb dL_law_836 (by decide) ?_
    obtain ⟨r9, T1, e1, e2, hR⟩ := sim_span (N := 3000) (by decide) hR S1 ((xs (Int32.toNatClampNeg ((nI (6 * j)) + 1)))) (0)
    refine kwI (g := g) (A := (fun q : Nat => s.heap.size ≤ q)) (W0 := (wd_7_5_6_1_2_4_3_0_8 g S7 S5 S6 S1 S2 S4 S3 S0 S8)) (wc := (wd_7_5_6_1 g S7 S5 S6 S1)) (wr := (wd_2_4_3_0_8 g S2 S4 S3 S0 S8)) (w1 := (wd_7_5_6_1 g S7 S5 S6 T1)) (W1 := (wd_7_5_6_1_2_4_3_0_8 g S7 S5 S6 T1 S2 S4 S3 S0 S8)) (pc := 837) (As := [.int (xs (Int32.toNatClampNeg ((nI (6 * j)) + 1))), .int 0]) (rest := []) ⟨hx, hb, hml, hown, hts⟩ hK hA hP hD hS (c_X7_span l g 3000 H.size S7 S5 S6 S1 ((xs (Int32.toNatClampNeg ((nI (6 * j)) + 1)))) (0) (r9, T1) e1) (cwV 2 hts gL_law_X7_span rfl rfl rfl h_X7_span ⟨Nat.le_of_ble_eq_true rfl, Nat.le_of_ble_eq_true rfl⟩) [0, 1, 2, 3, 4, 5, 6, 7, 8, 9, 10, 11, 12, 13, 14, 15, 16, 17, 18, 19] [20, 21, 22, 23, 24, 25, 26, 27, 28, 29, 30, 31, 32, 33, 34, 35, 36, 37, 38, 39, 40, 41, 42, 43, 44, 45, 46, 47, 48, 49, 50, 51, 52, 53, 54, 55, 56, 57, 58, 59, 60, 61, 62, 63, 64, 65, 66, 67, 68, 69, 70, 71, 72, 73] [54, 55, 56, 57, 58, 59, 60, 61, 62, 63, 64, 65, 66, 67, 68, 69, 70, 71, 72, 73, 0, 1, 2, 3, 4, 5, 6, 7, 8, 9, 10, 11, 12, 13, 14, 15, 16, 17, 18, 19, 20, 21, 22, 23, 24, 25, 26, 27, 28, 29, 30, 31, 32, 33, 34, 35, 36, 37, 38, 39, 40, 41, 42, 43, 44, 45, 46, 47, 48, 49, 50, 51, 52, 53] rfl rfl rfl rfl rfl (by decide) rfl rfl rfl rfl rfl rfl hl.1 rfl (Nat.le_of_ble_eq_true rfl) dL_law_837 ⟨Nat.le_of_ble_eq_true rfl, Nat.le_of_ble_eq_true rfl⟩ (fun H locs hP hD hS => ?_)
    refine lv_aload_n (pc := 840) hx hb dL_law_840 rfl (lv_at hl 2 rfl) ?_
    refine lv_aload_n (pc := 841) hx hb dL_law_841 rfl (lv_at hl 0 rfl) ?_
    refine lv_iload_n (pc := 842) hx hb dL_law_842 rfl (lv_at hl 3 rfl) ?_
    refine lv_iconst (v := 1) (pc := 843) hx hb dL_law_843 (by decide) ?_
    refine lv_iadd (pc := 844) hx hb dL_law_844 ?_
    refine va_sld (pc := 845) hx hb hX hbl hbA hS (lix1 hL hj) dL_law_845 ?_
    refine lv_aload_n (pc := 846) hx hb dL_law_846 rfl (lv_at hl 0 rfl) ?_
    refine lv_iload_n (pc := 847) hx hb dL_law_847 rfl (lv_at hl 3 rfl) ?_
    refine lv_iconst (v := 2) (pc := 848) hx hb dL_law_848 (by decide) ?_
    refine lv_iadd (pc := 849) hx hb dL_law_849 ?_
    refine va_sld (pc := 850) hx hb hX hbl hbA hS (lix2 hL hj) dL_law_850 ?_
    refine lv_if_eq (tgt := 858) (pc := 851) hx hb dL_law_851 (by decide) (fun _ => ?_) (fun q => absurd z2 q)
    refine lv_iconst (v := 0) (pc := 858) hx hb dL_law_858 (by decide) ?_
    refine krI (g := g) (wc := (wd_8 g S8)) (pc := 859) (As := [.int (xs (Int32.toNatClampNeg ((nI (6 * j)) + 1))), .int 0]) (rest := [.int r9]) ⟨hx, hb, hml, hown, hts⟩ (c_X8_span l g 3000 S8 ((xs (Int32.toNatClampNeg ((nI (6 * j)) + 1)))) (0) r9 e2) (cwV 2 hts gL_law_X8_span rfl rfl rfl h_X8_span ⟨Nat.le_of_ble_eq_true rfl, Nat.le_of_ble_eq_true rfl⟩) hK (hP.sub (ws' := (wd_8 g S8)) [42, 43, 44, 45, 46, 47, 48, 49, 50, 51, 52, 53, 54, 55, 56, 57, 58, 59, 60, 61, 62, 63, 64, 65, 66, 67, 68, 69, 70, 71, 72, 73] rfl) rfl rfl rfl hl.1 rfl (Nat.le_of_ble_eq_true rfl) dL_law_859 ⟨Nat.le_of_ble_eq_true rfl, Nat.le_of_ble_eq_true rfl⟩ ?_
    refine lv_icmp_eq (tgt := 1616) (pc := 862) hx hb dL_law_862 (by decide) (fun _ => ?_) (fun q => absurd rfl q)
    exact NX S7 S5 S6 T1 S2 S4 S3 S0 S8 H locs ls hR hP hD hS hl
  · refine lv_iconst (v := 1) (pc := 832) hx hb dL_law_832 (by decide) ?_
    refine lv_goto (tgt := 837) (pc := 833) hx hb dL_law_833 (by decide) ?_
    obtain ⟨r9, T1, e1, e2, hR⟩ := sim_span (N := 3000) (by decide) hR S1 ((xs (Int32.toNatClampNeg ((nI (6 * j)) + 1)))) (1)
    refine kwI (g := g) (A := (fun q : Nat => s.heap.size ≤ q)) (W0 := (wd_7_5_6_1_2_4_3_0_8 g S7 S5 S6 S1 S2 S4 S3 S0 S8)) (wc := (wd_7_5_6_1 g S7 S5 S6 S1)) (wr := (wd_2_4_3_0_8 g S2 S4 S3 S0 S8)) (w1 := (wd_7_5_6_1 g S7 S5 S6 T1)) (W1 := (wd_7_5_6_1_2_4_3_0_8 g S7 S5 S6 T1 S2 S4 S3 S0 S8)) (pc := 837) (As := [.int (xs (Int32.toNatClampNeg ((nI (6 * j)) + 1))), .int 1]) (rest := []) ⟨hx, hb, hml, hown, hts⟩ hK hA hP hD hS (c_X7_span l g 3000 H.size S7 S5 S6 S1 ((xs (Int32.toNatClampNeg ((nI (6 * j)) + 1)))) (1) (r9, T1) e1) (cwV 2 hts gL_law_X7_span rfl rfl rfl h_X7_span ⟨Nat.le_of_ble_eq_true rfl, Nat.le_of_ble_eq_true rfl⟩) [0, 1, 2, 3, 4, 5, 6, 7, 8, 9, 10, 11, 12, 13, 14, 15, 16, 17, 18, 19] [20, 21, 22, 23, 24, 25, 26, 27, 28, 29, 30, 31, 32, 33, 34, 35, 36, 37, 38, 39, 40, 41, 42, 43, 44, 45, 46, 47, 48, 49, 50, 51, 52, 53, 54, 55, 56, 57, 58, 59, 60, 61, 62, 63, 64, 65, 66, 67, 68, 69, 70, 71, 72, 73] [54, 55, 56, 57, 58, 59, 60, 61, 62, 63, 64, 65, 66, 67, 68, 69, 70, 71, 72, 73, 0, 1, 2, 3, 4, 5, 6, 7, 8, 9, 10, 11, 12, 13, 14, 15, 16, 17, 18, 19, 20, 21, 22, 23, 24, 25, 26, 27, 28, 29, 30, 31, 32, 33, 34, 35, 36, 37, 38, 39, 40, 41, 42, 43, 44, 45, 46, 47, 48, 49, 50, 51, 52, 53] rfl rfl rfl rfl rfl (by decide) rfl rfl rfl rfl rfl rfl hl.1 rfl (Nat.le_of_ble_eq_true rfl) dL_law_837 ⟨Nat.le_of_ble_eq_true rfl, Nat.le_of_ble_eq_true rfl⟩ (fun H locs hP hD hS => ?_)
    refine lv_aload_n (pc := 840) hx hb dL_law_840 rfl (lv_at hl 2 rfl) ?_
    refine lv_aload_n (pc := 841) hx hb dL_law_841 rfl (lv_at hl 0 rfl) ?_
    refine lv_iload_n (pc := 842) hx hb dL_law_842 rfl (lv_at hl 3 rfl) ?_
    refine lv_iconst (v := 1) (pc := 843) hx hb dL_law_843 (by decide) ?_
    refine lv_iadd (pc := 844) hx hb dL_law_844 ?_
    refine va_sld (pc := 845) hx hb hX hbl hbA hS (lix1 hL hj) dL_law_845 ?_
    refine lv_aload_n (pc := 846) hx hb dL_law_846 rfl (lv_at hl 0 rfl) ?_
    refine lv_iload_n (pc := 847) hx hb dL_law_847 rfl (lv_at hl 3 rfl) ?_
    refine lv_iconst (v := 2) (pc := 848) hx hb dL_law_848 (by decide) ?_
    refine lv_iadd (pc := 849) hx hb dL_law_849 ?_
    refine va_sld (pc := 850) hx hb hX hbl hbA hS (lix2 hL hj) dL_law_850 ?_
    refine lv_if_eq (tgt := 858) (pc := 851) hx hb dL_law_851 (by decide) (fun q => absurd q z2) (fun _ => ?_)
    refine lv_iconst (v := 1) (pc := 854) hx hb dL_law_854 (by decide) ?_
    refine lv_goto (tgt := 859) (pc := 855) hx hb dL_law_855 (by decide) ?_
    refine krI (g := g) (wc := (wd_8 g S8)) (pc := 859) (As := [.int (xs (Int32.toNatClampNeg ((nI (6 * j)) + 1))), .int 1]) (rest := [.int r9]) ⟨hx, hb, hml, hown, hts⟩ (c_X8_span l g 3000 S8 ((xs (Int32.toNatClampNeg ((nI (6 * j)) + 1)))) (1) r9 e2) (cwV 2 hts gL_law_X8_span rfl rfl rfl h_X8_span ⟨Nat.le_of_ble_eq_true rfl, Nat.le_of_ble_eq_true rfl⟩) hK (hP.sub (ws' := (wd_8 g S8)) [42, 43, 44, 45, 46, 47, 48, 49, 50, 51, 52, 53, 54, 55, 56, 57, 58, 59, 60, 61, 62, 63, 64, 65, 66, 67, 68, 69, 70, 71, 72, 73] rfl) rfl rfl rfl hl.1 rfl (Nat.le_of_ble_eq_true rfl) dL_law_859 ⟨Nat.le_of_ble_eq_true rfl, Nat.le_of_ble_eq_true rfl⟩ ?_
    refine lv_icmp_eq (tgt := 1616) (pc := 862) hx hb dL_law_862 (by decide) (fun _ => ?_) (fun q => absurd rfl q)
    exact NX S7 S5 S6 T1 S2 S4 S3 S0 S8 H locs ls hR hP hD hS hl
set_option maxHeartbeats 8000000 in
set_option maxRecDepth 100000 in
theorem law_c_17 {p : Program} {l : Launch} {e : Env} {s : State} {m : MethodId} {below : List Frame} {meth : Method} {c : Code} {g : En} {b L j : Nat} {xs : Nat → Int32} (hL : L ≤ 3072) (C0 : lw_At p s m meth c b L xs) (hK : va_K g.1 vwCl (tyl g) s) (hj : 6 * j + 6 ≤ L) (NX : ∀ (S7 : St) (S5 : St) (S6 : St) (S1 : St) (S2 : St) (S4 : St) (S3 : St) (S0 : St) (S8 : St) (H : Heap) (locs : List Loc) (ls : Array Slot), Rel S7 S5 S6 S2 S4 S3 S0 S8 → va_P g.1 vwCl (wd_7_5_6_1_2_4_3_0_8 g S7 S5 S6 S1 S2 S4 S3 S0 S8) H → va_D (fun q : Nat => s.heap.size ≤ q) (wd_7_5_6_1_2_4_3_0_8 g S7 S5 S6 S1 S2 S4 S3 S0 S8) → va_S (fun q : Nat => s.heap.size ≤ q) s.heap H locs → lv_has ls 4 [(0, .ref b), (1, .ref (g.2.2.1 7)), (2, .ref (g.2.2.1 8)), (3, .int (nI (6 * j)))] → W p l e room_1 s m #[Value.ref b] below meth c H locs 74 3834 (lw_Z below #[Value.ref b] s) (F0 m 1616 ls [])) : ∀ (S7 : St) (S5 : St) (S6 : St) (S1 : St) (S2 : St) (S4 : St) (S3 : St) (S0 : St) (S8 : St) (H : Heap) (locs : List Loc) (ls : Array Slot), Rel S7 S5 S6 S2 S4 S3 S0 S8 → va_P g.1 vwCl (wd_7_5_6_1_2_4_3_0_8 g S7 S5 S6 S1 S2 S4 S3 S0 S8) H → va_D (fun q : Nat => s.heap.size ≤ q) (wd_7_5_6_1_2_4_3_0_8 g S7 S5 S6 S1 S2 S4 S3 S0 S8) → va_S (fun q : Nat => s.heap.size ≤ q) s.heap H locs → lv_has ls 4 [(0, .ref b), (1, .ref (g.2.2.1 7)), (2, .ref (g.2.2.1 8)), (3, .int (nI (6 * j)))] → W p l e room_1 s m #[Value.ref b] below meth c H locs 74 3834 (lw_Z below #[Value.ref b] s) (F0 m 867 ls []) := by
  intro S7 S5 S6 S1 S2 S4 S3 S0 S8 H locs ls hR hP hD hS hl
  obtain ⟨hx, hb, hr, hml, hown0, hts0, hX, hbl, hlocks, hgv⟩ := id C0
  have hown : s.vm.findClass RL = some m.cls := hown0
  have hts : ∀ w ∈ wsL_law, w.before #[Value.ref b] s = true := fun w h => hts0 w (wsL_law_in w h)
  have hA : ∀ q : Nat, s.heap.size ≤ q → (fun q : Nat => s.heap.size ≤ q) q := fun _ h => h
  have hbA : ¬ (fun q : Nat => s.heap.size ≤ q) b := Nat.not_le.mpr hbl
  refine lv_aload_n (pc := 867) hx hb dL_law_867 rfl (lv_at hl 1 rfl) ?_
  refine lv_aload_n (pc := 868) hx hb dL_law_868 rfl (lv_at hl 0 rfl) ?_
  refine lv_iload_n (pc := 869) hx hb dL_law_869 rfl (lv_at hl 3 rfl) ?_
  refine lv_iconst (v := 1) (pc := 870) hx hb dL_law_870 (by decide) ?_
  refine lv_iadd (pc := 871) hx hb dL_law_871 ?_
  refine va_sld (pc := 872) hx hb hX hbl hbA hS (lix1 hL hj) dL_law_872 ?_
  obtain ⟨r9, T7, T1, T8, e1, e2, hR⟩ := sim_quarrel (N := 3000) (by decide) hR S1 ((xs (Int32.toNatClampNeg ((nI (6 * j)) + 1))))
  refine kwI (g := g) (A := (fun q : Nat => s.heap.size ≤ q)) (W0 := (wd_7_5_6_1_2_4_3_0_8 g S7 S5 S6 S1 S2 S4 S3 S0 S8)) (wc := (wd_7_5_6_1 g S7 S5 S6 S1)) (wr := (wd_2_4_3_0_8 g S2 S4 S3 S0 S8)) (w1 := (wd_7_5_6_1 g T7 S5 S6 T1)) (W1 := (wd_7_5_6_1_2_4_3_0_8 g T7 S5 S6 T1 S2 S4 S3 S0 S8)) (pc := 873) (As := [.int (xs (Int32.toNatClampNeg ((nI (6 * j)) + 1)))]) (rest := []) ⟨hx, hb, hml, hown, hts⟩ hK hA hP hD hS (c_X7_quarrel l g 3000 H.size S7 S5 S6 S1 ((xs (Int32.toNatClampNeg ((nI (6 * j)) + 1)))) (r9, T7, T1) e1) (cwV 1 hts gL_law_X7_quarrel rfl rfl rfl h_X7_quarrel ⟨Nat.le_of_ble_eq_true rfl, Nat.le_of_ble_eq_true rfl⟩) [0, 1, 2, 3, 4, 5, 6, 7, 8, 9, 10, 11, 12, 13, 14, 15, 16, 17, 18, 19] [20, 21, 22, 23, 24, 25, 26, 27, 28, 29, 30, 31, 32, 33, 34, 35, 36, 37, 38, 39, 40, 41, 42, 43, 44, 45, 46, 47, 48, 49, 50, 51, 52, 53, 54, 55, 56, 57, 58, 59, 60, 61, 62, 63, 64, 65, 66, 67, 68, 69, 70, 71, 72, 73] [54, 55, 56, 57, 58, 59, 60, 61, 62, 63, 64, 65, 66, 67, 68, 69, 70, 71, 72, 73, 0, 1, 2, 3, 4, 5, 6, 7, 8, 9, 10, 11, 12, 13, 14, 15, 16, 17, 18, 19, 20, 21, 22, 23, 24, 25, 26, 27, 28, 29, 30, 31, 32, 33, 34, 35, 36, 37, 38, 39, 40, 41, 42, 43, 44, 45, 46, 47, 48, 49, 50, 51, 52, 53] rfl rfl rfl rfl rfl (by decide) rfl rfl rfl rfl rfl rfl hl.1 rfl (Nat.le_of_ble_eq_true rfl) dL_law_873 ⟨Nat.le_of_ble_eq_true rfl, Nat.le_of_ble_eq_true rfl⟩ (fun H locs hP hD hS => ?_)
  refine lv_aload_n (pc := 876) hx hb dL_law_876 rfl (lv_at hl 2 rfl) ?_
  refine lv_aload_n (pc := 877) hx hb dL_law_877 rfl (lv_at hl 0 rfl) ?_
  refine lv_iload_n (pc := 878) hx hb dL_law_878 rfl (lv_at hl 3 rfl) ?_
  refine lv_iconst (v := 1) (pc := 879) hx hb dL_law_879 (by decide) ?_
  refine lv_iadd (pc := 880) hx hb dL_law_880 ?_
  refine va_sld (pc := 881) hx hb hX hbl hbA hS (lix1 hL hj) dL_law_881 ?_
  refine kwI (g := g) (A := (fun q : Nat => s.heap.size ≤ q)) (W0 := (wd_7_5_6_1_2_4_3_0_8 g T7 S5 S6 T1 S2 S4 S3 S0 S8)) (wc := (wd_8 g S8)) (wr := (wd_7_5_6_1_2_4_3_0 g T7 S5 S6 T1 S2 S4 S3 S0)) (w1 := (wd_8 g T8)) (W1 := (wd_7_5_6_1_2_4_3_0_8 g T7 S5 S6 T1 S2 S4 S3 S0 T8)) (pc := 882) (As := [.int (xs (Int32.toNatClampNeg ((nI (6 * j)) + 1)))]) (rest := [.int r9]) ⟨hx, hb, hml, hown, hts⟩ hK hA hP hD hS (c_X8_quarrel l g 3000 H.size S8 ((xs (Int32.toNatClampNeg ((nI (6 * j)) + 1)))) (r9, T8) e2) (cwV 1 hts gL_law_X8_quarrel rfl rfl rfl h_X8_quarrel ⟨Nat.le_of_ble_eq_true rfl, Nat.le_of_ble_eq_true rfl⟩) [42, 43, 44, 45, 46, 47, 48, 49, 50, 51, 52, 53, 54, 55, 56, 57, 58, 59, 60, 61, 62, 63, 64, 65, 66, 67, 68, 69, 70, 71, 72, 73] [0, 1, 2, 3, 4, 5, 6, 7, 8, 9, 10, 11, 12, 13, 14, 15, 16, 17, 18, 19, 20, 21, 22, 23, 24, 25, 26, 27, 28, 29, 30, 31, 32, 33, 34, 35, 36, 37, 38, 39, 40, 41] [0, 1, 2, 3, 4, 5, 6, 7, 8, 9, 10, 11, 12, 13, 14, 15, 16, 17, 18, 19, 20, 21, 22, 23, 24, 25, 26, 27, 28, 29, 30, 31, 32, 33, 34, 35, 36, 37, 38, 39, 40, 41, 42, 43, 44, 45, 46, 47, 48, 49, 50, 51, 52, 53, 54, 55, 56, 57, 58, 59, 60, 61, 62, 63, 64, 65, 66, 67, 68, 69, 70, 71, 72, 73] rfl rfl rfl rfl rfl (by decide) rfl rfl rfl rfl rfl rfl hl.1 rfl (Nat.le_of_ble_eq_true rfl) dL_law_882 ⟨Nat.le_of_ble_eq_true rfl, Nat.le_of_ble_eq_true rfl⟩ (fun H locs hP hD hS => ?_)
  refine lv_icmp_eq (tgt := 1616) (pc := 885) hx hb dL_law_885 (by decide) (fun _ => ?_) (fun q => absurd rfl q)
  exact NX T7 S5 S6 T1 S2 S4 S3 S0 T8 H locs ls hR hP hD hS hl
set_option maxHeartbeats 8000000 in
set_option maxRecDepth 100000 in
theorem law_c_18 {p : Program} {l : Launch} {e : Env} {s : State} {m : MethodId} {below : List Frame} {meth : Method} {c : Code} {g : En} {b L j : Nat} {xs : Nat → Int32} (hL : L ≤ 3072) (C0 : lw_At p s m meth c b L xs) (hK : va_K g.1 vwCl (tyl g) s) (hj : 6 * j + 6 ≤ L) (NX : ∀ (S7 : St) (S5 : St) (S6 : St) (S1 : St) (S2 : St) (S4 : St) (S3 : St) (S0 : St) (S8 : St) (H : Heap) (locs : List Loc) (ls : Array Slot), Rel S7 S5 S6 S2 S4 S3 S0 S8 → va_P g.1 vwCl (wd_7_5_6_1_2_4_3_0_8 g S7 S5 S6 S1 S2 S4 S3 S0 S8) H → va_D (fun q : Nat => s.heap.size ≤ q) (wd_7_5_6_1_2_4_3_0_8 g S7 S5 S6 S1 S2 S4 S3 S0 S8) → va_S (fun q : Nat => s.heap.size ≤ q) s.heap H locs → lv_has ls 4 [(0, .ref b), (1, .ref (g.2.2.1 7)), (2, .ref (g.2.2.1 8)), (3, .int (nI (6 * j)))] → W p l e room_1 s m #[Value.ref b] below meth c H locs 74 3834 (lw_Z below #[Value.ref b] s) (F0 m 1616 ls [])) : ∀ (S7 : St) (S5 : St) (S6 : St) (S1 : St) (S2 : St) (S4 : St) (S3 : St) (S0 : St) (S8 : St) (H : Heap) (locs : List Loc) (ls : Array Slot), Rel S7 S5 S6 S2 S4 S3 S0 S8 → va_P g.1 vwCl (wd_7_5_6_1_2_4_3_0_8 g S7 S5 S6 S1 S2 S4 S3 S0 S8) H → va_D (fun q : Nat => s.heap.size ≤ q) (wd_7_5_6_1_2_4_3_0_8 g S7 S5 S6 S1 S2 S4 S3 S0 S8) → va_S (fun q : Nat => s.heap.size ≤ q) s.heap H locs → lv_has ls 4 [(0, .ref b), (1, .ref (g.2.2.1 7)), (2, .ref (g.2.2.1 8)), (3, .int (nI (6 * j)))] → W p l e room_1 s m #[Value.ref b] below meth c H locs 74 3834 (lw_Z below #[Value.ref b] s) (F0 m 890 ls []) := by
  intro S7 S5 S6 S1 S2 S4 S3 S0 S8 H locs ls hR hP hD hS hl
  obtain ⟨hx, hb, hr, hml, hown0, hts0, hX, hbl, hlocks, hgv⟩ := id C0
  have hown : s.vm.findClass RL = some m.cls := hown0
  have hts : ∀ w ∈ wsL_law, w.before #[Value.ref b] s = true := fun w h => hts0 w (wsL_law_in w h)
  have hA : ∀ q : Nat, s.heap.size ≤ q → (fun q : Nat => s.heap.size ≤ q) q := fun _ h => h
  have hbA : ¬ (fun q : Nat => s.heap.size ≤ q) b := Nat.not_le.mpr hbl
  refine lv_aload_n (pc := 890) hx hb dL_law_890 rfl (lv_at hl 1 rfl) ?_
  refine lv_aload_n (pc := 891) hx hb dL_law_891 rfl (lv_at hl 0 rfl) ?_
  refine lv_iload_n (pc := 892) hx hb dL_law_892 rfl (lv_at hl 3 rfl) ?_
  refine lv_iconst (v := 1) (pc := 893) hx hb dL_law_893 (by decide) ?_
  refine lv_iadd (pc := 894) hx hb dL_law_894 ?_
  refine va_sld (pc := 895) hx hb hX hbl hbA hS (lix1 hL hj) dL_law_895 ?_
  obtain ⟨r9, T7, T1, T8, e1, e2, hR⟩ := sim_leftOut (N := 3000) (by decide) hR S1 ((xs (Int32.toNatClampNeg ((nI (6 * j)) + 1))))
  refine kwI (g := g) (A := (fun q : Nat => s.heap.size ≤ q)) (W0 := (wd_7_5_6_1_2_4_3_0_8 g S7 S5 S6 S1 S2 S4 S3 S0 S8)) (wc := (wd_7_5_6_1 g S7 S5 S6 S1)) (wr := (wd_2_4_3_0_8 g S2 S4 S3 S0 S8)) (w1 := (wd_7_5_6_1 g T7 S5 S6 T1)) (W1 := (wd_7_5_6_1_2_4_3_0_8 g T7 S5 S6 T1 S2 S4 S3 S0 S8)) (pc := 896) (As := [.int (xs (Int32.toNatClampNeg ((nI (6 * j)) + 1)))]) (rest := []) ⟨hx, hb, hml, hown, hts⟩ hK hA hP hD hS (c_X7_leftOut l g 3000 H.size S7 S5 S6 S1 ((xs (Int32.toNatClampNeg ((nI (6 * j)) + 1)))) (r9, T7, T1) e1) (cwV 1 hts gL_law_X7_leftOut rfl rfl rfl h_X7_leftOut ⟨Nat.le_of_ble_eq_true rfl, Nat.le_of_ble_eq_true rfl⟩) [0, 1, 2, 3, 4, 5, 6, 7, 8, 9, 10, 11, 12, 13, 14, 15, 16, 17, 18, 19] [20, 21, 22, 23, 24, 25, 26, 27, 28, 29, 30, 31, 32, 33, 34, 35, 36, 37, 38, 39, 40, 41, 42, 43, 44, 45, 46, 47, 48, 49, 50, 51, 52, 53, 54, 55, 56, 57, 58, 59, 60, 61, 62, 63, 64, 65, 66, 67, 68, 69, 70, 71, 72, 73] [54, 55, 56, 57, 58, 59, 60, 61, 62, 63, 64, 65, 66, 67, 68, 69, 70, 71, 72, 73, 0, 1, 2, 3, 4, 5, 6, 7, 8, 9, 10, 11, 12, 13, 14, 15, 16, 17, 18, 19, 20, 21, 22, 23, 24, 25, 26, 27, 28, 29, 30, 31, 32, 33, 34, 35, 36, 37, 38, 39, 40, 41, 42, 43, 44, 45, 46, 47, 48, 49, 50, 51, 52, 53] rfl rfl rfl rfl rfl (by decide) rfl rfl rfl rfl rfl rfl hl.1 rfl (Nat.le_of_ble_eq_true rfl) dL_law_896 ⟨Nat.le_of_ble_eq_true rfl, Nat.le_of_ble_eq_true rfl⟩ (fun H locs hP hD hS => ?_)
  refine lv_aload_n (pc := 899) hx hb dL_law_899 rfl (lv_at hl 2 rfl) ?_
  refine lv_aload_n (pc := 900) hx hb dL_law_900 rfl (lv_at hl 0 rfl) ?_
  refine lv_iload_n (pc := 901) hx hb dL_law_901 rfl (lv_at hl 3 rfl) ?_
  refine lv_iconst (v := 1) (pc := 902) hx hb dL_law_902 (by decide) ?_
  refine lv_iadd (pc := 903) hx hb dL_law_903 ?_
  refine va_sld (pc := 904) hx hb hX hbl hbA hS (lix1 hL hj) dL_law_904 ?_
  refine kwI (g := g) (A := (fun q : Nat => s.heap.size ≤ q)) (W0 := (wd_7_5_6_1_2_4_3_0_8 g T7 S5 S6 T1 S2 S4 S3 S0 S8)) (wc := (wd_8 g S8)) (wr := (wd_7_5_6_1_2_4_3_0 g T7 S5 S6 T1 S2 S4 S3 S0)) (w1 := (wd_8 g T8)) (W1 := (wd_7_5_6_1_2_4_3_0_8 g T7 S5 S6 T1 S2 S4 S3 S0 T8)) (pc := 905) (As := [.int (xs (Int32.toNatClampNeg ((nI (6 * j)) + 1)))]) (rest := [.int r9]) ⟨hx, hb, hml, hown, hts⟩ hK hA hP hD hS (c_X8_leftOut l g 3000 H.size S8 ((xs (Int32.toNatClampNeg ((nI (6 * j)) + 1)))) (r9, T8) e2) (cwV 1 hts gL_law_X8_leftOut rfl rfl rfl h_X8_leftOut ⟨Nat.le_of_ble_eq_true rfl, Nat.le_of_ble_eq_true rfl⟩) [42, 43, 44, 45, 46, 47, 48, 49, 50, 51, 52, 53, 54, 55, 56, 57, 58, 59, 60, 61, 62, 63, 64, 65, 66, 67, 68, 69, 70, 71, 72, 73] [0, 1, 2, 3, 4, 5, 6, 7, 8, 9, 10, 11, 12, 13, 14, 15, 16, 17, 18, 19, 20, 21, 22, 23, 24, 25, 26, 27, 28, 29, 30, 31, 32, 33, 34, 35, 36, 37, 38, 39, 40, 41] [0, 1, 2, 3, 4, 5, 6, 7, 8, 9, 10, 11, 12, 13, 14, 15, 16, 17, 18, 19, 20, 21, 22, 23, 24, 25, 26, 27, 28, 29, 30, 31, 32, 33, 34, 35, 36, 37, 38, 39, 40, 41, 42, 43, 44, 45, 46, 47, 48, 49, 50, 51, 52, 53, 54, 55, 56, 57, 58, 59, 60, 61, 62, 63, 64, 65, 66, 67, 68, 69, 70, 71, 72, 73] rfl rfl rfl rfl rfl (by decide) rfl rfl rfl rfl rfl rfl hl.1 rfl (Nat.le_of_ble_eq_true rfl) dL_law_905 ⟨Nat.le_of_ble_eq_true rfl, Nat.le_of_ble_eq_true rfl⟩ (fun H locs hP hD hS => ?_)
  refine lv_icmp_eq (tgt := 1616) (pc := 908) hx hb dL_law_908 (by decide) (fun _ => ?_) (fun q => absurd rfl q)
  exact NX T7 S5 S6 T1 S2 S4 S3 S0 T8 H locs ls hR hP hD hS hl
set_option maxHeartbeats 8000000 in
set_option maxRecDepth 100000 in
theorem law_c_19 {p : Program} {l : Launch} {e : Env} {s : State} {m : MethodId} {below : List Frame} {meth : Method} {c : Code} {g : En} {b L j : Nat} {xs : Nat → Int32} (hL : L ≤ 3072) (C0 : lw_At p s m meth c b L xs) (hK : va_K g.1 vwCl (tyl g) s) (hj : 6 * j + 6 ≤ L) (NX : ∀ (S7 : St) (S5 : St) (S6 : St) (S1 : St) (S2 : St) (S4 : St) (S3 : St) (S0 : St) (S8 : St) (H : Heap) (locs : List Loc) (ls : Array Slot), Rel S7 S5 S6 S2 S4 S3 S0 S8 → va_P g.1 vwCl (wd_7_5_6_1_2_4_3_0_8 g S7 S5 S6 S1 S2 S4 S3 S0 S8) H → va_D (fun q : Nat => s.heap.size ≤ q) (wd_7_5_6_1_2_4_3_0_8 g S7 S5 S6 S1 S2 S4 S3 S0 S8) → va_S (fun q : Nat => s.heap.size ≤ q) s.heap H locs → lv_has ls 4 [(0, .ref b), (1, .ref (g.2.2.1 7)), (2, .ref (g.2.2.1 8)), (3, .int (nI (6 * j)))] → W p l e room_1 s m #[Value.ref b] below meth c H locs 74 3834 (lw_Z below #[Value.ref b] s) (F0 m 1616 ls [])) : ∀ (S7 : St) (S5 : St) (S6 : St) (S1 : St) (S2 : St) (S4 : St) (S3 : St) (S0 : St) (S8 : St) (H : Heap) (locs : List Loc) (ls : Array Slot), Rel S7 S5 S6 S2 S4 S3 S0 S8 → va_P g.1 vwCl (wd_7_5_6_1_2_4_3_0_8 g S7 S5 S6 S1 S2 S4 S3 S0 S8) H → va_D (fun q : Nat => s.heap.size ≤ q) (wd_7_5_6_1_2_4_3_0_8 g S7 S5 S6 S1 S2 S4 S3 S0 S8) → va_S (fun q : Nat => s.heap.size ≤ q) s.heap H locs → lv_has ls 4 [(0, .ref b), (1, .ref (g.2.2.1 7)), (2, .ref (g.2.2.1 8)), (3, .int (nI (6 * j)))] → W p l e room_1 s m #[Value.ref b] below meth c H locs 74 3834 (lw_Z below #[Value.ref b] s) (F0 m 913 ls []) := by
  intro S7 S5 S6 S1 S2 S4 S3 S0 S8 H locs ls hR hP hD hS hl
  obtain ⟨hx, hb, hr, hml, hown0, hts0, hX, hbl, hlocks, hgv⟩ := id C0
  have hown : s.vm.findClass RL = some m.cls := hown0
  have hts : ∀ w ∈ wsL_law, w.before #[Value.ref b] s = true := fun w h => hts0 w (wsL_law_in w h)
  have hA : ∀ q : Nat, s.heap.size ≤ q → (fun q : Nat => s.heap.size ≤ q) q := fun _ h => h
  have hbA : ¬ (fun q : Nat => s.heap.size ≤ q) b := Nat.not_le.mpr hbl
  refine lv_aload_n (pc := 913) hx hb dL_law_913 rfl (lv_at hl 1 rfl) ?_
  refine lv_aload_n (pc := 914) hx hb dL_law_914 rfl (lv_at hl 0 rfl) ?_
  refine lv_iload_n (pc := 915) hx hb dL_law_915 rfl (lv_at hl 3 rfl) ?_
  refine lv_iconst (v := 1) (pc := 916) hx hb dL_law_916 (by decide) ?_
  refine lv_iadd (pc := 917) hx hb dL_law_917 ?_
  refine va_sld (pc := 918) hx hb hX hbl hbA hS (lix1 hL hj) dL_law_918 ?_
  obtain ⟨r9, T1, T8, e1, e2, hR⟩ := sim_heldYear (N := 3000) (by decide) hR S1 ((xs (Int32.toNatClampNeg ((nI (6 * j)) + 1))))
  refine kwI (g := g) (A := (fun q : Nat => s.heap.size ≤ q)) (W0 := (wd_7_5_6_1_2_4_3_0_8 g S7 S5 S6 S1 S2 S4 S3 S0 S8)) (wc := (wd_7_5_6_1 g S7 S5 S6 S1)) (wr := (wd_2_4_3_0_8 g S2 S4 S3 S0 S8)) (w1 := (wd_7_5_6_1 g S7 S5 S6 T1)) (W1 := (wd_7_5_6_1_2_4_3_0_8 g S7 S5 S6 T1 S2 S4 S3 S0 S8)) (pc := 919) (As := [.int (xs (Int32.toNatClampNeg ((nI (6 * j)) + 1)))]) (rest := []) ⟨hx, hb, hml, hown, hts⟩ hK hA hP hD hS (c_X7_heldYear l g 3000 H.size S7 S5 S6 S1 ((xs (Int32.toNatClampNeg ((nI (6 * j)) + 1)))) (r9, T1) e1) (cwV 1 hts gL_law_X7_heldYear rfl rfl rfl h_X7_heldYear ⟨Nat.le_of_ble_eq_true rfl, Nat.le_of_ble_eq_true rfl⟩) [0, 1, 2, 3, 4, 5, 6, 7, 8, 9, 10, 11, 12, 13, 14, 15, 16, 17, 18, 19] [20, 21, 22, 23, 24, 25, 26, 27, 28, 29, 30, 31, 32, 33, 34, 35, 36, 37, 38, 39, 40, 41, 42, 43, 44, 45, 46, 47, 48, 49, 50, 51, 52, 53, 54, 55, 56, 57, 58, 59, 60, 61, 62, 63, 64, 65, 66, 67, 68, 69, 70, 71, 72, 73] [54, 55, 56, 57, 58, 59, 60, 61, 62, 63, 64, 65, 66, 67, 68, 69, 70, 71, 72, 73, 0, 1, 2, 3, 4, 5, 6, 7, 8, 9, 10, 11, 12, 13, 14, 15, 16, 17, 18, 19, 20, 21, 22, 23, 24, 25, 26, 27, 28, 29, 30, 31, 32, 33, 34, 35, 36, 37, 38, 39, 40, 41, 42, 43, 44, 45, 46, 47, 48, 49, 50, 51, 52, 53] rfl rfl rfl rfl rfl (by decide) rfl rfl rfl rfl rfl rfl hl.1 rfl (Nat.le_of_ble_eq_true rfl) dL_law_919 ⟨Nat.le_of_ble_eq_true rfl, Nat.le_of_ble_eq_true rfl⟩ (fun H locs hP hD hS => ?_)
  refine lv_aload_n (pc := 922) hx hb dL_law_922 rfl (lv_at hl 2 rfl) ?_
  refine lv_aload_n (pc := 923) hx hb dL_law_923 rfl (lv_at hl 0 rfl) ?_
  refine lv_iload_n (pc := 924) hx hb dL_law_924 rfl (lv_at hl 3 rfl) ?_
  refine lv_iconst (v := 1) (pc := 925) hx hb dL_law_925 (by decide) ?_
  refine lv_iadd (pc := 926) hx hb dL_law_926 ?_
  refine va_sld (pc := 927) hx hb hX hbl hbA hS (lix1 hL hj) dL_law_927 ?_
  refine kwI (g := g) (A := (fun q : Nat => s.heap.size ≤ q)) (W0 := (wd_7_5_6_1_2_4_3_0_8 g S7 S5 S6 T1 S2 S4 S3 S0 S8)) (wc := (wd_8 g S8)) (wr := (wd_7_5_6_1_2_4_3_0 g S7 S5 S6 T1 S2 S4 S3 S0)) (w1 := (wd_8 g T8)) (W1 := (wd_7_5_6_1_2_4_3_0_8 g S7 S5 S6 T1 S2 S4 S3 S0 T8)) (pc := 928) (As := [.int (xs (Int32.toNatClampNeg ((nI (6 * j)) + 1)))]) (rest := [.int r9]) ⟨hx, hb, hml, hown, hts⟩ hK hA hP hD hS (c_X8_heldYear l g 3000 H.size S8 ((xs (Int32.toNatClampNeg ((nI (6 * j)) + 1)))) (r9, T8) e2) (cwV 1 hts gL_law_X8_heldYear rfl rfl rfl h_X8_heldYear ⟨Nat.le_of_ble_eq_true rfl, Nat.le_of_ble_eq_true rfl⟩) [42, 43, 44, 45, 46, 47, 48, 49, 50, 51, 52, 53, 54, 55, 56, 57, 58, 59, 60, 61, 62, 63, 64, 65, 66, 67, 68, 69, 70, 71, 72, 73] [0, 1, 2, 3, 4, 5, 6, 7, 8, 9, 10, 11, 12, 13, 14, 15, 16, 17, 18, 19, 20, 21, 22, 23, 24, 25, 26, 27, 28, 29, 30, 31, 32, 33, 34, 35, 36, 37, 38, 39, 40, 41] [0, 1, 2, 3, 4, 5, 6, 7, 8, 9, 10, 11, 12, 13, 14, 15, 16, 17, 18, 19, 20, 21, 22, 23, 24, 25, 26, 27, 28, 29, 30, 31, 32, 33, 34, 35, 36, 37, 38, 39, 40, 41, 42, 43, 44, 45, 46, 47, 48, 49, 50, 51, 52, 53, 54, 55, 56, 57, 58, 59, 60, 61, 62, 63, 64, 65, 66, 67, 68, 69, 70, 71, 72, 73] rfl rfl rfl rfl rfl (by decide) rfl rfl rfl rfl rfl rfl hl.1 rfl (Nat.le_of_ble_eq_true rfl) dL_law_928 ⟨Nat.le_of_ble_eq_true rfl, Nat.le_of_ble_eq_true rfl⟩ (fun H locs hP hD hS => ?_)
  refine lv_icmp_eq (tgt := 1616) (pc := 931) hx hb dL_law_931 (by decide) (fun _ => ?_) (fun q => absurd rfl q)
  exact NX S7 S5 S6 T1 S2 S4 S3 S0 T8 H locs ls hR hP hD hS hl
set_option maxHeartbeats 8000000 in
set_option maxRecDepth 100000 in
theorem law_c_20 {p : Program} {l : Launch} {e : Env} {s : State} {m : MethodId} {below : List Frame} {meth : Method} {c : Code} {g : En} {b L j : Nat} {xs : Nat → Int32} (hL : L ≤ 3072) (C0 : lw_At p s m meth c b L xs) (hK : va_K g.1 vwCl (tyl g) s) (hj : 6 * j + 6 ≤ L) (NX : ∀ (S7 : St) (S5 : St) (S6 : St) (S1 : St) (S2 : St) (S4 : St) (S3 : St) (S0 : St) (S8 : St) (H : Heap) (locs : List Loc) (ls : Array Slot), Rel S7 S5 S6 S2 S4 S3 S0 S8 → va_P g.1 vwCl (wd_7_5_6_1_2_4_3_0_8 g S7 S5 S6 S1 S2 S4 S3 S0 S8) H → va_D (fun q : Nat => s.heap.size ≤ q) (wd_7_5_6_1_2_4_3_0_8 g S7 S5 S6 S1 S2 S4 S3 S0 S8) → va_S (fun q : Nat => s.heap.size ≤ q) s.heap H locs → lv_has ls 4 [(0, .ref b), (1, .ref (g.2.2.1 7)), (2, .ref (g.2.2.1 8)), (3, .int (nI (6 * j)))] → W p l e room_1 s m #[Value.ref b] below meth c H locs 74 3834 (lw_Z below #[Value.ref b] s) (F0 m 1616 ls [])) : ∀ (S7 : St) (S5 : St) (S6 : St) (S1 : St) (S2 : St) (S4 : St) (S3 : St) (S0 : St) (S8 : St) (H : Heap) (locs : List Loc) (ls : Array Slot), Rel S7 S5 S6 S2 S4 S3 S0 S8 → va_P g.1 vwCl (wd_7_5_6_1_2_4_3_0_8 g S7 S5 S6 S1 S2 S4 S3 S0 S8) H → va_D (fun q : Nat => s.heap.size ≤ q) (wd_7_5_6_1_2_4_3_0_8 g S7 S5 S6 S1 S2 S4 S3 S0 S8) → va_S (fun q : Nat => s.heap.size ≤ q) s.heap H locs → lv_has ls 4 [(0, .ref b), (1, .ref (g.2.2.1 7)), (2, .ref (g.2.2.1 8)), (3, .int (nI (6 * j)))] → W p l e room_1 s m #[Value.ref b] below meth c H locs 74 3834 (lw_Z below #[Value.ref b] s) (F0 m 936 ls []) := by
  intro S7 S5 S6 S1 S2 S4 S3 S0 S8 H locs ls hR hP hD hS hl
  obtain ⟨hx, hb, hr, hml, hown0, hts0, hX, hbl, hlocks, hgv⟩ := id C0
  have hown : s.vm.findClass RL = some m.cls := hown0
  have hts : ∀ w ∈ wsL_law, w.before #[Value.ref b] s = true := fun w h => hts0 w (wsL_law_in w h)
  have hA : ∀ q : Nat, s.heap.size ≤ q → (fun q : Nat => s.heap.size ≤ q) q := fun _ h => h
  have hbA : ¬ (fun q : Nat => s.heap.size ≤ q) b := Nat.not_le.mpr hbl
  refine lv_aload_n (pc := 936) hx hb dL_law_936 rfl (lv_at hl 1 rfl) ?_
  refine lv_aload_n (pc := 937) hx hb dL_law_937 rfl (lv_at hl 0 rfl) ?_
  refine lv_iload_n (pc := 938) hx hb dL_law_938 rfl (lv_at hl 3 rfl) ?_
  refine lv_iconst (v := 1) (pc := 939) hx hb dL_law_939 (by decide) ?_
  refine lv_iadd (pc := 940) hx hb dL_law_940 ?_
  refine va_sld (pc := 941) hx hb hX hbl hbA hS (lix1 hL hj) dL_law_941 ?_
  refine lv_aload_n (pc := 942) hx hb dL_law_942 rfl (lv_at hl 0 rfl) ?_
  refine lv_iload_n (pc := 943) hx hb dL_law_943 rfl (lv_at hl 3 rfl) ?_
  refine lv_iconst (v := 2) (pc := 944) hx hb dL_law_944 (by decide) ?_
  refine lv_iadd (pc := 945) hx hb dL_law_945 ?_
  refine va_sld (pc := 946) hx hb hX hbl hbA hS (lix2 hL hj) dL_law_946 ?_
  obtain ⟨r9, T2, T8, e1, e2, hR⟩ := sim_hand (N := 3000) (by decide) hR ((xs (Int32.toNatClampNeg ((nI (6 * j)) + 1)))) ((xs (Int32.toNatClampNeg ((nI (6 * j)) + 2))))
  refine kwI (g := g) (A := (fun q : Nat => s.heap.size ≤ q)) (W0 := (wd_7_5_6_1_2_4_3_0_8 g S7 S5 S6 S1 S2 S4 S3 S0 S8)) (wc := (wd_7_2 g S7 S2)) (wr := (wd_5_6_1_4_3_0_8 g S5 S6 S1 S4 S3 S0 S8)) (w1 := (wd_7_2 g S7 T2)) (W1 := (wd_7_5_6_1_2_4_3_0_8 g S7 S5 S6 S1 T2 S4 S3 S0 S8)) (pc := 947) (As := [.int (xs (Int32.toNatClampNeg ((nI (6 * j)) + 1))), .int (xs (Int32.toNatClampNeg ((nI (6 * j)) + 2)))]) (rest := []) ⟨hx, hb, hml, hown, hts⟩ hK hA hP hD hS (c_X7_hand l g 3000 H.size S7 S2 ((xs (Int32.toNatClampNeg ((nI (6 * j)) + 1)))) ((xs (Int32.toNatClampNeg ((nI (6 * j)) + 2)))) (r9, T2) e1) (cwV 2 hts gL_law_X7_hand rfl rfl rfl h_X7_hand ⟨Nat.le_of_ble_eq_true rfl, Nat.le_of_ble_eq_true rfl⟩) [0, 1, 20, 21, 22, 23, 24, 25, 26, 27, 28] [2, 3, 4, 5, 6, 7, 8, 9, 10, 11, 12, 13, 14, 15, 16, 17, 18, 19, 29, 30, 31, 32, 33, 34, 35, 36, 37, 38, 39, 40, 41, 42, 43, 44, 45, 46, 47, 48, 49, 50, 51, 52, 53, 54, 55, 56, 57, 58, 59, 60, 61, 62, 63, 64, 65, 66, 67, 68, 69, 70, 71, 72, 73] [63, 64, 0, 1, 2, 3, 4, 5, 6, 7, 8, 9, 10, 11, 12, 13, 14, 15, 16, 17, 65, 66, 67, 68, 69, 70, 71, 72, 73, 18, 19, 20, 21, 22, 23, 24, 25, 26, 27, 28, 29, 30, 31, 32, 33, 34, 35, 36, 37, 38, 39, 40, 41, 42, 43, 44, 45, 46, 47, 48, 49, 50, 51, 52, 53, 54, 55, 56, 57, 58, 59, 60, 61, 62] rfl rfl rfl rfl rfl (by decide) rfl rfl rfl rfl rfl rfl hl.1 rfl (Nat.le_of_ble_eq_true rfl) dL_law_947 ⟨Nat.le_of_ble_eq_true rfl, Nat.le_of_ble_eq_true rfl⟩ (fun H locs hP hD hS => ?_)
  refine lv_aload_n (pc := 950) hx hb dL_law_950 rfl (lv_at hl 2 rfl) ?_
  refine lv_aload_n (pc := 951) hx hb dL_law_951 rfl (lv_at hl 0 rfl) ?_
  refine lv_iload_n (pc := 952) hx hb dL_law_952 rfl (lv_at hl 3 rfl) ?_
  refine lv_iconst (v := 1) (pc := 953) hx hb dL_law_953 (by decide) ?_
  refine lv_iadd (pc := 954) hx hb dL_law_954 ?_
  refine va_sld (pc := 955) hx hb hX hbl hbA hS (lix1 hL hj) dL_law_955 ?_
  refine lv_aload_n (pc := 956) hx hb dL_law_956 rfl (lv_at hl 0 rfl) ?_
  refine lv_iload_n (pc := 957) hx hb dL_law_957 rfl (lv_at hl 3 rfl) ?_
  refine lv_iconst (v := 2) (pc := 958) hx hb dL_law_958 (by decide) ?_
  refine lv_iadd (pc := 959) hx hb dL_law_959 ?_
  refine va_sld (pc := 960) hx hb hX hbl hbA hS (lix2 hL hj) dL_law_960 ?_
  refine kwI (g := g) (A := (fun q : Nat => s.heap.size ≤ q)) (W0 := (wd_7_5_6_1_2_4_3_0_8 g S7 S5 S6 S1 T2 S4 S3 S0 S8)) (wc := (wd_8 g S8)) (wr := (wd_7_5_6_1_2_4_3_0 g S7 S5 S6 S1 T2 S4 S3 S0)) (w1 := (wd_8 g T8)) (W1 := (wd_7_5_6_1_2_4_3_0_8 g S7 S5 S6 S1 T2 S4 S3 S0 T8)) (pc := 961) (As := [.int (xs (Int32.toNatClampNeg ((nI (6 * j)) + 1))), .int (xs (Int32.toNatClampNeg ((nI (6 * j)) + 2)))]) (rest := [.int r9]) ⟨hx, hb, hml, hown, hts⟩ hK hA hP hD hS (c_X8_hand l g 3000 H.size S8 ((xs (Int32.toNatClampNeg ((nI (6 * j)) + 1)))) ((xs (Int32.toNatClampNeg ((nI (6 * j)) + 2)))) (r9, T8) e2) (cwV 2 hts gL_law_X8_hand rfl rfl rfl h_X8_hand ⟨Nat.le_of_ble_eq_true rfl, Nat.le_of_ble_eq_true rfl⟩) [42, 43, 44, 45, 46, 47, 48, 49, 50, 51, 52, 53, 54, 55, 56, 57, 58, 59, 60, 61, 62, 63, 64, 65, 66, 67, 68, 69, 70, 71, 72, 73] [0, 1, 2, 3, 4, 5, 6, 7, 8, 9, 10, 11, 12, 13, 14, 15, 16, 17, 18, 19, 20, 21, 22, 23, 24, 25, 26, 27, 28, 29, 30, 31, 32, 33, 34, 35, 36, 37, 38, 39, 40, 41] [0, 1, 2, 3, 4, 5, 6, 7, 8, 9, 10, 11, 12, 13, 14, 15, 16, 17, 18, 19, 20, 21, 22, 23, 24, 25, 26, 27, 28, 29, 30, 31, 32, 33, 34, 35, 36, 37, 38, 39, 40, 41, 42, 43, 44, 45, 46, 47, 48, 49, 50, 51, 52, 53, 54, 55, 56, 57, 58, 59, 60, 61, 62, 63, 64, 65, 66, 67, 68, 69, 70, 71, 72, 73] rfl rfl rfl rfl rfl (by decide) rfl rfl rfl rfl rfl rfl hl.1 rfl (Nat.le_of_ble_eq_true rfl) dL_law_961 ⟨Nat.le_of_ble_eq_true rfl, Nat.le_of_ble_eq_true rfl⟩ (fun H locs hP hD hS => ?_)
  refine lv_icmp_eq (tgt := 1616) (pc := 964) hx hb dL_law_964 (by decide) (fun _ => ?_) (fun q => absurd rfl q)
  exact NX S7 S5 S6 S1 T2 S4 S3 S0 T8 H locs ls hR hP hD hS hl
set_option maxHeartbeats 8000000 in
set_option maxRecDepth 100000 in
theorem law_c_21 {p : Program} {l : Launch} {e : Env} {s : State} {m : MethodId} {below : List Frame} {meth : Method} {c : Code} {g : En} {b L j : Nat} {xs : Nat → Int32} (hL : L ≤ 3072) (C0 : lw_At p s m meth c b L xs) (hK : va_K g.1 vwCl (tyl g) s) (hj : 6 * j + 6 ≤ L) (NX : ∀ (S7 : St) (S5 : St) (S6 : St) (S1 : St) (S2 : St) (S4 : St) (S3 : St) (S0 : St) (S8 : St) (H : Heap) (locs : List Loc) (ls : Array Slot), Rel S7 S5 S6 S2 S4 S3 S0 S8 → va_P g.1 vwCl (wd_7_5_6_1_2_4_3_0_8 g S7 S5 S6 S1 S2 S4 S3 S0 S8) H → va_D (fun q : Nat => s.heap.size ≤ q) (wd_7_5_6_1_2_4_3_0_8 g S7 S5 S6 S1 S2 S4 S3 S0 S8) → va_S (fun q : Nat => s.heap.size ≤ q) s.heap H locs → lv_has ls 4 [(0, .ref b), (1, .ref (g.2.2.1 7)), (2, .ref (g.2.2.1 8)), (3, .int (nI (6 * j)))] → W p l e room_1 s m #[Value.ref b] below meth c H locs 74 3834 (lw_Z below #[Value.ref b] s) (F0 m 1616 ls [])) : ∀ (S7 : St) (S5 : St) (S6 : St) (S1 : St) (S2 : St) (S4 : St) (S3 : St) (S0 : St) (S8 : St) (H : Heap) (locs : List Loc) (ls : Array Slot), Rel S7 S5 S6 S2 S4 S3 S0 S8 → va_P g.1 vwCl (wd_7_5_6_1_2_4_3_0_8 g S7 S5 S6 S1 S2 S4 S3 S0 S8) H → va_D (fun q : Nat => s.heap.size ≤ q) (wd_7_5_6_1_2_4_3_0_8 g S7 S5 S6 S1 S2 S4 S3 S0 S8) → va_S (fun q : Nat => s.heap.size ≤ q) s.heap H locs → lv_has ls 4 [(0, .ref b), (1, .ref (g.2.2.1 7)), (2, .ref (g.2.2.1 8)), (3, .int (nI (6 * j)))] → W p l e room_1 s m #[Value.ref b] below meth c H locs 74 3834 (lw_Z below #[Value.ref b] s) (F0 m 969 ls []) := by
  intro S7 S5 S6 S1 S2 S4 S3 S0 S8 H locs ls hR hP hD hS hl
  obtain ⟨hx, hb, hr, hml, hown0, hts0, hX, hbl, hlocks, hgv⟩ := id C0
  have hown : s.vm.findClass RL = some m.cls := hown0
  have hts : ∀ w ∈ wsL_law, w.before #[Value.ref b] s = true := fun w h => hts0 w (wsL_law_in w h)
  have hA : ∀ q : Nat, s.heap.size ≤ q → (fun q : Nat => s.heap.size ≤ q) q := fun _ h => h
  have hbA : ¬ (fun q : Nat => s.heap.size ≤ q) b := Nat.not_le.mpr hbl
  refine lv_aload_n (pc := 969) hx hb dL_law_969 rfl (lv_at hl 1 rfl) ?_
  refine lv_aload_n (pc := 970) hx hb dL_law_970 rfl (lv_at hl 0 rfl) ?_
  refine lv_iload_n (pc := 971) hx hb dL_law_971 rfl (lv_at hl 3 rfl) ?_
  refine lv_iconst (v := 1) (pc := 972) hx hb dL_law_972 (by decide) ?_
  refine lv_iadd (pc := 973) hx hb dL_law_973 ?_
  refine va_sld (pc := 974) hx hb hX hbl hbA hS (lix1 hL hj) dL_law_974 ?_
  refine lv_aload_n (pc := 975) hx hb dL_law_975 rfl (lv_at hl 0 rfl) ?_
  refine lv_iload_n (pc := 976) hx hb dL_law_976 rfl (lv_at hl 3 rfl) ?_
  refine lv_iconst (v := 2) (pc := 977) hx hb dL_law_977 (by decide) ?_
  refine lv_iadd (pc := 978) hx hb dL_law_978 ?_
  refine va_sld (pc := 979) hx hb hX hbl hbA hS (lix2 hL hj) dL_law_979 ?_
  refine lv_aload_n (pc := 980) hx hb dL_law_980 rfl (lv_at hl 0 rfl) ?_
  refine lv_iload_n (pc := 981) hx hb dL_law_981 rfl (lv_at hl 3 rfl) ?_
  refine lv_iconst (v := 3) (pc := 982) hx hb dL_law_982 (by decide) ?_
  refine lv_iadd (pc := 983) hx hb dL_law_983 ?_
  refine va_sld (pc := 984) hx hb hX hbl hbA hS (lix3 hL hj) dL_law_984 ?_
  obtain ⟨r9, T2, T8, e1, e2, hR⟩ := sim_test (N := 3000) (by decide) hR ((xs (Int32.toNatClampNeg ((nI (6 * j)) + 1)))) ((xs (Int32.toNatClampNeg ((nI (6 * j)) + 2)))) ((xs (Int32.toNatClampNeg ((nI (6 * j)) + 3))))
  refine kwI (g := g) (A := (fun q : Nat => s.heap.size ≤ q)) (W0 := (wd_7_5_6_1_2_4_3_0_8 g S7 S5 S6 S1 S2 S4 S3 S0 S8)) (wc := (wd_7_2 g S7 S2)) (wr := (wd_5_6_1_4_3_0_8 g S5 S6 S1 S4 S3 S0 S8)) (w1 := (wd_7_2 g S7 T2)) (W1 := (wd_7_5_6_1_2_4_3_0_8 g S7 S5 S6 S1 T2 S4 S3 S0 S8)) (pc := 985) (As := [.int (xs (Int32.toNatClampNeg ((nI (6 * j)) + 1))), .int (xs (Int32.toNatClampNeg ((nI (6 * j)) + 2))), .int (xs (Int32.toNatClampNeg ((nI (6 * j)) + 3)))]) (rest := []) ⟨hx, hb, hml, hown, hts⟩ hK hA hP hD hS (c_X7_test l g 3000 H.size S7 S2 ((xs (Int32.toNatClampNeg ((nI (6 * j)) + 1)))) ((xs (Int32.toNatClampNeg ((nI (6 * j)) + 2)))) ((xs (Int32.toNatClampNeg ((nI (6 * j)) + 3)))) (r9, T2) e1) (cwV 3 hts gL_law_X7_test rfl rfl rfl h_X7_test ⟨Nat.le_of_ble_eq_true rfl, Nat.le_of_ble_eq_true rfl⟩) [0, 1, 20, 21, 22, 23, 24, 25, 26, 27, 28] [2, 3, 4, 5, 6, 7, 8, 9, 10, 11, 12, 13, 14, 15, 16, 17, 18, 19, 29, 30, 31, 32, 33, 34, 35, 36, 37, 38, 39, 40, 41, 42, 43, 44, 45, 46, 47, 48, 49, 50, 51, 52, 53, 54, 55, 56, 57, 58, 59, 60, 61, 62, 63, 64, 65, 66, 67, 68, 69, 70, 71, 72, 73] [63, 64, 0, 1, 2, 3, 4, 5, 6, 7, 8, 9, 10, 11, 12, 13, 14, 15, 16, 17, 65, 66, 67, 68, 69, 70, 71, 72, 73, 18, 19, 20, 21, 22, 23, 24, 25, 26, 27, 28, 29, 30, 31, 32, 33, 34, 35, 36, 37, 38, 39, 40, 41, 42, 43, 44, 45, 46, 47, 48, 49, 50, 51, 52, 53, 54, 55, 56, 57, 58, 59, 60, 61, 62] rfl rfl rfl rfl rfl (by decide) rfl rfl rfl rfl rfl rfl hl.1 rfl (Nat.le_of_ble_eq_true rfl) dL_law_985 ⟨Nat.le_of_ble_eq_true rfl, Nat.le_of_ble_eq_true rfl⟩ (fun H locs hP hD hS => ?_)
  refine lv_aload_n (pc := 988) hx hb dL_law_988 rfl (lv_at hl 2 rfl) ?_
  refine lv_aload_n (pc := 989) hx hb dL_law_989 rfl (lv_at hl 0 rfl) ?_
  refine lv_iload_n (pc := 990) hx hb dL_law_990 rfl (lv_at hl 3 rfl) ?_
  refine lv_iconst (v := 1) (pc := 991) hx hb dL_law_991 (by decide) ?_
  refine lv_iadd (pc := 992) hx hb dL_law_992 ?_
  refine va_sld (pc := 993) hx hb hX hbl hbA hS (lix1 hL hj) dL_law_993 ?_
  refine lv_aload_n (pc := 994) hx hb dL_law_994 rfl (lv_at hl 0 rfl) ?_
  refine lv_iload_n (pc := 995) hx hb dL_law_995 rfl (lv_at hl 3 rfl) ?_
  refine lv_iconst (v := 2) (pc := 996) hx hb dL_law_996 (by decide) ?_
  refine lv_iadd (pc := 997) hx hb dL_law_997 ?_
  refine va_sld (pc := 998) hx hb hX hbl hbA hS (lix2 hL hj) dL_law_998 ?_
  refine lv_aload_n (pc := 999) hx hb dL_law_999 rfl (lv_at hl 0 rfl) ?_
  refine lv_iload_n (pc := 1000) hx hb dL_law_1000 rfl (lv_at hl 3 rfl) ?_
  refine lv_iconst (v := 3) (pc := 1001) hx hb dL_law_1001 (by decide) ?_
  refine lv_iadd (pc := 1002) hx hb dL_law_1002 ?_
  refine va_sld (pc := 1003) hx hb hX hbl hbA hS (lix3 hL hj) dL_law_1003 ?_
  refine kwI (g := g) (A := (fun q : Nat => s.heap.size ≤ q)) (W0 := (wd_7_5_6_1_2_4_3_0_8 g S7 S5 S6 S1 T2 S4 S3 S0 S8)) (wc := (wd_8 g S8)) (wr := (wd_7_5_6_1_2_4_3_0 g S7 S5 S6 S1 T2 S4 S3 S0)) (w1 := (wd_8 g T8)) (W1 := (wd_7_5_6_1_2_4_3_0_8 g S7 S5 S6 S1 T2 S4 S3 S0 T8)) (pc := 1004) (As := [.int (xs (Int32.toNatClampNeg ((nI (6 * j)) + 1))), .int (xs (Int32.toNatClampNeg ((nI (6 * j)) + 2))), .int (xs (Int32.toNatClampNeg ((nI (6 * j)) + 3)))]) (rest := [.int r9]) ⟨hx, hb, hml, hown, hts⟩ hK hA hP hD hS (c_X8_test l g 3000 H.size S8 ((xs (Int32.toNatClampNeg ((nI (6 * j)) + 1)))) ((xs (Int32.toNatClampNeg ((nI (6 * j)) + 2)))) ((xs (Int32.toNatClampNeg ((nI (6 * j)) + 3)))) (r9, T8) e2) (cwV 3 hts gL_law_X8_test rfl rfl rfl h_X8_test ⟨Nat.le_of_ble_eq_true rfl, Nat.le_of_ble_eq_true rfl⟩) [42, 43, 44, 45, 46, 47, 48, 49, 50, 51, 52, 53, 54, 55, 56, 57, 58, 59, 60, 61, 62, 63, 64, 65, 66, 67, 68, 69, 70, 71, 72, 73] [0, 1, 2, 3, 4, 5, 6, 7, 8, 9, 10, 11, 12, 13, 14, 15, 16, 17, 18, 19, 20, 21, 22, 23, 24, 25, 26, 27, 28, 29, 30, 31, 32, 33, 34, 35, 36, 37, 38, 39, 40, 41] [0, 1, 2, 3, 4, 5, 6, 7, 8, 9, 10, 11, 12, 13, 14, 15, 16, 17, 18, 19, 20, 21, 22, 23, 24, 25, 26, 27, 28, 29, 30, 31, 32, 33, 34, 35, 36, 37, 38, 39, 40, 41, 42, 43, 44, 45, 46, 47, 48, 49, 50, 51, 52, 53, 54, 55, 56, 57, 58, 59, 60, 61, 62, 63, 64, 65, 66, 67, 68, 69, 70, 71, 72, 73] rfl rfl rfl rfl rfl (by decide) rfl rfl rfl rfl rfl rfl hl.1 rfl (Nat.le_of_ble_eq_true rfl) dL_law_1004 ⟨Nat.le_of_ble_eq_true rfl, Nat.le_of_ble_eq_true rfl⟩ (fun H locs hP hD hS => ?_)
  refine lv_icmp_eq (tgt := 1616) (pc := 1007) hx hb dL_law_1007 (by decide) (fun _ => ?_) (fun q => absurd rfl q)
  exact NX S7 S5 S6 S1 T2 S4 S3 S0 T8 H locs ls hR hP hD hS hl
