set_option maxHeartbeats 8000000 in
set_option maxRecDepth 100000 in
theorem law_c_22 {p : Program} {l : Launch} {e : Env} {s : State} {m : MethodId} {below : List Frame} {meth : Method} {c : Code} {g : En} {b L j : Nat} {xs : Nat → Int32} (hL : L ≤ 3072) (C0 : lw_At p s m meth c b L xs) (hK : va_K g.1 vwCl (tyl g) s) (hj : 6 * j + 6 ≤ L) (NX : ∀ (S7 : St) (S5 : St) (S6 : St) (S1 : St) (S2 : St) (S4 : St) (S3 : St) (S0 : St) (S8 : St) (H : Heap) (locs : List Loc) (ls : Array Slot), Rel S7 S5 S6 S2 S4 S3 S0 S8 → va_P g.1 vwCl (wd_7_5_6_1_2_4_3_0_8 g S7 S5 S6 S1 S2 S4 S3 S0 S8) H → va_D (fun q : Nat => s.heap.size ≤ q) (wd_7_5_6_1_2_4_3_0_8 g S7 S5 S6 S1 S2 S4 S3 S0 S8) → va_S (fun q : Nat => s.heap.size ≤ q) s.heap H locs → lv_has ls 4 [(0, .ref b), (1, .ref (g.2.2.1 7)), (2, .ref (g.2.2.1 8)), (3, .int (nI (6 * j)))] → W p l e room_1 s m #[Value.ref b] below meth c H locs 74 3834 (lw_Z below #[Value.ref b] s) (F0 m 1616 ls [])) : ∀ (S7 : St) (S5 : St) (S6 : St) (S1 : St) (S2 : St) (S4 : St) (S3 : St) (S0 : St) (S8 : St) (H : Heap) (locs : List Loc) (ls : Array Slot), Rel S7 S5 S6 S2 S4 S3 S0 S8 → va_P g.1 vwCl (wd_7_5_6_1_2_4_3_0_8 g S7 S5 S6 S1 S2 S4 S3 S0 S8) H → va_D (fun q : Nat => s.heap.size ≤ q) (wd_7_5_6_1_2_4_3_0_8 g S7 S5 S6 S1 S2 S4 S3 S0 S8) → va_S (fun q : Nat => s.heap.size ≤ q) s.heap H locs → lv_has ls 4 [(0, .ref b), (1, .ref (g.2.2.1 7)), (2, .ref (g.2.2.1 8)), (3, .int (nI (6 * j)))] → W p l e room_1 s m #[Value.ref b] below meth c H locs 74 3834 (lw_Z below #[Value.ref b] s) (F0 m 1012 ls []) := by
  intro S7 S5 S6 S1 S2 S4 S3 S0 S8 H locs ls hR hP hD hS hl
  obtain ⟨hx, hb, hr, hml, hown0, hts0, hX, hbl, hlocks, hgv⟩ := id C0
  have hown : s.vm.findClass RL = some m.cls := hown0
  have hts : ∀ w ∈ wsL_law, w.before #[Value.ref b] s = true := fun w h => hts0 w (wsL_law_in w h)
  have hA : ∀ q : Nat, s.heap.size ≤ q → (fun q : Nat => s.heap.size ≤ q) q := fun _ h => h
  have hbA : ¬ (fun q : Nat => s.heap.size ≤ q) b := Nat.not_le.mpr hbl
  refine lv_aload_n (pc := 1012) hx hb dL_law_1012 rfl (lv_at hl 1 rfl) ?_
  refine lv_aload_n (pc := 1013) hx hb dL_law_1013 rfl (lv_at hl 0 rfl) ?_
  refine lv_iload_n (pc := 1014) hx hb dL_law_1014 rfl (lv_at hl 3 rfl) ?_
  refine lv_iconst (v := 1) (pc := 1015) hx hb dL_law_1015 (by decide) ?_
  refine lv_iadd (pc := 1016) hx hb dL_law_1016 ?_
  refine va_sld (pc := 1017) hx hb hX hbl hbA hS (lix1 hL hj) dL_law_1017 ?_
  refine lv_aload_n (pc := 1018) hx hb dL_law_1018 rfl (lv_at hl 0 rfl) ?_
  refine lv_iload_n (pc := 1019) hx hb dL_law_1019 rfl (lv_at hl 3 rfl) ?_
  refine lv_iconst (v := 2) (pc := 1020) hx hb dL_law_1020 (by decide) ?_
  refine lv_iadd (pc := 1021) hx hb dL_law_1021 ?_
  refine va_sld (pc := 1022) hx hb hX hbl hbA hS (lix2 hL hj) dL_law_1022 ?_
  refine lv_aload_n (pc := 1023) hx hb dL_law_1023 rfl (lv_at hl 0 rfl) ?_
  refine lv_iload_n (pc := 1024) hx hb dL_law_1024 rfl (lv_at hl 3 rfl) ?_
  refine lv_iconst (v := 3) (pc := 1025) hx hb dL_law_1025 (by decide) ?_
  refine lv_iadd (pc := 1026) hx hb dL_law_1026 ?_
  refine va_sld (pc := 1027) hx hb hX hbl hbA hS (lix3 hL hj) dL_law_1027 ?_
  obtain ⟨r9, T2, T8, e1, e2, hR⟩ := sim_often (N := 3000) (by decide) hR ((xs (Int32.toNatClampNeg ((nI (6 * j)) + 1)))) ((xs (Int32.toNatClampNeg ((nI (6 * j)) + 2)))) ((xs (Int32.toNatClampNeg ((nI (6 * j)) + 3))))
  refine kwI (g := g) (A := (fun q : Nat => s.heap.size ≤ q)) (W0 := (wd_7_5_6_1_2_4_3_0_8 g S7 S5 S6 S1 S2 S4 S3 S0 S8)) (wc := (wd_7_2 g S7 S2)) (wr := (wd_5_6_1_4_3_0_8 g S5 S6 S1 S4 S3 S0 S8)) (w1 := (wd_7_2 g S7 T2)) (W1 := (wd_7_5_6_1_2_4_3_0_8 g S7 S5 S6 S1 T2 S4 S3 S0 S8)) (pc := 1028) (As := [.int (xs (Int32.toNatClampNeg ((nI (6 * j)) + 1))), .int (xs (Int32.toNatClampNeg ((nI (6 * j)) + 2))), .int (xs (Int32.toNatClampNeg ((nI (6 * j)) + 3)))]) (rest := []) ⟨hx, hb, hml, hown, hts⟩ hK hA hP hD hS (c_X7_often l g 3000 H.size S7 S2 ((xs (Int32.toNatClampNeg ((nI (6 * j)) + 1)))) ((xs (Int32.toNatClampNeg ((nI (6 * j)) + 2)))) ((xs (Int32.toNatClampNeg ((nI (6 * j)) + 3)))) (r9, T2) e1) (cwV 3 hts gL_law_X7_often rfl rfl rfl h_X7_often ⟨Nat.le_of_ble_eq_true rfl, Nat.le_of_ble_eq_true rfl⟩) [0, 1, 20, 21, 22, 23, 24, 25, 26, 27, 28] [2, 3, 4, 5, 6, 7, 8, 9, 10, 11, 12, 13, 14, 15, 16, 17, 18, 19, 29, 30, 31, 32, 33, 34, 35, 36, 37, 38, 39, 40, 41, 42, 43, 44, 45, 46, 47, 48, 49, 50, 51, 52, 53, 54, 55, 56, 57, 58, 59, 60, 61, 62, 63, 64, 65, 66, 67, 68, 69, 70, 71, 72, 73] [63, 64, 0, 1, 2, 3, 4, 5, 6, 7, 8, 9, 10, 11, 12, 13, 14, 15, 16, 17, 65, 66, 67, 68, 69, 70, 71, 72, 73, 18, 19, 20, 21, 22, 23, 24, 25, 26, 27, 28, 29, 30, 31, 32, 33, 34, 35, 36, 37, 38, 39, 40, 41, 42, 43, 44, 45, 46, 47, 48, 49, 50, 51, 52, 53, 54, 55, 56, 57, 58, 59, 60, 61, 62] rfl rfl rfl rfl rfl (by decide) rfl rfl rfl rfl rfl rfl hl.1 rfl (Nat.le_of_ble_eq_true rfl) dL_law_1028 ⟨Nat.le_of_ble_eq_true rfl, Nat.le_of_ble_eq_true rfl⟩ (fun H locs hP hD hS => ?_)
  refine lv_aload_n (pc := 1031) hx hb dL_law_1031 rfl (lv_at hl 2 rfl) ?_
  refine lv_aload_n (pc := 1032) hx hb dL_law_1032 rfl (lv_at hl 0 rfl) ?_
  refine lv_iload_n (pc := 1033) hx hb dL_law_1033 rfl (lv_at hl 3 rfl) ?_
  refine lv_iconst (v := 1) (pc := 1034) hx hb dL_law_1034 (by decide) ?_
  refine lv_iadd (pc := 1035) hx hb dL_law_1035 ?_
  refine va_sld (pc := 1036) hx hb hX hbl hbA hS (lix1 hL hj) dL_law_1036 ?_
  refine lv_aload_n (pc := 1037) hx hb dL_law_1037 rfl (lv_at hl 0 rfl) ?_
  refine lv_iload_n (pc := 1038) hx hb dL_law_1038 rfl (lv_at hl 3 rfl) ?_
  refine lv_iconst (v := 2) (pc := 1039) hx hb dL_law_1039 (by decide) ?_
  refine lv_iadd (pc := 1040) hx hb dL_law_1040 ?_
  refine va_sld (pc := 1041) hx hb hX hbl hbA hS (lix2 hL hj) dL_law_1041 ?_
  refine lv_aload_n (pc := 1042) hx hb dL_law_1042 rfl (lv_at hl 0 rfl) ?_
  refine lv_iload_n (pc := 1043) hx hb dL_law_1043 rfl (lv_at hl 3 rfl) ?_
  refine lv_iconst (v := 3) (pc := 1044) hx hb dL_law_1044 (by decide) ?_
  refine lv_iadd (pc := 1045) hx hb dL_law_1045 ?_
  refine va_sld (pc := 1046) hx hb hX hbl hbA hS (lix3 hL hj) dL_law_1046 ?_
  refine kwI (g := g) (A := (fun q : Nat => s.heap.size ≤ q)) (W0 := (wd_7_5_6_1_2_4_3_0_8 g S7 S5 S6 S1 T2 S4 S3 S0 S8)) (wc := (wd_8 g S8)) (wr := (wd_7_5_6_1_2_4_3_0 g S7 S5 S6 S1 T2 S4 S3 S0)) (w1 := (wd_8 g T8)) (W1 := (wd_7_5_6_1_2_4_3_0_8 g S7 S5 S6 S1 T2 S4 S3 S0 T8)) (pc := 1047) (As := [.int (xs (Int32.toNatClampNeg ((nI (6 * j)) + 1))), .int (xs (Int32.toNatClampNeg ((nI (6 * j)) + 2))), .int (xs (Int32.toNatClampNeg ((nI (6 * j)) + 3)))]) (rest := [.int r9]) ⟨hx, hb, hml, hown, hts⟩ hK hA hP hD hS (c_X8_often l g 3000 H.size S8 ((xs (Int32.toNatClampNeg ((nI (6 * j)) + 1)))) ((xs (Int32.toNatClampNeg ((nI (6 * j)) + 2)))) ((xs (Int32.toNatClampNeg ((nI (6 * j)) + 3)))) (r9, T8) e2) (cwV 3 hts gL_law_X8_often rfl rfl rfl h_X8_often ⟨Nat.le_of_ble_eq_true rfl, Nat.le_of_ble_eq_true rfl⟩) [42, 43, 44, 45, 46, 47, 48, 49, 50, 51, 52, 53, 54, 55, 56, 57, 58, 59, 60, 61, 62, 63, 64, 65, 66, 67, 68, 69, 70, 71, 72, 73] [0, 1, 2, 3, 4, 5, 6, 7, 8, 9, 10, 11, 12, 13, 14, 15, 16, 17, 18, 19, 20, 21, 22, 23, 24, 25, 26, 27, 28, 29, 30, 31, 32, 33, 34, 35, 36, 37, 38, 39, 40, 41] [0, 1, 2, 3, 4, 5, 6, 7, 8, 9, 10, 11, 12, 13, 14, 15, 16, 17, 18, 19, 20, 21, 22, 23, 24, 25, 26, 27, 28, 29, 30, 31, 32, 33, 34, 35, 36, 37, 38, 39, 40, 41, 42, 43, 44, 45, 46, 47, 48, 49, 50, 51, 52, 53, 54, 55, 56, 57, 58, 59, 60, 61, 62, 63, 64, 65, 66, 67, 68, 69, 70, 71, 72, 73] rfl rfl rfl rfl rfl (by decide) rfl rfl rfl rfl rfl rfl hl.1 rfl (Nat.le_of_ble_eq_true rfl) dL_law_1047 ⟨Nat.le_of_ble_eq_true rfl, Nat.le_of_ble_eq_true rfl⟩ (fun H locs hP hD hS => ?_)
  refine lv_icmp_eq (tgt := 1616) (pc := 1050) hx hb dL_law_1050 (by decide) (fun _ => ?_) (fun q => absurd rfl q)
  exact NX S7 S5 S6 S1 T2 S4 S3 S0 T8 H locs ls hR hP hD hS hl
set_option maxHeartbeats 8000000 in
set_option maxRecDepth 100000 in
theorem law_c_23 {p : Program} {l : Launch} {e : Env} {s : State} {m : MethodId} {below : List Frame} {meth : Method} {c : Code} {g : En} {b L j : Nat} {xs : Nat → Int32} (hL : L ≤ 3072) (C0 : lw_At p s m meth c b L xs) (hK : va_K g.1 vwCl (tyl g) s) (hj : 6 * j + 6 ≤ L) (NX : ∀ (S7 : St) (S5 : St) (S6 : St) (S1 : St) (S2 : St) (S4 : St) (S3 : St) (S0 : St) (S8 : St) (H : Heap) (locs : List Loc) (ls : Array Slot), Rel S7 S5 S6 S2 S4 S3 S0 S8 → va_P g.1 vwCl (wd_7_5_6_1_2_4_3_0_8 g S7 S5 S6 S1 S2 S4 S3 S0 S8) H → va_D (fun q : Nat => s.heap.size ≤ q) (wd_7_5_6_1_2_4_3_0_8 g S7 S5 S6 S1 S2 S4 S3 S0 S8) → va_S (fun q : Nat => s.heap.size ≤ q) s.heap H locs → lv_has ls 4 [(0, .ref b), (1, .ref (g.2.2.1 7)), (2, .ref (g.2.2.1 8)), (3, .int (nI (6 * j)))] → W p l e room_1 s m #[Value.ref b] below meth c H locs 74 3834 (lw_Z below #[Value.ref b] s) (F0 m 1616 ls [])) : ∀ (S7 : St) (S5 : St) (S6 : St) (S1 : St) (S2 : St) (S4 : St) (S3 : St) (S0 : St) (S8 : St) (H : Heap) (locs : List Loc) (ls : Array Slot), Rel S7 S5 S6 S2 S4 S3 S0 S8 → va_P g.1 vwCl (wd_7_5_6_1_2_4_3_0_8 g S7 S5 S6 S1 S2 S4 S3 S0 S8) H → va_D (fun q : Nat => s.heap.size ≤ q) (wd_7_5_6_1_2_4_3_0_8 g S7 S5 S6 S1 S2 S4 S3 S0 S8) → va_S (fun q : Nat => s.heap.size ≤ q) s.heap H locs → lv_has ls 4 [(0, .ref b), (1, .ref (g.2.2.1 7)), (2, .ref (g.2.2.1 8)), (3, .int (nI (6 * j)))] → W p l e room_1 s m #[Value.ref b] below meth c H locs 74 3834 (lw_Z below #[Value.ref b] s) (F0 m 1055 ls []) := by
  intro S7 S5 S6 S1 S2 S4 S3 S0 S8 H locs ls hR hP hD hS hl
  obtain ⟨hx, hb, hr, hml, hown0, hts0, hX, hbl, hlocks, hgv⟩ := id C0
  have hown : s.vm.findClass RL = some m.cls := hown0
  have hts : ∀ w ∈ wsL_law, w.before #[Value.ref b] s = true := fun w h => hts0 w (wsL_law_in w h)
  have hA : ∀ q : Nat, s.heap.size ≤ q → (fun q : Nat => s.heap.size ≤ q) q := fun _ h => h
  have hbA : ¬ (fun q : Nat => s.heap.size ≤ q) b := Nat.not_le.mpr hbl
  refine lv_aload_n (pc := 1055) hx hb dL_law_1055 rfl (lv_at hl 1 rfl) ?_
  refine lv_aload_n (pc := 1056) hx hb dL_law_1056 rfl (lv_at hl 0 rfl) ?_
  refine lv_iload_n (pc := 1057) hx hb dL_law_1057 rfl (lv_at hl 3 rfl) ?_
  refine lv_iconst (v := 1) (pc := 1058) hx hb dL_law_1058 (by decide) ?_
  refine lv_iadd (pc := 1059) hx hb dL_law_1059 ?_
  refine va_sld (pc := 1060) hx hb hX hbl hbA hS (lix1 hL hj) dL_law_1060 ?_
  refine lv_aload_n (pc := 1061) hx hb dL_law_1061 rfl (lv_at hl 0 rfl) ?_
  refine lv_iload_n (pc := 1062) hx hb dL_law_1062 rfl (lv_at hl 3 rfl) ?_
  refine lv_iconst (v := 2) (pc := 1063) hx hb dL_law_1063 (by decide) ?_
  refine lv_iadd (pc := 1064) hx hb dL_law_1064 ?_
  refine va_sld (pc := 1065) hx hb hX hbl hbA hS (lix2 hL hj) dL_law_1065 ?_
  refine lv_if_eq (tgt := 1073) (pc := 1066) hx hb dL_law_1066 (by decide) (fun z2 => ?_) (fun z2 => ?_)
  · refine lv_iconst (v := 0) (pc := 1073) hx hb dL_law_1073 (by decide) ?_
    obtain ⟨r9, T2, T8, e1, e2, hR⟩ := sim_done (N := 3000) (by decide) hR ((xs (Int32.toNatClampNeg ((nI (6 * j)) + 1)))) (0)
    refine kwI (g := g) (A := (fun q : Nat => s.heap.size ≤ q)) (W0 := (wd_7_5_6_1_2_4_3_0_8 g S7 S5 S6 S1 S2 S4 S3 S0 S8)) (wc := (wd_7_2 g S7 S2)) (wr := (wd_5_6_1_4_3_0_8 g S5 S6 S1 S4 S3 S0 S8)) (w1 := (wd_7_2 g S7 T2)) (W1 := (wd_7_5_6_1_2_4_3_0_8 g S7 S5 S6 S1 T2 S4 S3 S0 S8)) (pc := 1074) (As := [.int (xs (Int32.toNatClampNeg ((nI (6 * j)) + 1))), .int 0]) (rest := []) ⟨hx, hb, hml, hown, hts⟩ hK hA hP hD hS (c_X7_done l g 3000 H.size S7 S2 ((xs (Int32.toNatClampNeg ((nI (6 * j)) + 1)))) (0) (r9, T2) e1) (cwV 2 hts gL_law_X7_done rfl rfl rfl h_X7_done ⟨Nat.le_of_ble_eq_true rfl, Nat.le_of_ble_eq_true rfl⟩) [0, 1, 20, 21, 22, 23, 24, 25, 26, 27, 28] [2, 3, 4, 5, 6, 7, 8, 9, 10, 11, 12, 13, 14, 15, 16, 17, 18, 19, 29, 30, 31, 32, 33, 34, 35, 36, 37, 38, 39, 40, 41, 42, 43, 44, 45, 46, 47, 48, 49, 50, 51, 52, 53, 54, 55, 56, 57, 58, 59, 60, 61, 62, 63, 64, 65, 66, 67, 68, 69, 70, 71, 72, 73] [63, 64, 0, 1, 2, 3, 4, 5, 6, 7, 8, 9, 10, 11, 12, 13, 14, 15, 16, 17, 65, 66, 67, 68, 69, 70, 71, 72, 73, 18, 19, 20, 21, 22, 23, 24, 25, 26, 27, 28, 29, 30, 31, 32, 33, 34, 35, 36, 37, 38, 39, 40, 41, 42, 43, 44, 45, 46, 47, 48, 49, 50, 51, 52, 53, 54, 55, 56, 57, 58, 59, 60, 61, 62] rfl rfl rfl rfl rfl (by decide) rfl rfl rfl rfl rfl rfl hl.1 rfl (Nat.le_of_ble_eq_true rfl) dL_law_1074 ⟨Nat.le_of_ble_eq_true rfl, Nat.le_of_ble_eq_true rfl⟩ (fun H locs hP hD hS => ?_)
    refine lv_aload_n (pc := 1077) hx hb dL_law_1077 rfl (lv_at hl 2 rfl) ?_
    refine lv_aload_n (pc := 1078) hx hb dL_law_1078 rfl (lv_at hl 0 rfl) ?_
    refine lv_iload_n (pc := 1079) hx hb dL_law_1079 rfl (lv_at hl 3 rfl) ?_
    refine lv_iconst (v := 1) (pc := 1080) hx hb dL_law_1080 (by decide) ?_
    refine lv_iadd (pc := 1081) hx hb dL_law_1081 ?_
    refine va_sld (pc := 1082) hx hb hX hbl hbA hS (lix1 hL hj) dL_law_1082 ?_
    refine lv_aload_n (pc := 1083) hx hb dL_law_1083 rfl (lv_at hl 0 rfl) ?_
    refine lv_iload_n (pc := 1084) hx hb dL_law_1084 rfl (lv_at hl 3 rfl) ?_
    refine lv_iconst (v := 2) (pc := 1085) hx hb dL_law_1085 (by decide) ?_
    refine lv_iadd (pc := 1086) hx hb dL_law_1086 ?_
    refine va_sld (pc := 1087) hx hb hX hbl hbA hS (lix2 hL hj) dL_law_1087 ?_
    refine lv_if_eq (tgt := 1095) (pc := 1088) hx hb dL_law_1088 (by decide) (fun _ => ?_) (fun q => absurd z2 q)
    refine lv_iconst (v := 0) (pc := 1095) hx hb dL_law_1095 (by decide) ?_
    refine kwI (g := g) (A := (fun q : Nat => s.heap.size ≤ q)) (W0 := (wd_7_5_6_1_2_4_3_0_8 g S7 S5 S6 S1 T2 S4 S3 S0 S8)) (wc := (wd_8 g S8)) (wr := (wd_7_5_6_1_2_4_3_0 g S7 S5 S6 S1 T2 S4 S3 S0)) (w1 := (wd_8 g T8)) (W1 := (wd_7_5_6_1_2_4_3_0_8 g S7 S5 S6 S1 T2 S4 S3 S0 T8)) (pc := 1096) (As := [.int (xs (Int32.toNatClampNeg ((nI (6 * j)) + 1))), .int 0]) (rest := [.int r9]) ⟨hx, hb, hml, hown, hts⟩ hK hA hP hD hS (c_X8_done l g 3000 H.size S8 ((xs (Int32.toNatClampNeg ((nI (6 * j)) + 1)))) (0) (r9, T8) e2) (cwV 2 hts gL_law_X8_done rfl rfl rfl h_X8_done ⟨Nat.le_of_ble_eq_true rfl, Nat.le_of_ble_eq_true rfl⟩) [42, 43, 44, 45, 46, 47, 48, 49, 50, 51, 52, 53, 54, 55, 56, 57, 58, 59, 60, 61, 62, 63, 64, 65, 66, 67, 68, 69, 70, 71, 72, 73] [0, 1, 2, 3, 4, 5, 6, 7, 8, 9, 10, 11, 12, 13, 14, 15, 16, 17, 18, 19, 20, 21, 22, 23, 24, 25, 26, 27, 28, 29, 30, 31, 32, 33, 34, 35, 36, 37, 38, 39, 40, 41] [0, 1, 2, 3, 4, 5, 6, 7, 8, 9, 10, 11, 12, 13, 14, 15, 16, 17, 18, 19, 20, 21, 22, 23, 24, 25, 26, 27, 28, 29, 30, 31, 32, 33, 34, 35, 36, 37, 38, 39, 40, 41, 42, 43, 44, 45, 46, 47, 48, 49, 50, 51, 52, 53, 54, 55, 56, 57, 58, 59, 60, 61, 62, 63, 64, 65, 66, 67, 68, 69, 70, 71, 72, 73] rfl rfl rfl rfl rfl (by decide) rfl rfl rfl rfl rfl rfl hl.1 rfl (Nat.le_of_ble_eq_true rfl) dL_law_1096 ⟨Nat.le_of_ble_eq_true rfl, Nat.le_of_ble_eq_true rfl⟩ (fun H locs hP hD hS => ?_)
    refine lv_icmp_eq (tgt := 1616) (pc := 1099) hx hb dL_law_1099 (by decide) (fun _ => ?_) (fun q => absurd rfl q)
    exact NX S7 S5 S6 S1 T2 S4 S3 S0 T8 H locs ls hR hP hD hS hl
  · refine lv_iconst (v := 1) (pc := 1069) hx hb dL_law_1069 (by decide) ?_
    refine lv_goto (tgt := 1074) (pc := 1070) hx hb dL_law_1070 (by decide) ?_
    obtain ⟨r9, T2, T8, e1, e2, hR⟩ := sim_done (N := 3000) (by decide) hR ((xs (Int32.toNatClampNeg ((nI (6 * j)) + 1)))) (1)
    refine kwI (g := g) (A := (fun q : Nat => s.heap.size ≤ q)) (W0 := (wd_7_5_6_1_2_4_3_0_8 g S7 S5 S6 S1 S2 S4 S3 S0 S8)) (wc := (wd_7_2 g S7 S2)) (wr := (wd_5_6_1_4_3_0_8 g S5 S6 S1 S4 S3 S0 S8)) (w1 := (wd_7_2 g S7 T2)) (W1 := (wd_7_5_6_1_2_4_3_0_8 g S7 S5 S6 S1 T2 S4 S3 S0 S8)) (pc := 1074) (As := [.int (xs (Int32.toNatClampNeg ((nI (6 * j)) + 1))), .int 1]) (rest := []) ⟨hx, hb, hml, hown, hts⟩ hK hA hP hD hS (c_X7_done l g 3000 H.size S7 S2 ((xs (Int32.toNatClampNeg ((nI (6 * j)) + 1)))) (1) (r9, T2) e1) (cwV 2 hts gL_law_X7_done rfl rfl rfl h_X7_done ⟨Nat.le_of_ble_eq_true rfl, Nat.le_of_ble_eq_true rfl⟩) [0, 1, 20, 21, 22, 23, 24, 25, 26, 27, 28] [2, 3, 4, 5, 6, 7, 8, 9, 10, 11, 12, 13, 14, 15, 16, 17, 18, 19, 29, 30, 31, 32, 33, 34, 35, 36, 37, 38, 39, 40, 41, 42, 43, 44, 45, 46, 47, 48, 49, 50, 51, 52, 53, 54, 55, 56, 57, 58, 59, 60, 61, 62, 63, 64, 65, 66, 67, 68, 69, 70, 71, 72, 73] [63, 64, 0, 1, 2, 3, 4, 5, 6, 7, 8, 9, 10, 11, 12, 13, 14, 15, 16, 17, 65, 66, 67, 68, 69, 70, 71, 72, 73, 18, 19, 20, 21, 22, 23, 24, 25, 26, 27, 28, 29, 30, 31, 32, 33, 34, 35, 36, 37, 38, 39, 40, 41, 42, 43, 44, 45, 46, 47, 48, 49, 50, 51, 52, 53, 54, 55, 56, 57, 58, 59, 60, 61, 62] rfl rfl rfl rfl rfl (by decide) rfl rfl rfl rfl rfl rfl hl.1 rfl (Nat.le_of_ble_eq_true rfl) dL_law_1074 ⟨Nat.le_of_ble_eq_true rfl, Nat.le_of_ble_eq_true rfl⟩ (fun H locs hP hD hS => ?_)
    refine lv_aload_n (pc := 1077) hx hb dL_law_1077 rfl (lv_at hl 2 rfl) ?_
    refine lv_aload_n (pc := 1078) hx hb dL_law_1078 rfl (lv_at hl 0 rfl) ?_
    refine lv_iload_n (pc := 1079) hx hb dL_law_1079 rfl (lv_at hl 3 rfl) ?_
    refine lv_iconst (v := 1) (pc := 1080) hx hb dL_law_1080 (by decide) ?_
    refine lv_iadd (pc := 1081) hx hb dL_law_1081 ?_
    refine va_sld (pc := 1082) hx hb hX hbl hbA hS (lix1 hL hj) dL_law_1082 ?_
    refine lv_aload_n (pc := 1083) hx hb dL_law_1083 rfl (lv_at hl 0 rfl) ?_
    refine lv_iload_n (pc := 1084) hx hb dL_law_1084 rfl (lv_at hl 3 rfl) ?_
    refine lv_iconst (v := 2) (pc := 1085) hx hb dL_law_1085 (by decide) ?_
    refine lv_iadd (pc := 1086) hx hb dL_law_1086 ?_
    refine va_sld (pc := 1087) hx hb hX hbl hbA hS (lix2 hL hj) dL_law_1087 ?_
    refine lv_if_eq (tgt := 1095) (pc := 1088) hx hb dL_law_1088 (by decide) (fun q => absurd q z2) (fun _ => ?_)
    refine lv_iconst (v := 1) (pc := 1091) hx hb dL_law_1091 (by decide) ?_
    refine lv_goto (tgt := 1096) (pc := 1092) hx hb dL_law_1092 (by decide) ?_
    refine kwI (g := g) (A := (fun q : Nat => s.heap.size ≤ q)) (W0 := (wd_7_5_6_1_2_4_3_0_8 g S7 S5 S6 S1 T2 S4 S3 S0 S8)) (wc := (wd_8 g S8)) (wr := (wd_7_5_6_1_2_4_3_0 g S7 S5 S6 S1 T2 S4 S3 S0)) (w1 := (wd_8 g T8)) (W1 := (wd_7_5_6_1_2_4_3_0_8 g S7 S5 S6 S1 T2 S4 S3 S0 T8)) (pc := 1096) (As := [.int (xs (Int32.toNatClampNeg ((nI (6 * j)) + 1))), .int 1]) (rest := [.int r9]) ⟨hx, hb, hml, hown, hts⟩ hK hA hP hD hS (c_X8_done l g 3000 H.size S8 ((xs (Int32.toNatClampNeg ((nI (6 * j)) + 1)))) (1) (r9, T8) e2) (cwV 2 hts gL_law_X8_done rfl rfl rfl h_X8_done ⟨Nat.le_of_ble_eq_true rfl, Nat.le_of_ble_eq_true rfl⟩) [42, 43, 44, 45, 46, 47, 48, 49, 50, 51, 52, 53, 54, 55, 56, 57, 58, 59, 60, 61, 62, 63, 64, 65, 66, 67, 68, 69, 70, 71, 72, 73] [0, 1, 2, 3, 4, 5, 6, 7, 8, 9, 10, 11, 12, 13, 14, 15, 16, 17, 18, 19, 20, 21, 22, 23, 24, 25, 26, 27, 28, 29, 30, 31, 32, 33, 34, 35, 36, 37, 38, 39, 40, 41] [0, 1, 2, 3, 4, 5, 6, 7, 8, 9, 10, 11, 12, 13, 14, 15, 16, 17, 18, 19, 20, 21, 22, 23, 24, 25, 26, 27, 28, 29, 30, 31, 32, 33, 34, 35, 36, 37, 38, 39, 40, 41, 42, 43, 44, 45, 46, 47, 48, 49, 50, 51, 52, 53, 54, 55, 56, 57, 58, 59, 60, 61, 62, 63, 64, 65, 66, 67, 68, 69, 70, 71, 72, 73] rfl rfl rfl rfl rfl (by decide) rfl rfl rfl rfl rfl rfl hl.1 rfl (Nat.le_of_ble_eq_true rfl) dL_law_1096 ⟨Nat.le_of_ble_eq_true rfl, Nat.le_of_ble_eq_true rfl⟩ (fun H locs hP hD hS => ?_)
    refine lv_icmp_eq (tgt := 1616) (pc := 1099) hx hb dL_law_1099 (by decide) (fun _ => ?_) (fun q => absurd rfl q)
    exact NX S7 S5 S6 S1 T2 S4 S3 S0 T8 H locs ls hR hP hD hS hl
set_option maxHeartbeats 8000000 in
set_option maxRecDepth 100000 in
theorem law_c_24 {p : Program} {l : Launch} {e : Env} {s : State} {m : MethodId} {below : List Frame} {meth : Method} {c : Code} {g : En} {b L j : Nat} {xs : Nat → Int32} (hL : L ≤ 3072) (C0 : lw_At p s m meth c b L xs) (hK : va_K g.1 vwCl (tyl g) s) (hj : 6 * j + 6 ≤ L) (NX : ∀ (S7 : St) (S5 : St) (S6 : St) (S1 : St) (S2 : St) (S4 : St) (S3 : St) (S0 : St) (S8 : St) (H : Heap) (locs : List Loc) (ls : Array Slot), Rel S7 S5 S6 S2 S4 S3 S0 S8 → va_P g.1 vwCl (wd_7_5_6_1_2_4_3_0_8 g S7 S5 S6 S1 S2 S4 S3 S0 S8) H → va_D (fun q : Nat => s.heap.size ≤ q) (wd_7_5_6_1_2_4_3_0_8 g S7 S5 S6 S1 S2 S4 S3 S0 S8) → va_S (fun q : Nat => s.heap.size ≤ q) s.heap H locs → lv_has ls 4 [(0, .ref b), (1, .ref (g.2.2.1 7)), (2, .ref (g.2.2.1 8)), (3, .int (nI (6 * j)))] → W p l e room_1 s m #[Value.ref b] below meth c H locs 74 3834 (lw_Z below #[Value.ref b] s) (F0 m 1616 ls [])) : ∀ (S7 : St) (S5 : St) (S6 : St) (S1 : St) (S2 : St) (S4 : St) (S3 : St) (S0 : St) (S8 : St) (H : Heap) (locs : List Loc) (ls : Array Slot), Rel S7 S5 S6 S2 S4 S3 S0 S8 → va_P g.1 vwCl (wd_7_5_6_1_2_4_3_0_8 g S7 S5 S6 S1 S2 S4 S3 S0 S8) H → va_D (fun q : Nat => s.heap.size ≤ q) (wd_7_5_6_1_2_4_3_0_8 g S7 S5 S6 S1 S2 S4 S3 S0 S8) → va_S (fun q : Nat => s.heap.size ≤ q) s.heap H locs → lv_has ls 4 [(0, .ref b), (1, .ref (g.2.2.1 7)), (2, .ref (g.2.2.1 8)), (3, .int (nI (6 * j)))] → W p l e room_1 s m #[Value.ref b] below meth c H locs 74 3834 (lw_Z below #[Value.ref b] s) (F0 m 1104 ls []) := by
  intro S7 S5 S6 S1 S2 S4 S3 S0 S8 H locs ls hR hP hD hS hl
  obtain ⟨hx, hb, hr, hml, hown0, hts0, hX, hbl, hlocks, hgv⟩ := id C0
  have hown : s.vm.findClass RL = some m.cls := hown0
  have hts : ∀ w ∈ wsL_law, w.before #[Value.ref b] s = true := fun w h => hts0 w (wsL_law_in w h)
  have hA : ∀ q : Nat, s.heap.size ≤ q → (fun q : Nat => s.heap.size ≤ q) q := fun _ h => h
  have hbA : ¬ (fun q : Nat => s.heap.size ≤ q) b := Nat.not_le.mpr hbl
  refine lv_aload_n (pc := 1104) hx hb dL_law_1104 rfl (lv_at hl 1 rfl) ?_
  refine lv_aload_n (pc := 1105) hx hb dL_law_1105 rfl (lv_at hl 0 rfl) ?_
  refine lv_iload_n (pc := 1106) hx hb dL_law_1106 rfl (lv_at hl 3 rfl) ?_
  refine lv_iconst (v := 1) (pc := 1107) hx hb dL_law_1107 (by decide) ?_
  refine lv_iadd (pc := 1108) hx hb dL_law_1108 ?_
  refine va_sld (pc := 1109) hx hb hX hbl hbA hS (lix1 hL hj) dL_law_1109 ?_
  obtain ⟨r9, T7, T8, e1, e2, hR⟩ := sim_chance (N := 3000) (by decide) hR ((xs (Int32.toNatClampNeg ((nI (6 * j)) + 1))))
  refine kwI (g := g) (A := (fun q : Nat => s.heap.size ≤ q)) (W0 := (wd_7_5_6_1_2_4_3_0_8 g S7 S5 S6 S1 S2 S4 S3 S0 S8)) (wc := (wd_7_2 g S7 S2)) (wr := (wd_5_6_1_4_3_0_8 g S5 S6 S1 S4 S3 S0 S8)) (w1 := (wd_7_2 g T7 S2)) (W1 := (wd_7_5_6_1_2_4_3_0_8 g T7 S5 S6 S1 S2 S4 S3 S0 S8)) (pc := 1110) (As := [.int (xs (Int32.toNatClampNeg ((nI (6 * j)) + 1)))]) (rest := []) ⟨hx, hb, hml, hown, hts⟩ hK hA hP hD hS (c_X7_chance l g 3000 H.size S7 S2 ((xs (Int32.toNatClampNeg ((nI (6 * j)) + 1)))) (r9, T7) e1) (cwV 1 hts gL_law_X7_chance rfl rfl rfl h_X7_chance ⟨Nat.le_of_ble_eq_true rfl, Nat.le_of_ble_eq_true rfl⟩) [0, 1, 20, 21, 22, 23, 24, 25, 26, 27, 28] [2, 3, 4, 5, 6, 7, 8, 9, 10, 11, 12, 13, 14, 15, 16, 17, 18, 19, 29, 30, 31, 32, 33, 34, 35, 36, 37, 38, 39, 40, 41, 42, 43, 44, 45, 46, 47, 48, 49, 50, 51, 52, 53, 54, 55, 56, 57, 58, 59, 60, 61, 62, 63, 64, 65, 66, 67, 68, 69, 70, 71, 72, 73] [63, 64, 0, 1, 2, 3, 4, 5, 6, 7, 8, 9, 10, 11, 12, 13, 14, 15, 16, 17, 65, 66, 67, 68, 69, 70, 71, 72, 73, 18, 19, 20, 21, 22, 23, 24, 25, 26, 27, 28, 29, 30, 31, 32, 33, 34, 35, 36, 37, 38, 39, 40, 41, 42, 43, 44, 45, 46, 47, 48, 49, 50, 51, 52, 53, 54, 55, 56, 57, 58, 59, 60, 61, 62] rfl rfl rfl rfl rfl (by decide) rfl rfl rfl rfl rfl rfl hl.1 rfl (Nat.le_of_ble_eq_true rfl) dL_law_1110 ⟨Nat.le_of_ble_eq_true rfl, Nat.le_of_ble_eq_true rfl⟩ (fun H locs hP hD hS => ?_)
  refine lv_aload_n (pc := 1113) hx hb dL_law_1113 rfl (lv_at hl 2 rfl) ?_
  refine lv_aload_n (pc := 1114) hx hb dL_law_1114 rfl (lv_at hl 0 rfl) ?_
  refine lv_iload_n (pc := 1115) hx hb dL_law_1115 rfl (lv_at hl 3 rfl) ?_
  refine lv_iconst (v := 1) (pc := 1116) hx hb dL_law_1116 (by decide) ?_
  refine lv_iadd (pc := 1117) hx hb dL_law_1117 ?_
  refine va_sld (pc := 1118) hx hb hX hbl hbA hS (lix1 hL hj) dL_law_1118 ?_
  refine kwI (g := g) (A := (fun q : Nat => s.heap.size ≤ q)) (W0 := (wd_7_5_6_1_2_4_3_0_8 g T7 S5 S6 S1 S2 S4 S3 S0 S8)) (wc := (wd_8 g S8)) (wr := (wd_7_5_6_1_2_4_3_0 g T7 S5 S6 S1 S2 S4 S3 S0)) (w1 := (wd_8 g T8)) (W1 := (wd_7_5_6_1_2_4_3_0_8 g T7 S5 S6 S1 S2 S4 S3 S0 T8)) (pc := 1119) (As := [.int (xs (Int32.toNatClampNeg ((nI (6 * j)) + 1)))]) (rest := [.int r9]) ⟨hx, hb, hml, hown, hts⟩ hK hA hP hD hS (c_X8_chance l g 3000 H.size S8 ((xs (Int32.toNatClampNeg ((nI (6 * j)) + 1)))) (r9, T8) e2) (cwV 1 hts gL_law_X8_chance rfl rfl rfl h_X8_chance ⟨Nat.le_of_ble_eq_true rfl, Nat.le_of_ble_eq_true rfl⟩) [42, 43, 44, 45, 46, 47, 48, 49, 50, 51, 52, 53, 54, 55, 56, 57, 58, 59, 60, 61, 62, 63, 64, 65, 66, 67, 68, 69, 70, 71, 72, 73] [0, 1, 2, 3, 4, 5, 6, 7, 8, 9, 10, 11, 12, 13, 14, 15, 16, 17, 18, 19, 20, 21, 22, 23, 24, 25, 26, 27, 28, 29, 30, 31, 32, 33, 34, 35, 36, 37, 38, 39, 40, 41] [0, 1, 2, 3, 4, 5, 6, 7, 8, 9, 10, 11, 12, 13, 14, 15, 16, 17, 18, 19, 20, 21, 22, 23, 24, 25, 26, 27, 28, 29, 30, 31, 32, 33, 34, 35, 36, 37, 38, 39, 40, 41, 42, 43, 44, 45, 46, 47, 48, 49, 50, 51, 52, 53, 54, 55, 56, 57, 58, 59, 60, 61, 62, 63, 64, 65, 66, 67, 68, 69, 70, 71, 72, 73] rfl rfl rfl rfl rfl (by decide) rfl rfl rfl rfl rfl rfl hl.1 rfl (Nat.le_of_ble_eq_true rfl) dL_law_1119 ⟨Nat.le_of_ble_eq_true rfl, Nat.le_of_ble_eq_true rfl⟩ (fun H locs hP hD hS => ?_)
  refine lv_icmp_eq (tgt := 1616) (pc := 1122) hx hb dL_law_1122 (by decide) (fun _ => ?_) (fun q => absurd rfl q)
  exact NX T7 S5 S6 S1 S2 S4 S3 S0 T8 H locs ls hR hP hD hS hl
set_option maxHeartbeats 8000000 in
set_option maxRecDepth 100000 in
theorem law_c_25 {p : Program} {l : Launch} {e : Env} {s : State} {m : MethodId} {below : List Frame} {meth : Method} {c : Code} {g : En} {b L j : Nat} {xs : Nat → Int32} (hL : L ≤ 3072) (C0 : lw_At p s m meth c b L xs) (hK : va_K g.1 vwCl (tyl g) s) (hj : 6 * j + 6 ≤ L) (NX : ∀ (S7 : St) (S5 : St) (S6 : St) (S1 : St) (S2 : St) (S4 : St) (S3 : St) (S0 : St) (S8 : St) (H : Heap) (locs : List Loc) (ls : Array Slot), Rel S7 S5 S6 S2 S4 S3 S0 S8 → va_P g.1 vwCl (wd_7_5_6_1_2_4_3_0_8 g S7 S5 S6 S1 S2 S4 S3 S0 S8) H → va_D (fun q : Nat => s.heap.size ≤ q) (wd_7_5_6_1_2_4_3_0_8 g S7 S5 S6 S1 S2 S4 S3 S0 S8) → va_S (fun q : Nat => s.heap.size ≤ q) s.heap H locs → lv_has ls 4 [(0, .ref b), (1, .ref (g.2.2.1 7)), (2, .ref (g.2.2.1 8)), (3, .int (nI (6 * j)))] → W p l e room_1 s m #[Value.ref b] below meth c H locs 74 3834 (lw_Z below #[Value.ref b] s) (F0 m 1616 ls [])) : ∀ (S7 : St) (S5 : St) (S6 : St) (S1 : St) (S2 : St) (S4 : St) (S3 : St) (S0 : St) (S8 : St) (H : Heap) (locs : List Loc) (ls : Array Slot), Rel S7 S5 S6 S2 S4 S3 S0 S8 → va_P g.1 vwCl (wd_7_5_6_1_2_4_3_0_8 g S7 S5 S6 S1 S2 S4 S3 S0 S8) H → va_D (fun q : Nat => s.heap.size ≤ q) (wd_7_5_6_1_2_4_3_0_8 g S7 S5 S6 S1 S2 S4 S3 S0 S8) → va_S (fun q : Nat => s.heap.size ≤ q) s.heap H locs → lv_has ls 4 [(0, .ref b), (1, .ref (g.2.2.1 7)), (2, .ref (g.2.2.1 8)), (3, .int (nI (6 * j)))] → W p l e room_1 s m #[Value.ref b] below meth c H locs 74 3834 (lw_Z below #[Value.ref b] s) (F0 m 1127 ls []) := by
  intro S7 S5 S6 S1 S2 S4 S3 S0 S8 H locs ls hR hP hD hS hl
  obtain ⟨hx, hb, hr, hml, hown0, hts0, hX, hbl, hlocks, hgv⟩ := id C0
  have hown : s.vm.findClass RL = some m.cls := hown0
  have hts : ∀ w ∈ wsL_law, w.before #[Value.ref b] s = true := fun w h => hts0 w (wsL_law_in w h)
  have hA : ∀ q : Nat, s.heap.size ≤ q → (fun q : Nat => s.heap.size ≤ q) q := fun _ h => h
  have hbA : ¬ (fun q : Nat => s.heap.size ≤ q) b := Nat.not_le.mpr hbl
  refine lv_aload_n (pc := 1127) hx hb dL_law_1127 rfl (lv_at hl 1 rfl) ?_
  obtain ⟨r9, T7, T8, e1, e2, hR⟩ := sim_likely (N := 3000) (by decide) hR 
  refine kwI (g := g) (A := (fun q : Nat => s.heap.size ≤ q)) (W0 := (wd_7_5_6_1_2_4_3_0_8 g S7 S5 S6 S1 S2 S4 S3 S0 S8)) (wc := (wd_7_2 g S7 S2)) (wr := (wd_5_6_1_4_3_0_8 g S5 S6 S1 S4 S3 S0 S8)) (w1 := (wd_7_2 g T7 S2)) (W1 := (wd_7_5_6_1_2_4_3_0_8 g T7 S5 S6 S1 S2 S4 S3 S0 S8)) (pc := 1128) (As := []) (rest := []) ⟨hx, hb, hml, hown, hts⟩ hK hA hP hD hS (c_X7_likely l g 3000 H.size S7 S2 (r9, T7) e1) (cwV 0 hts gL_law_X7_likely rfl rfl rfl h_X7_likely ⟨Nat.le_of_ble_eq_true rfl, Nat.le_of_ble_eq_true rfl⟩) [0, 1, 20, 21, 22, 23, 24, 25, 26, 27, 28] [2, 3, 4, 5, 6, 7, 8, 9, 10, 11, 12, 13, 14, 15, 16, 17, 18, 19, 29, 30, 31, 32, 33, 34, 35, 36, 37, 38, 39, 40, 41, 42, 43, 44, 45, 46, 47, 48, 49, 50, 51, 52, 53, 54, 55, 56, 57, 58, 59, 60, 61, 62, 63, 64, 65, 66, 67, 68, 69, 70, 71, 72, 73] [63, 64, 0, 1, 2, 3, 4, 5, 6, 7, 8, 9, 10, 11, 12, 13, 14, 15, 16, 17, 65, 66, 67, 68, 69, 70, 71, 72, 73, 18, 19, 20, 21, 22, 23, 24, 25, 26, 27, 28, 29, 30, 31, 32, 33, 34, 35, 36, 37, 38, 39, 40, 41, 42, 43, 44, 45, 46, 47, 48, 49, 50, 51, 52, 53, 54, 55, 56, 57, 58, 59, 60, 61, 62] rfl rfl rfl rfl rfl (by decide) rfl rfl rfl rfl rfl rfl hl.1 rfl (Nat.le_of_ble_eq_true rfl) dL_law_1128 ⟨Nat.le_of_ble_eq_true rfl, Nat.le_of_ble_eq_true rfl⟩ (fun H locs hP hD hS => ?_)
  refine lv_aload_n (pc := 1131) hx hb dL_law_1131 rfl (lv_at hl 2 rfl) ?_
  refine kwI (g := g) (A := (fun q : Nat => s.heap.size ≤ q)) (W0 := (wd_7_5_6_1_2_4_3_0_8 g T7 S5 S6 S1 S2 S4 S3 S0 S8)) (wc := (wd_8 g S8)) (wr := (wd_7_5_6_1_2_4_3_0 g T7 S5 S6 S1 S2 S4 S3 S0)) (w1 := (wd_8 g T8)) (W1 := (wd_7_5_6_1_2_4_3_0_8 g T7 S5 S6 S1 S2 S4 S3 S0 T8)) (pc := 1132) (As := []) (rest := [.int r9]) ⟨hx, hb, hml, hown, hts⟩ hK hA hP hD hS (c_X8_likely l g 3000 H.size S8 (r9, T8) e2) (cwV 0 hts gL_law_X8_likely rfl rfl rfl h_X8_likely ⟨Nat.le_of_ble_eq_true rfl, Nat.le_of_ble_eq_true rfl⟩) [42, 43, 44, 45, 46, 47, 48, 49, 50, 51, 52, 53, 54, 55, 56, 57, 58, 59, 60, 61, 62, 63, 64, 65, 66, 67, 68, 69, 70, 71, 72, 73] [0, 1, 2, 3, 4, 5, 6, 7, 8, 9, 10, 11, 12, 13, 14, 15, 16, 17, 18, 19, 20, 21, 22, 23, 24, 25, 26, 27, 28, 29, 30, 31, 32, 33, 34, 35, 36, 37, 38, 39, 40, 41] [0, 1, 2, 3, 4, 5, 6, 7, 8, 9, 10, 11, 12, 13, 14, 15, 16, 17, 18, 19, 20, 21, 22, 23, 24, 25, 26, 27, 28, 29, 30, 31, 32, 33, 34, 35, 36, 37, 38, 39, 40, 41, 42, 43, 44, 45, 46, 47, 48, 49, 50, 51, 52, 53, 54, 55, 56, 57, 58, 59, 60, 61, 62, 63, 64, 65, 66, 67, 68, 69, 70, 71, 72, 73] rfl rfl rfl rfl rfl (by decide) rfl rfl rfl rfl rfl rfl hl.1 rfl (Nat.le_of_ble_eq_true rfl) dL_law_1132 ⟨Nat.le_of_ble_eq_true rfl, Nat.le_of_ble_eq_true rfl⟩ (fun H locs hP hD hS => ?_)
  refine lv_icmp_eq (tgt := 1616) (pc := 1135) hx hb dL_law_1135 (by decide) (fun _ => ?_) (fun q => absurd rfl q)
  exact NX T7 S5 S6 S1 S2 S4 S3 S0 T8 H locs ls hR hP hD hS hl
set_option maxHeartbeats 8000000 in
set_option maxRecDepth 100000 in
theorem law_c_26 {p : Program} {l : Launch} {e : Env} {s : State} {m : MethodId} {below : List Frame} {meth : Method} {c : Code} {g : En} {b L j : Nat} {xs : Nat → Int32} (hL : L ≤ 3072) (C0 : lw_At p s m meth c b L xs) (hK : va_K g.1 vwCl (tyl g) s) (hj : 6 * j + 6 ≤ L) (NX : ∀ (S7 : St) (S5 : St) (S6 : St) (S1 : St) (S2 : St) (S4 : St) (S3 : St) (S0 : St) (S8 : St) (H : Heap) (locs : List Loc) (ls : Array Slot), Rel S7 S5 S6 S2 S4 S3 S0 S8 → va_P g.1 vwCl (wd_7_5_6_1_2_4_3_0_8 g S7 S5 S6 S1 S2 S4 S3 S0 S8) H → va_D (fun q : Nat => s.heap.size ≤ q) (wd_7_5_6_1_2_4_3_0_8 g S7 S5 S6 S1 S2 S4 S3 S0 S8) → va_S (fun q : Nat => s.heap.size ≤ q) s.heap H locs → lv_has ls 4 [(0, .ref b), (1, .ref (g.2.2.1 7)), (2, .ref (g.2.2.1 8)), (3, .int (nI (6 * j)))] → W p l e room_1 s m #[Value.ref b] below meth c H locs 74 3834 (lw_Z below #[Value.ref b] s) (F0 m 1616 ls [])) : ∀ (S7 : St) (S5 : St) (S6 : St) (S1 : St) (S2 : St) (S4 : St) (S3 : St) (S0 : St) (S8 : St) (H : Heap) (locs : List Loc) (ls : Array Slot), Rel S7 S5 S6 S2 S4 S3 S0 S8 → va_P g.1 vwCl (wd_7_5_6_1_2_4_3_0_8 g S7 S5 S6 S1 S2 S4 S3 S0 S8) H → va_D (fun q : Nat => s.heap.size ≤ q) (wd_7_5_6_1_2_4_3_0_8 g S7 S5 S6 S1 S2 S4 S3 S0 S8) → va_S (fun q : Nat => s.heap.size ≤ q) s.heap H locs → lv_has ls 4 [(0, .ref b), (1, .ref (g.2.2.1 7)), (2, .ref (g.2.2.1 8)), (3, .int (nI (6 * j)))] → W p l e room_1 s m #[Value.ref b] below meth c H locs 74 3834 (lw_Z below #[Value.ref b] s) (F0 m 1140 ls []) := by
  intro S7 S5 S6 S1 S2 S4 S3 S0 S8 H locs ls hR hP hD hS hl
  obtain ⟨hx, hb, hr, hml, hown0, hts0, hX, hbl, hlocks, hgv⟩ := id C0
  have hown : s.vm.findClass RL = some m.cls := hown0
  have hts : ∀ w ∈ wsL_law, w.before #[Value.ref b] s = true := fun w h => hts0 w (wsL_law_in w h)
  have hA : ∀ q : Nat, s.heap.size ≤ q → (fun q : Nat => s.heap.size ≤ q) q := fun _ h => h
  have hbA : ¬ (fun q : Nat => s.heap.size ≤ q) b := Nat.not_le.mpr hbl
  refine lv_aload_n (pc := 1140) hx hb dL_law_1140 rfl (lv_at hl 1 rfl) ?_
  refine lv_aload_n (pc := 1141) hx hb dL_law_1141 rfl (lv_at hl 0 rfl) ?_
  refine lv_iload_n (pc := 1142) hx hb dL_law_1142 rfl (lv_at hl 3 rfl) ?_
  refine lv_iconst (v := 1) (pc := 1143) hx hb dL_law_1143 (by decide) ?_
  refine lv_iadd (pc := 1144) hx hb dL_law_1144 ?_
  refine va_sld (pc := 1145) hx hb hX hbl hbA hS (lix1 hL hj) dL_law_1145 ?_
  obtain ⟨r9, T7, T8, e1, e2, hR⟩ := sim_gain (N := 3000) (by decide) hR ((xs (Int32.toNatClampNeg ((nI (6 * j)) + 1))))
  refine kwI (g := g) (A := (fun q : Nat => s.heap.size ≤ q)) (W0 := (wd_7_5_6_1_2_4_3_0_8 g S7 S5 S6 S1 S2 S4 S3 S0 S8)) (wc := (wd_7_2 g S7 S2)) (wr := (wd_5_6_1_4_3_0_8 g S5 S6 S1 S4 S3 S0 S8)) (w1 := (wd_7_2 g T7 S2)) (W1 := (wd_7_5_6_1_2_4_3_0_8 g T7 S5 S6 S1 S2 S4 S3 S0 S8)) (pc := 1146) (As := [.int (xs (Int32.toNatClampNeg ((nI (6 * j)) + 1)))]) (rest := []) ⟨hx, hb, hml, hown, hts⟩ hK hA hP hD hS (c_X7_gain l g 3000 H.size S7 S2 ((xs (Int32.toNatClampNeg ((nI (6 * j)) + 1)))) (r9, T7) e1) (cwV 1 hts gL_law_X7_gain rfl rfl rfl h_X7_gain ⟨Nat.le_of_ble_eq_true rfl, Nat.le_of_ble_eq_true rfl⟩) [0, 1, 20, 21, 22, 23, 24, 25, 26, 27, 28] [2, 3, 4, 5, 6, 7, 8, 9, 10, 11, 12, 13, 14, 15, 16, 17, 18, 19, 29, 30, 31, 32, 33, 34, 35, 36, 37, 38, 39, 40, 41, 42, 43, 44, 45, 46, 47, 48, 49, 50, 51, 52, 53, 54, 55, 56, 57, 58, 59, 60, 61, 62, 63, 64, 65, 66, 67, 68, 69, 70, 71, 72, 73] [63, 64, 0, 1, 2, 3, 4, 5, 6, 7, 8, 9, 10, 11, 12, 13, 14, 15, 16, 17, 65, 66, 67, 68, 69, 70, 71, 72, 73, 18, 19, 20, 21, 22, 23, 24, 25, 26, 27, 28, 29, 30, 31, 32, 33, 34, 35, 36, 37, 38, 39, 40, 41, 42, 43, 44, 45, 46, 47, 48, 49, 50, 51, 52, 53, 54, 55, 56, 57, 58, 59, 60, 61, 62] rfl rfl rfl rfl rfl (by decide) rfl rfl rfl rfl rfl rfl hl.1 rfl (Nat.le_of_ble_eq_true rfl) dL_law_1146 ⟨Nat.le_of_ble_eq_true rfl, Nat.le_of_ble_eq_true rfl⟩ (fun H locs hP hD hS => ?_)
  refine lv_aload_n (pc := 1149) hx hb dL_law_1149 rfl (lv_at hl 2 rfl) ?_
  refine lv_aload_n (pc := 1150) hx hb dL_law_1150 rfl (lv_at hl 0 rfl) ?_
  refine lv_iload_n (pc := 1151) hx hb dL_law_1151 rfl (lv_at hl 3 rfl) ?_
  refine lv_iconst (v := 1) (pc := 1152) hx hb dL_law_1152 (by decide) ?_
  refine lv_iadd (pc := 1153) hx hb dL_law_1153 ?_
  refine va_sld (pc := 1154) hx hb hX hbl hbA hS (lix1 hL hj) dL_law_1154 ?_
  refine kwI (g := g) (A := (fun q : Nat => s.heap.size ≤ q)) (W0 := (wd_7_5_6_1_2_4_3_0_8 g T7 S5 S6 S1 S2 S4 S3 S0 S8)) (wc := (wd_8 g S8)) (wr := (wd_7_5_6_1_2_4_3_0 g T7 S5 S6 S1 S2 S4 S3 S0)) (w1 := (wd_8 g T8)) (W1 := (wd_7_5_6_1_2_4_3_0_8 g T7 S5 S6 S1 S2 S4 S3 S0 T8)) (pc := 1155) (As := [.int (xs (Int32.toNatClampNeg ((nI (6 * j)) + 1)))]) (rest := [.int r9]) ⟨hx, hb, hml, hown, hts⟩ hK hA hP hD hS (c_X8_gain l g 3000 H.size S8 ((xs (Int32.toNatClampNeg ((nI (6 * j)) + 1)))) (r9, T8) e2) (cwV 1 hts gL_law_X8_gain rfl rfl rfl h_X8_gain ⟨Nat.le_of_ble_eq_true rfl, Nat.le_of_ble_eq_true rfl⟩) [42, 43, 44, 45, 46, 47, 48, 49, 50, 51, 52, 53, 54, 55, 56, 57, 58, 59, 60, 61, 62, 63, 64, 65, 66, 67, 68, 69, 70, 71, 72, 73] [0, 1, 2, 3, 4, 5, 6, 7, 8, 9, 10, 11, 12, 13, 14, 15, 16, 17, 18, 19, 20, 21, 22, 23, 24, 25, 26, 27, 28, 29, 30, 31, 32, 33, 34, 35, 36, 37, 38, 39, 40, 41] [0, 1, 2, 3, 4, 5, 6, 7, 8, 9, 10, 11, 12, 13, 14, 15, 16, 17, 18, 19, 20, 21, 22, 23, 24, 25, 26, 27, 28, 29, 30, 31, 32, 33, 34, 35, 36, 37, 38, 39, 40, 41, 42, 43, 44, 45, 46, 47, 48, 49, 50, 51, 52, 53, 54, 55, 56, 57, 58, 59, 60, 61, 62, 63, 64, 65, 66, 67, 68, 69, 70, 71, 72, 73] rfl rfl rfl rfl rfl (by decide) rfl rfl rfl rfl rfl rfl hl.1 rfl (Nat.le_of_ble_eq_true rfl) dL_law_1155 ⟨Nat.le_of_ble_eq_true rfl, Nat.le_of_ble_eq_true rfl⟩ (fun H locs hP hD hS => ?_)
  refine lv_icmp_eq (tgt := 1616) (pc := 1158) hx hb dL_law_1158 (by decide) (fun _ => ?_) (fun q => absurd rfl q)
  exact NX T7 S5 S6 S1 S2 S4 S3 S0 T8 H locs ls hR hP hD hS hl
set_option maxHeartbeats 8000000 in
set_option maxRecDepth 100000 in
theorem law_c_27 {p : Program} {l : Launch} {e : Env} {s : State} {m : MethodId} {below : List Frame} {meth : Method} {c : Code} {g : En} {b L j : Nat} {xs : Nat → Int32} (hL : L ≤ 3072) (C0 : lw_At p s m meth c b L xs) (hK : va_K g.1 vwCl (tyl g) s) (hj : 6 * j + 6 ≤ L) (NX : ∀ (S7 : St) (S5 : St) (S6 : St) (S1 : St) (S2 : St) (S4 : St) (S3 : St) (S0 : St) (S8 : St) (H : Heap) (locs : List Loc) (ls : Array Slot), Rel S7 S5 S6 S2 S4 S3 S0 S8 → va_P g.1 vwCl (wd_7_5_6_1_2_4_3_0_8 g S7 S5 S6 S1 S2 S4 S3 S0 S8) H → va_D (fun q : Nat => s.heap.size ≤ q) (wd_7_5_6_1_2_4_3_0_8 g S7 S5 S6 S1 S2 S4 S3 S0 S8) → va_S (fun q : Nat => s.heap.size ≤ q) s.heap H locs → lv_has ls 4 [(0, .ref b), (1, .ref (g.2.2.1 7)), (2, .ref (g.2.2.1 8)), (3, .int (nI (6 * j)))] → W p l e room_1 s m #[Value.ref b] below meth c H locs 74 3834 (lw_Z below #[Value.ref b] s) (F0 m 1616 ls [])) : ∀ (S7 : St) (S5 : St) (S6 : St) (S1 : St) (S2 : St) (S4 : St) (S3 : St) (S0 : St) (S8 : St) (H : Heap) (locs : List Loc) (ls : Array Slot), Rel S7 S5 S6 S2 S4 S3 S0 S8 → va_P g.1 vwCl (wd_7_5_6_1_2_4_3_0_8 g S7 S5 S6 S1 S2 S4 S3 S0 S8) H → va_D (fun q : Nat => s.heap.size ≤ q) (wd_7_5_6_1_2_4_3_0_8 g S7 S5 S6 S1 S2 S4 S3 S0 S8) → va_S (fun q : Nat => s.heap.size ≤ q) s.heap H locs → lv_has ls 4 [(0, .ref b), (1, .ref (g.2.2.1 7)), (2, .ref (g.2.2.1 8)), (3, .int (nI (6 * j)))] → W p l e room_1 s m #[Value.ref b] below meth c H locs 74 3834 (lw_Z below #[Value.ref b] s) (F0 m 1163 ls []) := by
  intro S7 S5 S6 S1 S2 S4 S3 S0 S8 H locs ls hR hP hD hS hl
  obtain ⟨hx, hb, hr, hml, hown0, hts0, hX, hbl, hlocks, hgv⟩ := id C0
  have hown : s.vm.findClass RL = some m.cls := hown0
  have hts : ∀ w ∈ wsL_law, w.before #[Value.ref b] s = true := fun w h => hts0 w (wsL_law_in w h)
  have hA : ∀ q : Nat, s.heap.size ≤ q → (fun q : Nat => s.heap.size ≤ q) q := fun _ h => h
  have hbA : ¬ (fun q : Nat => s.heap.size ≤ q) b := Nat.not_le.mpr hbl
  refine lv_aload_n (pc := 1163) hx hb dL_law_1163 rfl (lv_at hl 1 rfl) ?_
  refine lv_aload_n (pc := 1164) hx hb dL_law_1164 rfl (lv_at hl 0 rfl) ?_
  refine lv_iload_n (pc := 1165) hx hb dL_law_1165 rfl (lv_at hl 3 rfl) ?_
  refine lv_iconst (v := 1) (pc := 1166) hx hb dL_law_1166 (by decide) ?_
  refine lv_iadd (pc := 1167) hx hb dL_law_1167 ?_
  refine va_sld (pc := 1168) hx hb hX hbl hbA hS (lix1 hL hj) dL_law_1168 ?_
  refine lv_aload_n (pc := 1169) hx hb dL_law_1169 rfl (lv_at hl 0 rfl) ?_
  refine lv_iload_n (pc := 1170) hx hb dL_law_1170 rfl (lv_at hl 3 rfl) ?_
  refine lv_iconst (v := 2) (pc := 1171) hx hb dL_law_1171 (by decide) ?_
  refine lv_iadd (pc := 1172) hx hb dL_law_1172 ?_
  refine va_sld (pc := 1173) hx hb hX hbl hbA hS (lix2 hL hj) dL_law_1173 ?_
  obtain ⟨r9, T7, T8, e1, e2, hR⟩ := sim_next (N := 3000) (by decide) hR ((xs (Int32.toNatClampNeg ((nI (6 * j)) + 1)))) ((xs (Int32.toNatClampNeg ((nI (6 * j)) + 2))))
  refine kwI (g := g) (A := (fun q : Nat => s.heap.size ≤ q)) (W0 := (wd_7_5_6_1_2_4_3_0_8 g S7 S5 S6 S1 S2 S4 S3 S0 S8)) (wc := (wd_7_2 g S7 S2)) (wr := (wd_5_6_1_4_3_0_8 g S5 S6 S1 S4 S3 S0 S8)) (w1 := (wd_7_2 g T7 S2)) (W1 := (wd_7_5_6_1_2_4_3_0_8 g T7 S5 S6 S1 S2 S4 S3 S0 S8)) (pc := 1174) (As := [.int (xs (Int32.toNatClampNeg ((nI (6 * j)) + 1))), .int (xs (Int32.toNatClampNeg ((nI (6 * j)) + 2)))]) (rest := []) ⟨hx, hb, hml, hown, hts⟩ hK hA hP hD hS (c_X7_next l g 3000 H.size S7 S2 ((xs (Int32.toNatClampNeg ((nI (6 * j)) + 1)))) ((xs (Int32.toNatClampNeg ((nI (6 * j)) + 2)))) (r9, T7) e1) (cwV 2 hts gL_law_X7_next rfl rfl rfl h_X7_next ⟨Nat.le_of_ble_eq_true rfl, Nat.le_of_ble_eq_true rfl⟩) [0, 1, 20, 21, 22, 23, 24, 25, 26, 27, 28] [2, 3, 4, 5, 6, 7, 8, 9, 10, 11, 12, 13, 14, 15, 16, 17, 18, 19, 29, 30, 31, 32, 33, 34, 35, 36, 37, 38, 39, 40, 41, 42, 43, 44, 45, 46, 47, 48, 49, 50, 51, 52, 53, 54, 55, 56, 57, 58, 59, 60, 61, 62, 63, 64, 65, 66, 67, 68, 69, 70, 71, 72, 73] [63, 64, 0, 1, 2, 3, 4, 5, 6, 7, 8, 9, 10, 11, 12, 13, 14, 15, 16, 17, 65, 66, 67, 68, 69, 70, 71, 72, 73, 18, 19, 20, 21, 22, 23, 24, 25, 26, 27, 28, 29, 30, 31, 32, 33, 34, 35, 36, 37, 38, 39, 40, 41, 42, 43, 44, 45, 46, 47, 48, 49, 50, 51, 52, 53, 54, 55, 56, 57, 58, 59, 60, 61, 62] rfl rfl rfl rfl rfl (by decide) rfl rfl rfl rfl rfl rfl hl.1 rfl (Nat.le_of_ble_eq_true rfl) dL_law_1174 ⟨Nat.le_of_ble_eq_true rfl, Nat.le_of_ble_eq_true rfl⟩ (fun H locs hP hD hS => ?_)
  refine lv_aload_n (pc := 1177) hx hb dL_law_1177 rfl (lv_at hl 2 rfl) ?_
  refine lv_aload_n (pc := 1178) hx hb dL_law_1178 rfl (lv_at hl 0 rfl) ?_
  refine lv_iload_n (pc := 1179) hx hb dL_law_1179 rfl (lv_at hl 3 rfl) ?_
  refine lv_iconst (v := 1) (pc := 1180) hx hb dL_law_1180 (by decide) ?_
  refine lv_iadd (pc := 1181) hx hb dL_law_1181 ?_
  refine va_sld (pc := 1182) hx hb hX hbl hbA hS (lix1 hL hj) dL_law_1182 ?_
  refine lv_aload_n (pc := 1183) hx hb dL_law_1183 rfl (lv_at hl 0 rfl) ?_
  refine lv_iload_n (pc := 1184) hx hb dL_law_1184 rfl (lv_at hl 3 rfl) ?_
  refine lv_iconst (v := 2) (pc := 1185) hx hb dL_law_1185 (by decide) ?_
  refine lv_iadd (pc := 1186) hx hb dL_law_1186 ?_
  refine va_sld (pc := 1187) hx hb hX hbl hbA hS (lix2 hL hj) dL_law_1187 ?_
  refine kwI (g := g) (A := (fun q : Nat => s.heap.size ≤ q)) (W0 := (wd_7_5_6_1_2_4_3_0_8 g T7 S5 S6 S1 S2 S4 S3 S0 S8)) (wc := (wd_8 g S8)) (wr := (wd_7_5_6_1_2_4_3_0 g T7 S5 S6 S1 S2 S4 S3 S0)) (w1 := (wd_8 g T8)) (W1 := (wd_7_5_6_1_2_4_3_0_8 g T7 S5 S6 S1 S2 S4 S3 S0 T8)) (pc := 1188) (As := [.int (xs (Int32.toNatClampNeg ((nI (6 * j)) + 1))), .int (xs (Int32.toNatClampNeg ((nI (6 * j)) + 2)))]) (rest := [.int r9]) ⟨hx, hb, hml, hown, hts⟩ hK hA hP hD hS (c_X8_next l g 3000 H.size S8 ((xs (Int32.toNatClampNeg ((nI (6 * j)) + 1)))) ((xs (Int32.toNatClampNeg ((nI (6 * j)) + 2)))) (r9, T8) e2) (cwV 2 hts gL_law_X8_next rfl rfl rfl h_X8_next ⟨Nat.le_of_ble_eq_true rfl, Nat.le_of_ble_eq_true rfl⟩) [42, 43, 44, 45, 46, 47, 48, 49, 50, 51, 52, 53, 54, 55, 56, 57, 58, 59, 60, 61, 62, 63, 64, 65, 66, 67, 68, 69, 70, 71, 72, 73] [0, 1, 2, 3, 4, 5, 6, 7, 8, 9, 10, 11, 12, 13, 14, 15, 16, 17, 18, 19, 20, 21, 22, 23, 24, 25, 26, 27, 28, 29, 30, 31, 32, 33, 34, 35, 36, 37, 38, 39, 40, 41] [0, 1, 2, 3, 4, 5, 6, 7, 8, 9, 10, 11, 12, 13, 14, 15, 16, 17, 18, 19, 20, 21, 22, 23, 24, 25, 26, 27, 28, 29, 30, 31, 32, 33, 34, 35, 36, 37, 38, 39, 40, 41, 42, 43, 44, 45, 46, 47, 48, 49, 50, 51, 52, 53, 54, 55, 56, 57, 58, 59, 60, 61, 62, 63, 64, 65, 66, 67, 68, 69, 70, 71, 72, 73] rfl rfl rfl rfl rfl (by decide) rfl rfl rfl rfl rfl rfl hl.1 rfl (Nat.le_of_ble_eq_true rfl) dL_law_1188 ⟨Nat.le_of_ble_eq_true rfl, Nat.le_of_ble_eq_true rfl⟩ (fun H locs hP hD hS => ?_)
  refine lv_icmp_eq (tgt := 1616) (pc := 1191) hx hb dL_law_1191 (by decide) (fun _ => ?_) (fun q => absurd rfl q)
  exact NX T7 S5 S6 S1 S2 S4 S3 S0 T8 H locs ls hR hP hD hS hl
set_option maxHeartbeats 8000000 in
set_option maxRecDepth 100000 in
theorem law_c_28 {p : Program} {l : Launch} {e : Env} {s : State} {m : MethodId} {below : List Frame} {meth : Method} {c : Code} {g : En} {b L j : Nat} {xs : Nat → Int32} (hL : L ≤ 3072) (C0 : lw_At p s m meth c b L xs) (hK : va_K g.1 vwCl (tyl g) s) (hj : 6 * j + 6 ≤ L) (NX : ∀ (S7 : St) (S5 : St) (S6 : St) (S1 : St) (S2 : St) (S4 : St) (S3 : St) (S0 : St) (S8 : St) (H : Heap) (locs : List Loc) (ls : Array Slot), Rel S7 S5 S6 S2 S4 S3 S0 S8 → va_P g.1 vwCl (wd_7_5_6_1_2_4_3_0_8 g S7 S5 S6 S1 S2 S4 S3 S0 S8) H → va_D (fun q : Nat => s.heap.size ≤ q) (wd_7_5_6_1_2_4_3_0_8 g S7 S5 S6 S1 S2 S4 S3 S0 S8) → va_S (fun q : Nat => s.heap.size ≤ q) s.heap H locs → lv_has ls 4 [(0, .ref b), (1, .ref (g.2.2.1 7)), (2, .ref (g.2.2.1 8)), (3, .int (nI (6 * j)))] → W p l e room_1 s m #[Value.ref b] below meth c H locs 74 3834 (lw_Z below #[Value.ref b] s) (F0 m 1616 ls [])) : ∀ (S7 : St) (S5 : St) (S6 : St) (S1 : St) (S2 : St) (S4 : St) (S3 : St) (S0 : St) (S8 : St) (H : Heap) (locs : List Loc) (ls : Array Slot), Rel S7 S5 S6 S2 S4 S3 S0 S8 → va_P g.1 vwCl (wd_7_5_6_1_2_4_3_0_8 g S7 S5 S6 S1 S2 S4 S3 S0 S8) H → va_D (fun q : Nat => s.heap.size ≤ q) (wd_7_5_6_1_2_4_3_0_8 g S7 S5 S6 S1 S2 S4 S3 S0 S8) → va_S (fun q : Nat => s.heap.size ≤ q) s.heap H locs → lv_has ls 4 [(0, .ref b), (1, .ref (g.2.2.1 7)), (2, .ref (g.2.2.1 8)), (3, .int (nI (6 * j)))] → W p l e room_1 s m #[Value.ref b] below meth c H locs 74 3834 (lw_Z below #[Value.ref b] s) (F0 m 1196 ls []) := by
  intro S7 S5 S6 S1 S2 S4 S3 S0 S8 H locs ls hR hP hD hS hl
  obtain ⟨hx, hb, hr, hml, hown0, hts0, hX, hbl, hlocks, hgv⟩ := id C0
  have hown : s.vm.findClass RL = some m.cls := hown0
  have hts : ∀ w ∈ wsL_law, w.before #[Value.ref b] s = true := fun w h => hts0 w (wsL_law_in w h)
  have hA : ∀ q : Nat, s.heap.size ≤ q → (fun q : Nat => s.heap.size ≤ q) q := fun _ h => h
  have hbA : ¬ (fun q : Nat => s.heap.size ≤ q) b := Nat.not_le.mpr hbl
  refine lv_aload_n (pc := 1196) hx hb dL_law_1196 rfl (lv_at hl 1 rfl) ?_
  refine lv_aload_n (pc := 1197) hx hb dL_law_1197 rfl (lv_at hl 0 rfl) ?_
  refine lv_iload_n (pc := 1198) hx hb dL_law_1198 rfl (lv_at hl 3 rfl) ?_
  refine lv_iconst (v := 1) (pc := 1199) hx hb dL_law_1199 (by decide) ?_
  refine lv_iadd (pc := 1200) hx hb dL_law_1200 ?_
  refine va_sld (pc := 1201) hx hb hX hbl hbA hS (lix1 hL hj) dL_law_1201 ?_
  refine lv_aload_n (pc := 1202) hx hb dL_law_1202 rfl (lv_at hl 0 rfl) ?_
  refine lv_iload_n (pc := 1203) hx hb dL_law_1203 rfl (lv_at hl 3 rfl) ?_
  refine lv_iconst (v := 2) (pc := 1204) hx hb dL_law_1204 (by decide) ?_
  refine lv_iadd (pc := 1205) hx hb dL_law_1205 ?_
  refine va_sld (pc := 1206) hx hb hX hbl hbA hS (lix2 hL hj) dL_law_1206 ?_
  obtain ⟨r9, T4, T8, e1, e2, hR⟩ := sim_owner (N := 3000) (by decide) hR ((xs (Int32.toNatClampNeg ((nI (6 * j)) + 1)))) ((xs (Int32.toNatClampNeg ((nI (6 * j)) + 2))))
  refine kwI (g := g) (A := (fun q : Nat => s.heap.size ≤ q)) (W0 := (wd_7_5_6_1_2_4_3_0_8 g S7 S5 S6 S1 S2 S4 S3 S0 S8)) (wc := (wd_7_4 g S7 S4)) (wr := (wd_5_6_1_2_3_0_8 g S5 S6 S1 S2 S3 S0 S8)) (w1 := (wd_7_4 g S7 T4)) (W1 := (wd_7_5_6_1_2_4_3_0_8 g S7 S5 S6 S1 S2 T4 S3 S0 S8)) (pc := 1207) (As := [.int (xs (Int32.toNatClampNeg ((nI (6 * j)) + 1))), .int (xs (Int32.toNatClampNeg ((nI (6 * j)) + 2)))]) (rest := []) ⟨hx, hb, hml, hown, hts⟩ hK hA hP hD hS (c_X7_owner l g 3000 H.size S7 S4 ((xs (Int32.toNatClampNeg ((nI (6 * j)) + 1)))) ((xs (Int32.toNatClampNeg ((nI (6 * j)) + 2)))) (r9, T4) e1) (cwV 2 hts gL_law_X7_owner rfl rfl rfl h_X7_owner ⟨Nat.le_of_ble_eq_true rfl, Nat.le_of_ble_eq_true rfl⟩) [0, 1, 29, 30, 31] [2, 3, 4, 5, 6, 7, 8, 9, 10, 11, 12, 13, 14, 15, 16, 17, 18, 19, 20, 21, 22, 23, 24, 25, 26, 27, 28, 32, 33, 34, 35, 36, 37, 38, 39, 40, 41, 42, 43, 44, 45, 46, 47, 48, 49, 50, 51, 52, 53, 54, 55, 56, 57, 58, 59, 60, 61, 62, 63, 64, 65, 66, 67, 68, 69, 70, 71, 72, 73] [69, 70, 0, 1, 2, 3, 4, 5, 6, 7, 8, 9, 10, 11, 12, 13, 14, 15, 16, 17, 18, 19, 20, 21, 22, 23, 24, 25, 26, 71, 72, 73, 27, 28, 29, 30, 31, 32, 33, 34, 35, 36, 37, 38, 39, 40, 41, 42, 43, 44, 45, 46, 47, 48, 49, 50, 51, 52, 53, 54, 55, 56, 57, 58, 59, 60, 61, 62, 63, 64, 65, 66, 67, 68] rfl rfl rfl rfl rfl (by decide) rfl rfl rfl rfl rfl rfl hl.1 rfl (Nat.le_of_ble_eq_true rfl) dL_law_1207 ⟨Nat.le_of_ble_eq_true rfl, Nat.le_of_ble_eq_true rfl⟩ (fun H locs hP hD hS => ?_)
  refine lv_aload_n (pc := 1210) hx hb dL_law_1210 rfl (lv_at hl 2 rfl) ?_
  refine lv_aload_n (pc := 1211) hx hb dL_law_1211 rfl (lv_at hl 0 rfl) ?_
  refine lv_iload_n (pc := 1212) hx hb dL_law_1212 rfl (lv_at hl 3 rfl) ?_
  refine lv_iconst (v := 1) (pc := 1213) hx hb dL_law_1213 (by decide) ?_
  refine lv_iadd (pc := 1214) hx hb dL_law_1214 ?_
  refine va_sld (pc := 1215) hx hb hX hbl hbA hS (lix1 hL hj) dL_law_1215 ?_
  refine lv_aload_n (pc := 1216) hx hb dL_law_1216 rfl (lv_at hl 0 rfl) ?_
  refine lv_iload_n (pc := 1217) hx hb dL_law_1217 rfl (lv_at hl 3 rfl) ?_
  refine lv_iconst (v := 2) (pc := 1218) hx hb dL_law_1218 (by decide) ?_
  refine lv_iadd (pc := 1219) hx hb dL_law_1219 ?_
  refine va_sld (pc := 1220) hx hb hX hbl hbA hS (lix2 hL hj) dL_law_1220 ?_
  refine kwI (g := g) (A := (fun q : Nat => s.heap.size ≤ q)) (W0 := (wd_7_5_6_1_2_4_3_0_8 g S7 S5 S6 S1 S2 T4 S3 S0 S8)) (wc := (wd_8 g S8)) (wr := (wd_7_5_6_1_2_4_3_0 g S7 S5 S6 S1 S2 T4 S3 S0)) (w1 := (wd_8 g T8)) (W1 := (wd_7_5_6_1_2_4_3_0_8 g S7 S5 S6 S1 S2 T4 S3 S0 T8)) (pc := 1221) (As := [.int (xs (Int32.toNatClampNeg ((nI (6 * j)) + 1))), .int (xs (Int32.toNatClampNeg ((nI (6 * j)) + 2)))]) (rest := [.int r9]) ⟨hx, hb, hml, hown, hts⟩ hK hA hP hD hS (c_X8_owner l g 3000 H.size S8 ((xs (Int32.toNatClampNeg ((nI (6 * j)) + 1)))) ((xs (Int32.toNatClampNeg ((nI (6 * j)) + 2)))) (r9, T8) e2) (cwV 2 hts gL_law_X8_owner rfl rfl rfl h_X8_owner ⟨Nat.le_of_ble_eq_true rfl, Nat.le_of_ble_eq_true rfl⟩) [42, 43, 44, 45, 46, 47, 48, 49, 50, 51, 52, 53, 54, 55, 56, 57, 58, 59, 60, 61, 62, 63, 64, 65, 66, 67, 68, 69, 70, 71, 72, 73] [0, 1, 2, 3, 4, 5, 6, 7, 8, 9, 10, 11, 12, 13, 14, 15, 16, 17, 18, 19, 20, 21, 22, 23, 24, 25, 26, 27, 28, 29, 30, 31, 32, 33, 34, 35, 36, 37, 38, 39, 40, 41] [0, 1, 2, 3, 4, 5, 6, 7, 8, 9, 10, 11, 12, 13, 14, 15, 16, 17, 18, 19, 20, 21, 22, 23, 24, 25, 26, 27, 28, 29, 30, 31, 32, 33, 34, 35, 36, 37, 38, 39, 40, 41, 42, 43, 44, 45, 46, 47, 48, 49, 50, 51, 52, 53, 54, 55, 56, 57, 58, 59, 60, 61, 62, 63, 64, 65, 66, 67, 68, 69, 70, 71, 72, 73] rfl rfl rfl rfl rfl (by decide) rfl rfl rfl rfl rfl rfl hl.1 rfl (Nat.le_of_ble_eq_true rfl) dL_law_1221 ⟨Nat.le_of_ble_eq_true rfl, Nat.le_of_ble_eq_true rfl⟩ (fun H locs hP hD hS => ?_)
  refine lv_icmp_eq (tgt := 1616) (pc := 1224) hx hb dL_law_1224 (by decide) (fun _ => ?_) (fun q => absurd rfl q)
  exact NX S7 S5 S6 S1 S2 T4 S3 S0 T8 H locs ls hR hP hD hS hl
set_option maxHeartbeats 8000000 in
set_option maxRecDepth 100000 in
theorem law_c_29 {p : Program} {l : Launch} {e : Env} {s : State} {m : MethodId} {below : List Frame} {meth : Method} {c : Code} {g : En} {b L j : Nat} {xs : Nat → Int32} (hL : L ≤ 3072) (C0 : lw_At p s m meth c b L xs) (hK : va_K g.1 vwCl (tyl g) s) (hj : 6 * j + 6 ≤ L) (NX : ∀ (S7 : St) (S5 : St) (S6 : St) (S1 : St) (S2 : St) (S4 : St) (S3 : St) (S0 : St) (S8 : St) (H : Heap) (locs : List Loc) (ls : Array Slot), Rel S7 S5 S6 S2 S4 S3 S0 S8 → va_P g.1 vwCl (wd_7_5_6_1_2_4_3_0_8 g S7 S5 S6 S1 S2 S4 S3 S0 S8) H → va_D (fun q : Nat => s.heap.size ≤ q) (wd_7_5_6_1_2_4_3_0_8 g S7 S5 S6 S1 S2 S4 S3 S0 S8) → va_S (fun q : Nat => s.heap.size ≤ q) s.heap H locs → lv_has ls 4 [(0, .ref b), (1, .ref (g.2.2.1 7)), (2, .ref (g.2.2.1 8)), (3, .int (nI (6 * j)))] → W p l e room_1 s m #[Value.ref b] below meth c H locs 74 3834 (lw_Z below #[Value.ref b] s) (F0 m 1616 ls [])) : ∀ (S7 : St) (S5 : St) (S6 : St) (S1 : St) (S2 : St) (S4 : St) (S3 : St) (S0 : St) (S8 : St) (H : Heap) (locs : List Loc) (ls : Array Slot), Rel S7 S5 S6 S2 S4 S3 S0 S8 → va_P g.1 vwCl (wd_7_5_6_1_2_4_3_0_8 g S7 S5 S6 S1 S2 S4 S3 S0 S8) H → va_D (fun q : Nat => s.heap.size ≤ q) (wd_7_5_6_1_2_4_3_0_8 g S7 S5 S6 S1 S2 S4 S3 S0 S8) → va_S (fun q : Nat => s.heap.size ≤ q) s.heap H locs → lv_has ls 4 [(0, .ref b), (1, .ref (g.2.2.1 7)), (2, .ref (g.2.2.1 8)), (3, .int (nI (6 * j)))] → W p l e room_1 s m #[Value.ref b] below meth c H locs 74 3834 (lw_Z below #[Value.ref b] s) (F0 m 1229 ls []) := by
  intro S7 S5 S6 S1 S2 S4 S3 S0 S8 H locs ls hR hP hD hS hl
  obtain ⟨hx, hb, hr, hml, hown0, hts0, hX, hbl, hlocks, hgv⟩ := id C0
  have hown : s.vm.findClass RL = some m.cls := hown0
  have hts : ∀ w ∈ wsL_law, w.before #[Value.ref b] s = true := fun w h => hts0 w (wsL_law_in w h)
  have hA : ∀ q : Nat, s.heap.size ≤ q → (fun q : Nat => s.heap.size ≤ q) q := fun _ h => h
  have hbA : ¬ (fun q : Nat => s.heap.size ≤ q) b := Nat.not_le.mpr hbl
  refine lv_aload_n (pc := 1229) hx hb dL_law_1229 rfl (lv_at hl 1 rfl) ?_
  refine lv_aload_n (pc := 1230) hx hb dL_law_1230 rfl (lv_at hl 0 rfl) ?_
  refine lv_iload_n (pc := 1231) hx hb dL_law_1231 rfl (lv_at hl 3 rfl) ?_
  refine lv_iconst (v := 1) (pc := 1232) hx hb dL_law_1232 (by decide) ?_
  refine lv_iadd (pc := 1233) hx hb dL_law_1233 ?_
  refine va_sld (pc := 1234) hx hb hX hbl hbA hS (lix1 hL hj) dL_law_1234 ?_
  refine lv_aload_n (pc := 1235) hx hb dL_law_1235 rfl (lv_at hl 0 rfl) ?_
  refine lv_iload_n (pc := 1236) hx hb dL_law_1236 rfl (lv_at hl 3 rfl) ?_
  refine lv_iconst (v := 2) (pc := 1237) hx hb dL_law_1237 (by decide) ?_
  refine lv_iadd (pc := 1238) hx hb dL_law_1238 ?_
  refine va_sld (pc := 1239) hx hb hX hbl hbA hS (lix2 hL hj) dL_law_1239 ?_
  obtain ⟨r9, T7, T4, T8, e1, e2, hR⟩ := sim_gaps (N := 3000) (by decide) hR ((xs (Int32.toNatClampNeg ((nI (6 * j)) + 1)))) ((xs (Int32.toNatClampNeg ((nI (6 * j)) + 2))))
  refine kwI (g := g) (A := (fun q : Nat => s.heap.size ≤ q)) (W0 := (wd_7_5_6_1_2_4_3_0_8 g S7 S5 S6 S1 S2 S4 S3 S0 S8)) (wc := (wd_7_4 g S7 S4)) (wr := (wd_5_6_1_2_3_0_8 g S5 S6 S1 S2 S3 S0 S8)) (w1 := (wd_7_4 g T7 T4)) (W1 := (wd_7_5_6_1_2_4_3_0_8 g T7 S5 S6 S1 S2 T4 S3 S0 S8)) (pc := 1240) (As := [.int (xs (Int32.toNatClampNeg ((nI (6 * j)) + 1))), .int (xs (Int32.toNatClampNeg ((nI (6 * j)) + 2)))]) (rest := []) ⟨hx, hb, hml, hown, hts⟩ hK hA hP hD hS (c_X7_gaps l g 3000 H.size S7 S4 ((xs (Int32.toNatClampNeg ((nI (6 * j)) + 1)))) ((xs (Int32.toNatClampNeg ((nI (6 * j)) + 2)))) (r9, T7, T4) e1) (cwV 2 hts gL_law_X7_gaps rfl rfl rfl h_X7_gaps ⟨Nat.le_of_ble_eq_true rfl, Nat.le_of_ble_eq_true rfl⟩) [0, 1, 29, 30, 31] [2, 3, 4, 5, 6, 7, 8, 9, 10, 11, 12, 13, 14, 15, 16, 17, 18, 19, 20, 21, 22, 23, 24, 25, 26, 27, 28, 32, 33, 34, 35, 36, 37, 38, 39, 40, 41, 42, 43, 44, 45, 46, 47, 48, 49, 50, 51, 52, 53, 54, 55, 56, 57, 58, 59, 60, 61, 62, 63, 64, 65, 66, 67, 68, 69, 70, 71, 72, 73] [69, 70, 0, 1, 2, 3, 4, 5, 6, 7, 8, 9, 10, 11, 12, 13, 14, 15, 16, 17, 18, 19, 20, 21, 22, 23, 24, 25, 26, 71, 72, 73, 27, 28, 29, 30, 31, 32, 33, 34, 35, 36, 37, 38, 39, 40, 41, 42, 43, 44, 45, 46, 47, 48, 49, 50, 51, 52, 53, 54, 55, 56, 57, 58, 59, 60, 61, 62, 63, 64, 65, 66, 67, 68] rfl rfl rfl rfl rfl (by decide) rfl rfl rfl rfl rfl rfl hl.1 rfl (Nat.le_of_ble_eq_true rfl) dL_law_1240 ⟨Nat.le_of_ble_eq_true rfl, Nat.le_of_ble_eq_true rfl⟩ (fun H locs hP hD hS => ?_)
  refine lv_aload_n (pc := 1243) hx hb dL_law_1243 rfl (lv_at hl 2 rfl) ?_
  refine lv_aload_n (pc := 1244) hx hb dL_law_1244 rfl (lv_at hl 0 rfl) ?_
  refine lv_iload_n (pc := 1245) hx hb dL_law_1245 rfl (lv_at hl 3 rfl) ?_
  refine lv_iconst (v := 1) (pc := 1246) hx hb dL_law_1246 (by decide) ?_
  refine lv_iadd (pc := 1247) hx hb dL_law_1247 ?_
  refine va_sld (pc := 1248) hx hb hX hbl hbA hS (lix1 hL hj) dL_law_1248 ?_
  refine lv_aload_n (pc := 1249) hx hb dL_law_1249 rfl (lv_at hl 0 rfl) ?_
  refine lv_iload_n (pc := 1250) hx hb dL_law_1250 rfl (lv_at hl 3 rfl) ?_
  refine lv_iconst (v := 2) (pc := 1251) hx hb dL_law_1251 (by decide) ?_
  refine lv_iadd (pc := 1252) hx hb dL_law_1252 ?_
  refine va_sld (pc := 1253) hx hb hX hbl hbA hS (lix2 hL hj) dL_law_1253 ?_
  refine kwI (g := g) (A := (fun q : Nat => s.heap.size ≤ q)) (W0 := (wd_7_5_6_1_2_4_3_0_8 g T7 S5 S6 S1 S2 T4 S3 S0 S8)) (wc := (wd_8 g S8)) (wr := (wd_7_5_6_1_2_4_3_0 g T7 S5 S6 S1 S2 T4 S3 S0)) (w1 := (wd_8 g T8)) (W1 := (wd_7_5_6_1_2_4_3_0_8 g T7 S5 S6 S1 S2 T4 S3 S0 T8)) (pc := 1254) (As := [.int (xs (Int32.toNatClampNeg ((nI (6 * j)) + 1))), .int (xs (Int32.toNatClampNeg ((nI (6 * j)) + 2)))]) (rest := [.int r9]) ⟨hx, hb, hml, hown, hts⟩ hK hA hP hD hS (c_X8_gaps l g 3000 H.size S8 ((xs (Int32.toNatClampNeg ((nI (6 * j)) + 1)))) ((xs (Int32.toNatClampNeg ((nI (6 * j)) + 2)))) (r9, T8) e2) (cwV 2 hts gL_law_X8_gaps rfl rfl rfl h_X8_gaps ⟨Nat.le_of_ble_eq_true rfl, Nat.le_of_ble_eq_true rfl⟩) [42, 43, 44, 45, 46, 47, 48, 49, 50, 51, 52, 53, 54, 55, 56, 57, 58, 59, 60, 61, 62, 63, 64, 65, 66, 67, 68, 69, 70, 71, 72, 73] [0, 1, 2, 3, 4, 5, 6, 7, 8, 9, 10, 11, 12, 13, 14, 15, 16, 17, 18, 19, 20, 21, 22, 23, 24, 25, 26, 27, 28, 29, 30, 31, 32, 33, 34, 35, 36, 37, 38, 39, 40, 41] [0, 1, 2, 3, 4, 5, 6, 7, 8, 9, 10, 11, 12, 13, 14, 15, 16, 17, 18, 19, 20, 21, 22, 23, 24, 25, 26, 27, 28, 29, 30, 31, 32, 33, 34, 35, 36, 37, 38, 39, 40, 41, 42, 43, 44, 45, 46, 47, 48, 49, 50, 51, 52, 53, 54, 55, 56, 57, 58, 59, 60, 61, 62, 63, 64, 65, 66, 67, 68, 69, 70, 71, 72, 73] rfl rfl rfl rfl rfl (by decide) rfl rfl rfl rfl rfl rfl hl.1 rfl (Nat.le_of_ble_eq_true rfl) dL_law_1254 ⟨Nat.le_of_ble_eq_true rfl, Nat.le_of_ble_eq_true rfl⟩ (fun H locs hP hD hS => ?_)
  refine lv_icmp_eq (tgt := 1616) (pc := 1257) hx hb dL_law_1257 (by decide) (fun _ => ?_) (fun q => absurd rfl q)
  exact NX T7 S5 S6 S1 S2 T4 S3 S0 T8 H locs ls hR hP hD hS hl
set_option maxHeartbeats 8000000 in
set_option maxRecDepth 100000 in
theorem law_c_30 {p : Program} {l : Launch} {e : Env} {s : State} {m : MethodId} {below : List Frame} {meth : Method} {c : Code} {g : En} {b L j : Nat} {xs : Nat → Int32} (hL : L ≤ 3072) (C0 : lw_At p s m meth c b L xs) (hK : va_K g.1 vwCl (tyl g) s) (hj : 6 * j + 6 ≤ L) (NX : ∀ (S7 : St) (S5 : St) (S6 : St) (S1 : St) (S2 : St) (S4 : St) (S3 : St) (S0 : St) (S8 : St) (H : Heap) (locs : List Loc) (ls : Array Slot), Rel S7 S5 S6 S2 S4 S3 S0 S8 → va_P g.1 vwCl (wd_7_5_6_1_2_4_3_0_8 g S7 S5 S6 S1 S2 S4 S3 S0 S8) H → va_D (fun q : Nat => s.heap.size ≤ q) (wd_7_5_6_1_2_4_3_0_8 g S7 S5 S6 S1 S2 S4 S3 S0 S8) → va_S (fun q : Nat => s.heap.size ≤ q) s.heap H locs → lv_has ls 4 [(0, .ref b), (1, .ref (g.2.2.1 7)), (2, .ref (g.2.2.1 8)), (3, .int (nI (6 * j)))] → W p l e room_1 s m #[Value.ref b] below meth c H locs 74 3834 (lw_Z below #[Value.ref b] s) (F0 m 1616 ls [])) : ∀ (S7 : St) (S5 : St) (S6 : St) (S1 : St) (S2 : St) (S4 : St) (S3 : St) (S0 : St) (S8 : St) (H : Heap) (locs : List Loc) (ls : Array Slot), Rel S7 S5 S6 S2 S4 S3 S0 S8 → va_P g.1 vwCl (wd_7_5_6_1_2_4_3_0_8 g S7 S5 S6 S1 S2 S4 S3 S0 S8) H → va_D (fun q : Nat => s.heap.size ≤ q) (wd_7_5_6_1_2_4_3_0_8 g S7 S5 S6 S1 S2 S4 S3 S0 S8) → va_S (fun q : Nat => s.heap.size ≤ q) s.heap H locs → lv_has ls 4 [(0, .ref b), (1, .ref (g.2.2.1 7)), (2, .ref (g.2.2.1 8)), (3, .int (nI (6 * j)))] → W p l e room_1 s m #[Value.ref b] below meth c H locs 74 3834 (lw_Z below #[Value.ref b] s) (F0 m 1262 ls []) := by
  intro S7 S5 S6 S1 S2 S4 S3 S0 S8 H locs ls hR hP hD hS hl
  obtain ⟨hx, hb, hr, hml, hown0, hts0, hX, hbl, hlocks, hgv⟩ := id C0
  have hown : s.vm.findClass RL = some m.cls := hown0
  have hts : ∀ w ∈ wsL_law, w.before #[Value.ref b] s = true := fun w h => hts0 w (wsL_law_in w h)
  have hA : ∀ q : Nat, s.heap.size ≤ q → (fun q : Nat => s.heap.size ≤ q) q := fun _ h => h
  have hbA : ¬ (fun q : Nat => s.heap.size ≤ q) b := Nat.not_le.mpr hbl
  refine lv_aload_n (pc := 1262) hx hb dL_law_1262 rfl (lv_at hl 1 rfl) ?_
  refine lv_aload_n (pc := 1263) hx hb dL_law_1263 rfl (lv_at hl 0 rfl) ?_
  refine lv_iload_n (pc := 1264) hx hb dL_law_1264 rfl (lv_at hl 3 rfl) ?_
  refine lv_iconst (v := 1) (pc := 1265) hx hb dL_law_1265 (by decide) ?_
  refine lv_iadd (pc := 1266) hx hb dL_law_1266 ?_
  refine va_sld (pc := 1267) hx hb hX hbl hbA hS (lix1 hL hj) dL_law_1267 ?_
  refine lv_aload_n (pc := 1268) hx hb dL_law_1268 rfl (lv_at hl 0 rfl) ?_
  refine lv_iload_n (pc := 1269) hx hb dL_law_1269 rfl (lv_at hl 3 rfl) ?_
  refine lv_iconst (v := 2) (pc := 1270) hx hb dL_law_1270 (by decide) ?_
  refine lv_iadd (pc := 1271) hx hb dL_law_1271 ?_
  refine va_sld (pc := 1272) hx hb hX hbl hbA hS (lix2 hL hj) dL_law_1272 ?_
  refine lv_aload_n (pc := 1273) hx hb dL_law_1273 rfl (lv_at hl 0 rfl) ?_
  refine lv_iload_n (pc := 1274) hx hb dL_law_1274 rfl (lv_at hl 3 rfl) ?_
  refine lv_iconst (v := 3) (pc := 1275) hx hb dL_law_1275 (by decide) ?_
  refine lv_iadd (pc := 1276) hx hb dL_law_1276 ?_
  refine va_sld (pc := 1277) hx hb hX hbl hbA hS (lix3 hL hj) dL_law_1277 ?_
  refine lv_aload_n (pc := 1278) hx hb dL_law_1278 rfl (lv_at hl 0 rfl) ?_
  refine lv_iload_n (pc := 1279) hx hb dL_law_1279 rfl (lv_at hl 3 rfl) ?_
  refine lv_iconst (v := 4) (pc := 1280) hx hb dL_law_1280 (by decide) ?_
  refine lv_iadd (pc := 1281) hx hb dL_law_1281 ?_
  refine va_sld (pc := 1282) hx hb hX hbl hbA hS (lix4 hL hj) dL_law_1282 ?_
  refine lv_if_eq (tgt := 1290) (pc := 1283) hx hb dL_law_1283 (by decide) (fun z4 => ?_) (fun z4 => ?_)
  · refine lv_iconst (v := 0) (pc := 1290) hx hb dL_law_1290 (by decide) ?_
    obtain ⟨r9, T3, T8, e1, e2, hR⟩ := sim_opinion (N := 3000) (by decide) hR ((xs (Int32.toNatClampNeg ((nI (6 * j)) + 1)))) ((xs (Int32.toNatClampNeg ((nI (6 * j)) + 2)))) ((xs (Int32.toNatClampNeg ((nI (6 * j)) + 3)))) (0)
    refine kwI (g := g) (A := (fun q : Nat => s.heap.size ≤ q)) (W0 := (wd_7_5_6_1_2_4_3_0_8 g S7 S5 S6 S1 S2 S4 S3 S0 S8)) (wc := (wd_7_3 g S7 S3)) (wr := (wd_5_6_1_2_4_0_8 g S5 S6 S1 S2 S4 S0 S8)) (w1 := (wd_7_3 g S7 T3)) (W1 := (wd_7_5_6_1_2_4_3_0_8 g S7 S5 S6 S1 S2 S4 T3 S0 S8)) (pc := 1291) (As := [.int (xs (Int32.toNatClampNeg ((nI (6 * j)) + 1))), .int (xs (Int32.toNatClampNeg ((nI (6 * j)) + 2))), .int (xs (Int32.toNatClampNeg ((nI (6 * j)) + 3))), .int 0]) (rest := []) ⟨hx, hb, hml, hown, hts⟩ hK hA hP hD hS (c_X7_opinion l g 3000 H.size S7 S3 ((xs (Int32.toNatClampNeg ((nI (6 * j)) + 1)))) ((xs (Int32.toNatClampNeg ((nI (6 * j)) + 2)))) ((xs (Int32.toNatClampNeg ((nI (6 * j)) + 3)))) (0) (r9, T3) e1) (cwV 4 hts gL_law_X7_opinion rfl rfl rfl h_X7_opinion ⟨Nat.le_of_ble_eq_true rfl, Nat.le_of_ble_eq_true rfl⟩) [0, 1, 32, 33, 34, 35, 36] [2, 3, 4, 5, 6, 7, 8, 9, 10, 11, 12, 13, 14, 15, 16, 17, 18, 19, 20, 21, 22, 23, 24, 25, 26, 27, 28, 29, 30, 31, 37, 38, 39, 40, 41, 42, 43, 44, 45, 46, 47, 48, 49, 50, 51, 52, 53, 54, 55, 56, 57, 58, 59, 60, 61, 62, 63, 64, 65, 66, 67, 68, 69, 70, 71, 72, 73] [67, 68, 0, 1, 2, 3, 4, 5, 6, 7, 8, 9, 10, 11, 12, 13, 14, 15, 16, 17, 18, 19, 20, 21, 22, 23, 24, 25, 26, 27, 28, 29, 69, 70, 71, 72, 73, 30, 31, 32, 33, 34, 35, 36, 37, 38, 39, 40, 41, 42, 43, 44, 45, 46, 47, 48, 49, 50, 51, 52, 53, 54, 55, 56, 57, 58, 59, 60, 61, 62, 63, 64, 65, 66] rfl rfl rfl rfl rfl (by decide) rfl rfl rfl rfl rfl rfl hl.1 rfl (Nat.le_of_ble_eq_true rfl) dL_law_1291 ⟨Nat.le_of_ble_eq_true rfl, Nat.le_of_ble_eq_true rfl⟩ (fun H locs hP hD hS => ?_)
    refine lv_aload_n (pc := 1294) hx hb dL_law_1294 rfl (lv_at hl 2 rfl) ?_
    refine lv_aload_n (pc := 1295) hx hb dL_law_1295 rfl (lv_at hl 0 rfl) ?_
    refine lv_iload_n (pc := 1296) hx hb dL_law_1296 rfl (lv_at hl 3 rfl) ?_
    refine lv_iconst (v := 1) (pc := 1297) hx hb dL_law_1297 (by decide) ?_
    refine lv_iadd (pc := 1298) hx hb dL_law_1298 ?_
    refine va_sld (pc := 1299) hx hb hX hbl hbA hS (lix1 hL hj) dL_law_1299 ?_
    refine lv_aload_n (pc := 1300) hx hb dL_law_1300 rfl (lv_at hl 0 rfl) ?_
    refine lv_iload_n (pc := 1301) hx hb dL_law_1301 rfl (lv_at hl 3 rfl) ?_
    refine lv_iconst (v := 2) (pc := 1302) hx hb dL_law_1302 (by decide) ?_
    refine lv_iadd (pc := 1303) hx hb dL_law_1303 ?_
    refine va_sld (pc := 1304) hx hb hX hbl hbA hS (lix2 hL hj) dL_law_1304 ?_
    refine lv_aload_n (pc := 1305) hx hb dL_law_1305 rfl (lv_at hl 0 rfl) ?_
    refine lv_iload_n (pc := 1306) hx hb dL_law_1306 rfl (lv_at hl 3 rfl) ?_
    refine lv_iconst (v := 3) (pc := 1307) hx hb dL_law_1307 (by decide) ?_
    refine lv_iadd (pc := 1308) hx hb dL_law_1308 ?_
    refine va_sld (pc := 1309) hx hb hX hbl hbA hS (lix3 hL hj) dL_law_1309 ?_
    refine lv_aload_n (pc := 1310) hx hb dL_law_1310 rfl (lv_at hl 0 rfl) ?_
    refine lv_iload_n (pc := 1311) hx hb dL_law_1311 rfl (lv_at hl 3 rfl) ?_
    refine lv_iconst (v := 4) (pc := 1312) hx hb dL_law_1312 (by decide) ?_
    refine lv_iadd (pc := 1313) hx hb dL_law_1313 ?_
    refine va_sld (pc := 1314) hx hb hX hbl hbA hS (lix4 hL hj) dL_law_1314 ?_
    refine lv_if_eq (tgt := 1322) (pc := 1315) hx hb dL_law_1315 (by decide) (fun _ => ?_) (fun q => absurd z4 q)
    refine lv_iconst (v := 0) (pc := 1322) hx hb dL_law_1322 (by decide) ?_
    refine kwI (g := g) (A := (fun q : Nat => s.heap.size ≤ q)) (W0 := (wd_7_5_6_1_2_4_3_0_8 g S7 S5 S6 S1 S2 S4 T3 S0 S8)) (wc := (wd_8 g S8)) (wr := (wd_7_5_6_1_2_4_3_0 g S7 S5 S6 S1 S2 S4 T3 S0)) (w1 := (wd_8 g T8)) (W1 := (wd_7_5_6_1_2_4_3_0_8 g S7 S5 S6 S1 S2 S4 T3 S0 T8)) (pc := 1323) (As := [.int (xs (Int32.toNatClampNeg ((nI (6 * j)) + 1))), .int (xs (Int32.toNatClampNeg ((nI (6 * j)) + 2))), .int (xs (Int32.toNatClampNeg ((nI (6 * j)) + 3))), .int 0]) (rest := [.int r9]) ⟨hx, hb, hml, hown, hts⟩ hK hA hP hD hS (c_X8_opinion l g 3000 H.size S8 ((xs (Int32.toNatClampNeg ((nI (6 * j)) + 1)))) ((xs (Int32.toNatClampNeg ((nI (6 * j)) + 2)))) ((xs (Int32.toNatClampNeg ((nI (6 * j)) + 3)))) (0) (r9, T8) e2) (cwV 4 hts gL_law_X8_opinion rfl rfl rfl h_X8_opinion ⟨Nat.le_of_ble_eq_true rfl, Nat.le_of_ble_eq_true rfl⟩) [42, 43, 44, 45, 46, 47, 48, 49, 50, 51, 52, 53, 54, 55, 56, 57, 58, 59, 60, 61, 62, 63, 64, 65, 66, 67, 68, 69, 70, 71, 72, 73] [0, 1, 2, 3, 4, 5, 6, 7, 8, 9, 10, 11, 12, 13, 14, 15, 16, 17, 18, 19, 20, 21, 22, 23, 24, 25, 26, 27, 28, 29, 30, 31, 32, 33, 34, 35, 36, 37, 38, 39, 40, 41] [0, 1, 2, 3, 4, 5, 6, 7, 8, 9, 10, 11, 12, 13, 14, 15, 16, 17, 18, 19, 20, 21, 22, 23, 24, 25, 26, 27, 28, 29, 30, 31, 32, 33, 34, 35, 36, 37, 38, 39, 40, 41, 42, 43, 44, 45, 46, 47, 48, 49, 50, 51, 52, 53, 54, 55, 56, 57, 58, 59, 60, 61, 62, 63, 64, 65, 66, 67, 68, 69, 70, 71, 72, 73] rfl rfl rfl rfl rfl (by decide) rfl rfl rfl rfl rfl rfl hl.1 rfl (Nat.le_of_ble_eq_true rfl) dL_law_1323 ⟨Nat.le_of_ble_eq_true rfl, Nat.le_of_ble_eq_true rfl⟩ (fun H locs hP hD hS => ?_)
    refine lv_icmp_eq (tgt := 1616) (pc := 1326) hx hb dL_law_1326 (by decide) (fun _ => ?_) (fun q => absurd rfl q)
    exact NX S7 S5 S6 S1 S2 S4 T3 S0 T8 H locs ls hR hP hD hS hl
  · refine lv_iconst (v := 1) (pc := 1286) hx hb dL_law_1286 (by decide) ?_
    refine lv_goto (tgt := 1291) (pc := 1287) hx hb dL_law_1287 (by decide) ?_
    obtain ⟨r9, T3, T8, e1, e2, hR⟩ := sim_opinion (N := 3000) (by decide) hR ((xs (Int32.toNatClampNeg ((nI (6 * j)) + 1)))) ((xs (Int32.toNatClampNeg ((nI (6 * j)) + 2)))) ((xs (Int32.toNatClampNeg ((nI (6 * j)) + 3)))) (1)
    refine kwI (g := g) (A := (fun q : Nat => s.heap.size ≤ q)) (W0 := (wd_7_5_6_1_2_4_3_0_8 g S7 S5 S6 S1 S2 S4 S3 S0 S8)) (wc := (wd_7_3 g S7 S3)) (wr := (wd_5_6_1_2_4_0_8 g S5 S6 S1 S2 S4 S0 S8)) (w1 := (wd_7_3 g S7 T3)) (W1 := (wd_7_5_6_1_2_4_3_0_8 g S7 S5 S6 S1 S2 S4 T3 S0 S8)) (pc := 1291) (As := [.int (xs (Int32.toNatClampNeg ((nI (6 * j)) + 1))), .int (xs (Int32.toNatClampNeg ((nI (6 * j)) + 2))), .int (xs (Int32.toNatClampNeg ((nI (6 * j)) + 3))), .int 1]) (rest := []) ⟨hx, hb, hml, hown, hts⟩ hK hA hP hD hS (c_X7_opinion l g 3000 H.size S7 S3 ((xs (Int32.toNatClampNeg ((nI (6 * j)) + 1)))) ((xs (Int32.toNatClampNeg ((nI (6 * j)) + 2)))) ((xs (Int32.toNatClampNeg ((nI (6 * j)) + 3)))) (1) (r9, T3) e1) (cwV 4 hts gL_law_X7_opinion rfl rfl rfl h_X7_opinion ⟨Nat.le_of_ble_eq_true rfl, Nat.le_of_ble_eq_true rfl⟩) [0, 1, 32, 33, 34, 35, 36] [2, 3, 4, 5, 6, 7, 8, 9, 10, 11, 12, 13, 14, 15, 16, 17, 18, 19, 20, 21, 22, 23, 24, 25, 26, 27, 28, 29, 30, 31, 37, 38, 39, 40, 41, 42, 43, 44, 45, 46, 47, 48, 49, 50, 51, 52, 53, 54, 55, 56, 57, 58, 59, 60, 61, 62, 63, 64, 65, 66, 67, 68, 69, 70, 71, 72, 73] [67, 68, 0, 1, 2, 3, 4, 5, 6, 7, 8, 9, 10, 11, 12, 13, 14, 15, 16, 17, 18, 19, 20, 21, 22, 23, 24, 25, 26, 27, 28, 29, 69, 70, 71, 72, 73, 30, 31, 32, 33, 34, 35, 36, 37, 38, 39, 40, 41, 42, 43, 44, 45, 46, 47, 48, 49, 50, 51, 52, 53, 54, 55, 56, 57, 58, 59, 60, 61, 62, 63, 64, 65, 66] rfl rfl rfl rfl rfl (by decide) rfl rfl rfl rfl rfl rfl hl.1 rfl (Nat.le_of_ble_eq_true rfl) dL_law_1291 ⟨Nat.le_of_ble_eq_true rfl, Nat.le_of_ble_eq_true rfl⟩ (fun H locs hP hD hS => ?_)
    refine lv_aload_n (pc := 1294) hx hb dL_law_1294 rfl (lv_at hl 2 rfl) ?_
    refine lv_aload_n (pc := 1295) hx hb dL_law_1295 rfl (lv_at hl 0 rfl) ?_
    refine lv_iload_n (pc := 1296) hx hb dL_law_1296 rfl (lv_at hl 3 rfl) ?_
    refine lv_iconst (v := 1) (pc := 1297) hx hb dL_law_1297 (by decide) ?_
    refine lv_iadd (pc := 1298) hx hb dL_law_1298 ?_
    refine va_sld (pc := 1299) hx hb hX hbl hbA hS (lix1 hL hj) dL_law_1299 ?_
    refine lv_aload_n (pc := 1300) hx hb dL_law_1300 rfl (lv_at hl 0 rfl) ?_
    refine lv_iload_n (pc := 1301) hx hb dL_law_1301 rfl (lv_at hl 3 rfl) ?_
    refine lv_iconst (v := 2) (pc := 1302) hx hb dL_law_1302 (by decide) ?_
    refine lv_iadd (pc := 1303) hx hb dL_law_1303 ?_
    refine va_sld (pc := 1304) hx hb hX hbl hbA hS (lix2 hL hj) dL_law_1304 ?_
    refine lv_aload_n (pc := 1305) hx hb dL_law_1305 rfl (lv_at hl 0 rfl) ?_
    refine lv_iload_n (pc := 1306) hx hb dL_law_1306 rfl (lv_at hl 3 rfl) ?_
    refine lv_iconst (v := 3) (pc := 1307) hx hb dL_law_1307 (by decide) ?_
    refine lv_iadd (pc := 1308) hx hb dL_law_1308 ?_
    refine va_sld (pc := 1309) hx hb hX hbl hbA hS (lix3 hL hj) dL_law_1309 ?_
    refine lv_aload_n (pc := 1310) hx hb dL_law_1310 rfl (lv_at hl 0 rfl) ?_
    refine lv_iload_n (pc := 1311) hx hb dL_law_1311 rfl (lv_at hl 3 rfl) ?_
    refine lv_iconst (v := 4) (pc := 1312) hx hb dL_law_1312 (by decide) ?_
    refine lv_iadd (pc := 1313) hx hb dL_law_1313 ?_
    refine va_sld (pc := 1314) hx hb hX hbl hbA hS (lix4 hL hj) dL_law_1314 ?_
    refine lv_if_eq (tgt := 1322) (pc := 1315) hx hb dL_law_1315 (by decide) (fun q => absurd q z4) (fun _ => ?_)
    refine lv_iconst (v := 1) (pc := 1318) hx hb dL_law_1318 (by decide) ?_
    refine lv_goto (tgt := 1323) (pc := 1319) hx hb dL_law_1319 (by decide) ?_
    refine kwI (g := g) (A := (fun q : Nat => s.heap.size ≤ q)) (W0 := (wd_7_5_6_1_2_4_3_0_8 g S7 S5 S6 S1 S2 S4 T3 S0 S8)) (wc := (wd_8 g S8)) (wr := (wd_7_5_6_1_2_4_3_0 g S7 S5 S6 S1 S2 S4 T3 S0)) (w1 := (wd_8 g T8)) (W1 := (wd_7_5_6_1_2_4_3_0_8 g S7 S5 S6 S1 S2 S4 T3 S0 T8)) (pc := 1323) (As := [.int (xs (Int32.toNatClampNeg ((nI (6 * j)) + 1))), .int (xs (Int32.toNatClampNeg ((nI (6 * j)) + 2))), .int (xs (Int32.toNatClampNeg ((nI (6 * j)) + 3))), .int 1]) (rest := [.int r9]) ⟨hx, hb, hml, hown, hts⟩ hK hA hP hD hS (c_X8_opinion l g 3000 H.size S8 ((xs (Int32.toNatClampNeg ((nI (6 * j)) + 1)))) ((xs (Int32.toNatClampNeg ((nI (6 * j)) + 2)))) ((xs (Int32.toNatClampNeg ((nI (6 * j)) + 3)))) (1) (r9, T8) e2) (cwV 4 hts gL_law_X8_opinion rfl rfl rfl h_X8_opinion ⟨Nat.le_of_ble_eq_true rfl, Nat.le_of_ble_eq_true rfl⟩) [42, 43, 44, 45, 46, 47, 48, 49, 50, 51, 52, 53, 54, 55, 56, 57, 58, 59, 60, 61, 62, 63, 64, 65, 66, 67, 68, 69, 70, 71, 72, 73] [0, 1, 2, 3, 4, 5, 6, 7, 8, 9, 10, 11, 12, 13, 14, 15, 16, 17, 18, 19, 20, 21, 22, 23, 24, 25, 26, 27, 28, 29, 30, 31, 32, 33, 34, 35, 36, 37, 38, 39, 40, 41] [0, 1, 2, 3, 4, 5, 6, 7, 8, 9, 10, 11, 12, 13, 14, 15, 16, 17, 18, 19, 20, 21, 22, 23, 24, 25, 26, 27, 28, 29, 30, 31, 32, 33, 34, 35, 36, 37, 38, 39, 40, 41, 42, 43, 44, 45, 46, 47, 48, 49, 50, 51, 52, 53, 54, 55, 56, 57, 58, 59, 60, 61, 62, 63, 64, 65, 66, 67, 68, 69, 70, 71, 72, 73] rfl rfl rfl rfl rfl (by decide) rfl rfl rfl rfl rfl rfl hl.1 rfl (Nat.le_of_ble_eq_true rfl) dL_law_1323 ⟨Nat.le_of_ble_eq_true rfl, Nat.le_of_ble_eq_true rfl⟩ (fun H locs hP hD hS => ?_)
    refine lv_icmp_eq (tgt := 1616) (pc := 1326) hx hb dL_law_1326 (by decide) (fun _ => ?_) (fun q => absurd rfl q)
    exact NX S7 S5 S6 S1 S2 S4 T3 S0 T8 H locs ls hR hP hD hS hl
set_option maxHeartbeats 8000000 in
set_option maxRecDepth 100000 in
theorem law_c_31 {p : Program} {l : Launch} {e : Env} {s : State} {m : MethodId} {below : List Frame} {meth : Method} {c : Code} {g : En} {b L j : Nat} {xs : Nat → Int32} (hL : L ≤ 3072) (C0 : lw_At p s m meth c b L xs) (hK : va_K g.1 vwCl (tyl g) s) (hj : 6 * j + 6 ≤ L) (NX : ∀ (S7 : St) (S5 : St) (S6 : St) (S1 : St) (S2 : St) (S4 : St) (S3 : St) (S0 : St) (S8 : St) (H : Heap) (locs : List Loc) (ls : Array Slot), Rel S7 S5 S6 S2 S4 S3 S0 S8 → va_P g.1 vwCl (wd_7_5_6_1_2_4_3_0_8 g S7 S5 S6 S1 S2 S4 S3 S0 S8) H → va_D (fun q : Nat => s.heap.size ≤ q) (wd_7_5_6_1_2_4_3_0_8 g S7 S5 S6 S1 S2 S4 S3 S0 S8) → va_S (fun q : Nat => s.heap.size ≤ q) s.heap H locs → lv_has ls 4 [(0, .ref b), (1, .ref (g.2.2.1 7)), (2, .ref (g.2.2.1 8)), (3, .int (nI (6 * j)))] → W p l e room_1 s m #[Value.ref b] below meth c H locs 74 3834 (lw_Z below #[Value.ref b] s) (F0 m 1616 ls [])) : ∀ (S7 : St) (S5 : St) (S6 : St) (S1 : St) (S2 : St) (S4 : St) (S3 : St) (S0 : St) (S8 : St) (H : Heap) (locs : List Loc) (ls : Array Slot), Rel S7 S5 S6 S2 S4 S3 S0 S8 → va_P g.1 vwCl (wd_7_5_6_1_2_4_3_0_8 g S7 S5 S6 S1 S2 S4 S3 S0 S8) H → va_D (fun q : Nat => s.heap.size ≤ q) (wd_7_5_6_1_2_4_3_0_8 g S7 S5 S6 S1 S2 S4 S3 S0 S8) → va_S (fun q : Nat => s.heap.size ≤ q) s.heap H locs → lv_has ls 4 [(0, .ref b), (1, .ref (g.2.2.1 7)), (2, .ref (g.2.2.1 8)), (3, .int (nI (6 * j)))] → W p l e room_1 s m #[Value.ref b] below meth c H locs 74 3834 (lw_Z below #[Value.ref b] s) (F0 m 1331 ls []) := by
  intro S7 S5 S6 S1 S2 S4 S3 S0 S8 H locs ls hR hP hD hS hl
  obtain ⟨hx, hb, hr, hml, hown0, hts0, hX, hbl, hlocks, hgv⟩ := id C0
  have hown : s.vm.findClass RL = some m.cls := hown0
  have hts : ∀ w ∈ wsL_law, w.before #[Value.ref b] s = true := fun w h => hts0 w (wsL_law_in w h)
  have hA : ∀ q : Nat, s.heap.size ≤ q → (fun q : Nat => s.heap.size ≤ q) q := fun _ h => h
  have hbA : ¬ (fun q : Nat => s.heap.size ≤ q) b := Nat.not_le.mpr hbl
  refine lv_aload_n (pc := 1331) hx hb dL_law_1331 rfl (lv_at hl 1 rfl) ?_
  refine lv_aload_n (pc := 1332) hx hb dL_law_1332 rfl (lv_at hl 0 rfl) ?_
  refine lv_iload_n (pc := 1333) hx hb dL_law_1333 rfl (lv_at hl 3 rfl) ?_
  refine lv_iconst (v := 1) (pc := 1334) hx hb dL_law_1334 (by decide) ?_
  refine lv_iadd (pc := 1335) hx hb dL_law_1335 ?_
  refine va_sld (pc := 1336) hx hb hX hbl hbA hS (lix1 hL hj) dL_law_1336 ?_
  refine lv_aload_n (pc := 1337) hx hb dL_law_1337 rfl (lv_at hl 0 rfl) ?_
  refine lv_iload_n (pc := 1338) hx hb dL_law_1338 rfl (lv_at hl 3 rfl) ?_
  refine lv_iconst (v := 2) (pc := 1339) hx hb dL_law_1339 (by decide) ?_
  refine lv_iadd (pc := 1340) hx hb dL_law_1340 ?_
  refine va_sld (pc := 1341) hx hb hX hbl hbA hS (lix2 hL hj) dL_law_1341 ?_
  refine lv_if_eq (tgt := 1349) (pc := 1342) hx hb dL_law_1342 (by decide) (fun z2 => ?_) (fun z2 => ?_)
  · refine lv_iconst (v := 0) (pc := 1349) hx hb dL_law_1349 (by decide) ?_
    obtain ⟨r9, T7, T8, e1, e2, hR⟩ := sim_mean (N := 3000) (by decide) hR ((xs (Int32.toNatClampNeg ((nI (6 * j)) + 1)))) (0)
    refine kwI (g := g) (A := (fun q : Nat => s.heap.size ≤ q)) (W0 := (wd_7_5_6_1_2_4_3_0_8 g S7 S5 S6 S1 S2 S4 S3 S0 S8)) (wc := (wd_7_3 g S7 S3)) (wr := (wd_5_6_1_2_4_0_8 g S5 S6 S1 S2 S4 S0 S8)) (w1 := (wd_7_3 g T7 S3)) (W1 := (wd_7_5_6_1_2_4_3_0_8 g T7 S5 S6 S1 S2 S4 S3 S0 S8)) (pc := 1350) (As := [.int (xs (Int32.toNatClampNeg ((nI (6 * j)) + 1))), .int 0]) (rest := []) ⟨hx, hb, hml, hown, hts⟩ hK hA hP hD hS (c_X7_mean l g 3000 H.size S7 S3 ((xs (Int32.toNatClampNeg ((nI (6 * j)) + 1)))) (0) (r9, T7) e1) (cwV 2 hts gL_law_X7_mean rfl rfl rfl h_X7_mean ⟨Nat.le_of_ble_eq_true rfl, Nat.le_of_ble_eq_true rfl⟩) [0, 1, 32, 33, 34, 35, 36] [2, 3, 4, 5, 6, 7, 8, 9, 10, 11, 12, 13, 14, 15, 16, 17, 18, 19, 20, 21, 22, 23, 24, 25, 26, 27, 28, 29, 30, 31, 37, 38, 39, 40, 41, 42, 43, 44, 45, 46, 47, 48, 49, 50, 51, 52, 53, 54, 55, 56, 57, 58, 59, 60, 61, 62, 63, 64, 65, 66, 67, 68, 69, 70, 71, 72, 73] [67, 68, 0, 1, 2, 3, 4, 5, 6, 7, 8, 9, 10, 11, 12, 13, 14, 15, 16, 17, 18, 19, 20, 21, 22, 23, 24, 25, 26, 27, 28, 29, 69, 70, 71, 72, 73, 30, 31, 32, 33, 34, 35, 36, 37, 38, 39, 40, 41, 42, 43, 44, 45, 46, 47, 48, 49, 50, 51, 52, 53, 54, 55, 56, 57, 58, 59, 60, 61, 62, 63, 64, 65, 66] rfl rfl rfl rfl rfl (by decide) rfl rfl rfl rfl rfl rfl hl.1 rfl (Nat.le_of_ble_eq_true rfl) dL_law_1350 ⟨Nat.le_of_ble_eq_true rfl, Nat.le_of_ble_eq_true rfl⟩ (fun H locs hP hD hS => ?_)
    refine lv_aload_n (pc := 1353) hx hb dL_law_1353 rfl (lv_at hl 2 rfl) ?_
    refine lv_aload_n (pc := 1354) hx hb dL_law_1354 rfl (lv_at hl 0 rfl) ?_
    refine lv_iload_n (pc := 1355) hx hb dL_law_1355 rfl (lv_at hl 3 rfl) ?_
    refine lv_iconst (v := 1) (pc := 1356) hx hb dL_law_1356 (by decide) ?_
    refine lv_iadd (pc := 1357) hx hb dL_law_1357 ?_
    refine va_sld (pc := 1358) hx hb hX hbl hbA hS (lix1 hL hj) dL_law_1358 ?_
    refine lv_aload_n (pc := 1359) hx hb dL_law_1359 rfl (lv_at hl 0 rfl) ?_
    refine lv_iload_n (pc := 1360) hx hb dL_law_1360 rfl (lv_at hl 3 rfl) ?_
    refine lv_iconst (v := 2) (pc := 1361) hx hb dL_law_1361 (by decide) ?_
    refine lv_iadd (pc := 1362) hx hb dL_law_1362 ?_
    refine va_sld (pc := 1363) hx hb hX hbl hbA hS (lix2 hL hj) dL_law_1363 ?_
    refine lv_if_eq (tgt := 1371) (pc := 1364) hx hb dL_law_1364 (by decide) (fun _ => ?_) (fun q => absurd z2 q)
    refine lv_iconst (v := 0) (pc := 1371) hx hb dL_law_1371 (by decide) ?_
    refine kwI (g := g) (A := (fun q : Nat => s.heap.size ≤ q)) (W0 := (wd_7_5_6_1_2_4_3_0_8 g T7 S5 S6 S1 S2 S4 S3 S0 S8)) (wc := (wd_8 g S8)) (wr := (wd_7_5_6_1_2_4_3_0 g T7 S5 S6 S1 S2 S4 S3 S0)) (w1 := (wd_8 g T8)) (W1 := (wd_7_5_6_1_2_4_3_0_8 g T7 S5 S6 S1 S2 S4 S3 S0 T8)) (pc := 1372) (As := [.int (xs (Int32.toNatClampNeg ((nI (6 * j)) + 1))), .int 0]) (rest := [.int r9]) ⟨hx, hb, hml, hown, hts⟩ hK hA hP hD hS (c_X8_mean l g 3000 H.size S8 ((xs (Int32.toNatClampNeg ((nI (6 * j)) + 1)))) (0) (r9, T8) e2) (cwV 2 hts gL_law_X8_mean rfl rfl rfl h_X8_mean ⟨Nat.le_of_ble_eq_true rfl, Nat.le_of_ble_eq_true rfl⟩) [42, 43, 44, 45, 46, 47, 48, 49, 50, 51, 52, 53, 54, 55, 56, 57, 58, 59, 60, 61, 62, 63, 64, 65, 66, 67, 68, 69, 70, 71, 72, 73] [0, 1, 2, 3, 4, 5, 6, 7, 8, 9, 10, 11, 12, 13, 14, 15, 16, 17, 18, 19, 20, 21, 22, 23, 24, 25, 26, 27, 28, 29, 30, 31, 32, 33, 34, 35, 36, 37, 38, 39, 40, 41] [0, 1, 2, 3, 4, 5, 6, 7, 8, 9, 10, 11, 12, 13, 14, 15, 16, 17, 18, 19, 20, 21, 22, 23, 24, 25, 26, 27, 28, 29, 30, 31, 32, 33, 34, 35, 36, 37, 38, 39, 40, 41, 42, 43, 44, 45, 46, 47, 48, 49, 50, 51, 52, 53, 54, 55, 56, 57, 58, 59, 60, 61, 62, 63, 64, 65, 66, 67, 68, 69, 70, 71, 72, 73] rfl rfl rfl rfl rfl (by decide) rfl rfl rfl rfl rfl rfl hl.1 rfl (Nat.le_of_ble_eq_true rfl) dL_law_1372 ⟨Nat.le_of_ble_eq_true rfl, Nat.le_of_ble_eq_true rfl⟩ (fun H locs hP hD hS => ?_)
    refine lv_icmp_eq (tgt := 1616) (pc := 1375) hx hb dL_law_1375 (by decide) (fun _ => ?_) (fun q => absurd rfl q)
    exact NX T7 S5 S6 S1 S2 S4 S3 S0 T8 H locs ls hR hP hD hS hl
  · refine lv_iconst (v := 1) (pc := 1345) hx hb dL_law_1345 (by decide) ?_
    refine lv_goto (tgt := 1350) (pc := 1346) hx hb dL_law_1346 (by decide) ?_
    obtain ⟨r9, T7, T8, e1, e2, hR⟩ := sim_mean (N := 3000) (by decide) hR ((xs (Int32.toNatClampNeg ((nI (6 * j)) + 1)))) (1)
    refine kwI (g := g) (A := (fun q : Nat => s.heap.size ≤ q)) (W0 := (wd_7_5_6_1_2_4_3_0_8 g S7 S5 S6 S1 S2 S4 S3 S0 S8)) (wc := (wd_7_3 g S7 S3)) (wr := (wd_5_6_1_2_4_0_8 g S5 S6 S1 S2 S4 S0 S8)) (w1 := (wd_7_3 g T7 S3)) (W1 := (wd_7_5_6_1_2_4_3_0_8 g T7 S5 S6 S1 S2 S4 S3 S0 S8)) (pc := 1350) (As := [.int (xs (Int32.toNatClampNeg ((nI (6 * j)) + 1))), .int 1]) (rest := []) ⟨hx, hb, hml, hown, hts⟩ hK hA hP hD hS (c_X7_mean l g 3000 H.size S7 S3 ((xs (Int32.toNatClampNeg ((nI (6 * j)) + 1)))) (1) (r9, T7) e1) (cwV 2 hts gL_law_X7_mean rfl rfl rfl h_X7_mean ⟨Nat.le_of_ble_eq_true rfl, Nat.le_of_ble_eq_true rfl⟩) [0, 1, 32, 33, 34, 35, 36] [2, 3, 4, 5, 6, 7, 8, 9, 10, 11, 12, 13, 14, 15, 16, 17, 18, 19, 20, 21, 22, 23, 24, 25, 26, 27, 28, 29, 30, 31, 37, 38, 39, 40, 41, 42, 43, 44, 45, 46, 47, 48, 49, 50, 51, 52, 53, 54, 55, 56, 57, 58, 59, 60, 61, 62, 63, 64, 65, 66, 67, 68, 69, 70, 71, 72, 73] [67, 68, 0, 1, 2, 3, 4, 5, 6, 7, 8, 9, 10, 11, 12, 13, 14, 15, 16, 17, 18, 19, 20, 21, 22, 23, 24, 25, 26, 27, 28, 29, 69, 70, 71, 72, 73, 30, 31, 32, 33, 34, 35, 36, 37, 38, 39, 40, 41, 42, 43, 44, 45, 46, 47, 48, 49, 50, 51, 52, 53, 54, 55, 56, 57, 58, 59, 60, 61, 62, 63, 64, 65, 66] rfl rfl rfl rfl rfl (by decide) rfl rfl rfl rfl rfl rfl hl.1 rfl (Nat.le_of_ble_eq_true rfl) dL_law_1350 ⟨Nat.le_of_ble_eq_true rfl, Nat.le_of_ble_eq_true rfl⟩ (fun H locs hP hD hS => ?_)
    refine lv_aload_n (pc := 1353) hx hb dL_law_1353 rfl (lv_at hl 2 rfl) ?_
    refine lv_aload_n (pc := 1354) hx hb dL_law_1354 rfl (lv_at hl 0 rfl) ?_
    refine lv_iload_n (pc := 1355) hx hb dL_law_1355 rfl (lv_at hl 3 rfl) ?_
    refine lv_iconst (v := 1) (pc := 1356) hx hb dL_law_1356 (by decide) ?_
    refine lv_iadd (pc := 1357) hx hb dL_law_1357 ?_
    refine va_sld (pc := 1358) hx hb hX hbl hbA hS (lix1 hL hj) dL_law_1358 ?_
    refine lv_aload_n (pc := 1359) hx hb dL_law_1359 rfl (lv_at hl 0 rfl) ?_
    refine lv_iload_n (pc := 1360) hx hb dL_law_1360 rfl (lv_at hl 3 rfl) ?_
    refine lv_iconst (v := 2) (pc := 1361) hx hb dL_law_1361 (by decide) ?_
    refine lv_iadd (pc := 1362) hx hb dL_law_1362 ?_
    refine va_sld (pc := 1363) hx hb hX hbl hbA hS (lix2 hL hj) dL_law_1363 ?_
    refine lv_if_eq (tgt := 1371) (pc := 1364) hx hb dL_law_1364 (by decide) (fun q => absurd q z2) (fun _ => ?_)
    refine lv_iconst (v := 1) (pc := 1367) hx hb dL_law_1367 (by decide) ?_
    refine lv_goto (tgt := 1372) (pc := 1368) hx hb dL_law_1368 (by decide) ?_
    refine kwI (g := g) (A := (fun q : Nat => s.heap.size ≤ q)) (W0 := (wd_7_5_6_1_2_4_3_0_8 g T7 S5 S6 S1 S2 S4 S3 S0 S8)) (wc := (wd_8 g S8)) (wr := (wd_7_5_6_1_2_4_3_0 g T7 S5 S6 S1 S2 S4 S3 S0)) (w1 := (wd_8 g T8)) (W1 := (wd_7_5_6_1_2_4_3_0_8 g T7 S5 S6 S1 S2 S4 S3 S0 T8)) (pc := 1372) (As := [.int (xs (Int32.toNatClampNeg ((nI (6 * j)) + 1))), .int 1]) (rest := [.int r9]) ⟨hx, hb, hml, hown, hts⟩ hK hA hP hD hS (c_X8_mean l g 3000 H.size S8 ((xs (Int32.toNatClampNeg ((nI (6 * j)) + 1)))) (1) (r9, T8) e2) (cwV 2 hts gL_law_X8_mean rfl rfl rfl h_X8_mean ⟨Nat.le_of_ble_eq_true rfl, Nat.le_of_ble_eq_true rfl⟩) [42, 43, 44, 45, 46, 47, 48, 49, 50, 51, 52, 53, 54, 55, 56, 57, 58, 59, 60, 61, 62, 63, 64, 65, 66, 67, 68, 69, 70, 71, 72, 73] [0, 1, 2, 3, 4, 5, 6, 7, 8, 9, 10, 11, 12, 13, 14, 15, 16, 17, 18, 19, 20, 21, 22, 23, 24, 25, 26, 27, 28, 29, 30, 31, 32, 33, 34, 35, 36, 37, 38, 39, 40, 41] [0, 1, 2, 3, 4, 5, 6, 7, 8, 9, 10, 11, 12, 13, 14, 15, 16, 17, 18, 19, 20, 21, 22, 23, 24, 25, 26, 27, 28, 29, 30, 31, 32, 33, 34, 35, 36, 37, 38, 39, 40, 41, 42, 43, 44, 45, 46, 47, 48, 49, 50, 51, 52, 53, 54, 55, 56, 57, 58, 59, 60, 61, 62, 63, 64, 65, 66, 67, 68, 69, 70, 71, 72, 73] rfl rfl rfl rfl rfl (by decide) rfl rfl rfl rfl rfl rfl hl.1 rfl (Nat.le_of_ble_eq_true rfl) dL_law_1372 ⟨Nat.le_of_ble_eq_true rfl, Nat.le_of_ble_eq_true rfl⟩ (fun H locs hP hD hS => ?_)
    refine lv_icmp_eq (tgt := 1616) (pc := 1375) hx hb dL_law_1375 (by decide) (fun _ => ?_) (fun q => absurd rfl q)
    exact NX T7 S5 S6 S1 S2 S4 S3 S0 T8 H locs ls hR hP hD hS hl
set_option maxHeartbeats 8000000 in
set_option maxRecDepth 100000 in
theorem law_c_32 {p : Program} {l : Launch} {e : Env} {s : State} {m : MethodId} {below : List Frame} {meth : Method} {c : Code} {g : En} {b L j : Nat} {xs : Nat → Int32} (hL : L ≤ 3072) (C0 : lw_At p s m meth c b L xs) (hK : va_K g.1 vwCl (tyl g) s) (hj : 6 * j + 6 ≤ L) (NX : ∀ (S7 : St) (S5 : St) (S6 : St) (S1 : St) (S2 : St) (S4 : St) (S3 : St) (S0 : St) (S8 : St) (H : Heap) (locs : List Loc) (ls : Array Slot), Rel S7 S5 S6 S2 S4 S3 S0 S8 → va_P g.1 vwCl (wd_7_5_6_1_2_4_3_0_8 g S7 S5 S6 S1 S2 S4 S3 S0 S8) H → va_D (fun q : Nat => s.heap.size ≤ q) (wd_7_5_6_1_2_4_3_0_8 g S7 S5 S6 S1 S2 S4 S3 S0 S8) → va_S (fun q : Nat => s.heap.size ≤ q) s.heap H locs → lv_has ls 4 [(0, .ref b), (1, .ref (g.2.2.1 7)), (2, .ref (g.2.2.1 8)), (3, .int (nI (6 * j)))] → W p l e room_1 s m #[Value.ref b] below meth c H locs 74 3834 (lw_Z below #[Value.ref b] s) (F0 m 1616 ls [])) : ∀ (S7 : St) (S5 : St) (S6 : St) (S1 : St) (S2 : St) (S4 : St) (S3 : St) (S0 : St) (S8 : St) (H : Heap) (locs : List Loc) (ls : Array Slot), Rel S7 S5 S6 S2 S4 S3 S0 S8 → va_P g.1 vwCl (wd_7_5_6_1_2_4_3_0_8 g S7 S5 S6 S1 S2 S4 S3 S0 S8) H → va_D (fun q : Nat => s.heap.size ≤ q) (wd_7_5_6_1_2_4_3_0_8 g S7 S5 S6 S1 S2 S4 S3 S0 S8) → va_S (fun q : Nat => s.heap.size ≤ q) s.heap H locs → lv_has ls 4 [(0, .ref b), (1, .ref (g.2.2.1 7)), (2, .ref (g.2.2.1 8)), (3, .int (nI (6 * j)))] → W p l e room_1 s m #[Value.ref b] below meth c H locs 74 3834 (lw_Z below #[Value.ref b] s) (F0 m 1380 ls []) := by
  intro S7 S5 S6 S1 S2 S4 S3 S0 S8 H locs ls hR hP hD hS hl
  obtain ⟨hx, hb, hr, hml, hown0, hts0, hX, hbl, hlocks, hgv⟩ := id C0
  have hown : s.vm.findClass RL = some m.cls := hown0
  have hts : ∀ w ∈ wsL_law, w.before #[Value.ref b] s = true := fun w h => hts0 w (wsL_law_in w h)
  have hA : ∀ q : Nat, s.heap.size ≤ q → (fun q : Nat => s.heap.size ≤ q) q := fun _ h => h
  have hbA : ¬ (fun q : Nat => s.heap.size ≤ q) b := Nat.not_le.mpr hbl
  refine lv_aload_n (pc := 1380) hx hb dL_law_1380 rfl (lv_at hl 1 rfl) ?_
  obtain ⟨r9, T7, T3, T8, e1, e2, hR⟩ := sim_spread (N := 3000) (by decide) hR 
  refine kwI (g := g) (A := (fun q : Nat => s.heap.size ≤ q)) (W0 := (wd_7_5_6_1_2_4_3_0_8 g S7 S5 S6 S1 S2 S4 S3 S0 S8)) (wc := (wd_7_3 g S7 S3)) (wr := (wd_5_6_1_2_4_0_8 g S5 S6 S1 S2 S4 S0 S8)) (w1 := (wd_7_3 g T7 T3)) (W1 := (wd_7_5_6_1_2_4_3_0_8 g T7 S5 S6 S1 S2 S4 T3 S0 S8)) (pc := 1381) (As := []) (rest := []) ⟨hx, hb, hml, hown, hts⟩ hK hA hP hD hS (c_X7_spread l g 3000 H.size S7 S3 (r9, T7, T3) e1) (cwV 0 hts gL_law_X7_spread rfl rfl rfl h_X7_spread ⟨Nat.le_of_ble_eq_true rfl, Nat.le_of_ble_eq_true rfl⟩) [0, 1, 32, 33, 34, 35, 36] [2, 3, 4, 5, 6, 7, 8, 9, 10, 11, 12, 13, 14, 15, 16, 17, 18, 19, 20, 21, 22, 23, 24, 25, 26, 27, 28, 29, 30, 31, 37, 38, 39, 40, 41, 42, 43, 44, 45, 46, 47, 48, 49, 50, 51, 52, 53, 54, 55, 56, 57, 58, 59, 60, 61, 62, 63, 64, 65, 66, 67, 68, 69, 70, 71, 72, 73] [67, 68, 0, 1, 2, 3, 4, 5, 6, 7, 8, 9, 10, 11, 12, 13, 14, 15, 16, 17, 18, 19, 20, 21, 22, 23, 24, 25, 26, 27, 28, 29, 69, 70, 71, 72, 73, 30, 31, 32, 33, 34, 35, 36, 37, 38, 39, 40, 41, 42, 43, 44, 45, 46, 47, 48, 49, 50, 51, 52, 53, 54, 55, 56, 57, 58, 59, 60, 61, 62, 63, 64, 65, 66] rfl rfl rfl rfl rfl (by decide) rfl rfl rfl rfl rfl rfl hl.1 rfl (Nat.le_of_ble_eq_true rfl) dL_law_1381 ⟨Nat.le_of_ble_eq_true rfl, Nat.le_of_ble_eq_true rfl⟩ (fun H locs hP hD hS => ?_)
  refine lv_aload_n (pc := 1384) hx hb dL_law_1384 rfl (lv_at hl 2 rfl) ?_
  refine kwI (g := g) (A := (fun q : Nat => s.heap.size ≤ q)) (W0 := (wd_7_5_6_1_2_4_3_0_8 g T7 S5 S6 S1 S2 S4 T3 S0 S8)) (wc := (wd_8 g S8)) (wr := (wd_7_5_6_1_2_4_3_0 g T7 S5 S6 S1 S2 S4 T3 S0)) (w1 := (wd_8 g T8)) (W1 := (wd_7_5_6_1_2_4_3_0_8 g T7 S5 S6 S1 S2 S4 T3 S0 T8)) (pc := 1385) (As := []) (rest := [.int r9]) ⟨hx, hb, hml, hown, hts⟩ hK hA hP hD hS (c_X8_spread l g 3000 H.size S8 (r9, T8) e2) (cwV 0 hts gL_law_X8_spread rfl rfl rfl h_X8_spread ⟨Nat.le_of_ble_eq_true rfl, Nat.le_of_ble_eq_true rfl⟩) [42, 43, 44, 45, 46, 47, 48, 49, 50, 51, 52, 53, 54, 55, 56, 57, 58, 59, 60, 61, 62, 63, 64, 65, 66, 67, 68, 69, 70, 71, 72, 73] [0, 1, 2, 3, 4, 5, 6, 7, 8, 9, 10, 11, 12, 13, 14, 15, 16, 17, 18, 19, 20, 21, 22, 23, 24, 25, 26, 27, 28, 29, 30, 31, 32, 33, 34, 35, 36, 37, 38, 39, 40, 41] [0, 1, 2, 3, 4, 5, 6, 7, 8, 9, 10, 11, 12, 13, 14, 15, 16, 17, 18, 19, 20, 21, 22, 23, 24, 25, 26, 27, 28, 29, 30, 31, 32, 33, 34, 35, 36, 37, 38, 39, 40, 41, 42, 43, 44, 45, 46, 47, 48, 49, 50, 51, 52, 53, 54, 55, 56, 57, 58, 59, 60, 61, 62, 63, 64, 65, 66, 67, 68, 69, 70, 71, 72, 73] rfl rfl rfl rfl rfl (by decide) rfl rfl rfl rfl rfl rfl hl.1 rfl (Nat.le_of_ble_eq_true rfl) dL_law_1385 ⟨Nat.le_of_ble_eq_true rfl, Nat.le_of_ble_eq_true rfl⟩ (fun H locs hP hD hS => ?_)
  refine lv_icmp_eq (tgt := 1616) (pc := 1388) hx hb dL_law_1388 (by decide) (fun _ => ?_) (fun q => absurd rfl q)
  exact NX T7 S5 S6 S1 S2 S4 T3 S0 T8 H locs ls hR hP hD hS hl
set_option maxHeartbeats 8000000 in
set_option maxRecDepth 100000 in
theorem law_c_33 {p : Program} {l : Launch} {e : Env} {s : State} {m : MethodId} {below : List Frame} {meth : Method} {c : Code} {g : En} {b L j : Nat} {xs : Nat → Int32} (hL : L ≤ 3072) (C0 : lw_At p s m meth c b L xs) (hK : va_K g.1 vwCl (tyl g) s) (hj : 6 * j + 6 ≤ L) (NX : ∀ (S7 : St) (S5 : St) (S6 : St) (S1 : St) (S2 : St) (S4 : St) (S3 : St) (S0 : St) (S8 : St) (H : Heap) (locs : List Loc) (ls : Array Slot), Rel S7 S5 S6 S2 S4 S3 S0 S8 → va_P g.1 vwCl (wd_7_5_6_1_2_4_3_0_8 g S7 S5 S6 S1 S2 S4 S3 S0 S8) H → va_D (fun q : Nat => s.heap.size ≤ q) (wd_7_5_6_1_2_4_3_0_8 g S7 S5 S6 S1 S2 S4 S3 S0 S8) → va_S (fun q : Nat => s.heap.size ≤ q) s.heap H locs → lv_has ls 4 [(0, .ref b), (1, .ref (g.2.2.1 7)), (2, .ref (g.2.2.1 8)), (3, .int (nI (6 * j)))] → W p l e room_1 s m #[Value.ref b] below meth c H locs 74 3834 (lw_Z below #[Value.ref b] s) (F0 m 1616 ls [])) : ∀ (S7 : St) (S5 : St) (S6 : St) (S1 : St) (S2 : St) (S4 : St) (S3 : St) (S0 : St) (S8 : St) (H : Heap) (locs : List Loc) (ls : Array Slot), Rel S7 S5 S6 S2 S4 S3 S0 S8 → va_P g.1 vwCl (wd_7_5_6_1_2_4_3_0_8 g S7 S5 S6 S1 S2 S4 S3 S0 S8) H → va_D (fun q : Nat => s.heap.size ≤ q) (wd_7_5_6_1_2_4_3_0_8 g S7 S5 S6 S1 S2 S4 S3 S0 S8) → va_S (fun q : Nat => s.heap.size ≤ q) s.heap H locs → lv_has ls 4 [(0, .ref b), (1, .ref (g.2.2.1 7)), (2, .ref (g.2.2.1 8)), (3, .int (nI (6 * j)))] → W p l e room_1 s m #[Value.ref b] below meth c H locs 74 3834 (lw_Z below #[Value.ref b] s) (F0 m 1393 ls []) := by
  intro S7 S5 S6 S1 S2 S4 S3 S0 S8 H locs ls hR hP hD hS hl
  obtain ⟨hx, hb, hr, hml, hown0, hts0, hX, hbl, hlocks, hgv⟩ := id C0
  have hown : s.vm.findClass RL = some m.cls := hown0
  have hts : ∀ w ∈ wsL_law, w.before #[Value.ref b] s = true := fun w h => hts0 w (wsL_law_in w h)
  have hA : ∀ q : Nat, s.heap.size ≤ q → (fun q : Nat => s.heap.size ≤ q) q := fun _ h => h
  have hbA : ¬ (fun q : Nat => s.heap.size ≤ q) b := Nat.not_le.mpr hbl
  refine lv_aload_n (pc := 1393) hx hb dL_law_1393 rfl (lv_at hl 1 rfl) ?_
  refine lv_aload_n (pc := 1394) hx hb dL_law_1394 rfl (lv_at hl 0 rfl) ?_
  refine lv_iload_n (pc := 1395) hx hb dL_law_1395 rfl (lv_at hl 3 rfl) ?_
  refine lv_iconst (v := 1) (pc := 1396) hx hb dL_law_1396 (by decide) ?_
  refine lv_iadd (pc := 1397) hx hb dL_law_1397 ?_
  refine va_sld (pc := 1398) hx hb hX hbl hbA hS (lix1 hL hj) dL_law_1398 ?_
  refine lv_aload_n (pc := 1399) hx hb dL_law_1399 rfl (lv_at hl 0 rfl) ?_
  refine lv_iload_n (pc := 1400) hx hb dL_law_1400 rfl (lv_at hl 3 rfl) ?_
  refine lv_iconst (v := 2) (pc := 1401) hx hb dL_law_1401 (by decide) ?_
  refine lv_iadd (pc := 1402) hx hb dL_law_1402 ?_
  refine va_sld (pc := 1403) hx hb hX hbl hbA hS (lix2 hL hj) dL_law_1403 ?_
  refine lv_aload_n (pc := 1404) hx hb dL_law_1404 rfl (lv_at hl 0 rfl) ?_
  refine lv_iload_n (pc := 1405) hx hb dL_law_1405 rfl (lv_at hl 3 rfl) ?_
  refine lv_iconst (v := 3) (pc := 1406) hx hb dL_law_1406 (by decide) ?_
  refine lv_iadd (pc := 1407) hx hb dL_law_1407 ?_
  refine va_sld (pc := 1408) hx hb hX hbl hbA hS (lix3 hL hj) dL_law_1408 ?_
  obtain ⟨r9, T0, T8, e1, e2, hR⟩ := sim_sold (N := 3000) (by decide) hR ((xs (Int32.toNatClampNeg ((nI (6 * j)) + 1)))) ((xs (Int32.toNatClampNeg ((nI (6 * j)) + 2)))) ((xs (Int32.toNatClampNeg ((nI (6 * j)) + 3))))
  refine kwI (g := g) (A := (fun q : Nat => s.heap.size ≤ q)) (W0 := (wd_7_5_6_1_2_4_3_0_8 g S7 S5 S6 S1 S2 S4 S3 S0 S8)) (wc := (wd_7_0 g S7 S0)) (wr := (wd_5_6_1_2_4_3_8 g S5 S6 S1 S2 S4 S3 S8)) (w1 := (wd_7_0 g S7 T0)) (W1 := (wd_7_5_6_1_2_4_3_0_8 g S7 S5 S6 S1 S2 S4 S3 T0 S8)) (pc := 1409) (As := [.int (xs (Int32.toNatClampNeg ((nI (6 * j)) + 1))), .int (xs (Int32.toNatClampNeg ((nI (6 * j)) + 2))), .int (xs (Int32.toNatClampNeg ((nI (6 * j)) + 3)))]) (rest := []) ⟨hx, hb, hml, hown, hts⟩ hK hA hP hD hS (c_X7_sold l g 3000 H.size S7 S0 ((xs (Int32.toNatClampNeg ((nI (6 * j)) + 1)))) ((xs (Int32.toNatClampNeg ((nI (6 * j)) + 2)))) ((xs (Int32.toNatClampNeg ((nI (6 * j)) + 3)))) (r9, T0) e1) (cwV 3 hts gL_law_X7_sold rfl rfl rfl h_X7_sold ⟨Nat.le_of_ble_eq_true rfl, Nat.le_of_ble_eq_true rfl⟩) [0, 1, 37, 38, 39, 40, 41] [2, 3, 4, 5, 6, 7, 8, 9, 10, 11, 12, 13, 14, 15, 16, 17, 18, 19, 20, 21, 22, 23, 24, 25, 26, 27, 28, 29, 30, 31, 32, 33, 34, 35, 36, 42, 43, 44, 45, 46, 47, 48, 49, 50, 51, 52, 53, 54, 55, 56, 57, 58, 59, 60, 61, 62, 63, 64, 65, 66, 67, 68, 69, 70, 71, 72, 73] [67, 68, 0, 1, 2, 3, 4, 5, 6, 7, 8, 9, 10, 11, 12, 13, 14, 15, 16, 17, 18, 19, 20, 21, 22, 23, 24, 25, 26, 27, 28, 29, 30, 31, 32, 33, 34, 69, 70, 71, 72, 73, 35, 36, 37, 38, 39, 40, 41, 42, 43, 44, 45, 46, 47, 48, 49, 50, 51, 52, 53, 54, 55, 56, 57, 58, 59, 60, 61, 62, 63, 64, 65, 66] rfl rfl rfl rfl rfl (by decide) rfl rfl rfl rfl rfl rfl hl.1 rfl (Nat.le_of_ble_eq_true rfl) dL_law_1409 ⟨Nat.le_of_ble_eq_true rfl, Nat.le_of_ble_eq_true rfl⟩ (fun H locs hP hD hS => ?_)
  refine lv_aload_n (pc := 1412) hx hb dL_law_1412 rfl (lv_at hl 2 rfl) ?_
  refine lv_aload_n (pc := 1413) hx hb dL_law_1413 rfl (lv_at hl 0 rfl) ?_
  refine lv_iload_n (pc := 1414) hx hb dL_law_1414 rfl (lv_at hl 3 rfl) ?_
  refine lv_iconst (v := 1) (pc := 1415) hx hb dL_law_1415 (by decide) ?_
  refine lv_iadd (pc := 1416) hx hb dL_law_1416 ?_
  refine va_sld (pc := 1417) hx hb hX hbl hbA hS (lix1 hL hj) dL_law_1417 ?_
  refine lv_aload_n (pc := 1418) hx hb dL_law_1418 rfl (lv_at hl 0 rfl) ?_
  refine lv_iload_n (pc := 1419) hx hb dL_law_1419 rfl (lv_at hl 3 rfl) ?_
  refine lv_iconst (v := 2) (pc := 1420) hx hb dL_law_1420 (by decide) ?_
  refine lv_iadd (pc := 1421) hx hb dL_law_1421 ?_
  refine va_sld (pc := 1422) hx hb hX hbl hbA hS (lix2 hL hj) dL_law_1422 ?_
  refine lv_aload_n (pc := 1423) hx hb dL_law_1423 rfl (lv_at hl 0 rfl) ?_
  refine lv_iload_n (pc := 1424) hx hb dL_law_1424 rfl (lv_at hl 3 rfl) ?_
  refine lv_iconst (v := 3) (pc := 1425) hx hb dL_law_1425 (by decide) ?_
  refine lv_iadd (pc := 1426) hx hb dL_law_1426 ?_
  refine va_sld (pc := 1427) hx hb hX hbl hbA hS (lix3 hL hj) dL_law_1427 ?_
  refine kwI (g := g) (A := (fun q : Nat => s.heap.size ≤ q)) (W0 := (wd_7_5_6_1_2_4_3_0_8 g S7 S5 S6 S1 S2 S4 S3 T0 S8)) (wc := (wd_8 g S8)) (wr := (wd_7_5_6_1_2_4_3_0 g S7 S5 S6 S1 S2 S4 S3 T0)) (w1 := (wd_8 g T8)) (W1 := (wd_7_5_6_1_2_4_3_0_8 g S7 S5 S6 S1 S2 S4 S3 T0 T8)) (pc := 1428) (As := [.int (xs (Int32.toNatClampNeg ((nI (6 * j)) + 1))), .int (xs (Int32.toNatClampNeg ((nI (6 * j)) + 2))), .int (xs (Int32.toNatClampNeg ((nI (6 * j)) + 3)))]) (rest := [.int r9]) ⟨hx, hb, hml, hown, hts⟩ hK hA hP hD hS (c_X8_sold l g 3000 H.size S8 ((xs (Int32.toNatClampNeg ((nI (6 * j)) + 1)))) ((xs (Int32.toNatClampNeg ((nI (6 * j)) + 2)))) ((xs (Int32.toNatClampNeg ((nI (6 * j)) + 3)))) (r9, T8) e2) (cwV 3 hts gL_law_X8_sold rfl rfl rfl h_X8_sold ⟨Nat.le_of_ble_eq_true rfl, Nat.le_of_ble_eq_true rfl⟩) [42, 43, 44, 45, 46, 47, 48, 49, 50, 51, 52, 53, 54, 55, 56, 57, 58, 59, 60, 61, 62, 63, 64, 65, 66, 67, 68, 69, 70, 71, 72, 73] [0, 1, 2, 3, 4, 5, 6, 7, 8, 9, 10, 11, 12, 13, 14, 15, 16, 17, 18, 19, 20, 21, 22, 23, 24, 25, 26, 27, 28, 29, 30, 31, 32, 33, 34, 35, 36, 37, 38, 39, 40, 41] [0, 1, 2, 3, 4, 5, 6, 7, 8, 9, 10, 11, 12, 13, 14, 15, 16, 17, 18, 19, 20, 21, 22, 23, 24, 25, 26, 27, 28, 29, 30, 31, 32, 33, 34, 35, 36, 37, 38, 39, 40, 41, 42, 43, 44, 45, 46, 47, 48, 49, 50, 51, 52, 53, 54, 55, 56, 57, 58, 59, 60, 61, 62, 63, 64, 65, 66, 67, 68, 69, 70, 71, 72, 73] rfl rfl rfl rfl rfl (by decide) rfl rfl rfl rfl rfl rfl hl.1 rfl (Nat.le_of_ble_eq_true rfl) dL_law_1428 ⟨Nat.le_of_ble_eq_true rfl, Nat.le_of_ble_eq_true rfl⟩ (fun H locs hP hD hS => ?_)
  refine lv_icmp_eq (tgt := 1616) (pc := 1431) hx hb dL_law_1431 (by decide) (fun _ => ?_) (fun q => absurd rfl q)
  exact NX S7 S5 S6 S1 S2 S4 S3 T0 T8 H locs ls hR hP hD hS hl
set_option maxHeartbeats 8000000 in
set_option maxRecDepth 100000 in
theorem law_c_34 {p : Program} {l : Launch} {e : Env} {s : State} {m : MethodId} {below : List Frame} {meth : Method} {c : Code} {g : En} {b L j : Nat} {xs : Nat → Int32} (hL : L ≤ 3072) (C0 : lw_At p s m meth c b L xs) (hK : va_K g.1 vwCl (tyl g) s) (hj : 6 * j + 6 ≤ L) (NX : ∀ (S7 : St) (S5 : St) (S6 : St) (S1 : St) (S2 : St) (S4 : St) (S3 : St) (S0 : St) (S8 : St) (H : Heap) (locs : List Loc) (ls : Array Slot), Rel S7 S5 S6 S2 S4 S3 S0 S8 → va_P g.1 vwCl (wd_7_5_6_1_2_4_3_0_8 g S7 S5 S6 S1 S2 S4 S3 S0 S8) H → va_D (fun q : Nat => s.heap.size ≤ q) (wd_7_5_6_1_2_4_3_0_8 g S7 S5 S6 S1 S2 S4 S3 S0 S8) → va_S (fun q : Nat => s.heap.size ≤ q) s.heap H locs → lv_has ls 4 [(0, .ref b), (1, .ref (g.2.2.1 7)), (2, .ref (g.2.2.1 8)), (3, .int (nI (6 * j)))] → W p l e room_1 s m #[Value.ref b] below meth c H locs 74 3834 (lw_Z below #[Value.ref b] s) (F0 m 1616 ls [])) : ∀ (S7 : St) (S5 : St) (S6 : St) (S1 : St) (S2 : St) (S4 : St) (S3 : St) (S0 : St) (S8 : St) (H : Heap) (locs : List Loc) (ls : Array Slot), Rel S7 S5 S6 S2 S4 S3 S0 S8 → va_P g.1 vwCl (wd_7_5_6_1_2_4_3_0_8 g S7 S5 S6 S1 S2 S4 S3 S0 S8) H → va_D (fun q : Nat => s.heap.size ≤ q) (wd_7_5_6_1_2_4_3_0_8 g S7 S5 S6 S1 S2 S4 S3 S0 S8) → va_S (fun q : Nat => s.heap.size ≤ q) s.heap H locs → lv_has ls 4 [(0, .ref b), (1, .ref (g.2.2.1 7)), (2, .ref (g.2.2.1 8)), (3, .int (nI (6 * j)))] → W p l e room_1 s m #[Value.ref b] below meth c H locs 74 3834 (lw_Z below #[Value.ref b] s) (F0 m 1436 ls []) := by
  intro S7 S5 S6 S1 S2 S4 S3 S0 S8 H locs ls hR hP hD hS hl
  obtain ⟨hx, hb, hr, hml, hown0, hts0, hX, hbl, hlocks, hgv⟩ := id C0
  have hown : s.vm.findClass RL = some m.cls := hown0
  have hts : ∀ w ∈ wsL_law, w.before #[Value.ref b] s = true := fun w h => hts0 w (wsL_law_in w h)
  have hA : ∀ q : Nat, s.heap.size ≤ q → (fun q : Nat => s.heap.size ≤ q) q := fun _ h => h
  have hbA : ¬ (fun q : Nat => s.heap.size ≤ q) b := Nat.not_le.mpr hbl
  refine lv_aload_n (pc := 1436) hx hb dL_law_1436 rfl (lv_at hl 1 rfl) ?_
  refine lv_aload_n (pc := 1437) hx hb dL_law_1437 rfl (lv_at hl 0 rfl) ?_
  refine lv_iload_n (pc := 1438) hx hb dL_law_1438 rfl (lv_at hl 3 rfl) ?_
  refine lv_iconst (v := 1) (pc := 1439) hx hb dL_law_1439 (by decide) ?_
  refine lv_iadd (pc := 1440) hx hb dL_law_1440 ?_
  refine va_sld (pc := 1441) hx hb hX hbl hbA hS (lix1 hL hj) dL_law_1441 ?_
  refine lv_aload_n (pc := 1442) hx hb dL_law_1442 rfl (lv_at hl 0 rfl) ?_
  refine lv_iload_n (pc := 1443) hx hb dL_law_1443 rfl (lv_at hl 3 rfl) ?_
  refine lv_iconst (v := 2) (pc := 1444) hx hb dL_law_1444 (by decide) ?_
  refine lv_iadd (pc := 1445) hx hb dL_law_1445 ?_
  refine va_sld (pc := 1446) hx hb hX hbl hbA hS (lix2 hL hj) dL_law_1446 ?_
  refine lv_aload_n (pc := 1447) hx hb dL_law_1447 rfl (lv_at hl 0 rfl) ?_
  refine lv_iload_n (pc := 1448) hx hb dL_law_1448 rfl (lv_at hl 3 rfl) ?_
  refine lv_iconst (v := 3) (pc := 1449) hx hb dL_law_1449 (by decide) ?_
  refine lv_iadd (pc := 1450) hx hb dL_law_1450 ?_
  refine va_sld (pc := 1451) hx hb hX hbl hbA hS (lix3 hL hj) dL_law_1451 ?_
  refine lv_aload_n (pc := 1452) hx hb dL_law_1452 rfl (lv_at hl 0 rfl) ?_
  refine lv_iload_n (pc := 1453) hx hb dL_law_1453 rfl (lv_at hl 3 rfl) ?_
  refine lv_iconst (v := 4) (pc := 1454) hx hb dL_law_1454 (by decide) ?_
  refine lv_iadd (pc := 1455) hx hb dL_law_1455 ?_
  refine va_sld (pc := 1456) hx hb hX hbl hbA hS (lix4 hL hj) dL_law_1456 ?_
  obtain ⟨r9, T0, T8, e1, e2, hR⟩ := sim_law (N := 3000) (by decide) hR ((xs (Int32.toNatClampNeg ((nI (6 * j)) + 1)))) ((xs (Int32.toNatClampNeg ((nI (6 * j)) + 2)))) ((xs (Int32.toNatClampNeg ((nI (6 * j)) + 3)))) ((xs (Int32.toNatClampNeg ((nI (6 * j)) + 4))))
  refine kwI (g := g) (A := (fun q : Nat => s.heap.size ≤ q)) (W0 := (wd_7_5_6_1_2_4_3_0_8 g S7 S5 S6 S1 S2 S4 S3 S0 S8)) (wc := (wd_7_0 g S7 S0)) (wr := (wd_5_6_1_2_4_3_8 g S5 S6 S1 S2 S4 S3 S8)) (w1 := (wd_7_0 g S7 T0)) (W1 := (wd_7_5_6_1_2_4_3_0_8 g S7 S5 S6 S1 S2 S4 S3 T0 S8)) (pc := 1457) (As := [.int (xs (Int32.toNatClampNeg ((nI (6 * j)) + 1))), .int (xs (Int32.toNatClampNeg ((nI (6 * j)) + 2))), .int (xs (Int32.toNatClampNeg ((nI (6 * j)) + 3))), .int (xs (Int32.toNatClampNeg ((nI (6 * j)) + 4)))]) (rest := []) ⟨hx, hb, hml, hown, hts⟩ hK hA hP hD hS (c_X7_law l g 3000 H.size S7 S0 ((xs (Int32.toNatClampNeg ((nI (6 * j)) + 1)))) ((xs (Int32.toNatClampNeg ((nI (6 * j)) + 2)))) ((xs (Int32.toNatClampNeg ((nI (6 * j)) + 3)))) ((xs (Int32.toNatClampNeg ((nI (6 * j)) + 4)))) (r9, T0) e1) (cwV 4 hts gL_law_X7_law rfl rfl rfl h_X7_law ⟨Nat.le_of_ble_eq_true rfl, Nat.le_of_ble_eq_true rfl⟩) [0, 1, 37, 38, 39, 40, 41] [2, 3, 4, 5, 6, 7, 8, 9, 10, 11, 12, 13, 14, 15, 16, 17, 18, 19, 20, 21, 22, 23, 24, 25, 26, 27, 28, 29, 30, 31, 32, 33, 34, 35, 36, 42, 43, 44, 45, 46, 47, 48, 49, 50, 51, 52, 53, 54, 55, 56, 57, 58, 59, 60, 61, 62, 63, 64, 65, 66, 67, 68, 69, 70, 71, 72, 73] [67, 68, 0, 1, 2, 3, 4, 5, 6, 7, 8, 9, 10, 11, 12, 13, 14, 15, 16, 17, 18, 19, 20, 21, 22, 23, 24, 25, 26, 27, 28, 29, 30, 31, 32, 33, 34, 69, 70, 71, 72, 73, 35, 36, 37, 38, 39, 40, 41, 42, 43, 44, 45, 46, 47, 48, 49, 50, 51, 52, 53, 54, 55, 56, 57, 58, 59, 60, 61, 62, 63, 64, 65, 66] rfl rfl rfl rfl rfl (by decide) rfl rfl rfl rfl rfl rfl hl.1 rfl (Nat.le_of_ble_eq_true rfl) dL_law_1457 ⟨Nat.le_of_ble_eq_true rfl, Nat.le_of_ble_eq_true rfl⟩ (fun H locs hP hD hS => ?_)
  refine lv_aload_n (pc := 1460) hx hb dL_law_1460 rfl (lv_at hl 2 rfl) ?_
  refine lv_aload_n (pc := 1461) hx hb dL_law_1461 rfl (lv_at hl 0 rfl) ?_
  refine lv_iload_n (pc := 1462) hx hb dL_law_1462 rfl (lv_at hl 3 rfl) ?_
  refine lv_iconst (v := 1) (pc := 1463) hx hb dL_law_1463 (by decide) ?_
  refine lv_iadd (pc := 1464) hx hb dL_law_1464 ?_
  refine va_sld (pc := 1465) hx hb hX hbl hbA hS (lix1 hL hj) dL_law_1465 ?_
  refine lv_aload_n (pc := 1466) hx hb dL_law_1466 rfl (lv_at hl 0 rfl) ?_
  refine lv_iload_n (pc := 1467) hx hb dL_law_1467 rfl (lv_at hl 3 rfl) ?_
  refine lv_iconst (v := 2) (pc := 1468) hx hb dL_law_1468 (by decide) ?_
  refine lv_iadd (pc := 1469) hx hb dL_law_1469 ?_
  refine va_sld (pc := 1470) hx hb hX hbl hbA hS (lix2 hL hj) dL_law_1470 ?_
  refine lv_aload_n (pc := 1471) hx hb dL_law_1471 rfl (lv_at hl 0 rfl) ?_
  refine lv_iload_n (pc := 1472) hx hb dL_law_1472 rfl (lv_at hl 3 rfl) ?_
  refine lv_iconst (v := 3) (pc := 1473) hx hb dL_law_1473 (by decide) ?_
  refine lv_iadd (pc := 1474) hx hb dL_law_1474 ?_
  refine va_sld (pc := 1475) hx hb hX hbl hbA hS (lix3 hL hj) dL_law_1475 ?_
  refine lv_aload_n (pc := 1476) hx hb dL_law_1476 rfl (lv_at hl 0 rfl) ?_
  refine lv_iload_n (pc := 1477) hx hb dL_law_1477 rfl (lv_at hl 3 rfl) ?_
  refine lv_iconst (v := 4) (pc := 1478) hx hb dL_law_1478 (by decide) ?_
  refine lv_iadd (pc := 1479) hx hb dL_law_1479 ?_
  refine va_sld (pc := 1480) hx hb hX hbl hbA hS (lix4 hL hj) dL_law_1480 ?_
  refine kwI (g := g) (A := (fun q : Nat => s.heap.size ≤ q)) (W0 := (wd_7_5_6_1_2_4_3_0_8 g S7 S5 S6 S1 S2 S4 S3 T0 S8)) (wc := (wd_8 g S8)) (wr := (wd_7_5_6_1_2_4_3_0 g S7 S5 S6 S1 S2 S4 S3 T0)) (w1 := (wd_8 g T8)) (W1 := (wd_7_5_6_1_2_4_3_0_8 g S7 S5 S6 S1 S2 S4 S3 T0 T8)) (pc := 1481) (As := [.int (xs (Int32.toNatClampNeg ((nI (6 * j)) + 1))), .int (xs (Int32.toNatClampNeg ((nI (6 * j)) + 2))), .int (xs (Int32.toNatClampNeg ((nI (6 * j)) + 3))), .int (xs (Int32.toNatClampNeg ((nI (6 * j)) + 4)))]) (rest := [.int r9]) ⟨hx, hb, hml, hown, hts⟩ hK hA hP hD hS (c_X8_law l g 3000 H.size S8 ((xs (Int32.toNatClampNeg ((nI (6 * j)) + 1)))) ((xs (Int32.toNatClampNeg ((nI (6 * j)) + 2)))) ((xs (Int32.toNatClampNeg ((nI (6 * j)) + 3)))) ((xs (Int32.toNatClampNeg ((nI (6 * j)) + 4)))) (r9, T8) e2) (cwV 4 hts gL_law_X8_law rfl rfl rfl h_X8_law ⟨Nat.le_of_ble_eq_true rfl, Nat.le_of_ble_eq_true rfl⟩) [42, 43, 44, 45, 46, 47, 48, 49, 50, 51, 52, 53, 54, 55, 56, 57, 58, 59, 60, 61, 62, 63, 64, 65, 66, 67, 68, 69, 70, 71, 72, 73] [0, 1, 2, 3, 4, 5, 6, 7, 8, 9, 10, 11, 12, 13, 14, 15, 16, 17, 18, 19, 20, 21, 22, 23, 24, 25, 26, 27, 28, 29, 30, 31, 32, 33, 34, 35, 36, 37, 38, 39, 40, 41] [0, 1, 2, 3, 4, 5, 6, 7, 8, 9, 10, 11, 12, 13, 14, 15, 16, 17, 18, 19, 20, 21, 22, 23, 24, 25, 26, 27, 28, 29, 30, 31, 32, 33, 34, 35, 36, 37, 38, 39, 40, 41, 42, 43, 44, 45, 46, 47, 48, 49, 50, 51, 52, 53, 54, 55, 56, 57, 58, 59, 60, 61, 62, 63, 64, 65, 66, 67, 68, 69, 70, 71, 72, 73] rfl rfl rfl rfl rfl (by decide) rfl rfl rfl rfl rfl rfl hl.1 rfl (Nat.le_of_ble_eq_true rfl) dL_law_1481 ⟨Nat.le_of_ble_eq_true rfl, Nat.le_of_ble_eq_true rfl⟩ (fun H locs hP hD hS => ?_)
  refine lv_icmp_eq (tgt := 1616) (pc := 1484) hx hb dL_law_1484 (by decide) (fun _ => ?_) (fun q => absurd rfl q)
  exact NX S7 S5 S6 S1 S2 S4 S3 T0 T8 H locs ls hR hP hD hS hl
set_option maxHeartbeats 8000000 in
set_option maxRecDepth 100000 in
theorem law_c_35 {p : Program} {l : Launch} {e : Env} {s : State} {m : MethodId} {below : List Frame} {meth : Method} {c : Code} {g : En} {b L j : Nat} {xs : Nat → Int32} (hL : L ≤ 3072) (C0 : lw_At p s m meth c b L xs) (hK : va_K g.1 vwCl (tyl g) s) (hj : 6 * j + 6 ≤ L) (NX : ∀ (S7 : St) (S5 : St) (S6 : St) (S1 : St) (S2 : St) (S4 : St) (S3 : St) (S0 : St) (S8 : St) (H : Heap) (locs : List Loc) (ls : Array Slot), Rel S7 S5 S6 S2 S4 S3 S0 S8 → va_P g.1 vwCl (wd_7_5_6_1_2_4_3_0_8 g S7 S5 S6 S1 S2 S4 S3 S0 S8) H → va_D (fun q : Nat => s.heap.size ≤ q) (wd_7_5_6_1_2_4_3_0_8 g S7 S5 S6 S1 S2 S4 S3 S0 S8) → va_S (fun q : Nat => s.heap.size ≤ q) s.heap H locs → lv_has ls 4 [(0, .ref b), (1, .ref (g.2.2.1 7)), (2, .ref (g.2.2.1 8)), (3, .int (nI (6 * j)))] → W p l e room_1 s m #[Value.ref b] below meth c H locs 74 3834 (lw_Z below #[Value.ref b] s) (F0 m 1616 ls [])) : ∀ (S7 : St) (S5 : St) (S6 : St) (S1 : St) (S2 : St) (S4 : St) (S3 : St) (S0 : St) (S8 : St) (H : Heap) (locs : List Loc) (ls : Array Slot), Rel S7 S5 S6 S2 S4 S3 S0 S8 → va_P g.1 vwCl (wd_7_5_6_1_2_4_3_0_8 g S7 S5 S6 S1 S2 S4 S3 S0 S8) H → va_D (fun q : Nat => s.heap.size ≤ q) (wd_7_5_6_1_2_4_3_0_8 g S7 S5 S6 S1 S2 S4 S3 S0 S8) → va_S (fun q : Nat => s.heap.size ≤ q) s.heap H locs → lv_has ls 4 [(0, .ref b), (1, .ref (g.2.2.1 7)), (2, .ref (g.2.2.1 8)), (3, .int (nI (6 * j)))] → W p l e room_1 s m #[Value.ref b] below meth c H locs 74 3834 (lw_Z below #[Value.ref b] s) (F0 m 1489 ls []) := by
  intro S7 S5 S6 S1 S2 S4 S3 S0 S8 H locs ls hR hP hD hS hl
  obtain ⟨hx, hb, hr, hml, hown0, hts0, hX, hbl, hlocks, hgv⟩ := id C0
  have hown : s.vm.findClass RL = some m.cls := hown0
  have hts : ∀ w ∈ wsL_law, w.before #[Value.ref b] s = true := fun w h => hts0 w (wsL_law_in w h)
  have hA : ∀ q : Nat, s.heap.size ≤ q → (fun q : Nat => s.heap.size ≤ q) q := fun _ h => h
  have hbA : ¬ (fun q : Nat => s.heap.size ≤ q) b := Nat.not_le.mpr hbl
  refine lv_aload_n (pc := 1489) hx hb dL_law_1489 rfl (lv_at hl 1 rfl) ?_
  obtain ⟨r9, T7, T8, e1, e2, hR⟩ := sim_claim (N := 3000) (by decide) hR 
  refine kwI (g := g) (A := (fun q : Nat => s.heap.size ≤ q)) (W0 := (wd_7_5_6_1_2_4_3_0_8 g S7 S5 S6 S1 S2 S4 S3 S0 S8)) (wc := (wd_7_2_0 g S7 S2 S0)) (wr := (wd_5_6_1_4_3_8 g S5 S6 S1 S4 S3 S8)) (w1 := (wd_7_2_0 g T7 S2 S0)) (W1 := (wd_7_5_6_1_2_4_3_0_8 g T7 S5 S6 S1 S2 S4 S3 S0 S8)) (pc := 1490) (As := []) (rest := []) ⟨hx, hb, hml, hown, hts⟩ hK hA hP hD hS (c_X7_claim l g 3000 H.size S7 S2 S0 (r9, T7) e1) (cwV 0 hts gL_law_X7_claim rfl rfl rfl h_X7_claim ⟨Nat.le_of_ble_eq_true rfl, Nat.le_of_ble_eq_true rfl⟩) [0, 1, 20, 21, 22, 23, 24, 25, 26, 27, 28, 37, 38, 39, 40, 41] [2, 3, 4, 5, 6, 7, 8, 9, 10, 11, 12, 13, 14, 15, 16, 17, 18, 19, 29, 30, 31, 32, 33, 34, 35, 36, 42, 43, 44, 45, 46, 47, 48, 49, 50, 51, 52, 53, 54, 55, 56, 57, 58, 59, 60, 61, 62, 63, 64, 65, 66, 67, 68, 69, 70, 71, 72, 73] [58, 59, 0, 1, 2, 3, 4, 5, 6, 7, 8, 9, 10, 11, 12, 13, 14, 15, 16, 17, 60, 61, 62, 63, 64, 65, 66, 67, 68, 18, 19, 20, 21, 22, 23, 24, 25, 69, 70, 71, 72, 73, 26, 27, 28, 29, 30, 31, 32, 33, 34, 35, 36, 37, 38, 39, 40, 41, 42, 43, 44, 45, 46, 47, 48, 49, 50, 51, 52, 53, 54, 55, 56, 57] rfl rfl rfl rfl rfl (by decide) rfl rfl rfl rfl rfl rfl hl.1 rfl (Nat.le_of_ble_eq_true rfl) dL_law_1490 ⟨Nat.le_of_ble_eq_true rfl, Nat.le_of_ble_eq_true rfl⟩ (fun H locs hP hD hS => ?_)
  refine lv_aload_n (pc := 1493) hx hb dL_law_1493 rfl (lv_at hl 2 rfl) ?_
  refine kwI (g := g) (A := (fun q : Nat => s.heap.size ≤ q)) (W0 := (wd_7_5_6_1_2_4_3_0_8 g T7 S5 S6 S1 S2 S4 S3 S0 S8)) (wc := (wd_8 g S8)) (wr := (wd_7_5_6_1_2_4_3_0 g T7 S5 S6 S1 S2 S4 S3 S0)) (w1 := (wd_8 g T8)) (W1 := (wd_7_5_6_1_2_4_3_0_8 g T7 S5 S6 S1 S2 S4 S3 S0 T8)) (pc := 1494) (As := []) (rest := [.int r9]) ⟨hx, hb, hml, hown, hts⟩ hK hA hP hD hS (c_X8_claim l g 3000 H.size S8 (r9, T8) e2) (cwV 0 hts gL_law_X8_claim rfl rfl rfl h_X8_claim ⟨Nat.le_of_ble_eq_true rfl, Nat.le_of_ble_eq_true rfl⟩) [42, 43, 44, 45, 46, 47, 48, 49, 50, 51, 52, 53, 54, 55, 56, 57, 58, 59, 60, 61, 62, 63, 64, 65, 66, 67, 68, 69, 70, 71, 72, 73] [0, 1, 2, 3, 4, 5, 6, 7, 8, 9, 10, 11, 12, 13, 14, 15, 16, 17, 18, 19, 20, 21, 22, 23, 24, 25, 26, 27, 28, 29, 30, 31, 32, 33, 34, 35, 36, 37, 38, 39, 40, 41] [0, 1, 2, 3, 4, 5, 6, 7, 8, 9, 10, 11, 12, 13, 14, 15, 16, 17, 18, 19, 20, 21, 22, 23, 24, 25, 26, 27, 28, 29, 30, 31, 32, 33, 34, 35, 36, 37, 38, 39, 40, 41, 42, 43, 44, 45, 46, 47, 48, 49, 50, 51, 52, 53, 54, 55, 56, 57, 58, 59, 60, 61, 62, 63, 64, 65, 66, 67, 68, 69, 70, 71, 72, 73] rfl rfl rfl rfl rfl (by decide) rfl rfl rfl rfl rfl rfl hl.1 rfl (Nat.le_of_ble_eq_true rfl) dL_law_1494 ⟨Nat.le_of_ble_eq_true rfl, Nat.le_of_ble_eq_true rfl⟩ (fun H locs hP hD hS => ?_)
  refine lv_icmp_eq (tgt := 1616) (pc := 1497) hx hb dL_law_1497 (by decide) (fun _ => ?_) (fun q => absurd rfl q)
  exact NX T7 S5 S6 S1 S2 S4 S3 S0 T8 H locs ls hR hP hD hS hl
set_option maxHeartbeats 8000000 in
set_option maxRecDepth 100000 in
theorem law_c_36 {p : Program} {l : Launch} {e : Env} {s : State} {m : MethodId} {below : List Frame} {meth : Method} {c : Code} {g : En} {b L j : Nat} {xs : Nat → Int32} (hL : L ≤ 3072) (C0 : lw_At p s m meth c b L xs) (hK : va_K g.1 vwCl (tyl g) s) (hj : 6 * j + 6 ≤ L) (NX : ∀ (S7 : St) (S5 : St) (S6 : St) (S1 : St) (S2 : St) (S4 : St) (S3 : St) (S0 : St) (S8 : St) (H : Heap) (locs : List Loc) (ls : Array Slot), Rel S7 S5 S6 S2 S4 S3 S0 S8 → va_P g.1 vwCl (wd_7_5_6_1_2_4_3_0_8 g S7 S5 S6 S1 S2 S4 S3 S0 S8) H → va_D (fun q : Nat => s.heap.size ≤ q) (wd_7_5_6_1_2_4_3_0_8 g S7 S5 S6 S1 S2 S4 S3 S0 S8) → va_S (fun q : Nat => s.heap.size ≤ q) s.heap H locs → lv_has ls 4 [(0, .ref b), (1, .ref (g.2.2.1 7)), (2, .ref (g.2.2.1 8)), (3, .int (nI (6 * j)))] → W p l e room_1 s m #[Value.ref b] below meth c H locs 74 3834 (lw_Z below #[Value.ref b] s) (F0 m 1616 ls [])) : ∀ (S7 : St) (S5 : St) (S6 : St) (S1 : St) (S2 : St) (S4 : St) (S3 : St) (S0 : St) (S8 : St) (H : Heap) (locs : List Loc) (ls : Array Slot), Rel S7 S5 S6 S2 S4 S3 S0 S8 → va_P g.1 vwCl (wd_7_5_6_1_2_4_3_0_8 g S7 S5 S6 S1 S2 S4 S3 S0 S8) H → va_D (fun q : Nat => s.heap.size ≤ q) (wd_7_5_6_1_2_4_3_0_8 g S7 S5 S6 S1 S2 S4 S3 S0 S8) → va_S (fun q : Nat => s.heap.size ≤ q) s.heap H locs → lv_has ls 4 [(0, .ref b), (1, .ref (g.2.2.1 7)), (2, .ref (g.2.2.1 8)), (3, .int (nI (6 * j)))] → W p l e room_1 s m #[Value.ref b] below meth c H locs 74 3834 (lw_Z below #[Value.ref b] s) (F0 m 1502 ls []) := by
  intro S7 S5 S6 S1 S2 S4 S3 S0 S8 H locs ls hR hP hD hS hl
  obtain ⟨hx, hb, hr, hml, hown0, hts0, hX, hbl, hlocks, hgv⟩ := id C0
  have hown : s.vm.findClass RL = some m.cls := hown0
  have hts : ∀ w ∈ wsL_law, w.before #[Value.ref b] s = true := fun w h => hts0 w (wsL_law_in w h)
  have hA : ∀ q : Nat, s.heap.size ≤ q → (fun q : Nat => s.heap.size ≤ q) q := fun _ h => h
  have hbA : ¬ (fun q : Nat => s.heap.size ≤ q) b := Nat.not_le.mpr hbl
  refine lv_aload_n (pc := 1502) hx hb dL_law_1502 rfl (lv_at hl 1 rfl) ?_
  obtain ⟨r9, e1, e2⟩ := sim_asked (N := 3000) (by decide) hR 
  refine krI (g := g) (wc := (wd_7 g S7)) (pc := 1503) (As := []) (rest := []) ⟨hx, hb, hml, hown, hts⟩ (c_X7_asked l g 3000 S7 r9 e1) (cwV 0 hts gL_law_X7_asked rfl rfl rfl h_X7_asked ⟨Nat.le_of_ble_eq_true rfl, Nat.le_of_ble_eq_true rfl⟩) hK (hP.sub (ws' := (wd_7 g S7)) [0, 1] rfl) rfl rfl rfl hl.1 rfl (Nat.le_of_ble_eq_true rfl) dL_law_1503 ⟨Nat.le_of_ble_eq_true rfl, Nat.le_of_ble_eq_true rfl⟩ ?_
  refine lv_aload_n (pc := 1506) hx hb dL_law_1506 rfl (lv_at hl 2 rfl) ?_
  refine krI (g := g) (wc := (wd_8 g S8)) (pc := 1507) (As := []) (rest := [.int r9]) ⟨hx, hb, hml, hown, hts⟩ (c_X8_asked l g 3000 S8 r9 e2) (cwV 0 hts gL_law_X8_asked rfl rfl rfl h_X8_asked ⟨Nat.le_of_ble_eq_true rfl, Nat.le_of_ble_eq_true rfl⟩) hK (hP.sub (ws' := (wd_8 g S8)) [42, 43, 44, 45, 46, 47, 48, 49, 50, 51, 52, 53, 54, 55, 56, 57, 58, 59, 60, 61, 62, 63, 64, 65, 66, 67, 68, 69, 70, 71, 72, 73] rfl) rfl rfl rfl hl.1 rfl (Nat.le_of_ble_eq_true rfl) dL_law_1507 ⟨Nat.le_of_ble_eq_true rfl, Nat.le_of_ble_eq_true rfl⟩ ?_
  refine lv_icmp_eq (tgt := 1616) (pc := 1510) hx hb dL_law_1510 (by decide) (fun _ => ?_) (fun q => absurd rfl q)
  exact NX S7 S5 S6 S1 S2 S4 S3 S0 S8 H locs ls hR hP hD hS hl
set_option maxHeartbeats 8000000 in
set_option maxRecDepth 100000 in
theorem law_c_37 {p : Program} {l : Launch} {e : Env} {s : State} {m : MethodId} {below : List Frame} {meth : Method} {c : Code} {g : En} {b L j : Nat} {xs : Nat → Int32} (hL : L ≤ 3072) (C0 : lw_At p s m meth c b L xs) (hK : va_K g.1 vwCl (tyl g) s) (hj : 6 * j + 6 ≤ L) (NX : ∀ (S7 : St) (S5 : St) (S6 : St) (S1 : St) (S2 : St) (S4 : St) (S3 : St) (S0 : St) (S8 : St) (H : Heap) (locs : List Loc) (ls : Array Slot), Rel S7 S5 S6 S2 S4 S3 S0 S8 → va_P g.1 vwCl (wd_7_5_6_1_2_4_3_0_8 g S7 S5 S6 S1 S2 S4 S3 S0 S8) H → va_D (fun q : Nat => s.heap.size ≤ q) (wd_7_5_6_1_2_4_3_0_8 g S7 S5 S6 S1 S2 S4 S3 S0 S8) → va_S (fun q : Nat => s.heap.size ≤ q) s.heap H locs → lv_has ls 4 [(0, .ref b), (1, .ref (g.2.2.1 7)), (2, .ref (g.2.2.1 8)), (3, .int (nI (6 * j)))] → W p l e room_1 s m #[Value.ref b] below meth c H locs 74 3834 (lw_Z below #[Value.ref b] s) (F0 m 1616 ls [])) : ∀ (S7 : St) (S5 : St) (S6 : St) (S1 : St) (S2 : St) (S4 : St) (S3 : St) (S0 : St) (S8 : St) (H : Heap) (locs : List Loc) (ls : Array Slot), Rel S7 S5 S6 S2 S4 S3 S0 S8 → va_P g.1 vwCl (wd_7_5_6_1_2_4_3_0_8 g S7 S5 S6 S1 S2 S4 S3 S0 S8) H → va_D (fun q : Nat => s.heap.size ≤ q) (wd_7_5_6_1_2_4_3_0_8 g S7 S5 S6 S1 S2 S4 S3 S0 S8) → va_S (fun q : Nat => s.heap.size ≤ q) s.heap H locs → lv_has ls 4 [(0, .ref b), (1, .ref (g.2.2.1 7)), (2, .ref (g.2.2.1 8)), (3, .int (nI (6 * j)))] → W p l e room_1 s m #[Value.ref b] below meth c H locs 74 3834 (lw_Z below #[Value.ref b] s) (F0 m 1515 ls []) := by
  intro S7 S5 S6 S1 S2 S4 S3 S0 S8 H locs ls hR hP hD hS hl
  obtain ⟨hx, hb, hr, hml, hown0, hts0, hX, hbl, hlocks, hgv⟩ := id C0
  have hown : s.vm.findClass RL = some m.cls := hown0
  have hts : ∀ w ∈ wsL_law, w.before #[Value.ref b] s = true := fun w h => hts0 w (wsL_law_in w h)
  have hA : ∀ q : Nat, s.heap.size ≤ q → (fun q : Nat => s.heap.size ≤ q) q := fun _ h => h
  have hbA : ¬ (fun q : Nat => s.heap.size ≤ q) b := Nat.not_le.mpr hbl
  refine lv_aload_n (pc := 1515) hx hb dL_law_1515 rfl (lv_at hl 1 rfl) ?_
  obtain ⟨r9, e1, e2⟩ := sim_upper (N := 3000) (by decide) hR 
  refine krL (g := g) (wc := (wd_7 g S7)) (pc := 1516) (As := []) (rest := []) ⟨hx, hb, hml, hown, hts⟩ (c_X7_upper l g 3000 S7 r9 e1) (cwV 0 hts gL_law_X7_upper rfl rfl rfl h_X7_upper ⟨Nat.le_of_ble_eq_true rfl, Nat.le_of_ble_eq_true rfl⟩) hK (hP.sub (ws' := (wd_7 g S7)) [0, 1] rfl) rfl rfl rfl hl.1 rfl (Nat.le_of_ble_eq_true rfl) dL_law_1516 ⟨Nat.le_of_ble_eq_true rfl, Nat.le_of_ble_eq_true rfl⟩ ?_
  refine lv_aload_n (pc := 1519) hx hb dL_law_1519 rfl (lv_at hl 2 rfl) ?_
  refine krL (g := g) (wc := (wd_8 g S8)) (pc := 1520) (As := []) (rest := [.long r9]) ⟨hx, hb, hml, hown, hts⟩ (c_X8_upper l g 3000 S8 r9 e2) (cwV 0 hts gL_law_X8_upper rfl rfl rfl h_X8_upper ⟨Nat.le_of_ble_eq_true rfl, Nat.le_of_ble_eq_true rfl⟩) hK (hP.sub (ws' := (wd_8 g S8)) [42, 43, 44, 45, 46, 47, 48, 49, 50, 51, 52, 53, 54, 55, 56, 57, 58, 59, 60, 61, 62, 63, 64, 65, 66, 67, 68, 69, 70, 71, 72, 73] rfl) rfl rfl rfl hl.1 rfl (Nat.le_of_ble_eq_true rfl) dL_law_1520 ⟨Nat.le_of_ble_eq_true rfl, Nat.le_of_ble_eq_true rfl⟩ ?_
  refine W.lcmp (pc := 1523) hx hb dL_law_1523 ?_
  refine lv_if_eq (tgt := 1616) (pc := 1524) hx hb dL_law_1524 (by decide) (fun _ => ?_) (fun q => absurd (lg_self r9) q)
  exact NX S7 S5 S6 S1 S2 S4 S3 S0 S8 H locs ls hR hP hD hS hl
set_option maxHeartbeats 8000000 in
set_option maxRecDepth 100000 in
theorem law_c_38 {p : Program} {l : Launch} {e : Env} {s : State} {m : MethodId} {below : List Frame} {meth : Method} {c : Code} {g : En} {b L j : Nat} {xs : Nat → Int32} (hL : L ≤ 3072) (C0 : lw_At p s m meth c b L xs) (hK : va_K g.1 vwCl (tyl g) s) (hj : 6 * j + 6 ≤ L) (NX : ∀ (S7 : St) (S5 : St) (S6 : St) (S1 : St) (S2 : St) (S4 : St) (S3 : St) (S0 : St) (S8 : St) (H : Heap) (locs : List Loc) (ls : Array Slot), Rel S7 S5 S6 S2 S4 S3 S0 S8 → va_P g.1 vwCl (wd_7_5_6_1_2_4_3_0_8 g S7 S5 S6 S1 S2 S4 S3 S0 S8) H → va_D (fun q : Nat => s.heap.size ≤ q) (wd_7_5_6_1_2_4_3_0_8 g S7 S5 S6 S1 S2 S4 S3 S0 S8) → va_S (fun q : Nat => s.heap.size ≤ q) s.heap H locs → lv_has ls 4 [(0, .ref b), (1, .ref (g.2.2.1 7)), (2, .ref (g.2.2.1 8)), (3, .int (nI (6 * j)))] → W p l e room_1 s m #[Value.ref b] below meth c H locs 74 3834 (lw_Z below #[Value.ref b] s) (F0 m 1616 ls [])) : ∀ (S7 : St) (S5 : St) (S6 : St) (S1 : St) (S2 : St) (S4 : St) (S3 : St) (S0 : St) (S8 : St) (H : Heap) (locs : List Loc) (ls : Array Slot), Rel S7 S5 S6 S2 S4 S3 S0 S8 → va_P g.1 vwCl (wd_7_5_6_1_2_4_3_0_8 g S7 S5 S6 S1 S2 S4 S3 S0 S8) H → va_D (fun q : Nat => s.heap.size ≤ q) (wd_7_5_6_1_2_4_3_0_8 g S7 S5 S6 S1 S2 S4 S3 S0 S8) → va_S (fun q : Nat => s.heap.size ≤ q) s.heap H locs → lv_has ls 4 [(0, .ref b), (1, .ref (g.2.2.1 7)), (2, .ref (g.2.2.1 8)), (3, .int (nI (6 * j)))] → W p l e room_1 s m #[Value.ref b] below meth c H locs 74 3834 (lw_Z below #[Value.ref b] s) (F0 m 1529 ls []) := by
  intro S7 S5 S6 S1 S2 S4 S3 S0 S8 H locs ls hR hP hD hS hl
  obtain ⟨hx, hb, hr, hml, hown0, hts0, hX, hbl, hlocks, hgv⟩ := id C0
  have hown : s.vm.findClass RL = some m.cls := hown0
  have hts : ∀ w ∈ wsL_law, w.before #[Value.ref b] s = true := fun w h => hts0 w (wsL_law_in w h)
  have hA : ∀ q : Nat, s.heap.size ≤ q → (fun q : Nat => s.heap.size ≤ q) q := fun _ h => h
  have hbA : ¬ (fun q : Nat => s.heap.size ≤ q) b := Nat.not_le.mpr hbl
  refine lv_aload_n (pc := 1529) hx hb dL_law_1529 rfl (lv_at hl 1 rfl) ?_
  obtain ⟨r9, e1, e2⟩ := sim_lower (N := 3000) (by decide) hR 
  refine krL (g := g) (wc := (wd_7 g S7)) (pc := 1530) (As := []) (rest := []) ⟨hx, hb, hml, hown, hts⟩ (c_X7_lower l g 3000 S7 r9 e1) (cwV 0 hts gL_law_X7_lower rfl rfl rfl h_X7_lower ⟨Nat.le_of_ble_eq_true rfl, Nat.le_of_ble_eq_true rfl⟩) hK (hP.sub (ws' := (wd_7 g S7)) [0, 1] rfl) rfl rfl rfl hl.1 rfl (Nat.le_of_ble_eq_true rfl) dL_law_1530 ⟨Nat.le_of_ble_eq_true rfl, Nat.le_of_ble_eq_true rfl⟩ ?_
  refine lv_aload_n (pc := 1533) hx hb dL_law_1533 rfl (lv_at hl 2 rfl) ?_
  refine krL (g := g) (wc := (wd_8 g S8)) (pc := 1534) (As := []) (rest := [.long r9]) ⟨hx, hb, hml, hown, hts⟩ (c_X8_lower l g 3000 S8 r9 e2) (cwV 0 hts gL_law_X8_lower rfl rfl rfl h_X8_lower ⟨Nat.le_of_ble_eq_true rfl, Nat.le_of_ble_eq_true rfl⟩) hK (hP.sub (ws' := (wd_8 g S8)) [42, 43, 44, 45, 46, 47, 48, 49, 50, 51, 52, 53, 54, 55, 56, 57, 58, 59, 60, 61, 62, 63, 64, 65, 66, 67, 68, 69, 70, 71, 72, 73] rfl) rfl rfl rfl hl.1 rfl (Nat.le_of_ble_eq_true rfl) dL_law_1534 ⟨Nat.le_of_ble_eq_true rfl, Nat.le_of_ble_eq_true rfl⟩ ?_
  refine W.lcmp (pc := 1537) hx hb dL_law_1537 ?_
  refine lv_if_eq (tgt := 1616) (pc := 1538) hx hb dL_law_1538 (by decide) (fun _ => ?_) (fun q => absurd (lg_self r9) q)
  exact NX S7 S5 S6 S1 S2 S4 S3 S0 S8 H locs ls hR hP hD hS hl
set_option maxHeartbeats 8000000 in
set_option maxRecDepth 100000 in
theorem law_c_39 {p : Program} {l : Launch} {e : Env} {s : State} {m : MethodId} {below : List Frame} {meth : Method} {c : Code} {g : En} {b L j : Nat} {xs : Nat → Int32} (hL : L ≤ 3072) (C0 : lw_At p s m meth c b L xs) (hK : va_K g.1 vwCl (tyl g) s) (hj : 6 * j + 6 ≤ L) (NX : ∀ (S7 : St) (S5 : St) (S6 : St) (S1 : St) (S2 : St) (S4 : St) (S3 : St) (S0 : St) (S8 : St) (H : Heap) (locs : List Loc) (ls : Array Slot), Rel S7 S5 S6 S2 S4 S3 S0 S8 → va_P g.1 vwCl (wd_7_5_6_1_2_4_3_0_8 g S7 S5 S6 S1 S2 S4 S3 S0 S8) H → va_D (fun q : Nat => s.heap.size ≤ q) (wd_7_5_6_1_2_4_3_0_8 g S7 S5 S6 S1 S2 S4 S3 S0 S8) → va_S (fun q : Nat => s.heap.size ≤ q) s.heap H locs → lv_has ls 4 [(0, .ref b), (1, .ref (g.2.2.1 7)), (2, .ref (g.2.2.1 8)), (3, .int (nI (6 * j)))] → W p l e room_1 s m #[Value.ref b] below meth c H locs 74 3834 (lw_Z below #[Value.ref b] s) (F0 m 1616 ls [])) : ∀ (S7 : St) (S5 : St) (S6 : St) (S1 : St) (S2 : St) (S4 : St) (S3 : St) (S0 : St) (S8 : St) (H : Heap) (locs : List Loc) (ls : Array Slot), Rel S7 S5 S6 S2 S4 S3 S0 S8 → va_P g.1 vwCl (wd_7_5_6_1_2_4_3_0_8 g S7 S5 S6 S1 S2 S4 S3 S0 S8) H → va_D (fun q : Nat => s.heap.size ≤ q) (wd_7_5_6_1_2_4_3_0_8 g S7 S5 S6 S1 S2 S4 S3 S0 S8) → va_S (fun q : Nat => s.heap.size ≤ q) s.heap H locs → lv_has ls 4 [(0, .ref b), (1, .ref (g.2.2.1 7)), (2, .ref (g.2.2.1 8)), (3, .int (nI (6 * j)))] → W p l e room_1 s m #[Value.ref b] below meth c H locs 74 3834 (lw_Z below #[Value.ref b] s) (F0 m 1543 ls []) := by
  intro S7 S5 S6 S1 S2 S4 S3 S0 S8 H locs ls hR hP hD hS hl
  obtain ⟨hx, hb, hr, hml, hown0, hts0, hX, hbl, hlocks, hgv⟩ := id C0
  have hown : s.vm.findClass RL = some m.cls := hown0
  have hts : ∀ w ∈ wsL_law, w.before #[Value.ref b] s = true := fun w h => hts0 w (wsL_law_in w h)
  have hA : ∀ q : Nat, s.heap.size ≤ q → (fun q : Nat => s.heap.size ≤ q) q := fun _ h => h
  have hbA : ¬ (fun q : Nat => s.heap.size ≤ q) b := Nat.not_le.mpr hbl
  refine lv_aload_n (pc := 1543) hx hb dL_law_1543 rfl (lv_at hl 1 rfl) ?_
  refine lv_aload_n (pc := 1544) hx hb dL_law_1544 rfl (lv_at hl 0 rfl) ?_
  refine lv_iload_n (pc := 1545) hx hb dL_law_1545 rfl (lv_at hl 3 rfl) ?_
  refine lv_iconst (v := 1) (pc := 1546) hx hb dL_law_1546 (by decide) ?_
  refine lv_iadd (pc := 1547) hx hb dL_law_1547 ?_
  refine va_sld (pc := 1548) hx hb hX hbl hbA hS (lix1 hL hj) dL_law_1548 ?_
  obtain ⟨r9, e1, e2⟩ := sim_count (N := 3000) (by decide) hR ((xs (Int32.toNatClampNeg ((nI (6 * j)) + 1))))
  refine krI (g := g) (wc := (wd_7_5_2_4_3_0 g S7 S5 S2 S4 S3 S0)) (pc := 1549) (As := [.int (xs (Int32.toNatClampNeg ((nI (6 * j)) + 1)))]) (rest := []) ⟨hx, hb, hml, hown, hts⟩ (c_X7_count l g 3000 S7 S5 S2 S4 S3 S0 ((xs (Int32.toNatClampNeg ((nI (6 * j)) + 1)))) r9 e1) (cwV 1 hts gL_law_X7_count rfl rfl rfl h_X7_count ⟨Nat.le_of_ble_eq_true rfl, Nat.le_of_ble_eq_true rfl⟩) hK (hP.sub (ws' := (wd_7_5_2_4_3_0 g S7 S5 S2 S4 S3 S0)) [0, 1, 2, 3, 4, 5, 6, 7, 8, 9, 10, 11, 20, 21, 22, 23, 24, 25, 26, 27, 28, 29, 30, 31, 32, 33, 34, 35, 36, 37, 38, 39, 40, 41] rfl) rfl rfl rfl hl.1 rfl (Nat.le_of_ble_eq_true rfl) dL_law_1549 ⟨Nat.le_of_ble_eq_true rfl, Nat.le_of_ble_eq_true rfl⟩ ?_
  refine lv_aload_n (pc := 1552) hx hb dL_law_1552 rfl (lv_at hl 2 rfl) ?_
  refine lv_aload_n (pc := 1553) hx hb dL_law_1553 rfl (lv_at hl 0 rfl) ?_
  refine lv_iload_n (pc := 1554) hx hb dL_law_1554 rfl (lv_at hl 3 rfl) ?_
  refine lv_iconst (v := 1) (pc := 1555) hx hb dL_law_1555 (by decide) ?_
  refine lv_iadd (pc := 1556) hx hb dL_law_1556 ?_
  refine va_sld (pc := 1557) hx hb hX hbl hbA hS (lix1 hL hj) dL_law_1557 ?_
  refine krI (g := g) (wc := (wd_8 g S8)) (pc := 1558) (As := [.int (xs (Int32.toNatClampNeg ((nI (6 * j)) + 1)))]) (rest := [.int r9]) ⟨hx, hb, hml, hown, hts⟩ (c_X8_count l g 3000 S8 ((xs (Int32.toNatClampNeg ((nI (6 * j)) + 1)))) r9 e2) (cwV 1 hts gL_law_X8_count rfl rfl rfl h_X8_count ⟨Nat.le_of_ble_eq_true rfl, Nat.le_of_ble_eq_true rfl⟩) hK (hP.sub (ws' := (wd_8 g S8)) [42, 43, 44, 45, 46, 47, 48, 49, 50, 51, 52, 53, 54, 55, 56, 57, 58, 59, 60, 61, 62, 63, 64, 65, 66, 67, 68, 69, 70, 71, 72, 73] rfl) rfl rfl rfl hl.1 rfl (Nat.le_of_ble_eq_true rfl) dL_law_1558 ⟨Nat.le_of_ble_eq_true rfl, Nat.le_of_ble_eq_true rfl⟩ ?_
  refine lv_icmp_eq (tgt := 1616) (pc := 1561) hx hb dL_law_1561 (by decide) (fun _ => ?_) (fun q => absurd rfl q)
  exact NX S7 S5 S6 S1 S2 S4 S3 S0 S8 H locs ls hR hP hD hS hl
set_option maxHeartbeats 8000000 in
set_option maxRecDepth 100000 in
theorem law_c_40 {p : Program} {l : Launch} {e : Env} {s : State} {m : MethodId} {below : List Frame} {meth : Method} {c : Code} {g : En} {b L j : Nat} {xs : Nat → Int32} (hL : L ≤ 3072) (C0 : lw_At p s m meth c b L xs) (hK : va_K g.1 vwCl (tyl g) s) (hj : 6 * j + 6 ≤ L) (NX : ∀ (S7 : St) (S5 : St) (S6 : St) (S1 : St) (S2 : St) (S4 : St) (S3 : St) (S0 : St) (S8 : St) (H : Heap) (locs : List Loc) (ls : Array Slot), Rel S7 S5 S6 S2 S4 S3 S0 S8 → va_P g.1 vwCl (wd_7_5_6_1_2_4_3_0_8 g S7 S5 S6 S1 S2 S4 S3 S0 S8) H → va_D (fun q : Nat => s.heap.size ≤ q) (wd_7_5_6_1_2_4_3_0_8 g S7 S5 S6 S1 S2 S4 S3 S0 S8) → va_S (fun q : Nat => s.heap.size ≤ q) s.heap H locs → lv_has ls 4 [(0, .ref b), (1, .ref (g.2.2.1 7)), (2, .ref (g.2.2.1 8)), (3, .int (nI (6 * j)))] → W p l e room_1 s m #[Value.ref b] below meth c H locs 74 3834 (lw_Z below #[Value.ref b] s) (F0 m 1616 ls [])) : ∀ (S7 : St) (S5 : St) (S6 : St) (S1 : St) (S2 : St) (S4 : St) (S3 : St) (S0 : St) (S8 : St) (H : Heap) (locs : List Loc) (ls : Array Slot), Rel S7 S5 S6 S2 S4 S3 S0 S8 → va_P g.1 vwCl (wd_7_5_6_1_2_4_3_0_8 g S7 S5 S6 S1 S2 S4 S3 S0 S8) H → va_D (fun q : Nat => s.heap.size ≤ q) (wd_7_5_6_1_2_4_3_0_8 g S7 S5 S6 S1 S2 S4 S3 S0 S8) → va_S (fun q : Nat => s.heap.size ≤ q) s.heap H locs → lv_has ls 4 [(0, .ref b), (1, .ref (g.2.2.1 7)), (2, .ref (g.2.2.1 8)), (3, .int (nI (6 * j)))] → W p l e room_1 s m #[Value.ref b] below meth c H locs 74 3834 (lw_Z below #[Value.ref b] s) (F0 m 1566 ls []) := by
  intro S7 S5 S6 S1 S2 S4 S3 S0 S8 H locs ls hR hP hD hS hl
  obtain ⟨hx, hb, hr, hml, hown0, hts0, hX, hbl, hlocks, hgv⟩ := id C0
  have hown : s.vm.findClass RL = some m.cls := hown0
  have hts : ∀ w ∈ wsL_law, w.before #[Value.ref b] s = true := fun w h => hts0 w (wsL_law_in w h)
  have hA : ∀ q : Nat, s.heap.size ≤ q → (fun q : Nat => s.heap.size ≤ q) q := fun _ h => h
  have hbA : ¬ (fun q : Nat => s.heap.size ≤ q) b := Nat.not_le.mpr hbl
  refine lv_aload_n (pc := 1566) hx hb dL_law_1566 rfl (lv_at hl 1 rfl) ?_
  obtain ⟨r9, e1, e2⟩ := sim_finding (N := 3000) (by decide) hR 
  refine krI (g := g) (wc := (wd_7 g S7)) (pc := 1567) (As := []) (rest := []) ⟨hx, hb, hml, hown, hts⟩ (c_X7_finding l g 3000 S7 r9 e1) (cwV 0 hts gL_law_X7_finding rfl rfl rfl h_X7_finding ⟨Nat.le_of_ble_eq_true rfl, Nat.le_of_ble_eq_true rfl⟩) hK (hP.sub (ws' := (wd_7 g S7)) [0, 1] rfl) rfl rfl rfl hl.1 rfl (Nat.le_of_ble_eq_true rfl) dL_law_1567 ⟨Nat.le_of_ble_eq_true rfl, Nat.le_of_ble_eq_true rfl⟩ ?_
  refine lv_aload_n (pc := 1570) hx hb dL_law_1570 rfl (lv_at hl 2 rfl) ?_
  refine krI (g := g) (wc := (wd_8 g S8)) (pc := 1571) (As := []) (rest := [.int r9]) ⟨hx, hb, hml, hown, hts⟩ (c_X8_finding l g 3000 S8 r9 e2) (cwV 0 hts gL_law_X8_finding rfl rfl rfl h_X8_finding ⟨Nat.le_of_ble_eq_true rfl, Nat.le_of_ble_eq_true rfl⟩) hK (hP.sub (ws' := (wd_8 g S8)) [42, 43, 44, 45, 46, 47, 48, 49, 50, 51, 52, 53, 54, 55, 56, 57, 58, 59, 60, 61, 62, 63, 64, 65, 66, 67, 68, 69, 70, 71, 72, 73] rfl) rfl rfl rfl hl.1 rfl (Nat.le_of_ble_eq_true rfl) dL_law_1571 ⟨Nat.le_of_ble_eq_true rfl, Nat.le_of_ble_eq_true rfl⟩ ?_
  refine lv_icmp_eq (tgt := 1616) (pc := 1574) hx hb dL_law_1574 (by decide) (fun _ => ?_) (fun q => absurd rfl q)
  exact NX S7 S5 S6 S1 S2 S4 S3 S0 S8 H locs ls hR hP hD hS hl
set_option maxHeartbeats 8000000 in
set_option maxRecDepth 100000 in
theorem law_c_41 {p : Program} {l : Launch} {e : Env} {s : State} {m : MethodId} {below : List Frame} {meth : Method} {c : Code} {g : En} {b L j : Nat} {xs : Nat → Int32} (hL : L ≤ 3072) (C0 : lw_At p s m meth c b L xs) (hK : va_K g.1 vwCl (tyl g) s) (hj : 6 * j + 6 ≤ L) (NX : ∀ (S7 : St) (S5 : St) (S6 : St) (S1 : St) (S2 : St) (S4 : St) (S3 : St) (S0 : St) (S8 : St) (H : Heap) (locs : List Loc) (ls : Array Slot), Rel S7 S5 S6 S2 S4 S3 S0 S8 → va_P g.1 vwCl (wd_7_5_6_1_2_4_3_0_8 g S7 S5 S6 S1 S2 S4 S3 S0 S8) H → va_D (fun q : Nat => s.heap.size ≤ q) (wd_7_5_6_1_2_4_3_0_8 g S7 S5 S6 S1 S2 S4 S3 S0 S8) → va_S (fun q : Nat => s.heap.size ≤ q) s.heap H locs → lv_has ls 4 [(0, .ref b), (1, .ref (g.2.2.1 7)), (2, .ref (g.2.2.1 8)), (3, .int (nI (6 * j)))] → W p l e room_1 s m #[Value.ref b] below meth c H locs 74 3834 (lw_Z below #[Value.ref b] s) (F0 m 1616 ls [])) : ∀ (S7 : St) (S5 : St) (S6 : St) (S1 : St) (S2 : St) (S4 : St) (S3 : St) (S0 : St) (S8 : St) (H : Heap) (locs : List Loc) (ls : Array Slot), Rel S7 S5 S6 S2 S4 S3 S0 S8 → va_P g.1 vwCl (wd_7_5_6_1_2_4_3_0_8 g S7 S5 S6 S1 S2 S4 S3 S0 S8) H → va_D (fun q : Nat => s.heap.size ≤ q) (wd_7_5_6_1_2_4_3_0_8 g S7 S5 S6 S1 S2 S4 S3 S0 S8) → va_S (fun q : Nat => s.heap.size ≤ q) s.heap H locs → lv_has ls 4 [(0, .ref b), (1, .ref (g.2.2.1 7)), (2, .ref (g.2.2.1 8)), (3, .int (nI (6 * j)))] → W p l e room_1 s m #[Value.ref b] below meth c H locs 74 3834 (lw_Z below #[Value.ref b] s) (F0 m 1579 ls []) := by
  intro S7 S5 S6 S1 S2 S4 S3 S0 S8 H locs ls hR hP hD hS hl
  obtain ⟨hx, hb, hr, hml, hown0, hts0, hX, hbl, hlocks, hgv⟩ := id C0
  have hown : s.vm.findClass RL = some m.cls := hown0
  have hts : ∀ w ∈ wsL_law, w.before #[Value.ref b] s = true := fun w h => hts0 w (wsL_law_in w h)
  have hA : ∀ q : Nat, s.heap.size ≤ q → (fun q : Nat => s.heap.size ≤ q) q := fun _ h => h
  have hbA : ¬ (fun q : Nat => s.heap.size ≤ q) b := Nat.not_le.mpr hbl
  refine lv_aload_n (pc := 1579) hx hb dL_law_1579 rfl (lv_at hl 1 rfl) ?_
  refine lv_aload_n (pc := 1580) hx hb dL_law_1580 rfl (lv_at hl 0 rfl) ?_
  refine lv_iload_n (pc := 1581) hx hb dL_law_1581 rfl (lv_at hl 3 rfl) ?_
  refine lv_iconst (v := 1) (pc := 1582) hx hb dL_law_1582 (by decide) ?_
  refine lv_iadd (pc := 1583) hx hb dL_law_1583 ?_
  refine va_sld (pc := 1584) hx hb hX hbl hbA hS (lix1 hL hj) dL_law_1584 ?_
  obtain ⟨r9, e1, e2⟩ := sim_findings (N := 3000) (by decide) hR ((xs (Int32.toNatClampNeg ((nI (6 * j)) + 1))))
  refine krI (g := g) (wc := (wd_7 g S7)) (pc := 1585) (As := [.int (xs (Int32.toNatClampNeg ((nI (6 * j)) + 1)))]) (rest := []) ⟨hx, hb, hml, hown, hts⟩ (c_X7_findings l g 3000 S7 ((xs (Int32.toNatClampNeg ((nI (6 * j)) + 1)))) r9 e1) (cwV 1 hts gL_law_X7_findings rfl rfl rfl h_X7_findings ⟨Nat.le_of_ble_eq_true rfl, Nat.le_of_ble_eq_true rfl⟩) hK (hP.sub (ws' := (wd_7 g S7)) [0, 1] rfl) rfl rfl rfl hl.1 rfl (Nat.le_of_ble_eq_true rfl) dL_law_1585 ⟨Nat.le_of_ble_eq_true rfl, Nat.le_of_ble_eq_true rfl⟩ ?_
  refine lv_aload_n (pc := 1588) hx hb dL_law_1588 rfl (lv_at hl 2 rfl) ?_
  refine lv_aload_n (pc := 1589) hx hb dL_law_1589 rfl (lv_at hl 0 rfl) ?_
  refine lv_iload_n (pc := 1590) hx hb dL_law_1590 rfl (lv_at hl 3 rfl) ?_
  refine lv_iconst (v := 1) (pc := 1591) hx hb dL_law_1591 (by decide) ?_
  refine lv_iadd (pc := 1592) hx hb dL_law_1592 ?_
  refine va_sld (pc := 1593) hx hb hX hbl hbA hS (lix1 hL hj) dL_law_1593 ?_
  refine krI (g := g) (wc := (wd_8 g S8)) (pc := 1594) (As := [.int (xs (Int32.toNatClampNeg ((nI (6 * j)) + 1)))]) (rest := [.int r9]) ⟨hx, hb, hml, hown, hts⟩ (c_X8_findings l g 3000 S8 ((xs (Int32.toNatClampNeg ((nI (6 * j)) + 1)))) r9 e2) (cwV 1 hts gL_law_X8_findings rfl rfl rfl h_X8_findings ⟨Nat.le_of_ble_eq_true rfl, Nat.le_of_ble_eq_true rfl⟩) hK (hP.sub (ws' := (wd_8 g S8)) [42, 43, 44, 45, 46, 47, 48, 49, 50, 51, 52, 53, 54, 55, 56, 57, 58, 59, 60, 61, 62, 63, 64, 65, 66, 67, 68, 69, 70, 71, 72, 73] rfl) rfl rfl rfl hl.1 rfl (Nat.le_of_ble_eq_true rfl) dL_law_1594 ⟨Nat.le_of_ble_eq_true rfl, Nat.le_of_ble_eq_true rfl⟩ ?_
  refine lv_icmp_eq (tgt := 1616) (pc := 1597) hx hb dL_law_1597 (by decide) (fun _ => ?_) (fun q => absurd rfl q)
  exact NX S7 S5 S6 S1 S2 S4 S3 S0 S8 H locs ls hR hP hD hS hl
set_option maxHeartbeats 8000000 in
set_option maxRecDepth 100000 in
theorem law_c_42 {p : Program} {l : Launch} {e : Env} {s : State} {m : MethodId} {below : List Frame} {meth : Method} {c : Code} {g : En} {b L j : Nat} {xs : Nat → Int32} (hL : L ≤ 3072) (C0 : lw_At p s m meth c b L xs) (hK : va_K g.1 vwCl (tyl g) s) (hj : 6 * j + 6 ≤ L) (NX : ∀ (S7 : St) (S5 : St) (S6 : St) (S1 : St) (S2 : St) (S4 : St) (S3 : St) (S0 : St) (S8 : St) (H : Heap) (locs : List Loc) (ls : Array Slot), Rel S7 S5 S6 S2 S4 S3 S0 S8 → va_P g.1 vwCl (wd_7_5_6_1_2_4_3_0_8 g S7 S5 S6 S1 S2 S4 S3 S0 S8) H → va_D (fun q : Nat => s.heap.size ≤ q) (wd_7_5_6_1_2_4_3_0_8 g S7 S5 S6 S1 S2 S4 S3 S0 S8) → va_S (fun q : Nat => s.heap.size ≤ q) s.heap H locs → lv_has ls 4 [(0, .ref b), (1, .ref (g.2.2.1 7)), (2, .ref (g.2.2.1 8)), (3, .int (nI (6 * j)))] → W p l e room_1 s m #[Value.ref b] below meth c H locs 74 3834 (lw_Z below #[Value.ref b] s) (F0 m 1616 ls [])) : ∀ (S7 : St) (S5 : St) (S6 : St) (S1 : St) (S2 : St) (S4 : St) (S3 : St) (S0 : St) (S8 : St) (H : Heap) (locs : List Loc) (ls : Array Slot), Rel S7 S5 S6 S2 S4 S3 S0 S8 → va_P g.1 vwCl (wd_7_5_6_1_2_4_3_0_8 g S7 S5 S6 S1 S2 S4 S3 S0 S8) H → va_D (fun q : Nat => s.heap.size ≤ q) (wd_7_5_6_1_2_4_3_0_8 g S7 S5 S6 S1 S2 S4 S3 S0 S8) → va_S (fun q : Nat => s.heap.size ≤ q) s.heap H locs → lv_has ls 4 [(0, .ref b), (1, .ref (g.2.2.1 7)), (2, .ref (g.2.2.1 8)), (3, .int (nI (6 * j)))] → W p l e room_1 s m #[Value.ref b] below meth c H locs 74 3834 (lw_Z below #[Value.ref b] s) (F0 m 1602 ls []) := by
  intro S7 S5 S6 S1 S2 S4 S3 S0 S8 H locs ls hR hP hD hS hl
  obtain ⟨hx, hb, hr, hml, hown0, hts0, hX, hbl, hlocks, hgv⟩ := id C0
  have hown : s.vm.findClass RL = some m.cls := hown0
  have hts : ∀ w ∈ wsL_law, w.before #[Value.ref b] s = true := fun w h => hts0 w (wsL_law_in w h)
  have hA : ∀ q : Nat, s.heap.size ≤ q → (fun q : Nat => s.heap.size ≤ q) q := fun _ h => h
  have hbA : ¬ (fun q : Nat => s.heap.size ≤ q) b := Nat.not_le.mpr hbl
  refine lv_aload_n (pc := 1602) hx hb dL_law_1602 rfl (lv_at hl 1 rfl) ?_
  obtain ⟨r9, e1, e2⟩ := sim_digest (N := 3000) (by decide) hR 
  refine krL (g := g) (wc := (wd_7_5_6_2_4_3_0 g S7 S5 S6 S2 S4 S3 S0)) (pc := 1603) (As := []) (rest := []) ⟨hx, hb, hml, hown, hts⟩ (c_X7_digest l g 3000 S7 S5 S6 S2 S4 S3 S0 r9 e1) (cwV 0 hts gL_law_X7_digest rfl rfl rfl h_X7_digest ⟨Nat.le_of_ble_eq_true rfl, Nat.le_of_ble_eq_true rfl⟩) hK (hP.sub (ws' := (wd_7_5_6_2_4_3_0 g S7 S5 S6 S2 S4 S3 S0)) [0, 1, 2, 3, 4, 5, 6, 7, 8, 9, 10, 11, 12, 13, 14, 20, 21, 22, 23, 24, 25, 26, 27, 28, 29, 30, 31, 32, 33, 34, 35, 36, 37, 38, 39, 40, 41] rfl) rfl rfl rfl hl.1 rfl (Nat.le_of_ble_eq_true rfl) dL_law_1603 ⟨Nat.le_of_ble_eq_true rfl, Nat.le_of_ble_eq_true rfl⟩ ?_
  refine lv_aload_n (pc := 1606) hx hb dL_law_1606 rfl (lv_at hl 2 rfl) ?_
  refine krL (g := g) (wc := (wd_8 g S8)) (pc := 1607) (As := []) (rest := [.long r9]) ⟨hx, hb, hml, hown, hts⟩ (c_X8_digest l g 3000 S8 r9 e2) (cwV 0 hts gL_law_X8_digest rfl rfl rfl h_X8_digest ⟨Nat.le_of_ble_eq_true rfl, Nat.le_of_ble_eq_true rfl⟩) hK (hP.sub (ws' := (wd_8 g S8)) [42, 43, 44, 45, 46, 47, 48, 49, 50, 51, 52, 53, 54, 55, 56, 57, 58, 59, 60, 61, 62, 63, 64, 65, 66, 67, 68, 69, 70, 71, 72, 73] rfl) rfl rfl rfl hl.1 rfl (Nat.le_of_ble_eq_true rfl) dL_law_1607 ⟨Nat.le_of_ble_eq_true rfl, Nat.le_of_ble_eq_true rfl⟩ ?_
  refine W.lcmp (pc := 1610) hx hb dL_law_1610 ?_
  refine lv_if_eq (tgt := 1616) (pc := 1611) hx hb dL_law_1611 (by decide) (fun _ => ?_) (fun q => absurd (lg_self r9) q)
  exact NX S7 S5 S6 S1 S2 S4 S3 S0 S8 H locs ls hR hP hD hS hl
set_option maxHeartbeats 8000000 in
theorem law_next {p : Program} {l : Launch} {e : Env} {s : State} {m : MethodId} {below : List Frame} {meth : Method} {c : Code} {g : En} {b L j : Nat} {xs : Nat → Int32} (hL : L ≤ 3072) (C0 : lw_At p s m meth c b L xs) (hK : va_K g.1 vwCl (tyl g) s) (IH : ∀ (S7 : St) (S5 : St) (S6 : St) (S1 : St) (S2 : St) (S4 : St) (S3 : St) (S0 : St) (S8 : St) (H : Heap) (locs : List Loc) (ls : Array Slot), Rel S7 S5 S6 S2 S4 S3 S0 S8 → va_P g.1 vwCl (wd_7_5_6_1_2_4_3_0_8 g S7 S5 S6 S1 S2 S4 S3 S0 S8) H → va_D (fun q : Nat => s.heap.size ≤ q) (wd_7_5_6_1_2_4_3_0_8 g S7 S5 S6 S1 S2 S4 S3 S0 S8) → va_S (fun q : Nat => s.heap.size ≤ q) s.heap H locs → lv_has ls 4 [(0, .ref b), (1, .ref (g.2.2.1 7)), (2, .ref (g.2.2.1 8)), (3, .int (nI (6 * (j + 1))))] → W p l e room_1 s m #[Value.ref b] below meth c H locs 74 3834 (lw_Z below #[Value.ref b] s) (F0 m 18 ls [])) : ∀ (S7 : St) (S5 : St) (S6 : St) (S1 : St) (S2 : St) (S4 : St) (S3 : St) (S0 : St) (S8 : St) (H : Heap) (locs : List Loc) (ls : Array Slot), Rel S7 S5 S6 S2 S4 S3 S0 S8 → va_P g.1 vwCl (wd_7_5_6_1_2_4_3_0_8 g S7 S5 S6 S1 S2 S4 S3 S0 S8) H → va_D (fun q : Nat => s.heap.size ≤ q) (wd_7_5_6_1_2_4_3_0_8 g S7 S5 S6 S1 S2 S4 S3 S0 S8) → va_S (fun q : Nat => s.heap.size ≤ q) s.heap H locs → lv_has ls 4 [(0, .ref b), (1, .ref (g.2.2.1 7)), (2, .ref (g.2.2.1 8)), (3, .int (nI (6 * j)))] → W p l e room_1 s m #[Value.ref b] below meth c H locs 74 3834 (lw_Z below #[Value.ref b] s) (F0 m 1616 ls []) := by
  intro S7 S5 S6 S1 S2 S4 S3 S0 S8 H locs ls hR hP hD hS hl
  obtain ⟨hx, hb, hr, hml, hown0, hts0, hX, hbl, hlocks, hgv⟩ := id C0
  have hown : s.vm.findClass RL = some m.cls := hown0
  have hts : ∀ w ∈ wsL_law, w.before #[Value.ref b] s = true := fun w h => hts0 w (wsL_law_in w h)
  have hA : ∀ q : Nat, s.heap.size ≤ q → (fun q : Nat => s.heap.size ≤ q) q := fun _ h => h
  have hbA : ¬ (fun q : Nat => s.heap.size ≤ q) b := Nat.not_le.mpr hbl
  refine lv_iinc (v := nI (6 * (j + 1))) (lv' := [(3, .int (nI (6 * (j + 1)))), (0, .ref b), (1, .ref (g.2.2.1 7)), (2, .ref (g.2.2.1 8))]) (pc := 1616) hx hb dL_law_1616 hl (k := 3) rfl (by rw [show 6 * (j + 1) = 6 * j + 6 by omega]; exact nI_add (6 * j) 6) (by decide) rfl (fun ls hl => ?_)
  refine lv_goto (tgt := 18) (pc := 1619) hx hb dL_law_1619 (by decide) ?_
  exact IH S7 S5 S6 S1 S2 S4 S3 S0 S8 H locs ls hR hP hD hS (lv_sub hl [1, 2, 3, 0] rfl)
theorem lchk {j L : Nat} (hL : L ≤ 3072) (hj : 6 * j ≤ L) (h : ¬ Int32.ofNat L - 6 < nI (6 * j)) : 6 * j + 6 ≤ L := by
  rw [fa_lt] at h
  have e1 : (Int32.ofNat L).toInt = L := nI_toInt (n := L) (by omega)
  have e2 : (nI (6 * j)).toInt = ((6 * j : Nat) : Int) := nI_toInt (by omega)
  have e3 : (Int32.ofNat L - 6).toInt = (Int32.ofNat L).toInt - (6 : Int32).toInt := fb_subI (by rw [e1]; show _ ≤ (L : Int) - 6; omega) (by rw [e1]; show (L : Int) - 6 < _; omega)
  rw [e3, e1, e2] at h
  have e4 : (6 : Int32).toInt = 6 := rfl
  omega
set_option maxHeartbeats 8000000 in
set_option maxRecDepth 100000 in
theorem law_loop {p : Program} {l : Launch} {e : Env} {s : State} {m : MethodId} {below : List Frame} {meth : Method} {c : Code} {g : En} {b L : Nat} {xs : Nat → Int32} (hL : L ≤ 3072) (C0 : lw_At p s m meth c b L xs) (hK : va_K g.1 vwCl (tyl g) s) : ∀ (n j : Nat), 6 * j ≤ L → L < 6 * j + n → ∀ (S7 : St) (S5 : St) (S6 : St) (S1 : St) (S2 : St) (S4 : St) (S3 : St) (S0 : St) (S8 : St) (H : Heap) (locs : List Loc) (ls : Array Slot), Rel S7 S5 S6 S2 S4 S3 S0 S8 → va_P g.1 vwCl (wd_7_5_6_1_2_4_3_0_8 g S7 S5 S6 S1 S2 S4 S3 S0 S8) H → va_D (fun q : Nat => s.heap.size ≤ q) (wd_7_5_6_1_2_4_3_0_8 g S7 S5 S6 S1 S2 S4 S3 S0 S8) → va_S (fun q : Nat => s.heap.size ≤ q) s.heap H locs → lv_has ls 4 [(0, .ref b), (1, .ref (g.2.2.1 7)), (2, .ref (g.2.2.1 8)), (3, .int (nI (6 * j)))] → W p l e room_1 s m #[Value.ref b] below meth c H locs 74 3834 (lw_Z below #[Value.ref b] s) (F0 m 18 ls []) := by
  intro n
  induction n with
  | zero => intro j h1 h2; omega
  | succ n ih =>
    intro j hj0 hn
    intro S7 S5 S6 S1 S2 S4 S3 S0 S8 H locs ls hR hP hD hS hl
    obtain ⟨hx, hb, hr, hml, hown0, hts0, hX, hbl, hlocks, hgv⟩ := id C0
    have hown : s.vm.findClass RL = some m.cls := hown0
    have hts : ∀ w ∈ wsL_law, w.before #[Value.ref b] s = true := fun w h => hts0 w (wsL_law_in w h)
    have hA : ∀ q : Nat, s.heap.size ≤ q → (fun q : Nat => s.heap.size ≤ q) q := fun _ h => h
    have hbA : ¬ (fun q : Nat => s.heap.size ≤ q) b := Nat.not_le.mpr hbl
    refine lv_iload_n (pc := 18) hx hb dL_law_18 rfl (lv_at hl 3 rfl) ?_
    refine lv_aload_n (pc := 19) hx hb dL_law_19 rfl (lv_at hl 0 rfl) ?_
    refine va_slen (pc := 20) hx hb hX hbl hbA hS dL_law_20 ?_
    refine lv_bipush (v := 6) (pc := 21) hx hb dL_law_21 (by decide) ?_
    refine lv_isub (pc := 23) hx hb dL_law_23 ?_
    refine lv_icmp_gt (tgt := 1622) (pc := 24) hx hb dL_law_24 (by decide) (fun c24 => ?_) (fun c24 => ?_)
    · refine lv_iconst (v := 1) (pc := 1622) hx hb dL_law_1622 (by decide) ?_
      refine va_forget (fun q hq => hS.2.2 q hq) ?_
      exact lw_ret hx hb hr hlocks dL_law_1623
    · have hj := lchk hL hj0 c24
      have NX : ∀ (S7 : St) (S5 : St) (S6 : St) (S1 : St) (S2 : St) (S4 : St) (S3 : St) (S0 : St) (S8 : St) (H : Heap) (locs : List Loc) (ls : Array Slot), Rel S7 S5 S6 S2 S4 S3 S0 S8 → va_P g.1 vwCl (wd_7_5_6_1_2_4_3_0_8 g S7 S5 S6 S1 S2 S4 S3 S0 S8) H → va_D (fun q : Nat => s.heap.size ≤ q) (wd_7_5_6_1_2_4_3_0_8 g S7 S5 S6 S1 S2 S4 S3 S0 S8) → va_S (fun q : Nat => s.heap.size ≤ q) s.heap H locs → lv_has ls 4 [(0, .ref b), (1, .ref (g.2.2.1 7)), (2, .ref (g.2.2.1 8)), (3, .int (nI (6 * j)))] → W p l e room_1 s m #[Value.ref b] below meth c H locs 74 3834 (lw_Z below #[Value.ref b] s) (F0 m 1616 ls []) := law_next hL C0 hK (ih (j + 1) (by omega) (by omega))
      refine lv_aload_n (pc := 27) hx hb dL_law_27 rfl (lv_at hl 0 rfl) ?_
      refine lv_iload_n (pc := 28) hx hb dL_law_28 rfl (lv_at hl 3 rfl) ?_
      refine va_sld (pc := 29) hx hb hX hbl hbA hS (vp_in_nI (by omega) (by omega)) dL_law_29 ?_
      refine lv_bipush (v := 63) (pc := 30) hx hb dL_law_30 (by decide) ?_
      refine lv_iand (pc := 32) hx hb dL_law_32 ?_
      by_cases c33_0 : (xs (Int32.toNatClampNeg (nI (6 * j))) &&& 63) = 0
      · refine lv_tableIn (tgt := 220) (pc := 33) hx hb dL_law_33 (by rw [c33_0]; decide) (by rw [c33_0]; decide) (by rw [c33_0]; rfl) (by decide) ?_
        exact law_c_0 hL C0 hK hj NX S7 S5 S6 S1 S2 S4 S3 S0 S8 H locs ls hR hP hD hS hl
      by_cases c33_1 : (xs (Int32.toNatClampNeg (nI (6 * j))) &&& 63) = 1
      · refine lv_tableIn (tgt := 243) (pc := 33) hx hb dL_law_33 (by rw [c33_1]; decide) (by rw [c33_1]; decide) (by rw [c33_1]; rfl) (by decide) ?_
        exact law_c_1 hL C0 hK hj NX S7 S5 S6 S1 S2 S4 S3 S0 S8 H locs ls hR hP hD hS hl
      by_cases c33_2 : (xs (Int32.toNatClampNeg (nI (6 * j))) &&& 63) = 2
      · refine lv_tableIn (tgt := 276) (pc := 33) hx hb dL_law_33 (by rw [c33_2]; decide) (by rw [c33_2]; decide) (by rw [c33_2]; rfl) (by decide) ?_
        exact law_c_2 hL C0 hK hj NX S7 S5 S6 S1 S2 S4 S3 S0 S8 H locs ls hR hP hD hS hl
      by_cases c33_3 : (xs (Int32.toNatClampNeg (nI (6 * j))) &&& 63) = 3
      · refine lv_tableIn (tgt := 319) (pc := 33) hx hb dL_law_33 (by rw [c33_3]; decide) (by rw [c33_3]; decide) (by rw [c33_3]; rfl) (by decide) ?_
        exact law_c_3 hL C0 hK hj NX S7 S5 S6 S1 S2 S4 S3 S0 S8 H locs ls hR hP hD hS hl
      by_cases c33_4 : (xs (Int32.toNatClampNeg (nI (6 * j))) &&& 63) = 4
      · refine lv_tableIn (tgt := 342) (pc := 33) hx hb dL_law_33 (by rw [c33_4]; decide) (by rw [c33_4]; decide) (by rw [c33_4]; rfl) (by decide) ?_
        exact law_c_4 hL C0 hK hj NX S7 S5 S6 S1 S2 S4 S3 S0 S8 H locs ls hR hP hD hS hl
      by_cases c33_5 : (xs (Int32.toNatClampNeg (nI (6 * j))) &&& 63) = 5
      · refine lv_tableIn (tgt := 405) (pc := 33) hx hb dL_law_33 (by rw [c33_5]; decide) (by rw [c33_5]; decide) (by rw [c33_5]; rfl) (by decide) ?_
        exact law_c_5 hL C0 hK hj NX S7 S5 S6 S1 S2 S4 S3 S0 S8 H locs ls hR hP hD hS hl
      by_cases c33_6 : (xs (Int32.toNatClampNeg (nI (6 * j))) &&& 63) = 6
      · refine lv_tableIn (tgt := 438) (pc := 33) hx hb dL_law_33 (by rw [c33_6]; decide) (by rw [c33_6]; decide) (by rw [c33_6]; rfl) (by decide) ?_
        exact law_c_6 hL C0 hK hj NX S7 S5 S6 S1 S2 S4 S3 S0 S8 H locs ls hR hP hD hS hl
      by_cases c33_7 : (xs (Int32.toNatClampNeg (nI (6 * j))) &&& 63) = 7
      · refine lv_tableIn (tgt := 471) (pc := 33) hx hb dL_law_33 (by rw [c33_7]; decide) (by rw [c33_7]; decide) (by rw [c33_7]; rfl) (by decide) ?_
        exact law_c_7 hL C0 hK hj NX S7 S5 S6 S1 S2 S4 S3 S0 S8 H locs ls hR hP hD hS hl
      by_cases c33_8 : (xs (Int32.toNatClampNeg (nI (6 * j))) &&& 63) = 8
      · refine lv_tableIn (tgt := 504) (pc := 33) hx hb dL_law_33 (by rw [c33_8]; decide) (by rw [c33_8]; decide) (by rw [c33_8]; rfl) (by decide) ?_
        exact law_c_8 hL C0 hK hj NX S7 S5 S6 S1 S2 S4 S3 S0 S8 H locs ls hR hP hD hS hl
      by_cases c33_9 : (xs (Int32.toNatClampNeg (nI (6 * j))) &&& 63) = 9
      · refine lv_tableIn (tgt := 547) (pc := 33) hx hb dL_law_33 (by rw [c33_9]; decide) (by rw [c33_9]; decide) (by rw [c33_9]; rfl) (by decide) ?_
        exact law_c_9 hL C0 hK hj NX S7 S5 S6 S1 S2 S4 S3 S0 S8 H locs ls hR hP hD hS hl
      by_cases c33_10 : (xs (Int32.toNatClampNeg (nI (6 * j))) &&& 63) = 10
      · refine lv_tableIn (tgt := 590) (pc := 33) hx hb dL_law_33 (by rw [c33_10]; decide) (by rw [c33_10]; decide) (by rw [c33_10]; rfl) (by decide) ?_
        exact law_c_10 hL C0 hK hj NX S7 S5 S6 S1 S2 S4 S3 S0 S8 H locs ls hR hP hD hS hl
      by_cases c33_11 : (xs (Int32.toNatClampNeg (nI (6 * j))) &&& 63) = 11
      · refine lv_tableIn (tgt := 623) (pc := 33) hx hb dL_law_33 (by rw [c33_11]; decide) (by rw [c33_11]; decide) (by rw [c33_11]; rfl) (by decide) ?_
        exact law_c_11 hL C0 hK hj NX S7 S5 S6 S1 S2 S4 S3 S0 S8 H locs ls hR hP hD hS hl
      by_cases c33_12 : (xs (Int32.toNatClampNeg (nI (6 * j))) &&& 63) = 12
      · refine lv_tableIn (tgt := 666) (pc := 33) hx hb dL_law_33 (by rw [c33_12]; decide) (by rw [c33_12]; decide) (by rw [c33_12]; rfl) (by decide) ?_
        exact law_c_12 hL C0 hK hj NX S7 S5 S6 S1 S2 S4 S3 S0 S8 H locs ls hR hP hD hS hl
      by_cases c33_13 : (xs (Int32.toNatClampNeg (nI (6 * j))) &&& 63) = 13
      · refine lv_tableIn (tgt := 729) (pc := 33) hx hb dL_law_33 (by rw [c33_13]; decide) (by rw [c33_13]; decide) (by rw [c33_13]; rfl) (by decide) ?_
        exact law_c_13 hL C0 hK hj NX S7 S5 S6 S1 S2 S4 S3 S0 S8 H locs ls hR hP hD hS hl
      by_cases c33_14 : (xs (Int32.toNatClampNeg (nI (6 * j))) &&& 63) = 14
      · refine lv_tableIn (tgt := 752) (pc := 33) hx hb dL_law_33 (by rw [c33_14]; decide) (by rw [c33_14]; decide) (by rw [c33_14]; rfl) (by decide) ?_
        exact law_c_14 hL C0 hK hj NX S7 S5 S6 S1 S2 S4 S3 S0 S8 H locs ls hR hP hD hS hl
      by_cases c33_15 : (xs (Int32.toNatClampNeg (nI (6 * j))) &&& 63) = 15
      · refine lv_tableIn (tgt := 785) (pc := 33) hx hb dL_law_33 (by rw [c33_15]; decide) (by rw [c33_15]; decide) (by rw [c33_15]; rfl) (by decide) ?_
        exact law_c_15 hL C0 hK hj NX S7 S5 S6 S1 S2 S4 S3 S0 S8 H locs ls hR hP hD hS hl
      by_cases c33_16 : (xs (Int32.toNatClampNeg (nI (6 * j))) &&& 63) = 16
      · refine lv_tableIn (tgt := 818) (pc := 33) hx hb dL_law_33 (by rw [c33_16]; decide) (by rw [c33_16]; decide) (by rw [c33_16]; rfl) (by decide) ?_
        exact law_c_16 hL C0 hK hj NX S7 S5 S6 S1 S2 S4 S3 S0 S8 H locs ls hR hP hD hS hl
      by_cases c33_17 : (xs (Int32.toNatClampNeg (nI (6 * j))) &&& 63) = 17
      · refine lv_tableIn (tgt := 867) (pc := 33) hx hb dL_law_33 (by rw [c33_17]; decide) (by rw [c33_17]; decide) (by rw [c33_17]; rfl) (by decide) ?_
        exact law_c_17 hL C0 hK hj NX S7 S5 S6 S1 S2 S4 S3 S0 S8 H locs ls hR hP hD hS hl
      by_cases c33_18 : (xs (Int32.toNatClampNeg (nI (6 * j))) &&& 63) = 18
      · refine lv_tableIn (tgt := 890) (pc := 33) hx hb dL_law_33 (by rw [c33_18]; decide) (by rw [c33_18]; decide) (by rw [c33_18]; rfl) (by decide) ?_
        exact law_c_18 hL C0 hK hj NX S7 S5 S6 S1 S2 S4 S3 S0 S8 H locs ls hR hP hD hS hl
      by_cases c33_19 : (xs (Int32.toNatClampNeg (nI (6 * j))) &&& 63) = 19
      · refine lv_tableIn (tgt := 913) (pc := 33) hx hb dL_law_33 (by rw [c33_19]; decide) (by rw [c33_19]; decide) (by rw [c33_19]; rfl) (by decide) ?_
        exact law_c_19 hL C0 hK hj NX S7 S5 S6 S1 S2 S4 S3 S0 S8 H locs ls hR hP hD hS hl
      by_cases c33_20 : (xs (Int32.toNatClampNeg (nI (6 * j))) &&& 63) = 20
      · refine lv_tableIn (tgt := 936) (pc := 33) hx hb dL_law_33 (by rw [c33_20]; decide) (by rw [c33_20]; decide) (by rw [c33_20]; rfl) (by decide) ?_
        exact law_c_20 hL C0 hK hj NX S7 S5 S6 S1 S2 S4 S3 S0 S8 H locs ls hR hP hD hS hl
      by_cases c33_21 : (xs (Int32.toNatClampNeg (nI (6 * j))) &&& 63) = 21
      · refine lv_tableIn (tgt := 969) (pc := 33) hx hb dL_law_33 (by rw [c33_21]; decide) (by rw [c33_21]; decide) (by rw [c33_21]; rfl) (by decide) ?_
        exact law_c_21 hL C0 hK hj NX S7 S5 S6 S1 S2 S4 S3 S0 S8 H locs ls hR hP hD hS hl
      by_cases c33_22 : (xs (Int32.toNatClampNeg (nI (6 * j))) &&& 63) = 22
      · refine lv_tableIn (tgt := 1012) (pc := 33) hx hb dL_law_33 (by rw [c33_22]; decide) (by rw [c33_22]; decide) (by rw [c33_22]; rfl) (by decide) ?_
        exact law_c_22 hL C0 hK hj NX S7 S5 S6 S1 S2 S4 S3 S0 S8 H locs ls hR hP hD hS hl
      by_cases c33_23 : (xs (Int32.toNatClampNeg (nI (6 * j))) &&& 63) = 23
      · refine lv_tableIn (tgt := 1055) (pc := 33) hx hb dL_law_33 (by rw [c33_23]; decide) (by rw [c33_23]; decide) (by rw [c33_23]; rfl) (by decide) ?_
        exact law_c_23 hL C0 hK hj NX S7 S5 S6 S1 S2 S4 S3 S0 S8 H locs ls hR hP hD hS hl
      by_cases c33_24 : (xs (Int32.toNatClampNeg (nI (6 * j))) &&& 63) = 24
      · refine lv_tableIn (tgt := 1104) (pc := 33) hx hb dL_law_33 (by rw [c33_24]; decide) (by rw [c33_24]; decide) (by rw [c33_24]; rfl) (by decide) ?_
        exact law_c_24 hL C0 hK hj NX S7 S5 S6 S1 S2 S4 S3 S0 S8 H locs ls hR hP hD hS hl
      by_cases c33_25 : (xs (Int32.toNatClampNeg (nI (6 * j))) &&& 63) = 25
      · refine lv_tableIn (tgt := 1127) (pc := 33) hx hb dL_law_33 (by rw [c33_25]; decide) (by rw [c33_25]; decide) (by rw [c33_25]; rfl) (by decide) ?_
        exact law_c_25 hL C0 hK hj NX S7 S5 S6 S1 S2 S4 S3 S0 S8 H locs ls hR hP hD hS hl
      by_cases c33_26 : (xs (Int32.toNatClampNeg (nI (6 * j))) &&& 63) = 26
      · refine lv_tableIn (tgt := 1140) (pc := 33) hx hb dL_law_33 (by rw [c33_26]; decide) (by rw [c33_26]; decide) (by rw [c33_26]; rfl) (by decide) ?_
        exact law_c_26 hL C0 hK hj NX S7 S5 S6 S1 S2 S4 S3 S0 S8 H locs ls hR hP hD hS hl
      by_cases c33_27 : (xs (Int32.toNatClampNeg (nI (6 * j))) &&& 63) = 27
      · refine lv_tableIn (tgt := 1163) (pc := 33) hx hb dL_law_33 (by rw [c33_27]; decide) (by rw [c33_27]; decide) (by rw [c33_27]; rfl) (by decide) ?_
        exact law_c_27 hL C0 hK hj NX S7 S5 S6 S1 S2 S4 S3 S0 S8 H locs ls hR hP hD hS hl
      by_cases c33_28 : (xs (Int32.toNatClampNeg (nI (6 * j))) &&& 63) = 28
      · refine lv_tableIn (tgt := 1196) (pc := 33) hx hb dL_law_33 (by rw [c33_28]; decide) (by rw [c33_28]; decide) (by rw [c33_28]; rfl) (by decide) ?_
        exact law_c_28 hL C0 hK hj NX S7 S5 S6 S1 S2 S4 S3 S0 S8 H locs ls hR hP hD hS hl
      by_cases c33_29 : (xs (Int32.toNatClampNeg (nI (6 * j))) &&& 63) = 29
      · refine lv_tableIn (tgt := 1229) (pc := 33) hx hb dL_law_33 (by rw [c33_29]; decide) (by rw [c33_29]; decide) (by rw [c33_29]; rfl) (by decide) ?_
        exact law_c_29 hL C0 hK hj NX S7 S5 S6 S1 S2 S4 S3 S0 S8 H locs ls hR hP hD hS hl
      by_cases c33_30 : (xs (Int32.toNatClampNeg (nI (6 * j))) &&& 63) = 30
      · refine lv_tableIn (tgt := 1262) (pc := 33) hx hb dL_law_33 (by rw [c33_30]; decide) (by rw [c33_30]; decide) (by rw [c33_30]; rfl) (by decide) ?_
        exact law_c_30 hL C0 hK hj NX S7 S5 S6 S1 S2 S4 S3 S0 S8 H locs ls hR hP hD hS hl
      by_cases c33_31 : (xs (Int32.toNatClampNeg (nI (6 * j))) &&& 63) = 31
      · refine lv_tableIn (tgt := 1331) (pc := 33) hx hb dL_law_33 (by rw [c33_31]; decide) (by rw [c33_31]; decide) (by rw [c33_31]; rfl) (by decide) ?_
        exact law_c_31 hL C0 hK hj NX S7 S5 S6 S1 S2 S4 S3 S0 S8 H locs ls hR hP hD hS hl
      by_cases c33_32 : (xs (Int32.toNatClampNeg (nI (6 * j))) &&& 63) = 32
      · refine lv_tableIn (tgt := 1380) (pc := 33) hx hb dL_law_33 (by rw [c33_32]; decide) (by rw [c33_32]; decide) (by rw [c33_32]; rfl) (by decide) ?_
        exact law_c_32 hL C0 hK hj NX S7 S5 S6 S1 S2 S4 S3 S0 S8 H locs ls hR hP hD hS hl
      by_cases c33_33 : (xs (Int32.toNatClampNeg (nI (6 * j))) &&& 63) = 33
      · refine lv_tableIn (tgt := 1393) (pc := 33) hx hb dL_law_33 (by rw [c33_33]; decide) (by rw [c33_33]; decide) (by rw [c33_33]; rfl) (by decide) ?_
        exact law_c_33 hL C0 hK hj NX S7 S5 S6 S1 S2 S4 S3 S0 S8 H locs ls hR hP hD hS hl
      by_cases c33_34 : (xs (Int32.toNatClampNeg (nI (6 * j))) &&& 63) = 34
      · refine lv_tableIn (tgt := 1436) (pc := 33) hx hb dL_law_33 (by rw [c33_34]; decide) (by rw [c33_34]; decide) (by rw [c33_34]; rfl) (by decide) ?_
        exact law_c_34 hL C0 hK hj NX S7 S5 S6 S1 S2 S4 S3 S0 S8 H locs ls hR hP hD hS hl
      by_cases c33_35 : (xs (Int32.toNatClampNeg (nI (6 * j))) &&& 63) = 35
      · refine lv_tableIn (tgt := 1489) (pc := 33) hx hb dL_law_33 (by rw [c33_35]; decide) (by rw [c33_35]; decide) (by rw [c33_35]; rfl) (by decide) ?_
        exact law_c_35 hL C0 hK hj NX S7 S5 S6 S1 S2 S4 S3 S0 S8 H locs ls hR hP hD hS hl
      by_cases c33_36 : (xs (Int32.toNatClampNeg (nI (6 * j))) &&& 63) = 36
      · refine lv_tableIn (tgt := 1502) (pc := 33) hx hb dL_law_33 (by rw [c33_36]; decide) (by rw [c33_36]; decide) (by rw [c33_36]; rfl) (by decide) ?_
        exact law_c_36 hL C0 hK hj NX S7 S5 S6 S1 S2 S4 S3 S0 S8 H locs ls hR hP hD hS hl
      by_cases c33_37 : (xs (Int32.toNatClampNeg (nI (6 * j))) &&& 63) = 37
      · refine lv_tableIn (tgt := 1515) (pc := 33) hx hb dL_law_33 (by rw [c33_37]; decide) (by rw [c33_37]; decide) (by rw [c33_37]; rfl) (by decide) ?_
        exact law_c_37 hL C0 hK hj NX S7 S5 S6 S1 S2 S4 S3 S0 S8 H locs ls hR hP hD hS hl
      by_cases c33_38 : (xs (Int32.toNatClampNeg (nI (6 * j))) &&& 63) = 38
      · refine lv_tableIn (tgt := 1529) (pc := 33) hx hb dL_law_33 (by rw [c33_38]; decide) (by rw [c33_38]; decide) (by rw [c33_38]; rfl) (by decide) ?_
        exact law_c_38 hL C0 hK hj NX S7 S5 S6 S1 S2 S4 S3 S0 S8 H locs ls hR hP hD hS hl
      by_cases c33_39 : (xs (Int32.toNatClampNeg (nI (6 * j))) &&& 63) = 39
      · refine lv_tableIn (tgt := 1543) (pc := 33) hx hb dL_law_33 (by rw [c33_39]; decide) (by rw [c33_39]; decide) (by rw [c33_39]; rfl) (by decide) ?_
        exact law_c_39 hL C0 hK hj NX S7 S5 S6 S1 S2 S4 S3 S0 S8 H locs ls hR hP hD hS hl
      by_cases c33_40 : (xs (Int32.toNatClampNeg (nI (6 * j))) &&& 63) = 40
      · refine lv_tableIn (tgt := 1566) (pc := 33) hx hb dL_law_33 (by rw [c33_40]; decide) (by rw [c33_40]; decide) (by rw [c33_40]; rfl) (by decide) ?_
        exact law_c_40 hL C0 hK hj NX S7 S5 S6 S1 S2 S4 S3 S0 S8 H locs ls hR hP hD hS hl
      by_cases c33_41 : (xs (Int32.toNatClampNeg (nI (6 * j))) &&& 63) = 41
      · refine lv_tableIn (tgt := 1579) (pc := 33) hx hb dL_law_33 (by rw [c33_41]; decide) (by rw [c33_41]; decide) (by rw [c33_41]; rfl) (by decide) ?_
        exact law_c_41 hL C0 hK hj NX S7 S5 S6 S1 S2 S4 S3 S0 S8 H locs ls hR hP hD hS hl
      by_cases c33_42 : (xs (Int32.toNatClampNeg (nI (6 * j))) &&& 63) = 42
      · refine lv_tableIn (tgt := 1602) (pc := 33) hx hb dL_law_33 (by rw [c33_42]; decide) (by rw [c33_42]; decide) (by rw [c33_42]; rfl) (by decide) ?_
        exact law_c_42 hL C0 hK hj NX S7 S5 S6 S1 S2 S4 S3 S0 S8 H locs ls hR hP hD hS hl
      refine lv_tableOut (tgt := 1616) (pc := 33) hx hb dL_law_33 (swO (fun z h1 h2 => by rcases (show z = 0 ∨ z = 1 ∨ z = 2 ∨ z = 3 ∨ z = 4 ∨ z = 5 ∨ z = 6 ∨ z = 7 ∨ z = 8 ∨ z = 9 ∨ z = 10 ∨ z = 11 ∨ z = 12 ∨ z = 13 ∨ z = 14 ∨ z = 15 ∨ z = 16 ∨ z = 17 ∨ z = 18 ∨ z = 19 ∨ z = 20 ∨ z = 21 ∨ z = 22 ∨ z = 23 ∨ z = 24 ∨ z = 25 ∨ z = 26 ∨ z = 27 ∨ z = 28 ∨ z = 29 ∨ z = 30 ∨ z = 31 ∨ z = 32 ∨ z = 33 ∨ z = 34 ∨ z = 35 ∨ z = 36 ∨ z = 37 ∨ z = 38 ∨ z = 39 ∨ z = 40 ∨ z = 41 ∨ z = 42 by omega) with rfl | rfl | rfl | rfl | rfl | rfl | rfl | rfl | rfl | rfl | rfl | rfl | rfl | rfl | rfl | rfl | rfl | rfl | rfl | rfl | rfl | rfl | rfl | rfl | rfl | rfl | rfl | rfl | rfl | rfl | rfl | rfl | rfl | rfl | rfl | rfl | rfl | rfl | rfl | rfl | rfl | rfl | rfl <;> first | exact swN c33_0 rfl | exact swN c33_1 rfl | exact swN c33_2 rfl | exact swN c33_3 rfl | exact swN c33_4 rfl | exact swN c33_5 rfl | exact swN c33_6 rfl | exact swN c33_7 rfl | exact swN c33_8 rfl | exact swN c33_9 rfl | exact swN c33_10 rfl | exact swN c33_11 rfl | exact swN c33_12 rfl | exact swN c33_13 rfl | exact swN c33_14 rfl | exact swN c33_15 rfl | exact swN c33_16 rfl | exact swN c33_17 rfl | exact swN c33_18 rfl | exact swN c33_19 rfl | exact swN c33_20 rfl | exact swN c33_21 rfl | exact swN c33_22 rfl | exact swN c33_23 rfl | exact swN c33_24 rfl | exact swN c33_25 rfl | exact swN c33_26 rfl | exact swN c33_27 rfl | exact swN c33_28 rfl | exact swN c33_29 rfl | exact swN c33_30 rfl | exact swN c33_31 rfl | exact swN c33_32 rfl | exact swN c33_33 rfl | exact swN c33_34 rfl | exact swN c33_35 rfl | exact swN c33_36 rfl | exact swN c33_37 rfl | exact swN c33_38 rfl | exact swN c33_39 rfl | exact swN c33_40 rfl | exact swN c33_41 rfl | exact swN c33_42 rfl)) (by decide) ?_
      exact NX S7 S5 S6 S1 S2 S4 S3 S0 S8 H locs ls hR hP hD hS hl
