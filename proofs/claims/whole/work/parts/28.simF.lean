/-! rows -/
def zf (f : Nat → Int32) (b k : Nat) : Nat → Int32 := fun j => if b ≤ j ∧ j < b + k then 0 else f j
theorem zf_0 (f : Nat → Int32) (b : Nat) : zf f b 0 = f := by
  funext j; unfold zf; rw [if_neg (by omega)]
theorem zf_s (f : Nat → Int32) (b k : Nat) : upd (zf f b k) (b + k) 0 = zf f b (k + 1) := by
  funext j
  unfold upd zf
  by_cases e : j = b + k
  · rw [if_pos e, if_pos (by omega)]
  · rw [if_neg e]
    by_cases q : b ≤ j ∧ j < b + k
    · rw [if_pos q, if_pos (by omega)]
    · rw [if_neg q, if_neg (by omega)]
theorem nb_0 : vp_nar .byte 0 = 0 := rfl
theorem nb_b {x : Int32} (h : x.toInt8.toInt32 = x) : vp_nar .byte x = x := (vp_nar_byte x).trans h
theorem mk6 {N : Nat} (hN : 50 ≤ N) (S : St) {a n : Nat} (ha : a < 6) (hn : n ≤ 40) : f_X6_make_9 N N S (nI a) (nI n) 0 = some (sA S 1 (zf (S.2.2 1) (a * 40) n)) := by
  have K := lpN (fun q k (T : St) => f_X6_make_9 N q T (nI a) (nI n) (nI k)) (fun k => sA S 1 (zf (S.2.2 1) (a * 40) k)) n (some (sA S 1 (zf (S.2.2 1) (a * 40) n))) ?_ ?_ n N 0 (by omega) (by omega)
  · simp only [zf_0, sA_same] at K
    exact K
  · intro q k hk
    show f_X6_make_9_b N (fun y0 y1 y2 y3 => f_X6_make_9 N q y0 y1 y2 y3) (sA S 1 (zf (S.2.2 1) (a * 40) k)) (nI a) (nI n) (nI k) = _
    unfold f_X6_make_9_b
    simp only [le_nI (show n ≤ 100000 by omega) (show k ≤ 100000 by omega), if_neg (show ¬ n ≤ k by omega), m40r, nI_add, if_pos (inb_nI (show a * 40 + k < 240 by omega) (by omega)), cl_nI (show a * 40 + k ≤ 100000 by omega), sA_at, sA_sA, nb_0, zf_s, nI_1]
  · intro q
    show f_X6_make_9_b N (fun y0 y1 y2 y3 => f_X6_make_9 N q y0 y1 y2 y3) (sA S 1 (zf (S.2.2 1) (a * 40) n)) (nI a) (nI n) (nI n) = _
    unfold f_X6_make_9_b
    simp only [le_nI (show n ≤ 100000 by omega) (show n ≤ 100000 by omega), if_pos (Nat.le_refl n)]
theorem mk8 {N : Nat} (hN : 50 ≤ N) (S : St) {a : Nat} (ha : a < 6) (x : Int32) : f_X8_row_34 N N S (nI a) x 0 = some (x, sA S 7 (zf (S.2.2 7) (a * 40) 40)) := by
  have K := lpN (fun q k (T : St) => f_X8_row_34 N q T (nI a) x (nI k)) (fun k => sA S 7 (zf (S.2.2 7) (a * 40) k)) 40 (some (x, sA S 7 (zf (S.2.2 7) (a * 40) 40))) ?_ ?_ 40 N 0 (by omega) (by omega)
  · simp only [zf_0, sA_same] at K
    exact K
  · intro q k hk
    show f_X8_row_34_b N (fun y0 y1 y2 y3 => f_X8_row_34 N q y0 y1 y2 y3) (sA S 7 (zf (S.2.2 7) (a * 40) k)) (nI a) x (nI k) = _
    unfold f_X8_row_34_b
    rw [if_neg (show ¬ (40 : Int32) ≤ nI k from fun c => absurd ((nI_leI (a := 40) (by omega) (by omega)).mp c) (by omega))]
    simp only [m40l, nI_add, if_pos (inb_nI (show a * 40 + k < 240 by omega) (by omega)), cl_nI (show a * 40 + k ≤ 100000 by omega), sA_at, sA_sA, nb_0, zf_s, nI_1]
  · intro q
    show f_X8_row_34_b N (fun y0 y1 y2 y3 => f_X8_row_34 N q y0 y1 y2 y3) (sA S 7 (zf (S.2.2 7) (a * 40) 40)) (nI a) x (nI 40) = _
    unfold f_X8_row_34_b
    rw [if_pos (show (40 : Int32) ≤ nI 40 by decide)]
theorem sim_row {N : Nat} (hN : 2200 ≤ N) {S7 S5 S6 S2 S4 S3 S0 M : St} (h : Rel S7 S5 S6 S2 S4 S3 S0 M) (x1 x2 : Int32) : ∃ (r : Int32) (T7 T6 T8 : St), f_X7_row N S7 S6 x1 x2 = some (r, T7, T6) ∧ f_X8_row N M x1 x2 = some (r, T8) ∧ Rel T7 S5 T6 S2 S4 S3 S0 T8 := by
  obtain ⟨h7, h5, ⟨a1, a2, a3, a4⟩, hr⟩ := id h
  unfold f_X7_row f_X8_row
  rw [isRow8]
  simp only [isRow7, Option.bind_some, bI_0, decide_eq_false_iff_not, fa_le, tl_40, tl_0]
  by_cases c1 : 0 ≤ x1.toInt ∧ x1.toInt ≤ 5
  · rw [inn c1, inn c1]
    by_cases c2 : x2.toInt ≤ 40
    · rw [if_pos c2, if_pos c2]
      by_cases c3 : 0 ≤ x2.toInt
      · rw [if_pos c3, if_pos c3]
        obtain ⟨a, ha, rfl⟩ := ix_of (n := 6) c1.1 (by omega) (by omega)
        obtain ⟨n, hn, rfl⟩ := ix_of (n := 41) c3 (by omega) (by omega)
        unfold f_X6_make
        simp only [if_pos (inb_nI (show a < 6 by omega) (by omega)), cl_nI (show a ≤ 100000 by omega)]
        rw [mk6 (by omega) _ ha (by omega), mk8 (by omega) _ ha]
        refine ⟨_, _, _, _, rfl, rfl, h7, h5, ⟨fun r hr => ?_, fun r i hr hi => ?_, fun j hj => ?_, fun j hj => ?_⟩, hr⟩
        · show upd (S6.2.2 0) a (nI n) r = upd (M.2.2 6) a (nI n) r ∧ -1 ≤ (upd (M.2.2 6) a (nI n) r).toInt ∧ (upd (M.2.2 6) a (nI n) r).toInt ≤ 40
          unfold upd
          by_cases e : r = a
          · simp only [if_pos e, ti_nI (show n ≤ 100000 by omega)]
            exact ⟨trivial, by omega, by omega⟩
          · simp only [if_neg e]
            exact a1 r hr
        · have hi : (i : Int) < (upd (M.2.2 6) a (nI n) r).toInt := hi
          show zf (S6.2.2 1) (a * 40) n (r * 40 + i) = zf (M.2.2 7) (a * 40) 40 (r * 40 + i)
          unfold upd at hi
          unfold zf
          by_cases e : r = a
          · rw [if_pos e, ti_nI (by omega)] at hi
            rw [if_pos (by omega), if_pos (by omega)]
          · rw [if_neg e] at hi
            have := (a1 r hr).2.2
            rw [if_neg (by omega), if_neg (by omega)]
            exact a2 r i hr hi
        · show (zf (S6.2.2 1) (a * 40) n j).toInt8.toInt32 = zf (S6.2.2 1) (a * 40) n j
          unfold zf
          by_cases e : a * 40 ≤ j ∧ j < a * 40 + n
          · rw [if_pos e]; rfl
          · rw [if_neg e]; exact a3 j hj
        · show (zf (M.2.2 7) (a * 40) 40 j).toInt8.toInt32 = zf (M.2.2 7) (a * 40) 40 j
          unfold zf
          by_cases e : a * 40 ≤ j ∧ j < a * 40 + 40
          · rw [if_pos e]; rfl
          · rw [if_neg e]; exact a4 j hj
      · rw [if_neg c3, if_neg c3, ref7_5, ref8_5]
        exact ⟨_, _, _, _, rfl, rfl, Rel_ref h 5 5 (by omega)⟩
    · rw [if_neg c2, if_neg c2]
      exact ⟨_, _, _, _, rfl, rfl, h⟩
  · rw [inp c1, inp c1]
    exact ⟨_, _, _, _, rfl, rfl, h⟩
theorem miss6 {N : Nat} {S6 M : St} (h : R6 S6 M) {a : Nat} (ha : a < 6) : f_X6_isMissing N S6 (nI a) = some (bI (decide ((M.2.2 6 a).toInt < 0))) := by
  obtain ⟨a1, -⟩ := h
  unfold f_X6_isMissing
  simp only [if_pos (inb_nI (show a < 6 by omega) (by omega)), cl_nI (show a ≤ 100000 by omega), (a1 a ha).1, fa_eq, tl_m1]
  have := (a1 a ha).2.1
  by_cases c : (M.2.2 6 a).toInt = -1
  · rw [if_pos c, decide_eq_true (by omega)]; rfl
  · rw [if_neg c, decide_eq_false (by omega)]; rfl
theorem run6 {N : Nat} {S6 M : St} (h : R6 S6 M) {a : Nat} (ha : a < 6) (i n : Int32) : f_X6_hasRun N S6 (nI a) i n = some (bI (decide (0 ≤ i.toInt ∧ i.toInt ≤ (M.2.2 6 a).toInt ∧ 0 ≤ n.toInt ∧ n.toInt ≤ (M.2.2 6 a).toInt - i.toInt))) := by
  obtain ⟨a1, -⟩ := h
  obtain ⟨b1, b2, b3⟩ := a1 a ha
  unfold f_X6_hasRun
  simp only [if_pos (inb_nI (show a < 6 by omega) (by omega)), cl_nI (show a ≤ 100000 by omega), b1, fa_lt, tl_0]
  by_cases c1 : i.toInt < 0
  · rw [if_pos c1, decide_eq_false (by omega)]; rfl
  · rw [if_neg c1]
    by_cases c2 : (M.2.2 6 a).toInt < i.toInt
    · rw [if_pos c2, decide_eq_false (by omega)]; rfl
    · rw [if_neg c2]
      by_cases c3 : n.toInt < 0
      · rw [if_pos c3, decide_eq_false (by omega)]; rfl
      · rw [if_neg c3]
        have e : (M.2.2 6 a - i).toInt = (M.2.2 6 a).toInt - i.toInt := fb_subI (by omega) (by omega)
        rw [e]
        by_cases c4 : (M.2.2 6 a).toInt - i.toInt < n.toInt
        · rw [if_pos c4, decide_eq_false (by omega)]; rfl
        · rw [if_neg c4, decide_eq_true (by omega)]; rfl
theorem sim_tear {N : Nat} (hN : 2200 ≤ N) {S7 S5 S6 S2 S4 S3 S0 M : St} (h : Rel S7 S5 S6 S2 S4 S3 S0 M) (x1 : Int32) : ∃ (r : Int32) (T7 T6 T8 : St), f_X7_tear N S7 S6 x1 = some (r, T7, T6) ∧ f_X8_tear N M x1 = some (r, T8) ∧ Rel T7 S5 T6 S2 S4 S3 S0 T8 := by
  obtain ⟨h7, h5, ⟨a1, a2, a3, a4⟩, hr⟩ := id h
  unfold f_X7_tear f_X8_tear
  rw [isRow8]
  simp only [isRow7, Option.bind_some, bI_0, decide_eq_false_iff_not]
  by_cases c1 : 0 ≤ x1.toInt ∧ x1.toInt ≤ 5
  · rw [inn c1, inn c1]
    obtain ⟨a, ha, rfl⟩ := ix_of (n := 6) c1.1 (by omega) (by omega)
    rw [miss6 h.2.2.1 ha]
    unfold f_X6_drop
    simp only [Option.bind_some, bI_0, decide_eq_false_iff_not, if_pos (inb_nI (show a < 6 by omega) (by omega)), cl_nI (show a ≤ 100000 by omega), fa_le, tl_0]
    by_cases c2 : (M.2.2 6 a).toInt < 0
    · rw [inn c2, if_neg (by omega), ref7_1, ref8_1]
      exact ⟨_, _, _, _, rfl, rfl, Rel_ref h 1 1 (by omega)⟩
    · rw [inp c2, if_pos (by omega)]
      refine ⟨_, _, _, _, rfl, rfl, h7, h5, ⟨fun r hr => ?_, fun r i hr hi => ?_, a3, a4⟩, hr⟩
      · show upd (S6.2.2 0) a (-1) r = upd (M.2.2 6) a (-1) r ∧ -1 ≤ (upd (M.2.2 6) a (-1) r).toInt ∧ (upd (M.2.2 6) a (-1) r).toInt ≤ 40
        unfold upd
        by_cases e : r = a
        · simp only [if_pos e, tl_m1]
          exact ⟨trivial, by omega, by omega⟩
        · simp only [if_neg e]
          exact a1 r hr
      · have hi : (i : Int) < (upd (M.2.2 6) a (-1) r).toInt := hi
        unfold upd at hi
        by_cases e : r = a
        · rw [if_pos e, tl_m1] at hi
          omega
        · rw [if_neg e] at hi
          exact a2 r i hr hi
  · rw [inp c1, inp c1]
    exact ⟨_, _, _, _, rfl, rfl, h⟩
theorem sim_lay {N : Nat} (hN : 2200 ≤ N) {S7 S5 S6 S2 S4 S3 S0 M : St} (h : Rel S7 S5 S6 S2 S4 S3 S0 M) (x1 x2 x3 : Int32) : ∃ (r : Int32) (T7 T6 T8 : St), f_X7_lay N S7 S6 x1 x2 x3 = some (r, T7, T6) ∧ f_X8_lay N M x1 x2 x3 = some (r, T8) ∧ Rel T7 S5 T6 S2 S4 S3 S0 T8 := by
  obtain ⟨h7, h5, ⟨a1, a2, a3, a4⟩, hr⟩ := id h
  unfold f_X7_lay f_X8_lay
  rw [isRow8]
  simp only [isRow7, Option.bind_some, bI_0, decide_eq_false_iff_not]
  by_cases c1 : 0 ≤ x1.toInt ∧ x1.toInt ≤ 5
  · rw [inn c1, inn c1]
    obtain ⟨a, ha, rfl⟩ := ix_of (n := 6) c1.1 (by omega) (by omega)
    have b2 := (a1 a ha).2.1
    have b3 := (a1 a ha).2.2
    have r1 : f_X6_hasRun N S6 (nI a) x2 1 = some (bI (decide (0 ≤ x2.toInt ∧ x2.toInt ≤ (M.2.2 6 a).toInt - 1))) := by
      rw [run6 h.2.2.1 ha]
      exact congrArg (fun q => some (bI q)) (decide_eq_decide.mpr (by rw [tl_1]; omega))
    rw [miss6 h.2.2.1 ha, r1]
    simp only [Option.bind_some, bI_0, decide_eq_false_iff_not, if_pos (inb_nI (show a < 6 by omega) (by omega)), cl_nI (show a ≤ 100000 by omega), fa_le, tl_0]
    by_cases c2 : (M.2.2 6 a).toInt < 0
    · rw [inn c2, if_neg (show ¬ 0 ≤ (M.2.2 6 a).toInt by omega), ref7_1, ref8_1]
      exact ⟨_, _, _, _, rfl, rfl, Rel_ref h 1 1 (by omega)⟩
    · rw [inp c2, if_pos (show 0 ≤ (M.2.2 6 a).toInt by omega), in8, isW]
      have e : (M.2.2 6 a - 1).toInt = (M.2.2 6 a).toInt - 1 := fb_subI (by rw [tl_1]; omega) (by rw [tl_1]; omega)
      simp only [Option.bind_some, bI_0, decide_eq_false_iff_not, e, tl_0, tl_1]
      by_cases c3 : 0 ≤ x2.toInt ∧ x2.toInt ≤ (M.2.2 6 a).toInt - 1
      · rw [inn c3, inn c3]
        obtain ⟨i, hi, rfl⟩ := ix_of (x := x2) (n := 40) c3.1 (by omega) (by omega)
        rw [ti_nI (by omega)] at c3
        unfold f_X6_swap
        simp only [m40r, m40l, nI_add, if_pos (inb_nI (show a * 40 + i < 240 by omega) (by omega)), cl_nI (show a * 40 + i ≤ 100000 by omega)]
        rw [a2 a i ha (by omega), Int32.add_comm 1000]
        have hb : (vp_nar .byte (Int8.toInt32 (Int32.toInt8 x3))).toInt8.toInt32 = vp_nar .byte (Int8.toInt32 (Int32.toInt8 x3)) := by
          rw [vp_nar_byte]; exact fb_byte_twice _
        generalize vp_nar .byte (Int8.toInt32 (Int32.toInt8 x3)) = v at hb
        refine ⟨_, _, _, _, rfl, rfl, h7, h5, ⟨a1, fun r j hr hj => ?_, fun j hj => ?_, fun j hj => ?_⟩, hr⟩
        · show upd (S6.2.2 1) (a * 40 + i) v (r * 40 + j) = upd (M.2.2 7) (a * 40 + i) v (r * 40 + j)
          have hj : (j : Int) < (M.2.2 6 r).toInt := hj
          unfold upd
          by_cases e : r * 40 + j = a * 40 + i
          · rw [if_pos e, if_pos e]
          · rw [if_neg e, if_neg e]; exact a2 r j hr hj
        · show (upd (S6.2.2 1) (a * 40 + i) v j).toInt8.toInt32 = upd (S6.2.2 1) (a * 40 + i) v j
          unfold upd
          by_cases e : j = a * 40 + i
          · simp only [if_pos e]; exact hb
          · simp only [if_neg e]; exact a3 j hj
        · show (upd (M.2.2 7) (a * 40 + i) v j).toInt8.toInt32 = upd (M.2.2 7) (a * 40 + i) v j
          unfold upd
          by_cases e : j = a * 40 + i
          · simp only [if_pos e]; exact hb
          · simp only [if_neg e]; exact a4 j hj
      · rw [inp c3, inp c3, ref7_2, ref8_2]
        exact ⟨_, _, _, _, rfl, rfl, Rel_ref h 2 2 (by omega)⟩
  · rw [inp c1, inp c1]
    exact ⟨_, _, _, _, rfl, rfl, h⟩
