/-! the plain calls -/
theorem tl_0 : (0 : Int32).toInt = 0 := rfl
theorem tl_1 : (1 : Int32).toInt = 1 := rfl
theorem tl_2 : (2 : Int32).toInt = 2 := rfl
theorem tl_3 : (3 : Int32).toInt = 3 := rfl
theorem tl_5 : (5 : Int32).toInt = 5 := rfl
theorem tl_8 : (8 : Int32).toInt = 8 := rfl
theorem tl_9 : (9 : Int32).toInt = 9 := rfl
theorem tl_10 : (10 : Int32).toInt = 10 := rfl
theorem tl_16 : (16 : Int32).toInt = 16 := rfl
theorem tl_24 : (24 : Int32).toInt = 24 := rfl
theorem tl_30 : (30 : Int32).toInt = 30 := rfl
theorem tl_39 : (39 : Int32).toInt = 39 := rfl
theorem tl_40 : (40 : Int32).toInt = 40 := rfl
theorem tl_60 : (60 : Int32).toInt = 60 := rfl
theorem tl_99 : (99 : Int32).toInt = 99 := rfl
theorem tl_100 : (100 : Int32).toInt = 100 := rfl
theorem tl_1000 : (1000 : Int32).toInt = 1000 := rfl
theorem tl_2000 : (2000 : Int32).toInt = 2000 := rfl
theorem tl_2100 : (2100 : Int32).toInt = 2100 := rfl
theorem tl_30000 : (30000 : Int32).toInt = 30000 := rfl
theorem tl_1000000 : (1000000 : Int32).toInt = 1000000 := rfl
theorem tl_m1 : (-1 : Int32).toInt = -1 := rfl
theorem tl_m9 : (-9 : Int32).toInt = -9 := rfl
theorem sA_sA (S : St) (k : Nat) (f g : Nat → Int32) : sA (sA S k f) k g = sA S k g := by
  unfold sA
  simp only [bx_uu]
theorem sA_at (S : St) (k : Nat) (f : Nat → Int32) : (sA S k f).2.2 k = f := va_up_self _ _ _
theorem sim_later {N : Nat} (hN : 2200 ≤ N) {S7 S5 S6 S2 S4 S3 S0 M : St} (h : Rel S7 S5 S6 S2 S4 S3 S0 M) (x1 : Int32) : ∃ (r : Int32) (T7 T8 : St), f_X7_later N S7 x1 = some (r, T7) ∧ f_X8_later N M x1 = some (r, T8) ∧ Rel T7 S5 S6 S2 S4 S3 S0 T8 := by
  obtain ⟨h7, hr⟩ := h
  obtain ⟨e1, t0, t1, e2, e3, e4, e5, e6⟩ := id h7
  have et : (30000 - M.1 5).toInt = 30000 - (M.1 5).toInt := fb_subI (by rw [tl_30000]; omega) (by rw [tl_30000]; omega)
  unfold f_X7_later f_X8_later
  rw [isW, e1]
  simp only [Option.bind_some, bI_0, decide_eq_false_iff_not, fa_lt, fa_le, et, tl_0]
  by_cases c1 : x1.toInt < 0
  · rw [inp (by omega), if_pos c1]
    exact ⟨_, _, _, rfl, rfl, h7, hr⟩
  · by_cases c2 : x1.toInt ≤ 30000 - (M.1 5).toInt
    · rw [inn (by omega), if_neg c1, if_pos c2]
      have es : (M.1 5 + x1).toInt = (M.1 5).toInt + x1.toInt := fb_addI (by omega) (by omega)
      exact ⟨_, _, _, rfl, rfl, ⟨rfl, by show 0 ≤ (M.1 5 + x1).toInt; omega, by show (M.1 5 + x1).toInt ≤ 30000; omega, e2, e3, e4, e5, e6⟩, hr⟩
    · rw [inp (by omega), if_neg c1, if_neg c2]
      exact ⟨_, _, _, rfl, rfl, h7, hr⟩
theorem sim_asked {N : Nat} (hN : 2200 ≤ N) {S7 S5 S6 S2 S4 S3 S0 M : St} (h : Rel S7 S5 S6 S2 S4 S3 S0 M) : ∃ r : Int32, f_X7_asked N S7 = some r ∧ f_X8_asked N M = some r := ⟨_, rfl, congrArg some h.1.2.2.2.2.1.symm⟩
theorem sim_upper {N : Nat} (hN : 2200 ≤ N) {S7 S5 S6 S2 S4 S3 S0 M : St} (h : Rel S7 S5 S6 S2 S4 S3 S0 M) : ∃ r : Int64, f_X7_upper N S7 = some r ∧ f_X8_upper N M = some r := ⟨_, rfl, congrArg some h.1.2.2.2.2.2.1.symm⟩
theorem sim_lower {N : Nat} (hN : 2200 ≤ N) {S7 S5 S6 S2 S4 S3 S0 M : St} (h : Rel S7 S5 S6 S2 S4 S3 S0 M) : ∃ r : Int64, f_X7_lower N S7 = some r ∧ f_X8_lower N M = some r := ⟨_, rfl, congrArg some h.1.2.2.2.2.2.2.1.symm⟩
theorem sim_finding {N : Nat} (hN : 2200 ≤ N) {S7 S5 S6 S2 S4 S3 S0 M : St} (h : Rel S7 S5 S6 S2 S4 S3 S0 M) : ∃ r : Int32, f_X7_finding N S7 = some r ∧ f_X8_finding N M = some r := ⟨_, rfl, congrArg some h.1.2.2.2.1.symm⟩
theorem sim_findings {N : Nat} (hN : 2200 ≤ N) {S7 S5 S6 S2 S4 S3 S0 M : St} (h : Rel S7 S5 S6 S2 S4 S3 S0 M) (x1 : Int32) : ∃ r : Int32, f_X7_findings N S7 x1 = some r ∧ f_X8_findings N M x1 = some r := by
  obtain ⟨-, -, -, -, -, -, -, e8⟩ := h.1
  unfold f_X7_findings f_X8_findings
  rw [in8, isW]
  simp only [Option.bind_some, bI_0, decide_eq_false_iff_not, tl_1, tl_5]
  by_cases c : 1 ≤ x1.toInt ∧ x1.toInt ≤ 5
  · rw [inn c, inn c]
    obtain ⟨k, hk, rfl⟩ := ix_of (x := x1) (n := 6) (by omega) (by omega) (by omega)
    rw [if_pos (inb_nI hk (by omega)), if_pos (inb_nI hk (by omega)), cl_nI (by omega), e8 k hk]
    exact ⟨_, rfl, rfl⟩
  · rw [inp c, inp c]
    exact ⟨_, rfl, rfl⟩
theorem sim_paint {N : Nat} (hN : 2200 ≤ N) {S7 S5 S6 S2 S4 S3 S0 M : St} (h : Rel S7 S5 S6 S2 S4 S3 S0 M) (x1 x2 : Int32) : ∃ (r : Int32) (T5 T8 : St), f_X7_paint N S7 S5 x1 x2 = some (r, T5) ∧ f_X8_paint N M x1 x2 = some (r, T8) ∧ Rel S7 T5 S6 S2 S4 S3 S0 T8 := by
  unfold f_X7_paint f_X8_paint
  rw [in8, isYear8, isW, isYear7]
  simp only [Option.bind_some, bI_0, decide_eq_false_iff_not, tl_0, tl_9]
  by_cases c : 0 ≤ x1.toInt ∧ x1.toInt ≤ 9
  · rw [inn c, inn c]
    by_cases c2 : 1000 ≤ x2.toInt ∧ x2.toInt ≤ 2100
    · rw [inn c2, inn c2]
      obtain ⟨k, hk, rfl⟩ := ix_of (x := x1) (n := 10) (by omega) (by omega) (by omega)
      unfold f_X5_swapPaintYear
      rw [if_pos (inb_nI hk (by omega)), if_pos (inb_nI hk (by omega)), if_pos (inb_nI hk (by omega)), if_pos (inb_nI hk (by omega)), cl_nI (by omega)]
      obtain ⟨h7, ⟨n, hn, a1, a2, a3, a4⟩, hr⟩ := h
      rw [(a3 k hk).1]
      refine ⟨_, _, _, rfl, rfl, h7, ⟨n, hn, a1, a2, fun p hp => ?_, a4⟩, hr⟩
      show upd (S5.2.2 1) k x2 p = upd (M.2.2 9) k x2 p ∧ 1000 ≤ (upd (M.2.2 9) k x2 p).toInt ∧ (upd (M.2.2 9) k x2 p).toInt ≤ 2100
      unfold upd
      by_cases e : p = k
      · rw [if_pos e, if_pos e]; exact ⟨rfl, c2⟩
      · rw [if_neg e, if_neg e]; exact a3 p hp
    · rw [inp c2, inp c2]
      exact ⟨_, _, _, rfl, rfl, h⟩
  · rw [inp c, inp c]
    exact ⟨_, _, _, rfl, rfl, h⟩
theorem sim_sap {N : Nat} (hN : 2200 ≤ N) {S7 S5 S6 S2 S4 S3 S0 M : St} (h : Rel S7 S5 S6 S2 S4 S3 S0 M) (x1 x2 x3 : Int32) : ∃ (r : Int32) (T5 T8 : St), f_X7_sap N S7 S5 x1 x2 x3 = some (r, T5) ∧ f_X8_sap N M x1 x2 x3 = some (r, T8) ∧ Rel S7 T5 S6 S2 S4 S3 S0 T8 := by
  unfold f_X7_sap f_X8_sap f_X7_sap_24 f_X7_sap_25
  rw [in8]
  simp only [isW, Option.bind_some, bI_0, decide_eq_false_iff_not, tl_0, tl_60]
  by_cases c1 : 0 ≤ x1.toInt ∧ x1.toInt ≤ 60
  · rw [inn c1, inn c1]
    by_cases c2 : x1.toInt ≤ x2.toInt ∧ x2.toInt ≤ 60
    · rw [inn c2, inn c2, if_neg (by decide)]
      by_cases c3 : 0 ≤ x3.toInt ∧ x3.toInt ≤ 60
      · rw [inn c3, inn c3]
        obtain ⟨h7, ⟨n, hn, a1, a2, a3, a4, a5⟩, hr⟩ := h
        exact ⟨_, _, _, rfl, rfl, h7, ⟨n, hn, a1, a2, a3, ⟨rfl, rfl, rfl, c1.1, c2.1, c2.2, c3.1, c3.2⟩, a5⟩, hr⟩
      · rw [inp c3, inp c3]
        exact ⟨_, _, _, rfl, rfl, h⟩
    · rw [inp c2, inp c2, if_pos trivial]
      exact ⟨_, _, _, rfl, rfl, h⟩
  · rw [inp c1, inp c1, if_pos trivial]
    exact ⟨_, _, _, rfl, rfl, h⟩
theorem sim_hand {N : Nat} (hN : 2200 ≤ N) {S7 S5 S6 S2 S4 S3 S0 M : St} (h : Rel S7 S5 S6 S2 S4 S3 S0 M) (x1 x2 : Int32) : ∃ (r : Int32) (T2 T8 : St), f_X7_hand N S7 S2 x1 x2 = some (r, T2) ∧ f_X8_hand N M x1 x2 = some (r, T8) ∧ Rel S7 S5 S6 T2 S4 S3 S0 T8 := by
  unfold f_X7_hand f_X8_hand
  rw [in8, isHand8, isW, isHand7]
  simp only [Option.bind_some, bI_0, decide_eq_false_iff_not, tl_0, tl_99]
  by_cases c : 0 ≤ x1.toInt ∧ x1.toInt ≤ 3
  · rw [inn c, inn c]
    by_cases c2 : 0 ≤ x2.toInt ∧ x2.toInt ≤ 99
    · rw [inn c2, inn c2]
      obtain ⟨k, hk, rfl⟩ := ix_of (x := x1) (n := 4) (by omega) (by omega) (by omega)
      unfold f_X2_swapWeight
      rw [if_pos (inb_nI hk (by omega)), if_pos (inb_nI hk (by omega)), if_pos (inb_nI hk (by omega)), if_pos (inb_nI hk (by omega)), cl_nI (by omega)]
      obtain ⟨h7, h5, h6, ⟨n, hn, a1, a2, a3, a4⟩, hr⟩ := h
      rw [(a3 k hk).1]
      refine ⟨_, _, _, rfl, rfl, h7, h5, h6, ⟨n, hn, a1, a2, fun p hp => ?_, a4⟩, hr⟩
      show upd (S2.2.2 0) k x2 p = upd (M.2.2 23) k x2 p ∧ 0 ≤ (upd (M.2.2 23) k x2 p).toInt ∧ (upd (M.2.2 23) k x2 p).toInt ≤ 99
      unfold upd
      by_cases e : p = k
      · rw [if_pos e, if_pos e]; exact ⟨rfl, c2⟩
      · rw [if_neg e, if_neg e]; exact a3 p hp
    · rw [inp c2, inp c2]
      exact ⟨_, _, _, rfl, rfl, h⟩
  · rw [inp c, inp c]
    exact ⟨_, _, _, rfl, rfl, h⟩
theorem sim_sold {N : Nat} (hN : 2200 ≤ N) {S7 S5 S6 S2 S4 S3 S0 M : St} (h : Rel S7 S5 S6 S2 S4 S3 S0 M) (x1 x2 x3 : Int32) : ∃ (r : Int32) (T0 T8 : St), f_X7_sold N S7 S0 x1 x2 x3 = some (r, T0) ∧ f_X8_sold N M x1 x2 x3 = some (r, T8) ∧ Rel S7 S5 S6 S2 S4 S3 T0 T8 := by
  unfold f_X7_sold f_X8_sold
  rw [in8, isHand8, h.1.1]
  simp only [isW, isHand7, Option.bind_some, bI_0, decide_eq_false_iff_not, tl_0, tl_1, tl_1000000]
  by_cases c1 : 0 ≤ x1.toInt ∧ x1.toInt ≤ (M.1 5).toInt
  · rw [inn c1, inn c1]
    by_cases c2 : 1 ≤ x2.toInt ∧ x2.toInt ≤ 1000000
    · rw [inn c2, inn c2]
      by_cases c3 : 0 ≤ x3.toInt ∧ x3.toInt ≤ 3
      · rw [inn c3, inn c3]
        obtain ⟨h7, h5, h6, h2, h4, h3, ⟨n, hn, a1, a2, a3, a4, a5, a6, a7, a8⟩⟩ := h
        exact ⟨_, _, _, rfl, rfl, h7, h5, h6, h2, h4, h3, ⟨n, hn, a1, a2, rfl, rfl, rfl, c3.1, c3.2, a8⟩⟩
      · rw [inp c3, inp c3]
        exact ⟨_, _, _, rfl, rfl, h⟩
    · rw [inp c2, inp c2]
      exact ⟨_, _, _, rfl, rfl, h⟩
  · rw [inp c1, inp c1]
    exact ⟨_, _, _, rfl, rfl, h⟩
