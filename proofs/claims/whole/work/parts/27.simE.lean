/-! opinions and laws are told -/
theorem fullS {n m : Nat} (hn : n ≤ m) (hm : m ≤ 1000) : (if nI n < nI m then some (0 : Int32) else some 1) = some (bI (decide (n = m))) := by
  simp only [lt_nI (show n ≤ 100000 by omega) (show m ≤ 100000 by omega)]
  by_cases c : n = m
  · rw [if_neg (by omega), decide_eq_true c]; rfl
  · rw [if_pos (by omega), decide_eq_false c]; rfl
theorem full3 {N n : Nat} {S : St} (h : S.1 4 = nI n) (hn : n ≤ 30) : f_X3_isFull N S = some (bI (decide (n = 30))) := by
  unfold f_X3_isFull
  rw [h]
  exact fullS (m := 30) hn (by omega)
theorem full0 {N n : Nat} {S : St} (h : S.1 7 = nI n) (hn : n ≤ 8) : f_X0_isFull N S = some (bI (decide (n = 8))) := by
  unfold f_X0_isFull
  rw [h]
  exact fullS (m := 8) hn (by omega)
theorem sim_opinion {N : Nat} (hN : 2200 ≤ N) {S7 S5 S6 S2 S4 S3 S0 M : St} (h : Rel S7 S5 S6 S2 S4 S3 S0 M) (x1 x2 x3 x4 : Int32) : ∃ (r : Int32) (T3 T8 : St), f_X7_opinion N S7 S3 x1 x2 x3 x4 = some (r, T3) ∧ f_X8_opinion N M x1 x2 x3 x4 = some (r, T8) ∧ Rel S7 S5 S6 S2 S4 T3 S0 T8 := by
  obtain ⟨h7, h5, h6, h2, h4, ⟨n, hn, a1, a2, a3⟩, h0⟩ := id h
  unfold f_X7_opinion f_X8_opinion
  rw [isHand8, in8]
  simp only [full3 a1 hn, isHand7, isW, Option.bind_some, bI_0, decide_eq_false_iff_not, tl_0, tl_9, tl_100]
  by_cases c1 : 0 ≤ x1.toInt ∧ x1.toInt ≤ 9
  · rw [inn c1, inn c1]
    by_cases c2 : 0 ≤ x2.toInt ∧ x2.toInt ≤ 3
    · rw [inn c2, inn c2]
      by_cases c3 : 0 ≤ x3.toInt ∧ x3.toInt ≤ 100
      · rw [inn c3, inn c3]
        by_cases c4 : n = 30
        · subst c4
          rw [inn rfl, if_pos (show M.1 34 = 30 from a2)]
          exact ⟨_, _, _, rfl, rfl, h⟩
        · rw [inp c4, a2, if_neg (show ¬ nI n = 30 from fun e => absurd ((nI_eq (a := n) (b := 30) (by omega) (by omega)).mp e) (by omega))]
          unfold f_X3_add
          simp only [a1, if_pos (inb_nI (show n < 30 by omega) (by omega)), cl_nI (show n ≤ 100000 by omega), nI_1]
          refine ⟨_, _, _, rfl, rfl, h7, h5, h6, h2, h4, ⟨n + 1, by omega, rfl, rfl, fun k hk => ?_⟩, h0⟩
          show upd (S3.2.2 0) n x1 k = upd (M.2.2 35) n x1 k ∧ upd (S3.2.2 1) n x2 k = upd (M.2.2 36) n x2 k ∧ upd (S3.2.2 2) n x3 k = upd (M.2.2 37) n x3 k ∧ upd (S3.2.2 3) n (vp_nar .boolean x4) k = upd (M.2.2 38) n (vp_nar .boolean x4) k ∧ 0 ≤ (upd (M.2.2 35) n x1 k).toInt ∧ (upd (M.2.2 35) n x1 k).toInt ≤ 9 ∧ 0 ≤ (upd (M.2.2 37) n x3 k).toInt ∧ (upd (M.2.2 37) n x3 k).toInt ≤ 100
          unfold upd
          by_cases e : k = n
          · simp only [if_pos e]
            exact ⟨trivial, trivial, trivial, trivial, c1.1, c1.2, c3.1, c3.2⟩
          · simp only [if_neg e]
            exact a3 k (by omega)
      · rw [inp c3, inp c3]
        exact ⟨_, _, _, rfl, rfl, h⟩
    · rw [inp c2, inp c2]
      exact ⟨_, _, _, rfl, rfl, h⟩
  · rw [inp c1, inp c1]
    exact ⟨_, _, _, rfl, rfl, h⟩
theorem sim_law {N : Nat} (hN : 2200 ≤ N) {S7 S5 S6 S2 S4 S3 S0 M : St} (h : Rel S7 S5 S6 S2 S4 S3 S0 M) (x1 x2 x3 x4 : Int32) : ∃ (r : Int32) (T0 T8 : St), f_X7_law N S7 S0 x1 x2 x3 x4 = some (r, T0) ∧ f_X8_law N M x1 x2 x3 x4 = some (r, T8) ∧ Rel S7 S5 S6 S2 S4 S3 T0 T8 := by
  obtain ⟨h7, h5, h6, h2, h4, h3, ⟨n, hn, a1, a2, a3, a4, a5, a6, a7, a8⟩⟩ := id h
  unfold f_X7_law f_X8_law f_X7_law_22 f_X7_law_23
  rw [isDay8, in8]
  simp only [full0 a1 hn, isDay7, isW, Option.bind_some, bI_0, decide_eq_false_iff_not, tl_0, tl_100, tl_30000]
  by_cases c1 : 0 ≤ x1.toInt ∧ x1.toInt ≤ 30000
  · rw [inn c1, inn c1]
    by_cases c2 : 0 ≤ x2.toInt ∧ x2.toInt ≤ 30000
    · rw [inn c2, inn c2, if_neg (by decide)]
      by_cases c3 : 0 ≤ x3.toInt ∧ x3.toInt ≤ 100
      · rw [inn c3, inn c3]
        by_cases c5 : 0 ≤ x4.toInt ∧ x4.toInt ≤ 100
        · rw [inn c5, inn c5]
          by_cases c4 : n = 8
          · subst c4
            rw [inn rfl, if_pos (show M.1 42 = 8 from a2)]
            exact ⟨_, _, _, rfl, rfl, h⟩
          · rw [inp c4, a2, if_neg (show ¬ nI n = 8 from fun e => absurd ((nI_eq (a := n) (b := 8) (by omega) (by omega)).mp e) (by omega))]
            unfold f_X0_addLaw
            simp only [a1, if_pos (inb_nI (show n < 8 by omega) (by omega)), cl_nI (show n ≤ 100000 by omega), nI_1, nI_pred]
            refine ⟨_, _, _, rfl, rfl, h7, h5, h6, h2, h4, h3, ⟨n + 1, by omega, rfl, rfl, a3, a4, a5, a6, a7, fun k hk => ?_⟩⟩
            show upd (S0.2.2 0) n x1 k = upd (M.2.2 43) n x1 k ∧ upd (S0.2.2 1) n x2 k = upd (M.2.2 44) n x2 k ∧ upd (S0.2.2 2) n x3 k = upd (M.2.2 45) n x3 k ∧ upd (S0.2.2 3) n x4 k = upd (M.2.2 46) n x4 k ∧ 0 ≤ (upd (M.2.2 43) n x1 k).toInt
            unfold upd
            by_cases e : k = n
            · simp only [if_pos e]
              exact ⟨trivial, trivial, trivial, trivial, c1.1⟩
            · simp only [if_neg e]
              exact a8 k (by omega)
        · rw [inp c5, inp c5]
          exact ⟨_, _, _, rfl, rfl, h⟩
      · rw [inp c3, inp c3]
        exact ⟨_, _, _, rfl, rfl, h⟩
    · rw [inp c2, inp c2, if_pos trivial]
      exact ⟨_, _, _, rfl, rfl, h⟩
  · rw [inp c1, inp c1, if_pos trivial]
    exact ⟨_, _, _, rfl, rfl, h⟩
