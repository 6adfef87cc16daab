/-! tests -/
theorem m4r (a : Nat) : nI a * 4 = nI (a * 4) := pk_mul a 4
theorem m4l (a : Nat) : 4 * nI a = nI (a * 4) := by rw [Nat.mul_comm]; exact pk_mul 4 a
theorem m40r (a : Nat) : nI a * 40 = nI (a * 40) := pk_mul a 40
theorem m40l (a : Nat) : 40 * nI a = nI (a * 40) := by rw [Nat.mul_comm]; exact pk_mul 40 a
theorem has2 {N n : Nat} {S : St} (h : S.1 8 = nI n) (hn : n ≤ 10) (x : Int32) : f_X2_has N S x = some (bI (decide (0 ≤ x.toInt ∧ x.toInt < n))) := by
  unfold f_X2_has
  simp only [h, fa_lt, fa_le, tl_0, ti_nI (show n ≤ 100000 by omega)]
  by_cases c1 : x.toInt < 0
  · rw [if_pos c1, decide_eq_false (by omega)]; rfl
  · rw [if_neg c1]
    by_cases c2 : (n : Int) ≤ x.toInt
    · rw [if_pos c2, decide_eq_false (by omega)]; rfl
    · rw [if_neg c2, decide_eq_true (by omega)]; rfl
theorem isT8 {N n : Nat} {M : St} (h : M.1 24 = nI n) (hn : n ≤ 10) (x : Int32) : f_X8_isTest N M x = some (bI (decide (0 ≤ x.toInt ∧ x.toInt < n))) := by
  unfold f_X8_isTest
  have e : (nI n - 1).toInt = (n : Int) - 1 := by
    rw [fb_subI (by rw [ti_nI (by omega), tl_1]; omega) (by rw [ti_nI (by omega), tl_1]; omega), ti_nI (by omega), tl_1]
  rw [h, in8, isW, e, tl_0]
  have e2 : decide (0 ≤ x.toInt ∧ x.toInt ≤ (n : Int) - 1) = decide (0 ≤ x.toInt ∧ x.toInt < n) := decide_eq_decide.mpr (by omega)
  rw [e2]
  exact zb
theorem full2 {N n : Nat} {S : St} (h : S.1 8 = nI n) (hn : n ≤ 10) : f_X2_isFull N S = some (bI (decide (n = 10))) := by
  unfold f_X2_isFull
  simp only [h, show (nI n < 10) = (n < 10) from lt_nI (b := 10) (by omega) (by omega)]
  by_cases c : n = 10
  · rw [if_neg (by omega), decide_eq_true c]; rfl
  · rw [if_pos (by omega), decide_eq_false c]; rfl
theorem sim_often {N : Nat} (hN : 2200 ≤ N) {S7 S5 S6 S2 S4 S3 S0 M : St} (h : Rel S7 S5 S6 S2 S4 S3 S0 M) (x1 x2 x3 : Int32) : ∃ (r : Int32) (T2 T8 : St), f_X7_often N S7 S2 x1 x2 x3 = some (r, T2) ∧ f_X8_often N M x1 x2 x3 = some (r, T8) ∧ Rel S7 S5 S6 T2 S4 S3 S0 T8 := by
  obtain ⟨n, hn, a1, a2, a3, a4, a5, a6⟩ := id h.2.2.2.1
  unfold f_X7_often f_X8_often
  rw [isHand8, in8]
  simp only [has2 a1 hn, isT8 a2 hn, isHand7, isW, Option.bind_some, bI_0, decide_eq_false_iff_not, tl_0, tl_16]
  by_cases c1 : 0 ≤ x1.toInt ∧ x1.toInt < (n : Int)
  · rw [inn c1, inn c1]
    by_cases c2 : 0 ≤ x2.toInt ∧ x2.toInt ≤ 3
    · rw [inn c2, inn c2]
      by_cases c3 : 0 ≤ x3.toInt ∧ x3.toInt ≤ 16
      · rw [inn c3, inn c3]
        obtain ⟨a, ha, rfl⟩ := ix_of c1.1 c1.2 (by omega)
        obtain ⟨b, hb, rfl⟩ := ix_of (n := 4) c2.1 (by omega) (by omega)
        unfold f_X2_isDone f_X2_swapOften
        simp only [m4r, m4l, nI_add]
        simp only [if_pos (inb_nI (show a < 10 by omega) (by omega)), if_pos (inb_nI (show a * 4 + b < 40 by omega) (by omega)), cl_nI (show a ≤ 100000 by omega), cl_nI (show a * 4 + b ≤ 100000 by omega)]
        obtain ⟨t1, t2, t3, t4, t5, t6, t7, t8⟩ := id (a4 a ha)
        rw [t5]
        by_cases c4 : M.2.2 29 a = -9
        · rw [if_pos c4, if_pos c4]
          simp only [Option.bind_some, if_true]
          rw [(a5 (a * 4 + b) (by omega)).1]
          refine ⟨_, _, _, rfl, rfl, h.1, h.2.1, h.2.2.1, ⟨n, hn, a1, a2, a3, a4, fun j hj => ?_, a6⟩, h.2.2.2.2⟩
          show upd (S2.2.2 4) (a * 4 + b) x3 j = upd (M.2.2 28) (a * 4 + b) x3 j ∧ 0 ≤ (upd (M.2.2 28) (a * 4 + b) x3 j).toInt ∧ (upd (M.2.2 28) (a * 4 + b) x3 j).toInt ≤ 16
          unfold upd
          by_cases e : j = a * 4 + b
          · rw [if_pos e, if_pos e]; exact ⟨rfl, c3⟩
          · rw [if_neg e, if_neg e]; exact a5 j hj
        · rw [if_neg c4, if_neg c4]
          exact ⟨_, _, _, rfl, rfl, h⟩
      · rw [inp c3, inp c3]
        exact ⟨_, _, _, rfl, rfl, h⟩
    · rw [inp c2, inp c2]
      exact ⟨_, _, _, rfl, rfl, h⟩
  · rw [inp c1, inp c1]
    exact ⟨_, _, _, rfl, rfl, h⟩
/-- four 8s -/
def e8 (f : Nat → Int32) (n k : Nat) : Nat → Int32 := fun j => if n * 4 ≤ j ∧ j < n * 4 + k then 8 else f j
theorem e8_s (f : Nat → Int32) (n k : Nat) : upd (e8 f n k) (n * 4 + k) 8 = e8 f n (k + 1) := by
  funext j
  unfold upd e8
  by_cases e : j = n * 4 + k
  · rw [if_pos e, if_pos (by omega)]
  · rw [if_neg e]
    by_cases q : n * 4 ≤ j ∧ j < n * 4 + k
    · rw [if_pos q, if_pos (by omega)]
    · rw [if_neg q, if_neg (by omega)]
theorem e8_0 (f : Nat → Int32) (n : Nat) : e8 f n 0 = f := by
  funext j
  unfold e8
  rw [if_neg (by omega)]
theorem sA_same (S : St) (k : Nat) : sA S k (S.2.2 k) = S := by
  unfold sA
  have : va_up S.2.2 k (S.2.2 k) = S.2.2 := by
    funext j
    unfold va_up
    by_cases e : j = k
    · rw [if_pos e, e]
    · rw [if_neg e]
  rw [this]
theorem add2L {N n : Nat} (hN : 5 ≤ N) {S : St} (h : S.1 8 = nI n) (hn : n < 10) : f_X2_add_44 N N S 0 = some (nI n, sI (sA S 4 (e8 (S.2.2 4) n 4)) 8 (nI (n + 1))) := by
  have K := lpN (fun q k (T : St) => f_X2_add_44 N q T (nI k)) (fun k => sA S 4 (e8 (S.2.2 4) n k)) 4 (some (nI n, sI (sA S 4 (e8 (S.2.2 4) n 4)) 8 (nI (n + 1)))) ?_ ?_ 4 N 0 rfl (by omega)
  · have e : sA S 4 (e8 (S.2.2 4) n 0) = S := by rw [e8_0, sA_same]
    simp only [e] at K
    exact K
  · intro q k hk
    show f_X2_add_44_b N (fun y0 y1 => f_X2_add_44 N q y0 y1) (sA S 4 (e8 (S.2.2 4) n k)) (nI k) = _
    unfold f_X2_add_44_b
    rw [if_neg (show ¬ (4 : Int32) ≤ nI k from fun c => absurd ((nI_leI (a := 4) (by omega) (by omega)).mp c) (by omega))]
    rw [show (sA S 4 (e8 (S.2.2 4) n k)).1 8 = nI n from h, m4r, nI_add, if_pos (inb_nI (show n * 4 + k < 40 by omega) (by omega)), cl_nI (by omega), sA_at, sA_sA, e8_s, nI_1]
  · intro q
    show f_X2_add_44_b N (fun y0 y1 => f_X2_add_44 N q y0 y1) (sA S 4 (e8 (S.2.2 4) n 4)) (nI 4) = _
    unfold f_X2_add_44_b
    rw [if_pos (show (4 : Int32) ≤ nI 4 from by decide), show (sA S 4 (e8 (S.2.2 4) n 4)).1 8 = nI n from h, nI_1, nI_pred]
theorem add8L {N n : Nat} (hN : 5 ≤ N) {S : St} (h : S.1 24 = nI n) (hn : n < 10) : f_X8_test_104 N N S 0 = some (nI n, sI (sA S 28 (e8 (S.2.2 28) n 4)) 24 (nI (n + 1))) := by
  have K := lpN (fun q k (T : St) => f_X8_test_104 N q T (nI k)) (fun k => sA S 28 (e8 (S.2.2 28) n k)) 4 (some (nI n, sI (sA S 28 (e8 (S.2.2 28) n 4)) 24 (nI (n + 1)))) ?_ ?_ 4 N 0 rfl (by omega)
  · have e : sA S 28 (e8 (S.2.2 28) n 0) = S := by rw [e8_0, sA_same]
    simp only [e] at K
    exact K
  · intro q k hk
    show f_X8_test_104_b N (fun y0 y1 => f_X8_test_104 N q y0 y1) (sA S 28 (e8 (S.2.2 28) n k)) (nI k) = _
    unfold f_X8_test_104_b
    rw [if_neg (show ¬ (4 : Int32) ≤ nI k from fun c => absurd ((nI_leI (a := 4) (by omega) (by omega)).mp c) (by omega))]
    rw [show (sA S 28 (e8 (S.2.2 28) n k)).1 24 = nI n from h, m4l, nI_add, if_pos (inb_nI (show n * 4 + k < 40 by omega) (by omega)), cl_nI (by omega), sA_at, sA_sA, e8_s, nI_1]
  · intro q
    show f_X8_test_104_b N (fun y0 y1 => f_X8_test_104 N q y0 y1) (sA S 28 (e8 (S.2.2 28) n 4)) (nI 4) = _
    unfold f_X8_test_104_b
    rw [if_pos (show (4 : Int32) ≤ nI 4 from by decide), show (sA S 28 (e8 (S.2.2 28) n 4)).1 24 = nI n from h, nI_1, nI_pred]
theorem nar_0 : vp_nar .boolean 0 = 0 := rfl
theorem nar_1 : vp_nar .boolean 1 = 1 := rfl
theorem sim_test {N : Nat} (hN : 2200 ≤ N) {S7 S5 S6 S2 S4 S3 S0 M : St} (h : Rel S7 S5 S6 S2 S4 S3 S0 M) (x1 x2 x3 : Int32) : ∃ (r : Int32) (T2 T8 : St), f_X7_test N S7 S2 x1 x2 x3 = some (r, T2) ∧ f_X8_test N M x1 x2 x3 = some (r, T8) ∧ Rel S7 S5 S6 T2 S4 S3 S0 T8 := by
  obtain ⟨n, hn, a1, a2, a3, a4, a5, a6, a7, a8⟩ := id h.2.2.2.1
  have key : ∀ (hg : x3 = -9 ∨ (0 ≤ x3.toInt ∧ x3.toInt ≤ 3)), ∃ (r : Int32) (T2 T8 : St), (if (decide (n = 10)) = false then ((f_X2_add N S2 x1 x2 x3).bind (fun r70 => some ((r70.1), (r70.2)))) else some ((-2), S2)) = some (r, T2) ∧ f_X8_test_38 N M x1 x2 x3 = some (r, T8) ∧ Rel S7 S5 S6 T2 S4 S3 S0 T8 := by
    intro hg
    by_cases c : n = 10
    · subst c
      unfold f_X8_test_38
      rw [if_neg (by simp), if_pos (show M.1 24 = 10 from a2)]
      exact ⟨_, _, _, rfl, rfl, h⟩
    · unfold f_X8_test_38 f_X2_add
      rw [if_pos (decide_eq_false c), a2, if_neg (show ¬ nI n = 10 from fun e => absurd ((nI_eq (a := n) (b := 10) (by omega) (by omega)).mp e) (by omega))]
      simp only [a1, if_pos (inb_nI (show n < 10 by omega) (by omega)), cl_nI (show n ≤ 100000 by omega)]
      rw [add2L (n := n) (by omega) (show (sA (sA (sA (sA S2 1 _) 2 _) 3 _) 5 _).1 8 = nI n from a1) (by omega), add8L (n := n) (by omega) (show (sA (sA (sA (sA (sA M 25 _) 26 _) 27 _) 29 _) 30 _).1 24 = nI n from a2) (by omega)]
      refine ⟨_, _, _, rfl, rfl, h.1, h.2.1, h.2.2.1, ⟨n + 1, by omega, rfl, rfl, a3, fun t ht => ?_, fun j hj => ?_, fun t ht1 ht2 => a6 t (by omega) ht2, fun q hq => ?_, ?_⟩, h.2.2.2.2⟩
      · by_cases e : t = n
        · subst e
          refine ⟨(u_s _ _ _).trans (u_s _ _ _).symm, (u_s _ _ _).trans (u_s _ _ _).symm, (u_s _ _ _).trans (u_s _ _ _).symm, ?_, (u_s _ _ _).trans (u_s _ _ _).symm, Or.inl (u_s _ _ _), (a6 t (by omega) (by omega)).trans ((u_s _ _ _).trans nar_0).symm, Or.inl ((u_s _ _ _).trans nar_0)⟩
          show upd (M.2.2 27) t x3 t = -9 ∨ (0 ≤ (upd (M.2.2 27) t x3 t).toInt ∧ (upd (M.2.2 27) t x3 t).toInt ≤ 3)
          rw [u_s]; exact hg
        · show upd (S2.2.2 1) n x1 t = upd (M.2.2 25) n x1 t ∧ upd (S2.2.2 2) n x2 t = upd (M.2.2 26) n x2 t ∧ upd (S2.2.2 3) n x3 t = upd (M.2.2 27) n x3 t ∧ (upd (M.2.2 27) n x3 t = -9 ∨ (0 ≤ (upd (M.2.2 27) n x3 t).toInt ∧ (upd (M.2.2 27) n x3 t).toInt ≤ 3)) ∧ upd (S2.2.2 5) n (-9) t = upd (M.2.2 29) n (-9) t ∧ (upd (M.2.2 29) n (-9) t = -9 ∨ upd (M.2.2 29) n (-9) t = 0 ∨ upd (M.2.2 29) n (-9) t = 1) ∧ S2.2.2 6 t = upd (M.2.2 30) n (vp_nar .boolean 0) t ∧ (upd (M.2.2 30) n (vp_nar .boolean 0) t = 0 ∨ upd (M.2.2 30) n (vp_nar .boolean 0) t = 1)
          unfold upd
          simp only [if_neg e]
          exact a4 t (by omega)
      · show e8 (S2.2.2 4) n 4 j = e8 (M.2.2 28) n 4 j ∧ 0 ≤ (e8 (M.2.2 28) n 4 j).toInt ∧ (e8 (M.2.2 28) n 4 j).toInt ≤ 16
        unfold e8
        by_cases e : n * 4 ≤ j ∧ j < n * 4 + 4
        · rw [if_pos e, if_pos e]; exact ⟨rfl, by decide, by decide⟩
        · rw [if_neg e, if_neg e]; exact a5 j (by omega)
      · show S2.2.2 7 q = 0 ↔ ∀ t, t < n + 1 → upd (M.2.2 27) n x3 t = nI q → upd (M.2.2 29) n (-9) t = -9
        rw [a7 q hq]
        unfold upd
        constructor
        · intro g t ht
          by_cases e : t = n
          · rw [if_pos e, if_pos e]; exact fun _ => rfl
          · rw [if_neg e, if_neg e]; exact g t (by omega)
        · intro g t ht
          have := g t (by omega)
          rw [if_neg (by omega), if_neg (by omega)] at this
          exact this
      · show S2.1 9 = nI (fb_ct (fun t => decide (upd (M.2.2 29) n (-9) t ≠ -9)) (n + 1))
        rw [a8, fb_ct_succ, u_s, if_neg (by decide), Nat.add_zero]
        congr 1
        exact fb_ct_cong (fun k hk => by
          unfold upd
          rw [if_neg (by omega)])
  unfold f_X7_test f_X8_test f_X7_test_15 f_X7_test_20
  rw [in8]
  simp only [full2 a1 hn, isW, Option.bind_some, bI_0, decide_eq_false_iff_not, tl_0, tl_1, tl_3, tl_9, tl_1000]
  simp only [decide_eq_false_iff_not] at key
  by_cases c1 : 1 ≤ x1.toInt ∧ x1.toInt ≤ 1000
  · by_cases c2 : 0 ≤ x2.toInt ∧ x2.toInt ≤ 9
    · by_cases c3 : x3 = -9
      · simp only [inn c1, inn c2, if_pos c3, if_neg (show ¬ (1 : Int32) = 0 by decide)]
        exact key (Or.inl c3)
      · by_cases c4 : 0 ≤ x3.toInt ∧ x3.toInt ≤ 3
        · simp only [inn c1, inn c2, if_neg c3, inn c4, if_neg (show ¬ (1 : Int32) = 0 by decide)]
          exact key (Or.inr c4)
        · simp only [inn c1, inn c2, if_neg c3, inp c4, if_true]
          exact ⟨_, _, _, rfl, rfl, h⟩
    · simp only [inn c1, inp c2]
      by_cases c3 : x3 = -9
      · simp only [if_pos c3]
        exact ⟨_, _, _, rfl, rfl, h⟩
      · by_cases c4 : 0 ≤ x3.toInt ∧ x3.toInt ≤ 3
        · simp only [if_neg c3, inn c4]
          exact ⟨_, _, _, rfl, rfl, h⟩
        · simp only [if_neg c3, inp c4]
          exact ⟨_, _, _, rfl, rfl, h⟩
  · simp only [inp c1]
    by_cases c3 : x3 = -9
    · simp only [if_pos c3]
      exact ⟨_, _, _, rfl, rfl, h⟩
    · by_cases c4 : 0 ≤ x3.toInt ∧ x3.toInt ≤ 3
      · simp only [if_neg c3, inn c4]
        exact ⟨_, _, _, rfl, rfl, h⟩
      · simp only [if_neg c3, inp c4]
        exact ⟨_, _, _, rfl, rfl, h⟩
