/-! proofs are told -/
def Up (f f' : Nat → Int32) (n : Nat) : Prop := ∀ p, p ≠ n → f' p = f p
theorem Up_u (f : Nat → Int32) (n : Nat) (v : Int32) : Up f (upd f n v) n := fun _ hp => if_neg hp
theorem Up_r (f : Nat → Int32) (n : Nat) : Up f f n := fun _ _ => rfl
theorem u_s (f : Nat → Int32) (n : Nat) (v : Int32) : upd f n v n = v := if_pos rfl
def cm8 (M : St) (n : Nat) (k w a b c d : Int32) : St := sI (sA (sA (sA (sA (sA (sA (sA (sA M 14 (upd (M.2.2 14) n k)) 15 (upd (M.2.2 15) n w)) 16 (upd (M.2.2 16) n (M.1 5))) 17 (upd (M.2.2 17) n (-9))) 18 (upd (M.2.2 18) n a)) 19 (upd (M.2.2 19) n b)) 20 (upd (M.2.2 20) n c)) 21 (upd (M.2.2 21) n d)) 13 (nI (n + 1))
def ad5 (S : St) (n : Nat) (k w day : Int32) : St := sI (sA (sA (sA (sA S 2 (upd (S.2.2 2) n k)) 3 (upd (S.2.2 3) n w)) 4 (upd (S.2.2 4) n day)) 5 (upd (S.2.2 5) n (-9))) 13 (nI (n + 1))
theorem add5 {N n : Nat} {S : St} (h : S.1 13 = nI n) (hn : n < 24) (k w day : Int32) : f_X5_add N S k w day = some (nI n, ad5 S n k w day) := by
  unfold f_X5_add
  rw [h]
  simp only [if_pos (inb_nI hn (by omega)), cl_nI (show n ≤ 100000 by omega), nI_1, nI_pred]
  rfl
theorem comes_0 {N : Nat} {M : St} (k w a b c d : Int32) : f_X8_comes N M 0 k w a b c d = some (-1, M) := rfl
theorem comes_b {N : Nat} {M : St} (k w a b c d : Int32) (hw : ¬ (1 ≤ w.toInt ∧ w.toInt ≤ 9)) : f_X8_comes N M 1 k w a b c d = some (-1, M) := by
  unfold f_X8_comes
  rw [if_neg (by decide), in8, isW]
  simp only [Option.bind_some, bI_0, decide_eq_false_iff_not, tl_1, tl_9]
  rw [inp hw]
theorem comes_f {N : Nat} {M : St} (h : M.1 13 = nI 24) (k w a b c d : Int32) (hw : 1 ≤ w.toInt ∧ w.toInt ≤ 9) : f_X8_comes N M 1 k w a b c d = some (-2, M) := by
  unfold f_X8_comes
  rw [if_neg (by decide), in8, isW]
  simp only [Option.bind_some, bI_0, decide_eq_false_iff_not, tl_1, tl_9]
  rw [inn hw, if_pos (show M.1 13 = 24 from h)]
theorem comes_1 {N n : Nat} {M : St} (h : M.1 13 = nI n) (hn : n < 24) (k w a b c d : Int32) (hw : 1 ≤ w.toInt ∧ w.toInt ≤ 9) : f_X8_comes N M 1 k w a b c d = some (nI n, cm8 M n k w a b c d) := by
  unfold f_X8_comes
  rw [if_neg (by decide), in8, isW]
  simp only [Option.bind_some, bI_0, decide_eq_false_iff_not, tl_1, tl_9]
  rw [inn hw, h, if_neg (show ¬ nI n = 24 from fun e => absurd ((nI_eq (a := n) (b := 24) (by omega) (by omega)).mp e) (by omega))]
  simp only [if_pos (inb_nI hn (by omega)), cl_nI (show n ≤ 100000 by omega), nI_1, nI_pred]
  rfl
theorem full5 {N n : Nat} {S : St} (h : S.1 13 = nI n) (hn : n ≤ 24) : f_X5_isFull N S = some (bI (decide (n = 24))) := by
  unfold f_X5_isFull
  simp only [h, show (nI n < 24) = (n < 24) from lt_nI (b := 24) (by omega) (by omega)]
  by_cases c : n = 24
  · rw [if_neg (by omega), decide_eq_true c]; rfl
  · rw [if_pos (by omega), decide_eq_false c]; rfl
theorem Pr_up {S5 M S5' M' : St} {n p : Nat} (hp : p ≠ n) (u2 : Up (S5.2.2 2) (S5'.2.2 2) n) (u3 : Up (S5.2.2 3) (S5'.2.2 3) n) (u4 : Up (S5.2.2 4) (S5'.2.2 4) n) (u5 : Up (S5.2.2 5) (S5'.2.2 5) n) (u6 : Up (S5.2.2 6) (S5'.2.2 6) n) (u7 : Up (S5.2.2 7) (S5'.2.2 7) n) (u8 : Up (S5.2.2 8) (S5'.2.2 8) n) (u9 : Up (S5.2.2 9) (S5'.2.2 9) n)
    (m4 : Up (M.2.2 14) (M'.2.2 14) n) (m5 : Up (M.2.2 15) (M'.2.2 15) n) (m6 : Up (M.2.2 16) (M'.2.2 16) n) (m7 : Up (M.2.2 17) (M'.2.2 17) n) (m8 : Up (M.2.2 18) (M'.2.2 18) n) (m9 : Up (M.2.2 19) (M'.2.2 19) n) (m0 : Up (M.2.2 20) (M'.2.2 20) n) (m1 : Up (M.2.2 21) (M'.2.2 21) n) (h : Pr S5 M p) : Pr S5' M' p := by
  unfold Pr
  rw [u2 p hp, u3 p hp, u4 p hp, u5 p hp, u6 p hp, u7 p hp, u8 p hp, u9 p hp, m4 p hp, m5 p hp, m6 p hp, m7 p hp, m8 p hp, m9 p hp, m0 p hp, m1 p hp]
  exact h
theorem R5_add {S5 M S5' M' : St} (h : R5 S5 M) {n : Nat} (hM : M.1 13 = nI n) (hn24 : n < 24) (i : S5'.1 13 = nI (n + 1)) (i' : M'.1 13 = nI (n + 1)) (e1 : S5'.2.2 1 = S5.2.2 1) (e9 : M'.2.2 9 = M.2.2 9) (k0 : S5'.1 10 = S5.1 10) (k1 : S5'.1 11 = S5.1 11) (k2 : S5'.1 12 = S5.1 12) (k4 : S5'.1 14 = S5.1 14) (j0 : M'.1 10 = M.1 10) (j1 : M'.1 11 = M.1 11) (j2 : M'.1 12 = M.1 12)
    (u2 : Up (S5.2.2 2) (S5'.2.2 2) n) (u3 : Up (S5.2.2 3) (S5'.2.2 3) n) (u4 : Up (S5.2.2 4) (S5'.2.2 4) n) (u5 : Up (S5.2.2 5) (S5'.2.2 5) n) (u6 : Up (S5.2.2 6) (S5'.2.2 6) n) (u7 : Up (S5.2.2 7) (S5'.2.2 7) n) (u8 : Up (S5.2.2 8) (S5'.2.2 8) n) (u9 : Up (S5.2.2 9) (S5'.2.2 9) n)
    (m4 : Up (M.2.2 14) (M'.2.2 14) n) (m5 : Up (M.2.2 15) (M'.2.2 15) n) (m6 : Up (M.2.2 16) (M'.2.2 16) n) (m7 : Up (M.2.2 17) (M'.2.2 17) n) (m8 : Up (M.2.2 18) (M'.2.2 18) n) (m9 : Up (M.2.2 19) (M'.2.2 19) n) (m0 : Up (M.2.2 20) (M'.2.2 20) n) (m1 : Up (M.2.2 21) (M'.2.2 21) n) (hs : M'.2.2 17 n = -9) (hp : Pr S5' M' n) : R5 S5' M' := by
  obtain ⟨n', hn, a1, a2, a3, a4, a5, a6⟩ := h
  have : n' = n := (nI_eq (by omega) (by omega)).mp (a2.symm.trans hM)
  subst this
  refine ⟨n' + 1, by omega, i, i', ?_, ?_, fun p hq => ?_, ?_⟩
  · rw [e1, e9]; exact a3
  · rw [k0, k1, k2, j0, j1, j2]; exact a4
  · by_cases e : p = n'
    · rw [e]; exact hp
    · exact Pr_up e u2 u3 u4 u5 u6 u7 u8 u9 m4 m5 m6 m7 m8 m9 m0 m1 (a5 p (by omega))
  · rw [k4, a6, fb_ct_succ, hs, if_neg (by decide), Nat.add_zero]
    congr 1
    exact fb_ct_cong (fun k hk => by rw [m7 k (by omega)])
/-- the four ways to tell one -/
theorem sim_proof {N : Nat} (hN : 2200 ≤ N) {S7 S5 S6 S2 S4 S3 S0 M : St} (h : Rel S7 S5 S6 S2 S4 S3 S0 M) (x1 x2 x3 : Int32) : ∃ (r : Int32) (T5 T8 : St), f_X7_proof N S7 S5 x1 x2 x3 = some (r, T5) ∧ f_X8_proof N M x1 x2 x3 = some (r, T8) ∧ Rel S7 T5 S6 S2 S4 S3 S0 T8 := by
  obtain ⟨n, hn, a1, a2, -⟩ := id h.2.1
  unfold f_X7_proof f_X8_proof f_X8_proof_23 f_X8_proof_24
  rw [isYear8, in8]
  simp only [areYears7, isYear7, isPW7, isW, full5 a1 hn, comes_0, Option.bind_some, bI_0, decide_eq_false_iff_not, tl_2100]
  by_cases c1 : 1000 ≤ x1.toInt ∧ x1.toInt ≤ 2100
  · by_cases c2 : x1.toInt ≤ x2.toInt ∧ x2.toInt ≤ 2100
    · rw [inn c1, inn c2, inn (show (1000 ≤ x1.toInt ∧ x1.toInt ≤ 2100) ∧ x1.toInt ≤ x2.toInt ∧ x2.toInt ≤ 2100 from ⟨c1, c2⟩)]
      by_cases c3 : 1 ≤ x3.toInt ∧ x3.toInt ≤ 9
      · rw [inn c3]
        by_cases c4 : n = 24
        · subst c4
          rw [inn rfl, comes_f a2 _ _ _ _ _ _ c3]
          exact ⟨_, _, _, rfl, rfl, h⟩
        · rw [inp c4, comes_1 a2 (by omega) _ _ _ _ _ _ c3]
          unfold f_X5_addYears
          simp only [a1, if_pos (inb_nI (show n < 24 by omega) (by omega)), cl_nI (show n ≤ 100000 by omega)]
          rw [add5 (n := n) (S := sA (sA S5 8 _) 9 _) a1 (by omega)]
          refine ⟨_, _, _, rfl, rfl, h.1, R5_add (n := n) h.2.1 a2 (by omega) rfl rfl rfl rfl rfl rfl rfl rfl rfl rfl rfl (Up_u _ _ _) (Up_u _ _ _) (Up_u _ _ _) (Up_u _ _ _) (Up_r _ _) (Up_r _ _) (Up_u _ _ _) (Up_u _ _ _) (Up_u _ _ _) (Up_u _ _ _) (Up_u _ _ _) (Up_u _ _ _) (Up_u _ _ _) (Up_u _ _ _) (Up_u _ _ _) (Up_u _ _ _) (u_s _ _ _) ?_, h.2.2⟩
          show Pr _ _ n
          refine ⟨(u_s _ _ _).trans (u_s _ _ _).symm, (u_s _ _ _).trans (u_s _ _ _).symm, ?_, (u_s _ _ _).trans (h.1.1.trans (u_s _ _ _).symm), (u_s _ _ _).trans (u_s _ _ _).symm, Or.inl ⟨u_s _ _ _, (u_s _ _ _).trans (u_s _ _ _).symm, (u_s _ _ _).trans (u_s _ _ _).symm, ?_⟩⟩
          · show 1 ≤ (upd (M.2.2 15) n x3 n).toInt ∧ (upd (M.2.2 15) n x3 n).toInt ≤ 9
            rw [u_s]; exact c3
          · show 1000 ≤ (upd (M.2.2 18) n x1 n).toInt ∧ (upd (M.2.2 18) n x1 n).toInt ≤ (upd (M.2.2 19) n x2 n).toInt ∧ (upd (M.2.2 19) n x2 n).toInt ≤ 2100
            rw [u_s, u_s]; exact ⟨c1.1, c2⟩
      · rw [inp c3, comes_b _ _ _ _ _ _ c3]
        exact ⟨_, _, _, rfl, rfl, h⟩
    · rw [inn c1, inp c2, inp (fun q => c2 q.2)]
      exact ⟨_, _, _, rfl, rfl, h⟩
  · rw [inp c1, inp (fun q => c1 q.1)]
    exact ⟨_, _, _, rfl, rfl, h⟩
theorem sim_found {N : Nat} (hN : 2200 ≤ N) {S7 S5 S6 S2 S4 S3 S0 M : St} (h : Rel S7 S5 S6 S2 S4 S3 S0 M) (x1 x2 : Int32) : ∃ (r : Int32) (T5 T8 : St), f_X7_found N S7 S5 x1 x2 = some (r, T5) ∧ f_X8_found N M x1 x2 = some (r, T8) ∧ Rel S7 T5 S6 S2 S4 S3 S0 T8 := by
  obtain ⟨n, hn, a1, a2, -⟩ := id h.2.1
  unfold f_X7_found f_X8_found
  rw [in8]
  simp only [isPW7, isW, full5 a1 hn, Option.bind_some, bI_0, decide_eq_false_iff_not, tl_0, tl_9]
  by_cases c1 : 0 ≤ x1.toInt ∧ x1.toInt ≤ 9
  · rw [inn c1, decide_eq_true c1, show bI true = 1 from rfl]
    by_cases c3 : 1 ≤ x2.toInt ∧ x2.toInt ≤ 9
    · rw [inn c3]
      by_cases c4 : n = 24
      · subst c4
        rw [inn rfl, comes_f a2 _ _ _ _ _ _ c3]
        exact ⟨_, _, _, rfl, rfl, h⟩
      · rw [inp c4, comes_1 a2 (by omega) _ _ _ _ _ _ c3]
        unfold f_X5_addPaint
        simp only [a1, if_pos (inb_nI (show n < 24 by omega) (by omega)), cl_nI (show n ≤ 100000 by omega)]
        rw [add5 (n := n) (S := sA S5 6 _) a1 (by omega)]
        refine ⟨_, _, _, rfl, rfl, h.1, R5_add (n := n) h.2.1 a2 (by omega) rfl rfl rfl rfl rfl rfl rfl rfl rfl rfl rfl (Up_u _ _ _) (Up_u _ _ _) (Up_u _ _ _) (Up_u _ _ _) (Up_u _ _ _) (Up_r _ _) (Up_r _ _) (Up_r _ _) (Up_u _ _ _) (Up_u _ _ _) (Up_u _ _ _) (Up_u _ _ _) (Up_u _ _ _) (Up_u _ _ _) (Up_u _ _ _) (Up_u _ _ _) (u_s _ _ _) ?_, h.2.2⟩
        show Pr _ _ n
        refine ⟨(u_s _ _ _).trans (u_s _ _ _).symm, (u_s _ _ _).trans (u_s _ _ _).symm, ?_, (u_s _ _ _).trans (h.1.1.trans (u_s _ _ _).symm), (u_s _ _ _).trans (u_s _ _ _).symm, Or.inr (Or.inl ⟨u_s _ _ _, (u_s _ _ _).trans (u_s _ _ _).symm, ?_⟩)⟩
        · show 1 ≤ (upd (M.2.2 15) n x2 n).toInt ∧ (upd (M.2.2 15) n x2 n).toInt ≤ 9
          rw [u_s]; exact c3
        · show 0 ≤ (upd (M.2.2 18) n x1 n).toInt ∧ (upd (M.2.2 18) n x1 n).toInt ≤ 9
          rw [u_s]; exact c1
    · rw [inp c3, comes_b _ _ _ _ _ _ c3]
      exact ⟨_, _, _, rfl, rfl, h⟩
  · rw [inp c1, decide_eq_false c1, show bI false = 0 from rfl, comes_0]
    exact ⟨_, _, _, rfl, rfl, h⟩
theorem sim_rings {N : Nat} (hN : 2200 ≤ N) {S7 S5 S6 S2 S4 S3 S0 M : St} (h : Rel S7 S5 S6 S2 S4 S3 S0 M) (x1 x2 x3 : Int32) : ∃ (r : Int32) (T5 T8 : St), f_X7_rings N S7 S5 x1 x2 x3 = some (r, T5) ∧ f_X8_rings N M x1 x2 x3 = some (r, T8) ∧ Rel S7 T5 S6 S2 S4 S3 S0 T8 := by
  obtain ⟨n, hn, a1, a2, -⟩ := id h.2.1
  unfold f_X7_rings f_X8_rings f_X8_rings_28 f_X8_rings_29 f_X7_rings_27 f_X7_rings_28
  rw [in8]
  simp only [isPW7, isW, full5 a1 hn, comes_0, Option.bind_some, bI_0, decide_eq_false_iff_not, tl_0, tl_30, tl_1000, tl_2000]
  by_cases c1 : 1000 ≤ x1.toInt ∧ x1.toInt ≤ 2000
  · rw [inn c1, inn c1]
    by_cases c2 : 0 ≤ x2.toInt ∧ x2.toInt ≤ 30
    · rw [inn c2, inn c2, if_neg (by decide)]
      by_cases c3 : 1 ≤ x3.toInt ∧ x3.toInt ≤ 9
      · rw [inn c3]
        by_cases c4 : n = 24
        · subst c4
          rw [inn rfl, comes_f a2 _ _ _ _ _ _ c3]
          exact ⟨_, _, _, rfl, rfl, h⟩
        · rw [inp c4, comes_1 a2 (by omega) _ _ _ _ _ _ c3]
          unfold f_X5_addRings
          simp only [a1, if_pos (inb_nI (show n < 24 by omega) (by omega)), cl_nI (show n ≤ 100000 by omega)]
          rw [add5 (n := n) (S := sA (sA S5 8 _) 6 _) a1 (by omega)]
          refine ⟨_, _, _, rfl, rfl, h.1, R5_add (n := n) h.2.1 a2 (by omega) rfl rfl rfl rfl rfl rfl rfl rfl rfl rfl rfl (Up_u _ _ _) (Up_u _ _ _) (Up_u _ _ _) (Up_u _ _ _) (Up_u _ _ _) (Up_r _ _) (Up_u _ _ _) (Up_r _ _) (Up_u _ _ _) (Up_u _ _ _) (Up_u _ _ _) (Up_u _ _ _) (Up_u _ _ _) (Up_u _ _ _) (Up_u _ _ _) (Up_u _ _ _) (u_s _ _ _) ?_, h.2.2⟩
          show Pr _ _ n
          refine ⟨(u_s _ _ _).trans (u_s _ _ _).symm, (u_s _ _ _).trans (u_s _ _ _).symm, ?_, (u_s _ _ _).trans (h.1.1.trans (u_s _ _ _).symm), (u_s _ _ _).trans (u_s _ _ _).symm, Or.inr (Or.inr (Or.inl ⟨u_s _ _ _, (u_s _ _ _).trans (u_s _ _ _).symm, (u_s _ _ _).trans (u_s _ _ _).symm, ?_⟩))⟩
          · show 1 ≤ (upd (M.2.2 15) n x3 n).toInt ∧ (upd (M.2.2 15) n x3 n).toInt ≤ 9
            rw [u_s]; exact c3
          · show 1000 ≤ (upd (M.2.2 18) n x1 n).toInt ∧ (upd (M.2.2 18) n x1 n).toInt ≤ 2000 ∧ 0 ≤ (upd (M.2.2 19) n x2 n).toInt ∧ (upd (M.2.2 19) n x2 n).toInt ≤ 30
            rw [u_s, u_s]; exact ⟨c1.1, c1.2, c2⟩
      · rw [inp c3, comes_b _ _ _ _ _ _ c3]
        exact ⟨_, _, _, rfl, rfl, h⟩
    · rw [inp c2, inp c2, if_pos trivial]
      exact ⟨_, _, _, rfl, rfl, h⟩
  · rw [inp c1, inp c1, if_pos trivial]
    exact ⟨_, _, _, rfl, rfl, h⟩
theorem sim_threads {N : Nat} (hN : 2200 ≤ N) {S7 S5 S6 S2 S4 S3 S0 M : St} (h : Rel S7 S5 S6 S2 S4 S3 S0 M) (x1 x2 x3 x4 x5 : Int32) : ∃ (r : Int32) (T5 T8 : St), f_X7_threads N S7 S5 x1 x2 x3 x4 x5 = some (r, T5) ∧ f_X8_threads N M x1 x2 x3 x4 x5 = some (r, T8) ∧ Rel S7 T5 S6 S2 S4 S3 S0 T8 := by
  obtain ⟨n, hn, a1, a2, -⟩ := id h.2.1
  unfold f_X7_threads f_X8_threads f_X8_threads_43 f_X8_threads_44
  rw [isYear8, isRow8, in8]
  simp only [areTwo7, areYears7, isYear7, isRow7, isPW7, isW, full5 a1 hn, comes_0, Option.bind_some, bI_0, decide_eq_false_iff_not, tl_2100]
  by_cases b1 : 0 ≤ x1.toInt ∧ x1.toInt ≤ 5
  · by_cases b2 : 0 ≤ x2.toInt ∧ x2.toInt ≤ 5
    · by_cases b3 : x1 = x2
      · rw [inn b1, inn b2, if_pos b3, inp (fun q => q.2.2 b3)]
        exact ⟨_, _, _, rfl, rfl, h⟩
      · rw [inn b1, inn b2, if_neg b3, inn (show (0 ≤ x1.toInt ∧ x1.toInt ≤ 5) ∧ (0 ≤ x2.toInt ∧ x2.toInt ≤ 5) ∧ x1 ≠ x2 from ⟨b1, b2, b3⟩)]
        by_cases c1 : 1000 ≤ x3.toInt ∧ x3.toInt ≤ 2100
        · by_cases c2 : x3.toInt ≤ x4.toInt ∧ x4.toInt ≤ 2100
          · rw [inn c1, inn c2, inn (show (1000 ≤ x3.toInt ∧ x3.toInt ≤ 2100) ∧ x3.toInt ≤ x4.toInt ∧ x4.toInt ≤ 2100 from ⟨c1, c2⟩)]
            by_cases c3 : 1 ≤ x5.toInt ∧ x5.toInt ≤ 9
            · rw [inn c3]
              by_cases c4 : n = 24
              · subst c4
                rw [inn rfl, comes_f a2 _ _ _ _ _ _ c3]
                exact ⟨_, _, _, rfl, rfl, h⟩
              · rw [inp c4, comes_1 a2 (by omega) _ _ _ _ _ _ c3]
                unfold f_X5_addThreads
                simp only [a1, if_pos (inb_nI (show n < 24 by omega) (by omega)), cl_nI (show n ≤ 100000 by omega)]
                rw [add5 (n := n) (S := sA (sA (sA (sA S5 6 _) 7 _) 8 _) 9 _) a1 (by omega)]
                refine ⟨_, _, _, rfl, rfl, h.1, R5_add (n := n) h.2.1 a2 (by omega) rfl rfl rfl rfl rfl rfl rfl rfl rfl rfl rfl (Up_u _ _ _) (Up_u _ _ _) (Up_u _ _ _) (Up_u _ _ _) (Up_u _ _ _) (Up_u _ _ _) (Up_u _ _ _) (Up_u _ _ _) (Up_u _ _ _) (Up_u _ _ _) (Up_u _ _ _) (Up_u _ _ _) (Up_u _ _ _) (Up_u _ _ _) (Up_u _ _ _) (Up_u _ _ _) (u_s _ _ _) ?_, h.2.2⟩
                show Pr _ _ n
                refine ⟨(u_s _ _ _).trans (u_s _ _ _).symm, (u_s _ _ _).trans (u_s _ _ _).symm, ?_, (u_s _ _ _).trans (h.1.1.trans (u_s _ _ _).symm), (u_s _ _ _).trans (u_s _ _ _).symm, Or.inr (Or.inr (Or.inr ⟨u_s _ _ _, (u_s _ _ _).trans (u_s _ _ _).symm, (u_s _ _ _).trans (u_s _ _ _).symm, (u_s _ _ _).trans (u_s _ _ _).symm, (u_s _ _ _).trans (u_s _ _ _).symm, ?_⟩))⟩
                · show 1 ≤ (upd (M.2.2 15) n x5 n).toInt ∧ (upd (M.2.2 15) n x5 n).toInt ≤ 9
                  rw [u_s]; exact c3
                · show 1000 ≤ (upd (M.2.2 18) n x3 n).toInt ∧ (upd (M.2.2 18) n x3 n).toInt ≤ (upd (M.2.2 19) n x4 n).toInt ∧ (upd (M.2.2 19) n x4 n).toInt ≤ 2100 ∧ 0 ≤ (upd (M.2.2 20) n x1 n).toInt ∧ (upd (M.2.2 20) n x1 n).toInt ≤ 5 ∧ 0 ≤ (upd (M.2.2 21) n x2 n).toInt ∧ (upd (M.2.2 21) n x2 n).toInt ≤ 5 ∧ upd (M.2.2 20) n x1 n ≠ upd (M.2.2 21) n x2 n
                  rw [u_s, u_s, u_s, u_s]; exact ⟨c1.1, c2.1, c2.2, b1.1, b1.2, b2.1, b2.2, b3⟩
            · rw [inp c3, comes_b _ _ _ _ _ _ c3]
              exact ⟨_, _, _, rfl, rfl, h⟩
          · rw [inn c1, inp c2, inp (fun q => c2 q.2)]
            exact ⟨_, _, _, rfl, rfl, h⟩
        · rw [inp c1, inp (fun q => c1 q.1)]
          exact ⟨_, _, _, rfl, rfl, h⟩
    · rw [inn b1, inp b2, inp (fun q => b2 q.2.1)]
      exact ⟨_, _, _, rfl, rfl, h⟩
  · rw [inp b1, inp (fun q => b1 q.1)]
    exact ⟨_, _, _, rfl, rfl, h⟩
/-- which numbers are proofs -/
theorem has5 {N n : Nat} {S : St} (h : S.1 13 = nI n) (hn : n ≤ 24) (x : Int32) : f_X5_has N S x = some (bI (decide (0 ≤ x.toInt ∧ x.toInt < n))) := by
  unfold f_X5_has
  simp only [h, fa_lt, fa_le, tl_0, ti_nI (show n ≤ 100000 by omega)]
  by_cases c1 : x.toInt < 0
  · rw [if_pos c1, decide_eq_false (by omega)]; rfl
  · rw [if_neg c1]
    by_cases c2 : (n : Int) ≤ x.toInt
    · rw [if_pos c2, decide_eq_false (by omega)]; rfl
    · rw [if_neg c2, decide_eq_true (by omega)]; rfl
theorem isP8 {N n : Nat} {M : St} (h : M.1 13 = nI n) (hn : n ≤ 24) (x : Int32) : f_X8_isProof N M x = some (bI (decide (0 ≤ x.toInt ∧ x.toInt < n))) := by
  unfold f_X8_isProof
  have e : (nI n - 1).toInt = (n : Int) - 1 := by
    rw [fb_subI (by rw [ti_nI (by omega), tl_1]; omega) (by rw [ti_nI (by omega), tl_1]; omega), ti_nI (by omega), tl_1]
  rw [h, in8, isW, e, tl_0]
  have e2 : decide (0 ≤ x.toInt ∧ x.toInt ≤ (n : Int) - 1) = decide (0 ≤ x.toInt ∧ x.toInt < n) := decide_eq_decide.mpr (by omega)
  rw [e2]
  exact zb
theorem sim_strike {N : Nat} (hN : 2200 ≤ N) {S7 S5 S6 S2 S4 S3 S0 M : St} (h : Rel S7 S5 S6 S2 S4 S3 S0 M) (x1 : Int32) : ∃ (r : Int32) (T5 T8 : St), f_X7_strike N S7 S5 x1 = some (r, T5) ∧ f_X8_strike N M x1 = some (r, T8) ∧ Rel S7 T5 S6 S2 S4 S3 S0 T8 := by
  obtain ⟨n, hn, a1, a2, a3, a4, a5, a6⟩ := id h.2.1
  unfold f_X7_strike f_X8_strike
  rw [has5 a1 hn, isP8 a2 hn]
  simp only [Option.bind_some, bI_0, decide_eq_false_iff_not]
  by_cases c1 : 0 ≤ x1.toInt ∧ x1.toInt < (n : Int)
  · rw [inn c1, inn c1]
    obtain ⟨k, hk, rfl⟩ := ix_of c1.1 c1.2 (by omega)
    unfold f_X5_isStruck f_X5_strikeOn
    simp only [if_pos (inb_nI (show k < 24 by omega) (by omega)), cl_nI (show k ≤ 100000 by omega)]
    obtain ⟨p1, p2, p3, p4, p5, p6⟩ := id (a5 k hk)
    rw [p5]
    by_cases c2 : M.2.2 17 k = -9
    · rw [if_pos c2, if_pos c2]
      simp only [Option.bind_some, if_true]
      refine ⟨_, _, _, rfl, rfl, h.1, ⟨n, hn, a1, a2, a3, a4, fun p hp => ?_, ?_⟩, h.2.2⟩
      · by_cases e : p = k
        · subst e
          exact ⟨p1, p2, p3, p4, (u_s _ _ _).trans (h.1.1.trans (u_s _ _ _).symm), p6⟩
        · exact Pr_up (S5 := S5) (M := M) (n := k) e (Up_r _ _) (Up_r _ _) (Up_r _ _) (Up_u _ _ _) (Up_r _ _) (Up_r _ _) (Up_r _ _) (Up_r _ _) (Up_r _ _) (Up_r _ _) (Up_r _ _) (Up_u _ _ _) (Up_r _ _) (Up_r _ _) (Up_r _ _) (Up_r _ _) (a5 p hp)
      · show S5.1 14 + 1 = nI (fb_ct (fun p => decide (upd (M.2.2 17) k (M.1 5) p ≠ -9)) n)
        have ht : M.1 5 ≠ -9 := fun e => by
          have := h.1.2.1
          rw [e, tl_m9] at this
          omega
        have e1 : (fun p => decide (upd (M.2.2 17) k (M.1 5) p ≠ -9)) = (fun p => if p = k then true else decide (M.2.2 17 p ≠ -9)) := by
          funext p
          unfold upd
          by_cases e : p = k
          · rw [if_pos e, if_pos e]; exact decide_eq_true ht
          · rw [if_neg e, if_neg e]
        have e2 := fb_ct_upd (fun p => decide (M.2.2 17 p ≠ -9)) true hk
        rw [if_neg (by simp [c2]), if_pos rfl, Nat.add_zero] at e2
        rw [e1, e2, a6]
        exact nI_1 _
    · rw [if_neg c2, if_neg c2]
      exact ⟨_, _, _, rfl, rfl, h⟩
  · rw [inp c1, inp c1]
    exact ⟨_, _, _, rfl, rfl, h⟩
