/-! groups -/
def gq (M : St) (t : Nat) : Nat → Bool
  | 0 => false
  | i + 1 => gq M t i || (decide (M.2.2 27 t ≠ -9) && decide (M.2.2 27 i = M.2.2 27 t) && decide (M.2.2 29 i ≠ -9))
theorem gq_iff (M : St) (t : Nat) : ∀ i, gq M t i = true ↔ M.2.2 27 t ≠ -9 ∧ ∃ k, k < i ∧ M.2.2 27 k = M.2.2 27 t ∧ M.2.2 29 k ≠ -9
  | 0 => by
    constructor
    · intro h
      cases h
    · rintro ⟨_, k, hk, _⟩
      exact absurd hk (Nat.not_lt_zero k)
  | i + 1 => by
    show (gq M t i || _) = true ↔ _
    rw [Bool.or_eq_true, gq_iff M t i, Bool.and_eq_true, Bool.and_eq_true, decide_eq_true_iff, decide_eq_true_iff, decide_eq_true_iff]
    constructor
    · rintro (⟨a, k, hk, b⟩ | ⟨⟨a, b⟩, c⟩)
      · exact ⟨a, k, by omega, b⟩
      · exact ⟨a, i, by omega, b, c⟩
    · rintro ⟨a, k, hk, b, c⟩
      by_cases e : k = i
      · subst e; exact Or.inr ⟨⟨a, b⟩, c⟩
      · exact Or.inl ⟨a, k, by omega, b, c⟩
theorem gd8 {N n : Nat} {M : St} (hN : 11 ≤ N) (h : M.1 24 = nI n) (hn : n ≤ 10) {t : Nat} (ht : t < 10) : f_X8_isGroupDone N M (nI t) = some (bI (gq M t n)) := by
  unfold f_X8_isGroupDone
  refine lpN (fun q k a => f_X8_isGroupDone_4 N M q (nI t) a (nI k)) (fun k => bI (gq M t k)) n (some (bI (gq M t n))) ?_ ?_ n N 0 (by omega) (by omega)
  · intro q k hk
    show f_X8_isGroupDone_4_b N M (fun y0 y1 y2 => f_X8_isGroupDone_4 N M q y0 y1 y2) (nI t) (bI (gq M t k)) (nI k) = f_X8_isGroupDone_4 N M q (nI t) (bI (gq M t (k + 1))) (nI (k + 1))
    unfold f_X8_isGroupDone_4_b f_X8_isGroupDone_53 f_X8_isGroupDone_57 f_X8_isGroupDone_58
    simp only [h, le_nI (show n ≤ 100000 by omega) (show k ≤ 100000 by omega), if_neg (show ¬ n ≤ k by omega), bI_0, if_pos (inb_nI (show t < 10 by omega) (by omega)), if_pos (inb_nI (show k < 10 by omega) (by omega)), cl_nI (show t ≤ 100000 by omega), cl_nI (show k ≤ 100000 by omega), nI_1]
    show _ = f_X8_isGroupDone_4 N M q (nI t) (bI (gq M t k || (decide (M.2.2 27 t ≠ -9) && decide (M.2.2 27 k = M.2.2 27 t) && decide (M.2.2 29 k ≠ -9)))) (nI (k + 1))
    by_cases g : gq M t k = false
    · rw [if_pos g, g]
      by_cases c1 : M.2.2 27 t = -9
      · rw [if_pos c1]; simp [c1, bI]
      · rw [if_neg c1]
        by_cases c2 : M.2.2 27 k = M.2.2 27 t
        · rw [if_pos c2]
          by_cases c3 : M.2.2 29 k = -9
          · rw [if_pos c3]; simp [c3, bI]
          · rw [if_neg c3]; simp [c1, c2, c3, bI]
        · rw [if_neg c2]; simp [c2, bI]
    · rw [if_neg g, Bool.not_eq_false] at *
      rw [g]
      rfl
  · intro q
    show f_X8_isGroupDone_4_b N M (fun y0 y1 y2 => f_X8_isGroupDone_4 N M q y0 y1 y2) (nI t) (bI (gq M t n)) (nI n) = _
    unfold f_X8_isGroupDone_4_b
    simp only [h, le_nI (show n ≤ 100000 by omega) (show n ≤ 100000 by omega), if_pos (Nat.le_refl n)]
    exact zb
theorem gd2 {N n : Nat} {S2 M : St} (hR : R2 S2 M) (h : M.1 24 = nI n) (hn : n ≤ 10) {t : Nat} (ht : t < n) : f_X2_isGroupDone N S2 (nI t) = some (bI (gq M t n)) := by
  obtain ⟨n', hn', a1, a2, a3, a4, a5, a6, a7, a8⟩ := hR
  have : n' = n := (nI_eq (by omega) (by omega)).mp (a2.symm.trans h)
  subst this
  obtain ⟨t1, t2, t3, t4, t5, t6, t7, t8⟩ := a4 t ht
  unfold f_X2_isGroupDone
  simp only [if_pos (inb_nI (show t < 10 by omega) (by omega)), cl_nI (show t ≤ 100000 by omega), t3]
  by_cases c1 : M.2.2 27 t = -9
  · rw [if_pos c1]
    have : gq M t n' = false := Bool.eq_false_iff.mpr (fun g => ((gq_iff M t n').mp g).1 c1)
    rw [this]; rfl
  · rw [if_neg c1]
    rcases t4 with q | q
    · exact absurd q c1
    · obtain ⟨g, hg, eg⟩ := ix_of (n := 4) q.1 (by omega) (by omega)
      rw [eg, if_pos (inb_nI hg (by omega)), cl_nI (by omega)]
      by_cases c2 : S2.2.2 7 g = 0
      · rw [if_pos c2]
        have : gq M t n' = false := Bool.eq_false_iff.mpr (fun z => by
          obtain ⟨_, k, hk, b, c⟩ := (gq_iff M t n').mp z
          exact c ((a7 g hg).mp c2 k hk (b.trans eg)))
        rw [this]; rfl
      · rw [if_neg c2]
        have : gq M t n' = true := by
          apply Classical.byContradiction
          intro z
          apply c2
          rw [a7 g hg]
          intro k hk e
          apply Classical.byContradiction
          intro e2
          exact z ((gq_iff M t n').mpr ⟨c1, k, hk, e.trans eg.symm, e2⟩)
        rw [this]; rfl
theorem nar_b (b : Bool) : vp_nar .boolean (bI b) = bI b := by cases b <;> rfl
/-- a test is done: the class's states and the reference's behind it -/
theorem R2_done {S2 M : St} (hR : R2 S2 M) {n t : Nat} (h : M.1 24 = nI n) (hn10 : n ≤ 10) (ht : t < n) (hu : M.2.2 29 t = -9) (b : Bool) (o : Int32) (ho : o = 0 ∨ o = 1) {S2' M' : St}
    (i8 : S2'.1 8 = S2.1 8) (i9 : S2'.1 9 = S2.1 9 + 1) (j4 : M'.1 24 = M.1 24) (s0 : S2'.2.2 0 = S2.2.2 0) (s1 : S2'.2.2 1 = S2.2.2 1) (s2 : S2'.2.2 2 = S2.2.2 2) (s3 : S2'.2.2 3 = S2.2.2 3) (s4 : S2'.2.2 4 = S2.2.2 4) (s5 : S2'.2.2 5 = upd (S2.2.2 5) t o) (s6 : S2'.2.2 6 = upd (S2.2.2 6) t (bI b)) (s7 : ∀ q, q < 4 → S2'.2.2 7 q = if M.2.2 27 t = nI q then 1 else S2.2.2 7 q)
    (m3 : M'.2.2 23 = M.2.2 23) (m5 : M'.2.2 25 = M.2.2 25) (m6 : M'.2.2 26 = M.2.2 26) (m7 : M'.2.2 27 = M.2.2 27) (m8 : M'.2.2 28 = M.2.2 28) (m9 : M'.2.2 29 = upd (M.2.2 29) t o) (m0 : M'.2.2 30 = upd (M.2.2 30) t (bI b)) : R2 S2' M' := by
  obtain ⟨n', hn', a1, a2, a3, a4, a5, a6, a7, a8⟩ := hR
  have : n' = n := (nI_eq (by omega) (by omega)).mp (a2.symm.trans h)
  subst this
  refine ⟨n', hn', i8.trans a1, j4.trans a2, ?_, fun k hk => ?_, ?_, fun k hk1 hk2 => ?_, fun q hq => ?_, ?_⟩
  · rw [s0, m3]; exact a3
  · obtain ⟨t1, t2, t3, t4, t5, t6, t7, t8⟩ := a4 k hk
    unfold Te
    rw [s1, s2, s3, s5, s6, m5, m6, m7, m9, m0]
    unfold upd
    by_cases e : k = t
    · simp only [if_pos e]
      refine ⟨t1, t2, t3, t4, trivial, Or.inr ho, trivial, ?_⟩
      cases b
      · exact Or.inl rfl
      · exact Or.inr rfl
    · simp only [if_neg e]
      exact ⟨t1, t2, t3, t4, t5, t6, t7, t8⟩
  · rw [s4, m8]; exact a5
  · rw [s6]
    unfold upd
    rw [if_neg (by omega)]
    exact a6 k hk1 hk2
  · rw [s7 q hq, m7, m9]
    by_cases e : M.2.2 27 t = nI q
    · rw [if_pos e]
      refine ⟨fun z => absurd z (by decide), fun z => ?_⟩
      have := z t ht e
      rw [u_s] at this
      rcases ho with rfl | rfl
      · exact absurd this (by decide)
      · exact absurd this (by decide)
    · rw [if_neg e, a7 q hq]
      unfold upd
      constructor
      · intro g k hk e2
        by_cases e3 : k = t
        · exact absurd (e3 ▸ e2) e
        · rw [if_neg e3]; exact g k hk e2
      · intro g k hk e2
        have := g k hk e2
        by_cases e3 : k = t
        · exact absurd (e3 ▸ e2) e
        · rw [if_neg e3] at this; exact this
  · rw [i9, a8, m9]
    have e1 : (fun k => decide (upd (M.2.2 29) t o k ≠ -9)) = (fun k => if k = t then true else decide (M.2.2 29 k ≠ -9)) := by
      funext k
      unfold upd
      by_cases e : k = t
      · rw [if_pos e, if_pos e]
        rcases ho with rfl | rfl <;> decide
      · rw [if_neg e, if_neg e]
    have e2 := fb_ct_upd (fun k => decide (M.2.2 29 k ≠ -9)) true ht
    rw [if_neg (by simp [hu]), if_pos rfl, Nat.add_zero] at e2
    rw [e1, e2]
    exact nI_1 _
theorem sim_done {N : Nat} (hN : 2200 ≤ N) {S7 S5 S6 S2 S4 S3 S0 M : St} (h : Rel S7 S5 S6 S2 S4 S3 S0 M) (x1 x2 : Int32) : ∃ (r : Int32) (T2 T8 : St), f_X7_done N S7 S2 x1 x2 = some (r, T2) ∧ f_X8_done N M x1 x2 = some (r, T8) ∧ Rel S7 S5 S6 T2 S4 S3 S0 T8 := by
  obtain ⟨n, hn, a1, a2, a3, a4, a5, a6, a7, a8⟩ := id h.2.2.2.1
  unfold f_X7_done f_X8_done
  simp only [has2 a1 hn, isT8 a2 hn, Option.bind_some, bI_0, decide_eq_false_iff_not]
  by_cases c1 : 0 ≤ x1.toInt ∧ x1.toInt < (n : Int)
  · rw [inn c1, inn c1]
    obtain ⟨t, ht, rfl⟩ := ix_of c1.1 c1.2 (by omega)
    obtain ⟨t1, t2, t3, t4, t5, t6, t7, t8⟩ := id (a4 t ht)
    have i10 : inb (nI t) 10 = true := inb_nI (by omega) (by omega)
    have ct : (nI t).toNatClampNeg = t := cl_nI (by omega)
    unfold f_X2_isDone
    simp only [if_pos i10, ct, t5]
    by_cases c2 : M.2.2 29 t = -9
    · simp only [if_pos c2, Option.bind_some, if_true]
      unfold f_X2_finish
      rw [gd2 h.2.2.2.1 a2 hn ht, gd8 (by omega) a2 hn (by omega)]
      simp only [Option.bind_some, bI_0]
      obtain ⟨o, ho, eo⟩ : ∃ o : Int32, (o = 0 ∨ o = 1) ∧ o = if x2 = 0 then 0 else 1 := by
        by_cases c : x2 = 0
        · exact ⟨0, Or.inl rfl, (if_pos c).symm⟩
        · exact ⟨1, Or.inr rfl, (if_neg c).symm⟩
      obtain ⟨b, eb⟩ : ∃ b, b = !(gq M t n) := ⟨_, rfl⟩
      have f2 : (if gq M t n = false then f_X2_finish_18 N S2 (nI t) x2 1 (nI t) else f_X2_finish_18 N S2 (nI t) x2 0 (nI t)) = f_X2_finish_33 N (sA S2 6 (upd (S2.2.2 6) t (bI b))) (nI t) o (nI t) := by
        rw [eo]
        unfold f_X2_finish_18
        simp only [if_pos i10, ct]
        cases hg : gq M t n
        · rw [if_pos rfl, eb, hg]
          by_cases c : x2 = 0
          · rw [if_pos c, if_pos c]; rfl
          · rw [if_neg c, if_neg c]; rfl
        · rw [if_neg (by decide), eb, hg]
          by_cases c : x2 = 0
          · rw [if_pos c, if_pos c]; rfl
          · rw [if_neg c, if_neg c]; rfl
      have f8 : (if gq M t n = false then f_X8_done_42 N M (nI t) x2 1 (nI t) else f_X8_done_42 N M (nI t) x2 0 (nI t)) = f_X8_done_57 N (sA M 30 (upd (M.2.2 30) t (bI b))) (nI t) o (nI t) := by
        rw [eo]
        unfold f_X8_done_42
        simp only [if_pos i10, ct]
        cases hg : gq M t n
        · rw [if_pos rfl, eb, hg]
          by_cases c : x2 = 0
          · rw [if_pos c, if_pos c]; rfl
          · rw [if_neg c, if_neg c]; rfl
        · rw [if_neg (by decide), eb, hg]
          by_cases c : x2 = 0
          · rw [if_pos c, if_pos c]; rfl
          · rw [if_neg c, if_neg c]; rfl
      rw [f2, f8]
      have g8 : f_X8_done_57 N (sA M 30 (upd (M.2.2 30) t (bI b))) (nI t) o (nI t) = some (bI b, sA (sA M 30 (upd (M.2.2 30) t (bI b))) 29 (upd (M.2.2 29) t o)) := by
        unfold f_X8_done_57
        simp only [if_pos i10, ct]
        rw [show (sA M 30 (upd (M.2.2 30) t (bI b))).2.2 30 t = bI b from u_s _ _ _]
        cases b <;> rfl
      rw [g8]
      have e3 : ∀ S : St, S.2.2 3 t = M.2.2 27 t → (S.2.2 6 t = bI b) → f_X2_finish_33 N S (nI t) o (nI t) = some (bI b, sI (if M.2.2 27 t = -9 then sA S 5 (upd (S.2.2 5) t o) else sA (sA S 5 (upd (S.2.2 5) t o)) 7 (upd (S.2.2 7) (M.2.2 27 t).toNatClampNeg 1)) 9 (S.1 9 + 1)) := by
        intro S hS hb
        unfold f_X2_finish_33 f_X2_finish_57
        simp only [if_pos i10, ct, hS]
        by_cases c3 : M.2.2 27 t = -9
        · rw [if_pos c3, if_pos c3, show (sA S 5 (upd (S.2.2 5) t o)).2.2 6 t = bI b from hb, if_pos (bI_z b)]
          rfl
        · rw [if_neg c3, if_neg c3]
          rcases t4 with q | q
          · exact absurd q c3
          · rw [if_pos (inb_ok q.1 (by omega)), show (sA (sA S 5 (upd (S.2.2 5) t o)) 7 (upd (S.2.2 7) (M.2.2 27 t).toNatClampNeg (vp_nar .boolean 1))).2.2 6 t = bI b from hb, if_pos (bI_z b)]
            rfl
      rw [e3 (sA S2 6 (upd (S2.2.2 6) t (bI b))) t3 (u_s _ _ _)]
      simp only [Option.bind_some]
      have fin : ∀ T2 : St, (if bI b = 0 then some ((0 : Int32), T2) else some (1, T2)) = some (bI b, T2) := by
        intro T2
        cases b <;> rfl
      rw [fin]
      refine ⟨_, _, _, rfl, rfl, h.1, h.2.1, h.2.2.1, ?_, h.2.2.2.2⟩
      by_cases c3 : M.2.2 27 t = -9
      · rw [if_pos c3]
        refine R2_done h.2.2.2.1 a2 hn ht c2 b o ho rfl rfl rfl rfl rfl rfl rfl rfl rfl rfl (fun q hq => ?_) rfl rfl rfl rfl rfl rfl rfl
        rw [if_neg (fun e => by
          have e2 := congrArg Int32.toInt (e.symm.trans c3)
          rw [ti_nI (by omega), tl_m9] at e2
          omega)]
        rfl
      · rw [if_neg c3]
        refine R2_done h.2.2.2.1 a2 hn ht c2 b o ho rfl rfl rfl rfl rfl rfl rfl rfl rfl rfl (fun q hq => ?_) rfl rfl rfl rfl rfl rfl rfl
        show upd (S2.2.2 7) (M.2.2 27 t).toNatClampNeg 1 q = _
        unfold upd
        rcases t4 with z | z
        · exact absurd z c3
        · obtain ⟨g, hg, eg⟩ := ix_of (n := 4) z.1 (by omega) (by omega)
          rw [eg, cl_nI (by omega)]
          by_cases e : q = g
          · rw [if_pos e, if_pos (by rw [e])]
          · rw [if_neg e, if_neg (fun e2 => e ((nI_eq (by omega) (by omega)).mp e2).symm)]
    · simp only [if_neg c2, Option.bind_some, if_neg (show ¬ (1 : Int32) = 0 by decide)]
      exact ⟨_, _, _, rfl, rfl, h⟩
  · rw [inp c1, inp c1]
    exact ⟨_, _, _, rfl, rfl, h⟩
