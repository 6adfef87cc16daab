/-! told, mark -/
theorem rng6 {x : Int32} (h : 0 ≤ x.toInt ∧ x.toInt ≤ 5) : x = 0 ∨ x = 1 ∨ x = 2 ∨ x = 3 ∨ x = 4 ∨ x = 5 := by
  obtain ⟨k, hk, rfl⟩ := ix_of (n := 6) h.1 (by omega) (by omega)
  rcases (show k = 0 ∨ k = 1 ∨ k = 2 ∨ k = 3 ∨ k = 4 ∨ k = 5 by omega) with rfl | rfl | rfl | rfl | rfl | rfl
  · exact Or.inl rfl
  · exact Or.inr (Or.inl rfl)
  · exact Or.inr (Or.inr (Or.inl rfl))
  · exact Or.inr (Or.inr (Or.inr (Or.inl rfl)))
  · exact Or.inr (Or.inr (Or.inr (Or.inr (Or.inl rfl))))
  · exact Or.inr (Or.inr (Or.inr (Or.inr (Or.inr rfl))))
def dt (M : St) (p : Nat) (w : Int32) : Int32 := if w = 0 then M.2.2 14 p else if w = 1 then M.2.2 15 p else if w = 2 then M.2.2 16 p else if w = 3 then M.2.2 17 p else if w = 4 then fy M p else ly M p
theorem dt_all {N : Nat} (hN : 50 ≤ N) {S5 S6 M : St} (h5 : R5 S5 M) (h6 : R6 S6 M) {n p : Nat} (hM : M.1 13 = nI n) (hn : n ≤ 24) (hp : p < n) (w : Int32) : f_X5_detail N S5 S6 (nI p) w = some (dt M p w) ∧ f_X8_toldOf N M (nI p) w = some (dt M p w) := by
  obtain ⟨y1, y2, y3, y4, -⟩ := years hN h5 h6 hM hn hp
  obtain ⟨n', hn', a1, a2, a3, -, a5, a6⟩ := h5
  have : n' = n := (nI_eq (by omega) (by omega)).mp (a2.symm.trans hM)
  subst this
  have i24 : inb (nI p) 24 = true := inb_nI (by omega) (by omega)
  have ct : (nI p).toNatClampNeg = p := cl_nI (by omega)
  obtain ⟨p1, p2, p3, p4, p5, p6⟩ := a5 p hp
  unfold f_X5_detail f_X8_toldOf dt
  simp only [if_pos i24, ct, p1, p2, p4, p5, y1, y2, y3, y4, Option.bind_some]
  by_cases c0 : w = 0
  · simp only [if_pos c0]; exact ⟨trivial, trivial⟩
  · by_cases c1 : w = 1
    · simp only [if_neg c0, if_pos c1]; exact ⟨trivial, trivial⟩
    · by_cases c2 : w = 2
      · simp only [if_neg c0, if_neg c1, if_pos c2]; exact ⟨trivial, trivial⟩
      · by_cases c3 : w = 3
        · simp only [if_neg c0, if_neg c1, if_neg c2, if_pos c3]; exact ⟨trivial, trivial⟩
        · by_cases c4 : w = 4
          · simp only [if_neg c0, if_neg c1, if_neg c2, if_neg c3, if_pos c4]; exact ⟨trivial, trivial⟩
          · simp only [if_neg c0, if_neg c1, if_neg c2, if_neg c3, if_neg c4]; exact ⟨trivial, trivial⟩
theorem sim_told {N : Nat} (hN : 2200 ≤ N) {S7 S5 S6 S2 S4 S3 S0 M : St} (h : Rel S7 S5 S6 S2 S4 S3 S0 M) (x1 x2 : Int32) : ∃ r : Int32, f_X7_told N S7 S5 S6 x1 x2 = some r ∧ f_X8_told N M x1 x2 = some r := by
  obtain ⟨n, hn, a1, a2, -⟩ := id h.2.1
  unfold f_X7_told f_X8_told
  rw [in8]
  simp only [has5 a1 hn, isP8 a2 hn, isW, Option.bind_some, bI_0, decide_eq_false_iff_not, tl_0, tl_5]
  by_cases c1 : 0 ≤ x1.toInt ∧ x1.toInt < (n : Int)
  · rw [inn c1, inn c1]
    by_cases c2 : 0 ≤ x2.toInt ∧ x2.toInt ≤ 5
    · rw [inn c2, inn c2]
      obtain ⟨p, hp, rfl⟩ := ix_of c1.1 c1.2 (by omega)
      obtain ⟨e1, e2⟩ := dt_all (N := N) (by omega) h.2.1 h.2.2.1 a2 hn hp x2
      rw [e1, e2]
      exact ⟨_, rfl, rfl⟩
    · rw [inp c2, inp c2]
      exact ⟨_, rfl, rfl⟩
  · rw [inp c1, inp c1]
    exact ⟨_, rfl, rfl⟩
theorem sim_mark {N : Nat} (hN : 2200 ≤ N) {S7 S5 S6 S2 S4 S3 S0 M : St} (h : Rel S7 S5 S6 S2 S4 S3 S0 M) (x1 x2 : Int32) : ∃ (r : Int32) (T7 T8 : St), f_X7_mark N S7 S5 S6 x1 x2 = some (r, T7) ∧ f_X8_mark N M x1 x2 = some (r, T8) ∧ Rel T7 S5 S6 S2 S4 S3 S0 T8 := by
  obtain ⟨n, hn, a1, a2, a3, -, a5, a6⟩ := id h.2.1
  unfold f_X7_mark f_X8_mark
  rw [in8]
  simp only [has5 a1 hn, isP8 a2 hn, isW, Option.bind_some, bI_0, decide_eq_false_iff_not, tl_0, tl_3, ref7_3, ref8_3]
  by_cases c1 : 0 ≤ x1.toInt ∧ x1.toInt < (n : Int)
  · rw [inn c1, inn c1]
    by_cases c2 : 0 ≤ x2.toInt ∧ x2.toInt ≤ 3
    · rw [inn c2, inn c2]
      obtain ⟨p, hp, rfl⟩ := ix_of c1.1 c1.2 (by omega)
      have i24 : inb (nI p) 24 = true := inb_nI (by omega) (by omega)
      have ct : (nI p).toNatClampNeg = p := cl_nI (by omega)
      obtain ⟨p1, p2, p3, p4, p5, p6⟩ := a5 p hp
      obtain ⟨y1, y2, y3, y4, -⟩ := years (N := N) (by omega) h.2.1 h.2.2.1 a2 hn hp
      unfold f_X5_isOfKind f_X5_isOfKind_14 f_X5_markAs
      simp only [if_pos i24, ct, p1, y1, y2, y3, y4, Option.bind_some]
      by_cases k0 : x2 = 0
      · subst k0
        simp only [if_true, Option.bind_some, if_neg (show ¬ (1 : Int32) = 0 by decide), if_neg (show ¬ (0 : Int32) = 1 by decide), if_neg (show ¬ (0 : Int32) = 2 by decide), if_neg (show ¬ (0 : Int32) = 3 by decide)]
        exact ⟨_, _, _, rfl, rfl, h⟩
      · simp only [if_neg k0]
        by_cases k1 : x2 = M.2.2 14 p
        · rw [if_pos k1, if_pos k1.symm]
          simp only [Option.bind_some, if_neg (show ¬ (1 : Int32) = 0 by decide)]
          rcases p6 with ⟨kd, e1, e2, l1, l2, l3⟩ | ⟨kd, e1, l1, l2⟩ | ⟨kd, e1, e2, l1, l2, l3, l4⟩ | ⟨kd, e1, e2, e3, e4, l1, l2, l3, l4, l5, l6, l7, l8⟩
          · exact absurd (k1.trans kd) k0
          · have k1 := k1.trans kd
            subst k1
            simp only [if_true, e1]
            exact ⟨_, _, _, rfl, rfl, h⟩
          · have k1 := k1.trans kd
            subst k1
            simp only [if_true, if_neg (show ¬ (2 : Int32) = 1 by decide), e2]
            exact ⟨_, _, _, rfl, rfl, h⟩
          · have k1 := k1.trans kd
            subst k1
            obtain ⟨a, ha, ea⟩ := ix_of (x := M.2.2 20 p) (n := 6) l4 (by omega) (by omega)
            obtain ⟨b, hb, eb⟩ := ix_of (x := M.2.2 21 p) (n := 6) l6 (by omega) (by omega)
            simp only [if_true, if_neg (show ¬ (3 : Int32) = 1 by decide), if_neg (show ¬ (3 : Int32) = 2 by decide), e3, e4, ea, eb, sure6 (show 50 ≤ N by omega) h.2.2.1 ha hb, sure8 (show 50 ≤ N by omega) h.2.2.1 ha hb, Option.bind_some]
            cases srq M a b
            · exact ⟨_, _, _, rfl, rfl, h⟩
            · exact ⟨_, _, _, rfl, rfl, h⟩
        · rw [if_neg k1, if_neg (show ¬ M.2.2 14 p = x2 from fun e => k1 e.symm)]
          simp only [Option.bind_some, if_true]
          exact ⟨_, _, _, rfl, rfl, Rel_ref h 3 3 (by omega)⟩
    · rw [inp c2, inp c2]
      exact ⟨_, _, _, rfl, rfl, h⟩
  · rw [inp c1, inp c1]
    exact ⟨_, _, _, rfl, rfl, h⟩
/-! what is known -/
def kb (M : St) (day : Int32) (p : Nat) : Bool := decide (¬ day < M.2.2 16 p ∧ (M.2.2 17 p = -9 ∨ ¬ M.2.2 17 p ≤ day))
theorem kn2 {N : Nat} {S5 M : St} (h5 : R5 S5 M) {n p : Nat} (hM : M.1 13 = nI n) (hn : n ≤ 24) (hp : p < n) (day : Int32) : f_X5_isKnown N S5 (nI p) day = some (bI (kb M day p)) ∧ f_X8_isKnown N M (nI p) day = some (bI (kb M day p)) := by
  obtain ⟨b, e1, e2, e3⟩ := kn_all (N := N) h5 hM hn hp day
  subst e3
  exact ⟨e1, e2⟩
/-- the class's list of the known ones, up to a proof -/
def Kn (S1 M : St) (day : Int32) (n : Nat) : Prop := S1.1 4 = nI (fb_ct (kb M day) n) ∧ ∀ p, p < n → kb M day p = true → S1.2.2 0 (fb_ct (kb M day) p) = nI p ∧ S1.2.2 1 (fb_ct (kb M day) p) = fy M p ∧ S1.2.2 2 (fb_ct (kb M day) p) = ly M p ∧ S1.2.2 3 (fb_ct (kb M day) p) = M.2.2 15 p
theorem gath {N : Nat} (hN : 50 ≤ N) {S5 S6 M : St} (h5 : R5 S5 M) (h6 : R6 S6 M) {n : Nat} (hM : M.1 13 = nI n) (hS : S5.1 13 = nI n) (hn : n ≤ 24) (S1 : St) (day : Int32) : ∃ T1 : St, f_X5_gather N S5 S6 S1 day = some T1 ∧ Kn T1 M day n := by
  unfold f_X5_gather
  have L : ∀ (c q k : Nat) (T : St), k + c = n → c < q → Kn T M day k → ∃ T1 : St, f_X5_gather_7 N S5 S6 q T day (nI k) = some T1 ∧ Kn T1 M day n := by
    intro c
    induction c with
    | zero =>
      intro q k T hk hq g
      obtain ⟨q, rfl⟩ : ∃ z, q = z + 1 := ⟨q - 1, by omega⟩
      have : k = n := by omega
      subst this
      refine ⟨T, ?_, g⟩
      show f_X5_gather_7_b N S5 S6 (fun y0 y1 y2 => f_X5_gather_7 N S5 S6 q y0 y1 y2) T day (nI k) = _
      unfold f_X5_gather_7_b
      simp only [hS, le_nI (show k ≤ 100000 by omega) (show k ≤ 100000 by omega), if_pos (Nat.le_refl k)]
    | succ c ih =>
      intro q k T hk hq g
      obtain ⟨q, rfl⟩ : ∃ z, q = z + 1 := ⟨q - 1, by omega⟩
      obtain ⟨y1, y2, y3, y4, -⟩ := years (N := N) hN h5 h6 hM hn (show k < n by omega)
      have ek := (kn2 (N := N) h5 hM hn (show k < n by omega) day).1
      show ∃ T1, f_X5_gather_7_b N S5 S6 (fun y0 y1 y2 => f_X5_gather_7 N S5 S6 q y0 y1 y2) T day (nI k) = some T1 ∧ _
      unfold f_X5_gather_7_b f_X5_gather_45
      simp only [hS, le_nI (show n ≤ 100000 by omega) (show k ≤ 100000 by omega), if_neg (show ¬ n ≤ k by omega), ek, Option.bind_some, bI_0, y1, y3, if_pos (inb_nI (show k < 24 by omega) (by omega)), cl_nI (show k ≤ 100000 by omega), nI_1]
      cases hk2 : kb M day k
      · rw [if_pos rfl]
        refine ih q (k + 1) T (by omega) (by omega) ⟨?_, fun p hp hb => ?_⟩
        · rw [g.1, fb_ct_succ, hk2, if_neg (by decide), Nat.add_zero]
        · by_cases e : p = k
          · subst e; rw [hk2] at hb; cases hb
          · exact g.2 p (by omega) hb
      · rw [if_neg (by decide)]
        have hc : fb_ct (kb M day) k ≤ k := fb_ct_le _ _
        obtain ⟨n', hn', b1, b2, b3, -, b5, b6⟩ := id h5
        have e9 : n' = n := (nI_eq (by omega) (by omega)).mp (b2.symm.trans hM)
        subst e9
        obtain ⟨p1, p2, -⟩ := b5 k (by omega)
        unfold f_X1_add
        simp only [g.1, if_pos (inb_nI (show fb_ct (kb M day) k < 24 by omega) (by omega)), cl_nI (show fb_ct (kb M day) k ≤ 100000 by omega), Option.bind_some, nI_1, p2]
        refine ih q (k + 1) _ (by omega) (by omega) ⟨?_, fun p hp hb => ?_⟩
        · show nI (fb_ct (kb M day) k + 1) = nI (fb_ct (kb M day) (k + 1))
          rw [fb_ct_succ, hk2, if_pos rfl]
        · by_cases e : p = k
          · subst e
            exact ⟨u_s _ _ _, u_s _ _ _, u_s _ _ _, u_s _ _ _⟩
          · have lt : fb_ct (kb M day) p < fb_ct (kb M day) k := by
              have m1 := fb_ct_mono (kb M day) (show p + 1 ≤ k by omega)
              rw [fb_ct_succ, hb, if_pos rfl] at m1
              omega
            obtain ⟨q1, q2, q3, q4⟩ := g.2 p (by omega) hb
            have ne : fb_ct (kb M day) p ≠ fb_ct (kb M day) k := by omega
            exact ⟨(if_neg ne).trans q1, (if_neg ne).trans q2, (if_neg ne).trans q3, (if_neg ne).trans q4⟩
  exact L n N 0 (sI S1 4 0) (by omega) (by omega) ⟨rfl, fun p hp => absurd hp (Nat.not_lt_zero p)⟩
