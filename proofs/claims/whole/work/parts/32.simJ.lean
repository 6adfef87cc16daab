/-! the years of a proof -/
def lk (d h : Int32) : Int32 := if d ≤ h then 0 else d - h
theorem lack8 (N : Nat) (d h : Int32) : f_X8_lack N d h = some (lk d h) := by
  unfold f_X8_lack lk
  by_cases c : d ≤ h
  · rw [if_pos c, if_pos c]
  · rw [if_neg c, if_neg c]
theorem lk_max {d h : Int32} (d0 : 0 ≤ d.toInt) (h0 : 0 ≤ h.toInt) : (if 0 < d - h then d - h else 0) = lk d h := by
  have r1 := fb_rng d
  have r2 := fb_rng h
  have e : (d - h).toInt = d.toInt - h.toInt := fb_subI (by omega) (by omega)
  unfold lk
  simp only [fa_lt, fa_le, e, tl_0]
  by_cases c : d.toInt ≤ h.toInt
  · rw [if_neg (by omega), if_pos c]
  · rw [if_pos (by omega), if_neg c]
theorem lk_ti {d h : Int32} (d0 : 0 ≤ d.toInt) (h0 : 0 ≤ h.toInt) : (lk d h).toInt = if d.toInt ≤ h.toInt then 0 else d.toInt - h.toInt := by
  have r1 := fb_rng d
  have r2 := fb_rng h
  have e : (d - h).toInt = d.toInt - h.toInt := fb_subI (by omega) (by omega)
  unfold lk
  simp only [fa_le]
  by_cases c : d.toInt ≤ h.toInt
  · rw [if_pos c, if_pos c]; rfl
  · rw [if_neg c, if_neg c, e]
def fy (M : St) (p : Nat) : Int32 := if M.2.2 14 p = 1 then M.2.2 9 (M.2.2 18 p).toNatClampNeg else if M.2.2 14 p = 2 then M.2.2 18 p + lk (M.1 10) (M.2.2 19 p) else if M.2.2 14 p = 3 then (if srq M (M.2.2 20 p).toNatClampNeg (M.2.2 21 p).toNatClampNeg = true then M.2.2 18 p else 1000) else M.2.2 18 p
def ly (M : St) (p : Nat) : Int32 := if M.2.2 14 p = 1 then 2100 else if M.2.2 14 p = 2 then (if M.2.2 18 p + lk (M.1 11) (M.2.2 19 p) + M.1 12 < 2100 then M.2.2 18 p + lk (M.1 11) (M.2.2 19 p) + M.1 12 else 2100) else if M.2.2 14 p = 3 then (if srq M (M.2.2 20 p).toNatClampNeg (M.2.2 21 p).toNatClampNeg = true then M.2.2 19 p else 2100) else M.2.2 19 p
def Yr (N : Nat) (S5 S6 M : St) (p : Nat) : Prop := f_X5_firstYear N S5 S6 (nI p) = some (fy M p) ∧ f_X8_fromOf N M (nI p) = some (fy M p) ∧ f_X5_lastYear N S5 S6 (nI p) = some (ly M p) ∧ f_X8_toOf N M (nI p) = some (ly M p) ∧ 1000 ≤ (fy M p).toInt ∧ (fy M p).toInt ≤ (ly M p).toInt ∧ (ly M p).toInt ≤ 2100
theorem to110 {N : Nat} {M : St} {x : Int32} (h : x.toInt ≤ 2100) : f_X8_toOf_110 N M x = some x := by
  unfold f_X8_toOf_110
  rw [if_pos (by rw [fa_le]; exact h)]
theorem years {N : Nat} (hN : 50 ≤ N) {S5 S6 M : St} (h5 : R5 S5 M) (h6 : R6 S6 M) {n p : Nat} (hM : M.1 13 = nI n) (hn : n ≤ 24) (hp : p < n) : Yr N S5 S6 M p := by
  obtain ⟨n', hn', a1, a2, a3, ⟨k0, k1, k2, s1, s2, s3, s4, s5⟩, a5, a6⟩ := h5
  have : n' = n := (nI_eq (by omega) (by omega)).mp (a2.symm.trans hM)
  subst this
  have i24 : inb (nI p) 24 = true := inb_nI (by omega) (by omega)
  have ct : (nI p).toNatClampNeg = p := cl_nI (by omega)
  obtain ⟨p1, p2, p3, p4, p5, p6⟩ := a5 p hp
  unfold Yr f_X5_firstYear f_X8_fromOf f_X5_lastYear f_X8_toOf f_X8_toOf_99 fy ly
  simp only [if_pos i24, ct, p1]
  rcases p6 with ⟨kd, e1, e2, l1, l2, l3⟩ | ⟨kd, e1, l1, l2⟩ | ⟨kd, e1, e2, l1, l2, l3, l4⟩ | ⟨kd, e1, e2, e3, e4, l1, l2, l3, l4, l5, l6, l7, l8⟩
  · simp only [kd, if_neg (show ¬ (0 : Int32) = 1 by decide), if_neg (show ¬ (0 : Int32) = 2 by decide), if_neg (show ¬ (0 : Int32) = 3 by decide), e1, e2]
    exact ⟨trivial, trivial, trivial, to110 l3, l1, l2, l3⟩
  · obtain ⟨q, hq, eq⟩ := ix_of (n := 10) l1 (by omega) (by omega)
    simp only [kd, if_true, e1, eq, if_pos (inb_nI hq (show q ≤ 100000 by omega)), cl_nI (show q ≤ 100000 by omega), (a3 q hq).1]
    exact ⟨trivial, trivial, trivial, to110 (by decide), (a3 q hq).2.1, (a3 q hq).2.2, by decide⟩
  · unfold f_X5_lacking
    simp only [kd, if_neg (show ¬ (2 : Int32) = 1 by decide), if_true, if_pos i24, ct, e1, e2, k0, k1, k2, Option.bind_some, lack8, lk_max s1 l3, lk_max (show 0 ≤ (M.1 11).toInt by omega) l3]
    have q1 := lk_ti (d := M.1 10) s1 l3
    have q2 := lk_ti (d := M.1 11) (show 0 ≤ (M.1 11).toInt by omega) l3
    have b1 : 0 ≤ (lk (M.1 10) (M.2.2 19 p)).toInt ∧ (lk (M.1 10) (M.2.2 19 p)).toInt ≤ (lk (M.1 11) (M.2.2 19 p)).toInt ∧ (lk (M.1 11) (M.2.2 19 p)).toInt ≤ 60 := by
      rw [q1, q2]
      by_cases c1 : (M.1 10).toInt ≤ (M.2.2 19 p).toInt
      · rw [if_pos c1]
        by_cases c2 : (M.1 11).toInt ≤ (M.2.2 19 p).toInt
        · rw [if_pos c2]; omega
        · rw [if_neg c2]; omega
      · rw [if_neg c1, if_neg (by omega)]; omega
    have g1 : (M.2.2 18 p + lk (M.1 10) (M.2.2 19 p)).toInt = (M.2.2 18 p).toInt + (lk (M.1 10) (M.2.2 19 p)).toInt := fb_addI (by omega) (by omega)
    have g2 : (M.2.2 18 p + lk (M.1 11) (M.2.2 19 p)).toInt = (M.2.2 18 p).toInt + (lk (M.1 11) (M.2.2 19 p)).toInt := fb_addI (by omega) (by omega)
    have g3 : (M.2.2 18 p + lk (M.1 11) (M.2.2 19 p) + M.1 12).toInt = (M.2.2 18 p).toInt + (lk (M.1 11) (M.2.2 19 p)).toInt + (M.1 12).toInt := by
      rw [fb_addI (by omega) (by omega), g2]
    refine ⟨trivial, trivial, trivial, ?_, by omega, ?_, ?_⟩
    · unfold f_X8_toOf_110
      simp only [fa_le, fa_lt, g3, tl_2100]
      by_cases c : (M.2.2 18 p).toInt + (lk (M.1 11) (M.2.2 19 p)).toInt + (M.1 12).toInt < 2100
      · rw [if_pos (by omega), if_pos c]
      · rw [if_neg c]
        by_cases c2 : (M.2.2 18 p).toInt + (lk (M.1 11) (M.2.2 19 p)).toInt + (M.1 12).toInt ≤ 2100
        · rw [if_pos c2]
          refine congrArg some ((fa_eq _ _).mpr ?_)
          rw [g3, tl_2100]; omega
        · rw [if_neg c2]
    · simp only [fa_lt, g3, tl_2100]
      by_cases c : (M.2.2 18 p).toInt + (lk (M.1 11) (M.2.2 19 p)).toInt + (M.1 12).toInt < 2100
      · rw [if_pos c, g1, g3]; omega
      · rw [if_neg c, g1, tl_2100]; omega
    · simp only [fa_lt, g3, tl_2100]
      by_cases c : (M.2.2 18 p).toInt + (lk (M.1 11) (M.2.2 19 p)).toInt + (M.1 12).toInt < 2100
      · rw [if_pos c, g3]; omega
      · rw [if_neg c, tl_2100]; omega
  · obtain ⟨a, ha, ea⟩ := ix_of (x := M.2.2 20 p) (n := 6) l4 (by omega) (by omega)
    obtain ⟨b, hb, eb⟩ := ix_of (x := M.2.2 21 p) (n := 6) l6 (by omega) (by omega)
    simp only [kd, if_neg (show ¬ (3 : Int32) = 1 by decide), if_neg (show ¬ (3 : Int32) = 2 by decide), if_true, if_pos i24, ct, e1, e2, e3, e4, ea, eb, sure6 hN h6 ha hb, sure8 hN h6 ha hb, Option.bind_some, bI_0, cl_nI (show a ≤ 100000 by omega), cl_nI (show b ≤ 100000 by omega)]
    cases hs : srq M a b
    · simp only [if_true, if_neg (show ¬ false = true by decide)]
      exact ⟨trivial, trivial, trivial, to110 (by decide), by decide, by decide, by decide⟩
    · simp only [if_neg (show ¬ true = false by decide), if_true]
      exact ⟨trivial, trivial, trivial, to110 l3, l1, l2, l3⟩
theorem kn_all {N : Nat} {S5 M : St} (h5 : R5 S5 M) {n p : Nat} (hM : M.1 13 = nI n) (hn : n ≤ 24) (hp : p < n) (day : Int32) : ∃ b : Bool, f_X5_isKnown N S5 (nI p) day = some (bI b) ∧ f_X8_isKnown N M (nI p) day = some (bI b) ∧ b = decide (¬ day < M.2.2 16 p ∧ (M.2.2 17 p = -9 ∨ ¬ M.2.2 17 p ≤ day)) := by
  obtain ⟨n', hn', a1, a2, a3, -, a5, a6⟩ := h5
  have : n' = n := (nI_eq (by omega) (by omega)).mp (a2.symm.trans hM)
  subst this
  have i24 : inb (nI p) 24 = true := inb_nI (by omega) (by omega)
  have ct : (nI p).toNatClampNeg = p := cl_nI (by omega)
  obtain ⟨p1, p2, p3, p4, p5, p6⟩ := a5 p hp
  unfold f_X5_isKnown f_X5_isKnown_28 f_X5_isStruck f_X8_isKnown f_X8_isKnown_31
  simp only [if_pos i24, ct, p4, p5]
  refine ⟨_, ?_, ?_, rfl⟩
  · by_cases c1 : day < M.2.2 16 p
    · rw [if_pos c1, decide_eq_false (fun z => z.1 c1)]; rfl
    · rw [if_neg c1]
      by_cases c2 : M.2.2 17 p = -9
      · rw [if_pos c2, decide_eq_true ⟨c1, Or.inl c2⟩]; rfl
      · rw [if_neg c2]
        simp only [Option.bind_some, if_neg (show ¬ (1 : Int32) = 0 by decide)]
        by_cases c3 : M.2.2 17 p ≤ day
        · rw [if_pos c3, decide_eq_false (fun z => z.2.elim c2 (fun q => q c3))]; rfl
        · rw [if_neg c3, decide_eq_true ⟨c1, Or.inr c3⟩]; rfl
  · by_cases c1 : day < M.2.2 16 p
    · rw [if_pos c1, decide_eq_false (fun z => z.1 c1)]; rfl
    · rw [if_neg c1]
      by_cases c2 : M.2.2 17 p = -9
      · rw [if_pos c2, decide_eq_true ⟨c1, Or.inl c2⟩]; rfl
      · rw [if_neg c2]
        by_cases c3 : M.2.2 17 p ≤ day
        · rw [if_pos c3, decide_eq_false (fun z => z.2.elim c2 (fun q => q c3))]; rfl
        · rw [if_neg c3, decide_eq_true ⟨c1, Or.inr c3⟩]; rfl
