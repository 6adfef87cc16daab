/-! scores -/
def fac (M : St) (h t : Nat) : Int64 := if M.2.2 30 t = 0 then 1 else if M.2.2 29 t = 1 then Int32.toInt64 (M.2.2 28 (t * 4 + h)) else Int32.toInt64 (16 - M.2.2 28 (t * 4 + h))
def sc (M : St) (h : Nat) : Nat → Int64
  | 0 => Int32.toInt64 (M.2.2 23 h)
  | t + 1 => sc M h t * fac M h t
theorem score8 {N n : Nat} (hN : 50 ≤ N) {M : St} (hM : M.1 24 = nI n) (hn : n ≤ 10) {h : Nat} (hh : h < 4) : f_X8_scoreOf N M (nI h) = some (sc M h n) := by
  unfold f_X8_scoreOf
  rw [if_pos (inb_nI hh (by omega)), cl_nI (by omega)]
  refine lpN (fun q t x => f_X8_scoreOf_11 N M q (nI h) x (nI t)) (fun t => sc M h t) n (some (sc M h n)) ?_ ?_ n N 0 (by omega) (by omega)
  · intro q t ht
    show f_X8_scoreOf_11_b N M (fun y0 y1 y2 => f_X8_scoreOf_11 N M q y0 y1 y2) (nI h) (sc M h t) (nI t) = f_X8_scoreOf_11 N M q (nI h) (sc M h t * fac M h t) (nI (t + 1))
    unfold f_X8_scoreOf_11_b f_X8_scoreOf_71 fac
    simp only [hM, le_nI (show n ≤ 100000 by omega) (show t ≤ 100000 by omega), if_neg (show ¬ n ≤ t by omega), m4l, nI_add, if_pos (inb_nI (show t * 4 + h < 40 by omega) (by omega)), if_pos (inb_nI (show t < 10 by omega) (by omega)), cl_nI (show t ≤ 100000 by omega), cl_nI (show t * 4 + h ≤ 100000 by omega), nI_1]
    by_cases c : M.2.2 30 t = 0
    · rw [if_pos c, if_pos c]
    · rw [if_neg c, if_neg c]
      by_cases c2 : M.2.2 29 t = 1
      · rw [if_pos c2, if_pos c2]
      · rw [if_neg c2, if_neg c2]
  · intro q
    show f_X8_scoreOf_11_b N M (fun y0 y1 y2 => f_X8_scoreOf_11 N M q y0 y1 y2) (nI h) (sc M h n) (nI n) = _
    unfold f_X8_scoreOf_11_b
    simp only [hM, le_nI (show n ≤ 100000 by omega) (show n ≤ 100000 by omega), if_pos (Nat.le_refl n)]
theorem score2 {N n : Nat} (hN : 50 ≤ N) {S2 M : St} (hR : R2 S2 M) (hM : M.1 24 = nI n) (hn : n ≤ 10) {h : Nat} (hh : h < 4) : f_X2_score N S2 (nI h) = some (sc M h n) := by
  obtain ⟨n', hn', a1, a2, a3, a4, a5, -⟩ := hR
  have : n' = n := (nI_eq (by omega) (by omega)).mp (a2.symm.trans hM)
  subst this
  unfold f_X2_score
  rw [if_pos (inb_nI hh (by omega)), cl_nI (by omega), (a3 h hh).1]
  refine lpN (fun q t x => f_X2_score_11 N S2 q (nI h) x (nI t)) (fun t => sc M h t) n' (some (sc M h n')) ?_ ?_ n' N 0 (by omega) (by omega)
  · intro q t ht
    show f_X2_score_11_b N S2 (fun y0 y1 y2 => f_X2_score_11 N S2 q y0 y1 y2) (nI h) (sc M h t) (nI t) = f_X2_score_11 N S2 q (nI h) (sc M h t * fac M h t) (nI (t + 1))
    obtain ⟨t1, t2, t3, t4, t5, t6, t7, t8⟩ := a4 t ht
    unfold f_X2_score_11_b f_X2_score_67 f_X2_score_69 fac
    simp only [a1, le_nI (show n' ≤ 100000 by omega) (show t ≤ 100000 by omega), if_neg (show ¬ n' ≤ t by omega), m4r, nI_add, if_pos (inb_nI (show t * 4 + h < 40 by omega) (by omega)), if_pos (inb_nI (show t < 10 by omega) (by omega)), cl_nI (show t ≤ 100000 by omega), cl_nI (show t * 4 + h ≤ 100000 by omega), nI_1, t5, t7, (a5 (t * 4 + h) (by omega)).1]
    by_cases c : M.2.2 30 t = 0
    · rw [if_pos c, if_pos c, Int64.mul_one]
    · rw [if_neg c, if_neg c]
      by_cases c2 : M.2.2 29 t = 1
      · rw [if_pos c2, if_pos c2]
      · rw [if_neg c2, if_neg c2]
  · intro q
    show f_X2_score_11_b N S2 (fun y0 y1 y2 => f_X2_score_11 N S2 q y0 y1 y2) (nI h) (sc M h n') (nI n') = _
    unfold f_X2_score_11_b
    simp only [a1, le_nI (show n' ≤ 100000 by omega) (show n' ≤ 100000 by omega), if_pos (Nat.le_refl n')]
def al (M : St) (n : Nat) : Int64 := sc M 0 n + sc M 1 n + sc M 2 n + sc M 3 n
theorem all8 {N n : Nat} (hN : 50 ≤ N) {M : St} (hM : M.1 24 = nI n) (hn : n ≤ 10) : f_X8_allScores N M = some (al M n) := by
  unfold f_X8_allScores al
  rw [show (0 : Int32) = nI 0 from rfl, show (1 : Int32) = nI 1 from rfl, show (2 : Int32) = nI 2 from rfl, show (3 : Int32) = nI 3 from rfl]
  simp only [score8 hN hM hn (show 0 < 4 by omega), score8 hN hM hn (show 1 < 4 by omega), score8 hN hM hn (show 2 < 4 by omega), score8 hN hM hn (show 3 < 4 by omega), Option.bind_some]
def as4 (M : St) (n : Nat) : Nat → Int64
  | 0 => 0
  | k + 1 => as4 M n k + sc M k n
theorem all2 {N n : Nat} (hN : 50 ≤ N) {S2 M : St} (hR : R2 S2 M) (hM : M.1 24 = nI n) (hn : n ≤ 10) : f_X2_scoreOfAll N S2 = some (al M n) := by
  unfold f_X2_scoreOfAll
  have K := lpN (fun q k x => f_X2_scoreOfAll_4 N S2 q x (nI k)) (fun k => as4 M n k) 4 (some (as4 M n 4)) ?_ ?_ 4 N 0 (by omega) (by omega)
  · have e : as4 M n 4 = al M n := by
      show 0 + sc M 0 n + sc M 1 n + sc M 2 n + sc M 3 n = al M n
      rw [Int64.zero_add]
      rfl
    rw [← e]
    exact K
  · intro q k hk
    show f_X2_scoreOfAll_4_b N S2 (fun y0 y1 => f_X2_scoreOfAll_4 N S2 q y0 y1) (as4 M n k) (nI k) = f_X2_scoreOfAll_4 N S2 q (as4 M n k + sc M k n) (nI (k + 1))
    unfold f_X2_scoreOfAll_4_b
    rw [if_neg (show ¬ (4 : Int32) ≤ nI k from fun c => absurd ((nI_leI (a := 4) (by omega) (by omega)).mp c) (by omega)), score2 hN hR hM hn hk]
    simp only [Option.bind_some, nI_1]
  · intro q
    show f_X2_scoreOfAll_4_b N S2 (fun y0 y1 => f_X2_scoreOfAll_4 N S2 q y0 y1) (as4 M n 4) (nI 4) = _
    unfold f_X2_scoreOfAll_4_b
    rw [if_pos (show (4 : Int32) ≤ nI 4 by decide)]
theorem p16 {a b : Nat} (h : a ≤ b) : (16 : Int) ^ a ≤ 16 ^ b := by
  have := Nat.pow_le_pow_right (show 0 < 16 by omega) h
  exact_mod_cast this
/-- how great scores can be -/
theorem fac_b {S2 M : St} (hR : R2 S2 M) {n h t : Nat} (hM : M.1 24 = nI n) (hn : n ≤ 10) (hh : h < 4) (ht : t < n) : 0 ≤ (fac M h t).toInt ∧ (fac M h t).toInt ≤ 16 := by
  obtain ⟨n', hn', a1, a2, a3, a4, a5, -⟩ := hR
  have : n' = n := (nI_eq (by omega) (by omega)).mp (a2.symm.trans hM)
  subst this
  obtain ⟨-, b1, b2⟩ := a5 (t * 4 + h) (by omega)
  unfold fac
  by_cases c : M.2.2 30 t = 0
  · rw [if_pos c]; decide
  · rw [if_neg c]
    by_cases c2 : M.2.2 29 t = 1
    · rw [if_pos c2, Int32.toInt_toInt64]; exact ⟨b1, b2⟩
    · rw [if_neg c2, Int32.toInt_toInt64, fb_subI (by rw [tl_16]; omega) (by rw [tl_16]; omega), tl_16]; omega
theorem sc_b {S2 M : St} (hR : R2 S2 M) {n h : Nat} (hM : M.1 24 = nI n) (hn : n ≤ 10) (hh : h < 4) : ∀ t, t ≤ n → 0 ≤ (sc M h t).toInt ∧ (sc M h t).toInt ≤ 99 * (16 : Int) ^ t
  | 0, _ => by
    obtain ⟨n', hn', a1, a2, a3, -⟩ := hR
    obtain ⟨-, b1, b2⟩ := a3 h hh
    show 0 ≤ (Int32.toInt64 (M.2.2 23 h)).toInt ∧ (Int32.toInt64 (M.2.2 23 h)).toInt ≤ 99 * (16 : Int) ^ 0
    rw [Int32.toInt_toInt64]
    omega
  | t + 1, ht => by
    obtain ⟨i1, i2⟩ := sc_b hR hM hn hh t (by omega)
    obtain ⟨f1, f2⟩ := fac_b hR hM hn hh (show t < n by omega)
    have p : (16 : Int) ^ t ≤ 16 ^ 9 := p16 (show t ≤ 9 by omega)
    have m1 : 0 ≤ (sc M h t).toInt * (fac M h t).toInt := Int.mul_nonneg i1 f1
    have m2 : (sc M h t).toInt * (fac M h t).toInt ≤ (99 * (16 : Int) ^ t) * 16 := Int.mul_le_mul i2 f2 f1 (by have : (0 : Int) ≤ 16 ^ t := Int.pow_nonneg (by decide); omega)
    have e9 : (16 : Int) ^ 9 = 68719476736 := by decide
    show 0 ≤ (sc M h t * fac M h t).toInt ∧ (sc M h t * fac M h t).toInt ≤ 99 * (16 : Int) ^ (t + 1)
    rw [fb_mulL (by omega) (by omega), Int.pow_succ]
    omega
theorem sc_max {S2 M : St} (hR : R2 S2 M) {n h : Nat} (hM : M.1 24 = nI n) (hn : n ≤ 10) (hh : h < 4) : 0 ≤ (sc M h n).toInt ∧ (sc M h n).toInt ≤ 108851651149824 := by
  obtain ⟨i1, i2⟩ := sc_b hR hM hn hh n (Nat.le_refl n)
  have p : (16 : Int) ^ n ≤ 16 ^ 10 := p16 hn
  have e : (16 : Int) ^ 10 = 1099511627776 := by decide
  omega
theorem al_b {S2 M : St} (hR : R2 S2 M) {n : Nat} (hM : M.1 24 = nI n) (hn : n ≤ 10) : (al M n).toInt = (sc M 0 n).toInt + (sc M 1 n).toInt + (sc M 2 n).toInt + (sc M 3 n).toInt ∧ 0 ≤ (al M n).toInt ∧ (al M n).toInt ≤ 435406604599296 := by
  have b0 := sc_max hR hM hn (show 0 < 4 by omega)
  have b1 := sc_max hR hM hn (show 1 < 4 by omega)
  have b2 := sc_max hR hM hn (show 2 < 4 by omega)
  have b3 := sc_max hR hM hn (show 3 < 4 by omega)
  have e1 : (sc M 0 n + sc M 1 n).toInt = (sc M 0 n).toInt + (sc M 1 n).toInt := fb_addL (by omega) (by omega)
  have e2 : (sc M 0 n + sc M 1 n + sc M 2 n).toInt = (sc M 0 n).toInt + (sc M 1 n).toInt + (sc M 2 n).toInt := by rw [fb_addL (by omega) (by omega), e1]
  have e3 : (al M n).toInt = (sc M 0 n).toInt + (sc M 1 n).toInt + (sc M 2 n).toInt + (sc M 3 n).toInt := by
    unfold al
    rw [fb_addL (by omega) (by omega), e2]
  omega
/-- the likeliest -/
def bl (M : St) (n : Nat) : Nat → Nat
  | 0 => 0
  | k + 1 => if sc M (k + 1) n ≤ sc M (bl M n k) n then bl M n k else k + 1
theorem bl_le (M : St) (n : Nat) : ∀ k, bl M n k ≤ k
  | 0 => Nat.le_refl 0
  | k + 1 => by
    show (if sc M (k + 1) n ≤ sc M (bl M n k) n then bl M n k else k + 1) ≤ k + 1
    have := bl_le M n k
    by_cases c : sc M (k + 1) n ≤ sc M (bl M n k) n
    · rw [if_pos c]; omega
    · rw [if_neg c]; omega
theorem lik2 {N n : Nat} (hN : 50 ≤ N) {S2 M : St} (hR : R2 S2 M) (hM : M.1 24 = nI n) (hn : n ≤ 10) : f_X2_likeliest N S2 = some (nI (bl M n 3)) := by
  unfold f_X2_likeliest
  refine lpN (fun q k x => f_X2_likeliest_4 N S2 q x (nI (k + 1))) (fun k => nI (bl M n k)) 3 (some (nI (bl M n 3))) ?_ ?_ 3 N 0 (by omega) (by omega)
  · intro q k hk
    have l := bl_le M n k
    show f_X2_likeliest_4_b N S2 (fun y0 y1 => f_X2_likeliest_4 N S2 q y0 y1) (nI (bl M n k)) (nI (k + 1)) = f_X2_likeliest_4 N S2 q (nI (if sc M (k + 1) n ≤ sc M (bl M n k) n then bl M n k else k + 1)) (nI (k + 1 + 1))
    unfold f_X2_likeliest_4_b f_X2_likeliest_25
    rw [if_neg (show ¬ (4 : Int32) ≤ nI (k + 1) from fun c => absurd ((nI_leI (a := 4) (by omega) (by omega)).mp c) (by omega)), score2 hN hR hM hn (show k + 1 < 4 by omega), score2 hN hR hM hn (show bl M n k < 4 by omega)]
    simp only [Option.bind_some, nI_1, cl64]
    by_cases c : sc M (k + 1) n ≤ sc M (bl M n k) n
    · rw [if_pos c, if_pos c]
    · rw [if_neg c, if_neg c]
  · intro q
    show f_X2_likeliest_4_b N S2 (fun y0 y1 => f_X2_likeliest_4 N S2 q y0 y1) (nI (bl M n 3)) (nI 4) = _
    unfold f_X2_likeliest_4_b
    rw [if_pos (show (4 : Int32) ≤ nI 4 by decide)]
theorem lik8 {N n : Nat} (hN : 50 ≤ N) {M : St} (hM : M.1 24 = nI n) (hn : n ≤ 10) : f_X8_likely_19 N N M 0 1 = some (nI (bl M n 3), M) := by
  refine lpN (fun q k x => f_X8_likely_19 N q M x (nI (k + 1))) (fun k => nI (bl M n k)) 3 (some (nI (bl M n 3), M)) ?_ ?_ 3 N 0 (by omega) (by omega)
  · intro q k hk
    have l := bl_le M n k
    show f_X8_likely_19_b N (fun y0 y1 y2 => f_X8_likely_19 N q y0 y1 y2) M (nI (bl M n k)) (nI (k + 1)) = f_X8_likely_19 N q M (nI (if sc M (k + 1) n ≤ sc M (bl M n k) n then bl M n k else k + 1)) (nI (k + 1 + 1))
    unfold f_X8_likely_19_b f_X8_likely_43
    rw [if_neg (show ¬ (4 : Int32) ≤ nI (k + 1) from fun c => absurd ((nI_leI (a := 4) (by omega) (by omega)).mp c) (by omega)), score8 hN hM hn (show k + 1 < 4 by omega), score8 hN hM hn (show bl M n k < 4 by omega)]
    simp only [Option.bind_some, nI_1, cl64]
    by_cases c : sc M (k + 1) n ≤ sc M (bl M n k) n
    · rw [if_pos c, if_pos c]
    · rw [if_neg c, if_neg c]
  · intro q
    show f_X8_likely_19_b N (fun y0 y1 y2 => f_X8_likely_19 N q y0 y1 y2) M (nI (bl M n 3)) (nI 4) = _
    unfold f_X8_likely_19_b
    rw [if_pos (show (4 : Int32) ≤ nI 4 by decide)]
theorem sim_likely {N : Nat} (hN : 2200 ≤ N) {S7 S5 S6 S2 S4 S3 S0 M : St} (h : Rel S7 S5 S6 S2 S4 S3 S0 M) : ∃ (r : Int32) (T7 T8 : St), f_X7_likely N S7 S2 = some (r, T7) ∧ f_X8_likely N M = some (r, T8) ∧ Rel T7 S5 S6 S2 S4 S3 S0 T8 := by
  obtain ⟨n, hn, a1, a2, -⟩ := id h.2.2.2.1
  have hR := h.2.2.2.1
  unfold f_X7_likely f_X8_likely
  simp only [all2 (N := N) (by omega) hR a2 hn, all8 (N := N) (by omega) a2 hn, lik2 (N := N) (by omega) hR a2 hn, lik8 (N := N) (by omega) a2 hn, Option.bind_some, ref7_4, ref8_4]
  by_cases c : lg_cmp (al M n) 0 = 0
  · rw [if_pos c, if_pos c]
    exact ⟨_, _, _, rfl, rfl, Rel_ref h 4 4 (by omega)⟩
  · rw [if_neg c, if_neg c]
    exact ⟨_, _, _, rfl, rfl, h⟩
