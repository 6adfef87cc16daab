/-! sure -/
def sok (M : St) (a b k : Nat) : Bool := decide (k = a) || decide (k = b) || !(mm M a k) || decide (bo M a b < bo M a k)
def sq (M : St) (a b : Nat) : Nat → Bool
  | 0 => true
  | k + 1 => sq M a b k && sok M a b k
theorem sq_mono (M : St) (a b : Nat) : ∀ {c k : Nat}, sq M a b k = false → sq M a b (k + c) = false
  | 0, _, h => h
  | c + 1, k, h => by
    show (sq M a b (k + c) && _) = false
    rw [sq_mono M a b h, Bool.false_and]
def srq (M : St) (a b : Nat) : Bool := mm M a b && sq M a b 6
theorem sure6L {N : Nat} (hN : 50 ≤ N) {S6 M : St} (h : R6 S6 M) {a b : Nat} (ha : a < 6) (hb : b < 6) : ∀ (c q k : Nat), k + c = 6 → c < q → sq M a b k = true → f_X6_isSure_27 N S6 q (nI a) (nI b) (bo M a b) (nI k) = some (bI (sq M a b 6)) := by
  intro c
  induction c with
  | zero =>
    intro q k hk hq g
    obtain ⟨q, rfl⟩ : ∃ z, q = z + 1 := ⟨q - 1, by omega⟩
    have : k = 6 := by omega
    subst this
    show f_X6_isSure_27_b N S6 (fun y0 y1 y2 y3 => f_X6_isSure_27 N S6 q y0 y1 y2 y3) (nI a) (nI b) (bo M a b) (nI 6) = _
    unfold f_X6_isSure_27_b
    rw [if_pos (show (6 : Int32) ≤ nI 6 by decide), g]
    rfl
  | succ c ih =>
    intro q k hk hq g
    obtain ⟨q, rfl⟩ : ∃ z, q = z + 1 := ⟨q - 1, by omega⟩
    show f_X6_isSure_27_b N S6 (fun y0 y1 y2 y3 => f_X6_isSure_27 N S6 q y0 y1 y2 y3) (nI a) (nI b) (bo M a b) (nI k) = _
    unfold f_X6_isSure_27_b f_X6_isSure_60 f_X6_isSure_61 f_X6_isSure_88
    rw [if_neg (show ¬ (6 : Int32) ≤ nI k from fun c => absurd ((nI_leI (a := 6) (by omega) (by omega)).mp c) (by omega))]
    simp only [eq_nI (show k ≤ 100000 by omega) (show a ≤ 100000 by omega), eq_nI (show k ≤ 100000 by omega) (show b ≤ 100000 by omega), nI_1, if_true, may6 h ha (show k < 6 by omega), Option.bind_some, bI_0]
    have good : sok M a b k = true → f_X6_isSure_27 N S6 q (nI a) (nI b) (bo M a b) (nI (k + 1)) = some (bI (sq M a b 6)) := fun z => ih q (k + 1) (by omega) (by omega) (by
      show (sq M a b k && sok M a b k) = true
      rw [g, z]; rfl)
    by_cases c1 : k = a
    · rw [if_pos c1]; exact good (by unfold sok; simp [c1])
    · rw [if_neg c1]
      by_cases c2 : k = b
      · rw [if_pos c2]; exact good (by unfold sok; simp [c2])
      · rw [if_neg c2]
        by_cases c3 : mm M a k = false
        · rw [if_pos c3]; exact good (by unfold sok; simp [c3])
        · rw [if_neg c3, if_neg (show ¬ (1 : Int32) = 0 by decide)]
          have c3 : mm M a k = true := by simpa using c3
          obtain ⟨e1, e2, -, -⟩ := bo_all hN h ha (show k < 6 by omega) c3
          rw [e1]
          simp only [Option.bind_some]
          rw [e2]
          simp only [Option.bind_some]
          by_cases c4 : bo M a b < bo M a k
          · rw [if_pos c4]; exact good (by unfold sok; simp [c4])
          · rw [if_neg c4]
            have f : sq M a b (k + 1) = false := by
              show (sq M a b k && sok M a b k) = false
              have : sok M a b k = false := by unfold sok; simp [c1, c2, c3, c4]
              rw [this, Bool.and_false]
            have f6 := sq_mono M a b (c := c) f
            rw [show k + 1 + c = 6 by omega] at f6
            rw [f6]
            rfl
theorem sure6 {N : Nat} (hN : 50 ≤ N) {S6 M : St} (h : R6 S6 M) {a b : Nat} (ha : a < 6) (hb : b < 6) : f_X6_isSure N S6 (nI a) (nI b) = some (bI (srq M a b)) := by
  unfold f_X6_isSure srq
  rw [may6 h ha hb]
  simp only [Option.bind_some, bI_0]
  by_cases c : mm M a b = false
  · rw [if_pos c, c]; rfl
  · rw [if_neg c]
    have c : mm M a b = true := by simpa using c
    obtain ⟨e1, e2, -, -⟩ := bo_all hN h ha hb c
    rw [e1]
    simp only [Option.bind_some]
    rw [e2, c, Bool.true_and]
    simp only [Option.bind_some]
    exact sure6L hN h ha hb 6 N 0 (by omega) (by omega) rfl
theorem sure8 {N : Nat} (hN : 50 ≤ N) {S6 M : St} (h : R6 S6 M) {a b : Nat} (ha : a < 6) (hb : b < 6) : f_X8_isSure N M (nI a) (nI b) = some (bI (srq M a b)) := by
  unfold f_X8_isSure srq
  rw [may8 ha hb]
  simp only [Option.bind_some, bI_0]
  by_cases c : mm M a b = false
  · rw [if_pos c, c]; rfl
  · rw [if_neg c]
    have c : mm M a b = true := by simpa using c
    obtain ⟨-, -, e1, e2⟩ := bo_all hN h ha hb c
    rw [e1]
    simp only [Option.bind_some]
    rw [e2, c, Bool.true_and]
    simp only [Option.bind_some]
    refine lpN (fun q k z => f_X8_isSure_30 N M q (nI a) (nI b) (bo M a b) z (nI k)) (fun k => bI (sq M a b k)) 6 (some (bI (sq M a b 6))) ?_ ?_ 6 N 0 (by omega) (by omega)
    · intro q k hk
      show f_X8_isSure_30_b N M (fun y0 y1 y2 y3 y4 => f_X8_isSure_30 N M q y0 y1 y2 y3 y4) (nI a) (nI b) (bo M a b) (bI (sq M a b k)) (nI k) = f_X8_isSure_30 N M q (nI a) (nI b) (bo M a b) (bI (sq M a b k && sok M a b k)) (nI (k + 1))
      unfold f_X8_isSure_30_b f_X8_isSure_86 f_X8_isSure_87 f_X8_isSure_89
      rw [if_neg (show ¬ (6 : Int32) ≤ nI k from fun c => absurd ((nI_leI (a := 6) (by omega) (by omega)).mp c) (by omega))]
      simp only [eq_nI (show k ≤ 100000 by omega) (show a ≤ 100000 by omega), eq_nI (show k ≤ 100000 by omega) (show b ≤ 100000 by omega), nI_1, may8 ha (show k < 6 by omega), Option.bind_some, bI_0]
      by_cases c1 : k = a
      · rw [if_pos c1, show sok M a b k = true by unfold sok; simp [c1], Bool.and_true]
      · rw [if_neg c1]
        by_cases c2 : k = b
        · rw [if_pos c2, show sok M a b k = true by unfold sok; simp [c2], Bool.and_true]
        · rw [if_neg c2]
          by_cases c3 : mm M a k = false
          · rw [if_pos c3, show sok M a b k = true by unfold sok; simp [c3], Bool.and_true]
          · rw [if_neg c3]
            have c3 : mm M a k = true := by simpa using c3
            by_cases c5 : sq M a b k = false
            · rw [if_pos c5, c5, Bool.false_and]; rfl
            · rw [if_neg c5]
              have c5 : sq M a b k = true := by simpa using c5
              obtain ⟨-, -, e1, e2⟩ := bo_all hN h ha (show k < 6 by omega) c3
              rw [e1]
              simp only [Option.bind_some]
              rw [e2, c5, Bool.true_and]
              simp only [Option.bind_some]
              by_cases c4 : bo M a b < bo M a k
              · rw [if_neg (by rw [fa_le]; rw [fa_lt] at c4; omega), show sok M a b k = true by unfold sok; simp [c4]]; rfl
              · rw [if_pos (fa_of_nlt c4), show sok M a b k = false by unfold sok; simp [c1, c2, c3, c4]]; rfl
    · intro q
      show f_X8_isSure_30_b N M (fun y0 y1 y2 y3 y4 => f_X8_isSure_30 N M q y0 y1 y2 y3 y4) (nI a) (nI b) (bo M a b) (bI (sq M a b 6)) (nI 6) = _
      unfold f_X8_isSure_30_b
      rw [if_pos (show (6 : Int32) ≤ nI 6 by decide)]
      exact zb
theorem sim_sure {N : Nat} (hN : 2200 ≤ N) {S7 S5 S6 S2 S4 S3 S0 M : St} (h : Rel S7 S5 S6 S2 S4 S3 S0 M) (x1 x2 : Int32) : ∃ r : Int32, f_X7_sure N S7 S6 x1 x2 = some r ∧ f_X8_sure N M x1 x2 = some r := by
  unfold f_X7_sure f_X8_sure f_X8_sure_19
  rw [isRow8]
  simp only [areTwo7, isRow7, Option.bind_some, bI_0, decide_eq_false_iff_not]
  by_cases b1 : 0 ≤ x1.toInt ∧ x1.toInt ≤ 5
  · by_cases b2 : 0 ≤ x2.toInt ∧ x2.toInt ≤ 5
    · by_cases b3 : x1 = x2
      · rw [inn b1, inn b2, if_pos b3, inp (fun q => q.2.2 b3)]
        exact ⟨_, rfl, rfl⟩
      · rw [inn b1, inn b2, if_neg b3, inn (show (0 ≤ x1.toInt ∧ x1.toInt ≤ 5) ∧ (0 ≤ x2.toInt ∧ x2.toInt ≤ 5) ∧ x1 ≠ x2 from ⟨b1, b2, b3⟩)]
        obtain ⟨a, ha, rfl⟩ := ix_of (x := x1) (n := 6) b1.1 (by omega) (by omega)
        obtain ⟨b, hb, rfl⟩ := ix_of (x := x2) (n := 6) b2.1 (by omega) (by omega)
        rw [sure6 (by omega) h.2.2.1 ha hb, sure8 (by omega) h.2.2.1 ha hb]
        simp only [Option.bind_some]
        exact ⟨bI (srq M a b), by cases srq M a b <;> rfl, by cases srq M a b <;> rfl⟩
    · rw [inn b1, inp b2, inp (fun q => b2 q.2.1)]
      exact ⟨_, rfl, rfl⟩
  · rw [inp b1, inp (fun q => b1 q.1)]
    exact ⟨_, rfl, rfl⟩
theorem sim_match {N : Nat} (hN : 2200 ≤ N) {S7 S5 S6 S2 S4 S3 S0 M : St} (h : Rel S7 S5 S6 S2 S4 S3 S0 M) (x1 x2 : Int32) : ∃ (r : Int32) (T7 T8 : St), f_X7_match N S7 S6 x1 x2 = some (r, T7) ∧ f_X8_match N M x1 x2 = some (r, T8) ∧ Rel T7 S5 S6 S2 S4 S3 S0 T8 := by
  unfold f_X7_match f_X8_match f_X7_match_32 f_X8_match_39
  rw [isRow8]
  simp only [areTwo7, isRow7, Option.bind_some, bI_0, decide_eq_false_iff_not, ref7_1, ref8_1, ref7_5, ref8_5]
  by_cases b1 : 0 ≤ x1.toInt ∧ x1.toInt ≤ 5
  · by_cases b2 : 0 ≤ x2.toInt ∧ x2.toInt ≤ 5
    · by_cases b3 : x1 = x2
      · rw [inn b1, inn b2, if_pos b3, inp (fun q => q.2.2 b3)]
        exact ⟨_, _, _, rfl, rfl, h⟩
      · rw [inn b1, inn b2, if_neg b3, inn (show (0 ≤ x1.toInt ∧ x1.toInt ≤ 5) ∧ (0 ≤ x2.toInt ∧ x2.toInt ≤ 5) ∧ x1 ≠ x2 from ⟨b1, b2, b3⟩)]
        obtain ⟨a, ha, rfl⟩ := ix_of (x := x1) (n := 6) b1.1 (by omega) (by omega)
        obtain ⟨b, hb, rfl⟩ := ix_of (x := x2) (n := 6) b2.1 (by omega) (by omega)
        simp only [miss6 h.2.2.1 ha, miss6 h.2.2.1 hb, may6 h.2.2.1 ha hb, may8 ha hb, Option.bind_some, bI_0, decide_eq_false_iff_not, if_pos (inb_nI (show a < 6 by omega) (by omega)), if_pos (inb_nI (show b < 6 by omega) (by omega)), cl_nI (show a ≤ 100000 by omega), cl_nI (show b ≤ 100000 by omega), fa_lt, fa_le, tl_0]
        by_cases e1 : (M.2.2 6 a).toInt < 0
        · rw [inn e1, if_pos e1]
          exact ⟨_, _, _, rfl, rfl, Rel_ref h 1 1 (by omega)⟩
        · rw [inp e1, if_neg e1]
          by_cases e2 : (M.2.2 6 b).toInt < 0
          · rw [inn e2, if_neg (show ¬ 0 ≤ (M.2.2 6 b).toInt by omega)]
            exact ⟨_, _, _, rfl, rfl, Rel_ref h 1 1 (by omega)⟩
          · rw [inp e2, if_pos (show 0 ≤ (M.2.2 6 b).toInt by omega)]
            by_cases c : mm M a b = false
            · rw [if_pos c, if_pos c]
              exact ⟨_, _, _, rfl, rfl, Rel_ref h 5 5 (by omega)⟩
            · rw [if_neg c, if_neg c]
              have c : mm M a b = true := by simpa using c
              obtain ⟨q1, q2, q3, q4⟩ := bo_all (N := N) (by omega) h.2.2.1 ha hb c
              rw [q1, q3]
              simp only [Option.bind_some]
              rw [q2, q4]
              exact ⟨_, _, _, rfl, rfl, Rel_ask h _⟩
    · rw [inn b1, inp b2, inp (fun q => b2 q.2.1)]
      exact ⟨_, _, _, rfl, rfl, h⟩
  · rw [inp b1, inp (fun q => b1 q.1)]
    exact ⟨_, _, _, rfl, rfl, h⟩
