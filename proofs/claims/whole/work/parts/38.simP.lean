/-! the next test -/
def bst (M : St) (n : Nat) (x1 x2 : Int32) (k : Nat) (b : Int32) : Int32 :=
  if opn M k n = false then b else if x1 < M.2.2 25 k then b else if x2 < M.2.2 26 k then b else if b = -9 then nI k
  else if gn M n b.toNatClampNeg < gn M n k then nI k else if gn M n k = gn M n b.toNatClampNeg then (if M.2.2 25 b.toNatClampNeg ≤ M.2.2 25 k then b else nI k) else b
def bs (M : St) (n : Nat) (x1 x2 : Int32) : Nat → Int32
  | 0 => -9
  | k + 1 => bst M n x1 x2 k (bs M n x1 x2 k)
theorem bs_in (M : St) (n : Nat) (x1 x2 : Int32) : ∀ k, bs M n x1 x2 k = -9 ∨ ∃ j, j < k ∧ bs M n x1 x2 k = nI j
  | 0 => Or.inl rfl
  | k + 1 => by
    have i : bs M n x1 x2 k = -9 ∨ ∃ j, j < k + 1 ∧ bs M n x1 x2 k = nI j := by
      rcases bs_in M n x1 x2 k with i | ⟨j, hj, e⟩
      · exact Or.inl i
      · exact Or.inr ⟨j, by omega, e⟩
    have o : (nI k : Int32) = -9 ∨ ∃ j, j < k + 1 ∧ nI k = nI j := Or.inr ⟨k, by omega, rfl⟩
    show bst M n x1 x2 k (bs M n x1 x2 k) = -9 ∨ ∃ j, j < k + 1 ∧ bst M n x1 x2 k (bs M n x1 x2 k) = nI j
    unfold bst
    split
    · exact i
    split
    · exact i
    split
    · exact i
    split
    · exact o
    split
    · exact o
    split
    · split
      · exact i
      · exact o
    · exact i
def mo (M : St) (n : Nat) (b : Int32) : Int64 := if b = -9 then 0 else gn M n b.toNatClampNeg
theorem nI_m9 {j : Nat} (hj : j ≤ 100000) : ¬ nI j = (-9 : Int32) := by
  rw [fa_eq, ti_nI hj, tl_m9]; omega
theorem bnx2 {N n : Nat} (hN : 50 ≤ N) {S2 M : St} (hR : R2 S2 M) (hM : M.1 24 = nI n) (hn : n ≤ 10) (x1 x2 : Int32) : f_X2_best N S2 x1 x2 = some (bs M n x1 x2 n) := by
  have hh : S2.1 8 = nI n ∧ ∀ t, t < n → S2.2.2 1 t = M.2.2 25 t ∧ S2.2.2 2 t = M.2.2 26 t := by
    obtain ⟨n', hn', a1, a2, a3, a4, -⟩ := hR
    have : n' = n := (nI_eq (by omega) (by omega)).mp (a2.symm.trans hM)
    subst this
    exact ⟨a1, fun t ht => ⟨(a4 t ht).1, (a4 t ht).2.1⟩⟩
  obtain ⟨a1, a4⟩ := hh
  unfold f_X2_best
  refine lpN (fun q k (x : Int32 × Int64) => f_X2_best_9 N S2 q x1 x2 x.1 x.2 (nI k)) (fun k => (bs M n x1 x2 k, mo M n (bs M n x1 x2 k))) n (some (bs M n x1 x2 n)) ?_ ?_ n N 0 (by omega) (by omega)
  · intro q k hk
    show f_X2_best_9_b N S2 (fun y0 y1 y2 y3 y4 => f_X2_best_9 N S2 q y0 y1 y2 y3 y4) x1 x2 (bs M n x1 x2 k) (mo M n (bs M n x1 x2 k)) (nI k) = f_X2_best_9 N S2 q x1 x2 (bst M n x1 x2 k (bs M n x1 x2 k)) (mo M n (bst M n x1 x2 k (bs M n x1 x2 k))) (nI (k + 1))
    have hb := bs_in M n x1 x2 k
    generalize bs M n x1 x2 k = b at hb
    obtain ⟨t1, t2⟩ := a4 k hk
    unfold f_X2_best_9_b f_X2_best_95 f_X2_best_102
    simp only [a1, le_nI (show n ≤ 100000 by omega) (show k ≤ 100000 by omega), if_neg (show ¬ n ≤ k by omega), open2 hR hM hn hk, Option.bind_some, bI_0, if_pos (inb_nI (show k < 10 by omega) (by omega)), cl_nI (show k ≤ 100000 by omega), t1, t2, gain2 hN hR hM hn hk, nI_1, cm64, ce64]
    have mk : mo M n (nI k) = gn M n k := by
      unfold mo
      rw [if_neg (nI_m9 (by omega)), cl_nI (by omega)]
    unfold bst
    by_cases c1 : opn M k n = false
    · rw [if_pos c1, if_pos c1]
    rw [if_neg c1, if_neg c1]
    by_cases c2 : x1 < M.2.2 25 k
    · rw [if_pos c2, if_pos c2]
    rw [if_neg c2, if_neg c2]
    by_cases c3 : x2 < M.2.2 26 k
    · rw [if_pos c3, if_pos c3]
    rw [if_neg c3, if_neg c3]
    by_cases c4 : b = -9
    · rw [if_pos c4, if_pos c4, mk]
    rw [if_neg c4, if_neg c4]
    rcases hb with hb | ⟨j, hj, rfl⟩
    · exact absurd hb c4
    have mj : mo M n (nI j) = gn M n j := by
      unfold mo
      rw [if_neg c4, cl_nI (by omega)]
    simp only [mj, cl_nI (show j ≤ 100000 by omega), if_pos (inb_nI (show j < 10 by omega) (by omega)), (a4 j (by omega)).1]
    by_cases c5 : gn M n j < gn M n k
    · rw [if_pos c5, if_pos c5, mk]
    rw [if_neg c5, if_neg c5]
    by_cases c6 : gn M n k = gn M n j
    · rw [if_pos c6, if_pos c6]
      by_cases c7 : M.2.2 25 j ≤ M.2.2 25 k
      · rw [if_pos c7, if_pos c7, mj]
      · rw [if_neg c7, if_neg c7, mk]
    · rw [if_neg c6, if_neg c6, mj]
  · intro q
    dsimp only
    generalize mo M n (bs M n x1 x2 n) = m
    show f_X2_best_9_b N S2 (fun y0 y1 y2 y3 y4 => f_X2_best_9 N S2 q y0 y1 y2 y3 y4) x1 x2 (bs M n x1 x2 n) m (nI n) = _
    unfold f_X2_best_9_b
    rw [if_pos (by rw [a1]; exact Int32.le_refl _)]
theorem bnx8 {N n : Nat} (hN : 50 ≤ N) {M : St} (hM : M.1 24 = nI n) (hn : n ≤ 10) (x1 x2 : Int32) : f_X8_next_31 N N M x1 x2 (-9) 0 = some (bs M n x1 x2 n, M) := by
  refine lpN (fun q k (x : Int32) => f_X8_next_31 N q M x1 x2 x (nI k)) (fun k => bs M n x1 x2 k) n (some (bs M n x1 x2 n, M)) ?_ ?_ n N 0 (by omega) (by omega)
  · intro q k hk
    show f_X8_next_31_b N (fun y0 y1 y2 y3 y4 => f_X8_next_31 N q y0 y1 y2 y3 y4) M x1 x2 (bs M n x1 x2 k) (nI k) = f_X8_next_31 N q M x1 x2 (bst M n x1 x2 k (bs M n x1 x2 k)) (nI (k + 1))
    have hb := bs_in M n x1 x2 k
    generalize bs M n x1 x2 k = b at hb
    unfold f_X8_next_31_b f_X8_next_123 f_X8_next_127 f_X8_next_128 f_X8_next_141 f_X8_next_142
    simp only [hM, le_nI (show n ≤ 100000 by omega) (show k ≤ 100000 by omega), if_neg (show ¬ n ≤ k by omega), open8 (show 11 ≤ N by omega) hM hn (show k < 10 by omega), Option.bind_some, bI_0, if_pos (inb_nI (show k < 10 by omega) (by omega)), cl_nI (show k ≤ 100000 by omega), gain8 hN hM hn (show k < 10 by omega), nI_1, cm64, ce64, if_neg (show ¬ (1 : Int32) = 0 by decide), if_pos (show (0 : Int32) = 0 from rfl), ↓reduceIte]
    unfold bst
    by_cases c1 : opn M k n = false
    · rw [if_pos c1, if_pos c1]
    rw [if_neg c1, if_neg c1]
    by_cases c2 : x1 < M.2.2 25 k
    · rw [if_pos c2, if_pos c2]
    rw [if_neg c2, if_neg c2]
    by_cases c3 : x2 < M.2.2 26 k
    · rw [if_pos c3, if_pos c3]
    rw [if_neg c3, if_neg c3]
    by_cases c4 : b = -9
    · rw [if_pos c4, if_pos c4]
    rw [if_neg c4, if_neg c4]
    rcases hb with hb | ⟨j, hj, rfl⟩
    · exact absurd hb c4
    simp only [gain8 hN hM hn (show j < 10 by omega), Option.bind_some, cl_nI (show j ≤ 100000 by omega), if_pos (inb_nI (show j < 10 by omega) (by omega)), cm64, ce64]
    by_cases c5 : gn M n j < gn M n k
    · rw [if_pos c5, if_pos c5]
    rw [if_neg c5, if_neg c5]
    by_cases c6 : gn M n k = gn M n j
    · rw [if_pos c6, if_pos c6]
      by_cases c7 : M.2.2 25 j ≤ M.2.2 25 k
      · rw [if_pos c7, if_pos c7]
      · rw [if_neg c7, if_neg c7]
    · rw [if_neg c6, if_neg c6]
  · intro q
    show f_X8_next_31_b N (fun y0 y1 y2 y3 y4 => f_X8_next_31 N q y0 y1 y2 y3 y4) M x1 x2 (bs M n x1 x2 n) (nI n) = _
    unfold f_X8_next_31_b
    rw [if_pos (by rw [hM]; exact Int32.le_refl _)]
theorem sim_next {N : Nat} (hN : 2200 ≤ N) {S7 S5 S6 S2 S4 S3 S0 M : St} (h : Rel S7 S5 S6 S2 S4 S3 S0 M) (x1 : Int32) (x2 : Int32) : ∃ (r : Int32) (T7 : St) (T8 : St), f_X7_next N S7 S2 x1 x2 = some (r, T7) ∧ f_X8_next N M x1 x2 = some (r, T8) ∧ Rel T7 S5 S6 S2 S4 S3 S0 T8 := by
  obtain ⟨n, hn, a1, a2, -⟩ := id h.2.2.2.1
  have hR := h.2.2.2.1
  unfold f_X7_next f_X8_next
  simp only [Option.bind_some, all2 (N := N) (by omega) hR a2 hn, all8 (N := N) (by omega) a2 hn, ref7_4, ref8_4, bnx2 (N := N) (by omega) hR a2 hn, bnx8 (N := N) (by omega) a2 hn]
  by_cases c1 : x1 < 0
  · rw [if_pos c1, if_pos c1]
    exact ⟨_, _, _, rfl, rfl, h⟩
  rw [if_neg c1, if_neg c1]
  by_cases c2 : 0 ≤ x2
  · rw [if_pos c2, if_pos c2]
    by_cases c3 : lg_cmp (al M n) 0 = 0
    · rw [if_pos c3, if_pos c3]
      exact ⟨_, _, _, rfl, rfl, Rel_ref h 4 4 (by omega)⟩
    · rw [if_neg c3, if_neg c3]
      exact ⟨_, _, _, rfl, rfl, h⟩
  · rw [if_neg c2, if_neg c2]
    exact ⟨_, _, _, rfl, rfl, h⟩
/-- the law in force -/
def lft (M : St) (k : Nat) (b : Int32) : Int32 := if M.1 39 < M.2.2 43 k then b else if b = -9 then nI k else if M.2.2 43 k < M.2.2 43 b.toNatClampNeg then b else nI k
def lf (M : St) : Nat → Int32
  | 0 => -9
  | k + 1 => lft M k (lf M k)
theorem lf_in (M : St) : ∀ k, lf M k = -9 ∨ ∃ j, j < k ∧ lf M k = nI j
  | 0 => Or.inl rfl
  | k + 1 => by
    have i : lf M k = -9 ∨ ∃ j, j < k + 1 ∧ lf M k = nI j := by
      rcases lf_in M k with i | ⟨j, hj, e⟩
      · exact Or.inl i
      · exact Or.inr ⟨j, by omega, e⟩
    have o : (nI k : Int32) = -9 ∨ ∃ j, j < k + 1 ∧ nI k = nI j := Or.inr ⟨k, by omega, rfl⟩
    show lft M k (lf M k) = -9 ∨ ∃ j, j < k + 1 ∧ lft M k (lf M k) = nI j
    unfold lft
    split
    · exact i
    split
    · exact o
    split
    · exact i
    · exact o
theorem lf0 {N n : Nat} (hN : 50 ≤ N) {S0 M : St} (h7 : S0.1 7 = nI n) (hn : n ≤ 8) (h4 : S0.1 4 = M.1 39) (hk : ∀ k, k < n → S0.2.2 0 k = M.2.2 43 k) : f_X0_lawInForce N S0 = some (lf M n) := by
  unfold f_X0_lawInForce
  refine lpN (fun q k (x : Int32) => f_X0_lawInForce_5 N S0 q x (nI k)) (fun k => lf M k) n (some (lf M n)) ?_ ?_ n N 0 (by omega) (by omega)
  · intro q k hk2
    show f_X0_lawInForce_5_b N S0 (fun y0 y1 => f_X0_lawInForce_5 N S0 q y0 y1) (lf M k) (nI k) = f_X0_lawInForce_5 N S0 q (lft M k (lf M k)) (nI (k + 1))
    have hb := lf_in M k
    generalize lf M k = b at hb
    unfold f_X0_lawInForce_5_b f_X0_lawInForce_34 f_X0_lawInForce_39 f_X0_lawInForce_59 lft
    simp only [h7, le_nI (show n ≤ 100000 by omega) (show k ≤ 100000 by omega), if_neg (show ¬ n ≤ k by omega), if_pos (inb_nI (show k < 8 by omega) (by omega)), cl_nI (show k ≤ 100000 by omega), h4, hk k hk2, nI_1, if_neg (show ¬ (1 : Int32) = 0 by decide), if_pos (show (0 : Int32) = 0 from rfl), ↓reduceIte]
    by_cases c4 : b = -9
    · rw [if_pos c4, if_pos c4]
      by_cases c1 : M.1 39 < M.2.2 43 k
      · rw [if_pos c1, if_pos c1]
      · rw [if_neg c1, if_neg c1]
    rw [if_neg c4, if_neg c4]
    rcases hb with hb | ⟨j, hj, rfl⟩
    · exact absurd hb c4
    simp only [cl_nI (show j ≤ 100000 by omega), if_pos (inb_nI (show j < 8 by omega) (by omega)), hk j (by omega)]
    by_cases c1 : M.1 39 < M.2.2 43 k
    · simp only [if_pos c1]
      split <;> rfl
    · simp only [if_neg c1]
      by_cases c5 : M.2.2 43 k < M.2.2 43 j
      · rw [if_pos c5, if_pos c5]
      · rw [if_neg c5, if_neg c5]
  · intro q
    show f_X0_lawInForce_5_b N S0 (fun y0 y1 => f_X0_lawInForce_5 N S0 q y0 y1) (lf M n) (nI n) = _
    unfold f_X0_lawInForce_5_b
    rw [if_pos (by rw [h7]; exact Int32.le_refl _)]
theorem lf_m9 {n : Nat} {M : St} (h : M.1 39 = -9) (hk : ∀ k, k < n → 0 ≤ (M.2.2 43 k).toInt) : ∀ k, k ≤ n → lf M k = -9
  | 0, _ => rfl
  | k + 1, c => by
    show lft M k (lf M k) = -9
    rw [lf_m9 h hk k (by omega)]
    unfold lft
    rw [if_pos (by rw [fa_lt, h, tl_m9]; have := hk k (by omega); omega)]
theorem lf8 {N n : Nat} (hN : 50 ≤ N) {M : St} (h7 : M.1 42 = nI n) (hn : n ≤ 8) (hk : ∀ k, k < n → 0 ≤ (M.2.2 43 k).toInt) : f_X8_claim N M = f_X8_claim_68 N M (lf M n) := by
  unfold f_X8_claim
  by_cases c : M.1 39 = -9
  · rw [lf_m9 c hk n (Nat.le_refl n)]
    obtain ⟨q, hq⟩ : ∃ q, N = q + 1 := ⟨N - 1, by omega⟩
    have : f_X8_claim_5 N (q + 1) M (-9) 0 = f_X8_claim_68 N M (-9) := by
      show f_X8_claim_5_b N (fun y0 y1 y2 => f_X8_claim_5 N q y0 y1 y2) M (-9) 0 = _
      unfold f_X8_claim_5_b
      rw [if_pos c]
      split <;> rfl
    rw [← hq] at this
    exact this
  refine lpN (fun q k (x : Int32) => f_X8_claim_5 N q M x (nI k)) (fun k => lf M k) n (f_X8_claim_68 N M (lf M n)) ?_ ?_ n N 0 (by omega) (by omega)
  · intro q k hk2
    show f_X8_claim_5_b N (fun y0 y1 y2 => f_X8_claim_5 N q y0 y1 y2) M (lf M k) (nI k) = f_X8_claim_5 N q M (lft M k (lf M k)) (nI (k + 1))
    have hb := lf_in M k
    generalize lf M k = b at hb
    unfold f_X8_claim_5_b f_X8_claim_56 f_X8_claim_60 f_X8_claim_61 lft
    simp only [h7, le_nI (show n ≤ 100000 by omega) (show k ≤ 100000 by omega), if_neg (show ¬ n ≤ k by omega), if_neg c, if_pos (inb_nI (show k < 8 by omega) (by omega)), cl_nI (show k ≤ 100000 by omega), nI_1]
    by_cases c1 : M.1 39 < M.2.2 43 k
    · rw [if_pos c1, if_pos c1]
    rw [if_neg c1, if_neg c1]
    by_cases c4 : b = -9
    · rw [if_pos c4, if_pos c4]
    rw [if_neg c4, if_neg c4]
    rcases hb with hb | ⟨j, hj, rfl⟩
    · exact absurd hb c4
    simp only [cl_nI (show j ≤ 100000 by omega), if_pos (inb_nI (show j < 8 by omega) (by omega))]
    by_cases c5 : M.2.2 43 k < M.2.2 43 j
    · rw [if_pos c5, if_pos c5]
    · rw [if_neg c5, if_neg c5]
  · intro q
    show f_X8_claim_5_b N (fun y0 y1 y2 => f_X8_claim_5 N q y0 y1 y2) M (lf M n) (nI n) = _
    unfold f_X8_claim_5_b
    rw [if_pos (by rw [h7]; exact Int32.le_refl _)]
theorem cn64 (a b : Int64) : (lg_cmp a b < 0) = (¬ 0 ≤ lg_cmp a b) := by
  apply propext
  rw [fa_le, fa_lt, tl_0]
  omega
theorem sim_claim {N : Nat} (hN : 2200 ≤ N) {S7 S5 S6 S2 S4 S3 S0 M : St} (h : Rel S7 S5 S6 S2 S4 S3 S0 M) : ∃ (r : Int32) (T7 : St) (T8 : St), f_X7_claim N S7 S2 S0  = some (r, T7) ∧ f_X8_claim N M  = some (r, T8) ∧ Rel T7 S5 S6 S2 S4 S3 S0 T8 := by
  obtain ⟨n, hn, a1, a2, -⟩ := id h.2.2.2.1
  have hR := h.2.2.2.1
  obtain ⟨m, hm, b1, b2, b3, b4, b5, b6, b7, b8⟩ := id h.2.2.2.2.2.2
  have d7 := h.1.1
  rw [lf8 (N := N) (by omega) b2 hm (fun k hk => (b8 k hk).2.2.2.2)]
  unfold f_X7_claim f_X8_claim_68
  rw [lf0 (N := N) (by omega) b1 hm b3 (fun k hk => (b8 k hk).1), Option.bind_some]
  by_cases c1 : lf M m = -9
  · rw [if_pos c1, if_pos c1]
    exact ⟨_, _, _, rfl, rfl, h⟩
  rw [if_neg c1, if_neg c1]
  rcases lf_in M m with c2 | ⟨j, hj, ej⟩
  · exact absurd c2 c1
  rw [ej]
  obtain ⟨k1, k2, k3, k4, -⟩ := b8 j hj
  obtain ⟨w, hw, ew⟩ := ix_of (n := 4) b6 (by omega) (by omega)
  unfold f_X0_isTooLate f_X0_isBelow f_X0_paidBack f_X8_tells
  simp only [Option.bind_some, all2 (N := N) (by omega) hR a2 hn, all8 (N := N) (by omega) a2 hn, ref7_4, ref8_4, if_pos (inb_nI (show j < 8 by omega) (by omega)), cl_nI (show j ≤ 100000 by omega), k2, k3, k4, b3, b4, b5, ew, d7, score2 (N := N) (by omega) hR a2 hn hw, score8 (N := N) (by omega) a2 hn hw, if_neg (show ¬ (36500 : Int64) = 0 by decide), cn64]
  by_cases c3 : lg_cmp (al M n) 0 = 0
  · rw [if_pos c3, if_pos c3]
    exact ⟨_, _, _, rfl, rfl, Rel_ref h 4 4 (by omega)⟩
  rw [if_neg c3, if_neg c3]
  by_cases c4 : M.1 5 - M.1 39 ≤ M.2.2 44 j
  · rw [if_pos c4, if_pos c4, Option.bind_some, if_pos rfl, Int64.mul_comm (sc M w n) 100]
    by_cases c5 : 0 ≤ lg_cmp (100 * sc M w n) (Int32.toInt64 (M.2.2 45 j) * al M n)
    · rw [if_pos c5, inn c5, Option.bind_some, if_pos rfl]
      exact ⟨_, _, _, rfl, rfl, h⟩
    · rw [if_neg c5, inp c5, Option.bind_some, if_neg (by decide)]
      exact ⟨_, _, _, rfl, rfl, Rel_ask h _⟩
  · rw [if_neg c4, if_neg c4, Option.bind_some, if_neg (by decide)]
    exact ⟨_, _, _, rfl, rfl, h⟩

/-- how many -/
theorem ct5 {N n : Nat} (hN : 50 ≤ N) {M : St} (h : M.1 13 = nI n) (hn : n ≤ 24) : f_X8_tellsCount_56 N M N 0 0 = some (nI n - nI (fb_ct (fun p => decide (M.2.2 17 p ≠ -9)) n)) := by
  have e : nI n - nI (fb_ct (fun p => decide (M.2.2 17 p ≠ -9)) n) = nI (fb_ct (fun p => decide (M.2.2 17 p = -9)) n) := by
    have h1 := fb_ct_not (fun p => decide (M.2.2 17 p ≠ -9)) n
    have h2 : fb_ct (fun k => !decide (M.2.2 17 k ≠ -9)) n = fb_ct (fun p => decide (M.2.2 17 p = -9)) n := fb_ct_cong (fun k _ => by simp)
    rw [h2] at h1
    have := fb_ct_le (fun p => decide (M.2.2 17 p = -9)) n
    rw [fa_eq, fb_subI (by rw [ti_nI (by omega), ti_nI (by omega)]; omega) (by rw [ti_nI (by omega), ti_nI (by omega)]; omega), ti_nI (by omega), ti_nI (by omega), ti_nI (by omega)]
    omega
  rw [e]
  refine lpN (fun q k (x : Int32) => f_X8_tellsCount_56 N M q x (nI k)) (fun k => nI (fb_ct (fun p => decide (M.2.2 17 p = -9)) k)) n _ ?_ ?_ n N 0 (by omega) (by omega)
  · intro q k hk
    show f_X8_tellsCount_56_b N M (fun y0 y1 => f_X8_tellsCount_56 N M q y0 y1) (nI (fb_ct (fun p => decide (M.2.2 17 p = -9)) k)) (nI k) = f_X8_tellsCount_56 N M q (nI (fb_ct (fun p => decide (M.2.2 17 p = -9)) k + (if decide (M.2.2 17 k = -9) = true then 1 else 0))) (nI (k + 1))
    unfold f_X8_tellsCount_56_b f_X8_tellsCount_81
    simp only [h, le_nI (show n ≤ 100000 by omega) (show k ≤ 100000 by omega), if_neg (show ¬ n ≤ k by omega), if_pos (inb_nI (show k < 24 by omega) (by omega)), cl_nI (show k ≤ 100000 by omega), nI_1]
    by_cases c : M.2.2 17 k = -9
    · rw [if_pos c, if_pos (decide_eq_true c)]
    · rw [if_neg c, if_neg (by rw [decide_eq_true_iff]; exact c), Int32.add_zero]; rfl
  · intro q
    show f_X8_tellsCount_56_b N M (fun y0 y1 => f_X8_tellsCount_56 N M q y0 y1) (nI (fb_ct (fun p => decide (M.2.2 17 p = -9)) n)) (nI n) = _
    unfold f_X8_tellsCount_56_b
    rw [if_pos (by rw [h]; exact Int32.le_refl _)]
theorem ct2 {N n : Nat} (hN : 50 ≤ N) {M : St} (h : M.1 24 = nI n) (hn : n ≤ 10) : f_X8_tellsCount_98 N M N 0 0 = some (nI (fb_ct (fun p => decide (M.2.2 29 p ≠ -9)) n)) := by
  refine lpN (fun q k (x : Int32) => f_X8_tellsCount_98 N M q x (nI k)) (fun k => nI (fb_ct (fun p => decide (M.2.2 29 p ≠ -9)) k)) n _ ?_ ?_ n N 0 (by omega) (by omega)
  · intro q k hk
    show f_X8_tellsCount_98_b N M (fun y0 y1 => f_X8_tellsCount_98 N M q y0 y1) (nI (fb_ct (fun p => decide (M.2.2 29 p ≠ -9)) k)) (nI k) = f_X8_tellsCount_98 N M q (nI (fb_ct (fun p => decide (M.2.2 29 p ≠ -9)) k + (if decide (M.2.2 29 k ≠ -9) = true then 1 else 0))) (nI (k + 1))
    unfold f_X8_tellsCount_98_b f_X8_tellsCount_123
    simp only [h, le_nI (show n ≤ 100000 by omega) (show k ≤ 100000 by omega), if_neg (show ¬ n ≤ k by omega), if_pos (inb_nI (show k < 10 by omega) (by omega)), cl_nI (show k ≤ 100000 by omega), nI_1]
    by_cases c : M.2.2 29 k = -9
    · rw [if_pos c, if_neg (by rw [decide_eq_true_iff]; exact not_not_intro c), Int32.add_zero]; rfl
    · rw [if_neg c, if_pos (decide_eq_true c)]
  · intro q
    show f_X8_tellsCount_98_b N M (fun y0 y1 => f_X8_tellsCount_98 N M q y0 y1) (nI (fb_ct (fun p => decide (M.2.2 29 p ≠ -9)) n)) (nI n) = _
    unfold f_X8_tellsCount_98_b
    rw [if_pos (by rw [h]; exact Int32.le_refl _)]
theorem cnt {N : Nat} (hN : 50 ≤ N) {S7 S5 S6 S2 S4 S3 S0 M : St} (h : Rel S7 S5 S6 S2 S4 S3 S0 M) (x1 : Int32) (c : 0 ≤ x1.toInt ∧ x1.toInt ≤ 7) : f_X8_tellsCount N M x1 = f_X7_count N S7 S5 S2 S4 S3 S0 x1 := by
  obtain ⟨n5, hn5, a1, a2, -, -, -, a3⟩ := id h.2.1
  obtain ⟨n2, hn2, b1, b2, -, -, -, -, -, b3⟩ := id h.2.2.2.1
  obtain ⟨n4, hn4, c1, c2, -⟩ := id h.2.2.2.2.1
  obtain ⟨n3, hn3, d1, d2, -⟩ := id h.2.2.2.2.2.1
  obtain ⟨n0, hn0, e1, e2, -⟩ := id h.2.2.2.2.2.2
  obtain ⟨k, hk, rfl⟩ := ix_of (n := 8) c.1 (by omega) (by omega)
  unfold f_X8_tellsCount f_X7_count
  rw [ct5 hN a2 hn5, ct2 hN b2 hn2, h.1.1, a1, a2, a3, b1, b2, b3, c1, c2, d1, d2, e1, e2]
  have h7 : k = 0 ∨ k = 1 ∨ k = 2 ∨ k = 3 ∨ k = 4 ∨ k = 5 ∨ k = 6 ∨ k = 7 := by omega
  rcases h7 with rfl | rfl | rfl | rfl | rfl | rfl | rfl | rfl <;> rfl
theorem sim_count {N : Nat} (hN : 2200 ≤ N) {S7 S5 S6 S2 S4 S3 S0 M : St} (h : Rel S7 S5 S6 S2 S4 S3 S0 M) (x1 : Int32) : ∃ (r : Int32), f_X7_count N S7 S5 S2 S4 S3 S0 x1 = some r ∧ f_X8_count N M x1 = some r := by
  have tot : ∃ r, f_X7_count N S7 S5 S2 S4 S3 S0 x1 = some r := by
    unfold f_X7_count
    repeat' split
    all_goals exact ⟨_, rfl⟩
  obtain ⟨r, hr⟩ := tot
  refine ⟨r, hr, ?_⟩
  unfold f_X8_count
  simp only [in8, isW, Option.bind_some, bI_0, tl_0, show (7 : Int32).toInt = 7 from rfl]
  by_cases c : 0 ≤ x1.toInt ∧ x1.toInt ≤ 7
  · rw [if_neg (by simpa using c), cnt (N := N) (by omega) h x1 c, hr]
    rfl
  · rw [if_pos (by simpa using c), ← hr]
    unfold f_X7_count
    have ne : ∀ v : Int32, 0 ≤ v.toInt → v.toInt ≤ 7 → ¬ x1 = v := fun v h1 h2 e => c (by rw [e]; exact ⟨h1, h2⟩)
    rw [if_neg (ne 0 (by decide) (by decide)), if_neg (ne 1 (by decide) (by decide)), if_neg (ne 2 (by decide) (by decide)), if_neg (ne 3 (by decide) (by decide)), if_neg (ne 4 (by decide) (by decide)), if_neg (ne 5 (by decide) (by decide)), if_neg (ne 6 (by decide) (by decide)), if_neg (ne 7 (by decide) (by decide))]
