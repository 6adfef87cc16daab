/-! owners -/
theorem St_A {S T : St} (h1 : S.1 = T.1) (h2 : S.2.1 = T.2.1) (h3 : ∀ j, S.2.2 j = T.2.2 j) : S = T := by
  obtain ⟨s1, s2, s3⟩ := S
  obtain ⟨t1, t2, t3⟩ := T
  have h : s3 = t3 := funext h3
  dsimp only at h1 h2
  subst h1; subst h2; subst h
  rfl
theorem sA_ne (S : St) {k j : Nat} (f : Nat → Int32) (h : j ≠ k) : (sA S k f).2.2 j = S.2.2 j := if_neg h
theorem sA4 (S : St) (a b c d : Nat → Int32) : sA (sA (sA (sA S 0 a) 1 b) 0 c) 1 d = sA (sA S 0 c) 1 d := by
  refine St_A rfl rfl fun j => ?_
  by_cases e1 : j = 1
  · subst e1; rw [sA_at, sA_at]
  · rw [sA_ne _ _ e1, sA_ne _ _ e1]
    by_cases e0 : j = 0
    · subst e0; rw [sA_at, sA_at]
    · rw [sA_ne _ _ e0, sA_ne _ _ e1, sA_ne _ _ e0, sA_ne _ _ e0]
def sh (f : Nat → Int32) (k n : Nat) : Nat → Int32 := fun x => if k < x ∧ x ≤ n then f (x - 1) else f x
theorem sh_n (f : Nat → Int32) (n : Nat) : sh f n n = f := funext fun x => if_neg (by omega)
theorem sh_s (f : Nat → Int32) {k n : Nat} (h : k + 1 ≤ n) : upd (sh f (k + 1) n) (k + 1) (sh f (k + 1) n k) = sh f k n := by
  funext x
  unfold upd sh
  by_cases e : x = k + 1
  · rw [if_pos e, if_neg (by omega), if_pos (by omega), e]
    rfl
  · rw [if_neg e]
    by_cases c : k + 1 < x ∧ x ≤ n
    · rw [if_pos c, if_pos (by omega)]
    · rw [if_neg c, if_neg (by omega)]
theorem sh_lo (f : Nat → Int32) {k n x : Nat} (h : x ≤ k) : sh f k n x = f x := if_neg (by omega)
def fin (S : St) (x1 x2 : Int32) (k n : Nat) : St := sI (sA (sA S 0 (upd (sh (S.2.2 0) k n) k x1)) 1 (upd (sh (S.2.2 1) k n) k x2)) 2 (nI (n + 1))
theorem ins4 {N n : Nat} {S : St} (h2 : S.1 2 = nI n) (hn : n < 20) (x1 x2 : Int32) : ∀ (k q : Nat), k ≤ n → k < q → (∀ j, k ≤ j → j < n → x1 < S.2.2 0 j) →
    ∃ k', k' ≤ n ∧ (k' = 0 ∨ S.2.2 0 (k' - 1) ≤ x1) ∧ (∀ j, k' ≤ j → j < n → x1 < S.2.2 0 j) ∧ f_X4_add_5 N q (sA (sA S 0 (sh (S.2.2 0) k n)) 1 (sh (S.2.2 1) k n)) x1 x2 (nI k) = some (nI (n + 1), fin S x1 x2 k' n) := by
  have stop : ∀ k, k ≤ n → f_X4_add_55 N (sA (sA S 0 (sh (S.2.2 0) k n)) 1 (sh (S.2.2 1) k n)) x1 x2 (nI k) = some (nI (n + 1), fin S x1 x2 k n) := by
    intro k hk
    unfold f_X4_add_55 fin
    have e2 : (sA (sA S 0 (sh (S.2.2 0) k n)) 1 (sh (S.2.2 1) k n)).1 2 = nI n := h2
    have e0 : (sA (sA S 0 (sh (S.2.2 0) k n)) 1 (sh (S.2.2 1) k n)).2.2 0 = sh (S.2.2 0) k n := rfl
    have e1 : (sA (sA S 0 (sh (S.2.2 0) k n)) 1 (sh (S.2.2 1) k n)).2.2 1 = sh (S.2.2 1) k n := rfl
    rw [if_pos (inb_nI (show k < 20 by omega) (by omega)), if_pos (inb_nI (show k < 20 by omega) (by omega)), e2, e0, e1, cl_nI (by omega), sA4, nI_1]
  intro k
  induction k with
  | zero =>
    intro q _ hq hj
    obtain ⟨q, rfl⟩ : ∃ z, q = z + 1 := ⟨q - 1, by omega⟩
    refine ⟨0, by omega, Or.inl rfl, hj, ?_⟩
    generalize hT : sA (sA S 0 (sh (S.2.2 0) 0 n)) 1 (sh (S.2.2 1) 0 n) = T
    show f_X4_add_5_b N (fun y0 y1 y2 y3 => f_X4_add_5 N q y0 y1 y2 y3) T x1 x2 (nI 0) = _
    unfold f_X4_add_5_b
    rw [if_pos (show nI 0 ≤ 0 by decide), ← hT, stop 0 (by omega)]
  | succ k ih =>
    intro q hk hq hj
    obtain ⟨q, rfl⟩ : ∃ z, q = z + 1 := ⟨q - 1, by omega⟩
    have s1 : nI (k + 1) - 1 = nI k := nI_s1 k
    have s2 : nI (k + 1) + (-1) = nI k := by rw [← nI_s1 k, Int32.sub_eq_add_neg]
    by_cases c : S.2.2 0 k ≤ x1
    · refine ⟨k + 1, hk, Or.inr c, hj, ?_⟩
      rw [← stop (k + 1) hk]
      generalize hT : sA (sA S 0 (sh (S.2.2 0) (k + 1) n)) 1 (sh (S.2.2 1) (k + 1) n) = T
      have e0 : T.2.2 0 k = S.2.2 0 k := by
        rw [← hT]
        show sh (S.2.2 0) (k + 1) n k = _
        exact sh_lo _ (by omega)
      show f_X4_add_5_b N (fun y0 y1 y2 y3 => f_X4_add_5 N q y0 y1 y2 y3) T x1 x2 (nI (k + 1)) = _
      unfold f_X4_add_5_b
      rw [if_neg (show ¬ nI (k + 1) ≤ 0 by rw [show (0 : Int32) = nI 0 from rfl, le_nI (by omega) (by omega)]; omega), s1, if_pos (inb_nI (show k < 20 by omega) (by omega)), cl_nI (show k ≤ 100000 by omega), e0, if_pos c]
    · have lt : x1 < S.2.2 0 k := by rw [fa_lt]; rw [fa_le] at c; omega
      obtain ⟨k', k1, k2, k3, k4⟩ := ih q (by omega) (by omega) (fun j h1 h2 => by
        by_cases e : j = k
        · subst e; exact lt
        · exact hj j (by omega) h2)
      refine ⟨k', k1, k2, k3, ?_⟩
      rw [← k4]
      have e0 : (sA (sA S 0 (sh (S.2.2 0) (k + 1) n)) 1 (sh (S.2.2 1) (k + 1) n)).2.2 0 = sh (S.2.2 0) (k + 1) n := rfl
      have e1 : (sA (sA S 0 (sh (S.2.2 0) (k + 1) n)) 1 (sh (S.2.2 1) (k + 1) n)).2.2 1 = sh (S.2.2 1) (k + 1) n := rfl
      have e3 := sA4 S (sh (S.2.2 0) (k + 1) n) (sh (S.2.2 1) (k + 1) n) (sh (S.2.2 0) k n) (sh (S.2.2 1) k n)
      generalize hT : sA (sA S 0 (sh (S.2.2 0) (k + 1) n)) 1 (sh (S.2.2 1) (k + 1) n) = T at *
      show f_X4_add_5_b N (fun y0 y1 y2 y3 => f_X4_add_5 N q y0 y1 y2 y3) T x1 x2 (nI (k + 1)) = _
      unfold f_X4_add_5_b
      simp only [if_neg (show ¬ nI (k + 1) ≤ 0 by rw [show (0 : Int32) = nI 0 from rfl, le_nI (by omega) (by omega)]; omega), s1, s2, if_pos (inb_nI (show k < 20 by omega) (by omega)), if_pos (inb_nI (show k + 1 < 20 by omega) (by omega)), cl_nI (show k ≤ 100000 by omega), cl_nI (show k + 1 ≤ 100000 by omega), e0, e1, sh_s _ hk]
      rw [sh_lo _ (show k ≤ k + 1 by omega), if_neg c, e3]
theorem sim_owner {N : Nat} (hN : 2200 ≤ N) {S7 S5 S6 S2 S4 S3 S0 M : St} (h : Rel S7 S5 S6 S2 S4 S3 S0 M) (x1 : Int32) (x2 : Int32) : ∃ (r : Int32) (T4 : St) (T8 : St), f_X7_owner N S7 S4 x1 x2 = some (r, T4) ∧ f_X8_owner N M x1 x2 = some (r, T8) ∧ Rel S7 S5 S6 S2 T4 S3 S0 T8 := by
  obtain ⟨n, hn, a1, a2, a3, a4, a5⟩ := id h.2.2.2.2.1
  unfold f_X7_owner f_X8_owner f_X4_isFull
  simp only [areYears7, isYear8, isYear7, in8, isW, Option.bind_some, bI_0, a1, a2, tl_2100]
  by_cases c1 : 1000 ≤ x1.toInt ∧ x1.toInt ≤ 2100
  · by_cases c2 : x1.toInt ≤ x2.toInt ∧ x2.toInt ≤ 2100
    · have d1 : ¬ decide ((1000 ≤ x1.toInt ∧ x1.toInt ≤ 2100) ∧ x1.toInt ≤ x2.toInt ∧ x2.toInt ≤ 2100) = false := by rw [decide_eq_false_iff_not]; exact not_not_intro ⟨c1, c2⟩
      have d2 : ¬ decide (1000 ≤ x1.toInt ∧ x1.toInt ≤ 2100) = false := by simpa using c1
      have d3 : ¬ decide (x1.toInt ≤ x2.toInt ∧ x2.toInt ≤ 2100) = false := by simpa using c2
      rw [if_neg d1, if_neg d2, if_neg d3]
      by_cases c3 : n = 20
      · subst c3
        rw [if_neg (show ¬ nI 20 < (20 : Int32) by decide), if_pos (show nI 20 = (20 : Int32) from rfl), Option.bind_some, if_neg (by decide)]
        exact ⟨_, _, _, rfl, rfl, h⟩
      · rw [if_pos (show nI n < (20 : Int32) by rw [show (20 : Int32) = nI 20 from rfl, lt_nI (by omega) (by omega)]; omega), if_neg (show ¬ nI n = (20 : Int32) by rw [show (20 : Int32) = nI 20 from rfl, eq_nI (by omega) (by omega)]; exact c3), Option.bind_some, if_pos rfl, if_pos (inb_nI (show n < 20 by omega) (by omega)), if_pos (inb_nI (show n < 20 by omega) (by omega)), cl_nI (by omega), nI_1]
        obtain ⟨k, k1, k2, k3, k4⟩ := ins4 (N := N) a1 (show n < 20 by omega) x1 x2 n N (Nat.le_refl n) (by omega) (fun j h1 h2 => by omega)
        rw [sh_n, sh_n, show sA (sA S4 0 (S4.2.2 0)) 1 (S4.2.2 1) = S4 by rw [sA_same, sA_same], ← a1] at k4
        unfold f_X4_add
        rw [k4, Option.bind_some]
        refine ⟨_, _, _, rfl, rfl, h.1, h.2.1, h.2.2.1, h.2.2.2.1, ?_, h.2.2.2.2.2⟩
        have g0 : ∀ x, (fin S4 x1 x2 k n).2.2 0 x = if x = k then x1 else if k < x ∧ x ≤ n then S4.2.2 0 (x - 1) else S4.2.2 0 x := fun x => rfl
        have g1 : ∀ x, (fin S4 x1 x2 k n).2.2 1 x = if x = k then x2 else if k < x ∧ x ≤ n then S4.2.2 1 (x - 1) else S4.2.2 1 x := fun x => rfl
        refine ⟨n + 1, by omega, rfl, rfl, ?_, ?_, ?_⟩
        · intro x hx
          rw [g0, g1]
          by_cases e : x = k
          · rw [if_pos e, if_pos e]; exact ⟨c1.1, c2.1, c2.2⟩
          · rw [if_neg e, if_neg e]
            by_cases e2 : k < x ∧ x ≤ n
            · rw [if_pos e2, if_pos e2]; exact a3 (x - 1) (by omega)
            · rw [if_neg e2, if_neg e2]; exact a3 x (by omega)
        · intro i j hij hj
          rw [g0, g0]
          have lo : ∀ j, j < k → (S4.2.2 0 j).toInt ≤ x1.toInt := by
            intro j hj
            rcases k2 with e | e
            · omega
            · rw [fa_le] at e
              by_cases ej : j = k - 1
              · subst ej; exact e
              · exact Int.le_trans (a4 j (k - 1) (by omega) (by omega)) e
          have hi : ∀ j, k ≤ j → j < n → x1.toInt ≤ (S4.2.2 0 j).toInt := by
            intro j h1 h2
            have := k3 j h1 h2
            rw [fa_lt] at this
            omega
          by_cases ei : i = k
          · rw [if_pos ei, if_neg (show ¬ j = k by omega), if_pos (show k < j ∧ j ≤ n by omega)]
            exact hi (j - 1) (by omega) (by omega)
          · rw [if_neg ei]
            by_cases ei2 : k < i ∧ i ≤ n
            · rw [if_pos ei2, if_neg (show ¬ j = k by omega), if_pos (show k < j ∧ j ≤ n by omega)]
              exact a4 (i - 1) (j - 1) (by omega) (by omega)
            · rw [if_neg ei2]
              by_cases ej : j = k
              · rw [if_pos ej]; exact lo i (by omega)
              · rw [if_neg ej]
                by_cases ej2 : k < j ∧ j ≤ n
                · rw [if_pos ej2]
                  have := lo i (by omega)
                  have := hi (j - 1) (by omega) (by omega)
                  omega
                · rw [if_neg ej2]; exact a4 i j hij (by omega)
        · intro y
          have m0 : ∀ x, (sI (sA (sA M 32 (upd (M.2.2 32) n x1)) 33 (upd (M.2.2 33) n x2)) 31 (nI (n + 1))).2.2 32 x = if x = n then x1 else M.2.2 32 x := fun x => rfl
          have m1 : ∀ x, (sI (sA (sA M 32 (upd (M.2.2 32) n x1)) 33 (upd (M.2.2 33) n x2)) 31 (nI (n + 1))).2.2 33 x = if x = n then x2 else M.2.2 33 x := fun x => rfl
          have L : (∃ x, x < n + 1 ∧ ((fin S4 x1 x2 k n).2.2 0 x).toInt ≤ y ∧ y ≤ ((fin S4 x1 x2 k n).2.2 1 x).toInt) ↔ ((x1.toInt ≤ y ∧ y ≤ x2.toInt) ∨ ∃ x, x < n ∧ (S4.2.2 0 x).toInt ≤ y ∧ y ≤ (S4.2.2 1 x).toInt) := by
            constructor
            · rintro ⟨x, hx, hc⟩
              rw [g0, g1] at hc
              by_cases e : x = k
              · rw [if_pos e, if_pos e] at hc; exact Or.inl hc
              · rw [if_neg e, if_neg e] at hc
                by_cases e2 : k < x ∧ x ≤ n
                · rw [if_pos e2, if_pos e2] at hc; exact Or.inr ⟨x - 1, by omega, hc⟩
                · rw [if_neg e2, if_neg e2] at hc; exact Or.inr ⟨x, by omega, hc⟩
            · rintro (hc | ⟨x, hx, hc⟩)
              · refine ⟨k, by omega, ?_⟩
                rw [g0, g1, if_pos rfl, if_pos rfl]; exact hc
              · by_cases e : x < k
                · refine ⟨x, by omega, ?_⟩
                  rw [g0, g1, if_neg (show ¬ x = k by omega), if_neg (show ¬ x = k by omega), if_neg (show ¬ (k < x ∧ x ≤ n) by omega), if_neg (show ¬ (k < x ∧ x ≤ n) by omega)]; exact hc
                · refine ⟨x + 1, by omega, ?_⟩
                  rw [g0, g1, if_neg (show ¬ x + 1 = k by omega), if_neg (show ¬ x + 1 = k by omega), if_pos (show k < x + 1 ∧ x + 1 ≤ n by omega), if_pos (show k < x + 1 ∧ x + 1 ≤ n by omega)]; exact hc
          have R : (∃ x, x < n + 1 ∧ ((sI (sA (sA M 32 (upd (M.2.2 32) n x1)) 33 (upd (M.2.2 33) n x2)) 31 (nI (n + 1))).2.2 32 x).toInt ≤ y ∧ y ≤ ((sI (sA (sA M 32 (upd (M.2.2 32) n x1)) 33 (upd (M.2.2 33) n x2)) 31 (nI (n + 1))).2.2 33 x).toInt) ↔ ((x1.toInt ≤ y ∧ y ≤ x2.toInt) ∨ ∃ x, x < n ∧ (M.2.2 32 x).toInt ≤ y ∧ y ≤ (M.2.2 33 x).toInt) := by
            constructor
            · rintro ⟨x, hx, hc⟩
              rw [m0, m1] at hc
              by_cases e : x = n
              · rw [if_pos e, if_pos e] at hc; exact Or.inl hc
              · rw [if_neg e, if_neg e] at hc; exact Or.inr ⟨x, by omega, hc⟩
            · rintro (hc | ⟨x, hx, hc⟩)
              · refine ⟨n, by omega, ?_⟩
                rw [m0, m1, if_pos rfl, if_pos rfl]; exact hc
              · refine ⟨x, by omega, ?_⟩
                rw [m0, m1, if_neg (show ¬ x = n by omega), if_neg (show ¬ x = n by omega)]; exact hc
          exact L.trans ((or_congr Iff.rfl (a5 y)).trans R.symm)
    · have d1 : decide ((1000 ≤ x1.toInt ∧ x1.toInt ≤ 2100) ∧ x1.toInt ≤ x2.toInt ∧ x2.toInt ≤ 2100) = false := decide_eq_false (fun k => c2 k.2)
      have d2 : ¬ decide (1000 ≤ x1.toInt ∧ x1.toInt ≤ 2100) = false := by simpa using c1
      have d3 : decide (x1.toInt ≤ x2.toInt ∧ x2.toInt ≤ 2100) = false := decide_eq_false c2
      rw [if_pos d1, if_neg d2, if_pos d3]
      exact ⟨_, _, _, rfl, rfl, h⟩
  · have d1 : decide ((1000 ≤ x1.toInt ∧ x1.toInt ≤ 2100) ∧ x1.toInt ≤ x2.toInt ∧ x2.toInt ≤ 2100) = false := decide_eq_false (fun k => c1 k.1)
    have d2 : decide (1000 ≤ x1.toInt ∧ x1.toInt ≤ 2100) = false := decide_eq_false c1
    rw [if_pos d1, if_pos d2]
    exact ⟨_, _, _, rfl, rfl, h⟩
