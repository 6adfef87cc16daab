/-! gaps -/
def cvr (M : St) (y : Int32) : Nat → Bool
  | 0 => false
  | k + 1 => cvr M y k || decide ((M.2.2 32 k).toInt ≤ y.toInt ∧ y.toInt ≤ (M.2.2 33 k).toInt)
theorem cvr_iff (M : St) (y : Int32) : ∀ n, cvr M y n = true ↔ ∃ k, k < n ∧ (M.2.2 32 k).toInt ≤ y.toInt ∧ y.toInt ≤ (M.2.2 33 k).toInt
  | 0 => by
    constructor
    · intro h; cases h
    · rintro ⟨k, hk, -⟩; exact absurd hk (Nat.not_lt_zero k)
  | n + 1 => by
    show (cvr M y n || decide ((M.2.2 32 n).toInt ≤ y.toInt ∧ y.toInt ≤ (M.2.2 33 n).toInt)) = true ↔ _
    rw [Bool.or_eq_true, cvr_iff M y n, decide_eq_true_iff]
    constructor
    · rintro (⟨k, hk, c⟩ | c)
      · exact ⟨k, by omega, c⟩
      · exact ⟨n, by omega, c⟩
    · rintro ⟨k, hk, c⟩
      by_cases e : k = n
      · subst e; exact Or.inr c
      · exact Or.inl ⟨k, by omega, c⟩
def tt (cv : Nat → Bool) : Nat → Nat
  | 0 => 0
  | j + 1 => tt cv j + (if cv j = true then 0 else 1)
def rr (cv : Nat → Bool) : Nat → Nat
  | 0 => 0
  | j + 1 => if cv j = true then 0 else rr cv j + 1
def ll (cv : Nat → Bool) : Nat → Nat
  | 0 => 0
  | j + 1 => if (if cv j = true then 0 else rr cv j + 1) ≤ ll cv j then ll cv j else (if cv j = true then 0 else rr cv j + 1)
theorem trl_b (cv : Nat → Bool) : ∀ j, tt cv j ≤ j ∧ rr cv j ≤ j ∧ ll cv j ≤ j
  | 0 => ⟨Nat.le_refl _, Nat.le_refl _, Nat.le_refl _⟩
  | j + 1 => by
    obtain ⟨h1, h2, h3⟩ := trl_b cv j
    show tt cv j + (if cv j = true then 0 else 1) ≤ j + 1 ∧ (if cv j = true then 0 else rr cv j + 1) ≤ j + 1 ∧ (if (if cv j = true then 0 else rr cv j + 1) ≤ ll cv j then ll cv j else (if cv j = true then 0 else rr cv j + 1)) ≤ j + 1
    cases cv j
    · rw [if_neg (by decide), if_neg (by decide)]
      refine ⟨by omega, by omega, ?_⟩
      split <;> omega
    · rw [if_pos rfl, if_pos rfl, if_pos (Nat.zero_le _)]
      omega
/-- years that none held -/
theorem blkU (cv : Nat → Bool) (j : Nat) (h0 : rr cv j = 0) : ∀ g, (∀ i, j ≤ i → i < j + g → cv i = false) → tt cv (j + g) = tt cv j + g ∧ rr cv (j + g) = g ∧ ll cv (j + g) = (if ll cv j < g then g else ll cv j)
  | 0, _ => ⟨rfl, h0, by rw [if_neg (Nat.not_lt_zero _)]; rfl⟩
  | g + 1, h => by
    obtain ⟨i1, i2, i3⟩ := blkU cv j h0 g (fun i h1 h2 => h i h1 (by omega))
    have c : cv (j + g) = false := h (j + g) (by omega) (by omega)
    show tt cv (j + g) + (if cv (j + g) = true then 0 else 1) = tt cv j + (g + 1) ∧ (if cv (j + g) = true then 0 else rr cv (j + g) + 1) = g + 1 ∧ (if (if cv (j + g) = true then 0 else rr cv (j + g) + 1) ≤ ll cv (j + g) then ll cv (j + g) else (if cv (j + g) = true then 0 else rr cv (j + g) + 1)) = (if ll cv j < g + 1 then g + 1 else ll cv j)
    rw [c, if_neg (by decide), if_neg (by decide), i1, i2, i3]
    refine ⟨by omega, rfl, ?_⟩
    by_cases c1 : ll cv j < g
    · rw [if_pos c1, if_neg (by omega), if_pos (by omega)]
    · rw [if_neg c1]
      by_cases c2 : ll cv j < g + 1
      · rw [if_neg (by omega), if_pos c2]
      · rw [if_pos (by omega), if_neg c2]
/-- years that one held -/
theorem blkC (cv : Nat → Bool) (j : Nat) : ∀ g, (∀ i, j ≤ i → i < j + g → cv i = true) → tt cv (j + g) = tt cv j ∧ ll cv (j + g) = ll cv j ∧ (g = 0 ∨ rr cv (j + g) = 0)
  | 0, _ => ⟨rfl, rfl, Or.inl rfl⟩
  | g + 1, h => by
    obtain ⟨i1, i2, i3⟩ := blkC cv j g (fun i h1 h2 => h i h1 (by omega))
    have c : cv (j + g) = true := h (j + g) (by omega) (by omega)
    show tt cv (j + g) + (if cv (j + g) = true then 0 else 1) = tt cv j ∧ (if (if cv (j + g) = true then 0 else rr cv (j + g) + 1) ≤ ll cv (j + g) then ll cv (j + g) else (if cv (j + g) = true then 0 else rr cv (j + g) + 1)) = ll cv j ∧ (g + 1 = 0 ∨ (if cv (j + g) = true then 0 else rr cv (j + g) + 1) = 0)
    rw [c, if_pos rfl, if_pos rfl, if_pos (Nat.zero_le _)]
    exact ⟨i1, i2, Or.inr rfl⟩
theorem gp43 {N n : Nat} (hN : 50 ≤ N) {M : St} (hM : M.1 31 = nI n) (hn : n ≤ 20) (k31 : St → Int32 → Int32 → Int32 → Int32 → Int32 → Option (Int32 × St)) (x2 x3 x4 x5 y : Int32) :
    f_X8_gaps_43 N k31 N M x2 x3 x4 x5 y 0 0 = if cvr M y n = true then (if (0 : Int32) ≤ x5 then k31 M x2 (x3 + 0) 0 x5 (y + 1) else k31 M x2 (x3 + 0) 0 0 (y + 1)) else (if x4 + 1 ≤ x5 then k31 M x2 (x3 + 1) (x4 + 1) x5 (y + 1) else k31 M x2 (x3 + 1) (x4 + 1) (x4 + 1) (y + 1)) := by
  refine lpN (fun q k (x : Int32) => f_X8_gaps_43 N k31 q M x2 x3 x4 x5 y x (nI k)) (fun k => bI (cvr M y k)) n _ ?_ ?_ n N 0 (by omega) (by omega)
  · intro q k hk
    try dsimp only
    rw [show cvr M y (k + 1) = (cvr M y k || decide ((M.2.2 32 k).toInt ≤ y.toInt ∧ y.toInt ≤ (M.2.2 33 k).toInt)) from rfl]
    generalize cvr M y k = b
    show f_X8_gaps_43_b N k31 (fun y0 y1 y2 y3 y4 y5 y6 y7 => f_X8_gaps_43 N k31 q y0 y1 y2 y3 y4 y5 y6 y7) M x2 x3 x4 x5 y (bI b) (nI k) = _
    unfold f_X8_gaps_43_b f_X8_gaps_84 f_X8_gaps_79 f_X8_gaps_84
    rw [if_neg (lt_lit hM hk (by omega)), in8]
    simp only [bI_0, isW, Option.bind_some, if_pos (inb_nI (show k < 20 by omega) (by omega)), cl_nI (show k ≤ 100000 by omega), nI_1]
    cases b
    · rw [if_pos rfl]
      cases decide ((M.2.2 32 k).toInt ≤ y.toInt ∧ y.toInt ≤ (M.2.2 33 k).toInt)
      · rw [if_pos rfl]; rfl
      · rw [if_neg (by decide)]; rfl
    · rw [if_neg (by decide)]; rfl
  · intro q
    try dsimp only
    generalize cvr M y n = b
    show f_X8_gaps_43_b N k31 (fun y0 y1 y2 y3 y4 y5 y6 y7 => f_X8_gaps_43 N k31 q y0 y1 y2 y3 y4 y5 y6 y7) M x2 x3 x4 x5 y (bI b) (nI n) = _
    unfold f_X8_gaps_43_b f_X8_gaps_105 f_X8_gaps_118 f_X8_gaps_134
    rw [if_pos (ge_lit hM)]
    simp only [bI_0]
    cases b
    · rw [if_pos rfl, if_pos rfl, if_neg (show ¬ false = true by decide)]
    · rw [if_neg (show ¬ true = false by decide), if_neg (show ¬ true = false by decide), if_pos rfl]
theorem gp8 {N n : Nat} (hN : 2200 ≤ N) {M : St} (hM : M.1 31 = nI n) (hn : n ≤ 20) {a b : Nat} (h1 : 1000 ≤ a) (h2 : a ≤ b) (h3 : b ≤ 2100) :
    f_X8_gaps_31 N N M (nI b) 0 0 0 (nI a) = some (nI (tt (fun j => cvr M (nI (a + j)) n) (b + 1 - a)), sI M 2 (nI (ll (fun j => cvr M (nI (a + j)) n) (b + 1 - a)))) := by
  generalize hc : (fun j => cvr M (nI (a + j)) n) = cv
  have ec : ∀ j, cvr M (nI (a + j)) n = cv j := fun j => by rw [← hc]
  refine lpN (fun q j (x : Int32 × Int32 × Int32) => f_X8_gaps_31 N q M (nI b) x.1 x.2.1 x.2.2 (nI (a + j))) (fun j => (nI (tt cv j), nI (rr cv j), nI (ll cv j))) (b + 1 - a) _ ?_ ?_ (b + 1 - a) N 0 (by omega) (by omega)
  · intro q j hj
    obtain ⟨b1, b2, b3⟩ := trl_b cv j
    try dsimp only
    rw [show tt cv (j + 1) = tt cv j + (if cv j = true then 0 else 1) from rfl, show rr cv (j + 1) = if cv j = true then 0 else rr cv j + 1 from rfl, show ll cv (j + 1) = if (if cv j = true then 0 else rr cv j + 1) ≤ ll cv j then ll cv j else (if cv j = true then 0 else rr cv j + 1) from rfl]
    generalize tt cv j = t at *
    generalize rr cv j = r at *
    generalize ll cv j = l at *
    show f_X8_gaps_31_b N (fun y0 y1 y2 y3 y4 y5 => f_X8_gaps_31 N q y0 y1 y2 y3 y4 y5) M (nI b) (nI t) (nI r) (nI l) (nI (a + j)) = _
    unfold f_X8_gaps_31_b
    rw [if_neg (show ¬ nI b < nI (a + j) by rw [lt_nI (by omega) (by omega)]; omega), gp43 (show 50 ≤ N by omega) hM hn, ec j]
    cases cv j
    · simp only [Bool.false_eq_true, if_false, nI_1, le_nI (show r + 1 ≤ 100000 by omega) (show l ≤ 100000 by omega)]
      by_cases c : r + 1 ≤ l
      · rw [if_pos c, if_pos c]; rfl
      · rw [if_neg c, if_neg c]; rfl
    · simp only [if_true]
      rw [if_pos (Nat.zero_le l), nI_1, Int32.add_zero, if_pos (show (0 : Int32) ≤ nI l by rw [show (0 : Int32) = nI 0 from rfl, le_nI (by omega) (by omega)]; omega)]
      rfl
  · intro q
    try dsimp only
    generalize nI (tt cv (b + 1 - a)) = t
    generalize nI (rr cv (b + 1 - a)) = r
    generalize nI (ll cv (b + 1 - a)) = l
    show f_X8_gaps_31_b N (fun y0 y1 y2 y3 y4 y5 => f_X8_gaps_31 N q y0 y1 y2 y3 y4 y5) M (nI b) t r l (nI (a + (b + 1 - a))) = _
    unfold f_X8_gaps_31_b f_X8_tells
    rw [if_pos (show nI b < nI (a + (b + 1 - a)) by rw [lt_nI (by omega) (by omega)]; omega)]
    rfl
theorem sI4 (S : St) (a b c d : Int32) : sI (sI (sI (sI S 3 a) 4 b) 3 c) 4 d = sI (sI S 3 c) 4 d := by
  unfold sI
  refine Prod.ext ?_ rfl
  funext j
  show upd (upd (upd (upd S.1 3 a) 4 b) 3 c) 4 d j = upd (upd S.1 3 c) 4 d j
  unfold upd
  by_cases e4 : j = 4
  · rw [if_pos e4, if_pos e4]
  · by_cases e3 : j = 3
    · simp only [if_pos e3, if_neg e4]
    · simp only [if_neg e3, if_neg e4]
theorem sub_nI {u c : Nat} (h : c ≤ u) (hu : u ≤ 100000) : nI u - nI c = nI (u - c) := by
  rw [fa_eq, fb_subI (by rw [ti_nI (by omega), ti_nI (by omega)]; omega) (by rw [ti_nI (by omega), ti_nI (by omega)]; omega), ti_nI (by omega), ti_nI (by omega), ti_nI (by omega)]
  omega
theorem gap_add (N : Nat) (S : St) {t l u c : Nat} (hu : u ≤ 5000) (hc : c ≤ 5000) (hl : l ≤ 5000) : f_X4_addGap N (sI (sI S 3 (nI t)) 4 (nI l)) (nI u - nI c) = some (sI (sI S 3 (nI (t + (u - c)))) 4 (nI (if l < u - c then u - c else l))) := by
  unfold f_X4_addGap
  have e3 : (sI (sI S 3 (nI t)) 4 (nI l)).1 3 = nI t := rfl
  have e4 : (sI (sI S 3 (nI t)) 4 (nI l)).1 4 = nI l := rfl
  by_cases h : u ≤ c
  · rw [if_pos (show nI u - nI c ≤ 0 by rw [fa_le, fb_subI (by rw [ti_nI (by omega), ti_nI (by omega)]; omega) (by rw [ti_nI (by omega), ti_nI (by omega)]; omega), ti_nI (by omega), ti_nI (by omega), tl_0]; omega), show u - c = 0 by omega, if_neg (Nat.not_lt_zero _)]
    rfl
  · rw [sub_nI (by omega) (by omega), if_neg (show ¬ nI (u - c) ≤ 0 by rw [show (0 : Int32) = nI 0 from rfl, le_nI (by omega) (by omega)]; omega), e3, e4, nI_add, sI4]
    simp only [lt_nI (show l ≤ 100000 by omega) (show u - c ≤ 100000 by omega)]
    by_cases k : l < u - c
    · rw [if_pos k, if_pos k]
    · rw [if_neg k, if_neg k]
theorem gp4 {N n : Nat} (hN : 50 ≤ N) {S : St} (hS : S.1 2 = nI n) (hn : n ≤ 20) (hb : ∀ k, k < n → 1000 ≤ (S.2.2 0 k).toInt ∧ (S.2.2 0 k).toInt ≤ (S.2.2 1 k).toInt ∧ (S.2.2 1 k).toInt ≤ 2100)
    (hs : ∀ i j, i < j → j < n → (S.2.2 0 i).toInt ≤ (S.2.2 0 j).toInt) {a b : Nat} (h1 : 1000 ≤ a) (h2 : a ≤ b) (h3 : b ≤ 2100) (cv : Nat → Bool)
    (hcv : ∀ j, j ≤ 1200 → (cv j = true ↔ ∃ k, k < n ∧ (S.2.2 0 k).toInt ≤ ((a + j : Nat) : Int) ∧ ((a + j : Nat) : Int) ≤ (S.2.2 1 k).toInt)) :
    ∀ (m i q c t l : Nat), i + m = n → m < q → a ≤ c → c ≤ 2101 → (∀ k, k < i → (S.2.2 1 k).toInt < (c : Int)) → (c ≤ b + 1 → t = tt cv (c - a) ∧ l = ll cv (c - a) ∧ (rr cv (c - a) = 0 ∨ c = b + 1)) → (b + 1 ≤ c → t = tt cv (b + 1 - a) ∧ l = ll cv (b + 1 - a)) → l ≤ 5000 →
      f_X4_findGaps_15 N q (sI (sI S 3 (nI t)) 4 (nI l)) (nI b) (nI c) (nI i) = some (sI (sI S 3 (nI (tt cv (b + 1 - a)))) 4 (nI (ll cv (b + 1 - a)))) := by
  intro m
  induction m with
  | zero =>
    intro i q c t l hi hq hac hc hk hI hJ hl
    obtain ⟨q, rfl⟩ : ∃ z, q = z + 1 := ⟨q - 1, by omega⟩
    have : i = n := by omega
    subst this
    have e2 : (sI (sI S 3 (nI t)) 4 (nI l)).1 2 = nI i := hS
    have GA := gap_add N S (t := t) (l := l) (u := b + 1) (c := c) (by omega) (by omega) hl
    have R : sI (sI S 3 (nI (t + (b + 1 - c)))) 4 (nI (if l < b + 1 - c then b + 1 - c else l)) = sI (sI S 3 (nI (tt cv (b + 1 - a)))) 4 (nI (ll cv (b + 1 - a))) := by
      by_cases cb : b + 1 ≤ c
      · obtain ⟨t1, t2⟩ := hJ cb
        rw [show b + 1 - c = 0 by omega, if_neg (Nat.not_lt_zero _), Nat.add_zero, t1, t2]
      · obtain ⟨t1, t2, t3⟩ := hI (by omega)
        have r0 : rr cv (c - a) = 0 := by omega
        obtain ⟨u1, u2, u3⟩ := blkU cv (c - a) r0 (b + 1 - c) (fun j j1 j2 => by
          rw [← Bool.not_eq_true, hcv j (by omega)]
          rintro ⟨k, hk1, hk2, hk3⟩
          have := hk k hk1
          omega)
        rw [show c - a + (b + 1 - c) = b + 1 - a by omega] at u1 u3
        rw [u1, u3, t1, t2]
    generalize sI (sI S 3 (nI t)) 4 (nI l) = T at *
    show f_X4_findGaps_15_b N (fun y0 y1 y2 y3 => f_X4_findGaps_15 N q y0 y1 y2 y3) T (nI b) (nI c) (nI i) = _
    unfold f_X4_findGaps_15_b
    rw [if_pos (ge_lit e2), nI_1, GA, Option.bind_some, R]
  | succ m ih =>
    intro i q c t l hi hq hac hc hk hI hJ hl
    obtain ⟨q, rfl⟩ : ∃ z, q = z + 1 := ⟨q - 1, by omega⟩
    have hin : i < n := by omega
    obtain ⟨b1, b2, b3⟩ := hb i hin
    obtain ⟨s, s1, s2, es, ts⟩ := yr_nI (v := S.2.2 0 i) b1 (by omega)
    obtain ⟨e, e1, e2, ee, te⟩ := yr_nI (v := S.2.2 1 i) (by omega) b3
    have z2 : (sI (sI S 3 (nI t)) 4 (nI l)).1 2 = nI n := hS
    have z0 : (sI (sI S 3 (nI t)) 4 (nI l)).2.2 0 i = nI s := es
    have GA := gap_add N S (t := t) (l := l) (u := if b + 1 < s then b + 1 else s) (c := c) (by split <;> omega) (by omega) hl
    have uu : (if nI b + 1 < nI s then nI b + 1 else nI s) = nI (if b + 1 < s then b + 1 else s) := by
      simp only [nI_1, lt_nI (show b + 1 ≤ 100000 by omega) (show s ≤ 100000 by omega)]
      by_cases k : b + 1 < s
      · rw [if_pos k, if_pos k]
      · rw [if_neg k, if_neg k]
    have cc : (if nI c < nI e + 1 then nI e + 1 else nI c) = nI (if c < e + 1 then e + 1 else c) := by
      simp only [nI_1, lt_nI (show c ≤ 100000 by omega) (show e + 1 ≤ 100000 by omega)]
      by_cases k : c < e + 1
      · rw [if_pos k, if_pos k]
      · rw [if_neg k, if_neg k]
    have lb : ∀ j, j ≤ 1200 → ll cv j ≤ 5000 := fun j hj => by have := (trl_b cv j).2.2; omega
    -- the step's meaning
    have goal : f_X4_findGaps_15 N q (sI (sI S 3 (nI (t + ((if b + 1 < s then b + 1 else s) - c)))) 4 (nI (if l < (if b + 1 < s then b + 1 else s) - c then (if b + 1 < s then b + 1 else s) - c else l))) (nI b) (nI (if c < e + 1 then e + 1 else c)) (nI (i + 1)) = some (sI (sI S 3 (nI (tt cv (b + 1 - a)))) 4 (nI (ll cv (b + 1 - a)))) := by
      have kk : ∀ k, k < i + 1 → (S.2.2 1 k).toInt < ((if c < e + 1 then e + 1 else c : Nat) : Int) := by
        intro k hk1
        by_cases ek : k = i
        · subst ek; split <;> omega
        · have := hk k (by omega)
          split <;> omega
      by_cases cb : b + 1 ≤ c
      · -- past the end
        obtain ⟨t1, t2⟩ := hJ cb
        have g0 : (if b + 1 < s then b + 1 else s) - c = 0 ∨ c < s := by split <;> omega
        have g0 : (if b + 1 < s then b + 1 else s) - c = 0 := by split <;> omega
        rw [g0, if_neg (Nat.not_lt_zero _), Nat.add_zero]
        refine ih (i + 1) q _ t l (by omega) (by omega) (by split <;> omega) (by split <;> omega) kk (fun k => ?_) (fun _ => ⟨t1, t2⟩) hl
        have ce : (if c < e + 1 then e + 1 else c) = b + 1 := by
          revert k; split <;> omega
        rw [ce]
        exact ⟨t1, t2, Or.inr rfl⟩
      · obtain ⟨t1, t2, t3⟩ := hI (by omega)
        have r0 : rr cv (c - a) = 0 := by omega
        by_cases cs : s ≤ c
        · -- no gap ahead of it
          have g0 : (if b + 1 < s then b + 1 else s) - c = 0 := by split <;> omega
          rw [g0, if_neg (Nat.not_lt_zero _), Nat.add_zero]
          by_cases ce : c < e + 1
          · rw [if_pos ce] at kk ⊢
            by_cases eb : e + 1 ≤ b + 1
            · obtain ⟨v1, v2, v3⟩ := blkC cv (c - a) (e + 1 - c) (fun j j1 j2 => by
                rw [hcv j (by omega)]
                exact ⟨i, hin, by omega, by omega⟩)
              rw [show c - a + (e + 1 - c) = e + 1 - a by omega] at v1 v2 v3
              refine ih (i + 1) q (e + 1) t l (by omega) (by omega) (by omega) (by omega) kk (fun _ => ⟨by omega, by omega, by omega⟩) (fun k => ?_) hl
              have : e + 1 = b + 1 := by omega
              rw [← this]
              exact ⟨by omega, by omega⟩
            · obtain ⟨v1, v2, v3⟩ := blkC cv (c - a) (b + 1 - c) (fun j j1 j2 => by
                rw [hcv j (by omega)]
                exact ⟨i, hin, by omega, by omega⟩)
              rw [show c - a + (b + 1 - c) = b + 1 - a by omega] at v1 v2 v3
              exact ih (i + 1) q (e + 1) t l (by omega) (by omega) (by omega) (by omega) kk (fun k => by omega) (fun k => ⟨by omega, by omega⟩) hl
          · rw [if_neg ce] at kk ⊢
            exact ih (i + 1) q c t l (by omega) (by omega) hac hc kk hI hJ hl
        · -- a gap ahead of it
          have later : ∀ j, i ≤ j → j < n → (s : Int) ≤ (S.2.2 0 j).toInt := by
            intro j j1 j2
            by_cases ej : j = i
            · subst ej; omega
            · have := hs i j (by omega) j2
              omega
          rw [if_pos (show c < e + 1 by omega)] at kk ⊢
          by_cases sb : b + 1 < s
          · rw [if_pos sb]
            obtain ⟨u1, u2, u3⟩ := blkU cv (c - a) r0 (b + 1 - c) (fun j j1 j2 => by
              rw [← Bool.not_eq_true, hcv j (by omega)]
              rintro ⟨k, hk1, hk2, hk3⟩
              by_cases ki : k < i
              · have := hk k ki; omega
              · have := later k (by omega) hk1; omega)
            rw [show c - a + (b + 1 - c) = b + 1 - a by omega] at u1 u3
            rw [← t1] at u1
            rw [← t2] at u3
            refine ih (i + 1) q (e + 1) _ _ (by omega) (by omega) (by omega) (by omega) kk (fun k => by omega) (fun _ => ⟨u1.symm, u3.symm⟩) ?_
            rw [← u3]
            exact lb _ (by omega)
          · rw [if_neg sb]
            obtain ⟨u1, u2, u3⟩ := blkU cv (c - a) r0 (s - c) (fun j j1 j2 => by
              rw [← Bool.not_eq_true, hcv j (by omega)]
              rintro ⟨k, hk1, hk2, hk3⟩
              by_cases ki : k < i
              · have := hk k ki; omega
              · have := later k (by omega) hk1; omega)
            rw [show c - a + (s - c) = s - a by omega] at u1 u2 u3
            rw [← t1] at u1
            rw [← t2] at u3
            by_cases eb : e + 1 ≤ b + 1
            · obtain ⟨v1, v2, v3⟩ := blkC cv (s - a) (e + 1 - s) (fun j j1 j2 => by
                rw [hcv j (by omega)]
                exact ⟨i, hin, by omega, by omega⟩)
              rw [show s - a + (e + 1 - s) = e + 1 - a by omega] at v1 v2 v3
              refine ih (i + 1) q (e + 1) _ _ (by omega) (by omega) (by omega) (by omega) kk (fun _ => ⟨(v1.trans u1).symm, (v2.trans u3).symm, by omega⟩) (fun k => ?_) ?_
              · have : e + 1 = b + 1 := by omega
                rw [← this]
                exact ⟨(v1.trans u1).symm, (v2.trans u3).symm⟩
              · rw [← u3]; exact lb _ (by omega)
            · obtain ⟨v1, v2, v3⟩ := blkC cv (s - a) (b + 1 - s) (fun j j1 j2 => by
                rw [hcv j (by omega)]
                exact ⟨i, hin, by omega, by omega⟩)
              rw [show s - a + (b + 1 - s) = b + 1 - a by omega] at v1 v2 v3
              refine ih (i + 1) q (e + 1) _ _ (by omega) (by omega) (by omega) (by omega) kk (fun k => by omega) (fun k => ⟨(v1.trans u1).symm, (v2.trans u3).symm⟩) ?_
              rw [← u3]; exact lb _ (by omega)
    have z1 : ∀ x y, (sI (sI S 3 x) 4 y).2.2 1 i = nI e := fun x y => ee
    generalize sI (sI S 3 (nI t)) 4 (nI l) = T at *
    show f_X4_findGaps_15_b N (fun y0 y1 y2 y3 => f_X4_findGaps_15 N q y0 y1 y2 y3) T (nI b) (nI c) (nI i) = _
    unfold f_X4_findGaps_15_b
    rw [if_neg (lt_lit z2 hin (by omega)), if_pos (inb_nI (show i < 20 by omega) (by omega)), cl_nI (show i ≤ 100000 by omega), z0, uu, GA, Option.bind_some, if_pos (inb_nI (show i < 20 by omega) (by omega)), z1, cc, nI_1]
    exact goal
theorem sim_gaps {N : Nat} (hN : 2200 ≤ N) {S7 S5 S6 S2 S4 S3 S0 M : St} (h : Rel S7 S5 S6 S2 S4 S3 S0 M) (x1 : Int32) (x2 : Int32) : ∃ (r : Int32) (T7 : St) (T4 : St) (T8 : St), f_X7_gaps N S7 S4 x1 x2 = some (r, T7, T4) ∧ f_X8_gaps N M x1 x2 = some (r, T8) ∧ Rel T7 S5 S6 S2 T4 S3 S0 T8 := by
  obtain ⟨n, hn, a1, a2, a3, a4, a5⟩ := id h.2.2.2.2.1
  unfold f_X7_gaps f_X8_gaps
  simp only [areYears7, isYear8, isYear7, in8, isW, Option.bind_some, bI_0, tl_2100]
  by_cases c1 : 1000 ≤ x1.toInt ∧ x1.toInt ≤ 2100
  · by_cases c2 : x1.toInt ≤ x2.toInt ∧ x2.toInt ≤ 2100
    · have d1 : ¬ decide ((1000 ≤ x1.toInt ∧ x1.toInt ≤ 2100) ∧ x1.toInt ≤ x2.toInt ∧ x2.toInt ≤ 2100) = false := by rw [decide_eq_false_iff_not]; exact not_not_intro ⟨c1, c2⟩
      have d2 : ¬ decide (1000 ≤ x1.toInt ∧ x1.toInt ≤ 2100) = false := by simpa using c1
      have d3 : ¬ decide (x1.toInt ≤ x2.toInt ∧ x2.toInt ≤ 2100) = false := by simpa using c2
      rw [if_neg d1, if_neg d2, if_neg d3]
      obtain ⟨a, b1, b2, rfl, ta⟩ := yr_nI c1.1 c1.2
      obtain ⟨b, b3, b4, rfl, tb⟩ := yr_nI (by omega) c2.2
      have K := gp4 (N := N) (by omega) a1 hn a3 a4 b1 (show a ≤ b by omega) b4 (fun j => cvr M (nI (a + j)) n) (fun j hj => by
        rw [cvr_iff, ti_nI (by omega)]
        exact (a5 _).symm) n 0 N a 0 0 (by omega) (by omega) (Nat.le_refl _) (by omega) (fun k hk => absurd hk (Nat.not_lt_zero k)) (fun _ => by
          rw [Nat.sub_self]
          exact ⟨rfl, rfl, Or.inl rfl⟩) (fun k => by omega) (by omega)
      rw [gp8 hN a2 hn b1 (show a ≤ b by omega) b4]
      unfold f_X4_findGaps
      rw [show f_X4_findGaps_15 N N (sI (sI S4 3 0) 4 0) (nI b) (nI a) 0 = _ from K, Option.bind_some]
      refine ⟨_, _, _, _, rfl, rfl, ?_⟩
      have r := Rel_ask h (nI (ll (fun j => cvr M (nI (a + j)) n) (b + 1 - a)))
      exact r
    · have d1 : decide ((1000 ≤ x1.toInt ∧ x1.toInt ≤ 2100) ∧ x1.toInt ≤ x2.toInt ∧ x2.toInt ≤ 2100) = false := decide_eq_false (fun k => c2 k.2)
      have d2 : ¬ decide (1000 ≤ x1.toInt ∧ x1.toInt ≤ 2100) = false := by simpa using c1
      have d3 : decide (x1.toInt ≤ x2.toInt ∧ x2.toInt ≤ 2100) = false := decide_eq_false c2
      rw [if_pos d1, if_neg d2, if_pos d3]
      exact ⟨_, _, _, _, rfl, rfl, h⟩
  · have d1 : decide ((1000 ≤ x1.toInt ∧ x1.toInt ≤ 2100) ∧ x1.toInt ≤ x2.toInt ∧ x2.toInt ≤ 2100) = false := decide_eq_false (fun k => c1 k.1)
    have d2 : decide (1000 ≤ x1.toInt ∧ x1.toInt ≤ 2100) = false := decide_eq_false c1
    rw [if_pos d1, if_pos d2]
    exact ⟨_, _, _, _, rfl, rfl, h⟩
