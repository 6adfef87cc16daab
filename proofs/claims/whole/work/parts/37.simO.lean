/-! fractions -/
theorem euc {ρ : Type} (F : Nat → Nat → Nat → Nat → Option ρ) (dn : Nat → Option ρ) (H0 : ∀ q c a, 0 < a → a < 2 ^ 63 → F (q + 1) c a 0 = dn a)
    (H1 : ∀ q c a b, 0 < b → c < 1000 → a < 2 ^ 63 → b < 2 ^ 63 → F (q + 1) c a b = F q (c + 1) b (a % b)) :
    ∀ k q c a b, b < 2 ^ k → a < 2 ^ 63 → b < 2 ^ 63 → 0 < a + b → c + 2 * k ≤ 990 → 2 * k + 2 ≤ q → F q c a b = dn (Nat.gcd a b) := by
  intro k
  induction k with
  | zero =>
    intro q c a b hb ha _ h0 hc hq
    have : b = 0 := by omega
    subst this
    obtain ⟨q, rfl⟩ : ∃ p, q = p + 1 := ⟨q - 1, by omega⟩
    rw [H0 q c a (by omega) ha, Nat.gcd_zero_right]
  | succ k ih =>
    intro q c a b hb ha hb2 h0 hc hq
    obtain ⟨q, rfl⟩ : ∃ p, q = p + 1 + 1 := ⟨q - 2, by omega⟩
    have g1 : ∀ x y : Nat, Nat.gcd x y = Nat.gcd y (x % y) := fun x y => by rw [Nat.gcd_comm x y, Nat.gcd_rec y x, Nat.gcd_comm]
    by_cases e : b = 0
    · subst e
      rw [H0 _ c a (by omega) ha, Nat.gcd_zero_right]
    · rw [H1 _ c a b (by omega) (by omega) ha hb2, g1 a b]
      have r1 : a % b < b := Nat.mod_lt _ (by omega)
      by_cases e2 : a % b = 0
      · rw [e2, H0 _ (c + 1) b (by omega) hb2, Nat.gcd_zero_right]
      · rw [H1 _ (c + 1) b (a % b) (by omega) (by omega) hb2 (by omega), g1 b (a % b)]
        have r2 : b % (a % b) < a % b := Nat.mod_lt _ (by omega)
        have r3 : b % (a % b) + a % b ≤ b := by
          have := Nat.div_add_mod b (a % b)
          have d : 1 ≤ b / (a % b) := (Nat.one_le_div_iff (by omega)).mpr (by omega)
          have m : a % b * 1 ≤ a % b * (b / (a % b)) := Nat.mul_le_mul_left _ d
          omega
        have hp : 2 ^ (k + 1) = 2 * 2 ^ k := by rw [Nat.pow_succ, Nat.mul_comm]
        exact ih q (c + 1 + 1) (a % b) (b % (a % b)) (by omega) (by omega) (by omega) (by omega) (by omega) (by omega)
theorem l_of {x : Int64} (h : 0 ≤ x.toInt) : ∃ n : Nat, n < 2 ^ 63 ∧ x = lN n ∧ x.toInt = n := by
  have b := x.toInt_lt
  refine ⟨x.toInt.toNat, by omega, ?_, by omega⟩
  apply Int64.toInt_inj.mp
  show x.toInt = (Int64.ofNat x.toInt.toNat).toInt
  rw [Int64.toInt_ofNat_of_lt (by omega)]
  omega
theorem l_0 : (0 : Int64) = lN 0 := rfl
theorem lN_0 {n : Nat} (h : n < 2 ^ 63) : (lN n = 0) = (n = 0) := propext (by rw [l_0]; exact fb_lN_inj h (by decide))
theorem div7 {N : Nat} (hN : 200 ≤ N) {a b : Nat} (ha : a < 2 ^ 63) (hb : b < 2 ^ 63) (h0 : 0 < a + b) : f_X7_commonDivisor N (lN a) (lN b) = some (lN (Nat.gcd a b)) := by
  unfold f_X7_commonDivisor
  refine euc (fun q c x y => f_X7_commonDivisor_3 N q (lN x) (lN y) (nI c)) (fun g => some (lN g)) ?_ ?_ 63 N 0 a b hb ha hb h0 (by omega) (by omega)
  · intro q c a _ ha
    show f_X7_commonDivisor_3_b N (fun y0 y1 y2 => f_X7_commonDivisor_3 N q y0 y1 y2) (lN a) (lN 0) (nI c) = _
    unfold f_X7_commonDivisor_3_b
    rw [if_pos (show lg_cmp (lN 0) 0 = 0 from rfl)]
  · intro q c a b hb0 hc ha hb
    show f_X7_commonDivisor_3_b N (fun y0 y1 y2 => f_X7_commonDivisor_3 N q y0 y1 y2) (lN a) (lN b) (nI c) = f_X7_commonDivisor_3 N q (lN b) (lN (a % b)) (nI (c + 1))
    unfold f_X7_commonDivisor_3_b
    have nz : ¬ lN b = 0 := by rw [lN_0 hb]; omega
    rw [if_neg (by rw [ce64]; exact nz), if_neg (show ¬ (1000 : Int32) ≤ nI c from fun k => absurd ((nI_leI (a := 1000) (by omega) (by omega)).mp k) (by omega)), if_neg nz, pk_lRem ha hb0 hb, nI_1]
theorem div8 {N : Nat} (hN : 200 ≤ N) (M : St) (x1 x3 : Int64) {a b : Nat} (ha : a < 2 ^ 63) (hb : b < 2 ^ 63) (h0 : 0 < a + b) : f_X8_fraction_17 N N M x1 x3 1 (lN a) (lN b) = some (1, sL (sL M 3 (x1 / lN (Nat.gcd a b))) 4 (x3 / lN (Nat.gcd a b))) := by
  refine euc (fun q c x y => f_X8_fraction_17 N q M x1 x3 1 (lN x) (lN y)) (fun g => some (1, sL (sL M 3 (x1 / lN g)) 4 (x3 / lN g))) ?_ ?_ 63 N 0 a b hb ha hb h0 (by omega) (by omega)
  · intro q c a a0 ha
    show f_X8_fraction_17_b N (fun y0 y1 y2 y3 y4 y5 => f_X8_fraction_17 N q y0 y1 y2 y3 y4 y5) M x1 x3 1 (lN a) (lN 0) = _
    unfold f_X8_fraction_17_b
    have nz : ¬ lN a = 0 := by rw [lN_0 ha]; omega
    rw [if_pos (show lg_cmp (lN 0) 0 = 0 from rfl), if_neg nz, if_neg nz]
  · intro q c a b hb0 hc ha hb
    show f_X8_fraction_17_b N (fun y0 y1 y2 y3 y4 y5 => f_X8_fraction_17 N q y0 y1 y2 y3 y4 y5) M x1 x3 1 (lN a) (lN b) = f_X8_fraction_17 N q M x1 x3 1 (lN b) (lN (a % b))
    unfold f_X8_fraction_17_b
    have nz : ¬ lN b = 0 := by rw [lN_0 hb]; omega
    rw [if_neg (by rw [ce64]; exact nz), if_neg nz, pk_lRem ha hb0 hb]
theorem cg64 (a b : Int64) : (0 ≤ lg_cmp a b) = (b ≤ a) := by
  have h1 := cm64 a b
  have h2 := ce64 a b
  apply propext
  have e : (0 ≤ lg_cmp a b) ↔ (0 < lg_cmp a b ∨ lg_cmp a b = 0) := by
    rw [fa_le, fa_lt, fa_eq, tl_0]; omega
  rw [e, h1, h2, fa_le64, fa_lt64, fa_eq64]
  omega
theorem frac {N : Nat} (hN : 200 ≤ N) {S7 S5 S6 S2 S4 S3 S0 M : St} (h : Rel S7 S5 S6 S2 S4 S3 S0 M) {x y : Int64} (hx : 0 ≤ x.toInt) (hy : 0 < y.toInt) :
    ∃ T7 T8 : St, f_X7_tellFraction N S7 x y = some T7 ∧ f_X8_fraction N M x y 1 = some (1, T8) ∧ Rel T7 S5 S6 S2 S4 S3 S0 T8 := by
  obtain ⟨a, ha, ex, -⟩ := l_of hx
  obtain ⟨b, hb, ey, eb⟩ := l_of (Int.le_of_lt hy)
  have b0 : 0 < b := by omega
  unfold f_X7_tellFraction f_X8_fraction f_X8_fraction_12
  rw [if_pos (by rw [cg64, fa_le64]; exact hx)]
  subst ex ey
  rw [div7 hN ha hb (by omega), div8 hN M _ _ ha hb (by omega)]
  have g0 : 0 < Nat.gcd a b := Nat.gcd_pos_of_pos_right _ b0
  have g1 : Nat.gcd a b < 2 ^ 63 := Nat.lt_of_le_of_lt (Nat.gcd_le_right _ b0) hb
  have e : (if lN (Nat.gcd a b) < 1 then (1 : Int64) else lN (Nat.gcd a b)) = lN (Nat.gcd a b) := by
    refine if_neg ?_
    rw [fa_lt64, show (lN (Nat.gcd a b)).toInt = (Nat.gcd a b : Int) from Int64.toInt_ofNat_of_lt g1, show (1 : Int64).toInt = 1 from rfl]
    omega
  have nz : ¬ lN (Nat.gcd a b) = 0 := by rw [lN_0 g1]; omega
  rw [Option.bind_some, e, if_neg nz, if_neg nz]
  obtain ⟨h1, h2, h3, h4, h5, h6, h7, h8⟩ := h.1
  exact ⟨_, _, rfl, rfl, ⟨h1, h2, h3, h4, h5, rfl, rfl, h8⟩, h.2⟩
theorem sim_chance {N : Nat} (hN : 2200 ≤ N) {S7 S5 S6 S2 S4 S3 S0 M : St} (h : Rel S7 S5 S6 S2 S4 S3 S0 M) (x1 : Int32) : ∃ (r : Int32) (T7 : St) (T8 : St), f_X7_chance N S7 S2 x1 = some (r, T7) ∧ f_X8_chance N M x1 = some (r, T8) ∧ Rel T7 S5 S6 S2 S4 S3 S0 T8 := by
  obtain ⟨n, hn, a1, a2, -⟩ := id h.2.2.2.1
  have hR := h.2.2.2.1
  unfold f_X7_chance f_X8_chance
  simp only [isHand8, isHand7, Option.bind_some, bI_0, all2 (N := N) (by omega) hR a2 hn, all8 (N := N) (by omega) a2 hn, ref7_4, ref8_4]
  by_cases c : 0 ≤ x1.toInt ∧ x1.toInt ≤ 3
  · obtain ⟨k, hk, rfl⟩ := ix_of (n := 4) c.1 (by omega) (by omega)
    have cd : ¬ decide (0 ≤ (nI k).toInt ∧ (nI k).toInt ≤ 3) = false := by simpa using c
    rw [if_neg cd, if_neg cd]
    by_cases c2 : lg_cmp (al M n) 0 = 0
    · rw [if_pos c2, if_pos c2]
      exact ⟨_, _, _, rfl, rfl, Rel_ref h 4 4 (by omega)⟩
    · rw [if_neg c2, if_neg c2, score2 (N := N) (by omega) hR a2 hn hk, score8 (N := N) (by omega) a2 hn hk]
      have b := al_b hR a2 hn
      have b2 : ¬ (al M n).toInt = 0 := by
        rw [ce64, fa_eq64] at c2
        exact c2
      obtain ⟨T7, T8, e1, e2, hT⟩ := frac (N := N) (by omega) h (sc_max hR a2 hn hk).1 (show 0 < (al M n).toInt by omega)
      simp only [Option.bind_some, e1, e2]
      exact ⟨_, _, _, rfl, rfl, hT⟩
  · have cd : decide (0 ≤ x1.toInt ∧ x1.toInt ≤ 3) = false := by simpa using c
    rw [if_pos cd, if_pos cd]
    exact ⟨_, _, _, rfl, rfl, h⟩
/-- open tests -/
def opn (M : St) (t n : Nat) : Bool := decide (M.2.2 29 t = -9) && !gq M t n
theorem open8 {N n : Nat} {M : St} (hN : 11 ≤ N) (h : M.1 24 = nI n) (hn : n ≤ 10) {t : Nat} (ht : t < 10) : f_X8_isOpen N M (nI t) = some (bI (opn M t n)) := by
  unfold f_X8_isOpen opn
  rw [if_pos (inb_nI ht (by omega)), cl_nI (by omega), gd8 hN h hn ht]
  by_cases c : M.2.2 29 t = -9
  · rw [if_pos c, Option.bind_some]
    cases gq M t n <;> simp [bI, c]
  · rw [if_neg c]
    simp [bI, c]
theorem open2 {N n : Nat} {S2 M : St} (hR : R2 S2 M) (h : M.1 24 = nI n) (hn : n ≤ 10) {t : Nat} (ht : t < n) : f_X2_isOpen N S2 (nI t) = some (bI (opn M t n)) := by
  have e : S2.2.2 5 t = M.2.2 29 t := by
    obtain ⟨n', hn', a1, a2, a3, a4, -⟩ := hR
    have : n' = n := (nI_eq (by omega) (by omega)).mp (a2.symm.trans h)
    subst this
    exact (a4 t ht).2.2.2.2.1
  unfold f_X2_isOpen f_X2_isDone opn
  rw [if_pos (inb_nI (show t < 10 by omega) (by omega)), cl_nI (by omega), gd2 hR h hn ht, e]
  by_cases c : M.2.2 29 t = -9
  · rw [if_pos c, Option.bind_some, if_pos rfl, Option.bind_some]
    cases gq M t n <;> simp [bI, c]
  · rw [if_neg c, Option.bind_some]
    simp [bI, c]
/-- what a test would gain -/
def ga (f : Nat → Int64) : Nat → Int64
  | 0 => 0
  | h + 1 => if f h ≤ ga f h then ga f h else f h
theorem ga_b {f : Nat → Int64} {B : Int} {m : Nat} (hf : ∀ h, h < m → 0 ≤ (f h).toInt ∧ (f h).toInt ≤ B) (hB : 0 ≤ B) : ∀ k, k ≤ m → 0 ≤ (ga f k).toInt ∧ (ga f k).toInt ≤ B
  | 0, _ => by
    show 0 ≤ (0 : Int64).toInt ∧ (0 : Int64).toInt ≤ B
    rw [show (0 : Int64).toInt = 0 from rfl]; omega
  | k + 1, hk => by
    have i := ga_b hf hB k (by omega)
    have j := hf k (by omega)
    show 0 ≤ (if f k ≤ ga f k then ga f k else f k).toInt ∧ (if f k ≤ ga f k then ga f k else f k).toInt ≤ B
    by_cases c : f k ≤ ga f k
    · rw [if_pos c]; exact i
    · rw [if_neg c]; exact j
theorem ga_lt (a b : Int64) : (if a < b then b else a) = (if a ≤ b then b else a) := by
  by_cases c : a < b
  · rw [if_pos c, if_pos (by rw [fa_le64]; rw [fa_lt64] at c; omega)]
  · rw [if_neg c]
    by_cases d : a ≤ b
    · rw [if_pos d, fa_eq64]
      rw [fa_le64] at d; rw [fa_lt64] at c; omega
    · rw [if_neg d]
theorem ga_16 {f : Nat → Int64} {m : Nat} (hf : ∀ h, h < m → 0 ≤ (f h).toInt ∧ (f h).toInt ≤ 108851651149824) : ∀ k, k ≤ m → ga (fun h => f h * 16) k = 16 * ga f k
  | 0, _ => rfl
  | k + 1, hk => by
    have i := ga_16 hf k (by omega)
    have j := hf k (by omega)
    have b := ga_b hf (by omega) k (by omega)
    have t16 : (16 : Int64).toInt = 16 := rfl
    have e1 : (f k * 16).toInt = (f k).toInt * 16 := by rw [fb_mulL (by rw [t16]; omega) (by rw [t16]; omega), t16]
    have e2 : (16 * ga f k).toInt = 16 * (ga f k).toInt := by rw [fb_mulL (by rw [t16]; omega) (by rw [t16]; omega), t16]
    show (if f k * 16 ≤ ga (fun h => f h * 16) k then ga (fun h => f h * 16) k else f k * 16) = 16 * (if f k ≤ ga f k then ga f k else f k)
    rw [i]
    by_cases c : f k ≤ ga f k
    · rw [if_pos c, if_pos (by rw [fa_le64] at c ⊢; omega)]
    · rw [if_neg c, if_neg (by rw [fa_le64] at c ⊢; omega), fa_eq64, e1, fb_mulL (by rw [t16]; omega) (by rw [t16]; omega), t16]
      omega
def gY (M : St) (n t h : Nat) : Int64 := sc M h n * Int32.toInt64 (M.2.2 28 (t * 4 + h))
def gN (M : St) (n t h : Nat) : Int64 := sc M h n * Int32.toInt64 (16 - M.2.2 28 (t * 4 + h))
def gS (M : St) (n h : Nat) : Int64 := sc M h n
def gn (M : St) (n t : Nat) : Int64 := ga (gY M n t) 4 + ga (gN M n t) 4 - 16 * ga (gS M n) 4
theorem gYN {S2 M : St} (hR : R2 S2 M) {n t h : Nat} (hM : M.1 24 = nI n) (hn : n ≤ 10) (hh : h < 4) (ht : t < n) :
    (0 ≤ (gY M n t h).toInt ∧ (gY M n t h).toInt ≤ 1741626418397184) ∧ (0 ≤ (gN M n t h).toInt ∧ (gN M n t h).toInt ≤ 1741626418397184) ∧ (gY M n t h).toInt + (gN M n t h).toInt = 16 * (gS M n h).toInt := by
  obtain ⟨s1, s2⟩ := sc_max hR hM hn hh
  obtain ⟨n', hn', a1, a2, a3, a4, a5, -⟩ := hR
  have : n' = n := (nI_eq (by omega) (by omega)).mp (a2.symm.trans hM)
  subst this
  obtain ⟨-, b1, b2⟩ := a5 (t * 4 + h) (by omega)
  have w1 : (Int32.toInt64 (M.2.2 28 (t * 4 + h))).toInt = (M.2.2 28 (t * 4 + h)).toInt := Int32.toInt_toInt64 _
  have w2 : (Int32.toInt64 (16 - M.2.2 28 (t * 4 + h))).toInt = 16 - (M.2.2 28 (t * 4 + h)).toInt := by
    rw [Int32.toInt_toInt64, fb_subI (by rw [tl_16]; omega) (by rw [tl_16]; omega), tl_16]
  generalize (M.2.2 28 (t * 4 + h)).toInt = w at *
  have p1 : 0 ≤ (sc M h n').toInt * w := Int.mul_nonneg s1 b1
  have p2 : (sc M h n').toInt * w ≤ 108851651149824 * 16 := Int.mul_le_mul s2 b2 b1 (by omega)
  have p3 : 0 ≤ (sc M h n').toInt * (16 - w) := Int.mul_nonneg s1 (by omega)
  have p4 : (sc M h n').toInt * (16 - w) ≤ 108851651149824 * 16 := Int.mul_le_mul s2 (by omega) (by omega) (by omega)
  have e1 : (gY M n' t h).toInt = (sc M h n').toInt * w := by
    unfold gY
    rw [fb_mulL (by rw [w1]; omega) (by rw [w1]; omega), w1]
  have e2 : (gN M n' t h).toInt = (sc M h n').toInt * (16 - w) := by
    unfold gN
    rw [fb_mulL (by rw [w2]; omega) (by rw [w2]; omega), w2]
  have e3 : (sc M h n').toInt * (16 - w) = (sc M h n').toInt * 16 - (sc M h n').toInt * w := Int.mul_sub _ _ _
  unfold gS
  rw [e1, e2]
  omega
theorem ga_ge {S2 M : St} (hR : R2 S2 M) {n t : Nat} (hM : M.1 24 = nI n) (hn : n ≤ 10) (ht : t < n) : ∀ k, k ≤ 4 → 16 * (ga (gS M n) k).toInt ≤ (ga (gY M n t) k).toInt + (ga (gN M n t) k).toInt
  | 0, _ => by show 16 * (0 : Int64).toInt ≤ (0 : Int64).toInt + (0 : Int64).toInt; rw [show (0 : Int64).toInt = 0 from rfl]; omega
  | k + 1, hk => by
    have i := ga_ge hR hM hn ht k (by omega)
    have j := (gYN hR hM hn (show k < 4 by omega) ht).2.2
    show 16 * (if gS M n k ≤ ga (gS M n) k then ga (gS M n) k else gS M n k).toInt ≤ (if gY M n t k ≤ ga (gY M n t) k then ga (gY M n t) k else gY M n t k).toInt + (if gN M n t k ≤ ga (gN M n t) k then ga (gN M n t) k else gN M n t k).toInt
    have q : ∀ a b : Int64, (if a ≤ b then b else a).toInt = if a.toInt ≤ b.toInt then b.toInt else a.toInt := fun a b => by
      by_cases c : a ≤ b
      · rw [if_pos c, if_pos (by rwa [fa_le64] at c)]
      · rw [if_neg c, if_neg (by rwa [fa_le64] at c)]
    rw [q, q, q]
    split <;> split <;> split <;> omega
theorem gn_b {S2 M : St} (hR : R2 S2 M) {n t : Nat} (hM : M.1 24 = nI n) (hn : n ≤ 10) (ht : t < n) : 0 ≤ (gn M n t).toInt := by
  have hS : ∀ h, h < 4 → 0 ≤ (gS M n h).toInt ∧ (gS M n h).toInt ≤ 108851651149824 := fun h hh => sc_max hR hM hn hh
  have b1 := ga_b (fun h hh => (gYN hR hM hn (show h < 4 from hh) ht).1) (by omega) 4 (Nat.le_refl 4)
  have b2 := ga_b (fun h hh => (gYN hR hM hn (show h < 4 from hh) ht).2.1) (by omega) 4 (Nat.le_refl 4)
  have b3 := ga_b hS (by omega) 4 (Nat.le_refl 4)
  have b4 := ga_ge hR hM hn ht 4 (Nat.le_refl 4)
  have t16 : (16 : Int64).toInt = 16 := rfl
  have e2 : (16 * ga (gS M n) 4).toInt = 16 * (ga (gS M n) 4).toInt := by rw [fb_mulL (by rw [t16]; omega) (by rw [t16]; omega), t16]
  have e1 : (ga (gY M n t) 4 + ga (gN M n t) 4).toInt = (ga (gY M n t) 4).toInt + (ga (gN M n t) 4).toInt := fb_addL (by omega) (by omega)
  unfold gn
  rw [fb_subL (by omega) (by omega), e1, e2]
  omega
theorem gend8 (N q : Nat) (M : St) (t : Int32) (a b c : Int64) : f_X8_gainOf_11 N M (q + 1) t a b c (nI 4) = some (a + b - 16 * c) := by
  show f_X8_gainOf_11_b N M (fun y0 y1 y2 y3 y4 => f_X8_gainOf_11 N M q y0 y1 y2 y3 y4) t a b c (nI 4) = _
  unfold f_X8_gainOf_11_b
  rw [if_pos (show (4 : Int32) ≤ nI 4 by decide)]
theorem gend2 (N q : Nat) (M : St) (t : Int32) (a b c : Int64) : f_X2_gainOf_11 N M (q + 1) t a b c (nI 4) = some (a + b - c) := by
  show f_X2_gainOf_11_b N M (fun y0 y1 y2 y3 y4 => f_X2_gainOf_11 N M q y0 y1 y2 y3 y4) t a b c (nI 4) = _
  unfold f_X2_gainOf_11_b
  rw [if_pos (show (4 : Int32) ≤ nI 4 by decide)]
theorem gain8 {N n : Nat} (hN : 50 ≤ N) {M : St} (hM : M.1 24 = nI n) (hn : n ≤ 10) {t : Nat} (ht : t < 10) : f_X8_gainOf N M (nI t) = some (gn M n t) := by
  unfold f_X8_gainOf
  refine lpN (fun q h (x : Int64 × Int64 × Int64) => f_X8_gainOf_11 N M q (nI t) x.1 x.2.1 x.2.2 (nI h)) (fun h => (ga (gY M n t) h, ga (gN M n t) h, ga (gS M n) h)) 4 (some (gn M n t)) ?_ ?_ 4 N 0 (by omega) (by omega)
  · intro q h hh
    show f_X8_gainOf_11_b N M (fun y0 y1 y2 y3 y4 => f_X8_gainOf_11 N M q y0 y1 y2 y3 y4) (nI t) (ga (gY M n t) h) (ga (gN M n t) h) (ga (gS M n) h) (nI h) = f_X8_gainOf_11 N M q (nI t) (if gY M n t h ≤ ga (gY M n t) h then ga (gY M n t) h else gY M n t h) (if gN M n t h ≤ ga (gN M n t) h then ga (gN M n t) h else gN M n t h) (if gS M n h ≤ ga (gS M n) h then ga (gS M n) h else gS M n h) (nI (h + 1))
    unfold f_X8_gainOf_11_b f_X8_gainOf_59 f_X8_gainOf_89 f_X8_gainOf_106
    rw [if_neg (show ¬ (4 : Int32) ≤ nI h from fun c => absurd ((nI_leI (a := 4) (by omega) (by omega)).mp c) (by omega)), score8 hN hM hn hh]
    simp only [Option.bind_some, m4l, nI_add, if_pos (inb_nI (show t * 4 + h < 40 by omega) (by omega)), cl_nI (show t * 4 + h ≤ 100000 by omega), nI_1, cl64]
    by_cases cY : sc M h n * Int32.toInt64 (M.2.2 28 (t * 4 + h)) ≤ ga (gY M n t) h
    · rw [if_pos cY, if_pos (show gY M n t h ≤ ga (gY M n t) h from cY)]
      by_cases cN : sc M h n * Int32.toInt64 (16 - M.2.2 28 (t * 4 + h)) ≤ ga (gN M n t) h
      · rw [if_pos cN, if_pos (show gN M n t h ≤ ga (gN M n t) h from cN)]
        by_cases cS : sc M h n ≤ ga (gS M n) h
        · rw [if_pos cS, if_pos (show gS M n h ≤ ga (gS M n) h from cS)]
        · rw [if_neg cS, if_neg (show ¬ gS M n h ≤ ga (gS M n) h from cS)]; rfl
      · rw [if_neg cN, if_neg (show ¬ gN M n t h ≤ ga (gN M n t) h from cN)]
        by_cases cS : sc M h n ≤ ga (gS M n) h
        · rw [if_pos cS, if_pos (show gS M n h ≤ ga (gS M n) h from cS)]; rfl
        · rw [if_neg cS, if_neg (show ¬ gS M n h ≤ ga (gS M n) h from cS)]; rfl
    · rw [if_neg cY, if_neg (show ¬ gY M n t h ≤ ga (gY M n t) h from cY)]
      by_cases cN : sc M h n * Int32.toInt64 (16 - M.2.2 28 (t * 4 + h)) ≤ ga (gN M n t) h
      · rw [if_pos cN, if_pos (show gN M n t h ≤ ga (gN M n t) h from cN)]
        by_cases cS : sc M h n ≤ ga (gS M n) h
        · rw [if_pos cS, if_pos (show gS M n h ≤ ga (gS M n) h from cS)]; rfl
        · rw [if_neg cS, if_neg (show ¬ gS M n h ≤ ga (gS M n) h from cS)]; rfl
      · rw [if_neg cN, if_neg (show ¬ gN M n t h ≤ ga (gN M n t) h from cN)]
        by_cases cS : sc M h n ≤ ga (gS M n) h
        · rw [if_pos cS, if_pos (show gS M n h ≤ ga (gS M n) h from cS)]; rfl
        · rw [if_neg cS, if_neg (show ¬ gS M n h ≤ ga (gS M n) h from cS)]; rfl
  · intro q
    dsimp only
    rw [gend8, gn]
theorem gain2 {N n : Nat} (hN : 50 ≤ N) {S2 M : St} (hR : R2 S2 M) (hM : M.1 24 = nI n) (hn : n ≤ 10) {t : Nat} (ht : t < n) : f_X2_gainOf N S2 (nI t) = some (gn M n t) := by
  have hS : ∀ h, h < 4 → 0 ≤ (gS M n h).toInt ∧ (gS M n h).toInt ≤ 108851651149824 := fun h hh => sc_max hR hM hn hh
  have e5 : ∀ h, h < 4 → S2.2.2 4 (t * 4 + h) = M.2.2 28 (t * 4 + h) := by
    obtain ⟨n', hn', a1, a2, a3, a4, a5, -⟩ := hR
    have : n' = n := (nI_eq (by omega) (by omega)).mp (a2.symm.trans hM)
    subst this
    exact fun h hh => (a5 (t * 4 + h) (by omega)).1
  unfold f_X2_gainOf
  refine lpN (fun q h (x : Int64 × Int64 × Int64) => f_X2_gainOf_11 N S2 q (nI t) x.1 x.2.1 x.2.2 (nI h)) (fun h => (ga (gY M n t) h, ga (gN M n t) h, ga (fun h => gS M n h * 16) h)) 4 (some (gn M n t)) ?_ ?_ 4 N 0 (by omega) (by omega)
  · intro q h hh
    show f_X2_gainOf_11_b N S2 (fun y0 y1 y2 y3 y4 => f_X2_gainOf_11 N S2 q y0 y1 y2 y3 y4) (nI t) (ga (gY M n t) h) (ga (gN M n t) h) (ga (fun h => gS M n h * 16) h) (nI h) = f_X2_gainOf_11 N S2 q (nI t) (if gY M n t h ≤ ga (gY M n t) h then ga (gY M n t) h else gY M n t h) (if gN M n t h ≤ ga (gN M n t) h then ga (gN M n t) h else gN M n t h) (if gS M n h * 16 ≤ ga (fun h => gS M n h * 16) h then ga (fun h => gS M n h * 16) h else gS M n h * 16) (nI (h + 1))
    unfold f_X2_gainOf_11_b
    rw [if_neg (show ¬ (4 : Int32) ≤ nI h from fun c => absurd ((nI_leI (a := 4) (by omega) (by omega)).mp c) (by omega)), score2 hN hR hM hn hh]
    simp only [Option.bind_some, m4r, nI_add, if_pos (inb_nI (show t * 4 + h < 40 by omega) (by omega)), cl_nI (show t * 4 + h ≤ 100000 by omega), nI_1, ga_lt, e5 h hh]
    rfl
  · intro q
    dsimp only
    rw [gend2, ga_16 hS 4 (Nat.le_refl 4), gn]
theorem sim_gain {N : Nat} (hN : 2200 ≤ N) {S7 S5 S6 S2 S4 S3 S0 M : St} (h : Rel S7 S5 S6 S2 S4 S3 S0 M) (x1 : Int32) : ∃ (r : Int32) (T7 : St) (T8 : St), f_X7_gain N S7 S2 x1 = some (r, T7) ∧ f_X8_gain N M x1 = some (r, T8) ∧ Rel T7 S5 S6 S2 S4 S3 S0 T8 := by
  obtain ⟨n, hn, a1, a2, -⟩ := id h.2.2.2.1
  have hR := h.2.2.2.1
  unfold f_X7_gain f_X8_gain
  simp only [has2 a1 hn, isT8 a2 hn, Option.bind_some, bI_0, all2 (N := N) (by omega) hR a2 hn, all8 (N := N) (by omega) a2 hn, ref7_4, ref8_4]
  by_cases c : 0 ≤ x1.toInt ∧ x1.toInt < n
  · obtain ⟨k, hk, rfl⟩ := ix_of (n := n) c.1 (by omega) (by omega)
    have cd : ¬ decide (0 ≤ (nI k).toInt ∧ (nI k).toInt < n) = false := by simpa using c
    rw [if_neg cd, if_neg cd, open2 hR a2 hn hk, open8 (N := N) (by omega) a2 hn (show k < 10 by omega)]
    simp only [Option.bind_some, bI_0]
    by_cases c3 : opn M k n = false
    · rw [if_pos c3, if_pos c3]
      exact ⟨_, _, _, rfl, rfl, h⟩
    · rw [if_neg c3, if_neg c3]
      by_cases c2 : lg_cmp (al M n) 0 = 0
      · rw [if_pos c2, if_pos c2]
        exact ⟨_, _, _, rfl, rfl, Rel_ref h 4 4 (by omega)⟩
      · rw [if_neg c2, if_neg c2, gain2 (N := N) (by omega) hR a2 hn hk, gain8 (N := N) (by omega) a2 hn (show k < 10 by omega)]
        have b := al_b hR a2 hn
        have b2 : ¬ (al M n).toInt = 0 := by
          rw [ce64, fa_eq64] at c2
          exact c2
        have t16 : (16 : Int64).toInt = 16 := rfl
        have e : (16 * al M n).toInt = 16 * (al M n).toInt := by rw [fb_mulL (by rw [t16]; omega) (by rw [t16]; omega), t16]
        obtain ⟨T7, T8, e1, e2, hT⟩ := frac (N := N) (by omega) h (gn_b hR a2 hn hk) (show 0 < (16 * al M n).toInt by omega)
        simp only [Option.bind_some, e1, e2]
        exact ⟨_, _, _, rfl, rfl, hT⟩
  · have cd : decide (0 ≤ x1.toInt ∧ x1.toInt < n) = false := by simpa using c
    rw [if_pos cd, if_pos cd]
    exact ⟨_, _, _, rfl, rfl, h⟩
