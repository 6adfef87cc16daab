/-! weights on a year: the reference's side -/
theorem Rel_22 {S7 S5 S6 S2 S4 S3 S0 M : St} (h : Rel S7 S5 S6 S2 S4 S3 S0 M) (g : Nat → Int32) : Rel S7 S5 S6 S2 S4 S3 S0 (sA M 22 g) := h
def zA (f : Nat → Int32) (k : Nat) : Nat → Int32 := fun x => if 1000 ≤ x ∧ x < 1000 + k then 0 else f x
theorem zA_0 (f : Nat → Int32) : zA f 0 = f := funext fun x => if_neg (by omega)
theorem zA_s (f : Nat → Int32) (k : Nat) : upd (zA f k) (1000 + k) 0 = zA f (k + 1) := by
  funext x
  unfold upd zA
  by_cases e : x = 1000 + k
  · rw [if_pos e, if_pos (by omega)]
  · rw [if_neg e]
    by_cases c : 1000 ≤ x ∧ x < 1000 + k
    · rw [if_pos c, if_pos (by omega)]
    · rw [if_neg c, if_neg (by omega)]
def pf (f : Nat → Int32) : Nat → Int32
  | 0 => f 1000
  | k + 1 => f (1000 + (k + 1)) + pf f k
theorem pf_z (f : Nat → Int32) : ∀ k, k ≤ 1100 → pf (zA f 1102) k = 0
  | 0, _ => show zA f 1102 1000 = 0 from if_pos (by omega)
  | k + 1, hk => by
    show zA f 1102 (1000 + (k + 1)) + pf (zA f 1102) k = 0
    rw [pf_z f k (by omega), show zA f 1102 (1000 + (k + 1)) = 0 from if_pos (by omega)]
    rfl
theorem pf_u (f : Nat → Int32) {a : Nat} (ha : 1000 ≤ a) (w : Int32) : ∀ k, pf (upd f a (f a + w)) k = pf f k + (if a ≤ 1000 + k then w else 0)
  | 0 => by
    show upd f a (f a + w) 1000 = f 1000 + (if a ≤ 1000 + 0 then w else 0)
    unfold upd
    by_cases e : 1000 = a
    · rw [if_pos e, if_pos (by omega), ← e]
    · rw [if_neg e, if_neg (by omega), Int32.add_zero]
  | k + 1 => by
    show upd f a (f a + w) (1000 + (k + 1)) + pf (upd f a (f a + w)) k = f (1000 + (k + 1)) + pf f k + (if a ≤ 1000 + (k + 1) then w else 0)
    rw [pf_u f ha w k]
    unfold upd
    by_cases e : 1000 + (k + 1) = a
    · rw [if_pos e, if_neg (show ¬ a ≤ 1000 + k by omega), if_pos (show a ≤ 1000 + (k + 1) by omega), ← e, Int32.add_zero]
      ac_rfl
    · rw [if_neg e]
      by_cases c : a ≤ 1000 + k
      · rw [if_pos c, if_pos (show a ≤ 1000 + (k + 1) by omega)]
        ac_rfl
      · rw [if_neg c, if_neg (show ¬ a ≤ 1000 + (k + 1) by omega), Int32.add_zero, Int32.add_zero]
def sd (M : St) (p : Nat) (f : Nat → Int32) : Nat → Int32 := upd (upd f (fy M p).toNatClampNeg (f (fy M p).toNatClampNeg + M.2.2 15 p)) ((ly M p).toNatClampNeg + 1) (upd f (fy M p).toNatClampNeg (f (fy M p).toNatClampNeg + M.2.2 15 p) ((ly M p).toNatClampNeg + 1) - M.2.2 15 p)
theorem yr_nI {v : Int32} (h1 : 1000 ≤ v.toInt) (h2 : v.toInt ≤ 2100) : ∃ k : Nat, 1000 ≤ k ∧ k ≤ 2100 ∧ v = nI k ∧ v.toInt = k := by
  obtain ⟨k, hk, e⟩ := ix_of (n := 2101) (x := v) (by omega) (by omega) (by omega)
  have t : v.toInt = k := by rw [e, ti_nI (by omega)]
  exact ⟨k, by omega, by omega, e, t⟩
theorem pf_sd {M : St} {p : Nat} (h1 : 1000 ≤ (fy M p).toInt) (h2 : (fy M p).toInt ≤ (ly M p).toInt) (h3 : (ly M p).toInt ≤ 2100) (f : Nat → Int32) (k : Nat) (hk : k ≤ 1100) : pf (sd M p f) k = sw M (nI (1000 + k)) p (pf f k) := by
  obtain ⟨a, a1, a2, ea, ta⟩ := yr_nI (v := fy M p) h1 (by omega)
  obtain ⟨b, b1, b2, eb, tb⟩ := yr_nI (v := ly M p) (by omega) h3
  unfold sd sw hd
  rw [Int32.sub_eq_add_neg, pf_u _ (by rw [eb, cl_nI (by omega)]; omega), pf_u _ (by rw [ea, cl_nI (by omega)]; omega), ea, eb, cl_nI (by omega), cl_nI (by omega)]
  have ab : a ≤ b := by omega
  simp only [lt_nI (show 1000 + k ≤ 100000 by omega) (show a ≤ 100000 by omega), lt_nI (show b ≤ 100000 by omega) (show 1000 + k ≤ 100000 by omega), decide_eq_true_iff]
  by_cases c1 : a ≤ 1000 + k
  · by_cases c2 : b + 1 ≤ 1000 + k
    · rw [if_pos c1, if_pos c2, if_neg (by omega), Int32.add_assoc, Int32.add_right_neg, Int32.add_zero]
    · rw [if_pos c1, if_neg c2, if_pos (by omega), Int32.add_zero]
  · rw [if_neg c1, if_neg (by omega), if_neg (by omega), Int32.add_zero, Int32.add_zero]
theorem pf_dA {M : St} {n : Nat} (day : Int32) (hy : ∀ p, p < n → 1000 ≤ (fy M p).toInt ∧ (fy M p).toInt ≤ (ly M p).toInt ∧ (ly M p).toInt ≤ 2100) (f : Nat → Int32) (k : Nat) (hk : k ≤ 1100) : ∀ p, p ≤ n → pf (fk (kb M day) (sd M) p (zA f 1102)) k = fk (kb M day) (sw M (nI (1000 + k))) p 0
  | 0, _ => pf_z f k hk
  | p + 1, hp => by
    have i := pf_dA day hy f k hk p (by omega)
    obtain ⟨h1, h2, h3⟩ := hy p (by omega)
    rw [show fk (kb M day) (sd M) (p + 1) (zA f 1102) = if kb M day p = true then sd M p (fk (kb M day) (sd M) p (zA f 1102)) else fk (kb M day) (sd M) p (zA f 1102) from rfl, show fk (kb M day) (sw M (nI (1000 + k))) (p + 1) 0 = if kb M day p = true then sw M (nI (1000 + k)) p (fk (kb M day) (sw M (nI (1000 + k))) p 0) else fk (kb M day) (sw M (nI (1000 + k))) p 0 from rfl]
    cases kb M day p
    · rw [if_neg (by decide), if_neg (by decide), i]
    · rw [if_pos rfl, if_pos rfl, pf_sd h1 h2 h3 _ k hk, i]
def bY (f : Nat → Int32) : Nat → Nat
  | 0 => 0
  | k + 1 => if pf f (k + 1) ≤ pf f (bY f k) then bY f k else k + 1
theorem bY_le (f : Nat → Int32) : ∀ k, bY f k ≤ k
  | 0 => Nat.le_refl 0
  | k + 1 => by
    show (if pf f (k + 1) ≤ pf f (bY f k) then bY f k else k + 1) ≤ k + 1
    have := bY_le f k
    split <;> omega
theorem bY_max (f : Nat → Int32) : ∀ k j, j ≤ k → (pf f j).toInt < (pf f (bY f k)).toInt ∨ ((pf f j).toInt = (pf f (bY f k)).toInt ∧ bY f k ≤ j)
  | 0, j, hj => by
    have : j = 0 := by omega
    subst this
    exact Or.inr ⟨rfl, Nat.le_refl _⟩
  | k + 1, j, hj => by
    have i := bY_max f k
    have l := bY_le f k
    rw [show bY f (k + 1) = if pf f (k + 1) ≤ pf f (bY f k) then bY f k else k + 1 from rfl]
    by_cases c : pf f (k + 1) ≤ pf f (bY f k)
    · rw [if_pos c]
      rw [fa_le] at c
      by_cases e : j = k + 1
      · subst e
        omega
      · exact i j (by omega)
    · rw [if_neg c]
      rw [fa_le] at c
      by_cases e : j = k + 1
      · subst e
        exact Or.inr ⟨rfl, Nat.le_refl _⟩
      · have := i j (by omega)
        left
        omega
def hA (f : Nat → Int32) (k : Nat) : Nat → Int32 := fun x => if 1000 ≤ x ∧ x ≤ 1000 + k then pf f (x - 1000) else f x
theorem hA_0 (f : Nat → Int32) : hA f 0 = f := by
  funext x
  unfold hA
  by_cases c : 1000 ≤ x ∧ x ≤ 1000 + 0
  · have : x = 1000 := by omega
    subst this
    rw [if_pos c]
    rfl
  · rw [if_neg c]
theorem hA_in (f : Nat → Int32) {k j : Nat} (hj : j ≤ k) : hA f k (1000 + j) = pf f j := by
  unfold hA
  rw [if_pos (by omega), show 1000 + j - 1000 = j by omega]
theorem hA_s (f : Nat → Int32) (k : Nat) : upd (hA f k) (1001 + k) (hA f k (1001 + k) + hA f k (1000 + k)) = hA f (k + 1) := by
  have e1 : hA f k (1001 + k) = f (1000 + (k + 1)) := by
    unfold hA
    rw [if_neg (by omega), show 1001 + k = 1000 + (k + 1) by omega]
  rw [e1, hA_in f (Nat.le_refl k)]
  funext x
  unfold upd
  by_cases e : x = 1001 + k
  · rw [if_pos e, e, show 1001 + k = 1000 + (k + 1) by omega, hA_in f (Nat.le_refl (k + 1))]
    rfl
  · rw [if_neg e]
    unfold hA
    by_cases c : 1000 ≤ x ∧ x ≤ 1000 + k
    · rw [if_pos c, if_pos (by omega)]
    · rw [if_neg c, if_neg (by omega)]
theorem nI_s1 (a : Nat) : nI (a + 1) - 1 = nI a := by rw [← nI_1, Int32.add_sub_cancel]
theorem run97 {N : Nat} (hN : 2200 ≤ N) (M : St) (f : Nat → Int32) : f_X8_bestYear_97 N N (sA M 22 f) 1000 1001 = some (nI (1000 + bY f 1100), sA M 22 (hA f 1100)) := by
  have K := lpN (fun q k (x : Int32 × (Nat → Int32)) => f_X8_bestYear_97 N q (sA M 22 x.2) x.1 (nI (1001 + k))) (fun k => (nI (1000 + bY f k), hA f k)) 1100 (some (nI (1000 + bY f 1100), sA M 22 (hA f 1100))) ?_ ?_ 1100 N 0 (by omega) (by omega)
  · try dsimp only at K
    rw [hA_0] at K
    exact K
  · intro q k hk
    have l := bY_le f k
    try dsimp only
    rw [show bY f (k + 1) = if pf f (k + 1) ≤ pf f (bY f k) then bY f k else k + 1 from rfl]
    generalize hb : bY f k = b at l
    show f_X8_bestYear_97_b N (fun y0 y1 y2 => f_X8_bestYear_97 N q y0 y1 y2) (sA M 22 (hA f k)) (nI (1000 + b)) (nI (1001 + k)) = _
    unfold f_X8_bestYear_97_b f_X8_bestYear_141
    have s1 : nI (1001 + k) - 1 = nI (1000 + k) := by rw [show 1001 + k = (1000 + k) + 1 by omega, nI_s1]
    rw [if_neg (show ¬ (2100 : Int32) < nI (1001 + k) by rw [show (2100 : Int32) = nI 2100 from rfl, lt_nI (by omega) (by omega)]; omega)]
    simp only [s1, if_pos (inb_nI (show 1001 + k < 2102 by omega) (by omega)), if_pos (inb_nI (show 1000 + k < 2102 by omega) (by omega)), if_pos (inb_nI (show 1000 + b < 2102 by omega) (by omega)), cl_nI (show 1001 + k ≤ 100000 by omega), cl_nI (show 1000 + k ≤ 100000 by omega), cl_nI (show 1000 + b ≤ 100000 by omega), sA_at, sA_sA, hA_s, nI_1]
    rw [show 1001 + k = 1000 + (k + 1) by omega, hA_in f (Nat.le_refl (k + 1)), hA_in f (show b ≤ k + 1 by omega), show 1001 + (k + 1) = 1000 + (k + 1) + 1 by omega]
    by_cases c : pf f (k + 1) ≤ pf f b
    · rw [if_pos c, if_pos c]
    · rw [if_neg c, if_neg c]
  · intro q
    try dsimp only
    generalize nI (1000 + bY f 1100) = b
    generalize hA f 1100 = g
    show f_X8_bestYear_97_b N (fun y0 y1 y2 => f_X8_bestYear_97 N q y0 y1 y2) (sA M 22 g) b (nI 2101) = _
    unfold f_X8_bestYear_97_b
    rw [if_pos (show (2100 : Int32) < nI 2101 by decide)]
theorem run4 {N : Nat} (hN : 2200 ≤ N) (M : St) (day : Int32) : f_X8_bestYear N M day = f_X8_bestYear_26 N N (sA M 22 (zA (M.2.2 22) 1102)) day 0 := by
  unfold f_X8_bestYear
  have K := lpN (fun q k (x : Nat → Int32) => f_X8_bestYear_4 N q (sA M 22 x) day (nI (1000 + k))) (fun k => zA (M.2.2 22) k) 1102 (f_X8_bestYear_26 N N (sA M 22 (zA (M.2.2 22) 1102)) day 0) ?_ ?_ 1102 N 0 (by omega) (by omega)
  · try dsimp only at K
    rw [zA_0, sA_same] at K
    exact K
  · intro q k hk
    try dsimp only
    rw [← zA_s]
    generalize zA (M.2.2 22) k = f
    show f_X8_bestYear_4_b N (fun y0 y1 y2 => f_X8_bestYear_4 N q y0 y1 y2) (sA M 22 f) day (nI (1000 + k)) = _
    unfold f_X8_bestYear_4_b
    rw [if_neg (show ¬ (2101 : Int32) < nI (1000 + k) by rw [show (2101 : Int32) = nI 2101 from rfl, lt_nI (by omega) (by omega)]; omega), if_pos (inb_nI (show 1000 + k < 2102 by omega) (by omega)), cl_nI (by omega), sA_at, sA_sA, nI_1]
    rfl
  · intro q
    try dsimp only
    generalize zA (M.2.2 22) 1102 = g
    show f_X8_bestYear_4_b N (fun y0 y1 y2 => f_X8_bestYear_4 N q y0 y1 y2) (sA M 22 g) day (nI 2102) = _
    unfold f_X8_bestYear_4_b
    rw [if_pos (show (2101 : Int32) < nI 2102 by decide)]
theorem fy_22 {N : Nat} (hN : 50 ≤ N) {S5 S6 M : St} (h5 : R5 S5 M) (h6 : R6 S6 M) {n p : Nat} (hM : M.1 13 = nI n) (hn : n ≤ 24) (hp : p < n) (g : Nat → Int32) :
    f_X8_fromOf N (sA M 22 g) (nI p) = some (fy M p) ∧ f_X8_toOf N (sA M 22 g) (nI p) = some (ly M p) ∧ ∀ day, f_X8_isKnown N (sA M 22 g) (nI p) day = some (bI (kb M day p)) := by
  obtain ⟨y1, y2, y3, y4, -⟩ := years (N := N) hN h5 h6 hM hn hp
  obtain ⟨z1, z2, z3, z4, -⟩ := years (N := N) (M := sA M 22 g) hN h5 h6 hM hn hp
  have e1 := Option.some.inj (y1.symm.trans z1)
  have e2 := Option.some.inj (y3.symm.trans z3)
  rw [← e1] at z2
  rw [← e2] at z4
  exact ⟨z2, z4, fun day => (kn2 (N := N) (M := sA M 22 g) h5 hM hn hp day).2⟩
theorem run26 {N : Nat} (hN : 2200 ≤ N) {S5 S6 M : St} (h5 : R5 S5 M) (h6 : R6 S6 M) {n : Nat} (hM : M.1 13 = nI n) (hn : n ≤ 24) (day : Int32) (f : Nat → Int32) : f_X8_bestYear_26 N N (sA M 22 f) day 0 = f_X8_bestYear_97 N N (sA M 22 (fk (kb M day) (sd M) n f)) 1000 1001 := by
  refine lpN (fun q p (x : Nat → Int32) => f_X8_bestYear_26 N q (sA M 22 x) day (nI p)) (fun p => fk (kb M day) (sd M) p f) n _ ?_ ?_ n N 0 (by omega) (by omega)
  · intro q p hp
    obtain ⟨y1, y2, y3, y4, h1, h2, h3⟩ := years (N := N) (by omega) h5 h6 hM hn hp
    obtain ⟨a, a1, a2, ea, ta⟩ := yr_nI (v := fy M p) h1 (by omega)
    obtain ⟨b, b1, b2, eb, tb⟩ := yr_nI (v := ly M p) (by omega) h3
    try dsimp only
    rw [show fk (kb M day) (sd M) (p + 1) f = if kb M day p = true then sd M p (fk (kb M day) (sd M) p f) else fk (kb M day) (sd M) p f from rfl]
    generalize fk (kb M day) (sd M) p f = x
    show f_X8_bestYear_26_b N (fun y0 y1 y2 => f_X8_bestYear_26 N q y0 y1 y2) (sA M 22 x) day (nI p) = _
    unfold f_X8_bestYear_26_b f_X8_bestYear_83 sd
    have q13 : (sA M 22 x).1 13 = nI n := hM
    have q15 : ∀ g, (sA M 22 g).2.2 15 = M.2.2 15 := fun g => rfl
    have F := fun g => fy_22 (N := N) (by omega) h5 h6 hM hn hp g
    rw [if_neg (lt_lit q13 hp (by omega)), (F x).2.2 day, Option.bind_some]
    simp only [bI_0, (F _).1, (F _).2.1, sA_at, sA_sA, q15, Option.bind_some, ea, eb, if_pos (inb_nI (show a < 2102 by omega) (by omega)), if_pos (inb_nI (show b + 1 < 2102 by omega) (by omega)), if_pos (inb_nI (show p < 24 by omega) (by omega)), nI_1, cl_nI (show a ≤ 100000 by omega), cl_nI (show b ≤ 100000 by omega), cl_nI (show b + 1 ≤ 100000 by omega), cl_nI (show p ≤ 100000 by omega)]
    cases kb M day p
    · rw [if_pos rfl]; rfl
    · rw [if_neg (by decide), if_pos rfl]
  · intro q
    try dsimp only
    generalize fk (kb M day) (sd M) n f = g
    show f_X8_bestYear_26_b N (fun y0 y1 y2 => f_X8_bestYear_26 N q y0 y1 y2) (sA M 22 g) day (nI n) = _
    unfold f_X8_bestYear_26_b
    rw [if_pos (ge_lit (show (sA M 22 g).1 13 = nI n from hM))]
theorem best_y {N : Nat} (hN : 2200 ≤ N) {S5 S6 M : St} (h5 : R5 S5 M) (h6 : R6 S6 M) {n : Nat} (hM : M.1 13 = nI n) (hn : n ≤ 24) (day : Int32) : ∃ g, f_X8_bestYear N M day = some (hy M day n, sA M 22 g) := by
  rw [run4 hN, run26 hN h5 h6 hM hn, run97 hN]
  refine ⟨hA (fk (kb M day) (sd M) n (zA (M.2.2 22) 1102)) 1100, ?_⟩
  have hY : ∀ p, p < n → 1000 ≤ (fy M p).toInt ∧ (fy M p).toInt ≤ (ly M p).toInt ∧ (ly M p).toInt ≤ 2100 := fun p hp => (years (N := N) (by omega) h5 h6 hM hn hp).2.2.2.2
  have hw : ∀ p, p < n → 1 ≤ (M.2.2 15 p).toInt ∧ (M.2.2 15 p).toInt ≤ 9 := by
    obtain ⟨n', hn', b1, b2, b3, -, b5, b6⟩ := h5
    have e9 : n' = n := (nI_eq (by omega) (by omega)).mp (b2.symm.trans hM)
    subst e9
    exact fun p hp => (b5 p hp).2.2.1
  obtain ⟨⟨m1, m2⟩, m3⟩ := hy_max hw hn day (fun p hp => ⟨(hY p hp).1, by have := hY p hp; omega⟩)
  have P : ∀ k, k ≤ 1100 → (pf (fk (kb M day) (sd M) n (zA (M.2.2 22) 1102)) k).toInt = wz M day (1000 + (k : Int)) n := fun k hk => by
    rw [pf_dA day hY (M.2.2 22) k hk n (Nat.le_refl n), (wz_wv hw hn day (nI (1000 + k)) n (Nat.le_refl n)).1, ti_nI (by omega), show ((1000 + k : Nat) : Int) = 1000 + (k : Int) by omega]
  have B := bY_max (fk (kb M day) (sd M) n (zA (M.2.2 22) 1102)) 1100
  have l := bY_le (fk (kb M day) (sd M) n (zA (M.2.2 22) 1102)) 1100
  generalize bY (fk (kb M day) (sd M) n (zA (M.2.2 22) 1102)) 1100 = b at *
  have e : nI (1000 + b) = hy M day n := by
    obtain ⟨k, hk⟩ : ∃ k : Nat, (hy M day n).toInt = 1000 + (k : Int) := ⟨((hy M day n).toInt - 1000).toNat, by omega⟩
    have k1 : k ≤ 1100 := by omega
    have B1 := B k k1
    have M1 := m3 b
    rw [P k k1, P b l] at B1
    rw [hk] at M1
    rw [fa_eq, ti_nI (by omega), hk]
    omega
  rw [e]
theorem sim_heldYear {N : Nat} (hN : 2200 ≤ N) {S7 S5 S6 S2 S4 S3 S0 M : St} (h : Rel S7 S5 S6 S2 S4 S3 S0 M) (S1 : St) (x1 : Int32) : ∃ (r : Int32) (T1 : St) (T8 : St), f_X7_heldYear N S7 S5 S6 S1 x1 = some (r, T1) ∧ f_X8_heldYear N M x1 = some (r, T8) ∧ Rel S7 S5 S6 S2 S4 S3 S0 T8 := by
  obtain ⟨n, hn, a1, a2, -⟩ := id h.2.1
  unfold f_X7_heldYear f_X8_heldYear
  simp only [isDay8, isDay7, Option.bind_some, bI_0]
  by_cases c : 0 ≤ x1.toInt ∧ x1.toInt ≤ 30000
  · have cd : ¬ decide (0 ≤ x1.toInt ∧ x1.toInt ≤ 30000) = false := by simpa using c
    rw [if_neg cd, if_neg cd]
    obtain ⟨T1, e1, hK⟩ := gath (N := N) (by omega) h.2.1 h.2.2.1 a2 a1 hn S1 x1
    obtain ⟨g, e8⟩ := best_y hN h.2.1 h.2.2.1 a2 hn x1
    rw [e1, Option.bind_some, hvy1 (N := N) (by omega) hK hn, e8, Option.bind_some, Option.bind_some]
    exact ⟨_, _, _, rfl, rfl, Rel_22 h g⟩
  · have cd : decide (0 ≤ x1.toInt ∧ x1.toInt ≤ 30000) = false := by simpa using c
    rw [if_pos cd, if_pos cd]
    exact ⟨_, _, _, rfl, rfl, h⟩
theorem off_all (M : St) (day y : Int32) : ∀ p, fk (kb M day) (sall M) p 0 = fk (kb M day) (so M y) p 0 + fk (kb M day) (sw M y) p 0
  | 0 => rfl
  | p + 1 => by
    have i := off_all M day y p
    rw [show fk (kb M day) (sall M) (p + 1) 0 = if kb M day p = true then fk (kb M day) (sall M) p 0 + M.2.2 15 p else fk (kb M day) (sall M) p 0 from rfl, show fk (kb M day) (so M y) (p + 1) 0 = if kb M day p = true then (if hd M y p = true then fk (kb M day) (so M y) p 0 else fk (kb M day) (so M y) p 0 + M.2.2 15 p) else fk (kb M day) (so M y) p 0 from rfl, show fk (kb M day) (sw M y) (p + 1) 0 = if kb M day p = true then (if hd M y p = true then fk (kb M day) (sw M y) p 0 + M.2.2 15 p else fk (kb M day) (sw M y) p 0) else fk (kb M day) (sw M y) p 0 from rfl]
    rw [i]
    cases kb M day p
    · rw [if_neg (by decide), if_neg (by decide), if_neg (by decide)]
    · rw [if_pos rfl, if_pos rfl, if_pos rfl]
      cases hd M y p
      · rw [if_neg (by decide), if_neg (by decide)]
        ac_rfl
      · rw [if_pos rfl, if_pos rfl]
        ac_rfl
theorem lo8 {N : Nat} (hN : 2200 ≤ N) {S5 S6 M : St} (h5 : R5 S5 M) (h6 : R6 S6 M) {n : Nat} (hM : M.1 13 = nI n) (hn : n ≤ 24) (day y : Int32) : f_X8_leftOut_23 N N M day y 0 0 0 = some (fk (kb M day) (so M y) n 0, sI M 2 (fk (kb M day) (sset M y) n 0)) := by
  refine lpN (fun q p (x : Int32 × Int32) => f_X8_leftOut_23 N q M day y x.1 x.2 (nI p)) (fun p => (fk (kb M day) (so M y) p 0, fk (kb M day) (sset M y) p 0)) n _ ?_ ?_ n N 0 (by omega) (by omega)
  · intro q p hp
    obtain ⟨y1, y2, y3, y4, -⟩ := years (N := N) (by omega) h5 h6 hM hn hp
    have ek := (kn2 (N := N) h5 hM hn hp day).2
    try dsimp only
    rw [show fk (kb M day) (so M y) (p + 1) 0 = if kb M day p = true then so M y p (fk (kb M day) (so M y) p 0) else fk (kb M day) (so M y) p 0 from rfl, show fk (kb M day) (sset M y) (p + 1) 0 = if kb M day p = true then sset M y p (fk (kb M day) (sset M y) p 0) else fk (kb M day) (sset M y) p 0 from rfl]
    generalize fk (kb M day) (so M y) p 0 = u
    generalize fk (kb M day) (sset M y) p 0 = v
    show f_X8_leftOut_23_b N (fun y0 y1 y2 y3 y4 y5 => f_X8_leftOut_23 N q y0 y1 y2 y3 y4 y5) M day y u v (nI p) = _
    unfold f_X8_leftOut_23_b f_X8_leftOut_80 so sset
    rw [if_neg (lt_lit hM hp (by omega)), ek, Option.bind_some, y2, y4, in8]
    simp only [bI_0, Option.bind_some, isW, if_pos (inb_nI (show p < 24 by omega) (by omega)), cl_nI (show p ≤ 100000 by omega), nI_1]
    have e : decide ((fy M p).toInt ≤ y.toInt ∧ y.toInt ≤ (ly M p).toInt) = hd M y p := by
      unfold hd
      apply decide_eq_decide.mpr
      rw [fa_lt, fa_lt]
      omega
    rw [e]
    cases kb M day p
    · rw [if_pos rfl]; rfl
    · rw [if_neg (by decide), if_pos rfl, if_pos rfl]
      cases hd M y p
      · rw [if_pos rfl]; rfl
      · rw [if_neg (by decide), if_pos rfl, if_pos rfl]
  · intro q
    try dsimp only
    generalize fk (kb M day) (so M y) n 0 = u
    generalize fk (kb M day) (sset M y) n 0 = v
    show f_X8_leftOut_23_b N (fun y0 y1 y2 y3 y4 y5 => f_X8_leftOut_23 N q y0 y1 y2 y3 y4 y5) M day y u v (nI n) = _
    unfold f_X8_leftOut_23_b f_X8_tells
    rw [if_pos (ge_lit hM)]
    rfl
theorem sim_leftOut {N : Nat} (hN : 2200 ≤ N) {S7 S5 S6 S2 S4 S3 S0 M : St} (h : Rel S7 S5 S6 S2 S4 S3 S0 M) (S1 : St) (x1 : Int32) : ∃ (r : Int32) (T7 : St) (T1 : St) (T8 : St), f_X7_leftOut N S7 S5 S6 S1 x1 = some (r, T7, T1) ∧ f_X8_leftOut N M x1 = some (r, T8) ∧ Rel T7 S5 S6 S2 S4 S3 S0 T8 := by
  obtain ⟨n, hn, a1, a2, -⟩ := id h.2.1
  unfold f_X7_leftOut f_X8_leftOut
  simp only [isDay8, isDay7, Option.bind_some, bI_0]
  by_cases c : 0 ≤ x1.toInt ∧ x1.toInt ≤ 30000
  · have cd : ¬ decide (0 ≤ x1.toInt ∧ x1.toInt ≤ 30000) = false := by simpa using c
    rw [if_neg cd, if_neg cd]
    obtain ⟨T1, e1, hK⟩ := gath (N := N) (by omega) h.2.1 h.2.2.1 a2 a1 hn S1 x1
    obtain ⟨g, e8⟩ := best_y hN h.2.1 h.2.2.1 a2 hn x1
    have h' := Rel_22 h g
    obtain ⟨T1', e1', hK'⟩ := gath (N := N) (M := sA M 22 g) (by omega) h'.2.1 h'.2.2.1 a2 a1 hn S1 x1
    have et : T1 = T1' := Option.some.inj (e1.symm.trans e1')
    subst et
    rw [e1, Option.bind_some, hvy1 (N := N) (by omega) hK hn, e8, Option.bind_some, Option.bind_some]
    rw [show (fk (kb M x1) (hs M x1 n) n (1000, wv M x1 n 1000)).1 = hy M x1 n from rfl, set1 (N := N) (by omega) hK' hn, all1 (N := N) (by omega) hK' hn, on1 (N := N) (by omega) hK' hn, Option.bind_some, Option.bind_some, Option.bind_some]
    try dsimp only
    rw [lo8 hN h'.2.1 h'.2.2.1 a2 hn, off_all (sA M 22 g) x1 (hy M x1 n) n]
    unfold wv
    rw [Int32.add_sub_cancel]
    exact ⟨_, _, _, _, rfl, rfl, Rel_ask h' _⟩
  · have cd : decide (0 ≤ x1.toInt ∧ x1.toInt ≤ 30000) = false := by simpa using c
    rw [if_pos cd, if_pos cd]
    exact ⟨_, _, _, _, rfl, rfl, h⟩
