/-! copy -/
theorem cm64 (a b : Int64) : (0 < lg_cmp a b) = (b < a) := by
  unfold lg_cmp
  by_cases c : a > b
  · rw [if_pos c]; exact propext ⟨fun _ => c, fun _ => by decide⟩
  · rw [if_neg c]
    by_cases c2 : a = b
    · rw [if_pos c2]; exact propext ⟨fun z => absurd z (by decide), fun z => absurd z c⟩
    · rw [if_neg c2]; exact propext ⟨fun z => absurd z (by decide), fun z => absurd z c⟩
theorem cl64 (a b : Int64) : (lg_cmp a b ≤ 0) = (a ≤ b) := propext (lg_cmp_le a b)
theorem ce64 (a b : Int64) : (lg_cmp a b = 0) = (a = b) := by
  unfold lg_cmp
  by_cases c : a > b
  · rw [if_pos c]; exact propext ⟨fun z => absurd z (by decide), fun z => by
      rw [z] at c
      exact absurd c (by rw [gt_iff_lt, fa_lt64]; omega)⟩
  · rw [if_neg c]
    by_cases c2 : a = b
    · rw [if_pos c2]; exact propext ⟨fun _ => c2, fun _ => rfl⟩
    · rw [if_neg c2]; exact propext ⟨fun z => absurd z (by decide), fun z => absurd z c2⟩
theorem sum64 (x y : Int32) : (Int32.toInt64 x + Int32.toInt64 y).toInt = x.toInt + y.toInt := by
  have r1 := fb_rng x
  have r2 := fb_rng y
  rw [fb_addL (by rw [Int32.toInt_toInt64, Int32.toInt_toInt64]; omega) (by rw [Int32.toInt_toInt64, Int32.toInt_toInt64]; omega), Int32.toInt_toInt64, Int32.toInt_toInt64]
/-- the reference's copy: out to the side, then in -/
def cpA (f g : Nat → Int32) (s k : Nat) : Nat → Int32 := fun j => if j < k then g (s + j) else f j
theorem cpA_0 (f g : Nat → Int32) (s : Nat) : cpA f g s 0 = f := by
  funext j; unfold cpA; rw [if_neg (by omega)]
theorem cpA_s (f g : Nat → Int32) (s k : Nat) : upd (cpA f g s k) k (g (s + k)) = cpA f g s (k + 1) := by
  funext j
  unfold upd cpA
  by_cases e : j = k
  · rw [if_pos e, if_pos (by omega), e]
  · rw [if_neg e]
    by_cases q : j < k
    · rw [if_pos q, if_pos (by omega)]
    · rw [if_neg q, if_neg (by omega)]
theorem cpy_0 (f g : Nat → Int32) (s d : Nat) : va_cpy f g s d 0 = g := by
  funext j; unfold va_cpy; rw [if_neg (by omega)]
theorem cpy_s (f g : Nat → Int32) (s d k : Nat) : upd (va_cpy f g s d k) (d + k) (f (s + k)) = va_cpy f g s d (k + 1) := by
  funext j
  unfold upd va_cpy
  by_cases e : j = d + k
  · rw [if_pos e, if_pos (by omega), show j - d = k by omega]
  · rw [if_neg e]
    by_cases q : d ≤ j ∧ j < d + k
    · rw [if_pos q, if_pos (by omega)]
    · rw [if_neg q, if_neg (by omega)]
theorem cp8b {N : Nat} (hN : 50 ≤ N) (S : St) {t j n : Nat} (ht : t < 6) (hj : j + n ≤ 40) (hb : ∀ k, k < n → (S.2.2 8 k).toInt8.toInt32 = S.2.2 8 k) : f_X8_copy_135 N N S (nI t) (nI j) (nI n) 0 = some (1, sA S 7 (va_cpy (S.2.2 8) (S.2.2 7) 0 (t * 40 + j) n)) := by
  have K := lpN (fun q k (T : St) => f_X8_copy_135 N q T (nI t) (nI j) (nI n) (nI k)) (fun k => sA S 7 (va_cpy (S.2.2 8) (S.2.2 7) 0 (t * 40 + j) k)) n (some (1, sA S 7 (va_cpy (S.2.2 8) (S.2.2 7) 0 (t * 40 + j) n))) ?_ ?_ n N 0 (by omega) (by omega)
  · simp only [cpy_0, sA_same] at K
    exact K
  · intro q k hk
    show f_X8_copy_135_b N (fun y0 y1 y2 y3 y4 => f_X8_copy_135 N q y0 y1 y2 y3 y4) (sA S 7 (va_cpy (S.2.2 8) (S.2.2 7) 0 (t * 40 + j) k)) (nI t) (nI j) (nI n) (nI k) = _
    unfold f_X8_copy_135_b
    simp only [le_nI (show n ≤ 100000 by omega) (show k ≤ 100000 by omega), if_neg (show ¬ n ≤ k by omega), m40l, nI_add, if_pos (inb_nI (show k < 40 by omega) (by omega)), if_pos (inb_nI (show t * 40 + j + k < 240 by omega) (by omega)), cl_nI (show k ≤ 100000 by omega), cl_nI (show t * 40 + j + k ≤ 100000 by omega), sA_at, sA_sA, nI_1]
    rw [show (sA S 7 (va_cpy (S.2.2 8) (S.2.2 7) 0 (t * 40 + j) k)).2.2 8 = S.2.2 8 from rfl, nb_b (hb k hk)]
    have e := cpy_s (S.2.2 8) (S.2.2 7) 0 (t * 40 + j) k
    rw [Nat.zero_add] at e
    rw [e]
  · intro q
    show f_X8_copy_135_b N (fun y0 y1 y2 y3 y4 => f_X8_copy_135 N q y0 y1 y2 y3 y4) (sA S 7 (va_cpy (S.2.2 8) (S.2.2 7) 0 (t * 40 + j) n)) (nI t) (nI j) (nI n) (nI n) = _
    unfold f_X8_copy_135_b
    simp only [le_nI (show n ≤ 100000 by omega) (show n ≤ 100000 by omega), if_pos (Nat.le_refl n)]
theorem cp8a {N : Nat} (hN : 50 ≤ N) (S : St) {a i t j n : Nat} (ha : a < 6) (hi : i + n ≤ 40) (ht : t < 6) (hj : j + n ≤ 40) (hb : ∀ k, k < 240 → (S.2.2 7 k).toInt8.toInt32 = S.2.2 7 k) : f_X8_copy_98 N N S (nI a) (nI i) (nI t) (nI j) (nI n) 0 = some (1, sA (sA S 8 (cpA (S.2.2 8) (S.2.2 7) (a * 40 + i) n)) 7 (va_cpy (S.2.2 7) (S.2.2 7) (a * 40 + i) (t * 40 + j) n)) := by
  have K := lpN (fun q k (T : St) => f_X8_copy_98 N q T (nI a) (nI i) (nI t) (nI j) (nI n) (nI k)) (fun k => sA S 8 (cpA (S.2.2 8) (S.2.2 7) (a * 40 + i) k)) n (some (1, sA (sA S 8 (cpA (S.2.2 8) (S.2.2 7) (a * 40 + i) n)) 7 (va_cpy (S.2.2 7) (S.2.2 7) (a * 40 + i) (t * 40 + j) n))) ?_ ?_ n N 0 (by omega) (by omega)
  · simp only [cpA_0, sA_same] at K
    exact K
  · intro q k hk
    show f_X8_copy_98_b N (fun y0 y1 y2 y3 y4 y5 y6 => f_X8_copy_98 N q y0 y1 y2 y3 y4 y5 y6) (sA S 8 (cpA (S.2.2 8) (S.2.2 7) (a * 40 + i) k)) (nI a) (nI i) (nI t) (nI j) (nI n) (nI k) = _
    unfold f_X8_copy_98_b
    simp only [le_nI (show n ≤ 100000 by omega) (show k ≤ 100000 by omega), if_neg (show ¬ n ≤ k by omega), m40l, nI_add, if_pos (inb_nI (show k < 40 by omega) (by omega)), if_pos (inb_nI (show a * 40 + i + k < 240 by omega) (by omega)), cl_nI (show k ≤ 100000 by omega), cl_nI (show a * 40 + i + k ≤ 100000 by omega), sA_at, sA_sA, nI_1]
    rw [show (sA S 8 (cpA (S.2.2 8) (S.2.2 7) (a * 40 + i) k)).2.2 7 = S.2.2 7 from rfl, nb_b (hb _ (by omega)), cpA_s]
  · intro q
    show f_X8_copy_98_b N (fun y0 y1 y2 y3 y4 y5 y6 => f_X8_copy_98 N q y0 y1 y2 y3 y4 y5 y6) (sA S 8 (cpA (S.2.2 8) (S.2.2 7) (a * 40 + i) n)) (nI a) (nI i) (nI t) (nI j) (nI n) (nI n) = _
    unfold f_X8_copy_98_b
    simp only [le_nI (show n ≤ 100000 by omega) (show n ≤ 100000 by omega), if_pos (Nat.le_refl n)]
    rw [cp8b hN _ ht hj (fun k hk => by
      show (cpA (S.2.2 8) (S.2.2 7) (a * 40 + i) n k).toInt8.toInt32 = cpA (S.2.2 8) (S.2.2 7) (a * 40 + i) n k
      unfold cpA
      simp only [if_pos hk]
      exact hb _ (by omega))]
    have e : va_cpy ((sA S 8 (cpA (S.2.2 8) (S.2.2 7) (a * 40 + i) n)).2.2 8) (S.2.2 7) 0 (t * 40 + j) n = va_cpy (S.2.2 7) (S.2.2 7) (a * 40 + i) (t * 40 + j) n := by
      rw [sA_at]
      funext x
      unfold va_cpy cpA
      by_cases c : t * 40 + j ≤ x ∧ x < t * 40 + j + n
      · simp only [if_pos c, Nat.zero_add, if_pos (show x - (t * 40 + j) < n by omega)]
      · simp only [if_neg c]
    rw [show (sA S 8 (cpA (S.2.2 8) (S.2.2 7) (a * 40 + i) n)).2.2 7 = S.2.2 7 from rfl, e]
theorem mv6 {N : Nat} (S : St) {a i t j n : Nat} (ha : a < 6) (hi : i + n ≤ 40) (ht : t < 6) (hj : j + n ≤ 40) (hb : ∀ k, k < 240 → (S.2.2 1 k).toInt8.toInt32 = S.2.2 1 k) : f_X6_move N S (nI a) (nI i) (nI t) (nI j) (nI n) = some (sA S 1 (va_cpy (S.2.2 1) (S.2.2 1) (a * 40 + i) (t * 40 + j) n)) := by
  unfold f_X6_move
  simp only [m40r, nI_add]
  rw [if_pos, cl_nI (by omega), cl_nI (by omega), cl_nI (by omega)]
  unfold acp
  rw [ti_nI (by omega), ti_nI (by omega), ti_nI (by omega)]
  exact decide_eq_true ⟨by omega, by omega, by omega, by omega, by omega, hb⟩
theorem sim_copy {N : Nat} (hN : 2200 ≤ N) {S7 S5 S6 S2 S4 S3 S0 M : St} (h : Rel S7 S5 S6 S2 S4 S3 S0 M) (x1 x2 x3 x4 x5 : Int32) : ∃ (r : Int32) (T7 T6 T8 : St), f_X7_copy N S7 S6 x1 x2 x3 x4 x5 = some (r, T7, T6) ∧ f_X8_copy N M x1 x2 x3 x4 x5 = some (r, T8) ∧ Rel T7 S5 T6 S2 S4 S3 S0 T8 := by
  obtain ⟨h7, h5, ⟨a1, a2, a3, a4⟩, hr⟩ := id h
  unfold f_X7_copy f_X8_copy f_X7_copy_38 f_X7_copy_73 f_X8_copy_34 f_X8_copy_89
  rw [isRow8]
  simp only [isRow7, Option.bind_some, bI_0, decide_eq_false_iff_not]
  by_cases c1 : 0 ≤ x1.toInt ∧ x1.toInt ≤ 5
  · rw [inn c1, inn c1]
    by_cases c2 : 0 ≤ x3.toInt ∧ x3.toInt ≤ 5
    · rw [inn c2, inn c2]
      obtain ⟨a, ha, rfl⟩ := ix_of (x := x1) (n := 6) c1.1 (by omega) (by omega)
      obtain ⟨t, ht, rfl⟩ := ix_of (x := x3) (n := 6) c2.1 (by omega) (by omega)
      have b2 := (a1 a ha).2.1
      have b3 := (a1 a ha).2.2
      have d2 := (a1 t ht).2.1
      have d3 := (a1 t ht).2.2
      simp only [miss6 h.2.2.1 ha, miss6 h.2.2.1 ht, run6 h.2.2.1 ha, run6 h.2.2.1 ht, Option.bind_some, bI_0, decide_eq_false_iff_not, if_pos (inb_nI (show a < 6 by omega) (by omega)), if_pos (inb_nI (show t < 6 by omega) (by omega)), cl_nI (show a ≤ 100000 by omega), cl_nI (show t ≤ 100000 by omega), cm64, cl64]
      simp only [fa_lt, fa_le, fa_lt64, fa_le64, sum64, Int32.toInt_toInt64, tl_0, ref7_1, ref7_2, ref8_1, ref8_2]
      have bad1 : ∃ (r : Int32) (T7 T6 T8 : St), some ((-3 : Int32), rf7 S7 1 1, S6) = some (r, T7, T6) ∧ some ((-3 : Int32), rf8 M 1 1) = some (r, T8) ∧ Rel T7 S5 T6 S2 S4 S3 S0 T8 := ⟨_, _, _, _, rfl, rfl, Rel_ref h 1 1 (by omega)⟩
      have bad2 : ∃ (r : Int32) (T7 T6 T8 : St), some ((-3 : Int32), rf7 S7 2 2, S6) = some (r, T7, T6) ∧ some ((-3 : Int32), rf8 M 2 2) = some (r, T8) ∧ Rel T7 S5 T6 S2 S4 S3 S0 T8 := ⟨_, _, _, _, rfl, rfl, Rel_ref h 2 2 (by omega)⟩
      by_cases e1 : (M.2.2 6 a).toInt < 0
      · rw [inn e1, if_pos e1]
        exact bad1
      · rw [inp e1, if_neg e1]
        by_cases e2 : (M.2.2 6 t).toInt < 0
        · rw [inn e2, if_neg (show ¬ 0 ≤ (M.2.2 6 t).toInt by omega)]
          exact bad1
        · rw [inp e2, if_pos (show 0 ≤ (M.2.2 6 t).toInt by omega)]
          by_cases g1 : 0 ≤ x2.toInt ∧ x2.toInt ≤ (M.2.2 6 a).toInt ∧ 0 ≤ x5.toInt ∧ x5.toInt ≤ (M.2.2 6 a).toInt - x2.toInt
          · rw [inn g1]
            by_cases g2 : 0 ≤ x4.toInt ∧ x4.toInt ≤ (M.2.2 6 t).toInt ∧ 0 ≤ x5.toInt ∧ x5.toInt ≤ (M.2.2 6 t).toInt - x4.toInt
            · rw [inn g2, if_neg (show ¬ x2.toInt < 0 by omega), if_neg (show ¬ x4.toInt < 0 by omega), if_neg (show ¬ x5.toInt < 0 by omega), if_neg (show ¬ (M.2.2 6 a).toInt < x2.toInt + x5.toInt by omega), if_pos (show x4.toInt + x5.toInt ≤ (M.2.2 6 t).toInt by omega)]
              obtain ⟨i, hi, rfl⟩ := ix_of (x := x2) (n := 41) g1.1 (by omega) (by omega)
              obtain ⟨j, hj, rfl⟩ := ix_of (x := x4) (n := 41) g2.1 (by omega) (by omega)
              obtain ⟨n, hn, rfl⟩ := ix_of (x := x5) (n := 41) g2.2.2.1 (by omega) (by omega)
              rw [ti_nI (show i ≤ 100000 by omega), ti_nI (show n ≤ 100000 by omega)] at g1
              rw [ti_nI (show j ≤ 100000 by omega), ti_nI (show n ≤ 100000 by omega)] at g2
              rw [mv6 S6 ha (show i + n ≤ 40 by omega) ht (show j + n ≤ 40 by omega) a3, cp8a (by omega) M ha (show i + n ≤ 40 by omega) ht (show j + n ≤ 40 by omega) a4]
              refine ⟨_, _, _, _, rfl, rfl, h7, h5, ⟨a1, fun r k hr hk => ?_, fun k hk => ?_, fun k hk => ?_⟩, hr⟩
              · show va_cpy (S6.2.2 1) (S6.2.2 1) (a * 40 + i) (t * 40 + j) n (r * 40 + k) = va_cpy (M.2.2 7) (M.2.2 7) (a * 40 + i) (t * 40 + j) n (r * 40 + k)
                have hk : (k : Int) < (M.2.2 6 r).toInt := hk
                unfold va_cpy
                by_cases c : t * 40 + j ≤ r * 40 + k ∧ r * 40 + k < t * 40 + j + n
                · rw [if_pos c, if_pos c, show a * 40 + i + (r * 40 + k - (t * 40 + j)) = a * 40 + (i + (r * 40 + k - (t * 40 + j))) by omega]
                  exact a2 a _ ha (by omega)
                · rw [if_neg c, if_neg c]
                  exact a2 r k hr hk
              · show (va_cpy (S6.2.2 1) (S6.2.2 1) (a * 40 + i) (t * 40 + j) n k).toInt8.toInt32 = va_cpy (S6.2.2 1) (S6.2.2 1) (a * 40 + i) (t * 40 + j) n k
                unfold va_cpy
                by_cases c : t * 40 + j ≤ k ∧ k < t * 40 + j + n
                · simp only [if_pos c]; exact a3 _ (by omega)
                · simp only [if_neg c]; exact a3 k hk
              · show (va_cpy (M.2.2 7) (M.2.2 7) (a * 40 + i) (t * 40 + j) n k).toInt8.toInt32 = va_cpy (M.2.2 7) (M.2.2 7) (a * 40 + i) (t * 40 + j) n k
                unfold va_cpy
                by_cases c : t * 40 + j ≤ k ∧ k < t * 40 + j + n
                · simp only [if_pos c]; exact a4 _ (by omega)
                · simp only [if_neg c]; exact a4 k hk
            · rw [inp g2, if_neg (show ¬ x2.toInt < 0 by omega)]
              by_cases f1 : x4.toInt < 0
              · rw [if_pos f1]; exact bad2
              · rw [if_neg f1, if_neg (show ¬ x5.toInt < 0 by omega), if_neg (show ¬ (M.2.2 6 a).toInt < x2.toInt + x5.toInt by omega), if_neg (show ¬ x4.toInt + x5.toInt ≤ (M.2.2 6 t).toInt by omega)]
                exact bad2
          · rw [inp g1]
            by_cases f0 : x2.toInt < 0
            · rw [if_pos f0]; exact bad2
            · rw [if_neg f0]
              by_cases f1 : x4.toInt < 0
              · rw [if_pos f1]; exact bad2
              · rw [if_neg f1]
                by_cases f2 : x5.toInt < 0
                · rw [if_pos f2]; exact bad2
                · rw [if_neg f2, if_pos (show (M.2.2 6 a).toInt < x2.toInt + x5.toInt by omega)]
                  exact bad2
    · rw [inp c2, inp c2]
      exact ⟨_, _, _, _, rfl, rfl, h⟩
  · rw [inp c1, inp c1]
    exact ⟨_, _, _, _, rfl, rfl, h⟩
