/-! matches -/
def abI (x : Int32) : Int32 := if 0 ≤ x then x else 0 - x
def offs (f : Nat → Int32) (s t : Nat) : Nat → Int32
  | 0 => 0
  | k + 1 => offs f s t k + abI (f (s + k) - f (t + k))
theorem offs_cong {f g : Nat → Int32} {s t : Nat} : ∀ {k : Nat}, (∀ i, i < k → f (s + i) = g (s + i)) → (∀ i, i < k → f (t + i) = g (t + i)) → offs f s t k = offs g s t k
  | 0, _, _ => rfl
  | k + 1, h1, h2 => by
    show offs f s t k + abI (f (s + k) - f (t + k)) = offs g s t k + abI (g (s + k) - g (t + k))
    rw [offs_cong (fun i hi => h1 i (by omega)) (fun i hi => h2 i (by omega)), h1 k (by omega), h2 k (by omega)]
theorem off6 {N : Nat} (hN : 50 ≤ N) (S : St) {a b p s : Nat} (ha : a < 6) (hb : b < 6) (hs : S.2.2 0 a = nI s) (hp : p + s ≤ 40) : f_X6_offAt N S (nI a) (nI b) (nI p) = some (offs (S.2.2 1) (a * 40) (b * 40 + p) s) := by
  unfold f_X6_offAt
  simp only [m40r, nI_add]
  refine lpN (fun q k x => f_X6_offAt_20 N S q (nI a) (nI (a * 40)) (nI (b * 40 + p)) x (nI k)) (fun k => offs (S.2.2 1) (a * 40) (b * 40 + p) k) s (some (offs (S.2.2 1) (a * 40) (b * 40 + p) s)) ?_ ?_ s N 0 (by omega) (by omega)
  · intro q k hk
    show f_X6_offAt_20_b N S (fun y0 y1 y2 y3 y4 => f_X6_offAt_20 N S q y0 y1 y2 y3 y4) (nI a) (nI (a * 40)) (nI (b * 40 + p)) (offs (S.2.2 1) (a * 40) (b * 40 + p) k) (nI k) = _
    unfold f_X6_offAt_20_b
    simp only [if_pos (inb_nI (show a < 6 by omega) (by omega)), cl_nI (show a ≤ 100000 by omega), hs, le_nI (show s ≤ 100000 by omega) (show k ≤ 100000 by omega), if_neg (show ¬ s ≤ k by omega), nI_add, if_pos (inb_nI (show a * 40 + k < 240 by omega) (by omega)), if_pos (inb_nI (show b * 40 + p + k < 240 by omega) (by omega)), cl_nI (show a * 40 + k ≤ 100000 by omega), cl_nI (show b * 40 + p + k ≤ 100000 by omega), nI_1]
    rfl
  · intro q
    show f_X6_offAt_20_b N S (fun y0 y1 y2 y3 y4 => f_X6_offAt_20 N S q y0 y1 y2 y3 y4) (nI a) (nI (a * 40)) (nI (b * 40 + p)) (offs (S.2.2 1) (a * 40) (b * 40 + p) s) (nI s) = _
    unfold f_X6_offAt_20_b
    simp only [if_pos (inb_nI (show a < 6 by omega) (by omega)), cl_nI (show a ≤ 100000 by omega), hs, le_nI (show s ≤ 100000 by omega) (show s ≤ 100000 by omega), if_pos (Nat.le_refl s)]
theorem ngz (x : Int32) : -x = 0 - x := (Int32.zero_sub x).symm
theorem off8 {N : Nat} (hN : 50 ≤ N) (S : St) {a b p s : Nat} (ha : a < 6) (hb : b < 6) (hs : S.2.2 6 a = nI s) (hp : p + s ≤ 40) : f_X8_offAt N S (nI a) (nI b) (nI p) = some (offs (S.2.2 7) (a * 40) (b * 40 + p) s) := by
  unfold f_X8_offAt
  refine lpN (fun q k x => f_X8_offAt_6 N S q (nI a) (nI b) (nI p) x (nI k)) (fun k => offs (S.2.2 7) (a * 40) (b * 40 + p) k) s (some (offs (S.2.2 7) (a * 40) (b * 40 + p) s)) ?_ ?_ s N 0 (by omega) (by omega)
  · intro q k hk
    show f_X8_offAt_6_b N S (fun y0 y1 y2 y3 y4 => f_X8_offAt_6 N S q y0 y1 y2 y3 y4) (nI a) (nI b) (nI p) (offs (S.2.2 7) (a * 40) (b * 40 + p) k) (nI k) = f_X8_offAt_6 N S q (nI a) (nI b) (nI p) (offs (S.2.2 7) (a * 40) (b * 40 + p) k + abI (S.2.2 7 (a * 40 + k) - S.2.2 7 (b * 40 + p + k))) (nI (k + 1))
    unfold f_X8_offAt_6_b f_X8_offAt_61
    simp only [if_pos (inb_nI (show a < 6 by omega) (by omega)), cl_nI (show a ≤ 100000 by omega), hs, le_nI (show s ≤ 100000 by omega) (show k ≤ 100000 by omega), if_neg (show ¬ s ≤ k by omega), m40l, nI_add, if_pos (inb_nI (show a * 40 + k < 240 by omega) (by omega)), if_pos (inb_nI (show b * 40 + p + k < 240 by omega) (by omega)), cl_nI (show a * 40 + k ≤ 100000 by omega), cl_nI (show b * 40 + p + k ≤ 100000 by omega), nI_1, ngz]
    unfold abI
    by_cases c : 0 ≤ S.2.2 7 (a * 40 + k) - S.2.2 7 (b * 40 + p + k)
    · rw [if_pos c, if_pos c]
    · rw [if_neg c, if_neg c]
  · intro q
    show f_X8_offAt_6_b N S (fun y0 y1 y2 y3 y4 => f_X8_offAt_6 N S q y0 y1 y2 y3 y4) (nI a) (nI b) (nI p) (offs (S.2.2 7) (a * 40) (b * 40 + p) s) (nI s) = _
    unfold f_X8_offAt_6_b
    simp only [if_pos (inb_nI (show a < 6 by omega) (by omega)), cl_nI (show a ≤ 100000 by omega), hs, le_nI (show s ≤ 100000 by omega) (show s ≤ 100000 by omega), if_pos (Nat.le_refl s)]
/-- the best place -/
def bp (o : Nat → Int32) : Nat → Nat
  | 0 => 0
  | k + 1 => if o (k + 1) < o (bp o k) then k + 1 else bp o k
theorem bp_le (o : Nat → Int32) : ∀ k, bp o k ≤ k
  | 0 => Nat.le_refl 0
  | k + 1 => by
    show (if o (k + 1) < o (bp o k) then k + 1 else bp o k) ≤ k + 1
    have := bp_le o k
    by_cases c : o (k + 1) < o (bp o k)
    · rw [if_pos c]; omega
    · rw [if_neg c]; omega
theorem bp_cong {o o' : Nat → Int32} : ∀ {k : Nat}, (∀ i, i ≤ k → o i = o' i) → bp o k = bp o' k
  | 0, _ => rfl
  | k + 1, h => by
    show (if o (k + 1) < o (bp o k) then k + 1 else bp o k) = (if o' (k + 1) < o' (bp o' k) then k + 1 else bp o' k)
    have e := bp_cong (o := o) (o' := o') (k := k) (fun i hi => h i (by omega))
    have l := bp_le o' k
    rw [e, h (k + 1) (by omega), h (bp o' k) (by omega)]
theorem best6 {N : Nat} (hN : 50 ≤ N) (S : St) {a b s t : Nat} (ha : a < 6) (hb : b < 6) (hs : S.2.2 0 a = nI s) (ht : S.2.2 0 b = nI t) (hst : s ≤ t) (ht40 : t ≤ 40) : f_X6_bestPlace N S (nI a) (nI b) = some (nI (bp (fun p => offs (S.2.2 1) (a * 40) (b * 40 + p) s) (t - s))) := by
  unfold f_X6_bestPlace
  rw [show (0 : Int32) = nI 0 from rfl, off6 hN S ha hb hs (show 0 + s ≤ 40 by omega)]
  simp only [Option.bind_some]
  refine lpN (fun q k (z : Int32 × Int32) => f_X6_bestPlace_14 N S q (nI a) (nI b) z.1 z.2 (nI (k + 1))) (fun k => (nI (bp (fun p => offs (S.2.2 1) (a * 40) (b * 40 + p) s) k), (fun p => offs (S.2.2 1) (a * 40) (b * 40 + p) s) (bp (fun p => offs (S.2.2 1) (a * 40) (b * 40 + p) s) k))) (t - s) (some (nI (bp (fun p => offs (S.2.2 1) (a * 40) (b * 40 + p) s) (t - s)))) ?_ ?_ (t - s) N 0 (by omega) (by omega)
  · intro q k hk
    generalize ho : (fun p => offs (S.2.2 1) (a * 40) (b * 40 + p) s) = o
    have oa : ∀ p, p + s ≤ 40 → f_X6_offAt N S (nI a) (nI b) (nI p) = some (o p) := fun p hp => by
      rw [off6 hN S ha hb hs hp, ← ho]
    show f_X6_bestPlace_14_b N S (fun y0 y1 y2 y3 y4 => f_X6_bestPlace_14 N S q y0 y1 y2 y3 y4) (nI a) (nI b) (nI (bp o k)) (o (bp o k)) (nI (k + 1)) = f_X6_bestPlace_14 N S q (nI a) (nI b) (nI (if o (k + 1) < o (bp o k) then k + 1 else bp o k)) (o (if o (k + 1) < o (bp o k) then k + 1 else bp o k)) (nI (k + 1 + 1))
    unfold f_X6_bestPlace_14_b f_X6_bestPlace_56
    simp only [if_pos (inb_nI (show a < 6 by omega) (by omega)), if_pos (inb_nI (show b < 6 by omega) (by omega)), cl_nI (show a ≤ 100000 by omega), cl_nI (show b ≤ 100000 by omega), hs, ht, pk_sub hst, lt_nI (show t - s ≤ 100000 by omega) (show k + 1 ≤ 100000 by omega), if_neg (show ¬ t - s < k + 1 by omega), oa (k + 1) (by omega), Option.bind_some, nI_1]
    by_cases c : o (k + 1) < o (bp o k)
    · rw [if_pos c, if_neg (by rw [fa_le]; rw [fa_lt] at c; omega)]
    · rw [if_neg c, if_pos (fa_of_nlt c)]
  · intro q
    generalize ho : (fun p => offs (S.2.2 1) (a * 40) (b * 40 + p) s) = o
    show f_X6_bestPlace_14_b N S (fun y0 y1 y2 y3 y4 => f_X6_bestPlace_14 N S q y0 y1 y2 y3 y4) (nI a) (nI b) (nI (bp o (t - s))) (o (bp o (t - s))) (nI (t - s + 1)) = _
    unfold f_X6_bestPlace_14_b
    simp only [if_pos (inb_nI (show a < 6 by omega) (by omega)), if_pos (inb_nI (show b < 6 by omega) (by omega)), cl_nI (show a ≤ 100000 by omega), cl_nI (show b ≤ 100000 by omega), hs, ht, pk_sub hst, lt_nI (show t - s ≤ 100000 by omega) (show t - s + 1 ≤ 100000 by omega), if_pos (show t - s < t - s + 1 by omega)]
theorem best8 {N : Nat} (hN : 50 ≤ N) (S : St) {a b s t : Nat} (ha : a < 6) (hb : b < 6) (hs : S.2.2 6 a = nI s) (ht : S.2.2 6 b = nI t) (hst : s ≤ t) (ht40 : t ≤ 40) : f_X8_placeOf N S (nI a) (nI b) = some (nI (bp (fun p => offs (S.2.2 7) (a * 40) (b * 40 + p) s) (t - s))) := by
  unfold f_X8_placeOf
  refine lpN (fun q k (z : Int32) => f_X8_placeOf_5 N S q (nI a) (nI b) z (nI (k + 1))) (fun k => nI (bp (fun p => offs (S.2.2 7) (a * 40) (b * 40 + p) s) k)) (t - s) (some (nI (bp (fun p => offs (S.2.2 7) (a * 40) (b * 40 + p) s) (t - s)))) ?_ ?_ (t - s) N 0 (by omega) (by omega)
  · intro q k hk
    generalize ho : (fun p => offs (S.2.2 7) (a * 40) (b * 40 + p) s) = o
    have oa : ∀ p, p + s ≤ 40 → f_X8_offAt N S (nI a) (nI b) (nI p) = some (o p) := fun p hp => by
      rw [off8 hN S ha hb hs hp, ← ho]
    have l := bp_le o k
    show f_X8_placeOf_5_b N S (fun y0 y1 y2 y3 => f_X8_placeOf_5 N S q y0 y1 y2 y3) (nI a) (nI b) (nI (bp o k)) (nI (k + 1)) = f_X8_placeOf_5 N S q (nI a) (nI b) (nI (if o (k + 1) < o (bp o k) then k + 1 else bp o k)) (nI (k + 1 + 1))
    unfold f_X8_placeOf_5_b f_X8_placeOf_47
    simp only [if_pos (inb_nI (show a < 6 by omega) (by omega)), if_pos (inb_nI (show b < 6 by omega) (by omega)), cl_nI (show a ≤ 100000 by omega), cl_nI (show b ≤ 100000 by omega), hs, ht, nI_add, lt_nI (show t ≤ 100000 by omega) (show k + 1 + s ≤ 100000 by omega), if_neg (show ¬ t < k + 1 + s by omega), oa (k + 1) (by omega), oa (bp o k) (by omega), Option.bind_some, nI_1]
    by_cases c : o (k + 1) < o (bp o k)
    · rw [if_pos c, if_neg (by rw [fa_le]; rw [fa_lt] at c; omega)]
    · rw [if_neg c, if_pos (fa_of_nlt c)]
  · intro q
    generalize ho : (fun p => offs (S.2.2 7) (a * 40) (b * 40 + p) s) = o
    show f_X8_placeOf_5_b N S (fun y0 y1 y2 y3 => f_X8_placeOf_5 N S q y0 y1 y2 y3) (nI a) (nI b) (nI (bp o (t - s))) (nI (t - s + 1)) = _
    unfold f_X8_placeOf_5_b
    simp only [if_pos (inb_nI (show a < 6 by omega) (by omega)), if_pos (inb_nI (show b < 6 by omega) (by omega)), cl_nI (show a ≤ 100000 by omega), cl_nI (show b ≤ 100000 by omega), hs, ht, nI_add, lt_nI (show t ≤ 100000 by omega) (show t - s + 1 + s ≤ 100000 by omega), if_pos (show t < t - s + 1 + s by omega)]
/-- may they match; at which place; how far off -/
def mm (M : St) (a k : Nat) : Bool := decide (0 < (M.2.2 6 a).toInt ∧ (M.2.2 6 a).toInt ≤ (M.2.2 6 k).toInt)
def bpl (M : St) (a k : Nat) : Nat := bp (fun p => offs (M.2.2 7) (a * 40) (k * 40 + p) (M.2.2 6 a).toInt.toNat) ((M.2.2 6 k).toInt.toNat - (M.2.2 6 a).toInt.toNat)
def bo (M : St) (a k : Nat) : Int32 := offs (M.2.2 7) (a * 40) (k * 40 + bpl M a k) (M.2.2 6 a).toInt.toNat
theorem may6 {N : Nat} {S6 M : St} (h : R6 S6 M) {a k : Nat} (ha : a < 6) (hk : k < 6) : f_X6_canMatch N S6 (nI a) (nI k) = some (bI (mm M a k)) := by
  obtain ⟨a1, -⟩ := h
  unfold f_X6_canMatch mm
  simp only [if_pos (inb_nI (show a < 6 by omega) (by omega)), if_pos (inb_nI (show k < 6 by omega) (by omega)), cl_nI (show a ≤ 100000 by omega), cl_nI (show k ≤ 100000 by omega), (a1 a ha).1, (a1 k hk).1, fa_le, fa_lt, tl_0]
  by_cases c1 : (M.2.2 6 a).toInt ≤ 0
  · rw [if_pos c1, decide_eq_false (by omega)]; rfl
  · rw [if_neg c1]
    by_cases c2 : (M.2.2 6 k).toInt < (M.2.2 6 a).toInt
    · rw [if_pos c2, decide_eq_false (by omega)]; rfl
    · rw [if_neg c2, decide_eq_true (by omega)]; rfl
theorem may8 {N : Nat} {M : St} {a k : Nat} (ha : a < 6) (hk : k < 6) : f_X8_mayMatch N M (nI a) (nI k) = some (bI (mm M a k)) := by
  unfold f_X8_mayMatch mm
  simp only [if_pos (inb_nI (show a < 6 by omega) (by omega)), if_pos (inb_nI (show k < 6 by omega) (by omega)), cl_nI (show a ≤ 100000 by omega), cl_nI (show k ≤ 100000 by omega), fa_le, fa_lt, tl_0]
  by_cases c1 : (M.2.2 6 a).toInt ≤ 0
  · rw [if_pos c1, decide_eq_false (by omega)]; rfl
  · rw [if_neg c1]
    by_cases c2 : (M.2.2 6 k).toInt < (M.2.2 6 a).toInt
    · rw [if_pos c2, decide_eq_false (by omega)]; rfl
    · rw [if_neg c2, decide_eq_true (by omega)]; rfl
theorem bo_all {N : Nat} (hN : 50 ≤ N) {S6 M : St} (h : R6 S6 M) {a k : Nat} (ha : a < 6) (hk : k < 6) (hm : mm M a k = true) : f_X6_bestPlace N S6 (nI a) (nI k) = some (nI (bpl M a k)) ∧ f_X6_offAt N S6 (nI a) (nI k) (nI (bpl M a k)) = some (bo M a k) ∧ f_X8_placeOf N M (nI a) (nI k) = some (nI (bpl M a k)) ∧ f_X8_offAt N M (nI a) (nI k) (nI (bpl M a k)) = some (bo M a k) := by
  obtain ⟨a1, a2, -⟩ := h
  obtain ⟨m1, m2⟩ := of_decide_eq_true hm
  have u1 := (a1 a ha).2.2
  have u2 := (a1 k hk).2.2
  obtain ⟨s, hs, es⟩ := ix_of (x := M.2.2 6 a) (n := 41) (by omega) (by omega) (by omega)
  obtain ⟨t, ht, et⟩ := ix_of (x := M.2.2 6 k) (n := 41) (by omega) (by omega) (by omega)
  have ns : (M.2.2 6 a).toInt.toNat = s := by rw [es, ti_nI (by omega)]; rfl
  have nt : (M.2.2 6 k).toInt.toNat = t := by rw [et, ti_nI (by omega)]; rfl
  have hst : s ≤ t := by
    rw [es, et, ti_nI (by omega), ti_nI (by omega)] at m2
    omega
  have eo : ∀ p, p + s ≤ t → offs (S6.2.2 1) (a * 40) (k * 40 + p) s = offs (M.2.2 7) (a * 40) (k * 40 + p) s := fun p hp => offs_cong (fun i hi => a2 a i ha (by rw [es, ti_nI (by omega)]; omega)) (fun i hi => by
    rw [Nat.add_assoc]
    exact a2 k (p + i) hk (by rw [et, ti_nI (by omega)]; omega))
  have eb : bp (fun p => offs (S6.2.2 1) (a * 40) (k * 40 + p) s) (t - s) = bpl M a k := by
    unfold bpl
    rw [ns, nt]
    exact bp_cong (fun i hi => eo i (by omega))
  have lb : bpl M a k ≤ t - s := by
    rw [← eb]; exact bp_le _ _
  refine ⟨?_, ?_, ?_, ?_⟩
  · rw [best6 hN S6 ha hk ((a1 a ha).1.trans es) ((a1 k hk).1.trans et) hst (by omega), eb]
  · rw [off6 hN S6 ha hk ((a1 a ha).1.trans es) (by omega), eo _ (by omega)]
    unfold bo
    rw [ns]
  · rw [best8 hN M ha hk es et hst (by omega)]
    unfold bpl
    rw [ns, nt]
  · rw [off8 hN M ha hk es (by omega)]
    unfold bo
    rw [ns]
