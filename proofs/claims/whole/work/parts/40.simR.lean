/-! the known proofs, one after another -/
def fk {α : Type} (b : Nat → Bool) (st : Nat → α → α) : Nat → α → α
  | 0, a => a
  | p + 1, a => if b p = true then st p (fk b st p a) else fk b st p a
theorem ct_lt {b : Nat → Bool} {p n : Nat} (h : p < n) (hb : b p = true) : fb_ct b p < fb_ct b n := by
  have m1 := fb_ct_mono b (show p + 1 ≤ n by omega)
  rw [fb_ct_succ, hb, if_pos rfl] at m1
  omega
theorem ct_yes {b : Nat → Bool} {p : Nat} (hb : b p = true) : fb_ct b (p + 1) = fb_ct b p + 1 := by rw [fb_ct_succ, hb, if_pos rfl]
theorem ct_no {b : Nat → Bool} {p : Nat} (hb : b p = false) : fb_ct b (p + 1) = fb_ct b p := by rw [fb_ct_succ, hb, if_neg (by decide), Nat.add_zero]
theorem lpK {α ρ : Type} (G : Nat → Nat → α → Option ρ) (b : Nat → Bool) (st : Nat → α → α) (n : Nat) (a0 : α) (r : Option ρ)
    (hs : ∀ q p, p < n → b p = true → G (q + 1) (fb_ct b p) (fk b st p a0) = G q (fb_ct b p + 1) (st p (fk b st p a0)))
    (he : ∀ q, G (q + 1) (fb_ct b n) (fk b st n a0) = r) : ∀ (c q p : Nat), p + c = n → fb_ct b n - fb_ct b p < q → G q (fb_ct b p) (fk b st p a0) = r := by
  intro c
  induction c with
  | zero =>
    intro q p hp hq
    obtain ⟨q, rfl⟩ : ∃ z, q = z + 1 := ⟨q - 1, by omega⟩
    have : p = n := by omega
    subst this
    exact he q
  | succ c ih =>
    intro q p hp hq
    obtain ⟨q, rfl⟩ : ∃ z, q = z + 1 := ⟨q - 1, by omega⟩
    cases hb : b p
    · have i := ih (q + 1) (p + 1) (by omega) (by rw [ct_no hb]; exact hq)
      rw [ct_no hb, show fk b st (p + 1) a0 = fk b st p a0 from if_neg (by rw [hb]; decide)] at i
      exact i
    · rw [hs q p (by omega) hb]
      have l := ct_lt (b := b) (show p < n by omega) hb
      have i := ih q (p + 1) (by omega) (by rw [ct_yes hb]; omega)
      rw [ct_yes hb, show fk b st (p + 1) a0 = st p (fk b st p a0) from if_pos hb] at i
      exact i
def s1 (M : St) (p : Nat) (x : Int32) : Int32 := if x < fy M p then fy M p else x
def s2 (M : St) (p : Nat) (x : Int32) : Int32 := if ly M p < x then ly M p else x
theorem nlt32 {α : Type} (a b : Int32) (x y : α) : (if a ≤ b then x else y) = (if b < a then y else x) := by
  by_cases c : b < a
  · rw [if_pos c, if_neg (by rw [fa_le]; rw [fa_lt] at c; omega)]
  · rw [if_neg c, if_pos (by rw [fa_le]; rw [fa_lt] at c; omega)]
theorem first1 {N n : Nat} (hN : 50 ≤ N) {T1 M : St} {day : Int32} (hK : Kn T1 M day n) (hn : n ≤ 24) : f_X1_firstCommonYear N T1 = some (fk (kb M day) (s1 M) n 1000) := by
  unfold f_X1_firstCommonYear
  have L := fb_ct_le (kb M day) n
  refine lpK (fun q i x => f_X1_firstCommonYear_6 N T1 q x (nI i)) (kb M day) (s1 M) n 1000 _ ?_ ?_ n N 0 (by omega) (by omega)
  · intro q p hp hb
    obtain ⟨k1, k2, k3, k4⟩ := hK.2 p hp hb
    have l := ct_lt (b := kb M day) hp hb
    generalize fk (kb M day) (s1 M) p 1000 = x
    show f_X1_firstCommonYear_6_b N T1 (fun y0 y1 => f_X1_firstCommonYear_6 N T1 q y0 y1) x (nI (fb_ct (kb M day) p)) = f_X1_firstCommonYear_6 N T1 q (s1 M p x) (nI (fb_ct (kb M day) p + 1))
    unfold f_X1_firstCommonYear_6_b
    rw [if_neg (lt_lit hK.1 l (by omega)), if_pos (inb_nI (show fb_ct (kb M day) p < 24 by omega) (by omega)), cl_nI (by omega), k2, nI_1]
    rfl
  · intro q
    generalize fk (kb M day) (s1 M) n 1000 = x
    show f_X1_firstCommonYear_6_b N T1 (fun y0 y1 => f_X1_firstCommonYear_6 N T1 q y0 y1) x (nI (fb_ct (kb M day) n)) = _
    unfold f_X1_firstCommonYear_6_b
    rw [if_pos (ge_lit hK.1)]
theorem last1 {N n : Nat} (hN : 50 ≤ N) {T1 M : St} {day : Int32} (hK : Kn T1 M day n) (hn : n ≤ 24) : f_X1_lastCommonYear N T1 = some (fk (kb M day) (s2 M) n 2100) := by
  unfold f_X1_lastCommonYear
  have L := fb_ct_le (kb M day) n
  refine lpK (fun q i x => f_X1_lastCommonYear_6 N T1 q x (nI i)) (kb M day) (s2 M) n 2100 _ ?_ ?_ n N 0 (by omega) (by omega)
  · intro q p hp hb
    obtain ⟨k1, k2, k3, k4⟩ := hK.2 p hp hb
    have l := ct_lt (b := kb M day) hp hb
    generalize fk (kb M day) (s2 M) p 2100 = x
    show f_X1_lastCommonYear_6_b N T1 (fun y0 y1 => f_X1_lastCommonYear_6 N T1 q y0 y1) x (nI (fb_ct (kb M day) p)) = f_X1_lastCommonYear_6 N T1 q (s2 M p x) (nI (fb_ct (kb M day) p + 1))
    unfold f_X1_lastCommonYear_6_b
    rw [if_neg (lt_lit hK.1 l (by omega)), if_pos (inb_nI (show fb_ct (kb M day) p < 24 by omega) (by omega)), cl_nI (by omega), k3, nI_1]
    rfl
  · intro q
    generalize fk (kb M day) (s2 M) n 2100 = x
    show f_X1_lastCommonYear_6_b N T1 (fun y0 y1 => f_X1_lastCommonYear_6 N T1 q y0 y1) x (nI (fb_ct (kb M day) n)) = _
    unfold f_X1_lastCommonYear_6_b
    rw [if_pos (ge_lit hK.1)]
theorem sim_span {N : Nat} (hN : 2200 ≤ N) {S7 S5 S6 S2 S4 S3 S0 M : St} (h : Rel S7 S5 S6 S2 S4 S3 S0 M) (S1 : St) (x1 : Int32) (x2 : Int32) : ∃ (r : Int32) (T1 : St), f_X7_span N S7 S5 S6 S1 x1 x2 = some (r, T1) ∧ f_X8_span N M x1 x2 = some r ∧ Rel S7 S5 S6 S2 S4 S3 S0 M := by
  obtain ⟨n, hn, a1, a2, -⟩ := id h.2.1
  unfold f_X7_span f_X8_span
  simp only [isDay8, isDay7, Option.bind_some, bI_0]
  by_cases c : 0 ≤ x1.toInt ∧ x1.toInt ≤ 30000
  · have cd : ¬ decide (0 ≤ x1.toInt ∧ x1.toInt ≤ 30000) = false := by simpa using c
    rw [if_neg cd, if_neg cd]
    obtain ⟨T1, e1, hK⟩ := gath (N := N) (by omega) h.2.1 h.2.2.1 a2 a1 hn S1 x1
    rw [e1, Option.bind_some, first1 (N := N) (by omega) hK hn, last1 (N := N) (by omega) hK hn, Option.bind_some, Option.bind_some]
    have e8 : f_X8_span_21 N M N x1 x2 1000 2100 0 = (if fk (kb M x1) (s1 M) n 1000 ≤ fk (kb M x1) (s2 M) n 2100 then (if x2 = 0 then some (fk (kb M x1) (s1 M) n 1000) else some (fk (kb M x1) (s2 M) n 2100)) else some (-9)) := by
      refine lpN (fun q p (x : Int32 × Int32) => f_X8_span_21 N M q x1 x2 x.1 x.2 (nI p)) (fun p => (fk (kb M x1) (s1 M) p 1000, fk (kb M x1) (s2 M) p 2100)) n _ ?_ ?_ n N 0 (by omega) (by omega)
      · intro q p hp
        obtain ⟨y1, y2, y3, y4, -⟩ := years (N := N) (by omega) h.2.1 h.2.2.1 a2 hn hp
        have ek := (kn2 (N := N) h.2.1 a2 hn hp x1).2
        dsimp only
        rw [show fk (kb M x1) (s1 M) (p + 1) 1000 = if kb M x1 p = true then s1 M p (fk (kb M x1) (s1 M) p 1000) else fk (kb M x1) (s1 M) p 1000 from rfl, show fk (kb M x1) (s2 M) (p + 1) 2100 = if kb M x1 p = true then s2 M p (fk (kb M x1) (s2 M) p 2100) else fk (kb M x1) (s2 M) p 2100 from rfl]
        generalize fk (kb M x1) (s1 M) p 1000 = u
        generalize fk (kb M x1) (s2 M) p 2100 = v
        show f_X8_span_21_b N M (fun y0 y1 y2 y3 y4 => f_X8_span_21 N M q y0 y1 y2 y3 y4) x1 x2 u v (nI p) = _
        unfold f_X8_span_21_b f_X8_span_60 f_X8_span_83 f_X8_span_85
        rw [if_neg (lt_lit a2 hp (by omega)), ek, Option.bind_some, y2, y4]
        simp only [bI_0, Option.bind_some, nI_1]
        cases kb M x1 p
        · rw [if_pos rfl]; rfl
        · rw [if_neg (by decide), if_pos rfl, if_pos rfl, nlt32, nlt32]
          unfold s1 s2
          by_cases c1 : u < fy M p
          · rw [if_pos c1, if_pos c1]
            by_cases c2 : ly M p < v
            · rw [if_pos c2, if_pos c2]
            · rw [if_neg c2, if_neg c2]
          · rw [if_neg c1, if_neg c1, nlt32]
            by_cases c2 : ly M p < v
            · rw [if_pos c2, if_pos c2]
            · rw [if_neg c2, if_neg c2]
      · intro q
        dsimp only
        generalize fk (kb M x1) (s1 M) n 1000 = u
        generalize fk (kb M x1) (s2 M) n 2100 = v
        show f_X8_span_21_b N M (fun y0 y1 y2 y3 y4 => f_X8_span_21 N M q y0 y1 y2 y3 y4) x1 x2 u v (nI n) = _
        unfold f_X8_span_21_b
        rw [if_pos (ge_lit a2)]
    rw [e8]
    generalize fk (kb M x1) (s1 M) n 1000 = u
    generalize fk (kb M x1) (s2 M) n 2100 = v
    by_cases c1 : u ≤ v
    · rw [if_pos c1, if_pos c1]
      by_cases c2 : x2 = 0
      · rw [if_pos c2, if_pos c2]; exact ⟨_, _, rfl, rfl, h⟩
      · rw [if_neg c2, if_neg c2]; exact ⟨_, _, rfl, rfl, h⟩
    · rw [if_neg c1, if_neg c1]; exact ⟨_, _, rfl, rfl, h⟩
  · have cd : decide (0 ≤ x1.toInt ∧ x1.toInt ≤ 30000) = false := by simpa using c
    rw [if_pos cd, if_pos cd]
    exact ⟨_, _, rfl, rfl, h⟩
/-- quarrels -/
def sj (P : Nat → Bool) : Nat → Nat → Option Nat
  | _, 0 => none
  | j, c + 1 => if P j = true then some j else sj P (j + 1) c
theorem sj_some {P : Nat → Bool} : ∀ {c j i : Nat}, sj P j c = some i → j ≤ i ∧ i < j + c ∧ P i = true
  | 0, j, i, h => by cases h
  | c + 1, j, i, h => by
    cases hp : P j
    · have e : sj P j (c + 1) = sj P (j + 1) c := if_neg (by rw [hp]; decide)
      rw [e] at h
      obtain ⟨s1, s2, s3⟩ := sj_some h
      exact ⟨by omega, by omega, s3⟩
    · have e : sj P j (c + 1) = some j := if_pos hp
      rw [e] at h
      injection h with h
      subst h
      exact ⟨Nat.le_refl _, by omega, hp⟩
def qP (M : St) (day : Int32) (p j : Nat) : Bool := kb M day j && decide (ly M p < fy M j ∨ ¬ fy M p ≤ ly M j)
theorem opp1 {N n : Nat} {T1 M : St} {day : Int32} (hK : Kn T1 M day n) (hn : n ≤ 24) {p : Nat} (hp : p < n) (hb : kb M day p = true) :
    ∀ (c j q : Nat), j + c = n → p < j → fb_ct (kb M day) n - fb_ct (kb M day) j < q → f_X1_opponentAfter_4 N T1 q (nI (fb_ct (kb M day) p)) (nI (fb_ct (kb M day) j)) = some (match sj (qP M day p) j c with | none => -9 | some i => nI (fb_ct (kb M day) i)) := by
  have L := fb_ct_le (kb M day) n
  have lp := ct_lt (b := kb M day) hp hb
  obtain ⟨p1, p2, p3, p4⟩ := hK.2 p hp hb
  intro c
  induction c with
  | zero =>
    intro j q hj hpj hq
    obtain ⟨q, rfl⟩ : ∃ z, q = z + 1 := ⟨q - 1, by omega⟩
    have : j = n := by omega
    subst this
    show f_X1_opponentAfter_4_b N T1 (fun y0 y1 => f_X1_opponentAfter_4 N T1 q y0 y1) (nI (fb_ct (kb M day) p)) (nI (fb_ct (kb M day) j)) = _
    unfold f_X1_opponentAfter_4_b
    rw [if_pos (ge_lit hK.1)]
    rfl
  | succ c ih =>
    intro j q hj hpj hq
    obtain ⟨q, rfl⟩ : ∃ z, q = z + 1 := ⟨q - 1, by omega⟩
    cases hj2 : kb M day j
    · have e : sj (qP M day p) j (c + 1) = sj (qP M day p) (j + 1) c := if_neg (by unfold qP; rw [hj2]; simp)
      have i := ih (j + 1) (q + 1) (by omega) (by omega) (by rw [ct_no hj2]; exact hq)
      rw [ct_no hj2] at i
      rw [e]
      exact i
    · have lj := ct_lt (b := kb M day) (show j < n by omega) hj2
      obtain ⟨j1, j2, j3, j4⟩ := hK.2 j (by omega) hj2
      show f_X1_opponentAfter_4_b N T1 (fun y0 y1 => f_X1_opponentAfter_4 N T1 q y0 y1) (nI (fb_ct (kb M day) p)) (nI (fb_ct (kb M day) j)) = _
      unfold f_X1_opponentAfter_4_b
      simp only [if_neg (lt_lit hK.1 lj (by omega)), if_pos (inb_nI (show fb_ct (kb M day) p < 24 by omega) (by omega)), if_pos (inb_nI (show fb_ct (kb M day) j < 24 by omega) (by omega)), cl_nI (show fb_ct (kb M day) p ≤ 100000 by omega), cl_nI (show fb_ct (kb M day) j ≤ 100000 by omega), p2, p3, j2, j3, nI_1]
      by_cases c1 : ly M p < fy M j
      · rw [if_pos c1, show sj (qP M day p) j (c + 1) = some j from if_pos (by unfold qP; rw [hj2]; simp [c1])]
      · rw [if_neg c1]
        by_cases c2 : fy M p ≤ ly M j
        · rw [if_pos c2, show sj (qP M day p) j (c + 1) = sj (qP M day p) (j + 1) c from if_neg (by unfold qP; rw [hj2]; simp [c1, c2])]
          have i := ih (j + 1) q (by omega) (by omega) (by rw [ct_yes hj2]; omega)
          rw [ct_yes hj2] at i
          exact i
        · rw [if_neg c2, show sj (qP M day p) j (c + 1) = some j from if_pos (by unfold qP; rw [hj2]; simp [c2])]
theorem opp8 {N n : Nat} (hN : 50 ≤ N) {S5 S6 M : St} (h5 : R5 S5 M) (h6 : R6 S6 M) (hM : M.1 13 = nI n) (hn : n ≤ 24) {p : Nat} (hp : p < n) (day : Int32) (k11 : St → Int32 → Int32 → Option (Int32 × St)) :
    ∀ (c j q : Nat), j + c = n → c < q → f_X8_quarrel_23 N k11 q M day (nI p) (nI j) = if kb M day p = true then (match sj (qP M day p) j c with | none => k11 M day (nI (p + 1)) | some i => some (nI p, sI M 2 (nI i))) else k11 M day (nI (p + 1)) := by
  obtain ⟨p1, p2, p3, p4, -⟩ := years (N := N) hN h5 h6 hM hn hp
  have ekp := (kn2 (N := N) h5 hM hn hp day).2
  intro c
  induction c with
  | zero =>
    intro j q hj hq
    obtain ⟨q, rfl⟩ : ∃ z, q = z + 1 := ⟨q - 1, by omega⟩
    have : j = n := by omega
    subst this
    show f_X8_quarrel_23_b N k11 (fun y0 y1 y2 y3 => f_X8_quarrel_23 N k11 q y0 y1 y2 y3) M day (nI p) (nI j) = _
    unfold f_X8_quarrel_23_b
    rw [if_pos (ge_lit hM), nI_1]
    split <;> rfl
  | succ c ih =>
    intro j q hj hq
    obtain ⟨q, rfl⟩ : ∃ z, q = z + 1 := ⟨q - 1, by omega⟩
    obtain ⟨j1, j2, j3, j4, -⟩ := years (N := N) hN h5 h6 hM hn (show j < n by omega)
    have ekj := (kn2 (N := N) h5 hM hn (show j < n by omega) day).2
    have i := ih (j + 1) q (by omega) (by omega)
    show f_X8_quarrel_23_b N k11 (fun y0 y1 y2 y3 => f_X8_quarrel_23 N k11 q y0 y1 y2 y3) M day (nI p) (nI j) = _
    unfold f_X8_quarrel_23_b f_X8_quarrel_82 f_X8_quarrel_75 f_X8_tells
    rw [if_neg (lt_lit hM (show j < n by omega) (by omega)), ekp, ekj, p2, p4, j2, j4]
    simp only [bI_0, Option.bind_some, nI_1, i]
    cases hk : kb M day p
    · rw [if_pos rfl]
      rfl
    · rw [if_neg (by decide), if_pos rfl, if_pos rfl]
      cases hj2 : kb M day j
      · rw [if_pos rfl, show sj (qP M day p) j (c + 1) = sj (qP M day p) (j + 1) c from if_neg (by unfold qP; rw [hj2]; simp)]
      · rw [if_neg (by decide)]
        by_cases c1 : ly M p < fy M j
        · rw [if_pos c1, show sj (qP M day p) j (c + 1) = some j from if_pos (by unfold qP; rw [hj2]; simp [c1])]
        · rw [if_neg c1]
          by_cases c2 : fy M p ≤ ly M j
          · rw [if_pos c2, show sj (qP M day p) j (c + 1) = sj (qP M day p) (j + 1) c from if_neg (by unfold qP; rw [hj2]; simp [c1, c2])]
          · rw [if_neg c2, show sj (qP M day p) j (c + 1) = some j from if_pos (by unfold qP; rw [hj2]; simp [c2])]
theorem sim_quarrel {N : Nat} (hN : 2200 ≤ N) {S7 S5 S6 S2 S4 S3 S0 M : St} (h : Rel S7 S5 S6 S2 S4 S3 S0 M) (S1 : St) (x1 : Int32) : ∃ (r : Int32) (T7 : St) (T1 : St) (T8 : St), f_X7_quarrel N S7 S5 S6 S1 x1 = some (r, T7, T1) ∧ f_X8_quarrel N M x1 = some (r, T8) ∧ Rel T7 S5 S6 S2 S4 S3 S0 T8 := by
  obtain ⟨n, hn, a1, a2, -⟩ := id h.2.1
  unfold f_X7_quarrel f_X8_quarrel
  simp only [isDay8, isDay7, Option.bind_some, bI_0]
  by_cases c : 0 ≤ x1.toInt ∧ x1.toInt ≤ 30000
  · have cd : ¬ decide (0 ≤ x1.toInt ∧ x1.toInt ≤ 30000) = false := by simpa using c
    rw [if_neg cd, if_neg cd]
    obtain ⟨T1, e1, hK⟩ := gath (N := N) (by omega) h.2.1 h.2.2.1 a2 a1 hn S1 x1
    rw [e1, Option.bind_some]
    have L := fb_ct_le (kb M x1) n
    have loop : ∀ (c p q q' : Nat), p + c = n → fb_ct (kb M x1) n - fb_ct (kb M x1) p < q → c < q' → ∃ (r : Int32) (T7 : St) (T1' : St) (T8 : St), f_X7_quarrel_23 N S5 S6 q S7 T1 (nI (fb_ct (kb M x1) p)) = some (r, T7, T1') ∧ f_X8_quarrel_11 N q' M x1 (nI p) = some (r, T8) ∧ Rel T7 S5 S6 S2 S4 S3 S0 T8 := by
      intro c
      induction c with
      | zero =>
        intro p q q' hp hq hq'
        obtain ⟨q, rfl⟩ : ∃ z, q = z + 1 := ⟨q - 1, by omega⟩
        obtain ⟨q', rfl⟩ : ∃ z, q' = z + 1 := ⟨q' - 1, by omega⟩
        have : p = n := by omega
        subst this
        refine ⟨-9, S7, T1, M, ?_, ?_, h⟩
        · show f_X7_quarrel_23_b N S5 S6 (fun y0 y1 y2 => f_X7_quarrel_23 N S5 S6 q y0 y1 y2) S7 T1 (nI (fb_ct (kb M x1) p)) = _
          unfold f_X7_quarrel_23_b
          rw [if_pos (ge_lit hK.1)]
        · show f_X8_quarrel_11_b N (fun y0 y1 y2 => f_X8_quarrel_11 N q' y0 y1 y2) M x1 (nI p) = _
          unfold f_X8_quarrel_11_b
          rw [if_pos (ge_lit a2)]
      | succ c ih =>
        intro p q q' hp hq hq'
        obtain ⟨q, rfl⟩ : ∃ z, q = z + 1 := ⟨q - 1, by omega⟩
        obtain ⟨q', rfl⟩ : ∃ z, q' = z + 1 := ⟨q' - 1, by omega⟩
        have e8 : f_X8_quarrel_11 N (q' + 1) M x1 (nI p) = f_X8_quarrel_23 N (fun y0 y1 y2 => f_X8_quarrel_11 N q' y0 y1 y2) N M x1 (nI p) (nI (p + 1)) := by
          show f_X8_quarrel_11_b N (fun y0 y1 y2 => f_X8_quarrel_11 N q' y0 y1 y2) M x1 (nI p) = _
          unfold f_X8_quarrel_11_b
          rw [if_neg (lt_lit a2 (show p < n by omega) (by omega)), nI_1]
        rw [e8, opp8 (N := N) (by omega) h.2.1 h.2.2.1 a2 hn (show p < n by omega) x1 _ c (p + 1) N (by omega) (by omega)]
        cases hb : kb M x1 p
        · rw [if_neg (by decide)]
          have i := ih (p + 1) (q + 1) q' (by omega) (by rw [ct_no hb]; exact hq) (by omega)
          rw [ct_no hb] at i
          exact i
        · rw [if_pos rfl]
          have lp := ct_lt (b := kb M x1) (show p < n by omega) hb
          obtain ⟨p1, -⟩ := hK.2 p (by omega) hb
          have o := opp1 (N := N) hK hn (show p < n by omega) hb c (p + 1) N (by omega) (by omega) (by omega)
          have e7 : f_X7_quarrel_23 N S5 S6 (q + 1) S7 T1 (nI (fb_ct (kb M x1) p)) = ((f_X1_opponentAfter N T1 (nI (fb_ct (kb M x1) p))).bind (fun r39 => (if r39 = (-9) then (f_X7_quarrel_23 N S5 S6 q S7 T1 (nI (fb_ct (kb M x1) p) + 1)) else (if inb r39 24 = true then (if inb (nI (fb_ct (kb M x1) p)) 24 = true then some (((T1.2.2 0) (Int32.toNatClampNeg (nI (fb_ct (kb M x1) p)))), (sI S7 10 ((T1.2.2 0) (Int32.toNatClampNeg r39))), T1) else none) else none)))) := by
            show f_X7_quarrel_23_b N S5 S6 (fun y0 y1 y2 => f_X7_quarrel_23 N S5 S6 q y0 y1 y2) S7 T1 (nI (fb_ct (kb M x1) p)) = _
            unfold f_X7_quarrel_23_b
            rw [if_neg (lt_lit hK.1 lp (by omega))]
          rw [e7]
          unfold f_X1_opponentAfter
          rw [nI_1, ← ct_yes hb, o, Option.bind_some]
          cases hs : sj (qP M x1 p) (p + 1) c with
          | none =>
            dsimp only
            rw [if_pos rfl]
            exact ih (p + 1) q q' (by omega) (by rw [ct_yes hb]; omega) (by omega)
          | some i =>
            obtain ⟨i1, i2, i3⟩ := sj_some hs
            have hi : kb M x1 i = true := by
              unfold qP at i3
              rw [Bool.and_eq_true] at i3
              exact i3.1
            have li := ct_lt (b := kb M x1) (show i < n by omega) hi
            obtain ⟨j1, -⟩ := hK.2 i (by omega) hi
            dsimp only
            rw [if_neg (nI_m9 (by omega)), if_pos (inb_nI (show fb_ct (kb M x1) i < 24 by omega) (by omega)), if_pos (inb_nI (show fb_ct (kb M x1) p < 24 by omega) (by omega)), cl_nI (show fb_ct (kb M x1) i ≤ 100000 by omega), cl_nI (show fb_ct (kb M x1) p ≤ 100000 by omega), p1, j1]
            exact ⟨_, _, _, _, rfl, rfl, Rel_ask h _⟩
    exact loop n 0 N N (by omega) (by omega) (by omega)
  · have cd : decide (0 ≤ x1.toInt ∧ x1.toInt ≤ 30000) = false := by simpa using c
    rw [if_pos cd, if_pos cd]
    exact ⟨_, _, _, _, rfl, rfl, h⟩
