/-! weights on a year: the class's side -/
def hd (M : St) (y : Int32) (p : Nat) : Bool := decide (¬ y < fy M p ∧ ¬ ly M p < y)
def sw (M : St) (y : Int32) (p : Nat) (x : Int32) : Int32 := if hd M y p = true then x + M.2.2 15 p else x
def so (M : St) (y : Int32) (p : Nat) (x : Int32) : Int32 := if hd M y p = true then x else x + M.2.2 15 p
def sall (M : St) (p : Nat) (x : Int32) : Int32 := x + M.2.2 15 p
def sset (M : St) (y : Int32) (p : Nat) (x : Int32) : Int32 := if hd M y p = true then x else x ||| (1 <<< (nI p &&& 31))
theorem holds1 {N n : Nat} {T1 M : St} {day : Int32} (hK : Kn T1 M day n) (hn : n ≤ 24) {p : Nat} (hp : p < n) (hb : kb M day p = true) (y : Int32) : f_X1_holds N T1 (nI (fb_ct (kb M day) p)) y = some (bI (hd M y p)) := by
  have L := fb_ct_le (kb M day) n
  have l := ct_lt (b := kb M day) hp hb
  obtain ⟨k1, k2, k3, k4⟩ := hK.2 p hp hb
  unfold f_X1_holds hd
  rw [if_pos (inb_nI (show fb_ct (kb M day) p < 24 by omega) (by omega)), if_pos (inb_nI (show fb_ct (kb M day) p < 24 by omega) (by omega)), cl_nI (by omega), k2, k3]
  by_cases c1 : y < fy M p
  · rw [if_pos c1]; simp [bI, c1]
  · rw [if_neg c1]
    by_cases c2 : ly M p < y
    · rw [if_pos c2]; simp [bI, c2]
    · rw [if_neg c2]; simp [bI, c1, c2]
def wv (M : St) (day : Int32) (n : Nat) (y : Int32) : Int32 := fk (kb M day) (sw M y) n 0
theorem on1 {N n : Nat} (hN : 50 ≤ N) {T1 M : St} {day : Int32} (hK : Kn T1 M day n) (hn : n ≤ 24) (y : Int32) : f_X1_weightOn N T1 y = some (wv M day n y) := by
  unfold f_X1_weightOn wv
  have L := fb_ct_le (kb M day) n
  refine lpK (fun q i x => f_X1_weightOn_4 N T1 q y x (nI i)) (kb M day) (sw M y) n 0 _ ?_ ?_ n N 0 (by omega) (by omega)
  · intro q p hp hb
    obtain ⟨k1, k2, k3, k4⟩ := hK.2 p hp hb
    have l := ct_lt (b := kb M day) hp hb
    generalize fk (kb M day) (sw M y) p 0 = x
    show f_X1_weightOn_4_b N T1 (fun y0 y1 y2 => f_X1_weightOn_4 N T1 q y0 y1 y2) y x (nI (fb_ct (kb M day) p)) = f_X1_weightOn_4 N T1 q y (sw M y p x) (nI (fb_ct (kb M day) p + 1))
    unfold f_X1_weightOn_4_b f_X1_weightOn_30 sw
    rw [if_neg (lt_lit hK.1 l (by omega)), holds1 hK hn hp hb, Option.bind_some]
    simp only [bI_0, if_pos (inb_nI (show fb_ct (kb M day) p < 24 by omega) (by omega)), cl_nI (show fb_ct (kb M day) p ≤ 100000 by omega), k4, nI_1]
    cases hd M y p
    · rw [if_pos rfl, if_neg (by decide)]
    · rw [if_neg (by decide), if_pos rfl]
  · intro q
    generalize fk (kb M day) (sw M y) n 0 = x
    show f_X1_weightOn_4_b N T1 (fun y0 y1 y2 => f_X1_weightOn_4 N T1 q y0 y1 y2) y x (nI (fb_ct (kb M day) n)) = _
    unfold f_X1_weightOn_4_b
    rw [if_pos (ge_lit hK.1)]
theorem all1 {N n : Nat} (hN : 50 ≤ N) {T1 M : St} {day : Int32} (hK : Kn T1 M day n) (hn : n ≤ 24) : f_X1_weightOfAll N T1 = some (fk (kb M day) (sall M) n 0) := by
  unfold f_X1_weightOfAll
  have L := fb_ct_le (kb M day) n
  refine lpK (fun q i x => f_X1_weightOfAll_4 N T1 q x (nI i)) (kb M day) (sall M) n 0 _ ?_ ?_ n N 0 (by omega) (by omega)
  · intro q p hp hb
    obtain ⟨k1, k2, k3, k4⟩ := hK.2 p hp hb
    have l := ct_lt (b := kb M day) hp hb
    generalize fk (kb M day) (sall M) p 0 = x
    show f_X1_weightOfAll_4_b N T1 (fun y0 y1 => f_X1_weightOfAll_4 N T1 q y0 y1) x (nI (fb_ct (kb M day) p)) = f_X1_weightOfAll_4 N T1 q (x + M.2.2 15 p) (nI (fb_ct (kb M day) p + 1))
    unfold f_X1_weightOfAll_4_b
    rw [if_neg (lt_lit hK.1 l (by omega)), if_pos (inb_nI (show fb_ct (kb M day) p < 24 by omega) (by omega)), cl_nI (show fb_ct (kb M day) p ≤ 100000 by omega), k4, nI_1]
  · intro q
    generalize fk (kb M day) (sall M) n 0 = x
    show f_X1_weightOfAll_4_b N T1 (fun y0 y1 => f_X1_weightOfAll_4 N T1 q y0 y1) x (nI (fb_ct (kb M day) n)) = _
    unfold f_X1_weightOfAll_4_b
    rw [if_pos (ge_lit hK.1)]
theorem set1 {N n : Nat} (hN : 50 ≤ N) {T1 M : St} {day : Int32} (hK : Kn T1 M day n) (hn : n ≤ 24) (y : Int32) : f_X1_setWithout N T1 y = some (fk (kb M day) (sset M y) n 0) := by
  unfold f_X1_setWithout
  have L := fb_ct_le (kb M day) n
  refine lpK (fun q i x => f_X1_setWithout_4 N T1 q y x (nI i)) (kb M day) (sset M y) n 0 _ ?_ ?_ n N 0 (by omega) (by omega)
  · intro q p hp hb
    obtain ⟨k1, k2, k3, k4⟩ := hK.2 p hp hb
    have l := ct_lt (b := kb M day) hp hb
    generalize fk (kb M day) (sset M y) p 0 = x
    show f_X1_setWithout_4_b N T1 (fun y0 y1 y2 => f_X1_setWithout_4 N T1 q y0 y1 y2) y x (nI (fb_ct (kb M day) p)) = f_X1_setWithout_4 N T1 q y (sset M y p x) (nI (fb_ct (kb M day) p + 1))
    unfold f_X1_setWithout_4_b f_X1_setWithout_32 sset
    rw [if_neg (lt_lit hK.1 l (by omega)), holds1 hK hn hp hb, Option.bind_some]
    simp only [bI_0, if_pos (inb_nI (show fb_ct (kb M day) p < 24 by omega) (by omega)), cl_nI (show fb_ct (kb M day) p ≤ 100000 by omega), k1, nI_1]
    cases hd M y p
    · rw [if_pos rfl, if_neg (by decide)]
    · rw [if_neg (by decide), if_pos rfl]
  · intro q
    generalize fk (kb M day) (sset M y) n 0 = x
    show f_X1_setWithout_4_b N T1 (fun y0 y1 y2 => f_X1_setWithout_4 N T1 q y0 y1 y2) y x (nI (fb_ct (kb M day) n)) = _
    unfold f_X1_setWithout_4_b
    rw [if_pos (ge_lit hK.1)]
def hs (M : St) (day : Int32) (n : Nat) (p : Nat) (x : Int32 × Int32) : Int32 × Int32 :=
  if x.2 < wv M day n (fy M p) then (fy M p, wv M day n (fy M p)) else if wv M day n (fy M p) = x.2 then (if x.1 ≤ fy M p then x else (fy M p, wv M day n (fy M p))) else x
theorem hvy1 {N n : Nat} (hN : 50 ≤ N) {T1 M : St} {day : Int32} (hK : Kn T1 M day n) (hn : n ≤ 24) : f_X1_heaviestYear N T1 = some (fk (kb M day) (hs M day n) n (1000, wv M day n 1000)).1 := by
  unfold f_X1_heaviestYear
  rw [on1 hN hK hn, Option.bind_some]
  have L := fb_ct_le (kb M day) n
  refine lpK (fun q i (x : Int32 × Int32) => f_X1_heaviestYear_14 N T1 q x.1 x.2 (nI i)) (kb M day) (hs M day n) n (1000, wv M day n 1000) _ ?_ ?_ n N 0 (by omega) (by omega)
  · intro q p hp hb
    obtain ⟨k1, k2, k3, k4⟩ := hK.2 p hp hb
    have l := ct_lt (b := kb M day) hp hb
    generalize fk (kb M day) (hs M day n) p (1000, wv M day n 1000) = x
    obtain ⟨x1, x2⟩ := x
    show f_X1_heaviestYear_14_b N T1 (fun y0 y1 y2 => f_X1_heaviestYear_14 N T1 q y0 y1 y2) x1 x2 (nI (fb_ct (kb M day) p)) = _
    unfold f_X1_heaviestYear_14_b f_X1_heaviestYear_56 f_X1_heaviestYear_66 hs
    rw [if_neg (lt_lit hK.1 l (by omega)), if_pos (inb_nI (show fb_ct (kb M day) p < 24 by omega) (by omega)), cl_nI (by omega), k2, on1 hN hK hn, Option.bind_some]
    simp only [if_pos (inb_nI (show fb_ct (kb M day) p < 24 by omega) (by omega)), nI_1]
    by_cases c1 : x2 < wv M day n (fy M p)
    · rw [if_pos c1, if_pos c1]
    · rw [if_neg c1, if_neg c1]
      by_cases c2 : wv M day n (fy M p) = x2
      · rw [if_pos c2, if_pos c2]
        by_cases c3 : x1 ≤ fy M p
        · rw [if_pos c3, if_pos c3]
        · rw [if_neg c3, if_neg c3]
      · rw [if_neg c2, if_neg c2]
  · intro q
    generalize fk (kb M day) (hs M day n) n (1000, wv M day n 1000) = x
    obtain ⟨x1, x2⟩ := x
    show f_X1_heaviestYear_14_b N T1 (fun y0 y1 y2 => f_X1_heaviestYear_14 N T1 q y0 y1 y2) x1 x2 (nI (fb_ct (kb M day) n)) = _
    unfold f_X1_heaviestYear_14_b
    rw [if_pos (ge_lit hK.1)]
/-- weights as whole numbers -/
def wz (M : St) (day : Int32) (y : Int) : Nat → Int
  | 0 => 0
  | p + 1 => wz M day y p + (if kb M day p = true ∧ (fy M p).toInt ≤ y ∧ y ≤ (ly M p).toInt then (M.2.2 15 p).toInt else 0)
theorem wz_wv {M : St} {n : Nat} (hw : ∀ p, p < n → 1 ≤ (M.2.2 15 p).toInt ∧ (M.2.2 15 p).toInt ≤ 9) (hn : n ≤ 24) (day y : Int32) : ∀ p, p ≤ n → (fk (kb M day) (sw M y) p 0).toInt = wz M day y.toInt p ∧ 0 ≤ wz M day y.toInt p ∧ wz M day y.toInt p ≤ 9 * (p : Int)
  | 0, _ => ⟨rfl, by show (0 : Int) ≤ 0; omega, by show (0 : Int) ≤ 9 * ((0 : Nat) : Int); omega⟩
  | p + 1, hp => by
    obtain ⟨i1, i2, i3⟩ := wz_wv hw hn day y p (by omega)
    obtain ⟨w1, w2⟩ := hw p (by omega)
    show (if kb M day p = true then sw M y p (fk (kb M day) (sw M y) p 0) else fk (kb M day) (sw M y) p 0).toInt = wz M day y.toInt p + (if kb M day p = true ∧ (fy M p).toInt ≤ y.toInt ∧ y.toInt ≤ (ly M p).toInt then (M.2.2 15 p).toInt else 0) ∧ 0 ≤ wz M day y.toInt p + (if kb M day p = true ∧ (fy M p).toInt ≤ y.toInt ∧ y.toInt ≤ (ly M p).toInt then (M.2.2 15 p).toInt else 0) ∧ wz M day y.toInt p + (if kb M day p = true ∧ (fy M p).toInt ≤ y.toInt ∧ y.toInt ≤ (ly M p).toInt then (M.2.2 15 p).toInt else 0) ≤ 9 * ((p + 1 : Nat) : Int)
    generalize fk (kb M day) (sw M y) p 0 = z at i1 ⊢
    cases hb : kb M day p
    · rw [if_neg (by decide), if_neg (by simp)]
      refine ⟨by omega, by omega, by omega⟩
    · rw [if_pos rfl]
      unfold sw hd
      by_cases c : (fy M p).toInt ≤ y.toInt ∧ y.toInt ≤ (ly M p).toInt
      · rw [if_pos (by rw [decide_eq_true_iff, fa_lt, fa_lt]; omega), if_pos ⟨rfl, c⟩, fb_addI (by omega) (by omega), i1]
        refine ⟨rfl, by omega, by omega⟩
      · rw [if_neg (by rw [decide_eq_true_iff, fa_lt, fa_lt]; omega), if_neg (fun k => c k.2), i1]
        refine ⟨by omega, by omega, by omega⟩
theorem wz_step {M : St} {n : Nat} (hw : ∀ p, p < n → 1 ≤ (M.2.2 15 p).toInt ∧ (M.2.2 15 p).toInt ≤ 9) (day : Int32) (y : Int) (hy : ∀ p, p < n → kb M day p = true → (fy M p).toInt ≠ y) : ∀ p, p ≤ n → wz M day y p ≤ wz M day (y - 1) p
  | 0, _ => Int.le_refl _
  | p + 1, hp => by
    have i := wz_step hw day y hy p (by omega)
    obtain ⟨w1, w2⟩ := hw p (by omega)
    show wz M day y p + (if kb M day p = true ∧ (fy M p).toInt ≤ y ∧ y ≤ (ly M p).toInt then (M.2.2 15 p).toInt else 0) ≤ wz M day (y - 1) p + (if kb M day p = true ∧ (fy M p).toInt ≤ y - 1 ∧ y - 1 ≤ (ly M p).toInt then (M.2.2 15 p).toInt else 0)
    by_cases c : kb M day p = true ∧ (fy M p).toInt ≤ y ∧ y ≤ (ly M p).toInt
    · have ne := hy p (by omega) c.1
      rw [if_pos c, if_pos ⟨c.1, by omega, by omega⟩]
      omega
    · rw [if_neg c]
      split <;> omega
def cand (M : St) (day : Int32) (p : Nat) (c : Int32) : Prop := c = 1000 ∨ ∃ j, j < p ∧ kb M day j = true ∧ c = fy M j
theorem hs_inv {M : St} {n : Nat} (day : Int32) : ∀ p, (fk (kb M day) (hs M day n) p (1000, wv M day n 1000)).2 = wv M day n (fk (kb M day) (hs M day n) p (1000, wv M day n 1000)).1 ∧ cand M day p (fk (kb M day) (hs M day n) p (1000, wv M day n 1000)).1 ∧ ∀ c, cand M day p c → (wv M day n c).toInt < (fk (kb M day) (hs M day n) p (1000, wv M day n 1000)).2.toInt ∨ ((wv M day n c).toInt = (fk (kb M day) (hs M day n) p (1000, wv M day n 1000)).2.toInt ∧ (fk (kb M day) (hs M day n) p (1000, wv M day n 1000)).1.toInt ≤ c.toInt)
  | 0 => by
    refine ⟨rfl, Or.inl rfl, ?_⟩
    rintro c (rfl | ⟨j, hj, -⟩)
    · exact Or.inr ⟨rfl, Int.le_refl _⟩
    · exact absurd hj (Nat.not_lt_zero j)
  | p + 1 => by
    have ih := hs_inv (M := M) (n := n) day p
    have up : ∀ c, cand M day p c → cand M day (p + 1) c := by
      rintro c (c1 | ⟨j, hj, c1⟩)
      · exact Or.inl c1
      · exact Or.inr ⟨j, by omega, c1⟩
    have e : fk (kb M day) (hs M day n) (p + 1) (1000, wv M day n 1000) = if kb M day p = true then hs M day n p (fk (kb M day) (hs M day n) p (1000, wv M day n 1000)) else fk (kb M day) (hs M day n) p (1000, wv M day n 1000) := rfl
    rw [e]
    generalize fk (kb M day) (hs M day n) p (1000, wv M day n 1000) = x at ih
    obtain ⟨x1, x2⟩ := x
    obtain ⟨i1, i2, i3⟩ := ih
    cases hb : kb M day p
    · rw [if_neg (by decide)]
      refine ⟨i1, up _ i2, ?_⟩
      rintro c (c1 | ⟨j, hj, hk, c1⟩)
      · exact i3 c (Or.inl c1)
      · by_cases ej : j = p
        · subst ej; rw [hb] at hk; cases hk
        · exact i3 c (Or.inr ⟨j, by omega, hk, c1⟩)
    · rw [if_pos rfl]
      have nw : cand M day (p + 1) (fy M p) := Or.inr ⟨p, by omega, hb, rfl⟩
      have old : ∀ c, cand M day (p + 1) c → c = fy M p ∨ cand M day p c := by
        rintro c (c1 | ⟨j, hj, hk, c1⟩)
        · exact Or.inr (Or.inl c1)
        · by_cases ej : j = p
          · subst ej; exact Or.inl c1
          · exact Or.inr (Or.inr ⟨j, by omega, hk, c1⟩)
      unfold hs
      dsimp only at i1 i2 i3 ⊢
      by_cases c1 : x2 < wv M day n (fy M p)
      · rw [if_pos c1]
        rw [fa_lt] at c1
        refine ⟨rfl, nw, fun c hc => ?_⟩
        dsimp only
        rcases old c hc with rfl | hc
        · exact Or.inr ⟨rfl, Int.le_refl _⟩
        · have := i3 c hc
          left
          omega
      · rw [if_neg c1]
        rw [fa_lt] at c1
        by_cases c2 : wv M day n (fy M p) = x2
        · rw [if_pos c2]
          by_cases c3 : x1 ≤ fy M p
          · rw [if_pos c3]
            rw [fa_le] at c3
            refine ⟨i1, up _ i2, fun c hc => ?_⟩
            dsimp only
            rcases old c hc with rfl | hc
            · exact Or.inr ⟨by rw [c2], c3⟩
            · exact i3 c hc
          · rw [if_neg c3]
            rw [fa_le] at c3
            refine ⟨rfl, nw, fun c hc => ?_⟩
            dsimp only
            rcases old c hc with rfl | hc
            · exact Or.inr ⟨rfl, Int.le_refl _⟩
            · have := i3 c hc
              rw [c2]
              omega
        · rw [if_neg c2]
          rw [fa_eq] at c2
          refine ⟨i1, up _ i2, fun c hc => ?_⟩
          dsimp only
          rcases old c hc with rfl | hc
          · left; omega
          · exact i3 c hc
def hy (M : St) (day : Int32) (n : Nat) : Int32 := (fk (kb M day) (hs M day n) n (1000, wv M day n 1000)).1
theorem hy_max {M : St} {n : Nat} (hw : ∀ p, p < n → 1 ≤ (M.2.2 15 p).toInt ∧ (M.2.2 15 p).toInt ≤ 9) (hn : n ≤ 24) (day : Int32) (hf : ∀ p, p < n → 1000 ≤ (fy M p).toInt ∧ (fy M p).toInt ≤ 2100) :
    (1000 ≤ (hy M day n).toInt ∧ (hy M day n).toInt ≤ 2100) ∧ ∀ k : Nat, wz M day (1000 + k) n < wz M day (hy M day n).toInt n ∨ (wz M day (1000 + k) n = wz M day (hy M day n).toInt n ∧ (hy M day n).toInt ≤ 1000 + k) := by
  obtain ⟨i1, i2, i3⟩ := hs_inv (M := M) (n := n) day n
  unfold hy
  generalize fk (kb M day) (hs M day n) n (1000, wv M day n 1000) = x at *
  have E : ∀ c : Int32, (wv M day n c).toInt = wz M day c.toInt n := fun c => (wz_wv hw hn day c n (Nat.le_refl n)).1
  rw [i1] at i3
  simp only [E] at i3
  refine ⟨?_, ?_⟩
  · rcases i2 with e | ⟨j, hj, _, e⟩
    · rw [e]; decide
    · rw [e]; exact hf j hj
  · intro k
    induction k with
    | zero => exact i3 1000 (Or.inl rfl)
    | succ k ih =>
      by_cases c : ∃ j, j < n ∧ kb M day j = true ∧ (fy M j).toInt = 1000 + ((k + 1 : Nat) : Int)
      · obtain ⟨j, hj, hk, e⟩ := c
        have := i3 (fy M j) (Or.inr ⟨j, hj, hk, rfl⟩)
        rw [e] at this
        exact this
      · have s := wz_step hw day (1000 + ((k + 1 : Nat) : Int)) (fun p hp hk e => c ⟨p, hp, hk, e⟩) n (Nat.le_refl n)
        rw [show 1000 + ((k + 1 : Nat) : Int) - 1 = 1000 + (k : Int) by omega] at s
        omega
