/-! pure rows: numbers, guards, loops -/
theorem inb_nI {k n : Nat} (h : k < n) (hk : k ≤ 100000) : inb (nI k) n = true := by
  unfold inb
  rw [nI_toInt (by omega)]
  exact decide_eq_true ⟨by omega, by omega⟩
theorem inb_iff {i : Int32} {n : Nat} : inb i n = true ↔ 0 ≤ i.toInt ∧ i.toInt < (n : Int) := by
  unfold inb
  exact ⟨of_decide_eq_true, decide_eq_true⟩
theorem inb_ok {i : Int32} {n : Nat} (h1 : 0 ≤ i.toInt) (h2 : i.toInt < (n : Int)) : inb i n = true := inb_iff.mpr ⟨h1, h2⟩
theorem cl_nI {k : Nat} (hk : k ≤ 100000) : (nI k).toNatClampNeg = k := nI_clamp (by omega)
theorem ti_nI {k : Nat} (hk : k ≤ 100000) : (nI k).toInt = (k : Int) := nI_toInt (by omega)
theorem ix_of {x : Int32} {n : Nat} (h1 : 0 ≤ x.toInt) (h2 : x.toInt < (n : Int)) (hn : n ≤ 100000) : ∃ k : Nat, k < n ∧ x = nI k := vp_in_of (vp_in_iff.mpr ⟨h1, h2⟩) (by omega)
theorem le_nI {a b : Nat} (ha : a ≤ 100000) (hb : b ≤ 100000) : (nI a ≤ nI b) = (a ≤ b) := propext (nI_leI (by omega) (by omega))
theorem lt_nI {a b : Nat} (ha : a ≤ 100000) (hb : b ≤ 100000) : (nI a < nI b) = (a < b) := propext (nI_ltI (by omega) (by omega))
theorem eq_nI {a b : Nat} (ha : a ≤ 100000) (hb : b ≤ 100000) : (nI a = nI b) = (a = b) := propext (nI_eq (by omega) (by omega))
theorem z01_0 : z01 0 = true := by decide
theorem z01_1 : z01 1 = true := by decide
/-- a Boolean as the machine's int -/
def bI (b : Bool) : Int32 := if b then 1 else 0
theorem bI_0 {b : Bool} : (bI b = 0) = (b = false) := by cases b <;> simp [bI]
theorem bI_z (b : Bool) : z01 (bI b) = true := by cases b <;> decide
theorem isW (N : Nat) (a b c : Int32) : f_X7_isWithin N a b c = some (bI (decide (b.toInt ≤ a.toInt ∧ a.toInt ≤ c.toInt))) := by
  unfold f_X7_isWithin
  simp only [fa_lt]
  by_cases h1 : a.toInt < b.toInt
  · rw [if_pos h1, decide_eq_false (by omega)]; rfl
  · rw [if_neg h1]
    by_cases h2 : c.toInt < a.toInt
    · rw [if_pos h2, decide_eq_false (by omega)]; rfl
    · rw [if_neg h2, decide_eq_true (by omega)]; rfl
theorem in8 : f_X8_in = f_X7_isWithin := rfl
theorem isRow8 : f_X8_isRow = f_X7_isRow := rfl
theorem isDay8 : f_X8_isDay = f_X7_isDay := rfl
theorem isYear8 : f_X8_isYear = f_X7_isYear := rfl
theorem isHand8 : f_X8_isHand = f_X7_isHand := rfl
theorem zb {b : Bool} : (if z01 (bI b) = true then some (bI b) else none) = some (bI b) := by rw [if_pos (bI_z b)]
theorem isRow7 (N : Nat) (a : Int32) : f_X7_isRow N a = some (bI (decide (0 ≤ a.toInt ∧ a.toInt ≤ 5))) := by
  unfold f_X7_isRow; rw [isW]; exact zb
theorem isDay7 (N : Nat) (a : Int32) : f_X7_isDay N a = some (bI (decide (0 ≤ a.toInt ∧ a.toInt ≤ 30000))) := by
  unfold f_X7_isDay; rw [isW]; exact zb
theorem isYear7 (N : Nat) (a : Int32) : f_X7_isYear N a = some (bI (decide (1000 ≤ a.toInt ∧ a.toInt ≤ 2100))) := by
  unfold f_X7_isYear; rw [isW]; exact zb
theorem isHand7 (N : Nat) (a : Int32) : f_X7_isHand N a = some (bI (decide (0 ≤ a.toInt ∧ a.toInt ≤ 3))) := by
  unfold f_X7_isHand; rw [isW]; exact zb
theorem isPW7 (N : Nat) (a : Int32) : f_X7_isProofWeight N a = some (bI (decide (1 ≤ a.toInt ∧ a.toInt ≤ 9))) := by
  unfold f_X7_isProofWeight; rw [isW]; exact zb
theorem areYears7 (N : Nat) (a b : Int32) : f_X7_areYears N a b = some (bI (decide ((1000 ≤ a.toInt ∧ a.toInt ≤ 2100) ∧ a.toInt ≤ b.toInt ∧ b.toInt ≤ 2100))) := by
  unfold f_X7_areYears
  rw [isYear7, isYear7]
  simp only [Option.bind_some, bI_0, fa_lt, decide_eq_false_iff_not]
  by_cases h1 : 1000 ≤ a.toInt ∧ a.toInt ≤ 2100
  · rw [if_neg (by simpa using h1)]
    by_cases h2 : 1000 ≤ b.toInt ∧ b.toInt ≤ 2100
    · rw [if_neg (by simpa using h2)]
      by_cases h3 : b.toInt < a.toInt
      · rw [if_pos h3, decide_eq_false (by omega)]; rfl
      · rw [if_neg h3, decide_eq_true (by omega)]; rfl
    · rw [if_pos h2, decide_eq_false (by omega)]; rfl
  · rw [if_pos h1, decide_eq_false (by omega)]; rfl
theorem areTwo7 (N : Nat) (a b : Int32) : f_X7_areTwoRows N a b = some (bI (decide ((0 ≤ a.toInt ∧ a.toInt ≤ 5) ∧ (0 ≤ b.toInt ∧ b.toInt ≤ 5) ∧ a ≠ b))) := by
  unfold f_X7_areTwoRows
  rw [isRow7, isRow7]
  simp only [Option.bind_some, bI_0, decide_eq_false_iff_not]
  by_cases h1 : 0 ≤ a.toInt ∧ a.toInt ≤ 5
  · rw [if_neg (by simpa using h1)]
    by_cases h2 : 0 ≤ b.toInt ∧ b.toInt ≤ 5
    · rw [if_neg (by simpa using h2)]
      by_cases h3 : a = b
      · rw [if_pos h3, decide_eq_false (by simp [h3])]; rfl
      · rw [if_neg h3, decide_eq_true ⟨h1, h2, h3⟩]; rfl
    · rw [if_pos h2, decide_eq_false (fun h => h2 h.2.1)]; rfl
  · rw [if_pos h1, decide_eq_false (fun h => h1 h.1)]; rfl
/-- counted loops -/
def itr {α : Type} (step : Nat → α → α) : Nat → Nat → α → α
  | _, 0, a => a
  | k, n + 1, a => itr step (k + 1) n (step k a)
theorem lpC {α ρ : Type} (F : Nat → Nat → α → Option ρ) (step : Nat → α → α) (done : α → Option ρ) (m : Nat) (I : Nat → α → Prop)
    (hs : ∀ n k a, k < m → I k a → F (n + 1) k a = F n (k + 1) (step k a)) (hI : ∀ k a, k < m → I k a → I (k + 1) (step k a)) (hd : ∀ n a, I m a → F (n + 1) m a = done a) :
    ∀ c n k a, k + c = m → c < n → I k a → F n k a = done (itr step k c a) ∧ I m (itr step k c a) := by
  intro c
  induction c with
  | zero =>
    intro n k a hk hn h
    obtain ⟨n, rfl⟩ : ∃ q, n = q + 1 := ⟨n - 1, by omega⟩
    have hk : k = m := by omega
    subst hk
    exact ⟨hd n a h, h⟩
  | succ c ih =>
    intro n k a hk hn h
    obtain ⟨n, rfl⟩ : ∃ q, n = q + 1 := ⟨n - 1, by omega⟩
    rw [hs n k a (by omega) h]
    exact ih n (k + 1) (step k a) (by omega) (by omega) (hI k a (by omega) h)
theorem itr_end {α : Type} (step : Nat → α → α) : ∀ c k a, itr step k (c + 1) a = step (k + c) (itr step k c a)
  | 0, k, a => rfl
  | c + 1, k, a => by
    show itr step (k + 1) (c + 1) (step k a) = _
    rw [itr_end step c (k + 1) (step k a), show k + 1 + c = k + (c + 1) by omega]
    rfl
/-- the same, the state being a function of the place -/
theorem lpN {ρ : Type} {α : Type} (F : Nat → Nat → α → Option ρ) (g : Nat → α) (m : Nat) (r : Option ρ)
    (hs : ∀ n k, k < m → F (n + 1) k (g k) = F n (k + 1) (g (k + 1))) (hd : ∀ n, F (n + 1) m (g m) = r) :
    ∀ c n k, k + c = m → c < n → F n k (g k) = r := by
  intro c
  induction c with
  | zero =>
    intro n k hk hn
    obtain ⟨n, rfl⟩ : ∃ q, n = q + 1 := ⟨n - 1, by omega⟩
    have hk : k = m := by omega
    subst hk
    exact hd n
  | succ c ih =>
    intro n k hk hn
    obtain ⟨n, rfl⟩ : ∃ q, n = q + 1 := ⟨n - 1, by omega⟩
    rw [hs n k (by omega)]
    exact ih n (k + 1) (by omega) (by omega)
