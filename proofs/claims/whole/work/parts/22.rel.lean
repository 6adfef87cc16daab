/-! what the class's states and the reference's have to do with each other -/
def R7 (S7 M : St) : Prop := S7.1 8 = M.1 5 ∧ 0 ≤ (M.1 5).toInt ∧ (M.1 5).toInt ≤ 30000 ∧ S7.1 9 = M.1 0 ∧ S7.1 10 = M.1 2 ∧ S7.2.1 11 = M.2.1 3 ∧ S7.2.1 12 = M.2.1 4 ∧ ∀ k, k < 6 → S7.2.2 7 k = M.2.2 1 k
def R6 (S6 M : St) : Prop := (∀ r, r < 6 → S6.2.2 0 r = M.2.2 6 r ∧ -1 ≤ (M.2.2 6 r).toInt ∧ (M.2.2 6 r).toInt ≤ 40) ∧ (∀ r i : Nat, r < 6 → (i : Int) < (M.2.2 6 r).toInt → S6.2.2 1 (r * 40 + i) = M.2.2 7 (r * 40 + i)) ∧ (∀ j, j < 240 → (S6.2.2 1 j).toInt8.toInt32 = S6.2.2 1 j) ∧ (∀ j, j < 240 → (M.2.2 7 j).toInt8.toInt32 = M.2.2 7 j)
def Pr (S5 M : St) (p : Nat) : Prop := S5.2.2 2 p = M.2.2 14 p ∧ S5.2.2 3 p = M.2.2 15 p ∧ (1 ≤ (M.2.2 15 p).toInt ∧ (M.2.2 15 p).toInt ≤ 9) ∧ S5.2.2 4 p = M.2.2 16 p ∧ S5.2.2 5 p = M.2.2 17 p ∧
  ((M.2.2 14 p = 0 ∧ S5.2.2 8 p = M.2.2 18 p ∧ S5.2.2 9 p = M.2.2 19 p ∧ 1000 ≤ (M.2.2 18 p).toInt ∧ (M.2.2 18 p).toInt ≤ (M.2.2 19 p).toInt ∧ (M.2.2 19 p).toInt ≤ 2100) ∨
   (M.2.2 14 p = 1 ∧ S5.2.2 6 p = M.2.2 18 p ∧ 0 ≤ (M.2.2 18 p).toInt ∧ (M.2.2 18 p).toInt ≤ 9) ∨
   (M.2.2 14 p = 2 ∧ S5.2.2 8 p = M.2.2 18 p ∧ S5.2.2 6 p = M.2.2 19 p ∧ 1000 ≤ (M.2.2 18 p).toInt ∧ (M.2.2 18 p).toInt ≤ 2000 ∧ 0 ≤ (M.2.2 19 p).toInt ∧ (M.2.2 19 p).toInt ≤ 30) ∨
   (M.2.2 14 p = 3 ∧ S5.2.2 8 p = M.2.2 18 p ∧ S5.2.2 9 p = M.2.2 19 p ∧ S5.2.2 6 p = M.2.2 20 p ∧ S5.2.2 7 p = M.2.2 21 p ∧ 1000 ≤ (M.2.2 18 p).toInt ∧ (M.2.2 18 p).toInt ≤ (M.2.2 19 p).toInt ∧ (M.2.2 19 p).toInt ≤ 2100 ∧ 0 ≤ (M.2.2 20 p).toInt ∧ (M.2.2 20 p).toInt ≤ 5 ∧ 0 ≤ (M.2.2 21 p).toInt ∧ (M.2.2 21 p).toInt ≤ 5 ∧ M.2.2 20 p ≠ M.2.2 21 p))
def R5 (S5 M : St) : Prop := ∃ n : Nat, n ≤ 24 ∧ S5.1 13 = nI n ∧ M.1 13 = nI n ∧ (∀ p, p < 10 → S5.2.2 1 p = M.2.2 9 p ∧ 1000 ≤ (M.2.2 9 p).toInt ∧ (M.2.2 9 p).toInt ≤ 2100) ∧ (S5.1 10 = M.1 10 ∧ S5.1 11 = M.1 11 ∧ S5.1 12 = M.1 12 ∧ 0 ≤ (M.1 10).toInt ∧ (M.1 10).toInt ≤ (M.1 11).toInt ∧ (M.1 11).toInt ≤ 60 ∧ 0 ≤ (M.1 12).toInt ∧ (M.1 12).toInt ≤ 60) ∧ (∀ p, p < n → Pr S5 M p) ∧ S5.1 14 = nI (fb_ct (fun p => decide (M.2.2 17 p ≠ -9)) n)
def Te (S2 M : St) (t : Nat) : Prop := S2.2.2 1 t = M.2.2 25 t ∧ S2.2.2 2 t = M.2.2 26 t ∧ S2.2.2 3 t = M.2.2 27 t ∧ (M.2.2 27 t = -9 ∨ (0 ≤ (M.2.2 27 t).toInt ∧ (M.2.2 27 t).toInt ≤ 3)) ∧ S2.2.2 5 t = M.2.2 29 t ∧ (M.2.2 29 t = -9 ∨ M.2.2 29 t = 0 ∨ M.2.2 29 t = 1) ∧ S2.2.2 6 t = M.2.2 30 t ∧ (M.2.2 30 t = 0 ∨ M.2.2 30 t = 1)
def R2 (S2 M : St) : Prop := ∃ n : Nat, n ≤ 10 ∧ S2.1 8 = nI n ∧ M.1 24 = nI n ∧ (∀ h, h < 4 → S2.2.2 0 h = M.2.2 23 h ∧ 0 ≤ (M.2.2 23 h).toInt ∧ (M.2.2 23 h).toInt ≤ 99) ∧ (∀ t, t < n → Te S2 M t) ∧ (∀ j, j < n * 4 → S2.2.2 4 j = M.2.2 28 j ∧ 0 ≤ (M.2.2 28 j).toInt ∧ (M.2.2 28 j).toInt ≤ 16) ∧ (∀ t, n ≤ t → t < 10 → S2.2.2 6 t = 0) ∧ (∀ q, q < 4 → (S2.2.2 7 q = 0 ↔ ∀ t, t < n → M.2.2 27 t = nI q → M.2.2 29 t = -9)) ∧ S2.1 9 = nI (fb_ct (fun t => decide (M.2.2 29 t ≠ -9)) n)
def R4 (S4 M : St) : Prop := ∃ n : Nat, n ≤ 20 ∧ S4.1 2 = nI n ∧ M.1 31 = nI n ∧ (∀ k, k < n → 1000 ≤ (S4.2.2 0 k).toInt ∧ (S4.2.2 0 k).toInt ≤ (S4.2.2 1 k).toInt ∧ (S4.2.2 1 k).toInt ≤ 2100) ∧ (∀ i j, i < j → j < n → (S4.2.2 0 i).toInt ≤ (S4.2.2 0 j).toInt) ∧ (∀ y : Int, (∃ k, k < n ∧ (S4.2.2 0 k).toInt ≤ y ∧ y ≤ (S4.2.2 1 k).toInt) ↔ (∃ k, k < n ∧ (M.2.2 32 k).toInt ≤ y ∧ y ≤ (M.2.2 33 k).toInt))
def R3 (S3 M : St) : Prop := ∃ n : Nat, n ≤ 30 ∧ S3.1 4 = nI n ∧ M.1 34 = nI n ∧ ∀ k, k < n → S3.2.2 0 k = M.2.2 35 k ∧ S3.2.2 1 k = M.2.2 36 k ∧ S3.2.2 2 k = M.2.2 37 k ∧ S3.2.2 3 k = M.2.2 38 k ∧ 0 ≤ (M.2.2 35 k).toInt ∧ (M.2.2 35 k).toInt ≤ 9 ∧ 0 ≤ (M.2.2 37 k).toInt ∧ (M.2.2 37 k).toInt ≤ 100
def R0 (S0 M : St) : Prop := ∃ n : Nat, n ≤ 8 ∧ S0.1 7 = nI n ∧ M.1 42 = nI n ∧ S0.1 4 = M.1 39 ∧ S0.1 5 = M.1 40 ∧ S0.1 6 = M.1 41 ∧ 0 ≤ (M.1 41).toInt ∧ (M.1 41).toInt ≤ 3 ∧ ∀ k, k < n → S0.2.2 0 k = M.2.2 43 k ∧ S0.2.2 1 k = M.2.2 44 k ∧ S0.2.2 2 k = M.2.2 45 k ∧ S0.2.2 3 k = M.2.2 46 k ∧ 0 ≤ (M.2.2 43 k).toInt
def Rel (S7 S5 S6 S2 S4 S3 S0 M : St) : Prop := R7 S7 M ∧ R5 S5 M ∧ R6 S6 M ∧ R2 S2 M ∧ R4 S4 M ∧ R3 S3 M ∧ R0 S0 M
/-- a finding -/
def rf7 (S : St) (v : Int32) (k : Nat) : St := sA (sI S 9 v) 7 (upd (S.2.2 7) k (S.2.2 7 k + 1))
def rf8 (S : St) (v : Int32) (k : Nat) : St := sA (sI S 0 v) 1 (upd (S.2.2 1) k (S.2.2 1 k + 1))
theorem ref7_1 (N : Nat) (S : St) : f_X7_refuse N S 1 = some (-3, rf7 S 1 1) := rfl
theorem ref7_2 (N : Nat) (S : St) : f_X7_refuse N S 2 = some (-3, rf7 S 2 2) := rfl
theorem ref7_3 (N : Nat) (S : St) : f_X7_refuse N S 3 = some (-3, rf7 S 3 3) := rfl
theorem ref7_4 (N : Nat) (S : St) : f_X7_refuse N S 4 = some (-3, rf7 S 4 4) := rfl
theorem ref7_5 (N : Nat) (S : St) : f_X7_refuse N S 5 = some (-3, rf7 S 5 5) := rfl
theorem ref8_1 (N : Nat) (S : St) : f_X8_meets N S 1 = some (-3, rf8 S 1 1) := rfl
theorem ref8_2 (N : Nat) (S : St) : f_X8_meets N S 2 = some (-3, rf8 S 2 2) := rfl
theorem ref8_3 (N : Nat) (S : St) : f_X8_meets N S 3 = some (-3, rf8 S 3 3) := rfl
theorem ref8_4 (N : Nat) (S : St) : f_X8_meets N S 4 = some (-3, rf8 S 4 4) := rfl
theorem ref8_5 (N : Nat) (S : St) : f_X8_meets N S 5 = some (-3, rf8 S 5 5) := rfl
theorem R7_ref {S7 M : St} (h : R7 S7 M) (v : Int32) (k : Nat) (hk : k < 6) : R7 (rf7 S7 v k) (rf8 M v k) := by
  obtain ⟨h1, h2, h3, h4, h5, h6, h7, h8⟩ := h
  refine ⟨h1, h2, h3, rfl, h5, h6, h7, fun j hj => ?_⟩
  show upd (S7.2.2 7) k (S7.2.2 7 k + 1) j = upd (M.2.2 1) k (M.2.2 1 k + 1) j
  unfold upd
  by_cases e : j = k
  · rw [if_pos e, if_pos e, h8 k hk]
  · rw [if_neg e, if_neg e, h8 j hj]
theorem R7_ask {S7 M : St} (h : R7 S7 M) (v : Int32) : R7 (sI S7 10 v) (sI M 2 v) := by
  obtain ⟨h1, h2, h3, h4, h5, h6, h7, h8⟩ := h
  exact ⟨h1, h2, h3, h4, rfl, h6, h7, h8⟩
theorem Rel_ref {S7 S5 S6 S2 S4 S3 S0 M : St} (h : Rel S7 S5 S6 S2 S4 S3 S0 M) (v : Int32) (k : Nat) (hk : k < 6) : Rel (rf7 S7 v k) S5 S6 S2 S4 S3 S0 (rf8 M v k) := ⟨R7_ref h.1 v k hk, h.2⟩
theorem Rel_ask {S7 S5 S6 S2 S4 S3 S0 M : St} (h : Rel S7 S5 S6 S2 S4 S3 S0 M) (v : Int32) : Rel (sI S7 10 v) S5 S6 S2 S4 S3 S0 (sI M 2 v) := ⟨R7_ask h.1 v, h.2⟩
theorem inn {P : Prop} [Decidable P] {α : Type} {a b : α} (h : P) : (if ¬ P then a else b) = b := if_neg (not_not_intro h)
theorem inp {P : Prop} [Decidable P] {α : Type} {a b : α} (h : ¬ P) : (if ¬ P then a else b) = a := if_pos h
