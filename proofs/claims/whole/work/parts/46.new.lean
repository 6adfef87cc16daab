/-! the two new objects agree -/
theorem getD_e {α : Type} {x : Option α} {d : α} (h : x.isSome = true) : x = some (x.getD d) := by
  cases x with
  | none => cases h
  | some y => rfl
def i7 : St × St × St × St × St × St × St × St := (f_X7_init 12).getD (S00, S00, S00, S00, S00, S00, S00, S00)
def i8 : St := (f_X8_init 12).getD S00
theorem i7_e : f_X7_init 12 = some i7 := getD_e (by decide +kernel)
theorem i8_e : f_X8_init 12 = some i8 := getD_e (by decide +kernel)
theorem rel0_7 : R7 i7.1 i8 := by unfold R7; decide +kernel
theorem rel0_5 : R5 i7.2.1 i8 := ⟨0, by decide, by decide +kernel, by decide +kernel, by decide +kernel, by decide +kernel, fun p hp => absurd hp (Nat.not_lt_zero p), by decide +kernel⟩
theorem rel0_6 : R6 i7.2.2.1 i8 := ⟨by decide +kernel, fun r i hr hi => absurd hi (by
  have := (show ∀ r, r < 6 → (i8.2.2 6 r).toInt = -1 by decide +kernel) r hr
  omega), by decide +kernel, by decide +kernel⟩
theorem rel0_2 : R2 i7.2.2.2.2.1 i8 := ⟨0, by decide, by decide +kernel, by decide +kernel, by decide +kernel, fun t ht => absurd ht (Nat.not_lt_zero t), fun j hj => absurd hj (by omega), fun t _ ht => (show ∀ t, t < 10 → i7.2.2.2.2.1.2.2 6 t = 0 by decide +kernel) t ht, fun q hq => ⟨fun _ t ht => absurd ht (Nat.not_lt_zero t), fun _ => (show ∀ q, q < 4 → i7.2.2.2.2.1.2.2 7 q = 0 by decide +kernel) q hq⟩, by decide +kernel⟩
theorem rel0_4 : R4 i7.2.2.2.2.2.1 i8 := ⟨0, by decide, by decide +kernel, by decide +kernel, fun k hk => absurd hk (Nat.not_lt_zero k), fun i j _ hj => absurd hj (Nat.not_lt_zero j), fun y => ⟨fun ⟨k, hk, _⟩ => absurd hk (Nat.not_lt_zero k), fun ⟨k, hk, _⟩ => absurd hk (Nat.not_lt_zero k)⟩⟩
theorem rel0_3 : R3 i7.2.2.2.2.2.2.1 i8 := ⟨0, by decide, by decide +kernel, by decide +kernel, fun k hk => absurd hk (Nat.not_lt_zero k)⟩
theorem rel0_0 : R0 i7.2.2.2.2.2.2.2 i8 := ⟨0, by decide, by decide +kernel, by decide +kernel, by decide +kernel, by decide +kernel, by decide +kernel, by decide +kernel, by decide +kernel, fun k hk => absurd hk (Nat.not_lt_zero k)⟩
theorem rel0 : Rel i7.1 i7.2.1 i7.2.2.1 i7.2.2.2.2.1 i7.2.2.2.2.2.1 i7.2.2.2.2.2.2.1 i7.2.2.2.2.2.2.2 i8 := ⟨rel0_7, rel0_5, rel0_6, rel0_2, rel0_4, rel0_3, rel0_0⟩
