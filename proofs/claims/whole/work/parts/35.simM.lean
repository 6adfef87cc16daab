def spP (S3 M : St) (o1 : Option St) (o2 : Option (Int32 × St)) : Prop := ∃ w e e', wr9 w e e' ∧ o1 = some (mkW S3 w e) ∧ o2 = (if w = -9 then some (-9, M) else some (w, sI M 2 e'))
theorem spr_all {N n : Nat} (hN : 50 ≤ N) {S3 M : St} (hS : S3.1 4 = nI n) (hM : M.1 34 = nI n) (hn : n ≤ 30) (hr : ∀ k, k < n → S3.2.2 0 k = M.2.2 35 k ∧ S3.2.2 1 k = M.2.2 36 k ∧ S3.2.2 2 k = M.2.2 37 k ∧ S3.2.2 3 k = M.2.2 38 k ∧ 0 ≤ (M.2.2 35 k).toInt ∧ (M.2.2 35 k).toInt ≤ 9 ∧ 0 ≤ (M.2.2 37 k).toInt ∧ (M.2.2 37 k).toInt ≤ 100) :
    ∀ (c q q' k : Nat) (w e e' : Int32), k + c = n → c < q → c < q' → wr9 w e e' → spP S3 M (f_X3_findSpread_14 N q (mkW S3 w e) (nI k)) (f_X8_spread_7 N q' M w e' (nI k)) := by
  intro c
  induction c with
  | zero =>
    intro q q' k w e e' hk hq hq' hw
    obtain ⟨q, rfl⟩ : ∃ z, q = z + 1 := ⟨q - 1, by omega⟩
    obtain ⟨q', rfl⟩ : ∃ z, q' = z + 1 := ⟨q' - 1, by omega⟩
    have : k = n := by omega
    subst this
    show spP S3 M (f_X3_findSpread_14_b N (fun y0 y1 => f_X3_findSpread_14 N q y0 y1) (mkW S3 w e) (nI k)) (f_X8_spread_7_b N (fun y0 y1 y2 y3 => f_X8_spread_7 N q' y0 y1 y2 y3) M w e' (nI k))
    unfold f_X3_findSpread_14_b f_X8_spread_7_b f_X8_tells
    rw [show (mkW S3 w e).1 4 = nI k from hS, hM]
    simp only [le_nI (show k ≤ 100000 by omega) (show k ≤ 100000 by omega), if_pos (Nat.le_refl k)]
    exact ⟨w, e, e', hw, rfl, rfl⟩
  | succ c ih =>
    intro q q' k w e e' hk hq hq' hw
    obtain ⟨q, rfl⟩ : ∃ z, q = z + 1 := ⟨q - 1, by omega⟩
    obtain ⟨q', rfl⟩ : ∃ z, q' = z + 1 := ⟨q' - 1, by omega⟩
    show spP S3 M (f_X3_findSpread_14_b N (fun y0 y1 => f_X3_findSpread_14 N q y0 y1) (mkW S3 w e) (nI k)) (f_X8_spread_7_b N (fun y0 y1 y2 y3 => f_X8_spread_7 N q' y0 y1 y2 y3) M w e' (nI k))
    unfold f_X3_findSpread_14_b f_X8_spread_7_b
    rw [show (mkW S3 w e).1 4 = nI n from hS, hM]
    simp only [le_nI (show n ≤ 100000 by omega) (show k ≤ 100000 by omega), if_neg (show ¬ n ≤ k by omega), nI_1]
    exact spr_in hS hM hn hr (spP S3 M) (fun y0 y1 => f_X3_findSpread_14 N q y0 y1) (fun y0 y1 y2 y3 => f_X8_spread_7 N q' y0 y1 y2 y3) (show k < n by omega) (fun w e e' hw => ih q q' (k + 1) w e e' (by omega) (by omega) (by omega) hw) (n - (k + 1)) N N (k + 1) w e e' (by omega) (by omega) (by omega) hw
theorem sim_spread {N : Nat} (hN : 2200 ≤ N) {S7 S5 S6 S2 S4 S3 S0 M : St} (h : Rel S7 S5 S6 S2 S4 S3 S0 M) : ∃ (r : Int32) (T7 T3 T8 : St), f_X7_spread N S7 S3 = some (r, T7, T3) ∧ f_X8_spread N M = some (r, T8) ∧ Rel T7 S5 S6 S2 S4 T3 S0 T8 := by
  obtain ⟨n, hn, a1, a2, a3⟩ := id h.2.2.2.2.2.1
  unfold f_X7_spread f_X8_spread f_X3_findSpread
  obtain ⟨w, e, e', hw, e1, e2⟩ := spr_all (N := N) (by omega) a1 a2 hn a3 n N N 0 (-9) (-9) 0 (by omega) (by omega) (by omega) (Or.inl rfl)
  rw [show f_X3_findSpread_14 N N (sI (sI S3 5 (-9)) 6 (-9)) 0 = _ from e1, show f_X8_spread_7 N N M (-9) 0 0 = _ from e2]
  simp only [Option.bind_some]
  rw [show (mkW S3 w e).1 5 = w from rfl, show (mkW S3 w e).1 6 = e from rfl]
  by_cases c : w = -9
  · rw [if_pos c, if_pos c]
    exact ⟨_, _, _, _, rfl, rfl, h⟩
  · rw [if_neg c, if_neg c]
    have : e = e' := hw.elim (fun q => absurd q c) id
    subst this
    exact ⟨_, _, _, _, rfl, rfl, Rel_ask h e⟩
