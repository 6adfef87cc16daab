/-! mean, spread -/
def okO (M : St) (h w : Int32) (k : Nat) : Bool := decide (M.2.2 36 k = h) && decide (M.2.2 38 k = w)
def hmO (M : St) (h w : Int32) : Nat → Int32
  | 0 => 0
  | k + 1 => if okO M h w k then hmO M h w k + 1 else hmO M h w k
def smO (M : St) (h w : Int32) : Nat → Int32
  | 0 => 0
  | k + 1 => if okO M h w k then smO M h w k + M.2.2 37 k else smO M h w k
theorem how3 {N n : Nat} (hN : 50 ≤ N) {S3 M : St} (hS : S3.1 4 = nI n) (hn : n ≤ 30) (hr : ∀ k, k < n → S3.2.2 0 k = M.2.2 35 k ∧ S3.2.2 1 k = M.2.2 36 k ∧ S3.2.2 2 k = M.2.2 37 k ∧ S3.2.2 3 k = M.2.2 38 k ∧ 0 ≤ (M.2.2 35 k).toInt ∧ (M.2.2 35 k).toInt ≤ 9 ∧ 0 ≤ (M.2.2 37 k).toInt ∧ (M.2.2 37 k).toInt ≤ 100) (h w : Int32) : f_X3_howMany N S3 h w = some (hmO M h w n) ∧ f_X3_sumOf N S3 h w = some (smO M h w n) := by
  constructor
  · unfold f_X3_howMany
    refine lpN (fun q k x => f_X3_howMany_5 N S3 q h w x (nI k)) (fun k => hmO M h w k) n (some (hmO M h w n)) ?_ ?_ n N 0 (by omega) (by omega)
    · intro q k hk
      show f_X3_howMany_5_b N S3 (fun y0 y1 y2 y3 => f_X3_howMany_5 N S3 q y0 y1 y2 y3) h w (hmO M h w k) (nI k) = f_X3_howMany_5 N S3 q h w (if okO M h w k then hmO M h w k + 1 else hmO M h w k) (nI (k + 1))
      unfold f_X3_howMany_5_b f_X3_howMany_39
      obtain ⟨r1, r2, r3, r4, -⟩ := hr k hk
      simp only [hS, le_nI (show n ≤ 100000 by omega) (show k ≤ 100000 by omega), if_neg (show ¬ n ≤ k by omega), if_pos (inb_nI (show k < 30 by omega) (by omega)), cl_nI (show k ≤ 100000 by omega), r2, r4, nI_1]
      unfold okO
      by_cases c1 : M.2.2 36 k = h
      · by_cases c2 : M.2.2 38 k = w
        · simp [c1, c2]
        · simp [c1, c2]
      · simp [c1]
    · intro q
      show f_X3_howMany_5_b N S3 (fun y0 y1 y2 y3 => f_X3_howMany_5 N S3 q y0 y1 y2 y3) h w (hmO M h w n) (nI n) = _
      unfold f_X3_howMany_5_b
      simp only [hS, le_nI (show n ≤ 100000 by omega) (show n ≤ 100000 by omega), if_pos (Nat.le_refl n)]
  · unfold f_X3_sumOf
    refine lpN (fun q k x => f_X3_sumOf_5 N S3 q h w x (nI k)) (fun k => smO M h w k) n (some (smO M h w n)) ?_ ?_ n N 0 (by omega) (by omega)
    · intro q k hk
      show f_X3_sumOf_5_b N S3 (fun y0 y1 y2 y3 => f_X3_sumOf_5 N S3 q y0 y1 y2 y3) h w (smO M h w k) (nI k) = f_X3_sumOf_5 N S3 q h w (if okO M h w k then smO M h w k + M.2.2 37 k else smO M h w k) (nI (k + 1))
      unfold f_X3_sumOf_5_b f_X3_sumOf_46
      obtain ⟨r1, r2, r3, r4, -⟩ := hr k hk
      simp only [hS, le_nI (show n ≤ 100000 by omega) (show k ≤ 100000 by omega), if_neg (show ¬ n ≤ k by omega), if_pos (inb_nI (show k < 30 by omega) (by omega)), cl_nI (show k ≤ 100000 by omega), r2, r3, r4, nI_1]
      unfold okO
      by_cases c1 : M.2.2 36 k = h
      · by_cases c2 : M.2.2 38 k = w
        · simp [c1, c2]
        · simp [c1, c2]
      · simp [c1]
    · intro q
      show f_X3_sumOf_5_b N S3 (fun y0 y1 y2 y3 => f_X3_sumOf_5 N S3 q y0 y1 y2 y3) h w (smO M h w n) (nI n) = _
      unfold f_X3_sumOf_5_b
      simp only [hS, le_nI (show n ≤ 100000 by omega) (show n ≤ 100000 by omega), if_pos (Nat.le_refl n)]
theorem mean8 {N n : Nat} (hN : 50 ≤ N) {M : St} (hM : M.1 34 = nI n) (hn : n ≤ 30) (h w : Int32) : f_X8_mean_17 N N M h w 0 0 0 = if hmO M h w n = 0 then some (-3, rf8 M 4 4) else some (smO M h w n / hmO M h w n, M) := by
  refine lpN (fun q k (z : Int32 × Int32) => f_X8_mean_17 N q M h w z.1 z.2 (nI k)) (fun k => (smO M h w k, hmO M h w k)) n _ ?_ ?_ n N 0 (by omega) (by omega)
  · intro q k hk
    show f_X8_mean_17_b N (fun y0 y1 y2 y3 y4 y5 => f_X8_mean_17 N q y0 y1 y2 y3 y4 y5) M h w (smO M h w k) (hmO M h w k) (nI k) = f_X8_mean_17 N q M h w (if okO M h w k then smO M h w k + M.2.2 37 k else smO M h w k) (if okO M h w k then hmO M h w k + 1 else hmO M h w k) (nI (k + 1))
    unfold f_X8_mean_17_b f_X8_mean_52 f_X8_mean_53 f_X8_mean_72 f_X8_mean_86
    simp only [hM, le_nI (show n ≤ 100000 by omega) (show k ≤ 100000 by omega), if_neg (show ¬ n ≤ k by omega), if_pos (inb_nI (show k < 30 by omega) (by omega)), cl_nI (show k ≤ 100000 by omega), nI_1]
    unfold okO
    by_cases c1 : M.2.2 36 k = h
    · by_cases c2 : M.2.2 38 k = w
      · simp [c1, c2]
      · simp [c1, c2]
    · simp [c1]
  · intro q
    show f_X8_mean_17_b N (fun y0 y1 y2 y3 y4 y5 => f_X8_mean_17 N q y0 y1 y2 y3 y4 y5) M h w (smO M h w n) (hmO M h w n) (nI n) = _
    unfold f_X8_mean_17_b
    simp only [hM, le_nI (show n ≤ 100000 by omega) (show n ≤ 100000 by omega), if_pos (Nat.le_refl n), ref8_4, Option.bind_some]
    by_cases c : hmO M h w n = 0
    · rw [if_pos c, if_pos c]
    · rw [if_neg c, if_neg c, if_neg c]
theorem sim_mean {N : Nat} (hN : 2200 ≤ N) {S7 S5 S6 S2 S4 S3 S0 M : St} (h : Rel S7 S5 S6 S2 S4 S3 S0 M) (x1 x2 : Int32) : ∃ (r : Int32) (T7 T8 : St), f_X7_mean N S7 S3 x1 x2 = some (r, T7) ∧ f_X8_mean N M x1 x2 = some (r, T8) ∧ Rel T7 S5 S6 S2 S4 S3 S0 T8 := by
  obtain ⟨n, hn, a1, a2, a3⟩ := id h.2.2.2.2.2.1
  unfold f_X7_mean f_X8_mean
  rw [isHand8]
  obtain ⟨e1, e2⟩ := how3 (N := N) (by omega) a1 hn a3 x1 x2
  simp only [isHand7, e1, e2, mean8 (N := N) (show 50 ≤ N by omega) a2 hn, ref7_4, Option.bind_some, bI_0, decide_eq_false_iff_not]
  by_cases c1 : 0 ≤ x1.toInt ∧ x1.toInt ≤ 3
  · rw [inn c1, inn c1]
    by_cases c : hmO M x1 x2 n = 0
    · rw [if_pos c, if_pos c]
      exact ⟨_, _, _, rfl, rfl, Rel_ref h 4 4 (by omega)⟩
    · rw [if_neg c, if_neg c, if_neg c]
      exact ⟨_, _, _, rfl, rfl, h⟩
  · rw [inp c1, inp c1]
    exact ⟨_, _, _, rfl, rfl, h⟩
/-- the widest so far, in the class's fields -/
def mkW (S3 : St) (w e : Int32) : St := sI (sI S3 5 w) 6 e
theorem mkW_set (S3 : St) (w e d x : Int32) : sI (sI (mkW S3 w e) 5 d) 6 x = mkW S3 d x := by
  unfold mkW sI
  have : upd (upd (upd (upd S3.1 5 w) 6 e) 5 d) 6 x = upd (upd S3.1 5 d) 6 x := by
    funext j
    unfold upd
    by_cases c6 : j = 6
    · simp [c6]
    · by_cases c5 : j = 5
      · simp [c5]
      · simp [c5, c6]
  simp only [this]
def wr9 (w e e' : Int32) : Prop := w = -9 ∨ e = e'
theorem spr_in {N n : Nat} {S3 M : St} (hS : S3.1 4 = nI n) (hM : M.1 34 = nI n) (hn : n ≤ 30) (hr : ∀ k, k < n → S3.2.2 0 k = M.2.2 35 k ∧ S3.2.2 1 k = M.2.2 36 k ∧ S3.2.2 2 k = M.2.2 37 k ∧ S3.2.2 3 k = M.2.2 38 k ∧ 0 ≤ (M.2.2 35 k).toInt ∧ (M.2.2 35 k).toInt ≤ 9 ∧ 0 ≤ (M.2.2 37 k).toInt ∧ (M.2.2 37 k).toInt ≤ 100)
    (P : Option St → Option (Int32 × St) → Prop) (k14 : St → Int32 → Option St) (k7 : St → Int32 → Int32 → Int32 → Option (Int32 × St)) {k : Nat} (hk : k < n)
    (next : ∀ w e e', wr9 w e e' → P (k14 (mkW S3 w e) (nI (k + 1))) (k7 M w e' (nI (k + 1)))) :
    ∀ (c q q' j : Nat) (w e e' : Int32), j + c = n → c < q → c < q' → wr9 w e e' → P (f_X3_findSpread_26 N k14 q (mkW S3 w e) (nI k) (nI j)) (f_X8_spread_20 N k7 q' M w e' (nI k) (nI j)) := by
  intro c
  induction c with
  | zero =>
    intro q q' j w e e' hj hq hq' hw
    obtain ⟨q, rfl⟩ : ∃ z, q = z + 1 := ⟨q - 1, by omega⟩
    obtain ⟨q', rfl⟩ : ∃ z, q' = z + 1 := ⟨q' - 1, by omega⟩
    have : j = n := by omega
    subst this
    show P (f_X3_findSpread_26_b N k14 (fun y0 y1 y2 => f_X3_findSpread_26 N k14 q y0 y1 y2) (mkW S3 w e) (nI k) (nI j)) (f_X8_spread_20_b N k7 (fun y0 y1 y2 y3 y4 => f_X8_spread_20 N k7 q' y0 y1 y2 y3 y4) M w e' (nI k) (nI j))
    unfold f_X3_findSpread_26_b f_X8_spread_20_b
    rw [show (mkW S3 w e).1 4 = nI j from hS, hM]
    simp only [le_nI (show j ≤ 100000 by omega) (show j ≤ 100000 by omega), if_pos (Nat.le_refl j), nI_1]
    exact next w e e' hw
  | succ c ih =>
    intro q q' j w e e' hj hq hq' hw
    obtain ⟨q, rfl⟩ : ∃ z, q = z + 1 := ⟨q - 1, by omega⟩
    obtain ⟨q', rfl⟩ : ∃ z, q' = z + 1 := ⟨q' - 1, by omega⟩
    obtain ⟨r1, r2, r3, r4, r5, r6, r7, r8⟩ := hr k hk
    obtain ⟨t1, t2, t3, t4, t5, t6, t7, t8⟩ := hr j (by omega)
    have ik : inb (nI k) 30 = true := inb_nI (by omega) (by omega)
    have ij : inb (nI j) 30 = true := inb_nI (by omega) (by omega)
    have ck : (nI k).toNatClampNeg = k := cl_nI (by omega)
    have cj : (nI j).toNatClampNeg = j := cl_nI (by omega)
    show P (f_X3_findSpread_26_b N k14 (fun y0 y1 y2 => f_X3_findSpread_26 N k14 q y0 y1 y2) (mkW S3 w e) (nI k) (nI j)) (f_X8_spread_20_b N k7 (fun y0 y1 y2 y3 y4 => f_X8_spread_20 N k7 q' y0 y1 y2 y3 y4) M w e' (nI k) (nI j))
    have stay : ∀ w e e', wr9 w e e' → P (f_X3_findSpread_26 N k14 q (mkW S3 w e) (nI k) (nI (j + 1))) (f_X8_spread_20 N k7 q' M w e' (nI k) (nI (j + 1))) := fun w e e' hw => ih q q' (j + 1) w e e' (by omega) (by omega) (by omega) hw
    have ac : f_X3_areComparable N (mkW S3 w e) (nI k) (nI j) = some (bI (decide (M.2.2 38 k = 0 ∧ M.2.2 38 j = 0 ∧ M.2.2 35 k = M.2.2 35 j ∧ M.2.2 36 k = M.2.2 36 j))) := by
      unfold f_X3_areComparable
      rw [show (mkW S3 w e).2.2 3 = S3.2.2 3 from rfl, show (mkW S3 w e).2.2 0 = S3.2.2 0 from rfl, show (mkW S3 w e).2.2 1 = S3.2.2 1 from rfl]
      simp only [if_pos ik, if_pos ij, ck, cj, r1, r2, r4, t1, t2, t4]
      by_cases c1 : M.2.2 38 k = 0
      · by_cases c2 : M.2.2 38 j = 0
        · by_cases c3 : M.2.2 35 k = M.2.2 35 j
          · by_cases c4 : M.2.2 36 k = M.2.2 36 j
            · simp [c1, c2, c3, c4, bI]
            · simp [c1, c2, c3, c4, bI]
          · simp [c1, c2, c3, bI]
        · simp [c1, c2, bI]
      · simp [c1, bI]
    unfold f_X3_findSpread_26_b f_X8_spread_20_b f_X3_findSpread_69 f_X8_spread_84 f_X8_spread_85 f_X8_spread_116 f_X8_spread_145 f_X8_spread_155
    rw [show (mkW S3 w e).1 4 = nI n from hS, hM, ac, show (mkW S3 w e).2.2 0 = S3.2.2 0 from rfl, show (mkW S3 w e).2.2 2 = S3.2.2 2 from rfl]
    simp only [le_nI (show n ≤ 100000 by omega) (show j ≤ 100000 by omega), if_neg (show ¬ n ≤ j by omega), if_pos ik, if_pos ij, ck, cj, r1, r3, t3, nI_1, Option.bind_some, bI_0, decide_eq_false_iff_not, if_true, ngz]
    by_cases cc : M.2.2 38 k = 0 ∧ M.2.2 38 j = 0 ∧ M.2.2 35 k = M.2.2 35 j ∧ M.2.2 36 k = M.2.2 36 j
    · rw [inn cc, if_pos cc.2.2.1, if_pos cc.2.2.2, if_pos cc.1, if_pos cc.2.1]
      simp only [if_neg (show ¬ (1 : Int32) = 0 by decide)]
      have ed : (if 0 ≤ M.2.2 37 k - M.2.2 37 j then M.2.2 37 k - M.2.2 37 j else 0 - (M.2.2 37 k - M.2.2 37 j)) = abI (M.2.2 37 k - M.2.2 37 j) := rfl
      rw [ed]
      have e1 : (M.2.2 37 k - M.2.2 37 j).toInt = (M.2.2 37 k).toInt - (M.2.2 37 j).toInt := fb_subI (by omega) (by omega)
      have d0 : 0 ≤ (abI (M.2.2 37 k - M.2.2 37 j)).toInt := by
        unfold abI
        simp only [fa_le, e1, tl_0]
        by_cases z : 0 ≤ (M.2.2 37 k).toInt - (M.2.2 37 j).toInt
        · rw [if_pos z, e1]; exact z
        · rw [if_neg z, fb_subI (by rw [e1, tl_0]; omega) (by rw [e1, tl_0]; omega), e1, tl_0]; omega
      generalize hd : abI (M.2.2 37 k - M.2.2 37 j) = d at d0
      have m8 : ∀ (A B : Option (Int32 × St)) (F : Int32 → Option (Int32 × St)), (if 0 ≤ M.2.2 37 k - M.2.2 37 j then F (M.2.2 37 k - M.2.2 37 j) else F (0 - (M.2.2 37 k - M.2.2 37 j))) = F d := by
        intro A B F
        rw [← hd]
        unfold abI
        by_cases z : 0 ≤ M.2.2 37 k - M.2.2 37 j
        · rw [if_pos z, if_pos z]
        · rw [if_neg z, if_neg z]
      rw [m8 none none (fun t0 => if w < t0 then f_X8_spread_20 N k7 q' M t0 (M.2.2 35 k) (nI k) (nI (j + 1)) else if t0 = w then if e' ≤ M.2.2 35 k then f_X8_spread_20 N k7 q' M w e' (nI k) (nI (j + 1)) else f_X8_spread_20 N k7 q' M t0 (M.2.2 35 k) (nI k) (nI (j + 1)) else f_X8_spread_20 N k7 q' M w e' (nI k) (nI (j + 1)))]
      unfold f_X3_weighPair f_X3_weighPair_24
      rw [show (mkW S3 w e).1 5 = w from rfl, show (mkW S3 w e).1 6 = e from rfl]
      simp only [mkW_set]
      by_cases z1 : w < d
      · rw [if_pos z1, if_pos z1]
        exact stay _ _ _ (Or.inr rfl)
      · rw [if_neg z1, if_neg z1]
        have he : e = e' := by
          rcases hw with q | q
          · rw [q, fa_lt, tl_m9] at z1
            omega
          · exact q
        subst he
        by_cases z2 : d = w
        · rw [if_pos z2, if_pos z2]
          by_cases z3 : e ≤ M.2.2 35 k
          · rw [if_pos z3, if_pos z3]
            exact stay _ _ _ hw
          · rw [if_neg z3, if_neg z3]
            exact stay _ _ _ (Or.inr rfl)
        · rw [if_neg z2, if_neg z2]
          exact stay _ _ _ hw
    · rw [inp cc]
      have : ∀ (A : Option (Int32 × St)), (if M.2.2 35 k = M.2.2 35 j then if M.2.2 36 k = M.2.2 36 j then if M.2.2 38 k = 0 then if M.2.2 38 j = 0 then A else (if 0 ≤ M.2.2 37 k - M.2.2 37 j then f_X8_spread_20 N k7 q' M w e' (nI k) (nI (j + 1)) else f_X8_spread_20 N k7 q' M w e' (nI k) (nI (j + 1))) else (if 0 ≤ M.2.2 37 k - M.2.2 37 j then f_X8_spread_20 N k7 q' M w e' (nI k) (nI (j + 1)) else f_X8_spread_20 N k7 q' M w e' (nI k) (nI (j + 1))) else (if 0 ≤ M.2.2 37 k - M.2.2 37 j then f_X8_spread_20 N k7 q' M w e' (nI k) (nI (j + 1)) else f_X8_spread_20 N k7 q' M w e' (nI k) (nI (j + 1))) else (if 0 ≤ M.2.2 37 k - M.2.2 37 j then f_X8_spread_20 N k7 q' M w e' (nI k) (nI (j + 1)) else f_X8_spread_20 N k7 q' M w e' (nI k) (nI (j + 1)))) = f_X8_spread_20 N k7 q' M w e' (nI k) (nI (j + 1)) := by
        intro A
        simp only [ite_self]
        by_cases c3 : M.2.2 35 k = M.2.2 35 j
        · by_cases c4 : M.2.2 36 k = M.2.2 36 j
          · by_cases c1 : M.2.2 38 k = 0
            · by_cases c2 : M.2.2 38 j = 0
              · exact absurd ⟨c1, c2, c3, c4⟩ cc
              · rw [if_pos c3, if_pos c4, if_pos c1, if_neg c2]
            · rw [if_pos c3, if_pos c4, if_neg c1]
          · rw [if_pos c3, if_neg c4]
        · rw [if_neg c3]
      rw [this]
      exact stay _ _ _ hw
