/-! the digest -/
def hx (f : Nat → Int32) : Nat → Int64 → Int64
  | 0, x => x
  | k + 1, x => 31 * hx f k x + Int32.toInt64 (f k)
theorem lt_lit {k m : Nat} {x : Int32} (hx : x = nI m) (hk : k < m) (hm : m ≤ 100000) : ¬ x ≤ nI k := by
  rw [hx, le_nI hm (by omega)]; omega
theorem ge_lit {m : Nat} {x : Int32} (hx : x = nI m) : x ≤ nI m := by rw [hx]; exact Int32.le_refl _
def hP (M : St) : Nat → Int64 → Int64
  | 0, x => x
  | p + 1, x => hx (fun w => dt M p (nI w)) 6 (hP M p x)
def hT (M : St) : Nat → Int64 → Int64
  | 0, x => x
  | t + 1, x => 31 * hx (fun h => M.2.2 28 (t * 4 + h)) 4 (31 * (31 * (31 * hT M t x + Int32.toInt64 (M.2.2 25 t)) + Int32.toInt64 (M.2.2 26 t)) + Int32.toInt64 (M.2.2 27 t)) + Int32.toInt64 (M.2.2 29 t)
def hW (M : St) : Nat → Int64 → Int64
  | 0, x => x
  | r + 1, x => hx (fun i => M.2.2 7 (r * 40 + i)) (M.2.2 6 r).toInt.toNat (31 * hW M r x + Int32.toInt64 (M.2.2 6 r))
theorem dg_p7 {N : Nat} (hN : 50 ≤ N) {S7 S5 S6 S2 S4 S3 S0 M : St} (h5 : R5 S5 M) (h6 : R6 S6 M) {n p : Nat} (hM : M.1 13 = nI n) (hn : n ≤ 24) (hp : p < n) (k33 : Int64 → Int32 → Option Int64) (x : Int64) :
    f_X7_digest_47 N S7 S5 S6 S2 S4 S3 S0 k33 N x (nI p) 0 = k33 (hx (fun w => dt M p (nI w)) 6 x) (nI (p + 1)) := by
  refine lpN (fun q w (x : Int64) => f_X7_digest_47 N S7 S5 S6 S2 S4 S3 S0 k33 q x (nI p) (nI w)) (fun w => hx (fun w => dt M p (nI w)) w x) 6 _ ?_ ?_ 6 N 0 (by omega) (by omega)
  · intro q w hw
    show f_X7_digest_47_b N S7 S5 S6 S2 S4 S3 S0 k33 (fun y0 y1 y2 => f_X7_digest_47 N S7 S5 S6 S2 S4 S3 S0 k33 q y0 y1 y2) (hx (fun w => dt M p (nI w)) w x) (nI p) (nI w) = f_X7_digest_47 N S7 S5 S6 S2 S4 S3 S0 k33 q (31 * hx (fun w => dt M p (nI w)) w x + Int32.toInt64 (dt M p (nI w))) (nI p) (nI (w + 1))
    unfold f_X7_digest_47_b
    rw [if_neg (show ¬ (5 : Int32) < nI w by rw [show (5 : Int32) = nI 5 from rfl, lt_nI (by omega) (by omega)]; omega), (dt_all hN h5 h6 hM hn hp (nI w)).1, Option.bind_some, nI_1]
  · intro q
    show f_X7_digest_47_b N S7 S5 S6 S2 S4 S3 S0 k33 (fun y0 y1 y2 => f_X7_digest_47 N S7 S5 S6 S2 S4 S3 S0 k33 q y0 y1 y2) (hx (fun w => dt M p (nI w)) 6 x) (nI p) (nI 6) = _
    unfold f_X7_digest_47_b
    rw [if_pos (show (5 : Int32) < nI 6 by decide), nI_1]
theorem dg_p8 {N : Nat} (hN : 50 ≤ N) {S5 S6 M : St} (h5 : R5 S5 M) (h6 : R6 S6 M) {n p : Nat} (hM : M.1 13 = nI n) (hn : n ≤ 24) (hp : p < n) (k33 : Int64 → Int32 → Option Int64) (x : Int64) :
    f_X8_digest_44 N M k33 N x (nI p) 0 = k33 (hx (fun w => dt M p (nI w)) 6 x) (nI (p + 1)) := by
  refine lpN (fun q w (x : Int64) => f_X8_digest_44 N M k33 q x (nI p) (nI w)) (fun w => hx (fun w => dt M p (nI w)) w x) 6 _ ?_ ?_ 6 N 0 (by omega) (by omega)
  · intro q w hw
    show f_X8_digest_44_b N M k33 (fun y0 y1 y2 => f_X8_digest_44 N M k33 q y0 y1 y2) (hx (fun w => dt M p (nI w)) w x) (nI p) (nI w) = f_X8_digest_44 N M k33 q (31 * hx (fun w => dt M p (nI w)) w x + Int32.toInt64 (dt M p (nI w))) (nI p) (nI (w + 1))
    unfold f_X8_digest_44_b
    rw [if_neg (lt_lit (x := (6 : Int32)) (m := 6) rfl hw (by omega)), (dt_all hN h5 h6 hM hn hp (nI w)).2, Option.bind_some, nI_1]
  · intro q
    show f_X8_digest_44_b N M k33 (fun y0 y1 y2 => f_X8_digest_44 N M k33 q y0 y1 y2) (hx (fun w => dt M p (nI w)) 6 x) (nI p) (nI 6) = _
    unfold f_X8_digest_44_b
    rw [if_pos (show (6 : Int32) ≤ nI 6 by decide), nI_1]
theorem dg_h2 {N : Nat} (hN : 50 ≤ N) {S2 M : St} (h0 : ∀ h, h < 4 → S2.2.2 0 h = M.2.2 23 h) (x : Int64) : f_X2_mixInto N S2 x = f_X2_mixInto_29 N S2 N (hx (fun h => M.2.2 23 h) 4 x) 0 := by
  unfold f_X2_mixInto
  refine lpN (fun q h (x : Int64) => f_X2_mixInto_2 N S2 q x (nI h)) (fun h => hx (fun h => M.2.2 23 h) h x) 4 _ ?_ ?_ 4 N 0 (by omega) (by omega)
  · intro q h hh
    show f_X2_mixInto_2_b N S2 (fun y0 y1 => f_X2_mixInto_2 N S2 q y0 y1) (hx (fun h => M.2.2 23 h) h x) (nI h) = f_X2_mixInto_2 N S2 q (31 * hx (fun h => M.2.2 23 h) h x + Int32.toInt64 (M.2.2 23 h)) (nI (h + 1))
    unfold f_X2_mixInto_2_b
    rw [if_neg (lt_lit (x := (4 : Int32)) (m := 4) rfl hh (by omega)), if_pos (inb_nI hh (by omega)), cl_nI (by omega), h0 h hh, nI_1]
  · intro q
    show f_X2_mixInto_2_b N S2 (fun y0 y1 => f_X2_mixInto_2 N S2 q y0 y1) (hx (fun h => M.2.2 23 h) 4 x) (nI 4) = _
    unfold f_X2_mixInto_2_b
    rw [if_pos (show (4 : Int32) ≤ nI 4 by decide)]
theorem dg_h8 {N : Nat} (hN : 50 ≤ N) (M : St) (x : Int64) : f_X8_digest_80 N M N x 0 = f_X8_digest_107 N M N (hx (fun h => M.2.2 23 h) 4 x) 0 := by
  refine lpN (fun q h (x : Int64) => f_X8_digest_80 N M q x (nI h)) (fun h => hx (fun h => M.2.2 23 h) h x) 4 _ ?_ ?_ 4 N 0 (by omega) (by omega)
  · intro q h hh
    show f_X8_digest_80_b N M (fun y0 y1 => f_X8_digest_80 N M q y0 y1) (hx (fun h => M.2.2 23 h) h x) (nI h) = f_X8_digest_80 N M q (31 * hx (fun h => M.2.2 23 h) h x + Int32.toInt64 (M.2.2 23 h)) (nI (h + 1))
    unfold f_X8_digest_80_b
    rw [if_neg (lt_lit (x := (4 : Int32)) (m := 4) rfl hh (by omega)), if_pos (inb_nI hh (by omega)), cl_nI (by omega), nI_1]
  · intro q
    show f_X8_digest_80_b N M (fun y0 y1 => f_X8_digest_80 N M q y0 y1) (hx (fun h => M.2.2 23 h) 4 x) (nI 4) = _
    unfold f_X8_digest_80_b
    rw [if_pos (show (4 : Int32) ≤ nI 4 by decide)]
theorem dg_u2 {N : Nat} (hN : 50 ≤ N) {S2 M : St} {t : Nat} (ht : t < 10) (h4 : ∀ h, h < 4 → S2.2.2 4 (t * 4 + h) = M.2.2 28 (t * 4 + h)) (h5 : S2.2.2 5 t = M.2.2 29 t) (k29 : Int64 → Int32 → Option Int64) (x : Int64) :
    f_X2_mixInto_82 N S2 k29 N x (nI t) 0 = k29 (31 * hx (fun h => M.2.2 28 (t * 4 + h)) 4 x + Int32.toInt64 (M.2.2 29 t)) (nI (t + 1)) := by
  refine lpN (fun q h (x : Int64) => f_X2_mixInto_82 N S2 k29 q x (nI t) (nI h)) (fun h => hx (fun h => M.2.2 28 (t * 4 + h)) h x) 4 _ ?_ ?_ 4 N 0 (by omega) (by omega)
  · intro q h hh
    show f_X2_mixInto_82_b N S2 k29 (fun y0 y1 y2 => f_X2_mixInto_82 N S2 k29 q y0 y1 y2) (hx (fun h => M.2.2 28 (t * 4 + h)) h x) (nI t) (nI h) = f_X2_mixInto_82 N S2 k29 q (31 * hx (fun h => M.2.2 28 (t * 4 + h)) h x + Int32.toInt64 (M.2.2 28 (t * 4 + h))) (nI t) (nI (h + 1))
    unfold f_X2_mixInto_82_b
    rw [if_neg (lt_lit (x := (4 : Int32)) (m := 4) rfl hh (by omega)), m4r, nI_add, if_pos (inb_nI (show t * 4 + h < 40 by omega) (by omega)), cl_nI (show t * 4 + h ≤ 100000 by omega), h4 h hh, nI_1]
  · intro q
    show f_X2_mixInto_82_b N S2 k29 (fun y0 y1 y2 => f_X2_mixInto_82 N S2 k29 q y0 y1 y2) (hx (fun h => M.2.2 28 (t * 4 + h)) 4 x) (nI t) (nI 4) = _
    unfold f_X2_mixInto_82_b
    rw [if_pos (show (4 : Int32) ≤ nI 4 by decide), if_pos (inb_nI ht (by omega)), cl_nI (show t ≤ 100000 by omega), h5, nI_1]
theorem dg_u8 {N : Nat} (hN : 50 ≤ N) (M : St) {t : Nat} (ht : t < 10) (k29 : Int64 → Int32 → Option Int64) (x : Int64) :
    f_X8_digest_156 N M k29 N x (nI t) 0 = k29 (31 * hx (fun h => M.2.2 28 (t * 4 + h)) 4 x + Int32.toInt64 (M.2.2 29 t)) (nI (t + 1)) := by
  refine lpN (fun q h (x : Int64) => f_X8_digest_156 N M k29 q x (nI t) (nI h)) (fun h => hx (fun h => M.2.2 28 (t * 4 + h)) h x) 4 _ ?_ ?_ 4 N 0 (by omega) (by omega)
  · intro q h hh
    show f_X8_digest_156_b N M k29 (fun y0 y1 y2 => f_X8_digest_156 N M k29 q y0 y1 y2) (hx (fun h => M.2.2 28 (t * 4 + h)) h x) (nI t) (nI h) = f_X8_digest_156 N M k29 q (31 * hx (fun h => M.2.2 28 (t * 4 + h)) h x + Int32.toInt64 (M.2.2 28 (t * 4 + h))) (nI t) (nI (h + 1))
    unfold f_X8_digest_156_b
    rw [if_neg (lt_lit (x := (4 : Int32)) (m := 4) rfl hh (by omega)), m4l, nI_add, if_pos (inb_nI (show t * 4 + h < 40 by omega) (by omega)), cl_nI (show t * 4 + h ≤ 100000 by omega), nI_1]
  · intro q
    show f_X8_digest_156_b N M k29 (fun y0 y1 y2 => f_X8_digest_156 N M k29 q y0 y1 y2) (hx (fun h => M.2.2 28 (t * 4 + h)) 4 x) (nI t) (nI 4) = _
    unfold f_X8_digest_156_b
    rw [if_pos (show (4 : Int32) ≤ nI 4 by decide), if_pos (inb_nI ht (by omega)), cl_nI (show t ≤ 100000 by omega), nI_1]
theorem dg_t2 {N n : Nat} (hN : 50 ≤ N) {S2 M : St} (hR : R2 S2 M) (hM : M.1 24 = nI n) (hn : n ≤ 10) (x : Int64) : f_X2_mixInto N S2 x = some (hT M n (hx (fun h => M.2.2 23 h) 4 x)) := by
  obtain ⟨n', hn', a1, a2, a3, a4, a5, -⟩ := hR
  have : n' = n := (nI_eq (by omega) (by omega)).mp (a2.symm.trans hM)
  subst this
  rw [dg_h2 hN (fun h hh => (a3 h hh).1)]
  generalize hx (fun h => M.2.2 23 h) 4 x = y
  refine lpN (fun q t (x : Int64) => f_X2_mixInto_29 N S2 q x (nI t)) (fun t => hT M t y) n' _ ?_ ?_ n' N 0 (by omega) (by omega)
  · intro q t ht
    obtain ⟨t1, t2, t3, t4, t5, -⟩ := a4 t ht
    show f_X2_mixInto_29_b N S2 (fun y0 y1 => f_X2_mixInto_29 N S2 q y0 y1) (hT M t y) (nI t) = f_X2_mixInto_29 N S2 q (31 * hx (fun h => M.2.2 28 (t * 4 + h)) 4 (31 * (31 * (31 * hT M t y + Int32.toInt64 (M.2.2 25 t)) + Int32.toInt64 (M.2.2 26 t)) + Int32.toInt64 (M.2.2 27 t)) + Int32.toInt64 (M.2.2 29 t)) (nI (t + 1))
    unfold f_X2_mixInto_29_b
    rw [if_neg (lt_lit a1 ht (by omega)), if_pos (inb_nI (show t < 10 by omega) (by omega)), if_pos (inb_nI (show t < 10 by omega) (by omega)), if_pos (inb_nI (show t < 10 by omega) (by omega)), cl_nI (show t ≤ 100000 by omega), t1, t2, t3, dg_u2 hN (show t < 10 by omega) (fun h hh => (a5 (t * 4 + h) (by omega)).1) t5]
  · intro q
    show f_X2_mixInto_29_b N S2 (fun y0 y1 => f_X2_mixInto_29 N S2 q y0 y1) (hT M n' y) (nI n') = _
    unfold f_X2_mixInto_29_b
    rw [if_pos (ge_lit a1)]
theorem dg_t8 {N n : Nat} (hN : 50 ≤ N) {M : St} (hM : M.1 24 = nI n) (hn : n ≤ 10) (x : Int64) : f_X8_digest_80 N M N x 0 = f_X8_digest_209 N M N (hT M n (hx (fun h => M.2.2 23 h) 4 x)) 0 := by
  rw [dg_h8 hN]
  generalize hx (fun h => M.2.2 23 h) 4 x = y
  refine lpN (fun q t (x : Int64) => f_X8_digest_107 N M q x (nI t)) (fun t => hT M t y) n _ ?_ ?_ n N 0 (by omega) (by omega)
  · intro q t ht
    show f_X8_digest_107_b N M (fun y0 y1 => f_X8_digest_107 N M q y0 y1) (hT M t y) (nI t) = f_X8_digest_107 N M q (31 * hx (fun h => M.2.2 28 (t * 4 + h)) 4 (31 * (31 * (31 * hT M t y + Int32.toInt64 (M.2.2 25 t)) + Int32.toInt64 (M.2.2 26 t)) + Int32.toInt64 (M.2.2 27 t)) + Int32.toInt64 (M.2.2 29 t)) (nI (t + 1))
    unfold f_X8_digest_107_b
    rw [if_neg (lt_lit hM ht (by omega)), if_pos (inb_nI (show t < 10 by omega) (by omega)), if_pos (inb_nI (show t < 10 by omega) (by omega)), if_pos (inb_nI (show t < 10 by omega) (by omega)), cl_nI (show t ≤ 100000 by omega), dg_u8 hN M (show t < 10 by omega)]
  · intro q
    show f_X8_digest_107_b N M (fun y0 y1 => f_X8_digest_107 N M q y0 y1) (hT M n y) (nI n) = _
    unfold f_X8_digest_107_b
    rw [if_pos (ge_lit hM)]
theorem dg_q5 {N : Nat} (hN : 50 ≤ N) {S5 M : St} (h0 : ∀ h, h < 10 → S5.2.2 1 h = M.2.2 9 h) (x : Int64) : f_X5_mixPaintsInto N S5 x = some (hx (fun h => M.2.2 9 h) 10 x) := by
  unfold f_X5_mixPaintsInto
  refine lpN (fun q h (x : Int64) => f_X5_mixPaintsInto_2 N S5 q x (nI h)) (fun h => hx (fun h => M.2.2 9 h) h x) 10 _ ?_ ?_ 10 N 0 (by omega) (by omega)
  · intro q h hh
    show f_X5_mixPaintsInto_2_b N S5 (fun y0 y1 => f_X5_mixPaintsInto_2 N S5 q y0 y1) (hx (fun h => M.2.2 9 h) h x) (nI h) = f_X5_mixPaintsInto_2 N S5 q (31 * hx (fun h => M.2.2 9 h) h x + Int32.toInt64 (M.2.2 9 h)) (nI (h + 1))
    unfold f_X5_mixPaintsInto_2_b
    rw [if_neg (lt_lit (x := (10 : Int32)) (m := 10) rfl hh (by omega)), if_pos (inb_nI hh (by omega)), cl_nI (by omega), h0 h hh, nI_1]
  · intro q
    show f_X5_mixPaintsInto_2_b N S5 (fun y0 y1 => f_X5_mixPaintsInto_2 N S5 q y0 y1) (hx (fun h => M.2.2 9 h) 10 x) (nI 10) = _
    unfold f_X5_mixPaintsInto_2_b
    rw [if_pos (show (10 : Int32) ≤ nI 10 by decide)]
theorem dg_q8 {N : Nat} (hN : 50 ≤ N) (M : St) (x : Int64) : f_X8_digest_209 N M N x 0 = f_X8_digest_237 N M N (hx (fun h => M.2.2 9 h) 10 x) 0 := by
  refine lpN (fun q h (x : Int64) => f_X8_digest_209 N M q x (nI h)) (fun h => hx (fun h => M.2.2 9 h) h x) 10 _ ?_ ?_ 10 N 0 (by omega) (by omega)
  · intro q h hh
    show f_X8_digest_209_b N M (fun y0 y1 => f_X8_digest_209 N M q y0 y1) (hx (fun h => M.2.2 9 h) h x) (nI h) = f_X8_digest_209 N M q (31 * hx (fun h => M.2.2 9 h) h x + Int32.toInt64 (M.2.2 9 h)) (nI (h + 1))
    unfold f_X8_digest_209_b
    rw [if_neg (lt_lit (x := (10 : Int32)) (m := 10) rfl hh (by omega)), if_pos (inb_nI hh (by omega)), cl_nI (by omega), nI_1]
  · intro q
    show f_X8_digest_209_b N M (fun y0 y1 => f_X8_digest_209 N M q y0 y1) (hx (fun h => M.2.2 9 h) 10 x) (nI 10) = _
    unfold f_X8_digest_209_b
    rw [if_pos (show (10 : Int32) ≤ nI 10 by decide)]
theorem rl_le {v : Int32} {i : Nat} (h : v.toInt ≤ 40) (hi : i ≤ 100) : (v ≤ nI i) = (v.toInt.toNat ≤ i) := by
  apply propext
  rw [fa_le, ti_nI (by omega)]
  omega
theorem dg_v6 {N : Nat} (hN : 50 ≤ N) {S6 M : St} (h6 : R6 S6 M) {r : Nat} (hr : r < 6) (k2 : Int64 → Int32 → Option Int64) (x : Int64) :
    f_X6_mixInto_25 N S6 k2 N x (nI r) 0 = k2 (hx (fun i => M.2.2 7 (r * 40 + i)) (M.2.2 6 r).toInt.toNat x) (nI (r + 1)) := by
  obtain ⟨e0, b1, b2⟩ := h6.1 r hr
  have h7 : ∀ i : Nat, i < (M.2.2 6 r).toInt.toNat → S6.2.2 1 (r * 40 + i) = M.2.2 7 (r * 40 + i) := fun i hi => h6.2.1 r i hr (by omega)
  refine lpN (fun q i (x : Int64) => f_X6_mixInto_25 N S6 k2 q x (nI r) (nI i)) (fun i => hx (fun i => M.2.2 7 (r * 40 + i)) i x) (M.2.2 6 r).toInt.toNat _ ?_ ?_ (M.2.2 6 r).toInt.toNat N 0 (by omega) (by omega)
  · intro q i hi
    show f_X6_mixInto_25_b N S6 k2 (fun y0 y1 y2 => f_X6_mixInto_25 N S6 k2 q y0 y1 y2) (hx (fun i => M.2.2 7 (r * 40 + i)) i x) (nI r) (nI i) = f_X6_mixInto_25 N S6 k2 q (31 * hx (fun i => M.2.2 7 (r * 40 + i)) i x + Int32.toInt64 (M.2.2 7 (r * 40 + i))) (nI r) (nI (i + 1))
    unfold f_X6_mixInto_25_b
    rw [if_pos (inb_nI hr (by omega)), cl_nI (show r ≤ 100000 by omega), e0, if_neg (by rw [rl_le b2 (by omega)]; omega), m40r, nI_add, if_pos (inb_nI (show r * 40 + i < 240 by omega) (by omega)), cl_nI (show r * 40 + i ≤ 100000 by omega), h7 i hi, nI_1]
  · intro q
    show f_X6_mixInto_25_b N S6 k2 (fun y0 y1 y2 => f_X6_mixInto_25 N S6 k2 q y0 y1 y2) (hx (fun i => M.2.2 7 (r * 40 + i)) (M.2.2 6 r).toInt.toNat x) (nI r) (nI (M.2.2 6 r).toInt.toNat) = _
    unfold f_X6_mixInto_25_b
    rw [if_pos (inb_nI hr (by omega)), cl_nI (show r ≤ 100000 by omega), e0, if_pos (by rw [rl_le b2 (by omega)]; exact Nat.le_refl _), nI_1]
theorem dg_v8 {N : Nat} (hN : 50 ≤ N) {S6 M : St} (h6 : R6 S6 M) {r : Nat} (hr : r < 6) (k2 : Int64 → Int32 → Option Int64) (x : Int64) :
    f_X8_digest_260 N M k2 N x (nI r) 0 = k2 (hx (fun i => M.2.2 7 (r * 40 + i)) (M.2.2 6 r).toInt.toNat x) (nI (r + 1)) := by
  obtain ⟨e0, b1, b2⟩ := h6.1 r hr
  refine lpN (fun q i (x : Int64) => f_X8_digest_260 N M k2 q x (nI r) (nI i)) (fun i => hx (fun i => M.2.2 7 (r * 40 + i)) i x) (M.2.2 6 r).toInt.toNat _ ?_ ?_ (M.2.2 6 r).toInt.toNat N 0 (by omega) (by omega)
  · intro q i hi
    show f_X8_digest_260_b N M k2 (fun y0 y1 y2 => f_X8_digest_260 N M k2 q y0 y1 y2) (hx (fun i => M.2.2 7 (r * 40 + i)) i x) (nI r) (nI i) = f_X8_digest_260 N M k2 q (31 * hx (fun i => M.2.2 7 (r * 40 + i)) i x + Int32.toInt64 (M.2.2 7 (r * 40 + i))) (nI r) (nI (i + 1))
    unfold f_X8_digest_260_b
    rw [if_pos (inb_nI hr (by omega)), cl_nI (show r ≤ 100000 by omega), if_neg (by rw [rl_le b2 (by omega)]; omega), m40l, nI_add, if_pos (inb_nI (show r * 40 + i < 240 by omega) (by omega)), cl_nI (show r * 40 + i ≤ 100000 by omega), nI_1]
  · intro q
    show f_X8_digest_260_b N M k2 (fun y0 y1 y2 => f_X8_digest_260 N M k2 q y0 y1 y2) (hx (fun i => M.2.2 7 (r * 40 + i)) (M.2.2 6 r).toInt.toNat x) (nI r) (nI (M.2.2 6 r).toInt.toNat) = _
    unfold f_X8_digest_260_b
    rw [if_pos (inb_nI hr (by omega)), cl_nI (show r ≤ 100000 by omega), if_pos (by rw [rl_le b2 (by omega)]; exact Nat.le_refl _), nI_1]
theorem dg_w6 {N : Nat} (hN : 50 ≤ N) {S6 M : St} (h6 : R6 S6 M) (x : Int64) : f_X6_mixInto N S6 x = some (hW M 6 x) := by
  unfold f_X6_mixInto
  refine lpN (fun q r (x : Int64) => f_X6_mixInto_2 N S6 q x (nI r)) (fun r => hW M r x) 6 _ ?_ ?_ 6 N 0 (by omega) (by omega)
  · intro q r hr
    show f_X6_mixInto_2_b N S6 (fun y0 y1 => f_X6_mixInto_2 N S6 q y0 y1) (hW M r x) (nI r) = f_X6_mixInto_2 N S6 q (hx (fun i => M.2.2 7 (r * 40 + i)) (M.2.2 6 r).toInt.toNat (31 * hW M r x + Int32.toInt64 (M.2.2 6 r))) (nI (r + 1))
    unfold f_X6_mixInto_2_b
    rw [if_neg (lt_lit (x := (6 : Int32)) (m := 6) rfl hr (by omega)), if_pos (inb_nI hr (by omega)), cl_nI (by omega), dg_v6 hN h6 hr, (h6.1 r hr).1]
  · intro q
    generalize hW M 6 x = y
    show f_X6_mixInto_2_b N S6 (fun y0 y1 => f_X6_mixInto_2 N S6 q y0 y1) y (nI 6) = _
    unfold f_X6_mixInto_2_b
    rw [if_pos (show (6 : Int32) ≤ nI 6 by decide)]
theorem dg_w8 {N : Nat} (hN : 50 ≤ N) {S6 M : St} (h6 : R6 S6 M) (x : Int64) : f_X8_digest_237 N M N x 0 = some (hW M 6 x) := by
  refine lpN (fun q r (x : Int64) => f_X8_digest_237 N M q x (nI r)) (fun r => hW M r x) 6 _ ?_ ?_ 6 N 0 (by omega) (by omega)
  · intro q r hr
    show f_X8_digest_237_b N M (fun y0 y1 => f_X8_digest_237 N M q y0 y1) (hW M r x) (nI r) = f_X8_digest_237 N M q (hx (fun i => M.2.2 7 (r * 40 + i)) (M.2.2 6 r).toInt.toNat (31 * hW M r x + Int32.toInt64 (M.2.2 6 r))) (nI (r + 1))
    unfold f_X8_digest_237_b
    rw [if_neg (lt_lit (x := (6 : Int32)) (m := 6) rfl hr (by omega)), if_pos (inb_nI hr (by omega)), cl_nI (by omega), dg_v8 hN h6 hr]
  · intro q
    generalize hW M 6 x = y
    show f_X8_digest_237_b N M (fun y0 y1 => f_X8_digest_237 N M q y0 y1) y (nI 6) = _
    unfold f_X8_digest_237_b
    rw [if_pos (show (6 : Int32) ≤ nI 6 by decide)]
theorem sim_digest {N : Nat} (hN : 2200 ≤ N) {S7 S5 S6 S2 S4 S3 S0 M : St} (h : Rel S7 S5 S6 S2 S4 S3 S0 M) : ∃ (r : Int64), f_X7_digest N S7 S5 S6 S2 S4 S3 S0  = some r ∧ f_X8_digest N M  = some r := by
  obtain ⟨n5, hn5, a1, a2, a3, -⟩ := id h.2.1
  obtain ⟨n2, hn2, b1, b2, -⟩ := id h.2.2.2.1
  have tot : ∀ k : Nat, f_X7_count N S7 S5 S2 S4 S3 S0 (nI k) = some ((f_X7_count N S7 S5 S2 S4 S3 S0 (nI k)).getD 0) := by
    intro k
    have : ∃ r, f_X7_count N S7 S5 S2 S4 S3 S0 (nI k) = some r := by
      unfold f_X7_count
      repeat' split
      all_goals exact ⟨_, rfl⟩
    obtain ⟨r, hr⟩ := this
    rw [hr]; rfl
  generalize hc : (fun k : Nat => (f_X7_count N S7 S5 S2 S4 S3 S0 (nI k)).getD 0) = cf
  have t7 : ∀ k : Nat, f_X7_count N S7 S5 S2 S4 S3 S0 (nI k) = some (cf k) := fun k => by rw [tot k, ← hc]
  have e7 : f_X7_digest N S7 S5 S6 S2 S4 S3 S0 = f_X7_digest_33 N S7 S5 S6 S2 S4 S3 S0 N (hx cf 8 17) 0 := by
    unfold f_X7_digest
    refine lpN (fun q k (x : Int64) => f_X7_digest_6 N S7 S5 S6 S2 S4 S3 S0 q x (nI k)) (fun k => hx cf k 17) 8 _ ?_ ?_ 8 N 0 (by omega) (by omega)
    · intro q k hk
      show f_X7_digest_6_b N S7 S5 S6 S2 S4 S3 S0 (fun y0 y1 => f_X7_digest_6 N S7 S5 S6 S2 S4 S3 S0 q y0 y1) (hx cf k 17) (nI k) = f_X7_digest_6 N S7 S5 S6 S2 S4 S3 S0 q (31 * hx cf k 17 + Int32.toInt64 (cf k)) (nI (k + 1))
      unfold f_X7_digest_6_b
      rw [if_neg (show ¬ (7 : Int32) < nI k by rw [show (7 : Int32) = nI 7 from rfl, lt_nI (by omega) (by omega)]; omega), t7 k, Option.bind_some, nI_1]
    · intro q
      generalize hx cf 8 17 = y
      show f_X7_digest_6_b N S7 S5 S6 S2 S4 S3 S0 (fun y0 y1 => f_X7_digest_6 N S7 S5 S6 S2 S4 S3 S0 q y0 y1) y (nI 8) = _
      unfold f_X7_digest_6_b
      rw [if_pos (show (7 : Int32) < nI 8 by decide)]
  have e8 : f_X8_digest N M = f_X8_digest_33 N M N (hx cf 8 17) 0 := by
    unfold f_X8_digest
    refine lpN (fun q k (x : Int64) => f_X8_digest_6 N M q x (nI k)) (fun k => hx cf k 17) 8 _ ?_ ?_ 8 N 0 (by omega) (by omega)
    · intro q k hk
      show f_X8_digest_6_b N M (fun y0 y1 => f_X8_digest_6 N M q y0 y1) (hx cf k 17) (nI k) = f_X8_digest_6 N M q (31 * hx cf k 17 + Int32.toInt64 (cf k)) (nI (k + 1))
      unfold f_X8_digest_6_b
      rw [if_neg (lt_lit (x := (8 : Int32)) (m := 8) rfl hk (by omega)), cnt (N := N) (by omega) h (nI k) (by rw [ti_nI (by omega)]; omega), t7 k, Option.bind_some, nI_1]
    · intro q
      generalize hx cf 8 17 = y
      show f_X8_digest_6_b N M (fun y0 y1 => f_X8_digest_6 N M q y0 y1) y (nI 8) = _
      unfold f_X8_digest_6_b
      rw [if_pos (show (8 : Int32) ≤ nI 8 by decide)]
  rw [e7, e8]
  generalize hx cf 8 17 = y
  refine ⟨hW M 6 (hx (fun h => M.2.2 9 h) 10 (hT M n2 (hx (fun h => M.2.2 23 h) 4 (hP M n5 y)))), ?_, ?_⟩
  · refine lpN (fun q p (x : Int64) => f_X7_digest_33 N S7 S5 S6 S2 S4 S3 S0 q x (nI p)) (fun p => hP M p y) n5 _ ?_ ?_ n5 N 0 (by omega) (by omega)
    · intro q p hp
      show f_X7_digest_33_b N S7 S5 S6 S2 S4 S3 S0 (fun y0 y1 => f_X7_digest_33 N S7 S5 S6 S2 S4 S3 S0 q y0 y1) (hP M p y) (nI p) = f_X7_digest_33 N S7 S5 S6 S2 S4 S3 S0 q (hx (fun w => dt M p (nI w)) 6 (hP M p y)) (nI (p + 1))
      unfold f_X7_digest_33_b
      rw [if_neg (lt_lit a1 hp (by omega)), dg_p7 (N := N) (by omega) h.2.1 h.2.2.1 a2 hn5 hp]
    · intro q
      show f_X7_digest_33_b N S7 S5 S6 S2 S4 S3 S0 (fun y0 y1 => f_X7_digest_33 N S7 S5 S6 S2 S4 S3 S0 q y0 y1) (hP M n5 y) (nI n5) = _
      unfold f_X7_digest_33_b
      rw [if_pos (ge_lit a1), dg_t2 (N := N) (by omega) h.2.2.2.1 b2 hn2, Option.bind_some, dg_q5 (N := N) (M := M) (by omega) (fun k hk => (a3 k hk).1), Option.bind_some, dg_w6 (N := N) (by omega) h.2.2.1, Option.bind_some]
  · rw [← dg_w8 (N := N) (by omega) h.2.2.1, ← dg_q8 (N := N) (by omega), ← dg_t8 (N := N) (by omega) b2 hn2]
    refine lpN (fun q p (x : Int64) => f_X8_digest_33 N M q x (nI p)) (fun p => hP M p y) n5 _ ?_ ?_ n5 N 0 (by omega) (by omega)
    · intro q p hp
      show f_X8_digest_33_b N M (fun y0 y1 => f_X8_digest_33 N M q y0 y1) (hP M p y) (nI p) = f_X8_digest_33 N M q (hx (fun w => dt M p (nI w)) 6 (hP M p y)) (nI (p + 1))
      unfold f_X8_digest_33_b
      rw [if_neg (lt_lit a2 hp (by omega)), dg_p8 (N := N) (by omega) h.2.1 h.2.2.1 a2 hn5 hp]
    · intro q
      show f_X8_digest_33_b N M (fun y0 y1 => f_X8_digest_33 N M q y0 y1) (hP M n5 y) (nI n5) = _
      unfold f_X8_digest_33_b
      rw [if_pos (ge_lit a2)]
