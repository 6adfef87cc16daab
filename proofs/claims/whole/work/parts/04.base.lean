/-! the state of a component: ints, longs, arrays, by the field's number -/
abbrev St : Type := (Nat → Int32) × (Nat → Int64) × (Nat → Nat → Int32)
def sI (S : St) (k : Nat) (v : Int32) : St := (upd S.1 k v, S.2.1, S.2.2)
def sL (S : St) (k : Nat) (v : Int64) : St := (S.1, vp_updL S.2.1 k v, S.2.2)
def sA (S : St) (k : Nat) (f : Nat → Int32) : St := (S.1, S.2.1, va_up S.2.2 k f)
/-- where things lie: classes and slots, the three array classes, the objects, the arrays -/
abbrev En : Type := va_G × (ClassId × ClassId × ClassId) × (Nat → Nat) × (Nat → Nat → Nat)
abbrev tyl (g : En) : List (ClassId × FieldType) := [(g.2.1.1, .int), (g.2.1.2.1, .byte), (g.2.1.2.2, .boolean)]
def inb (i : Int32) (n : Nat) : Bool := decide (0 ≤ i.toInt ∧ i.toInt < (n : Int))
theorem inbV {i : Int32} {n : Nat} (h : inb i n = true) : vp_in i n := vp_in_iff.mpr (of_decide_eq_true h)
def z01 (v : Int32) : Bool := decide (v = 0 ∨ v = 1)
theorem z01V {v : Int32} (h : z01 v = true) : narrow .boolean (.int v) = .int v := by
  rcases of_decide_eq_true h with q | q <;> subst q <;> rfl
def acp (sp dp n : Int32) (n0 : Nat) (f : Nat → Int32) : Bool := decide (0 ≤ sp.toInt ∧ 0 ≤ dp.toInt ∧ 0 ≤ n.toInt ∧ sp.toInt + n.toInt ≤ (n0 : Int) ∧ dp.toInt + n.toInt ≤ (n0 : Int) ∧ ∀ i, i < n0 → (f i).toInt8.toInt32 = f i)
theorem acpV {sp dp n : Int32} {n0 : Nat} {f : Nat → Int32} (h : acp sp dp n n0 f = true) : (¬ sp < 0) ∧ (¬ dp < 0) ∧ (¬ n < 0) ∧ sp.toNatClampNeg + n.toNatClampNeg ≤ n0 ∧ dp.toNatClampNeg + n.toNatClampNeg ≤ n0 ∧ ∀ i, i < n.toNatClampNeg → fits .byte (.int (f (sp.toNatClampNeg + i))) = true := by
  obtain ⟨h1, h2, h3, h4, h5, h6⟩ := of_decide_eq_true h
  have e : ∀ z : Int32, z.toNatClampNeg = z.toInt.toNat := fun _ => rfl
  have k : ∀ z : Int32, 0 ≤ z.toInt → ¬ z < 0 := fun z hz hc => by
    have := Int32.lt_iff_toInt_lt.mp hc
    have e0 : (0 : Int32).toInt = 0 := rfl
    omega
  refine ⟨k _ h1, k _ h2, k _ h3, by rw [e, e]; omega, by rw [e, e]; omega, fun i hi => ?_⟩
  rw [e] at hi
  have := h6 (sp.toNatClampNeg + i) (by rw [e]; omega)
  rw [← this]
  exact pk_fb _
theorem ft {c : Prop} [Decidable c] {α : Type} {A B : Option α} {r : α} (h : (if c then A else B) = some r) (hc : c) : A = some r := by rwa [if_pos hc] at h
theorem ff {c : Prop} [Decidable c] {α : Type} {A B : Option α} {r : α} (h : (if c then A else B) = some r) (hc : ¬ c) : B = some r := by rwa [if_neg hc] at h
theorem gdE {b : Bool} {α : Type} {A : Option α} {r : α} (h : (if b = true then A else none) = some r) : b = true ∧ A = some r := by
  cases b with
  | true => exact ⟨rfl, h⟩
  | false => cases h
theorem nzE {c : Prop} [Decidable c] {α : Type} {A : Option α} {r : α} (h : (if c then none else A) = some r) : ¬ c ∧ A = some r := by
  by_cases hc : c
  · rw [if_pos hc] at h; cases h
  · rw [if_neg hc] at h; exact ⟨hc, h⟩
theorem bdE {α β : Type} {o : Option α} {k : α → Option β} {r : β} (h : o.bind k = some r) : ∃ v, o = some v ∧ k v = some r := by
  cases o with
  | none => cases h
  | some v => exact ⟨v, rfl, h⟩
theorem swO {x : Int32} {lo hi : Int} (h : ∀ z : Int, lo ≤ z → z ≤ hi → ¬ x.toInt = z) : x.toInt < lo ∨ hi < x.toInt := by
  rcases Int.lt_or_le x.toInt lo with q | q
  · exact Or.inl q
  · rcases Int.lt_or_le hi x.toInt with q2 | q2
    · exact Or.inr q2
    · exact absurd rfl (h _ q q2)
theorem swN {x : Int32} {v : Int32} {z : Int} (h : ¬ x = v) (hv : v.toInt = z) : ¬ x.toInt = z := fun e => h (Int32.toInt_inj.mp (e.trans hv.symm))
def roP (g : En) (w : va_W) (av : List Value) : Array Value → State → Prop := va_Pc av (fun U => va_P g.1 vwCl w U.heap ∧ va_K g.1 vwCl (tyl g) U)
def rwP (g : En) (w : va_W) (sz : Nat) (av : List Value) : Array Value → State → Prop := va_Pc av (fun U => U.heap.size = sz ∧ va_P g.1 vwCl w U.heap ∧ va_K g.1 vwCl (tyl g) U ∧ va_D (fun _ => True) w)
def rwB (g : En) (w1 : va_W) (A : Nat → Prop) : Unit → State → Prop := fun _ t => va_P g.1 vwCl w1 t.heap ∧ va_K g.1 vwCl (tyl g) t ∧ va_D A w1
def rwQi (g : En) (w1 : va_W) (A : Nat → Prop) (r : Int32) : Array Value → State → Outcome → State → Prop := va_Qi (fun (x : Int32) (_ : Unit) => x = r) (rwB g w1 A) A
def rwQl (g : En) (w1 : va_W) (A : Nat → Prop) (r : Int64) : Array Value → State → Outcome → State → Prop := va_Ql (fun (x : Int64) (_ : Unit) => x = r) (rwB g w1 A) A
def rwQv (g : En) (w1 : va_W) (A : Nat → Prop) : Array Value → State → Outcome → State → Prop := va_Qv (fun (_ : Unit) => True) (rwB g w1 A) A
theorem roP_blind (g : En) (w : va_W) (av : List Value) : FrameBlind (roP g w av) := fun a U f mk q => ⟨q.1, q.2.1, va_K.moved (u := U) (U := U.calling f mk a) (Vm.Alike.refl U.vm) q.2.2⟩
theorem rwP_blind (g : En) (w : va_W) (sz : Nat) (av : List Value) : FrameBlind (rwP g w sz av) := fun a U f mk q => ⟨q.1, q.2.1, q.2.2.1, va_K.moved (u := U) (U := U.calling f mk a) (Vm.Alike.refl U.vm) q.2.2.2.1, q.2.2.2.2⟩
/-- the frame's own facts: of a static method, of one that reads, of one that writes -/
def cxs (cc : ByteArray) (nL : Nat) (ret : Option FieldType) (Ts : List Cond) (own : String) (p : Program) (s : State) (m : MethodId) (args : Array Value) (meth : Method) (c : Code) : Prop :=
  p.tables.exec = Jvm.exec ∧ c.code = cc ∧ meth.sig.returnType = ret ∧ c.maxLocals = nL ∧ s.vm.findClass own = some m.cls ∧ (∀ w ∈ Ts, w.before args s = true) ∧ meth.locks = false
def cxr (g : En) (w : va_W) (cc : ByteArray) (nL : Nat) (ret : Option FieldType) (Ts : List Cond) (own : String) (p : Program) (s : State) (m : MethodId) (args : Array Value) (meth : Method) (c : Code) : Prop :=
  cxs cc nL ret Ts own p s m args meth c ∧ va_K g.1 vwCl (tyl g) s ∧ va_P g.1 vwCl w s.heap
def cxw (g : En) (A : Nat → Prop) (cc : ByteArray) (nL : Nat) (ret : Option FieldType) (Ts : List Cond) (own : String) (p : Program) (s : State) (m : MethodId) (args : Array Value) (meth : Method) (c : Code) : Prop :=
  cxs cc nL ret Ts own p s m args meth c ∧ va_K g.1 vwCl (tyl g) s ∧ ∀ q, s.heap.size ≤ q → A q
section
variable {p : Program} {l : Launch} {e : Env} {R : Room} {s : State} {m : MethodId} {args : Array Value} {below : List Frame} {meth : Method} {c : Code} {H : Heap} {locs : List Loc} {cells slots : Nat} {Q : State → Prop} {cc bytes : ByteArray} {nL maxL n index pc : Nat} {Ts ws : List Cond} {own C : String} {y : MethodName} {ret : Option FieldType} {rm : Room} {As rest st0 : List Value} {b : Nat} {ls : Array Slot}
theorem ksI {r : Int32} (S : CallFix p m c cc nL s args Ts own) (hM : Met l y ws rm (va_Pc As (fun _ => True)) (vp_Si (fun x => x = r)) 0 0 (fun _ => False)) (cw : CallB R s args own index y bytes maxL ret ws rm 0 0 n ∧ (Cond.static y).before args s = true) (hn : As.length = n) (hsz : ls.size = nL) (hst : st0 = As.reverse ++ rest) (hW : (rest.map fun v => v.category).sum ≤ 8) (hdg : decode cc pc = .ok (.invokestatic index, 3)) (hf : cells ≤ R.cells ∧ slots ≤ R.slots)
    (kk : W p l e R s m args below meth c H locs cells slots Q (F0 m (pc + 3) ls (.int r :: rest))) : W p l e R s m args below meth c H locs cells slots Q (F0 m pc ls st0) :=
  vp_callSi (W.runS (g := F0 m pc ls st0) (rest := rest) S hM cw ⟨fun _ _ _ _ q => q, fun _ _ _ => ⟨rfl, trivial⟩⟩ rfl hn hsz hst (lv_room hW) hdg ⟨hf.1, hf.2⟩) (fun _ hx => by subst hx; exact kk)
theorem ksL {r : Int64} (S : CallFix p m c cc nL s args Ts own) (hM : Met l y ws rm (va_Pc As (fun _ => True)) (vp_Sl (fun x => x = r)) 0 0 (fun _ => False)) (cw : CallB R s args own index y bytes maxL ret ws rm 0 0 n ∧ (Cond.static y).before args s = true) (hn : As.length = n) (hsz : ls.size = nL) (hst : st0 = As.reverse ++ rest) (hW : (rest.map fun v => v.category).sum ≤ 8) (hdg : decode cc pc = .ok (.invokestatic index, 3)) (hf : cells ≤ R.cells ∧ slots ≤ R.slots)
    (kk : W p l e R s m args below meth c H locs cells slots Q (F0 m (pc + 3) ls (.long r :: rest))) : W p l e R s m args below meth c H locs cells slots Q (F0 m pc ls st0) :=
  vp_callSl (W.runS (g := F0 m pc ls st0) (rest := rest) S hM cw ⟨fun _ _ _ _ q => q, fun _ _ _ => ⟨rfl, trivial⟩⟩ rfl hn hsz hst (lv_room hW) hdg ⟨hf.1, hf.2⟩) (fun _ hx => by subst hx; exact kk)
theorem krI {g : En} {wc : va_W} {r : Int32} {ci : Nat} {Tc : u_T} {Nc : Nat} {fs : List Value} (S : CallFix p m c cc nL s args Ts own) (hM : Met l y ws rm (roP g wc (.ref b :: As)) (vp_Si (fun x => x = r)) 0 0 (fun _ => False)) (cw : CallW R s args own C index y bytes maxL ret ws rm 0 0 n) (hK : va_K g.1 vwCl (tyl g) s) (hP : va_P g.1 vwCl wc H) (hc : vwCl[ci]? = some (C, Tc, Nc)) (he : wc[0]? = some (b, .inr (ci, fs))) (hn : As.length = n) (hsz : ls.size = nL) (hst : st0 = As.reverse ++ .ref b :: rest) (hW : (rest.map fun v => v.category).sum ≤ 8) (hdg : decode cc pc = .ok (.invokevirtual index, 3)) (hf : cells ≤ R.cells ∧ slots ≤ R.slots)
    (kk : W p l e R s m args below meth c H locs cells slots Q (F0 m (pc + 3) ls (.int r :: rest))) : W p l e R s m args below meth c H locs cells slots Q (F0 m pc ls st0) :=
  vp_callSi (W.runV (g := F0 m pc ls st0) (rest := rest) S hM cw ⟨roP_blind _ _ _, va_recv hK hP hc he, fun U hU hWm => ⟨rfl, by rw [hU]; exact hP, va_K.moved hWm.alike hK⟩⟩ rfl hn hsz hst (lv_room hW) hdg ⟨hf.1, hf.2⟩) (fun _ hx => by subst hx; exact kk)
theorem krL {g : En} {wc : va_W} {r : Int64} {ci : Nat} {Tc : u_T} {Nc : Nat} {fs : List Value} (S : CallFix p m c cc nL s args Ts own) (hM : Met l y ws rm (roP g wc (.ref b :: As)) (vp_Sl (fun x => x = r)) 0 0 (fun _ => False)) (cw : CallW R s args own C index y bytes maxL ret ws rm 0 0 n) (hK : va_K g.1 vwCl (tyl g) s) (hP : va_P g.1 vwCl wc H) (hc : vwCl[ci]? = some (C, Tc, Nc)) (he : wc[0]? = some (b, .inr (ci, fs))) (hn : As.length = n) (hsz : ls.size = nL) (hst : st0 = As.reverse ++ .ref b :: rest) (hW : (rest.map fun v => v.category).sum ≤ 8) (hdg : decode cc pc = .ok (.invokevirtual index, 3)) (hf : cells ≤ R.cells ∧ slots ≤ R.slots)
    (kk : W p l e R s m args below meth c H locs cells slots Q (F0 m (pc + 3) ls (.long r :: rest))) : W p l e R s m args below meth c H locs cells slots Q (F0 m pc ls st0) :=
  vp_callSl (W.runV (g := F0 m pc ls st0) (rest := rest) S hM cw ⟨roP_blind _ _ _, va_recv hK hP hc he, fun U hU hWm => ⟨rfl, by rw [hU]; exact hP, va_K.moved hWm.alike hK⟩⟩ rfl hn hsz hst (lv_room hW) hdg ⟨hf.1, hf.2⟩) (fun _ hx => by subst hx; exact kk)
/-- what a call that writes leaves: the callee's cells anew, the rest as it was -/
theorem kwJ {g : En} {A : Nat → Prop} {W0 wc wr w1 W1 : va_W} {H1 : Heap} {H0 : Heap} (hP : va_P g.1 vwCl W0 H) (hD : va_D A W0) (hS : va_S A H0 H locs) (hA : ∀ q, H0.size ≤ q → A q) (isC isR isP : List Nat) (hC : isC.map (fun i => W0[i]?) = wc.map some) (hR : isR.map (fun i => W0[i]?) = wr.map some) (hn : va_nd isR = true) (hdis : ∀ i ∈ isR, i ∉ isC) (hp1 : isP.filterMap (fun i => (wr ++ w1)[i]?) = W1) (hp2 : va_nd isP = true) (hp3 : isP.map (fun i => (wr ++ w1)[i]?) = W1.map some)
    (hk : ∀ q : Nat, q < H.size → ¬ va_A wc H.size q → H1[q]? = H[q]?) (hP1 : va_P g.1 vwCl w1 H1) (hD1 : va_D (va_A wc H.size) w1) : va_P g.1 vwCl W1 H1 ∧ va_D A W1 := by
  obtain ⟨a, d⟩ := va_join (wr := wr) (w1 := w1) hP hD isC isR hC hR hn hdis hk (va_free (wc := wc) hD hS hA isC hC) hP1 hD1
  exact ⟨a.sub isP hp1, d.sub isP hp2 hp3⟩
theorem kwI {g : En} {A : Nat → Prop} {W0 wc wr w1 W1 : va_W} {r : Int32} {ci : Nat} {Tc : u_T} {Nc : Nat} {fs : List Value} (S : CallFix p m c cc nL s args Ts own) (hK : va_K g.1 vwCl (tyl g) s) (hA : ∀ q, s.heap.size ≤ q → A q) (hP : va_P g.1 vwCl W0 H) (hD : va_D A W0) (hS : va_S A s.heap H locs) (hM : Met l y ws rm (rwP g wc H.size (.ref b :: As)) (rwQi g w1 (va_A wc H.size) r) 0 0 (va_A wc H.size)) (cw : CallW R s args own C index y bytes maxL ret ws rm 0 0 n) (isC isR isP : List Nat) (hC0 : isC.filterMap (fun i => W0[i]?) = wc) (hnC : va_nd isC = true) (hC : isC.map (fun i => W0[i]?) = wc.map some) (hR : isR.map (fun i => W0[i]?) = wr.map some) (hnR : va_nd isR = true) (hdis : ∀ i ∈ isR, i ∉ isC) (hp1 : isP.filterMap (fun i => (wr ++ w1)[i]?) = W1) (hp2 : va_nd isP = true) (hp3 : isP.map (fun i => (wr ++ w1)[i]?) = W1.map some) (hc : vwCl[ci]? = some (C, Tc, Nc)) (he : wc[0]? = some (b, .inr (ci, fs))) (hn : As.length = n) (hsz : ls.size = nL) (hst : st0 = As.reverse ++ .ref b :: rest) (hW : (rest.map fun v => v.category).sum ≤ 8) (hdg : decode cc pc = .ok (.invokevirtual index, 3)) (hf : cells ≤ R.cells ∧ slots ≤ R.slots)
    (kk : ∀ (H1 : Heap) (locs1 : List Loc), va_P g.1 vwCl W1 H1 → va_D A W1 → va_S A s.heap H1 locs1 → W p l e R s m args below meth c H1 locs1 cells slots Q (F0 m (pc + 3) ls (.int r :: rest))) : W p l e R s m args below meth c H locs cells slots Q (F0 m pc ls st0) := by
  have hPc := hP.sub isC hC0
  have hDc := hD.sub isC hnC hC
  have hFc := va_free (wc := wc) hD hS hA isC hC
  refine va_calli (va_runV (g := F0 m pc ls st0) (rest := rest) S hM cw ⟨rwP_blind _ _ _ _, va_recv hK hPc hc he, fun U hU hWm => ⟨rfl, by rw [hU], by rw [hU]; exact hPc, va_K.moved hWm.alike hK, hDc.weaken (fun _ _ _ _ => trivial)⟩⟩ rfl hn hsz hst (lv_room hW) hdg ⟨hf.1, hf.2⟩) hS (fun q _ h => hFc q h) hFc (fun x u t H1 locs1 ht hvm hw hB hz1 hk1 hS1 => ?_)
  subst hw
  obtain ⟨hP1, -, hD1⟩ := hB
  rw [ht] at hP1
  obtain ⟨a, d⟩ := kwJ hP hD hS hA isC isR isP hC hR hnR hdis hp1 hp2 hp3 hk1 hP1 hD1
  exact kk H1 locs1 a d hS1
theorem kwV {g : En} {A : Nat → Prop} {W0 wc wr w1 W1 : va_W} {ci : Nat} {Tc : u_T} {Nc : Nat} {fs : List Value} (S : CallFix p m c cc nL s args Ts own) (hK : va_K g.1 vwCl (tyl g) s) (hA : ∀ q, s.heap.size ≤ q → A q) (hP : va_P g.1 vwCl W0 H) (hD : va_D A W0) (hS : va_S A s.heap H locs) (hM : Met l y ws rm (rwP g wc H.size (.ref b :: As)) (rwQv g w1 (va_A wc H.size)) 0 0 (va_A wc H.size)) (cw : CallW R s args own C index y bytes maxL ret ws rm 0 0 n) (isC isR isP : List Nat) (hC0 : isC.filterMap (fun i => W0[i]?) = wc) (hnC : va_nd isC = true) (hC : isC.map (fun i => W0[i]?) = wc.map some) (hR : isR.map (fun i => W0[i]?) = wr.map some) (hnR : va_nd isR = true) (hdis : ∀ i ∈ isR, i ∉ isC) (hp1 : isP.filterMap (fun i => (wr ++ w1)[i]?) = W1) (hp2 : va_nd isP = true) (hp3 : isP.map (fun i => (wr ++ w1)[i]?) = W1.map some) (hc : vwCl[ci]? = some (C, Tc, Nc)) (he : wc[0]? = some (b, .inr (ci, fs))) (hn : As.length = n) (hsz : ls.size = nL) (hst : st0 = As.reverse ++ .ref b :: rest) (hW : (rest.map fun v => v.category).sum ≤ 8) (hdg : decode cc pc = .ok (.invokevirtual index, 3)) (hf : cells ≤ R.cells ∧ slots ≤ R.slots)
    (kk : ∀ (H1 : Heap) (locs1 : List Loc), va_P g.1 vwCl W1 H1 → va_D A W1 → va_S A s.heap H1 locs1 → W p l e R s m args below meth c H1 locs1 cells slots Q (F0 m (pc + 3) ls rest)) : W p l e R s m args below meth c H locs cells slots Q (F0 m pc ls st0) := by
  have hPc := hP.sub isC hC0
  have hDc := hD.sub isC hnC hC
  have hFc := va_free (wc := wc) hD hS hA isC hC
  refine va_callv (va_runV (g := F0 m pc ls st0) (rest := rest) S hM cw ⟨rwP_blind _ _ _ _, va_recv hK hPc hc he, fun U hU hWm => ⟨rfl, by rw [hU], by rw [hU]; exact hPc, va_K.moved hWm.alike hK, hDc.weaken (fun _ _ _ _ => trivial)⟩⟩ rfl hn hsz hst (lv_room hW) hdg ⟨hf.1, hf.2⟩) hS (fun q _ h => hFc q h) hFc (fun u t H1 locs1 ht hvm hw hB hz1 hk1 hS1 => ?_)
  obtain ⟨hP1, -, hD1⟩ := hB
  rw [ht] at hP1
  obtain ⟨a, d⟩ := kwJ hP hD hS hA isC isR isP hC hR hnR hdis hp1 hp2 hp3 hk1 hP1 hD1
  exact kk H1 locs1 a d hS1
/-- the same where the callee's cells are all the cells -/
theorem kuJ {g : En} {A : Nat → Prop} {W0 w1 : va_W} {H1 : Heap} {H0 : Heap} (hP : va_P g.1 vwCl W0 H) (hD : va_D A W0) (hS : va_S A H0 H locs) (hA : ∀ q, H0.size ≤ q → A q) (hP1 : va_P g.1 vwCl w1 H1) (hD1 : va_D (va_A W0 H.size) w1) : va_D A w1 := by
  refine hD1.weaken (fun k q hk h => ?_)
  rcases h with ⟨j, e, hj⟩ | h
  · exact hD.2 j (q.1, e) hj
  · exact hA _ (Nat.le_trans hS.1 h)
theorem kuI {g : En} {A : Nat → Prop} {W0 w1 : va_W} {r : Int32} {ci : Nat} {Tc : u_T} {Nc : Nat} {fs : List Value} (S : CallFix p m c cc nL s args Ts own) (hK : va_K g.1 vwCl (tyl g) s) (hA : ∀ q, s.heap.size ≤ q → A q) (hP : va_P g.1 vwCl W0 H) (hD : va_D A W0) (hS : va_S A s.heap H locs) (hM : Met l y ws rm (rwP g W0 H.size (.ref b :: As)) (rwQi g w1 (va_A W0 H.size) r) 0 0 (va_A W0 H.size)) (cw : CallW R s args own C index y bytes maxL ret ws rm 0 0 n) (hc : vwCl[ci]? = some (C, Tc, Nc)) (he : W0[0]? = some (b, .inr (ci, fs))) (hn : As.length = n) (hsz : ls.size = nL) (hst : st0 = As.reverse ++ .ref b :: rest) (hW : (rest.map fun v => v.category).sum ≤ 8) (hdg : decode cc pc = .ok (.invokevirtual index, 3)) (hf : cells ≤ R.cells ∧ slots ≤ R.slots)
    (kk : ∀ (H1 : Heap) (locs1 : List Loc), va_P g.1 vwCl w1 H1 → va_D A w1 → va_S A s.heap H1 locs1 → W p l e R s m args below meth c H1 locs1 cells slots Q (F0 m (pc + 3) ls (.int r :: rest))) : W p l e R s m args below meth c H locs cells slots Q (F0 m pc ls st0) := by
  have hFc : ∀ q, va_A W0 H.size q → A q := fun q h => by
    rcases h with ⟨j, e, hj⟩ | h
    · exact hD.2 j _ hj
    · exact hA _ (Nat.le_trans hS.1 h)
  refine va_calli (va_runV (g := F0 m pc ls st0) (rest := rest) S hM cw ⟨rwP_blind _ _ _ _, va_recv hK hP hc he, fun U hU hWm => ⟨rfl, by rw [hU], by rw [hU]; exact hP, va_K.moved hWm.alike hK, hD.weaken (fun _ _ _ _ => trivial)⟩⟩ rfl hn hsz hst (lv_room hW) hdg ⟨hf.1, hf.2⟩) hS (fun q _ h => hFc q h) hFc (fun x u t H1 locs1 ht hvm hw hB hz1 hk1 hS1 => ?_)
  subst hw
  obtain ⟨hP1, -, hD1⟩ := hB
  rw [ht] at hP1
  exact kk H1 locs1 hP1 (kuJ hP hD hS hA hP1 hD1) hS1
theorem kuV {g : En} {A : Nat → Prop} {W0 w1 : va_W} {ci : Nat} {Tc : u_T} {Nc : Nat} {fs : List Value} (S : CallFix p m c cc nL s args Ts own) (hK : va_K g.1 vwCl (tyl g) s) (hA : ∀ q, s.heap.size ≤ q → A q) (hP : va_P g.1 vwCl W0 H) (hD : va_D A W0) (hS : va_S A s.heap H locs) (hM : Met l y ws rm (rwP g W0 H.size (.ref b :: As)) (rwQv g w1 (va_A W0 H.size)) 0 0 (va_A W0 H.size)) (cw : CallW R s args own C index y bytes maxL ret ws rm 0 0 n) (hc : vwCl[ci]? = some (C, Tc, Nc)) (he : W0[0]? = some (b, .inr (ci, fs))) (hn : As.length = n) (hsz : ls.size = nL) (hst : st0 = As.reverse ++ .ref b :: rest) (hW : (rest.map fun v => v.category).sum ≤ 8) (hdg : decode cc pc = .ok (.invokevirtual index, 3)) (hf : cells ≤ R.cells ∧ slots ≤ R.slots)
    (kk : ∀ (H1 : Heap) (locs1 : List Loc), va_P g.1 vwCl w1 H1 → va_D A w1 → va_S A s.heap H1 locs1 → W p l e R s m args below meth c H1 locs1 cells slots Q (F0 m (pc + 3) ls rest)) : W p l e R s m args below meth c H locs cells slots Q (F0 m pc ls st0) := by
  have hFc : ∀ q, va_A W0 H.size q → A q := fun q h => by
    rcases h with ⟨j, e, hj⟩ | h
    · exact hD.2 j _ hj
    · exact hA _ (Nat.le_trans hS.1 h)
  refine va_callv (va_runV (g := F0 m pc ls st0) (rest := rest) S hM cw ⟨rwP_blind _ _ _ _, va_recv hK hP hc he, fun U hU hWm => ⟨rfl, by rw [hU], by rw [hU]; exact hP, va_K.moved hWm.alike hK, hD.weaken (fun _ _ _ _ => trivial)⟩⟩ rfl hn hsz hst (lv_room hW) hdg ⟨hf.1, hf.2⟩) hS (fun q _ h => hFc q h) hFc (fun u t H1 locs1 ht hvm hw hB hz1 hk1 hS1 => ?_)
  obtain ⟨hP1, -, hD1⟩ := hB
  rw [ht] at hP1
  exact kk H1 locs1 hP1 (kuJ hP hD hS hA hP1 hD1) hS1
end
