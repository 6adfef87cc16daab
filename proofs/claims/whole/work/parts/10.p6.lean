theorem q_X6_make_0 : (.fieldLink RX6 15 "PictureCourt$Rows" "bytes" "[B" : Cond) ∈ wsX6_make := by decide +kernel
theorem q_X6_make_1 : (.fieldLink RX6 9 "PictureCourt$Rows" "sizes" "[I" : Cond) ∈ wsX6_make := by decide +kernel
theorem h_X6_make : yX6_make.cls = RX6 ∧ yX6_make.cls ≠ "java/lang/invoke/MethodHandle" ∧ yX6_make.cls ≠ "java/lang/invoke/VarHandle" ∧ (parseMethodDescriptor yX6_make.desc).map (fun d => d.parameters.length) = some 2 := by decide +kernel
set_option maxHeartbeats 4000000 in
set_option maxRecDepth 100000 in
theorem w_X6_make_9_b {p : Program} {l : Launch} {e : Env} {s : State} {m : MethodId} {args : Array Value} {below : List Frame} {meth : Method} {c : Code} {g : En} {A : Nat → Prop} {N : Nat} {res : St} (C : cxw g A cX6_make 4 none wsX6_make RX6 p s m args meth c) (k9 : St → Int32 → Int32 → Int32 → Option (St)) (H9 : ∀ (H : Heap) (locs : List Loc) (S6 : St) (ls : Array Slot) (x1 : Int32) (x2 : Int32) (x3 : Int32), va_P g.1 vwCl (wd_6 g S6) H → va_D A (wd_6 g S6) → va_S A s.heap H locs → lv_has ls 4 [(0, .ref (g.2.2.1 6)), (1, .int x1), (2, .int x2), (3, .int x3)] → k9 S6 x1 x2 x3 = some res → W p l e (headSpec wsX6_make { frames := 0, cells := 0, slots := 0, locals := 0 }).room s m args below meth c H locs 0 0 (MQ below (rwQv g (wd_6 g res) A) args s 0 0 A) (F0 m 9 ls [])) : ∀ (H : Heap) (locs : List Loc) (S6 : St) (ls : Array Slot) (x1 : Int32) (x2 : Int32) (x3 : Int32), va_P g.1 vwCl (wd_6 g S6) H → va_D A (wd_6 g S6) → va_S A s.heap H locs → lv_has ls 4 [(0, .ref (g.2.2.1 6)), (1, .int x1), (2, .int x2), (3, .int x3)] → f_X6_make_9_b N   k9 S6 x1 x2 x3 = some res → W p l e (headSpec wsX6_make { frames := 0, cells := 0, slots := 0, locals := 0 }).room s m args below meth c H locs 0 0 (MQ below (rwQv g (wd_6 g res) A) args s 0 0 A) (F0 m 9 ls []) := by
  intro H locs S6 ls x1 x2 x3 hP hD hS hl hf
  obtain ⟨⟨hx, hb, hr, hml, hown, hts, hlk⟩, hK, hA⟩ := id C
  unfold f_X6_make_9_b at hf
  refine lv_iload_n (pc := 9) hx hb dX6_make_9 rfl (lv_at hl 3 rfl) ?_
  refine lv_iload_n (pc := 10) hx hb dX6_make_10 rfl (lv_at hl 2 rfl) ?_
  refine lv_icmp_ge (tgt := 32) (pc := 11) hx hb dX6_make_11 (by decide) (fun c11 => ?_) (fun c11 => ?_)
  · have hf := ft hf c11
    have hf := Option.some.inj hf
    subst hf
    exact W.vret hx hb hr (fun t ht hW => ⟨⟨(), rfl, trivial, by rw [ht]; exact hP, va_K.moved hW.alike hK, hD⟩, hS.F ht⟩) hS.2.2 dX6_make_32
  · have hf := ff hf c11
    refine lv_aload_n (pc := 14) hx hb dX6_make_14 rfl (lv_at hl 0 rfl) ?_
    refine va_get (D := g.1) (ci := 6) (v := .ref (g.2.2.2 6 1)) (C := RX6) (T := TX6) (N := 2) (pc := 15) hx hb hts (fun _ h => List.mem_cons_of_mem _ (List.mem_append_right _ h)) hown hK hP 0 rfl rfl 1 (by decide) (hts _ q_X6_make_0) (fun _ h9 => h9) rfl dX6_make_15 ?_
    refine lv_iload_n (pc := 18) hx hb dX6_make_18 rfl (lv_at hl 1 rfl) ?_
    refine lv_bipush (v := 40) (pc := 19) hx hb dX6_make_19 (by decide) ?_
    refine lv_imul (pc := 21) hx hb dX6_make_21 ?_
    refine lv_iload_n (pc := 22) hx hb dX6_make_22 rfl (lv_at hl 3 rfl) ?_
    refine lv_iadd (pc := 23) hx hb dX6_make_23 ?_
    refine lv_iconst (v := 0) (pc := 24) hx hb dX6_make_24 (by decide) ?_
    refine lv_topi (fun v25 ev25 => ?_)
    obtain ⟨b25, hf⟩ := gdE hf
    refine va_bast (D := g.1) (tys := tyl g) (f := (S6.2.2 1)) (pc := 25) hx hb hK hP hD hS 2 1 rfl rfl (inbV b25) dX6_make_25 (fun H locs hP hD hS => ?_)
    have hP := u_6_6_1P S6 (upd (S6.2.2 1) (Int32.toNatClampNeg ((x1 * 40) + x3)) (vp_nar .byte v25)) hP
    have hD := u_6_6_1D S6 (upd (S6.2.2 1) (Int32.toNatClampNeg ((x1 * 40) + x3)) (vp_nar .byte v25)) hD
    subst ev25
    refine lv_iinc (v := (x3 + 1)) (lv' := [(3, .int (x3 + 1)), (0, .ref (g.2.2.1 6)), (1, .int x1), (2, .int x2)]) (pc := 26) hx hb dX6_make_26 hl (k := 3) rfl rfl (by decide) rfl (fun ls hl => ?_)
    refine lv_goto (tgt := 9) (pc := 29) hx hb dX6_make_29 (by decide) ?_
    exact H9 H locs (sA S6 1 (upd (S6.2.2 1) (Int32.toNatClampNeg ((x1 * 40) + x3)) (vp_nar .byte 0))) ls x1 x2 (x3 + 1) hP hD hS (lv_sub hl [1, 2, 3, 0] rfl) hf
set_option maxHeartbeats 4000000 in
set_option maxRecDepth 100000 in
theorem w_X6_make_9 {p : Program} {l : Launch} {e : Env} {s : State} {m : MethodId} {args : Array Value} {below : List Frame} {meth : Method} {c : Code} {g : En} {A : Nat → Prop} {N : Nat} {res : St} (C : cxw g A cX6_make 4 none wsX6_make RX6 p s m args meth c) : ∀ (n : Nat), ∀ (H : Heap) (locs : List Loc) (S6 : St) (ls : Array Slot) (x1 : Int32) (x2 : Int32) (x3 : Int32), va_P g.1 vwCl (wd_6 g S6) H → va_D A (wd_6 g S6) → va_S A s.heap H locs → lv_has ls 4 [(0, .ref (g.2.2.1 6)), (1, .int x1), (2, .int x2), (3, .int x3)] → f_X6_make_9 N   n S6 x1 x2 x3 = some res → W p l e (headSpec wsX6_make { frames := 0, cells := 0, slots := 0, locals := 0 }).room s m args below meth c H locs 0 0 (MQ below (rwQv g (wd_6 g res) A) args s 0 0 A) (F0 m 9 ls []) := by
  intro n
  induction n with
  | zero =>
    intro H locs S6 ls x1 x2 x3 hP hD hS hl hf
    have hf : (none : Option (St)) = some res := hf
    cases hf
  | succ n ih =>
    intro H locs S6 ls x1 x2 x3 hP hD hS hl hf
    exact w_X6_make_9_b C  (fun y0 y1 y2 y3 => f_X6_make_9 N   n y0 y1 y2 y3) ih H locs S6 ls x1 x2 x3 hP hD hS hl hf
set_option maxHeartbeats 4000000 in
set_option maxRecDepth 100000 in
theorem c_X6_make (l : Launch) (g : En) (N : Nat) (sz : Nat) (S6 : St) (x1 : Int32) (x2 : Int32) (res : St) (hf : f_X6_make N S6 x1 x2 = some res) : Met l yX6_make wsX6_make { frames := 0, cells := 0, slots := 0, locals := 0 } (rwP g (wd_6 g S6) sz [.ref (g.2.2.1 6), .int x1, .int x2]) (rwQv g (wd_6 g res) (va_A (wd_6 g S6) sz)) 0 0 (va_A (wd_6 g S6) sz) := by
  refine Met.ofW (cc := cX6_make) (maxL := 4) (ret := none) (by decide) rfl ?_
  intro p e s m args below meth c s₁ B hml hv
  obtain ⟨rfl, hsz, hP, hK, hD0⟩ := hv
  have hx := B.exec
  have hb := B.bytes
  have hr := B.returns
  have hts := atoms_spec (ws := wsX6_make) B.pre
  have hown : s.vm.findClass RX6 = some m.cls := findClass_of_methodNamed B.named
  have hlk := B.notSynchronized
  subst hsz
  have hD := hD0.self (sz := s.heap.size)
  generalize hAe : va_A (wd_6 g S6) s.heap.size = A at hD ⊢
  have hA : ∀ q : Nat, s.heap.size ≤ q → A q := fun q h => by rw [← hAe]; exact Or.inr h
  have hS : va_S A s.heap s.heap [] := va_S.rf
  have C : cxw g A cX6_make 4 none wsX6_make RX6 p s m ([.ref (g.2.2.1 6), .int x1, .int x2] : List Value).toArray meth c := ⟨⟨hx, hb, hr, hml, hown, hts, hlk⟩, hK, hA⟩
  have hl := lv_entry [.ref (g.2.2.1 6), .int x1, .int x2] (n := 4) (Nat.le_of_ble_eq_true rfl)
  rw [lg_entry_eq]
  generalize (lg_sl [.ref (g.2.2.1 6), .int x1, .int x2] ++ List.replicate (4 - (lg_sl [.ref (g.2.2.1 6), .int x1, .int x2]).length) Slot.unset).toArray = ls at hl ⊢
  have hl : lv_has ls 4 [(0, .ref (g.2.2.1 6)), (1, .int x1), (2, .int x2)] := hl
  unfold f_X6_make at hf
  suffices K9 : ∀ (H : Heap) (locs : List Loc), va_P g.1 vwCl (wd_6 g S6) H → va_D A (wd_6 g S6) → va_S A s.heap H locs → (if inb x1 6 = true then (f_X6_make_9 N   N (sA S6 0 (upd (S6.2.2 0) (Int32.toNatClampNeg x1) x2)) x1 x2 0) else none) = some res → W p l e (headSpec wsX6_make { frames := 0, cells := 0, slots := 0, locals := 0 }).room s m ([.ref (g.2.2.1 6), .int x1, .int x2] : List Value).toArray below meth c H locs 0 0 (MQ below (rwQv g (wd_6 g res) A) ([.ref (g.2.2.1 6), .int x1, .int x2] : List Value).toArray s 0 0 A) (F0 m 0 ls []) from K9 s.heap [] hP hD hS hf
  clear hP hD hS hf
  intro H locs hP hD hS hf
  refine lv_aload_n (pc := 0) hx hb dX6_make_0 rfl (lv_at hl 0 rfl) ?_
  refine va_get (D := g.1) (ci := 6) (v := .ref (g.2.2.2 6 0)) (C := RX6) (T := TX6) (N := 2) (pc := 1) hx hb hts (fun _ h => List.mem_cons_of_mem _ (List.mem_append_right _ h)) hown hK hP 0 rfl rfl 0 (by decide) (hts _ q_X6_make_1) (fun _ h9 => h9) rfl dX6_make_1 ?_
  refine lv_iload_n (pc := 4) hx hb dX6_make_4 rfl (lv_at hl 1 rfl) ?_
  refine lv_iload_n (pc := 5) hx hb dX6_make_5 rfl (lv_at hl 2 rfl) ?_
  obtain ⟨b6, hf⟩ := gdE hf
  refine va_iast (D := g.1) (tys := tyl g) (f := (S6.2.2 0)) (pc := 6) hx hb hK hP hD hS 1 0 rfl rfl (inbV b6) dX6_make_6 (fun H locs hP hD hS => ?_)
  have hP := u_6_6_0P S6 (upd (S6.2.2 0) (Int32.toNatClampNeg x1) x2) hP
  have hD := u_6_6_0D S6 (upd (S6.2.2 0) (Int32.toNatClampNeg x1) x2) hD
  refine lv_iconst (v := 0) (pc := 7) hx hb dX6_make_7 (by decide) ?_
  refine lv_istore_n (lv' := [(3, .int 0), (0, .ref (g.2.2.1 6)), (1, .int x1), (2, .int x2)]) (pc := 8) hx hb dX6_make_8 rfl hl (by decide) rfl (fun ls hl => ?_)
  exact w_X6_make_9 C  N H locs (sA S6 0 (upd (S6.2.2 0) (Int32.toNatClampNeg x1) x2)) ls x1 x2 0 hP hD hS (lv_sub hl [1, 2, 3, 0] rfl) hf
theorem q_X6_isMissing_0 : (.fieldLink RX6 9 "PictureCourt$Rows" "sizes" "[I" : Cond) ∈ wsX6_isMissing := by decide +kernel
theorem h_X6_isMissing : yX6_isMissing.cls = RX6 ∧ yX6_isMissing.cls ≠ "java/lang/invoke/MethodHandle" ∧ yX6_isMissing.cls ≠ "java/lang/invoke/VarHandle" ∧ (parseMethodDescriptor yX6_isMissing.desc).map (fun d => d.parameters.length) = some 1 := by decide +kernel
set_option maxHeartbeats 4000000 in
set_option maxRecDepth 100000 in
theorem c_X6_isMissing (l : Launch) (g : En) (N : Nat) (S6 : St) (x1 : Int32) (res : Int32) (hf : f_X6_isMissing N S6 x1 = some res) : Met l yX6_isMissing wsX6_isMissing { frames := 0, cells := 0, slots := 0, locals := 0 } (roP g (wd_6 g S6) [.ref (g.2.2.1 6), .int x1]) (vp_Si (fun r => r = res)) 0 0 (fun _ => False) := by
  refine Met.ofW (cc := cX6_isMissing) (maxL := 2) (ret := (some .boolean)) (by decide) rfl ?_
  intro p e s m args below meth c s₁ B hml hv
  obtain ⟨rfl, hP, hK⟩ := hv
  have hx := B.exec
  have hb := B.bytes
  have hr := B.returns
  have hts := atoms_spec (ws := wsX6_isMissing) B.pre
  have hown : s.vm.findClass RX6 = some m.cls := findClass_of_methodNamed B.named
  have hlk := B.notSynchronized
  have C : cxr g (wd_6 g S6) cX6_isMissing 2 (some .boolean) wsX6_isMissing RX6 p s m ([.ref (g.2.2.1 6), .int x1] : List Value).toArray meth c := ⟨⟨hx, hb, hr, hml, hown, hts, hlk⟩, hK, hP⟩
  have hl := lv_entry [.ref (g.2.2.1 6), .int x1] (n := 2) (Nat.le_of_ble_eq_true rfl)
  rw [lg_entry_eq]
  generalize (lg_sl [.ref (g.2.2.1 6), .int x1] ++ List.replicate (2 - (lg_sl [.ref (g.2.2.1 6), .int x1]).length) Slot.unset).toArray = ls at hl ⊢
  have hl : lv_has ls 2 [(0, .ref (g.2.2.1 6)), (1, .int x1)] := hl
  unfold f_X6_isMissing at hf
  refine lv_aload_n (pc := 0) hx hb dX6_isMissing_0 rfl (lv_at hl 0 rfl) ?_
  refine va_get (D := g.1) (ci := 6) (v := .ref (g.2.2.2 6 0)) (C := RX6) (T := TX6) (N := 2) (pc := 1) hx hb hts (fun _ h => List.mem_cons_of_mem _ (List.mem_append_right _ h)) hown hK hP 0 rfl rfl 0 (by decide) (hts _ q_X6_isMissing_0) (fun _ h9 => h9) rfl dX6_isMissing_1 ?_
  refine lv_iload_n (pc := 4) hx hb dX6_isMissing_4 rfl (lv_at hl 1 rfl) ?_
  obtain ⟨b5, hf⟩ := gdE hf
  refine va_iald (D := g.1) (tys := tyl g) (f := (S6.2.2 0)) (pc := 5) hx hb hK hP 1 0 rfl rfl (inbV b5) dX6_isMissing_5 ?_
  refine lv_iconst (v := (-1)) (pc := 6) hx hb dX6_isMissing_6 (by decide) ?_
  refine lv_icmp_ne (tgt := 14) (pc := 7) hx hb dX6_isMissing_7 (by decide) (fun c7 => ?_) (fun c7 => ?_)
  · have hf := ff hf c7
    refine lv_iconst (v := 0) (pc := 14) hx hb dX6_isMissing_14 (by decide) ?_
    have hf := Option.some.inj hf
    subst hf
    exact W.zret (v := 0) hx hb hr rfl (fun t ht hW => ⟨_, rfl, rfl, ht⟩) (fun _ h => by cases h) dX6_isMissing_15
  · have hf := ft hf c7
    refine lv_iconst (v := 1) (pc := 10) hx hb dX6_isMissing_10 (by decide) ?_
    refine lv_goto (tgt := 15) (pc := 11) hx hb dX6_isMissing_11 (by decide) ?_
    have hf := Option.some.inj hf
    subst hf
    exact W.zret (v := 1) hx hb hr rfl (fun t ht hW => ⟨_, rfl, rfl, ht⟩) (fun _ h => by cases h) dX6_isMissing_15
theorem q_X6_hasRun_0 : (.fieldLink RX6 9 "PictureCourt$Rows" "sizes" "[I" : Cond) ∈ wsX6_hasRun := by decide +kernel
theorem h_X6_hasRun : yX6_hasRun.cls = RX6 ∧ yX6_hasRun.cls ≠ "java/lang/invoke/MethodHandle" ∧ yX6_hasRun.cls ≠ "java/lang/invoke/VarHandle" ∧ (parseMethodDescriptor yX6_hasRun.desc).map (fun d => d.parameters.length) = some 3 := by decide +kernel
set_option maxHeartbeats 4000000 in
set_option maxRecDepth 100000 in
theorem c_X6_hasRun (l : Launch) (g : En) (N : Nat) (S6 : St) (x1 : Int32) (x2 : Int32) (x3 : Int32) (res : Int32) (hf : f_X6_hasRun N S6 x1 x2 x3 = some res) : Met l yX6_hasRun wsX6_hasRun { frames := 0, cells := 0, slots := 0, locals := 0 } (roP g (wd_6 g S6) [.ref (g.2.2.1 6), .int x1, .int x2, .int x3]) (vp_Si (fun r => r = res)) 0 0 (fun _ => False) := by
  refine Met.ofW (cc := cX6_hasRun) (maxL := 4) (ret := (some .boolean)) (by decide) rfl ?_
  intro p e s m args below meth c s₁ B hml hv
  obtain ⟨rfl, hP, hK⟩ := hv
  have hx := B.exec
  have hb := B.bytes
  have hr := B.returns
  have hts := atoms_spec (ws := wsX6_hasRun) B.pre
  have hown : s.vm.findClass RX6 = some m.cls := findClass_of_methodNamed B.named
  have hlk := B.notSynchronized
  have C : cxr g (wd_6 g S6) cX6_hasRun 4 (some .boolean) wsX6_hasRun RX6 p s m ([.ref (g.2.2.1 6), .int x1, .int x2, .int x3] : List Value).toArray meth c := ⟨⟨hx, hb, hr, hml, hown, hts, hlk⟩, hK, hP⟩
  have hl := lv_entry [.ref (g.2.2.1 6), .int x1, .int x2, .int x3] (n := 4) (Nat.le_of_ble_eq_true rfl)
  rw [lg_entry_eq]
  generalize (lg_sl [.ref (g.2.2.1 6), .int x1, .int x2, .int x3] ++ List.replicate (4 - (lg_sl [.ref (g.2.2.1 6), .int x1, .int x2, .int x3]).length) Slot.unset).toArray = ls at hl ⊢
  have hl : lv_has ls 4 [(0, .ref (g.2.2.1 6)), (1, .int x1), (2, .int x2), (3, .int x3)] := hl
  unfold f_X6_hasRun at hf
  refine lv_iload_n (pc := 0) hx hb dX6_hasRun_0 rfl (lv_at hl 2 rfl) ?_
  refine lv_if_lt (tgt := 34) (pc := 1) hx hb dX6_hasRun_1 (by decide) (fun c1 => ?_) (fun c1 => ?_)
  · have hf := ft hf c1
    refine lv_iconst (v := 0) (pc := 34) hx hb dX6_hasRun_34 (by decide) ?_
    have hf := Option.some.inj hf
    subst hf
    exact W.zret (v := 0) hx hb hr rfl (fun t ht hW => ⟨_, rfl, rfl, ht⟩) (fun _ h => by cases h) dX6_hasRun_35
  · have hf := ff hf c1
    refine lv_iload_n (pc := 4) hx hb dX6_hasRun_4 rfl (lv_at hl 2 rfl) ?_
    refine lv_aload_n (pc := 5) hx hb dX6_hasRun_5 rfl (lv_at hl 0 rfl) ?_
    refine va_get (D := g.1) (ci := 6) (v := .ref (g.2.2.2 6 0)) (C := RX6) (T := TX6) (N := 2) (pc := 6) hx hb hts (fun _ h => List.mem_cons_of_mem _ (List.mem_append_right _ h)) hown hK hP 0 rfl rfl 0 (by decide) (hts _ q_X6_hasRun_0) (fun _ h9 => h9) rfl dX6_hasRun_6 ?_
    refine lv_iload_n (pc := 9) hx hb dX6_hasRun_9 rfl (lv_at hl 1 rfl) ?_
    obtain ⟨b10, hf⟩ := gdE hf
    refine va_iald (D := g.1) (tys := tyl g) (f := (S6.2.2 0)) (pc := 10) hx hb hK hP 1 0 rfl rfl (inbV b10) dX6_hasRun_10 ?_
    refine lv_icmp_gt (tgt := 34) (pc := 11) hx hb dX6_hasRun_11 (by decide) (fun c11 => ?_) (fun c11 => ?_)
    · have hf := ft hf c11
      refine lv_iconst (v := 0) (pc := 34) hx hb dX6_hasRun_34 (by decide) ?_
      have hf := Option.some.inj hf
      subst hf
      exact W.zret (v := 0) hx hb hr rfl (fun t ht hW => ⟨_, rfl, rfl, ht⟩) (fun _ h => by cases h) dX6_hasRun_35
    · have hf := ff hf c11
      refine lv_iload_n (pc := 14) hx hb dX6_hasRun_14 rfl (lv_at hl 3 rfl) ?_
      refine lv_if_lt (tgt := 34) (pc := 15) hx hb dX6_hasRun_15 (by decide) (fun c15 => ?_) (fun c15 => ?_)
      · have hf := ft hf c15
        refine lv_iconst (v := 0) (pc := 34) hx hb dX6_hasRun_34 (by decide) ?_
        have hf := Option.some.inj hf
        subst hf
        exact W.zret (v := 0) hx hb hr rfl (fun t ht hW => ⟨_, rfl, rfl, ht⟩) (fun _ h => by cases h) dX6_hasRun_35
      · have hf := ff hf c15
        refine lv_iload_n (pc := 18) hx hb dX6_hasRun_18 rfl (lv_at hl 3 rfl) ?_
        refine lv_aload_n (pc := 19) hx hb dX6_hasRun_19 rfl (lv_at hl 0 rfl) ?_
        refine va_get (D := g.1) (ci := 6) (v := .ref (g.2.2.2 6 0)) (C := RX6) (T := TX6) (N := 2) (pc := 20) hx hb hts (fun _ h => List.mem_cons_of_mem _ (List.mem_append_right _ h)) hown hK hP 0 rfl rfl 0 (by decide) (hts _ q_X6_hasRun_0) (fun _ h9 => h9) rfl dX6_hasRun_20 ?_
        refine lv_iload_n (pc := 23) hx hb dX6_hasRun_23 rfl (lv_at hl 1 rfl) ?_
        obtain ⟨b24, hf⟩ := gdE hf
        refine va_iald (D := g.1) (tys := tyl g) (f := (S6.2.2 0)) (pc := 24) hx hb hK hP 1 0 rfl rfl (inbV b24) dX6_hasRun_24 ?_
        refine lv_iload_n (pc := 25) hx hb dX6_hasRun_25 rfl (lv_at hl 2 rfl) ?_
        refine lv_isub (pc := 26) hx hb dX6_hasRun_26 ?_
        refine lv_icmp_gt (tgt := 34) (pc := 27) hx hb dX6_hasRun_27 (by decide) (fun c27 => ?_) (fun c27 => ?_)
        · have hf := ft hf c27
          refine lv_iconst (v := 0) (pc := 34) hx hb dX6_hasRun_34 (by decide) ?_
          have hf := Option.some.inj hf
          subst hf
          exact W.zret (v := 0) hx hb hr rfl (fun t ht hW => ⟨_, rfl, rfl, ht⟩) (fun _ h => by cases h) dX6_hasRun_35
        · have hf := ff hf c27
          refine lv_iconst (v := 1) (pc := 30) hx hb dX6_hasRun_30 (by decide) ?_
          refine lv_goto (tgt := 35) (pc := 31) hx hb dX6_hasRun_31 (by decide) ?_
          have hf := Option.some.inj hf
          subst hf
          exact W.zret (v := 1) hx hb hr rfl (fun t ht hW => ⟨_, rfl, rfl, ht⟩) (fun _ h => by cases h) dX6_hasRun_35
theorem q_X6_swap_0 : (.fieldLink RX6 15 "PictureCourt$Rows" "bytes" "[B" : Cond) ∈ wsX6_swap := by decide +kernel
theorem h_X6_swap : yX6_swap.cls = RX6 ∧ yX6_swap.cls ≠ "java/lang/invoke/MethodHandle" ∧ yX6_swap.cls ≠ "java/lang/invoke/VarHandle" ∧ (parseMethodDescriptor yX6_swap.desc).map (fun d => d.parameters.length) = some 3 := by decide +kernel
set_option maxHeartbeats 4000000 in
set_option maxRecDepth 100000 in
theorem c_X6_swap (l : Launch) (g : En) (N : Nat) (sz : Nat) (S6 : St) (x1 : Int32) (x2 : Int32) (x3 : Int32) (res : Int32 × St) (hf : f_X6_swap N S6 x1 x2 x3 = some res) : Met l yX6_swap wsX6_swap { frames := 0, cells := 0, slots := 0, locals := 0 } (rwP g (wd_6 g S6) sz [.ref (g.2.2.1 6), .int x1, .int x2, .int x3]) (rwQi g (wd_6 g (res.2)) (va_A (wd_6 g S6) sz) (res.1)) 0 0 (va_A (wd_6 g S6) sz) := by
  refine Met.ofW (cc := cX6_swap) (maxL := 5) (ret := (some .int)) (by decide) rfl ?_
  intro p e s m args below meth c s₁ B hml hv
  obtain ⟨rfl, hsz, hP, hK, hD0⟩ := hv
  have hx := B.exec
  have hb := B.bytes
  have hr := B.returns
  have hts := atoms_spec (ws := wsX6_swap) B.pre
  have hown : s.vm.findClass RX6 = some m.cls := findClass_of_methodNamed B.named
  have hlk := B.notSynchronized
  subst hsz
  have hD := hD0.self (sz := s.heap.size)
  generalize hAe : va_A (wd_6 g S6) s.heap.size = A at hD ⊢
  have hA : ∀ q : Nat, s.heap.size ≤ q → A q := fun q h => by rw [← hAe]; exact Or.inr h
  have hS : va_S A s.heap s.heap [] := va_S.rf
  have C : cxw g A cX6_swap 5 (some .int) wsX6_swap RX6 p s m ([.ref (g.2.2.1 6), .int x1, .int x2, .int x3] : List Value).toArray meth c := ⟨⟨hx, hb, hr, hml, hown, hts, hlk⟩, hK, hA⟩
  have hl := lv_entry [.ref (g.2.2.1 6), .int x1, .int x2, .int x3] (n := 5) (Nat.le_of_ble_eq_true rfl)
  rw [lg_entry_eq]
  generalize (lg_sl [.ref (g.2.2.1 6), .int x1, .int x2, .int x3] ++ List.replicate (5 - (lg_sl [.ref (g.2.2.1 6), .int x1, .int x2, .int x3]).length) Slot.unset).toArray = ls at hl ⊢
  have hl : lv_has ls 5 [(0, .ref (g.2.2.1 6)), (1, .int x1), (2, .int x2), (3, .int x3)] := hl
  unfold f_X6_swap at hf
  suffices K9 : ∀ (H : Heap) (locs : List Loc), va_P g.1 vwCl (wd_6 g S6) H → va_D A (wd_6 g S6) → va_S A s.heap H locs → (if inb ((x1 * 40) + x2) 240 = true then (if inb ((x1 * 40) + x2) 240 = true then some (((S6.2.2 1) (Int32.toNatClampNeg ((x1 * 40) + x2))), (sA S6 1 (upd (S6.2.2 1) (Int32.toNatClampNeg ((x1 * 40) + x2)) (vp_nar .byte x3)))) else none) else none) = some res → W p l e (headSpec wsX6_swap { frames := 0, cells := 0, slots := 0, locals := 0 }).room s m ([.ref (g.2.2.1 6), .int x1, .int x2, .int x3] : List Value).toArray below meth c H locs 0 0 (MQ below (rwQi g (wd_6 g (res.2)) A (res.1)) ([.ref (g.2.2.1 6), .int x1, .int x2, .int x3] : List Value).toArray s 0 0 A) (F0 m 0 ls []) from K9 s.heap [] hP hD hS hf
  clear hP hD hS hf
  intro H locs hP hD hS hf
  refine lv_aload_n (pc := 0) hx hb dX6_swap_0 rfl (lv_at hl 0 rfl) ?_
  refine va_get (D := g.1) (ci := 6) (v := .ref (g.2.2.2 6 1)) (C := RX6) (T := TX6) (N := 2) (pc := 1) hx hb hts (fun _ h => List.mem_cons_of_mem _ (List.mem_append_right _ h)) hown hK hP 0 rfl rfl 1 (by decide) (hts _ q_X6_swap_0) (fun _ h9 => h9) rfl dX6_swap_1 ?_
  refine lv_iload_n (pc := 4) hx hb dX6_swap_4 rfl (lv_at hl 1 rfl) ?_
  refine lv_bipush (v := 40) (pc := 5) hx hb dX6_swap_5 (by decide) ?_
  refine lv_imul (pc := 7) hx hb dX6_swap_7 ?_
  refine lv_iload_n (pc := 8) hx hb dX6_swap_8 rfl (lv_at hl 2 rfl) ?_
  refine lv_iadd (pc := 9) hx hb dX6_swap_9 ?_
  obtain ⟨b10, hf⟩ := gdE hf
  refine va_bald (D := g.1) (tys := tyl g) (f := (S6.2.2 1)) (pc := 10) hx hb hK hP 2 1 rfl rfl (inbV b10) dX6_swap_10 ?_
  refine lv_istore (lv' := [(4, .int ((S6.2.2 1) (Int32.toNatClampNeg ((x1 * 40) + x2)))), (0, .ref (g.2.2.1 6)), (1, .int x1), (2, .int x2), (3, .int x3)]) (pc := 11) hx hb dX6_swap_11 hl (by decide) rfl (fun ls hl => ?_)
  refine lv_aload_n (pc := 13) hx hb dX6_swap_13 rfl (lv_at hl 1 rfl) ?_
  refine va_get (D := g.1) (ci := 6) (v := .ref (g.2.2.2 6 1)) (C := RX6) (T := TX6) (N := 2) (pc := 14) hx hb hts (fun _ h => List.mem_cons_of_mem _ (List.mem_append_right _ h)) hown hK hP 0 rfl rfl 1 (by decide) (hts _ q_X6_swap_0) (fun _ h9 => h9) rfl dX6_swap_14 ?_
  refine lv_iload_n (pc := 17) hx hb dX6_swap_17 rfl (lv_at hl 2 rfl) ?_
  refine lv_bipush (v := 40) (pc := 18) hx hb dX6_swap_18 (by decide) ?_
  refine lv_imul (pc := 20) hx hb dX6_swap_20 ?_
  refine lv_iload_n (pc := 21) hx hb dX6_swap_21 rfl (lv_at hl 3 rfl) ?_
  refine lv_iadd (pc := 22) hx hb dX6_swap_22 ?_
  refine lv_iload_n (pc := 23) hx hb dX6_swap_23 rfl (lv_at hl 4 rfl) ?_
  obtain ⟨b24, hf⟩ := gdE hf
  refine va_bast (D := g.1) (tys := tyl g) (f := (S6.2.2 1)) (pc := 24) hx hb hK hP hD hS 2 1 rfl rfl (inbV b24) dX6_swap_24 (fun H locs hP hD hS => ?_)
  have hP := u_6_6_1P S6 (upd (S6.2.2 1) (Int32.toNatClampNeg ((x1 * 40) + x2)) (vp_nar .byte x3)) hP
  have hD := u_6_6_1D S6 (upd (S6.2.2 1) (Int32.toNatClampNeg ((x1 * 40) + x2)) (vp_nar .byte x3)) hD
  refine lv_iload (pc := 25) hx hb dX6_swap_25 (lv_at hl 0 rfl) ?_
  have hf := Option.some.inj hf
  subst hf
  exact W.iret (v := ((S6.2.2 1) (Int32.toNatClampNeg ((x1 * 40) + x2)))) hx hb hr (fun t ht hW => ⟨⟨_, (), rfl, rfl, by rw [ht]; exact hP, va_K.moved hW.alike hK, hD⟩, hS.F ht⟩) hS.2.2 dX6_swap_27
theorem q_X6_drop_0 : (.fieldLink RX6 9 "PictureCourt$Rows" "sizes" "[I" : Cond) ∈ wsX6_drop := by decide +kernel
theorem h_X6_drop : yX6_drop.cls = RX6 ∧ yX6_drop.cls ≠ "java/lang/invoke/MethodHandle" ∧ yX6_drop.cls ≠ "java/lang/invoke/VarHandle" ∧ (parseMethodDescriptor yX6_drop.desc).map (fun d => d.parameters.length) = some 1 := by decide +kernel
set_option maxHeartbeats 4000000 in
set_option maxRecDepth 100000 in
theorem c_X6_drop (l : Launch) (g : En) (N : Nat) (sz : Nat) (S6 : St) (x1 : Int32) (res : St) (hf : f_X6_drop N S6 x1 = some res) : Met l yX6_drop wsX6_drop { frames := 0, cells := 0, slots := 0, locals := 0 } (rwP g (wd_6 g S6) sz [.ref (g.2.2.1 6), .int x1]) (rwQv g (wd_6 g res) (va_A (wd_6 g S6) sz)) 0 0 (va_A (wd_6 g S6) sz) := by
  refine Met.ofW (cc := cX6_drop) (maxL := 2) (ret := none) (by decide) rfl ?_
  intro p e s m args below meth c s₁ B hml hv
  obtain ⟨rfl, hsz, hP, hK, hD0⟩ := hv
  have hx := B.exec
  have hb := B.bytes
  have hr := B.returns
  have hts := atoms_spec (ws := wsX6_drop) B.pre
  have hown : s.vm.findClass RX6 = some m.cls := findClass_of_methodNamed B.named
  have hlk := B.notSynchronized
  subst hsz
  have hD := hD0.self (sz := s.heap.size)
  generalize hAe : va_A (wd_6 g S6) s.heap.size = A at hD ⊢
  have hA : ∀ q : Nat, s.heap.size ≤ q → A q := fun q h => by rw [← hAe]; exact Or.inr h
  have hS : va_S A s.heap s.heap [] := va_S.rf
  have C : cxw g A cX6_drop 2 none wsX6_drop RX6 p s m ([.ref (g.2.2.1 6), .int x1] : List Value).toArray meth c := ⟨⟨hx, hb, hr, hml, hown, hts, hlk⟩, hK, hA⟩
  have hl := lv_entry [.ref (g.2.2.1 6), .int x1] (n := 2) (Nat.le_of_ble_eq_true rfl)
  rw [lg_entry_eq]
  generalize (lg_sl [.ref (g.2.2.1 6), .int x1] ++ List.replicate (2 - (lg_sl [.ref (g.2.2.1 6), .int x1]).length) Slot.unset).toArray = ls at hl ⊢
  have hl : lv_has ls 2 [(0, .ref (g.2.2.1 6)), (1, .int x1)] := hl
  unfold f_X6_drop at hf
  suffices K9 : ∀ (H : Heap) (locs : List Loc), va_P g.1 vwCl (wd_6 g S6) H → va_D A (wd_6 g S6) → va_S A s.heap H locs → (if inb x1 6 = true then some ((sA S6 0 (upd (S6.2.2 0) (Int32.toNatClampNeg x1) (-1)))) else none) = some res → W p l e (headSpec wsX6_drop { frames := 0, cells := 0, slots := 0, locals := 0 }).room s m ([.ref (g.2.2.1 6), .int x1] : List Value).toArray below meth c H locs 0 0 (MQ below (rwQv g (wd_6 g res) A) ([.ref (g.2.2.1 6), .int x1] : List Value).toArray s 0 0 A) (F0 m 0 ls []) from K9 s.heap [] hP hD hS hf
  clear hP hD hS hf
  intro H locs hP hD hS hf
  refine lv_aload_n (pc := 0) hx hb dX6_drop_0 rfl (lv_at hl 0 rfl) ?_
  refine va_get (D := g.1) (ci := 6) (v := .ref (g.2.2.2 6 0)) (C := RX6) (T := TX6) (N := 2) (pc := 1) hx hb hts (fun _ h => List.mem_cons_of_mem _ (List.mem_append_right _ h)) hown hK hP 0 rfl rfl 0 (by decide) (hts _ q_X6_drop_0) (fun _ h9 => h9) rfl dX6_drop_1 ?_
  refine lv_iload_n (pc := 4) hx hb dX6_drop_4 rfl (lv_at hl 1 rfl) ?_
  refine lv_iconst (v := (-1)) (pc := 5) hx hb dX6_drop_5 (by decide) ?_
  obtain ⟨b6, hf⟩ := gdE hf
  refine va_iast (D := g.1) (tys := tyl g) (f := (S6.2.2 0)) (pc := 6) hx hb hK hP hD hS 1 0 rfl rfl (inbV b6) dX6_drop_6 (fun H locs hP hD hS => ?_)
  have hP := u_6_6_0P S6 (upd (S6.2.2 0) (Int32.toNatClampNeg x1) (-1)) hP
  have hD := u_6_6_0D S6 (upd (S6.2.2 0) (Int32.toNatClampNeg x1) (-1)) hD
  have hf := Option.some.inj hf
  subst hf
  exact W.vret hx hb hr (fun t ht hW => ⟨⟨(), rfl, trivial, by rw [ht]; exact hP, va_K.moved hW.alike hK, hD⟩, hS.F ht⟩) hS.2.2 dX6_drop_7
theorem q_X6_move_0 : (.fieldLink RX6 15 "PictureCourt$Rows" "bytes" "[B" : Cond) ∈ wsX6_move := by decide +kernel
theorem q_X6_move_1 : (.methodLink RX6 19 arraycopyName : Cond) ∈ wsX6_move := by decide +kernel
theorem q_X6_move_2 : (.native arraycopyName : Cond) ∈ wsX6_move := by decide +kernel
theorem q_X6_move_3 : (.static arraycopyName : Cond) ∈ wsX6_move := by decide +kernel
theorem q_X6_move_4 : (.initialized "java/lang/System" : Cond) ∈ wsX6_move := by decide +kernel
theorem h_X6_move : yX6_move.cls = RX6 ∧ yX6_move.cls ≠ "java/lang/invoke/MethodHandle" ∧ yX6_move.cls ≠ "java/lang/invoke/VarHandle" ∧ (parseMethodDescriptor yX6_move.desc).map (fun d => d.parameters.length) = some 5 := by decide +kernel
set_option maxHeartbeats 4000000 in
set_option maxRecDepth 100000 in
theorem c_X6_move (l : Launch) (g : En) (N : Nat) (sz : Nat) (S6 : St) (x1 : Int32) (x2 : Int32) (x3 : Int32) (x4 : Int32) (x5 : Int32) (res : St) (hf : f_X6_move N S6 x1 x2 x3 x4 x5 = some res) : Met l yX6_move wsX6_move { frames := 1, cells := 0, slots := 0, locals := 64 } (rwP g (wd_6 g S6) sz [.ref (g.2.2.1 6), .int x1, .int x2, .int x3, .int x4, .int x5]) (rwQv g (wd_6 g res) (va_A (wd_6 g S6) sz)) 0 0 (va_A (wd_6 g S6) sz) := by
  refine Met.ofW (cc := cX6_move) (maxL := 6) (ret := none) (by decide) rfl ?_
  intro p e s m args below meth c s₁ B hml hv
  obtain ⟨rfl, hsz, hP, hK, hD0⟩ := hv
  have hx := B.exec
  have hb := B.bytes
  have hr := B.returns
  have hts := atoms_spec (ws := wsX6_move) B.pre
  have hown : s.vm.findClass RX6 = some m.cls := findClass_of_methodNamed B.named
  have hlk := B.notSynchronized
  subst hsz
  have hD := hD0.self (sz := s.heap.size)
  generalize hAe : va_A (wd_6 g S6) s.heap.size = A at hD ⊢
  have hA : ∀ q : Nat, s.heap.size ≤ q → A q := fun q h => by rw [← hAe]; exact Or.inr h
  have hS : va_S A s.heap s.heap [] := va_S.rf
  have C : cxw g A cX6_move 6 none wsX6_move RX6 p s m ([.ref (g.2.2.1 6), .int x1, .int x2, .int x3, .int x4, .int x5] : List Value).toArray meth c := ⟨⟨hx, hb, hr, hml, hown, hts, hlk⟩, hK, hA⟩
  have hl := lv_entry [.ref (g.2.2.1 6), .int x1, .int x2, .int x3, .int x4, .int x5] (n := 6) (Nat.le_of_ble_eq_true rfl)
  rw [lg_entry_eq]
  generalize (lg_sl [.ref (g.2.2.1 6), .int x1, .int x2, .int x3, .int x4, .int x5] ++ List.replicate (6 - (lg_sl [.ref (g.2.2.1 6), .int x1, .int x2, .int x3, .int x4, .int x5]).length) Slot.unset).toArray = ls at hl ⊢
  have hl : lv_has ls 6 [(0, .ref (g.2.2.1 6)), (1, .int x1), (2, .int x2), (3, .int x3), (4, .int x4), (5, .int x5)] := hl
  unfold f_X6_move at hf
  suffices K9 : ∀ (H : Heap) (locs : List Loc), va_P g.1 vwCl (wd_6 g S6) H → va_D A (wd_6 g S6) → va_S A s.heap H locs → (if acp ((x1 * 40) + x2) ((x3 * 40) + x4) x5 240 (S6.2.2 1) = true then some ((sA S6 1 (va_cpy (S6.2.2 1) (S6.2.2 1) (Int32.toNatClampNeg ((x1 * 40) + x2)) (Int32.toNatClampNeg ((x3 * 40) + x4)) (Int32.toNatClampNeg x5)))) else none) = some res → W p l e (headSpec wsX6_move { frames := 1, cells := 0, slots := 0, locals := 64 }).room s m ([.ref (g.2.2.1 6), .int x1, .int x2, .int x3, .int x4, .int x5] : List Value).toArray below meth c H locs 0 0 (MQ below (rwQv g (wd_6 g res) A) ([.ref (g.2.2.1 6), .int x1, .int x2, .int x3, .int x4, .int x5] : List Value).toArray s 0 0 A) (F0 m 0 ls []) from K9 s.heap [] hP hD hS hf
  clear hP hD hS hf
  intro H locs hP hD hS hf
  refine lv_aload_n (pc := 0) hx hb dX6_move_0 rfl (lv_at hl 0 rfl) ?_
  refine va_get (D := g.1) (ci := 6) (v := .ref (g.2.2.2 6 1)) (C := RX6) (T := TX6) (N := 2) (pc := 1) hx hb hts (fun _ h => List.mem_cons_of_mem _ (List.mem_append_right _ h)) hown hK hP 0 rfl rfl 1 (by decide) (hts _ q_X6_move_0) (fun _ h9 => h9) rfl dX6_move_1 ?_
  refine lv_iload_n (pc := 4) hx hb dX6_move_4 rfl (lv_at hl 1 rfl) ?_
  refine lv_bipush (v := 40) (pc := 5) hx hb dX6_move_5 (by decide) ?_
  refine lv_imul (pc := 7) hx hb dX6_move_7 ?_
  refine lv_iload_n (pc := 8) hx hb dX6_move_8 rfl (lv_at hl 2 rfl) ?_
  refine lv_iadd (pc := 9) hx hb dX6_move_9 ?_
  refine lv_aload_n (pc := 10) hx hb dX6_move_10 rfl (lv_at hl 0 rfl) ?_
  refine va_get (D := g.1) (ci := 6) (v := .ref (g.2.2.2 6 1)) (C := RX6) (T := TX6) (N := 2) (pc := 11) hx hb hts (fun _ h => List.mem_cons_of_mem _ (List.mem_append_right _ h)) hown hK hP 0 rfl rfl 1 (by decide) (hts _ q_X6_move_0) (fun _ h9 => h9) rfl dX6_move_11 ?_
  refine lv_iload_n (pc := 14) hx hb dX6_move_14 rfl (lv_at hl 3 rfl) ?_
  refine lv_bipush (v := 40) (pc := 15) hx hb dX6_move_15 (by decide) ?_
  refine lv_imul (pc := 17) hx hb dX6_move_17 ?_
  refine lv_iload (pc := 18) hx hb dX6_move_18 (lv_at hl 4 rfl) ?_
  refine lv_iadd (pc := 20) hx hb dX6_move_20 ?_
  refine lv_iload (pc := 21) hx hb dX6_move_21 (lv_at hl 5 rfl) ?_
  obtain ⟨b23, hf⟩ := gdE hf
  obtain ⟨a1, a2, a3, a4, a5, a6⟩ := acpV b23
  refine va_copyi (D := g.1) (tys := tyl g) (ty := .byte) (pc := 23) hx hb (hml.trans hl.1.symm) hown (hts _ q_X6_move_1) (hts _ q_X6_move_2) (hts _ q_X6_move_3) (hts _ q_X6_move_4) hK hP hD hS 2 2 1 1 rfl rfl rfl rfl rfl a1 a2 a3 a4 a5 a6 (Nat.le_of_ble_eq_true rfl) (by decide) dX6_move_23 (fun H locs hP hD hS => ?_)
  have hP := u_6_6_1P S6 (va_cpy (S6.2.2 1) (S6.2.2 1) (Int32.toNatClampNeg ((x1 * 40) + x2)) (Int32.toNatClampNeg ((x3 * 40) + x4)) (Int32.toNatClampNeg x5)) hP
  have hD := u_6_6_1D S6 (va_cpy (S6.2.2 1) (S6.2.2 1) (Int32.toNatClampNeg ((x1 * 40) + x2)) (Int32.toNatClampNeg ((x3 * 40) + x4)) (Int32.toNatClampNeg x5)) hD
  have hf := Option.some.inj hf
  subst hf
  exact W.vret hx hb hr (fun t ht hW => ⟨⟨(), rfl, trivial, by rw [ht]; exact hP, va_K.moved hW.alike hK, hD⟩, hS.F ht⟩) hS.2.2 dX6_move_26
theorem q_X6_canMatch_0 : (.fieldLink RX6 9 "PictureCourt$Rows" "sizes" "[I" : Cond) ∈ wsX6_canMatch := by decide +kernel
theorem h_X6_canMatch : yX6_canMatch.cls = RX6 ∧ yX6_canMatch.cls ≠ "java/lang/invoke/MethodHandle" ∧ yX6_canMatch.cls ≠ "java/lang/invoke/VarHandle" ∧ (parseMethodDescriptor yX6_canMatch.desc).map (fun d => d.parameters.length) = some 2 := by decide +kernel
set_option maxHeartbeats 4000000 in
set_option maxRecDepth 100000 in
theorem c_X6_canMatch (l : Launch) (g : En) (N : Nat) (S6 : St) (x1 : Int32) (x2 : Int32) (res : Int32) (hf : f_X6_canMatch N S6 x1 x2 = some res) : Met l yX6_canMatch wsX6_canMatch { frames := 0, cells := 0, slots := 0, locals := 0 } (roP g (wd_6 g S6) [.ref (g.2.2.1 6), .int x1, .int x2]) (vp_Si (fun r => r = res)) 0 0 (fun _ => False) := by
  refine Met.ofW (cc := cX6_canMatch) (maxL := 3) (ret := (some .boolean)) (by decide) rfl ?_
  intro p e s m args below meth c s₁ B hml hv
  obtain ⟨rfl, hP, hK⟩ := hv
  have hx := B.exec
  have hb := B.bytes
  have hr := B.returns
  have hts := atoms_spec (ws := wsX6_canMatch) B.pre
  have hown : s.vm.findClass RX6 = some m.cls := findClass_of_methodNamed B.named
  have hlk := B.notSynchronized
  have C : cxr g (wd_6 g S6) cX6_canMatch 3 (some .boolean) wsX6_canMatch RX6 p s m ([.ref (g.2.2.1 6), .int x1, .int x2] : List Value).toArray meth c := ⟨⟨hx, hb, hr, hml, hown, hts, hlk⟩, hK, hP⟩
  have hl := lv_entry [.ref (g.2.2.1 6), .int x1, .int x2] (n := 3) (Nat.le_of_ble_eq_true rfl)
  rw [lg_entry_eq]
  generalize (lg_sl [.ref (g.2.2.1 6), .int x1, .int x2] ++ List.replicate (3 - (lg_sl [.ref (g.2.2.1 6), .int x1, .int x2]).length) Slot.unset).toArray = ls at hl ⊢
  have hl : lv_has ls 3 [(0, .ref (g.2.2.1 6)), (1, .int x1), (2, .int x2)] := hl
  unfold f_X6_canMatch at hf
  refine lv_aload_n (pc := 0) hx hb dX6_canMatch_0 rfl (lv_at hl 0 rfl) ?_
  refine va_get (D := g.1) (ci := 6) (v := .ref (g.2.2.2 6 0)) (C := RX6) (T := TX6) (N := 2) (pc := 1) hx hb hts (fun _ h => List.mem_cons_of_mem _ (List.mem_append_right _ h)) hown hK hP 0 rfl rfl 0 (by decide) (hts _ q_X6_canMatch_0) (fun _ h9 => h9) rfl dX6_canMatch_1 ?_
  refine lv_iload_n (pc := 4) hx hb dX6_canMatch_4 rfl (lv_at hl 1 rfl) ?_
  obtain ⟨b5, hf⟩ := gdE hf
  refine va_iald (D := g.1) (tys := tyl g) (f := (S6.2.2 0)) (pc := 5) hx hb hK hP 1 0 rfl rfl (inbV b5) dX6_canMatch_5 ?_
  refine lv_if_le (tgt := 28) (pc := 6) hx hb dX6_canMatch_6 (by decide) (fun c6 => ?_) (fun c6 => ?_)
  · have hf := ft hf c6
    refine lv_iconst (v := 0) (pc := 28) hx hb dX6_canMatch_28 (by decide) ?_
    have hf := Option.some.inj hf
    subst hf
    exact W.zret (v := 0) hx hb hr rfl (fun t ht hW => ⟨_, rfl, rfl, ht⟩) (fun _ h => by cases h) dX6_canMatch_29
  · have hf := ff hf c6
    refine lv_aload_n (pc := 9) hx hb dX6_canMatch_9 rfl (lv_at hl 0 rfl) ?_
    refine va_get (D := g.1) (ci := 6) (v := .ref (g.2.2.2 6 0)) (C := RX6) (T := TX6) (N := 2) (pc := 10) hx hb hts (fun _ h => List.mem_cons_of_mem _ (List.mem_append_right _ h)) hown hK hP 0 rfl rfl 0 (by decide) (hts _ q_X6_canMatch_0) (fun _ h9 => h9) rfl dX6_canMatch_10 ?_
    refine lv_iload_n (pc := 13) hx hb dX6_canMatch_13 rfl (lv_at hl 2 rfl) ?_
    obtain ⟨b14, hf⟩ := gdE hf
    refine va_iald (D := g.1) (tys := tyl g) (f := (S6.2.2 0)) (pc := 14) hx hb hK hP 1 0 rfl rfl (inbV b14) dX6_canMatch_14 ?_
    refine lv_aload_n (pc := 15) hx hb dX6_canMatch_15 rfl (lv_at hl 0 rfl) ?_
    refine va_get (D := g.1) (ci := 6) (v := .ref (g.2.2.2 6 0)) (C := RX6) (T := TX6) (N := 2) (pc := 16) hx hb hts (fun _ h => List.mem_cons_of_mem _ (List.mem_append_right _ h)) hown hK hP 0 rfl rfl 0 (by decide) (hts _ q_X6_canMatch_0) (fun _ h9 => h9) rfl dX6_canMatch_16 ?_
    refine lv_iload_n (pc := 19) hx hb dX6_canMatch_19 rfl (lv_at hl 1 rfl) ?_
    obtain ⟨b20, hf⟩ := gdE hf
    refine va_iald (D := g.1) (tys := tyl g) (f := (S6.2.2 0)) (pc := 20) hx hb hK hP 1 0 rfl rfl (inbV b20) dX6_canMatch_20 ?_
    refine lv_icmp_lt (tgt := 28) (pc := 21) hx hb dX6_canMatch_21 (by decide) (fun c21 => ?_) (fun c21 => ?_)
    · have hf := ft hf c21
      refine lv_iconst (v := 0) (pc := 28) hx hb dX6_canMatch_28 (by decide) ?_
      have hf := Option.some.inj hf
      subst hf
      exact W.zret (v := 0) hx hb hr rfl (fun t ht hW => ⟨_, rfl, rfl, ht⟩) (fun _ h => by cases h) dX6_canMatch_29
    · have hf := ff hf c21
      refine lv_iconst (v := 1) (pc := 24) hx hb dX6_canMatch_24 (by decide) ?_
      refine lv_goto (tgt := 29) (pc := 25) hx hb dX6_canMatch_25 (by decide) ?_
      have hf := Option.some.inj hf
      subst hf
      exact W.zret (v := 1) hx hb hr rfl (fun t ht hW => ⟨_, rfl, rfl, ht⟩) (fun _ h => by cases h) dX6_canMatch_29
theorem q_X6_offAt_0 : (.fieldLink RX6 9 "PictureCourt$Rows" "sizes" "[I" : Cond) ∈ wsX6_offAt := by decide +kernel
theorem q_X6_offAt_1 : (.fieldLink RX6 15 "PictureCourt$Rows" "bytes" "[B" : Cond) ∈ wsX6_offAt := by decide +kernel
theorem q_X6_offAt_2 : (.methodLink RX6 29 Lib.Math.abs.name : Cond) ∈ wsX6_offAt := by decide +kernel
theorem q_X6_offAt_3 : (.static Lib.Math.abs.name : Cond) ∈ wsX6_offAt := by decide +kernel
theorem q_X6_offAt_4 : (.initialized "java/lang/Math" : Cond) ∈ wsX6_offAt := by decide +kernel
theorem q_X6_offAt_5 : (.code Lib.Math.abs.name Lib.Math.abs.code 1 (some .int) : Cond) ∈ wsX6_offAt := by decide +kernel
theorem h_X6_offAt : yX6_offAt.cls = RX6 ∧ yX6_offAt.cls ≠ "java/lang/invoke/MethodHandle" ∧ yX6_offAt.cls ≠ "java/lang/invoke/VarHandle" ∧ (parseMethodDescriptor yX6_offAt.desc).map (fun d => d.parameters.length) = some 3 := by decide +kernel
set_option maxHeartbeats 4000000 in
set_option maxRecDepth 100000 in
theorem w_X6_offAt_20_b {p : Program} {l : Launch} {e : Env} {s : State} {m : MethodId} {args : Array Value} {below : List Frame} {meth : Method} {c : Code} {g : En} {N : Nat} {S6 : St} {res : Int32} (C : cxr g (wd_6 g S6) cX6_offAt 8 (some .int) wsX6_offAt RX6 p s m args meth c) (k20 : Int32 → Int32 → Int32 → Int32 → Int32 → Option (Int32)) (H20 : ∀ (ls : Array Slot) (x1 : Int32) (x4 : Int32) (x5 : Int32) (x6 : Int32) (x7 : Int32), lv_has ls 8 [(0, .ref (g.2.2.1 6)), (1, .int x1), (4, .int x4), (5, .int x5), (6, .int x6), (7, .int x7)] → k20 x1 x4 x5 x6 x7 = some res → W p l e (headSpec wsX6_offAt { frames := 1, cells := 0, slots := 0, locals := 24 }).room s m args below meth c s.heap [] 0 0 (MQ below (vp_Si (fun r => r = res)) args s 0 0 (fun _ => False)) (F0 m 20 ls [])) : ∀ (ls : Array Slot) (x1 : Int32) (x4 : Int32) (x5 : Int32) (x6 : Int32) (x7 : Int32), lv_has ls 8 [(0, .ref (g.2.2.1 6)), (1, .int x1), (4, .int x4), (5, .int x5), (6, .int x6), (7, .int x7)] → f_X6_offAt_20_b N S6  k20 x1 x4 x5 x6 x7 = some res → W p l e (headSpec wsX6_offAt { frames := 1, cells := 0, slots := 0, locals := 24 }).room s m args below meth c s.heap [] 0 0 (MQ below (vp_Si (fun r => r = res)) args s 0 0 (fun _ => False)) (F0 m 20 ls []) := by
  intro ls x1 x4 x5 x6 x7 hl hf
  obtain ⟨⟨hx, hb, hr, hml, hown, hts, hlk⟩, hK, hP⟩ := id C
  unfold f_X6_offAt_20_b at hf
  refine lv_iload (pc := 20) hx hb dX6_offAt_20 (lv_at hl 5 rfl) ?_
  refine lv_aload_n (pc := 22) hx hb dX6_offAt_22 rfl (lv_at hl 0 rfl) ?_
  refine va_get (D := g.1) (ci := 6) (v := .ref (g.2.2.2 6 0)) (C := RX6) (T := TX6) (N := 2) (pc := 23) hx hb hts (fun _ h => List.mem_cons_of_mem _ (List.mem_append_right _ h)) hown hK hP 0 rfl rfl 0 (by decide) (hts _ q_X6_offAt_0) (fun _ h9 => h9) rfl dX6_offAt_23 ?_
  refine lv_iload_n (pc := 26) hx hb dX6_offAt_26 rfl (lv_at hl 1 rfl) ?_
  obtain ⟨b27, hf⟩ := gdE hf
  refine va_iald (D := g.1) (tys := tyl g) (f := (S6.2.2 0)) (pc := 27) hx hb hK hP 1 0 rfl rfl (inbV b27) dX6_offAt_27 ?_
  refine lv_icmp_ge (tgt := 66) (pc := 28) hx hb dX6_offAt_28 (by decide) (fun c28 => ?_) (fun c28 => ?_)
  · have hf := ft hf c28
    refine lv_iload (pc := 66) hx hb dX6_offAt_66 (lv_at hl 4 rfl) ?_
    have hf := Option.some.inj hf
    subst hf
    exact W.iret (v := x6) hx hb hr (fun t ht hW => ⟨_, rfl, rfl, ht⟩) (fun _ h => by cases h) dX6_offAt_68
  · have hf := ff hf c28
    refine lv_iload (pc := 31) hx hb dX6_offAt_31 (lv_at hl 4 rfl) ?_
    refine lv_aload_n (pc := 33) hx hb dX6_offAt_33 rfl (lv_at hl 0 rfl) ?_
    refine va_get (D := g.1) (ci := 6) (v := .ref (g.2.2.2 6 1)) (C := RX6) (T := TX6) (N := 2) (pc := 34) hx hb hts (fun _ h => List.mem_cons_of_mem _ (List.mem_append_right _ h)) hown hK hP 0 rfl rfl 1 (by decide) (hts _ q_X6_offAt_1) (fun _ h9 => h9) rfl dX6_offAt_34 ?_
    refine lv_iload (pc := 37) hx hb dX6_offAt_37 (lv_at hl 2 rfl) ?_
    refine lv_iload (pc := 39) hx hb dX6_offAt_39 (lv_at hl 5 rfl) ?_
    refine lv_iadd (pc := 41) hx hb dX6_offAt_41 ?_
    obtain ⟨b42, hf⟩ := gdE hf
    refine va_bald (D := g.1) (tys := tyl g) (f := (S6.2.2 1)) (pc := 42) hx hb hK hP 2 1 rfl rfl (inbV b42) dX6_offAt_42 ?_
    refine lv_aload_n (pc := 43) hx hb dX6_offAt_43 rfl (lv_at hl 0 rfl) ?_
    refine va_get (D := g.1) (ci := 6) (v := .ref (g.2.2.2 6 1)) (C := RX6) (T := TX6) (N := 2) (pc := 44) hx hb hts (fun _ h => List.mem_cons_of_mem _ (List.mem_append_right _ h)) hown hK hP 0 rfl rfl 1 (by decide) (hts _ q_X6_offAt_1) (fun _ h9 => h9) rfl dX6_offAt_44 ?_
    refine lv_iload (pc := 47) hx hb dX6_offAt_47 (lv_at hl 3 rfl) ?_
    refine lv_iload (pc := 49) hx hb dX6_offAt_49 (lv_at hl 5 rfl) ?_
    refine lv_iadd (pc := 51) hx hb dX6_offAt_51 ?_
    obtain ⟨b52, hf⟩ := gdE hf
    refine va_bald (D := g.1) (tys := tyl g) (f := (S6.2.2 1)) (pc := 52) hx hb hK hP 2 1 rfl rfl (inbV b52) dX6_offAt_52 ?_
    refine lv_isub (pc := 53) hx hb dX6_offAt_53 ?_
    refine va_mabs (pc := 54) hx hb (hml.trans hl.1.symm) hown (hts _ q_X6_offAt_2) (hts _ q_X6_offAt_3) (hts _ q_X6_offAt_4) (hts _ q_X6_offAt_5) (Nat.le_of_ble_eq_true rfl) (Nat.le_of_ble_eq_true rfl) (Nat.zero_le _) (Nat.zero_le _) dX6_offAt_54 ?_
    refine lv_iadd (pc := 57) hx hb dX6_offAt_57 ?_
    refine lv_istore (lv' := [(6, .int (x6 + (if 0 ≤ (((S6.2.2 1) (Int32.toNatClampNeg (x4 + x7))) - ((S6.2.2 1) (Int32.toNatClampNeg (x5 + x7)))) then (((S6.2.2 1) (Int32.toNatClampNeg (x4 + x7))) - ((S6.2.2 1) (Int32.toNatClampNeg (x5 + x7)))) else 0 - (((S6.2.2 1) (Int32.toNatClampNeg (x4 + x7))) - ((S6.2.2 1) (Int32.toNatClampNeg (x5 + x7))))))), (0, .ref (g.2.2.1 6)), (1, .int x1), (4, .int x4), (5, .int x5), (7, .int x7)]) (pc := 58) hx hb dX6_offAt_58 hl (by decide) rfl (fun ls hl => ?_)
    refine lv_iinc (v := (x7 + 1)) (lv' := [(7, .int (x7 + 1)), (6, .int (x6 + (if 0 ≤ (((S6.2.2 1) (Int32.toNatClampNeg (x4 + x7))) - ((S6.2.2 1) (Int32.toNatClampNeg (x5 + x7)))) then (((S6.2.2 1) (Int32.toNatClampNeg (x4 + x7))) - ((S6.2.2 1) (Int32.toNatClampNeg (x5 + x7)))) else 0 - (((S6.2.2 1) (Int32.toNatClampNeg (x4 + x7))) - ((S6.2.2 1) (Int32.toNatClampNeg (x5 + x7))))))), (0, .ref (g.2.2.1 6)), (1, .int x1), (4, .int x4), (5, .int x5)]) (pc := 60) hx hb dX6_offAt_60 hl (k := 5) rfl rfl (by decide) rfl (fun ls hl => ?_)
    refine lv_goto (tgt := 20) (pc := 63) hx hb dX6_offAt_63 (by decide) ?_
    exact H20 ls x1 x4 x5 (x6 + (if 0 ≤ (((S6.2.2 1) (Int32.toNatClampNeg (x4 + x7))) - ((S6.2.2 1) (Int32.toNatClampNeg (x5 + x7)))) then (((S6.2.2 1) (Int32.toNatClampNeg (x4 + x7))) - ((S6.2.2 1) (Int32.toNatClampNeg (x5 + x7)))) else 0 - (((S6.2.2 1) (Int32.toNatClampNeg (x4 + x7))) - ((S6.2.2 1) (Int32.toNatClampNeg (x5 + x7)))))) (x7 + 1) (lv_sub hl [2, 3, 4, 5, 1, 0] rfl) hf
set_option maxHeartbeats 4000000 in
set_option maxRecDepth 100000 in
theorem w_X6_offAt_20 {p : Program} {l : Launch} {e : Env} {s : State} {m : MethodId} {args : Array Value} {below : List Frame} {meth : Method} {c : Code} {g : En} {N : Nat} {S6 : St} {res : Int32} (C : cxr g (wd_6 g S6) cX6_offAt 8 (some .int) wsX6_offAt RX6 p s m args meth c) : ∀ (n : Nat), ∀ (ls : Array Slot) (x1 : Int32) (x4 : Int32) (x5 : Int32) (x6 : Int32) (x7 : Int32), lv_has ls 8 [(0, .ref (g.2.2.1 6)), (1, .int x1), (4, .int x4), (5, .int x5), (6, .int x6), (7, .int x7)] → f_X6_offAt_20 N S6  n x1 x4 x5 x6 x7 = some res → W p l e (headSpec wsX6_offAt { frames := 1, cells := 0, slots := 0, locals := 24 }).room s m args below meth c s.heap [] 0 0 (MQ below (vp_Si (fun r => r = res)) args s 0 0 (fun _ => False)) (F0 m 20 ls []) := by
  intro n
  induction n with
  | zero =>
    intro ls x1 x4 x5 x6 x7 hl hf
    have hf : (none : Option (Int32)) = some res := hf
    cases hf
  | succ n ih =>
    intro ls x1 x4 x5 x6 x7 hl hf
    exact w_X6_offAt_20_b C  (fun y0 y1 y2 y3 y4 => f_X6_offAt_20 N S6  n y0 y1 y2 y3 y4) ih ls x1 x4 x5 x6 x7 hl hf
set_option maxHeartbeats 4000000 in
set_option maxRecDepth 100000 in
theorem c_X6_offAt (l : Launch) (g : En) (N : Nat) (S6 : St) (x1 : Int32) (x2 : Int32) (x3 : Int32) (res : Int32) (hf : f_X6_offAt N S6 x1 x2 x3 = some res) : Met l yX6_offAt wsX6_offAt { frames := 1, cells := 0, slots := 0, locals := 24 } (roP g (wd_6 g S6) [.ref (g.2.2.1 6), .int x1, .int x2, .int x3]) (vp_Si (fun r => r = res)) 0 0 (fun _ => False) := by
  refine Met.ofW (cc := cX6_offAt) (maxL := 8) (ret := (some .int)) (by decide) rfl ?_
  intro p e s m args below meth c s₁ B hml hv
  obtain ⟨rfl, hP, hK⟩ := hv
  have hx := B.exec
  have hb := B.bytes
  have hr := B.returns
  have hts := atoms_spec (ws := wsX6_offAt) B.pre
  have hown : s.vm.findClass RX6 = some m.cls := findClass_of_methodNamed B.named
  have hlk := B.notSynchronized
  have C : cxr g (wd_6 g S6) cX6_offAt 8 (some .int) wsX6_offAt RX6 p s m ([.ref (g.2.2.1 6), .int x1, .int x2, .int x3] : List Value).toArray meth c := ⟨⟨hx, hb, hr, hml, hown, hts, hlk⟩, hK, hP⟩
  have hl := lv_entry [.ref (g.2.2.1 6), .int x1, .int x2, .int x3] (n := 8) (Nat.le_of_ble_eq_true rfl)
  rw [lg_entry_eq]
  generalize (lg_sl [.ref (g.2.2.1 6), .int x1, .int x2, .int x3] ++ List.replicate (8 - (lg_sl [.ref (g.2.2.1 6), .int x1, .int x2, .int x3]).length) Slot.unset).toArray = ls at hl ⊢
  have hl : lv_has ls 8 [(0, .ref (g.2.2.1 6)), (1, .int x1), (2, .int x2), (3, .int x3)] := hl
  unfold f_X6_offAt at hf
  refine lv_iload_n (pc := 0) hx hb dX6_offAt_0 rfl (lv_at hl 1 rfl) ?_
  refine lv_bipush (v := 40) (pc := 1) hx hb dX6_offAt_1 (by decide) ?_
  refine lv_imul (pc := 3) hx hb dX6_offAt_3 ?_
  refine lv_istore (lv' := [(4, .int (x1 * 40)), (0, .ref (g.2.2.1 6)), (1, .int x1), (2, .int x2), (3, .int x3)]) (pc := 4) hx hb dX6_offAt_4 hl (by decide) rfl (fun ls hl => ?_)
  refine lv_iload_n (pc := 6) hx hb dX6_offAt_6 rfl (lv_at hl 3 rfl) ?_
  refine lv_bipush (v := 40) (pc := 7) hx hb dX6_offAt_7 (by decide) ?_
  refine lv_imul (pc := 9) hx hb dX6_offAt_9 ?_
  refine lv_iload_n (pc := 10) hx hb dX6_offAt_10 rfl (lv_at hl 4 rfl) ?_
  refine lv_iadd (pc := 11) hx hb dX6_offAt_11 ?_
  refine lv_istore (lv' := [(5, .int ((x2 * 40) + x3)), (4, .int (x1 * 40)), (0, .ref (g.2.2.1 6)), (1, .int x1), (2, .int x2), (3, .int x3)]) (pc := 12) hx hb dX6_offAt_12 hl (by decide) rfl (fun ls hl => ?_)
  refine lv_iconst (v := 0) (pc := 14) hx hb dX6_offAt_14 (by decide) ?_
  refine lv_istore (lv' := [(6, .int 0), (5, .int ((x2 * 40) + x3)), (4, .int (x1 * 40)), (0, .ref (g.2.2.1 6)), (1, .int x1), (2, .int x2), (3, .int x3)]) (pc := 15) hx hb dX6_offAt_15 hl (by decide) rfl (fun ls hl => ?_)
  refine lv_iconst (v := 0) (pc := 17) hx hb dX6_offAt_17 (by decide) ?_
  refine lv_istore (lv' := [(7, .int 0), (6, .int 0), (5, .int ((x2 * 40) + x3)), (4, .int (x1 * 40)), (0, .ref (g.2.2.1 6)), (1, .int x1), (2, .int x2), (3, .int x3)]) (pc := 18) hx hb dX6_offAt_18 hl (by decide) rfl (fun ls hl => ?_)
  exact w_X6_offAt_20 C  N ls x1 (x1 * 40) ((x2 * 40) + x3) 0 0 (lv_sub hl [4, 5, 3, 2, 1, 0] rfl) hf
theorem q_X6_bestPlace_0 : (.fieldLink RX6 9 "PictureCourt$Rows" "sizes" "[I" : Cond) ∈ wsX6_bestPlace := by decide +kernel
theorem h_X6_bestPlace : yX6_bestPlace.cls = RX6 ∧ yX6_bestPlace.cls ≠ "java/lang/invoke/MethodHandle" ∧ yX6_bestPlace.cls ≠ "java/lang/invoke/VarHandle" ∧ (parseMethodDescriptor yX6_bestPlace.desc).map (fun d => d.parameters.length) = some 2 := by decide +kernel
set_option maxHeartbeats 4000000 in
set_option maxRecDepth 100000 in
theorem w_X6_bestPlace_56 {p : Program} {l : Launch} {e : Env} {s : State} {m : MethodId} {args : Array Value} {below : List Frame} {meth : Method} {c : Code} {g : En} {N : Nat} {S6 : St} {res : Int32} (C : cxr g (wd_6 g S6) cX6_bestPlace 7 (some .int) wsX6_bestPlace RX6 p s m args meth c) (k14 : Int32 → Int32 → Int32 → Int32 → Int32 → Option (Int32)) (H14 : ∀ (ls : Array Slot) (x1 : Int32) (x2 : Int32) (x3 : Int32) (x4 : Int32) (x5 : Int32), lv_has ls 7 [(0, .ref (g.2.2.1 6)), (1, .int x1), (2, .int x2), (3, .int x3), (4, .int x4), (5, .int x5)] → k14 x1 x2 x3 x4 x5 = some res → W p l e (headSpec wsX6_bestPlace { frames := 2, cells := 0, slots := 0, locals := 51 }).room s m args below meth c s.heap [] 0 0 (MQ below (vp_Si (fun r => r = res)) args s 0 0 (fun _ => False)) (F0 m 14 ls [])) : ∀ (ls : Array Slot) (x1 : Int32) (x2 : Int32) (x3 : Int32) (x4 : Int32) (x5 : Int32), lv_has ls 7 [(0, .ref (g.2.2.1 6)), (1, .int x1), (2, .int x2), (3, .int x3), (4, .int x4), (5, .int x5)] → f_X6_bestPlace_56 N S6 k14 x1 x2 x3 x4 x5 = some res → W p l e (headSpec wsX6_bestPlace { frames := 2, cells := 0, slots := 0, locals := 51 }).room s m args below meth c s.heap [] 0 0 (MQ below (vp_Si (fun r => r = res)) args s 0 0 (fun _ => False)) (F0 m 56 ls []) := by
  intro ls x1 x2 x3 x4 x5 hl hf
  obtain ⟨⟨hx, hb, hr, hml, hown, hts, hlk⟩, hK, hP⟩ := id C
  unfold f_X6_bestPlace_56 at hf
  refine lv_iinc (v := (x5 + 1)) (lv' := [(5, .int (x5 + 1)), (0, .ref (g.2.2.1 6)), (1, .int x1), (2, .int x2), (3, .int x3), (4, .int x4)]) (pc := 56) hx hb dX6_bestPlace_56 hl (k := 5) rfl rfl (by decide) rfl (fun ls hl => ?_)
  refine lv_goto (tgt := 14) (pc := 59) hx hb dX6_bestPlace_59 (by decide) ?_
  exact H14 ls x1 x2 x3 x4 (x5 + 1) (lv_sub hl [1, 2, 3, 4, 5, 0] rfl) hf
set_option maxHeartbeats 4000000 in
set_option maxRecDepth 100000 in
theorem w_X6_bestPlace_14_b {p : Program} {l : Launch} {e : Env} {s : State} {m : MethodId} {args : Array Value} {below : List Frame} {meth : Method} {c : Code} {g : En} {N : Nat} {S6 : St} {res : Int32} (C : cxr g (wd_6 g S6) cX6_bestPlace 7 (some .int) wsX6_bestPlace RX6 p s m args meth c) (k14 : Int32 → Int32 → Int32 → Int32 → Int32 → Option (Int32)) (H14 : ∀ (ls : Array Slot) (x1 : Int32) (x2 : Int32) (x3 : Int32) (x4 : Int32) (x5 : Int32), lv_has ls 7 [(0, .ref (g.2.2.1 6)), (1, .int x1), (2, .int x2), (3, .int x3), (4, .int x4), (5, .int x5)] → k14 x1 x2 x3 x4 x5 = some res → W p l e (headSpec wsX6_bestPlace { frames := 2, cells := 0, slots := 0, locals := 51 }).room s m args below meth c s.heap [] 0 0 (MQ below (vp_Si (fun r => r = res)) args s 0 0 (fun _ => False)) (F0 m 14 ls [])) : ∀ (ls : Array Slot) (x1 : Int32) (x2 : Int32) (x3 : Int32) (x4 : Int32) (x5 : Int32), lv_has ls 7 [(0, .ref (g.2.2.1 6)), (1, .int x1), (2, .int x2), (3, .int x3), (4, .int x4), (5, .int x5)] → f_X6_bestPlace_14_b N S6  k14 x1 x2 x3 x4 x5 = some res → W p l e (headSpec wsX6_bestPlace { frames := 2, cells := 0, slots := 0, locals := 51 }).room s m args below meth c s.heap [] 0 0 (MQ below (vp_Si (fun r => r = res)) args s 0 0 (fun _ => False)) (F0 m 14 ls []) := by
  intro ls x1 x2 x3 x4 x5 hl hf
  obtain ⟨⟨hx, hb, hr, hml, hown, hts, hlk⟩, hK, hP⟩ := id C
  unfold f_X6_bestPlace_14_b at hf
  refine lv_iload (pc := 14) hx hb dX6_bestPlace_14 (lv_at hl 5 rfl) ?_
  refine lv_aload_n (pc := 16) hx hb dX6_bestPlace_16 rfl (lv_at hl 0 rfl) ?_
  refine va_get (D := g.1) (ci := 6) (v := .ref (g.2.2.2 6 0)) (C := RX6) (T := TX6) (N := 2) (pc := 17) hx hb hts (fun _ h => List.mem_cons_of_mem _ (List.mem_append_right _ h)) hown hK hP 0 rfl rfl 0 (by decide) (hts _ q_X6_bestPlace_0) (fun _ h9 => h9) rfl dX6_bestPlace_17 ?_
  refine lv_iload_n (pc := 20) hx hb dX6_bestPlace_20 rfl (lv_at hl 2 rfl) ?_
  obtain ⟨b21, hf⟩ := gdE hf
  refine va_iald (D := g.1) (tys := tyl g) (f := (S6.2.2 0)) (pc := 21) hx hb hK hP 1 0 rfl rfl (inbV b21) dX6_bestPlace_21 ?_
  refine lv_aload_n (pc := 22) hx hb dX6_bestPlace_22 rfl (lv_at hl 0 rfl) ?_
  refine va_get (D := g.1) (ci := 6) (v := .ref (g.2.2.2 6 0)) (C := RX6) (T := TX6) (N := 2) (pc := 23) hx hb hts (fun _ h => List.mem_cons_of_mem _ (List.mem_append_right _ h)) hown hK hP 0 rfl rfl 0 (by decide) (hts _ q_X6_bestPlace_0) (fun _ h9 => h9) rfl dX6_bestPlace_23 ?_
  refine lv_iload_n (pc := 26) hx hb dX6_bestPlace_26 rfl (lv_at hl 1 rfl) ?_
  obtain ⟨b27, hf⟩ := gdE hf
  refine va_iald (D := g.1) (tys := tyl g) (f := (S6.2.2 0)) (pc := 27) hx hb hK hP 1 0 rfl rfl (inbV b27) dX6_bestPlace_27 ?_
  refine lv_isub (pc := 28) hx hb dX6_bestPlace_28 ?_
  refine lv_icmp_gt (tgt := 62) (pc := 29) hx hb dX6_bestPlace_29 (by decide) (fun c29 => ?_) (fun c29 => ?_)
  · have hf := ft hf c29
    refine lv_iload_n (pc := 62) hx hb dX6_bestPlace_62 rfl (lv_at hl 3 rfl) ?_
    have hf := Option.some.inj hf
    subst hf
    exact W.iret (v := x3) hx hb hr (fun t ht hW => ⟨_, rfl, rfl, ht⟩) (fun _ h => by cases h) dX6_bestPlace_63
  · have hf := ff hf c29
    refine lv_aload_n (pc := 32) hx hb dX6_bestPlace_32 rfl (lv_at hl 0 rfl) ?_
    refine lv_iload_n (pc := 33) hx hb dX6_bestPlace_33 rfl (lv_at hl 1 rfl) ?_
    refine lv_iload_n (pc := 34) hx hb dX6_bestPlace_34 rfl (lv_at hl 2 rfl) ?_
    refine lv_iload (pc := 35) hx hb dX6_bestPlace_35 (lv_at hl 5 rfl) ?_
    obtain ⟨r37, e37, hf⟩ := bdE hf
    refine krI (g := g) (wc := (wd_6 g S6)) (pc := 37) (As := [.int x1, .int x2, .int x5]) (rest := []) ⟨hx, hb, hml, hown, hts⟩ (c_X6_offAt l g N S6 x1 x2 x5 r37 e37) (cwV 3 hts gX6_bestPlace_X6_offAt rfl rfl rfl h_X6_offAt ⟨Nat.le_of_ble_eq_true rfl, Nat.le_of_ble_eq_true rfl⟩) hK hP rfl rfl rfl hl.1 rfl (Nat.le_of_ble_eq_true rfl) dX6_bestPlace_37 ⟨Nat.zero_le _, Nat.zero_le _⟩ ?_
    refine lv_istore (lv' := [(6, .int r37), (0, .ref (g.2.2.1 6)), (1, .int x1), (2, .int x2), (3, .int x3), (4, .int x4), (5, .int x5)]) (pc := 40) hx hb dX6_bestPlace_40 hl (by decide) rfl (fun ls hl => ?_)
    refine lv_iload (pc := 42) hx hb dX6_bestPlace_42 (lv_at hl 0 rfl) ?_
    refine lv_iload (pc := 44) hx hb dX6_bestPlace_44 (lv_at hl 5 rfl) ?_
    refine lv_icmp_ge (tgt := 56) (pc := 46) hx hb dX6_bestPlace_46 (by decide) (fun c46 => ?_) (fun c46 => ?_)
    · have hf := ft hf c46
      exact w_X6_bestPlace_56 C k14 H14 ls x1 x2 x3 x4 x5 (lv_sub hl [1, 2, 3, 4, 5, 6] rfl) hf
    · have hf := ff hf c46
      refine lv_iload (pc := 49) hx hb dX6_bestPlace_49 (lv_at hl 6 rfl) ?_
      refine lv_istore_n (lv' := [(3, .int x5), (6, .int r37), (0, .ref (g.2.2.1 6)), (1, .int x1), (2, .int x2), (4, .int x4), (5, .int x5)]) (pc := 51) hx hb dX6_bestPlace_51 rfl hl (by decide) rfl (fun ls hl => ?_)
      refine lv_iload (pc := 52) hx hb dX6_bestPlace_52 (lv_at hl 1 rfl) ?_
      refine lv_istore (lv' := [(4, .int r37), (3, .int x5), (6, .int r37), (0, .ref (g.2.2.1 6)), (1, .int x1), (2, .int x2), (5, .int x5)]) (pc := 54) hx hb dX6_bestPlace_54 hl (by decide) rfl (fun ls hl => ?_)
      exact w_X6_bestPlace_56 C k14 H14 ls x1 x2 x5 r37 x5 (lv_sub hl [3, 4, 5, 1, 0, 6] rfl) hf
set_option maxHeartbeats 4000000 in
set_option maxRecDepth 100000 in
theorem w_X6_bestPlace_14 {p : Program} {l : Launch} {e : Env} {s : State} {m : MethodId} {args : Array Value} {below : List Frame} {meth : Method} {c : Code} {g : En} {N : Nat} {S6 : St} {res : Int32} (C : cxr g (wd_6 g S6) cX6_bestPlace 7 (some .int) wsX6_bestPlace RX6 p s m args meth c) : ∀ (n : Nat), ∀ (ls : Array Slot) (x1 : Int32) (x2 : Int32) (x3 : Int32) (x4 : Int32) (x5 : Int32), lv_has ls 7 [(0, .ref (g.2.2.1 6)), (1, .int x1), (2, .int x2), (3, .int x3), (4, .int x4), (5, .int x5)] → f_X6_bestPlace_14 N S6  n x1 x2 x3 x4 x5 = some res → W p l e (headSpec wsX6_bestPlace { frames := 2, cells := 0, slots := 0, locals := 51 }).room s m args below meth c s.heap [] 0 0 (MQ below (vp_Si (fun r => r = res)) args s 0 0 (fun _ => False)) (F0 m 14 ls []) := by
  intro n
  induction n with
  | zero =>
    intro ls x1 x2 x3 x4 x5 hl hf
    have hf : (none : Option (Int32)) = some res := hf
    cases hf
  | succ n ih =>
    intro ls x1 x2 x3 x4 x5 hl hf
    exact w_X6_bestPlace_14_b C  (fun y0 y1 y2 y3 y4 => f_X6_bestPlace_14 N S6  n y0 y1 y2 y3 y4) ih ls x1 x2 x3 x4 x5 hl hf
set_option maxHeartbeats 4000000 in
set_option maxRecDepth 100000 in
theorem c_X6_bestPlace (l : Launch) (g : En) (N : Nat) (S6 : St) (x1 : Int32) (x2 : Int32) (res : Int32) (hf : f_X6_bestPlace N S6 x1 x2 = some res) : Met l yX6_bestPlace wsX6_bestPlace { frames := 2, cells := 0, slots := 0, locals := 51 } (roP g (wd_6 g S6) [.ref (g.2.2.1 6), .int x1, .int x2]) (vp_Si (fun r => r = res)) 0 0 (fun _ => False) := by
  refine Met.ofW (cc := cX6_bestPlace) (maxL := 7) (ret := (some .int)) (by decide) rfl ?_
  intro p e s m args below meth c s₁ B hml hv
  obtain ⟨rfl, hP, hK⟩ := hv
  have hx := B.exec
  have hb := B.bytes
  have hr := B.returns
  have hts := atoms_spec (ws := wsX6_bestPlace) B.pre
  have hown : s.vm.findClass RX6 = some m.cls := findClass_of_methodNamed B.named
  have hlk := B.notSynchronized
  have C : cxr g (wd_6 g S6) cX6_bestPlace 7 (some .int) wsX6_bestPlace RX6 p s m ([.ref (g.2.2.1 6), .int x1, .int x2] : List Value).toArray meth c := ⟨⟨hx, hb, hr, hml, hown, hts, hlk⟩, hK, hP⟩
  have hl := lv_entry [.ref (g.2.2.1 6), .int x1, .int x2] (n := 7) (Nat.le_of_ble_eq_true rfl)
  rw [lg_entry_eq]
  generalize (lg_sl [.ref (g.2.2.1 6), .int x1, .int x2] ++ List.replicate (7 - (lg_sl [.ref (g.2.2.1 6), .int x1, .int x2]).length) Slot.unset).toArray = ls at hl ⊢
  have hl : lv_has ls 7 [(0, .ref (g.2.2.1 6)), (1, .int x1), (2, .int x2)] := hl
  unfold f_X6_bestPlace at hf
  refine lv_iconst (v := 0) (pc := 0) hx hb dX6_bestPlace_0 (by decide) ?_
  refine lv_istore_n (lv' := [(3, .int 0), (0, .ref (g.2.2.1 6)), (1, .int x1), (2, .int x2)]) (pc := 1) hx hb dX6_bestPlace_1 rfl hl (by decide) rfl (fun ls hl => ?_)
  refine lv_aload_n (pc := 2) hx hb dX6_bestPlace_2 rfl (lv_at hl 1 rfl) ?_
  refine lv_iload_n (pc := 3) hx hb dX6_bestPlace_3 rfl (lv_at hl 2 rfl) ?_
  refine lv_iload_n (pc := 4) hx hb dX6_bestPlace_4 rfl (lv_at hl 3 rfl) ?_
  refine lv_iconst (v := 0) (pc := 5) hx hb dX6_bestPlace_5 (by decide) ?_
  obtain ⟨r6, e6, hf⟩ := bdE hf
  refine krI (g := g) (wc := (wd_6 g S6)) (pc := 6) (As := [.int x1, .int x2, .int 0]) (rest := []) ⟨hx, hb, hml, hown, hts⟩ (c_X6_offAt l g N S6 x1 x2 0 r6 e6) (cwV 3 hts gX6_bestPlace_X6_offAt rfl rfl rfl h_X6_offAt ⟨Nat.le_of_ble_eq_true rfl, Nat.le_of_ble_eq_true rfl⟩) hK hP rfl rfl rfl hl.1 rfl (Nat.le_of_ble_eq_true rfl) dX6_bestPlace_6 ⟨Nat.zero_le _, Nat.zero_le _⟩ ?_
  refine lv_istore (lv' := [(4, .int r6), (3, .int 0), (0, .ref (g.2.2.1 6)), (1, .int x1), (2, .int x2)]) (pc := 9) hx hb dX6_bestPlace_9 hl (by decide) rfl (fun ls hl => ?_)
  refine lv_iconst (v := 1) (pc := 11) hx hb dX6_bestPlace_11 (by decide) ?_
  refine lv_istore (lv' := [(5, .int 1), (4, .int r6), (3, .int 0), (0, .ref (g.2.2.1 6)), (1, .int x1), (2, .int x2)]) (pc := 12) hx hb dX6_bestPlace_12 hl (by decide) rfl (fun ls hl => ?_)
  exact w_X6_bestPlace_14 C  N ls x1 x2 0 r6 1 (lv_sub hl [3, 4, 5, 2, 1, 0] rfl) hf
theorem h_X6_isSure : yX6_isSure.cls = RX6 ∧ yX6_isSure.cls ≠ "java/lang/invoke/MethodHandle" ∧ yX6_isSure.cls ≠ "java/lang/invoke/VarHandle" ∧ (parseMethodDescriptor yX6_isSure.desc).map (fun d => d.parameters.length) = some 2 := by decide +kernel
set_option maxHeartbeats 4000000 in
set_option maxRecDepth 100000 in
theorem w_X6_isSure_88 {p : Program} {l : Launch} {e : Env} {s : State} {m : MethodId} {args : Array Value} {below : List Frame} {meth : Method} {c : Code} {g : En} {N : Nat} {S6 : St} {res : Int32} (C : cxr g (wd_6 g S6) cX6_isSure 6 (some .boolean) wsX6_isSure RX6 p s m args meth c) (k27 : Int32 → Int32 → Int32 → Int32 → Option (Int32)) (H27 : ∀ (ls : Array Slot) (x1 : Int32) (x2 : Int32) (x3 : Int32) (x4 : Int32), lv_has ls 6 [(0, .ref (g.2.2.1 6)), (1, .int x1), (2, .int x2), (3, .int x3), (4, .int x4)] → k27 x1 x2 x3 x4 = some res → W p l e (headSpec wsX6_isSure { frames := 3, cells := 0, slots := 0, locals := 77 }).room s m args below meth c s.heap [] 0 0 (MQ below (vp_Si (fun r => r = res)) args s 0 0 (fun _ => False)) (F0 m 27 ls [])) : ∀ (ls : Array Slot) (x1 : Int32) (x2 : Int32) (x3 : Int32) (x4 : Int32), lv_has ls 6 [(0, .ref (g.2.2.1 6)), (1, .int x1), (2, .int x2), (3, .int x3), (4, .int x4)] → f_X6_isSure_88 N S6 k27 x1 x2 x3 x4 = some res → W p l e (headSpec wsX6_isSure { frames := 3, cells := 0, slots := 0, locals := 77 }).room s m args below meth c s.heap [] 0 0 (MQ below (vp_Si (fun r => r = res)) args s 0 0 (fun _ => False)) (F0 m 88 ls []) := by
  intro ls x1 x2 x3 x4 hl hf
  obtain ⟨⟨hx, hb, hr, hml, hown, hts, hlk⟩, hK, hP⟩ := id C
  unfold f_X6_isSure_88 at hf
  refine lv_iinc (v := (x4 + 1)) (lv' := [(4, .int (x4 + 1)), (0, .ref (g.2.2.1 6)), (1, .int x1), (2, .int x2), (3, .int x3)]) (pc := 88) hx hb dX6_isSure_88 hl (k := 4) rfl rfl (by decide) rfl (fun ls hl => ?_)
  refine lv_goto (tgt := 27) (pc := 91) hx hb dX6_isSure_91 (by decide) ?_
  exact H27 ls x1 x2 x3 (x4 + 1) (lv_sub hl [1, 2, 3, 4, 0] rfl) hf
set_option maxHeartbeats 4000000 in
set_option maxRecDepth 100000 in
theorem w_X6_isSure_61 {p : Program} {l : Launch} {e : Env} {s : State} {m : MethodId} {args : Array Value} {below : List Frame} {meth : Method} {c : Code} {g : En} {N : Nat} {S6 : St} {res : Int32} (C : cxr g (wd_6 g S6) cX6_isSure 6 (some .boolean) wsX6_isSure RX6 p s m args meth c) (k27 : Int32 → Int32 → Int32 → Int32 → Option (Int32)) (H27 : ∀ (ls : Array Slot) (x1 : Int32) (x2 : Int32) (x3 : Int32) (x4 : Int32), lv_has ls 6 [(0, .ref (g.2.2.1 6)), (1, .int x1), (2, .int x2), (3, .int x3), (4, .int x4)] → k27 x1 x2 x3 x4 = some res → W p l e (headSpec wsX6_isSure { frames := 3, cells := 0, slots := 0, locals := 77 }).room s m args below meth c s.heap [] 0 0 (MQ below (vp_Si (fun r => r = res)) args s 0 0 (fun _ => False)) (F0 m 27 ls [])) : ∀ (ls : Array Slot) (x1 : Int32) (x2 : Int32) (x3 : Int32) (x4 : Int32) (t0 : Int32), lv_has ls 6 [(0, .ref (g.2.2.1 6)), (1, .int x1), (2, .int x2), (3, .int x3), (4, .int x4)] → f_X6_isSure_61 N S6 k27 x1 x2 x3 x4 t0 = some res → W p l e (headSpec wsX6_isSure { frames := 3, cells := 0, slots := 0, locals := 77 }).room s m args below meth c s.heap [] 0 0 (MQ below (vp_Si (fun r => r = res)) args s 0 0 (fun _ => False)) (F0 m 61 ls [.int t0]) := by
  intro ls x1 x2 x3 x4 t0 hl hf
  obtain ⟨⟨hx, hb, hr, hml, hown, hts, hlk⟩, hK, hP⟩ := id C
  unfold f_X6_isSure_61 at hf
  refine lv_istore (lv' := [(5, .int t0), (0, .ref (g.2.2.1 6)), (1, .int x1), (2, .int x2), (3, .int x3), (4, .int x4)]) (pc := 61) hx hb dX6_isSure_61 hl (by decide) rfl (fun ls hl => ?_)
  refine lv_iload (pc := 63) hx hb dX6_isSure_63 (lv_at hl 0 rfl) ?_
  refine lv_if_eq (tgt := 88) (pc := 65) hx hb dX6_isSure_65 (by decide) (fun c65 => ?_) (fun c65 => ?_)
  · have hf := ft hf c65
    exact w_X6_isSure_88 C k27 H27 ls x1 x2 x3 x4 (lv_sub hl [1, 2, 3, 4, 5] rfl) hf
  · have hf := ff hf c65
    refine lv_aload_n (pc := 68) hx hb dX6_isSure_68 rfl (lv_at hl 1 rfl) ?_
    refine lv_iload_n (pc := 69) hx hb dX6_isSure_69 rfl (lv_at hl 2 rfl) ?_
    refine lv_iload (pc := 70) hx hb dX6_isSure_70 (lv_at hl 5 rfl) ?_
    refine lv_aload_n (pc := 72) hx hb dX6_isSure_72 rfl (lv_at hl 1 rfl) ?_
    refine lv_iload_n (pc := 73) hx hb dX6_isSure_73 rfl (lv_at hl 2 rfl) ?_
    refine lv_iload (pc := 74) hx hb dX6_isSure_74 (lv_at hl 5 rfl) ?_
    obtain ⟨r76, e76, hf⟩ := bdE hf
    refine krI (g := g) (wc := (wd_6 g S6)) (pc := 76) (As := [.int x1, .int x4]) (rest := [.int x4, .int x1, .ref (g.2.2.1 6)]) ⟨hx, hb, hml, hown, hts⟩ (c_X6_bestPlace l g N S6 x1 x4 r76 e76) (cwV 2 hts gX6_isSure_X6_bestPlace rfl rfl rfl h_X6_bestPlace ⟨Nat.le_of_ble_eq_true rfl, Nat.le_of_ble_eq_true rfl⟩) hK hP rfl rfl rfl hl.1 rfl (Nat.le_of_ble_eq_true rfl) dX6_isSure_76 ⟨Nat.zero_le _, Nat.zero_le _⟩ ?_
    obtain ⟨r79, e79, hf⟩ := bdE hf
    refine krI (g := g) (wc := (wd_6 g S6)) (pc := 79) (As := [.int x1, .int x4, .int r76]) (rest := []) ⟨hx, hb, hml, hown, hts⟩ (c_X6_offAt l g N S6 x1 x4 r76 r79 e79) (cwV 3 hts gX6_isSure_X6_offAt rfl rfl rfl h_X6_offAt ⟨Nat.le_of_ble_eq_true rfl, Nat.le_of_ble_eq_true rfl⟩) hK hP rfl rfl rfl hl.1 rfl (Nat.le_of_ble_eq_true rfl) dX6_isSure_79 ⟨Nat.zero_le _, Nat.zero_le _⟩ ?_
    refine lv_iload_n (pc := 82) hx hb dX6_isSure_82 rfl (lv_at hl 4 rfl) ?_
    refine lv_icmp_gt (tgt := 88) (pc := 83) hx hb dX6_isSure_83 (by decide) (fun c83 => ?_) (fun c83 => ?_)
    · have hf := ft hf c83
      exact w_X6_isSure_88 C k27 H27 ls x1 x2 x3 x4 (lv_sub hl [1, 2, 3, 4, 5] rfl) hf
    · have hf := ff hf c83
      refine lv_iconst (v := 0) (pc := 86) hx hb dX6_isSure_86 (by decide) ?_
      have hf := Option.some.inj hf
      subst hf
      exact W.zret (v := 0) hx hb hr rfl (fun t ht hW => ⟨_, rfl, rfl, ht⟩) (fun _ h => by cases h) dX6_isSure_87
set_option maxHeartbeats 4000000 in
set_option maxRecDepth 100000 in
theorem w_X6_isSure_60 {p : Program} {l : Launch} {e : Env} {s : State} {m : MethodId} {args : Array Value} {below : List Frame} {meth : Method} {c : Code} {g : En} {N : Nat} {S6 : St} {res : Int32} (C : cxr g (wd_6 g S6) cX6_isSure 6 (some .boolean) wsX6_isSure RX6 p s m args meth c) (k27 : Int32 → Int32 → Int32 → Int32 → Option (Int32)) (H27 : ∀ (ls : Array Slot) (x1 : Int32) (x2 : Int32) (x3 : Int32) (x4 : Int32), lv_has ls 6 [(0, .ref (g.2.2.1 6)), (1, .int x1), (2, .int x2), (3, .int x3), (4, .int x4)] → k27 x1 x2 x3 x4 = some res → W p l e (headSpec wsX6_isSure { frames := 3, cells := 0, slots := 0, locals := 77 }).room s m args below meth c s.heap [] 0 0 (MQ below (vp_Si (fun r => r = res)) args s 0 0 (fun _ => False)) (F0 m 27 ls [])) : ∀ (ls : Array Slot) (x1 : Int32) (x2 : Int32) (x3 : Int32) (x4 : Int32), lv_has ls 6 [(0, .ref (g.2.2.1 6)), (1, .int x1), (2, .int x2), (3, .int x3), (4, .int x4)] → f_X6_isSure_60 N S6 k27 x1 x2 x3 x4 = some res → W p l e (headSpec wsX6_isSure { frames := 3, cells := 0, slots := 0, locals := 77 }).room s m args below meth c s.heap [] 0 0 (MQ below (vp_Si (fun r => r = res)) args s 0 0 (fun _ => False)) (F0 m 60 ls []) := by
  intro ls x1 x2 x3 x4 hl hf
  obtain ⟨⟨hx, hb, hr, hml, hown, hts, hlk⟩, hK, hP⟩ := id C
  unfold f_X6_isSure_60 at hf
  refine lv_iconst (v := 0) (pc := 60) hx hb dX6_isSure_60 (by decide) ?_
  exact w_X6_isSure_61 C k27 H27 ls x1 x2 x3 x4 0 (lv_sub hl [0, 1, 2, 3, 4] rfl) hf
set_option maxHeartbeats 4000000 in
set_option maxRecDepth 100000 in
theorem w_X6_isSure_27_b {p : Program} {l : Launch} {e : Env} {s : State} {m : MethodId} {args : Array Value} {below : List Frame} {meth : Method} {c : Code} {g : En} {N : Nat} {S6 : St} {res : Int32} (C : cxr g (wd_6 g S6) cX6_isSure 6 (some .boolean) wsX6_isSure RX6 p s m args meth c) (k27 : Int32 → Int32 → Int32 → Int32 → Option (Int32)) (H27 : ∀ (ls : Array Slot) (x1 : Int32) (x2 : Int32) (x3 : Int32) (x4 : Int32), lv_has ls 6 [(0, .ref (g.2.2.1 6)), (1, .int x1), (2, .int x2), (3, .int x3), (4, .int x4)] → k27 x1 x2 x3 x4 = some res → W p l e (headSpec wsX6_isSure { frames := 3, cells := 0, slots := 0, locals := 77 }).room s m args below meth c s.heap [] 0 0 (MQ below (vp_Si (fun r => r = res)) args s 0 0 (fun _ => False)) (F0 m 27 ls [])) : ∀ (ls : Array Slot) (x1 : Int32) (x2 : Int32) (x3 : Int32) (x4 : Int32), lv_has ls 6 [(0, .ref (g.2.2.1 6)), (1, .int x1), (2, .int x2), (3, .int x3), (4, .int x4)] → f_X6_isSure_27_b N S6  k27 x1 x2 x3 x4 = some res → W p l e (headSpec wsX6_isSure { frames := 3, cells := 0, slots := 0, locals := 77 }).room s m args below meth c s.heap [] 0 0 (MQ below (vp_Si (fun r => r = res)) args s 0 0 (fun _ => False)) (F0 m 27 ls []) := by
  intro ls x1 x2 x3 x4 hl hf
  obtain ⟨⟨hx, hb, hr, hml, hown, hts, hlk⟩, hK, hP⟩ := id C
  unfold f_X6_isSure_27_b at hf
  refine lv_iload (pc := 27) hx hb dX6_isSure_27 (lv_at hl 4 rfl) ?_
  refine lv_bipush (v := 6) (pc := 29) hx hb dX6_isSure_29 (by decide) ?_
  refine lv_icmp_ge (tgt := 94) (pc := 31) hx hb dX6_isSure_31 (by decide) (fun c31 => ?_) (fun c31 => ?_)
  · have hf := ft hf c31
    refine lv_iconst (v := 1) (pc := 94) hx hb dX6_isSure_94 (by decide) ?_
    have hf := Option.some.inj hf
    subst hf
    exact W.zret (v := 1) hx hb hr rfl (fun t ht hW => ⟨_, rfl, rfl, ht⟩) (fun _ h => by cases h) dX6_isSure_95
  · have hf := ff hf c31
    refine lv_iload (pc := 34) hx hb dX6_isSure_34 (lv_at hl 4 rfl) ?_
    refine lv_iload_n (pc := 36) hx hb dX6_isSure_36 rfl (lv_at hl 1 rfl) ?_
    refine lv_icmp_eq (tgt := 60) (pc := 37) hx hb dX6_isSure_37 (by decide) (fun c37 => ?_) (fun c37 => ?_)
    · have hf := ft hf c37
      exact w_X6_isSure_60 C k27 H27 ls x1 x2 x3 x4 (lv_sub hl [0, 1, 2, 3, 4] rfl) hf
    · have hf := ff hf c37
      refine lv_iload (pc := 40) hx hb dX6_isSure_40 (lv_at hl 4 rfl) ?_
      refine lv_iload_n (pc := 42) hx hb dX6_isSure_42 rfl (lv_at hl 2 rfl) ?_
      refine lv_icmp_eq (tgt := 60) (pc := 43) hx hb dX6_isSure_43 (by decide) (fun c43 => ?_) (fun c43 => ?_)
      · have hf := ft hf c43
        exact w_X6_isSure_60 C k27 H27 ls x1 x2 x3 x4 (lv_sub hl [0, 1, 2, 3, 4] rfl) hf
      · have hf := ff hf c43
        refine lv_aload_n (pc := 46) hx hb dX6_isSure_46 rfl (lv_at hl 0 rfl) ?_
        refine lv_iload_n (pc := 47) hx hb dX6_isSure_47 rfl (lv_at hl 1 rfl) ?_
        refine lv_iload (pc := 48) hx hb dX6_isSure_48 (lv_at hl 4 rfl) ?_
        obtain ⟨r50, e50, hf⟩ := bdE hf
        refine krI (g := g) (wc := (wd_6 g S6)) (pc := 50) (As := [.int x1, .int x4]) (rest := []) ⟨hx, hb, hml, hown, hts⟩ (c_X6_canMatch l g N S6 x1 x4 r50 e50) (cwV 2 hts gX6_isSure_X6_canMatch rfl rfl rfl h_X6_canMatch ⟨Nat.le_of_ble_eq_true rfl, Nat.le_of_ble_eq_true rfl⟩) hK hP rfl rfl rfl hl.1 rfl (Nat.le_of_ble_eq_true rfl) dX6_isSure_50 ⟨Nat.zero_le _, Nat.zero_le _⟩ ?_
        refine lv_if_eq (tgt := 60) (pc := 53) hx hb dX6_isSure_53 (by decide) (fun c53 => ?_) (fun c53 => ?_)
        · have hf := ft hf c53
          exact w_X6_isSure_60 C k27 H27 ls x1 x2 x3 x4 (lv_sub hl [0, 1, 2, 3, 4] rfl) hf
        · have hf := ff hf c53
          refine lv_iconst (v := 1) (pc := 56) hx hb dX6_isSure_56 (by decide) ?_
          refine lv_goto (tgt := 61) (pc := 57) hx hb dX6_isSure_57 (by decide) ?_
          exact w_X6_isSure_61 C k27 H27 ls x1 x2 x3 x4 1 (lv_sub hl [0, 1, 2, 3, 4] rfl) hf
set_option maxHeartbeats 4000000 in
set_option maxRecDepth 100000 in
theorem w_X6_isSure_27 {p : Program} {l : Launch} {e : Env} {s : State} {m : MethodId} {args : Array Value} {below : List Frame} {meth : Method} {c : Code} {g : En} {N : Nat} {S6 : St} {res : Int32} (C : cxr g (wd_6 g S6) cX6_isSure 6 (some .boolean) wsX6_isSure RX6 p s m args meth c) : ∀ (n : Nat), ∀ (ls : Array Slot) (x1 : Int32) (x2 : Int32) (x3 : Int32) (x4 : Int32), lv_has ls 6 [(0, .ref (g.2.2.1 6)), (1, .int x1), (2, .int x2), (3, .int x3), (4, .int x4)] → f_X6_isSure_27 N S6  n x1 x2 x3 x4 = some res → W p l e (headSpec wsX6_isSure { frames := 3, cells := 0, slots := 0, locals := 77 }).room s m args below meth c s.heap [] 0 0 (MQ below (vp_Si (fun r => r = res)) args s 0 0 (fun _ => False)) (F0 m 27 ls []) := by
  intro n
  induction n with
  | zero =>
    intro ls x1 x2 x3 x4 hl hf
    have hf : (none : Option (Int32)) = some res := hf
    cases hf
  | succ n ih =>
    intro ls x1 x2 x3 x4 hl hf
    exact w_X6_isSure_27_b C  (fun y0 y1 y2 y3 => f_X6_isSure_27 N S6  n y0 y1 y2 y3) ih ls x1 x2 x3 x4 hl hf
set_option maxHeartbeats 4000000 in
set_option maxRecDepth 100000 in
theorem c_X6_isSure (l : Launch) (g : En) (N : Nat) (S6 : St) (x1 : Int32) (x2 : Int32) (res : Int32) (hf : f_X6_isSure N S6 x1 x2 = some res) : Met l yX6_isSure wsX6_isSure { frames := 3, cells := 0, slots := 0, locals := 77 } (roP g (wd_6 g S6) [.ref (g.2.2.1 6), .int x1, .int x2]) (vp_Si (fun r => r = res)) 0 0 (fun _ => False) := by
  refine Met.ofW (cc := cX6_isSure) (maxL := 6) (ret := (some .boolean)) (by decide) rfl ?_
  intro p e s m args below meth c s₁ B hml hv
  obtain ⟨rfl, hP, hK⟩ := hv
  have hx := B.exec
  have hb := B.bytes
  have hr := B.returns
  have hts := atoms_spec (ws := wsX6_isSure) B.pre
  have hown : s.vm.findClass RX6 = some m.cls := findClass_of_methodNamed B.named
  have hlk := B.notSynchronized
  have C : cxr g (wd_6 g S6) cX6_isSure 6 (some .boolean) wsX6_isSure RX6 p s m ([.ref (g.2.2.1 6), .int x1, .int x2] : List Value).toArray meth c := ⟨⟨hx, hb, hr, hml, hown, hts, hlk⟩, hK, hP⟩
  have hl := lv_entry [.ref (g.2.2.1 6), .int x1, .int x2] (n := 6) (Nat.le_of_ble_eq_true rfl)
  rw [lg_entry_eq]
  generalize (lg_sl [.ref (g.2.2.1 6), .int x1, .int x2] ++ List.replicate (6 - (lg_sl [.ref (g.2.2.1 6), .int x1, .int x2]).length) Slot.unset).toArray = ls at hl ⊢
  have hl : lv_has ls 6 [(0, .ref (g.2.2.1 6)), (1, .int x1), (2, .int x2)] := hl
  unfold f_X6_isSure at hf
  refine lv_aload_n (pc := 0) hx hb dX6_isSure_0 rfl (lv_at hl 0 rfl) ?_
  refine lv_iload_n (pc := 1) hx hb dX6_isSure_1 rfl (lv_at hl 1 rfl) ?_
  refine lv_iload_n (pc := 2) hx hb dX6_isSure_2 rfl (lv_at hl 2 rfl) ?_
  obtain ⟨r3, e3, hf⟩ := bdE hf
  refine krI (g := g) (wc := (wd_6 g S6)) (pc := 3) (As := [.int x1, .int x2]) (rest := []) ⟨hx, hb, hml, hown, hts⟩ (c_X6_canMatch l g N S6 x1 x2 r3 e3) (cwV 2 hts gX6_isSure_X6_canMatch rfl rfl rfl h_X6_canMatch ⟨Nat.le_of_ble_eq_true rfl, Nat.le_of_ble_eq_true rfl⟩) hK hP rfl rfl rfl hl.1 rfl (Nat.le_of_ble_eq_true rfl) dX6_isSure_3 ⟨Nat.zero_le _, Nat.zero_le _⟩ ?_
  refine lv_if_ne (tgt := 11) (pc := 6) hx hb dX6_isSure_6 (by decide) (fun c6 => ?_) (fun c6 => ?_)
  · have hf := ff hf c6
    refine lv_aload_n (pc := 11) hx hb dX6_isSure_11 rfl (lv_at hl 0 rfl) ?_
    refine lv_iload_n (pc := 12) hx hb dX6_isSure_12 rfl (lv_at hl 1 rfl) ?_
    refine lv_iload_n (pc := 13) hx hb dX6_isSure_13 rfl (lv_at hl 2 rfl) ?_
    refine lv_aload_n (pc := 14) hx hb dX6_isSure_14 rfl (lv_at hl 0 rfl) ?_
    refine lv_iload_n (pc := 15) hx hb dX6_isSure_15 rfl (lv_at hl 1 rfl) ?_
    refine lv_iload_n (pc := 16) hx hb dX6_isSure_16 rfl (lv_at hl 2 rfl) ?_
    obtain ⟨r17, e17, hf⟩ := bdE hf
    refine krI (g := g) (wc := (wd_6 g S6)) (pc := 17) (As := [.int x1, .int x2]) (rest := [.int x2, .int x1, .ref (g.2.2.1 6)]) ⟨hx, hb, hml, hown, hts⟩ (c_X6_bestPlace l g N S6 x1 x2 r17 e17) (cwV 2 hts gX6_isSure_X6_bestPlace rfl rfl rfl h_X6_bestPlace ⟨Nat.le_of_ble_eq_true rfl, Nat.le_of_ble_eq_true rfl⟩) hK hP rfl rfl rfl hl.1 rfl (Nat.le_of_ble_eq_true rfl) dX6_isSure_17 ⟨Nat.zero_le _, Nat.zero_le _⟩ ?_
    obtain ⟨r20, e20, hf⟩ := bdE hf
    refine krI (g := g) (wc := (wd_6 g S6)) (pc := 20) (As := [.int x1, .int x2, .int r17]) (rest := []) ⟨hx, hb, hml, hown, hts⟩ (c_X6_offAt l g N S6 x1 x2 r17 r20 e20) (cwV 3 hts gX6_isSure_X6_offAt rfl rfl rfl h_X6_offAt ⟨Nat.le_of_ble_eq_true rfl, Nat.le_of_ble_eq_true rfl⟩) hK hP rfl rfl rfl hl.1 rfl (Nat.le_of_ble_eq_true rfl) dX6_isSure_20 ⟨Nat.zero_le _, Nat.zero_le _⟩ ?_
    refine lv_istore_n (lv' := [(3, .int r20), (0, .ref (g.2.2.1 6)), (1, .int x1), (2, .int x2)]) (pc := 23) hx hb dX6_isSure_23 rfl hl (by decide) rfl (fun ls hl => ?_)
    refine lv_iconst (v := 0) (pc := 24) hx hb dX6_isSure_24 (by decide) ?_
    refine lv_istore (lv' := [(4, .int 0), (3, .int r20), (0, .ref (g.2.2.1 6)), (1, .int x1), (2, .int x2)]) (pc := 25) hx hb dX6_isSure_25 hl (by decide) rfl (fun ls hl => ?_)
    exact w_X6_isSure_27 C  N ls x1 x2 r20 0 (lv_sub hl [2, 3, 4, 1, 0] rfl) hf
  · have hf := ft hf c6
    refine lv_iconst (v := 0) (pc := 9) hx hb dX6_isSure_9 (by decide) ?_
    have hf := Option.some.inj hf
    subst hf
    exact W.zret (v := 0) hx hb hr rfl (fun t ht hW => ⟨_, rfl, rfl, ht⟩) (fun _ h => by cases h) dX6_isSure_10
theorem q_X6_mixInto_0 : (.fieldLink RX6 9 "PictureCourt$Rows" "sizes" "[I" : Cond) ∈ wsX6_mixInto := by decide +kernel
theorem q_X6_mixInto_1 : (.constantLong RX6 43 31 : Cond) ∈ wsX6_mixInto := by decide +kernel
theorem q_X6_mixInto_2 : (.fieldLink RX6 15 "PictureCourt$Rows" "bytes" "[B" : Cond) ∈ wsX6_mixInto := by decide +kernel
theorem h_X6_mixInto : yX6_mixInto.cls = RX6 ∧ yX6_mixInto.cls ≠ "java/lang/invoke/MethodHandle" ∧ yX6_mixInto.cls ≠ "java/lang/invoke/VarHandle" ∧ (parseMethodDescriptor yX6_mixInto.desc).map (fun d => d.parameters.length) = some 1 := by decide +kernel
set_option maxHeartbeats 4000000 in
set_option maxRecDepth 100000 in
theorem w_X6_mixInto_25_b {p : Program} {l : Launch} {e : Env} {s : State} {m : MethodId} {args : Array Value} {below : List Frame} {meth : Method} {c : Code} {g : En} {N : Nat} {S6 : St} {res : Int64} (C : cxr g (wd_6 g S6) cX6_mixInto 5 (some .long) wsX6_mixInto RX6 p s m args meth c) (k2 : Int64 → Int32 → Option (Int64)) (H2 : ∀ (ls : Array Slot) (x1 : Int64) (x3 : Int32), lv_has ls 5 [(0, .ref (g.2.2.1 6)), (1, .long x1), (3, .int x3)] → k2 x1 x3 = some res → W p l e (headSpec wsX6_mixInto { frames := 0, cells := 0, slots := 0, locals := 0 }).room s m args below meth c s.heap [] 0 0 (MQ below (vp_Sl (fun r => r = res)) args s 0 0 (fun _ => False)) (F0 m 2 ls [])) (k25 : Int64 → Int32 → Int32 → Option (Int64)) (H25 : ∀ (ls : Array Slot) (x1 : Int64) (x3 : Int32) (x4 : Int32), lv_has ls 5 [(0, .ref (g.2.2.1 6)), (1, .long x1), (3, .int x3), (4, .int x4)] → k25 x1 x3 x4 = some res → W p l e (headSpec wsX6_mixInto { frames := 0, cells := 0, slots := 0, locals := 0 }).room s m args below meth c s.heap [] 0 0 (MQ below (vp_Sl (fun r => r = res)) args s 0 0 (fun _ => False)) (F0 m 25 ls [])) : ∀ (ls : Array Slot) (x1 : Int64) (x3 : Int32) (x4 : Int32), lv_has ls 5 [(0, .ref (g.2.2.1 6)), (1, .long x1), (3, .int x3), (4, .int x4)] → f_X6_mixInto_25_b N S6 k2 k25 x1 x3 x4 = some res → W p l e (headSpec wsX6_mixInto { frames := 0, cells := 0, slots := 0, locals := 0 }).room s m args below meth c s.heap [] 0 0 (MQ below (vp_Sl (fun r => r = res)) args s 0 0 (fun _ => False)) (F0 m 25 ls []) := by
  intro ls x1 x3 x4 hl hf
  obtain ⟨⟨hx, hb, hr, hml, hown, hts, hlk⟩, hK, hP⟩ := id C
  unfold f_X6_mixInto_25_b at hf
  refine lv_iload (pc := 25) hx hb dX6_mixInto_25 (lv_at hl 3 rfl) ?_
  refine lv_aload_n (pc := 27) hx hb dX6_mixInto_27 rfl (lv_at hl 0 rfl) ?_
  refine va_get (D := g.1) (ci := 6) (v := .ref (g.2.2.2 6 0)) (C := RX6) (T := TX6) (N := 2) (pc := 28) hx hb hts (fun _ h => List.mem_cons_of_mem _ (List.mem_append_right _ h)) hown hK hP 0 rfl rfl 0 (by decide) (hts _ q_X6_mixInto_0) (fun _ h9 => h9) rfl dX6_mixInto_28 ?_
  refine lv_iload_n (pc := 31) hx hb dX6_mixInto_31 rfl (lv_at hl 2 rfl) ?_
  obtain ⟨b32, hf⟩ := gdE hf
  refine va_iald (D := g.1) (tys := tyl g) (f := (S6.2.2 0)) (pc := 32) hx hb hK hP 1 0 rfl rfl (inbV b32) dX6_mixInto_32 ?_
  refine lv_icmp_ge (tgt := 62) (pc := 33) hx hb dX6_mixInto_33 (by decide) (fun c33 => ?_) (fun c33 => ?_)
  · have hf := ft hf c33
    refine lv_iinc (v := (x3 + 1)) (lv' := [(3, .int (x3 + 1)), (0, .ref (g.2.2.1 6)), (1, .long x1), (4, .int x4)]) (pc := 62) hx hb dX6_mixInto_62 hl (k := 2) rfl rfl (by decide) rfl (fun ls hl => ?_)
    refine lv_goto (tgt := 2) (pc := 65) hx hb dX6_mixInto_65 (by decide) ?_
    exact H2 ls x1 (x3 + 1) (lv_sub hl [1, 2, 0] rfl) hf
  · have hf := ff hf c33
    refine lv_ldc2 (v := 31) (pc := 36) hx hb hown (hts _ q_X6_mixInto_1) dX6_mixInto_36 ?_
    refine lv_lload_n (pc := 39) hx hb dX6_mixInto_39 rfl (lv_at hl 1 rfl) ?_
    refine lv_lmul (pc := 40) hx hb dX6_mixInto_40 ?_
    refine lv_aload_n (pc := 41) hx hb dX6_mixInto_41 rfl (lv_at hl 0 rfl) ?_
    refine va_get (D := g.1) (ci := 6) (v := .ref (g.2.2.2 6 1)) (C := RX6) (T := TX6) (N := 2) (pc := 42) hx hb hts (fun _ h => List.mem_cons_of_mem _ (List.mem_append_right _ h)) hown hK hP 0 rfl rfl 1 (by decide) (hts _ q_X6_mixInto_2) (fun _ h9 => h9) rfl dX6_mixInto_42 ?_
    refine lv_iload_n (pc := 45) hx hb dX6_mixInto_45 rfl (lv_at hl 2 rfl) ?_
    refine lv_bipush (v := 40) (pc := 46) hx hb dX6_mixInto_46 (by decide) ?_
    refine lv_imul (pc := 48) hx hb dX6_mixInto_48 ?_
    refine lv_iload (pc := 49) hx hb dX6_mixInto_49 (lv_at hl 3 rfl) ?_
    refine lv_iadd (pc := 51) hx hb dX6_mixInto_51 ?_
    obtain ⟨b52, hf⟩ := gdE hf
    refine va_bald (D := g.1) (tys := tyl g) (f := (S6.2.2 1)) (pc := 52) hx hb hK hP 2 1 rfl rfl (inbV b52) dX6_mixInto_52 ?_
    refine lv_i2l (pc := 53) hx hb dX6_mixInto_53 rfl ?_
    refine lv_ladd (pc := 54) hx hb dX6_mixInto_54 ?_
    refine lv_lstore_n (lv' := [(1, .long ((31 * x1) + (Int32.toInt64 ((S6.2.2 1) (Int32.toNatClampNeg ((x3 * 40) + x4)))))), (0, .ref (g.2.2.1 6)), (3, .int x3), (4, .int x4)]) (pc := 55) hx hb dX6_mixInto_55 rfl hl (by decide) rfl (fun ls hl => ?_)
    refine lv_iinc (v := (x4 + 1)) (lv' := [(4, .int (x4 + 1)), (1, .long ((31 * x1) + (Int32.toInt64 ((S6.2.2 1) (Int32.toNatClampNeg ((x3 * 40) + x4)))))), (0, .ref (g.2.2.1 6)), (3, .int x3)]) (pc := 56) hx hb dX6_mixInto_56 hl (k := 3) rfl rfl (by decide) rfl (fun ls hl => ?_)
    refine lv_goto (tgt := 25) (pc := 59) hx hb dX6_mixInto_59 (by decide) ?_
    exact H25 ls ((31 * x1) + (Int32.toInt64 ((S6.2.2 1) (Int32.toNatClampNeg ((x3 * 40) + x4))))) x3 (x4 + 1) (lv_sub hl [2, 1, 3, 0] rfl) hf
set_option maxHeartbeats 4000000 in
set_option maxRecDepth 100000 in
theorem w_X6_mixInto_25 {p : Program} {l : Launch} {e : Env} {s : State} {m : MethodId} {args : Array Value} {below : List Frame} {meth : Method} {c : Code} {g : En} {N : Nat} {S6 : St} {res : Int64} (C : cxr g (wd_6 g S6) cX6_mixInto 5 (some .long) wsX6_mixInto RX6 p s m args meth c) (k2 : Int64 → Int32 → Option (Int64)) (H2 : ∀ (ls : Array Slot) (x1 : Int64) (x3 : Int32), lv_has ls 5 [(0, .ref (g.2.2.1 6)), (1, .long x1), (3, .int x3)] → k2 x1 x3 = some res → W p l e (headSpec wsX6_mixInto { frames := 0, cells := 0, slots := 0, locals := 0 }).room s m args below meth c s.heap [] 0 0 (MQ below (vp_Sl (fun r => r = res)) args s 0 0 (fun _ => False)) (F0 m 2 ls [])) : ∀ (n : Nat), ∀ (ls : Array Slot) (x1 : Int64) (x3 : Int32) (x4 : Int32), lv_has ls 5 [(0, .ref (g.2.2.1 6)), (1, .long x1), (3, .int x3), (4, .int x4)] → f_X6_mixInto_25 N S6 k2 n x1 x3 x4 = some res → W p l e (headSpec wsX6_mixInto { frames := 0, cells := 0, slots := 0, locals := 0 }).room s m args below meth c s.heap [] 0 0 (MQ below (vp_Sl (fun r => r = res)) args s 0 0 (fun _ => False)) (F0 m 25 ls []) := by
  intro n
  induction n with
  | zero =>
    intro ls x1 x3 x4 hl hf
    have hf : (none : Option (Int64)) = some res := hf
    cases hf
  | succ n ih =>
    intro ls x1 x3 x4 hl hf
    exact w_X6_mixInto_25_b C k2 H2 (fun y0 y1 y2 => f_X6_mixInto_25 N S6 k2 n y0 y1 y2) ih ls x1 x3 x4 hl hf
set_option maxHeartbeats 4000000 in
set_option maxRecDepth 100000 in
theorem w_X6_mixInto_2_b {p : Program} {l : Launch} {e : Env} {s : State} {m : MethodId} {args : Array Value} {below : List Frame} {meth : Method} {c : Code} {g : En} {N : Nat} {S6 : St} {res : Int64} (C : cxr g (wd_6 g S6) cX6_mixInto 5 (some .long) wsX6_mixInto RX6 p s m args meth c) (k2 : Int64 → Int32 → Option (Int64)) (H2 : ∀ (ls : Array Slot) (x1 : Int64) (x3 : Int32), lv_has ls 5 [(0, .ref (g.2.2.1 6)), (1, .long x1), (3, .int x3)] → k2 x1 x3 = some res → W p l e (headSpec wsX6_mixInto { frames := 0, cells := 0, slots := 0, locals := 0 }).room s m args below meth c s.heap [] 0 0 (MQ below (vp_Sl (fun r => r = res)) args s 0 0 (fun _ => False)) (F0 m 2 ls [])) : ∀ (ls : Array Slot) (x1 : Int64) (x3 : Int32), lv_has ls 5 [(0, .ref (g.2.2.1 6)), (1, .long x1), (3, .int x3)] → f_X6_mixInto_2_b N S6  k2 x1 x3 = some res → W p l e (headSpec wsX6_mixInto { frames := 0, cells := 0, slots := 0, locals := 0 }).room s m args below meth c s.heap [] 0 0 (MQ below (vp_Sl (fun r => r = res)) args s 0 0 (fun _ => False)) (F0 m 2 ls []) := by
  intro ls x1 x3 hl hf
  obtain ⟨⟨hx, hb, hr, hml, hown, hts, hlk⟩, hK, hP⟩ := id C
  unfold f_X6_mixInto_2_b at hf
  refine lv_iload_n (pc := 2) hx hb dX6_mixInto_2 rfl (lv_at hl 2 rfl) ?_
  refine lv_bipush (v := 6) (pc := 3) hx hb dX6_mixInto_3 (by decide) ?_
  refine lv_icmp_ge (tgt := 68) (pc := 5) hx hb dX6_mixInto_5 (by decide) (fun c5 => ?_) (fun c5 => ?_)
  · have hf := ft hf c5
    refine lv_lload_n (pc := 68) hx hb dX6_mixInto_68 rfl (lv_at hl 1 rfl) ?_
    have hf := Option.some.inj hf
    subst hf
    exact W.lret (v := x1) hx hb hr (fun t ht hW => ⟨_, rfl, rfl, ht⟩) (fun _ h => by cases h) dX6_mixInto_69
  · have hf := ff hf c5
    refine lv_ldc2 (v := 31) (pc := 8) hx hb hown (hts _ q_X6_mixInto_1) dX6_mixInto_8 ?_
    refine lv_lload_n (pc := 11) hx hb dX6_mixInto_11 rfl (lv_at hl 1 rfl) ?_
    refine lv_lmul (pc := 12) hx hb dX6_mixInto_12 ?_
    refine lv_aload_n (pc := 13) hx hb dX6_mixInto_13 rfl (lv_at hl 0 rfl) ?_
    refine va_get (D := g.1) (ci := 6) (v := .ref (g.2.2.2 6 0)) (C := RX6) (T := TX6) (N := 2) (pc := 14) hx hb hts (fun _ h => List.mem_cons_of_mem _ (List.mem_append_right _ h)) hown hK hP 0 rfl rfl 0 (by decide) (hts _ q_X6_mixInto_0) (fun _ h9 => h9) rfl dX6_mixInto_14 ?_
    refine lv_iload_n (pc := 17) hx hb dX6_mixInto_17 rfl (lv_at hl 2 rfl) ?_
    obtain ⟨b18, hf⟩ := gdE hf
    refine va_iald (D := g.1) (tys := tyl g) (f := (S6.2.2 0)) (pc := 18) hx hb hK hP 1 0 rfl rfl (inbV b18) dX6_mixInto_18 ?_
    refine lv_i2l (pc := 19) hx hb dX6_mixInto_19 rfl ?_
    refine lv_ladd (pc := 20) hx hb dX6_mixInto_20 ?_
    refine lv_lstore_n (lv' := [(1, .long ((31 * x1) + (Int32.toInt64 ((S6.2.2 0) (Int32.toNatClampNeg x3))))), (0, .ref (g.2.2.1 6)), (3, .int x3)]) (pc := 21) hx hb dX6_mixInto_21 rfl hl (by decide) rfl (fun ls hl => ?_)
    refine lv_iconst (v := 0) (pc := 22) hx hb dX6_mixInto_22 (by decide) ?_
    refine lv_istore (lv' := [(4, .int 0), (1, .long ((31 * x1) + (Int32.toInt64 ((S6.2.2 0) (Int32.toNatClampNeg x3))))), (0, .ref (g.2.2.1 6)), (3, .int x3)]) (pc := 23) hx hb dX6_mixInto_23 hl (by decide) rfl (fun ls hl => ?_)
    exact w_X6_mixInto_25 C k2 H2 N ls ((31 * x1) + (Int32.toInt64 ((S6.2.2 0) (Int32.toNatClampNeg x3)))) x3 0 (lv_sub hl [2, 1, 3, 0] rfl) hf
set_option maxHeartbeats 4000000 in
set_option maxRecDepth 100000 in
theorem w_X6_mixInto_2 {p : Program} {l : Launch} {e : Env} {s : State} {m : MethodId} {args : Array Value} {below : List Frame} {meth : Method} {c : Code} {g : En} {N : Nat} {S6 : St} {res : Int64} (C : cxr g (wd_6 g S6) cX6_mixInto 5 (some .long) wsX6_mixInto RX6 p s m args meth c) : ∀ (n : Nat), ∀ (ls : Array Slot) (x1 : Int64) (x3 : Int32), lv_has ls 5 [(0, .ref (g.2.2.1 6)), (1, .long x1), (3, .int x3)] → f_X6_mixInto_2 N S6  n x1 x3 = some res → W p l e (headSpec wsX6_mixInto { frames := 0, cells := 0, slots := 0, locals := 0 }).room s m args below meth c s.heap [] 0 0 (MQ below (vp_Sl (fun r => r = res)) args s 0 0 (fun _ => False)) (F0 m 2 ls []) := by
  intro n
  induction n with
  | zero =>
    intro ls x1 x3 hl hf
    have hf : (none : Option (Int64)) = some res := hf
    cases hf
  | succ n ih =>
    intro ls x1 x3 hl hf
    exact w_X6_mixInto_2_b C  (fun y0 y1 => f_X6_mixInto_2 N S6  n y0 y1) ih ls x1 x3 hl hf
set_option maxHeartbeats 4000000 in
set_option maxRecDepth 100000 in
theorem c_X6_mixInto (l : Launch) (g : En) (N : Nat) (S6 : St) (x1 : Int64) (res : Int64) (hf : f_X6_mixInto N S6 x1 = some res) : Met l yX6_mixInto wsX6_mixInto { frames := 0, cells := 0, slots := 0, locals := 0 } (roP g (wd_6 g S6) [.ref (g.2.2.1 6), .long x1]) (vp_Sl (fun r => r = res)) 0 0 (fun _ => False) := by
  refine Met.ofW (cc := cX6_mixInto) (maxL := 5) (ret := (some .long)) (by decide) rfl ?_
  intro p e s m args below meth c s₁ B hml hv
  obtain ⟨rfl, hP, hK⟩ := hv
  have hx := B.exec
  have hb := B.bytes
  have hr := B.returns
  have hts := atoms_spec (ws := wsX6_mixInto) B.pre
  have hown : s.vm.findClass RX6 = some m.cls := findClass_of_methodNamed B.named
  have hlk := B.notSynchronized
  have C : cxr g (wd_6 g S6) cX6_mixInto 5 (some .long) wsX6_mixInto RX6 p s m ([.ref (g.2.2.1 6), .long x1] : List Value).toArray meth c := ⟨⟨hx, hb, hr, hml, hown, hts, hlk⟩, hK, hP⟩
  have hl := lv_entry [.ref (g.2.2.1 6), .long x1] (n := 5) (Nat.le_of_ble_eq_true rfl)
  rw [lg_entry_eq]
  generalize (lg_sl [.ref (g.2.2.1 6), .long x1] ++ List.replicate (5 - (lg_sl [.ref (g.2.2.1 6), .long x1]).length) Slot.unset).toArray = ls at hl ⊢
  have hl : lv_has ls 5 [(0, .ref (g.2.2.1 6)), (1, .long x1)] := hl
  unfold f_X6_mixInto at hf
  refine lv_iconst (v := 0) (pc := 0) hx hb dX6_mixInto_0 (by decide) ?_
  refine lv_istore_n (lv' := [(3, .int 0), (0, .ref (g.2.2.1 6)), (1, .long x1)]) (pc := 1) hx hb dX6_mixInto_1 rfl hl (by decide) rfl (fun ls hl => ?_)
  exact w_X6_mixInto_2 C  N ls x1 0 (lv_sub hl [1, 2, 0] rfl) hf
