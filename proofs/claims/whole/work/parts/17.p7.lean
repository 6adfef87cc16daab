theorem h_X7_isWithin : yX7_isWithin.cls ≠ "java/lang/invoke/MethodHandle" ∧ yX7_isWithin.cls ≠ "java/lang/invoke/VarHandle" ∧ (parseMethodDescriptor yX7_isWithin.desc).map (fun d => d.parameters.length) = some 3 := by decide +kernel
set_option maxHeartbeats 4000000 in
set_option maxRecDepth 100000 in
theorem c_X7_isWithin (l : Launch) (N : Nat) (x0 : Int32) (x1 : Int32) (x2 : Int32) (res : Int32) (hf : f_X7_isWithin N x0 x1 x2 = some res) : Met l yX7_isWithin wsX7_isWithin { frames := 0, cells := 0, slots := 0, locals := 0 } (va_Pc [.int x0, .int x1, .int x2] (fun _ => True)) (vp_Si (fun r => r = res)) 0 0 (fun _ => False) := by
  refine Met.ofW (cc := cX7_isWithin) (maxL := 3) (ret := (some .boolean)) (by decide) rfl ?_
  intro p e s m args below meth c s₁ B hml hv
  obtain ⟨rfl, -⟩ := hv
  have hx := B.exec
  have hb := B.bytes
  have hr := B.returns
  have hts := atoms_spec (ws := wsX7_isWithin) B.pre
  have hown : s.vm.findClass RX7 = some m.cls := findClass_of_methodNamed B.named
  have hlk := B.notSynchronized
  have C : cxs cX7_isWithin 3 (some .boolean) wsX7_isWithin RX7 p s m ([.int x0, .int x1, .int x2] : List Value).toArray meth c := ⟨hx, hb, hr, hml, hown, hts, hlk⟩
  have hl := lv_entry [.int x0, .int x1, .int x2] (n := 3) (Nat.le_of_ble_eq_true rfl)
  rw [lg_entry_eq]
  generalize (lg_sl [.int x0, .int x1, .int x2] ++ List.replicate (3 - (lg_sl [.int x0, .int x1, .int x2]).length) Slot.unset).toArray = ls at hl ⊢
  have hl : lv_has ls 3 [(0, .int x0), (1, .int x1), (2, .int x2)] := hl
  unfold f_X7_isWithin at hf
  refine lv_iload_n (pc := 0) hx hb dX7_isWithin_0 rfl (lv_at hl 0 rfl) ?_
  refine lv_iload_n (pc := 1) hx hb dX7_isWithin_1 rfl (lv_at hl 1 rfl) ?_
  refine lv_icmp_lt (tgt := 14) (pc := 2) hx hb dX7_isWithin_2 (by decide) (fun c2 => ?_) (fun c2 => ?_)
  · have hf := ft hf c2
    refine lv_iconst (v := 0) (pc := 14) hx hb dX7_isWithin_14 (by decide) ?_
    have hf := Option.some.inj hf
    subst hf
    exact W.zret (v := 0) hx hb hr rfl (fun t ht hW => ⟨_, rfl, rfl, ht⟩) (fun _ h => by cases h) dX7_isWithin_15
  · have hf := ff hf c2
    refine lv_iload_n (pc := 5) hx hb dX7_isWithin_5 rfl (lv_at hl 0 rfl) ?_
    refine lv_iload_n (pc := 6) hx hb dX7_isWithin_6 rfl (lv_at hl 2 rfl) ?_
    refine lv_icmp_gt (tgt := 14) (pc := 7) hx hb dX7_isWithin_7 (by decide) (fun c7 => ?_) (fun c7 => ?_)
    · have hf := ft hf c7
      refine lv_iconst (v := 0) (pc := 14) hx hb dX7_isWithin_14 (by decide) ?_
      have hf := Option.some.inj hf
      subst hf
      exact W.zret (v := 0) hx hb hr rfl (fun t ht hW => ⟨_, rfl, rfl, ht⟩) (fun _ h => by cases h) dX7_isWithin_15
    · have hf := ff hf c7
      refine lv_iconst (v := 1) (pc := 10) hx hb dX7_isWithin_10 (by decide) ?_
      refine lv_goto (tgt := 15) (pc := 11) hx hb dX7_isWithin_11 (by decide) ?_
      have hf := Option.some.inj hf
      subst hf
      exact W.zret (v := 1) hx hb hr rfl (fun t ht hW => ⟨_, rfl, rfl, ht⟩) (fun _ h => by cases h) dX7_isWithin_15
theorem q_X7_later_0 : (.fieldLink RX7 60 "PictureCourt" "today" "I" : Cond) ∈ wsX7_later := by decide +kernel
theorem h_X7_later : yX7_later.cls = RX7 ∧ yX7_later.cls ≠ "java/lang/invoke/MethodHandle" ∧ yX7_later.cls ≠ "java/lang/invoke/VarHandle" ∧ (parseMethodDescriptor yX7_later.desc).map (fun d => d.parameters.length) = some 1 := by decide +kernel
set_option maxHeartbeats 4000000 in
set_option maxRecDepth 100000 in
theorem c_X7_later (l : Launch) (g : En) (N : Nat) (sz : Nat) (S7 : St) (x1 : Int32) (res : Int32 × St) (hf : f_X7_later N S7 x1 = some res) : Met l yX7_later wsX7_later { frames := 1, cells := 0, slots := 0, locals := 22 } (rwP g (wd_7 g S7) sz [.ref (g.2.2.1 7), .int x1]) (rwQi g (wd_7 g (res.2)) (va_A (wd_7 g S7) sz) (res.1)) 0 0 (va_A (wd_7 g S7) sz) := by
  refine Met.ofW (cc := cX7_later) (maxL := 2) (ret := (some .int)) (by decide) rfl ?_
  intro p e s m args below meth c s₁ B hml hv
  obtain ⟨rfl, hsz, hP, hK, hD0⟩ := hv
  have hx := B.exec
  have hb := B.bytes
  have hr := B.returns
  have hts := atoms_spec (ws := wsX7_later) B.pre
  have hown : s.vm.findClass RX7 = some m.cls := findClass_of_methodNamed B.named
  have hlk := B.notSynchronized
  subst hsz
  have hD := hD0.self (sz := s.heap.size)
  generalize hAe : va_A (wd_7 g S7) s.heap.size = A at hD ⊢
  have hA : ∀ q : Nat, s.heap.size ≤ q → A q := fun q h => by rw [← hAe]; exact Or.inr h
  have hS : va_S A s.heap s.heap [] := va_S.rf
  have C : cxw g A cX7_later 2 (some .int) wsX7_later RX7 p s m ([.ref (g.2.2.1 7), .int x1] : List Value).toArray meth c := ⟨⟨hx, hb, hr, hml, hown, hts, hlk⟩, hK, hA⟩
  have hl := lv_entry [.ref (g.2.2.1 7), .int x1] (n := 2) (Nat.le_of_ble_eq_true rfl)
  rw [lg_entry_eq]
  generalize (lg_sl [.ref (g.2.2.1 7), .int x1] ++ List.replicate (2 - (lg_sl [.ref (g.2.2.1 7), .int x1]).length) Slot.unset).toArray = ls at hl ⊢
  have hl : lv_has ls 2 [(0, .ref (g.2.2.1 7)), (1, .int x1)] := hl
  unfold f_X7_later at hf
  suffices K9 : ∀ (H : Heap) (locs : List Loc), va_P g.1 vwCl (wd_7 g S7) H → va_D A (wd_7 g S7) → va_S A s.heap H locs → ((f_X7_isWithin N x1 0 (30000 - (S7.1 8))).bind (fun r10 => (if r10 = 0 then some ((-1), S7) else some (((S7.1 8) + x1), (sI S7 8 ((S7.1 8) + x1)))))) = some res → W p l e (headSpec wsX7_later { frames := 1, cells := 0, slots := 0, locals := 22 }).room s m ([.ref (g.2.2.1 7), .int x1] : List Value).toArray below meth c H locs 0 0 (MQ below (rwQi g (wd_7 g (res.2)) A (res.1)) ([.ref (g.2.2.1 7), .int x1] : List Value).toArray s 0 0 A) (F0 m 0 ls []) from K9 s.heap [] hP hD hS hf
  clear hP hD hS hf
  intro H locs hP hD hS hf
  refine lv_iload_n (pc := 0) hx hb dX7_later_0 rfl (lv_at hl 1 rfl) ?_
  refine lv_iconst (v := 0) (pc := 1) hx hb dX7_later_1 (by decide) ?_
  refine lv_sipush (v := 30000) (pc := 2) hx hb dX7_later_2 (by decide) ?_
  refine lv_aload_n (pc := 5) hx hb dX7_later_5 rfl (lv_at hl 0 rfl) ?_
  refine va_get (D := g.1) (ci := 7) (v := .int (S7.1 8)) (C := RX7) (T := TX7) (N := 13) (pc := 6) hx hb hts (fun _ h => List.mem_cons_of_mem _ (List.mem_append_right _ h)) hown hK hP 0 rfl rfl 8 (by decide) (hts _ q_X7_later_0) (fun _ h9 => h9) rfl dX7_later_6 ?_
  refine lv_isub (pc := 9) hx hb dX7_later_9 ?_
  obtain ⟨r10, e10, hf⟩ := bdE hf
  refine ksI (pc := 10) (As := [.int x1, .int 0, .int (30000 - (S7.1 8))]) (rest := []) ⟨hx, hb, hml, hown, hts⟩ (c_X7_isWithin l N x1 0 (30000 - (S7.1 8)) r10 e10) (va_cwS 3 hts gX7_later_X7_isWithin rfl rfl rfl h_X7_isWithin ⟨Nat.le_of_ble_eq_true rfl, Nat.le_of_ble_eq_true rfl⟩) rfl hl.1 rfl (Nat.le_of_ble_eq_true rfl) dX7_later_10 ⟨Nat.zero_le _, Nat.zero_le _⟩ ?_
  refine lv_if_ne (tgt := 18) (pc := 13) hx hb dX7_later_13 (by decide) (fun c13 => ?_) (fun c13 => ?_)
  · have hf := ff hf c13
    refine lv_aload_n (pc := 18) hx hb dX7_later_18 rfl (lv_at hl 0 rfl) ?_
    refine lv_dup (pc := 19) hx hb dX7_later_19 rfl ?_
    refine va_get (D := g.1) (ci := 7) (v := .int (S7.1 8)) (C := RX7) (T := TX7) (N := 13) (pc := 20) hx hb hts (fun _ h => List.mem_cons_of_mem _ (List.mem_append_right _ h)) hown hK hP 0 rfl rfl 8 (by decide) (hts _ q_X7_later_0) (fun _ h9 => h9) rfl dX7_later_20 ?_
    refine lv_iload_n (pc := 23) hx hb dX7_later_23 rfl (lv_at hl 1 rfl) ?_
    refine lv_iadd (pc := 24) hx hb dX7_later_24 ?_
    refine va_put (D := g.1) (ci := 7) (v := .int ((S7.1 8) + x1)) (ty := .int) (C := RX7) (T := TX7) (N := 13) (pc := 25) hx hb hts (fun _ h => List.mem_cons_of_mem _ (List.mem_append_right _ h)) tyX7 tyX7_ok nmX7 hown hK hP hD hS 0 rfl rfl 8 (by decide) (hts _ q_X7_later_0) (fun _ h9 => h9) rfl rfl rfl rfl (Nat.le_of_ble_eq_true rfl) dX7_later_25 (fun H locs hP hD hS => ?_)
    have hP := u_7_7_8P S7 ((S7.1 8) + x1) hP
    have hD := u_7_7_8D S7 ((S7.1 8) + x1) hD
    refine lv_aload_n (pc := 28) hx hb dX7_later_28 rfl (lv_at hl 0 rfl) ?_
    refine va_get (D := g.1) (ci := 7) (v := .int ((S7.1 8) + x1)) (C := RX7) (T := TX7) (N := 13) (pc := 29) hx hb hts (fun _ h => List.mem_cons_of_mem _ (List.mem_append_right _ h)) hown hK hP 0 rfl rfl 8 (by decide) (hts _ q_X7_later_0) (fun _ h9 => h9) rfl dX7_later_29 ?_
    have hf := Option.some.inj hf
    subst hf
    exact W.iret (v := ((S7.1 8) + x1)) hx hb hr (fun t ht hW => ⟨⟨_, (), rfl, rfl, by rw [ht]; exact hP, va_K.moved hW.alike hK, hD⟩, hS.F ht⟩) hS.2.2 dX7_later_32
  · have hf := ft hf c13
    refine lv_iconst (v := (-1)) (pc := 16) hx hb dX7_later_16 (by decide) ?_
    have hf := Option.some.inj hf
    subst hf
    exact W.iret (v := (-1)) hx hb hr (fun t ht hW => ⟨⟨_, (), rfl, rfl, by rw [ht]; exact hP, va_K.moved hW.alike hK, hD⟩, hS.F ht⟩) hS.2.2 dX7_later_17
theorem h_X7_isRow : yX7_isRow.cls ≠ "java/lang/invoke/MethodHandle" ∧ yX7_isRow.cls ≠ "java/lang/invoke/VarHandle" ∧ (parseMethodDescriptor yX7_isRow.desc).map (fun d => d.parameters.length) = some 1 := by decide +kernel
set_option maxHeartbeats 4000000 in
set_option maxRecDepth 100000 in
theorem c_X7_isRow (l : Launch) (N : Nat) (x0 : Int32) (res : Int32) (hf : f_X7_isRow N x0 = some res) : Met l yX7_isRow wsX7_isRow { frames := 1, cells := 0, slots := 0, locals := 22 } (va_Pc [.int x0] (fun _ => True)) (vp_Si (fun r => r = res)) 0 0 (fun _ => False) := by
  refine Met.ofW (cc := cX7_isRow) (maxL := 1) (ret := (some .boolean)) (by decide) rfl ?_
  intro p e s m args below meth c s₁ B hml hv
  obtain ⟨rfl, -⟩ := hv
  have hx := B.exec
  have hb := B.bytes
  have hr := B.returns
  have hts := atoms_spec (ws := wsX7_isRow) B.pre
  have hown : s.vm.findClass RX7 = some m.cls := findClass_of_methodNamed B.named
  have hlk := B.notSynchronized
  have C : cxs cX7_isRow 1 (some .boolean) wsX7_isRow RX7 p s m ([.int x0] : List Value).toArray meth c := ⟨hx, hb, hr, hml, hown, hts, hlk⟩
  have hl := lv_entry [.int x0] (n := 1) (Nat.le_of_ble_eq_true rfl)
  rw [lg_entry_eq]
  generalize (lg_sl [.int x0] ++ List.replicate (1 - (lg_sl [.int x0]).length) Slot.unset).toArray = ls at hl ⊢
  have hl : lv_has ls 1 [(0, .int x0)] := hl
  unfold f_X7_isRow at hf
  refine lv_iload_n (pc := 0) hx hb dX7_isRow_0 rfl (lv_at hl 0 rfl) ?_
  refine lv_iconst (v := 0) (pc := 1) hx hb dX7_isRow_1 (by decide) ?_
  refine lv_iconst (v := 5) (pc := 2) hx hb dX7_isRow_2 (by decide) ?_
  obtain ⟨r3, e3, hf⟩ := bdE hf
  refine ksI (pc := 3) (As := [.int x0, .int 0, .int 5]) (rest := []) ⟨hx, hb, hml, hown, hts⟩ (c_X7_isWithin l N x0 0 5 r3 e3) (va_cwS 3 hts gX7_isRow_X7_isWithin rfl rfl rfl h_X7_isWithin ⟨Nat.le_of_ble_eq_true rfl, Nat.le_of_ble_eq_true rfl⟩) rfl hl.1 rfl (Nat.le_of_ble_eq_true rfl) dX7_isRow_3 ⟨Nat.zero_le _, Nat.zero_le _⟩ ?_
  obtain ⟨b6, hf⟩ := gdE hf
  have hf := Option.some.inj hf
  subst hf
  exact W.zret (v := r3) hx hb hr (z01V b6) (fun t ht hW => ⟨_, rfl, rfl, ht⟩) (fun _ h => by cases h) dX7_isRow_6
theorem q_X7_refuse_0 : (.fieldLink RX7 64 "PictureCourt" "latestFinding" "I" : Cond) ∈ wsX7_refuse := by decide +kernel
theorem q_X7_refuse_1 : (.fieldLink RX7 56 "PictureCourt" "findingCounts" "[I" : Cond) ∈ wsX7_refuse := by decide +kernel
theorem h_X7_refuse : yX7_refuse.cls = RX7 ∧ yX7_refuse.cls ≠ "java/lang/invoke/MethodHandle" ∧ yX7_refuse.cls ≠ "java/lang/invoke/VarHandle" ∧ (parseMethodDescriptor yX7_refuse.desc).map (fun d => d.parameters.length) = some 1 := by decide +kernel
set_option maxHeartbeats 4000000 in
set_option maxRecDepth 100000 in
theorem c_X7_refuse (l : Launch) (g : En) (N : Nat) (sz : Nat) (S7 : St) (x1 : Int32) (res : Int32 × St) (hf : f_X7_refuse N S7 x1 = some res) : Met l yX7_refuse wsX7_refuse { frames := 0, cells := 0, slots := 0, locals := 0 } (rwP g (wd_7 g S7) sz [.ref (g.2.2.1 7), .int x1]) (rwQi g (wd_7 g (res.2)) (va_A (wd_7 g S7) sz) (res.1)) 0 0 (va_A (wd_7 g S7) sz) := by
  refine Met.ofW (cc := cX7_refuse) (maxL := 2) (ret := (some .int)) (by decide) rfl ?_
  intro p e s m args below meth c s₁ B hml hv
  obtain ⟨rfl, hsz, hP, hK, hD0⟩ := hv
  have hx := B.exec
  have hb := B.bytes
  have hr := B.returns
  have hts := atoms_spec (ws := wsX7_refuse) B.pre
  have hown : s.vm.findClass RX7 = some m.cls := findClass_of_methodNamed B.named
  have hlk := B.notSynchronized
  subst hsz
  have hD := hD0.self (sz := s.heap.size)
  generalize hAe : va_A (wd_7 g S7) s.heap.size = A at hD ⊢
  have hA : ∀ q : Nat, s.heap.size ≤ q → A q := fun q h => by rw [← hAe]; exact Or.inr h
  have hS : va_S A s.heap s.heap [] := va_S.rf
  have C : cxw g A cX7_refuse 2 (some .int) wsX7_refuse RX7 p s m ([.ref (g.2.2.1 7), .int x1] : List Value).toArray meth c := ⟨⟨hx, hb, hr, hml, hown, hts, hlk⟩, hK, hA⟩
  have hl := lv_entry [.ref (g.2.2.1 7), .int x1] (n := 2) (Nat.le_of_ble_eq_true rfl)
  rw [lg_entry_eq]
  generalize (lg_sl [.ref (g.2.2.1 7), .int x1] ++ List.replicate (2 - (lg_sl [.ref (g.2.2.1 7), .int x1]).length) Slot.unset).toArray = ls at hl ⊢
  have hl : lv_has ls 2 [(0, .ref (g.2.2.1 7)), (1, .int x1)] := hl
  unfold f_X7_refuse at hf
  suffices K9 : ∀ (H : Heap) (locs : List Loc), va_P g.1 vwCl (wd_7 g S7) H → va_D A (wd_7 g S7) → va_S A s.heap H locs → (if inb x1 6 = true then (if inb x1 6 = true then some ((-3), (sA (sI S7 9 x1) 7 (upd (S7.2.2 7) (Int32.toNatClampNeg x1) (((S7.2.2 7) (Int32.toNatClampNeg x1)) + 1)))) else none) else none) = some res → W p l e (headSpec wsX7_refuse { frames := 0, cells := 0, slots := 0, locals := 0 }).room s m ([.ref (g.2.2.1 7), .int x1] : List Value).toArray below meth c H locs 0 0 (MQ below (rwQi g (wd_7 g (res.2)) A (res.1)) ([.ref (g.2.2.1 7), .int x1] : List Value).toArray s 0 0 A) (F0 m 0 ls []) from K9 s.heap [] hP hD hS hf
  clear hP hD hS hf
  intro H locs hP hD hS hf
  refine lv_aload_n (pc := 0) hx hb dX7_refuse_0 rfl (lv_at hl 0 rfl) ?_
  refine lv_iload_n (pc := 1) hx hb dX7_refuse_1 rfl (lv_at hl 1 rfl) ?_
  refine va_put (D := g.1) (ci := 7) (v := .int x1) (ty := .int) (C := RX7) (T := TX7) (N := 13) (pc := 2) hx hb hts (fun _ h => List.mem_cons_of_mem _ (List.mem_append_right _ h)) tyX7 tyX7_ok nmX7 hown hK hP hD hS 0 rfl rfl 9 (by decide) (hts _ q_X7_refuse_0) (fun _ h9 => h9) rfl rfl rfl rfl (Nat.le_of_ble_eq_true rfl) dX7_refuse_2 (fun H locs hP hD hS => ?_)
  have hP := u_7_7_9P S7 x1 hP
  have hD := u_7_7_9D S7 x1 hD
  refine lv_aload_n (pc := 5) hx hb dX7_refuse_5 rfl (lv_at hl 0 rfl) ?_
  refine va_get (D := g.1) (ci := 7) (v := .ref (g.2.2.2 7 7)) (C := RX7) (T := TX7) (N := 13) (pc := 6) hx hb hts (fun _ h => List.mem_cons_of_mem _ (List.mem_append_right _ h)) hown hK hP 0 rfl rfl 7 (by decide) (hts _ q_X7_refuse_1) (fun _ h9 => h9) rfl dX7_refuse_6 ?_
  refine lv_iload_n (pc := 9) hx hb dX7_refuse_9 rfl (lv_at hl 1 rfl) ?_
  refine lv_dup2_11 (pc := 10) hx hb dX7_refuse_10 rfl rfl ?_
  obtain ⟨b11, hf⟩ := gdE hf
  refine va_iald (D := g.1) (tys := tyl g) (f := (S7.2.2 7)) (pc := 11) hx hb hK hP 1 0 rfl rfl (inbV b11) dX7_refuse_11 ?_
  refine lv_iconst (v := 1) (pc := 12) hx hb dX7_refuse_12 (by decide) ?_
  refine lv_iadd (pc := 13) hx hb dX7_refuse_13 ?_
  obtain ⟨b14, hf⟩ := gdE hf
  refine va_iast (D := g.1) (tys := tyl g) (f := (S7.2.2 7)) (pc := 14) hx hb hK hP hD hS 1 0 rfl rfl (inbV b14) dX7_refuse_14 (fun H locs hP hD hS => ?_)
  have hP := u_7_7_7P (sI S7 9 x1) (upd (S7.2.2 7) (Int32.toNatClampNeg x1) (((S7.2.2 7) (Int32.toNatClampNeg x1)) + 1)) hP
  have hD := u_7_7_7D (sI S7 9 x1) (upd (S7.2.2 7) (Int32.toNatClampNeg x1) (((S7.2.2 7) (Int32.toNatClampNeg x1)) + 1)) hD
  refine lv_bipush (v := (-3)) (pc := 15) hx hb dX7_refuse_15 (by decide) ?_
  have hf := Option.some.inj hf
  subst hf
  exact W.iret (v := (-3)) hx hb hr (fun t ht hW => ⟨⟨_, (), rfl, rfl, by rw [ht]; exact hP, va_K.moved hW.alike hK, hD⟩, hS.F ht⟩) hS.2.2 dX7_refuse_17
theorem q_X7_row_0 : (.fieldLink RX7 20 "PictureCourt" "rows" "LPictureCourt$Rows;" : Cond) ∈ wsX7_row := by decide +kernel
theorem h_X7_row : yX7_row.cls = RX7 ∧ yX7_row.cls ≠ "java/lang/invoke/MethodHandle" ∧ yX7_row.cls ≠ "java/lang/invoke/VarHandle" ∧ (parseMethodDescriptor yX7_row.desc).map (fun d => d.parameters.length) = some 2 := by decide +kernel
set_option maxHeartbeats 4000000 in
set_option maxRecDepth 100000 in
theorem c_X7_row (l : Launch) (g : En) (N : Nat) (sz : Nat) (S7 : St) (S6 : St) (x1 : Int32) (x2 : Int32) (res : Int32 × St × St) (hf : f_X7_row N S7 S6 x1 x2 = some res) : Met l yX7_row wsX7_row { frames := 2, cells := 0, slots := 0, locals := 42 } (rwP g (wd_7_6 g S7 S6) sz [.ref (g.2.2.1 7), .int x1, .int x2]) (rwQi g (wd_7_6 g (res.2.1) (res.2.2)) (va_A (wd_7_6 g S7 S6) sz) (res.1)) 0 0 (va_A (wd_7_6 g S7 S6) sz) := by
  refine Met.ofW (cc := cX7_row) (maxL := 3) (ret := (some .int)) (by decide) rfl ?_
  intro p e s m args below meth c s₁ B hml hv
  obtain ⟨rfl, hsz, hP, hK, hD0⟩ := hv
  have hx := B.exec
  have hb := B.bytes
  have hr := B.returns
  have hts := atoms_spec (ws := wsX7_row) B.pre
  have hown : s.vm.findClass RX7 = some m.cls := findClass_of_methodNamed B.named
  have hlk := B.notSynchronized
  subst hsz
  have hD := hD0.self (sz := s.heap.size)
  generalize hAe : va_A (wd_7_6 g S7 S6) s.heap.size = A at hD ⊢
  have hA : ∀ q : Nat, s.heap.size ≤ q → A q := fun q h => by rw [← hAe]; exact Or.inr h
  have hS : va_S A s.heap s.heap [] := va_S.rf
  have C : cxw g A cX7_row 3 (some .int) wsX7_row RX7 p s m ([.ref (g.2.2.1 7), .int x1, .int x2] : List Value).toArray meth c := ⟨⟨hx, hb, hr, hml, hown, hts, hlk⟩, hK, hA⟩
  have hl := lv_entry [.ref (g.2.2.1 7), .int x1, .int x2] (n := 3) (Nat.le_of_ble_eq_true rfl)
  rw [lg_entry_eq]
  generalize (lg_sl [.ref (g.2.2.1 7), .int x1, .int x2] ++ List.replicate (3 - (lg_sl [.ref (g.2.2.1 7), .int x1, .int x2]).length) Slot.unset).toArray = ls at hl ⊢
  have hl : lv_has ls 3 [(0, .ref (g.2.2.1 7)), (1, .int x1), (2, .int x2)] := hl
  unfold f_X7_row at hf
  suffices K9 : ∀ (H : Heap) (locs : List Loc), va_P g.1 vwCl (wd_7_6 g S7 S6) H → va_D A (wd_7_6 g S7 S6) → va_S A s.heap H locs → ((f_X7_isRow N x1).bind (fun r1 => (if r1 = 0 then some ((-1), S7, S6) else (if x2 ≤ 40 then (if 0 ≤ x2 then ((f_X6_make N S6 x1 x2).bind (fun r31 => some (x2, S7, r31))) else ((f_X7_refuse N S7 5).bind (fun r21 => some ((r21.1), (r21.2), S6)))) else some ((-1), S7, S6))))) = some res → W p l e (headSpec wsX7_row { frames := 2, cells := 0, slots := 0, locals := 42 }).room s m ([.ref (g.2.2.1 7), .int x1, .int x2] : List Value).toArray below meth c H locs 0 0 (MQ below (rwQi g (wd_7_6 g (res.2.1) (res.2.2)) A (res.1)) ([.ref (g.2.2.1 7), .int x1, .int x2] : List Value).toArray s 0 0 A) (F0 m 0 ls []) from K9 s.heap [] hP hD hS hf
  clear hP hD hS hf
  intro H locs hP hD hS hf
  refine lv_iload_n (pc := 0) hx hb dX7_row_0 rfl (lv_at hl 1 rfl) ?_
  obtain ⟨r1, e1, hf⟩ := bdE hf
  refine ksI (pc := 1) (As := [.int x1]) (rest := []) ⟨hx, hb, hml, hown, hts⟩ (c_X7_isRow l N x1 r1 e1) (va_cwS 1 hts gX7_row_X7_isRow rfl rfl rfl h_X7_isRow ⟨Nat.le_of_ble_eq_true rfl, Nat.le_of_ble_eq_true rfl⟩) rfl hl.1 rfl (Nat.le_of_ble_eq_true rfl) dX7_row_1 ⟨Nat.zero_le _, Nat.zero_le _⟩ ?_
  refine lv_if_eq (tgt := 13) (pc := 4) hx hb dX7_row_4 (by decide) (fun c4 => ?_) (fun c4 => ?_)
  · have hf := ft hf c4
    refine lv_iconst (v := (-1)) (pc := 13) hx hb dX7_row_13 (by decide) ?_
    have hf := Option.some.inj hf
    subst hf
    exact W.iret (v := (-1)) hx hb hr (fun t ht hW => ⟨⟨_, (), rfl, rfl, by rw [ht]; exact hP, va_K.moved hW.alike hK, hD⟩, hS.F ht⟩) hS.2.2 dX7_row_14
  · have hf := ff hf c4
    refine lv_iload_n (pc := 7) hx hb dX7_row_7 rfl (lv_at hl 2 rfl) ?_
    refine lv_bipush (v := 40) (pc := 8) hx hb dX7_row_8 (by decide) ?_
    refine lv_icmp_le (tgt := 15) (pc := 10) hx hb dX7_row_10 (by decide) (fun c10 => ?_) (fun c10 => ?_)
    · have hf := ft hf c10
      refine lv_iload_n (pc := 15) hx hb dX7_row_15 rfl (lv_at hl 2 rfl) ?_
      refine lv_if_ge (tgt := 25) (pc := 16) hx hb dX7_row_16 (by decide) (fun c16 => ?_) (fun c16 => ?_)
      · have hf := ft hf c16
        refine lv_aload_n (pc := 25) hx hb dX7_row_25 rfl (lv_at hl 0 rfl) ?_
        refine va_get (D := g.1) (ci := 7) (v := .ref (g.2.2.1 6)) (C := RX7) (T := TX7) (N := 13) (pc := 26) hx hb hts (fun _ h => List.mem_cons_of_mem _ (List.mem_append_left _ (List.mem_append_right _ h))) hown hK hP 0 rfl rfl 1 (by decide) (hts _ q_X7_row_0) (fun _ h9 => h9) rfl dX7_row_26 ?_
        refine lv_iload_n (pc := 29) hx hb dX7_row_29 rfl (lv_at hl 1 rfl) ?_
        refine lv_iload_n (pc := 30) hx hb dX7_row_30 rfl (lv_at hl 2 rfl) ?_
        obtain ⟨r31, e31, hf⟩ := bdE hf
        refine kwV (g := g) (A := A) (W0 := (wd_7_6 g S7 S6)) (wc := (wd_6 g S6)) (wr := (wd_7 g S7)) (w1 := (wd_6 g r31)) (W1 := (wd_7_6 g S7 r31)) (pc := 31) (As := [.int x1, .int x2]) (rest := []) ⟨hx, hb, hml, hown, hts⟩ hK hA hP hD hS (c_X6_make l g N H.size S6 x1 x2 r31 e31) (cwV 2 hts gX7_row_X6_make rfl rfl rfl h_X6_make ⟨Nat.le_of_ble_eq_true rfl, Nat.le_of_ble_eq_true rfl⟩) [2, 3, 4] [0, 1] [0, 1, 2, 3, 4] rfl rfl rfl rfl rfl (by decide) rfl rfl rfl rfl rfl rfl hl.1 rfl (Nat.le_of_ble_eq_true rfl) dX7_row_31 ⟨Nat.zero_le _, Nat.zero_le _⟩ (fun H locs hP hD hS => ?_)
        refine lv_iload_n (pc := 34) hx hb dX7_row_34 rfl (lv_at hl 2 rfl) ?_
        have hf := Option.some.inj hf
        subst hf
        exact W.iret (v := x2) hx hb hr (fun t ht hW => ⟨⟨_, (), rfl, rfl, by rw [ht]; exact hP, va_K.moved hW.alike hK, hD⟩, hS.F ht⟩) hS.2.2 dX7_row_35
      · have hf := ff hf c16
        refine lv_aload_n (pc := 19) hx hb dX7_row_19 rfl (lv_at hl 0 rfl) ?_
        refine lv_iconst (v := 5) (pc := 20) hx hb dX7_row_20 (by decide) ?_
        obtain ⟨r21, e21, hf⟩ := bdE hf
        refine kwI (g := g) (A := A) (W0 := (wd_7_6 g S7 S6)) (wc := (wd_7 g S7)) (wr := (wd_6 g S6)) (w1 := (wd_7 g (r21.2))) (W1 := (wd_7_6 g (r21.2) S6)) (pc := 21) (As := [.int 5]) (rest := []) ⟨hx, hb, hml, hown, hts⟩ hK hA hP hD hS (c_X7_refuse l g N H.size S7 5 r21 e21) (cwV 1 hts gX7_row_X7_refuse rfl rfl rfl h_X7_refuse ⟨Nat.le_of_ble_eq_true rfl, Nat.le_of_ble_eq_true rfl⟩) [0, 1] [2, 3, 4] [3, 4, 0, 1, 2] rfl rfl rfl rfl rfl (by decide) rfl rfl rfl rfl rfl rfl hl.1 rfl (Nat.le_of_ble_eq_true rfl) dX7_row_21 ⟨Nat.zero_le _, Nat.zero_le _⟩ (fun H locs hP hD hS => ?_)
        have hf := Option.some.inj hf
        subst hf
        exact W.iret (v := (r21.1)) hx hb hr (fun t ht hW => ⟨⟨_, (), rfl, rfl, by rw [ht]; exact hP, va_K.moved hW.alike hK, hD⟩, hS.F ht⟩) hS.2.2 dX7_row_24
    · have hf := ff hf c10
      refine lv_iconst (v := (-1)) (pc := 13) hx hb dX7_row_13 (by decide) ?_
      have hf := Option.some.inj hf
      subst hf
      exact W.iret (v := (-1)) hx hb hr (fun t ht hW => ⟨⟨_, (), rfl, rfl, by rw [ht]; exact hP, va_K.moved hW.alike hK, hD⟩, hS.F ht⟩) hS.2.2 dX7_row_14
theorem q_X7_lay_0 : (.fieldLink RX7 20 "PictureCourt" "rows" "LPictureCourt$Rows;" : Cond) ∈ wsX7_lay := by decide +kernel
theorem h_X7_lay : yX7_lay.cls = RX7 ∧ yX7_lay.cls ≠ "java/lang/invoke/MethodHandle" ∧ yX7_lay.cls ≠ "java/lang/invoke/VarHandle" ∧ (parseMethodDescriptor yX7_lay.desc).map (fun d => d.parameters.length) = some 3 := by decide +kernel
set_option maxHeartbeats 4000000 in
set_option maxRecDepth 100000 in
theorem c_X7_lay (l : Launch) (g : En) (N : Nat) (sz : Nat) (S7 : St) (S6 : St) (x1 : Int32) (x2 : Int32) (x3 : Int32) (res : Int32 × St × St) (hf : f_X7_lay N S7 S6 x1 x2 x3 = some res) : Met l yX7_lay wsX7_lay { frames := 2, cells := 0, slots := 0, locals := 42 } (rwP g (wd_7_6 g S7 S6) sz [.ref (g.2.2.1 7), .int x1, .int x2, .int x3]) (rwQi g (wd_7_6 g (res.2.1) (res.2.2)) (va_A (wd_7_6 g S7 S6) sz) (res.1)) 0 0 (va_A (wd_7_6 g S7 S6) sz) := by
  refine Met.ofW (cc := cX7_lay) (maxL := 4) (ret := (some .int)) (by decide) rfl ?_
  intro p e s m args below meth c s₁ B hml hv
  obtain ⟨rfl, hsz, hP, hK, hD0⟩ := hv
  have hx := B.exec
  have hb := B.bytes
  have hr := B.returns
  have hts := atoms_spec (ws := wsX7_lay) B.pre
  have hown : s.vm.findClass RX7 = some m.cls := findClass_of_methodNamed B.named
  have hlk := B.notSynchronized
  subst hsz
  have hD := hD0.self (sz := s.heap.size)
  generalize hAe : va_A (wd_7_6 g S7 S6) s.heap.size = A at hD ⊢
  have hA : ∀ q : Nat, s.heap.size ≤ q → A q := fun q h => by rw [← hAe]; exact Or.inr h
  have hS : va_S A s.heap s.heap [] := va_S.rf
  have C : cxw g A cX7_lay 4 (some .int) wsX7_lay RX7 p s m ([.ref (g.2.2.1 7), .int x1, .int x2, .int x3] : List Value).toArray meth c := ⟨⟨hx, hb, hr, hml, hown, hts, hlk⟩, hK, hA⟩
  have hl := lv_entry [.ref (g.2.2.1 7), .int x1, .int x2, .int x3] (n := 4) (Nat.le_of_ble_eq_true rfl)
  rw [lg_entry_eq]
  generalize (lg_sl [.ref (g.2.2.1 7), .int x1, .int x2, .int x3] ++ List.replicate (4 - (lg_sl [.ref (g.2.2.1 7), .int x1, .int x2, .int x3]).length) Slot.unset).toArray = ls at hl ⊢
  have hl : lv_has ls 4 [(0, .ref (g.2.2.1 7)), (1, .int x1), (2, .int x2), (3, .int x3)] := hl
  unfold f_X7_lay at hf
  suffices K9 : ∀ (H : Heap) (locs : List Loc), va_P g.1 vwCl (wd_7_6 g S7 S6) H → va_D A (wd_7_6 g S7 S6) → va_S A s.heap H locs → ((f_X7_isRow N x1).bind (fun r1 => (if r1 = 0 then some ((-1), S7, S6) else ((f_X6_isMissing N S6 x1).bind (fun r14 => (if r14 = 0 then ((f_X6_hasRun N S6 x1 x2 1).bind (fun r33 => (if r33 = 0 then ((f_X7_refuse N S7 2).bind (fun r41 => some ((r41.1), (r41.2), S6))) else ((f_X6_swap N S6 x1 x2 (Int8.toInt32 (Int32.toInt8 x3))).bind (fun r53 => some (((r53.1) + 1000), S7, (r53.2))))))) else ((f_X7_refuse N S7 1).bind (fun r22 => some ((r22.1), (r22.2), S6))))))))) = some res → W p l e (headSpec wsX7_lay { frames := 2, cells := 0, slots := 0, locals := 42 }).room s m ([.ref (g.2.2.1 7), .int x1, .int x2, .int x3] : List Value).toArray below meth c H locs 0 0 (MQ below (rwQi g (wd_7_6 g (res.2.1) (res.2.2)) A (res.1)) ([.ref (g.2.2.1 7), .int x1, .int x2, .int x3] : List Value).toArray s 0 0 A) (F0 m 0 ls []) from K9 s.heap [] hP hD hS hf
  clear hP hD hS hf
  intro H locs hP hD hS hf
  refine lv_iload_n (pc := 0) hx hb dX7_lay_0 rfl (lv_at hl 1 rfl) ?_
  obtain ⟨r1, e1, hf⟩ := bdE hf
  refine ksI (pc := 1) (As := [.int x1]) (rest := []) ⟨hx, hb, hml, hown, hts⟩ (c_X7_isRow l N x1 r1 e1) (va_cwS 1 hts gX7_lay_X7_isRow rfl rfl rfl h_X7_isRow ⟨Nat.le_of_ble_eq_true rfl, Nat.le_of_ble_eq_true rfl⟩) rfl hl.1 rfl (Nat.le_of_ble_eq_true rfl) dX7_lay_1 ⟨Nat.zero_le _, Nat.zero_le _⟩ ?_
  refine lv_if_ne (tgt := 9) (pc := 4) hx hb dX7_lay_4 (by decide) (fun c4 => ?_) (fun c4 => ?_)
  · have hf := ff hf c4
    refine lv_aload_n (pc := 9) hx hb dX7_lay_9 rfl (lv_at hl 0 rfl) ?_
    refine va_get (D := g.1) (ci := 7) (v := .ref (g.2.2.1 6)) (C := RX7) (T := TX7) (N := 13) (pc := 10) hx hb hts (fun _ h => List.mem_cons_of_mem _ (List.mem_append_left _ (List.mem_append_right _ h))) hown hK hP 0 rfl rfl 1 (by decide) (hts _ q_X7_lay_0) (fun _ h9 => h9) rfl dX7_lay_10 ?_
    refine lv_iload_n (pc := 13) hx hb dX7_lay_13 rfl (lv_at hl 1 rfl) ?_
    obtain ⟨r14, e14, hf⟩ := bdE hf
    refine krI (g := g) (wc := (wd_6 g S6)) (pc := 14) (As := [.int x1]) (rest := []) ⟨hx, hb, hml, hown, hts⟩ (c_X6_isMissing l g N S6 x1 r14 e14) (cwV 1 hts gX7_lay_X6_isMissing rfl rfl rfl h_X6_isMissing ⟨Nat.le_of_ble_eq_true rfl, Nat.le_of_ble_eq_true rfl⟩) hK (hP.sub (ws' := (wd_6 g S6)) [2, 3, 4] rfl) rfl rfl rfl hl.1 rfl (Nat.le_of_ble_eq_true rfl) dX7_lay_14 ⟨Nat.zero_le _, Nat.zero_le _⟩ ?_
    refine lv_if_eq (tgt := 26) (pc := 17) hx hb dX7_lay_17 (by decide) (fun c17 => ?_) (fun c17 => ?_)
    · have hf := ft hf c17
      refine lv_aload_n (pc := 26) hx hb dX7_lay_26 rfl (lv_at hl 0 rfl) ?_
      refine va_get (D := g.1) (ci := 7) (v := .ref (g.2.2.1 6)) (C := RX7) (T := TX7) (N := 13) (pc := 27) hx hb hts (fun _ h => List.mem_cons_of_mem _ (List.mem_append_left _ (List.mem_append_right _ h))) hown hK hP 0 rfl rfl 1 (by decide) (hts _ q_X7_lay_0) (fun _ h9 => h9) rfl dX7_lay_27 ?_
      refine lv_iload_n (pc := 30) hx hb dX7_lay_30 rfl (lv_at hl 1 rfl) ?_
      refine lv_iload_n (pc := 31) hx hb dX7_lay_31 rfl (lv_at hl 2 rfl) ?_
      refine lv_iconst (v := 1) (pc := 32) hx hb dX7_lay_32 (by decide) ?_
      obtain ⟨r33, e33, hf⟩ := bdE hf
      refine krI (g := g) (wc := (wd_6 g S6)) (pc := 33) (As := [.int x1, .int x2, .int 1]) (rest := []) ⟨hx, hb, hml, hown, hts⟩ (c_X6_hasRun l g N S6 x1 x2 1 r33 e33) (cwV 3 hts gX7_lay_X6_hasRun rfl rfl rfl h_X6_hasRun ⟨Nat.le_of_ble_eq_true rfl, Nat.le_of_ble_eq_true rfl⟩) hK (hP.sub (ws' := (wd_6 g S6)) [2, 3, 4] rfl) rfl rfl rfl hl.1 rfl (Nat.le_of_ble_eq_true rfl) dX7_lay_33 ⟨Nat.zero_le _, Nat.zero_le _⟩ ?_
      refine lv_if_ne (tgt := 45) (pc := 36) hx hb dX7_lay_36 (by decide) (fun c36 => ?_) (fun c36 => ?_)
      · have hf := ff hf c36
        refine lv_aload_n (pc := 45) hx hb dX7_lay_45 rfl (lv_at hl 0 rfl) ?_
        refine va_get (D := g.1) (ci := 7) (v := .ref (g.2.2.1 6)) (C := RX7) (T := TX7) (N := 13) (pc := 46) hx hb hts (fun _ h => List.mem_cons_of_mem _ (List.mem_append_left _ (List.mem_append_right _ h))) hown hK hP 0 rfl rfl 1 (by decide) (hts _ q_X7_lay_0) (fun _ h9 => h9) rfl dX7_lay_46 ?_
        refine lv_iload_n (pc := 49) hx hb dX7_lay_49 rfl (lv_at hl 1 rfl) ?_
        refine lv_iload_n (pc := 50) hx hb dX7_lay_50 rfl (lv_at hl 2 rfl) ?_
        refine lv_iload_n (pc := 51) hx hb dX7_lay_51 rfl (lv_at hl 3 rfl) ?_
        refine lv_i2b (pc := 52) hx hb dX7_lay_52 rfl ?_
        obtain ⟨r53, e53, hf⟩ := bdE hf
        refine kwI (g := g) (A := A) (W0 := (wd_7_6 g S7 S6)) (wc := (wd_6 g S6)) (wr := (wd_7 g S7)) (w1 := (wd_6 g (r53.2))) (W1 := (wd_7_6 g S7 (r53.2))) (pc := 53) (As := [.int x1, .int x2, .int (Int8.toInt32 (Int32.toInt8 x3))]) (rest := []) ⟨hx, hb, hml, hown, hts⟩ hK hA hP hD hS (c_X6_swap l g N H.size S6 x1 x2 (Int8.toInt32 (Int32.toInt8 x3)) r53 e53) (cwV 3 hts gX7_lay_X6_swap rfl rfl rfl h_X6_swap ⟨Nat.le_of_ble_eq_true rfl, Nat.le_of_ble_eq_true rfl⟩) [2, 3, 4] [0, 1] [0, 1, 2, 3, 4] rfl rfl rfl rfl rfl (by decide) rfl rfl rfl rfl rfl rfl hl.1 rfl (Nat.le_of_ble_eq_true rfl) dX7_lay_53 ⟨Nat.zero_le _, Nat.zero_le _⟩ (fun H locs hP hD hS => ?_)
        refine lv_sipush (v := 1000) (pc := 56) hx hb dX7_lay_56 (by decide) ?_
        refine lv_iadd (pc := 59) hx hb dX7_lay_59 ?_
        have hf := Option.some.inj hf
        subst hf
        exact W.iret (v := ((r53.1) + 1000)) hx hb hr (fun t ht hW => ⟨⟨_, (), rfl, rfl, by rw [ht]; exact hP, va_K.moved hW.alike hK, hD⟩, hS.F ht⟩) hS.2.2 dX7_lay_60
      · have hf := ft hf c36
        refine lv_aload_n (pc := 39) hx hb dX7_lay_39 rfl (lv_at hl 0 rfl) ?_
        refine lv_iconst (v := 2) (pc := 40) hx hb dX7_lay_40 (by decide) ?_
        obtain ⟨r41, e41, hf⟩ := bdE hf
        refine kwI (g := g) (A := A) (W0 := (wd_7_6 g S7 S6)) (wc := (wd_7 g S7)) (wr := (wd_6 g S6)) (w1 := (wd_7 g (r41.2))) (W1 := (wd_7_6 g (r41.2) S6)) (pc := 41) (As := [.int 2]) (rest := []) ⟨hx, hb, hml, hown, hts⟩ hK hA hP hD hS (c_X7_refuse l g N H.size S7 2 r41 e41) (cwV 1 hts gX7_lay_X7_refuse rfl rfl rfl h_X7_refuse ⟨Nat.le_of_ble_eq_true rfl, Nat.le_of_ble_eq_true rfl⟩) [0, 1] [2, 3, 4] [3, 4, 0, 1, 2] rfl rfl rfl rfl rfl (by decide) rfl rfl rfl rfl rfl rfl hl.1 rfl (Nat.le_of_ble_eq_true rfl) dX7_lay_41 ⟨Nat.zero_le _, Nat.zero_le _⟩ (fun H locs hP hD hS => ?_)
        have hf := Option.some.inj hf
        subst hf
        exact W.iret (v := (r41.1)) hx hb hr (fun t ht hW => ⟨⟨_, (), rfl, rfl, by rw [ht]; exact hP, va_K.moved hW.alike hK, hD⟩, hS.F ht⟩) hS.2.2 dX7_lay_44
    · have hf := ff hf c17
      refine lv_aload_n (pc := 20) hx hb dX7_lay_20 rfl (lv_at hl 0 rfl) ?_
      refine lv_iconst (v := 1) (pc := 21) hx hb dX7_lay_21 (by decide) ?_
      obtain ⟨r22, e22, hf⟩ := bdE hf
      refine kwI (g := g) (A := A) (W0 := (wd_7_6 g S7 S6)) (wc := (wd_7 g S7)) (wr := (wd_6 g S6)) (w1 := (wd_7 g (r22.2))) (W1 := (wd_7_6 g (r22.2) S6)) (pc := 22) (As := [.int 1]) (rest := []) ⟨hx, hb, hml, hown, hts⟩ hK hA hP hD hS (c_X7_refuse l g N H.size S7 1 r22 e22) (cwV 1 hts gX7_lay_X7_refuse rfl rfl rfl h_X7_refuse ⟨Nat.le_of_ble_eq_true rfl, Nat.le_of_ble_eq_true rfl⟩) [0, 1] [2, 3, 4] [3, 4, 0, 1, 2] rfl rfl rfl rfl rfl (by decide) rfl rfl rfl rfl rfl rfl hl.1 rfl (Nat.le_of_ble_eq_true rfl) dX7_lay_22 ⟨Nat.zero_le _, Nat.zero_le _⟩ (fun H locs hP hD hS => ?_)
      have hf := Option.some.inj hf
      subst hf
      exact W.iret (v := (r22.1)) hx hb hr (fun t ht hW => ⟨⟨_, (), rfl, rfl, by rw [ht]; exact hP, va_K.moved hW.alike hK, hD⟩, hS.F ht⟩) hS.2.2 dX7_lay_25
  · have hf := ft hf c4
    refine lv_iconst (v := (-1)) (pc := 7) hx hb dX7_lay_7 (by decide) ?_
    have hf := Option.some.inj hf
    subst hf
    exact W.iret (v := (-1)) hx hb hr (fun t ht hW => ⟨⟨_, (), rfl, rfl, by rw [ht]; exact hP, va_K.moved hW.alike hK, hD⟩, hS.F ht⟩) hS.2.2 dX7_lay_8
theorem q_X7_tear_0 : (.fieldLink RX7 20 "PictureCourt" "rows" "LPictureCourt$Rows;" : Cond) ∈ wsX7_tear := by decide +kernel
theorem h_X7_tear : yX7_tear.cls = RX7 ∧ yX7_tear.cls ≠ "java/lang/invoke/MethodHandle" ∧ yX7_tear.cls ≠ "java/lang/invoke/VarHandle" ∧ (parseMethodDescriptor yX7_tear.desc).map (fun d => d.parameters.length) = some 1 := by decide +kernel
set_option maxHeartbeats 4000000 in
set_option maxRecDepth 100000 in
theorem c_X7_tear (l : Launch) (g : En) (N : Nat) (sz : Nat) (S7 : St) (S6 : St) (x1 : Int32) (res : Int32 × St × St) (hf : f_X7_tear N S7 S6 x1 = some res) : Met l yX7_tear wsX7_tear { frames := 2, cells := 0, slots := 0, locals := 42 } (rwP g (wd_7_6 g S7 S6) sz [.ref (g.2.2.1 7), .int x1]) (rwQi g (wd_7_6 g (res.2.1) (res.2.2)) (va_A (wd_7_6 g S7 S6) sz) (res.1)) 0 0 (va_A (wd_7_6 g S7 S6) sz) := by
  refine Met.ofW (cc := cX7_tear) (maxL := 2) (ret := (some .int)) (by decide) rfl ?_
  intro p e s m args below meth c s₁ B hml hv
  obtain ⟨rfl, hsz, hP, hK, hD0⟩ := hv
  have hx := B.exec
  have hb := B.bytes
  have hr := B.returns
  have hts := atoms_spec (ws := wsX7_tear) B.pre
  have hown : s.vm.findClass RX7 = some m.cls := findClass_of_methodNamed B.named
  have hlk := B.notSynchronized
  subst hsz
  have hD := hD0.self (sz := s.heap.size)
  generalize hAe : va_A (wd_7_6 g S7 S6) s.heap.size = A at hD ⊢
  have hA : ∀ q : Nat, s.heap.size ≤ q → A q := fun q h => by rw [← hAe]; exact Or.inr h
  have hS : va_S A s.heap s.heap [] := va_S.rf
  have C : cxw g A cX7_tear 2 (some .int) wsX7_tear RX7 p s m ([.ref (g.2.2.1 7), .int x1] : List Value).toArray meth c := ⟨⟨hx, hb, hr, hml, hown, hts, hlk⟩, hK, hA⟩
  have hl := lv_entry [.ref (g.2.2.1 7), .int x1] (n := 2) (Nat.le_of_ble_eq_true rfl)
  rw [lg_entry_eq]
  generalize (lg_sl [.ref (g.2.2.1 7), .int x1] ++ List.replicate (2 - (lg_sl [.ref (g.2.2.1 7), .int x1]).length) Slot.unset).toArray = ls at hl ⊢
  have hl : lv_has ls 2 [(0, .ref (g.2.2.1 7)), (1, .int x1)] := hl
  unfold f_X7_tear at hf
  suffices K9 : ∀ (H : Heap) (locs : List Loc), va_P g.1 vwCl (wd_7_6 g S7 S6) H → va_D A (wd_7_6 g S7 S6) → va_S A s.heap H locs → ((f_X7_isRow N x1).bind (fun r1 => (if r1 = 0 then some ((-1), S7, S6) else ((f_X6_isMissing N S6 x1).bind (fun r14 => (if r14 = 0 then ((f_X6_drop N S6 x1).bind (fun r31 => some (1, S7, r31))) else ((f_X7_refuse N S7 1).bind (fun r22 => some ((r22.1), (r22.2), S6))))))))) = some res → W p l e (headSpec wsX7_tear { frames := 2, cells := 0, slots := 0, locals := 42 }).room s m ([.ref (g.2.2.1 7), .int x1] : List Value).toArray below meth c H locs 0 0 (MQ below (rwQi g (wd_7_6 g (res.2.1) (res.2.2)) A (res.1)) ([.ref (g.2.2.1 7), .int x1] : List Value).toArray s 0 0 A) (F0 m 0 ls []) from K9 s.heap [] hP hD hS hf
  clear hP hD hS hf
  intro H locs hP hD hS hf
  refine lv_iload_n (pc := 0) hx hb dX7_tear_0 rfl (lv_at hl 1 rfl) ?_
  obtain ⟨r1, e1, hf⟩ := bdE hf
  refine ksI (pc := 1) (As := [.int x1]) (rest := []) ⟨hx, hb, hml, hown, hts⟩ (c_X7_isRow l N x1 r1 e1) (va_cwS 1 hts gX7_tear_X7_isRow rfl rfl rfl h_X7_isRow ⟨Nat.le_of_ble_eq_true rfl, Nat.le_of_ble_eq_true rfl⟩) rfl hl.1 rfl (Nat.le_of_ble_eq_true rfl) dX7_tear_1 ⟨Nat.zero_le _, Nat.zero_le _⟩ ?_
  refine lv_if_ne (tgt := 9) (pc := 4) hx hb dX7_tear_4 (by decide) (fun c4 => ?_) (fun c4 => ?_)
  · have hf := ff hf c4
    refine lv_aload_n (pc := 9) hx hb dX7_tear_9 rfl (lv_at hl 0 rfl) ?_
    refine va_get (D := g.1) (ci := 7) (v := .ref (g.2.2.1 6)) (C := RX7) (T := TX7) (N := 13) (pc := 10) hx hb hts (fun _ h => List.mem_cons_of_mem _ (List.mem_append_left _ (List.mem_append_right _ h))) hown hK hP 0 rfl rfl 1 (by decide) (hts _ q_X7_tear_0) (fun _ h9 => h9) rfl dX7_tear_10 ?_
    refine lv_iload_n (pc := 13) hx hb dX7_tear_13 rfl (lv_at hl 1 rfl) ?_
    obtain ⟨r14, e14, hf⟩ := bdE hf
    refine krI (g := g) (wc := (wd_6 g S6)) (pc := 14) (As := [.int x1]) (rest := []) ⟨hx, hb, hml, hown, hts⟩ (c_X6_isMissing l g N S6 x1 r14 e14) (cwV 1 hts gX7_tear_X6_isMissing rfl rfl rfl h_X6_isMissing ⟨Nat.le_of_ble_eq_true rfl, Nat.le_of_ble_eq_true rfl⟩) hK (hP.sub (ws' := (wd_6 g S6)) [2, 3, 4] rfl) rfl rfl rfl hl.1 rfl (Nat.le_of_ble_eq_true rfl) dX7_tear_14 ⟨Nat.zero_le _, Nat.zero_le _⟩ ?_
    refine lv_if_eq (tgt := 26) (pc := 17) hx hb dX7_tear_17 (by decide) (fun c17 => ?_) (fun c17 => ?_)
    · have hf := ft hf c17
      refine lv_aload_n (pc := 26) hx hb dX7_tear_26 rfl (lv_at hl 0 rfl) ?_
      refine va_get (D := g.1) (ci := 7) (v := .ref (g.2.2.1 6)) (C := RX7) (T := TX7) (N := 13) (pc := 27) hx hb hts (fun _ h => List.mem_cons_of_mem _ (List.mem_append_left _ (List.mem_append_right _ h))) hown hK hP 0 rfl rfl 1 (by decide) (hts _ q_X7_tear_0) (fun _ h9 => h9) rfl dX7_tear_27 ?_
      refine lv_iload_n (pc := 30) hx hb dX7_tear_30 rfl (lv_at hl 1 rfl) ?_
      obtain ⟨r31, e31, hf⟩ := bdE hf
      refine kwV (g := g) (A := A) (W0 := (wd_7_6 g S7 S6)) (wc := (wd_6 g S6)) (wr := (wd_7 g S7)) (w1 := (wd_6 g r31)) (W1 := (wd_7_6 g S7 r31)) (pc := 31) (As := [.int x1]) (rest := []) ⟨hx, hb, hml, hown, hts⟩ hK hA hP hD hS (c_X6_drop l g N H.size S6 x1 r31 e31) (cwV 1 hts gX7_tear_X6_drop rfl rfl rfl h_X6_drop ⟨Nat.le_of_ble_eq_true rfl, Nat.le_of_ble_eq_true rfl⟩) [2, 3, 4] [0, 1] [0, 1, 2, 3, 4] rfl rfl rfl rfl rfl (by decide) rfl rfl rfl rfl rfl rfl hl.1 rfl (Nat.le_of_ble_eq_true rfl) dX7_tear_31 ⟨Nat.zero_le _, Nat.zero_le _⟩ (fun H locs hP hD hS => ?_)
      refine lv_iconst (v := 1) (pc := 34) hx hb dX7_tear_34 (by decide) ?_
      have hf := Option.some.inj hf
      subst hf
      exact W.iret (v := 1) hx hb hr (fun t ht hW => ⟨⟨_, (), rfl, rfl, by rw [ht]; exact hP, va_K.moved hW.alike hK, hD⟩, hS.F ht⟩) hS.2.2 dX7_tear_35
    · have hf := ff hf c17
      refine lv_aload_n (pc := 20) hx hb dX7_tear_20 rfl (lv_at hl 0 rfl) ?_
      refine lv_iconst (v := 1) (pc := 21) hx hb dX7_tear_21 (by decide) ?_
      obtain ⟨r22, e22, hf⟩ := bdE hf
      refine kwI (g := g) (A := A) (W0 := (wd_7_6 g S7 S6)) (wc := (wd_7 g S7)) (wr := (wd_6 g S6)) (w1 := (wd_7 g (r22.2))) (W1 := (wd_7_6 g (r22.2) S6)) (pc := 22) (As := [.int 1]) (rest := []) ⟨hx, hb, hml, hown, hts⟩ hK hA hP hD hS (c_X7_refuse l g N H.size S7 1 r22 e22) (cwV 1 hts gX7_tear_X7_refuse rfl rfl rfl h_X7_refuse ⟨Nat.le_of_ble_eq_true rfl, Nat.le_of_ble_eq_true rfl⟩) [0, 1] [2, 3, 4] [3, 4, 0, 1, 2] rfl rfl rfl rfl rfl (by decide) rfl rfl rfl rfl rfl rfl hl.1 rfl (Nat.le_of_ble_eq_true rfl) dX7_tear_22 ⟨Nat.zero_le _, Nat.zero_le _⟩ (fun H locs hP hD hS => ?_)
      have hf := Option.some.inj hf
      subst hf
      exact W.iret (v := (r22.1)) hx hb hr (fun t ht hW => ⟨⟨_, (), rfl, rfl, by rw [ht]; exact hP, va_K.moved hW.alike hK, hD⟩, hS.F ht⟩) hS.2.2 dX7_tear_25
  · have hf := ft hf c4
    refine lv_iconst (v := (-1)) (pc := 7) hx hb dX7_tear_7 (by decide) ?_
    have hf := Option.some.inj hf
    subst hf
    exact W.iret (v := (-1)) hx hb hr (fun t ht hW => ⟨⟨_, (), rfl, rfl, by rw [ht]; exact hP, va_K.moved hW.alike hK, hD⟩, hS.F ht⟩) hS.2.2 dX7_tear_8
theorem q_X7_copy_0 : (.fieldLink RX7 20 "PictureCourt" "rows" "LPictureCourt$Rows;" : Cond) ∈ wsX7_copy := by decide +kernel
theorem h_X7_copy : yX7_copy.cls = RX7 ∧ yX7_copy.cls ≠ "java/lang/invoke/MethodHandle" ∧ yX7_copy.cls ≠ "java/lang/invoke/VarHandle" ∧ (parseMethodDescriptor yX7_copy.desc).map (fun d => d.parameters.length) = some 5 := by decide +kernel
set_option maxHeartbeats 4000000 in
set_option maxRecDepth 100000 in
theorem w_X7_copy_38 {p : Program} {l : Launch} {e : Env} {s : State} {m : MethodId} {args : Array Value} {below : List Frame} {meth : Method} {c : Code} {g : En} {A : Nat → Prop} {N : Nat} {res : Int32 × St × St} (C : cxw g A cX7_copy 6 (some .int) wsX7_copy RX7 p s m args meth c) : ∀ (H : Heap) (locs : List Loc) (S7 : St) (S6 : St) (ls : Array Slot), va_P g.1 vwCl (wd_7_6 g S7 S6) H → va_D A (wd_7_6 g S7 S6) → va_S A s.heap H locs → lv_has ls 6 [(0, .ref (g.2.2.1 7))] → f_X7_copy_38 N   S7 S6 = some res → W p l e (headSpec wsX7_copy { frames := 2, cells := 0, slots := 0, locals := 89 }).room s m args below meth c H locs 0 0 (MQ below (rwQi g (wd_7_6 g (res.2.1) (res.2.2)) A (res.1)) args s 0 0 A) (F0 m 38 ls []) := by
  intro H locs S7 S6 ls  hP hD hS hl hf
  obtain ⟨⟨hx, hb, hr, hml, hown, hts, hlk⟩, hK, hA⟩ := id C
  unfold f_X7_copy_38 at hf
  refine lv_aload_n (pc := 38) hx hb dX7_copy_38 rfl (lv_at hl 0 rfl) ?_
  refine lv_iconst (v := 1) (pc := 39) hx hb dX7_copy_39 (by decide) ?_
  obtain ⟨r40, e40, hf⟩ := bdE hf
  refine kwI (g := g) (A := A) (W0 := (wd_7_6 g S7 S6)) (wc := (wd_7 g S7)) (wr := (wd_6 g S6)) (w1 := (wd_7 g (r40.2))) (W1 := (wd_7_6 g (r40.2) S6)) (pc := 40) (As := [.int 1]) (rest := []) ⟨hx, hb, hml, hown, hts⟩ hK hA hP hD hS (c_X7_refuse l g N H.size S7 1 r40 e40) (cwV 1 hts gX7_copy_X7_refuse rfl rfl rfl h_X7_refuse ⟨Nat.le_of_ble_eq_true rfl, Nat.le_of_ble_eq_true rfl⟩) [0, 1] [2, 3, 4] [3, 4, 0, 1, 2] rfl rfl rfl rfl rfl (by decide) rfl rfl rfl rfl rfl rfl hl.1 rfl (Nat.le_of_ble_eq_true rfl) dX7_copy_40 ⟨Nat.zero_le _, Nat.zero_le _⟩ (fun H locs hP hD hS => ?_)
  have hf := Option.some.inj hf
  subst hf
  exact W.iret (v := (r40.1)) hx hb hr (fun t ht hW => ⟨⟨_, (), rfl, rfl, by rw [ht]; exact hP, va_K.moved hW.alike hK, hD⟩, hS.F ht⟩) hS.2.2 dX7_copy_43
set_option maxHeartbeats 4000000 in
set_option maxRecDepth 100000 in
theorem w_X7_copy_73 {p : Program} {l : Launch} {e : Env} {s : State} {m : MethodId} {args : Array Value} {below : List Frame} {meth : Method} {c : Code} {g : En} {A : Nat → Prop} {N : Nat} {res : Int32 × St × St} (C : cxw g A cX7_copy 6 (some .int) wsX7_copy RX7 p s m args meth c) : ∀ (H : Heap) (locs : List Loc) (S7 : St) (S6 : St) (ls : Array Slot), va_P g.1 vwCl (wd_7_6 g S7 S6) H → va_D A (wd_7_6 g S7 S6) → va_S A s.heap H locs → lv_has ls 6 [(0, .ref (g.2.2.1 7))] → f_X7_copy_73 N   S7 S6 = some res → W p l e (headSpec wsX7_copy { frames := 2, cells := 0, slots := 0, locals := 89 }).room s m args below meth c H locs 0 0 (MQ below (rwQi g (wd_7_6 g (res.2.1) (res.2.2)) A (res.1)) args s 0 0 A) (F0 m 73 ls []) := by
  intro H locs S7 S6 ls  hP hD hS hl hf
  obtain ⟨⟨hx, hb, hr, hml, hown, hts, hlk⟩, hK, hA⟩ := id C
  unfold f_X7_copy_73 at hf
  refine lv_aload_n (pc := 73) hx hb dX7_copy_73 rfl (lv_at hl 0 rfl) ?_
  refine lv_iconst (v := 2) (pc := 74) hx hb dX7_copy_74 (by decide) ?_
  obtain ⟨r75, e75, hf⟩ := bdE hf
  refine kwI (g := g) (A := A) (W0 := (wd_7_6 g S7 S6)) (wc := (wd_7 g S7)) (wr := (wd_6 g S6)) (w1 := (wd_7 g (r75.2))) (W1 := (wd_7_6 g (r75.2) S6)) (pc := 75) (As := [.int 2]) (rest := []) ⟨hx, hb, hml, hown, hts⟩ hK hA hP hD hS (c_X7_refuse l g N H.size S7 2 r75 e75) (cwV 1 hts gX7_copy_X7_refuse rfl rfl rfl h_X7_refuse ⟨Nat.le_of_ble_eq_true rfl, Nat.le_of_ble_eq_true rfl⟩) [0, 1] [2, 3, 4] [3, 4, 0, 1, 2] rfl rfl rfl rfl rfl (by decide) rfl rfl rfl rfl rfl rfl hl.1 rfl (Nat.le_of_ble_eq_true rfl) dX7_copy_75 ⟨Nat.zero_le _, Nat.zero_le _⟩ (fun H locs hP hD hS => ?_)
  have hf := Option.some.inj hf
  subst hf
  exact W.iret (v := (r75.1)) hx hb hr (fun t ht hW => ⟨⟨_, (), rfl, rfl, by rw [ht]; exact hP, va_K.moved hW.alike hK, hD⟩, hS.F ht⟩) hS.2.2 dX7_copy_78
set_option maxHeartbeats 4000000 in
set_option maxRecDepth 100000 in
theorem c_X7_copy (l : Launch) (g : En) (N : Nat) (sz : Nat) (S7 : St) (S6 : St) (x1 : Int32) (x2 : Int32) (x3 : Int32) (x4 : Int32) (x5 : Int32) (res : Int32 × St × St) (hf : f_X7_copy N S7 S6 x1 x2 x3 x4 x5 = some res) : Met l yX7_copy wsX7_copy { frames := 2, cells := 0, slots := 0, locals := 89 } (rwP g (wd_7_6 g S7 S6) sz [.ref (g.2.2.1 7), .int x1, .int x2, .int x3, .int x4, .int x5]) (rwQi g (wd_7_6 g (res.2.1) (res.2.2)) (va_A (wd_7_6 g S7 S6) sz) (res.1)) 0 0 (va_A (wd_7_6 g S7 S6) sz) := by
  refine Met.ofW (cc := cX7_copy) (maxL := 6) (ret := (some .int)) (by decide) rfl ?_
  intro p e s m args below meth c s₁ B hml hv
  obtain ⟨rfl, hsz, hP, hK, hD0⟩ := hv
  have hx := B.exec
  have hb := B.bytes
  have hr := B.returns
  have hts := atoms_spec (ws := wsX7_copy) B.pre
  have hown : s.vm.findClass RX7 = some m.cls := findClass_of_methodNamed B.named
  have hlk := B.notSynchronized
  subst hsz
  have hD := hD0.self (sz := s.heap.size)
  generalize hAe : va_A (wd_7_6 g S7 S6) s.heap.size = A at hD ⊢
  have hA : ∀ q : Nat, s.heap.size ≤ q → A q := fun q h => by rw [← hAe]; exact Or.inr h
  have hS : va_S A s.heap s.heap [] := va_S.rf
  have C : cxw g A cX7_copy 6 (some .int) wsX7_copy RX7 p s m ([.ref (g.2.2.1 7), .int x1, .int x2, .int x3, .int x4, .int x5] : List Value).toArray meth c := ⟨⟨hx, hb, hr, hml, hown, hts, hlk⟩, hK, hA⟩
  have hl := lv_entry [.ref (g.2.2.1 7), .int x1, .int x2, .int x3, .int x4, .int x5] (n := 6) (Nat.le_of_ble_eq_true rfl)
  rw [lg_entry_eq]
  generalize (lg_sl [.ref (g.2.2.1 7), .int x1, .int x2, .int x3, .int x4, .int x5] ++ List.replicate (6 - (lg_sl [.ref (g.2.2.1 7), .int x1, .int x2, .int x3, .int x4, .int x5]).length) Slot.unset).toArray = ls at hl ⊢
  have hl : lv_has ls 6 [(0, .ref (g.2.2.1 7)), (1, .int x1), (2, .int x2), (3, .int x3), (4, .int x4), (5, .int x5)] := hl
  unfold f_X7_copy at hf
  suffices K9 : ∀ (H : Heap) (locs : List Loc), va_P g.1 vwCl (wd_7_6 g S7 S6) H → va_D A (wd_7_6 g S7 S6) → va_S A s.heap H locs → ((f_X7_isRow N x1).bind (fun r1 => (if r1 = 0 then some ((-1), S7, S6) else ((f_X7_isRow N x3).bind (fun r8 => (if r8 = 0 then some ((-1), S7, S6) else ((f_X6_isMissing N S6 x1).bind (fun r21 => (if r21 = 0 then ((f_X6_isMissing N S6 x3).bind (fun r32 => (if r32 = 0 then ((f_X6_hasRun N S6 x1 x2 x5).bind (fun r52 => (if r52 = 0 then (f_X7_copy_73 N   S7 S6) else ((f_X6_hasRun N S6 x3 x4 x5).bind (fun r67 => (if r67 = 0 then (f_X7_copy_73 N   S7 S6) else ((f_X6_move N S6 x1 x2 x3 x4 x5).bind (fun r90 => some (1, S7, r90))))))))) else (f_X7_copy_38 N   S7 S6)))) else (f_X7_copy_38 N   S7 S6)))))))))) = some res → W p l e (headSpec wsX7_copy { frames := 2, cells := 0, slots := 0, locals := 89 }).room s m ([.ref (g.2.2.1 7), .int x1, .int x2, .int x3, .int x4, .int x5] : List Value).toArray below meth c H locs 0 0 (MQ below (rwQi g (wd_7_6 g (res.2.1) (res.2.2)) A (res.1)) ([.ref (g.2.2.1 7), .int x1, .int x2, .int x3, .int x4, .int x5] : List Value).toArray s 0 0 A) (F0 m 0 ls []) from K9 s.heap [] hP hD hS hf
  clear hP hD hS hf
  intro H locs hP hD hS hf
  refine lv_iload_n (pc := 0) hx hb dX7_copy_0 rfl (lv_at hl 1 rfl) ?_
  obtain ⟨r1, e1, hf⟩ := bdE hf
  refine ksI (pc := 1) (As := [.int x1]) (rest := []) ⟨hx, hb, hml, hown, hts⟩ (c_X7_isRow l N x1 r1 e1) (va_cwS 1 hts gX7_copy_X7_isRow rfl rfl rfl h_X7_isRow ⟨Nat.le_of_ble_eq_true rfl, Nat.le_of_ble_eq_true rfl⟩) rfl hl.1 rfl (Nat.le_of_ble_eq_true rfl) dX7_copy_1 ⟨Nat.zero_le _, Nat.zero_le _⟩ ?_
  refine lv_if_eq (tgt := 14) (pc := 4) hx hb dX7_copy_4 (by decide) (fun c4 => ?_) (fun c4 => ?_)
  · have hf := ft hf c4
    refine lv_iconst (v := (-1)) (pc := 14) hx hb dX7_copy_14 (by decide) ?_
    have hf := Option.some.inj hf
    subst hf
    exact W.iret (v := (-1)) hx hb hr (fun t ht hW => ⟨⟨_, (), rfl, rfl, by rw [ht]; exact hP, va_K.moved hW.alike hK, hD⟩, hS.F ht⟩) hS.2.2 dX7_copy_15
  · have hf := ff hf c4
    refine lv_iload_n (pc := 7) hx hb dX7_copy_7 rfl (lv_at hl 3 rfl) ?_
    obtain ⟨r8, e8, hf⟩ := bdE hf
    refine ksI (pc := 8) (As := [.int x3]) (rest := []) ⟨hx, hb, hml, hown, hts⟩ (c_X7_isRow l N x3 r8 e8) (va_cwS 1 hts gX7_copy_X7_isRow rfl rfl rfl h_X7_isRow ⟨Nat.le_of_ble_eq_true rfl, Nat.le_of_ble_eq_true rfl⟩) rfl hl.1 rfl (Nat.le_of_ble_eq_true rfl) dX7_copy_8 ⟨Nat.zero_le _, Nat.zero_le _⟩ ?_
    refine lv_if_ne (tgt := 16) (pc := 11) hx hb dX7_copy_11 (by decide) (fun c11 => ?_) (fun c11 => ?_)
    · have hf := ff hf c11
      refine lv_aload_n (pc := 16) hx hb dX7_copy_16 rfl (lv_at hl 0 rfl) ?_
      refine va_get (D := g.1) (ci := 7) (v := .ref (g.2.2.1 6)) (C := RX7) (T := TX7) (N := 13) (pc := 17) hx hb hts (fun _ h => List.mem_cons_of_mem _ (List.mem_append_left _ (List.mem_append_right _ h))) hown hK hP 0 rfl rfl 1 (by decide) (hts _ q_X7_copy_0) (fun _ h9 => h9) rfl dX7_copy_17 ?_
      refine lv_iload_n (pc := 20) hx hb dX7_copy_20 rfl (lv_at hl 1 rfl) ?_
      obtain ⟨r21, e21, hf⟩ := bdE hf
      refine krI (g := g) (wc := (wd_6 g S6)) (pc := 21) (As := [.int x1]) (rest := []) ⟨hx, hb, hml, hown, hts⟩ (c_X6_isMissing l g N S6 x1 r21 e21) (cwV 1 hts gX7_copy_X6_isMissing rfl rfl rfl h_X6_isMissing ⟨Nat.le_of_ble_eq_true rfl, Nat.le_of_ble_eq_true rfl⟩) hK (hP.sub (ws' := (wd_6 g S6)) [2, 3, 4] rfl) rfl rfl rfl hl.1 rfl (Nat.le_of_ble_eq_true rfl) dX7_copy_21 ⟨Nat.zero_le _, Nat.zero_le _⟩ ?_
      refine lv_if_ne (tgt := 38) (pc := 24) hx hb dX7_copy_24 (by decide) (fun c24 => ?_) (fun c24 => ?_)
      · have hf := ff hf c24
        exact w_X7_copy_38 C  H locs S7 S6 ls  hP hD hS (lv_sub hl [0] rfl) hf
      · have hf := ft hf c24
        refine lv_aload_n (pc := 27) hx hb dX7_copy_27 rfl (lv_at hl 0 rfl) ?_
        refine va_get (D := g.1) (ci := 7) (v := .ref (g.2.2.1 6)) (C := RX7) (T := TX7) (N := 13) (pc := 28) hx hb hts (fun _ h => List.mem_cons_of_mem _ (List.mem_append_left _ (List.mem_append_right _ h))) hown hK hP 0 rfl rfl 1 (by decide) (hts _ q_X7_copy_0) (fun _ h9 => h9) rfl dX7_copy_28 ?_
        refine lv_iload_n (pc := 31) hx hb dX7_copy_31 rfl (lv_at hl 3 rfl) ?_
        obtain ⟨r32, e32, hf⟩ := bdE hf
        refine krI (g := g) (wc := (wd_6 g S6)) (pc := 32) (As := [.int x3]) (rest := []) ⟨hx, hb, hml, hown, hts⟩ (c_X6_isMissing l g N S6 x3 r32 e32) (cwV 1 hts gX7_copy_X6_isMissing rfl rfl rfl h_X6_isMissing ⟨Nat.le_of_ble_eq_true rfl, Nat.le_of_ble_eq_true rfl⟩) hK (hP.sub (ws' := (wd_6 g S6)) [2, 3, 4] rfl) rfl rfl rfl hl.1 rfl (Nat.le_of_ble_eq_true rfl) dX7_copy_32 ⟨Nat.zero_le _, Nat.zero_le _⟩ ?_
        refine lv_if_eq (tgt := 44) (pc := 35) hx hb dX7_copy_35 (by decide) (fun c35 => ?_) (fun c35 => ?_)
        · have hf := ft hf c35
          refine lv_aload_n (pc := 44) hx hb dX7_copy_44 rfl (lv_at hl 0 rfl) ?_
          refine va_get (D := g.1) (ci := 7) (v := .ref (g.2.2.1 6)) (C := RX7) (T := TX7) (N := 13) (pc := 45) hx hb hts (fun _ h => List.mem_cons_of_mem _ (List.mem_append_left _ (List.mem_append_right _ h))) hown hK hP 0 rfl rfl 1 (by decide) (hts _ q_X7_copy_0) (fun _ h9 => h9) rfl dX7_copy_45 ?_
          refine lv_iload_n (pc := 48) hx hb dX7_copy_48 rfl (lv_at hl 1 rfl) ?_
          refine lv_iload_n (pc := 49) hx hb dX7_copy_49 rfl (lv_at hl 2 rfl) ?_
          refine lv_iload (pc := 50) hx hb dX7_copy_50 (lv_at hl 5 rfl) ?_
          obtain ⟨r52, e52, hf⟩ := bdE hf
          refine krI (g := g) (wc := (wd_6 g S6)) (pc := 52) (As := [.int x1, .int x2, .int x5]) (rest := []) ⟨hx, hb, hml, hown, hts⟩ (c_X6_hasRun l g N S6 x1 x2 x5 r52 e52) (cwV 3 hts gX7_copy_X6_hasRun rfl rfl rfl h_X6_hasRun ⟨Nat.le_of_ble_eq_true rfl, Nat.le_of_ble_eq_true rfl⟩) hK (hP.sub (ws' := (wd_6 g S6)) [2, 3, 4] rfl) rfl rfl rfl hl.1 rfl (Nat.le_of_ble_eq_true rfl) dX7_copy_52 ⟨Nat.zero_le _, Nat.zero_le _⟩ ?_
          refine lv_if_eq (tgt := 73) (pc := 55) hx hb dX7_copy_55 (by decide) (fun c55 => ?_) (fun c55 => ?_)
          · have hf := ft hf c55
            exact w_X7_copy_73 C  H locs S7 S6 ls  hP hD hS (lv_sub hl [0] rfl) hf
          · have hf := ff hf c55
            refine lv_aload_n (pc := 58) hx hb dX7_copy_58 rfl (lv_at hl 0 rfl) ?_
            refine va_get (D := g.1) (ci := 7) (v := .ref (g.2.2.1 6)) (C := RX7) (T := TX7) (N := 13) (pc := 59) hx hb hts (fun _ h => List.mem_cons_of_mem _ (List.mem_append_left _ (List.mem_append_right _ h))) hown hK hP 0 rfl rfl 1 (by decide) (hts _ q_X7_copy_0) (fun _ h9 => h9) rfl dX7_copy_59 ?_
            refine lv_iload_n (pc := 62) hx hb dX7_copy_62 rfl (lv_at hl 3 rfl) ?_
            refine lv_iload (pc := 63) hx hb dX7_copy_63 (lv_at hl 4 rfl) ?_
            refine lv_iload (pc := 65) hx hb dX7_copy_65 (lv_at hl 5 rfl) ?_
            obtain ⟨r67, e67, hf⟩ := bdE hf
            refine krI (g := g) (wc := (wd_6 g S6)) (pc := 67) (As := [.int x3, .int x4, .int x5]) (rest := []) ⟨hx, hb, hml, hown, hts⟩ (c_X6_hasRun l g N S6 x3 x4 x5 r67 e67) (cwV 3 hts gX7_copy_X6_hasRun rfl rfl rfl h_X6_hasRun ⟨Nat.le_of_ble_eq_true rfl, Nat.le_of_ble_eq_true rfl⟩) hK (hP.sub (ws' := (wd_6 g S6)) [2, 3, 4] rfl) rfl rfl rfl hl.1 rfl (Nat.le_of_ble_eq_true rfl) dX7_copy_67 ⟨Nat.zero_le _, Nat.zero_le _⟩ ?_
            refine lv_if_ne (tgt := 79) (pc := 70) hx hb dX7_copy_70 (by decide) (fun c70 => ?_) (fun c70 => ?_)
            · have hf := ff hf c70
              refine lv_aload_n (pc := 79) hx hb dX7_copy_79 rfl (lv_at hl 0 rfl) ?_
              refine va_get (D := g.1) (ci := 7) (v := .ref (g.2.2.1 6)) (C := RX7) (T := TX7) (N := 13) (pc := 80) hx hb hts (fun _ h => List.mem_cons_of_mem _ (List.mem_append_left _ (List.mem_append_right _ h))) hown hK hP 0 rfl rfl 1 (by decide) (hts _ q_X7_copy_0) (fun _ h9 => h9) rfl dX7_copy_80 ?_
              refine lv_iload_n (pc := 83) hx hb dX7_copy_83 rfl (lv_at hl 1 rfl) ?_
              refine lv_iload_n (pc := 84) hx hb dX7_copy_84 rfl (lv_at hl 2 rfl) ?_
              refine lv_iload_n (pc := 85) hx hb dX7_copy_85 rfl (lv_at hl 3 rfl) ?_
              refine lv_iload (pc := 86) hx hb dX7_copy_86 (lv_at hl 4 rfl) ?_
              refine lv_iload (pc := 88) hx hb dX7_copy_88 (lv_at hl 5 rfl) ?_
              obtain ⟨r90, e90, hf⟩ := bdE hf
              refine kwV (g := g) (A := A) (W0 := (wd_7_6 g S7 S6)) (wc := (wd_6 g S6)) (wr := (wd_7 g S7)) (w1 := (wd_6 g r90)) (W1 := (wd_7_6 g S7 r90)) (pc := 90) (As := [.int x1, .int x2, .int x3, .int x4, .int x5]) (rest := []) ⟨hx, hb, hml, hown, hts⟩ hK hA hP hD hS (c_X6_move l g N H.size S6 x1 x2 x3 x4 x5 r90 e90) (cwV 5 hts gX7_copy_X6_move rfl rfl rfl h_X6_move ⟨Nat.le_of_ble_eq_true rfl, Nat.le_of_ble_eq_true rfl⟩) [2, 3, 4] [0, 1] [0, 1, 2, 3, 4] rfl rfl rfl rfl rfl (by decide) rfl rfl rfl rfl rfl rfl hl.1 rfl (Nat.le_of_ble_eq_true rfl) dX7_copy_90 ⟨Nat.zero_le _, Nat.zero_le _⟩ (fun H locs hP hD hS => ?_)
              refine lv_iconst (v := 1) (pc := 93) hx hb dX7_copy_93 (by decide) ?_
              have hf := Option.some.inj hf
              subst hf
              exact W.iret (v := 1) hx hb hr (fun t ht hW => ⟨⟨_, (), rfl, rfl, by rw [ht]; exact hP, va_K.moved hW.alike hK, hD⟩, hS.F ht⟩) hS.2.2 dX7_copy_94
            · have hf := ft hf c70
              exact w_X7_copy_73 C  H locs S7 S6 ls  hP hD hS (lv_sub hl [0] rfl) hf
        · have hf := ff hf c35
          exact w_X7_copy_38 C  H locs S7 S6 ls  hP hD hS (lv_sub hl [0] rfl) hf
    · have hf := ft hf c11
      refine lv_iconst (v := (-1)) (pc := 14) hx hb dX7_copy_14 (by decide) ?_
      have hf := Option.some.inj hf
      subst hf
      exact W.iret (v := (-1)) hx hb hr (fun t ht hW => ⟨⟨_, (), rfl, rfl, by rw [ht]; exact hP, va_K.moved hW.alike hK, hD⟩, hS.F ht⟩) hS.2.2 dX7_copy_15
theorem h_X7_areTwoRows : yX7_areTwoRows.cls ≠ "java/lang/invoke/MethodHandle" ∧ yX7_areTwoRows.cls ≠ "java/lang/invoke/VarHandle" ∧ (parseMethodDescriptor yX7_areTwoRows.desc).map (fun d => d.parameters.length) = some 2 := by decide +kernel
set_option maxHeartbeats 4000000 in
set_option maxRecDepth 100000 in
theorem c_X7_areTwoRows (l : Launch) (N : Nat) (x0 : Int32) (x1 : Int32) (res : Int32) (hf : f_X7_areTwoRows N x0 x1 = some res) : Met l yX7_areTwoRows wsX7_areTwoRows { frames := 2, cells := 0, slots := 0, locals := 42 } (va_Pc [.int x0, .int x1] (fun _ => True)) (vp_Si (fun r => r = res)) 0 0 (fun _ => False) := by
  refine Met.ofW (cc := cX7_areTwoRows) (maxL := 2) (ret := (some .boolean)) (by decide) rfl ?_
  intro p e s m args below meth c s₁ B hml hv
  obtain ⟨rfl, -⟩ := hv
  have hx := B.exec
  have hb := B.bytes
  have hr := B.returns
  have hts := atoms_spec (ws := wsX7_areTwoRows) B.pre
  have hown : s.vm.findClass RX7 = some m.cls := findClass_of_methodNamed B.named
  have hlk := B.notSynchronized
  have C : cxs cX7_areTwoRows 2 (some .boolean) wsX7_areTwoRows RX7 p s m ([.int x0, .int x1] : List Value).toArray meth c := ⟨hx, hb, hr, hml, hown, hts, hlk⟩
  have hl := lv_entry [.int x0, .int x1] (n := 2) (Nat.le_of_ble_eq_true rfl)
  rw [lg_entry_eq]
  generalize (lg_sl [.int x0, .int x1] ++ List.replicate (2 - (lg_sl [.int x0, .int x1]).length) Slot.unset).toArray = ls at hl ⊢
  have hl : lv_has ls 2 [(0, .int x0), (1, .int x1)] := hl
  unfold f_X7_areTwoRows at hf
  refine lv_iload_n (pc := 0) hx hb dX7_areTwoRows_0 rfl (lv_at hl 0 rfl) ?_
  obtain ⟨r1, e1, hf⟩ := bdE hf
  refine ksI (pc := 1) (As := [.int x0]) (rest := []) ⟨hx, hb, hml, hown, hts⟩ (c_X7_isRow l N x0 r1 e1) (va_cwS 1 hts gX7_areTwoRows_X7_isRow rfl rfl rfl h_X7_isRow ⟨Nat.le_of_ble_eq_true rfl, Nat.le_of_ble_eq_true rfl⟩) rfl hl.1 rfl (Nat.le_of_ble_eq_true rfl) dX7_areTwoRows_1 ⟨Nat.zero_le _, Nat.zero_le _⟩ ?_
  refine lv_if_eq (tgt := 23) (pc := 4) hx hb dX7_areTwoRows_4 (by decide) (fun c4 => ?_) (fun c4 => ?_)
  · have hf := ft hf c4
    refine lv_iconst (v := 0) (pc := 23) hx hb dX7_areTwoRows_23 (by decide) ?_
    have hf := Option.some.inj hf
    subst hf
    exact W.zret (v := 0) hx hb hr rfl (fun t ht hW => ⟨_, rfl, rfl, ht⟩) (fun _ h => by cases h) dX7_areTwoRows_24
  · have hf := ff hf c4
    refine lv_iload_n (pc := 7) hx hb dX7_areTwoRows_7 rfl (lv_at hl 1 rfl) ?_
    obtain ⟨r8, e8, hf⟩ := bdE hf
    refine ksI (pc := 8) (As := [.int x1]) (rest := []) ⟨hx, hb, hml, hown, hts⟩ (c_X7_isRow l N x1 r8 e8) (va_cwS 1 hts gX7_areTwoRows_X7_isRow rfl rfl rfl h_X7_isRow ⟨Nat.le_of_ble_eq_true rfl, Nat.le_of_ble_eq_true rfl⟩) rfl hl.1 rfl (Nat.le_of_ble_eq_true rfl) dX7_areTwoRows_8 ⟨Nat.zero_le _, Nat.zero_le _⟩ ?_
    refine lv_if_eq (tgt := 23) (pc := 11) hx hb dX7_areTwoRows_11 (by decide) (fun c11 => ?_) (fun c11 => ?_)
    · have hf := ft hf c11
      refine lv_iconst (v := 0) (pc := 23) hx hb dX7_areTwoRows_23 (by decide) ?_
      have hf := Option.some.inj hf
      subst hf
      exact W.zret (v := 0) hx hb hr rfl (fun t ht hW => ⟨_, rfl, rfl, ht⟩) (fun _ h => by cases h) dX7_areTwoRows_24
    · have hf := ff hf c11
      refine lv_iload_n (pc := 14) hx hb dX7_areTwoRows_14 rfl (lv_at hl 0 rfl) ?_
      refine lv_iload_n (pc := 15) hx hb dX7_areTwoRows_15 rfl (lv_at hl 1 rfl) ?_
      refine lv_icmp_eq (tgt := 23) (pc := 16) hx hb dX7_areTwoRows_16 (by decide) (fun c16 => ?_) (fun c16 => ?_)
      · have hf := ft hf c16
        refine lv_iconst (v := 0) (pc := 23) hx hb dX7_areTwoRows_23 (by decide) ?_
        have hf := Option.some.inj hf
        subst hf
        exact W.zret (v := 0) hx hb hr rfl (fun t ht hW => ⟨_, rfl, rfl, ht⟩) (fun _ h => by cases h) dX7_areTwoRows_24
      · have hf := ff hf c16
        refine lv_iconst (v := 1) (pc := 19) hx hb dX7_areTwoRows_19 (by decide) ?_
        refine lv_goto (tgt := 24) (pc := 20) hx hb dX7_areTwoRows_20 (by decide) ?_
        have hf := Option.some.inj hf
        subst hf
        exact W.zret (v := 1) hx hb hr rfl (fun t ht hW => ⟨_, rfl, rfl, ht⟩) (fun _ h => by cases h) dX7_areTwoRows_24
theorem q_X7_match_0 : (.fieldLink RX7 20 "PictureCourt" "rows" "LPictureCourt$Rows;" : Cond) ∈ wsX7_match := by decide +kernel
theorem q_X7_match_1 : (.fieldLink RX7 67 "PictureCourt" "askedNumber" "I" : Cond) ∈ wsX7_match := by decide +kernel
theorem h_X7_match : yX7_match.cls = RX7 ∧ yX7_match.cls ≠ "java/lang/invoke/MethodHandle" ∧ yX7_match.cls ≠ "java/lang/invoke/VarHandle" ∧ (parseMethodDescriptor yX7_match.desc).map (fun d => d.parameters.length) = some 2 := by decide +kernel
set_option maxHeartbeats 4000000 in
set_option maxRecDepth 100000 in
theorem w_X7_match_32 {p : Program} {l : Launch} {e : Env} {s : State} {m : MethodId} {args : Array Value} {below : List Frame} {meth : Method} {c : Code} {g : En} {A : Nat → Prop} {N : Nat} {S6 : St} {res : Int32 × St} (C : cxw g A cX7_match 4 (some .int) wsX7_match RX7 p s m args meth c) : ∀ (H : Heap) (locs : List Loc) (S7 : St) (ls : Array Slot), va_P g.1 vwCl (wd_7_6 g S7 S6) H → va_D A (wd_7_6 g S7 S6) → va_S A s.heap H locs → lv_has ls 4 [(0, .ref (g.2.2.1 7))] → f_X7_match_32 N S6  S7 = some res → W p l e (headSpec wsX7_match { frames := 3, cells := 0, slots := 0, locals := 77 }).room s m args below meth c H locs 0 0 (MQ below (rwQi g (wd_7_6 g (res.2) S6) A (res.1)) args s 0 0 A) (F0 m 32 ls []) := by
  intro H locs S7 ls  hP hD hS hl hf
  obtain ⟨⟨hx, hb, hr, hml, hown, hts, hlk⟩, hK, hA⟩ := id C
  unfold f_X7_match_32 at hf
  refine lv_aload_n (pc := 32) hx hb dX7_match_32 rfl (lv_at hl 0 rfl) ?_
  refine lv_iconst (v := 1) (pc := 33) hx hb dX7_match_33 (by decide) ?_
  obtain ⟨r34, e34, hf⟩ := bdE hf
  refine kwI (g := g) (A := A) (W0 := (wd_7_6 g S7 S6)) (wc := (wd_7 g S7)) (wr := (wd_6 g S6)) (w1 := (wd_7 g (r34.2))) (W1 := (wd_7_6 g (r34.2) S6)) (pc := 34) (As := [.int 1]) (rest := []) ⟨hx, hb, hml, hown, hts⟩ hK hA hP hD hS (c_X7_refuse l g N H.size S7 1 r34 e34) (cwV 1 hts gX7_match_X7_refuse rfl rfl rfl h_X7_refuse ⟨Nat.le_of_ble_eq_true rfl, Nat.le_of_ble_eq_true rfl⟩) [0, 1] [2, 3, 4] [3, 4, 0, 1, 2] rfl rfl rfl rfl rfl (by decide) rfl rfl rfl rfl rfl rfl hl.1 rfl (Nat.le_of_ble_eq_true rfl) dX7_match_34 ⟨Nat.zero_le _, Nat.zero_le _⟩ (fun H locs hP hD hS => ?_)
  have hf := Option.some.inj hf
  subst hf
  exact W.iret (v := (r34.1)) hx hb hr (fun t ht hW => ⟨⟨_, (), rfl, rfl, by rw [ht]; exact hP, va_K.moved hW.alike hK, hD⟩, hS.F ht⟩) hS.2.2 dX7_match_37
set_option maxHeartbeats 4000000 in
set_option maxRecDepth 100000 in
theorem c_X7_match (l : Launch) (g : En) (N : Nat) (sz : Nat) (S7 : St) (S6 : St) (x1 : Int32) (x2 : Int32) (res : Int32 × St) (hf : f_X7_match N S7 S6 x1 x2 = some res) : Met l yX7_match wsX7_match { frames := 3, cells := 0, slots := 0, locals := 77 } (rwP g (wd_7_6 g S7 S6) sz [.ref (g.2.2.1 7), .int x1, .int x2]) (rwQi g (wd_7_6 g (res.2) S6) (va_A (wd_7_6 g S7 S6) sz) (res.1)) 0 0 (va_A (wd_7_6 g S7 S6) sz) := by
  refine Met.ofW (cc := cX7_match) (maxL := 4) (ret := (some .int)) (by decide) rfl ?_
  intro p e s m args below meth c s₁ B hml hv
  obtain ⟨rfl, hsz, hP, hK, hD0⟩ := hv
  have hx := B.exec
  have hb := B.bytes
  have hr := B.returns
  have hts := atoms_spec (ws := wsX7_match) B.pre
  have hown : s.vm.findClass RX7 = some m.cls := findClass_of_methodNamed B.named
  have hlk := B.notSynchronized
  subst hsz
  have hD := hD0.self (sz := s.heap.size)
  generalize hAe : va_A (wd_7_6 g S7 S6) s.heap.size = A at hD ⊢
  have hA : ∀ q : Nat, s.heap.size ≤ q → A q := fun q h => by rw [← hAe]; exact Or.inr h
  have hS : va_S A s.heap s.heap [] := va_S.rf
  have C : cxw g A cX7_match 4 (some .int) wsX7_match RX7 p s m ([.ref (g.2.2.1 7), .int x1, .int x2] : List Value).toArray meth c := ⟨⟨hx, hb, hr, hml, hown, hts, hlk⟩, hK, hA⟩
  have hl := lv_entry [.ref (g.2.2.1 7), .int x1, .int x2] (n := 4) (Nat.le_of_ble_eq_true rfl)
  rw [lg_entry_eq]
  generalize (lg_sl [.ref (g.2.2.1 7), .int x1, .int x2] ++ List.replicate (4 - (lg_sl [.ref (g.2.2.1 7), .int x1, .int x2]).length) Slot.unset).toArray = ls at hl ⊢
  have hl : lv_has ls 4 [(0, .ref (g.2.2.1 7)), (1, .int x1), (2, .int x2)] := hl
  unfold f_X7_match at hf
  suffices K9 : ∀ (H : Heap) (locs : List Loc), va_P g.1 vwCl (wd_7_6 g S7 S6) H → va_D A (wd_7_6 g S7 S6) → va_S A s.heap H locs → ((f_X7_areTwoRows N x1 x2).bind (fun r2 => (if r2 = 0 then some ((-1), S7) else ((f_X6_isMissing N S6 x1).bind (fun r15 => (if r15 = 0 then ((f_X6_isMissing N S6 x2).bind (fun r26 => (if r26 = 0 then ((f_X6_canMatch N S6 x1 x2).bind (fun r44 => (if r44 = 0 then ((f_X7_refuse N S7 5).bind (fun r52 => some ((r52.1), (r52.2)))) else ((f_X6_bestPlace N S6 x1 x2).bind (fun r62 => ((f_X6_offAt N S6 x1 x2 r62).bind (fun r74 => some (r62, (sI S7 10 r74))))))))) else (f_X7_match_32 N S6  S7)))) else (f_X7_match_32 N S6  S7))))))) = some res → W p l e (headSpec wsX7_match { frames := 3, cells := 0, slots := 0, locals := 77 }).room s m ([.ref (g.2.2.1 7), .int x1, .int x2] : List Value).toArray below meth c H locs 0 0 (MQ below (rwQi g (wd_7_6 g (res.2) S6) A (res.1)) ([.ref (g.2.2.1 7), .int x1, .int x2] : List Value).toArray s 0 0 A) (F0 m 0 ls []) from K9 s.heap [] hP hD hS hf
  clear hP hD hS hf
  intro H locs hP hD hS hf
  refine lv_iload_n (pc := 0) hx hb dX7_match_0 rfl (lv_at hl 1 rfl) ?_
  refine lv_iload_n (pc := 1) hx hb dX7_match_1 rfl (lv_at hl 2 rfl) ?_
  obtain ⟨r2, e2, hf⟩ := bdE hf
  refine ksI (pc := 2) (As := [.int x1, .int x2]) (rest := []) ⟨hx, hb, hml, hown, hts⟩ (c_X7_areTwoRows l N x1 x2 r2 e2) (va_cwS 2 hts gX7_match_X7_areTwoRows rfl rfl rfl h_X7_areTwoRows ⟨Nat.le_of_ble_eq_true rfl, Nat.le_of_ble_eq_true rfl⟩) rfl hl.1 rfl (Nat.le_of_ble_eq_true rfl) dX7_match_2 ⟨Nat.zero_le _, Nat.zero_le _⟩ ?_
  refine lv_if_ne (tgt := 10) (pc := 5) hx hb dX7_match_5 (by decide) (fun c5 => ?_) (fun c5 => ?_)
  · have hf := ff hf c5
    refine lv_aload_n (pc := 10) hx hb dX7_match_10 rfl (lv_at hl 0 rfl) ?_
    refine va_get (D := g.1) (ci := 7) (v := .ref (g.2.2.1 6)) (C := RX7) (T := TX7) (N := 13) (pc := 11) hx hb hts (fun _ h => List.mem_cons_of_mem _ (List.mem_append_left _ (List.mem_append_right _ h))) hown hK hP 0 rfl rfl 1 (by decide) (hts _ q_X7_match_0) (fun _ h9 => h9) rfl dX7_match_11 ?_
    refine lv_iload_n (pc := 14) hx hb dX7_match_14 rfl (lv_at hl 1 rfl) ?_
    obtain ⟨r15, e15, hf⟩ := bdE hf
    refine krI (g := g) (wc := (wd_6 g S6)) (pc := 15) (As := [.int x1]) (rest := []) ⟨hx, hb, hml, hown, hts⟩ (c_X6_isMissing l g N S6 x1 r15 e15) (cwV 1 hts gX7_match_X6_isMissing rfl rfl rfl h_X6_isMissing ⟨Nat.le_of_ble_eq_true rfl, Nat.le_of_ble_eq_true rfl⟩) hK (hP.sub (ws' := (wd_6 g S6)) [2, 3, 4] rfl) rfl rfl rfl hl.1 rfl (Nat.le_of_ble_eq_true rfl) dX7_match_15 ⟨Nat.zero_le _, Nat.zero_le _⟩ ?_
    refine lv_if_ne (tgt := 32) (pc := 18) hx hb dX7_match_18 (by decide) (fun c18 => ?_) (fun c18 => ?_)
    · have hf := ff hf c18
      exact w_X7_match_32 C  H locs S7 ls  hP hD hS (lv_sub hl [0] rfl) hf
    · have hf := ft hf c18
      refine lv_aload_n (pc := 21) hx hb dX7_match_21 rfl (lv_at hl 0 rfl) ?_
      refine va_get (D := g.1) (ci := 7) (v := .ref (g.2.2.1 6)) (C := RX7) (T := TX7) (N := 13) (pc := 22) hx hb hts (fun _ h => List.mem_cons_of_mem _ (List.mem_append_left _ (List.mem_append_right _ h))) hown hK hP 0 rfl rfl 1 (by decide) (hts _ q_X7_match_0) (fun _ h9 => h9) rfl dX7_match_22 ?_
      refine lv_iload_n (pc := 25) hx hb dX7_match_25 rfl (lv_at hl 2 rfl) ?_
      obtain ⟨r26, e26, hf⟩ := bdE hf
      refine krI (g := g) (wc := (wd_6 g S6)) (pc := 26) (As := [.int x2]) (rest := []) ⟨hx, hb, hml, hown, hts⟩ (c_X6_isMissing l g N S6 x2 r26 e26) (cwV 1 hts gX7_match_X6_isMissing rfl rfl rfl h_X6_isMissing ⟨Nat.le_of_ble_eq_true rfl, Nat.le_of_ble_eq_true rfl⟩) hK (hP.sub (ws' := (wd_6 g S6)) [2, 3, 4] rfl) rfl rfl rfl hl.1 rfl (Nat.le_of_ble_eq_true rfl) dX7_match_26 ⟨Nat.zero_le _, Nat.zero_le _⟩ ?_
      refine lv_if_eq (tgt := 38) (pc := 29) hx hb dX7_match_29 (by decide) (fun c29 => ?_) (fun c29 => ?_)
      · have hf := ft hf c29
        refine lv_aload_n (pc := 38) hx hb dX7_match_38 rfl (lv_at hl 0 rfl) ?_
        refine va_get (D := g.1) (ci := 7) (v := .ref (g.2.2.1 6)) (C := RX7) (T := TX7) (N := 13) (pc := 39) hx hb hts (fun _ h => List.mem_cons_of_mem _ (List.mem_append_left _ (List.mem_append_right _ h))) hown hK hP 0 rfl rfl 1 (by decide) (hts _ q_X7_match_0) (fun _ h9 => h9) rfl dX7_match_39 ?_
        refine lv_iload_n (pc := 42) hx hb dX7_match_42 rfl (lv_at hl 1 rfl) ?_
        refine lv_iload_n (pc := 43) hx hb dX7_match_43 rfl (lv_at hl 2 rfl) ?_
        obtain ⟨r44, e44, hf⟩ := bdE hf
        refine krI (g := g) (wc := (wd_6 g S6)) (pc := 44) (As := [.int x1, .int x2]) (rest := []) ⟨hx, hb, hml, hown, hts⟩ (c_X6_canMatch l g N S6 x1 x2 r44 e44) (cwV 2 hts gX7_match_X6_canMatch rfl rfl rfl h_X6_canMatch ⟨Nat.le_of_ble_eq_true rfl, Nat.le_of_ble_eq_true rfl⟩) hK (hP.sub (ws' := (wd_6 g S6)) [2, 3, 4] rfl) rfl rfl rfl hl.1 rfl (Nat.le_of_ble_eq_true rfl) dX7_match_44 ⟨Nat.zero_le _, Nat.zero_le _⟩ ?_
        refine lv_if_ne (tgt := 56) (pc := 47) hx hb dX7_match_47 (by decide) (fun c47 => ?_) (fun c47 => ?_)
        · have hf := ff hf c47
          refine lv_aload_n (pc := 56) hx hb dX7_match_56 rfl (lv_at hl 0 rfl) ?_
          refine va_get (D := g.1) (ci := 7) (v := .ref (g.2.2.1 6)) (C := RX7) (T := TX7) (N := 13) (pc := 57) hx hb hts (fun _ h => List.mem_cons_of_mem _ (List.mem_append_left _ (List.mem_append_right _ h))) hown hK hP 0 rfl rfl 1 (by decide) (hts _ q_X7_match_0) (fun _ h9 => h9) rfl dX7_match_57 ?_
          refine lv_iload_n (pc := 60) hx hb dX7_match_60 rfl (lv_at hl 1 rfl) ?_
          refine lv_iload_n (pc := 61) hx hb dX7_match_61 rfl (lv_at hl 2 rfl) ?_
          obtain ⟨r62, e62, hf⟩ := bdE hf
          refine krI (g := g) (wc := (wd_6 g S6)) (pc := 62) (As := [.int x1, .int x2]) (rest := []) ⟨hx, hb, hml, hown, hts⟩ (c_X6_bestPlace l g N S6 x1 x2 r62 e62) (cwV 2 hts gX7_match_X6_bestPlace rfl rfl rfl h_X6_bestPlace ⟨Nat.le_of_ble_eq_true rfl, Nat.le_of_ble_eq_true rfl⟩) hK (hP.sub (ws' := (wd_6 g S6)) [2, 3, 4] rfl) rfl rfl rfl hl.1 rfl (Nat.le_of_ble_eq_true rfl) dX7_match_62 ⟨Nat.zero_le _, Nat.zero_le _⟩ ?_
          refine lv_istore_n (lv' := [(3, .int r62), (0, .ref (g.2.2.1 7)), (1, .int x1), (2, .int x2)]) (pc := 65) hx hb dX7_match_65 rfl hl (by decide) rfl (fun ls hl => ?_)
          refine lv_aload_n (pc := 66) hx hb dX7_match_66 rfl (lv_at hl 1 rfl) ?_
          refine lv_aload_n (pc := 67) hx hb dX7_match_67 rfl (lv_at hl 1 rfl) ?_
          refine va_get (D := g.1) (ci := 7) (v := .ref (g.2.2.1 6)) (C := RX7) (T := TX7) (N := 13) (pc := 68) hx hb hts (fun _ h => List.mem_cons_of_mem _ (List.mem_append_left _ (List.mem_append_right _ h))) hown hK hP 0 rfl rfl 1 (by decide) (hts _ q_X7_match_0) (fun _ h9 => h9) rfl dX7_match_68 ?_
          refine lv_iload_n (pc := 71) hx hb dX7_match_71 rfl (lv_at hl 2 rfl) ?_
          refine lv_iload_n (pc := 72) hx hb dX7_match_72 rfl (lv_at hl 3 rfl) ?_
          refine lv_iload_n (pc := 73) hx hb dX7_match_73 rfl (lv_at hl 0 rfl) ?_
          obtain ⟨r74, e74, hf⟩ := bdE hf
          refine krI (g := g) (wc := (wd_6 g S6)) (pc := 74) (As := [.int x1, .int x2, .int r62]) (rest := [.ref (g.2.2.1 7)]) ⟨hx, hb, hml, hown, hts⟩ (c_X6_offAt l g N S6 x1 x2 r62 r74 e74) (cwV 3 hts gX7_match_X6_offAt rfl rfl rfl h_X6_offAt ⟨Nat.le_of_ble_eq_true rfl, Nat.le_of_ble_eq_true rfl⟩) hK (hP.sub (ws' := (wd_6 g S6)) [2, 3, 4] rfl) rfl rfl rfl hl.1 rfl (Nat.le_of_ble_eq_true rfl) dX7_match_74 ⟨Nat.zero_le _, Nat.zero_le _⟩ ?_
          refine va_put (D := g.1) (ci := 7) (v := .int r74) (ty := .int) (C := RX7) (T := TX7) (N := 13) (pc := 77) hx hb hts (fun _ h => List.mem_cons_of_mem _ (List.mem_append_left _ (List.mem_append_right _ h))) tyX7 tyX7_ok nmX7 hown hK hP hD hS 0 rfl rfl 10 (by decide) (hts _ q_X7_match_1) (fun _ h9 => h9) rfl rfl rfl rfl (Nat.le_of_ble_eq_true rfl) dX7_match_77 (fun H locs hP hD hS => ?_)
          have hP := u_7_6_7_10P S7 S6 r74 hP
          have hD := u_7_6_7_10D S7 S6 r74 hD
          refine lv_iload_n (pc := 80) hx hb dX7_match_80 rfl (lv_at hl 0 rfl) ?_
          have hf := Option.some.inj hf
          subst hf
          exact W.iret (v := r62) hx hb hr (fun t ht hW => ⟨⟨_, (), rfl, rfl, by rw [ht]; exact hP, va_K.moved hW.alike hK, hD⟩, hS.F ht⟩) hS.2.2 dX7_match_81
        · have hf := ft hf c47
          refine lv_aload_n (pc := 50) hx hb dX7_match_50 rfl (lv_at hl 0 rfl) ?_
          refine lv_iconst (v := 5) (pc := 51) hx hb dX7_match_51 (by decide) ?_
          obtain ⟨r52, e52, hf⟩ := bdE hf
          refine kwI (g := g) (A := A) (W0 := (wd_7_6 g S7 S6)) (wc := (wd_7 g S7)) (wr := (wd_6 g S6)) (w1 := (wd_7 g (r52.2))) (W1 := (wd_7_6 g (r52.2) S6)) (pc := 52) (As := [.int 5]) (rest := []) ⟨hx, hb, hml, hown, hts⟩ hK hA hP hD hS (c_X7_refuse l g N H.size S7 5 r52 e52) (cwV 1 hts gX7_match_X7_refuse rfl rfl rfl h_X7_refuse ⟨Nat.le_of_ble_eq_true rfl, Nat.le_of_ble_eq_true rfl⟩) [0, 1] [2, 3, 4] [3, 4, 0, 1, 2] rfl rfl rfl rfl rfl (by decide) rfl rfl rfl rfl rfl rfl hl.1 rfl (Nat.le_of_ble_eq_true rfl) dX7_match_52 ⟨Nat.zero_le _, Nat.zero_le _⟩ (fun H locs hP hD hS => ?_)
          have hf := Option.some.inj hf
          subst hf
          exact W.iret (v := (r52.1)) hx hb hr (fun t ht hW => ⟨⟨_, (), rfl, rfl, by rw [ht]; exact hP, va_K.moved hW.alike hK, hD⟩, hS.F ht⟩) hS.2.2 dX7_match_55
      · have hf := ff hf c29
        exact w_X7_match_32 C  H locs S7 ls  hP hD hS (lv_sub hl [0] rfl) hf
  · have hf := ft hf c5
    refine lv_iconst (v := (-1)) (pc := 8) hx hb dX7_match_8 (by decide) ?_
    have hf := Option.some.inj hf
    subst hf
    exact W.iret (v := (-1)) hx hb hr (fun t ht hW => ⟨⟨_, (), rfl, rfl, by rw [ht]; exact hP, va_K.moved hW.alike hK, hD⟩, hS.F ht⟩) hS.2.2 dX7_match_9
theorem q_X7_sure_0 : (.fieldLink RX7 20 "PictureCourt" "rows" "LPictureCourt$Rows;" : Cond) ∈ wsX7_sure := by decide +kernel
theorem h_X7_sure : yX7_sure.cls = RX7 ∧ yX7_sure.cls ≠ "java/lang/invoke/MethodHandle" ∧ yX7_sure.cls ≠ "java/lang/invoke/VarHandle" ∧ (parseMethodDescriptor yX7_sure.desc).map (fun d => d.parameters.length) = some 2 := by decide +kernel
set_option maxHeartbeats 4000000 in
set_option maxRecDepth 100000 in
theorem c_X7_sure (l : Launch) (g : En) (N : Nat) (S7 : St) (S6 : St) (x1 : Int32) (x2 : Int32) (res : Int32) (hf : f_X7_sure N S7 S6 x1 x2 = some res) : Met l yX7_sure wsX7_sure { frames := 4, cells := 0, slots := 0, locals := 102 } (roP g (wd_7_6 g S7 S6) [.ref (g.2.2.1 7), .int x1, .int x2]) (vp_Si (fun r => r = res)) 0 0 (fun _ => False) := by
  refine Met.ofW (cc := cX7_sure) (maxL := 3) (ret := (some .int)) (by decide) rfl ?_
  intro p e s m args below meth c s₁ B hml hv
  obtain ⟨rfl, hP, hK⟩ := hv
  have hx := B.exec
  have hb := B.bytes
  have hr := B.returns
  have hts := atoms_spec (ws := wsX7_sure) B.pre
  have hown : s.vm.findClass RX7 = some m.cls := findClass_of_methodNamed B.named
  have hlk := B.notSynchronized
  have C : cxr g (wd_7_6 g S7 S6) cX7_sure 3 (some .int) wsX7_sure RX7 p s m ([.ref (g.2.2.1 7), .int x1, .int x2] : List Value).toArray meth c := ⟨⟨hx, hb, hr, hml, hown, hts, hlk⟩, hK, hP⟩
  have hl := lv_entry [.ref (g.2.2.1 7), .int x1, .int x2] (n := 3) (Nat.le_of_ble_eq_true rfl)
  rw [lg_entry_eq]
  generalize (lg_sl [.ref (g.2.2.1 7), .int x1, .int x2] ++ List.replicate (3 - (lg_sl [.ref (g.2.2.1 7), .int x1, .int x2]).length) Slot.unset).toArray = ls at hl ⊢
  have hl : lv_has ls 3 [(0, .ref (g.2.2.1 7)), (1, .int x1), (2, .int x2)] := hl
  unfold f_X7_sure at hf
  refine lv_iload_n (pc := 0) hx hb dX7_sure_0 rfl (lv_at hl 1 rfl) ?_
  refine lv_iload_n (pc := 1) hx hb dX7_sure_1 rfl (lv_at hl 2 rfl) ?_
  obtain ⟨r2, e2, hf⟩ := bdE hf
  refine ksI (pc := 2) (As := [.int x1, .int x2]) (rest := []) ⟨hx, hb, hml, hown, hts⟩ (c_X7_areTwoRows l N x1 x2 r2 e2) (va_cwS 2 hts gX7_sure_X7_areTwoRows rfl rfl rfl h_X7_areTwoRows ⟨Nat.le_of_ble_eq_true rfl, Nat.le_of_ble_eq_true rfl⟩) rfl hl.1 rfl (Nat.le_of_ble_eq_true rfl) dX7_sure_2 ⟨Nat.zero_le _, Nat.zero_le _⟩ ?_
  refine lv_if_ne (tgt := 10) (pc := 5) hx hb dX7_sure_5 (by decide) (fun c5 => ?_) (fun c5 => ?_)
  · have hf := ff hf c5
    refine lv_aload_n (pc := 10) hx hb dX7_sure_10 rfl (lv_at hl 0 rfl) ?_
    refine va_get (D := g.1) (ci := 7) (v := .ref (g.2.2.1 6)) (C := RX7) (T := TX7) (N := 13) (pc := 11) hx hb hts (fun _ h => List.mem_cons_of_mem _ (List.mem_append_left _ (List.mem_append_right _ h))) hown hK hP 0 rfl rfl 1 (by decide) (hts _ q_X7_sure_0) (fun _ h9 => h9) rfl dX7_sure_11 ?_
    refine lv_iload_n (pc := 14) hx hb dX7_sure_14 rfl (lv_at hl 1 rfl) ?_
    refine lv_iload_n (pc := 15) hx hb dX7_sure_15 rfl (lv_at hl 2 rfl) ?_
    obtain ⟨r16, e16, hf⟩ := bdE hf
    refine krI (g := g) (wc := (wd_6 g S6)) (pc := 16) (As := [.int x1, .int x2]) (rest := []) ⟨hx, hb, hml, hown, hts⟩ (c_X6_isSure l g N S6 x1 x2 r16 e16) (cwV 2 hts gX7_sure_X6_isSure rfl rfl rfl h_X6_isSure ⟨Nat.le_of_ble_eq_true rfl, Nat.le_of_ble_eq_true rfl⟩) hK (hP.sub (ws' := (wd_6 g S6)) [2, 3, 4] rfl) rfl rfl rfl hl.1 rfl (Nat.le_of_ble_eq_true rfl) dX7_sure_16 ⟨Nat.zero_le _, Nat.zero_le _⟩ ?_
    refine lv_if_eq (tgt := 26) (pc := 19) hx hb dX7_sure_19 (by decide) (fun c19 => ?_) (fun c19 => ?_)
    · have hf := ft hf c19
      refine lv_iconst (v := 0) (pc := 26) hx hb dX7_sure_26 (by decide) ?_
      have hf := Option.some.inj hf
      subst hf
      exact W.iret (v := 0) hx hb hr (fun t ht hW => ⟨_, rfl, rfl, ht⟩) (fun _ h => by cases h) dX7_sure_27
    · have hf := ff hf c19
      refine lv_iconst (v := 1) (pc := 22) hx hb dX7_sure_22 (by decide) ?_
      refine lv_goto (tgt := 27) (pc := 23) hx hb dX7_sure_23 (by decide) ?_
      have hf := Option.some.inj hf
      subst hf
      exact W.iret (v := 1) hx hb hr (fun t ht hW => ⟨_, rfl, rfl, ht⟩) (fun _ h => by cases h) dX7_sure_27
  · have hf := ft hf c5
    refine lv_iconst (v := (-1)) (pc := 8) hx hb dX7_sure_8 (by decide) ?_
    have hf := Option.some.inj hf
    subst hf
    exact W.iret (v := (-1)) hx hb hr (fun t ht hW => ⟨_, rfl, rfl, ht⟩) (fun _ h => by cases h) dX7_sure_9
theorem h_X7_isYear : yX7_isYear.cls ≠ "java/lang/invoke/MethodHandle" ∧ yX7_isYear.cls ≠ "java/lang/invoke/VarHandle" ∧ (parseMethodDescriptor yX7_isYear.desc).map (fun d => d.parameters.length) = some 1 := by decide +kernel
set_option maxHeartbeats 4000000 in
set_option maxRecDepth 100000 in
theorem c_X7_isYear (l : Launch) (N : Nat) (x0 : Int32) (res : Int32) (hf : f_X7_isYear N x0 = some res) : Met l yX7_isYear wsX7_isYear { frames := 1, cells := 0, slots := 0, locals := 22 } (va_Pc [.int x0] (fun _ => True)) (vp_Si (fun r => r = res)) 0 0 (fun _ => False) := by
  refine Met.ofW (cc := cX7_isYear) (maxL := 1) (ret := (some .boolean)) (by decide) rfl ?_
  intro p e s m args below meth c s₁ B hml hv
  obtain ⟨rfl, -⟩ := hv
  have hx := B.exec
  have hb := B.bytes
  have hr := B.returns
  have hts := atoms_spec (ws := wsX7_isYear) B.pre
  have hown : s.vm.findClass RX7 = some m.cls := findClass_of_methodNamed B.named
  have hlk := B.notSynchronized
  have C : cxs cX7_isYear 1 (some .boolean) wsX7_isYear RX7 p s m ([.int x0] : List Value).toArray meth c := ⟨hx, hb, hr, hml, hown, hts, hlk⟩
  have hl := lv_entry [.int x0] (n := 1) (Nat.le_of_ble_eq_true rfl)
  rw [lg_entry_eq]
  generalize (lg_sl [.int x0] ++ List.replicate (1 - (lg_sl [.int x0]).length) Slot.unset).toArray = ls at hl ⊢
  have hl : lv_has ls 1 [(0, .int x0)] := hl
  unfold f_X7_isYear at hf
  refine lv_iload_n (pc := 0) hx hb dX7_isYear_0 rfl (lv_at hl 0 rfl) ?_
  refine lv_sipush (v := 1000) (pc := 1) hx hb dX7_isYear_1 (by decide) ?_
  refine lv_sipush (v := 2100) (pc := 4) hx hb dX7_isYear_4 (by decide) ?_
  obtain ⟨r7, e7, hf⟩ := bdE hf
  refine ksI (pc := 7) (As := [.int x0, .int 1000, .int 2100]) (rest := []) ⟨hx, hb, hml, hown, hts⟩ (c_X7_isWithin l N x0 1000 2100 r7 e7) (va_cwS 3 hts gX7_isYear_X7_isWithin rfl rfl rfl h_X7_isWithin ⟨Nat.le_of_ble_eq_true rfl, Nat.le_of_ble_eq_true rfl⟩) rfl hl.1 rfl (Nat.le_of_ble_eq_true rfl) dX7_isYear_7 ⟨Nat.zero_le _, Nat.zero_le _⟩ ?_
  obtain ⟨b10, hf⟩ := gdE hf
  have hf := Option.some.inj hf
  subst hf
  exact W.zret (v := r7) hx hb hr (z01V b10) (fun t ht hW => ⟨_, rfl, rfl, ht⟩) (fun _ h => by cases h) dX7_isYear_10
theorem q_X7_paint_0 : (.fieldLink RX7 10 "PictureCourt" "proofs" "LPictureCourt$Proofs;" : Cond) ∈ wsX7_paint := by decide +kernel
theorem h_X7_paint : yX7_paint.cls = RX7 ∧ yX7_paint.cls ≠ "java/lang/invoke/MethodHandle" ∧ yX7_paint.cls ≠ "java/lang/invoke/VarHandle" ∧ (parseMethodDescriptor yX7_paint.desc).map (fun d => d.parameters.length) = some 2 := by decide +kernel
set_option maxHeartbeats 4000000 in
set_option maxRecDepth 100000 in
theorem c_X7_paint (l : Launch) (g : En) (N : Nat) (sz : Nat) (S7 : St) (S5 : St) (x1 : Int32) (x2 : Int32) (res : Int32 × St) (hf : f_X7_paint N S7 S5 x1 x2 = some res) : Met l yX7_paint wsX7_paint { frames := 2, cells := 0, slots := 0, locals := 42 } (rwP g (wd_7_5 g S7 S5) sz [.ref (g.2.2.1 7), .int x1, .int x2]) (rwQi g (wd_7_5 g S7 (res.2)) (va_A (wd_7_5 g S7 S5) sz) (res.1)) 0 0 (va_A (wd_7_5 g S7 S5) sz) := by
  refine Met.ofW (cc := cX7_paint) (maxL := 3) (ret := (some .int)) (by decide) rfl ?_
  intro p e s m args below meth c s₁ B hml hv
  obtain ⟨rfl, hsz, hP, hK, hD0⟩ := hv
  have hx := B.exec
  have hb := B.bytes
  have hr := B.returns
  have hts := atoms_spec (ws := wsX7_paint) B.pre
  have hown : s.vm.findClass RX7 = some m.cls := findClass_of_methodNamed B.named
  have hlk := B.notSynchronized
  subst hsz
  have hD := hD0.self (sz := s.heap.size)
  generalize hAe : va_A (wd_7_5 g S7 S5) s.heap.size = A at hD ⊢
  have hA : ∀ q : Nat, s.heap.size ≤ q → A q := fun q h => by rw [← hAe]; exact Or.inr h
  have hS : va_S A s.heap s.heap [] := va_S.rf
  have C : cxw g A cX7_paint 3 (some .int) wsX7_paint RX7 p s m ([.ref (g.2.2.1 7), .int x1, .int x2] : List Value).toArray meth c := ⟨⟨hx, hb, hr, hml, hown, hts, hlk⟩, hK, hA⟩
  have hl := lv_entry [.ref (g.2.2.1 7), .int x1, .int x2] (n := 3) (Nat.le_of_ble_eq_true rfl)
  rw [lg_entry_eq]
  generalize (lg_sl [.ref (g.2.2.1 7), .int x1, .int x2] ++ List.replicate (3 - (lg_sl [.ref (g.2.2.1 7), .int x1, .int x2]).length) Slot.unset).toArray = ls at hl ⊢
  have hl : lv_has ls 3 [(0, .ref (g.2.2.1 7)), (1, .int x1), (2, .int x2)] := hl
  unfold f_X7_paint at hf
  suffices K9 : ∀ (H : Heap) (locs : List Loc), va_P g.1 vwCl (wd_7_5 g S7 S5) H → va_D A (wd_7_5 g S7 S5) → va_S A s.heap H locs → ((f_X7_isWithin N x1 0 9).bind (fun r4 => (if r4 = 0 then some ((-1), S5) else ((f_X7_isYear N x2).bind (fun r11 => (if r11 = 0 then some ((-1), S5) else ((f_X5_swapPaintYear N S5 x1 x2).bind (fun r25 => some ((r25.1), (r25.2)))))))))) = some res → W p l e (headSpec wsX7_paint { frames := 2, cells := 0, slots := 0, locals := 42 }).room s m ([.ref (g.2.2.1 7), .int x1, .int x2] : List Value).toArray below meth c H locs 0 0 (MQ below (rwQi g (wd_7_5 g S7 (res.2)) A (res.1)) ([.ref (g.2.2.1 7), .int x1, .int x2] : List Value).toArray s 0 0 A) (F0 m 0 ls []) from K9 s.heap [] hP hD hS hf
  clear hP hD hS hf
  intro H locs hP hD hS hf
  refine lv_iload_n (pc := 0) hx hb dX7_paint_0 rfl (lv_at hl 1 rfl) ?_
  refine lv_iconst (v := 0) (pc := 1) hx hb dX7_paint_1 (by decide) ?_
  refine lv_bipush (v := 9) (pc := 2) hx hb dX7_paint_2 (by decide) ?_
  obtain ⟨r4, e4, hf⟩ := bdE hf
  refine ksI (pc := 4) (As := [.int x1, .int 0, .int 9]) (rest := []) ⟨hx, hb, hml, hown, hts⟩ (c_X7_isWithin l N x1 0 9 r4 e4) (va_cwS 3 hts gX7_paint_X7_isWithin rfl rfl rfl h_X7_isWithin ⟨Nat.le_of_ble_eq_true rfl, Nat.le_of_ble_eq_true rfl⟩) rfl hl.1 rfl (Nat.le_of_ble_eq_true rfl) dX7_paint_4 ⟨Nat.zero_le _, Nat.zero_le _⟩ ?_
  refine lv_if_eq (tgt := 17) (pc := 7) hx hb dX7_paint_7 (by decide) (fun c7 => ?_) (fun c7 => ?_)
  · have hf := ft hf c7
    refine lv_iconst (v := (-1)) (pc := 17) hx hb dX7_paint_17 (by decide) ?_
    have hf := Option.some.inj hf
    subst hf
    exact W.iret (v := (-1)) hx hb hr (fun t ht hW => ⟨⟨_, (), rfl, rfl, by rw [ht]; exact hP, va_K.moved hW.alike hK, hD⟩, hS.F ht⟩) hS.2.2 dX7_paint_18
  · have hf := ff hf c7
    refine lv_iload_n (pc := 10) hx hb dX7_paint_10 rfl (lv_at hl 2 rfl) ?_
    obtain ⟨r11, e11, hf⟩ := bdE hf
    refine ksI (pc := 11) (As := [.int x2]) (rest := []) ⟨hx, hb, hml, hown, hts⟩ (c_X7_isYear l N x2 r11 e11) (va_cwS 1 hts gX7_paint_X7_isYear rfl rfl rfl h_X7_isYear ⟨Nat.le_of_ble_eq_true rfl, Nat.le_of_ble_eq_true rfl⟩) rfl hl.1 rfl (Nat.le_of_ble_eq_true rfl) dX7_paint_11 ⟨Nat.zero_le _, Nat.zero_le _⟩ ?_
    refine lv_if_ne (tgt := 19) (pc := 14) hx hb dX7_paint_14 (by decide) (fun c14 => ?_) (fun c14 => ?_)
    · have hf := ff hf c14
      refine lv_aload_n (pc := 19) hx hb dX7_paint_19 rfl (lv_at hl 0 rfl) ?_
      refine va_get (D := g.1) (ci := 7) (v := .ref (g.2.2.1 5)) (C := RX7) (T := TX7) (N := 13) (pc := 20) hx hb hts (fun _ h => List.mem_cons_of_mem _ (List.mem_append_left _ (List.mem_append_right _ h))) hown hK hP 0 rfl rfl 0 (by decide) (hts _ q_X7_paint_0) (fun _ h9 => h9) rfl dX7_paint_20 ?_
      refine lv_iload_n (pc := 23) hx hb dX7_paint_23 rfl (lv_at hl 1 rfl) ?_
      refine lv_iload_n (pc := 24) hx hb dX7_paint_24 rfl (lv_at hl 2 rfl) ?_
      obtain ⟨r25, e25, hf⟩ := bdE hf
      refine kwI (g := g) (A := A) (W0 := (wd_7_5 g S7 S5)) (wc := (wd_5 g S5)) (wr := (wd_7 g S7)) (w1 := (wd_5 g (r25.2))) (W1 := (wd_7_5 g S7 (r25.2))) (pc := 25) (As := [.int x1, .int x2]) (rest := []) ⟨hx, hb, hml, hown, hts⟩ hK hA hP hD hS (c_X5_swapPaintYear l g N H.size S5 x1 x2 r25 e25) (cwV 2 hts gX7_paint_X5_swapPaintYear rfl rfl rfl h_X5_swapPaintYear ⟨Nat.le_of_ble_eq_true rfl, Nat.le_of_ble_eq_true rfl⟩) [2, 3, 4, 5, 6, 7, 8, 9, 10, 11] [0, 1] [0, 1, 2, 3, 4, 5, 6, 7, 8, 9, 10, 11] rfl rfl rfl rfl rfl (by decide) rfl rfl rfl rfl rfl rfl hl.1 rfl (Nat.le_of_ble_eq_true rfl) dX7_paint_25 ⟨Nat.zero_le _, Nat.zero_le _⟩ (fun H locs hP hD hS => ?_)
      have hf := Option.some.inj hf
      subst hf
      exact W.iret (v := (r25.1)) hx hb hr (fun t ht hW => ⟨⟨_, (), rfl, rfl, by rw [ht]; exact hP, va_K.moved hW.alike hK, hD⟩, hS.F ht⟩) hS.2.2 dX7_paint_28
    · have hf := ft hf c14
      refine lv_iconst (v := (-1)) (pc := 17) hx hb dX7_paint_17 (by decide) ?_
      have hf := Option.some.inj hf
      subst hf
      exact W.iret (v := (-1)) hx hb hr (fun t ht hW => ⟨⟨_, (), rfl, rfl, by rw [ht]; exact hP, va_K.moved hW.alike hK, hD⟩, hS.F ht⟩) hS.2.2 dX7_paint_18
theorem q_X7_sap_0 : (.fieldLink RX7 10 "PictureCourt" "proofs" "LPictureCourt$Proofs;" : Cond) ∈ wsX7_sap := by decide +kernel
theorem h_X7_sap : yX7_sap.cls = RX7 ∧ yX7_sap.cls ≠ "java/lang/invoke/MethodHandle" ∧ yX7_sap.cls ≠ "java/lang/invoke/VarHandle" ∧ (parseMethodDescriptor yX7_sap.desc).map (fun d => d.parameters.length) = some 3 := by decide +kernel
set_option maxHeartbeats 4000000 in
set_option maxRecDepth 100000 in
theorem w_X7_sap_25 {p : Program} {l : Launch} {e : Env} {s : State} {m : MethodId} {args : Array Value} {below : List Frame} {meth : Method} {c : Code} {g : En} {A : Nat → Prop} {N : Nat} {S7 : St} {res : Int32 × St} (C : cxw g A cX7_sap 5 (some .int) wsX7_sap RX7 p s m args meth c) : ∀ (H : Heap) (locs : List Loc) (S5 : St) (ls : Array Slot) (x1 : Int32) (x2 : Int32) (x3 : Int32) (t0 : Int32), va_P g.1 vwCl (wd_7_5 g S7 S5) H → va_D A (wd_7_5 g S7 S5) → va_S A s.heap H locs → lv_has ls 5 [(0, .ref (g.2.2.1 7)), (1, .int x1), (2, .int x2), (3, .int x3)] → f_X7_sap_25 N S7  S5 x1 x2 x3 t0 = some res → W p l e (headSpec wsX7_sap { frames := 1, cells := 0, slots := 0, locals := 23 }).room s m args below meth c H locs 0 0 (MQ below (rwQi g (wd_7_5 g S7 (res.2)) A (res.1)) args s 0 0 A) (F0 m 25 ls [.int t0]) := by
  intro H locs S5 ls x1 x2 x3 t0 hP hD hS hl hf
  obtain ⟨⟨hx, hb, hr, hml, hown, hts, hlk⟩, hK, hA⟩ := id C
  unfold f_X7_sap_25 at hf
  refine lv_istore (lv' := [(4, .int t0), (0, .ref (g.2.2.1 7)), (1, .int x1), (2, .int x2), (3, .int x3)]) (pc := 25) hx hb dX7_sap_25 hl (by decide) rfl (fun ls hl => ?_)
  refine lv_iload (pc := 27) hx hb dX7_sap_27 (lv_at hl 0 rfl) ?_
  refine lv_if_eq (tgt := 42) (pc := 29) hx hb dX7_sap_29 (by decide) (fun c29 => ?_) (fun c29 => ?_)
  · have hf := ft hf c29
    refine lv_iconst (v := (-1)) (pc := 42) hx hb dX7_sap_42 (by decide) ?_
    have hf := Option.some.inj hf
    subst hf
    exact W.iret (v := (-1)) hx hb hr (fun t ht hW => ⟨⟨_, (), rfl, rfl, by rw [ht]; exact hP, va_K.moved hW.alike hK, hD⟩, hS.F ht⟩) hS.2.2 dX7_sap_43
  · have hf := ff hf c29
    refine lv_iload_n (pc := 32) hx hb dX7_sap_32 rfl (lv_at hl 4 rfl) ?_
    refine lv_iconst (v := 0) (pc := 33) hx hb dX7_sap_33 (by decide) ?_
    refine lv_bipush (v := 60) (pc := 34) hx hb dX7_sap_34 (by decide) ?_
    obtain ⟨r36, e36, hf⟩ := bdE hf
    refine ksI (pc := 36) (As := [.int x3, .int 0, .int 60]) (rest := []) ⟨hx, hb, hml, hown, hts⟩ (c_X7_isWithin l N x3 0 60 r36 e36) (va_cwS 3 hts gX7_sap_X7_isWithin rfl rfl rfl h_X7_isWithin ⟨Nat.le_of_ble_eq_true rfl, Nat.le_of_ble_eq_true rfl⟩) rfl hl.1 rfl (Nat.le_of_ble_eq_true rfl) dX7_sap_36 ⟨Nat.zero_le _, Nat.zero_le _⟩ ?_
    refine lv_if_ne (tgt := 44) (pc := 39) hx hb dX7_sap_39 (by decide) (fun c39 => ?_) (fun c39 => ?_)
    · have hf := ff hf c39
      refine lv_aload_n (pc := 44) hx hb dX7_sap_44 rfl (lv_at hl 1 rfl) ?_
      refine va_get (D := g.1) (ci := 7) (v := .ref (g.2.2.1 5)) (C := RX7) (T := TX7) (N := 13) (pc := 45) hx hb hts (fun _ h => List.mem_cons_of_mem _ (List.mem_append_left _ (List.mem_append_right _ h))) hown hK hP 0 rfl rfl 0 (by decide) (hts _ q_X7_sap_0) (fun _ h9 => h9) rfl dX7_sap_45 ?_
      refine lv_iload_n (pc := 48) hx hb dX7_sap_48 rfl (lv_at hl 2 rfl) ?_
      refine lv_iload_n (pc := 49) hx hb dX7_sap_49 rfl (lv_at hl 3 rfl) ?_
      refine lv_iload_n (pc := 50) hx hb dX7_sap_50 rfl (lv_at hl 4 rfl) ?_
      obtain ⟨r51, e51, hf⟩ := bdE hf
      refine kwV (g := g) (A := A) (W0 := (wd_7_5 g S7 S5)) (wc := (wd_5 g S5)) (wr := (wd_7 g S7)) (w1 := (wd_5 g r51)) (W1 := (wd_7_5 g S7 r51)) (pc := 51) (As := [.int x1, .int x2, .int x3]) (rest := []) ⟨hx, hb, hml, hown, hts⟩ hK hA hP hD hS (c_X5_setSap l g N H.size S5 x1 x2 x3 r51 e51) (cwV 3 hts gX7_sap_X5_setSap rfl rfl rfl h_X5_setSap ⟨Nat.le_of_ble_eq_true rfl, Nat.le_of_ble_eq_true rfl⟩) [2, 3, 4, 5, 6, 7, 8, 9, 10, 11] [0, 1] [0, 1, 2, 3, 4, 5, 6, 7, 8, 9, 10, 11] rfl rfl rfl rfl rfl (by decide) rfl rfl rfl rfl rfl rfl hl.1 rfl (Nat.le_of_ble_eq_true rfl) dX7_sap_51 ⟨Nat.zero_le _, Nat.zero_le _⟩ (fun H locs hP hD hS => ?_)
      refine lv_iconst (v := 1) (pc := 54) hx hb dX7_sap_54 (by decide) ?_
      have hf := Option.some.inj hf
      subst hf
      exact W.iret (v := 1) hx hb hr (fun t ht hW => ⟨⟨_, (), rfl, rfl, by rw [ht]; exact hP, va_K.moved hW.alike hK, hD⟩, hS.F ht⟩) hS.2.2 dX7_sap_55
    · have hf := ft hf c39
      refine lv_iconst (v := (-1)) (pc := 42) hx hb dX7_sap_42 (by decide) ?_
      have hf := Option.some.inj hf
      subst hf
      exact W.iret (v := (-1)) hx hb hr (fun t ht hW => ⟨⟨_, (), rfl, rfl, by rw [ht]; exact hP, va_K.moved hW.alike hK, hD⟩, hS.F ht⟩) hS.2.2 dX7_sap_43
set_option maxHeartbeats 4000000 in
set_option maxRecDepth 100000 in
theorem w_X7_sap_24 {p : Program} {l : Launch} {e : Env} {s : State} {m : MethodId} {args : Array Value} {below : List Frame} {meth : Method} {c : Code} {g : En} {A : Nat → Prop} {N : Nat} {S7 : St} {res : Int32 × St} (C : cxw g A cX7_sap 5 (some .int) wsX7_sap RX7 p s m args meth c) : ∀ (H : Heap) (locs : List Loc) (S5 : St) (ls : Array Slot) (x1 : Int32) (x2 : Int32) (x3 : Int32), va_P g.1 vwCl (wd_7_5 g S7 S5) H → va_D A (wd_7_5 g S7 S5) → va_S A s.heap H locs → lv_has ls 5 [(0, .ref (g.2.2.1 7)), (1, .int x1), (2, .int x2), (3, .int x3)] → f_X7_sap_24 N S7  S5 x1 x2 x3 = some res → W p l e (headSpec wsX7_sap { frames := 1, cells := 0, slots := 0, locals := 23 }).room s m args below meth c H locs 0 0 (MQ below (rwQi g (wd_7_5 g S7 (res.2)) A (res.1)) args s 0 0 A) (F0 m 24 ls []) := by
  intro H locs S5 ls x1 x2 x3 hP hD hS hl hf
  obtain ⟨⟨hx, hb, hr, hml, hown, hts, hlk⟩, hK, hA⟩ := id C
  unfold f_X7_sap_24 at hf
  refine lv_iconst (v := 0) (pc := 24) hx hb dX7_sap_24 (by decide) ?_
  exact w_X7_sap_25 C  H locs S5 ls x1 x2 x3 0 hP hD hS (lv_sub hl [0, 1, 2, 3] rfl) hf
set_option maxHeartbeats 4000000 in
set_option maxRecDepth 100000 in
theorem c_X7_sap (l : Launch) (g : En) (N : Nat) (sz : Nat) (S7 : St) (S5 : St) (x1 : Int32) (x2 : Int32) (x3 : Int32) (res : Int32 × St) (hf : f_X7_sap N S7 S5 x1 x2 x3 = some res) : Met l yX7_sap wsX7_sap { frames := 1, cells := 0, slots := 0, locals := 23 } (rwP g (wd_7_5 g S7 S5) sz [.ref (g.2.2.1 7), .int x1, .int x2, .int x3]) (rwQi g (wd_7_5 g S7 (res.2)) (va_A (wd_7_5 g S7 S5) sz) (res.1)) 0 0 (va_A (wd_7_5 g S7 S5) sz) := by
  refine Met.ofW (cc := cX7_sap) (maxL := 5) (ret := (some .int)) (by decide) rfl ?_
  intro p e s m args below meth c s₁ B hml hv
  obtain ⟨rfl, hsz, hP, hK, hD0⟩ := hv
  have hx := B.exec
  have hb := B.bytes
  have hr := B.returns
  have hts := atoms_spec (ws := wsX7_sap) B.pre
  have hown : s.vm.findClass RX7 = some m.cls := findClass_of_methodNamed B.named
  have hlk := B.notSynchronized
  subst hsz
  have hD := hD0.self (sz := s.heap.size)
  generalize hAe : va_A (wd_7_5 g S7 S5) s.heap.size = A at hD ⊢
  have hA : ∀ q : Nat, s.heap.size ≤ q → A q := fun q h => by rw [← hAe]; exact Or.inr h
  have hS : va_S A s.heap s.heap [] := va_S.rf
  have C : cxw g A cX7_sap 5 (some .int) wsX7_sap RX7 p s m ([.ref (g.2.2.1 7), .int x1, .int x2, .int x3] : List Value).toArray meth c := ⟨⟨hx, hb, hr, hml, hown, hts, hlk⟩, hK, hA⟩
  have hl := lv_entry [.ref (g.2.2.1 7), .int x1, .int x2, .int x3] (n := 5) (Nat.le_of_ble_eq_true rfl)
  rw [lg_entry_eq]
  generalize (lg_sl [.ref (g.2.2.1 7), .int x1, .int x2, .int x3] ++ List.replicate (5 - (lg_sl [.ref (g.2.2.1 7), .int x1, .int x2, .int x3]).length) Slot.unset).toArray = ls at hl ⊢
  have hl : lv_has ls 5 [(0, .ref (g.2.2.1 7)), (1, .int x1), (2, .int x2), (3, .int x3)] := hl
  unfold f_X7_sap at hf
  suffices K9 : ∀ (H : Heap) (locs : List Loc), va_P g.1 vwCl (wd_7_5 g S7 S5) H → va_D A (wd_7_5 g S7 S5) → va_S A s.heap H locs → ((f_X7_isWithin N x1 0 60).bind (fun r4 => (if r4 = 0 then (f_X7_sap_24 N S7  S5 x1 x2 x3) else ((f_X7_isWithin N x2 x1 60).bind (fun r14 => (if r14 = 0 then (f_X7_sap_24 N S7  S5 x1 x2 x3) else (f_X7_sap_25 N S7  S5 x1 x2 x3 1))))))) = some res → W p l e (headSpec wsX7_sap { frames := 1, cells := 0, slots := 0, locals := 23 }).room s m ([.ref (g.2.2.1 7), .int x1, .int x2, .int x3] : List Value).toArray below meth c H locs 0 0 (MQ below (rwQi g (wd_7_5 g S7 (res.2)) A (res.1)) ([.ref (g.2.2.1 7), .int x1, .int x2, .int x3] : List Value).toArray s 0 0 A) (F0 m 0 ls []) from K9 s.heap [] hP hD hS hf
  clear hP hD hS hf
  intro H locs hP hD hS hf
  refine lv_iload_n (pc := 0) hx hb dX7_sap_0 rfl (lv_at hl 1 rfl) ?_
  refine lv_iconst (v := 0) (pc := 1) hx hb dX7_sap_1 (by decide) ?_
  refine lv_bipush (v := 60) (pc := 2) hx hb dX7_sap_2 (by decide) ?_
  obtain ⟨r4, e4, hf⟩ := bdE hf
  refine ksI (pc := 4) (As := [.int x1, .int 0, .int 60]) (rest := []) ⟨hx, hb, hml, hown, hts⟩ (c_X7_isWithin l N x1 0 60 r4 e4) (va_cwS 3 hts gX7_sap_X7_isWithin rfl rfl rfl h_X7_isWithin ⟨Nat.le_of_ble_eq_true rfl, Nat.le_of_ble_eq_true rfl⟩) rfl hl.1 rfl (Nat.le_of_ble_eq_true rfl) dX7_sap_4 ⟨Nat.zero_le _, Nat.zero_le _⟩ ?_
  refine lv_if_eq (tgt := 24) (pc := 7) hx hb dX7_sap_7 (by decide) (fun c7 => ?_) (fun c7 => ?_)
  · have hf := ft hf c7
    exact w_X7_sap_24 C  H locs S5 ls x1 x2 x3 hP hD hS (lv_sub hl [0, 1, 2, 3] rfl) hf
  · have hf := ff hf c7
    refine lv_iload_n (pc := 10) hx hb dX7_sap_10 rfl (lv_at hl 2 rfl) ?_
    refine lv_iload_n (pc := 11) hx hb dX7_sap_11 rfl (lv_at hl 1 rfl) ?_
    refine lv_bipush (v := 60) (pc := 12) hx hb dX7_sap_12 (by decide) ?_
    obtain ⟨r14, e14, hf⟩ := bdE hf
    refine ksI (pc := 14) (As := [.int x2, .int x1, .int 60]) (rest := []) ⟨hx, hb, hml, hown, hts⟩ (c_X7_isWithin l N x2 x1 60 r14 e14) (va_cwS 3 hts gX7_sap_X7_isWithin rfl rfl rfl h_X7_isWithin ⟨Nat.le_of_ble_eq_true rfl, Nat.le_of_ble_eq_true rfl⟩) rfl hl.1 rfl (Nat.le_of_ble_eq_true rfl) dX7_sap_14 ⟨Nat.zero_le _, Nat.zero_le _⟩ ?_
    refine lv_if_eq (tgt := 24) (pc := 17) hx hb dX7_sap_17 (by decide) (fun c17 => ?_) (fun c17 => ?_)
    · have hf := ft hf c17
      exact w_X7_sap_24 C  H locs S5 ls x1 x2 x3 hP hD hS (lv_sub hl [0, 1, 2, 3] rfl) hf
    · have hf := ff hf c17
      refine lv_iconst (v := 1) (pc := 20) hx hb dX7_sap_20 (by decide) ?_
      refine lv_goto (tgt := 25) (pc := 21) hx hb dX7_sap_21 (by decide) ?_
      exact w_X7_sap_25 C  H locs S5 ls x1 x2 x3 1 hP hD hS (lv_sub hl [0, 1, 2, 3] rfl) hf
theorem h_X7_areYears : yX7_areYears.cls ≠ "java/lang/invoke/MethodHandle" ∧ yX7_areYears.cls ≠ "java/lang/invoke/VarHandle" ∧ (parseMethodDescriptor yX7_areYears.desc).map (fun d => d.parameters.length) = some 2 := by decide +kernel
set_option maxHeartbeats 4000000 in
set_option maxRecDepth 100000 in
theorem c_X7_areYears (l : Launch) (N : Nat) (x0 : Int32) (x1 : Int32) (res : Int32) (hf : f_X7_areYears N x0 x1 = some res) : Met l yX7_areYears wsX7_areYears { frames := 2, cells := 0, slots := 0, locals := 42 } (va_Pc [.int x0, .int x1] (fun _ => True)) (vp_Si (fun r => r = res)) 0 0 (fun _ => False) := by
  refine Met.ofW (cc := cX7_areYears) (maxL := 2) (ret := (some .boolean)) (by decide) rfl ?_
  intro p e s m args below meth c s₁ B hml hv
  obtain ⟨rfl, -⟩ := hv
  have hx := B.exec
  have hb := B.bytes
  have hr := B.returns
  have hts := atoms_spec (ws := wsX7_areYears) B.pre
  have hown : s.vm.findClass RX7 = some m.cls := findClass_of_methodNamed B.named
  have hlk := B.notSynchronized
  have C : cxs cX7_areYears 2 (some .boolean) wsX7_areYears RX7 p s m ([.int x0, .int x1] : List Value).toArray meth c := ⟨hx, hb, hr, hml, hown, hts, hlk⟩
  have hl := lv_entry [.int x0, .int x1] (n := 2) (Nat.le_of_ble_eq_true rfl)
  rw [lg_entry_eq]
  generalize (lg_sl [.int x0, .int x1] ++ List.replicate (2 - (lg_sl [.int x0, .int x1]).length) Slot.unset).toArray = ls at hl ⊢
  have hl : lv_has ls 2 [(0, .int x0), (1, .int x1)] := hl
  unfold f_X7_areYears at hf
  refine lv_iload_n (pc := 0) hx hb dX7_areYears_0 rfl (lv_at hl 0 rfl) ?_
  obtain ⟨r1, e1, hf⟩ := bdE hf
  refine ksI (pc := 1) (As := [.int x0]) (rest := []) ⟨hx, hb, hml, hown, hts⟩ (c_X7_isYear l N x0 r1 e1) (va_cwS 1 hts gX7_areYears_X7_isYear rfl rfl rfl h_X7_isYear ⟨Nat.le_of_ble_eq_true rfl, Nat.le_of_ble_eq_true rfl⟩) rfl hl.1 rfl (Nat.le_of_ble_eq_true rfl) dX7_areYears_1 ⟨Nat.zero_le _, Nat.zero_le _⟩ ?_
  refine lv_if_eq (tgt := 23) (pc := 4) hx hb dX7_areYears_4 (by decide) (fun c4 => ?_) (fun c4 => ?_)
  · have hf := ft hf c4
    refine lv_iconst (v := 0) (pc := 23) hx hb dX7_areYears_23 (by decide) ?_
    have hf := Option.some.inj hf
    subst hf
    exact W.zret (v := 0) hx hb hr rfl (fun t ht hW => ⟨_, rfl, rfl, ht⟩) (fun _ h => by cases h) dX7_areYears_24
  · have hf := ff hf c4
    refine lv_iload_n (pc := 7) hx hb dX7_areYears_7 rfl (lv_at hl 1 rfl) ?_
    obtain ⟨r8, e8, hf⟩ := bdE hf
    refine ksI (pc := 8) (As := [.int x1]) (rest := []) ⟨hx, hb, hml, hown, hts⟩ (c_X7_isYear l N x1 r8 e8) (va_cwS 1 hts gX7_areYears_X7_isYear rfl rfl rfl h_X7_isYear ⟨Nat.le_of_ble_eq_true rfl, Nat.le_of_ble_eq_true rfl⟩) rfl hl.1 rfl (Nat.le_of_ble_eq_true rfl) dX7_areYears_8 ⟨Nat.zero_le _, Nat.zero_le _⟩ ?_
    refine lv_if_eq (tgt := 23) (pc := 11) hx hb dX7_areYears_11 (by decide) (fun c11 => ?_) (fun c11 => ?_)
    · have hf := ft hf c11
      refine lv_iconst (v := 0) (pc := 23) hx hb dX7_areYears_23 (by decide) ?_
      have hf := Option.some.inj hf
      subst hf
      exact W.zret (v := 0) hx hb hr rfl (fun t ht hW => ⟨_, rfl, rfl, ht⟩) (fun _ h => by cases h) dX7_areYears_24
    · have hf := ff hf c11
      refine lv_iload_n (pc := 14) hx hb dX7_areYears_14 rfl (lv_at hl 0 rfl) ?_
      refine lv_iload_n (pc := 15) hx hb dX7_areYears_15 rfl (lv_at hl 1 rfl) ?_
      refine lv_icmp_gt (tgt := 23) (pc := 16) hx hb dX7_areYears_16 (by decide) (fun c16 => ?_) (fun c16 => ?_)
      · have hf := ft hf c16
        refine lv_iconst (v := 0) (pc := 23) hx hb dX7_areYears_23 (by decide) ?_
        have hf := Option.some.inj hf
        subst hf
        exact W.zret (v := 0) hx hb hr rfl (fun t ht hW => ⟨_, rfl, rfl, ht⟩) (fun _ h => by cases h) dX7_areYears_24
      · have hf := ff hf c16
        refine lv_iconst (v := 1) (pc := 19) hx hb dX7_areYears_19 (by decide) ?_
        refine lv_goto (tgt := 24) (pc := 20) hx hb dX7_areYears_20 (by decide) ?_
        have hf := Option.some.inj hf
        subst hf
        exact W.zret (v := 1) hx hb hr rfl (fun t ht hW => ⟨_, rfl, rfl, ht⟩) (fun _ h => by cases h) dX7_areYears_24
theorem h_X7_isProofWeight : yX7_isProofWeight.cls ≠ "java/lang/invoke/MethodHandle" ∧ yX7_isProofWeight.cls ≠ "java/lang/invoke/VarHandle" ∧ (parseMethodDescriptor yX7_isProofWeight.desc).map (fun d => d.parameters.length) = some 1 := by decide +kernel
set_option maxHeartbeats 4000000 in
set_option maxRecDepth 100000 in
theorem c_X7_isProofWeight (l : Launch) (N : Nat) (x0 : Int32) (res : Int32) (hf : f_X7_isProofWeight N x0 = some res) : Met l yX7_isProofWeight wsX7_isProofWeight { frames := 1, cells := 0, slots := 0, locals := 22 } (va_Pc [.int x0] (fun _ => True)) (vp_Si (fun r => r = res)) 0 0 (fun _ => False) := by
  refine Met.ofW (cc := cX7_isProofWeight) (maxL := 1) (ret := (some .boolean)) (by decide) rfl ?_
  intro p e s m args below meth c s₁ B hml hv
  obtain ⟨rfl, -⟩ := hv
  have hx := B.exec
  have hb := B.bytes
  have hr := B.returns
  have hts := atoms_spec (ws := wsX7_isProofWeight) B.pre
  have hown : s.vm.findClass RX7 = some m.cls := findClass_of_methodNamed B.named
  have hlk := B.notSynchronized
  have C : cxs cX7_isProofWeight 1 (some .boolean) wsX7_isProofWeight RX7 p s m ([.int x0] : List Value).toArray meth c := ⟨hx, hb, hr, hml, hown, hts, hlk⟩
  have hl := lv_entry [.int x0] (n := 1) (Nat.le_of_ble_eq_true rfl)
  rw [lg_entry_eq]
  generalize (lg_sl [.int x0] ++ List.replicate (1 - (lg_sl [.int x0]).length) Slot.unset).toArray = ls at hl ⊢
  have hl : lv_has ls 1 [(0, .int x0)] := hl
  unfold f_X7_isProofWeight at hf
  refine lv_iload_n (pc := 0) hx hb dX7_isProofWeight_0 rfl (lv_at hl 0 rfl) ?_
  refine lv_iconst (v := 1) (pc := 1) hx hb dX7_isProofWeight_1 (by decide) ?_
  refine lv_bipush (v := 9) (pc := 2) hx hb dX7_isProofWeight_2 (by decide) ?_
  obtain ⟨r4, e4, hf⟩ := bdE hf
  refine ksI (pc := 4) (As := [.int x0, .int 1, .int 9]) (rest := []) ⟨hx, hb, hml, hown, hts⟩ (c_X7_isWithin l N x0 1 9 r4 e4) (va_cwS 3 hts gX7_isProofWeight_X7_isWithin rfl rfl rfl h_X7_isWithin ⟨Nat.le_of_ble_eq_true rfl, Nat.le_of_ble_eq_true rfl⟩) rfl hl.1 rfl (Nat.le_of_ble_eq_true rfl) dX7_isProofWeight_4 ⟨Nat.zero_le _, Nat.zero_le _⟩ ?_
  obtain ⟨b7, hf⟩ := gdE hf
  have hf := Option.some.inj hf
  subst hf
  exact W.zret (v := r4) hx hb hr (z01V b7) (fun t ht hW => ⟨_, rfl, rfl, ht⟩) (fun _ h => by cases h) dX7_isProofWeight_7
theorem q_X7_proof_0 : (.fieldLink RX7 10 "PictureCourt" "proofs" "LPictureCourt$Proofs;" : Cond) ∈ wsX7_proof := by decide +kernel
theorem q_X7_proof_1 : (.fieldLink RX7 60 "PictureCourt" "today" "I" : Cond) ∈ wsX7_proof := by decide +kernel
theorem h_X7_proof : yX7_proof.cls = RX7 ∧ yX7_proof.cls ≠ "java/lang/invoke/MethodHandle" ∧ yX7_proof.cls ≠ "java/lang/invoke/VarHandle" ∧ (parseMethodDescriptor yX7_proof.desc).map (fun d => d.parameters.length) = some 3 := by decide +kernel
set_option maxHeartbeats 4000000 in
set_option maxRecDepth 100000 in
theorem c_X7_proof (l : Launch) (g : En) (N : Nat) (sz : Nat) (S7 : St) (S5 : St) (x1 : Int32) (x2 : Int32) (x3 : Int32) (res : Int32 × St) (hf : f_X7_proof N S7 S5 x1 x2 x3 = some res) : Met l yX7_proof wsX7_proof { frames := 3, cells := 0, slots := 0, locals := 63 } (rwP g (wd_7_5 g S7 S5) sz [.ref (g.2.2.1 7), .int x1, .int x2, .int x3]) (rwQi g (wd_7_5 g S7 (res.2)) (va_A (wd_7_5 g S7 S5) sz) (res.1)) 0 0 (va_A (wd_7_5 g S7 S5) sz) := by
  refine Met.ofW (cc := cX7_proof) (maxL := 4) (ret := (some .int)) (by decide) rfl ?_
  intro p e s m args below meth c s₁ B hml hv
  obtain ⟨rfl, hsz, hP, hK, hD0⟩ := hv
  have hx := B.exec
  have hb := B.bytes
  have hr := B.returns
  have hts := atoms_spec (ws := wsX7_proof) B.pre
  have hown : s.vm.findClass RX7 = some m.cls := findClass_of_methodNamed B.named
  have hlk := B.notSynchronized
  subst hsz
  have hD := hD0.self (sz := s.heap.size)
  generalize hAe : va_A (wd_7_5 g S7 S5) s.heap.size = A at hD ⊢
  have hA : ∀ q : Nat, s.heap.size ≤ q → A q := fun q h => by rw [← hAe]; exact Or.inr h
  have hS : va_S A s.heap s.heap [] := va_S.rf
  have C : cxw g A cX7_proof 4 (some .int) wsX7_proof RX7 p s m ([.ref (g.2.2.1 7), .int x1, .int x2, .int x3] : List Value).toArray meth c := ⟨⟨hx, hb, hr, hml, hown, hts, hlk⟩, hK, hA⟩
  have hl := lv_entry [.ref (g.2.2.1 7), .int x1, .int x2, .int x3] (n := 4) (Nat.le_of_ble_eq_true rfl)
  rw [lg_entry_eq]
  generalize (lg_sl [.ref (g.2.2.1 7), .int x1, .int x2, .int x3] ++ List.replicate (4 - (lg_sl [.ref (g.2.2.1 7), .int x1, .int x2, .int x3]).length) Slot.unset).toArray = ls at hl ⊢
  have hl : lv_has ls 4 [(0, .ref (g.2.2.1 7)), (1, .int x1), (2, .int x2), (3, .int x3)] := hl
  unfold f_X7_proof at hf
  suffices K9 : ∀ (H : Heap) (locs : List Loc), va_P g.1 vwCl (wd_7_5 g S7 S5) H → va_D A (wd_7_5 g S7 S5) → va_S A s.heap H locs → ((f_X7_areYears N x1 x2).bind (fun r2 => (if r2 = 0 then some ((-1), S5) else ((f_X7_isProofWeight N x3).bind (fun r9 => (if r9 = 0 then some ((-1), S5) else ((f_X5_isFull N S5).bind (fun r21 => (if r21 = 0 then ((f_X5_addYears N S5 x1 x2 x3 (S7.1 8)).bind (fun r41 => some ((r41.1), (r41.2)))) else some ((-2), S5)))))))))) = some res → W p l e (headSpec wsX7_proof { frames := 3, cells := 0, slots := 0, locals := 63 }).room s m ([.ref (g.2.2.1 7), .int x1, .int x2, .int x3] : List Value).toArray below meth c H locs 0 0 (MQ below (rwQi g (wd_7_5 g S7 (res.2)) A (res.1)) ([.ref (g.2.2.1 7), .int x1, .int x2, .int x3] : List Value).toArray s 0 0 A) (F0 m 0 ls []) from K9 s.heap [] hP hD hS hf
  clear hP hD hS hf
  intro H locs hP hD hS hf
  refine lv_iload_n (pc := 0) hx hb dX7_proof_0 rfl (lv_at hl 1 rfl) ?_
  refine lv_iload_n (pc := 1) hx hb dX7_proof_1 rfl (lv_at hl 2 rfl) ?_
  obtain ⟨r2, e2, hf⟩ := bdE hf
  refine ksI (pc := 2) (As := [.int x1, .int x2]) (rest := []) ⟨hx, hb, hml, hown, hts⟩ (c_X7_areYears l N x1 x2 r2 e2) (va_cwS 2 hts gX7_proof_X7_areYears rfl rfl rfl h_X7_areYears ⟨Nat.le_of_ble_eq_true rfl, Nat.le_of_ble_eq_true rfl⟩) rfl hl.1 rfl (Nat.le_of_ble_eq_true rfl) dX7_proof_2 ⟨Nat.zero_le _, Nat.zero_le _⟩ ?_
  refine lv_if_eq (tgt := 15) (pc := 5) hx hb dX7_proof_5 (by decide) (fun c5 => ?_) (fun c5 => ?_)
  · have hf := ft hf c5
    refine lv_iconst (v := (-1)) (pc := 15) hx hb dX7_proof_15 (by decide) ?_
    have hf := Option.some.inj hf
    subst hf
    exact W.iret (v := (-1)) hx hb hr (fun t ht hW => ⟨⟨_, (), rfl, rfl, by rw [ht]; exact hP, va_K.moved hW.alike hK, hD⟩, hS.F ht⟩) hS.2.2 dX7_proof_16
  · have hf := ff hf c5
    refine lv_iload_n (pc := 8) hx hb dX7_proof_8 rfl (lv_at hl 3 rfl) ?_
    obtain ⟨r9, e9, hf⟩ := bdE hf
    refine ksI (pc := 9) (As := [.int x3]) (rest := []) ⟨hx, hb, hml, hown, hts⟩ (c_X7_isProofWeight l N x3 r9 e9) (va_cwS 1 hts gX7_proof_X7_isProofWeight rfl rfl rfl h_X7_isProofWeight ⟨Nat.le_of_ble_eq_true rfl, Nat.le_of_ble_eq_true rfl⟩) rfl hl.1 rfl (Nat.le_of_ble_eq_true rfl) dX7_proof_9 ⟨Nat.zero_le _, Nat.zero_le _⟩ ?_
    refine lv_if_ne (tgt := 17) (pc := 12) hx hb dX7_proof_12 (by decide) (fun c12 => ?_) (fun c12 => ?_)
    · have hf := ff hf c12
      refine lv_aload_n (pc := 17) hx hb dX7_proof_17 rfl (lv_at hl 0 rfl) ?_
      refine va_get (D := g.1) (ci := 7) (v := .ref (g.2.2.1 5)) (C := RX7) (T := TX7) (N := 13) (pc := 18) hx hb hts (fun _ h => List.mem_cons_of_mem _ (List.mem_append_left _ (List.mem_append_right _ h))) hown hK hP 0 rfl rfl 0 (by decide) (hts _ q_X7_proof_0) (fun _ h9 => h9) rfl dX7_proof_18 ?_
      obtain ⟨r21, e21, hf⟩ := bdE hf
      refine krI (g := g) (wc := (wd_5 g S5)) (pc := 21) (As := []) (rest := []) ⟨hx, hb, hml, hown, hts⟩ (c_X5_isFull l g N S5 r21 e21) (cwV 0 hts gX7_proof_X5_isFull rfl rfl rfl h_X5_isFull ⟨Nat.le_of_ble_eq_true rfl, Nat.le_of_ble_eq_true rfl⟩) hK (hP.sub (ws' := (wd_5 g S5)) [2, 3, 4, 5, 6, 7, 8, 9, 10, 11] rfl) rfl rfl rfl hl.1 rfl (Nat.le_of_ble_eq_true rfl) dX7_proof_21 ⟨Nat.zero_le _, Nat.zero_le _⟩ ?_
      refine lv_if_eq (tgt := 30) (pc := 24) hx hb dX7_proof_24 (by decide) (fun c24 => ?_) (fun c24 => ?_)
      · have hf := ft hf c24
        refine lv_aload_n (pc := 30) hx hb dX7_proof_30 rfl (lv_at hl 0 rfl) ?_
        refine va_get (D := g.1) (ci := 7) (v := .ref (g.2.2.1 5)) (C := RX7) (T := TX7) (N := 13) (pc := 31) hx hb hts (fun _ h => List.mem_cons_of_mem _ (List.mem_append_left _ (List.mem_append_right _ h))) hown hK hP 0 rfl rfl 0 (by decide) (hts _ q_X7_proof_0) (fun _ h9 => h9) rfl dX7_proof_31 ?_
        refine lv_iload_n (pc := 34) hx hb dX7_proof_34 rfl (lv_at hl 1 rfl) ?_
        refine lv_iload_n (pc := 35) hx hb dX7_proof_35 rfl (lv_at hl 2 rfl) ?_
        refine lv_iload_n (pc := 36) hx hb dX7_proof_36 rfl (lv_at hl 3 rfl) ?_
        refine lv_aload_n (pc := 37) hx hb dX7_proof_37 rfl (lv_at hl 0 rfl) ?_
        refine va_get (D := g.1) (ci := 7) (v := .int (S7.1 8)) (C := RX7) (T := TX7) (N := 13) (pc := 38) hx hb hts (fun _ h => List.mem_cons_of_mem _ (List.mem_append_left _ (List.mem_append_right _ h))) hown hK hP 0 rfl rfl 8 (by decide) (hts _ q_X7_proof_1) (fun _ h9 => h9) rfl dX7_proof_38 ?_
        obtain ⟨r41, e41, hf⟩ := bdE hf
        refine kwI (g := g) (A := A) (W0 := (wd_7_5 g S7 S5)) (wc := (wd_5 g S5)) (wr := (wd_7 g S7)) (w1 := (wd_5 g (r41.2))) (W1 := (wd_7_5 g S7 (r41.2))) (pc := 41) (As := [.int x1, .int x2, .int x3, .int (S7.1 8)]) (rest := []) ⟨hx, hb, hml, hown, hts⟩ hK hA hP hD hS (c_X5_addYears l g N H.size S5 x1 x2 x3 (S7.1 8) r41 e41) (cwV 4 hts gX7_proof_X5_addYears rfl rfl rfl h_X5_addYears ⟨Nat.le_of_ble_eq_true rfl, Nat.le_of_ble_eq_true rfl⟩) [2, 3, 4, 5, 6, 7, 8, 9, 10, 11] [0, 1] [0, 1, 2, 3, 4, 5, 6, 7, 8, 9, 10, 11] rfl rfl rfl rfl rfl (by decide) rfl rfl rfl rfl rfl rfl hl.1 rfl (Nat.le_of_ble_eq_true rfl) dX7_proof_41 ⟨Nat.zero_le _, Nat.zero_le _⟩ (fun H locs hP hD hS => ?_)
        have hf := Option.some.inj hf
        subst hf
        exact W.iret (v := (r41.1)) hx hb hr (fun t ht hW => ⟨⟨_, (), rfl, rfl, by rw [ht]; exact hP, va_K.moved hW.alike hK, hD⟩, hS.F ht⟩) hS.2.2 dX7_proof_44
      · have hf := ff hf c24
        refine lv_bipush (v := (-2)) (pc := 27) hx hb dX7_proof_27 (by decide) ?_
        have hf := Option.some.inj hf
        subst hf
        exact W.iret (v := (-2)) hx hb hr (fun t ht hW => ⟨⟨_, (), rfl, rfl, by rw [ht]; exact hP, va_K.moved hW.alike hK, hD⟩, hS.F ht⟩) hS.2.2 dX7_proof_29
    · have hf := ft hf c12
      refine lv_iconst (v := (-1)) (pc := 15) hx hb dX7_proof_15 (by decide) ?_
      have hf := Option.some.inj hf
      subst hf
      exact W.iret (v := (-1)) hx hb hr (fun t ht hW => ⟨⟨_, (), rfl, rfl, by rw [ht]; exact hP, va_K.moved hW.alike hK, hD⟩, hS.F ht⟩) hS.2.2 dX7_proof_16
theorem q_X7_found_0 : (.fieldLink RX7 10 "PictureCourt" "proofs" "LPictureCourt$Proofs;" : Cond) ∈ wsX7_found := by decide +kernel
theorem q_X7_found_1 : (.fieldLink RX7 60 "PictureCourt" "today" "I" : Cond) ∈ wsX7_found := by decide +kernel
theorem h_X7_found : yX7_found.cls = RX7 ∧ yX7_found.cls ≠ "java/lang/invoke/MethodHandle" ∧ yX7_found.cls ≠ "java/lang/invoke/VarHandle" ∧ (parseMethodDescriptor yX7_found.desc).map (fun d => d.parameters.length) = some 2 := by decide +kernel
set_option maxHeartbeats 4000000 in
set_option maxRecDepth 100000 in
theorem c_X7_found (l : Launch) (g : En) (N : Nat) (sz : Nat) (S7 : St) (S5 : St) (x1 : Int32) (x2 : Int32) (res : Int32 × St) (hf : f_X7_found N S7 S5 x1 x2 = some res) : Met l yX7_found wsX7_found { frames := 2, cells := 0, slots := 0, locals := 46 } (rwP g (wd_7_5 g S7 S5) sz [.ref (g.2.2.1 7), .int x1, .int x2]) (rwQi g (wd_7_5 g S7 (res.2)) (va_A (wd_7_5 g S7 S5) sz) (res.1)) 0 0 (va_A (wd_7_5 g S7 S5) sz) := by
  refine Met.ofW (cc := cX7_found) (maxL := 3) (ret := (some .int)) (by decide) rfl ?_
  intro p e s m args below meth c s₁ B hml hv
  obtain ⟨rfl, hsz, hP, hK, hD0⟩ := hv
  have hx := B.exec
  have hb := B.bytes
  have hr := B.returns
  have hts := atoms_spec (ws := wsX7_found) B.pre
  have hown : s.vm.findClass RX7 = some m.cls := findClass_of_methodNamed B.named
  have hlk := B.notSynchronized
  subst hsz
  have hD := hD0.self (sz := s.heap.size)
  generalize hAe : va_A (wd_7_5 g S7 S5) s.heap.size = A at hD ⊢
  have hA : ∀ q : Nat, s.heap.size ≤ q → A q := fun q h => by rw [← hAe]; exact Or.inr h
  have hS : va_S A s.heap s.heap [] := va_S.rf
  have C : cxw g A cX7_found 3 (some .int) wsX7_found RX7 p s m ([.ref (g.2.2.1 7), .int x1, .int x2] : List Value).toArray meth c := ⟨⟨hx, hb, hr, hml, hown, hts, hlk⟩, hK, hA⟩
  have hl := lv_entry [.ref (g.2.2.1 7), .int x1, .int x2] (n := 3) (Nat.le_of_ble_eq_true rfl)
  rw [lg_entry_eq]
  generalize (lg_sl [.ref (g.2.2.1 7), .int x1, .int x2] ++ List.replicate (3 - (lg_sl [.ref (g.2.2.1 7), .int x1, .int x2]).length) Slot.unset).toArray = ls at hl ⊢
  have hl : lv_has ls 3 [(0, .ref (g.2.2.1 7)), (1, .int x1), (2, .int x2)] := hl
  unfold f_X7_found at hf
  suffices K9 : ∀ (H : Heap) (locs : List Loc), va_P g.1 vwCl (wd_7_5 g S7 S5) H → va_D A (wd_7_5 g S7 S5) → va_S A s.heap H locs → ((f_X7_isWithin N x1 0 9).bind (fun r4 => (if r4 = 0 then some ((-1), S5) else ((f_X7_isProofWeight N x2).bind (fun r11 => (if r11 = 0 then some ((-1), S5) else ((f_X5_isFull N S5).bind (fun r23 => (if r23 = 0 then ((f_X5_addPaint N S5 x1 x2 (S7.1 8)).bind (fun r42 => some ((r42.1), (r42.2)))) else some ((-2), S5)))))))))) = some res → W p l e (headSpec wsX7_found { frames := 2, cells := 0, slots := 0, locals := 46 }).room s m ([.ref (g.2.2.1 7), .int x1, .int x2] : List Value).toArray below meth c H locs 0 0 (MQ below (rwQi g (wd_7_5 g S7 (res.2)) A (res.1)) ([.ref (g.2.2.1 7), .int x1, .int x2] : List Value).toArray s 0 0 A) (F0 m 0 ls []) from K9 s.heap [] hP hD hS hf
  clear hP hD hS hf
  intro H locs hP hD hS hf
  refine lv_iload_n (pc := 0) hx hb dX7_found_0 rfl (lv_at hl 1 rfl) ?_
  refine lv_iconst (v := 0) (pc := 1) hx hb dX7_found_1 (by decide) ?_
  refine lv_bipush (v := 9) (pc := 2) hx hb dX7_found_2 (by decide) ?_
  obtain ⟨r4, e4, hf⟩ := bdE hf
  refine ksI (pc := 4) (As := [.int x1, .int 0, .int 9]) (rest := []) ⟨hx, hb, hml, hown, hts⟩ (c_X7_isWithin l N x1 0 9 r4 e4) (va_cwS 3 hts gX7_found_X7_isWithin rfl rfl rfl h_X7_isWithin ⟨Nat.le_of_ble_eq_true rfl, Nat.le_of_ble_eq_true rfl⟩) rfl hl.1 rfl (Nat.le_of_ble_eq_true rfl) dX7_found_4 ⟨Nat.zero_le _, Nat.zero_le _⟩ ?_
  refine lv_if_eq (tgt := 17) (pc := 7) hx hb dX7_found_7 (by decide) (fun c7 => ?_) (fun c7 => ?_)
  · have hf := ft hf c7
    refine lv_iconst (v := (-1)) (pc := 17) hx hb dX7_found_17 (by decide) ?_
    have hf := Option.some.inj hf
    subst hf
    exact W.iret (v := (-1)) hx hb hr (fun t ht hW => ⟨⟨_, (), rfl, rfl, by rw [ht]; exact hP, va_K.moved hW.alike hK, hD⟩, hS.F ht⟩) hS.2.2 dX7_found_18
  · have hf := ff hf c7
    refine lv_iload_n (pc := 10) hx hb dX7_found_10 rfl (lv_at hl 2 rfl) ?_
    obtain ⟨r11, e11, hf⟩ := bdE hf
    refine ksI (pc := 11) (As := [.int x2]) (rest := []) ⟨hx, hb, hml, hown, hts⟩ (c_X7_isProofWeight l N x2 r11 e11) (va_cwS 1 hts gX7_found_X7_isProofWeight rfl rfl rfl h_X7_isProofWeight ⟨Nat.le_of_ble_eq_true rfl, Nat.le_of_ble_eq_true rfl⟩) rfl hl.1 rfl (Nat.le_of_ble_eq_true rfl) dX7_found_11 ⟨Nat.zero_le _, Nat.zero_le _⟩ ?_
    refine lv_if_ne (tgt := 19) (pc := 14) hx hb dX7_found_14 (by decide) (fun c14 => ?_) (fun c14 => ?_)
    · have hf := ff hf c14
      refine lv_aload_n (pc := 19) hx hb dX7_found_19 rfl (lv_at hl 0 rfl) ?_
      refine va_get (D := g.1) (ci := 7) (v := .ref (g.2.2.1 5)) (C := RX7) (T := TX7) (N := 13) (pc := 20) hx hb hts (fun _ h => List.mem_cons_of_mem _ (List.mem_append_left _ (List.mem_append_right _ h))) hown hK hP 0 rfl rfl 0 (by decide) (hts _ q_X7_found_0) (fun _ h9 => h9) rfl dX7_found_20 ?_
      obtain ⟨r23, e23, hf⟩ := bdE hf
      refine krI (g := g) (wc := (wd_5 g S5)) (pc := 23) (As := []) (rest := []) ⟨hx, hb, hml, hown, hts⟩ (c_X5_isFull l g N S5 r23 e23) (cwV 0 hts gX7_found_X5_isFull rfl rfl rfl h_X5_isFull ⟨Nat.le_of_ble_eq_true rfl, Nat.le_of_ble_eq_true rfl⟩) hK (hP.sub (ws' := (wd_5 g S5)) [2, 3, 4, 5, 6, 7, 8, 9, 10, 11] rfl) rfl rfl rfl hl.1 rfl (Nat.le_of_ble_eq_true rfl) dX7_found_23 ⟨Nat.zero_le _, Nat.zero_le _⟩ ?_
      refine lv_if_eq (tgt := 32) (pc := 26) hx hb dX7_found_26 (by decide) (fun c26 => ?_) (fun c26 => ?_)
      · have hf := ft hf c26
        refine lv_aload_n (pc := 32) hx hb dX7_found_32 rfl (lv_at hl 0 rfl) ?_
        refine va_get (D := g.1) (ci := 7) (v := .ref (g.2.2.1 5)) (C := RX7) (T := TX7) (N := 13) (pc := 33) hx hb hts (fun _ h => List.mem_cons_of_mem _ (List.mem_append_left _ (List.mem_append_right _ h))) hown hK hP 0 rfl rfl 0 (by decide) (hts _ q_X7_found_0) (fun _ h9 => h9) rfl dX7_found_33 ?_
        refine lv_iload_n (pc := 36) hx hb dX7_found_36 rfl (lv_at hl 1 rfl) ?_
        refine lv_iload_n (pc := 37) hx hb dX7_found_37 rfl (lv_at hl 2 rfl) ?_
        refine lv_aload_n (pc := 38) hx hb dX7_found_38 rfl (lv_at hl 0 rfl) ?_
        refine va_get (D := g.1) (ci := 7) (v := .int (S7.1 8)) (C := RX7) (T := TX7) (N := 13) (pc := 39) hx hb hts (fun _ h => List.mem_cons_of_mem _ (List.mem_append_left _ (List.mem_append_right _ h))) hown hK hP 0 rfl rfl 8 (by decide) (hts _ q_X7_found_1) (fun _ h9 => h9) rfl dX7_found_39 ?_
        obtain ⟨r42, e42, hf⟩ := bdE hf
        refine kwI (g := g) (A := A) (W0 := (wd_7_5 g S7 S5)) (wc := (wd_5 g S5)) (wr := (wd_7 g S7)) (w1 := (wd_5 g (r42.2))) (W1 := (wd_7_5 g S7 (r42.2))) (pc := 42) (As := [.int x1, .int x2, .int (S7.1 8)]) (rest := []) ⟨hx, hb, hml, hown, hts⟩ hK hA hP hD hS (c_X5_addPaint l g N H.size S5 x1 x2 (S7.1 8) r42 e42) (cwV 3 hts gX7_found_X5_addPaint rfl rfl rfl h_X5_addPaint ⟨Nat.le_of_ble_eq_true rfl, Nat.le_of_ble_eq_true rfl⟩) [2, 3, 4, 5, 6, 7, 8, 9, 10, 11] [0, 1] [0, 1, 2, 3, 4, 5, 6, 7, 8, 9, 10, 11] rfl rfl rfl rfl rfl (by decide) rfl rfl rfl rfl rfl rfl hl.1 rfl (Nat.le_of_ble_eq_true rfl) dX7_found_42 ⟨Nat.zero_le _, Nat.zero_le _⟩ (fun H locs hP hD hS => ?_)
        have hf := Option.some.inj hf
        subst hf
        exact W.iret (v := (r42.1)) hx hb hr (fun t ht hW => ⟨⟨_, (), rfl, rfl, by rw [ht]; exact hP, va_K.moved hW.alike hK, hD⟩, hS.F ht⟩) hS.2.2 dX7_found_45
      · have hf := ff hf c26
        refine lv_bipush (v := (-2)) (pc := 29) hx hb dX7_found_29 (by decide) ?_
        have hf := Option.some.inj hf
        subst hf
        exact W.iret (v := (-2)) hx hb hr (fun t ht hW => ⟨⟨_, (), rfl, rfl, by rw [ht]; exact hP, va_K.moved hW.alike hK, hD⟩, hS.F ht⟩) hS.2.2 dX7_found_31
    · have hf := ft hf c14
      refine lv_iconst (v := (-1)) (pc := 17) hx hb dX7_found_17 (by decide) ?_
      have hf := Option.some.inj hf
      subst hf
      exact W.iret (v := (-1)) hx hb hr (fun t ht hW => ⟨⟨_, (), rfl, rfl, by rw [ht]; exact hP, va_K.moved hW.alike hK, hD⟩, hS.F ht⟩) hS.2.2 dX7_found_18
theorem q_X7_rings_0 : (.fieldLink RX7 10 "PictureCourt" "proofs" "LPictureCourt$Proofs;" : Cond) ∈ wsX7_rings := by decide +kernel
theorem q_X7_rings_1 : (.fieldLink RX7 60 "PictureCourt" "today" "I" : Cond) ∈ wsX7_rings := by decide +kernel
theorem h_X7_rings : yX7_rings.cls = RX7 ∧ yX7_rings.cls ≠ "java/lang/invoke/MethodHandle" ∧ yX7_rings.cls ≠ "java/lang/invoke/VarHandle" ∧ (parseMethodDescriptor yX7_rings.desc).map (fun d => d.parameters.length) = some 3 := by decide +kernel
set_option maxHeartbeats 4000000 in
set_option maxRecDepth 100000 in
theorem w_X7_rings_28 {p : Program} {l : Launch} {e : Env} {s : State} {m : MethodId} {args : Array Value} {below : List Frame} {meth : Method} {c : Code} {g : En} {A : Nat → Prop} {N : Nat} {S7 : St} {res : Int32 × St} (C : cxw g A cX7_rings 5 (some .int) wsX7_rings RX7 p s m args meth c) : ∀ (H : Heap) (locs : List Loc) (S5 : St) (ls : Array Slot) (x1 : Int32) (x2 : Int32) (x3 : Int32) (t0 : Int32), va_P g.1 vwCl (wd_7_5 g S7 S5) H → va_D A (wd_7_5 g S7 S5) → va_S A s.heap H locs → lv_has ls 5 [(0, .ref (g.2.2.1 7)), (1, .int x1), (2, .int x2), (3, .int x3)] → f_X7_rings_28 N S7  S5 x1 x2 x3 t0 = some res → W p l e (headSpec wsX7_rings { frames := 2, cells := 0, slots := 0, locals := 47 }).room s m args below meth c H locs 0 0 (MQ below (rwQi g (wd_7_5 g S7 (res.2)) A (res.1)) args s 0 0 A) (F0 m 28 ls [.int t0]) := by
  intro H locs S5 ls x1 x2 x3 t0 hP hD hS hl hf
  obtain ⟨⟨hx, hb, hr, hml, hown, hts, hlk⟩, hK, hA⟩ := id C
  unfold f_X7_rings_28 at hf
  refine lv_istore (lv' := [(4, .int t0), (0, .ref (g.2.2.1 7)), (1, .int x1), (2, .int x2), (3, .int x3)]) (pc := 28) hx hb dX7_rings_28 hl (by decide) rfl (fun ls hl => ?_)
  refine lv_iload (pc := 30) hx hb dX7_rings_30 (lv_at hl 0 rfl) ?_
  refine lv_if_eq (tgt := 42) (pc := 32) hx hb dX7_rings_32 (by decide) (fun c32 => ?_) (fun c32 => ?_)
  · have hf := ft hf c32
    refine lv_iconst (v := (-1)) (pc := 42) hx hb dX7_rings_42 (by decide) ?_
    have hf := Option.some.inj hf
    subst hf
    exact W.iret (v := (-1)) hx hb hr (fun t ht hW => ⟨⟨_, (), rfl, rfl, by rw [ht]; exact hP, va_K.moved hW.alike hK, hD⟩, hS.F ht⟩) hS.2.2 dX7_rings_43
  · have hf := ff hf c32
    refine lv_iload_n (pc := 35) hx hb dX7_rings_35 rfl (lv_at hl 4 rfl) ?_
    obtain ⟨r36, e36, hf⟩ := bdE hf
    refine ksI (pc := 36) (As := [.int x3]) (rest := []) ⟨hx, hb, hml, hown, hts⟩ (c_X7_isProofWeight l N x3 r36 e36) (va_cwS 1 hts gX7_rings_X7_isProofWeight rfl rfl rfl h_X7_isProofWeight ⟨Nat.le_of_ble_eq_true rfl, Nat.le_of_ble_eq_true rfl⟩) rfl hl.1 rfl (Nat.le_of_ble_eq_true rfl) dX7_rings_36 ⟨Nat.zero_le _, Nat.zero_le _⟩ ?_
    refine lv_if_ne (tgt := 44) (pc := 39) hx hb dX7_rings_39 (by decide) (fun c39 => ?_) (fun c39 => ?_)
    · have hf := ff hf c39
      refine lv_aload_n (pc := 44) hx hb dX7_rings_44 rfl (lv_at hl 1 rfl) ?_
      refine va_get (D := g.1) (ci := 7) (v := .ref (g.2.2.1 5)) (C := RX7) (T := TX7) (N := 13) (pc := 45) hx hb hts (fun _ h => List.mem_cons_of_mem _ (List.mem_append_left _ (List.mem_append_right _ h))) hown hK hP 0 rfl rfl 0 (by decide) (hts _ q_X7_rings_0) (fun _ h9 => h9) rfl dX7_rings_45 ?_
      obtain ⟨r48, e48, hf⟩ := bdE hf
      refine krI (g := g) (wc := (wd_5 g S5)) (pc := 48) (As := []) (rest := []) ⟨hx, hb, hml, hown, hts⟩ (c_X5_isFull l g N S5 r48 e48) (cwV 0 hts gX7_rings_X5_isFull rfl rfl rfl h_X5_isFull ⟨Nat.le_of_ble_eq_true rfl, Nat.le_of_ble_eq_true rfl⟩) hK (hP.sub (ws' := (wd_5 g S5)) [2, 3, 4, 5, 6, 7, 8, 9, 10, 11] rfl) rfl rfl rfl hl.1 rfl (Nat.le_of_ble_eq_true rfl) dX7_rings_48 ⟨Nat.zero_le _, Nat.zero_le _⟩ ?_
      refine lv_if_eq (tgt := 57) (pc := 51) hx hb dX7_rings_51 (by decide) (fun c51 => ?_) (fun c51 => ?_)
      · have hf := ft hf c51
        refine lv_aload_n (pc := 57) hx hb dX7_rings_57 rfl (lv_at hl 1 rfl) ?_
        refine va_get (D := g.1) (ci := 7) (v := .ref (g.2.2.1 5)) (C := RX7) (T := TX7) (N := 13) (pc := 58) hx hb hts (fun _ h => List.mem_cons_of_mem _ (List.mem_append_left _ (List.mem_append_right _ h))) hown hK hP 0 rfl rfl 0 (by decide) (hts _ q_X7_rings_0) (fun _ h9 => h9) rfl dX7_rings_58 ?_
        refine lv_iload_n (pc := 61) hx hb dX7_rings_61 rfl (lv_at hl 2 rfl) ?_
        refine lv_iload_n (pc := 62) hx hb dX7_rings_62 rfl (lv_at hl 3 rfl) ?_
        refine lv_iload_n (pc := 63) hx hb dX7_rings_63 rfl (lv_at hl 4 rfl) ?_
        refine lv_aload_n (pc := 64) hx hb dX7_rings_64 rfl (lv_at hl 1 rfl) ?_
        refine va_get (D := g.1) (ci := 7) (v := .int (S7.1 8)) (C := RX7) (T := TX7) (N := 13) (pc := 65) hx hb hts (fun _ h => List.mem_cons_of_mem _ (List.mem_append_left _ (List.mem_append_right _ h))) hown hK hP 0 rfl rfl 8 (by decide) (hts _ q_X7_rings_1) (fun _ h9 => h9) rfl dX7_rings_65 ?_
        obtain ⟨r68, e68, hf⟩ := bdE hf
        refine kwI (g := g) (A := A) (W0 := (wd_7_5 g S7 S5)) (wc := (wd_5 g S5)) (wr := (wd_7 g S7)) (w1 := (wd_5 g (r68.2))) (W1 := (wd_7_5 g S7 (r68.2))) (pc := 68) (As := [.int x1, .int x2, .int x3, .int (S7.1 8)]) (rest := []) ⟨hx, hb, hml, hown, hts⟩ hK hA hP hD hS (c_X5_addRings l g N H.size S5 x1 x2 x3 (S7.1 8) r68 e68) (cwV 4 hts gX7_rings_X5_addRings rfl rfl rfl h_X5_addRings ⟨Nat.le_of_ble_eq_true rfl, Nat.le_of_ble_eq_true rfl⟩) [2, 3, 4, 5, 6, 7, 8, 9, 10, 11] [0, 1] [0, 1, 2, 3, 4, 5, 6, 7, 8, 9, 10, 11] rfl rfl rfl rfl rfl (by decide) rfl rfl rfl rfl rfl rfl hl.1 rfl (Nat.le_of_ble_eq_true rfl) dX7_rings_68 ⟨Nat.zero_le _, Nat.zero_le _⟩ (fun H locs hP hD hS => ?_)
        have hf := Option.some.inj hf
        subst hf
        exact W.iret (v := (r68.1)) hx hb hr (fun t ht hW => ⟨⟨_, (), rfl, rfl, by rw [ht]; exact hP, va_K.moved hW.alike hK, hD⟩, hS.F ht⟩) hS.2.2 dX7_rings_71
      · have hf := ff hf c51
        refine lv_bipush (v := (-2)) (pc := 54) hx hb dX7_rings_54 (by decide) ?_
        have hf := Option.some.inj hf
        subst hf
        exact W.iret (v := (-2)) hx hb hr (fun t ht hW => ⟨⟨_, (), rfl, rfl, by rw [ht]; exact hP, va_K.moved hW.alike hK, hD⟩, hS.F ht⟩) hS.2.2 dX7_rings_56
    · have hf := ft hf c39
      refine lv_iconst (v := (-1)) (pc := 42) hx hb dX7_rings_42 (by decide) ?_
      have hf := Option.some.inj hf
      subst hf
      exact W.iret (v := (-1)) hx hb hr (fun t ht hW => ⟨⟨_, (), rfl, rfl, by rw [ht]; exact hP, va_K.moved hW.alike hK, hD⟩, hS.F ht⟩) hS.2.2 dX7_rings_43
set_option maxHeartbeats 4000000 in
set_option maxRecDepth 100000 in
theorem w_X7_rings_27 {p : Program} {l : Launch} {e : Env} {s : State} {m : MethodId} {args : Array Value} {below : List Frame} {meth : Method} {c : Code} {g : En} {A : Nat → Prop} {N : Nat} {S7 : St} {res : Int32 × St} (C : cxw g A cX7_rings 5 (some .int) wsX7_rings RX7 p s m args meth c) : ∀ (H : Heap) (locs : List Loc) (S5 : St) (ls : Array Slot) (x1 : Int32) (x2 : Int32) (x3 : Int32), va_P g.1 vwCl (wd_7_5 g S7 S5) H → va_D A (wd_7_5 g S7 S5) → va_S A s.heap H locs → lv_has ls 5 [(0, .ref (g.2.2.1 7)), (1, .int x1), (2, .int x2), (3, .int x3)] → f_X7_rings_27 N S7  S5 x1 x2 x3 = some res → W p l e (headSpec wsX7_rings { frames := 2, cells := 0, slots := 0, locals := 47 }).room s m args below meth c H locs 0 0 (MQ below (rwQi g (wd_7_5 g S7 (res.2)) A (res.1)) args s 0 0 A) (F0 m 27 ls []) := by
  intro H locs S5 ls x1 x2 x3 hP hD hS hl hf
  obtain ⟨⟨hx, hb, hr, hml, hown, hts, hlk⟩, hK, hA⟩ := id C
  unfold f_X7_rings_27 at hf
  refine lv_iconst (v := 0) (pc := 27) hx hb dX7_rings_27 (by decide) ?_
  exact w_X7_rings_28 C  H locs S5 ls x1 x2 x3 0 hP hD hS (lv_sub hl [0, 1, 2, 3] rfl) hf
set_option maxHeartbeats 4000000 in
set_option maxRecDepth 100000 in
theorem c_X7_rings (l : Launch) (g : En) (N : Nat) (sz : Nat) (S7 : St) (S5 : St) (x1 : Int32) (x2 : Int32) (x3 : Int32) (res : Int32 × St) (hf : f_X7_rings N S7 S5 x1 x2 x3 = some res) : Met l yX7_rings wsX7_rings { frames := 2, cells := 0, slots := 0, locals := 47 } (rwP g (wd_7_5 g S7 S5) sz [.ref (g.2.2.1 7), .int x1, .int x2, .int x3]) (rwQi g (wd_7_5 g S7 (res.2)) (va_A (wd_7_5 g S7 S5) sz) (res.1)) 0 0 (va_A (wd_7_5 g S7 S5) sz) := by
  refine Met.ofW (cc := cX7_rings) (maxL := 5) (ret := (some .int)) (by decide) rfl ?_
  intro p e s m args below meth c s₁ B hml hv
  obtain ⟨rfl, hsz, hP, hK, hD0⟩ := hv
  have hx := B.exec
  have hb := B.bytes
  have hr := B.returns
  have hts := atoms_spec (ws := wsX7_rings) B.pre
  have hown : s.vm.findClass RX7 = some m.cls := findClass_of_methodNamed B.named
  have hlk := B.notSynchronized
  subst hsz
  have hD := hD0.self (sz := s.heap.size)
  generalize hAe : va_A (wd_7_5 g S7 S5) s.heap.size = A at hD ⊢
  have hA : ∀ q : Nat, s.heap.size ≤ q → A q := fun q h => by rw [← hAe]; exact Or.inr h
  have hS : va_S A s.heap s.heap [] := va_S.rf
  have C : cxw g A cX7_rings 5 (some .int) wsX7_rings RX7 p s m ([.ref (g.2.2.1 7), .int x1, .int x2, .int x3] : List Value).toArray meth c := ⟨⟨hx, hb, hr, hml, hown, hts, hlk⟩, hK, hA⟩
  have hl := lv_entry [.ref (g.2.2.1 7), .int x1, .int x2, .int x3] (n := 5) (Nat.le_of_ble_eq_true rfl)
  rw [lg_entry_eq]
  generalize (lg_sl [.ref (g.2.2.1 7), .int x1, .int x2, .int x3] ++ List.replicate (5 - (lg_sl [.ref (g.2.2.1 7), .int x1, .int x2, .int x3]).length) Slot.unset).toArray = ls at hl ⊢
  have hl : lv_has ls 5 [(0, .ref (g.2.2.1 7)), (1, .int x1), (2, .int x2), (3, .int x3)] := hl
  unfold f_X7_rings at hf
  suffices K9 : ∀ (H : Heap) (locs : List Loc), va_P g.1 vwCl (wd_7_5 g S7 S5) H → va_D A (wd_7_5 g S7 S5) → va_S A s.heap H locs → ((f_X7_isWithin N x1 1000 2000).bind (fun r7 => (if r7 = 0 then (f_X7_rings_27 N S7  S5 x1 x2 x3) else ((f_X7_isWithin N x2 0 30).bind (fun r17 => (if r17 = 0 then (f_X7_rings_27 N S7  S5 x1 x2 x3) else (f_X7_rings_28 N S7  S5 x1 x2 x3 1))))))) = some res → W p l e (headSpec wsX7_rings { frames := 2, cells := 0, slots := 0, locals := 47 }).room s m ([.ref (g.2.2.1 7), .int x1, .int x2, .int x3] : List Value).toArray below meth c H locs 0 0 (MQ below (rwQi g (wd_7_5 g S7 (res.2)) A (res.1)) ([.ref (g.2.2.1 7), .int x1, .int x2, .int x3] : List Value).toArray s 0 0 A) (F0 m 0 ls []) from K9 s.heap [] hP hD hS hf
  clear hP hD hS hf
  intro H locs hP hD hS hf
  refine lv_iload_n (pc := 0) hx hb dX7_rings_0 rfl (lv_at hl 1 rfl) ?_
  refine lv_sipush (v := 1000) (pc := 1) hx hb dX7_rings_1 (by decide) ?_
  refine lv_sipush (v := 2000) (pc := 4) hx hb dX7_rings_4 (by decide) ?_
  obtain ⟨r7, e7, hf⟩ := bdE hf
  refine ksI (pc := 7) (As := [.int x1, .int 1000, .int 2000]) (rest := []) ⟨hx, hb, hml, hown, hts⟩ (c_X7_isWithin l N x1 1000 2000 r7 e7) (va_cwS 3 hts gX7_rings_X7_isWithin rfl rfl rfl h_X7_isWithin ⟨Nat.le_of_ble_eq_true rfl, Nat.le_of_ble_eq_true rfl⟩) rfl hl.1 rfl (Nat.le_of_ble_eq_true rfl) dX7_rings_7 ⟨Nat.zero_le _, Nat.zero_le _⟩ ?_
  refine lv_if_eq (tgt := 27) (pc := 10) hx hb dX7_rings_10 (by decide) (fun c10 => ?_) (fun c10 => ?_)
  · have hf := ft hf c10
    exact w_X7_rings_27 C  H locs S5 ls x1 x2 x3 hP hD hS (lv_sub hl [0, 1, 2, 3] rfl) hf
  · have hf := ff hf c10
    refine lv_iload_n (pc := 13) hx hb dX7_rings_13 rfl (lv_at hl 2 rfl) ?_
    refine lv_iconst (v := 0) (pc := 14) hx hb dX7_rings_14 (by decide) ?_
    refine lv_bipush (v := 30) (pc := 15) hx hb dX7_rings_15 (by decide) ?_
    obtain ⟨r17, e17, hf⟩ := bdE hf
    refine ksI (pc := 17) (As := [.int x2, .int 0, .int 30]) (rest := []) ⟨hx, hb, hml, hown, hts⟩ (c_X7_isWithin l N x2 0 30 r17 e17) (va_cwS 3 hts gX7_rings_X7_isWithin rfl rfl rfl h_X7_isWithin ⟨Nat.le_of_ble_eq_true rfl, Nat.le_of_ble_eq_true rfl⟩) rfl hl.1 rfl (Nat.le_of_ble_eq_true rfl) dX7_rings_17 ⟨Nat.zero_le _, Nat.zero_le _⟩ ?_
    refine lv_if_eq (tgt := 27) (pc := 20) hx hb dX7_rings_20 (by decide) (fun c20 => ?_) (fun c20 => ?_)
    · have hf := ft hf c20
      exact w_X7_rings_27 C  H locs S5 ls x1 x2 x3 hP hD hS (lv_sub hl [0, 1, 2, 3] rfl) hf
    · have hf := ff hf c20
      refine lv_iconst (v := 1) (pc := 23) hx hb dX7_rings_23 (by decide) ?_
      refine lv_goto (tgt := 28) (pc := 24) hx hb dX7_rings_24 (by decide) ?_
      exact w_X7_rings_28 C  H locs S5 ls x1 x2 x3 1 hP hD hS (lv_sub hl [0, 1, 2, 3] rfl) hf
theorem q_X7_threads_0 : (.fieldLink RX7 10 "PictureCourt" "proofs" "LPictureCourt$Proofs;" : Cond) ∈ wsX7_threads := by decide +kernel
theorem q_X7_threads_1 : (.fieldLink RX7 60 "PictureCourt" "today" "I" : Cond) ∈ wsX7_threads := by decide +kernel
theorem h_X7_threads : yX7_threads.cls = RX7 ∧ yX7_threads.cls ≠ "java/lang/invoke/MethodHandle" ∧ yX7_threads.cls ≠ "java/lang/invoke/VarHandle" ∧ (parseMethodDescriptor yX7_threads.desc).map (fun d => d.parameters.length) = some 5 := by decide +kernel
set_option maxHeartbeats 4000000 in
set_option maxRecDepth 100000 in
theorem c_X7_threads (l : Launch) (g : En) (N : Nat) (sz : Nat) (S7 : St) (S5 : St) (x1 : Int32) (x2 : Int32) (x3 : Int32) (x4 : Int32) (x5 : Int32) (res : Int32 × St) (hf : f_X7_threads N S7 S5 x1 x2 x3 x4 x5 = some res) : Met l yX7_threads wsX7_threads { frames := 3, cells := 0, slots := 0, locals := 63 } (rwP g (wd_7_5 g S7 S5) sz [.ref (g.2.2.1 7), .int x1, .int x2, .int x3, .int x4, .int x5]) (rwQi g (wd_7_5 g S7 (res.2)) (va_A (wd_7_5 g S7 S5) sz) (res.1)) 0 0 (va_A (wd_7_5 g S7 S5) sz) := by
  refine Met.ofW (cc := cX7_threads) (maxL := 6) (ret := (some .int)) (by decide) rfl ?_
  intro p e s m args below meth c s₁ B hml hv
  obtain ⟨rfl, hsz, hP, hK, hD0⟩ := hv
  have hx := B.exec
  have hb := B.bytes
  have hr := B.returns
  have hts := atoms_spec (ws := wsX7_threads) B.pre
  have hown : s.vm.findClass RX7 = some m.cls := findClass_of_methodNamed B.named
  have hlk := B.notSynchronized
  subst hsz
  have hD := hD0.self (sz := s.heap.size)
  generalize hAe : va_A (wd_7_5 g S7 S5) s.heap.size = A at hD ⊢
  have hA : ∀ q : Nat, s.heap.size ≤ q → A q := fun q h => by rw [← hAe]; exact Or.inr h
  have hS : va_S A s.heap s.heap [] := va_S.rf
  have C : cxw g A cX7_threads 6 (some .int) wsX7_threads RX7 p s m ([.ref (g.2.2.1 7), .int x1, .int x2, .int x3, .int x4, .int x5] : List Value).toArray meth c := ⟨⟨hx, hb, hr, hml, hown, hts, hlk⟩, hK, hA⟩
  have hl := lv_entry [.ref (g.2.2.1 7), .int x1, .int x2, .int x3, .int x4, .int x5] (n := 6) (Nat.le_of_ble_eq_true rfl)
  rw [lg_entry_eq]
  generalize (lg_sl [.ref (g.2.2.1 7), .int x1, .int x2, .int x3, .int x4, .int x5] ++ List.replicate (6 - (lg_sl [.ref (g.2.2.1 7), .int x1, .int x2, .int x3, .int x4, .int x5]).length) Slot.unset).toArray = ls at hl ⊢
  have hl : lv_has ls 6 [(0, .ref (g.2.2.1 7)), (1, .int x1), (2, .int x2), (3, .int x3), (4, .int x4), (5, .int x5)] := hl
  unfold f_X7_threads at hf
  suffices K9 : ∀ (H : Heap) (locs : List Loc), va_P g.1 vwCl (wd_7_5 g S7 S5) H → va_D A (wd_7_5 g S7 S5) → va_S A s.heap H locs → ((f_X7_areTwoRows N x1 x2).bind (fun r2 => (if r2 = 0 then some ((-1), S5) else ((f_X7_areYears N x3 x4).bind (fun r11 => (if r11 = 0 then some ((-1), S5) else ((f_X7_isProofWeight N x5).bind (fun r19 => (if r19 = 0 then some ((-1), S5) else ((f_X5_isFull N S5).bind (fun r31 => (if r31 = 0 then ((f_X5_addThreads N S5 x1 x2 x3 x4 x5 (S7.1 8)).bind (fun r55 => some ((r55.1), (r55.2)))) else some ((-2), S5))))))))))))) = some res → W p l e (headSpec wsX7_threads { frames := 3, cells := 0, slots := 0, locals := 63 }).room s m ([.ref (g.2.2.1 7), .int x1, .int x2, .int x3, .int x4, .int x5] : List Value).toArray below meth c H locs 0 0 (MQ below (rwQi g (wd_7_5 g S7 (res.2)) A (res.1)) ([.ref (g.2.2.1 7), .int x1, .int x2, .int x3, .int x4, .int x5] : List Value).toArray s 0 0 A) (F0 m 0 ls []) from K9 s.heap [] hP hD hS hf
  clear hP hD hS hf
  intro H locs hP hD hS hf
  refine lv_iload_n (pc := 0) hx hb dX7_threads_0 rfl (lv_at hl 1 rfl) ?_
  refine lv_iload_n (pc := 1) hx hb dX7_threads_1 rfl (lv_at hl 2 rfl) ?_
  obtain ⟨r2, e2, hf⟩ := bdE hf
  refine ksI (pc := 2) (As := [.int x1, .int x2]) (rest := []) ⟨hx, hb, hml, hown, hts⟩ (c_X7_areTwoRows l N x1 x2 r2 e2) (va_cwS 2 hts gX7_threads_X7_areTwoRows rfl rfl rfl h_X7_areTwoRows ⟨Nat.le_of_ble_eq_true rfl, Nat.le_of_ble_eq_true rfl⟩) rfl hl.1 rfl (Nat.le_of_ble_eq_true rfl) dX7_threads_2 ⟨Nat.zero_le _, Nat.zero_le _⟩ ?_
  refine lv_if_eq (tgt := 25) (pc := 5) hx hb dX7_threads_5 (by decide) (fun c5 => ?_) (fun c5 => ?_)
  · have hf := ft hf c5
    refine lv_iconst (v := (-1)) (pc := 25) hx hb dX7_threads_25 (by decide) ?_
    have hf := Option.some.inj hf
    subst hf
    exact W.iret (v := (-1)) hx hb hr (fun t ht hW => ⟨⟨_, (), rfl, rfl, by rw [ht]; exact hP, va_K.moved hW.alike hK, hD⟩, hS.F ht⟩) hS.2.2 dX7_threads_26
  · have hf := ff hf c5
    refine lv_iload_n (pc := 8) hx hb dX7_threads_8 rfl (lv_at hl 3 rfl) ?_
    refine lv_iload (pc := 9) hx hb dX7_threads_9 (lv_at hl 4 rfl) ?_
    obtain ⟨r11, e11, hf⟩ := bdE hf
    refine ksI (pc := 11) (As := [.int x3, .int x4]) (rest := []) ⟨hx, hb, hml, hown, hts⟩ (c_X7_areYears l N x3 x4 r11 e11) (va_cwS 2 hts gX7_threads_X7_areYears rfl rfl rfl h_X7_areYears ⟨Nat.le_of_ble_eq_true rfl, Nat.le_of_ble_eq_true rfl⟩) rfl hl.1 rfl (Nat.le_of_ble_eq_true rfl) dX7_threads_11 ⟨Nat.zero_le _, Nat.zero_le _⟩ ?_
    refine lv_if_eq (tgt := 25) (pc := 14) hx hb dX7_threads_14 (by decide) (fun c14 => ?_) (fun c14 => ?_)
    · have hf := ft hf c14
      refine lv_iconst (v := (-1)) (pc := 25) hx hb dX7_threads_25 (by decide) ?_
      have hf := Option.some.inj hf
      subst hf
      exact W.iret (v := (-1)) hx hb hr (fun t ht hW => ⟨⟨_, (), rfl, rfl, by rw [ht]; exact hP, va_K.moved hW.alike hK, hD⟩, hS.F ht⟩) hS.2.2 dX7_threads_26
    · have hf := ff hf c14
      refine lv_iload (pc := 17) hx hb dX7_threads_17 (lv_at hl 5 rfl) ?_
      obtain ⟨r19, e19, hf⟩ := bdE hf
      refine ksI (pc := 19) (As := [.int x5]) (rest := []) ⟨hx, hb, hml, hown, hts⟩ (c_X7_isProofWeight l N x5 r19 e19) (va_cwS 1 hts gX7_threads_X7_isProofWeight rfl rfl rfl h_X7_isProofWeight ⟨Nat.le_of_ble_eq_true rfl, Nat.le_of_ble_eq_true rfl⟩) rfl hl.1 rfl (Nat.le_of_ble_eq_true rfl) dX7_threads_19 ⟨Nat.zero_le _, Nat.zero_le _⟩ ?_
      refine lv_if_ne (tgt := 27) (pc := 22) hx hb dX7_threads_22 (by decide) (fun c22 => ?_) (fun c22 => ?_)
      · have hf := ff hf c22
        refine lv_aload_n (pc := 27) hx hb dX7_threads_27 rfl (lv_at hl 0 rfl) ?_
        refine va_get (D := g.1) (ci := 7) (v := .ref (g.2.2.1 5)) (C := RX7) (T := TX7) (N := 13) (pc := 28) hx hb hts (fun _ h => List.mem_cons_of_mem _ (List.mem_append_left _ (List.mem_append_right _ h))) hown hK hP 0 rfl rfl 0 (by decide) (hts _ q_X7_threads_0) (fun _ h9 => h9) rfl dX7_threads_28 ?_
        obtain ⟨r31, e31, hf⟩ := bdE hf
        refine krI (g := g) (wc := (wd_5 g S5)) (pc := 31) (As := []) (rest := []) ⟨hx, hb, hml, hown, hts⟩ (c_X5_isFull l g N S5 r31 e31) (cwV 0 hts gX7_threads_X5_isFull rfl rfl rfl h_X5_isFull ⟨Nat.le_of_ble_eq_true rfl, Nat.le_of_ble_eq_true rfl⟩) hK (hP.sub (ws' := (wd_5 g S5)) [2, 3, 4, 5, 6, 7, 8, 9, 10, 11] rfl) rfl rfl rfl hl.1 rfl (Nat.le_of_ble_eq_true rfl) dX7_threads_31 ⟨Nat.zero_le _, Nat.zero_le _⟩ ?_
        refine lv_if_eq (tgt := 40) (pc := 34) hx hb dX7_threads_34 (by decide) (fun c34 => ?_) (fun c34 => ?_)
        · have hf := ft hf c34
          refine lv_aload_n (pc := 40) hx hb dX7_threads_40 rfl (lv_at hl 0 rfl) ?_
          refine va_get (D := g.1) (ci := 7) (v := .ref (g.2.2.1 5)) (C := RX7) (T := TX7) (N := 13) (pc := 41) hx hb hts (fun _ h => List.mem_cons_of_mem _ (List.mem_append_left _ (List.mem_append_right _ h))) hown hK hP 0 rfl rfl 0 (by decide) (hts _ q_X7_threads_0) (fun _ h9 => h9) rfl dX7_threads_41 ?_
          refine lv_iload_n (pc := 44) hx hb dX7_threads_44 rfl (lv_at hl 1 rfl) ?_
          refine lv_iload_n (pc := 45) hx hb dX7_threads_45 rfl (lv_at hl 2 rfl) ?_
          refine lv_iload_n (pc := 46) hx hb dX7_threads_46 rfl (lv_at hl 3 rfl) ?_
          refine lv_iload (pc := 47) hx hb dX7_threads_47 (lv_at hl 4 rfl) ?_
          refine lv_iload (pc := 49) hx hb dX7_threads_49 (lv_at hl 5 rfl) ?_
          refine lv_aload_n (pc := 51) hx hb dX7_threads_51 rfl (lv_at hl 0 rfl) ?_
          refine va_get (D := g.1) (ci := 7) (v := .int (S7.1 8)) (C := RX7) (T := TX7) (N := 13) (pc := 52) hx hb hts (fun _ h => List.mem_cons_of_mem _ (List.mem_append_left _ (List.mem_append_right _ h))) hown hK hP 0 rfl rfl 8 (by decide) (hts _ q_X7_threads_1) (fun _ h9 => h9) rfl dX7_threads_52 ?_
          obtain ⟨r55, e55, hf⟩ := bdE hf
          refine kwI (g := g) (A := A) (W0 := (wd_7_5 g S7 S5)) (wc := (wd_5 g S5)) (wr := (wd_7 g S7)) (w1 := (wd_5 g (r55.2))) (W1 := (wd_7_5 g S7 (r55.2))) (pc := 55) (As := [.int x1, .int x2, .int x3, .int x4, .int x5, .int (S7.1 8)]) (rest := []) ⟨hx, hb, hml, hown, hts⟩ hK hA hP hD hS (c_X5_addThreads l g N H.size S5 x1 x2 x3 x4 x5 (S7.1 8) r55 e55) (cwV 6 hts gX7_threads_X5_addThreads rfl rfl rfl h_X5_addThreads ⟨Nat.le_of_ble_eq_true rfl, Nat.le_of_ble_eq_true rfl⟩) [2, 3, 4, 5, 6, 7, 8, 9, 10, 11] [0, 1] [0, 1, 2, 3, 4, 5, 6, 7, 8, 9, 10, 11] rfl rfl rfl rfl rfl (by decide) rfl rfl rfl rfl rfl rfl hl.1 rfl (Nat.le_of_ble_eq_true rfl) dX7_threads_55 ⟨Nat.zero_le _, Nat.zero_le _⟩ (fun H locs hP hD hS => ?_)
          have hf := Option.some.inj hf
          subst hf
          exact W.iret (v := (r55.1)) hx hb hr (fun t ht hW => ⟨⟨_, (), rfl, rfl, by rw [ht]; exact hP, va_K.moved hW.alike hK, hD⟩, hS.F ht⟩) hS.2.2 dX7_threads_58
        · have hf := ff hf c34
          refine lv_bipush (v := (-2)) (pc := 37) hx hb dX7_threads_37 (by decide) ?_
          have hf := Option.some.inj hf
          subst hf
          exact W.iret (v := (-2)) hx hb hr (fun t ht hW => ⟨⟨_, (), rfl, rfl, by rw [ht]; exact hP, va_K.moved hW.alike hK, hD⟩, hS.F ht⟩) hS.2.2 dX7_threads_39
      · have hf := ft hf c22
        refine lv_iconst (v := (-1)) (pc := 25) hx hb dX7_threads_25 (by decide) ?_
        have hf := Option.some.inj hf
        subst hf
        exact W.iret (v := (-1)) hx hb hr (fun t ht hW => ⟨⟨_, (), rfl, rfl, by rw [ht]; exact hP, va_K.moved hW.alike hK, hD⟩, hS.F ht⟩) hS.2.2 dX7_threads_26
theorem q_X7_strike_0 : (.fieldLink RX7 10 "PictureCourt" "proofs" "LPictureCourt$Proofs;" : Cond) ∈ wsX7_strike := by decide +kernel
theorem q_X7_strike_1 : (.fieldLink RX7 60 "PictureCourt" "today" "I" : Cond) ∈ wsX7_strike := by decide +kernel
theorem h_X7_strike : yX7_strike.cls = RX7 ∧ yX7_strike.cls ≠ "java/lang/invoke/MethodHandle" ∧ yX7_strike.cls ≠ "java/lang/invoke/VarHandle" ∧ (parseMethodDescriptor yX7_strike.desc).map (fun d => d.parameters.length) = some 1 := by decide +kernel
set_option maxHeartbeats 4000000 in
set_option maxRecDepth 100000 in
theorem c_X7_strike (l : Launch) (g : En) (N : Nat) (sz : Nat) (S7 : St) (S5 : St) (x1 : Int32) (res : Int32 × St) (hf : f_X7_strike N S7 S5 x1 = some res) : Met l yX7_strike wsX7_strike { frames := 1, cells := 0, slots := 0, locals := 22 } (rwP g (wd_7_5 g S7 S5) sz [.ref (g.2.2.1 7), .int x1]) (rwQi g (wd_7_5 g S7 (res.2)) (va_A (wd_7_5 g S7 S5) sz) (res.1)) 0 0 (va_A (wd_7_5 g S7 S5) sz) := by
  refine Met.ofW (cc := cX7_strike) (maxL := 2) (ret := (some .int)) (by decide) rfl ?_
  intro p e s m args below meth c s₁ B hml hv
  obtain ⟨rfl, hsz, hP, hK, hD0⟩ := hv
  have hx := B.exec
  have hb := B.bytes
  have hr := B.returns
  have hts := atoms_spec (ws := wsX7_strike) B.pre
  have hown : s.vm.findClass RX7 = some m.cls := findClass_of_methodNamed B.named
  have hlk := B.notSynchronized
  subst hsz
  have hD := hD0.self (sz := s.heap.size)
  generalize hAe : va_A (wd_7_5 g S7 S5) s.heap.size = A at hD ⊢
  have hA : ∀ q : Nat, s.heap.size ≤ q → A q := fun q h => by rw [← hAe]; exact Or.inr h
  have hS : va_S A s.heap s.heap [] := va_S.rf
  have C : cxw g A cX7_strike 2 (some .int) wsX7_strike RX7 p s m ([.ref (g.2.2.1 7), .int x1] : List Value).toArray meth c := ⟨⟨hx, hb, hr, hml, hown, hts, hlk⟩, hK, hA⟩
  have hl := lv_entry [.ref (g.2.2.1 7), .int x1] (n := 2) (Nat.le_of_ble_eq_true rfl)
  rw [lg_entry_eq]
  generalize (lg_sl [.ref (g.2.2.1 7), .int x1] ++ List.replicate (2 - (lg_sl [.ref (g.2.2.1 7), .int x1]).length) Slot.unset).toArray = ls at hl ⊢
  have hl : lv_has ls 2 [(0, .ref (g.2.2.1 7)), (1, .int x1)] := hl
  unfold f_X7_strike at hf
  suffices K9 : ∀ (H : Heap) (locs : List Loc), va_P g.1 vwCl (wd_7_5 g S7 S5) H → va_D A (wd_7_5 g S7 S5) → va_S A s.heap H locs → ((f_X5_has N S5 x1).bind (fun r5 => (if r5 = 0 then some ((-1), S5) else ((f_X5_isStruck N S5 x1).bind (fun r18 => (if r18 = 0 then ((f_X5_strikeOn N S5 x1 (S7.1 8)).bind (fun r36 => some (1, r36))) else some ((-4), S5))))))) = some res → W p l e (headSpec wsX7_strike { frames := 1, cells := 0, slots := 0, locals := 22 }).room s m ([.ref (g.2.2.1 7), .int x1] : List Value).toArray below meth c H locs 0 0 (MQ below (rwQi g (wd_7_5 g S7 (res.2)) A (res.1)) ([.ref (g.2.2.1 7), .int x1] : List Value).toArray s 0 0 A) (F0 m 0 ls []) from K9 s.heap [] hP hD hS hf
  clear hP hD hS hf
  intro H locs hP hD hS hf
  refine lv_aload_n (pc := 0) hx hb dX7_strike_0 rfl (lv_at hl 0 rfl) ?_
  refine va_get (D := g.1) (ci := 7) (v := .ref (g.2.2.1 5)) (C := RX7) (T := TX7) (N := 13) (pc := 1) hx hb hts (fun _ h => List.mem_cons_of_mem _ (List.mem_append_left _ (List.mem_append_right _ h))) hown hK hP 0 rfl rfl 0 (by decide) (hts _ q_X7_strike_0) (fun _ h9 => h9) rfl dX7_strike_1 ?_
  refine lv_iload_n (pc := 4) hx hb dX7_strike_4 rfl (lv_at hl 1 rfl) ?_
  obtain ⟨r5, e5, hf⟩ := bdE hf
  refine krI (g := g) (wc := (wd_5 g S5)) (pc := 5) (As := [.int x1]) (rest := []) ⟨hx, hb, hml, hown, hts⟩ (c_X5_has l g N S5 x1 r5 e5) (cwV 1 hts gX7_strike_X5_has rfl rfl rfl h_X5_has ⟨Nat.le_of_ble_eq_true rfl, Nat.le_of_ble_eq_true rfl⟩) hK (hP.sub (ws' := (wd_5 g S5)) [2, 3, 4, 5, 6, 7, 8, 9, 10, 11] rfl) rfl rfl rfl hl.1 rfl (Nat.le_of_ble_eq_true rfl) dX7_strike_5 ⟨Nat.zero_le _, Nat.zero_le _⟩ ?_
  refine lv_if_ne (tgt := 13) (pc := 8) hx hb dX7_strike_8 (by decide) (fun c8 => ?_) (fun c8 => ?_)
  · have hf := ff hf c8
    refine lv_aload_n (pc := 13) hx hb dX7_strike_13 rfl (lv_at hl 0 rfl) ?_
    refine va_get (D := g.1) (ci := 7) (v := .ref (g.2.2.1 5)) (C := RX7) (T := TX7) (N := 13) (pc := 14) hx hb hts (fun _ h => List.mem_cons_of_mem _ (List.mem_append_left _ (List.mem_append_right _ h))) hown hK hP 0 rfl rfl 0 (by decide) (hts _ q_X7_strike_0) (fun _ h9 => h9) rfl dX7_strike_14 ?_
    refine lv_iload_n (pc := 17) hx hb dX7_strike_17 rfl (lv_at hl 1 rfl) ?_
    obtain ⟨r18, e18, hf⟩ := bdE hf
    refine krI (g := g) (wc := (wd_5 g S5)) (pc := 18) (As := [.int x1]) (rest := []) ⟨hx, hb, hml, hown, hts⟩ (c_X5_isStruck l g N S5 x1 r18 e18) (cwV 1 hts gX7_strike_X5_isStruck rfl rfl rfl h_X5_isStruck ⟨Nat.le_of_ble_eq_true rfl, Nat.le_of_ble_eq_true rfl⟩) hK (hP.sub (ws' := (wd_5 g S5)) [2, 3, 4, 5, 6, 7, 8, 9, 10, 11] rfl) rfl rfl rfl hl.1 rfl (Nat.le_of_ble_eq_true rfl) dX7_strike_18 ⟨Nat.zero_le _, Nat.zero_le _⟩ ?_
    refine lv_if_eq (tgt := 27) (pc := 21) hx hb dX7_strike_21 (by decide) (fun c21 => ?_) (fun c21 => ?_)
    · have hf := ft hf c21
      refine lv_aload_n (pc := 27) hx hb dX7_strike_27 rfl (lv_at hl 0 rfl) ?_
      refine va_get (D := g.1) (ci := 7) (v := .ref (g.2.2.1 5)) (C := RX7) (T := TX7) (N := 13) (pc := 28) hx hb hts (fun _ h => List.mem_cons_of_mem _ (List.mem_append_left _ (List.mem_append_right _ h))) hown hK hP 0 rfl rfl 0 (by decide) (hts _ q_X7_strike_0) (fun _ h9 => h9) rfl dX7_strike_28 ?_
      refine lv_iload_n (pc := 31) hx hb dX7_strike_31 rfl (lv_at hl 1 rfl) ?_
      refine lv_aload_n (pc := 32) hx hb dX7_strike_32 rfl (lv_at hl 0 rfl) ?_
      refine va_get (D := g.1) (ci := 7) (v := .int (S7.1 8)) (C := RX7) (T := TX7) (N := 13) (pc := 33) hx hb hts (fun _ h => List.mem_cons_of_mem _ (List.mem_append_left _ (List.mem_append_right _ h))) hown hK hP 0 rfl rfl 8 (by decide) (hts _ q_X7_strike_1) (fun _ h9 => h9) rfl dX7_strike_33 ?_
      obtain ⟨r36, e36, hf⟩ := bdE hf
      refine kwV (g := g) (A := A) (W0 := (wd_7_5 g S7 S5)) (wc := (wd_5 g S5)) (wr := (wd_7 g S7)) (w1 := (wd_5 g r36)) (W1 := (wd_7_5 g S7 r36)) (pc := 36) (As := [.int x1, .int (S7.1 8)]) (rest := []) ⟨hx, hb, hml, hown, hts⟩ hK hA hP hD hS (c_X5_strikeOn l g N H.size S5 x1 (S7.1 8) r36 e36) (cwV 2 hts gX7_strike_X5_strikeOn rfl rfl rfl h_X5_strikeOn ⟨Nat.le_of_ble_eq_true rfl, Nat.le_of_ble_eq_true rfl⟩) [2, 3, 4, 5, 6, 7, 8, 9, 10, 11] [0, 1] [0, 1, 2, 3, 4, 5, 6, 7, 8, 9, 10, 11] rfl rfl rfl rfl rfl (by decide) rfl rfl rfl rfl rfl rfl hl.1 rfl (Nat.le_of_ble_eq_true rfl) dX7_strike_36 ⟨Nat.zero_le _, Nat.zero_le _⟩ (fun H locs hP hD hS => ?_)
      refine lv_iconst (v := 1) (pc := 39) hx hb dX7_strike_39 (by decide) ?_
      have hf := Option.some.inj hf
      subst hf
      exact W.iret (v := 1) hx hb hr (fun t ht hW => ⟨⟨_, (), rfl, rfl, by rw [ht]; exact hP, va_K.moved hW.alike hK, hD⟩, hS.F ht⟩) hS.2.2 dX7_strike_40
    · have hf := ff hf c21
      refine lv_bipush (v := (-4)) (pc := 24) hx hb dX7_strike_24 (by decide) ?_
      have hf := Option.some.inj hf
      subst hf
      exact W.iret (v := (-4)) hx hb hr (fun t ht hW => ⟨⟨_, (), rfl, rfl, by rw [ht]; exact hP, va_K.moved hW.alike hK, hD⟩, hS.F ht⟩) hS.2.2 dX7_strike_26
  · have hf := ft hf c8
    refine lv_iconst (v := (-1)) (pc := 11) hx hb dX7_strike_11 (by decide) ?_
    have hf := Option.some.inj hf
    subst hf
    exact W.iret (v := (-1)) hx hb hr (fun t ht hW => ⟨⟨_, (), rfl, rfl, by rw [ht]; exact hP, va_K.moved hW.alike hK, hD⟩, hS.F ht⟩) hS.2.2 dX7_strike_12
theorem q_X7_told_0 : (.fieldLink RX7 10 "PictureCourt" "proofs" "LPictureCourt$Proofs;" : Cond) ∈ wsX7_told := by decide +kernel
theorem h_X7_told : yX7_told.cls = RX7 ∧ yX7_told.cls ≠ "java/lang/invoke/MethodHandle" ∧ yX7_told.cls ≠ "java/lang/invoke/VarHandle" ∧ (parseMethodDescriptor yX7_told.desc).map (fun d => d.parameters.length) = some 2 := by decide +kernel
set_option maxHeartbeats 4000000 in
set_option maxRecDepth 100000 in
theorem c_X7_told (l : Launch) (g : En) (N : Nat) (S7 : St) (S5 : St) (S6 : St) (x1 : Int32) (x2 : Int32) (res : Int32) (hf : f_X7_told N S7 S5 S6 x1 x2 = some res) : Met l yX7_told wsX7_told { frames := 6, cells := 0, slots := 0, locals := 145 } (roP g (wd_7_5_6 g S7 S5 S6) [.ref (g.2.2.1 7), .int x1, .int x2]) (vp_Si (fun r => r = res)) 0 0 (fun _ => False) := by
  refine Met.ofW (cc := cX7_told) (maxL := 3) (ret := (some .int)) (by decide) rfl ?_
  intro p e s m args below meth c s₁ B hml hv
  obtain ⟨rfl, hP, hK⟩ := hv
  have hx := B.exec
  have hb := B.bytes
  have hr := B.returns
  have hts := atoms_spec (ws := wsX7_told) B.pre
  have hown : s.vm.findClass RX7 = some m.cls := findClass_of_methodNamed B.named
  have hlk := B.notSynchronized
  have C : cxr g (wd_7_5_6 g S7 S5 S6) cX7_told 3 (some .int) wsX7_told RX7 p s m ([.ref (g.2.2.1 7), .int x1, .int x2] : List Value).toArray meth c := ⟨⟨hx, hb, hr, hml, hown, hts, hlk⟩, hK, hP⟩
  have hl := lv_entry [.ref (g.2.2.1 7), .int x1, .int x2] (n := 3) (Nat.le_of_ble_eq_true rfl)
  rw [lg_entry_eq]
  generalize (lg_sl [.ref (g.2.2.1 7), .int x1, .int x2] ++ List.replicate (3 - (lg_sl [.ref (g.2.2.1 7), .int x1, .int x2]).length) Slot.unset).toArray = ls at hl ⊢
  have hl : lv_has ls 3 [(0, .ref (g.2.2.1 7)), (1, .int x1), (2, .int x2)] := hl
  unfold f_X7_told at hf
  refine lv_aload_n (pc := 0) hx hb dX7_told_0 rfl (lv_at hl 0 rfl) ?_
  refine va_get (D := g.1) (ci := 7) (v := .ref (g.2.2.1 5)) (C := RX7) (T := TX7) (N := 13) (pc := 1) hx hb hts (fun _ h => List.mem_cons_of_mem _ (List.mem_append_left _ (List.mem_append_left _ (List.mem_append_right _ h)))) hown hK hP 0 rfl rfl 0 (by decide) (hts _ q_X7_told_0) (fun _ h9 => h9) rfl dX7_told_1 ?_
  refine lv_iload_n (pc := 4) hx hb dX7_told_4 rfl (lv_at hl 1 rfl) ?_
  obtain ⟨r5, e5, hf⟩ := bdE hf
  refine krI (g := g) (wc := (wd_5 g S5)) (pc := 5) (As := [.int x1]) (rest := []) ⟨hx, hb, hml, hown, hts⟩ (c_X5_has l g N S5 x1 r5 e5) (cwV 1 hts gX7_told_X5_has rfl rfl rfl h_X5_has ⟨Nat.le_of_ble_eq_true rfl, Nat.le_of_ble_eq_true rfl⟩) hK (hP.sub (ws' := (wd_5 g S5)) [2, 3, 4, 5, 6, 7, 8, 9, 10, 11] rfl) rfl rfl rfl hl.1 rfl (Nat.le_of_ble_eq_true rfl) dX7_told_5 ⟨Nat.zero_le _, Nat.zero_le _⟩ ?_
  refine lv_if_eq (tgt := 20) (pc := 8) hx hb dX7_told_8 (by decide) (fun c8 => ?_) (fun c8 => ?_)
  · have hf := ft hf c8
    refine lv_iconst (v := (-1)) (pc := 20) hx hb dX7_told_20 (by decide) ?_
    have hf := Option.some.inj hf
    subst hf
    exact W.iret (v := (-1)) hx hb hr (fun t ht hW => ⟨_, rfl, rfl, ht⟩) (fun _ h => by cases h) dX7_told_21
  · have hf := ff hf c8
    refine lv_iload_n (pc := 11) hx hb dX7_told_11 rfl (lv_at hl 2 rfl) ?_
    refine lv_iconst (v := 0) (pc := 12) hx hb dX7_told_12 (by decide) ?_
    refine lv_iconst (v := 5) (pc := 13) hx hb dX7_told_13 (by decide) ?_
    obtain ⟨r14, e14, hf⟩ := bdE hf
    refine ksI (pc := 14) (As := [.int x2, .int 0, .int 5]) (rest := []) ⟨hx, hb, hml, hown, hts⟩ (c_X7_isWithin l N x2 0 5 r14 e14) (va_cwS 3 hts gX7_told_X7_isWithin rfl rfl rfl h_X7_isWithin ⟨Nat.le_of_ble_eq_true rfl, Nat.le_of_ble_eq_true rfl⟩) rfl hl.1 rfl (Nat.le_of_ble_eq_true rfl) dX7_told_14 ⟨Nat.zero_le _, Nat.zero_le _⟩ ?_
    refine lv_if_ne (tgt := 22) (pc := 17) hx hb dX7_told_17 (by decide) (fun c17 => ?_) (fun c17 => ?_)
    · have hf := ff hf c17
      refine lv_aload_n (pc := 22) hx hb dX7_told_22 rfl (lv_at hl 0 rfl) ?_
      refine va_get (D := g.1) (ci := 7) (v := .ref (g.2.2.1 5)) (C := RX7) (T := TX7) (N := 13) (pc := 23) hx hb hts (fun _ h => List.mem_cons_of_mem _ (List.mem_append_left _ (List.mem_append_left _ (List.mem_append_right _ h)))) hown hK hP 0 rfl rfl 0 (by decide) (hts _ q_X7_told_0) (fun _ h9 => h9) rfl dX7_told_23 ?_
      refine lv_iload_n (pc := 26) hx hb dX7_told_26 rfl (lv_at hl 1 rfl) ?_
      refine lv_iload_n (pc := 27) hx hb dX7_told_27 rfl (lv_at hl 2 rfl) ?_
      obtain ⟨r28, e28, hf⟩ := bdE hf
      refine krI (g := g) (wc := (wd_5_6 g S5 S6)) (pc := 28) (As := [.int x1, .int x2]) (rest := []) ⟨hx, hb, hml, hown, hts⟩ (c_X5_detail l g N S5 S6 x1 x2 r28 e28) (cwV 2 hts gX7_told_X5_detail rfl rfl rfl h_X5_detail ⟨Nat.le_of_ble_eq_true rfl, Nat.le_of_ble_eq_true rfl⟩) hK (hP.sub (ws' := (wd_5_6 g S5 S6)) [2, 3, 4, 5, 6, 7, 8, 9, 10, 11, 12, 13, 14] rfl) rfl rfl rfl hl.1 rfl (Nat.le_of_ble_eq_true rfl) dX7_told_28 ⟨Nat.zero_le _, Nat.zero_le _⟩ ?_
      have hf := Option.some.inj hf
      subst hf
      exact W.iret (v := r28) hx hb hr (fun t ht hW => ⟨_, rfl, rfl, ht⟩) (fun _ h => by cases h) dX7_told_31
    · have hf := ft hf c17
      refine lv_iconst (v := (-1)) (pc := 20) hx hb dX7_told_20 (by decide) ?_
      have hf := Option.some.inj hf
      subst hf
      exact W.iret (v := (-1)) hx hb hr (fun t ht hW => ⟨_, rfl, rfl, ht⟩) (fun _ h => by cases h) dX7_told_21
theorem q_X7_mark_0 : (.fieldLink RX7 10 "PictureCourt" "proofs" "LPictureCourt$Proofs;" : Cond) ∈ wsX7_mark := by decide +kernel
theorem h_X7_mark : yX7_mark.cls = RX7 ∧ yX7_mark.cls ≠ "java/lang/invoke/MethodHandle" ∧ yX7_mark.cls ≠ "java/lang/invoke/VarHandle" ∧ (parseMethodDescriptor yX7_mark.desc).map (fun d => d.parameters.length) = some 2 := by decide +kernel
set_option maxHeartbeats 4000000 in
set_option maxRecDepth 100000 in
theorem c_X7_mark (l : Launch) (g : En) (N : Nat) (sz : Nat) (S7 : St) (S5 : St) (S6 : St) (x1 : Int32) (x2 : Int32) (res : Int32 × St) (hf : f_X7_mark N S7 S5 S6 x1 x2 = some res) : Met l yX7_mark wsX7_mark { frames := 6, cells := 0, slots := 0, locals := 145 } (rwP g (wd_7_5_6 g S7 S5 S6) sz [.ref (g.2.2.1 7), .int x1, .int x2]) (rwQi g (wd_7_5_6 g (res.2) S5 S6) (va_A (wd_7_5_6 g S7 S5 S6) sz) (res.1)) 0 0 (va_A (wd_7_5_6 g S7 S5 S6) sz) := by
  refine Met.ofW (cc := cX7_mark) (maxL := 3) (ret := (some .int)) (by decide) rfl ?_
  intro p e s m args below meth c s₁ B hml hv
  obtain ⟨rfl, hsz, hP, hK, hD0⟩ := hv
  have hx := B.exec
  have hb := B.bytes
  have hr := B.returns
  have hts := atoms_spec (ws := wsX7_mark) B.pre
  have hown : s.vm.findClass RX7 = some m.cls := findClass_of_methodNamed B.named
  have hlk := B.notSynchronized
  subst hsz
  have hD := hD0.self (sz := s.heap.size)
  generalize hAe : va_A (wd_7_5_6 g S7 S5 S6) s.heap.size = A at hD ⊢
  have hA : ∀ q : Nat, s.heap.size ≤ q → A q := fun q h => by rw [← hAe]; exact Or.inr h
  have hS : va_S A s.heap s.heap [] := va_S.rf
  have C : cxw g A cX7_mark 3 (some .int) wsX7_mark RX7 p s m ([.ref (g.2.2.1 7), .int x1, .int x2] : List Value).toArray meth c := ⟨⟨hx, hb, hr, hml, hown, hts, hlk⟩, hK, hA⟩
  have hl := lv_entry [.ref (g.2.2.1 7), .int x1, .int x2] (n := 3) (Nat.le_of_ble_eq_true rfl)
  rw [lg_entry_eq]
  generalize (lg_sl [.ref (g.2.2.1 7), .int x1, .int x2] ++ List.replicate (3 - (lg_sl [.ref (g.2.2.1 7), .int x1, .int x2]).length) Slot.unset).toArray = ls at hl ⊢
  have hl : lv_has ls 3 [(0, .ref (g.2.2.1 7)), (1, .int x1), (2, .int x2)] := hl
  unfold f_X7_mark at hf
  suffices K9 : ∀ (H : Heap) (locs : List Loc), va_P g.1 vwCl (wd_7_5_6 g S7 S5 S6) H → va_D A (wd_7_5_6 g S7 S5 S6) → va_S A s.heap H locs → ((f_X5_has N S5 x1).bind (fun r5 => (if r5 = 0 then some ((-1), S7) else ((f_X7_isWithin N x2 0 3).bind (fun r14 => (if r14 = 0 then some ((-1), S7) else ((f_X5_isOfKind N S5 x1 x2).bind (fun r28 => (if r28 = 0 then ((f_X7_refuse N S7 3).bind (fun r36 => some ((r36.1), (r36.2)))) else ((f_X5_markAs N S5 S6 x1 x2).bind (fun r46 => some (r46, S7)))))))))))) = some res → W p l e (headSpec wsX7_mark { frames := 6, cells := 0, slots := 0, locals := 145 }).room s m ([.ref (g.2.2.1 7), .int x1, .int x2] : List Value).toArray below meth c H locs 0 0 (MQ below (rwQi g (wd_7_5_6 g (res.2) S5 S6) A (res.1)) ([.ref (g.2.2.1 7), .int x1, .int x2] : List Value).toArray s 0 0 A) (F0 m 0 ls []) from K9 s.heap [] hP hD hS hf
  clear hP hD hS hf
  intro H locs hP hD hS hf
  refine lv_aload_n (pc := 0) hx hb dX7_mark_0 rfl (lv_at hl 0 rfl) ?_
  refine va_get (D := g.1) (ci := 7) (v := .ref (g.2.2.1 5)) (C := RX7) (T := TX7) (N := 13) (pc := 1) hx hb hts (fun _ h => List.mem_cons_of_mem _ (List.mem_append_left _ (List.mem_append_left _ (List.mem_append_right _ h)))) hown hK hP 0 rfl rfl 0 (by decide) (hts _ q_X7_mark_0) (fun _ h9 => h9) rfl dX7_mark_1 ?_
  refine lv_iload_n (pc := 4) hx hb dX7_mark_4 rfl (lv_at hl 1 rfl) ?_
  obtain ⟨r5, e5, hf⟩ := bdE hf
  refine krI (g := g) (wc := (wd_5 g S5)) (pc := 5) (As := [.int x1]) (rest := []) ⟨hx, hb, hml, hown, hts⟩ (c_X5_has l g N S5 x1 r5 e5) (cwV 1 hts gX7_mark_X5_has rfl rfl rfl h_X5_has ⟨Nat.le_of_ble_eq_true rfl, Nat.le_of_ble_eq_true rfl⟩) hK (hP.sub (ws' := (wd_5 g S5)) [2, 3, 4, 5, 6, 7, 8, 9, 10, 11] rfl) rfl rfl rfl hl.1 rfl (Nat.le_of_ble_eq_true rfl) dX7_mark_5 ⟨Nat.zero_le _, Nat.zero_le _⟩ ?_
  refine lv_if_eq (tgt := 20) (pc := 8) hx hb dX7_mark_8 (by decide) (fun c8 => ?_) (fun c8 => ?_)
  · have hf := ft hf c8
    refine lv_iconst (v := (-1)) (pc := 20) hx hb dX7_mark_20 (by decide) ?_
    have hf := Option.some.inj hf
    subst hf
    exact W.iret (v := (-1)) hx hb hr (fun t ht hW => ⟨⟨_, (), rfl, rfl, by rw [ht]; exact hP, va_K.moved hW.alike hK, hD⟩, hS.F ht⟩) hS.2.2 dX7_mark_21
  · have hf := ff hf c8
    refine lv_iload_n (pc := 11) hx hb dX7_mark_11 rfl (lv_at hl 2 rfl) ?_
    refine lv_iconst (v := 0) (pc := 12) hx hb dX7_mark_12 (by decide) ?_
    refine lv_iconst (v := 3) (pc := 13) hx hb dX7_mark_13 (by decide) ?_
    obtain ⟨r14, e14, hf⟩ := bdE hf
    refine ksI (pc := 14) (As := [.int x2, .int 0, .int 3]) (rest := []) ⟨hx, hb, hml, hown, hts⟩ (c_X7_isWithin l N x2 0 3 r14 e14) (va_cwS 3 hts gX7_mark_X7_isWithin rfl rfl rfl h_X7_isWithin ⟨Nat.le_of_ble_eq_true rfl, Nat.le_of_ble_eq_true rfl⟩) rfl hl.1 rfl (Nat.le_of_ble_eq_true rfl) dX7_mark_14 ⟨Nat.zero_le _, Nat.zero_le _⟩ ?_
    refine lv_if_ne (tgt := 22) (pc := 17) hx hb dX7_mark_17 (by decide) (fun c17 => ?_) (fun c17 => ?_)
    · have hf := ff hf c17
      refine lv_aload_n (pc := 22) hx hb dX7_mark_22 rfl (lv_at hl 0 rfl) ?_
      refine va_get (D := g.1) (ci := 7) (v := .ref (g.2.2.1 5)) (C := RX7) (T := TX7) (N := 13) (pc := 23) hx hb hts (fun _ h => List.mem_cons_of_mem _ (List.mem_append_left _ (List.mem_append_left _ (List.mem_append_right _ h)))) hown hK hP 0 rfl rfl 0 (by decide) (hts _ q_X7_mark_0) (fun _ h9 => h9) rfl dX7_mark_23 ?_
      refine lv_iload_n (pc := 26) hx hb dX7_mark_26 rfl (lv_at hl 1 rfl) ?_
      refine lv_iload_n (pc := 27) hx hb dX7_mark_27 rfl (lv_at hl 2 rfl) ?_
      obtain ⟨r28, e28, hf⟩ := bdE hf
      refine krI (g := g) (wc := (wd_5 g S5)) (pc := 28) (As := [.int x1, .int x2]) (rest := []) ⟨hx, hb, hml, hown, hts⟩ (c_X5_isOfKind l g N S5 x1 x2 r28 e28) (cwV 2 hts gX7_mark_X5_isOfKind rfl rfl rfl h_X5_isOfKind ⟨Nat.le_of_ble_eq_true rfl, Nat.le_of_ble_eq_true rfl⟩) hK (hP.sub (ws' := (wd_5 g S5)) [2, 3, 4, 5, 6, 7, 8, 9, 10, 11] rfl) rfl rfl rfl hl.1 rfl (Nat.le_of_ble_eq_true rfl) dX7_mark_28 ⟨Nat.zero_le _, Nat.zero_le _⟩ ?_
      refine lv_if_ne (tgt := 40) (pc := 31) hx hb dX7_mark_31 (by decide) (fun c31 => ?_) (fun c31 => ?_)
      · have hf := ff hf c31
        refine lv_aload_n (pc := 40) hx hb dX7_mark_40 rfl (lv_at hl 0 rfl) ?_
        refine va_get (D := g.1) (ci := 7) (v := .ref (g.2.2.1 5)) (C := RX7) (T := TX7) (N := 13) (pc := 41) hx hb hts (fun _ h => List.mem_cons_of_mem _ (List.mem_append_left _ (List.mem_append_left _ (List.mem_append_right _ h)))) hown hK hP 0 rfl rfl 0 (by decide) (hts _ q_X7_mark_0) (fun _ h9 => h9) rfl dX7_mark_41 ?_
        refine lv_iload_n (pc := 44) hx hb dX7_mark_44 rfl (lv_at hl 1 rfl) ?_
        refine lv_iload_n (pc := 45) hx hb dX7_mark_45 rfl (lv_at hl 2 rfl) ?_
        obtain ⟨r46, e46, hf⟩ := bdE hf
        refine krI (g := g) (wc := (wd_5_6 g S5 S6)) (pc := 46) (As := [.int x1, .int x2]) (rest := []) ⟨hx, hb, hml, hown, hts⟩ (c_X5_markAs l g N S5 S6 x1 x2 r46 e46) (cwV 2 hts gX7_mark_X5_markAs rfl rfl rfl h_X5_markAs ⟨Nat.le_of_ble_eq_true rfl, Nat.le_of_ble_eq_true rfl⟩) hK (hP.sub (ws' := (wd_5_6 g S5 S6)) [2, 3, 4, 5, 6, 7, 8, 9, 10, 11, 12, 13, 14] rfl) rfl rfl rfl hl.1 rfl (Nat.le_of_ble_eq_true rfl) dX7_mark_46 ⟨Nat.zero_le _, Nat.zero_le _⟩ ?_
        have hf := Option.some.inj hf
        subst hf
        exact W.iret (v := r46) hx hb hr (fun t ht hW => ⟨⟨_, (), rfl, rfl, by rw [ht]; exact hP, va_K.moved hW.alike hK, hD⟩, hS.F ht⟩) hS.2.2 dX7_mark_49
      · have hf := ft hf c31
        refine lv_aload_n (pc := 34) hx hb dX7_mark_34 rfl (lv_at hl 0 rfl) ?_
        refine lv_iconst (v := 3) (pc := 35) hx hb dX7_mark_35 (by decide) ?_
        obtain ⟨r36, e36, hf⟩ := bdE hf
        refine kwI (g := g) (A := A) (W0 := (wd_7_5_6 g S7 S5 S6)) (wc := (wd_7 g S7)) (wr := (wd_5_6 g S5 S6)) (w1 := (wd_7 g (r36.2))) (W1 := (wd_7_5_6 g (r36.2) S5 S6)) (pc := 36) (As := [.int 3]) (rest := []) ⟨hx, hb, hml, hown, hts⟩ hK hA hP hD hS (c_X7_refuse l g N H.size S7 3 r36 e36) (cwV 1 hts gX7_mark_X7_refuse rfl rfl rfl h_X7_refuse ⟨Nat.le_of_ble_eq_true rfl, Nat.le_of_ble_eq_true rfl⟩) [0, 1] [2, 3, 4, 5, 6, 7, 8, 9, 10, 11, 12, 13, 14] [13, 14, 0, 1, 2, 3, 4, 5, 6, 7, 8, 9, 10, 11, 12] rfl rfl rfl rfl rfl (by decide) rfl rfl rfl rfl rfl rfl hl.1 rfl (Nat.le_of_ble_eq_true rfl) dX7_mark_36 ⟨Nat.zero_le _, Nat.zero_le _⟩ (fun H locs hP hD hS => ?_)
        have hf := Option.some.inj hf
        subst hf
        exact W.iret (v := (r36.1)) hx hb hr (fun t ht hW => ⟨⟨_, (), rfl, rfl, by rw [ht]; exact hP, va_K.moved hW.alike hK, hD⟩, hS.F ht⟩) hS.2.2 dX7_mark_39
    · have hf := ft hf c17
      refine lv_iconst (v := (-1)) (pc := 20) hx hb dX7_mark_20 (by decide) ?_
      have hf := Option.some.inj hf
      subst hf
      exact W.iret (v := (-1)) hx hb hr (fun t ht hW => ⟨⟨_, (), rfl, rfl, by rw [ht]; exact hP, va_K.moved hW.alike hK, hD⟩, hS.F ht⟩) hS.2.2 dX7_mark_21
theorem h_X7_isDay : yX7_isDay.cls ≠ "java/lang/invoke/MethodHandle" ∧ yX7_isDay.cls ≠ "java/lang/invoke/VarHandle" ∧ (parseMethodDescriptor yX7_isDay.desc).map (fun d => d.parameters.length) = some 1 := by decide +kernel
set_option maxHeartbeats 4000000 in
set_option maxRecDepth 100000 in
theorem c_X7_isDay (l : Launch) (N : Nat) (x0 : Int32) (res : Int32) (hf : f_X7_isDay N x0 = some res) : Met l yX7_isDay wsX7_isDay { frames := 1, cells := 0, slots := 0, locals := 22 } (va_Pc [.int x0] (fun _ => True)) (vp_Si (fun r => r = res)) 0 0 (fun _ => False) := by
  refine Met.ofW (cc := cX7_isDay) (maxL := 1) (ret := (some .boolean)) (by decide) rfl ?_
  intro p e s m args below meth c s₁ B hml hv
  obtain ⟨rfl, -⟩ := hv
  have hx := B.exec
  have hb := B.bytes
  have hr := B.returns
  have hts := atoms_spec (ws := wsX7_isDay) B.pre
  have hown : s.vm.findClass RX7 = some m.cls := findClass_of_methodNamed B.named
  have hlk := B.notSynchronized
  have C : cxs cX7_isDay 1 (some .boolean) wsX7_isDay RX7 p s m ([.int x0] : List Value).toArray meth c := ⟨hx, hb, hr, hml, hown, hts, hlk⟩
  have hl := lv_entry [.int x0] (n := 1) (Nat.le_of_ble_eq_true rfl)
  rw [lg_entry_eq]
  generalize (lg_sl [.int x0] ++ List.replicate (1 - (lg_sl [.int x0]).length) Slot.unset).toArray = ls at hl ⊢
  have hl : lv_has ls 1 [(0, .int x0)] := hl
  unfold f_X7_isDay at hf
  refine lv_iload_n (pc := 0) hx hb dX7_isDay_0 rfl (lv_at hl 0 rfl) ?_
  refine lv_iconst (v := 0) (pc := 1) hx hb dX7_isDay_1 (by decide) ?_
  refine lv_sipush (v := 30000) (pc := 2) hx hb dX7_isDay_2 (by decide) ?_
  obtain ⟨r5, e5, hf⟩ := bdE hf
  refine ksI (pc := 5) (As := [.int x0, .int 0, .int 30000]) (rest := []) ⟨hx, hb, hml, hown, hts⟩ (c_X7_isWithin l N x0 0 30000 r5 e5) (va_cwS 3 hts gX7_isDay_X7_isWithin rfl rfl rfl h_X7_isWithin ⟨Nat.le_of_ble_eq_true rfl, Nat.le_of_ble_eq_true rfl⟩) rfl hl.1 rfl (Nat.le_of_ble_eq_true rfl) dX7_isDay_5 ⟨Nat.zero_le _, Nat.zero_le _⟩ ?_
  obtain ⟨b8, hf⟩ := gdE hf
  have hf := Option.some.inj hf
  subst hf
  exact W.zret (v := r5) hx hb hr (z01V b8) (fun t ht hW => ⟨_, rfl, rfl, ht⟩) (fun _ h => by cases h) dX7_isDay_8
theorem q_X7_span_0 : (.fieldLink RX7 10 "PictureCourt" "proofs" "LPictureCourt$Proofs;" : Cond) ∈ wsX7_span := by decide +kernel
theorem q_X7_span_1 : (.fieldLink RX7 24 "PictureCourt" "known" "LPictureCourt$Known;" : Cond) ∈ wsX7_span := by decide +kernel
theorem h_X7_span : yX7_span.cls = RX7 ∧ yX7_span.cls ≠ "java/lang/invoke/MethodHandle" ∧ yX7_span.cls ≠ "java/lang/invoke/VarHandle" ∧ (parseMethodDescriptor yX7_span.desc).map (fun d => d.parameters.length) = some 2 := by decide +kernel
set_option maxHeartbeats 4000000 in
set_option maxRecDepth 100000 in
theorem c_X7_span (l : Launch) (g : En) (N : Nat) (sz : Nat) (S7 : St) (S5 : St) (S6 : St) (S1 : St) (x1 : Int32) (x2 : Int32) (res : Int32 × St) (hf : f_X7_span N S7 S5 S6 S1 x1 x2 = some res) : Met l yX7_span wsX7_span { frames := 6, cells := 0, slots := 0, locals := 146 } (rwP g (wd_7_5_6_1 g S7 S5 S6 S1) sz [.ref (g.2.2.1 7), .int x1, .int x2]) (rwQi g (wd_7_5_6_1 g S7 S5 S6 (res.2)) (va_A (wd_7_5_6_1 g S7 S5 S6 S1) sz) (res.1)) 0 0 (va_A (wd_7_5_6_1 g S7 S5 S6 S1) sz) := by
  refine Met.ofW (cc := cX7_span) (maxL := 5) (ret := (some .int)) (by decide) rfl ?_
  intro p e s m args below meth c s₁ B hml hv
  obtain ⟨rfl, hsz, hP, hK, hD0⟩ := hv
  have hx := B.exec
  have hb := B.bytes
  have hr := B.returns
  have hts := atoms_spec (ws := wsX7_span) B.pre
  have hown : s.vm.findClass RX7 = some m.cls := findClass_of_methodNamed B.named
  have hlk := B.notSynchronized
  subst hsz
  have hD := hD0.self (sz := s.heap.size)
  generalize hAe : va_A (wd_7_5_6_1 g S7 S5 S6 S1) s.heap.size = A at hD ⊢
  have hA : ∀ q : Nat, s.heap.size ≤ q → A q := fun q h => by rw [← hAe]; exact Or.inr h
  have hS : va_S A s.heap s.heap [] := va_S.rf
  have C : cxw g A cX7_span 5 (some .int) wsX7_span RX7 p s m ([.ref (g.2.2.1 7), .int x1, .int x2] : List Value).toArray meth c := ⟨⟨hx, hb, hr, hml, hown, hts, hlk⟩, hK, hA⟩
  have hl := lv_entry [.ref (g.2.2.1 7), .int x1, .int x2] (n := 5) (Nat.le_of_ble_eq_true rfl)
  rw [lg_entry_eq]
  generalize (lg_sl [.ref (g.2.2.1 7), .int x1, .int x2] ++ List.replicate (5 - (lg_sl [.ref (g.2.2.1 7), .int x1, .int x2]).length) Slot.unset).toArray = ls at hl ⊢
  have hl : lv_has ls 5 [(0, .ref (g.2.2.1 7)), (1, .int x1), (2, .int x2)] := hl
  unfold f_X7_span at hf
  suffices K9 : ∀ (H : Heap) (locs : List Loc), va_P g.1 vwCl (wd_7_5_6_1 g S7 S5 S6 S1) H → va_D A (wd_7_5_6_1 g S7 S5 S6 S1) → va_S A s.heap H locs → ((f_X7_isDay N x1).bind (fun r1 => (if r1 = 0 then some ((-1), S1) else ((f_X5_gather N S5 S6 S1 x1).bind (fun r18 => ((f_X1_firstCommonYear N r18).bind (fun r25 => ((f_X1_lastCommonYear N r18).bind (fun r33 => (if r25 ≤ r33 then (if x2 = 0 then some (r25, r18) else some (r33, r18)) else some ((-9), r18))))))))))) = some res → W p l e (headSpec wsX7_span { frames := 6, cells := 0, slots := 0, locals := 146 }).room s m ([.ref (g.2.2.1 7), .int x1, .int x2] : List Value).toArray below meth c H locs 0 0 (MQ below (rwQi g (wd_7_5_6_1 g S7 S5 S6 (res.2)) A (res.1)) ([.ref (g.2.2.1 7), .int x1, .int x2] : List Value).toArray s 0 0 A) (F0 m 0 ls []) from K9 s.heap [] hP hD hS hf
  clear hP hD hS hf
  intro H locs hP hD hS hf
  refine lv_iload_n (pc := 0) hx hb dX7_span_0 rfl (lv_at hl 1 rfl) ?_
  obtain ⟨r1, e1, hf⟩ := bdE hf
  refine ksI (pc := 1) (As := [.int x1]) (rest := []) ⟨hx, hb, hml, hown, hts⟩ (c_X7_isDay l N x1 r1 e1) (va_cwS 1 hts gX7_span_X7_isDay rfl rfl rfl h_X7_isDay ⟨Nat.le_of_ble_eq_true rfl, Nat.le_of_ble_eq_true rfl⟩) rfl hl.1 rfl (Nat.le_of_ble_eq_true rfl) dX7_span_1 ⟨Nat.zero_le _, Nat.zero_le _⟩ ?_
  refine lv_if_ne (tgt := 9) (pc := 4) hx hb dX7_span_4 (by decide) (fun c4 => ?_) (fun c4 => ?_)
  · have hf := ff hf c4
    refine lv_aload_n (pc := 9) hx hb dX7_span_9 rfl (lv_at hl 0 rfl) ?_
    refine va_get (D := g.1) (ci := 7) (v := .ref (g.2.2.1 5)) (C := RX7) (T := TX7) (N := 13) (pc := 10) hx hb hts (fun _ h => List.mem_cons_of_mem _ (List.mem_append_left _ (List.mem_append_left _ (List.mem_append_left _ (List.mem_append_right _ h))))) hown hK hP 0 rfl rfl 0 (by decide) (hts _ q_X7_span_0) (fun _ h9 => h9) rfl dX7_span_10 ?_
    refine lv_iload_n (pc := 13) hx hb dX7_span_13 rfl (lv_at hl 1 rfl) ?_
    refine lv_aload_n (pc := 14) hx hb dX7_span_14 rfl (lv_at hl 0 rfl) ?_
    refine va_get (D := g.1) (ci := 7) (v := .ref (g.2.2.1 1)) (C := RX7) (T := TX7) (N := 13) (pc := 15) hx hb hts (fun _ h => List.mem_cons_of_mem _ (List.mem_append_left _ (List.mem_append_left _ (List.mem_append_left _ (List.mem_append_right _ h))))) hown hK hP 0 rfl rfl 2 (by decide) (hts _ q_X7_span_1) (fun _ h9 => h9) rfl dX7_span_15 ?_
    obtain ⟨r18, e18, hf⟩ := bdE hf
    refine kwV (g := g) (A := A) (W0 := (wd_7_5_6_1 g S7 S5 S6 S1)) (wc := (wd_5_6_1 g S5 S6 S1)) (wr := (wd_7 g S7)) (w1 := (wd_5_6_1 g S5 S6 r18)) (W1 := (wd_7_5_6_1 g S7 S5 S6 r18)) (pc := 18) (As := [.int x1, .ref (g.2.2.1 1)]) (rest := []) ⟨hx, hb, hml, hown, hts⟩ hK hA hP hD hS (c_X5_gather l g N H.size S5 S6 S1 x1 r18 e18) (cwV 2 hts gX7_span_X5_gather rfl rfl rfl h_X5_gather ⟨Nat.le_of_ble_eq_true rfl, Nat.le_of_ble_eq_true rfl⟩) [2, 3, 4, 5, 6, 7, 8, 9, 10, 11, 12, 13, 14, 15, 16, 17, 18, 19] [0, 1] [0, 1, 2, 3, 4, 5, 6, 7, 8, 9, 10, 11, 12, 13, 14, 15, 16, 17, 18, 19] rfl rfl rfl rfl rfl (by decide) rfl rfl rfl rfl rfl rfl hl.1 rfl (Nat.le_of_ble_eq_true rfl) dX7_span_18 ⟨Nat.zero_le _, Nat.zero_le _⟩ (fun H locs hP hD hS => ?_)
    refine lv_aload_n (pc := 21) hx hb dX7_span_21 rfl (lv_at hl 0 rfl) ?_
    refine va_get (D := g.1) (ci := 7) (v := .ref (g.2.2.1 1)) (C := RX7) (T := TX7) (N := 13) (pc := 22) hx hb hts (fun _ h => List.mem_cons_of_mem _ (List.mem_append_left _ (List.mem_append_left _ (List.mem_append_left _ (List.mem_append_right _ h))))) hown hK hP 0 rfl rfl 2 (by decide) (hts _ q_X7_span_1) (fun _ h9 => h9) rfl dX7_span_22 ?_
    obtain ⟨r25, e25, hf⟩ := bdE hf
    refine krI (g := g) (wc := (wd_1 g r18)) (pc := 25) (As := []) (rest := []) ⟨hx, hb, hml, hown, hts⟩ (c_X1_firstCommonYear l g N r18 r25 e25) (cwV 0 hts gX7_span_X1_firstCommonYear rfl rfl rfl h_X1_firstCommonYear ⟨Nat.le_of_ble_eq_true rfl, Nat.le_of_ble_eq_true rfl⟩) hK (hP.sub (ws' := (wd_1 g r18)) [15, 16, 17, 18, 19] rfl) rfl rfl rfl hl.1 rfl (Nat.le_of_ble_eq_true rfl) dX7_span_25 ⟨Nat.zero_le _, Nat.zero_le _⟩ ?_
    refine lv_istore_n (lv' := [(3, .int r25), (0, .ref (g.2.2.1 7)), (1, .int x1), (2, .int x2)]) (pc := 28) hx hb dX7_span_28 rfl hl (by decide) rfl (fun ls hl => ?_)
    refine lv_aload_n (pc := 29) hx hb dX7_span_29 rfl (lv_at hl 1 rfl) ?_
    refine va_get (D := g.1) (ci := 7) (v := .ref (g.2.2.1 1)) (C := RX7) (T := TX7) (N := 13) (pc := 30) hx hb hts (fun _ h => List.mem_cons_of_mem _ (List.mem_append_left _ (List.mem_append_left _ (List.mem_append_left _ (List.mem_append_right _ h))))) hown hK hP 0 rfl rfl 2 (by decide) (hts _ q_X7_span_1) (fun _ h9 => h9) rfl dX7_span_30 ?_
    obtain ⟨r33, e33, hf⟩ := bdE hf
    refine krI (g := g) (wc := (wd_1 g r18)) (pc := 33) (As := []) (rest := []) ⟨hx, hb, hml, hown, hts⟩ (c_X1_lastCommonYear l g N r18 r33 e33) (cwV 0 hts gX7_span_X1_lastCommonYear rfl rfl rfl h_X1_lastCommonYear ⟨Nat.le_of_ble_eq_true rfl, Nat.le_of_ble_eq_true rfl⟩) hK (hP.sub (ws' := (wd_1 g r18)) [15, 16, 17, 18, 19] rfl) rfl rfl rfl hl.1 rfl (Nat.le_of_ble_eq_true rfl) dX7_span_33 ⟨Nat.zero_le _, Nat.zero_le _⟩ ?_
    refine lv_istore (lv' := [(4, .int r33), (3, .int r25), (0, .ref (g.2.2.1 7)), (1, .int x1), (2, .int x2)]) (pc := 36) hx hb dX7_span_36 hl (by decide) rfl (fun ls hl => ?_)
    refine lv_iload_n (pc := 38) hx hb dX7_span_38 rfl (lv_at hl 1 rfl) ?_
    refine lv_iload (pc := 39) hx hb dX7_span_39 (lv_at hl 0 rfl) ?_
    refine lv_icmp_le (tgt := 47) (pc := 41) hx hb dX7_span_41 (by decide) (fun c41 => ?_) (fun c41 => ?_)
    · have hf := ft hf c41
      refine lv_iload_n (pc := 47) hx hb dX7_span_47 rfl (lv_at hl 4 rfl) ?_
      refine lv_if_eq (tgt := 56) (pc := 48) hx hb dX7_span_48 (by decide) (fun c48 => ?_) (fun c48 => ?_)
      · have hf := ft hf c48
        refine lv_iload_n (pc := 56) hx hb dX7_span_56 rfl (lv_at hl 1 rfl) ?_
        have hf := Option.some.inj hf
        subst hf
        exact W.iret (v := r25) hx hb hr (fun t ht hW => ⟨⟨_, (), rfl, rfl, by rw [ht]; exact hP, va_K.moved hW.alike hK, hD⟩, hS.F ht⟩) hS.2.2 dX7_span_57
      · have hf := ff hf c48
        refine lv_iload (pc := 51) hx hb dX7_span_51 (lv_at hl 0 rfl) ?_
        refine lv_goto (tgt := 57) (pc := 53) hx hb dX7_span_53 (by decide) ?_
        have hf := Option.some.inj hf
        subst hf
        exact W.iret (v := r33) hx hb hr (fun t ht hW => ⟨⟨_, (), rfl, rfl, by rw [ht]; exact hP, va_K.moved hW.alike hK, hD⟩, hS.F ht⟩) hS.2.2 dX7_span_57
    · have hf := ff hf c41
      refine lv_bipush (v := (-9)) (pc := 44) hx hb dX7_span_44 (by decide) ?_
      have hf := Option.some.inj hf
      subst hf
      exact W.iret (v := (-9)) hx hb hr (fun t ht hW => ⟨⟨_, (), rfl, rfl, by rw [ht]; exact hP, va_K.moved hW.alike hK, hD⟩, hS.F ht⟩) hS.2.2 dX7_span_46
  · have hf := ft hf c4
    refine lv_iconst (v := (-1)) (pc := 7) hx hb dX7_span_7 (by decide) ?_
    have hf := Option.some.inj hf
    subst hf
    exact W.iret (v := (-1)) hx hb hr (fun t ht hW => ⟨⟨_, (), rfl, rfl, by rw [ht]; exact hP, va_K.moved hW.alike hK, hD⟩, hS.F ht⟩) hS.2.2 dX7_span_8
theorem q_X7_quarrel_0 : (.fieldLink RX7 24 "PictureCourt" "known" "LPictureCourt$Known;" : Cond) ∈ wsX7_quarrel := by decide +kernel
theorem q_X7_quarrel_1 : (.fieldLink RX7 197 "PictureCourt$Known" "size" "I" : Cond) ∈ wsX7_quarrel := by decide +kernel
theorem q_X7_quarrel_2 : (.fieldLink RX7 203 "PictureCourt$Known" "numbers" "[I" : Cond) ∈ wsX7_quarrel := by decide +kernel
theorem q_X7_quarrel_3 : (.fieldLink RX7 67 "PictureCourt" "askedNumber" "I" : Cond) ∈ wsX7_quarrel := by decide +kernel
theorem q_X7_quarrel_4 : (.fieldLink RX7 10 "PictureCourt" "proofs" "LPictureCourt$Proofs;" : Cond) ∈ wsX7_quarrel := by decide +kernel
theorem h_X7_quarrel : yX7_quarrel.cls = RX7 ∧ yX7_quarrel.cls ≠ "java/lang/invoke/MethodHandle" ∧ yX7_quarrel.cls ≠ "java/lang/invoke/VarHandle" ∧ (parseMethodDescriptor yX7_quarrel.desc).map (fun d => d.parameters.length) = some 1 := by decide +kernel
set_option maxHeartbeats 4000000 in
set_option maxRecDepth 100000 in
theorem w_X7_quarrel_23_b {p : Program} {l : Launch} {e : Env} {s : State} {m : MethodId} {args : Array Value} {below : List Frame} {meth : Method} {c : Code} {g : En} {A : Nat → Prop} {N : Nat} {S5 : St} {S6 : St} {res : Int32 × St × St} (C : cxw g A cX7_quarrel 4 (some .int) wsX7_quarrel RX7 p s m args meth c) (k23 : St → St → Int32 → Option (Int32 × St × St)) (H23 : ∀ (H : Heap) (locs : List Loc) (S7 : St) (S1 : St) (ls : Array Slot) (x2 : Int32), va_P g.1 vwCl (wd_7_5_6_1 g S7 S5 S6 S1) H → va_D A (wd_7_5_6_1 g S7 S5 S6 S1) → va_S A s.heap H locs → lv_has ls 4 [(0, .ref (g.2.2.1 7)), (2, .int x2)] → k23 S7 S1 x2 = some res → W p l e (headSpec wsX7_quarrel { frames := 6, cells := 0, slots := 0, locals := 146 }).room s m args below meth c H locs 0 0 (MQ below (rwQi g (wd_7_5_6_1 g (res.2.1) S5 S6 (res.2.2)) A (res.1)) args s 0 0 A) (F0 m 23 ls [])) : ∀ (H : Heap) (locs : List Loc) (S7 : St) (S1 : St) (ls : Array Slot) (x2 : Int32), va_P g.1 vwCl (wd_7_5_6_1 g S7 S5 S6 S1) H → va_D A (wd_7_5_6_1 g S7 S5 S6 S1) → va_S A s.heap H locs → lv_has ls 4 [(0, .ref (g.2.2.1 7)), (2, .int x2)] → f_X7_quarrel_23_b N S5 S6  k23 S7 S1 x2 = some res → W p l e (headSpec wsX7_quarrel { frames := 6, cells := 0, slots := 0, locals := 146 }).room s m args below meth c H locs 0 0 (MQ below (rwQi g (wd_7_5_6_1 g (res.2.1) S5 S6 (res.2.2)) A (res.1)) args s 0 0 A) (F0 m 23 ls []) := by
  intro H locs S7 S1 ls x2 hP hD hS hl hf
  obtain ⟨⟨hx, hb, hr, hml, hown, hts, hlk⟩, hK, hA⟩ := id C
  unfold f_X7_quarrel_23_b at hf
  refine lv_iload_n (pc := 23) hx hb dX7_quarrel_23 rfl (lv_at hl 1 rfl) ?_
  refine lv_aload_n (pc := 24) hx hb dX7_quarrel_24 rfl (lv_at hl 0 rfl) ?_
  refine va_get (D := g.1) (ci := 7) (v := .ref (g.2.2.1 1)) (C := RX7) (T := TX7) (N := 13) (pc := 25) hx hb hts (fun _ h => List.mem_cons_of_mem _ (List.mem_append_left _ (List.mem_append_left _ (List.mem_append_left _ (List.mem_append_right _ h))))) hown hK hP 0 rfl rfl 2 (by decide) (hts _ q_X7_quarrel_0) (fun _ h9 => h9) rfl dX7_quarrel_25 ?_
  refine va_get (D := g.1) (ci := 1) (v := .int (S1.1 4)) (C := RX1) (T := TX1) (N := 5) (pc := 28) hx hb hts (fun _ h => List.mem_cons_of_mem _ (List.mem_append_left _ (List.mem_append_left _ (List.mem_append_right _ h)))) hown hK hP 15 rfl rfl 4 (by decide) (hts _ q_X7_quarrel_1) (fun _ h9 => h9) rfl dX7_quarrel_28 ?_
  refine lv_icmp_ge (tgt := 78) (pc := 31) hx hb dX7_quarrel_31 (by decide) (fun c31 => ?_) (fun c31 => ?_)
  · have hf := ft hf c31
    refine lv_bipush (v := (-9)) (pc := 78) hx hb dX7_quarrel_78 (by decide) ?_
    have hf := Option.some.inj hf
    subst hf
    exact W.iret (v := (-9)) hx hb hr (fun t ht hW => ⟨⟨_, (), rfl, rfl, by rw [ht]; exact hP, va_K.moved hW.alike hK, hD⟩, hS.F ht⟩) hS.2.2 dX7_quarrel_80
  · have hf := ff hf c31
    refine lv_aload_n (pc := 34) hx hb dX7_quarrel_34 rfl (lv_at hl 0 rfl) ?_
    refine va_get (D := g.1) (ci := 7) (v := .ref (g.2.2.1 1)) (C := RX7) (T := TX7) (N := 13) (pc := 35) hx hb hts (fun _ h => List.mem_cons_of_mem _ (List.mem_append_left _ (List.mem_append_left _ (List.mem_append_left _ (List.mem_append_right _ h))))) hown hK hP 0 rfl rfl 2 (by decide) (hts _ q_X7_quarrel_0) (fun _ h9 => h9) rfl dX7_quarrel_35 ?_
    refine lv_iload_n (pc := 38) hx hb dX7_quarrel_38 rfl (lv_at hl 1 rfl) ?_
    obtain ⟨r39, e39, hf⟩ := bdE hf
    refine krI (g := g) (wc := (wd_1 g S1)) (pc := 39) (As := [.int x2]) (rest := []) ⟨hx, hb, hml, hown, hts⟩ (c_X1_opponentAfter l g N S1 x2 r39 e39) (cwV 1 hts gX7_quarrel_X1_opponentAfter rfl rfl rfl h_X1_opponentAfter ⟨Nat.le_of_ble_eq_true rfl, Nat.le_of_ble_eq_true rfl⟩) hK (hP.sub (ws' := (wd_1 g S1)) [15, 16, 17, 18, 19] rfl) rfl rfl rfl hl.1 rfl (Nat.le_of_ble_eq_true rfl) dX7_quarrel_39 ⟨Nat.zero_le _, Nat.zero_le _⟩ ?_
    refine lv_istore_n (lv' := [(3, .int r39), (0, .ref (g.2.2.1 7)), (2, .int x2)]) (pc := 42) hx hb dX7_quarrel_42 rfl hl (by decide) rfl (fun ls hl => ?_)
    refine lv_iload_n (pc := 43) hx hb dX7_quarrel_43 rfl (lv_at hl 0 rfl) ?_
    refine lv_bipush (v := (-9)) (pc := 44) hx hb dX7_quarrel_44 (by decide) ?_
    refine lv_icmp_eq (tgt := 72) (pc := 46) hx hb dX7_quarrel_46 (by decide) (fun c46 => ?_) (fun c46 => ?_)
    · have hf := ft hf c46
      refine lv_iinc (v := (x2 + 1)) (lv' := [(2, .int (x2 + 1)), (3, .int r39), (0, .ref (g.2.2.1 7))]) (pc := 72) hx hb dX7_quarrel_72 hl (k := 2) rfl rfl (by decide) rfl (fun ls hl => ?_)
      refine lv_goto (tgt := 23) (pc := 75) hx hb dX7_quarrel_75 (by decide) ?_
      exact H23 H locs S7 S1 ls (x2 + 1) hP hD hS (lv_sub hl [2, 0] rfl) hf
    · have hf := ff hf c46
      refine lv_aload_n (pc := 49) hx hb dX7_quarrel_49 rfl (lv_at hl 1 rfl) ?_
      refine lv_aload_n (pc := 50) hx hb dX7_quarrel_50 rfl (lv_at hl 1 rfl) ?_
      refine va_get (D := g.1) (ci := 7) (v := .ref (g.2.2.1 1)) (C := RX7) (T := TX7) (N := 13) (pc := 51) hx hb hts (fun _ h => List.mem_cons_of_mem _ (List.mem_append_left _ (List.mem_append_left _ (List.mem_append_left _ (List.mem_append_right _ h))))) hown hK hP 0 rfl rfl 2 (by decide) (hts _ q_X7_quarrel_0) (fun _ h9 => h9) rfl dX7_quarrel_51 ?_
      refine va_get (D := g.1) (ci := 1) (v := .ref (g.2.2.2 1 0)) (C := RX1) (T := TX1) (N := 5) (pc := 54) hx hb hts (fun _ h => List.mem_cons_of_mem _ (List.mem_append_left _ (List.mem_append_left _ (List.mem_append_right _ h)))) hown hK hP 15 rfl rfl 0 (by decide) (hts _ q_X7_quarrel_2) (fun _ h9 => h9) rfl dX7_quarrel_54 ?_
      refine lv_iload_n (pc := 57) hx hb dX7_quarrel_57 rfl (lv_at hl 0 rfl) ?_
      obtain ⟨b58, hf⟩ := gdE hf
      refine va_iald (D := g.1) (tys := tyl g) (f := (S1.2.2 0)) (pc := 58) hx hb hK hP 16 0 rfl rfl (inbV b58) dX7_quarrel_58 ?_
      refine va_put (D := g.1) (ci := 7) (v := .int ((S1.2.2 0) (Int32.toNatClampNeg r39))) (ty := .int) (C := RX7) (T := TX7) (N := 13) (pc := 59) hx hb hts (fun _ h => List.mem_cons_of_mem _ (List.mem_append_left _ (List.mem_append_left _ (List.mem_append_left _ (List.mem_append_right _ h))))) tyX7 tyX7_ok nmX7 hown hK hP hD hS 0 rfl rfl 10 (by decide) (hts _ q_X7_quarrel_3) (fun _ h9 => h9) rfl rfl rfl rfl (Nat.le_of_ble_eq_true rfl) dX7_quarrel_59 (fun H locs hP hD hS => ?_)
      have hP := u_7_5_6_1_7_10P S7 S5 S6 S1 ((S1.2.2 0) (Int32.toNatClampNeg r39)) hP
      have hD := u_7_5_6_1_7_10D S7 S5 S6 S1 ((S1.2.2 0) (Int32.toNatClampNeg r39)) hD
      refine lv_aload_n (pc := 62) hx hb dX7_quarrel_62 rfl (lv_at hl 1 rfl) ?_
      refine va_get (D := g.1) (ci := 7) (v := .ref (g.2.2.1 1)) (C := RX7) (T := TX7) (N := 13) (pc := 63) hx hb hts (fun _ h => List.mem_cons_of_mem _ (List.mem_append_left _ (List.mem_append_left _ (List.mem_append_left _ (List.mem_append_right _ h))))) hown hK hP 0 rfl rfl 2 (by decide) (hts _ q_X7_quarrel_0) (fun _ h9 => h9) rfl dX7_quarrel_63 ?_
      refine va_get (D := g.1) (ci := 1) (v := .ref (g.2.2.2 1 0)) (C := RX1) (T := TX1) (N := 5) (pc := 66) hx hb hts (fun _ h => List.mem_cons_of_mem _ (List.mem_append_left _ (List.mem_append_left _ (List.mem_append_right _ h)))) hown hK hP 15 rfl rfl 0 (by decide) (hts _ q_X7_quarrel_2) (fun _ h9 => h9) rfl dX7_quarrel_66 ?_
      refine lv_iload_n (pc := 69) hx hb dX7_quarrel_69 rfl (lv_at hl 2 rfl) ?_
      obtain ⟨b70, hf⟩ := gdE hf
      refine va_iald (D := g.1) (tys := tyl g) (f := (S1.2.2 0)) (pc := 70) hx hb hK hP 16 0 rfl rfl (inbV b70) dX7_quarrel_70 ?_
      have hf := Option.some.inj hf
      subst hf
      exact W.iret (v := ((S1.2.2 0) (Int32.toNatClampNeg x2))) hx hb hr (fun t ht hW => ⟨⟨_, (), rfl, rfl, by rw [ht]; exact hP, va_K.moved hW.alike hK, hD⟩, hS.F ht⟩) hS.2.2 dX7_quarrel_71
set_option maxHeartbeats 4000000 in
set_option maxRecDepth 100000 in
theorem w_X7_quarrel_23 {p : Program} {l : Launch} {e : Env} {s : State} {m : MethodId} {args : Array Value} {below : List Frame} {meth : Method} {c : Code} {g : En} {A : Nat → Prop} {N : Nat} {S5 : St} {S6 : St} {res : Int32 × St × St} (C : cxw g A cX7_quarrel 4 (some .int) wsX7_quarrel RX7 p s m args meth c) : ∀ (n : Nat), ∀ (H : Heap) (locs : List Loc) (S7 : St) (S1 : St) (ls : Array Slot) (x2 : Int32), va_P g.1 vwCl (wd_7_5_6_1 g S7 S5 S6 S1) H → va_D A (wd_7_5_6_1 g S7 S5 S6 S1) → va_S A s.heap H locs → lv_has ls 4 [(0, .ref (g.2.2.1 7)), (2, .int x2)] → f_X7_quarrel_23 N S5 S6  n S7 S1 x2 = some res → W p l e (headSpec wsX7_quarrel { frames := 6, cells := 0, slots := 0, locals := 146 }).room s m args below meth c H locs 0 0 (MQ below (rwQi g (wd_7_5_6_1 g (res.2.1) S5 S6 (res.2.2)) A (res.1)) args s 0 0 A) (F0 m 23 ls []) := by
  intro n
  induction n with
  | zero =>
    intro H locs S7 S1 ls x2 hP hD hS hl hf
    have hf : (none : Option (Int32 × St × St)) = some res := hf
    cases hf
  | succ n ih =>
    intro H locs S7 S1 ls x2 hP hD hS hl hf
    exact w_X7_quarrel_23_b C  (fun y0 y1 y2 => f_X7_quarrel_23 N S5 S6  n y0 y1 y2) ih H locs S7 S1 ls x2 hP hD hS hl hf
set_option maxHeartbeats 4000000 in
set_option maxRecDepth 100000 in
theorem c_X7_quarrel (l : Launch) (g : En) (N : Nat) (sz : Nat) (S7 : St) (S5 : St) (S6 : St) (S1 : St) (x1 : Int32) (res : Int32 × St × St) (hf : f_X7_quarrel N S7 S5 S6 S1 x1 = some res) : Met l yX7_quarrel wsX7_quarrel { frames := 6, cells := 0, slots := 0, locals := 146 } (rwP g (wd_7_5_6_1 g S7 S5 S6 S1) sz [.ref (g.2.2.1 7), .int x1]) (rwQi g (wd_7_5_6_1 g (res.2.1) S5 S6 (res.2.2)) (va_A (wd_7_5_6_1 g S7 S5 S6 S1) sz) (res.1)) 0 0 (va_A (wd_7_5_6_1 g S7 S5 S6 S1) sz) := by
  refine Met.ofW (cc := cX7_quarrel) (maxL := 4) (ret := (some .int)) (by decide) rfl ?_
  intro p e s m args below meth c s₁ B hml hv
  obtain ⟨rfl, hsz, hP, hK, hD0⟩ := hv
  have hx := B.exec
  have hb := B.bytes
  have hr := B.returns
  have hts := atoms_spec (ws := wsX7_quarrel) B.pre
  have hown : s.vm.findClass RX7 = some m.cls := findClass_of_methodNamed B.named
  have hlk := B.notSynchronized
  subst hsz
  have hD := hD0.self (sz := s.heap.size)
  generalize hAe : va_A (wd_7_5_6_1 g S7 S5 S6 S1) s.heap.size = A at hD ⊢
  have hA : ∀ q : Nat, s.heap.size ≤ q → A q := fun q h => by rw [← hAe]; exact Or.inr h
  have hS : va_S A s.heap s.heap [] := va_S.rf
  have C : cxw g A cX7_quarrel 4 (some .int) wsX7_quarrel RX7 p s m ([.ref (g.2.2.1 7), .int x1] : List Value).toArray meth c := ⟨⟨hx, hb, hr, hml, hown, hts, hlk⟩, hK, hA⟩
  have hl := lv_entry [.ref (g.2.2.1 7), .int x1] (n := 4) (Nat.le_of_ble_eq_true rfl)
  rw [lg_entry_eq]
  generalize (lg_sl [.ref (g.2.2.1 7), .int x1] ++ List.replicate (4 - (lg_sl [.ref (g.2.2.1 7), .int x1]).length) Slot.unset).toArray = ls at hl ⊢
  have hl : lv_has ls 4 [(0, .ref (g.2.2.1 7)), (1, .int x1)] := hl
  unfold f_X7_quarrel at hf
  suffices K9 : ∀ (H : Heap) (locs : List Loc), va_P g.1 vwCl (wd_7_5_6_1 g S7 S5 S6 S1) H → va_D A (wd_7_5_6_1 g S7 S5 S6 S1) → va_S A s.heap H locs → ((f_X7_isDay N x1).bind (fun r1 => (if r1 = 0 then some ((-1), S7, S1) else ((f_X5_gather N S5 S6 S1 x1).bind (fun r18 => (f_X7_quarrel_23 N S5 S6  N S7 r18 0)))))) = some res → W p l e (headSpec wsX7_quarrel { frames := 6, cells := 0, slots := 0, locals := 146 }).room s m ([.ref (g.2.2.1 7), .int x1] : List Value).toArray below meth c H locs 0 0 (MQ below (rwQi g (wd_7_5_6_1 g (res.2.1) S5 S6 (res.2.2)) A (res.1)) ([.ref (g.2.2.1 7), .int x1] : List Value).toArray s 0 0 A) (F0 m 0 ls []) from K9 s.heap [] hP hD hS hf
  clear hP hD hS hf
  intro H locs hP hD hS hf
  refine lv_iload_n (pc := 0) hx hb dX7_quarrel_0 rfl (lv_at hl 1 rfl) ?_
  obtain ⟨r1, e1, hf⟩ := bdE hf
  refine ksI (pc := 1) (As := [.int x1]) (rest := []) ⟨hx, hb, hml, hown, hts⟩ (c_X7_isDay l N x1 r1 e1) (va_cwS 1 hts gX7_quarrel_X7_isDay rfl rfl rfl h_X7_isDay ⟨Nat.le_of_ble_eq_true rfl, Nat.le_of_ble_eq_true rfl⟩) rfl hl.1 rfl (Nat.le_of_ble_eq_true rfl) dX7_quarrel_1 ⟨Nat.zero_le _, Nat.zero_le _⟩ ?_
  refine lv_if_ne (tgt := 9) (pc := 4) hx hb dX7_quarrel_4 (by decide) (fun c4 => ?_) (fun c4 => ?_)
  · have hf := ff hf c4
    refine lv_aload_n (pc := 9) hx hb dX7_quarrel_9 rfl (lv_at hl 0 rfl) ?_
    refine va_get (D := g.1) (ci := 7) (v := .ref (g.2.2.1 5)) (C := RX7) (T := TX7) (N := 13) (pc := 10) hx hb hts (fun _ h => List.mem_cons_of_mem _ (List.mem_append_left _ (List.mem_append_left _ (List.mem_append_left _ (List.mem_append_right _ h))))) hown hK hP 0 rfl rfl 0 (by decide) (hts _ q_X7_quarrel_4) (fun _ h9 => h9) rfl dX7_quarrel_10 ?_
    refine lv_iload_n (pc := 13) hx hb dX7_quarrel_13 rfl (lv_at hl 1 rfl) ?_
    refine lv_aload_n (pc := 14) hx hb dX7_quarrel_14 rfl (lv_at hl 0 rfl) ?_
    refine va_get (D := g.1) (ci := 7) (v := .ref (g.2.2.1 1)) (C := RX7) (T := TX7) (N := 13) (pc := 15) hx hb hts (fun _ h => List.mem_cons_of_mem _ (List.mem_append_left _ (List.mem_append_left _ (List.mem_append_left _ (List.mem_append_right _ h))))) hown hK hP 0 rfl rfl 2 (by decide) (hts _ q_X7_quarrel_0) (fun _ h9 => h9) rfl dX7_quarrel_15 ?_
    obtain ⟨r18, e18, hf⟩ := bdE hf
    refine kwV (g := g) (A := A) (W0 := (wd_7_5_6_1 g S7 S5 S6 S1)) (wc := (wd_5_6_1 g S5 S6 S1)) (wr := (wd_7 g S7)) (w1 := (wd_5_6_1 g S5 S6 r18)) (W1 := (wd_7_5_6_1 g S7 S5 S6 r18)) (pc := 18) (As := [.int x1, .ref (g.2.2.1 1)]) (rest := []) ⟨hx, hb, hml, hown, hts⟩ hK hA hP hD hS (c_X5_gather l g N H.size S5 S6 S1 x1 r18 e18) (cwV 2 hts gX7_quarrel_X5_gather rfl rfl rfl h_X5_gather ⟨Nat.le_of_ble_eq_true rfl, Nat.le_of_ble_eq_true rfl⟩) [2, 3, 4, 5, 6, 7, 8, 9, 10, 11, 12, 13, 14, 15, 16, 17, 18, 19] [0, 1] [0, 1, 2, 3, 4, 5, 6, 7, 8, 9, 10, 11, 12, 13, 14, 15, 16, 17, 18, 19] rfl rfl rfl rfl rfl (by decide) rfl rfl rfl rfl rfl rfl hl.1 rfl (Nat.le_of_ble_eq_true rfl) dX7_quarrel_18 ⟨Nat.zero_le _, Nat.zero_le _⟩ (fun H locs hP hD hS => ?_)
    refine lv_iconst (v := 0) (pc := 21) hx hb dX7_quarrel_21 (by decide) ?_
    refine lv_istore_n (lv' := [(2, .int 0), (0, .ref (g.2.2.1 7)), (1, .int x1)]) (pc := 22) hx hb dX7_quarrel_22 rfl hl (by decide) rfl (fun ls hl => ?_)
    exact w_X7_quarrel_23 C  N H locs S7 r18 ls 0 hP hD hS (lv_sub hl [1, 0] rfl) hf
  · have hf := ft hf c4
    refine lv_iconst (v := (-1)) (pc := 7) hx hb dX7_quarrel_7 (by decide) ?_
    have hf := Option.some.inj hf
    subst hf
    exact W.iret (v := (-1)) hx hb hr (fun t ht hW => ⟨⟨_, (), rfl, rfl, by rw [ht]; exact hP, va_K.moved hW.alike hK, hD⟩, hS.F ht⟩) hS.2.2 dX7_quarrel_8
theorem q_X7_leftOut_0 : (.fieldLink RX7 10 "PictureCourt" "proofs" "LPictureCourt$Proofs;" : Cond) ∈ wsX7_leftOut := by decide +kernel
theorem q_X7_leftOut_1 : (.fieldLink RX7 24 "PictureCourt" "known" "LPictureCourt$Known;" : Cond) ∈ wsX7_leftOut := by decide +kernel
theorem q_X7_leftOut_2 : (.fieldLink RX7 67 "PictureCourt" "askedNumber" "I" : Cond) ∈ wsX7_leftOut := by decide +kernel
theorem h_X7_leftOut : yX7_leftOut.cls = RX7 ∧ yX7_leftOut.cls ≠ "java/lang/invoke/MethodHandle" ∧ yX7_leftOut.cls ≠ "java/lang/invoke/VarHandle" ∧ (parseMethodDescriptor yX7_leftOut.desc).map (fun d => d.parameters.length) = some 1 := by decide +kernel
set_option maxHeartbeats 4000000 in
set_option maxRecDepth 100000 in
theorem c_X7_leftOut (l : Launch) (g : En) (N : Nat) (sz : Nat) (S7 : St) (S5 : St) (S6 : St) (S1 : St) (x1 : Int32) (res : Int32 × St × St) (hf : f_X7_leftOut N S7 S5 S6 S1 x1 = some res) : Met l yX7_leftOut wsX7_leftOut { frames := 6, cells := 0, slots := 0, locals := 146 } (rwP g (wd_7_5_6_1 g S7 S5 S6 S1) sz [.ref (g.2.2.1 7), .int x1]) (rwQi g (wd_7_5_6_1 g (res.2.1) S5 S6 (res.2.2)) (va_A (wd_7_5_6_1 g S7 S5 S6 S1) sz) (res.1)) 0 0 (va_A (wd_7_5_6_1 g S7 S5 S6 S1) sz) := by
  refine Met.ofW (cc := cX7_leftOut) (maxL := 3) (ret := (some .int)) (by decide) rfl ?_
  intro p e s m args below meth c s₁ B hml hv
  obtain ⟨rfl, hsz, hP, hK, hD0⟩ := hv
  have hx := B.exec
  have hb := B.bytes
  have hr := B.returns
  have hts := atoms_spec (ws := wsX7_leftOut) B.pre
  have hown : s.vm.findClass RX7 = some m.cls := findClass_of_methodNamed B.named
  have hlk := B.notSynchronized
  subst hsz
  have hD := hD0.self (sz := s.heap.size)
  generalize hAe : va_A (wd_7_5_6_1 g S7 S5 S6 S1) s.heap.size = A at hD ⊢
  have hA : ∀ q : Nat, s.heap.size ≤ q → A q := fun q h => by rw [← hAe]; exact Or.inr h
  have hS : va_S A s.heap s.heap [] := va_S.rf
  have C : cxw g A cX7_leftOut 3 (some .int) wsX7_leftOut RX7 p s m ([.ref (g.2.2.1 7), .int x1] : List Value).toArray meth c := ⟨⟨hx, hb, hr, hml, hown, hts, hlk⟩, hK, hA⟩
  have hl := lv_entry [.ref (g.2.2.1 7), .int x1] (n := 3) (Nat.le_of_ble_eq_true rfl)
  rw [lg_entry_eq]
  generalize (lg_sl [.ref (g.2.2.1 7), .int x1] ++ List.replicate (3 - (lg_sl [.ref (g.2.2.1 7), .int x1]).length) Slot.unset).toArray = ls at hl ⊢
  have hl : lv_has ls 3 [(0, .ref (g.2.2.1 7)), (1, .int x1)] := hl
  unfold f_X7_leftOut at hf
  suffices K9 : ∀ (H : Heap) (locs : List Loc), va_P g.1 vwCl (wd_7_5_6_1 g S7 S5 S6 S1) H → va_D A (wd_7_5_6_1 g S7 S5 S6 S1) → va_S A s.heap H locs → ((f_X7_isDay N x1).bind (fun r1 => (if r1 = 0 then some ((-1), S7, S1) else ((f_X5_gather N S5 S6 S1 x1).bind (fun r18 => ((f_X1_heaviestYear N r18).bind (fun r25 => ((f_X1_setWithout N r18 r25).bind (fun r35 => ((f_X1_weightOfAll N r18).bind (fun r45 => ((f_X1_weightOn N r18 r25).bind (fun r53 => some ((r45 - r53), (sI S7 10 r35), r18)))))))))))))) = some res → W p l e (headSpec wsX7_leftOut { frames := 6, cells := 0, slots := 0, locals := 146 }).room s m ([.ref (g.2.2.1 7), .int x1] : List Value).toArray below meth c H locs 0 0 (MQ below (rwQi g (wd_7_5_6_1 g (res.2.1) S5 S6 (res.2.2)) A (res.1)) ([.ref (g.2.2.1 7), .int x1] : List Value).toArray s 0 0 A) (F0 m 0 ls []) from K9 s.heap [] hP hD hS hf
  clear hP hD hS hf
  intro H locs hP hD hS hf
  refine lv_iload_n (pc := 0) hx hb dX7_leftOut_0 rfl (lv_at hl 1 rfl) ?_
  obtain ⟨r1, e1, hf⟩ := bdE hf
  refine ksI (pc := 1) (As := [.int x1]) (rest := []) ⟨hx, hb, hml, hown, hts⟩ (c_X7_isDay l N x1 r1 e1) (va_cwS 1 hts gX7_leftOut_X7_isDay rfl rfl rfl h_X7_isDay ⟨Nat.le_of_ble_eq_true rfl, Nat.le_of_ble_eq_true rfl⟩) rfl hl.1 rfl (Nat.le_of_ble_eq_true rfl) dX7_leftOut_1 ⟨Nat.zero_le _, Nat.zero_le _⟩ ?_
  refine lv_if_ne (tgt := 9) (pc := 4) hx hb dX7_leftOut_4 (by decide) (fun c4 => ?_) (fun c4 => ?_)
  · have hf := ff hf c4
    refine lv_aload_n (pc := 9) hx hb dX7_leftOut_9 rfl (lv_at hl 0 rfl) ?_
    refine va_get (D := g.1) (ci := 7) (v := .ref (g.2.2.1 5)) (C := RX7) (T := TX7) (N := 13) (pc := 10) hx hb hts (fun _ h => List.mem_cons_of_mem _ (List.mem_append_left _ (List.mem_append_left _ (List.mem_append_left _ (List.mem_append_right _ h))))) hown hK hP 0 rfl rfl 0 (by decide) (hts _ q_X7_leftOut_0) (fun _ h9 => h9) rfl dX7_leftOut_10 ?_
    refine lv_iload_n (pc := 13) hx hb dX7_leftOut_13 rfl (lv_at hl 1 rfl) ?_
    refine lv_aload_n (pc := 14) hx hb dX7_leftOut_14 rfl (lv_at hl 0 rfl) ?_
    refine va_get (D := g.1) (ci := 7) (v := .ref (g.2.2.1 1)) (C := RX7) (T := TX7) (N := 13) (pc := 15) hx hb hts (fun _ h => List.mem_cons_of_mem _ (List.mem_append_left _ (List.mem_append_left _ (List.mem_append_left _ (List.mem_append_right _ h))))) hown hK hP 0 rfl rfl 2 (by decide) (hts _ q_X7_leftOut_1) (fun _ h9 => h9) rfl dX7_leftOut_15 ?_
    obtain ⟨r18, e18, hf⟩ := bdE hf
    refine kwV (g := g) (A := A) (W0 := (wd_7_5_6_1 g S7 S5 S6 S1)) (wc := (wd_5_6_1 g S5 S6 S1)) (wr := (wd_7 g S7)) (w1 := (wd_5_6_1 g S5 S6 r18)) (W1 := (wd_7_5_6_1 g S7 S5 S6 r18)) (pc := 18) (As := [.int x1, .ref (g.2.2.1 1)]) (rest := []) ⟨hx, hb, hml, hown, hts⟩ hK hA hP hD hS (c_X5_gather l g N H.size S5 S6 S1 x1 r18 e18) (cwV 2 hts gX7_leftOut_X5_gather rfl rfl rfl h_X5_gather ⟨Nat.le_of_ble_eq_true rfl, Nat.le_of_ble_eq_true rfl⟩) [2, 3, 4, 5, 6, 7, 8, 9, 10, 11, 12, 13, 14, 15, 16, 17, 18, 19] [0, 1] [0, 1, 2, 3, 4, 5, 6, 7, 8, 9, 10, 11, 12, 13, 14, 15, 16, 17, 18, 19] rfl rfl rfl rfl rfl (by decide) rfl rfl rfl rfl rfl rfl hl.1 rfl (Nat.le_of_ble_eq_true rfl) dX7_leftOut_18 ⟨Nat.zero_le _, Nat.zero_le _⟩ (fun H locs hP hD hS => ?_)
    refine lv_aload_n (pc := 21) hx hb dX7_leftOut_21 rfl (lv_at hl 0 rfl) ?_
    refine va_get (D := g.1) (ci := 7) (v := .ref (g.2.2.1 1)) (C := RX7) (T := TX7) (N := 13) (pc := 22) hx hb hts (fun _ h => List.mem_cons_of_mem _ (List.mem_append_left _ (List.mem_append_left _ (List.mem_append_left _ (List.mem_append_right _ h))))) hown hK hP 0 rfl rfl 2 (by decide) (hts _ q_X7_leftOut_1) (fun _ h9 => h9) rfl dX7_leftOut_22 ?_
    obtain ⟨r25, e25, hf⟩ := bdE hf
    refine krI (g := g) (wc := (wd_1 g r18)) (pc := 25) (As := []) (rest := []) ⟨hx, hb, hml, hown, hts⟩ (c_X1_heaviestYear l g N r18 r25 e25) (cwV 0 hts gX7_leftOut_X1_heaviestYear rfl rfl rfl h_X1_heaviestYear ⟨Nat.le_of_ble_eq_true rfl, Nat.le_of_ble_eq_true rfl⟩) hK (hP.sub (ws' := (wd_1 g r18)) [15, 16, 17, 18, 19] rfl) rfl rfl rfl hl.1 rfl (Nat.le_of_ble_eq_true rfl) dX7_leftOut_25 ⟨Nat.zero_le _, Nat.zero_le _⟩ ?_
    refine lv_istore_n (lv' := [(2, .int r25), (0, .ref (g.2.2.1 7)), (1, .int x1)]) (pc := 28) hx hb dX7_leftOut_28 rfl hl (by decide) rfl (fun ls hl => ?_)
    refine lv_aload_n (pc := 29) hx hb dX7_leftOut_29 rfl (lv_at hl 1 rfl) ?_
    refine lv_aload_n (pc := 30) hx hb dX7_leftOut_30 rfl (lv_at hl 1 rfl) ?_
    refine va_get (D := g.1) (ci := 7) (v := .ref (g.2.2.1 1)) (C := RX7) (T := TX7) (N := 13) (pc := 31) hx hb hts (fun _ h => List.mem_cons_of_mem _ (List.mem_append_left _ (List.mem_append_left _ (List.mem_append_left _ (List.mem_append_right _ h))))) hown hK hP 0 rfl rfl 2 (by decide) (hts _ q_X7_leftOut_1) (fun _ h9 => h9) rfl dX7_leftOut_31 ?_
    refine lv_iload_n (pc := 34) hx hb dX7_leftOut_34 rfl (lv_at hl 0 rfl) ?_
    obtain ⟨r35, e35, hf⟩ := bdE hf
    refine krI (g := g) (wc := (wd_1 g r18)) (pc := 35) (As := [.int r25]) (rest := [.ref (g.2.2.1 7)]) ⟨hx, hb, hml, hown, hts⟩ (c_X1_setWithout l g N r18 r25 r35 e35) (cwV 1 hts gX7_leftOut_X1_setWithout rfl rfl rfl h_X1_setWithout ⟨Nat.le_of_ble_eq_true rfl, Nat.le_of_ble_eq_true rfl⟩) hK (hP.sub (ws' := (wd_1 g r18)) [15, 16, 17, 18, 19] rfl) rfl rfl rfl hl.1 rfl (Nat.le_of_ble_eq_true rfl) dX7_leftOut_35 ⟨Nat.zero_le _, Nat.zero_le _⟩ ?_
    refine va_put (D := g.1) (ci := 7) (v := .int r35) (ty := .int) (C := RX7) (T := TX7) (N := 13) (pc := 38) hx hb hts (fun _ h => List.mem_cons_of_mem _ (List.mem_append_left _ (List.mem_append_left _ (List.mem_append_left _ (List.mem_append_right _ h))))) tyX7 tyX7_ok nmX7 hown hK hP hD hS 0 rfl rfl 10 (by decide) (hts _ q_X7_leftOut_2) (fun _ h9 => h9) rfl rfl rfl rfl (Nat.le_of_ble_eq_true rfl) dX7_leftOut_38 (fun H locs hP hD hS => ?_)
    have hP := u_7_5_6_1_7_10P S7 S5 S6 r18 r35 hP
    have hD := u_7_5_6_1_7_10D S7 S5 S6 r18 r35 hD
    refine lv_aload_n (pc := 41) hx hb dX7_leftOut_41 rfl (lv_at hl 1 rfl) ?_
    refine va_get (D := g.1) (ci := 7) (v := .ref (g.2.2.1 1)) (C := RX7) (T := TX7) (N := 13) (pc := 42) hx hb hts (fun _ h => List.mem_cons_of_mem _ (List.mem_append_left _ (List.mem_append_left _ (List.mem_append_left _ (List.mem_append_right _ h))))) hown hK hP 0 rfl rfl 2 (by decide) (hts _ q_X7_leftOut_1) (fun _ h9 => h9) rfl dX7_leftOut_42 ?_
    obtain ⟨r45, e45, hf⟩ := bdE hf
    refine krI (g := g) (wc := (wd_1 g r18)) (pc := 45) (As := []) (rest := []) ⟨hx, hb, hml, hown, hts⟩ (c_X1_weightOfAll l g N r18 r45 e45) (cwV 0 hts gX7_leftOut_X1_weightOfAll rfl rfl rfl h_X1_weightOfAll ⟨Nat.le_of_ble_eq_true rfl, Nat.le_of_ble_eq_true rfl⟩) hK (hP.sub (ws' := (wd_1 g r18)) [15, 16, 17, 18, 19] rfl) rfl rfl rfl hl.1 rfl (Nat.le_of_ble_eq_true rfl) dX7_leftOut_45 ⟨Nat.zero_le _, Nat.zero_le _⟩ ?_
    refine lv_aload_n (pc := 48) hx hb dX7_leftOut_48 rfl (lv_at hl 1 rfl) ?_
    refine va_get (D := g.1) (ci := 7) (v := .ref (g.2.2.1 1)) (C := RX7) (T := TX7) (N := 13) (pc := 49) hx hb hts (fun _ h => List.mem_cons_of_mem _ (List.mem_append_left _ (List.mem_append_left _ (List.mem_append_left _ (List.mem_append_right _ h))))) hown hK hP 0 rfl rfl 2 (by decide) (hts _ q_X7_leftOut_1) (fun _ h9 => h9) rfl dX7_leftOut_49 ?_
    refine lv_iload_n (pc := 52) hx hb dX7_leftOut_52 rfl (lv_at hl 0 rfl) ?_
    obtain ⟨r53, e53, hf⟩ := bdE hf
    refine krI (g := g) (wc := (wd_1 g r18)) (pc := 53) (As := [.int r25]) (rest := [.int r45]) ⟨hx, hb, hml, hown, hts⟩ (c_X1_weightOn l g N r18 r25 r53 e53) (cwV 1 hts gX7_leftOut_X1_weightOn rfl rfl rfl h_X1_weightOn ⟨Nat.le_of_ble_eq_true rfl, Nat.le_of_ble_eq_true rfl⟩) hK (hP.sub (ws' := (wd_1 g r18)) [15, 16, 17, 18, 19] rfl) rfl rfl rfl hl.1 rfl (Nat.le_of_ble_eq_true rfl) dX7_leftOut_53 ⟨Nat.zero_le _, Nat.zero_le _⟩ ?_
    refine lv_isub (pc := 56) hx hb dX7_leftOut_56 ?_
    have hf := Option.some.inj hf
    subst hf
    exact W.iret (v := (r45 - r53)) hx hb hr (fun t ht hW => ⟨⟨_, (), rfl, rfl, by rw [ht]; exact hP, va_K.moved hW.alike hK, hD⟩, hS.F ht⟩) hS.2.2 dX7_leftOut_57
  · have hf := ft hf c4
    refine lv_iconst (v := (-1)) (pc := 7) hx hb dX7_leftOut_7 (by decide) ?_
    have hf := Option.some.inj hf
    subst hf
    exact W.iret (v := (-1)) hx hb hr (fun t ht hW => ⟨⟨_, (), rfl, rfl, by rw [ht]; exact hP, va_K.moved hW.alike hK, hD⟩, hS.F ht⟩) hS.2.2 dX7_leftOut_8
theorem q_X7_heldYear_0 : (.fieldLink RX7 10 "PictureCourt" "proofs" "LPictureCourt$Proofs;" : Cond) ∈ wsX7_heldYear := by decide +kernel
theorem q_X7_heldYear_1 : (.fieldLink RX7 24 "PictureCourt" "known" "LPictureCourt$Known;" : Cond) ∈ wsX7_heldYear := by decide +kernel
theorem h_X7_heldYear : yX7_heldYear.cls = RX7 ∧ yX7_heldYear.cls ≠ "java/lang/invoke/MethodHandle" ∧ yX7_heldYear.cls ≠ "java/lang/invoke/VarHandle" ∧ (parseMethodDescriptor yX7_heldYear.desc).map (fun d => d.parameters.length) = some 1 := by decide +kernel
set_option maxHeartbeats 4000000 in
set_option maxRecDepth 100000 in
theorem c_X7_heldYear (l : Launch) (g : En) (N : Nat) (sz : Nat) (S7 : St) (S5 : St) (S6 : St) (S1 : St) (x1 : Int32) (res : Int32 × St) (hf : f_X7_heldYear N S7 S5 S6 S1 x1 = some res) : Met l yX7_heldYear wsX7_heldYear { frames := 6, cells := 0, slots := 0, locals := 146 } (rwP g (wd_7_5_6_1 g S7 S5 S6 S1) sz [.ref (g.2.2.1 7), .int x1]) (rwQi g (wd_7_5_6_1 g S7 S5 S6 (res.2)) (va_A (wd_7_5_6_1 g S7 S5 S6 S1) sz) (res.1)) 0 0 (va_A (wd_7_5_6_1 g S7 S5 S6 S1) sz) := by
  refine Met.ofW (cc := cX7_heldYear) (maxL := 2) (ret := (some .int)) (by decide) rfl ?_
  intro p e s m args below meth c s₁ B hml hv
  obtain ⟨rfl, hsz, hP, hK, hD0⟩ := hv
  have hx := B.exec
  have hb := B.bytes
  have hr := B.returns
  have hts := atoms_spec (ws := wsX7_heldYear) B.pre
  have hown : s.vm.findClass RX7 = some m.cls := findClass_of_methodNamed B.named
  have hlk := B.notSynchronized
  subst hsz
  have hD := hD0.self (sz := s.heap.size)
  generalize hAe : va_A (wd_7_5_6_1 g S7 S5 S6 S1) s.heap.size = A at hD ⊢
  have hA : ∀ q : Nat, s.heap.size ≤ q → A q := fun q h => by rw [← hAe]; exact Or.inr h
  have hS : va_S A s.heap s.heap [] := va_S.rf
  have C : cxw g A cX7_heldYear 2 (some .int) wsX7_heldYear RX7 p s m ([.ref (g.2.2.1 7), .int x1] : List Value).toArray meth c := ⟨⟨hx, hb, hr, hml, hown, hts, hlk⟩, hK, hA⟩
  have hl := lv_entry [.ref (g.2.2.1 7), .int x1] (n := 2) (Nat.le_of_ble_eq_true rfl)
  rw [lg_entry_eq]
  generalize (lg_sl [.ref (g.2.2.1 7), .int x1] ++ List.replicate (2 - (lg_sl [.ref (g.2.2.1 7), .int x1]).length) Slot.unset).toArray = ls at hl ⊢
  have hl : lv_has ls 2 [(0, .ref (g.2.2.1 7)), (1, .int x1)] := hl
  unfold f_X7_heldYear at hf
  suffices K9 : ∀ (H : Heap) (locs : List Loc), va_P g.1 vwCl (wd_7_5_6_1 g S7 S5 S6 S1) H → va_D A (wd_7_5_6_1 g S7 S5 S6 S1) → va_S A s.heap H locs → ((f_X7_isDay N x1).bind (fun r1 => (if r1 = 0 then some ((-1), S1) else ((f_X5_gather N S5 S6 S1 x1).bind (fun r18 => ((f_X1_heaviestYear N r18).bind (fun r25 => some (r25, r18)))))))) = some res → W p l e (headSpec wsX7_heldYear { frames := 6, cells := 0, slots := 0, locals := 146 }).room s m ([.ref (g.2.2.1 7), .int x1] : List Value).toArray below meth c H locs 0 0 (MQ below (rwQi g (wd_7_5_6_1 g S7 S5 S6 (res.2)) A (res.1)) ([.ref (g.2.2.1 7), .int x1] : List Value).toArray s 0 0 A) (F0 m 0 ls []) from K9 s.heap [] hP hD hS hf
  clear hP hD hS hf
  intro H locs hP hD hS hf
  refine lv_iload_n (pc := 0) hx hb dX7_heldYear_0 rfl (lv_at hl 1 rfl) ?_
  obtain ⟨r1, e1, hf⟩ := bdE hf
  refine ksI (pc := 1) (As := [.int x1]) (rest := []) ⟨hx, hb, hml, hown, hts⟩ (c_X7_isDay l N x1 r1 e1) (va_cwS 1 hts gX7_heldYear_X7_isDay rfl rfl rfl h_X7_isDay ⟨Nat.le_of_ble_eq_true rfl, Nat.le_of_ble_eq_true rfl⟩) rfl hl.1 rfl (Nat.le_of_ble_eq_true rfl) dX7_heldYear_1 ⟨Nat.zero_le _, Nat.zero_le _⟩ ?_
  refine lv_if_ne (tgt := 9) (pc := 4) hx hb dX7_heldYear_4 (by decide) (fun c4 => ?_) (fun c4 => ?_)
  · have hf := ff hf c4
    refine lv_aload_n (pc := 9) hx hb dX7_heldYear_9 rfl (lv_at hl 0 rfl) ?_
    refine va_get (D := g.1) (ci := 7) (v := .ref (g.2.2.1 5)) (C := RX7) (T := TX7) (N := 13) (pc := 10) hx hb hts (fun _ h => List.mem_cons_of_mem _ (List.mem_append_left _ (List.mem_append_left _ (List.mem_append_left _ (List.mem_append_right _ h))))) hown hK hP 0 rfl rfl 0 (by decide) (hts _ q_X7_heldYear_0) (fun _ h9 => h9) rfl dX7_heldYear_10 ?_
    refine lv_iload_n (pc := 13) hx hb dX7_heldYear_13 rfl (lv_at hl 1 rfl) ?_
    refine lv_aload_n (pc := 14) hx hb dX7_heldYear_14 rfl (lv_at hl 0 rfl) ?_
    refine va_get (D := g.1) (ci := 7) (v := .ref (g.2.2.1 1)) (C := RX7) (T := TX7) (N := 13) (pc := 15) hx hb hts (fun _ h => List.mem_cons_of_mem _ (List.mem_append_left _ (List.mem_append_left _ (List.mem_append_left _ (List.mem_append_right _ h))))) hown hK hP 0 rfl rfl 2 (by decide) (hts _ q_X7_heldYear_1) (fun _ h9 => h9) rfl dX7_heldYear_15 ?_
    obtain ⟨r18, e18, hf⟩ := bdE hf
    refine kwV (g := g) (A := A) (W0 := (wd_7_5_6_1 g S7 S5 S6 S1)) (wc := (wd_5_6_1 g S5 S6 S1)) (wr := (wd_7 g S7)) (w1 := (wd_5_6_1 g S5 S6 r18)) (W1 := (wd_7_5_6_1 g S7 S5 S6 r18)) (pc := 18) (As := [.int x1, .ref (g.2.2.1 1)]) (rest := []) ⟨hx, hb, hml, hown, hts⟩ hK hA hP hD hS (c_X5_gather l g N H.size S5 S6 S1 x1 r18 e18) (cwV 2 hts gX7_heldYear_X5_gather rfl rfl rfl h_X5_gather ⟨Nat.le_of_ble_eq_true rfl, Nat.le_of_ble_eq_true rfl⟩) [2, 3, 4, 5, 6, 7, 8, 9, 10, 11, 12, 13, 14, 15, 16, 17, 18, 19] [0, 1] [0, 1, 2, 3, 4, 5, 6, 7, 8, 9, 10, 11, 12, 13, 14, 15, 16, 17, 18, 19] rfl rfl rfl rfl rfl (by decide) rfl rfl rfl rfl rfl rfl hl.1 rfl (Nat.le_of_ble_eq_true rfl) dX7_heldYear_18 ⟨Nat.zero_le _, Nat.zero_le _⟩ (fun H locs hP hD hS => ?_)
    refine lv_aload_n (pc := 21) hx hb dX7_heldYear_21 rfl (lv_at hl 0 rfl) ?_
    refine va_get (D := g.1) (ci := 7) (v := .ref (g.2.2.1 1)) (C := RX7) (T := TX7) (N := 13) (pc := 22) hx hb hts (fun _ h => List.mem_cons_of_mem _ (List.mem_append_left _ (List.mem_append_left _ (List.mem_append_left _ (List.mem_append_right _ h))))) hown hK hP 0 rfl rfl 2 (by decide) (hts _ q_X7_heldYear_1) (fun _ h9 => h9) rfl dX7_heldYear_22 ?_
    obtain ⟨r25, e25, hf⟩ := bdE hf
    refine krI (g := g) (wc := (wd_1 g r18)) (pc := 25) (As := []) (rest := []) ⟨hx, hb, hml, hown, hts⟩ (c_X1_heaviestYear l g N r18 r25 e25) (cwV 0 hts gX7_heldYear_X1_heaviestYear rfl rfl rfl h_X1_heaviestYear ⟨Nat.le_of_ble_eq_true rfl, Nat.le_of_ble_eq_true rfl⟩) hK (hP.sub (ws' := (wd_1 g r18)) [15, 16, 17, 18, 19] rfl) rfl rfl rfl hl.1 rfl (Nat.le_of_ble_eq_true rfl) dX7_heldYear_25 ⟨Nat.zero_le _, Nat.zero_le _⟩ ?_
    have hf := Option.some.inj hf
    subst hf
    exact W.iret (v := r25) hx hb hr (fun t ht hW => ⟨⟨_, (), rfl, rfl, by rw [ht]; exact hP, va_K.moved hW.alike hK, hD⟩, hS.F ht⟩) hS.2.2 dX7_heldYear_28
  · have hf := ft hf c4
    refine lv_iconst (v := (-1)) (pc := 7) hx hb dX7_heldYear_7 (by decide) ?_
    have hf := Option.some.inj hf
    subst hf
    exact W.iret (v := (-1)) hx hb hr (fun t ht hW => ⟨⟨_, (), rfl, rfl, by rw [ht]; exact hP, va_K.moved hW.alike hK, hD⟩, hS.F ht⟩) hS.2.2 dX7_heldYear_8
theorem h_X7_isHand : yX7_isHand.cls ≠ "java/lang/invoke/MethodHandle" ∧ yX7_isHand.cls ≠ "java/lang/invoke/VarHandle" ∧ (parseMethodDescriptor yX7_isHand.desc).map (fun d => d.parameters.length) = some 1 := by decide +kernel
set_option maxHeartbeats 4000000 in
set_option maxRecDepth 100000 in
theorem c_X7_isHand (l : Launch) (N : Nat) (x0 : Int32) (res : Int32) (hf : f_X7_isHand N x0 = some res) : Met l yX7_isHand wsX7_isHand { frames := 1, cells := 0, slots := 0, locals := 22 } (va_Pc [.int x0] (fun _ => True)) (vp_Si (fun r => r = res)) 0 0 (fun _ => False) := by
  refine Met.ofW (cc := cX7_isHand) (maxL := 1) (ret := (some .boolean)) (by decide) rfl ?_
  intro p e s m args below meth c s₁ B hml hv
  obtain ⟨rfl, -⟩ := hv
  have hx := B.exec
  have hb := B.bytes
  have hr := B.returns
  have hts := atoms_spec (ws := wsX7_isHand) B.pre
  have hown : s.vm.findClass RX7 = some m.cls := findClass_of_methodNamed B.named
  have hlk := B.notSynchronized
  have C : cxs cX7_isHand 1 (some .boolean) wsX7_isHand RX7 p s m ([.int x0] : List Value).toArray meth c := ⟨hx, hb, hr, hml, hown, hts, hlk⟩
  have hl := lv_entry [.int x0] (n := 1) (Nat.le_of_ble_eq_true rfl)
  rw [lg_entry_eq]
  generalize (lg_sl [.int x0] ++ List.replicate (1 - (lg_sl [.int x0]).length) Slot.unset).toArray = ls at hl ⊢
  have hl : lv_has ls 1 [(0, .int x0)] := hl
  unfold f_X7_isHand at hf
  refine lv_iload_n (pc := 0) hx hb dX7_isHand_0 rfl (lv_at hl 0 rfl) ?_
  refine lv_iconst (v := 0) (pc := 1) hx hb dX7_isHand_1 (by decide) ?_
  refine lv_iconst (v := 3) (pc := 2) hx hb dX7_isHand_2 (by decide) ?_
  obtain ⟨r3, e3, hf⟩ := bdE hf
  refine ksI (pc := 3) (As := [.int x0, .int 0, .int 3]) (rest := []) ⟨hx, hb, hml, hown, hts⟩ (c_X7_isWithin l N x0 0 3 r3 e3) (va_cwS 3 hts gX7_isHand_X7_isWithin rfl rfl rfl h_X7_isWithin ⟨Nat.le_of_ble_eq_true rfl, Nat.le_of_ble_eq_true rfl⟩) rfl hl.1 rfl (Nat.le_of_ble_eq_true rfl) dX7_isHand_3 ⟨Nat.zero_le _, Nat.zero_le _⟩ ?_
  obtain ⟨b6, hf⟩ := gdE hf
  have hf := Option.some.inj hf
  subst hf
  exact W.zret (v := r3) hx hb hr (z01V b6) (fun t ht hW => ⟨_, rfl, rfl, ht⟩) (fun _ h => by cases h) dX7_isHand_6
theorem q_X7_hand_0 : (.fieldLink RX7 31 "PictureCourt" "odds" "LPictureCourt$Odds;" : Cond) ∈ wsX7_hand := by decide +kernel
theorem h_X7_hand : yX7_hand.cls = RX7 ∧ yX7_hand.cls ≠ "java/lang/invoke/MethodHandle" ∧ yX7_hand.cls ≠ "java/lang/invoke/VarHandle" ∧ (parseMethodDescriptor yX7_hand.desc).map (fun d => d.parameters.length) = some 2 := by decide +kernel
set_option maxHeartbeats 4000000 in
set_option maxRecDepth 100000 in
theorem c_X7_hand (l : Launch) (g : En) (N : Nat) (sz : Nat) (S7 : St) (S2 : St) (x1 : Int32) (x2 : Int32) (res : Int32 × St) (hf : f_X7_hand N S7 S2 x1 x2 = some res) : Met l yX7_hand wsX7_hand { frames := 2, cells := 0, slots := 0, locals := 42 } (rwP g (wd_7_2 g S7 S2) sz [.ref (g.2.2.1 7), .int x1, .int x2]) (rwQi g (wd_7_2 g S7 (res.2)) (va_A (wd_7_2 g S7 S2) sz) (res.1)) 0 0 (va_A (wd_7_2 g S7 S2) sz) := by
  refine Met.ofW (cc := cX7_hand) (maxL := 3) (ret := (some .int)) (by decide) rfl ?_
  intro p e s m args below meth c s₁ B hml hv
  obtain ⟨rfl, hsz, hP, hK, hD0⟩ := hv
  have hx := B.exec
  have hb := B.bytes
  have hr := B.returns
  have hts := atoms_spec (ws := wsX7_hand) B.pre
  have hown : s.vm.findClass RX7 = some m.cls := findClass_of_methodNamed B.named
  have hlk := B.notSynchronized
  subst hsz
  have hD := hD0.self (sz := s.heap.size)
  generalize hAe : va_A (wd_7_2 g S7 S2) s.heap.size = A at hD ⊢
  have hA : ∀ q : Nat, s.heap.size ≤ q → A q := fun q h => by rw [← hAe]; exact Or.inr h
  have hS : va_S A s.heap s.heap [] := va_S.rf
  have C : cxw g A cX7_hand 3 (some .int) wsX7_hand RX7 p s m ([.ref (g.2.2.1 7), .int x1, .int x2] : List Value).toArray meth c := ⟨⟨hx, hb, hr, hml, hown, hts, hlk⟩, hK, hA⟩
  have hl := lv_entry [.ref (g.2.2.1 7), .int x1, .int x2] (n := 3) (Nat.le_of_ble_eq_true rfl)
  rw [lg_entry_eq]
  generalize (lg_sl [.ref (g.2.2.1 7), .int x1, .int x2] ++ List.replicate (3 - (lg_sl [.ref (g.2.2.1 7), .int x1, .int x2]).length) Slot.unset).toArray = ls at hl ⊢
  have hl : lv_has ls 3 [(0, .ref (g.2.2.1 7)), (1, .int x1), (2, .int x2)] := hl
  unfold f_X7_hand at hf
  suffices K9 : ∀ (H : Heap) (locs : List Loc), va_P g.1 vwCl (wd_7_2 g S7 S2) H → va_D A (wd_7_2 g S7 S2) → va_S A s.heap H locs → ((f_X7_isHand N x1).bind (fun r1 => (if r1 = 0 then some ((-1), S2) else ((f_X7_isWithin N x2 0 99).bind (fun r11 => (if r11 = 0 then some ((-1), S2) else ((f_X2_swapWeight N S2 x1 x2).bind (fun r25 => some ((r25.1), (r25.2)))))))))) = some res → W p l e (headSpec wsX7_hand { frames := 2, cells := 0, slots := 0, locals := 42 }).room s m ([.ref (g.2.2.1 7), .int x1, .int x2] : List Value).toArray below meth c H locs 0 0 (MQ below (rwQi g (wd_7_2 g S7 (res.2)) A (res.1)) ([.ref (g.2.2.1 7), .int x1, .int x2] : List Value).toArray s 0 0 A) (F0 m 0 ls []) from K9 s.heap [] hP hD hS hf
  clear hP hD hS hf
  intro H locs hP hD hS hf
  refine lv_iload_n (pc := 0) hx hb dX7_hand_0 rfl (lv_at hl 1 rfl) ?_
  obtain ⟨r1, e1, hf⟩ := bdE hf
  refine ksI (pc := 1) (As := [.int x1]) (rest := []) ⟨hx, hb, hml, hown, hts⟩ (c_X7_isHand l N x1 r1 e1) (va_cwS 1 hts gX7_hand_X7_isHand rfl rfl rfl h_X7_isHand ⟨Nat.le_of_ble_eq_true rfl, Nat.le_of_ble_eq_true rfl⟩) rfl hl.1 rfl (Nat.le_of_ble_eq_true rfl) dX7_hand_1 ⟨Nat.zero_le _, Nat.zero_le _⟩ ?_
  refine lv_if_eq (tgt := 17) (pc := 4) hx hb dX7_hand_4 (by decide) (fun c4 => ?_) (fun c4 => ?_)
  · have hf := ft hf c4
    refine lv_iconst (v := (-1)) (pc := 17) hx hb dX7_hand_17 (by decide) ?_
    have hf := Option.some.inj hf
    subst hf
    exact W.iret (v := (-1)) hx hb hr (fun t ht hW => ⟨⟨_, (), rfl, rfl, by rw [ht]; exact hP, va_K.moved hW.alike hK, hD⟩, hS.F ht⟩) hS.2.2 dX7_hand_18
  · have hf := ff hf c4
    refine lv_iload_n (pc := 7) hx hb dX7_hand_7 rfl (lv_at hl 2 rfl) ?_
    refine lv_iconst (v := 0) (pc := 8) hx hb dX7_hand_8 (by decide) ?_
    refine lv_bipush (v := 99) (pc := 9) hx hb dX7_hand_9 (by decide) ?_
    obtain ⟨r11, e11, hf⟩ := bdE hf
    refine ksI (pc := 11) (As := [.int x2, .int 0, .int 99]) (rest := []) ⟨hx, hb, hml, hown, hts⟩ (c_X7_isWithin l N x2 0 99 r11 e11) (va_cwS 3 hts gX7_hand_X7_isWithin rfl rfl rfl h_X7_isWithin ⟨Nat.le_of_ble_eq_true rfl, Nat.le_of_ble_eq_true rfl⟩) rfl hl.1 rfl (Nat.le_of_ble_eq_true rfl) dX7_hand_11 ⟨Nat.zero_le _, Nat.zero_le _⟩ ?_
    refine lv_if_ne (tgt := 19) (pc := 14) hx hb dX7_hand_14 (by decide) (fun c14 => ?_) (fun c14 => ?_)
    · have hf := ff hf c14
      refine lv_aload_n (pc := 19) hx hb dX7_hand_19 rfl (lv_at hl 0 rfl) ?_
      refine va_get (D := g.1) (ci := 7) (v := .ref (g.2.2.1 2)) (C := RX7) (T := TX7) (N := 13) (pc := 20) hx hb hts (fun _ h => List.mem_cons_of_mem _ (List.mem_append_left _ (List.mem_append_right _ h))) hown hK hP 0 rfl rfl 3 (by decide) (hts _ q_X7_hand_0) (fun _ h9 => h9) rfl dX7_hand_20 ?_
      refine lv_iload_n (pc := 23) hx hb dX7_hand_23 rfl (lv_at hl 1 rfl) ?_
      refine lv_iload_n (pc := 24) hx hb dX7_hand_24 rfl (lv_at hl 2 rfl) ?_
      obtain ⟨r25, e25, hf⟩ := bdE hf
      refine kwI (g := g) (A := A) (W0 := (wd_7_2 g S7 S2)) (wc := (wd_2 g S2)) (wr := (wd_7 g S7)) (w1 := (wd_2 g (r25.2))) (W1 := (wd_7_2 g S7 (r25.2))) (pc := 25) (As := [.int x1, .int x2]) (rest := []) ⟨hx, hb, hml, hown, hts⟩ hK hA hP hD hS (c_X2_swapWeight l g N H.size S2 x1 x2 r25 e25) (cwV 2 hts gX7_hand_X2_swapWeight rfl rfl rfl h_X2_swapWeight ⟨Nat.le_of_ble_eq_true rfl, Nat.le_of_ble_eq_true rfl⟩) [2, 3, 4, 5, 6, 7, 8, 9, 10] [0, 1] [0, 1, 2, 3, 4, 5, 6, 7, 8, 9, 10] rfl rfl rfl rfl rfl (by decide) rfl rfl rfl rfl rfl rfl hl.1 rfl (Nat.le_of_ble_eq_true rfl) dX7_hand_25 ⟨Nat.zero_le _, Nat.zero_le _⟩ (fun H locs hP hD hS => ?_)
      have hf := Option.some.inj hf
      subst hf
      exact W.iret (v := (r25.1)) hx hb hr (fun t ht hW => ⟨⟨_, (), rfl, rfl, by rw [ht]; exact hP, va_K.moved hW.alike hK, hD⟩, hS.F ht⟩) hS.2.2 dX7_hand_28
    · have hf := ft hf c14
      refine lv_iconst (v := (-1)) (pc := 17) hx hb dX7_hand_17 (by decide) ?_
      have hf := Option.some.inj hf
      subst hf
      exact W.iret (v := (-1)) hx hb hr (fun t ht hW => ⟨⟨_, (), rfl, rfl, by rw [ht]; exact hP, va_K.moved hW.alike hK, hD⟩, hS.F ht⟩) hS.2.2 dX7_hand_18
theorem q_X7_test_0 : (.fieldLink RX7 31 "PictureCourt" "odds" "LPictureCourt$Odds;" : Cond) ∈ wsX7_test := by decide +kernel
theorem h_X7_test : yX7_test.cls = RX7 ∧ yX7_test.cls ≠ "java/lang/invoke/MethodHandle" ∧ yX7_test.cls ≠ "java/lang/invoke/VarHandle" ∧ (parseMethodDescriptor yX7_test.desc).map (fun d => d.parameters.length) = some 3 := by decide +kernel
set_option maxHeartbeats 4000000 in
set_option maxRecDepth 100000 in
theorem w_X7_test_20 {p : Program} {l : Launch} {e : Env} {s : State} {m : MethodId} {args : Array Value} {below : List Frame} {meth : Method} {c : Code} {g : En} {A : Nat → Prop} {N : Nat} {S7 : St} {res : Int32 × St} (C : cxw g A cX7_test 5 (some .int) wsX7_test RX7 p s m args meth c) : ∀ (H : Heap) (locs : List Loc) (S2 : St) (ls : Array Slot) (x1 : Int32) (x2 : Int32) (x3 : Int32) (t0 : Int32), va_P g.1 vwCl (wd_7_2 g S7 S2) H → va_D A (wd_7_2 g S7 S2) → va_S A s.heap H locs → lv_has ls 5 [(0, .ref (g.2.2.1 7)), (1, .int x1), (2, .int x2), (3, .int x3)] → f_X7_test_20 N S7  S2 x1 x2 x3 t0 = some res → W p l e (headSpec wsX7_test { frames := 1, cells := 0, slots := 0, locals := 24 }).room s m args below meth c H locs 0 0 (MQ below (rwQi g (wd_7_2 g S7 (res.2)) A (res.1)) args s 0 0 A) (F0 m 20 ls [.int t0]) := by
  intro H locs S2 ls x1 x2 x3 t0 hP hD hS hl hf
  obtain ⟨⟨hx, hb, hr, hml, hown, hts, hlk⟩, hK, hA⟩ := id C
  unfold f_X7_test_20 at hf
  refine lv_istore (lv' := [(4, .int t0), (0, .ref (g.2.2.1 7)), (1, .int x1), (2, .int x2), (3, .int x3)]) (pc := 20) hx hb dX7_test_20 hl (by decide) rfl (fun ls hl => ?_)
  refine lv_iload_n (pc := 22) hx hb dX7_test_22 rfl (lv_at hl 2 rfl) ?_
  refine lv_iconst (v := 1) (pc := 23) hx hb dX7_test_23 (by decide) ?_
  refine lv_sipush (v := 1000) (pc := 24) hx hb dX7_test_24 (by decide) ?_
  obtain ⟨r27, e27, hf⟩ := bdE hf
  refine ksI (pc := 27) (As := [.int x1, .int 1, .int 1000]) (rest := []) ⟨hx, hb, hml, hown, hts⟩ (c_X7_isWithin l N x1 1 1000 r27 e27) (va_cwS 3 hts gX7_test_X7_isWithin rfl rfl rfl h_X7_isWithin ⟨Nat.le_of_ble_eq_true rfl, Nat.le_of_ble_eq_true rfl⟩) rfl hl.1 rfl (Nat.le_of_ble_eq_true rfl) dX7_test_27 ⟨Nat.zero_le _, Nat.zero_le _⟩ ?_
  refine lv_if_eq (tgt := 48) (pc := 30) hx hb dX7_test_30 (by decide) (fun c30 => ?_) (fun c30 => ?_)
  · have hf := ft hf c30
    refine lv_iconst (v := (-1)) (pc := 48) hx hb dX7_test_48 (by decide) ?_
    have hf := Option.some.inj hf
    subst hf
    exact W.iret (v := (-1)) hx hb hr (fun t ht hW => ⟨⟨_, (), rfl, rfl, by rw [ht]; exact hP, va_K.moved hW.alike hK, hD⟩, hS.F ht⟩) hS.2.2 dX7_test_49
  · have hf := ff hf c30
    refine lv_iload_n (pc := 33) hx hb dX7_test_33 rfl (lv_at hl 3 rfl) ?_
    refine lv_iconst (v := 0) (pc := 34) hx hb dX7_test_34 (by decide) ?_
    refine lv_bipush (v := 9) (pc := 35) hx hb dX7_test_35 (by decide) ?_
    obtain ⟨r37, e37, hf⟩ := bdE hf
    refine ksI (pc := 37) (As := [.int x2, .int 0, .int 9]) (rest := []) ⟨hx, hb, hml, hown, hts⟩ (c_X7_isWithin l N x2 0 9 r37 e37) (va_cwS 3 hts gX7_test_X7_isWithin rfl rfl rfl h_X7_isWithin ⟨Nat.le_of_ble_eq_true rfl, Nat.le_of_ble_eq_true rfl⟩) rfl hl.1 rfl (Nat.le_of_ble_eq_true rfl) dX7_test_37 ⟨Nat.zero_le _, Nat.zero_le _⟩ ?_
    refine lv_if_eq (tgt := 48) (pc := 40) hx hb dX7_test_40 (by decide) (fun c40 => ?_) (fun c40 => ?_)
    · have hf := ft hf c40
      refine lv_iconst (v := (-1)) (pc := 48) hx hb dX7_test_48 (by decide) ?_
      have hf := Option.some.inj hf
      subst hf
      exact W.iret (v := (-1)) hx hb hr (fun t ht hW => ⟨⟨_, (), rfl, rfl, by rw [ht]; exact hP, va_K.moved hW.alike hK, hD⟩, hS.F ht⟩) hS.2.2 dX7_test_49
    · have hf := ff hf c40
      refine lv_iload (pc := 43) hx hb dX7_test_43 (lv_at hl 0 rfl) ?_
      refine lv_if_ne (tgt := 50) (pc := 45) hx hb dX7_test_45 (by decide) (fun c45 => ?_) (fun c45 => ?_)
      · have hf := ff hf c45
        refine lv_aload_n (pc := 50) hx hb dX7_test_50 rfl (lv_at hl 1 rfl) ?_
        refine va_get (D := g.1) (ci := 7) (v := .ref (g.2.2.1 2)) (C := RX7) (T := TX7) (N := 13) (pc := 51) hx hb hts (fun _ h => List.mem_cons_of_mem _ (List.mem_append_left _ (List.mem_append_right _ h))) hown hK hP 0 rfl rfl 3 (by decide) (hts _ q_X7_test_0) (fun _ h9 => h9) rfl dX7_test_51 ?_
        obtain ⟨r54, e54, hf⟩ := bdE hf
        refine krI (g := g) (wc := (wd_2 g S2)) (pc := 54) (As := []) (rest := []) ⟨hx, hb, hml, hown, hts⟩ (c_X2_isFull l g N S2 r54 e54) (cwV 0 hts gX7_test_X2_isFull rfl rfl rfl h_X2_isFull ⟨Nat.le_of_ble_eq_true rfl, Nat.le_of_ble_eq_true rfl⟩) hK (hP.sub (ws' := (wd_2 g S2)) [2, 3, 4, 5, 6, 7, 8, 9, 10] rfl) rfl rfl rfl hl.1 rfl (Nat.le_of_ble_eq_true rfl) dX7_test_54 ⟨Nat.zero_le _, Nat.zero_le _⟩ ?_
        refine lv_if_eq (tgt := 63) (pc := 57) hx hb dX7_test_57 (by decide) (fun c57 => ?_) (fun c57 => ?_)
        · have hf := ft hf c57
          refine lv_aload_n (pc := 63) hx hb dX7_test_63 rfl (lv_at hl 1 rfl) ?_
          refine va_get (D := g.1) (ci := 7) (v := .ref (g.2.2.1 2)) (C := RX7) (T := TX7) (N := 13) (pc := 64) hx hb hts (fun _ h => List.mem_cons_of_mem _ (List.mem_append_left _ (List.mem_append_right _ h))) hown hK hP 0 rfl rfl 3 (by decide) (hts _ q_X7_test_0) (fun _ h9 => h9) rfl dX7_test_64 ?_
          refine lv_iload_n (pc := 67) hx hb dX7_test_67 rfl (lv_at hl 2 rfl) ?_
          refine lv_iload_n (pc := 68) hx hb dX7_test_68 rfl (lv_at hl 3 rfl) ?_
          refine lv_iload_n (pc := 69) hx hb dX7_test_69 rfl (lv_at hl 4 rfl) ?_
          obtain ⟨r70, e70, hf⟩ := bdE hf
          refine kwI (g := g) (A := A) (W0 := (wd_7_2 g S7 S2)) (wc := (wd_2 g S2)) (wr := (wd_7 g S7)) (w1 := (wd_2 g (r70.2))) (W1 := (wd_7_2 g S7 (r70.2))) (pc := 70) (As := [.int x1, .int x2, .int x3]) (rest := []) ⟨hx, hb, hml, hown, hts⟩ hK hA hP hD hS (c_X2_add l g N H.size S2 x1 x2 x3 r70 e70) (cwV 3 hts gX7_test_X2_add rfl rfl rfl h_X2_add ⟨Nat.le_of_ble_eq_true rfl, Nat.le_of_ble_eq_true rfl⟩) [2, 3, 4, 5, 6, 7, 8, 9, 10] [0, 1] [0, 1, 2, 3, 4, 5, 6, 7, 8, 9, 10] rfl rfl rfl rfl rfl (by decide) rfl rfl rfl rfl rfl rfl hl.1 rfl (Nat.le_of_ble_eq_true rfl) dX7_test_70 ⟨Nat.zero_le _, Nat.zero_le _⟩ (fun H locs hP hD hS => ?_)
          have hf := Option.some.inj hf
          subst hf
          exact W.iret (v := (r70.1)) hx hb hr (fun t ht hW => ⟨⟨_, (), rfl, rfl, by rw [ht]; exact hP, va_K.moved hW.alike hK, hD⟩, hS.F ht⟩) hS.2.2 dX7_test_73
        · have hf := ff hf c57
          refine lv_bipush (v := (-2)) (pc := 60) hx hb dX7_test_60 (by decide) ?_
          have hf := Option.some.inj hf
          subst hf
          exact W.iret (v := (-2)) hx hb hr (fun t ht hW => ⟨⟨_, (), rfl, rfl, by rw [ht]; exact hP, va_K.moved hW.alike hK, hD⟩, hS.F ht⟩) hS.2.2 dX7_test_62
      · have hf := ft hf c45
        refine lv_iconst (v := (-1)) (pc := 48) hx hb dX7_test_48 (by decide) ?_
        have hf := Option.some.inj hf
        subst hf
        exact W.iret (v := (-1)) hx hb hr (fun t ht hW => ⟨⟨_, (), rfl, rfl, by rw [ht]; exact hP, va_K.moved hW.alike hK, hD⟩, hS.F ht⟩) hS.2.2 dX7_test_49
set_option maxHeartbeats 4000000 in
set_option maxRecDepth 100000 in
theorem w_X7_test_15 {p : Program} {l : Launch} {e : Env} {s : State} {m : MethodId} {args : Array Value} {below : List Frame} {meth : Method} {c : Code} {g : En} {A : Nat → Prop} {N : Nat} {S7 : St} {res : Int32 × St} (C : cxw g A cX7_test 5 (some .int) wsX7_test RX7 p s m args meth c) : ∀ (H : Heap) (locs : List Loc) (S2 : St) (ls : Array Slot) (x1 : Int32) (x2 : Int32) (x3 : Int32), va_P g.1 vwCl (wd_7_2 g S7 S2) H → va_D A (wd_7_2 g S7 S2) → va_S A s.heap H locs → lv_has ls 5 [(0, .ref (g.2.2.1 7)), (1, .int x1), (2, .int x2), (3, .int x3)] → f_X7_test_15 N S7  S2 x1 x2 x3 = some res → W p l e (headSpec wsX7_test { frames := 1, cells := 0, slots := 0, locals := 24 }).room s m args below meth c H locs 0 0 (MQ below (rwQi g (wd_7_2 g S7 (res.2)) A (res.1)) args s 0 0 A) (F0 m 15 ls []) := by
  intro H locs S2 ls x1 x2 x3 hP hD hS hl hf
  obtain ⟨⟨hx, hb, hr, hml, hown, hts, hlk⟩, hK, hA⟩ := id C
  unfold f_X7_test_15 at hf
  refine lv_iconst (v := 1) (pc := 15) hx hb dX7_test_15 (by decide) ?_
  refine lv_goto (tgt := 20) (pc := 16) hx hb dX7_test_16 (by decide) ?_
  exact w_X7_test_20 C  H locs S2 ls x1 x2 x3 1 hP hD hS (lv_sub hl [0, 1, 2, 3] rfl) hf
set_option maxHeartbeats 4000000 in
set_option maxRecDepth 100000 in
theorem c_X7_test (l : Launch) (g : En) (N : Nat) (sz : Nat) (S7 : St) (S2 : St) (x1 : Int32) (x2 : Int32) (x3 : Int32) (res : Int32 × St) (hf : f_X7_test N S7 S2 x1 x2 x3 = some res) : Met l yX7_test wsX7_test { frames := 1, cells := 0, slots := 0, locals := 24 } (rwP g (wd_7_2 g S7 S2) sz [.ref (g.2.2.1 7), .int x1, .int x2, .int x3]) (rwQi g (wd_7_2 g S7 (res.2)) (va_A (wd_7_2 g S7 S2) sz) (res.1)) 0 0 (va_A (wd_7_2 g S7 S2) sz) := by
  refine Met.ofW (cc := cX7_test) (maxL := 5) (ret := (some .int)) (by decide) rfl ?_
  intro p e s m args below meth c s₁ B hml hv
  obtain ⟨rfl, hsz, hP, hK, hD0⟩ := hv
  have hx := B.exec
  have hb := B.bytes
  have hr := B.returns
  have hts := atoms_spec (ws := wsX7_test) B.pre
  have hown : s.vm.findClass RX7 = some m.cls := findClass_of_methodNamed B.named
  have hlk := B.notSynchronized
  subst hsz
  have hD := hD0.self (sz := s.heap.size)
  generalize hAe : va_A (wd_7_2 g S7 S2) s.heap.size = A at hD ⊢
  have hA : ∀ q : Nat, s.heap.size ≤ q → A q := fun q h => by rw [← hAe]; exact Or.inr h
  have hS : va_S A s.heap s.heap [] := va_S.rf
  have C : cxw g A cX7_test 5 (some .int) wsX7_test RX7 p s m ([.ref (g.2.2.1 7), .int x1, .int x2, .int x3] : List Value).toArray meth c := ⟨⟨hx, hb, hr, hml, hown, hts, hlk⟩, hK, hA⟩
  have hl := lv_entry [.ref (g.2.2.1 7), .int x1, .int x2, .int x3] (n := 5) (Nat.le_of_ble_eq_true rfl)
  rw [lg_entry_eq]
  generalize (lg_sl [.ref (g.2.2.1 7), .int x1, .int x2, .int x3] ++ List.replicate (5 - (lg_sl [.ref (g.2.2.1 7), .int x1, .int x2, .int x3]).length) Slot.unset).toArray = ls at hl ⊢
  have hl : lv_has ls 5 [(0, .ref (g.2.2.1 7)), (1, .int x1), (2, .int x2), (3, .int x3)] := hl
  unfold f_X7_test at hf
  suffices K9 : ∀ (H : Heap) (locs : List Loc), va_P g.1 vwCl (wd_7_2 g S7 S2) H → va_D A (wd_7_2 g S7 S2) → va_S A s.heap H locs → (if x3 = (-9) then (f_X7_test_15 N S7  S2 x1 x2 x3) else ((f_X7_isWithin N x3 0 3).bind (fun r9 => (if r9 = 0 then (f_X7_test_20 N S7  S2 x1 x2 x3 0) else (f_X7_test_15 N S7  S2 x1 x2 x3))))) = some res → W p l e (headSpec wsX7_test { frames := 1, cells := 0, slots := 0, locals := 24 }).room s m ([.ref (g.2.2.1 7), .int x1, .int x2, .int x3] : List Value).toArray below meth c H locs 0 0 (MQ below (rwQi g (wd_7_2 g S7 (res.2)) A (res.1)) ([.ref (g.2.2.1 7), .int x1, .int x2, .int x3] : List Value).toArray s 0 0 A) (F0 m 0 ls []) from K9 s.heap [] hP hD hS hf
  clear hP hD hS hf
  intro H locs hP hD hS hf
  refine lv_iload_n (pc := 0) hx hb dX7_test_0 rfl (lv_at hl 3 rfl) ?_
  refine lv_bipush (v := (-9)) (pc := 1) hx hb dX7_test_1 (by decide) ?_
  refine lv_icmp_eq (tgt := 15) (pc := 3) hx hb dX7_test_3 (by decide) (fun c3 => ?_) (fun c3 => ?_)
  · have hf := ft hf c3
    exact w_X7_test_15 C  H locs S2 ls x1 x2 x3 hP hD hS (lv_sub hl [0, 1, 2, 3] rfl) hf
  · have hf := ff hf c3
    refine lv_iload_n (pc := 6) hx hb dX7_test_6 rfl (lv_at hl 3 rfl) ?_
    refine lv_iconst (v := 0) (pc := 7) hx hb dX7_test_7 (by decide) ?_
    refine lv_iconst (v := 3) (pc := 8) hx hb dX7_test_8 (by decide) ?_
    obtain ⟨r9, e9, hf⟩ := bdE hf
    refine ksI (pc := 9) (As := [.int x3, .int 0, .int 3]) (rest := []) ⟨hx, hb, hml, hown, hts⟩ (c_X7_isWithin l N x3 0 3 r9 e9) (va_cwS 3 hts gX7_test_X7_isWithin rfl rfl rfl h_X7_isWithin ⟨Nat.le_of_ble_eq_true rfl, Nat.le_of_ble_eq_true rfl⟩) rfl hl.1 rfl (Nat.le_of_ble_eq_true rfl) dX7_test_9 ⟨Nat.zero_le _, Nat.zero_le _⟩ ?_
    refine lv_if_eq (tgt := 19) (pc := 12) hx hb dX7_test_12 (by decide) (fun c12 => ?_) (fun c12 => ?_)
    · have hf := ft hf c12
      refine lv_iconst (v := 0) (pc := 19) hx hb dX7_test_19 (by decide) ?_
      exact w_X7_test_20 C  H locs S2 ls x1 x2 x3 0 hP hD hS (lv_sub hl [0, 1, 2, 3] rfl) hf
    · have hf := ff hf c12
      exact w_X7_test_15 C  H locs S2 ls x1 x2 x3 hP hD hS (lv_sub hl [0, 1, 2, 3] rfl) hf
theorem q_X7_often_0 : (.fieldLink RX7 31 "PictureCourt" "odds" "LPictureCourt$Odds;" : Cond) ∈ wsX7_often := by decide +kernel
theorem h_X7_often : yX7_often.cls = RX7 ∧ yX7_often.cls ≠ "java/lang/invoke/MethodHandle" ∧ yX7_often.cls ≠ "java/lang/invoke/VarHandle" ∧ (parseMethodDescriptor yX7_often.desc).map (fun d => d.parameters.length) = some 3 := by decide +kernel
set_option maxHeartbeats 4000000 in
set_option maxRecDepth 100000 in
theorem c_X7_often (l : Launch) (g : En) (N : Nat) (sz : Nat) (S7 : St) (S2 : St) (x1 : Int32) (x2 : Int32) (x3 : Int32) (res : Int32 × St) (hf : f_X7_often N S7 S2 x1 x2 x3 = some res) : Met l yX7_often wsX7_often { frames := 2, cells := 0, slots := 0, locals := 42 } (rwP g (wd_7_2 g S7 S2) sz [.ref (g.2.2.1 7), .int x1, .int x2, .int x3]) (rwQi g (wd_7_2 g S7 (res.2)) (va_A (wd_7_2 g S7 S2) sz) (res.1)) 0 0 (va_A (wd_7_2 g S7 S2) sz) := by
  refine Met.ofW (cc := cX7_often) (maxL := 4) (ret := (some .int)) (by decide) rfl ?_
  intro p e s m args below meth c s₁ B hml hv
  obtain ⟨rfl, hsz, hP, hK, hD0⟩ := hv
  have hx := B.exec
  have hb := B.bytes
  have hr := B.returns
  have hts := atoms_spec (ws := wsX7_often) B.pre
  have hown : s.vm.findClass RX7 = some m.cls := findClass_of_methodNamed B.named
  have hlk := B.notSynchronized
  subst hsz
  have hD := hD0.self (sz := s.heap.size)
  generalize hAe : va_A (wd_7_2 g S7 S2) s.heap.size = A at hD ⊢
  have hA : ∀ q : Nat, s.heap.size ≤ q → A q := fun q h => by rw [← hAe]; exact Or.inr h
  have hS : va_S A s.heap s.heap [] := va_S.rf
  have C : cxw g A cX7_often 4 (some .int) wsX7_often RX7 p s m ([.ref (g.2.2.1 7), .int x1, .int x2, .int x3] : List Value).toArray meth c := ⟨⟨hx, hb, hr, hml, hown, hts, hlk⟩, hK, hA⟩
  have hl := lv_entry [.ref (g.2.2.1 7), .int x1, .int x2, .int x3] (n := 4) (Nat.le_of_ble_eq_true rfl)
  rw [lg_entry_eq]
  generalize (lg_sl [.ref (g.2.2.1 7), .int x1, .int x2, .int x3] ++ List.replicate (4 - (lg_sl [.ref (g.2.2.1 7), .int x1, .int x2, .int x3]).length) Slot.unset).toArray = ls at hl ⊢
  have hl : lv_has ls 4 [(0, .ref (g.2.2.1 7)), (1, .int x1), (2, .int x2), (3, .int x3)] := hl
  unfold f_X7_often at hf
  suffices K9 : ∀ (H : Heap) (locs : List Loc), va_P g.1 vwCl (wd_7_2 g S7 S2) H → va_D A (wd_7_2 g S7 S2) → va_S A s.heap H locs → ((f_X2_has N S2 x1).bind (fun r5 => (if r5 = 0 then some ((-1), S2) else ((f_X7_isHand N x2).bind (fun r12 => (if r12 = 0 then some ((-1), S2) else ((f_X7_isWithin N x3 0 16).bind (fun r22 => (if r22 = 0 then some ((-1), S2) else ((f_X2_isDone N S2 x1).bind (fun r35 => (if r35 = 0 then ((f_X2_swapOften N S2 x1 x2 x3).bind (fun r51 => some ((r51.1), (r51.2)))) else some ((-4), S2))))))))))))) = some res → W p l e (headSpec wsX7_often { frames := 2, cells := 0, slots := 0, locals := 42 }).room s m ([.ref (g.2.2.1 7), .int x1, .int x2, .int x3] : List Value).toArray below meth c H locs 0 0 (MQ below (rwQi g (wd_7_2 g S7 (res.2)) A (res.1)) ([.ref (g.2.2.1 7), .int x1, .int x2, .int x3] : List Value).toArray s 0 0 A) (F0 m 0 ls []) from K9 s.heap [] hP hD hS hf
  clear hP hD hS hf
  intro H locs hP hD hS hf
  refine lv_aload_n (pc := 0) hx hb dX7_often_0 rfl (lv_at hl 0 rfl) ?_
  refine va_get (D := g.1) (ci := 7) (v := .ref (g.2.2.1 2)) (C := RX7) (T := TX7) (N := 13) (pc := 1) hx hb hts (fun _ h => List.mem_cons_of_mem _ (List.mem_append_left _ (List.mem_append_right _ h))) hown hK hP 0 rfl rfl 3 (by decide) (hts _ q_X7_often_0) (fun _ h9 => h9) rfl dX7_often_1 ?_
  refine lv_iload_n (pc := 4) hx hb dX7_often_4 rfl (lv_at hl 1 rfl) ?_
  obtain ⟨r5, e5, hf⟩ := bdE hf
  refine krI (g := g) (wc := (wd_2 g S2)) (pc := 5) (As := [.int x1]) (rest := []) ⟨hx, hb, hml, hown, hts⟩ (c_X2_has l g N S2 x1 r5 e5) (cwV 1 hts gX7_often_X2_has rfl rfl rfl h_X2_has ⟨Nat.le_of_ble_eq_true rfl, Nat.le_of_ble_eq_true rfl⟩) hK (hP.sub (ws' := (wd_2 g S2)) [2, 3, 4, 5, 6, 7, 8, 9, 10] rfl) rfl rfl rfl hl.1 rfl (Nat.le_of_ble_eq_true rfl) dX7_often_5 ⟨Nat.zero_le _, Nat.zero_le _⟩ ?_
  refine lv_if_eq (tgt := 28) (pc := 8) hx hb dX7_often_8 (by decide) (fun c8 => ?_) (fun c8 => ?_)
  · have hf := ft hf c8
    refine lv_iconst (v := (-1)) (pc := 28) hx hb dX7_often_28 (by decide) ?_
    have hf := Option.some.inj hf
    subst hf
    exact W.iret (v := (-1)) hx hb hr (fun t ht hW => ⟨⟨_, (), rfl, rfl, by rw [ht]; exact hP, va_K.moved hW.alike hK, hD⟩, hS.F ht⟩) hS.2.2 dX7_often_29
  · have hf := ff hf c8
    refine lv_iload_n (pc := 11) hx hb dX7_often_11 rfl (lv_at hl 2 rfl) ?_
    obtain ⟨r12, e12, hf⟩ := bdE hf
    refine ksI (pc := 12) (As := [.int x2]) (rest := []) ⟨hx, hb, hml, hown, hts⟩ (c_X7_isHand l N x2 r12 e12) (va_cwS 1 hts gX7_often_X7_isHand rfl rfl rfl h_X7_isHand ⟨Nat.le_of_ble_eq_true rfl, Nat.le_of_ble_eq_true rfl⟩) rfl hl.1 rfl (Nat.le_of_ble_eq_true rfl) dX7_often_12 ⟨Nat.zero_le _, Nat.zero_le _⟩ ?_
    refine lv_if_eq (tgt := 28) (pc := 15) hx hb dX7_often_15 (by decide) (fun c15 => ?_) (fun c15 => ?_)
    · have hf := ft hf c15
      refine lv_iconst (v := (-1)) (pc := 28) hx hb dX7_often_28 (by decide) ?_
      have hf := Option.some.inj hf
      subst hf
      exact W.iret (v := (-1)) hx hb hr (fun t ht hW => ⟨⟨_, (), rfl, rfl, by rw [ht]; exact hP, va_K.moved hW.alike hK, hD⟩, hS.F ht⟩) hS.2.2 dX7_often_29
    · have hf := ff hf c15
      refine lv_iload_n (pc := 18) hx hb dX7_often_18 rfl (lv_at hl 3 rfl) ?_
      refine lv_iconst (v := 0) (pc := 19) hx hb dX7_often_19 (by decide) ?_
      refine lv_bipush (v := 16) (pc := 20) hx hb dX7_often_20 (by decide) ?_
      obtain ⟨r22, e22, hf⟩ := bdE hf
      refine ksI (pc := 22) (As := [.int x3, .int 0, .int 16]) (rest := []) ⟨hx, hb, hml, hown, hts⟩ (c_X7_isWithin l N x3 0 16 r22 e22) (va_cwS 3 hts gX7_often_X7_isWithin rfl rfl rfl h_X7_isWithin ⟨Nat.le_of_ble_eq_true rfl, Nat.le_of_ble_eq_true rfl⟩) rfl hl.1 rfl (Nat.le_of_ble_eq_true rfl) dX7_often_22 ⟨Nat.zero_le _, Nat.zero_le _⟩ ?_
      refine lv_if_ne (tgt := 30) (pc := 25) hx hb dX7_often_25 (by decide) (fun c25 => ?_) (fun c25 => ?_)
      · have hf := ff hf c25
        refine lv_aload_n (pc := 30) hx hb dX7_often_30 rfl (lv_at hl 0 rfl) ?_
        refine va_get (D := g.1) (ci := 7) (v := .ref (g.2.2.1 2)) (C := RX7) (T := TX7) (N := 13) (pc := 31) hx hb hts (fun _ h => List.mem_cons_of_mem _ (List.mem_append_left _ (List.mem_append_right _ h))) hown hK hP 0 rfl rfl 3 (by decide) (hts _ q_X7_often_0) (fun _ h9 => h9) rfl dX7_often_31 ?_
        refine lv_iload_n (pc := 34) hx hb dX7_often_34 rfl (lv_at hl 1 rfl) ?_
        obtain ⟨r35, e35, hf⟩ := bdE hf
        refine krI (g := g) (wc := (wd_2 g S2)) (pc := 35) (As := [.int x1]) (rest := []) ⟨hx, hb, hml, hown, hts⟩ (c_X2_isDone l g N S2 x1 r35 e35) (cwV 1 hts gX7_often_X2_isDone rfl rfl rfl h_X2_isDone ⟨Nat.le_of_ble_eq_true rfl, Nat.le_of_ble_eq_true rfl⟩) hK (hP.sub (ws' := (wd_2 g S2)) [2, 3, 4, 5, 6, 7, 8, 9, 10] rfl) rfl rfl rfl hl.1 rfl (Nat.le_of_ble_eq_true rfl) dX7_often_35 ⟨Nat.zero_le _, Nat.zero_le _⟩ ?_
        refine lv_if_eq (tgt := 44) (pc := 38) hx hb dX7_often_38 (by decide) (fun c38 => ?_) (fun c38 => ?_)
        · have hf := ft hf c38
          refine lv_aload_n (pc := 44) hx hb dX7_often_44 rfl (lv_at hl 0 rfl) ?_
          refine va_get (D := g.1) (ci := 7) (v := .ref (g.2.2.1 2)) (C := RX7) (T := TX7) (N := 13) (pc := 45) hx hb hts (fun _ h => List.mem_cons_of_mem _ (List.mem_append_left _ (List.mem_append_right _ h))) hown hK hP 0 rfl rfl 3 (by decide) (hts _ q_X7_often_0) (fun _ h9 => h9) rfl dX7_often_45 ?_
          refine lv_iload_n (pc := 48) hx hb dX7_often_48 rfl (lv_at hl 1 rfl) ?_
          refine lv_iload_n (pc := 49) hx hb dX7_often_49 rfl (lv_at hl 2 rfl) ?_
          refine lv_iload_n (pc := 50) hx hb dX7_often_50 rfl (lv_at hl 3 rfl) ?_
          obtain ⟨r51, e51, hf⟩ := bdE hf
          refine kwI (g := g) (A := A) (W0 := (wd_7_2 g S7 S2)) (wc := (wd_2 g S2)) (wr := (wd_7 g S7)) (w1 := (wd_2 g (r51.2))) (W1 := (wd_7_2 g S7 (r51.2))) (pc := 51) (As := [.int x1, .int x2, .int x3]) (rest := []) ⟨hx, hb, hml, hown, hts⟩ hK hA hP hD hS (c_X2_swapOften l g N H.size S2 x1 x2 x3 r51 e51) (cwV 3 hts gX7_often_X2_swapOften rfl rfl rfl h_X2_swapOften ⟨Nat.le_of_ble_eq_true rfl, Nat.le_of_ble_eq_true rfl⟩) [2, 3, 4, 5, 6, 7, 8, 9, 10] [0, 1] [0, 1, 2, 3, 4, 5, 6, 7, 8, 9, 10] rfl rfl rfl rfl rfl (by decide) rfl rfl rfl rfl rfl rfl hl.1 rfl (Nat.le_of_ble_eq_true rfl) dX7_often_51 ⟨Nat.zero_le _, Nat.zero_le _⟩ (fun H locs hP hD hS => ?_)
          have hf := Option.some.inj hf
          subst hf
          exact W.iret (v := (r51.1)) hx hb hr (fun t ht hW => ⟨⟨_, (), rfl, rfl, by rw [ht]; exact hP, va_K.moved hW.alike hK, hD⟩, hS.F ht⟩) hS.2.2 dX7_often_54
        · have hf := ff hf c38
          refine lv_bipush (v := (-4)) (pc := 41) hx hb dX7_often_41 (by decide) ?_
          have hf := Option.some.inj hf
          subst hf
          exact W.iret (v := (-4)) hx hb hr (fun t ht hW => ⟨⟨_, (), rfl, rfl, by rw [ht]; exact hP, va_K.moved hW.alike hK, hD⟩, hS.F ht⟩) hS.2.2 dX7_often_43
      · have hf := ft hf c25
        refine lv_iconst (v := (-1)) (pc := 28) hx hb dX7_often_28 (by decide) ?_
        have hf := Option.some.inj hf
        subst hf
        exact W.iret (v := (-1)) hx hb hr (fun t ht hW => ⟨⟨_, (), rfl, rfl, by rw [ht]; exact hP, va_K.moved hW.alike hK, hD⟩, hS.F ht⟩) hS.2.2 dX7_often_29
theorem q_X7_done_0 : (.fieldLink RX7 31 "PictureCourt" "odds" "LPictureCourt$Odds;" : Cond) ∈ wsX7_done := by decide +kernel
theorem h_X7_done : yX7_done.cls = RX7 ∧ yX7_done.cls ≠ "java/lang/invoke/MethodHandle" ∧ yX7_done.cls ≠ "java/lang/invoke/VarHandle" ∧ (parseMethodDescriptor yX7_done.desc).map (fun d => d.parameters.length) = some 2 := by decide +kernel
set_option maxHeartbeats 4000000 in
set_option maxRecDepth 100000 in
theorem c_X7_done (l : Launch) (g : En) (N : Nat) (sz : Nat) (S7 : St) (S2 : St) (x1 : Int32) (x2 : Int32) (res : Int32 × St) (hf : f_X7_done N S7 S2 x1 x2 = some res) : Met l yX7_done wsX7_done { frames := 2, cells := 0, slots := 0, locals := 43 } (rwP g (wd_7_2 g S7 S2) sz [.ref (g.2.2.1 7), .int x1, .int x2]) (rwQi g (wd_7_2 g S7 (res.2)) (va_A (wd_7_2 g S7 S2) sz) (res.1)) 0 0 (va_A (wd_7_2 g S7 S2) sz) := by
  refine Met.ofW (cc := cX7_done) (maxL := 3) (ret := (some .int)) (by decide) rfl ?_
  intro p e s m args below meth c s₁ B hml hv
  obtain ⟨rfl, hsz, hP, hK, hD0⟩ := hv
  have hx := B.exec
  have hb := B.bytes
  have hr := B.returns
  have hts := atoms_spec (ws := wsX7_done) B.pre
  have hown : s.vm.findClass RX7 = some m.cls := findClass_of_methodNamed B.named
  have hlk := B.notSynchronized
  subst hsz
  have hD := hD0.self (sz := s.heap.size)
  generalize hAe : va_A (wd_7_2 g S7 S2) s.heap.size = A at hD ⊢
  have hA : ∀ q : Nat, s.heap.size ≤ q → A q := fun q h => by rw [← hAe]; exact Or.inr h
  have hS : va_S A s.heap s.heap [] := va_S.rf
  have C : cxw g A cX7_done 3 (some .int) wsX7_done RX7 p s m ([.ref (g.2.2.1 7), .int x1, .int x2] : List Value).toArray meth c := ⟨⟨hx, hb, hr, hml, hown, hts, hlk⟩, hK, hA⟩
  have hl := lv_entry [.ref (g.2.2.1 7), .int x1, .int x2] (n := 3) (Nat.le_of_ble_eq_true rfl)
  rw [lg_entry_eq]
  generalize (lg_sl [.ref (g.2.2.1 7), .int x1, .int x2] ++ List.replicate (3 - (lg_sl [.ref (g.2.2.1 7), .int x1, .int x2]).length) Slot.unset).toArray = ls at hl ⊢
  have hl : lv_has ls 3 [(0, .ref (g.2.2.1 7)), (1, .int x1), (2, .int x2)] := hl
  unfold f_X7_done at hf
  suffices K9 : ∀ (H : Heap) (locs : List Loc), va_P g.1 vwCl (wd_7_2 g S7 S2) H → va_D A (wd_7_2 g S7 S2) → va_S A s.heap H locs → ((f_X2_has N S2 x1).bind (fun r5 => (if r5 = 0 then some ((-1), S2) else ((f_X2_isDone N S2 x1).bind (fun r18 => (if r18 = 0 then ((f_X2_finish N S2 x1 x2).bind (fun r33 => (if (r33.1) = 0 then some (0, (r33.2)) else some (1, (r33.2))))) else some ((-4), S2))))))) = some res → W p l e (headSpec wsX7_done { frames := 2, cells := 0, slots := 0, locals := 43 }).room s m ([.ref (g.2.2.1 7), .int x1, .int x2] : List Value).toArray below meth c H locs 0 0 (MQ below (rwQi g (wd_7_2 g S7 (res.2)) A (res.1)) ([.ref (g.2.2.1 7), .int x1, .int x2] : List Value).toArray s 0 0 A) (F0 m 0 ls []) from K9 s.heap [] hP hD hS hf
  clear hP hD hS hf
  intro H locs hP hD hS hf
  refine lv_aload_n (pc := 0) hx hb dX7_done_0 rfl (lv_at hl 0 rfl) ?_
  refine va_get (D := g.1) (ci := 7) (v := .ref (g.2.2.1 2)) (C := RX7) (T := TX7) (N := 13) (pc := 1) hx hb hts (fun _ h => List.mem_cons_of_mem _ (List.mem_append_left _ (List.mem_append_right _ h))) hown hK hP 0 rfl rfl 3 (by decide) (hts _ q_X7_done_0) (fun _ h9 => h9) rfl dX7_done_1 ?_
  refine lv_iload_n (pc := 4) hx hb dX7_done_4 rfl (lv_at hl 1 rfl) ?_
  obtain ⟨r5, e5, hf⟩ := bdE hf
  refine krI (g := g) (wc := (wd_2 g S2)) (pc := 5) (As := [.int x1]) (rest := []) ⟨hx, hb, hml, hown, hts⟩ (c_X2_has l g N S2 x1 r5 e5) (cwV 1 hts gX7_done_X2_has rfl rfl rfl h_X2_has ⟨Nat.le_of_ble_eq_true rfl, Nat.le_of_ble_eq_true rfl⟩) hK (hP.sub (ws' := (wd_2 g S2)) [2, 3, 4, 5, 6, 7, 8, 9, 10] rfl) rfl rfl rfl hl.1 rfl (Nat.le_of_ble_eq_true rfl) dX7_done_5 ⟨Nat.zero_le _, Nat.zero_le _⟩ ?_
  refine lv_if_ne (tgt := 13) (pc := 8) hx hb dX7_done_8 (by decide) (fun c8 => ?_) (fun c8 => ?_)
  · have hf := ff hf c8
    refine lv_aload_n (pc := 13) hx hb dX7_done_13 rfl (lv_at hl 0 rfl) ?_
    refine va_get (D := g.1) (ci := 7) (v := .ref (g.2.2.1 2)) (C := RX7) (T := TX7) (N := 13) (pc := 14) hx hb hts (fun _ h => List.mem_cons_of_mem _ (List.mem_append_left _ (List.mem_append_right _ h))) hown hK hP 0 rfl rfl 3 (by decide) (hts _ q_X7_done_0) (fun _ h9 => h9) rfl dX7_done_14 ?_
    refine lv_iload_n (pc := 17) hx hb dX7_done_17 rfl (lv_at hl 1 rfl) ?_
    obtain ⟨r18, e18, hf⟩ := bdE hf
    refine krI (g := g) (wc := (wd_2 g S2)) (pc := 18) (As := [.int x1]) (rest := []) ⟨hx, hb, hml, hown, hts⟩ (c_X2_isDone l g N S2 x1 r18 e18) (cwV 1 hts gX7_done_X2_isDone rfl rfl rfl h_X2_isDone ⟨Nat.le_of_ble_eq_true rfl, Nat.le_of_ble_eq_true rfl⟩) hK (hP.sub (ws' := (wd_2 g S2)) [2, 3, 4, 5, 6, 7, 8, 9, 10] rfl) rfl rfl rfl hl.1 rfl (Nat.le_of_ble_eq_true rfl) dX7_done_18 ⟨Nat.zero_le _, Nat.zero_le _⟩ ?_
    refine lv_if_eq (tgt := 27) (pc := 21) hx hb dX7_done_21 (by decide) (fun c21 => ?_) (fun c21 => ?_)
    · have hf := ft hf c21
      refine lv_aload_n (pc := 27) hx hb dX7_done_27 rfl (lv_at hl 0 rfl) ?_
      refine va_get (D := g.1) (ci := 7) (v := .ref (g.2.2.1 2)) (C := RX7) (T := TX7) (N := 13) (pc := 28) hx hb hts (fun _ h => List.mem_cons_of_mem _ (List.mem_append_left _ (List.mem_append_right _ h))) hown hK hP 0 rfl rfl 3 (by decide) (hts _ q_X7_done_0) (fun _ h9 => h9) rfl dX7_done_28 ?_
      refine lv_iload_n (pc := 31) hx hb dX7_done_31 rfl (lv_at hl 1 rfl) ?_
      refine lv_iload_n (pc := 32) hx hb dX7_done_32 rfl (lv_at hl 2 rfl) ?_
      obtain ⟨r33, e33, hf⟩ := bdE hf
      refine kwI (g := g) (A := A) (W0 := (wd_7_2 g S7 S2)) (wc := (wd_2 g S2)) (wr := (wd_7 g S7)) (w1 := (wd_2 g (r33.2))) (W1 := (wd_7_2 g S7 (r33.2))) (pc := 33) (As := [.int x1, .int x2]) (rest := []) ⟨hx, hb, hml, hown, hts⟩ hK hA hP hD hS (c_X2_finish l g N H.size S2 x1 x2 r33 e33) (cwV 2 hts gX7_done_X2_finish rfl rfl rfl h_X2_finish ⟨Nat.le_of_ble_eq_true rfl, Nat.le_of_ble_eq_true rfl⟩) [2, 3, 4, 5, 6, 7, 8, 9, 10] [0, 1] [0, 1, 2, 3, 4, 5, 6, 7, 8, 9, 10] rfl rfl rfl rfl rfl (by decide) rfl rfl rfl rfl rfl rfl hl.1 rfl (Nat.le_of_ble_eq_true rfl) dX7_done_33 ⟨Nat.zero_le _, Nat.zero_le _⟩ (fun H locs hP hD hS => ?_)
      refine lv_if_eq (tgt := 43) (pc := 36) hx hb dX7_done_36 (by decide) (fun c36 => ?_) (fun c36 => ?_)
      · have hf := ft hf c36
        refine lv_iconst (v := 0) (pc := 43) hx hb dX7_done_43 (by decide) ?_
        have hf := Option.some.inj hf
        subst hf
        exact W.iret (v := 0) hx hb hr (fun t ht hW => ⟨⟨_, (), rfl, rfl, by rw [ht]; exact hP, va_K.moved hW.alike hK, hD⟩, hS.F ht⟩) hS.2.2 dX7_done_44
      · have hf := ff hf c36
        refine lv_iconst (v := 1) (pc := 39) hx hb dX7_done_39 (by decide) ?_
        refine lv_goto (tgt := 44) (pc := 40) hx hb dX7_done_40 (by decide) ?_
        have hf := Option.some.inj hf
        subst hf
        exact W.iret (v := 1) hx hb hr (fun t ht hW => ⟨⟨_, (), rfl, rfl, by rw [ht]; exact hP, va_K.moved hW.alike hK, hD⟩, hS.F ht⟩) hS.2.2 dX7_done_44
    · have hf := ff hf c21
      refine lv_bipush (v := (-4)) (pc := 24) hx hb dX7_done_24 (by decide) ?_
      have hf := Option.some.inj hf
      subst hf
      exact W.iret (v := (-4)) hx hb hr (fun t ht hW => ⟨⟨_, (), rfl, rfl, by rw [ht]; exact hP, va_K.moved hW.alike hK, hD⟩, hS.F ht⟩) hS.2.2 dX7_done_26
  · have hf := ft hf c8
    refine lv_iconst (v := (-1)) (pc := 11) hx hb dX7_done_11 (by decide) ?_
    have hf := Option.some.inj hf
    subst hf
    exact W.iret (v := (-1)) hx hb hr (fun t ht hW => ⟨⟨_, (), rfl, rfl, by rw [ht]; exact hP, va_K.moved hW.alike hK, hD⟩, hS.F ht⟩) hS.2.2 dX7_done_12
theorem h_X7_commonDivisor : yX7_commonDivisor.cls ≠ "java/lang/invoke/MethodHandle" ∧ yX7_commonDivisor.cls ≠ "java/lang/invoke/VarHandle" ∧ (parseMethodDescriptor yX7_commonDivisor.desc).map (fun d => d.parameters.length) = some 2 := by decide +kernel
set_option maxHeartbeats 4000000 in
set_option maxRecDepth 100000 in
theorem w_X7_commonDivisor_3_b {p : Program} {l : Launch} {e : Env} {s : State} {m : MethodId} {args : Array Value} {below : List Frame} {meth : Method} {c : Code} {N : Nat} {res : Int64} (C : cxs cX7_commonDivisor 7 (some .long) wsX7_commonDivisor RX7 p s m args meth c) (k3 : Int64 → Int64 → Int32 → Option (Int64)) (H3 : ∀ (ls : Array Slot) (x0 : Int64) (x2 : Int64) (x4 : Int32), lv_has ls 7 [(0, .long x0), (2, .long x2), (4, .int x4)] → k3 x0 x2 x4 = some res → W p l e (headSpec wsX7_commonDivisor { frames := 0, cells := 0, slots := 0, locals := 0 }).room s m args below meth c s.heap [] 0 0 (MQ below (vp_Sl (fun r => r = res)) args s 0 0 (fun _ => False)) (F0 m 3 ls [])) : ∀ (ls : Array Slot) (x0 : Int64) (x2 : Int64) (x4 : Int32), lv_has ls 7 [(0, .long x0), (2, .long x2), (4, .int x4)] → f_X7_commonDivisor_3_b N   k3 x0 x2 x4 = some res → W p l e (headSpec wsX7_commonDivisor { frames := 0, cells := 0, slots := 0, locals := 0 }).room s m args below meth c s.heap [] 0 0 (MQ below (vp_Sl (fun r => r = res)) args s 0 0 (fun _ => False)) (F0 m 3 ls []) := by
  intro ls x0 x2 x4 hl hf
  obtain ⟨hx, hb, hr, hml, hown, hts, hlk⟩ := id C
  unfold f_X7_commonDivisor_3_b at hf
  refine lv_lload_n (pc := 3) hx hb dX7_commonDivisor_3 rfl (lv_at hl 1 rfl) ?_
  refine lv_lconst (v := 0) (pc := 4) hx hb dX7_commonDivisor_4 (by decide) ?_
  refine W.lcmp (pc := 5) hx hb dX7_commonDivisor_5 ?_
  refine lv_if_eq (tgt := 33) (pc := 6) hx hb dX7_commonDivisor_6 (by decide) (fun c6 => ?_) (fun c6 => ?_)
  · have hf := ft hf c6
    refine lv_lload_n (pc := 33) hx hb dX7_commonDivisor_33 rfl (lv_at hl 0 rfl) ?_
    have hf := Option.some.inj hf
    subst hf
    exact W.lret (v := x0) hx hb hr (fun t ht hW => ⟨_, rfl, rfl, ht⟩) (fun _ h => by cases h) dX7_commonDivisor_34
  · have hf := ff hf c6
    refine lv_iload (pc := 9) hx hb dX7_commonDivisor_9 (lv_at hl 2 rfl) ?_
    refine lv_sipush (v := 1000) (pc := 11) hx hb dX7_commonDivisor_11 (by decide) ?_
    refine lv_icmp_ge (tgt := 33) (pc := 14) hx hb dX7_commonDivisor_14 (by decide) (fun c14 => ?_) (fun c14 => ?_)
    · have hf := ft hf c14
      refine lv_lload_n (pc := 33) hx hb dX7_commonDivisor_33 rfl (lv_at hl 0 rfl) ?_
      have hf := Option.some.inj hf
      subst hf
      exact W.lret (v := x0) hx hb hr (fun t ht hW => ⟨_, rfl, rfl, ht⟩) (fun _ h => by cases h) dX7_commonDivisor_34
    · have hf := ff hf c14
      refine lv_lload_n (pc := 17) hx hb dX7_commonDivisor_17 rfl (lv_at hl 0 rfl) ?_
      refine lv_lload_n (pc := 18) hx hb dX7_commonDivisor_18 rfl (lv_at hl 1 rfl) ?_
      obtain ⟨z19, hf⟩ := nzE hf
      refine lv_lrem (pc := 19) hx hb dX7_commonDivisor_19 z19 ?_
      refine lv_lstore (lv' := [(5, .long (x0 - x0 / x2 * x2)), (0, .long x0), (2, .long x2), (4, .int x4)]) (pc := 20) hx hb dX7_commonDivisor_20 hl (by decide) rfl (fun ls hl => ?_)
      refine lv_lload_n (pc := 22) hx hb dX7_commonDivisor_22 rfl (lv_at hl 2 rfl) ?_
      refine lv_lstore_n (lv' := [(0, .long x2), (5, .long (x0 - x0 / x2 * x2)), (2, .long x2), (4, .int x4)]) (pc := 23) hx hb dX7_commonDivisor_23 rfl hl (by decide) rfl (fun ls hl => ?_)
      refine lv_lload (pc := 24) hx hb dX7_commonDivisor_24 (lv_at hl 1 rfl) ?_
      refine lv_lstore_n (lv' := [(2, .long (x0 - x0 / x2 * x2)), (0, .long x2), (5, .long (x0 - x0 / x2 * x2)), (4, .int x4)]) (pc := 26) hx hb dX7_commonDivisor_26 rfl hl (by decide) rfl (fun ls hl => ?_)
      refine lv_iinc (v := (x4 + 1)) (lv' := [(4, .int (x4 + 1)), (2, .long (x0 - x0 / x2 * x2)), (0, .long x2), (5, .long (x0 - x0 / x2 * x2))]) (pc := 27) hx hb dX7_commonDivisor_27 hl (k := 3) rfl rfl (by decide) rfl (fun ls hl => ?_)
      refine lv_goto (tgt := 3) (pc := 30) hx hb dX7_commonDivisor_30 (by decide) ?_
      exact H3 ls x2 (x0 - x0 / x2 * x2) (x4 + 1) (lv_sub hl [2, 1, 0] rfl) hf
set_option maxHeartbeats 4000000 in
set_option maxRecDepth 100000 in
theorem w_X7_commonDivisor_3 {p : Program} {l : Launch} {e : Env} {s : State} {m : MethodId} {args : Array Value} {below : List Frame} {meth : Method} {c : Code} {N : Nat} {res : Int64} (C : cxs cX7_commonDivisor 7 (some .long) wsX7_commonDivisor RX7 p s m args meth c) : ∀ (n : Nat), ∀ (ls : Array Slot) (x0 : Int64) (x2 : Int64) (x4 : Int32), lv_has ls 7 [(0, .long x0), (2, .long x2), (4, .int x4)] → f_X7_commonDivisor_3 N   n x0 x2 x4 = some res → W p l e (headSpec wsX7_commonDivisor { frames := 0, cells := 0, slots := 0, locals := 0 }).room s m args below meth c s.heap [] 0 0 (MQ below (vp_Sl (fun r => r = res)) args s 0 0 (fun _ => False)) (F0 m 3 ls []) := by
  intro n
  induction n with
  | zero =>
    intro ls x0 x2 x4 hl hf
    have hf : (none : Option (Int64)) = some res := hf
    cases hf
  | succ n ih =>
    intro ls x0 x2 x4 hl hf
    exact w_X7_commonDivisor_3_b C  (fun y0 y1 y2 => f_X7_commonDivisor_3 N   n y0 y1 y2) ih ls x0 x2 x4 hl hf
set_option maxHeartbeats 4000000 in
set_option maxRecDepth 100000 in
theorem c_X7_commonDivisor (l : Launch) (N : Nat) (x0 : Int64) (x2 : Int64) (res : Int64) (hf : f_X7_commonDivisor N x0 x2 = some res) : Met l yX7_commonDivisor wsX7_commonDivisor { frames := 0, cells := 0, slots := 0, locals := 0 } (va_Pc [.long x0, .long x2] (fun _ => True)) (vp_Sl (fun r => r = res)) 0 0 (fun _ => False) := by
  refine Met.ofW (cc := cX7_commonDivisor) (maxL := 7) (ret := (some .long)) (by decide) rfl ?_
  intro p e s m args below meth c s₁ B hml hv
  obtain ⟨rfl, -⟩ := hv
  have hx := B.exec
  have hb := B.bytes
  have hr := B.returns
  have hts := atoms_spec (ws := wsX7_commonDivisor) B.pre
  have hown : s.vm.findClass RX7 = some m.cls := findClass_of_methodNamed B.named
  have hlk := B.notSynchronized
  have C : cxs cX7_commonDivisor 7 (some .long) wsX7_commonDivisor RX7 p s m ([.long x0, .long x2] : List Value).toArray meth c := ⟨hx, hb, hr, hml, hown, hts, hlk⟩
  have hl := lv_entry [.long x0, .long x2] (n := 7) (Nat.le_of_ble_eq_true rfl)
  rw [lg_entry_eq]
  generalize (lg_sl [.long x0, .long x2] ++ List.replicate (7 - (lg_sl [.long x0, .long x2]).length) Slot.unset).toArray = ls at hl ⊢
  have hl : lv_has ls 7 [(0, .long x0), (2, .long x2)] := hl
  unfold f_X7_commonDivisor at hf
  refine lv_iconst (v := 0) (pc := 0) hx hb dX7_commonDivisor_0 (by decide) ?_
  refine lv_istore (lv' := [(4, .int 0), (0, .long x0), (2, .long x2)]) (pc := 1) hx hb dX7_commonDivisor_1 hl (by decide) rfl (fun ls hl => ?_)
  exact w_X7_commonDivisor_3 C  N ls x0 x2 0 (lv_sub hl [1, 2, 0] rfl) hf
theorem q_X7_tellFraction_0 : (.methodLink RX7 353 Lib.MathLoose.max_long.x : Cond) ∈ wsX7_tellFraction := by decide +kernel
theorem q_X7_tellFraction_1 : (.static Lib.MathLoose.max_long.x : Cond) ∈ wsX7_tellFraction := by decide +kernel
theorem q_X7_tellFraction_2 : (.initialized "java/lang/Math" : Cond) ∈ wsX7_tellFraction := by decide +kernel
theorem q_X7_tellFraction_3 : (.code Lib.MathLoose.max_long.x Lib.MathLoose.max_long.code 4 (some .long) : Cond) ∈ wsX7_tellFraction := by decide +kernel
theorem q_X7_tellFraction_4 : (.fieldLink RX7 70 "PictureCourt" "upperNumber" "J" : Cond) ∈ wsX7_tellFraction := by decide +kernel
theorem q_X7_tellFraction_5 : (.fieldLink RX7 74 "PictureCourt" "lowerNumber" "J" : Cond) ∈ wsX7_tellFraction := by decide +kernel
theorem h_X7_tellFraction : yX7_tellFraction.cls = RX7 ∧ yX7_tellFraction.cls ≠ "java/lang/invoke/MethodHandle" ∧ yX7_tellFraction.cls ≠ "java/lang/invoke/VarHandle" ∧ (parseMethodDescriptor yX7_tellFraction.desc).map (fun d => d.parameters.length) = some 2 := by decide +kernel
set_option maxHeartbeats 4000000 in
set_option maxRecDepth 100000 in
theorem c_X7_tellFraction (l : Launch) (g : En) (N : Nat) (sz : Nat) (S7 : St) (x1 : Int64) (x3 : Int64) (res : St) (hf : f_X7_tellFraction N S7 x1 x3 = some res) : Met l yX7_tellFraction wsX7_tellFraction { frames := 1, cells := 0, slots := 0, locals := 26 } (rwP g (wd_7 g S7) sz [.ref (g.2.2.1 7), .long x1, .long x3]) (rwQv g (wd_7 g res) (va_A (wd_7 g S7) sz)) 0 0 (va_A (wd_7 g S7) sz) := by
  refine Met.ofW (cc := cX7_tellFraction) (maxL := 7) (ret := none) (by decide) rfl ?_
  intro p e s m args below meth c s₁ B hml hv
  obtain ⟨rfl, hsz, hP, hK, hD0⟩ := hv
  have hx := B.exec
  have hb := B.bytes
  have hr := B.returns
  have hts := atoms_spec (ws := wsX7_tellFraction) B.pre
  have hown : s.vm.findClass RX7 = some m.cls := findClass_of_methodNamed B.named
  have hlk := B.notSynchronized
  subst hsz
  have hD := hD0.self (sz := s.heap.size)
  generalize hAe : va_A (wd_7 g S7) s.heap.size = A at hD ⊢
  have hA : ∀ q : Nat, s.heap.size ≤ q → A q := fun q h => by rw [← hAe]; exact Or.inr h
  have hS : va_S A s.heap s.heap [] := va_S.rf
  have C : cxw g A cX7_tellFraction 7 none wsX7_tellFraction RX7 p s m ([.ref (g.2.2.1 7), .long x1, .long x3] : List Value).toArray meth c := ⟨⟨hx, hb, hr, hml, hown, hts, hlk⟩, hK, hA⟩
  have hl := lv_entry [.ref (g.2.2.1 7), .long x1, .long x3] (n := 7) (Nat.le_of_ble_eq_true rfl)
  rw [lg_entry_eq]
  generalize (lg_sl [.ref (g.2.2.1 7), .long x1, .long x3] ++ List.replicate (7 - (lg_sl [.ref (g.2.2.1 7), .long x1, .long x3]).length) Slot.unset).toArray = ls at hl ⊢
  have hl : lv_has ls 7 [(0, .ref (g.2.2.1 7)), (1, .long x1), (3, .long x3)] := hl
  unfold f_X7_tellFraction at hf
  suffices K9 : ∀ (H : Heap) (locs : List Loc), va_P g.1 vwCl (wd_7 g S7) H → va_D A (wd_7 g S7) → va_S A s.heap H locs → ((f_X7_commonDivisor N x1 x3).bind (fun r3 => (if ((if r3 < 1 then 1 else r3) : Int64) = 0 then none else (if ((if r3 < 1 then 1 else r3) : Int64) = 0 then none else some ((sL (sL S7 11 (x1 / (if r3 < 1 then 1 else r3))) 12 (x3 / (if r3 < 1 then 1 else r3)))))))) = some res → W p l e (headSpec wsX7_tellFraction { frames := 1, cells := 0, slots := 0, locals := 26 }).room s m ([.ref (g.2.2.1 7), .long x1, .long x3] : List Value).toArray below meth c H locs 0 0 (MQ below (rwQv g (wd_7 g res) A) ([.ref (g.2.2.1 7), .long x1, .long x3] : List Value).toArray s 0 0 A) (F0 m 0 ls []) from K9 s.heap [] hP hD hS hf
  clear hP hD hS hf
  intro H locs hP hD hS hf
  refine lv_lconst (v := 1) (pc := 0) hx hb dX7_tellFraction_0 (by decide) ?_
  refine lv_lload_n (pc := 1) hx hb dX7_tellFraction_1 rfl (lv_at hl 1 rfl) ?_
  refine lv_lload_n (pc := 2) hx hb dX7_tellFraction_2 rfl (lv_at hl 2 rfl) ?_
  obtain ⟨r3, e3, hf⟩ := bdE hf
  refine ksL (pc := 3) (As := [.long x1, .long x3]) (rest := [.long 1]) ⟨hx, hb, hml, hown, hts⟩ (c_X7_commonDivisor l N x1 x3 r3 e3) (va_cwS 2 hts gX7_tellFraction_X7_commonDivisor rfl rfl rfl h_X7_commonDivisor ⟨Nat.le_of_ble_eq_true rfl, Nat.le_of_ble_eq_true rfl⟩) rfl hl.1 rfl (Nat.le_of_ble_eq_true rfl) dX7_tellFraction_3 ⟨Nat.zero_le _, Nat.zero_le _⟩ ?_
  refine va_mmax_long (pc := 6) hx hb (hml.trans hl.1.symm) hown (hts _ q_X7_tellFraction_0) (hts _ q_X7_tellFraction_1) (hts _ q_X7_tellFraction_2) (hts _ q_X7_tellFraction_3) (Nat.le_of_ble_eq_true rfl) (Nat.le_of_ble_eq_true rfl) (Nat.zero_le _) (Nat.zero_le _) dX7_tellFraction_6 ?_
  refine lv_lstore (lv' := [(5, .long (if r3 < 1 then 1 else r3)), (0, .ref (g.2.2.1 7)), (1, .long x1), (3, .long x3)]) (pc := 9) hx hb dX7_tellFraction_9 hl (by decide) rfl (fun ls hl => ?_)
  refine lv_aload_n (pc := 11) hx hb dX7_tellFraction_11 rfl (lv_at hl 1 rfl) ?_
  refine lv_lload_n (pc := 12) hx hb dX7_tellFraction_12 rfl (lv_at hl 2 rfl) ?_
  refine lv_lload (pc := 13) hx hb dX7_tellFraction_13 (lv_at hl 0 rfl) ?_
  obtain ⟨z15, hf⟩ := nzE hf
  refine lv_ldiv (pc := 15) hx hb dX7_tellFraction_15 z15 ?_
  refine va_put (D := g.1) (ci := 7) (v := .long (x1 / (if r3 < 1 then 1 else r3))) (ty := .long) (C := RX7) (T := TX7) (N := 13) (pc := 16) hx hb hts (fun _ h => List.mem_cons_of_mem _ (List.mem_append_right _ h)) tyX7 tyX7_ok nmX7 hown hK hP hD hS 0 rfl rfl 11 (by decide) (hts _ q_X7_tellFraction_4) (fun _ h9 => h9) rfl rfl rfl rfl (Nat.le_of_ble_eq_true rfl) dX7_tellFraction_16 (fun H locs hP hD hS => ?_)
  have hP := u_7_7_11P S7 (x1 / (if r3 < 1 then 1 else r3)) hP
  have hD := u_7_7_11D S7 (x1 / (if r3 < 1 then 1 else r3)) hD
  refine lv_aload_n (pc := 19) hx hb dX7_tellFraction_19 rfl (lv_at hl 1 rfl) ?_
  refine lv_lload_n (pc := 20) hx hb dX7_tellFraction_20 rfl (lv_at hl 3 rfl) ?_
  refine lv_lload (pc := 21) hx hb dX7_tellFraction_21 (lv_at hl 0 rfl) ?_
  obtain ⟨z23, hf⟩ := nzE hf
  refine lv_ldiv (pc := 23) hx hb dX7_tellFraction_23 z23 ?_
  refine va_put (D := g.1) (ci := 7) (v := .long (x3 / (if r3 < 1 then 1 else r3))) (ty := .long) (C := RX7) (T := TX7) (N := 13) (pc := 24) hx hb hts (fun _ h => List.mem_cons_of_mem _ (List.mem_append_right _ h)) tyX7 tyX7_ok nmX7 hown hK hP hD hS 0 rfl rfl 12 (by decide) (hts _ q_X7_tellFraction_5) (fun _ h9 => h9) rfl rfl rfl rfl (Nat.le_of_ble_eq_true rfl) dX7_tellFraction_24 (fun H locs hP hD hS => ?_)
  have hP := u_7_7_12P (sL S7 11 (x1 / (if r3 < 1 then 1 else r3))) (x3 / (if r3 < 1 then 1 else r3)) hP
  have hD := u_7_7_12D (sL S7 11 (x1 / (if r3 < 1 then 1 else r3))) (x3 / (if r3 < 1 then 1 else r3)) hD
  have hf := Option.some.inj hf
  subst hf
  exact W.vret hx hb hr (fun t ht hW => ⟨⟨(), rfl, trivial, by rw [ht]; exact hP, va_K.moved hW.alike hK, hD⟩, hS.F ht⟩) hS.2.2 dX7_tellFraction_27
theorem q_X7_chance_0 : (.fieldLink RX7 31 "PictureCourt" "odds" "LPictureCourt$Odds;" : Cond) ∈ wsX7_chance := by decide +kernel
theorem h_X7_chance : yX7_chance.cls = RX7 ∧ yX7_chance.cls ≠ "java/lang/invoke/MethodHandle" ∧ yX7_chance.cls ≠ "java/lang/invoke/VarHandle" ∧ (parseMethodDescriptor yX7_chance.desc).map (fun d => d.parameters.length) = some 1 := by decide +kernel
set_option maxHeartbeats 4000000 in
set_option maxRecDepth 100000 in
theorem c_X7_chance (l : Launch) (g : En) (N : Nat) (sz : Nat) (S7 : St) (S2 : St) (x1 : Int32) (res : Int32 × St) (hf : f_X7_chance N S7 S2 x1 = some res) : Met l yX7_chance wsX7_chance { frames := 2, cells := 0, slots := 0, locals := 52 } (rwP g (wd_7_2 g S7 S2) sz [.ref (g.2.2.1 7), .int x1]) (rwQi g (wd_7_2 g (res.2) S2) (va_A (wd_7_2 g S7 S2) sz) (res.1)) 0 0 (va_A (wd_7_2 g S7 S2) sz) := by
  refine Met.ofW (cc := cX7_chance) (maxL := 4) (ret := (some .int)) (by decide) rfl ?_
  intro p e s m args below meth c s₁ B hml hv
  obtain ⟨rfl, hsz, hP, hK, hD0⟩ := hv
  have hx := B.exec
  have hb := B.bytes
  have hr := B.returns
  have hts := atoms_spec (ws := wsX7_chance) B.pre
  have hown : s.vm.findClass RX7 = some m.cls := findClass_of_methodNamed B.named
  have hlk := B.notSynchronized
  subst hsz
  have hD := hD0.self (sz := s.heap.size)
  generalize hAe : va_A (wd_7_2 g S7 S2) s.heap.size = A at hD ⊢
  have hA : ∀ q : Nat, s.heap.size ≤ q → A q := fun q h => by rw [← hAe]; exact Or.inr h
  have hS : va_S A s.heap s.heap [] := va_S.rf
  have C : cxw g A cX7_chance 4 (some .int) wsX7_chance RX7 p s m ([.ref (g.2.2.1 7), .int x1] : List Value).toArray meth c := ⟨⟨hx, hb, hr, hml, hown, hts, hlk⟩, hK, hA⟩
  have hl := lv_entry [.ref (g.2.2.1 7), .int x1] (n := 4) (Nat.le_of_ble_eq_true rfl)
  rw [lg_entry_eq]
  generalize (lg_sl [.ref (g.2.2.1 7), .int x1] ++ List.replicate (4 - (lg_sl [.ref (g.2.2.1 7), .int x1]).length) Slot.unset).toArray = ls at hl ⊢
  have hl : lv_has ls 4 [(0, .ref (g.2.2.1 7)), (1, .int x1)] := hl
  unfold f_X7_chance at hf
  suffices K9 : ∀ (H : Heap) (locs : List Loc), va_P g.1 vwCl (wd_7_2 g S7 S2) H → va_D A (wd_7_2 g S7 S2) → va_S A s.heap H locs → ((f_X7_isHand N x1).bind (fun r1 => (if r1 = 0 then some ((-1), S7) else ((f_X2_scoreOfAll N S2).bind (fun r13 => (if (lg_cmp r13 0) = 0 then ((f_X7_refuse N S7 4).bind (fun r25 => some ((r25.1), (r25.2)))) else ((f_X2_score N S2 x1).bind (fun r35 => ((f_X7_tellFraction N S7 r35 r13).bind (fun r39 => some (1, r39))))))))))) = some res → W p l e (headSpec wsX7_chance { frames := 2, cells := 0, slots := 0, locals := 52 }).room s m ([.ref (g.2.2.1 7), .int x1] : List Value).toArray below meth c H locs 0 0 (MQ below (rwQi g (wd_7_2 g (res.2) S2) A (res.1)) ([.ref (g.2.2.1 7), .int x1] : List Value).toArray s 0 0 A) (F0 m 0 ls []) from K9 s.heap [] hP hD hS hf
  clear hP hD hS hf
  intro H locs hP hD hS hf
  refine lv_iload_n (pc := 0) hx hb dX7_chance_0 rfl (lv_at hl 1 rfl) ?_
  obtain ⟨r1, e1, hf⟩ := bdE hf
  refine ksI (pc := 1) (As := [.int x1]) (rest := []) ⟨hx, hb, hml, hown, hts⟩ (c_X7_isHand l N x1 r1 e1) (va_cwS 1 hts gX7_chance_X7_isHand rfl rfl rfl h_X7_isHand ⟨Nat.le_of_ble_eq_true rfl, Nat.le_of_ble_eq_true rfl⟩) rfl hl.1 rfl (Nat.le_of_ble_eq_true rfl) dX7_chance_1 ⟨Nat.zero_le _, Nat.zero_le _⟩ ?_
  refine lv_if_ne (tgt := 9) (pc := 4) hx hb dX7_chance_4 (by decide) (fun c4 => ?_) (fun c4 => ?_)
  · have hf := ff hf c4
    refine lv_aload_n (pc := 9) hx hb dX7_chance_9 rfl (lv_at hl 0 rfl) ?_
    refine va_get (D := g.1) (ci := 7) (v := .ref (g.2.2.1 2)) (C := RX7) (T := TX7) (N := 13) (pc := 10) hx hb hts (fun _ h => List.mem_cons_of_mem _ (List.mem_append_left _ (List.mem_append_right _ h))) hown hK hP 0 rfl rfl 3 (by decide) (hts _ q_X7_chance_0) (fun _ h9 => h9) rfl dX7_chance_10 ?_
    obtain ⟨r13, e13, hf⟩ := bdE hf
    refine krL (g := g) (wc := (wd_2 g S2)) (pc := 13) (As := []) (rest := []) ⟨hx, hb, hml, hown, hts⟩ (c_X2_scoreOfAll l g N S2 r13 e13) (cwV 0 hts gX7_chance_X2_scoreOfAll rfl rfl rfl h_X2_scoreOfAll ⟨Nat.le_of_ble_eq_true rfl, Nat.le_of_ble_eq_true rfl⟩) hK (hP.sub (ws' := (wd_2 g S2)) [2, 3, 4, 5, 6, 7, 8, 9, 10] rfl) rfl rfl rfl hl.1 rfl (Nat.le_of_ble_eq_true rfl) dX7_chance_13 ⟨Nat.zero_le _, Nat.zero_le _⟩ ?_
    refine lv_lstore_n (lv' := [(2, .long r13), (0, .ref (g.2.2.1 7)), (1, .int x1)]) (pc := 16) hx hb dX7_chance_16 rfl hl (by decide) rfl (fun ls hl => ?_)
    refine lv_lload_n (pc := 17) hx hb dX7_chance_17 rfl (lv_at hl 0 rfl) ?_
    refine lv_lconst (v := 0) (pc := 18) hx hb dX7_chance_18 (by decide) ?_
    refine W.lcmp (pc := 19) hx hb dX7_chance_19 ?_
    refine lv_if_ne (tgt := 29) (pc := 20) hx hb dX7_chance_20 (by decide) (fun c20 => ?_) (fun c20 => ?_)
    · have hf := ff hf c20
      refine lv_aload_n (pc := 29) hx hb dX7_chance_29 rfl (lv_at hl 1 rfl) ?_
      refine lv_aload_n (pc := 30) hx hb dX7_chance_30 rfl (lv_at hl 1 rfl) ?_
      refine va_get (D := g.1) (ci := 7) (v := .ref (g.2.2.1 2)) (C := RX7) (T := TX7) (N := 13) (pc := 31) hx hb hts (fun _ h => List.mem_cons_of_mem _ (List.mem_append_left _ (List.mem_append_right _ h))) hown hK hP 0 rfl rfl 3 (by decide) (hts _ q_X7_chance_0) (fun _ h9 => h9) rfl dX7_chance_31 ?_
      refine lv_iload_n (pc := 34) hx hb dX7_chance_34 rfl (lv_at hl 2 rfl) ?_
      obtain ⟨r35, e35, hf⟩ := bdE hf
      refine krL (g := g) (wc := (wd_2 g S2)) (pc := 35) (As := [.int x1]) (rest := [.ref (g.2.2.1 7)]) ⟨hx, hb, hml, hown, hts⟩ (c_X2_score l g N S2 x1 r35 e35) (cwV 1 hts gX7_chance_X2_score rfl rfl rfl h_X2_score ⟨Nat.le_of_ble_eq_true rfl, Nat.le_of_ble_eq_true rfl⟩) hK (hP.sub (ws' := (wd_2 g S2)) [2, 3, 4, 5, 6, 7, 8, 9, 10] rfl) rfl rfl rfl hl.1 rfl (Nat.le_of_ble_eq_true rfl) dX7_chance_35 ⟨Nat.zero_le _, Nat.zero_le _⟩ ?_
      refine lv_lload_n (pc := 38) hx hb dX7_chance_38 rfl (lv_at hl 0 rfl) ?_
      obtain ⟨r39, e39, hf⟩ := bdE hf
      refine kwV (g := g) (A := A) (W0 := (wd_7_2 g S7 S2)) (wc := (wd_7 g S7)) (wr := (wd_2 g S2)) (w1 := (wd_7 g r39)) (W1 := (wd_7_2 g r39 S2)) (pc := 39) (As := [.long r35, .long r13]) (rest := []) ⟨hx, hb, hml, hown, hts⟩ hK hA hP hD hS (c_X7_tellFraction l g N H.size S7 r35 r13 r39 e39) (cwV 2 hts gX7_chance_X7_tellFraction rfl rfl rfl h_X7_tellFraction ⟨Nat.le_of_ble_eq_true rfl, Nat.le_of_ble_eq_true rfl⟩) [0, 1] [2, 3, 4, 5, 6, 7, 8, 9, 10] [9, 10, 0, 1, 2, 3, 4, 5, 6, 7, 8] rfl rfl rfl rfl rfl (by decide) rfl rfl rfl rfl rfl rfl hl.1 rfl (Nat.le_of_ble_eq_true rfl) dX7_chance_39 ⟨Nat.zero_le _, Nat.zero_le _⟩ (fun H locs hP hD hS => ?_)
      refine lv_iconst (v := 1) (pc := 42) hx hb dX7_chance_42 (by decide) ?_
      have hf := Option.some.inj hf
      subst hf
      exact W.iret (v := 1) hx hb hr (fun t ht hW => ⟨⟨_, (), rfl, rfl, by rw [ht]; exact hP, va_K.moved hW.alike hK, hD⟩, hS.F ht⟩) hS.2.2 dX7_chance_43
    · have hf := ft hf c20
      refine lv_aload_n (pc := 23) hx hb dX7_chance_23 rfl (lv_at hl 1 rfl) ?_
      refine lv_iconst (v := 4) (pc := 24) hx hb dX7_chance_24 (by decide) ?_
      obtain ⟨r25, e25, hf⟩ := bdE hf
      refine kwI (g := g) (A := A) (W0 := (wd_7_2 g S7 S2)) (wc := (wd_7 g S7)) (wr := (wd_2 g S2)) (w1 := (wd_7 g (r25.2))) (W1 := (wd_7_2 g (r25.2) S2)) (pc := 25) (As := [.int 4]) (rest := []) ⟨hx, hb, hml, hown, hts⟩ hK hA hP hD hS (c_X7_refuse l g N H.size S7 4 r25 e25) (cwV 1 hts gX7_chance_X7_refuse rfl rfl rfl h_X7_refuse ⟨Nat.le_of_ble_eq_true rfl, Nat.le_of_ble_eq_true rfl⟩) [0, 1] [2, 3, 4, 5, 6, 7, 8, 9, 10] [9, 10, 0, 1, 2, 3, 4, 5, 6, 7, 8] rfl rfl rfl rfl rfl (by decide) rfl rfl rfl rfl rfl rfl hl.1 rfl (Nat.le_of_ble_eq_true rfl) dX7_chance_25 ⟨Nat.zero_le _, Nat.zero_le _⟩ (fun H locs hP hD hS => ?_)
      have hf := Option.some.inj hf
      subst hf
      exact W.iret (v := (r25.1)) hx hb hr (fun t ht hW => ⟨⟨_, (), rfl, rfl, by rw [ht]; exact hP, va_K.moved hW.alike hK, hD⟩, hS.F ht⟩) hS.2.2 dX7_chance_28
  · have hf := ft hf c4
    refine lv_iconst (v := (-1)) (pc := 7) hx hb dX7_chance_7 (by decide) ?_
    have hf := Option.some.inj hf
    subst hf
    exact W.iret (v := (-1)) hx hb hr (fun t ht hW => ⟨⟨_, (), rfl, rfl, by rw [ht]; exact hP, va_K.moved hW.alike hK, hD⟩, hS.F ht⟩) hS.2.2 dX7_chance_8
theorem q_X7_likely_0 : (.fieldLink RX7 31 "PictureCourt" "odds" "LPictureCourt$Odds;" : Cond) ∈ wsX7_likely := by decide +kernel
theorem h_X7_likely : yX7_likely.cls = RX7 ∧ yX7_likely.cls ≠ "java/lang/invoke/MethodHandle" ∧ yX7_likely.cls ≠ "java/lang/invoke/VarHandle" ∧ (parseMethodDescriptor yX7_likely.desc).map (fun d => d.parameters.length) = some 0 := by decide +kernel
set_option maxHeartbeats 4000000 in
set_option maxRecDepth 100000 in
theorem c_X7_likely (l : Launch) (g : En) (N : Nat) (sz : Nat) (S7 : St) (S2 : St) (res : Int32 × St) (hf : f_X7_likely N S7 S2 = some res) : Met l yX7_likely wsX7_likely { frames := 2, cells := 0, slots := 0, locals := 48 } (rwP g (wd_7_2 g S7 S2) sz [.ref (g.2.2.1 7)]) (rwQi g (wd_7_2 g (res.2) S2) (va_A (wd_7_2 g S7 S2) sz) (res.1)) 0 0 (va_A (wd_7_2 g S7 S2) sz) := by
  refine Met.ofW (cc := cX7_likely) (maxL := 1) (ret := (some .int)) (by decide) rfl ?_
  intro p e s m args below meth c s₁ B hml hv
  obtain ⟨rfl, hsz, hP, hK, hD0⟩ := hv
  have hx := B.exec
  have hb := B.bytes
  have hr := B.returns
  have hts := atoms_spec (ws := wsX7_likely) B.pre
  have hown : s.vm.findClass RX7 = some m.cls := findClass_of_methodNamed B.named
  have hlk := B.notSynchronized
  subst hsz
  have hD := hD0.self (sz := s.heap.size)
  generalize hAe : va_A (wd_7_2 g S7 S2) s.heap.size = A at hD ⊢
  have hA : ∀ q : Nat, s.heap.size ≤ q → A q := fun q h => by rw [← hAe]; exact Or.inr h
  have hS : va_S A s.heap s.heap [] := va_S.rf
  have C : cxw g A cX7_likely 1 (some .int) wsX7_likely RX7 p s m ([.ref (g.2.2.1 7)] : List Value).toArray meth c := ⟨⟨hx, hb, hr, hml, hown, hts, hlk⟩, hK, hA⟩
  have hl := lv_entry [.ref (g.2.2.1 7)] (n := 1) (Nat.le_of_ble_eq_true rfl)
  rw [lg_entry_eq]
  generalize (lg_sl [.ref (g.2.2.1 7)] ++ List.replicate (1 - (lg_sl [.ref (g.2.2.1 7)]).length) Slot.unset).toArray = ls at hl ⊢
  have hl : lv_has ls 1 [(0, .ref (g.2.2.1 7))] := hl
  unfold f_X7_likely at hf
  suffices K9 : ∀ (H : Heap) (locs : List Loc), va_P g.1 vwCl (wd_7_2 g S7 S2) H → va_D A (wd_7_2 g S7 S2) → va_S A s.heap H locs → ((f_X2_scoreOfAll N S2).bind (fun r4 => (if (lg_cmp r4 0) = 0 then ((f_X7_refuse N S7 4).bind (fun r14 => some ((r14.1), (r14.2)))) else ((f_X2_likeliest N S2).bind (fun r22 => some (r22, S7)))))) = some res → W p l e (headSpec wsX7_likely { frames := 2, cells := 0, slots := 0, locals := 48 }).room s m ([.ref (g.2.2.1 7)] : List Value).toArray below meth c H locs 0 0 (MQ below (rwQi g (wd_7_2 g (res.2) S2) A (res.1)) ([.ref (g.2.2.1 7)] : List Value).toArray s 0 0 A) (F0 m 0 ls []) from K9 s.heap [] hP hD hS hf
  clear hP hD hS hf
  intro H locs hP hD hS hf
  refine lv_aload_n (pc := 0) hx hb dX7_likely_0 rfl (lv_at hl 0 rfl) ?_
  refine va_get (D := g.1) (ci := 7) (v := .ref (g.2.2.1 2)) (C := RX7) (T := TX7) (N := 13) (pc := 1) hx hb hts (fun _ h => List.mem_cons_of_mem _ (List.mem_append_left _ (List.mem_append_right _ h))) hown hK hP 0 rfl rfl 3 (by decide) (hts _ q_X7_likely_0) (fun _ h9 => h9) rfl dX7_likely_1 ?_
  obtain ⟨r4, e4, hf⟩ := bdE hf
  refine krL (g := g) (wc := (wd_2 g S2)) (pc := 4) (As := []) (rest := []) ⟨hx, hb, hml, hown, hts⟩ (c_X2_scoreOfAll l g N S2 r4 e4) (cwV 0 hts gX7_likely_X2_scoreOfAll rfl rfl rfl h_X2_scoreOfAll ⟨Nat.le_of_ble_eq_true rfl, Nat.le_of_ble_eq_true rfl⟩) hK (hP.sub (ws' := (wd_2 g S2)) [2, 3, 4, 5, 6, 7, 8, 9, 10] rfl) rfl rfl rfl hl.1 rfl (Nat.le_of_ble_eq_true rfl) dX7_likely_4 ⟨Nat.zero_le _, Nat.zero_le _⟩ ?_
  refine lv_lconst (v := 0) (pc := 7) hx hb dX7_likely_7 (by decide) ?_
  refine W.lcmp (pc := 8) hx hb dX7_likely_8 ?_
  refine lv_if_ne (tgt := 18) (pc := 9) hx hb dX7_likely_9 (by decide) (fun c9 => ?_) (fun c9 => ?_)
  · have hf := ff hf c9
    refine lv_aload_n (pc := 18) hx hb dX7_likely_18 rfl (lv_at hl 0 rfl) ?_
    refine va_get (D := g.1) (ci := 7) (v := .ref (g.2.2.1 2)) (C := RX7) (T := TX7) (N := 13) (pc := 19) hx hb hts (fun _ h => List.mem_cons_of_mem _ (List.mem_append_left _ (List.mem_append_right _ h))) hown hK hP 0 rfl rfl 3 (by decide) (hts _ q_X7_likely_0) (fun _ h9 => h9) rfl dX7_likely_19 ?_
    obtain ⟨r22, e22, hf⟩ := bdE hf
    refine krI (g := g) (wc := (wd_2 g S2)) (pc := 22) (As := []) (rest := []) ⟨hx, hb, hml, hown, hts⟩ (c_X2_likeliest l g N S2 r22 e22) (cwV 0 hts gX7_likely_X2_likeliest rfl rfl rfl h_X2_likeliest ⟨Nat.le_of_ble_eq_true rfl, Nat.le_of_ble_eq_true rfl⟩) hK (hP.sub (ws' := (wd_2 g S2)) [2, 3, 4, 5, 6, 7, 8, 9, 10] rfl) rfl rfl rfl hl.1 rfl (Nat.le_of_ble_eq_true rfl) dX7_likely_22 ⟨Nat.zero_le _, Nat.zero_le _⟩ ?_
    have hf := Option.some.inj hf
    subst hf
    exact W.iret (v := r22) hx hb hr (fun t ht hW => ⟨⟨_, (), rfl, rfl, by rw [ht]; exact hP, va_K.moved hW.alike hK, hD⟩, hS.F ht⟩) hS.2.2 dX7_likely_25
  · have hf := ft hf c9
    refine lv_aload_n (pc := 12) hx hb dX7_likely_12 rfl (lv_at hl 0 rfl) ?_
    refine lv_iconst (v := 4) (pc := 13) hx hb dX7_likely_13 (by decide) ?_
    obtain ⟨r14, e14, hf⟩ := bdE hf
    refine kwI (g := g) (A := A) (W0 := (wd_7_2 g S7 S2)) (wc := (wd_7 g S7)) (wr := (wd_2 g S2)) (w1 := (wd_7 g (r14.2))) (W1 := (wd_7_2 g (r14.2) S2)) (pc := 14) (As := [.int 4]) (rest := []) ⟨hx, hb, hml, hown, hts⟩ hK hA hP hD hS (c_X7_refuse l g N H.size S7 4 r14 e14) (cwV 1 hts gX7_likely_X7_refuse rfl rfl rfl h_X7_refuse ⟨Nat.le_of_ble_eq_true rfl, Nat.le_of_ble_eq_true rfl⟩) [0, 1] [2, 3, 4, 5, 6, 7, 8, 9, 10] [9, 10, 0, 1, 2, 3, 4, 5, 6, 7, 8] rfl rfl rfl rfl rfl (by decide) rfl rfl rfl rfl rfl rfl hl.1 rfl (Nat.le_of_ble_eq_true rfl) dX7_likely_14 ⟨Nat.zero_le _, Nat.zero_le _⟩ (fun H locs hP hD hS => ?_)
    have hf := Option.some.inj hf
    subst hf
    exact W.iret (v := (r14.1)) hx hb hr (fun t ht hW => ⟨⟨_, (), rfl, rfl, by rw [ht]; exact hP, va_K.moved hW.alike hK, hD⟩, hS.F ht⟩) hS.2.2 dX7_likely_17
theorem q_X7_gain_0 : (.fieldLink RX7 31 "PictureCourt" "odds" "LPictureCourt$Odds;" : Cond) ∈ wsX7_gain := by decide +kernel
theorem q_X7_gain_1 : (.constantLong RX7 260 16 : Cond) ∈ wsX7_gain := by decide +kernel
theorem h_X7_gain : yX7_gain.cls = RX7 ∧ yX7_gain.cls ≠ "java/lang/invoke/MethodHandle" ∧ yX7_gain.cls ≠ "java/lang/invoke/VarHandle" ∧ (parseMethodDescriptor yX7_gain.desc).map (fun d => d.parameters.length) = some 1 := by decide +kernel
set_option maxHeartbeats 4000000 in
set_option maxRecDepth 100000 in
theorem c_X7_gain (l : Launch) (g : En) (N : Nat) (sz : Nat) (S7 : St) (S2 : St) (x1 : Int32) (res : Int32 × St) (hf : f_X7_gain N S7 S2 x1 = some res) : Met l yX7_gain wsX7_gain { frames := 2, cells := 0, slots := 0, locals := 56 } (rwP g (wd_7_2 g S7 S2) sz [.ref (g.2.2.1 7), .int x1]) (rwQi g (wd_7_2 g (res.2) S2) (va_A (wd_7_2 g S7 S2) sz) (res.1)) 0 0 (va_A (wd_7_2 g S7 S2) sz) := by
  refine Met.ofW (cc := cX7_gain) (maxL := 4) (ret := (some .int)) (by decide) rfl ?_
  intro p e s m args below meth c s₁ B hml hv
  obtain ⟨rfl, hsz, hP, hK, hD0⟩ := hv
  have hx := B.exec
  have hb := B.bytes
  have hr := B.returns
  have hts := atoms_spec (ws := wsX7_gain) B.pre
  have hown : s.vm.findClass RX7 = some m.cls := findClass_of_methodNamed B.named
  have hlk := B.notSynchronized
  subst hsz
  have hD := hD0.self (sz := s.heap.size)
  generalize hAe : va_A (wd_7_2 g S7 S2) s.heap.size = A at hD ⊢
  have hA : ∀ q : Nat, s.heap.size ≤ q → A q := fun q h => by rw [← hAe]; exact Or.inr h
  have hS : va_S A s.heap s.heap [] := va_S.rf
  have C : cxw g A cX7_gain 4 (some .int) wsX7_gain RX7 p s m ([.ref (g.2.2.1 7), .int x1] : List Value).toArray meth c := ⟨⟨hx, hb, hr, hml, hown, hts, hlk⟩, hK, hA⟩
  have hl := lv_entry [.ref (g.2.2.1 7), .int x1] (n := 4) (Nat.le_of_ble_eq_true rfl)
  rw [lg_entry_eq]
  generalize (lg_sl [.ref (g.2.2.1 7), .int x1] ++ List.replicate (4 - (lg_sl [.ref (g.2.2.1 7), .int x1]).length) Slot.unset).toArray = ls at hl ⊢
  have hl : lv_has ls 4 [(0, .ref (g.2.2.1 7)), (1, .int x1)] := hl
  unfold f_X7_gain at hf
  suffices K9 : ∀ (H : Heap) (locs : List Loc), va_P g.1 vwCl (wd_7_2 g S7 S2) H → va_D A (wd_7_2 g S7 S2) → va_S A s.heap H locs → ((f_X2_has N S2 x1).bind (fun r5 => (if r5 = 0 then some ((-1), S7) else ((f_X2_isOpen N S2 x1).bind (fun r18 => (if r18 = 0 then some ((-4), S7) else ((f_X2_scoreOfAll N S2).bind (fun r31 => (if (lg_cmp r31 0) = 0 then ((f_X7_refuse N S7 4).bind (fun r43 => some ((r43.1), (r43.2)))) else ((f_X2_gainOf N S2 x1).bind (fun r53 => ((f_X7_tellFraction N S7 r53 (16 * r31)).bind (fun r61 => some (1, r61)))))))))))))) = some res → W p l e (headSpec wsX7_gain { frames := 2, cells := 0, slots := 0, locals := 56 }).room s m ([.ref (g.2.2.1 7), .int x1] : List Value).toArray below meth c H locs 0 0 (MQ below (rwQi g (wd_7_2 g (res.2) S2) A (res.1)) ([.ref (g.2.2.1 7), .int x1] : List Value).toArray s 0 0 A) (F0 m 0 ls []) from K9 s.heap [] hP hD hS hf
  clear hP hD hS hf
  intro H locs hP hD hS hf
  refine lv_aload_n (pc := 0) hx hb dX7_gain_0 rfl (lv_at hl 0 rfl) ?_
  refine va_get (D := g.1) (ci := 7) (v := .ref (g.2.2.1 2)) (C := RX7) (T := TX7) (N := 13) (pc := 1) hx hb hts (fun _ h => List.mem_cons_of_mem _ (List.mem_append_left _ (List.mem_append_right _ h))) hown hK hP 0 rfl rfl 3 (by decide) (hts _ q_X7_gain_0) (fun _ h9 => h9) rfl dX7_gain_1 ?_
  refine lv_iload_n (pc := 4) hx hb dX7_gain_4 rfl (lv_at hl 1 rfl) ?_
  obtain ⟨r5, e5, hf⟩ := bdE hf
  refine krI (g := g) (wc := (wd_2 g S2)) (pc := 5) (As := [.int x1]) (rest := []) ⟨hx, hb, hml, hown, hts⟩ (c_X2_has l g N S2 x1 r5 e5) (cwV 1 hts gX7_gain_X2_has rfl rfl rfl h_X2_has ⟨Nat.le_of_ble_eq_true rfl, Nat.le_of_ble_eq_true rfl⟩) hK (hP.sub (ws' := (wd_2 g S2)) [2, 3, 4, 5, 6, 7, 8, 9, 10] rfl) rfl rfl rfl hl.1 rfl (Nat.le_of_ble_eq_true rfl) dX7_gain_5 ⟨Nat.zero_le _, Nat.zero_le _⟩ ?_
  refine lv_if_ne (tgt := 13) (pc := 8) hx hb dX7_gain_8 (by decide) (fun c8 => ?_) (fun c8 => ?_)
  · have hf := ff hf c8
    refine lv_aload_n (pc := 13) hx hb dX7_gain_13 rfl (lv_at hl 0 rfl) ?_
    refine va_get (D := g.1) (ci := 7) (v := .ref (g.2.2.1 2)) (C := RX7) (T := TX7) (N := 13) (pc := 14) hx hb hts (fun _ h => List.mem_cons_of_mem _ (List.mem_append_left _ (List.mem_append_right _ h))) hown hK hP 0 rfl rfl 3 (by decide) (hts _ q_X7_gain_0) (fun _ h9 => h9) rfl dX7_gain_14 ?_
    refine lv_iload_n (pc := 17) hx hb dX7_gain_17 rfl (lv_at hl 1 rfl) ?_
    obtain ⟨r18, e18, hf⟩ := bdE hf
    refine krI (g := g) (wc := (wd_2 g S2)) (pc := 18) (As := [.int x1]) (rest := []) ⟨hx, hb, hml, hown, hts⟩ (c_X2_isOpen l g N S2 x1 r18 e18) (cwV 1 hts gX7_gain_X2_isOpen rfl rfl rfl h_X2_isOpen ⟨Nat.le_of_ble_eq_true rfl, Nat.le_of_ble_eq_true rfl⟩) hK (hP.sub (ws' := (wd_2 g S2)) [2, 3, 4, 5, 6, 7, 8, 9, 10] rfl) rfl rfl rfl hl.1 rfl (Nat.le_of_ble_eq_true rfl) dX7_gain_18 ⟨Nat.zero_le _, Nat.zero_le _⟩ ?_
    refine lv_if_ne (tgt := 27) (pc := 21) hx hb dX7_gain_21 (by decide) (fun c21 => ?_) (fun c21 => ?_)
    · have hf := ff hf c21
      refine lv_aload_n (pc := 27) hx hb dX7_gain_27 rfl (lv_at hl 0 rfl) ?_
      refine va_get (D := g.1) (ci := 7) (v := .ref (g.2.2.1 2)) (C := RX7) (T := TX7) (N := 13) (pc := 28) hx hb hts (fun _ h => List.mem_cons_of_mem _ (List.mem_append_left _ (List.mem_append_right _ h))) hown hK hP 0 rfl rfl 3 (by decide) (hts _ q_X7_gain_0) (fun _ h9 => h9) rfl dX7_gain_28 ?_
      obtain ⟨r31, e31, hf⟩ := bdE hf
      refine krL (g := g) (wc := (wd_2 g S2)) (pc := 31) (As := []) (rest := []) ⟨hx, hb, hml, hown, hts⟩ (c_X2_scoreOfAll l g N S2 r31 e31) (cwV 0 hts gX7_gain_X2_scoreOfAll rfl rfl rfl h_X2_scoreOfAll ⟨Nat.le_of_ble_eq_true rfl, Nat.le_of_ble_eq_true rfl⟩) hK (hP.sub (ws' := (wd_2 g S2)) [2, 3, 4, 5, 6, 7, 8, 9, 10] rfl) rfl rfl rfl hl.1 rfl (Nat.le_of_ble_eq_true rfl) dX7_gain_31 ⟨Nat.zero_le _, Nat.zero_le _⟩ ?_
      refine lv_lstore_n (lv' := [(2, .long r31), (0, .ref (g.2.2.1 7)), (1, .int x1)]) (pc := 34) hx hb dX7_gain_34 rfl hl (by decide) rfl (fun ls hl => ?_)
      refine lv_lload_n (pc := 35) hx hb dX7_gain_35 rfl (lv_at hl 0 rfl) ?_
      refine lv_lconst (v := 0) (pc := 36) hx hb dX7_gain_36 (by decide) ?_
      refine W.lcmp (pc := 37) hx hb dX7_gain_37 ?_
      refine lv_if_ne (tgt := 47) (pc := 38) hx hb dX7_gain_38 (by decide) (fun c38 => ?_) (fun c38 => ?_)
      · have hf := ff hf c38
        refine lv_aload_n (pc := 47) hx hb dX7_gain_47 rfl (lv_at hl 1 rfl) ?_
        refine lv_aload_n (pc := 48) hx hb dX7_gain_48 rfl (lv_at hl 1 rfl) ?_
        refine va_get (D := g.1) (ci := 7) (v := .ref (g.2.2.1 2)) (C := RX7) (T := TX7) (N := 13) (pc := 49) hx hb hts (fun _ h => List.mem_cons_of_mem _ (List.mem_append_left _ (List.mem_append_right _ h))) hown hK hP 0 rfl rfl 3 (by decide) (hts _ q_X7_gain_0) (fun _ h9 => h9) rfl dX7_gain_49 ?_
        refine lv_iload_n (pc := 52) hx hb dX7_gain_52 rfl (lv_at hl 2 rfl) ?_
        obtain ⟨r53, e53, hf⟩ := bdE hf
        refine krL (g := g) (wc := (wd_2 g S2)) (pc := 53) (As := [.int x1]) (rest := [.ref (g.2.2.1 7)]) ⟨hx, hb, hml, hown, hts⟩ (c_X2_gainOf l g N S2 x1 r53 e53) (cwV 1 hts gX7_gain_X2_gainOf rfl rfl rfl h_X2_gainOf ⟨Nat.le_of_ble_eq_true rfl, Nat.le_of_ble_eq_true rfl⟩) hK (hP.sub (ws' := (wd_2 g S2)) [2, 3, 4, 5, 6, 7, 8, 9, 10] rfl) rfl rfl rfl hl.1 rfl (Nat.le_of_ble_eq_true rfl) dX7_gain_53 ⟨Nat.zero_le _, Nat.zero_le _⟩ ?_
        refine lv_ldc2 (v := 16) (pc := 56) hx hb hown (hts _ q_X7_gain_1) dX7_gain_56 ?_
        refine lv_lload_n (pc := 59) hx hb dX7_gain_59 rfl (lv_at hl 0 rfl) ?_
        refine lv_lmul (pc := 60) hx hb dX7_gain_60 ?_
        obtain ⟨r61, e61, hf⟩ := bdE hf
        refine kwV (g := g) (A := A) (W0 := (wd_7_2 g S7 S2)) (wc := (wd_7 g S7)) (wr := (wd_2 g S2)) (w1 := (wd_7 g r61)) (W1 := (wd_7_2 g r61 S2)) (pc := 61) (As := [.long r53, .long (16 * r31)]) (rest := []) ⟨hx, hb, hml, hown, hts⟩ hK hA hP hD hS (c_X7_tellFraction l g N H.size S7 r53 (16 * r31) r61 e61) (cwV 2 hts gX7_gain_X7_tellFraction rfl rfl rfl h_X7_tellFraction ⟨Nat.le_of_ble_eq_true rfl, Nat.le_of_ble_eq_true rfl⟩) [0, 1] [2, 3, 4, 5, 6, 7, 8, 9, 10] [9, 10, 0, 1, 2, 3, 4, 5, 6, 7, 8] rfl rfl rfl rfl rfl (by decide) rfl rfl rfl rfl rfl rfl hl.1 rfl (Nat.le_of_ble_eq_true rfl) dX7_gain_61 ⟨Nat.zero_le _, Nat.zero_le _⟩ (fun H locs hP hD hS => ?_)
        refine lv_iconst (v := 1) (pc := 64) hx hb dX7_gain_64 (by decide) ?_
        have hf := Option.some.inj hf
        subst hf
        exact W.iret (v := 1) hx hb hr (fun t ht hW => ⟨⟨_, (), rfl, rfl, by rw [ht]; exact hP, va_K.moved hW.alike hK, hD⟩, hS.F ht⟩) hS.2.2 dX7_gain_65
      · have hf := ft hf c38
        refine lv_aload_n (pc := 41) hx hb dX7_gain_41 rfl (lv_at hl 1 rfl) ?_
        refine lv_iconst (v := 4) (pc := 42) hx hb dX7_gain_42 (by decide) ?_
        obtain ⟨r43, e43, hf⟩ := bdE hf
        refine kwI (g := g) (A := A) (W0 := (wd_7_2 g S7 S2)) (wc := (wd_7 g S7)) (wr := (wd_2 g S2)) (w1 := (wd_7 g (r43.2))) (W1 := (wd_7_2 g (r43.2) S2)) (pc := 43) (As := [.int 4]) (rest := []) ⟨hx, hb, hml, hown, hts⟩ hK hA hP hD hS (c_X7_refuse l g N H.size S7 4 r43 e43) (cwV 1 hts gX7_gain_X7_refuse rfl rfl rfl h_X7_refuse ⟨Nat.le_of_ble_eq_true rfl, Nat.le_of_ble_eq_true rfl⟩) [0, 1] [2, 3, 4, 5, 6, 7, 8, 9, 10] [9, 10, 0, 1, 2, 3, 4, 5, 6, 7, 8] rfl rfl rfl rfl rfl (by decide) rfl rfl rfl rfl rfl rfl hl.1 rfl (Nat.le_of_ble_eq_true rfl) dX7_gain_43 ⟨Nat.zero_le _, Nat.zero_le _⟩ (fun H locs hP hD hS => ?_)
        have hf := Option.some.inj hf
        subst hf
        exact W.iret (v := (r43.1)) hx hb hr (fun t ht hW => ⟨⟨_, (), rfl, rfl, by rw [ht]; exact hP, va_K.moved hW.alike hK, hD⟩, hS.F ht⟩) hS.2.2 dX7_gain_46
    · have hf := ft hf c21
      refine lv_bipush (v := (-4)) (pc := 24) hx hb dX7_gain_24 (by decide) ?_
      have hf := Option.some.inj hf
      subst hf
      exact W.iret (v := (-4)) hx hb hr (fun t ht hW => ⟨⟨_, (), rfl, rfl, by rw [ht]; exact hP, va_K.moved hW.alike hK, hD⟩, hS.F ht⟩) hS.2.2 dX7_gain_26
  · have hf := ft hf c8
    refine lv_iconst (v := (-1)) (pc := 11) hx hb dX7_gain_11 (by decide) ?_
    have hf := Option.some.inj hf
    subst hf
    exact W.iret (v := (-1)) hx hb hr (fun t ht hW => ⟨⟨_, (), rfl, rfl, by rw [ht]; exact hP, va_K.moved hW.alike hK, hD⟩, hS.F ht⟩) hS.2.2 dX7_gain_12
theorem q_X7_next_0 : (.fieldLink RX7 31 "PictureCourt" "odds" "LPictureCourt$Odds;" : Cond) ∈ wsX7_next := by decide +kernel
theorem h_X7_next : yX7_next.cls = RX7 ∧ yX7_next.cls ≠ "java/lang/invoke/MethodHandle" ∧ yX7_next.cls ≠ "java/lang/invoke/VarHandle" ∧ (parseMethodDescriptor yX7_next.desc).map (fun d => d.parameters.length) = some 2 := by decide +kernel
set_option maxHeartbeats 4000000 in
set_option maxRecDepth 100000 in
theorem c_X7_next (l : Launch) (g : En) (N : Nat) (sz : Nat) (S7 : St) (S2 : St) (x1 : Int32) (x2 : Int32) (res : Int32 × St) (hf : f_X7_next N S7 S2 x1 x2 = some res) : Met l yX7_next wsX7_next { frames := 3, cells := 0, slots := 0, locals := 84 } (rwP g (wd_7_2 g S7 S2) sz [.ref (g.2.2.1 7), .int x1, .int x2]) (rwQi g (wd_7_2 g (res.2) S2) (va_A (wd_7_2 g S7 S2) sz) (res.1)) 0 0 (va_A (wd_7_2 g S7 S2) sz) := by
  refine Met.ofW (cc := cX7_next) (maxL := 3) (ret := (some .int)) (by decide) rfl ?_
  intro p e s m args below meth c s₁ B hml hv
  obtain ⟨rfl, hsz, hP, hK, hD0⟩ := hv
  have hx := B.exec
  have hb := B.bytes
  have hr := B.returns
  have hts := atoms_spec (ws := wsX7_next) B.pre
  have hown : s.vm.findClass RX7 = some m.cls := findClass_of_methodNamed B.named
  have hlk := B.notSynchronized
  subst hsz
  have hD := hD0.self (sz := s.heap.size)
  generalize hAe : va_A (wd_7_2 g S7 S2) s.heap.size = A at hD ⊢
  have hA : ∀ q : Nat, s.heap.size ≤ q → A q := fun q h => by rw [← hAe]; exact Or.inr h
  have hS : va_S A s.heap s.heap [] := va_S.rf
  have C : cxw g A cX7_next 3 (some .int) wsX7_next RX7 p s m ([.ref (g.2.2.1 7), .int x1, .int x2] : List Value).toArray meth c := ⟨⟨hx, hb, hr, hml, hown, hts, hlk⟩, hK, hA⟩
  have hl := lv_entry [.ref (g.2.2.1 7), .int x1, .int x2] (n := 3) (Nat.le_of_ble_eq_true rfl)
  rw [lg_entry_eq]
  generalize (lg_sl [.ref (g.2.2.1 7), .int x1, .int x2] ++ List.replicate (3 - (lg_sl [.ref (g.2.2.1 7), .int x1, .int x2]).length) Slot.unset).toArray = ls at hl ⊢
  have hl : lv_has ls 3 [(0, .ref (g.2.2.1 7)), (1, .int x1), (2, .int x2)] := hl
  unfold f_X7_next at hf
  suffices K9 : ∀ (H : Heap) (locs : List Loc), va_P g.1 vwCl (wd_7_2 g S7 S2) H → va_D A (wd_7_2 g S7 S2) → va_S A s.heap H locs → (if x1 < 0 then some ((-1), S7) else (if 0 ≤ x2 then ((f_X2_scoreOfAll N S2).bind (fun r14 => (if (lg_cmp r14 0) = 0 then ((f_X7_refuse N S7 4).bind (fun r24 => some ((r24.1), (r24.2)))) else ((f_X2_best N S2 x1 x2).bind (fun r34 => some (r34, S7)))))) else some ((-1), S7))) = some res → W p l e (headSpec wsX7_next { frames := 3, cells := 0, slots := 0, locals := 84 }).room s m ([.ref (g.2.2.1 7), .int x1, .int x2] : List Value).toArray below meth c H locs 0 0 (MQ below (rwQi g (wd_7_2 g (res.2) S2) A (res.1)) ([.ref (g.2.2.1 7), .int x1, .int x2] : List Value).toArray s 0 0 A) (F0 m 0 ls []) from K9 s.heap [] hP hD hS hf
  clear hP hD hS hf
  intro H locs hP hD hS hf
  refine lv_iload_n (pc := 0) hx hb dX7_next_0 rfl (lv_at hl 1 rfl) ?_
  refine lv_if_lt (tgt := 8) (pc := 1) hx hb dX7_next_1 (by decide) (fun c1 => ?_) (fun c1 => ?_)
  · have hf := ft hf c1
    refine lv_iconst (v := (-1)) (pc := 8) hx hb dX7_next_8 (by decide) ?_
    have hf := Option.some.inj hf
    subst hf
    exact W.iret (v := (-1)) hx hb hr (fun t ht hW => ⟨⟨_, (), rfl, rfl, by rw [ht]; exact hP, va_K.moved hW.alike hK, hD⟩, hS.F ht⟩) hS.2.2 dX7_next_9
  · have hf := ff hf c1
    refine lv_iload_n (pc := 4) hx hb dX7_next_4 rfl (lv_at hl 2 rfl) ?_
    refine lv_if_ge (tgt := 10) (pc := 5) hx hb dX7_next_5 (by decide) (fun c5 => ?_) (fun c5 => ?_)
    · have hf := ft hf c5
      refine lv_aload_n (pc := 10) hx hb dX7_next_10 rfl (lv_at hl 0 rfl) ?_
      refine va_get (D := g.1) (ci := 7) (v := .ref (g.2.2.1 2)) (C := RX7) (T := TX7) (N := 13) (pc := 11) hx hb hts (fun _ h => List.mem_cons_of_mem _ (List.mem_append_left _ (List.mem_append_right _ h))) hown hK hP 0 rfl rfl 3 (by decide) (hts _ q_X7_next_0) (fun _ h9 => h9) rfl dX7_next_11 ?_
      obtain ⟨r14, e14, hf⟩ := bdE hf
      refine krL (g := g) (wc := (wd_2 g S2)) (pc := 14) (As := []) (rest := []) ⟨hx, hb, hml, hown, hts⟩ (c_X2_scoreOfAll l g N S2 r14 e14) (cwV 0 hts gX7_next_X2_scoreOfAll rfl rfl rfl h_X2_scoreOfAll ⟨Nat.le_of_ble_eq_true rfl, Nat.le_of_ble_eq_true rfl⟩) hK (hP.sub (ws' := (wd_2 g S2)) [2, 3, 4, 5, 6, 7, 8, 9, 10] rfl) rfl rfl rfl hl.1 rfl (Nat.le_of_ble_eq_true rfl) dX7_next_14 ⟨Nat.zero_le _, Nat.zero_le _⟩ ?_
      refine lv_lconst (v := 0) (pc := 17) hx hb dX7_next_17 (by decide) ?_
      refine W.lcmp (pc := 18) hx hb dX7_next_18 ?_
      refine lv_if_ne (tgt := 28) (pc := 19) hx hb dX7_next_19 (by decide) (fun c19 => ?_) (fun c19 => ?_)
      · have hf := ff hf c19
        refine lv_aload_n (pc := 28) hx hb dX7_next_28 rfl (lv_at hl 0 rfl) ?_
        refine va_get (D := g.1) (ci := 7) (v := .ref (g.2.2.1 2)) (C := RX7) (T := TX7) (N := 13) (pc := 29) hx hb hts (fun _ h => List.mem_cons_of_mem _ (List.mem_append_left _ (List.mem_append_right _ h))) hown hK hP 0 rfl rfl 3 (by decide) (hts _ q_X7_next_0) (fun _ h9 => h9) rfl dX7_next_29 ?_
        refine lv_iload_n (pc := 32) hx hb dX7_next_32 rfl (lv_at hl 1 rfl) ?_
        refine lv_iload_n (pc := 33) hx hb dX7_next_33 rfl (lv_at hl 2 rfl) ?_
        obtain ⟨r34, e34, hf⟩ := bdE hf
        refine krI (g := g) (wc := (wd_2 g S2)) (pc := 34) (As := [.int x1, .int x2]) (rest := []) ⟨hx, hb, hml, hown, hts⟩ (c_X2_best l g N S2 x1 x2 r34 e34) (cwV 2 hts gX7_next_X2_best rfl rfl rfl h_X2_best ⟨Nat.le_of_ble_eq_true rfl, Nat.le_of_ble_eq_true rfl⟩) hK (hP.sub (ws' := (wd_2 g S2)) [2, 3, 4, 5, 6, 7, 8, 9, 10] rfl) rfl rfl rfl hl.1 rfl (Nat.le_of_ble_eq_true rfl) dX7_next_34 ⟨Nat.zero_le _, Nat.zero_le _⟩ ?_
        have hf := Option.some.inj hf
        subst hf
        exact W.iret (v := r34) hx hb hr (fun t ht hW => ⟨⟨_, (), rfl, rfl, by rw [ht]; exact hP, va_K.moved hW.alike hK, hD⟩, hS.F ht⟩) hS.2.2 dX7_next_37
      · have hf := ft hf c19
        refine lv_aload_n (pc := 22) hx hb dX7_next_22 rfl (lv_at hl 0 rfl) ?_
        refine lv_iconst (v := 4) (pc := 23) hx hb dX7_next_23 (by decide) ?_
        obtain ⟨r24, e24, hf⟩ := bdE hf
        refine kwI (g := g) (A := A) (W0 := (wd_7_2 g S7 S2)) (wc := (wd_7 g S7)) (wr := (wd_2 g S2)) (w1 := (wd_7 g (r24.2))) (W1 := (wd_7_2 g (r24.2) S2)) (pc := 24) (As := [.int 4]) (rest := []) ⟨hx, hb, hml, hown, hts⟩ hK hA hP hD hS (c_X7_refuse l g N H.size S7 4 r24 e24) (cwV 1 hts gX7_next_X7_refuse rfl rfl rfl h_X7_refuse ⟨Nat.le_of_ble_eq_true rfl, Nat.le_of_ble_eq_true rfl⟩) [0, 1] [2, 3, 4, 5, 6, 7, 8, 9, 10] [9, 10, 0, 1, 2, 3, 4, 5, 6, 7, 8] rfl rfl rfl rfl rfl (by decide) rfl rfl rfl rfl rfl rfl hl.1 rfl (Nat.le_of_ble_eq_true rfl) dX7_next_24 ⟨Nat.zero_le _, Nat.zero_le _⟩ (fun H locs hP hD hS => ?_)
        have hf := Option.some.inj hf
        subst hf
        exact W.iret (v := (r24.1)) hx hb hr (fun t ht hW => ⟨⟨_, (), rfl, rfl, by rw [ht]; exact hP, va_K.moved hW.alike hK, hD⟩, hS.F ht⟩) hS.2.2 dX7_next_27
    · have hf := ff hf c5
      refine lv_iconst (v := (-1)) (pc := 8) hx hb dX7_next_8 (by decide) ?_
      have hf := Option.some.inj hf
      subst hf
      exact W.iret (v := (-1)) hx hb hr (fun t ht hW => ⟨⟨_, (), rfl, rfl, by rw [ht]; exact hP, va_K.moved hW.alike hK, hD⟩, hS.F ht⟩) hS.2.2 dX7_next_9
theorem q_X7_owner_0 : (.fieldLink RX7 38 "PictureCourt" "owners" "LPictureCourt$Owners;" : Cond) ∈ wsX7_owner := by decide +kernel
theorem h_X7_owner : yX7_owner.cls = RX7 ∧ yX7_owner.cls ≠ "java/lang/invoke/MethodHandle" ∧ yX7_owner.cls ≠ "java/lang/invoke/VarHandle" ∧ (parseMethodDescriptor yX7_owner.desc).map (fun d => d.parameters.length) = some 2 := by decide +kernel
set_option maxHeartbeats 4000000 in
set_option maxRecDepth 100000 in
theorem c_X7_owner (l : Launch) (g : En) (N : Nat) (sz : Nat) (S7 : St) (S4 : St) (x1 : Int32) (x2 : Int32) (res : Int32 × St) (hf : f_X7_owner N S7 S4 x1 x2 = some res) : Met l yX7_owner wsX7_owner { frames := 3, cells := 0, slots := 0, locals := 63 } (rwP g (wd_7_4 g S7 S4) sz [.ref (g.2.2.1 7), .int x1, .int x2]) (rwQi g (wd_7_4 g S7 (res.2)) (va_A (wd_7_4 g S7 S4) sz) (res.1)) 0 0 (va_A (wd_7_4 g S7 S4) sz) := by
  refine Met.ofW (cc := cX7_owner) (maxL := 3) (ret := (some .int)) (by decide) rfl ?_
  intro p e s m args below meth c s₁ B hml hv
  obtain ⟨rfl, hsz, hP, hK, hD0⟩ := hv
  have hx := B.exec
  have hb := B.bytes
  have hr := B.returns
  have hts := atoms_spec (ws := wsX7_owner) B.pre
  have hown : s.vm.findClass RX7 = some m.cls := findClass_of_methodNamed B.named
  have hlk := B.notSynchronized
  subst hsz
  have hD := hD0.self (sz := s.heap.size)
  generalize hAe : va_A (wd_7_4 g S7 S4) s.heap.size = A at hD ⊢
  have hA : ∀ q : Nat, s.heap.size ≤ q → A q := fun q h => by rw [← hAe]; exact Or.inr h
  have hS : va_S A s.heap s.heap [] := va_S.rf
  have C : cxw g A cX7_owner 3 (some .int) wsX7_owner RX7 p s m ([.ref (g.2.2.1 7), .int x1, .int x2] : List Value).toArray meth c := ⟨⟨hx, hb, hr, hml, hown, hts, hlk⟩, hK, hA⟩
  have hl := lv_entry [.ref (g.2.2.1 7), .int x1, .int x2] (n := 3) (Nat.le_of_ble_eq_true rfl)
  rw [lg_entry_eq]
  generalize (lg_sl [.ref (g.2.2.1 7), .int x1, .int x2] ++ List.replicate (3 - (lg_sl [.ref (g.2.2.1 7), .int x1, .int x2]).length) Slot.unset).toArray = ls at hl ⊢
  have hl : lv_has ls 3 [(0, .ref (g.2.2.1 7)), (1, .int x1), (2, .int x2)] := hl
  unfold f_X7_owner at hf
  suffices K9 : ∀ (H : Heap) (locs : List Loc), va_P g.1 vwCl (wd_7_4 g S7 S4) H → va_D A (wd_7_4 g S7 S4) → va_S A s.heap H locs → ((f_X7_areYears N x1 x2).bind (fun r2 => (if r2 = 0 then some ((-1), S4) else ((f_X4_isFull N S4).bind (fun r14 => (if r14 = 0 then ((f_X4_add N S4 x1 x2).bind (fun r29 => some ((r29.1), (r29.2)))) else some ((-2), S4))))))) = some res → W p l e (headSpec wsX7_owner { frames := 3, cells := 0, slots := 0, locals := 63 }).room s m ([.ref (g.2.2.1 7), .int x1, .int x2] : List Value).toArray below meth c H locs 0 0 (MQ below (rwQi g (wd_7_4 g S7 (res.2)) A (res.1)) ([.ref (g.2.2.1 7), .int x1, .int x2] : List Value).toArray s 0 0 A) (F0 m 0 ls []) from K9 s.heap [] hP hD hS hf
  clear hP hD hS hf
  intro H locs hP hD hS hf
  refine lv_iload_n (pc := 0) hx hb dX7_owner_0 rfl (lv_at hl 1 rfl) ?_
  refine lv_iload_n (pc := 1) hx hb dX7_owner_1 rfl (lv_at hl 2 rfl) ?_
  obtain ⟨r2, e2, hf⟩ := bdE hf
  refine ksI (pc := 2) (As := [.int x1, .int x2]) (rest := []) ⟨hx, hb, hml, hown, hts⟩ (c_X7_areYears l N x1 x2 r2 e2) (va_cwS 2 hts gX7_owner_X7_areYears rfl rfl rfl h_X7_areYears ⟨Nat.le_of_ble_eq_true rfl, Nat.le_of_ble_eq_true rfl⟩) rfl hl.1 rfl (Nat.le_of_ble_eq_true rfl) dX7_owner_2 ⟨Nat.zero_le _, Nat.zero_le _⟩ ?_
  refine lv_if_ne (tgt := 10) (pc := 5) hx hb dX7_owner_5 (by decide) (fun c5 => ?_) (fun c5 => ?_)
  · have hf := ff hf c5
    refine lv_aload_n (pc := 10) hx hb dX7_owner_10 rfl (lv_at hl 0 rfl) ?_
    refine va_get (D := g.1) (ci := 7) (v := .ref (g.2.2.1 4)) (C := RX7) (T := TX7) (N := 13) (pc := 11) hx hb hts (fun _ h => List.mem_cons_of_mem _ (List.mem_append_left _ (List.mem_append_right _ h))) hown hK hP 0 rfl rfl 4 (by decide) (hts _ q_X7_owner_0) (fun _ h9 => h9) rfl dX7_owner_11 ?_
    obtain ⟨r14, e14, hf⟩ := bdE hf
    refine krI (g := g) (wc := (wd_4 g S4)) (pc := 14) (As := []) (rest := []) ⟨hx, hb, hml, hown, hts⟩ (c_X4_isFull l g N S4 r14 e14) (cwV 0 hts gX7_owner_X4_isFull rfl rfl rfl h_X4_isFull ⟨Nat.le_of_ble_eq_true rfl, Nat.le_of_ble_eq_true rfl⟩) hK (hP.sub (ws' := (wd_4 g S4)) [2, 3, 4] rfl) rfl rfl rfl hl.1 rfl (Nat.le_of_ble_eq_true rfl) dX7_owner_14 ⟨Nat.zero_le _, Nat.zero_le _⟩ ?_
    refine lv_if_eq (tgt := 23) (pc := 17) hx hb dX7_owner_17 (by decide) (fun c17 => ?_) (fun c17 => ?_)
    · have hf := ft hf c17
      refine lv_aload_n (pc := 23) hx hb dX7_owner_23 rfl (lv_at hl 0 rfl) ?_
      refine va_get (D := g.1) (ci := 7) (v := .ref (g.2.2.1 4)) (C := RX7) (T := TX7) (N := 13) (pc := 24) hx hb hts (fun _ h => List.mem_cons_of_mem _ (List.mem_append_left _ (List.mem_append_right _ h))) hown hK hP 0 rfl rfl 4 (by decide) (hts _ q_X7_owner_0) (fun _ h9 => h9) rfl dX7_owner_24 ?_
      refine lv_iload_n (pc := 27) hx hb dX7_owner_27 rfl (lv_at hl 1 rfl) ?_
      refine lv_iload_n (pc := 28) hx hb dX7_owner_28 rfl (lv_at hl 2 rfl) ?_
      obtain ⟨r29, e29, hf⟩ := bdE hf
      refine kwI (g := g) (A := A) (W0 := (wd_7_4 g S7 S4)) (wc := (wd_4 g S4)) (wr := (wd_7 g S7)) (w1 := (wd_4 g (r29.2))) (W1 := (wd_7_4 g S7 (r29.2))) (pc := 29) (As := [.int x1, .int x2]) (rest := []) ⟨hx, hb, hml, hown, hts⟩ hK hA hP hD hS (c_X4_add l g N H.size S4 x1 x2 r29 e29) (cwV 2 hts gX7_owner_X4_add rfl rfl rfl h_X4_add ⟨Nat.le_of_ble_eq_true rfl, Nat.le_of_ble_eq_true rfl⟩) [2, 3, 4] [0, 1] [0, 1, 2, 3, 4] rfl rfl rfl rfl rfl (by decide) rfl rfl rfl rfl rfl rfl hl.1 rfl (Nat.le_of_ble_eq_true rfl) dX7_owner_29 ⟨Nat.zero_le _, Nat.zero_le _⟩ (fun H locs hP hD hS => ?_)
      have hf := Option.some.inj hf
      subst hf
      exact W.iret (v := (r29.1)) hx hb hr (fun t ht hW => ⟨⟨_, (), rfl, rfl, by rw [ht]; exact hP, va_K.moved hW.alike hK, hD⟩, hS.F ht⟩) hS.2.2 dX7_owner_32
    · have hf := ff hf c17
      refine lv_bipush (v := (-2)) (pc := 20) hx hb dX7_owner_20 (by decide) ?_
      have hf := Option.some.inj hf
      subst hf
      exact W.iret (v := (-2)) hx hb hr (fun t ht hW => ⟨⟨_, (), rfl, rfl, by rw [ht]; exact hP, va_K.moved hW.alike hK, hD⟩, hS.F ht⟩) hS.2.2 dX7_owner_22
  · have hf := ft hf c5
    refine lv_iconst (v := (-1)) (pc := 8) hx hb dX7_owner_8 (by decide) ?_
    have hf := Option.some.inj hf
    subst hf
    exact W.iret (v := (-1)) hx hb hr (fun t ht hW => ⟨⟨_, (), rfl, rfl, by rw [ht]; exact hP, va_K.moved hW.alike hK, hD⟩, hS.F ht⟩) hS.2.2 dX7_owner_9
theorem q_X7_gaps_0 : (.fieldLink RX7 38 "PictureCourt" "owners" "LPictureCourt$Owners;" : Cond) ∈ wsX7_gaps := by decide +kernel
theorem q_X7_gaps_1 : (.fieldLink RX7 271 "PictureCourt$Owners" "longestGap" "I" : Cond) ∈ wsX7_gaps := by decide +kernel
theorem q_X7_gaps_2 : (.fieldLink RX7 67 "PictureCourt" "askedNumber" "I" : Cond) ∈ wsX7_gaps := by decide +kernel
theorem q_X7_gaps_3 : (.fieldLink RX7 274 "PictureCourt$Owners" "gapYears" "I" : Cond) ∈ wsX7_gaps := by decide +kernel
theorem h_X7_gaps : yX7_gaps.cls = RX7 ∧ yX7_gaps.cls ≠ "java/lang/invoke/MethodHandle" ∧ yX7_gaps.cls ≠ "java/lang/invoke/VarHandle" ∧ (parseMethodDescriptor yX7_gaps.desc).map (fun d => d.parameters.length) = some 2 := by decide +kernel
set_option maxHeartbeats 4000000 in
set_option maxRecDepth 100000 in
theorem c_X7_gaps (l : Launch) (g : En) (N : Nat) (sz : Nat) (S7 : St) (S4 : St) (x1 : Int32) (x2 : Int32) (res : Int32 × St × St) (hf : f_X7_gaps N S7 S4 x1 x2 = some res) : Met l yX7_gaps wsX7_gaps { frames := 3, cells := 0, slots := 0, locals := 69 } (rwP g (wd_7_4 g S7 S4) sz [.ref (g.2.2.1 7), .int x1, .int x2]) (rwQi g (wd_7_4 g (res.2.1) (res.2.2)) (va_A (wd_7_4 g S7 S4) sz) (res.1)) 0 0 (va_A (wd_7_4 g S7 S4) sz) := by
  refine Met.ofW (cc := cX7_gaps) (maxL := 3) (ret := (some .int)) (by decide) rfl ?_
  intro p e s m args below meth c s₁ B hml hv
  obtain ⟨rfl, hsz, hP, hK, hD0⟩ := hv
  have hx := B.exec
  have hb := B.bytes
  have hr := B.returns
  have hts := atoms_spec (ws := wsX7_gaps) B.pre
  have hown : s.vm.findClass RX7 = some m.cls := findClass_of_methodNamed B.named
  have hlk := B.notSynchronized
  subst hsz
  have hD := hD0.self (sz := s.heap.size)
  generalize hAe : va_A (wd_7_4 g S7 S4) s.heap.size = A at hD ⊢
  have hA : ∀ q : Nat, s.heap.size ≤ q → A q := fun q h => by rw [← hAe]; exact Or.inr h
  have hS : va_S A s.heap s.heap [] := va_S.rf
  have C : cxw g A cX7_gaps 3 (some .int) wsX7_gaps RX7 p s m ([.ref (g.2.2.1 7), .int x1, .int x2] : List Value).toArray meth c := ⟨⟨hx, hb, hr, hml, hown, hts, hlk⟩, hK, hA⟩
  have hl := lv_entry [.ref (g.2.2.1 7), .int x1, .int x2] (n := 3) (Nat.le_of_ble_eq_true rfl)
  rw [lg_entry_eq]
  generalize (lg_sl [.ref (g.2.2.1 7), .int x1, .int x2] ++ List.replicate (3 - (lg_sl [.ref (g.2.2.1 7), .int x1, .int x2]).length) Slot.unset).toArray = ls at hl ⊢
  have hl : lv_has ls 3 [(0, .ref (g.2.2.1 7)), (1, .int x1), (2, .int x2)] := hl
  unfold f_X7_gaps at hf
  suffices K9 : ∀ (H : Heap) (locs : List Loc), va_P g.1 vwCl (wd_7_4 g S7 S4) H → va_D A (wd_7_4 g S7 S4) → va_S A s.heap H locs → ((f_X7_areYears N x1 x2).bind (fun r2 => (if r2 = 0 then some ((-1), S7, S4) else ((f_X4_findGaps N S4 x1 x2).bind (fun r16 => some ((r16.1 3), (sI S7 10 (r16.1 4)), r16)))))) = some res → W p l e (headSpec wsX7_gaps { frames := 3, cells := 0, slots := 0, locals := 69 }).room s m ([.ref (g.2.2.1 7), .int x1, .int x2] : List Value).toArray below meth c H locs 0 0 (MQ below (rwQi g (wd_7_4 g (res.2.1) (res.2.2)) A (res.1)) ([.ref (g.2.2.1 7), .int x1, .int x2] : List Value).toArray s 0 0 A) (F0 m 0 ls []) from K9 s.heap [] hP hD hS hf
  clear hP hD hS hf
  intro H locs hP hD hS hf
  refine lv_iload_n (pc := 0) hx hb dX7_gaps_0 rfl (lv_at hl 1 rfl) ?_
  refine lv_iload_n (pc := 1) hx hb dX7_gaps_1 rfl (lv_at hl 2 rfl) ?_
  obtain ⟨r2, e2, hf⟩ := bdE hf
  refine ksI (pc := 2) (As := [.int x1, .int x2]) (rest := []) ⟨hx, hb, hml, hown, hts⟩ (c_X7_areYears l N x1 x2 r2 e2) (va_cwS 2 hts gX7_gaps_X7_areYears rfl rfl rfl h_X7_areYears ⟨Nat.le_of_ble_eq_true rfl, Nat.le_of_ble_eq_true rfl⟩) rfl hl.1 rfl (Nat.le_of_ble_eq_true rfl) dX7_gaps_2 ⟨Nat.zero_le _, Nat.zero_le _⟩ ?_
  refine lv_if_ne (tgt := 10) (pc := 5) hx hb dX7_gaps_5 (by decide) (fun c5 => ?_) (fun c5 => ?_)
  · have hf := ff hf c5
    refine lv_aload_n (pc := 10) hx hb dX7_gaps_10 rfl (lv_at hl 0 rfl) ?_
    refine va_get (D := g.1) (ci := 7) (v := .ref (g.2.2.1 4)) (C := RX7) (T := TX7) (N := 13) (pc := 11) hx hb hts (fun _ h => List.mem_cons_of_mem _ (List.mem_append_left _ (List.mem_append_right _ h))) hown hK hP 0 rfl rfl 4 (by decide) (hts _ q_X7_gaps_0) (fun _ h9 => h9) rfl dX7_gaps_11 ?_
    refine lv_iload_n (pc := 14) hx hb dX7_gaps_14 rfl (lv_at hl 1 rfl) ?_
    refine lv_iload_n (pc := 15) hx hb dX7_gaps_15 rfl (lv_at hl 2 rfl) ?_
    obtain ⟨r16, e16, hf⟩ := bdE hf
    refine kwV (g := g) (A := A) (W0 := (wd_7_4 g S7 S4)) (wc := (wd_4 g S4)) (wr := (wd_7 g S7)) (w1 := (wd_4 g r16)) (W1 := (wd_7_4 g S7 r16)) (pc := 16) (As := [.int x1, .int x2]) (rest := []) ⟨hx, hb, hml, hown, hts⟩ hK hA hP hD hS (c_X4_findGaps l g N H.size S4 x1 x2 r16 e16) (cwV 2 hts gX7_gaps_X4_findGaps rfl rfl rfl h_X4_findGaps ⟨Nat.le_of_ble_eq_true rfl, Nat.le_of_ble_eq_true rfl⟩) [2, 3, 4] [0, 1] [0, 1, 2, 3, 4] rfl rfl rfl rfl rfl (by decide) rfl rfl rfl rfl rfl rfl hl.1 rfl (Nat.le_of_ble_eq_true rfl) dX7_gaps_16 ⟨Nat.zero_le _, Nat.zero_le _⟩ (fun H locs hP hD hS => ?_)
    refine lv_aload_n (pc := 19) hx hb dX7_gaps_19 rfl (lv_at hl 0 rfl) ?_
    refine lv_aload_n (pc := 20) hx hb dX7_gaps_20 rfl (lv_at hl 0 rfl) ?_
    refine va_get (D := g.1) (ci := 7) (v := .ref (g.2.2.1 4)) (C := RX7) (T := TX7) (N := 13) (pc := 21) hx hb hts (fun _ h => List.mem_cons_of_mem _ (List.mem_append_left _ (List.mem_append_right _ h))) hown hK hP 0 rfl rfl 4 (by decide) (hts _ q_X7_gaps_0) (fun _ h9 => h9) rfl dX7_gaps_21 ?_
    refine va_get (D := g.1) (ci := 4) (v := .int (r16.1 4)) (C := RX4) (T := TX4) (N := 5) (pc := 24) hx hb hts (fun _ h => List.mem_cons_of_mem _ (List.mem_append_right _ h)) hown hK hP 2 rfl rfl 4 (by decide) (hts _ q_X7_gaps_1) (fun _ h9 => h9) rfl dX7_gaps_24 ?_
    refine va_put (D := g.1) (ci := 7) (v := .int (r16.1 4)) (ty := .int) (C := RX7) (T := TX7) (N := 13) (pc := 27) hx hb hts (fun _ h => List.mem_cons_of_mem _ (List.mem_append_left _ (List.mem_append_right _ h))) tyX7 tyX7_ok nmX7 hown hK hP hD hS 0 rfl rfl 10 (by decide) (hts _ q_X7_gaps_2) (fun _ h9 => h9) rfl rfl rfl rfl (Nat.le_of_ble_eq_true rfl) dX7_gaps_27 (fun H locs hP hD hS => ?_)
    have hP := u_7_4_7_10P S7 r16 (r16.1 4) hP
    have hD := u_7_4_7_10D S7 r16 (r16.1 4) hD
    refine lv_aload_n (pc := 30) hx hb dX7_gaps_30 rfl (lv_at hl 0 rfl) ?_
    refine va_get (D := g.1) (ci := 7) (v := .ref (g.2.2.1 4)) (C := RX7) (T := TX7) (N := 13) (pc := 31) hx hb hts (fun _ h => List.mem_cons_of_mem _ (List.mem_append_left _ (List.mem_append_right _ h))) hown hK hP 0 rfl rfl 4 (by decide) (hts _ q_X7_gaps_0) (fun _ h9 => h9) rfl dX7_gaps_31 ?_
    refine va_get (D := g.1) (ci := 4) (v := .int (r16.1 3)) (C := RX4) (T := TX4) (N := 5) (pc := 34) hx hb hts (fun _ h => List.mem_cons_of_mem _ (List.mem_append_right _ h)) hown hK hP 2 rfl rfl 3 (by decide) (hts _ q_X7_gaps_3) (fun _ h9 => h9) rfl dX7_gaps_34 ?_
    have hf := Option.some.inj hf
    subst hf
    exact W.iret (v := (r16.1 3)) hx hb hr (fun t ht hW => ⟨⟨_, (), rfl, rfl, by rw [ht]; exact hP, va_K.moved hW.alike hK, hD⟩, hS.F ht⟩) hS.2.2 dX7_gaps_37
  · have hf := ft hf c5
    refine lv_iconst (v := (-1)) (pc := 8) hx hb dX7_gaps_8 (by decide) ?_
    have hf := Option.some.inj hf
    subst hf
    exact W.iret (v := (-1)) hx hb hr (fun t ht hW => ⟨⟨_, (), rfl, rfl, by rw [ht]; exact hP, va_K.moved hW.alike hK, hD⟩, hS.F ht⟩) hS.2.2 dX7_gaps_9
theorem q_X7_opinion_0 : (.fieldLink RX7 45 "PictureCourt" "opinions" "LPictureCourt$Opinions;" : Cond) ∈ wsX7_opinion := by decide +kernel
theorem h_X7_opinion : yX7_opinion.cls = RX7 ∧ yX7_opinion.cls ≠ "java/lang/invoke/MethodHandle" ∧ yX7_opinion.cls ≠ "java/lang/invoke/VarHandle" ∧ (parseMethodDescriptor yX7_opinion.desc).map (fun d => d.parameters.length) = some 4 := by decide +kernel
set_option maxHeartbeats 4000000 in
set_option maxRecDepth 100000 in
theorem c_X7_opinion (l : Launch) (g : En) (N : Nat) (sz : Nat) (S7 : St) (S3 : St) (x1 : Int32) (x2 : Int32) (x3 : Int32) (x4 : Int32) (res : Int32 × St) (hf : f_X7_opinion N S7 S3 x1 x2 x3 x4 = some res) : Met l yX7_opinion wsX7_opinion { frames := 2, cells := 0, slots := 0, locals := 42 } (rwP g (wd_7_3 g S7 S3) sz [.ref (g.2.2.1 7), .int x1, .int x2, .int x3, .int x4]) (rwQi g (wd_7_3 g S7 (res.2)) (va_A (wd_7_3 g S7 S3) sz) (res.1)) 0 0 (va_A (wd_7_3 g S7 S3) sz) := by
  refine Met.ofW (cc := cX7_opinion) (maxL := 5) (ret := (some .int)) (by decide) rfl ?_
  intro p e s m args below meth c s₁ B hml hv
  obtain ⟨rfl, hsz, hP, hK, hD0⟩ := hv
  have hx := B.exec
  have hb := B.bytes
  have hr := B.returns
  have hts := atoms_spec (ws := wsX7_opinion) B.pre
  have hown : s.vm.findClass RX7 = some m.cls := findClass_of_methodNamed B.named
  have hlk := B.notSynchronized
  subst hsz
  have hD := hD0.self (sz := s.heap.size)
  generalize hAe : va_A (wd_7_3 g S7 S3) s.heap.size = A at hD ⊢
  have hA : ∀ q : Nat, s.heap.size ≤ q → A q := fun q h => by rw [← hAe]; exact Or.inr h
  have hS : va_S A s.heap s.heap [] := va_S.rf
  have C : cxw g A cX7_opinion 5 (some .int) wsX7_opinion RX7 p s m ([.ref (g.2.2.1 7), .int x1, .int x2, .int x3, .int x4] : List Value).toArray meth c := ⟨⟨hx, hb, hr, hml, hown, hts, hlk⟩, hK, hA⟩
  have hl := lv_entry [.ref (g.2.2.1 7), .int x1, .int x2, .int x3, .int x4] (n := 5) (Nat.le_of_ble_eq_true rfl)
  rw [lg_entry_eq]
  generalize (lg_sl [.ref (g.2.2.1 7), .int x1, .int x2, .int x3, .int x4] ++ List.replicate (5 - (lg_sl [.ref (g.2.2.1 7), .int x1, .int x2, .int x3, .int x4]).length) Slot.unset).toArray = ls at hl ⊢
  have hl : lv_has ls 5 [(0, .ref (g.2.2.1 7)), (1, .int x1), (2, .int x2), (3, .int x3), (4, .int x4)] := hl
  unfold f_X7_opinion at hf
  suffices K9 : ∀ (H : Heap) (locs : List Loc), va_P g.1 vwCl (wd_7_3 g S7 S3) H → va_D A (wd_7_3 g S7 S3) → va_S A s.heap H locs → ((f_X7_isWithin N x1 0 9).bind (fun r4 => (if r4 = 0 then some ((-1), S3) else ((f_X7_isHand N x2).bind (fun r11 => (if r11 = 0 then some ((-1), S3) else ((f_X7_isWithin N x3 0 100).bind (fun r21 => (if r21 = 0 then some ((-1), S3) else ((f_X3_isFull N S3).bind (fun r33 => (if r33 = 0 then ((f_X3_add N S3 x1 x2 x3 x4).bind (fun r51 => some ((r51.1), (r51.2)))) else some ((-2), S3))))))))))))) = some res → W p l e (headSpec wsX7_opinion { frames := 2, cells := 0, slots := 0, locals := 42 }).room s m ([.ref (g.2.2.1 7), .int x1, .int x2, .int x3, .int x4] : List Value).toArray below meth c H locs 0 0 (MQ below (rwQi g (wd_7_3 g S7 (res.2)) A (res.1)) ([.ref (g.2.2.1 7), .int x1, .int x2, .int x3, .int x4] : List Value).toArray s 0 0 A) (F0 m 0 ls []) from K9 s.heap [] hP hD hS hf
  clear hP hD hS hf
  intro H locs hP hD hS hf
  refine lv_iload_n (pc := 0) hx hb dX7_opinion_0 rfl (lv_at hl 1 rfl) ?_
  refine lv_iconst (v := 0) (pc := 1) hx hb dX7_opinion_1 (by decide) ?_
  refine lv_bipush (v := 9) (pc := 2) hx hb dX7_opinion_2 (by decide) ?_
  obtain ⟨r4, e4, hf⟩ := bdE hf
  refine ksI (pc := 4) (As := [.int x1, .int 0, .int 9]) (rest := []) ⟨hx, hb, hml, hown, hts⟩ (c_X7_isWithin l N x1 0 9 r4 e4) (va_cwS 3 hts gX7_opinion_X7_isWithin rfl rfl rfl h_X7_isWithin ⟨Nat.le_of_ble_eq_true rfl, Nat.le_of_ble_eq_true rfl⟩) rfl hl.1 rfl (Nat.le_of_ble_eq_true rfl) dX7_opinion_4 ⟨Nat.zero_le _, Nat.zero_le _⟩ ?_
  refine lv_if_eq (tgt := 27) (pc := 7) hx hb dX7_opinion_7 (by decide) (fun c7 => ?_) (fun c7 => ?_)
  · have hf := ft hf c7
    refine lv_iconst (v := (-1)) (pc := 27) hx hb dX7_opinion_27 (by decide) ?_
    have hf := Option.some.inj hf
    subst hf
    exact W.iret (v := (-1)) hx hb hr (fun t ht hW => ⟨⟨_, (), rfl, rfl, by rw [ht]; exact hP, va_K.moved hW.alike hK, hD⟩, hS.F ht⟩) hS.2.2 dX7_opinion_28
  · have hf := ff hf c7
    refine lv_iload_n (pc := 10) hx hb dX7_opinion_10 rfl (lv_at hl 2 rfl) ?_
    obtain ⟨r11, e11, hf⟩ := bdE hf
    refine ksI (pc := 11) (As := [.int x2]) (rest := []) ⟨hx, hb, hml, hown, hts⟩ (c_X7_isHand l N x2 r11 e11) (va_cwS 1 hts gX7_opinion_X7_isHand rfl rfl rfl h_X7_isHand ⟨Nat.le_of_ble_eq_true rfl, Nat.le_of_ble_eq_true rfl⟩) rfl hl.1 rfl (Nat.le_of_ble_eq_true rfl) dX7_opinion_11 ⟨Nat.zero_le _, Nat.zero_le _⟩ ?_
    refine lv_if_eq (tgt := 27) (pc := 14) hx hb dX7_opinion_14 (by decide) (fun c14 => ?_) (fun c14 => ?_)
    · have hf := ft hf c14
      refine lv_iconst (v := (-1)) (pc := 27) hx hb dX7_opinion_27 (by decide) ?_
      have hf := Option.some.inj hf
      subst hf
      exact W.iret (v := (-1)) hx hb hr (fun t ht hW => ⟨⟨_, (), rfl, rfl, by rw [ht]; exact hP, va_K.moved hW.alike hK, hD⟩, hS.F ht⟩) hS.2.2 dX7_opinion_28
    · have hf := ff hf c14
      refine lv_iload_n (pc := 17) hx hb dX7_opinion_17 rfl (lv_at hl 3 rfl) ?_
      refine lv_iconst (v := 0) (pc := 18) hx hb dX7_opinion_18 (by decide) ?_
      refine lv_bipush (v := 100) (pc := 19) hx hb dX7_opinion_19 (by decide) ?_
      obtain ⟨r21, e21, hf⟩ := bdE hf
      refine ksI (pc := 21) (As := [.int x3, .int 0, .int 100]) (rest := []) ⟨hx, hb, hml, hown, hts⟩ (c_X7_isWithin l N x3 0 100 r21 e21) (va_cwS 3 hts gX7_opinion_X7_isWithin rfl rfl rfl h_X7_isWithin ⟨Nat.le_of_ble_eq_true rfl, Nat.le_of_ble_eq_true rfl⟩) rfl hl.1 rfl (Nat.le_of_ble_eq_true rfl) dX7_opinion_21 ⟨Nat.zero_le _, Nat.zero_le _⟩ ?_
      refine lv_if_ne (tgt := 29) (pc := 24) hx hb dX7_opinion_24 (by decide) (fun c24 => ?_) (fun c24 => ?_)
      · have hf := ff hf c24
        refine lv_aload_n (pc := 29) hx hb dX7_opinion_29 rfl (lv_at hl 0 rfl) ?_
        refine va_get (D := g.1) (ci := 7) (v := .ref (g.2.2.1 3)) (C := RX7) (T := TX7) (N := 13) (pc := 30) hx hb hts (fun _ h => List.mem_cons_of_mem _ (List.mem_append_left _ (List.mem_append_right _ h))) hown hK hP 0 rfl rfl 5 (by decide) (hts _ q_X7_opinion_0) (fun _ h9 => h9) rfl dX7_opinion_30 ?_
        obtain ⟨r33, e33, hf⟩ := bdE hf
        refine krI (g := g) (wc := (wd_3 g S3)) (pc := 33) (As := []) (rest := []) ⟨hx, hb, hml, hown, hts⟩ (c_X3_isFull l g N S3 r33 e33) (cwV 0 hts gX7_opinion_X3_isFull rfl rfl rfl h_X3_isFull ⟨Nat.le_of_ble_eq_true rfl, Nat.le_of_ble_eq_true rfl⟩) hK (hP.sub (ws' := (wd_3 g S3)) [2, 3, 4, 5, 6] rfl) rfl rfl rfl hl.1 rfl (Nat.le_of_ble_eq_true rfl) dX7_opinion_33 ⟨Nat.zero_le _, Nat.zero_le _⟩ ?_
        refine lv_if_eq (tgt := 42) (pc := 36) hx hb dX7_opinion_36 (by decide) (fun c36 => ?_) (fun c36 => ?_)
        · have hf := ft hf c36
          refine lv_aload_n (pc := 42) hx hb dX7_opinion_42 rfl (lv_at hl 0 rfl) ?_
          refine va_get (D := g.1) (ci := 7) (v := .ref (g.2.2.1 3)) (C := RX7) (T := TX7) (N := 13) (pc := 43) hx hb hts (fun _ h => List.mem_cons_of_mem _ (List.mem_append_left _ (List.mem_append_right _ h))) hown hK hP 0 rfl rfl 5 (by decide) (hts _ q_X7_opinion_0) (fun _ h9 => h9) rfl dX7_opinion_43 ?_
          refine lv_iload_n (pc := 46) hx hb dX7_opinion_46 rfl (lv_at hl 1 rfl) ?_
          refine lv_iload_n (pc := 47) hx hb dX7_opinion_47 rfl (lv_at hl 2 rfl) ?_
          refine lv_iload_n (pc := 48) hx hb dX7_opinion_48 rfl (lv_at hl 3 rfl) ?_
          refine lv_iload (pc := 49) hx hb dX7_opinion_49 (lv_at hl 4 rfl) ?_
          obtain ⟨r51, e51, hf⟩ := bdE hf
          refine kwI (g := g) (A := A) (W0 := (wd_7_3 g S7 S3)) (wc := (wd_3 g S3)) (wr := (wd_7 g S7)) (w1 := (wd_3 g (r51.2))) (W1 := (wd_7_3 g S7 (r51.2))) (pc := 51) (As := [.int x1, .int x2, .int x3, .int x4]) (rest := []) ⟨hx, hb, hml, hown, hts⟩ hK hA hP hD hS (c_X3_add l g N H.size S3 x1 x2 x3 x4 r51 e51) (cwV 4 hts gX7_opinion_X3_add rfl rfl rfl h_X3_add ⟨Nat.le_of_ble_eq_true rfl, Nat.le_of_ble_eq_true rfl⟩) [2, 3, 4, 5, 6] [0, 1] [0, 1, 2, 3, 4, 5, 6] rfl rfl rfl rfl rfl (by decide) rfl rfl rfl rfl rfl rfl hl.1 rfl (Nat.le_of_ble_eq_true rfl) dX7_opinion_51 ⟨Nat.zero_le _, Nat.zero_le _⟩ (fun H locs hP hD hS => ?_)
          have hf := Option.some.inj hf
          subst hf
          exact W.iret (v := (r51.1)) hx hb hr (fun t ht hW => ⟨⟨_, (), rfl, rfl, by rw [ht]; exact hP, va_K.moved hW.alike hK, hD⟩, hS.F ht⟩) hS.2.2 dX7_opinion_54
        · have hf := ff hf c36
          refine lv_bipush (v := (-2)) (pc := 39) hx hb dX7_opinion_39 (by decide) ?_
          have hf := Option.some.inj hf
          subst hf
          exact W.iret (v := (-2)) hx hb hr (fun t ht hW => ⟨⟨_, (), rfl, rfl, by rw [ht]; exact hP, va_K.moved hW.alike hK, hD⟩, hS.F ht⟩) hS.2.2 dX7_opinion_41
      · have hf := ft hf c24
        refine lv_iconst (v := (-1)) (pc := 27) hx hb dX7_opinion_27 (by decide) ?_
        have hf := Option.some.inj hf
        subst hf
        exact W.iret (v := (-1)) hx hb hr (fun t ht hW => ⟨⟨_, (), rfl, rfl, by rw [ht]; exact hP, va_K.moved hW.alike hK, hD⟩, hS.F ht⟩) hS.2.2 dX7_opinion_28
theorem q_X7_mean_0 : (.fieldLink RX7 45 "PictureCourt" "opinions" "LPictureCourt$Opinions;" : Cond) ∈ wsX7_mean := by decide +kernel
theorem h_X7_mean : yX7_mean.cls = RX7 ∧ yX7_mean.cls ≠ "java/lang/invoke/MethodHandle" ∧ yX7_mean.cls ≠ "java/lang/invoke/VarHandle" ∧ (parseMethodDescriptor yX7_mean.desc).map (fun d => d.parameters.length) = some 2 := by decide +kernel
set_option maxHeartbeats 4000000 in
set_option maxRecDepth 100000 in
theorem c_X7_mean (l : Launch) (g : En) (N : Nat) (sz : Nat) (S7 : St) (S3 : St) (x1 : Int32) (x2 : Int32) (res : Int32 × St) (hf : f_X7_mean N S7 S3 x1 x2 = some res) : Met l yX7_mean wsX7_mean { frames := 2, cells := 0, slots := 0, locals := 42 } (rwP g (wd_7_3 g S7 S3) sz [.ref (g.2.2.1 7), .int x1, .int x2]) (rwQi g (wd_7_3 g (res.2) S3) (va_A (wd_7_3 g S7 S3) sz) (res.1)) 0 0 (va_A (wd_7_3 g S7 S3) sz) := by
  refine Met.ofW (cc := cX7_mean) (maxL := 4) (ret := (some .int)) (by decide) rfl ?_
  intro p e s m args below meth c s₁ B hml hv
  obtain ⟨rfl, hsz, hP, hK, hD0⟩ := hv
  have hx := B.exec
  have hb := B.bytes
  have hr := B.returns
  have hts := atoms_spec (ws := wsX7_mean) B.pre
  have hown : s.vm.findClass RX7 = some m.cls := findClass_of_methodNamed B.named
  have hlk := B.notSynchronized
  subst hsz
  have hD := hD0.self (sz := s.heap.size)
  generalize hAe : va_A (wd_7_3 g S7 S3) s.heap.size = A at hD ⊢
  have hA : ∀ q : Nat, s.heap.size ≤ q → A q := fun q h => by rw [← hAe]; exact Or.inr h
  have hS : va_S A s.heap s.heap [] := va_S.rf
  have C : cxw g A cX7_mean 4 (some .int) wsX7_mean RX7 p s m ([.ref (g.2.2.1 7), .int x1, .int x2] : List Value).toArray meth c := ⟨⟨hx, hb, hr, hml, hown, hts, hlk⟩, hK, hA⟩
  have hl := lv_entry [.ref (g.2.2.1 7), .int x1, .int x2] (n := 4) (Nat.le_of_ble_eq_true rfl)
  rw [lg_entry_eq]
  generalize (lg_sl [.ref (g.2.2.1 7), .int x1, .int x2] ++ List.replicate (4 - (lg_sl [.ref (g.2.2.1 7), .int x1, .int x2]).length) Slot.unset).toArray = ls at hl ⊢
  have hl : lv_has ls 4 [(0, .ref (g.2.2.1 7)), (1, .int x1), (2, .int x2)] := hl
  unfold f_X7_mean at hf
  suffices K9 : ∀ (H : Heap) (locs : List Loc), va_P g.1 vwCl (wd_7_3 g S7 S3) H → va_D A (wd_7_3 g S7 S3) → va_S A s.heap H locs → ((f_X7_isHand N x1).bind (fun r1 => (if r1 = 0 then some ((-1), S7) else ((f_X3_howMany N S3 x1 x2).bind (fun r15 => (if r15 = 0 then ((f_X7_refuse N S7 4).bind (fun r25 => some ((r25.1), (r25.2)))) else ((f_X3_sumOf N S3 x1 x2).bind (fun r35 => (if (r15 : Int32) = 0 then none else some ((r35 / r15), S7)))))))))) = some res → W p l e (headSpec wsX7_mean { frames := 2, cells := 0, slots := 0, locals := 42 }).room s m ([.ref (g.2.2.1 7), .int x1, .int x2] : List Value).toArray below meth c H locs 0 0 (MQ below (rwQi g (wd_7_3 g (res.2) S3) A (res.1)) ([.ref (g.2.2.1 7), .int x1, .int x2] : List Value).toArray s 0 0 A) (F0 m 0 ls []) from K9 s.heap [] hP hD hS hf
  clear hP hD hS hf
  intro H locs hP hD hS hf
  refine lv_iload_n (pc := 0) hx hb dX7_mean_0 rfl (lv_at hl 1 rfl) ?_
  obtain ⟨r1, e1, hf⟩ := bdE hf
  refine ksI (pc := 1) (As := [.int x1]) (rest := []) ⟨hx, hb, hml, hown, hts⟩ (c_X7_isHand l N x1 r1 e1) (va_cwS 1 hts gX7_mean_X7_isHand rfl rfl rfl h_X7_isHand ⟨Nat.le_of_ble_eq_true rfl, Nat.le_of_ble_eq_true rfl⟩) rfl hl.1 rfl (Nat.le_of_ble_eq_true rfl) dX7_mean_1 ⟨Nat.zero_le _, Nat.zero_le _⟩ ?_
  refine lv_if_ne (tgt := 9) (pc := 4) hx hb dX7_mean_4 (by decide) (fun c4 => ?_) (fun c4 => ?_)
  · have hf := ff hf c4
    refine lv_aload_n (pc := 9) hx hb dX7_mean_9 rfl (lv_at hl 0 rfl) ?_
    refine va_get (D := g.1) (ci := 7) (v := .ref (g.2.2.1 3)) (C := RX7) (T := TX7) (N := 13) (pc := 10) hx hb hts (fun _ h => List.mem_cons_of_mem _ (List.mem_append_left _ (List.mem_append_right _ h))) hown hK hP 0 rfl rfl 5 (by decide) (hts _ q_X7_mean_0) (fun _ h9 => h9) rfl dX7_mean_10 ?_
    refine lv_iload_n (pc := 13) hx hb dX7_mean_13 rfl (lv_at hl 1 rfl) ?_
    refine lv_iload_n (pc := 14) hx hb dX7_mean_14 rfl (lv_at hl 2 rfl) ?_
    obtain ⟨r15, e15, hf⟩ := bdE hf
    refine krI (g := g) (wc := (wd_3 g S3)) (pc := 15) (As := [.int x1, .int x2]) (rest := []) ⟨hx, hb, hml, hown, hts⟩ (c_X3_howMany l g N S3 x1 x2 r15 e15) (cwV 2 hts gX7_mean_X3_howMany rfl rfl rfl h_X3_howMany ⟨Nat.le_of_ble_eq_true rfl, Nat.le_of_ble_eq_true rfl⟩) hK (hP.sub (ws' := (wd_3 g S3)) [2, 3, 4, 5, 6] rfl) rfl rfl rfl hl.1 rfl (Nat.le_of_ble_eq_true rfl) dX7_mean_15 ⟨Nat.zero_le _, Nat.zero_le _⟩ ?_
    refine lv_istore_n (lv' := [(3, .int r15), (0, .ref (g.2.2.1 7)), (1, .int x1), (2, .int x2)]) (pc := 18) hx hb dX7_mean_18 rfl hl (by decide) rfl (fun ls hl => ?_)
    refine lv_iload_n (pc := 19) hx hb dX7_mean_19 rfl (lv_at hl 0 rfl) ?_
    refine lv_if_ne (tgt := 29) (pc := 20) hx hb dX7_mean_20 (by decide) (fun c20 => ?_) (fun c20 => ?_)
    · have hf := ff hf c20
      refine lv_aload_n (pc := 29) hx hb dX7_mean_29 rfl (lv_at hl 1 rfl) ?_
      refine va_get (D := g.1) (ci := 7) (v := .ref (g.2.2.1 3)) (C := RX7) (T := TX7) (N := 13) (pc := 30) hx hb hts (fun _ h => List.mem_cons_of_mem _ (List.mem_append_left _ (List.mem_append_right _ h))) hown hK hP 0 rfl rfl 5 (by decide) (hts _ q_X7_mean_0) (fun _ h9 => h9) rfl dX7_mean_30 ?_
      refine lv_iload_n (pc := 33) hx hb dX7_mean_33 rfl (lv_at hl 2 rfl) ?_
      refine lv_iload_n (pc := 34) hx hb dX7_mean_34 rfl (lv_at hl 3 rfl) ?_
      obtain ⟨r35, e35, hf⟩ := bdE hf
      refine krI (g := g) (wc := (wd_3 g S3)) (pc := 35) (As := [.int x1, .int x2]) (rest := []) ⟨hx, hb, hml, hown, hts⟩ (c_X3_sumOf l g N S3 x1 x2 r35 e35) (cwV 2 hts gX7_mean_X3_sumOf rfl rfl rfl h_X3_sumOf ⟨Nat.le_of_ble_eq_true rfl, Nat.le_of_ble_eq_true rfl⟩) hK (hP.sub (ws' := (wd_3 g S3)) [2, 3, 4, 5, 6] rfl) rfl rfl rfl hl.1 rfl (Nat.le_of_ble_eq_true rfl) dX7_mean_35 ⟨Nat.zero_le _, Nat.zero_le _⟩ ?_
      refine lv_iload_n (pc := 38) hx hb dX7_mean_38 rfl (lv_at hl 0 rfl) ?_
      obtain ⟨z39, hf⟩ := nzE hf
      refine lv_idiv (pc := 39) hx hb dX7_mean_39 z39 ?_
      have hf := Option.some.inj hf
      subst hf
      exact W.iret (v := (r35 / r15)) hx hb hr (fun t ht hW => ⟨⟨_, (), rfl, rfl, by rw [ht]; exact hP, va_K.moved hW.alike hK, hD⟩, hS.F ht⟩) hS.2.2 dX7_mean_40
    · have hf := ft hf c20
      refine lv_aload_n (pc := 23) hx hb dX7_mean_23 rfl (lv_at hl 1 rfl) ?_
      refine lv_iconst (v := 4) (pc := 24) hx hb dX7_mean_24 (by decide) ?_
      obtain ⟨r25, e25, hf⟩ := bdE hf
      refine kwI (g := g) (A := A) (W0 := (wd_7_3 g S7 S3)) (wc := (wd_7 g S7)) (wr := (wd_3 g S3)) (w1 := (wd_7 g (r25.2))) (W1 := (wd_7_3 g (r25.2) S3)) (pc := 25) (As := [.int 4]) (rest := []) ⟨hx, hb, hml, hown, hts⟩ hK hA hP hD hS (c_X7_refuse l g N H.size S7 4 r25 e25) (cwV 1 hts gX7_mean_X7_refuse rfl rfl rfl h_X7_refuse ⟨Nat.le_of_ble_eq_true rfl, Nat.le_of_ble_eq_true rfl⟩) [0, 1] [2, 3, 4, 5, 6] [5, 6, 0, 1, 2, 3, 4] rfl rfl rfl rfl rfl (by decide) rfl rfl rfl rfl rfl rfl hl.1 rfl (Nat.le_of_ble_eq_true rfl) dX7_mean_25 ⟨Nat.zero_le _, Nat.zero_le _⟩ (fun H locs hP hD hS => ?_)
      have hf := Option.some.inj hf
      subst hf
      exact W.iret (v := (r25.1)) hx hb hr (fun t ht hW => ⟨⟨_, (), rfl, rfl, by rw [ht]; exact hP, va_K.moved hW.alike hK, hD⟩, hS.F ht⟩) hS.2.2 dX7_mean_28
  · have hf := ft hf c4
    refine lv_iconst (v := (-1)) (pc := 7) hx hb dX7_mean_7 (by decide) ?_
    have hf := Option.some.inj hf
    subst hf
    exact W.iret (v := (-1)) hx hb hr (fun t ht hW => ⟨⟨_, (), rfl, rfl, by rw [ht]; exact hP, va_K.moved hW.alike hK, hD⟩, hS.F ht⟩) hS.2.2 dX7_mean_8
theorem q_X7_spread_0 : (.fieldLink RX7 45 "PictureCourt" "opinions" "LPictureCourt$Opinions;" : Cond) ∈ wsX7_spread := by decide +kernel
theorem q_X7_spread_1 : (.fieldLink RX7 291 "PictureCourt$Opinions" "widest" "I" : Cond) ∈ wsX7_spread := by decide +kernel
theorem q_X7_spread_2 : (.fieldLink RX7 294 "PictureCourt$Opinions" "widestExpert" "I" : Cond) ∈ wsX7_spread := by decide +kernel
theorem q_X7_spread_3 : (.fieldLink RX7 67 "PictureCourt" "askedNumber" "I" : Cond) ∈ wsX7_spread := by decide +kernel
theorem h_X7_spread : yX7_spread.cls = RX7 ∧ yX7_spread.cls ≠ "java/lang/invoke/MethodHandle" ∧ yX7_spread.cls ≠ "java/lang/invoke/VarHandle" ∧ (parseMethodDescriptor yX7_spread.desc).map (fun d => d.parameters.length) = some 0 := by decide +kernel
set_option maxHeartbeats 4000000 in
set_option maxRecDepth 100000 in
theorem c_X7_spread (l : Launch) (g : En) (N : Nat) (sz : Nat) (S7 : St) (S3 : St) (res : Int32 × St × St) (hf : f_X7_spread N S7 S3 = some res) : Met l yX7_spread wsX7_spread { frames := 2, cells := 0, slots := 0, locals := 46 } (rwP g (wd_7_3 g S7 S3) sz [.ref (g.2.2.1 7)]) (rwQi g (wd_7_3 g (res.2.1) (res.2.2)) (va_A (wd_7_3 g S7 S3) sz) (res.1)) 0 0 (va_A (wd_7_3 g S7 S3) sz) := by
  refine Met.ofW (cc := cX7_spread) (maxL := 1) (ret := (some .int)) (by decide) rfl ?_
  intro p e s m args below meth c s₁ B hml hv
  obtain ⟨rfl, hsz, hP, hK, hD0⟩ := hv
  have hx := B.exec
  have hb := B.bytes
  have hr := B.returns
  have hts := atoms_spec (ws := wsX7_spread) B.pre
  have hown : s.vm.findClass RX7 = some m.cls := findClass_of_methodNamed B.named
  have hlk := B.notSynchronized
  subst hsz
  have hD := hD0.self (sz := s.heap.size)
  generalize hAe : va_A (wd_7_3 g S7 S3) s.heap.size = A at hD ⊢
  have hA : ∀ q : Nat, s.heap.size ≤ q → A q := fun q h => by rw [← hAe]; exact Or.inr h
  have hS : va_S A s.heap s.heap [] := va_S.rf
  have C : cxw g A cX7_spread 1 (some .int) wsX7_spread RX7 p s m ([.ref (g.2.2.1 7)] : List Value).toArray meth c := ⟨⟨hx, hb, hr, hml, hown, hts, hlk⟩, hK, hA⟩
  have hl := lv_entry [.ref (g.2.2.1 7)] (n := 1) (Nat.le_of_ble_eq_true rfl)
  rw [lg_entry_eq]
  generalize (lg_sl [.ref (g.2.2.1 7)] ++ List.replicate (1 - (lg_sl [.ref (g.2.2.1 7)]).length) Slot.unset).toArray = ls at hl ⊢
  have hl : lv_has ls 1 [(0, .ref (g.2.2.1 7))] := hl
  unfold f_X7_spread at hf
  suffices K9 : ∀ (H : Heap) (locs : List Loc), va_P g.1 vwCl (wd_7_3 g S7 S3) H → va_D A (wd_7_3 g S7 S3) → va_S A s.heap H locs → ((f_X3_findSpread N S3).bind (fun r4 => (if (r4.1 5) = (-9) then some ((-9), S7, r4) else some ((r4.1 5), (sI S7 10 (r4.1 6)), r4)))) = some res → W p l e (headSpec wsX7_spread { frames := 2, cells := 0, slots := 0, locals := 46 }).room s m ([.ref (g.2.2.1 7)] : List Value).toArray below meth c H locs 0 0 (MQ below (rwQi g (wd_7_3 g (res.2.1) (res.2.2)) A (res.1)) ([.ref (g.2.2.1 7)] : List Value).toArray s 0 0 A) (F0 m 0 ls []) from K9 s.heap [] hP hD hS hf
  clear hP hD hS hf
  intro H locs hP hD hS hf
  refine lv_aload_n (pc := 0) hx hb dX7_spread_0 rfl (lv_at hl 0 rfl) ?_
  refine va_get (D := g.1) (ci := 7) (v := .ref (g.2.2.1 3)) (C := RX7) (T := TX7) (N := 13) (pc := 1) hx hb hts (fun _ h => List.mem_cons_of_mem _ (List.mem_append_left _ (List.mem_append_right _ h))) hown hK hP 0 rfl rfl 5 (by decide) (hts _ q_X7_spread_0) (fun _ h9 => h9) rfl dX7_spread_1 ?_
  obtain ⟨r4, e4, hf⟩ := bdE hf
  refine kwV (g := g) (A := A) (W0 := (wd_7_3 g S7 S3)) (wc := (wd_3 g S3)) (wr := (wd_7 g S7)) (w1 := (wd_3 g r4)) (W1 := (wd_7_3 g S7 r4)) (pc := 4) (As := []) (rest := []) ⟨hx, hb, hml, hown, hts⟩ hK hA hP hD hS (c_X3_findSpread l g N H.size S3 r4 e4) (cwV 0 hts gX7_spread_X3_findSpread rfl rfl rfl h_X3_findSpread ⟨Nat.le_of_ble_eq_true rfl, Nat.le_of_ble_eq_true rfl⟩) [2, 3, 4, 5, 6] [0, 1] [0, 1, 2, 3, 4, 5, 6] rfl rfl rfl rfl rfl (by decide) rfl rfl rfl rfl rfl rfl hl.1 rfl (Nat.le_of_ble_eq_true rfl) dX7_spread_4 ⟨Nat.zero_le _, Nat.zero_le _⟩ (fun H locs hP hD hS => ?_)
  refine lv_aload_n (pc := 7) hx hb dX7_spread_7 rfl (lv_at hl 0 rfl) ?_
  refine va_get (D := g.1) (ci := 7) (v := .ref (g.2.2.1 3)) (C := RX7) (T := TX7) (N := 13) (pc := 8) hx hb hts (fun _ h => List.mem_cons_of_mem _ (List.mem_append_left _ (List.mem_append_right _ h))) hown hK hP 0 rfl rfl 5 (by decide) (hts _ q_X7_spread_0) (fun _ h9 => h9) rfl dX7_spread_8 ?_
  refine va_get (D := g.1) (ci := 3) (v := .int (r4.1 5)) (C := RX3) (T := TX3) (N := 7) (pc := 11) hx hb hts (fun _ h => List.mem_cons_of_mem _ (List.mem_append_right _ h)) hown hK hP 2 rfl rfl 5 (by decide) (hts _ q_X7_spread_1) (fun _ h9 => h9) rfl dX7_spread_11 ?_
  refine lv_bipush (v := (-9)) (pc := 14) hx hb dX7_spread_14 (by decide) ?_
  refine lv_icmp_ne (tgt := 22) (pc := 16) hx hb dX7_spread_16 (by decide) (fun c16 => ?_) (fun c16 => ?_)
  · have hf := ff hf c16
    refine lv_aload_n (pc := 22) hx hb dX7_spread_22 rfl (lv_at hl 0 rfl) ?_
    refine lv_aload_n (pc := 23) hx hb dX7_spread_23 rfl (lv_at hl 0 rfl) ?_
    refine va_get (D := g.1) (ci := 7) (v := .ref (g.2.2.1 3)) (C := RX7) (T := TX7) (N := 13) (pc := 24) hx hb hts (fun _ h => List.mem_cons_of_mem _ (List.mem_append_left _ (List.mem_append_right _ h))) hown hK hP 0 rfl rfl 5 (by decide) (hts _ q_X7_spread_0) (fun _ h9 => h9) rfl dX7_spread_24 ?_
    refine va_get (D := g.1) (ci := 3) (v := .int (r4.1 6)) (C := RX3) (T := TX3) (N := 7) (pc := 27) hx hb hts (fun _ h => List.mem_cons_of_mem _ (List.mem_append_right _ h)) hown hK hP 2 rfl rfl 6 (by decide) (hts _ q_X7_spread_2) (fun _ h9 => h9) rfl dX7_spread_27 ?_
    refine va_put (D := g.1) (ci := 7) (v := .int (r4.1 6)) (ty := .int) (C := RX7) (T := TX7) (N := 13) (pc := 30) hx hb hts (fun _ h => List.mem_cons_of_mem _ (List.mem_append_left _ (List.mem_append_right _ h))) tyX7 tyX7_ok nmX7 hown hK hP hD hS 0 rfl rfl 10 (by decide) (hts _ q_X7_spread_3) (fun _ h9 => h9) rfl rfl rfl rfl (Nat.le_of_ble_eq_true rfl) dX7_spread_30 (fun H locs hP hD hS => ?_)
    have hP := u_7_3_7_10P S7 r4 (r4.1 6) hP
    have hD := u_7_3_7_10D S7 r4 (r4.1 6) hD
    refine lv_aload_n (pc := 33) hx hb dX7_spread_33 rfl (lv_at hl 0 rfl) ?_
    refine va_get (D := g.1) (ci := 7) (v := .ref (g.2.2.1 3)) (C := RX7) (T := TX7) (N := 13) (pc := 34) hx hb hts (fun _ h => List.mem_cons_of_mem _ (List.mem_append_left _ (List.mem_append_right _ h))) hown hK hP 0 rfl rfl 5 (by decide) (hts _ q_X7_spread_0) (fun _ h9 => h9) rfl dX7_spread_34 ?_
    refine va_get (D := g.1) (ci := 3) (v := .int (r4.1 5)) (C := RX3) (T := TX3) (N := 7) (pc := 37) hx hb hts (fun _ h => List.mem_cons_of_mem _ (List.mem_append_right _ h)) hown hK hP 2 rfl rfl 5 (by decide) (hts _ q_X7_spread_1) (fun _ h9 => h9) rfl dX7_spread_37 ?_
    have hf := Option.some.inj hf
    subst hf
    exact W.iret (v := (r4.1 5)) hx hb hr (fun t ht hW => ⟨⟨_, (), rfl, rfl, by rw [ht]; exact hP, va_K.moved hW.alike hK, hD⟩, hS.F ht⟩) hS.2.2 dX7_spread_40
  · have hf := ft hf c16
    refine lv_bipush (v := (-9)) (pc := 19) hx hb dX7_spread_19 (by decide) ?_
    have hf := Option.some.inj hf
    subst hf
    exact W.iret (v := (-9)) hx hb hr (fun t ht hW => ⟨⟨_, (), rfl, rfl, by rw [ht]; exact hP, va_K.moved hW.alike hK, hD⟩, hS.F ht⟩) hS.2.2 dX7_spread_21
theorem q_X7_sold_0 : (.fieldLink RX7 60 "PictureCourt" "today" "I" : Cond) ∈ wsX7_sold := by decide +kernel
theorem q_X7_sold_1 : (.constant RX7 297 1000000 : Cond) ∈ wsX7_sold := by decide +kernel
theorem q_X7_sold_2 : (.fieldLink RX7 52 "PictureCourt" "contract" "LPictureCourt$Contract;" : Cond) ∈ wsX7_sold := by decide +kernel
theorem h_X7_sold : yX7_sold.cls = RX7 ∧ yX7_sold.cls ≠ "java/lang/invoke/MethodHandle" ∧ yX7_sold.cls ≠ "java/lang/invoke/VarHandle" ∧ (parseMethodDescriptor yX7_sold.desc).map (fun d => d.parameters.length) = some 3 := by decide +kernel
set_option maxHeartbeats 4000000 in
set_option maxRecDepth 100000 in
theorem c_X7_sold (l : Launch) (g : En) (N : Nat) (sz : Nat) (S7 : St) (S0 : St) (x1 : Int32) (x2 : Int32) (x3 : Int32) (res : Int32 × St) (hf : f_X7_sold N S7 S0 x1 x2 x3 = some res) : Met l yX7_sold wsX7_sold { frames := 2, cells := 0, slots := 0, locals := 42 } (rwP g (wd_7_0 g S7 S0) sz [.ref (g.2.2.1 7), .int x1, .int x2, .int x3]) (rwQi g (wd_7_0 g S7 (res.2)) (va_A (wd_7_0 g S7 S0) sz) (res.1)) 0 0 (va_A (wd_7_0 g S7 S0) sz) := by
  refine Met.ofW (cc := cX7_sold) (maxL := 4) (ret := (some .int)) (by decide) rfl ?_
  intro p e s m args below meth c s₁ B hml hv
  obtain ⟨rfl, hsz, hP, hK, hD0⟩ := hv
  have hx := B.exec
  have hb := B.bytes
  have hr := B.returns
  have hts := atoms_spec (ws := wsX7_sold) B.pre
  have hown : s.vm.findClass RX7 = some m.cls := findClass_of_methodNamed B.named
  have hlk := B.notSynchronized
  subst hsz
  have hD := hD0.self (sz := s.heap.size)
  generalize hAe : va_A (wd_7_0 g S7 S0) s.heap.size = A at hD ⊢
  have hA : ∀ q : Nat, s.heap.size ≤ q → A q := fun q h => by rw [← hAe]; exact Or.inr h
  have hS : va_S A s.heap s.heap [] := va_S.rf
  have C : cxw g A cX7_sold 4 (some .int) wsX7_sold RX7 p s m ([.ref (g.2.2.1 7), .int x1, .int x2, .int x3] : List Value).toArray meth c := ⟨⟨hx, hb, hr, hml, hown, hts, hlk⟩, hK, hA⟩
  have hl := lv_entry [.ref (g.2.2.1 7), .int x1, .int x2, .int x3] (n := 4) (Nat.le_of_ble_eq_true rfl)
  rw [lg_entry_eq]
  generalize (lg_sl [.ref (g.2.2.1 7), .int x1, .int x2, .int x3] ++ List.replicate (4 - (lg_sl [.ref (g.2.2.1 7), .int x1, .int x2, .int x3]).length) Slot.unset).toArray = ls at hl ⊢
  have hl : lv_has ls 4 [(0, .ref (g.2.2.1 7)), (1, .int x1), (2, .int x2), (3, .int x3)] := hl
  unfold f_X7_sold at hf
  suffices K9 : ∀ (H : Heap) (locs : List Loc), va_P g.1 vwCl (wd_7_0 g S7 S0) H → va_D A (wd_7_0 g S7 S0) → va_S A s.heap H locs → ((f_X7_isWithin N x1 0 (S7.1 8)).bind (fun r6 => (if r6 = 0 then some ((-1), S0) else ((f_X7_isWithin N x2 1 1000000).bind (fun r17 => (if r17 = 0 then some ((-1), S0) else ((f_X7_isHand N x3).bind (fun r24 => (if r24 = 0 then some ((-1), S0) else ((f_X0_sell N S0 x1 x2 x3).bind (fun r39 => some (1, r39)))))))))))) = some res → W p l e (headSpec wsX7_sold { frames := 2, cells := 0, slots := 0, locals := 42 }).room s m ([.ref (g.2.2.1 7), .int x1, .int x2, .int x3] : List Value).toArray below meth c H locs 0 0 (MQ below (rwQi g (wd_7_0 g S7 (res.2)) A (res.1)) ([.ref (g.2.2.1 7), .int x1, .int x2, .int x3] : List Value).toArray s 0 0 A) (F0 m 0 ls []) from K9 s.heap [] hP hD hS hf
  clear hP hD hS hf
  intro H locs hP hD hS hf
  refine lv_iload_n (pc := 0) hx hb dX7_sold_0 rfl (lv_at hl 1 rfl) ?_
  refine lv_iconst (v := 0) (pc := 1) hx hb dX7_sold_1 (by decide) ?_
  refine lv_aload_n (pc := 2) hx hb dX7_sold_2 rfl (lv_at hl 0 rfl) ?_
  refine va_get (D := g.1) (ci := 7) (v := .int (S7.1 8)) (C := RX7) (T := TX7) (N := 13) (pc := 3) hx hb hts (fun _ h => List.mem_cons_of_mem _ (List.mem_append_left _ (List.mem_append_right _ h))) hown hK hP 0 rfl rfl 8 (by decide) (hts _ q_X7_sold_0) (fun _ h9 => h9) rfl dX7_sold_3 ?_
  obtain ⟨r6, e6, hf⟩ := bdE hf
  refine ksI (pc := 6) (As := [.int x1, .int 0, .int (S7.1 8)]) (rest := []) ⟨hx, hb, hml, hown, hts⟩ (c_X7_isWithin l N x1 0 (S7.1 8) r6 e6) (va_cwS 3 hts gX7_sold_X7_isWithin rfl rfl rfl h_X7_isWithin ⟨Nat.le_of_ble_eq_true rfl, Nat.le_of_ble_eq_true rfl⟩) rfl hl.1 rfl (Nat.le_of_ble_eq_true rfl) dX7_sold_6 ⟨Nat.zero_le _, Nat.zero_le _⟩ ?_
  refine lv_if_eq (tgt := 30) (pc := 9) hx hb dX7_sold_9 (by decide) (fun c9 => ?_) (fun c9 => ?_)
  · have hf := ft hf c9
    refine lv_iconst (v := (-1)) (pc := 30) hx hb dX7_sold_30 (by decide) ?_
    have hf := Option.some.inj hf
    subst hf
    exact W.iret (v := (-1)) hx hb hr (fun t ht hW => ⟨⟨_, (), rfl, rfl, by rw [ht]; exact hP, va_K.moved hW.alike hK, hD⟩, hS.F ht⟩) hS.2.2 dX7_sold_31
  · have hf := ff hf c9
    refine lv_iload_n (pc := 12) hx hb dX7_sold_12 rfl (lv_at hl 2 rfl) ?_
    refine lv_iconst (v := 1) (pc := 13) hx hb dX7_sold_13 (by decide) ?_
    refine lv_ldcw (v := 1000000) (pc := 14) hx hb hown (hts _ q_X7_sold_1) dX7_sold_14 ?_
    obtain ⟨r17, e17, hf⟩ := bdE hf
    refine ksI (pc := 17) (As := [.int x2, .int 1, .int 1000000]) (rest := []) ⟨hx, hb, hml, hown, hts⟩ (c_X7_isWithin l N x2 1 1000000 r17 e17) (va_cwS 3 hts gX7_sold_X7_isWithin rfl rfl rfl h_X7_isWithin ⟨Nat.le_of_ble_eq_true rfl, Nat.le_of_ble_eq_true rfl⟩) rfl hl.1 rfl (Nat.le_of_ble_eq_true rfl) dX7_sold_17 ⟨Nat.zero_le _, Nat.zero_le _⟩ ?_
    refine lv_if_eq (tgt := 30) (pc := 20) hx hb dX7_sold_20 (by decide) (fun c20 => ?_) (fun c20 => ?_)
    · have hf := ft hf c20
      refine lv_iconst (v := (-1)) (pc := 30) hx hb dX7_sold_30 (by decide) ?_
      have hf := Option.some.inj hf
      subst hf
      exact W.iret (v := (-1)) hx hb hr (fun t ht hW => ⟨⟨_, (), rfl, rfl, by rw [ht]; exact hP, va_K.moved hW.alike hK, hD⟩, hS.F ht⟩) hS.2.2 dX7_sold_31
    · have hf := ff hf c20
      refine lv_iload_n (pc := 23) hx hb dX7_sold_23 rfl (lv_at hl 3 rfl) ?_
      obtain ⟨r24, e24, hf⟩ := bdE hf
      refine ksI (pc := 24) (As := [.int x3]) (rest := []) ⟨hx, hb, hml, hown, hts⟩ (c_X7_isHand l N x3 r24 e24) (va_cwS 1 hts gX7_sold_X7_isHand rfl rfl rfl h_X7_isHand ⟨Nat.le_of_ble_eq_true rfl, Nat.le_of_ble_eq_true rfl⟩) rfl hl.1 rfl (Nat.le_of_ble_eq_true rfl) dX7_sold_24 ⟨Nat.zero_le _, Nat.zero_le _⟩ ?_
      refine lv_if_ne (tgt := 32) (pc := 27) hx hb dX7_sold_27 (by decide) (fun c27 => ?_) (fun c27 => ?_)
      · have hf := ff hf c27
        refine lv_aload_n (pc := 32) hx hb dX7_sold_32 rfl (lv_at hl 0 rfl) ?_
        refine va_get (D := g.1) (ci := 7) (v := .ref (g.2.2.1 0)) (C := RX7) (T := TX7) (N := 13) (pc := 33) hx hb hts (fun _ h => List.mem_cons_of_mem _ (List.mem_append_left _ (List.mem_append_right _ h))) hown hK hP 0 rfl rfl 6 (by decide) (hts _ q_X7_sold_2) (fun _ h9 => h9) rfl dX7_sold_33 ?_
        refine lv_iload_n (pc := 36) hx hb dX7_sold_36 rfl (lv_at hl 1 rfl) ?_
        refine lv_iload_n (pc := 37) hx hb dX7_sold_37 rfl (lv_at hl 2 rfl) ?_
        refine lv_iload_n (pc := 38) hx hb dX7_sold_38 rfl (lv_at hl 3 rfl) ?_
        obtain ⟨r39, e39, hf⟩ := bdE hf
        refine kwV (g := g) (A := A) (W0 := (wd_7_0 g S7 S0)) (wc := (wd_0 g S0)) (wr := (wd_7 g S7)) (w1 := (wd_0 g r39)) (W1 := (wd_7_0 g S7 r39)) (pc := 39) (As := [.int x1, .int x2, .int x3]) (rest := []) ⟨hx, hb, hml, hown, hts⟩ hK hA hP hD hS (c_X0_sell l g N H.size S0 x1 x2 x3 r39 e39) (cwV 3 hts gX7_sold_X0_sell rfl rfl rfl h_X0_sell ⟨Nat.le_of_ble_eq_true rfl, Nat.le_of_ble_eq_true rfl⟩) [2, 3, 4, 5, 6] [0, 1] [0, 1, 2, 3, 4, 5, 6] rfl rfl rfl rfl rfl (by decide) rfl rfl rfl rfl rfl rfl hl.1 rfl (Nat.le_of_ble_eq_true rfl) dX7_sold_39 ⟨Nat.zero_le _, Nat.zero_le _⟩ (fun H locs hP hD hS => ?_)
        refine lv_iconst (v := 1) (pc := 42) hx hb dX7_sold_42 (by decide) ?_
        have hf := Option.some.inj hf
        subst hf
        exact W.iret (v := 1) hx hb hr (fun t ht hW => ⟨⟨_, (), rfl, rfl, by rw [ht]; exact hP, va_K.moved hW.alike hK, hD⟩, hS.F ht⟩) hS.2.2 dX7_sold_43
      · have hf := ft hf c27
        refine lv_iconst (v := (-1)) (pc := 30) hx hb dX7_sold_30 (by decide) ?_
        have hf := Option.some.inj hf
        subst hf
        exact W.iret (v := (-1)) hx hb hr (fun t ht hW => ⟨⟨_, (), rfl, rfl, by rw [ht]; exact hP, va_K.moved hW.alike hK, hD⟩, hS.F ht⟩) hS.2.2 dX7_sold_31
theorem q_X7_law_0 : (.fieldLink RX7 52 "PictureCourt" "contract" "LPictureCourt$Contract;" : Cond) ∈ wsX7_law := by decide +kernel
theorem h_X7_law : yX7_law.cls = RX7 ∧ yX7_law.cls ≠ "java/lang/invoke/MethodHandle" ∧ yX7_law.cls ≠ "java/lang/invoke/VarHandle" ∧ (parseMethodDescriptor yX7_law.desc).map (fun d => d.parameters.length) = some 4 := by decide +kernel
set_option maxHeartbeats 4000000 in
set_option maxRecDepth 100000 in
theorem w_X7_law_23 {p : Program} {l : Launch} {e : Env} {s : State} {m : MethodId} {args : Array Value} {below : List Frame} {meth : Method} {c : Code} {g : En} {A : Nat → Prop} {N : Nat} {S7 : St} {res : Int32 × St} (C : cxw g A cX7_law 6 (some .int) wsX7_law RX7 p s m args meth c) : ∀ (H : Heap) (locs : List Loc) (S0 : St) (ls : Array Slot) (x1 : Int32) (x2 : Int32) (x3 : Int32) (x4 : Int32) (t0 : Int32), va_P g.1 vwCl (wd_7_0 g S7 S0) H → va_D A (wd_7_0 g S7 S0) → va_S A s.heap H locs → lv_has ls 6 [(0, .ref (g.2.2.1 7)), (1, .int x1), (2, .int x2), (3, .int x3), (4, .int x4)] → f_X7_law_23 N S7  S0 x1 x2 x3 x4 t0 = some res → W p l e (headSpec wsX7_law { frames := 2, cells := 0, slots := 0, locals := 42 }).room s m args below meth c H locs 0 0 (MQ below (rwQi g (wd_7_0 g S7 (res.2)) A (res.1)) args s 0 0 A) (F0 m 23 ls [.int t0]) := by
  intro H locs S0 ls x1 x2 x3 x4 t0 hP hD hS hl hf
  obtain ⟨⟨hx, hb, hr, hml, hown, hts, hlk⟩, hK, hA⟩ := id C
  unfold f_X7_law_23 at hf
  refine lv_istore (lv' := [(5, .int t0), (0, .ref (g.2.2.1 7)), (1, .int x1), (2, .int x2), (3, .int x3), (4, .int x4)]) (pc := 23) hx hb dX7_law_23 hl (by decide) rfl (fun ls hl => ?_)
  refine lv_iload (pc := 25) hx hb dX7_law_25 (lv_at hl 0 rfl) ?_
  refine lv_if_eq (tgt := 51) (pc := 27) hx hb dX7_law_27 (by decide) (fun c27 => ?_) (fun c27 => ?_)
  · have hf := ft hf c27
    refine lv_iconst (v := (-1)) (pc := 51) hx hb dX7_law_51 (by decide) ?_
    have hf := Option.some.inj hf
    subst hf
    exact W.iret (v := (-1)) hx hb hr (fun t ht hW => ⟨⟨_, (), rfl, rfl, by rw [ht]; exact hP, va_K.moved hW.alike hK, hD⟩, hS.F ht⟩) hS.2.2 dX7_law_52
  · have hf := ff hf c27
    refine lv_iload_n (pc := 30) hx hb dX7_law_30 rfl (lv_at hl 4 rfl) ?_
    refine lv_iconst (v := 0) (pc := 31) hx hb dX7_law_31 (by decide) ?_
    refine lv_bipush (v := 100) (pc := 32) hx hb dX7_law_32 (by decide) ?_
    obtain ⟨r34, e34, hf⟩ := bdE hf
    refine ksI (pc := 34) (As := [.int x3, .int 0, .int 100]) (rest := []) ⟨hx, hb, hml, hown, hts⟩ (c_X7_isWithin l N x3 0 100 r34 e34) (va_cwS 3 hts gX7_law_X7_isWithin rfl rfl rfl h_X7_isWithin ⟨Nat.le_of_ble_eq_true rfl, Nat.le_of_ble_eq_true rfl⟩) rfl hl.1 rfl (Nat.le_of_ble_eq_true rfl) dX7_law_34 ⟨Nat.zero_le _, Nat.zero_le _⟩ ?_
    refine lv_if_eq (tgt := 51) (pc := 37) hx hb dX7_law_37 (by decide) (fun c37 => ?_) (fun c37 => ?_)
    · have hf := ft hf c37
      refine lv_iconst (v := (-1)) (pc := 51) hx hb dX7_law_51 (by decide) ?_
      have hf := Option.some.inj hf
      subst hf
      exact W.iret (v := (-1)) hx hb hr (fun t ht hW => ⟨⟨_, (), rfl, rfl, by rw [ht]; exact hP, va_K.moved hW.alike hK, hD⟩, hS.F ht⟩) hS.2.2 dX7_law_52
    · have hf := ff hf c37
      refine lv_iload (pc := 40) hx hb dX7_law_40 (lv_at hl 5 rfl) ?_
      refine lv_iconst (v := 0) (pc := 42) hx hb dX7_law_42 (by decide) ?_
      refine lv_bipush (v := 100) (pc := 43) hx hb dX7_law_43 (by decide) ?_
      obtain ⟨r45, e45, hf⟩ := bdE hf
      refine ksI (pc := 45) (As := [.int x4, .int 0, .int 100]) (rest := []) ⟨hx, hb, hml, hown, hts⟩ (c_X7_isWithin l N x4 0 100 r45 e45) (va_cwS 3 hts gX7_law_X7_isWithin rfl rfl rfl h_X7_isWithin ⟨Nat.le_of_ble_eq_true rfl, Nat.le_of_ble_eq_true rfl⟩) rfl hl.1 rfl (Nat.le_of_ble_eq_true rfl) dX7_law_45 ⟨Nat.zero_le _, Nat.zero_le _⟩ ?_
      refine lv_if_ne (tgt := 53) (pc := 48) hx hb dX7_law_48 (by decide) (fun c48 => ?_) (fun c48 => ?_)
      · have hf := ff hf c48
        refine lv_aload_n (pc := 53) hx hb dX7_law_53 rfl (lv_at hl 1 rfl) ?_
        refine va_get (D := g.1) (ci := 7) (v := .ref (g.2.2.1 0)) (C := RX7) (T := TX7) (N := 13) (pc := 54) hx hb hts (fun _ h => List.mem_cons_of_mem _ (List.mem_append_left _ (List.mem_append_right _ h))) hown hK hP 0 rfl rfl 6 (by decide) (hts _ q_X7_law_0) (fun _ h9 => h9) rfl dX7_law_54 ?_
        obtain ⟨r57, e57, hf⟩ := bdE hf
        refine krI (g := g) (wc := (wd_0 g S0)) (pc := 57) (As := []) (rest := []) ⟨hx, hb, hml, hown, hts⟩ (c_X0_isFull l g N S0 r57 e57) (cwV 0 hts gX7_law_X0_isFull rfl rfl rfl h_X0_isFull ⟨Nat.le_of_ble_eq_true rfl, Nat.le_of_ble_eq_true rfl⟩) hK (hP.sub (ws' := (wd_0 g S0)) [2, 3, 4, 5, 6] rfl) rfl rfl rfl hl.1 rfl (Nat.le_of_ble_eq_true rfl) dX7_law_57 ⟨Nat.zero_le _, Nat.zero_le _⟩ ?_
        refine lv_if_eq (tgt := 66) (pc := 60) hx hb dX7_law_60 (by decide) (fun c60 => ?_) (fun c60 => ?_)
        · have hf := ft hf c60
          refine lv_aload_n (pc := 66) hx hb dX7_law_66 rfl (lv_at hl 1 rfl) ?_
          refine va_get (D := g.1) (ci := 7) (v := .ref (g.2.2.1 0)) (C := RX7) (T := TX7) (N := 13) (pc := 67) hx hb hts (fun _ h => List.mem_cons_of_mem _ (List.mem_append_left _ (List.mem_append_right _ h))) hown hK hP 0 rfl rfl 6 (by decide) (hts _ q_X7_law_0) (fun _ h9 => h9) rfl dX7_law_67 ?_
          refine lv_iload_n (pc := 70) hx hb dX7_law_70 rfl (lv_at hl 2 rfl) ?_
          refine lv_iload_n (pc := 71) hx hb dX7_law_71 rfl (lv_at hl 3 rfl) ?_
          refine lv_iload_n (pc := 72) hx hb dX7_law_72 rfl (lv_at hl 4 rfl) ?_
          refine lv_iload (pc := 73) hx hb dX7_law_73 (lv_at hl 5 rfl) ?_
          obtain ⟨r75, e75, hf⟩ := bdE hf
          refine kwI (g := g) (A := A) (W0 := (wd_7_0 g S7 S0)) (wc := (wd_0 g S0)) (wr := (wd_7 g S7)) (w1 := (wd_0 g (r75.2))) (W1 := (wd_7_0 g S7 (r75.2))) (pc := 75) (As := [.int x1, .int x2, .int x3, .int x4]) (rest := []) ⟨hx, hb, hml, hown, hts⟩ hK hA hP hD hS (c_X0_addLaw l g N H.size S0 x1 x2 x3 x4 r75 e75) (cwV 4 hts gX7_law_X0_addLaw rfl rfl rfl h_X0_addLaw ⟨Nat.le_of_ble_eq_true rfl, Nat.le_of_ble_eq_true rfl⟩) [2, 3, 4, 5, 6] [0, 1] [0, 1, 2, 3, 4, 5, 6] rfl rfl rfl rfl rfl (by decide) rfl rfl rfl rfl rfl rfl hl.1 rfl (Nat.le_of_ble_eq_true rfl) dX7_law_75 ⟨Nat.zero_le _, Nat.zero_le _⟩ (fun H locs hP hD hS => ?_)
          have hf := Option.some.inj hf
          subst hf
          exact W.iret (v := (r75.1)) hx hb hr (fun t ht hW => ⟨⟨_, (), rfl, rfl, by rw [ht]; exact hP, va_K.moved hW.alike hK, hD⟩, hS.F ht⟩) hS.2.2 dX7_law_78
        · have hf := ff hf c60
          refine lv_bipush (v := (-2)) (pc := 63) hx hb dX7_law_63 (by decide) ?_
          have hf := Option.some.inj hf
          subst hf
          exact W.iret (v := (-2)) hx hb hr (fun t ht hW => ⟨⟨_, (), rfl, rfl, by rw [ht]; exact hP, va_K.moved hW.alike hK, hD⟩, hS.F ht⟩) hS.2.2 dX7_law_65
      · have hf := ft hf c48
        refine lv_iconst (v := (-1)) (pc := 51) hx hb dX7_law_51 (by decide) ?_
        have hf := Option.some.inj hf
        subst hf
        exact W.iret (v := (-1)) hx hb hr (fun t ht hW => ⟨⟨_, (), rfl, rfl, by rw [ht]; exact hP, va_K.moved hW.alike hK, hD⟩, hS.F ht⟩) hS.2.2 dX7_law_52
set_option maxHeartbeats 4000000 in
set_option maxRecDepth 100000 in
theorem w_X7_law_22 {p : Program} {l : Launch} {e : Env} {s : State} {m : MethodId} {args : Array Value} {below : List Frame} {meth : Method} {c : Code} {g : En} {A : Nat → Prop} {N : Nat} {S7 : St} {res : Int32 × St} (C : cxw g A cX7_law 6 (some .int) wsX7_law RX7 p s m args meth c) : ∀ (H : Heap) (locs : List Loc) (S0 : St) (ls : Array Slot) (x1 : Int32) (x2 : Int32) (x3 : Int32) (x4 : Int32), va_P g.1 vwCl (wd_7_0 g S7 S0) H → va_D A (wd_7_0 g S7 S0) → va_S A s.heap H locs → lv_has ls 6 [(0, .ref (g.2.2.1 7)), (1, .int x1), (2, .int x2), (3, .int x3), (4, .int x4)] → f_X7_law_22 N S7  S0 x1 x2 x3 x4 = some res → W p l e (headSpec wsX7_law { frames := 2, cells := 0, slots := 0, locals := 42 }).room s m args below meth c H locs 0 0 (MQ below (rwQi g (wd_7_0 g S7 (res.2)) A (res.1)) args s 0 0 A) (F0 m 22 ls []) := by
  intro H locs S0 ls x1 x2 x3 x4 hP hD hS hl hf
  obtain ⟨⟨hx, hb, hr, hml, hown, hts, hlk⟩, hK, hA⟩ := id C
  unfold f_X7_law_22 at hf
  refine lv_iconst (v := 0) (pc := 22) hx hb dX7_law_22 (by decide) ?_
  exact w_X7_law_23 C  H locs S0 ls x1 x2 x3 x4 0 hP hD hS (lv_sub hl [0, 1, 2, 3, 4] rfl) hf
set_option maxHeartbeats 4000000 in
set_option maxRecDepth 100000 in
theorem c_X7_law (l : Launch) (g : En) (N : Nat) (sz : Nat) (S7 : St) (S0 : St) (x1 : Int32) (x2 : Int32) (x3 : Int32) (x4 : Int32) (res : Int32 × St) (hf : f_X7_law N S7 S0 x1 x2 x3 x4 = some res) : Met l yX7_law wsX7_law { frames := 2, cells := 0, slots := 0, locals := 42 } (rwP g (wd_7_0 g S7 S0) sz [.ref (g.2.2.1 7), .int x1, .int x2, .int x3, .int x4]) (rwQi g (wd_7_0 g S7 (res.2)) (va_A (wd_7_0 g S7 S0) sz) (res.1)) 0 0 (va_A (wd_7_0 g S7 S0) sz) := by
  refine Met.ofW (cc := cX7_law) (maxL := 6) (ret := (some .int)) (by decide) rfl ?_
  intro p e s m args below meth c s₁ B hml hv
  obtain ⟨rfl, hsz, hP, hK, hD0⟩ := hv
  have hx := B.exec
  have hb := B.bytes
  have hr := B.returns
  have hts := atoms_spec (ws := wsX7_law) B.pre
  have hown : s.vm.findClass RX7 = some m.cls := findClass_of_methodNamed B.named
  have hlk := B.notSynchronized
  subst hsz
  have hD := hD0.self (sz := s.heap.size)
  generalize hAe : va_A (wd_7_0 g S7 S0) s.heap.size = A at hD ⊢
  have hA : ∀ q : Nat, s.heap.size ≤ q → A q := fun q h => by rw [← hAe]; exact Or.inr h
  have hS : va_S A s.heap s.heap [] := va_S.rf
  have C : cxw g A cX7_law 6 (some .int) wsX7_law RX7 p s m ([.ref (g.2.2.1 7), .int x1, .int x2, .int x3, .int x4] : List Value).toArray meth c := ⟨⟨hx, hb, hr, hml, hown, hts, hlk⟩, hK, hA⟩
  have hl := lv_entry [.ref (g.2.2.1 7), .int x1, .int x2, .int x3, .int x4] (n := 6) (Nat.le_of_ble_eq_true rfl)
  rw [lg_entry_eq]
  generalize (lg_sl [.ref (g.2.2.1 7), .int x1, .int x2, .int x3, .int x4] ++ List.replicate (6 - (lg_sl [.ref (g.2.2.1 7), .int x1, .int x2, .int x3, .int x4]).length) Slot.unset).toArray = ls at hl ⊢
  have hl : lv_has ls 6 [(0, .ref (g.2.2.1 7)), (1, .int x1), (2, .int x2), (3, .int x3), (4, .int x4)] := hl
  unfold f_X7_law at hf
  suffices K9 : ∀ (H : Heap) (locs : List Loc), va_P g.1 vwCl (wd_7_0 g S7 S0) H → va_D A (wd_7_0 g S7 S0) → va_S A s.heap H locs → ((f_X7_isDay N x1).bind (fun r1 => (if r1 = 0 then (f_X7_law_22 N S7  S0 x1 x2 x3 x4) else ((f_X7_isWithin N x2 0 30000).bind (fun r12 => (if r12 = 0 then (f_X7_law_22 N S7  S0 x1 x2 x3 x4) else (f_X7_law_23 N S7  S0 x1 x2 x3 x4 1))))))) = some res → W p l e (headSpec wsX7_law { frames := 2, cells := 0, slots := 0, locals := 42 }).room s m ([.ref (g.2.2.1 7), .int x1, .int x2, .int x3, .int x4] : List Value).toArray below meth c H locs 0 0 (MQ below (rwQi g (wd_7_0 g S7 (res.2)) A (res.1)) ([.ref (g.2.2.1 7), .int x1, .int x2, .int x3, .int x4] : List Value).toArray s 0 0 A) (F0 m 0 ls []) from K9 s.heap [] hP hD hS hf
  clear hP hD hS hf
  intro H locs hP hD hS hf
  refine lv_iload_n (pc := 0) hx hb dX7_law_0 rfl (lv_at hl 1 rfl) ?_
  obtain ⟨r1, e1, hf⟩ := bdE hf
  refine ksI (pc := 1) (As := [.int x1]) (rest := []) ⟨hx, hb, hml, hown, hts⟩ (c_X7_isDay l N x1 r1 e1) (va_cwS 1 hts gX7_law_X7_isDay rfl rfl rfl h_X7_isDay ⟨Nat.le_of_ble_eq_true rfl, Nat.le_of_ble_eq_true rfl⟩) rfl hl.1 rfl (Nat.le_of_ble_eq_true rfl) dX7_law_1 ⟨Nat.zero_le _, Nat.zero_le _⟩ ?_
  refine lv_if_eq (tgt := 22) (pc := 4) hx hb dX7_law_4 (by decide) (fun c4 => ?_) (fun c4 => ?_)
  · have hf := ft hf c4
    exact w_X7_law_22 C  H locs S0 ls x1 x2 x3 x4 hP hD hS (lv_sub hl [0, 1, 2, 3, 4] rfl) hf
  · have hf := ff hf c4
    refine lv_iload_n (pc := 7) hx hb dX7_law_7 rfl (lv_at hl 2 rfl) ?_
    refine lv_iconst (v := 0) (pc := 8) hx hb dX7_law_8 (by decide) ?_
    refine lv_sipush (v := 30000) (pc := 9) hx hb dX7_law_9 (by decide) ?_
    obtain ⟨r12, e12, hf⟩ := bdE hf
    refine ksI (pc := 12) (As := [.int x2, .int 0, .int 30000]) (rest := []) ⟨hx, hb, hml, hown, hts⟩ (c_X7_isWithin l N x2 0 30000 r12 e12) (va_cwS 3 hts gX7_law_X7_isWithin rfl rfl rfl h_X7_isWithin ⟨Nat.le_of_ble_eq_true rfl, Nat.le_of_ble_eq_true rfl⟩) rfl hl.1 rfl (Nat.le_of_ble_eq_true rfl) dX7_law_12 ⟨Nat.zero_le _, Nat.zero_le _⟩ ?_
    refine lv_if_eq (tgt := 22) (pc := 15) hx hb dX7_law_15 (by decide) (fun c15 => ?_) (fun c15 => ?_)
    · have hf := ft hf c15
      exact w_X7_law_22 C  H locs S0 ls x1 x2 x3 x4 hP hD hS (lv_sub hl [0, 1, 2, 3, 4] rfl) hf
    · have hf := ff hf c15
      refine lv_iconst (v := 1) (pc := 18) hx hb dX7_law_18 (by decide) ?_
      refine lv_goto (tgt := 23) (pc := 19) hx hb dX7_law_19 (by decide) ?_
      exact w_X7_law_23 C  H locs S0 ls x1 x2 x3 x4 1 hP hD hS (lv_sub hl [0, 1, 2, 3, 4] rfl) hf
theorem q_X7_claim_0 : (.fieldLink RX7 52 "PictureCourt" "contract" "LPictureCourt$Contract;" : Cond) ∈ wsX7_claim := by decide +kernel
theorem q_X7_claim_1 : (.fieldLink RX7 31 "PictureCourt" "odds" "LPictureCourt$Odds;" : Cond) ∈ wsX7_claim := by decide +kernel
theorem q_X7_claim_2 : (.fieldLink RX7 60 "PictureCourt" "today" "I" : Cond) ∈ wsX7_claim := by decide +kernel
theorem q_X7_claim_3 : (.fieldLink RX7 311 "PictureCourt$Contract" "hand" "I" : Cond) ∈ wsX7_claim := by decide +kernel
theorem q_X7_claim_4 : (.fieldLink RX7 67 "PictureCourt" "askedNumber" "I" : Cond) ∈ wsX7_claim := by decide +kernel
theorem h_X7_claim : yX7_claim.cls = RX7 ∧ yX7_claim.cls ≠ "java/lang/invoke/MethodHandle" ∧ yX7_claim.cls ≠ "java/lang/invoke/VarHandle" ∧ (parseMethodDescriptor yX7_claim.desc).map (fun d => d.parameters.length) = some 0 := by decide +kernel
set_option maxHeartbeats 4000000 in
set_option maxRecDepth 100000 in
theorem c_X7_claim (l : Launch) (g : En) (N : Nat) (sz : Nat) (S7 : St) (S2 : St) (S0 : St) (res : Int32 × St) (hf : f_X7_claim N S7 S2 S0 = some res) : Met l yX7_claim wsX7_claim { frames := 2, cells := 0, slots := 0, locals := 48 } (rwP g (wd_7_2_0 g S7 S2 S0) sz [.ref (g.2.2.1 7)]) (rwQi g (wd_7_2_0 g (res.2) S2 S0) (va_A (wd_7_2_0 g S7 S2 S0) sz) (res.1)) 0 0 (va_A (wd_7_2_0 g S7 S2 S0) sz) := by
  refine Met.ofW (cc := cX7_claim) (maxL := 4) (ret := (some .int)) (by decide) rfl ?_
  intro p e s m args below meth c s₁ B hml hv
  obtain ⟨rfl, hsz, hP, hK, hD0⟩ := hv
  have hx := B.exec
  have hb := B.bytes
  have hr := B.returns
  have hts := atoms_spec (ws := wsX7_claim) B.pre
  have hown : s.vm.findClass RX7 = some m.cls := findClass_of_methodNamed B.named
  have hlk := B.notSynchronized
  subst hsz
  have hD := hD0.self (sz := s.heap.size)
  generalize hAe : va_A (wd_7_2_0 g S7 S2 S0) s.heap.size = A at hD ⊢
  have hA : ∀ q : Nat, s.heap.size ≤ q → A q := fun q h => by rw [← hAe]; exact Or.inr h
  have hS : va_S A s.heap s.heap [] := va_S.rf
  have C : cxw g A cX7_claim 4 (some .int) wsX7_claim RX7 p s m ([.ref (g.2.2.1 7)] : List Value).toArray meth c := ⟨⟨hx, hb, hr, hml, hown, hts, hlk⟩, hK, hA⟩
  have hl := lv_entry [.ref (g.2.2.1 7)] (n := 4) (Nat.le_of_ble_eq_true rfl)
  rw [lg_entry_eq]
  generalize (lg_sl [.ref (g.2.2.1 7)] ++ List.replicate (4 - (lg_sl [.ref (g.2.2.1 7)]).length) Slot.unset).toArray = ls at hl ⊢
  have hl : lv_has ls 4 [(0, .ref (g.2.2.1 7))] := hl
  unfold f_X7_claim at hf
  suffices K9 : ∀ (H : Heap) (locs : List Loc), va_P g.1 vwCl (wd_7_2_0 g S7 S2 S0) H → va_D A (wd_7_2_0 g S7 S2 S0) → va_S A s.heap H locs → ((f_X0_lawInForce N S0).bind (fun r4 => (if r4 = (-9) then some ((-4), S7) else ((f_X2_scoreOfAll N S2).bind (fun r21 => (if (lg_cmp r21 0) = 0 then ((f_X7_refuse N S7 4).bind (fun r33 => some ((r33.1), (r33.2)))) else ((f_X0_isTooLate N S0 r4 (S7.1 8)).bind (fun r46 => (if r46 = 0 then ((f_X2_score N S2 (S0.1 6)).bind (fun r70 => ((f_X0_isBelow N S0 r4 r70 r21).bind (fun r74 => (if r74 = 0 then some (3, S7) else ((f_X0_paidBack N S0 r4 (S7.1 8)).bind (fun r92 => some (1, (sI S7 10 r92))))))))) else some (2, S7)))))))))) = some res → W p l e (headSpec wsX7_claim { frames := 2, cells := 0, slots := 0, locals := 48 }).room s m ([.ref (g.2.2.1 7)] : List Value).toArray below meth c H locs 0 0 (MQ below (rwQi g (wd_7_2_0 g (res.2) S2 S0) A (res.1)) ([.ref (g.2.2.1 7)] : List Value).toArray s 0 0 A) (F0 m 0 ls []) from K9 s.heap [] hP hD hS hf
  clear hP hD hS hf
  intro H locs hP hD hS hf
  refine lv_aload_n (pc := 0) hx hb dX7_claim_0 rfl (lv_at hl 0 rfl) ?_
  refine va_get (D := g.1) (ci := 7) (v := .ref (g.2.2.1 0)) (C := RX7) (T := TX7) (N := 13) (pc := 1) hx hb hts (fun _ h => List.mem_cons_of_mem _ (List.mem_append_left _ (List.mem_append_left _ (List.mem_append_right _ h)))) hown hK hP 0 rfl rfl 6 (by decide) (hts _ q_X7_claim_0) (fun _ h9 => h9) rfl dX7_claim_1 ?_
  obtain ⟨r4, e4, hf⟩ := bdE hf
  refine krI (g := g) (wc := (wd_0 g S0)) (pc := 4) (As := []) (rest := []) ⟨hx, hb, hml, hown, hts⟩ (c_X0_lawInForce l g N S0 r4 e4) (cwV 0 hts gX7_claim_X0_lawInForce rfl rfl rfl h_X0_lawInForce ⟨Nat.le_of_ble_eq_true rfl, Nat.le_of_ble_eq_true rfl⟩) hK (hP.sub (ws' := (wd_0 g S0)) [11, 12, 13, 14, 15] rfl) rfl rfl rfl hl.1 rfl (Nat.le_of_ble_eq_true rfl) dX7_claim_4 ⟨Nat.zero_le _, Nat.zero_le _⟩ ?_
  refine lv_istore_n (lv' := [(1, .int r4), (0, .ref (g.2.2.1 7))]) (pc := 7) hx hb dX7_claim_7 rfl hl (by decide) rfl (fun ls hl => ?_)
  refine lv_iload_n (pc := 8) hx hb dX7_claim_8 rfl (lv_at hl 0 rfl) ?_
  refine lv_bipush (v := (-9)) (pc := 9) hx hb dX7_claim_9 (by decide) ?_
  refine lv_icmp_ne (tgt := 17) (pc := 11) hx hb dX7_claim_11 (by decide) (fun c11 => ?_) (fun c11 => ?_)
  · have hf := ff hf c11
    refine lv_aload_n (pc := 17) hx hb dX7_claim_17 rfl (lv_at hl 1 rfl) ?_
    refine va_get (D := g.1) (ci := 7) (v := .ref (g.2.2.1 2)) (C := RX7) (T := TX7) (N := 13) (pc := 18) hx hb hts (fun _ h => List.mem_cons_of_mem _ (List.mem_append_left _ (List.mem_append_left _ (List.mem_append_right _ h)))) hown hK hP 0 rfl rfl 3 (by decide) (hts _ q_X7_claim_1) (fun _ h9 => h9) rfl dX7_claim_18 ?_
    obtain ⟨r21, e21, hf⟩ := bdE hf
    refine krL (g := g) (wc := (wd_2 g S2)) (pc := 21) (As := []) (rest := []) ⟨hx, hb, hml, hown, hts⟩ (c_X2_scoreOfAll l g N S2 r21 e21) (cwV 0 hts gX7_claim_X2_scoreOfAll rfl rfl rfl h_X2_scoreOfAll ⟨Nat.le_of_ble_eq_true rfl, Nat.le_of_ble_eq_true rfl⟩) hK (hP.sub (ws' := (wd_2 g S2)) [2, 3, 4, 5, 6, 7, 8, 9, 10] rfl) rfl rfl rfl hl.1 rfl (Nat.le_of_ble_eq_true rfl) dX7_claim_21 ⟨Nat.zero_le _, Nat.zero_le _⟩ ?_
    refine lv_lstore_n (lv' := [(2, .long r21), (1, .int r4), (0, .ref (g.2.2.1 7))]) (pc := 24) hx hb dX7_claim_24 rfl hl (by decide) rfl (fun ls hl => ?_)
    refine lv_lload_n (pc := 25) hx hb dX7_claim_25 rfl (lv_at hl 0 rfl) ?_
    refine lv_lconst (v := 0) (pc := 26) hx hb dX7_claim_26 (by decide) ?_
    refine W.lcmp (pc := 27) hx hb dX7_claim_27 ?_
    refine lv_if_ne (tgt := 37) (pc := 28) hx hb dX7_claim_28 (by decide) (fun c28 => ?_) (fun c28 => ?_)
    · have hf := ff hf c28
      refine lv_aload_n (pc := 37) hx hb dX7_claim_37 rfl (lv_at hl 2 rfl) ?_
      refine va_get (D := g.1) (ci := 7) (v := .ref (g.2.2.1 0)) (C := RX7) (T := TX7) (N := 13) (pc := 38) hx hb hts (fun _ h => List.mem_cons_of_mem _ (List.mem_append_left _ (List.mem_append_left _ (List.mem_append_right _ h)))) hown hK hP 0 rfl rfl 6 (by decide) (hts _ q_X7_claim_0) (fun _ h9 => h9) rfl dX7_claim_38 ?_
      refine lv_iload_n (pc := 41) hx hb dX7_claim_41 rfl (lv_at hl 1 rfl) ?_
      refine lv_aload_n (pc := 42) hx hb dX7_claim_42 rfl (lv_at hl 2 rfl) ?_
      refine va_get (D := g.1) (ci := 7) (v := .int (S7.1 8)) (C := RX7) (T := TX7) (N := 13) (pc := 43) hx hb hts (fun _ h => List.mem_cons_of_mem _ (List.mem_append_left _ (List.mem_append_left _ (List.mem_append_right _ h)))) hown hK hP 0 rfl rfl 8 (by decide) (hts _ q_X7_claim_2) (fun _ h9 => h9) rfl dX7_claim_43 ?_
      obtain ⟨r46, e46, hf⟩ := bdE hf
      refine krI (g := g) (wc := (wd_0 g S0)) (pc := 46) (As := [.int r4, .int (S7.1 8)]) (rest := []) ⟨hx, hb, hml, hown, hts⟩ (c_X0_isTooLate l g N S0 r4 (S7.1 8) r46 e46) (cwV 2 hts gX7_claim_X0_isTooLate rfl rfl rfl h_X0_isTooLate ⟨Nat.le_of_ble_eq_true rfl, Nat.le_of_ble_eq_true rfl⟩) hK (hP.sub (ws' := (wd_0 g S0)) [11, 12, 13, 14, 15] rfl) rfl rfl rfl hl.1 rfl (Nat.le_of_ble_eq_true rfl) dX7_claim_46 ⟨Nat.zero_le _, Nat.zero_le _⟩ ?_
      refine lv_if_eq (tgt := 54) (pc := 49) hx hb dX7_claim_49 (by decide) (fun c49 => ?_) (fun c49 => ?_)
      · have hf := ft hf c49
        refine lv_aload_n (pc := 54) hx hb dX7_claim_54 rfl (lv_at hl 2 rfl) ?_
        refine va_get (D := g.1) (ci := 7) (v := .ref (g.2.2.1 0)) (C := RX7) (T := TX7) (N := 13) (pc := 55) hx hb hts (fun _ h => List.mem_cons_of_mem _ (List.mem_append_left _ (List.mem_append_left _ (List.mem_append_right _ h)))) hown hK hP 0 rfl rfl 6 (by decide) (hts _ q_X7_claim_0) (fun _ h9 => h9) rfl dX7_claim_55 ?_
        refine lv_iload_n (pc := 58) hx hb dX7_claim_58 rfl (lv_at hl 1 rfl) ?_
        refine lv_aload_n (pc := 59) hx hb dX7_claim_59 rfl (lv_at hl 2 rfl) ?_
        refine va_get (D := g.1) (ci := 7) (v := .ref (g.2.2.1 2)) (C := RX7) (T := TX7) (N := 13) (pc := 60) hx hb hts (fun _ h => List.mem_cons_of_mem _ (List.mem_append_left _ (List.mem_append_left _ (List.mem_append_right _ h)))) hown hK hP 0 rfl rfl 3 (by decide) (hts _ q_X7_claim_1) (fun _ h9 => h9) rfl dX7_claim_60 ?_
        refine lv_aload_n (pc := 63) hx hb dX7_claim_63 rfl (lv_at hl 2 rfl) ?_
        refine va_get (D := g.1) (ci := 7) (v := .ref (g.2.2.1 0)) (C := RX7) (T := TX7) (N := 13) (pc := 64) hx hb hts (fun _ h => List.mem_cons_of_mem _ (List.mem_append_left _ (List.mem_append_left _ (List.mem_append_right _ h)))) hown hK hP 0 rfl rfl 6 (by decide) (hts _ q_X7_claim_0) (fun _ h9 => h9) rfl dX7_claim_64 ?_
        refine va_get (D := g.1) (ci := 0) (v := .int (S0.1 6)) (C := RX0) (T := TX0) (N := 8) (pc := 67) hx hb hts (fun _ h => List.mem_cons_of_mem _ (List.mem_append_left _ (List.mem_append_right _ h))) hown hK hP 11 rfl rfl 6 (by decide) (hts _ q_X7_claim_3) (fun _ h9 => h9) rfl dX7_claim_67 ?_
        obtain ⟨r70, e70, hf⟩ := bdE hf
        refine krL (g := g) (wc := (wd_2 g S2)) (pc := 70) (As := [.int (S0.1 6)]) (rest := [.int r4, .ref (g.2.2.1 0)]) ⟨hx, hb, hml, hown, hts⟩ (c_X2_score l g N S2 (S0.1 6) r70 e70) (cwV 1 hts gX7_claim_X2_score rfl rfl rfl h_X2_score ⟨Nat.le_of_ble_eq_true rfl, Nat.le_of_ble_eq_true rfl⟩) hK (hP.sub (ws' := (wd_2 g S2)) [2, 3, 4, 5, 6, 7, 8, 9, 10] rfl) rfl rfl rfl hl.1 rfl (Nat.le_of_ble_eq_true rfl) dX7_claim_70 ⟨Nat.zero_le _, Nat.zero_le _⟩ ?_
        refine lv_lload_n (pc := 73) hx hb dX7_claim_73 rfl (lv_at hl 0 rfl) ?_
        obtain ⟨r74, e74, hf⟩ := bdE hf
        refine krI (g := g) (wc := (wd_0 g S0)) (pc := 74) (As := [.int r4, .long r70, .long r21]) (rest := []) ⟨hx, hb, hml, hown, hts⟩ (c_X0_isBelow l g N S0 r4 r70 r21 r74 e74) (cwV 3 hts gX7_claim_X0_isBelow rfl rfl rfl h_X0_isBelow ⟨Nat.le_of_ble_eq_true rfl, Nat.le_of_ble_eq_true rfl⟩) hK (hP.sub (ws' := (wd_0 g S0)) [11, 12, 13, 14, 15] rfl) rfl rfl rfl hl.1 rfl (Nat.le_of_ble_eq_true rfl) dX7_claim_74 ⟨Nat.zero_le _, Nat.zero_le _⟩ ?_
        refine lv_if_ne (tgt := 82) (pc := 77) hx hb dX7_claim_77 (by decide) (fun c77 => ?_) (fun c77 => ?_)
        · have hf := ff hf c77
          refine lv_aload_n (pc := 82) hx hb dX7_claim_82 rfl (lv_at hl 2 rfl) ?_
          refine lv_aload_n (pc := 83) hx hb dX7_claim_83 rfl (lv_at hl 2 rfl) ?_
          refine va_get (D := g.1) (ci := 7) (v := .ref (g.2.2.1 0)) (C := RX7) (T := TX7) (N := 13) (pc := 84) hx hb hts (fun _ h => List.mem_cons_of_mem _ (List.mem_append_left _ (List.mem_append_left _ (List.mem_append_right _ h)))) hown hK hP 0 rfl rfl 6 (by decide) (hts _ q_X7_claim_0) (fun _ h9 => h9) rfl dX7_claim_84 ?_
          refine lv_iload_n (pc := 87) hx hb dX7_claim_87 rfl (lv_at hl 1 rfl) ?_
          refine lv_aload_n (pc := 88) hx hb dX7_claim_88 rfl (lv_at hl 2 rfl) ?_
          refine va_get (D := g.1) (ci := 7) (v := .int (S7.1 8)) (C := RX7) (T := TX7) (N := 13) (pc := 89) hx hb hts (fun _ h => List.mem_cons_of_mem _ (List.mem_append_left _ (List.mem_append_left _ (List.mem_append_right _ h)))) hown hK hP 0 rfl rfl 8 (by decide) (hts _ q_X7_claim_2) (fun _ h9 => h9) rfl dX7_claim_89 ?_
          obtain ⟨r92, e92, hf⟩ := bdE hf
          refine krI (g := g) (wc := (wd_0 g S0)) (pc := 92) (As := [.int r4, .int (S7.1 8)]) (rest := [.ref (g.2.2.1 7)]) ⟨hx, hb, hml, hown, hts⟩ (c_X0_paidBack l g N S0 r4 (S7.1 8) r92 e92) (cwV 2 hts gX7_claim_X0_paidBack rfl rfl rfl h_X0_paidBack ⟨Nat.le_of_ble_eq_true rfl, Nat.le_of_ble_eq_true rfl⟩) hK (hP.sub (ws' := (wd_0 g S0)) [11, 12, 13, 14, 15] rfl) rfl rfl rfl hl.1 rfl (Nat.le_of_ble_eq_true rfl) dX7_claim_92 ⟨Nat.zero_le _, Nat.zero_le _⟩ ?_
          refine va_put (D := g.1) (ci := 7) (v := .int r92) (ty := .int) (C := RX7) (T := TX7) (N := 13) (pc := 95) hx hb hts (fun _ h => List.mem_cons_of_mem _ (List.mem_append_left _ (List.mem_append_left _ (List.mem_append_right _ h)))) tyX7 tyX7_ok nmX7 hown hK hP hD hS 0 rfl rfl 10 (by decide) (hts _ q_X7_claim_4) (fun _ h9 => h9) rfl rfl rfl rfl (Nat.le_of_ble_eq_true rfl) dX7_claim_95 (fun H locs hP hD hS => ?_)
          have hP := u_7_2_0_7_10P S7 S2 S0 r92 hP
          have hD := u_7_2_0_7_10D S7 S2 S0 r92 hD
          refine lv_iconst (v := 1) (pc := 98) hx hb dX7_claim_98 (by decide) ?_
          have hf := Option.some.inj hf
          subst hf
          exact W.iret (v := 1) hx hb hr (fun t ht hW => ⟨⟨_, (), rfl, rfl, by rw [ht]; exact hP, va_K.moved hW.alike hK, hD⟩, hS.F ht⟩) hS.2.2 dX7_claim_99
        · have hf := ft hf c77
          refine lv_iconst (v := 3) (pc := 80) hx hb dX7_claim_80 (by decide) ?_
          have hf := Option.some.inj hf
          subst hf
          exact W.iret (v := 3) hx hb hr (fun t ht hW => ⟨⟨_, (), rfl, rfl, by rw [ht]; exact hP, va_K.moved hW.alike hK, hD⟩, hS.F ht⟩) hS.2.2 dX7_claim_81
      · have hf := ff hf c49
        refine lv_iconst (v := 2) (pc := 52) hx hb dX7_claim_52 (by decide) ?_
        have hf := Option.some.inj hf
        subst hf
        exact W.iret (v := 2) hx hb hr (fun t ht hW => ⟨⟨_, (), rfl, rfl, by rw [ht]; exact hP, va_K.moved hW.alike hK, hD⟩, hS.F ht⟩) hS.2.2 dX7_claim_53
    · have hf := ft hf c28
      refine lv_aload_n (pc := 31) hx hb dX7_claim_31 rfl (lv_at hl 2 rfl) ?_
      refine lv_iconst (v := 4) (pc := 32) hx hb dX7_claim_32 (by decide) ?_
      obtain ⟨r33, e33, hf⟩ := bdE hf
      refine kwI (g := g) (A := A) (W0 := (wd_7_2_0 g S7 S2 S0)) (wc := (wd_7 g S7)) (wr := (wd_2_0 g S2 S0)) (w1 := (wd_7 g (r33.2))) (W1 := (wd_7_2_0 g (r33.2) S2 S0)) (pc := 33) (As := [.int 4]) (rest := []) ⟨hx, hb, hml, hown, hts⟩ hK hA hP hD hS (c_X7_refuse l g N H.size S7 4 r33 e33) (cwV 1 hts gX7_claim_X7_refuse rfl rfl rfl h_X7_refuse ⟨Nat.le_of_ble_eq_true rfl, Nat.le_of_ble_eq_true rfl⟩) [0, 1] [2, 3, 4, 5, 6, 7, 8, 9, 10, 11, 12, 13, 14, 15] [14, 15, 0, 1, 2, 3, 4, 5, 6, 7, 8, 9, 10, 11, 12, 13] rfl rfl rfl rfl rfl (by decide) rfl rfl rfl rfl rfl rfl hl.1 rfl (Nat.le_of_ble_eq_true rfl) dX7_claim_33 ⟨Nat.zero_le _, Nat.zero_le _⟩ (fun H locs hP hD hS => ?_)
      have hf := Option.some.inj hf
      subst hf
      exact W.iret (v := (r33.1)) hx hb hr (fun t ht hW => ⟨⟨_, (), rfl, rfl, by rw [ht]; exact hP, va_K.moved hW.alike hK, hD⟩, hS.F ht⟩) hS.2.2 dX7_claim_36
  · have hf := ft hf c11
    refine lv_bipush (v := (-4)) (pc := 14) hx hb dX7_claim_14 (by decide) ?_
    have hf := Option.some.inj hf
    subst hf
    exact W.iret (v := (-4)) hx hb hr (fun t ht hW => ⟨⟨_, (), rfl, rfl, by rw [ht]; exact hP, va_K.moved hW.alike hK, hD⟩, hS.F ht⟩) hS.2.2 dX7_claim_16
theorem q_X7_asked_0 : (.fieldLink RX7 67 "PictureCourt" "askedNumber" "I" : Cond) ∈ wsX7_asked := by decide +kernel
theorem h_X7_asked : yX7_asked.cls = RX7 ∧ yX7_asked.cls ≠ "java/lang/invoke/MethodHandle" ∧ yX7_asked.cls ≠ "java/lang/invoke/VarHandle" ∧ (parseMethodDescriptor yX7_asked.desc).map (fun d => d.parameters.length) = some 0 := by decide +kernel
set_option maxHeartbeats 4000000 in
set_option maxRecDepth 100000 in
theorem c_X7_asked (l : Launch) (g : En) (N : Nat) (S7 : St) (res : Int32) (hf : f_X7_asked N S7 = some res) : Met l yX7_asked wsX7_asked { frames := 0, cells := 0, slots := 0, locals := 0 } (roP g (wd_7 g S7) [.ref (g.2.2.1 7)]) (vp_Si (fun r => r = res)) 0 0 (fun _ => False) := by
  refine Met.ofW (cc := cX7_asked) (maxL := 1) (ret := (some .int)) (by decide) rfl ?_
  intro p e s m args below meth c s₁ B hml hv
  obtain ⟨rfl, hP, hK⟩ := hv
  have hx := B.exec
  have hb := B.bytes
  have hr := B.returns
  have hts := atoms_spec (ws := wsX7_asked) B.pre
  have hown : s.vm.findClass RX7 = some m.cls := findClass_of_methodNamed B.named
  have hlk := B.notSynchronized
  have C : cxr g (wd_7 g S7) cX7_asked 1 (some .int) wsX7_asked RX7 p s m ([.ref (g.2.2.1 7)] : List Value).toArray meth c := ⟨⟨hx, hb, hr, hml, hown, hts, hlk⟩, hK, hP⟩
  have hl := lv_entry [.ref (g.2.2.1 7)] (n := 1) (Nat.le_of_ble_eq_true rfl)
  rw [lg_entry_eq]
  generalize (lg_sl [.ref (g.2.2.1 7)] ++ List.replicate (1 - (lg_sl [.ref (g.2.2.1 7)]).length) Slot.unset).toArray = ls at hl ⊢
  have hl : lv_has ls 1 [(0, .ref (g.2.2.1 7))] := hl
  unfold f_X7_asked at hf
  refine lv_aload_n (pc := 0) hx hb dX7_asked_0 rfl (lv_at hl 0 rfl) ?_
  refine va_get (D := g.1) (ci := 7) (v := .int (S7.1 10)) (C := RX7) (T := TX7) (N := 13) (pc := 1) hx hb hts (fun _ h => List.mem_cons_of_mem _ (List.mem_append_right _ h)) hown hK hP 0 rfl rfl 10 (by decide) (hts _ q_X7_asked_0) (fun _ h9 => h9) rfl dX7_asked_1 ?_
  have hf := Option.some.inj hf
  subst hf
  exact W.iret (v := (S7.1 10)) hx hb hr (fun t ht hW => ⟨_, rfl, rfl, ht⟩) (fun _ h => by cases h) dX7_asked_4
theorem q_X7_upper_0 : (.fieldLink RX7 70 "PictureCourt" "upperNumber" "J" : Cond) ∈ wsX7_upper := by decide +kernel
theorem h_X7_upper : yX7_upper.cls = RX7 ∧ yX7_upper.cls ≠ "java/lang/invoke/MethodHandle" ∧ yX7_upper.cls ≠ "java/lang/invoke/VarHandle" ∧ (parseMethodDescriptor yX7_upper.desc).map (fun d => d.parameters.length) = some 0 := by decide +kernel
set_option maxHeartbeats 4000000 in
set_option maxRecDepth 100000 in
theorem c_X7_upper (l : Launch) (g : En) (N : Nat) (S7 : St) (res : Int64) (hf : f_X7_upper N S7 = some res) : Met l yX7_upper wsX7_upper { frames := 0, cells := 0, slots := 0, locals := 0 } (roP g (wd_7 g S7) [.ref (g.2.2.1 7)]) (vp_Sl (fun r => r = res)) 0 0 (fun _ => False) := by
  refine Met.ofW (cc := cX7_upper) (maxL := 1) (ret := (some .long)) (by decide) rfl ?_
  intro p e s m args below meth c s₁ B hml hv
  obtain ⟨rfl, hP, hK⟩ := hv
  have hx := B.exec
  have hb := B.bytes
  have hr := B.returns
  have hts := atoms_spec (ws := wsX7_upper) B.pre
  have hown : s.vm.findClass RX7 = some m.cls := findClass_of_methodNamed B.named
  have hlk := B.notSynchronized
  have C : cxr g (wd_7 g S7) cX7_upper 1 (some .long) wsX7_upper RX7 p s m ([.ref (g.2.2.1 7)] : List Value).toArray meth c := ⟨⟨hx, hb, hr, hml, hown, hts, hlk⟩, hK, hP⟩
  have hl := lv_entry [.ref (g.2.2.1 7)] (n := 1) (Nat.le_of_ble_eq_true rfl)
  rw [lg_entry_eq]
  generalize (lg_sl [.ref (g.2.2.1 7)] ++ List.replicate (1 - (lg_sl [.ref (g.2.2.1 7)]).length) Slot.unset).toArray = ls at hl ⊢
  have hl : lv_has ls 1 [(0, .ref (g.2.2.1 7))] := hl
  unfold f_X7_upper at hf
  refine lv_aload_n (pc := 0) hx hb dX7_upper_0 rfl (lv_at hl 0 rfl) ?_
  refine va_get (D := g.1) (ci := 7) (v := .long (S7.2.1 11)) (C := RX7) (T := TX7) (N := 13) (pc := 1) hx hb hts (fun _ h => List.mem_cons_of_mem _ (List.mem_append_right _ h)) hown hK hP 0 rfl rfl 11 (by decide) (hts _ q_X7_upper_0) (fun _ h9 => h9) rfl dX7_upper_1 ?_
  have hf := Option.some.inj hf
  subst hf
  exact W.lret (v := (S7.2.1 11)) hx hb hr (fun t ht hW => ⟨_, rfl, rfl, ht⟩) (fun _ h => by cases h) dX7_upper_4
theorem q_X7_lower_0 : (.fieldLink RX7 74 "PictureCourt" "lowerNumber" "J" : Cond) ∈ wsX7_lower := by decide +kernel
theorem h_X7_lower : yX7_lower.cls = RX7 ∧ yX7_lower.cls ≠ "java/lang/invoke/MethodHandle" ∧ yX7_lower.cls ≠ "java/lang/invoke/VarHandle" ∧ (parseMethodDescriptor yX7_lower.desc).map (fun d => d.parameters.length) = some 0 := by decide +kernel
set_option maxHeartbeats 4000000 in
set_option maxRecDepth 100000 in
theorem c_X7_lower (l : Launch) (g : En) (N : Nat) (S7 : St) (res : Int64) (hf : f_X7_lower N S7 = some res) : Met l yX7_lower wsX7_lower { frames := 0, cells := 0, slots := 0, locals := 0 } (roP g (wd_7 g S7) [.ref (g.2.2.1 7)]) (vp_Sl (fun r => r = res)) 0 0 (fun _ => False) := by
  refine Met.ofW (cc := cX7_lower) (maxL := 1) (ret := (some .long)) (by decide) rfl ?_
  intro p e s m args below meth c s₁ B hml hv
  obtain ⟨rfl, hP, hK⟩ := hv
  have hx := B.exec
  have hb := B.bytes
  have hr := B.returns
  have hts := atoms_spec (ws := wsX7_lower) B.pre
  have hown : s.vm.findClass RX7 = some m.cls := findClass_of_methodNamed B.named
  have hlk := B.notSynchronized
  have C : cxr g (wd_7 g S7) cX7_lower 1 (some .long) wsX7_lower RX7 p s m ([.ref (g.2.2.1 7)] : List Value).toArray meth c := ⟨⟨hx, hb, hr, hml, hown, hts, hlk⟩, hK, hP⟩
  have hl := lv_entry [.ref (g.2.2.1 7)] (n := 1) (Nat.le_of_ble_eq_true rfl)
  rw [lg_entry_eq]
  generalize (lg_sl [.ref (g.2.2.1 7)] ++ List.replicate (1 - (lg_sl [.ref (g.2.2.1 7)]).length) Slot.unset).toArray = ls at hl ⊢
  have hl : lv_has ls 1 [(0, .ref (g.2.2.1 7))] := hl
  unfold f_X7_lower at hf
  refine lv_aload_n (pc := 0) hx hb dX7_lower_0 rfl (lv_at hl 0 rfl) ?_
  refine va_get (D := g.1) (ci := 7) (v := .long (S7.2.1 12)) (C := RX7) (T := TX7) (N := 13) (pc := 1) hx hb hts (fun _ h => List.mem_cons_of_mem _ (List.mem_append_right _ h)) hown hK hP 0 rfl rfl 12 (by decide) (hts _ q_X7_lower_0) (fun _ h9 => h9) rfl dX7_lower_1 ?_
  have hf := Option.some.inj hf
  subst hf
  exact W.lret (v := (S7.2.1 12)) hx hb hr (fun t ht hW => ⟨_, rfl, rfl, ht⟩) (fun _ h => by cases h) dX7_lower_4
theorem q_X7_count_0 : (.fieldLink RX7 60 "PictureCourt" "today" "I" : Cond) ∈ wsX7_count := by decide +kernel
theorem q_X7_count_1 : (.fieldLink RX7 10 "PictureCourt" "proofs" "LPictureCourt$Proofs;" : Cond) ∈ wsX7_count := by decide +kernel
theorem q_X7_count_2 : (.fieldLink RX7 321 "PictureCourt$Proofs" "size" "I" : Cond) ∈ wsX7_count := by decide +kernel
theorem q_X7_count_3 : (.fieldLink RX7 322 "PictureCourt$Proofs" "struck" "I" : Cond) ∈ wsX7_count := by decide +kernel
theorem q_X7_count_4 : (.fieldLink RX7 31 "PictureCourt" "odds" "LPictureCourt$Odds;" : Cond) ∈ wsX7_count := by decide +kernel
theorem q_X7_count_5 : (.fieldLink RX7 325 "PictureCourt$Odds" "size" "I" : Cond) ∈ wsX7_count := by decide +kernel
theorem q_X7_count_6 : (.fieldLink RX7 326 "PictureCourt$Odds" "finished" "I" : Cond) ∈ wsX7_count := by decide +kernel
theorem q_X7_count_7 : (.fieldLink RX7 38 "PictureCourt" "owners" "LPictureCourt$Owners;" : Cond) ∈ wsX7_count := by decide +kernel
theorem q_X7_count_8 : (.fieldLink RX7 329 "PictureCourt$Owners" "size" "I" : Cond) ∈ wsX7_count := by decide +kernel
theorem q_X7_count_9 : (.fieldLink RX7 45 "PictureCourt" "opinions" "LPictureCourt$Opinions;" : Cond) ∈ wsX7_count := by decide +kernel
theorem q_X7_count_10 : (.fieldLink RX7 330 "PictureCourt$Opinions" "size" "I" : Cond) ∈ wsX7_count := by decide +kernel
theorem q_X7_count_11 : (.fieldLink RX7 52 "PictureCourt" "contract" "LPictureCourt$Contract;" : Cond) ∈ wsX7_count := by decide +kernel
theorem q_X7_count_12 : (.fieldLink RX7 331 "PictureCourt$Contract" "laws" "I" : Cond) ∈ wsX7_count := by decide +kernel
theorem h_X7_count : yX7_count.cls = RX7 ∧ yX7_count.cls ≠ "java/lang/invoke/MethodHandle" ∧ yX7_count.cls ≠ "java/lang/invoke/VarHandle" ∧ (parseMethodDescriptor yX7_count.desc).map (fun d => d.parameters.length) = some 1 := by decide +kernel
set_option maxHeartbeats 4000000 in
set_option maxRecDepth 100000 in
theorem c_X7_count (l : Launch) (g : En) (N : Nat) (S7 : St) (S5 : St) (S2 : St) (S4 : St) (S3 : St) (S0 : St) (x1 : Int32) (res : Int32) (hf : f_X7_count N S7 S5 S2 S4 S3 S0 x1 = some res) : Met l yX7_count wsX7_count { frames := 0, cells := 0, slots := 0, locals := 0 } (roP g (wd_7_5_2_4_3_0 g S7 S5 S2 S4 S3 S0) [.ref (g.2.2.1 7), .int x1]) (vp_Si (fun r => r = res)) 0 0 (fun _ => False) := by
  refine Met.ofW (cc := cX7_count) (maxL := 2) (ret := (some .int)) (by decide) rfl ?_
  intro p e s m args below meth c s₁ B hml hv
  obtain ⟨rfl, hP, hK⟩ := hv
  have hx := B.exec
  have hb := B.bytes
  have hr := B.returns
  have hts := atoms_spec (ws := wsX7_count) B.pre
  have hown : s.vm.findClass RX7 = some m.cls := findClass_of_methodNamed B.named
  have hlk := B.notSynchronized
  have C : cxr g (wd_7_5_2_4_3_0 g S7 S5 S2 S4 S3 S0) cX7_count 2 (some .int) wsX7_count RX7 p s m ([.ref (g.2.2.1 7), .int x1] : List Value).toArray meth c := ⟨⟨hx, hb, hr, hml, hown, hts, hlk⟩, hK, hP⟩
  have hl := lv_entry [.ref (g.2.2.1 7), .int x1] (n := 2) (Nat.le_of_ble_eq_true rfl)
  rw [lg_entry_eq]
  generalize (lg_sl [.ref (g.2.2.1 7), .int x1] ++ List.replicate (2 - (lg_sl [.ref (g.2.2.1 7), .int x1]).length) Slot.unset).toArray = ls at hl ⊢
  have hl : lv_has ls 2 [(0, .ref (g.2.2.1 7)), (1, .int x1)] := hl
  unfold f_X7_count at hf
  refine lv_iload_n (pc := 0) hx hb dX7_count_0 rfl (lv_at hl 1 rfl) ?_
  by_cases c1_0 : x1 = 0
  · have hf := ft hf c1_0
    refine lv_tableIn (tgt := 48) (pc := 1) hx hb dX7_count_1 (by rw [c1_0]; decide) (by rw [c1_0]; decide) (by rw [c1_0]; rfl) (by decide) ?_
    refine lv_aload_n (pc := 48) hx hb dX7_count_48 rfl (lv_at hl 0 rfl) ?_
    refine va_get (D := g.1) (ci := 7) (v := .int (S7.1 8)) (C := RX7) (T := TX7) (N := 13) (pc := 49) hx hb hts (fun _ h => List.mem_cons_of_mem _ (List.mem_append_left _ (List.mem_append_left _ (List.mem_append_left _ (List.mem_append_left _ (List.mem_append_left _ (List.mem_append_right _ h))))))) hown hK hP 0 rfl rfl 8 (by decide) (hts _ q_X7_count_0) (fun _ h9 => h9) rfl dX7_count_49 ?_
    have hf := Option.some.inj hf
    subst hf
    exact W.iret (v := (S7.1 8)) hx hb hr (fun t ht hW => ⟨_, rfl, rfl, ht⟩) (fun _ h => by cases h) dX7_count_52
  · have hf := ff hf c1_0
    by_cases c1_1 : x1 = 1
    · have hf := ft hf c1_1
      refine lv_tableIn (tgt := 53) (pc := 1) hx hb dX7_count_1 (by rw [c1_1]; decide) (by rw [c1_1]; decide) (by rw [c1_1]; rfl) (by decide) ?_
      refine lv_aload_n (pc := 53) hx hb dX7_count_53 rfl (lv_at hl 0 rfl) ?_
      refine va_get (D := g.1) (ci := 7) (v := .ref (g.2.2.1 5)) (C := RX7) (T := TX7) (N := 13) (pc := 54) hx hb hts (fun _ h => List.mem_cons_of_mem _ (List.mem_append_left _ (List.mem_append_left _ (List.mem_append_left _ (List.mem_append_left _ (List.mem_append_left _ (List.mem_append_right _ h))))))) hown hK hP 0 rfl rfl 0 (by decide) (hts _ q_X7_count_1) (fun _ h9 => h9) rfl dX7_count_54 ?_
      refine va_get (D := g.1) (ci := 5) (v := .int (S5.1 13)) (C := RX5) (T := TX5) (N := 15) (pc := 57) hx hb hts (fun _ h => List.mem_cons_of_mem _ (List.mem_append_left _ (List.mem_append_left _ (List.mem_append_left _ (List.mem_append_left _ (List.mem_append_right _ h)))))) hown hK hP 2 rfl rfl 13 (by decide) (hts _ q_X7_count_2) (fun _ h9 => h9) rfl dX7_count_57 ?_
      have hf := Option.some.inj hf
      subst hf
      exact W.iret (v := (S5.1 13)) hx hb hr (fun t ht hW => ⟨_, rfl, rfl, ht⟩) (fun _ h => by cases h) dX7_count_60
    · have hf := ff hf c1_1
      by_cases c1_2 : x1 = 2
      · have hf := ft hf c1_2
        refine lv_tableIn (tgt := 61) (pc := 1) hx hb dX7_count_1 (by rw [c1_2]; decide) (by rw [c1_2]; decide) (by rw [c1_2]; rfl) (by decide) ?_
        refine lv_aload_n (pc := 61) hx hb dX7_count_61 rfl (lv_at hl 0 rfl) ?_
        refine va_get (D := g.1) (ci := 7) (v := .ref (g.2.2.1 5)) (C := RX7) (T := TX7) (N := 13) (pc := 62) hx hb hts (fun _ h => List.mem_cons_of_mem _ (List.mem_append_left _ (List.mem_append_left _ (List.mem_append_left _ (List.mem_append_left _ (List.mem_append_left _ (List.mem_append_right _ h))))))) hown hK hP 0 rfl rfl 0 (by decide) (hts _ q_X7_count_1) (fun _ h9 => h9) rfl dX7_count_62 ?_
        refine va_get (D := g.1) (ci := 5) (v := .int (S5.1 13)) (C := RX5) (T := TX5) (N := 15) (pc := 65) hx hb hts (fun _ h => List.mem_cons_of_mem _ (List.mem_append_left _ (List.mem_append_left _ (List.mem_append_left _ (List.mem_append_left _ (List.mem_append_right _ h)))))) hown hK hP 2 rfl rfl 13 (by decide) (hts _ q_X7_count_2) (fun _ h9 => h9) rfl dX7_count_65 ?_
        refine lv_aload_n (pc := 68) hx hb dX7_count_68 rfl (lv_at hl 0 rfl) ?_
        refine va_get (D := g.1) (ci := 7) (v := .ref (g.2.2.1 5)) (C := RX7) (T := TX7) (N := 13) (pc := 69) hx hb hts (fun _ h => List.mem_cons_of_mem _ (List.mem_append_left _ (List.mem_append_left _ (List.mem_append_left _ (List.mem_append_left _ (List.mem_append_left _ (List.mem_append_right _ h))))))) hown hK hP 0 rfl rfl 0 (by decide) (hts _ q_X7_count_1) (fun _ h9 => h9) rfl dX7_count_69 ?_
        refine va_get (D := g.1) (ci := 5) (v := .int (S5.1 14)) (C := RX5) (T := TX5) (N := 15) (pc := 72) hx hb hts (fun _ h => List.mem_cons_of_mem _ (List.mem_append_left _ (List.mem_append_left _ (List.mem_append_left _ (List.mem_append_left _ (List.mem_append_right _ h)))))) hown hK hP 2 rfl rfl 14 (by decide) (hts _ q_X7_count_3) (fun _ h9 => h9) rfl dX7_count_72 ?_
        refine lv_isub (pc := 75) hx hb dX7_count_75 ?_
        have hf := Option.some.inj hf
        subst hf
        exact W.iret (v := ((S5.1 13) - (S5.1 14))) hx hb hr (fun t ht hW => ⟨_, rfl, rfl, ht⟩) (fun _ h => by cases h) dX7_count_76
      · have hf := ff hf c1_2
        by_cases c1_3 : x1 = 3
        · have hf := ft hf c1_3
          refine lv_tableIn (tgt := 77) (pc := 1) hx hb dX7_count_1 (by rw [c1_3]; decide) (by rw [c1_3]; decide) (by rw [c1_3]; rfl) (by decide) ?_
          refine lv_aload_n (pc := 77) hx hb dX7_count_77 rfl (lv_at hl 0 rfl) ?_
          refine va_get (D := g.1) (ci := 7) (v := .ref (g.2.2.1 2)) (C := RX7) (T := TX7) (N := 13) (pc := 78) hx hb hts (fun _ h => List.mem_cons_of_mem _ (List.mem_append_left _ (List.mem_append_left _ (List.mem_append_left _ (List.mem_append_left _ (List.mem_append_left _ (List.mem_append_right _ h))))))) hown hK hP 0 rfl rfl 3 (by decide) (hts _ q_X7_count_4) (fun _ h9 => h9) rfl dX7_count_78 ?_
          refine va_get (D := g.1) (ci := 2) (v := .int (S2.1 8)) (C := RX2) (T := TX2) (N := 10) (pc := 81) hx hb hts (fun _ h => List.mem_cons_of_mem _ (List.mem_append_left _ (List.mem_append_left _ (List.mem_append_left _ (List.mem_append_right _ h))))) hown hK hP 12 rfl rfl 8 (by decide) (hts _ q_X7_count_5) (fun _ h9 => h9) rfl dX7_count_81 ?_
          have hf := Option.some.inj hf
          subst hf
          exact W.iret (v := (S2.1 8)) hx hb hr (fun t ht hW => ⟨_, rfl, rfl, ht⟩) (fun _ h => by cases h) dX7_count_84
        · have hf := ff hf c1_3
          by_cases c1_4 : x1 = 4
          · have hf := ft hf c1_4
            refine lv_tableIn (tgt := 85) (pc := 1) hx hb dX7_count_1 (by rw [c1_4]; decide) (by rw [c1_4]; decide) (by rw [c1_4]; rfl) (by decide) ?_
            refine lv_aload_n (pc := 85) hx hb dX7_count_85 rfl (lv_at hl 0 rfl) ?_
            refine va_get (D := g.1) (ci := 7) (v := .ref (g.2.2.1 2)) (C := RX7) (T := TX7) (N := 13) (pc := 86) hx hb hts (fun _ h => List.mem_cons_of_mem _ (List.mem_append_left _ (List.mem_append_left _ (List.mem_append_left _ (List.mem_append_left _ (List.mem_append_left _ (List.mem_append_right _ h))))))) hown hK hP 0 rfl rfl 3 (by decide) (hts _ q_X7_count_4) (fun _ h9 => h9) rfl dX7_count_86 ?_
            refine va_get (D := g.1) (ci := 2) (v := .int (S2.1 9)) (C := RX2) (T := TX2) (N := 10) (pc := 89) hx hb hts (fun _ h => List.mem_cons_of_mem _ (List.mem_append_left _ (List.mem_append_left _ (List.mem_append_left _ (List.mem_append_right _ h))))) hown hK hP 12 rfl rfl 9 (by decide) (hts _ q_X7_count_6) (fun _ h9 => h9) rfl dX7_count_89 ?_
            have hf := Option.some.inj hf
            subst hf
            exact W.iret (v := (S2.1 9)) hx hb hr (fun t ht hW => ⟨_, rfl, rfl, ht⟩) (fun _ h => by cases h) dX7_count_92
          · have hf := ff hf c1_4
            by_cases c1_5 : x1 = 5
            · have hf := ft hf c1_5
              refine lv_tableIn (tgt := 93) (pc := 1) hx hb dX7_count_1 (by rw [c1_5]; decide) (by rw [c1_5]; decide) (by rw [c1_5]; rfl) (by decide) ?_
              refine lv_aload_n (pc := 93) hx hb dX7_count_93 rfl (lv_at hl 0 rfl) ?_
              refine va_get (D := g.1) (ci := 7) (v := .ref (g.2.2.1 4)) (C := RX7) (T := TX7) (N := 13) (pc := 94) hx hb hts (fun _ h => List.mem_cons_of_mem _ (List.mem_append_left _ (List.mem_append_left _ (List.mem_append_left _ (List.mem_append_left _ (List.mem_append_left _ (List.mem_append_right _ h))))))) hown hK hP 0 rfl rfl 4 (by decide) (hts _ q_X7_count_7) (fun _ h9 => h9) rfl dX7_count_94 ?_
              refine va_get (D := g.1) (ci := 4) (v := .int (S4.1 2)) (C := RX4) (T := TX4) (N := 5) (pc := 97) hx hb hts (fun _ h => List.mem_cons_of_mem _ (List.mem_append_left _ (List.mem_append_left _ (List.mem_append_right _ h)))) hown hK hP 21 rfl rfl 2 (by decide) (hts _ q_X7_count_8) (fun _ h9 => h9) rfl dX7_count_97 ?_
              have hf := Option.some.inj hf
              subst hf
              exact W.iret (v := (S4.1 2)) hx hb hr (fun t ht hW => ⟨_, rfl, rfl, ht⟩) (fun _ h => by cases h) dX7_count_100
            · have hf := ff hf c1_5
              by_cases c1_6 : x1 = 6
              · have hf := ft hf c1_6
                refine lv_tableIn (tgt := 101) (pc := 1) hx hb dX7_count_1 (by rw [c1_6]; decide) (by rw [c1_6]; decide) (by rw [c1_6]; rfl) (by decide) ?_
                refine lv_aload_n (pc := 101) hx hb dX7_count_101 rfl (lv_at hl 0 rfl) ?_
                refine va_get (D := g.1) (ci := 7) (v := .ref (g.2.2.1 3)) (C := RX7) (T := TX7) (N := 13) (pc := 102) hx hb hts (fun _ h => List.mem_cons_of_mem _ (List.mem_append_left _ (List.mem_append_left _ (List.mem_append_left _ (List.mem_append_left _ (List.mem_append_left _ (List.mem_append_right _ h))))))) hown hK hP 0 rfl rfl 5 (by decide) (hts _ q_X7_count_9) (fun _ h9 => h9) rfl dX7_count_102 ?_
                refine va_get (D := g.1) (ci := 3) (v := .int (S3.1 4)) (C := RX3) (T := TX3) (N := 7) (pc := 105) hx hb hts (fun _ h => List.mem_cons_of_mem _ (List.mem_append_left _ (List.mem_append_right _ h))) hown hK hP 24 rfl rfl 4 (by decide) (hts _ q_X7_count_10) (fun _ h9 => h9) rfl dX7_count_105 ?_
                have hf := Option.some.inj hf
                subst hf
                exact W.iret (v := (S3.1 4)) hx hb hr (fun t ht hW => ⟨_, rfl, rfl, ht⟩) (fun _ h => by cases h) dX7_count_108
              · have hf := ff hf c1_6
                by_cases c1_7 : x1 = 7
                · have hf := ft hf c1_7
                  refine lv_tableIn (tgt := 109) (pc := 1) hx hb dX7_count_1 (by rw [c1_7]; decide) (by rw [c1_7]; decide) (by rw [c1_7]; rfl) (by decide) ?_
                  refine lv_aload_n (pc := 109) hx hb dX7_count_109 rfl (lv_at hl 0 rfl) ?_
                  refine va_get (D := g.1) (ci := 7) (v := .ref (g.2.2.1 0)) (C := RX7) (T := TX7) (N := 13) (pc := 110) hx hb hts (fun _ h => List.mem_cons_of_mem _ (List.mem_append_left _ (List.mem_append_left _ (List.mem_append_left _ (List.mem_append_left _ (List.mem_append_left _ (List.mem_append_right _ h))))))) hown hK hP 0 rfl rfl 6 (by decide) (hts _ q_X7_count_11) (fun _ h9 => h9) rfl dX7_count_110 ?_
                  refine va_get (D := g.1) (ci := 0) (v := .int (S0.1 7)) (C := RX0) (T := TX0) (N := 8) (pc := 113) hx hb hts (fun _ h => List.mem_cons_of_mem _ (List.mem_append_right _ h)) hown hK hP 29 rfl rfl 7 (by decide) (hts _ q_X7_count_12) (fun _ h9 => h9) rfl dX7_count_113 ?_
                  have hf := Option.some.inj hf
                  subst hf
                  exact W.iret (v := (S0.1 7)) hx hb hr (fun t ht hW => ⟨_, rfl, rfl, ht⟩) (fun _ h => by cases h) dX7_count_116
                · have hf := ff hf c1_7
                  refine lv_tableOut (tgt := 117) (pc := 1) hx hb dX7_count_1 (swO (fun z h1 h2 => by rcases (show z = 0 ∨ z = 1 ∨ z = 2 ∨ z = 3 ∨ z = 4 ∨ z = 5 ∨ z = 6 ∨ z = 7 by omega) with rfl | rfl | rfl | rfl | rfl | rfl | rfl | rfl <;> first | exact swN c1_0 rfl | exact swN c1_1 rfl | exact swN c1_2 rfl | exact swN c1_3 rfl | exact swN c1_4 rfl | exact swN c1_5 rfl | exact swN c1_6 rfl | exact swN c1_7 rfl)) (by decide) ?_
                  refine lv_iconst (v := (-1)) (pc := 117) hx hb dX7_count_117 (by decide) ?_
                  have hf := Option.some.inj hf
                  subst hf
                  exact W.iret (v := (-1)) hx hb hr (fun t ht hW => ⟨_, rfl, rfl, ht⟩) (fun _ h => by cases h) dX7_count_118
theorem q_X7_finding_0 : (.fieldLink RX7 64 "PictureCourt" "latestFinding" "I" : Cond) ∈ wsX7_finding := by decide +kernel
theorem h_X7_finding : yX7_finding.cls = RX7 ∧ yX7_finding.cls ≠ "java/lang/invoke/MethodHandle" ∧ yX7_finding.cls ≠ "java/lang/invoke/VarHandle" ∧ (parseMethodDescriptor yX7_finding.desc).map (fun d => d.parameters.length) = some 0 := by decide +kernel
set_option maxHeartbeats 4000000 in
set_option maxRecDepth 100000 in
theorem c_X7_finding (l : Launch) (g : En) (N : Nat) (S7 : St) (res : Int32) (hf : f_X7_finding N S7 = some res) : Met l yX7_finding wsX7_finding { frames := 0, cells := 0, slots := 0, locals := 0 } (roP g (wd_7 g S7) [.ref (g.2.2.1 7)]) (vp_Si (fun r => r = res)) 0 0 (fun _ => False) := by
  refine Met.ofW (cc := cX7_finding) (maxL := 1) (ret := (some .int)) (by decide) rfl ?_
  intro p e s m args below meth c s₁ B hml hv
  obtain ⟨rfl, hP, hK⟩ := hv
  have hx := B.exec
  have hb := B.bytes
  have hr := B.returns
  have hts := atoms_spec (ws := wsX7_finding) B.pre
  have hown : s.vm.findClass RX7 = some m.cls := findClass_of_methodNamed B.named
  have hlk := B.notSynchronized
  have C : cxr g (wd_7 g S7) cX7_finding 1 (some .int) wsX7_finding RX7 p s m ([.ref (g.2.2.1 7)] : List Value).toArray meth c := ⟨⟨hx, hb, hr, hml, hown, hts, hlk⟩, hK, hP⟩
  have hl := lv_entry [.ref (g.2.2.1 7)] (n := 1) (Nat.le_of_ble_eq_true rfl)
  rw [lg_entry_eq]
  generalize (lg_sl [.ref (g.2.2.1 7)] ++ List.replicate (1 - (lg_sl [.ref (g.2.2.1 7)]).length) Slot.unset).toArray = ls at hl ⊢
  have hl : lv_has ls 1 [(0, .ref (g.2.2.1 7))] := hl
  unfold f_X7_finding at hf
  refine lv_aload_n (pc := 0) hx hb dX7_finding_0 rfl (lv_at hl 0 rfl) ?_
  refine va_get (D := g.1) (ci := 7) (v := .int (S7.1 9)) (C := RX7) (T := TX7) (N := 13) (pc := 1) hx hb hts (fun _ h => List.mem_cons_of_mem _ (List.mem_append_right _ h)) hown hK hP 0 rfl rfl 9 (by decide) (hts _ q_X7_finding_0) (fun _ h9 => h9) rfl dX7_finding_1 ?_
  have hf := Option.some.inj hf
  subst hf
  exact W.iret (v := (S7.1 9)) hx hb hr (fun t ht hW => ⟨_, rfl, rfl, ht⟩) (fun _ h => by cases h) dX7_finding_4
theorem q_X7_findings_0 : (.fieldLink RX7 56 "PictureCourt" "findingCounts" "[I" : Cond) ∈ wsX7_findings := by decide +kernel
theorem h_X7_findings : yX7_findings.cls = RX7 ∧ yX7_findings.cls ≠ "java/lang/invoke/MethodHandle" ∧ yX7_findings.cls ≠ "java/lang/invoke/VarHandle" ∧ (parseMethodDescriptor yX7_findings.desc).map (fun d => d.parameters.length) = some 1 := by decide +kernel
set_option maxHeartbeats 4000000 in
set_option maxRecDepth 100000 in
theorem c_X7_findings (l : Launch) (g : En) (N : Nat) (S7 : St) (x1 : Int32) (res : Int32) (hf : f_X7_findings N S7 x1 = some res) : Met l yX7_findings wsX7_findings { frames := 1, cells := 0, slots := 0, locals := 22 } (roP g (wd_7 g S7) [.ref (g.2.2.1 7), .int x1]) (vp_Si (fun r => r = res)) 0 0 (fun _ => False) := by
  refine Met.ofW (cc := cX7_findings) (maxL := 2) (ret := (some .int)) (by decide) rfl ?_
  intro p e s m args below meth c s₁ B hml hv
  obtain ⟨rfl, hP, hK⟩ := hv
  have hx := B.exec
  have hb := B.bytes
  have hr := B.returns
  have hts := atoms_spec (ws := wsX7_findings) B.pre
  have hown : s.vm.findClass RX7 = some m.cls := findClass_of_methodNamed B.named
  have hlk := B.notSynchronized
  have C : cxr g (wd_7 g S7) cX7_findings 2 (some .int) wsX7_findings RX7 p s m ([.ref (g.2.2.1 7), .int x1] : List Value).toArray meth c := ⟨⟨hx, hb, hr, hml, hown, hts, hlk⟩, hK, hP⟩
  have hl := lv_entry [.ref (g.2.2.1 7), .int x1] (n := 2) (Nat.le_of_ble_eq_true rfl)
  rw [lg_entry_eq]
  generalize (lg_sl [.ref (g.2.2.1 7), .int x1] ++ List.replicate (2 - (lg_sl [.ref (g.2.2.1 7), .int x1]).length) Slot.unset).toArray = ls at hl ⊢
  have hl : lv_has ls 2 [(0, .ref (g.2.2.1 7)), (1, .int x1)] := hl
  unfold f_X7_findings at hf
  refine lv_iload_n (pc := 0) hx hb dX7_findings_0 rfl (lv_at hl 1 rfl) ?_
  refine lv_iconst (v := 1) (pc := 1) hx hb dX7_findings_1 (by decide) ?_
  refine lv_iconst (v := 5) (pc := 2) hx hb dX7_findings_2 (by decide) ?_
  obtain ⟨r3, e3, hf⟩ := bdE hf
  refine ksI (pc := 3) (As := [.int x1, .int 1, .int 5]) (rest := []) ⟨hx, hb, hml, hown, hts⟩ (c_X7_isWithin l N x1 1 5 r3 e3) (va_cwS 3 hts gX7_findings_X7_isWithin rfl rfl rfl h_X7_isWithin ⟨Nat.le_of_ble_eq_true rfl, Nat.le_of_ble_eq_true rfl⟩) rfl hl.1 rfl (Nat.le_of_ble_eq_true rfl) dX7_findings_3 ⟨Nat.zero_le _, Nat.zero_le _⟩ ?_
  refine lv_if_ne (tgt := 11) (pc := 6) hx hb dX7_findings_6 (by decide) (fun c6 => ?_) (fun c6 => ?_)
  · have hf := ff hf c6
    refine lv_aload_n (pc := 11) hx hb dX7_findings_11 rfl (lv_at hl 0 rfl) ?_
    refine va_get (D := g.1) (ci := 7) (v := .ref (g.2.2.2 7 7)) (C := RX7) (T := TX7) (N := 13) (pc := 12) hx hb hts (fun _ h => List.mem_cons_of_mem _ (List.mem_append_right _ h)) hown hK hP 0 rfl rfl 7 (by decide) (hts _ q_X7_findings_0) (fun _ h9 => h9) rfl dX7_findings_12 ?_
    refine lv_iload_n (pc := 15) hx hb dX7_findings_15 rfl (lv_at hl 1 rfl) ?_
    obtain ⟨b16, hf⟩ := gdE hf
    refine va_iald (D := g.1) (tys := tyl g) (f := (S7.2.2 7)) (pc := 16) hx hb hK hP 1 0 rfl rfl (inbV b16) dX7_findings_16 ?_
    have hf := Option.some.inj hf
    subst hf
    exact W.iret (v := ((S7.2.2 7) (Int32.toNatClampNeg x1))) hx hb hr (fun t ht hW => ⟨_, rfl, rfl, ht⟩) (fun _ h => by cases h) dX7_findings_17
  · have hf := ft hf c6
    refine lv_iconst (v := (-1)) (pc := 9) hx hb dX7_findings_9 (by decide) ?_
    have hf := Option.some.inj hf
    subst hf
    exact W.iret (v := (-1)) hx hb hr (fun t ht hW => ⟨_, rfl, rfl, ht⟩) (fun _ h => by cases h) dX7_findings_10
theorem q_X7_digest_0 : (.constantLong RX7 336 31 : Cond) ∈ wsX7_digest := by decide +kernel
theorem q_X7_digest_1 : (.fieldLink RX7 10 "PictureCourt" "proofs" "LPictureCourt$Proofs;" : Cond) ∈ wsX7_digest := by decide +kernel
theorem q_X7_digest_2 : (.fieldLink RX7 321 "PictureCourt$Proofs" "size" "I" : Cond) ∈ wsX7_digest := by decide +kernel
theorem q_X7_digest_3 : (.fieldLink RX7 31 "PictureCourt" "odds" "LPictureCourt$Odds;" : Cond) ∈ wsX7_digest := by decide +kernel
theorem q_X7_digest_4 : (.fieldLink RX7 20 "PictureCourt" "rows" "LPictureCourt$Rows;" : Cond) ∈ wsX7_digest := by decide +kernel
theorem q_X7_digest_5 : (.constantLong RX7 334 17 : Cond) ∈ wsX7_digest := by decide +kernel
theorem h_X7_digest : yX7_digest.cls = RX7 ∧ yX7_digest.cls ≠ "java/lang/invoke/MethodHandle" ∧ yX7_digest.cls ≠ "java/lang/invoke/VarHandle" ∧ (parseMethodDescriptor yX7_digest.desc).map (fun d => d.parameters.length) = some 0 := by decide +kernel
set_option maxHeartbeats 4000000 in
set_option maxRecDepth 100000 in
theorem w_X7_digest_47_b {p : Program} {l : Launch} {e : Env} {s : State} {m : MethodId} {args : Array Value} {below : List Frame} {meth : Method} {c : Code} {g : En} {N : Nat} {S7 : St} {S5 : St} {S6 : St} {S2 : St} {S4 : St} {S3 : St} {S0 : St} {res : Int64} (C : cxr g (wd_7_5_6_2_4_3_0 g S7 S5 S6 S2 S4 S3 S0) cX7_digest 5 (some .long) wsX7_digest RX7 p s m args meth c) (k33 : Int64 → Int32 → Option (Int64)) (H33 : ∀ (ls : Array Slot) (x1 : Int64) (x3 : Int32), lv_has ls 5 [(0, .ref (g.2.2.1 7)), (1, .long x1), (3, .int x3)] → k33 x1 x3 = some res → W p l e (headSpec wsX7_digest { frames := 6, cells := 0, slots := 0, locals := 145 }).room s m args below meth c s.heap [] 0 0 (MQ below (vp_Sl (fun r => r = res)) args s 0 0 (fun _ => False)) (F0 m 33 ls [])) (k47 : Int64 → Int32 → Int32 → Option (Int64)) (H47 : ∀ (ls : Array Slot) (x1 : Int64) (x3 : Int32) (x4 : Int32), lv_has ls 5 [(0, .ref (g.2.2.1 7)), (1, .long x1), (3, .int x3), (4, .int x4)] → k47 x1 x3 x4 = some res → W p l e (headSpec wsX7_digest { frames := 6, cells := 0, slots := 0, locals := 145 }).room s m args below meth c s.heap [] 0 0 (MQ below (vp_Sl (fun r => r = res)) args s 0 0 (fun _ => False)) (F0 m 47 ls [])) : ∀ (ls : Array Slot) (x1 : Int64) (x3 : Int32) (x4 : Int32), lv_has ls 5 [(0, .ref (g.2.2.1 7)), (1, .long x1), (3, .int x3), (4, .int x4)] → f_X7_digest_47_b N S7 S5 S6 S2 S4 S3 S0 k33 k47 x1 x3 x4 = some res → W p l e (headSpec wsX7_digest { frames := 6, cells := 0, slots := 0, locals := 145 }).room s m args below meth c s.heap [] 0 0 (MQ below (vp_Sl (fun r => r = res)) args s 0 0 (fun _ => False)) (F0 m 47 ls []) := by
  intro ls x1 x3 x4 hl hf
  obtain ⟨⟨hx, hb, hr, hml, hown, hts, hlk⟩, hK, hP⟩ := id C
  unfold f_X7_digest_47_b at hf
  refine lv_iload (pc := 47) hx hb dX7_digest_47 (lv_at hl 3 rfl) ?_
  refine lv_iconst (v := 5) (pc := 49) hx hb dX7_digest_49 (by decide) ?_
  refine lv_icmp_gt (tgt := 77) (pc := 50) hx hb dX7_digest_50 (by decide) (fun c50 => ?_) (fun c50 => ?_)
  · have hf := ft hf c50
    refine lv_iinc (v := (x3 + 1)) (lv' := [(3, .int (x3 + 1)), (0, .ref (g.2.2.1 7)), (1, .long x1), (4, .int x4)]) (pc := 77) hx hb dX7_digest_77 hl (k := 2) rfl rfl (by decide) rfl (fun ls hl => ?_)
    refine lv_goto (tgt := 33) (pc := 80) hx hb dX7_digest_80 (by decide) ?_
    exact H33 ls x1 (x3 + 1) (lv_sub hl [1, 2, 0] rfl) hf
  · have hf := ff hf c50
    refine lv_ldc2 (v := 31) (pc := 53) hx hb hown (hts _ q_X7_digest_0) dX7_digest_53 ?_
    refine lv_lload_n (pc := 56) hx hb dX7_digest_56 rfl (lv_at hl 1 rfl) ?_
    refine lv_lmul (pc := 57) hx hb dX7_digest_57 ?_
    refine lv_aload_n (pc := 58) hx hb dX7_digest_58 rfl (lv_at hl 0 rfl) ?_
    refine va_get (D := g.1) (ci := 7) (v := .ref (g.2.2.1 5)) (C := RX7) (T := TX7) (N := 13) (pc := 59) hx hb hts (fun _ h => List.mem_cons_of_mem _ (List.mem_append_left _ (List.mem_append_left _ (List.mem_append_left _ (List.mem_append_left _ (List.mem_append_left _ (List.mem_append_left _ (List.mem_append_right _ h)))))))) hown hK hP 0 rfl rfl 0 (by decide) (hts _ q_X7_digest_1) (fun _ h9 => h9) rfl dX7_digest_59 ?_
    refine lv_iload_n (pc := 62) hx hb dX7_digest_62 rfl (lv_at hl 2 rfl) ?_
    refine lv_iload (pc := 63) hx hb dX7_digest_63 (lv_at hl 3 rfl) ?_
    obtain ⟨r65, e65, hf⟩ := bdE hf
    refine krI (g := g) (wc := (wd_5_6 g S5 S6)) (pc := 65) (As := [.int x3, .int x4]) (rest := [.long (31 * x1)]) ⟨hx, hb, hml, hown, hts⟩ (c_X5_detail l g N S5 S6 x3 x4 r65 e65) (cwV 2 hts gX7_digest_X5_detail rfl rfl rfl h_X5_detail ⟨Nat.le_of_ble_eq_true rfl, Nat.le_of_ble_eq_true rfl⟩) hK (hP.sub (ws' := (wd_5_6 g S5 S6)) [2, 3, 4, 5, 6, 7, 8, 9, 10, 11, 12, 13, 14] rfl) rfl rfl rfl hl.1 rfl (Nat.le_of_ble_eq_true rfl) dX7_digest_65 ⟨Nat.zero_le _, Nat.zero_le _⟩ ?_
    refine lv_i2l (pc := 68) hx hb dX7_digest_68 rfl ?_
    refine lv_ladd (pc := 69) hx hb dX7_digest_69 ?_
    refine lv_lstore_n (lv' := [(1, .long ((31 * x1) + (Int32.toInt64 r65))), (0, .ref (g.2.2.1 7)), (3, .int x3), (4, .int x4)]) (pc := 70) hx hb dX7_digest_70 rfl hl (by decide) rfl (fun ls hl => ?_)
    refine lv_iinc (v := (x4 + 1)) (lv' := [(4, .int (x4 + 1)), (1, .long ((31 * x1) + (Int32.toInt64 r65))), (0, .ref (g.2.2.1 7)), (3, .int x3)]) (pc := 71) hx hb dX7_digest_71 hl (k := 3) rfl rfl (by decide) rfl (fun ls hl => ?_)
    refine lv_goto (tgt := 47) (pc := 74) hx hb dX7_digest_74 (by decide) ?_
    exact H47 ls ((31 * x1) + (Int32.toInt64 r65)) x3 (x4 + 1) (lv_sub hl [2, 1, 3, 0] rfl) hf
set_option maxHeartbeats 4000000 in
set_option maxRecDepth 100000 in
theorem w_X7_digest_47 {p : Program} {l : Launch} {e : Env} {s : State} {m : MethodId} {args : Array Value} {below : List Frame} {meth : Method} {c : Code} {g : En} {N : Nat} {S7 : St} {S5 : St} {S6 : St} {S2 : St} {S4 : St} {S3 : St} {S0 : St} {res : Int64} (C : cxr g (wd_7_5_6_2_4_3_0 g S7 S5 S6 S2 S4 S3 S0) cX7_digest 5 (some .long) wsX7_digest RX7 p s m args meth c) (k33 : Int64 → Int32 → Option (Int64)) (H33 : ∀ (ls : Array Slot) (x1 : Int64) (x3 : Int32), lv_has ls 5 [(0, .ref (g.2.2.1 7)), (1, .long x1), (3, .int x3)] → k33 x1 x3 = some res → W p l e (headSpec wsX7_digest { frames := 6, cells := 0, slots := 0, locals := 145 }).room s m args below meth c s.heap [] 0 0 (MQ below (vp_Sl (fun r => r = res)) args s 0 0 (fun _ => False)) (F0 m 33 ls [])) : ∀ (n : Nat), ∀ (ls : Array Slot) (x1 : Int64) (x3 : Int32) (x4 : Int32), lv_has ls 5 [(0, .ref (g.2.2.1 7)), (1, .long x1), (3, .int x3), (4, .int x4)] → f_X7_digest_47 N S7 S5 S6 S2 S4 S3 S0 k33 n x1 x3 x4 = some res → W p l e (headSpec wsX7_digest { frames := 6, cells := 0, slots := 0, locals := 145 }).room s m args below meth c s.heap [] 0 0 (MQ below (vp_Sl (fun r => r = res)) args s 0 0 (fun _ => False)) (F0 m 47 ls []) := by
  intro n
  induction n with
  | zero =>
    intro ls x1 x3 x4 hl hf
    have hf : (none : Option (Int64)) = some res := hf
    cases hf
  | succ n ih =>
    intro ls x1 x3 x4 hl hf
    exact w_X7_digest_47_b C k33 H33 (fun y0 y1 y2 => f_X7_digest_47 N S7 S5 S6 S2 S4 S3 S0 k33 n y0 y1 y2) ih ls x1 x3 x4 hl hf
set_option maxHeartbeats 4000000 in
set_option maxRecDepth 100000 in
theorem w_X7_digest_33_b {p : Program} {l : Launch} {e : Env} {s : State} {m : MethodId} {args : Array Value} {below : List Frame} {meth : Method} {c : Code} {g : En} {N : Nat} {S7 : St} {S5 : St} {S6 : St} {S2 : St} {S4 : St} {S3 : St} {S0 : St} {res : Int64} (C : cxr g (wd_7_5_6_2_4_3_0 g S7 S5 S6 S2 S4 S3 S0) cX7_digest 5 (some .long) wsX7_digest RX7 p s m args meth c) (k33 : Int64 → Int32 → Option (Int64)) (H33 : ∀ (ls : Array Slot) (x1 : Int64) (x3 : Int32), lv_has ls 5 [(0, .ref (g.2.2.1 7)), (1, .long x1), (3, .int x3)] → k33 x1 x3 = some res → W p l e (headSpec wsX7_digest { frames := 6, cells := 0, slots := 0, locals := 145 }).room s m args below meth c s.heap [] 0 0 (MQ below (vp_Sl (fun r => r = res)) args s 0 0 (fun _ => False)) (F0 m 33 ls [])) : ∀ (ls : Array Slot) (x1 : Int64) (x3 : Int32), lv_has ls 5 [(0, .ref (g.2.2.1 7)), (1, .long x1), (3, .int x3)] → f_X7_digest_33_b N S7 S5 S6 S2 S4 S3 S0  k33 x1 x3 = some res → W p l e (headSpec wsX7_digest { frames := 6, cells := 0, slots := 0, locals := 145 }).room s m args below meth c s.heap [] 0 0 (MQ below (vp_Sl (fun r => r = res)) args s 0 0 (fun _ => False)) (F0 m 33 ls []) := by
  intro ls x1 x3 hl hf
  obtain ⟨⟨hx, hb, hr, hml, hown, hts, hlk⟩, hK, hP⟩ := id C
  unfold f_X7_digest_33_b at hf
  refine lv_iload_n (pc := 33) hx hb dX7_digest_33 rfl (lv_at hl 2 rfl) ?_
  refine lv_aload_n (pc := 34) hx hb dX7_digest_34 rfl (lv_at hl 0 rfl) ?_
  refine va_get (D := g.1) (ci := 7) (v := .ref (g.2.2.1 5)) (C := RX7) (T := TX7) (N := 13) (pc := 35) hx hb hts (fun _ h => List.mem_cons_of_mem _ (List.mem_append_left _ (List.mem_append_left _ (List.mem_append_left _ (List.mem_append_left _ (List.mem_append_left _ (List.mem_append_left _ (List.mem_append_right _ h)))))))) hown hK hP 0 rfl rfl 0 (by decide) (hts _ q_X7_digest_1) (fun _ h9 => h9) rfl dX7_digest_35 ?_
  refine va_get (D := g.1) (ci := 5) (v := .int (S5.1 13)) (C := RX5) (T := TX5) (N := 15) (pc := 38) hx hb hts (fun _ h => List.mem_cons_of_mem _ (List.mem_append_left _ (List.mem_append_left _ (List.mem_append_left _ (List.mem_append_left _ (List.mem_append_left _ (List.mem_append_right _ h))))))) hown hK hP 2 rfl rfl 13 (by decide) (hts _ q_X7_digest_2) (fun _ h9 => h9) rfl dX7_digest_38 ?_
  refine lv_icmp_ge (tgt := 83) (pc := 41) hx hb dX7_digest_41 (by decide) (fun c41 => ?_) (fun c41 => ?_)
  · have hf := ft hf c41
    refine lv_aload_n (pc := 83) hx hb dX7_digest_83 rfl (lv_at hl 0 rfl) ?_
    refine va_get (D := g.1) (ci := 7) (v := .ref (g.2.2.1 2)) (C := RX7) (T := TX7) (N := 13) (pc := 84) hx hb hts (fun _ h => List.mem_cons_of_mem _ (List.mem_append_left _ (List.mem_append_left _ (List.mem_append_left _ (List.mem_append_left _ (List.mem_append_left _ (List.mem_append_left _ (List.mem_append_right _ h)))))))) hown hK hP 0 rfl rfl 3 (by decide) (hts _ q_X7_digest_3) (fun _ h9 => h9) rfl dX7_digest_84 ?_
    refine lv_lload_n (pc := 87) hx hb dX7_digest_87 rfl (lv_at hl 1 rfl) ?_
    obtain ⟨r88, e88, hf⟩ := bdE hf
    refine krL (g := g) (wc := (wd_2 g S2)) (pc := 88) (As := [.long x1]) (rest := []) ⟨hx, hb, hml, hown, hts⟩ (c_X2_mixInto l g N S2 x1 r88 e88) (cwV 1 hts gX7_digest_X2_mixInto rfl rfl rfl h_X2_mixInto ⟨Nat.le_of_ble_eq_true rfl, Nat.le_of_ble_eq_true rfl⟩) hK (hP.sub (ws' := (wd_2 g S2)) [15, 16, 17, 18, 19, 20, 21, 22, 23] rfl) rfl rfl rfl hl.1 rfl (Nat.le_of_ble_eq_true rfl) dX7_digest_88 ⟨Nat.zero_le _, Nat.zero_le _⟩ ?_
    refine lv_lstore_n (lv' := [(1, .long r88), (0, .ref (g.2.2.1 7)), (3, .int x3)]) (pc := 91) hx hb dX7_digest_91 rfl hl (by decide) rfl (fun ls hl => ?_)
    refine lv_aload_n (pc := 92) hx hb dX7_digest_92 rfl (lv_at hl 1 rfl) ?_
    refine va_get (D := g.1) (ci := 7) (v := .ref (g.2.2.1 5)) (C := RX7) (T := TX7) (N := 13) (pc := 93) hx hb hts (fun _ h => List.mem_cons_of_mem _ (List.mem_append_left _ (List.mem_append_left _ (List.mem_append_left _ (List.mem_append_left _ (List.mem_append_left _ (List.mem_append_left _ (List.mem_append_right _ h)))))))) hown hK hP 0 rfl rfl 0 (by decide) (hts _ q_X7_digest_1) (fun _ h9 => h9) rfl dX7_digest_93 ?_
    refine lv_lload_n (pc := 96) hx hb dX7_digest_96 rfl (lv_at hl 0 rfl) ?_
    obtain ⟨r97, e97, hf⟩ := bdE hf
    refine krL (g := g) (wc := (wd_5 g S5)) (pc := 97) (As := [.long r88]) (rest := []) ⟨hx, hb, hml, hown, hts⟩ (c_X5_mixPaintsInto l g N S5 r88 r97 e97) (cwV 1 hts gX7_digest_X5_mixPaintsInto rfl rfl rfl h_X5_mixPaintsInto ⟨Nat.le_of_ble_eq_true rfl, Nat.le_of_ble_eq_true rfl⟩) hK (hP.sub (ws' := (wd_5 g S5)) [2, 3, 4, 5, 6, 7, 8, 9, 10, 11] rfl) rfl rfl rfl hl.1 rfl (Nat.le_of_ble_eq_true rfl) dX7_digest_97 ⟨Nat.zero_le _, Nat.zero_le _⟩ ?_
    refine lv_lstore_n (lv' := [(1, .long r97), (0, .ref (g.2.2.1 7)), (3, .int x3)]) (pc := 100) hx hb dX7_digest_100 rfl hl (by decide) rfl (fun ls hl => ?_)
    refine lv_aload_n (pc := 101) hx hb dX7_digest_101 rfl (lv_at hl 1 rfl) ?_
    refine va_get (D := g.1) (ci := 7) (v := .ref (g.2.2.1 6)) (C := RX7) (T := TX7) (N := 13) (pc := 102) hx hb hts (fun _ h => List.mem_cons_of_mem _ (List.mem_append_left _ (List.mem_append_left _ (List.mem_append_left _ (List.mem_append_left _ (List.mem_append_left _ (List.mem_append_left _ (List.mem_append_right _ h)))))))) hown hK hP 0 rfl rfl 1 (by decide) (hts _ q_X7_digest_4) (fun _ h9 => h9) rfl dX7_digest_102 ?_
    refine lv_lload_n (pc := 105) hx hb dX7_digest_105 rfl (lv_at hl 0 rfl) ?_
    obtain ⟨r106, e106, hf⟩ := bdE hf
    refine krL (g := g) (wc := (wd_6 g S6)) (pc := 106) (As := [.long r97]) (rest := []) ⟨hx, hb, hml, hown, hts⟩ (c_X6_mixInto l g N S6 r97 r106 e106) (cwV 1 hts gX7_digest_X6_mixInto rfl rfl rfl h_X6_mixInto ⟨Nat.le_of_ble_eq_true rfl, Nat.le_of_ble_eq_true rfl⟩) hK (hP.sub (ws' := (wd_6 g S6)) [12, 13, 14] rfl) rfl rfl rfl hl.1 rfl (Nat.le_of_ble_eq_true rfl) dX7_digest_106 ⟨Nat.zero_le _, Nat.zero_le _⟩ ?_
    have hf := Option.some.inj hf
    subst hf
    exact W.lret (v := r106) hx hb hr (fun t ht hW => ⟨_, rfl, rfl, ht⟩) (fun _ h => by cases h) dX7_digest_109
  · have hf := ff hf c41
    refine lv_iconst (v := 0) (pc := 44) hx hb dX7_digest_44 (by decide) ?_
    refine lv_istore (lv' := [(4, .int 0), (0, .ref (g.2.2.1 7)), (1, .long x1), (3, .int x3)]) (pc := 45) hx hb dX7_digest_45 hl (by decide) rfl (fun ls hl => ?_)
    exact w_X7_digest_47 C k33 H33 N ls x1 x3 0 (lv_sub hl [1, 2, 3, 0] rfl) hf
set_option maxHeartbeats 4000000 in
set_option maxRecDepth 100000 in
theorem w_X7_digest_33 {p : Program} {l : Launch} {e : Env} {s : State} {m : MethodId} {args : Array Value} {below : List Frame} {meth : Method} {c : Code} {g : En} {N : Nat} {S7 : St} {S5 : St} {S6 : St} {S2 : St} {S4 : St} {S3 : St} {S0 : St} {res : Int64} (C : cxr g (wd_7_5_6_2_4_3_0 g S7 S5 S6 S2 S4 S3 S0) cX7_digest 5 (some .long) wsX7_digest RX7 p s m args meth c) : ∀ (n : Nat), ∀ (ls : Array Slot) (x1 : Int64) (x3 : Int32), lv_has ls 5 [(0, .ref (g.2.2.1 7)), (1, .long x1), (3, .int x3)] → f_X7_digest_33 N S7 S5 S6 S2 S4 S3 S0  n x1 x3 = some res → W p l e (headSpec wsX7_digest { frames := 6, cells := 0, slots := 0, locals := 145 }).room s m args below meth c s.heap [] 0 0 (MQ below (vp_Sl (fun r => r = res)) args s 0 0 (fun _ => False)) (F0 m 33 ls []) := by
  intro n
  induction n with
  | zero =>
    intro ls x1 x3 hl hf
    have hf : (none : Option (Int64)) = some res := hf
    cases hf
  | succ n ih =>
    intro ls x1 x3 hl hf
    exact w_X7_digest_33_b C  (fun y0 y1 => f_X7_digest_33 N S7 S5 S6 S2 S4 S3 S0  n y0 y1) ih ls x1 x3 hl hf
set_option maxHeartbeats 4000000 in
set_option maxRecDepth 100000 in
theorem w_X7_digest_6_b {p : Program} {l : Launch} {e : Env} {s : State} {m : MethodId} {args : Array Value} {below : List Frame} {meth : Method} {c : Code} {g : En} {N : Nat} {S7 : St} {S5 : St} {S6 : St} {S2 : St} {S4 : St} {S3 : St} {S0 : St} {res : Int64} (C : cxr g (wd_7_5_6_2_4_3_0 g S7 S5 S6 S2 S4 S3 S0) cX7_digest 5 (some .long) wsX7_digest RX7 p s m args meth c) (k6 : Int64 → Int32 → Option (Int64)) (H6 : ∀ (ls : Array Slot) (x1 : Int64) (x3 : Int32), lv_has ls 5 [(0, .ref (g.2.2.1 7)), (1, .long x1), (3, .int x3)] → k6 x1 x3 = some res → W p l e (headSpec wsX7_digest { frames := 6, cells := 0, slots := 0, locals := 145 }).room s m args below meth c s.heap [] 0 0 (MQ below (vp_Sl (fun r => r = res)) args s 0 0 (fun _ => False)) (F0 m 6 ls [])) : ∀ (ls : Array Slot) (x1 : Int64) (x3 : Int32), lv_has ls 5 [(0, .ref (g.2.2.1 7)), (1, .long x1), (3, .int x3)] → f_X7_digest_6_b N S7 S5 S6 S2 S4 S3 S0  k6 x1 x3 = some res → W p l e (headSpec wsX7_digest { frames := 6, cells := 0, slots := 0, locals := 145 }).room s m args below meth c s.heap [] 0 0 (MQ below (vp_Sl (fun r => r = res)) args s 0 0 (fun _ => False)) (F0 m 6 ls []) := by
  intro ls x1 x3 hl hf
  obtain ⟨⟨hx, hb, hr, hml, hown, hts, hlk⟩, hK, hP⟩ := id C
  unfold f_X7_digest_6_b at hf
  refine lv_iload_n (pc := 6) hx hb dX7_digest_6 rfl (lv_at hl 2 rfl) ?_
  refine lv_bipush (v := 7) (pc := 7) hx hb dX7_digest_7 (by decide) ?_
  refine lv_icmp_gt (tgt := 31) (pc := 9) hx hb dX7_digest_9 (by decide) (fun c9 => ?_) (fun c9 => ?_)
  · have hf := ft hf c9
    refine lv_iconst (v := 0) (pc := 31) hx hb dX7_digest_31 (by decide) ?_
    refine lv_istore_n (lv' := [(3, .int 0), (0, .ref (g.2.2.1 7)), (1, .long x1)]) (pc := 32) hx hb dX7_digest_32 rfl hl (by decide) rfl (fun ls hl => ?_)
    exact w_X7_digest_33 C  N ls x1 0 (lv_sub hl [1, 2, 0] rfl) hf
  · have hf := ff hf c9
    refine lv_ldc2 (v := 31) (pc := 12) hx hb hown (hts _ q_X7_digest_0) dX7_digest_12 ?_
    refine lv_lload_n (pc := 15) hx hb dX7_digest_15 rfl (lv_at hl 1 rfl) ?_
    refine lv_lmul (pc := 16) hx hb dX7_digest_16 ?_
    refine lv_aload_n (pc := 17) hx hb dX7_digest_17 rfl (lv_at hl 0 rfl) ?_
    refine lv_iload_n (pc := 18) hx hb dX7_digest_18 rfl (lv_at hl 2 rfl) ?_
    obtain ⟨r19, e19, hf⟩ := bdE hf
    refine krI (g := g) (wc := (wd_7_5_2_4_3_0 g S7 S5 S2 S4 S3 S0)) (pc := 19) (As := [.int x3]) (rest := [.long (31 * x1)]) ⟨hx, hb, hml, hown, hts⟩ (c_X7_count l g N S7 S5 S2 S4 S3 S0 x3 r19 e19) (cwV 1 hts gX7_digest_X7_count rfl rfl rfl h_X7_count ⟨Nat.le_of_ble_eq_true rfl, Nat.le_of_ble_eq_true rfl⟩) hK (hP.sub (ws' := (wd_7_5_2_4_3_0 g S7 S5 S2 S4 S3 S0)) [0, 1, 2, 3, 4, 5, 6, 7, 8, 9, 10, 11, 15, 16, 17, 18, 19, 20, 21, 22, 23, 24, 25, 26, 27, 28, 29, 30, 31, 32, 33, 34, 35, 36] rfl) rfl rfl rfl hl.1 rfl (Nat.le_of_ble_eq_true rfl) dX7_digest_19 ⟨Nat.zero_le _, Nat.zero_le _⟩ ?_
    refine lv_i2l (pc := 22) hx hb dX7_digest_22 rfl ?_
    refine lv_ladd (pc := 23) hx hb dX7_digest_23 ?_
    refine lv_lstore_n (lv' := [(1, .long ((31 * x1) + (Int32.toInt64 r19))), (0, .ref (g.2.2.1 7)), (3, .int x3)]) (pc := 24) hx hb dX7_digest_24 rfl hl (by decide) rfl (fun ls hl => ?_)
    refine lv_iinc (v := (x3 + 1)) (lv' := [(3, .int (x3 + 1)), (1, .long ((31 * x1) + (Int32.toInt64 r19))), (0, .ref (g.2.2.1 7))]) (pc := 25) hx hb dX7_digest_25 hl (k := 2) rfl rfl (by decide) rfl (fun ls hl => ?_)
    refine lv_goto (tgt := 6) (pc := 28) hx hb dX7_digest_28 (by decide) ?_
    exact H6 ls ((31 * x1) + (Int32.toInt64 r19)) (x3 + 1) (lv_sub hl [2, 1, 0] rfl) hf
set_option maxHeartbeats 4000000 in
set_option maxRecDepth 100000 in
theorem w_X7_digest_6 {p : Program} {l : Launch} {e : Env} {s : State} {m : MethodId} {args : Array Value} {below : List Frame} {meth : Method} {c : Code} {g : En} {N : Nat} {S7 : St} {S5 : St} {S6 : St} {S2 : St} {S4 : St} {S3 : St} {S0 : St} {res : Int64} (C : cxr g (wd_7_5_6_2_4_3_0 g S7 S5 S6 S2 S4 S3 S0) cX7_digest 5 (some .long) wsX7_digest RX7 p s m args meth c) : ∀ (n : Nat), ∀ (ls : Array Slot) (x1 : Int64) (x3 : Int32), lv_has ls 5 [(0, .ref (g.2.2.1 7)), (1, .long x1), (3, .int x3)] → f_X7_digest_6 N S7 S5 S6 S2 S4 S3 S0  n x1 x3 = some res → W p l e (headSpec wsX7_digest { frames := 6, cells := 0, slots := 0, locals := 145 }).room s m args below meth c s.heap [] 0 0 (MQ below (vp_Sl (fun r => r = res)) args s 0 0 (fun _ => False)) (F0 m 6 ls []) := by
  intro n
  induction n with
  | zero =>
    intro ls x1 x3 hl hf
    have hf : (none : Option (Int64)) = some res := hf
    cases hf
  | succ n ih =>
    intro ls x1 x3 hl hf
    exact w_X7_digest_6_b C  (fun y0 y1 => f_X7_digest_6 N S7 S5 S6 S2 S4 S3 S0  n y0 y1) ih ls x1 x3 hl hf
set_option maxHeartbeats 4000000 in
set_option maxRecDepth 100000 in
theorem c_X7_digest (l : Launch) (g : En) (N : Nat) (S7 : St) (S5 : St) (S6 : St) (S2 : St) (S4 : St) (S3 : St) (S0 : St) (res : Int64) (hf : f_X7_digest N S7 S5 S6 S2 S4 S3 S0 = some res) : Met l yX7_digest wsX7_digest { frames := 6, cells := 0, slots := 0, locals := 145 } (roP g (wd_7_5_6_2_4_3_0 g S7 S5 S6 S2 S4 S3 S0) [.ref (g.2.2.1 7)]) (vp_Sl (fun r => r = res)) 0 0 (fun _ => False) := by
  refine Met.ofW (cc := cX7_digest) (maxL := 5) (ret := (some .long)) (by decide) rfl ?_
  intro p e s m args below meth c s₁ B hml hv
  obtain ⟨rfl, hP, hK⟩ := hv
  have hx := B.exec
  have hb := B.bytes
  have hr := B.returns
  have hts := atoms_spec (ws := wsX7_digest) B.pre
  have hown : s.vm.findClass RX7 = some m.cls := findClass_of_methodNamed B.named
  have hlk := B.notSynchronized
  have C : cxr g (wd_7_5_6_2_4_3_0 g S7 S5 S6 S2 S4 S3 S0) cX7_digest 5 (some .long) wsX7_digest RX7 p s m ([.ref (g.2.2.1 7)] : List Value).toArray meth c := ⟨⟨hx, hb, hr, hml, hown, hts, hlk⟩, hK, hP⟩
  have hl := lv_entry [.ref (g.2.2.1 7)] (n := 5) (Nat.le_of_ble_eq_true rfl)
  rw [lg_entry_eq]
  generalize (lg_sl [.ref (g.2.2.1 7)] ++ List.replicate (5 - (lg_sl [.ref (g.2.2.1 7)]).length) Slot.unset).toArray = ls at hl ⊢
  have hl : lv_has ls 5 [(0, .ref (g.2.2.1 7))] := hl
  unfold f_X7_digest at hf
  refine lv_ldc2 (v := 17) (pc := 0) hx hb hown (hts _ q_X7_digest_5) dX7_digest_0 ?_
  refine lv_lstore_n (lv' := [(1, .long 17), (0, .ref (g.2.2.1 7))]) (pc := 3) hx hb dX7_digest_3 rfl hl (by decide) rfl (fun ls hl => ?_)
  refine lv_iconst (v := 0) (pc := 4) hx hb dX7_digest_4 (by decide) ?_
  refine lv_istore_n (lv' := [(3, .int 0), (1, .long 17), (0, .ref (g.2.2.1 7))]) (pc := 5) hx hb dX7_digest_5 rfl hl (by decide) rfl (fun ls hl => ?_)
  exact w_X7_digest_6 C  N ls 17 0 (lv_sub hl [2, 1, 0] rfl) hf
