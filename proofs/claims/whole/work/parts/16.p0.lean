theorem q_X0_sell_0 : (.fieldLink RX0 24 "PictureCourt$Contract" "saleDay" "I" : Cond) ∈ wsX0_sell := by decide +kernel
theorem q_X0_sell_1 : (.fieldLink RX0 28 "PictureCourt$Contract" "price" "I" : Cond) ∈ wsX0_sell := by decide +kernel
theorem q_X0_sell_2 : (.fieldLink RX0 31 "PictureCourt$Contract" "hand" "I" : Cond) ∈ wsX0_sell := by decide +kernel
theorem h_X0_sell : yX0_sell.cls = RX0 ∧ yX0_sell.cls ≠ "java/lang/invoke/MethodHandle" ∧ yX0_sell.cls ≠ "java/lang/invoke/VarHandle" ∧ (parseMethodDescriptor yX0_sell.desc).map (fun d => d.parameters.length) = some 3 := by decide +kernel
set_option maxHeartbeats 4000000 in
set_option maxRecDepth 100000 in
theorem c_X0_sell (l : Launch) (g : En) (N : Nat) (sz : Nat) (S0 : St) (x1 : Int32) (x2 : Int32) (x3 : Int32) (res : St) (hf : f_X0_sell N S0 x1 x2 x3 = some res) : Met l yX0_sell wsX0_sell { frames := 0, cells := 0, slots := 0, locals := 0 } (rwP g (wd_0 g S0) sz [.ref (g.2.2.1 0), .int x1, .int x2, .int x3]) (rwQv g (wd_0 g res) (va_A (wd_0 g S0) sz)) 0 0 (va_A (wd_0 g S0) sz) := by
  refine Met.ofW (cc := cX0_sell) (maxL := 4) (ret := none) (by decide) rfl ?_
  intro p e s m args below meth c s₁ B hml hv
  obtain ⟨rfl, hsz, hP, hK, hD0⟩ := hv
  have hx := B.exec
  have hb := B.bytes
  have hr := B.returns
  have hts := atoms_spec (ws := wsX0_sell) B.pre
  have hown : s.vm.findClass RX0 = some m.cls := findClass_of_methodNamed B.named
  have hlk := B.notSynchronized
  subst hsz
  have hD := hD0.self (sz := s.heap.size)
  generalize hAe : va_A (wd_0 g S0) s.heap.size = A at hD ⊢
  have hA : ∀ q : Nat, s.heap.size ≤ q → A q := fun q h => by rw [← hAe]; exact Or.inr h
  have hS : va_S A s.heap s.heap [] := va_S.rf
  have C : cxw g A cX0_sell 4 none wsX0_sell RX0 p s m ([.ref (g.2.2.1 0), .int x1, .int x2, .int x3] : List Value).toArray meth c := ⟨⟨hx, hb, hr, hml, hown, hts, hlk⟩, hK, hA⟩
  have hl := lv_entry [.ref (g.2.2.1 0), .int x1, .int x2, .int x3] (n := 4) (Nat.le_of_ble_eq_true rfl)
  rw [lg_entry_eq]
  generalize (lg_sl [.ref (g.2.2.1 0), .int x1, .int x2, .int x3] ++ List.replicate (4 - (lg_sl [.ref (g.2.2.1 0), .int x1, .int x2, .int x3]).length) Slot.unset).toArray = ls at hl ⊢
  have hl : lv_has ls 4 [(0, .ref (g.2.2.1 0)), (1, .int x1), (2, .int x2), (3, .int x3)] := hl
  unfold f_X0_sell at hf
  suffices K9 : ∀ (H : Heap) (locs : List Loc), va_P g.1 vwCl (wd_0 g S0) H → va_D A (wd_0 g S0) → va_S A s.heap H locs → some ((sI (sI (sI S0 4 x1) 5 x2) 6 x3)) = some res → W p l e (headSpec wsX0_sell { frames := 0, cells := 0, slots := 0, locals := 0 }).room s m ([.ref (g.2.2.1 0), .int x1, .int x2, .int x3] : List Value).toArray below meth c H locs 0 0 (MQ below (rwQv g (wd_0 g res) A) ([.ref (g.2.2.1 0), .int x1, .int x2, .int x3] : List Value).toArray s 0 0 A) (F0 m 0 ls []) from K9 s.heap [] hP hD hS hf
  clear hP hD hS hf
  intro H locs hP hD hS hf
  refine lv_aload_n (pc := 0) hx hb dX0_sell_0 rfl (lv_at hl 0 rfl) ?_
  refine lv_iload_n (pc := 1) hx hb dX0_sell_1 rfl (lv_at hl 1 rfl) ?_
  refine va_put (D := g.1) (ci := 0) (v := .int x1) (ty := .int) (C := RX0) (T := TX0) (N := 8) (pc := 2) hx hb hts (fun _ h => List.mem_cons_of_mem _ (List.mem_append_right _ h)) tyX0 tyX0_ok nmX0 hown hK hP hD hS 0 rfl rfl 4 (by decide) (hts _ q_X0_sell_0) (fun _ h9 => h9) rfl rfl rfl rfl (Nat.le_of_ble_eq_true rfl) dX0_sell_2 (fun H locs hP hD hS => ?_)
  have hP := u_0_0_4P S0 x1 hP
  have hD := u_0_0_4D S0 x1 hD
  refine lv_aload_n (pc := 5) hx hb dX0_sell_5 rfl (lv_at hl 0 rfl) ?_
  refine lv_iload_n (pc := 6) hx hb dX0_sell_6 rfl (lv_at hl 2 rfl) ?_
  refine va_put (D := g.1) (ci := 0) (v := .int x2) (ty := .int) (C := RX0) (T := TX0) (N := 8) (pc := 7) hx hb hts (fun _ h => List.mem_cons_of_mem _ (List.mem_append_right _ h)) tyX0 tyX0_ok nmX0 hown hK hP hD hS 0 rfl rfl 5 (by decide) (hts _ q_X0_sell_1) (fun _ h9 => h9) rfl rfl rfl rfl (Nat.le_of_ble_eq_true rfl) dX0_sell_7 (fun H locs hP hD hS => ?_)
  have hP := u_0_0_5P (sI S0 4 x1) x2 hP
  have hD := u_0_0_5D (sI S0 4 x1) x2 hD
  refine lv_aload_n (pc := 10) hx hb dX0_sell_10 rfl (lv_at hl 0 rfl) ?_
  refine lv_iload_n (pc := 11) hx hb dX0_sell_11 rfl (lv_at hl 3 rfl) ?_
  refine va_put (D := g.1) (ci := 0) (v := .int x3) (ty := .int) (C := RX0) (T := TX0) (N := 8) (pc := 12) hx hb hts (fun _ h => List.mem_cons_of_mem _ (List.mem_append_right _ h)) tyX0 tyX0_ok nmX0 hown hK hP hD hS 0 rfl rfl 6 (by decide) (hts _ q_X0_sell_2) (fun _ h9 => h9) rfl rfl rfl rfl (Nat.le_of_ble_eq_true rfl) dX0_sell_12 (fun H locs hP hD hS => ?_)
  have hP := u_0_0_6P (sI (sI S0 4 x1) 5 x2) x3 hP
  have hD := u_0_0_6D (sI (sI S0 4 x1) 5 x2) x3 hD
  have hf := Option.some.inj hf
  subst hf
  exact W.vret hx hb hr (fun t ht hW => ⟨⟨(), rfl, trivial, by rw [ht]; exact hP, va_K.moved hW.alike hK, hD⟩, hS.F ht⟩) hS.2.2 dX0_sell_15
theorem q_X0_isFull_0 : (.fieldLink RX0 34 "PictureCourt$Contract" "laws" "I" : Cond) ∈ wsX0_isFull := by decide +kernel
theorem h_X0_isFull : yX0_isFull.cls = RX0 ∧ yX0_isFull.cls ≠ "java/lang/invoke/MethodHandle" ∧ yX0_isFull.cls ≠ "java/lang/invoke/VarHandle" ∧ (parseMethodDescriptor yX0_isFull.desc).map (fun d => d.parameters.length) = some 0 := by decide +kernel
set_option maxHeartbeats 4000000 in
set_option maxRecDepth 100000 in
theorem c_X0_isFull (l : Launch) (g : En) (N : Nat) (S0 : St) (res : Int32) (hf : f_X0_isFull N S0 = some res) : Met l yX0_isFull wsX0_isFull { frames := 0, cells := 0, slots := 0, locals := 0 } (roP g (wd_0 g S0) [.ref (g.2.2.1 0)]) (vp_Si (fun r => r = res)) 0 0 (fun _ => False) := by
  refine Met.ofW (cc := cX0_isFull) (maxL := 1) (ret := (some .boolean)) (by decide) rfl ?_
  intro p e s m args below meth c s₁ B hml hv
  obtain ⟨rfl, hP, hK⟩ := hv
  have hx := B.exec
  have hb := B.bytes
  have hr := B.returns
  have hts := atoms_spec (ws := wsX0_isFull) B.pre
  have hown : s.vm.findClass RX0 = some m.cls := findClass_of_methodNamed B.named
  have hlk := B.notSynchronized
  have C : cxr g (wd_0 g S0) cX0_isFull 1 (some .boolean) wsX0_isFull RX0 p s m ([.ref (g.2.2.1 0)] : List Value).toArray meth c := ⟨⟨hx, hb, hr, hml, hown, hts, hlk⟩, hK, hP⟩
  have hl := lv_entry [.ref (g.2.2.1 0)] (n := 1) (Nat.le_of_ble_eq_true rfl)
  rw [lg_entry_eq]
  generalize (lg_sl [.ref (g.2.2.1 0)] ++ List.replicate (1 - (lg_sl [.ref (g.2.2.1 0)]).length) Slot.unset).toArray = ls at hl ⊢
  have hl : lv_has ls 1 [(0, .ref (g.2.2.1 0))] := hl
  unfold f_X0_isFull at hf
  refine lv_aload_n (pc := 0) hx hb dX0_isFull_0 rfl (lv_at hl 0 rfl) ?_
  refine va_get (D := g.1) (ci := 0) (v := .int (S0.1 7)) (C := RX0) (T := TX0) (N := 8) (pc := 1) hx hb hts (fun _ h => List.mem_cons_of_mem _ (List.mem_append_right _ h)) hown hK hP 0 rfl rfl 7 (by decide) (hts _ q_X0_isFull_0) (fun _ h9 => h9) rfl dX0_isFull_1 ?_
  refine lv_bipush (v := 8) (pc := 4) hx hb dX0_isFull_4 (by decide) ?_
  refine lv_icmp_lt (tgt := 13) (pc := 6) hx hb dX0_isFull_6 (by decide) (fun c6 => ?_) (fun c6 => ?_)
  · have hf := ft hf c6
    refine lv_iconst (v := 0) (pc := 13) hx hb dX0_isFull_13 (by decide) ?_
    have hf := Option.some.inj hf
    subst hf
    exact W.zret (v := 0) hx hb hr rfl (fun t ht hW => ⟨_, rfl, rfl, ht⟩) (fun _ h => by cases h) dX0_isFull_14
  · have hf := ff hf c6
    refine lv_iconst (v := 1) (pc := 9) hx hb dX0_isFull_9 (by decide) ?_
    refine lv_goto (tgt := 14) (pc := 10) hx hb dX0_isFull_10 (by decide) ?_
    have hf := Option.some.inj hf
    subst hf
    exact W.zret (v := 1) hx hb hr rfl (fun t ht hW => ⟨_, rfl, rfl, ht⟩) (fun _ h => by cases h) dX0_isFull_14
theorem q_X0_addLaw_0 : (.fieldLink RX0 9 "PictureCourt$Contract" "lawDays" "[I" : Cond) ∈ wsX0_addLaw := by decide +kernel
theorem q_X0_addLaw_1 : (.fieldLink RX0 34 "PictureCourt$Contract" "laws" "I" : Cond) ∈ wsX0_addLaw := by decide +kernel
theorem q_X0_addLaw_2 : (.fieldLink RX0 15 "PictureCourt$Contract" "limits" "[I" : Cond) ∈ wsX0_addLaw := by decide +kernel
theorem q_X0_addLaw_3 : (.fieldLink RX0 18 "PictureCourt$Contract" "bounds" "[I" : Cond) ∈ wsX0_addLaw := by decide +kernel
theorem q_X0_addLaw_4 : (.fieldLink RX0 21 "PictureCourt$Contract" "rates" "[I" : Cond) ∈ wsX0_addLaw := by decide +kernel
theorem h_X0_addLaw : yX0_addLaw.cls = RX0 ∧ yX0_addLaw.cls ≠ "java/lang/invoke/MethodHandle" ∧ yX0_addLaw.cls ≠ "java/lang/invoke/VarHandle" ∧ (parseMethodDescriptor yX0_addLaw.desc).map (fun d => d.parameters.length) = some 4 := by decide +kernel
set_option maxHeartbeats 4000000 in
set_option maxRecDepth 100000 in
theorem c_X0_addLaw (l : Launch) (g : En) (N : Nat) (sz : Nat) (S0 : St) (x1 : Int32) (x2 : Int32) (x3 : Int32) (x4 : Int32) (res : Int32 × St) (hf : f_X0_addLaw N S0 x1 x2 x3 x4 = some res) : Met l yX0_addLaw wsX0_addLaw { frames := 0, cells := 0, slots := 0, locals := 0 } (rwP g (wd_0 g S0) sz [.ref (g.2.2.1 0), .int x1, .int x2, .int x3, .int x4]) (rwQi g (wd_0 g (res.2)) (va_A (wd_0 g S0) sz) (res.1)) 0 0 (va_A (wd_0 g S0) sz) := by
  refine Met.ofW (cc := cX0_addLaw) (maxL := 5) (ret := (some .int)) (by decide) rfl ?_
  intro p e s m args below meth c s₁ B hml hv
  obtain ⟨rfl, hsz, hP, hK, hD0⟩ := hv
  have hx := B.exec
  have hb := B.bytes
  have hr := B.returns
  have hts := atoms_spec (ws := wsX0_addLaw) B.pre
  have hown : s.vm.findClass RX0 = some m.cls := findClass_of_methodNamed B.named
  have hlk := B.notSynchronized
  subst hsz
  have hD := hD0.self (sz := s.heap.size)
  generalize hAe : va_A (wd_0 g S0) s.heap.size = A at hD ⊢
  have hA : ∀ q : Nat, s.heap.size ≤ q → A q := fun q h => by rw [← hAe]; exact Or.inr h
  have hS : va_S A s.heap s.heap [] := va_S.rf
  have C : cxw g A cX0_addLaw 5 (some .int) wsX0_addLaw RX0 p s m ([.ref (g.2.2.1 0), .int x1, .int x2, .int x3, .int x4] : List Value).toArray meth c := ⟨⟨hx, hb, hr, hml, hown, hts, hlk⟩, hK, hA⟩
  have hl := lv_entry [.ref (g.2.2.1 0), .int x1, .int x2, .int x3, .int x4] (n := 5) (Nat.le_of_ble_eq_true rfl)
  rw [lg_entry_eq]
  generalize (lg_sl [.ref (g.2.2.1 0), .int x1, .int x2, .int x3, .int x4] ++ List.replicate (5 - (lg_sl [.ref (g.2.2.1 0), .int x1, .int x2, .int x3, .int x4]).length) Slot.unset).toArray = ls at hl ⊢
  have hl : lv_has ls 5 [(0, .ref (g.2.2.1 0)), (1, .int x1), (2, .int x2), (3, .int x3), (4, .int x4)] := hl
  unfold f_X0_addLaw at hf
  suffices K9 : ∀ (H : Heap) (locs : List Loc), va_P g.1 vwCl (wd_0 g S0) H → va_D A (wd_0 g S0) → va_S A s.heap H locs → (if inb (S0.1 7) 8 = true then (if inb (S0.1 7) 8 = true then (if inb (S0.1 7) 8 = true then (if inb (S0.1 7) 8 = true then some ((((S0.1 7) + 1) - 1), (sI (sA (sA (sA (sA S0 0 (upd (S0.2.2 0) (Int32.toNatClampNeg (S0.1 7)) x1)) 1 (upd (S0.2.2 1) (Int32.toNatClampNeg (S0.1 7)) x2)) 2 (upd (S0.2.2 2) (Int32.toNatClampNeg (S0.1 7)) x3)) 3 (upd (S0.2.2 3) (Int32.toNatClampNeg (S0.1 7)) x4)) 7 ((S0.1 7) + 1))) else none) else none) else none) else none) = some res → W p l e (headSpec wsX0_addLaw { frames := 0, cells := 0, slots := 0, locals := 0 }).room s m ([.ref (g.2.2.1 0), .int x1, .int x2, .int x3, .int x4] : List Value).toArray below meth c H locs 0 0 (MQ below (rwQi g (wd_0 g (res.2)) A (res.1)) ([.ref (g.2.2.1 0), .int x1, .int x2, .int x3, .int x4] : List Value).toArray s 0 0 A) (F0 m 0 ls []) from K9 s.heap [] hP hD hS hf
  clear hP hD hS hf
  intro H locs hP hD hS hf
  refine lv_aload_n (pc := 0) hx hb dX0_addLaw_0 rfl (lv_at hl 0 rfl) ?_
  refine va_get (D := g.1) (ci := 0) (v := .ref (g.2.2.2 0 0)) (C := RX0) (T := TX0) (N := 8) (pc := 1) hx hb hts (fun _ h => List.mem_cons_of_mem _ (List.mem_append_right _ h)) hown hK hP 0 rfl rfl 0 (by decide) (hts _ q_X0_addLaw_0) (fun _ h9 => h9) rfl dX0_addLaw_1 ?_
  refine lv_aload_n (pc := 4) hx hb dX0_addLaw_4 rfl (lv_at hl 0 rfl) ?_
  refine va_get (D := g.1) (ci := 0) (v := .int (S0.1 7)) (C := RX0) (T := TX0) (N := 8) (pc := 5) hx hb hts (fun _ h => List.mem_cons_of_mem _ (List.mem_append_right _ h)) hown hK hP 0 rfl rfl 7 (by decide) (hts _ q_X0_addLaw_1) (fun _ h9 => h9) rfl dX0_addLaw_5 ?_
  refine lv_iload_n (pc := 8) hx hb dX0_addLaw_8 rfl (lv_at hl 1 rfl) ?_
  obtain ⟨b9, hf⟩ := gdE hf
  refine va_iast (D := g.1) (tys := tyl g) (f := (S0.2.2 0)) (pc := 9) hx hb hK hP hD hS 1 0 rfl rfl (inbV b9) dX0_addLaw_9 (fun H locs hP hD hS => ?_)
  have hP := u_0_0_0P S0 (upd (S0.2.2 0) (Int32.toNatClampNeg (S0.1 7)) x1) hP
  have hD := u_0_0_0D S0 (upd (S0.2.2 0) (Int32.toNatClampNeg (S0.1 7)) x1) hD
  refine lv_aload_n (pc := 10) hx hb dX0_addLaw_10 rfl (lv_at hl 0 rfl) ?_
  refine va_get (D := g.1) (ci := 0) (v := .ref (g.2.2.2 0 1)) (C := RX0) (T := TX0) (N := 8) (pc := 11) hx hb hts (fun _ h => List.mem_cons_of_mem _ (List.mem_append_right _ h)) hown hK hP 0 rfl rfl 1 (by decide) (hts _ q_X0_addLaw_2) (fun _ h9 => h9) rfl dX0_addLaw_11 ?_
  refine lv_aload_n (pc := 14) hx hb dX0_addLaw_14 rfl (lv_at hl 0 rfl) ?_
  refine va_get (D := g.1) (ci := 0) (v := .int (S0.1 7)) (C := RX0) (T := TX0) (N := 8) (pc := 15) hx hb hts (fun _ h => List.mem_cons_of_mem _ (List.mem_append_right _ h)) hown hK hP 0 rfl rfl 7 (by decide) (hts _ q_X0_addLaw_1) (fun _ h9 => h9) rfl dX0_addLaw_15 ?_
  refine lv_iload_n (pc := 18) hx hb dX0_addLaw_18 rfl (lv_at hl 2 rfl) ?_
  obtain ⟨b19, hf⟩ := gdE hf
  refine va_iast (D := g.1) (tys := tyl g) (f := (S0.2.2 1)) (pc := 19) hx hb hK hP hD hS 2 0 rfl rfl (inbV b19) dX0_addLaw_19 (fun H locs hP hD hS => ?_)
  have hP := u_0_0_1P (sA S0 0 (upd (S0.2.2 0) (Int32.toNatClampNeg (S0.1 7)) x1)) (upd (S0.2.2 1) (Int32.toNatClampNeg (S0.1 7)) x2) hP
  have hD := u_0_0_1D (sA S0 0 (upd (S0.2.2 0) (Int32.toNatClampNeg (S0.1 7)) x1)) (upd (S0.2.2 1) (Int32.toNatClampNeg (S0.1 7)) x2) hD
  refine lv_aload_n (pc := 20) hx hb dX0_addLaw_20 rfl (lv_at hl 0 rfl) ?_
  refine va_get (D := g.1) (ci := 0) (v := .ref (g.2.2.2 0 2)) (C := RX0) (T := TX0) (N := 8) (pc := 21) hx hb hts (fun _ h => List.mem_cons_of_mem _ (List.mem_append_right _ h)) hown hK hP 0 rfl rfl 2 (by decide) (hts _ q_X0_addLaw_3) (fun _ h9 => h9) rfl dX0_addLaw_21 ?_
  refine lv_aload_n (pc := 24) hx hb dX0_addLaw_24 rfl (lv_at hl 0 rfl) ?_
  refine va_get (D := g.1) (ci := 0) (v := .int (S0.1 7)) (C := RX0) (T := TX0) (N := 8) (pc := 25) hx hb hts (fun _ h => List.mem_cons_of_mem _ (List.mem_append_right _ h)) hown hK hP 0 rfl rfl 7 (by decide) (hts _ q_X0_addLaw_1) (fun _ h9 => h9) rfl dX0_addLaw_25 ?_
  refine lv_iload_n (pc := 28) hx hb dX0_addLaw_28 rfl (lv_at hl 3 rfl) ?_
  obtain ⟨b29, hf⟩ := gdE hf
  refine va_iast (D := g.1) (tys := tyl g) (f := (S0.2.2 2)) (pc := 29) hx hb hK hP hD hS 3 0 rfl rfl (inbV b29) dX0_addLaw_29 (fun H locs hP hD hS => ?_)
  have hP := u_0_0_2P (sA (sA S0 0 (upd (S0.2.2 0) (Int32.toNatClampNeg (S0.1 7)) x1)) 1 (upd (S0.2.2 1) (Int32.toNatClampNeg (S0.1 7)) x2)) (upd (S0.2.2 2) (Int32.toNatClampNeg (S0.1 7)) x3) hP
  have hD := u_0_0_2D (sA (sA S0 0 (upd (S0.2.2 0) (Int32.toNatClampNeg (S0.1 7)) x1)) 1 (upd (S0.2.2 1) (Int32.toNatClampNeg (S0.1 7)) x2)) (upd (S0.2.2 2) (Int32.toNatClampNeg (S0.1 7)) x3) hD
  refine lv_aload_n (pc := 30) hx hb dX0_addLaw_30 rfl (lv_at hl 0 rfl) ?_
  refine va_get (D := g.1) (ci := 0) (v := .ref (g.2.2.2 0 3)) (C := RX0) (T := TX0) (N := 8) (pc := 31) hx hb hts (fun _ h => List.mem_cons_of_mem _ (List.mem_append_right _ h)) hown hK hP 0 rfl rfl 3 (by decide) (hts _ q_X0_addLaw_4) (fun _ h9 => h9) rfl dX0_addLaw_31 ?_
  refine lv_aload_n (pc := 34) hx hb dX0_addLaw_34 rfl (lv_at hl 0 rfl) ?_
  refine va_get (D := g.1) (ci := 0) (v := .int (S0.1 7)) (C := RX0) (T := TX0) (N := 8) (pc := 35) hx hb hts (fun _ h => List.mem_cons_of_mem _ (List.mem_append_right _ h)) hown hK hP 0 rfl rfl 7 (by decide) (hts _ q_X0_addLaw_1) (fun _ h9 => h9) rfl dX0_addLaw_35 ?_
  refine lv_iload (pc := 38) hx hb dX0_addLaw_38 (lv_at hl 4 rfl) ?_
  obtain ⟨b40, hf⟩ := gdE hf
  refine va_iast (D := g.1) (tys := tyl g) (f := (S0.2.2 3)) (pc := 40) hx hb hK hP hD hS 4 0 rfl rfl (inbV b40) dX0_addLaw_40 (fun H locs hP hD hS => ?_)
  have hP := u_0_0_3P (sA (sA (sA S0 0 (upd (S0.2.2 0) (Int32.toNatClampNeg (S0.1 7)) x1)) 1 (upd (S0.2.2 1) (Int32.toNatClampNeg (S0.1 7)) x2)) 2 (upd (S0.2.2 2) (Int32.toNatClampNeg (S0.1 7)) x3)) (upd (S0.2.2 3) (Int32.toNatClampNeg (S0.1 7)) x4) hP
  have hD := u_0_0_3D (sA (sA (sA S0 0 (upd (S0.2.2 0) (Int32.toNatClampNeg (S0.1 7)) x1)) 1 (upd (S0.2.2 1) (Int32.toNatClampNeg (S0.1 7)) x2)) 2 (upd (S0.2.2 2) (Int32.toNatClampNeg (S0.1 7)) x3)) (upd (S0.2.2 3) (Int32.toNatClampNeg (S0.1 7)) x4) hD
  refine lv_aload_n (pc := 41) hx hb dX0_addLaw_41 rfl (lv_at hl 0 rfl) ?_
  refine lv_dup (pc := 42) hx hb dX0_addLaw_42 rfl ?_
  refine va_get (D := g.1) (ci := 0) (v := .int (S0.1 7)) (C := RX0) (T := TX0) (N := 8) (pc := 43) hx hb hts (fun _ h => List.mem_cons_of_mem _ (List.mem_append_right _ h)) hown hK hP 0 rfl rfl 7 (by decide) (hts _ q_X0_addLaw_1) (fun _ h9 => h9) rfl dX0_addLaw_43 ?_
  refine lv_iconst (v := 1) (pc := 46) hx hb dX0_addLaw_46 (by decide) ?_
  refine lv_iadd (pc := 47) hx hb dX0_addLaw_47 ?_
  refine va_put (D := g.1) (ci := 0) (v := .int ((S0.1 7) + 1)) (ty := .int) (C := RX0) (T := TX0) (N := 8) (pc := 48) hx hb hts (fun _ h => List.mem_cons_of_mem _ (List.mem_append_right _ h)) tyX0 tyX0_ok nmX0 hown hK hP hD hS 0 rfl rfl 7 (by decide) (hts _ q_X0_addLaw_1) (fun _ h9 => h9) rfl rfl rfl rfl (Nat.le_of_ble_eq_true rfl) dX0_addLaw_48 (fun H locs hP hD hS => ?_)
  have hP := u_0_0_7P (sA (sA (sA (sA S0 0 (upd (S0.2.2 0) (Int32.toNatClampNeg (S0.1 7)) x1)) 1 (upd (S0.2.2 1) (Int32.toNatClampNeg (S0.1 7)) x2)) 2 (upd (S0.2.2 2) (Int32.toNatClampNeg (S0.1 7)) x3)) 3 (upd (S0.2.2 3) (Int32.toNatClampNeg (S0.1 7)) x4)) ((S0.1 7) + 1) hP
  have hD := u_0_0_7D (sA (sA (sA (sA S0 0 (upd (S0.2.2 0) (Int32.toNatClampNeg (S0.1 7)) x1)) 1 (upd (S0.2.2 1) (Int32.toNatClampNeg (S0.1 7)) x2)) 2 (upd (S0.2.2 2) (Int32.toNatClampNeg (S0.1 7)) x3)) 3 (upd (S0.2.2 3) (Int32.toNatClampNeg (S0.1 7)) x4)) ((S0.1 7) + 1) hD
  refine lv_aload_n (pc := 51) hx hb dX0_addLaw_51 rfl (lv_at hl 0 rfl) ?_
  refine va_get (D := g.1) (ci := 0) (v := .int ((S0.1 7) + 1)) (C := RX0) (T := TX0) (N := 8) (pc := 52) hx hb hts (fun _ h => List.mem_cons_of_mem _ (List.mem_append_right _ h)) hown hK hP 0 rfl rfl 7 (by decide) (hts _ q_X0_addLaw_1) (fun _ h9 => h9) rfl dX0_addLaw_52 ?_
  refine lv_iconst (v := 1) (pc := 55) hx hb dX0_addLaw_55 (by decide) ?_
  refine lv_isub (pc := 56) hx hb dX0_addLaw_56 ?_
  have hf := Option.some.inj hf
  subst hf
  exact W.iret (v := (((S0.1 7) + 1) - 1)) hx hb hr (fun t ht hW => ⟨⟨_, (), rfl, rfl, by rw [ht]; exact hP, va_K.moved hW.alike hK, hD⟩, hS.F ht⟩) hS.2.2 dX0_addLaw_57
theorem q_X0_lawInForce_0 : (.fieldLink RX0 9 "PictureCourt$Contract" "lawDays" "[I" : Cond) ∈ wsX0_lawInForce := by decide +kernel
theorem q_X0_lawInForce_1 : (.fieldLink RX0 24 "PictureCourt$Contract" "saleDay" "I" : Cond) ∈ wsX0_lawInForce := by decide +kernel
theorem q_X0_lawInForce_2 : (.fieldLink RX0 34 "PictureCourt$Contract" "laws" "I" : Cond) ∈ wsX0_lawInForce := by decide +kernel
theorem h_X0_lawInForce : yX0_lawInForce.cls = RX0 ∧ yX0_lawInForce.cls ≠ "java/lang/invoke/MethodHandle" ∧ yX0_lawInForce.cls ≠ "java/lang/invoke/VarHandle" ∧ (parseMethodDescriptor yX0_lawInForce.desc).map (fun d => d.parameters.length) = some 0 := by decide +kernel
set_option maxHeartbeats 4000000 in
set_option maxRecDepth 100000 in
theorem w_X0_lawInForce_59 {p : Program} {l : Launch} {e : Env} {s : State} {m : MethodId} {args : Array Value} {below : List Frame} {meth : Method} {c : Code} {g : En} {N : Nat} {S0 : St} {res : Int32} (C : cxr g (wd_0 g S0) cX0_lawInForce 4 (some .int) wsX0_lawInForce RX0 p s m args meth c) (k5 : Int32 → Int32 → Option (Int32)) (H5 : ∀ (ls : Array Slot) (x1 : Int32) (x2 : Int32), lv_has ls 4 [(0, .ref (g.2.2.1 0)), (1, .int x1), (2, .int x2)] → k5 x1 x2 = some res → W p l e (headSpec wsX0_lawInForce { frames := 0, cells := 0, slots := 0, locals := 0 }).room s m args below meth c s.heap [] 0 0 (MQ below (vp_Si (fun r => r = res)) args s 0 0 (fun _ => False)) (F0 m 5 ls [])) : ∀ (ls : Array Slot) (x1 : Int32) (x2 : Int32), lv_has ls 4 [(0, .ref (g.2.2.1 0)), (1, .int x1), (2, .int x2)] → f_X0_lawInForce_59 N S0 k5 x1 x2 = some res → W p l e (headSpec wsX0_lawInForce { frames := 0, cells := 0, slots := 0, locals := 0 }).room s m args below meth c s.heap [] 0 0 (MQ below (vp_Si (fun r => r = res)) args s 0 0 (fun _ => False)) (F0 m 59 ls []) := by
  intro ls x1 x2 hl hf
  obtain ⟨⟨hx, hb, hr, hml, hown, hts, hlk⟩, hK, hP⟩ := id C
  unfold f_X0_lawInForce_59 at hf
  refine lv_iinc (v := (x2 + 1)) (lv' := [(2, .int (x2 + 1)), (0, .ref (g.2.2.1 0)), (1, .int x1)]) (pc := 59) hx hb dX0_lawInForce_59 hl (k := 2) rfl rfl (by decide) rfl (fun ls hl => ?_)
  refine lv_goto (tgt := 5) (pc := 62) hx hb dX0_lawInForce_62 (by decide) ?_
  exact H5 ls x1 (x2 + 1) (lv_sub hl [1, 2, 0] rfl) hf
set_option maxHeartbeats 4000000 in
set_option maxRecDepth 100000 in
theorem w_X0_lawInForce_39 {p : Program} {l : Launch} {e : Env} {s : State} {m : MethodId} {args : Array Value} {below : List Frame} {meth : Method} {c : Code} {g : En} {N : Nat} {S0 : St} {res : Int32} (C : cxr g (wd_0 g S0) cX0_lawInForce 4 (some .int) wsX0_lawInForce RX0 p s m args meth c) (k5 : Int32 → Int32 → Option (Int32)) (H5 : ∀ (ls : Array Slot) (x1 : Int32) (x2 : Int32), lv_has ls 4 [(0, .ref (g.2.2.1 0)), (1, .int x1), (2, .int x2)] → k5 x1 x2 = some res → W p l e (headSpec wsX0_lawInForce { frames := 0, cells := 0, slots := 0, locals := 0 }).room s m args below meth c s.heap [] 0 0 (MQ below (vp_Si (fun r => r = res)) args s 0 0 (fun _ => False)) (F0 m 5 ls [])) : ∀ (ls : Array Slot) (x1 : Int32) (x2 : Int32) (t0 : Int32), lv_has ls 4 [(0, .ref (g.2.2.1 0)), (1, .int x1), (2, .int x2)] → f_X0_lawInForce_39 N S0 k5 x1 x2 t0 = some res → W p l e (headSpec wsX0_lawInForce { frames := 0, cells := 0, slots := 0, locals := 0 }).room s m args below meth c s.heap [] 0 0 (MQ below (vp_Si (fun r => r = res)) args s 0 0 (fun _ => False)) (F0 m 39 ls [.int t0]) := by
  intro ls x1 x2 t0 hl hf
  obtain ⟨⟨hx, hb, hr, hml, hown, hts, hlk⟩, hK, hP⟩ := id C
  unfold f_X0_lawInForce_39 at hf
  refine lv_istore_n (lv' := [(3, .int t0), (0, .ref (g.2.2.1 0)), (1, .int x1), (2, .int x2)]) (pc := 39) hx hb dX0_lawInForce_39 rfl hl (by decide) rfl (fun ls hl => ?_)
  refine lv_aload_n (pc := 40) hx hb dX0_lawInForce_40 rfl (lv_at hl 1 rfl) ?_
  refine va_get (D := g.1) (ci := 0) (v := .ref (g.2.2.2 0 0)) (C := RX0) (T := TX0) (N := 8) (pc := 41) hx hb hts (fun _ h => List.mem_cons_of_mem _ (List.mem_append_right _ h)) hown hK hP 0 rfl rfl 0 (by decide) (hts _ q_X0_lawInForce_0) (fun _ h9 => h9) rfl dX0_lawInForce_41 ?_
  refine lv_iload_n (pc := 44) hx hb dX0_lawInForce_44 rfl (lv_at hl 3 rfl) ?_
  obtain ⟨b45, hf⟩ := gdE hf
  refine va_iald (D := g.1) (tys := tyl g) (f := (S0.2.2 0)) (pc := 45) hx hb hK hP 1 0 rfl rfl (inbV b45) dX0_lawInForce_45 ?_
  refine lv_aload_n (pc := 46) hx hb dX0_lawInForce_46 rfl (lv_at hl 1 rfl) ?_
  refine va_get (D := g.1) (ci := 0) (v := .int (S0.1 4)) (C := RX0) (T := TX0) (N := 8) (pc := 47) hx hb hts (fun _ h => List.mem_cons_of_mem _ (List.mem_append_right _ h)) hown hK hP 0 rfl rfl 4 (by decide) (hts _ q_X0_lawInForce_1) (fun _ h9 => h9) rfl dX0_lawInForce_47 ?_
  refine lv_icmp_gt (tgt := 59) (pc := 50) hx hb dX0_lawInForce_50 (by decide) (fun c50 => ?_) (fun c50 => ?_)
  · have hf := ft hf c50
    exact w_X0_lawInForce_59 C k5 H5 ls x1 x2 (lv_sub hl [1, 2, 3] rfl) hf
  · have hf := ff hf c50
    refine lv_iload_n (pc := 53) hx hb dX0_lawInForce_53 rfl (lv_at hl 0 rfl) ?_
    refine lv_if_eq (tgt := 59) (pc := 54) hx hb dX0_lawInForce_54 (by decide) (fun c54 => ?_) (fun c54 => ?_)
    · have hf := ft hf c54
      exact w_X0_lawInForce_59 C k5 H5 ls x1 x2 (lv_sub hl [1, 2, 3] rfl) hf
    · have hf := ff hf c54
      refine lv_iload_n (pc := 57) hx hb dX0_lawInForce_57 rfl (lv_at hl 3 rfl) ?_
      refine lv_istore_n (lv' := [(1, .int x2), (3, .int t0), (0, .ref (g.2.2.1 0)), (2, .int x2)]) (pc := 58) hx hb dX0_lawInForce_58 rfl hl (by decide) rfl (fun ls hl => ?_)
      exact w_X0_lawInForce_59 C k5 H5 ls x2 x2 (lv_sub hl [2, 0, 3] rfl) hf
set_option maxHeartbeats 4000000 in
set_option maxRecDepth 100000 in
theorem w_X0_lawInForce_34 {p : Program} {l : Launch} {e : Env} {s : State} {m : MethodId} {args : Array Value} {below : List Frame} {meth : Method} {c : Code} {g : En} {N : Nat} {S0 : St} {res : Int32} (C : cxr g (wd_0 g S0) cX0_lawInForce 4 (some .int) wsX0_lawInForce RX0 p s m args meth c) (k5 : Int32 → Int32 → Option (Int32)) (H5 : ∀ (ls : Array Slot) (x1 : Int32) (x2 : Int32), lv_has ls 4 [(0, .ref (g.2.2.1 0)), (1, .int x1), (2, .int x2)] → k5 x1 x2 = some res → W p l e (headSpec wsX0_lawInForce { frames := 0, cells := 0, slots := 0, locals := 0 }).room s m args below meth c s.heap [] 0 0 (MQ below (vp_Si (fun r => r = res)) args s 0 0 (fun _ => False)) (F0 m 5 ls [])) : ∀ (ls : Array Slot) (x1 : Int32) (x2 : Int32), lv_has ls 4 [(0, .ref (g.2.2.1 0)), (1, .int x1), (2, .int x2)] → f_X0_lawInForce_34 N S0 k5 x1 x2 = some res → W p l e (headSpec wsX0_lawInForce { frames := 0, cells := 0, slots := 0, locals := 0 }).room s m args below meth c s.heap [] 0 0 (MQ below (vp_Si (fun r => r = res)) args s 0 0 (fun _ => False)) (F0 m 34 ls []) := by
  intro ls x1 x2 hl hf
  obtain ⟨⟨hx, hb, hr, hml, hown, hts, hlk⟩, hK, hP⟩ := id C
  unfold f_X0_lawInForce_34 at hf
  refine lv_iconst (v := 1) (pc := 34) hx hb dX0_lawInForce_34 (by decide) ?_
  refine lv_goto (tgt := 39) (pc := 35) hx hb dX0_lawInForce_35 (by decide) ?_
  exact w_X0_lawInForce_39 C k5 H5 ls x1 x2 1 (lv_sub hl [0, 1, 2] rfl) hf
set_option maxHeartbeats 4000000 in
set_option maxRecDepth 100000 in
theorem w_X0_lawInForce_5_b {p : Program} {l : Launch} {e : Env} {s : State} {m : MethodId} {args : Array Value} {below : List Frame} {meth : Method} {c : Code} {g : En} {N : Nat} {S0 : St} {res : Int32} (C : cxr g (wd_0 g S0) cX0_lawInForce 4 (some .int) wsX0_lawInForce RX0 p s m args meth c) (k5 : Int32 → Int32 → Option (Int32)) (H5 : ∀ (ls : Array Slot) (x1 : Int32) (x2 : Int32), lv_has ls 4 [(0, .ref (g.2.2.1 0)), (1, .int x1), (2, .int x2)] → k5 x1 x2 = some res → W p l e (headSpec wsX0_lawInForce { frames := 0, cells := 0, slots := 0, locals := 0 }).room s m args below meth c s.heap [] 0 0 (MQ below (vp_Si (fun r => r = res)) args s 0 0 (fun _ => False)) (F0 m 5 ls [])) : ∀ (ls : Array Slot) (x1 : Int32) (x2 : Int32), lv_has ls 4 [(0, .ref (g.2.2.1 0)), (1, .int x1), (2, .int x2)] → f_X0_lawInForce_5_b N S0  k5 x1 x2 = some res → W p l e (headSpec wsX0_lawInForce { frames := 0, cells := 0, slots := 0, locals := 0 }).room s m args below meth c s.heap [] 0 0 (MQ below (vp_Si (fun r => r = res)) args s 0 0 (fun _ => False)) (F0 m 5 ls []) := by
  intro ls x1 x2 hl hf
  obtain ⟨⟨hx, hb, hr, hml, hown, hts, hlk⟩, hK, hP⟩ := id C
  unfold f_X0_lawInForce_5_b at hf
  refine lv_iload_n (pc := 5) hx hb dX0_lawInForce_5 rfl (lv_at hl 2 rfl) ?_
  refine lv_aload_n (pc := 6) hx hb dX0_lawInForce_6 rfl (lv_at hl 0 rfl) ?_
  refine va_get (D := g.1) (ci := 0) (v := .int (S0.1 7)) (C := RX0) (T := TX0) (N := 8) (pc := 7) hx hb hts (fun _ h => List.mem_cons_of_mem _ (List.mem_append_right _ h)) hown hK hP 0 rfl rfl 7 (by decide) (hts _ q_X0_lawInForce_2) (fun _ h9 => h9) rfl dX0_lawInForce_7 ?_
  refine lv_icmp_ge (tgt := 65) (pc := 10) hx hb dX0_lawInForce_10 (by decide) (fun c10 => ?_) (fun c10 => ?_)
  · have hf := ft hf c10
    refine lv_iload_n (pc := 65) hx hb dX0_lawInForce_65 rfl (lv_at hl 1 rfl) ?_
    have hf := Option.some.inj hf
    subst hf
    exact W.iret (v := x1) hx hb hr (fun t ht hW => ⟨_, rfl, rfl, ht⟩) (fun _ h => by cases h) dX0_lawInForce_66
  · have hf := ff hf c10
    refine lv_iload_n (pc := 13) hx hb dX0_lawInForce_13 rfl (lv_at hl 1 rfl) ?_
    refine lv_bipush (v := (-9)) (pc := 14) hx hb dX0_lawInForce_14 (by decide) ?_
    refine lv_icmp_eq (tgt := 34) (pc := 16) hx hb dX0_lawInForce_16 (by decide) (fun c16 => ?_) (fun c16 => ?_)
    · have hf := ft hf c16
      exact w_X0_lawInForce_34 C k5 H5 ls x1 x2 (lv_sub hl [0, 1, 2] rfl) hf
    · have hf := ff hf c16
      refine lv_aload_n (pc := 19) hx hb dX0_lawInForce_19 rfl (lv_at hl 0 rfl) ?_
      refine va_get (D := g.1) (ci := 0) (v := .ref (g.2.2.2 0 0)) (C := RX0) (T := TX0) (N := 8) (pc := 20) hx hb hts (fun _ h => List.mem_cons_of_mem _ (List.mem_append_right _ h)) hown hK hP 0 rfl rfl 0 (by decide) (hts _ q_X0_lawInForce_0) (fun _ h9 => h9) rfl dX0_lawInForce_20 ?_
      refine lv_iload_n (pc := 23) hx hb dX0_lawInForce_23 rfl (lv_at hl 2 rfl) ?_
      obtain ⟨b24, hf⟩ := gdE hf
      refine va_iald (D := g.1) (tys := tyl g) (f := (S0.2.2 0)) (pc := 24) hx hb hK hP 1 0 rfl rfl (inbV b24) dX0_lawInForce_24 ?_
      refine lv_aload_n (pc := 25) hx hb dX0_lawInForce_25 rfl (lv_at hl 0 rfl) ?_
      refine va_get (D := g.1) (ci := 0) (v := .ref (g.2.2.2 0 0)) (C := RX0) (T := TX0) (N := 8) (pc := 26) hx hb hts (fun _ h => List.mem_cons_of_mem _ (List.mem_append_right _ h)) hown hK hP 0 rfl rfl 0 (by decide) (hts _ q_X0_lawInForce_0) (fun _ h9 => h9) rfl dX0_lawInForce_26 ?_
      refine lv_iload_n (pc := 29) hx hb dX0_lawInForce_29 rfl (lv_at hl 1 rfl) ?_
      obtain ⟨b30, hf⟩ := gdE hf
      refine va_iald (D := g.1) (tys := tyl g) (f := (S0.2.2 0)) (pc := 30) hx hb hK hP 1 0 rfl rfl (inbV b30) dX0_lawInForce_30 ?_
      refine lv_icmp_lt (tgt := 38) (pc := 31) hx hb dX0_lawInForce_31 (by decide) (fun c31 => ?_) (fun c31 => ?_)
      · have hf := ft hf c31
        refine lv_iconst (v := 0) (pc := 38) hx hb dX0_lawInForce_38 (by decide) ?_
        exact w_X0_lawInForce_39 C k5 H5 ls x1 x2 0 (lv_sub hl [0, 1, 2] rfl) hf
      · have hf := ff hf c31
        exact w_X0_lawInForce_34 C k5 H5 ls x1 x2 (lv_sub hl [0, 1, 2] rfl) hf
set_option maxHeartbeats 4000000 in
set_option maxRecDepth 100000 in
theorem w_X0_lawInForce_5 {p : Program} {l : Launch} {e : Env} {s : State} {m : MethodId} {args : Array Value} {below : List Frame} {meth : Method} {c : Code} {g : En} {N : Nat} {S0 : St} {res : Int32} (C : cxr g (wd_0 g S0) cX0_lawInForce 4 (some .int) wsX0_lawInForce RX0 p s m args meth c) : ∀ (n : Nat), ∀ (ls : Array Slot) (x1 : Int32) (x2 : Int32), lv_has ls 4 [(0, .ref (g.2.2.1 0)), (1, .int x1), (2, .int x2)] → f_X0_lawInForce_5 N S0  n x1 x2 = some res → W p l e (headSpec wsX0_lawInForce { frames := 0, cells := 0, slots := 0, locals := 0 }).room s m args below meth c s.heap [] 0 0 (MQ below (vp_Si (fun r => r = res)) args s 0 0 (fun _ => False)) (F0 m 5 ls []) := by
  intro n
  induction n with
  | zero =>
    intro ls x1 x2 hl hf
    have hf : (none : Option (Int32)) = some res := hf
    cases hf
  | succ n ih =>
    intro ls x1 x2 hl hf
    exact w_X0_lawInForce_5_b C  (fun y0 y1 => f_X0_lawInForce_5 N S0  n y0 y1) ih ls x1 x2 hl hf
set_option maxHeartbeats 4000000 in
set_option maxRecDepth 100000 in
theorem c_X0_lawInForce (l : Launch) (g : En) (N : Nat) (S0 : St) (res : Int32) (hf : f_X0_lawInForce N S0 = some res) : Met l yX0_lawInForce wsX0_lawInForce { frames := 0, cells := 0, slots := 0, locals := 0 } (roP g (wd_0 g S0) [.ref (g.2.2.1 0)]) (vp_Si (fun r => r = res)) 0 0 (fun _ => False) := by
  refine Met.ofW (cc := cX0_lawInForce) (maxL := 4) (ret := (some .int)) (by decide) rfl ?_
  intro p e s m args below meth c s₁ B hml hv
  obtain ⟨rfl, hP, hK⟩ := hv
  have hx := B.exec
  have hb := B.bytes
  have hr := B.returns
  have hts := atoms_spec (ws := wsX0_lawInForce) B.pre
  have hown : s.vm.findClass RX0 = some m.cls := findClass_of_methodNamed B.named
  have hlk := B.notSynchronized
  have C : cxr g (wd_0 g S0) cX0_lawInForce 4 (some .int) wsX0_lawInForce RX0 p s m ([.ref (g.2.2.1 0)] : List Value).toArray meth c := ⟨⟨hx, hb, hr, hml, hown, hts, hlk⟩, hK, hP⟩
  have hl := lv_entry [.ref (g.2.2.1 0)] (n := 4) (Nat.le_of_ble_eq_true rfl)
  rw [lg_entry_eq]
  generalize (lg_sl [.ref (g.2.2.1 0)] ++ List.replicate (4 - (lg_sl [.ref (g.2.2.1 0)]).length) Slot.unset).toArray = ls at hl ⊢
  have hl : lv_has ls 4 [(0, .ref (g.2.2.1 0))] := hl
  unfold f_X0_lawInForce at hf
  refine lv_bipush (v := (-9)) (pc := 0) hx hb dX0_lawInForce_0 (by decide) ?_
  refine lv_istore_n (lv' := [(1, .int (-9)), (0, .ref (g.2.2.1 0))]) (pc := 2) hx hb dX0_lawInForce_2 rfl hl (by decide) rfl (fun ls hl => ?_)
  refine lv_iconst (v := 0) (pc := 3) hx hb dX0_lawInForce_3 (by decide) ?_
  refine lv_istore_n (lv' := [(2, .int 0), (1, .int (-9)), (0, .ref (g.2.2.1 0))]) (pc := 4) hx hb dX0_lawInForce_4 rfl hl (by decide) rfl (fun ls hl => ?_)
  exact w_X0_lawInForce_5 C  N ls (-9) 0 (lv_sub hl [2, 1, 0] rfl) hf
theorem q_X0_isTooLate_0 : (.fieldLink RX0 24 "PictureCourt$Contract" "saleDay" "I" : Cond) ∈ wsX0_isTooLate := by decide +kernel
theorem q_X0_isTooLate_1 : (.fieldLink RX0 15 "PictureCourt$Contract" "limits" "[I" : Cond) ∈ wsX0_isTooLate := by decide +kernel
theorem h_X0_isTooLate : yX0_isTooLate.cls = RX0 ∧ yX0_isTooLate.cls ≠ "java/lang/invoke/MethodHandle" ∧ yX0_isTooLate.cls ≠ "java/lang/invoke/VarHandle" ∧ (parseMethodDescriptor yX0_isTooLate.desc).map (fun d => d.parameters.length) = some 2 := by decide +kernel
set_option maxHeartbeats 4000000 in
set_option maxRecDepth 100000 in
theorem c_X0_isTooLate (l : Launch) (g : En) (N : Nat) (S0 : St) (x1 : Int32) (x2 : Int32) (res : Int32) (hf : f_X0_isTooLate N S0 x1 x2 = some res) : Met l yX0_isTooLate wsX0_isTooLate { frames := 0, cells := 0, slots := 0, locals := 0 } (roP g (wd_0 g S0) [.ref (g.2.2.1 0), .int x1, .int x2]) (vp_Si (fun r => r = res)) 0 0 (fun _ => False) := by
  refine Met.ofW (cc := cX0_isTooLate) (maxL := 3) (ret := (some .boolean)) (by decide) rfl ?_
  intro p e s m args below meth c s₁ B hml hv
  obtain ⟨rfl, hP, hK⟩ := hv
  have hx := B.exec
  have hb := B.bytes
  have hr := B.returns
  have hts := atoms_spec (ws := wsX0_isTooLate) B.pre
  have hown : s.vm.findClass RX0 = some m.cls := findClass_of_methodNamed B.named
  have hlk := B.notSynchronized
  have C : cxr g (wd_0 g S0) cX0_isTooLate 3 (some .boolean) wsX0_isTooLate RX0 p s m ([.ref (g.2.2.1 0), .int x1, .int x2] : List Value).toArray meth c := ⟨⟨hx, hb, hr, hml, hown, hts, hlk⟩, hK, hP⟩
  have hl := lv_entry [.ref (g.2.2.1 0), .int x1, .int x2] (n := 3) (Nat.le_of_ble_eq_true rfl)
  rw [lg_entry_eq]
  generalize (lg_sl [.ref (g.2.2.1 0), .int x1, .int x2] ++ List.replicate (3 - (lg_sl [.ref (g.2.2.1 0), .int x1, .int x2]).length) Slot.unset).toArray = ls at hl ⊢
  have hl : lv_has ls 3 [(0, .ref (g.2.2.1 0)), (1, .int x1), (2, .int x2)] := hl
  unfold f_X0_isTooLate at hf
  refine lv_iload_n (pc := 0) hx hb dX0_isTooLate_0 rfl (lv_at hl 2 rfl) ?_
  refine lv_aload_n (pc := 1) hx hb dX0_isTooLate_1 rfl (lv_at hl 0 rfl) ?_
  refine va_get (D := g.1) (ci := 0) (v := .int (S0.1 4)) (C := RX0) (T := TX0) (N := 8) (pc := 2) hx hb hts (fun _ h => List.mem_cons_of_mem _ (List.mem_append_right _ h)) hown hK hP 0 rfl rfl 4 (by decide) (hts _ q_X0_isTooLate_0) (fun _ h9 => h9) rfl dX0_isTooLate_2 ?_
  refine lv_isub (pc := 5) hx hb dX0_isTooLate_5 ?_
  refine lv_aload_n (pc := 6) hx hb dX0_isTooLate_6 rfl (lv_at hl 0 rfl) ?_
  refine va_get (D := g.1) (ci := 0) (v := .ref (g.2.2.2 0 1)) (C := RX0) (T := TX0) (N := 8) (pc := 7) hx hb hts (fun _ h => List.mem_cons_of_mem _ (List.mem_append_right _ h)) hown hK hP 0 rfl rfl 1 (by decide) (hts _ q_X0_isTooLate_1) (fun _ h9 => h9) rfl dX0_isTooLate_7 ?_
  refine lv_iload_n (pc := 10) hx hb dX0_isTooLate_10 rfl (lv_at hl 1 rfl) ?_
  obtain ⟨b11, hf⟩ := gdE hf
  refine va_iald (D := g.1) (tys := tyl g) (f := (S0.2.2 1)) (pc := 11) hx hb hK hP 2 0 rfl rfl (inbV b11) dX0_isTooLate_11 ?_
  refine lv_icmp_le (tgt := 19) (pc := 12) hx hb dX0_isTooLate_12 (by decide) (fun c12 => ?_) (fun c12 => ?_)
  · have hf := ft hf c12
    refine lv_iconst (v := 0) (pc := 19) hx hb dX0_isTooLate_19 (by decide) ?_
    have hf := Option.some.inj hf
    subst hf
    exact W.zret (v := 0) hx hb hr rfl (fun t ht hW => ⟨_, rfl, rfl, ht⟩) (fun _ h => by cases h) dX0_isTooLate_20
  · have hf := ff hf c12
    refine lv_iconst (v := 1) (pc := 15) hx hb dX0_isTooLate_15 (by decide) ?_
    refine lv_goto (tgt := 20) (pc := 16) hx hb dX0_isTooLate_16 (by decide) ?_
    have hf := Option.some.inj hf
    subst hf
    exact W.zret (v := 1) hx hb hr rfl (fun t ht hW => ⟨_, rfl, rfl, ht⟩) (fun _ h => by cases h) dX0_isTooLate_20
theorem q_X0_isBelow_0 : (.constantLong RX0 37 100 : Cond) ∈ wsX0_isBelow := by decide +kernel
theorem q_X0_isBelow_1 : (.fieldLink RX0 18 "PictureCourt$Contract" "bounds" "[I" : Cond) ∈ wsX0_isBelow := by decide +kernel
theorem h_X0_isBelow : yX0_isBelow.cls = RX0 ∧ yX0_isBelow.cls ≠ "java/lang/invoke/MethodHandle" ∧ yX0_isBelow.cls ≠ "java/lang/invoke/VarHandle" ∧ (parseMethodDescriptor yX0_isBelow.desc).map (fun d => d.parameters.length) = some 3 := by decide +kernel
set_option maxHeartbeats 4000000 in
set_option maxRecDepth 100000 in
theorem c_X0_isBelow (l : Launch) (g : En) (N : Nat) (S0 : St) (x1 : Int32) (x2 : Int64) (x4 : Int64) (res : Int32) (hf : f_X0_isBelow N S0 x1 x2 x4 = some res) : Met l yX0_isBelow wsX0_isBelow { frames := 0, cells := 0, slots := 0, locals := 0 } (roP g (wd_0 g S0) [.ref (g.2.2.1 0), .int x1, .long x2, .long x4]) (vp_Si (fun r => r = res)) 0 0 (fun _ => False) := by
  refine Met.ofW (cc := cX0_isBelow) (maxL := 6) (ret := (some .boolean)) (by decide) rfl ?_
  intro p e s m args below meth c s₁ B hml hv
  obtain ⟨rfl, hP, hK⟩ := hv
  have hx := B.exec
  have hb := B.bytes
  have hr := B.returns
  have hts := atoms_spec (ws := wsX0_isBelow) B.pre
  have hown : s.vm.findClass RX0 = some m.cls := findClass_of_methodNamed B.named
  have hlk := B.notSynchronized
  have C : cxr g (wd_0 g S0) cX0_isBelow 6 (some .boolean) wsX0_isBelow RX0 p s m ([.ref (g.2.2.1 0), .int x1, .long x2, .long x4] : List Value).toArray meth c := ⟨⟨hx, hb, hr, hml, hown, hts, hlk⟩, hK, hP⟩
  have hl := lv_entry [.ref (g.2.2.1 0), .int x1, .long x2, .long x4] (n := 6) (Nat.le_of_ble_eq_true rfl)
  rw [lg_entry_eq]
  generalize (lg_sl [.ref (g.2.2.1 0), .int x1, .long x2, .long x4] ++ List.replicate (6 - (lg_sl [.ref (g.2.2.1 0), .int x1, .long x2, .long x4]).length) Slot.unset).toArray = ls at hl ⊢
  have hl : lv_has ls 6 [(0, .ref (g.2.2.1 0)), (1, .int x1), (2, .long x2), (4, .long x4)] := hl
  unfold f_X0_isBelow at hf
  refine lv_ldc2 (v := 100) (pc := 0) hx hb hown (hts _ q_X0_isBelow_0) dX0_isBelow_0 ?_
  refine lv_lload_n (pc := 3) hx hb dX0_isBelow_3 rfl (lv_at hl 2 rfl) ?_
  refine lv_lmul (pc := 4) hx hb dX0_isBelow_4 ?_
  refine lv_aload_n (pc := 5) hx hb dX0_isBelow_5 rfl (lv_at hl 0 rfl) ?_
  refine va_get (D := g.1) (ci := 0) (v := .ref (g.2.2.2 0 2)) (C := RX0) (T := TX0) (N := 8) (pc := 6) hx hb hts (fun _ h => List.mem_cons_of_mem _ (List.mem_append_right _ h)) hown hK hP 0 rfl rfl 2 (by decide) (hts _ q_X0_isBelow_1) (fun _ h9 => h9) rfl dX0_isBelow_6 ?_
  refine lv_iload_n (pc := 9) hx hb dX0_isBelow_9 rfl (lv_at hl 1 rfl) ?_
  obtain ⟨b10, hf⟩ := gdE hf
  refine va_iald (D := g.1) (tys := tyl g) (f := (S0.2.2 2)) (pc := 10) hx hb hK hP 3 0 rfl rfl (inbV b10) dX0_isBelow_10 ?_
  refine lv_i2l (pc := 11) hx hb dX0_isBelow_11 rfl ?_
  refine lv_lload (pc := 12) hx hb dX0_isBelow_12 (lv_at hl 3 rfl) ?_
  refine lv_lmul (pc := 14) hx hb dX0_isBelow_14 ?_
  refine W.lcmp (pc := 15) hx hb dX0_isBelow_15 ?_
  refine lv_if_ge (tgt := 23) (pc := 16) hx hb dX0_isBelow_16 (by decide) (fun c16 => ?_) (fun c16 => ?_)
  · have hf := ft hf c16
    refine lv_iconst (v := 0) (pc := 23) hx hb dX0_isBelow_23 (by decide) ?_
    have hf := Option.some.inj hf
    subst hf
    exact W.zret (v := 0) hx hb hr rfl (fun t ht hW => ⟨_, rfl, rfl, ht⟩) (fun _ h => by cases h) dX0_isBelow_24
  · have hf := ff hf c16
    refine lv_iconst (v := 1) (pc := 19) hx hb dX0_isBelow_19 (by decide) ?_
    refine lv_goto (tgt := 24) (pc := 20) hx hb dX0_isBelow_20 (by decide) ?_
    have hf := Option.some.inj hf
    subst hf
    exact W.zret (v := 1) hx hb hr rfl (fun t ht hW => ⟨_, rfl, rfl, ht⟩) (fun _ h => by cases h) dX0_isBelow_24
theorem q_X0_paidBack_0 : (.fieldLink RX0 28 "PictureCourt$Contract" "price" "I" : Cond) ∈ wsX0_paidBack := by decide +kernel
theorem q_X0_paidBack_1 : (.fieldLink RX0 21 "PictureCourt$Contract" "rates" "[I" : Cond) ∈ wsX0_paidBack := by decide +kernel
theorem q_X0_paidBack_2 : (.fieldLink RX0 24 "PictureCourt$Contract" "saleDay" "I" : Cond) ∈ wsX0_paidBack := by decide +kernel
theorem q_X0_paidBack_3 : (.constantLong RX0 39 36500 : Cond) ∈ wsX0_paidBack := by decide +kernel
theorem h_X0_paidBack : yX0_paidBack.cls = RX0 ∧ yX0_paidBack.cls ≠ "java/lang/invoke/MethodHandle" ∧ yX0_paidBack.cls ≠ "java/lang/invoke/VarHandle" ∧ (parseMethodDescriptor yX0_paidBack.desc).map (fun d => d.parameters.length) = some 2 := by decide +kernel
set_option maxHeartbeats 4000000 in
set_option maxRecDepth 100000 in
theorem c_X0_paidBack (l : Launch) (g : En) (N : Nat) (S0 : St) (x1 : Int32) (x2 : Int32) (res : Int32) (hf : f_X0_paidBack N S0 x1 x2 = some res) : Met l yX0_paidBack wsX0_paidBack { frames := 0, cells := 0, slots := 0, locals := 0 } (roP g (wd_0 g S0) [.ref (g.2.2.1 0), .int x1, .int x2]) (vp_Si (fun r => r = res)) 0 0 (fun _ => False) := by
  refine Met.ofW (cc := cX0_paidBack) (maxL := 5) (ret := (some .int)) (by decide) rfl ?_
  intro p e s m args below meth c s₁ B hml hv
  obtain ⟨rfl, hP, hK⟩ := hv
  have hx := B.exec
  have hb := B.bytes
  have hr := B.returns
  have hts := atoms_spec (ws := wsX0_paidBack) B.pre
  have hown : s.vm.findClass RX0 = some m.cls := findClass_of_methodNamed B.named
  have hlk := B.notSynchronized
  have C : cxr g (wd_0 g S0) cX0_paidBack 5 (some .int) wsX0_paidBack RX0 p s m ([.ref (g.2.2.1 0), .int x1, .int x2] : List Value).toArray meth c := ⟨⟨hx, hb, hr, hml, hown, hts, hlk⟩, hK, hP⟩
  have hl := lv_entry [.ref (g.2.2.1 0), .int x1, .int x2] (n := 5) (Nat.le_of_ble_eq_true rfl)
  rw [lg_entry_eq]
  generalize (lg_sl [.ref (g.2.2.1 0), .int x1, .int x2] ++ List.replicate (5 - (lg_sl [.ref (g.2.2.1 0), .int x1, .int x2]).length) Slot.unset).toArray = ls at hl ⊢
  have hl : lv_has ls 5 [(0, .ref (g.2.2.1 0)), (1, .int x1), (2, .int x2)] := hl
  unfold f_X0_paidBack at hf
  refine lv_aload_n (pc := 0) hx hb dX0_paidBack_0 rfl (lv_at hl 0 rfl) ?_
  refine va_get (D := g.1) (ci := 0) (v := .int (S0.1 5)) (C := RX0) (T := TX0) (N := 8) (pc := 1) hx hb hts (fun _ h => List.mem_cons_of_mem _ (List.mem_append_right _ h)) hown hK hP 0 rfl rfl 5 (by decide) (hts _ q_X0_paidBack_0) (fun _ h9 => h9) rfl dX0_paidBack_1 ?_
  refine lv_i2l (pc := 4) hx hb dX0_paidBack_4 rfl ?_
  refine lv_aload_n (pc := 5) hx hb dX0_paidBack_5 rfl (lv_at hl 0 rfl) ?_
  refine va_get (D := g.1) (ci := 0) (v := .ref (g.2.2.2 0 3)) (C := RX0) (T := TX0) (N := 8) (pc := 6) hx hb hts (fun _ h => List.mem_cons_of_mem _ (List.mem_append_right _ h)) hown hK hP 0 rfl rfl 3 (by decide) (hts _ q_X0_paidBack_1) (fun _ h9 => h9) rfl dX0_paidBack_6 ?_
  refine lv_iload_n (pc := 9) hx hb dX0_paidBack_9 rfl (lv_at hl 1 rfl) ?_
  obtain ⟨b10, hf⟩ := gdE hf
  refine va_iald (D := g.1) (tys := tyl g) (f := (S0.2.2 3)) (pc := 10) hx hb hK hP 4 0 rfl rfl (inbV b10) dX0_paidBack_10 ?_
  refine lv_i2l (pc := 11) hx hb dX0_paidBack_11 rfl ?_
  refine lv_lmul (pc := 12) hx hb dX0_paidBack_12 ?_
  refine lv_iload_n (pc := 13) hx hb dX0_paidBack_13 rfl (lv_at hl 2 rfl) ?_
  refine lv_aload_n (pc := 14) hx hb dX0_paidBack_14 rfl (lv_at hl 0 rfl) ?_
  refine va_get (D := g.1) (ci := 0) (v := .int (S0.1 4)) (C := RX0) (T := TX0) (N := 8) (pc := 15) hx hb hts (fun _ h => List.mem_cons_of_mem _ (List.mem_append_right _ h)) hown hK hP 0 rfl rfl 4 (by decide) (hts _ q_X0_paidBack_2) (fun _ h9 => h9) rfl dX0_paidBack_15 ?_
  refine lv_isub (pc := 18) hx hb dX0_paidBack_18 ?_
  refine lv_i2l (pc := 19) hx hb dX0_paidBack_19 rfl ?_
  refine lv_lmul (pc := 20) hx hb dX0_paidBack_20 ?_
  refine lv_ldc2 (v := 36500) (pc := 21) hx hb hown (hts _ q_X0_paidBack_3) dX0_paidBack_21 ?_
  obtain ⟨z24, hf⟩ := nzE hf
  refine lv_ldiv (pc := 24) hx hb dX0_paidBack_24 z24 ?_
  refine lv_lstore_n (lv' := [(3, .long ((((Int32.toInt64 (S0.1 5)) * (Int32.toInt64 ((S0.2.2 3) (Int32.toNatClampNeg x1)))) * (Int32.toInt64 (x2 - (S0.1 4)))) / 36500)), (0, .ref (g.2.2.1 0)), (1, .int x1), (2, .int x2)]) (pc := 25) hx hb dX0_paidBack_25 rfl hl (by decide) rfl (fun ls hl => ?_)
  refine lv_aload_n (pc := 26) hx hb dX0_paidBack_26 rfl (lv_at hl 1 rfl) ?_
  refine va_get (D := g.1) (ci := 0) (v := .int (S0.1 5)) (C := RX0) (T := TX0) (N := 8) (pc := 27) hx hb hts (fun _ h => List.mem_cons_of_mem _ (List.mem_append_right _ h)) hown hK hP 0 rfl rfl 5 (by decide) (hts _ q_X0_paidBack_0) (fun _ h9 => h9) rfl dX0_paidBack_27 ?_
  refine lv_i2l (pc := 30) hx hb dX0_paidBack_30 rfl ?_
  refine lv_lload_n (pc := 31) hx hb dX0_paidBack_31 rfl (lv_at hl 0 rfl) ?_
  refine lv_ladd (pc := 32) hx hb dX0_paidBack_32 ?_
  refine lv_l2i (pc := 33) hx hb dX0_paidBack_33 rfl ?_
  have hf := Option.some.inj hf
  subst hf
  exact W.iret (v := (Int64.toInt32 ((Int32.toInt64 (S0.1 5)) + ((((Int32.toInt64 (S0.1 5)) * (Int32.toInt64 ((S0.2.2 3) (Int32.toNatClampNeg x1)))) * (Int32.toInt64 (x2 - (S0.1 4)))) / 36500)))) hx hb hr (fun t ht hW => ⟨_, rfl, rfl, ht⟩) (fun _ h => by cases h) dX0_paidBack_34
