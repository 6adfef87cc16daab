theorem q_X5_swapPaintYear_0 : (.fieldLink RX5 18 "PictureCourt$Proofs" "paintYears" "[I" : Cond) ∈ wsX5_swapPaintYear := by decide +kernel
theorem h_X5_swapPaintYear : yX5_swapPaintYear.cls = RX5 ∧ yX5_swapPaintYear.cls ≠ "java/lang/invoke/MethodHandle" ∧ yX5_swapPaintYear.cls ≠ "java/lang/invoke/VarHandle" ∧ (parseMethodDescriptor yX5_swapPaintYear.desc).map (fun d => d.parameters.length) = some 2 := by decide +kernel
set_option maxHeartbeats 4000000 in
set_option maxRecDepth 100000 in
theorem c_X5_swapPaintYear (l : Launch) (g : En) (N : Nat) (sz : Nat) (S5 : St) (x1 : Int32) (x2 : Int32) (res : Int32 × St) (hf : f_X5_swapPaintYear N S5 x1 x2 = some res) : Met l yX5_swapPaintYear wsX5_swapPaintYear { frames := 0, cells := 0, slots := 0, locals := 0 } (rwP g (wd_5 g S5) sz [.ref (g.2.2.1 5), .int x1, .int x2]) (rwQi g (wd_5 g (res.2)) (va_A (wd_5 g S5) sz) (res.1)) 0 0 (va_A (wd_5 g S5) sz) := by
  refine Met.ofW (cc := cX5_swapPaintYear) (maxL := 4) (ret := (some .int)) (by decide) rfl ?_
  intro p e s m args below meth c s₁ B hml hv
  obtain ⟨rfl, hsz, hP, hK, hD0⟩ := hv
  have hx := B.exec
  have hb := B.bytes
  have hr := B.returns
  have hts := atoms_spec (ws := wsX5_swapPaintYear) B.pre
  have hown : s.vm.findClass RX5 = some m.cls := findClass_of_methodNamed B.named
  have hlk := B.notSynchronized
  subst hsz
  have hD := hD0.self (sz := s.heap.size)
  generalize hAe : va_A (wd_5 g S5) s.heap.size = A at hD ⊢
  have hA : ∀ q : Nat, s.heap.size ≤ q → A q := fun q h => by rw [← hAe]; exact Or.inr h
  have hS : va_S A s.heap s.heap [] := va_S.rf
  have C : cxw g A cX5_swapPaintYear 4 (some .int) wsX5_swapPaintYear RX5 p s m ([.ref (g.2.2.1 5), .int x1, .int x2] : List Value).toArray meth c := ⟨⟨hx, hb, hr, hml, hown, hts, hlk⟩, hK, hA⟩
  have hl := lv_entry [.ref (g.2.2.1 5), .int x1, .int x2] (n := 4) (Nat.le_of_ble_eq_true rfl)
  rw [lg_entry_eq]
  generalize (lg_sl [.ref (g.2.2.1 5), .int x1, .int x2] ++ List.replicate (4 - (lg_sl [.ref (g.2.2.1 5), .int x1, .int x2]).length) Slot.unset).toArray = ls at hl ⊢
  have hl : lv_has ls 4 [(0, .ref (g.2.2.1 5)), (1, .int x1), (2, .int x2)] := hl
  unfold f_X5_swapPaintYear at hf
  suffices K9 : ∀ (H : Heap) (locs : List Loc), va_P g.1 vwCl (wd_5 g S5) H → va_D A (wd_5 g S5) → va_S A s.heap H locs → (if inb x1 10 = true then (if inb x1 10 = true then some (((S5.2.2 1) (Int32.toNatClampNeg x1)), (sA S5 1 (upd (S5.2.2 1) (Int32.toNatClampNeg x1) x2))) else none) else none) = some res → W p l e (headSpec wsX5_swapPaintYear { frames := 0, cells := 0, slots := 0, locals := 0 }).room s m ([.ref (g.2.2.1 5), .int x1, .int x2] : List Value).toArray below meth c H locs 0 0 (MQ below (rwQi g (wd_5 g (res.2)) A (res.1)) ([.ref (g.2.2.1 5), .int x1, .int x2] : List Value).toArray s 0 0 A) (F0 m 0 ls []) from K9 s.heap [] hP hD hS hf
  clear hP hD hS hf
  intro H locs hP hD hS hf
  refine lv_aload_n (pc := 0) hx hb dX5_swapPaintYear_0 rfl (lv_at hl 0 rfl) ?_
  refine va_get (D := g.1) (ci := 5) (v := .ref (g.2.2.2 5 1)) (C := RX5) (T := TX5) (N := 15) (pc := 1) hx hb hts (fun _ h => List.mem_cons_of_mem _ (List.mem_append_right _ h)) hown hK hP 0 rfl rfl 1 (by decide) (hts _ q_X5_swapPaintYear_0) (fun _ h9 => h9) rfl dX5_swapPaintYear_1 ?_
  refine lv_iload_n (pc := 4) hx hb dX5_swapPaintYear_4 rfl (lv_at hl 1 rfl) ?_
  obtain ⟨b5, hf⟩ := gdE hf
  refine va_iald (D := g.1) (tys := tyl g) (f := (S5.2.2 1)) (pc := 5) hx hb hK hP 1 0 rfl rfl (inbV b5) dX5_swapPaintYear_5 ?_
  refine lv_istore_n (lv' := [(3, .int ((S5.2.2 1) (Int32.toNatClampNeg x1))), (0, .ref (g.2.2.1 5)), (1, .int x1), (2, .int x2)]) (pc := 6) hx hb dX5_swapPaintYear_6 rfl hl (by decide) rfl (fun ls hl => ?_)
  refine lv_aload_n (pc := 7) hx hb dX5_swapPaintYear_7 rfl (lv_at hl 1 rfl) ?_
  refine va_get (D := g.1) (ci := 5) (v := .ref (g.2.2.2 5 1)) (C := RX5) (T := TX5) (N := 15) (pc := 8) hx hb hts (fun _ h => List.mem_cons_of_mem _ (List.mem_append_right _ h)) hown hK hP 0 rfl rfl 1 (by decide) (hts _ q_X5_swapPaintYear_0) (fun _ h9 => h9) rfl dX5_swapPaintYear_8 ?_
  refine lv_iload_n (pc := 11) hx hb dX5_swapPaintYear_11 rfl (lv_at hl 2 rfl) ?_
  refine lv_iload_n (pc := 12) hx hb dX5_swapPaintYear_12 rfl (lv_at hl 3 rfl) ?_
  obtain ⟨b13, hf⟩ := gdE hf
  refine va_iast (D := g.1) (tys := tyl g) (f := (S5.2.2 1)) (pc := 13) hx hb hK hP hD hS 1 0 rfl rfl (inbV b13) dX5_swapPaintYear_13 (fun H locs hP hD hS => ?_)
  have hP := u_5_5_1P S5 (upd (S5.2.2 1) (Int32.toNatClampNeg x1) x2) hP
  have hD := u_5_5_1D S5 (upd (S5.2.2 1) (Int32.toNatClampNeg x1) x2) hD
  refine lv_iload_n (pc := 14) hx hb dX5_swapPaintYear_14 rfl (lv_at hl 0 rfl) ?_
  have hf := Option.some.inj hf
  subst hf
  exact W.iret (v := ((S5.2.2 1) (Int32.toNatClampNeg x1))) hx hb hr (fun t ht hW => ⟨⟨_, (), rfl, rfl, by rw [ht]; exact hP, va_K.moved hW.alike hK, hD⟩, hS.F ht⟩) hS.2.2 dX5_swapPaintYear_15
theorem q_X5_setSap_0 : (.fieldLink RX5 46 "PictureCourt$Proofs" "leastSap" "I" : Cond) ∈ wsX5_setSap := by decide +kernel
theorem q_X5_setSap_1 : (.fieldLink RX5 50 "PictureCourt$Proofs" "mostSap" "I" : Cond) ∈ wsX5_setSap := by decide +kernel
theorem q_X5_setSap_2 : (.fieldLink RX5 53 "PictureCourt$Proofs" "yearsToUse" "I" : Cond) ∈ wsX5_setSap := by decide +kernel
theorem h_X5_setSap : yX5_setSap.cls = RX5 ∧ yX5_setSap.cls ≠ "java/lang/invoke/MethodHandle" ∧ yX5_setSap.cls ≠ "java/lang/invoke/VarHandle" ∧ (parseMethodDescriptor yX5_setSap.desc).map (fun d => d.parameters.length) = some 3 := by decide +kernel
set_option maxHeartbeats 4000000 in
set_option maxRecDepth 100000 in
theorem c_X5_setSap (l : Launch) (g : En) (N : Nat) (sz : Nat) (S5 : St) (x1 : Int32) (x2 : Int32) (x3 : Int32) (res : St) (hf : f_X5_setSap N S5 x1 x2 x3 = some res) : Met l yX5_setSap wsX5_setSap { frames := 0, cells := 0, slots := 0, locals := 0 } (rwP g (wd_5 g S5) sz [.ref (g.2.2.1 5), .int x1, .int x2, .int x3]) (rwQv g (wd_5 g res) (va_A (wd_5 g S5) sz)) 0 0 (va_A (wd_5 g S5) sz) := by
  refine Met.ofW (cc := cX5_setSap) (maxL := 4) (ret := none) (by decide) rfl ?_
  intro p e s m args below meth c s₁ B hml hv
  obtain ⟨rfl, hsz, hP, hK, hD0⟩ := hv
  have hx := B.exec
  have hb := B.bytes
  have hr := B.returns
  have hts := atoms_spec (ws := wsX5_setSap) B.pre
  have hown : s.vm.findClass RX5 = some m.cls := findClass_of_methodNamed B.named
  have hlk := B.notSynchronized
  subst hsz
  have hD := hD0.self (sz := s.heap.size)
  generalize hAe : va_A (wd_5 g S5) s.heap.size = A at hD ⊢
  have hA : ∀ q : Nat, s.heap.size ≤ q → A q := fun q h => by rw [← hAe]; exact Or.inr h
  have hS : va_S A s.heap s.heap [] := va_S.rf
  have C : cxw g A cX5_setSap 4 none wsX5_setSap RX5 p s m ([.ref (g.2.2.1 5), .int x1, .int x2, .int x3] : List Value).toArray meth c := ⟨⟨hx, hb, hr, hml, hown, hts, hlk⟩, hK, hA⟩
  have hl := lv_entry [.ref (g.2.2.1 5), .int x1, .int x2, .int x3] (n := 4) (Nat.le_of_ble_eq_true rfl)
  rw [lg_entry_eq]
  generalize (lg_sl [.ref (g.2.2.1 5), .int x1, .int x2, .int x3] ++ List.replicate (4 - (lg_sl [.ref (g.2.2.1 5), .int x1, .int x2, .int x3]).length) Slot.unset).toArray = ls at hl ⊢
  have hl : lv_has ls 4 [(0, .ref (g.2.2.1 5)), (1, .int x1), (2, .int x2), (3, .int x3)] := hl
  unfold f_X5_setSap at hf
  suffices K9 : ∀ (H : Heap) (locs : List Loc), va_P g.1 vwCl (wd_5 g S5) H → va_D A (wd_5 g S5) → va_S A s.heap H locs → some ((sI (sI (sI S5 10 x1) 11 x2) 12 x3)) = some res → W p l e (headSpec wsX5_setSap { frames := 0, cells := 0, slots := 0, locals := 0 }).room s m ([.ref (g.2.2.1 5), .int x1, .int x2, .int x3] : List Value).toArray below meth c H locs 0 0 (MQ below (rwQv g (wd_5 g res) A) ([.ref (g.2.2.1 5), .int x1, .int x2, .int x3] : List Value).toArray s 0 0 A) (F0 m 0 ls []) from K9 s.heap [] hP hD hS hf
  clear hP hD hS hf
  intro H locs hP hD hS hf
  refine lv_aload_n (pc := 0) hx hb dX5_setSap_0 rfl (lv_at hl 0 rfl) ?_
  refine lv_iload_n (pc := 1) hx hb dX5_setSap_1 rfl (lv_at hl 1 rfl) ?_
  refine va_put (D := g.1) (ci := 5) (v := .int x1) (ty := .int) (C := RX5) (T := TX5) (N := 15) (pc := 2) hx hb hts (fun _ h => List.mem_cons_of_mem _ (List.mem_append_right _ h)) tyX5 tyX5_ok nmX5 hown hK hP hD hS 0 rfl rfl 10 (by decide) (hts _ q_X5_setSap_0) (fun _ h9 => h9) rfl rfl rfl rfl (Nat.le_of_ble_eq_true rfl) dX5_setSap_2 (fun H locs hP hD hS => ?_)
  have hP := u_5_5_10P S5 x1 hP
  have hD := u_5_5_10D S5 x1 hD
  refine lv_aload_n (pc := 5) hx hb dX5_setSap_5 rfl (lv_at hl 0 rfl) ?_
  refine lv_iload_n (pc := 6) hx hb dX5_setSap_6 rfl (lv_at hl 2 rfl) ?_
  refine va_put (D := g.1) (ci := 5) (v := .int x2) (ty := .int) (C := RX5) (T := TX5) (N := 15) (pc := 7) hx hb hts (fun _ h => List.mem_cons_of_mem _ (List.mem_append_right _ h)) tyX5 tyX5_ok nmX5 hown hK hP hD hS 0 rfl rfl 11 (by decide) (hts _ q_X5_setSap_1) (fun _ h9 => h9) rfl rfl rfl rfl (Nat.le_of_ble_eq_true rfl) dX5_setSap_7 (fun H locs hP hD hS => ?_)
  have hP := u_5_5_11P (sI S5 10 x1) x2 hP
  have hD := u_5_5_11D (sI S5 10 x1) x2 hD
  refine lv_aload_n (pc := 10) hx hb dX5_setSap_10 rfl (lv_at hl 0 rfl) ?_
  refine lv_iload_n (pc := 11) hx hb dX5_setSap_11 rfl (lv_at hl 3 rfl) ?_
  refine va_put (D := g.1) (ci := 5) (v := .int x3) (ty := .int) (C := RX5) (T := TX5) (N := 15) (pc := 12) hx hb hts (fun _ h => List.mem_cons_of_mem _ (List.mem_append_right _ h)) tyX5 tyX5_ok nmX5 hown hK hP hD hS 0 rfl rfl 12 (by decide) (hts _ q_X5_setSap_2) (fun _ h9 => h9) rfl rfl rfl rfl (Nat.le_of_ble_eq_true rfl) dX5_setSap_12 (fun H locs hP hD hS => ?_)
  have hP := u_5_5_12P (sI (sI S5 10 x1) 11 x2) x3 hP
  have hD := u_5_5_12D (sI (sI S5 10 x1) 11 x2) x3 hD
  have hf := Option.some.inj hf
  subst hf
  exact W.vret hx hb hr (fun t ht hW => ⟨⟨(), rfl, trivial, by rw [ht]; exact hP, va_K.moved hW.alike hK, hD⟩, hS.F ht⟩) hS.2.2 dX5_setSap_15
theorem q_X5_isFull_0 : (.fieldLink RX5 56 "PictureCourt$Proofs" "size" "I" : Cond) ∈ wsX5_isFull := by decide +kernel
theorem h_X5_isFull : yX5_isFull.cls = RX5 ∧ yX5_isFull.cls ≠ "java/lang/invoke/MethodHandle" ∧ yX5_isFull.cls ≠ "java/lang/invoke/VarHandle" ∧ (parseMethodDescriptor yX5_isFull.desc).map (fun d => d.parameters.length) = some 0 := by decide +kernel
set_option maxHeartbeats 4000000 in
set_option maxRecDepth 100000 in
theorem c_X5_isFull (l : Launch) (g : En) (N : Nat) (S5 : St) (res : Int32) (hf : f_X5_isFull N S5 = some res) : Met l yX5_isFull wsX5_isFull { frames := 0, cells := 0, slots := 0, locals := 0 } (roP g (wd_5 g S5) [.ref (g.2.2.1 5)]) (vp_Si (fun r => r = res)) 0 0 (fun _ => False) := by
  refine Met.ofW (cc := cX5_isFull) (maxL := 1) (ret := (some .boolean)) (by decide) rfl ?_
  intro p e s m args below meth c s₁ B hml hv
  obtain ⟨rfl, hP, hK⟩ := hv
  have hx := B.exec
  have hb := B.bytes
  have hr := B.returns
  have hts := atoms_spec (ws := wsX5_isFull) B.pre
  have hown : s.vm.findClass RX5 = some m.cls := findClass_of_methodNamed B.named
  have hlk := B.notSynchronized
  have C : cxr g (wd_5 g S5) cX5_isFull 1 (some .boolean) wsX5_isFull RX5 p s m ([.ref (g.2.2.1 5)] : List Value).toArray meth c := ⟨⟨hx, hb, hr, hml, hown, hts, hlk⟩, hK, hP⟩
  have hl := lv_entry [.ref (g.2.2.1 5)] (n := 1) (Nat.le_of_ble_eq_true rfl)
  rw [lg_entry_eq]
  generalize (lg_sl [.ref (g.2.2.1 5)] ++ List.replicate (1 - (lg_sl [.ref (g.2.2.1 5)]).length) Slot.unset).toArray = ls at hl ⊢
  have hl : lv_has ls 1 [(0, .ref (g.2.2.1 5))] := hl
  unfold f_X5_isFull at hf
  refine lv_aload_n (pc := 0) hx hb dX5_isFull_0 rfl (lv_at hl 0 rfl) ?_
  refine va_get (D := g.1) (ci := 5) (v := .int (S5.1 13)) (C := RX5) (T := TX5) (N := 15) (pc := 1) hx hb hts (fun _ h => List.mem_cons_of_mem _ (List.mem_append_right _ h)) hown hK hP 0 rfl rfl 13 (by decide) (hts _ q_X5_isFull_0) (fun _ h9 => h9) rfl dX5_isFull_1 ?_
  refine lv_bipush (v := 24) (pc := 4) hx hb dX5_isFull_4 (by decide) ?_
  refine lv_icmp_lt (tgt := 13) (pc := 6) hx hb dX5_isFull_6 (by decide) (fun c6 => ?_) (fun c6 => ?_)
  · have hf := ft hf c6
    refine lv_iconst (v := 0) (pc := 13) hx hb dX5_isFull_13 (by decide) ?_
    have hf := Option.some.inj hf
    subst hf
    exact W.zret (v := 0) hx hb hr rfl (fun t ht hW => ⟨_, rfl, rfl, ht⟩) (fun _ h => by cases h) dX5_isFull_14
  · have hf := ff hf c6
    refine lv_iconst (v := 1) (pc := 9) hx hb dX5_isFull_9 (by decide) ?_
    refine lv_goto (tgt := 14) (pc := 10) hx hb dX5_isFull_10 (by decide) ?_
    have hf := Option.some.inj hf
    subst hf
    exact W.zret (v := 1) hx hb hr rfl (fun t ht hW => ⟨_, rfl, rfl, ht⟩) (fun _ h => by cases h) dX5_isFull_14
theorem q_X5_add_0 : (.fieldLink RX5 22 "PictureCourt$Proofs" "kinds" "[I" : Cond) ∈ wsX5_add := by decide +kernel
theorem q_X5_add_1 : (.fieldLink RX5 56 "PictureCourt$Proofs" "size" "I" : Cond) ∈ wsX5_add := by decide +kernel
theorem q_X5_add_2 : (.fieldLink RX5 25 "PictureCourt$Proofs" "weights" "[I" : Cond) ∈ wsX5_add := by decide +kernel
theorem q_X5_add_3 : (.fieldLink RX5 28 "PictureCourt$Proofs" "toldDays" "[I" : Cond) ∈ wsX5_add := by decide +kernel
theorem q_X5_add_4 : (.fieldLink RX5 31 "PictureCourt$Proofs" "struckDays" "[I" : Cond) ∈ wsX5_add := by decide +kernel
theorem h_X5_add : yX5_add.cls = RX5 ∧ yX5_add.cls ≠ "java/lang/invoke/MethodHandle" ∧ yX5_add.cls ≠ "java/lang/invoke/VarHandle" ∧ (parseMethodDescriptor yX5_add.desc).map (fun d => d.parameters.length) = some 3 := by decide +kernel
set_option maxHeartbeats 4000000 in
set_option maxRecDepth 100000 in
theorem c_X5_add (l : Launch) (g : En) (N : Nat) (sz : Nat) (S5 : St) (x1 : Int32) (x2 : Int32) (x3 : Int32) (res : Int32 × St) (hf : f_X5_add N S5 x1 x2 x3 = some res) : Met l yX5_add wsX5_add { frames := 0, cells := 0, slots := 0, locals := 0 } (rwP g (wd_5 g S5) sz [.ref (g.2.2.1 5), .int x1, .int x2, .int x3]) (rwQi g (wd_5 g (res.2)) (va_A (wd_5 g S5) sz) (res.1)) 0 0 (va_A (wd_5 g S5) sz) := by
  refine Met.ofW (cc := cX5_add) (maxL := 4) (ret := (some .int)) (by decide) rfl ?_
  intro p e s m args below meth c s₁ B hml hv
  obtain ⟨rfl, hsz, hP, hK, hD0⟩ := hv
  have hx := B.exec
  have hb := B.bytes
  have hr := B.returns
  have hts := atoms_spec (ws := wsX5_add) B.pre
  have hown : s.vm.findClass RX5 = some m.cls := findClass_of_methodNamed B.named
  have hlk := B.notSynchronized
  subst hsz
  have hD := hD0.self (sz := s.heap.size)
  generalize hAe : va_A (wd_5 g S5) s.heap.size = A at hD ⊢
  have hA : ∀ q : Nat, s.heap.size ≤ q → A q := fun q h => by rw [← hAe]; exact Or.inr h
  have hS : va_S A s.heap s.heap [] := va_S.rf
  have C : cxw g A cX5_add 4 (some .int) wsX5_add RX5 p s m ([.ref (g.2.2.1 5), .int x1, .int x2, .int x3] : List Value).toArray meth c := ⟨⟨hx, hb, hr, hml, hown, hts, hlk⟩, hK, hA⟩
  have hl := lv_entry [.ref (g.2.2.1 5), .int x1, .int x2, .int x3] (n := 4) (Nat.le_of_ble_eq_true rfl)
  rw [lg_entry_eq]
  generalize (lg_sl [.ref (g.2.2.1 5), .int x1, .int x2, .int x3] ++ List.replicate (4 - (lg_sl [.ref (g.2.2.1 5), .int x1, .int x2, .int x3]).length) Slot.unset).toArray = ls at hl ⊢
  have hl : lv_has ls 4 [(0, .ref (g.2.2.1 5)), (1, .int x1), (2, .int x2), (3, .int x3)] := hl
  unfold f_X5_add at hf
  suffices K9 : ∀ (H : Heap) (locs : List Loc), va_P g.1 vwCl (wd_5 g S5) H → va_D A (wd_5 g S5) → va_S A s.heap H locs → (if inb (S5.1 13) 24 = true then (if inb (S5.1 13) 24 = true then (if inb (S5.1 13) 24 = true then (if inb (S5.1 13) 24 = true then some ((((S5.1 13) + 1) - 1), (sI (sA (sA (sA (sA S5 2 (upd (S5.2.2 2) (Int32.toNatClampNeg (S5.1 13)) x1)) 3 (upd (S5.2.2 3) (Int32.toNatClampNeg (S5.1 13)) x2)) 4 (upd (S5.2.2 4) (Int32.toNatClampNeg (S5.1 13)) x3)) 5 (upd (S5.2.2 5) (Int32.toNatClampNeg (S5.1 13)) (-9))) 13 ((S5.1 13) + 1))) else none) else none) else none) else none) = some res → W p l e (headSpec wsX5_add { frames := 0, cells := 0, slots := 0, locals := 0 }).room s m ([.ref (g.2.2.1 5), .int x1, .int x2, .int x3] : List Value).toArray below meth c H locs 0 0 (MQ below (rwQi g (wd_5 g (res.2)) A (res.1)) ([.ref (g.2.2.1 5), .int x1, .int x2, .int x3] : List Value).toArray s 0 0 A) (F0 m 0 ls []) from K9 s.heap [] hP hD hS hf
  clear hP hD hS hf
  intro H locs hP hD hS hf
  refine lv_aload_n (pc := 0) hx hb dX5_add_0 rfl (lv_at hl 0 rfl) ?_
  refine va_get (D := g.1) (ci := 5) (v := .ref (g.2.2.2 5 2)) (C := RX5) (T := TX5) (N := 15) (pc := 1) hx hb hts (fun _ h => List.mem_cons_of_mem _ (List.mem_append_right _ h)) hown hK hP 0 rfl rfl 2 (by decide) (hts _ q_X5_add_0) (fun _ h9 => h9) rfl dX5_add_1 ?_
  refine lv_aload_n (pc := 4) hx hb dX5_add_4 rfl (lv_at hl 0 rfl) ?_
  refine va_get (D := g.1) (ci := 5) (v := .int (S5.1 13)) (C := RX5) (T := TX5) (N := 15) (pc := 5) hx hb hts (fun _ h => List.mem_cons_of_mem _ (List.mem_append_right _ h)) hown hK hP 0 rfl rfl 13 (by decide) (hts _ q_X5_add_1) (fun _ h9 => h9) rfl dX5_add_5 ?_
  refine lv_iload_n (pc := 8) hx hb dX5_add_8 rfl (lv_at hl 1 rfl) ?_
  obtain ⟨b9, hf⟩ := gdE hf
  refine va_iast (D := g.1) (tys := tyl g) (f := (S5.2.2 2)) (pc := 9) hx hb hK hP hD hS 2 0 rfl rfl (inbV b9) dX5_add_9 (fun H locs hP hD hS => ?_)
  have hP := u_5_5_2P S5 (upd (S5.2.2 2) (Int32.toNatClampNeg (S5.1 13)) x1) hP
  have hD := u_5_5_2D S5 (upd (S5.2.2 2) (Int32.toNatClampNeg (S5.1 13)) x1) hD
  refine lv_aload_n (pc := 10) hx hb dX5_add_10 rfl (lv_at hl 0 rfl) ?_
  refine va_get (D := g.1) (ci := 5) (v := .ref (g.2.2.2 5 3)) (C := RX5) (T := TX5) (N := 15) (pc := 11) hx hb hts (fun _ h => List.mem_cons_of_mem _ (List.mem_append_right _ h)) hown hK hP 0 rfl rfl 3 (by decide) (hts _ q_X5_add_2) (fun _ h9 => h9) rfl dX5_add_11 ?_
  refine lv_aload_n (pc := 14) hx hb dX5_add_14 rfl (lv_at hl 0 rfl) ?_
  refine va_get (D := g.1) (ci := 5) (v := .int (S5.1 13)) (C := RX5) (T := TX5) (N := 15) (pc := 15) hx hb hts (fun _ h => List.mem_cons_of_mem _ (List.mem_append_right _ h)) hown hK hP 0 rfl rfl 13 (by decide) (hts _ q_X5_add_1) (fun _ h9 => h9) rfl dX5_add_15 ?_
  refine lv_iload_n (pc := 18) hx hb dX5_add_18 rfl (lv_at hl 2 rfl) ?_
  obtain ⟨b19, hf⟩ := gdE hf
  refine va_iast (D := g.1) (tys := tyl g) (f := (S5.2.2 3)) (pc := 19) hx hb hK hP hD hS 3 0 rfl rfl (inbV b19) dX5_add_19 (fun H locs hP hD hS => ?_)
  have hP := u_5_5_3P (sA S5 2 (upd (S5.2.2 2) (Int32.toNatClampNeg (S5.1 13)) x1)) (upd (S5.2.2 3) (Int32.toNatClampNeg (S5.1 13)) x2) hP
  have hD := u_5_5_3D (sA S5 2 (upd (S5.2.2 2) (Int32.toNatClampNeg (S5.1 13)) x1)) (upd (S5.2.2 3) (Int32.toNatClampNeg (S5.1 13)) x2) hD
  refine lv_aload_n (pc := 20) hx hb dX5_add_20 rfl (lv_at hl 0 rfl) ?_
  refine va_get (D := g.1) (ci := 5) (v := .ref (g.2.2.2 5 4)) (C := RX5) (T := TX5) (N := 15) (pc := 21) hx hb hts (fun _ h => List.mem_cons_of_mem _ (List.mem_append_right _ h)) hown hK hP 0 rfl rfl 4 (by decide) (hts _ q_X5_add_3) (fun _ h9 => h9) rfl dX5_add_21 ?_
  refine lv_aload_n (pc := 24) hx hb dX5_add_24 rfl (lv_at hl 0 rfl) ?_
  refine va_get (D := g.1) (ci := 5) (v := .int (S5.1 13)) (C := RX5) (T := TX5) (N := 15) (pc := 25) hx hb hts (fun _ h => List.mem_cons_of_mem _ (List.mem_append_right _ h)) hown hK hP 0 rfl rfl 13 (by decide) (hts _ q_X5_add_1) (fun _ h9 => h9) rfl dX5_add_25 ?_
  refine lv_iload_n (pc := 28) hx hb dX5_add_28 rfl (lv_at hl 3 rfl) ?_
  obtain ⟨b29, hf⟩ := gdE hf
  refine va_iast (D := g.1) (tys := tyl g) (f := (S5.2.2 4)) (pc := 29) hx hb hK hP hD hS 4 0 rfl rfl (inbV b29) dX5_add_29 (fun H locs hP hD hS => ?_)
  have hP := u_5_5_4P (sA (sA S5 2 (upd (S5.2.2 2) (Int32.toNatClampNeg (S5.1 13)) x1)) 3 (upd (S5.2.2 3) (Int32.toNatClampNeg (S5.1 13)) x2)) (upd (S5.2.2 4) (Int32.toNatClampNeg (S5.1 13)) x3) hP
  have hD := u_5_5_4D (sA (sA S5 2 (upd (S5.2.2 2) (Int32.toNatClampNeg (S5.1 13)) x1)) 3 (upd (S5.2.2 3) (Int32.toNatClampNeg (S5.1 13)) x2)) (upd (S5.2.2 4) (Int32.toNatClampNeg (S5.1 13)) x3) hD
  refine lv_aload_n (pc := 30) hx hb dX5_add_30 rfl (lv_at hl 0 rfl) ?_
  refine va_get (D := g.1) (ci := 5) (v := .ref (g.2.2.2 5 5)) (C := RX5) (T := TX5) (N := 15) (pc := 31) hx hb hts (fun _ h => List.mem_cons_of_mem _ (List.mem_append_right _ h)) hown hK hP 0 rfl rfl 5 (by decide) (hts _ q_X5_add_4) (fun _ h9 => h9) rfl dX5_add_31 ?_
  refine lv_aload_n (pc := 34) hx hb dX5_add_34 rfl (lv_at hl 0 rfl) ?_
  refine va_get (D := g.1) (ci := 5) (v := .int (S5.1 13)) (C := RX5) (T := TX5) (N := 15) (pc := 35) hx hb hts (fun _ h => List.mem_cons_of_mem _ (List.mem_append_right _ h)) hown hK hP 0 rfl rfl 13 (by decide) (hts _ q_X5_add_1) (fun _ h9 => h9) rfl dX5_add_35 ?_
  refine lv_bipush (v := (-9)) (pc := 38) hx hb dX5_add_38 (by decide) ?_
  obtain ⟨b40, hf⟩ := gdE hf
  refine va_iast (D := g.1) (tys := tyl g) (f := (S5.2.2 5)) (pc := 40) hx hb hK hP hD hS 5 0 rfl rfl (inbV b40) dX5_add_40 (fun H locs hP hD hS => ?_)
  have hP := u_5_5_5P (sA (sA (sA S5 2 (upd (S5.2.2 2) (Int32.toNatClampNeg (S5.1 13)) x1)) 3 (upd (S5.2.2 3) (Int32.toNatClampNeg (S5.1 13)) x2)) 4 (upd (S5.2.2 4) (Int32.toNatClampNeg (S5.1 13)) x3)) (upd (S5.2.2 5) (Int32.toNatClampNeg (S5.1 13)) (-9)) hP
  have hD := u_5_5_5D (sA (sA (sA S5 2 (upd (S5.2.2 2) (Int32.toNatClampNeg (S5.1 13)) x1)) 3 (upd (S5.2.2 3) (Int32.toNatClampNeg (S5.1 13)) x2)) 4 (upd (S5.2.2 4) (Int32.toNatClampNeg (S5.1 13)) x3)) (upd (S5.2.2 5) (Int32.toNatClampNeg (S5.1 13)) (-9)) hD
  refine lv_aload_n (pc := 41) hx hb dX5_add_41 rfl (lv_at hl 0 rfl) ?_
  refine lv_dup (pc := 42) hx hb dX5_add_42 rfl ?_
  refine va_get (D := g.1) (ci := 5) (v := .int (S5.1 13)) (C := RX5) (T := TX5) (N := 15) (pc := 43) hx hb hts (fun _ h => List.mem_cons_of_mem _ (List.mem_append_right _ h)) hown hK hP 0 rfl rfl 13 (by decide) (hts _ q_X5_add_1) (fun _ h9 => h9) rfl dX5_add_43 ?_
  refine lv_iconst (v := 1) (pc := 46) hx hb dX5_add_46 (by decide) ?_
  refine lv_iadd (pc := 47) hx hb dX5_add_47 ?_
  refine va_put (D := g.1) (ci := 5) (v := .int ((S5.1 13) + 1)) (ty := .int) (C := RX5) (T := TX5) (N := 15) (pc := 48) hx hb hts (fun _ h => List.mem_cons_of_mem _ (List.mem_append_right _ h)) tyX5 tyX5_ok nmX5 hown hK hP hD hS 0 rfl rfl 13 (by decide) (hts _ q_X5_add_1) (fun _ h9 => h9) rfl rfl rfl rfl (Nat.le_of_ble_eq_true rfl) dX5_add_48 (fun H locs hP hD hS => ?_)
  have hP := u_5_5_13P (sA (sA (sA (sA S5 2 (upd (S5.2.2 2) (Int32.toNatClampNeg (S5.1 13)) x1)) 3 (upd (S5.2.2 3) (Int32.toNatClampNeg (S5.1 13)) x2)) 4 (upd (S5.2.2 4) (Int32.toNatClampNeg (S5.1 13)) x3)) 5 (upd (S5.2.2 5) (Int32.toNatClampNeg (S5.1 13)) (-9))) ((S5.1 13) + 1) hP
  have hD := u_5_5_13D (sA (sA (sA (sA S5 2 (upd (S5.2.2 2) (Int32.toNatClampNeg (S5.1 13)) x1)) 3 (upd (S5.2.2 3) (Int32.toNatClampNeg (S5.1 13)) x2)) 4 (upd (S5.2.2 4) (Int32.toNatClampNeg (S5.1 13)) x3)) 5 (upd (S5.2.2 5) (Int32.toNatClampNeg (S5.1 13)) (-9))) ((S5.1 13) + 1) hD
  refine lv_aload_n (pc := 51) hx hb dX5_add_51 rfl (lv_at hl 0 rfl) ?_
  refine va_get (D := g.1) (ci := 5) (v := .int ((S5.1 13) + 1)) (C := RX5) (T := TX5) (N := 15) (pc := 52) hx hb hts (fun _ h => List.mem_cons_of_mem _ (List.mem_append_right _ h)) hown hK hP 0 rfl rfl 13 (by decide) (hts _ q_X5_add_1) (fun _ h9 => h9) rfl dX5_add_52 ?_
  refine lv_iconst (v := 1) (pc := 55) hx hb dX5_add_55 (by decide) ?_
  refine lv_isub (pc := 56) hx hb dX5_add_56 ?_
  have hf := Option.some.inj hf
  subst hf
  exact W.iret (v := (((S5.1 13) + 1) - 1)) hx hb hr (fun t ht hW => ⟨⟨_, (), rfl, rfl, by rw [ht]; exact hP, va_K.moved hW.alike hK, hD⟩, hS.F ht⟩) hS.2.2 dX5_add_57
theorem q_X5_addYears_0 : (.fieldLink RX5 40 "PictureCourt$Proofs" "froms" "[I" : Cond) ∈ wsX5_addYears := by decide +kernel
theorem q_X5_addYears_1 : (.fieldLink RX5 56 "PictureCourt$Proofs" "size" "I" : Cond) ∈ wsX5_addYears := by decide +kernel
theorem q_X5_addYears_2 : (.fieldLink RX5 43 "PictureCourt$Proofs" "tos" "[I" : Cond) ∈ wsX5_addYears := by decide +kernel
theorem h_X5_addYears : yX5_addYears.cls = RX5 ∧ yX5_addYears.cls ≠ "java/lang/invoke/MethodHandle" ∧ yX5_addYears.cls ≠ "java/lang/invoke/VarHandle" ∧ (parseMethodDescriptor yX5_addYears.desc).map (fun d => d.parameters.length) = some 4 := by decide +kernel
set_option maxHeartbeats 4000000 in
set_option maxRecDepth 100000 in
theorem c_X5_addYears (l : Launch) (g : En) (N : Nat) (sz : Nat) (S5 : St) (x1 : Int32) (x2 : Int32) (x3 : Int32) (x4 : Int32) (res : Int32 × St) (hf : f_X5_addYears N S5 x1 x2 x3 x4 = some res) : Met l yX5_addYears wsX5_addYears { frames := 1, cells := 0, slots := 0, locals := 23 } (rwP g (wd_5 g S5) sz [.ref (g.2.2.1 5), .int x1, .int x2, .int x3, .int x4]) (rwQi g (wd_5 g (res.2)) (va_A (wd_5 g S5) sz) (res.1)) 0 0 (va_A (wd_5 g S5) sz) := by
  refine Met.ofW (cc := cX5_addYears) (maxL := 5) (ret := (some .int)) (by decide) rfl ?_
  intro p e s m args below meth c s₁ B hml hv
  obtain ⟨rfl, hsz, hP, hK, hD0⟩ := hv
  have hx := B.exec
  have hb := B.bytes
  have hr := B.returns
  have hts := atoms_spec (ws := wsX5_addYears) B.pre
  have hown : s.vm.findClass RX5 = some m.cls := findClass_of_methodNamed B.named
  have hlk := B.notSynchronized
  subst hsz
  have hD := hD0.self (sz := s.heap.size)
  generalize hAe : va_A (wd_5 g S5) s.heap.size = A at hD ⊢
  have hA : ∀ q : Nat, s.heap.size ≤ q → A q := fun q h => by rw [← hAe]; exact Or.inr h
  have hS : va_S A s.heap s.heap [] := va_S.rf
  have C : cxw g A cX5_addYears 5 (some .int) wsX5_addYears RX5 p s m ([.ref (g.2.2.1 5), .int x1, .int x2, .int x3, .int x4] : List Value).toArray meth c := ⟨⟨hx, hb, hr, hml, hown, hts, hlk⟩, hK, hA⟩
  have hl := lv_entry [.ref (g.2.2.1 5), .int x1, .int x2, .int x3, .int x4] (n := 5) (Nat.le_of_ble_eq_true rfl)
  rw [lg_entry_eq]
  generalize (lg_sl [.ref (g.2.2.1 5), .int x1, .int x2, .int x3, .int x4] ++ List.replicate (5 - (lg_sl [.ref (g.2.2.1 5), .int x1, .int x2, .int x3, .int x4]).length) Slot.unset).toArray = ls at hl ⊢
  have hl : lv_has ls 5 [(0, .ref (g.2.2.1 5)), (1, .int x1), (2, .int x2), (3, .int x3), (4, .int x4)] := hl
  unfold f_X5_addYears at hf
  suffices K9 : ∀ (H : Heap) (locs : List Loc), va_P g.1 vwCl (wd_5 g S5) H → va_D A (wd_5 g S5) → va_S A s.heap H locs → (if inb (S5.1 13) 24 = true then (if inb (S5.1 13) 24 = true then ((f_X5_add N (sA (sA S5 8 (upd (S5.2.2 8) (Int32.toNatClampNeg (S5.1 13)) x1)) 9 (upd (S5.2.2 9) (Int32.toNatClampNeg (S5.1 13)) x2)) 0 x3 x4).bind (fun r25 => some ((r25.1), (r25.2)))) else none) else none) = some res → W p l e (headSpec wsX5_addYears { frames := 1, cells := 0, slots := 0, locals := 23 }).room s m ([.ref (g.2.2.1 5), .int x1, .int x2, .int x3, .int x4] : List Value).toArray below meth c H locs 0 0 (MQ below (rwQi g (wd_5 g (res.2)) A (res.1)) ([.ref (g.2.2.1 5), .int x1, .int x2, .int x3, .int x4] : List Value).toArray s 0 0 A) (F0 m 0 ls []) from K9 s.heap [] hP hD hS hf
  clear hP hD hS hf
  intro H locs hP hD hS hf
  refine lv_aload_n (pc := 0) hx hb dX5_addYears_0 rfl (lv_at hl 0 rfl) ?_
  refine va_get (D := g.1) (ci := 5) (v := .ref (g.2.2.2 5 8)) (C := RX5) (T := TX5) (N := 15) (pc := 1) hx hb hts (fun _ h => List.mem_cons_of_mem _ (List.mem_append_right _ h)) hown hK hP 0 rfl rfl 8 (by decide) (hts _ q_X5_addYears_0) (fun _ h9 => h9) rfl dX5_addYears_1 ?_
  refine lv_aload_n (pc := 4) hx hb dX5_addYears_4 rfl (lv_at hl 0 rfl) ?_
  refine va_get (D := g.1) (ci := 5) (v := .int (S5.1 13)) (C := RX5) (T := TX5) (N := 15) (pc := 5) hx hb hts (fun _ h => List.mem_cons_of_mem _ (List.mem_append_right _ h)) hown hK hP 0 rfl rfl 13 (by decide) (hts _ q_X5_addYears_1) (fun _ h9 => h9) rfl dX5_addYears_5 ?_
  refine lv_iload_n (pc := 8) hx hb dX5_addYears_8 rfl (lv_at hl 1 rfl) ?_
  obtain ⟨b9, hf⟩ := gdE hf
  refine va_iast (D := g.1) (tys := tyl g) (f := (S5.2.2 8)) (pc := 9) hx hb hK hP hD hS 8 0 rfl rfl (inbV b9) dX5_addYears_9 (fun H locs hP hD hS => ?_)
  have hP := u_5_5_8P S5 (upd (S5.2.2 8) (Int32.toNatClampNeg (S5.1 13)) x1) hP
  have hD := u_5_5_8D S5 (upd (S5.2.2 8) (Int32.toNatClampNeg (S5.1 13)) x1) hD
  refine lv_aload_n (pc := 10) hx hb dX5_addYears_10 rfl (lv_at hl 0 rfl) ?_
  refine va_get (D := g.1) (ci := 5) (v := .ref (g.2.2.2 5 9)) (C := RX5) (T := TX5) (N := 15) (pc := 11) hx hb hts (fun _ h => List.mem_cons_of_mem _ (List.mem_append_right _ h)) hown hK hP 0 rfl rfl 9 (by decide) (hts _ q_X5_addYears_2) (fun _ h9 => h9) rfl dX5_addYears_11 ?_
  refine lv_aload_n (pc := 14) hx hb dX5_addYears_14 rfl (lv_at hl 0 rfl) ?_
  refine va_get (D := g.1) (ci := 5) (v := .int (S5.1 13)) (C := RX5) (T := TX5) (N := 15) (pc := 15) hx hb hts (fun _ h => List.mem_cons_of_mem _ (List.mem_append_right _ h)) hown hK hP 0 rfl rfl 13 (by decide) (hts _ q_X5_addYears_1) (fun _ h9 => h9) rfl dX5_addYears_15 ?_
  refine lv_iload_n (pc := 18) hx hb dX5_addYears_18 rfl (lv_at hl 2 rfl) ?_
  obtain ⟨b19, hf⟩ := gdE hf
  refine va_iast (D := g.1) (tys := tyl g) (f := (S5.2.2 9)) (pc := 19) hx hb hK hP hD hS 9 0 rfl rfl (inbV b19) dX5_addYears_19 (fun H locs hP hD hS => ?_)
  have hP := u_5_5_9P (sA S5 8 (upd (S5.2.2 8) (Int32.toNatClampNeg (S5.1 13)) x1)) (upd (S5.2.2 9) (Int32.toNatClampNeg (S5.1 13)) x2) hP
  have hD := u_5_5_9D (sA S5 8 (upd (S5.2.2 8) (Int32.toNatClampNeg (S5.1 13)) x1)) (upd (S5.2.2 9) (Int32.toNatClampNeg (S5.1 13)) x2) hD
  refine lv_aload_n (pc := 20) hx hb dX5_addYears_20 rfl (lv_at hl 0 rfl) ?_
  refine lv_iconst (v := 0) (pc := 21) hx hb dX5_addYears_21 (by decide) ?_
  refine lv_iload_n (pc := 22) hx hb dX5_addYears_22 rfl (lv_at hl 3 rfl) ?_
  refine lv_iload (pc := 23) hx hb dX5_addYears_23 (lv_at hl 4 rfl) ?_
  obtain ⟨r25, e25, hf⟩ := bdE hf
  refine kuI (g := g) (A := A) (W0 := (wd_5 g (sA (sA S5 8 (upd (S5.2.2 8) (Int32.toNatClampNeg (S5.1 13)) x1)) 9 (upd (S5.2.2 9) (Int32.toNatClampNeg (S5.1 13)) x2)))) (w1 := (wd_5 g (r25.2))) (pc := 25) (As := [.int 0, .int x3, .int x4]) (rest := []) ⟨hx, hb, hml, hown, hts⟩ hK hA hP hD hS (c_X5_add l g N H.size (sA (sA S5 8 (upd (S5.2.2 8) (Int32.toNatClampNeg (S5.1 13)) x1)) 9 (upd (S5.2.2 9) (Int32.toNatClampNeg (S5.1 13)) x2)) 0 x3 x4 r25 e25) (cwV 3 hts gX5_addYears_X5_add rfl rfl rfl h_X5_add ⟨Nat.le_of_ble_eq_true rfl, Nat.le_of_ble_eq_true rfl⟩) rfl rfl rfl hl.1 rfl (Nat.le_of_ble_eq_true rfl) dX5_addYears_25 ⟨Nat.zero_le _, Nat.zero_le _⟩ (fun H locs hP hD hS => ?_)
  have hf := Option.some.inj hf
  subst hf
  exact W.iret (v := (r25.1)) hx hb hr (fun t ht hW => ⟨⟨_, (), rfl, rfl, by rw [ht]; exact hP, va_K.moved hW.alike hK, hD⟩, hS.F ht⟩) hS.2.2 dX5_addYears_28
theorem q_X5_addPaint_0 : (.fieldLink RX5 34 "PictureCourt$Proofs" "subjects" "[I" : Cond) ∈ wsX5_addPaint := by decide +kernel
theorem q_X5_addPaint_1 : (.fieldLink RX5 56 "PictureCourt$Proofs" "size" "I" : Cond) ∈ wsX5_addPaint := by decide +kernel
theorem h_X5_addPaint : yX5_addPaint.cls = RX5 ∧ yX5_addPaint.cls ≠ "java/lang/invoke/MethodHandle" ∧ yX5_addPaint.cls ≠ "java/lang/invoke/VarHandle" ∧ (parseMethodDescriptor yX5_addPaint.desc).map (fun d => d.parameters.length) = some 3 := by decide +kernel
set_option maxHeartbeats 4000000 in
set_option maxRecDepth 100000 in
theorem c_X5_addPaint (l : Launch) (g : En) (N : Nat) (sz : Nat) (S5 : St) (x1 : Int32) (x2 : Int32) (x3 : Int32) (res : Int32 × St) (hf : f_X5_addPaint N S5 x1 x2 x3 = some res) : Met l yX5_addPaint wsX5_addPaint { frames := 1, cells := 0, slots := 0, locals := 23 } (rwP g (wd_5 g S5) sz [.ref (g.2.2.1 5), .int x1, .int x2, .int x3]) (rwQi g (wd_5 g (res.2)) (va_A (wd_5 g S5) sz) (res.1)) 0 0 (va_A (wd_5 g S5) sz) := by
  refine Met.ofW (cc := cX5_addPaint) (maxL := 4) (ret := (some .int)) (by decide) rfl ?_
  intro p e s m args below meth c s₁ B hml hv
  obtain ⟨rfl, hsz, hP, hK, hD0⟩ := hv
  have hx := B.exec
  have hb := B.bytes
  have hr := B.returns
  have hts := atoms_spec (ws := wsX5_addPaint) B.pre
  have hown : s.vm.findClass RX5 = some m.cls := findClass_of_methodNamed B.named
  have hlk := B.notSynchronized
  subst hsz
  have hD := hD0.self (sz := s.heap.size)
  generalize hAe : va_A (wd_5 g S5) s.heap.size = A at hD ⊢
  have hA : ∀ q : Nat, s.heap.size ≤ q → A q := fun q h => by rw [← hAe]; exact Or.inr h
  have hS : va_S A s.heap s.heap [] := va_S.rf
  have C : cxw g A cX5_addPaint 4 (some .int) wsX5_addPaint RX5 p s m ([.ref (g.2.2.1 5), .int x1, .int x2, .int x3] : List Value).toArray meth c := ⟨⟨hx, hb, hr, hml, hown, hts, hlk⟩, hK, hA⟩
  have hl := lv_entry [.ref (g.2.2.1 5), .int x1, .int x2, .int x3] (n := 4) (Nat.le_of_ble_eq_true rfl)
  rw [lg_entry_eq]
  generalize (lg_sl [.ref (g.2.2.1 5), .int x1, .int x2, .int x3] ++ List.replicate (4 - (lg_sl [.ref (g.2.2.1 5), .int x1, .int x2, .int x3]).length) Slot.unset).toArray = ls at hl ⊢
  have hl : lv_has ls 4 [(0, .ref (g.2.2.1 5)), (1, .int x1), (2, .int x2), (3, .int x3)] := hl
  unfold f_X5_addPaint at hf
  suffices K9 : ∀ (H : Heap) (locs : List Loc), va_P g.1 vwCl (wd_5 g S5) H → va_D A (wd_5 g S5) → va_S A s.heap H locs → (if inb (S5.1 13) 24 = true then ((f_X5_add N (sA S5 6 (upd (S5.2.2 6) (Int32.toNatClampNeg (S5.1 13)) x1)) 1 x2 x3).bind (fun r14 => some ((r14.1), (r14.2)))) else none) = some res → W p l e (headSpec wsX5_addPaint { frames := 1, cells := 0, slots := 0, locals := 23 }).room s m ([.ref (g.2.2.1 5), .int x1, .int x2, .int x3] : List Value).toArray below meth c H locs 0 0 (MQ below (rwQi g (wd_5 g (res.2)) A (res.1)) ([.ref (g.2.2.1 5), .int x1, .int x2, .int x3] : List Value).toArray s 0 0 A) (F0 m 0 ls []) from K9 s.heap [] hP hD hS hf
  clear hP hD hS hf
  intro H locs hP hD hS hf
  refine lv_aload_n (pc := 0) hx hb dX5_addPaint_0 rfl (lv_at hl 0 rfl) ?_
  refine va_get (D := g.1) (ci := 5) (v := .ref (g.2.2.2 5 6)) (C := RX5) (T := TX5) (N := 15) (pc := 1) hx hb hts (fun _ h => List.mem_cons_of_mem _ (List.mem_append_right _ h)) hown hK hP 0 rfl rfl 6 (by decide) (hts _ q_X5_addPaint_0) (fun _ h9 => h9) rfl dX5_addPaint_1 ?_
  refine lv_aload_n (pc := 4) hx hb dX5_addPaint_4 rfl (lv_at hl 0 rfl) ?_
  refine va_get (D := g.1) (ci := 5) (v := .int (S5.1 13)) (C := RX5) (T := TX5) (N := 15) (pc := 5) hx hb hts (fun _ h => List.mem_cons_of_mem _ (List.mem_append_right _ h)) hown hK hP 0 rfl rfl 13 (by decide) (hts _ q_X5_addPaint_1) (fun _ h9 => h9) rfl dX5_addPaint_5 ?_
  refine lv_iload_n (pc := 8) hx hb dX5_addPaint_8 rfl (lv_at hl 1 rfl) ?_
  obtain ⟨b9, hf⟩ := gdE hf
  refine va_iast (D := g.1) (tys := tyl g) (f := (S5.2.2 6)) (pc := 9) hx hb hK hP hD hS 6 0 rfl rfl (inbV b9) dX5_addPaint_9 (fun H locs hP hD hS => ?_)
  have hP := u_5_5_6P S5 (upd (S5.2.2 6) (Int32.toNatClampNeg (S5.1 13)) x1) hP
  have hD := u_5_5_6D S5 (upd (S5.2.2 6) (Int32.toNatClampNeg (S5.1 13)) x1) hD
  refine lv_aload_n (pc := 10) hx hb dX5_addPaint_10 rfl (lv_at hl 0 rfl) ?_
  refine lv_iconst (v := 1) (pc := 11) hx hb dX5_addPaint_11 (by decide) ?_
  refine lv_iload_n (pc := 12) hx hb dX5_addPaint_12 rfl (lv_at hl 2 rfl) ?_
  refine lv_iload_n (pc := 13) hx hb dX5_addPaint_13 rfl (lv_at hl 3 rfl) ?_
  obtain ⟨r14, e14, hf⟩ := bdE hf
  refine kuI (g := g) (A := A) (W0 := (wd_5 g (sA S5 6 (upd (S5.2.2 6) (Int32.toNatClampNeg (S5.1 13)) x1)))) (w1 := (wd_5 g (r14.2))) (pc := 14) (As := [.int 1, .int x2, .int x3]) (rest := []) ⟨hx, hb, hml, hown, hts⟩ hK hA hP hD hS (c_X5_add l g N H.size (sA S5 6 (upd (S5.2.2 6) (Int32.toNatClampNeg (S5.1 13)) x1)) 1 x2 x3 r14 e14) (cwV 3 hts gX5_addPaint_X5_add rfl rfl rfl h_X5_add ⟨Nat.le_of_ble_eq_true rfl, Nat.le_of_ble_eq_true rfl⟩) rfl rfl rfl hl.1 rfl (Nat.le_of_ble_eq_true rfl) dX5_addPaint_14 ⟨Nat.zero_le _, Nat.zero_le _⟩ (fun H locs hP hD hS => ?_)
  have hf := Option.some.inj hf
  subst hf
  exact W.iret (v := (r14.1)) hx hb hr (fun t ht hW => ⟨⟨_, (), rfl, rfl, by rw [ht]; exact hP, va_K.moved hW.alike hK, hD⟩, hS.F ht⟩) hS.2.2 dX5_addPaint_17
theorem q_X5_addRings_0 : (.fieldLink RX5 40 "PictureCourt$Proofs" "froms" "[I" : Cond) ∈ wsX5_addRings := by decide +kernel
theorem q_X5_addRings_1 : (.fieldLink RX5 56 "PictureCourt$Proofs" "size" "I" : Cond) ∈ wsX5_addRings := by decide +kernel
theorem q_X5_addRings_2 : (.fieldLink RX5 34 "PictureCourt$Proofs" "subjects" "[I" : Cond) ∈ wsX5_addRings := by decide +kernel
theorem h_X5_addRings : yX5_addRings.cls = RX5 ∧ yX5_addRings.cls ≠ "java/lang/invoke/MethodHandle" ∧ yX5_addRings.cls ≠ "java/lang/invoke/VarHandle" ∧ (parseMethodDescriptor yX5_addRings.desc).map (fun d => d.parameters.length) = some 4 := by decide +kernel
set_option maxHeartbeats 4000000 in
set_option maxRecDepth 100000 in
theorem c_X5_addRings (l : Launch) (g : En) (N : Nat) (sz : Nat) (S5 : St) (x1 : Int32) (x2 : Int32) (x3 : Int32) (x4 : Int32) (res : Int32 × St) (hf : f_X5_addRings N S5 x1 x2 x3 x4 = some res) : Met l yX5_addRings wsX5_addRings { frames := 1, cells := 0, slots := 0, locals := 23 } (rwP g (wd_5 g S5) sz [.ref (g.2.2.1 5), .int x1, .int x2, .int x3, .int x4]) (rwQi g (wd_5 g (res.2)) (va_A (wd_5 g S5) sz) (res.1)) 0 0 (va_A (wd_5 g S5) sz) := by
  refine Met.ofW (cc := cX5_addRings) (maxL := 5) (ret := (some .int)) (by decide) rfl ?_
  intro p e s m args below meth c s₁ B hml hv
  obtain ⟨rfl, hsz, hP, hK, hD0⟩ := hv
  have hx := B.exec
  have hb := B.bytes
  have hr := B.returns
  have hts := atoms_spec (ws := wsX5_addRings) B.pre
  have hown : s.vm.findClass RX5 = some m.cls := findClass_of_methodNamed B.named
  have hlk := B.notSynchronized
  subst hsz
  have hD := hD0.self (sz := s.heap.size)
  generalize hAe : va_A (wd_5 g S5) s.heap.size = A at hD ⊢
  have hA : ∀ q : Nat, s.heap.size ≤ q → A q := fun q h => by rw [← hAe]; exact Or.inr h
  have hS : va_S A s.heap s.heap [] := va_S.rf
  have C : cxw g A cX5_addRings 5 (some .int) wsX5_addRings RX5 p s m ([.ref (g.2.2.1 5), .int x1, .int x2, .int x3, .int x4] : List Value).toArray meth c := ⟨⟨hx, hb, hr, hml, hown, hts, hlk⟩, hK, hA⟩
  have hl := lv_entry [.ref (g.2.2.1 5), .int x1, .int x2, .int x3, .int x4] (n := 5) (Nat.le_of_ble_eq_true rfl)
  rw [lg_entry_eq]
  generalize (lg_sl [.ref (g.2.2.1 5), .int x1, .int x2, .int x3, .int x4] ++ List.replicate (5 - (lg_sl [.ref (g.2.2.1 5), .int x1, .int x2, .int x3, .int x4]).length) Slot.unset).toArray = ls at hl ⊢
  have hl : lv_has ls 5 [(0, .ref (g.2.2.1 5)), (1, .int x1), (2, .int x2), (3, .int x3), (4, .int x4)] := hl
  unfold f_X5_addRings at hf
  suffices K9 : ∀ (H : Heap) (locs : List Loc), va_P g.1 vwCl (wd_5 g S5) H → va_D A (wd_5 g S5) → va_S A s.heap H locs → (if inb (S5.1 13) 24 = true then (if inb (S5.1 13) 24 = true then ((f_X5_add N (sA (sA S5 8 (upd (S5.2.2 8) (Int32.toNatClampNeg (S5.1 13)) x1)) 6 (upd (S5.2.2 6) (Int32.toNatClampNeg (S5.1 13)) x2)) 2 x3 x4).bind (fun r25 => some ((r25.1), (r25.2)))) else none) else none) = some res → W p l e (headSpec wsX5_addRings { frames := 1, cells := 0, slots := 0, locals := 23 }).room s m ([.ref (g.2.2.1 5), .int x1, .int x2, .int x3, .int x4] : List Value).toArray below meth c H locs 0 0 (MQ below (rwQi g (wd_5 g (res.2)) A (res.1)) ([.ref (g.2.2.1 5), .int x1, .int x2, .int x3, .int x4] : List Value).toArray s 0 0 A) (F0 m 0 ls []) from K9 s.heap [] hP hD hS hf
  clear hP hD hS hf
  intro H locs hP hD hS hf
  refine lv_aload_n (pc := 0) hx hb dX5_addRings_0 rfl (lv_at hl 0 rfl) ?_
  refine va_get (D := g.1) (ci := 5) (v := .ref (g.2.2.2 5 8)) (C := RX5) (T := TX5) (N := 15) (pc := 1) hx hb hts (fun _ h => List.mem_cons_of_mem _ (List.mem_append_right _ h)) hown hK hP 0 rfl rfl 8 (by decide) (hts _ q_X5_addRings_0) (fun _ h9 => h9) rfl dX5_addRings_1 ?_
  refine lv_aload_n (pc := 4) hx hb dX5_addRings_4 rfl (lv_at hl 0 rfl) ?_
  refine va_get (D := g.1) (ci := 5) (v := .int (S5.1 13)) (C := RX5) (T := TX5) (N := 15) (pc := 5) hx hb hts (fun _ h => List.mem_cons_of_mem _ (List.mem_append_right _ h)) hown hK hP 0 rfl rfl 13 (by decide) (hts _ q_X5_addRings_1) (fun _ h9 => h9) rfl dX5_addRings_5 ?_
  refine lv_iload_n (pc := 8) hx hb dX5_addRings_8 rfl (lv_at hl 1 rfl) ?_
  obtain ⟨b9, hf⟩ := gdE hf
  refine va_iast (D := g.1) (tys := tyl g) (f := (S5.2.2 8)) (pc := 9) hx hb hK hP hD hS 8 0 rfl rfl (inbV b9) dX5_addRings_9 (fun H locs hP hD hS => ?_)
  have hP := u_5_5_8P S5 (upd (S5.2.2 8) (Int32.toNatClampNeg (S5.1 13)) x1) hP
  have hD := u_5_5_8D S5 (upd (S5.2.2 8) (Int32.toNatClampNeg (S5.1 13)) x1) hD
  refine lv_aload_n (pc := 10) hx hb dX5_addRings_10 rfl (lv_at hl 0 rfl) ?_
  refine va_get (D := g.1) (ci := 5) (v := .ref (g.2.2.2 5 6)) (C := RX5) (T := TX5) (N := 15) (pc := 11) hx hb hts (fun _ h => List.mem_cons_of_mem _ (List.mem_append_right _ h)) hown hK hP 0 rfl rfl 6 (by decide) (hts _ q_X5_addRings_2) (fun _ h9 => h9) rfl dX5_addRings_11 ?_
  refine lv_aload_n (pc := 14) hx hb dX5_addRings_14 rfl (lv_at hl 0 rfl) ?_
  refine va_get (D := g.1) (ci := 5) (v := .int (S5.1 13)) (C := RX5) (T := TX5) (N := 15) (pc := 15) hx hb hts (fun _ h => List.mem_cons_of_mem _ (List.mem_append_right _ h)) hown hK hP 0 rfl rfl 13 (by decide) (hts _ q_X5_addRings_1) (fun _ h9 => h9) rfl dX5_addRings_15 ?_
  refine lv_iload_n (pc := 18) hx hb dX5_addRings_18 rfl (lv_at hl 2 rfl) ?_
  obtain ⟨b19, hf⟩ := gdE hf
  refine va_iast (D := g.1) (tys := tyl g) (f := (S5.2.2 6)) (pc := 19) hx hb hK hP hD hS 6 0 rfl rfl (inbV b19) dX5_addRings_19 (fun H locs hP hD hS => ?_)
  have hP := u_5_5_6P (sA S5 8 (upd (S5.2.2 8) (Int32.toNatClampNeg (S5.1 13)) x1)) (upd (S5.2.2 6) (Int32.toNatClampNeg (S5.1 13)) x2) hP
  have hD := u_5_5_6D (sA S5 8 (upd (S5.2.2 8) (Int32.toNatClampNeg (S5.1 13)) x1)) (upd (S5.2.2 6) (Int32.toNatClampNeg (S5.1 13)) x2) hD
  refine lv_aload_n (pc := 20) hx hb dX5_addRings_20 rfl (lv_at hl 0 rfl) ?_
  refine lv_iconst (v := 2) (pc := 21) hx hb dX5_addRings_21 (by decide) ?_
  refine lv_iload_n (pc := 22) hx hb dX5_addRings_22 rfl (lv_at hl 3 rfl) ?_
  refine lv_iload (pc := 23) hx hb dX5_addRings_23 (lv_at hl 4 rfl) ?_
  obtain ⟨r25, e25, hf⟩ := bdE hf
  refine kuI (g := g) (A := A) (W0 := (wd_5 g (sA (sA S5 8 (upd (S5.2.2 8) (Int32.toNatClampNeg (S5.1 13)) x1)) 6 (upd (S5.2.2 6) (Int32.toNatClampNeg (S5.1 13)) x2)))) (w1 := (wd_5 g (r25.2))) (pc := 25) (As := [.int 2, .int x3, .int x4]) (rest := []) ⟨hx, hb, hml, hown, hts⟩ hK hA hP hD hS (c_X5_add l g N H.size (sA (sA S5 8 (upd (S5.2.2 8) (Int32.toNatClampNeg (S5.1 13)) x1)) 6 (upd (S5.2.2 6) (Int32.toNatClampNeg (S5.1 13)) x2)) 2 x3 x4 r25 e25) (cwV 3 hts gX5_addRings_X5_add rfl rfl rfl h_X5_add ⟨Nat.le_of_ble_eq_true rfl, Nat.le_of_ble_eq_true rfl⟩) rfl rfl rfl hl.1 rfl (Nat.le_of_ble_eq_true rfl) dX5_addRings_25 ⟨Nat.zero_le _, Nat.zero_le _⟩ (fun H locs hP hD hS => ?_)
  have hf := Option.some.inj hf
  subst hf
  exact W.iret (v := (r25.1)) hx hb hr (fun t ht hW => ⟨⟨_, (), rfl, rfl, by rw [ht]; exact hP, va_K.moved hW.alike hK, hD⟩, hS.F ht⟩) hS.2.2 dX5_addRings_28
theorem q_X5_addThreads_0 : (.fieldLink RX5 34 "PictureCourt$Proofs" "subjects" "[I" : Cond) ∈ wsX5_addThreads := by decide +kernel
theorem q_X5_addThreads_1 : (.fieldLink RX5 56 "PictureCourt$Proofs" "size" "I" : Cond) ∈ wsX5_addThreads := by decide +kernel
theorem q_X5_addThreads_2 : (.fieldLink RX5 37 "PictureCourt$Proofs" "otherRows" "[I" : Cond) ∈ wsX5_addThreads := by decide +kernel
theorem q_X5_addThreads_3 : (.fieldLink RX5 40 "PictureCourt$Proofs" "froms" "[I" : Cond) ∈ wsX5_addThreads := by decide +kernel
theorem q_X5_addThreads_4 : (.fieldLink RX5 43 "PictureCourt$Proofs" "tos" "[I" : Cond) ∈ wsX5_addThreads := by decide +kernel
theorem h_X5_addThreads : yX5_addThreads.cls = RX5 ∧ yX5_addThreads.cls ≠ "java/lang/invoke/MethodHandle" ∧ yX5_addThreads.cls ≠ "java/lang/invoke/VarHandle" ∧ (parseMethodDescriptor yX5_addThreads.desc).map (fun d => d.parameters.length) = some 6 := by decide +kernel
set_option maxHeartbeats 4000000 in
set_option maxRecDepth 100000 in
theorem c_X5_addThreads (l : Launch) (g : En) (N : Nat) (sz : Nat) (S5 : St) (x1 : Int32) (x2 : Int32) (x3 : Int32) (x4 : Int32) (x5 : Int32) (x6 : Int32) (res : Int32 × St) (hf : f_X5_addThreads N S5 x1 x2 x3 x4 x5 x6 = some res) : Met l yX5_addThreads wsX5_addThreads { frames := 1, cells := 0, slots := 0, locals := 23 } (rwP g (wd_5 g S5) sz [.ref (g.2.2.1 5), .int x1, .int x2, .int x3, .int x4, .int x5, .int x6]) (rwQi g (wd_5 g (res.2)) (va_A (wd_5 g S5) sz) (res.1)) 0 0 (va_A (wd_5 g S5) sz) := by
  refine Met.ofW (cc := cX5_addThreads) (maxL := 7) (ret := (some .int)) (by decide) rfl ?_
  intro p e s m args below meth c s₁ B hml hv
  obtain ⟨rfl, hsz, hP, hK, hD0⟩ := hv
  have hx := B.exec
  have hb := B.bytes
  have hr := B.returns
  have hts := atoms_spec (ws := wsX5_addThreads) B.pre
  have hown : s.vm.findClass RX5 = some m.cls := findClass_of_methodNamed B.named
  have hlk := B.notSynchronized
  subst hsz
  have hD := hD0.self (sz := s.heap.size)
  generalize hAe : va_A (wd_5 g S5) s.heap.size = A at hD ⊢
  have hA : ∀ q : Nat, s.heap.size ≤ q → A q := fun q h => by rw [← hAe]; exact Or.inr h
  have hS : va_S A s.heap s.heap [] := va_S.rf
  have C : cxw g A cX5_addThreads 7 (some .int) wsX5_addThreads RX5 p s m ([.ref (g.2.2.1 5), .int x1, .int x2, .int x3, .int x4, .int x5, .int x6] : List Value).toArray meth c := ⟨⟨hx, hb, hr, hml, hown, hts, hlk⟩, hK, hA⟩
  have hl := lv_entry [.ref (g.2.2.1 5), .int x1, .int x2, .int x3, .int x4, .int x5, .int x6] (n := 7) (Nat.le_of_ble_eq_true rfl)
  rw [lg_entry_eq]
  generalize (lg_sl [.ref (g.2.2.1 5), .int x1, .int x2, .int x3, .int x4, .int x5, .int x6] ++ List.replicate (7 - (lg_sl [.ref (g.2.2.1 5), .int x1, .int x2, .int x3, .int x4, .int x5, .int x6]).length) Slot.unset).toArray = ls at hl ⊢
  have hl : lv_has ls 7 [(0, .ref (g.2.2.1 5)), (1, .int x1), (2, .int x2), (3, .int x3), (4, .int x4), (5, .int x5), (6, .int x6)] := hl
  unfold f_X5_addThreads at hf
  suffices K9 : ∀ (H : Heap) (locs : List Loc), va_P g.1 vwCl (wd_5 g S5) H → va_D A (wd_5 g S5) → va_S A s.heap H locs → (if inb (S5.1 13) 24 = true then (if inb (S5.1 13) 24 = true then (if inb (S5.1 13) 24 = true then (if inb (S5.1 13) 24 = true then ((f_X5_add N (sA (sA (sA (sA S5 6 (upd (S5.2.2 6) (Int32.toNatClampNeg (S5.1 13)) x1)) 7 (upd (S5.2.2 7) (Int32.toNatClampNeg (S5.1 13)) x2)) 8 (upd (S5.2.2 8) (Int32.toNatClampNeg (S5.1 13)) x3)) 9 (upd (S5.2.2 9) (Int32.toNatClampNeg (S5.1 13)) x4)) 3 x5 x6).bind (fun r47 => some ((r47.1), (r47.2)))) else none) else none) else none) else none) = some res → W p l e (headSpec wsX5_addThreads { frames := 1, cells := 0, slots := 0, locals := 23 }).room s m ([.ref (g.2.2.1 5), .int x1, .int x2, .int x3, .int x4, .int x5, .int x6] : List Value).toArray below meth c H locs 0 0 (MQ below (rwQi g (wd_5 g (res.2)) A (res.1)) ([.ref (g.2.2.1 5), .int x1, .int x2, .int x3, .int x4, .int x5, .int x6] : List Value).toArray s 0 0 A) (F0 m 0 ls []) from K9 s.heap [] hP hD hS hf
  clear hP hD hS hf
  intro H locs hP hD hS hf
  refine lv_aload_n (pc := 0) hx hb dX5_addThreads_0 rfl (lv_at hl 0 rfl) ?_
  refine va_get (D := g.1) (ci := 5) (v := .ref (g.2.2.2 5 6)) (C := RX5) (T := TX5) (N := 15) (pc := 1) hx hb hts (fun _ h => List.mem_cons_of_mem _ (List.mem_append_right _ h)) hown hK hP 0 rfl rfl 6 (by decide) (hts _ q_X5_addThreads_0) (fun _ h9 => h9) rfl dX5_addThreads_1 ?_
  refine lv_aload_n (pc := 4) hx hb dX5_addThreads_4 rfl (lv_at hl 0 rfl) ?_
  refine va_get (D := g.1) (ci := 5) (v := .int (S5.1 13)) (C := RX5) (T := TX5) (N := 15) (pc := 5) hx hb hts (fun _ h => List.mem_cons_of_mem _ (List.mem_append_right _ h)) hown hK hP 0 rfl rfl 13 (by decide) (hts _ q_X5_addThreads_1) (fun _ h9 => h9) rfl dX5_addThreads_5 ?_
  refine lv_iload_n (pc := 8) hx hb dX5_addThreads_8 rfl (lv_at hl 1 rfl) ?_
  obtain ⟨b9, hf⟩ := gdE hf
  refine va_iast (D := g.1) (tys := tyl g) (f := (S5.2.2 6)) (pc := 9) hx hb hK hP hD hS 6 0 rfl rfl (inbV b9) dX5_addThreads_9 (fun H locs hP hD hS => ?_)
  have hP := u_5_5_6P S5 (upd (S5.2.2 6) (Int32.toNatClampNeg (S5.1 13)) x1) hP
  have hD := u_5_5_6D S5 (upd (S5.2.2 6) (Int32.toNatClampNeg (S5.1 13)) x1) hD
  refine lv_aload_n (pc := 10) hx hb dX5_addThreads_10 rfl (lv_at hl 0 rfl) ?_
  refine va_get (D := g.1) (ci := 5) (v := .ref (g.2.2.2 5 7)) (C := RX5) (T := TX5) (N := 15) (pc := 11) hx hb hts (fun _ h => List.mem_cons_of_mem _ (List.mem_append_right _ h)) hown hK hP 0 rfl rfl 7 (by decide) (hts _ q_X5_addThreads_2) (fun _ h9 => h9) rfl dX5_addThreads_11 ?_
  refine lv_aload_n (pc := 14) hx hb dX5_addThreads_14 rfl (lv_at hl 0 rfl) ?_
  refine va_get (D := g.1) (ci := 5) (v := .int (S5.1 13)) (C := RX5) (T := TX5) (N := 15) (pc := 15) hx hb hts (fun _ h => List.mem_cons_of_mem _ (List.mem_append_right _ h)) hown hK hP 0 rfl rfl 13 (by decide) (hts _ q_X5_addThreads_1) (fun _ h9 => h9) rfl dX5_addThreads_15 ?_
  refine lv_iload_n (pc := 18) hx hb dX5_addThreads_18 rfl (lv_at hl 2 rfl) ?_
  obtain ⟨b19, hf⟩ := gdE hf
  refine va_iast (D := g.1) (tys := tyl g) (f := (S5.2.2 7)) (pc := 19) hx hb hK hP hD hS 7 0 rfl rfl (inbV b19) dX5_addThreads_19 (fun H locs hP hD hS => ?_)
  have hP := u_5_5_7P (sA S5 6 (upd (S5.2.2 6) (Int32.toNatClampNeg (S5.1 13)) x1)) (upd (S5.2.2 7) (Int32.toNatClampNeg (S5.1 13)) x2) hP
  have hD := u_5_5_7D (sA S5 6 (upd (S5.2.2 6) (Int32.toNatClampNeg (S5.1 13)) x1)) (upd (S5.2.2 7) (Int32.toNatClampNeg (S5.1 13)) x2) hD
  refine lv_aload_n (pc := 20) hx hb dX5_addThreads_20 rfl (lv_at hl 0 rfl) ?_
  refine va_get (D := g.1) (ci := 5) (v := .ref (g.2.2.2 5 8)) (C := RX5) (T := TX5) (N := 15) (pc := 21) hx hb hts (fun _ h => List.mem_cons_of_mem _ (List.mem_append_right _ h)) hown hK hP 0 rfl rfl 8 (by decide) (hts _ q_X5_addThreads_3) (fun _ h9 => h9) rfl dX5_addThreads_21 ?_
  refine lv_aload_n (pc := 24) hx hb dX5_addThreads_24 rfl (lv_at hl 0 rfl) ?_
  refine va_get (D := g.1) (ci := 5) (v := .int (S5.1 13)) (C := RX5) (T := TX5) (N := 15) (pc := 25) hx hb hts (fun _ h => List.mem_cons_of_mem _ (List.mem_append_right _ h)) hown hK hP 0 rfl rfl 13 (by decide) (hts _ q_X5_addThreads_1) (fun _ h9 => h9) rfl dX5_addThreads_25 ?_
  refine lv_iload_n (pc := 28) hx hb dX5_addThreads_28 rfl (lv_at hl 3 rfl) ?_
  obtain ⟨b29, hf⟩ := gdE hf
  refine va_iast (D := g.1) (tys := tyl g) (f := (S5.2.2 8)) (pc := 29) hx hb hK hP hD hS 8 0 rfl rfl (inbV b29) dX5_addThreads_29 (fun H locs hP hD hS => ?_)
  have hP := u_5_5_8P (sA (sA S5 6 (upd (S5.2.2 6) (Int32.toNatClampNeg (S5.1 13)) x1)) 7 (upd (S5.2.2 7) (Int32.toNatClampNeg (S5.1 13)) x2)) (upd (S5.2.2 8) (Int32.toNatClampNeg (S5.1 13)) x3) hP
  have hD := u_5_5_8D (sA (sA S5 6 (upd (S5.2.2 6) (Int32.toNatClampNeg (S5.1 13)) x1)) 7 (upd (S5.2.2 7) (Int32.toNatClampNeg (S5.1 13)) x2)) (upd (S5.2.2 8) (Int32.toNatClampNeg (S5.1 13)) x3) hD
  refine lv_aload_n (pc := 30) hx hb dX5_addThreads_30 rfl (lv_at hl 0 rfl) ?_
  refine va_get (D := g.1) (ci := 5) (v := .ref (g.2.2.2 5 9)) (C := RX5) (T := TX5) (N := 15) (pc := 31) hx hb hts (fun _ h => List.mem_cons_of_mem _ (List.mem_append_right _ h)) hown hK hP 0 rfl rfl 9 (by decide) (hts _ q_X5_addThreads_4) (fun _ h9 => h9) rfl dX5_addThreads_31 ?_
  refine lv_aload_n (pc := 34) hx hb dX5_addThreads_34 rfl (lv_at hl 0 rfl) ?_
  refine va_get (D := g.1) (ci := 5) (v := .int (S5.1 13)) (C := RX5) (T := TX5) (N := 15) (pc := 35) hx hb hts (fun _ h => List.mem_cons_of_mem _ (List.mem_append_right _ h)) hown hK hP 0 rfl rfl 13 (by decide) (hts _ q_X5_addThreads_1) (fun _ h9 => h9) rfl dX5_addThreads_35 ?_
  refine lv_iload (pc := 38) hx hb dX5_addThreads_38 (lv_at hl 4 rfl) ?_
  obtain ⟨b40, hf⟩ := gdE hf
  refine va_iast (D := g.1) (tys := tyl g) (f := (S5.2.2 9)) (pc := 40) hx hb hK hP hD hS 9 0 rfl rfl (inbV b40) dX5_addThreads_40 (fun H locs hP hD hS => ?_)
  have hP := u_5_5_9P (sA (sA (sA S5 6 (upd (S5.2.2 6) (Int32.toNatClampNeg (S5.1 13)) x1)) 7 (upd (S5.2.2 7) (Int32.toNatClampNeg (S5.1 13)) x2)) 8 (upd (S5.2.2 8) (Int32.toNatClampNeg (S5.1 13)) x3)) (upd (S5.2.2 9) (Int32.toNatClampNeg (S5.1 13)) x4) hP
  have hD := u_5_5_9D (sA (sA (sA S5 6 (upd (S5.2.2 6) (Int32.toNatClampNeg (S5.1 13)) x1)) 7 (upd (S5.2.2 7) (Int32.toNatClampNeg (S5.1 13)) x2)) 8 (upd (S5.2.2 8) (Int32.toNatClampNeg (S5.1 13)) x3)) (upd (S5.2.2 9) (Int32.toNatClampNeg (S5.1 13)) x4) hD
  refine lv_aload_n (pc := 41) hx hb dX5_addThreads_41 rfl (lv_at hl 0 rfl) ?_
  refine lv_iconst (v := 3) (pc := 42) hx hb dX5_addThreads_42 (by decide) ?_
  refine lv_iload (pc := 43) hx hb dX5_addThreads_43 (lv_at hl 5 rfl) ?_
  refine lv_iload (pc := 45) hx hb dX5_addThreads_45 (lv_at hl 6 rfl) ?_
  obtain ⟨r47, e47, hf⟩ := bdE hf
  refine kuI (g := g) (A := A) (W0 := (wd_5 g (sA (sA (sA (sA S5 6 (upd (S5.2.2 6) (Int32.toNatClampNeg (S5.1 13)) x1)) 7 (upd (S5.2.2 7) (Int32.toNatClampNeg (S5.1 13)) x2)) 8 (upd (S5.2.2 8) (Int32.toNatClampNeg (S5.1 13)) x3)) 9 (upd (S5.2.2 9) (Int32.toNatClampNeg (S5.1 13)) x4)))) (w1 := (wd_5 g (r47.2))) (pc := 47) (As := [.int 3, .int x5, .int x6]) (rest := []) ⟨hx, hb, hml, hown, hts⟩ hK hA hP hD hS (c_X5_add l g N H.size (sA (sA (sA (sA S5 6 (upd (S5.2.2 6) (Int32.toNatClampNeg (S5.1 13)) x1)) 7 (upd (S5.2.2 7) (Int32.toNatClampNeg (S5.1 13)) x2)) 8 (upd (S5.2.2 8) (Int32.toNatClampNeg (S5.1 13)) x3)) 9 (upd (S5.2.2 9) (Int32.toNatClampNeg (S5.1 13)) x4)) 3 x5 x6 r47 e47) (cwV 3 hts gX5_addThreads_X5_add rfl rfl rfl h_X5_add ⟨Nat.le_of_ble_eq_true rfl, Nat.le_of_ble_eq_true rfl⟩) rfl rfl rfl hl.1 rfl (Nat.le_of_ble_eq_true rfl) dX5_addThreads_47 ⟨Nat.zero_le _, Nat.zero_le _⟩ (fun H locs hP hD hS => ?_)
  have hf := Option.some.inj hf
  subst hf
  exact W.iret (v := (r47.1)) hx hb hr (fun t ht hW => ⟨⟨_, (), rfl, rfl, by rw [ht]; exact hP, va_K.moved hW.alike hK, hD⟩, hS.F ht⟩) hS.2.2 dX5_addThreads_50
theorem q_X5_has_0 : (.fieldLink RX5 56 "PictureCourt$Proofs" "size" "I" : Cond) ∈ wsX5_has := by decide +kernel
theorem h_X5_has : yX5_has.cls = RX5 ∧ yX5_has.cls ≠ "java/lang/invoke/MethodHandle" ∧ yX5_has.cls ≠ "java/lang/invoke/VarHandle" ∧ (parseMethodDescriptor yX5_has.desc).map (fun d => d.parameters.length) = some 1 := by decide +kernel
set_option maxHeartbeats 4000000 in
set_option maxRecDepth 100000 in
theorem c_X5_has (l : Launch) (g : En) (N : Nat) (S5 : St) (x1 : Int32) (res : Int32) (hf : f_X5_has N S5 x1 = some res) : Met l yX5_has wsX5_has { frames := 0, cells := 0, slots := 0, locals := 0 } (roP g (wd_5 g S5) [.ref (g.2.2.1 5), .int x1]) (vp_Si (fun r => r = res)) 0 0 (fun _ => False) := by
  refine Met.ofW (cc := cX5_has) (maxL := 2) (ret := (some .boolean)) (by decide) rfl ?_
  intro p e s m args below meth c s₁ B hml hv
  obtain ⟨rfl, hP, hK⟩ := hv
  have hx := B.exec
  have hb := B.bytes
  have hr := B.returns
  have hts := atoms_spec (ws := wsX5_has) B.pre
  have hown : s.vm.findClass RX5 = some m.cls := findClass_of_methodNamed B.named
  have hlk := B.notSynchronized
  have C : cxr g (wd_5 g S5) cX5_has 2 (some .boolean) wsX5_has RX5 p s m ([.ref (g.2.2.1 5), .int x1] : List Value).toArray meth c := ⟨⟨hx, hb, hr, hml, hown, hts, hlk⟩, hK, hP⟩
  have hl := lv_entry [.ref (g.2.2.1 5), .int x1] (n := 2) (Nat.le_of_ble_eq_true rfl)
  rw [lg_entry_eq]
  generalize (lg_sl [.ref (g.2.2.1 5), .int x1] ++ List.replicate (2 - (lg_sl [.ref (g.2.2.1 5), .int x1]).length) Slot.unset).toArray = ls at hl ⊢
  have hl : lv_has ls 2 [(0, .ref (g.2.2.1 5)), (1, .int x1)] := hl
  unfold f_X5_has at hf
  refine lv_iload_n (pc := 0) hx hb dX5_has_0 rfl (lv_at hl 1 rfl) ?_
  refine lv_if_lt (tgt := 16) (pc := 1) hx hb dX5_has_1 (by decide) (fun c1 => ?_) (fun c1 => ?_)
  · have hf := ft hf c1
    refine lv_iconst (v := 0) (pc := 16) hx hb dX5_has_16 (by decide) ?_
    have hf := Option.some.inj hf
    subst hf
    exact W.zret (v := 0) hx hb hr rfl (fun t ht hW => ⟨_, rfl, rfl, ht⟩) (fun _ h => by cases h) dX5_has_17
  · have hf := ff hf c1
    refine lv_iload_n (pc := 4) hx hb dX5_has_4 rfl (lv_at hl 1 rfl) ?_
    refine lv_aload_n (pc := 5) hx hb dX5_has_5 rfl (lv_at hl 0 rfl) ?_
    refine va_get (D := g.1) (ci := 5) (v := .int (S5.1 13)) (C := RX5) (T := TX5) (N := 15) (pc := 6) hx hb hts (fun _ h => List.mem_cons_of_mem _ (List.mem_append_right _ h)) hown hK hP 0 rfl rfl 13 (by decide) (hts _ q_X5_has_0) (fun _ h9 => h9) rfl dX5_has_6 ?_
    refine lv_icmp_ge (tgt := 16) (pc := 9) hx hb dX5_has_9 (by decide) (fun c9 => ?_) (fun c9 => ?_)
    · have hf := ft hf c9
      refine lv_iconst (v := 0) (pc := 16) hx hb dX5_has_16 (by decide) ?_
      have hf := Option.some.inj hf
      subst hf
      exact W.zret (v := 0) hx hb hr rfl (fun t ht hW => ⟨_, rfl, rfl, ht⟩) (fun _ h => by cases h) dX5_has_17
    · have hf := ff hf c9
      refine lv_iconst (v := 1) (pc := 12) hx hb dX5_has_12 (by decide) ?_
      refine lv_goto (tgt := 17) (pc := 13) hx hb dX5_has_13 (by decide) ?_
      have hf := Option.some.inj hf
      subst hf
      exact W.zret (v := 1) hx hb hr rfl (fun t ht hW => ⟨_, rfl, rfl, ht⟩) (fun _ h => by cases h) dX5_has_17
theorem q_X5_isStruck_0 : (.fieldLink RX5 31 "PictureCourt$Proofs" "struckDays" "[I" : Cond) ∈ wsX5_isStruck := by decide +kernel
theorem h_X5_isStruck : yX5_isStruck.cls = RX5 ∧ yX5_isStruck.cls ≠ "java/lang/invoke/MethodHandle" ∧ yX5_isStruck.cls ≠ "java/lang/invoke/VarHandle" ∧ (parseMethodDescriptor yX5_isStruck.desc).map (fun d => d.parameters.length) = some 1 := by decide +kernel
set_option maxHeartbeats 4000000 in
set_option maxRecDepth 100000 in
theorem c_X5_isStruck (l : Launch) (g : En) (N : Nat) (S5 : St) (x1 : Int32) (res : Int32) (hf : f_X5_isStruck N S5 x1 = some res) : Met l yX5_isStruck wsX5_isStruck { frames := 0, cells := 0, slots := 0, locals := 0 } (roP g (wd_5 g S5) [.ref (g.2.2.1 5), .int x1]) (vp_Si (fun r => r = res)) 0 0 (fun _ => False) := by
  refine Met.ofW (cc := cX5_isStruck) (maxL := 2) (ret := (some .boolean)) (by decide) rfl ?_
  intro p e s m args below meth c s₁ B hml hv
  obtain ⟨rfl, hP, hK⟩ := hv
  have hx := B.exec
  have hb := B.bytes
  have hr := B.returns
  have hts := atoms_spec (ws := wsX5_isStruck) B.pre
  have hown : s.vm.findClass RX5 = some m.cls := findClass_of_methodNamed B.named
  have hlk := B.notSynchronized
  have C : cxr g (wd_5 g S5) cX5_isStruck 2 (some .boolean) wsX5_isStruck RX5 p s m ([.ref (g.2.2.1 5), .int x1] : List Value).toArray meth c := ⟨⟨hx, hb, hr, hml, hown, hts, hlk⟩, hK, hP⟩
  have hl := lv_entry [.ref (g.2.2.1 5), .int x1] (n := 2) (Nat.le_of_ble_eq_true rfl)
  rw [lg_entry_eq]
  generalize (lg_sl [.ref (g.2.2.1 5), .int x1] ++ List.replicate (2 - (lg_sl [.ref (g.2.2.1 5), .int x1]).length) Slot.unset).toArray = ls at hl ⊢
  have hl : lv_has ls 2 [(0, .ref (g.2.2.1 5)), (1, .int x1)] := hl
  unfold f_X5_isStruck at hf
  refine lv_aload_n (pc := 0) hx hb dX5_isStruck_0 rfl (lv_at hl 0 rfl) ?_
  refine va_get (D := g.1) (ci := 5) (v := .ref (g.2.2.2 5 5)) (C := RX5) (T := TX5) (N := 15) (pc := 1) hx hb hts (fun _ h => List.mem_cons_of_mem _ (List.mem_append_right _ h)) hown hK hP 0 rfl rfl 5 (by decide) (hts _ q_X5_isStruck_0) (fun _ h9 => h9) rfl dX5_isStruck_1 ?_
  refine lv_iload_n (pc := 4) hx hb dX5_isStruck_4 rfl (lv_at hl 1 rfl) ?_
  obtain ⟨b5, hf⟩ := gdE hf
  refine va_iald (D := g.1) (tys := tyl g) (f := (S5.2.2 5)) (pc := 5) hx hb hK hP 5 0 rfl rfl (inbV b5) dX5_isStruck_5 ?_
  refine lv_bipush (v := (-9)) (pc := 6) hx hb dX5_isStruck_6 (by decide) ?_
  refine lv_icmp_eq (tgt := 15) (pc := 8) hx hb dX5_isStruck_8 (by decide) (fun c8 => ?_) (fun c8 => ?_)
  · have hf := ft hf c8
    refine lv_iconst (v := 0) (pc := 15) hx hb dX5_isStruck_15 (by decide) ?_
    have hf := Option.some.inj hf
    subst hf
    exact W.zret (v := 0) hx hb hr rfl (fun t ht hW => ⟨_, rfl, rfl, ht⟩) (fun _ h => by cases h) dX5_isStruck_16
  · have hf := ff hf c8
    refine lv_iconst (v := 1) (pc := 11) hx hb dX5_isStruck_11 (by decide) ?_
    refine lv_goto (tgt := 16) (pc := 12) hx hb dX5_isStruck_12 (by decide) ?_
    have hf := Option.some.inj hf
    subst hf
    exact W.zret (v := 1) hx hb hr rfl (fun t ht hW => ⟨_, rfl, rfl, ht⟩) (fun _ h => by cases h) dX5_isStruck_16
theorem q_X5_strikeOn_0 : (.fieldLink RX5 31 "PictureCourt$Proofs" "struckDays" "[I" : Cond) ∈ wsX5_strikeOn := by decide +kernel
theorem q_X5_strikeOn_1 : (.fieldLink RX5 59 "PictureCourt$Proofs" "struck" "I" : Cond) ∈ wsX5_strikeOn := by decide +kernel
theorem h_X5_strikeOn : yX5_strikeOn.cls = RX5 ∧ yX5_strikeOn.cls ≠ "java/lang/invoke/MethodHandle" ∧ yX5_strikeOn.cls ≠ "java/lang/invoke/VarHandle" ∧ (parseMethodDescriptor yX5_strikeOn.desc).map (fun d => d.parameters.length) = some 2 := by decide +kernel
set_option maxHeartbeats 4000000 in
set_option maxRecDepth 100000 in
theorem c_X5_strikeOn (l : Launch) (g : En) (N : Nat) (sz : Nat) (S5 : St) (x1 : Int32) (x2 : Int32) (res : St) (hf : f_X5_strikeOn N S5 x1 x2 = some res) : Met l yX5_strikeOn wsX5_strikeOn { frames := 0, cells := 0, slots := 0, locals := 0 } (rwP g (wd_5 g S5) sz [.ref (g.2.2.1 5), .int x1, .int x2]) (rwQv g (wd_5 g res) (va_A (wd_5 g S5) sz)) 0 0 (va_A (wd_5 g S5) sz) := by
  refine Met.ofW (cc := cX5_strikeOn) (maxL := 3) (ret := none) (by decide) rfl ?_
  intro p e s m args below meth c s₁ B hml hv
  obtain ⟨rfl, hsz, hP, hK, hD0⟩ := hv
  have hx := B.exec
  have hb := B.bytes
  have hr := B.returns
  have hts := atoms_spec (ws := wsX5_strikeOn) B.pre
  have hown : s.vm.findClass RX5 = some m.cls := findClass_of_methodNamed B.named
  have hlk := B.notSynchronized
  subst hsz
  have hD := hD0.self (sz := s.heap.size)
  generalize hAe : va_A (wd_5 g S5) s.heap.size = A at hD ⊢
  have hA : ∀ q : Nat, s.heap.size ≤ q → A q := fun q h => by rw [← hAe]; exact Or.inr h
  have hS : va_S A s.heap s.heap [] := va_S.rf
  have C : cxw g A cX5_strikeOn 3 none wsX5_strikeOn RX5 p s m ([.ref (g.2.2.1 5), .int x1, .int x2] : List Value).toArray meth c := ⟨⟨hx, hb, hr, hml, hown, hts, hlk⟩, hK, hA⟩
  have hl := lv_entry [.ref (g.2.2.1 5), .int x1, .int x2] (n := 3) (Nat.le_of_ble_eq_true rfl)
  rw [lg_entry_eq]
  generalize (lg_sl [.ref (g.2.2.1 5), .int x1, .int x2] ++ List.replicate (3 - (lg_sl [.ref (g.2.2.1 5), .int x1, .int x2]).length) Slot.unset).toArray = ls at hl ⊢
  have hl : lv_has ls 3 [(0, .ref (g.2.2.1 5)), (1, .int x1), (2, .int x2)] := hl
  unfold f_X5_strikeOn at hf
  suffices K9 : ∀ (H : Heap) (locs : List Loc), va_P g.1 vwCl (wd_5 g S5) H → va_D A (wd_5 g S5) → va_S A s.heap H locs → (if inb x1 24 = true then some ((sI (sA S5 5 (upd (S5.2.2 5) (Int32.toNatClampNeg x1) x2)) 14 ((S5.1 14) + 1))) else none) = some res → W p l e (headSpec wsX5_strikeOn { frames := 0, cells := 0, slots := 0, locals := 0 }).room s m ([.ref (g.2.2.1 5), .int x1, .int x2] : List Value).toArray below meth c H locs 0 0 (MQ below (rwQv g (wd_5 g res) A) ([.ref (g.2.2.1 5), .int x1, .int x2] : List Value).toArray s 0 0 A) (F0 m 0 ls []) from K9 s.heap [] hP hD hS hf
  clear hP hD hS hf
  intro H locs hP hD hS hf
  refine lv_aload_n (pc := 0) hx hb dX5_strikeOn_0 rfl (lv_at hl 0 rfl) ?_
  refine va_get (D := g.1) (ci := 5) (v := .ref (g.2.2.2 5 5)) (C := RX5) (T := TX5) (N := 15) (pc := 1) hx hb hts (fun _ h => List.mem_cons_of_mem _ (List.mem_append_right _ h)) hown hK hP 0 rfl rfl 5 (by decide) (hts _ q_X5_strikeOn_0) (fun _ h9 => h9) rfl dX5_strikeOn_1 ?_
  refine lv_iload_n (pc := 4) hx hb dX5_strikeOn_4 rfl (lv_at hl 1 rfl) ?_
  refine lv_iload_n (pc := 5) hx hb dX5_strikeOn_5 rfl (lv_at hl 2 rfl) ?_
  obtain ⟨b6, hf⟩ := gdE hf
  refine va_iast (D := g.1) (tys := tyl g) (f := (S5.2.2 5)) (pc := 6) hx hb hK hP hD hS 5 0 rfl rfl (inbV b6) dX5_strikeOn_6 (fun H locs hP hD hS => ?_)
  have hP := u_5_5_5P S5 (upd (S5.2.2 5) (Int32.toNatClampNeg x1) x2) hP
  have hD := u_5_5_5D S5 (upd (S5.2.2 5) (Int32.toNatClampNeg x1) x2) hD
  refine lv_aload_n (pc := 7) hx hb dX5_strikeOn_7 rfl (lv_at hl 0 rfl) ?_
  refine lv_dup (pc := 8) hx hb dX5_strikeOn_8 rfl ?_
  refine va_get (D := g.1) (ci := 5) (v := .int (S5.1 14)) (C := RX5) (T := TX5) (N := 15) (pc := 9) hx hb hts (fun _ h => List.mem_cons_of_mem _ (List.mem_append_right _ h)) hown hK hP 0 rfl rfl 14 (by decide) (hts _ q_X5_strikeOn_1) (fun _ h9 => h9) rfl dX5_strikeOn_9 ?_
  refine lv_iconst (v := 1) (pc := 12) hx hb dX5_strikeOn_12 (by decide) ?_
  refine lv_iadd (pc := 13) hx hb dX5_strikeOn_13 ?_
  refine va_put (D := g.1) (ci := 5) (v := .int ((S5.1 14) + 1)) (ty := .int) (C := RX5) (T := TX5) (N := 15) (pc := 14) hx hb hts (fun _ h => List.mem_cons_of_mem _ (List.mem_append_right _ h)) tyX5 tyX5_ok nmX5 hown hK hP hD hS 0 rfl rfl 14 (by decide) (hts _ q_X5_strikeOn_1) (fun _ h9 => h9) rfl rfl rfl rfl (Nat.le_of_ble_eq_true rfl) dX5_strikeOn_14 (fun H locs hP hD hS => ?_)
  have hP := u_5_5_14P (sA S5 5 (upd (S5.2.2 5) (Int32.toNatClampNeg x1) x2)) ((S5.1 14) + 1) hP
  have hD := u_5_5_14D (sA S5 5 (upd (S5.2.2 5) (Int32.toNatClampNeg x1) x2)) ((S5.1 14) + 1) hD
  have hf := Option.some.inj hf
  subst hf
  exact W.vret hx hb hr (fun t ht hW => ⟨⟨(), rfl, trivial, by rw [ht]; exact hP, va_K.moved hW.alike hK, hD⟩, hS.F ht⟩) hS.2.2 dX5_strikeOn_17
theorem q_X5_lacking_0 : (.fieldLink RX5 34 "PictureCourt$Proofs" "subjects" "[I" : Cond) ∈ wsX5_lacking := by decide +kernel
theorem q_X5_lacking_1 : (.methodLink RX5 77 Lib.Math.max.name : Cond) ∈ wsX5_lacking := by decide +kernel
theorem q_X5_lacking_2 : (.static Lib.Math.max.name : Cond) ∈ wsX5_lacking := by decide +kernel
theorem q_X5_lacking_3 : (.initialized "java/lang/Math" : Cond) ∈ wsX5_lacking := by decide +kernel
theorem q_X5_lacking_4 : (.code Lib.Math.max.name Lib.Math.max.code 2 (some .int) : Cond) ∈ wsX5_lacking := by decide +kernel
theorem h_X5_lacking : yX5_lacking.cls = RX5 ∧ yX5_lacking.cls ≠ "java/lang/invoke/MethodHandle" ∧ yX5_lacking.cls ≠ "java/lang/invoke/VarHandle" ∧ (parseMethodDescriptor yX5_lacking.desc).map (fun d => d.parameters.length) = some 2 := by decide +kernel
set_option maxHeartbeats 4000000 in
set_option maxRecDepth 100000 in
theorem c_X5_lacking (l : Launch) (g : En) (N : Nat) (S5 : St) (x1 : Int32) (x2 : Int32) (res : Int32) (hf : f_X5_lacking N S5 x1 x2 = some res) : Met l yX5_lacking wsX5_lacking { frames := 1, cells := 0, slots := 0, locals := 24 } (roP g (wd_5 g S5) [.ref (g.2.2.1 5), .int x1, .int x2]) (vp_Si (fun r => r = res)) 0 0 (fun _ => False) := by
  refine Met.ofW (cc := cX5_lacking) (maxL := 3) (ret := (some .int)) (by decide) rfl ?_
  intro p e s m args below meth c s₁ B hml hv
  obtain ⟨rfl, hP, hK⟩ := hv
  have hx := B.exec
  have hb := B.bytes
  have hr := B.returns
  have hts := atoms_spec (ws := wsX5_lacking) B.pre
  have hown : s.vm.findClass RX5 = some m.cls := findClass_of_methodNamed B.named
  have hlk := B.notSynchronized
  have C : cxr g (wd_5 g S5) cX5_lacking 3 (some .int) wsX5_lacking RX5 p s m ([.ref (g.2.2.1 5), .int x1, .int x2] : List Value).toArray meth c := ⟨⟨hx, hb, hr, hml, hown, hts, hlk⟩, hK, hP⟩
  have hl := lv_entry [.ref (g.2.2.1 5), .int x1, .int x2] (n := 3) (Nat.le_of_ble_eq_true rfl)
  rw [lg_entry_eq]
  generalize (lg_sl [.ref (g.2.2.1 5), .int x1, .int x2] ++ List.replicate (3 - (lg_sl [.ref (g.2.2.1 5), .int x1, .int x2]).length) Slot.unset).toArray = ls at hl ⊢
  have hl : lv_has ls 3 [(0, .ref (g.2.2.1 5)), (1, .int x1), (2, .int x2)] := hl
  unfold f_X5_lacking at hf
  refine lv_iconst (v := 0) (pc := 0) hx hb dX5_lacking_0 (by decide) ?_
  refine lv_iload_n (pc := 1) hx hb dX5_lacking_1 rfl (lv_at hl 2 rfl) ?_
  refine lv_aload_n (pc := 2) hx hb dX5_lacking_2 rfl (lv_at hl 0 rfl) ?_
  refine va_get (D := g.1) (ci := 5) (v := .ref (g.2.2.2 5 6)) (C := RX5) (T := TX5) (N := 15) (pc := 3) hx hb hts (fun _ h => List.mem_cons_of_mem _ (List.mem_append_right _ h)) hown hK hP 0 rfl rfl 6 (by decide) (hts _ q_X5_lacking_0) (fun _ h9 => h9) rfl dX5_lacking_3 ?_
  refine lv_iload_n (pc := 6) hx hb dX5_lacking_6 rfl (lv_at hl 1 rfl) ?_
  obtain ⟨b7, hf⟩ := gdE hf
  refine va_iald (D := g.1) (tys := tyl g) (f := (S5.2.2 6)) (pc := 7) hx hb hK hP 6 0 rfl rfl (inbV b7) dX5_lacking_7 ?_
  refine lv_isub (pc := 8) hx hb dX5_lacking_8 ?_
  refine va_mmax (pc := 9) hx hb (hml.trans hl.1.symm) hown (hts _ q_X5_lacking_1) (hts _ q_X5_lacking_2) (hts _ q_X5_lacking_3) (hts _ q_X5_lacking_4) (Nat.le_of_ble_eq_true rfl) (Nat.le_of_ble_eq_true rfl) (Nat.zero_le _) (Nat.zero_le _) dX5_lacking_9 ?_
  have hf := Option.some.inj hf
  subst hf
  exact W.iret (v := (if 0 < (x2 - ((S5.2.2 6) (Int32.toNatClampNeg x1))) then (x2 - ((S5.2.2 6) (Int32.toNatClampNeg x1))) else 0)) hx hb hr (fun t ht hW => ⟨_, rfl, rfl, ht⟩) (fun _ h => by cases h) dX5_lacking_12
theorem q_X5_firstYear_0 : (.fieldLink RX5 22 "PictureCourt$Proofs" "kinds" "[I" : Cond) ∈ wsX5_firstYear := by decide +kernel
theorem q_X5_firstYear_1 : (.fieldLink RX5 18 "PictureCourt$Proofs" "paintYears" "[I" : Cond) ∈ wsX5_firstYear := by decide +kernel
theorem q_X5_firstYear_2 : (.fieldLink RX5 34 "PictureCourt$Proofs" "subjects" "[I" : Cond) ∈ wsX5_firstYear := by decide +kernel
theorem q_X5_firstYear_3 : (.fieldLink RX5 40 "PictureCourt$Proofs" "froms" "[I" : Cond) ∈ wsX5_firstYear := by decide +kernel
theorem q_X5_firstYear_4 : (.fieldLink RX5 46 "PictureCourt$Proofs" "leastSap" "I" : Cond) ∈ wsX5_firstYear := by decide +kernel
theorem q_X5_firstYear_5 : (.fieldLink RX5 12 "PictureCourt$Proofs" "rows" "LPictureCourt$Rows;" : Cond) ∈ wsX5_firstYear := by decide +kernel
theorem q_X5_firstYear_6 : (.fieldLink RX5 37 "PictureCourt$Proofs" "otherRows" "[I" : Cond) ∈ wsX5_firstYear := by decide +kernel
theorem h_X5_firstYear : yX5_firstYear.cls = RX5 ∧ yX5_firstYear.cls ≠ "java/lang/invoke/MethodHandle" ∧ yX5_firstYear.cls ≠ "java/lang/invoke/VarHandle" ∧ (parseMethodDescriptor yX5_firstYear.desc).map (fun d => d.parameters.length) = some 1 := by decide +kernel
set_option maxHeartbeats 4000000 in
set_option maxRecDepth 100000 in
theorem c_X5_firstYear (l : Launch) (g : En) (N : Nat) (S5 : St) (S6 : St) (x1 : Int32) (res : Int32) (hf : f_X5_firstYear N S5 S6 x1 = some res) : Met l yX5_firstYear wsX5_firstYear { frames := 4, cells := 0, slots := 0, locals := 102 } (roP g (wd_5_6 g S5 S6) [.ref (g.2.2.1 5), .int x1]) (vp_Si (fun r => r = res)) 0 0 (fun _ => False) := by
  refine Met.ofW (cc := cX5_firstYear) (maxL := 2) (ret := (some .int)) (by decide) rfl ?_
  intro p e s m args below meth c s₁ B hml hv
  obtain ⟨rfl, hP, hK⟩ := hv
  have hx := B.exec
  have hb := B.bytes
  have hr := B.returns
  have hts := atoms_spec (ws := wsX5_firstYear) B.pre
  have hown : s.vm.findClass RX5 = some m.cls := findClass_of_methodNamed B.named
  have hlk := B.notSynchronized
  have C : cxr g (wd_5_6 g S5 S6) cX5_firstYear 2 (some .int) wsX5_firstYear RX5 p s m ([.ref (g.2.2.1 5), .int x1] : List Value).toArray meth c := ⟨⟨hx, hb, hr, hml, hown, hts, hlk⟩, hK, hP⟩
  have hl := lv_entry [.ref (g.2.2.1 5), .int x1] (n := 2) (Nat.le_of_ble_eq_true rfl)
  rw [lg_entry_eq]
  generalize (lg_sl [.ref (g.2.2.1 5), .int x1] ++ List.replicate (2 - (lg_sl [.ref (g.2.2.1 5), .int x1]).length) Slot.unset).toArray = ls at hl ⊢
  have hl : lv_has ls 2 [(0, .ref (g.2.2.1 5)), (1, .int x1)] := hl
  unfold f_X5_firstYear at hf
  refine lv_aload_n (pc := 0) hx hb dX5_firstYear_0 rfl (lv_at hl 0 rfl) ?_
  refine va_get (D := g.1) (ci := 5) (v := .ref (g.2.2.2 5 2)) (C := RX5) (T := TX5) (N := 15) (pc := 1) hx hb hts (fun _ h => List.mem_cons_of_mem _ (List.mem_append_left _ (List.mem_append_right _ h))) hown hK hP 0 rfl rfl 2 (by decide) (hts _ q_X5_firstYear_0) (fun _ h9 => h9) rfl dX5_firstYear_1 ?_
  refine lv_iload_n (pc := 4) hx hb dX5_firstYear_4 rfl (lv_at hl 1 rfl) ?_
  obtain ⟨b5, hf⟩ := gdE hf
  refine va_iald (D := g.1) (tys := tyl g) (f := (S5.2.2 2)) (pc := 5) hx hb hK hP 2 0 rfl rfl (inbV b5) dX5_firstYear_5 ?_
  by_cases c6_1 : ((S5.2.2 2) (Int32.toNatClampNeg x1)) = 1
  · have hf := ft hf c6_1
    refine lv_tableIn (tgt := 32) (pc := 6) hx hb dX5_firstYear_6 (by rw [c6_1]; decide) (by rw [c6_1]; decide) (by rw [c6_1]; rfl) (by decide) ?_
    refine lv_aload_n (pc := 32) hx hb dX5_firstYear_32 rfl (lv_at hl 0 rfl) ?_
    refine va_get (D := g.1) (ci := 5) (v := .ref (g.2.2.2 5 1)) (C := RX5) (T := TX5) (N := 15) (pc := 33) hx hb hts (fun _ h => List.mem_cons_of_mem _ (List.mem_append_left _ (List.mem_append_right _ h))) hown hK hP 0 rfl rfl 1 (by decide) (hts _ q_X5_firstYear_1) (fun _ h9 => h9) rfl dX5_firstYear_33 ?_
    refine lv_aload_n (pc := 36) hx hb dX5_firstYear_36 rfl (lv_at hl 0 rfl) ?_
    refine va_get (D := g.1) (ci := 5) (v := .ref (g.2.2.2 5 6)) (C := RX5) (T := TX5) (N := 15) (pc := 37) hx hb hts (fun _ h => List.mem_cons_of_mem _ (List.mem_append_left _ (List.mem_append_right _ h))) hown hK hP 0 rfl rfl 6 (by decide) (hts _ q_X5_firstYear_2) (fun _ h9 => h9) rfl dX5_firstYear_37 ?_
    refine lv_iload_n (pc := 40) hx hb dX5_firstYear_40 rfl (lv_at hl 1 rfl) ?_
    obtain ⟨b41, hf⟩ := gdE hf
    refine va_iald (D := g.1) (tys := tyl g) (f := (S5.2.2 6)) (pc := 41) hx hb hK hP 6 0 rfl rfl (inbV b41) dX5_firstYear_41 ?_
    obtain ⟨b42, hf⟩ := gdE hf
    refine va_iald (D := g.1) (tys := tyl g) (f := (S5.2.2 1)) (pc := 42) hx hb hK hP 1 0 rfl rfl (inbV b42) dX5_firstYear_42 ?_
    have hf := Option.some.inj hf
    subst hf
    exact W.iret (v := ((S5.2.2 1) (Int32.toNatClampNeg ((S5.2.2 6) (Int32.toNatClampNeg x1))))) hx hb hr (fun t ht hW => ⟨_, rfl, rfl, ht⟩) (fun _ h => by cases h) dX5_firstYear_43
  · have hf := ff hf c6_1
    by_cases c6_2 : ((S5.2.2 2) (Int32.toNatClampNeg x1)) = 2
    · have hf := ft hf c6_2
      refine lv_tableIn (tgt := 44) (pc := 6) hx hb dX5_firstYear_6 (by rw [c6_2]; decide) (by rw [c6_2]; decide) (by rw [c6_2]; rfl) (by decide) ?_
      refine lv_aload_n (pc := 44) hx hb dX5_firstYear_44 rfl (lv_at hl 0 rfl) ?_
      refine va_get (D := g.1) (ci := 5) (v := .ref (g.2.2.2 5 8)) (C := RX5) (T := TX5) (N := 15) (pc := 45) hx hb hts (fun _ h => List.mem_cons_of_mem _ (List.mem_append_left _ (List.mem_append_right _ h))) hown hK hP 0 rfl rfl 8 (by decide) (hts _ q_X5_firstYear_3) (fun _ h9 => h9) rfl dX5_firstYear_45 ?_
      refine lv_iload_n (pc := 48) hx hb dX5_firstYear_48 rfl (lv_at hl 1 rfl) ?_
      obtain ⟨b49, hf⟩ := gdE hf
      refine va_iald (D := g.1) (tys := tyl g) (f := (S5.2.2 8)) (pc := 49) hx hb hK hP 8 0 rfl rfl (inbV b49) dX5_firstYear_49 ?_
      refine lv_aload_n (pc := 50) hx hb dX5_firstYear_50 rfl (lv_at hl 0 rfl) ?_
      refine lv_iload_n (pc := 51) hx hb dX5_firstYear_51 rfl (lv_at hl 1 rfl) ?_
      refine lv_aload_n (pc := 52) hx hb dX5_firstYear_52 rfl (lv_at hl 0 rfl) ?_
      refine va_get (D := g.1) (ci := 5) (v := .int (S5.1 10)) (C := RX5) (T := TX5) (N := 15) (pc := 53) hx hb hts (fun _ h => List.mem_cons_of_mem _ (List.mem_append_left _ (List.mem_append_right _ h))) hown hK hP 0 rfl rfl 10 (by decide) (hts _ q_X5_firstYear_4) (fun _ h9 => h9) rfl dX5_firstYear_53 ?_
      obtain ⟨r56, e56, hf⟩ := bdE hf
      refine krI (g := g) (wc := (wd_5 g S5)) (pc := 56) (As := [.int x1, .int (S5.1 10)]) (rest := [.int ((S5.2.2 8) (Int32.toNatClampNeg x1))]) ⟨hx, hb, hml, hown, hts⟩ (c_X5_lacking l g N S5 x1 (S5.1 10) r56 e56) (cwV 2 hts gX5_firstYear_X5_lacking rfl rfl rfl h_X5_lacking ⟨Nat.le_of_ble_eq_true rfl, Nat.le_of_ble_eq_true rfl⟩) hK (hP.sub (ws' := (wd_5 g S5)) [0, 1, 2, 3, 4, 5, 6, 7, 8, 9] rfl) rfl rfl rfl hl.1 rfl (Nat.le_of_ble_eq_true rfl) dX5_firstYear_56 ⟨Nat.zero_le _, Nat.zero_le _⟩ ?_
      refine lv_iadd (pc := 59) hx hb dX5_firstYear_59 ?_
      have hf := Option.some.inj hf
      subst hf
      exact W.iret (v := (((S5.2.2 8) (Int32.toNatClampNeg x1)) + r56)) hx hb hr (fun t ht hW => ⟨_, rfl, rfl, ht⟩) (fun _ h => by cases h) dX5_firstYear_60
    · have hf := ff hf c6_2
      by_cases c6_3 : ((S5.2.2 2) (Int32.toNatClampNeg x1)) = 3
      · have hf := ft hf c6_3
        refine lv_tableIn (tgt := 61) (pc := 6) hx hb dX5_firstYear_6 (by rw [c6_3]; decide) (by rw [c6_3]; decide) (by rw [c6_3]; rfl) (by decide) ?_
        refine lv_aload_n (pc := 61) hx hb dX5_firstYear_61 rfl (lv_at hl 0 rfl) ?_
        refine va_get (D := g.1) (ci := 5) (v := .ref (g.2.2.1 6)) (C := RX5) (T := TX5) (N := 15) (pc := 62) hx hb hts (fun _ h => List.mem_cons_of_mem _ (List.mem_append_left _ (List.mem_append_right _ h))) hown hK hP 0 rfl rfl 0 (by decide) (hts _ q_X5_firstYear_5) (fun _ h9 => h9) rfl dX5_firstYear_62 ?_
        refine lv_aload_n (pc := 65) hx hb dX5_firstYear_65 rfl (lv_at hl 0 rfl) ?_
        refine va_get (D := g.1) (ci := 5) (v := .ref (g.2.2.2 5 6)) (C := RX5) (T := TX5) (N := 15) (pc := 66) hx hb hts (fun _ h => List.mem_cons_of_mem _ (List.mem_append_left _ (List.mem_append_right _ h))) hown hK hP 0 rfl rfl 6 (by decide) (hts _ q_X5_firstYear_2) (fun _ h9 => h9) rfl dX5_firstYear_66 ?_
        refine lv_iload_n (pc := 69) hx hb dX5_firstYear_69 rfl (lv_at hl 1 rfl) ?_
        obtain ⟨b70, hf⟩ := gdE hf
        refine va_iald (D := g.1) (tys := tyl g) (f := (S5.2.2 6)) (pc := 70) hx hb hK hP 6 0 rfl rfl (inbV b70) dX5_firstYear_70 ?_
        refine lv_aload_n (pc := 71) hx hb dX5_firstYear_71 rfl (lv_at hl 0 rfl) ?_
        refine va_get (D := g.1) (ci := 5) (v := .ref (g.2.2.2 5 7)) (C := RX5) (T := TX5) (N := 15) (pc := 72) hx hb hts (fun _ h => List.mem_cons_of_mem _ (List.mem_append_left _ (List.mem_append_right _ h))) hown hK hP 0 rfl rfl 7 (by decide) (hts _ q_X5_firstYear_6) (fun _ h9 => h9) rfl dX5_firstYear_72 ?_
        refine lv_iload_n (pc := 75) hx hb dX5_firstYear_75 rfl (lv_at hl 1 rfl) ?_
        obtain ⟨b76, hf⟩ := gdE hf
        refine va_iald (D := g.1) (tys := tyl g) (f := (S5.2.2 7)) (pc := 76) hx hb hK hP 7 0 rfl rfl (inbV b76) dX5_firstYear_76 ?_
        obtain ⟨r77, e77, hf⟩ := bdE hf
        refine krI (g := g) (wc := (wd_6 g S6)) (pc := 77) (As := [.int ((S5.2.2 6) (Int32.toNatClampNeg x1)), .int ((S5.2.2 7) (Int32.toNatClampNeg x1))]) (rest := []) ⟨hx, hb, hml, hown, hts⟩ (c_X6_isSure l g N S6 ((S5.2.2 6) (Int32.toNatClampNeg x1)) ((S5.2.2 7) (Int32.toNatClampNeg x1)) r77 e77) (cwV 2 hts gX5_firstYear_X6_isSure rfl rfl rfl h_X6_isSure ⟨Nat.le_of_ble_eq_true rfl, Nat.le_of_ble_eq_true rfl⟩) hK (hP.sub (ws' := (wd_6 g S6)) [10, 11, 12] rfl) rfl rfl rfl hl.1 rfl (Nat.le_of_ble_eq_true rfl) dX5_firstYear_77 ⟨Nat.zero_le _, Nat.zero_le _⟩ ?_
        refine lv_if_eq (tgt := 92) (pc := 80) hx hb dX5_firstYear_80 (by decide) (fun c80 => ?_) (fun c80 => ?_)
        · have hf := ft hf c80
          refine lv_sipush (v := 1000) (pc := 92) hx hb dX5_firstYear_92 (by decide) ?_
          have hf := Option.some.inj hf
          subst hf
          exact W.iret (v := 1000) hx hb hr (fun t ht hW => ⟨_, rfl, rfl, ht⟩) (fun _ h => by cases h) dX5_firstYear_95
        · have hf := ff hf c80
          refine lv_aload_n (pc := 83) hx hb dX5_firstYear_83 rfl (lv_at hl 0 rfl) ?_
          refine va_get (D := g.1) (ci := 5) (v := .ref (g.2.2.2 5 8)) (C := RX5) (T := TX5) (N := 15) (pc := 84) hx hb hts (fun _ h => List.mem_cons_of_mem _ (List.mem_append_left _ (List.mem_append_right _ h))) hown hK hP 0 rfl rfl 8 (by decide) (hts _ q_X5_firstYear_3) (fun _ h9 => h9) rfl dX5_firstYear_84 ?_
          refine lv_iload_n (pc := 87) hx hb dX5_firstYear_87 rfl (lv_at hl 1 rfl) ?_
          obtain ⟨b88, hf⟩ := gdE hf
          refine va_iald (D := g.1) (tys := tyl g) (f := (S5.2.2 8)) (pc := 88) hx hb hK hP 8 0 rfl rfl (inbV b88) dX5_firstYear_88 ?_
          refine lv_goto (tgt := 95) (pc := 89) hx hb dX5_firstYear_89 (by decide) ?_
          have hf := Option.some.inj hf
          subst hf
          exact W.iret (v := ((S5.2.2 8) (Int32.toNatClampNeg x1))) hx hb hr (fun t ht hW => ⟨_, rfl, rfl, ht⟩) (fun _ h => by cases h) dX5_firstYear_95
      · have hf := ff hf c6_3
        refine lv_tableOut (tgt := 96) (pc := 6) hx hb dX5_firstYear_6 (swO (fun z h1 h2 => by rcases (show z = 1 ∨ z = 2 ∨ z = 3 by omega) with rfl | rfl | rfl <;> first | exact swN c6_1 rfl | exact swN c6_2 rfl | exact swN c6_3 rfl)) (by decide) ?_
        refine lv_aload_n (pc := 96) hx hb dX5_firstYear_96 rfl (lv_at hl 0 rfl) ?_
        refine va_get (D := g.1) (ci := 5) (v := .ref (g.2.2.2 5 8)) (C := RX5) (T := TX5) (N := 15) (pc := 97) hx hb hts (fun _ h => List.mem_cons_of_mem _ (List.mem_append_left _ (List.mem_append_right _ h))) hown hK hP 0 rfl rfl 8 (by decide) (hts _ q_X5_firstYear_3) (fun _ h9 => h9) rfl dX5_firstYear_97 ?_
        refine lv_iload_n (pc := 100) hx hb dX5_firstYear_100 rfl (lv_at hl 1 rfl) ?_
        obtain ⟨b101, hf⟩ := gdE hf
        refine va_iald (D := g.1) (tys := tyl g) (f := (S5.2.2 8)) (pc := 101) hx hb hK hP 8 0 rfl rfl (inbV b101) dX5_firstYear_101 ?_
        have hf := Option.some.inj hf
        subst hf
        exact W.iret (v := ((S5.2.2 8) (Int32.toNatClampNeg x1))) hx hb hr (fun t ht hW => ⟨_, rfl, rfl, ht⟩) (fun _ h => by cases h) dX5_firstYear_102
theorem q_X5_lastYear_0 : (.fieldLink RX5 22 "PictureCourt$Proofs" "kinds" "[I" : Cond) ∈ wsX5_lastYear := by decide +kernel
theorem q_X5_lastYear_1 : (.fieldLink RX5 40 "PictureCourt$Proofs" "froms" "[I" : Cond) ∈ wsX5_lastYear := by decide +kernel
theorem q_X5_lastYear_2 : (.fieldLink RX5 50 "PictureCourt$Proofs" "mostSap" "I" : Cond) ∈ wsX5_lastYear := by decide +kernel
theorem q_X5_lastYear_3 : (.fieldLink RX5 53 "PictureCourt$Proofs" "yearsToUse" "I" : Cond) ∈ wsX5_lastYear := by decide +kernel
theorem q_X5_lastYear_4 : (.methodLink RX5 86 Lib.Math.min.name : Cond) ∈ wsX5_lastYear := by decide +kernel
theorem q_X5_lastYear_5 : (.static Lib.Math.min.name : Cond) ∈ wsX5_lastYear := by decide +kernel
theorem q_X5_lastYear_6 : (.initialized "java/lang/Math" : Cond) ∈ wsX5_lastYear := by decide +kernel
theorem q_X5_lastYear_7 : (.code Lib.Math.min.name Lib.Math.min.code 2 (some .int) : Cond) ∈ wsX5_lastYear := by decide +kernel
theorem q_X5_lastYear_8 : (.fieldLink RX5 12 "PictureCourt$Proofs" "rows" "LPictureCourt$Rows;" : Cond) ∈ wsX5_lastYear := by decide +kernel
theorem q_X5_lastYear_9 : (.fieldLink RX5 34 "PictureCourt$Proofs" "subjects" "[I" : Cond) ∈ wsX5_lastYear := by decide +kernel
theorem q_X5_lastYear_10 : (.fieldLink RX5 37 "PictureCourt$Proofs" "otherRows" "[I" : Cond) ∈ wsX5_lastYear := by decide +kernel
theorem q_X5_lastYear_11 : (.fieldLink RX5 43 "PictureCourt$Proofs" "tos" "[I" : Cond) ∈ wsX5_lastYear := by decide +kernel
theorem h_X5_lastYear : yX5_lastYear.cls = RX5 ∧ yX5_lastYear.cls ≠ "java/lang/invoke/MethodHandle" ∧ yX5_lastYear.cls ≠ "java/lang/invoke/VarHandle" ∧ (parseMethodDescriptor yX5_lastYear.desc).map (fun d => d.parameters.length) = some 1 := by decide +kernel
set_option maxHeartbeats 4000000 in
set_option maxRecDepth 100000 in
theorem c_X5_lastYear (l : Launch) (g : En) (N : Nat) (S5 : St) (S6 : St) (x1 : Int32) (res : Int32) (hf : f_X5_lastYear N S5 S6 x1 = some res) : Met l yX5_lastYear wsX5_lastYear { frames := 4, cells := 0, slots := 0, locals := 102 } (roP g (wd_5_6 g S5 S6) [.ref (g.2.2.1 5), .int x1]) (vp_Si (fun r => r = res)) 0 0 (fun _ => False) := by
  refine Met.ofW (cc := cX5_lastYear) (maxL := 2) (ret := (some .int)) (by decide) rfl ?_
  intro p e s m args below meth c s₁ B hml hv
  obtain ⟨rfl, hP, hK⟩ := hv
  have hx := B.exec
  have hb := B.bytes
  have hr := B.returns
  have hts := atoms_spec (ws := wsX5_lastYear) B.pre
  have hown : s.vm.findClass RX5 = some m.cls := findClass_of_methodNamed B.named
  have hlk := B.notSynchronized
  have C : cxr g (wd_5_6 g S5 S6) cX5_lastYear 2 (some .int) wsX5_lastYear RX5 p s m ([.ref (g.2.2.1 5), .int x1] : List Value).toArray meth c := ⟨⟨hx, hb, hr, hml, hown, hts, hlk⟩, hK, hP⟩
  have hl := lv_entry [.ref (g.2.2.1 5), .int x1] (n := 2) (Nat.le_of_ble_eq_true rfl)
  rw [lg_entry_eq]
  generalize (lg_sl [.ref (g.2.2.1 5), .int x1] ++ List.replicate (2 - (lg_sl [.ref (g.2.2.1 5), .int x1]).length) Slot.unset).toArray = ls at hl ⊢
  have hl : lv_has ls 2 [(0, .ref (g.2.2.1 5)), (1, .int x1)] := hl
  unfold f_X5_lastYear at hf
  refine lv_aload_n (pc := 0) hx hb dX5_lastYear_0 rfl (lv_at hl 0 rfl) ?_
  refine va_get (D := g.1) (ci := 5) (v := .ref (g.2.2.2 5 2)) (C := RX5) (T := TX5) (N := 15) (pc := 1) hx hb hts (fun _ h => List.mem_cons_of_mem _ (List.mem_append_left _ (List.mem_append_right _ h))) hown hK hP 0 rfl rfl 2 (by decide) (hts _ q_X5_lastYear_0) (fun _ h9 => h9) rfl dX5_lastYear_1 ?_
  refine lv_iload_n (pc := 4) hx hb dX5_lastYear_4 rfl (lv_at hl 1 rfl) ?_
  obtain ⟨b5, hf⟩ := gdE hf
  refine va_iald (D := g.1) (tys := tyl g) (f := (S5.2.2 2)) (pc := 5) hx hb hK hP 2 0 rfl rfl (inbV b5) dX5_lastYear_5 ?_
  by_cases c6_1 : ((S5.2.2 2) (Int32.toNatClampNeg x1)) = 1
  · have hf := ft hf c6_1
    refine lv_tableIn (tgt := 32) (pc := 6) hx hb dX5_lastYear_6 (by rw [c6_1]; decide) (by rw [c6_1]; decide) (by rw [c6_1]; rfl) (by decide) ?_
    refine lv_sipush (v := 2100) (pc := 32) hx hb dX5_lastYear_32 (by decide) ?_
    have hf := Option.some.inj hf
    subst hf
    exact W.iret (v := 2100) hx hb hr (fun t ht hW => ⟨_, rfl, rfl, ht⟩) (fun _ h => by cases h) dX5_lastYear_35
  · have hf := ff hf c6_1
    by_cases c6_2 : ((S5.2.2 2) (Int32.toNatClampNeg x1)) = 2
    · have hf := ft hf c6_2
      refine lv_tableIn (tgt := 36) (pc := 6) hx hb dX5_lastYear_6 (by rw [c6_2]; decide) (by rw [c6_2]; decide) (by rw [c6_2]; rfl) (by decide) ?_
      refine lv_sipush (v := 2100) (pc := 36) hx hb dX5_lastYear_36 (by decide) ?_
      refine lv_aload_n (pc := 39) hx hb dX5_lastYear_39 rfl (lv_at hl 0 rfl) ?_
      refine va_get (D := g.1) (ci := 5) (v := .ref (g.2.2.2 5 8)) (C := RX5) (T := TX5) (N := 15) (pc := 40) hx hb hts (fun _ h => List.mem_cons_of_mem _ (List.mem_append_left _ (List.mem_append_right _ h))) hown hK hP 0 rfl rfl 8 (by decide) (hts _ q_X5_lastYear_1) (fun _ h9 => h9) rfl dX5_lastYear_40 ?_
      refine lv_iload_n (pc := 43) hx hb dX5_lastYear_43 rfl (lv_at hl 1 rfl) ?_
      obtain ⟨b44, hf⟩ := gdE hf
      refine va_iald (D := g.1) (tys := tyl g) (f := (S5.2.2 8)) (pc := 44) hx hb hK hP 8 0 rfl rfl (inbV b44) dX5_lastYear_44 ?_
      refine lv_aload_n (pc := 45) hx hb dX5_lastYear_45 rfl (lv_at hl 0 rfl) ?_
      refine lv_iload_n (pc := 46) hx hb dX5_lastYear_46 rfl (lv_at hl 1 rfl) ?_
      refine lv_aload_n (pc := 47) hx hb dX5_lastYear_47 rfl (lv_at hl 0 rfl) ?_
      refine va_get (D := g.1) (ci := 5) (v := .int (S5.1 11)) (C := RX5) (T := TX5) (N := 15) (pc := 48) hx hb hts (fun _ h => List.mem_cons_of_mem _ (List.mem_append_left _ (List.mem_append_right _ h))) hown hK hP 0 rfl rfl 11 (by decide) (hts _ q_X5_lastYear_2) (fun _ h9 => h9) rfl dX5_lastYear_48 ?_
      obtain ⟨r51, e51, hf⟩ := bdE hf
      refine krI (g := g) (wc := (wd_5 g S5)) (pc := 51) (As := [.int x1, .int (S5.1 11)]) (rest := [.int ((S5.2.2 8) (Int32.toNatClampNeg x1)), .int 2100]) ⟨hx, hb, hml, hown, hts⟩ (c_X5_lacking l g N S5 x1 (S5.1 11) r51 e51) (cwV 2 hts gX5_lastYear_X5_lacking rfl rfl rfl h_X5_lacking ⟨Nat.le_of_ble_eq_true rfl, Nat.le_of_ble_eq_true rfl⟩) hK (hP.sub (ws' := (wd_5 g S5)) [0, 1, 2, 3, 4, 5, 6, 7, 8, 9] rfl) rfl rfl rfl hl.1 rfl (Nat.le_of_ble_eq_true rfl) dX5_lastYear_51 ⟨Nat.zero_le _, Nat.zero_le _⟩ ?_
      refine lv_iadd (pc := 54) hx hb dX5_lastYear_54 ?_
      refine lv_aload_n (pc := 55) hx hb dX5_lastYear_55 rfl (lv_at hl 0 rfl) ?_
      refine va_get (D := g.1) (ci := 5) (v := .int (S5.1 12)) (C := RX5) (T := TX5) (N := 15) (pc := 56) hx hb hts (fun _ h => List.mem_cons_of_mem _ (List.mem_append_left _ (List.mem_append_right _ h))) hown hK hP 0 rfl rfl 12 (by decide) (hts _ q_X5_lastYear_3) (fun _ h9 => h9) rfl dX5_lastYear_56 ?_
      refine lv_iadd (pc := 59) hx hb dX5_lastYear_59 ?_
      refine va_mmin (pc := 60) hx hb (hml.trans hl.1.symm) hown (hts _ q_X5_lastYear_4) (hts _ q_X5_lastYear_5) (hts _ q_X5_lastYear_6) (hts _ q_X5_lastYear_7) (Nat.le_of_ble_eq_true rfl) (Nat.le_of_ble_eq_true rfl) (Nat.zero_le _) (Nat.zero_le _) dX5_lastYear_60 ?_
      have hf := Option.some.inj hf
      subst hf
      exact W.iret (v := (if ((((S5.2.2 8) (Int32.toNatClampNeg x1)) + r51) + (S5.1 12)) < 2100 then ((((S5.2.2 8) (Int32.toNatClampNeg x1)) + r51) + (S5.1 12)) else 2100)) hx hb hr (fun t ht hW => ⟨_, rfl, rfl, ht⟩) (fun _ h => by cases h) dX5_lastYear_63
    · have hf := ff hf c6_2
      by_cases c6_3 : ((S5.2.2 2) (Int32.toNatClampNeg x1)) = 3
      · have hf := ft hf c6_3
        refine lv_tableIn (tgt := 64) (pc := 6) hx hb dX5_lastYear_6 (by rw [c6_3]; decide) (by rw [c6_3]; decide) (by rw [c6_3]; rfl) (by decide) ?_
        refine lv_aload_n (pc := 64) hx hb dX5_lastYear_64 rfl (lv_at hl 0 rfl) ?_
        refine va_get (D := g.1) (ci := 5) (v := .ref (g.2.2.1 6)) (C := RX5) (T := TX5) (N := 15) (pc := 65) hx hb hts (fun _ h => List.mem_cons_of_mem _ (List.mem_append_left _ (List.mem_append_right _ h))) hown hK hP 0 rfl rfl 0 (by decide) (hts _ q_X5_lastYear_8) (fun _ h9 => h9) rfl dX5_lastYear_65 ?_
        refine lv_aload_n (pc := 68) hx hb dX5_lastYear_68 rfl (lv_at hl 0 rfl) ?_
        refine va_get (D := g.1) (ci := 5) (v := .ref (g.2.2.2 5 6)) (C := RX5) (T := TX5) (N := 15) (pc := 69) hx hb hts (fun _ h => List.mem_cons_of_mem _ (List.mem_append_left _ (List.mem_append_right _ h))) hown hK hP 0 rfl rfl 6 (by decide) (hts _ q_X5_lastYear_9) (fun _ h9 => h9) rfl dX5_lastYear_69 ?_
        refine lv_iload_n (pc := 72) hx hb dX5_lastYear_72 rfl (lv_at hl 1 rfl) ?_
        obtain ⟨b73, hf⟩ := gdE hf
        refine va_iald (D := g.1) (tys := tyl g) (f := (S5.2.2 6)) (pc := 73) hx hb hK hP 6 0 rfl rfl (inbV b73) dX5_lastYear_73 ?_
        refine lv_aload_n (pc := 74) hx hb dX5_lastYear_74 rfl (lv_at hl 0 rfl) ?_
        refine va_get (D := g.1) (ci := 5) (v := .ref (g.2.2.2 5 7)) (C := RX5) (T := TX5) (N := 15) (pc := 75) hx hb hts (fun _ h => List.mem_cons_of_mem _ (List.mem_append_left _ (List.mem_append_right _ h))) hown hK hP 0 rfl rfl 7 (by decide) (hts _ q_X5_lastYear_10) (fun _ h9 => h9) rfl dX5_lastYear_75 ?_
        refine lv_iload_n (pc := 78) hx hb dX5_lastYear_78 rfl (lv_at hl 1 rfl) ?_
        obtain ⟨b79, hf⟩ := gdE hf
        refine va_iald (D := g.1) (tys := tyl g) (f := (S5.2.2 7)) (pc := 79) hx hb hK hP 7 0 rfl rfl (inbV b79) dX5_lastYear_79 ?_
        obtain ⟨r80, e80, hf⟩ := bdE hf
        refine krI (g := g) (wc := (wd_6 g S6)) (pc := 80) (As := [.int ((S5.2.2 6) (Int32.toNatClampNeg x1)), .int ((S5.2.2 7) (Int32.toNatClampNeg x1))]) (rest := []) ⟨hx, hb, hml, hown, hts⟩ (c_X6_isSure l g N S6 ((S5.2.2 6) (Int32.toNatClampNeg x1)) ((S5.2.2 7) (Int32.toNatClampNeg x1)) r80 e80) (cwV 2 hts gX5_lastYear_X6_isSure rfl rfl rfl h_X6_isSure ⟨Nat.le_of_ble_eq_true rfl, Nat.le_of_ble_eq_true rfl⟩) hK (hP.sub (ws' := (wd_6 g S6)) [10, 11, 12] rfl) rfl rfl rfl hl.1 rfl (Nat.le_of_ble_eq_true rfl) dX5_lastYear_80 ⟨Nat.zero_le _, Nat.zero_le _⟩ ?_
        refine lv_if_eq (tgt := 95) (pc := 83) hx hb dX5_lastYear_83 (by decide) (fun c83 => ?_) (fun c83 => ?_)
        · have hf := ft hf c83
          refine lv_sipush (v := 2100) (pc := 95) hx hb dX5_lastYear_95 (by decide) ?_
          have hf := Option.some.inj hf
          subst hf
          exact W.iret (v := 2100) hx hb hr (fun t ht hW => ⟨_, rfl, rfl, ht⟩) (fun _ h => by cases h) dX5_lastYear_98
        · have hf := ff hf c83
          refine lv_aload_n (pc := 86) hx hb dX5_lastYear_86 rfl (lv_at hl 0 rfl) ?_
          refine va_get (D := g.1) (ci := 5) (v := .ref (g.2.2.2 5 9)) (C := RX5) (T := TX5) (N := 15) (pc := 87) hx hb hts (fun _ h => List.mem_cons_of_mem _ (List.mem_append_left _ (List.mem_append_right _ h))) hown hK hP 0 rfl rfl 9 (by decide) (hts _ q_X5_lastYear_11) (fun _ h9 => h9) rfl dX5_lastYear_87 ?_
          refine lv_iload_n (pc := 90) hx hb dX5_lastYear_90 rfl (lv_at hl 1 rfl) ?_
          obtain ⟨b91, hf⟩ := gdE hf
          refine va_iald (D := g.1) (tys := tyl g) (f := (S5.2.2 9)) (pc := 91) hx hb hK hP 9 0 rfl rfl (inbV b91) dX5_lastYear_91 ?_
          refine lv_goto (tgt := 98) (pc := 92) hx hb dX5_lastYear_92 (by decide) ?_
          have hf := Option.some.inj hf
          subst hf
          exact W.iret (v := ((S5.2.2 9) (Int32.toNatClampNeg x1))) hx hb hr (fun t ht hW => ⟨_, rfl, rfl, ht⟩) (fun _ h => by cases h) dX5_lastYear_98
      · have hf := ff hf c6_3
        refine lv_tableOut (tgt := 99) (pc := 6) hx hb dX5_lastYear_6 (swO (fun z h1 h2 => by rcases (show z = 1 ∨ z = 2 ∨ z = 3 by omega) with rfl | rfl | rfl <;> first | exact swN c6_1 rfl | exact swN c6_2 rfl | exact swN c6_3 rfl)) (by decide) ?_
        refine lv_aload_n (pc := 99) hx hb dX5_lastYear_99 rfl (lv_at hl 0 rfl) ?_
        refine va_get (D := g.1) (ci := 5) (v := .ref (g.2.2.2 5 9)) (C := RX5) (T := TX5) (N := 15) (pc := 100) hx hb hts (fun _ h => List.mem_cons_of_mem _ (List.mem_append_left _ (List.mem_append_right _ h))) hown hK hP 0 rfl rfl 9 (by decide) (hts _ q_X5_lastYear_11) (fun _ h9 => h9) rfl dX5_lastYear_100 ?_
        refine lv_iload_n (pc := 103) hx hb dX5_lastYear_103 rfl (lv_at hl 1 rfl) ?_
        obtain ⟨b104, hf⟩ := gdE hf
        refine va_iald (D := g.1) (tys := tyl g) (f := (S5.2.2 9)) (pc := 104) hx hb hK hP 9 0 rfl rfl (inbV b104) dX5_lastYear_104 ?_
        have hf := Option.some.inj hf
        subst hf
        exact W.iret (v := ((S5.2.2 9) (Int32.toNatClampNeg x1))) hx hb hr (fun t ht hW => ⟨_, rfl, rfl, ht⟩) (fun _ h => by cases h) dX5_lastYear_105
theorem q_X5_detail_0 : (.fieldLink RX5 22 "PictureCourt$Proofs" "kinds" "[I" : Cond) ∈ wsX5_detail := by decide +kernel
theorem q_X5_detail_1 : (.fieldLink RX5 25 "PictureCourt$Proofs" "weights" "[I" : Cond) ∈ wsX5_detail := by decide +kernel
theorem q_X5_detail_2 : (.fieldLink RX5 28 "PictureCourt$Proofs" "toldDays" "[I" : Cond) ∈ wsX5_detail := by decide +kernel
theorem q_X5_detail_3 : (.fieldLink RX5 31 "PictureCourt$Proofs" "struckDays" "[I" : Cond) ∈ wsX5_detail := by decide +kernel
theorem h_X5_detail : yX5_detail.cls = RX5 ∧ yX5_detail.cls ≠ "java/lang/invoke/MethodHandle" ∧ yX5_detail.cls ≠ "java/lang/invoke/VarHandle" ∧ (parseMethodDescriptor yX5_detail.desc).map (fun d => d.parameters.length) = some 2 := by decide +kernel
set_option maxHeartbeats 4000000 in
set_option maxRecDepth 100000 in
theorem c_X5_detail (l : Launch) (g : En) (N : Nat) (S5 : St) (S6 : St) (x1 : Int32) (x2 : Int32) (res : Int32) (hf : f_X5_detail N S5 S6 x1 x2 = some res) : Met l yX5_detail wsX5_detail { frames := 5, cells := 0, slots := 0, locals := 123 } (roP g (wd_5_6 g S5 S6) [.ref (g.2.2.1 5), .int x1, .int x2]) (vp_Si (fun r => r = res)) 0 0 (fun _ => False) := by
  refine Met.ofW (cc := cX5_detail) (maxL := 3) (ret := (some .int)) (by decide) rfl ?_
  intro p e s m args below meth c s₁ B hml hv
  obtain ⟨rfl, hP, hK⟩ := hv
  have hx := B.exec
  have hb := B.bytes
  have hr := B.returns
  have hts := atoms_spec (ws := wsX5_detail) B.pre
  have hown : s.vm.findClass RX5 = some m.cls := findClass_of_methodNamed B.named
  have hlk := B.notSynchronized
  have C : cxr g (wd_5_6 g S5 S6) cX5_detail 3 (some .int) wsX5_detail RX5 p s m ([.ref (g.2.2.1 5), .int x1, .int x2] : List Value).toArray meth c := ⟨⟨hx, hb, hr, hml, hown, hts, hlk⟩, hK, hP⟩
  have hl := lv_entry [.ref (g.2.2.1 5), .int x1, .int x2] (n := 3) (Nat.le_of_ble_eq_true rfl)
  rw [lg_entry_eq]
  generalize (lg_sl [.ref (g.2.2.1 5), .int x1, .int x2] ++ List.replicate (3 - (lg_sl [.ref (g.2.2.1 5), .int x1, .int x2]).length) Slot.unset).toArray = ls at hl ⊢
  have hl : lv_has ls 3 [(0, .ref (g.2.2.1 5)), (1, .int x1), (2, .int x2)] := hl
  unfold f_X5_detail at hf
  refine lv_iload_n (pc := 0) hx hb dX5_detail_0 rfl (lv_at hl 2 rfl) ?_
  by_cases c1_0 : x2 = 0
  · have hf := ft hf c1_0
    refine lv_tableIn (tgt := 36) (pc := 1) hx hb dX5_detail_1 (by rw [c1_0]; decide) (by rw [c1_0]; decide) (by rw [c1_0]; rfl) (by decide) ?_
    refine lv_aload_n (pc := 36) hx hb dX5_detail_36 rfl (lv_at hl 0 rfl) ?_
    refine va_get (D := g.1) (ci := 5) (v := .ref (g.2.2.2 5 2)) (C := RX5) (T := TX5) (N := 15) (pc := 37) hx hb hts (fun _ h => List.mem_cons_of_mem _ (List.mem_append_left _ (List.mem_append_right _ h))) hown hK hP 0 rfl rfl 2 (by decide) (hts _ q_X5_detail_0) (fun _ h9 => h9) rfl dX5_detail_37 ?_
    refine lv_iload_n (pc := 40) hx hb dX5_detail_40 rfl (lv_at hl 1 rfl) ?_
    obtain ⟨b41, hf⟩ := gdE hf
    refine va_iald (D := g.1) (tys := tyl g) (f := (S5.2.2 2)) (pc := 41) hx hb hK hP 2 0 rfl rfl (inbV b41) dX5_detail_41 ?_
    have hf := Option.some.inj hf
    subst hf
    exact W.iret (v := ((S5.2.2 2) (Int32.toNatClampNeg x1))) hx hb hr (fun t ht hW => ⟨_, rfl, rfl, ht⟩) (fun _ h => by cases h) dX5_detail_42
  · have hf := ff hf c1_0
    by_cases c1_1 : x2 = 1
    · have hf := ft hf c1_1
      refine lv_tableIn (tgt := 43) (pc := 1) hx hb dX5_detail_1 (by rw [c1_1]; decide) (by rw [c1_1]; decide) (by rw [c1_1]; rfl) (by decide) ?_
      refine lv_aload_n (pc := 43) hx hb dX5_detail_43 rfl (lv_at hl 0 rfl) ?_
      refine va_get (D := g.1) (ci := 5) (v := .ref (g.2.2.2 5 3)) (C := RX5) (T := TX5) (N := 15) (pc := 44) hx hb hts (fun _ h => List.mem_cons_of_mem _ (List.mem_append_left _ (List.mem_append_right _ h))) hown hK hP 0 rfl rfl 3 (by decide) (hts _ q_X5_detail_1) (fun _ h9 => h9) rfl dX5_detail_44 ?_
      refine lv_iload_n (pc := 47) hx hb dX5_detail_47 rfl (lv_at hl 1 rfl) ?_
      obtain ⟨b48, hf⟩ := gdE hf
      refine va_iald (D := g.1) (tys := tyl g) (f := (S5.2.2 3)) (pc := 48) hx hb hK hP 3 0 rfl rfl (inbV b48) dX5_detail_48 ?_
      have hf := Option.some.inj hf
      subst hf
      exact W.iret (v := ((S5.2.2 3) (Int32.toNatClampNeg x1))) hx hb hr (fun t ht hW => ⟨_, rfl, rfl, ht⟩) (fun _ h => by cases h) dX5_detail_49
    · have hf := ff hf c1_1
      by_cases c1_2 : x2 = 2
      · have hf := ft hf c1_2
        refine lv_tableIn (tgt := 50) (pc := 1) hx hb dX5_detail_1 (by rw [c1_2]; decide) (by rw [c1_2]; decide) (by rw [c1_2]; rfl) (by decide) ?_
        refine lv_aload_n (pc := 50) hx hb dX5_detail_50 rfl (lv_at hl 0 rfl) ?_
        refine va_get (D := g.1) (ci := 5) (v := .ref (g.2.2.2 5 4)) (C := RX5) (T := TX5) (N := 15) (pc := 51) hx hb hts (fun _ h => List.mem_cons_of_mem _ (List.mem_append_left _ (List.mem_append_right _ h))) hown hK hP 0 rfl rfl 4 (by decide) (hts _ q_X5_detail_2) (fun _ h9 => h9) rfl dX5_detail_51 ?_
        refine lv_iload_n (pc := 54) hx hb dX5_detail_54 rfl (lv_at hl 1 rfl) ?_
        obtain ⟨b55, hf⟩ := gdE hf
        refine va_iald (D := g.1) (tys := tyl g) (f := (S5.2.2 4)) (pc := 55) hx hb hK hP 4 0 rfl rfl (inbV b55) dX5_detail_55 ?_
        have hf := Option.some.inj hf
        subst hf
        exact W.iret (v := ((S5.2.2 4) (Int32.toNatClampNeg x1))) hx hb hr (fun t ht hW => ⟨_, rfl, rfl, ht⟩) (fun _ h => by cases h) dX5_detail_56
      · have hf := ff hf c1_2
        by_cases c1_3 : x2 = 3
        · have hf := ft hf c1_3
          refine lv_tableIn (tgt := 57) (pc := 1) hx hb dX5_detail_1 (by rw [c1_3]; decide) (by rw [c1_3]; decide) (by rw [c1_3]; rfl) (by decide) ?_
          refine lv_aload_n (pc := 57) hx hb dX5_detail_57 rfl (lv_at hl 0 rfl) ?_
          refine va_get (D := g.1) (ci := 5) (v := .ref (g.2.2.2 5 5)) (C := RX5) (T := TX5) (N := 15) (pc := 58) hx hb hts (fun _ h => List.mem_cons_of_mem _ (List.mem_append_left _ (List.mem_append_right _ h))) hown hK hP 0 rfl rfl 5 (by decide) (hts _ q_X5_detail_3) (fun _ h9 => h9) rfl dX5_detail_58 ?_
          refine lv_iload_n (pc := 61) hx hb dX5_detail_61 rfl (lv_at hl 1 rfl) ?_
          obtain ⟨b62, hf⟩ := gdE hf
          refine va_iald (D := g.1) (tys := tyl g) (f := (S5.2.2 5)) (pc := 62) hx hb hK hP 5 0 rfl rfl (inbV b62) dX5_detail_62 ?_
          have hf := Option.some.inj hf
          subst hf
          exact W.iret (v := ((S5.2.2 5) (Int32.toNatClampNeg x1))) hx hb hr (fun t ht hW => ⟨_, rfl, rfl, ht⟩) (fun _ h => by cases h) dX5_detail_63
        · have hf := ff hf c1_3
          by_cases c1_4 : x2 = 4
          · have hf := ft hf c1_4
            refine lv_tableIn (tgt := 64) (pc := 1) hx hb dX5_detail_1 (by rw [c1_4]; decide) (by rw [c1_4]; decide) (by rw [c1_4]; rfl) (by decide) ?_
            refine lv_aload_n (pc := 64) hx hb dX5_detail_64 rfl (lv_at hl 0 rfl) ?_
            refine lv_iload_n (pc := 65) hx hb dX5_detail_65 rfl (lv_at hl 1 rfl) ?_
            obtain ⟨r66, e66, hf⟩ := bdE hf
            refine krI (g := g) (wc := (wd_5_6 g S5 S6)) (pc := 66) (As := [.int x1]) (rest := []) ⟨hx, hb, hml, hown, hts⟩ (c_X5_firstYear l g N S5 S6 x1 r66 e66) (cwV 1 hts gX5_detail_X5_firstYear rfl rfl rfl h_X5_firstYear ⟨Nat.le_of_ble_eq_true rfl, Nat.le_of_ble_eq_true rfl⟩) hK hP rfl rfl rfl hl.1 rfl (Nat.le_of_ble_eq_true rfl) dX5_detail_66 ⟨Nat.zero_le _, Nat.zero_le _⟩ ?_
            have hf := Option.some.inj hf
            subst hf
            exact W.iret (v := r66) hx hb hr (fun t ht hW => ⟨_, rfl, rfl, ht⟩) (fun _ h => by cases h) dX5_detail_69
          · have hf := ff hf c1_4
            refine lv_tableOut (tgt := 70) (pc := 1) hx hb dX5_detail_1 (swO (fun z h1 h2 => by rcases (show z = 0 ∨ z = 1 ∨ z = 2 ∨ z = 3 ∨ z = 4 by omega) with rfl | rfl | rfl | rfl | rfl <;> first | exact swN c1_0 rfl | exact swN c1_1 rfl | exact swN c1_2 rfl | exact swN c1_3 rfl | exact swN c1_4 rfl)) (by decide) ?_
            refine lv_aload_n (pc := 70) hx hb dX5_detail_70 rfl (lv_at hl 0 rfl) ?_
            refine lv_iload_n (pc := 71) hx hb dX5_detail_71 rfl (lv_at hl 1 rfl) ?_
            obtain ⟨r72, e72, hf⟩ := bdE hf
            refine krI (g := g) (wc := (wd_5_6 g S5 S6)) (pc := 72) (As := [.int x1]) (rest := []) ⟨hx, hb, hml, hown, hts⟩ (c_X5_lastYear l g N S5 S6 x1 r72 e72) (cwV 1 hts gX5_detail_X5_lastYear rfl rfl rfl h_X5_lastYear ⟨Nat.le_of_ble_eq_true rfl, Nat.le_of_ble_eq_true rfl⟩) hK hP rfl rfl rfl hl.1 rfl (Nat.le_of_ble_eq_true rfl) dX5_detail_72 ⟨Nat.zero_le _, Nat.zero_le _⟩ ?_
            have hf := Option.some.inj hf
            subst hf
            exact W.iret (v := r72) hx hb hr (fun t ht hW => ⟨_, rfl, rfl, ht⟩) (fun _ h => by cases h) dX5_detail_75
theorem q_X5_isOfKind_0 : (.fieldLink RX5 22 "PictureCourt$Proofs" "kinds" "[I" : Cond) ∈ wsX5_isOfKind := by decide +kernel
theorem h_X5_isOfKind : yX5_isOfKind.cls = RX5 ∧ yX5_isOfKind.cls ≠ "java/lang/invoke/MethodHandle" ∧ yX5_isOfKind.cls ≠ "java/lang/invoke/VarHandle" ∧ (parseMethodDescriptor yX5_isOfKind.desc).map (fun d => d.parameters.length) = some 2 := by decide +kernel
set_option maxHeartbeats 4000000 in
set_option maxRecDepth 100000 in
theorem w_X5_isOfKind_14 {p : Program} {l : Launch} {e : Env} {s : State} {m : MethodId} {args : Array Value} {below : List Frame} {meth : Method} {c : Code} {g : En} {N : Nat} {S5 : St} {res : Int32} (C : cxr g (wd_5 g S5) cX5_isOfKind 3 (some .boolean) wsX5_isOfKind RX5 p s m args meth c) : ∀ (ls : Array Slot), lv_has ls 3 [] → f_X5_isOfKind_14 N S5   = some res → W p l e (headSpec wsX5_isOfKind { frames := 0, cells := 0, slots := 0, locals := 0 }).room s m args below meth c s.heap [] 0 0 (MQ below (vp_Si (fun r => r = res)) args s 0 0 (fun _ => False)) (F0 m 14 ls []) := by
  intro ls  hl hf
  obtain ⟨⟨hx, hb, hr, hml, hown, hts, hlk⟩, hK, hP⟩ := id C
  unfold f_X5_isOfKind_14 at hf
  refine lv_iconst (v := 1) (pc := 14) hx hb dX5_isOfKind_14 (by decide) ?_
  refine lv_goto (tgt := 19) (pc := 15) hx hb dX5_isOfKind_15 (by decide) ?_
  have hf := Option.some.inj hf
  subst hf
  exact W.zret (v := 1) hx hb hr rfl (fun t ht hW => ⟨_, rfl, rfl, ht⟩) (fun _ h => by cases h) dX5_isOfKind_19
set_option maxHeartbeats 4000000 in
set_option maxRecDepth 100000 in
theorem c_X5_isOfKind (l : Launch) (g : En) (N : Nat) (S5 : St) (x1 : Int32) (x2 : Int32) (res : Int32) (hf : f_X5_isOfKind N S5 x1 x2 = some res) : Met l yX5_isOfKind wsX5_isOfKind { frames := 0, cells := 0, slots := 0, locals := 0 } (roP g (wd_5 g S5) [.ref (g.2.2.1 5), .int x1, .int x2]) (vp_Si (fun r => r = res)) 0 0 (fun _ => False) := by
  refine Met.ofW (cc := cX5_isOfKind) (maxL := 3) (ret := (some .boolean)) (by decide) rfl ?_
  intro p e s m args below meth c s₁ B hml hv
  obtain ⟨rfl, hP, hK⟩ := hv
  have hx := B.exec
  have hb := B.bytes
  have hr := B.returns
  have hts := atoms_spec (ws := wsX5_isOfKind) B.pre
  have hown : s.vm.findClass RX5 = some m.cls := findClass_of_methodNamed B.named
  have hlk := B.notSynchronized
  have C : cxr g (wd_5 g S5) cX5_isOfKind 3 (some .boolean) wsX5_isOfKind RX5 p s m ([.ref (g.2.2.1 5), .int x1, .int x2] : List Value).toArray meth c := ⟨⟨hx, hb, hr, hml, hown, hts, hlk⟩, hK, hP⟩
  have hl := lv_entry [.ref (g.2.2.1 5), .int x1, .int x2] (n := 3) (Nat.le_of_ble_eq_true rfl)
  rw [lg_entry_eq]
  generalize (lg_sl [.ref (g.2.2.1 5), .int x1, .int x2] ++ List.replicate (3 - (lg_sl [.ref (g.2.2.1 5), .int x1, .int x2]).length) Slot.unset).toArray = ls at hl ⊢
  have hl : lv_has ls 3 [(0, .ref (g.2.2.1 5)), (1, .int x1), (2, .int x2)] := hl
  unfold f_X5_isOfKind at hf
  refine lv_iload_n (pc := 0) hx hb dX5_isOfKind_0 rfl (lv_at hl 2 rfl) ?_
  refine lv_if_eq (tgt := 14) (pc := 1) hx hb dX5_isOfKind_1 (by decide) (fun c1 => ?_) (fun c1 => ?_)
  · have hf := ft hf c1
    exact w_X5_isOfKind_14 C  ls  (lv_sub hl [] rfl) hf
  · have hf := ff hf c1
    refine lv_iload_n (pc := 4) hx hb dX5_isOfKind_4 rfl (lv_at hl 2 rfl) ?_
    refine lv_aload_n (pc := 5) hx hb dX5_isOfKind_5 rfl (lv_at hl 0 rfl) ?_
    refine va_get (D := g.1) (ci := 5) (v := .ref (g.2.2.2 5 2)) (C := RX5) (T := TX5) (N := 15) (pc := 6) hx hb hts (fun _ h => List.mem_cons_of_mem _ (List.mem_append_right _ h)) hown hK hP 0 rfl rfl 2 (by decide) (hts _ q_X5_isOfKind_0) (fun _ h9 => h9) rfl dX5_isOfKind_6 ?_
    refine lv_iload_n (pc := 9) hx hb dX5_isOfKind_9 rfl (lv_at hl 1 rfl) ?_
    obtain ⟨b10, hf⟩ := gdE hf
    refine va_iald (D := g.1) (tys := tyl g) (f := (S5.2.2 2)) (pc := 10) hx hb hK hP 2 0 rfl rfl (inbV b10) dX5_isOfKind_10 ?_
    refine lv_icmp_ne (tgt := 18) (pc := 11) hx hb dX5_isOfKind_11 (by decide) (fun c11 => ?_) (fun c11 => ?_)
    · have hf := ff hf c11
      refine lv_iconst (v := 0) (pc := 18) hx hb dX5_isOfKind_18 (by decide) ?_
      have hf := Option.some.inj hf
      subst hf
      exact W.zret (v := 0) hx hb hr rfl (fun t ht hW => ⟨_, rfl, rfl, ht⟩) (fun _ h => by cases h) dX5_isOfKind_19
    · have hf := ft hf c11
      exact w_X5_isOfKind_14 C  ls  (lv_sub hl [] rfl) hf
theorem q_X5_markAs_0 : (.fieldLink RX5 34 "PictureCourt$Proofs" "subjects" "[I" : Cond) ∈ wsX5_markAs := by decide +kernel
theorem q_X5_markAs_1 : (.fieldLink RX5 12 "PictureCourt$Proofs" "rows" "LPictureCourt$Rows;" : Cond) ∈ wsX5_markAs := by decide +kernel
theorem q_X5_markAs_2 : (.fieldLink RX5 37 "PictureCourt$Proofs" "otherRows" "[I" : Cond) ∈ wsX5_markAs := by decide +kernel
theorem h_X5_markAs : yX5_markAs.cls = RX5 ∧ yX5_markAs.cls ≠ "java/lang/invoke/MethodHandle" ∧ yX5_markAs.cls ≠ "java/lang/invoke/VarHandle" ∧ (parseMethodDescriptor yX5_markAs.desc).map (fun d => d.parameters.length) = some 2 := by decide +kernel
set_option maxHeartbeats 4000000 in
set_option maxRecDepth 100000 in
theorem c_X5_markAs (l : Launch) (g : En) (N : Nat) (S5 : St) (S6 : St) (x1 : Int32) (x2 : Int32) (res : Int32) (hf : f_X5_markAs N S5 S6 x1 x2 = some res) : Met l yX5_markAs wsX5_markAs { frames := 5, cells := 0, slots := 0, locals := 123 } (roP g (wd_5_6 g S5 S6) [.ref (g.2.2.1 5), .int x1, .int x2]) (vp_Si (fun r => r = res)) 0 0 (fun _ => False) := by
  refine Met.ofW (cc := cX5_markAs) (maxL := 3) (ret := (some .int)) (by decide) rfl ?_
  intro p e s m args below meth c s₁ B hml hv
  obtain ⟨rfl, hP, hK⟩ := hv
  have hx := B.exec
  have hb := B.bytes
  have hr := B.returns
  have hts := atoms_spec (ws := wsX5_markAs) B.pre
  have hown : s.vm.findClass RX5 = some m.cls := findClass_of_methodNamed B.named
  have hlk := B.notSynchronized
  have C : cxr g (wd_5_6 g S5 S6) cX5_markAs 3 (some .int) wsX5_markAs RX5 p s m ([.ref (g.2.2.1 5), .int x1, .int x2] : List Value).toArray meth c := ⟨⟨hx, hb, hr, hml, hown, hts, hlk⟩, hK, hP⟩
  have hl := lv_entry [.ref (g.2.2.1 5), .int x1, .int x2] (n := 3) (Nat.le_of_ble_eq_true rfl)
  rw [lg_entry_eq]
  generalize (lg_sl [.ref (g.2.2.1 5), .int x1, .int x2] ++ List.replicate (3 - (lg_sl [.ref (g.2.2.1 5), .int x1, .int x2]).length) Slot.unset).toArray = ls at hl ⊢
  have hl : lv_has ls 3 [(0, .ref (g.2.2.1 5)), (1, .int x1), (2, .int x2)] := hl
  unfold f_X5_markAs at hf
  refine lv_iload_n (pc := 0) hx hb dX5_markAs_0 rfl (lv_at hl 2 rfl) ?_
  by_cases c1_1 : x2 = 1
  · have hf := ft hf c1_1
    refine lv_tableIn (tgt := 28) (pc := 1) hx hb dX5_markAs_1 (by rw [c1_1]; decide) (by rw [c1_1]; decide) (by rw [c1_1]; rfl) (by decide) ?_
    refine lv_aload_n (pc := 28) hx hb dX5_markAs_28 rfl (lv_at hl 0 rfl) ?_
    refine va_get (D := g.1) (ci := 5) (v := .ref (g.2.2.2 5 6)) (C := RX5) (T := TX5) (N := 15) (pc := 29) hx hb hts (fun _ h => List.mem_cons_of_mem _ (List.mem_append_left _ (List.mem_append_right _ h))) hown hK hP 0 rfl rfl 6 (by decide) (hts _ q_X5_markAs_0) (fun _ h9 => h9) rfl dX5_markAs_29 ?_
    refine lv_iload_n (pc := 32) hx hb dX5_markAs_32 rfl (lv_at hl 1 rfl) ?_
    obtain ⟨b33, hf⟩ := gdE hf
    refine va_iald (D := g.1) (tys := tyl g) (f := (S5.2.2 6)) (pc := 33) hx hb hK hP 6 0 rfl rfl (inbV b33) dX5_markAs_33 ?_
    have hf := Option.some.inj hf
    subst hf
    exact W.iret (v := ((S5.2.2 6) (Int32.toNatClampNeg x1))) hx hb hr (fun t ht hW => ⟨_, rfl, rfl, ht⟩) (fun _ h => by cases h) dX5_markAs_34
  · have hf := ff hf c1_1
    by_cases c1_2 : x2 = 2
    · have hf := ft hf c1_2
      refine lv_tableIn (tgt := 28) (pc := 1) hx hb dX5_markAs_1 (by rw [c1_2]; decide) (by rw [c1_2]; decide) (by rw [c1_2]; rfl) (by decide) ?_
      refine lv_aload_n (pc := 28) hx hb dX5_markAs_28 rfl (lv_at hl 0 rfl) ?_
      refine va_get (D := g.1) (ci := 5) (v := .ref (g.2.2.2 5 6)) (C := RX5) (T := TX5) (N := 15) (pc := 29) hx hb hts (fun _ h => List.mem_cons_of_mem _ (List.mem_append_left _ (List.mem_append_right _ h))) hown hK hP 0 rfl rfl 6 (by decide) (hts _ q_X5_markAs_0) (fun _ h9 => h9) rfl dX5_markAs_29 ?_
      refine lv_iload_n (pc := 32) hx hb dX5_markAs_32 rfl (lv_at hl 1 rfl) ?_
      obtain ⟨b33, hf⟩ := gdE hf
      refine va_iald (D := g.1) (tys := tyl g) (f := (S5.2.2 6)) (pc := 33) hx hb hK hP 6 0 rfl rfl (inbV b33) dX5_markAs_33 ?_
      have hf := Option.some.inj hf
      subst hf
      exact W.iret (v := ((S5.2.2 6) (Int32.toNatClampNeg x1))) hx hb hr (fun t ht hW => ⟨_, rfl, rfl, ht⟩) (fun _ h => by cases h) dX5_markAs_34
    · have hf := ff hf c1_2
      by_cases c1_3 : x2 = 3
      · have hf := ft hf c1_3
        refine lv_tableIn (tgt := 35) (pc := 1) hx hb dX5_markAs_1 (by rw [c1_3]; decide) (by rw [c1_3]; decide) (by rw [c1_3]; rfl) (by decide) ?_
        refine lv_aload_n (pc := 35) hx hb dX5_markAs_35 rfl (lv_at hl 0 rfl) ?_
        refine va_get (D := g.1) (ci := 5) (v := .ref (g.2.2.1 6)) (C := RX5) (T := TX5) (N := 15) (pc := 36) hx hb hts (fun _ h => List.mem_cons_of_mem _ (List.mem_append_left _ (List.mem_append_right _ h))) hown hK hP 0 rfl rfl 0 (by decide) (hts _ q_X5_markAs_1) (fun _ h9 => h9) rfl dX5_markAs_36 ?_
        refine lv_aload_n (pc := 39) hx hb dX5_markAs_39 rfl (lv_at hl 0 rfl) ?_
        refine va_get (D := g.1) (ci := 5) (v := .ref (g.2.2.2 5 6)) (C := RX5) (T := TX5) (N := 15) (pc := 40) hx hb hts (fun _ h => List.mem_cons_of_mem _ (List.mem_append_left _ (List.mem_append_right _ h))) hown hK hP 0 rfl rfl 6 (by decide) (hts _ q_X5_markAs_0) (fun _ h9 => h9) rfl dX5_markAs_40 ?_
        refine lv_iload_n (pc := 43) hx hb dX5_markAs_43 rfl (lv_at hl 1 rfl) ?_
        obtain ⟨b44, hf⟩ := gdE hf
        refine va_iald (D := g.1) (tys := tyl g) (f := (S5.2.2 6)) (pc := 44) hx hb hK hP 6 0 rfl rfl (inbV b44) dX5_markAs_44 ?_
        refine lv_aload_n (pc := 45) hx hb dX5_markAs_45 rfl (lv_at hl 0 rfl) ?_
        refine va_get (D := g.1) (ci := 5) (v := .ref (g.2.2.2 5 7)) (C := RX5) (T := TX5) (N := 15) (pc := 46) hx hb hts (fun _ h => List.mem_cons_of_mem _ (List.mem_append_left _ (List.mem_append_right _ h))) hown hK hP 0 rfl rfl 7 (by decide) (hts _ q_X5_markAs_2) (fun _ h9 => h9) rfl dX5_markAs_46 ?_
        refine lv_iload_n (pc := 49) hx hb dX5_markAs_49 rfl (lv_at hl 1 rfl) ?_
        obtain ⟨b50, hf⟩ := gdE hf
        refine va_iald (D := g.1) (tys := tyl g) (f := (S5.2.2 7)) (pc := 50) hx hb hK hP 7 0 rfl rfl (inbV b50) dX5_markAs_50 ?_
        obtain ⟨r51, e51, hf⟩ := bdE hf
        refine krI (g := g) (wc := (wd_6 g S6)) (pc := 51) (As := [.int ((S5.2.2 6) (Int32.toNatClampNeg x1)), .int ((S5.2.2 7) (Int32.toNatClampNeg x1))]) (rest := []) ⟨hx, hb, hml, hown, hts⟩ (c_X6_isSure l g N S6 ((S5.2.2 6) (Int32.toNatClampNeg x1)) ((S5.2.2 7) (Int32.toNatClampNeg x1)) r51 e51) (cwV 2 hts gX5_markAs_X6_isSure rfl rfl rfl h_X6_isSure ⟨Nat.le_of_ble_eq_true rfl, Nat.le_of_ble_eq_true rfl⟩) hK (hP.sub (ws' := (wd_6 g S6)) [10, 11, 12] rfl) rfl rfl rfl hl.1 rfl (Nat.le_of_ble_eq_true rfl) dX5_markAs_51 ⟨Nat.zero_le _, Nat.zero_le _⟩ ?_
        refine lv_if_eq (tgt := 61) (pc := 54) hx hb dX5_markAs_54 (by decide) (fun c54 => ?_) (fun c54 => ?_)
        · have hf := ft hf c54
          refine lv_iconst (v := 0) (pc := 61) hx hb dX5_markAs_61 (by decide) ?_
          have hf := Option.some.inj hf
          subst hf
          exact W.iret (v := 0) hx hb hr (fun t ht hW => ⟨_, rfl, rfl, ht⟩) (fun _ h => by cases h) dX5_markAs_62
        · have hf := ff hf c54
          refine lv_iconst (v := 1) (pc := 57) hx hb dX5_markAs_57 (by decide) ?_
          refine lv_goto (tgt := 62) (pc := 58) hx hb dX5_markAs_58 (by decide) ?_
          have hf := Option.some.inj hf
          subst hf
          exact W.iret (v := 1) hx hb hr (fun t ht hW => ⟨_, rfl, rfl, ht⟩) (fun _ h => by cases h) dX5_markAs_62
      · have hf := ff hf c1_3
        refine lv_tableOut (tgt := 63) (pc := 1) hx hb dX5_markAs_1 (swO (fun z h1 h2 => by rcases (show z = 1 ∨ z = 2 ∨ z = 3 by omega) with rfl | rfl | rfl <;> first | exact swN c1_1 rfl | exact swN c1_2 rfl | exact swN c1_3 rfl)) (by decide) ?_
        refine lv_aload_n (pc := 63) hx hb dX5_markAs_63 rfl (lv_at hl 0 rfl) ?_
        refine lv_iload_n (pc := 64) hx hb dX5_markAs_64 rfl (lv_at hl 1 rfl) ?_
        obtain ⟨r65, e65, hf⟩ := bdE hf
        refine krI (g := g) (wc := (wd_5_6 g S5 S6)) (pc := 65) (As := [.int x1]) (rest := []) ⟨hx, hb, hml, hown, hts⟩ (c_X5_lastYear l g N S5 S6 x1 r65 e65) (cwV 1 hts gX5_markAs_X5_lastYear rfl rfl rfl h_X5_lastYear ⟨Nat.le_of_ble_eq_true rfl, Nat.le_of_ble_eq_true rfl⟩) hK hP rfl rfl rfl hl.1 rfl (Nat.le_of_ble_eq_true rfl) dX5_markAs_65 ⟨Nat.zero_le _, Nat.zero_le _⟩ ?_
        refine lv_aload_n (pc := 68) hx hb dX5_markAs_68 rfl (lv_at hl 0 rfl) ?_
        refine lv_iload_n (pc := 69) hx hb dX5_markAs_69 rfl (lv_at hl 1 rfl) ?_
        obtain ⟨r70, e70, hf⟩ := bdE hf
        refine krI (g := g) (wc := (wd_5_6 g S5 S6)) (pc := 70) (As := [.int x1]) (rest := [.int r65]) ⟨hx, hb, hml, hown, hts⟩ (c_X5_firstYear l g N S5 S6 x1 r70 e70) (cwV 1 hts gX5_markAs_X5_firstYear rfl rfl rfl h_X5_firstYear ⟨Nat.le_of_ble_eq_true rfl, Nat.le_of_ble_eq_true rfl⟩) hK hP rfl rfl rfl hl.1 rfl (Nat.le_of_ble_eq_true rfl) dX5_markAs_70 ⟨Nat.zero_le _, Nat.zero_le _⟩ ?_
        refine lv_isub (pc := 73) hx hb dX5_markAs_73 ?_
        refine lv_iconst (v := 1) (pc := 74) hx hb dX5_markAs_74 (by decide) ?_
        refine lv_iadd (pc := 75) hx hb dX5_markAs_75 ?_
        have hf := Option.some.inj hf
        subst hf
        exact W.iret (v := ((r65 - r70) + 1)) hx hb hr (fun t ht hW => ⟨_, rfl, rfl, ht⟩) (fun _ h => by cases h) dX5_markAs_76
theorem q_X5_isKnown_0 : (.fieldLink RX5 28 "PictureCourt$Proofs" "toldDays" "[I" : Cond) ∈ wsX5_isKnown := by decide +kernel
theorem q_X5_isKnown_1 : (.fieldLink RX5 31 "PictureCourt$Proofs" "struckDays" "[I" : Cond) ∈ wsX5_isKnown := by decide +kernel
theorem h_X5_isKnown : yX5_isKnown.cls = RX5 ∧ yX5_isKnown.cls ≠ "java/lang/invoke/MethodHandle" ∧ yX5_isKnown.cls ≠ "java/lang/invoke/VarHandle" ∧ (parseMethodDescriptor yX5_isKnown.desc).map (fun d => d.parameters.length) = some 2 := by decide +kernel
set_option maxHeartbeats 4000000 in
set_option maxRecDepth 100000 in
theorem w_X5_isKnown_28 {p : Program} {l : Launch} {e : Env} {s : State} {m : MethodId} {args : Array Value} {below : List Frame} {meth : Method} {c : Code} {g : En} {N : Nat} {S5 : St} {res : Int32} (C : cxr g (wd_5 g S5) cX5_isKnown 3 (some .boolean) wsX5_isKnown RX5 p s m args meth c) : ∀ (ls : Array Slot), lv_has ls 3 [] → f_X5_isKnown_28 N S5   = some res → W p l e (headSpec wsX5_isKnown { frames := 1, cells := 0, slots := 0, locals := 21 }).room s m args below meth c s.heap [] 0 0 (MQ below (vp_Si (fun r => r = res)) args s 0 0 (fun _ => False)) (F0 m 28 ls []) := by
  intro ls  hl hf
  obtain ⟨⟨hx, hb, hr, hml, hown, hts, hlk⟩, hK, hP⟩ := id C
  unfold f_X5_isKnown_28 at hf
  refine lv_iconst (v := 1) (pc := 28) hx hb dX5_isKnown_28 (by decide) ?_
  refine lv_goto (tgt := 33) (pc := 29) hx hb dX5_isKnown_29 (by decide) ?_
  have hf := Option.some.inj hf
  subst hf
  exact W.zret (v := 1) hx hb hr rfl (fun t ht hW => ⟨_, rfl, rfl, ht⟩) (fun _ h => by cases h) dX5_isKnown_33
set_option maxHeartbeats 4000000 in
set_option maxRecDepth 100000 in
theorem c_X5_isKnown (l : Launch) (g : En) (N : Nat) (S5 : St) (x1 : Int32) (x2 : Int32) (res : Int32) (hf : f_X5_isKnown N S5 x1 x2 = some res) : Met l yX5_isKnown wsX5_isKnown { frames := 1, cells := 0, slots := 0, locals := 21 } (roP g (wd_5 g S5) [.ref (g.2.2.1 5), .int x1, .int x2]) (vp_Si (fun r => r = res)) 0 0 (fun _ => False) := by
  refine Met.ofW (cc := cX5_isKnown) (maxL := 3) (ret := (some .boolean)) (by decide) rfl ?_
  intro p e s m args below meth c s₁ B hml hv
  obtain ⟨rfl, hP, hK⟩ := hv
  have hx := B.exec
  have hb := B.bytes
  have hr := B.returns
  have hts := atoms_spec (ws := wsX5_isKnown) B.pre
  have hown : s.vm.findClass RX5 = some m.cls := findClass_of_methodNamed B.named
  have hlk := B.notSynchronized
  have C : cxr g (wd_5 g S5) cX5_isKnown 3 (some .boolean) wsX5_isKnown RX5 p s m ([.ref (g.2.2.1 5), .int x1, .int x2] : List Value).toArray meth c := ⟨⟨hx, hb, hr, hml, hown, hts, hlk⟩, hK, hP⟩
  have hl := lv_entry [.ref (g.2.2.1 5), .int x1, .int x2] (n := 3) (Nat.le_of_ble_eq_true rfl)
  rw [lg_entry_eq]
  generalize (lg_sl [.ref (g.2.2.1 5), .int x1, .int x2] ++ List.replicate (3 - (lg_sl [.ref (g.2.2.1 5), .int x1, .int x2]).length) Slot.unset).toArray = ls at hl ⊢
  have hl : lv_has ls 3 [(0, .ref (g.2.2.1 5)), (1, .int x1), (2, .int x2)] := hl
  unfold f_X5_isKnown at hf
  refine lv_aload_n (pc := 0) hx hb dX5_isKnown_0 rfl (lv_at hl 0 rfl) ?_
  refine va_get (D := g.1) (ci := 5) (v := .ref (g.2.2.2 5 4)) (C := RX5) (T := TX5) (N := 15) (pc := 1) hx hb hts (fun _ h => List.mem_cons_of_mem _ (List.mem_append_right _ h)) hown hK hP 0 rfl rfl 4 (by decide) (hts _ q_X5_isKnown_0) (fun _ h9 => h9) rfl dX5_isKnown_1 ?_
  refine lv_iload_n (pc := 4) hx hb dX5_isKnown_4 rfl (lv_at hl 1 rfl) ?_
  obtain ⟨b5, hf⟩ := gdE hf
  refine va_iald (D := g.1) (tys := tyl g) (f := (S5.2.2 4)) (pc := 5) hx hb hK hP 4 0 rfl rfl (inbV b5) dX5_isKnown_5 ?_
  refine lv_iload_n (pc := 6) hx hb dX5_isKnown_6 rfl (lv_at hl 2 rfl) ?_
  refine lv_icmp_gt (tgt := 32) (pc := 7) hx hb dX5_isKnown_7 (by decide) (fun c7 => ?_) (fun c7 => ?_)
  · have hf := ft hf c7
    refine lv_iconst (v := 0) (pc := 32) hx hb dX5_isKnown_32 (by decide) ?_
    have hf := Option.some.inj hf
    subst hf
    exact W.zret (v := 0) hx hb hr rfl (fun t ht hW => ⟨_, rfl, rfl, ht⟩) (fun _ h => by cases h) dX5_isKnown_33
  · have hf := ff hf c7
    refine lv_aload_n (pc := 10) hx hb dX5_isKnown_10 rfl (lv_at hl 0 rfl) ?_
    refine lv_iload_n (pc := 11) hx hb dX5_isKnown_11 rfl (lv_at hl 1 rfl) ?_
    obtain ⟨r12, e12, hf⟩ := bdE hf
    refine krI (g := g) (wc := (wd_5 g S5)) (pc := 12) (As := [.int x1]) (rest := []) ⟨hx, hb, hml, hown, hts⟩ (c_X5_isStruck l g N S5 x1 r12 e12) (cwV 1 hts gX5_isKnown_X5_isStruck rfl rfl rfl h_X5_isStruck ⟨Nat.le_of_ble_eq_true rfl, Nat.le_of_ble_eq_true rfl⟩) hK hP rfl rfl rfl hl.1 rfl (Nat.le_of_ble_eq_true rfl) dX5_isKnown_12 ⟨Nat.zero_le _, Nat.zero_le _⟩ ?_
    refine lv_if_eq (tgt := 28) (pc := 15) hx hb dX5_isKnown_15 (by decide) (fun c15 => ?_) (fun c15 => ?_)
    · have hf := ft hf c15
      exact w_X5_isKnown_28 C  ls  (lv_sub hl [] rfl) hf
    · have hf := ff hf c15
      refine lv_iload_n (pc := 18) hx hb dX5_isKnown_18 rfl (lv_at hl 2 rfl) ?_
      refine lv_aload_n (pc := 19) hx hb dX5_isKnown_19 rfl (lv_at hl 0 rfl) ?_
      refine va_get (D := g.1) (ci := 5) (v := .ref (g.2.2.2 5 5)) (C := RX5) (T := TX5) (N := 15) (pc := 20) hx hb hts (fun _ h => List.mem_cons_of_mem _ (List.mem_append_right _ h)) hown hK hP 0 rfl rfl 5 (by decide) (hts _ q_X5_isKnown_1) (fun _ h9 => h9) rfl dX5_isKnown_20 ?_
      refine lv_iload_n (pc := 23) hx hb dX5_isKnown_23 rfl (lv_at hl 1 rfl) ?_
      obtain ⟨b24, hf⟩ := gdE hf
      refine va_iald (D := g.1) (tys := tyl g) (f := (S5.2.2 5)) (pc := 24) hx hb hK hP 5 0 rfl rfl (inbV b24) dX5_isKnown_24 ?_
      refine lv_icmp_ge (tgt := 32) (pc := 25) hx hb dX5_isKnown_25 (by decide) (fun c25 => ?_) (fun c25 => ?_)
      · have hf := ft hf c25
        refine lv_iconst (v := 0) (pc := 32) hx hb dX5_isKnown_32 (by decide) ?_
        have hf := Option.some.inj hf
        subst hf
        exact W.zret (v := 0) hx hb hr rfl (fun t ht hW => ⟨_, rfl, rfl, ht⟩) (fun _ h => by cases h) dX5_isKnown_33
      · have hf := ff hf c25
        exact w_X5_isKnown_28 C  ls  (lv_sub hl [] rfl) hf
theorem q_X5_gather_0 : (.fieldLink RX5 56 "PictureCourt$Proofs" "size" "I" : Cond) ∈ wsX5_gather := by decide +kernel
theorem q_X5_gather_1 : (.fieldLink RX5 25 "PictureCourt$Proofs" "weights" "[I" : Cond) ∈ wsX5_gather := by decide +kernel
theorem q_X5_gather_2 : (.fieldLink RX5 93 "PictureCourt$Known" "size" "I" : Cond) ∈ wsX5_gather := by decide +kernel
theorem h_X5_gather : yX5_gather.cls = RX5 ∧ yX5_gather.cls ≠ "java/lang/invoke/MethodHandle" ∧ yX5_gather.cls ≠ "java/lang/invoke/VarHandle" ∧ (parseMethodDescriptor yX5_gather.desc).map (fun d => d.parameters.length) = some 2 := by decide +kernel
set_option maxHeartbeats 4000000 in
set_option maxRecDepth 100000 in
theorem w_X5_gather_45 {p : Program} {l : Launch} {e : Env} {s : State} {m : MethodId} {args : Array Value} {below : List Frame} {meth : Method} {c : Code} {g : En} {A : Nat → Prop} {N : Nat} {S5 : St} {S6 : St} {res : St} (C : cxw g A cX5_gather 4 none wsX5_gather RX5 p s m args meth c) (k7 : St → Int32 → Int32 → Option (St)) (H7 : ∀ (H : Heap) (locs : List Loc) (S1 : St) (ls : Array Slot) (x1 : Int32) (x3 : Int32), va_P g.1 vwCl (wd_5_6_1 g S5 S6 S1) H → va_D A (wd_5_6_1 g S5 S6 S1) → va_S A s.heap H locs → lv_has ls 4 [(0, .ref (g.2.2.1 5)), (1, .int x1), (2, .ref (g.2.2.1 1)), (3, .int x3)] → k7 S1 x1 x3 = some res → W p l e (headSpec wsX5_gather { frames := 5, cells := 0, slots := 0, locals := 123 }).room s m args below meth c H locs 0 0 (MQ below (rwQv g (wd_5_6_1 g S5 S6 res) A) args s 0 0 A) (F0 m 7 ls [])) : ∀ (H : Heap) (locs : List Loc) (S1 : St) (ls : Array Slot) (x1 : Int32) (x3 : Int32), va_P g.1 vwCl (wd_5_6_1 g S5 S6 S1) H → va_D A (wd_5_6_1 g S5 S6 S1) → va_S A s.heap H locs → lv_has ls 4 [(0, .ref (g.2.2.1 5)), (1, .int x1), (2, .ref (g.2.2.1 1)), (3, .int x3)] → f_X5_gather_45 N S5 S6 k7 S1 x1 x3 = some res → W p l e (headSpec wsX5_gather { frames := 5, cells := 0, slots := 0, locals := 123 }).room s m args below meth c H locs 0 0 (MQ below (rwQv g (wd_5_6_1 g S5 S6 res) A) args s 0 0 A) (F0 m 45 ls []) := by
  intro H locs S1 ls x1 x3 hP hD hS hl hf
  obtain ⟨⟨hx, hb, hr, hml, hown, hts, hlk⟩, hK, hA⟩ := id C
  unfold f_X5_gather_45 at hf
  refine lv_iinc (v := (x3 + 1)) (lv' := [(3, .int (x3 + 1)), (0, .ref (g.2.2.1 5)), (1, .int x1), (2, .ref (g.2.2.1 1))]) (pc := 45) hx hb dX5_gather_45 hl (k := 3) rfl rfl (by decide) rfl (fun ls hl => ?_)
  refine lv_goto (tgt := 7) (pc := 48) hx hb dX5_gather_48 (by decide) ?_
  exact H7 H locs S1 ls x1 (x3 + 1) hP hD hS (lv_sub hl [1, 2, 3, 0] rfl) hf
set_option maxHeartbeats 4000000 in
set_option maxRecDepth 100000 in
theorem w_X5_gather_7_b {p : Program} {l : Launch} {e : Env} {s : State} {m : MethodId} {args : Array Value} {below : List Frame} {meth : Method} {c : Code} {g : En} {A : Nat → Prop} {N : Nat} {S5 : St} {S6 : St} {res : St} (C : cxw g A cX5_gather 4 none wsX5_gather RX5 p s m args meth c) (k7 : St → Int32 → Int32 → Option (St)) (H7 : ∀ (H : Heap) (locs : List Loc) (S1 : St) (ls : Array Slot) (x1 : Int32) (x3 : Int32), va_P g.1 vwCl (wd_5_6_1 g S5 S6 S1) H → va_D A (wd_5_6_1 g S5 S6 S1) → va_S A s.heap H locs → lv_has ls 4 [(0, .ref (g.2.2.1 5)), (1, .int x1), (2, .ref (g.2.2.1 1)), (3, .int x3)] → k7 S1 x1 x3 = some res → W p l e (headSpec wsX5_gather { frames := 5, cells := 0, slots := 0, locals := 123 }).room s m args below meth c H locs 0 0 (MQ below (rwQv g (wd_5_6_1 g S5 S6 res) A) args s 0 0 A) (F0 m 7 ls [])) : ∀ (H : Heap) (locs : List Loc) (S1 : St) (ls : Array Slot) (x1 : Int32) (x3 : Int32), va_P g.1 vwCl (wd_5_6_1 g S5 S6 S1) H → va_D A (wd_5_6_1 g S5 S6 S1) → va_S A s.heap H locs → lv_has ls 4 [(0, .ref (g.2.2.1 5)), (1, .int x1), (2, .ref (g.2.2.1 1)), (3, .int x3)] → f_X5_gather_7_b N S5 S6  k7 S1 x1 x3 = some res → W p l e (headSpec wsX5_gather { frames := 5, cells := 0, slots := 0, locals := 123 }).room s m args below meth c H locs 0 0 (MQ below (rwQv g (wd_5_6_1 g S5 S6 res) A) args s 0 0 A) (F0 m 7 ls []) := by
  intro H locs S1 ls x1 x3 hP hD hS hl hf
  obtain ⟨⟨hx, hb, hr, hml, hown, hts, hlk⟩, hK, hA⟩ := id C
  unfold f_X5_gather_7_b at hf
  refine lv_iload_n (pc := 7) hx hb dX5_gather_7 rfl (lv_at hl 3 rfl) ?_
  refine lv_aload_n (pc := 8) hx hb dX5_gather_8 rfl (lv_at hl 0 rfl) ?_
  refine va_get (D := g.1) (ci := 5) (v := .int (S5.1 13)) (C := RX5) (T := TX5) (N := 15) (pc := 9) hx hb hts (fun _ h => List.mem_cons_of_mem _ (List.mem_append_left _ (List.mem_append_right _ h))) hown hK hP 0 rfl rfl 13 (by decide) (hts _ q_X5_gather_0) (fun _ h9 => h9) rfl dX5_gather_9 ?_
  refine lv_icmp_ge (tgt := 51) (pc := 12) hx hb dX5_gather_12 (by decide) (fun c12 => ?_) (fun c12 => ?_)
  · have hf := ft hf c12
    have hf := Option.some.inj hf
    subst hf
    exact W.vret hx hb hr (fun t ht hW => ⟨⟨(), rfl, trivial, by rw [ht]; exact hP, va_K.moved hW.alike hK, hD⟩, hS.F ht⟩) hS.2.2 dX5_gather_51
  · have hf := ff hf c12
    refine lv_aload_n (pc := 15) hx hb dX5_gather_15 rfl (lv_at hl 0 rfl) ?_
    refine lv_iload_n (pc := 16) hx hb dX5_gather_16 rfl (lv_at hl 3 rfl) ?_
    refine lv_iload_n (pc := 17) hx hb dX5_gather_17 rfl (lv_at hl 1 rfl) ?_
    obtain ⟨r18, e18, hf⟩ := bdE hf
    refine krI (g := g) (wc := (wd_5 g S5)) (pc := 18) (As := [.int x3, .int x1]) (rest := []) ⟨hx, hb, hml, hown, hts⟩ (c_X5_isKnown l g N S5 x3 x1 r18 e18) (cwV 2 hts gX5_gather_X5_isKnown rfl rfl rfl h_X5_isKnown ⟨Nat.le_of_ble_eq_true rfl, Nat.le_of_ble_eq_true rfl⟩) hK (hP.sub (ws' := (wd_5 g S5)) [0, 1, 2, 3, 4, 5, 6, 7, 8, 9] rfl) rfl rfl rfl hl.1 rfl (Nat.le_of_ble_eq_true rfl) dX5_gather_18 ⟨Nat.zero_le _, Nat.zero_le _⟩ ?_
    refine lv_if_eq (tgt := 45) (pc := 21) hx hb dX5_gather_21 (by decide) (fun c21 => ?_) (fun c21 => ?_)
    · have hf := ft hf c21
      exact w_X5_gather_45 C k7 H7 H locs S1 ls x1 x3 hP hD hS (lv_sub hl [0, 1, 2, 3] rfl) hf
    · have hf := ff hf c21
      refine lv_aload_n (pc := 24) hx hb dX5_gather_24 rfl (lv_at hl 2 rfl) ?_
      refine lv_iload_n (pc := 25) hx hb dX5_gather_25 rfl (lv_at hl 3 rfl) ?_
      refine lv_aload_n (pc := 26) hx hb dX5_gather_26 rfl (lv_at hl 0 rfl) ?_
      refine lv_iload_n (pc := 27) hx hb dX5_gather_27 rfl (lv_at hl 3 rfl) ?_
      obtain ⟨r28, e28, hf⟩ := bdE hf
      refine krI (g := g) (wc := (wd_5_6 g S5 S6)) (pc := 28) (As := [.int x3]) (rest := [.int x3, .ref (g.2.2.1 1)]) ⟨hx, hb, hml, hown, hts⟩ (c_X5_firstYear l g N S5 S6 x3 r28 e28) (cwV 1 hts gX5_gather_X5_firstYear rfl rfl rfl h_X5_firstYear ⟨Nat.le_of_ble_eq_true rfl, Nat.le_of_ble_eq_true rfl⟩) hK (hP.sub (ws' := (wd_5_6 g S5 S6)) [0, 1, 2, 3, 4, 5, 6, 7, 8, 9, 10, 11, 12] rfl) rfl rfl rfl hl.1 rfl (Nat.le_of_ble_eq_true rfl) dX5_gather_28 ⟨Nat.zero_le _, Nat.zero_le _⟩ ?_
      refine lv_aload_n (pc := 31) hx hb dX5_gather_31 rfl (lv_at hl 0 rfl) ?_
      refine lv_iload_n (pc := 32) hx hb dX5_gather_32 rfl (lv_at hl 3 rfl) ?_
      obtain ⟨r33, e33, hf⟩ := bdE hf
      refine krI (g := g) (wc := (wd_5_6 g S5 S6)) (pc := 33) (As := [.int x3]) (rest := [.int r28, .int x3, .ref (g.2.2.1 1)]) ⟨hx, hb, hml, hown, hts⟩ (c_X5_lastYear l g N S5 S6 x3 r33 e33) (cwV 1 hts gX5_gather_X5_lastYear rfl rfl rfl h_X5_lastYear ⟨Nat.le_of_ble_eq_true rfl, Nat.le_of_ble_eq_true rfl⟩) hK (hP.sub (ws' := (wd_5_6 g S5 S6)) [0, 1, 2, 3, 4, 5, 6, 7, 8, 9, 10, 11, 12] rfl) rfl rfl rfl hl.1 rfl (Nat.le_of_ble_eq_true rfl) dX5_gather_33 ⟨Nat.zero_le _, Nat.zero_le _⟩ ?_
      refine lv_aload_n (pc := 36) hx hb dX5_gather_36 rfl (lv_at hl 0 rfl) ?_
      refine va_get (D := g.1) (ci := 5) (v := .ref (g.2.2.2 5 3)) (C := RX5) (T := TX5) (N := 15) (pc := 37) hx hb hts (fun _ h => List.mem_cons_of_mem _ (List.mem_append_left _ (List.mem_append_right _ h))) hown hK hP 0 rfl rfl 3 (by decide) (hts _ q_X5_gather_1) (fun _ h9 => h9) rfl dX5_gather_37 ?_
      refine lv_iload_n (pc := 40) hx hb dX5_gather_40 rfl (lv_at hl 3 rfl) ?_
      obtain ⟨b41, hf⟩ := gdE hf
      refine va_iald (D := g.1) (tys := tyl g) (f := (S5.2.2 3)) (pc := 41) hx hb hK hP 3 0 rfl rfl (inbV b41) dX5_gather_41 ?_
      obtain ⟨r42, e42, hf⟩ := bdE hf
      refine kwV (g := g) (A := A) (W0 := (wd_5_6_1 g S5 S6 S1)) (wc := (wd_1 g S1)) (wr := (wd_5_6 g S5 S6)) (w1 := (wd_1 g r42)) (W1 := (wd_5_6_1 g S5 S6 r42)) (pc := 42) (As := [.int x3, .int r28, .int r33, .int ((S5.2.2 3) (Int32.toNatClampNeg x3))]) (rest := []) ⟨hx, hb, hml, hown, hts⟩ hK hA hP hD hS (c_X1_add l g N H.size S1 x3 r28 r33 ((S5.2.2 3) (Int32.toNatClampNeg x3)) r42 e42) (cwV 4 hts gX5_gather_X1_add rfl rfl rfl h_X1_add ⟨Nat.le_of_ble_eq_true rfl, Nat.le_of_ble_eq_true rfl⟩) [13, 14, 15, 16, 17] [0, 1, 2, 3, 4, 5, 6, 7, 8, 9, 10, 11, 12] [0, 1, 2, 3, 4, 5, 6, 7, 8, 9, 10, 11, 12, 13, 14, 15, 16, 17] rfl rfl rfl rfl rfl (by decide) rfl rfl rfl rfl rfl rfl hl.1 rfl (Nat.le_of_ble_eq_true rfl) dX5_gather_42 ⟨Nat.zero_le _, Nat.zero_le _⟩ (fun H locs hP hD hS => ?_)
      exact w_X5_gather_45 C k7 H7 H locs r42 ls x1 x3 hP hD hS (lv_sub hl [0, 1, 2, 3] rfl) hf
set_option maxHeartbeats 4000000 in
set_option maxRecDepth 100000 in
theorem w_X5_gather_7 {p : Program} {l : Launch} {e : Env} {s : State} {m : MethodId} {args : Array Value} {below : List Frame} {meth : Method} {c : Code} {g : En} {A : Nat → Prop} {N : Nat} {S5 : St} {S6 : St} {res : St} (C : cxw g A cX5_gather 4 none wsX5_gather RX5 p s m args meth c) : ∀ (n : Nat), ∀ (H : Heap) (locs : List Loc) (S1 : St) (ls : Array Slot) (x1 : Int32) (x3 : Int32), va_P g.1 vwCl (wd_5_6_1 g S5 S6 S1) H → va_D A (wd_5_6_1 g S5 S6 S1) → va_S A s.heap H locs → lv_has ls 4 [(0, .ref (g.2.2.1 5)), (1, .int x1), (2, .ref (g.2.2.1 1)), (3, .int x3)] → f_X5_gather_7 N S5 S6  n S1 x1 x3 = some res → W p l e (headSpec wsX5_gather { frames := 5, cells := 0, slots := 0, locals := 123 }).room s m args below meth c H locs 0 0 (MQ below (rwQv g (wd_5_6_1 g S5 S6 res) A) args s 0 0 A) (F0 m 7 ls []) := by
  intro n
  induction n with
  | zero =>
    intro H locs S1 ls x1 x3 hP hD hS hl hf
    have hf : (none : Option (St)) = some res := hf
    cases hf
  | succ n ih =>
    intro H locs S1 ls x1 x3 hP hD hS hl hf
    exact w_X5_gather_7_b C  (fun y0 y1 y2 => f_X5_gather_7 N S5 S6  n y0 y1 y2) ih H locs S1 ls x1 x3 hP hD hS hl hf
set_option maxHeartbeats 4000000 in
set_option maxRecDepth 100000 in
theorem c_X5_gather (l : Launch) (g : En) (N : Nat) (sz : Nat) (S5 : St) (S6 : St) (S1 : St) (x1 : Int32) (res : St) (hf : f_X5_gather N S5 S6 S1 x1 = some res) : Met l yX5_gather wsX5_gather { frames := 5, cells := 0, slots := 0, locals := 123 } (rwP g (wd_5_6_1 g S5 S6 S1) sz [.ref (g.2.2.1 5), .int x1, .ref (g.2.2.1 1)]) (rwQv g (wd_5_6_1 g S5 S6 res) (va_A (wd_5_6_1 g S5 S6 S1) sz)) 0 0 (va_A (wd_5_6_1 g S5 S6 S1) sz) := by
  refine Met.ofW (cc := cX5_gather) (maxL := 4) (ret := none) (by decide) rfl ?_
  intro p e s m args below meth c s₁ B hml hv
  obtain ⟨rfl, hsz, hP, hK, hD0⟩ := hv
  have hx := B.exec
  have hb := B.bytes
  have hr := B.returns
  have hts := atoms_spec (ws := wsX5_gather) B.pre
  have hown : s.vm.findClass RX5 = some m.cls := findClass_of_methodNamed B.named
  have hlk := B.notSynchronized
  subst hsz
  have hD := hD0.self (sz := s.heap.size)
  generalize hAe : va_A (wd_5_6_1 g S5 S6 S1) s.heap.size = A at hD ⊢
  have hA : ∀ q : Nat, s.heap.size ≤ q → A q := fun q h => by rw [← hAe]; exact Or.inr h
  have hS : va_S A s.heap s.heap [] := va_S.rf
  have C : cxw g A cX5_gather 4 none wsX5_gather RX5 p s m ([.ref (g.2.2.1 5), .int x1, .ref (g.2.2.1 1)] : List Value).toArray meth c := ⟨⟨hx, hb, hr, hml, hown, hts, hlk⟩, hK, hA⟩
  have hl := lv_entry [.ref (g.2.2.1 5), .int x1, .ref (g.2.2.1 1)] (n := 4) (Nat.le_of_ble_eq_true rfl)
  rw [lg_entry_eq]
  generalize (lg_sl [.ref (g.2.2.1 5), .int x1, .ref (g.2.2.1 1)] ++ List.replicate (4 - (lg_sl [.ref (g.2.2.1 5), .int x1, .ref (g.2.2.1 1)]).length) Slot.unset).toArray = ls at hl ⊢
  have hl : lv_has ls 4 [(0, .ref (g.2.2.1 5)), (1, .int x1), (2, .ref (g.2.2.1 1))] := hl
  unfold f_X5_gather at hf
  suffices K9 : ∀ (H : Heap) (locs : List Loc), va_P g.1 vwCl (wd_5_6_1 g S5 S6 S1) H → va_D A (wd_5_6_1 g S5 S6 S1) → va_S A s.heap H locs → (f_X5_gather_7 N S5 S6  N (sI S1 4 0) x1 0) = some res → W p l e (headSpec wsX5_gather { frames := 5, cells := 0, slots := 0, locals := 123 }).room s m ([.ref (g.2.2.1 5), .int x1, .ref (g.2.2.1 1)] : List Value).toArray below meth c H locs 0 0 (MQ below (rwQv g (wd_5_6_1 g S5 S6 res) A) ([.ref (g.2.2.1 5), .int x1, .ref (g.2.2.1 1)] : List Value).toArray s 0 0 A) (F0 m 0 ls []) from K9 s.heap [] hP hD hS hf
  clear hP hD hS hf
  intro H locs hP hD hS hf
  refine lv_aload_n (pc := 0) hx hb dX5_gather_0 rfl (lv_at hl 2 rfl) ?_
  refine lv_iconst (v := 0) (pc := 1) hx hb dX5_gather_1 (by decide) ?_
  refine va_put (D := g.1) (ci := 1) (v := .int 0) (ty := .int) (C := RX1) (T := TX1) (N := 5) (pc := 2) hx hb hts (fun _ h => List.mem_cons_of_mem _ (List.mem_append_left _ (List.mem_append_left _ (List.mem_append_right _ h)))) tyX1 tyX1_ok nmX1 hown hK hP hD hS 13 rfl rfl 4 (by decide) (hts _ q_X5_gather_2) (fun _ h9 => h9) rfl rfl rfl rfl (Nat.le_of_ble_eq_true rfl) dX5_gather_2 (fun H locs hP hD hS => ?_)
  have hP := u_5_6_1_1_4P S5 S6 S1 0 hP
  have hD := u_5_6_1_1_4D S5 S6 S1 0 hD
  refine lv_iconst (v := 0) (pc := 5) hx hb dX5_gather_5 (by decide) ?_
  refine lv_istore_n (lv' := [(3, .int 0), (0, .ref (g.2.2.1 5)), (1, .int x1), (2, .ref (g.2.2.1 1))]) (pc := 6) hx hb dX5_gather_6 rfl hl (by decide) rfl (fun ls hl => ?_)
  exact w_X5_gather_7 C  N H locs (sI S1 4 0) ls x1 0 hP hD hS (lv_sub hl [1, 2, 3, 0] rfl) hf
theorem q_X5_mixPaintsInto_0 : (.constantLong RX5 102 31 : Cond) ∈ wsX5_mixPaintsInto := by decide +kernel
theorem q_X5_mixPaintsInto_1 : (.fieldLink RX5 18 "PictureCourt$Proofs" "paintYears" "[I" : Cond) ∈ wsX5_mixPaintsInto := by decide +kernel
theorem h_X5_mixPaintsInto : yX5_mixPaintsInto.cls = RX5 ∧ yX5_mixPaintsInto.cls ≠ "java/lang/invoke/MethodHandle" ∧ yX5_mixPaintsInto.cls ≠ "java/lang/invoke/VarHandle" ∧ (parseMethodDescriptor yX5_mixPaintsInto.desc).map (fun d => d.parameters.length) = some 1 := by decide +kernel
set_option maxHeartbeats 4000000 in
set_option maxRecDepth 100000 in
theorem w_X5_mixPaintsInto_2_b {p : Program} {l : Launch} {e : Env} {s : State} {m : MethodId} {args : Array Value} {below : List Frame} {meth : Method} {c : Code} {g : En} {N : Nat} {S5 : St} {res : Int64} (C : cxr g (wd_5 g S5) cX5_mixPaintsInto 4 (some .long) wsX5_mixPaintsInto RX5 p s m args meth c) (k2 : Int64 → Int32 → Option (Int64)) (H2 : ∀ (ls : Array Slot) (x1 : Int64) (x3 : Int32), lv_has ls 4 [(0, .ref (g.2.2.1 5)), (1, .long x1), (3, .int x3)] → k2 x1 x3 = some res → W p l e (headSpec wsX5_mixPaintsInto { frames := 0, cells := 0, slots := 0, locals := 0 }).room s m args below meth c s.heap [] 0 0 (MQ below (vp_Sl (fun r => r = res)) args s 0 0 (fun _ => False)) (F0 m 2 ls [])) : ∀ (ls : Array Slot) (x1 : Int64) (x3 : Int32), lv_has ls 4 [(0, .ref (g.2.2.1 5)), (1, .long x1), (3, .int x3)] → f_X5_mixPaintsInto_2_b N S5  k2 x1 x3 = some res → W p l e (headSpec wsX5_mixPaintsInto { frames := 0, cells := 0, slots := 0, locals := 0 }).room s m args below meth c s.heap [] 0 0 (MQ below (vp_Sl (fun r => r = res)) args s 0 0 (fun _ => False)) (F0 m 2 ls []) := by
  intro ls x1 x3 hl hf
  obtain ⟨⟨hx, hb, hr, hml, hown, hts, hlk⟩, hK, hP⟩ := id C
  unfold f_X5_mixPaintsInto_2_b at hf
  refine lv_iload_n (pc := 2) hx hb dX5_mixPaintsInto_2 rfl (lv_at hl 2 rfl) ?_
  refine lv_bipush (v := 10) (pc := 3) hx hb dX5_mixPaintsInto_3 (by decide) ?_
  refine lv_icmp_ge (tgt := 28) (pc := 5) hx hb dX5_mixPaintsInto_5 (by decide) (fun c5 => ?_) (fun c5 => ?_)
  · have hf := ft hf c5
    refine lv_lload_n (pc := 28) hx hb dX5_mixPaintsInto_28 rfl (lv_at hl 1 rfl) ?_
    have hf := Option.some.inj hf
    subst hf
    exact W.lret (v := x1) hx hb hr (fun t ht hW => ⟨_, rfl, rfl, ht⟩) (fun _ h => by cases h) dX5_mixPaintsInto_29
  · have hf := ff hf c5
    refine lv_ldc2 (v := 31) (pc := 8) hx hb hown (hts _ q_X5_mixPaintsInto_0) dX5_mixPaintsInto_8 ?_
    refine lv_lload_n (pc := 11) hx hb dX5_mixPaintsInto_11 rfl (lv_at hl 1 rfl) ?_
    refine lv_lmul (pc := 12) hx hb dX5_mixPaintsInto_12 ?_
    refine lv_aload_n (pc := 13) hx hb dX5_mixPaintsInto_13 rfl (lv_at hl 0 rfl) ?_
    refine va_get (D := g.1) (ci := 5) (v := .ref (g.2.2.2 5 1)) (C := RX5) (T := TX5) (N := 15) (pc := 14) hx hb hts (fun _ h => List.mem_cons_of_mem _ (List.mem_append_right _ h)) hown hK hP 0 rfl rfl 1 (by decide) (hts _ q_X5_mixPaintsInto_1) (fun _ h9 => h9) rfl dX5_mixPaintsInto_14 ?_
    refine lv_iload_n (pc := 17) hx hb dX5_mixPaintsInto_17 rfl (lv_at hl 2 rfl) ?_
    obtain ⟨b18, hf⟩ := gdE hf
    refine va_iald (D := g.1) (tys := tyl g) (f := (S5.2.2 1)) (pc := 18) hx hb hK hP 1 0 rfl rfl (inbV b18) dX5_mixPaintsInto_18 ?_
    refine lv_i2l (pc := 19) hx hb dX5_mixPaintsInto_19 rfl ?_
    refine lv_ladd (pc := 20) hx hb dX5_mixPaintsInto_20 ?_
    refine lv_lstore_n (lv' := [(1, .long ((31 * x1) + (Int32.toInt64 ((S5.2.2 1) (Int32.toNatClampNeg x3))))), (0, .ref (g.2.2.1 5)), (3, .int x3)]) (pc := 21) hx hb dX5_mixPaintsInto_21 rfl hl (by decide) rfl (fun ls hl => ?_)
    refine lv_iinc (v := (x3 + 1)) (lv' := [(3, .int (x3 + 1)), (1, .long ((31 * x1) + (Int32.toInt64 ((S5.2.2 1) (Int32.toNatClampNeg x3))))), (0, .ref (g.2.2.1 5))]) (pc := 22) hx hb dX5_mixPaintsInto_22 hl (k := 2) rfl rfl (by decide) rfl (fun ls hl => ?_)
    refine lv_goto (tgt := 2) (pc := 25) hx hb dX5_mixPaintsInto_25 (by decide) ?_
    exact H2 ls ((31 * x1) + (Int32.toInt64 ((S5.2.2 1) (Int32.toNatClampNeg x3)))) (x3 + 1) (lv_sub hl [2, 1, 0] rfl) hf
set_option maxHeartbeats 4000000 in
set_option maxRecDepth 100000 in
theorem w_X5_mixPaintsInto_2 {p : Program} {l : Launch} {e : Env} {s : State} {m : MethodId} {args : Array Value} {below : List Frame} {meth : Method} {c : Code} {g : En} {N : Nat} {S5 : St} {res : Int64} (C : cxr g (wd_5 g S5) cX5_mixPaintsInto 4 (some .long) wsX5_mixPaintsInto RX5 p s m args meth c) : ∀ (n : Nat), ∀ (ls : Array Slot) (x1 : Int64) (x3 : Int32), lv_has ls 4 [(0, .ref (g.2.2.1 5)), (1, .long x1), (3, .int x3)] → f_X5_mixPaintsInto_2 N S5  n x1 x3 = some res → W p l e (headSpec wsX5_mixPaintsInto { frames := 0, cells := 0, slots := 0, locals := 0 }).room s m args below meth c s.heap [] 0 0 (MQ below (vp_Sl (fun r => r = res)) args s 0 0 (fun _ => False)) (F0 m 2 ls []) := by
  intro n
  induction n with
  | zero =>
    intro ls x1 x3 hl hf
    have hf : (none : Option (Int64)) = some res := hf
    cases hf
  | succ n ih =>
    intro ls x1 x3 hl hf
    exact w_X5_mixPaintsInto_2_b C  (fun y0 y1 => f_X5_mixPaintsInto_2 N S5  n y0 y1) ih ls x1 x3 hl hf
set_option maxHeartbeats 4000000 in
set_option maxRecDepth 100000 in
theorem c_X5_mixPaintsInto (l : Launch) (g : En) (N : Nat) (S5 : St) (x1 : Int64) (res : Int64) (hf : f_X5_mixPaintsInto N S5 x1 = some res) : Met l yX5_mixPaintsInto wsX5_mixPaintsInto { frames := 0, cells := 0, slots := 0, locals := 0 } (roP g (wd_5 g S5) [.ref (g.2.2.1 5), .long x1]) (vp_Sl (fun r => r = res)) 0 0 (fun _ => False) := by
  refine Met.ofW (cc := cX5_mixPaintsInto) (maxL := 4) (ret := (some .long)) (by decide) rfl ?_
  intro p e s m args below meth c s₁ B hml hv
  obtain ⟨rfl, hP, hK⟩ := hv
  have hx := B.exec
  have hb := B.bytes
  have hr := B.returns
  have hts := atoms_spec (ws := wsX5_mixPaintsInto) B.pre
  have hown : s.vm.findClass RX5 = some m.cls := findClass_of_methodNamed B.named
  have hlk := B.notSynchronized
  have C : cxr g (wd_5 g S5) cX5_mixPaintsInto 4 (some .long) wsX5_mixPaintsInto RX5 p s m ([.ref (g.2.2.1 5), .long x1] : List Value).toArray meth c := ⟨⟨hx, hb, hr, hml, hown, hts, hlk⟩, hK, hP⟩
  have hl := lv_entry [.ref (g.2.2.1 5), .long x1] (n := 4) (Nat.le_of_ble_eq_true rfl)
  rw [lg_entry_eq]
  generalize (lg_sl [.ref (g.2.2.1 5), .long x1] ++ List.replicate (4 - (lg_sl [.ref (g.2.2.1 5), .long x1]).length) Slot.unset).toArray = ls at hl ⊢
  have hl : lv_has ls 4 [(0, .ref (g.2.2.1 5)), (1, .long x1)] := hl
  unfold f_X5_mixPaintsInto at hf
  refine lv_iconst (v := 0) (pc := 0) hx hb dX5_mixPaintsInto_0 (by decide) ?_
  refine lv_istore_n (lv' := [(3, .int 0), (0, .ref (g.2.2.1 5)), (1, .long x1)]) (pc := 1) hx hb dX5_mixPaintsInto_1 rfl hl (by decide) rfl (fun ls hl => ?_)
  exact w_X5_mixPaintsInto_2 C  N ls x1 0 (lv_sub hl [1, 2, 0] rfl) hf
