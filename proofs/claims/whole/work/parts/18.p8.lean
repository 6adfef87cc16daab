theorem h_X8_in : yX8_in.cls ≠ "java/lang/invoke/MethodHandle" ∧ yX8_in.cls ≠ "java/lang/invoke/VarHandle" ∧ (parseMethodDescriptor yX8_in.desc).map (fun d => d.parameters.length) = some 3 := by decide +kernel
set_option maxHeartbeats 4000000 in
set_option maxRecDepth 100000 in
theorem c_X8_in (l : Launch) (N : Nat) (x0 : Int32) (x1 : Int32) (x2 : Int32) (res : Int32) (hf : f_X8_in N x0 x1 x2 = some res) : Met l yX8_in wsX8_in { frames := 0, cells := 0, slots := 0, locals := 0 } (va_Pc [.int x0, .int x1, .int x2] (fun _ => True)) (vp_Si (fun r => r = res)) 0 0 (fun _ => False) := by
  refine Met.ofW (cc := cX8_in) (maxL := 3) (ret := (some .boolean)) (by decide) rfl ?_
  intro p e s m args below meth c s₁ B hml hv
  obtain ⟨rfl, -⟩ := hv
  have hx := B.exec
  have hb := B.bytes
  have hr := B.returns
  have hts := atoms_spec (ws := wsX8_in) B.pre
  have hown : s.vm.findClass RX8 = some m.cls := findClass_of_methodNamed B.named
  have hlk := B.notSynchronized
  have C : cxs cX8_in 3 (some .boolean) wsX8_in RX8 p s m ([.int x0, .int x1, .int x2] : List Value).toArray meth c := ⟨hx, hb, hr, hml, hown, hts, hlk⟩
  have hl := lv_entry [.int x0, .int x1, .int x2] (n := 3) (Nat.le_of_ble_eq_true rfl)
  rw [lg_entry_eq]
  generalize (lg_sl [.int x0, .int x1, .int x2] ++ List.replicate (3 - (lg_sl [.int x0, .int x1, .int x2]).length) Slot.unset).toArray = ls at hl ⊢
  have hl : lv_has ls 3 [(0, .int x0), (1, .int x1), (2, .int x2)] := hl
  unfold f_X8_in at hf
  refine lv_iload_n (pc := 0) hx hb dX8_in_0 rfl (lv_at hl 0 rfl) ?_
  refine lv_iload_n (pc := 1) hx hb dX8_in_1 rfl (lv_at hl 1 rfl) ?_
  refine lv_icmp_lt (tgt := 14) (pc := 2) hx hb dX8_in_2 (by decide) (fun c2 => ?_) (fun c2 => ?_)
  · have hf := ft hf c2
    refine lv_iconst (v := 0) (pc := 14) hx hb dX8_in_14 (by decide) ?_
    have hf := Option.some.inj hf
    subst hf
    exact W.zret (v := 0) hx hb hr rfl (fun t ht hW => ⟨_, rfl, rfl, ht⟩) (fun _ h => by cases h) dX8_in_15
  · have hf := ff hf c2
    refine lv_iload_n (pc := 5) hx hb dX8_in_5 rfl (lv_at hl 0 rfl) ?_
    refine lv_iload_n (pc := 6) hx hb dX8_in_6 rfl (lv_at hl 2 rfl) ?_
    refine lv_icmp_gt (tgt := 14) (pc := 7) hx hb dX8_in_7 (by decide) (fun c7 => ?_) (fun c7 => ?_)
    · have hf := ft hf c7
      refine lv_iconst (v := 0) (pc := 14) hx hb dX8_in_14 (by decide) ?_
      have hf := Option.some.inj hf
      subst hf
      exact W.zret (v := 0) hx hb hr rfl (fun t ht hW => ⟨_, rfl, rfl, ht⟩) (fun _ h => by cases h) dX8_in_15
    · have hf := ff hf c7
      refine lv_iconst (v := 1) (pc := 10) hx hb dX8_in_10 (by decide) ?_
      refine lv_goto (tgt := 15) (pc := 11) hx hb dX8_in_11 (by decide) ?_
      have hf := Option.some.inj hf
      subst hf
      exact W.zret (v := 1) hx hb hr rfl (fun t ht hW => ⟨_, rfl, rfl, ht⟩) (fun _ h => by cases h) dX8_in_15
theorem q_X8_meets_0 : (.fieldLink RX8 122 "PictureCourtModel" "latest" "I" : Cond) ∈ wsX8_meets := by decide +kernel
theorem q_X8_meets_1 : (.fieldLink RX8 7 "PictureCourtModel" "came" "[I" : Cond) ∈ wsX8_meets := by decide +kernel
theorem h_X8_meets : yX8_meets.cls = RX8 ∧ yX8_meets.cls ≠ "java/lang/invoke/MethodHandle" ∧ yX8_meets.cls ≠ "java/lang/invoke/VarHandle" ∧ (parseMethodDescriptor yX8_meets.desc).map (fun d => d.parameters.length) = some 1 := by decide +kernel
set_option maxHeartbeats 4000000 in
set_option maxRecDepth 100000 in
theorem c_X8_meets (l : Launch) (g : En) (N : Nat) (sz : Nat) (S8 : St) (x1 : Int32) (res : Int32 × St) (hf : f_X8_meets N S8 x1 = some res) : Met l yX8_meets wsX8_meets { frames := 0, cells := 0, slots := 0, locals := 0 } (rwP g (wd_8 g S8) sz [.ref (g.2.2.1 8), .int x1]) (rwQi g (wd_8 g (res.2)) (va_A (wd_8 g S8) sz) (res.1)) 0 0 (va_A (wd_8 g S8) sz) := by
  refine Met.ofW (cc := cX8_meets) (maxL := 2) (ret := (some .int)) (by decide) rfl ?_
  intro p e s m args below meth c s₁ B hml hv
  obtain ⟨rfl, hsz, hP, hK, hD0⟩ := hv
  have hx := B.exec
  have hb := B.bytes
  have hr := B.returns
  have hts := atoms_spec (ws := wsX8_meets) B.pre
  have hown : s.vm.findClass RX8 = some m.cls := findClass_of_methodNamed B.named
  have hlk := B.notSynchronized
  subst hsz
  have hD := hD0.self (sz := s.heap.size)
  generalize hAe : va_A (wd_8 g S8) s.heap.size = A at hD ⊢
  have hA : ∀ q : Nat, s.heap.size ≤ q → A q := fun q h => by rw [← hAe]; exact Or.inr h
  have hS : va_S A s.heap s.heap [] := va_S.rf
  have C : cxw g A cX8_meets 2 (some .int) wsX8_meets RX8 p s m ([.ref (g.2.2.1 8), .int x1] : List Value).toArray meth c := ⟨⟨hx, hb, hr, hml, hown, hts, hlk⟩, hK, hA⟩
  have hl := lv_entry [.ref (g.2.2.1 8), .int x1] (n := 2) (Nat.le_of_ble_eq_true rfl)
  rw [lg_entry_eq]
  generalize (lg_sl [.ref (g.2.2.1 8), .int x1] ++ List.replicate (2 - (lg_sl [.ref (g.2.2.1 8), .int x1]).length) Slot.unset).toArray = ls at hl ⊢
  have hl : lv_has ls 2 [(0, .ref (g.2.2.1 8)), (1, .int x1)] := hl
  unfold f_X8_meets at hf
  suffices K9 : ∀ (H : Heap) (locs : List Loc), va_P g.1 vwCl (wd_8 g S8) H → va_D A (wd_8 g S8) → va_S A s.heap H locs → (if inb x1 6 = true then (if inb x1 6 = true then some ((-3), (sA (sI S8 0 x1) 1 (upd (S8.2.2 1) (Int32.toNatClampNeg x1) (((S8.2.2 1) (Int32.toNatClampNeg x1)) + 1)))) else none) else none) = some res → W p l e (headSpec wsX8_meets { frames := 0, cells := 0, slots := 0, locals := 0 }).room s m ([.ref (g.2.2.1 8), .int x1] : List Value).toArray below meth c H locs 0 0 (MQ below (rwQi g (wd_8 g (res.2)) A (res.1)) ([.ref (g.2.2.1 8), .int x1] : List Value).toArray s 0 0 A) (F0 m 0 ls []) from K9 s.heap [] hP hD hS hf
  clear hP hD hS hf
  intro H locs hP hD hS hf
  refine lv_aload_n (pc := 0) hx hb dX8_meets_0 rfl (lv_at hl 0 rfl) ?_
  refine lv_iload_n (pc := 1) hx hb dX8_meets_1 rfl (lv_at hl 1 rfl) ?_
  refine va_put (D := g.1) (ci := 8) (v := .int x1) (ty := .int) (C := RX8) (T := TX8) (N := 47) (pc := 2) hx hb hts (fun _ h => List.mem_cons_of_mem _ (List.mem_append_right _ h)) tyX8 tyX8_ok nmX8 hown hK hP hD hS 0 rfl rfl 0 (by decide) (hts _ q_X8_meets_0) (fun _ h9 => h9) rfl rfl rfl rfl (Nat.le_of_ble_eq_true rfl) dX8_meets_2 (fun H locs hP hD hS => ?_)
  have hP := u_8_8_0P S8 x1 hP
  have hD := u_8_8_0D S8 x1 hD
  refine lv_aload_n (pc := 5) hx hb dX8_meets_5 rfl (lv_at hl 0 rfl) ?_
  refine va_get (D := g.1) (ci := 8) (v := .ref (g.2.2.2 8 1)) (C := RX8) (T := TX8) (N := 47) (pc := 6) hx hb hts (fun _ h => List.mem_cons_of_mem _ (List.mem_append_right _ h)) hown hK hP 0 rfl rfl 1 (by decide) (hts _ q_X8_meets_1) (fun _ h9 => h9) rfl dX8_meets_6 ?_
  refine lv_iload_n (pc := 9) hx hb dX8_meets_9 rfl (lv_at hl 1 rfl) ?_
  refine lv_dup2_11 (pc := 10) hx hb dX8_meets_10 rfl rfl ?_
  obtain ⟨b11, hf⟩ := gdE hf
  refine va_iald (D := g.1) (tys := tyl g) (f := (S8.2.2 1)) (pc := 11) hx hb hK hP 1 0 rfl rfl (inbV b11) dX8_meets_11 ?_
  refine lv_iconst (v := 1) (pc := 12) hx hb dX8_meets_12 (by decide) ?_
  refine lv_iadd (pc := 13) hx hb dX8_meets_13 ?_
  obtain ⟨b14, hf⟩ := gdE hf
  refine va_iast (D := g.1) (tys := tyl g) (f := (S8.2.2 1)) (pc := 14) hx hb hK hP hD hS 1 0 rfl rfl (inbV b14) dX8_meets_14 (fun H locs hP hD hS => ?_)
  have hP := u_8_8_1P (sI S8 0 x1) (upd (S8.2.2 1) (Int32.toNatClampNeg x1) (((S8.2.2 1) (Int32.toNatClampNeg x1)) + 1)) hP
  have hD := u_8_8_1D (sI S8 0 x1) (upd (S8.2.2 1) (Int32.toNatClampNeg x1) (((S8.2.2 1) (Int32.toNatClampNeg x1)) + 1)) hD
  refine lv_bipush (v := (-3)) (pc := 15) hx hb dX8_meets_15 (by decide) ?_
  have hf := Option.some.inj hf
  subst hf
  exact W.iret (v := (-3)) hx hb hr (fun t ht hW => ⟨⟨_, (), rfl, rfl, by rw [ht]; exact hP, va_K.moved hW.alike hK, hD⟩, hS.F ht⟩) hS.2.2 dX8_meets_17
theorem q_X8_finding_0 : (.fieldLink RX8 122 "PictureCourtModel" "latest" "I" : Cond) ∈ wsX8_finding := by decide +kernel
theorem h_X8_finding : yX8_finding.cls = RX8 ∧ yX8_finding.cls ≠ "java/lang/invoke/MethodHandle" ∧ yX8_finding.cls ≠ "java/lang/invoke/VarHandle" ∧ (parseMethodDescriptor yX8_finding.desc).map (fun d => d.parameters.length) = some 0 := by decide +kernel
set_option maxHeartbeats 4000000 in
set_option maxRecDepth 100000 in
theorem c_X8_finding (l : Launch) (g : En) (N : Nat) (S8 : St) (res : Int32) (hf : f_X8_finding N S8 = some res) : Met l yX8_finding wsX8_finding { frames := 0, cells := 0, slots := 0, locals := 0 } (roP g (wd_8 g S8) [.ref (g.2.2.1 8)]) (vp_Si (fun r => r = res)) 0 0 (fun _ => False) := by
  refine Met.ofW (cc := cX8_finding) (maxL := 1) (ret := (some .int)) (by decide) rfl ?_
  intro p e s m args below meth c s₁ B hml hv
  obtain ⟨rfl, hP, hK⟩ := hv
  have hx := B.exec
  have hb := B.bytes
  have hr := B.returns
  have hts := atoms_spec (ws := wsX8_finding) B.pre
  have hown : s.vm.findClass RX8 = some m.cls := findClass_of_methodNamed B.named
  have hlk := B.notSynchronized
  have C : cxr g (wd_8 g S8) cX8_finding 1 (some .int) wsX8_finding RX8 p s m ([.ref (g.2.2.1 8)] : List Value).toArray meth c := ⟨⟨hx, hb, hr, hml, hown, hts, hlk⟩, hK, hP⟩
  have hl := lv_entry [.ref (g.2.2.1 8)] (n := 1) (Nat.le_of_ble_eq_true rfl)
  rw [lg_entry_eq]
  generalize (lg_sl [.ref (g.2.2.1 8)] ++ List.replicate (1 - (lg_sl [.ref (g.2.2.1 8)]).length) Slot.unset).toArray = ls at hl ⊢
  have hl : lv_has ls 1 [(0, .ref (g.2.2.1 8))] := hl
  unfold f_X8_finding at hf
  refine lv_aload_n (pc := 0) hx hb dX8_finding_0 rfl (lv_at hl 0 rfl) ?_
  refine va_get (D := g.1) (ci := 8) (v := .int (S8.1 0)) (C := RX8) (T := TX8) (N := 47) (pc := 1) hx hb hts (fun _ h => List.mem_cons_of_mem _ (List.mem_append_right _ h)) hown hK hP 0 rfl rfl 0 (by decide) (hts _ q_X8_finding_0) (fun _ h9 => h9) rfl dX8_finding_1 ?_
  have hf := Option.some.inj hf
  subst hf
  exact W.iret (v := (S8.1 0)) hx hb hr (fun t ht hW => ⟨_, rfl, rfl, ht⟩) (fun _ h => by cases h) dX8_finding_4
theorem q_X8_findings_0 : (.fieldLink RX8 7 "PictureCourtModel" "came" "[I" : Cond) ∈ wsX8_findings := by decide +kernel
theorem h_X8_findings : yX8_findings.cls = RX8 ∧ yX8_findings.cls ≠ "java/lang/invoke/MethodHandle" ∧ yX8_findings.cls ≠ "java/lang/invoke/VarHandle" ∧ (parseMethodDescriptor yX8_findings.desc).map (fun d => d.parameters.length) = some 1 := by decide +kernel
set_option maxHeartbeats 4000000 in
set_option maxRecDepth 100000 in
theorem c_X8_findings (l : Launch) (g : En) (N : Nat) (S8 : St) (x1 : Int32) (res : Int32) (hf : f_X8_findings N S8 x1 = some res) : Met l yX8_findings wsX8_findings { frames := 1, cells := 0, slots := 0, locals := 22 } (roP g (wd_8 g S8) [.ref (g.2.2.1 8), .int x1]) (vp_Si (fun r => r = res)) 0 0 (fun _ => False) := by
  refine Met.ofW (cc := cX8_findings) (maxL := 2) (ret := (some .int)) (by decide) rfl ?_
  intro p e s m args below meth c s₁ B hml hv
  obtain ⟨rfl, hP, hK⟩ := hv
  have hx := B.exec
  have hb := B.bytes
  have hr := B.returns
  have hts := atoms_spec (ws := wsX8_findings) B.pre
  have hown : s.vm.findClass RX8 = some m.cls := findClass_of_methodNamed B.named
  have hlk := B.notSynchronized
  have C : cxr g (wd_8 g S8) cX8_findings 2 (some .int) wsX8_findings RX8 p s m ([.ref (g.2.2.1 8), .int x1] : List Value).toArray meth c := ⟨⟨hx, hb, hr, hml, hown, hts, hlk⟩, hK, hP⟩
  have hl := lv_entry [.ref (g.2.2.1 8), .int x1] (n := 2) (Nat.le_of_ble_eq_true rfl)
  rw [lg_entry_eq]
  generalize (lg_sl [.ref (g.2.2.1 8), .int x1] ++ List.replicate (2 - (lg_sl [.ref (g.2.2.1 8), .int x1]).length) Slot.unset).toArray = ls at hl ⊢
  have hl : lv_has ls 2 [(0, .ref (g.2.2.1 8)), (1, .int x1)] := hl
  unfold f_X8_findings at hf
  refine lv_iload_n (pc := 0) hx hb dX8_findings_0 rfl (lv_at hl 1 rfl) ?_
  refine lv_iconst (v := 1) (pc := 1) hx hb dX8_findings_1 (by decide) ?_
  refine lv_iconst (v := 5) (pc := 2) hx hb dX8_findings_2 (by decide) ?_
  obtain ⟨r3, e3, hf⟩ := bdE hf
  refine ksI (pc := 3) (As := [.int x1, .int 1, .int 5]) (rest := []) ⟨hx, hb, hml, hown, hts⟩ (c_X8_in l N x1 1 5 r3 e3) (va_cwS 3 hts gX8_findings_X8_in rfl rfl rfl h_X8_in ⟨Nat.le_of_ble_eq_true rfl, Nat.le_of_ble_eq_true rfl⟩) rfl hl.1 rfl (Nat.le_of_ble_eq_true rfl) dX8_findings_3 ⟨Nat.zero_le _, Nat.zero_le _⟩ ?_
  refine lv_if_eq (tgt := 18) (pc := 6) hx hb dX8_findings_6 (by decide) (fun c6 => ?_) (fun c6 => ?_)
  · have hf := ft hf c6
    refine lv_iconst (v := (-1)) (pc := 18) hx hb dX8_findings_18 (by decide) ?_
    have hf := Option.some.inj hf
    subst hf
    exact W.iret (v := (-1)) hx hb hr (fun t ht hW => ⟨_, rfl, rfl, ht⟩) (fun _ h => by cases h) dX8_findings_19
  · have hf := ff hf c6
    refine lv_aload_n (pc := 9) hx hb dX8_findings_9 rfl (lv_at hl 0 rfl) ?_
    refine va_get (D := g.1) (ci := 8) (v := .ref (g.2.2.2 8 1)) (C := RX8) (T := TX8) (N := 47) (pc := 10) hx hb hts (fun _ h => List.mem_cons_of_mem _ (List.mem_append_right _ h)) hown hK hP 0 rfl rfl 1 (by decide) (hts _ q_X8_findings_0) (fun _ h9 => h9) rfl dX8_findings_10 ?_
    refine lv_iload_n (pc := 13) hx hb dX8_findings_13 rfl (lv_at hl 1 rfl) ?_
    obtain ⟨b14, hf⟩ := gdE hf
    refine va_iald (D := g.1) (tys := tyl g) (f := (S8.2.2 1)) (pc := 14) hx hb hK hP 1 0 rfl rfl (inbV b14) dX8_findings_14 ?_
    refine lv_goto (tgt := 19) (pc := 15) hx hb dX8_findings_15 (by decide) ?_
    have hf := Option.some.inj hf
    subst hf
    exact W.iret (v := ((S8.2.2 1) (Int32.toNatClampNeg x1))) hx hb hr (fun t ht hW => ⟨_, rfl, rfl, ht⟩) (fun _ h => by cases h) dX8_findings_19
theorem q_X8_tells_0 : (.fieldLink RX8 129 "PictureCourtModel" "asked" "I" : Cond) ∈ wsX8_tells := by decide +kernel
theorem h_X8_tells : yX8_tells.cls = RX8 ∧ yX8_tells.cls ≠ "java/lang/invoke/MethodHandle" ∧ yX8_tells.cls ≠ "java/lang/invoke/VarHandle" ∧ (parseMethodDescriptor yX8_tells.desc).map (fun d => d.parameters.length) = some 2 := by decide +kernel
set_option maxHeartbeats 4000000 in
set_option maxRecDepth 100000 in
theorem c_X8_tells (l : Launch) (g : En) (N : Nat) (sz : Nat) (S8 : St) (x1 : Int32) (x2 : Int32) (res : Int32 × St) (hf : f_X8_tells N S8 x1 x2 = some res) : Met l yX8_tells wsX8_tells { frames := 0, cells := 0, slots := 0, locals := 0 } (rwP g (wd_8 g S8) sz [.ref (g.2.2.1 8), .int x1, .int x2]) (rwQi g (wd_8 g (res.2)) (va_A (wd_8 g S8) sz) (res.1)) 0 0 (va_A (wd_8 g S8) sz) := by
  refine Met.ofW (cc := cX8_tells) (maxL := 3) (ret := (some .int)) (by decide) rfl ?_
  intro p e s m args below meth c s₁ B hml hv
  obtain ⟨rfl, hsz, hP, hK, hD0⟩ := hv
  have hx := B.exec
  have hb := B.bytes
  have hr := B.returns
  have hts := atoms_spec (ws := wsX8_tells) B.pre
  have hown : s.vm.findClass RX8 = some m.cls := findClass_of_methodNamed B.named
  have hlk := B.notSynchronized
  subst hsz
  have hD := hD0.self (sz := s.heap.size)
  generalize hAe : va_A (wd_8 g S8) s.heap.size = A at hD ⊢
  have hA : ∀ q : Nat, s.heap.size ≤ q → A q := fun q h => by rw [← hAe]; exact Or.inr h
  have hS : va_S A s.heap s.heap [] := va_S.rf
  have C : cxw g A cX8_tells 3 (some .int) wsX8_tells RX8 p s m ([.ref (g.2.2.1 8), .int x1, .int x2] : List Value).toArray meth c := ⟨⟨hx, hb, hr, hml, hown, hts, hlk⟩, hK, hA⟩
  have hl := lv_entry [.ref (g.2.2.1 8), .int x1, .int x2] (n := 3) (Nat.le_of_ble_eq_true rfl)
  rw [lg_entry_eq]
  generalize (lg_sl [.ref (g.2.2.1 8), .int x1, .int x2] ++ List.replicate (3 - (lg_sl [.ref (g.2.2.1 8), .int x1, .int x2]).length) Slot.unset).toArray = ls at hl ⊢
  have hl : lv_has ls 3 [(0, .ref (g.2.2.1 8)), (1, .int x1), (2, .int x2)] := hl
  unfold f_X8_tells at hf
  suffices K9 : ∀ (H : Heap) (locs : List Loc), va_P g.1 vwCl (wd_8 g S8) H → va_D A (wd_8 g S8) → va_S A s.heap H locs → some (x2, (sI S8 2 x1)) = some res → W p l e (headSpec wsX8_tells { frames := 0, cells := 0, slots := 0, locals := 0 }).room s m ([.ref (g.2.2.1 8), .int x1, .int x2] : List Value).toArray below meth c H locs 0 0 (MQ below (rwQi g (wd_8 g (res.2)) A (res.1)) ([.ref (g.2.2.1 8), .int x1, .int x2] : List Value).toArray s 0 0 A) (F0 m 0 ls []) from K9 s.heap [] hP hD hS hf
  clear hP hD hS hf
  intro H locs hP hD hS hf
  refine lv_aload_n (pc := 0) hx hb dX8_tells_0 rfl (lv_at hl 0 rfl) ?_
  refine lv_iload_n (pc := 1) hx hb dX8_tells_1 rfl (lv_at hl 1 rfl) ?_
  refine va_put (D := g.1) (ci := 8) (v := .int x1) (ty := .int) (C := RX8) (T := TX8) (N := 47) (pc := 2) hx hb hts (fun _ h => List.mem_cons_of_mem _ (List.mem_append_right _ h)) tyX8 tyX8_ok nmX8 hown hK hP hD hS 0 rfl rfl 2 (by decide) (hts _ q_X8_tells_0) (fun _ h9 => h9) rfl rfl rfl rfl (Nat.le_of_ble_eq_true rfl) dX8_tells_2 (fun H locs hP hD hS => ?_)
  have hP := u_8_8_2P S8 x1 hP
  have hD := u_8_8_2D S8 x1 hD
  refine lv_iload_n (pc := 5) hx hb dX8_tells_5 rfl (lv_at hl 2 rfl) ?_
  have hf := Option.some.inj hf
  subst hf
  exact W.iret (v := x2) hx hb hr (fun t ht hW => ⟨⟨_, (), rfl, rfl, by rw [ht]; exact hP, va_K.moved hW.alike hK, hD⟩, hS.F ht⟩) hS.2.2 dX8_tells_6
theorem q_X8_asked_0 : (.fieldLink RX8 129 "PictureCourtModel" "asked" "I" : Cond) ∈ wsX8_asked := by decide +kernel
theorem h_X8_asked : yX8_asked.cls = RX8 ∧ yX8_asked.cls ≠ "java/lang/invoke/MethodHandle" ∧ yX8_asked.cls ≠ "java/lang/invoke/VarHandle" ∧ (parseMethodDescriptor yX8_asked.desc).map (fun d => d.parameters.length) = some 0 := by decide +kernel
set_option maxHeartbeats 4000000 in
set_option maxRecDepth 100000 in
theorem c_X8_asked (l : Launch) (g : En) (N : Nat) (S8 : St) (res : Int32) (hf : f_X8_asked N S8 = some res) : Met l yX8_asked wsX8_asked { frames := 0, cells := 0, slots := 0, locals := 0 } (roP g (wd_8 g S8) [.ref (g.2.2.1 8)]) (vp_Si (fun r => r = res)) 0 0 (fun _ => False) := by
  refine Met.ofW (cc := cX8_asked) (maxL := 1) (ret := (some .int)) (by decide) rfl ?_
  intro p e s m args below meth c s₁ B hml hv
  obtain ⟨rfl, hP, hK⟩ := hv
  have hx := B.exec
  have hb := B.bytes
  have hr := B.returns
  have hts := atoms_spec (ws := wsX8_asked) B.pre
  have hown : s.vm.findClass RX8 = some m.cls := findClass_of_methodNamed B.named
  have hlk := B.notSynchronized
  have C : cxr g (wd_8 g S8) cX8_asked 1 (some .int) wsX8_asked RX8 p s m ([.ref (g.2.2.1 8)] : List Value).toArray meth c := ⟨⟨hx, hb, hr, hml, hown, hts, hlk⟩, hK, hP⟩
  have hl := lv_entry [.ref (g.2.2.1 8)] (n := 1) (Nat.le_of_ble_eq_true rfl)
  rw [lg_entry_eq]
  generalize (lg_sl [.ref (g.2.2.1 8)] ++ List.replicate (1 - (lg_sl [.ref (g.2.2.1 8)]).length) Slot.unset).toArray = ls at hl ⊢
  have hl : lv_has ls 1 [(0, .ref (g.2.2.1 8))] := hl
  unfold f_X8_asked at hf
  refine lv_aload_n (pc := 0) hx hb dX8_asked_0 rfl (lv_at hl 0 rfl) ?_
  refine va_get (D := g.1) (ci := 8) (v := .int (S8.1 2)) (C := RX8) (T := TX8) (N := 47) (pc := 1) hx hb hts (fun _ h => List.mem_cons_of_mem _ (List.mem_append_right _ h)) hown hK hP 0 rfl rfl 2 (by decide) (hts _ q_X8_asked_0) (fun _ h9 => h9) rfl dX8_asked_1 ?_
  have hf := Option.some.inj hf
  subst hf
  exact W.iret (v := (S8.1 2)) hx hb hr (fun t ht hW => ⟨_, rfl, rfl, ht⟩) (fun _ h => by cases h) dX8_asked_4
theorem q_X8_fraction_0 : (.fieldLink RX8 132 "PictureCourtModel" "upper" "J" : Cond) ∈ wsX8_fraction := by decide +kernel
theorem q_X8_fraction_1 : (.fieldLink RX8 105 "PictureCourtModel" "lower" "J" : Cond) ∈ wsX8_fraction := by decide +kernel
theorem h_X8_fraction : yX8_fraction.cls = RX8 ∧ yX8_fraction.cls ≠ "java/lang/invoke/MethodHandle" ∧ yX8_fraction.cls ≠ "java/lang/invoke/VarHandle" ∧ (parseMethodDescriptor yX8_fraction.desc).map (fun d => d.parameters.length) = some 3 := by decide +kernel
set_option maxHeartbeats 4000000 in
set_option maxRecDepth 100000 in
theorem w_X8_fraction_17_b {p : Program} {l : Launch} {e : Env} {s : State} {m : MethodId} {args : Array Value} {below : List Frame} {meth : Method} {c : Code} {g : En} {A : Nat → Prop} {N : Nat} {res : Int32 × St} (C : cxw g A cX8_fraction 12 (some .int) wsX8_fraction RX8 p s m args meth c) (k17 : St → Int64 → Int64 → Int32 → Int64 → Int64 → Option (Int32 × St)) (H17 : ∀ (H : Heap) (locs : List Loc) (S8 : St) (ls : Array Slot) (x1 : Int64) (x3 : Int64) (x5 : Int32) (x6 : Int64) (x8 : Int64), va_P g.1 vwCl (wd_8 g S8) H → va_D A (wd_8 g S8) → va_S A s.heap H locs → lv_has ls 12 [(0, .ref (g.2.2.1 8)), (1, .long x1), (3, .long x3), (5, .int x5), (6, .long x6), (8, .long x8)] → k17 S8 x1 x3 x5 x6 x8 = some res → W p l e (headSpec wsX8_fraction { frames := 0, cells := 0, slots := 0, locals := 0 }).room s m args below meth c H locs 0 0 (MQ below (rwQi g (wd_8 g (res.2)) A (res.1)) args s 0 0 A) (F0 m 17 ls [])) : ∀ (H : Heap) (locs : List Loc) (S8 : St) (ls : Array Slot) (x1 : Int64) (x3 : Int64) (x5 : Int32) (x6 : Int64) (x8 : Int64), va_P g.1 vwCl (wd_8 g S8) H → va_D A (wd_8 g S8) → va_S A s.heap H locs → lv_has ls 12 [(0, .ref (g.2.2.1 8)), (1, .long x1), (3, .long x3), (5, .int x5), (6, .long x6), (8, .long x8)] → f_X8_fraction_17_b N   k17 S8 x1 x3 x5 x6 x8 = some res → W p l e (headSpec wsX8_fraction { frames := 0, cells := 0, slots := 0, locals := 0 }).room s m args below meth c H locs 0 0 (MQ below (rwQi g (wd_8 g (res.2)) A (res.1)) args s 0 0 A) (F0 m 17 ls []) := by
  intro H locs S8 ls x1 x3 x5 x6 x8 hP hD hS hl hf
  obtain ⟨⟨hx, hb, hr, hml, hown, hts, hlk⟩, hK, hA⟩ := id C
  unfold f_X8_fraction_17_b at hf
  refine lv_lload (pc := 17) hx hb dX8_fraction_17 (lv_at hl 5 rfl) ?_
  refine lv_lconst (v := 0) (pc := 19) hx hb dX8_fraction_19 (by decide) ?_
  refine W.lcmp (pc := 20) hx hb dX8_fraction_20 ?_
  refine lv_if_eq (tgt := 42) (pc := 21) hx hb dX8_fraction_21 (by decide) (fun c21 => ?_) (fun c21 => ?_)
  · have hf := ft hf c21
    refine lv_aload_n (pc := 42) hx hb dX8_fraction_42 rfl (lv_at hl 0 rfl) ?_
    refine lv_lload_n (pc := 43) hx hb dX8_fraction_43 rfl (lv_at hl 1 rfl) ?_
    refine lv_lload (pc := 44) hx hb dX8_fraction_44 (lv_at hl 4 rfl) ?_
    obtain ⟨z46, hf⟩ := nzE hf
    refine lv_ldiv (pc := 46) hx hb dX8_fraction_46 z46 ?_
    refine va_put (D := g.1) (ci := 8) (v := .long (x1 / x6)) (ty := .long) (C := RX8) (T := TX8) (N := 47) (pc := 47) hx hb hts (fun _ h => List.mem_cons_of_mem _ (List.mem_append_right _ h)) tyX8 tyX8_ok nmX8 hown hK hP hD hS 0 rfl rfl 3 (by decide) (hts _ q_X8_fraction_0) (fun _ h9 => h9) rfl rfl rfl rfl (Nat.le_of_ble_eq_true rfl) dX8_fraction_47 (fun H locs hP hD hS => ?_)
    have hP := u_8_8_3P S8 (x1 / x6) hP
    have hD := u_8_8_3D S8 (x1 / x6) hD
    refine lv_aload_n (pc := 50) hx hb dX8_fraction_50 rfl (lv_at hl 0 rfl) ?_
    refine lv_lload_n (pc := 51) hx hb dX8_fraction_51 rfl (lv_at hl 2 rfl) ?_
    refine lv_lload (pc := 52) hx hb dX8_fraction_52 (lv_at hl 4 rfl) ?_
    obtain ⟨z54, hf⟩ := nzE hf
    refine lv_ldiv (pc := 54) hx hb dX8_fraction_54 z54 ?_
    refine va_put (D := g.1) (ci := 8) (v := .long (x3 / x6)) (ty := .long) (C := RX8) (T := TX8) (N := 47) (pc := 55) hx hb hts (fun _ h => List.mem_cons_of_mem _ (List.mem_append_right _ h)) tyX8 tyX8_ok nmX8 hown hK hP hD hS 0 rfl rfl 4 (by decide) (hts _ q_X8_fraction_1) (fun _ h9 => h9) rfl rfl rfl rfl (Nat.le_of_ble_eq_true rfl) dX8_fraction_55 (fun H locs hP hD hS => ?_)
    have hP := u_8_8_4P (sL S8 3 (x1 / x6)) (x3 / x6) hP
    have hD := u_8_8_4D (sL S8 3 (x1 / x6)) (x3 / x6) hD
    refine lv_iload (pc := 58) hx hb dX8_fraction_58 (lv_at hl 3 rfl) ?_
    have hf := Option.some.inj hf
    subst hf
    exact W.iret (v := x5) hx hb hr (fun t ht hW => ⟨⟨_, (), rfl, rfl, by rw [ht]; exact hP, va_K.moved hW.alike hK, hD⟩, hS.F ht⟩) hS.2.2 dX8_fraction_60
  · have hf := ff hf c21
    refine lv_lload (pc := 24) hx hb dX8_fraction_24 (lv_at hl 4 rfl) ?_
    refine lv_lload (pc := 26) hx hb dX8_fraction_26 (lv_at hl 5 rfl) ?_
    obtain ⟨z28, hf⟩ := nzE hf
    refine lv_lrem (pc := 28) hx hb dX8_fraction_28 z28 ?_
    refine lv_lstore (lv' := [(10, .long (x6 - x6 / x8 * x8)), (0, .ref (g.2.2.1 8)), (1, .long x1), (3, .long x3), (5, .int x5), (6, .long x6), (8, .long x8)]) (pc := 29) hx hb dX8_fraction_29 hl (by decide) rfl (fun ls hl => ?_)
    refine lv_lload (pc := 31) hx hb dX8_fraction_31 (lv_at hl 6 rfl) ?_
    refine lv_lstore (lv' := [(6, .long x8), (10, .long (x6 - x6 / x8 * x8)), (0, .ref (g.2.2.1 8)), (1, .long x1), (3, .long x3), (5, .int x5), (8, .long x8)]) (pc := 33) hx hb dX8_fraction_33 hl (by decide) rfl (fun ls hl => ?_)
    refine lv_lload (pc := 35) hx hb dX8_fraction_35 (lv_at hl 1 rfl) ?_
    refine lv_lstore (lv' := [(8, .long (x6 - x6 / x8 * x8)), (6, .long x8), (10, .long (x6 - x6 / x8 * x8)), (0, .ref (g.2.2.1 8)), (1, .long x1), (3, .long x3), (5, .int x5)]) (pc := 37) hx hb dX8_fraction_37 hl (by decide) rfl (fun ls hl => ?_)
    refine lv_goto (tgt := 17) (pc := 39) hx hb dX8_fraction_39 (by decide) ?_
    exact H17 H locs S8 ls x1 x3 x5 x8 (x6 - x6 / x8 * x8) hP hD hS (lv_sub hl [3, 4, 5, 6, 1, 0] rfl) hf
set_option maxHeartbeats 4000000 in
set_option maxRecDepth 100000 in
theorem w_X8_fraction_17 {p : Program} {l : Launch} {e : Env} {s : State} {m : MethodId} {args : Array Value} {below : List Frame} {meth : Method} {c : Code} {g : En} {A : Nat → Prop} {N : Nat} {res : Int32 × St} (C : cxw g A cX8_fraction 12 (some .int) wsX8_fraction RX8 p s m args meth c) : ∀ (n : Nat), ∀ (H : Heap) (locs : List Loc) (S8 : St) (ls : Array Slot) (x1 : Int64) (x3 : Int64) (x5 : Int32) (x6 : Int64) (x8 : Int64), va_P g.1 vwCl (wd_8 g S8) H → va_D A (wd_8 g S8) → va_S A s.heap H locs → lv_has ls 12 [(0, .ref (g.2.2.1 8)), (1, .long x1), (3, .long x3), (5, .int x5), (6, .long x6), (8, .long x8)] → f_X8_fraction_17 N   n S8 x1 x3 x5 x6 x8 = some res → W p l e (headSpec wsX8_fraction { frames := 0, cells := 0, slots := 0, locals := 0 }).room s m args below meth c H locs 0 0 (MQ below (rwQi g (wd_8 g (res.2)) A (res.1)) args s 0 0 A) (F0 m 17 ls []) := by
  intro n
  induction n with
  | zero =>
    intro H locs S8 ls x1 x3 x5 x6 x8 hP hD hS hl hf
    have hf : (none : Option (Int32 × St)) = some res := hf
    cases hf
  | succ n ih =>
    intro H locs S8 ls x1 x3 x5 x6 x8 hP hD hS hl hf
    exact w_X8_fraction_17_b C  (fun y0 y1 y2 y3 y4 y5 => f_X8_fraction_17 N   n y0 y1 y2 y3 y4 y5) ih H locs S8 ls x1 x3 x5 x6 x8 hP hD hS hl hf
set_option maxHeartbeats 4000000 in
set_option maxRecDepth 100000 in
theorem w_X8_fraction_12 {p : Program} {l : Launch} {e : Env} {s : State} {m : MethodId} {args : Array Value} {below : List Frame} {meth : Method} {c : Code} {g : En} {A : Nat → Prop} {N : Nat} {res : Int32 × St} (C : cxw g A cX8_fraction 12 (some .int) wsX8_fraction RX8 p s m args meth c) : ∀ (H : Heap) (locs : List Loc) (S8 : St) (ls : Array Slot) (x1 : Int64) (x3 : Int64) (x5 : Int32) (t0 : Int64), va_P g.1 vwCl (wd_8 g S8) H → va_D A (wd_8 g S8) → va_S A s.heap H locs → lv_has ls 12 [(0, .ref (g.2.2.1 8)), (1, .long x1), (3, .long x3), (5, .int x5)] → f_X8_fraction_12 N   S8 x1 x3 x5 t0 = some res → W p l e (headSpec wsX8_fraction { frames := 0, cells := 0, slots := 0, locals := 0 }).room s m args below meth c H locs 0 0 (MQ below (rwQi g (wd_8 g (res.2)) A (res.1)) args s 0 0 A) (F0 m 12 ls [.long t0]) := by
  intro H locs S8 ls x1 x3 x5 t0 hP hD hS hl hf
  obtain ⟨⟨hx, hb, hr, hml, hown, hts, hlk⟩, hK, hA⟩ := id C
  unfold f_X8_fraction_12 at hf
  refine lv_lstore (lv' := [(6, .long t0), (0, .ref (g.2.2.1 8)), (1, .long x1), (3, .long x3), (5, .int x5)]) (pc := 12) hx hb dX8_fraction_12 hl (by decide) rfl (fun ls hl => ?_)
  refine lv_lload_n (pc := 14) hx hb dX8_fraction_14 rfl (lv_at hl 3 rfl) ?_
  refine lv_lstore (lv' := [(8, .long x3), (6, .long t0), (0, .ref (g.2.2.1 8)), (1, .long x1), (3, .long x3), (5, .int x5)]) (pc := 15) hx hb dX8_fraction_15 hl (by decide) rfl (fun ls hl => ?_)
  exact w_X8_fraction_17 C  N H locs S8 ls x1 x3 x5 t0 x3 hP hD hS (lv_sub hl [2, 3, 4, 5, 1, 0] rfl) hf
set_option maxHeartbeats 4000000 in
set_option maxRecDepth 100000 in
theorem c_X8_fraction (l : Launch) (g : En) (N : Nat) (sz : Nat) (S8 : St) (x1 : Int64) (x3 : Int64) (x5 : Int32) (res : Int32 × St) (hf : f_X8_fraction N S8 x1 x3 x5 = some res) : Met l yX8_fraction wsX8_fraction { frames := 0, cells := 0, slots := 0, locals := 0 } (rwP g (wd_8 g S8) sz [.ref (g.2.2.1 8), .long x1, .long x3, .int x5]) (rwQi g (wd_8 g (res.2)) (va_A (wd_8 g S8) sz) (res.1)) 0 0 (va_A (wd_8 g S8) sz) := by
  refine Met.ofW (cc := cX8_fraction) (maxL := 12) (ret := (some .int)) (by decide) rfl ?_
  intro p e s m args below meth c s₁ B hml hv
  obtain ⟨rfl, hsz, hP, hK, hD0⟩ := hv
  have hx := B.exec
  have hb := B.bytes
  have hr := B.returns
  have hts := atoms_spec (ws := wsX8_fraction) B.pre
  have hown : s.vm.findClass RX8 = some m.cls := findClass_of_methodNamed B.named
  have hlk := B.notSynchronized
  subst hsz
  have hD := hD0.self (sz := s.heap.size)
  generalize hAe : va_A (wd_8 g S8) s.heap.size = A at hD ⊢
  have hA : ∀ q : Nat, s.heap.size ≤ q → A q := fun q h => by rw [← hAe]; exact Or.inr h
  have hS : va_S A s.heap s.heap [] := va_S.rf
  have C : cxw g A cX8_fraction 12 (some .int) wsX8_fraction RX8 p s m ([.ref (g.2.2.1 8), .long x1, .long x3, .int x5] : List Value).toArray meth c := ⟨⟨hx, hb, hr, hml, hown, hts, hlk⟩, hK, hA⟩
  have hl := lv_entry [.ref (g.2.2.1 8), .long x1, .long x3, .int x5] (n := 12) (Nat.le_of_ble_eq_true rfl)
  rw [lg_entry_eq]
  generalize (lg_sl [.ref (g.2.2.1 8), .long x1, .long x3, .int x5] ++ List.replicate (12 - (lg_sl [.ref (g.2.2.1 8), .long x1, .long x3, .int x5]).length) Slot.unset).toArray = ls at hl ⊢
  have hl : lv_has ls 12 [(0, .ref (g.2.2.1 8)), (1, .long x1), (3, .long x3), (5, .int x5)] := hl
  unfold f_X8_fraction at hf
  suffices K9 : ∀ (H : Heap) (locs : List Loc), va_P g.1 vwCl (wd_8 g S8) H → va_D A (wd_8 g S8) → va_S A s.heap H locs → (if 0 ≤ (lg_cmp x1 0) then (f_X8_fraction_12 N   S8 x1 x3 x5 x1) else (f_X8_fraction_12 N   S8 x1 x3 x5 (-x1))) = some res → W p l e (headSpec wsX8_fraction { frames := 0, cells := 0, slots := 0, locals := 0 }).room s m ([.ref (g.2.2.1 8), .long x1, .long x3, .int x5] : List Value).toArray below meth c H locs 0 0 (MQ below (rwQi g (wd_8 g (res.2)) A (res.1)) ([.ref (g.2.2.1 8), .long x1, .long x3, .int x5] : List Value).toArray s 0 0 A) (F0 m 0 ls []) from K9 s.heap [] hP hD hS hf
  clear hP hD hS hf
  intro H locs hP hD hS hf
  refine lv_lload_n (pc := 0) hx hb dX8_fraction_0 rfl (lv_at hl 1 rfl) ?_
  refine lv_lconst (v := 0) (pc := 1) hx hb dX8_fraction_1 (by decide) ?_
  refine W.lcmp (pc := 2) hx hb dX8_fraction_2 ?_
  refine lv_if_ge (tgt := 11) (pc := 3) hx hb dX8_fraction_3 (by decide) (fun c3 => ?_) (fun c3 => ?_)
  · have hf := ft hf c3
    refine lv_lload_n (pc := 11) hx hb dX8_fraction_11 rfl (lv_at hl 1 rfl) ?_
    exact w_X8_fraction_12 C  H locs S8 ls x1 x3 x5 x1 hP hD hS (lv_sub hl [0, 1, 2, 3] rfl) hf
  · have hf := ff hf c3
    refine lv_lload_n (pc := 6) hx hb dX8_fraction_6 rfl (lv_at hl 1 rfl) ?_
    refine lv_lneg (pc := 7) hx hb dX8_fraction_7 ?_
    refine lv_goto (tgt := 12) (pc := 8) hx hb dX8_fraction_8 (by decide) ?_
    exact w_X8_fraction_12 C  H locs S8 ls x1 x3 x5 (-x1) hP hD hS (lv_sub hl [0, 1, 2, 3] rfl) hf
theorem q_X8_upper_0 : (.fieldLink RX8 132 "PictureCourtModel" "upper" "J" : Cond) ∈ wsX8_upper := by decide +kernel
theorem h_X8_upper : yX8_upper.cls = RX8 ∧ yX8_upper.cls ≠ "java/lang/invoke/MethodHandle" ∧ yX8_upper.cls ≠ "java/lang/invoke/VarHandle" ∧ (parseMethodDescriptor yX8_upper.desc).map (fun d => d.parameters.length) = some 0 := by decide +kernel
set_option maxHeartbeats 4000000 in
set_option maxRecDepth 100000 in
theorem c_X8_upper (l : Launch) (g : En) (N : Nat) (S8 : St) (res : Int64) (hf : f_X8_upper N S8 = some res) : Met l yX8_upper wsX8_upper { frames := 0, cells := 0, slots := 0, locals := 0 } (roP g (wd_8 g S8) [.ref (g.2.2.1 8)]) (vp_Sl (fun r => r = res)) 0 0 (fun _ => False) := by
  refine Met.ofW (cc := cX8_upper) (maxL := 1) (ret := (some .long)) (by decide) rfl ?_
  intro p e s m args below meth c s₁ B hml hv
  obtain ⟨rfl, hP, hK⟩ := hv
  have hx := B.exec
  have hb := B.bytes
  have hr := B.returns
  have hts := atoms_spec (ws := wsX8_upper) B.pre
  have hown : s.vm.findClass RX8 = some m.cls := findClass_of_methodNamed B.named
  have hlk := B.notSynchronized
  have C : cxr g (wd_8 g S8) cX8_upper 1 (some .long) wsX8_upper RX8 p s m ([.ref (g.2.2.1 8)] : List Value).toArray meth c := ⟨⟨hx, hb, hr, hml, hown, hts, hlk⟩, hK, hP⟩
  have hl := lv_entry [.ref (g.2.2.1 8)] (n := 1) (Nat.le_of_ble_eq_true rfl)
  rw [lg_entry_eq]
  generalize (lg_sl [.ref (g.2.2.1 8)] ++ List.replicate (1 - (lg_sl [.ref (g.2.2.1 8)]).length) Slot.unset).toArray = ls at hl ⊢
  have hl : lv_has ls 1 [(0, .ref (g.2.2.1 8))] := hl
  unfold f_X8_upper at hf
  refine lv_aload_n (pc := 0) hx hb dX8_upper_0 rfl (lv_at hl 0 rfl) ?_
  refine va_get (D := g.1) (ci := 8) (v := .long (S8.2.1 3)) (C := RX8) (T := TX8) (N := 47) (pc := 1) hx hb hts (fun _ h => List.mem_cons_of_mem _ (List.mem_append_right _ h)) hown hK hP 0 rfl rfl 3 (by decide) (hts _ q_X8_upper_0) (fun _ h9 => h9) rfl dX8_upper_1 ?_
  have hf := Option.some.inj hf
  subst hf
  exact W.lret (v := (S8.2.1 3)) hx hb hr (fun t ht hW => ⟨_, rfl, rfl, ht⟩) (fun _ h => by cases h) dX8_upper_4
theorem q_X8_lower_0 : (.fieldLink RX8 105 "PictureCourtModel" "lower" "J" : Cond) ∈ wsX8_lower := by decide +kernel
theorem h_X8_lower : yX8_lower.cls = RX8 ∧ yX8_lower.cls ≠ "java/lang/invoke/MethodHandle" ∧ yX8_lower.cls ≠ "java/lang/invoke/VarHandle" ∧ (parseMethodDescriptor yX8_lower.desc).map (fun d => d.parameters.length) = some 0 := by decide +kernel
set_option maxHeartbeats 4000000 in
set_option maxRecDepth 100000 in
theorem c_X8_lower (l : Launch) (g : En) (N : Nat) (S8 : St) (res : Int64) (hf : f_X8_lower N S8 = some res) : Met l yX8_lower wsX8_lower { frames := 0, cells := 0, slots := 0, locals := 0 } (roP g (wd_8 g S8) [.ref (g.2.2.1 8)]) (vp_Sl (fun r => r = res)) 0 0 (fun _ => False) := by
  refine Met.ofW (cc := cX8_lower) (maxL := 1) (ret := (some .long)) (by decide) rfl ?_
  intro p e s m args below meth c s₁ B hml hv
  obtain ⟨rfl, hP, hK⟩ := hv
  have hx := B.exec
  have hb := B.bytes
  have hr := B.returns
  have hts := atoms_spec (ws := wsX8_lower) B.pre
  have hown : s.vm.findClass RX8 = some m.cls := findClass_of_methodNamed B.named
  have hlk := B.notSynchronized
  have C : cxr g (wd_8 g S8) cX8_lower 1 (some .long) wsX8_lower RX8 p s m ([.ref (g.2.2.1 8)] : List Value).toArray meth c := ⟨⟨hx, hb, hr, hml, hown, hts, hlk⟩, hK, hP⟩
  have hl := lv_entry [.ref (g.2.2.1 8)] (n := 1) (Nat.le_of_ble_eq_true rfl)
  rw [lg_entry_eq]
  generalize (lg_sl [.ref (g.2.2.1 8)] ++ List.replicate (1 - (lg_sl [.ref (g.2.2.1 8)]).length) Slot.unset).toArray = ls at hl ⊢
  have hl : lv_has ls 1 [(0, .ref (g.2.2.1 8))] := hl
  unfold f_X8_lower at hf
  refine lv_aload_n (pc := 0) hx hb dX8_lower_0 rfl (lv_at hl 0 rfl) ?_
  refine va_get (D := g.1) (ci := 8) (v := .long (S8.2.1 4)) (C := RX8) (T := TX8) (N := 47) (pc := 1) hx hb hts (fun _ h => List.mem_cons_of_mem _ (List.mem_append_right _ h)) hown hK hP 0 rfl rfl 4 (by decide) (hts _ q_X8_lower_0) (fun _ h9 => h9) rfl dX8_lower_1 ?_
  have hf := Option.some.inj hf
  subst hf
  exact W.lret (v := (S8.2.1 4)) hx hb hr (fun t ht hW => ⟨_, rfl, rfl, ht⟩) (fun _ h => by cases h) dX8_lower_4
theorem q_X8_later_0 : (.fieldLink RX8 135 "PictureCourtModel" "today" "I" : Cond) ∈ wsX8_later := by decide +kernel
theorem h_X8_later : yX8_later.cls = RX8 ∧ yX8_later.cls ≠ "java/lang/invoke/MethodHandle" ∧ yX8_later.cls ≠ "java/lang/invoke/VarHandle" ∧ (parseMethodDescriptor yX8_later.desc).map (fun d => d.parameters.length) = some 1 := by decide +kernel
set_option maxHeartbeats 4000000 in
set_option maxRecDepth 100000 in
theorem c_X8_later (l : Launch) (g : En) (N : Nat) (sz : Nat) (S8 : St) (x1 : Int32) (res : Int32 × St) (hf : f_X8_later N S8 x1 = some res) : Met l yX8_later wsX8_later { frames := 0, cells := 0, slots := 0, locals := 0 } (rwP g (wd_8 g S8) sz [.ref (g.2.2.1 8), .int x1]) (rwQi g (wd_8 g (res.2)) (va_A (wd_8 g S8) sz) (res.1)) 0 0 (va_A (wd_8 g S8) sz) := by
  refine Met.ofW (cc := cX8_later) (maxL := 2) (ret := (some .int)) (by decide) rfl ?_
  intro p e s m args below meth c s₁ B hml hv
  obtain ⟨rfl, hsz, hP, hK, hD0⟩ := hv
  have hx := B.exec
  have hb := B.bytes
  have hr := B.returns
  have hts := atoms_spec (ws := wsX8_later) B.pre
  have hown : s.vm.findClass RX8 = some m.cls := findClass_of_methodNamed B.named
  have hlk := B.notSynchronized
  subst hsz
  have hD := hD0.self (sz := s.heap.size)
  generalize hAe : va_A (wd_8 g S8) s.heap.size = A at hD ⊢
  have hA : ∀ q : Nat, s.heap.size ≤ q → A q := fun q h => by rw [← hAe]; exact Or.inr h
  have hS : va_S A s.heap s.heap [] := va_S.rf
  have C : cxw g A cX8_later 2 (some .int) wsX8_later RX8 p s m ([.ref (g.2.2.1 8), .int x1] : List Value).toArray meth c := ⟨⟨hx, hb, hr, hml, hown, hts, hlk⟩, hK, hA⟩
  have hl := lv_entry [.ref (g.2.2.1 8), .int x1] (n := 2) (Nat.le_of_ble_eq_true rfl)
  rw [lg_entry_eq]
  generalize (lg_sl [.ref (g.2.2.1 8), .int x1] ++ List.replicate (2 - (lg_sl [.ref (g.2.2.1 8), .int x1]).length) Slot.unset).toArray = ls at hl ⊢
  have hl : lv_has ls 2 [(0, .ref (g.2.2.1 8)), (1, .int x1)] := hl
  unfold f_X8_later at hf
  suffices K9 : ∀ (H : Heap) (locs : List Loc), va_P g.1 vwCl (wd_8 g S8) H → va_D A (wd_8 g S8) → va_S A s.heap H locs → (if x1 < 0 then some ((-1), S8) else (if x1 ≤ (30000 - (S8.1 5)) then some (((S8.1 5) + x1), (sI S8 5 ((S8.1 5) + x1))) else some ((-1), S8))) = some res → W p l e (headSpec wsX8_later { frames := 0, cells := 0, slots := 0, locals := 0 }).room s m ([.ref (g.2.2.1 8), .int x1] : List Value).toArray below meth c H locs 0 0 (MQ below (rwQi g (wd_8 g (res.2)) A (res.1)) ([.ref (g.2.2.1 8), .int x1] : List Value).toArray s 0 0 A) (F0 m 0 ls []) from K9 s.heap [] hP hD hS hf
  clear hP hD hS hf
  intro H locs hP hD hS hf
  refine lv_iload_n (pc := 0) hx hb dX8_later_0 rfl (lv_at hl 1 rfl) ?_
  refine lv_if_lt (tgt := 16) (pc := 1) hx hb dX8_later_1 (by decide) (fun c1 => ?_) (fun c1 => ?_)
  · have hf := ft hf c1
    refine lv_iconst (v := (-1)) (pc := 16) hx hb dX8_later_16 (by decide) ?_
    have hf := Option.some.inj hf
    subst hf
    exact W.iret (v := (-1)) hx hb hr (fun t ht hW => ⟨⟨_, (), rfl, rfl, by rw [ht]; exact hP, va_K.moved hW.alike hK, hD⟩, hS.F ht⟩) hS.2.2 dX8_later_17
  · have hf := ff hf c1
    refine lv_iload_n (pc := 4) hx hb dX8_later_4 rfl (lv_at hl 1 rfl) ?_
    refine lv_sipush (v := 30000) (pc := 5) hx hb dX8_later_5 (by decide) ?_
    refine lv_aload_n (pc := 8) hx hb dX8_later_8 rfl (lv_at hl 0 rfl) ?_
    refine va_get (D := g.1) (ci := 8) (v := .int (S8.1 5)) (C := RX8) (T := TX8) (N := 47) (pc := 9) hx hb hts (fun _ h => List.mem_cons_of_mem _ (List.mem_append_right _ h)) hown hK hP 0 rfl rfl 5 (by decide) (hts _ q_X8_later_0) (fun _ h9 => h9) rfl dX8_later_9 ?_
    refine lv_isub (pc := 12) hx hb dX8_later_12 ?_
    refine lv_icmp_le (tgt := 18) (pc := 13) hx hb dX8_later_13 (by decide) (fun c13 => ?_) (fun c13 => ?_)
    · have hf := ft hf c13
      refine lv_aload_n (pc := 18) hx hb dX8_later_18 rfl (lv_at hl 0 rfl) ?_
      refine lv_dup (pc := 19) hx hb dX8_later_19 rfl ?_
      refine va_get (D := g.1) (ci := 8) (v := .int (S8.1 5)) (C := RX8) (T := TX8) (N := 47) (pc := 20) hx hb hts (fun _ h => List.mem_cons_of_mem _ (List.mem_append_right _ h)) hown hK hP 0 rfl rfl 5 (by decide) (hts _ q_X8_later_0) (fun _ h9 => h9) rfl dX8_later_20 ?_
      refine lv_iload_n (pc := 23) hx hb dX8_later_23 rfl (lv_at hl 1 rfl) ?_
      refine lv_iadd (pc := 24) hx hb dX8_later_24 ?_
      refine va_put (D := g.1) (ci := 8) (v := .int ((S8.1 5) + x1)) (ty := .int) (C := RX8) (T := TX8) (N := 47) (pc := 25) hx hb hts (fun _ h => List.mem_cons_of_mem _ (List.mem_append_right _ h)) tyX8 tyX8_ok nmX8 hown hK hP hD hS 0 rfl rfl 5 (by decide) (hts _ q_X8_later_0) (fun _ h9 => h9) rfl rfl rfl rfl (Nat.le_of_ble_eq_true rfl) dX8_later_25 (fun H locs hP hD hS => ?_)
      have hP := u_8_8_5P S8 ((S8.1 5) + x1) hP
      have hD := u_8_8_5D S8 ((S8.1 5) + x1) hD
      refine lv_aload_n (pc := 28) hx hb dX8_later_28 rfl (lv_at hl 0 rfl) ?_
      refine va_get (D := g.1) (ci := 8) (v := .int ((S8.1 5) + x1)) (C := RX8) (T := TX8) (N := 47) (pc := 29) hx hb hts (fun _ h => List.mem_cons_of_mem _ (List.mem_append_right _ h)) hown hK hP 0 rfl rfl 5 (by decide) (hts _ q_X8_later_0) (fun _ h9 => h9) rfl dX8_later_29 ?_
      have hf := Option.some.inj hf
      subst hf
      exact W.iret (v := ((S8.1 5) + x1)) hx hb hr (fun t ht hW => ⟨⟨_, (), rfl, rfl, by rw [ht]; exact hP, va_K.moved hW.alike hK, hD⟩, hS.F ht⟩) hS.2.2 dX8_later_32
    · have hf := ff hf c13
      refine lv_iconst (v := (-1)) (pc := 16) hx hb dX8_later_16 (by decide) ?_
      have hf := Option.some.inj hf
      subst hf
      exact W.iret (v := (-1)) hx hb hr (fun t ht hW => ⟨⟨_, (), rfl, rfl, by rw [ht]; exact hP, va_K.moved hW.alike hK, hD⟩, hS.F ht⟩) hS.2.2 dX8_later_17
theorem h_X8_isDay : yX8_isDay.cls ≠ "java/lang/invoke/MethodHandle" ∧ yX8_isDay.cls ≠ "java/lang/invoke/VarHandle" ∧ (parseMethodDescriptor yX8_isDay.desc).map (fun d => d.parameters.length) = some 1 := by decide +kernel
set_option maxHeartbeats 4000000 in
set_option maxRecDepth 100000 in
theorem c_X8_isDay (l : Launch) (N : Nat) (x0 : Int32) (res : Int32) (hf : f_X8_isDay N x0 = some res) : Met l yX8_isDay wsX8_isDay { frames := 1, cells := 0, slots := 0, locals := 22 } (va_Pc [.int x0] (fun _ => True)) (vp_Si (fun r => r = res)) 0 0 (fun _ => False) := by
  refine Met.ofW (cc := cX8_isDay) (maxL := 1) (ret := (some .boolean)) (by decide) rfl ?_
  intro p e s m args below meth c s₁ B hml hv
  obtain ⟨rfl, -⟩ := hv
  have hx := B.exec
  have hb := B.bytes
  have hr := B.returns
  have hts := atoms_spec (ws := wsX8_isDay) B.pre
  have hown : s.vm.findClass RX8 = some m.cls := findClass_of_methodNamed B.named
  have hlk := B.notSynchronized
  have C : cxs cX8_isDay 1 (some .boolean) wsX8_isDay RX8 p s m ([.int x0] : List Value).toArray meth c := ⟨hx, hb, hr, hml, hown, hts, hlk⟩
  have hl := lv_entry [.int x0] (n := 1) (Nat.le_of_ble_eq_true rfl)
  rw [lg_entry_eq]
  generalize (lg_sl [.int x0] ++ List.replicate (1 - (lg_sl [.int x0]).length) Slot.unset).toArray = ls at hl ⊢
  have hl : lv_has ls 1 [(0, .int x0)] := hl
  unfold f_X8_isDay at hf
  refine lv_iload_n (pc := 0) hx hb dX8_isDay_0 rfl (lv_at hl 0 rfl) ?_
  refine lv_iconst (v := 0) (pc := 1) hx hb dX8_isDay_1 (by decide) ?_
  refine lv_sipush (v := 30000) (pc := 2) hx hb dX8_isDay_2 (by decide) ?_
  obtain ⟨r5, e5, hf⟩ := bdE hf
  refine ksI (pc := 5) (As := [.int x0, .int 0, .int 30000]) (rest := []) ⟨hx, hb, hml, hown, hts⟩ (c_X8_in l N x0 0 30000 r5 e5) (va_cwS 3 hts gX8_isDay_X8_in rfl rfl rfl h_X8_in ⟨Nat.le_of_ble_eq_true rfl, Nat.le_of_ble_eq_true rfl⟩) rfl hl.1 rfl (Nat.le_of_ble_eq_true rfl) dX8_isDay_5 ⟨Nat.zero_le _, Nat.zero_le _⟩ ?_
  obtain ⟨b8, hf⟩ := gdE hf
  have hf := Option.some.inj hf
  subst hf
  exact W.zret (v := r5) hx hb hr (z01V b8) (fun t ht hW => ⟨_, rfl, rfl, ht⟩) (fun _ h => by cases h) dX8_isDay_8
theorem h_X8_isYear : yX8_isYear.cls ≠ "java/lang/invoke/MethodHandle" ∧ yX8_isYear.cls ≠ "java/lang/invoke/VarHandle" ∧ (parseMethodDescriptor yX8_isYear.desc).map (fun d => d.parameters.length) = some 1 := by decide +kernel
set_option maxHeartbeats 4000000 in
set_option maxRecDepth 100000 in
theorem c_X8_isYear (l : Launch) (N : Nat) (x0 : Int32) (res : Int32) (hf : f_X8_isYear N x0 = some res) : Met l yX8_isYear wsX8_isYear { frames := 1, cells := 0, slots := 0, locals := 22 } (va_Pc [.int x0] (fun _ => True)) (vp_Si (fun r => r = res)) 0 0 (fun _ => False) := by
  refine Met.ofW (cc := cX8_isYear) (maxL := 1) (ret := (some .boolean)) (by decide) rfl ?_
  intro p e s m args below meth c s₁ B hml hv
  obtain ⟨rfl, -⟩ := hv
  have hx := B.exec
  have hb := B.bytes
  have hr := B.returns
  have hts := atoms_spec (ws := wsX8_isYear) B.pre
  have hown : s.vm.findClass RX8 = some m.cls := findClass_of_methodNamed B.named
  have hlk := B.notSynchronized
  have C : cxs cX8_isYear 1 (some .boolean) wsX8_isYear RX8 p s m ([.int x0] : List Value).toArray meth c := ⟨hx, hb, hr, hml, hown, hts, hlk⟩
  have hl := lv_entry [.int x0] (n := 1) (Nat.le_of_ble_eq_true rfl)
  rw [lg_entry_eq]
  generalize (lg_sl [.int x0] ++ List.replicate (1 - (lg_sl [.int x0]).length) Slot.unset).toArray = ls at hl ⊢
  have hl : lv_has ls 1 [(0, .int x0)] := hl
  unfold f_X8_isYear at hf
  refine lv_iload_n (pc := 0) hx hb dX8_isYear_0 rfl (lv_at hl 0 rfl) ?_
  refine lv_sipush (v := 1000) (pc := 1) hx hb dX8_isYear_1 (by decide) ?_
  refine lv_sipush (v := 2100) (pc := 4) hx hb dX8_isYear_4 (by decide) ?_
  obtain ⟨r7, e7, hf⟩ := bdE hf
  refine ksI (pc := 7) (As := [.int x0, .int 1000, .int 2100]) (rest := []) ⟨hx, hb, hml, hown, hts⟩ (c_X8_in l N x0 1000 2100 r7 e7) (va_cwS 3 hts gX8_isYear_X8_in rfl rfl rfl h_X8_in ⟨Nat.le_of_ble_eq_true rfl, Nat.le_of_ble_eq_true rfl⟩) rfl hl.1 rfl (Nat.le_of_ble_eq_true rfl) dX8_isYear_7 ⟨Nat.zero_le _, Nat.zero_le _⟩ ?_
  obtain ⟨b10, hf⟩ := gdE hf
  have hf := Option.some.inj hf
  subst hf
  exact W.zret (v := r7) hx hb hr (z01V b10) (fun t ht hW => ⟨_, rfl, rfl, ht⟩) (fun _ h => by cases h) dX8_isYear_10
theorem h_X8_isRow : yX8_isRow.cls ≠ "java/lang/invoke/MethodHandle" ∧ yX8_isRow.cls ≠ "java/lang/invoke/VarHandle" ∧ (parseMethodDescriptor yX8_isRow.desc).map (fun d => d.parameters.length) = some 1 := by decide +kernel
set_option maxHeartbeats 4000000 in
set_option maxRecDepth 100000 in
theorem c_X8_isRow (l : Launch) (N : Nat) (x0 : Int32) (res : Int32) (hf : f_X8_isRow N x0 = some res) : Met l yX8_isRow wsX8_isRow { frames := 1, cells := 0, slots := 0, locals := 22 } (va_Pc [.int x0] (fun _ => True)) (vp_Si (fun r => r = res)) 0 0 (fun _ => False) := by
  refine Met.ofW (cc := cX8_isRow) (maxL := 1) (ret := (some .boolean)) (by decide) rfl ?_
  intro p e s m args below meth c s₁ B hml hv
  obtain ⟨rfl, -⟩ := hv
  have hx := B.exec
  have hb := B.bytes
  have hr := B.returns
  have hts := atoms_spec (ws := wsX8_isRow) B.pre
  have hown : s.vm.findClass RX8 = some m.cls := findClass_of_methodNamed B.named
  have hlk := B.notSynchronized
  have C : cxs cX8_isRow 1 (some .boolean) wsX8_isRow RX8 p s m ([.int x0] : List Value).toArray meth c := ⟨hx, hb, hr, hml, hown, hts, hlk⟩
  have hl := lv_entry [.int x0] (n := 1) (Nat.le_of_ble_eq_true rfl)
  rw [lg_entry_eq]
  generalize (lg_sl [.int x0] ++ List.replicate (1 - (lg_sl [.int x0]).length) Slot.unset).toArray = ls at hl ⊢
  have hl : lv_has ls 1 [(0, .int x0)] := hl
  unfold f_X8_isRow at hf
  refine lv_iload_n (pc := 0) hx hb dX8_isRow_0 rfl (lv_at hl 0 rfl) ?_
  refine lv_iconst (v := 0) (pc := 1) hx hb dX8_isRow_1 (by decide) ?_
  refine lv_iconst (v := 5) (pc := 2) hx hb dX8_isRow_2 (by decide) ?_
  obtain ⟨r3, e3, hf⟩ := bdE hf
  refine ksI (pc := 3) (As := [.int x0, .int 0, .int 5]) (rest := []) ⟨hx, hb, hml, hown, hts⟩ (c_X8_in l N x0 0 5 r3 e3) (va_cwS 3 hts gX8_isRow_X8_in rfl rfl rfl h_X8_in ⟨Nat.le_of_ble_eq_true rfl, Nat.le_of_ble_eq_true rfl⟩) rfl hl.1 rfl (Nat.le_of_ble_eq_true rfl) dX8_isRow_3 ⟨Nat.zero_le _, Nat.zero_le _⟩ ?_
  obtain ⟨b6, hf⟩ := gdE hf
  have hf := Option.some.inj hf
  subst hf
  exact W.zret (v := r3) hx hb hr (z01V b6) (fun t ht hW => ⟨_, rfl, rfl, ht⟩) (fun _ h => by cases h) dX8_isRow_6
theorem q_X8_row_0 : (.fieldLink RX8 16 "PictureCourtModel" "rows" "[B" : Cond) ∈ wsX8_row := by decide +kernel
theorem q_X8_row_1 : (.fieldLink RX8 13 "PictureCourtModel" "sizes" "[I" : Cond) ∈ wsX8_row := by decide +kernel
theorem h_X8_row : yX8_row.cls = RX8 ∧ yX8_row.cls ≠ "java/lang/invoke/MethodHandle" ∧ yX8_row.cls ≠ "java/lang/invoke/VarHandle" ∧ (parseMethodDescriptor yX8_row.desc).map (fun d => d.parameters.length) = some 2 := by decide +kernel
set_option maxHeartbeats 4000000 in
set_option maxRecDepth 100000 in
theorem w_X8_row_34_b {p : Program} {l : Launch} {e : Env} {s : State} {m : MethodId} {args : Array Value} {below : List Frame} {meth : Method} {c : Code} {g : En} {A : Nat → Prop} {N : Nat} {res : Int32 × St} (C : cxw g A cX8_row 4 (some .int) wsX8_row RX8 p s m args meth c) (k34 : St → Int32 → Int32 → Int32 → Option (Int32 × St)) (H34 : ∀ (H : Heap) (locs : List Loc) (S8 : St) (ls : Array Slot) (x1 : Int32) (x2 : Int32) (x3 : Int32), va_P g.1 vwCl (wd_8 g S8) H → va_D A (wd_8 g S8) → va_S A s.heap H locs → lv_has ls 4 [(0, .ref (g.2.2.1 8)), (1, .int x1), (2, .int x2), (3, .int x3)] → k34 S8 x1 x2 x3 = some res → W p l e (headSpec wsX8_row { frames := 2, cells := 0, slots := 0, locals := 42 }).room s m args below meth c H locs 0 0 (MQ below (rwQi g (wd_8 g (res.2)) A (res.1)) args s 0 0 A) (F0 m 34 ls [])) : ∀ (H : Heap) (locs : List Loc) (S8 : St) (ls : Array Slot) (x1 : Int32) (x2 : Int32) (x3 : Int32), va_P g.1 vwCl (wd_8 g S8) H → va_D A (wd_8 g S8) → va_S A s.heap H locs → lv_has ls 4 [(0, .ref (g.2.2.1 8)), (1, .int x1), (2, .int x2), (3, .int x3)] → f_X8_row_34_b N   k34 S8 x1 x2 x3 = some res → W p l e (headSpec wsX8_row { frames := 2, cells := 0, slots := 0, locals := 42 }).room s m args below meth c H locs 0 0 (MQ below (rwQi g (wd_8 g (res.2)) A (res.1)) args s 0 0 A) (F0 m 34 ls []) := by
  intro H locs S8 ls x1 x2 x3 hP hD hS hl hf
  obtain ⟨⟨hx, hb, hr, hml, hown, hts, hlk⟩, hK, hA⟩ := id C
  unfold f_X8_row_34_b at hf
  refine lv_iload_n (pc := 34) hx hb dX8_row_34 rfl (lv_at hl 3 rfl) ?_
  refine lv_bipush (v := 40) (pc := 35) hx hb dX8_row_35 (by decide) ?_
  refine lv_icmp_ge (tgt := 58) (pc := 37) hx hb dX8_row_37 (by decide) (fun c37 => ?_) (fun c37 => ?_)
  · have hf := ft hf c37
    refine lv_iload_n (pc := 58) hx hb dX8_row_58 rfl (lv_at hl 2 rfl) ?_
    have hf := Option.some.inj hf
    subst hf
    exact W.iret (v := x2) hx hb hr (fun t ht hW => ⟨⟨_, (), rfl, rfl, by rw [ht]; exact hP, va_K.moved hW.alike hK, hD⟩, hS.F ht⟩) hS.2.2 dX8_row_59
  · have hf := ff hf c37
    refine lv_aload_n (pc := 40) hx hb dX8_row_40 rfl (lv_at hl 0 rfl) ?_
    refine va_get (D := g.1) (ci := 8) (v := .ref (g.2.2.2 8 7)) (C := RX8) (T := TX8) (N := 47) (pc := 41) hx hb hts (fun _ h => List.mem_cons_of_mem _ (List.mem_append_right _ h)) hown hK hP 0 rfl rfl 7 (by decide) (hts _ q_X8_row_0) (fun _ h9 => h9) rfl dX8_row_41 ?_
    refine lv_bipush (v := 40) (pc := 44) hx hb dX8_row_44 (by decide) ?_
    refine lv_iload_n (pc := 46) hx hb dX8_row_46 rfl (lv_at hl 1 rfl) ?_
    refine lv_imul (pc := 47) hx hb dX8_row_47 ?_
    refine lv_iload_n (pc := 48) hx hb dX8_row_48 rfl (lv_at hl 3 rfl) ?_
    refine lv_iadd (pc := 49) hx hb dX8_row_49 ?_
    refine lv_iconst (v := 0) (pc := 50) hx hb dX8_row_50 (by decide) ?_
    refine lv_topi (fun v51 ev51 => ?_)
    obtain ⟨b51, hf⟩ := gdE hf
    refine va_bast (D := g.1) (tys := tyl g) (f := (S8.2.2 7)) (pc := 51) hx hb hK hP hD hS 3 1 rfl rfl (inbV b51) dX8_row_51 (fun H locs hP hD hS => ?_)
    have hP := u_8_8_7P S8 (upd (S8.2.2 7) (Int32.toNatClampNeg ((40 * x1) + x3)) (vp_nar .byte v51)) hP
    have hD := u_8_8_7D S8 (upd (S8.2.2 7) (Int32.toNatClampNeg ((40 * x1) + x3)) (vp_nar .byte v51)) hD
    subst ev51
    refine lv_iinc (v := (x3 + 1)) (lv' := [(3, .int (x3 + 1)), (0, .ref (g.2.2.1 8)), (1, .int x1), (2, .int x2)]) (pc := 52) hx hb dX8_row_52 hl (k := 3) rfl rfl (by decide) rfl (fun ls hl => ?_)
    refine lv_goto (tgt := 34) (pc := 55) hx hb dX8_row_55 (by decide) ?_
    exact H34 H locs (sA S8 7 (upd (S8.2.2 7) (Int32.toNatClampNeg ((40 * x1) + x3)) (vp_nar .byte 0))) ls x1 x2 (x3 + 1) hP hD hS (lv_sub hl [1, 2, 3, 0] rfl) hf
set_option maxHeartbeats 4000000 in
set_option maxRecDepth 100000 in
theorem w_X8_row_34 {p : Program} {l : Launch} {e : Env} {s : State} {m : MethodId} {args : Array Value} {below : List Frame} {meth : Method} {c : Code} {g : En} {A : Nat → Prop} {N : Nat} {res : Int32 × St} (C : cxw g A cX8_row 4 (some .int) wsX8_row RX8 p s m args meth c) : ∀ (n : Nat), ∀ (H : Heap) (locs : List Loc) (S8 : St) (ls : Array Slot) (x1 : Int32) (x2 : Int32) (x3 : Int32), va_P g.1 vwCl (wd_8 g S8) H → va_D A (wd_8 g S8) → va_S A s.heap H locs → lv_has ls 4 [(0, .ref (g.2.2.1 8)), (1, .int x1), (2, .int x2), (3, .int x3)] → f_X8_row_34 N   n S8 x1 x2 x3 = some res → W p l e (headSpec wsX8_row { frames := 2, cells := 0, slots := 0, locals := 42 }).room s m args below meth c H locs 0 0 (MQ below (rwQi g (wd_8 g (res.2)) A (res.1)) args s 0 0 A) (F0 m 34 ls []) := by
  intro n
  induction n with
  | zero =>
    intro H locs S8 ls x1 x2 x3 hP hD hS hl hf
    have hf : (none : Option (Int32 × St)) = some res := hf
    cases hf
  | succ n ih =>
    intro H locs S8 ls x1 x2 x3 hP hD hS hl hf
    exact w_X8_row_34_b C  (fun y0 y1 y2 y3 => f_X8_row_34 N   n y0 y1 y2 y3) ih H locs S8 ls x1 x2 x3 hP hD hS hl hf
set_option maxHeartbeats 4000000 in
set_option maxRecDepth 100000 in
theorem c_X8_row (l : Launch) (g : En) (N : Nat) (sz : Nat) (S8 : St) (x1 : Int32) (x2 : Int32) (res : Int32 × St) (hf : f_X8_row N S8 x1 x2 = some res) : Met l yX8_row wsX8_row { frames := 2, cells := 0, slots := 0, locals := 42 } (rwP g (wd_8 g S8) sz [.ref (g.2.2.1 8), .int x1, .int x2]) (rwQi g (wd_8 g (res.2)) (va_A (wd_8 g S8) sz) (res.1)) 0 0 (va_A (wd_8 g S8) sz) := by
  refine Met.ofW (cc := cX8_row) (maxL := 4) (ret := (some .int)) (by decide) rfl ?_
  intro p e s m args below meth c s₁ B hml hv
  obtain ⟨rfl, hsz, hP, hK, hD0⟩ := hv
  have hx := B.exec
  have hb := B.bytes
  have hr := B.returns
  have hts := atoms_spec (ws := wsX8_row) B.pre
  have hown : s.vm.findClass RX8 = some m.cls := findClass_of_methodNamed B.named
  have hlk := B.notSynchronized
  subst hsz
  have hD := hD0.self (sz := s.heap.size)
  generalize hAe : va_A (wd_8 g S8) s.heap.size = A at hD ⊢
  have hA : ∀ q : Nat, s.heap.size ≤ q → A q := fun q h => by rw [← hAe]; exact Or.inr h
  have hS : va_S A s.heap s.heap [] := va_S.rf
  have C : cxw g A cX8_row 4 (some .int) wsX8_row RX8 p s m ([.ref (g.2.2.1 8), .int x1, .int x2] : List Value).toArray meth c := ⟨⟨hx, hb, hr, hml, hown, hts, hlk⟩, hK, hA⟩
  have hl := lv_entry [.ref (g.2.2.1 8), .int x1, .int x2] (n := 4) (Nat.le_of_ble_eq_true rfl)
  rw [lg_entry_eq]
  generalize (lg_sl [.ref (g.2.2.1 8), .int x1, .int x2] ++ List.replicate (4 - (lg_sl [.ref (g.2.2.1 8), .int x1, .int x2]).length) Slot.unset).toArray = ls at hl ⊢
  have hl : lv_has ls 4 [(0, .ref (g.2.2.1 8)), (1, .int x1), (2, .int x2)] := hl
  unfold f_X8_row at hf
  suffices K9 : ∀ (H : Heap) (locs : List Loc), va_P g.1 vwCl (wd_8 g S8) H → va_D A (wd_8 g S8) → va_S A s.heap H locs → ((f_X8_isRow N x1).bind (fun r1 => (if r1 = 0 then some ((-1), S8) else (if x2 ≤ 40 then (if 0 ≤ x2 then (if inb x1 6 = true then (f_X8_row_34 N   N (sA S8 6 (upd (S8.2.2 6) (Int32.toNatClampNeg x1) x2)) x1 x2 0) else none) else ((f_X8_meets N S8 5).bind (fun r21 => some ((r21.1), (r21.2))))) else some ((-1), S8))))) = some res → W p l e (headSpec wsX8_row { frames := 2, cells := 0, slots := 0, locals := 42 }).room s m ([.ref (g.2.2.1 8), .int x1, .int x2] : List Value).toArray below meth c H locs 0 0 (MQ below (rwQi g (wd_8 g (res.2)) A (res.1)) ([.ref (g.2.2.1 8), .int x1, .int x2] : List Value).toArray s 0 0 A) (F0 m 0 ls []) from K9 s.heap [] hP hD hS hf
  clear hP hD hS hf
  intro H locs hP hD hS hf
  refine lv_iload_n (pc := 0) hx hb dX8_row_0 rfl (lv_at hl 1 rfl) ?_
  obtain ⟨r1, e1, hf⟩ := bdE hf
  refine ksI (pc := 1) (As := [.int x1]) (rest := []) ⟨hx, hb, hml, hown, hts⟩ (c_X8_isRow l N x1 r1 e1) (va_cwS 1 hts gX8_row_X8_isRow rfl rfl rfl h_X8_isRow ⟨Nat.le_of_ble_eq_true rfl, Nat.le_of_ble_eq_true rfl⟩) rfl hl.1 rfl (Nat.le_of_ble_eq_true rfl) dX8_row_1 ⟨Nat.zero_le _, Nat.zero_le _⟩ ?_
  refine lv_if_eq (tgt := 13) (pc := 4) hx hb dX8_row_4 (by decide) (fun c4 => ?_) (fun c4 => ?_)
  · have hf := ft hf c4
    refine lv_iconst (v := (-1)) (pc := 13) hx hb dX8_row_13 (by decide) ?_
    have hf := Option.some.inj hf
    subst hf
    exact W.iret (v := (-1)) hx hb hr (fun t ht hW => ⟨⟨_, (), rfl, rfl, by rw [ht]; exact hP, va_K.moved hW.alike hK, hD⟩, hS.F ht⟩) hS.2.2 dX8_row_14
  · have hf := ff hf c4
    refine lv_iload_n (pc := 7) hx hb dX8_row_7 rfl (lv_at hl 2 rfl) ?_
    refine lv_bipush (v := 40) (pc := 8) hx hb dX8_row_8 (by decide) ?_
    refine lv_icmp_le (tgt := 15) (pc := 10) hx hb dX8_row_10 (by decide) (fun c10 => ?_) (fun c10 => ?_)
    · have hf := ft hf c10
      refine lv_iload_n (pc := 15) hx hb dX8_row_15 rfl (lv_at hl 2 rfl) ?_
      refine lv_if_ge (tgt := 25) (pc := 16) hx hb dX8_row_16 (by decide) (fun c16 => ?_) (fun c16 => ?_)
      · have hf := ft hf c16
        refine lv_aload_n (pc := 25) hx hb dX8_row_25 rfl (lv_at hl 0 rfl) ?_
        refine va_get (D := g.1) (ci := 8) (v := .ref (g.2.2.2 8 6)) (C := RX8) (T := TX8) (N := 47) (pc := 26) hx hb hts (fun _ h => List.mem_cons_of_mem _ (List.mem_append_right _ h)) hown hK hP 0 rfl rfl 6 (by decide) (hts _ q_X8_row_1) (fun _ h9 => h9) rfl dX8_row_26 ?_
        refine lv_iload_n (pc := 29) hx hb dX8_row_29 rfl (lv_at hl 1 rfl) ?_
        refine lv_iload_n (pc := 30) hx hb dX8_row_30 rfl (lv_at hl 2 rfl) ?_
        obtain ⟨b31, hf⟩ := gdE hf
        refine va_iast (D := g.1) (tys := tyl g) (f := (S8.2.2 6)) (pc := 31) hx hb hK hP hD hS 2 0 rfl rfl (inbV b31) dX8_row_31 (fun H locs hP hD hS => ?_)
        have hP := u_8_8_6P S8 (upd (S8.2.2 6) (Int32.toNatClampNeg x1) x2) hP
        have hD := u_8_8_6D S8 (upd (S8.2.2 6) (Int32.toNatClampNeg x1) x2) hD
        refine lv_iconst (v := 0) (pc := 32) hx hb dX8_row_32 (by decide) ?_
        refine lv_istore_n (lv' := [(3, .int 0), (0, .ref (g.2.2.1 8)), (1, .int x1), (2, .int x2)]) (pc := 33) hx hb dX8_row_33 rfl hl (by decide) rfl (fun ls hl => ?_)
        exact w_X8_row_34 C  N H locs (sA S8 6 (upd (S8.2.2 6) (Int32.toNatClampNeg x1) x2)) ls x1 x2 0 hP hD hS (lv_sub hl [1, 2, 3, 0] rfl) hf
      · have hf := ff hf c16
        refine lv_aload_n (pc := 19) hx hb dX8_row_19 rfl (lv_at hl 0 rfl) ?_
        refine lv_iconst (v := 5) (pc := 20) hx hb dX8_row_20 (by decide) ?_
        obtain ⟨r21, e21, hf⟩ := bdE hf
        refine kuI (g := g) (A := A) (W0 := (wd_8 g S8)) (w1 := (wd_8 g (r21.2))) (pc := 21) (As := [.int 5]) (rest := []) ⟨hx, hb, hml, hown, hts⟩ hK hA hP hD hS (c_X8_meets l g N H.size S8 5 r21 e21) (cwV 1 hts gX8_row_X8_meets rfl rfl rfl h_X8_meets ⟨Nat.le_of_ble_eq_true rfl, Nat.le_of_ble_eq_true rfl⟩) rfl rfl rfl hl.1 rfl (Nat.le_of_ble_eq_true rfl) dX8_row_21 ⟨Nat.zero_le _, Nat.zero_le _⟩ (fun H locs hP hD hS => ?_)
        have hf := Option.some.inj hf
        subst hf
        exact W.iret (v := (r21.1)) hx hb hr (fun t ht hW => ⟨⟨_, (), rfl, rfl, by rw [ht]; exact hP, va_K.moved hW.alike hK, hD⟩, hS.F ht⟩) hS.2.2 dX8_row_24
    · have hf := ff hf c10
      refine lv_iconst (v := (-1)) (pc := 13) hx hb dX8_row_13 (by decide) ?_
      have hf := Option.some.inj hf
      subst hf
      exact W.iret (v := (-1)) hx hb hr (fun t ht hW => ⟨⟨_, (), rfl, rfl, by rw [ht]; exact hP, va_K.moved hW.alike hK, hD⟩, hS.F ht⟩) hS.2.2 dX8_row_14
theorem q_X8_lay_0 : (.fieldLink RX8 13 "PictureCourtModel" "sizes" "[I" : Cond) ∈ wsX8_lay := by decide +kernel
theorem q_X8_lay_1 : (.fieldLink RX8 16 "PictureCourtModel" "rows" "[B" : Cond) ∈ wsX8_lay := by decide +kernel
theorem h_X8_lay : yX8_lay.cls = RX8 ∧ yX8_lay.cls ≠ "java/lang/invoke/MethodHandle" ∧ yX8_lay.cls ≠ "java/lang/invoke/VarHandle" ∧ (parseMethodDescriptor yX8_lay.desc).map (fun d => d.parameters.length) = some 3 := by decide +kernel
set_option maxHeartbeats 4000000 in
set_option maxRecDepth 100000 in
theorem c_X8_lay (l : Launch) (g : En) (N : Nat) (sz : Nat) (S8 : St) (x1 : Int32) (x2 : Int32) (x3 : Int32) (res : Int32 × St) (hf : f_X8_lay N S8 x1 x2 x3 = some res) : Met l yX8_lay wsX8_lay { frames := 2, cells := 0, slots := 0, locals := 42 } (rwP g (wd_8 g S8) sz [.ref (g.2.2.1 8), .int x1, .int x2, .int x3]) (rwQi g (wd_8 g (res.2)) (va_A (wd_8 g S8) sz) (res.1)) 0 0 (va_A (wd_8 g S8) sz) := by
  refine Met.ofW (cc := cX8_lay) (maxL := 5) (ret := (some .int)) (by decide) rfl ?_
  intro p e s m args below meth c s₁ B hml hv
  obtain ⟨rfl, hsz, hP, hK, hD0⟩ := hv
  have hx := B.exec
  have hb := B.bytes
  have hr := B.returns
  have hts := atoms_spec (ws := wsX8_lay) B.pre
  have hown : s.vm.findClass RX8 = some m.cls := findClass_of_methodNamed B.named
  have hlk := B.notSynchronized
  subst hsz
  have hD := hD0.self (sz := s.heap.size)
  generalize hAe : va_A (wd_8 g S8) s.heap.size = A at hD ⊢
  have hA : ∀ q : Nat, s.heap.size ≤ q → A q := fun q h => by rw [← hAe]; exact Or.inr h
  have hS : va_S A s.heap s.heap [] := va_S.rf
  have C : cxw g A cX8_lay 5 (some .int) wsX8_lay RX8 p s m ([.ref (g.2.2.1 8), .int x1, .int x2, .int x3] : List Value).toArray meth c := ⟨⟨hx, hb, hr, hml, hown, hts, hlk⟩, hK, hA⟩
  have hl := lv_entry [.ref (g.2.2.1 8), .int x1, .int x2, .int x3] (n := 5) (Nat.le_of_ble_eq_true rfl)
  rw [lg_entry_eq]
  generalize (lg_sl [.ref (g.2.2.1 8), .int x1, .int x2, .int x3] ++ List.replicate (5 - (lg_sl [.ref (g.2.2.1 8), .int x1, .int x2, .int x3]).length) Slot.unset).toArray = ls at hl ⊢
  have hl : lv_has ls 5 [(0, .ref (g.2.2.1 8)), (1, .int x1), (2, .int x2), (3, .int x3)] := hl
  unfold f_X8_lay at hf
  suffices K9 : ∀ (H : Heap) (locs : List Loc), va_P g.1 vwCl (wd_8 g S8) H → va_D A (wd_8 g S8) → va_S A s.heap H locs → ((f_X8_isRow N x1).bind (fun r1 => (if r1 = 0 then some ((-1), S8) else (if inb x1 6 = true then (if 0 ≤ ((S8.2.2 6) (Int32.toNatClampNeg x1)) then (if inb x1 6 = true then ((f_X8_in N x2 0 (((S8.2.2 6) (Int32.toNatClampNeg x1)) - 1)).bind (fun r34 => (if r34 = 0 then ((f_X8_meets N S8 2).bind (fun r42 => some ((r42.1), (r42.2)))) else (if inb ((40 * x1) + x2) 240 = true then (if inb ((40 * x1) + x2) 240 = true then some ((1000 + ((S8.2.2 7) (Int32.toNatClampNeg ((40 * x1) + x2)))), (sA S8 7 (upd (S8.2.2 7) (Int32.toNatClampNeg ((40 * x1) + x2)) (vp_nar .byte (Int8.toInt32 (Int32.toInt8 x3)))))) else none) else none)))) else none) else ((f_X8_meets N S8 1).bind (fun r20 => some ((r20.1), (r20.2))))) else none)))) = some res → W p l e (headSpec wsX8_lay { frames := 2, cells := 0, slots := 0, locals := 42 }).room s m ([.ref (g.2.2.1 8), .int x1, .int x2, .int x3] : List Value).toArray below meth c H locs 0 0 (MQ below (rwQi g (wd_8 g (res.2)) A (res.1)) ([.ref (g.2.2.1 8), .int x1, .int x2, .int x3] : List Value).toArray s 0 0 A) (F0 m 0 ls []) from K9 s.heap [] hP hD hS hf
  clear hP hD hS hf
  intro H locs hP hD hS hf
  refine lv_iload_n (pc := 0) hx hb dX8_lay_0 rfl (lv_at hl 1 rfl) ?_
  obtain ⟨r1, e1, hf⟩ := bdE hf
  refine ksI (pc := 1) (As := [.int x1]) (rest := []) ⟨hx, hb, hml, hown, hts⟩ (c_X8_isRow l N x1 r1 e1) (va_cwS 1 hts gX8_lay_X8_isRow rfl rfl rfl h_X8_isRow ⟨Nat.le_of_ble_eq_true rfl, Nat.le_of_ble_eq_true rfl⟩) rfl hl.1 rfl (Nat.le_of_ble_eq_true rfl) dX8_lay_1 ⟨Nat.zero_le _, Nat.zero_le _⟩ ?_
  refine lv_if_ne (tgt := 9) (pc := 4) hx hb dX8_lay_4 (by decide) (fun c4 => ?_) (fun c4 => ?_)
  · have hf := ff hf c4
    refine lv_aload_n (pc := 9) hx hb dX8_lay_9 rfl (lv_at hl 0 rfl) ?_
    refine va_get (D := g.1) (ci := 8) (v := .ref (g.2.2.2 8 6)) (C := RX8) (T := TX8) (N := 47) (pc := 10) hx hb hts (fun _ h => List.mem_cons_of_mem _ (List.mem_append_right _ h)) hown hK hP 0 rfl rfl 6 (by decide) (hts _ q_X8_lay_0) (fun _ h9 => h9) rfl dX8_lay_10 ?_
    refine lv_iload_n (pc := 13) hx hb dX8_lay_13 rfl (lv_at hl 1 rfl) ?_
    obtain ⟨b14, hf⟩ := gdE hf
    refine va_iald (D := g.1) (tys := tyl g) (f := (S8.2.2 6)) (pc := 14) hx hb hK hP 2 0 rfl rfl (inbV b14) dX8_lay_14 ?_
    refine lv_if_ge (tgt := 24) (pc := 15) hx hb dX8_lay_15 (by decide) (fun c15 => ?_) (fun c15 => ?_)
    · have hf := ft hf c15
      refine lv_iload_n (pc := 24) hx hb dX8_lay_24 rfl (lv_at hl 2 rfl) ?_
      refine lv_iconst (v := 0) (pc := 25) hx hb dX8_lay_25 (by decide) ?_
      refine lv_aload_n (pc := 26) hx hb dX8_lay_26 rfl (lv_at hl 0 rfl) ?_
      refine va_get (D := g.1) (ci := 8) (v := .ref (g.2.2.2 8 6)) (C := RX8) (T := TX8) (N := 47) (pc := 27) hx hb hts (fun _ h => List.mem_cons_of_mem _ (List.mem_append_right _ h)) hown hK hP 0 rfl rfl 6 (by decide) (hts _ q_X8_lay_0) (fun _ h9 => h9) rfl dX8_lay_27 ?_
      refine lv_iload_n (pc := 30) hx hb dX8_lay_30 rfl (lv_at hl 1 rfl) ?_
      obtain ⟨b31, hf⟩ := gdE hf
      refine va_iald (D := g.1) (tys := tyl g) (f := (S8.2.2 6)) (pc := 31) hx hb hK hP 2 0 rfl rfl (inbV b31) dX8_lay_31 ?_
      refine lv_iconst (v := 1) (pc := 32) hx hb dX8_lay_32 (by decide) ?_
      refine lv_isub (pc := 33) hx hb dX8_lay_33 ?_
      obtain ⟨r34, e34, hf⟩ := bdE hf
      refine ksI (pc := 34) (As := [.int x2, .int 0, .int (((S8.2.2 6) (Int32.toNatClampNeg x1)) - 1)]) (rest := []) ⟨hx, hb, hml, hown, hts⟩ (c_X8_in l N x2 0 (((S8.2.2 6) (Int32.toNatClampNeg x1)) - 1) r34 e34) (va_cwS 3 hts gX8_lay_X8_in rfl rfl rfl h_X8_in ⟨Nat.le_of_ble_eq_true rfl, Nat.le_of_ble_eq_true rfl⟩) rfl hl.1 rfl (Nat.le_of_ble_eq_true rfl) dX8_lay_34 ⟨Nat.zero_le _, Nat.zero_le _⟩ ?_
      refine lv_if_ne (tgt := 46) (pc := 37) hx hb dX8_lay_37 (by decide) (fun c37 => ?_) (fun c37 => ?_)
      · have hf := ff hf c37
        refine lv_aload_n (pc := 46) hx hb dX8_lay_46 rfl (lv_at hl 0 rfl) ?_
        refine va_get (D := g.1) (ci := 8) (v := .ref (g.2.2.2 8 7)) (C := RX8) (T := TX8) (N := 47) (pc := 47) hx hb hts (fun _ h => List.mem_cons_of_mem _ (List.mem_append_right _ h)) hown hK hP 0 rfl rfl 7 (by decide) (hts _ q_X8_lay_1) (fun _ h9 => h9) rfl dX8_lay_47 ?_
        refine lv_bipush (v := 40) (pc := 50) hx hb dX8_lay_50 (by decide) ?_
        refine lv_iload_n (pc := 52) hx hb dX8_lay_52 rfl (lv_at hl 1 rfl) ?_
        refine lv_imul (pc := 53) hx hb dX8_lay_53 ?_
        refine lv_iload_n (pc := 54) hx hb dX8_lay_54 rfl (lv_at hl 2 rfl) ?_
        refine lv_iadd (pc := 55) hx hb dX8_lay_55 ?_
        obtain ⟨b56, hf⟩ := gdE hf
        refine va_bald (D := g.1) (tys := tyl g) (f := (S8.2.2 7)) (pc := 56) hx hb hK hP 3 1 rfl rfl (inbV b56) dX8_lay_56 ?_
        refine lv_istore (lv' := [(4, .int ((S8.2.2 7) (Int32.toNatClampNeg ((40 * x1) + x2)))), (0, .ref (g.2.2.1 8)), (1, .int x1), (2, .int x2), (3, .int x3)]) (pc := 57) hx hb dX8_lay_57 hl (by decide) rfl (fun ls hl => ?_)
        refine lv_aload_n (pc := 59) hx hb dX8_lay_59 rfl (lv_at hl 1 rfl) ?_
        refine va_get (D := g.1) (ci := 8) (v := .ref (g.2.2.2 8 7)) (C := RX8) (T := TX8) (N := 47) (pc := 60) hx hb hts (fun _ h => List.mem_cons_of_mem _ (List.mem_append_right _ h)) hown hK hP 0 rfl rfl 7 (by decide) (hts _ q_X8_lay_1) (fun _ h9 => h9) rfl dX8_lay_60 ?_
        refine lv_bipush (v := 40) (pc := 63) hx hb dX8_lay_63 (by decide) ?_
        refine lv_iload_n (pc := 65) hx hb dX8_lay_65 rfl (lv_at hl 2 rfl) ?_
        refine lv_imul (pc := 66) hx hb dX8_lay_66 ?_
        refine lv_iload_n (pc := 67) hx hb dX8_lay_67 rfl (lv_at hl 3 rfl) ?_
        refine lv_iadd (pc := 68) hx hb dX8_lay_68 ?_
        refine lv_iload_n (pc := 69) hx hb dX8_lay_69 rfl (lv_at hl 4 rfl) ?_
        refine lv_i2b (pc := 70) hx hb dX8_lay_70 rfl ?_
        obtain ⟨b71, hf⟩ := gdE hf
        refine va_bast (D := g.1) (tys := tyl g) (f := (S8.2.2 7)) (pc := 71) hx hb hK hP hD hS 3 1 rfl rfl (inbV b71) dX8_lay_71 (fun H locs hP hD hS => ?_)
        have hP := u_8_8_7P S8 (upd (S8.2.2 7) (Int32.toNatClampNeg ((40 * x1) + x2)) (vp_nar .byte (Int8.toInt32 (Int32.toInt8 x3)))) hP
        have hD := u_8_8_7D S8 (upd (S8.2.2 7) (Int32.toNatClampNeg ((40 * x1) + x2)) (vp_nar .byte (Int8.toInt32 (Int32.toInt8 x3)))) hD
        refine lv_sipush (v := 1000) (pc := 72) hx hb dX8_lay_72 (by decide) ?_
        refine lv_iload (pc := 75) hx hb dX8_lay_75 (lv_at hl 0 rfl) ?_
        refine lv_iadd (pc := 77) hx hb dX8_lay_77 ?_
        have hf := Option.some.inj hf
        subst hf
        exact W.iret (v := (1000 + ((S8.2.2 7) (Int32.toNatClampNeg ((40 * x1) + x2))))) hx hb hr (fun t ht hW => ⟨⟨_, (), rfl, rfl, by rw [ht]; exact hP, va_K.moved hW.alike hK, hD⟩, hS.F ht⟩) hS.2.2 dX8_lay_78
      · have hf := ft hf c37
        refine lv_aload_n (pc := 40) hx hb dX8_lay_40 rfl (lv_at hl 0 rfl) ?_
        refine lv_iconst (v := 2) (pc := 41) hx hb dX8_lay_41 (by decide) ?_
        obtain ⟨r42, e42, hf⟩ := bdE hf
        refine kuI (g := g) (A := A) (W0 := (wd_8 g S8)) (w1 := (wd_8 g (r42.2))) (pc := 42) (As := [.int 2]) (rest := []) ⟨hx, hb, hml, hown, hts⟩ hK hA hP hD hS (c_X8_meets l g N H.size S8 2 r42 e42) (cwV 1 hts gX8_lay_X8_meets rfl rfl rfl h_X8_meets ⟨Nat.le_of_ble_eq_true rfl, Nat.le_of_ble_eq_true rfl⟩) rfl rfl rfl hl.1 rfl (Nat.le_of_ble_eq_true rfl) dX8_lay_42 ⟨Nat.zero_le _, Nat.zero_le _⟩ (fun H locs hP hD hS => ?_)
        have hf := Option.some.inj hf
        subst hf
        exact W.iret (v := (r42.1)) hx hb hr (fun t ht hW => ⟨⟨_, (), rfl, rfl, by rw [ht]; exact hP, va_K.moved hW.alike hK, hD⟩, hS.F ht⟩) hS.2.2 dX8_lay_45
    · have hf := ff hf c15
      refine lv_aload_n (pc := 18) hx hb dX8_lay_18 rfl (lv_at hl 0 rfl) ?_
      refine lv_iconst (v := 1) (pc := 19) hx hb dX8_lay_19 (by decide) ?_
      obtain ⟨r20, e20, hf⟩ := bdE hf
      refine kuI (g := g) (A := A) (W0 := (wd_8 g S8)) (w1 := (wd_8 g (r20.2))) (pc := 20) (As := [.int 1]) (rest := []) ⟨hx, hb, hml, hown, hts⟩ hK hA hP hD hS (c_X8_meets l g N H.size S8 1 r20 e20) (cwV 1 hts gX8_lay_X8_meets rfl rfl rfl h_X8_meets ⟨Nat.le_of_ble_eq_true rfl, Nat.le_of_ble_eq_true rfl⟩) rfl rfl rfl hl.1 rfl (Nat.le_of_ble_eq_true rfl) dX8_lay_20 ⟨Nat.zero_le _, Nat.zero_le _⟩ (fun H locs hP hD hS => ?_)
      have hf := Option.some.inj hf
      subst hf
      exact W.iret (v := (r20.1)) hx hb hr (fun t ht hW => ⟨⟨_, (), rfl, rfl, by rw [ht]; exact hP, va_K.moved hW.alike hK, hD⟩, hS.F ht⟩) hS.2.2 dX8_lay_23
  · have hf := ft hf c4
    refine lv_iconst (v := (-1)) (pc := 7) hx hb dX8_lay_7 (by decide) ?_
    have hf := Option.some.inj hf
    subst hf
    exact W.iret (v := (-1)) hx hb hr (fun t ht hW => ⟨⟨_, (), rfl, rfl, by rw [ht]; exact hP, va_K.moved hW.alike hK, hD⟩, hS.F ht⟩) hS.2.2 dX8_lay_8
theorem q_X8_tear_0 : (.fieldLink RX8 13 "PictureCourtModel" "sizes" "[I" : Cond) ∈ wsX8_tear := by decide +kernel
theorem h_X8_tear : yX8_tear.cls = RX8 ∧ yX8_tear.cls ≠ "java/lang/invoke/MethodHandle" ∧ yX8_tear.cls ≠ "java/lang/invoke/VarHandle" ∧ (parseMethodDescriptor yX8_tear.desc).map (fun d => d.parameters.length) = some 1 := by decide +kernel
set_option maxHeartbeats 4000000 in
set_option maxRecDepth 100000 in
theorem c_X8_tear (l : Launch) (g : En) (N : Nat) (sz : Nat) (S8 : St) (x1 : Int32) (res : Int32 × St) (hf : f_X8_tear N S8 x1 = some res) : Met l yX8_tear wsX8_tear { frames := 2, cells := 0, slots := 0, locals := 42 } (rwP g (wd_8 g S8) sz [.ref (g.2.2.1 8), .int x1]) (rwQi g (wd_8 g (res.2)) (va_A (wd_8 g S8) sz) (res.1)) 0 0 (va_A (wd_8 g S8) sz) := by
  refine Met.ofW (cc := cX8_tear) (maxL := 2) (ret := (some .int)) (by decide) rfl ?_
  intro p e s m args below meth c s₁ B hml hv
  obtain ⟨rfl, hsz, hP, hK, hD0⟩ := hv
  have hx := B.exec
  have hb := B.bytes
  have hr := B.returns
  have hts := atoms_spec (ws := wsX8_tear) B.pre
  have hown : s.vm.findClass RX8 = some m.cls := findClass_of_methodNamed B.named
  have hlk := B.notSynchronized
  subst hsz
  have hD := hD0.self (sz := s.heap.size)
  generalize hAe : va_A (wd_8 g S8) s.heap.size = A at hD ⊢
  have hA : ∀ q : Nat, s.heap.size ≤ q → A q := fun q h => by rw [← hAe]; exact Or.inr h
  have hS : va_S A s.heap s.heap [] := va_S.rf
  have C : cxw g A cX8_tear 2 (some .int) wsX8_tear RX8 p s m ([.ref (g.2.2.1 8), .int x1] : List Value).toArray meth c := ⟨⟨hx, hb, hr, hml, hown, hts, hlk⟩, hK, hA⟩
  have hl := lv_entry [.ref (g.2.2.1 8), .int x1] (n := 2) (Nat.le_of_ble_eq_true rfl)
  rw [lg_entry_eq]
  generalize (lg_sl [.ref (g.2.2.1 8), .int x1] ++ List.replicate (2 - (lg_sl [.ref (g.2.2.1 8), .int x1]).length) Slot.unset).toArray = ls at hl ⊢
  have hl : lv_has ls 2 [(0, .ref (g.2.2.1 8)), (1, .int x1)] := hl
  unfold f_X8_tear at hf
  suffices K9 : ∀ (H : Heap) (locs : List Loc), va_P g.1 vwCl (wd_8 g S8) H → va_D A (wd_8 g S8) → va_S A s.heap H locs → ((f_X8_isRow N x1).bind (fun r1 => (if r1 = 0 then some ((-1), S8) else (if inb x1 6 = true then (if 0 ≤ ((S8.2.2 6) (Int32.toNatClampNeg x1)) then (if inb x1 6 = true then some (1, (sA S8 6 (upd (S8.2.2 6) (Int32.toNatClampNeg x1) (-1)))) else none) else ((f_X8_meets N S8 1).bind (fun r20 => some ((r20.1), (r20.2))))) else none)))) = some res → W p l e (headSpec wsX8_tear { frames := 2, cells := 0, slots := 0, locals := 42 }).room s m ([.ref (g.2.2.1 8), .int x1] : List Value).toArray below meth c H locs 0 0 (MQ below (rwQi g (wd_8 g (res.2)) A (res.1)) ([.ref (g.2.2.1 8), .int x1] : List Value).toArray s 0 0 A) (F0 m 0 ls []) from K9 s.heap [] hP hD hS hf
  clear hP hD hS hf
  intro H locs hP hD hS hf
  refine lv_iload_n (pc := 0) hx hb dX8_tear_0 rfl (lv_at hl 1 rfl) ?_
  obtain ⟨r1, e1, hf⟩ := bdE hf
  refine ksI (pc := 1) (As := [.int x1]) (rest := []) ⟨hx, hb, hml, hown, hts⟩ (c_X8_isRow l N x1 r1 e1) (va_cwS 1 hts gX8_tear_X8_isRow rfl rfl rfl h_X8_isRow ⟨Nat.le_of_ble_eq_true rfl, Nat.le_of_ble_eq_true rfl⟩) rfl hl.1 rfl (Nat.le_of_ble_eq_true rfl) dX8_tear_1 ⟨Nat.zero_le _, Nat.zero_le _⟩ ?_
  refine lv_if_ne (tgt := 9) (pc := 4) hx hb dX8_tear_4 (by decide) (fun c4 => ?_) (fun c4 => ?_)
  · have hf := ff hf c4
    refine lv_aload_n (pc := 9) hx hb dX8_tear_9 rfl (lv_at hl 0 rfl) ?_
    refine va_get (D := g.1) (ci := 8) (v := .ref (g.2.2.2 8 6)) (C := RX8) (T := TX8) (N := 47) (pc := 10) hx hb hts (fun _ h => List.mem_cons_of_mem _ (List.mem_append_right _ h)) hown hK hP 0 rfl rfl 6 (by decide) (hts _ q_X8_tear_0) (fun _ h9 => h9) rfl dX8_tear_10 ?_
    refine lv_iload_n (pc := 13) hx hb dX8_tear_13 rfl (lv_at hl 1 rfl) ?_
    obtain ⟨b14, hf⟩ := gdE hf
    refine va_iald (D := g.1) (tys := tyl g) (f := (S8.2.2 6)) (pc := 14) hx hb hK hP 2 0 rfl rfl (inbV b14) dX8_tear_14 ?_
    refine lv_if_ge (tgt := 24) (pc := 15) hx hb dX8_tear_15 (by decide) (fun c15 => ?_) (fun c15 => ?_)
    · have hf := ft hf c15
      refine lv_aload_n (pc := 24) hx hb dX8_tear_24 rfl (lv_at hl 0 rfl) ?_
      refine va_get (D := g.1) (ci := 8) (v := .ref (g.2.2.2 8 6)) (C := RX8) (T := TX8) (N := 47) (pc := 25) hx hb hts (fun _ h => List.mem_cons_of_mem _ (List.mem_append_right _ h)) hown hK hP 0 rfl rfl 6 (by decide) (hts _ q_X8_tear_0) (fun _ h9 => h9) rfl dX8_tear_25 ?_
      refine lv_iload_n (pc := 28) hx hb dX8_tear_28 rfl (lv_at hl 1 rfl) ?_
      refine lv_iconst (v := (-1)) (pc := 29) hx hb dX8_tear_29 (by decide) ?_
      obtain ⟨b30, hf⟩ := gdE hf
      refine va_iast (D := g.1) (tys := tyl g) (f := (S8.2.2 6)) (pc := 30) hx hb hK hP hD hS 2 0 rfl rfl (inbV b30) dX8_tear_30 (fun H locs hP hD hS => ?_)
      have hP := u_8_8_6P S8 (upd (S8.2.2 6) (Int32.toNatClampNeg x1) (-1)) hP
      have hD := u_8_8_6D S8 (upd (S8.2.2 6) (Int32.toNatClampNeg x1) (-1)) hD
      refine lv_iconst (v := 1) (pc := 31) hx hb dX8_tear_31 (by decide) ?_
      have hf := Option.some.inj hf
      subst hf
      exact W.iret (v := 1) hx hb hr (fun t ht hW => ⟨⟨_, (), rfl, rfl, by rw [ht]; exact hP, va_K.moved hW.alike hK, hD⟩, hS.F ht⟩) hS.2.2 dX8_tear_32
    · have hf := ff hf c15
      refine lv_aload_n (pc := 18) hx hb dX8_tear_18 rfl (lv_at hl 0 rfl) ?_
      refine lv_iconst (v := 1) (pc := 19) hx hb dX8_tear_19 (by decide) ?_
      obtain ⟨r20, e20, hf⟩ := bdE hf
      refine kuI (g := g) (A := A) (W0 := (wd_8 g S8)) (w1 := (wd_8 g (r20.2))) (pc := 20) (As := [.int 1]) (rest := []) ⟨hx, hb, hml, hown, hts⟩ hK hA hP hD hS (c_X8_meets l g N H.size S8 1 r20 e20) (cwV 1 hts gX8_tear_X8_meets rfl rfl rfl h_X8_meets ⟨Nat.le_of_ble_eq_true rfl, Nat.le_of_ble_eq_true rfl⟩) rfl rfl rfl hl.1 rfl (Nat.le_of_ble_eq_true rfl) dX8_tear_20 ⟨Nat.zero_le _, Nat.zero_le _⟩ (fun H locs hP hD hS => ?_)
      have hf := Option.some.inj hf
      subst hf
      exact W.iret (v := (r20.1)) hx hb hr (fun t ht hW => ⟨⟨_, (), rfl, rfl, by rw [ht]; exact hP, va_K.moved hW.alike hK, hD⟩, hS.F ht⟩) hS.2.2 dX8_tear_23
  · have hf := ft hf c4
    refine lv_iconst (v := (-1)) (pc := 7) hx hb dX8_tear_7 (by decide) ?_
    have hf := Option.some.inj hf
    subst hf
    exact W.iret (v := (-1)) hx hb hr (fun t ht hW => ⟨⟨_, (), rfl, rfl, by rw [ht]; exact hP, va_K.moved hW.alike hK, hD⟩, hS.F ht⟩) hS.2.2 dX8_tear_8
theorem q_X8_copy_0 : (.fieldLink RX8 16 "PictureCourtModel" "rows" "[B" : Cond) ∈ wsX8_copy := by decide +kernel
theorem q_X8_copy_1 : (.fieldLink RX8 20 "PictureCourtModel" "copied" "[B" : Cond) ∈ wsX8_copy := by decide +kernel
theorem q_X8_copy_2 : (.fieldLink RX8 13 "PictureCourtModel" "sizes" "[I" : Cond) ∈ wsX8_copy := by decide +kernel
theorem h_X8_copy : yX8_copy.cls = RX8 ∧ yX8_copy.cls ≠ "java/lang/invoke/MethodHandle" ∧ yX8_copy.cls ≠ "java/lang/invoke/VarHandle" ∧ (parseMethodDescriptor yX8_copy.desc).map (fun d => d.parameters.length) = some 5 := by decide +kernel
set_option maxHeartbeats 4000000 in
set_option maxRecDepth 100000 in
theorem w_X8_copy_34 {p : Program} {l : Launch} {e : Env} {s : State} {m : MethodId} {args : Array Value} {below : List Frame} {meth : Method} {c : Code} {g : En} {A : Nat → Prop} {N : Nat} {res : Int32 × St} (C : cxw g A cX8_copy 7 (some .int) wsX8_copy RX8 p s m args meth c) : ∀ (H : Heap) (locs : List Loc) (S8 : St) (ls : Array Slot), va_P g.1 vwCl (wd_8 g S8) H → va_D A (wd_8 g S8) → va_S A s.heap H locs → lv_has ls 7 [(0, .ref (g.2.2.1 8))] → f_X8_copy_34 N   S8 = some res → W p l e (headSpec wsX8_copy { frames := 2, cells := 0, slots := 0, locals := 42 }).room s m args below meth c H locs 0 0 (MQ below (rwQi g (wd_8 g (res.2)) A (res.1)) args s 0 0 A) (F0 m 34 ls []) := by
  intro H locs S8 ls  hP hD hS hl hf
  obtain ⟨⟨hx, hb, hr, hml, hown, hts, hlk⟩, hK, hA⟩ := id C
  unfold f_X8_copy_34 at hf
  refine lv_aload_n (pc := 34) hx hb dX8_copy_34 rfl (lv_at hl 0 rfl) ?_
  refine lv_iconst (v := 1) (pc := 35) hx hb dX8_copy_35 (by decide) ?_
  obtain ⟨r36, e36, hf⟩ := bdE hf
  refine kuI (g := g) (A := A) (W0 := (wd_8 g S8)) (w1 := (wd_8 g (r36.2))) (pc := 36) (As := [.int 1]) (rest := []) ⟨hx, hb, hml, hown, hts⟩ hK hA hP hD hS (c_X8_meets l g N H.size S8 1 r36 e36) (cwV 1 hts gX8_copy_X8_meets rfl rfl rfl h_X8_meets ⟨Nat.le_of_ble_eq_true rfl, Nat.le_of_ble_eq_true rfl⟩) rfl rfl rfl hl.1 rfl (Nat.le_of_ble_eq_true rfl) dX8_copy_36 ⟨Nat.zero_le _, Nat.zero_le _⟩ (fun H locs hP hD hS => ?_)
  have hf := Option.some.inj hf
  subst hf
  exact W.iret (v := (r36.1)) hx hb hr (fun t ht hW => ⟨⟨_, (), rfl, rfl, by rw [ht]; exact hP, va_K.moved hW.alike hK, hD⟩, hS.F ht⟩) hS.2.2 dX8_copy_39
set_option maxHeartbeats 4000000 in
set_option maxRecDepth 100000 in
theorem w_X8_copy_89 {p : Program} {l : Launch} {e : Env} {s : State} {m : MethodId} {args : Array Value} {below : List Frame} {meth : Method} {c : Code} {g : En} {A : Nat → Prop} {N : Nat} {res : Int32 × St} (C : cxw g A cX8_copy 7 (some .int) wsX8_copy RX8 p s m args meth c) : ∀ (H : Heap) (locs : List Loc) (S8 : St) (ls : Array Slot), va_P g.1 vwCl (wd_8 g S8) H → va_D A (wd_8 g S8) → va_S A s.heap H locs → lv_has ls 7 [(0, .ref (g.2.2.1 8))] → f_X8_copy_89 N   S8 = some res → W p l e (headSpec wsX8_copy { frames := 2, cells := 0, slots := 0, locals := 42 }).room s m args below meth c H locs 0 0 (MQ below (rwQi g (wd_8 g (res.2)) A (res.1)) args s 0 0 A) (F0 m 89 ls []) := by
  intro H locs S8 ls  hP hD hS hl hf
  obtain ⟨⟨hx, hb, hr, hml, hown, hts, hlk⟩, hK, hA⟩ := id C
  unfold f_X8_copy_89 at hf
  refine lv_aload_n (pc := 89) hx hb dX8_copy_89 rfl (lv_at hl 0 rfl) ?_
  refine lv_iconst (v := 2) (pc := 90) hx hb dX8_copy_90 (by decide) ?_
  obtain ⟨r91, e91, hf⟩ := bdE hf
  refine kuI (g := g) (A := A) (W0 := (wd_8 g S8)) (w1 := (wd_8 g (r91.2))) (pc := 91) (As := [.int 2]) (rest := []) ⟨hx, hb, hml, hown, hts⟩ hK hA hP hD hS (c_X8_meets l g N H.size S8 2 r91 e91) (cwV 1 hts gX8_copy_X8_meets rfl rfl rfl h_X8_meets ⟨Nat.le_of_ble_eq_true rfl, Nat.le_of_ble_eq_true rfl⟩) rfl rfl rfl hl.1 rfl (Nat.le_of_ble_eq_true rfl) dX8_copy_91 ⟨Nat.zero_le _, Nat.zero_le _⟩ (fun H locs hP hD hS => ?_)
  have hf := Option.some.inj hf
  subst hf
  exact W.iret (v := (r91.1)) hx hb hr (fun t ht hW => ⟨⟨_, (), rfl, rfl, by rw [ht]; exact hP, va_K.moved hW.alike hK, hD⟩, hS.F ht⟩) hS.2.2 dX8_copy_94
set_option maxHeartbeats 4000000 in
set_option maxRecDepth 100000 in
theorem w_X8_copy_135_b {p : Program} {l : Launch} {e : Env} {s : State} {m : MethodId} {args : Array Value} {below : List Frame} {meth : Method} {c : Code} {g : En} {A : Nat → Prop} {N : Nat} {res : Int32 × St} (C : cxw g A cX8_copy 7 (some .int) wsX8_copy RX8 p s m args meth c) (k135 : St → Int32 → Int32 → Int32 → Int32 → Option (Int32 × St)) (H135 : ∀ (H : Heap) (locs : List Loc) (S8 : St) (ls : Array Slot) (x3 : Int32) (x4 : Int32) (x5 : Int32) (x6 : Int32), va_P g.1 vwCl (wd_8 g S8) H → va_D A (wd_8 g S8) → va_S A s.heap H locs → lv_has ls 7 [(0, .ref (g.2.2.1 8)), (3, .int x3), (4, .int x4), (5, .int x5), (6, .int x6)] → k135 S8 x3 x4 x5 x6 = some res → W p l e (headSpec wsX8_copy { frames := 2, cells := 0, slots := 0, locals := 42 }).room s m args below meth c H locs 0 0 (MQ below (rwQi g (wd_8 g (res.2)) A (res.1)) args s 0 0 A) (F0 m 135 ls [])) : ∀ (H : Heap) (locs : List Loc) (S8 : St) (ls : Array Slot) (x3 : Int32) (x4 : Int32) (x5 : Int32) (x6 : Int32), va_P g.1 vwCl (wd_8 g S8) H → va_D A (wd_8 g S8) → va_S A s.heap H locs → lv_has ls 7 [(0, .ref (g.2.2.1 8)), (3, .int x3), (4, .int x4), (5, .int x5), (6, .int x6)] → f_X8_copy_135_b N   k135 S8 x3 x4 x5 x6 = some res → W p l e (headSpec wsX8_copy { frames := 2, cells := 0, slots := 0, locals := 42 }).room s m args below meth c H locs 0 0 (MQ below (rwQi g (wd_8 g (res.2)) A (res.1)) args s 0 0 A) (F0 m 135 ls []) := by
  intro H locs S8 ls x3 x4 x5 x6 hP hD hS hl hf
  obtain ⟨⟨hx, hb, hr, hml, hown, hts, hlk⟩, hK, hA⟩ := id C
  unfold f_X8_copy_135_b at hf
  refine lv_iload (pc := 135) hx hb dX8_copy_135 (lv_at hl 4 rfl) ?_
  refine lv_iload (pc := 137) hx hb dX8_copy_137 (lv_at hl 3 rfl) ?_
  refine lv_icmp_ge (tgt := 170) (pc := 139) hx hb dX8_copy_139 (by decide) (fun c139 => ?_) (fun c139 => ?_)
  · have hf := ft hf c139
    refine lv_iconst (v := 1) (pc := 170) hx hb dX8_copy_170 (by decide) ?_
    have hf := Option.some.inj hf
    subst hf
    exact W.iret (v := 1) hx hb hr (fun t ht hW => ⟨⟨_, (), rfl, rfl, by rw [ht]; exact hP, va_K.moved hW.alike hK, hD⟩, hS.F ht⟩) hS.2.2 dX8_copy_171
  · have hf := ff hf c139
    refine lv_aload_n (pc := 142) hx hb dX8_copy_142 rfl (lv_at hl 0 rfl) ?_
    refine va_get (D := g.1) (ci := 8) (v := .ref (g.2.2.2 8 7)) (C := RX8) (T := TX8) (N := 47) (pc := 143) hx hb hts (fun _ h => List.mem_cons_of_mem _ (List.mem_append_right _ h)) hown hK hP 0 rfl rfl 7 (by decide) (hts _ q_X8_copy_0) (fun _ h9 => h9) rfl dX8_copy_143 ?_
    refine lv_bipush (v := 40) (pc := 146) hx hb dX8_copy_146 (by decide) ?_
    refine lv_iload_n (pc := 148) hx hb dX8_copy_148 rfl (lv_at hl 1 rfl) ?_
    refine lv_imul (pc := 149) hx hb dX8_copy_149 ?_
    refine lv_iload (pc := 150) hx hb dX8_copy_150 (lv_at hl 2 rfl) ?_
    refine lv_iadd (pc := 152) hx hb dX8_copy_152 ?_
    refine lv_iload (pc := 153) hx hb dX8_copy_153 (lv_at hl 4 rfl) ?_
    refine lv_iadd (pc := 155) hx hb dX8_copy_155 ?_
    refine lv_aload_n (pc := 156) hx hb dX8_copy_156 rfl (lv_at hl 0 rfl) ?_
    refine va_get (D := g.1) (ci := 8) (v := .ref (g.2.2.2 8 8)) (C := RX8) (T := TX8) (N := 47) (pc := 157) hx hb hts (fun _ h => List.mem_cons_of_mem _ (List.mem_append_right _ h)) hown hK hP 0 rfl rfl 8 (by decide) (hts _ q_X8_copy_1) (fun _ h9 => h9) rfl dX8_copy_157 ?_
    refine lv_iload (pc := 160) hx hb dX8_copy_160 (lv_at hl 4 rfl) ?_
    obtain ⟨b162, hf⟩ := gdE hf
    refine va_bald (D := g.1) (tys := tyl g) (f := (S8.2.2 8)) (pc := 162) hx hb hK hP 4 1 rfl rfl (inbV b162) dX8_copy_162 ?_
    obtain ⟨b163, hf⟩ := gdE hf
    refine va_bast (D := g.1) (tys := tyl g) (f := (S8.2.2 7)) (pc := 163) hx hb hK hP hD hS 3 1 rfl rfl (inbV b163) dX8_copy_163 (fun H locs hP hD hS => ?_)
    have hP := u_8_8_7P S8 (upd (S8.2.2 7) (Int32.toNatClampNeg (((40 * x3) + x4) + x6)) (vp_nar .byte ((S8.2.2 8) (Int32.toNatClampNeg x6)))) hP
    have hD := u_8_8_7D S8 (upd (S8.2.2 7) (Int32.toNatClampNeg (((40 * x3) + x4) + x6)) (vp_nar .byte ((S8.2.2 8) (Int32.toNatClampNeg x6)))) hD
    refine lv_iinc (v := (x6 + 1)) (lv' := [(6, .int (x6 + 1)), (0, .ref (g.2.2.1 8)), (3, .int x3), (4, .int x4), (5, .int x5)]) (pc := 164) hx hb dX8_copy_164 hl (k := 4) rfl rfl (by decide) rfl (fun ls hl => ?_)
    refine lv_goto (tgt := 135) (pc := 167) hx hb dX8_copy_167 (by decide) ?_
    exact H135 H locs (sA S8 7 (upd (S8.2.2 7) (Int32.toNatClampNeg (((40 * x3) + x4) + x6)) (vp_nar .byte ((S8.2.2 8) (Int32.toNatClampNeg x6))))) ls x3 x4 x5 (x6 + 1) hP hD hS (lv_sub hl [1, 2, 3, 4, 0] rfl) hf
set_option maxHeartbeats 4000000 in
set_option maxRecDepth 100000 in
theorem w_X8_copy_135 {p : Program} {l : Launch} {e : Env} {s : State} {m : MethodId} {args : Array Value} {below : List Frame} {meth : Method} {c : Code} {g : En} {A : Nat → Prop} {N : Nat} {res : Int32 × St} (C : cxw g A cX8_copy 7 (some .int) wsX8_copy RX8 p s m args meth c) : ∀ (n : Nat), ∀ (H : Heap) (locs : List Loc) (S8 : St) (ls : Array Slot) (x3 : Int32) (x4 : Int32) (x5 : Int32) (x6 : Int32), va_P g.1 vwCl (wd_8 g S8) H → va_D A (wd_8 g S8) → va_S A s.heap H locs → lv_has ls 7 [(0, .ref (g.2.2.1 8)), (3, .int x3), (4, .int x4), (5, .int x5), (6, .int x6)] → f_X8_copy_135 N   n S8 x3 x4 x5 x6 = some res → W p l e (headSpec wsX8_copy { frames := 2, cells := 0, slots := 0, locals := 42 }).room s m args below meth c H locs 0 0 (MQ below (rwQi g (wd_8 g (res.2)) A (res.1)) args s 0 0 A) (F0 m 135 ls []) := by
  intro n
  induction n with
  | zero =>
    intro H locs S8 ls x3 x4 x5 x6 hP hD hS hl hf
    have hf : (none : Option (Int32 × St)) = some res := hf
    cases hf
  | succ n ih =>
    intro H locs S8 ls x3 x4 x5 x6 hP hD hS hl hf
    exact w_X8_copy_135_b C  (fun y0 y1 y2 y3 y4 => f_X8_copy_135 N   n y0 y1 y2 y3 y4) ih H locs S8 ls x3 x4 x5 x6 hP hD hS hl hf
set_option maxHeartbeats 4000000 in
set_option maxRecDepth 100000 in
theorem w_X8_copy_98_b {p : Program} {l : Launch} {e : Env} {s : State} {m : MethodId} {args : Array Value} {below : List Frame} {meth : Method} {c : Code} {g : En} {A : Nat → Prop} {N : Nat} {res : Int32 × St} (C : cxw g A cX8_copy 7 (some .int) wsX8_copy RX8 p s m args meth c) (k98 : St → Int32 → Int32 → Int32 → Int32 → Int32 → Int32 → Option (Int32 × St)) (H98 : ∀ (H : Heap) (locs : List Loc) (S8 : St) (ls : Array Slot) (x1 : Int32) (x2 : Int32) (x3 : Int32) (x4 : Int32) (x5 : Int32) (x6 : Int32), va_P g.1 vwCl (wd_8 g S8) H → va_D A (wd_8 g S8) → va_S A s.heap H locs → lv_has ls 7 [(0, .ref (g.2.2.1 8)), (1, .int x1), (2, .int x2), (3, .int x3), (4, .int x4), (5, .int x5), (6, .int x6)] → k98 S8 x1 x2 x3 x4 x5 x6 = some res → W p l e (headSpec wsX8_copy { frames := 2, cells := 0, slots := 0, locals := 42 }).room s m args below meth c H locs 0 0 (MQ below (rwQi g (wd_8 g (res.2)) A (res.1)) args s 0 0 A) (F0 m 98 ls [])) : ∀ (H : Heap) (locs : List Loc) (S8 : St) (ls : Array Slot) (x1 : Int32) (x2 : Int32) (x3 : Int32) (x4 : Int32) (x5 : Int32) (x6 : Int32), va_P g.1 vwCl (wd_8 g S8) H → va_D A (wd_8 g S8) → va_S A s.heap H locs → lv_has ls 7 [(0, .ref (g.2.2.1 8)), (1, .int x1), (2, .int x2), (3, .int x3), (4, .int x4), (5, .int x5), (6, .int x6)] → f_X8_copy_98_b N   k98 S8 x1 x2 x3 x4 x5 x6 = some res → W p l e (headSpec wsX8_copy { frames := 2, cells := 0, slots := 0, locals := 42 }).room s m args below meth c H locs 0 0 (MQ below (rwQi g (wd_8 g (res.2)) A (res.1)) args s 0 0 A) (F0 m 98 ls []) := by
  intro H locs S8 ls x1 x2 x3 x4 x5 x6 hP hD hS hl hf
  obtain ⟨⟨hx, hb, hr, hml, hown, hts, hlk⟩, hK, hA⟩ := id C
  unfold f_X8_copy_98_b at hf
  refine lv_iload (pc := 98) hx hb dX8_copy_98 (lv_at hl 6 rfl) ?_
  refine lv_iload (pc := 100) hx hb dX8_copy_100 (lv_at hl 5 rfl) ?_
  refine lv_icmp_ge (tgt := 132) (pc := 102) hx hb dX8_copy_102 (by decide) (fun c102 => ?_) (fun c102 => ?_)
  · have hf := ft hf c102
    refine lv_iconst (v := 0) (pc := 132) hx hb dX8_copy_132 (by decide) ?_
    refine lv_istore (lv' := [(6, .int 0), (0, .ref (g.2.2.1 8)), (1, .int x1), (2, .int x2), (3, .int x3), (4, .int x4), (5, .int x5)]) (pc := 133) hx hb dX8_copy_133 hl (by decide) rfl (fun ls hl => ?_)
    exact w_X8_copy_135 C  N H locs S8 ls x3 x4 x5 0 hP hD hS (lv_sub hl [1, 4, 5, 6, 0] rfl) hf
  · have hf := ff hf c102
    refine lv_aload_n (pc := 105) hx hb dX8_copy_105 rfl (lv_at hl 0 rfl) ?_
    refine va_get (D := g.1) (ci := 8) (v := .ref (g.2.2.2 8 8)) (C := RX8) (T := TX8) (N := 47) (pc := 106) hx hb hts (fun _ h => List.mem_cons_of_mem _ (List.mem_append_right _ h)) hown hK hP 0 rfl rfl 8 (by decide) (hts _ q_X8_copy_1) (fun _ h9 => h9) rfl dX8_copy_106 ?_
    refine lv_iload (pc := 109) hx hb dX8_copy_109 (lv_at hl 6 rfl) ?_
    refine lv_aload_n (pc := 111) hx hb dX8_copy_111 rfl (lv_at hl 0 rfl) ?_
    refine va_get (D := g.1) (ci := 8) (v := .ref (g.2.2.2 8 7)) (C := RX8) (T := TX8) (N := 47) (pc := 112) hx hb hts (fun _ h => List.mem_cons_of_mem _ (List.mem_append_right _ h)) hown hK hP 0 rfl rfl 7 (by decide) (hts _ q_X8_copy_0) (fun _ h9 => h9) rfl dX8_copy_112 ?_
    refine lv_bipush (v := 40) (pc := 115) hx hb dX8_copy_115 (by decide) ?_
    refine lv_iload_n (pc := 117) hx hb dX8_copy_117 rfl (lv_at hl 1 rfl) ?_
    refine lv_imul (pc := 118) hx hb dX8_copy_118 ?_
    refine lv_iload_n (pc := 119) hx hb dX8_copy_119 rfl (lv_at hl 2 rfl) ?_
    refine lv_iadd (pc := 120) hx hb dX8_copy_120 ?_
    refine lv_iload (pc := 121) hx hb dX8_copy_121 (lv_at hl 6 rfl) ?_
    refine lv_iadd (pc := 123) hx hb dX8_copy_123 ?_
    obtain ⟨b124, hf⟩ := gdE hf
    refine va_bald (D := g.1) (tys := tyl g) (f := (S8.2.2 7)) (pc := 124) hx hb hK hP 3 1 rfl rfl (inbV b124) dX8_copy_124 ?_
    obtain ⟨b125, hf⟩ := gdE hf
    refine va_bast (D := g.1) (tys := tyl g) (f := (S8.2.2 8)) (pc := 125) hx hb hK hP hD hS 4 1 rfl rfl (inbV b125) dX8_copy_125 (fun H locs hP hD hS => ?_)
    have hP := u_8_8_8P S8 (upd (S8.2.2 8) (Int32.toNatClampNeg x6) (vp_nar .byte ((S8.2.2 7) (Int32.toNatClampNeg (((40 * x1) + x2) + x6))))) hP
    have hD := u_8_8_8D S8 (upd (S8.2.2 8) (Int32.toNatClampNeg x6) (vp_nar .byte ((S8.2.2 7) (Int32.toNatClampNeg (((40 * x1) + x2) + x6))))) hD
    refine lv_iinc (v := (x6 + 1)) (lv' := [(6, .int (x6 + 1)), (0, .ref (g.2.2.1 8)), (1, .int x1), (2, .int x2), (3, .int x3), (4, .int x4), (5, .int x5)]) (pc := 126) hx hb dX8_copy_126 hl (k := 6) rfl rfl (by decide) rfl (fun ls hl => ?_)
    refine lv_goto (tgt := 98) (pc := 129) hx hb dX8_copy_129 (by decide) ?_
    exact H98 H locs (sA S8 8 (upd (S8.2.2 8) (Int32.toNatClampNeg x6) (vp_nar .byte ((S8.2.2 7) (Int32.toNatClampNeg (((40 * x1) + x2) + x6)))))) ls x1 x2 x3 x4 x5 (x6 + 1) hP hD hS (lv_sub hl [1, 2, 3, 4, 5, 6, 0] rfl) hf
set_option maxHeartbeats 4000000 in
set_option maxRecDepth 100000 in
theorem w_X8_copy_98 {p : Program} {l : Launch} {e : Env} {s : State} {m : MethodId} {args : Array Value} {below : List Frame} {meth : Method} {c : Code} {g : En} {A : Nat → Prop} {N : Nat} {res : Int32 × St} (C : cxw g A cX8_copy 7 (some .int) wsX8_copy RX8 p s m args meth c) : ∀ (n : Nat), ∀ (H : Heap) (locs : List Loc) (S8 : St) (ls : Array Slot) (x1 : Int32) (x2 : Int32) (x3 : Int32) (x4 : Int32) (x5 : Int32) (x6 : Int32), va_P g.1 vwCl (wd_8 g S8) H → va_D A (wd_8 g S8) → va_S A s.heap H locs → lv_has ls 7 [(0, .ref (g.2.2.1 8)), (1, .int x1), (2, .int x2), (3, .int x3), (4, .int x4), (5, .int x5), (6, .int x6)] → f_X8_copy_98 N   n S8 x1 x2 x3 x4 x5 x6 = some res → W p l e (headSpec wsX8_copy { frames := 2, cells := 0, slots := 0, locals := 42 }).room s m args below meth c H locs 0 0 (MQ below (rwQi g (wd_8 g (res.2)) A (res.1)) args s 0 0 A) (F0 m 98 ls []) := by
  intro n
  induction n with
  | zero =>
    intro H locs S8 ls x1 x2 x3 x4 x5 x6 hP hD hS hl hf
    have hf : (none : Option (Int32 × St)) = some res := hf
    cases hf
  | succ n ih =>
    intro H locs S8 ls x1 x2 x3 x4 x5 x6 hP hD hS hl hf
    exact w_X8_copy_98_b C  (fun y0 y1 y2 y3 y4 y5 y6 => f_X8_copy_98 N   n y0 y1 y2 y3 y4 y5 y6) ih H locs S8 ls x1 x2 x3 x4 x5 x6 hP hD hS hl hf
set_option maxHeartbeats 4000000 in
set_option maxRecDepth 100000 in
theorem c_X8_copy (l : Launch) (g : En) (N : Nat) (sz : Nat) (S8 : St) (x1 : Int32) (x2 : Int32) (x3 : Int32) (x4 : Int32) (x5 : Int32) (res : Int32 × St) (hf : f_X8_copy N S8 x1 x2 x3 x4 x5 = some res) : Met l yX8_copy wsX8_copy { frames := 2, cells := 0, slots := 0, locals := 42 } (rwP g (wd_8 g S8) sz [.ref (g.2.2.1 8), .int x1, .int x2, .int x3, .int x4, .int x5]) (rwQi g (wd_8 g (res.2)) (va_A (wd_8 g S8) sz) (res.1)) 0 0 (va_A (wd_8 g S8) sz) := by
  refine Met.ofW (cc := cX8_copy) (maxL := 7) (ret := (some .int)) (by decide) rfl ?_
  intro p e s m args below meth c s₁ B hml hv
  obtain ⟨rfl, hsz, hP, hK, hD0⟩ := hv
  have hx := B.exec
  have hb := B.bytes
  have hr := B.returns
  have hts := atoms_spec (ws := wsX8_copy) B.pre
  have hown : s.vm.findClass RX8 = some m.cls := findClass_of_methodNamed B.named
  have hlk := B.notSynchronized
  subst hsz
  have hD := hD0.self (sz := s.heap.size)
  generalize hAe : va_A (wd_8 g S8) s.heap.size = A at hD ⊢
  have hA : ∀ q : Nat, s.heap.size ≤ q → A q := fun q h => by rw [← hAe]; exact Or.inr h
  have hS : va_S A s.heap s.heap [] := va_S.rf
  have C : cxw g A cX8_copy 7 (some .int) wsX8_copy RX8 p s m ([.ref (g.2.2.1 8), .int x1, .int x2, .int x3, .int x4, .int x5] : List Value).toArray meth c := ⟨⟨hx, hb, hr, hml, hown, hts, hlk⟩, hK, hA⟩
  have hl := lv_entry [.ref (g.2.2.1 8), .int x1, .int x2, .int x3, .int x4, .int x5] (n := 7) (Nat.le_of_ble_eq_true rfl)
  rw [lg_entry_eq]
  generalize (lg_sl [.ref (g.2.2.1 8), .int x1, .int x2, .int x3, .int x4, .int x5] ++ List.replicate (7 - (lg_sl [.ref (g.2.2.1 8), .int x1, .int x2, .int x3, .int x4, .int x5]).length) Slot.unset).toArray = ls at hl ⊢
  have hl : lv_has ls 7 [(0, .ref (g.2.2.1 8)), (1, .int x1), (2, .int x2), (3, .int x3), (4, .int x4), (5, .int x5)] := hl
  unfold f_X8_copy at hf
  suffices K9 : ∀ (H : Heap) (locs : List Loc), va_P g.1 vwCl (wd_8 g S8) H → va_D A (wd_8 g S8) → va_S A s.heap H locs → ((f_X8_isRow N x1).bind (fun r1 => (if r1 = 0 then some ((-1), S8) else ((f_X8_isRow N x3).bind (fun r8 => (if r8 = 0 then some ((-1), S8) else (if inb x1 6 = true then (if ((S8.2.2 6) (Int32.toNatClampNeg x1)) < 0 then (f_X8_copy_34 N   S8) else (if inb x3 6 = true then (if 0 ≤ ((S8.2.2 6) (Int32.toNatClampNeg x3)) then (if x2 < 0 then (f_X8_copy_89 N   S8) else (if x4 < 0 then (f_X8_copy_89 N   S8) else (if x5 < 0 then (f_X8_copy_89 N   S8) else (if inb x1 6 = true then (if 0 < (lg_cmp ((Int32.toInt64 x2) + (Int32.toInt64 x5)) (Int32.toInt64 ((S8.2.2 6) (Int32.toNatClampNeg x1)))) then (f_X8_copy_89 N   S8) else (if inb x3 6 = true then (if (lg_cmp ((Int32.toInt64 x4) + (Int32.toInt64 x5)) (Int32.toInt64 ((S8.2.2 6) (Int32.toNatClampNeg x3)))) ≤ 0 then (f_X8_copy_98 N   N S8 x1 x2 x3 x4 x5 0) else (f_X8_copy_89 N   S8)) else none)) else none)))) else (f_X8_copy_34 N   S8)) else none)) else none))))))) = some res → W p l e (headSpec wsX8_copy { frames := 2, cells := 0, slots := 0, locals := 42 }).room s m ([.ref (g.2.2.1 8), .int x1, .int x2, .int x3, .int x4, .int x5] : List Value).toArray below meth c H locs 0 0 (MQ below (rwQi g (wd_8 g (res.2)) A (res.1)) ([.ref (g.2.2.1 8), .int x1, .int x2, .int x3, .int x4, .int x5] : List Value).toArray s 0 0 A) (F0 m 0 ls []) from K9 s.heap [] hP hD hS hf
  clear hP hD hS hf
  intro H locs hP hD hS hf
  refine lv_iload_n (pc := 0) hx hb dX8_copy_0 rfl (lv_at hl 1 rfl) ?_
  obtain ⟨r1, e1, hf⟩ := bdE hf
  refine ksI (pc := 1) (As := [.int x1]) (rest := []) ⟨hx, hb, hml, hown, hts⟩ (c_X8_isRow l N x1 r1 e1) (va_cwS 1 hts gX8_copy_X8_isRow rfl rfl rfl h_X8_isRow ⟨Nat.le_of_ble_eq_true rfl, Nat.le_of_ble_eq_true rfl⟩) rfl hl.1 rfl (Nat.le_of_ble_eq_true rfl) dX8_copy_1 ⟨Nat.zero_le _, Nat.zero_le _⟩ ?_
  refine lv_if_eq (tgt := 14) (pc := 4) hx hb dX8_copy_4 (by decide) (fun c4 => ?_) (fun c4 => ?_)
  · have hf := ft hf c4
    refine lv_iconst (v := (-1)) (pc := 14) hx hb dX8_copy_14 (by decide) ?_
    have hf := Option.some.inj hf
    subst hf
    exact W.iret (v := (-1)) hx hb hr (fun t ht hW => ⟨⟨_, (), rfl, rfl, by rw [ht]; exact hP, va_K.moved hW.alike hK, hD⟩, hS.F ht⟩) hS.2.2 dX8_copy_15
  · have hf := ff hf c4
    refine lv_iload_n (pc := 7) hx hb dX8_copy_7 rfl (lv_at hl 3 rfl) ?_
    obtain ⟨r8, e8, hf⟩ := bdE hf
    refine ksI (pc := 8) (As := [.int x3]) (rest := []) ⟨hx, hb, hml, hown, hts⟩ (c_X8_isRow l N x3 r8 e8) (va_cwS 1 hts gX8_copy_X8_isRow rfl rfl rfl h_X8_isRow ⟨Nat.le_of_ble_eq_true rfl, Nat.le_of_ble_eq_true rfl⟩) rfl hl.1 rfl (Nat.le_of_ble_eq_true rfl) dX8_copy_8 ⟨Nat.zero_le _, Nat.zero_le _⟩ ?_
    refine lv_if_ne (tgt := 16) (pc := 11) hx hb dX8_copy_11 (by decide) (fun c11 => ?_) (fun c11 => ?_)
    · have hf := ff hf c11
      refine lv_aload_n (pc := 16) hx hb dX8_copy_16 rfl (lv_at hl 0 rfl) ?_
      refine va_get (D := g.1) (ci := 8) (v := .ref (g.2.2.2 8 6)) (C := RX8) (T := TX8) (N := 47) (pc := 17) hx hb hts (fun _ h => List.mem_cons_of_mem _ (List.mem_append_right _ h)) hown hK hP 0 rfl rfl 6 (by decide) (hts _ q_X8_copy_2) (fun _ h9 => h9) rfl dX8_copy_17 ?_
      refine lv_iload_n (pc := 20) hx hb dX8_copy_20 rfl (lv_at hl 1 rfl) ?_
      obtain ⟨b21, hf⟩ := gdE hf
      refine va_iald (D := g.1) (tys := tyl g) (f := (S8.2.2 6)) (pc := 21) hx hb hK hP 2 0 rfl rfl (inbV b21) dX8_copy_21 ?_
      refine lv_if_lt (tgt := 34) (pc := 22) hx hb dX8_copy_22 (by decide) (fun c22 => ?_) (fun c22 => ?_)
      · have hf := ft hf c22
        exact w_X8_copy_34 C  H locs S8 ls  hP hD hS (lv_sub hl [0] rfl) hf
      · have hf := ff hf c22
        refine lv_aload_n (pc := 25) hx hb dX8_copy_25 rfl (lv_at hl 0 rfl) ?_
        refine va_get (D := g.1) (ci := 8) (v := .ref (g.2.2.2 8 6)) (C := RX8) (T := TX8) (N := 47) (pc := 26) hx hb hts (fun _ h => List.mem_cons_of_mem _ (List.mem_append_right _ h)) hown hK hP 0 rfl rfl 6 (by decide) (hts _ q_X8_copy_2) (fun _ h9 => h9) rfl dX8_copy_26 ?_
        refine lv_iload_n (pc := 29) hx hb dX8_copy_29 rfl (lv_at hl 3 rfl) ?_
        obtain ⟨b30, hf⟩ := gdE hf
        refine va_iald (D := g.1) (tys := tyl g) (f := (S8.2.2 6)) (pc := 30) hx hb hK hP 2 0 rfl rfl (inbV b30) dX8_copy_30 ?_
        refine lv_if_ge (tgt := 40) (pc := 31) hx hb dX8_copy_31 (by decide) (fun c31 => ?_) (fun c31 => ?_)
        · have hf := ft hf c31
          refine lv_iload_n (pc := 40) hx hb dX8_copy_40 rfl (lv_at hl 2 rfl) ?_
          refine lv_if_lt (tgt := 89) (pc := 41) hx hb dX8_copy_41 (by decide) (fun c41 => ?_) (fun c41 => ?_)
          · have hf := ft hf c41
            exact w_X8_copy_89 C  H locs S8 ls  hP hD hS (lv_sub hl [0] rfl) hf
          · have hf := ff hf c41
            refine lv_iload (pc := 44) hx hb dX8_copy_44 (lv_at hl 4 rfl) ?_
            refine lv_if_lt (tgt := 89) (pc := 46) hx hb dX8_copy_46 (by decide) (fun c46 => ?_) (fun c46 => ?_)
            · have hf := ft hf c46
              exact w_X8_copy_89 C  H locs S8 ls  hP hD hS (lv_sub hl [0] rfl) hf
            · have hf := ff hf c46
              refine lv_iload (pc := 49) hx hb dX8_copy_49 (lv_at hl 5 rfl) ?_
              refine lv_if_lt (tgt := 89) (pc := 51) hx hb dX8_copy_51 (by decide) (fun c51 => ?_) (fun c51 => ?_)
              · have hf := ft hf c51
                exact w_X8_copy_89 C  H locs S8 ls  hP hD hS (lv_sub hl [0] rfl) hf
              · have hf := ff hf c51
                refine lv_iload_n (pc := 54) hx hb dX8_copy_54 rfl (lv_at hl 2 rfl) ?_
                refine lv_i2l (pc := 55) hx hb dX8_copy_55 rfl ?_
                refine lv_iload (pc := 56) hx hb dX8_copy_56 (lv_at hl 5 rfl) ?_
                refine lv_i2l (pc := 58) hx hb dX8_copy_58 rfl ?_
                refine lv_ladd (pc := 59) hx hb dX8_copy_59 ?_
                refine lv_aload_n (pc := 60) hx hb dX8_copy_60 rfl (lv_at hl 0 rfl) ?_
                refine va_get (D := g.1) (ci := 8) (v := .ref (g.2.2.2 8 6)) (C := RX8) (T := TX8) (N := 47) (pc := 61) hx hb hts (fun _ h => List.mem_cons_of_mem _ (List.mem_append_right _ h)) hown hK hP 0 rfl rfl 6 (by decide) (hts _ q_X8_copy_2) (fun _ h9 => h9) rfl dX8_copy_61 ?_
                refine lv_iload_n (pc := 64) hx hb dX8_copy_64 rfl (lv_at hl 1 rfl) ?_
                obtain ⟨b65, hf⟩ := gdE hf
                refine va_iald (D := g.1) (tys := tyl g) (f := (S8.2.2 6)) (pc := 65) hx hb hK hP 2 0 rfl rfl (inbV b65) dX8_copy_65 ?_
                refine lv_i2l (pc := 66) hx hb dX8_copy_66 rfl ?_
                refine W.lcmp (pc := 67) hx hb dX8_copy_67 ?_
                refine lv_if_gt (tgt := 89) (pc := 68) hx hb dX8_copy_68 (by decide) (fun c68 => ?_) (fun c68 => ?_)
                · have hf := ft hf c68
                  exact w_X8_copy_89 C  H locs S8 ls  hP hD hS (lv_sub hl [0] rfl) hf
                · have hf := ff hf c68
                  refine lv_iload (pc := 71) hx hb dX8_copy_71 (lv_at hl 4 rfl) ?_
                  refine lv_i2l (pc := 73) hx hb dX8_copy_73 rfl ?_
                  refine lv_iload (pc := 74) hx hb dX8_copy_74 (lv_at hl 5 rfl) ?_
                  refine lv_i2l (pc := 76) hx hb dX8_copy_76 rfl ?_
                  refine lv_ladd (pc := 77) hx hb dX8_copy_77 ?_
                  refine lv_aload_n (pc := 78) hx hb dX8_copy_78 rfl (lv_at hl 0 rfl) ?_
                  refine va_get (D := g.1) (ci := 8) (v := .ref (g.2.2.2 8 6)) (C := RX8) (T := TX8) (N := 47) (pc := 79) hx hb hts (fun _ h => List.mem_cons_of_mem _ (List.mem_append_right _ h)) hown hK hP 0 rfl rfl 6 (by decide) (hts _ q_X8_copy_2) (fun _ h9 => h9) rfl dX8_copy_79 ?_
                  refine lv_iload_n (pc := 82) hx hb dX8_copy_82 rfl (lv_at hl 3 rfl) ?_
                  obtain ⟨b83, hf⟩ := gdE hf
                  refine va_iald (D := g.1) (tys := tyl g) (f := (S8.2.2 6)) (pc := 83) hx hb hK hP 2 0 rfl rfl (inbV b83) dX8_copy_83 ?_
                  refine lv_i2l (pc := 84) hx hb dX8_copy_84 rfl ?_
                  refine W.lcmp (pc := 85) hx hb dX8_copy_85 ?_
                  refine lv_if_le (tgt := 95) (pc := 86) hx hb dX8_copy_86 (by decide) (fun c86 => ?_) (fun c86 => ?_)
                  · have hf := ft hf c86
                    refine lv_iconst (v := 0) (pc := 95) hx hb dX8_copy_95 (by decide) ?_
                    refine lv_istore (lv' := [(6, .int 0), (0, .ref (g.2.2.1 8)), (1, .int x1), (2, .int x2), (3, .int x3), (4, .int x4), (5, .int x5)]) (pc := 96) hx hb dX8_copy_96 hl (by decide) rfl (fun ls hl => ?_)
                    exact w_X8_copy_98 C  N H locs S8 ls x1 x2 x3 x4 x5 0 hP hD hS (lv_sub hl [1, 2, 3, 4, 5, 6, 0] rfl) hf
                  · have hf := ff hf c86
                    exact w_X8_copy_89 C  H locs S8 ls  hP hD hS (lv_sub hl [0] rfl) hf
        · have hf := ff hf c31
          exact w_X8_copy_34 C  H locs S8 ls  hP hD hS (lv_sub hl [0] rfl) hf
    · have hf := ft hf c11
      refine lv_iconst (v := (-1)) (pc := 14) hx hb dX8_copy_14 (by decide) ?_
      have hf := Option.some.inj hf
      subst hf
      exact W.iret (v := (-1)) hx hb hr (fun t ht hW => ⟨⟨_, (), rfl, rfl, by rw [ht]; exact hP, va_K.moved hW.alike hK, hD⟩, hS.F ht⟩) hS.2.2 dX8_copy_15
theorem q_X8_offAt_0 : (.fieldLink RX8 13 "PictureCourtModel" "sizes" "[I" : Cond) ∈ wsX8_offAt := by decide +kernel
theorem q_X8_offAt_1 : (.fieldLink RX8 16 "PictureCourtModel" "rows" "[B" : Cond) ∈ wsX8_offAt := by decide +kernel
theorem h_X8_offAt : yX8_offAt.cls = RX8 ∧ yX8_offAt.cls ≠ "java/lang/invoke/MethodHandle" ∧ yX8_offAt.cls ≠ "java/lang/invoke/VarHandle" ∧ (parseMethodDescriptor yX8_offAt.desc).map (fun d => d.parameters.length) = some 3 := by decide +kernel
set_option maxHeartbeats 4000000 in
set_option maxRecDepth 100000 in
theorem w_X8_offAt_61 {p : Program} {l : Launch} {e : Env} {s : State} {m : MethodId} {args : Array Value} {below : List Frame} {meth : Method} {c : Code} {g : En} {N : Nat} {S8 : St} {res : Int32} (C : cxr g (wd_8 g S8) cX8_offAt 7 (some .int) wsX8_offAt RX8 p s m args meth c) (k6 : Int32 → Int32 → Int32 → Int32 → Int32 → Option (Int32)) (H6 : ∀ (ls : Array Slot) (x1 : Int32) (x2 : Int32) (x3 : Int32) (x4 : Int32) (x5 : Int32), lv_has ls 7 [(0, .ref (g.2.2.1 8)), (1, .int x1), (2, .int x2), (3, .int x3), (4, .int x4), (5, .int x5)] → k6 x1 x2 x3 x4 x5 = some res → W p l e (headSpec wsX8_offAt { frames := 0, cells := 0, slots := 0, locals := 0 }).room s m args below meth c s.heap [] 0 0 (MQ below (vp_Si (fun r => r = res)) args s 0 0 (fun _ => False)) (F0 m 6 ls [])) : ∀ (ls : Array Slot) (x1 : Int32) (x2 : Int32) (x3 : Int32) (x5 : Int32) (t0 : Int32) (t1 : Int32), lv_has ls 7 [(0, .ref (g.2.2.1 8)), (1, .int x1), (2, .int x2), (3, .int x3), (5, .int x5)] → f_X8_offAt_61 N S8 k6 x1 x2 x3 x5 t0 t1 = some res → W p l e (headSpec wsX8_offAt { frames := 0, cells := 0, slots := 0, locals := 0 }).room s m args below meth c s.heap [] 0 0 (MQ below (vp_Si (fun r => r = res)) args s 0 0 (fun _ => False)) (F0 m 61 ls [.int t0, .int t1]) := by
  intro ls x1 x2 x3 x5 t0 t1 hl hf
  obtain ⟨⟨hx, hb, hr, hml, hown, hts, hlk⟩, hK, hP⟩ := id C
  unfold f_X8_offAt_61 at hf
  refine lv_iadd (pc := 61) hx hb dX8_offAt_61 ?_
  refine lv_istore (lv' := [(4, .int (t1 + t0)), (0, .ref (g.2.2.1 8)), (1, .int x1), (2, .int x2), (3, .int x3), (5, .int x5)]) (pc := 62) hx hb dX8_offAt_62 hl (by decide) rfl (fun ls hl => ?_)
  refine lv_iinc (v := (x5 + 1)) (lv' := [(5, .int (x5 + 1)), (4, .int (t1 + t0)), (0, .ref (g.2.2.1 8)), (1, .int x1), (2, .int x2), (3, .int x3)]) (pc := 64) hx hb dX8_offAt_64 hl (k := 5) rfl rfl (by decide) rfl (fun ls hl => ?_)
  refine lv_goto (tgt := 6) (pc := 67) hx hb dX8_offAt_67 (by decide) ?_
  exact H6 ls x1 x2 x3 (t1 + t0) (x5 + 1) (lv_sub hl [2, 3, 4, 5, 1, 0] rfl) hf
set_option maxHeartbeats 4000000 in
set_option maxRecDepth 100000 in
theorem w_X8_offAt_6_b {p : Program} {l : Launch} {e : Env} {s : State} {m : MethodId} {args : Array Value} {below : List Frame} {meth : Method} {c : Code} {g : En} {N : Nat} {S8 : St} {res : Int32} (C : cxr g (wd_8 g S8) cX8_offAt 7 (some .int) wsX8_offAt RX8 p s m args meth c) (k6 : Int32 → Int32 → Int32 → Int32 → Int32 → Option (Int32)) (H6 : ∀ (ls : Array Slot) (x1 : Int32) (x2 : Int32) (x3 : Int32) (x4 : Int32) (x5 : Int32), lv_has ls 7 [(0, .ref (g.2.2.1 8)), (1, .int x1), (2, .int x2), (3, .int x3), (4, .int x4), (5, .int x5)] → k6 x1 x2 x3 x4 x5 = some res → W p l e (headSpec wsX8_offAt { frames := 0, cells := 0, slots := 0, locals := 0 }).room s m args below meth c s.heap [] 0 0 (MQ below (vp_Si (fun r => r = res)) args s 0 0 (fun _ => False)) (F0 m 6 ls [])) : ∀ (ls : Array Slot) (x1 : Int32) (x2 : Int32) (x3 : Int32) (x4 : Int32) (x5 : Int32), lv_has ls 7 [(0, .ref (g.2.2.1 8)), (1, .int x1), (2, .int x2), (3, .int x3), (4, .int x4), (5, .int x5)] → f_X8_offAt_6_b N S8  k6 x1 x2 x3 x4 x5 = some res → W p l e (headSpec wsX8_offAt { frames := 0, cells := 0, slots := 0, locals := 0 }).room s m args below meth c s.heap [] 0 0 (MQ below (vp_Si (fun r => r = res)) args s 0 0 (fun _ => False)) (F0 m 6 ls []) := by
  intro ls x1 x2 x3 x4 x5 hl hf
  obtain ⟨⟨hx, hb, hr, hml, hown, hts, hlk⟩, hK, hP⟩ := id C
  unfold f_X8_offAt_6_b at hf
  refine lv_iload (pc := 6) hx hb dX8_offAt_6 (lv_at hl 5 rfl) ?_
  refine lv_aload_n (pc := 8) hx hb dX8_offAt_8 rfl (lv_at hl 0 rfl) ?_
  refine va_get (D := g.1) (ci := 8) (v := .ref (g.2.2.2 8 6)) (C := RX8) (T := TX8) (N := 47) (pc := 9) hx hb hts (fun _ h => List.mem_cons_of_mem _ (List.mem_append_right _ h)) hown hK hP 0 rfl rfl 6 (by decide) (hts _ q_X8_offAt_0) (fun _ h9 => h9) rfl dX8_offAt_9 ?_
  refine lv_iload_n (pc := 12) hx hb dX8_offAt_12 rfl (lv_at hl 1 rfl) ?_
  obtain ⟨b13, hf⟩ := gdE hf
  refine va_iald (D := g.1) (tys := tyl g) (f := (S8.2.2 6)) (pc := 13) hx hb hK hP 2 0 rfl rfl (inbV b13) dX8_offAt_13 ?_
  refine lv_icmp_ge (tgt := 70) (pc := 14) hx hb dX8_offAt_14 (by decide) (fun c14 => ?_) (fun c14 => ?_)
  · have hf := ft hf c14
    refine lv_iload (pc := 70) hx hb dX8_offAt_70 (lv_at hl 4 rfl) ?_
    have hf := Option.some.inj hf
    subst hf
    exact W.iret (v := x4) hx hb hr (fun t ht hW => ⟨_, rfl, rfl, ht⟩) (fun _ h => by cases h) dX8_offAt_72
  · have hf := ff hf c14
    refine lv_aload_n (pc := 17) hx hb dX8_offAt_17 rfl (lv_at hl 0 rfl) ?_
    refine va_get (D := g.1) (ci := 8) (v := .ref (g.2.2.2 8 7)) (C := RX8) (T := TX8) (N := 47) (pc := 18) hx hb hts (fun _ h => List.mem_cons_of_mem _ (List.mem_append_right _ h)) hown hK hP 0 rfl rfl 7 (by decide) (hts _ q_X8_offAt_1) (fun _ h9 => h9) rfl dX8_offAt_18 ?_
    refine lv_bipush (v := 40) (pc := 21) hx hb dX8_offAt_21 (by decide) ?_
    refine lv_iload_n (pc := 23) hx hb dX8_offAt_23 rfl (lv_at hl 1 rfl) ?_
    refine lv_imul (pc := 24) hx hb dX8_offAt_24 ?_
    refine lv_iload (pc := 25) hx hb dX8_offAt_25 (lv_at hl 5 rfl) ?_
    refine lv_iadd (pc := 27) hx hb dX8_offAt_27 ?_
    obtain ⟨b28, hf⟩ := gdE hf
    refine va_bald (D := g.1) (tys := tyl g) (f := (S8.2.2 7)) (pc := 28) hx hb hK hP 3 1 rfl rfl (inbV b28) dX8_offAt_28 ?_
    refine lv_aload_n (pc := 29) hx hb dX8_offAt_29 rfl (lv_at hl 0 rfl) ?_
    refine va_get (D := g.1) (ci := 8) (v := .ref (g.2.2.2 8 7)) (C := RX8) (T := TX8) (N := 47) (pc := 30) hx hb hts (fun _ h => List.mem_cons_of_mem _ (List.mem_append_right _ h)) hown hK hP 0 rfl rfl 7 (by decide) (hts _ q_X8_offAt_1) (fun _ h9 => h9) rfl dX8_offAt_30 ?_
    refine lv_bipush (v := 40) (pc := 33) hx hb dX8_offAt_33 (by decide) ?_
    refine lv_iload_n (pc := 35) hx hb dX8_offAt_35 rfl (lv_at hl 2 rfl) ?_
    refine lv_imul (pc := 36) hx hb dX8_offAt_36 ?_
    refine lv_iload_n (pc := 37) hx hb dX8_offAt_37 rfl (lv_at hl 3 rfl) ?_
    refine lv_iadd (pc := 38) hx hb dX8_offAt_38 ?_
    refine lv_iload (pc := 39) hx hb dX8_offAt_39 (lv_at hl 5 rfl) ?_
    refine lv_iadd (pc := 41) hx hb dX8_offAt_41 ?_
    obtain ⟨b42, hf⟩ := gdE hf
    refine va_bald (D := g.1) (tys := tyl g) (f := (S8.2.2 7)) (pc := 42) hx hb hK hP 3 1 rfl rfl (inbV b42) dX8_offAt_42 ?_
    refine lv_isub (pc := 43) hx hb dX8_offAt_43 ?_
    refine lv_istore (lv' := [(6, .int (((S8.2.2 7) (Int32.toNatClampNeg ((40 * x1) + x5))) - ((S8.2.2 7) (Int32.toNatClampNeg (((40 * x2) + x3) + x5))))), (0, .ref (g.2.2.1 8)), (1, .int x1), (2, .int x2), (3, .int x3), (4, .int x4), (5, .int x5)]) (pc := 44) hx hb dX8_offAt_44 hl (by decide) rfl (fun ls hl => ?_)
    refine lv_iload (pc := 46) hx hb dX8_offAt_46 (lv_at hl 5 rfl) ?_
    refine lv_iload (pc := 48) hx hb dX8_offAt_48 (lv_at hl 0 rfl) ?_
    refine lv_if_ge (tgt := 59) (pc := 50) hx hb dX8_offAt_50 (by decide) (fun c50 => ?_) (fun c50 => ?_)
    · have hf := ft hf c50
      refine lv_iload (pc := 59) hx hb dX8_offAt_59 (lv_at hl 0 rfl) ?_
      exact w_X8_offAt_61 C k6 H6 ls x1 x2 x3 x5 (((S8.2.2 7) (Int32.toNatClampNeg ((40 * x1) + x5))) - ((S8.2.2 7) (Int32.toNatClampNeg (((40 * x2) + x3) + x5)))) x4 (lv_sub hl [1, 2, 3, 4, 6] rfl) hf
    · have hf := ff hf c50
      refine lv_iload (pc := 53) hx hb dX8_offAt_53 (lv_at hl 0 rfl) ?_
      refine lv_ineg (pc := 55) hx hb dX8_offAt_55 ?_
      refine lv_goto (tgt := 61) (pc := 56) hx hb dX8_offAt_56 (by decide) ?_
      exact w_X8_offAt_61 C k6 H6 ls x1 x2 x3 x5 (-(((S8.2.2 7) (Int32.toNatClampNeg ((40 * x1) + x5))) - ((S8.2.2 7) (Int32.toNatClampNeg (((40 * x2) + x3) + x5))))) x4 (lv_sub hl [1, 2, 3, 4, 6] rfl) hf
set_option maxHeartbeats 4000000 in
set_option maxRecDepth 100000 in
theorem w_X8_offAt_6 {p : Program} {l : Launch} {e : Env} {s : State} {m : MethodId} {args : Array Value} {below : List Frame} {meth : Method} {c : Code} {g : En} {N : Nat} {S8 : St} {res : Int32} (C : cxr g (wd_8 g S8) cX8_offAt 7 (some .int) wsX8_offAt RX8 p s m args meth c) : ∀ (n : Nat), ∀ (ls : Array Slot) (x1 : Int32) (x2 : Int32) (x3 : Int32) (x4 : Int32) (x5 : Int32), lv_has ls 7 [(0, .ref (g.2.2.1 8)), (1, .int x1), (2, .int x2), (3, .int x3), (4, .int x4), (5, .int x5)] → f_X8_offAt_6 N S8  n x1 x2 x3 x4 x5 = some res → W p l e (headSpec wsX8_offAt { frames := 0, cells := 0, slots := 0, locals := 0 }).room s m args below meth c s.heap [] 0 0 (MQ below (vp_Si (fun r => r = res)) args s 0 0 (fun _ => False)) (F0 m 6 ls []) := by
  intro n
  induction n with
  | zero =>
    intro ls x1 x2 x3 x4 x5 hl hf
    have hf : (none : Option (Int32)) = some res := hf
    cases hf
  | succ n ih =>
    intro ls x1 x2 x3 x4 x5 hl hf
    exact w_X8_offAt_6_b C  (fun y0 y1 y2 y3 y4 => f_X8_offAt_6 N S8  n y0 y1 y2 y3 y4) ih ls x1 x2 x3 x4 x5 hl hf
set_option maxHeartbeats 4000000 in
set_option maxRecDepth 100000 in
theorem c_X8_offAt (l : Launch) (g : En) (N : Nat) (S8 : St) (x1 : Int32) (x2 : Int32) (x3 : Int32) (res : Int32) (hf : f_X8_offAt N S8 x1 x2 x3 = some res) : Met l yX8_offAt wsX8_offAt { frames := 0, cells := 0, slots := 0, locals := 0 } (roP g (wd_8 g S8) [.ref (g.2.2.1 8), .int x1, .int x2, .int x3]) (vp_Si (fun r => r = res)) 0 0 (fun _ => False) := by
  refine Met.ofW (cc := cX8_offAt) (maxL := 7) (ret := (some .int)) (by decide) rfl ?_
  intro p e s m args below meth c s₁ B hml hv
  obtain ⟨rfl, hP, hK⟩ := hv
  have hx := B.exec
  have hb := B.bytes
  have hr := B.returns
  have hts := atoms_spec (ws := wsX8_offAt) B.pre
  have hown : s.vm.findClass RX8 = some m.cls := findClass_of_methodNamed B.named
  have hlk := B.notSynchronized
  have C : cxr g (wd_8 g S8) cX8_offAt 7 (some .int) wsX8_offAt RX8 p s m ([.ref (g.2.2.1 8), .int x1, .int x2, .int x3] : List Value).toArray meth c := ⟨⟨hx, hb, hr, hml, hown, hts, hlk⟩, hK, hP⟩
  have hl := lv_entry [.ref (g.2.2.1 8), .int x1, .int x2, .int x3] (n := 7) (Nat.le_of_ble_eq_true rfl)
  rw [lg_entry_eq]
  generalize (lg_sl [.ref (g.2.2.1 8), .int x1, .int x2, .int x3] ++ List.replicate (7 - (lg_sl [.ref (g.2.2.1 8), .int x1, .int x2, .int x3]).length) Slot.unset).toArray = ls at hl ⊢
  have hl : lv_has ls 7 [(0, .ref (g.2.2.1 8)), (1, .int x1), (2, .int x2), (3, .int x3)] := hl
  unfold f_X8_offAt at hf
  refine lv_iconst (v := 0) (pc := 0) hx hb dX8_offAt_0 (by decide) ?_
  refine lv_istore (lv' := [(4, .int 0), (0, .ref (g.2.2.1 8)), (1, .int x1), (2, .int x2), (3, .int x3)]) (pc := 1) hx hb dX8_offAt_1 hl (by decide) rfl (fun ls hl => ?_)
  refine lv_iconst (v := 0) (pc := 3) hx hb dX8_offAt_3 (by decide) ?_
  refine lv_istore (lv' := [(5, .int 0), (4, .int 0), (0, .ref (g.2.2.1 8)), (1, .int x1), (2, .int x2), (3, .int x3)]) (pc := 4) hx hb dX8_offAt_4 hl (by decide) rfl (fun ls hl => ?_)
  exact w_X8_offAt_6 C  N ls x1 x2 x3 0 0 (lv_sub hl [2, 3, 4, 5, 1, 0] rfl) hf
theorem q_X8_placeOf_0 : (.fieldLink RX8 13 "PictureCourtModel" "sizes" "[I" : Cond) ∈ wsX8_placeOf := by decide +kernel
theorem h_X8_placeOf : yX8_placeOf.cls = RX8 ∧ yX8_placeOf.cls ≠ "java/lang/invoke/MethodHandle" ∧ yX8_placeOf.cls ≠ "java/lang/invoke/VarHandle" ∧ (parseMethodDescriptor yX8_placeOf.desc).map (fun d => d.parameters.length) = some 2 := by decide +kernel
set_option maxHeartbeats 4000000 in
set_option maxRecDepth 100000 in
theorem w_X8_placeOf_47 {p : Program} {l : Launch} {e : Env} {s : State} {m : MethodId} {args : Array Value} {below : List Frame} {meth : Method} {c : Code} {g : En} {N : Nat} {S8 : St} {res : Int32} (C : cxr g (wd_8 g S8) cX8_placeOf 5 (some .int) wsX8_placeOf RX8 p s m args meth c) (k5 : Int32 → Int32 → Int32 → Int32 → Option (Int32)) (H5 : ∀ (ls : Array Slot) (x1 : Int32) (x2 : Int32) (x3 : Int32) (x4 : Int32), lv_has ls 5 [(0, .ref (g.2.2.1 8)), (1, .int x1), (2, .int x2), (3, .int x3), (4, .int x4)] → k5 x1 x2 x3 x4 = some res → W p l e (headSpec wsX8_placeOf { frames := 1, cells := 0, slots := 0, locals := 26 }).room s m args below meth c s.heap [] 0 0 (MQ below (vp_Si (fun r => r = res)) args s 0 0 (fun _ => False)) (F0 m 5 ls [])) : ∀ (ls : Array Slot) (x1 : Int32) (x2 : Int32) (x4 : Int32) (t0 : Int32), lv_has ls 5 [(0, .ref (g.2.2.1 8)), (1, .int x1), (2, .int x2), (4, .int x4)] → f_X8_placeOf_47 N S8 k5 x1 x2 x4 t0 = some res → W p l e (headSpec wsX8_placeOf { frames := 1, cells := 0, slots := 0, locals := 26 }).room s m args below meth c s.heap [] 0 0 (MQ below (vp_Si (fun r => r = res)) args s 0 0 (fun _ => False)) (F0 m 47 ls [.int t0]) := by
  intro ls x1 x2 x4 t0 hl hf
  obtain ⟨⟨hx, hb, hr, hml, hown, hts, hlk⟩, hK, hP⟩ := id C
  unfold f_X8_placeOf_47 at hf
  refine lv_istore_n (lv' := [(3, .int t0), (0, .ref (g.2.2.1 8)), (1, .int x1), (2, .int x2), (4, .int x4)]) (pc := 47) hx hb dX8_placeOf_47 rfl hl (by decide) rfl (fun ls hl => ?_)
  refine lv_iinc (v := (x4 + 1)) (lv' := [(4, .int (x4 + 1)), (3, .int t0), (0, .ref (g.2.2.1 8)), (1, .int x1), (2, .int x2)]) (pc := 48) hx hb dX8_placeOf_48 hl (k := 4) rfl rfl (by decide) rfl (fun ls hl => ?_)
  refine lv_goto (tgt := 5) (pc := 51) hx hb dX8_placeOf_51 (by decide) ?_
  exact H5 ls x1 x2 t0 (x4 + 1) (lv_sub hl [2, 3, 4, 1, 0] rfl) hf
set_option maxHeartbeats 4000000 in
set_option maxRecDepth 100000 in
theorem w_X8_placeOf_5_b {p : Program} {l : Launch} {e : Env} {s : State} {m : MethodId} {args : Array Value} {below : List Frame} {meth : Method} {c : Code} {g : En} {N : Nat} {S8 : St} {res : Int32} (C : cxr g (wd_8 g S8) cX8_placeOf 5 (some .int) wsX8_placeOf RX8 p s m args meth c) (k5 : Int32 → Int32 → Int32 → Int32 → Option (Int32)) (H5 : ∀ (ls : Array Slot) (x1 : Int32) (x2 : Int32) (x3 : Int32) (x4 : Int32), lv_has ls 5 [(0, .ref (g.2.2.1 8)), (1, .int x1), (2, .int x2), (3, .int x3), (4, .int x4)] → k5 x1 x2 x3 x4 = some res → W p l e (headSpec wsX8_placeOf { frames := 1, cells := 0, slots := 0, locals := 26 }).room s m args below meth c s.heap [] 0 0 (MQ below (vp_Si (fun r => r = res)) args s 0 0 (fun _ => False)) (F0 m 5 ls [])) : ∀ (ls : Array Slot) (x1 : Int32) (x2 : Int32) (x3 : Int32) (x4 : Int32), lv_has ls 5 [(0, .ref (g.2.2.1 8)), (1, .int x1), (2, .int x2), (3, .int x3), (4, .int x4)] → f_X8_placeOf_5_b N S8  k5 x1 x2 x3 x4 = some res → W p l e (headSpec wsX8_placeOf { frames := 1, cells := 0, slots := 0, locals := 26 }).room s m args below meth c s.heap [] 0 0 (MQ below (vp_Si (fun r => r = res)) args s 0 0 (fun _ => False)) (F0 m 5 ls []) := by
  intro ls x1 x2 x3 x4 hl hf
  obtain ⟨⟨hx, hb, hr, hml, hown, hts, hlk⟩, hK, hP⟩ := id C
  unfold f_X8_placeOf_5_b at hf
  refine lv_iload (pc := 5) hx hb dX8_placeOf_5 (lv_at hl 4 rfl) ?_
  refine lv_aload_n (pc := 7) hx hb dX8_placeOf_7 rfl (lv_at hl 0 rfl) ?_
  refine va_get (D := g.1) (ci := 8) (v := .ref (g.2.2.2 8 6)) (C := RX8) (T := TX8) (N := 47) (pc := 8) hx hb hts (fun _ h => List.mem_cons_of_mem _ (List.mem_append_right _ h)) hown hK hP 0 rfl rfl 6 (by decide) (hts _ q_X8_placeOf_0) (fun _ h9 => h9) rfl dX8_placeOf_8 ?_
  refine lv_iload_n (pc := 11) hx hb dX8_placeOf_11 rfl (lv_at hl 1 rfl) ?_
  obtain ⟨b12, hf⟩ := gdE hf
  refine va_iald (D := g.1) (tys := tyl g) (f := (S8.2.2 6)) (pc := 12) hx hb hK hP 2 0 rfl rfl (inbV b12) dX8_placeOf_12 ?_
  refine lv_iadd (pc := 13) hx hb dX8_placeOf_13 ?_
  refine lv_aload_n (pc := 14) hx hb dX8_placeOf_14 rfl (lv_at hl 0 rfl) ?_
  refine va_get (D := g.1) (ci := 8) (v := .ref (g.2.2.2 8 6)) (C := RX8) (T := TX8) (N := 47) (pc := 15) hx hb hts (fun _ h => List.mem_cons_of_mem _ (List.mem_append_right _ h)) hown hK hP 0 rfl rfl 6 (by decide) (hts _ q_X8_placeOf_0) (fun _ h9 => h9) rfl dX8_placeOf_15 ?_
  refine lv_iload_n (pc := 18) hx hb dX8_placeOf_18 rfl (lv_at hl 2 rfl) ?_
  obtain ⟨b19, hf⟩ := gdE hf
  refine va_iald (D := g.1) (tys := tyl g) (f := (S8.2.2 6)) (pc := 19) hx hb hK hP 2 0 rfl rfl (inbV b19) dX8_placeOf_19 ?_
  refine lv_icmp_gt (tgt := 54) (pc := 20) hx hb dX8_placeOf_20 (by decide) (fun c20 => ?_) (fun c20 => ?_)
  · have hf := ft hf c20
    refine lv_iload_n (pc := 54) hx hb dX8_placeOf_54 rfl (lv_at hl 3 rfl) ?_
    have hf := Option.some.inj hf
    subst hf
    exact W.iret (v := x3) hx hb hr (fun t ht hW => ⟨_, rfl, rfl, ht⟩) (fun _ h => by cases h) dX8_placeOf_55
  · have hf := ff hf c20
    refine lv_aload_n (pc := 23) hx hb dX8_placeOf_23 rfl (lv_at hl 0 rfl) ?_
    refine lv_iload_n (pc := 24) hx hb dX8_placeOf_24 rfl (lv_at hl 1 rfl) ?_
    refine lv_iload_n (pc := 25) hx hb dX8_placeOf_25 rfl (lv_at hl 2 rfl) ?_
    refine lv_iload (pc := 26) hx hb dX8_placeOf_26 (lv_at hl 4 rfl) ?_
    obtain ⟨r28, e28, hf⟩ := bdE hf
    refine krI (g := g) (wc := (wd_8 g S8)) (pc := 28) (As := [.int x1, .int x2, .int x4]) (rest := []) ⟨hx, hb, hml, hown, hts⟩ (c_X8_offAt l g N S8 x1 x2 x4 r28 e28) (cwV 3 hts gX8_placeOf_X8_offAt rfl rfl rfl h_X8_offAt ⟨Nat.le_of_ble_eq_true rfl, Nat.le_of_ble_eq_true rfl⟩) hK hP rfl rfl rfl hl.1 rfl (Nat.le_of_ble_eq_true rfl) dX8_placeOf_28 ⟨Nat.zero_le _, Nat.zero_le _⟩ ?_
    refine lv_aload_n (pc := 31) hx hb dX8_placeOf_31 rfl (lv_at hl 0 rfl) ?_
    refine lv_iload_n (pc := 32) hx hb dX8_placeOf_32 rfl (lv_at hl 1 rfl) ?_
    refine lv_iload_n (pc := 33) hx hb dX8_placeOf_33 rfl (lv_at hl 2 rfl) ?_
    refine lv_iload_n (pc := 34) hx hb dX8_placeOf_34 rfl (lv_at hl 3 rfl) ?_
    obtain ⟨r35, e35, hf⟩ := bdE hf
    refine krI (g := g) (wc := (wd_8 g S8)) (pc := 35) (As := [.int x1, .int x2, .int x3]) (rest := [.int r28]) ⟨hx, hb, hml, hown, hts⟩ (c_X8_offAt l g N S8 x1 x2 x3 r35 e35) (cwV 3 hts gX8_placeOf_X8_offAt rfl rfl rfl h_X8_offAt ⟨Nat.le_of_ble_eq_true rfl, Nat.le_of_ble_eq_true rfl⟩) hK hP rfl rfl rfl hl.1 rfl (Nat.le_of_ble_eq_true rfl) dX8_placeOf_35 ⟨Nat.zero_le _, Nat.zero_le _⟩ ?_
    refine lv_icmp_ge (tgt := 46) (pc := 38) hx hb dX8_placeOf_38 (by decide) (fun c38 => ?_) (fun c38 => ?_)
    · have hf := ft hf c38
      refine lv_iload_n (pc := 46) hx hb dX8_placeOf_46 rfl (lv_at hl 3 rfl) ?_
      exact w_X8_placeOf_47 C k5 H5 ls x1 x2 x4 x3 (lv_sub hl [0, 1, 2, 4] rfl) hf
    · have hf := ff hf c38
      refine lv_iload (pc := 41) hx hb dX8_placeOf_41 (lv_at hl 4 rfl) ?_
      refine lv_goto (tgt := 47) (pc := 43) hx hb dX8_placeOf_43 (by decide) ?_
      exact w_X8_placeOf_47 C k5 H5 ls x1 x2 x4 x4 (lv_sub hl [0, 1, 2, 4] rfl) hf
set_option maxHeartbeats 4000000 in
set_option maxRecDepth 100000 in
theorem w_X8_placeOf_5 {p : Program} {l : Launch} {e : Env} {s : State} {m : MethodId} {args : Array Value} {below : List Frame} {meth : Method} {c : Code} {g : En} {N : Nat} {S8 : St} {res : Int32} (C : cxr g (wd_8 g S8) cX8_placeOf 5 (some .int) wsX8_placeOf RX8 p s m args meth c) : ∀ (n : Nat), ∀ (ls : Array Slot) (x1 : Int32) (x2 : Int32) (x3 : Int32) (x4 : Int32), lv_has ls 5 [(0, .ref (g.2.2.1 8)), (1, .int x1), (2, .int x2), (3, .int x3), (4, .int x4)] → f_X8_placeOf_5 N S8  n x1 x2 x3 x4 = some res → W p l e (headSpec wsX8_placeOf { frames := 1, cells := 0, slots := 0, locals := 26 }).room s m args below meth c s.heap [] 0 0 (MQ below (vp_Si (fun r => r = res)) args s 0 0 (fun _ => False)) (F0 m 5 ls []) := by
  intro n
  induction n with
  | zero =>
    intro ls x1 x2 x3 x4 hl hf
    have hf : (none : Option (Int32)) = some res := hf
    cases hf
  | succ n ih =>
    intro ls x1 x2 x3 x4 hl hf
    exact w_X8_placeOf_5_b C  (fun y0 y1 y2 y3 => f_X8_placeOf_5 N S8  n y0 y1 y2 y3) ih ls x1 x2 x3 x4 hl hf
set_option maxHeartbeats 4000000 in
set_option maxRecDepth 100000 in
theorem c_X8_placeOf (l : Launch) (g : En) (N : Nat) (S8 : St) (x1 : Int32) (x2 : Int32) (res : Int32) (hf : f_X8_placeOf N S8 x1 x2 = some res) : Met l yX8_placeOf wsX8_placeOf { frames := 1, cells := 0, slots := 0, locals := 26 } (roP g (wd_8 g S8) [.ref (g.2.2.1 8), .int x1, .int x2]) (vp_Si (fun r => r = res)) 0 0 (fun _ => False) := by
  refine Met.ofW (cc := cX8_placeOf) (maxL := 5) (ret := (some .int)) (by decide) rfl ?_
  intro p e s m args below meth c s₁ B hml hv
  obtain ⟨rfl, hP, hK⟩ := hv
  have hx := B.exec
  have hb := B.bytes
  have hr := B.returns
  have hts := atoms_spec (ws := wsX8_placeOf) B.pre
  have hown : s.vm.findClass RX8 = some m.cls := findClass_of_methodNamed B.named
  have hlk := B.notSynchronized
  have C : cxr g (wd_8 g S8) cX8_placeOf 5 (some .int) wsX8_placeOf RX8 p s m ([.ref (g.2.2.1 8), .int x1, .int x2] : List Value).toArray meth c := ⟨⟨hx, hb, hr, hml, hown, hts, hlk⟩, hK, hP⟩
  have hl := lv_entry [.ref (g.2.2.1 8), .int x1, .int x2] (n := 5) (Nat.le_of_ble_eq_true rfl)
  rw [lg_entry_eq]
  generalize (lg_sl [.ref (g.2.2.1 8), .int x1, .int x2] ++ List.replicate (5 - (lg_sl [.ref (g.2.2.1 8), .int x1, .int x2]).length) Slot.unset).toArray = ls at hl ⊢
  have hl : lv_has ls 5 [(0, .ref (g.2.2.1 8)), (1, .int x1), (2, .int x2)] := hl
  unfold f_X8_placeOf at hf
  refine lv_iconst (v := 0) (pc := 0) hx hb dX8_placeOf_0 (by decide) ?_
  refine lv_istore_n (lv' := [(3, .int 0), (0, .ref (g.2.2.1 8)), (1, .int x1), (2, .int x2)]) (pc := 1) hx hb dX8_placeOf_1 rfl hl (by decide) rfl (fun ls hl => ?_)
  refine lv_iconst (v := 1) (pc := 2) hx hb dX8_placeOf_2 (by decide) ?_
  refine lv_istore (lv' := [(4, .int 1), (3, .int 0), (0, .ref (g.2.2.1 8)), (1, .int x1), (2, .int x2)]) (pc := 3) hx hb dX8_placeOf_3 hl (by decide) rfl (fun ls hl => ?_)
  exact w_X8_placeOf_5 C  N ls x1 x2 0 1 (lv_sub hl [2, 3, 4, 1, 0] rfl) hf
theorem q_X8_mayMatch_0 : (.fieldLink RX8 13 "PictureCourtModel" "sizes" "[I" : Cond) ∈ wsX8_mayMatch := by decide +kernel
theorem h_X8_mayMatch : yX8_mayMatch.cls = RX8 ∧ yX8_mayMatch.cls ≠ "java/lang/invoke/MethodHandle" ∧ yX8_mayMatch.cls ≠ "java/lang/invoke/VarHandle" ∧ (parseMethodDescriptor yX8_mayMatch.desc).map (fun d => d.parameters.length) = some 2 := by decide +kernel
set_option maxHeartbeats 4000000 in
set_option maxRecDepth 100000 in
theorem c_X8_mayMatch (l : Launch) (g : En) (N : Nat) (S8 : St) (x1 : Int32) (x2 : Int32) (res : Int32) (hf : f_X8_mayMatch N S8 x1 x2 = some res) : Met l yX8_mayMatch wsX8_mayMatch { frames := 0, cells := 0, slots := 0, locals := 0 } (roP g (wd_8 g S8) [.ref (g.2.2.1 8), .int x1, .int x2]) (vp_Si (fun r => r = res)) 0 0 (fun _ => False) := by
  refine Met.ofW (cc := cX8_mayMatch) (maxL := 3) (ret := (some .boolean)) (by decide) rfl ?_
  intro p e s m args below meth c s₁ B hml hv
  obtain ⟨rfl, hP, hK⟩ := hv
  have hx := B.exec
  have hb := B.bytes
  have hr := B.returns
  have hts := atoms_spec (ws := wsX8_mayMatch) B.pre
  have hown : s.vm.findClass RX8 = some m.cls := findClass_of_methodNamed B.named
  have hlk := B.notSynchronized
  have C : cxr g (wd_8 g S8) cX8_mayMatch 3 (some .boolean) wsX8_mayMatch RX8 p s m ([.ref (g.2.2.1 8), .int x1, .int x2] : List Value).toArray meth c := ⟨⟨hx, hb, hr, hml, hown, hts, hlk⟩, hK, hP⟩
  have hl := lv_entry [.ref (g.2.2.1 8), .int x1, .int x2] (n := 3) (Nat.le_of_ble_eq_true rfl)
  rw [lg_entry_eq]
  generalize (lg_sl [.ref (g.2.2.1 8), .int x1, .int x2] ++ List.replicate (3 - (lg_sl [.ref (g.2.2.1 8), .int x1, .int x2]).length) Slot.unset).toArray = ls at hl ⊢
  have hl : lv_has ls 3 [(0, .ref (g.2.2.1 8)), (1, .int x1), (2, .int x2)] := hl
  unfold f_X8_mayMatch at hf
  refine lv_aload_n (pc := 0) hx hb dX8_mayMatch_0 rfl (lv_at hl 0 rfl) ?_
  refine va_get (D := g.1) (ci := 8) (v := .ref (g.2.2.2 8 6)) (C := RX8) (T := TX8) (N := 47) (pc := 1) hx hb hts (fun _ h => List.mem_cons_of_mem _ (List.mem_append_right _ h)) hown hK hP 0 rfl rfl 6 (by decide) (hts _ q_X8_mayMatch_0) (fun _ h9 => h9) rfl dX8_mayMatch_1 ?_
  refine lv_iload_n (pc := 4) hx hb dX8_mayMatch_4 rfl (lv_at hl 1 rfl) ?_
  obtain ⟨b5, hf⟩ := gdE hf
  refine va_iald (D := g.1) (tys := tyl g) (f := (S8.2.2 6)) (pc := 5) hx hb hK hP 2 0 rfl rfl (inbV b5) dX8_mayMatch_5 ?_
  refine lv_if_le (tgt := 28) (pc := 6) hx hb dX8_mayMatch_6 (by decide) (fun c6 => ?_) (fun c6 => ?_)
  · have hf := ft hf c6
    refine lv_iconst (v := 0) (pc := 28) hx hb dX8_mayMatch_28 (by decide) ?_
    have hf := Option.some.inj hf
    subst hf
    exact W.zret (v := 0) hx hb hr rfl (fun t ht hW => ⟨_, rfl, rfl, ht⟩) (fun _ h => by cases h) dX8_mayMatch_29
  · have hf := ff hf c6
    refine lv_aload_n (pc := 9) hx hb dX8_mayMatch_9 rfl (lv_at hl 0 rfl) ?_
    refine va_get (D := g.1) (ci := 8) (v := .ref (g.2.2.2 8 6)) (C := RX8) (T := TX8) (N := 47) (pc := 10) hx hb hts (fun _ h => List.mem_cons_of_mem _ (List.mem_append_right _ h)) hown hK hP 0 rfl rfl 6 (by decide) (hts _ q_X8_mayMatch_0) (fun _ h9 => h9) rfl dX8_mayMatch_10 ?_
    refine lv_iload_n (pc := 13) hx hb dX8_mayMatch_13 rfl (lv_at hl 2 rfl) ?_
    obtain ⟨b14, hf⟩ := gdE hf
    refine va_iald (D := g.1) (tys := tyl g) (f := (S8.2.2 6)) (pc := 14) hx hb hK hP 2 0 rfl rfl (inbV b14) dX8_mayMatch_14 ?_
    refine lv_aload_n (pc := 15) hx hb dX8_mayMatch_15 rfl (lv_at hl 0 rfl) ?_
    refine va_get (D := g.1) (ci := 8) (v := .ref (g.2.2.2 8 6)) (C := RX8) (T := TX8) (N := 47) (pc := 16) hx hb hts (fun _ h => List.mem_cons_of_mem _ (List.mem_append_right _ h)) hown hK hP 0 rfl rfl 6 (by decide) (hts _ q_X8_mayMatch_0) (fun _ h9 => h9) rfl dX8_mayMatch_16 ?_
    refine lv_iload_n (pc := 19) hx hb dX8_mayMatch_19 rfl (lv_at hl 1 rfl) ?_
    obtain ⟨b20, hf⟩ := gdE hf
    refine va_iald (D := g.1) (tys := tyl g) (f := (S8.2.2 6)) (pc := 20) hx hb hK hP 2 0 rfl rfl (inbV b20) dX8_mayMatch_20 ?_
    refine lv_icmp_lt (tgt := 28) (pc := 21) hx hb dX8_mayMatch_21 (by decide) (fun c21 => ?_) (fun c21 => ?_)
    · have hf := ft hf c21
      refine lv_iconst (v := 0) (pc := 28) hx hb dX8_mayMatch_28 (by decide) ?_
      have hf := Option.some.inj hf
      subst hf
      exact W.zret (v := 0) hx hb hr rfl (fun t ht hW => ⟨_, rfl, rfl, ht⟩) (fun _ h => by cases h) dX8_mayMatch_29
    · have hf := ff hf c21
      refine lv_iconst (v := 1) (pc := 24) hx hb dX8_mayMatch_24 (by decide) ?_
      refine lv_goto (tgt := 29) (pc := 25) hx hb dX8_mayMatch_25 (by decide) ?_
      have hf := Option.some.inj hf
      subst hf
      exact W.zret (v := 1) hx hb hr rfl (fun t ht hW => ⟨_, rfl, rfl, ht⟩) (fun _ h => by cases h) dX8_mayMatch_29
theorem q_X8_match_0 : (.fieldLink RX8 13 "PictureCourtModel" "sizes" "[I" : Cond) ∈ wsX8_match := by decide +kernel
theorem h_X8_match : yX8_match.cls = RX8 ∧ yX8_match.cls ≠ "java/lang/invoke/MethodHandle" ∧ yX8_match.cls ≠ "java/lang/invoke/VarHandle" ∧ (parseMethodDescriptor yX8_match.desc).map (fun d => d.parameters.length) = some 2 := by decide +kernel
set_option maxHeartbeats 4000000 in
set_option maxRecDepth 100000 in
theorem w_X8_match_39 {p : Program} {l : Launch} {e : Env} {s : State} {m : MethodId} {args : Array Value} {below : List Frame} {meth : Method} {c : Code} {g : En} {A : Nat → Prop} {N : Nat} {res : Int32 × St} (C : cxw g A cX8_match 4 (some .int) wsX8_match RX8 p s m args meth c) : ∀ (H : Heap) (locs : List Loc) (S8 : St) (ls : Array Slot), va_P g.1 vwCl (wd_8 g S8) H → va_D A (wd_8 g S8) → va_S A s.heap H locs → lv_has ls 4 [(0, .ref (g.2.2.1 8))] → f_X8_match_39 N   S8 = some res → W p l e (headSpec wsX8_match { frames := 2, cells := 0, slots := 0, locals := 50 }).room s m args below meth c H locs 0 0 (MQ below (rwQi g (wd_8 g (res.2)) A (res.1)) args s 0 0 A) (F0 m 39 ls []) := by
  intro H locs S8 ls  hP hD hS hl hf
  obtain ⟨⟨hx, hb, hr, hml, hown, hts, hlk⟩, hK, hA⟩ := id C
  unfold f_X8_match_39 at hf
  refine lv_aload_n (pc := 39) hx hb dX8_match_39 rfl (lv_at hl 0 rfl) ?_
  refine lv_iconst (v := 1) (pc := 40) hx hb dX8_match_40 (by decide) ?_
  obtain ⟨r41, e41, hf⟩ := bdE hf
  refine kuI (g := g) (A := A) (W0 := (wd_8 g S8)) (w1 := (wd_8 g (r41.2))) (pc := 41) (As := [.int 1]) (rest := []) ⟨hx, hb, hml, hown, hts⟩ hK hA hP hD hS (c_X8_meets l g N H.size S8 1 r41 e41) (cwV 1 hts gX8_match_X8_meets rfl rfl rfl h_X8_meets ⟨Nat.le_of_ble_eq_true rfl, Nat.le_of_ble_eq_true rfl⟩) rfl rfl rfl hl.1 rfl (Nat.le_of_ble_eq_true rfl) dX8_match_41 ⟨Nat.zero_le _, Nat.zero_le _⟩ (fun H locs hP hD hS => ?_)
  have hf := Option.some.inj hf
  subst hf
  exact W.iret (v := (r41.1)) hx hb hr (fun t ht hW => ⟨⟨_, (), rfl, rfl, by rw [ht]; exact hP, va_K.moved hW.alike hK, hD⟩, hS.F ht⟩) hS.2.2 dX8_match_44
set_option maxHeartbeats 4000000 in
set_option maxRecDepth 100000 in
theorem c_X8_match (l : Launch) (g : En) (N : Nat) (sz : Nat) (S8 : St) (x1 : Int32) (x2 : Int32) (res : Int32 × St) (hf : f_X8_match N S8 x1 x2 = some res) : Met l yX8_match wsX8_match { frames := 2, cells := 0, slots := 0, locals := 50 } (rwP g (wd_8 g S8) sz [.ref (g.2.2.1 8), .int x1, .int x2]) (rwQi g (wd_8 g (res.2)) (va_A (wd_8 g S8) sz) (res.1)) 0 0 (va_A (wd_8 g S8) sz) := by
  refine Met.ofW (cc := cX8_match) (maxL := 4) (ret := (some .int)) (by decide) rfl ?_
  intro p e s m args below meth c s₁ B hml hv
  obtain ⟨rfl, hsz, hP, hK, hD0⟩ := hv
  have hx := B.exec
  have hb := B.bytes
  have hr := B.returns
  have hts := atoms_spec (ws := wsX8_match) B.pre
  have hown : s.vm.findClass RX8 = some m.cls := findClass_of_methodNamed B.named
  have hlk := B.notSynchronized
  subst hsz
  have hD := hD0.self (sz := s.heap.size)
  generalize hAe : va_A (wd_8 g S8) s.heap.size = A at hD ⊢
  have hA : ∀ q : Nat, s.heap.size ≤ q → A q := fun q h => by rw [← hAe]; exact Or.inr h
  have hS : va_S A s.heap s.heap [] := va_S.rf
  have C : cxw g A cX8_match 4 (some .int) wsX8_match RX8 p s m ([.ref (g.2.2.1 8), .int x1, .int x2] : List Value).toArray meth c := ⟨⟨hx, hb, hr, hml, hown, hts, hlk⟩, hK, hA⟩
  have hl := lv_entry [.ref (g.2.2.1 8), .int x1, .int x2] (n := 4) (Nat.le_of_ble_eq_true rfl)
  rw [lg_entry_eq]
  generalize (lg_sl [.ref (g.2.2.1 8), .int x1, .int x2] ++ List.replicate (4 - (lg_sl [.ref (g.2.2.1 8), .int x1, .int x2]).length) Slot.unset).toArray = ls at hl ⊢
  have hl : lv_has ls 4 [(0, .ref (g.2.2.1 8)), (1, .int x1), (2, .int x2)] := hl
  unfold f_X8_match at hf
  suffices K9 : ∀ (H : Heap) (locs : List Loc), va_P g.1 vwCl (wd_8 g S8) H → va_D A (wd_8 g S8) → va_S A s.heap H locs → ((f_X8_isRow N x1).bind (fun r1 => (if r1 = 0 then some ((-1), S8) else ((f_X8_isRow N x2).bind (fun r8 => (if r8 = 0 then some ((-1), S8) else (if x1 = x2 then some ((-1), S8) else (if inb x1 6 = true then (if ((S8.2.2 6) (Int32.toNatClampNeg x1)) < 0 then (f_X8_match_39 N   S8) else (if inb x2 6 = true then (if 0 ≤ ((S8.2.2 6) (Int32.toNatClampNeg x2)) then ((f_X8_mayMatch N S8 x1 x2).bind (fun r48 => (if r48 = 0 then ((f_X8_meets N S8 5).bind (fun r56 => some ((r56.1), (r56.2)))) else ((f_X8_placeOf N S8 x1 x2).bind (fun r63 => ((f_X8_offAt N S8 x1 x2 r63).bind (fun r72 => ((f_X8_tells N S8 r72 r63).bind (fun r76 => some ((r76.1), (r76.2))))))))))) else (f_X8_match_39 N   S8)) else none)) else none)))))))) = some res → W p l e (headSpec wsX8_match { frames := 2, cells := 0, slots := 0, locals := 50 }).room s m ([.ref (g.2.2.1 8), .int x1, .int x2] : List Value).toArray below meth c H locs 0 0 (MQ below (rwQi g (wd_8 g (res.2)) A (res.1)) ([.ref (g.2.2.1 8), .int x1, .int x2] : List Value).toArray s 0 0 A) (F0 m 0 ls []) from K9 s.heap [] hP hD hS hf
  clear hP hD hS hf
  intro H locs hP hD hS hf
  refine lv_iload_n (pc := 0) hx hb dX8_match_0 rfl (lv_at hl 1 rfl) ?_
  obtain ⟨r1, e1, hf⟩ := bdE hf
  refine ksI (pc := 1) (As := [.int x1]) (rest := []) ⟨hx, hb, hml, hown, hts⟩ (c_X8_isRow l N x1 r1 e1) (va_cwS 1 hts gX8_match_X8_isRow rfl rfl rfl h_X8_isRow ⟨Nat.le_of_ble_eq_true rfl, Nat.le_of_ble_eq_true rfl⟩) rfl hl.1 rfl (Nat.le_of_ble_eq_true rfl) dX8_match_1 ⟨Nat.zero_le _, Nat.zero_le _⟩ ?_
  refine lv_if_eq (tgt := 19) (pc := 4) hx hb dX8_match_4 (by decide) (fun c4 => ?_) (fun c4 => ?_)
  · have hf := ft hf c4
    refine lv_iconst (v := (-1)) (pc := 19) hx hb dX8_match_19 (by decide) ?_
    have hf := Option.some.inj hf
    subst hf
    exact W.iret (v := (-1)) hx hb hr (fun t ht hW => ⟨⟨_, (), rfl, rfl, by rw [ht]; exact hP, va_K.moved hW.alike hK, hD⟩, hS.F ht⟩) hS.2.2 dX8_match_20
  · have hf := ff hf c4
    refine lv_iload_n (pc := 7) hx hb dX8_match_7 rfl (lv_at hl 2 rfl) ?_
    obtain ⟨r8, e8, hf⟩ := bdE hf
    refine ksI (pc := 8) (As := [.int x2]) (rest := []) ⟨hx, hb, hml, hown, hts⟩ (c_X8_isRow l N x2 r8 e8) (va_cwS 1 hts gX8_match_X8_isRow rfl rfl rfl h_X8_isRow ⟨Nat.le_of_ble_eq_true rfl, Nat.le_of_ble_eq_true rfl⟩) rfl hl.1 rfl (Nat.le_of_ble_eq_true rfl) dX8_match_8 ⟨Nat.zero_le _, Nat.zero_le _⟩ ?_
    refine lv_if_eq (tgt := 19) (pc := 11) hx hb dX8_match_11 (by decide) (fun c11 => ?_) (fun c11 => ?_)
    · have hf := ft hf c11
      refine lv_iconst (v := (-1)) (pc := 19) hx hb dX8_match_19 (by decide) ?_
      have hf := Option.some.inj hf
      subst hf
      exact W.iret (v := (-1)) hx hb hr (fun t ht hW => ⟨⟨_, (), rfl, rfl, by rw [ht]; exact hP, va_K.moved hW.alike hK, hD⟩, hS.F ht⟩) hS.2.2 dX8_match_20
    · have hf := ff hf c11
      refine lv_iload_n (pc := 14) hx hb dX8_match_14 rfl (lv_at hl 1 rfl) ?_
      refine lv_iload_n (pc := 15) hx hb dX8_match_15 rfl (lv_at hl 2 rfl) ?_
      refine lv_icmp_ne (tgt := 21) (pc := 16) hx hb dX8_match_16 (by decide) (fun c16 => ?_) (fun c16 => ?_)
      · have hf := ff hf c16
        refine lv_aload_n (pc := 21) hx hb dX8_match_21 rfl (lv_at hl 0 rfl) ?_
        refine va_get (D := g.1) (ci := 8) (v := .ref (g.2.2.2 8 6)) (C := RX8) (T := TX8) (N := 47) (pc := 22) hx hb hts (fun _ h => List.mem_cons_of_mem _ (List.mem_append_right _ h)) hown hK hP 0 rfl rfl 6 (by decide) (hts _ q_X8_match_0) (fun _ h9 => h9) rfl dX8_match_22 ?_
        refine lv_iload_n (pc := 25) hx hb dX8_match_25 rfl (lv_at hl 1 rfl) ?_
        obtain ⟨b26, hf⟩ := gdE hf
        refine va_iald (D := g.1) (tys := tyl g) (f := (S8.2.2 6)) (pc := 26) hx hb hK hP 2 0 rfl rfl (inbV b26) dX8_match_26 ?_
        refine lv_if_lt (tgt := 39) (pc := 27) hx hb dX8_match_27 (by decide) (fun c27 => ?_) (fun c27 => ?_)
        · have hf := ft hf c27
          exact w_X8_match_39 C  H locs S8 ls  hP hD hS (lv_sub hl [0] rfl) hf
        · have hf := ff hf c27
          refine lv_aload_n (pc := 30) hx hb dX8_match_30 rfl (lv_at hl 0 rfl) ?_
          refine va_get (D := g.1) (ci := 8) (v := .ref (g.2.2.2 8 6)) (C := RX8) (T := TX8) (N := 47) (pc := 31) hx hb hts (fun _ h => List.mem_cons_of_mem _ (List.mem_append_right _ h)) hown hK hP 0 rfl rfl 6 (by decide) (hts _ q_X8_match_0) (fun _ h9 => h9) rfl dX8_match_31 ?_
          refine lv_iload_n (pc := 34) hx hb dX8_match_34 rfl (lv_at hl 2 rfl) ?_
          obtain ⟨b35, hf⟩ := gdE hf
          refine va_iald (D := g.1) (tys := tyl g) (f := (S8.2.2 6)) (pc := 35) hx hb hK hP 2 0 rfl rfl (inbV b35) dX8_match_35 ?_
          refine lv_if_ge (tgt := 45) (pc := 36) hx hb dX8_match_36 (by decide) (fun c36 => ?_) (fun c36 => ?_)
          · have hf := ft hf c36
            refine lv_aload_n (pc := 45) hx hb dX8_match_45 rfl (lv_at hl 0 rfl) ?_
            refine lv_iload_n (pc := 46) hx hb dX8_match_46 rfl (lv_at hl 1 rfl) ?_
            refine lv_iload_n (pc := 47) hx hb dX8_match_47 rfl (lv_at hl 2 rfl) ?_
            obtain ⟨r48, e48, hf⟩ := bdE hf
            refine krI (g := g) (wc := (wd_8 g S8)) (pc := 48) (As := [.int x1, .int x2]) (rest := []) ⟨hx, hb, hml, hown, hts⟩ (c_X8_mayMatch l g N S8 x1 x2 r48 e48) (cwV 2 hts gX8_match_X8_mayMatch rfl rfl rfl h_X8_mayMatch ⟨Nat.le_of_ble_eq_true rfl, Nat.le_of_ble_eq_true rfl⟩) hK hP rfl rfl rfl hl.1 rfl (Nat.le_of_ble_eq_true rfl) dX8_match_48 ⟨Nat.zero_le _, Nat.zero_le _⟩ ?_
            refine lv_if_ne (tgt := 60) (pc := 51) hx hb dX8_match_51 (by decide) (fun c51 => ?_) (fun c51 => ?_)
            · have hf := ff hf c51
              refine lv_aload_n (pc := 60) hx hb dX8_match_60 rfl (lv_at hl 0 rfl) ?_
              refine lv_iload_n (pc := 61) hx hb dX8_match_61 rfl (lv_at hl 1 rfl) ?_
              refine lv_iload_n (pc := 62) hx hb dX8_match_62 rfl (lv_at hl 2 rfl) ?_
              obtain ⟨r63, e63, hf⟩ := bdE hf
              refine krI (g := g) (wc := (wd_8 g S8)) (pc := 63) (As := [.int x1, .int x2]) (rest := []) ⟨hx, hb, hml, hown, hts⟩ (c_X8_placeOf l g N S8 x1 x2 r63 e63) (cwV 2 hts gX8_match_X8_placeOf rfl rfl rfl h_X8_placeOf ⟨Nat.le_of_ble_eq_true rfl, Nat.le_of_ble_eq_true rfl⟩) hK hP rfl rfl rfl hl.1 rfl (Nat.le_of_ble_eq_true rfl) dX8_match_63 ⟨Nat.zero_le _, Nat.zero_le _⟩ ?_
              refine lv_istore_n (lv' := [(3, .int r63), (0, .ref (g.2.2.1 8)), (1, .int x1), (2, .int x2)]) (pc := 66) hx hb dX8_match_66 rfl hl (by decide) rfl (fun ls hl => ?_)
              refine lv_aload_n (pc := 67) hx hb dX8_match_67 rfl (lv_at hl 1 rfl) ?_
              refine lv_aload_n (pc := 68) hx hb dX8_match_68 rfl (lv_at hl 1 rfl) ?_
              refine lv_iload_n (pc := 69) hx hb dX8_match_69 rfl (lv_at hl 2 rfl) ?_
              refine lv_iload_n (pc := 70) hx hb dX8_match_70 rfl (lv_at hl 3 rfl) ?_
              refine lv_iload_n (pc := 71) hx hb dX8_match_71 rfl (lv_at hl 0 rfl) ?_
              obtain ⟨r72, e72, hf⟩ := bdE hf
              refine krI (g := g) (wc := (wd_8 g S8)) (pc := 72) (As := [.int x1, .int x2, .int r63]) (rest := [.ref (g.2.2.1 8)]) ⟨hx, hb, hml, hown, hts⟩ (c_X8_offAt l g N S8 x1 x2 r63 r72 e72) (cwV 3 hts gX8_match_X8_offAt rfl rfl rfl h_X8_offAt ⟨Nat.le_of_ble_eq_true rfl, Nat.le_of_ble_eq_true rfl⟩) hK hP rfl rfl rfl hl.1 rfl (Nat.le_of_ble_eq_true rfl) dX8_match_72 ⟨Nat.zero_le _, Nat.zero_le _⟩ ?_
              refine lv_iload_n (pc := 75) hx hb dX8_match_75 rfl (lv_at hl 0 rfl) ?_
              obtain ⟨r76, e76, hf⟩ := bdE hf
              refine kuI (g := g) (A := A) (W0 := (wd_8 g S8)) (w1 := (wd_8 g (r76.2))) (pc := 76) (As := [.int r72, .int r63]) (rest := []) ⟨hx, hb, hml, hown, hts⟩ hK hA hP hD hS (c_X8_tells l g N H.size S8 r72 r63 r76 e76) (cwV 2 hts gX8_match_X8_tells rfl rfl rfl h_X8_tells ⟨Nat.le_of_ble_eq_true rfl, Nat.le_of_ble_eq_true rfl⟩) rfl rfl rfl hl.1 rfl (Nat.le_of_ble_eq_true rfl) dX8_match_76 ⟨Nat.zero_le _, Nat.zero_le _⟩ (fun H locs hP hD hS => ?_)
              have hf := Option.some.inj hf
              subst hf
              exact W.iret (v := (r76.1)) hx hb hr (fun t ht hW => ⟨⟨_, (), rfl, rfl, by rw [ht]; exact hP, va_K.moved hW.alike hK, hD⟩, hS.F ht⟩) hS.2.2 dX8_match_79
            · have hf := ft hf c51
              refine lv_aload_n (pc := 54) hx hb dX8_match_54 rfl (lv_at hl 0 rfl) ?_
              refine lv_iconst (v := 5) (pc := 55) hx hb dX8_match_55 (by decide) ?_
              obtain ⟨r56, e56, hf⟩ := bdE hf
              refine kuI (g := g) (A := A) (W0 := (wd_8 g S8)) (w1 := (wd_8 g (r56.2))) (pc := 56) (As := [.int 5]) (rest := []) ⟨hx, hb, hml, hown, hts⟩ hK hA hP hD hS (c_X8_meets l g N H.size S8 5 r56 e56) (cwV 1 hts gX8_match_X8_meets rfl rfl rfl h_X8_meets ⟨Nat.le_of_ble_eq_true rfl, Nat.le_of_ble_eq_true rfl⟩) rfl rfl rfl hl.1 rfl (Nat.le_of_ble_eq_true rfl) dX8_match_56 ⟨Nat.zero_le _, Nat.zero_le _⟩ (fun H locs hP hD hS => ?_)
              have hf := Option.some.inj hf
              subst hf
              exact W.iret (v := (r56.1)) hx hb hr (fun t ht hW => ⟨⟨_, (), rfl, rfl, by rw [ht]; exact hP, va_K.moved hW.alike hK, hD⟩, hS.F ht⟩) hS.2.2 dX8_match_59
          · have hf := ff hf c36
            exact w_X8_match_39 C  H locs S8 ls  hP hD hS (lv_sub hl [0] rfl) hf
      · have hf := ft hf c16
        refine lv_iconst (v := (-1)) (pc := 19) hx hb dX8_match_19 (by decide) ?_
        have hf := Option.some.inj hf
        subst hf
        exact W.iret (v := (-1)) hx hb hr (fun t ht hW => ⟨⟨_, (), rfl, rfl, by rw [ht]; exact hP, va_K.moved hW.alike hK, hD⟩, hS.F ht⟩) hS.2.2 dX8_match_20
theorem h_X8_isSure : yX8_isSure.cls = RX8 ∧ yX8_isSure.cls ≠ "java/lang/invoke/MethodHandle" ∧ yX8_isSure.cls ≠ "java/lang/invoke/VarHandle" ∧ (parseMethodDescriptor yX8_isSure.desc).map (fun d => d.parameters.length) = some 2 := by decide +kernel
set_option maxHeartbeats 4000000 in
set_option maxRecDepth 100000 in
theorem w_X8_isSure_89 {p : Program} {l : Launch} {e : Env} {s : State} {m : MethodId} {args : Array Value} {below : List Frame} {meth : Method} {c : Code} {g : En} {N : Nat} {S8 : St} {res : Int32} (C : cxr g (wd_8 g S8) cX8_isSure 6 (some .boolean) wsX8_isSure RX8 p s m args meth c) (k30 : Int32 → Int32 → Int32 → Int32 → Int32 → Option (Int32)) (H30 : ∀ (ls : Array Slot) (x1 : Int32) (x2 : Int32) (x3 : Int32) (x4 : Int32) (x5 : Int32), lv_has ls 6 [(0, .ref (g.2.2.1 8)), (1, .int x1), (2, .int x2), (3, .int x3), (4, .int x4), (5, .int x5)] → k30 x1 x2 x3 x4 x5 = some res → W p l e (headSpec wsX8_isSure { frames := 2, cells := 0, slots := 0, locals := 50 }).room s m args below meth c s.heap [] 0 0 (MQ below (vp_Si (fun r => r = res)) args s 0 0 (fun _ => False)) (F0 m 30 ls [])) : ∀ (ls : Array Slot) (x1 : Int32) (x2 : Int32) (x3 : Int32) (x4 : Int32) (x5 : Int32), lv_has ls 6 [(0, .ref (g.2.2.1 8)), (1, .int x1), (2, .int x2), (3, .int x3), (4, .int x4), (5, .int x5)] → f_X8_isSure_89 N S8 k30 x1 x2 x3 x4 x5 = some res → W p l e (headSpec wsX8_isSure { frames := 2, cells := 0, slots := 0, locals := 50 }).room s m args below meth c s.heap [] 0 0 (MQ below (vp_Si (fun r => r = res)) args s 0 0 (fun _ => False)) (F0 m 89 ls []) := by
  intro ls x1 x2 x3 x4 x5 hl hf
  obtain ⟨⟨hx, hb, hr, hml, hown, hts, hlk⟩, hK, hP⟩ := id C
  unfold f_X8_isSure_89 at hf
  refine lv_iinc (v := (x5 + 1)) (lv' := [(5, .int (x5 + 1)), (0, .ref (g.2.2.1 8)), (1, .int x1), (2, .int x2), (3, .int x3), (4, .int x4)]) (pc := 89) hx hb dX8_isSure_89 hl (k := 5) rfl rfl (by decide) rfl (fun ls hl => ?_)
  refine lv_goto (tgt := 30) (pc := 92) hx hb dX8_isSure_92 (by decide) ?_
  exact H30 ls x1 x2 x3 x4 (x5 + 1) (lv_sub hl [1, 2, 3, 4, 5, 0] rfl) hf
set_option maxHeartbeats 4000000 in
set_option maxRecDepth 100000 in
theorem w_X8_isSure_87 {p : Program} {l : Launch} {e : Env} {s : State} {m : MethodId} {args : Array Value} {below : List Frame} {meth : Method} {c : Code} {g : En} {N : Nat} {S8 : St} {res : Int32} (C : cxr g (wd_8 g S8) cX8_isSure 6 (some .boolean) wsX8_isSure RX8 p s m args meth c) (k30 : Int32 → Int32 → Int32 → Int32 → Int32 → Option (Int32)) (H30 : ∀ (ls : Array Slot) (x1 : Int32) (x2 : Int32) (x3 : Int32) (x4 : Int32) (x5 : Int32), lv_has ls 6 [(0, .ref (g.2.2.1 8)), (1, .int x1), (2, .int x2), (3, .int x3), (4, .int x4), (5, .int x5)] → k30 x1 x2 x3 x4 x5 = some res → W p l e (headSpec wsX8_isSure { frames := 2, cells := 0, slots := 0, locals := 50 }).room s m args below meth c s.heap [] 0 0 (MQ below (vp_Si (fun r => r = res)) args s 0 0 (fun _ => False)) (F0 m 30 ls [])) : ∀ (ls : Array Slot) (x1 : Int32) (x2 : Int32) (x3 : Int32) (x5 : Int32) (t0 : Int32), lv_has ls 6 [(0, .ref (g.2.2.1 8)), (1, .int x1), (2, .int x2), (3, .int x3), (5, .int x5)] → f_X8_isSure_87 N S8 k30 x1 x2 x3 x5 t0 = some res → W p l e (headSpec wsX8_isSure { frames := 2, cells := 0, slots := 0, locals := 50 }).room s m args below meth c s.heap [] 0 0 (MQ below (vp_Si (fun r => r = res)) args s 0 0 (fun _ => False)) (F0 m 87 ls [.int t0]) := by
  intro ls x1 x2 x3 x5 t0 hl hf
  obtain ⟨⟨hx, hb, hr, hml, hown, hts, hlk⟩, hK, hP⟩ := id C
  unfold f_X8_isSure_87 at hf
  refine lv_istore (lv' := [(4, .int t0), (0, .ref (g.2.2.1 8)), (1, .int x1), (2, .int x2), (3, .int x3), (5, .int x5)]) (pc := 87) hx hb dX8_isSure_87 hl (by decide) rfl (fun ls hl => ?_)
  exact w_X8_isSure_89 C k30 H30 ls x1 x2 x3 t0 x5 (lv_sub hl [1, 2, 3, 4, 0, 5] rfl) hf
set_option maxHeartbeats 4000000 in
set_option maxRecDepth 100000 in
theorem w_X8_isSure_86 {p : Program} {l : Launch} {e : Env} {s : State} {m : MethodId} {args : Array Value} {below : List Frame} {meth : Method} {c : Code} {g : En} {N : Nat} {S8 : St} {res : Int32} (C : cxr g (wd_8 g S8) cX8_isSure 6 (some .boolean) wsX8_isSure RX8 p s m args meth c) (k30 : Int32 → Int32 → Int32 → Int32 → Int32 → Option (Int32)) (H30 : ∀ (ls : Array Slot) (x1 : Int32) (x2 : Int32) (x3 : Int32) (x4 : Int32) (x5 : Int32), lv_has ls 6 [(0, .ref (g.2.2.1 8)), (1, .int x1), (2, .int x2), (3, .int x3), (4, .int x4), (5, .int x5)] → k30 x1 x2 x3 x4 x5 = some res → W p l e (headSpec wsX8_isSure { frames := 2, cells := 0, slots := 0, locals := 50 }).room s m args below meth c s.heap [] 0 0 (MQ below (vp_Si (fun r => r = res)) args s 0 0 (fun _ => False)) (F0 m 30 ls [])) : ∀ (ls : Array Slot) (x1 : Int32) (x2 : Int32) (x3 : Int32) (x5 : Int32), lv_has ls 6 [(0, .ref (g.2.2.1 8)), (1, .int x1), (2, .int x2), (3, .int x3), (5, .int x5)] → f_X8_isSure_86 N S8 k30 x1 x2 x3 x5 = some res → W p l e (headSpec wsX8_isSure { frames := 2, cells := 0, slots := 0, locals := 50 }).room s m args below meth c s.heap [] 0 0 (MQ below (vp_Si (fun r => r = res)) args s 0 0 (fun _ => False)) (F0 m 86 ls []) := by
  intro ls x1 x2 x3 x5 hl hf
  obtain ⟨⟨hx, hb, hr, hml, hown, hts, hlk⟩, hK, hP⟩ := id C
  unfold f_X8_isSure_86 at hf
  refine lv_iconst (v := 0) (pc := 86) hx hb dX8_isSure_86 (by decide) ?_
  exact w_X8_isSure_87 C k30 H30 ls x1 x2 x3 x5 0 (lv_sub hl [0, 1, 2, 3, 4] rfl) hf
set_option maxHeartbeats 4000000 in
set_option maxRecDepth 100000 in
theorem w_X8_isSure_30_b {p : Program} {l : Launch} {e : Env} {s : State} {m : MethodId} {args : Array Value} {below : List Frame} {meth : Method} {c : Code} {g : En} {N : Nat} {S8 : St} {res : Int32} (C : cxr g (wd_8 g S8) cX8_isSure 6 (some .boolean) wsX8_isSure RX8 p s m args meth c) (k30 : Int32 → Int32 → Int32 → Int32 → Int32 → Option (Int32)) (H30 : ∀ (ls : Array Slot) (x1 : Int32) (x2 : Int32) (x3 : Int32) (x4 : Int32) (x5 : Int32), lv_has ls 6 [(0, .ref (g.2.2.1 8)), (1, .int x1), (2, .int x2), (3, .int x3), (4, .int x4), (5, .int x5)] → k30 x1 x2 x3 x4 x5 = some res → W p l e (headSpec wsX8_isSure { frames := 2, cells := 0, slots := 0, locals := 50 }).room s m args below meth c s.heap [] 0 0 (MQ below (vp_Si (fun r => r = res)) args s 0 0 (fun _ => False)) (F0 m 30 ls [])) : ∀ (ls : Array Slot) (x1 : Int32) (x2 : Int32) (x3 : Int32) (x4 : Int32) (x5 : Int32), lv_has ls 6 [(0, .ref (g.2.2.1 8)), (1, .int x1), (2, .int x2), (3, .int x3), (4, .int x4), (5, .int x5)] → f_X8_isSure_30_b N S8  k30 x1 x2 x3 x4 x5 = some res → W p l e (headSpec wsX8_isSure { frames := 2, cells := 0, slots := 0, locals := 50 }).room s m args below meth c s.heap [] 0 0 (MQ below (vp_Si (fun r => r = res)) args s 0 0 (fun _ => False)) (F0 m 30 ls []) := by
  intro ls x1 x2 x3 x4 x5 hl hf
  obtain ⟨⟨hx, hb, hr, hml, hown, hts, hlk⟩, hK, hP⟩ := id C
  unfold f_X8_isSure_30_b at hf
  refine lv_iload (pc := 30) hx hb dX8_isSure_30 (lv_at hl 5 rfl) ?_
  refine lv_bipush (v := 6) (pc := 32) hx hb dX8_isSure_32 (by decide) ?_
  refine lv_icmp_ge (tgt := 95) (pc := 34) hx hb dX8_isSure_34 (by decide) (fun c34 => ?_) (fun c34 => ?_)
  · have hf := ft hf c34
    refine lv_iload (pc := 95) hx hb dX8_isSure_95 (lv_at hl 4 rfl) ?_
    obtain ⟨b97, hf⟩ := gdE hf
    have hf := Option.some.inj hf
    subst hf
    exact W.zret (v := x4) hx hb hr (z01V b97) (fun t ht hW => ⟨_, rfl, rfl, ht⟩) (fun _ h => by cases h) dX8_isSure_97
  · have hf := ff hf c34
    refine lv_iload (pc := 37) hx hb dX8_isSure_37 (lv_at hl 5 rfl) ?_
    refine lv_iload_n (pc := 39) hx hb dX8_isSure_39 rfl (lv_at hl 1 rfl) ?_
    refine lv_icmp_eq (tgt := 89) (pc := 40) hx hb dX8_isSure_40 (by decide) (fun c40 => ?_) (fun c40 => ?_)
    · have hf := ft hf c40
      exact w_X8_isSure_89 C k30 H30 ls x1 x2 x3 x4 x5 (lv_sub hl [0, 1, 2, 3, 4, 5] rfl) hf
    · have hf := ff hf c40
      refine lv_iload (pc := 43) hx hb dX8_isSure_43 (lv_at hl 5 rfl) ?_
      refine lv_iload_n (pc := 45) hx hb dX8_isSure_45 rfl (lv_at hl 2 rfl) ?_
      refine lv_icmp_eq (tgt := 89) (pc := 46) hx hb dX8_isSure_46 (by decide) (fun c46 => ?_) (fun c46 => ?_)
      · have hf := ft hf c46
        exact w_X8_isSure_89 C k30 H30 ls x1 x2 x3 x4 x5 (lv_sub hl [0, 1, 2, 3, 4, 5] rfl) hf
      · have hf := ff hf c46
        refine lv_aload_n (pc := 49) hx hb dX8_isSure_49 rfl (lv_at hl 0 rfl) ?_
        refine lv_iload_n (pc := 50) hx hb dX8_isSure_50 rfl (lv_at hl 1 rfl) ?_
        refine lv_iload (pc := 51) hx hb dX8_isSure_51 (lv_at hl 5 rfl) ?_
        obtain ⟨r53, e53, hf⟩ := bdE hf
        refine krI (g := g) (wc := (wd_8 g S8)) (pc := 53) (As := [.int x1, .int x5]) (rest := []) ⟨hx, hb, hml, hown, hts⟩ (c_X8_mayMatch l g N S8 x1 x5 r53 e53) (cwV 2 hts gX8_isSure_X8_mayMatch rfl rfl rfl h_X8_mayMatch ⟨Nat.le_of_ble_eq_true rfl, Nat.le_of_ble_eq_true rfl⟩) hK hP rfl rfl rfl hl.1 rfl (Nat.le_of_ble_eq_true rfl) dX8_isSure_53 ⟨Nat.zero_le _, Nat.zero_le _⟩ ?_
        refine lv_if_eq (tgt := 89) (pc := 56) hx hb dX8_isSure_56 (by decide) (fun c56 => ?_) (fun c56 => ?_)
        · have hf := ft hf c56
          exact w_X8_isSure_89 C k30 H30 ls x1 x2 x3 x4 x5 (lv_sub hl [0, 1, 2, 3, 4, 5] rfl) hf
        · have hf := ff hf c56
          refine lv_iload (pc := 59) hx hb dX8_isSure_59 (lv_at hl 4 rfl) ?_
          refine lv_if_eq (tgt := 86) (pc := 61) hx hb dX8_isSure_61 (by decide) (fun c61 => ?_) (fun c61 => ?_)
          · have hf := ft hf c61
            exact w_X8_isSure_86 C k30 H30 ls x1 x2 x3 x5 (lv_sub hl [0, 1, 2, 3, 5] rfl) hf
          · have hf := ff hf c61
            refine lv_aload_n (pc := 64) hx hb dX8_isSure_64 rfl (lv_at hl 0 rfl) ?_
            refine lv_iload_n (pc := 65) hx hb dX8_isSure_65 rfl (lv_at hl 1 rfl) ?_
            refine lv_iload (pc := 66) hx hb dX8_isSure_66 (lv_at hl 5 rfl) ?_
            refine lv_aload_n (pc := 68) hx hb dX8_isSure_68 rfl (lv_at hl 0 rfl) ?_
            refine lv_iload_n (pc := 69) hx hb dX8_isSure_69 rfl (lv_at hl 1 rfl) ?_
            refine lv_iload (pc := 70) hx hb dX8_isSure_70 (lv_at hl 5 rfl) ?_
            obtain ⟨r72, e72, hf⟩ := bdE hf
            refine krI (g := g) (wc := (wd_8 g S8)) (pc := 72) (As := [.int x1, .int x5]) (rest := [.int x5, .int x1, .ref (g.2.2.1 8)]) ⟨hx, hb, hml, hown, hts⟩ (c_X8_placeOf l g N S8 x1 x5 r72 e72) (cwV 2 hts gX8_isSure_X8_placeOf rfl rfl rfl h_X8_placeOf ⟨Nat.le_of_ble_eq_true rfl, Nat.le_of_ble_eq_true rfl⟩) hK hP rfl rfl rfl hl.1 rfl (Nat.le_of_ble_eq_true rfl) dX8_isSure_72 ⟨Nat.zero_le _, Nat.zero_le _⟩ ?_
            obtain ⟨r75, e75, hf⟩ := bdE hf
            refine krI (g := g) (wc := (wd_8 g S8)) (pc := 75) (As := [.int x1, .int x5, .int r72]) (rest := []) ⟨hx, hb, hml, hown, hts⟩ (c_X8_offAt l g N S8 x1 x5 r72 r75 e75) (cwV 3 hts gX8_isSure_X8_offAt rfl rfl rfl h_X8_offAt ⟨Nat.le_of_ble_eq_true rfl, Nat.le_of_ble_eq_true rfl⟩) hK hP rfl rfl rfl hl.1 rfl (Nat.le_of_ble_eq_true rfl) dX8_isSure_75 ⟨Nat.zero_le _, Nat.zero_le _⟩ ?_
            refine lv_iload_n (pc := 78) hx hb dX8_isSure_78 rfl (lv_at hl 3 rfl) ?_
            refine lv_icmp_le (tgt := 86) (pc := 79) hx hb dX8_isSure_79 (by decide) (fun c79 => ?_) (fun c79 => ?_)
            · have hf := ft hf c79
              exact w_X8_isSure_86 C k30 H30 ls x1 x2 x3 x5 (lv_sub hl [0, 1, 2, 3, 5] rfl) hf
            · have hf := ff hf c79
              refine lv_iconst (v := 1) (pc := 82) hx hb dX8_isSure_82 (by decide) ?_
              refine lv_goto (tgt := 87) (pc := 83) hx hb dX8_isSure_83 (by decide) ?_
              exact w_X8_isSure_87 C k30 H30 ls x1 x2 x3 x5 1 (lv_sub hl [0, 1, 2, 3, 5] rfl) hf
set_option maxHeartbeats 4000000 in
set_option maxRecDepth 100000 in
theorem w_X8_isSure_30 {p : Program} {l : Launch} {e : Env} {s : State} {m : MethodId} {args : Array Value} {below : List Frame} {meth : Method} {c : Code} {g : En} {N : Nat} {S8 : St} {res : Int32} (C : cxr g (wd_8 g S8) cX8_isSure 6 (some .boolean) wsX8_isSure RX8 p s m args meth c) : ∀ (n : Nat), ∀ (ls : Array Slot) (x1 : Int32) (x2 : Int32) (x3 : Int32) (x4 : Int32) (x5 : Int32), lv_has ls 6 [(0, .ref (g.2.2.1 8)), (1, .int x1), (2, .int x2), (3, .int x3), (4, .int x4), (5, .int x5)] → f_X8_isSure_30 N S8  n x1 x2 x3 x4 x5 = some res → W p l e (headSpec wsX8_isSure { frames := 2, cells := 0, slots := 0, locals := 50 }).room s m args below meth c s.heap [] 0 0 (MQ below (vp_Si (fun r => r = res)) args s 0 0 (fun _ => False)) (F0 m 30 ls []) := by
  intro n
  induction n with
  | zero =>
    intro ls x1 x2 x3 x4 x5 hl hf
    have hf : (none : Option (Int32)) = some res := hf
    cases hf
  | succ n ih =>
    intro ls x1 x2 x3 x4 x5 hl hf
    exact w_X8_isSure_30_b C  (fun y0 y1 y2 y3 y4 => f_X8_isSure_30 N S8  n y0 y1 y2 y3 y4) ih ls x1 x2 x3 x4 x5 hl hf
set_option maxHeartbeats 4000000 in
set_option maxRecDepth 100000 in
theorem c_X8_isSure (l : Launch) (g : En) (N : Nat) (S8 : St) (x1 : Int32) (x2 : Int32) (res : Int32) (hf : f_X8_isSure N S8 x1 x2 = some res) : Met l yX8_isSure wsX8_isSure { frames := 2, cells := 0, slots := 0, locals := 50 } (roP g (wd_8 g S8) [.ref (g.2.2.1 8), .int x1, .int x2]) (vp_Si (fun r => r = res)) 0 0 (fun _ => False) := by
  refine Met.ofW (cc := cX8_isSure) (maxL := 6) (ret := (some .boolean)) (by decide) rfl ?_
  intro p e s m args below meth c s₁ B hml hv
  obtain ⟨rfl, hP, hK⟩ := hv
  have hx := B.exec
  have hb := B.bytes
  have hr := B.returns
  have hts := atoms_spec (ws := wsX8_isSure) B.pre
  have hown : s.vm.findClass RX8 = some m.cls := findClass_of_methodNamed B.named
  have hlk := B.notSynchronized
  have C : cxr g (wd_8 g S8) cX8_isSure 6 (some .boolean) wsX8_isSure RX8 p s m ([.ref (g.2.2.1 8), .int x1, .int x2] : List Value).toArray meth c := ⟨⟨hx, hb, hr, hml, hown, hts, hlk⟩, hK, hP⟩
  have hl := lv_entry [.ref (g.2.2.1 8), .int x1, .int x2] (n := 6) (Nat.le_of_ble_eq_true rfl)
  rw [lg_entry_eq]
  generalize (lg_sl [.ref (g.2.2.1 8), .int x1, .int x2] ++ List.replicate (6 - (lg_sl [.ref (g.2.2.1 8), .int x1, .int x2]).length) Slot.unset).toArray = ls at hl ⊢
  have hl : lv_has ls 6 [(0, .ref (g.2.2.1 8)), (1, .int x1), (2, .int x2)] := hl
  unfold f_X8_isSure at hf
  refine lv_aload_n (pc := 0) hx hb dX8_isSure_0 rfl (lv_at hl 0 rfl) ?_
  refine lv_iload_n (pc := 1) hx hb dX8_isSure_1 rfl (lv_at hl 1 rfl) ?_
  refine lv_iload_n (pc := 2) hx hb dX8_isSure_2 rfl (lv_at hl 2 rfl) ?_
  obtain ⟨r3, e3, hf⟩ := bdE hf
  refine krI (g := g) (wc := (wd_8 g S8)) (pc := 3) (As := [.int x1, .int x2]) (rest := []) ⟨hx, hb, hml, hown, hts⟩ (c_X8_mayMatch l g N S8 x1 x2 r3 e3) (cwV 2 hts gX8_isSure_X8_mayMatch rfl rfl rfl h_X8_mayMatch ⟨Nat.le_of_ble_eq_true rfl, Nat.le_of_ble_eq_true rfl⟩) hK hP rfl rfl rfl hl.1 rfl (Nat.le_of_ble_eq_true rfl) dX8_isSure_3 ⟨Nat.zero_le _, Nat.zero_le _⟩ ?_
  refine lv_if_ne (tgt := 11) (pc := 6) hx hb dX8_isSure_6 (by decide) (fun c6 => ?_) (fun c6 => ?_)
  · have hf := ff hf c6
    refine lv_aload_n (pc := 11) hx hb dX8_isSure_11 rfl (lv_at hl 0 rfl) ?_
    refine lv_iload_n (pc := 12) hx hb dX8_isSure_12 rfl (lv_at hl 1 rfl) ?_
    refine lv_iload_n (pc := 13) hx hb dX8_isSure_13 rfl (lv_at hl 2 rfl) ?_
    refine lv_aload_n (pc := 14) hx hb dX8_isSure_14 rfl (lv_at hl 0 rfl) ?_
    refine lv_iload_n (pc := 15) hx hb dX8_isSure_15 rfl (lv_at hl 1 rfl) ?_
    refine lv_iload_n (pc := 16) hx hb dX8_isSure_16 rfl (lv_at hl 2 rfl) ?_
    obtain ⟨r17, e17, hf⟩ := bdE hf
    refine krI (g := g) (wc := (wd_8 g S8)) (pc := 17) (As := [.int x1, .int x2]) (rest := [.int x2, .int x1, .ref (g.2.2.1 8)]) ⟨hx, hb, hml, hown, hts⟩ (c_X8_placeOf l g N S8 x1 x2 r17 e17) (cwV 2 hts gX8_isSure_X8_placeOf rfl rfl rfl h_X8_placeOf ⟨Nat.le_of_ble_eq_true rfl, Nat.le_of_ble_eq_true rfl⟩) hK hP rfl rfl rfl hl.1 rfl (Nat.le_of_ble_eq_true rfl) dX8_isSure_17 ⟨Nat.zero_le _, Nat.zero_le _⟩ ?_
    obtain ⟨r20, e20, hf⟩ := bdE hf
    refine krI (g := g) (wc := (wd_8 g S8)) (pc := 20) (As := [.int x1, .int x2, .int r17]) (rest := []) ⟨hx, hb, hml, hown, hts⟩ (c_X8_offAt l g N S8 x1 x2 r17 r20 e20) (cwV 3 hts gX8_isSure_X8_offAt rfl rfl rfl h_X8_offAt ⟨Nat.le_of_ble_eq_true rfl, Nat.le_of_ble_eq_true rfl⟩) hK hP rfl rfl rfl hl.1 rfl (Nat.le_of_ble_eq_true rfl) dX8_isSure_20 ⟨Nat.zero_le _, Nat.zero_le _⟩ ?_
    refine lv_istore_n (lv' := [(3, .int r20), (0, .ref (g.2.2.1 8)), (1, .int x1), (2, .int x2)]) (pc := 23) hx hb dX8_isSure_23 rfl hl (by decide) rfl (fun ls hl => ?_)
    refine lv_iconst (v := 1) (pc := 24) hx hb dX8_isSure_24 (by decide) ?_
    refine lv_istore (lv' := [(4, .int 1), (3, .int r20), (0, .ref (g.2.2.1 8)), (1, .int x1), (2, .int x2)]) (pc := 25) hx hb dX8_isSure_25 hl (by decide) rfl (fun ls hl => ?_)
    refine lv_iconst (v := 0) (pc := 27) hx hb dX8_isSure_27 (by decide) ?_
    refine lv_istore (lv' := [(5, .int 0), (4, .int 1), (3, .int r20), (0, .ref (g.2.2.1 8)), (1, .int x1), (2, .int x2)]) (pc := 28) hx hb dX8_isSure_28 hl (by decide) rfl (fun ls hl => ?_)
    exact w_X8_isSure_30 C  N ls x1 x2 r20 1 0 (lv_sub hl [3, 4, 5, 2, 1, 0] rfl) hf
  · have hf := ft hf c6
    refine lv_iconst (v := 0) (pc := 9) hx hb dX8_isSure_9 (by decide) ?_
    have hf := Option.some.inj hf
    subst hf
    exact W.zret (v := 0) hx hb hr rfl (fun t ht hW => ⟨_, rfl, rfl, ht⟩) (fun _ h => by cases h) dX8_isSure_10
theorem h_X8_sure : yX8_sure.cls = RX8 ∧ yX8_sure.cls ≠ "java/lang/invoke/MethodHandle" ∧ yX8_sure.cls ≠ "java/lang/invoke/VarHandle" ∧ (parseMethodDescriptor yX8_sure.desc).map (fun d => d.parameters.length) = some 2 := by decide +kernel
set_option maxHeartbeats 4000000 in
set_option maxRecDepth 100000 in
theorem w_X8_sure_19 {p : Program} {l : Launch} {e : Env} {s : State} {m : MethodId} {args : Array Value} {below : List Frame} {meth : Method} {c : Code} {g : En} {N : Nat} {S8 : St} {res : Int32} (C : cxr g (wd_8 g S8) cX8_sure 3 (some .int) wsX8_sure RX8 p s m args meth c) : ∀ (ls : Array Slot), lv_has ls 3 [] → f_X8_sure_19 N S8   = some res → W p l e (headSpec wsX8_sure { frames := 3, cells := 0, slots := 0, locals := 75 }).room s m args below meth c s.heap [] 0 0 (MQ below (vp_Si (fun r => r = res)) args s 0 0 (fun _ => False)) (F0 m 19 ls []) := by
  intro ls  hl hf
  obtain ⟨⟨hx, hb, hr, hml, hown, hts, hlk⟩, hK, hP⟩ := id C
  unfold f_X8_sure_19 at hf
  refine lv_iconst (v := (-1)) (pc := 19) hx hb dX8_sure_19 (by decide) ?_
  refine lv_goto (tgt := 37) (pc := 20) hx hb dX8_sure_20 (by decide) ?_
  have hf := Option.some.inj hf
  subst hf
  exact W.iret (v := (-1)) hx hb hr (fun t ht hW => ⟨_, rfl, rfl, ht⟩) (fun _ h => by cases h) dX8_sure_37
set_option maxHeartbeats 4000000 in
set_option maxRecDepth 100000 in
theorem c_X8_sure (l : Launch) (g : En) (N : Nat) (S8 : St) (x1 : Int32) (x2 : Int32) (res : Int32) (hf : f_X8_sure N S8 x1 x2 = some res) : Met l yX8_sure wsX8_sure { frames := 3, cells := 0, slots := 0, locals := 75 } (roP g (wd_8 g S8) [.ref (g.2.2.1 8), .int x1, .int x2]) (vp_Si (fun r => r = res)) 0 0 (fun _ => False) := by
  refine Met.ofW (cc := cX8_sure) (maxL := 3) (ret := (some .int)) (by decide) rfl ?_
  intro p e s m args below meth c s₁ B hml hv
  obtain ⟨rfl, hP, hK⟩ := hv
  have hx := B.exec
  have hb := B.bytes
  have hr := B.returns
  have hts := atoms_spec (ws := wsX8_sure) B.pre
  have hown : s.vm.findClass RX8 = some m.cls := findClass_of_methodNamed B.named
  have hlk := B.notSynchronized
  have C : cxr g (wd_8 g S8) cX8_sure 3 (some .int) wsX8_sure RX8 p s m ([.ref (g.2.2.1 8), .int x1, .int x2] : List Value).toArray meth c := ⟨⟨hx, hb, hr, hml, hown, hts, hlk⟩, hK, hP⟩
  have hl := lv_entry [.ref (g.2.2.1 8), .int x1, .int x2] (n := 3) (Nat.le_of_ble_eq_true rfl)
  rw [lg_entry_eq]
  generalize (lg_sl [.ref (g.2.2.1 8), .int x1, .int x2] ++ List.replicate (3 - (lg_sl [.ref (g.2.2.1 8), .int x1, .int x2]).length) Slot.unset).toArray = ls at hl ⊢
  have hl : lv_has ls 3 [(0, .ref (g.2.2.1 8)), (1, .int x1), (2, .int x2)] := hl
  unfold f_X8_sure at hf
  refine lv_iload_n (pc := 0) hx hb dX8_sure_0 rfl (lv_at hl 1 rfl) ?_
  obtain ⟨r1, e1, hf⟩ := bdE hf
  refine ksI (pc := 1) (As := [.int x1]) (rest := []) ⟨hx, hb, hml, hown, hts⟩ (c_X8_isRow l N x1 r1 e1) (va_cwS 1 hts gX8_sure_X8_isRow rfl rfl rfl h_X8_isRow ⟨Nat.le_of_ble_eq_true rfl, Nat.le_of_ble_eq_true rfl⟩) rfl hl.1 rfl (Nat.le_of_ble_eq_true rfl) dX8_sure_1 ⟨Nat.zero_le _, Nat.zero_le _⟩ ?_
  refine lv_if_eq (tgt := 19) (pc := 4) hx hb dX8_sure_4 (by decide) (fun c4 => ?_) (fun c4 => ?_)
  · have hf := ft hf c4
    exact w_X8_sure_19 C  ls  (lv_sub hl [] rfl) hf
  · have hf := ff hf c4
    refine lv_iload_n (pc := 7) hx hb dX8_sure_7 rfl (lv_at hl 2 rfl) ?_
    obtain ⟨r8, e8, hf⟩ := bdE hf
    refine ksI (pc := 8) (As := [.int x2]) (rest := []) ⟨hx, hb, hml, hown, hts⟩ (c_X8_isRow l N x2 r8 e8) (va_cwS 1 hts gX8_sure_X8_isRow rfl rfl rfl h_X8_isRow ⟨Nat.le_of_ble_eq_true rfl, Nat.le_of_ble_eq_true rfl⟩) rfl hl.1 rfl (Nat.le_of_ble_eq_true rfl) dX8_sure_8 ⟨Nat.zero_le _, Nat.zero_le _⟩ ?_
    refine lv_if_eq (tgt := 19) (pc := 11) hx hb dX8_sure_11 (by decide) (fun c11 => ?_) (fun c11 => ?_)
    · have hf := ft hf c11
      exact w_X8_sure_19 C  ls  (lv_sub hl [] rfl) hf
    · have hf := ff hf c11
      refine lv_iload_n (pc := 14) hx hb dX8_sure_14 rfl (lv_at hl 1 rfl) ?_
      refine lv_iload_n (pc := 15) hx hb dX8_sure_15 rfl (lv_at hl 2 rfl) ?_
      refine lv_icmp_ne (tgt := 23) (pc := 16) hx hb dX8_sure_16 (by decide) (fun c16 => ?_) (fun c16 => ?_)
      · have hf := ff hf c16
        refine lv_aload_n (pc := 23) hx hb dX8_sure_23 rfl (lv_at hl 0 rfl) ?_
        refine lv_iload_n (pc := 24) hx hb dX8_sure_24 rfl (lv_at hl 1 rfl) ?_
        refine lv_iload_n (pc := 25) hx hb dX8_sure_25 rfl (lv_at hl 2 rfl) ?_
        obtain ⟨r26, e26, hf⟩ := bdE hf
        refine krI (g := g) (wc := (wd_8 g S8)) (pc := 26) (As := [.int x1, .int x2]) (rest := []) ⟨hx, hb, hml, hown, hts⟩ (c_X8_isSure l g N S8 x1 x2 r26 e26) (cwV 2 hts gX8_sure_X8_isSure rfl rfl rfl h_X8_isSure ⟨Nat.le_of_ble_eq_true rfl, Nat.le_of_ble_eq_true rfl⟩) hK hP rfl rfl rfl hl.1 rfl (Nat.le_of_ble_eq_true rfl) dX8_sure_26 ⟨Nat.zero_le _, Nat.zero_le _⟩ ?_
        refine lv_if_eq (tgt := 36) (pc := 29) hx hb dX8_sure_29 (by decide) (fun c29 => ?_) (fun c29 => ?_)
        · have hf := ft hf c29
          refine lv_iconst (v := 0) (pc := 36) hx hb dX8_sure_36 (by decide) ?_
          have hf := Option.some.inj hf
          subst hf
          exact W.iret (v := 0) hx hb hr (fun t ht hW => ⟨_, rfl, rfl, ht⟩) (fun _ h => by cases h) dX8_sure_37
        · have hf := ff hf c29
          refine lv_iconst (v := 1) (pc := 32) hx hb dX8_sure_32 (by decide) ?_
          refine lv_goto (tgt := 37) (pc := 33) hx hb dX8_sure_33 (by decide) ?_
          have hf := Option.some.inj hf
          subst hf
          exact W.iret (v := 1) hx hb hr (fun t ht hW => ⟨_, rfl, rfl, ht⟩) (fun _ h => by cases h) dX8_sure_37
      · have hf := ft hf c16
        exact w_X8_sure_19 C  ls  (lv_sub hl [] rfl) hf
theorem q_X8_paint_0 : (.fieldLink RX8 23 "PictureCourtModel" "paints" "[I" : Cond) ∈ wsX8_paint := by decide +kernel
theorem h_X8_paint : yX8_paint.cls = RX8 ∧ yX8_paint.cls ≠ "java/lang/invoke/MethodHandle" ∧ yX8_paint.cls ≠ "java/lang/invoke/VarHandle" ∧ (parseMethodDescriptor yX8_paint.desc).map (fun d => d.parameters.length) = some 2 := by decide +kernel
set_option maxHeartbeats 4000000 in
set_option maxRecDepth 100000 in
theorem c_X8_paint (l : Launch) (g : En) (N : Nat) (sz : Nat) (S8 : St) (x1 : Int32) (x2 : Int32) (res : Int32 × St) (hf : f_X8_paint N S8 x1 x2 = some res) : Met l yX8_paint wsX8_paint { frames := 2, cells := 0, slots := 0, locals := 42 } (rwP g (wd_8 g S8) sz [.ref (g.2.2.1 8), .int x1, .int x2]) (rwQi g (wd_8 g (res.2)) (va_A (wd_8 g S8) sz) (res.1)) 0 0 (va_A (wd_8 g S8) sz) := by
  refine Met.ofW (cc := cX8_paint) (maxL := 4) (ret := (some .int)) (by decide) rfl ?_
  intro p e s m args below meth c s₁ B hml hv
  obtain ⟨rfl, hsz, hP, hK, hD0⟩ := hv
  have hx := B.exec
  have hb := B.bytes
  have hr := B.returns
  have hts := atoms_spec (ws := wsX8_paint) B.pre
  have hown : s.vm.findClass RX8 = some m.cls := findClass_of_methodNamed B.named
  have hlk := B.notSynchronized
  subst hsz
  have hD := hD0.self (sz := s.heap.size)
  generalize hAe : va_A (wd_8 g S8) s.heap.size = A at hD ⊢
  have hA : ∀ q : Nat, s.heap.size ≤ q → A q := fun q h => by rw [← hAe]; exact Or.inr h
  have hS : va_S A s.heap s.heap [] := va_S.rf
  have C : cxw g A cX8_paint 4 (some .int) wsX8_paint RX8 p s m ([.ref (g.2.2.1 8), .int x1, .int x2] : List Value).toArray meth c := ⟨⟨hx, hb, hr, hml, hown, hts, hlk⟩, hK, hA⟩
  have hl := lv_entry [.ref (g.2.2.1 8), .int x1, .int x2] (n := 4) (Nat.le_of_ble_eq_true rfl)
  rw [lg_entry_eq]
  generalize (lg_sl [.ref (g.2.2.1 8), .int x1, .int x2] ++ List.replicate (4 - (lg_sl [.ref (g.2.2.1 8), .int x1, .int x2]).length) Slot.unset).toArray = ls at hl ⊢
  have hl : lv_has ls 4 [(0, .ref (g.2.2.1 8)), (1, .int x1), (2, .int x2)] := hl
  unfold f_X8_paint at hf
  suffices K9 : ∀ (H : Heap) (locs : List Loc), va_P g.1 vwCl (wd_8 g S8) H → va_D A (wd_8 g S8) → va_S A s.heap H locs → ((f_X8_in N x1 0 9).bind (fun r4 => (if r4 = 0 then some ((-1), S8) else ((f_X8_isYear N x2).bind (fun r11 => (if r11 = 0 then some ((-1), S8) else (if inb x1 10 = true then (if inb x1 10 = true then some (((S8.2.2 9) (Int32.toNatClampNeg x1)), (sA S8 9 (upd (S8.2.2 9) (Int32.toNatClampNeg x1) x2))) else none) else none))))))) = some res → W p l e (headSpec wsX8_paint { frames := 2, cells := 0, slots := 0, locals := 42 }).room s m ([.ref (g.2.2.1 8), .int x1, .int x2] : List Value).toArray below meth c H locs 0 0 (MQ below (rwQi g (wd_8 g (res.2)) A (res.1)) ([.ref (g.2.2.1 8), .int x1, .int x2] : List Value).toArray s 0 0 A) (F0 m 0 ls []) from K9 s.heap [] hP hD hS hf
  clear hP hD hS hf
  intro H locs hP hD hS hf
  refine lv_iload_n (pc := 0) hx hb dX8_paint_0 rfl (lv_at hl 1 rfl) ?_
  refine lv_iconst (v := 0) (pc := 1) hx hb dX8_paint_1 (by decide) ?_
  refine lv_bipush (v := 9) (pc := 2) hx hb dX8_paint_2 (by decide) ?_
  obtain ⟨r4, e4, hf⟩ := bdE hf
  refine ksI (pc := 4) (As := [.int x1, .int 0, .int 9]) (rest := []) ⟨hx, hb, hml, hown, hts⟩ (c_X8_in l N x1 0 9 r4 e4) (va_cwS 3 hts gX8_paint_X8_in rfl rfl rfl h_X8_in ⟨Nat.le_of_ble_eq_true rfl, Nat.le_of_ble_eq_true rfl⟩) rfl hl.1 rfl (Nat.le_of_ble_eq_true rfl) dX8_paint_4 ⟨Nat.zero_le _, Nat.zero_le _⟩ ?_
  refine lv_if_eq (tgt := 17) (pc := 7) hx hb dX8_paint_7 (by decide) (fun c7 => ?_) (fun c7 => ?_)
  · have hf := ft hf c7
    refine lv_iconst (v := (-1)) (pc := 17) hx hb dX8_paint_17 (by decide) ?_
    have hf := Option.some.inj hf
    subst hf
    exact W.iret (v := (-1)) hx hb hr (fun t ht hW => ⟨⟨_, (), rfl, rfl, by rw [ht]; exact hP, va_K.moved hW.alike hK, hD⟩, hS.F ht⟩) hS.2.2 dX8_paint_18
  · have hf := ff hf c7
    refine lv_iload_n (pc := 10) hx hb dX8_paint_10 rfl (lv_at hl 2 rfl) ?_
    obtain ⟨r11, e11, hf⟩ := bdE hf
    refine ksI (pc := 11) (As := [.int x2]) (rest := []) ⟨hx, hb, hml, hown, hts⟩ (c_X8_isYear l N x2 r11 e11) (va_cwS 1 hts gX8_paint_X8_isYear rfl rfl rfl h_X8_isYear ⟨Nat.le_of_ble_eq_true rfl, Nat.le_of_ble_eq_true rfl⟩) rfl hl.1 rfl (Nat.le_of_ble_eq_true rfl) dX8_paint_11 ⟨Nat.zero_le _, Nat.zero_le _⟩ ?_
    refine lv_if_ne (tgt := 19) (pc := 14) hx hb dX8_paint_14 (by decide) (fun c14 => ?_) (fun c14 => ?_)
    · have hf := ff hf c14
      refine lv_aload_n (pc := 19) hx hb dX8_paint_19 rfl (lv_at hl 0 rfl) ?_
      refine va_get (D := g.1) (ci := 8) (v := .ref (g.2.2.2 8 9)) (C := RX8) (T := TX8) (N := 47) (pc := 20) hx hb hts (fun _ h => List.mem_cons_of_mem _ (List.mem_append_right _ h)) hown hK hP 0 rfl rfl 9 (by decide) (hts _ q_X8_paint_0) (fun _ h9 => h9) rfl dX8_paint_20 ?_
      refine lv_iload_n (pc := 23) hx hb dX8_paint_23 rfl (lv_at hl 1 rfl) ?_
      obtain ⟨b24, hf⟩ := gdE hf
      refine va_iald (D := g.1) (tys := tyl g) (f := (S8.2.2 9)) (pc := 24) hx hb hK hP 5 0 rfl rfl (inbV b24) dX8_paint_24 ?_
      refine lv_istore_n (lv' := [(3, .int ((S8.2.2 9) (Int32.toNatClampNeg x1))), (0, .ref (g.2.2.1 8)), (1, .int x1), (2, .int x2)]) (pc := 25) hx hb dX8_paint_25 rfl hl (by decide) rfl (fun ls hl => ?_)
      refine lv_aload_n (pc := 26) hx hb dX8_paint_26 rfl (lv_at hl 1 rfl) ?_
      refine va_get (D := g.1) (ci := 8) (v := .ref (g.2.2.2 8 9)) (C := RX8) (T := TX8) (N := 47) (pc := 27) hx hb hts (fun _ h => List.mem_cons_of_mem _ (List.mem_append_right _ h)) hown hK hP 0 rfl rfl 9 (by decide) (hts _ q_X8_paint_0) (fun _ h9 => h9) rfl dX8_paint_27 ?_
      refine lv_iload_n (pc := 30) hx hb dX8_paint_30 rfl (lv_at hl 2 rfl) ?_
      refine lv_iload_n (pc := 31) hx hb dX8_paint_31 rfl (lv_at hl 3 rfl) ?_
      obtain ⟨b32, hf⟩ := gdE hf
      refine va_iast (D := g.1) (tys := tyl g) (f := (S8.2.2 9)) (pc := 32) hx hb hK hP hD hS 5 0 rfl rfl (inbV b32) dX8_paint_32 (fun H locs hP hD hS => ?_)
      have hP := u_8_8_9P S8 (upd (S8.2.2 9) (Int32.toNatClampNeg x1) x2) hP
      have hD := u_8_8_9D S8 (upd (S8.2.2 9) (Int32.toNatClampNeg x1) x2) hD
      refine lv_iload_n (pc := 33) hx hb dX8_paint_33 rfl (lv_at hl 0 rfl) ?_
      have hf := Option.some.inj hf
      subst hf
      exact W.iret (v := ((S8.2.2 9) (Int32.toNatClampNeg x1))) hx hb hr (fun t ht hW => ⟨⟨_, (), rfl, rfl, by rw [ht]; exact hP, va_K.moved hW.alike hK, hD⟩, hS.F ht⟩) hS.2.2 dX8_paint_34
    · have hf := ft hf c14
      refine lv_iconst (v := (-1)) (pc := 17) hx hb dX8_paint_17 (by decide) ?_
      have hf := Option.some.inj hf
      subst hf
      exact W.iret (v := (-1)) hx hb hr (fun t ht hW => ⟨⟨_, (), rfl, rfl, by rw [ht]; exact hP, va_K.moved hW.alike hK, hD⟩, hS.F ht⟩) hS.2.2 dX8_paint_18
theorem q_X8_sap_0 : (.fieldLink RX8 109 "PictureCourtModel" "sapLeast" "I" : Cond) ∈ wsX8_sap := by decide +kernel
theorem q_X8_sap_1 : (.fieldLink RX8 113 "PictureCourtModel" "sapMost" "I" : Cond) ∈ wsX8_sap := by decide +kernel
theorem q_X8_sap_2 : (.fieldLink RX8 116 "PictureCourtModel" "use" "I" : Cond) ∈ wsX8_sap := by decide +kernel
theorem h_X8_sap : yX8_sap.cls = RX8 ∧ yX8_sap.cls ≠ "java/lang/invoke/MethodHandle" ∧ yX8_sap.cls ≠ "java/lang/invoke/VarHandle" ∧ (parseMethodDescriptor yX8_sap.desc).map (fun d => d.parameters.length) = some 3 := by decide +kernel
set_option maxHeartbeats 4000000 in
set_option maxRecDepth 100000 in
theorem c_X8_sap (l : Launch) (g : En) (N : Nat) (sz : Nat) (S8 : St) (x1 : Int32) (x2 : Int32) (x3 : Int32) (res : Int32 × St) (hf : f_X8_sap N S8 x1 x2 x3 = some res) : Met l yX8_sap wsX8_sap { frames := 1, cells := 0, slots := 0, locals := 22 } (rwP g (wd_8 g S8) sz [.ref (g.2.2.1 8), .int x1, .int x2, .int x3]) (rwQi g (wd_8 g (res.2)) (va_A (wd_8 g S8) sz) (res.1)) 0 0 (va_A (wd_8 g S8) sz) := by
  refine Met.ofW (cc := cX8_sap) (maxL := 4) (ret := (some .int)) (by decide) rfl ?_
  intro p e s m args below meth c s₁ B hml hv
  obtain ⟨rfl, hsz, hP, hK, hD0⟩ := hv
  have hx := B.exec
  have hb := B.bytes
  have hr := B.returns
  have hts := atoms_spec (ws := wsX8_sap) B.pre
  have hown : s.vm.findClass RX8 = some m.cls := findClass_of_methodNamed B.named
  have hlk := B.notSynchronized
  subst hsz
  have hD := hD0.self (sz := s.heap.size)
  generalize hAe : va_A (wd_8 g S8) s.heap.size = A at hD ⊢
  have hA : ∀ q : Nat, s.heap.size ≤ q → A q := fun q h => by rw [← hAe]; exact Or.inr h
  have hS : va_S A s.heap s.heap [] := va_S.rf
  have C : cxw g A cX8_sap 4 (some .int) wsX8_sap RX8 p s m ([.ref (g.2.2.1 8), .int x1, .int x2, .int x3] : List Value).toArray meth c := ⟨⟨hx, hb, hr, hml, hown, hts, hlk⟩, hK, hA⟩
  have hl := lv_entry [.ref (g.2.2.1 8), .int x1, .int x2, .int x3] (n := 4) (Nat.le_of_ble_eq_true rfl)
  rw [lg_entry_eq]
  generalize (lg_sl [.ref (g.2.2.1 8), .int x1, .int x2, .int x3] ++ List.replicate (4 - (lg_sl [.ref (g.2.2.1 8), .int x1, .int x2, .int x3]).length) Slot.unset).toArray = ls at hl ⊢
  have hl : lv_has ls 4 [(0, .ref (g.2.2.1 8)), (1, .int x1), (2, .int x2), (3, .int x3)] := hl
  unfold f_X8_sap at hf
  suffices K9 : ∀ (H : Heap) (locs : List Loc), va_P g.1 vwCl (wd_8 g S8) H → va_D A (wd_8 g S8) → va_S A s.heap H locs → ((f_X8_in N x1 0 60).bind (fun r4 => (if r4 = 0 then some ((-1), S8) else ((f_X8_in N x2 x1 60).bind (fun r14 => (if r14 = 0 then some ((-1), S8) else ((f_X8_in N x3 0 60).bind (fun r24 => (if r24 = 0 then some ((-1), S8) else some (1, (sI (sI (sI S8 10 x1) 11 x2) 12 x3))))))))))) = some res → W p l e (headSpec wsX8_sap { frames := 1, cells := 0, slots := 0, locals := 22 }).room s m ([.ref (g.2.2.1 8), .int x1, .int x2, .int x3] : List Value).toArray below meth c H locs 0 0 (MQ below (rwQi g (wd_8 g (res.2)) A (res.1)) ([.ref (g.2.2.1 8), .int x1, .int x2, .int x3] : List Value).toArray s 0 0 A) (F0 m 0 ls []) from K9 s.heap [] hP hD hS hf
  clear hP hD hS hf
  intro H locs hP hD hS hf
  refine lv_iload_n (pc := 0) hx hb dX8_sap_0 rfl (lv_at hl 1 rfl) ?_
  refine lv_iconst (v := 0) (pc := 1) hx hb dX8_sap_1 (by decide) ?_
  refine lv_bipush (v := 60) (pc := 2) hx hb dX8_sap_2 (by decide) ?_
  obtain ⟨r4, e4, hf⟩ := bdE hf
  refine ksI (pc := 4) (As := [.int x1, .int 0, .int 60]) (rest := []) ⟨hx, hb, hml, hown, hts⟩ (c_X8_in l N x1 0 60 r4 e4) (va_cwS 3 hts gX8_sap_X8_in rfl rfl rfl h_X8_in ⟨Nat.le_of_ble_eq_true rfl, Nat.le_of_ble_eq_true rfl⟩) rfl hl.1 rfl (Nat.le_of_ble_eq_true rfl) dX8_sap_4 ⟨Nat.zero_le _, Nat.zero_le _⟩ ?_
  refine lv_if_eq (tgt := 30) (pc := 7) hx hb dX8_sap_7 (by decide) (fun c7 => ?_) (fun c7 => ?_)
  · have hf := ft hf c7
    refine lv_iconst (v := (-1)) (pc := 30) hx hb dX8_sap_30 (by decide) ?_
    have hf := Option.some.inj hf
    subst hf
    exact W.iret (v := (-1)) hx hb hr (fun t ht hW => ⟨⟨_, (), rfl, rfl, by rw [ht]; exact hP, va_K.moved hW.alike hK, hD⟩, hS.F ht⟩) hS.2.2 dX8_sap_31
  · have hf := ff hf c7
    refine lv_iload_n (pc := 10) hx hb dX8_sap_10 rfl (lv_at hl 2 rfl) ?_
    refine lv_iload_n (pc := 11) hx hb dX8_sap_11 rfl (lv_at hl 1 rfl) ?_
    refine lv_bipush (v := 60) (pc := 12) hx hb dX8_sap_12 (by decide) ?_
    obtain ⟨r14, e14, hf⟩ := bdE hf
    refine ksI (pc := 14) (As := [.int x2, .int x1, .int 60]) (rest := []) ⟨hx, hb, hml, hown, hts⟩ (c_X8_in l N x2 x1 60 r14 e14) (va_cwS 3 hts gX8_sap_X8_in rfl rfl rfl h_X8_in ⟨Nat.le_of_ble_eq_true rfl, Nat.le_of_ble_eq_true rfl⟩) rfl hl.1 rfl (Nat.le_of_ble_eq_true rfl) dX8_sap_14 ⟨Nat.zero_le _, Nat.zero_le _⟩ ?_
    refine lv_if_eq (tgt := 30) (pc := 17) hx hb dX8_sap_17 (by decide) (fun c17 => ?_) (fun c17 => ?_)
    · have hf := ft hf c17
      refine lv_iconst (v := (-1)) (pc := 30) hx hb dX8_sap_30 (by decide) ?_
      have hf := Option.some.inj hf
      subst hf
      exact W.iret (v := (-1)) hx hb hr (fun t ht hW => ⟨⟨_, (), rfl, rfl, by rw [ht]; exact hP, va_K.moved hW.alike hK, hD⟩, hS.F ht⟩) hS.2.2 dX8_sap_31
    · have hf := ff hf c17
      refine lv_iload_n (pc := 20) hx hb dX8_sap_20 rfl (lv_at hl 3 rfl) ?_
      refine lv_iconst (v := 0) (pc := 21) hx hb dX8_sap_21 (by decide) ?_
      refine lv_bipush (v := 60) (pc := 22) hx hb dX8_sap_22 (by decide) ?_
      obtain ⟨r24, e24, hf⟩ := bdE hf
      refine ksI (pc := 24) (As := [.int x3, .int 0, .int 60]) (rest := []) ⟨hx, hb, hml, hown, hts⟩ (c_X8_in l N x3 0 60 r24 e24) (va_cwS 3 hts gX8_sap_X8_in rfl rfl rfl h_X8_in ⟨Nat.le_of_ble_eq_true rfl, Nat.le_of_ble_eq_true rfl⟩) rfl hl.1 rfl (Nat.le_of_ble_eq_true rfl) dX8_sap_24 ⟨Nat.zero_le _, Nat.zero_le _⟩ ?_
      refine lv_if_ne (tgt := 32) (pc := 27) hx hb dX8_sap_27 (by decide) (fun c27 => ?_) (fun c27 => ?_)
      · have hf := ff hf c27
        refine lv_aload_n (pc := 32) hx hb dX8_sap_32 rfl (lv_at hl 0 rfl) ?_
        refine lv_iload_n (pc := 33) hx hb dX8_sap_33 rfl (lv_at hl 1 rfl) ?_
        refine va_put (D := g.1) (ci := 8) (v := .int x1) (ty := .int) (C := RX8) (T := TX8) (N := 47) (pc := 34) hx hb hts (fun _ h => List.mem_cons_of_mem _ (List.mem_append_right _ h)) tyX8 tyX8_ok nmX8 hown hK hP hD hS 0 rfl rfl 10 (by decide) (hts _ q_X8_sap_0) (fun _ h9 => h9) rfl rfl rfl rfl (Nat.le_of_ble_eq_true rfl) dX8_sap_34 (fun H locs hP hD hS => ?_)
        have hP := u_8_8_10P S8 x1 hP
        have hD := u_8_8_10D S8 x1 hD
        refine lv_aload_n (pc := 37) hx hb dX8_sap_37 rfl (lv_at hl 0 rfl) ?_
        refine lv_iload_n (pc := 38) hx hb dX8_sap_38 rfl (lv_at hl 2 rfl) ?_
        refine va_put (D := g.1) (ci := 8) (v := .int x2) (ty := .int) (C := RX8) (T := TX8) (N := 47) (pc := 39) hx hb hts (fun _ h => List.mem_cons_of_mem _ (List.mem_append_right _ h)) tyX8 tyX8_ok nmX8 hown hK hP hD hS 0 rfl rfl 11 (by decide) (hts _ q_X8_sap_1) (fun _ h9 => h9) rfl rfl rfl rfl (Nat.le_of_ble_eq_true rfl) dX8_sap_39 (fun H locs hP hD hS => ?_)
        have hP := u_8_8_11P (sI S8 10 x1) x2 hP
        have hD := u_8_8_11D (sI S8 10 x1) x2 hD
        refine lv_aload_n (pc := 42) hx hb dX8_sap_42 rfl (lv_at hl 0 rfl) ?_
        refine lv_iload_n (pc := 43) hx hb dX8_sap_43 rfl (lv_at hl 3 rfl) ?_
        refine va_put (D := g.1) (ci := 8) (v := .int x3) (ty := .int) (C := RX8) (T := TX8) (N := 47) (pc := 44) hx hb hts (fun _ h => List.mem_cons_of_mem _ (List.mem_append_right _ h)) tyX8 tyX8_ok nmX8 hown hK hP hD hS 0 rfl rfl 12 (by decide) (hts _ q_X8_sap_2) (fun _ h9 => h9) rfl rfl rfl rfl (Nat.le_of_ble_eq_true rfl) dX8_sap_44 (fun H locs hP hD hS => ?_)
        have hP := u_8_8_12P (sI (sI S8 10 x1) 11 x2) x3 hP
        have hD := u_8_8_12D (sI (sI S8 10 x1) 11 x2) x3 hD
        refine lv_iconst (v := 1) (pc := 47) hx hb dX8_sap_47 (by decide) ?_
        have hf := Option.some.inj hf
        subst hf
        exact W.iret (v := 1) hx hb hr (fun t ht hW => ⟨⟨_, (), rfl, rfl, by rw [ht]; exact hP, va_K.moved hW.alike hK, hD⟩, hS.F ht⟩) hS.2.2 dX8_sap_48
      · have hf := ft hf c27
        refine lv_iconst (v := (-1)) (pc := 30) hx hb dX8_sap_30 (by decide) ?_
        have hf := Option.some.inj hf
        subst hf
        exact W.iret (v := (-1)) hx hb hr (fun t ht hW => ⟨⟨_, (), rfl, rfl, by rw [ht]; exact hP, va_K.moved hW.alike hK, hD⟩, hS.F ht⟩) hS.2.2 dX8_sap_31
theorem q_X8_comes_0 : (.fieldLink RX8 167 "PictureCourtModel" "proofs" "I" : Cond) ∈ wsX8_comes := by decide +kernel
theorem q_X8_comes_1 : (.fieldLink RX8 26 "PictureCourtModel" "kindOf" "[I" : Cond) ∈ wsX8_comes := by decide +kernel
theorem q_X8_comes_2 : (.fieldLink RX8 29 "PictureCourtModel" "weightOf" "[I" : Cond) ∈ wsX8_comes := by decide +kernel
theorem q_X8_comes_3 : (.fieldLink RX8 32 "PictureCourtModel" "toldOn" "[I" : Cond) ∈ wsX8_comes := by decide +kernel
theorem q_X8_comes_4 : (.fieldLink RX8 135 "PictureCourtModel" "today" "I" : Cond) ∈ wsX8_comes := by decide +kernel
theorem q_X8_comes_5 : (.fieldLink RX8 35 "PictureCourtModel" "struckOn" "[I" : Cond) ∈ wsX8_comes := by decide +kernel
theorem q_X8_comes_6 : (.fieldLink RX8 38 "PictureCourtModel" "one" "[I" : Cond) ∈ wsX8_comes := by decide +kernel
theorem q_X8_comes_7 : (.fieldLink RX8 41 "PictureCourtModel" "two" "[I" : Cond) ∈ wsX8_comes := by decide +kernel
theorem q_X8_comes_8 : (.fieldLink RX8 44 "PictureCourtModel" "three" "[I" : Cond) ∈ wsX8_comes := by decide +kernel
theorem q_X8_comes_9 : (.fieldLink RX8 47 "PictureCourtModel" "four" "[I" : Cond) ∈ wsX8_comes := by decide +kernel
theorem h_X8_comes : yX8_comes.cls = RX8 ∧ yX8_comes.cls ≠ "java/lang/invoke/MethodHandle" ∧ yX8_comes.cls ≠ "java/lang/invoke/VarHandle" ∧ (parseMethodDescriptor yX8_comes.desc).map (fun d => d.parameters.length) = some 7 := by decide +kernel
set_option maxHeartbeats 4000000 in
set_option maxRecDepth 100000 in
theorem c_X8_comes (l : Launch) (g : En) (N : Nat) (sz : Nat) (S8 : St) (x1 : Int32) (x2 : Int32) (x3 : Int32) (x4 : Int32) (x5 : Int32) (x6 : Int32) (x7 : Int32) (res : Int32 × St) (hf : f_X8_comes N S8 x1 x2 x3 x4 x5 x6 x7 = some res) : Met l yX8_comes wsX8_comes { frames := 1, cells := 0, slots := 0, locals := 22 } (rwP g (wd_8 g S8) sz [.ref (g.2.2.1 8), .int x1, .int x2, .int x3, .int x4, .int x5, .int x6, .int x7]) (rwQi g (wd_8 g (res.2)) (va_A (wd_8 g S8) sz) (res.1)) 0 0 (va_A (wd_8 g S8) sz) := by
  refine Met.ofW (cc := cX8_comes) (maxL := 8) (ret := (some .int)) (by decide) rfl ?_
  intro p e s m args below meth c s₁ B hml hv
  obtain ⟨rfl, hsz, hP, hK, hD0⟩ := hv
  have hx := B.exec
  have hb := B.bytes
  have hr := B.returns
  have hts := atoms_spec (ws := wsX8_comes) B.pre
  have hown : s.vm.findClass RX8 = some m.cls := findClass_of_methodNamed B.named
  have hlk := B.notSynchronized
  subst hsz
  have hD := hD0.self (sz := s.heap.size)
  generalize hAe : va_A (wd_8 g S8) s.heap.size = A at hD ⊢
  have hA : ∀ q : Nat, s.heap.size ≤ q → A q := fun q h => by rw [← hAe]; exact Or.inr h
  have hS : va_S A s.heap s.heap [] := va_S.rf
  have C : cxw g A cX8_comes 8 (some .int) wsX8_comes RX8 p s m ([.ref (g.2.2.1 8), .int x1, .int x2, .int x3, .int x4, .int x5, .int x6, .int x7] : List Value).toArray meth c := ⟨⟨hx, hb, hr, hml, hown, hts, hlk⟩, hK, hA⟩
  have hl := lv_entry [.ref (g.2.2.1 8), .int x1, .int x2, .int x3, .int x4, .int x5, .int x6, .int x7] (n := 8) (Nat.le_of_ble_eq_true rfl)
  rw [lg_entry_eq]
  generalize (lg_sl [.ref (g.2.2.1 8), .int x1, .int x2, .int x3, .int x4, .int x5, .int x6, .int x7] ++ List.replicate (8 - (lg_sl [.ref (g.2.2.1 8), .int x1, .int x2, .int x3, .int x4, .int x5, .int x6, .int x7]).length) Slot.unset).toArray = ls at hl ⊢
  have hl : lv_has ls 8 [(0, .ref (g.2.2.1 8)), (1, .int x1), (2, .int x2), (3, .int x3), (4, .int x4), (5, .int x5), (6, .int x6), (7, .int x7)] := hl
  unfold f_X8_comes at hf
  suffices K9 : ∀ (H : Heap) (locs : List Loc), va_P g.1 vwCl (wd_8 g S8) H → va_D A (wd_8 g S8) → va_S A s.heap H locs → (if x1 = 0 then some ((-1), S8) else ((f_X8_in N x3 1 9).bind (fun r8 => (if r8 = 0 then some ((-1), S8) else (if (S8.1 13) = 24 then some ((-2), S8) else (if inb (S8.1 13) 24 = true then (if inb (S8.1 13) 24 = true then (if inb (S8.1 13) 24 = true then (if inb (S8.1 13) 24 = true then (if inb (S8.1 13) 24 = true then (if inb (S8.1 13) 24 = true then (if inb (S8.1 13) 24 = true then (if inb (S8.1 13) 24 = true then some ((((S8.1 13) + 1) - 1), (sI (sA (sA (sA (sA (sA (sA (sA (sA S8 14 (upd (S8.2.2 14) (Int32.toNatClampNeg (S8.1 13)) x2)) 15 (upd (S8.2.2 15) (Int32.toNatClampNeg (S8.1 13)) x3)) 16 (upd (S8.2.2 16) (Int32.toNatClampNeg (S8.1 13)) (S8.1 5))) 17 (upd (S8.2.2 17) (Int32.toNatClampNeg (S8.1 13)) (-9))) 18 (upd (S8.2.2 18) (Int32.toNatClampNeg (S8.1 13)) x4)) 19 (upd (S8.2.2 19) (Int32.toNatClampNeg (S8.1 13)) x5)) 20 (upd (S8.2.2 20) (Int32.toNatClampNeg (S8.1 13)) x6)) 21 (upd (S8.2.2 21) (Int32.toNatClampNeg (S8.1 13)) x7)) 13 ((S8.1 13) + 1))) else none) else none) else none) else none) else none) else none) else none) else none)))))) = some res → W p l e (headSpec wsX8_comes { frames := 1, cells := 0, slots := 0, locals := 22 }).room s m ([.ref (g.2.2.1 8), .int x1, .int x2, .int x3, .int x4, .int x5, .int x6, .int x7] : List Value).toArray below meth c H locs 0 0 (MQ below (rwQi g (wd_8 g (res.2)) A (res.1)) ([.ref (g.2.2.1 8), .int x1, .int x2, .int x3, .int x4, .int x5, .int x6, .int x7] : List Value).toArray s 0 0 A) (F0 m 0 ls []) from K9 s.heap [] hP hD hS hf
  clear hP hD hS hf
  intro H locs hP hD hS hf
  refine lv_iload_n (pc := 0) hx hb dX8_comes_0 rfl (lv_at hl 1 rfl) ?_
  refine lv_if_eq (tgt := 14) (pc := 1) hx hb dX8_comes_1 (by decide) (fun c1 => ?_) (fun c1 => ?_)
  · have hf := ft hf c1
    refine lv_iconst (v := (-1)) (pc := 14) hx hb dX8_comes_14 (by decide) ?_
    have hf := Option.some.inj hf
    subst hf
    exact W.iret (v := (-1)) hx hb hr (fun t ht hW => ⟨⟨_, (), rfl, rfl, by rw [ht]; exact hP, va_K.moved hW.alike hK, hD⟩, hS.F ht⟩) hS.2.2 dX8_comes_15
  · have hf := ff hf c1
    refine lv_iload_n (pc := 4) hx hb dX8_comes_4 rfl (lv_at hl 3 rfl) ?_
    refine lv_iconst (v := 1) (pc := 5) hx hb dX8_comes_5 (by decide) ?_
    refine lv_bipush (v := 9) (pc := 6) hx hb dX8_comes_6 (by decide) ?_
    obtain ⟨r8, e8, hf⟩ := bdE hf
    refine ksI (pc := 8) (As := [.int x3, .int 1, .int 9]) (rest := []) ⟨hx, hb, hml, hown, hts⟩ (c_X8_in l N x3 1 9 r8 e8) (va_cwS 3 hts gX8_comes_X8_in rfl rfl rfl h_X8_in ⟨Nat.le_of_ble_eq_true rfl, Nat.le_of_ble_eq_true rfl⟩) rfl hl.1 rfl (Nat.le_of_ble_eq_true rfl) dX8_comes_8 ⟨Nat.zero_le _, Nat.zero_le _⟩ ?_
    refine lv_if_ne (tgt := 16) (pc := 11) hx hb dX8_comes_11 (by decide) (fun c11 => ?_) (fun c11 => ?_)
    · have hf := ff hf c11
      refine lv_aload_n (pc := 16) hx hb dX8_comes_16 rfl (lv_at hl 0 rfl) ?_
      refine va_get (D := g.1) (ci := 8) (v := .int (S8.1 13)) (C := RX8) (T := TX8) (N := 47) (pc := 17) hx hb hts (fun _ h => List.mem_cons_of_mem _ (List.mem_append_right _ h)) hown hK hP 0 rfl rfl 13 (by decide) (hts _ q_X8_comes_0) (fun _ h9 => h9) rfl dX8_comes_17 ?_
      refine lv_bipush (v := 24) (pc := 20) hx hb dX8_comes_20 (by decide) ?_
      refine lv_icmp_ne (tgt := 28) (pc := 22) hx hb dX8_comes_22 (by decide) (fun c22 => ?_) (fun c22 => ?_)
      · have hf := ff hf c22
        refine lv_aload_n (pc := 28) hx hb dX8_comes_28 rfl (lv_at hl 0 rfl) ?_
        refine va_get (D := g.1) (ci := 8) (v := .ref (g.2.2.2 8 14)) (C := RX8) (T := TX8) (N := 47) (pc := 29) hx hb hts (fun _ h => List.mem_cons_of_mem _ (List.mem_append_right _ h)) hown hK hP 0 rfl rfl 14 (by decide) (hts _ q_X8_comes_1) (fun _ h9 => h9) rfl dX8_comes_29 ?_
        refine lv_aload_n (pc := 32) hx hb dX8_comes_32 rfl (lv_at hl 0 rfl) ?_
        refine va_get (D := g.1) (ci := 8) (v := .int (S8.1 13)) (C := RX8) (T := TX8) (N := 47) (pc := 33) hx hb hts (fun _ h => List.mem_cons_of_mem _ (List.mem_append_right _ h)) hown hK hP 0 rfl rfl 13 (by decide) (hts _ q_X8_comes_0) (fun _ h9 => h9) rfl dX8_comes_33 ?_
        refine lv_iload_n (pc := 36) hx hb dX8_comes_36 rfl (lv_at hl 2 rfl) ?_
        obtain ⟨b37, hf⟩ := gdE hf
        refine va_iast (D := g.1) (tys := tyl g) (f := (S8.2.2 14)) (pc := 37) hx hb hK hP hD hS 6 0 rfl rfl (inbV b37) dX8_comes_37 (fun H locs hP hD hS => ?_)
        have hP := u_8_8_14P S8 (upd (S8.2.2 14) (Int32.toNatClampNeg (S8.1 13)) x2) hP
        have hD := u_8_8_14D S8 (upd (S8.2.2 14) (Int32.toNatClampNeg (S8.1 13)) x2) hD
        refine lv_aload_n (pc := 38) hx hb dX8_comes_38 rfl (lv_at hl 0 rfl) ?_
        refine va_get (D := g.1) (ci := 8) (v := .ref (g.2.2.2 8 15)) (C := RX8) (T := TX8) (N := 47) (pc := 39) hx hb hts (fun _ h => List.mem_cons_of_mem _ (List.mem_append_right _ h)) hown hK hP 0 rfl rfl 15 (by decide) (hts _ q_X8_comes_2) (fun _ h9 => h9) rfl dX8_comes_39 ?_
        refine lv_aload_n (pc := 42) hx hb dX8_comes_42 rfl (lv_at hl 0 rfl) ?_
        refine va_get (D := g.1) (ci := 8) (v := .int (S8.1 13)) (C := RX8) (T := TX8) (N := 47) (pc := 43) hx hb hts (fun _ h => List.mem_cons_of_mem _ (List.mem_append_right _ h)) hown hK hP 0 rfl rfl 13 (by decide) (hts _ q_X8_comes_0) (fun _ h9 => h9) rfl dX8_comes_43 ?_
        refine lv_iload_n (pc := 46) hx hb dX8_comes_46 rfl (lv_at hl 3 rfl) ?_
        obtain ⟨b47, hf⟩ := gdE hf
        refine va_iast (D := g.1) (tys := tyl g) (f := (S8.2.2 15)) (pc := 47) hx hb hK hP hD hS 7 0 rfl rfl (inbV b47) dX8_comes_47 (fun H locs hP hD hS => ?_)
        have hP := u_8_8_15P (sA S8 14 (upd (S8.2.2 14) (Int32.toNatClampNeg (S8.1 13)) x2)) (upd (S8.2.2 15) (Int32.toNatClampNeg (S8.1 13)) x3) hP
        have hD := u_8_8_15D (sA S8 14 (upd (S8.2.2 14) (Int32.toNatClampNeg (S8.1 13)) x2)) (upd (S8.2.2 15) (Int32.toNatClampNeg (S8.1 13)) x3) hD
        refine lv_aload_n (pc := 48) hx hb dX8_comes_48 rfl (lv_at hl 0 rfl) ?_
        refine va_get (D := g.1) (ci := 8) (v := .ref (g.2.2.2 8 16)) (C := RX8) (T := TX8) (N := 47) (pc := 49) hx hb hts (fun _ h => List.mem_cons_of_mem _ (List.mem_append_right _ h)) hown hK hP 0 rfl rfl 16 (by decide) (hts _ q_X8_comes_3) (fun _ h9 => h9) rfl dX8_comes_49 ?_
        refine lv_aload_n (pc := 52) hx hb dX8_comes_52 rfl (lv_at hl 0 rfl) ?_
        refine va_get (D := g.1) (ci := 8) (v := .int (S8.1 13)) (C := RX8) (T := TX8) (N := 47) (pc := 53) hx hb hts (fun _ h => List.mem_cons_of_mem _ (List.mem_append_right _ h)) hown hK hP 0 rfl rfl 13 (by decide) (hts _ q_X8_comes_0) (fun _ h9 => h9) rfl dX8_comes_53 ?_
        refine lv_aload_n (pc := 56) hx hb dX8_comes_56 rfl (lv_at hl 0 rfl) ?_
        refine va_get (D := g.1) (ci := 8) (v := .int (S8.1 5)) (C := RX8) (T := TX8) (N := 47) (pc := 57) hx hb hts (fun _ h => List.mem_cons_of_mem _ (List.mem_append_right _ h)) hown hK hP 0 rfl rfl 5 (by decide) (hts _ q_X8_comes_4) (fun _ h9 => h9) rfl dX8_comes_57 ?_
        obtain ⟨b60, hf⟩ := gdE hf
        refine va_iast (D := g.1) (tys := tyl g) (f := (S8.2.2 16)) (pc := 60) hx hb hK hP hD hS 8 0 rfl rfl (inbV b60) dX8_comes_60 (fun H locs hP hD hS => ?_)
        have hP := u_8_8_16P (sA (sA S8 14 (upd (S8.2.2 14) (Int32.toNatClampNeg (S8.1 13)) x2)) 15 (upd (S8.2.2 15) (Int32.toNatClampNeg (S8.1 13)) x3)) (upd (S8.2.2 16) (Int32.toNatClampNeg (S8.1 13)) (S8.1 5)) hP
        have hD := u_8_8_16D (sA (sA S8 14 (upd (S8.2.2 14) (Int32.toNatClampNeg (S8.1 13)) x2)) 15 (upd (S8.2.2 15) (Int32.toNatClampNeg (S8.1 13)) x3)) (upd (S8.2.2 16) (Int32.toNatClampNeg (S8.1 13)) (S8.1 5)) hD
        refine lv_aload_n (pc := 61) hx hb dX8_comes_61 rfl (lv_at hl 0 rfl) ?_
        refine va_get (D := g.1) (ci := 8) (v := .ref (g.2.2.2 8 17)) (C := RX8) (T := TX8) (N := 47) (pc := 62) hx hb hts (fun _ h => List.mem_cons_of_mem _ (List.mem_append_right _ h)) hown hK hP 0 rfl rfl 17 (by decide) (hts _ q_X8_comes_5) (fun _ h9 => h9) rfl dX8_comes_62 ?_
        refine lv_aload_n (pc := 65) hx hb dX8_comes_65 rfl (lv_at hl 0 rfl) ?_
        refine va_get (D := g.1) (ci := 8) (v := .int (S8.1 13)) (C := RX8) (T := TX8) (N := 47) (pc := 66) hx hb hts (fun _ h => List.mem_cons_of_mem _ (List.mem_append_right _ h)) hown hK hP 0 rfl rfl 13 (by decide) (hts _ q_X8_comes_0) (fun _ h9 => h9) rfl dX8_comes_66 ?_
        refine lv_bipush (v := (-9)) (pc := 69) hx hb dX8_comes_69 (by decide) ?_
        obtain ⟨b71, hf⟩ := gdE hf
        refine va_iast (D := g.1) (tys := tyl g) (f := (S8.2.2 17)) (pc := 71) hx hb hK hP hD hS 9 0 rfl rfl (inbV b71) dX8_comes_71 (fun H locs hP hD hS => ?_)
        have hP := u_8_8_17P (sA (sA (sA S8 14 (upd (S8.2.2 14) (Int32.toNatClampNeg (S8.1 13)) x2)) 15 (upd (S8.2.2 15) (Int32.toNatClampNeg (S8.1 13)) x3)) 16 (upd (S8.2.2 16) (Int32.toNatClampNeg (S8.1 13)) (S8.1 5))) (upd (S8.2.2 17) (Int32.toNatClampNeg (S8.1 13)) (-9)) hP
        have hD := u_8_8_17D (sA (sA (sA S8 14 (upd (S8.2.2 14) (Int32.toNatClampNeg (S8.1 13)) x2)) 15 (upd (S8.2.2 15) (Int32.toNatClampNeg (S8.1 13)) x3)) 16 (upd (S8.2.2 16) (Int32.toNatClampNeg (S8.1 13)) (S8.1 5))) (upd (S8.2.2 17) (Int32.toNatClampNeg (S8.1 13)) (-9)) hD
        refine lv_aload_n (pc := 72) hx hb dX8_comes_72 rfl (lv_at hl 0 rfl) ?_
        refine va_get (D := g.1) (ci := 8) (v := .ref (g.2.2.2 8 18)) (C := RX8) (T := TX8) (N := 47) (pc := 73) hx hb hts (fun _ h => List.mem_cons_of_mem _ (List.mem_append_right _ h)) hown hK hP 0 rfl rfl 18 (by decide) (hts _ q_X8_comes_6) (fun _ h9 => h9) rfl dX8_comes_73 ?_
        refine lv_aload_n (pc := 76) hx hb dX8_comes_76 rfl (lv_at hl 0 rfl) ?_
        refine va_get (D := g.1) (ci := 8) (v := .int (S8.1 13)) (C := RX8) (T := TX8) (N := 47) (pc := 77) hx hb hts (fun _ h => List.mem_cons_of_mem _ (List.mem_append_right _ h)) hown hK hP 0 rfl rfl 13 (by decide) (hts _ q_X8_comes_0) (fun _ h9 => h9) rfl dX8_comes_77 ?_
        refine lv_iload (pc := 80) hx hb dX8_comes_80 (lv_at hl 4 rfl) ?_
        obtain ⟨b82, hf⟩ := gdE hf
        refine va_iast (D := g.1) (tys := tyl g) (f := (S8.2.2 18)) (pc := 82) hx hb hK hP hD hS 10 0 rfl rfl (inbV b82) dX8_comes_82 (fun H locs hP hD hS => ?_)
        have hP := u_8_8_18P (sA (sA (sA (sA S8 14 (upd (S8.2.2 14) (Int32.toNatClampNeg (S8.1 13)) x2)) 15 (upd (S8.2.2 15) (Int32.toNatClampNeg (S8.1 13)) x3)) 16 (upd (S8.2.2 16) (Int32.toNatClampNeg (S8.1 13)) (S8.1 5))) 17 (upd (S8.2.2 17) (Int32.toNatClampNeg (S8.1 13)) (-9))) (upd (S8.2.2 18) (Int32.toNatClampNeg (S8.1 13)) x4) hP
        have hD := u_8_8_18D (sA (sA (sA (sA S8 14 (upd (S8.2.2 14) (Int32.toNatClampNeg (S8.1 13)) x2)) 15 (upd (S8.2.2 15) (Int32.toNatClampNeg (S8.1 13)) x3)) 16 (upd (S8.2.2 16) (Int32.toNatClampNeg (S8.1 13)) (S8.1 5))) 17 (upd (S8.2.2 17) (Int32.toNatClampNeg (S8.1 13)) (-9))) (upd (S8.2.2 18) (Int32.toNatClampNeg (S8.1 13)) x4) hD
        refine lv_aload_n (pc := 83) hx hb dX8_comes_83 rfl (lv_at hl 0 rfl) ?_
        refine va_get (D := g.1) (ci := 8) (v := .ref (g.2.2.2 8 19)) (C := RX8) (T := TX8) (N := 47) (pc := 84) hx hb hts (fun _ h => List.mem_cons_of_mem _ (List.mem_append_right _ h)) hown hK hP 0 rfl rfl 19 (by decide) (hts _ q_X8_comes_7) (fun _ h9 => h9) rfl dX8_comes_84 ?_
        refine lv_aload_n (pc := 87) hx hb dX8_comes_87 rfl (lv_at hl 0 rfl) ?_
        refine va_get (D := g.1) (ci := 8) (v := .int (S8.1 13)) (C := RX8) (T := TX8) (N := 47) (pc := 88) hx hb hts (fun _ h => List.mem_cons_of_mem _ (List.mem_append_right _ h)) hown hK hP 0 rfl rfl 13 (by decide) (hts _ q_X8_comes_0) (fun _ h9 => h9) rfl dX8_comes_88 ?_
        refine lv_iload (pc := 91) hx hb dX8_comes_91 (lv_at hl 5 rfl) ?_
        obtain ⟨b93, hf⟩ := gdE hf
        refine va_iast (D := g.1) (tys := tyl g) (f := (S8.2.2 19)) (pc := 93) hx hb hK hP hD hS 11 0 rfl rfl (inbV b93) dX8_comes_93 (fun H locs hP hD hS => ?_)
        have hP := u_8_8_19P (sA (sA (sA (sA (sA S8 14 (upd (S8.2.2 14) (Int32.toNatClampNeg (S8.1 13)) x2)) 15 (upd (S8.2.2 15) (Int32.toNatClampNeg (S8.1 13)) x3)) 16 (upd (S8.2.2 16) (Int32.toNatClampNeg (S8.1 13)) (S8.1 5))) 17 (upd (S8.2.2 17) (Int32.toNatClampNeg (S8.1 13)) (-9))) 18 (upd (S8.2.2 18) (Int32.toNatClampNeg (S8.1 13)) x4)) (upd (S8.2.2 19) (Int32.toNatClampNeg (S8.1 13)) x5) hP
        have hD := u_8_8_19D (sA (sA (sA (sA (sA S8 14 (upd (S8.2.2 14) (Int32.toNatClampNeg (S8.1 13)) x2)) 15 (upd (S8.2.2 15) (Int32.toNatClampNeg (S8.1 13)) x3)) 16 (upd (S8.2.2 16) (Int32.toNatClampNeg (S8.1 13)) (S8.1 5))) 17 (upd (S8.2.2 17) (Int32.toNatClampNeg (S8.1 13)) (-9))) 18 (upd (S8.2.2 18) (Int32.toNatClampNeg (S8.1 13)) x4)) (upd (S8.2.2 19) (Int32.toNatClampNeg (S8.1 13)) x5) hD
        refine lv_aload_n (pc := 94) hx hb dX8_comes_94 rfl (lv_at hl 0 rfl) ?_
        refine va_get (D := g.1) (ci := 8) (v := .ref (g.2.2.2 8 20)) (C := RX8) (T := TX8) (N := 47) (pc := 95) hx hb hts (fun _ h => List.mem_cons_of_mem _ (List.mem_append_right _ h)) hown hK hP 0 rfl rfl 20 (by decide) (hts _ q_X8_comes_8) (fun _ h9 => h9) rfl dX8_comes_95 ?_
        refine lv_aload_n (pc := 98) hx hb dX8_comes_98 rfl (lv_at hl 0 rfl) ?_
        refine va_get (D := g.1) (ci := 8) (v := .int (S8.1 13)) (C := RX8) (T := TX8) (N := 47) (pc := 99) hx hb hts (fun _ h => List.mem_cons_of_mem _ (List.mem_append_right _ h)) hown hK hP 0 rfl rfl 13 (by decide) (hts _ q_X8_comes_0) (fun _ h9 => h9) rfl dX8_comes_99 ?_
        refine lv_iload (pc := 102) hx hb dX8_comes_102 (lv_at hl 6 rfl) ?_
        obtain ⟨b104, hf⟩ := gdE hf
        refine va_iast (D := g.1) (tys := tyl g) (f := (S8.2.2 20)) (pc := 104) hx hb hK hP hD hS 12 0 rfl rfl (inbV b104) dX8_comes_104 (fun H locs hP hD hS => ?_)
        have hP := u_8_8_20P (sA (sA (sA (sA (sA (sA S8 14 (upd (S8.2.2 14) (Int32.toNatClampNeg (S8.1 13)) x2)) 15 (upd (S8.2.2 15) (Int32.toNatClampNeg (S8.1 13)) x3)) 16 (upd (S8.2.2 16) (Int32.toNatClampNeg (S8.1 13)) (S8.1 5))) 17 (upd (S8.2.2 17) (Int32.toNatClampNeg (S8.1 13)) (-9))) 18 (upd (S8.2.2 18) (Int32.toNatClampNeg (S8.1 13)) x4)) 19 (upd (S8.2.2 19) (Int32.toNatClampNeg (S8.1 13)) x5)) (upd (S8.2.2 20) (Int32.toNatClampNeg (S8.1 13)) x6) hP
        have hD := u_8_8_20D (sA (sA (sA (sA (sA (sA S8 14 (upd (S8.2.2 14) (Int32.toNatClampNeg (S8.1 13)) x2)) 15 (upd (S8.2.2 15) (Int32.toNatClampNeg (S8.1 13)) x3)) 16 (upd (S8.2.2 16) (Int32.toNatClampNeg (S8.1 13)) (S8.1 5))) 17 (upd (S8.2.2 17) (Int32.toNatClampNeg (S8.1 13)) (-9))) 18 (upd (S8.2.2 18) (Int32.toNatClampNeg (S8.1 13)) x4)) 19 (upd (S8.2.2 19) (Int32.toNatClampNeg (S8.1 13)) x5)) (upd (S8.2.2 20) (Int32.toNatClampNeg (S8.1 13)) x6) hD
        refine lv_aload_n (pc := 105) hx hb dX8_comes_105 rfl (lv_at hl 0 rfl) ?_
        refine va_get (D := g.1) (ci := 8) (v := .ref (g.2.2.2 8 21)) (C := RX8) (T := TX8) (N := 47) (pc := 106) hx hb hts (fun _ h => List.mem_cons_of_mem _ (List.mem_append_right _ h)) hown hK hP 0 rfl rfl 21 (by decide) (hts _ q_X8_comes_9) (fun _ h9 => h9) rfl dX8_comes_106 ?_
        refine lv_aload_n (pc := 109) hx hb dX8_comes_109 rfl (lv_at hl 0 rfl) ?_
        refine va_get (D := g.1) (ci := 8) (v := .int (S8.1 13)) (C := RX8) (T := TX8) (N := 47) (pc := 110) hx hb hts (fun _ h => List.mem_cons_of_mem _ (List.mem_append_right _ h)) hown hK hP 0 rfl rfl 13 (by decide) (hts _ q_X8_comes_0) (fun _ h9 => h9) rfl dX8_comes_110 ?_
        refine lv_iload (pc := 113) hx hb dX8_comes_113 (lv_at hl 7 rfl) ?_
        obtain ⟨b115, hf⟩ := gdE hf
        refine va_iast (D := g.1) (tys := tyl g) (f := (S8.2.2 21)) (pc := 115) hx hb hK hP hD hS 13 0 rfl rfl (inbV b115) dX8_comes_115 (fun H locs hP hD hS => ?_)
        have hP := u_8_8_21P (sA (sA (sA (sA (sA (sA (sA S8 14 (upd (S8.2.2 14) (Int32.toNatClampNeg (S8.1 13)) x2)) 15 (upd (S8.2.2 15) (Int32.toNatClampNeg (S8.1 13)) x3)) 16 (upd (S8.2.2 16) (Int32.toNatClampNeg (S8.1 13)) (S8.1 5))) 17 (upd (S8.2.2 17) (Int32.toNatClampNeg (S8.1 13)) (-9))) 18 (upd (S8.2.2 18) (Int32.toNatClampNeg (S8.1 13)) x4)) 19 (upd (S8.2.2 19) (Int32.toNatClampNeg (S8.1 13)) x5)) 20 (upd (S8.2.2 20) (Int32.toNatClampNeg (S8.1 13)) x6)) (upd (S8.2.2 21) (Int32.toNatClampNeg (S8.1 13)) x7) hP
        have hD := u_8_8_21D (sA (sA (sA (sA (sA (sA (sA S8 14 (upd (S8.2.2 14) (Int32.toNatClampNeg (S8.1 13)) x2)) 15 (upd (S8.2.2 15) (Int32.toNatClampNeg (S8.1 13)) x3)) 16 (upd (S8.2.2 16) (Int32.toNatClampNeg (S8.1 13)) (S8.1 5))) 17 (upd (S8.2.2 17) (Int32.toNatClampNeg (S8.1 13)) (-9))) 18 (upd (S8.2.2 18) (Int32.toNatClampNeg (S8.1 13)) x4)) 19 (upd (S8.2.2 19) (Int32.toNatClampNeg (S8.1 13)) x5)) 20 (upd (S8.2.2 20) (Int32.toNatClampNeg (S8.1 13)) x6)) (upd (S8.2.2 21) (Int32.toNatClampNeg (S8.1 13)) x7) hD
        refine lv_aload_n (pc := 116) hx hb dX8_comes_116 rfl (lv_at hl 0 rfl) ?_
        refine lv_dup (pc := 117) hx hb dX8_comes_117 rfl ?_
        refine va_get (D := g.1) (ci := 8) (v := .int (S8.1 13)) (C := RX8) (T := TX8) (N := 47) (pc := 118) hx hb hts (fun _ h => List.mem_cons_of_mem _ (List.mem_append_right _ h)) hown hK hP 0 rfl rfl 13 (by decide) (hts _ q_X8_comes_0) (fun _ h9 => h9) rfl dX8_comes_118 ?_
        refine lv_iconst (v := 1) (pc := 121) hx hb dX8_comes_121 (by decide) ?_
        refine lv_iadd (pc := 122) hx hb dX8_comes_122 ?_
        refine va_put (D := g.1) (ci := 8) (v := .int ((S8.1 13) + 1)) (ty := .int) (C := RX8) (T := TX8) (N := 47) (pc := 123) hx hb hts (fun _ h => List.mem_cons_of_mem _ (List.mem_append_right _ h)) tyX8 tyX8_ok nmX8 hown hK hP hD hS 0 rfl rfl 13 (by decide) (hts _ q_X8_comes_0) (fun _ h9 => h9) rfl rfl rfl rfl (Nat.le_of_ble_eq_true rfl) dX8_comes_123 (fun H locs hP hD hS => ?_)
        have hP := u_8_8_13P (sA (sA (sA (sA (sA (sA (sA (sA S8 14 (upd (S8.2.2 14) (Int32.toNatClampNeg (S8.1 13)) x2)) 15 (upd (S8.2.2 15) (Int32.toNatClampNeg (S8.1 13)) x3)) 16 (upd (S8.2.2 16) (Int32.toNatClampNeg (S8.1 13)) (S8.1 5))) 17 (upd (S8.2.2 17) (Int32.toNatClampNeg (S8.1 13)) (-9))) 18 (upd (S8.2.2 18) (Int32.toNatClampNeg (S8.1 13)) x4)) 19 (upd (S8.2.2 19) (Int32.toNatClampNeg (S8.1 13)) x5)) 20 (upd (S8.2.2 20) (Int32.toNatClampNeg (S8.1 13)) x6)) 21 (upd (S8.2.2 21) (Int32.toNatClampNeg (S8.1 13)) x7)) ((S8.1 13) + 1) hP
        have hD := u_8_8_13D (sA (sA (sA (sA (sA (sA (sA (sA S8 14 (upd (S8.2.2 14) (Int32.toNatClampNeg (S8.1 13)) x2)) 15 (upd (S8.2.2 15) (Int32.toNatClampNeg (S8.1 13)) x3)) 16 (upd (S8.2.2 16) (Int32.toNatClampNeg (S8.1 13)) (S8.1 5))) 17 (upd (S8.2.2 17) (Int32.toNatClampNeg (S8.1 13)) (-9))) 18 (upd (S8.2.2 18) (Int32.toNatClampNeg (S8.1 13)) x4)) 19 (upd (S8.2.2 19) (Int32.toNatClampNeg (S8.1 13)) x5)) 20 (upd (S8.2.2 20) (Int32.toNatClampNeg (S8.1 13)) x6)) 21 (upd (S8.2.2 21) (Int32.toNatClampNeg (S8.1 13)) x7)) ((S8.1 13) + 1) hD
        refine lv_aload_n (pc := 126) hx hb dX8_comes_126 rfl (lv_at hl 0 rfl) ?_
        refine va_get (D := g.1) (ci := 8) (v := .int ((S8.1 13) + 1)) (C := RX8) (T := TX8) (N := 47) (pc := 127) hx hb hts (fun _ h => List.mem_cons_of_mem _ (List.mem_append_right _ h)) hown hK hP 0 rfl rfl 13 (by decide) (hts _ q_X8_comes_0) (fun _ h9 => h9) rfl dX8_comes_127 ?_
        refine lv_iconst (v := 1) (pc := 130) hx hb dX8_comes_130 (by decide) ?_
        refine lv_isub (pc := 131) hx hb dX8_comes_131 ?_
        have hf := Option.some.inj hf
        subst hf
        exact W.iret (v := (((S8.1 13) + 1) - 1)) hx hb hr (fun t ht hW => ⟨⟨_, (), rfl, rfl, by rw [ht]; exact hP, va_K.moved hW.alike hK, hD⟩, hS.F ht⟩) hS.2.2 dX8_comes_132
      · have hf := ft hf c22
        refine lv_bipush (v := (-2)) (pc := 25) hx hb dX8_comes_25 (by decide) ?_
        have hf := Option.some.inj hf
        subst hf
        exact W.iret (v := (-2)) hx hb hr (fun t ht hW => ⟨⟨_, (), rfl, rfl, by rw [ht]; exact hP, va_K.moved hW.alike hK, hD⟩, hS.F ht⟩) hS.2.2 dX8_comes_27
    · have hf := ft hf c11
      refine lv_iconst (v := (-1)) (pc := 14) hx hb dX8_comes_14 (by decide) ?_
      have hf := Option.some.inj hf
      subst hf
      exact W.iret (v := (-1)) hx hb hr (fun t ht hW => ⟨⟨_, (), rfl, rfl, by rw [ht]; exact hP, va_K.moved hW.alike hK, hD⟩, hS.F ht⟩) hS.2.2 dX8_comes_15
theorem h_X8_proof : yX8_proof.cls = RX8 ∧ yX8_proof.cls ≠ "java/lang/invoke/MethodHandle" ∧ yX8_proof.cls ≠ "java/lang/invoke/VarHandle" ∧ (parseMethodDescriptor yX8_proof.desc).map (fun d => d.parameters.length) = some 3 := by decide +kernel
set_option maxHeartbeats 4000000 in
set_option maxRecDepth 100000 in
theorem w_X8_proof_24 {p : Program} {l : Launch} {e : Env} {s : State} {m : MethodId} {args : Array Value} {below : List Frame} {meth : Method} {c : Code} {g : En} {A : Nat → Prop} {N : Nat} {res : Int32 × St} (C : cxw g A cX8_proof 4 (some .int) wsX8_proof RX8 p s m args meth c) : ∀ (H : Heap) (locs : List Loc) (S8 : St) (ls : Array Slot) (x1 : Int32) (x2 : Int32) (x3 : Int32) (t0 : Int32), va_P g.1 vwCl (wd_8 g S8) H → va_D A (wd_8 g S8) → va_S A s.heap H locs → lv_has ls 4 [(1, .int x1), (2, .int x2), (3, .int x3)] → f_X8_proof_24 N   S8 x1 x2 x3 t0 = some res → W p l e (headSpec wsX8_proof { frames := 2, cells := 0, slots := 0, locals := 49 }).room s m args below meth c H locs 0 0 (MQ below (rwQi g (wd_8 g (res.2)) A (res.1)) args s 0 0 A) (F0 m 24 ls [.int t0, .ref (g.2.2.1 8)]) := by
  intro H locs S8 ls x1 x2 x3 t0 hP hD hS hl hf
  obtain ⟨⟨hx, hb, hr, hml, hown, hts, hlk⟩, hK, hA⟩ := id C
  unfold f_X8_proof_24 at hf
  refine lv_iconst (v := 0) (pc := 24) hx hb dX8_proof_24 (by decide) ?_
  refine lv_iload_n (pc := 25) hx hb dX8_proof_25 rfl (lv_at hl 2 rfl) ?_
  refine lv_iload_n (pc := 26) hx hb dX8_proof_26 rfl (lv_at hl 0 rfl) ?_
  refine lv_iload_n (pc := 27) hx hb dX8_proof_27 rfl (lv_at hl 1 rfl) ?_
  refine lv_iconst (v := 0) (pc := 28) hx hb dX8_proof_28 (by decide) ?_
  refine lv_iconst (v := 0) (pc := 29) hx hb dX8_proof_29 (by decide) ?_
  obtain ⟨r30, e30, hf⟩ := bdE hf
  refine kuI (g := g) (A := A) (W0 := (wd_8 g S8)) (w1 := (wd_8 g (r30.2))) (pc := 30) (As := [.int t0, .int 0, .int x3, .int x1, .int x2, .int 0, .int 0]) (rest := []) ⟨hx, hb, hml, hown, hts⟩ hK hA hP hD hS (c_X8_comes l g N H.size S8 t0 0 x3 x1 x2 0 0 r30 e30) (cwV 7 hts gX8_proof_X8_comes rfl rfl rfl h_X8_comes ⟨Nat.le_of_ble_eq_true rfl, Nat.le_of_ble_eq_true rfl⟩) rfl rfl rfl hl.1 rfl (Nat.le_of_ble_eq_true rfl) dX8_proof_30 ⟨Nat.zero_le _, Nat.zero_le _⟩ (fun H locs hP hD hS => ?_)
  have hf := Option.some.inj hf
  subst hf
  exact W.iret (v := (r30.1)) hx hb hr (fun t ht hW => ⟨⟨_, (), rfl, rfl, by rw [ht]; exact hP, va_K.moved hW.alike hK, hD⟩, hS.F ht⟩) hS.2.2 dX8_proof_33
set_option maxHeartbeats 4000000 in
set_option maxRecDepth 100000 in
theorem w_X8_proof_23 {p : Program} {l : Launch} {e : Env} {s : State} {m : MethodId} {args : Array Value} {below : List Frame} {meth : Method} {c : Code} {g : En} {A : Nat → Prop} {N : Nat} {res : Int32 × St} (C : cxw g A cX8_proof 4 (some .int) wsX8_proof RX8 p s m args meth c) : ∀ (H : Heap) (locs : List Loc) (S8 : St) (ls : Array Slot) (x1 : Int32) (x2 : Int32) (x3 : Int32), va_P g.1 vwCl (wd_8 g S8) H → va_D A (wd_8 g S8) → va_S A s.heap H locs → lv_has ls 4 [(1, .int x1), (2, .int x2), (3, .int x3)] → f_X8_proof_23 N   S8 x1 x2 x3 = some res → W p l e (headSpec wsX8_proof { frames := 2, cells := 0, slots := 0, locals := 49 }).room s m args below meth c H locs 0 0 (MQ below (rwQi g (wd_8 g (res.2)) A (res.1)) args s 0 0 A) (F0 m 23 ls [.ref (g.2.2.1 8)]) := by
  intro H locs S8 ls x1 x2 x3 hP hD hS hl hf
  obtain ⟨⟨hx, hb, hr, hml, hown, hts, hlk⟩, hK, hA⟩ := id C
  unfold f_X8_proof_23 at hf
  refine lv_iconst (v := 0) (pc := 23) hx hb dX8_proof_23 (by decide) ?_
  exact w_X8_proof_24 C  H locs S8 ls x1 x2 x3 0 hP hD hS (lv_sub hl [0, 1, 2] rfl) hf
set_option maxHeartbeats 4000000 in
set_option maxRecDepth 100000 in
theorem c_X8_proof (l : Launch) (g : En) (N : Nat) (sz : Nat) (S8 : St) (x1 : Int32) (x2 : Int32) (x3 : Int32) (res : Int32 × St) (hf : f_X8_proof N S8 x1 x2 x3 = some res) : Met l yX8_proof wsX8_proof { frames := 2, cells := 0, slots := 0, locals := 49 } (rwP g (wd_8 g S8) sz [.ref (g.2.2.1 8), .int x1, .int x2, .int x3]) (rwQi g (wd_8 g (res.2)) (va_A (wd_8 g S8) sz) (res.1)) 0 0 (va_A (wd_8 g S8) sz) := by
  refine Met.ofW (cc := cX8_proof) (maxL := 4) (ret := (some .int)) (by decide) rfl ?_
  intro p e s m args below meth c s₁ B hml hv
  obtain ⟨rfl, hsz, hP, hK, hD0⟩ := hv
  have hx := B.exec
  have hb := B.bytes
  have hr := B.returns
  have hts := atoms_spec (ws := wsX8_proof) B.pre
  have hown : s.vm.findClass RX8 = some m.cls := findClass_of_methodNamed B.named
  have hlk := B.notSynchronized
  subst hsz
  have hD := hD0.self (sz := s.heap.size)
  generalize hAe : va_A (wd_8 g S8) s.heap.size = A at hD ⊢
  have hA : ∀ q : Nat, s.heap.size ≤ q → A q := fun q h => by rw [← hAe]; exact Or.inr h
  have hS : va_S A s.heap s.heap [] := va_S.rf
  have C : cxw g A cX8_proof 4 (some .int) wsX8_proof RX8 p s m ([.ref (g.2.2.1 8), .int x1, .int x2, .int x3] : List Value).toArray meth c := ⟨⟨hx, hb, hr, hml, hown, hts, hlk⟩, hK, hA⟩
  have hl := lv_entry [.ref (g.2.2.1 8), .int x1, .int x2, .int x3] (n := 4) (Nat.le_of_ble_eq_true rfl)
  rw [lg_entry_eq]
  generalize (lg_sl [.ref (g.2.2.1 8), .int x1, .int x2, .int x3] ++ List.replicate (4 - (lg_sl [.ref (g.2.2.1 8), .int x1, .int x2, .int x3]).length) Slot.unset).toArray = ls at hl ⊢
  have hl : lv_has ls 4 [(0, .ref (g.2.2.1 8)), (1, .int x1), (2, .int x2), (3, .int x3)] := hl
  unfold f_X8_proof at hf
  suffices K9 : ∀ (H : Heap) (locs : List Loc), va_P g.1 vwCl (wd_8 g S8) H → va_D A (wd_8 g S8) → va_S A s.heap H locs → ((f_X8_isYear N x1).bind (fun r2 => (if r2 = 0 then (f_X8_proof_23 N   S8 x1 x2 x3) else ((f_X8_in N x2 x1 2100).bind (fun r13 => (if r13 = 0 then (f_X8_proof_23 N   S8 x1 x2 x3) else (f_X8_proof_24 N   S8 x1 x2 x3 1))))))) = some res → W p l e (headSpec wsX8_proof { frames := 2, cells := 0, slots := 0, locals := 49 }).room s m ([.ref (g.2.2.1 8), .int x1, .int x2, .int x3] : List Value).toArray below meth c H locs 0 0 (MQ below (rwQi g (wd_8 g (res.2)) A (res.1)) ([.ref (g.2.2.1 8), .int x1, .int x2, .int x3] : List Value).toArray s 0 0 A) (F0 m 0 ls []) from K9 s.heap [] hP hD hS hf
  clear hP hD hS hf
  intro H locs hP hD hS hf
  refine lv_aload_n (pc := 0) hx hb dX8_proof_0 rfl (lv_at hl 0 rfl) ?_
  refine lv_iload_n (pc := 1) hx hb dX8_proof_1 rfl (lv_at hl 1 rfl) ?_
  obtain ⟨r2, e2, hf⟩ := bdE hf
  refine ksI (pc := 2) (As := [.int x1]) (rest := [.ref (g.2.2.1 8)]) ⟨hx, hb, hml, hown, hts⟩ (c_X8_isYear l N x1 r2 e2) (va_cwS 1 hts gX8_proof_X8_isYear rfl rfl rfl h_X8_isYear ⟨Nat.le_of_ble_eq_true rfl, Nat.le_of_ble_eq_true rfl⟩) rfl hl.1 rfl (Nat.le_of_ble_eq_true rfl) dX8_proof_2 ⟨Nat.zero_le _, Nat.zero_le _⟩ ?_
  refine lv_if_eq (tgt := 23) (pc := 5) hx hb dX8_proof_5 (by decide) (fun c5 => ?_) (fun c5 => ?_)
  · have hf := ft hf c5
    exact w_X8_proof_23 C  H locs S8 ls x1 x2 x3 hP hD hS (lv_sub hl [1, 2, 3] rfl) hf
  · have hf := ff hf c5
    refine lv_iload_n (pc := 8) hx hb dX8_proof_8 rfl (lv_at hl 2 rfl) ?_
    refine lv_iload_n (pc := 9) hx hb dX8_proof_9 rfl (lv_at hl 1 rfl) ?_
    refine lv_sipush (v := 2100) (pc := 10) hx hb dX8_proof_10 (by decide) ?_
    obtain ⟨r13, e13, hf⟩ := bdE hf
    refine ksI (pc := 13) (As := [.int x2, .int x1, .int 2100]) (rest := [.ref (g.2.2.1 8)]) ⟨hx, hb, hml, hown, hts⟩ (c_X8_in l N x2 x1 2100 r13 e13) (va_cwS 3 hts gX8_proof_X8_in rfl rfl rfl h_X8_in ⟨Nat.le_of_ble_eq_true rfl, Nat.le_of_ble_eq_true rfl⟩) rfl hl.1 rfl (Nat.le_of_ble_eq_true rfl) dX8_proof_13 ⟨Nat.zero_le _, Nat.zero_le _⟩ ?_
    refine lv_if_eq (tgt := 23) (pc := 16) hx hb dX8_proof_16 (by decide) (fun c16 => ?_) (fun c16 => ?_)
    · have hf := ft hf c16
      exact w_X8_proof_23 C  H locs S8 ls x1 x2 x3 hP hD hS (lv_sub hl [1, 2, 3] rfl) hf
    · have hf := ff hf c16
      refine lv_iconst (v := 1) (pc := 19) hx hb dX8_proof_19 (by decide) ?_
      refine lv_goto (tgt := 24) (pc := 20) hx hb dX8_proof_20 (by decide) ?_
      exact w_X8_proof_24 C  H locs S8 ls x1 x2 x3 1 hP hD hS (lv_sub hl [1, 2, 3] rfl) hf
theorem h_X8_found : yX8_found.cls = RX8 ∧ yX8_found.cls ≠ "java/lang/invoke/MethodHandle" ∧ yX8_found.cls ≠ "java/lang/invoke/VarHandle" ∧ (parseMethodDescriptor yX8_found.desc).map (fun d => d.parameters.length) = some 2 := by decide +kernel
set_option maxHeartbeats 4000000 in
set_option maxRecDepth 100000 in
theorem c_X8_found (l : Launch) (g : En) (N : Nat) (sz : Nat) (S8 : St) (x1 : Int32) (x2 : Int32) (res : Int32 × St) (hf : f_X8_found N S8 x1 x2 = some res) : Met l yX8_found wsX8_found { frames := 2, cells := 0, slots := 0, locals := 49 } (rwP g (wd_8 g S8) sz [.ref (g.2.2.1 8), .int x1, .int x2]) (rwQi g (wd_8 g (res.2)) (va_A (wd_8 g S8) sz) (res.1)) 0 0 (va_A (wd_8 g S8) sz) := by
  refine Met.ofW (cc := cX8_found) (maxL := 3) (ret := (some .int)) (by decide) rfl ?_
  intro p e s m args below meth c s₁ B hml hv
  obtain ⟨rfl, hsz, hP, hK, hD0⟩ := hv
  have hx := B.exec
  have hb := B.bytes
  have hr := B.returns
  have hts := atoms_spec (ws := wsX8_found) B.pre
  have hown : s.vm.findClass RX8 = some m.cls := findClass_of_methodNamed B.named
  have hlk := B.notSynchronized
  subst hsz
  have hD := hD0.self (sz := s.heap.size)
  generalize hAe : va_A (wd_8 g S8) s.heap.size = A at hD ⊢
  have hA : ∀ q : Nat, s.heap.size ≤ q → A q := fun q h => by rw [← hAe]; exact Or.inr h
  have hS : va_S A s.heap s.heap [] := va_S.rf
  have C : cxw g A cX8_found 3 (some .int) wsX8_found RX8 p s m ([.ref (g.2.2.1 8), .int x1, .int x2] : List Value).toArray meth c := ⟨⟨hx, hb, hr, hml, hown, hts, hlk⟩, hK, hA⟩
  have hl := lv_entry [.ref (g.2.2.1 8), .int x1, .int x2] (n := 3) (Nat.le_of_ble_eq_true rfl)
  rw [lg_entry_eq]
  generalize (lg_sl [.ref (g.2.2.1 8), .int x1, .int x2] ++ List.replicate (3 - (lg_sl [.ref (g.2.2.1 8), .int x1, .int x2]).length) Slot.unset).toArray = ls at hl ⊢
  have hl : lv_has ls 3 [(0, .ref (g.2.2.1 8)), (1, .int x1), (2, .int x2)] := hl
  unfold f_X8_found at hf
  suffices K9 : ∀ (H : Heap) (locs : List Loc), va_P g.1 vwCl (wd_8 g S8) H → va_D A (wd_8 g S8) → va_S A s.heap H locs → ((f_X8_in N x1 0 9).bind (fun r5 => ((f_X8_comes N S8 r5 1 x2 x1 0 0 0).bind (fun r14 => some ((r14.1), (r14.2)))))) = some res → W p l e (headSpec wsX8_found { frames := 2, cells := 0, slots := 0, locals := 49 }).room s m ([.ref (g.2.2.1 8), .int x1, .int x2] : List Value).toArray below meth c H locs 0 0 (MQ below (rwQi g (wd_8 g (res.2)) A (res.1)) ([.ref (g.2.2.1 8), .int x1, .int x2] : List Value).toArray s 0 0 A) (F0 m 0 ls []) from K9 s.heap [] hP hD hS hf
  clear hP hD hS hf
  intro H locs hP hD hS hf
  refine lv_aload_n (pc := 0) hx hb dX8_found_0 rfl (lv_at hl 0 rfl) ?_
  refine lv_iload_n (pc := 1) hx hb dX8_found_1 rfl (lv_at hl 1 rfl) ?_
  refine lv_iconst (v := 0) (pc := 2) hx hb dX8_found_2 (by decide) ?_
  refine lv_bipush (v := 9) (pc := 3) hx hb dX8_found_3 (by decide) ?_
  obtain ⟨r5, e5, hf⟩ := bdE hf
  refine ksI (pc := 5) (As := [.int x1, .int 0, .int 9]) (rest := [.ref (g.2.2.1 8)]) ⟨hx, hb, hml, hown, hts⟩ (c_X8_in l N x1 0 9 r5 e5) (va_cwS 3 hts gX8_found_X8_in rfl rfl rfl h_X8_in ⟨Nat.le_of_ble_eq_true rfl, Nat.le_of_ble_eq_true rfl⟩) rfl hl.1 rfl (Nat.le_of_ble_eq_true rfl) dX8_found_5 ⟨Nat.zero_le _, Nat.zero_le _⟩ ?_
  refine lv_iconst (v := 1) (pc := 8) hx hb dX8_found_8 (by decide) ?_
  refine lv_iload_n (pc := 9) hx hb dX8_found_9 rfl (lv_at hl 2 rfl) ?_
  refine lv_iload_n (pc := 10) hx hb dX8_found_10 rfl (lv_at hl 1 rfl) ?_
  refine lv_iconst (v := 0) (pc := 11) hx hb dX8_found_11 (by decide) ?_
  refine lv_iconst (v := 0) (pc := 12) hx hb dX8_found_12 (by decide) ?_
  refine lv_iconst (v := 0) (pc := 13) hx hb dX8_found_13 (by decide) ?_
  obtain ⟨r14, e14, hf⟩ := bdE hf
  refine kuI (g := g) (A := A) (W0 := (wd_8 g S8)) (w1 := (wd_8 g (r14.2))) (pc := 14) (As := [.int r5, .int 1, .int x2, .int x1, .int 0, .int 0, .int 0]) (rest := []) ⟨hx, hb, hml, hown, hts⟩ hK hA hP hD hS (c_X8_comes l g N H.size S8 r5 1 x2 x1 0 0 0 r14 e14) (cwV 7 hts gX8_found_X8_comes rfl rfl rfl h_X8_comes ⟨Nat.le_of_ble_eq_true rfl, Nat.le_of_ble_eq_true rfl⟩) rfl rfl rfl hl.1 rfl (Nat.le_of_ble_eq_true rfl) dX8_found_14 ⟨Nat.zero_le _, Nat.zero_le _⟩ (fun H locs hP hD hS => ?_)
  have hf := Option.some.inj hf
  subst hf
  exact W.iret (v := (r14.1)) hx hb hr (fun t ht hW => ⟨⟨_, (), rfl, rfl, by rw [ht]; exact hP, va_K.moved hW.alike hK, hD⟩, hS.F ht⟩) hS.2.2 dX8_found_17
theorem h_X8_rings : yX8_rings.cls = RX8 ∧ yX8_rings.cls ≠ "java/lang/invoke/MethodHandle" ∧ yX8_rings.cls ≠ "java/lang/invoke/VarHandle" ∧ (parseMethodDescriptor yX8_rings.desc).map (fun d => d.parameters.length) = some 3 := by decide +kernel
set_option maxHeartbeats 4000000 in
set_option maxRecDepth 100000 in
theorem w_X8_rings_29 {p : Program} {l : Launch} {e : Env} {s : State} {m : MethodId} {args : Array Value} {below : List Frame} {meth : Method} {c : Code} {g : En} {A : Nat → Prop} {N : Nat} {res : Int32 × St} (C : cxw g A cX8_rings 4 (some .int) wsX8_rings RX8 p s m args meth c) : ∀ (H : Heap) (locs : List Loc) (S8 : St) (ls : Array Slot) (x1 : Int32) (x2 : Int32) (x3 : Int32) (t0 : Int32), va_P g.1 vwCl (wd_8 g S8) H → va_D A (wd_8 g S8) → va_S A s.heap H locs → lv_has ls 4 [(1, .int x1), (2, .int x2), (3, .int x3)] → f_X8_rings_29 N   S8 x1 x2 x3 t0 = some res → W p l e (headSpec wsX8_rings { frames := 2, cells := 0, slots := 0, locals := 49 }).room s m args below meth c H locs 0 0 (MQ below (rwQi g (wd_8 g (res.2)) A (res.1)) args s 0 0 A) (F0 m 29 ls [.int t0, .ref (g.2.2.1 8)]) := by
  intro H locs S8 ls x1 x2 x3 t0 hP hD hS hl hf
  obtain ⟨⟨hx, hb, hr, hml, hown, hts, hlk⟩, hK, hA⟩ := id C
  unfold f_X8_rings_29 at hf
  refine lv_iconst (v := 2) (pc := 29) hx hb dX8_rings_29 (by decide) ?_
  refine lv_iload_n (pc := 30) hx hb dX8_rings_30 rfl (lv_at hl 2 rfl) ?_
  refine lv_iload_n (pc := 31) hx hb dX8_rings_31 rfl (lv_at hl 0 rfl) ?_
  refine lv_iload_n (pc := 32) hx hb dX8_rings_32 rfl (lv_at hl 1 rfl) ?_
  refine lv_iconst (v := 0) (pc := 33) hx hb dX8_rings_33 (by decide) ?_
  refine lv_iconst (v := 0) (pc := 34) hx hb dX8_rings_34 (by decide) ?_
  obtain ⟨r35, e35, hf⟩ := bdE hf
  refine kuI (g := g) (A := A) (W0 := (wd_8 g S8)) (w1 := (wd_8 g (r35.2))) (pc := 35) (As := [.int t0, .int 2, .int x3, .int x1, .int x2, .int 0, .int 0]) (rest := []) ⟨hx, hb, hml, hown, hts⟩ hK hA hP hD hS (c_X8_comes l g N H.size S8 t0 2 x3 x1 x2 0 0 r35 e35) (cwV 7 hts gX8_rings_X8_comes rfl rfl rfl h_X8_comes ⟨Nat.le_of_ble_eq_true rfl, Nat.le_of_ble_eq_true rfl⟩) rfl rfl rfl hl.1 rfl (Nat.le_of_ble_eq_true rfl) dX8_rings_35 ⟨Nat.zero_le _, Nat.zero_le _⟩ (fun H locs hP hD hS => ?_)
  have hf := Option.some.inj hf
  subst hf
  exact W.iret (v := (r35.1)) hx hb hr (fun t ht hW => ⟨⟨_, (), rfl, rfl, by rw [ht]; exact hP, va_K.moved hW.alike hK, hD⟩, hS.F ht⟩) hS.2.2 dX8_rings_38
set_option maxHeartbeats 4000000 in
set_option maxRecDepth 100000 in
theorem w_X8_rings_28 {p : Program} {l : Launch} {e : Env} {s : State} {m : MethodId} {args : Array Value} {below : List Frame} {meth : Method} {c : Code} {g : En} {A : Nat → Prop} {N : Nat} {res : Int32 × St} (C : cxw g A cX8_rings 4 (some .int) wsX8_rings RX8 p s m args meth c) : ∀ (H : Heap) (locs : List Loc) (S8 : St) (ls : Array Slot) (x1 : Int32) (x2 : Int32) (x3 : Int32), va_P g.1 vwCl (wd_8 g S8) H → va_D A (wd_8 g S8) → va_S A s.heap H locs → lv_has ls 4 [(1, .int x1), (2, .int x2), (3, .int x3)] → f_X8_rings_28 N   S8 x1 x2 x3 = some res → W p l e (headSpec wsX8_rings { frames := 2, cells := 0, slots := 0, locals := 49 }).room s m args below meth c H locs 0 0 (MQ below (rwQi g (wd_8 g (res.2)) A (res.1)) args s 0 0 A) (F0 m 28 ls [.ref (g.2.2.1 8)]) := by
  intro H locs S8 ls x1 x2 x3 hP hD hS hl hf
  obtain ⟨⟨hx, hb, hr, hml, hown, hts, hlk⟩, hK, hA⟩ := id C
  unfold f_X8_rings_28 at hf
  refine lv_iconst (v := 0) (pc := 28) hx hb dX8_rings_28 (by decide) ?_
  exact w_X8_rings_29 C  H locs S8 ls x1 x2 x3 0 hP hD hS (lv_sub hl [0, 1, 2] rfl) hf
set_option maxHeartbeats 4000000 in
set_option maxRecDepth 100000 in
theorem c_X8_rings (l : Launch) (g : En) (N : Nat) (sz : Nat) (S8 : St) (x1 : Int32) (x2 : Int32) (x3 : Int32) (res : Int32 × St) (hf : f_X8_rings N S8 x1 x2 x3 = some res) : Met l yX8_rings wsX8_rings { frames := 2, cells := 0, slots := 0, locals := 49 } (rwP g (wd_8 g S8) sz [.ref (g.2.2.1 8), .int x1, .int x2, .int x3]) (rwQi g (wd_8 g (res.2)) (va_A (wd_8 g S8) sz) (res.1)) 0 0 (va_A (wd_8 g S8) sz) := by
  refine Met.ofW (cc := cX8_rings) (maxL := 4) (ret := (some .int)) (by decide) rfl ?_
  intro p e s m args below meth c s₁ B hml hv
  obtain ⟨rfl, hsz, hP, hK, hD0⟩ := hv
  have hx := B.exec
  have hb := B.bytes
  have hr := B.returns
  have hts := atoms_spec (ws := wsX8_rings) B.pre
  have hown : s.vm.findClass RX8 = some m.cls := findClass_of_methodNamed B.named
  have hlk := B.notSynchronized
  subst hsz
  have hD := hD0.self (sz := s.heap.size)
  generalize hAe : va_A (wd_8 g S8) s.heap.size = A at hD ⊢
  have hA : ∀ q : Nat, s.heap.size ≤ q → A q := fun q h => by rw [← hAe]; exact Or.inr h
  have hS : va_S A s.heap s.heap [] := va_S.rf
  have C : cxw g A cX8_rings 4 (some .int) wsX8_rings RX8 p s m ([.ref (g.2.2.1 8), .int x1, .int x2, .int x3] : List Value).toArray meth c := ⟨⟨hx, hb, hr, hml, hown, hts, hlk⟩, hK, hA⟩
  have hl := lv_entry [.ref (g.2.2.1 8), .int x1, .int x2, .int x3] (n := 4) (Nat.le_of_ble_eq_true rfl)
  rw [lg_entry_eq]
  generalize (lg_sl [.ref (g.2.2.1 8), .int x1, .int x2, .int x3] ++ List.replicate (4 - (lg_sl [.ref (g.2.2.1 8), .int x1, .int x2, .int x3]).length) Slot.unset).toArray = ls at hl ⊢
  have hl : lv_has ls 4 [(0, .ref (g.2.2.1 8)), (1, .int x1), (2, .int x2), (3, .int x3)] := hl
  unfold f_X8_rings at hf
  suffices K9 : ∀ (H : Heap) (locs : List Loc), va_P g.1 vwCl (wd_8 g S8) H → va_D A (wd_8 g S8) → va_S A s.heap H locs → ((f_X8_in N x1 1000 2000).bind (fun r8 => (if r8 = 0 then (f_X8_rings_28 N   S8 x1 x2 x3) else ((f_X8_in N x2 0 30).bind (fun r18 => (if r18 = 0 then (f_X8_rings_28 N   S8 x1 x2 x3) else (f_X8_rings_29 N   S8 x1 x2 x3 1))))))) = some res → W p l e (headSpec wsX8_rings { frames := 2, cells := 0, slots := 0, locals := 49 }).room s m ([.ref (g.2.2.1 8), .int x1, .int x2, .int x3] : List Value).toArray below meth c H locs 0 0 (MQ below (rwQi g (wd_8 g (res.2)) A (res.1)) ([.ref (g.2.2.1 8), .int x1, .int x2, .int x3] : List Value).toArray s 0 0 A) (F0 m 0 ls []) from K9 s.heap [] hP hD hS hf
  clear hP hD hS hf
  intro H locs hP hD hS hf
  refine lv_aload_n (pc := 0) hx hb dX8_rings_0 rfl (lv_at hl 0 rfl) ?_
  refine lv_iload_n (pc := 1) hx hb dX8_rings_1 rfl (lv_at hl 1 rfl) ?_
  refine lv_sipush (v := 1000) (pc := 2) hx hb dX8_rings_2 (by decide) ?_
  refine lv_sipush (v := 2000) (pc := 5) hx hb dX8_rings_5 (by decide) ?_
  obtain ⟨r8, e8, hf⟩ := bdE hf
  refine ksI (pc := 8) (As := [.int x1, .int 1000, .int 2000]) (rest := [.ref (g.2.2.1 8)]) ⟨hx, hb, hml, hown, hts⟩ (c_X8_in l N x1 1000 2000 r8 e8) (va_cwS 3 hts gX8_rings_X8_in rfl rfl rfl h_X8_in ⟨Nat.le_of_ble_eq_true rfl, Nat.le_of_ble_eq_true rfl⟩) rfl hl.1 rfl (Nat.le_of_ble_eq_true rfl) dX8_rings_8 ⟨Nat.zero_le _, Nat.zero_le _⟩ ?_
  refine lv_if_eq (tgt := 28) (pc := 11) hx hb dX8_rings_11 (by decide) (fun c11 => ?_) (fun c11 => ?_)
  · have hf := ft hf c11
    exact w_X8_rings_28 C  H locs S8 ls x1 x2 x3 hP hD hS (lv_sub hl [1, 2, 3] rfl) hf
  · have hf := ff hf c11
    refine lv_iload_n (pc := 14) hx hb dX8_rings_14 rfl (lv_at hl 2 rfl) ?_
    refine lv_iconst (v := 0) (pc := 15) hx hb dX8_rings_15 (by decide) ?_
    refine lv_bipush (v := 30) (pc := 16) hx hb dX8_rings_16 (by decide) ?_
    obtain ⟨r18, e18, hf⟩ := bdE hf
    refine ksI (pc := 18) (As := [.int x2, .int 0, .int 30]) (rest := [.ref (g.2.2.1 8)]) ⟨hx, hb, hml, hown, hts⟩ (c_X8_in l N x2 0 30 r18 e18) (va_cwS 3 hts gX8_rings_X8_in rfl rfl rfl h_X8_in ⟨Nat.le_of_ble_eq_true rfl, Nat.le_of_ble_eq_true rfl⟩) rfl hl.1 rfl (Nat.le_of_ble_eq_true rfl) dX8_rings_18 ⟨Nat.zero_le _, Nat.zero_le _⟩ ?_
    refine lv_if_eq (tgt := 28) (pc := 21) hx hb dX8_rings_21 (by decide) (fun c21 => ?_) (fun c21 => ?_)
    · have hf := ft hf c21
      exact w_X8_rings_28 C  H locs S8 ls x1 x2 x3 hP hD hS (lv_sub hl [1, 2, 3] rfl) hf
    · have hf := ff hf c21
      refine lv_iconst (v := 1) (pc := 24) hx hb dX8_rings_24 (by decide) ?_
      refine lv_goto (tgt := 29) (pc := 25) hx hb dX8_rings_25 (by decide) ?_
      exact w_X8_rings_29 C  H locs S8 ls x1 x2 x3 1 hP hD hS (lv_sub hl [1, 2, 3] rfl) hf
theorem h_X8_threads : yX8_threads.cls = RX8 ∧ yX8_threads.cls ≠ "java/lang/invoke/MethodHandle" ∧ yX8_threads.cls ≠ "java/lang/invoke/VarHandle" ∧ (parseMethodDescriptor yX8_threads.desc).map (fun d => d.parameters.length) = some 5 := by decide +kernel
set_option maxHeartbeats 4000000 in
set_option maxRecDepth 100000 in
theorem w_X8_threads_44 {p : Program} {l : Launch} {e : Env} {s : State} {m : MethodId} {args : Array Value} {below : List Frame} {meth : Method} {c : Code} {g : En} {A : Nat → Prop} {N : Nat} {res : Int32 × St} (C : cxw g A cX8_threads 6 (some .int) wsX8_threads RX8 p s m args meth c) : ∀ (H : Heap) (locs : List Loc) (S8 : St) (ls : Array Slot) (x1 : Int32) (x2 : Int32) (x3 : Int32) (x4 : Int32) (x5 : Int32) (t0 : Int32), va_P g.1 vwCl (wd_8 g S8) H → va_D A (wd_8 g S8) → va_S A s.heap H locs → lv_has ls 6 [(1, .int x1), (2, .int x2), (3, .int x3), (4, .int x4), (5, .int x5)] → f_X8_threads_44 N   S8 x1 x2 x3 x4 x5 t0 = some res → W p l e (headSpec wsX8_threads { frames := 2, cells := 0, slots := 0, locals := 49 }).room s m args below meth c H locs 0 0 (MQ below (rwQi g (wd_8 g (res.2)) A (res.1)) args s 0 0 A) (F0 m 44 ls [.int t0, .ref (g.2.2.1 8)]) := by
  intro H locs S8 ls x1 x2 x3 x4 x5 t0 hP hD hS hl hf
  obtain ⟨⟨hx, hb, hr, hml, hown, hts, hlk⟩, hK, hA⟩ := id C
  unfold f_X8_threads_44 at hf
  refine lv_iconst (v := 3) (pc := 44) hx hb dX8_threads_44 (by decide) ?_
  refine lv_iload (pc := 45) hx hb dX8_threads_45 (lv_at hl 4 rfl) ?_
  refine lv_iload_n (pc := 47) hx hb dX8_threads_47 rfl (lv_at hl 2 rfl) ?_
  refine lv_iload (pc := 48) hx hb dX8_threads_48 (lv_at hl 3 rfl) ?_
  refine lv_iload_n (pc := 50) hx hb dX8_threads_50 rfl (lv_at hl 0 rfl) ?_
  refine lv_iload_n (pc := 51) hx hb dX8_threads_51 rfl (lv_at hl 1 rfl) ?_
  obtain ⟨r52, e52, hf⟩ := bdE hf
  refine kuI (g := g) (A := A) (W0 := (wd_8 g S8)) (w1 := (wd_8 g (r52.2))) (pc := 52) (As := [.int t0, .int 3, .int x5, .int x3, .int x4, .int x1, .int x2]) (rest := []) ⟨hx, hb, hml, hown, hts⟩ hK hA hP hD hS (c_X8_comes l g N H.size S8 t0 3 x5 x3 x4 x1 x2 r52 e52) (cwV 7 hts gX8_threads_X8_comes rfl rfl rfl h_X8_comes ⟨Nat.le_of_ble_eq_true rfl, Nat.le_of_ble_eq_true rfl⟩) rfl rfl rfl hl.1 rfl (Nat.le_of_ble_eq_true rfl) dX8_threads_52 ⟨Nat.zero_le _, Nat.zero_le _⟩ (fun H locs hP hD hS => ?_)
  have hf := Option.some.inj hf
  subst hf
  exact W.iret (v := (r52.1)) hx hb hr (fun t ht hW => ⟨⟨_, (), rfl, rfl, by rw [ht]; exact hP, va_K.moved hW.alike hK, hD⟩, hS.F ht⟩) hS.2.2 dX8_threads_55
set_option maxHeartbeats 4000000 in
set_option maxRecDepth 100000 in
theorem w_X8_threads_43 {p : Program} {l : Launch} {e : Env} {s : State} {m : MethodId} {args : Array Value} {below : List Frame} {meth : Method} {c : Code} {g : En} {A : Nat → Prop} {N : Nat} {res : Int32 × St} (C : cxw g A cX8_threads 6 (some .int) wsX8_threads RX8 p s m args meth c) : ∀ (H : Heap) (locs : List Loc) (S8 : St) (ls : Array Slot) (x1 : Int32) (x2 : Int32) (x3 : Int32) (x4 : Int32) (x5 : Int32), va_P g.1 vwCl (wd_8 g S8) H → va_D A (wd_8 g S8) → va_S A s.heap H locs → lv_has ls 6 [(1, .int x1), (2, .int x2), (3, .int x3), (4, .int x4), (5, .int x5)] → f_X8_threads_43 N   S8 x1 x2 x3 x4 x5 = some res → W p l e (headSpec wsX8_threads { frames := 2, cells := 0, slots := 0, locals := 49 }).room s m args below meth c H locs 0 0 (MQ below (rwQi g (wd_8 g (res.2)) A (res.1)) args s 0 0 A) (F0 m 43 ls [.ref (g.2.2.1 8)]) := by
  intro H locs S8 ls x1 x2 x3 x4 x5 hP hD hS hl hf
  obtain ⟨⟨hx, hb, hr, hml, hown, hts, hlk⟩, hK, hA⟩ := id C
  unfold f_X8_threads_43 at hf
  refine lv_iconst (v := 0) (pc := 43) hx hb dX8_threads_43 (by decide) ?_
  exact w_X8_threads_44 C  H locs S8 ls x1 x2 x3 x4 x5 0 hP hD hS (lv_sub hl [0, 1, 2, 3, 4] rfl) hf
set_option maxHeartbeats 4000000 in
set_option maxRecDepth 100000 in
theorem c_X8_threads (l : Launch) (g : En) (N : Nat) (sz : Nat) (S8 : St) (x1 : Int32) (x2 : Int32) (x3 : Int32) (x4 : Int32) (x5 : Int32) (res : Int32 × St) (hf : f_X8_threads N S8 x1 x2 x3 x4 x5 = some res) : Met l yX8_threads wsX8_threads { frames := 2, cells := 0, slots := 0, locals := 49 } (rwP g (wd_8 g S8) sz [.ref (g.2.2.1 8), .int x1, .int x2, .int x3, .int x4, .int x5]) (rwQi g (wd_8 g (res.2)) (va_A (wd_8 g S8) sz) (res.1)) 0 0 (va_A (wd_8 g S8) sz) := by
  refine Met.ofW (cc := cX8_threads) (maxL := 6) (ret := (some .int)) (by decide) rfl ?_
  intro p e s m args below meth c s₁ B hml hv
  obtain ⟨rfl, hsz, hP, hK, hD0⟩ := hv
  have hx := B.exec
  have hb := B.bytes
  have hr := B.returns
  have hts := atoms_spec (ws := wsX8_threads) B.pre
  have hown : s.vm.findClass RX8 = some m.cls := findClass_of_methodNamed B.named
  have hlk := B.notSynchronized
  subst hsz
  have hD := hD0.self (sz := s.heap.size)
  generalize hAe : va_A (wd_8 g S8) s.heap.size = A at hD ⊢
  have hA : ∀ q : Nat, s.heap.size ≤ q → A q := fun q h => by rw [← hAe]; exact Or.inr h
  have hS : va_S A s.heap s.heap [] := va_S.rf
  have C : cxw g A cX8_threads 6 (some .int) wsX8_threads RX8 p s m ([.ref (g.2.2.1 8), .int x1, .int x2, .int x3, .int x4, .int x5] : List Value).toArray meth c := ⟨⟨hx, hb, hr, hml, hown, hts, hlk⟩, hK, hA⟩
  have hl := lv_entry [.ref (g.2.2.1 8), .int x1, .int x2, .int x3, .int x4, .int x5] (n := 6) (Nat.le_of_ble_eq_true rfl)
  rw [lg_entry_eq]
  generalize (lg_sl [.ref (g.2.2.1 8), .int x1, .int x2, .int x3, .int x4, .int x5] ++ List.replicate (6 - (lg_sl [.ref (g.2.2.1 8), .int x1, .int x2, .int x3, .int x4, .int x5]).length) Slot.unset).toArray = ls at hl ⊢
  have hl : lv_has ls 6 [(0, .ref (g.2.2.1 8)), (1, .int x1), (2, .int x2), (3, .int x3), (4, .int x4), (5, .int x5)] := hl
  unfold f_X8_threads at hf
  suffices K9 : ∀ (H : Heap) (locs : List Loc), va_P g.1 vwCl (wd_8 g S8) H → va_D A (wd_8 g S8) → va_S A s.heap H locs → ((f_X8_isRow N x1).bind (fun r2 => (if r2 = 0 then (f_X8_threads_43 N   S8 x1 x2 x3 x4 x5) else ((f_X8_isRow N x2).bind (fun r9 => (if r9 = 0 then (f_X8_threads_43 N   S8 x1 x2 x3 x4 x5) else (if x1 = x2 then (f_X8_threads_43 N   S8 x1 x2 x3 x4 x5) else ((f_X8_isYear N x3).bind (fun r21 => (if r21 = 0 then (f_X8_threads_43 N   S8 x1 x2 x3 x4 x5) else ((f_X8_in N x4 x3 2100).bind (fun r33 => (if r33 = 0 then (f_X8_threads_43 N   S8 x1 x2 x3 x4 x5) else (f_X8_threads_44 N   S8 x1 x2 x3 x4 x5 1)))))))))))))) = some res → W p l e (headSpec wsX8_threads { frames := 2, cells := 0, slots := 0, locals := 49 }).room s m ([.ref (g.2.2.1 8), .int x1, .int x2, .int x3, .int x4, .int x5] : List Value).toArray below meth c H locs 0 0 (MQ below (rwQi g (wd_8 g (res.2)) A (res.1)) ([.ref (g.2.2.1 8), .int x1, .int x2, .int x3, .int x4, .int x5] : List Value).toArray s 0 0 A) (F0 m 0 ls []) from K9 s.heap [] hP hD hS hf
  clear hP hD hS hf
  intro H locs hP hD hS hf
  refine lv_aload_n (pc := 0) hx hb dX8_threads_0 rfl (lv_at hl 0 rfl) ?_
  refine lv_iload_n (pc := 1) hx hb dX8_threads_1 rfl (lv_at hl 1 rfl) ?_
  obtain ⟨r2, e2, hf⟩ := bdE hf
  refine ksI (pc := 2) (As := [.int x1]) (rest := [.ref (g.2.2.1 8)]) ⟨hx, hb, hml, hown, hts⟩ (c_X8_isRow l N x1 r2 e2) (va_cwS 1 hts gX8_threads_X8_isRow rfl rfl rfl h_X8_isRow ⟨Nat.le_of_ble_eq_true rfl, Nat.le_of_ble_eq_true rfl⟩) rfl hl.1 rfl (Nat.le_of_ble_eq_true rfl) dX8_threads_2 ⟨Nat.zero_le _, Nat.zero_le _⟩ ?_
  refine lv_if_eq (tgt := 43) (pc := 5) hx hb dX8_threads_5 (by decide) (fun c5 => ?_) (fun c5 => ?_)
  · have hf := ft hf c5
    exact w_X8_threads_43 C  H locs S8 ls x1 x2 x3 x4 x5 hP hD hS (lv_sub hl [1, 2, 3, 4, 5] rfl) hf
  · have hf := ff hf c5
    refine lv_iload_n (pc := 8) hx hb dX8_threads_8 rfl (lv_at hl 2 rfl) ?_
    obtain ⟨r9, e9, hf⟩ := bdE hf
    refine ksI (pc := 9) (As := [.int x2]) (rest := [.ref (g.2.2.1 8)]) ⟨hx, hb, hml, hown, hts⟩ (c_X8_isRow l N x2 r9 e9) (va_cwS 1 hts gX8_threads_X8_isRow rfl rfl rfl h_X8_isRow ⟨Nat.le_of_ble_eq_true rfl, Nat.le_of_ble_eq_true rfl⟩) rfl hl.1 rfl (Nat.le_of_ble_eq_true rfl) dX8_threads_9 ⟨Nat.zero_le _, Nat.zero_le _⟩ ?_
    refine lv_if_eq (tgt := 43) (pc := 12) hx hb dX8_threads_12 (by decide) (fun c12 => ?_) (fun c12 => ?_)
    · have hf := ft hf c12
      exact w_X8_threads_43 C  H locs S8 ls x1 x2 x3 x4 x5 hP hD hS (lv_sub hl [1, 2, 3, 4, 5] rfl) hf
    · have hf := ff hf c12
      refine lv_iload_n (pc := 15) hx hb dX8_threads_15 rfl (lv_at hl 1 rfl) ?_
      refine lv_iload_n (pc := 16) hx hb dX8_threads_16 rfl (lv_at hl 2 rfl) ?_
      refine lv_icmp_eq (tgt := 43) (pc := 17) hx hb dX8_threads_17 (by decide) (fun c17 => ?_) (fun c17 => ?_)
      · have hf := ft hf c17
        exact w_X8_threads_43 C  H locs S8 ls x1 x2 x3 x4 x5 hP hD hS (lv_sub hl [1, 2, 3, 4, 5] rfl) hf
      · have hf := ff hf c17
        refine lv_iload_n (pc := 20) hx hb dX8_threads_20 rfl (lv_at hl 3 rfl) ?_
        obtain ⟨r21, e21, hf⟩ := bdE hf
        refine ksI (pc := 21) (As := [.int x3]) (rest := [.ref (g.2.2.1 8)]) ⟨hx, hb, hml, hown, hts⟩ (c_X8_isYear l N x3 r21 e21) (va_cwS 1 hts gX8_threads_X8_isYear rfl rfl rfl h_X8_isYear ⟨Nat.le_of_ble_eq_true rfl, Nat.le_of_ble_eq_true rfl⟩) rfl hl.1 rfl (Nat.le_of_ble_eq_true rfl) dX8_threads_21 ⟨Nat.zero_le _, Nat.zero_le _⟩ ?_
        refine lv_if_eq (tgt := 43) (pc := 24) hx hb dX8_threads_24 (by decide) (fun c24 => ?_) (fun c24 => ?_)
        · have hf := ft hf c24
          exact w_X8_threads_43 C  H locs S8 ls x1 x2 x3 x4 x5 hP hD hS (lv_sub hl [1, 2, 3, 4, 5] rfl) hf
        · have hf := ff hf c24
          refine lv_iload (pc := 27) hx hb dX8_threads_27 (lv_at hl 4 rfl) ?_
          refine lv_iload_n (pc := 29) hx hb dX8_threads_29 rfl (lv_at hl 3 rfl) ?_
          refine lv_sipush (v := 2100) (pc := 30) hx hb dX8_threads_30 (by decide) ?_
          obtain ⟨r33, e33, hf⟩ := bdE hf
          refine ksI (pc := 33) (As := [.int x4, .int x3, .int 2100]) (rest := [.ref (g.2.2.1 8)]) ⟨hx, hb, hml, hown, hts⟩ (c_X8_in l N x4 x3 2100 r33 e33) (va_cwS 3 hts gX8_threads_X8_in rfl rfl rfl h_X8_in ⟨Nat.le_of_ble_eq_true rfl, Nat.le_of_ble_eq_true rfl⟩) rfl hl.1 rfl (Nat.le_of_ble_eq_true rfl) dX8_threads_33 ⟨Nat.zero_le _, Nat.zero_le _⟩ ?_
          refine lv_if_eq (tgt := 43) (pc := 36) hx hb dX8_threads_36 (by decide) (fun c36 => ?_) (fun c36 => ?_)
          · have hf := ft hf c36
            exact w_X8_threads_43 C  H locs S8 ls x1 x2 x3 x4 x5 hP hD hS (lv_sub hl [1, 2, 3, 4, 5] rfl) hf
          · have hf := ff hf c36
            refine lv_iconst (v := 1) (pc := 39) hx hb dX8_threads_39 (by decide) ?_
            refine lv_goto (tgt := 44) (pc := 40) hx hb dX8_threads_40 (by decide) ?_
            exact w_X8_threads_44 C  H locs S8 ls x1 x2 x3 x4 x5 1 hP hD hS (lv_sub hl [1, 2, 3, 4, 5] rfl) hf
theorem q_X8_isProof_0 : (.fieldLink RX8 167 "PictureCourtModel" "proofs" "I" : Cond) ∈ wsX8_isProof := by decide +kernel
theorem h_X8_isProof : yX8_isProof.cls = RX8 ∧ yX8_isProof.cls ≠ "java/lang/invoke/MethodHandle" ∧ yX8_isProof.cls ≠ "java/lang/invoke/VarHandle" ∧ (parseMethodDescriptor yX8_isProof.desc).map (fun d => d.parameters.length) = some 1 := by decide +kernel
set_option maxHeartbeats 4000000 in
set_option maxRecDepth 100000 in
theorem c_X8_isProof (l : Launch) (g : En) (N : Nat) (S8 : St) (x1 : Int32) (res : Int32) (hf : f_X8_isProof N S8 x1 = some res) : Met l yX8_isProof wsX8_isProof { frames := 1, cells := 0, slots := 0, locals := 22 } (roP g (wd_8 g S8) [.ref (g.2.2.1 8), .int x1]) (vp_Si (fun r => r = res)) 0 0 (fun _ => False) := by
  refine Met.ofW (cc := cX8_isProof) (maxL := 2) (ret := (some .boolean)) (by decide) rfl ?_
  intro p e s m args below meth c s₁ B hml hv
  obtain ⟨rfl, hP, hK⟩ := hv
  have hx := B.exec
  have hb := B.bytes
  have hr := B.returns
  have hts := atoms_spec (ws := wsX8_isProof) B.pre
  have hown : s.vm.findClass RX8 = some m.cls := findClass_of_methodNamed B.named
  have hlk := B.notSynchronized
  have C : cxr g (wd_8 g S8) cX8_isProof 2 (some .boolean) wsX8_isProof RX8 p s m ([.ref (g.2.2.1 8), .int x1] : List Value).toArray meth c := ⟨⟨hx, hb, hr, hml, hown, hts, hlk⟩, hK, hP⟩
  have hl := lv_entry [.ref (g.2.2.1 8), .int x1] (n := 2) (Nat.le_of_ble_eq_true rfl)
  rw [lg_entry_eq]
  generalize (lg_sl [.ref (g.2.2.1 8), .int x1] ++ List.replicate (2 - (lg_sl [.ref (g.2.2.1 8), .int x1]).length) Slot.unset).toArray = ls at hl ⊢
  have hl : lv_has ls 2 [(0, .ref (g.2.2.1 8)), (1, .int x1)] := hl
  unfold f_X8_isProof at hf
  refine lv_iload_n (pc := 0) hx hb dX8_isProof_0 rfl (lv_at hl 1 rfl) ?_
  refine lv_iconst (v := 0) (pc := 1) hx hb dX8_isProof_1 (by decide) ?_
  refine lv_aload_n (pc := 2) hx hb dX8_isProof_2 rfl (lv_at hl 0 rfl) ?_
  refine va_get (D := g.1) (ci := 8) (v := .int (S8.1 13)) (C := RX8) (T := TX8) (N := 47) (pc := 3) hx hb hts (fun _ h => List.mem_cons_of_mem _ (List.mem_append_right _ h)) hown hK hP 0 rfl rfl 13 (by decide) (hts _ q_X8_isProof_0) (fun _ h9 => h9) rfl dX8_isProof_3 ?_
  refine lv_iconst (v := 1) (pc := 6) hx hb dX8_isProof_6 (by decide) ?_
  refine lv_isub (pc := 7) hx hb dX8_isProof_7 ?_
  obtain ⟨r8, e8, hf⟩ := bdE hf
  refine ksI (pc := 8) (As := [.int x1, .int 0, .int ((S8.1 13) - 1)]) (rest := []) ⟨hx, hb, hml, hown, hts⟩ (c_X8_in l N x1 0 ((S8.1 13) - 1) r8 e8) (va_cwS 3 hts gX8_isProof_X8_in rfl rfl rfl h_X8_in ⟨Nat.le_of_ble_eq_true rfl, Nat.le_of_ble_eq_true rfl⟩) rfl hl.1 rfl (Nat.le_of_ble_eq_true rfl) dX8_isProof_8 ⟨Nat.zero_le _, Nat.zero_le _⟩ ?_
  obtain ⟨b11, hf⟩ := gdE hf
  have hf := Option.some.inj hf
  subst hf
  exact W.zret (v := r8) hx hb hr (z01V b11) (fun t ht hW => ⟨_, rfl, rfl, ht⟩) (fun _ h => by cases h) dX8_isProof_11
theorem q_X8_strike_0 : (.fieldLink RX8 35 "PictureCourtModel" "struckOn" "[I" : Cond) ∈ wsX8_strike := by decide +kernel
theorem q_X8_strike_1 : (.fieldLink RX8 135 "PictureCourtModel" "today" "I" : Cond) ∈ wsX8_strike := by decide +kernel
theorem h_X8_strike : yX8_strike.cls = RX8 ∧ yX8_strike.cls ≠ "java/lang/invoke/MethodHandle" ∧ yX8_strike.cls ≠ "java/lang/invoke/VarHandle" ∧ (parseMethodDescriptor yX8_strike.desc).map (fun d => d.parameters.length) = some 1 := by decide +kernel
set_option maxHeartbeats 4000000 in
set_option maxRecDepth 100000 in
theorem c_X8_strike (l : Launch) (g : En) (N : Nat) (sz : Nat) (S8 : St) (x1 : Int32) (res : Int32 × St) (hf : f_X8_strike N S8 x1 = some res) : Met l yX8_strike wsX8_strike { frames := 2, cells := 0, slots := 0, locals := 43 } (rwP g (wd_8 g S8) sz [.ref (g.2.2.1 8), .int x1]) (rwQi g (wd_8 g (res.2)) (va_A (wd_8 g S8) sz) (res.1)) 0 0 (va_A (wd_8 g S8) sz) := by
  refine Met.ofW (cc := cX8_strike) (maxL := 2) (ret := (some .int)) (by decide) rfl ?_
  intro p e s m args below meth c s₁ B hml hv
  obtain ⟨rfl, hsz, hP, hK, hD0⟩ := hv
  have hx := B.exec
  have hb := B.bytes
  have hr := B.returns
  have hts := atoms_spec (ws := wsX8_strike) B.pre
  have hown : s.vm.findClass RX8 = some m.cls := findClass_of_methodNamed B.named
  have hlk := B.notSynchronized
  subst hsz
  have hD := hD0.self (sz := s.heap.size)
  generalize hAe : va_A (wd_8 g S8) s.heap.size = A at hD ⊢
  have hA : ∀ q : Nat, s.heap.size ≤ q → A q := fun q h => by rw [← hAe]; exact Or.inr h
  have hS : va_S A s.heap s.heap [] := va_S.rf
  have C : cxw g A cX8_strike 2 (some .int) wsX8_strike RX8 p s m ([.ref (g.2.2.1 8), .int x1] : List Value).toArray meth c := ⟨⟨hx, hb, hr, hml, hown, hts, hlk⟩, hK, hA⟩
  have hl := lv_entry [.ref (g.2.2.1 8), .int x1] (n := 2) (Nat.le_of_ble_eq_true rfl)
  rw [lg_entry_eq]
  generalize (lg_sl [.ref (g.2.2.1 8), .int x1] ++ List.replicate (2 - (lg_sl [.ref (g.2.2.1 8), .int x1]).length) Slot.unset).toArray = ls at hl ⊢
  have hl : lv_has ls 2 [(0, .ref (g.2.2.1 8)), (1, .int x1)] := hl
  unfold f_X8_strike at hf
  suffices K9 : ∀ (H : Heap) (locs : List Loc), va_P g.1 vwCl (wd_8 g S8) H → va_D A (wd_8 g S8) → va_S A s.heap H locs → ((f_X8_isProof N S8 x1).bind (fun r2 => (if r2 = 0 then some ((-1), S8) else (if inb x1 24 = true then (if ((S8.2.2 17) (Int32.toNatClampNeg x1)) = (-9) then (if inb x1 24 = true then some (1, (sA S8 17 (upd (S8.2.2 17) (Int32.toNatClampNeg x1) (S8.1 5)))) else none) else some ((-4), S8)) else none)))) = some res → W p l e (headSpec wsX8_strike { frames := 2, cells := 0, slots := 0, locals := 43 }).room s m ([.ref (g.2.2.1 8), .int x1] : List Value).toArray below meth c H locs 0 0 (MQ below (rwQi g (wd_8 g (res.2)) A (res.1)) ([.ref (g.2.2.1 8), .int x1] : List Value).toArray s 0 0 A) (F0 m 0 ls []) from K9 s.heap [] hP hD hS hf
  clear hP hD hS hf
  intro H locs hP hD hS hf
  refine lv_aload_n (pc := 0) hx hb dX8_strike_0 rfl (lv_at hl 0 rfl) ?_
  refine lv_iload_n (pc := 1) hx hb dX8_strike_1 rfl (lv_at hl 1 rfl) ?_
  obtain ⟨r2, e2, hf⟩ := bdE hf
  refine krI (g := g) (wc := (wd_8 g S8)) (pc := 2) (As := [.int x1]) (rest := []) ⟨hx, hb, hml, hown, hts⟩ (c_X8_isProof l g N S8 x1 r2 e2) (cwV 1 hts gX8_strike_X8_isProof rfl rfl rfl h_X8_isProof ⟨Nat.le_of_ble_eq_true rfl, Nat.le_of_ble_eq_true rfl⟩) hK hP rfl rfl rfl hl.1 rfl (Nat.le_of_ble_eq_true rfl) dX8_strike_2 ⟨Nat.zero_le _, Nat.zero_le _⟩ ?_
  refine lv_if_ne (tgt := 10) (pc := 5) hx hb dX8_strike_5 (by decide) (fun c5 => ?_) (fun c5 => ?_)
  · have hf := ff hf c5
    refine lv_aload_n (pc := 10) hx hb dX8_strike_10 rfl (lv_at hl 0 rfl) ?_
    refine va_get (D := g.1) (ci := 8) (v := .ref (g.2.2.2 8 17)) (C := RX8) (T := TX8) (N := 47) (pc := 11) hx hb hts (fun _ h => List.mem_cons_of_mem _ (List.mem_append_right _ h)) hown hK hP 0 rfl rfl 17 (by decide) (hts _ q_X8_strike_0) (fun _ h9 => h9) rfl dX8_strike_11 ?_
    refine lv_iload_n (pc := 14) hx hb dX8_strike_14 rfl (lv_at hl 1 rfl) ?_
    obtain ⟨b15, hf⟩ := gdE hf
    refine va_iald (D := g.1) (tys := tyl g) (f := (S8.2.2 17)) (pc := 15) hx hb hK hP 9 0 rfl rfl (inbV b15) dX8_strike_15 ?_
    refine lv_bipush (v := (-9)) (pc := 16) hx hb dX8_strike_16 (by decide) ?_
    refine lv_icmp_eq (tgt := 24) (pc := 18) hx hb dX8_strike_18 (by decide) (fun c18 => ?_) (fun c18 => ?_)
    · have hf := ft hf c18
      refine lv_aload_n (pc := 24) hx hb dX8_strike_24 rfl (lv_at hl 0 rfl) ?_
      refine va_get (D := g.1) (ci := 8) (v := .ref (g.2.2.2 8 17)) (C := RX8) (T := TX8) (N := 47) (pc := 25) hx hb hts (fun _ h => List.mem_cons_of_mem _ (List.mem_append_right _ h)) hown hK hP 0 rfl rfl 17 (by decide) (hts _ q_X8_strike_0) (fun _ h9 => h9) rfl dX8_strike_25 ?_
      refine lv_iload_n (pc := 28) hx hb dX8_strike_28 rfl (lv_at hl 1 rfl) ?_
      refine lv_aload_n (pc := 29) hx hb dX8_strike_29 rfl (lv_at hl 0 rfl) ?_
      refine va_get (D := g.1) (ci := 8) (v := .int (S8.1 5)) (C := RX8) (T := TX8) (N := 47) (pc := 30) hx hb hts (fun _ h => List.mem_cons_of_mem _ (List.mem_append_right _ h)) hown hK hP 0 rfl rfl 5 (by decide) (hts _ q_X8_strike_1) (fun _ h9 => h9) rfl dX8_strike_30 ?_
      obtain ⟨b33, hf⟩ := gdE hf
      refine va_iast (D := g.1) (tys := tyl g) (f := (S8.2.2 17)) (pc := 33) hx hb hK hP hD hS 9 0 rfl rfl (inbV b33) dX8_strike_33 (fun H locs hP hD hS => ?_)
      have hP := u_8_8_17P S8 (upd (S8.2.2 17) (Int32.toNatClampNeg x1) (S8.1 5)) hP
      have hD := u_8_8_17D S8 (upd (S8.2.2 17) (Int32.toNatClampNeg x1) (S8.1 5)) hD
      refine lv_iconst (v := 1) (pc := 34) hx hb dX8_strike_34 (by decide) ?_
      have hf := Option.some.inj hf
      subst hf
      exact W.iret (v := 1) hx hb hr (fun t ht hW => ⟨⟨_, (), rfl, rfl, by rw [ht]; exact hP, va_K.moved hW.alike hK, hD⟩, hS.F ht⟩) hS.2.2 dX8_strike_35
    · have hf := ff hf c18
      refine lv_bipush (v := (-4)) (pc := 21) hx hb dX8_strike_21 (by decide) ?_
      have hf := Option.some.inj hf
      subst hf
      exact W.iret (v := (-4)) hx hb hr (fun t ht hW => ⟨⟨_, (), rfl, rfl, by rw [ht]; exact hP, va_K.moved hW.alike hK, hD⟩, hS.F ht⟩) hS.2.2 dX8_strike_23
  · have hf := ft hf c5
    refine lv_iconst (v := (-1)) (pc := 8) hx hb dX8_strike_8 (by decide) ?_
    have hf := Option.some.inj hf
    subst hf
    exact W.iret (v := (-1)) hx hb hr (fun t ht hW => ⟨⟨_, (), rfl, rfl, by rw [ht]; exact hP, va_K.moved hW.alike hK, hD⟩, hS.F ht⟩) hS.2.2 dX8_strike_9
theorem h_X8_lack : yX8_lack.cls ≠ "java/lang/invoke/MethodHandle" ∧ yX8_lack.cls ≠ "java/lang/invoke/VarHandle" ∧ (parseMethodDescriptor yX8_lack.desc).map (fun d => d.parameters.length) = some 2 := by decide +kernel
set_option maxHeartbeats 4000000 in
set_option maxRecDepth 100000 in
theorem c_X8_lack (l : Launch) (N : Nat) (x0 : Int32) (x1 : Int32) (res : Int32) (hf : f_X8_lack N x0 x1 = some res) : Met l yX8_lack wsX8_lack { frames := 0, cells := 0, slots := 0, locals := 0 } (va_Pc [.int x0, .int x1] (fun _ => True)) (vp_Si (fun r => r = res)) 0 0 (fun _ => False) := by
  refine Met.ofW (cc := cX8_lack) (maxL := 2) (ret := (some .int)) (by decide) rfl ?_
  intro p e s m args below meth c s₁ B hml hv
  obtain ⟨rfl, -⟩ := hv
  have hx := B.exec
  have hb := B.bytes
  have hr := B.returns
  have hts := atoms_spec (ws := wsX8_lack) B.pre
  have hown : s.vm.findClass RX8 = some m.cls := findClass_of_methodNamed B.named
  have hlk := B.notSynchronized
  have C : cxs cX8_lack 2 (some .int) wsX8_lack RX8 p s m ([.int x0, .int x1] : List Value).toArray meth c := ⟨hx, hb, hr, hml, hown, hts, hlk⟩
  have hl := lv_entry [.int x0, .int x1] (n := 2) (Nat.le_of_ble_eq_true rfl)
  rw [lg_entry_eq]
  generalize (lg_sl [.int x0, .int x1] ++ List.replicate (2 - (lg_sl [.int x0, .int x1]).length) Slot.unset).toArray = ls at hl ⊢
  have hl : lv_has ls 2 [(0, .int x0), (1, .int x1)] := hl
  unfold f_X8_lack at hf
  refine lv_iload_n (pc := 0) hx hb dX8_lack_0 rfl (lv_at hl 0 rfl) ?_
  refine lv_iload_n (pc := 1) hx hb dX8_lack_1 rfl (lv_at hl 1 rfl) ?_
  refine lv_icmp_le (tgt := 11) (pc := 2) hx hb dX8_lack_2 (by decide) (fun c2 => ?_) (fun c2 => ?_)
  · have hf := ft hf c2
    refine lv_iconst (v := 0) (pc := 11) hx hb dX8_lack_11 (by decide) ?_
    have hf := Option.some.inj hf
    subst hf
    exact W.iret (v := 0) hx hb hr (fun t ht hW => ⟨_, rfl, rfl, ht⟩) (fun _ h => by cases h) dX8_lack_12
  · have hf := ff hf c2
    refine lv_iload_n (pc := 5) hx hb dX8_lack_5 rfl (lv_at hl 0 rfl) ?_
    refine lv_iload_n (pc := 6) hx hb dX8_lack_6 rfl (lv_at hl 1 rfl) ?_
    refine lv_isub (pc := 7) hx hb dX8_lack_7 ?_
    refine lv_goto (tgt := 12) (pc := 8) hx hb dX8_lack_8 (by decide) ?_
    have hf := Option.some.inj hf
    subst hf
    exact W.iret (v := (x0 - x1)) hx hb hr (fun t ht hW => ⟨_, rfl, rfl, ht⟩) (fun _ h => by cases h) dX8_lack_12
theorem q_X8_fromOf_0 : (.fieldLink RX8 26 "PictureCourtModel" "kindOf" "[I" : Cond) ∈ wsX8_fromOf := by decide +kernel
theorem q_X8_fromOf_1 : (.fieldLink RX8 23 "PictureCourtModel" "paints" "[I" : Cond) ∈ wsX8_fromOf := by decide +kernel
theorem q_X8_fromOf_2 : (.fieldLink RX8 38 "PictureCourtModel" "one" "[I" : Cond) ∈ wsX8_fromOf := by decide +kernel
theorem q_X8_fromOf_3 : (.fieldLink RX8 109 "PictureCourtModel" "sapLeast" "I" : Cond) ∈ wsX8_fromOf := by decide +kernel
theorem q_X8_fromOf_4 : (.fieldLink RX8 41 "PictureCourtModel" "two" "[I" : Cond) ∈ wsX8_fromOf := by decide +kernel
theorem q_X8_fromOf_5 : (.fieldLink RX8 44 "PictureCourtModel" "three" "[I" : Cond) ∈ wsX8_fromOf := by decide +kernel
theorem q_X8_fromOf_6 : (.fieldLink RX8 47 "PictureCourtModel" "four" "[I" : Cond) ∈ wsX8_fromOf := by decide +kernel
theorem h_X8_fromOf : yX8_fromOf.cls = RX8 ∧ yX8_fromOf.cls ≠ "java/lang/invoke/MethodHandle" ∧ yX8_fromOf.cls ≠ "java/lang/invoke/VarHandle" ∧ (parseMethodDescriptor yX8_fromOf.desc).map (fun d => d.parameters.length) = some 1 := by decide +kernel
set_option maxHeartbeats 4000000 in
set_option maxRecDepth 100000 in
theorem c_X8_fromOf (l : Launch) (g : En) (N : Nat) (S8 : St) (x1 : Int32) (res : Int32) (hf : f_X8_fromOf N S8 x1 = some res) : Met l yX8_fromOf wsX8_fromOf { frames := 3, cells := 0, slots := 0, locals := 75 } (roP g (wd_8 g S8) [.ref (g.2.2.1 8), .int x1]) (vp_Si (fun r => r = res)) 0 0 (fun _ => False) := by
  refine Met.ofW (cc := cX8_fromOf) (maxL := 2) (ret := (some .int)) (by decide) rfl ?_
  intro p e s m args below meth c s₁ B hml hv
  obtain ⟨rfl, hP, hK⟩ := hv
  have hx := B.exec
  have hb := B.bytes
  have hr := B.returns
  have hts := atoms_spec (ws := wsX8_fromOf) B.pre
  have hown : s.vm.findClass RX8 = some m.cls := findClass_of_methodNamed B.named
  have hlk := B.notSynchronized
  have C : cxr g (wd_8 g S8) cX8_fromOf 2 (some .int) wsX8_fromOf RX8 p s m ([.ref (g.2.2.1 8), .int x1] : List Value).toArray meth c := ⟨⟨hx, hb, hr, hml, hown, hts, hlk⟩, hK, hP⟩
  have hl := lv_entry [.ref (g.2.2.1 8), .int x1] (n := 2) (Nat.le_of_ble_eq_true rfl)
  rw [lg_entry_eq]
  generalize (lg_sl [.ref (g.2.2.1 8), .int x1] ++ List.replicate (2 - (lg_sl [.ref (g.2.2.1 8), .int x1]).length) Slot.unset).toArray = ls at hl ⊢
  have hl : lv_has ls 2 [(0, .ref (g.2.2.1 8)), (1, .int x1)] := hl
  unfold f_X8_fromOf at hf
  refine lv_aload_n (pc := 0) hx hb dX8_fromOf_0 rfl (lv_at hl 0 rfl) ?_
  refine va_get (D := g.1) (ci := 8) (v := .ref (g.2.2.2 8 14)) (C := RX8) (T := TX8) (N := 47) (pc := 1) hx hb hts (fun _ h => List.mem_cons_of_mem _ (List.mem_append_right _ h)) hown hK hP 0 rfl rfl 14 (by decide) (hts _ q_X8_fromOf_0) (fun _ h9 => h9) rfl dX8_fromOf_1 ?_
  refine lv_iload_n (pc := 4) hx hb dX8_fromOf_4 rfl (lv_at hl 1 rfl) ?_
  obtain ⟨b5, hf⟩ := gdE hf
  refine va_iald (D := g.1) (tys := tyl g) (f := (S8.2.2 14)) (pc := 5) hx hb hK hP 6 0 rfl rfl (inbV b5) dX8_fromOf_5 ?_
  by_cases c6_1 : ((S8.2.2 14) (Int32.toNatClampNeg x1)) = 1
  · have hf := ft hf c6_1
    refine lv_tableIn (tgt := 32) (pc := 6) hx hb dX8_fromOf_6 (by rw [c6_1]; decide) (by rw [c6_1]; decide) (by rw [c6_1]; rfl) (by decide) ?_
    refine lv_aload_n (pc := 32) hx hb dX8_fromOf_32 rfl (lv_at hl 0 rfl) ?_
    refine va_get (D := g.1) (ci := 8) (v := .ref (g.2.2.2 8 9)) (C := RX8) (T := TX8) (N := 47) (pc := 33) hx hb hts (fun _ h => List.mem_cons_of_mem _ (List.mem_append_right _ h)) hown hK hP 0 rfl rfl 9 (by decide) (hts _ q_X8_fromOf_1) (fun _ h9 => h9) rfl dX8_fromOf_33 ?_
    refine lv_aload_n (pc := 36) hx hb dX8_fromOf_36 rfl (lv_at hl 0 rfl) ?_
    refine va_get (D := g.1) (ci := 8) (v := .ref (g.2.2.2 8 18)) (C := RX8) (T := TX8) (N := 47) (pc := 37) hx hb hts (fun _ h => List.mem_cons_of_mem _ (List.mem_append_right _ h)) hown hK hP 0 rfl rfl 18 (by decide) (hts _ q_X8_fromOf_2) (fun _ h9 => h9) rfl dX8_fromOf_37 ?_
    refine lv_iload_n (pc := 40) hx hb dX8_fromOf_40 rfl (lv_at hl 1 rfl) ?_
    obtain ⟨b41, hf⟩ := gdE hf
    refine va_iald (D := g.1) (tys := tyl g) (f := (S8.2.2 18)) (pc := 41) hx hb hK hP 10 0 rfl rfl (inbV b41) dX8_fromOf_41 ?_
    obtain ⟨b42, hf⟩ := gdE hf
    refine va_iald (D := g.1) (tys := tyl g) (f := (S8.2.2 9)) (pc := 42) hx hb hK hP 5 0 rfl rfl (inbV b42) dX8_fromOf_42 ?_
    have hf := Option.some.inj hf
    subst hf
    exact W.iret (v := ((S8.2.2 9) (Int32.toNatClampNeg ((S8.2.2 18) (Int32.toNatClampNeg x1))))) hx hb hr (fun t ht hW => ⟨_, rfl, rfl, ht⟩) (fun _ h => by cases h) dX8_fromOf_43
  · have hf := ff hf c6_1
    by_cases c6_2 : ((S8.2.2 14) (Int32.toNatClampNeg x1)) = 2
    · have hf := ft hf c6_2
      refine lv_tableIn (tgt := 44) (pc := 6) hx hb dX8_fromOf_6 (by rw [c6_2]; decide) (by rw [c6_2]; decide) (by rw [c6_2]; rfl) (by decide) ?_
      refine lv_aload_n (pc := 44) hx hb dX8_fromOf_44 rfl (lv_at hl 0 rfl) ?_
      refine va_get (D := g.1) (ci := 8) (v := .ref (g.2.2.2 8 18)) (C := RX8) (T := TX8) (N := 47) (pc := 45) hx hb hts (fun _ h => List.mem_cons_of_mem _ (List.mem_append_right _ h)) hown hK hP 0 rfl rfl 18 (by decide) (hts _ q_X8_fromOf_2) (fun _ h9 => h9) rfl dX8_fromOf_45 ?_
      refine lv_iload_n (pc := 48) hx hb dX8_fromOf_48 rfl (lv_at hl 1 rfl) ?_
      obtain ⟨b49, hf⟩ := gdE hf
      refine va_iald (D := g.1) (tys := tyl g) (f := (S8.2.2 18)) (pc := 49) hx hb hK hP 10 0 rfl rfl (inbV b49) dX8_fromOf_49 ?_
      refine lv_aload_n (pc := 50) hx hb dX8_fromOf_50 rfl (lv_at hl 0 rfl) ?_
      refine va_get (D := g.1) (ci := 8) (v := .int (S8.1 10)) (C := RX8) (T := TX8) (N := 47) (pc := 51) hx hb hts (fun _ h => List.mem_cons_of_mem _ (List.mem_append_right _ h)) hown hK hP 0 rfl rfl 10 (by decide) (hts _ q_X8_fromOf_3) (fun _ h9 => h9) rfl dX8_fromOf_51 ?_
      refine lv_aload_n (pc := 54) hx hb dX8_fromOf_54 rfl (lv_at hl 0 rfl) ?_
      refine va_get (D := g.1) (ci := 8) (v := .ref (g.2.2.2 8 19)) (C := RX8) (T := TX8) (N := 47) (pc := 55) hx hb hts (fun _ h => List.mem_cons_of_mem _ (List.mem_append_right _ h)) hown hK hP 0 rfl rfl 19 (by decide) (hts _ q_X8_fromOf_4) (fun _ h9 => h9) rfl dX8_fromOf_55 ?_
      refine lv_iload_n (pc := 58) hx hb dX8_fromOf_58 rfl (lv_at hl 1 rfl) ?_
      obtain ⟨b59, hf⟩ := gdE hf
      refine va_iald (D := g.1) (tys := tyl g) (f := (S8.2.2 19)) (pc := 59) hx hb hK hP 11 0 rfl rfl (inbV b59) dX8_fromOf_59 ?_
      obtain ⟨r60, e60, hf⟩ := bdE hf
      refine ksI (pc := 60) (As := [.int (S8.1 10), .int ((S8.2.2 19) (Int32.toNatClampNeg x1))]) (rest := [.int ((S8.2.2 18) (Int32.toNatClampNeg x1))]) ⟨hx, hb, hml, hown, hts⟩ (c_X8_lack l N (S8.1 10) ((S8.2.2 19) (Int32.toNatClampNeg x1)) r60 e60) (va_cwS 2 hts gX8_fromOf_X8_lack rfl rfl rfl h_X8_lack ⟨Nat.le_of_ble_eq_true rfl, Nat.le_of_ble_eq_true rfl⟩) rfl hl.1 rfl (Nat.le_of_ble_eq_true rfl) dX8_fromOf_60 ⟨Nat.zero_le _, Nat.zero_le _⟩ ?_
      refine lv_iadd (pc := 63) hx hb dX8_fromOf_63 ?_
      have hf := Option.some.inj hf
      subst hf
      exact W.iret (v := (((S8.2.2 18) (Int32.toNatClampNeg x1)) + r60)) hx hb hr (fun t ht hW => ⟨_, rfl, rfl, ht⟩) (fun _ h => by cases h) dX8_fromOf_64
    · have hf := ff hf c6_2
      by_cases c6_3 : ((S8.2.2 14) (Int32.toNatClampNeg x1)) = 3
      · have hf := ft hf c6_3
        refine lv_tableIn (tgt := 65) (pc := 6) hx hb dX8_fromOf_6 (by rw [c6_3]; decide) (by rw [c6_3]; decide) (by rw [c6_3]; rfl) (by decide) ?_
        refine lv_aload_n (pc := 65) hx hb dX8_fromOf_65 rfl (lv_at hl 0 rfl) ?_
        refine lv_aload_n (pc := 66) hx hb dX8_fromOf_66 rfl (lv_at hl 0 rfl) ?_
        refine va_get (D := g.1) (ci := 8) (v := .ref (g.2.2.2 8 20)) (C := RX8) (T := TX8) (N := 47) (pc := 67) hx hb hts (fun _ h => List.mem_cons_of_mem _ (List.mem_append_right _ h)) hown hK hP 0 rfl rfl 20 (by decide) (hts _ q_X8_fromOf_5) (fun _ h9 => h9) rfl dX8_fromOf_67 ?_
        refine lv_iload_n (pc := 70) hx hb dX8_fromOf_70 rfl (lv_at hl 1 rfl) ?_
        obtain ⟨b71, hf⟩ := gdE hf
        refine va_iald (D := g.1) (tys := tyl g) (f := (S8.2.2 20)) (pc := 71) hx hb hK hP 12 0 rfl rfl (inbV b71) dX8_fromOf_71 ?_
        refine lv_aload_n (pc := 72) hx hb dX8_fromOf_72 rfl (lv_at hl 0 rfl) ?_
        refine va_get (D := g.1) (ci := 8) (v := .ref (g.2.2.2 8 21)) (C := RX8) (T := TX8) (N := 47) (pc := 73) hx hb hts (fun _ h => List.mem_cons_of_mem _ (List.mem_append_right _ h)) hown hK hP 0 rfl rfl 21 (by decide) (hts _ q_X8_fromOf_6) (fun _ h9 => h9) rfl dX8_fromOf_73 ?_
        refine lv_iload_n (pc := 76) hx hb dX8_fromOf_76 rfl (lv_at hl 1 rfl) ?_
        obtain ⟨b77, hf⟩ := gdE hf
        refine va_iald (D := g.1) (tys := tyl g) (f := (S8.2.2 21)) (pc := 77) hx hb hK hP 13 0 rfl rfl (inbV b77) dX8_fromOf_77 ?_
        obtain ⟨r78, e78, hf⟩ := bdE hf
        refine krI (g := g) (wc := (wd_8 g S8)) (pc := 78) (As := [.int ((S8.2.2 20) (Int32.toNatClampNeg x1)), .int ((S8.2.2 21) (Int32.toNatClampNeg x1))]) (rest := []) ⟨hx, hb, hml, hown, hts⟩ (c_X8_isSure l g N S8 ((S8.2.2 20) (Int32.toNatClampNeg x1)) ((S8.2.2 21) (Int32.toNatClampNeg x1)) r78 e78) (cwV 2 hts gX8_fromOf_X8_isSure rfl rfl rfl h_X8_isSure ⟨Nat.le_of_ble_eq_true rfl, Nat.le_of_ble_eq_true rfl⟩) hK hP rfl rfl rfl hl.1 rfl (Nat.le_of_ble_eq_true rfl) dX8_fromOf_78 ⟨Nat.zero_le _, Nat.zero_le _⟩ ?_
        refine lv_if_eq (tgt := 93) (pc := 81) hx hb dX8_fromOf_81 (by decide) (fun c81 => ?_) (fun c81 => ?_)
        · have hf := ft hf c81
          refine lv_sipush (v := 1000) (pc := 93) hx hb dX8_fromOf_93 (by decide) ?_
          have hf := Option.some.inj hf
          subst hf
          exact W.iret (v := 1000) hx hb hr (fun t ht hW => ⟨_, rfl, rfl, ht⟩) (fun _ h => by cases h) dX8_fromOf_96
        · have hf := ff hf c81
          refine lv_aload_n (pc := 84) hx hb dX8_fromOf_84 rfl (lv_at hl 0 rfl) ?_
          refine va_get (D := g.1) (ci := 8) (v := .ref (g.2.2.2 8 18)) (C := RX8) (T := TX8) (N := 47) (pc := 85) hx hb hts (fun _ h => List.mem_cons_of_mem _ (List.mem_append_right _ h)) hown hK hP 0 rfl rfl 18 (by decide) (hts _ q_X8_fromOf_2) (fun _ h9 => h9) rfl dX8_fromOf_85 ?_
          refine lv_iload_n (pc := 88) hx hb dX8_fromOf_88 rfl (lv_at hl 1 rfl) ?_
          obtain ⟨b89, hf⟩ := gdE hf
          refine va_iald (D := g.1) (tys := tyl g) (f := (S8.2.2 18)) (pc := 89) hx hb hK hP 10 0 rfl rfl (inbV b89) dX8_fromOf_89 ?_
          refine lv_goto (tgt := 96) (pc := 90) hx hb dX8_fromOf_90 (by decide) ?_
          have hf := Option.some.inj hf
          subst hf
          exact W.iret (v := ((S8.2.2 18) (Int32.toNatClampNeg x1))) hx hb hr (fun t ht hW => ⟨_, rfl, rfl, ht⟩) (fun _ h => by cases h) dX8_fromOf_96
      · have hf := ff hf c6_3
        refine lv_tableOut (tgt := 97) (pc := 6) hx hb dX8_fromOf_6 (swO (fun z h1 h2 => by rcases (show z = 1 ∨ z = 2 ∨ z = 3 by omega) with rfl | rfl | rfl <;> first | exact swN c6_1 rfl | exact swN c6_2 rfl | exact swN c6_3 rfl)) (by decide) ?_
        refine lv_aload_n (pc := 97) hx hb dX8_fromOf_97 rfl (lv_at hl 0 rfl) ?_
        refine va_get (D := g.1) (ci := 8) (v := .ref (g.2.2.2 8 18)) (C := RX8) (T := TX8) (N := 47) (pc := 98) hx hb hts (fun _ h => List.mem_cons_of_mem _ (List.mem_append_right _ h)) hown hK hP 0 rfl rfl 18 (by decide) (hts _ q_X8_fromOf_2) (fun _ h9 => h9) rfl dX8_fromOf_98 ?_
        refine lv_iload_n (pc := 101) hx hb dX8_fromOf_101 rfl (lv_at hl 1 rfl) ?_
        obtain ⟨b102, hf⟩ := gdE hf
        refine va_iald (D := g.1) (tys := tyl g) (f := (S8.2.2 18)) (pc := 102) hx hb hK hP 10 0 rfl rfl (inbV b102) dX8_fromOf_102 ?_
        have hf := Option.some.inj hf
        subst hf
        exact W.iret (v := ((S8.2.2 18) (Int32.toNatClampNeg x1))) hx hb hr (fun t ht hW => ⟨_, rfl, rfl, ht⟩) (fun _ h => by cases h) dX8_fromOf_103
theorem q_X8_toOf_0 : (.fieldLink RX8 26 "PictureCourtModel" "kindOf" "[I" : Cond) ∈ wsX8_toOf := by decide +kernel
theorem q_X8_toOf_1 : (.fieldLink RX8 38 "PictureCourtModel" "one" "[I" : Cond) ∈ wsX8_toOf := by decide +kernel
theorem q_X8_toOf_2 : (.fieldLink RX8 113 "PictureCourtModel" "sapMost" "I" : Cond) ∈ wsX8_toOf := by decide +kernel
theorem q_X8_toOf_3 : (.fieldLink RX8 41 "PictureCourtModel" "two" "[I" : Cond) ∈ wsX8_toOf := by decide +kernel
theorem q_X8_toOf_4 : (.fieldLink RX8 116 "PictureCourtModel" "use" "I" : Cond) ∈ wsX8_toOf := by decide +kernel
theorem q_X8_toOf_5 : (.fieldLink RX8 44 "PictureCourtModel" "three" "[I" : Cond) ∈ wsX8_toOf := by decide +kernel
theorem q_X8_toOf_6 : (.fieldLink RX8 47 "PictureCourtModel" "four" "[I" : Cond) ∈ wsX8_toOf := by decide +kernel
theorem h_X8_toOf : yX8_toOf.cls = RX8 ∧ yX8_toOf.cls ≠ "java/lang/invoke/MethodHandle" ∧ yX8_toOf.cls ≠ "java/lang/invoke/VarHandle" ∧ (parseMethodDescriptor yX8_toOf.desc).map (fun d => d.parameters.length) = some 1 := by decide +kernel
set_option maxHeartbeats 4000000 in
set_option maxRecDepth 100000 in
theorem w_X8_toOf_110 {p : Program} {l : Launch} {e : Env} {s : State} {m : MethodId} {args : Array Value} {below : List Frame} {meth : Method} {c : Code} {g : En} {N : Nat} {S8 : St} {res : Int32} (C : cxr g (wd_8 g S8) cX8_toOf 3 (some .int) wsX8_toOf RX8 p s m args meth c) : ∀ (ls : Array Slot) (x2 : Int32), lv_has ls 3 [(2, .int x2)] → f_X8_toOf_110 N S8  x2 = some res → W p l e (headSpec wsX8_toOf { frames := 3, cells := 0, slots := 0, locals := 75 }).room s m args below meth c s.heap [] 0 0 (MQ below (vp_Si (fun r => r = res)) args s 0 0 (fun _ => False)) (F0 m 110 ls []) := by
  intro ls x2 hl hf
  obtain ⟨⟨hx, hb, hr, hml, hown, hts, hlk⟩, hK, hP⟩ := id C
  unfold f_X8_toOf_110 at hf
  refine lv_iload_n (pc := 110) hx hb dX8_toOf_110 rfl (lv_at hl 0 rfl) ?_
  refine lv_sipush (v := 2100) (pc := 111) hx hb dX8_toOf_111 (by decide) ?_
  refine lv_icmp_le (tgt := 123) (pc := 114) hx hb dX8_toOf_114 (by decide) (fun c114 => ?_) (fun c114 => ?_)
  · have hf := ft hf c114
    refine lv_iload_n (pc := 123) hx hb dX8_toOf_123 rfl (lv_at hl 0 rfl) ?_
    have hf := Option.some.inj hf
    subst hf
    exact W.iret (v := x2) hx hb hr (fun t ht hW => ⟨_, rfl, rfl, ht⟩) (fun _ h => by cases h) dX8_toOf_124
  · have hf := ff hf c114
    refine lv_sipush (v := 2100) (pc := 117) hx hb dX8_toOf_117 (by decide) ?_
    refine lv_goto (tgt := 124) (pc := 120) hx hb dX8_toOf_120 (by decide) ?_
    have hf := Option.some.inj hf
    subst hf
    exact W.iret (v := 2100) hx hb hr (fun t ht hW => ⟨_, rfl, rfl, ht⟩) (fun _ h => by cases h) dX8_toOf_124
set_option maxHeartbeats 4000000 in
set_option maxRecDepth 100000 in
theorem w_X8_toOf_99 {p : Program} {l : Launch} {e : Env} {s : State} {m : MethodId} {args : Array Value} {below : List Frame} {meth : Method} {c : Code} {g : En} {N : Nat} {S8 : St} {res : Int32} (C : cxr g (wd_8 g S8) cX8_toOf 3 (some .int) wsX8_toOf RX8 p s m args meth c) : ∀ (ls : Array Slot) (t0 : Int32), lv_has ls 3 [] → f_X8_toOf_99 N S8  t0 = some res → W p l e (headSpec wsX8_toOf { frames := 3, cells := 0, slots := 0, locals := 75 }).room s m args below meth c s.heap [] 0 0 (MQ below (vp_Si (fun r => r = res)) args s 0 0 (fun _ => False)) (F0 m 99 ls [.int t0]) := by
  intro ls t0 hl hf
  obtain ⟨⟨hx, hb, hr, hml, hown, hts, hlk⟩, hK, hP⟩ := id C
  unfold f_X8_toOf_99 at hf
  refine lv_istore_n (lv' := [(2, .int t0)]) (pc := 99) hx hb dX8_toOf_99 rfl hl (by decide) rfl (fun ls hl => ?_)
  refine lv_goto (tgt := 110) (pc := 100) hx hb dX8_toOf_100 (by decide) ?_
  exact w_X8_toOf_110 C  ls t0 (lv_sub hl [0] rfl) hf
set_option maxHeartbeats 4000000 in
set_option maxRecDepth 100000 in
theorem c_X8_toOf (l : Launch) (g : En) (N : Nat) (S8 : St) (x1 : Int32) (res : Int32) (hf : f_X8_toOf N S8 x1 = some res) : Met l yX8_toOf wsX8_toOf { frames := 3, cells := 0, slots := 0, locals := 75 } (roP g (wd_8 g S8) [.ref (g.2.2.1 8), .int x1]) (vp_Si (fun r => r = res)) 0 0 (fun _ => False) := by
  refine Met.ofW (cc := cX8_toOf) (maxL := 3) (ret := (some .int)) (by decide) rfl ?_
  intro p e s m args below meth c s₁ B hml hv
  obtain ⟨rfl, hP, hK⟩ := hv
  have hx := B.exec
  have hb := B.bytes
  have hr := B.returns
  have hts := atoms_spec (ws := wsX8_toOf) B.pre
  have hown : s.vm.findClass RX8 = some m.cls := findClass_of_methodNamed B.named
  have hlk := B.notSynchronized
  have C : cxr g (wd_8 g S8) cX8_toOf 3 (some .int) wsX8_toOf RX8 p s m ([.ref (g.2.2.1 8), .int x1] : List Value).toArray meth c := ⟨⟨hx, hb, hr, hml, hown, hts, hlk⟩, hK, hP⟩
  have hl := lv_entry [.ref (g.2.2.1 8), .int x1] (n := 3) (Nat.le_of_ble_eq_true rfl)
  rw [lg_entry_eq]
  generalize (lg_sl [.ref (g.2.2.1 8), .int x1] ++ List.replicate (3 - (lg_sl [.ref (g.2.2.1 8), .int x1]).length) Slot.unset).toArray = ls at hl ⊢
  have hl : lv_has ls 3 [(0, .ref (g.2.2.1 8)), (1, .int x1)] := hl
  unfold f_X8_toOf at hf
  refine lv_sipush (v := 2100) (pc := 0) hx hb dX8_toOf_0 (by decide) ?_
  refine lv_istore_n (lv' := [(2, .int 2100), (0, .ref (g.2.2.1 8)), (1, .int x1)]) (pc := 3) hx hb dX8_toOf_3 rfl hl (by decide) rfl (fun ls hl => ?_)
  refine lv_aload_n (pc := 4) hx hb dX8_toOf_4 rfl (lv_at hl 1 rfl) ?_
  refine va_get (D := g.1) (ci := 8) (v := .ref (g.2.2.2 8 14)) (C := RX8) (T := TX8) (N := 47) (pc := 5) hx hb hts (fun _ h => List.mem_cons_of_mem _ (List.mem_append_right _ h)) hown hK hP 0 rfl rfl 14 (by decide) (hts _ q_X8_toOf_0) (fun _ h9 => h9) rfl dX8_toOf_5 ?_
  refine lv_iload_n (pc := 8) hx hb dX8_toOf_8 rfl (lv_at hl 2 rfl) ?_
  obtain ⟨b9, hf⟩ := gdE hf
  refine va_iald (D := g.1) (tys := tyl g) (f := (S8.2.2 14)) (pc := 9) hx hb hK hP 6 0 rfl rfl (inbV b9) dX8_toOf_9 ?_
  by_cases c10_1 : ((S8.2.2 14) (Int32.toNatClampNeg x1)) = 1
  · have hf := ft hf c10_1
    refine lv_tableIn (tgt := 36) (pc := 10) hx hb dX8_toOf_10 (by rw [c10_1]; decide) (by rw [c10_1]; decide) (by rw [c10_1]; rfl) (by decide) ?_
    refine lv_goto (tgt := 110) (pc := 36) hx hb dX8_toOf_36 (by decide) ?_
    exact w_X8_toOf_110 C  ls 2100 (lv_sub hl [0] rfl) hf
  · have hf := ff hf c10_1
    by_cases c10_2 : ((S8.2.2 14) (Int32.toNatClampNeg x1)) = 2
    · have hf := ft hf c10_2
      refine lv_tableIn (tgt := 39) (pc := 10) hx hb dX8_toOf_10 (by rw [c10_2]; decide) (by rw [c10_2]; decide) (by rw [c10_2]; rfl) (by decide) ?_
      refine lv_aload_n (pc := 39) hx hb dX8_toOf_39 rfl (lv_at hl 1 rfl) ?_
      refine va_get (D := g.1) (ci := 8) (v := .ref (g.2.2.2 8 18)) (C := RX8) (T := TX8) (N := 47) (pc := 40) hx hb hts (fun _ h => List.mem_cons_of_mem _ (List.mem_append_right _ h)) hown hK hP 0 rfl rfl 18 (by decide) (hts _ q_X8_toOf_1) (fun _ h9 => h9) rfl dX8_toOf_40 ?_
      refine lv_iload_n (pc := 43) hx hb dX8_toOf_43 rfl (lv_at hl 2 rfl) ?_
      obtain ⟨b44, hf⟩ := gdE hf
      refine va_iald (D := g.1) (tys := tyl g) (f := (S8.2.2 18)) (pc := 44) hx hb hK hP 10 0 rfl rfl (inbV b44) dX8_toOf_44 ?_
      refine lv_aload_n (pc := 45) hx hb dX8_toOf_45 rfl (lv_at hl 1 rfl) ?_
      refine va_get (D := g.1) (ci := 8) (v := .int (S8.1 11)) (C := RX8) (T := TX8) (N := 47) (pc := 46) hx hb hts (fun _ h => List.mem_cons_of_mem _ (List.mem_append_right _ h)) hown hK hP 0 rfl rfl 11 (by decide) (hts _ q_X8_toOf_2) (fun _ h9 => h9) rfl dX8_toOf_46 ?_
      refine lv_aload_n (pc := 49) hx hb dX8_toOf_49 rfl (lv_at hl 1 rfl) ?_
      refine va_get (D := g.1) (ci := 8) (v := .ref (g.2.2.2 8 19)) (C := RX8) (T := TX8) (N := 47) (pc := 50) hx hb hts (fun _ h => List.mem_cons_of_mem _ (List.mem_append_right _ h)) hown hK hP 0 rfl rfl 19 (by decide) (hts _ q_X8_toOf_3) (fun _ h9 => h9) rfl dX8_toOf_50 ?_
      refine lv_iload_n (pc := 53) hx hb dX8_toOf_53 rfl (lv_at hl 2 rfl) ?_
      obtain ⟨b54, hf⟩ := gdE hf
      refine va_iald (D := g.1) (tys := tyl g) (f := (S8.2.2 19)) (pc := 54) hx hb hK hP 11 0 rfl rfl (inbV b54) dX8_toOf_54 ?_
      obtain ⟨r55, e55, hf⟩ := bdE hf
      refine ksI (pc := 55) (As := [.int (S8.1 11), .int ((S8.2.2 19) (Int32.toNatClampNeg x1))]) (rest := [.int ((S8.2.2 18) (Int32.toNatClampNeg x1))]) ⟨hx, hb, hml, hown, hts⟩ (c_X8_lack l N (S8.1 11) ((S8.2.2 19) (Int32.toNatClampNeg x1)) r55 e55) (va_cwS 2 hts gX8_toOf_X8_lack rfl rfl rfl h_X8_lack ⟨Nat.le_of_ble_eq_true rfl, Nat.le_of_ble_eq_true rfl⟩) rfl hl.1 rfl (Nat.le_of_ble_eq_true rfl) dX8_toOf_55 ⟨Nat.zero_le _, Nat.zero_le _⟩ ?_
      refine lv_iadd (pc := 58) hx hb dX8_toOf_58 ?_
      refine lv_aload_n (pc := 59) hx hb dX8_toOf_59 rfl (lv_at hl 1 rfl) ?_
      refine va_get (D := g.1) (ci := 8) (v := .int (S8.1 12)) (C := RX8) (T := TX8) (N := 47) (pc := 60) hx hb hts (fun _ h => List.mem_cons_of_mem _ (List.mem_append_right _ h)) hown hK hP 0 rfl rfl 12 (by decide) (hts _ q_X8_toOf_4) (fun _ h9 => h9) rfl dX8_toOf_60 ?_
      refine lv_iadd (pc := 63) hx hb dX8_toOf_63 ?_
      refine lv_istore_n (lv' := [(2, .int ((((S8.2.2 18) (Int32.toNatClampNeg x1)) + r55) + (S8.1 12))), (0, .ref (g.2.2.1 8)), (1, .int x1)]) (pc := 64) hx hb dX8_toOf_64 rfl hl (by decide) rfl (fun ls hl => ?_)
      refine lv_goto (tgt := 110) (pc := 65) hx hb dX8_toOf_65 (by decide) ?_
      exact w_X8_toOf_110 C  ls ((((S8.2.2 18) (Int32.toNatClampNeg x1)) + r55) + (S8.1 12)) (lv_sub hl [0] rfl) hf
    · have hf := ff hf c10_2
      by_cases c10_3 : ((S8.2.2 14) (Int32.toNatClampNeg x1)) = 3
      · have hf := ft hf c10_3
        refine lv_tableIn (tgt := 68) (pc := 10) hx hb dX8_toOf_10 (by rw [c10_3]; decide) (by rw [c10_3]; decide) (by rw [c10_3]; rfl) (by decide) ?_
        refine lv_aload_n (pc := 68) hx hb dX8_toOf_68 rfl (lv_at hl 1 rfl) ?_
        refine lv_aload_n (pc := 69) hx hb dX8_toOf_69 rfl (lv_at hl 1 rfl) ?_
        refine va_get (D := g.1) (ci := 8) (v := .ref (g.2.2.2 8 20)) (C := RX8) (T := TX8) (N := 47) (pc := 70) hx hb hts (fun _ h => List.mem_cons_of_mem _ (List.mem_append_right _ h)) hown hK hP 0 rfl rfl 20 (by decide) (hts _ q_X8_toOf_5) (fun _ h9 => h9) rfl dX8_toOf_70 ?_
        refine lv_iload_n (pc := 73) hx hb dX8_toOf_73 rfl (lv_at hl 2 rfl) ?_
        obtain ⟨b74, hf⟩ := gdE hf
        refine va_iald (D := g.1) (tys := tyl g) (f := (S8.2.2 20)) (pc := 74) hx hb hK hP 12 0 rfl rfl (inbV b74) dX8_toOf_74 ?_
        refine lv_aload_n (pc := 75) hx hb dX8_toOf_75 rfl (lv_at hl 1 rfl) ?_
        refine va_get (D := g.1) (ci := 8) (v := .ref (g.2.2.2 8 21)) (C := RX8) (T := TX8) (N := 47) (pc := 76) hx hb hts (fun _ h => List.mem_cons_of_mem _ (List.mem_append_right _ h)) hown hK hP 0 rfl rfl 21 (by decide) (hts _ q_X8_toOf_6) (fun _ h9 => h9) rfl dX8_toOf_76 ?_
        refine lv_iload_n (pc := 79) hx hb dX8_toOf_79 rfl (lv_at hl 2 rfl) ?_
        obtain ⟨b80, hf⟩ := gdE hf
        refine va_iald (D := g.1) (tys := tyl g) (f := (S8.2.2 21)) (pc := 80) hx hb hK hP 13 0 rfl rfl (inbV b80) dX8_toOf_80 ?_
        obtain ⟨r81, e81, hf⟩ := bdE hf
        refine krI (g := g) (wc := (wd_8 g S8)) (pc := 81) (As := [.int ((S8.2.2 20) (Int32.toNatClampNeg x1)), .int ((S8.2.2 21) (Int32.toNatClampNeg x1))]) (rest := []) ⟨hx, hb, hml, hown, hts⟩ (c_X8_isSure l g N S8 ((S8.2.2 20) (Int32.toNatClampNeg x1)) ((S8.2.2 21) (Int32.toNatClampNeg x1)) r81 e81) (cwV 2 hts gX8_toOf_X8_isSure rfl rfl rfl h_X8_isSure ⟨Nat.le_of_ble_eq_true rfl, Nat.le_of_ble_eq_true rfl⟩) hK hP rfl rfl rfl hl.1 rfl (Nat.le_of_ble_eq_true rfl) dX8_toOf_81 ⟨Nat.zero_le _, Nat.zero_le _⟩ ?_
        refine lv_if_eq (tgt := 96) (pc := 84) hx hb dX8_toOf_84 (by decide) (fun c84 => ?_) (fun c84 => ?_)
        · have hf := ft hf c84
          refine lv_sipush (v := 2100) (pc := 96) hx hb dX8_toOf_96 (by decide) ?_
          exact w_X8_toOf_99 C  ls 2100 (lv_sub hl [] rfl) hf
        · have hf := ff hf c84
          refine lv_aload_n (pc := 87) hx hb dX8_toOf_87 rfl (lv_at hl 1 rfl) ?_
          refine va_get (D := g.1) (ci := 8) (v := .ref (g.2.2.2 8 19)) (C := RX8) (T := TX8) (N := 47) (pc := 88) hx hb hts (fun _ h => List.mem_cons_of_mem _ (List.mem_append_right _ h)) hown hK hP 0 rfl rfl 19 (by decide) (hts _ q_X8_toOf_3) (fun _ h9 => h9) rfl dX8_toOf_88 ?_
          refine lv_iload_n (pc := 91) hx hb dX8_toOf_91 rfl (lv_at hl 2 rfl) ?_
          obtain ⟨b92, hf⟩ := gdE hf
          refine va_iald (D := g.1) (tys := tyl g) (f := (S8.2.2 19)) (pc := 92) hx hb hK hP 11 0 rfl rfl (inbV b92) dX8_toOf_92 ?_
          refine lv_goto (tgt := 99) (pc := 93) hx hb dX8_toOf_93 (by decide) ?_
          exact w_X8_toOf_99 C  ls ((S8.2.2 19) (Int32.toNatClampNeg x1)) (lv_sub hl [] rfl) hf
      · have hf := ff hf c10_3
        refine lv_tableOut (tgt := 103) (pc := 10) hx hb dX8_toOf_10 (swO (fun z h1 h2 => by rcases (show z = 1 ∨ z = 2 ∨ z = 3 by omega) with rfl | rfl | rfl <;> first | exact swN c10_1 rfl | exact swN c10_2 rfl | exact swN c10_3 rfl)) (by decide) ?_
        refine lv_aload_n (pc := 103) hx hb dX8_toOf_103 rfl (lv_at hl 1 rfl) ?_
        refine va_get (D := g.1) (ci := 8) (v := .ref (g.2.2.2 8 19)) (C := RX8) (T := TX8) (N := 47) (pc := 104) hx hb hts (fun _ h => List.mem_cons_of_mem _ (List.mem_append_right _ h)) hown hK hP 0 rfl rfl 19 (by decide) (hts _ q_X8_toOf_3) (fun _ h9 => h9) rfl dX8_toOf_104 ?_
        refine lv_iload_n (pc := 107) hx hb dX8_toOf_107 rfl (lv_at hl 2 rfl) ?_
        obtain ⟨b108, hf⟩ := gdE hf
        refine va_iald (D := g.1) (tys := tyl g) (f := (S8.2.2 19)) (pc := 108) hx hb hK hP 11 0 rfl rfl (inbV b108) dX8_toOf_108 ?_
        refine lv_istore_n (lv' := [(2, .int ((S8.2.2 19) (Int32.toNatClampNeg x1))), (0, .ref (g.2.2.1 8)), (1, .int x1)]) (pc := 109) hx hb dX8_toOf_109 rfl hl (by decide) rfl (fun ls hl => ?_)
        exact w_X8_toOf_110 C  ls ((S8.2.2 19) (Int32.toNatClampNeg x1)) (lv_sub hl [0] rfl) hf
theorem q_X8_toldOf_0 : (.fieldLink RX8 26 "PictureCourtModel" "kindOf" "[I" : Cond) ∈ wsX8_toldOf := by decide +kernel
theorem q_X8_toldOf_1 : (.fieldLink RX8 29 "PictureCourtModel" "weightOf" "[I" : Cond) ∈ wsX8_toldOf := by decide +kernel
theorem q_X8_toldOf_2 : (.fieldLink RX8 32 "PictureCourtModel" "toldOn" "[I" : Cond) ∈ wsX8_toldOf := by decide +kernel
theorem q_X8_toldOf_3 : (.fieldLink RX8 35 "PictureCourtModel" "struckOn" "[I" : Cond) ∈ wsX8_toldOf := by decide +kernel
theorem h_X8_toldOf : yX8_toldOf.cls = RX8 ∧ yX8_toldOf.cls ≠ "java/lang/invoke/MethodHandle" ∧ yX8_toldOf.cls ≠ "java/lang/invoke/VarHandle" ∧ (parseMethodDescriptor yX8_toldOf.desc).map (fun d => d.parameters.length) = some 2 := by decide +kernel
set_option maxHeartbeats 4000000 in
set_option maxRecDepth 100000 in
theorem c_X8_toldOf (l : Launch) (g : En) (N : Nat) (S8 : St) (x1 : Int32) (x2 : Int32) (res : Int32) (hf : f_X8_toldOf N S8 x1 x2 = some res) : Met l yX8_toldOf wsX8_toldOf { frames := 4, cells := 0, slots := 0, locals := 97 } (roP g (wd_8 g S8) [.ref (g.2.2.1 8), .int x1, .int x2]) (vp_Si (fun r => r = res)) 0 0 (fun _ => False) := by
  refine Met.ofW (cc := cX8_toldOf) (maxL := 3) (ret := (some .int)) (by decide) rfl ?_
  intro p e s m args below meth c s₁ B hml hv
  obtain ⟨rfl, hP, hK⟩ := hv
  have hx := B.exec
  have hb := B.bytes
  have hr := B.returns
  have hts := atoms_spec (ws := wsX8_toldOf) B.pre
  have hown : s.vm.findClass RX8 = some m.cls := findClass_of_methodNamed B.named
  have hlk := B.notSynchronized
  have C : cxr g (wd_8 g S8) cX8_toldOf 3 (some .int) wsX8_toldOf RX8 p s m ([.ref (g.2.2.1 8), .int x1, .int x2] : List Value).toArray meth c := ⟨⟨hx, hb, hr, hml, hown, hts, hlk⟩, hK, hP⟩
  have hl := lv_entry [.ref (g.2.2.1 8), .int x1, .int x2] (n := 3) (Nat.le_of_ble_eq_true rfl)
  rw [lg_entry_eq]
  generalize (lg_sl [.ref (g.2.2.1 8), .int x1, .int x2] ++ List.replicate (3 - (lg_sl [.ref (g.2.2.1 8), .int x1, .int x2]).length) Slot.unset).toArray = ls at hl ⊢
  have hl : lv_has ls 3 [(0, .ref (g.2.2.1 8)), (1, .int x1), (2, .int x2)] := hl
  unfold f_X8_toldOf at hf
  refine lv_iload_n (pc := 0) hx hb dX8_toldOf_0 rfl (lv_at hl 2 rfl) ?_
  by_cases c1_0 : x2 = 0
  · have hf := ft hf c1_0
    refine lv_tableIn (tgt := 36) (pc := 1) hx hb dX8_toldOf_1 (by rw [c1_0]; decide) (by rw [c1_0]; decide) (by rw [c1_0]; rfl) (by decide) ?_
    refine lv_aload_n (pc := 36) hx hb dX8_toldOf_36 rfl (lv_at hl 0 rfl) ?_
    refine va_get (D := g.1) (ci := 8) (v := .ref (g.2.2.2 8 14)) (C := RX8) (T := TX8) (N := 47) (pc := 37) hx hb hts (fun _ h => List.mem_cons_of_mem _ (List.mem_append_right _ h)) hown hK hP 0 rfl rfl 14 (by decide) (hts _ q_X8_toldOf_0) (fun _ h9 => h9) rfl dX8_toldOf_37 ?_
    refine lv_iload_n (pc := 40) hx hb dX8_toldOf_40 rfl (lv_at hl 1 rfl) ?_
    obtain ⟨b41, hf⟩ := gdE hf
    refine va_iald (D := g.1) (tys := tyl g) (f := (S8.2.2 14)) (pc := 41) hx hb hK hP 6 0 rfl rfl (inbV b41) dX8_toldOf_41 ?_
    have hf := Option.some.inj hf
    subst hf
    exact W.iret (v := ((S8.2.2 14) (Int32.toNatClampNeg x1))) hx hb hr (fun t ht hW => ⟨_, rfl, rfl, ht⟩) (fun _ h => by cases h) dX8_toldOf_42
  · have hf := ff hf c1_0
    by_cases c1_1 : x2 = 1
    · have hf := ft hf c1_1
      refine lv_tableIn (tgt := 43) (pc := 1) hx hb dX8_toldOf_1 (by rw [c1_1]; decide) (by rw [c1_1]; decide) (by rw [c1_1]; rfl) (by decide) ?_
      refine lv_aload_n (pc := 43) hx hb dX8_toldOf_43 rfl (lv_at hl 0 rfl) ?_
      refine va_get (D := g.1) (ci := 8) (v := .ref (g.2.2.2 8 15)) (C := RX8) (T := TX8) (N := 47) (pc := 44) hx hb hts (fun _ h => List.mem_cons_of_mem _ (List.mem_append_right _ h)) hown hK hP 0 rfl rfl 15 (by decide) (hts _ q_X8_toldOf_1) (fun _ h9 => h9) rfl dX8_toldOf_44 ?_
      refine lv_iload_n (pc := 47) hx hb dX8_toldOf_47 rfl (lv_at hl 1 rfl) ?_
      obtain ⟨b48, hf⟩ := gdE hf
      refine va_iald (D := g.1) (tys := tyl g) (f := (S8.2.2 15)) (pc := 48) hx hb hK hP 7 0 rfl rfl (inbV b48) dX8_toldOf_48 ?_
      have hf := Option.some.inj hf
      subst hf
      exact W.iret (v := ((S8.2.2 15) (Int32.toNatClampNeg x1))) hx hb hr (fun t ht hW => ⟨_, rfl, rfl, ht⟩) (fun _ h => by cases h) dX8_toldOf_49
    · have hf := ff hf c1_1
      by_cases c1_2 : x2 = 2
      · have hf := ft hf c1_2
        refine lv_tableIn (tgt := 50) (pc := 1) hx hb dX8_toldOf_1 (by rw [c1_2]; decide) (by rw [c1_2]; decide) (by rw [c1_2]; rfl) (by decide) ?_
        refine lv_aload_n (pc := 50) hx hb dX8_toldOf_50 rfl (lv_at hl 0 rfl) ?_
        refine va_get (D := g.1) (ci := 8) (v := .ref (g.2.2.2 8 16)) (C := RX8) (T := TX8) (N := 47) (pc := 51) hx hb hts (fun _ h => List.mem_cons_of_mem _ (List.mem_append_right _ h)) hown hK hP 0 rfl rfl 16 (by decide) (hts _ q_X8_toldOf_2) (fun _ h9 => h9) rfl dX8_toldOf_51 ?_
        refine lv_iload_n (pc := 54) hx hb dX8_toldOf_54 rfl (lv_at hl 1 rfl) ?_
        obtain ⟨b55, hf⟩ := gdE hf
        refine va_iald (D := g.1) (tys := tyl g) (f := (S8.2.2 16)) (pc := 55) hx hb hK hP 8 0 rfl rfl (inbV b55) dX8_toldOf_55 ?_
        have hf := Option.some.inj hf
        subst hf
        exact W.iret (v := ((S8.2.2 16) (Int32.toNatClampNeg x1))) hx hb hr (fun t ht hW => ⟨_, rfl, rfl, ht⟩) (fun _ h => by cases h) dX8_toldOf_56
      · have hf := ff hf c1_2
        by_cases c1_3 : x2 = 3
        · have hf := ft hf c1_3
          refine lv_tableIn (tgt := 57) (pc := 1) hx hb dX8_toldOf_1 (by rw [c1_3]; decide) (by rw [c1_3]; decide) (by rw [c1_3]; rfl) (by decide) ?_
          refine lv_aload_n (pc := 57) hx hb dX8_toldOf_57 rfl (lv_at hl 0 rfl) ?_
          refine va_get (D := g.1) (ci := 8) (v := .ref (g.2.2.2 8 17)) (C := RX8) (T := TX8) (N := 47) (pc := 58) hx hb hts (fun _ h => List.mem_cons_of_mem _ (List.mem_append_right _ h)) hown hK hP 0 rfl rfl 17 (by decide) (hts _ q_X8_toldOf_3) (fun _ h9 => h9) rfl dX8_toldOf_58 ?_
          refine lv_iload_n (pc := 61) hx hb dX8_toldOf_61 rfl (lv_at hl 1 rfl) ?_
          obtain ⟨b62, hf⟩ := gdE hf
          refine va_iald (D := g.1) (tys := tyl g) (f := (S8.2.2 17)) (pc := 62) hx hb hK hP 9 0 rfl rfl (inbV b62) dX8_toldOf_62 ?_
          have hf := Option.some.inj hf
          subst hf
          exact W.iret (v := ((S8.2.2 17) (Int32.toNatClampNeg x1))) hx hb hr (fun t ht hW => ⟨_, rfl, rfl, ht⟩) (fun _ h => by cases h) dX8_toldOf_63
        · have hf := ff hf c1_3
          by_cases c1_4 : x2 = 4
          · have hf := ft hf c1_4
            refine lv_tableIn (tgt := 64) (pc := 1) hx hb dX8_toldOf_1 (by rw [c1_4]; decide) (by rw [c1_4]; decide) (by rw [c1_4]; rfl) (by decide) ?_
            refine lv_aload_n (pc := 64) hx hb dX8_toldOf_64 rfl (lv_at hl 0 rfl) ?_
            refine lv_iload_n (pc := 65) hx hb dX8_toldOf_65 rfl (lv_at hl 1 rfl) ?_
            obtain ⟨r66, e66, hf⟩ := bdE hf
            refine krI (g := g) (wc := (wd_8 g S8)) (pc := 66) (As := [.int x1]) (rest := []) ⟨hx, hb, hml, hown, hts⟩ (c_X8_fromOf l g N S8 x1 r66 e66) (cwV 1 hts gX8_toldOf_X8_fromOf rfl rfl rfl h_X8_fromOf ⟨Nat.le_of_ble_eq_true rfl, Nat.le_of_ble_eq_true rfl⟩) hK hP rfl rfl rfl hl.1 rfl (Nat.le_of_ble_eq_true rfl) dX8_toldOf_66 ⟨Nat.zero_le _, Nat.zero_le _⟩ ?_
            have hf := Option.some.inj hf
            subst hf
            exact W.iret (v := r66) hx hb hr (fun t ht hW => ⟨_, rfl, rfl, ht⟩) (fun _ h => by cases h) dX8_toldOf_69
          · have hf := ff hf c1_4
            refine lv_tableOut (tgt := 70) (pc := 1) hx hb dX8_toldOf_1 (swO (fun z h1 h2 => by rcases (show z = 0 ∨ z = 1 ∨ z = 2 ∨ z = 3 ∨ z = 4 by omega) with rfl | rfl | rfl | rfl | rfl <;> first | exact swN c1_0 rfl | exact swN c1_1 rfl | exact swN c1_2 rfl | exact swN c1_3 rfl | exact swN c1_4 rfl)) (by decide) ?_
            refine lv_aload_n (pc := 70) hx hb dX8_toldOf_70 rfl (lv_at hl 0 rfl) ?_
            refine lv_iload_n (pc := 71) hx hb dX8_toldOf_71 rfl (lv_at hl 1 rfl) ?_
            obtain ⟨r72, e72, hf⟩ := bdE hf
            refine krI (g := g) (wc := (wd_8 g S8)) (pc := 72) (As := [.int x1]) (rest := []) ⟨hx, hb, hml, hown, hts⟩ (c_X8_toOf l g N S8 x1 r72 e72) (cwV 1 hts gX8_toldOf_X8_toOf rfl rfl rfl h_X8_toOf ⟨Nat.le_of_ble_eq_true rfl, Nat.le_of_ble_eq_true rfl⟩) hK hP rfl rfl rfl hl.1 rfl (Nat.le_of_ble_eq_true rfl) dX8_toldOf_72 ⟨Nat.zero_le _, Nat.zero_le _⟩ ?_
            have hf := Option.some.inj hf
            subst hf
            exact W.iret (v := r72) hx hb hr (fun t ht hW => ⟨_, rfl, rfl, ht⟩) (fun _ h => by cases h) dX8_toldOf_75
theorem h_X8_told : yX8_told.cls = RX8 ∧ yX8_told.cls ≠ "java/lang/invoke/MethodHandle" ∧ yX8_told.cls ≠ "java/lang/invoke/VarHandle" ∧ (parseMethodDescriptor yX8_told.desc).map (fun d => d.parameters.length) = some 2 := by decide +kernel
set_option maxHeartbeats 4000000 in
set_option maxRecDepth 100000 in
theorem c_X8_told (l : Launch) (g : En) (N : Nat) (S8 : St) (x1 : Int32) (x2 : Int32) (res : Int32) (hf : f_X8_told N S8 x1 x2 = some res) : Met l yX8_told wsX8_told { frames := 5, cells := 0, slots := 0, locals := 119 } (roP g (wd_8 g S8) [.ref (g.2.2.1 8), .int x1, .int x2]) (vp_Si (fun r => r = res)) 0 0 (fun _ => False) := by
  refine Met.ofW (cc := cX8_told) (maxL := 3) (ret := (some .int)) (by decide) rfl ?_
  intro p e s m args below meth c s₁ B hml hv
  obtain ⟨rfl, hP, hK⟩ := hv
  have hx := B.exec
  have hb := B.bytes
  have hr := B.returns
  have hts := atoms_spec (ws := wsX8_told) B.pre
  have hown : s.vm.findClass RX8 = some m.cls := findClass_of_methodNamed B.named
  have hlk := B.notSynchronized
  have C : cxr g (wd_8 g S8) cX8_told 3 (some .int) wsX8_told RX8 p s m ([.ref (g.2.2.1 8), .int x1, .int x2] : List Value).toArray meth c := ⟨⟨hx, hb, hr, hml, hown, hts, hlk⟩, hK, hP⟩
  have hl := lv_entry [.ref (g.2.2.1 8), .int x1, .int x2] (n := 3) (Nat.le_of_ble_eq_true rfl)
  rw [lg_entry_eq]
  generalize (lg_sl [.ref (g.2.2.1 8), .int x1, .int x2] ++ List.replicate (3 - (lg_sl [.ref (g.2.2.1 8), .int x1, .int x2]).length) Slot.unset).toArray = ls at hl ⊢
  have hl : lv_has ls 3 [(0, .ref (g.2.2.1 8)), (1, .int x1), (2, .int x2)] := hl
  unfold f_X8_told at hf
  refine lv_aload_n (pc := 0) hx hb dX8_told_0 rfl (lv_at hl 0 rfl) ?_
  refine lv_iload_n (pc := 1) hx hb dX8_told_1 rfl (lv_at hl 1 rfl) ?_
  obtain ⟨r2, e2, hf⟩ := bdE hf
  refine krI (g := g) (wc := (wd_8 g S8)) (pc := 2) (As := [.int x1]) (rest := []) ⟨hx, hb, hml, hown, hts⟩ (c_X8_isProof l g N S8 x1 r2 e2) (cwV 1 hts gX8_told_X8_isProof rfl rfl rfl h_X8_isProof ⟨Nat.le_of_ble_eq_true rfl, Nat.le_of_ble_eq_true rfl⟩) hK hP rfl rfl rfl hl.1 rfl (Nat.le_of_ble_eq_true rfl) dX8_told_2 ⟨Nat.zero_le _, Nat.zero_le _⟩ ?_
  refine lv_if_eq (tgt := 26) (pc := 5) hx hb dX8_told_5 (by decide) (fun c5 => ?_) (fun c5 => ?_)
  · have hf := ft hf c5
    refine lv_iconst (v := (-1)) (pc := 26) hx hb dX8_told_26 (by decide) ?_
    have hf := Option.some.inj hf
    subst hf
    exact W.iret (v := (-1)) hx hb hr (fun t ht hW => ⟨_, rfl, rfl, ht⟩) (fun _ h => by cases h) dX8_told_27
  · have hf := ff hf c5
    refine lv_iload_n (pc := 8) hx hb dX8_told_8 rfl (lv_at hl 2 rfl) ?_
    refine lv_iconst (v := 0) (pc := 9) hx hb dX8_told_9 (by decide) ?_
    refine lv_iconst (v := 5) (pc := 10) hx hb dX8_told_10 (by decide) ?_
    obtain ⟨r11, e11, hf⟩ := bdE hf
    refine ksI (pc := 11) (As := [.int x2, .int 0, .int 5]) (rest := []) ⟨hx, hb, hml, hown, hts⟩ (c_X8_in l N x2 0 5 r11 e11) (va_cwS 3 hts gX8_told_X8_in rfl rfl rfl h_X8_in ⟨Nat.le_of_ble_eq_true rfl, Nat.le_of_ble_eq_true rfl⟩) rfl hl.1 rfl (Nat.le_of_ble_eq_true rfl) dX8_told_11 ⟨Nat.zero_le _, Nat.zero_le _⟩ ?_
    refine lv_if_eq (tgt := 26) (pc := 14) hx hb dX8_told_14 (by decide) (fun c14 => ?_) (fun c14 => ?_)
    · have hf := ft hf c14
      refine lv_iconst (v := (-1)) (pc := 26) hx hb dX8_told_26 (by decide) ?_
      have hf := Option.some.inj hf
      subst hf
      exact W.iret (v := (-1)) hx hb hr (fun t ht hW => ⟨_, rfl, rfl, ht⟩) (fun _ h => by cases h) dX8_told_27
    · have hf := ff hf c14
      refine lv_aload_n (pc := 17) hx hb dX8_told_17 rfl (lv_at hl 0 rfl) ?_
      refine lv_iload_n (pc := 18) hx hb dX8_told_18 rfl (lv_at hl 1 rfl) ?_
      refine lv_iload_n (pc := 19) hx hb dX8_told_19 rfl (lv_at hl 2 rfl) ?_
      obtain ⟨r20, e20, hf⟩ := bdE hf
      refine krI (g := g) (wc := (wd_8 g S8)) (pc := 20) (As := [.int x1, .int x2]) (rest := []) ⟨hx, hb, hml, hown, hts⟩ (c_X8_toldOf l g N S8 x1 x2 r20 e20) (cwV 2 hts gX8_told_X8_toldOf rfl rfl rfl h_X8_toldOf ⟨Nat.le_of_ble_eq_true rfl, Nat.le_of_ble_eq_true rfl⟩) hK hP rfl rfl rfl hl.1 rfl (Nat.le_of_ble_eq_true rfl) dX8_told_20 ⟨Nat.zero_le _, Nat.zero_le _⟩ ?_
      refine lv_goto (tgt := 27) (pc := 23) hx hb dX8_told_23 (by decide) ?_
      have hf := Option.some.inj hf
      subst hf
      exact W.iret (v := r20) hx hb hr (fun t ht hW => ⟨_, rfl, rfl, ht⟩) (fun _ h => by cases h) dX8_told_27
theorem q_X8_mark_0 : (.fieldLink RX8 26 "PictureCourtModel" "kindOf" "[I" : Cond) ∈ wsX8_mark := by decide +kernel
theorem q_X8_mark_1 : (.fieldLink RX8 44 "PictureCourtModel" "three" "[I" : Cond) ∈ wsX8_mark := by decide +kernel
theorem q_X8_mark_2 : (.fieldLink RX8 47 "PictureCourtModel" "four" "[I" : Cond) ∈ wsX8_mark := by decide +kernel
theorem q_X8_mark_3 : (.fieldLink RX8 41 "PictureCourtModel" "two" "[I" : Cond) ∈ wsX8_mark := by decide +kernel
theorem q_X8_mark_4 : (.fieldLink RX8 38 "PictureCourtModel" "one" "[I" : Cond) ∈ wsX8_mark := by decide +kernel
theorem h_X8_mark : yX8_mark.cls = RX8 ∧ yX8_mark.cls ≠ "java/lang/invoke/MethodHandle" ∧ yX8_mark.cls ≠ "java/lang/invoke/VarHandle" ∧ (parseMethodDescriptor yX8_mark.desc).map (fun d => d.parameters.length) = some 2 := by decide +kernel
set_option maxHeartbeats 4000000 in
set_option maxRecDepth 100000 in
theorem c_X8_mark (l : Launch) (g : En) (N : Nat) (sz : Nat) (S8 : St) (x1 : Int32) (x2 : Int32) (res : Int32 × St) (hf : f_X8_mark N S8 x1 x2 = some res) : Met l yX8_mark wsX8_mark { frames := 4, cells := 0, slots := 0, locals := 97 } (rwP g (wd_8 g S8) sz [.ref (g.2.2.1 8), .int x1, .int x2]) (rwQi g (wd_8 g (res.2)) (va_A (wd_8 g S8) sz) (res.1)) 0 0 (va_A (wd_8 g S8) sz) := by
  refine Met.ofW (cc := cX8_mark) (maxL := 3) (ret := (some .int)) (by decide) rfl ?_
  intro p e s m args below meth c s₁ B hml hv
  obtain ⟨rfl, hsz, hP, hK, hD0⟩ := hv
  have hx := B.exec
  have hb := B.bytes
  have hr := B.returns
  have hts := atoms_spec (ws := wsX8_mark) B.pre
  have hown : s.vm.findClass RX8 = some m.cls := findClass_of_methodNamed B.named
  have hlk := B.notSynchronized
  subst hsz
  have hD := hD0.self (sz := s.heap.size)
  generalize hAe : va_A (wd_8 g S8) s.heap.size = A at hD ⊢
  have hA : ∀ q : Nat, s.heap.size ≤ q → A q := fun q h => by rw [← hAe]; exact Or.inr h
  have hS : va_S A s.heap s.heap [] := va_S.rf
  have C : cxw g A cX8_mark 3 (some .int) wsX8_mark RX8 p s m ([.ref (g.2.2.1 8), .int x1, .int x2] : List Value).toArray meth c := ⟨⟨hx, hb, hr, hml, hown, hts, hlk⟩, hK, hA⟩
  have hl := lv_entry [.ref (g.2.2.1 8), .int x1, .int x2] (n := 3) (Nat.le_of_ble_eq_true rfl)
  rw [lg_entry_eq]
  generalize (lg_sl [.ref (g.2.2.1 8), .int x1, .int x2] ++ List.replicate (3 - (lg_sl [.ref (g.2.2.1 8), .int x1, .int x2]).length) Slot.unset).toArray = ls at hl ⊢
  have hl : lv_has ls 3 [(0, .ref (g.2.2.1 8)), (1, .int x1), (2, .int x2)] := hl
  unfold f_X8_mark at hf
  suffices K9 : ∀ (H : Heap) (locs : List Loc), va_P g.1 vwCl (wd_8 g S8) H → va_D A (wd_8 g S8) → va_S A s.heap H locs → ((f_X8_isProof N S8 x1).bind (fun r2 => (if r2 = 0 then some ((-1), S8) else ((f_X8_in N x2 0 3).bind (fun r11 => (if r11 = 0 then some ((-1), S8) else (if x2 = 0 then ((f_X8_toOf N S8 x1).bind (fun r25 => ((f_X8_fromOf N S8 x1).bind (fun r30 => some (((r25 - r30) + 1), S8))))) else (if inb x1 24 = true then (if ((S8.2.2 14) (Int32.toNatClampNeg x1)) = x2 then (if x2 = 1 then (if inb x1 24 = true then some (((S8.2.2 18) (Int32.toNatClampNeg x1)), S8) else none) else (if x2 = 2 then (if inb x1 24 = true then some (((S8.2.2 19) (Int32.toNatClampNeg x1)), S8) else none) else (if inb x1 24 = true then (if inb x1 24 = true then ((f_X8_isSure N S8 ((S8.2.2 20) (Int32.toNatClampNeg x1)) ((S8.2.2 21) (Int32.toNatClampNeg x1))).bind (fun r94 => (if r94 = 0 then some (0, S8) else some (1, S8)))) else none) else none))) else ((f_X8_meets N S8 3).bind (fun r49 => some ((r49.1), (r49.2))))) else none)))))))) = some res → W p l e (headSpec wsX8_mark { frames := 4, cells := 0, slots := 0, locals := 97 }).room s m ([.ref (g.2.2.1 8), .int x1, .int x2] : List Value).toArray below meth c H locs 0 0 (MQ below (rwQi g (wd_8 g (res.2)) A (res.1)) ([.ref (g.2.2.1 8), .int x1, .int x2] : List Value).toArray s 0 0 A) (F0 m 0 ls []) from K9 s.heap [] hP hD hS hf
  clear hP hD hS hf
  intro H locs hP hD hS hf
  refine lv_aload_n (pc := 0) hx hb dX8_mark_0 rfl (lv_at hl 0 rfl) ?_
  refine lv_iload_n (pc := 1) hx hb dX8_mark_1 rfl (lv_at hl 1 rfl) ?_
  obtain ⟨r2, e2, hf⟩ := bdE hf
  refine krI (g := g) (wc := (wd_8 g S8)) (pc := 2) (As := [.int x1]) (rest := []) ⟨hx, hb, hml, hown, hts⟩ (c_X8_isProof l g N S8 x1 r2 e2) (cwV 1 hts gX8_mark_X8_isProof rfl rfl rfl h_X8_isProof ⟨Nat.le_of_ble_eq_true rfl, Nat.le_of_ble_eq_true rfl⟩) hK hP rfl rfl rfl hl.1 rfl (Nat.le_of_ble_eq_true rfl) dX8_mark_2 ⟨Nat.zero_le _, Nat.zero_le _⟩ ?_
  refine lv_if_eq (tgt := 17) (pc := 5) hx hb dX8_mark_5 (by decide) (fun c5 => ?_) (fun c5 => ?_)
  · have hf := ft hf c5
    refine lv_iconst (v := (-1)) (pc := 17) hx hb dX8_mark_17 (by decide) ?_
    have hf := Option.some.inj hf
    subst hf
    exact W.iret (v := (-1)) hx hb hr (fun t ht hW => ⟨⟨_, (), rfl, rfl, by rw [ht]; exact hP, va_K.moved hW.alike hK, hD⟩, hS.F ht⟩) hS.2.2 dX8_mark_18
  · have hf := ff hf c5
    refine lv_iload_n (pc := 8) hx hb dX8_mark_8 rfl (lv_at hl 2 rfl) ?_
    refine lv_iconst (v := 0) (pc := 9) hx hb dX8_mark_9 (by decide) ?_
    refine lv_iconst (v := 3) (pc := 10) hx hb dX8_mark_10 (by decide) ?_
    obtain ⟨r11, e11, hf⟩ := bdE hf
    refine ksI (pc := 11) (As := [.int x2, .int 0, .int 3]) (rest := []) ⟨hx, hb, hml, hown, hts⟩ (c_X8_in l N x2 0 3 r11 e11) (va_cwS 3 hts gX8_mark_X8_in rfl rfl rfl h_X8_in ⟨Nat.le_of_ble_eq_true rfl, Nat.le_of_ble_eq_true rfl⟩) rfl hl.1 rfl (Nat.le_of_ble_eq_true rfl) dX8_mark_11 ⟨Nat.zero_le _, Nat.zero_le _⟩ ?_
    refine lv_if_ne (tgt := 19) (pc := 14) hx hb dX8_mark_14 (by decide) (fun c14 => ?_) (fun c14 => ?_)
    · have hf := ff hf c14
      refine lv_iload_n (pc := 19) hx hb dX8_mark_19 rfl (lv_at hl 2 rfl) ?_
      refine lv_if_ne (tgt := 37) (pc := 20) hx hb dX8_mark_20 (by decide) (fun c20 => ?_) (fun c20 => ?_)
      · have hf := ff hf c20
        refine lv_aload_n (pc := 37) hx hb dX8_mark_37 rfl (lv_at hl 0 rfl) ?_
        refine va_get (D := g.1) (ci := 8) (v := .ref (g.2.2.2 8 14)) (C := RX8) (T := TX8) (N := 47) (pc := 38) hx hb hts (fun _ h => List.mem_cons_of_mem _ (List.mem_append_right _ h)) hown hK hP 0 rfl rfl 14 (by decide) (hts _ q_X8_mark_0) (fun _ h9 => h9) rfl dX8_mark_38 ?_
        refine lv_iload_n (pc := 41) hx hb dX8_mark_41 rfl (lv_at hl 1 rfl) ?_
        obtain ⟨b42, hf⟩ := gdE hf
        refine va_iald (D := g.1) (tys := tyl g) (f := (S8.2.2 14)) (pc := 42) hx hb hK hP 6 0 rfl rfl (inbV b42) dX8_mark_42 ?_
        refine lv_iload_n (pc := 43) hx hb dX8_mark_43 rfl (lv_at hl 2 rfl) ?_
        refine lv_icmp_eq (tgt := 53) (pc := 44) hx hb dX8_mark_44 (by decide) (fun c44 => ?_) (fun c44 => ?_)
        · have hf := ft hf c44
          refine lv_iload_n (pc := 53) hx hb dX8_mark_53 rfl (lv_at hl 2 rfl) ?_
          refine lv_iconst (v := 1) (pc := 54) hx hb dX8_mark_54 (by decide) ?_
          refine lv_icmp_ne (tgt := 67) (pc := 55) hx hb dX8_mark_55 (by decide) (fun c55 => ?_) (fun c55 => ?_)
          · have hf := ff hf c55
            refine lv_iload_n (pc := 67) hx hb dX8_mark_67 rfl (lv_at hl 2 rfl) ?_
            refine lv_iconst (v := 2) (pc := 68) hx hb dX8_mark_68 (by decide) ?_
            refine lv_icmp_ne (tgt := 81) (pc := 69) hx hb dX8_mark_69 (by decide) (fun c69 => ?_) (fun c69 => ?_)
            · have hf := ff hf c69
              refine lv_aload_n (pc := 81) hx hb dX8_mark_81 rfl (lv_at hl 0 rfl) ?_
              refine lv_aload_n (pc := 82) hx hb dX8_mark_82 rfl (lv_at hl 0 rfl) ?_
              refine va_get (D := g.1) (ci := 8) (v := .ref (g.2.2.2 8 20)) (C := RX8) (T := TX8) (N := 47) (pc := 83) hx hb hts (fun _ h => List.mem_cons_of_mem _ (List.mem_append_right _ h)) hown hK hP 0 rfl rfl 20 (by decide) (hts _ q_X8_mark_1) (fun _ h9 => h9) rfl dX8_mark_83 ?_
              refine lv_iload_n (pc := 86) hx hb dX8_mark_86 rfl (lv_at hl 1 rfl) ?_
              obtain ⟨b87, hf⟩ := gdE hf
              refine va_iald (D := g.1) (tys := tyl g) (f := (S8.2.2 20)) (pc := 87) hx hb hK hP 12 0 rfl rfl (inbV b87) dX8_mark_87 ?_
              refine lv_aload_n (pc := 88) hx hb dX8_mark_88 rfl (lv_at hl 0 rfl) ?_
              refine va_get (D := g.1) (ci := 8) (v := .ref (g.2.2.2 8 21)) (C := RX8) (T := TX8) (N := 47) (pc := 89) hx hb hts (fun _ h => List.mem_cons_of_mem _ (List.mem_append_right _ h)) hown hK hP 0 rfl rfl 21 (by decide) (hts _ q_X8_mark_2) (fun _ h9 => h9) rfl dX8_mark_89 ?_
              refine lv_iload_n (pc := 92) hx hb dX8_mark_92 rfl (lv_at hl 1 rfl) ?_
              obtain ⟨b93, hf⟩ := gdE hf
              refine va_iald (D := g.1) (tys := tyl g) (f := (S8.2.2 21)) (pc := 93) hx hb hK hP 13 0 rfl rfl (inbV b93) dX8_mark_93 ?_
              obtain ⟨r94, e94, hf⟩ := bdE hf
              refine krI (g := g) (wc := (wd_8 g S8)) (pc := 94) (As := [.int ((S8.2.2 20) (Int32.toNatClampNeg x1)), .int ((S8.2.2 21) (Int32.toNatClampNeg x1))]) (rest := []) ⟨hx, hb, hml, hown, hts⟩ (c_X8_isSure l g N S8 ((S8.2.2 20) (Int32.toNatClampNeg x1)) ((S8.2.2 21) (Int32.toNatClampNeg x1)) r94 e94) (cwV 2 hts gX8_mark_X8_isSure rfl rfl rfl h_X8_isSure ⟨Nat.le_of_ble_eq_true rfl, Nat.le_of_ble_eq_true rfl⟩) hK hP rfl rfl rfl hl.1 rfl (Nat.le_of_ble_eq_true rfl) dX8_mark_94 ⟨Nat.zero_le _, Nat.zero_le _⟩ ?_
              refine lv_if_eq (tgt := 104) (pc := 97) hx hb dX8_mark_97 (by decide) (fun c97 => ?_) (fun c97 => ?_)
              · have hf := ft hf c97
                refine lv_iconst (v := 0) (pc := 104) hx hb dX8_mark_104 (by decide) ?_
                have hf := Option.some.inj hf
                subst hf
                exact W.iret (v := 0) hx hb hr (fun t ht hW => ⟨⟨_, (), rfl, rfl, by rw [ht]; exact hP, va_K.moved hW.alike hK, hD⟩, hS.F ht⟩) hS.2.2 dX8_mark_105
              · have hf := ff hf c97
                refine lv_iconst (v := 1) (pc := 100) hx hb dX8_mark_100 (by decide) ?_
                refine lv_goto (tgt := 105) (pc := 101) hx hb dX8_mark_101 (by decide) ?_
                have hf := Option.some.inj hf
                subst hf
                exact W.iret (v := 1) hx hb hr (fun t ht hW => ⟨⟨_, (), rfl, rfl, by rw [ht]; exact hP, va_K.moved hW.alike hK, hD⟩, hS.F ht⟩) hS.2.2 dX8_mark_105
            · have hf := ft hf c69
              refine lv_aload_n (pc := 72) hx hb dX8_mark_72 rfl (lv_at hl 0 rfl) ?_
              refine va_get (D := g.1) (ci := 8) (v := .ref (g.2.2.2 8 19)) (C := RX8) (T := TX8) (N := 47) (pc := 73) hx hb hts (fun _ h => List.mem_cons_of_mem _ (List.mem_append_right _ h)) hown hK hP 0 rfl rfl 19 (by decide) (hts _ q_X8_mark_3) (fun _ h9 => h9) rfl dX8_mark_73 ?_
              refine lv_iload_n (pc := 76) hx hb dX8_mark_76 rfl (lv_at hl 1 rfl) ?_
              obtain ⟨b77, hf⟩ := gdE hf
              refine va_iald (D := g.1) (tys := tyl g) (f := (S8.2.2 19)) (pc := 77) hx hb hK hP 11 0 rfl rfl (inbV b77) dX8_mark_77 ?_
              refine lv_goto (tgt := 105) (pc := 78) hx hb dX8_mark_78 (by decide) ?_
              have hf := Option.some.inj hf
              subst hf
              exact W.iret (v := ((S8.2.2 19) (Int32.toNatClampNeg x1))) hx hb hr (fun t ht hW => ⟨⟨_, (), rfl, rfl, by rw [ht]; exact hP, va_K.moved hW.alike hK, hD⟩, hS.F ht⟩) hS.2.2 dX8_mark_105
          · have hf := ft hf c55
            refine lv_aload_n (pc := 58) hx hb dX8_mark_58 rfl (lv_at hl 0 rfl) ?_
            refine va_get (D := g.1) (ci := 8) (v := .ref (g.2.2.2 8 18)) (C := RX8) (T := TX8) (N := 47) (pc := 59) hx hb hts (fun _ h => List.mem_cons_of_mem _ (List.mem_append_right _ h)) hown hK hP 0 rfl rfl 18 (by decide) (hts _ q_X8_mark_4) (fun _ h9 => h9) rfl dX8_mark_59 ?_
            refine lv_iload_n (pc := 62) hx hb dX8_mark_62 rfl (lv_at hl 1 rfl) ?_
            obtain ⟨b63, hf⟩ := gdE hf
            refine va_iald (D := g.1) (tys := tyl g) (f := (S8.2.2 18)) (pc := 63) hx hb hK hP 10 0 rfl rfl (inbV b63) dX8_mark_63 ?_
            refine lv_goto (tgt := 105) (pc := 64) hx hb dX8_mark_64 (by decide) ?_
            have hf := Option.some.inj hf
            subst hf
            exact W.iret (v := ((S8.2.2 18) (Int32.toNatClampNeg x1))) hx hb hr (fun t ht hW => ⟨⟨_, (), rfl, rfl, by rw [ht]; exact hP, va_K.moved hW.alike hK, hD⟩, hS.F ht⟩) hS.2.2 dX8_mark_105
        · have hf := ff hf c44
          refine lv_aload_n (pc := 47) hx hb dX8_mark_47 rfl (lv_at hl 0 rfl) ?_
          refine lv_iconst (v := 3) (pc := 48) hx hb dX8_mark_48 (by decide) ?_
          obtain ⟨r49, e49, hf⟩ := bdE hf
          refine kuI (g := g) (A := A) (W0 := (wd_8 g S8)) (w1 := (wd_8 g (r49.2))) (pc := 49) (As := [.int 3]) (rest := []) ⟨hx, hb, hml, hown, hts⟩ hK hA hP hD hS (c_X8_meets l g N H.size S8 3 r49 e49) (cwV 1 hts gX8_mark_X8_meets rfl rfl rfl h_X8_meets ⟨Nat.le_of_ble_eq_true rfl, Nat.le_of_ble_eq_true rfl⟩) rfl rfl rfl hl.1 rfl (Nat.le_of_ble_eq_true rfl) dX8_mark_49 ⟨Nat.zero_le _, Nat.zero_le _⟩ (fun H locs hP hD hS => ?_)
          have hf := Option.some.inj hf
          subst hf
          exact W.iret (v := (r49.1)) hx hb hr (fun t ht hW => ⟨⟨_, (), rfl, rfl, by rw [ht]; exact hP, va_K.moved hW.alike hK, hD⟩, hS.F ht⟩) hS.2.2 dX8_mark_52
      · have hf := ft hf c20
        refine lv_aload_n (pc := 23) hx hb dX8_mark_23 rfl (lv_at hl 0 rfl) ?_
        refine lv_iload_n (pc := 24) hx hb dX8_mark_24 rfl (lv_at hl 1 rfl) ?_
        obtain ⟨r25, e25, hf⟩ := bdE hf
        refine krI (g := g) (wc := (wd_8 g S8)) (pc := 25) (As := [.int x1]) (rest := []) ⟨hx, hb, hml, hown, hts⟩ (c_X8_toOf l g N S8 x1 r25 e25) (cwV 1 hts gX8_mark_X8_toOf rfl rfl rfl h_X8_toOf ⟨Nat.le_of_ble_eq_true rfl, Nat.le_of_ble_eq_true rfl⟩) hK hP rfl rfl rfl hl.1 rfl (Nat.le_of_ble_eq_true rfl) dX8_mark_25 ⟨Nat.zero_le _, Nat.zero_le _⟩ ?_
        refine lv_aload_n (pc := 28) hx hb dX8_mark_28 rfl (lv_at hl 0 rfl) ?_
        refine lv_iload_n (pc := 29) hx hb dX8_mark_29 rfl (lv_at hl 1 rfl) ?_
        obtain ⟨r30, e30, hf⟩ := bdE hf
        refine krI (g := g) (wc := (wd_8 g S8)) (pc := 30) (As := [.int x1]) (rest := [.int r25]) ⟨hx, hb, hml, hown, hts⟩ (c_X8_fromOf l g N S8 x1 r30 e30) (cwV 1 hts gX8_mark_X8_fromOf rfl rfl rfl h_X8_fromOf ⟨Nat.le_of_ble_eq_true rfl, Nat.le_of_ble_eq_true rfl⟩) hK hP rfl rfl rfl hl.1 rfl (Nat.le_of_ble_eq_true rfl) dX8_mark_30 ⟨Nat.zero_le _, Nat.zero_le _⟩ ?_
        refine lv_isub (pc := 33) hx hb dX8_mark_33 ?_
        refine lv_iconst (v := 1) (pc := 34) hx hb dX8_mark_34 (by decide) ?_
        refine lv_iadd (pc := 35) hx hb dX8_mark_35 ?_
        have hf := Option.some.inj hf
        subst hf
        exact W.iret (v := ((r25 - r30) + 1)) hx hb hr (fun t ht hW => ⟨⟨_, (), rfl, rfl, by rw [ht]; exact hP, va_K.moved hW.alike hK, hD⟩, hS.F ht⟩) hS.2.2 dX8_mark_36
    · have hf := ft hf c14
      refine lv_iconst (v := (-1)) (pc := 17) hx hb dX8_mark_17 (by decide) ?_
      have hf := Option.some.inj hf
      subst hf
      exact W.iret (v := (-1)) hx hb hr (fun t ht hW => ⟨⟨_, (), rfl, rfl, by rw [ht]; exact hP, va_K.moved hW.alike hK, hD⟩, hS.F ht⟩) hS.2.2 dX8_mark_18
theorem q_X8_isKnown_0 : (.fieldLink RX8 32 "PictureCourtModel" "toldOn" "[I" : Cond) ∈ wsX8_isKnown := by decide +kernel
theorem q_X8_isKnown_1 : (.fieldLink RX8 35 "PictureCourtModel" "struckOn" "[I" : Cond) ∈ wsX8_isKnown := by decide +kernel
theorem h_X8_isKnown : yX8_isKnown.cls = RX8 ∧ yX8_isKnown.cls ≠ "java/lang/invoke/MethodHandle" ∧ yX8_isKnown.cls ≠ "java/lang/invoke/VarHandle" ∧ (parseMethodDescriptor yX8_isKnown.desc).map (fun d => d.parameters.length) = some 2 := by decide +kernel
set_option maxHeartbeats 4000000 in
set_option maxRecDepth 100000 in
theorem w_X8_isKnown_31 {p : Program} {l : Launch} {e : Env} {s : State} {m : MethodId} {args : Array Value} {below : List Frame} {meth : Method} {c : Code} {g : En} {N : Nat} {S8 : St} {res : Int32} (C : cxr g (wd_8 g S8) cX8_isKnown 3 (some .boolean) wsX8_isKnown RX8 p s m args meth c) : ∀ (ls : Array Slot), lv_has ls 3 [] → f_X8_isKnown_31 N S8   = some res → W p l e (headSpec wsX8_isKnown { frames := 0, cells := 0, slots := 0, locals := 0 }).room s m args below meth c s.heap [] 0 0 (MQ below (vp_Si (fun r => r = res)) args s 0 0 (fun _ => False)) (F0 m 31 ls []) := by
  intro ls  hl hf
  obtain ⟨⟨hx, hb, hr, hml, hown, hts, hlk⟩, hK, hP⟩ := id C
  unfold f_X8_isKnown_31 at hf
  refine lv_iconst (v := 1) (pc := 31) hx hb dX8_isKnown_31 (by decide) ?_
  refine lv_goto (tgt := 36) (pc := 32) hx hb dX8_isKnown_32 (by decide) ?_
  have hf := Option.some.inj hf
  subst hf
  exact W.zret (v := 1) hx hb hr rfl (fun t ht hW => ⟨_, rfl, rfl, ht⟩) (fun _ h => by cases h) dX8_isKnown_36
set_option maxHeartbeats 4000000 in
set_option maxRecDepth 100000 in
theorem c_X8_isKnown (l : Launch) (g : En) (N : Nat) (S8 : St) (x1 : Int32) (x2 : Int32) (res : Int32) (hf : f_X8_isKnown N S8 x1 x2 = some res) : Met l yX8_isKnown wsX8_isKnown { frames := 0, cells := 0, slots := 0, locals := 0 } (roP g (wd_8 g S8) [.ref (g.2.2.1 8), .int x1, .int x2]) (vp_Si (fun r => r = res)) 0 0 (fun _ => False) := by
  refine Met.ofW (cc := cX8_isKnown) (maxL := 3) (ret := (some .boolean)) (by decide) rfl ?_
  intro p e s m args below meth c s₁ B hml hv
  obtain ⟨rfl, hP, hK⟩ := hv
  have hx := B.exec
  have hb := B.bytes
  have hr := B.returns
  have hts := atoms_spec (ws := wsX8_isKnown) B.pre
  have hown : s.vm.findClass RX8 = some m.cls := findClass_of_methodNamed B.named
  have hlk := B.notSynchronized
  have C : cxr g (wd_8 g S8) cX8_isKnown 3 (some .boolean) wsX8_isKnown RX8 p s m ([.ref (g.2.2.1 8), .int x1, .int x2] : List Value).toArray meth c := ⟨⟨hx, hb, hr, hml, hown, hts, hlk⟩, hK, hP⟩
  have hl := lv_entry [.ref (g.2.2.1 8), .int x1, .int x2] (n := 3) (Nat.le_of_ble_eq_true rfl)
  rw [lg_entry_eq]
  generalize (lg_sl [.ref (g.2.2.1 8), .int x1, .int x2] ++ List.replicate (3 - (lg_sl [.ref (g.2.2.1 8), .int x1, .int x2]).length) Slot.unset).toArray = ls at hl ⊢
  have hl : lv_has ls 3 [(0, .ref (g.2.2.1 8)), (1, .int x1), (2, .int x2)] := hl
  unfold f_X8_isKnown at hf
  refine lv_aload_n (pc := 0) hx hb dX8_isKnown_0 rfl (lv_at hl 0 rfl) ?_
  refine va_get (D := g.1) (ci := 8) (v := .ref (g.2.2.2 8 16)) (C := RX8) (T := TX8) (N := 47) (pc := 1) hx hb hts (fun _ h => List.mem_cons_of_mem _ (List.mem_append_right _ h)) hown hK hP 0 rfl rfl 16 (by decide) (hts _ q_X8_isKnown_0) (fun _ h9 => h9) rfl dX8_isKnown_1 ?_
  refine lv_iload_n (pc := 4) hx hb dX8_isKnown_4 rfl (lv_at hl 1 rfl) ?_
  obtain ⟨b5, hf⟩ := gdE hf
  refine va_iald (D := g.1) (tys := tyl g) (f := (S8.2.2 16)) (pc := 5) hx hb hK hP 8 0 rfl rfl (inbV b5) dX8_isKnown_5 ?_
  refine lv_iload_n (pc := 6) hx hb dX8_isKnown_6 rfl (lv_at hl 2 rfl) ?_
  refine lv_icmp_gt (tgt := 35) (pc := 7) hx hb dX8_isKnown_7 (by decide) (fun c7 => ?_) (fun c7 => ?_)
  · have hf := ft hf c7
    refine lv_iconst (v := 0) (pc := 35) hx hb dX8_isKnown_35 (by decide) ?_
    have hf := Option.some.inj hf
    subst hf
    exact W.zret (v := 0) hx hb hr rfl (fun t ht hW => ⟨_, rfl, rfl, ht⟩) (fun _ h => by cases h) dX8_isKnown_36
  · have hf := ff hf c7
    refine lv_aload_n (pc := 10) hx hb dX8_isKnown_10 rfl (lv_at hl 0 rfl) ?_
    refine va_get (D := g.1) (ci := 8) (v := .ref (g.2.2.2 8 17)) (C := RX8) (T := TX8) (N := 47) (pc := 11) hx hb hts (fun _ h => List.mem_cons_of_mem _ (List.mem_append_right _ h)) hown hK hP 0 rfl rfl 17 (by decide) (hts _ q_X8_isKnown_1) (fun _ h9 => h9) rfl dX8_isKnown_11 ?_
    refine lv_iload_n (pc := 14) hx hb dX8_isKnown_14 rfl (lv_at hl 1 rfl) ?_
    obtain ⟨b15, hf⟩ := gdE hf
    refine va_iald (D := g.1) (tys := tyl g) (f := (S8.2.2 17)) (pc := 15) hx hb hK hP 9 0 rfl rfl (inbV b15) dX8_isKnown_15 ?_
    refine lv_bipush (v := (-9)) (pc := 16) hx hb dX8_isKnown_16 (by decide) ?_
    refine lv_icmp_eq (tgt := 31) (pc := 18) hx hb dX8_isKnown_18 (by decide) (fun c18 => ?_) (fun c18 => ?_)
    · have hf := ft hf c18
      exact w_X8_isKnown_31 C  ls  (lv_sub hl [] rfl) hf
    · have hf := ff hf c18
      refine lv_iload_n (pc := 21) hx hb dX8_isKnown_21 rfl (lv_at hl 2 rfl) ?_
      refine lv_aload_n (pc := 22) hx hb dX8_isKnown_22 rfl (lv_at hl 0 rfl) ?_
      refine va_get (D := g.1) (ci := 8) (v := .ref (g.2.2.2 8 17)) (C := RX8) (T := TX8) (N := 47) (pc := 23) hx hb hts (fun _ h => List.mem_cons_of_mem _ (List.mem_append_right _ h)) hown hK hP 0 rfl rfl 17 (by decide) (hts _ q_X8_isKnown_1) (fun _ h9 => h9) rfl dX8_isKnown_23 ?_
      refine lv_iload_n (pc := 26) hx hb dX8_isKnown_26 rfl (lv_at hl 1 rfl) ?_
      obtain ⟨b27, hf⟩ := gdE hf
      refine va_iald (D := g.1) (tys := tyl g) (f := (S8.2.2 17)) (pc := 27) hx hb hK hP 9 0 rfl rfl (inbV b27) dX8_isKnown_27 ?_
      refine lv_icmp_ge (tgt := 35) (pc := 28) hx hb dX8_isKnown_28 (by decide) (fun c28 => ?_) (fun c28 => ?_)
      · have hf := ft hf c28
        refine lv_iconst (v := 0) (pc := 35) hx hb dX8_isKnown_35 (by decide) ?_
        have hf := Option.some.inj hf
        subst hf
        exact W.zret (v := 0) hx hb hr rfl (fun t ht hW => ⟨_, rfl, rfl, ht⟩) (fun _ h => by cases h) dX8_isKnown_36
      · have hf := ff hf c28
        exact w_X8_isKnown_31 C  ls  (lv_sub hl [] rfl) hf
theorem q_X8_span_0 : (.fieldLink RX8 167 "PictureCourtModel" "proofs" "I" : Cond) ∈ wsX8_span := by decide +kernel
theorem h_X8_span : yX8_span.cls = RX8 ∧ yX8_span.cls ≠ "java/lang/invoke/MethodHandle" ∧ yX8_span.cls ≠ "java/lang/invoke/VarHandle" ∧ (parseMethodDescriptor yX8_span.desc).map (fun d => d.parameters.length) = some 2 := by decide +kernel
set_option maxHeartbeats 4000000 in
set_option maxRecDepth 100000 in
theorem w_X8_span_85 {p : Program} {l : Launch} {e : Env} {s : State} {m : MethodId} {args : Array Value} {below : List Frame} {meth : Method} {c : Code} {g : En} {N : Nat} {S8 : St} {res : Int32} (C : cxr g (wd_8 g S8) cX8_span 6 (some .int) wsX8_span RX8 p s m args meth c) (k21 : Int32 → Int32 → Int32 → Int32 → Int32 → Option (Int32)) (H21 : ∀ (ls : Array Slot) (x1 : Int32) (x2 : Int32) (x3 : Int32) (x4 : Int32) (x5 : Int32), lv_has ls 6 [(0, .ref (g.2.2.1 8)), (1, .int x1), (2, .int x2), (3, .int x3), (4, .int x4), (5, .int x5)] → k21 x1 x2 x3 x4 x5 = some res → W p l e (headSpec wsX8_span { frames := 4, cells := 0, slots := 0, locals := 97 }).room s m args below meth c s.heap [] 0 0 (MQ below (vp_Si (fun r => r = res)) args s 0 0 (fun _ => False)) (F0 m 21 ls [])) : ∀ (ls : Array Slot) (x1 : Int32) (x2 : Int32) (x3 : Int32) (x4 : Int32) (x5 : Int32), lv_has ls 6 [(0, .ref (g.2.2.1 8)), (1, .int x1), (2, .int x2), (3, .int x3), (4, .int x4), (5, .int x5)] → f_X8_span_85 N S8 k21 x1 x2 x3 x4 x5 = some res → W p l e (headSpec wsX8_span { frames := 4, cells := 0, slots := 0, locals := 97 }).room s m args below meth c s.heap [] 0 0 (MQ below (vp_Si (fun r => r = res)) args s 0 0 (fun _ => False)) (F0 m 85 ls []) := by
  intro ls x1 x2 x3 x4 x5 hl hf
  obtain ⟨⟨hx, hb, hr, hml, hown, hts, hlk⟩, hK, hP⟩ := id C
  unfold f_X8_span_85 at hf
  refine lv_iinc (v := (x5 + 1)) (lv' := [(5, .int (x5 + 1)), (0, .ref (g.2.2.1 8)), (1, .int x1), (2, .int x2), (3, .int x3), (4, .int x4)]) (pc := 85) hx hb dX8_span_85 hl (k := 5) rfl rfl (by decide) rfl (fun ls hl => ?_)
  refine lv_goto (tgt := 21) (pc := 88) hx hb dX8_span_88 (by decide) ?_
  exact H21 ls x1 x2 x3 x4 (x5 + 1) (lv_sub hl [1, 2, 3, 4, 5, 0] rfl) hf
set_option maxHeartbeats 4000000 in
set_option maxRecDepth 100000 in
theorem w_X8_span_83 {p : Program} {l : Launch} {e : Env} {s : State} {m : MethodId} {args : Array Value} {below : List Frame} {meth : Method} {c : Code} {g : En} {N : Nat} {S8 : St} {res : Int32} (C : cxr g (wd_8 g S8) cX8_span 6 (some .int) wsX8_span RX8 p s m args meth c) (k21 : Int32 → Int32 → Int32 → Int32 → Int32 → Option (Int32)) (H21 : ∀ (ls : Array Slot) (x1 : Int32) (x2 : Int32) (x3 : Int32) (x4 : Int32) (x5 : Int32), lv_has ls 6 [(0, .ref (g.2.2.1 8)), (1, .int x1), (2, .int x2), (3, .int x3), (4, .int x4), (5, .int x5)] → k21 x1 x2 x3 x4 x5 = some res → W p l e (headSpec wsX8_span { frames := 4, cells := 0, slots := 0, locals := 97 }).room s m args below meth c s.heap [] 0 0 (MQ below (vp_Si (fun r => r = res)) args s 0 0 (fun _ => False)) (F0 m 21 ls [])) : ∀ (ls : Array Slot) (x1 : Int32) (x2 : Int32) (x3 : Int32) (x5 : Int32) (t0 : Int32), lv_has ls 6 [(0, .ref (g.2.2.1 8)), (1, .int x1), (2, .int x2), (3, .int x3), (5, .int x5)] → f_X8_span_83 N S8 k21 x1 x2 x3 x5 t0 = some res → W p l e (headSpec wsX8_span { frames := 4, cells := 0, slots := 0, locals := 97 }).room s m args below meth c s.heap [] 0 0 (MQ below (vp_Si (fun r => r = res)) args s 0 0 (fun _ => False)) (F0 m 83 ls [.int t0]) := by
  intro ls x1 x2 x3 x5 t0 hl hf
  obtain ⟨⟨hx, hb, hr, hml, hown, hts, hlk⟩, hK, hP⟩ := id C
  unfold f_X8_span_83 at hf
  refine lv_istore (lv' := [(4, .int t0), (0, .ref (g.2.2.1 8)), (1, .int x1), (2, .int x2), (3, .int x3), (5, .int x5)]) (pc := 83) hx hb dX8_span_83 hl (by decide) rfl (fun ls hl => ?_)
  exact w_X8_span_85 C k21 H21 ls x1 x2 x3 t0 x5 (lv_sub hl [1, 2, 3, 4, 0, 5] rfl) hf
set_option maxHeartbeats 4000000 in
set_option maxRecDepth 100000 in
theorem w_X8_span_60 {p : Program} {l : Launch} {e : Env} {s : State} {m : MethodId} {args : Array Value} {below : List Frame} {meth : Method} {c : Code} {g : En} {N : Nat} {S8 : St} {res : Int32} (C : cxr g (wd_8 g S8) cX8_span 6 (some .int) wsX8_span RX8 p s m args meth c) (k21 : Int32 → Int32 → Int32 → Int32 → Int32 → Option (Int32)) (H21 : ∀ (ls : Array Slot) (x1 : Int32) (x2 : Int32) (x3 : Int32) (x4 : Int32) (x5 : Int32), lv_has ls 6 [(0, .ref (g.2.2.1 8)), (1, .int x1), (2, .int x2), (3, .int x3), (4, .int x4), (5, .int x5)] → k21 x1 x2 x3 x4 x5 = some res → W p l e (headSpec wsX8_span { frames := 4, cells := 0, slots := 0, locals := 97 }).room s m args below meth c s.heap [] 0 0 (MQ below (vp_Si (fun r => r = res)) args s 0 0 (fun _ => False)) (F0 m 21 ls [])) : ∀ (ls : Array Slot) (x1 : Int32) (x2 : Int32) (x4 : Int32) (x5 : Int32) (t0 : Int32), lv_has ls 6 [(0, .ref (g.2.2.1 8)), (1, .int x1), (2, .int x2), (4, .int x4), (5, .int x5)] → f_X8_span_60 N S8 k21 x1 x2 x4 x5 t0 = some res → W p l e (headSpec wsX8_span { frames := 4, cells := 0, slots := 0, locals := 97 }).room s m args below meth c s.heap [] 0 0 (MQ below (vp_Si (fun r => r = res)) args s 0 0 (fun _ => False)) (F0 m 60 ls [.int t0]) := by
  intro ls x1 x2 x4 x5 t0 hl hf
  obtain ⟨⟨hx, hb, hr, hml, hown, hts, hlk⟩, hK, hP⟩ := id C
  unfold f_X8_span_60 at hf
  refine lv_istore_n (lv' := [(3, .int t0), (0, .ref (g.2.2.1 8)), (1, .int x1), (2, .int x2), (4, .int x4), (5, .int x5)]) (pc := 60) hx hb dX8_span_60 rfl hl (by decide) rfl (fun ls hl => ?_)
  refine lv_aload_n (pc := 61) hx hb dX8_span_61 rfl (lv_at hl 1 rfl) ?_
  refine lv_iload (pc := 62) hx hb dX8_span_62 (lv_at hl 5 rfl) ?_
  obtain ⟨r64, e64, hf⟩ := bdE hf
  refine krI (g := g) (wc := (wd_8 g S8)) (pc := 64) (As := [.int x5]) (rest := []) ⟨hx, hb, hml, hown, hts⟩ (c_X8_toOf l g N S8 x5 r64 e64) (cwV 1 hts gX8_span_X8_toOf rfl rfl rfl h_X8_toOf ⟨Nat.le_of_ble_eq_true rfl, Nat.le_of_ble_eq_true rfl⟩) hK hP rfl rfl rfl hl.1 rfl (Nat.le_of_ble_eq_true rfl) dX8_span_64 ⟨Nat.zero_le _, Nat.zero_le _⟩ ?_
  refine lv_iload (pc := 67) hx hb dX8_span_67 (lv_at hl 4 rfl) ?_
  refine lv_icmp_ge (tgt := 81) (pc := 69) hx hb dX8_span_69 (by decide) (fun c69 => ?_) (fun c69 => ?_)
  · have hf := ft hf c69
    refine lv_iload (pc := 81) hx hb dX8_span_81 (lv_at hl 4 rfl) ?_
    exact w_X8_span_83 C k21 H21 ls x1 x2 t0 x5 x4 (lv_sub hl [1, 2, 3, 0, 5] rfl) hf
  · have hf := ff hf c69
    refine lv_aload_n (pc := 72) hx hb dX8_span_72 rfl (lv_at hl 1 rfl) ?_
    refine lv_iload (pc := 73) hx hb dX8_span_73 (lv_at hl 5 rfl) ?_
    obtain ⟨r75, e75, hf⟩ := bdE hf
    refine krI (g := g) (wc := (wd_8 g S8)) (pc := 75) (As := [.int x5]) (rest := []) ⟨hx, hb, hml, hown, hts⟩ (c_X8_toOf l g N S8 x5 r75 e75) (cwV 1 hts gX8_span_X8_toOf rfl rfl rfl h_X8_toOf ⟨Nat.le_of_ble_eq_true rfl, Nat.le_of_ble_eq_true rfl⟩) hK hP rfl rfl rfl hl.1 rfl (Nat.le_of_ble_eq_true rfl) dX8_span_75 ⟨Nat.zero_le _, Nat.zero_le _⟩ ?_
    refine lv_goto (tgt := 83) (pc := 78) hx hb dX8_span_78 (by decide) ?_
    exact w_X8_span_83 C k21 H21 ls x1 x2 t0 x5 r75 (lv_sub hl [1, 2, 3, 0, 5] rfl) hf
set_option maxHeartbeats 4000000 in
set_option maxRecDepth 100000 in
theorem w_X8_span_21_b {p : Program} {l : Launch} {e : Env} {s : State} {m : MethodId} {args : Array Value} {below : List Frame} {meth : Method} {c : Code} {g : En} {N : Nat} {S8 : St} {res : Int32} (C : cxr g (wd_8 g S8) cX8_span 6 (some .int) wsX8_span RX8 p s m args meth c) (k21 : Int32 → Int32 → Int32 → Int32 → Int32 → Option (Int32)) (H21 : ∀ (ls : Array Slot) (x1 : Int32) (x2 : Int32) (x3 : Int32) (x4 : Int32) (x5 : Int32), lv_has ls 6 [(0, .ref (g.2.2.1 8)), (1, .int x1), (2, .int x2), (3, .int x3), (4, .int x4), (5, .int x5)] → k21 x1 x2 x3 x4 x5 = some res → W p l e (headSpec wsX8_span { frames := 4, cells := 0, slots := 0, locals := 97 }).room s m args below meth c s.heap [] 0 0 (MQ below (vp_Si (fun r => r = res)) args s 0 0 (fun _ => False)) (F0 m 21 ls [])) : ∀ (ls : Array Slot) (x1 : Int32) (x2 : Int32) (x3 : Int32) (x4 : Int32) (x5 : Int32), lv_has ls 6 [(0, .ref (g.2.2.1 8)), (1, .int x1), (2, .int x2), (3, .int x3), (4, .int x4), (5, .int x5)] → f_X8_span_21_b N S8  k21 x1 x2 x3 x4 x5 = some res → W p l e (headSpec wsX8_span { frames := 4, cells := 0, slots := 0, locals := 97 }).room s m args below meth c s.heap [] 0 0 (MQ below (vp_Si (fun r => r = res)) args s 0 0 (fun _ => False)) (F0 m 21 ls []) := by
  intro ls x1 x2 x3 x4 x5 hl hf
  obtain ⟨⟨hx, hb, hr, hml, hown, hts, hlk⟩, hK, hP⟩ := id C
  unfold f_X8_span_21_b at hf
  refine lv_iload (pc := 21) hx hb dX8_span_21 (lv_at hl 5 rfl) ?_
  refine lv_aload_n (pc := 23) hx hb dX8_span_23 rfl (lv_at hl 0 rfl) ?_
  refine va_get (D := g.1) (ci := 8) (v := .int (S8.1 13)) (C := RX8) (T := TX8) (N := 47) (pc := 24) hx hb hts (fun _ h => List.mem_cons_of_mem _ (List.mem_append_right _ h)) hown hK hP 0 rfl rfl 13 (by decide) (hts _ q_X8_span_0) (fun _ h9 => h9) rfl dX8_span_24 ?_
  refine lv_icmp_ge (tgt := 91) (pc := 27) hx hb dX8_span_27 (by decide) (fun c27 => ?_) (fun c27 => ?_)
  · have hf := ft hf c27
    refine lv_iload_n (pc := 91) hx hb dX8_span_91 rfl (lv_at hl 3 rfl) ?_
    refine lv_iload (pc := 92) hx hb dX8_span_92 (lv_at hl 4 rfl) ?_
    refine lv_icmp_le (tgt := 102) (pc := 94) hx hb dX8_span_94 (by decide) (fun c94 => ?_) (fun c94 => ?_)
    · have hf := ft hf c94
      refine lv_iload_n (pc := 102) hx hb dX8_span_102 rfl (lv_at hl 2 rfl) ?_
      refine lv_if_eq (tgt := 111) (pc := 103) hx hb dX8_span_103 (by decide) (fun c103 => ?_) (fun c103 => ?_)
      · have hf := ft hf c103
        refine lv_iload_n (pc := 111) hx hb dX8_span_111 rfl (lv_at hl 3 rfl) ?_
        have hf := Option.some.inj hf
        subst hf
        exact W.iret (v := x3) hx hb hr (fun t ht hW => ⟨_, rfl, rfl, ht⟩) (fun _ h => by cases h) dX8_span_112
      · have hf := ff hf c103
        refine lv_iload (pc := 106) hx hb dX8_span_106 (lv_at hl 4 rfl) ?_
        refine lv_goto (tgt := 112) (pc := 108) hx hb dX8_span_108 (by decide) ?_
        have hf := Option.some.inj hf
        subst hf
        exact W.iret (v := x4) hx hb hr (fun t ht hW => ⟨_, rfl, rfl, ht⟩) (fun _ h => by cases h) dX8_span_112
    · have hf := ff hf c94
      refine lv_bipush (v := (-9)) (pc := 97) hx hb dX8_span_97 (by decide) ?_
      refine lv_goto (tgt := 112) (pc := 99) hx hb dX8_span_99 (by decide) ?_
      have hf := Option.some.inj hf
      subst hf
      exact W.iret (v := (-9)) hx hb hr (fun t ht hW => ⟨_, rfl, rfl, ht⟩) (fun _ h => by cases h) dX8_span_112
  · have hf := ff hf c27
    refine lv_aload_n (pc := 30) hx hb dX8_span_30 rfl (lv_at hl 0 rfl) ?_
    refine lv_iload (pc := 31) hx hb dX8_span_31 (lv_at hl 5 rfl) ?_
    refine lv_iload_n (pc := 33) hx hb dX8_span_33 rfl (lv_at hl 1 rfl) ?_
    obtain ⟨r34, e34, hf⟩ := bdE hf
    refine krI (g := g) (wc := (wd_8 g S8)) (pc := 34) (As := [.int x5, .int x1]) (rest := []) ⟨hx, hb, hml, hown, hts⟩ (c_X8_isKnown l g N S8 x5 x1 r34 e34) (cwV 2 hts gX8_span_X8_isKnown rfl rfl rfl h_X8_isKnown ⟨Nat.le_of_ble_eq_true rfl, Nat.le_of_ble_eq_true rfl⟩) hK hP rfl rfl rfl hl.1 rfl (Nat.le_of_ble_eq_true rfl) dX8_span_34 ⟨Nat.zero_le _, Nat.zero_le _⟩ ?_
    refine lv_if_eq (tgt := 85) (pc := 37) hx hb dX8_span_37 (by decide) (fun c37 => ?_) (fun c37 => ?_)
    · have hf := ft hf c37
      exact w_X8_span_85 C k21 H21 ls x1 x2 x3 x4 x5 (lv_sub hl [0, 1, 2, 3, 4, 5] rfl) hf
    · have hf := ff hf c37
      refine lv_aload_n (pc := 40) hx hb dX8_span_40 rfl (lv_at hl 0 rfl) ?_
      refine lv_iload (pc := 41) hx hb dX8_span_41 (lv_at hl 5 rfl) ?_
      obtain ⟨r43, e43, hf⟩ := bdE hf
      refine krI (g := g) (wc := (wd_8 g S8)) (pc := 43) (As := [.int x5]) (rest := []) ⟨hx, hb, hml, hown, hts⟩ (c_X8_fromOf l g N S8 x5 r43 e43) (cwV 1 hts gX8_span_X8_fromOf rfl rfl rfl h_X8_fromOf ⟨Nat.le_of_ble_eq_true rfl, Nat.le_of_ble_eq_true rfl⟩) hK hP rfl rfl rfl hl.1 rfl (Nat.le_of_ble_eq_true rfl) dX8_span_43 ⟨Nat.zero_le _, Nat.zero_le _⟩ ?_
      refine lv_iload_n (pc := 46) hx hb dX8_span_46 rfl (lv_at hl 3 rfl) ?_
      refine lv_icmp_le (tgt := 59) (pc := 47) hx hb dX8_span_47 (by decide) (fun c47 => ?_) (fun c47 => ?_)
      · have hf := ft hf c47
        refine lv_iload_n (pc := 59) hx hb dX8_span_59 rfl (lv_at hl 3 rfl) ?_
        exact w_X8_span_60 C k21 H21 ls x1 x2 x4 x5 x3 (lv_sub hl [0, 1, 2, 4, 5] rfl) hf
      · have hf := ff hf c47
        refine lv_aload_n (pc := 50) hx hb dX8_span_50 rfl (lv_at hl 0 rfl) ?_
        refine lv_iload (pc := 51) hx hb dX8_span_51 (lv_at hl 5 rfl) ?_
        obtain ⟨r53, e53, hf⟩ := bdE hf
        refine krI (g := g) (wc := (wd_8 g S8)) (pc := 53) (As := [.int x5]) (rest := []) ⟨hx, hb, hml, hown, hts⟩ (c_X8_fromOf l g N S8 x5 r53 e53) (cwV 1 hts gX8_span_X8_fromOf rfl rfl rfl h_X8_fromOf ⟨Nat.le_of_ble_eq_true rfl, Nat.le_of_ble_eq_true rfl⟩) hK hP rfl rfl rfl hl.1 rfl (Nat.le_of_ble_eq_true rfl) dX8_span_53 ⟨Nat.zero_le _, Nat.zero_le _⟩ ?_
        refine lv_goto (tgt := 60) (pc := 56) hx hb dX8_span_56 (by decide) ?_
        exact w_X8_span_60 C k21 H21 ls x1 x2 x4 x5 r53 (lv_sub hl [0, 1, 2, 4, 5] rfl) hf
set_option maxHeartbeats 4000000 in
set_option maxRecDepth 100000 in
theorem w_X8_span_21 {p : Program} {l : Launch} {e : Env} {s : State} {m : MethodId} {args : Array Value} {below : List Frame} {meth : Method} {c : Code} {g : En} {N : Nat} {S8 : St} {res : Int32} (C : cxr g (wd_8 g S8) cX8_span 6 (some .int) wsX8_span RX8 p s m args meth c) : ∀ (n : Nat), ∀ (ls : Array Slot) (x1 : Int32) (x2 : Int32) (x3 : Int32) (x4 : Int32) (x5 : Int32), lv_has ls 6 [(0, .ref (g.2.2.1 8)), (1, .int x1), (2, .int x2), (3, .int x3), (4, .int x4), (5, .int x5)] → f_X8_span_21 N S8  n x1 x2 x3 x4 x5 = some res → W p l e (headSpec wsX8_span { frames := 4, cells := 0, slots := 0, locals := 97 }).room s m args below meth c s.heap [] 0 0 (MQ below (vp_Si (fun r => r = res)) args s 0 0 (fun _ => False)) (F0 m 21 ls []) := by
  intro n
  induction n with
  | zero =>
    intro ls x1 x2 x3 x4 x5 hl hf
    have hf : (none : Option (Int32)) = some res := hf
    cases hf
  | succ n ih =>
    intro ls x1 x2 x3 x4 x5 hl hf
    exact w_X8_span_21_b C  (fun y0 y1 y2 y3 y4 => f_X8_span_21 N S8  n y0 y1 y2 y3 y4) ih ls x1 x2 x3 x4 x5 hl hf
set_option maxHeartbeats 4000000 in
set_option maxRecDepth 100000 in
theorem c_X8_span (l : Launch) (g : En) (N : Nat) (S8 : St) (x1 : Int32) (x2 : Int32) (res : Int32) (hf : f_X8_span N S8 x1 x2 = some res) : Met l yX8_span wsX8_span { frames := 4, cells := 0, slots := 0, locals := 97 } (roP g (wd_8 g S8) [.ref (g.2.2.1 8), .int x1, .int x2]) (vp_Si (fun r => r = res)) 0 0 (fun _ => False) := by
  refine Met.ofW (cc := cX8_span) (maxL := 6) (ret := (some .int)) (by decide) rfl ?_
  intro p e s m args below meth c s₁ B hml hv
  obtain ⟨rfl, hP, hK⟩ := hv
  have hx := B.exec
  have hb := B.bytes
  have hr := B.returns
  have hts := atoms_spec (ws := wsX8_span) B.pre
  have hown : s.vm.findClass RX8 = some m.cls := findClass_of_methodNamed B.named
  have hlk := B.notSynchronized
  have C : cxr g (wd_8 g S8) cX8_span 6 (some .int) wsX8_span RX8 p s m ([.ref (g.2.2.1 8), .int x1, .int x2] : List Value).toArray meth c := ⟨⟨hx, hb, hr, hml, hown, hts, hlk⟩, hK, hP⟩
  have hl := lv_entry [.ref (g.2.2.1 8), .int x1, .int x2] (n := 6) (Nat.le_of_ble_eq_true rfl)
  rw [lg_entry_eq]
  generalize (lg_sl [.ref (g.2.2.1 8), .int x1, .int x2] ++ List.replicate (6 - (lg_sl [.ref (g.2.2.1 8), .int x1, .int x2]).length) Slot.unset).toArray = ls at hl ⊢
  have hl : lv_has ls 6 [(0, .ref (g.2.2.1 8)), (1, .int x1), (2, .int x2)] := hl
  unfold f_X8_span at hf
  refine lv_iload_n (pc := 0) hx hb dX8_span_0 rfl (lv_at hl 1 rfl) ?_
  obtain ⟨r1, e1, hf⟩ := bdE hf
  refine ksI (pc := 1) (As := [.int x1]) (rest := []) ⟨hx, hb, hml, hown, hts⟩ (c_X8_isDay l N x1 r1 e1) (va_cwS 1 hts gX8_span_X8_isDay rfl rfl rfl h_X8_isDay ⟨Nat.le_of_ble_eq_true rfl, Nat.le_of_ble_eq_true rfl⟩) rfl hl.1 rfl (Nat.le_of_ble_eq_true rfl) dX8_span_1 ⟨Nat.zero_le _, Nat.zero_le _⟩ ?_
  refine lv_if_ne (tgt := 9) (pc := 4) hx hb dX8_span_4 (by decide) (fun c4 => ?_) (fun c4 => ?_)
  · have hf := ff hf c4
    refine lv_sipush (v := 1000) (pc := 9) hx hb dX8_span_9 (by decide) ?_
    refine lv_istore_n (lv' := [(3, .int 1000), (0, .ref (g.2.2.1 8)), (1, .int x1), (2, .int x2)]) (pc := 12) hx hb dX8_span_12 rfl hl (by decide) rfl (fun ls hl => ?_)
    refine lv_sipush (v := 2100) (pc := 13) hx hb dX8_span_13 (by decide) ?_
    refine lv_istore (lv' := [(4, .int 2100), (3, .int 1000), (0, .ref (g.2.2.1 8)), (1, .int x1), (2, .int x2)]) (pc := 16) hx hb dX8_span_16 hl (by decide) rfl (fun ls hl => ?_)
    refine lv_iconst (v := 0) (pc := 18) hx hb dX8_span_18 (by decide) ?_
    refine lv_istore (lv' := [(5, .int 0), (4, .int 2100), (3, .int 1000), (0, .ref (g.2.2.1 8)), (1, .int x1), (2, .int x2)]) (pc := 19) hx hb dX8_span_19 hl (by decide) rfl (fun ls hl => ?_)
    exact w_X8_span_21 C  N ls x1 x2 1000 2100 0 (lv_sub hl [3, 4, 5, 2, 1, 0] rfl) hf
  · have hf := ft hf c4
    refine lv_iconst (v := (-1)) (pc := 7) hx hb dX8_span_7 (by decide) ?_
    have hf := Option.some.inj hf
    subst hf
    exact W.iret (v := (-1)) hx hb hr (fun t ht hW => ⟨_, rfl, rfl, ht⟩) (fun _ h => by cases h) dX8_span_8
theorem q_X8_quarrel_0 : (.fieldLink RX8 167 "PictureCourtModel" "proofs" "I" : Cond) ∈ wsX8_quarrel := by decide +kernel
theorem h_X8_quarrel : yX8_quarrel.cls = RX8 ∧ yX8_quarrel.cls ≠ "java/lang/invoke/MethodHandle" ∧ yX8_quarrel.cls ≠ "java/lang/invoke/VarHandle" ∧ (parseMethodDescriptor yX8_quarrel.desc).map (fun d => d.parameters.length) = some 1 := by decide +kernel
set_option maxHeartbeats 4000000 in
set_option maxRecDepth 100000 in
theorem w_X8_quarrel_75 {p : Program} {l : Launch} {e : Env} {s : State} {m : MethodId} {args : Array Value} {below : List Frame} {meth : Method} {c : Code} {g : En} {A : Nat → Prop} {N : Nat} {res : Int32 × St} (C : cxw g A cX8_quarrel 4 (some .int) wsX8_quarrel RX8 p s m args meth c) : ∀ (H : Heap) (locs : List Loc) (S8 : St) (ls : Array Slot) (x2 : Int32) (x3 : Int32), va_P g.1 vwCl (wd_8 g S8) H → va_D A (wd_8 g S8) → va_S A s.heap H locs → lv_has ls 4 [(0, .ref (g.2.2.1 8)), (2, .int x2), (3, .int x3)] → f_X8_quarrel_75 N   S8 x2 x3 = some res → W p l e (headSpec wsX8_quarrel { frames := 4, cells := 0, slots := 0, locals := 97 }).room s m args below meth c H locs 0 0 (MQ below (rwQi g (wd_8 g (res.2)) A (res.1)) args s 0 0 A) (F0 m 75 ls []) := by
  intro H locs S8 ls x2 x3 hP hD hS hl hf
  obtain ⟨⟨hx, hb, hr, hml, hown, hts, hlk⟩, hK, hA⟩ := id C
  unfold f_X8_quarrel_75 at hf
  refine lv_aload_n (pc := 75) hx hb dX8_quarrel_75 rfl (lv_at hl 0 rfl) ?_
  refine lv_iload_n (pc := 76) hx hb dX8_quarrel_76 rfl (lv_at hl 2 rfl) ?_
  refine lv_iload_n (pc := 77) hx hb dX8_quarrel_77 rfl (lv_at hl 1 rfl) ?_
  obtain ⟨r78, e78, hf⟩ := bdE hf
  refine kuI (g := g) (A := A) (W0 := (wd_8 g S8)) (w1 := (wd_8 g (r78.2))) (pc := 78) (As := [.int x3, .int x2]) (rest := []) ⟨hx, hb, hml, hown, hts⟩ hK hA hP hD hS (c_X8_tells l g N H.size S8 x3 x2 r78 e78) (cwV 2 hts gX8_quarrel_X8_tells rfl rfl rfl h_X8_tells ⟨Nat.le_of_ble_eq_true rfl, Nat.le_of_ble_eq_true rfl⟩) rfl rfl rfl hl.1 rfl (Nat.le_of_ble_eq_true rfl) dX8_quarrel_78 ⟨Nat.zero_le _, Nat.zero_le _⟩ (fun H locs hP hD hS => ?_)
  have hf := Option.some.inj hf
  subst hf
  exact W.iret (v := (r78.1)) hx hb hr (fun t ht hW => ⟨⟨_, (), rfl, rfl, by rw [ht]; exact hP, va_K.moved hW.alike hK, hD⟩, hS.F ht⟩) hS.2.2 dX8_quarrel_81
set_option maxHeartbeats 4000000 in
set_option maxRecDepth 100000 in
theorem w_X8_quarrel_82 {p : Program} {l : Launch} {e : Env} {s : State} {m : MethodId} {args : Array Value} {below : List Frame} {meth : Method} {c : Code} {g : En} {A : Nat → Prop} {N : Nat} {res : Int32 × St} (C : cxw g A cX8_quarrel 4 (some .int) wsX8_quarrel RX8 p s m args meth c) (k11 : St → Int32 → Int32 → Option (Int32 × St)) (H11 : ∀ (H : Heap) (locs : List Loc) (S8 : St) (ls : Array Slot) (x1 : Int32) (x2 : Int32), va_P g.1 vwCl (wd_8 g S8) H → va_D A (wd_8 g S8) → va_S A s.heap H locs → lv_has ls 4 [(0, .ref (g.2.2.1 8)), (1, .int x1), (2, .int x2)] → k11 S8 x1 x2 = some res → W p l e (headSpec wsX8_quarrel { frames := 4, cells := 0, slots := 0, locals := 97 }).room s m args below meth c H locs 0 0 (MQ below (rwQi g (wd_8 g (res.2)) A (res.1)) args s 0 0 A) (F0 m 11 ls [])) (k23 : St → Int32 → Int32 → Int32 → Option (Int32 × St)) (H23 : ∀ (H : Heap) (locs : List Loc) (S8 : St) (ls : Array Slot) (x1 : Int32) (x2 : Int32) (x3 : Int32), va_P g.1 vwCl (wd_8 g S8) H → va_D A (wd_8 g S8) → va_S A s.heap H locs → lv_has ls 4 [(0, .ref (g.2.2.1 8)), (1, .int x1), (2, .int x2), (3, .int x3)] → k23 S8 x1 x2 x3 = some res → W p l e (headSpec wsX8_quarrel { frames := 4, cells := 0, slots := 0, locals := 97 }).room s m args below meth c H locs 0 0 (MQ below (rwQi g (wd_8 g (res.2)) A (res.1)) args s 0 0 A) (F0 m 23 ls [])) : ∀ (H : Heap) (locs : List Loc) (S8 : St) (ls : Array Slot) (x1 : Int32) (x2 : Int32) (x3 : Int32), va_P g.1 vwCl (wd_8 g S8) H → va_D A (wd_8 g S8) → va_S A s.heap H locs → lv_has ls 4 [(0, .ref (g.2.2.1 8)), (1, .int x1), (2, .int x2), (3, .int x3)] → f_X8_quarrel_82 N  k11 k23 S8 x1 x2 x3 = some res → W p l e (headSpec wsX8_quarrel { frames := 4, cells := 0, slots := 0, locals := 97 }).room s m args below meth c H locs 0 0 (MQ below (rwQi g (wd_8 g (res.2)) A (res.1)) args s 0 0 A) (F0 m 82 ls []) := by
  intro H locs S8 ls x1 x2 x3 hP hD hS hl hf
  obtain ⟨⟨hx, hb, hr, hml, hown, hts, hlk⟩, hK, hA⟩ := id C
  unfold f_X8_quarrel_82 at hf
  refine lv_iinc (v := (x3 + 1)) (lv' := [(3, .int (x3 + 1)), (0, .ref (g.2.2.1 8)), (1, .int x1), (2, .int x2)]) (pc := 82) hx hb dX8_quarrel_82 hl (k := 3) rfl rfl (by decide) rfl (fun ls hl => ?_)
  refine lv_goto (tgt := 23) (pc := 85) hx hb dX8_quarrel_85 (by decide) ?_
  exact H23 H locs S8 ls x1 x2 (x3 + 1) hP hD hS (lv_sub hl [1, 2, 3, 0] rfl) hf
set_option maxHeartbeats 4000000 in
set_option maxRecDepth 100000 in
theorem w_X8_quarrel_23_b {p : Program} {l : Launch} {e : Env} {s : State} {m : MethodId} {args : Array Value} {below : List Frame} {meth : Method} {c : Code} {g : En} {A : Nat → Prop} {N : Nat} {res : Int32 × St} (C : cxw g A cX8_quarrel 4 (some .int) wsX8_quarrel RX8 p s m args meth c) (k11 : St → Int32 → Int32 → Option (Int32 × St)) (H11 : ∀ (H : Heap) (locs : List Loc) (S8 : St) (ls : Array Slot) (x1 : Int32) (x2 : Int32), va_P g.1 vwCl (wd_8 g S8) H → va_D A (wd_8 g S8) → va_S A s.heap H locs → lv_has ls 4 [(0, .ref (g.2.2.1 8)), (1, .int x1), (2, .int x2)] → k11 S8 x1 x2 = some res → W p l e (headSpec wsX8_quarrel { frames := 4, cells := 0, slots := 0, locals := 97 }).room s m args below meth c H locs 0 0 (MQ below (rwQi g (wd_8 g (res.2)) A (res.1)) args s 0 0 A) (F0 m 11 ls [])) (k23 : St → Int32 → Int32 → Int32 → Option (Int32 × St)) (H23 : ∀ (H : Heap) (locs : List Loc) (S8 : St) (ls : Array Slot) (x1 : Int32) (x2 : Int32) (x3 : Int32), va_P g.1 vwCl (wd_8 g S8) H → va_D A (wd_8 g S8) → va_S A s.heap H locs → lv_has ls 4 [(0, .ref (g.2.2.1 8)), (1, .int x1), (2, .int x2), (3, .int x3)] → k23 S8 x1 x2 x3 = some res → W p l e (headSpec wsX8_quarrel { frames := 4, cells := 0, slots := 0, locals := 97 }).room s m args below meth c H locs 0 0 (MQ below (rwQi g (wd_8 g (res.2)) A (res.1)) args s 0 0 A) (F0 m 23 ls [])) : ∀ (H : Heap) (locs : List Loc) (S8 : St) (ls : Array Slot) (x1 : Int32) (x2 : Int32) (x3 : Int32), va_P g.1 vwCl (wd_8 g S8) H → va_D A (wd_8 g S8) → va_S A s.heap H locs → lv_has ls 4 [(0, .ref (g.2.2.1 8)), (1, .int x1), (2, .int x2), (3, .int x3)] → f_X8_quarrel_23_b N  k11 k23 S8 x1 x2 x3 = some res → W p l e (headSpec wsX8_quarrel { frames := 4, cells := 0, slots := 0, locals := 97 }).room s m args below meth c H locs 0 0 (MQ below (rwQi g (wd_8 g (res.2)) A (res.1)) args s 0 0 A) (F0 m 23 ls []) := by
  intro H locs S8 ls x1 x2 x3 hP hD hS hl hf
  obtain ⟨⟨hx, hb, hr, hml, hown, hts, hlk⟩, hK, hA⟩ := id C
  unfold f_X8_quarrel_23_b at hf
  refine lv_iload_n (pc := 23) hx hb dX8_quarrel_23 rfl (lv_at hl 3 rfl) ?_
  refine lv_aload_n (pc := 24) hx hb dX8_quarrel_24 rfl (lv_at hl 0 rfl) ?_
  refine va_get (D := g.1) (ci := 8) (v := .int (S8.1 13)) (C := RX8) (T := TX8) (N := 47) (pc := 25) hx hb hts (fun _ h => List.mem_cons_of_mem _ (List.mem_append_right _ h)) hown hK hP 0 rfl rfl 13 (by decide) (hts _ q_X8_quarrel_0) (fun _ h9 => h9) rfl dX8_quarrel_25 ?_
  refine lv_icmp_ge (tgt := 88) (pc := 28) hx hb dX8_quarrel_28 (by decide) (fun c28 => ?_) (fun c28 => ?_)
  · have hf := ft hf c28
    refine lv_iinc (v := (x2 + 1)) (lv' := [(2, .int (x2 + 1)), (0, .ref (g.2.2.1 8)), (1, .int x1), (3, .int x3)]) (pc := 88) hx hb dX8_quarrel_88 hl (k := 2) rfl rfl (by decide) rfl (fun ls hl => ?_)
    refine lv_goto (tgt := 11) (pc := 91) hx hb dX8_quarrel_91 (by decide) ?_
    exact H11 H locs S8 ls x1 (x2 + 1) hP hD hS (lv_sub hl [1, 2, 0] rfl) hf
  · have hf := ff hf c28
    refine lv_aload_n (pc := 31) hx hb dX8_quarrel_31 rfl (lv_at hl 0 rfl) ?_
    refine lv_iload_n (pc := 32) hx hb dX8_quarrel_32 rfl (lv_at hl 2 rfl) ?_
    refine lv_iload_n (pc := 33) hx hb dX8_quarrel_33 rfl (lv_at hl 1 rfl) ?_
    obtain ⟨r34, e34, hf⟩ := bdE hf
    refine krI (g := g) (wc := (wd_8 g S8)) (pc := 34) (As := [.int x2, .int x1]) (rest := []) ⟨hx, hb, hml, hown, hts⟩ (c_X8_isKnown l g N S8 x2 x1 r34 e34) (cwV 2 hts gX8_quarrel_X8_isKnown rfl rfl rfl h_X8_isKnown ⟨Nat.le_of_ble_eq_true rfl, Nat.le_of_ble_eq_true rfl⟩) hK hP rfl rfl rfl hl.1 rfl (Nat.le_of_ble_eq_true rfl) dX8_quarrel_34 ⟨Nat.zero_le _, Nat.zero_le _⟩ ?_
    refine lv_if_eq (tgt := 82) (pc := 37) hx hb dX8_quarrel_37 (by decide) (fun c37 => ?_) (fun c37 => ?_)
    · have hf := ft hf c37
      exact w_X8_quarrel_82 C k11 H11 k23 H23 H locs S8 ls x1 x2 x3 hP hD hS (lv_sub hl [0, 1, 2, 3] rfl) hf
    · have hf := ff hf c37
      refine lv_aload_n (pc := 40) hx hb dX8_quarrel_40 rfl (lv_at hl 0 rfl) ?_
      refine lv_iload_n (pc := 41) hx hb dX8_quarrel_41 rfl (lv_at hl 3 rfl) ?_
      refine lv_iload_n (pc := 42) hx hb dX8_quarrel_42 rfl (lv_at hl 1 rfl) ?_
      obtain ⟨r43, e43, hf⟩ := bdE hf
      refine krI (g := g) (wc := (wd_8 g S8)) (pc := 43) (As := [.int x3, .int x1]) (rest := []) ⟨hx, hb, hml, hown, hts⟩ (c_X8_isKnown l g N S8 x3 x1 r43 e43) (cwV 2 hts gX8_quarrel_X8_isKnown rfl rfl rfl h_X8_isKnown ⟨Nat.le_of_ble_eq_true rfl, Nat.le_of_ble_eq_true rfl⟩) hK hP rfl rfl rfl hl.1 rfl (Nat.le_of_ble_eq_true rfl) dX8_quarrel_43 ⟨Nat.zero_le _, Nat.zero_le _⟩ ?_
      refine lv_if_eq (tgt := 82) (pc := 46) hx hb dX8_quarrel_46 (by decide) (fun c46 => ?_) (fun c46 => ?_)
      · have hf := ft hf c46
        exact w_X8_quarrel_82 C k11 H11 k23 H23 H locs S8 ls x1 x2 x3 hP hD hS (lv_sub hl [0, 1, 2, 3] rfl) hf
      · have hf := ff hf c46
        refine lv_aload_n (pc := 49) hx hb dX8_quarrel_49 rfl (lv_at hl 0 rfl) ?_
        refine lv_iload_n (pc := 50) hx hb dX8_quarrel_50 rfl (lv_at hl 2 rfl) ?_
        obtain ⟨r51, e51, hf⟩ := bdE hf
        refine krI (g := g) (wc := (wd_8 g S8)) (pc := 51) (As := [.int x2]) (rest := []) ⟨hx, hb, hml, hown, hts⟩ (c_X8_toOf l g N S8 x2 r51 e51) (cwV 1 hts gX8_quarrel_X8_toOf rfl rfl rfl h_X8_toOf ⟨Nat.le_of_ble_eq_true rfl, Nat.le_of_ble_eq_true rfl⟩) hK hP rfl rfl rfl hl.1 rfl (Nat.le_of_ble_eq_true rfl) dX8_quarrel_51 ⟨Nat.zero_le _, Nat.zero_le _⟩ ?_
        refine lv_aload_n (pc := 54) hx hb dX8_quarrel_54 rfl (lv_at hl 0 rfl) ?_
        refine lv_iload_n (pc := 55) hx hb dX8_quarrel_55 rfl (lv_at hl 3 rfl) ?_
        obtain ⟨r56, e56, hf⟩ := bdE hf
        refine krI (g := g) (wc := (wd_8 g S8)) (pc := 56) (As := [.int x3]) (rest := [.int r51]) ⟨hx, hb, hml, hown, hts⟩ (c_X8_fromOf l g N S8 x3 r56 e56) (cwV 1 hts gX8_quarrel_X8_fromOf rfl rfl rfl h_X8_fromOf ⟨Nat.le_of_ble_eq_true rfl, Nat.le_of_ble_eq_true rfl⟩) hK hP rfl rfl rfl hl.1 rfl (Nat.le_of_ble_eq_true rfl) dX8_quarrel_56 ⟨Nat.zero_le _, Nat.zero_le _⟩ ?_
        refine lv_icmp_lt (tgt := 75) (pc := 59) hx hb dX8_quarrel_59 (by decide) (fun c59 => ?_) (fun c59 => ?_)
        · have hf := ft hf c59
          exact w_X8_quarrel_75 C  H locs S8 ls x2 x3 hP hD hS (lv_sub hl [0, 2, 3] rfl) hf
        · have hf := ff hf c59
          refine lv_aload_n (pc := 62) hx hb dX8_quarrel_62 rfl (lv_at hl 0 rfl) ?_
          refine lv_iload_n (pc := 63) hx hb dX8_quarrel_63 rfl (lv_at hl 3 rfl) ?_
          obtain ⟨r64, e64, hf⟩ := bdE hf
          refine krI (g := g) (wc := (wd_8 g S8)) (pc := 64) (As := [.int x3]) (rest := []) ⟨hx, hb, hml, hown, hts⟩ (c_X8_toOf l g N S8 x3 r64 e64) (cwV 1 hts gX8_quarrel_X8_toOf rfl rfl rfl h_X8_toOf ⟨Nat.le_of_ble_eq_true rfl, Nat.le_of_ble_eq_true rfl⟩) hK hP rfl rfl rfl hl.1 rfl (Nat.le_of_ble_eq_true rfl) dX8_quarrel_64 ⟨Nat.zero_le _, Nat.zero_le _⟩ ?_
          refine lv_aload_n (pc := 67) hx hb dX8_quarrel_67 rfl (lv_at hl 0 rfl) ?_
          refine lv_iload_n (pc := 68) hx hb dX8_quarrel_68 rfl (lv_at hl 2 rfl) ?_
          obtain ⟨r69, e69, hf⟩ := bdE hf
          refine krI (g := g) (wc := (wd_8 g S8)) (pc := 69) (As := [.int x2]) (rest := [.int r64]) ⟨hx, hb, hml, hown, hts⟩ (c_X8_fromOf l g N S8 x2 r69 e69) (cwV 1 hts gX8_quarrel_X8_fromOf rfl rfl rfl h_X8_fromOf ⟨Nat.le_of_ble_eq_true rfl, Nat.le_of_ble_eq_true rfl⟩) hK hP rfl rfl rfl hl.1 rfl (Nat.le_of_ble_eq_true rfl) dX8_quarrel_69 ⟨Nat.zero_le _, Nat.zero_le _⟩ ?_
          refine lv_icmp_ge (tgt := 82) (pc := 72) hx hb dX8_quarrel_72 (by decide) (fun c72 => ?_) (fun c72 => ?_)
          · have hf := ft hf c72
            exact w_X8_quarrel_82 C k11 H11 k23 H23 H locs S8 ls x1 x2 x3 hP hD hS (lv_sub hl [0, 1, 2, 3] rfl) hf
          · have hf := ff hf c72
            exact w_X8_quarrel_75 C  H locs S8 ls x2 x3 hP hD hS (lv_sub hl [0, 2, 3] rfl) hf
set_option maxHeartbeats 4000000 in
set_option maxRecDepth 100000 in
theorem w_X8_quarrel_23 {p : Program} {l : Launch} {e : Env} {s : State} {m : MethodId} {args : Array Value} {below : List Frame} {meth : Method} {c : Code} {g : En} {A : Nat → Prop} {N : Nat} {res : Int32 × St} (C : cxw g A cX8_quarrel 4 (some .int) wsX8_quarrel RX8 p s m args meth c) (k11 : St → Int32 → Int32 → Option (Int32 × St)) (H11 : ∀ (H : Heap) (locs : List Loc) (S8 : St) (ls : Array Slot) (x1 : Int32) (x2 : Int32), va_P g.1 vwCl (wd_8 g S8) H → va_D A (wd_8 g S8) → va_S A s.heap H locs → lv_has ls 4 [(0, .ref (g.2.2.1 8)), (1, .int x1), (2, .int x2)] → k11 S8 x1 x2 = some res → W p l e (headSpec wsX8_quarrel { frames := 4, cells := 0, slots := 0, locals := 97 }).room s m args below meth c H locs 0 0 (MQ below (rwQi g (wd_8 g (res.2)) A (res.1)) args s 0 0 A) (F0 m 11 ls [])) : ∀ (n : Nat), ∀ (H : Heap) (locs : List Loc) (S8 : St) (ls : Array Slot) (x1 : Int32) (x2 : Int32) (x3 : Int32), va_P g.1 vwCl (wd_8 g S8) H → va_D A (wd_8 g S8) → va_S A s.heap H locs → lv_has ls 4 [(0, .ref (g.2.2.1 8)), (1, .int x1), (2, .int x2), (3, .int x3)] → f_X8_quarrel_23 N  k11 n S8 x1 x2 x3 = some res → W p l e (headSpec wsX8_quarrel { frames := 4, cells := 0, slots := 0, locals := 97 }).room s m args below meth c H locs 0 0 (MQ below (rwQi g (wd_8 g (res.2)) A (res.1)) args s 0 0 A) (F0 m 23 ls []) := by
  intro n
  induction n with
  | zero =>
    intro H locs S8 ls x1 x2 x3 hP hD hS hl hf
    have hf : (none : Option (Int32 × St)) = some res := hf
    cases hf
  | succ n ih =>
    intro H locs S8 ls x1 x2 x3 hP hD hS hl hf
    exact w_X8_quarrel_23_b C k11 H11 (fun y0 y1 y2 y3 => f_X8_quarrel_23 N  k11 n y0 y1 y2 y3) ih H locs S8 ls x1 x2 x3 hP hD hS hl hf
set_option maxHeartbeats 4000000 in
set_option maxRecDepth 100000 in
theorem w_X8_quarrel_11_b {p : Program} {l : Launch} {e : Env} {s : State} {m : MethodId} {args : Array Value} {below : List Frame} {meth : Method} {c : Code} {g : En} {A : Nat → Prop} {N : Nat} {res : Int32 × St} (C : cxw g A cX8_quarrel 4 (some .int) wsX8_quarrel RX8 p s m args meth c) (k11 : St → Int32 → Int32 → Option (Int32 × St)) (H11 : ∀ (H : Heap) (locs : List Loc) (S8 : St) (ls : Array Slot) (x1 : Int32) (x2 : Int32), va_P g.1 vwCl (wd_8 g S8) H → va_D A (wd_8 g S8) → va_S A s.heap H locs → lv_has ls 4 [(0, .ref (g.2.2.1 8)), (1, .int x1), (2, .int x2)] → k11 S8 x1 x2 = some res → W p l e (headSpec wsX8_quarrel { frames := 4, cells := 0, slots := 0, locals := 97 }).room s m args below meth c H locs 0 0 (MQ below (rwQi g (wd_8 g (res.2)) A (res.1)) args s 0 0 A) (F0 m 11 ls [])) : ∀ (H : Heap) (locs : List Loc) (S8 : St) (ls : Array Slot) (x1 : Int32) (x2 : Int32), va_P g.1 vwCl (wd_8 g S8) H → va_D A (wd_8 g S8) → va_S A s.heap H locs → lv_has ls 4 [(0, .ref (g.2.2.1 8)), (1, .int x1), (2, .int x2)] → f_X8_quarrel_11_b N   k11 S8 x1 x2 = some res → W p l e (headSpec wsX8_quarrel { frames := 4, cells := 0, slots := 0, locals := 97 }).room s m args below meth c H locs 0 0 (MQ below (rwQi g (wd_8 g (res.2)) A (res.1)) args s 0 0 A) (F0 m 11 ls []) := by
  intro H locs S8 ls x1 x2 hP hD hS hl hf
  obtain ⟨⟨hx, hb, hr, hml, hown, hts, hlk⟩, hK, hA⟩ := id C
  unfold f_X8_quarrel_11_b at hf
  refine lv_iload_n (pc := 11) hx hb dX8_quarrel_11 rfl (lv_at hl 2 rfl) ?_
  refine lv_aload_n (pc := 12) hx hb dX8_quarrel_12 rfl (lv_at hl 0 rfl) ?_
  refine va_get (D := g.1) (ci := 8) (v := .int (S8.1 13)) (C := RX8) (T := TX8) (N := 47) (pc := 13) hx hb hts (fun _ h => List.mem_cons_of_mem _ (List.mem_append_right _ h)) hown hK hP 0 rfl rfl 13 (by decide) (hts _ q_X8_quarrel_0) (fun _ h9 => h9) rfl dX8_quarrel_13 ?_
  refine lv_icmp_ge (tgt := 94) (pc := 16) hx hb dX8_quarrel_16 (by decide) (fun c16 => ?_) (fun c16 => ?_)
  · have hf := ft hf c16
    refine lv_bipush (v := (-9)) (pc := 94) hx hb dX8_quarrel_94 (by decide) ?_
    have hf := Option.some.inj hf
    subst hf
    exact W.iret (v := (-9)) hx hb hr (fun t ht hW => ⟨⟨_, (), rfl, rfl, by rw [ht]; exact hP, va_K.moved hW.alike hK, hD⟩, hS.F ht⟩) hS.2.2 dX8_quarrel_96
  · have hf := ff hf c16
    refine lv_iload_n (pc := 19) hx hb dX8_quarrel_19 rfl (lv_at hl 2 rfl) ?_
    refine lv_iconst (v := 1) (pc := 20) hx hb dX8_quarrel_20 (by decide) ?_
    refine lv_iadd (pc := 21) hx hb dX8_quarrel_21 ?_
    refine lv_istore_n (lv' := [(3, .int (x2 + 1)), (0, .ref (g.2.2.1 8)), (1, .int x1), (2, .int x2)]) (pc := 22) hx hb dX8_quarrel_22 rfl hl (by decide) rfl (fun ls hl => ?_)
    exact w_X8_quarrel_23 C k11 H11 N H locs S8 ls x1 x2 (x2 + 1) hP hD hS (lv_sub hl [1, 2, 3, 0] rfl) hf
set_option maxHeartbeats 4000000 in
set_option maxRecDepth 100000 in
theorem w_X8_quarrel_11 {p : Program} {l : Launch} {e : Env} {s : State} {m : MethodId} {args : Array Value} {below : List Frame} {meth : Method} {c : Code} {g : En} {A : Nat → Prop} {N : Nat} {res : Int32 × St} (C : cxw g A cX8_quarrel 4 (some .int) wsX8_quarrel RX8 p s m args meth c) : ∀ (n : Nat), ∀ (H : Heap) (locs : List Loc) (S8 : St) (ls : Array Slot) (x1 : Int32) (x2 : Int32), va_P g.1 vwCl (wd_8 g S8) H → va_D A (wd_8 g S8) → va_S A s.heap H locs → lv_has ls 4 [(0, .ref (g.2.2.1 8)), (1, .int x1), (2, .int x2)] → f_X8_quarrel_11 N   n S8 x1 x2 = some res → W p l e (headSpec wsX8_quarrel { frames := 4, cells := 0, slots := 0, locals := 97 }).room s m args below meth c H locs 0 0 (MQ below (rwQi g (wd_8 g (res.2)) A (res.1)) args s 0 0 A) (F0 m 11 ls []) := by
  intro n
  induction n with
  | zero =>
    intro H locs S8 ls x1 x2 hP hD hS hl hf
    have hf : (none : Option (Int32 × St)) = some res := hf
    cases hf
  | succ n ih =>
    intro H locs S8 ls x1 x2 hP hD hS hl hf
    exact w_X8_quarrel_11_b C  (fun y0 y1 y2 => f_X8_quarrel_11 N   n y0 y1 y2) ih H locs S8 ls x1 x2 hP hD hS hl hf
set_option maxHeartbeats 4000000 in
set_option maxRecDepth 100000 in
theorem c_X8_quarrel (l : Launch) (g : En) (N : Nat) (sz : Nat) (S8 : St) (x1 : Int32) (res : Int32 × St) (hf : f_X8_quarrel N S8 x1 = some res) : Met l yX8_quarrel wsX8_quarrel { frames := 4, cells := 0, slots := 0, locals := 97 } (rwP g (wd_8 g S8) sz [.ref (g.2.2.1 8), .int x1]) (rwQi g (wd_8 g (res.2)) (va_A (wd_8 g S8) sz) (res.1)) 0 0 (va_A (wd_8 g S8) sz) := by
  refine Met.ofW (cc := cX8_quarrel) (maxL := 4) (ret := (some .int)) (by decide) rfl ?_
  intro p e s m args below meth c s₁ B hml hv
  obtain ⟨rfl, hsz, hP, hK, hD0⟩ := hv
  have hx := B.exec
  have hb := B.bytes
  have hr := B.returns
  have hts := atoms_spec (ws := wsX8_quarrel) B.pre
  have hown : s.vm.findClass RX8 = some m.cls := findClass_of_methodNamed B.named
  have hlk := B.notSynchronized
  subst hsz
  have hD := hD0.self (sz := s.heap.size)
  generalize hAe : va_A (wd_8 g S8) s.heap.size = A at hD ⊢
  have hA : ∀ q : Nat, s.heap.size ≤ q → A q := fun q h => by rw [← hAe]; exact Or.inr h
  have hS : va_S A s.heap s.heap [] := va_S.rf
  have C : cxw g A cX8_quarrel 4 (some .int) wsX8_quarrel RX8 p s m ([.ref (g.2.2.1 8), .int x1] : List Value).toArray meth c := ⟨⟨hx, hb, hr, hml, hown, hts, hlk⟩, hK, hA⟩
  have hl := lv_entry [.ref (g.2.2.1 8), .int x1] (n := 4) (Nat.le_of_ble_eq_true rfl)
  rw [lg_entry_eq]
  generalize (lg_sl [.ref (g.2.2.1 8), .int x1] ++ List.replicate (4 - (lg_sl [.ref (g.2.2.1 8), .int x1]).length) Slot.unset).toArray = ls at hl ⊢
  have hl : lv_has ls 4 [(0, .ref (g.2.2.1 8)), (1, .int x1)] := hl
  unfold f_X8_quarrel at hf
  suffices K9 : ∀ (H : Heap) (locs : List Loc), va_P g.1 vwCl (wd_8 g S8) H → va_D A (wd_8 g S8) → va_S A s.heap H locs → ((f_X8_isDay N x1).bind (fun r1 => (if r1 = 0 then some ((-1), S8) else (f_X8_quarrel_11 N   N S8 x1 0)))) = some res → W p l e (headSpec wsX8_quarrel { frames := 4, cells := 0, slots := 0, locals := 97 }).room s m ([.ref (g.2.2.1 8), .int x1] : List Value).toArray below meth c H locs 0 0 (MQ below (rwQi g (wd_8 g (res.2)) A (res.1)) ([.ref (g.2.2.1 8), .int x1] : List Value).toArray s 0 0 A) (F0 m 0 ls []) from K9 s.heap [] hP hD hS hf
  clear hP hD hS hf
  intro H locs hP hD hS hf
  refine lv_iload_n (pc := 0) hx hb dX8_quarrel_0 rfl (lv_at hl 1 rfl) ?_
  obtain ⟨r1, e1, hf⟩ := bdE hf
  refine ksI (pc := 1) (As := [.int x1]) (rest := []) ⟨hx, hb, hml, hown, hts⟩ (c_X8_isDay l N x1 r1 e1) (va_cwS 1 hts gX8_quarrel_X8_isDay rfl rfl rfl h_X8_isDay ⟨Nat.le_of_ble_eq_true rfl, Nat.le_of_ble_eq_true rfl⟩) rfl hl.1 rfl (Nat.le_of_ble_eq_true rfl) dX8_quarrel_1 ⟨Nat.zero_le _, Nat.zero_le _⟩ ?_
  refine lv_if_ne (tgt := 9) (pc := 4) hx hb dX8_quarrel_4 (by decide) (fun c4 => ?_) (fun c4 => ?_)
  · have hf := ff hf c4
    refine lv_iconst (v := 0) (pc := 9) hx hb dX8_quarrel_9 (by decide) ?_
    refine lv_istore_n (lv' := [(2, .int 0), (0, .ref (g.2.2.1 8)), (1, .int x1)]) (pc := 10) hx hb dX8_quarrel_10 rfl hl (by decide) rfl (fun ls hl => ?_)
    exact w_X8_quarrel_11 C  N H locs S8 ls x1 0 hP hD hS (lv_sub hl [1, 2, 0] rfl) hf
  · have hf := ft hf c4
    refine lv_iconst (v := (-1)) (pc := 7) hx hb dX8_quarrel_7 (by decide) ?_
    have hf := Option.some.inj hf
    subst hf
    exact W.iret (v := (-1)) hx hb hr (fun t ht hW => ⟨⟨_, (), rfl, rfl, by rw [ht]; exact hP, va_K.moved hW.alike hK, hD⟩, hS.F ht⟩) hS.2.2 dX8_quarrel_8
theorem q_X8_bestYear_0 : (.fieldLink RX8 50 "PictureCourtModel" "held" "[I" : Cond) ∈ wsX8_bestYear := by decide +kernel
theorem q_X8_bestYear_1 : (.fieldLink RX8 167 "PictureCourtModel" "proofs" "I" : Cond) ∈ wsX8_bestYear := by decide +kernel
theorem q_X8_bestYear_2 : (.fieldLink RX8 29 "PictureCourtModel" "weightOf" "[I" : Cond) ∈ wsX8_bestYear := by decide +kernel
theorem h_X8_bestYear : yX8_bestYear.cls = RX8 ∧ yX8_bestYear.cls ≠ "java/lang/invoke/MethodHandle" ∧ yX8_bestYear.cls ≠ "java/lang/invoke/VarHandle" ∧ (parseMethodDescriptor yX8_bestYear.desc).map (fun d => d.parameters.length) = some 1 := by decide +kernel
set_option maxHeartbeats 4000000 in
set_option maxRecDepth 100000 in
theorem w_X8_bestYear_83 {p : Program} {l : Launch} {e : Env} {s : State} {m : MethodId} {args : Array Value} {below : List Frame} {meth : Method} {c : Code} {g : En} {A : Nat → Prop} {N : Nat} {res : Int32 × St} (C : cxw g A cX8_bestYear 4 (some .int) wsX8_bestYear RX8 p s m args meth c) (k26 : St → Int32 → Int32 → Option (Int32 × St)) (H26 : ∀ (H : Heap) (locs : List Loc) (S8 : St) (ls : Array Slot) (x1 : Int32) (x2 : Int32), va_P g.1 vwCl (wd_8 g S8) H → va_D A (wd_8 g S8) → va_S A s.heap H locs → lv_has ls 4 [(0, .ref (g.2.2.1 8)), (1, .int x1), (2, .int x2)] → k26 S8 x1 x2 = some res → W p l e (headSpec wsX8_bestYear { frames := 4, cells := 0, slots := 0, locals := 97 }).room s m args below meth c H locs 0 0 (MQ below (rwQi g (wd_8 g (res.2)) A (res.1)) args s 0 0 A) (F0 m 26 ls [])) : ∀ (H : Heap) (locs : List Loc) (S8 : St) (ls : Array Slot) (x1 : Int32) (x2 : Int32), va_P g.1 vwCl (wd_8 g S8) H → va_D A (wd_8 g S8) → va_S A s.heap H locs → lv_has ls 4 [(0, .ref (g.2.2.1 8)), (1, .int x1), (2, .int x2)] → f_X8_bestYear_83 N  k26 S8 x1 x2 = some res → W p l e (headSpec wsX8_bestYear { frames := 4, cells := 0, slots := 0, locals := 97 }).room s m args below meth c H locs 0 0 (MQ below (rwQi g (wd_8 g (res.2)) A (res.1)) args s 0 0 A) (F0 m 83 ls []) := by
  intro H locs S8 ls x1 x2 hP hD hS hl hf
  obtain ⟨⟨hx, hb, hr, hml, hown, hts, hlk⟩, hK, hA⟩ := id C
  unfold f_X8_bestYear_83 at hf
  refine lv_iinc (v := (x2 + 1)) (lv' := [(2, .int (x2 + 1)), (0, .ref (g.2.2.1 8)), (1, .int x1)]) (pc := 83) hx hb dX8_bestYear_83 hl (k := 2) rfl rfl (by decide) rfl (fun ls hl => ?_)
  refine lv_goto (tgt := 26) (pc := 86) hx hb dX8_bestYear_86 (by decide) ?_
  exact H26 H locs S8 ls x1 (x2 + 1) hP hD hS (lv_sub hl [1, 2, 0] rfl) hf
set_option maxHeartbeats 4000000 in
set_option maxRecDepth 100000 in
theorem w_X8_bestYear_141 {p : Program} {l : Launch} {e : Env} {s : State} {m : MethodId} {args : Array Value} {below : List Frame} {meth : Method} {c : Code} {g : En} {A : Nat → Prop} {N : Nat} {res : Int32 × St} (C : cxw g A cX8_bestYear 4 (some .int) wsX8_bestYear RX8 p s m args meth c) (k97 : St → Int32 → Int32 → Option (Int32 × St)) (H97 : ∀ (H : Heap) (locs : List Loc) (S8 : St) (ls : Array Slot) (x2 : Int32) (x3 : Int32), va_P g.1 vwCl (wd_8 g S8) H → va_D A (wd_8 g S8) → va_S A s.heap H locs → lv_has ls 4 [(0, .ref (g.2.2.1 8)), (2, .int x2), (3, .int x3)] → k97 S8 x2 x3 = some res → W p l e (headSpec wsX8_bestYear { frames := 4, cells := 0, slots := 0, locals := 97 }).room s m args below meth c H locs 0 0 (MQ below (rwQi g (wd_8 g (res.2)) A (res.1)) args s 0 0 A) (F0 m 97 ls [])) : ∀ (H : Heap) (locs : List Loc) (S8 : St) (ls : Array Slot) (x3 : Int32) (t0 : Int32), va_P g.1 vwCl (wd_8 g S8) H → va_D A (wd_8 g S8) → va_S A s.heap H locs → lv_has ls 4 [(0, .ref (g.2.2.1 8)), (3, .int x3)] → f_X8_bestYear_141 N  k97 S8 x3 t0 = some res → W p l e (headSpec wsX8_bestYear { frames := 4, cells := 0, slots := 0, locals := 97 }).room s m args below meth c H locs 0 0 (MQ below (rwQi g (wd_8 g (res.2)) A (res.1)) args s 0 0 A) (F0 m 141 ls [.int t0]) := by
  intro H locs S8 ls x3 t0 hP hD hS hl hf
  obtain ⟨⟨hx, hb, hr, hml, hown, hts, hlk⟩, hK, hA⟩ := id C
  unfold f_X8_bestYear_141 at hf
  refine lv_istore_n (lv' := [(2, .int t0), (0, .ref (g.2.2.1 8)), (3, .int x3)]) (pc := 141) hx hb dX8_bestYear_141 rfl hl (by decide) rfl (fun ls hl => ?_)
  refine lv_iinc (v := (x3 + 1)) (lv' := [(3, .int (x3 + 1)), (2, .int t0), (0, .ref (g.2.2.1 8))]) (pc := 142) hx hb dX8_bestYear_142 hl (k := 2) rfl rfl (by decide) rfl (fun ls hl => ?_)
  refine lv_goto (tgt := 97) (pc := 145) hx hb dX8_bestYear_145 (by decide) ?_
  exact H97 H locs S8 ls t0 (x3 + 1) hP hD hS (lv_sub hl [2, 1, 0] rfl) hf
set_option maxHeartbeats 4000000 in
set_option maxRecDepth 100000 in
theorem w_X8_bestYear_97_b {p : Program} {l : Launch} {e : Env} {s : State} {m : MethodId} {args : Array Value} {below : List Frame} {meth : Method} {c : Code} {g : En} {A : Nat → Prop} {N : Nat} {res : Int32 × St} (C : cxw g A cX8_bestYear 4 (some .int) wsX8_bestYear RX8 p s m args meth c) (k97 : St → Int32 → Int32 → Option (Int32 × St)) (H97 : ∀ (H : Heap) (locs : List Loc) (S8 : St) (ls : Array Slot) (x2 : Int32) (x3 : Int32), va_P g.1 vwCl (wd_8 g S8) H → va_D A (wd_8 g S8) → va_S A s.heap H locs → lv_has ls 4 [(0, .ref (g.2.2.1 8)), (2, .int x2), (3, .int x3)] → k97 S8 x2 x3 = some res → W p l e (headSpec wsX8_bestYear { frames := 4, cells := 0, slots := 0, locals := 97 }).room s m args below meth c H locs 0 0 (MQ below (rwQi g (wd_8 g (res.2)) A (res.1)) args s 0 0 A) (F0 m 97 ls [])) : ∀ (H : Heap) (locs : List Loc) (S8 : St) (ls : Array Slot) (x2 : Int32) (x3 : Int32), va_P g.1 vwCl (wd_8 g S8) H → va_D A (wd_8 g S8) → va_S A s.heap H locs → lv_has ls 4 [(0, .ref (g.2.2.1 8)), (2, .int x2), (3, .int x3)] → f_X8_bestYear_97_b N   k97 S8 x2 x3 = some res → W p l e (headSpec wsX8_bestYear { frames := 4, cells := 0, slots := 0, locals := 97 }).room s m args below meth c H locs 0 0 (MQ below (rwQi g (wd_8 g (res.2)) A (res.1)) args s 0 0 A) (F0 m 97 ls []) := by
  intro H locs S8 ls x2 x3 hP hD hS hl hf
  obtain ⟨⟨hx, hb, hr, hml, hown, hts, hlk⟩, hK, hA⟩ := id C
  unfold f_X8_bestYear_97_b at hf
  refine lv_iload_n (pc := 97) hx hb dX8_bestYear_97 rfl (lv_at hl 2 rfl) ?_
  refine lv_sipush (v := 2100) (pc := 98) hx hb dX8_bestYear_98 (by decide) ?_
  refine lv_icmp_gt (tgt := 148) (pc := 101) hx hb dX8_bestYear_101 (by decide) (fun c101 => ?_) (fun c101 => ?_)
  · have hf := ft hf c101
    refine lv_iload_n (pc := 148) hx hb dX8_bestYear_148 rfl (lv_at hl 1 rfl) ?_
    have hf := Option.some.inj hf
    subst hf
    exact W.iret (v := x2) hx hb hr (fun t ht hW => ⟨⟨_, (), rfl, rfl, by rw [ht]; exact hP, va_K.moved hW.alike hK, hD⟩, hS.F ht⟩) hS.2.2 dX8_bestYear_149
  · have hf := ff hf c101
    refine lv_aload_n (pc := 104) hx hb dX8_bestYear_104 rfl (lv_at hl 0 rfl) ?_
    refine va_get (D := g.1) (ci := 8) (v := .ref (g.2.2.2 8 22)) (C := RX8) (T := TX8) (N := 47) (pc := 105) hx hb hts (fun _ h => List.mem_cons_of_mem _ (List.mem_append_right _ h)) hown hK hP 0 rfl rfl 22 (by decide) (hts _ q_X8_bestYear_0) (fun _ h9 => h9) rfl dX8_bestYear_105 ?_
    refine lv_iload_n (pc := 108) hx hb dX8_bestYear_108 rfl (lv_at hl 2 rfl) ?_
    refine lv_dup2_11 (pc := 109) hx hb dX8_bestYear_109 rfl rfl ?_
    obtain ⟨b110, hf⟩ := gdE hf
    refine va_iald (D := g.1) (tys := tyl g) (f := (S8.2.2 22)) (pc := 110) hx hb hK hP 14 0 rfl rfl (inbV b110) dX8_bestYear_110 ?_
    refine lv_aload_n (pc := 111) hx hb dX8_bestYear_111 rfl (lv_at hl 0 rfl) ?_
    refine va_get (D := g.1) (ci := 8) (v := .ref (g.2.2.2 8 22)) (C := RX8) (T := TX8) (N := 47) (pc := 112) hx hb hts (fun _ h => List.mem_cons_of_mem _ (List.mem_append_right _ h)) hown hK hP 0 rfl rfl 22 (by decide) (hts _ q_X8_bestYear_0) (fun _ h9 => h9) rfl dX8_bestYear_112 ?_
    refine lv_iload_n (pc := 115) hx hb dX8_bestYear_115 rfl (lv_at hl 2 rfl) ?_
    refine lv_iconst (v := 1) (pc := 116) hx hb dX8_bestYear_116 (by decide) ?_
    refine lv_isub (pc := 117) hx hb dX8_bestYear_117 ?_
    obtain ⟨b118, hf⟩ := gdE hf
    refine va_iald (D := g.1) (tys := tyl g) (f := (S8.2.2 22)) (pc := 118) hx hb hK hP 14 0 rfl rfl (inbV b118) dX8_bestYear_118 ?_
    refine lv_iadd (pc := 119) hx hb dX8_bestYear_119 ?_
    obtain ⟨b120, hf⟩ := gdE hf
    refine va_iast (D := g.1) (tys := tyl g) (f := (S8.2.2 22)) (pc := 120) hx hb hK hP hD hS 14 0 rfl rfl (inbV b120) dX8_bestYear_120 (fun H locs hP hD hS => ?_)
    have hP := u_8_8_22P S8 (upd (S8.2.2 22) (Int32.toNatClampNeg x3) (((S8.2.2 22) (Int32.toNatClampNeg x3)) + ((S8.2.2 22) (Int32.toNatClampNeg (x3 - 1))))) hP
    have hD := u_8_8_22D S8 (upd (S8.2.2 22) (Int32.toNatClampNeg x3) (((S8.2.2 22) (Int32.toNatClampNeg x3)) + ((S8.2.2 22) (Int32.toNatClampNeg (x3 - 1))))) hD
    refine lv_aload_n (pc := 121) hx hb dX8_bestYear_121 rfl (lv_at hl 0 rfl) ?_
    refine va_get (D := g.1) (ci := 8) (v := .ref (g.2.2.2 8 22)) (C := RX8) (T := TX8) (N := 47) (pc := 122) hx hb hts (fun _ h => List.mem_cons_of_mem _ (List.mem_append_right _ h)) hown hK hP 0 rfl rfl 22 (by decide) (hts _ q_X8_bestYear_0) (fun _ h9 => h9) rfl dX8_bestYear_122 ?_
    refine lv_iload_n (pc := 125) hx hb dX8_bestYear_125 rfl (lv_at hl 2 rfl) ?_
    obtain ⟨b126, hf⟩ := gdE hf
    refine va_iald (D := g.1) (tys := tyl g) (f := (upd (S8.2.2 22) (Int32.toNatClampNeg x3) (((S8.2.2 22) (Int32.toNatClampNeg x3)) + ((S8.2.2 22) (Int32.toNatClampNeg (x3 - 1)))))) (pc := 126) hx hb hK hP 14 0 rfl rfl (inbV b126) dX8_bestYear_126 ?_
    refine lv_aload_n (pc := 127) hx hb dX8_bestYear_127 rfl (lv_at hl 0 rfl) ?_
    refine va_get (D := g.1) (ci := 8) (v := .ref (g.2.2.2 8 22)) (C := RX8) (T := TX8) (N := 47) (pc := 128) hx hb hts (fun _ h => List.mem_cons_of_mem _ (List.mem_append_right _ h)) hown hK hP 0 rfl rfl 22 (by decide) (hts _ q_X8_bestYear_0) (fun _ h9 => h9) rfl dX8_bestYear_128 ?_
    refine lv_iload_n (pc := 131) hx hb dX8_bestYear_131 rfl (lv_at hl 1 rfl) ?_
    obtain ⟨b132, hf⟩ := gdE hf
    refine va_iald (D := g.1) (tys := tyl g) (f := (upd (S8.2.2 22) (Int32.toNatClampNeg x3) (((S8.2.2 22) (Int32.toNatClampNeg x3)) + ((S8.2.2 22) (Int32.toNatClampNeg (x3 - 1)))))) (pc := 132) hx hb hK hP 14 0 rfl rfl (inbV b132) dX8_bestYear_132 ?_
    refine lv_icmp_le (tgt := 140) (pc := 133) hx hb dX8_bestYear_133 (by decide) (fun c133 => ?_) (fun c133 => ?_)
    · have hf := ft hf c133
      refine lv_iload_n (pc := 140) hx hb dX8_bestYear_140 rfl (lv_at hl 1 rfl) ?_
      exact w_X8_bestYear_141 C k97 H97 H locs (sA S8 22 (upd (S8.2.2 22) (Int32.toNatClampNeg x3) (((S8.2.2 22) (Int32.toNatClampNeg x3)) + ((S8.2.2 22) (Int32.toNatClampNeg (x3 - 1)))))) ls x3 x2 hP hD hS (lv_sub hl [0, 2] rfl) hf
    · have hf := ff hf c133
      refine lv_iload_n (pc := 136) hx hb dX8_bestYear_136 rfl (lv_at hl 2 rfl) ?_
      refine lv_goto (tgt := 141) (pc := 137) hx hb dX8_bestYear_137 (by decide) ?_
      exact w_X8_bestYear_141 C k97 H97 H locs (sA S8 22 (upd (S8.2.2 22) (Int32.toNatClampNeg x3) (((S8.2.2 22) (Int32.toNatClampNeg x3)) + ((S8.2.2 22) (Int32.toNatClampNeg (x3 - 1)))))) ls x3 x3 hP hD hS (lv_sub hl [0, 2] rfl) hf
set_option maxHeartbeats 4000000 in
set_option maxRecDepth 100000 in
theorem w_X8_bestYear_97 {p : Program} {l : Launch} {e : Env} {s : State} {m : MethodId} {args : Array Value} {below : List Frame} {meth : Method} {c : Code} {g : En} {A : Nat → Prop} {N : Nat} {res : Int32 × St} (C : cxw g A cX8_bestYear 4 (some .int) wsX8_bestYear RX8 p s m args meth c) : ∀ (n : Nat), ∀ (H : Heap) (locs : List Loc) (S8 : St) (ls : Array Slot) (x2 : Int32) (x3 : Int32), va_P g.1 vwCl (wd_8 g S8) H → va_D A (wd_8 g S8) → va_S A s.heap H locs → lv_has ls 4 [(0, .ref (g.2.2.1 8)), (2, .int x2), (3, .int x3)] → f_X8_bestYear_97 N   n S8 x2 x3 = some res → W p l e (headSpec wsX8_bestYear { frames := 4, cells := 0, slots := 0, locals := 97 }).room s m args below meth c H locs 0 0 (MQ below (rwQi g (wd_8 g (res.2)) A (res.1)) args s 0 0 A) (F0 m 97 ls []) := by
  intro n
  induction n with
  | zero =>
    intro H locs S8 ls x2 x3 hP hD hS hl hf
    have hf : (none : Option (Int32 × St)) = some res := hf
    cases hf
  | succ n ih =>
    intro H locs S8 ls x2 x3 hP hD hS hl hf
    exact w_X8_bestYear_97_b C  (fun y0 y1 y2 => f_X8_bestYear_97 N   n y0 y1 y2) ih H locs S8 ls x2 x3 hP hD hS hl hf
set_option maxHeartbeats 4000000 in
set_option maxRecDepth 100000 in
theorem w_X8_bestYear_26_b {p : Program} {l : Launch} {e : Env} {s : State} {m : MethodId} {args : Array Value} {below : List Frame} {meth : Method} {c : Code} {g : En} {A : Nat → Prop} {N : Nat} {res : Int32 × St} (C : cxw g A cX8_bestYear 4 (some .int) wsX8_bestYear RX8 p s m args meth c) (k26 : St → Int32 → Int32 → Option (Int32 × St)) (H26 : ∀ (H : Heap) (locs : List Loc) (S8 : St) (ls : Array Slot) (x1 : Int32) (x2 : Int32), va_P g.1 vwCl (wd_8 g S8) H → va_D A (wd_8 g S8) → va_S A s.heap H locs → lv_has ls 4 [(0, .ref (g.2.2.1 8)), (1, .int x1), (2, .int x2)] → k26 S8 x1 x2 = some res → W p l e (headSpec wsX8_bestYear { frames := 4, cells := 0, slots := 0, locals := 97 }).room s m args below meth c H locs 0 0 (MQ below (rwQi g (wd_8 g (res.2)) A (res.1)) args s 0 0 A) (F0 m 26 ls [])) : ∀ (H : Heap) (locs : List Loc) (S8 : St) (ls : Array Slot) (x1 : Int32) (x2 : Int32), va_P g.1 vwCl (wd_8 g S8) H → va_D A (wd_8 g S8) → va_S A s.heap H locs → lv_has ls 4 [(0, .ref (g.2.2.1 8)), (1, .int x1), (2, .int x2)] → f_X8_bestYear_26_b N   k26 S8 x1 x2 = some res → W p l e (headSpec wsX8_bestYear { frames := 4, cells := 0, slots := 0, locals := 97 }).room s m args below meth c H locs 0 0 (MQ below (rwQi g (wd_8 g (res.2)) A (res.1)) args s 0 0 A) (F0 m 26 ls []) := by
  intro H locs S8 ls x1 x2 hP hD hS hl hf
  obtain ⟨⟨hx, hb, hr, hml, hown, hts, hlk⟩, hK, hA⟩ := id C
  unfold f_X8_bestYear_26_b at hf
  refine lv_iload_n (pc := 26) hx hb dX8_bestYear_26 rfl (lv_at hl 2 rfl) ?_
  refine lv_aload_n (pc := 27) hx hb dX8_bestYear_27 rfl (lv_at hl 0 rfl) ?_
  refine va_get (D := g.1) (ci := 8) (v := .int (S8.1 13)) (C := RX8) (T := TX8) (N := 47) (pc := 28) hx hb hts (fun _ h => List.mem_cons_of_mem _ (List.mem_append_right _ h)) hown hK hP 0 rfl rfl 13 (by decide) (hts _ q_X8_bestYear_1) (fun _ h9 => h9) rfl dX8_bestYear_28 ?_
  refine lv_icmp_ge (tgt := 89) (pc := 31) hx hb dX8_bestYear_31 (by decide) (fun c31 => ?_) (fun c31 => ?_)
  · have hf := ft hf c31
    refine lv_sipush (v := 1000) (pc := 89) hx hb dX8_bestYear_89 (by decide) ?_
    refine lv_istore_n (lv' := [(2, .int 1000), (0, .ref (g.2.2.1 8)), (1, .int x1)]) (pc := 92) hx hb dX8_bestYear_92 rfl hl (by decide) rfl (fun ls hl => ?_)
    refine lv_sipush (v := 1001) (pc := 93) hx hb dX8_bestYear_93 (by decide) ?_
    refine lv_istore_n (lv' := [(3, .int 1001), (2, .int 1000), (0, .ref (g.2.2.1 8)), (1, .int x1)]) (pc := 96) hx hb dX8_bestYear_96 rfl hl (by decide) rfl (fun ls hl => ?_)
    exact w_X8_bestYear_97 C  N H locs S8 ls 1000 1001 hP hD hS (lv_sub hl [2, 1, 0] rfl) hf
  · have hf := ff hf c31
    refine lv_aload_n (pc := 34) hx hb dX8_bestYear_34 rfl (lv_at hl 0 rfl) ?_
    refine lv_iload_n (pc := 35) hx hb dX8_bestYear_35 rfl (lv_at hl 2 rfl) ?_
    refine lv_iload_n (pc := 36) hx hb dX8_bestYear_36 rfl (lv_at hl 1 rfl) ?_
    obtain ⟨r37, e37, hf⟩ := bdE hf
    refine krI (g := g) (wc := (wd_8 g S8)) (pc := 37) (As := [.int x2, .int x1]) (rest := []) ⟨hx, hb, hml, hown, hts⟩ (c_X8_isKnown l g N S8 x2 x1 r37 e37) (cwV 2 hts gX8_bestYear_X8_isKnown rfl rfl rfl h_X8_isKnown ⟨Nat.le_of_ble_eq_true rfl, Nat.le_of_ble_eq_true rfl⟩) hK hP rfl rfl rfl hl.1 rfl (Nat.le_of_ble_eq_true rfl) dX8_bestYear_37 ⟨Nat.zero_le _, Nat.zero_le _⟩ ?_
    refine lv_if_eq (tgt := 83) (pc := 40) hx hb dX8_bestYear_40 (by decide) (fun c40 => ?_) (fun c40 => ?_)
    · have hf := ft hf c40
      exact w_X8_bestYear_83 C k26 H26 H locs S8 ls x1 x2 hP hD hS (lv_sub hl [0, 1, 2] rfl) hf
    · have hf := ff hf c40
      refine lv_aload_n (pc := 43) hx hb dX8_bestYear_43 rfl (lv_at hl 0 rfl) ?_
      refine va_get (D := g.1) (ci := 8) (v := .ref (g.2.2.2 8 22)) (C := RX8) (T := TX8) (N := 47) (pc := 44) hx hb hts (fun _ h => List.mem_cons_of_mem _ (List.mem_append_right _ h)) hown hK hP 0 rfl rfl 22 (by decide) (hts _ q_X8_bestYear_0) (fun _ h9 => h9) rfl dX8_bestYear_44 ?_
      refine lv_aload_n (pc := 47) hx hb dX8_bestYear_47 rfl (lv_at hl 0 rfl) ?_
      refine lv_iload_n (pc := 48) hx hb dX8_bestYear_48 rfl (lv_at hl 2 rfl) ?_
      obtain ⟨r49, e49, hf⟩ := bdE hf
      refine krI (g := g) (wc := (wd_8 g S8)) (pc := 49) (As := [.int x2]) (rest := [.ref (g.2.2.2 8 22)]) ⟨hx, hb, hml, hown, hts⟩ (c_X8_fromOf l g N S8 x2 r49 e49) (cwV 1 hts gX8_bestYear_X8_fromOf rfl rfl rfl h_X8_fromOf ⟨Nat.le_of_ble_eq_true rfl, Nat.le_of_ble_eq_true rfl⟩) hK hP rfl rfl rfl hl.1 rfl (Nat.le_of_ble_eq_true rfl) dX8_bestYear_49 ⟨Nat.zero_le _, Nat.zero_le _⟩ ?_
      refine lv_dup2_11 (pc := 52) hx hb dX8_bestYear_52 rfl rfl ?_
      obtain ⟨b53, hf⟩ := gdE hf
      refine va_iald (D := g.1) (tys := tyl g) (f := (S8.2.2 22)) (pc := 53) hx hb hK hP 14 0 rfl rfl (inbV b53) dX8_bestYear_53 ?_
      refine lv_aload_n (pc := 54) hx hb dX8_bestYear_54 rfl (lv_at hl 0 rfl) ?_
      refine va_get (D := g.1) (ci := 8) (v := .ref (g.2.2.2 8 15)) (C := RX8) (T := TX8) (N := 47) (pc := 55) hx hb hts (fun _ h => List.mem_cons_of_mem _ (List.mem_append_right _ h)) hown hK hP 0 rfl rfl 15 (by decide) (hts _ q_X8_bestYear_2) (fun _ h9 => h9) rfl dX8_bestYear_55 ?_
      refine lv_iload_n (pc := 58) hx hb dX8_bestYear_58 rfl (lv_at hl 2 rfl) ?_
      obtain ⟨b59, hf⟩ := gdE hf
      refine va_iald (D := g.1) (tys := tyl g) (f := (S8.2.2 15)) (pc := 59) hx hb hK hP 7 0 rfl rfl (inbV b59) dX8_bestYear_59 ?_
      refine lv_iadd (pc := 60) hx hb dX8_bestYear_60 ?_
      obtain ⟨b61, hf⟩ := gdE hf
      refine va_iast (D := g.1) (tys := tyl g) (f := (S8.2.2 22)) (pc := 61) hx hb hK hP hD hS 14 0 rfl rfl (inbV b61) dX8_bestYear_61 (fun H locs hP hD hS => ?_)
      have hP := u_8_8_22P S8 (upd (S8.2.2 22) (Int32.toNatClampNeg r49) (((S8.2.2 22) (Int32.toNatClampNeg r49)) + ((S8.2.2 15) (Int32.toNatClampNeg x2)))) hP
      have hD := u_8_8_22D S8 (upd (S8.2.2 22) (Int32.toNatClampNeg r49) (((S8.2.2 22) (Int32.toNatClampNeg r49)) + ((S8.2.2 15) (Int32.toNatClampNeg x2)))) hD
      refine lv_aload_n (pc := 62) hx hb dX8_bestYear_62 rfl (lv_at hl 0 rfl) ?_
      refine va_get (D := g.1) (ci := 8) (v := .ref (g.2.2.2 8 22)) (C := RX8) (T := TX8) (N := 47) (pc := 63) hx hb hts (fun _ h => List.mem_cons_of_mem _ (List.mem_append_right _ h)) hown hK hP 0 rfl rfl 22 (by decide) (hts _ q_X8_bestYear_0) (fun _ h9 => h9) rfl dX8_bestYear_63 ?_
      refine lv_aload_n (pc := 66) hx hb dX8_bestYear_66 rfl (lv_at hl 0 rfl) ?_
      refine lv_iload_n (pc := 67) hx hb dX8_bestYear_67 rfl (lv_at hl 2 rfl) ?_
      obtain ⟨r68, e68, hf⟩ := bdE hf
      refine krI (g := g) (wc := (wd_8 g (sA S8 22 (upd (S8.2.2 22) (Int32.toNatClampNeg r49) (((S8.2.2 22) (Int32.toNatClampNeg r49)) + ((S8.2.2 15) (Int32.toNatClampNeg x2))))))) (pc := 68) (As := [.int x2]) (rest := [.ref (g.2.2.2 8 22)]) ⟨hx, hb, hml, hown, hts⟩ (c_X8_toOf l g N (sA S8 22 (upd (S8.2.2 22) (Int32.toNatClampNeg r49) (((S8.2.2 22) (Int32.toNatClampNeg r49)) + ((S8.2.2 15) (Int32.toNatClampNeg x2))))) x2 r68 e68) (cwV 1 hts gX8_bestYear_X8_toOf rfl rfl rfl h_X8_toOf ⟨Nat.le_of_ble_eq_true rfl, Nat.le_of_ble_eq_true rfl⟩) hK hP rfl rfl rfl hl.1 rfl (Nat.le_of_ble_eq_true rfl) dX8_bestYear_68 ⟨Nat.zero_le _, Nat.zero_le _⟩ ?_
      refine lv_iconst (v := 1) (pc := 71) hx hb dX8_bestYear_71 (by decide) ?_
      refine lv_iadd (pc := 72) hx hb dX8_bestYear_72 ?_
      refine lv_dup2_11 (pc := 73) hx hb dX8_bestYear_73 rfl rfl ?_
      obtain ⟨b74, hf⟩ := gdE hf
      refine va_iald (D := g.1) (tys := tyl g) (f := (upd (S8.2.2 22) (Int32.toNatClampNeg r49) (((S8.2.2 22) (Int32.toNatClampNeg r49)) + ((S8.2.2 15) (Int32.toNatClampNeg x2))))) (pc := 74) hx hb hK hP 14 0 rfl rfl (inbV b74) dX8_bestYear_74 ?_
      refine lv_aload_n (pc := 75) hx hb dX8_bestYear_75 rfl (lv_at hl 0 rfl) ?_
      refine va_get (D := g.1) (ci := 8) (v := .ref (g.2.2.2 8 15)) (C := RX8) (T := TX8) (N := 47) (pc := 76) hx hb hts (fun _ h => List.mem_cons_of_mem _ (List.mem_append_right _ h)) hown hK hP 0 rfl rfl 15 (by decide) (hts _ q_X8_bestYear_2) (fun _ h9 => h9) rfl dX8_bestYear_76 ?_
      refine lv_iload_n (pc := 79) hx hb dX8_bestYear_79 rfl (lv_at hl 2 rfl) ?_
      obtain ⟨b80, hf⟩ := gdE hf
      refine va_iald (D := g.1) (tys := tyl g) (f := (S8.2.2 15)) (pc := 80) hx hb hK hP 7 0 rfl rfl (inbV b80) dX8_bestYear_80 ?_
      refine lv_isub (pc := 81) hx hb dX8_bestYear_81 ?_
      obtain ⟨b82, hf⟩ := gdE hf
      refine va_iast (D := g.1) (tys := tyl g) (f := (upd (S8.2.2 22) (Int32.toNatClampNeg r49) (((S8.2.2 22) (Int32.toNatClampNeg r49)) + ((S8.2.2 15) (Int32.toNatClampNeg x2))))) (pc := 82) hx hb hK hP hD hS 14 0 rfl rfl (inbV b82) dX8_bestYear_82 (fun H locs hP hD hS => ?_)
      have hP := u_8_8_22P (sA S8 22 (upd (S8.2.2 22) (Int32.toNatClampNeg r49) (((S8.2.2 22) (Int32.toNatClampNeg r49)) + ((S8.2.2 15) (Int32.toNatClampNeg x2))))) (upd (upd (S8.2.2 22) (Int32.toNatClampNeg r49) (((S8.2.2 22) (Int32.toNatClampNeg r49)) + ((S8.2.2 15) (Int32.toNatClampNeg x2)))) (Int32.toNatClampNeg (r68 + 1)) (((upd (S8.2.2 22) (Int32.toNatClampNeg r49) (((S8.2.2 22) (Int32.toNatClampNeg r49)) + ((S8.2.2 15) (Int32.toNatClampNeg x2)))) (Int32.toNatClampNeg (r68 + 1))) - ((S8.2.2 15) (Int32.toNatClampNeg x2)))) hP
      have hD := u_8_8_22D (sA S8 22 (upd (S8.2.2 22) (Int32.toNatClampNeg r49) (((S8.2.2 22) (Int32.toNatClampNeg r49)) + ((S8.2.2 15) (Int32.toNatClampNeg x2))))) (upd (upd (S8.2.2 22) (Int32.toNatClampNeg r49) (((S8.2.2 22) (Int32.toNatClampNeg r49)) + ((S8.2.2 15) (Int32.toNatClampNeg x2)))) (Int32.toNatClampNeg (r68 + 1)) (((upd (S8.2.2 22) (Int32.toNatClampNeg r49) (((S8.2.2 22) (Int32.toNatClampNeg r49)) + ((S8.2.2 15) (Int32.toNatClampNeg x2)))) (Int32.toNatClampNeg (r68 + 1))) - ((S8.2.2 15) (Int32.toNatClampNeg x2)))) hD
      exact w_X8_bestYear_83 C k26 H26 H locs (sA (sA S8 22 (upd (S8.2.2 22) (Int32.toNatClampNeg r49) (((S8.2.2 22) (Int32.toNatClampNeg r49)) + ((S8.2.2 15) (Int32.toNatClampNeg x2))))) 22 (upd (upd (S8.2.2 22) (Int32.toNatClampNeg r49) (((S8.2.2 22) (Int32.toNatClampNeg r49)) + ((S8.2.2 15) (Int32.toNatClampNeg x2)))) (Int32.toNatClampNeg (r68 + 1)) (((upd (S8.2.2 22) (Int32.toNatClampNeg r49) (((S8.2.2 22) (Int32.toNatClampNeg r49)) + ((S8.2.2 15) (Int32.toNatClampNeg x2)))) (Int32.toNatClampNeg (r68 + 1))) - ((S8.2.2 15) (Int32.toNatClampNeg x2))))) ls x1 x2 hP hD hS (lv_sub hl [0, 1, 2] rfl) hf
set_option maxHeartbeats 4000000 in
set_option maxRecDepth 100000 in
theorem w_X8_bestYear_26 {p : Program} {l : Launch} {e : Env} {s : State} {m : MethodId} {args : Array Value} {below : List Frame} {meth : Method} {c : Code} {g : En} {A : Nat → Prop} {N : Nat} {res : Int32 × St} (C : cxw g A cX8_bestYear 4 (some .int) wsX8_bestYear RX8 p s m args meth c) : ∀ (n : Nat), ∀ (H : Heap) (locs : List Loc) (S8 : St) (ls : Array Slot) (x1 : Int32) (x2 : Int32), va_P g.1 vwCl (wd_8 g S8) H → va_D A (wd_8 g S8) → va_S A s.heap H locs → lv_has ls 4 [(0, .ref (g.2.2.1 8)), (1, .int x1), (2, .int x2)] → f_X8_bestYear_26 N   n S8 x1 x2 = some res → W p l e (headSpec wsX8_bestYear { frames := 4, cells := 0, slots := 0, locals := 97 }).room s m args below meth c H locs 0 0 (MQ below (rwQi g (wd_8 g (res.2)) A (res.1)) args s 0 0 A) (F0 m 26 ls []) := by
  intro n
  induction n with
  | zero =>
    intro H locs S8 ls x1 x2 hP hD hS hl hf
    have hf : (none : Option (Int32 × St)) = some res := hf
    cases hf
  | succ n ih =>
    intro H locs S8 ls x1 x2 hP hD hS hl hf
    exact w_X8_bestYear_26_b C  (fun y0 y1 y2 => f_X8_bestYear_26 N   n y0 y1 y2) ih H locs S8 ls x1 x2 hP hD hS hl hf
set_option maxHeartbeats 4000000 in
set_option maxRecDepth 100000 in
theorem w_X8_bestYear_4_b {p : Program} {l : Launch} {e : Env} {s : State} {m : MethodId} {args : Array Value} {below : List Frame} {meth : Method} {c : Code} {g : En} {A : Nat → Prop} {N : Nat} {res : Int32 × St} (C : cxw g A cX8_bestYear 4 (some .int) wsX8_bestYear RX8 p s m args meth c) (k4 : St → Int32 → Int32 → Option (Int32 × St)) (H4 : ∀ (H : Heap) (locs : List Loc) (S8 : St) (ls : Array Slot) (x1 : Int32) (x2 : Int32), va_P g.1 vwCl (wd_8 g S8) H → va_D A (wd_8 g S8) → va_S A s.heap H locs → lv_has ls 4 [(0, .ref (g.2.2.1 8)), (1, .int x1), (2, .int x2)] → k4 S8 x1 x2 = some res → W p l e (headSpec wsX8_bestYear { frames := 4, cells := 0, slots := 0, locals := 97 }).room s m args below meth c H locs 0 0 (MQ below (rwQi g (wd_8 g (res.2)) A (res.1)) args s 0 0 A) (F0 m 4 ls [])) : ∀ (H : Heap) (locs : List Loc) (S8 : St) (ls : Array Slot) (x1 : Int32) (x2 : Int32), va_P g.1 vwCl (wd_8 g S8) H → va_D A (wd_8 g S8) → va_S A s.heap H locs → lv_has ls 4 [(0, .ref (g.2.2.1 8)), (1, .int x1), (2, .int x2)] → f_X8_bestYear_4_b N   k4 S8 x1 x2 = some res → W p l e (headSpec wsX8_bestYear { frames := 4, cells := 0, slots := 0, locals := 97 }).room s m args below meth c H locs 0 0 (MQ below (rwQi g (wd_8 g (res.2)) A (res.1)) args s 0 0 A) (F0 m 4 ls []) := by
  intro H locs S8 ls x1 x2 hP hD hS hl hf
  obtain ⟨⟨hx, hb, hr, hml, hown, hts, hlk⟩, hK, hA⟩ := id C
  unfold f_X8_bestYear_4_b at hf
  refine lv_iload_n (pc := 4) hx hb dX8_bestYear_4 rfl (lv_at hl 2 rfl) ?_
  refine lv_sipush (v := 2101) (pc := 5) hx hb dX8_bestYear_5 (by decide) ?_
  refine lv_icmp_gt (tgt := 24) (pc := 8) hx hb dX8_bestYear_8 (by decide) (fun c8 => ?_) (fun c8 => ?_)
  · have hf := ft hf c8
    refine lv_iconst (v := 0) (pc := 24) hx hb dX8_bestYear_24 (by decide) ?_
    refine lv_istore_n (lv' := [(2, .int 0), (0, .ref (g.2.2.1 8)), (1, .int x1)]) (pc := 25) hx hb dX8_bestYear_25 rfl hl (by decide) rfl (fun ls hl => ?_)
    exact w_X8_bestYear_26 C  N H locs S8 ls x1 0 hP hD hS (lv_sub hl [1, 2, 0] rfl) hf
  · have hf := ff hf c8
    refine lv_aload_n (pc := 11) hx hb dX8_bestYear_11 rfl (lv_at hl 0 rfl) ?_
    refine va_get (D := g.1) (ci := 8) (v := .ref (g.2.2.2 8 22)) (C := RX8) (T := TX8) (N := 47) (pc := 12) hx hb hts (fun _ h => List.mem_cons_of_mem _ (List.mem_append_right _ h)) hown hK hP 0 rfl rfl 22 (by decide) (hts _ q_X8_bestYear_0) (fun _ h9 => h9) rfl dX8_bestYear_12 ?_
    refine lv_iload_n (pc := 15) hx hb dX8_bestYear_15 rfl (lv_at hl 2 rfl) ?_
    refine lv_iconst (v := 0) (pc := 16) hx hb dX8_bestYear_16 (by decide) ?_
    obtain ⟨b17, hf⟩ := gdE hf
    refine va_iast (D := g.1) (tys := tyl g) (f := (S8.2.2 22)) (pc := 17) hx hb hK hP hD hS 14 0 rfl rfl (inbV b17) dX8_bestYear_17 (fun H locs hP hD hS => ?_)
    have hP := u_8_8_22P S8 (upd (S8.2.2 22) (Int32.toNatClampNeg x2) 0) hP
    have hD := u_8_8_22D S8 (upd (S8.2.2 22) (Int32.toNatClampNeg x2) 0) hD
    refine lv_iinc (v := (x2 + 1)) (lv' := [(2, .int (x2 + 1)), (0, .ref (g.2.2.1 8)), (1, .int x1)]) (pc := 18) hx hb dX8_bestYear_18 hl (k := 2) rfl rfl (by decide) rfl (fun ls hl => ?_)
    refine lv_goto (tgt := 4) (pc := 21) hx hb dX8_bestYear_21 (by decide) ?_
    exact H4 H locs (sA S8 22 (upd (S8.2.2 22) (Int32.toNatClampNeg x2) 0)) ls x1 (x2 + 1) hP hD hS (lv_sub hl [1, 2, 0] rfl) hf
set_option maxHeartbeats 4000000 in
set_option maxRecDepth 100000 in
theorem w_X8_bestYear_4 {p : Program} {l : Launch} {e : Env} {s : State} {m : MethodId} {args : Array Value} {below : List Frame} {meth : Method} {c : Code} {g : En} {A : Nat → Prop} {N : Nat} {res : Int32 × St} (C : cxw g A cX8_bestYear 4 (some .int) wsX8_bestYear RX8 p s m args meth c) : ∀ (n : Nat), ∀ (H : Heap) (locs : List Loc) (S8 : St) (ls : Array Slot) (x1 : Int32) (x2 : Int32), va_P g.1 vwCl (wd_8 g S8) H → va_D A (wd_8 g S8) → va_S A s.heap H locs → lv_has ls 4 [(0, .ref (g.2.2.1 8)), (1, .int x1), (2, .int x2)] → f_X8_bestYear_4 N   n S8 x1 x2 = some res → W p l e (headSpec wsX8_bestYear { frames := 4, cells := 0, slots := 0, locals := 97 }).room s m args below meth c H locs 0 0 (MQ below (rwQi g (wd_8 g (res.2)) A (res.1)) args s 0 0 A) (F0 m 4 ls []) := by
  intro n
  induction n with
  | zero =>
    intro H locs S8 ls x1 x2 hP hD hS hl hf
    have hf : (none : Option (Int32 × St)) = some res := hf
    cases hf
  | succ n ih =>
    intro H locs S8 ls x1 x2 hP hD hS hl hf
    exact w_X8_bestYear_4_b C  (fun y0 y1 y2 => f_X8_bestYear_4 N   n y0 y1 y2) ih H locs S8 ls x1 x2 hP hD hS hl hf
set_option maxHeartbeats 4000000 in
set_option maxRecDepth 100000 in
theorem c_X8_bestYear (l : Launch) (g : En) (N : Nat) (sz : Nat) (S8 : St) (x1 : Int32) (res : Int32 × St) (hf : f_X8_bestYear N S8 x1 = some res) : Met l yX8_bestYear wsX8_bestYear { frames := 4, cells := 0, slots := 0, locals := 97 } (rwP g (wd_8 g S8) sz [.ref (g.2.2.1 8), .int x1]) (rwQi g (wd_8 g (res.2)) (va_A (wd_8 g S8) sz) (res.1)) 0 0 (va_A (wd_8 g S8) sz) := by
  refine Met.ofW (cc := cX8_bestYear) (maxL := 4) (ret := (some .int)) (by decide) rfl ?_
  intro p e s m args below meth c s₁ B hml hv
  obtain ⟨rfl, hsz, hP, hK, hD0⟩ := hv
  have hx := B.exec
  have hb := B.bytes
  have hr := B.returns
  have hts := atoms_spec (ws := wsX8_bestYear) B.pre
  have hown : s.vm.findClass RX8 = some m.cls := findClass_of_methodNamed B.named
  have hlk := B.notSynchronized
  subst hsz
  have hD := hD0.self (sz := s.heap.size)
  generalize hAe : va_A (wd_8 g S8) s.heap.size = A at hD ⊢
  have hA : ∀ q : Nat, s.heap.size ≤ q → A q := fun q h => by rw [← hAe]; exact Or.inr h
  have hS : va_S A s.heap s.heap [] := va_S.rf
  have C : cxw g A cX8_bestYear 4 (some .int) wsX8_bestYear RX8 p s m ([.ref (g.2.2.1 8), .int x1] : List Value).toArray meth c := ⟨⟨hx, hb, hr, hml, hown, hts, hlk⟩, hK, hA⟩
  have hl := lv_entry [.ref (g.2.2.1 8), .int x1] (n := 4) (Nat.le_of_ble_eq_true rfl)
  rw [lg_entry_eq]
  generalize (lg_sl [.ref (g.2.2.1 8), .int x1] ++ List.replicate (4 - (lg_sl [.ref (g.2.2.1 8), .int x1]).length) Slot.unset).toArray = ls at hl ⊢
  have hl : lv_has ls 4 [(0, .ref (g.2.2.1 8)), (1, .int x1)] := hl
  unfold f_X8_bestYear at hf
  suffices K9 : ∀ (H : Heap) (locs : List Loc), va_P g.1 vwCl (wd_8 g S8) H → va_D A (wd_8 g S8) → va_S A s.heap H locs → (f_X8_bestYear_4 N   N S8 x1 1000) = some res → W p l e (headSpec wsX8_bestYear { frames := 4, cells := 0, slots := 0, locals := 97 }).room s m ([.ref (g.2.2.1 8), .int x1] : List Value).toArray below meth c H locs 0 0 (MQ below (rwQi g (wd_8 g (res.2)) A (res.1)) ([.ref (g.2.2.1 8), .int x1] : List Value).toArray s 0 0 A) (F0 m 0 ls []) from K9 s.heap [] hP hD hS hf
  clear hP hD hS hf
  intro H locs hP hD hS hf
  refine lv_sipush (v := 1000) (pc := 0) hx hb dX8_bestYear_0 (by decide) ?_
  refine lv_istore_n (lv' := [(2, .int 1000), (0, .ref (g.2.2.1 8)), (1, .int x1)]) (pc := 3) hx hb dX8_bestYear_3 rfl hl (by decide) rfl (fun ls hl => ?_)
  exact w_X8_bestYear_4 C  N H locs S8 ls x1 1000 hP hD hS (lv_sub hl [1, 2, 0] rfl) hf
theorem q_X8_leftOut_0 : (.fieldLink RX8 167 "PictureCourtModel" "proofs" "I" : Cond) ∈ wsX8_leftOut := by decide +kernel
theorem q_X8_leftOut_1 : (.fieldLink RX8 29 "PictureCourtModel" "weightOf" "[I" : Cond) ∈ wsX8_leftOut := by decide +kernel
theorem h_X8_leftOut : yX8_leftOut.cls = RX8 ∧ yX8_leftOut.cls ≠ "java/lang/invoke/MethodHandle" ∧ yX8_leftOut.cls ≠ "java/lang/invoke/VarHandle" ∧ (parseMethodDescriptor yX8_leftOut.desc).map (fun d => d.parameters.length) = some 1 := by decide +kernel
set_option maxHeartbeats 4000000 in
set_option maxRecDepth 100000 in
theorem w_X8_leftOut_80 {p : Program} {l : Launch} {e : Env} {s : State} {m : MethodId} {args : Array Value} {below : List Frame} {meth : Method} {c : Code} {g : En} {A : Nat → Prop} {N : Nat} {res : Int32 × St} (C : cxw g A cX8_leftOut 6 (some .int) wsX8_leftOut RX8 p s m args meth c) (k23 : St → Int32 → Int32 → Int32 → Int32 → Int32 → Option (Int32 × St)) (H23 : ∀ (H : Heap) (locs : List Loc) (S8 : St) (ls : Array Slot) (x1 : Int32) (x2 : Int32) (x3 : Int32) (x4 : Int32) (x5 : Int32), va_P g.1 vwCl (wd_8 g S8) H → va_D A (wd_8 g S8) → va_S A s.heap H locs → lv_has ls 6 [(0, .ref (g.2.2.1 8)), (1, .int x1), (2, .int x2), (3, .int x3), (4, .int x4), (5, .int x5)] → k23 S8 x1 x2 x3 x4 x5 = some res → W p l e (headSpec wsX8_leftOut { frames := 5, cells := 0, slots := 0, locals := 120 }).room s m args below meth c H locs 0 0 (MQ below (rwQi g (wd_8 g (res.2)) A (res.1)) args s 0 0 A) (F0 m 23 ls [])) : ∀ (H : Heap) (locs : List Loc) (S8 : St) (ls : Array Slot) (x1 : Int32) (x2 : Int32) (x3 : Int32) (x4 : Int32) (x5 : Int32), va_P g.1 vwCl (wd_8 g S8) H → va_D A (wd_8 g S8) → va_S A s.heap H locs → lv_has ls 6 [(0, .ref (g.2.2.1 8)), (1, .int x1), (2, .int x2), (3, .int x3), (4, .int x4), (5, .int x5)] → f_X8_leftOut_80 N  k23 S8 x1 x2 x3 x4 x5 = some res → W p l e (headSpec wsX8_leftOut { frames := 5, cells := 0, slots := 0, locals := 120 }).room s m args below meth c H locs 0 0 (MQ below (rwQi g (wd_8 g (res.2)) A (res.1)) args s 0 0 A) (F0 m 80 ls []) := by
  intro H locs S8 ls x1 x2 x3 x4 x5 hP hD hS hl hf
  obtain ⟨⟨hx, hb, hr, hml, hown, hts, hlk⟩, hK, hA⟩ := id C
  unfold f_X8_leftOut_80 at hf
  refine lv_iinc (v := (x5 + 1)) (lv' := [(5, .int (x5 + 1)), (0, .ref (g.2.2.1 8)), (1, .int x1), (2, .int x2), (3, .int x3), (4, .int x4)]) (pc := 80) hx hb dX8_leftOut_80 hl (k := 5) rfl rfl (by decide) rfl (fun ls hl => ?_)
  refine lv_goto (tgt := 23) (pc := 83) hx hb dX8_leftOut_83 (by decide) ?_
  exact H23 H locs S8 ls x1 x2 x3 x4 (x5 + 1) hP hD hS (lv_sub hl [1, 2, 3, 4, 5, 0] rfl) hf
set_option maxHeartbeats 4000000 in
set_option maxRecDepth 100000 in
theorem w_X8_leftOut_23_b {p : Program} {l : Launch} {e : Env} {s : State} {m : MethodId} {args : Array Value} {below : List Frame} {meth : Method} {c : Code} {g : En} {A : Nat → Prop} {N : Nat} {res : Int32 × St} (C : cxw g A cX8_leftOut 6 (some .int) wsX8_leftOut RX8 p s m args meth c) (k23 : St → Int32 → Int32 → Int32 → Int32 → Int32 → Option (Int32 × St)) (H23 : ∀ (H : Heap) (locs : List Loc) (S8 : St) (ls : Array Slot) (x1 : Int32) (x2 : Int32) (x3 : Int32) (x4 : Int32) (x5 : Int32), va_P g.1 vwCl (wd_8 g S8) H → va_D A (wd_8 g S8) → va_S A s.heap H locs → lv_has ls 6 [(0, .ref (g.2.2.1 8)), (1, .int x1), (2, .int x2), (3, .int x3), (4, .int x4), (5, .int x5)] → k23 S8 x1 x2 x3 x4 x5 = some res → W p l e (headSpec wsX8_leftOut { frames := 5, cells := 0, slots := 0, locals := 120 }).room s m args below meth c H locs 0 0 (MQ below (rwQi g (wd_8 g (res.2)) A (res.1)) args s 0 0 A) (F0 m 23 ls [])) : ∀ (H : Heap) (locs : List Loc) (S8 : St) (ls : Array Slot) (x1 : Int32) (x2 : Int32) (x3 : Int32) (x4 : Int32) (x5 : Int32), va_P g.1 vwCl (wd_8 g S8) H → va_D A (wd_8 g S8) → va_S A s.heap H locs → lv_has ls 6 [(0, .ref (g.2.2.1 8)), (1, .int x1), (2, .int x2), (3, .int x3), (4, .int x4), (5, .int x5)] → f_X8_leftOut_23_b N   k23 S8 x1 x2 x3 x4 x5 = some res → W p l e (headSpec wsX8_leftOut { frames := 5, cells := 0, slots := 0, locals := 120 }).room s m args below meth c H locs 0 0 (MQ below (rwQi g (wd_8 g (res.2)) A (res.1)) args s 0 0 A) (F0 m 23 ls []) := by
  intro H locs S8 ls x1 x2 x3 x4 x5 hP hD hS hl hf
  obtain ⟨⟨hx, hb, hr, hml, hown, hts, hlk⟩, hK, hA⟩ := id C
  unfold f_X8_leftOut_23_b at hf
  refine lv_iload (pc := 23) hx hb dX8_leftOut_23 (lv_at hl 5 rfl) ?_
  refine lv_aload_n (pc := 25) hx hb dX8_leftOut_25 rfl (lv_at hl 0 rfl) ?_
  refine va_get (D := g.1) (ci := 8) (v := .int (S8.1 13)) (C := RX8) (T := TX8) (N := 47) (pc := 26) hx hb hts (fun _ h => List.mem_cons_of_mem _ (List.mem_append_right _ h)) hown hK hP 0 rfl rfl 13 (by decide) (hts _ q_X8_leftOut_0) (fun _ h9 => h9) rfl dX8_leftOut_26 ?_
  refine lv_icmp_ge (tgt := 86) (pc := 29) hx hb dX8_leftOut_29 (by decide) (fun c29 => ?_) (fun c29 => ?_)
  · have hf := ft hf c29
    refine lv_aload_n (pc := 86) hx hb dX8_leftOut_86 rfl (lv_at hl 0 rfl) ?_
    refine lv_iload (pc := 87) hx hb dX8_leftOut_87 (lv_at hl 4 rfl) ?_
    refine lv_iload_n (pc := 89) hx hb dX8_leftOut_89 rfl (lv_at hl 3 rfl) ?_
    obtain ⟨r90, e90, hf⟩ := bdE hf
    refine kuI (g := g) (A := A) (W0 := (wd_8 g S8)) (w1 := (wd_8 g (r90.2))) (pc := 90) (As := [.int x4, .int x3]) (rest := []) ⟨hx, hb, hml, hown, hts⟩ hK hA hP hD hS (c_X8_tells l g N H.size S8 x4 x3 r90 e90) (cwV 2 hts gX8_leftOut_X8_tells rfl rfl rfl h_X8_tells ⟨Nat.le_of_ble_eq_true rfl, Nat.le_of_ble_eq_true rfl⟩) rfl rfl rfl hl.1 rfl (Nat.le_of_ble_eq_true rfl) dX8_leftOut_90 ⟨Nat.zero_le _, Nat.zero_le _⟩ (fun H locs hP hD hS => ?_)
    have hf := Option.some.inj hf
    subst hf
    exact W.iret (v := (r90.1)) hx hb hr (fun t ht hW => ⟨⟨_, (), rfl, rfl, by rw [ht]; exact hP, va_K.moved hW.alike hK, hD⟩, hS.F ht⟩) hS.2.2 dX8_leftOut_93
  · have hf := ff hf c29
    refine lv_aload_n (pc := 32) hx hb dX8_leftOut_32 rfl (lv_at hl 0 rfl) ?_
    refine lv_iload (pc := 33) hx hb dX8_leftOut_33 (lv_at hl 5 rfl) ?_
    refine lv_iload_n (pc := 35) hx hb dX8_leftOut_35 rfl (lv_at hl 1 rfl) ?_
    obtain ⟨r36, e36, hf⟩ := bdE hf
    refine krI (g := g) (wc := (wd_8 g S8)) (pc := 36) (As := [.int x5, .int x1]) (rest := []) ⟨hx, hb, hml, hown, hts⟩ (c_X8_isKnown l g N S8 x5 x1 r36 e36) (cwV 2 hts gX8_leftOut_X8_isKnown rfl rfl rfl h_X8_isKnown ⟨Nat.le_of_ble_eq_true rfl, Nat.le_of_ble_eq_true rfl⟩) hK hP rfl rfl rfl hl.1 rfl (Nat.le_of_ble_eq_true rfl) dX8_leftOut_36 ⟨Nat.zero_le _, Nat.zero_le _⟩ ?_
    refine lv_if_eq (tgt := 80) (pc := 39) hx hb dX8_leftOut_39 (by decide) (fun c39 => ?_) (fun c39 => ?_)
    · have hf := ft hf c39
      exact w_X8_leftOut_80 C k23 H23 H locs S8 ls x1 x2 x3 x4 x5 hP hD hS (lv_sub hl [0, 1, 2, 3, 4, 5] rfl) hf
    · have hf := ff hf c39
      refine lv_iload_n (pc := 42) hx hb dX8_leftOut_42 rfl (lv_at hl 2 rfl) ?_
      refine lv_aload_n (pc := 43) hx hb dX8_leftOut_43 rfl (lv_at hl 0 rfl) ?_
      refine lv_iload (pc := 44) hx hb dX8_leftOut_44 (lv_at hl 5 rfl) ?_
      obtain ⟨r46, e46, hf⟩ := bdE hf
      refine krI (g := g) (wc := (wd_8 g S8)) (pc := 46) (As := [.int x5]) (rest := [.int x2]) ⟨hx, hb, hml, hown, hts⟩ (c_X8_fromOf l g N S8 x5 r46 e46) (cwV 1 hts gX8_leftOut_X8_fromOf rfl rfl rfl h_X8_fromOf ⟨Nat.le_of_ble_eq_true rfl, Nat.le_of_ble_eq_true rfl⟩) hK hP rfl rfl rfl hl.1 rfl (Nat.le_of_ble_eq_true rfl) dX8_leftOut_46 ⟨Nat.zero_le _, Nat.zero_le _⟩ ?_
      refine lv_aload_n (pc := 49) hx hb dX8_leftOut_49 rfl (lv_at hl 0 rfl) ?_
      refine lv_iload (pc := 50) hx hb dX8_leftOut_50 (lv_at hl 5 rfl) ?_
      obtain ⟨r52, e52, hf⟩ := bdE hf
      refine krI (g := g) (wc := (wd_8 g S8)) (pc := 52) (As := [.int x5]) (rest := [.int r46, .int x2]) ⟨hx, hb, hml, hown, hts⟩ (c_X8_toOf l g N S8 x5 r52 e52) (cwV 1 hts gX8_leftOut_X8_toOf rfl rfl rfl h_X8_toOf ⟨Nat.le_of_ble_eq_true rfl, Nat.le_of_ble_eq_true rfl⟩) hK hP rfl rfl rfl hl.1 rfl (Nat.le_of_ble_eq_true rfl) dX8_leftOut_52 ⟨Nat.zero_le _, Nat.zero_le _⟩ ?_
      obtain ⟨r55, e55, hf⟩ := bdE hf
      refine ksI (pc := 55) (As := [.int x2, .int r46, .int r52]) (rest := []) ⟨hx, hb, hml, hown, hts⟩ (c_X8_in l N x2 r46 r52 r55 e55) (va_cwS 3 hts gX8_leftOut_X8_in rfl rfl rfl h_X8_in ⟨Nat.le_of_ble_eq_true rfl, Nat.le_of_ble_eq_true rfl⟩) rfl hl.1 rfl (Nat.le_of_ble_eq_true rfl) dX8_leftOut_55 ⟨Nat.zero_le _, Nat.zero_le _⟩ ?_
      refine lv_if_ne (tgt := 80) (pc := 58) hx hb dX8_leftOut_58 (by decide) (fun c58 => ?_) (fun c58 => ?_)
      · have hf := ff hf c58
        exact w_X8_leftOut_80 C k23 H23 H locs S8 ls x1 x2 x3 x4 x5 hP hD hS (lv_sub hl [0, 1, 2, 3, 4, 5] rfl) hf
      · have hf := ft hf c58
        refine lv_iload_n (pc := 61) hx hb dX8_leftOut_61 rfl (lv_at hl 3 rfl) ?_
        refine lv_aload_n (pc := 62) hx hb dX8_leftOut_62 rfl (lv_at hl 0 rfl) ?_
        refine va_get (D := g.1) (ci := 8) (v := .ref (g.2.2.2 8 15)) (C := RX8) (T := TX8) (N := 47) (pc := 63) hx hb hts (fun _ h => List.mem_cons_of_mem _ (List.mem_append_right _ h)) hown hK hP 0 rfl rfl 15 (by decide) (hts _ q_X8_leftOut_1) (fun _ h9 => h9) rfl dX8_leftOut_63 ?_
        refine lv_iload (pc := 66) hx hb dX8_leftOut_66 (lv_at hl 5 rfl) ?_
        obtain ⟨b68, hf⟩ := gdE hf
        refine va_iald (D := g.1) (tys := tyl g) (f := (S8.2.2 15)) (pc := 68) hx hb hK hP 7 0 rfl rfl (inbV b68) dX8_leftOut_68 ?_
        refine lv_iadd (pc := 69) hx hb dX8_leftOut_69 ?_
        refine lv_istore_n (lv' := [(3, .int (x3 + ((S8.2.2 15) (Int32.toNatClampNeg x5)))), (0, .ref (g.2.2.1 8)), (1, .int x1), (2, .int x2), (4, .int x4), (5, .int x5)]) (pc := 70) hx hb dX8_leftOut_70 rfl hl (by decide) rfl (fun ls hl => ?_)
        refine lv_iload (pc := 71) hx hb dX8_leftOut_71 (lv_at hl 4 rfl) ?_
        refine lv_iconst (v := 1) (pc := 73) hx hb dX8_leftOut_73 (by decide) ?_
        refine lv_iload (pc := 74) hx hb dX8_leftOut_74 (lv_at hl 5 rfl) ?_
        refine lv_ishl (pc := 76) hx hb dX8_leftOut_76 ?_
        refine lv_ior (pc := 77) hx hb dX8_leftOut_77 ?_
        refine lv_istore (lv' := [(4, .int (x4 ||| (1 <<< (x5 &&& 31)))), (3, .int (x3 + ((S8.2.2 15) (Int32.toNatClampNeg x5)))), (0, .ref (g.2.2.1 8)), (1, .int x1), (2, .int x2), (5, .int x5)]) (pc := 78) hx hb dX8_leftOut_78 hl (by decide) rfl (fun ls hl => ?_)
        exact w_X8_leftOut_80 C k23 H23 H locs S8 ls x1 x2 (x3 + ((S8.2.2 15) (Int32.toNatClampNeg x5))) (x4 ||| (1 <<< (x5 &&& 31))) x5 hP hD hS (lv_sub hl [2, 3, 4, 1, 0, 5] rfl) hf
set_option maxHeartbeats 4000000 in
set_option maxRecDepth 100000 in
theorem w_X8_leftOut_23 {p : Program} {l : Launch} {e : Env} {s : State} {m : MethodId} {args : Array Value} {below : List Frame} {meth : Method} {c : Code} {g : En} {A : Nat → Prop} {N : Nat} {res : Int32 × St} (C : cxw g A cX8_leftOut 6 (some .int) wsX8_leftOut RX8 p s m args meth c) : ∀ (n : Nat), ∀ (H : Heap) (locs : List Loc) (S8 : St) (ls : Array Slot) (x1 : Int32) (x2 : Int32) (x3 : Int32) (x4 : Int32) (x5 : Int32), va_P g.1 vwCl (wd_8 g S8) H → va_D A (wd_8 g S8) → va_S A s.heap H locs → lv_has ls 6 [(0, .ref (g.2.2.1 8)), (1, .int x1), (2, .int x2), (3, .int x3), (4, .int x4), (5, .int x5)] → f_X8_leftOut_23 N   n S8 x1 x2 x3 x4 x5 = some res → W p l e (headSpec wsX8_leftOut { frames := 5, cells := 0, slots := 0, locals := 120 }).room s m args below meth c H locs 0 0 (MQ below (rwQi g (wd_8 g (res.2)) A (res.1)) args s 0 0 A) (F0 m 23 ls []) := by
  intro n
  induction n with
  | zero =>
    intro H locs S8 ls x1 x2 x3 x4 x5 hP hD hS hl hf
    have hf : (none : Option (Int32 × St)) = some res := hf
    cases hf
  | succ n ih =>
    intro H locs S8 ls x1 x2 x3 x4 x5 hP hD hS hl hf
    exact w_X8_leftOut_23_b C  (fun y0 y1 y2 y3 y4 y5 => f_X8_leftOut_23 N   n y0 y1 y2 y3 y4 y5) ih H locs S8 ls x1 x2 x3 x4 x5 hP hD hS hl hf
set_option maxHeartbeats 4000000 in
set_option maxRecDepth 100000 in
theorem c_X8_leftOut (l : Launch) (g : En) (N : Nat) (sz : Nat) (S8 : St) (x1 : Int32) (res : Int32 × St) (hf : f_X8_leftOut N S8 x1 = some res) : Met l yX8_leftOut wsX8_leftOut { frames := 5, cells := 0, slots := 0, locals := 120 } (rwP g (wd_8 g S8) sz [.ref (g.2.2.1 8), .int x1]) (rwQi g (wd_8 g (res.2)) (va_A (wd_8 g S8) sz) (res.1)) 0 0 (va_A (wd_8 g S8) sz) := by
  refine Met.ofW (cc := cX8_leftOut) (maxL := 6) (ret := (some .int)) (by decide) rfl ?_
  intro p e s m args below meth c s₁ B hml hv
  obtain ⟨rfl, hsz, hP, hK, hD0⟩ := hv
  have hx := B.exec
  have hb := B.bytes
  have hr := B.returns
  have hts := atoms_spec (ws := wsX8_leftOut) B.pre
  have hown : s.vm.findClass RX8 = some m.cls := findClass_of_methodNamed B.named
  have hlk := B.notSynchronized
  subst hsz
  have hD := hD0.self (sz := s.heap.size)
  generalize hAe : va_A (wd_8 g S8) s.heap.size = A at hD ⊢
  have hA : ∀ q : Nat, s.heap.size ≤ q → A q := fun q h => by rw [← hAe]; exact Or.inr h
  have hS : va_S A s.heap s.heap [] := va_S.rf
  have C : cxw g A cX8_leftOut 6 (some .int) wsX8_leftOut RX8 p s m ([.ref (g.2.2.1 8), .int x1] : List Value).toArray meth c := ⟨⟨hx, hb, hr, hml, hown, hts, hlk⟩, hK, hA⟩
  have hl := lv_entry [.ref (g.2.2.1 8), .int x1] (n := 6) (Nat.le_of_ble_eq_true rfl)
  rw [lg_entry_eq]
  generalize (lg_sl [.ref (g.2.2.1 8), .int x1] ++ List.replicate (6 - (lg_sl [.ref (g.2.2.1 8), .int x1]).length) Slot.unset).toArray = ls at hl ⊢
  have hl : lv_has ls 6 [(0, .ref (g.2.2.1 8)), (1, .int x1)] := hl
  unfold f_X8_leftOut at hf
  suffices K9 : ∀ (H : Heap) (locs : List Loc), va_P g.1 vwCl (wd_8 g S8) H → va_D A (wd_8 g S8) → va_S A s.heap H locs → ((f_X8_isDay N x1).bind (fun r1 => (if r1 = 0 then some ((-1), S8) else ((f_X8_bestYear N S8 x1).bind (fun r11 => (f_X8_leftOut_23 N   N (r11.2) x1 (r11.1) 0 0 0)))))) = some res → W p l e (headSpec wsX8_leftOut { frames := 5, cells := 0, slots := 0, locals := 120 }).room s m ([.ref (g.2.2.1 8), .int x1] : List Value).toArray below meth c H locs 0 0 (MQ below (rwQi g (wd_8 g (res.2)) A (res.1)) ([.ref (g.2.2.1 8), .int x1] : List Value).toArray s 0 0 A) (F0 m 0 ls []) from K9 s.heap [] hP hD hS hf
  clear hP hD hS hf
  intro H locs hP hD hS hf
  refine lv_iload_n (pc := 0) hx hb dX8_leftOut_0 rfl (lv_at hl 1 rfl) ?_
  obtain ⟨r1, e1, hf⟩ := bdE hf
  refine ksI (pc := 1) (As := [.int x1]) (rest := []) ⟨hx, hb, hml, hown, hts⟩ (c_X8_isDay l N x1 r1 e1) (va_cwS 1 hts gX8_leftOut_X8_isDay rfl rfl rfl h_X8_isDay ⟨Nat.le_of_ble_eq_true rfl, Nat.le_of_ble_eq_true rfl⟩) rfl hl.1 rfl (Nat.le_of_ble_eq_true rfl) dX8_leftOut_1 ⟨Nat.zero_le _, Nat.zero_le _⟩ ?_
  refine lv_if_ne (tgt := 9) (pc := 4) hx hb dX8_leftOut_4 (by decide) (fun c4 => ?_) (fun c4 => ?_)
  · have hf := ff hf c4
    refine lv_aload_n (pc := 9) hx hb dX8_leftOut_9 rfl (lv_at hl 0 rfl) ?_
    refine lv_iload_n (pc := 10) hx hb dX8_leftOut_10 rfl (lv_at hl 1 rfl) ?_
    obtain ⟨r11, e11, hf⟩ := bdE hf
    refine kuI (g := g) (A := A) (W0 := (wd_8 g S8)) (w1 := (wd_8 g (r11.2))) (pc := 11) (As := [.int x1]) (rest := []) ⟨hx, hb, hml, hown, hts⟩ hK hA hP hD hS (c_X8_bestYear l g N H.size S8 x1 r11 e11) (cwV 1 hts gX8_leftOut_X8_bestYear rfl rfl rfl h_X8_bestYear ⟨Nat.le_of_ble_eq_true rfl, Nat.le_of_ble_eq_true rfl⟩) rfl rfl rfl hl.1 rfl (Nat.le_of_ble_eq_true rfl) dX8_leftOut_11 ⟨Nat.zero_le _, Nat.zero_le _⟩ (fun H locs hP hD hS => ?_)
    refine lv_istore_n (lv' := [(2, .int (r11.1)), (0, .ref (g.2.2.1 8)), (1, .int x1)]) (pc := 14) hx hb dX8_leftOut_14 rfl hl (by decide) rfl (fun ls hl => ?_)
    refine lv_iconst (v := 0) (pc := 15) hx hb dX8_leftOut_15 (by decide) ?_
    refine lv_istore_n (lv' := [(3, .int 0), (2, .int (r11.1)), (0, .ref (g.2.2.1 8)), (1, .int x1)]) (pc := 16) hx hb dX8_leftOut_16 rfl hl (by decide) rfl (fun ls hl => ?_)
    refine lv_iconst (v := 0) (pc := 17) hx hb dX8_leftOut_17 (by decide) ?_
    refine lv_istore (lv' := [(4, .int 0), (3, .int 0), (2, .int (r11.1)), (0, .ref (g.2.2.1 8)), (1, .int x1)]) (pc := 18) hx hb dX8_leftOut_18 hl (by decide) rfl (fun ls hl => ?_)
    refine lv_iconst (v := 0) (pc := 20) hx hb dX8_leftOut_20 (by decide) ?_
    refine lv_istore (lv' := [(5, .int 0), (4, .int 0), (3, .int 0), (2, .int (r11.1)), (0, .ref (g.2.2.1 8)), (1, .int x1)]) (pc := 21) hx hb dX8_leftOut_21 hl (by decide) rfl (fun ls hl => ?_)
    exact w_X8_leftOut_23 C  N H locs (r11.2) ls x1 (r11.1) 0 0 0 hP hD hS (lv_sub hl [4, 5, 3, 2, 1, 0] rfl) hf
  · have hf := ft hf c4
    refine lv_iconst (v := (-1)) (pc := 7) hx hb dX8_leftOut_7 (by decide) ?_
    have hf := Option.some.inj hf
    subst hf
    exact W.iret (v := (-1)) hx hb hr (fun t ht hW => ⟨⟨_, (), rfl, rfl, by rw [ht]; exact hP, va_K.moved hW.alike hK, hD⟩, hS.F ht⟩) hS.2.2 dX8_leftOut_8
theorem h_X8_heldYear : yX8_heldYear.cls = RX8 ∧ yX8_heldYear.cls ≠ "java/lang/invoke/MethodHandle" ∧ yX8_heldYear.cls ≠ "java/lang/invoke/VarHandle" ∧ (parseMethodDescriptor yX8_heldYear.desc).map (fun d => d.parameters.length) = some 1 := by decide +kernel
set_option maxHeartbeats 4000000 in
set_option maxRecDepth 100000 in
theorem c_X8_heldYear (l : Launch) (g : En) (N : Nat) (sz : Nat) (S8 : St) (x1 : Int32) (res : Int32 × St) (hf : f_X8_heldYear N S8 x1 = some res) : Met l yX8_heldYear wsX8_heldYear { frames := 5, cells := 0, slots := 0, locals := 120 } (rwP g (wd_8 g S8) sz [.ref (g.2.2.1 8), .int x1]) (rwQi g (wd_8 g (res.2)) (va_A (wd_8 g S8) sz) (res.1)) 0 0 (va_A (wd_8 g S8) sz) := by
  refine Met.ofW (cc := cX8_heldYear) (maxL := 2) (ret := (some .int)) (by decide) rfl ?_
  intro p e s m args below meth c s₁ B hml hv
  obtain ⟨rfl, hsz, hP, hK, hD0⟩ := hv
  have hx := B.exec
  have hb := B.bytes
  have hr := B.returns
  have hts := atoms_spec (ws := wsX8_heldYear) B.pre
  have hown : s.vm.findClass RX8 = some m.cls := findClass_of_methodNamed B.named
  have hlk := B.notSynchronized
  subst hsz
  have hD := hD0.self (sz := s.heap.size)
  generalize hAe : va_A (wd_8 g S8) s.heap.size = A at hD ⊢
  have hA : ∀ q : Nat, s.heap.size ≤ q → A q := fun q h => by rw [← hAe]; exact Or.inr h
  have hS : va_S A s.heap s.heap [] := va_S.rf
  have C : cxw g A cX8_heldYear 2 (some .int) wsX8_heldYear RX8 p s m ([.ref (g.2.2.1 8), .int x1] : List Value).toArray meth c := ⟨⟨hx, hb, hr, hml, hown, hts, hlk⟩, hK, hA⟩
  have hl := lv_entry [.ref (g.2.2.1 8), .int x1] (n := 2) (Nat.le_of_ble_eq_true rfl)
  rw [lg_entry_eq]
  generalize (lg_sl [.ref (g.2.2.1 8), .int x1] ++ List.replicate (2 - (lg_sl [.ref (g.2.2.1 8), .int x1]).length) Slot.unset).toArray = ls at hl ⊢
  have hl : lv_has ls 2 [(0, .ref (g.2.2.1 8)), (1, .int x1)] := hl
  unfold f_X8_heldYear at hf
  suffices K9 : ∀ (H : Heap) (locs : List Loc), va_P g.1 vwCl (wd_8 g S8) H → va_D A (wd_8 g S8) → va_S A s.heap H locs → ((f_X8_isDay N x1).bind (fun r1 => (if r1 = 0 then some ((-1), S8) else ((f_X8_bestYear N S8 x1).bind (fun r9 => some ((r9.1), (r9.2))))))) = some res → W p l e (headSpec wsX8_heldYear { frames := 5, cells := 0, slots := 0, locals := 120 }).room s m ([.ref (g.2.2.1 8), .int x1] : List Value).toArray below meth c H locs 0 0 (MQ below (rwQi g (wd_8 g (res.2)) A (res.1)) ([.ref (g.2.2.1 8), .int x1] : List Value).toArray s 0 0 A) (F0 m 0 ls []) from K9 s.heap [] hP hD hS hf
  clear hP hD hS hf
  intro H locs hP hD hS hf
  refine lv_iload_n (pc := 0) hx hb dX8_heldYear_0 rfl (lv_at hl 1 rfl) ?_
  obtain ⟨r1, e1, hf⟩ := bdE hf
  refine ksI (pc := 1) (As := [.int x1]) (rest := []) ⟨hx, hb, hml, hown, hts⟩ (c_X8_isDay l N x1 r1 e1) (va_cwS 1 hts gX8_heldYear_X8_isDay rfl rfl rfl h_X8_isDay ⟨Nat.le_of_ble_eq_true rfl, Nat.le_of_ble_eq_true rfl⟩) rfl hl.1 rfl (Nat.le_of_ble_eq_true rfl) dX8_heldYear_1 ⟨Nat.zero_le _, Nat.zero_le _⟩ ?_
  refine lv_if_eq (tgt := 15) (pc := 4) hx hb dX8_heldYear_4 (by decide) (fun c4 => ?_) (fun c4 => ?_)
  · have hf := ft hf c4
    refine lv_iconst (v := (-1)) (pc := 15) hx hb dX8_heldYear_15 (by decide) ?_
    have hf := Option.some.inj hf
    subst hf
    exact W.iret (v := (-1)) hx hb hr (fun t ht hW => ⟨⟨_, (), rfl, rfl, by rw [ht]; exact hP, va_K.moved hW.alike hK, hD⟩, hS.F ht⟩) hS.2.2 dX8_heldYear_16
  · have hf := ff hf c4
    refine lv_aload_n (pc := 7) hx hb dX8_heldYear_7 rfl (lv_at hl 0 rfl) ?_
    refine lv_iload_n (pc := 8) hx hb dX8_heldYear_8 rfl (lv_at hl 1 rfl) ?_
    obtain ⟨r9, e9, hf⟩ := bdE hf
    refine kuI (g := g) (A := A) (W0 := (wd_8 g S8)) (w1 := (wd_8 g (r9.2))) (pc := 9) (As := [.int x1]) (rest := []) ⟨hx, hb, hml, hown, hts⟩ hK hA hP hD hS (c_X8_bestYear l g N H.size S8 x1 r9 e9) (cwV 1 hts gX8_heldYear_X8_bestYear rfl rfl rfl h_X8_bestYear ⟨Nat.le_of_ble_eq_true rfl, Nat.le_of_ble_eq_true rfl⟩) rfl rfl rfl hl.1 rfl (Nat.le_of_ble_eq_true rfl) dX8_heldYear_9 ⟨Nat.zero_le _, Nat.zero_le _⟩ (fun H locs hP hD hS => ?_)
    refine lv_goto (tgt := 16) (pc := 12) hx hb dX8_heldYear_12 (by decide) ?_
    have hf := Option.some.inj hf
    subst hf
    exact W.iret (v := (r9.1)) hx hb hr (fun t ht hW => ⟨⟨_, (), rfl, rfl, by rw [ht]; exact hP, va_K.moved hW.alike hK, hD⟩, hS.F ht⟩) hS.2.2 dX8_heldYear_16
theorem h_X8_isHand : yX8_isHand.cls ≠ "java/lang/invoke/MethodHandle" ∧ yX8_isHand.cls ≠ "java/lang/invoke/VarHandle" ∧ (parseMethodDescriptor yX8_isHand.desc).map (fun d => d.parameters.length) = some 1 := by decide +kernel
set_option maxHeartbeats 4000000 in
set_option maxRecDepth 100000 in
theorem c_X8_isHand (l : Launch) (N : Nat) (x0 : Int32) (res : Int32) (hf : f_X8_isHand N x0 = some res) : Met l yX8_isHand wsX8_isHand { frames := 1, cells := 0, slots := 0, locals := 22 } (va_Pc [.int x0] (fun _ => True)) (vp_Si (fun r => r = res)) 0 0 (fun _ => False) := by
  refine Met.ofW (cc := cX8_isHand) (maxL := 1) (ret := (some .boolean)) (by decide) rfl ?_
  intro p e s m args below meth c s₁ B hml hv
  obtain ⟨rfl, -⟩ := hv
  have hx := B.exec
  have hb := B.bytes
  have hr := B.returns
  have hts := atoms_spec (ws := wsX8_isHand) B.pre
  have hown : s.vm.findClass RX8 = some m.cls := findClass_of_methodNamed B.named
  have hlk := B.notSynchronized
  have C : cxs cX8_isHand 1 (some .boolean) wsX8_isHand RX8 p s m ([.int x0] : List Value).toArray meth c := ⟨hx, hb, hr, hml, hown, hts, hlk⟩
  have hl := lv_entry [.int x0] (n := 1) (Nat.le_of_ble_eq_true rfl)
  rw [lg_entry_eq]
  generalize (lg_sl [.int x0] ++ List.replicate (1 - (lg_sl [.int x0]).length) Slot.unset).toArray = ls at hl ⊢
  have hl : lv_has ls 1 [(0, .int x0)] := hl
  unfold f_X8_isHand at hf
  refine lv_iload_n (pc := 0) hx hb dX8_isHand_0 rfl (lv_at hl 0 rfl) ?_
  refine lv_iconst (v := 0) (pc := 1) hx hb dX8_isHand_1 (by decide) ?_
  refine lv_iconst (v := 3) (pc := 2) hx hb dX8_isHand_2 (by decide) ?_
  obtain ⟨r3, e3, hf⟩ := bdE hf
  refine ksI (pc := 3) (As := [.int x0, .int 0, .int 3]) (rest := []) ⟨hx, hb, hml, hown, hts⟩ (c_X8_in l N x0 0 3 r3 e3) (va_cwS 3 hts gX8_isHand_X8_in rfl rfl rfl h_X8_in ⟨Nat.le_of_ble_eq_true rfl, Nat.le_of_ble_eq_true rfl⟩) rfl hl.1 rfl (Nat.le_of_ble_eq_true rfl) dX8_isHand_3 ⟨Nat.zero_le _, Nat.zero_le _⟩ ?_
  obtain ⟨b6, hf⟩ := gdE hf
  have hf := Option.some.inj hf
  subst hf
  exact W.zret (v := r3) hx hb hr (z01V b6) (fun t ht hW => ⟨_, rfl, rfl, ht⟩) (fun _ h => by cases h) dX8_isHand_6
theorem q_X8_isTest_0 : (.fieldLink RX8 198 "PictureCourtModel" "tests" "I" : Cond) ∈ wsX8_isTest := by decide +kernel
theorem h_X8_isTest : yX8_isTest.cls = RX8 ∧ yX8_isTest.cls ≠ "java/lang/invoke/MethodHandle" ∧ yX8_isTest.cls ≠ "java/lang/invoke/VarHandle" ∧ (parseMethodDescriptor yX8_isTest.desc).map (fun d => d.parameters.length) = some 1 := by decide +kernel
set_option maxHeartbeats 4000000 in
set_option maxRecDepth 100000 in
theorem c_X8_isTest (l : Launch) (g : En) (N : Nat) (S8 : St) (x1 : Int32) (res : Int32) (hf : f_X8_isTest N S8 x1 = some res) : Met l yX8_isTest wsX8_isTest { frames := 1, cells := 0, slots := 0, locals := 22 } (roP g (wd_8 g S8) [.ref (g.2.2.1 8), .int x1]) (vp_Si (fun r => r = res)) 0 0 (fun _ => False) := by
  refine Met.ofW (cc := cX8_isTest) (maxL := 2) (ret := (some .boolean)) (by decide) rfl ?_
  intro p e s m args below meth c s₁ B hml hv
  obtain ⟨rfl, hP, hK⟩ := hv
  have hx := B.exec
  have hb := B.bytes
  have hr := B.returns
  have hts := atoms_spec (ws := wsX8_isTest) B.pre
  have hown : s.vm.findClass RX8 = some m.cls := findClass_of_methodNamed B.named
  have hlk := B.notSynchronized
  have C : cxr g (wd_8 g S8) cX8_isTest 2 (some .boolean) wsX8_isTest RX8 p s m ([.ref (g.2.2.1 8), .int x1] : List Value).toArray meth c := ⟨⟨hx, hb, hr, hml, hown, hts, hlk⟩, hK, hP⟩
  have hl := lv_entry [.ref (g.2.2.1 8), .int x1] (n := 2) (Nat.le_of_ble_eq_true rfl)
  rw [lg_entry_eq]
  generalize (lg_sl [.ref (g.2.2.1 8), .int x1] ++ List.replicate (2 - (lg_sl [.ref (g.2.2.1 8), .int x1]).length) Slot.unset).toArray = ls at hl ⊢
  have hl : lv_has ls 2 [(0, .ref (g.2.2.1 8)), (1, .int x1)] := hl
  unfold f_X8_isTest at hf
  refine lv_iload_n (pc := 0) hx hb dX8_isTest_0 rfl (lv_at hl 1 rfl) ?_
  refine lv_iconst (v := 0) (pc := 1) hx hb dX8_isTest_1 (by decide) ?_
  refine lv_aload_n (pc := 2) hx hb dX8_isTest_2 rfl (lv_at hl 0 rfl) ?_
  refine va_get (D := g.1) (ci := 8) (v := .int (S8.1 24)) (C := RX8) (T := TX8) (N := 47) (pc := 3) hx hb hts (fun _ h => List.mem_cons_of_mem _ (List.mem_append_right _ h)) hown hK hP 0 rfl rfl 24 (by decide) (hts _ q_X8_isTest_0) (fun _ h9 => h9) rfl dX8_isTest_3 ?_
  refine lv_iconst (v := 1) (pc := 6) hx hb dX8_isTest_6 (by decide) ?_
  refine lv_isub (pc := 7) hx hb dX8_isTest_7 ?_
  obtain ⟨r8, e8, hf⟩ := bdE hf
  refine ksI (pc := 8) (As := [.int x1, .int 0, .int ((S8.1 24) - 1)]) (rest := []) ⟨hx, hb, hml, hown, hts⟩ (c_X8_in l N x1 0 ((S8.1 24) - 1) r8 e8) (va_cwS 3 hts gX8_isTest_X8_in rfl rfl rfl h_X8_in ⟨Nat.le_of_ble_eq_true rfl, Nat.le_of_ble_eq_true rfl⟩) rfl hl.1 rfl (Nat.le_of_ble_eq_true rfl) dX8_isTest_8 ⟨Nat.zero_le _, Nat.zero_le _⟩ ?_
  obtain ⟨b11, hf⟩ := gdE hf
  have hf := Option.some.inj hf
  subst hf
  exact W.zret (v := r8) hx hb hr (z01V b11) (fun t ht hW => ⟨_, rfl, rfl, ht⟩) (fun _ h => by cases h) dX8_isTest_11
theorem q_X8_hand_0 : (.fieldLink RX8 53 "PictureCourtModel" "hands" "[I" : Cond) ∈ wsX8_hand := by decide +kernel
theorem h_X8_hand : yX8_hand.cls = RX8 ∧ yX8_hand.cls ≠ "java/lang/invoke/MethodHandle" ∧ yX8_hand.cls ≠ "java/lang/invoke/VarHandle" ∧ (parseMethodDescriptor yX8_hand.desc).map (fun d => d.parameters.length) = some 2 := by decide +kernel
set_option maxHeartbeats 4000000 in
set_option maxRecDepth 100000 in
theorem c_X8_hand (l : Launch) (g : En) (N : Nat) (sz : Nat) (S8 : St) (x1 : Int32) (x2 : Int32) (res : Int32 × St) (hf : f_X8_hand N S8 x1 x2 = some res) : Met l yX8_hand wsX8_hand { frames := 2, cells := 0, slots := 0, locals := 42 } (rwP g (wd_8 g S8) sz [.ref (g.2.2.1 8), .int x1, .int x2]) (rwQi g (wd_8 g (res.2)) (va_A (wd_8 g S8) sz) (res.1)) 0 0 (va_A (wd_8 g S8) sz) := by
  refine Met.ofW (cc := cX8_hand) (maxL := 4) (ret := (some .int)) (by decide) rfl ?_
  intro p e s m args below meth c s₁ B hml hv
  obtain ⟨rfl, hsz, hP, hK, hD0⟩ := hv
  have hx := B.exec
  have hb := B.bytes
  have hr := B.returns
  have hts := atoms_spec (ws := wsX8_hand) B.pre
  have hown : s.vm.findClass RX8 = some m.cls := findClass_of_methodNamed B.named
  have hlk := B.notSynchronized
  subst hsz
  have hD := hD0.self (sz := s.heap.size)
  generalize hAe : va_A (wd_8 g S8) s.heap.size = A at hD ⊢
  have hA : ∀ q : Nat, s.heap.size ≤ q → A q := fun q h => by rw [← hAe]; exact Or.inr h
  have hS : va_S A s.heap s.heap [] := va_S.rf
  have C : cxw g A cX8_hand 4 (some .int) wsX8_hand RX8 p s m ([.ref (g.2.2.1 8), .int x1, .int x2] : List Value).toArray meth c := ⟨⟨hx, hb, hr, hml, hown, hts, hlk⟩, hK, hA⟩
  have hl := lv_entry [.ref (g.2.2.1 8), .int x1, .int x2] (n := 4) (Nat.le_of_ble_eq_true rfl)
  rw [lg_entry_eq]
  generalize (lg_sl [.ref (g.2.2.1 8), .int x1, .int x2] ++ List.replicate (4 - (lg_sl [.ref (g.2.2.1 8), .int x1, .int x2]).length) Slot.unset).toArray = ls at hl ⊢
  have hl : lv_has ls 4 [(0, .ref (g.2.2.1 8)), (1, .int x1), (2, .int x2)] := hl
  unfold f_X8_hand at hf
  suffices K9 : ∀ (H : Heap) (locs : List Loc), va_P g.1 vwCl (wd_8 g S8) H → va_D A (wd_8 g S8) → va_S A s.heap H locs → ((f_X8_isHand N x1).bind (fun r1 => (if r1 = 0 then some ((-1), S8) else ((f_X8_in N x2 0 99).bind (fun r11 => (if r11 = 0 then some ((-1), S8) else (if inb x1 4 = true then (if inb x1 4 = true then some (((S8.2.2 23) (Int32.toNatClampNeg x1)), (sA S8 23 (upd (S8.2.2 23) (Int32.toNatClampNeg x1) x2))) else none) else none))))))) = some res → W p l e (headSpec wsX8_hand { frames := 2, cells := 0, slots := 0, locals := 42 }).room s m ([.ref (g.2.2.1 8), .int x1, .int x2] : List Value).toArray below meth c H locs 0 0 (MQ below (rwQi g (wd_8 g (res.2)) A (res.1)) ([.ref (g.2.2.1 8), .int x1, .int x2] : List Value).toArray s 0 0 A) (F0 m 0 ls []) from K9 s.heap [] hP hD hS hf
  clear hP hD hS hf
  intro H locs hP hD hS hf
  refine lv_iload_n (pc := 0) hx hb dX8_hand_0 rfl (lv_at hl 1 rfl) ?_
  obtain ⟨r1, e1, hf⟩ := bdE hf
  refine ksI (pc := 1) (As := [.int x1]) (rest := []) ⟨hx, hb, hml, hown, hts⟩ (c_X8_isHand l N x1 r1 e1) (va_cwS 1 hts gX8_hand_X8_isHand rfl rfl rfl h_X8_isHand ⟨Nat.le_of_ble_eq_true rfl, Nat.le_of_ble_eq_true rfl⟩) rfl hl.1 rfl (Nat.le_of_ble_eq_true rfl) dX8_hand_1 ⟨Nat.zero_le _, Nat.zero_le _⟩ ?_
  refine lv_if_eq (tgt := 17) (pc := 4) hx hb dX8_hand_4 (by decide) (fun c4 => ?_) (fun c4 => ?_)
  · have hf := ft hf c4
    refine lv_iconst (v := (-1)) (pc := 17) hx hb dX8_hand_17 (by decide) ?_
    have hf := Option.some.inj hf
    subst hf
    exact W.iret (v := (-1)) hx hb hr (fun t ht hW => ⟨⟨_, (), rfl, rfl, by rw [ht]; exact hP, va_K.moved hW.alike hK, hD⟩, hS.F ht⟩) hS.2.2 dX8_hand_18
  · have hf := ff hf c4
    refine lv_iload_n (pc := 7) hx hb dX8_hand_7 rfl (lv_at hl 2 rfl) ?_
    refine lv_iconst (v := 0) (pc := 8) hx hb dX8_hand_8 (by decide) ?_
    refine lv_bipush (v := 99) (pc := 9) hx hb dX8_hand_9 (by decide) ?_
    obtain ⟨r11, e11, hf⟩ := bdE hf
    refine ksI (pc := 11) (As := [.int x2, .int 0, .int 99]) (rest := []) ⟨hx, hb, hml, hown, hts⟩ (c_X8_in l N x2 0 99 r11 e11) (va_cwS 3 hts gX8_hand_X8_in rfl rfl rfl h_X8_in ⟨Nat.le_of_ble_eq_true rfl, Nat.le_of_ble_eq_true rfl⟩) rfl hl.1 rfl (Nat.le_of_ble_eq_true rfl) dX8_hand_11 ⟨Nat.zero_le _, Nat.zero_le _⟩ ?_
    refine lv_if_ne (tgt := 19) (pc := 14) hx hb dX8_hand_14 (by decide) (fun c14 => ?_) (fun c14 => ?_)
    · have hf := ff hf c14
      refine lv_aload_n (pc := 19) hx hb dX8_hand_19 rfl (lv_at hl 0 rfl) ?_
      refine va_get (D := g.1) (ci := 8) (v := .ref (g.2.2.2 8 23)) (C := RX8) (T := TX8) (N := 47) (pc := 20) hx hb hts (fun _ h => List.mem_cons_of_mem _ (List.mem_append_right _ h)) hown hK hP 0 rfl rfl 23 (by decide) (hts _ q_X8_hand_0) (fun _ h9 => h9) rfl dX8_hand_20 ?_
      refine lv_iload_n (pc := 23) hx hb dX8_hand_23 rfl (lv_at hl 1 rfl) ?_
      obtain ⟨b24, hf⟩ := gdE hf
      refine va_iald (D := g.1) (tys := tyl g) (f := (S8.2.2 23)) (pc := 24) hx hb hK hP 15 0 rfl rfl (inbV b24) dX8_hand_24 ?_
      refine lv_istore_n (lv' := [(3, .int ((S8.2.2 23) (Int32.toNatClampNeg x1))), (0, .ref (g.2.2.1 8)), (1, .int x1), (2, .int x2)]) (pc := 25) hx hb dX8_hand_25 rfl hl (by decide) rfl (fun ls hl => ?_)
      refine lv_aload_n (pc := 26) hx hb dX8_hand_26 rfl (lv_at hl 1 rfl) ?_
      refine va_get (D := g.1) (ci := 8) (v := .ref (g.2.2.2 8 23)) (C := RX8) (T := TX8) (N := 47) (pc := 27) hx hb hts (fun _ h => List.mem_cons_of_mem _ (List.mem_append_right _ h)) hown hK hP 0 rfl rfl 23 (by decide) (hts _ q_X8_hand_0) (fun _ h9 => h9) rfl dX8_hand_27 ?_
      refine lv_iload_n (pc := 30) hx hb dX8_hand_30 rfl (lv_at hl 2 rfl) ?_
      refine lv_iload_n (pc := 31) hx hb dX8_hand_31 rfl (lv_at hl 3 rfl) ?_
      obtain ⟨b32, hf⟩ := gdE hf
      refine va_iast (D := g.1) (tys := tyl g) (f := (S8.2.2 23)) (pc := 32) hx hb hK hP hD hS 15 0 rfl rfl (inbV b32) dX8_hand_32 (fun H locs hP hD hS => ?_)
      have hP := u_8_8_23P S8 (upd (S8.2.2 23) (Int32.toNatClampNeg x1) x2) hP
      have hD := u_8_8_23D S8 (upd (S8.2.2 23) (Int32.toNatClampNeg x1) x2) hD
      refine lv_iload_n (pc := 33) hx hb dX8_hand_33 rfl (lv_at hl 0 rfl) ?_
      have hf := Option.some.inj hf
      subst hf
      exact W.iret (v := ((S8.2.2 23) (Int32.toNatClampNeg x1))) hx hb hr (fun t ht hW => ⟨⟨_, (), rfl, rfl, by rw [ht]; exact hP, va_K.moved hW.alike hK, hD⟩, hS.F ht⟩) hS.2.2 dX8_hand_34
    · have hf := ft hf c14
      refine lv_iconst (v := (-1)) (pc := 17) hx hb dX8_hand_17 (by decide) ?_
      have hf := Option.some.inj hf
      subst hf
      exact W.iret (v := (-1)) hx hb hr (fun t ht hW => ⟨⟨_, (), rfl, rfl, by rw [ht]; exact hP, va_K.moved hW.alike hK, hD⟩, hS.F ht⟩) hS.2.2 dX8_hand_18
theorem q_X8_test_0 : (.fieldLink RX8 198 "PictureCourtModel" "tests" "I" : Cond) ∈ wsX8_test := by decide +kernel
theorem q_X8_test_1 : (.fieldLink RX8 65 "PictureCourtModel" "testOften" "[I" : Cond) ∈ wsX8_test := by decide +kernel
theorem q_X8_test_2 : (.fieldLink RX8 56 "PictureCourtModel" "testCost" "[I" : Cond) ∈ wsX8_test := by decide +kernel
theorem q_X8_test_3 : (.fieldLink RX8 59 "PictureCourtModel" "testWound" "[I" : Cond) ∈ wsX8_test := by decide +kernel
theorem q_X8_test_4 : (.fieldLink RX8 62 "PictureCourtModel" "testGroup" "[I" : Cond) ∈ wsX8_test := by decide +kernel
theorem q_X8_test_5 : (.fieldLink RX8 68 "PictureCourtModel" "testOut" "[I" : Cond) ∈ wsX8_test := by decide +kernel
theorem q_X8_test_6 : (.fieldLink RX8 71 "PictureCourtModel" "testCounts" "[Z" : Cond) ∈ wsX8_test := by decide +kernel
theorem h_X8_test : yX8_test.cls = RX8 ∧ yX8_test.cls ≠ "java/lang/invoke/MethodHandle" ∧ yX8_test.cls ≠ "java/lang/invoke/VarHandle" ∧ (parseMethodDescriptor yX8_test.desc).map (fun d => d.parameters.length) = some 3 := by decide +kernel
set_option maxHeartbeats 4000000 in
set_option maxRecDepth 100000 in
theorem w_X8_test_104_b {p : Program} {l : Launch} {e : Env} {s : State} {m : MethodId} {args : Array Value} {below : List Frame} {meth : Method} {c : Code} {g : En} {A : Nat → Prop} {N : Nat} {res : Int32 × St} (C : cxw g A cX8_test 5 (some .int) wsX8_test RX8 p s m args meth c) (k104 : St → Int32 → Option (Int32 × St)) (H104 : ∀ (H : Heap) (locs : List Loc) (S8 : St) (ls : Array Slot) (x4 : Int32), va_P g.1 vwCl (wd_8 g S8) H → va_D A (wd_8 g S8) → va_S A s.heap H locs → lv_has ls 5 [(0, .ref (g.2.2.1 8)), (4, .int x4)] → k104 S8 x4 = some res → W p l e (headSpec wsX8_test { frames := 1, cells := 0, slots := 0, locals := 22 }).room s m args below meth c H locs 0 0 (MQ below (rwQi g (wd_8 g (res.2)) A (res.1)) args s 0 0 A) (F0 m 104 ls [])) : ∀ (H : Heap) (locs : List Loc) (S8 : St) (ls : Array Slot) (x4 : Int32), va_P g.1 vwCl (wd_8 g S8) H → va_D A (wd_8 g S8) → va_S A s.heap H locs → lv_has ls 5 [(0, .ref (g.2.2.1 8)), (4, .int x4)] → f_X8_test_104_b N   k104 S8 x4 = some res → W p l e (headSpec wsX8_test { frames := 1, cells := 0, slots := 0, locals := 22 }).room s m args below meth c H locs 0 0 (MQ below (rwQi g (wd_8 g (res.2)) A (res.1)) args s 0 0 A) (F0 m 104 ls []) := by
  intro H locs S8 ls x4 hP hD hS hl hf
  obtain ⟨⟨hx, hb, hr, hml, hown, hts, hlk⟩, hK, hA⟩ := id C
  unfold f_X8_test_104_b at hf
  refine lv_iload (pc := 104) hx hb dX8_test_104 (lv_at hl 1 rfl) ?_
  refine lv_iconst (v := 4) (pc := 106) hx hb dX8_test_106 (by decide) ?_
  refine lv_icmp_ge (tgt := 132) (pc := 107) hx hb dX8_test_107 (by decide) (fun c107 => ?_) (fun c107 => ?_)
  · have hf := ft hf c107
    refine lv_aload_n (pc := 132) hx hb dX8_test_132 rfl (lv_at hl 0 rfl) ?_
    refine lv_dup (pc := 133) hx hb dX8_test_133 rfl ?_
    refine va_get (D := g.1) (ci := 8) (v := .int (S8.1 24)) (C := RX8) (T := TX8) (N := 47) (pc := 134) hx hb hts (fun _ h => List.mem_cons_of_mem _ (List.mem_append_right _ h)) hown hK hP 0 rfl rfl 24 (by decide) (hts _ q_X8_test_0) (fun _ h9 => h9) rfl dX8_test_134 ?_
    refine lv_iconst (v := 1) (pc := 137) hx hb dX8_test_137 (by decide) ?_
    refine lv_iadd (pc := 138) hx hb dX8_test_138 ?_
    refine va_put (D := g.1) (ci := 8) (v := .int ((S8.1 24) + 1)) (ty := .int) (C := RX8) (T := TX8) (N := 47) (pc := 139) hx hb hts (fun _ h => List.mem_cons_of_mem _ (List.mem_append_right _ h)) tyX8 tyX8_ok nmX8 hown hK hP hD hS 0 rfl rfl 24 (by decide) (hts _ q_X8_test_0) (fun _ h9 => h9) rfl rfl rfl rfl (Nat.le_of_ble_eq_true rfl) dX8_test_139 (fun H locs hP hD hS => ?_)
    have hP := u_8_8_24P S8 ((S8.1 24) + 1) hP
    have hD := u_8_8_24D S8 ((S8.1 24) + 1) hD
    refine lv_aload_n (pc := 142) hx hb dX8_test_142 rfl (lv_at hl 0 rfl) ?_
    refine va_get (D := g.1) (ci := 8) (v := .int ((S8.1 24) + 1)) (C := RX8) (T := TX8) (N := 47) (pc := 143) hx hb hts (fun _ h => List.mem_cons_of_mem _ (List.mem_append_right _ h)) hown hK hP 0 rfl rfl 24 (by decide) (hts _ q_X8_test_0) (fun _ h9 => h9) rfl dX8_test_143 ?_
    refine lv_iconst (v := 1) (pc := 146) hx hb dX8_test_146 (by decide) ?_
    refine lv_isub (pc := 147) hx hb dX8_test_147 ?_
    have hf := Option.some.inj hf
    subst hf
    exact W.iret (v := (((S8.1 24) + 1) - 1)) hx hb hr (fun t ht hW => ⟨⟨_, (), rfl, rfl, by rw [ht]; exact hP, va_K.moved hW.alike hK, hD⟩, hS.F ht⟩) hS.2.2 dX8_test_148
  · have hf := ff hf c107
    refine lv_aload_n (pc := 110) hx hb dX8_test_110 rfl (lv_at hl 0 rfl) ?_
    refine va_get (D := g.1) (ci := 8) (v := .ref (g.2.2.2 8 28)) (C := RX8) (T := TX8) (N := 47) (pc := 111) hx hb hts (fun _ h => List.mem_cons_of_mem _ (List.mem_append_right _ h)) hown hK hP 0 rfl rfl 28 (by decide) (hts _ q_X8_test_1) (fun _ h9 => h9) rfl dX8_test_111 ?_
    refine lv_iconst (v := 4) (pc := 114) hx hb dX8_test_114 (by decide) ?_
    refine lv_aload_n (pc := 115) hx hb dX8_test_115 rfl (lv_at hl 0 rfl) ?_
    refine va_get (D := g.1) (ci := 8) (v := .int (S8.1 24)) (C := RX8) (T := TX8) (N := 47) (pc := 116) hx hb hts (fun _ h => List.mem_cons_of_mem _ (List.mem_append_right _ h)) hown hK hP 0 rfl rfl 24 (by decide) (hts _ q_X8_test_0) (fun _ h9 => h9) rfl dX8_test_116 ?_
    refine lv_imul (pc := 119) hx hb dX8_test_119 ?_
    refine lv_iload (pc := 120) hx hb dX8_test_120 (lv_at hl 1 rfl) ?_
    refine lv_iadd (pc := 122) hx hb dX8_test_122 ?_
    refine lv_bipush (v := 8) (pc := 123) hx hb dX8_test_123 (by decide) ?_
    obtain ⟨b125, hf⟩ := gdE hf
    refine va_iast (D := g.1) (tys := tyl g) (f := (S8.2.2 28)) (pc := 125) hx hb hK hP hD hS 19 0 rfl rfl (inbV b125) dX8_test_125 (fun H locs hP hD hS => ?_)
    have hP := u_8_8_28P S8 (upd (S8.2.2 28) (Int32.toNatClampNeg ((4 * (S8.1 24)) + x4)) 8) hP
    have hD := u_8_8_28D S8 (upd (S8.2.2 28) (Int32.toNatClampNeg ((4 * (S8.1 24)) + x4)) 8) hD
    refine lv_iinc (v := (x4 + 1)) (lv' := [(4, .int (x4 + 1)), (0, .ref (g.2.2.1 8))]) (pc := 126) hx hb dX8_test_126 hl (k := 1) rfl rfl (by decide) rfl (fun ls hl => ?_)
    refine lv_goto (tgt := 104) (pc := 129) hx hb dX8_test_129 (by decide) ?_
    exact H104 H locs (sA S8 28 (upd (S8.2.2 28) (Int32.toNatClampNeg ((4 * (S8.1 24)) + x4)) 8)) ls (x4 + 1) hP hD hS (lv_sub hl [1, 0] rfl) hf
set_option maxHeartbeats 4000000 in
set_option maxRecDepth 100000 in
theorem w_X8_test_104 {p : Program} {l : Launch} {e : Env} {s : State} {m : MethodId} {args : Array Value} {below : List Frame} {meth : Method} {c : Code} {g : En} {A : Nat → Prop} {N : Nat} {res : Int32 × St} (C : cxw g A cX8_test 5 (some .int) wsX8_test RX8 p s m args meth c) : ∀ (n : Nat), ∀ (H : Heap) (locs : List Loc) (S8 : St) (ls : Array Slot) (x4 : Int32), va_P g.1 vwCl (wd_8 g S8) H → va_D A (wd_8 g S8) → va_S A s.heap H locs → lv_has ls 5 [(0, .ref (g.2.2.1 8)), (4, .int x4)] → f_X8_test_104 N   n S8 x4 = some res → W p l e (headSpec wsX8_test { frames := 1, cells := 0, slots := 0, locals := 22 }).room s m args below meth c H locs 0 0 (MQ below (rwQi g (wd_8 g (res.2)) A (res.1)) args s 0 0 A) (F0 m 104 ls []) := by
  intro n
  induction n with
  | zero =>
    intro H locs S8 ls x4 hP hD hS hl hf
    have hf : (none : Option (Int32 × St)) = some res := hf
    cases hf
  | succ n ih =>
    intro H locs S8 ls x4 hP hD hS hl hf
    exact w_X8_test_104_b C  (fun y0 y1 => f_X8_test_104 N   n y0 y1) ih H locs S8 ls x4 hP hD hS hl hf
set_option maxHeartbeats 4000000 in
set_option maxRecDepth 100000 in
theorem w_X8_test_38 {p : Program} {l : Launch} {e : Env} {s : State} {m : MethodId} {args : Array Value} {below : List Frame} {meth : Method} {c : Code} {g : En} {A : Nat → Prop} {N : Nat} {res : Int32 × St} (C : cxw g A cX8_test 5 (some .int) wsX8_test RX8 p s m args meth c) : ∀ (H : Heap) (locs : List Loc) (S8 : St) (ls : Array Slot) (x1 : Int32) (x2 : Int32) (x3 : Int32), va_P g.1 vwCl (wd_8 g S8) H → va_D A (wd_8 g S8) → va_S A s.heap H locs → lv_has ls 5 [(0, .ref (g.2.2.1 8)), (1, .int x1), (2, .int x2), (3, .int x3)] → f_X8_test_38 N   S8 x1 x2 x3 = some res → W p l e (headSpec wsX8_test { frames := 1, cells := 0, slots := 0, locals := 22 }).room s m args below meth c H locs 0 0 (MQ below (rwQi g (wd_8 g (res.2)) A (res.1)) args s 0 0 A) (F0 m 38 ls []) := by
  intro H locs S8 ls x1 x2 x3 hP hD hS hl hf
  obtain ⟨⟨hx, hb, hr, hml, hown, hts, hlk⟩, hK, hA⟩ := id C
  unfold f_X8_test_38 at hf
  refine lv_aload_n (pc := 38) hx hb dX8_test_38 rfl (lv_at hl 0 rfl) ?_
  refine va_get (D := g.1) (ci := 8) (v := .int (S8.1 24)) (C := RX8) (T := TX8) (N := 47) (pc := 39) hx hb hts (fun _ h => List.mem_cons_of_mem _ (List.mem_append_right _ h)) hown hK hP 0 rfl rfl 24 (by decide) (hts _ q_X8_test_0) (fun _ h9 => h9) rfl dX8_test_39 ?_
  refine lv_bipush (v := 10) (pc := 42) hx hb dX8_test_42 (by decide) ?_
  refine lv_icmp_ne (tgt := 50) (pc := 44) hx hb dX8_test_44 (by decide) (fun c44 => ?_) (fun c44 => ?_)
  · have hf := ff hf c44
    refine lv_aload_n (pc := 50) hx hb dX8_test_50 rfl (lv_at hl 0 rfl) ?_
    refine va_get (D := g.1) (ci := 8) (v := .ref (g.2.2.2 8 25)) (C := RX8) (T := TX8) (N := 47) (pc := 51) hx hb hts (fun _ h => List.mem_cons_of_mem _ (List.mem_append_right _ h)) hown hK hP 0 rfl rfl 25 (by decide) (hts _ q_X8_test_2) (fun _ h9 => h9) rfl dX8_test_51 ?_
    refine lv_aload_n (pc := 54) hx hb dX8_test_54 rfl (lv_at hl 0 rfl) ?_
    refine va_get (D := g.1) (ci := 8) (v := .int (S8.1 24)) (C := RX8) (T := TX8) (N := 47) (pc := 55) hx hb hts (fun _ h => List.mem_cons_of_mem _ (List.mem_append_right _ h)) hown hK hP 0 rfl rfl 24 (by decide) (hts _ q_X8_test_0) (fun _ h9 => h9) rfl dX8_test_55 ?_
    refine lv_iload_n (pc := 58) hx hb dX8_test_58 rfl (lv_at hl 1 rfl) ?_
    obtain ⟨b59, hf⟩ := gdE hf
    refine va_iast (D := g.1) (tys := tyl g) (f := (S8.2.2 25)) (pc := 59) hx hb hK hP hD hS 16 0 rfl rfl (inbV b59) dX8_test_59 (fun H locs hP hD hS => ?_)
    have hP := u_8_8_25P S8 (upd (S8.2.2 25) (Int32.toNatClampNeg (S8.1 24)) x1) hP
    have hD := u_8_8_25D S8 (upd (S8.2.2 25) (Int32.toNatClampNeg (S8.1 24)) x1) hD
    refine lv_aload_n (pc := 60) hx hb dX8_test_60 rfl (lv_at hl 0 rfl) ?_
    refine va_get (D := g.1) (ci := 8) (v := .ref (g.2.2.2 8 26)) (C := RX8) (T := TX8) (N := 47) (pc := 61) hx hb hts (fun _ h => List.mem_cons_of_mem _ (List.mem_append_right _ h)) hown hK hP 0 rfl rfl 26 (by decide) (hts _ q_X8_test_3) (fun _ h9 => h9) rfl dX8_test_61 ?_
    refine lv_aload_n (pc := 64) hx hb dX8_test_64 rfl (lv_at hl 0 rfl) ?_
    refine va_get (D := g.1) (ci := 8) (v := .int (S8.1 24)) (C := RX8) (T := TX8) (N := 47) (pc := 65) hx hb hts (fun _ h => List.mem_cons_of_mem _ (List.mem_append_right _ h)) hown hK hP 0 rfl rfl 24 (by decide) (hts _ q_X8_test_0) (fun _ h9 => h9) rfl dX8_test_65 ?_
    refine lv_iload_n (pc := 68) hx hb dX8_test_68 rfl (lv_at hl 2 rfl) ?_
    obtain ⟨b69, hf⟩ := gdE hf
    refine va_iast (D := g.1) (tys := tyl g) (f := (S8.2.2 26)) (pc := 69) hx hb hK hP hD hS 17 0 rfl rfl (inbV b69) dX8_test_69 (fun H locs hP hD hS => ?_)
    have hP := u_8_8_26P (sA S8 25 (upd (S8.2.2 25) (Int32.toNatClampNeg (S8.1 24)) x1)) (upd (S8.2.2 26) (Int32.toNatClampNeg (S8.1 24)) x2) hP
    have hD := u_8_8_26D (sA S8 25 (upd (S8.2.2 25) (Int32.toNatClampNeg (S8.1 24)) x1)) (upd (S8.2.2 26) (Int32.toNatClampNeg (S8.1 24)) x2) hD
    refine lv_aload_n (pc := 70) hx hb dX8_test_70 rfl (lv_at hl 0 rfl) ?_
    refine va_get (D := g.1) (ci := 8) (v := .ref (g.2.2.2 8 27)) (C := RX8) (T := TX8) (N := 47) (pc := 71) hx hb hts (fun _ h => List.mem_cons_of_mem _ (List.mem_append_right _ h)) hown hK hP 0 rfl rfl 27 (by decide) (hts _ q_X8_test_4) (fun _ h9 => h9) rfl dX8_test_71 ?_
    refine lv_aload_n (pc := 74) hx hb dX8_test_74 rfl (lv_at hl 0 rfl) ?_
    refine va_get (D := g.1) (ci := 8) (v := .int (S8.1 24)) (C := RX8) (T := TX8) (N := 47) (pc := 75) hx hb hts (fun _ h => List.mem_cons_of_mem _ (List.mem_append_right _ h)) hown hK hP 0 rfl rfl 24 (by decide) (hts _ q_X8_test_0) (fun _ h9 => h9) rfl dX8_test_75 ?_
    refine lv_iload_n (pc := 78) hx hb dX8_test_78 rfl (lv_at hl 3 rfl) ?_
    obtain ⟨b79, hf⟩ := gdE hf
    refine va_iast (D := g.1) (tys := tyl g) (f := (S8.2.2 27)) (pc := 79) hx hb hK hP hD hS 18 0 rfl rfl (inbV b79) dX8_test_79 (fun H locs hP hD hS => ?_)
    have hP := u_8_8_27P (sA (sA S8 25 (upd (S8.2.2 25) (Int32.toNatClampNeg (S8.1 24)) x1)) 26 (upd (S8.2.2 26) (Int32.toNatClampNeg (S8.1 24)) x2)) (upd (S8.2.2 27) (Int32.toNatClampNeg (S8.1 24)) x3) hP
    have hD := u_8_8_27D (sA (sA S8 25 (upd (S8.2.2 25) (Int32.toNatClampNeg (S8.1 24)) x1)) 26 (upd (S8.2.2 26) (Int32.toNatClampNeg (S8.1 24)) x2)) (upd (S8.2.2 27) (Int32.toNatClampNeg (S8.1 24)) x3) hD
    refine lv_aload_n (pc := 80) hx hb dX8_test_80 rfl (lv_at hl 0 rfl) ?_
    refine va_get (D := g.1) (ci := 8) (v := .ref (g.2.2.2 8 29)) (C := RX8) (T := TX8) (N := 47) (pc := 81) hx hb hts (fun _ h => List.mem_cons_of_mem _ (List.mem_append_right _ h)) hown hK hP 0 rfl rfl 29 (by decide) (hts _ q_X8_test_5) (fun _ h9 => h9) rfl dX8_test_81 ?_
    refine lv_aload_n (pc := 84) hx hb dX8_test_84 rfl (lv_at hl 0 rfl) ?_
    refine va_get (D := g.1) (ci := 8) (v := .int (S8.1 24)) (C := RX8) (T := TX8) (N := 47) (pc := 85) hx hb hts (fun _ h => List.mem_cons_of_mem _ (List.mem_append_right _ h)) hown hK hP 0 rfl rfl 24 (by decide) (hts _ q_X8_test_0) (fun _ h9 => h9) rfl dX8_test_85 ?_
    refine lv_bipush (v := (-9)) (pc := 88) hx hb dX8_test_88 (by decide) ?_
    obtain ⟨b90, hf⟩ := gdE hf
    refine va_iast (D := g.1) (tys := tyl g) (f := (S8.2.2 29)) (pc := 90) hx hb hK hP hD hS 20 0 rfl rfl (inbV b90) dX8_test_90 (fun H locs hP hD hS => ?_)
    have hP := u_8_8_29P (sA (sA (sA S8 25 (upd (S8.2.2 25) (Int32.toNatClampNeg (S8.1 24)) x1)) 26 (upd (S8.2.2 26) (Int32.toNatClampNeg (S8.1 24)) x2)) 27 (upd (S8.2.2 27) (Int32.toNatClampNeg (S8.1 24)) x3)) (upd (S8.2.2 29) (Int32.toNatClampNeg (S8.1 24)) (-9)) hP
    have hD := u_8_8_29D (sA (sA (sA S8 25 (upd (S8.2.2 25) (Int32.toNatClampNeg (S8.1 24)) x1)) 26 (upd (S8.2.2 26) (Int32.toNatClampNeg (S8.1 24)) x2)) 27 (upd (S8.2.2 27) (Int32.toNatClampNeg (S8.1 24)) x3)) (upd (S8.2.2 29) (Int32.toNatClampNeg (S8.1 24)) (-9)) hD
    refine lv_aload_n (pc := 91) hx hb dX8_test_91 rfl (lv_at hl 0 rfl) ?_
    refine va_get (D := g.1) (ci := 8) (v := .ref (g.2.2.2 8 30)) (C := RX8) (T := TX8) (N := 47) (pc := 92) hx hb hts (fun _ h => List.mem_cons_of_mem _ (List.mem_append_right _ h)) hown hK hP 0 rfl rfl 30 (by decide) (hts _ q_X8_test_6) (fun _ h9 => h9) rfl dX8_test_92 ?_
    refine lv_aload_n (pc := 95) hx hb dX8_test_95 rfl (lv_at hl 0 rfl) ?_
    refine va_get (D := g.1) (ci := 8) (v := .int (S8.1 24)) (C := RX8) (T := TX8) (N := 47) (pc := 96) hx hb hts (fun _ h => List.mem_cons_of_mem _ (List.mem_append_right _ h)) hown hK hP 0 rfl rfl 24 (by decide) (hts _ q_X8_test_0) (fun _ h9 => h9) rfl dX8_test_96 ?_
    refine lv_iconst (v := 0) (pc := 99) hx hb dX8_test_99 (by decide) ?_
    refine lv_topi (fun v100 ev100 => ?_)
    obtain ⟨b100, hf⟩ := gdE hf
    refine va_zast (D := g.1) (tys := tyl g) (f := (S8.2.2 30)) (pc := 100) hx hb hK hP hD hS 21 2 rfl rfl (inbV b100) dX8_test_100 (fun H locs hP hD hS => ?_)
    have hP := u_8_8_30P (sA (sA (sA (sA S8 25 (upd (S8.2.2 25) (Int32.toNatClampNeg (S8.1 24)) x1)) 26 (upd (S8.2.2 26) (Int32.toNatClampNeg (S8.1 24)) x2)) 27 (upd (S8.2.2 27) (Int32.toNatClampNeg (S8.1 24)) x3)) 29 (upd (S8.2.2 29) (Int32.toNatClampNeg (S8.1 24)) (-9))) (upd (S8.2.2 30) (Int32.toNatClampNeg (S8.1 24)) (vp_nar .boolean v100)) hP
    have hD := u_8_8_30D (sA (sA (sA (sA S8 25 (upd (S8.2.2 25) (Int32.toNatClampNeg (S8.1 24)) x1)) 26 (upd (S8.2.2 26) (Int32.toNatClampNeg (S8.1 24)) x2)) 27 (upd (S8.2.2 27) (Int32.toNatClampNeg (S8.1 24)) x3)) 29 (upd (S8.2.2 29) (Int32.toNatClampNeg (S8.1 24)) (-9))) (upd (S8.2.2 30) (Int32.toNatClampNeg (S8.1 24)) (vp_nar .boolean v100)) hD
    subst ev100
    refine lv_iconst (v := 0) (pc := 101) hx hb dX8_test_101 (by decide) ?_
    refine lv_istore (lv' := [(4, .int 0), (0, .ref (g.2.2.1 8)), (1, .int x1), (2, .int x2), (3, .int x3)]) (pc := 102) hx hb dX8_test_102 hl (by decide) rfl (fun ls hl => ?_)
    exact w_X8_test_104 C  N H locs (sA (sA (sA (sA (sA S8 25 (upd (S8.2.2 25) (Int32.toNatClampNeg (S8.1 24)) x1)) 26 (upd (S8.2.2 26) (Int32.toNatClampNeg (S8.1 24)) x2)) 27 (upd (S8.2.2 27) (Int32.toNatClampNeg (S8.1 24)) x3)) 29 (upd (S8.2.2 29) (Int32.toNatClampNeg (S8.1 24)) (-9))) 30 (upd (S8.2.2 30) (Int32.toNatClampNeg (S8.1 24)) (vp_nar .boolean 0))) ls 0 hP hD hS (lv_sub hl [1, 0] rfl) hf
  · have hf := ft hf c44
    refine lv_bipush (v := (-2)) (pc := 47) hx hb dX8_test_47 (by decide) ?_
    have hf := Option.some.inj hf
    subst hf
    exact W.iret (v := (-2)) hx hb hr (fun t ht hW => ⟨⟨_, (), rfl, rfl, by rw [ht]; exact hP, va_K.moved hW.alike hK, hD⟩, hS.F ht⟩) hS.2.2 dX8_test_49
set_option maxHeartbeats 4000000 in
set_option maxRecDepth 100000 in
theorem c_X8_test (l : Launch) (g : En) (N : Nat) (sz : Nat) (S8 : St) (x1 : Int32) (x2 : Int32) (x3 : Int32) (res : Int32 × St) (hf : f_X8_test N S8 x1 x2 x3 = some res) : Met l yX8_test wsX8_test { frames := 1, cells := 0, slots := 0, locals := 22 } (rwP g (wd_8 g S8) sz [.ref (g.2.2.1 8), .int x1, .int x2, .int x3]) (rwQi g (wd_8 g (res.2)) (va_A (wd_8 g S8) sz) (res.1)) 0 0 (va_A (wd_8 g S8) sz) := by
  refine Met.ofW (cc := cX8_test) (maxL := 5) (ret := (some .int)) (by decide) rfl ?_
  intro p e s m args below meth c s₁ B hml hv
  obtain ⟨rfl, hsz, hP, hK, hD0⟩ := hv
  have hx := B.exec
  have hb := B.bytes
  have hr := B.returns
  have hts := atoms_spec (ws := wsX8_test) B.pre
  have hown : s.vm.findClass RX8 = some m.cls := findClass_of_methodNamed B.named
  have hlk := B.notSynchronized
  subst hsz
  have hD := hD0.self (sz := s.heap.size)
  generalize hAe : va_A (wd_8 g S8) s.heap.size = A at hD ⊢
  have hA : ∀ q : Nat, s.heap.size ≤ q → A q := fun q h => by rw [← hAe]; exact Or.inr h
  have hS : va_S A s.heap s.heap [] := va_S.rf
  have C : cxw g A cX8_test 5 (some .int) wsX8_test RX8 p s m ([.ref (g.2.2.1 8), .int x1, .int x2, .int x3] : List Value).toArray meth c := ⟨⟨hx, hb, hr, hml, hown, hts, hlk⟩, hK, hA⟩
  have hl := lv_entry [.ref (g.2.2.1 8), .int x1, .int x2, .int x3] (n := 5) (Nat.le_of_ble_eq_true rfl)
  rw [lg_entry_eq]
  generalize (lg_sl [.ref (g.2.2.1 8), .int x1, .int x2, .int x3] ++ List.replicate (5 - (lg_sl [.ref (g.2.2.1 8), .int x1, .int x2, .int x3]).length) Slot.unset).toArray = ls at hl ⊢
  have hl : lv_has ls 5 [(0, .ref (g.2.2.1 8)), (1, .int x1), (2, .int x2), (3, .int x3)] := hl
  unfold f_X8_test at hf
  suffices K9 : ∀ (H : Heap) (locs : List Loc), va_P g.1 vwCl (wd_8 g S8) H → va_D A (wd_8 g S8) → va_S A s.heap H locs → ((f_X8_in N x1 1 1000).bind (fun r5 => (if r5 = 0 then some ((-1), S8) else ((f_X8_in N x2 0 9).bind (fun r15 => (if r15 = 0 then some ((-1), S8) else (if x3 = (-9) then (f_X8_test_38 N   S8 x1 x2 x3) else ((f_X8_in N x3 0 3).bind (fun r30 => (if r30 = 0 then some ((-1), S8) else (f_X8_test_38 N   S8 x1 x2 x3))))))))))) = some res → W p l e (headSpec wsX8_test { frames := 1, cells := 0, slots := 0, locals := 22 }).room s m ([.ref (g.2.2.1 8), .int x1, .int x2, .int x3] : List Value).toArray below meth c H locs 0 0 (MQ below (rwQi g (wd_8 g (res.2)) A (res.1)) ([.ref (g.2.2.1 8), .int x1, .int x2, .int x3] : List Value).toArray s 0 0 A) (F0 m 0 ls []) from K9 s.heap [] hP hD hS hf
  clear hP hD hS hf
  intro H locs hP hD hS hf
  refine lv_iload_n (pc := 0) hx hb dX8_test_0 rfl (lv_at hl 1 rfl) ?_
  refine lv_iconst (v := 1) (pc := 1) hx hb dX8_test_1 (by decide) ?_
  refine lv_sipush (v := 1000) (pc := 2) hx hb dX8_test_2 (by decide) ?_
  obtain ⟨r5, e5, hf⟩ := bdE hf
  refine ksI (pc := 5) (As := [.int x1, .int 1, .int 1000]) (rest := []) ⟨hx, hb, hml, hown, hts⟩ (c_X8_in l N x1 1 1000 r5 e5) (va_cwS 3 hts gX8_test_X8_in rfl rfl rfl h_X8_in ⟨Nat.le_of_ble_eq_true rfl, Nat.le_of_ble_eq_true rfl⟩) rfl hl.1 rfl (Nat.le_of_ble_eq_true rfl) dX8_test_5 ⟨Nat.zero_le _, Nat.zero_le _⟩ ?_
  refine lv_if_eq (tgt := 36) (pc := 8) hx hb dX8_test_8 (by decide) (fun c8 => ?_) (fun c8 => ?_)
  · have hf := ft hf c8
    refine lv_iconst (v := (-1)) (pc := 36) hx hb dX8_test_36 (by decide) ?_
    have hf := Option.some.inj hf
    subst hf
    exact W.iret (v := (-1)) hx hb hr (fun t ht hW => ⟨⟨_, (), rfl, rfl, by rw [ht]; exact hP, va_K.moved hW.alike hK, hD⟩, hS.F ht⟩) hS.2.2 dX8_test_37
  · have hf := ff hf c8
    refine lv_iload_n (pc := 11) hx hb dX8_test_11 rfl (lv_at hl 2 rfl) ?_
    refine lv_iconst (v := 0) (pc := 12) hx hb dX8_test_12 (by decide) ?_
    refine lv_bipush (v := 9) (pc := 13) hx hb dX8_test_13 (by decide) ?_
    obtain ⟨r15, e15, hf⟩ := bdE hf
    refine ksI (pc := 15) (As := [.int x2, .int 0, .int 9]) (rest := []) ⟨hx, hb, hml, hown, hts⟩ (c_X8_in l N x2 0 9 r15 e15) (va_cwS 3 hts gX8_test_X8_in rfl rfl rfl h_X8_in ⟨Nat.le_of_ble_eq_true rfl, Nat.le_of_ble_eq_true rfl⟩) rfl hl.1 rfl (Nat.le_of_ble_eq_true rfl) dX8_test_15 ⟨Nat.zero_le _, Nat.zero_le _⟩ ?_
    refine lv_if_eq (tgt := 36) (pc := 18) hx hb dX8_test_18 (by decide) (fun c18 => ?_) (fun c18 => ?_)
    · have hf := ft hf c18
      refine lv_iconst (v := (-1)) (pc := 36) hx hb dX8_test_36 (by decide) ?_
      have hf := Option.some.inj hf
      subst hf
      exact W.iret (v := (-1)) hx hb hr (fun t ht hW => ⟨⟨_, (), rfl, rfl, by rw [ht]; exact hP, va_K.moved hW.alike hK, hD⟩, hS.F ht⟩) hS.2.2 dX8_test_37
    · have hf := ff hf c18
      refine lv_iload_n (pc := 21) hx hb dX8_test_21 rfl (lv_at hl 3 rfl) ?_
      refine lv_bipush (v := (-9)) (pc := 22) hx hb dX8_test_22 (by decide) ?_
      refine lv_icmp_eq (tgt := 38) (pc := 24) hx hb dX8_test_24 (by decide) (fun c24 => ?_) (fun c24 => ?_)
      · have hf := ft hf c24
        exact w_X8_test_38 C  H locs S8 ls x1 x2 x3 hP hD hS (lv_sub hl [0, 1, 2, 3] rfl) hf
      · have hf := ff hf c24
        refine lv_iload_n (pc := 27) hx hb dX8_test_27 rfl (lv_at hl 3 rfl) ?_
        refine lv_iconst (v := 0) (pc := 28) hx hb dX8_test_28 (by decide) ?_
        refine lv_iconst (v := 3) (pc := 29) hx hb dX8_test_29 (by decide) ?_
        obtain ⟨r30, e30, hf⟩ := bdE hf
        refine ksI (pc := 30) (As := [.int x3, .int 0, .int 3]) (rest := []) ⟨hx, hb, hml, hown, hts⟩ (c_X8_in l N x3 0 3 r30 e30) (va_cwS 3 hts gX8_test_X8_in rfl rfl rfl h_X8_in ⟨Nat.le_of_ble_eq_true rfl, Nat.le_of_ble_eq_true rfl⟩) rfl hl.1 rfl (Nat.le_of_ble_eq_true rfl) dX8_test_30 ⟨Nat.zero_le _, Nat.zero_le _⟩ ?_
        refine lv_if_ne (tgt := 38) (pc := 33) hx hb dX8_test_33 (by decide) (fun c33 => ?_) (fun c33 => ?_)
        · have hf := ff hf c33
          exact w_X8_test_38 C  H locs S8 ls x1 x2 x3 hP hD hS (lv_sub hl [0, 1, 2, 3] rfl) hf
        · have hf := ft hf c33
          refine lv_iconst (v := (-1)) (pc := 36) hx hb dX8_test_36 (by decide) ?_
          have hf := Option.some.inj hf
          subst hf
          exact W.iret (v := (-1)) hx hb hr (fun t ht hW => ⟨⟨_, (), rfl, rfl, by rw [ht]; exact hP, va_K.moved hW.alike hK, hD⟩, hS.F ht⟩) hS.2.2 dX8_test_37
theorem q_X8_often_0 : (.fieldLink RX8 68 "PictureCourtModel" "testOut" "[I" : Cond) ∈ wsX8_often := by decide +kernel
theorem q_X8_often_1 : (.fieldLink RX8 65 "PictureCourtModel" "testOften" "[I" : Cond) ∈ wsX8_often := by decide +kernel
theorem h_X8_often : yX8_often.cls = RX8 ∧ yX8_often.cls ≠ "java/lang/invoke/MethodHandle" ∧ yX8_often.cls ≠ "java/lang/invoke/VarHandle" ∧ (parseMethodDescriptor yX8_often.desc).map (fun d => d.parameters.length) = some 3 := by decide +kernel
set_option maxHeartbeats 4000000 in
set_option maxRecDepth 100000 in
theorem c_X8_often (l : Launch) (g : En) (N : Nat) (sz : Nat) (S8 : St) (x1 : Int32) (x2 : Int32) (x3 : Int32) (res : Int32 × St) (hf : f_X8_often N S8 x1 x2 x3 = some res) : Met l yX8_often wsX8_often { frames := 2, cells := 0, slots := 0, locals := 43 } (rwP g (wd_8 g S8) sz [.ref (g.2.2.1 8), .int x1, .int x2, .int x3]) (rwQi g (wd_8 g (res.2)) (va_A (wd_8 g S8) sz) (res.1)) 0 0 (va_A (wd_8 g S8) sz) := by
  refine Met.ofW (cc := cX8_often) (maxL := 5) (ret := (some .int)) (by decide) rfl ?_
  intro p e s m args below meth c s₁ B hml hv
  obtain ⟨rfl, hsz, hP, hK, hD0⟩ := hv
  have hx := B.exec
  have hb := B.bytes
  have hr := B.returns
  have hts := atoms_spec (ws := wsX8_often) B.pre
  have hown : s.vm.findClass RX8 = some m.cls := findClass_of_methodNamed B.named
  have hlk := B.notSynchronized
  subst hsz
  have hD := hD0.self (sz := s.heap.size)
  generalize hAe : va_A (wd_8 g S8) s.heap.size = A at hD ⊢
  have hA : ∀ q : Nat, s.heap.size ≤ q → A q := fun q h => by rw [← hAe]; exact Or.inr h
  have hS : va_S A s.heap s.heap [] := va_S.rf
  have C : cxw g A cX8_often 5 (some .int) wsX8_often RX8 p s m ([.ref (g.2.2.1 8), .int x1, .int x2, .int x3] : List Value).toArray meth c := ⟨⟨hx, hb, hr, hml, hown, hts, hlk⟩, hK, hA⟩
  have hl := lv_entry [.ref (g.2.2.1 8), .int x1, .int x2, .int x3] (n := 5) (Nat.le_of_ble_eq_true rfl)
  rw [lg_entry_eq]
  generalize (lg_sl [.ref (g.2.2.1 8), .int x1, .int x2, .int x3] ++ List.replicate (5 - (lg_sl [.ref (g.2.2.1 8), .int x1, .int x2, .int x3]).length) Slot.unset).toArray = ls at hl ⊢
  have hl : lv_has ls 5 [(0, .ref (g.2.2.1 8)), (1, .int x1), (2, .int x2), (3, .int x3)] := hl
  unfold f_X8_often at hf
  suffices K9 : ∀ (H : Heap) (locs : List Loc), va_P g.1 vwCl (wd_8 g S8) H → va_D A (wd_8 g S8) → va_S A s.heap H locs → ((f_X8_isTest N S8 x1).bind (fun r2 => (if r2 = 0 then some ((-1), S8) else ((f_X8_isHand N x2).bind (fun r9 => (if r9 = 0 then some ((-1), S8) else ((f_X8_in N x3 0 16).bind (fun r19 => (if r19 = 0 then some ((-1), S8) else (if inb x1 10 = true then (if ((S8.2.2 29) (Int32.toNatClampNeg x1)) = (-9) then (if inb ((4 * x1) + x2) 40 = true then (if inb ((4 * x1) + x2) 40 = true then some (((S8.2.2 28) (Int32.toNatClampNeg ((4 * x1) + x2))), (sA S8 28 (upd (S8.2.2 28) (Int32.toNatClampNeg ((4 * x1) + x2)) x3))) else none) else none) else some ((-4), S8)) else none)))))))))) = some res → W p l e (headSpec wsX8_often { frames := 2, cells := 0, slots := 0, locals := 43 }).room s m ([.ref (g.2.2.1 8), .int x1, .int x2, .int x3] : List Value).toArray below meth c H locs 0 0 (MQ below (rwQi g (wd_8 g (res.2)) A (res.1)) ([.ref (g.2.2.1 8), .int x1, .int x2, .int x3] : List Value).toArray s 0 0 A) (F0 m 0 ls []) from K9 s.heap [] hP hD hS hf
  clear hP hD hS hf
  intro H locs hP hD hS hf
  refine lv_aload_n (pc := 0) hx hb dX8_often_0 rfl (lv_at hl 0 rfl) ?_
  refine lv_iload_n (pc := 1) hx hb dX8_often_1 rfl (lv_at hl 1 rfl) ?_
  obtain ⟨r2, e2, hf⟩ := bdE hf
  refine krI (g := g) (wc := (wd_8 g S8)) (pc := 2) (As := [.int x1]) (rest := []) ⟨hx, hb, hml, hown, hts⟩ (c_X8_isTest l g N S8 x1 r2 e2) (cwV 1 hts gX8_often_X8_isTest rfl rfl rfl h_X8_isTest ⟨Nat.le_of_ble_eq_true rfl, Nat.le_of_ble_eq_true rfl⟩) hK hP rfl rfl rfl hl.1 rfl (Nat.le_of_ble_eq_true rfl) dX8_often_2 ⟨Nat.zero_le _, Nat.zero_le _⟩ ?_
  refine lv_if_eq (tgt := 25) (pc := 5) hx hb dX8_often_5 (by decide) (fun c5 => ?_) (fun c5 => ?_)
  · have hf := ft hf c5
    refine lv_iconst (v := (-1)) (pc := 25) hx hb dX8_often_25 (by decide) ?_
    have hf := Option.some.inj hf
    subst hf
    exact W.iret (v := (-1)) hx hb hr (fun t ht hW => ⟨⟨_, (), rfl, rfl, by rw [ht]; exact hP, va_K.moved hW.alike hK, hD⟩, hS.F ht⟩) hS.2.2 dX8_often_26
  · have hf := ff hf c5
    refine lv_iload_n (pc := 8) hx hb dX8_often_8 rfl (lv_at hl 2 rfl) ?_
    obtain ⟨r9, e9, hf⟩ := bdE hf
    refine ksI (pc := 9) (As := [.int x2]) (rest := []) ⟨hx, hb, hml, hown, hts⟩ (c_X8_isHand l N x2 r9 e9) (va_cwS 1 hts gX8_often_X8_isHand rfl rfl rfl h_X8_isHand ⟨Nat.le_of_ble_eq_true rfl, Nat.le_of_ble_eq_true rfl⟩) rfl hl.1 rfl (Nat.le_of_ble_eq_true rfl) dX8_often_9 ⟨Nat.zero_le _, Nat.zero_le _⟩ ?_
    refine lv_if_eq (tgt := 25) (pc := 12) hx hb dX8_often_12 (by decide) (fun c12 => ?_) (fun c12 => ?_)
    · have hf := ft hf c12
      refine lv_iconst (v := (-1)) (pc := 25) hx hb dX8_often_25 (by decide) ?_
      have hf := Option.some.inj hf
      subst hf
      exact W.iret (v := (-1)) hx hb hr (fun t ht hW => ⟨⟨_, (), rfl, rfl, by rw [ht]; exact hP, va_K.moved hW.alike hK, hD⟩, hS.F ht⟩) hS.2.2 dX8_often_26
    · have hf := ff hf c12
      refine lv_iload_n (pc := 15) hx hb dX8_often_15 rfl (lv_at hl 3 rfl) ?_
      refine lv_iconst (v := 0) (pc := 16) hx hb dX8_often_16 (by decide) ?_
      refine lv_bipush (v := 16) (pc := 17) hx hb dX8_often_17 (by decide) ?_
      obtain ⟨r19, e19, hf⟩ := bdE hf
      refine ksI (pc := 19) (As := [.int x3, .int 0, .int 16]) (rest := []) ⟨hx, hb, hml, hown, hts⟩ (c_X8_in l N x3 0 16 r19 e19) (va_cwS 3 hts gX8_often_X8_in rfl rfl rfl h_X8_in ⟨Nat.le_of_ble_eq_true rfl, Nat.le_of_ble_eq_true rfl⟩) rfl hl.1 rfl (Nat.le_of_ble_eq_true rfl) dX8_often_19 ⟨Nat.zero_le _, Nat.zero_le _⟩ ?_
      refine lv_if_ne (tgt := 27) (pc := 22) hx hb dX8_often_22 (by decide) (fun c22 => ?_) (fun c22 => ?_)
      · have hf := ff hf c22
        refine lv_aload_n (pc := 27) hx hb dX8_often_27 rfl (lv_at hl 0 rfl) ?_
        refine va_get (D := g.1) (ci := 8) (v := .ref (g.2.2.2 8 29)) (C := RX8) (T := TX8) (N := 47) (pc := 28) hx hb hts (fun _ h => List.mem_cons_of_mem _ (List.mem_append_right _ h)) hown hK hP 0 rfl rfl 29 (by decide) (hts _ q_X8_often_0) (fun _ h9 => h9) rfl dX8_often_28 ?_
        refine lv_iload_n (pc := 31) hx hb dX8_often_31 rfl (lv_at hl 1 rfl) ?_
        obtain ⟨b32, hf⟩ := gdE hf
        refine va_iald (D := g.1) (tys := tyl g) (f := (S8.2.2 29)) (pc := 32) hx hb hK hP 20 0 rfl rfl (inbV b32) dX8_often_32 ?_
        refine lv_bipush (v := (-9)) (pc := 33) hx hb dX8_often_33 (by decide) ?_
        refine lv_icmp_eq (tgt := 41) (pc := 35) hx hb dX8_often_35 (by decide) (fun c35 => ?_) (fun c35 => ?_)
        · have hf := ft hf c35
          refine lv_aload_n (pc := 41) hx hb dX8_often_41 rfl (lv_at hl 0 rfl) ?_
          refine va_get (D := g.1) (ci := 8) (v := .ref (g.2.2.2 8 28)) (C := RX8) (T := TX8) (N := 47) (pc := 42) hx hb hts (fun _ h => List.mem_cons_of_mem _ (List.mem_append_right _ h)) hown hK hP 0 rfl rfl 28 (by decide) (hts _ q_X8_often_1) (fun _ h9 => h9) rfl dX8_often_42 ?_
          refine lv_iconst (v := 4) (pc := 45) hx hb dX8_often_45 (by decide) ?_
          refine lv_iload_n (pc := 46) hx hb dX8_often_46 rfl (lv_at hl 1 rfl) ?_
          refine lv_imul (pc := 47) hx hb dX8_often_47 ?_
          refine lv_iload_n (pc := 48) hx hb dX8_often_48 rfl (lv_at hl 2 rfl) ?_
          refine lv_iadd (pc := 49) hx hb dX8_often_49 ?_
          obtain ⟨b50, hf⟩ := gdE hf
          refine va_iald (D := g.1) (tys := tyl g) (f := (S8.2.2 28)) (pc := 50) hx hb hK hP 19 0 rfl rfl (inbV b50) dX8_often_50 ?_
          refine lv_istore (lv' := [(4, .int ((S8.2.2 28) (Int32.toNatClampNeg ((4 * x1) + x2)))), (0, .ref (g.2.2.1 8)), (1, .int x1), (2, .int x2), (3, .int x3)]) (pc := 51) hx hb dX8_often_51 hl (by decide) rfl (fun ls hl => ?_)
          refine lv_aload_n (pc := 53) hx hb dX8_often_53 rfl (lv_at hl 1 rfl) ?_
          refine va_get (D := g.1) (ci := 8) (v := .ref (g.2.2.2 8 28)) (C := RX8) (T := TX8) (N := 47) (pc := 54) hx hb hts (fun _ h => List.mem_cons_of_mem _ (List.mem_append_right _ h)) hown hK hP 0 rfl rfl 28 (by decide) (hts _ q_X8_often_1) (fun _ h9 => h9) rfl dX8_often_54 ?_
          refine lv_iconst (v := 4) (pc := 57) hx hb dX8_often_57 (by decide) ?_
          refine lv_iload_n (pc := 58) hx hb dX8_often_58 rfl (lv_at hl 2 rfl) ?_
          refine lv_imul (pc := 59) hx hb dX8_often_59 ?_
          refine lv_iload_n (pc := 60) hx hb dX8_often_60 rfl (lv_at hl 3 rfl) ?_
          refine lv_iadd (pc := 61) hx hb dX8_often_61 ?_
          refine lv_iload_n (pc := 62) hx hb dX8_often_62 rfl (lv_at hl 4 rfl) ?_
          obtain ⟨b63, hf⟩ := gdE hf
          refine va_iast (D := g.1) (tys := tyl g) (f := (S8.2.2 28)) (pc := 63) hx hb hK hP hD hS 19 0 rfl rfl (inbV b63) dX8_often_63 (fun H locs hP hD hS => ?_)
          have hP := u_8_8_28P S8 (upd (S8.2.2 28) (Int32.toNatClampNeg ((4 * x1) + x2)) x3) hP
          have hD := u_8_8_28D S8 (upd (S8.2.2 28) (Int32.toNatClampNeg ((4 * x1) + x2)) x3) hD
          refine lv_iload (pc := 64) hx hb dX8_often_64 (lv_at hl 0 rfl) ?_
          have hf := Option.some.inj hf
          subst hf
          exact W.iret (v := ((S8.2.2 28) (Int32.toNatClampNeg ((4 * x1) + x2)))) hx hb hr (fun t ht hW => ⟨⟨_, (), rfl, rfl, by rw [ht]; exact hP, va_K.moved hW.alike hK, hD⟩, hS.F ht⟩) hS.2.2 dX8_often_66
        · have hf := ff hf c35
          refine lv_bipush (v := (-4)) (pc := 38) hx hb dX8_often_38 (by decide) ?_
          have hf := Option.some.inj hf
          subst hf
          exact W.iret (v := (-4)) hx hb hr (fun t ht hW => ⟨⟨_, (), rfl, rfl, by rw [ht]; exact hP, va_K.moved hW.alike hK, hD⟩, hS.F ht⟩) hS.2.2 dX8_often_40
      · have hf := ft hf c22
        refine lv_iconst (v := (-1)) (pc := 25) hx hb dX8_often_25 (by decide) ?_
        have hf := Option.some.inj hf
        subst hf
        exact W.iret (v := (-1)) hx hb hr (fun t ht hW => ⟨⟨_, (), rfl, rfl, by rw [ht]; exact hP, va_K.moved hW.alike hK, hD⟩, hS.F ht⟩) hS.2.2 dX8_often_26
theorem q_X8_isGroupDone_0 : (.fieldLink RX8 198 "PictureCourtModel" "tests" "I" : Cond) ∈ wsX8_isGroupDone := by decide +kernel
theorem q_X8_isGroupDone_1 : (.fieldLink RX8 62 "PictureCourtModel" "testGroup" "[I" : Cond) ∈ wsX8_isGroupDone := by decide +kernel
theorem q_X8_isGroupDone_2 : (.fieldLink RX8 68 "PictureCourtModel" "testOut" "[I" : Cond) ∈ wsX8_isGroupDone := by decide +kernel
theorem h_X8_isGroupDone : yX8_isGroupDone.cls = RX8 ∧ yX8_isGroupDone.cls ≠ "java/lang/invoke/MethodHandle" ∧ yX8_isGroupDone.cls ≠ "java/lang/invoke/VarHandle" ∧ (parseMethodDescriptor yX8_isGroupDone.desc).map (fun d => d.parameters.length) = some 1 := by decide +kernel
set_option maxHeartbeats 4000000 in
set_option maxRecDepth 100000 in
theorem w_X8_isGroupDone_58 {p : Program} {l : Launch} {e : Env} {s : State} {m : MethodId} {args : Array Value} {below : List Frame} {meth : Method} {c : Code} {g : En} {N : Nat} {S8 : St} {res : Int32} (C : cxr g (wd_8 g S8) cX8_isGroupDone 4 (some .boolean) wsX8_isGroupDone RX8 p s m args meth c) (k4 : Int32 → Int32 → Int32 → Option (Int32)) (H4 : ∀ (ls : Array Slot) (x1 : Int32) (x2 : Int32) (x3 : Int32), lv_has ls 4 [(0, .ref (g.2.2.1 8)), (1, .int x1), (2, .int x2), (3, .int x3)] → k4 x1 x2 x3 = some res → W p l e (headSpec wsX8_isGroupDone { frames := 0, cells := 0, slots := 0, locals := 0 }).room s m args below meth c s.heap [] 0 0 (MQ below (vp_Si (fun r => r = res)) args s 0 0 (fun _ => False)) (F0 m 4 ls [])) : ∀ (ls : Array Slot) (x1 : Int32) (x3 : Int32) (t0 : Int32), lv_has ls 4 [(0, .ref (g.2.2.1 8)), (1, .int x1), (3, .int x3)] → f_X8_isGroupDone_58 N S8 k4 x1 x3 t0 = some res → W p l e (headSpec wsX8_isGroupDone { frames := 0, cells := 0, slots := 0, locals := 0 }).room s m args below meth c s.heap [] 0 0 (MQ below (vp_Si (fun r => r = res)) args s 0 0 (fun _ => False)) (F0 m 58 ls [.int t0]) := by
  intro ls x1 x3 t0 hl hf
  obtain ⟨⟨hx, hb, hr, hml, hown, hts, hlk⟩, hK, hP⟩ := id C
  unfold f_X8_isGroupDone_58 at hf
  refine lv_istore_n (lv' := [(2, .int t0), (0, .ref (g.2.2.1 8)), (1, .int x1), (3, .int x3)]) (pc := 58) hx hb dX8_isGroupDone_58 rfl hl (by decide) rfl (fun ls hl => ?_)
  refine lv_iinc (v := (x3 + 1)) (lv' := [(3, .int (x3 + 1)), (2, .int t0), (0, .ref (g.2.2.1 8)), (1, .int x1)]) (pc := 59) hx hb dX8_isGroupDone_59 hl (k := 3) rfl rfl (by decide) rfl (fun ls hl => ?_)
  refine lv_goto (tgt := 4) (pc := 62) hx hb dX8_isGroupDone_62 (by decide) ?_
  exact H4 ls x1 t0 (x3 + 1) (lv_sub hl [2, 3, 1, 0] rfl) hf
set_option maxHeartbeats 4000000 in
set_option maxRecDepth 100000 in
theorem w_X8_isGroupDone_53 {p : Program} {l : Launch} {e : Env} {s : State} {m : MethodId} {args : Array Value} {below : List Frame} {meth : Method} {c : Code} {g : En} {N : Nat} {S8 : St} {res : Int32} (C : cxr g (wd_8 g S8) cX8_isGroupDone 4 (some .boolean) wsX8_isGroupDone RX8 p s m args meth c) (k4 : Int32 → Int32 → Int32 → Option (Int32)) (H4 : ∀ (ls : Array Slot) (x1 : Int32) (x2 : Int32) (x3 : Int32), lv_has ls 4 [(0, .ref (g.2.2.1 8)), (1, .int x1), (2, .int x2), (3, .int x3)] → k4 x1 x2 x3 = some res → W p l e (headSpec wsX8_isGroupDone { frames := 0, cells := 0, slots := 0, locals := 0 }).room s m args below meth c s.heap [] 0 0 (MQ below (vp_Si (fun r => r = res)) args s 0 0 (fun _ => False)) (F0 m 4 ls [])) : ∀ (ls : Array Slot) (x1 : Int32) (x3 : Int32), lv_has ls 4 [(0, .ref (g.2.2.1 8)), (1, .int x1), (3, .int x3)] → f_X8_isGroupDone_53 N S8 k4 x1 x3 = some res → W p l e (headSpec wsX8_isGroupDone { frames := 0, cells := 0, slots := 0, locals := 0 }).room s m args below meth c s.heap [] 0 0 (MQ below (vp_Si (fun r => r = res)) args s 0 0 (fun _ => False)) (F0 m 53 ls []) := by
  intro ls x1 x3 hl hf
  obtain ⟨⟨hx, hb, hr, hml, hown, hts, hlk⟩, hK, hP⟩ := id C
  unfold f_X8_isGroupDone_53 at hf
  refine lv_iconst (v := 1) (pc := 53) hx hb dX8_isGroupDone_53 (by decide) ?_
  refine lv_goto (tgt := 58) (pc := 54) hx hb dX8_isGroupDone_54 (by decide) ?_
  exact w_X8_isGroupDone_58 C k4 H4 ls x1 x3 1 (lv_sub hl [0, 1, 2] rfl) hf
set_option maxHeartbeats 4000000 in
set_option maxRecDepth 100000 in
theorem w_X8_isGroupDone_57 {p : Program} {l : Launch} {e : Env} {s : State} {m : MethodId} {args : Array Value} {below : List Frame} {meth : Method} {c : Code} {g : En} {N : Nat} {S8 : St} {res : Int32} (C : cxr g (wd_8 g S8) cX8_isGroupDone 4 (some .boolean) wsX8_isGroupDone RX8 p s m args meth c) (k4 : Int32 → Int32 → Int32 → Option (Int32)) (H4 : ∀ (ls : Array Slot) (x1 : Int32) (x2 : Int32) (x3 : Int32), lv_has ls 4 [(0, .ref (g.2.2.1 8)), (1, .int x1), (2, .int x2), (3, .int x3)] → k4 x1 x2 x3 = some res → W p l e (headSpec wsX8_isGroupDone { frames := 0, cells := 0, slots := 0, locals := 0 }).room s m args below meth c s.heap [] 0 0 (MQ below (vp_Si (fun r => r = res)) args s 0 0 (fun _ => False)) (F0 m 4 ls [])) : ∀ (ls : Array Slot) (x1 : Int32) (x3 : Int32), lv_has ls 4 [(0, .ref (g.2.2.1 8)), (1, .int x1), (3, .int x3)] → f_X8_isGroupDone_57 N S8 k4 x1 x3 = some res → W p l e (headSpec wsX8_isGroupDone { frames := 0, cells := 0, slots := 0, locals := 0 }).room s m args below meth c s.heap [] 0 0 (MQ below (vp_Si (fun r => r = res)) args s 0 0 (fun _ => False)) (F0 m 57 ls []) := by
  intro ls x1 x3 hl hf
  obtain ⟨⟨hx, hb, hr, hml, hown, hts, hlk⟩, hK, hP⟩ := id C
  unfold f_X8_isGroupDone_57 at hf
  refine lv_iconst (v := 0) (pc := 57) hx hb dX8_isGroupDone_57 (by decide) ?_
  exact w_X8_isGroupDone_58 C k4 H4 ls x1 x3 0 (lv_sub hl [0, 1, 2] rfl) hf
set_option maxHeartbeats 4000000 in
set_option maxRecDepth 100000 in
theorem w_X8_isGroupDone_4_b {p : Program} {l : Launch} {e : Env} {s : State} {m : MethodId} {args : Array Value} {below : List Frame} {meth : Method} {c : Code} {g : En} {N : Nat} {S8 : St} {res : Int32} (C : cxr g (wd_8 g S8) cX8_isGroupDone 4 (some .boolean) wsX8_isGroupDone RX8 p s m args meth c) (k4 : Int32 → Int32 → Int32 → Option (Int32)) (H4 : ∀ (ls : Array Slot) (x1 : Int32) (x2 : Int32) (x3 : Int32), lv_has ls 4 [(0, .ref (g.2.2.1 8)), (1, .int x1), (2, .int x2), (3, .int x3)] → k4 x1 x2 x3 = some res → W p l e (headSpec wsX8_isGroupDone { frames := 0, cells := 0, slots := 0, locals := 0 }).room s m args below meth c s.heap [] 0 0 (MQ below (vp_Si (fun r => r = res)) args s 0 0 (fun _ => False)) (F0 m 4 ls [])) : ∀ (ls : Array Slot) (x1 : Int32) (x2 : Int32) (x3 : Int32), lv_has ls 4 [(0, .ref (g.2.2.1 8)), (1, .int x1), (2, .int x2), (3, .int x3)] → f_X8_isGroupDone_4_b N S8  k4 x1 x2 x3 = some res → W p l e (headSpec wsX8_isGroupDone { frames := 0, cells := 0, slots := 0, locals := 0 }).room s m args below meth c s.heap [] 0 0 (MQ below (vp_Si (fun r => r = res)) args s 0 0 (fun _ => False)) (F0 m 4 ls []) := by
  intro ls x1 x2 x3 hl hf
  obtain ⟨⟨hx, hb, hr, hml, hown, hts, hlk⟩, hK, hP⟩ := id C
  unfold f_X8_isGroupDone_4_b at hf
  refine lv_iload_n (pc := 4) hx hb dX8_isGroupDone_4 rfl (lv_at hl 3 rfl) ?_
  refine lv_aload_n (pc := 5) hx hb dX8_isGroupDone_5 rfl (lv_at hl 0 rfl) ?_
  refine va_get (D := g.1) (ci := 8) (v := .int (S8.1 24)) (C := RX8) (T := TX8) (N := 47) (pc := 6) hx hb hts (fun _ h => List.mem_cons_of_mem _ (List.mem_append_right _ h)) hown hK hP 0 rfl rfl 24 (by decide) (hts _ q_X8_isGroupDone_0) (fun _ h9 => h9) rfl dX8_isGroupDone_6 ?_
  refine lv_icmp_ge (tgt := 65) (pc := 9) hx hb dX8_isGroupDone_9 (by decide) (fun c9 => ?_) (fun c9 => ?_)
  · have hf := ft hf c9
    refine lv_iload_n (pc := 65) hx hb dX8_isGroupDone_65 rfl (lv_at hl 2 rfl) ?_
    obtain ⟨b66, hf⟩ := gdE hf
    have hf := Option.some.inj hf
    subst hf
    exact W.zret (v := x2) hx hb hr (z01V b66) (fun t ht hW => ⟨_, rfl, rfl, ht⟩) (fun _ h => by cases h) dX8_isGroupDone_66
  · have hf := ff hf c9
    refine lv_iload_n (pc := 12) hx hb dX8_isGroupDone_12 rfl (lv_at hl 2 rfl) ?_
    refine lv_if_ne (tgt := 53) (pc := 13) hx hb dX8_isGroupDone_13 (by decide) (fun c13 => ?_) (fun c13 => ?_)
    · have hf := ff hf c13
      exact w_X8_isGroupDone_53 C k4 H4 ls x1 x3 (lv_sub hl [0, 1, 3] rfl) hf
    · have hf := ft hf c13
      refine lv_aload_n (pc := 16) hx hb dX8_isGroupDone_16 rfl (lv_at hl 0 rfl) ?_
      refine va_get (D := g.1) (ci := 8) (v := .ref (g.2.2.2 8 27)) (C := RX8) (T := TX8) (N := 47) (pc := 17) hx hb hts (fun _ h => List.mem_cons_of_mem _ (List.mem_append_right _ h)) hown hK hP 0 rfl rfl 27 (by decide) (hts _ q_X8_isGroupDone_1) (fun _ h9 => h9) rfl dX8_isGroupDone_17 ?_
      refine lv_iload_n (pc := 20) hx hb dX8_isGroupDone_20 rfl (lv_at hl 1 rfl) ?_
      obtain ⟨b21, hf⟩ := gdE hf
      refine va_iald (D := g.1) (tys := tyl g) (f := (S8.2.2 27)) (pc := 21) hx hb hK hP 18 0 rfl rfl (inbV b21) dX8_isGroupDone_21 ?_
      refine lv_bipush (v := (-9)) (pc := 22) hx hb dX8_isGroupDone_22 (by decide) ?_
      refine lv_icmp_eq (tgt := 57) (pc := 24) hx hb dX8_isGroupDone_24 (by decide) (fun c24 => ?_) (fun c24 => ?_)
      · have hf := ft hf c24
        exact w_X8_isGroupDone_57 C k4 H4 ls x1 x3 (lv_sub hl [0, 1, 3] rfl) hf
      · have hf := ff hf c24
        refine lv_aload_n (pc := 27) hx hb dX8_isGroupDone_27 rfl (lv_at hl 0 rfl) ?_
        refine va_get (D := g.1) (ci := 8) (v := .ref (g.2.2.2 8 27)) (C := RX8) (T := TX8) (N := 47) (pc := 28) hx hb hts (fun _ h => List.mem_cons_of_mem _ (List.mem_append_right _ h)) hown hK hP 0 rfl rfl 27 (by decide) (hts _ q_X8_isGroupDone_1) (fun _ h9 => h9) rfl dX8_isGroupDone_28 ?_
        refine lv_iload_n (pc := 31) hx hb dX8_isGroupDone_31 rfl (lv_at hl 3 rfl) ?_
        obtain ⟨b32, hf⟩ := gdE hf
        refine va_iald (D := g.1) (tys := tyl g) (f := (S8.2.2 27)) (pc := 32) hx hb hK hP 18 0 rfl rfl (inbV b32) dX8_isGroupDone_32 ?_
        refine lv_aload_n (pc := 33) hx hb dX8_isGroupDone_33 rfl (lv_at hl 0 rfl) ?_
        refine va_get (D := g.1) (ci := 8) (v := .ref (g.2.2.2 8 27)) (C := RX8) (T := TX8) (N := 47) (pc := 34) hx hb hts (fun _ h => List.mem_cons_of_mem _ (List.mem_append_right _ h)) hown hK hP 0 rfl rfl 27 (by decide) (hts _ q_X8_isGroupDone_1) (fun _ h9 => h9) rfl dX8_isGroupDone_34 ?_
        refine lv_iload_n (pc := 37) hx hb dX8_isGroupDone_37 rfl (lv_at hl 1 rfl) ?_
        obtain ⟨b38, hf⟩ := gdE hf
        refine va_iald (D := g.1) (tys := tyl g) (f := (S8.2.2 27)) (pc := 38) hx hb hK hP 18 0 rfl rfl (inbV b38) dX8_isGroupDone_38 ?_
        refine lv_icmp_ne (tgt := 57) (pc := 39) hx hb dX8_isGroupDone_39 (by decide) (fun c39 => ?_) (fun c39 => ?_)
        · have hf := ff hf c39
          exact w_X8_isGroupDone_57 C k4 H4 ls x1 x3 (lv_sub hl [0, 1, 3] rfl) hf
        · have hf := ft hf c39
          refine lv_aload_n (pc := 42) hx hb dX8_isGroupDone_42 rfl (lv_at hl 0 rfl) ?_
          refine va_get (D := g.1) (ci := 8) (v := .ref (g.2.2.2 8 29)) (C := RX8) (T := TX8) (N := 47) (pc := 43) hx hb hts (fun _ h => List.mem_cons_of_mem _ (List.mem_append_right _ h)) hown hK hP 0 rfl rfl 29 (by decide) (hts _ q_X8_isGroupDone_2) (fun _ h9 => h9) rfl dX8_isGroupDone_43 ?_
          refine lv_iload_n (pc := 46) hx hb dX8_isGroupDone_46 rfl (lv_at hl 3 rfl) ?_
          obtain ⟨b47, hf⟩ := gdE hf
          refine va_iald (D := g.1) (tys := tyl g) (f := (S8.2.2 29)) (pc := 47) hx hb hK hP 20 0 rfl rfl (inbV b47) dX8_isGroupDone_47 ?_
          refine lv_bipush (v := (-9)) (pc := 48) hx hb dX8_isGroupDone_48 (by decide) ?_
          refine lv_icmp_eq (tgt := 57) (pc := 50) hx hb dX8_isGroupDone_50 (by decide) (fun c50 => ?_) (fun c50 => ?_)
          · have hf := ft hf c50
            exact w_X8_isGroupDone_57 C k4 H4 ls x1 x3 (lv_sub hl [0, 1, 3] rfl) hf
          · have hf := ff hf c50
            exact w_X8_isGroupDone_53 C k4 H4 ls x1 x3 (lv_sub hl [0, 1, 3] rfl) hf
set_option maxHeartbeats 4000000 in
set_option maxRecDepth 100000 in
theorem w_X8_isGroupDone_4 {p : Program} {l : Launch} {e : Env} {s : State} {m : MethodId} {args : Array Value} {below : List Frame} {meth : Method} {c : Code} {g : En} {N : Nat} {S8 : St} {res : Int32} (C : cxr g (wd_8 g S8) cX8_isGroupDone 4 (some .boolean) wsX8_isGroupDone RX8 p s m args meth c) : ∀ (n : Nat), ∀ (ls : Array Slot) (x1 : Int32) (x2 : Int32) (x3 : Int32), lv_has ls 4 [(0, .ref (g.2.2.1 8)), (1, .int x1), (2, .int x2), (3, .int x3)] → f_X8_isGroupDone_4 N S8  n x1 x2 x3 = some res → W p l e (headSpec wsX8_isGroupDone { frames := 0, cells := 0, slots := 0, locals := 0 }).room s m args below meth c s.heap [] 0 0 (MQ below (vp_Si (fun r => r = res)) args s 0 0 (fun _ => False)) (F0 m 4 ls []) := by
  intro n
  induction n with
  | zero =>
    intro ls x1 x2 x3 hl hf
    have hf : (none : Option (Int32)) = some res := hf
    cases hf
  | succ n ih =>
    intro ls x1 x2 x3 hl hf
    exact w_X8_isGroupDone_4_b C  (fun y0 y1 y2 => f_X8_isGroupDone_4 N S8  n y0 y1 y2) ih ls x1 x2 x3 hl hf
set_option maxHeartbeats 4000000 in
set_option maxRecDepth 100000 in
theorem c_X8_isGroupDone (l : Launch) (g : En) (N : Nat) (S8 : St) (x1 : Int32) (res : Int32) (hf : f_X8_isGroupDone N S8 x1 = some res) : Met l yX8_isGroupDone wsX8_isGroupDone { frames := 0, cells := 0, slots := 0, locals := 0 } (roP g (wd_8 g S8) [.ref (g.2.2.1 8), .int x1]) (vp_Si (fun r => r = res)) 0 0 (fun _ => False) := by
  refine Met.ofW (cc := cX8_isGroupDone) (maxL := 4) (ret := (some .boolean)) (by decide) rfl ?_
  intro p e s m args below meth c s₁ B hml hv
  obtain ⟨rfl, hP, hK⟩ := hv
  have hx := B.exec
  have hb := B.bytes
  have hr := B.returns
  have hts := atoms_spec (ws := wsX8_isGroupDone) B.pre
  have hown : s.vm.findClass RX8 = some m.cls := findClass_of_methodNamed B.named
  have hlk := B.notSynchronized
  have C : cxr g (wd_8 g S8) cX8_isGroupDone 4 (some .boolean) wsX8_isGroupDone RX8 p s m ([.ref (g.2.2.1 8), .int x1] : List Value).toArray meth c := ⟨⟨hx, hb, hr, hml, hown, hts, hlk⟩, hK, hP⟩
  have hl := lv_entry [.ref (g.2.2.1 8), .int x1] (n := 4) (Nat.le_of_ble_eq_true rfl)
  rw [lg_entry_eq]
  generalize (lg_sl [.ref (g.2.2.1 8), .int x1] ++ List.replicate (4 - (lg_sl [.ref (g.2.2.1 8), .int x1]).length) Slot.unset).toArray = ls at hl ⊢
  have hl : lv_has ls 4 [(0, .ref (g.2.2.1 8)), (1, .int x1)] := hl
  unfold f_X8_isGroupDone at hf
  refine lv_iconst (v := 0) (pc := 0) hx hb dX8_isGroupDone_0 (by decide) ?_
  refine lv_istore_n (lv' := [(2, .int 0), (0, .ref (g.2.2.1 8)), (1, .int x1)]) (pc := 1) hx hb dX8_isGroupDone_1 rfl hl (by decide) rfl (fun ls hl => ?_)
  refine lv_iconst (v := 0) (pc := 2) hx hb dX8_isGroupDone_2 (by decide) ?_
  refine lv_istore_n (lv' := [(3, .int 0), (2, .int 0), (0, .ref (g.2.2.1 8)), (1, .int x1)]) (pc := 3) hx hb dX8_isGroupDone_3 rfl hl (by decide) rfl (fun ls hl => ?_)
  exact w_X8_isGroupDone_4 C  N ls x1 0 0 (lv_sub hl [2, 3, 1, 0] rfl) hf
theorem q_X8_done_0 : (.fieldLink RX8 71 "PictureCourtModel" "testCounts" "[Z" : Cond) ∈ wsX8_done := by decide +kernel
theorem q_X8_done_1 : (.fieldLink RX8 68 "PictureCourtModel" "testOut" "[I" : Cond) ∈ wsX8_done := by decide +kernel
theorem h_X8_done : yX8_done.cls = RX8 ∧ yX8_done.cls ≠ "java/lang/invoke/MethodHandle" ∧ yX8_done.cls ≠ "java/lang/invoke/VarHandle" ∧ (parseMethodDescriptor yX8_done.desc).map (fun d => d.parameters.length) = some 2 := by decide +kernel
set_option maxHeartbeats 4000000 in
set_option maxRecDepth 100000 in
theorem w_X8_done_57 {p : Program} {l : Launch} {e : Env} {s : State} {m : MethodId} {args : Array Value} {below : List Frame} {meth : Method} {c : Code} {g : En} {A : Nat → Prop} {N : Nat} {res : Int32 × St} (C : cxw g A cX8_done 3 (some .int) wsX8_done RX8 p s m args meth c) : ∀ (H : Heap) (locs : List Loc) (S8 : St) (ls : Array Slot) (x1 : Int32) (t0 : Int32) (t1 : Int32), va_P g.1 vwCl (wd_8 g S8) H → va_D A (wd_8 g S8) → va_S A s.heap H locs → lv_has ls 3 [(0, .ref (g.2.2.1 8)), (1, .int x1)] → f_X8_done_57 N   S8 x1 t0 t1 = some res → W p l e (headSpec wsX8_done { frames := 2, cells := 0, slots := 0, locals := 43 }).room s m args below meth c H locs 0 0 (MQ below (rwQi g (wd_8 g (res.2)) A (res.1)) args s 0 0 A) (F0 m 57 ls [.int t0, .int t1, .ref (g.2.2.2 8 29)]) := by
  intro H locs S8 ls x1 t0 t1 hP hD hS hl hf
  obtain ⟨⟨hx, hb, hr, hml, hown, hts, hlk⟩, hK, hA⟩ := id C
  unfold f_X8_done_57 at hf
  obtain ⟨b57, hf⟩ := gdE hf
  refine va_iast (D := g.1) (tys := tyl g) (f := (S8.2.2 29)) (pc := 57) hx hb hK hP hD hS 20 0 rfl rfl (inbV b57) dX8_done_57 (fun H locs hP hD hS => ?_)
  have hP := u_8_8_29P S8 (upd (S8.2.2 29) (Int32.toNatClampNeg t1) t0) hP
  have hD := u_8_8_29D S8 (upd (S8.2.2 29) (Int32.toNatClampNeg t1) t0) hD
  refine lv_aload_n (pc := 58) hx hb dX8_done_58 rfl (lv_at hl 0 rfl) ?_
  refine va_get (D := g.1) (ci := 8) (v := .ref (g.2.2.2 8 30)) (C := RX8) (T := TX8) (N := 47) (pc := 59) hx hb hts (fun _ h => List.mem_cons_of_mem _ (List.mem_append_right _ h)) hown hK hP 0 rfl rfl 30 (by decide) (hts _ q_X8_done_0) (fun _ h9 => h9) rfl dX8_done_59 ?_
  refine lv_iload_n (pc := 62) hx hb dX8_done_62 rfl (lv_at hl 1 rfl) ?_
  obtain ⟨b63, hf⟩ := gdE hf
  refine va_zald (D := g.1) (tys := tyl g) (f := (S8.2.2 30)) (pc := 63) hx hb hK hP 21 2 rfl rfl (inbV b63) dX8_done_63 ?_
  refine lv_if_eq (tgt := 71) (pc := 64) hx hb dX8_done_64 (by decide) (fun c64 => ?_) (fun c64 => ?_)
  · have hf := ft hf c64
    refine lv_iconst (v := 0) (pc := 71) hx hb dX8_done_71 (by decide) ?_
    have hf := Option.some.inj hf
    subst hf
    exact W.iret (v := 0) hx hb hr (fun t ht hW => ⟨⟨_, (), rfl, rfl, by rw [ht]; exact hP, va_K.moved hW.alike hK, hD⟩, hS.F ht⟩) hS.2.2 dX8_done_72
  · have hf := ff hf c64
    refine lv_iconst (v := 1) (pc := 67) hx hb dX8_done_67 (by decide) ?_
    refine lv_goto (tgt := 72) (pc := 68) hx hb dX8_done_68 (by decide) ?_
    have hf := Option.some.inj hf
    subst hf
    exact W.iret (v := 1) hx hb hr (fun t ht hW => ⟨⟨_, (), rfl, rfl, by rw [ht]; exact hP, va_K.moved hW.alike hK, hD⟩, hS.F ht⟩) hS.2.2 dX8_done_72
set_option maxHeartbeats 4000000 in
set_option maxRecDepth 100000 in
theorem w_X8_done_42 {p : Program} {l : Launch} {e : Env} {s : State} {m : MethodId} {args : Array Value} {below : List Frame} {meth : Method} {c : Code} {g : En} {A : Nat → Prop} {N : Nat} {res : Int32 × St} (C : cxw g A cX8_done 3 (some .int) wsX8_done RX8 p s m args meth c) : ∀ (H : Heap) (locs : List Loc) (S8 : St) (ls : Array Slot) (x1 : Int32) (x2 : Int32) (t0 : Int32) (t1 : Int32), va_P g.1 vwCl (wd_8 g S8) H → va_D A (wd_8 g S8) → va_S A s.heap H locs → lv_has ls 3 [(0, .ref (g.2.2.1 8)), (1, .int x1), (2, .int x2)] → f_X8_done_42 N   S8 x1 x2 t0 t1 = some res → W p l e (headSpec wsX8_done { frames := 2, cells := 0, slots := 0, locals := 43 }).room s m args below meth c H locs 0 0 (MQ below (rwQi g (wd_8 g (res.2)) A (res.1)) args s 0 0 A) (F0 m 42 ls [.int t0, .int t1, .ref (g.2.2.2 8 30)]) := by
  intro H locs S8 ls x1 x2 t0 t1 hP hD hS hl hf
  obtain ⟨⟨hx, hb, hr, hml, hown, hts, hlk⟩, hK, hA⟩ := id C
  unfold f_X8_done_42 at hf
  obtain ⟨b42, hf⟩ := gdE hf
  refine va_zast (D := g.1) (tys := tyl g) (f := (S8.2.2 30)) (pc := 42) hx hb hK hP hD hS 21 2 rfl rfl (inbV b42) dX8_done_42 (fun H locs hP hD hS => ?_)
  have hP := u_8_8_30P S8 (upd (S8.2.2 30) (Int32.toNatClampNeg t1) (vp_nar .boolean t0)) hP
  have hD := u_8_8_30D S8 (upd (S8.2.2 30) (Int32.toNatClampNeg t1) (vp_nar .boolean t0)) hD
  refine lv_aload_n (pc := 43) hx hb dX8_done_43 rfl (lv_at hl 0 rfl) ?_
  refine va_get (D := g.1) (ci := 8) (v := .ref (g.2.2.2 8 29)) (C := RX8) (T := TX8) (N := 47) (pc := 44) hx hb hts (fun _ h => List.mem_cons_of_mem _ (List.mem_append_right _ h)) hown hK hP 0 rfl rfl 29 (by decide) (hts _ q_X8_done_1) (fun _ h9 => h9) rfl dX8_done_44 ?_
  refine lv_iload_n (pc := 47) hx hb dX8_done_47 rfl (lv_at hl 1 rfl) ?_
  refine lv_iload_n (pc := 48) hx hb dX8_done_48 rfl (lv_at hl 2 rfl) ?_
  refine lv_if_eq (tgt := 56) (pc := 49) hx hb dX8_done_49 (by decide) (fun c49 => ?_) (fun c49 => ?_)
  · have hf := ft hf c49
    refine lv_iconst (v := 0) (pc := 56) hx hb dX8_done_56 (by decide) ?_
    exact w_X8_done_57 C  H locs (sA S8 30 (upd (S8.2.2 30) (Int32.toNatClampNeg t1) (vp_nar .boolean t0))) ls x1 0 x1 hP hD hS (lv_sub hl [0, 1] rfl) hf
  · have hf := ff hf c49
    refine lv_iconst (v := 1) (pc := 52) hx hb dX8_done_52 (by decide) ?_
    refine lv_goto (tgt := 57) (pc := 53) hx hb dX8_done_53 (by decide) ?_
    exact w_X8_done_57 C  H locs (sA S8 30 (upd (S8.2.2 30) (Int32.toNatClampNeg t1) (vp_nar .boolean t0))) ls x1 1 x1 hP hD hS (lv_sub hl [0, 1] rfl) hf
set_option maxHeartbeats 4000000 in
set_option maxRecDepth 100000 in
theorem c_X8_done (l : Launch) (g : En) (N : Nat) (sz : Nat) (S8 : St) (x1 : Int32) (x2 : Int32) (res : Int32 × St) (hf : f_X8_done N S8 x1 x2 = some res) : Met l yX8_done wsX8_done { frames := 2, cells := 0, slots := 0, locals := 43 } (rwP g (wd_8 g S8) sz [.ref (g.2.2.1 8), .int x1, .int x2]) (rwQi g (wd_8 g (res.2)) (va_A (wd_8 g S8) sz) (res.1)) 0 0 (va_A (wd_8 g S8) sz) := by
  refine Met.ofW (cc := cX8_done) (maxL := 3) (ret := (some .int)) (by decide) rfl ?_
  intro p e s m args below meth c s₁ B hml hv
  obtain ⟨rfl, hsz, hP, hK, hD0⟩ := hv
  have hx := B.exec
  have hb := B.bytes
  have hr := B.returns
  have hts := atoms_spec (ws := wsX8_done) B.pre
  have hown : s.vm.findClass RX8 = some m.cls := findClass_of_methodNamed B.named
  have hlk := B.notSynchronized
  subst hsz
  have hD := hD0.self (sz := s.heap.size)
  generalize hAe : va_A (wd_8 g S8) s.heap.size = A at hD ⊢
  have hA : ∀ q : Nat, s.heap.size ≤ q → A q := fun q h => by rw [← hAe]; exact Or.inr h
  have hS : va_S A s.heap s.heap [] := va_S.rf
  have C : cxw g A cX8_done 3 (some .int) wsX8_done RX8 p s m ([.ref (g.2.2.1 8), .int x1, .int x2] : List Value).toArray meth c := ⟨⟨hx, hb, hr, hml, hown, hts, hlk⟩, hK, hA⟩
  have hl := lv_entry [.ref (g.2.2.1 8), .int x1, .int x2] (n := 3) (Nat.le_of_ble_eq_true rfl)
  rw [lg_entry_eq]
  generalize (lg_sl [.ref (g.2.2.1 8), .int x1, .int x2] ++ List.replicate (3 - (lg_sl [.ref (g.2.2.1 8), .int x1, .int x2]).length) Slot.unset).toArray = ls at hl ⊢
  have hl : lv_has ls 3 [(0, .ref (g.2.2.1 8)), (1, .int x1), (2, .int x2)] := hl
  unfold f_X8_done at hf
  suffices K9 : ∀ (H : Heap) (locs : List Loc), va_P g.1 vwCl (wd_8 g S8) H → va_D A (wd_8 g S8) → va_S A s.heap H locs → ((f_X8_isTest N S8 x1).bind (fun r2 => (if r2 = 0 then some ((-1), S8) else (if inb x1 10 = true then (if ((S8.2.2 29) (Int32.toNatClampNeg x1)) = (-9) then ((f_X8_isGroupDone N S8 x1).bind (fun r31 => (if r31 = 0 then (f_X8_done_42 N   S8 x1 x2 1 x1) else (f_X8_done_42 N   S8 x1 x2 0 x1)))) else some ((-4), S8)) else none)))) = some res → W p l e (headSpec wsX8_done { frames := 2, cells := 0, slots := 0, locals := 43 }).room s m ([.ref (g.2.2.1 8), .int x1, .int x2] : List Value).toArray below meth c H locs 0 0 (MQ below (rwQi g (wd_8 g (res.2)) A (res.1)) ([.ref (g.2.2.1 8), .int x1, .int x2] : List Value).toArray s 0 0 A) (F0 m 0 ls []) from K9 s.heap [] hP hD hS hf
  clear hP hD hS hf
  intro H locs hP hD hS hf
  refine lv_aload_n (pc := 0) hx hb dX8_done_0 rfl (lv_at hl 0 rfl) ?_
  refine lv_iload_n (pc := 1) hx hb dX8_done_1 rfl (lv_at hl 1 rfl) ?_
  obtain ⟨r2, e2, hf⟩ := bdE hf
  refine krI (g := g) (wc := (wd_8 g S8)) (pc := 2) (As := [.int x1]) (rest := []) ⟨hx, hb, hml, hown, hts⟩ (c_X8_isTest l g N S8 x1 r2 e2) (cwV 1 hts gX8_done_X8_isTest rfl rfl rfl h_X8_isTest ⟨Nat.le_of_ble_eq_true rfl, Nat.le_of_ble_eq_true rfl⟩) hK hP rfl rfl rfl hl.1 rfl (Nat.le_of_ble_eq_true rfl) dX8_done_2 ⟨Nat.zero_le _, Nat.zero_le _⟩ ?_
  refine lv_if_ne (tgt := 10) (pc := 5) hx hb dX8_done_5 (by decide) (fun c5 => ?_) (fun c5 => ?_)
  · have hf := ff hf c5
    refine lv_aload_n (pc := 10) hx hb dX8_done_10 rfl (lv_at hl 0 rfl) ?_
    refine va_get (D := g.1) (ci := 8) (v := .ref (g.2.2.2 8 29)) (C := RX8) (T := TX8) (N := 47) (pc := 11) hx hb hts (fun _ h => List.mem_cons_of_mem _ (List.mem_append_right _ h)) hown hK hP 0 rfl rfl 29 (by decide) (hts _ q_X8_done_1) (fun _ h9 => h9) rfl dX8_done_11 ?_
    refine lv_iload_n (pc := 14) hx hb dX8_done_14 rfl (lv_at hl 1 rfl) ?_
    obtain ⟨b15, hf⟩ := gdE hf
    refine va_iald (D := g.1) (tys := tyl g) (f := (S8.2.2 29)) (pc := 15) hx hb hK hP 20 0 rfl rfl (inbV b15) dX8_done_15 ?_
    refine lv_bipush (v := (-9)) (pc := 16) hx hb dX8_done_16 (by decide) ?_
    refine lv_icmp_eq (tgt := 24) (pc := 18) hx hb dX8_done_18 (by decide) (fun c18 => ?_) (fun c18 => ?_)
    · have hf := ft hf c18
      refine lv_aload_n (pc := 24) hx hb dX8_done_24 rfl (lv_at hl 0 rfl) ?_
      refine va_get (D := g.1) (ci := 8) (v := .ref (g.2.2.2 8 30)) (C := RX8) (T := TX8) (N := 47) (pc := 25) hx hb hts (fun _ h => List.mem_cons_of_mem _ (List.mem_append_right _ h)) hown hK hP 0 rfl rfl 30 (by decide) (hts _ q_X8_done_0) (fun _ h9 => h9) rfl dX8_done_25 ?_
      refine lv_iload_n (pc := 28) hx hb dX8_done_28 rfl (lv_at hl 1 rfl) ?_
      refine lv_aload_n (pc := 29) hx hb dX8_done_29 rfl (lv_at hl 0 rfl) ?_
      refine lv_iload_n (pc := 30) hx hb dX8_done_30 rfl (lv_at hl 1 rfl) ?_
      obtain ⟨r31, e31, hf⟩ := bdE hf
      refine krI (g := g) (wc := (wd_8 g S8)) (pc := 31) (As := [.int x1]) (rest := [.int x1, .ref (g.2.2.2 8 30)]) ⟨hx, hb, hml, hown, hts⟩ (c_X8_isGroupDone l g N S8 x1 r31 e31) (cwV 1 hts gX8_done_X8_isGroupDone rfl rfl rfl h_X8_isGroupDone ⟨Nat.le_of_ble_eq_true rfl, Nat.le_of_ble_eq_true rfl⟩) hK hP rfl rfl rfl hl.1 rfl (Nat.le_of_ble_eq_true rfl) dX8_done_31 ⟨Nat.zero_le _, Nat.zero_le _⟩ ?_
      refine lv_if_ne (tgt := 41) (pc := 34) hx hb dX8_done_34 (by decide) (fun c34 => ?_) (fun c34 => ?_)
      · have hf := ff hf c34
        refine lv_iconst (v := 0) (pc := 41) hx hb dX8_done_41 (by decide) ?_
        exact w_X8_done_42 C  H locs S8 ls x1 x2 0 x1 hP hD hS (lv_sub hl [0, 1, 2] rfl) hf
      · have hf := ft hf c34
        refine lv_iconst (v := 1) (pc := 37) hx hb dX8_done_37 (by decide) ?_
        refine lv_goto (tgt := 42) (pc := 38) hx hb dX8_done_38 (by decide) ?_
        exact w_X8_done_42 C  H locs S8 ls x1 x2 1 x1 hP hD hS (lv_sub hl [0, 1, 2] rfl) hf
    · have hf := ff hf c18
      refine lv_bipush (v := (-4)) (pc := 21) hx hb dX8_done_21 (by decide) ?_
      have hf := Option.some.inj hf
      subst hf
      exact W.iret (v := (-4)) hx hb hr (fun t ht hW => ⟨⟨_, (), rfl, rfl, by rw [ht]; exact hP, va_K.moved hW.alike hK, hD⟩, hS.F ht⟩) hS.2.2 dX8_done_23
  · have hf := ft hf c5
    refine lv_iconst (v := (-1)) (pc := 8) hx hb dX8_done_8 (by decide) ?_
    have hf := Option.some.inj hf
    subst hf
    exact W.iret (v := (-1)) hx hb hr (fun t ht hW => ⟨⟨_, (), rfl, rfl, by rw [ht]; exact hP, va_K.moved hW.alike hK, hD⟩, hS.F ht⟩) hS.2.2 dX8_done_9
theorem q_X8_scoreOf_0 : (.fieldLink RX8 198 "PictureCourtModel" "tests" "I" : Cond) ∈ wsX8_scoreOf := by decide +kernel
theorem q_X8_scoreOf_1 : (.fieldLink RX8 65 "PictureCourtModel" "testOften" "[I" : Cond) ∈ wsX8_scoreOf := by decide +kernel
theorem q_X8_scoreOf_2 : (.fieldLink RX8 71 "PictureCourtModel" "testCounts" "[Z" : Cond) ∈ wsX8_scoreOf := by decide +kernel
theorem q_X8_scoreOf_3 : (.fieldLink RX8 68 "PictureCourtModel" "testOut" "[I" : Cond) ∈ wsX8_scoreOf := by decide +kernel
theorem q_X8_scoreOf_4 : (.fieldLink RX8 53 "PictureCourtModel" "hands" "[I" : Cond) ∈ wsX8_scoreOf := by decide +kernel
theorem h_X8_scoreOf : yX8_scoreOf.cls = RX8 ∧ yX8_scoreOf.cls ≠ "java/lang/invoke/MethodHandle" ∧ yX8_scoreOf.cls ≠ "java/lang/invoke/VarHandle" ∧ (parseMethodDescriptor yX8_scoreOf.desc).map (fun d => d.parameters.length) = some 1 := by decide +kernel
set_option maxHeartbeats 4000000 in
set_option maxRecDepth 100000 in
theorem w_X8_scoreOf_71 {p : Program} {l : Launch} {e : Env} {s : State} {m : MethodId} {args : Array Value} {below : List Frame} {meth : Method} {c : Code} {g : En} {N : Nat} {S8 : St} {res : Int64} (C : cxr g (wd_8 g S8) cX8_scoreOf 6 (some .long) wsX8_scoreOf RX8 p s m args meth c) (k11 : Int32 → Int64 → Int32 → Option (Int64)) (H11 : ∀ (ls : Array Slot) (x1 : Int32) (x2 : Int64) (x4 : Int32), lv_has ls 6 [(0, .ref (g.2.2.1 8)), (1, .int x1), (2, .long x2), (4, .int x4)] → k11 x1 x2 x4 = some res → W p l e (headSpec wsX8_scoreOf { frames := 0, cells := 0, slots := 0, locals := 0 }).room s m args below meth c s.heap [] 0 0 (MQ below (vp_Sl (fun r => r = res)) args s 0 0 (fun _ => False)) (F0 m 11 ls [])) : ∀ (ls : Array Slot) (x1 : Int32) (x4 : Int32) (t0 : Int64) (t1 : Int64), lv_has ls 6 [(0, .ref (g.2.2.1 8)), (1, .int x1), (4, .int x4)] → f_X8_scoreOf_71 N S8 k11 x1 x4 t0 t1 = some res → W p l e (headSpec wsX8_scoreOf { frames := 0, cells := 0, slots := 0, locals := 0 }).room s m args below meth c s.heap [] 0 0 (MQ below (vp_Sl (fun r => r = res)) args s 0 0 (fun _ => False)) (F0 m 71 ls [.long t0, .long t1]) := by
  intro ls x1 x4 t0 t1 hl hf
  obtain ⟨⟨hx, hb, hr, hml, hown, hts, hlk⟩, hK, hP⟩ := id C
  unfold f_X8_scoreOf_71 at hf
  refine lv_lmul (pc := 71) hx hb dX8_scoreOf_71 ?_
  refine lv_lstore_n (lv' := [(2, .long (t1 * t0)), (0, .ref (g.2.2.1 8)), (1, .int x1), (4, .int x4)]) (pc := 72) hx hb dX8_scoreOf_72 rfl hl (by decide) rfl (fun ls hl => ?_)
  refine lv_iinc (v := (x4 + 1)) (lv' := [(4, .int (x4 + 1)), (2, .long (t1 * t0)), (0, .ref (g.2.2.1 8)), (1, .int x1)]) (pc := 73) hx hb dX8_scoreOf_73 hl (k := 3) rfl rfl (by decide) rfl (fun ls hl => ?_)
  refine lv_goto (tgt := 11) (pc := 76) hx hb dX8_scoreOf_76 (by decide) ?_
  exact H11 ls x1 (t1 * t0) (x4 + 1) (lv_sub hl [2, 3, 1, 0] rfl) hf
set_option maxHeartbeats 4000000 in
set_option maxRecDepth 100000 in
theorem w_X8_scoreOf_11_b {p : Program} {l : Launch} {e : Env} {s : State} {m : MethodId} {args : Array Value} {below : List Frame} {meth : Method} {c : Code} {g : En} {N : Nat} {S8 : St} {res : Int64} (C : cxr g (wd_8 g S8) cX8_scoreOf 6 (some .long) wsX8_scoreOf RX8 p s m args meth c) (k11 : Int32 → Int64 → Int32 → Option (Int64)) (H11 : ∀ (ls : Array Slot) (x1 : Int32) (x2 : Int64) (x4 : Int32), lv_has ls 6 [(0, .ref (g.2.2.1 8)), (1, .int x1), (2, .long x2), (4, .int x4)] → k11 x1 x2 x4 = some res → W p l e (headSpec wsX8_scoreOf { frames := 0, cells := 0, slots := 0, locals := 0 }).room s m args below meth c s.heap [] 0 0 (MQ below (vp_Sl (fun r => r = res)) args s 0 0 (fun _ => False)) (F0 m 11 ls [])) : ∀ (ls : Array Slot) (x1 : Int32) (x2 : Int64) (x4 : Int32), lv_has ls 6 [(0, .ref (g.2.2.1 8)), (1, .int x1), (2, .long x2), (4, .int x4)] → f_X8_scoreOf_11_b N S8  k11 x1 x2 x4 = some res → W p l e (headSpec wsX8_scoreOf { frames := 0, cells := 0, slots := 0, locals := 0 }).room s m args below meth c s.heap [] 0 0 (MQ below (vp_Sl (fun r => r = res)) args s 0 0 (fun _ => False)) (F0 m 11 ls []) := by
  intro ls x1 x2 x4 hl hf
  obtain ⟨⟨hx, hb, hr, hml, hown, hts, hlk⟩, hK, hP⟩ := id C
  unfold f_X8_scoreOf_11_b at hf
  refine lv_iload (pc := 11) hx hb dX8_scoreOf_11 (lv_at hl 3 rfl) ?_
  refine lv_aload_n (pc := 13) hx hb dX8_scoreOf_13 rfl (lv_at hl 0 rfl) ?_
  refine va_get (D := g.1) (ci := 8) (v := .int (S8.1 24)) (C := RX8) (T := TX8) (N := 47) (pc := 14) hx hb hts (fun _ h => List.mem_cons_of_mem _ (List.mem_append_right _ h)) hown hK hP 0 rfl rfl 24 (by decide) (hts _ q_X8_scoreOf_0) (fun _ h9 => h9) rfl dX8_scoreOf_14 ?_
  refine lv_icmp_ge (tgt := 79) (pc := 17) hx hb dX8_scoreOf_17 (by decide) (fun c17 => ?_) (fun c17 => ?_)
  · have hf := ft hf c17
    refine lv_lload_n (pc := 79) hx hb dX8_scoreOf_79 rfl (lv_at hl 2 rfl) ?_
    have hf := Option.some.inj hf
    subst hf
    exact W.lret (v := x2) hx hb hr (fun t ht hW => ⟨_, rfl, rfl, ht⟩) (fun _ h => by cases h) dX8_scoreOf_80
  · have hf := ff hf c17
    refine lv_aload_n (pc := 20) hx hb dX8_scoreOf_20 rfl (lv_at hl 0 rfl) ?_
    refine va_get (D := g.1) (ci := 8) (v := .ref (g.2.2.2 8 28)) (C := RX8) (T := TX8) (N := 47) (pc := 21) hx hb hts (fun _ h => List.mem_cons_of_mem _ (List.mem_append_right _ h)) hown hK hP 0 rfl rfl 28 (by decide) (hts _ q_X8_scoreOf_1) (fun _ h9 => h9) rfl dX8_scoreOf_21 ?_
    refine lv_iconst (v := 4) (pc := 24) hx hb dX8_scoreOf_24 (by decide) ?_
    refine lv_iload (pc := 25) hx hb dX8_scoreOf_25 (lv_at hl 3 rfl) ?_
    refine lv_imul (pc := 27) hx hb dX8_scoreOf_27 ?_
    refine lv_iload_n (pc := 28) hx hb dX8_scoreOf_28 rfl (lv_at hl 1 rfl) ?_
    refine lv_iadd (pc := 29) hx hb dX8_scoreOf_29 ?_
    obtain ⟨b30, hf⟩ := gdE hf
    refine va_iald (D := g.1) (tys := tyl g) (f := (S8.2.2 28)) (pc := 30) hx hb hK hP 19 0 rfl rfl (inbV b30) dX8_scoreOf_30 ?_
    refine lv_istore (lv' := [(5, .int ((S8.2.2 28) (Int32.toNatClampNeg ((4 * x4) + x1)))), (0, .ref (g.2.2.1 8)), (1, .int x1), (2, .long x2), (4, .int x4)]) (pc := 31) hx hb dX8_scoreOf_31 hl (by decide) rfl (fun ls hl => ?_)
    refine lv_lload_n (pc := 33) hx hb dX8_scoreOf_33 rfl (lv_at hl 3 rfl) ?_
    refine lv_aload_n (pc := 34) hx hb dX8_scoreOf_34 rfl (lv_at hl 1 rfl) ?_
    refine va_get (D := g.1) (ci := 8) (v := .ref (g.2.2.2 8 30)) (C := RX8) (T := TX8) (N := 47) (pc := 35) hx hb hts (fun _ h => List.mem_cons_of_mem _ (List.mem_append_right _ h)) hown hK hP 0 rfl rfl 30 (by decide) (hts _ q_X8_scoreOf_2) (fun _ h9 => h9) rfl dX8_scoreOf_35 ?_
    refine lv_iload (pc := 38) hx hb dX8_scoreOf_38 (lv_at hl 4 rfl) ?_
    obtain ⟨b40, hf⟩ := gdE hf
    refine va_zald (D := g.1) (tys := tyl g) (f := (S8.2.2 30)) (pc := 40) hx hb hK hP 21 2 rfl rfl (inbV b40) dX8_scoreOf_40 ?_
    refine lv_if_ne (tgt := 48) (pc := 41) hx hb dX8_scoreOf_41 (by decide) (fun c41 => ?_) (fun c41 => ?_)
    · have hf := ff hf c41
      refine lv_aload_n (pc := 48) hx hb dX8_scoreOf_48 rfl (lv_at hl 1 rfl) ?_
      refine va_get (D := g.1) (ci := 8) (v := .ref (g.2.2.2 8 29)) (C := RX8) (T := TX8) (N := 47) (pc := 49) hx hb hts (fun _ h => List.mem_cons_of_mem _ (List.mem_append_right _ h)) hown hK hP 0 rfl rfl 29 (by decide) (hts _ q_X8_scoreOf_3) (fun _ h9 => h9) rfl dX8_scoreOf_49 ?_
      refine lv_iload (pc := 52) hx hb dX8_scoreOf_52 (lv_at hl 4 rfl) ?_
      obtain ⟨b54, hf⟩ := gdE hf
      refine va_iald (D := g.1) (tys := tyl g) (f := (S8.2.2 29)) (pc := 54) hx hb hK hP 20 0 rfl rfl (inbV b54) dX8_scoreOf_54 ?_
      refine lv_iconst (v := 1) (pc := 55) hx hb dX8_scoreOf_55 (by decide) ?_
      refine lv_icmp_ne (tgt := 65) (pc := 56) hx hb dX8_scoreOf_56 (by decide) (fun c56 => ?_) (fun c56 => ?_)
      · have hf := ff hf c56
        refine lv_bipush (v := 16) (pc := 65) hx hb dX8_scoreOf_65 (by decide) ?_
        refine lv_iload (pc := 67) hx hb dX8_scoreOf_67 (lv_at hl 0 rfl) ?_
        refine lv_isub (pc := 69) hx hb dX8_scoreOf_69 ?_
        refine lv_i2l (pc := 70) hx hb dX8_scoreOf_70 rfl ?_
        exact w_X8_scoreOf_71 C k11 H11 ls x1 x4 (Int32.toInt64 (16 - ((S8.2.2 28) (Int32.toNatClampNeg ((4 * x4) + x1))))) x2 (lv_sub hl [1, 2, 4] rfl) hf
      · have hf := ft hf c56
        refine lv_iload (pc := 59) hx hb dX8_scoreOf_59 (lv_at hl 0 rfl) ?_
        refine lv_i2l (pc := 61) hx hb dX8_scoreOf_61 rfl ?_
        refine lv_goto (tgt := 71) (pc := 62) hx hb dX8_scoreOf_62 (by decide) ?_
        exact w_X8_scoreOf_71 C k11 H11 ls x1 x4 (Int32.toInt64 ((S8.2.2 28) (Int32.toNatClampNeg ((4 * x4) + x1)))) x2 (lv_sub hl [1, 2, 4] rfl) hf
    · have hf := ft hf c41
      refine lv_lconst (v := 1) (pc := 44) hx hb dX8_scoreOf_44 (by decide) ?_
      refine lv_goto (tgt := 71) (pc := 45) hx hb dX8_scoreOf_45 (by decide) ?_
      exact w_X8_scoreOf_71 C k11 H11 ls x1 x4 1 x2 (lv_sub hl [1, 2, 4] rfl) hf
set_option maxHeartbeats 4000000 in
set_option maxRecDepth 100000 in
theorem w_X8_scoreOf_11 {p : Program} {l : Launch} {e : Env} {s : State} {m : MethodId} {args : Array Value} {below : List Frame} {meth : Method} {c : Code} {g : En} {N : Nat} {S8 : St} {res : Int64} (C : cxr g (wd_8 g S8) cX8_scoreOf 6 (some .long) wsX8_scoreOf RX8 p s m args meth c) : ∀ (n : Nat), ∀ (ls : Array Slot) (x1 : Int32) (x2 : Int64) (x4 : Int32), lv_has ls 6 [(0, .ref (g.2.2.1 8)), (1, .int x1), (2, .long x2), (4, .int x4)] → f_X8_scoreOf_11 N S8  n x1 x2 x4 = some res → W p l e (headSpec wsX8_scoreOf { frames := 0, cells := 0, slots := 0, locals := 0 }).room s m args below meth c s.heap [] 0 0 (MQ below (vp_Sl (fun r => r = res)) args s 0 0 (fun _ => False)) (F0 m 11 ls []) := by
  intro n
  induction n with
  | zero =>
    intro ls x1 x2 x4 hl hf
    have hf : (none : Option (Int64)) = some res := hf
    cases hf
  | succ n ih =>
    intro ls x1 x2 x4 hl hf
    exact w_X8_scoreOf_11_b C  (fun y0 y1 y2 => f_X8_scoreOf_11 N S8  n y0 y1 y2) ih ls x1 x2 x4 hl hf
set_option maxHeartbeats 4000000 in
set_option maxRecDepth 100000 in
theorem c_X8_scoreOf (l : Launch) (g : En) (N : Nat) (S8 : St) (x1 : Int32) (res : Int64) (hf : f_X8_scoreOf N S8 x1 = some res) : Met l yX8_scoreOf wsX8_scoreOf { frames := 0, cells := 0, slots := 0, locals := 0 } (roP g (wd_8 g S8) [.ref (g.2.2.1 8), .int x1]) (vp_Sl (fun r => r = res)) 0 0 (fun _ => False) := by
  refine Met.ofW (cc := cX8_scoreOf) (maxL := 6) (ret := (some .long)) (by decide) rfl ?_
  intro p e s m args below meth c s₁ B hml hv
  obtain ⟨rfl, hP, hK⟩ := hv
  have hx := B.exec
  have hb := B.bytes
  have hr := B.returns
  have hts := atoms_spec (ws := wsX8_scoreOf) B.pre
  have hown : s.vm.findClass RX8 = some m.cls := findClass_of_methodNamed B.named
  have hlk := B.notSynchronized
  have C : cxr g (wd_8 g S8) cX8_scoreOf 6 (some .long) wsX8_scoreOf RX8 p s m ([.ref (g.2.2.1 8), .int x1] : List Value).toArray meth c := ⟨⟨hx, hb, hr, hml, hown, hts, hlk⟩, hK, hP⟩
  have hl := lv_entry [.ref (g.2.2.1 8), .int x1] (n := 6) (Nat.le_of_ble_eq_true rfl)
  rw [lg_entry_eq]
  generalize (lg_sl [.ref (g.2.2.1 8), .int x1] ++ List.replicate (6 - (lg_sl [.ref (g.2.2.1 8), .int x1]).length) Slot.unset).toArray = ls at hl ⊢
  have hl : lv_has ls 6 [(0, .ref (g.2.2.1 8)), (1, .int x1)] := hl
  unfold f_X8_scoreOf at hf
  refine lv_aload_n (pc := 0) hx hb dX8_scoreOf_0 rfl (lv_at hl 0 rfl) ?_
  refine va_get (D := g.1) (ci := 8) (v := .ref (g.2.2.2 8 23)) (C := RX8) (T := TX8) (N := 47) (pc := 1) hx hb hts (fun _ h => List.mem_cons_of_mem _ (List.mem_append_right _ h)) hown hK hP 0 rfl rfl 23 (by decide) (hts _ q_X8_scoreOf_4) (fun _ h9 => h9) rfl dX8_scoreOf_1 ?_
  refine lv_iload_n (pc := 4) hx hb dX8_scoreOf_4 rfl (lv_at hl 1 rfl) ?_
  obtain ⟨b5, hf⟩ := gdE hf
  refine va_iald (D := g.1) (tys := tyl g) (f := (S8.2.2 23)) (pc := 5) hx hb hK hP 15 0 rfl rfl (inbV b5) dX8_scoreOf_5 ?_
  refine lv_i2l (pc := 6) hx hb dX8_scoreOf_6 rfl ?_
  refine lv_lstore_n (lv' := [(2, .long (Int32.toInt64 ((S8.2.2 23) (Int32.toNatClampNeg x1)))), (0, .ref (g.2.2.1 8)), (1, .int x1)]) (pc := 7) hx hb dX8_scoreOf_7 rfl hl (by decide) rfl (fun ls hl => ?_)
  refine lv_iconst (v := 0) (pc := 8) hx hb dX8_scoreOf_8 (by decide) ?_
  refine lv_istore (lv' := [(4, .int 0), (2, .long (Int32.toInt64 ((S8.2.2 23) (Int32.toNatClampNeg x1)))), (0, .ref (g.2.2.1 8)), (1, .int x1)]) (pc := 9) hx hb dX8_scoreOf_9 hl (by decide) rfl (fun ls hl => ?_)
  exact w_X8_scoreOf_11 C  N ls x1 (Int32.toInt64 ((S8.2.2 23) (Int32.toNatClampNeg x1))) 0 (lv_sub hl [2, 3, 1, 0] rfl) hf
theorem h_X8_allScores : yX8_allScores.cls = RX8 ∧ yX8_allScores.cls ≠ "java/lang/invoke/MethodHandle" ∧ yX8_allScores.cls ≠ "java/lang/invoke/VarHandle" ∧ (parseMethodDescriptor yX8_allScores.desc).map (fun d => d.parameters.length) = some 0 := by decide +kernel
set_option maxHeartbeats 4000000 in
set_option maxRecDepth 100000 in
theorem c_X8_allScores (l : Launch) (g : En) (N : Nat) (S8 : St) (res : Int64) (hf : f_X8_allScores N S8 = some res) : Met l yX8_allScores wsX8_allScores { frames := 1, cells := 0, slots := 0, locals := 25 } (roP g (wd_8 g S8) [.ref (g.2.2.1 8)]) (vp_Sl (fun r => r = res)) 0 0 (fun _ => False) := by
  refine Met.ofW (cc := cX8_allScores) (maxL := 1) (ret := (some .long)) (by decide) rfl ?_
  intro p e s m args below meth c s₁ B hml hv
  obtain ⟨rfl, hP, hK⟩ := hv
  have hx := B.exec
  have hb := B.bytes
  have hr := B.returns
  have hts := atoms_spec (ws := wsX8_allScores) B.pre
  have hown : s.vm.findClass RX8 = some m.cls := findClass_of_methodNamed B.named
  have hlk := B.notSynchronized
  have C : cxr g (wd_8 g S8) cX8_allScores 1 (some .long) wsX8_allScores RX8 p s m ([.ref (g.2.2.1 8)] : List Value).toArray meth c := ⟨⟨hx, hb, hr, hml, hown, hts, hlk⟩, hK, hP⟩
  have hl := lv_entry [.ref (g.2.2.1 8)] (n := 1) (Nat.le_of_ble_eq_true rfl)
  rw [lg_entry_eq]
  generalize (lg_sl [.ref (g.2.2.1 8)] ++ List.replicate (1 - (lg_sl [.ref (g.2.2.1 8)]).length) Slot.unset).toArray = ls at hl ⊢
  have hl : lv_has ls 1 [(0, .ref (g.2.2.1 8))] := hl
  unfold f_X8_allScores at hf
  refine lv_aload_n (pc := 0) hx hb dX8_allScores_0 rfl (lv_at hl 0 rfl) ?_
  refine lv_iconst (v := 0) (pc := 1) hx hb dX8_allScores_1 (by decide) ?_
  obtain ⟨r2, e2, hf⟩ := bdE hf
  refine krL (g := g) (wc := (wd_8 g S8)) (pc := 2) (As := [.int 0]) (rest := []) ⟨hx, hb, hml, hown, hts⟩ (c_X8_scoreOf l g N S8 0 r2 e2) (cwV 1 hts gX8_allScores_X8_scoreOf rfl rfl rfl h_X8_scoreOf ⟨Nat.le_of_ble_eq_true rfl, Nat.le_of_ble_eq_true rfl⟩) hK hP rfl rfl rfl hl.1 rfl (Nat.le_of_ble_eq_true rfl) dX8_allScores_2 ⟨Nat.zero_le _, Nat.zero_le _⟩ ?_
  refine lv_aload_n (pc := 5) hx hb dX8_allScores_5 rfl (lv_at hl 0 rfl) ?_
  refine lv_iconst (v := 1) (pc := 6) hx hb dX8_allScores_6 (by decide) ?_
  obtain ⟨r7, e7, hf⟩ := bdE hf
  refine krL (g := g) (wc := (wd_8 g S8)) (pc := 7) (As := [.int 1]) (rest := [.long r2]) ⟨hx, hb, hml, hown, hts⟩ (c_X8_scoreOf l g N S8 1 r7 e7) (cwV 1 hts gX8_allScores_X8_scoreOf rfl rfl rfl h_X8_scoreOf ⟨Nat.le_of_ble_eq_true rfl, Nat.le_of_ble_eq_true rfl⟩) hK hP rfl rfl rfl hl.1 rfl (Nat.le_of_ble_eq_true rfl) dX8_allScores_7 ⟨Nat.zero_le _, Nat.zero_le _⟩ ?_
  refine lv_ladd (pc := 10) hx hb dX8_allScores_10 ?_
  refine lv_aload_n (pc := 11) hx hb dX8_allScores_11 rfl (lv_at hl 0 rfl) ?_
  refine lv_iconst (v := 2) (pc := 12) hx hb dX8_allScores_12 (by decide) ?_
  obtain ⟨r13, e13, hf⟩ := bdE hf
  refine krL (g := g) (wc := (wd_8 g S8)) (pc := 13) (As := [.int 2]) (rest := [.long (r2 + r7)]) ⟨hx, hb, hml, hown, hts⟩ (c_X8_scoreOf l g N S8 2 r13 e13) (cwV 1 hts gX8_allScores_X8_scoreOf rfl rfl rfl h_X8_scoreOf ⟨Nat.le_of_ble_eq_true rfl, Nat.le_of_ble_eq_true rfl⟩) hK hP rfl rfl rfl hl.1 rfl (Nat.le_of_ble_eq_true rfl) dX8_allScores_13 ⟨Nat.zero_le _, Nat.zero_le _⟩ ?_
  refine lv_ladd (pc := 16) hx hb dX8_allScores_16 ?_
  refine lv_aload_n (pc := 17) hx hb dX8_allScores_17 rfl (lv_at hl 0 rfl) ?_
  refine lv_iconst (v := 3) (pc := 18) hx hb dX8_allScores_18 (by decide) ?_
  obtain ⟨r19, e19, hf⟩ := bdE hf
  refine krL (g := g) (wc := (wd_8 g S8)) (pc := 19) (As := [.int 3]) (rest := [.long ((r2 + r7) + r13)]) ⟨hx, hb, hml, hown, hts⟩ (c_X8_scoreOf l g N S8 3 r19 e19) (cwV 1 hts gX8_allScores_X8_scoreOf rfl rfl rfl h_X8_scoreOf ⟨Nat.le_of_ble_eq_true rfl, Nat.le_of_ble_eq_true rfl⟩) hK hP rfl rfl rfl hl.1 rfl (Nat.le_of_ble_eq_true rfl) dX8_allScores_19 ⟨Nat.zero_le _, Nat.zero_le _⟩ ?_
  refine lv_ladd (pc := 22) hx hb dX8_allScores_22 ?_
  have hf := Option.some.inj hf
  subst hf
  exact W.lret (v := (((r2 + r7) + r13) + r19)) hx hb hr (fun t ht hW => ⟨_, rfl, rfl, ht⟩) (fun _ h => by cases h) dX8_allScores_23
theorem h_X8_chance : yX8_chance.cls = RX8 ∧ yX8_chance.cls ≠ "java/lang/invoke/MethodHandle" ∧ yX8_chance.cls ≠ "java/lang/invoke/VarHandle" ∧ (parseMethodDescriptor yX8_chance.desc).map (fun d => d.parameters.length) = some 1 := by decide +kernel
set_option maxHeartbeats 4000000 in
set_option maxRecDepth 100000 in
theorem c_X8_chance (l : Launch) (g : En) (N : Nat) (sz : Nat) (S8 : St) (x1 : Int32) (res : Int32 × St) (hf : f_X8_chance N S8 x1 = some res) : Met l yX8_chance wsX8_chance { frames := 2, cells := 0, slots := 0, locals := 45 } (rwP g (wd_8 g S8) sz [.ref (g.2.2.1 8), .int x1]) (rwQi g (wd_8 g (res.2)) (va_A (wd_8 g S8) sz) (res.1)) 0 0 (va_A (wd_8 g S8) sz) := by
  refine Met.ofW (cc := cX8_chance) (maxL := 2) (ret := (some .int)) (by decide) rfl ?_
  intro p e s m args below meth c s₁ B hml hv
  obtain ⟨rfl, hsz, hP, hK, hD0⟩ := hv
  have hx := B.exec
  have hb := B.bytes
  have hr := B.returns
  have hts := atoms_spec (ws := wsX8_chance) B.pre
  have hown : s.vm.findClass RX8 = some m.cls := findClass_of_methodNamed B.named
  have hlk := B.notSynchronized
  subst hsz
  have hD := hD0.self (sz := s.heap.size)
  generalize hAe : va_A (wd_8 g S8) s.heap.size = A at hD ⊢
  have hA : ∀ q : Nat, s.heap.size ≤ q → A q := fun q h => by rw [← hAe]; exact Or.inr h
  have hS : va_S A s.heap s.heap [] := va_S.rf
  have C : cxw g A cX8_chance 2 (some .int) wsX8_chance RX8 p s m ([.ref (g.2.2.1 8), .int x1] : List Value).toArray meth c := ⟨⟨hx, hb, hr, hml, hown, hts, hlk⟩, hK, hA⟩
  have hl := lv_entry [.ref (g.2.2.1 8), .int x1] (n := 2) (Nat.le_of_ble_eq_true rfl)
  rw [lg_entry_eq]
  generalize (lg_sl [.ref (g.2.2.1 8), .int x1] ++ List.replicate (2 - (lg_sl [.ref (g.2.2.1 8), .int x1]).length) Slot.unset).toArray = ls at hl ⊢
  have hl : lv_has ls 2 [(0, .ref (g.2.2.1 8)), (1, .int x1)] := hl
  unfold f_X8_chance at hf
  suffices K9 : ∀ (H : Heap) (locs : List Loc), va_P g.1 vwCl (wd_8 g S8) H → va_D A (wd_8 g S8) → va_S A s.heap H locs → ((f_X8_isHand N x1).bind (fun r1 => (if r1 = 0 then some ((-1), S8) else ((f_X8_allScores N S8).bind (fun r10 => (if (lg_cmp r10 0) = 0 then ((f_X8_meets N S8 4).bind (fun r20 => some ((r20.1), (r20.2)))) else ((f_X8_scoreOf N S8 x1).bind (fun r29 => ((f_X8_allScores N S8).bind (fun r33 => ((f_X8_fraction N S8 r29 r33 1).bind (fun r37 => some ((r37.1), (r37.2)))))))))))))) = some res → W p l e (headSpec wsX8_chance { frames := 2, cells := 0, slots := 0, locals := 45 }).room s m ([.ref (g.2.2.1 8), .int x1] : List Value).toArray below meth c H locs 0 0 (MQ below (rwQi g (wd_8 g (res.2)) A (res.1)) ([.ref (g.2.2.1 8), .int x1] : List Value).toArray s 0 0 A) (F0 m 0 ls []) from K9 s.heap [] hP hD hS hf
  clear hP hD hS hf
  intro H locs hP hD hS hf
  refine lv_iload_n (pc := 0) hx hb dX8_chance_0 rfl (lv_at hl 1 rfl) ?_
  obtain ⟨r1, e1, hf⟩ := bdE hf
  refine ksI (pc := 1) (As := [.int x1]) (rest := []) ⟨hx, hb, hml, hown, hts⟩ (c_X8_isHand l N x1 r1 e1) (va_cwS 1 hts gX8_chance_X8_isHand rfl rfl rfl h_X8_isHand ⟨Nat.le_of_ble_eq_true rfl, Nat.le_of_ble_eq_true rfl⟩) rfl hl.1 rfl (Nat.le_of_ble_eq_true rfl) dX8_chance_1 ⟨Nat.zero_le _, Nat.zero_le _⟩ ?_
  refine lv_if_ne (tgt := 9) (pc := 4) hx hb dX8_chance_4 (by decide) (fun c4 => ?_) (fun c4 => ?_)
  · have hf := ff hf c4
    refine lv_aload_n (pc := 9) hx hb dX8_chance_9 rfl (lv_at hl 0 rfl) ?_
    obtain ⟨r10, e10, hf⟩ := bdE hf
    refine krL (g := g) (wc := (wd_8 g S8)) (pc := 10) (As := []) (rest := []) ⟨hx, hb, hml, hown, hts⟩ (c_X8_allScores l g N S8 r10 e10) (cwV 0 hts gX8_chance_X8_allScores rfl rfl rfl h_X8_allScores ⟨Nat.le_of_ble_eq_true rfl, Nat.le_of_ble_eq_true rfl⟩) hK hP rfl rfl rfl hl.1 rfl (Nat.le_of_ble_eq_true rfl) dX8_chance_10 ⟨Nat.zero_le _, Nat.zero_le _⟩ ?_
    refine lv_lconst (v := 0) (pc := 13) hx hb dX8_chance_13 (by decide) ?_
    refine W.lcmp (pc := 14) hx hb dX8_chance_14 ?_
    refine lv_if_ne (tgt := 26) (pc := 15) hx hb dX8_chance_15 (by decide) (fun c15 => ?_) (fun c15 => ?_)
    · have hf := ff hf c15
      refine lv_aload_n (pc := 26) hx hb dX8_chance_26 rfl (lv_at hl 0 rfl) ?_
      refine lv_aload_n (pc := 27) hx hb dX8_chance_27 rfl (lv_at hl 0 rfl) ?_
      refine lv_iload_n (pc := 28) hx hb dX8_chance_28 rfl (lv_at hl 1 rfl) ?_
      obtain ⟨r29, e29, hf⟩ := bdE hf
      refine krL (g := g) (wc := (wd_8 g S8)) (pc := 29) (As := [.int x1]) (rest := [.ref (g.2.2.1 8)]) ⟨hx, hb, hml, hown, hts⟩ (c_X8_scoreOf l g N S8 x1 r29 e29) (cwV 1 hts gX8_chance_X8_scoreOf rfl rfl rfl h_X8_scoreOf ⟨Nat.le_of_ble_eq_true rfl, Nat.le_of_ble_eq_true rfl⟩) hK hP rfl rfl rfl hl.1 rfl (Nat.le_of_ble_eq_true rfl) dX8_chance_29 ⟨Nat.zero_le _, Nat.zero_le _⟩ ?_
      refine lv_aload_n (pc := 32) hx hb dX8_chance_32 rfl (lv_at hl 0 rfl) ?_
      obtain ⟨r33, e33, hf⟩ := bdE hf
      refine krL (g := g) (wc := (wd_8 g S8)) (pc := 33) (As := []) (rest := [.long r29, .ref (g.2.2.1 8)]) ⟨hx, hb, hml, hown, hts⟩ (c_X8_allScores l g N S8 r33 e33) (cwV 0 hts gX8_chance_X8_allScores rfl rfl rfl h_X8_allScores ⟨Nat.le_of_ble_eq_true rfl, Nat.le_of_ble_eq_true rfl⟩) hK hP rfl rfl rfl hl.1 rfl (Nat.le_of_ble_eq_true rfl) dX8_chance_33 ⟨Nat.zero_le _, Nat.zero_le _⟩ ?_
      refine lv_iconst (v := 1) (pc := 36) hx hb dX8_chance_36 (by decide) ?_
      obtain ⟨r37, e37, hf⟩ := bdE hf
      refine kuI (g := g) (A := A) (W0 := (wd_8 g S8)) (w1 := (wd_8 g (r37.2))) (pc := 37) (As := [.long r29, .long r33, .int 1]) (rest := []) ⟨hx, hb, hml, hown, hts⟩ hK hA hP hD hS (c_X8_fraction l g N H.size S8 r29 r33 1 r37 e37) (cwV 3 hts gX8_chance_X8_fraction rfl rfl rfl h_X8_fraction ⟨Nat.le_of_ble_eq_true rfl, Nat.le_of_ble_eq_true rfl⟩) rfl rfl rfl hl.1 rfl (Nat.le_of_ble_eq_true rfl) dX8_chance_37 ⟨Nat.zero_le _, Nat.zero_le _⟩ (fun H locs hP hD hS => ?_)
      have hf := Option.some.inj hf
      subst hf
      exact W.iret (v := (r37.1)) hx hb hr (fun t ht hW => ⟨⟨_, (), rfl, rfl, by rw [ht]; exact hP, va_K.moved hW.alike hK, hD⟩, hS.F ht⟩) hS.2.2 dX8_chance_40
    · have hf := ft hf c15
      refine lv_aload_n (pc := 18) hx hb dX8_chance_18 rfl (lv_at hl 0 rfl) ?_
      refine lv_iconst (v := 4) (pc := 19) hx hb dX8_chance_19 (by decide) ?_
      obtain ⟨r20, e20, hf⟩ := bdE hf
      refine kuI (g := g) (A := A) (W0 := (wd_8 g S8)) (w1 := (wd_8 g (r20.2))) (pc := 20) (As := [.int 4]) (rest := []) ⟨hx, hb, hml, hown, hts⟩ hK hA hP hD hS (c_X8_meets l g N H.size S8 4 r20 e20) (cwV 1 hts gX8_chance_X8_meets rfl rfl rfl h_X8_meets ⟨Nat.le_of_ble_eq_true rfl, Nat.le_of_ble_eq_true rfl⟩) rfl rfl rfl hl.1 rfl (Nat.le_of_ble_eq_true rfl) dX8_chance_20 ⟨Nat.zero_le _, Nat.zero_le _⟩ (fun H locs hP hD hS => ?_)
      refine lv_goto (tgt := 40) (pc := 23) hx hb dX8_chance_23 (by decide) ?_
      have hf := Option.some.inj hf
      subst hf
      exact W.iret (v := (r20.1)) hx hb hr (fun t ht hW => ⟨⟨_, (), rfl, rfl, by rw [ht]; exact hP, va_K.moved hW.alike hK, hD⟩, hS.F ht⟩) hS.2.2 dX8_chance_40
  · have hf := ft hf c4
    refine lv_iconst (v := (-1)) (pc := 7) hx hb dX8_chance_7 (by decide) ?_
    have hf := Option.some.inj hf
    subst hf
    exact W.iret (v := (-1)) hx hb hr (fun t ht hW => ⟨⟨_, (), rfl, rfl, by rw [ht]; exact hP, va_K.moved hW.alike hK, hD⟩, hS.F ht⟩) hS.2.2 dX8_chance_8
theorem h_X8_likely : yX8_likely.cls = RX8 ∧ yX8_likely.cls ≠ "java/lang/invoke/MethodHandle" ∧ yX8_likely.cls ≠ "java/lang/invoke/VarHandle" ∧ (parseMethodDescriptor yX8_likely.desc).map (fun d => d.parameters.length) = some 0 := by decide +kernel
set_option maxHeartbeats 4000000 in
set_option maxRecDepth 100000 in
theorem w_X8_likely_43 {p : Program} {l : Launch} {e : Env} {s : State} {m : MethodId} {args : Array Value} {below : List Frame} {meth : Method} {c : Code} {g : En} {A : Nat → Prop} {N : Nat} {res : Int32 × St} (C : cxw g A cX8_likely 3 (some .int) wsX8_likely RX8 p s m args meth c) (k19 : St → Int32 → Int32 → Option (Int32 × St)) (H19 : ∀ (H : Heap) (locs : List Loc) (S8 : St) (ls : Array Slot) (x1 : Int32) (x2 : Int32), va_P g.1 vwCl (wd_8 g S8) H → va_D A (wd_8 g S8) → va_S A s.heap H locs → lv_has ls 3 [(0, .ref (g.2.2.1 8)), (1, .int x1), (2, .int x2)] → k19 S8 x1 x2 = some res → W p l e (headSpec wsX8_likely { frames := 2, cells := 0, slots := 0, locals := 45 }).room s m args below meth c H locs 0 0 (MQ below (rwQi g (wd_8 g (res.2)) A (res.1)) args s 0 0 A) (F0 m 19 ls [])) : ∀ (H : Heap) (locs : List Loc) (S8 : St) (ls : Array Slot) (x2 : Int32) (t0 : Int32), va_P g.1 vwCl (wd_8 g S8) H → va_D A (wd_8 g S8) → va_S A s.heap H locs → lv_has ls 3 [(0, .ref (g.2.2.1 8)), (2, .int x2)] → f_X8_likely_43 N  k19 S8 x2 t0 = some res → W p l e (headSpec wsX8_likely { frames := 2, cells := 0, slots := 0, locals := 45 }).room s m args below meth c H locs 0 0 (MQ below (rwQi g (wd_8 g (res.2)) A (res.1)) args s 0 0 A) (F0 m 43 ls [.int t0]) := by
  intro H locs S8 ls x2 t0 hP hD hS hl hf
  obtain ⟨⟨hx, hb, hr, hml, hown, hts, hlk⟩, hK, hA⟩ := id C
  unfold f_X8_likely_43 at hf
  refine lv_istore_n (lv' := [(1, .int t0), (0, .ref (g.2.2.1 8)), (2, .int x2)]) (pc := 43) hx hb dX8_likely_43 rfl hl (by decide) rfl (fun ls hl => ?_)
  refine lv_iinc (v := (x2 + 1)) (lv' := [(2, .int (x2 + 1)), (1, .int t0), (0, .ref (g.2.2.1 8))]) (pc := 44) hx hb dX8_likely_44 hl (k := 2) rfl rfl (by decide) rfl (fun ls hl => ?_)
  refine lv_goto (tgt := 19) (pc := 47) hx hb dX8_likely_47 (by decide) ?_
  exact H19 H locs S8 ls t0 (x2 + 1) hP hD hS (lv_sub hl [2, 1, 0] rfl) hf
set_option maxHeartbeats 4000000 in
set_option maxRecDepth 100000 in
theorem w_X8_likely_19_b {p : Program} {l : Launch} {e : Env} {s : State} {m : MethodId} {args : Array Value} {below : List Frame} {meth : Method} {c : Code} {g : En} {A : Nat → Prop} {N : Nat} {res : Int32 × St} (C : cxw g A cX8_likely 3 (some .int) wsX8_likely RX8 p s m args meth c) (k19 : St → Int32 → Int32 → Option (Int32 × St)) (H19 : ∀ (H : Heap) (locs : List Loc) (S8 : St) (ls : Array Slot) (x1 : Int32) (x2 : Int32), va_P g.1 vwCl (wd_8 g S8) H → va_D A (wd_8 g S8) → va_S A s.heap H locs → lv_has ls 3 [(0, .ref (g.2.2.1 8)), (1, .int x1), (2, .int x2)] → k19 S8 x1 x2 = some res → W p l e (headSpec wsX8_likely { frames := 2, cells := 0, slots := 0, locals := 45 }).room s m args below meth c H locs 0 0 (MQ below (rwQi g (wd_8 g (res.2)) A (res.1)) args s 0 0 A) (F0 m 19 ls [])) : ∀ (H : Heap) (locs : List Loc) (S8 : St) (ls : Array Slot) (x1 : Int32) (x2 : Int32), va_P g.1 vwCl (wd_8 g S8) H → va_D A (wd_8 g S8) → va_S A s.heap H locs → lv_has ls 3 [(0, .ref (g.2.2.1 8)), (1, .int x1), (2, .int x2)] → f_X8_likely_19_b N   k19 S8 x1 x2 = some res → W p l e (headSpec wsX8_likely { frames := 2, cells := 0, slots := 0, locals := 45 }).room s m args below meth c H locs 0 0 (MQ below (rwQi g (wd_8 g (res.2)) A (res.1)) args s 0 0 A) (F0 m 19 ls []) := by
  intro H locs S8 ls x1 x2 hP hD hS hl hf
  obtain ⟨⟨hx, hb, hr, hml, hown, hts, hlk⟩, hK, hA⟩ := id C
  unfold f_X8_likely_19_b at hf
  refine lv_iload_n (pc := 19) hx hb dX8_likely_19 rfl (lv_at hl 2 rfl) ?_
  refine lv_iconst (v := 4) (pc := 20) hx hb dX8_likely_20 (by decide) ?_
  refine lv_icmp_ge (tgt := 50) (pc := 21) hx hb dX8_likely_21 (by decide) (fun c21 => ?_) (fun c21 => ?_)
  · have hf := ft hf c21
    refine lv_iload_n (pc := 50) hx hb dX8_likely_50 rfl (lv_at hl 1 rfl) ?_
    have hf := Option.some.inj hf
    subst hf
    exact W.iret (v := x1) hx hb hr (fun t ht hW => ⟨⟨_, (), rfl, rfl, by rw [ht]; exact hP, va_K.moved hW.alike hK, hD⟩, hS.F ht⟩) hS.2.2 dX8_likely_51
  · have hf := ff hf c21
    refine lv_aload_n (pc := 24) hx hb dX8_likely_24 rfl (lv_at hl 0 rfl) ?_
    refine lv_iload_n (pc := 25) hx hb dX8_likely_25 rfl (lv_at hl 2 rfl) ?_
    obtain ⟨r26, e26, hf⟩ := bdE hf
    refine krL (g := g) (wc := (wd_8 g S8)) (pc := 26) (As := [.int x2]) (rest := []) ⟨hx, hb, hml, hown, hts⟩ (c_X8_scoreOf l g N S8 x2 r26 e26) (cwV 1 hts gX8_likely_X8_scoreOf rfl rfl rfl h_X8_scoreOf ⟨Nat.le_of_ble_eq_true rfl, Nat.le_of_ble_eq_true rfl⟩) hK hP rfl rfl rfl hl.1 rfl (Nat.le_of_ble_eq_true rfl) dX8_likely_26 ⟨Nat.zero_le _, Nat.zero_le _⟩ ?_
    refine lv_aload_n (pc := 29) hx hb dX8_likely_29 rfl (lv_at hl 0 rfl) ?_
    refine lv_iload_n (pc := 30) hx hb dX8_likely_30 rfl (lv_at hl 1 rfl) ?_
    obtain ⟨r31, e31, hf⟩ := bdE hf
    refine krL (g := g) (wc := (wd_8 g S8)) (pc := 31) (As := [.int x1]) (rest := [.long r26]) ⟨hx, hb, hml, hown, hts⟩ (c_X8_scoreOf l g N S8 x1 r31 e31) (cwV 1 hts gX8_likely_X8_scoreOf rfl rfl rfl h_X8_scoreOf ⟨Nat.le_of_ble_eq_true rfl, Nat.le_of_ble_eq_true rfl⟩) hK hP rfl rfl rfl hl.1 rfl (Nat.le_of_ble_eq_true rfl) dX8_likely_31 ⟨Nat.zero_le _, Nat.zero_le _⟩ ?_
    refine W.lcmp (pc := 34) hx hb dX8_likely_34 ?_
    refine lv_if_le (tgt := 42) (pc := 35) hx hb dX8_likely_35 (by decide) (fun c35 => ?_) (fun c35 => ?_)
    · have hf := ft hf c35
      refine lv_iload_n (pc := 42) hx hb dX8_likely_42 rfl (lv_at hl 1 rfl) ?_
      exact w_X8_likely_43 C k19 H19 H locs S8 ls x2 x1 hP hD hS (lv_sub hl [0, 2] rfl) hf
    · have hf := ff hf c35
      refine lv_iload_n (pc := 38) hx hb dX8_likely_38 rfl (lv_at hl 2 rfl) ?_
      refine lv_goto (tgt := 43) (pc := 39) hx hb dX8_likely_39 (by decide) ?_
      exact w_X8_likely_43 C k19 H19 H locs S8 ls x2 x2 hP hD hS (lv_sub hl [0, 2] rfl) hf
set_option maxHeartbeats 4000000 in
set_option maxRecDepth 100000 in
theorem w_X8_likely_19 {p : Program} {l : Launch} {e : Env} {s : State} {m : MethodId} {args : Array Value} {below : List Frame} {meth : Method} {c : Code} {g : En} {A : Nat → Prop} {N : Nat} {res : Int32 × St} (C : cxw g A cX8_likely 3 (some .int) wsX8_likely RX8 p s m args meth c) : ∀ (n : Nat), ∀ (H : Heap) (locs : List Loc) (S8 : St) (ls : Array Slot) (x1 : Int32) (x2 : Int32), va_P g.1 vwCl (wd_8 g S8) H → va_D A (wd_8 g S8) → va_S A s.heap H locs → lv_has ls 3 [(0, .ref (g.2.2.1 8)), (1, .int x1), (2, .int x2)] → f_X8_likely_19 N   n S8 x1 x2 = some res → W p l e (headSpec wsX8_likely { frames := 2, cells := 0, slots := 0, locals := 45 }).room s m args below meth c H locs 0 0 (MQ below (rwQi g (wd_8 g (res.2)) A (res.1)) args s 0 0 A) (F0 m 19 ls []) := by
  intro n
  induction n with
  | zero =>
    intro H locs S8 ls x1 x2 hP hD hS hl hf
    have hf : (none : Option (Int32 × St)) = some res := hf
    cases hf
  | succ n ih =>
    intro H locs S8 ls x1 x2 hP hD hS hl hf
    exact w_X8_likely_19_b C  (fun y0 y1 y2 => f_X8_likely_19 N   n y0 y1 y2) ih H locs S8 ls x1 x2 hP hD hS hl hf
set_option maxHeartbeats 4000000 in
set_option maxRecDepth 100000 in
theorem c_X8_likely (l : Launch) (g : En) (N : Nat) (sz : Nat) (S8 : St) (res : Int32 × St) (hf : f_X8_likely N S8 = some res) : Met l yX8_likely wsX8_likely { frames := 2, cells := 0, slots := 0, locals := 45 } (rwP g (wd_8 g S8) sz [.ref (g.2.2.1 8)]) (rwQi g (wd_8 g (res.2)) (va_A (wd_8 g S8) sz) (res.1)) 0 0 (va_A (wd_8 g S8) sz) := by
  refine Met.ofW (cc := cX8_likely) (maxL := 3) (ret := (some .int)) (by decide) rfl ?_
  intro p e s m args below meth c s₁ B hml hv
  obtain ⟨rfl, hsz, hP, hK, hD0⟩ := hv
  have hx := B.exec
  have hb := B.bytes
  have hr := B.returns
  have hts := atoms_spec (ws := wsX8_likely) B.pre
  have hown : s.vm.findClass RX8 = some m.cls := findClass_of_methodNamed B.named
  have hlk := B.notSynchronized
  subst hsz
  have hD := hD0.self (sz := s.heap.size)
  generalize hAe : va_A (wd_8 g S8) s.heap.size = A at hD ⊢
  have hA : ∀ q : Nat, s.heap.size ≤ q → A q := fun q h => by rw [← hAe]; exact Or.inr h
  have hS : va_S A s.heap s.heap [] := va_S.rf
  have C : cxw g A cX8_likely 3 (some .int) wsX8_likely RX8 p s m ([.ref (g.2.2.1 8)] : List Value).toArray meth c := ⟨⟨hx, hb, hr, hml, hown, hts, hlk⟩, hK, hA⟩
  have hl := lv_entry [.ref (g.2.2.1 8)] (n := 3) (Nat.le_of_ble_eq_true rfl)
  rw [lg_entry_eq]
  generalize (lg_sl [.ref (g.2.2.1 8)] ++ List.replicate (3 - (lg_sl [.ref (g.2.2.1 8)]).length) Slot.unset).toArray = ls at hl ⊢
  have hl : lv_has ls 3 [(0, .ref (g.2.2.1 8))] := hl
  unfold f_X8_likely at hf
  suffices K9 : ∀ (H : Heap) (locs : List Loc), va_P g.1 vwCl (wd_8 g S8) H → va_D A (wd_8 g S8) → va_S A s.heap H locs → ((f_X8_allScores N S8).bind (fun r1 => (if (lg_cmp r1 0) = 0 then ((f_X8_meets N S8 4).bind (fun r11 => some ((r11.1), (r11.2)))) else (f_X8_likely_19 N   N S8 0 1)))) = some res → W p l e (headSpec wsX8_likely { frames := 2, cells := 0, slots := 0, locals := 45 }).room s m ([.ref (g.2.2.1 8)] : List Value).toArray below meth c H locs 0 0 (MQ below (rwQi g (wd_8 g (res.2)) A (res.1)) ([.ref (g.2.2.1 8)] : List Value).toArray s 0 0 A) (F0 m 0 ls []) from K9 s.heap [] hP hD hS hf
  clear hP hD hS hf
  intro H locs hP hD hS hf
  refine lv_aload_n (pc := 0) hx hb dX8_likely_0 rfl (lv_at hl 0 rfl) ?_
  obtain ⟨r1, e1, hf⟩ := bdE hf
  refine krL (g := g) (wc := (wd_8 g S8)) (pc := 1) (As := []) (rest := []) ⟨hx, hb, hml, hown, hts⟩ (c_X8_allScores l g N S8 r1 e1) (cwV 0 hts gX8_likely_X8_allScores rfl rfl rfl h_X8_allScores ⟨Nat.le_of_ble_eq_true rfl, Nat.le_of_ble_eq_true rfl⟩) hK hP rfl rfl rfl hl.1 rfl (Nat.le_of_ble_eq_true rfl) dX8_likely_1 ⟨Nat.zero_le _, Nat.zero_le _⟩ ?_
  refine lv_lconst (v := 0) (pc := 4) hx hb dX8_likely_4 (by decide) ?_
  refine W.lcmp (pc := 5) hx hb dX8_likely_5 ?_
  refine lv_if_ne (tgt := 15) (pc := 6) hx hb dX8_likely_6 (by decide) (fun c6 => ?_) (fun c6 => ?_)
  · have hf := ff hf c6
    refine lv_iconst (v := 0) (pc := 15) hx hb dX8_likely_15 (by decide) ?_
    refine lv_istore_n (lv' := [(1, .int 0), (0, .ref (g.2.2.1 8))]) (pc := 16) hx hb dX8_likely_16 rfl hl (by decide) rfl (fun ls hl => ?_)
    refine lv_iconst (v := 1) (pc := 17) hx hb dX8_likely_17 (by decide) ?_
    refine lv_istore_n (lv' := [(2, .int 1), (1, .int 0), (0, .ref (g.2.2.1 8))]) (pc := 18) hx hb dX8_likely_18 rfl hl (by decide) rfl (fun ls hl => ?_)
    exact w_X8_likely_19 C  N H locs S8 ls 0 1 hP hD hS (lv_sub hl [2, 1, 0] rfl) hf
  · have hf := ft hf c6
    refine lv_aload_n (pc := 9) hx hb dX8_likely_9 rfl (lv_at hl 0 rfl) ?_
    refine lv_iconst (v := 4) (pc := 10) hx hb dX8_likely_10 (by decide) ?_
    obtain ⟨r11, e11, hf⟩ := bdE hf
    refine kuI (g := g) (A := A) (W0 := (wd_8 g S8)) (w1 := (wd_8 g (r11.2))) (pc := 11) (As := [.int 4]) (rest := []) ⟨hx, hb, hml, hown, hts⟩ hK hA hP hD hS (c_X8_meets l g N H.size S8 4 r11 e11) (cwV 1 hts gX8_likely_X8_meets rfl rfl rfl h_X8_meets ⟨Nat.le_of_ble_eq_true rfl, Nat.le_of_ble_eq_true rfl⟩) rfl rfl rfl hl.1 rfl (Nat.le_of_ble_eq_true rfl) dX8_likely_11 ⟨Nat.zero_le _, Nat.zero_le _⟩ (fun H locs hP hD hS => ?_)
    have hf := Option.some.inj hf
    subst hf
    exact W.iret (v := (r11.1)) hx hb hr (fun t ht hW => ⟨⟨_, (), rfl, rfl, by rw [ht]; exact hP, va_K.moved hW.alike hK, hD⟩, hS.F ht⟩) hS.2.2 dX8_likely_14
theorem q_X8_gainOf_0 : (.constantLong RX8 222 16 : Cond) ∈ wsX8_gainOf := by decide +kernel
theorem q_X8_gainOf_1 : (.fieldLink RX8 65 "PictureCourtModel" "testOften" "[I" : Cond) ∈ wsX8_gainOf := by decide +kernel
theorem h_X8_gainOf : yX8_gainOf.cls = RX8 ∧ yX8_gainOf.cls ≠ "java/lang/invoke/MethodHandle" ∧ yX8_gainOf.cls ≠ "java/lang/invoke/VarHandle" ∧ (parseMethodDescriptor yX8_gainOf.desc).map (fun d => d.parameters.length) = some 1 := by decide +kernel
set_option maxHeartbeats 4000000 in
set_option maxRecDepth 100000 in
theorem w_X8_gainOf_106 {p : Program} {l : Launch} {e : Env} {s : State} {m : MethodId} {args : Array Value} {below : List Frame} {meth : Method} {c : Code} {g : En} {N : Nat} {S8 : St} {res : Int64} (C : cxr g (wd_8 g S8) cX8_gainOf 12 (some .long) wsX8_gainOf RX8 p s m args meth c) (k11 : Int32 → Int64 → Int64 → Int64 → Int32 → Option (Int64)) (H11 : ∀ (ls : Array Slot) (x1 : Int32) (x2 : Int64) (x4 : Int64) (x6 : Int64) (x8 : Int32), lv_has ls 12 [(0, .ref (g.2.2.1 8)), (1, .int x1), (2, .long x2), (4, .long x4), (6, .long x6), (8, .int x8)] → k11 x1 x2 x4 x6 x8 = some res → W p l e (headSpec wsX8_gainOf { frames := 1, cells := 0, slots := 0, locals := 25 }).room s m args below meth c s.heap [] 0 0 (MQ below (vp_Sl (fun r => r = res)) args s 0 0 (fun _ => False)) (F0 m 11 ls [])) : ∀ (ls : Array Slot) (x1 : Int32) (x2 : Int64) (x4 : Int64) (x8 : Int32) (t0 : Int64), lv_has ls 12 [(0, .ref (g.2.2.1 8)), (1, .int x1), (2, .long x2), (4, .long x4), (8, .int x8)] → f_X8_gainOf_106 N S8 k11 x1 x2 x4 x8 t0 = some res → W p l e (headSpec wsX8_gainOf { frames := 1, cells := 0, slots := 0, locals := 25 }).room s m args below meth c s.heap [] 0 0 (MQ below (vp_Sl (fun r => r = res)) args s 0 0 (fun _ => False)) (F0 m 106 ls [.long t0]) := by
  intro ls x1 x2 x4 x8 t0 hl hf
  obtain ⟨⟨hx, hb, hr, hml, hown, hts, hlk⟩, hK, hP⟩ := id C
  unfold f_X8_gainOf_106 at hf
  refine lv_lstore (lv' := [(6, .long t0), (0, .ref (g.2.2.1 8)), (1, .int x1), (2, .long x2), (4, .long x4), (8, .int x8)]) (pc := 106) hx hb dX8_gainOf_106 hl (by decide) rfl (fun ls hl => ?_)
  refine lv_iinc (v := (x8 + 1)) (lv' := [(8, .int (x8 + 1)), (6, .long t0), (0, .ref (g.2.2.1 8)), (1, .int x1), (2, .long x2), (4, .long x4)]) (pc := 108) hx hb dX8_gainOf_108 hl (k := 5) rfl rfl (by decide) rfl (fun ls hl => ?_)
  refine lv_goto (tgt := 11) (pc := 111) hx hb dX8_gainOf_111 (by decide) ?_
  exact H11 ls x1 x2 x4 t0 (x8 + 1) (lv_sub hl [2, 3, 4, 5, 1, 0] rfl) hf
set_option maxHeartbeats 4000000 in
set_option maxRecDepth 100000 in
theorem w_X8_gainOf_89 {p : Program} {l : Launch} {e : Env} {s : State} {m : MethodId} {args : Array Value} {below : List Frame} {meth : Method} {c : Code} {g : En} {N : Nat} {S8 : St} {res : Int64} (C : cxr g (wd_8 g S8) cX8_gainOf 12 (some .long) wsX8_gainOf RX8 p s m args meth c) (k11 : Int32 → Int64 → Int64 → Int64 → Int32 → Option (Int64)) (H11 : ∀ (ls : Array Slot) (x1 : Int32) (x2 : Int64) (x4 : Int64) (x6 : Int64) (x8 : Int32), lv_has ls 12 [(0, .ref (g.2.2.1 8)), (1, .int x1), (2, .long x2), (4, .long x4), (6, .long x6), (8, .int x8)] → k11 x1 x2 x4 x6 x8 = some res → W p l e (headSpec wsX8_gainOf { frames := 1, cells := 0, slots := 0, locals := 25 }).room s m args below meth c s.heap [] 0 0 (MQ below (vp_Sl (fun r => r = res)) args s 0 0 (fun _ => False)) (F0 m 11 ls [])) : ∀ (ls : Array Slot) (x1 : Int32) (x2 : Int64) (x6 : Int64) (x8 : Int32) (x9 : Int64) (t0 : Int64), lv_has ls 12 [(0, .ref (g.2.2.1 8)), (1, .int x1), (2, .long x2), (6, .long x6), (8, .int x8), (9, .long x9)] → f_X8_gainOf_89 N S8 k11 x1 x2 x6 x8 x9 t0 = some res → W p l e (headSpec wsX8_gainOf { frames := 1, cells := 0, slots := 0, locals := 25 }).room s m args below meth c s.heap [] 0 0 (MQ below (vp_Sl (fun r => r = res)) args s 0 0 (fun _ => False)) (F0 m 89 ls [.long t0]) := by
  intro ls x1 x2 x6 x8 x9 t0 hl hf
  obtain ⟨⟨hx, hb, hr, hml, hown, hts, hlk⟩, hK, hP⟩ := id C
  unfold f_X8_gainOf_89 at hf
  refine lv_lstore (lv' := [(4, .long t0), (0, .ref (g.2.2.1 8)), (1, .int x1), (2, .long x2), (6, .long x6), (8, .int x8), (9, .long x9)]) (pc := 89) hx hb dX8_gainOf_89 hl (by decide) rfl (fun ls hl => ?_)
  refine lv_lload (pc := 91) hx hb dX8_gainOf_91 (lv_at hl 6 rfl) ?_
  refine lv_lload (pc := 93) hx hb dX8_gainOf_93 (lv_at hl 4 rfl) ?_
  refine W.lcmp (pc := 95) hx hb dX8_gainOf_95 ?_
  refine lv_if_le (tgt := 104) (pc := 96) hx hb dX8_gainOf_96 (by decide) (fun c96 => ?_) (fun c96 => ?_)
  · have hf := ft hf c96
    refine lv_lload (pc := 104) hx hb dX8_gainOf_104 (lv_at hl 4 rfl) ?_
    exact w_X8_gainOf_106 C k11 H11 ls x1 x2 t0 x8 x6 (lv_sub hl [1, 2, 3, 0, 5] rfl) hf
  · have hf := ff hf c96
    refine lv_lload (pc := 99) hx hb dX8_gainOf_99 (lv_at hl 6 rfl) ?_
    refine lv_goto (tgt := 106) (pc := 101) hx hb dX8_gainOf_101 (by decide) ?_
    exact w_X8_gainOf_106 C k11 H11 ls x1 x2 t0 x8 x9 (lv_sub hl [1, 2, 3, 0, 5] rfl) hf
set_option maxHeartbeats 4000000 in
set_option maxRecDepth 100000 in
theorem w_X8_gainOf_59 {p : Program} {l : Launch} {e : Env} {s : State} {m : MethodId} {args : Array Value} {below : List Frame} {meth : Method} {c : Code} {g : En} {N : Nat} {S8 : St} {res : Int64} (C : cxr g (wd_8 g S8) cX8_gainOf 12 (some .long) wsX8_gainOf RX8 p s m args meth c) (k11 : Int32 → Int64 → Int64 → Int64 → Int32 → Option (Int64)) (H11 : ∀ (ls : Array Slot) (x1 : Int32) (x2 : Int64) (x4 : Int64) (x6 : Int64) (x8 : Int32), lv_has ls 12 [(0, .ref (g.2.2.1 8)), (1, .int x1), (2, .long x2), (4, .long x4), (6, .long x6), (8, .int x8)] → k11 x1 x2 x4 x6 x8 = some res → W p l e (headSpec wsX8_gainOf { frames := 1, cells := 0, slots := 0, locals := 25 }).room s m args below meth c s.heap [] 0 0 (MQ below (vp_Sl (fun r => r = res)) args s 0 0 (fun _ => False)) (F0 m 11 ls [])) : ∀ (ls : Array Slot) (x1 : Int32) (x4 : Int64) (x6 : Int64) (x8 : Int32) (x9 : Int64) (x11 : Int32) (t0 : Int64), lv_has ls 12 [(0, .ref (g.2.2.1 8)), (1, .int x1), (4, .long x4), (6, .long x6), (8, .int x8), (9, .long x9), (11, .int x11)] → f_X8_gainOf_59 N S8 k11 x1 x4 x6 x8 x9 x11 t0 = some res → W p l e (headSpec wsX8_gainOf { frames := 1, cells := 0, slots := 0, locals := 25 }).room s m args below meth c s.heap [] 0 0 (MQ below (vp_Sl (fun r => r = res)) args s 0 0 (fun _ => False)) (F0 m 59 ls [.long t0]) := by
  intro ls x1 x4 x6 x8 x9 x11 t0 hl hf
  obtain ⟨⟨hx, hb, hr, hml, hown, hts, hlk⟩, hK, hP⟩ := id C
  unfold f_X8_gainOf_59 at hf
  refine lv_lstore_n (lv' := [(2, .long t0), (0, .ref (g.2.2.1 8)), (1, .int x1), (4, .long x4), (6, .long x6), (8, .int x8), (9, .long x9), (11, .int x11)]) (pc := 59) hx hb dX8_gainOf_59 rfl hl (by decide) rfl (fun ls hl => ?_)
  refine lv_lload (pc := 60) hx hb dX8_gainOf_60 (lv_at hl 6 rfl) ?_
  refine lv_bipush (v := 16) (pc := 62) hx hb dX8_gainOf_62 (by decide) ?_
  refine lv_iload (pc := 64) hx hb dX8_gainOf_64 (lv_at hl 7 rfl) ?_
  refine lv_isub (pc := 66) hx hb dX8_gainOf_66 ?_
  refine lv_i2l (pc := 67) hx hb dX8_gainOf_67 rfl ?_
  refine lv_lmul (pc := 68) hx hb dX8_gainOf_68 ?_
  refine lv_lload (pc := 69) hx hb dX8_gainOf_69 (lv_at hl 3 rfl) ?_
  refine W.lcmp (pc := 71) hx hb dX8_gainOf_71 ?_
  refine lv_if_le (tgt := 87) (pc := 72) hx hb dX8_gainOf_72 (by decide) (fun c72 => ?_) (fun c72 => ?_)
  · have hf := ft hf c72
    refine lv_lload (pc := 87) hx hb dX8_gainOf_87 (lv_at hl 3 rfl) ?_
    exact w_X8_gainOf_89 C k11 H11 ls x1 t0 x6 x8 x9 x4 (lv_sub hl [1, 2, 0, 4, 5, 6] rfl) hf
  · have hf := ff hf c72
    refine lv_lload (pc := 75) hx hb dX8_gainOf_75 (lv_at hl 6 rfl) ?_
    refine lv_bipush (v := 16) (pc := 77) hx hb dX8_gainOf_77 (by decide) ?_
    refine lv_iload (pc := 79) hx hb dX8_gainOf_79 (lv_at hl 7 rfl) ?_
    refine lv_isub (pc := 81) hx hb dX8_gainOf_81 ?_
    refine lv_i2l (pc := 82) hx hb dX8_gainOf_82 rfl ?_
    refine lv_lmul (pc := 83) hx hb dX8_gainOf_83 ?_
    refine lv_goto (tgt := 89) (pc := 84) hx hb dX8_gainOf_84 (by decide) ?_
    exact w_X8_gainOf_89 C k11 H11 ls x1 t0 x6 x8 x9 (x9 * (Int32.toInt64 (16 - x11))) (lv_sub hl [1, 2, 0, 4, 5, 6] rfl) hf
set_option maxHeartbeats 4000000 in
set_option maxRecDepth 100000 in
theorem w_X8_gainOf_11_b {p : Program} {l : Launch} {e : Env} {s : State} {m : MethodId} {args : Array Value} {below : List Frame} {meth : Method} {c : Code} {g : En} {N : Nat} {S8 : St} {res : Int64} (C : cxr g (wd_8 g S8) cX8_gainOf 12 (some .long) wsX8_gainOf RX8 p s m args meth c) (k11 : Int32 → Int64 → Int64 → Int64 → Int32 → Option (Int64)) (H11 : ∀ (ls : Array Slot) (x1 : Int32) (x2 : Int64) (x4 : Int64) (x6 : Int64) (x8 : Int32), lv_has ls 12 [(0, .ref (g.2.2.1 8)), (1, .int x1), (2, .long x2), (4, .long x4), (6, .long x6), (8, .int x8)] → k11 x1 x2 x4 x6 x8 = some res → W p l e (headSpec wsX8_gainOf { frames := 1, cells := 0, slots := 0, locals := 25 }).room s m args below meth c s.heap [] 0 0 (MQ below (vp_Sl (fun r => r = res)) args s 0 0 (fun _ => False)) (F0 m 11 ls [])) : ∀ (ls : Array Slot) (x1 : Int32) (x2 : Int64) (x4 : Int64) (x6 : Int64) (x8 : Int32), lv_has ls 12 [(0, .ref (g.2.2.1 8)), (1, .int x1), (2, .long x2), (4, .long x4), (6, .long x6), (8, .int x8)] → f_X8_gainOf_11_b N S8  k11 x1 x2 x4 x6 x8 = some res → W p l e (headSpec wsX8_gainOf { frames := 1, cells := 0, slots := 0, locals := 25 }).room s m args below meth c s.heap [] 0 0 (MQ below (vp_Sl (fun r => r = res)) args s 0 0 (fun _ => False)) (F0 m 11 ls []) := by
  intro ls x1 x2 x4 x6 x8 hl hf
  obtain ⟨⟨hx, hb, hr, hml, hown, hts, hlk⟩, hK, hP⟩ := id C
  unfold f_X8_gainOf_11_b at hf
  refine lv_iload (pc := 11) hx hb dX8_gainOf_11 (lv_at hl 5 rfl) ?_
  refine lv_iconst (v := 4) (pc := 13) hx hb dX8_gainOf_13 (by decide) ?_
  refine lv_icmp_ge (tgt := 114) (pc := 14) hx hb dX8_gainOf_14 (by decide) (fun c14 => ?_) (fun c14 => ?_)
  · have hf := ft hf c14
    refine lv_lload_n (pc := 114) hx hb dX8_gainOf_114 rfl (lv_at hl 2 rfl) ?_
    refine lv_lload (pc := 115) hx hb dX8_gainOf_115 (lv_at hl 3 rfl) ?_
    refine lv_ladd (pc := 117) hx hb dX8_gainOf_117 ?_
    refine lv_ldc2 (v := 16) (pc := 118) hx hb hown (hts _ q_X8_gainOf_0) dX8_gainOf_118 ?_
    refine lv_lload (pc := 121) hx hb dX8_gainOf_121 (lv_at hl 4 rfl) ?_
    refine lv_lmul (pc := 123) hx hb dX8_gainOf_123 ?_
    refine lv_lsub (pc := 124) hx hb dX8_gainOf_124 ?_
    have hf := Option.some.inj hf
    subst hf
    exact W.lret (v := ((x2 + x4) - (16 * x6))) hx hb hr (fun t ht hW => ⟨_, rfl, rfl, ht⟩) (fun _ h => by cases h) dX8_gainOf_125
  · have hf := ff hf c14
    refine lv_aload_n (pc := 17) hx hb dX8_gainOf_17 rfl (lv_at hl 0 rfl) ?_
    refine lv_iload (pc := 18) hx hb dX8_gainOf_18 (lv_at hl 5 rfl) ?_
    obtain ⟨r20, e20, hf⟩ := bdE hf
    refine krL (g := g) (wc := (wd_8 g S8)) (pc := 20) (As := [.int x8]) (rest := []) ⟨hx, hb, hml, hown, hts⟩ (c_X8_scoreOf l g N S8 x8 r20 e20) (cwV 1 hts gX8_gainOf_X8_scoreOf rfl rfl rfl h_X8_scoreOf ⟨Nat.le_of_ble_eq_true rfl, Nat.le_of_ble_eq_true rfl⟩) hK hP rfl rfl rfl hl.1 rfl (Nat.le_of_ble_eq_true rfl) dX8_gainOf_20 ⟨Nat.zero_le _, Nat.zero_le _⟩ ?_
    refine lv_lstore (lv' := [(9, .long r20), (0, .ref (g.2.2.1 8)), (1, .int x1), (2, .long x2), (4, .long x4), (6, .long x6), (8, .int x8)]) (pc := 23) hx hb dX8_gainOf_23 hl (by decide) rfl (fun ls hl => ?_)
    refine lv_aload_n (pc := 25) hx hb dX8_gainOf_25 rfl (lv_at hl 1 rfl) ?_
    refine va_get (D := g.1) (ci := 8) (v := .ref (g.2.2.2 8 28)) (C := RX8) (T := TX8) (N := 47) (pc := 26) hx hb hts (fun _ h => List.mem_cons_of_mem _ (List.mem_append_right _ h)) hown hK hP 0 rfl rfl 28 (by decide) (hts _ q_X8_gainOf_1) (fun _ h9 => h9) rfl dX8_gainOf_26 ?_
    refine lv_iconst (v := 4) (pc := 29) hx hb dX8_gainOf_29 (by decide) ?_
    refine lv_iload_n (pc := 30) hx hb dX8_gainOf_30 rfl (lv_at hl 2 rfl) ?_
    refine lv_imul (pc := 31) hx hb dX8_gainOf_31 ?_
    refine lv_iload (pc := 32) hx hb dX8_gainOf_32 (lv_at hl 6 rfl) ?_
    refine lv_iadd (pc := 34) hx hb dX8_gainOf_34 ?_
    obtain ⟨b35, hf⟩ := gdE hf
    refine va_iald (D := g.1) (tys := tyl g) (f := (S8.2.2 28)) (pc := 35) hx hb hK hP 19 0 rfl rfl (inbV b35) dX8_gainOf_35 ?_
    refine lv_istore (lv' := [(11, .int ((S8.2.2 28) (Int32.toNatClampNeg ((4 * x1) + x8)))), (9, .long r20), (0, .ref (g.2.2.1 8)), (1, .int x1), (2, .long x2), (4, .long x4), (6, .long x6), (8, .int x8)]) (pc := 36) hx hb dX8_gainOf_36 hl (by decide) rfl (fun ls hl => ?_)
    refine lv_lload (pc := 38) hx hb dX8_gainOf_38 (lv_at hl 1 rfl) ?_
    refine lv_iload (pc := 40) hx hb dX8_gainOf_40 (lv_at hl 0 rfl) ?_
    refine lv_i2l (pc := 42) hx hb dX8_gainOf_42 rfl ?_
    refine lv_lmul (pc := 43) hx hb dX8_gainOf_43 ?_
    refine lv_lload_n (pc := 44) hx hb dX8_gainOf_44 rfl (lv_at hl 4 rfl) ?_
    refine W.lcmp (pc := 45) hx hb dX8_gainOf_45 ?_
    refine lv_if_le (tgt := 58) (pc := 46) hx hb dX8_gainOf_46 (by decide) (fun c46 => ?_) (fun c46 => ?_)
    · have hf := ft hf c46
      refine lv_lload_n (pc := 58) hx hb dX8_gainOf_58 rfl (lv_at hl 4 rfl) ?_
      exact w_X8_gainOf_59 C k11 H11 ls x1 x4 x6 x8 r20 ((S8.2.2 28) (Int32.toNatClampNeg ((4 * x1) + x8))) x2 (lv_sub hl [2, 3, 5, 6, 7, 1, 0] rfl) hf
    · have hf := ff hf c46
      refine lv_lload (pc := 49) hx hb dX8_gainOf_49 (lv_at hl 1 rfl) ?_
      refine lv_iload (pc := 51) hx hb dX8_gainOf_51 (lv_at hl 0 rfl) ?_
      refine lv_i2l (pc := 53) hx hb dX8_gainOf_53 rfl ?_
      refine lv_lmul (pc := 54) hx hb dX8_gainOf_54 ?_
      refine lv_goto (tgt := 59) (pc := 55) hx hb dX8_gainOf_55 (by decide) ?_
      exact w_X8_gainOf_59 C k11 H11 ls x1 x4 x6 x8 r20 ((S8.2.2 28) (Int32.toNatClampNeg ((4 * x1) + x8))) (r20 * (Int32.toInt64 ((S8.2.2 28) (Int32.toNatClampNeg ((4 * x1) + x8))))) (lv_sub hl [2, 3, 5, 6, 7, 1, 0] rfl) hf
set_option maxHeartbeats 4000000 in
set_option maxRecDepth 100000 in
theorem w_X8_gainOf_11 {p : Program} {l : Launch} {e : Env} {s : State} {m : MethodId} {args : Array Value} {below : List Frame} {meth : Method} {c : Code} {g : En} {N : Nat} {S8 : St} {res : Int64} (C : cxr g (wd_8 g S8) cX8_gainOf 12 (some .long) wsX8_gainOf RX8 p s m args meth c) : ∀ (n : Nat), ∀ (ls : Array Slot) (x1 : Int32) (x2 : Int64) (x4 : Int64) (x6 : Int64) (x8 : Int32), lv_has ls 12 [(0, .ref (g.2.2.1 8)), (1, .int x1), (2, .long x2), (4, .long x4), (6, .long x6), (8, .int x8)] → f_X8_gainOf_11 N S8  n x1 x2 x4 x6 x8 = some res → W p l e (headSpec wsX8_gainOf { frames := 1, cells := 0, slots := 0, locals := 25 }).room s m args below meth c s.heap [] 0 0 (MQ below (vp_Sl (fun r => r = res)) args s 0 0 (fun _ => False)) (F0 m 11 ls []) := by
  intro n
  induction n with
  | zero =>
    intro ls x1 x2 x4 x6 x8 hl hf
    have hf : (none : Option (Int64)) = some res := hf
    cases hf
  | succ n ih =>
    intro ls x1 x2 x4 x6 x8 hl hf
    exact w_X8_gainOf_11_b C  (fun y0 y1 y2 y3 y4 => f_X8_gainOf_11 N S8  n y0 y1 y2 y3 y4) ih ls x1 x2 x4 x6 x8 hl hf
set_option maxHeartbeats 4000000 in
set_option maxRecDepth 100000 in
theorem c_X8_gainOf (l : Launch) (g : En) (N : Nat) (S8 : St) (x1 : Int32) (res : Int64) (hf : f_X8_gainOf N S8 x1 = some res) : Met l yX8_gainOf wsX8_gainOf { frames := 1, cells := 0, slots := 0, locals := 25 } (roP g (wd_8 g S8) [.ref (g.2.2.1 8), .int x1]) (vp_Sl (fun r => r = res)) 0 0 (fun _ => False) := by
  refine Met.ofW (cc := cX8_gainOf) (maxL := 12) (ret := (some .long)) (by decide) rfl ?_
  intro p e s m args below meth c s₁ B hml hv
  obtain ⟨rfl, hP, hK⟩ := hv
  have hx := B.exec
  have hb := B.bytes
  have hr := B.returns
  have hts := atoms_spec (ws := wsX8_gainOf) B.pre
  have hown : s.vm.findClass RX8 = some m.cls := findClass_of_methodNamed B.named
  have hlk := B.notSynchronized
  have C : cxr g (wd_8 g S8) cX8_gainOf 12 (some .long) wsX8_gainOf RX8 p s m ([.ref (g.2.2.1 8), .int x1] : List Value).toArray meth c := ⟨⟨hx, hb, hr, hml, hown, hts, hlk⟩, hK, hP⟩
  have hl := lv_entry [.ref (g.2.2.1 8), .int x1] (n := 12) (Nat.le_of_ble_eq_true rfl)
  rw [lg_entry_eq]
  generalize (lg_sl [.ref (g.2.2.1 8), .int x1] ++ List.replicate (12 - (lg_sl [.ref (g.2.2.1 8), .int x1]).length) Slot.unset).toArray = ls at hl ⊢
  have hl : lv_has ls 12 [(0, .ref (g.2.2.1 8)), (1, .int x1)] := hl
  unfold f_X8_gainOf at hf
  refine lv_lconst (v := 0) (pc := 0) hx hb dX8_gainOf_0 (by decide) ?_
  refine lv_lstore_n (lv' := [(2, .long 0), (0, .ref (g.2.2.1 8)), (1, .int x1)]) (pc := 1) hx hb dX8_gainOf_1 rfl hl (by decide) rfl (fun ls hl => ?_)
  refine lv_lconst (v := 0) (pc := 2) hx hb dX8_gainOf_2 (by decide) ?_
  refine lv_lstore (lv' := [(4, .long 0), (2, .long 0), (0, .ref (g.2.2.1 8)), (1, .int x1)]) (pc := 3) hx hb dX8_gainOf_3 hl (by decide) rfl (fun ls hl => ?_)
  refine lv_lconst (v := 0) (pc := 5) hx hb dX8_gainOf_5 (by decide) ?_
  refine lv_lstore (lv' := [(6, .long 0), (4, .long 0), (2, .long 0), (0, .ref (g.2.2.1 8)), (1, .int x1)]) (pc := 6) hx hb dX8_gainOf_6 hl (by decide) rfl (fun ls hl => ?_)
  refine lv_iconst (v := 0) (pc := 8) hx hb dX8_gainOf_8 (by decide) ?_
  refine lv_istore (lv' := [(8, .int 0), (6, .long 0), (4, .long 0), (2, .long 0), (0, .ref (g.2.2.1 8)), (1, .int x1)]) (pc := 9) hx hb dX8_gainOf_9 hl (by decide) rfl (fun ls hl => ?_)
  exact w_X8_gainOf_11 C  N ls x1 0 0 0 0 (lv_sub hl [4, 5, 3, 2, 1, 0] rfl) hf
theorem q_X8_isOpen_0 : (.fieldLink RX8 68 "PictureCourtModel" "testOut" "[I" : Cond) ∈ wsX8_isOpen := by decide +kernel
theorem h_X8_isOpen : yX8_isOpen.cls = RX8 ∧ yX8_isOpen.cls ≠ "java/lang/invoke/MethodHandle" ∧ yX8_isOpen.cls ≠ "java/lang/invoke/VarHandle" ∧ (parseMethodDescriptor yX8_isOpen.desc).map (fun d => d.parameters.length) = some 1 := by decide +kernel
set_option maxHeartbeats 4000000 in
set_option maxRecDepth 100000 in
theorem c_X8_isOpen (l : Launch) (g : En) (N : Nat) (S8 : St) (x1 : Int32) (res : Int32) (hf : f_X8_isOpen N S8 x1 = some res) : Met l yX8_isOpen wsX8_isOpen { frames := 1, cells := 0, slots := 0, locals := 23 } (roP g (wd_8 g S8) [.ref (g.2.2.1 8), .int x1]) (vp_Si (fun r => r = res)) 0 0 (fun _ => False) := by
  refine Met.ofW (cc := cX8_isOpen) (maxL := 2) (ret := (some .boolean)) (by decide) rfl ?_
  intro p e s m args below meth c s₁ B hml hv
  obtain ⟨rfl, hP, hK⟩ := hv
  have hx := B.exec
  have hb := B.bytes
  have hr := B.returns
  have hts := atoms_spec (ws := wsX8_isOpen) B.pre
  have hown : s.vm.findClass RX8 = some m.cls := findClass_of_methodNamed B.named
  have hlk := B.notSynchronized
  have C : cxr g (wd_8 g S8) cX8_isOpen 2 (some .boolean) wsX8_isOpen RX8 p s m ([.ref (g.2.2.1 8), .int x1] : List Value).toArray meth c := ⟨⟨hx, hb, hr, hml, hown, hts, hlk⟩, hK, hP⟩
  have hl := lv_entry [.ref (g.2.2.1 8), .int x1] (n := 2) (Nat.le_of_ble_eq_true rfl)
  rw [lg_entry_eq]
  generalize (lg_sl [.ref (g.2.2.1 8), .int x1] ++ List.replicate (2 - (lg_sl [.ref (g.2.2.1 8), .int x1]).length) Slot.unset).toArray = ls at hl ⊢
  have hl : lv_has ls 2 [(0, .ref (g.2.2.1 8)), (1, .int x1)] := hl
  unfold f_X8_isOpen at hf
  refine lv_aload_n (pc := 0) hx hb dX8_isOpen_0 rfl (lv_at hl 0 rfl) ?_
  refine va_get (D := g.1) (ci := 8) (v := .ref (g.2.2.2 8 29)) (C := RX8) (T := TX8) (N := 47) (pc := 1) hx hb hts (fun _ h => List.mem_cons_of_mem _ (List.mem_append_right _ h)) hown hK hP 0 rfl rfl 29 (by decide) (hts _ q_X8_isOpen_0) (fun _ h9 => h9) rfl dX8_isOpen_1 ?_
  refine lv_iload_n (pc := 4) hx hb dX8_isOpen_4 rfl (lv_at hl 1 rfl) ?_
  obtain ⟨b5, hf⟩ := gdE hf
  refine va_iald (D := g.1) (tys := tyl g) (f := (S8.2.2 29)) (pc := 5) hx hb hK hP 20 0 rfl rfl (inbV b5) dX8_isOpen_5 ?_
  refine lv_bipush (v := (-9)) (pc := 6) hx hb dX8_isOpen_6 (by decide) ?_
  refine lv_icmp_ne (tgt := 23) (pc := 8) hx hb dX8_isOpen_8 (by decide) (fun c8 => ?_) (fun c8 => ?_)
  · have hf := ff hf c8
    refine lv_iconst (v := 0) (pc := 23) hx hb dX8_isOpen_23 (by decide) ?_
    have hf := Option.some.inj hf
    subst hf
    exact W.zret (v := 0) hx hb hr rfl (fun t ht hW => ⟨_, rfl, rfl, ht⟩) (fun _ h => by cases h) dX8_isOpen_24
  · have hf := ft hf c8
    refine lv_aload_n (pc := 11) hx hb dX8_isOpen_11 rfl (lv_at hl 0 rfl) ?_
    refine lv_iload_n (pc := 12) hx hb dX8_isOpen_12 rfl (lv_at hl 1 rfl) ?_
    obtain ⟨r13, e13, hf⟩ := bdE hf
    refine krI (g := g) (wc := (wd_8 g S8)) (pc := 13) (As := [.int x1]) (rest := []) ⟨hx, hb, hml, hown, hts⟩ (c_X8_isGroupDone l g N S8 x1 r13 e13) (cwV 1 hts gX8_isOpen_X8_isGroupDone rfl rfl rfl h_X8_isGroupDone ⟨Nat.le_of_ble_eq_true rfl, Nat.le_of_ble_eq_true rfl⟩) hK hP rfl rfl rfl hl.1 rfl (Nat.le_of_ble_eq_true rfl) dX8_isOpen_13 ⟨Nat.zero_le _, Nat.zero_le _⟩ ?_
    refine lv_if_ne (tgt := 23) (pc := 16) hx hb dX8_isOpen_16 (by decide) (fun c16 => ?_) (fun c16 => ?_)
    · have hf := ff hf c16
      refine lv_iconst (v := 0) (pc := 23) hx hb dX8_isOpen_23 (by decide) ?_
      have hf := Option.some.inj hf
      subst hf
      exact W.zret (v := 0) hx hb hr rfl (fun t ht hW => ⟨_, rfl, rfl, ht⟩) (fun _ h => by cases h) dX8_isOpen_24
    · have hf := ft hf c16
      refine lv_iconst (v := 1) (pc := 19) hx hb dX8_isOpen_19 (by decide) ?_
      refine lv_goto (tgt := 24) (pc := 20) hx hb dX8_isOpen_20 (by decide) ?_
      have hf := Option.some.inj hf
      subst hf
      exact W.zret (v := 1) hx hb hr rfl (fun t ht hW => ⟨_, rfl, rfl, ht⟩) (fun _ h => by cases h) dX8_isOpen_24
theorem q_X8_gain_0 : (.constantLong RX8 222 16 : Cond) ∈ wsX8_gain := by decide +kernel
theorem h_X8_gain : yX8_gain.cls = RX8 ∧ yX8_gain.cls ≠ "java/lang/invoke/MethodHandle" ∧ yX8_gain.cls ≠ "java/lang/invoke/VarHandle" ∧ (parseMethodDescriptor yX8_gain.desc).map (fun d => d.parameters.length) = some 1 := by decide +kernel
set_option maxHeartbeats 4000000 in
set_option maxRecDepth 100000 in
theorem c_X8_gain (l : Launch) (g : En) (N : Nat) (sz : Nat) (S8 : St) (x1 : Int32) (res : Int32 × St) (hf : f_X8_gain N S8 x1 = some res) : Met l yX8_gain wsX8_gain { frames := 2, cells := 0, slots := 0, locals := 56 } (rwP g (wd_8 g S8) sz [.ref (g.2.2.1 8), .int x1]) (rwQi g (wd_8 g (res.2)) (va_A (wd_8 g S8) sz) (res.1)) 0 0 (va_A (wd_8 g S8) sz) := by
  refine Met.ofW (cc := cX8_gain) (maxL := 2) (ret := (some .int)) (by decide) rfl ?_
  intro p e s m args below meth c s₁ B hml hv
  obtain ⟨rfl, hsz, hP, hK, hD0⟩ := hv
  have hx := B.exec
  have hb := B.bytes
  have hr := B.returns
  have hts := atoms_spec (ws := wsX8_gain) B.pre
  have hown : s.vm.findClass RX8 = some m.cls := findClass_of_methodNamed B.named
  have hlk := B.notSynchronized
  subst hsz
  have hD := hD0.self (sz := s.heap.size)
  generalize hAe : va_A (wd_8 g S8) s.heap.size = A at hD ⊢
  have hA : ∀ q : Nat, s.heap.size ≤ q → A q := fun q h => by rw [← hAe]; exact Or.inr h
  have hS : va_S A s.heap s.heap [] := va_S.rf
  have C : cxw g A cX8_gain 2 (some .int) wsX8_gain RX8 p s m ([.ref (g.2.2.1 8), .int x1] : List Value).toArray meth c := ⟨⟨hx, hb, hr, hml, hown, hts, hlk⟩, hK, hA⟩
  have hl := lv_entry [.ref (g.2.2.1 8), .int x1] (n := 2) (Nat.le_of_ble_eq_true rfl)
  rw [lg_entry_eq]
  generalize (lg_sl [.ref (g.2.2.1 8), .int x1] ++ List.replicate (2 - (lg_sl [.ref (g.2.2.1 8), .int x1]).length) Slot.unset).toArray = ls at hl ⊢
  have hl : lv_has ls 2 [(0, .ref (g.2.2.1 8)), (1, .int x1)] := hl
  unfold f_X8_gain at hf
  suffices K9 : ∀ (H : Heap) (locs : List Loc), va_P g.1 vwCl (wd_8 g S8) H → va_D A (wd_8 g S8) → va_S A s.heap H locs → ((f_X8_isTest N S8 x1).bind (fun r2 => (if r2 = 0 then some ((-1), S8) else ((f_X8_isOpen N S8 x1).bind (fun r12 => (if r12 = 0 then some ((-4), S8) else ((f_X8_allScores N S8).bind (fun r22 => (if (lg_cmp r22 0) = 0 then ((f_X8_meets N S8 4).bind (fun r32 => some ((r32.1), (r32.2)))) else ((f_X8_gainOf N S8 x1).bind (fun r41 => ((f_X8_allScores N S8).bind (fun r48 => ((f_X8_fraction N S8 r41 (16 * r48) 1).bind (fun r53 => some ((r53.1), (r53.2))))))))))))))))) = some res → W p l e (headSpec wsX8_gain { frames := 2, cells := 0, slots := 0, locals := 56 }).room s m ([.ref (g.2.2.1 8), .int x1] : List Value).toArray below meth c H locs 0 0 (MQ below (rwQi g (wd_8 g (res.2)) A (res.1)) ([.ref (g.2.2.1 8), .int x1] : List Value).toArray s 0 0 A) (F0 m 0 ls []) from K9 s.heap [] hP hD hS hf
  clear hP hD hS hf
  intro H locs hP hD hS hf
  refine lv_aload_n (pc := 0) hx hb dX8_gain_0 rfl (lv_at hl 0 rfl) ?_
  refine lv_iload_n (pc := 1) hx hb dX8_gain_1 rfl (lv_at hl 1 rfl) ?_
  obtain ⟨r2, e2, hf⟩ := bdE hf
  refine krI (g := g) (wc := (wd_8 g S8)) (pc := 2) (As := [.int x1]) (rest := []) ⟨hx, hb, hml, hown, hts⟩ (c_X8_isTest l g N S8 x1 r2 e2) (cwV 1 hts gX8_gain_X8_isTest rfl rfl rfl h_X8_isTest ⟨Nat.le_of_ble_eq_true rfl, Nat.le_of_ble_eq_true rfl⟩) hK hP rfl rfl rfl hl.1 rfl (Nat.le_of_ble_eq_true rfl) dX8_gain_2 ⟨Nat.zero_le _, Nat.zero_le _⟩ ?_
  refine lv_if_ne (tgt := 10) (pc := 5) hx hb dX8_gain_5 (by decide) (fun c5 => ?_) (fun c5 => ?_)
  · have hf := ff hf c5
    refine lv_aload_n (pc := 10) hx hb dX8_gain_10 rfl (lv_at hl 0 rfl) ?_
    refine lv_iload_n (pc := 11) hx hb dX8_gain_11 rfl (lv_at hl 1 rfl) ?_
    obtain ⟨r12, e12, hf⟩ := bdE hf
    refine krI (g := g) (wc := (wd_8 g S8)) (pc := 12) (As := [.int x1]) (rest := []) ⟨hx, hb, hml, hown, hts⟩ (c_X8_isOpen l g N S8 x1 r12 e12) (cwV 1 hts gX8_gain_X8_isOpen rfl rfl rfl h_X8_isOpen ⟨Nat.le_of_ble_eq_true rfl, Nat.le_of_ble_eq_true rfl⟩) hK hP rfl rfl rfl hl.1 rfl (Nat.le_of_ble_eq_true rfl) dX8_gain_12 ⟨Nat.zero_le _, Nat.zero_le _⟩ ?_
    refine lv_if_ne (tgt := 21) (pc := 15) hx hb dX8_gain_15 (by decide) (fun c15 => ?_) (fun c15 => ?_)
    · have hf := ff hf c15
      refine lv_aload_n (pc := 21) hx hb dX8_gain_21 rfl (lv_at hl 0 rfl) ?_
      obtain ⟨r22, e22, hf⟩ := bdE hf
      refine krL (g := g) (wc := (wd_8 g S8)) (pc := 22) (As := []) (rest := []) ⟨hx, hb, hml, hown, hts⟩ (c_X8_allScores l g N S8 r22 e22) (cwV 0 hts gX8_gain_X8_allScores rfl rfl rfl h_X8_allScores ⟨Nat.le_of_ble_eq_true rfl, Nat.le_of_ble_eq_true rfl⟩) hK hP rfl rfl rfl hl.1 rfl (Nat.le_of_ble_eq_true rfl) dX8_gain_22 ⟨Nat.zero_le _, Nat.zero_le _⟩ ?_
      refine lv_lconst (v := 0) (pc := 25) hx hb dX8_gain_25 (by decide) ?_
      refine W.lcmp (pc := 26) hx hb dX8_gain_26 ?_
      refine lv_if_ne (tgt := 38) (pc := 27) hx hb dX8_gain_27 (by decide) (fun c27 => ?_) (fun c27 => ?_)
      · have hf := ff hf c27
        refine lv_aload_n (pc := 38) hx hb dX8_gain_38 rfl (lv_at hl 0 rfl) ?_
        refine lv_aload_n (pc := 39) hx hb dX8_gain_39 rfl (lv_at hl 0 rfl) ?_
        refine lv_iload_n (pc := 40) hx hb dX8_gain_40 rfl (lv_at hl 1 rfl) ?_
        obtain ⟨r41, e41, hf⟩ := bdE hf
        refine krL (g := g) (wc := (wd_8 g S8)) (pc := 41) (As := [.int x1]) (rest := [.ref (g.2.2.1 8)]) ⟨hx, hb, hml, hown, hts⟩ (c_X8_gainOf l g N S8 x1 r41 e41) (cwV 1 hts gX8_gain_X8_gainOf rfl rfl rfl h_X8_gainOf ⟨Nat.le_of_ble_eq_true rfl, Nat.le_of_ble_eq_true rfl⟩) hK hP rfl rfl rfl hl.1 rfl (Nat.le_of_ble_eq_true rfl) dX8_gain_41 ⟨Nat.zero_le _, Nat.zero_le _⟩ ?_
        refine lv_ldc2 (v := 16) (pc := 44) hx hb hown (hts _ q_X8_gain_0) dX8_gain_44 ?_
        refine lv_aload_n (pc := 47) hx hb dX8_gain_47 rfl (lv_at hl 0 rfl) ?_
        obtain ⟨r48, e48, hf⟩ := bdE hf
        refine krL (g := g) (wc := (wd_8 g S8)) (pc := 48) (As := []) (rest := [.long 16, .long r41, .ref (g.2.2.1 8)]) ⟨hx, hb, hml, hown, hts⟩ (c_X8_allScores l g N S8 r48 e48) (cwV 0 hts gX8_gain_X8_allScores rfl rfl rfl h_X8_allScores ⟨Nat.le_of_ble_eq_true rfl, Nat.le_of_ble_eq_true rfl⟩) hK hP rfl rfl rfl hl.1 rfl (Nat.le_of_ble_eq_true rfl) dX8_gain_48 ⟨Nat.zero_le _, Nat.zero_le _⟩ ?_
        refine lv_lmul (pc := 51) hx hb dX8_gain_51 ?_
        refine lv_iconst (v := 1) (pc := 52) hx hb dX8_gain_52 (by decide) ?_
        obtain ⟨r53, e53, hf⟩ := bdE hf
        refine kuI (g := g) (A := A) (W0 := (wd_8 g S8)) (w1 := (wd_8 g (r53.2))) (pc := 53) (As := [.long r41, .long (16 * r48), .int 1]) (rest := []) ⟨hx, hb, hml, hown, hts⟩ hK hA hP hD hS (c_X8_fraction l g N H.size S8 r41 (16 * r48) 1 r53 e53) (cwV 3 hts gX8_gain_X8_fraction rfl rfl rfl h_X8_fraction ⟨Nat.le_of_ble_eq_true rfl, Nat.le_of_ble_eq_true rfl⟩) rfl rfl rfl hl.1 rfl (Nat.le_of_ble_eq_true rfl) dX8_gain_53 ⟨Nat.zero_le _, Nat.zero_le _⟩ (fun H locs hP hD hS => ?_)
        have hf := Option.some.inj hf
        subst hf
        exact W.iret (v := (r53.1)) hx hb hr (fun t ht hW => ⟨⟨_, (), rfl, rfl, by rw [ht]; exact hP, va_K.moved hW.alike hK, hD⟩, hS.F ht⟩) hS.2.2 dX8_gain_56
      · have hf := ft hf c27
        refine lv_aload_n (pc := 30) hx hb dX8_gain_30 rfl (lv_at hl 0 rfl) ?_
        refine lv_iconst (v := 4) (pc := 31) hx hb dX8_gain_31 (by decide) ?_
        obtain ⟨r32, e32, hf⟩ := bdE hf
        refine kuI (g := g) (A := A) (W0 := (wd_8 g S8)) (w1 := (wd_8 g (r32.2))) (pc := 32) (As := [.int 4]) (rest := []) ⟨hx, hb, hml, hown, hts⟩ hK hA hP hD hS (c_X8_meets l g N H.size S8 4 r32 e32) (cwV 1 hts gX8_gain_X8_meets rfl rfl rfl h_X8_meets ⟨Nat.le_of_ble_eq_true rfl, Nat.le_of_ble_eq_true rfl⟩) rfl rfl rfl hl.1 rfl (Nat.le_of_ble_eq_true rfl) dX8_gain_32 ⟨Nat.zero_le _, Nat.zero_le _⟩ (fun H locs hP hD hS => ?_)
        refine lv_goto (tgt := 56) (pc := 35) hx hb dX8_gain_35 (by decide) ?_
        have hf := Option.some.inj hf
        subst hf
        exact W.iret (v := (r32.1)) hx hb hr (fun t ht hW => ⟨⟨_, (), rfl, rfl, by rw [ht]; exact hP, va_K.moved hW.alike hK, hD⟩, hS.F ht⟩) hS.2.2 dX8_gain_56
    · have hf := ft hf c15
      refine lv_bipush (v := (-4)) (pc := 18) hx hb dX8_gain_18 (by decide) ?_
      have hf := Option.some.inj hf
      subst hf
      exact W.iret (v := (-4)) hx hb hr (fun t ht hW => ⟨⟨_, (), rfl, rfl, by rw [ht]; exact hP, va_K.moved hW.alike hK, hD⟩, hS.F ht⟩) hS.2.2 dX8_gain_20
  · have hf := ft hf c5
    refine lv_iconst (v := (-1)) (pc := 8) hx hb dX8_gain_8 (by decide) ?_
    have hf := Option.some.inj hf
    subst hf
    exact W.iret (v := (-1)) hx hb hr (fun t ht hW => ⟨⟨_, (), rfl, rfl, by rw [ht]; exact hP, va_K.moved hW.alike hK, hD⟩, hS.F ht⟩) hS.2.2 dX8_gain_9
theorem q_X8_next_0 : (.fieldLink RX8 198 "PictureCourtModel" "tests" "I" : Cond) ∈ wsX8_next := by decide +kernel
theorem q_X8_next_1 : (.fieldLink RX8 56 "PictureCourtModel" "testCost" "[I" : Cond) ∈ wsX8_next := by decide +kernel
theorem q_X8_next_2 : (.fieldLink RX8 59 "PictureCourtModel" "testWound" "[I" : Cond) ∈ wsX8_next := by decide +kernel
theorem h_X8_next : yX8_next.cls = RX8 ∧ yX8_next.cls ≠ "java/lang/invoke/MethodHandle" ∧ yX8_next.cls ≠ "java/lang/invoke/VarHandle" ∧ (parseMethodDescriptor yX8_next.desc).map (fun d => d.parameters.length) = some 2 := by decide +kernel
set_option maxHeartbeats 4000000 in
set_option maxRecDepth 100000 in
theorem w_X8_next_142 {p : Program} {l : Launch} {e : Env} {s : State} {m : MethodId} {args : Array Value} {below : List Frame} {meth : Method} {c : Code} {g : En} {A : Nat → Prop} {N : Nat} {res : Int32 × St} (C : cxw g A cX8_next 6 (some .int) wsX8_next RX8 p s m args meth c) (k31 : St → Int32 → Int32 → Int32 → Int32 → Option (Int32 × St)) (H31 : ∀ (H : Heap) (locs : List Loc) (S8 : St) (ls : Array Slot) (x1 : Int32) (x2 : Int32) (x3 : Int32) (x4 : Int32), va_P g.1 vwCl (wd_8 g S8) H → va_D A (wd_8 g S8) → va_S A s.heap H locs → lv_has ls 6 [(0, .ref (g.2.2.1 8)), (1, .int x1), (2, .int x2), (3, .int x3), (4, .int x4)] → k31 S8 x1 x2 x3 x4 = some res → W p l e (headSpec wsX8_next { frames := 2, cells := 0, slots := 0, locals := 56 }).room s m args below meth c H locs 0 0 (MQ below (rwQi g (wd_8 g (res.2)) A (res.1)) args s 0 0 A) (F0 m 31 ls [])) : ∀ (H : Heap) (locs : List Loc) (S8 : St) (ls : Array Slot) (x1 : Int32) (x2 : Int32) (x3 : Int32) (x4 : Int32), va_P g.1 vwCl (wd_8 g S8) H → va_D A (wd_8 g S8) → va_S A s.heap H locs → lv_has ls 6 [(0, .ref (g.2.2.1 8)), (1, .int x1), (2, .int x2), (3, .int x3), (4, .int x4)] → f_X8_next_142 N  k31 S8 x1 x2 x3 x4 = some res → W p l e (headSpec wsX8_next { frames := 2, cells := 0, slots := 0, locals := 56 }).room s m args below meth c H locs 0 0 (MQ below (rwQi g (wd_8 g (res.2)) A (res.1)) args s 0 0 A) (F0 m 142 ls []) := by
  intro H locs S8 ls x1 x2 x3 x4 hP hD hS hl hf
  obtain ⟨⟨hx, hb, hr, hml, hown, hts, hlk⟩, hK, hA⟩ := id C
  unfold f_X8_next_142 at hf
  refine lv_iinc (v := (x4 + 1)) (lv' := [(4, .int (x4 + 1)), (0, .ref (g.2.2.1 8)), (1, .int x1), (2, .int x2), (3, .int x3)]) (pc := 142) hx hb dX8_next_142 hl (k := 4) rfl rfl (by decide) rfl (fun ls hl => ?_)
  refine lv_goto (tgt := 31) (pc := 145) hx hb dX8_next_145 (by decide) ?_
  exact H31 H locs S8 ls x1 x2 x3 (x4 + 1) hP hD hS (lv_sub hl [1, 2, 3, 4, 0] rfl) hf
set_option maxHeartbeats 4000000 in
set_option maxRecDepth 100000 in
theorem w_X8_next_141 {p : Program} {l : Launch} {e : Env} {s : State} {m : MethodId} {args : Array Value} {below : List Frame} {meth : Method} {c : Code} {g : En} {A : Nat → Prop} {N : Nat} {res : Int32 × St} (C : cxw g A cX8_next 6 (some .int) wsX8_next RX8 p s m args meth c) (k31 : St → Int32 → Int32 → Int32 → Int32 → Option (Int32 × St)) (H31 : ∀ (H : Heap) (locs : List Loc) (S8 : St) (ls : Array Slot) (x1 : Int32) (x2 : Int32) (x3 : Int32) (x4 : Int32), va_P g.1 vwCl (wd_8 g S8) H → va_D A (wd_8 g S8) → va_S A s.heap H locs → lv_has ls 6 [(0, .ref (g.2.2.1 8)), (1, .int x1), (2, .int x2), (3, .int x3), (4, .int x4)] → k31 S8 x1 x2 x3 x4 = some res → W p l e (headSpec wsX8_next { frames := 2, cells := 0, slots := 0, locals := 56 }).room s m args below meth c H locs 0 0 (MQ below (rwQi g (wd_8 g (res.2)) A (res.1)) args s 0 0 A) (F0 m 31 ls [])) : ∀ (H : Heap) (locs : List Loc) (S8 : St) (ls : Array Slot) (x1 : Int32) (x2 : Int32) (x4 : Int32) (t0 : Int32), va_P g.1 vwCl (wd_8 g S8) H → va_D A (wd_8 g S8) → va_S A s.heap H locs → lv_has ls 6 [(0, .ref (g.2.2.1 8)), (1, .int x1), (2, .int x2), (4, .int x4)] → f_X8_next_141 N  k31 S8 x1 x2 x4 t0 = some res → W p l e (headSpec wsX8_next { frames := 2, cells := 0, slots := 0, locals := 56 }).room s m args below meth c H locs 0 0 (MQ below (rwQi g (wd_8 g (res.2)) A (res.1)) args s 0 0 A) (F0 m 141 ls [.int t0]) := by
  intro H locs S8 ls x1 x2 x4 t0 hP hD hS hl hf
  obtain ⟨⟨hx, hb, hr, hml, hown, hts, hlk⟩, hK, hA⟩ := id C
  unfold f_X8_next_141 at hf
  refine lv_istore_n (lv' := [(3, .int t0), (0, .ref (g.2.2.1 8)), (1, .int x1), (2, .int x2), (4, .int x4)]) (pc := 141) hx hb dX8_next_141 rfl hl (by decide) rfl (fun ls hl => ?_)
  exact w_X8_next_142 C k31 H31 H locs S8 ls x1 x2 t0 x4 hP hD hS (lv_sub hl [1, 2, 3, 0, 4] rfl) hf
set_option maxHeartbeats 4000000 in
set_option maxRecDepth 100000 in
theorem w_X8_next_128 {p : Program} {l : Launch} {e : Env} {s : State} {m : MethodId} {args : Array Value} {below : List Frame} {meth : Method} {c : Code} {g : En} {A : Nat → Prop} {N : Nat} {res : Int32 × St} (C : cxw g A cX8_next 6 (some .int) wsX8_next RX8 p s m args meth c) (k31 : St → Int32 → Int32 → Int32 → Int32 → Option (Int32 × St)) (H31 : ∀ (H : Heap) (locs : List Loc) (S8 : St) (ls : Array Slot) (x1 : Int32) (x2 : Int32) (x3 : Int32) (x4 : Int32), va_P g.1 vwCl (wd_8 g S8) H → va_D A (wd_8 g S8) → va_S A s.heap H locs → lv_has ls 6 [(0, .ref (g.2.2.1 8)), (1, .int x1), (2, .int x2), (3, .int x3), (4, .int x4)] → k31 S8 x1 x2 x3 x4 = some res → W p l e (headSpec wsX8_next { frames := 2, cells := 0, slots := 0, locals := 56 }).room s m args below meth c H locs 0 0 (MQ below (rwQi g (wd_8 g (res.2)) A (res.1)) args s 0 0 A) (F0 m 31 ls [])) : ∀ (H : Heap) (locs : List Loc) (S8 : St) (ls : Array Slot) (x1 : Int32) (x2 : Int32) (x3 : Int32) (x4 : Int32) (t0 : Int32), va_P g.1 vwCl (wd_8 g S8) H → va_D A (wd_8 g S8) → va_S A s.heap H locs → lv_has ls 6 [(0, .ref (g.2.2.1 8)), (1, .int x1), (2, .int x2), (3, .int x3), (4, .int x4)] → f_X8_next_128 N  k31 S8 x1 x2 x3 x4 t0 = some res → W p l e (headSpec wsX8_next { frames := 2, cells := 0, slots := 0, locals := 56 }).room s m args below meth c H locs 0 0 (MQ below (rwQi g (wd_8 g (res.2)) A (res.1)) args s 0 0 A) (F0 m 128 ls [.int t0]) := by
  intro H locs S8 ls x1 x2 x3 x4 t0 hP hD hS hl hf
  obtain ⟨⟨hx, hb, hr, hml, hown, hts, hlk⟩, hK, hA⟩ := id C
  unfold f_X8_next_128 at hf
  refine lv_istore (lv' := [(5, .int t0), (0, .ref (g.2.2.1 8)), (1, .int x1), (2, .int x2), (3, .int x3), (4, .int x4)]) (pc := 128) hx hb dX8_next_128 hl (by decide) rfl (fun ls hl => ?_)
  refine lv_iload (pc := 130) hx hb dX8_next_130 (lv_at hl 0 rfl) ?_
  refine lv_if_eq (tgt := 140) (pc := 132) hx hb dX8_next_132 (by decide) (fun c132 => ?_) (fun c132 => ?_)
  · have hf := ft hf c132
    refine lv_iload_n (pc := 140) hx hb dX8_next_140 rfl (lv_at hl 4 rfl) ?_
    exact w_X8_next_141 C k31 H31 H locs S8 ls x1 x2 x4 x3 hP hD hS (lv_sub hl [1, 2, 3, 5] rfl) hf
  · have hf := ff hf c132
    refine lv_iload (pc := 135) hx hb dX8_next_135 (lv_at hl 5 rfl) ?_
    refine lv_goto (tgt := 141) (pc := 137) hx hb dX8_next_137 (by decide) ?_
    exact w_X8_next_141 C k31 H31 H locs S8 ls x1 x2 x4 x4 hP hD hS (lv_sub hl [1, 2, 3, 5] rfl) hf
set_option maxHeartbeats 4000000 in
set_option maxRecDepth 100000 in
theorem w_X8_next_123 {p : Program} {l : Launch} {e : Env} {s : State} {m : MethodId} {args : Array Value} {below : List Frame} {meth : Method} {c : Code} {g : En} {A : Nat → Prop} {N : Nat} {res : Int32 × St} (C : cxw g A cX8_next 6 (some .int) wsX8_next RX8 p s m args meth c) (k31 : St → Int32 → Int32 → Int32 → Int32 → Option (Int32 × St)) (H31 : ∀ (H : Heap) (locs : List Loc) (S8 : St) (ls : Array Slot) (x1 : Int32) (x2 : Int32) (x3 : Int32) (x4 : Int32), va_P g.1 vwCl (wd_8 g S8) H → va_D A (wd_8 g S8) → va_S A s.heap H locs → lv_has ls 6 [(0, .ref (g.2.2.1 8)), (1, .int x1), (2, .int x2), (3, .int x3), (4, .int x4)] → k31 S8 x1 x2 x3 x4 = some res → W p l e (headSpec wsX8_next { frames := 2, cells := 0, slots := 0, locals := 56 }).room s m args below meth c H locs 0 0 (MQ below (rwQi g (wd_8 g (res.2)) A (res.1)) args s 0 0 A) (F0 m 31 ls [])) : ∀ (H : Heap) (locs : List Loc) (S8 : St) (ls : Array Slot) (x1 : Int32) (x2 : Int32) (x3 : Int32) (x4 : Int32), va_P g.1 vwCl (wd_8 g S8) H → va_D A (wd_8 g S8) → va_S A s.heap H locs → lv_has ls 6 [(0, .ref (g.2.2.1 8)), (1, .int x1), (2, .int x2), (3, .int x3), (4, .int x4)] → f_X8_next_123 N  k31 S8 x1 x2 x3 x4 = some res → W p l e (headSpec wsX8_next { frames := 2, cells := 0, slots := 0, locals := 56 }).room s m args below meth c H locs 0 0 (MQ below (rwQi g (wd_8 g (res.2)) A (res.1)) args s 0 0 A) (F0 m 123 ls []) := by
  intro H locs S8 ls x1 x2 x3 x4 hP hD hS hl hf
  obtain ⟨⟨hx, hb, hr, hml, hown, hts, hlk⟩, hK, hA⟩ := id C
  unfold f_X8_next_123 at hf
  refine lv_iconst (v := 1) (pc := 123) hx hb dX8_next_123 (by decide) ?_
  refine lv_goto (tgt := 128) (pc := 124) hx hb dX8_next_124 (by decide) ?_
  exact w_X8_next_128 C k31 H31 H locs S8 ls x1 x2 x3 x4 1 hP hD hS (lv_sub hl [0, 1, 2, 3, 4] rfl) hf
set_option maxHeartbeats 4000000 in
set_option maxRecDepth 100000 in
theorem w_X8_next_127 {p : Program} {l : Launch} {e : Env} {s : State} {m : MethodId} {args : Array Value} {below : List Frame} {meth : Method} {c : Code} {g : En} {A : Nat → Prop} {N : Nat} {res : Int32 × St} (C : cxw g A cX8_next 6 (some .int) wsX8_next RX8 p s m args meth c) (k31 : St → Int32 → Int32 → Int32 → Int32 → Option (Int32 × St)) (H31 : ∀ (H : Heap) (locs : List Loc) (S8 : St) (ls : Array Slot) (x1 : Int32) (x2 : Int32) (x3 : Int32) (x4 : Int32), va_P g.1 vwCl (wd_8 g S8) H → va_D A (wd_8 g S8) → va_S A s.heap H locs → lv_has ls 6 [(0, .ref (g.2.2.1 8)), (1, .int x1), (2, .int x2), (3, .int x3), (4, .int x4)] → k31 S8 x1 x2 x3 x4 = some res → W p l e (headSpec wsX8_next { frames := 2, cells := 0, slots := 0, locals := 56 }).room s m args below meth c H locs 0 0 (MQ below (rwQi g (wd_8 g (res.2)) A (res.1)) args s 0 0 A) (F0 m 31 ls [])) : ∀ (H : Heap) (locs : List Loc) (S8 : St) (ls : Array Slot) (x1 : Int32) (x2 : Int32) (x3 : Int32) (x4 : Int32), va_P g.1 vwCl (wd_8 g S8) H → va_D A (wd_8 g S8) → va_S A s.heap H locs → lv_has ls 6 [(0, .ref (g.2.2.1 8)), (1, .int x1), (2, .int x2), (3, .int x3), (4, .int x4)] → f_X8_next_127 N  k31 S8 x1 x2 x3 x4 = some res → W p l e (headSpec wsX8_next { frames := 2, cells := 0, slots := 0, locals := 56 }).room s m args below meth c H locs 0 0 (MQ below (rwQi g (wd_8 g (res.2)) A (res.1)) args s 0 0 A) (F0 m 127 ls []) := by
  intro H locs S8 ls x1 x2 x3 x4 hP hD hS hl hf
  obtain ⟨⟨hx, hb, hr, hml, hown, hts, hlk⟩, hK, hA⟩ := id C
  unfold f_X8_next_127 at hf
  refine lv_iconst (v := 0) (pc := 127) hx hb dX8_next_127 (by decide) ?_
  exact w_X8_next_128 C k31 H31 H locs S8 ls x1 x2 x3 x4 0 hP hD hS (lv_sub hl [0, 1, 2, 3, 4] rfl) hf
set_option maxHeartbeats 4000000 in
set_option maxRecDepth 100000 in
theorem w_X8_next_31_b {p : Program} {l : Launch} {e : Env} {s : State} {m : MethodId} {args : Array Value} {below : List Frame} {meth : Method} {c : Code} {g : En} {A : Nat → Prop} {N : Nat} {res : Int32 × St} (C : cxw g A cX8_next 6 (some .int) wsX8_next RX8 p s m args meth c) (k31 : St → Int32 → Int32 → Int32 → Int32 → Option (Int32 × St)) (H31 : ∀ (H : Heap) (locs : List Loc) (S8 : St) (ls : Array Slot) (x1 : Int32) (x2 : Int32) (x3 : Int32) (x4 : Int32), va_P g.1 vwCl (wd_8 g S8) H → va_D A (wd_8 g S8) → va_S A s.heap H locs → lv_has ls 6 [(0, .ref (g.2.2.1 8)), (1, .int x1), (2, .int x2), (3, .int x3), (4, .int x4)] → k31 S8 x1 x2 x3 x4 = some res → W p l e (headSpec wsX8_next { frames := 2, cells := 0, slots := 0, locals := 56 }).room s m args below meth c H locs 0 0 (MQ below (rwQi g (wd_8 g (res.2)) A (res.1)) args s 0 0 A) (F0 m 31 ls [])) : ∀ (H : Heap) (locs : List Loc) (S8 : St) (ls : Array Slot) (x1 : Int32) (x2 : Int32) (x3 : Int32) (x4 : Int32), va_P g.1 vwCl (wd_8 g S8) H → va_D A (wd_8 g S8) → va_S A s.heap H locs → lv_has ls 6 [(0, .ref (g.2.2.1 8)), (1, .int x1), (2, .int x2), (3, .int x3), (4, .int x4)] → f_X8_next_31_b N   k31 S8 x1 x2 x3 x4 = some res → W p l e (headSpec wsX8_next { frames := 2, cells := 0, slots := 0, locals := 56 }).room s m args below meth c H locs 0 0 (MQ below (rwQi g (wd_8 g (res.2)) A (res.1)) args s 0 0 A) (F0 m 31 ls []) := by
  intro H locs S8 ls x1 x2 x3 x4 hP hD hS hl hf
  obtain ⟨⟨hx, hb, hr, hml, hown, hts, hlk⟩, hK, hA⟩ := id C
  unfold f_X8_next_31_b at hf
  refine lv_iload (pc := 31) hx hb dX8_next_31 (lv_at hl 4 rfl) ?_
  refine lv_aload_n (pc := 33) hx hb dX8_next_33 rfl (lv_at hl 0 rfl) ?_
  refine va_get (D := g.1) (ci := 8) (v := .int (S8.1 24)) (C := RX8) (T := TX8) (N := 47) (pc := 34) hx hb hts (fun _ h => List.mem_cons_of_mem _ (List.mem_append_right _ h)) hown hK hP 0 rfl rfl 24 (by decide) (hts _ q_X8_next_0) (fun _ h9 => h9) rfl dX8_next_34 ?_
  refine lv_icmp_ge (tgt := 148) (pc := 37) hx hb dX8_next_37 (by decide) (fun c37 => ?_) (fun c37 => ?_)
  · have hf := ft hf c37
    refine lv_iload_n (pc := 148) hx hb dX8_next_148 rfl (lv_at hl 3 rfl) ?_
    have hf := Option.some.inj hf
    subst hf
    exact W.iret (v := x3) hx hb hr (fun t ht hW => ⟨⟨_, (), rfl, rfl, by rw [ht]; exact hP, va_K.moved hW.alike hK, hD⟩, hS.F ht⟩) hS.2.2 dX8_next_149
  · have hf := ff hf c37
    refine lv_aload_n (pc := 40) hx hb dX8_next_40 rfl (lv_at hl 0 rfl) ?_
    refine lv_iload (pc := 41) hx hb dX8_next_41 (lv_at hl 4 rfl) ?_
    obtain ⟨r43, e43, hf⟩ := bdE hf
    refine krI (g := g) (wc := (wd_8 g S8)) (pc := 43) (As := [.int x4]) (rest := []) ⟨hx, hb, hml, hown, hts⟩ (c_X8_isOpen l g N S8 x4 r43 e43) (cwV 1 hts gX8_next_X8_isOpen rfl rfl rfl h_X8_isOpen ⟨Nat.le_of_ble_eq_true rfl, Nat.le_of_ble_eq_true rfl⟩) hK hP rfl rfl rfl hl.1 rfl (Nat.le_of_ble_eq_true rfl) dX8_next_43 ⟨Nat.zero_le _, Nat.zero_le _⟩ ?_
    refine lv_if_eq (tgt := 142) (pc := 46) hx hb dX8_next_46 (by decide) (fun c46 => ?_) (fun c46 => ?_)
    · have hf := ft hf c46
      exact w_X8_next_142 C k31 H31 H locs S8 ls x1 x2 x3 x4 hP hD hS (lv_sub hl [0, 1, 2, 3, 4] rfl) hf
    · have hf := ff hf c46
      refine lv_aload_n (pc := 49) hx hb dX8_next_49 rfl (lv_at hl 0 rfl) ?_
      refine va_get (D := g.1) (ci := 8) (v := .ref (g.2.2.2 8 25)) (C := RX8) (T := TX8) (N := 47) (pc := 50) hx hb hts (fun _ h => List.mem_cons_of_mem _ (List.mem_append_right _ h)) hown hK hP 0 rfl rfl 25 (by decide) (hts _ q_X8_next_1) (fun _ h9 => h9) rfl dX8_next_50 ?_
      refine lv_iload (pc := 53) hx hb dX8_next_53 (lv_at hl 4 rfl) ?_
      obtain ⟨b55, hf⟩ := gdE hf
      refine va_iald (D := g.1) (tys := tyl g) (f := (S8.2.2 25)) (pc := 55) hx hb hK hP 16 0 rfl rfl (inbV b55) dX8_next_55 ?_
      refine lv_iload_n (pc := 56) hx hb dX8_next_56 rfl (lv_at hl 1 rfl) ?_
      refine lv_icmp_gt (tgt := 142) (pc := 57) hx hb dX8_next_57 (by decide) (fun c57 => ?_) (fun c57 => ?_)
      · have hf := ft hf c57
        exact w_X8_next_142 C k31 H31 H locs S8 ls x1 x2 x3 x4 hP hD hS (lv_sub hl [0, 1, 2, 3, 4] rfl) hf
      · have hf := ff hf c57
        refine lv_aload_n (pc := 60) hx hb dX8_next_60 rfl (lv_at hl 0 rfl) ?_
        refine va_get (D := g.1) (ci := 8) (v := .ref (g.2.2.2 8 26)) (C := RX8) (T := TX8) (N := 47) (pc := 61) hx hb hts (fun _ h => List.mem_cons_of_mem _ (List.mem_append_right _ h)) hown hK hP 0 rfl rfl 26 (by decide) (hts _ q_X8_next_2) (fun _ h9 => h9) rfl dX8_next_61 ?_
        refine lv_iload (pc := 64) hx hb dX8_next_64 (lv_at hl 4 rfl) ?_
        obtain ⟨b66, hf⟩ := gdE hf
        refine va_iald (D := g.1) (tys := tyl g) (f := (S8.2.2 26)) (pc := 66) hx hb hK hP 17 0 rfl rfl (inbV b66) dX8_next_66 ?_
        refine lv_iload_n (pc := 67) hx hb dX8_next_67 rfl (lv_at hl 2 rfl) ?_
        refine lv_icmp_gt (tgt := 142) (pc := 68) hx hb dX8_next_68 (by decide) (fun c68 => ?_) (fun c68 => ?_)
        · have hf := ft hf c68
          exact w_X8_next_142 C k31 H31 H locs S8 ls x1 x2 x3 x4 hP hD hS (lv_sub hl [0, 1, 2, 3, 4] rfl) hf
        · have hf := ff hf c68
          refine lv_iload_n (pc := 71) hx hb dX8_next_71 rfl (lv_at hl 3 rfl) ?_
          refine lv_bipush (v := (-9)) (pc := 72) hx hb dX8_next_72 (by decide) ?_
          refine lv_icmp_eq (tgt := 123) (pc := 74) hx hb dX8_next_74 (by decide) (fun c74 => ?_) (fun c74 => ?_)
          · have hf := ft hf c74
            exact w_X8_next_123 C k31 H31 H locs S8 ls x1 x2 x3 x4 hP hD hS (lv_sub hl [0, 1, 2, 3, 4] rfl) hf
          · have hf := ff hf c74
            refine lv_aload_n (pc := 77) hx hb dX8_next_77 rfl (lv_at hl 0 rfl) ?_
            refine lv_iload (pc := 78) hx hb dX8_next_78 (lv_at hl 4 rfl) ?_
            obtain ⟨r80, e80, hf⟩ := bdE hf
            refine krL (g := g) (wc := (wd_8 g S8)) (pc := 80) (As := [.int x4]) (rest := []) ⟨hx, hb, hml, hown, hts⟩ (c_X8_gainOf l g N S8 x4 r80 e80) (cwV 1 hts gX8_next_X8_gainOf rfl rfl rfl h_X8_gainOf ⟨Nat.le_of_ble_eq_true rfl, Nat.le_of_ble_eq_true rfl⟩) hK hP rfl rfl rfl hl.1 rfl (Nat.le_of_ble_eq_true rfl) dX8_next_80 ⟨Nat.zero_le _, Nat.zero_le _⟩ ?_
            refine lv_aload_n (pc := 83) hx hb dX8_next_83 rfl (lv_at hl 0 rfl) ?_
            refine lv_iload_n (pc := 84) hx hb dX8_next_84 rfl (lv_at hl 3 rfl) ?_
            obtain ⟨r85, e85, hf⟩ := bdE hf
            refine krL (g := g) (wc := (wd_8 g S8)) (pc := 85) (As := [.int x3]) (rest := [.long r80]) ⟨hx, hb, hml, hown, hts⟩ (c_X8_gainOf l g N S8 x3 r85 e85) (cwV 1 hts gX8_next_X8_gainOf rfl rfl rfl h_X8_gainOf ⟨Nat.le_of_ble_eq_true rfl, Nat.le_of_ble_eq_true rfl⟩) hK hP rfl rfl rfl hl.1 rfl (Nat.le_of_ble_eq_true rfl) dX8_next_85 ⟨Nat.zero_le _, Nat.zero_le _⟩ ?_
            refine W.lcmp (pc := 88) hx hb dX8_next_88 ?_
            refine lv_if_gt (tgt := 123) (pc := 89) hx hb dX8_next_89 (by decide) (fun c89 => ?_) (fun c89 => ?_)
            · have hf := ft hf c89
              exact w_X8_next_123 C k31 H31 H locs S8 ls x1 x2 x3 x4 hP hD hS (lv_sub hl [0, 1, 2, 3, 4] rfl) hf
            · have hf := ff hf c89
              refine lv_aload_n (pc := 92) hx hb dX8_next_92 rfl (lv_at hl 0 rfl) ?_
              refine lv_iload (pc := 93) hx hb dX8_next_93 (lv_at hl 4 rfl) ?_
              obtain ⟨r95, e95, hf⟩ := bdE hf
              refine krL (g := g) (wc := (wd_8 g S8)) (pc := 95) (As := [.int x4]) (rest := []) ⟨hx, hb, hml, hown, hts⟩ (c_X8_gainOf l g N S8 x4 r95 e95) (cwV 1 hts gX8_next_X8_gainOf rfl rfl rfl h_X8_gainOf ⟨Nat.le_of_ble_eq_true rfl, Nat.le_of_ble_eq_true rfl⟩) hK hP rfl rfl rfl hl.1 rfl (Nat.le_of_ble_eq_true rfl) dX8_next_95 ⟨Nat.zero_le _, Nat.zero_le _⟩ ?_
              refine lv_aload_n (pc := 98) hx hb dX8_next_98 rfl (lv_at hl 0 rfl) ?_
              refine lv_iload_n (pc := 99) hx hb dX8_next_99 rfl (lv_at hl 3 rfl) ?_
              obtain ⟨r100, e100, hf⟩ := bdE hf
              refine krL (g := g) (wc := (wd_8 g S8)) (pc := 100) (As := [.int x3]) (rest := [.long r95]) ⟨hx, hb, hml, hown, hts⟩ (c_X8_gainOf l g N S8 x3 r100 e100) (cwV 1 hts gX8_next_X8_gainOf rfl rfl rfl h_X8_gainOf ⟨Nat.le_of_ble_eq_true rfl, Nat.le_of_ble_eq_true rfl⟩) hK hP rfl rfl rfl hl.1 rfl (Nat.le_of_ble_eq_true rfl) dX8_next_100 ⟨Nat.zero_le _, Nat.zero_le _⟩ ?_
              refine W.lcmp (pc := 103) hx hb dX8_next_103 ?_
              refine lv_if_ne (tgt := 127) (pc := 104) hx hb dX8_next_104 (by decide) (fun c104 => ?_) (fun c104 => ?_)
              · have hf := ff hf c104
                exact w_X8_next_127 C k31 H31 H locs S8 ls x1 x2 x3 x4 hP hD hS (lv_sub hl [0, 1, 2, 3, 4] rfl) hf
              · have hf := ft hf c104
                refine lv_aload_n (pc := 107) hx hb dX8_next_107 rfl (lv_at hl 0 rfl) ?_
                refine va_get (D := g.1) (ci := 8) (v := .ref (g.2.2.2 8 25)) (C := RX8) (T := TX8) (N := 47) (pc := 108) hx hb hts (fun _ h => List.mem_cons_of_mem _ (List.mem_append_right _ h)) hown hK hP 0 rfl rfl 25 (by decide) (hts _ q_X8_next_1) (fun _ h9 => h9) rfl dX8_next_108 ?_
                refine lv_iload (pc := 111) hx hb dX8_next_111 (lv_at hl 4 rfl) ?_
                obtain ⟨b113, hf⟩ := gdE hf
                refine va_iald (D := g.1) (tys := tyl g) (f := (S8.2.2 25)) (pc := 113) hx hb hK hP 16 0 rfl rfl (inbV b113) dX8_next_113 ?_
                refine lv_aload_n (pc := 114) hx hb dX8_next_114 rfl (lv_at hl 0 rfl) ?_
                refine va_get (D := g.1) (ci := 8) (v := .ref (g.2.2.2 8 25)) (C := RX8) (T := TX8) (N := 47) (pc := 115) hx hb hts (fun _ h => List.mem_cons_of_mem _ (List.mem_append_right _ h)) hown hK hP 0 rfl rfl 25 (by decide) (hts _ q_X8_next_1) (fun _ h9 => h9) rfl dX8_next_115 ?_
                refine lv_iload_n (pc := 118) hx hb dX8_next_118 rfl (lv_at hl 3 rfl) ?_
                obtain ⟨b119, hf⟩ := gdE hf
                refine va_iald (D := g.1) (tys := tyl g) (f := (S8.2.2 25)) (pc := 119) hx hb hK hP 16 0 rfl rfl (inbV b119) dX8_next_119 ?_
                refine lv_icmp_ge (tgt := 127) (pc := 120) hx hb dX8_next_120 (by decide) (fun c120 => ?_) (fun c120 => ?_)
                · have hf := ft hf c120
                  exact w_X8_next_127 C k31 H31 H locs S8 ls x1 x2 x3 x4 hP hD hS (lv_sub hl [0, 1, 2, 3, 4] rfl) hf
                · have hf := ff hf c120
                  exact w_X8_next_123 C k31 H31 H locs S8 ls x1 x2 x3 x4 hP hD hS (lv_sub hl [0, 1, 2, 3, 4] rfl) hf
set_option maxHeartbeats 4000000 in
set_option maxRecDepth 100000 in
theorem w_X8_next_31 {p : Program} {l : Launch} {e : Env} {s : State} {m : MethodId} {args : Array Value} {below : List Frame} {meth : Method} {c : Code} {g : En} {A : Nat → Prop} {N : Nat} {res : Int32 × St} (C : cxw g A cX8_next 6 (some .int) wsX8_next RX8 p s m args meth c) : ∀ (n : Nat), ∀ (H : Heap) (locs : List Loc) (S8 : St) (ls : Array Slot) (x1 : Int32) (x2 : Int32) (x3 : Int32) (x4 : Int32), va_P g.1 vwCl (wd_8 g S8) H → va_D A (wd_8 g S8) → va_S A s.heap H locs → lv_has ls 6 [(0, .ref (g.2.2.1 8)), (1, .int x1), (2, .int x2), (3, .int x3), (4, .int x4)] → f_X8_next_31 N   n S8 x1 x2 x3 x4 = some res → W p l e (headSpec wsX8_next { frames := 2, cells := 0, slots := 0, locals := 56 }).room s m args below meth c H locs 0 0 (MQ below (rwQi g (wd_8 g (res.2)) A (res.1)) args s 0 0 A) (F0 m 31 ls []) := by
  intro n
  induction n with
  | zero =>
    intro H locs S8 ls x1 x2 x3 x4 hP hD hS hl hf
    have hf : (none : Option (Int32 × St)) = some res := hf
    cases hf
  | succ n ih =>
    intro H locs S8 ls x1 x2 x3 x4 hP hD hS hl hf
    exact w_X8_next_31_b C  (fun y0 y1 y2 y3 y4 => f_X8_next_31 N   n y0 y1 y2 y3 y4) ih H locs S8 ls x1 x2 x3 x4 hP hD hS hl hf
set_option maxHeartbeats 4000000 in
set_option maxRecDepth 100000 in
theorem c_X8_next (l : Launch) (g : En) (N : Nat) (sz : Nat) (S8 : St) (x1 : Int32) (x2 : Int32) (res : Int32 × St) (hf : f_X8_next N S8 x1 x2 = some res) : Met l yX8_next wsX8_next { frames := 2, cells := 0, slots := 0, locals := 56 } (rwP g (wd_8 g S8) sz [.ref (g.2.2.1 8), .int x1, .int x2]) (rwQi g (wd_8 g (res.2)) (va_A (wd_8 g S8) sz) (res.1)) 0 0 (va_A (wd_8 g S8) sz) := by
  refine Met.ofW (cc := cX8_next) (maxL := 6) (ret := (some .int)) (by decide) rfl ?_
  intro p e s m args below meth c s₁ B hml hv
  obtain ⟨rfl, hsz, hP, hK, hD0⟩ := hv
  have hx := B.exec
  have hb := B.bytes
  have hr := B.returns
  have hts := atoms_spec (ws := wsX8_next) B.pre
  have hown : s.vm.findClass RX8 = some m.cls := findClass_of_methodNamed B.named
  have hlk := B.notSynchronized
  subst hsz
  have hD := hD0.self (sz := s.heap.size)
  generalize hAe : va_A (wd_8 g S8) s.heap.size = A at hD ⊢
  have hA : ∀ q : Nat, s.heap.size ≤ q → A q := fun q h => by rw [← hAe]; exact Or.inr h
  have hS : va_S A s.heap s.heap [] := va_S.rf
  have C : cxw g A cX8_next 6 (some .int) wsX8_next RX8 p s m ([.ref (g.2.2.1 8), .int x1, .int x2] : List Value).toArray meth c := ⟨⟨hx, hb, hr, hml, hown, hts, hlk⟩, hK, hA⟩
  have hl := lv_entry [.ref (g.2.2.1 8), .int x1, .int x2] (n := 6) (Nat.le_of_ble_eq_true rfl)
  rw [lg_entry_eq]
  generalize (lg_sl [.ref (g.2.2.1 8), .int x1, .int x2] ++ List.replicate (6 - (lg_sl [.ref (g.2.2.1 8), .int x1, .int x2]).length) Slot.unset).toArray = ls at hl ⊢
  have hl : lv_has ls 6 [(0, .ref (g.2.2.1 8)), (1, .int x1), (2, .int x2)] := hl
  unfold f_X8_next at hf
  suffices K9 : ∀ (H : Heap) (locs : List Loc), va_P g.1 vwCl (wd_8 g S8) H → va_D A (wd_8 g S8) → va_S A s.heap H locs → (if x1 < 0 then some ((-1), S8) else (if 0 ≤ x2 then ((f_X8_allScores N S8).bind (fun r11 => (if (lg_cmp r11 0) = 0 then ((f_X8_meets N S8 4).bind (fun r21 => some ((r21.1), (r21.2)))) else (f_X8_next_31 N   N S8 x1 x2 (-9) 0)))) else some ((-1), S8))) = some res → W p l e (headSpec wsX8_next { frames := 2, cells := 0, slots := 0, locals := 56 }).room s m ([.ref (g.2.2.1 8), .int x1, .int x2] : List Value).toArray below meth c H locs 0 0 (MQ below (rwQi g (wd_8 g (res.2)) A (res.1)) ([.ref (g.2.2.1 8), .int x1, .int x2] : List Value).toArray s 0 0 A) (F0 m 0 ls []) from K9 s.heap [] hP hD hS hf
  clear hP hD hS hf
  intro H locs hP hD hS hf
  refine lv_iload_n (pc := 0) hx hb dX8_next_0 rfl (lv_at hl 1 rfl) ?_
  refine lv_if_lt (tgt := 8) (pc := 1) hx hb dX8_next_1 (by decide) (fun c1 => ?_) (fun c1 => ?_)
  · have hf := ft hf c1
    refine lv_iconst (v := (-1)) (pc := 8) hx hb dX8_next_8 (by decide) ?_
    have hf := Option.some.inj hf
    subst hf
    exact W.iret (v := (-1)) hx hb hr (fun t ht hW => ⟨⟨_, (), rfl, rfl, by rw [ht]; exact hP, va_K.moved hW.alike hK, hD⟩, hS.F ht⟩) hS.2.2 dX8_next_9
  · have hf := ff hf c1
    refine lv_iload_n (pc := 4) hx hb dX8_next_4 rfl (lv_at hl 2 rfl) ?_
    refine lv_if_ge (tgt := 10) (pc := 5) hx hb dX8_next_5 (by decide) (fun c5 => ?_) (fun c5 => ?_)
    · have hf := ft hf c5
      refine lv_aload_n (pc := 10) hx hb dX8_next_10 rfl (lv_at hl 0 rfl) ?_
      obtain ⟨r11, e11, hf⟩ := bdE hf
      refine krL (g := g) (wc := (wd_8 g S8)) (pc := 11) (As := []) (rest := []) ⟨hx, hb, hml, hown, hts⟩ (c_X8_allScores l g N S8 r11 e11) (cwV 0 hts gX8_next_X8_allScores rfl rfl rfl h_X8_allScores ⟨Nat.le_of_ble_eq_true rfl, Nat.le_of_ble_eq_true rfl⟩) hK hP rfl rfl rfl hl.1 rfl (Nat.le_of_ble_eq_true rfl) dX8_next_11 ⟨Nat.zero_le _, Nat.zero_le _⟩ ?_
      refine lv_lconst (v := 0) (pc := 14) hx hb dX8_next_14 (by decide) ?_
      refine W.lcmp (pc := 15) hx hb dX8_next_15 ?_
      refine lv_if_ne (tgt := 25) (pc := 16) hx hb dX8_next_16 (by decide) (fun c16 => ?_) (fun c16 => ?_)
      · have hf := ff hf c16
        refine lv_bipush (v := (-9)) (pc := 25) hx hb dX8_next_25 (by decide) ?_
        refine lv_istore_n (lv' := [(3, .int (-9)), (0, .ref (g.2.2.1 8)), (1, .int x1), (2, .int x2)]) (pc := 27) hx hb dX8_next_27 rfl hl (by decide) rfl (fun ls hl => ?_)
        refine lv_iconst (v := 0) (pc := 28) hx hb dX8_next_28 (by decide) ?_
        refine lv_istore (lv' := [(4, .int 0), (3, .int (-9)), (0, .ref (g.2.2.1 8)), (1, .int x1), (2, .int x2)]) (pc := 29) hx hb dX8_next_29 hl (by decide) rfl (fun ls hl => ?_)
        exact w_X8_next_31 C  N H locs S8 ls x1 x2 (-9) 0 hP hD hS (lv_sub hl [2, 3, 4, 1, 0] rfl) hf
      · have hf := ft hf c16
        refine lv_aload_n (pc := 19) hx hb dX8_next_19 rfl (lv_at hl 0 rfl) ?_
        refine lv_iconst (v := 4) (pc := 20) hx hb dX8_next_20 (by decide) ?_
        obtain ⟨r21, e21, hf⟩ := bdE hf
        refine kuI (g := g) (A := A) (W0 := (wd_8 g S8)) (w1 := (wd_8 g (r21.2))) (pc := 21) (As := [.int 4]) (rest := []) ⟨hx, hb, hml, hown, hts⟩ hK hA hP hD hS (c_X8_meets l g N H.size S8 4 r21 e21) (cwV 1 hts gX8_next_X8_meets rfl rfl rfl h_X8_meets ⟨Nat.le_of_ble_eq_true rfl, Nat.le_of_ble_eq_true rfl⟩) rfl rfl rfl hl.1 rfl (Nat.le_of_ble_eq_true rfl) dX8_next_21 ⟨Nat.zero_le _, Nat.zero_le _⟩ (fun H locs hP hD hS => ?_)
        have hf := Option.some.inj hf
        subst hf
        exact W.iret (v := (r21.1)) hx hb hr (fun t ht hW => ⟨⟨_, (), rfl, rfl, by rw [ht]; exact hP, va_K.moved hW.alike hK, hD⟩, hS.F ht⟩) hS.2.2 dX8_next_24
    · have hf := ff hf c5
      refine lv_iconst (v := (-1)) (pc := 8) hx hb dX8_next_8 (by decide) ?_
      have hf := Option.some.inj hf
      subst hf
      exact W.iret (v := (-1)) hx hb hr (fun t ht hW => ⟨⟨_, (), rfl, rfl, by rw [ht]; exact hP, va_K.moved hW.alike hK, hD⟩, hS.F ht⟩) hS.2.2 dX8_next_9
theorem q_X8_owner_0 : (.fieldLink RX8 230 "PictureCourtModel" "owners" "I" : Cond) ∈ wsX8_owner := by decide +kernel
theorem q_X8_owner_1 : (.fieldLink RX8 75 "PictureCourtModel" "ownerFrom" "[I" : Cond) ∈ wsX8_owner := by decide +kernel
theorem q_X8_owner_2 : (.fieldLink RX8 78 "PictureCourtModel" "ownerTo" "[I" : Cond) ∈ wsX8_owner := by decide +kernel
theorem h_X8_owner : yX8_owner.cls = RX8 ∧ yX8_owner.cls ≠ "java/lang/invoke/MethodHandle" ∧ yX8_owner.cls ≠ "java/lang/invoke/VarHandle" ∧ (parseMethodDescriptor yX8_owner.desc).map (fun d => d.parameters.length) = some 2 := by decide +kernel
set_option maxHeartbeats 4000000 in
set_option maxRecDepth 100000 in
theorem c_X8_owner (l : Launch) (g : En) (N : Nat) (sz : Nat) (S8 : St) (x1 : Int32) (x2 : Int32) (res : Int32 × St) (hf : f_X8_owner N S8 x1 x2 = some res) : Met l yX8_owner wsX8_owner { frames := 2, cells := 0, slots := 0, locals := 42 } (rwP g (wd_8 g S8) sz [.ref (g.2.2.1 8), .int x1, .int x2]) (rwQi g (wd_8 g (res.2)) (va_A (wd_8 g S8) sz) (res.1)) 0 0 (va_A (wd_8 g S8) sz) := by
  refine Met.ofW (cc := cX8_owner) (maxL := 3) (ret := (some .int)) (by decide) rfl ?_
  intro p e s m args below meth c s₁ B hml hv
  obtain ⟨rfl, hsz, hP, hK, hD0⟩ := hv
  have hx := B.exec
  have hb := B.bytes
  have hr := B.returns
  have hts := atoms_spec (ws := wsX8_owner) B.pre
  have hown : s.vm.findClass RX8 = some m.cls := findClass_of_methodNamed B.named
  have hlk := B.notSynchronized
  subst hsz
  have hD := hD0.self (sz := s.heap.size)
  generalize hAe : va_A (wd_8 g S8) s.heap.size = A at hD ⊢
  have hA : ∀ q : Nat, s.heap.size ≤ q → A q := fun q h => by rw [← hAe]; exact Or.inr h
  have hS : va_S A s.heap s.heap [] := va_S.rf
  have C : cxw g A cX8_owner 3 (some .int) wsX8_owner RX8 p s m ([.ref (g.2.2.1 8), .int x1, .int x2] : List Value).toArray meth c := ⟨⟨hx, hb, hr, hml, hown, hts, hlk⟩, hK, hA⟩
  have hl := lv_entry [.ref (g.2.2.1 8), .int x1, .int x2] (n := 3) (Nat.le_of_ble_eq_true rfl)
  rw [lg_entry_eq]
  generalize (lg_sl [.ref (g.2.2.1 8), .int x1, .int x2] ++ List.replicate (3 - (lg_sl [.ref (g.2.2.1 8), .int x1, .int x2]).length) Slot.unset).toArray = ls at hl ⊢
  have hl : lv_has ls 3 [(0, .ref (g.2.2.1 8)), (1, .int x1), (2, .int x2)] := hl
  unfold f_X8_owner at hf
  suffices K9 : ∀ (H : Heap) (locs : List Loc), va_P g.1 vwCl (wd_8 g S8) H → va_D A (wd_8 g S8) → va_S A s.heap H locs → ((f_X8_isYear N x1).bind (fun r1 => (if r1 = 0 then some ((-1), S8) else ((f_X8_in N x2 x1 2100).bind (fun r12 => (if r12 = 0 then some ((-1), S8) else (if (S8.1 31) = 20 then some ((-2), S8) else (if inb (S8.1 31) 20 = true then (if inb (S8.1 31) 20 = true then some (((S8.1 31) + 1), (sI (sA (sA S8 32 (upd (S8.2.2 32) (Int32.toNatClampNeg (S8.1 31)) x1)) 33 (upd (S8.2.2 33) (Int32.toNatClampNeg (S8.1 31)) x2)) 31 ((S8.1 31) + 1))) else none) else none)))))))) = some res → W p l e (headSpec wsX8_owner { frames := 2, cells := 0, slots := 0, locals := 42 }).room s m ([.ref (g.2.2.1 8), .int x1, .int x2] : List Value).toArray below meth c H locs 0 0 (MQ below (rwQi g (wd_8 g (res.2)) A (res.1)) ([.ref (g.2.2.1 8), .int x1, .int x2] : List Value).toArray s 0 0 A) (F0 m 0 ls []) from K9 s.heap [] hP hD hS hf
  clear hP hD hS hf
  intro H locs hP hD hS hf
  refine lv_iload_n (pc := 0) hx hb dX8_owner_0 rfl (lv_at hl 1 rfl) ?_
  obtain ⟨r1, e1, hf⟩ := bdE hf
  refine ksI (pc := 1) (As := [.int x1]) (rest := []) ⟨hx, hb, hml, hown, hts⟩ (c_X8_isYear l N x1 r1 e1) (va_cwS 1 hts gX8_owner_X8_isYear rfl rfl rfl h_X8_isYear ⟨Nat.le_of_ble_eq_true rfl, Nat.le_of_ble_eq_true rfl⟩) rfl hl.1 rfl (Nat.le_of_ble_eq_true rfl) dX8_owner_1 ⟨Nat.zero_le _, Nat.zero_le _⟩ ?_
  refine lv_if_eq (tgt := 18) (pc := 4) hx hb dX8_owner_4 (by decide) (fun c4 => ?_) (fun c4 => ?_)
  · have hf := ft hf c4
    refine lv_iconst (v := (-1)) (pc := 18) hx hb dX8_owner_18 (by decide) ?_
    have hf := Option.some.inj hf
    subst hf
    exact W.iret (v := (-1)) hx hb hr (fun t ht hW => ⟨⟨_, (), rfl, rfl, by rw [ht]; exact hP, va_K.moved hW.alike hK, hD⟩, hS.F ht⟩) hS.2.2 dX8_owner_19
  · have hf := ff hf c4
    refine lv_iload_n (pc := 7) hx hb dX8_owner_7 rfl (lv_at hl 2 rfl) ?_
    refine lv_iload_n (pc := 8) hx hb dX8_owner_8 rfl (lv_at hl 1 rfl) ?_
    refine lv_sipush (v := 2100) (pc := 9) hx hb dX8_owner_9 (by decide) ?_
    obtain ⟨r12, e12, hf⟩ := bdE hf
    refine ksI (pc := 12) (As := [.int x2, .int x1, .int 2100]) (rest := []) ⟨hx, hb, hml, hown, hts⟩ (c_X8_in l N x2 x1 2100 r12 e12) (va_cwS 3 hts gX8_owner_X8_in rfl rfl rfl h_X8_in ⟨Nat.le_of_ble_eq_true rfl, Nat.le_of_ble_eq_true rfl⟩) rfl hl.1 rfl (Nat.le_of_ble_eq_true rfl) dX8_owner_12 ⟨Nat.zero_le _, Nat.zero_le _⟩ ?_
    refine lv_if_ne (tgt := 20) (pc := 15) hx hb dX8_owner_15 (by decide) (fun c15 => ?_) (fun c15 => ?_)
    · have hf := ff hf c15
      refine lv_aload_n (pc := 20) hx hb dX8_owner_20 rfl (lv_at hl 0 rfl) ?_
      refine va_get (D := g.1) (ci := 8) (v := .int (S8.1 31)) (C := RX8) (T := TX8) (N := 47) (pc := 21) hx hb hts (fun _ h => List.mem_cons_of_mem _ (List.mem_append_right _ h)) hown hK hP 0 rfl rfl 31 (by decide) (hts _ q_X8_owner_0) (fun _ h9 => h9) rfl dX8_owner_21 ?_
      refine lv_bipush (v := 20) (pc := 24) hx hb dX8_owner_24 (by decide) ?_
      refine lv_icmp_ne (tgt := 32) (pc := 26) hx hb dX8_owner_26 (by decide) (fun c26 => ?_) (fun c26 => ?_)
      · have hf := ff hf c26
        refine lv_aload_n (pc := 32) hx hb dX8_owner_32 rfl (lv_at hl 0 rfl) ?_
        refine va_get (D := g.1) (ci := 8) (v := .ref (g.2.2.2 8 32)) (C := RX8) (T := TX8) (N := 47) (pc := 33) hx hb hts (fun _ h => List.mem_cons_of_mem _ (List.mem_append_right _ h)) hown hK hP 0 rfl rfl 32 (by decide) (hts _ q_X8_owner_1) (fun _ h9 => h9) rfl dX8_owner_33 ?_
        refine lv_aload_n (pc := 36) hx hb dX8_owner_36 rfl (lv_at hl 0 rfl) ?_
        refine va_get (D := g.1) (ci := 8) (v := .int (S8.1 31)) (C := RX8) (T := TX8) (N := 47) (pc := 37) hx hb hts (fun _ h => List.mem_cons_of_mem _ (List.mem_append_right _ h)) hown hK hP 0 rfl rfl 31 (by decide) (hts _ q_X8_owner_0) (fun _ h9 => h9) rfl dX8_owner_37 ?_
        refine lv_iload_n (pc := 40) hx hb dX8_owner_40 rfl (lv_at hl 1 rfl) ?_
        obtain ⟨b41, hf⟩ := gdE hf
        refine va_iast (D := g.1) (tys := tyl g) (f := (S8.2.2 32)) (pc := 41) hx hb hK hP hD hS 22 0 rfl rfl (inbV b41) dX8_owner_41 (fun H locs hP hD hS => ?_)
        have hP := u_8_8_32P S8 (upd (S8.2.2 32) (Int32.toNatClampNeg (S8.1 31)) x1) hP
        have hD := u_8_8_32D S8 (upd (S8.2.2 32) (Int32.toNatClampNeg (S8.1 31)) x1) hD
        refine lv_aload_n (pc := 42) hx hb dX8_owner_42 rfl (lv_at hl 0 rfl) ?_
        refine va_get (D := g.1) (ci := 8) (v := .ref (g.2.2.2 8 33)) (C := RX8) (T := TX8) (N := 47) (pc := 43) hx hb hts (fun _ h => List.mem_cons_of_mem _ (List.mem_append_right _ h)) hown hK hP 0 rfl rfl 33 (by decide) (hts _ q_X8_owner_2) (fun _ h9 => h9) rfl dX8_owner_43 ?_
        refine lv_aload_n (pc := 46) hx hb dX8_owner_46 rfl (lv_at hl 0 rfl) ?_
        refine va_get (D := g.1) (ci := 8) (v := .int (S8.1 31)) (C := RX8) (T := TX8) (N := 47) (pc := 47) hx hb hts (fun _ h => List.mem_cons_of_mem _ (List.mem_append_right _ h)) hown hK hP 0 rfl rfl 31 (by decide) (hts _ q_X8_owner_0) (fun _ h9 => h9) rfl dX8_owner_47 ?_
        refine lv_iload_n (pc := 50) hx hb dX8_owner_50 rfl (lv_at hl 2 rfl) ?_
        obtain ⟨b51, hf⟩ := gdE hf
        refine va_iast (D := g.1) (tys := tyl g) (f := (S8.2.2 33)) (pc := 51) hx hb hK hP hD hS 23 0 rfl rfl (inbV b51) dX8_owner_51 (fun H locs hP hD hS => ?_)
        have hP := u_8_8_33P (sA S8 32 (upd (S8.2.2 32) (Int32.toNatClampNeg (S8.1 31)) x1)) (upd (S8.2.2 33) (Int32.toNatClampNeg (S8.1 31)) x2) hP
        have hD := u_8_8_33D (sA S8 32 (upd (S8.2.2 32) (Int32.toNatClampNeg (S8.1 31)) x1)) (upd (S8.2.2 33) (Int32.toNatClampNeg (S8.1 31)) x2) hD
        refine lv_aload_n (pc := 52) hx hb dX8_owner_52 rfl (lv_at hl 0 rfl) ?_
        refine lv_dup (pc := 53) hx hb dX8_owner_53 rfl ?_
        refine va_get (D := g.1) (ci := 8) (v := .int (S8.1 31)) (C := RX8) (T := TX8) (N := 47) (pc := 54) hx hb hts (fun _ h => List.mem_cons_of_mem _ (List.mem_append_right _ h)) hown hK hP 0 rfl rfl 31 (by decide) (hts _ q_X8_owner_0) (fun _ h9 => h9) rfl dX8_owner_54 ?_
        refine lv_iconst (v := 1) (pc := 57) hx hb dX8_owner_57 (by decide) ?_
        refine lv_iadd (pc := 58) hx hb dX8_owner_58 ?_
        refine va_put (D := g.1) (ci := 8) (v := .int ((S8.1 31) + 1)) (ty := .int) (C := RX8) (T := TX8) (N := 47) (pc := 59) hx hb hts (fun _ h => List.mem_cons_of_mem _ (List.mem_append_right _ h)) tyX8 tyX8_ok nmX8 hown hK hP hD hS 0 rfl rfl 31 (by decide) (hts _ q_X8_owner_0) (fun _ h9 => h9) rfl rfl rfl rfl (Nat.le_of_ble_eq_true rfl) dX8_owner_59 (fun H locs hP hD hS => ?_)
        have hP := u_8_8_31P (sA (sA S8 32 (upd (S8.2.2 32) (Int32.toNatClampNeg (S8.1 31)) x1)) 33 (upd (S8.2.2 33) (Int32.toNatClampNeg (S8.1 31)) x2)) ((S8.1 31) + 1) hP
        have hD := u_8_8_31D (sA (sA S8 32 (upd (S8.2.2 32) (Int32.toNatClampNeg (S8.1 31)) x1)) 33 (upd (S8.2.2 33) (Int32.toNatClampNeg (S8.1 31)) x2)) ((S8.1 31) + 1) hD
        refine lv_aload_n (pc := 62) hx hb dX8_owner_62 rfl (lv_at hl 0 rfl) ?_
        refine va_get (D := g.1) (ci := 8) (v := .int ((S8.1 31) + 1)) (C := RX8) (T := TX8) (N := 47) (pc := 63) hx hb hts (fun _ h => List.mem_cons_of_mem _ (List.mem_append_right _ h)) hown hK hP 0 rfl rfl 31 (by decide) (hts _ q_X8_owner_0) (fun _ h9 => h9) rfl dX8_owner_63 ?_
        have hf := Option.some.inj hf
        subst hf
        exact W.iret (v := ((S8.1 31) + 1)) hx hb hr (fun t ht hW => ⟨⟨_, (), rfl, rfl, by rw [ht]; exact hP, va_K.moved hW.alike hK, hD⟩, hS.F ht⟩) hS.2.2 dX8_owner_66
      · have hf := ft hf c26
        refine lv_bipush (v := (-2)) (pc := 29) hx hb dX8_owner_29 (by decide) ?_
        have hf := Option.some.inj hf
        subst hf
        exact W.iret (v := (-2)) hx hb hr (fun t ht hW => ⟨⟨_, (), rfl, rfl, by rw [ht]; exact hP, va_K.moved hW.alike hK, hD⟩, hS.F ht⟩) hS.2.2 dX8_owner_31
    · have hf := ft hf c15
      refine lv_iconst (v := (-1)) (pc := 18) hx hb dX8_owner_18 (by decide) ?_
      have hf := Option.some.inj hf
      subst hf
      exact W.iret (v := (-1)) hx hb hr (fun t ht hW => ⟨⟨_, (), rfl, rfl, by rw [ht]; exact hP, va_K.moved hW.alike hK, hD⟩, hS.F ht⟩) hS.2.2 dX8_owner_19
theorem q_X8_gaps_0 : (.fieldLink RX8 230 "PictureCourtModel" "owners" "I" : Cond) ∈ wsX8_gaps := by decide +kernel
theorem q_X8_gaps_1 : (.fieldLink RX8 75 "PictureCourtModel" "ownerFrom" "[I" : Cond) ∈ wsX8_gaps := by decide +kernel
theorem q_X8_gaps_2 : (.fieldLink RX8 78 "PictureCourtModel" "ownerTo" "[I" : Cond) ∈ wsX8_gaps := by decide +kernel
theorem h_X8_gaps : yX8_gaps.cls = RX8 ∧ yX8_gaps.cls ≠ "java/lang/invoke/MethodHandle" ∧ yX8_gaps.cls ≠ "java/lang/invoke/VarHandle" ∧ (parseMethodDescriptor yX8_gaps.desc).map (fun d => d.parameters.length) = some 2 := by decide +kernel
set_option maxHeartbeats 4000000 in
set_option maxRecDepth 100000 in
theorem w_X8_gaps_84 {p : Program} {l : Launch} {e : Env} {s : State} {m : MethodId} {args : Array Value} {below : List Frame} {meth : Method} {c : Code} {g : En} {A : Nat → Prop} {N : Nat} {res : Int32 × St} (C : cxw g A cX8_gaps 9 (some .int) wsX8_gaps RX8 p s m args meth c) (k31 : St → Int32 → Int32 → Int32 → Int32 → Int32 → Option (Int32 × St)) (H31 : ∀ (H : Heap) (locs : List Loc) (S8 : St) (ls : Array Slot) (x2 : Int32) (x3 : Int32) (x4 : Int32) (x5 : Int32) (x6 : Int32), va_P g.1 vwCl (wd_8 g S8) H → va_D A (wd_8 g S8) → va_S A s.heap H locs → lv_has ls 9 [(0, .ref (g.2.2.1 8)), (2, .int x2), (3, .int x3), (4, .int x4), (5, .int x5), (6, .int x6)] → k31 S8 x2 x3 x4 x5 x6 = some res → W p l e (headSpec wsX8_gaps { frames := 2, cells := 0, slots := 0, locals := 42 }).room s m args below meth c H locs 0 0 (MQ below (rwQi g (wd_8 g (res.2)) A (res.1)) args s 0 0 A) (F0 m 31 ls [])) (k43 : St → Int32 → Int32 → Int32 → Int32 → Int32 → Int32 → Int32 → Option (Int32 × St)) (H43 : ∀ (H : Heap) (locs : List Loc) (S8 : St) (ls : Array Slot) (x2 : Int32) (x3 : Int32) (x4 : Int32) (x5 : Int32) (x6 : Int32) (x7 : Int32) (x8 : Int32), va_P g.1 vwCl (wd_8 g S8) H → va_D A (wd_8 g S8) → va_S A s.heap H locs → lv_has ls 9 [(0, .ref (g.2.2.1 8)), (2, .int x2), (3, .int x3), (4, .int x4), (5, .int x5), (6, .int x6), (7, .int x7), (8, .int x8)] → k43 S8 x2 x3 x4 x5 x6 x7 x8 = some res → W p l e (headSpec wsX8_gaps { frames := 2, cells := 0, slots := 0, locals := 42 }).room s m args below meth c H locs 0 0 (MQ below (rwQi g (wd_8 g (res.2)) A (res.1)) args s 0 0 A) (F0 m 43 ls [])) : ∀ (H : Heap) (locs : List Loc) (S8 : St) (ls : Array Slot) (x2 : Int32) (x3 : Int32) (x4 : Int32) (x5 : Int32) (x6 : Int32) (x8 : Int32) (t0 : Int32), va_P g.1 vwCl (wd_8 g S8) H → va_D A (wd_8 g S8) → va_S A s.heap H locs → lv_has ls 9 [(0, .ref (g.2.2.1 8)), (2, .int x2), (3, .int x3), (4, .int x4), (5, .int x5), (6, .int x6), (8, .int x8)] → f_X8_gaps_84 N  k31 k43 S8 x2 x3 x4 x5 x6 x8 t0 = some res → W p l e (headSpec wsX8_gaps { frames := 2, cells := 0, slots := 0, locals := 42 }).room s m args below meth c H locs 0 0 (MQ below (rwQi g (wd_8 g (res.2)) A (res.1)) args s 0 0 A) (F0 m 84 ls [.int t0]) := by
  intro H locs S8 ls x2 x3 x4 x5 x6 x8 t0 hP hD hS hl hf
  obtain ⟨⟨hx, hb, hr, hml, hown, hts, hlk⟩, hK, hA⟩ := id C
  unfold f_X8_gaps_84 at hf
  refine lv_istore (lv' := [(7, .int t0), (0, .ref (g.2.2.1 8)), (2, .int x2), (3, .int x3), (4, .int x4), (5, .int x5), (6, .int x6), (8, .int x8)]) (pc := 84) hx hb dX8_gaps_84 hl (by decide) rfl (fun ls hl => ?_)
  refine lv_iinc (v := (x8 + 1)) (lv' := [(8, .int (x8 + 1)), (7, .int t0), (0, .ref (g.2.2.1 8)), (2, .int x2), (3, .int x3), (4, .int x4), (5, .int x5), (6, .int x6)]) (pc := 86) hx hb dX8_gaps_86 hl (k := 7) rfl rfl (by decide) rfl (fun ls hl => ?_)
  refine lv_goto (tgt := 43) (pc := 89) hx hb dX8_gaps_89 (by decide) ?_
  exact H43 H locs S8 ls x2 x3 x4 x5 x6 t0 (x8 + 1) hP hD hS (lv_sub hl [2, 3, 4, 5, 6, 7, 1, 0] rfl) hf
set_option maxHeartbeats 4000000 in
set_option maxRecDepth 100000 in
theorem w_X8_gaps_79 {p : Program} {l : Launch} {e : Env} {s : State} {m : MethodId} {args : Array Value} {below : List Frame} {meth : Method} {c : Code} {g : En} {A : Nat → Prop} {N : Nat} {res : Int32 × St} (C : cxw g A cX8_gaps 9 (some .int) wsX8_gaps RX8 p s m args meth c) (k31 : St → Int32 → Int32 → Int32 → Int32 → Int32 → Option (Int32 × St)) (H31 : ∀ (H : Heap) (locs : List Loc) (S8 : St) (ls : Array Slot) (x2 : Int32) (x3 : Int32) (x4 : Int32) (x5 : Int32) (x6 : Int32), va_P g.1 vwCl (wd_8 g S8) H → va_D A (wd_8 g S8) → va_S A s.heap H locs → lv_has ls 9 [(0, .ref (g.2.2.1 8)), (2, .int x2), (3, .int x3), (4, .int x4), (5, .int x5), (6, .int x6)] → k31 S8 x2 x3 x4 x5 x6 = some res → W p l e (headSpec wsX8_gaps { frames := 2, cells := 0, slots := 0, locals := 42 }).room s m args below meth c H locs 0 0 (MQ below (rwQi g (wd_8 g (res.2)) A (res.1)) args s 0 0 A) (F0 m 31 ls [])) (k43 : St → Int32 → Int32 → Int32 → Int32 → Int32 → Int32 → Int32 → Option (Int32 × St)) (H43 : ∀ (H : Heap) (locs : List Loc) (S8 : St) (ls : Array Slot) (x2 : Int32) (x3 : Int32) (x4 : Int32) (x5 : Int32) (x6 : Int32) (x7 : Int32) (x8 : Int32), va_P g.1 vwCl (wd_8 g S8) H → va_D A (wd_8 g S8) → va_S A s.heap H locs → lv_has ls 9 [(0, .ref (g.2.2.1 8)), (2, .int x2), (3, .int x3), (4, .int x4), (5, .int x5), (6, .int x6), (7, .int x7), (8, .int x8)] → k43 S8 x2 x3 x4 x5 x6 x7 x8 = some res → W p l e (headSpec wsX8_gaps { frames := 2, cells := 0, slots := 0, locals := 42 }).room s m args below meth c H locs 0 0 (MQ below (rwQi g (wd_8 g (res.2)) A (res.1)) args s 0 0 A) (F0 m 43 ls [])) : ∀ (H : Heap) (locs : List Loc) (S8 : St) (ls : Array Slot) (x2 : Int32) (x3 : Int32) (x4 : Int32) (x5 : Int32) (x6 : Int32) (x8 : Int32), va_P g.1 vwCl (wd_8 g S8) H → va_D A (wd_8 g S8) → va_S A s.heap H locs → lv_has ls 9 [(0, .ref (g.2.2.1 8)), (2, .int x2), (3, .int x3), (4, .int x4), (5, .int x5), (6, .int x6), (8, .int x8)] → f_X8_gaps_79 N  k31 k43 S8 x2 x3 x4 x5 x6 x8 = some res → W p l e (headSpec wsX8_gaps { frames := 2, cells := 0, slots := 0, locals := 42 }).room s m args below meth c H locs 0 0 (MQ below (rwQi g (wd_8 g (res.2)) A (res.1)) args s 0 0 A) (F0 m 79 ls []) := by
  intro H locs S8 ls x2 x3 x4 x5 x6 x8 hP hD hS hl hf
  obtain ⟨⟨hx, hb, hr, hml, hown, hts, hlk⟩, hK, hA⟩ := id C
  unfold f_X8_gaps_79 at hf
  refine lv_iconst (v := 1) (pc := 79) hx hb dX8_gaps_79 (by decide) ?_
  refine lv_goto (tgt := 84) (pc := 80) hx hb dX8_gaps_80 (by decide) ?_
  exact w_X8_gaps_84 C k31 H31 k43 H43 H locs S8 ls x2 x3 x4 x5 x6 x8 1 hP hD hS (lv_sub hl [0, 1, 2, 3, 4, 5, 6] rfl) hf
set_option maxHeartbeats 4000000 in
set_option maxRecDepth 100000 in
theorem w_X8_gaps_134 {p : Program} {l : Launch} {e : Env} {s : State} {m : MethodId} {args : Array Value} {below : List Frame} {meth : Method} {c : Code} {g : En} {A : Nat → Prop} {N : Nat} {res : Int32 × St} (C : cxw g A cX8_gaps 9 (some .int) wsX8_gaps RX8 p s m args meth c) (k31 : St → Int32 → Int32 → Int32 → Int32 → Int32 → Option (Int32 × St)) (H31 : ∀ (H : Heap) (locs : List Loc) (S8 : St) (ls : Array Slot) (x2 : Int32) (x3 : Int32) (x4 : Int32) (x5 : Int32) (x6 : Int32), va_P g.1 vwCl (wd_8 g S8) H → va_D A (wd_8 g S8) → va_S A s.heap H locs → lv_has ls 9 [(0, .ref (g.2.2.1 8)), (2, .int x2), (3, .int x3), (4, .int x4), (5, .int x5), (6, .int x6)] → k31 S8 x2 x3 x4 x5 x6 = some res → W p l e (headSpec wsX8_gaps { frames := 2, cells := 0, slots := 0, locals := 42 }).room s m args below meth c H locs 0 0 (MQ below (rwQi g (wd_8 g (res.2)) A (res.1)) args s 0 0 A) (F0 m 31 ls [])) : ∀ (H : Heap) (locs : List Loc) (S8 : St) (ls : Array Slot) (x2 : Int32) (x3 : Int32) (x4 : Int32) (x6 : Int32) (t0 : Int32), va_P g.1 vwCl (wd_8 g S8) H → va_D A (wd_8 g S8) → va_S A s.heap H locs → lv_has ls 9 [(0, .ref (g.2.2.1 8)), (2, .int x2), (3, .int x3), (4, .int x4), (6, .int x6)] → f_X8_gaps_134 N  k31 S8 x2 x3 x4 x6 t0 = some res → W p l e (headSpec wsX8_gaps { frames := 2, cells := 0, slots := 0, locals := 42 }).room s m args below meth c H locs 0 0 (MQ below (rwQi g (wd_8 g (res.2)) A (res.1)) args s 0 0 A) (F0 m 134 ls [.int t0]) := by
  intro H locs S8 ls x2 x3 x4 x6 t0 hP hD hS hl hf
  obtain ⟨⟨hx, hb, hr, hml, hown, hts, hlk⟩, hK, hA⟩ := id C
  unfold f_X8_gaps_134 at hf
  refine lv_istore (lv' := [(5, .int t0), (0, .ref (g.2.2.1 8)), (2, .int x2), (3, .int x3), (4, .int x4), (6, .int x6)]) (pc := 134) hx hb dX8_gaps_134 hl (by decide) rfl (fun ls hl => ?_)
  refine lv_iinc (v := (x6 + 1)) (lv' := [(6, .int (x6 + 1)), (5, .int t0), (0, .ref (g.2.2.1 8)), (2, .int x2), (3, .int x3), (4, .int x4)]) (pc := 136) hx hb dX8_gaps_136 hl (k := 5) rfl rfl (by decide) rfl (fun ls hl => ?_)
  refine lv_goto (tgt := 31) (pc := 139) hx hb dX8_gaps_139 (by decide) ?_
  exact H31 H locs S8 ls x2 x3 x4 t0 (x6 + 1) hP hD hS (lv_sub hl [2, 3, 4, 5, 1, 0] rfl) hf
set_option maxHeartbeats 4000000 in
set_option maxRecDepth 100000 in
theorem w_X8_gaps_118 {p : Program} {l : Launch} {e : Env} {s : State} {m : MethodId} {args : Array Value} {below : List Frame} {meth : Method} {c : Code} {g : En} {A : Nat → Prop} {N : Nat} {res : Int32 × St} (C : cxw g A cX8_gaps 9 (some .int) wsX8_gaps RX8 p s m args meth c) (k31 : St → Int32 → Int32 → Int32 → Int32 → Int32 → Option (Int32 × St)) (H31 : ∀ (H : Heap) (locs : List Loc) (S8 : St) (ls : Array Slot) (x2 : Int32) (x3 : Int32) (x4 : Int32) (x5 : Int32) (x6 : Int32), va_P g.1 vwCl (wd_8 g S8) H → va_D A (wd_8 g S8) → va_S A s.heap H locs → lv_has ls 9 [(0, .ref (g.2.2.1 8)), (2, .int x2), (3, .int x3), (4, .int x4), (5, .int x5), (6, .int x6)] → k31 S8 x2 x3 x4 x5 x6 = some res → W p l e (headSpec wsX8_gaps { frames := 2, cells := 0, slots := 0, locals := 42 }).room s m args below meth c H locs 0 0 (MQ below (rwQi g (wd_8 g (res.2)) A (res.1)) args s 0 0 A) (F0 m 31 ls [])) : ∀ (H : Heap) (locs : List Loc) (S8 : St) (ls : Array Slot) (x2 : Int32) (x4 : Int32) (x5 : Int32) (x6 : Int32) (t0 : Int32) (t1 : Int32), va_P g.1 vwCl (wd_8 g S8) H → va_D A (wd_8 g S8) → va_S A s.heap H locs → lv_has ls 9 [(0, .ref (g.2.2.1 8)), (2, .int x2), (4, .int x4), (5, .int x5), (6, .int x6)] → f_X8_gaps_118 N  k31 S8 x2 x4 x5 x6 t0 t1 = some res → W p l e (headSpec wsX8_gaps { frames := 2, cells := 0, slots := 0, locals := 42 }).room s m args below meth c H locs 0 0 (MQ below (rwQi g (wd_8 g (res.2)) A (res.1)) args s 0 0 A) (F0 m 118 ls [.int t0, .int t1]) := by
  intro H locs S8 ls x2 x4 x5 x6 t0 t1 hP hD hS hl hf
  obtain ⟨⟨hx, hb, hr, hml, hown, hts, hlk⟩, hK, hA⟩ := id C
  unfold f_X8_gaps_118 at hf
  refine lv_iadd (pc := 118) hx hb dX8_gaps_118 ?_
  refine lv_istore_n (lv' := [(3, .int (t1 + t0)), (0, .ref (g.2.2.1 8)), (2, .int x2), (4, .int x4), (5, .int x5), (6, .int x6)]) (pc := 119) hx hb dX8_gaps_119 rfl hl (by decide) rfl (fun ls hl => ?_)
  refine lv_iload (pc := 120) hx hb dX8_gaps_120 (lv_at hl 3 rfl) ?_
  refine lv_iload (pc := 122) hx hb dX8_gaps_122 (lv_at hl 4 rfl) ?_
  refine lv_icmp_le (tgt := 132) (pc := 124) hx hb dX8_gaps_124 (by decide) (fun c124 => ?_) (fun c124 => ?_)
  · have hf := ft hf c124
    refine lv_iload (pc := 132) hx hb dX8_gaps_132 (lv_at hl 4 rfl) ?_
    exact w_X8_gaps_134 C k31 H31 H locs S8 ls x2 (t1 + t0) x4 x6 x5 hP hD hS (lv_sub hl [1, 2, 0, 3, 5] rfl) hf
  · have hf := ff hf c124
    refine lv_iload (pc := 127) hx hb dX8_gaps_127 (lv_at hl 3 rfl) ?_
    refine lv_goto (tgt := 134) (pc := 129) hx hb dX8_gaps_129 (by decide) ?_
    exact w_X8_gaps_134 C k31 H31 H locs S8 ls x2 (t1 + t0) x4 x6 x4 hP hD hS (lv_sub hl [1, 2, 0, 3, 5] rfl) hf
set_option maxHeartbeats 4000000 in
set_option maxRecDepth 100000 in
theorem w_X8_gaps_105 {p : Program} {l : Launch} {e : Env} {s : State} {m : MethodId} {args : Array Value} {below : List Frame} {meth : Method} {c : Code} {g : En} {A : Nat → Prop} {N : Nat} {res : Int32 × St} (C : cxw g A cX8_gaps 9 (some .int) wsX8_gaps RX8 p s m args meth c) (k31 : St → Int32 → Int32 → Int32 → Int32 → Int32 → Option (Int32 × St)) (H31 : ∀ (H : Heap) (locs : List Loc) (S8 : St) (ls : Array Slot) (x2 : Int32) (x3 : Int32) (x4 : Int32) (x5 : Int32) (x6 : Int32), va_P g.1 vwCl (wd_8 g S8) H → va_D A (wd_8 g S8) → va_S A s.heap H locs → lv_has ls 9 [(0, .ref (g.2.2.1 8)), (2, .int x2), (3, .int x3), (4, .int x4), (5, .int x5), (6, .int x6)] → k31 S8 x2 x3 x4 x5 x6 = some res → W p l e (headSpec wsX8_gaps { frames := 2, cells := 0, slots := 0, locals := 42 }).room s m args below meth c H locs 0 0 (MQ below (rwQi g (wd_8 g (res.2)) A (res.1)) args s 0 0 A) (F0 m 31 ls [])) : ∀ (H : Heap) (locs : List Loc) (S8 : St) (ls : Array Slot) (x2 : Int32) (x3 : Int32) (x5 : Int32) (x6 : Int32) (x7 : Int32) (t0 : Int32), va_P g.1 vwCl (wd_8 g S8) H → va_D A (wd_8 g S8) → va_S A s.heap H locs → lv_has ls 9 [(0, .ref (g.2.2.1 8)), (2, .int x2), (3, .int x3), (5, .int x5), (6, .int x6), (7, .int x7)] → f_X8_gaps_105 N  k31 S8 x2 x3 x5 x6 x7 t0 = some res → W p l e (headSpec wsX8_gaps { frames := 2, cells := 0, slots := 0, locals := 42 }).room s m args below meth c H locs 0 0 (MQ below (rwQi g (wd_8 g (res.2)) A (res.1)) args s 0 0 A) (F0 m 105 ls [.int t0]) := by
  intro H locs S8 ls x2 x3 x5 x6 x7 t0 hP hD hS hl hf
  obtain ⟨⟨hx, hb, hr, hml, hown, hts, hlk⟩, hK, hA⟩ := id C
  unfold f_X8_gaps_105 at hf
  refine lv_istore (lv' := [(4, .int t0), (0, .ref (g.2.2.1 8)), (2, .int x2), (3, .int x3), (5, .int x5), (6, .int x6), (7, .int x7)]) (pc := 105) hx hb dX8_gaps_105 hl (by decide) rfl (fun ls hl => ?_)
  refine lv_iload_n (pc := 107) hx hb dX8_gaps_107 rfl (lv_at hl 3 rfl) ?_
  refine lv_iload (pc := 108) hx hb dX8_gaps_108 (lv_at hl 6 rfl) ?_
  refine lv_if_eq (tgt := 117) (pc := 110) hx hb dX8_gaps_110 (by decide) (fun c110 => ?_) (fun c110 => ?_)
  · have hf := ft hf c110
    refine lv_iconst (v := 1) (pc := 117) hx hb dX8_gaps_117 (by decide) ?_
    exact w_X8_gaps_118 C k31 H31 H locs S8 ls x2 t0 x5 x6 1 x3 hP hD hS (lv_sub hl [1, 2, 0, 4, 5] rfl) hf
  · have hf := ff hf c110
    refine lv_iconst (v := 0) (pc := 113) hx hb dX8_gaps_113 (by decide) ?_
    refine lv_goto (tgt := 118) (pc := 114) hx hb dX8_gaps_114 (by decide) ?_
    exact w_X8_gaps_118 C k31 H31 H locs S8 ls x2 t0 x5 x6 0 x3 hP hD hS (lv_sub hl [1, 2, 0, 4, 5] rfl) hf
set_option maxHeartbeats 4000000 in
set_option maxRecDepth 100000 in
theorem w_X8_gaps_43_b {p : Program} {l : Launch} {e : Env} {s : State} {m : MethodId} {args : Array Value} {below : List Frame} {meth : Method} {c : Code} {g : En} {A : Nat → Prop} {N : Nat} {res : Int32 × St} (C : cxw g A cX8_gaps 9 (some .int) wsX8_gaps RX8 p s m args meth c) (k31 : St → Int32 → Int32 → Int32 → Int32 → Int32 → Option (Int32 × St)) (H31 : ∀ (H : Heap) (locs : List Loc) (S8 : St) (ls : Array Slot) (x2 : Int32) (x3 : Int32) (x4 : Int32) (x5 : Int32) (x6 : Int32), va_P g.1 vwCl (wd_8 g S8) H → va_D A (wd_8 g S8) → va_S A s.heap H locs → lv_has ls 9 [(0, .ref (g.2.2.1 8)), (2, .int x2), (3, .int x3), (4, .int x4), (5, .int x5), (6, .int x6)] → k31 S8 x2 x3 x4 x5 x6 = some res → W p l e (headSpec wsX8_gaps { frames := 2, cells := 0, slots := 0, locals := 42 }).room s m args below meth c H locs 0 0 (MQ below (rwQi g (wd_8 g (res.2)) A (res.1)) args s 0 0 A) (F0 m 31 ls [])) (k43 : St → Int32 → Int32 → Int32 → Int32 → Int32 → Int32 → Int32 → Option (Int32 × St)) (H43 : ∀ (H : Heap) (locs : List Loc) (S8 : St) (ls : Array Slot) (x2 : Int32) (x3 : Int32) (x4 : Int32) (x5 : Int32) (x6 : Int32) (x7 : Int32) (x8 : Int32), va_P g.1 vwCl (wd_8 g S8) H → va_D A (wd_8 g S8) → va_S A s.heap H locs → lv_has ls 9 [(0, .ref (g.2.2.1 8)), (2, .int x2), (3, .int x3), (4, .int x4), (5, .int x5), (6, .int x6), (7, .int x7), (8, .int x8)] → k43 S8 x2 x3 x4 x5 x6 x7 x8 = some res → W p l e (headSpec wsX8_gaps { frames := 2, cells := 0, slots := 0, locals := 42 }).room s m args below meth c H locs 0 0 (MQ below (rwQi g (wd_8 g (res.2)) A (res.1)) args s 0 0 A) (F0 m 43 ls [])) : ∀ (H : Heap) (locs : List Loc) (S8 : St) (ls : Array Slot) (x2 : Int32) (x3 : Int32) (x4 : Int32) (x5 : Int32) (x6 : Int32) (x7 : Int32) (x8 : Int32), va_P g.1 vwCl (wd_8 g S8) H → va_D A (wd_8 g S8) → va_S A s.heap H locs → lv_has ls 9 [(0, .ref (g.2.2.1 8)), (2, .int x2), (3, .int x3), (4, .int x4), (5, .int x5), (6, .int x6), (7, .int x7), (8, .int x8)] → f_X8_gaps_43_b N  k31 k43 S8 x2 x3 x4 x5 x6 x7 x8 = some res → W p l e (headSpec wsX8_gaps { frames := 2, cells := 0, slots := 0, locals := 42 }).room s m args below meth c H locs 0 0 (MQ below (rwQi g (wd_8 g (res.2)) A (res.1)) args s 0 0 A) (F0 m 43 ls []) := by
  intro H locs S8 ls x2 x3 x4 x5 x6 x7 x8 hP hD hS hl hf
  obtain ⟨⟨hx, hb, hr, hml, hown, hts, hlk⟩, hK, hA⟩ := id C
  unfold f_X8_gaps_43_b at hf
  refine lv_iload (pc := 43) hx hb dX8_gaps_43 (lv_at hl 7 rfl) ?_
  refine lv_aload_n (pc := 45) hx hb dX8_gaps_45 rfl (lv_at hl 0 rfl) ?_
  refine va_get (D := g.1) (ci := 8) (v := .int (S8.1 31)) (C := RX8) (T := TX8) (N := 47) (pc := 46) hx hb hts (fun _ h => List.mem_cons_of_mem _ (List.mem_append_right _ h)) hown hK hP 0 rfl rfl 31 (by decide) (hts _ q_X8_gaps_0) (fun _ h9 => h9) rfl dX8_gaps_46 ?_
  refine lv_icmp_ge (tgt := 92) (pc := 49) hx hb dX8_gaps_49 (by decide) (fun c49 => ?_) (fun c49 => ?_)
  · have hf := ft hf c49
    refine lv_iload (pc := 92) hx hb dX8_gaps_92 (lv_at hl 6 rfl) ?_
    refine lv_if_eq (tgt := 101) (pc := 94) hx hb dX8_gaps_94 (by decide) (fun c94 => ?_) (fun c94 => ?_)
    · have hf := ft hf c94
      refine lv_iload (pc := 101) hx hb dX8_gaps_101 (lv_at hl 3 rfl) ?_
      refine lv_iconst (v := 1) (pc := 103) hx hb dX8_gaps_103 (by decide) ?_
      refine lv_iadd (pc := 104) hx hb dX8_gaps_104 ?_
      exact w_X8_gaps_105 C k31 H31 H locs S8 ls x2 x3 x5 x6 x7 (x4 + 1) hP hD hS (lv_sub hl [0, 1, 2, 4, 5, 6] rfl) hf
    · have hf := ff hf c94
      refine lv_iconst (v := 0) (pc := 97) hx hb dX8_gaps_97 (by decide) ?_
      refine lv_goto (tgt := 105) (pc := 98) hx hb dX8_gaps_98 (by decide) ?_
      exact w_X8_gaps_105 C k31 H31 H locs S8 ls x2 x3 x5 x6 x7 0 hP hD hS (lv_sub hl [0, 1, 2, 4, 5, 6] rfl) hf
  · have hf := ff hf c49
    refine lv_iload (pc := 52) hx hb dX8_gaps_52 (lv_at hl 6 rfl) ?_
    refine lv_if_ne (tgt := 79) (pc := 54) hx hb dX8_gaps_54 (by decide) (fun c54 => ?_) (fun c54 => ?_)
    · have hf := ff hf c54
      exact w_X8_gaps_79 C k31 H31 k43 H43 H locs S8 ls x2 x3 x4 x5 x6 x8 hP hD hS (lv_sub hl [0, 1, 2, 3, 4, 5, 7] rfl) hf
    · have hf := ft hf c54
      refine lv_iload (pc := 57) hx hb dX8_gaps_57 (lv_at hl 5 rfl) ?_
      refine lv_aload_n (pc := 59) hx hb dX8_gaps_59 rfl (lv_at hl 0 rfl) ?_
      refine va_get (D := g.1) (ci := 8) (v := .ref (g.2.2.2 8 32)) (C := RX8) (T := TX8) (N := 47) (pc := 60) hx hb hts (fun _ h => List.mem_cons_of_mem _ (List.mem_append_right _ h)) hown hK hP 0 rfl rfl 32 (by decide) (hts _ q_X8_gaps_1) (fun _ h9 => h9) rfl dX8_gaps_60 ?_
      refine lv_iload (pc := 63) hx hb dX8_gaps_63 (lv_at hl 7 rfl) ?_
      obtain ⟨b65, hf⟩ := gdE hf
      refine va_iald (D := g.1) (tys := tyl g) (f := (S8.2.2 32)) (pc := 65) hx hb hK hP 22 0 rfl rfl (inbV b65) dX8_gaps_65 ?_
      refine lv_aload_n (pc := 66) hx hb dX8_gaps_66 rfl (lv_at hl 0 rfl) ?_
      refine va_get (D := g.1) (ci := 8) (v := .ref (g.2.2.2 8 33)) (C := RX8) (T := TX8) (N := 47) (pc := 67) hx hb hts (fun _ h => List.mem_cons_of_mem _ (List.mem_append_right _ h)) hown hK hP 0 rfl rfl 33 (by decide) (hts _ q_X8_gaps_2) (fun _ h9 => h9) rfl dX8_gaps_67 ?_
      refine lv_iload (pc := 70) hx hb dX8_gaps_70 (lv_at hl 7 rfl) ?_
      obtain ⟨b72, hf⟩ := gdE hf
      refine va_iald (D := g.1) (tys := tyl g) (f := (S8.2.2 33)) (pc := 72) hx hb hK hP 23 0 rfl rfl (inbV b72) dX8_gaps_72 ?_
      obtain ⟨r73, e73, hf⟩ := bdE hf
      refine ksI (pc := 73) (As := [.int x6, .int ((S8.2.2 32) (Int32.toNatClampNeg x8)), .int ((S8.2.2 33) (Int32.toNatClampNeg x8))]) (rest := []) ⟨hx, hb, hml, hown, hts⟩ (c_X8_in l N x6 ((S8.2.2 32) (Int32.toNatClampNeg x8)) ((S8.2.2 33) (Int32.toNatClampNeg x8)) r73 e73) (va_cwS 3 hts gX8_gaps_X8_in rfl rfl rfl h_X8_in ⟨Nat.le_of_ble_eq_true rfl, Nat.le_of_ble_eq_true rfl⟩) rfl hl.1 rfl (Nat.le_of_ble_eq_true rfl) dX8_gaps_73 ⟨Nat.zero_le _, Nat.zero_le _⟩ ?_
      refine lv_if_eq (tgt := 83) (pc := 76) hx hb dX8_gaps_76 (by decide) (fun c76 => ?_) (fun c76 => ?_)
      · have hf := ft hf c76
        refine lv_iconst (v := 0) (pc := 83) hx hb dX8_gaps_83 (by decide) ?_
        exact w_X8_gaps_84 C k31 H31 k43 H43 H locs S8 ls x2 x3 x4 x5 x6 x8 0 hP hD hS (lv_sub hl [0, 1, 2, 3, 4, 5, 7] rfl) hf
      · have hf := ff hf c76
        exact w_X8_gaps_79 C k31 H31 k43 H43 H locs S8 ls x2 x3 x4 x5 x6 x8 hP hD hS (lv_sub hl [0, 1, 2, 3, 4, 5, 7] rfl) hf
set_option maxHeartbeats 4000000 in
set_option maxRecDepth 100000 in
theorem w_X8_gaps_43 {p : Program} {l : Launch} {e : Env} {s : State} {m : MethodId} {args : Array Value} {below : List Frame} {meth : Method} {c : Code} {g : En} {A : Nat → Prop} {N : Nat} {res : Int32 × St} (C : cxw g A cX8_gaps 9 (some .int) wsX8_gaps RX8 p s m args meth c) (k31 : St → Int32 → Int32 → Int32 → Int32 → Int32 → Option (Int32 × St)) (H31 : ∀ (H : Heap) (locs : List Loc) (S8 : St) (ls : Array Slot) (x2 : Int32) (x3 : Int32) (x4 : Int32) (x5 : Int32) (x6 : Int32), va_P g.1 vwCl (wd_8 g S8) H → va_D A (wd_8 g S8) → va_S A s.heap H locs → lv_has ls 9 [(0, .ref (g.2.2.1 8)), (2, .int x2), (3, .int x3), (4, .int x4), (5, .int x5), (6, .int x6)] → k31 S8 x2 x3 x4 x5 x6 = some res → W p l e (headSpec wsX8_gaps { frames := 2, cells := 0, slots := 0, locals := 42 }).room s m args below meth c H locs 0 0 (MQ below (rwQi g (wd_8 g (res.2)) A (res.1)) args s 0 0 A) (F0 m 31 ls [])) : ∀ (n : Nat), ∀ (H : Heap) (locs : List Loc) (S8 : St) (ls : Array Slot) (x2 : Int32) (x3 : Int32) (x4 : Int32) (x5 : Int32) (x6 : Int32) (x7 : Int32) (x8 : Int32), va_P g.1 vwCl (wd_8 g S8) H → va_D A (wd_8 g S8) → va_S A s.heap H locs → lv_has ls 9 [(0, .ref (g.2.2.1 8)), (2, .int x2), (3, .int x3), (4, .int x4), (5, .int x5), (6, .int x6), (7, .int x7), (8, .int x8)] → f_X8_gaps_43 N  k31 n S8 x2 x3 x4 x5 x6 x7 x8 = some res → W p l e (headSpec wsX8_gaps { frames := 2, cells := 0, slots := 0, locals := 42 }).room s m args below meth c H locs 0 0 (MQ below (rwQi g (wd_8 g (res.2)) A (res.1)) args s 0 0 A) (F0 m 43 ls []) := by
  intro n
  induction n with
  | zero =>
    intro H locs S8 ls x2 x3 x4 x5 x6 x7 x8 hP hD hS hl hf
    have hf : (none : Option (Int32 × St)) = some res := hf
    cases hf
  | succ n ih =>
    intro H locs S8 ls x2 x3 x4 x5 x6 x7 x8 hP hD hS hl hf
    exact w_X8_gaps_43_b C k31 H31 (fun y0 y1 y2 y3 y4 y5 y6 y7 => f_X8_gaps_43 N  k31 n y0 y1 y2 y3 y4 y5 y6 y7) ih H locs S8 ls x2 x3 x4 x5 x6 x7 x8 hP hD hS hl hf
set_option maxHeartbeats 4000000 in
set_option maxRecDepth 100000 in
theorem w_X8_gaps_31_b {p : Program} {l : Launch} {e : Env} {s : State} {m : MethodId} {args : Array Value} {below : List Frame} {meth : Method} {c : Code} {g : En} {A : Nat → Prop} {N : Nat} {res : Int32 × St} (C : cxw g A cX8_gaps 9 (some .int) wsX8_gaps RX8 p s m args meth c) (k31 : St → Int32 → Int32 → Int32 → Int32 → Int32 → Option (Int32 × St)) (H31 : ∀ (H : Heap) (locs : List Loc) (S8 : St) (ls : Array Slot) (x2 : Int32) (x3 : Int32) (x4 : Int32) (x5 : Int32) (x6 : Int32), va_P g.1 vwCl (wd_8 g S8) H → va_D A (wd_8 g S8) → va_S A s.heap H locs → lv_has ls 9 [(0, .ref (g.2.2.1 8)), (2, .int x2), (3, .int x3), (4, .int x4), (5, .int x5), (6, .int x6)] → k31 S8 x2 x3 x4 x5 x6 = some res → W p l e (headSpec wsX8_gaps { frames := 2, cells := 0, slots := 0, locals := 42 }).room s m args below meth c H locs 0 0 (MQ below (rwQi g (wd_8 g (res.2)) A (res.1)) args s 0 0 A) (F0 m 31 ls [])) : ∀ (H : Heap) (locs : List Loc) (S8 : St) (ls : Array Slot) (x2 : Int32) (x3 : Int32) (x4 : Int32) (x5 : Int32) (x6 : Int32), va_P g.1 vwCl (wd_8 g S8) H → va_D A (wd_8 g S8) → va_S A s.heap H locs → lv_has ls 9 [(0, .ref (g.2.2.1 8)), (2, .int x2), (3, .int x3), (4, .int x4), (5, .int x5), (6, .int x6)] → f_X8_gaps_31_b N   k31 S8 x2 x3 x4 x5 x6 = some res → W p l e (headSpec wsX8_gaps { frames := 2, cells := 0, slots := 0, locals := 42 }).room s m args below meth c H locs 0 0 (MQ below (rwQi g (wd_8 g (res.2)) A (res.1)) args s 0 0 A) (F0 m 31 ls []) := by
  intro H locs S8 ls x2 x3 x4 x5 x6 hP hD hS hl hf
  obtain ⟨⟨hx, hb, hr, hml, hown, hts, hlk⟩, hK, hA⟩ := id C
  unfold f_X8_gaps_31_b at hf
  refine lv_iload (pc := 31) hx hb dX8_gaps_31 (lv_at hl 5 rfl) ?_
  refine lv_iload_n (pc := 33) hx hb dX8_gaps_33 rfl (lv_at hl 1 rfl) ?_
  refine lv_icmp_gt (tgt := 142) (pc := 34) hx hb dX8_gaps_34 (by decide) (fun c34 => ?_) (fun c34 => ?_)
  · have hf := ft hf c34
    refine lv_aload_n (pc := 142) hx hb dX8_gaps_142 rfl (lv_at hl 0 rfl) ?_
    refine lv_iload (pc := 143) hx hb dX8_gaps_143 (lv_at hl 4 rfl) ?_
    refine lv_iload_n (pc := 145) hx hb dX8_gaps_145 rfl (lv_at hl 2 rfl) ?_
    obtain ⟨r146, e146, hf⟩ := bdE hf
    refine kuI (g := g) (A := A) (W0 := (wd_8 g S8)) (w1 := (wd_8 g (r146.2))) (pc := 146) (As := [.int x5, .int x3]) (rest := []) ⟨hx, hb, hml, hown, hts⟩ hK hA hP hD hS (c_X8_tells l g N H.size S8 x5 x3 r146 e146) (cwV 2 hts gX8_gaps_X8_tells rfl rfl rfl h_X8_tells ⟨Nat.le_of_ble_eq_true rfl, Nat.le_of_ble_eq_true rfl⟩) rfl rfl rfl hl.1 rfl (Nat.le_of_ble_eq_true rfl) dX8_gaps_146 ⟨Nat.zero_le _, Nat.zero_le _⟩ (fun H locs hP hD hS => ?_)
    have hf := Option.some.inj hf
    subst hf
    exact W.iret (v := (r146.1)) hx hb hr (fun t ht hW => ⟨⟨_, (), rfl, rfl, by rw [ht]; exact hP, va_K.moved hW.alike hK, hD⟩, hS.F ht⟩) hS.2.2 dX8_gaps_149
  · have hf := ff hf c34
    refine lv_iconst (v := 0) (pc := 37) hx hb dX8_gaps_37 (by decide) ?_
    refine lv_istore (lv' := [(7, .int 0), (0, .ref (g.2.2.1 8)), (2, .int x2), (3, .int x3), (4, .int x4), (5, .int x5), (6, .int x6)]) (pc := 38) hx hb dX8_gaps_38 hl (by decide) rfl (fun ls hl => ?_)
    refine lv_iconst (v := 0) (pc := 40) hx hb dX8_gaps_40 (by decide) ?_
    refine lv_istore (lv' := [(8, .int 0), (7, .int 0), (0, .ref (g.2.2.1 8)), (2, .int x2), (3, .int x3), (4, .int x4), (5, .int x5), (6, .int x6)]) (pc := 41) hx hb dX8_gaps_41 hl (by decide) rfl (fun ls hl => ?_)
    exact w_X8_gaps_43 C k31 H31 N H locs S8 ls x2 x3 x4 x5 x6 0 0 hP hD hS (lv_sub hl [2, 3, 4, 5, 6, 7, 1, 0] rfl) hf
set_option maxHeartbeats 4000000 in
set_option maxRecDepth 100000 in
theorem w_X8_gaps_31 {p : Program} {l : Launch} {e : Env} {s : State} {m : MethodId} {args : Array Value} {below : List Frame} {meth : Method} {c : Code} {g : En} {A : Nat → Prop} {N : Nat} {res : Int32 × St} (C : cxw g A cX8_gaps 9 (some .int) wsX8_gaps RX8 p s m args meth c) : ∀ (n : Nat), ∀ (H : Heap) (locs : List Loc) (S8 : St) (ls : Array Slot) (x2 : Int32) (x3 : Int32) (x4 : Int32) (x5 : Int32) (x6 : Int32), va_P g.1 vwCl (wd_8 g S8) H → va_D A (wd_8 g S8) → va_S A s.heap H locs → lv_has ls 9 [(0, .ref (g.2.2.1 8)), (2, .int x2), (3, .int x3), (4, .int x4), (5, .int x5), (6, .int x6)] → f_X8_gaps_31 N   n S8 x2 x3 x4 x5 x6 = some res → W p l e (headSpec wsX8_gaps { frames := 2, cells := 0, slots := 0, locals := 42 }).room s m args below meth c H locs 0 0 (MQ below (rwQi g (wd_8 g (res.2)) A (res.1)) args s 0 0 A) (F0 m 31 ls []) := by
  intro n
  induction n with
  | zero =>
    intro H locs S8 ls x2 x3 x4 x5 x6 hP hD hS hl hf
    have hf : (none : Option (Int32 × St)) = some res := hf
    cases hf
  | succ n ih =>
    intro H locs S8 ls x2 x3 x4 x5 x6 hP hD hS hl hf
    exact w_X8_gaps_31_b C  (fun y0 y1 y2 y3 y4 y5 => f_X8_gaps_31 N   n y0 y1 y2 y3 y4 y5) ih H locs S8 ls x2 x3 x4 x5 x6 hP hD hS hl hf
set_option maxHeartbeats 4000000 in
set_option maxRecDepth 100000 in
theorem c_X8_gaps (l : Launch) (g : En) (N : Nat) (sz : Nat) (S8 : St) (x1 : Int32) (x2 : Int32) (res : Int32 × St) (hf : f_X8_gaps N S8 x1 x2 = some res) : Met l yX8_gaps wsX8_gaps { frames := 2, cells := 0, slots := 0, locals := 42 } (rwP g (wd_8 g S8) sz [.ref (g.2.2.1 8), .int x1, .int x2]) (rwQi g (wd_8 g (res.2)) (va_A (wd_8 g S8) sz) (res.1)) 0 0 (va_A (wd_8 g S8) sz) := by
  refine Met.ofW (cc := cX8_gaps) (maxL := 9) (ret := (some .int)) (by decide) rfl ?_
  intro p e s m args below meth c s₁ B hml hv
  obtain ⟨rfl, hsz, hP, hK, hD0⟩ := hv
  have hx := B.exec
  have hb := B.bytes
  have hr := B.returns
  have hts := atoms_spec (ws := wsX8_gaps) B.pre
  have hown : s.vm.findClass RX8 = some m.cls := findClass_of_methodNamed B.named
  have hlk := B.notSynchronized
  subst hsz
  have hD := hD0.self (sz := s.heap.size)
  generalize hAe : va_A (wd_8 g S8) s.heap.size = A at hD ⊢
  have hA : ∀ q : Nat, s.heap.size ≤ q → A q := fun q h => by rw [← hAe]; exact Or.inr h
  have hS : va_S A s.heap s.heap [] := va_S.rf
  have C : cxw g A cX8_gaps 9 (some .int) wsX8_gaps RX8 p s m ([.ref (g.2.2.1 8), .int x1, .int x2] : List Value).toArray meth c := ⟨⟨hx, hb, hr, hml, hown, hts, hlk⟩, hK, hA⟩
  have hl := lv_entry [.ref (g.2.2.1 8), .int x1, .int x2] (n := 9) (Nat.le_of_ble_eq_true rfl)
  rw [lg_entry_eq]
  generalize (lg_sl [.ref (g.2.2.1 8), .int x1, .int x2] ++ List.replicate (9 - (lg_sl [.ref (g.2.2.1 8), .int x1, .int x2]).length) Slot.unset).toArray = ls at hl ⊢
  have hl : lv_has ls 9 [(0, .ref (g.2.2.1 8)), (1, .int x1), (2, .int x2)] := hl
  unfold f_X8_gaps at hf
  suffices K9 : ∀ (H : Heap) (locs : List Loc), va_P g.1 vwCl (wd_8 g S8) H → va_D A (wd_8 g S8) → va_S A s.heap H locs → ((f_X8_isYear N x1).bind (fun r1 => (if r1 = 0 then some ((-1), S8) else ((f_X8_in N x2 x1 2100).bind (fun r12 => (if r12 = 0 then some ((-1), S8) else (f_X8_gaps_31 N   N S8 x2 0 0 0 x1))))))) = some res → W p l e (headSpec wsX8_gaps { frames := 2, cells := 0, slots := 0, locals := 42 }).room s m ([.ref (g.2.2.1 8), .int x1, .int x2] : List Value).toArray below meth c H locs 0 0 (MQ below (rwQi g (wd_8 g (res.2)) A (res.1)) ([.ref (g.2.2.1 8), .int x1, .int x2] : List Value).toArray s 0 0 A) (F0 m 0 ls []) from K9 s.heap [] hP hD hS hf
  clear hP hD hS hf
  intro H locs hP hD hS hf
  refine lv_iload_n (pc := 0) hx hb dX8_gaps_0 rfl (lv_at hl 1 rfl) ?_
  obtain ⟨r1, e1, hf⟩ := bdE hf
  refine ksI (pc := 1) (As := [.int x1]) (rest := []) ⟨hx, hb, hml, hown, hts⟩ (c_X8_isYear l N x1 r1 e1) (va_cwS 1 hts gX8_gaps_X8_isYear rfl rfl rfl h_X8_isYear ⟨Nat.le_of_ble_eq_true rfl, Nat.le_of_ble_eq_true rfl⟩) rfl hl.1 rfl (Nat.le_of_ble_eq_true rfl) dX8_gaps_1 ⟨Nat.zero_le _, Nat.zero_le _⟩ ?_
  refine lv_if_eq (tgt := 18) (pc := 4) hx hb dX8_gaps_4 (by decide) (fun c4 => ?_) (fun c4 => ?_)
  · have hf := ft hf c4
    refine lv_iconst (v := (-1)) (pc := 18) hx hb dX8_gaps_18 (by decide) ?_
    have hf := Option.some.inj hf
    subst hf
    exact W.iret (v := (-1)) hx hb hr (fun t ht hW => ⟨⟨_, (), rfl, rfl, by rw [ht]; exact hP, va_K.moved hW.alike hK, hD⟩, hS.F ht⟩) hS.2.2 dX8_gaps_19
  · have hf := ff hf c4
    refine lv_iload_n (pc := 7) hx hb dX8_gaps_7 rfl (lv_at hl 2 rfl) ?_
    refine lv_iload_n (pc := 8) hx hb dX8_gaps_8 rfl (lv_at hl 1 rfl) ?_
    refine lv_sipush (v := 2100) (pc := 9) hx hb dX8_gaps_9 (by decide) ?_
    obtain ⟨r12, e12, hf⟩ := bdE hf
    refine ksI (pc := 12) (As := [.int x2, .int x1, .int 2100]) (rest := []) ⟨hx, hb, hml, hown, hts⟩ (c_X8_in l N x2 x1 2100 r12 e12) (va_cwS 3 hts gX8_gaps_X8_in rfl rfl rfl h_X8_in ⟨Nat.le_of_ble_eq_true rfl, Nat.le_of_ble_eq_true rfl⟩) rfl hl.1 rfl (Nat.le_of_ble_eq_true rfl) dX8_gaps_12 ⟨Nat.zero_le _, Nat.zero_le _⟩ ?_
    refine lv_if_ne (tgt := 20) (pc := 15) hx hb dX8_gaps_15 (by decide) (fun c15 => ?_) (fun c15 => ?_)
    · have hf := ff hf c15
      refine lv_iconst (v := 0) (pc := 20) hx hb dX8_gaps_20 (by decide) ?_
      refine lv_istore_n (lv' := [(3, .int 0), (0, .ref (g.2.2.1 8)), (1, .int x1), (2, .int x2)]) (pc := 21) hx hb dX8_gaps_21 rfl hl (by decide) rfl (fun ls hl => ?_)
      refine lv_iconst (v := 0) (pc := 22) hx hb dX8_gaps_22 (by decide) ?_
      refine lv_istore (lv' := [(4, .int 0), (3, .int 0), (0, .ref (g.2.2.1 8)), (1, .int x1), (2, .int x2)]) (pc := 23) hx hb dX8_gaps_23 hl (by decide) rfl (fun ls hl => ?_)
      refine lv_iconst (v := 0) (pc := 25) hx hb dX8_gaps_25 (by decide) ?_
      refine lv_istore (lv' := [(5, .int 0), (4, .int 0), (3, .int 0), (0, .ref (g.2.2.1 8)), (1, .int x1), (2, .int x2)]) (pc := 26) hx hb dX8_gaps_26 hl (by decide) rfl (fun ls hl => ?_)
      refine lv_iload_n (pc := 28) hx hb dX8_gaps_28 rfl (lv_at hl 4 rfl) ?_
      refine lv_istore (lv' := [(6, .int x1), (5, .int 0), (4, .int 0), (3, .int 0), (0, .ref (g.2.2.1 8)), (1, .int x1), (2, .int x2)]) (pc := 29) hx hb dX8_gaps_29 hl (by decide) rfl (fun ls hl => ?_)
      exact w_X8_gaps_31 C  N H locs S8 ls x2 0 0 0 x1 hP hD hS (lv_sub hl [4, 6, 3, 2, 1, 0] rfl) hf
    · have hf := ft hf c15
      refine lv_iconst (v := (-1)) (pc := 18) hx hb dX8_gaps_18 (by decide) ?_
      have hf := Option.some.inj hf
      subst hf
      exact W.iret (v := (-1)) hx hb hr (fun t ht hW => ⟨⟨_, (), rfl, rfl, by rw [ht]; exact hP, va_K.moved hW.alike hK, hD⟩, hS.F ht⟩) hS.2.2 dX8_gaps_19
theorem q_X8_opinion_0 : (.fieldLink RX8 233 "PictureCourtModel" "opinions" "I" : Cond) ∈ wsX8_opinion := by decide +kernel
theorem q_X8_opinion_1 : (.fieldLink RX8 81 "PictureCourtModel" "opinionExpert" "[I" : Cond) ∈ wsX8_opinion := by decide +kernel
theorem q_X8_opinion_2 : (.fieldLink RX8 84 "PictureCourtModel" "opinionHand" "[I" : Cond) ∈ wsX8_opinion := by decide +kernel
theorem q_X8_opinion_3 : (.fieldLink RX8 87 "PictureCourtModel" "opinionSure" "[I" : Cond) ∈ wsX8_opinion := by decide +kernel
theorem q_X8_opinion_4 : (.fieldLink RX8 90 "PictureCourtModel" "opinionKnew" "[Z" : Cond) ∈ wsX8_opinion := by decide +kernel
theorem h_X8_opinion : yX8_opinion.cls = RX8 ∧ yX8_opinion.cls ≠ "java/lang/invoke/MethodHandle" ∧ yX8_opinion.cls ≠ "java/lang/invoke/VarHandle" ∧ (parseMethodDescriptor yX8_opinion.desc).map (fun d => d.parameters.length) = some 4 := by decide +kernel
set_option maxHeartbeats 4000000 in
set_option maxRecDepth 100000 in
theorem c_X8_opinion (l : Launch) (g : En) (N : Nat) (sz : Nat) (S8 : St) (x1 : Int32) (x2 : Int32) (x3 : Int32) (x4 : Int32) (res : Int32 × St) (hf : f_X8_opinion N S8 x1 x2 x3 x4 = some res) : Met l yX8_opinion wsX8_opinion { frames := 2, cells := 0, slots := 0, locals := 42 } (rwP g (wd_8 g S8) sz [.ref (g.2.2.1 8), .int x1, .int x2, .int x3, .int x4]) (rwQi g (wd_8 g (res.2)) (va_A (wd_8 g S8) sz) (res.1)) 0 0 (va_A (wd_8 g S8) sz) := by
  refine Met.ofW (cc := cX8_opinion) (maxL := 5) (ret := (some .int)) (by decide) rfl ?_
  intro p e s m args below meth c s₁ B hml hv
  obtain ⟨rfl, hsz, hP, hK, hD0⟩ := hv
  have hx := B.exec
  have hb := B.bytes
  have hr := B.returns
  have hts := atoms_spec (ws := wsX8_opinion) B.pre
  have hown : s.vm.findClass RX8 = some m.cls := findClass_of_methodNamed B.named
  have hlk := B.notSynchronized
  subst hsz
  have hD := hD0.self (sz := s.heap.size)
  generalize hAe : va_A (wd_8 g S8) s.heap.size = A at hD ⊢
  have hA : ∀ q : Nat, s.heap.size ≤ q → A q := fun q h => by rw [← hAe]; exact Or.inr h
  have hS : va_S A s.heap s.heap [] := va_S.rf
  have C : cxw g A cX8_opinion 5 (some .int) wsX8_opinion RX8 p s m ([.ref (g.2.2.1 8), .int x1, .int x2, .int x3, .int x4] : List Value).toArray meth c := ⟨⟨hx, hb, hr, hml, hown, hts, hlk⟩, hK, hA⟩
  have hl := lv_entry [.ref (g.2.2.1 8), .int x1, .int x2, .int x3, .int x4] (n := 5) (Nat.le_of_ble_eq_true rfl)
  rw [lg_entry_eq]
  generalize (lg_sl [.ref (g.2.2.1 8), .int x1, .int x2, .int x3, .int x4] ++ List.replicate (5 - (lg_sl [.ref (g.2.2.1 8), .int x1, .int x2, .int x3, .int x4]).length) Slot.unset).toArray = ls at hl ⊢
  have hl : lv_has ls 5 [(0, .ref (g.2.2.1 8)), (1, .int x1), (2, .int x2), (3, .int x3), (4, .int x4)] := hl
  unfold f_X8_opinion at hf
  suffices K9 : ∀ (H : Heap) (locs : List Loc), va_P g.1 vwCl (wd_8 g S8) H → va_D A (wd_8 g S8) → va_S A s.heap H locs → ((f_X8_in N x1 0 9).bind (fun r4 => (if r4 = 0 then some ((-1), S8) else ((f_X8_isHand N x2).bind (fun r11 => (if r11 = 0 then some ((-1), S8) else ((f_X8_in N x3 0 100).bind (fun r21 => (if r21 = 0 then some ((-1), S8) else (if (S8.1 34) = 30 then some ((-2), S8) else (if inb (S8.1 34) 30 = true then (if inb (S8.1 34) 30 = true then (if inb (S8.1 34) 30 = true then (if inb (S8.1 34) 30 = true then some (((S8.1 34) + 1), (sI (sA (sA (sA (sA S8 35 (upd (S8.2.2 35) (Int32.toNatClampNeg (S8.1 34)) x1)) 36 (upd (S8.2.2 36) (Int32.toNatClampNeg (S8.1 34)) x2)) 37 (upd (S8.2.2 37) (Int32.toNatClampNeg (S8.1 34)) x3)) 38 (upd (S8.2.2 38) (Int32.toNatClampNeg (S8.1 34)) (vp_nar .boolean x4))) 34 ((S8.1 34) + 1))) else none) else none) else none) else none))))))))))) = some res → W p l e (headSpec wsX8_opinion { frames := 2, cells := 0, slots := 0, locals := 42 }).room s m ([.ref (g.2.2.1 8), .int x1, .int x2, .int x3, .int x4] : List Value).toArray below meth c H locs 0 0 (MQ below (rwQi g (wd_8 g (res.2)) A (res.1)) ([.ref (g.2.2.1 8), .int x1, .int x2, .int x3, .int x4] : List Value).toArray s 0 0 A) (F0 m 0 ls []) from K9 s.heap [] hP hD hS hf
  clear hP hD hS hf
  intro H locs hP hD hS hf
  refine lv_iload_n (pc := 0) hx hb dX8_opinion_0 rfl (lv_at hl 1 rfl) ?_
  refine lv_iconst (v := 0) (pc := 1) hx hb dX8_opinion_1 (by decide) ?_
  refine lv_bipush (v := 9) (pc := 2) hx hb dX8_opinion_2 (by decide) ?_
  obtain ⟨r4, e4, hf⟩ := bdE hf
  refine ksI (pc := 4) (As := [.int x1, .int 0, .int 9]) (rest := []) ⟨hx, hb, hml, hown, hts⟩ (c_X8_in l N x1 0 9 r4 e4) (va_cwS 3 hts gX8_opinion_X8_in rfl rfl rfl h_X8_in ⟨Nat.le_of_ble_eq_true rfl, Nat.le_of_ble_eq_true rfl⟩) rfl hl.1 rfl (Nat.le_of_ble_eq_true rfl) dX8_opinion_4 ⟨Nat.zero_le _, Nat.zero_le _⟩ ?_
  refine lv_if_eq (tgt := 27) (pc := 7) hx hb dX8_opinion_7 (by decide) (fun c7 => ?_) (fun c7 => ?_)
  · have hf := ft hf c7
    refine lv_iconst (v := (-1)) (pc := 27) hx hb dX8_opinion_27 (by decide) ?_
    have hf := Option.some.inj hf
    subst hf
    exact W.iret (v := (-1)) hx hb hr (fun t ht hW => ⟨⟨_, (), rfl, rfl, by rw [ht]; exact hP, va_K.moved hW.alike hK, hD⟩, hS.F ht⟩) hS.2.2 dX8_opinion_28
  · have hf := ff hf c7
    refine lv_iload_n (pc := 10) hx hb dX8_opinion_10 rfl (lv_at hl 2 rfl) ?_
    obtain ⟨r11, e11, hf⟩ := bdE hf
    refine ksI (pc := 11) (As := [.int x2]) (rest := []) ⟨hx, hb, hml, hown, hts⟩ (c_X8_isHand l N x2 r11 e11) (va_cwS 1 hts gX8_opinion_X8_isHand rfl rfl rfl h_X8_isHand ⟨Nat.le_of_ble_eq_true rfl, Nat.le_of_ble_eq_true rfl⟩) rfl hl.1 rfl (Nat.le_of_ble_eq_true rfl) dX8_opinion_11 ⟨Nat.zero_le _, Nat.zero_le _⟩ ?_
    refine lv_if_eq (tgt := 27) (pc := 14) hx hb dX8_opinion_14 (by decide) (fun c14 => ?_) (fun c14 => ?_)
    · have hf := ft hf c14
      refine lv_iconst (v := (-1)) (pc := 27) hx hb dX8_opinion_27 (by decide) ?_
      have hf := Option.some.inj hf
      subst hf
      exact W.iret (v := (-1)) hx hb hr (fun t ht hW => ⟨⟨_, (), rfl, rfl, by rw [ht]; exact hP, va_K.moved hW.alike hK, hD⟩, hS.F ht⟩) hS.2.2 dX8_opinion_28
    · have hf := ff hf c14
      refine lv_iload_n (pc := 17) hx hb dX8_opinion_17 rfl (lv_at hl 3 rfl) ?_
      refine lv_iconst (v := 0) (pc := 18) hx hb dX8_opinion_18 (by decide) ?_
      refine lv_bipush (v := 100) (pc := 19) hx hb dX8_opinion_19 (by decide) ?_
      obtain ⟨r21, e21, hf⟩ := bdE hf
      refine ksI (pc := 21) (As := [.int x3, .int 0, .int 100]) (rest := []) ⟨hx, hb, hml, hown, hts⟩ (c_X8_in l N x3 0 100 r21 e21) (va_cwS 3 hts gX8_opinion_X8_in rfl rfl rfl h_X8_in ⟨Nat.le_of_ble_eq_true rfl, Nat.le_of_ble_eq_true rfl⟩) rfl hl.1 rfl (Nat.le_of_ble_eq_true rfl) dX8_opinion_21 ⟨Nat.zero_le _, Nat.zero_le _⟩ ?_
      refine lv_if_ne (tgt := 29) (pc := 24) hx hb dX8_opinion_24 (by decide) (fun c24 => ?_) (fun c24 => ?_)
      · have hf := ff hf c24
        refine lv_aload_n (pc := 29) hx hb dX8_opinion_29 rfl (lv_at hl 0 rfl) ?_
        refine va_get (D := g.1) (ci := 8) (v := .int (S8.1 34)) (C := RX8) (T := TX8) (N := 47) (pc := 30) hx hb hts (fun _ h => List.mem_cons_of_mem _ (List.mem_append_right _ h)) hown hK hP 0 rfl rfl 34 (by decide) (hts _ q_X8_opinion_0) (fun _ h9 => h9) rfl dX8_opinion_30 ?_
        refine lv_bipush (v := 30) (pc := 33) hx hb dX8_opinion_33 (by decide) ?_
        refine lv_icmp_ne (tgt := 41) (pc := 35) hx hb dX8_opinion_35 (by decide) (fun c35 => ?_) (fun c35 => ?_)
        · have hf := ff hf c35
          refine lv_aload_n (pc := 41) hx hb dX8_opinion_41 rfl (lv_at hl 0 rfl) ?_
          refine va_get (D := g.1) (ci := 8) (v := .ref (g.2.2.2 8 35)) (C := RX8) (T := TX8) (N := 47) (pc := 42) hx hb hts (fun _ h => List.mem_cons_of_mem _ (List.mem_append_right _ h)) hown hK hP 0 rfl rfl 35 (by decide) (hts _ q_X8_opinion_1) (fun _ h9 => h9) rfl dX8_opinion_42 ?_
          refine lv_aload_n (pc := 45) hx hb dX8_opinion_45 rfl (lv_at hl 0 rfl) ?_
          refine va_get (D := g.1) (ci := 8) (v := .int (S8.1 34)) (C := RX8) (T := TX8) (N := 47) (pc := 46) hx hb hts (fun _ h => List.mem_cons_of_mem _ (List.mem_append_right _ h)) hown hK hP 0 rfl rfl 34 (by decide) (hts _ q_X8_opinion_0) (fun _ h9 => h9) rfl dX8_opinion_46 ?_
          refine lv_iload_n (pc := 49) hx hb dX8_opinion_49 rfl (lv_at hl 1 rfl) ?_
          obtain ⟨b50, hf⟩ := gdE hf
          refine va_iast (D := g.1) (tys := tyl g) (f := (S8.2.2 35)) (pc := 50) hx hb hK hP hD hS 24 0 rfl rfl (inbV b50) dX8_opinion_50 (fun H locs hP hD hS => ?_)
          have hP := u_8_8_35P S8 (upd (S8.2.2 35) (Int32.toNatClampNeg (S8.1 34)) x1) hP
          have hD := u_8_8_35D S8 (upd (S8.2.2 35) (Int32.toNatClampNeg (S8.1 34)) x1) hD
          refine lv_aload_n (pc := 51) hx hb dX8_opinion_51 rfl (lv_at hl 0 rfl) ?_
          refine va_get (D := g.1) (ci := 8) (v := .ref (g.2.2.2 8 36)) (C := RX8) (T := TX8) (N := 47) (pc := 52) hx hb hts (fun _ h => List.mem_cons_of_mem _ (List.mem_append_right _ h)) hown hK hP 0 rfl rfl 36 (by decide) (hts _ q_X8_opinion_2) (fun _ h9 => h9) rfl dX8_opinion_52 ?_
          refine lv_aload_n (pc := 55) hx hb dX8_opinion_55 rfl (lv_at hl 0 rfl) ?_
          refine va_get (D := g.1) (ci := 8) (v := .int (S8.1 34)) (C := RX8) (T := TX8) (N := 47) (pc := 56) hx hb hts (fun _ h => List.mem_cons_of_mem _ (List.mem_append_right _ h)) hown hK hP 0 rfl rfl 34 (by decide) (hts _ q_X8_opinion_0) (fun _ h9 => h9) rfl dX8_opinion_56 ?_
          refine lv_iload_n (pc := 59) hx hb dX8_opinion_59 rfl (lv_at hl 2 rfl) ?_
          obtain ⟨b60, hf⟩ := gdE hf
          refine va_iast (D := g.1) (tys := tyl g) (f := (S8.2.2 36)) (pc := 60) hx hb hK hP hD hS 25 0 rfl rfl (inbV b60) dX8_opinion_60 (fun H locs hP hD hS => ?_)
          have hP := u_8_8_36P (sA S8 35 (upd (S8.2.2 35) (Int32.toNatClampNeg (S8.1 34)) x1)) (upd (S8.2.2 36) (Int32.toNatClampNeg (S8.1 34)) x2) hP
          have hD := u_8_8_36D (sA S8 35 (upd (S8.2.2 35) (Int32.toNatClampNeg (S8.1 34)) x1)) (upd (S8.2.2 36) (Int32.toNatClampNeg (S8.1 34)) x2) hD
          refine lv_aload_n (pc := 61) hx hb dX8_opinion_61 rfl (lv_at hl 0 rfl) ?_
          refine va_get (D := g.1) (ci := 8) (v := .ref (g.2.2.2 8 37)) (C := RX8) (T := TX8) (N := 47) (pc := 62) hx hb hts (fun _ h => List.mem_cons_of_mem _ (List.mem_append_right _ h)) hown hK hP 0 rfl rfl 37 (by decide) (hts _ q_X8_opinion_3) (fun _ h9 => h9) rfl dX8_opinion_62 ?_
          refine lv_aload_n (pc := 65) hx hb dX8_opinion_65 rfl (lv_at hl 0 rfl) ?_
          refine va_get (D := g.1) (ci := 8) (v := .int (S8.1 34)) (C := RX8) (T := TX8) (N := 47) (pc := 66) hx hb hts (fun _ h => List.mem_cons_of_mem _ (List.mem_append_right _ h)) hown hK hP 0 rfl rfl 34 (by decide) (hts _ q_X8_opinion_0) (fun _ h9 => h9) rfl dX8_opinion_66 ?_
          refine lv_iload_n (pc := 69) hx hb dX8_opinion_69 rfl (lv_at hl 3 rfl) ?_
          obtain ⟨b70, hf⟩ := gdE hf
          refine va_iast (D := g.1) (tys := tyl g) (f := (S8.2.2 37)) (pc := 70) hx hb hK hP hD hS 26 0 rfl rfl (inbV b70) dX8_opinion_70 (fun H locs hP hD hS => ?_)
          have hP := u_8_8_37P (sA (sA S8 35 (upd (S8.2.2 35) (Int32.toNatClampNeg (S8.1 34)) x1)) 36 (upd (S8.2.2 36) (Int32.toNatClampNeg (S8.1 34)) x2)) (upd (S8.2.2 37) (Int32.toNatClampNeg (S8.1 34)) x3) hP
          have hD := u_8_8_37D (sA (sA S8 35 (upd (S8.2.2 35) (Int32.toNatClampNeg (S8.1 34)) x1)) 36 (upd (S8.2.2 36) (Int32.toNatClampNeg (S8.1 34)) x2)) (upd (S8.2.2 37) (Int32.toNatClampNeg (S8.1 34)) x3) hD
          refine lv_aload_n (pc := 71) hx hb dX8_opinion_71 rfl (lv_at hl 0 rfl) ?_
          refine va_get (D := g.1) (ci := 8) (v := .ref (g.2.2.2 8 38)) (C := RX8) (T := TX8) (N := 47) (pc := 72) hx hb hts (fun _ h => List.mem_cons_of_mem _ (List.mem_append_right _ h)) hown hK hP 0 rfl rfl 38 (by decide) (hts _ q_X8_opinion_4) (fun _ h9 => h9) rfl dX8_opinion_72 ?_
          refine lv_aload_n (pc := 75) hx hb dX8_opinion_75 rfl (lv_at hl 0 rfl) ?_
          refine va_get (D := g.1) (ci := 8) (v := .int (S8.1 34)) (C := RX8) (T := TX8) (N := 47) (pc := 76) hx hb hts (fun _ h => List.mem_cons_of_mem _ (List.mem_append_right _ h)) hown hK hP 0 rfl rfl 34 (by decide) (hts _ q_X8_opinion_0) (fun _ h9 => h9) rfl dX8_opinion_76 ?_
          refine lv_iload (pc := 79) hx hb dX8_opinion_79 (lv_at hl 4 rfl) ?_
          obtain ⟨b81, hf⟩ := gdE hf
          refine va_zast (D := g.1) (tys := tyl g) (f := (S8.2.2 38)) (pc := 81) hx hb hK hP hD hS 27 2 rfl rfl (inbV b81) dX8_opinion_81 (fun H locs hP hD hS => ?_)
          have hP := u_8_8_38P (sA (sA (sA S8 35 (upd (S8.2.2 35) (Int32.toNatClampNeg (S8.1 34)) x1)) 36 (upd (S8.2.2 36) (Int32.toNatClampNeg (S8.1 34)) x2)) 37 (upd (S8.2.2 37) (Int32.toNatClampNeg (S8.1 34)) x3)) (upd (S8.2.2 38) (Int32.toNatClampNeg (S8.1 34)) (vp_nar .boolean x4)) hP
          have hD := u_8_8_38D (sA (sA (sA S8 35 (upd (S8.2.2 35) (Int32.toNatClampNeg (S8.1 34)) x1)) 36 (upd (S8.2.2 36) (Int32.toNatClampNeg (S8.1 34)) x2)) 37 (upd (S8.2.2 37) (Int32.toNatClampNeg (S8.1 34)) x3)) (upd (S8.2.2 38) (Int32.toNatClampNeg (S8.1 34)) (vp_nar .boolean x4)) hD
          refine lv_aload_n (pc := 82) hx hb dX8_opinion_82 rfl (lv_at hl 0 rfl) ?_
          refine lv_dup (pc := 83) hx hb dX8_opinion_83 rfl ?_
          refine va_get (D := g.1) (ci := 8) (v := .int (S8.1 34)) (C := RX8) (T := TX8) (N := 47) (pc := 84) hx hb hts (fun _ h => List.mem_cons_of_mem _ (List.mem_append_right _ h)) hown hK hP 0 rfl rfl 34 (by decide) (hts _ q_X8_opinion_0) (fun _ h9 => h9) rfl dX8_opinion_84 ?_
          refine lv_iconst (v := 1) (pc := 87) hx hb dX8_opinion_87 (by decide) ?_
          refine lv_iadd (pc := 88) hx hb dX8_opinion_88 ?_
          refine va_put (D := g.1) (ci := 8) (v := .int ((S8.1 34) + 1)) (ty := .int) (C := RX8) (T := TX8) (N := 47) (pc := 89) hx hb hts (fun _ h => List.mem_cons_of_mem _ (List.mem_append_right _ h)) tyX8 tyX8_ok nmX8 hown hK hP hD hS 0 rfl rfl 34 (by decide) (hts _ q_X8_opinion_0) (fun _ h9 => h9) rfl rfl rfl rfl (Nat.le_of_ble_eq_true rfl) dX8_opinion_89 (fun H locs hP hD hS => ?_)
          have hP := u_8_8_34P (sA (sA (sA (sA S8 35 (upd (S8.2.2 35) (Int32.toNatClampNeg (S8.1 34)) x1)) 36 (upd (S8.2.2 36) (Int32.toNatClampNeg (S8.1 34)) x2)) 37 (upd (S8.2.2 37) (Int32.toNatClampNeg (S8.1 34)) x3)) 38 (upd (S8.2.2 38) (Int32.toNatClampNeg (S8.1 34)) (vp_nar .boolean x4))) ((S8.1 34) + 1) hP
          have hD := u_8_8_34D (sA (sA (sA (sA S8 35 (upd (S8.2.2 35) (Int32.toNatClampNeg (S8.1 34)) x1)) 36 (upd (S8.2.2 36) (Int32.toNatClampNeg (S8.1 34)) x2)) 37 (upd (S8.2.2 37) (Int32.toNatClampNeg (S8.1 34)) x3)) 38 (upd (S8.2.2 38) (Int32.toNatClampNeg (S8.1 34)) (vp_nar .boolean x4))) ((S8.1 34) + 1) hD
          refine lv_aload_n (pc := 92) hx hb dX8_opinion_92 rfl (lv_at hl 0 rfl) ?_
          refine va_get (D := g.1) (ci := 8) (v := .int ((S8.1 34) + 1)) (C := RX8) (T := TX8) (N := 47) (pc := 93) hx hb hts (fun _ h => List.mem_cons_of_mem _ (List.mem_append_right _ h)) hown hK hP 0 rfl rfl 34 (by decide) (hts _ q_X8_opinion_0) (fun _ h9 => h9) rfl dX8_opinion_93 ?_
          have hf := Option.some.inj hf
          subst hf
          exact W.iret (v := ((S8.1 34) + 1)) hx hb hr (fun t ht hW => ⟨⟨_, (), rfl, rfl, by rw [ht]; exact hP, va_K.moved hW.alike hK, hD⟩, hS.F ht⟩) hS.2.2 dX8_opinion_96
        · have hf := ft hf c35
          refine lv_bipush (v := (-2)) (pc := 38) hx hb dX8_opinion_38 (by decide) ?_
          have hf := Option.some.inj hf
          subst hf
          exact W.iret (v := (-2)) hx hb hr (fun t ht hW => ⟨⟨_, (), rfl, rfl, by rw [ht]; exact hP, va_K.moved hW.alike hK, hD⟩, hS.F ht⟩) hS.2.2 dX8_opinion_40
      · have hf := ft hf c24
        refine lv_iconst (v := (-1)) (pc := 27) hx hb dX8_opinion_27 (by decide) ?_
        have hf := Option.some.inj hf
        subst hf
        exact W.iret (v := (-1)) hx hb hr (fun t ht hW => ⟨⟨_, (), rfl, rfl, by rw [ht]; exact hP, va_K.moved hW.alike hK, hD⟩, hS.F ht⟩) hS.2.2 dX8_opinion_28
theorem q_X8_mean_0 : (.fieldLink RX8 87 "PictureCourtModel" "opinionSure" "[I" : Cond) ∈ wsX8_mean := by decide +kernel
theorem q_X8_mean_1 : (.fieldLink RX8 233 "PictureCourtModel" "opinions" "I" : Cond) ∈ wsX8_mean := by decide +kernel
theorem q_X8_mean_2 : (.fieldLink RX8 84 "PictureCourtModel" "opinionHand" "[I" : Cond) ∈ wsX8_mean := by decide +kernel
theorem q_X8_mean_3 : (.fieldLink RX8 90 "PictureCourtModel" "opinionKnew" "[Z" : Cond) ∈ wsX8_mean := by decide +kernel
theorem h_X8_mean : yX8_mean.cls = RX8 ∧ yX8_mean.cls ≠ "java/lang/invoke/MethodHandle" ∧ yX8_mean.cls ≠ "java/lang/invoke/VarHandle" ∧ (parseMethodDescriptor yX8_mean.desc).map (fun d => d.parameters.length) = some 2 := by decide +kernel
set_option maxHeartbeats 4000000 in
set_option maxRecDepth 100000 in
theorem w_X8_mean_86 {p : Program} {l : Launch} {e : Env} {s : State} {m : MethodId} {args : Array Value} {below : List Frame} {meth : Method} {c : Code} {g : En} {A : Nat → Prop} {N : Nat} {res : Int32 × St} (C : cxw g A cX8_mean 7 (some .int) wsX8_mean RX8 p s m args meth c) (k17 : St → Int32 → Int32 → Int32 → Int32 → Int32 → Option (Int32 × St)) (H17 : ∀ (H : Heap) (locs : List Loc) (S8 : St) (ls : Array Slot) (x1 : Int32) (x2 : Int32) (x3 : Int32) (x4 : Int32) (x5 : Int32), va_P g.1 vwCl (wd_8 g S8) H → va_D A (wd_8 g S8) → va_S A s.heap H locs → lv_has ls 7 [(0, .ref (g.2.2.1 8)), (1, .int x1), (2, .int x2), (3, .int x3), (4, .int x4), (5, .int x5)] → k17 S8 x1 x2 x3 x4 x5 = some res → W p l e (headSpec wsX8_mean { frames := 2, cells := 0, slots := 0, locals := 42 }).room s m args below meth c H locs 0 0 (MQ below (rwQi g (wd_8 g (res.2)) A (res.1)) args s 0 0 A) (F0 m 17 ls [])) : ∀ (H : Heap) (locs : List Loc) (S8 : St) (ls : Array Slot) (x1 : Int32) (x2 : Int32) (x3 : Int32) (x5 : Int32) (t0 : Int32) (t1 : Int32), va_P g.1 vwCl (wd_8 g S8) H → va_D A (wd_8 g S8) → va_S A s.heap H locs → lv_has ls 7 [(0, .ref (g.2.2.1 8)), (1, .int x1), (2, .int x2), (3, .int x3), (5, .int x5)] → f_X8_mean_86 N  k17 S8 x1 x2 x3 x5 t0 t1 = some res → W p l e (headSpec wsX8_mean { frames := 2, cells := 0, slots := 0, locals := 42 }).room s m args below meth c H locs 0 0 (MQ below (rwQi g (wd_8 g (res.2)) A (res.1)) args s 0 0 A) (F0 m 86 ls [.int t0, .int t1]) := by
  intro H locs S8 ls x1 x2 x3 x5 t0 t1 hP hD hS hl hf
  obtain ⟨⟨hx, hb, hr, hml, hown, hts, hlk⟩, hK, hA⟩ := id C
  unfold f_X8_mean_86 at hf
  refine lv_iadd (pc := 86) hx hb dX8_mean_86 ?_
  refine lv_istore (lv' := [(4, .int (t1 + t0)), (0, .ref (g.2.2.1 8)), (1, .int x1), (2, .int x2), (3, .int x3), (5, .int x5)]) (pc := 87) hx hb dX8_mean_87 hl (by decide) rfl (fun ls hl => ?_)
  refine lv_iinc (v := (x5 + 1)) (lv' := [(5, .int (x5 + 1)), (4, .int (t1 + t0)), (0, .ref (g.2.2.1 8)), (1, .int x1), (2, .int x2), (3, .int x3)]) (pc := 89) hx hb dX8_mean_89 hl (k := 5) rfl rfl (by decide) rfl (fun ls hl => ?_)
  refine lv_goto (tgt := 17) (pc := 92) hx hb dX8_mean_92 (by decide) ?_
  exact H17 H locs S8 ls x1 x2 x3 (t1 + t0) (x5 + 1) hP hD hS (lv_sub hl [2, 3, 4, 5, 1, 0] rfl) hf
set_option maxHeartbeats 4000000 in
set_option maxRecDepth 100000 in
theorem w_X8_mean_72 {p : Program} {l : Launch} {e : Env} {s : State} {m : MethodId} {args : Array Value} {below : List Frame} {meth : Method} {c : Code} {g : En} {A : Nat → Prop} {N : Nat} {res : Int32 × St} (C : cxw g A cX8_mean 7 (some .int) wsX8_mean RX8 p s m args meth c) (k17 : St → Int32 → Int32 → Int32 → Int32 → Int32 → Option (Int32 × St)) (H17 : ∀ (H : Heap) (locs : List Loc) (S8 : St) (ls : Array Slot) (x1 : Int32) (x2 : Int32) (x3 : Int32) (x4 : Int32) (x5 : Int32), va_P g.1 vwCl (wd_8 g S8) H → va_D A (wd_8 g S8) → va_S A s.heap H locs → lv_has ls 7 [(0, .ref (g.2.2.1 8)), (1, .int x1), (2, .int x2), (3, .int x3), (4, .int x4), (5, .int x5)] → k17 S8 x1 x2 x3 x4 x5 = some res → W p l e (headSpec wsX8_mean { frames := 2, cells := 0, slots := 0, locals := 42 }).room s m args below meth c H locs 0 0 (MQ below (rwQi g (wd_8 g (res.2)) A (res.1)) args s 0 0 A) (F0 m 17 ls [])) : ∀ (H : Heap) (locs : List Loc) (S8 : St) (ls : Array Slot) (x1 : Int32) (x2 : Int32) (x4 : Int32) (x5 : Int32) (x6 : Int32) (t0 : Int32) (t1 : Int32), va_P g.1 vwCl (wd_8 g S8) H → va_D A (wd_8 g S8) → va_S A s.heap H locs → lv_has ls 7 [(0, .ref (g.2.2.1 8)), (1, .int x1), (2, .int x2), (4, .int x4), (5, .int x5), (6, .int x6)] → f_X8_mean_72 N  k17 S8 x1 x2 x4 x5 x6 t0 t1 = some res → W p l e (headSpec wsX8_mean { frames := 2, cells := 0, slots := 0, locals := 42 }).room s m args below meth c H locs 0 0 (MQ below (rwQi g (wd_8 g (res.2)) A (res.1)) args s 0 0 A) (F0 m 72 ls [.int t0, .int t1]) := by
  intro H locs S8 ls x1 x2 x4 x5 x6 t0 t1 hP hD hS hl hf
  obtain ⟨⟨hx, hb, hr, hml, hown, hts, hlk⟩, hK, hA⟩ := id C
  unfold f_X8_mean_72 at hf
  refine lv_iadd (pc := 72) hx hb dX8_mean_72 ?_
  refine lv_istore_n (lv' := [(3, .int (t1 + t0)), (0, .ref (g.2.2.1 8)), (1, .int x1), (2, .int x2), (4, .int x4), (5, .int x5), (6, .int x6)]) (pc := 73) hx hb dX8_mean_73 rfl hl (by decide) rfl (fun ls hl => ?_)
  refine lv_iload (pc := 74) hx hb dX8_mean_74 (lv_at hl 4 rfl) ?_
  refine lv_iload (pc := 76) hx hb dX8_mean_76 (lv_at hl 6 rfl) ?_
  refine lv_if_eq (tgt := 85) (pc := 78) hx hb dX8_mean_78 (by decide) (fun c78 => ?_) (fun c78 => ?_)
  · have hf := ft hf c78
    refine lv_iconst (v := 0) (pc := 85) hx hb dX8_mean_85 (by decide) ?_
    exact w_X8_mean_86 C k17 H17 H locs S8 ls x1 x2 (t1 + t0) x5 0 x4 hP hD hS (lv_sub hl [1, 2, 3, 0, 5] rfl) hf
  · have hf := ff hf c78
    refine lv_iconst (v := 1) (pc := 81) hx hb dX8_mean_81 (by decide) ?_
    refine lv_goto (tgt := 86) (pc := 82) hx hb dX8_mean_82 (by decide) ?_
    exact w_X8_mean_86 C k17 H17 H locs S8 ls x1 x2 (t1 + t0) x5 1 x4 hP hD hS (lv_sub hl [1, 2, 3, 0, 5] rfl) hf
set_option maxHeartbeats 4000000 in
set_option maxRecDepth 100000 in
theorem w_X8_mean_53 {p : Program} {l : Launch} {e : Env} {s : State} {m : MethodId} {args : Array Value} {below : List Frame} {meth : Method} {c : Code} {g : En} {A : Nat → Prop} {N : Nat} {res : Int32 × St} (C : cxw g A cX8_mean 7 (some .int) wsX8_mean RX8 p s m args meth c) (k17 : St → Int32 → Int32 → Int32 → Int32 → Int32 → Option (Int32 × St)) (H17 : ∀ (H : Heap) (locs : List Loc) (S8 : St) (ls : Array Slot) (x1 : Int32) (x2 : Int32) (x3 : Int32) (x4 : Int32) (x5 : Int32), va_P g.1 vwCl (wd_8 g S8) H → va_D A (wd_8 g S8) → va_S A s.heap H locs → lv_has ls 7 [(0, .ref (g.2.2.1 8)), (1, .int x1), (2, .int x2), (3, .int x3), (4, .int x4), (5, .int x5)] → k17 S8 x1 x2 x3 x4 x5 = some res → W p l e (headSpec wsX8_mean { frames := 2, cells := 0, slots := 0, locals := 42 }).room s m args below meth c H locs 0 0 (MQ below (rwQi g (wd_8 g (res.2)) A (res.1)) args s 0 0 A) (F0 m 17 ls [])) : ∀ (H : Heap) (locs : List Loc) (S8 : St) (ls : Array Slot) (x1 : Int32) (x2 : Int32) (x3 : Int32) (x4 : Int32) (x5 : Int32) (t0 : Int32), va_P g.1 vwCl (wd_8 g S8) H → va_D A (wd_8 g S8) → va_S A s.heap H locs → lv_has ls 7 [(0, .ref (g.2.2.1 8)), (1, .int x1), (2, .int x2), (3, .int x3), (4, .int x4), (5, .int x5)] → f_X8_mean_53 N  k17 S8 x1 x2 x3 x4 x5 t0 = some res → W p l e (headSpec wsX8_mean { frames := 2, cells := 0, slots := 0, locals := 42 }).room s m args below meth c H locs 0 0 (MQ below (rwQi g (wd_8 g (res.2)) A (res.1)) args s 0 0 A) (F0 m 53 ls [.int t0]) := by
  intro H locs S8 ls x1 x2 x3 x4 x5 t0 hP hD hS hl hf
  obtain ⟨⟨hx, hb, hr, hml, hown, hts, hlk⟩, hK, hA⟩ := id C
  unfold f_X8_mean_53 at hf
  refine lv_istore (lv' := [(6, .int t0), (0, .ref (g.2.2.1 8)), (1, .int x1), (2, .int x2), (3, .int x3), (4, .int x4), (5, .int x5)]) (pc := 53) hx hb dX8_mean_53 hl (by decide) rfl (fun ls hl => ?_)
  refine lv_iload_n (pc := 55) hx hb dX8_mean_55 rfl (lv_at hl 4 rfl) ?_
  refine lv_iload (pc := 56) hx hb dX8_mean_56 (lv_at hl 0 rfl) ?_
  refine lv_if_eq (tgt := 71) (pc := 58) hx hb dX8_mean_58 (by decide) (fun c58 => ?_) (fun c58 => ?_)
  · have hf := ft hf c58
    refine lv_iconst (v := 0) (pc := 71) hx hb dX8_mean_71 (by decide) ?_
    exact w_X8_mean_72 C k17 H17 H locs S8 ls x1 x2 x4 x5 t0 0 x3 hP hD hS (lv_sub hl [1, 2, 3, 5, 6, 0] rfl) hf
  · have hf := ff hf c58
    refine lv_aload_n (pc := 61) hx hb dX8_mean_61 rfl (lv_at hl 1 rfl) ?_
    refine va_get (D := g.1) (ci := 8) (v := .ref (g.2.2.2 8 37)) (C := RX8) (T := TX8) (N := 47) (pc := 62) hx hb hts (fun _ h => List.mem_cons_of_mem _ (List.mem_append_right _ h)) hown hK hP 0 rfl rfl 37 (by decide) (hts _ q_X8_mean_0) (fun _ h9 => h9) rfl dX8_mean_62 ?_
    refine lv_iload (pc := 65) hx hb dX8_mean_65 (lv_at hl 6 rfl) ?_
    obtain ⟨b67, hf⟩ := gdE hf
    refine va_iald (D := g.1) (tys := tyl g) (f := (S8.2.2 37)) (pc := 67) hx hb hK hP 26 0 rfl rfl (inbV b67) dX8_mean_67 ?_
    refine lv_goto (tgt := 72) (pc := 68) hx hb dX8_mean_68 (by decide) ?_
    exact w_X8_mean_72 C k17 H17 H locs S8 ls x1 x2 x4 x5 t0 ((S8.2.2 37) (Int32.toNatClampNeg x5)) x3 hP hD hS (lv_sub hl [1, 2, 3, 5, 6, 0] rfl) hf
set_option maxHeartbeats 4000000 in
set_option maxRecDepth 100000 in
theorem w_X8_mean_52 {p : Program} {l : Launch} {e : Env} {s : State} {m : MethodId} {args : Array Value} {below : List Frame} {meth : Method} {c : Code} {g : En} {A : Nat → Prop} {N : Nat} {res : Int32 × St} (C : cxw g A cX8_mean 7 (some .int) wsX8_mean RX8 p s m args meth c) (k17 : St → Int32 → Int32 → Int32 → Int32 → Int32 → Option (Int32 × St)) (H17 : ∀ (H : Heap) (locs : List Loc) (S8 : St) (ls : Array Slot) (x1 : Int32) (x2 : Int32) (x3 : Int32) (x4 : Int32) (x5 : Int32), va_P g.1 vwCl (wd_8 g S8) H → va_D A (wd_8 g S8) → va_S A s.heap H locs → lv_has ls 7 [(0, .ref (g.2.2.1 8)), (1, .int x1), (2, .int x2), (3, .int x3), (4, .int x4), (5, .int x5)] → k17 S8 x1 x2 x3 x4 x5 = some res → W p l e (headSpec wsX8_mean { frames := 2, cells := 0, slots := 0, locals := 42 }).room s m args below meth c H locs 0 0 (MQ below (rwQi g (wd_8 g (res.2)) A (res.1)) args s 0 0 A) (F0 m 17 ls [])) : ∀ (H : Heap) (locs : List Loc) (S8 : St) (ls : Array Slot) (x1 : Int32) (x2 : Int32) (x3 : Int32) (x4 : Int32) (x5 : Int32), va_P g.1 vwCl (wd_8 g S8) H → va_D A (wd_8 g S8) → va_S A s.heap H locs → lv_has ls 7 [(0, .ref (g.2.2.1 8)), (1, .int x1), (2, .int x2), (3, .int x3), (4, .int x4), (5, .int x5)] → f_X8_mean_52 N  k17 S8 x1 x2 x3 x4 x5 = some res → W p l e (headSpec wsX8_mean { frames := 2, cells := 0, slots := 0, locals := 42 }).room s m args below meth c H locs 0 0 (MQ below (rwQi g (wd_8 g (res.2)) A (res.1)) args s 0 0 A) (F0 m 52 ls []) := by
  intro H locs S8 ls x1 x2 x3 x4 x5 hP hD hS hl hf
  obtain ⟨⟨hx, hb, hr, hml, hown, hts, hlk⟩, hK, hA⟩ := id C
  unfold f_X8_mean_52 at hf
  refine lv_iconst (v := 0) (pc := 52) hx hb dX8_mean_52 (by decide) ?_
  exact w_X8_mean_53 C k17 H17 H locs S8 ls x1 x2 x3 x4 x5 0 hP hD hS (lv_sub hl [0, 1, 2, 3, 4, 5] rfl) hf
set_option maxHeartbeats 4000000 in
set_option maxRecDepth 100000 in
theorem w_X8_mean_17_b {p : Program} {l : Launch} {e : Env} {s : State} {m : MethodId} {args : Array Value} {below : List Frame} {meth : Method} {c : Code} {g : En} {A : Nat → Prop} {N : Nat} {res : Int32 × St} (C : cxw g A cX8_mean 7 (some .int) wsX8_mean RX8 p s m args meth c) (k17 : St → Int32 → Int32 → Int32 → Int32 → Int32 → Option (Int32 × St)) (H17 : ∀ (H : Heap) (locs : List Loc) (S8 : St) (ls : Array Slot) (x1 : Int32) (x2 : Int32) (x3 : Int32) (x4 : Int32) (x5 : Int32), va_P g.1 vwCl (wd_8 g S8) H → va_D A (wd_8 g S8) → va_S A s.heap H locs → lv_has ls 7 [(0, .ref (g.2.2.1 8)), (1, .int x1), (2, .int x2), (3, .int x3), (4, .int x4), (5, .int x5)] → k17 S8 x1 x2 x3 x4 x5 = some res → W p l e (headSpec wsX8_mean { frames := 2, cells := 0, slots := 0, locals := 42 }).room s m args below meth c H locs 0 0 (MQ below (rwQi g (wd_8 g (res.2)) A (res.1)) args s 0 0 A) (F0 m 17 ls [])) : ∀ (H : Heap) (locs : List Loc) (S8 : St) (ls : Array Slot) (x1 : Int32) (x2 : Int32) (x3 : Int32) (x4 : Int32) (x5 : Int32), va_P g.1 vwCl (wd_8 g S8) H → va_D A (wd_8 g S8) → va_S A s.heap H locs → lv_has ls 7 [(0, .ref (g.2.2.1 8)), (1, .int x1), (2, .int x2), (3, .int x3), (4, .int x4), (5, .int x5)] → f_X8_mean_17_b N   k17 S8 x1 x2 x3 x4 x5 = some res → W p l e (headSpec wsX8_mean { frames := 2, cells := 0, slots := 0, locals := 42 }).room s m args below meth c H locs 0 0 (MQ below (rwQi g (wd_8 g (res.2)) A (res.1)) args s 0 0 A) (F0 m 17 ls []) := by
  intro H locs S8 ls x1 x2 x3 x4 x5 hP hD hS hl hf
  obtain ⟨⟨hx, hb, hr, hml, hown, hts, hlk⟩, hK, hA⟩ := id C
  unfold f_X8_mean_17_b at hf
  refine lv_iload (pc := 17) hx hb dX8_mean_17 (lv_at hl 5 rfl) ?_
  refine lv_aload_n (pc := 19) hx hb dX8_mean_19 rfl (lv_at hl 0 rfl) ?_
  refine va_get (D := g.1) (ci := 8) (v := .int (S8.1 34)) (C := RX8) (T := TX8) (N := 47) (pc := 20) hx hb hts (fun _ h => List.mem_cons_of_mem _ (List.mem_append_right _ h)) hown hK hP 0 rfl rfl 34 (by decide) (hts _ q_X8_mean_1) (fun _ h9 => h9) rfl dX8_mean_20 ?_
  refine lv_icmp_ge (tgt := 95) (pc := 23) hx hb dX8_mean_23 (by decide) (fun c23 => ?_) (fun c23 => ?_)
  · have hf := ft hf c23
    refine lv_iload (pc := 95) hx hb dX8_mean_95 (lv_at hl 4 rfl) ?_
    refine lv_if_ne (tgt := 108) (pc := 97) hx hb dX8_mean_97 (by decide) (fun c97 => ?_) (fun c97 => ?_)
    · have hf := ff hf c97
      refine lv_iload_n (pc := 108) hx hb dX8_mean_108 rfl (lv_at hl 3 rfl) ?_
      refine lv_iload (pc := 109) hx hb dX8_mean_109 (lv_at hl 4 rfl) ?_
      obtain ⟨z111, hf⟩ := nzE hf
      refine lv_idiv (pc := 111) hx hb dX8_mean_111 z111 ?_
      have hf := Option.some.inj hf
      subst hf
      exact W.iret (v := (x3 / x4)) hx hb hr (fun t ht hW => ⟨⟨_, (), rfl, rfl, by rw [ht]; exact hP, va_K.moved hW.alike hK, hD⟩, hS.F ht⟩) hS.2.2 dX8_mean_112
    · have hf := ft hf c97
      refine lv_aload_n (pc := 100) hx hb dX8_mean_100 rfl (lv_at hl 0 rfl) ?_
      refine lv_iconst (v := 4) (pc := 101) hx hb dX8_mean_101 (by decide) ?_
      obtain ⟨r102, e102, hf⟩ := bdE hf
      refine kuI (g := g) (A := A) (W0 := (wd_8 g S8)) (w1 := (wd_8 g (r102.2))) (pc := 102) (As := [.int 4]) (rest := []) ⟨hx, hb, hml, hown, hts⟩ hK hA hP hD hS (c_X8_meets l g N H.size S8 4 r102 e102) (cwV 1 hts gX8_mean_X8_meets rfl rfl rfl h_X8_meets ⟨Nat.le_of_ble_eq_true rfl, Nat.le_of_ble_eq_true rfl⟩) rfl rfl rfl hl.1 rfl (Nat.le_of_ble_eq_true rfl) dX8_mean_102 ⟨Nat.zero_le _, Nat.zero_le _⟩ (fun H locs hP hD hS => ?_)
      refine lv_goto (tgt := 112) (pc := 105) hx hb dX8_mean_105 (by decide) ?_
      have hf := Option.some.inj hf
      subst hf
      exact W.iret (v := (r102.1)) hx hb hr (fun t ht hW => ⟨⟨_, (), rfl, rfl, by rw [ht]; exact hP, va_K.moved hW.alike hK, hD⟩, hS.F ht⟩) hS.2.2 dX8_mean_112
  · have hf := ff hf c23
    refine lv_aload_n (pc := 26) hx hb dX8_mean_26 rfl (lv_at hl 0 rfl) ?_
    refine va_get (D := g.1) (ci := 8) (v := .ref (g.2.2.2 8 36)) (C := RX8) (T := TX8) (N := 47) (pc := 27) hx hb hts (fun _ h => List.mem_cons_of_mem _ (List.mem_append_right _ h)) hown hK hP 0 rfl rfl 36 (by decide) (hts _ q_X8_mean_2) (fun _ h9 => h9) rfl dX8_mean_27 ?_
    refine lv_iload (pc := 30) hx hb dX8_mean_30 (lv_at hl 5 rfl) ?_
    obtain ⟨b32, hf⟩ := gdE hf
    refine va_iald (D := g.1) (tys := tyl g) (f := (S8.2.2 36)) (pc := 32) hx hb hK hP 25 0 rfl rfl (inbV b32) dX8_mean_32 ?_
    refine lv_iload_n (pc := 33) hx hb dX8_mean_33 rfl (lv_at hl 1 rfl) ?_
    refine lv_icmp_ne (tgt := 52) (pc := 34) hx hb dX8_mean_34 (by decide) (fun c34 => ?_) (fun c34 => ?_)
    · have hf := ff hf c34
      exact w_X8_mean_52 C k17 H17 H locs S8 ls x1 x2 x3 x4 x5 hP hD hS (lv_sub hl [0, 1, 2, 3, 4, 5] rfl) hf
    · have hf := ft hf c34
      refine lv_aload_n (pc := 37) hx hb dX8_mean_37 rfl (lv_at hl 0 rfl) ?_
      refine va_get (D := g.1) (ci := 8) (v := .ref (g.2.2.2 8 38)) (C := RX8) (T := TX8) (N := 47) (pc := 38) hx hb hts (fun _ h => List.mem_cons_of_mem _ (List.mem_append_right _ h)) hown hK hP 0 rfl rfl 38 (by decide) (hts _ q_X8_mean_3) (fun _ h9 => h9) rfl dX8_mean_38 ?_
      refine lv_iload (pc := 41) hx hb dX8_mean_41 (lv_at hl 5 rfl) ?_
      obtain ⟨b43, hf⟩ := gdE hf
      refine va_zald (D := g.1) (tys := tyl g) (f := (S8.2.2 38)) (pc := 43) hx hb hK hP 27 2 rfl rfl (inbV b43) dX8_mean_43 ?_
      refine lv_iload_n (pc := 44) hx hb dX8_mean_44 rfl (lv_at hl 2 rfl) ?_
      refine lv_icmp_ne (tgt := 52) (pc := 45) hx hb dX8_mean_45 (by decide) (fun c45 => ?_) (fun c45 => ?_)
      · have hf := ff hf c45
        exact w_X8_mean_52 C k17 H17 H locs S8 ls x1 x2 x3 x4 x5 hP hD hS (lv_sub hl [0, 1, 2, 3, 4, 5] rfl) hf
      · have hf := ft hf c45
        refine lv_iconst (v := 1) (pc := 48) hx hb dX8_mean_48 (by decide) ?_
        refine lv_goto (tgt := 53) (pc := 49) hx hb dX8_mean_49 (by decide) ?_
        exact w_X8_mean_53 C k17 H17 H locs S8 ls x1 x2 x3 x4 x5 1 hP hD hS (lv_sub hl [0, 1, 2, 3, 4, 5] rfl) hf
set_option maxHeartbeats 4000000 in
set_option maxRecDepth 100000 in
theorem w_X8_mean_17 {p : Program} {l : Launch} {e : Env} {s : State} {m : MethodId} {args : Array Value} {below : List Frame} {meth : Method} {c : Code} {g : En} {A : Nat → Prop} {N : Nat} {res : Int32 × St} (C : cxw g A cX8_mean 7 (some .int) wsX8_mean RX8 p s m args meth c) : ∀ (n : Nat), ∀ (H : Heap) (locs : List Loc) (S8 : St) (ls : Array Slot) (x1 : Int32) (x2 : Int32) (x3 : Int32) (x4 : Int32) (x5 : Int32), va_P g.1 vwCl (wd_8 g S8) H → va_D A (wd_8 g S8) → va_S A s.heap H locs → lv_has ls 7 [(0, .ref (g.2.2.1 8)), (1, .int x1), (2, .int x2), (3, .int x3), (4, .int x4), (5, .int x5)] → f_X8_mean_17 N   n S8 x1 x2 x3 x4 x5 = some res → W p l e (headSpec wsX8_mean { frames := 2, cells := 0, slots := 0, locals := 42 }).room s m args below meth c H locs 0 0 (MQ below (rwQi g (wd_8 g (res.2)) A (res.1)) args s 0 0 A) (F0 m 17 ls []) := by
  intro n
  induction n with
  | zero =>
    intro H locs S8 ls x1 x2 x3 x4 x5 hP hD hS hl hf
    have hf : (none : Option (Int32 × St)) = some res := hf
    cases hf
  | succ n ih =>
    intro H locs S8 ls x1 x2 x3 x4 x5 hP hD hS hl hf
    exact w_X8_mean_17_b C  (fun y0 y1 y2 y3 y4 y5 => f_X8_mean_17 N   n y0 y1 y2 y3 y4 y5) ih H locs S8 ls x1 x2 x3 x4 x5 hP hD hS hl hf
set_option maxHeartbeats 4000000 in
set_option maxRecDepth 100000 in
theorem c_X8_mean (l : Launch) (g : En) (N : Nat) (sz : Nat) (S8 : St) (x1 : Int32) (x2 : Int32) (res : Int32 × St) (hf : f_X8_mean N S8 x1 x2 = some res) : Met l yX8_mean wsX8_mean { frames := 2, cells := 0, slots := 0, locals := 42 } (rwP g (wd_8 g S8) sz [.ref (g.2.2.1 8), .int x1, .int x2]) (rwQi g (wd_8 g (res.2)) (va_A (wd_8 g S8) sz) (res.1)) 0 0 (va_A (wd_8 g S8) sz) := by
  refine Met.ofW (cc := cX8_mean) (maxL := 7) (ret := (some .int)) (by decide) rfl ?_
  intro p e s m args below meth c s₁ B hml hv
  obtain ⟨rfl, hsz, hP, hK, hD0⟩ := hv
  have hx := B.exec
  have hb := B.bytes
  have hr := B.returns
  have hts := atoms_spec (ws := wsX8_mean) B.pre
  have hown : s.vm.findClass RX8 = some m.cls := findClass_of_methodNamed B.named
  have hlk := B.notSynchronized
  subst hsz
  have hD := hD0.self (sz := s.heap.size)
  generalize hAe : va_A (wd_8 g S8) s.heap.size = A at hD ⊢
  have hA : ∀ q : Nat, s.heap.size ≤ q → A q := fun q h => by rw [← hAe]; exact Or.inr h
  have hS : va_S A s.heap s.heap [] := va_S.rf
  have C : cxw g A cX8_mean 7 (some .int) wsX8_mean RX8 p s m ([.ref (g.2.2.1 8), .int x1, .int x2] : List Value).toArray meth c := ⟨⟨hx, hb, hr, hml, hown, hts, hlk⟩, hK, hA⟩
  have hl := lv_entry [.ref (g.2.2.1 8), .int x1, .int x2] (n := 7) (Nat.le_of_ble_eq_true rfl)
  rw [lg_entry_eq]
  generalize (lg_sl [.ref (g.2.2.1 8), .int x1, .int x2] ++ List.replicate (7 - (lg_sl [.ref (g.2.2.1 8), .int x1, .int x2]).length) Slot.unset).toArray = ls at hl ⊢
  have hl : lv_has ls 7 [(0, .ref (g.2.2.1 8)), (1, .int x1), (2, .int x2)] := hl
  unfold f_X8_mean at hf
  suffices K9 : ∀ (H : Heap) (locs : List Loc), va_P g.1 vwCl (wd_8 g S8) H → va_D A (wd_8 g S8) → va_S A s.heap H locs → ((f_X8_isHand N x1).bind (fun r1 => (if r1 = 0 then some ((-1), S8) else (f_X8_mean_17 N   N S8 x1 x2 0 0 0)))) = some res → W p l e (headSpec wsX8_mean { frames := 2, cells := 0, slots := 0, locals := 42 }).room s m ([.ref (g.2.2.1 8), .int x1, .int x2] : List Value).toArray below meth c H locs 0 0 (MQ below (rwQi g (wd_8 g (res.2)) A (res.1)) ([.ref (g.2.2.1 8), .int x1, .int x2] : List Value).toArray s 0 0 A) (F0 m 0 ls []) from K9 s.heap [] hP hD hS hf
  clear hP hD hS hf
  intro H locs hP hD hS hf
  refine lv_iload_n (pc := 0) hx hb dX8_mean_0 rfl (lv_at hl 1 rfl) ?_
  obtain ⟨r1, e1, hf⟩ := bdE hf
  refine ksI (pc := 1) (As := [.int x1]) (rest := []) ⟨hx, hb, hml, hown, hts⟩ (c_X8_isHand l N x1 r1 e1) (va_cwS 1 hts gX8_mean_X8_isHand rfl rfl rfl h_X8_isHand ⟨Nat.le_of_ble_eq_true rfl, Nat.le_of_ble_eq_true rfl⟩) rfl hl.1 rfl (Nat.le_of_ble_eq_true rfl) dX8_mean_1 ⟨Nat.zero_le _, Nat.zero_le _⟩ ?_
  refine lv_if_ne (tgt := 9) (pc := 4) hx hb dX8_mean_4 (by decide) (fun c4 => ?_) (fun c4 => ?_)
  · have hf := ff hf c4
    refine lv_iconst (v := 0) (pc := 9) hx hb dX8_mean_9 (by decide) ?_
    refine lv_istore_n (lv' := [(3, .int 0), (0, .ref (g.2.2.1 8)), (1, .int x1), (2, .int x2)]) (pc := 10) hx hb dX8_mean_10 rfl hl (by decide) rfl (fun ls hl => ?_)
    refine lv_iconst (v := 0) (pc := 11) hx hb dX8_mean_11 (by decide) ?_
    refine lv_istore (lv' := [(4, .int 0), (3, .int 0), (0, .ref (g.2.2.1 8)), (1, .int x1), (2, .int x2)]) (pc := 12) hx hb dX8_mean_12 hl (by decide) rfl (fun ls hl => ?_)
    refine lv_iconst (v := 0) (pc := 14) hx hb dX8_mean_14 (by decide) ?_
    refine lv_istore (lv' := [(5, .int 0), (4, .int 0), (3, .int 0), (0, .ref (g.2.2.1 8)), (1, .int x1), (2, .int x2)]) (pc := 15) hx hb dX8_mean_15 hl (by decide) rfl (fun ls hl => ?_)
    exact w_X8_mean_17 C  N H locs S8 ls x1 x2 0 0 0 hP hD hS (lv_sub hl [3, 4, 5, 2, 1, 0] rfl) hf
  · have hf := ft hf c4
    refine lv_iconst (v := (-1)) (pc := 7) hx hb dX8_mean_7 (by decide) ?_
    have hf := Option.some.inj hf
    subst hf
    exact W.iret (v := (-1)) hx hb hr (fun t ht hW => ⟨⟨_, (), rfl, rfl, by rw [ht]; exact hP, va_K.moved hW.alike hK, hD⟩, hS.F ht⟩) hS.2.2 dX8_mean_8
theorem q_X8_spread_0 : (.fieldLink RX8 81 "PictureCourtModel" "opinionExpert" "[I" : Cond) ∈ wsX8_spread := by decide +kernel
theorem q_X8_spread_1 : (.fieldLink RX8 87 "PictureCourtModel" "opinionSure" "[I" : Cond) ∈ wsX8_spread := by decide +kernel
theorem q_X8_spread_2 : (.fieldLink RX8 233 "PictureCourtModel" "opinions" "I" : Cond) ∈ wsX8_spread := by decide +kernel
theorem q_X8_spread_3 : (.fieldLink RX8 84 "PictureCourtModel" "opinionHand" "[I" : Cond) ∈ wsX8_spread := by decide +kernel
theorem q_X8_spread_4 : (.fieldLink RX8 90 "PictureCourtModel" "opinionKnew" "[Z" : Cond) ∈ wsX8_spread := by decide +kernel
theorem h_X8_spread : yX8_spread.cls = RX8 ∧ yX8_spread.cls ≠ "java/lang/invoke/MethodHandle" ∧ yX8_spread.cls ≠ "java/lang/invoke/VarHandle" ∧ (parseMethodDescriptor yX8_spread.desc).map (fun d => d.parameters.length) = some 0 := by decide +kernel
set_option maxHeartbeats 4000000 in
set_option maxRecDepth 100000 in
theorem w_X8_spread_155 {p : Program} {l : Launch} {e : Env} {s : State} {m : MethodId} {args : Array Value} {below : List Frame} {meth : Method} {c : Code} {g : En} {A : Nat → Prop} {N : Nat} {res : Int32 × St} (C : cxw g A cX8_spread 7 (some .int) wsX8_spread RX8 p s m args meth c) (k7 : St → Int32 → Int32 → Int32 → Option (Int32 × St)) (H7 : ∀ (H : Heap) (locs : List Loc) (S8 : St) (ls : Array Slot) (x1 : Int32) (x2 : Int32) (x3 : Int32), va_P g.1 vwCl (wd_8 g S8) H → va_D A (wd_8 g S8) → va_S A s.heap H locs → lv_has ls 7 [(0, .ref (g.2.2.1 8)), (1, .int x1), (2, .int x2), (3, .int x3)] → k7 S8 x1 x2 x3 = some res → W p l e (headSpec wsX8_spread { frames := 1, cells := 0, slots := 0, locals := 22 }).room s m args below meth c H locs 0 0 (MQ below (rwQi g (wd_8 g (res.2)) A (res.1)) args s 0 0 A) (F0 m 7 ls [])) (k20 : St → Int32 → Int32 → Int32 → Int32 → Option (Int32 × St)) (H20 : ∀ (H : Heap) (locs : List Loc) (S8 : St) (ls : Array Slot) (x1 : Int32) (x2 : Int32) (x3 : Int32) (x4 : Int32), va_P g.1 vwCl (wd_8 g S8) H → va_D A (wd_8 g S8) → va_S A s.heap H locs → lv_has ls 7 [(0, .ref (g.2.2.1 8)), (1, .int x1), (2, .int x2), (3, .int x3), (4, .int x4)] → k20 S8 x1 x2 x3 x4 = some res → W p l e (headSpec wsX8_spread { frames := 1, cells := 0, slots := 0, locals := 22 }).room s m args below meth c H locs 0 0 (MQ below (rwQi g (wd_8 g (res.2)) A (res.1)) args s 0 0 A) (F0 m 20 ls [])) : ∀ (H : Heap) (locs : List Loc) (S8 : St) (ls : Array Slot) (x1 : Int32) (x2 : Int32) (x3 : Int32) (x4 : Int32), va_P g.1 vwCl (wd_8 g S8) H → va_D A (wd_8 g S8) → va_S A s.heap H locs → lv_has ls 7 [(0, .ref (g.2.2.1 8)), (1, .int x1), (2, .int x2), (3, .int x3), (4, .int x4)] → f_X8_spread_155 N  k7 k20 S8 x1 x2 x3 x4 = some res → W p l e (headSpec wsX8_spread { frames := 1, cells := 0, slots := 0, locals := 22 }).room s m args below meth c H locs 0 0 (MQ below (rwQi g (wd_8 g (res.2)) A (res.1)) args s 0 0 A) (F0 m 155 ls []) := by
  intro H locs S8 ls x1 x2 x3 x4 hP hD hS hl hf
  obtain ⟨⟨hx, hb, hr, hml, hown, hts, hlk⟩, hK, hA⟩ := id C
  unfold f_X8_spread_155 at hf
  refine lv_iinc (v := (x4 + 1)) (lv' := [(4, .int (x4 + 1)), (0, .ref (g.2.2.1 8)), (1, .int x1), (2, .int x2), (3, .int x3)]) (pc := 155) hx hb dX8_spread_155 hl (k := 4) rfl rfl (by decide) rfl (fun ls hl => ?_)
  refine lv_goto (tgt := 20) (pc := 158) hx hb dX8_spread_158 (by decide) ?_
  exact H20 H locs S8 ls x1 x2 x3 (x4 + 1) hP hD hS (lv_sub hl [1, 2, 3, 4, 0] rfl) hf
set_option maxHeartbeats 4000000 in
set_option maxRecDepth 100000 in
theorem w_X8_spread_145 {p : Program} {l : Launch} {e : Env} {s : State} {m : MethodId} {args : Array Value} {below : List Frame} {meth : Method} {c : Code} {g : En} {A : Nat → Prop} {N : Nat} {res : Int32 × St} (C : cxw g A cX8_spread 7 (some .int) wsX8_spread RX8 p s m args meth c) (k7 : St → Int32 → Int32 → Int32 → Option (Int32 × St)) (H7 : ∀ (H : Heap) (locs : List Loc) (S8 : St) (ls : Array Slot) (x1 : Int32) (x2 : Int32) (x3 : Int32), va_P g.1 vwCl (wd_8 g S8) H → va_D A (wd_8 g S8) → va_S A s.heap H locs → lv_has ls 7 [(0, .ref (g.2.2.1 8)), (1, .int x1), (2, .int x2), (3, .int x3)] → k7 S8 x1 x2 x3 = some res → W p l e (headSpec wsX8_spread { frames := 1, cells := 0, slots := 0, locals := 22 }).room s m args below meth c H locs 0 0 (MQ below (rwQi g (wd_8 g (res.2)) A (res.1)) args s 0 0 A) (F0 m 7 ls [])) (k20 : St → Int32 → Int32 → Int32 → Int32 → Option (Int32 × St)) (H20 : ∀ (H : Heap) (locs : List Loc) (S8 : St) (ls : Array Slot) (x1 : Int32) (x2 : Int32) (x3 : Int32) (x4 : Int32), va_P g.1 vwCl (wd_8 g S8) H → va_D A (wd_8 g S8) → va_S A s.heap H locs → lv_has ls 7 [(0, .ref (g.2.2.1 8)), (1, .int x1), (2, .int x2), (3, .int x3), (4, .int x4)] → k20 S8 x1 x2 x3 x4 = some res → W p l e (headSpec wsX8_spread { frames := 1, cells := 0, slots := 0, locals := 22 }).room s m args below meth c H locs 0 0 (MQ below (rwQi g (wd_8 g (res.2)) A (res.1)) args s 0 0 A) (F0 m 20 ls [])) : ∀ (H : Heap) (locs : List Loc) (S8 : St) (ls : Array Slot) (x3 : Int32) (x4 : Int32) (x6 : Int32), va_P g.1 vwCl (wd_8 g S8) H → va_D A (wd_8 g S8) → va_S A s.heap H locs → lv_has ls 7 [(0, .ref (g.2.2.1 8)), (3, .int x3), (4, .int x4), (6, .int x6)] → f_X8_spread_145 N  k7 k20 S8 x3 x4 x6 = some res → W p l e (headSpec wsX8_spread { frames := 1, cells := 0, slots := 0, locals := 22 }).room s m args below meth c H locs 0 0 (MQ below (rwQi g (wd_8 g (res.2)) A (res.1)) args s 0 0 A) (F0 m 145 ls []) := by
  intro H locs S8 ls x3 x4 x6 hP hD hS hl hf
  obtain ⟨⟨hx, hb, hr, hml, hown, hts, hlk⟩, hK, hA⟩ := id C
  unfold f_X8_spread_145 at hf
  refine lv_iload (pc := 145) hx hb dX8_spread_145 (lv_at hl 3 rfl) ?_
  refine lv_istore_n (lv' := [(1, .int x6), (0, .ref (g.2.2.1 8)), (3, .int x3), (4, .int x4), (6, .int x6)]) (pc := 147) hx hb dX8_spread_147 rfl hl (by decide) rfl (fun ls hl => ?_)
  refine lv_aload_n (pc := 148) hx hb dX8_spread_148 rfl (lv_at hl 1 rfl) ?_
  refine va_get (D := g.1) (ci := 8) (v := .ref (g.2.2.2 8 35)) (C := RX8) (T := TX8) (N := 47) (pc := 149) hx hb hts (fun _ h => List.mem_cons_of_mem _ (List.mem_append_right _ h)) hown hK hP 0 rfl rfl 35 (by decide) (hts _ q_X8_spread_0) (fun _ h9 => h9) rfl dX8_spread_149 ?_
  refine lv_iload_n (pc := 152) hx hb dX8_spread_152 rfl (lv_at hl 2 rfl) ?_
  obtain ⟨b153, hf⟩ := gdE hf
  refine va_iald (D := g.1) (tys := tyl g) (f := (S8.2.2 35)) (pc := 153) hx hb hK hP 24 0 rfl rfl (inbV b153) dX8_spread_153 ?_
  refine lv_istore_n (lv' := [(2, .int ((S8.2.2 35) (Int32.toNatClampNeg x3))), (1, .int x6), (0, .ref (g.2.2.1 8)), (3, .int x3), (4, .int x4), (6, .int x6)]) (pc := 154) hx hb dX8_spread_154 rfl hl (by decide) rfl (fun ls hl => ?_)
  exact w_X8_spread_155 C k7 H7 k20 H20 H locs S8 ls x6 ((S8.2.2 35) (Int32.toNatClampNeg x3)) x3 x4 hP hD hS (lv_sub hl [2, 1, 0, 3, 4] rfl) hf
set_option maxHeartbeats 4000000 in
set_option maxRecDepth 100000 in
theorem w_X8_spread_116 {p : Program} {l : Launch} {e : Env} {s : State} {m : MethodId} {args : Array Value} {below : List Frame} {meth : Method} {c : Code} {g : En} {A : Nat → Prop} {N : Nat} {res : Int32 × St} (C : cxw g A cX8_spread 7 (some .int) wsX8_spread RX8 p s m args meth c) (k7 : St → Int32 → Int32 → Int32 → Option (Int32 × St)) (H7 : ∀ (H : Heap) (locs : List Loc) (S8 : St) (ls : Array Slot) (x1 : Int32) (x2 : Int32) (x3 : Int32), va_P g.1 vwCl (wd_8 g S8) H → va_D A (wd_8 g S8) → va_S A s.heap H locs → lv_has ls 7 [(0, .ref (g.2.2.1 8)), (1, .int x1), (2, .int x2), (3, .int x3)] → k7 S8 x1 x2 x3 = some res → W p l e (headSpec wsX8_spread { frames := 1, cells := 0, slots := 0, locals := 22 }).room s m args below meth c H locs 0 0 (MQ below (rwQi g (wd_8 g (res.2)) A (res.1)) args s 0 0 A) (F0 m 7 ls [])) (k20 : St → Int32 → Int32 → Int32 → Int32 → Option (Int32 × St)) (H20 : ∀ (H : Heap) (locs : List Loc) (S8 : St) (ls : Array Slot) (x1 : Int32) (x2 : Int32) (x3 : Int32) (x4 : Int32), va_P g.1 vwCl (wd_8 g S8) H → va_D A (wd_8 g S8) → va_S A s.heap H locs → lv_has ls 7 [(0, .ref (g.2.2.1 8)), (1, .int x1), (2, .int x2), (3, .int x3), (4, .int x4)] → k20 S8 x1 x2 x3 x4 = some res → W p l e (headSpec wsX8_spread { frames := 1, cells := 0, slots := 0, locals := 22 }).room s m args below meth c H locs 0 0 (MQ below (rwQi g (wd_8 g (res.2)) A (res.1)) args s 0 0 A) (F0 m 20 ls [])) : ∀ (H : Heap) (locs : List Loc) (S8 : St) (ls : Array Slot) (x1 : Int32) (x2 : Int32) (x3 : Int32) (x4 : Int32) (x5 : Int32) (t0 : Int32), va_P g.1 vwCl (wd_8 g S8) H → va_D A (wd_8 g S8) → va_S A s.heap H locs → lv_has ls 7 [(0, .ref (g.2.2.1 8)), (1, .int x1), (2, .int x2), (3, .int x3), (4, .int x4), (5, .int x5)] → f_X8_spread_116 N  k7 k20 S8 x1 x2 x3 x4 x5 t0 = some res → W p l e (headSpec wsX8_spread { frames := 1, cells := 0, slots := 0, locals := 22 }).room s m args below meth c H locs 0 0 (MQ below (rwQi g (wd_8 g (res.2)) A (res.1)) args s 0 0 A) (F0 m 116 ls [.int t0]) := by
  intro H locs S8 ls x1 x2 x3 x4 x5 t0 hP hD hS hl hf
  obtain ⟨⟨hx, hb, hr, hml, hown, hts, hlk⟩, hK, hA⟩ := id C
  unfold f_X8_spread_116 at hf
  refine lv_istore (lv' := [(6, .int t0), (0, .ref (g.2.2.1 8)), (1, .int x1), (2, .int x2), (3, .int x3), (4, .int x4), (5, .int x5)]) (pc := 116) hx hb dX8_spread_116 hl (by decide) rfl (fun ls hl => ?_)
  refine lv_iload (pc := 118) hx hb dX8_spread_118 (lv_at hl 6 rfl) ?_
  refine lv_if_eq (tgt := 155) (pc := 120) hx hb dX8_spread_120 (by decide) (fun c120 => ?_) (fun c120 => ?_)
  · have hf := ft hf c120
    exact w_X8_spread_155 C k7 H7 k20 H20 H locs S8 ls x1 x2 x3 x4 hP hD hS (lv_sub hl [1, 2, 3, 4, 5] rfl) hf
  · have hf := ff hf c120
    refine lv_iload (pc := 123) hx hb dX8_spread_123 (lv_at hl 0 rfl) ?_
    refine lv_iload_n (pc := 125) hx hb dX8_spread_125 rfl (lv_at hl 2 rfl) ?_
    refine lv_icmp_gt (tgt := 145) (pc := 126) hx hb dX8_spread_126 (by decide) (fun c126 => ?_) (fun c126 => ?_)
    · have hf := ft hf c126
      exact w_X8_spread_145 C k7 H7 k20 H20 H locs S8 ls x3 x4 t0 hP hD hS (lv_sub hl [1, 4, 5, 0] rfl) hf
    · have hf := ff hf c126
      refine lv_iload (pc := 129) hx hb dX8_spread_129 (lv_at hl 0 rfl) ?_
      refine lv_iload_n (pc := 131) hx hb dX8_spread_131 rfl (lv_at hl 2 rfl) ?_
      refine lv_icmp_ne (tgt := 155) (pc := 132) hx hb dX8_spread_132 (by decide) (fun c132 => ?_) (fun c132 => ?_)
      · have hf := ff hf c132
        exact w_X8_spread_155 C k7 H7 k20 H20 H locs S8 ls x1 x2 x3 x4 hP hD hS (lv_sub hl [1, 2, 3, 4, 5] rfl) hf
      · have hf := ft hf c132
        refine lv_aload_n (pc := 135) hx hb dX8_spread_135 rfl (lv_at hl 1 rfl) ?_
        refine va_get (D := g.1) (ci := 8) (v := .ref (g.2.2.2 8 35)) (C := RX8) (T := TX8) (N := 47) (pc := 136) hx hb hts (fun _ h => List.mem_cons_of_mem _ (List.mem_append_right _ h)) hown hK hP 0 rfl rfl 35 (by decide) (hts _ q_X8_spread_0) (fun _ h9 => h9) rfl dX8_spread_136 ?_
        refine lv_iload_n (pc := 139) hx hb dX8_spread_139 rfl (lv_at hl 4 rfl) ?_
        obtain ⟨b140, hf⟩ := gdE hf
        refine va_iald (D := g.1) (tys := tyl g) (f := (S8.2.2 35)) (pc := 140) hx hb hK hP 24 0 rfl rfl (inbV b140) dX8_spread_140 ?_
        refine lv_iload_n (pc := 141) hx hb dX8_spread_141 rfl (lv_at hl 3 rfl) ?_
        refine lv_icmp_ge (tgt := 155) (pc := 142) hx hb dX8_spread_142 (by decide) (fun c142 => ?_) (fun c142 => ?_)
        · have hf := ft hf c142
          exact w_X8_spread_155 C k7 H7 k20 H20 H locs S8 ls x1 x2 x3 x4 hP hD hS (lv_sub hl [1, 2, 3, 4, 5] rfl) hf
        · have hf := ff hf c142
          exact w_X8_spread_145 C k7 H7 k20 H20 H locs S8 ls x3 x4 t0 hP hD hS (lv_sub hl [1, 4, 5, 0] rfl) hf
set_option maxHeartbeats 4000000 in
set_option maxRecDepth 100000 in
theorem w_X8_spread_85 {p : Program} {l : Launch} {e : Env} {s : State} {m : MethodId} {args : Array Value} {below : List Frame} {meth : Method} {c : Code} {g : En} {A : Nat → Prop} {N : Nat} {res : Int32 × St} (C : cxw g A cX8_spread 7 (some .int) wsX8_spread RX8 p s m args meth c) (k7 : St → Int32 → Int32 → Int32 → Option (Int32 × St)) (H7 : ∀ (H : Heap) (locs : List Loc) (S8 : St) (ls : Array Slot) (x1 : Int32) (x2 : Int32) (x3 : Int32), va_P g.1 vwCl (wd_8 g S8) H → va_D A (wd_8 g S8) → va_S A s.heap H locs → lv_has ls 7 [(0, .ref (g.2.2.1 8)), (1, .int x1), (2, .int x2), (3, .int x3)] → k7 S8 x1 x2 x3 = some res → W p l e (headSpec wsX8_spread { frames := 1, cells := 0, slots := 0, locals := 22 }).room s m args below meth c H locs 0 0 (MQ below (rwQi g (wd_8 g (res.2)) A (res.1)) args s 0 0 A) (F0 m 7 ls [])) (k20 : St → Int32 → Int32 → Int32 → Int32 → Option (Int32 × St)) (H20 : ∀ (H : Heap) (locs : List Loc) (S8 : St) (ls : Array Slot) (x1 : Int32) (x2 : Int32) (x3 : Int32) (x4 : Int32), va_P g.1 vwCl (wd_8 g S8) H → va_D A (wd_8 g S8) → va_S A s.heap H locs → lv_has ls 7 [(0, .ref (g.2.2.1 8)), (1, .int x1), (2, .int x2), (3, .int x3), (4, .int x4)] → k20 S8 x1 x2 x3 x4 = some res → W p l e (headSpec wsX8_spread { frames := 1, cells := 0, slots := 0, locals := 22 }).room s m args below meth c H locs 0 0 (MQ below (rwQi g (wd_8 g (res.2)) A (res.1)) args s 0 0 A) (F0 m 20 ls [])) : ∀ (H : Heap) (locs : List Loc) (S8 : St) (ls : Array Slot) (x1 : Int32) (x2 : Int32) (x3 : Int32) (x4 : Int32) (t0 : Int32), va_P g.1 vwCl (wd_8 g S8) H → va_D A (wd_8 g S8) → va_S A s.heap H locs → lv_has ls 7 [(0, .ref (g.2.2.1 8)), (1, .int x1), (2, .int x2), (3, .int x3), (4, .int x4)] → f_X8_spread_85 N  k7 k20 S8 x1 x2 x3 x4 t0 = some res → W p l e (headSpec wsX8_spread { frames := 1, cells := 0, slots := 0, locals := 22 }).room s m args below meth c H locs 0 0 (MQ below (rwQi g (wd_8 g (res.2)) A (res.1)) args s 0 0 A) (F0 m 85 ls [.int t0]) := by
  intro H locs S8 ls x1 x2 x3 x4 t0 hP hD hS hl hf
  obtain ⟨⟨hx, hb, hr, hml, hown, hts, hlk⟩, hK, hA⟩ := id C
  unfold f_X8_spread_85 at hf
  refine lv_istore (lv' := [(5, .int t0), (0, .ref (g.2.2.1 8)), (1, .int x1), (2, .int x2), (3, .int x3), (4, .int x4)]) (pc := 85) hx hb dX8_spread_85 hl (by decide) rfl (fun ls hl => ?_)
  refine lv_aload_n (pc := 87) hx hb dX8_spread_87 rfl (lv_at hl 1 rfl) ?_
  refine va_get (D := g.1) (ci := 8) (v := .ref (g.2.2.2 8 37)) (C := RX8) (T := TX8) (N := 47) (pc := 88) hx hb hts (fun _ h => List.mem_cons_of_mem _ (List.mem_append_right _ h)) hown hK hP 0 rfl rfl 37 (by decide) (hts _ q_X8_spread_1) (fun _ h9 => h9) rfl dX8_spread_88 ?_
  refine lv_iload_n (pc := 91) hx hb dX8_spread_91 rfl (lv_at hl 4 rfl) ?_
  obtain ⟨b92, hf⟩ := gdE hf
  refine va_iald (D := g.1) (tys := tyl g) (f := (S8.2.2 37)) (pc := 92) hx hb hK hP 26 0 rfl rfl (inbV b92) dX8_spread_92 ?_
  refine lv_aload_n (pc := 93) hx hb dX8_spread_93 rfl (lv_at hl 1 rfl) ?_
  refine va_get (D := g.1) (ci := 8) (v := .ref (g.2.2.2 8 37)) (C := RX8) (T := TX8) (N := 47) (pc := 94) hx hb hts (fun _ h => List.mem_cons_of_mem _ (List.mem_append_right _ h)) hown hK hP 0 rfl rfl 37 (by decide) (hts _ q_X8_spread_1) (fun _ h9 => h9) rfl dX8_spread_94 ?_
  refine lv_iload (pc := 97) hx hb dX8_spread_97 (lv_at hl 5 rfl) ?_
  obtain ⟨b99, hf⟩ := gdE hf
  refine va_iald (D := g.1) (tys := tyl g) (f := (S8.2.2 37)) (pc := 99) hx hb hK hP 26 0 rfl rfl (inbV b99) dX8_spread_99 ?_
  refine lv_isub (pc := 100) hx hb dX8_spread_100 ?_
  refine lv_istore (lv' := [(6, .int (((S8.2.2 37) (Int32.toNatClampNeg x3)) - ((S8.2.2 37) (Int32.toNatClampNeg x4)))), (5, .int t0), (0, .ref (g.2.2.1 8)), (1, .int x1), (2, .int x2), (3, .int x3), (4, .int x4)]) (pc := 101) hx hb dX8_spread_101 hl (by decide) rfl (fun ls hl => ?_)
  refine lv_iload (pc := 103) hx hb dX8_spread_103 (lv_at hl 0 rfl) ?_
  refine lv_if_ge (tgt := 114) (pc := 105) hx hb dX8_spread_105 (by decide) (fun c105 => ?_) (fun c105 => ?_)
  · have hf := ft hf c105
    refine lv_iload (pc := 114) hx hb dX8_spread_114 (lv_at hl 0 rfl) ?_
    exact w_X8_spread_116 C k7 H7 k20 H20 H locs S8 ls x1 x2 x3 x4 t0 (((S8.2.2 37) (Int32.toNatClampNeg x3)) - ((S8.2.2 37) (Int32.toNatClampNeg x4))) hP hD hS (lv_sub hl [2, 3, 4, 5, 6, 1] rfl) hf
  · have hf := ff hf c105
    refine lv_iload (pc := 108) hx hb dX8_spread_108 (lv_at hl 0 rfl) ?_
    refine lv_ineg (pc := 110) hx hb dX8_spread_110 ?_
    refine lv_goto (tgt := 116) (pc := 111) hx hb dX8_spread_111 (by decide) ?_
    exact w_X8_spread_116 C k7 H7 k20 H20 H locs S8 ls x1 x2 x3 x4 t0 (-(((S8.2.2 37) (Int32.toNatClampNeg x3)) - ((S8.2.2 37) (Int32.toNatClampNeg x4)))) hP hD hS (lv_sub hl [2, 3, 4, 5, 6, 1] rfl) hf
set_option maxHeartbeats 4000000 in
set_option maxRecDepth 100000 in
theorem w_X8_spread_84 {p : Program} {l : Launch} {e : Env} {s : State} {m : MethodId} {args : Array Value} {below : List Frame} {meth : Method} {c : Code} {g : En} {A : Nat → Prop} {N : Nat} {res : Int32 × St} (C : cxw g A cX8_spread 7 (some .int) wsX8_spread RX8 p s m args meth c) (k7 : St → Int32 → Int32 → Int32 → Option (Int32 × St)) (H7 : ∀ (H : Heap) (locs : List Loc) (S8 : St) (ls : Array Slot) (x1 : Int32) (x2 : Int32) (x3 : Int32), va_P g.1 vwCl (wd_8 g S8) H → va_D A (wd_8 g S8) → va_S A s.heap H locs → lv_has ls 7 [(0, .ref (g.2.2.1 8)), (1, .int x1), (2, .int x2), (3, .int x3)] → k7 S8 x1 x2 x3 = some res → W p l e (headSpec wsX8_spread { frames := 1, cells := 0, slots := 0, locals := 22 }).room s m args below meth c H locs 0 0 (MQ below (rwQi g (wd_8 g (res.2)) A (res.1)) args s 0 0 A) (F0 m 7 ls [])) (k20 : St → Int32 → Int32 → Int32 → Int32 → Option (Int32 × St)) (H20 : ∀ (H : Heap) (locs : List Loc) (S8 : St) (ls : Array Slot) (x1 : Int32) (x2 : Int32) (x3 : Int32) (x4 : Int32), va_P g.1 vwCl (wd_8 g S8) H → va_D A (wd_8 g S8) → va_S A s.heap H locs → lv_has ls 7 [(0, .ref (g.2.2.1 8)), (1, .int x1), (2, .int x2), (3, .int x3), (4, .int x4)] → k20 S8 x1 x2 x3 x4 = some res → W p l e (headSpec wsX8_spread { frames := 1, cells := 0, slots := 0, locals := 22 }).room s m args below meth c H locs 0 0 (MQ below (rwQi g (wd_8 g (res.2)) A (res.1)) args s 0 0 A) (F0 m 20 ls [])) : ∀ (H : Heap) (locs : List Loc) (S8 : St) (ls : Array Slot) (x1 : Int32) (x2 : Int32) (x3 : Int32) (x4 : Int32), va_P g.1 vwCl (wd_8 g S8) H → va_D A (wd_8 g S8) → va_S A s.heap H locs → lv_has ls 7 [(0, .ref (g.2.2.1 8)), (1, .int x1), (2, .int x2), (3, .int x3), (4, .int x4)] → f_X8_spread_84 N  k7 k20 S8 x1 x2 x3 x4 = some res → W p l e (headSpec wsX8_spread { frames := 1, cells := 0, slots := 0, locals := 22 }).room s m args below meth c H locs 0 0 (MQ below (rwQi g (wd_8 g (res.2)) A (res.1)) args s 0 0 A) (F0 m 84 ls []) := by
  intro H locs S8 ls x1 x2 x3 x4 hP hD hS hl hf
  obtain ⟨⟨hx, hb, hr, hml, hown, hts, hlk⟩, hK, hA⟩ := id C
  unfold f_X8_spread_84 at hf
  refine lv_iconst (v := 0) (pc := 84) hx hb dX8_spread_84 (by decide) ?_
  exact w_X8_spread_85 C k7 H7 k20 H20 H locs S8 ls x1 x2 x3 x4 0 hP hD hS (lv_sub hl [0, 1, 2, 3, 4] rfl) hf
set_option maxHeartbeats 4000000 in
set_option maxRecDepth 100000 in
theorem w_X8_spread_20_b {p : Program} {l : Launch} {e : Env} {s : State} {m : MethodId} {args : Array Value} {below : List Frame} {meth : Method} {c : Code} {g : En} {A : Nat → Prop} {N : Nat} {res : Int32 × St} (C : cxw g A cX8_spread 7 (some .int) wsX8_spread RX8 p s m args meth c) (k7 : St → Int32 → Int32 → Int32 → Option (Int32 × St)) (H7 : ∀ (H : Heap) (locs : List Loc) (S8 : St) (ls : Array Slot) (x1 : Int32) (x2 : Int32) (x3 : Int32), va_P g.1 vwCl (wd_8 g S8) H → va_D A (wd_8 g S8) → va_S A s.heap H locs → lv_has ls 7 [(0, .ref (g.2.2.1 8)), (1, .int x1), (2, .int x2), (3, .int x3)] → k7 S8 x1 x2 x3 = some res → W p l e (headSpec wsX8_spread { frames := 1, cells := 0, slots := 0, locals := 22 }).room s m args below meth c H locs 0 0 (MQ below (rwQi g (wd_8 g (res.2)) A (res.1)) args s 0 0 A) (F0 m 7 ls [])) (k20 : St → Int32 → Int32 → Int32 → Int32 → Option (Int32 × St)) (H20 : ∀ (H : Heap) (locs : List Loc) (S8 : St) (ls : Array Slot) (x1 : Int32) (x2 : Int32) (x3 : Int32) (x4 : Int32), va_P g.1 vwCl (wd_8 g S8) H → va_D A (wd_8 g S8) → va_S A s.heap H locs → lv_has ls 7 [(0, .ref (g.2.2.1 8)), (1, .int x1), (2, .int x2), (3, .int x3), (4, .int x4)] → k20 S8 x1 x2 x3 x4 = some res → W p l e (headSpec wsX8_spread { frames := 1, cells := 0, slots := 0, locals := 22 }).room s m args below meth c H locs 0 0 (MQ below (rwQi g (wd_8 g (res.2)) A (res.1)) args s 0 0 A) (F0 m 20 ls [])) : ∀ (H : Heap) (locs : List Loc) (S8 : St) (ls : Array Slot) (x1 : Int32) (x2 : Int32) (x3 : Int32) (x4 : Int32), va_P g.1 vwCl (wd_8 g S8) H → va_D A (wd_8 g S8) → va_S A s.heap H locs → lv_has ls 7 [(0, .ref (g.2.2.1 8)), (1, .int x1), (2, .int x2), (3, .int x3), (4, .int x4)] → f_X8_spread_20_b N  k7 k20 S8 x1 x2 x3 x4 = some res → W p l e (headSpec wsX8_spread { frames := 1, cells := 0, slots := 0, locals := 22 }).room s m args below meth c H locs 0 0 (MQ below (rwQi g (wd_8 g (res.2)) A (res.1)) args s 0 0 A) (F0 m 20 ls []) := by
  intro H locs S8 ls x1 x2 x3 x4 hP hD hS hl hf
  obtain ⟨⟨hx, hb, hr, hml, hown, hts, hlk⟩, hK, hA⟩ := id C
  unfold f_X8_spread_20_b at hf
  refine lv_iload (pc := 20) hx hb dX8_spread_20 (lv_at hl 4 rfl) ?_
  refine lv_aload_n (pc := 22) hx hb dX8_spread_22 rfl (lv_at hl 0 rfl) ?_
  refine va_get (D := g.1) (ci := 8) (v := .int (S8.1 34)) (C := RX8) (T := TX8) (N := 47) (pc := 23) hx hb hts (fun _ h => List.mem_cons_of_mem _ (List.mem_append_right _ h)) hown hK hP 0 rfl rfl 34 (by decide) (hts _ q_X8_spread_2) (fun _ h9 => h9) rfl dX8_spread_23 ?_
  refine lv_icmp_ge (tgt := 161) (pc := 26) hx hb dX8_spread_26 (by decide) (fun c26 => ?_) (fun c26 => ?_)
  · have hf := ft hf c26
    refine lv_iinc (v := (x3 + 1)) (lv' := [(3, .int (x3 + 1)), (0, .ref (g.2.2.1 8)), (1, .int x1), (2, .int x2), (4, .int x4)]) (pc := 161) hx hb dX8_spread_161 hl (k := 3) rfl rfl (by decide) rfl (fun ls hl => ?_)
    refine lv_goto (tgt := 7) (pc := 164) hx hb dX8_spread_164 (by decide) ?_
    exact H7 H locs S8 ls x1 x2 (x3 + 1) hP hD hS (lv_sub hl [1, 2, 3, 0] rfl) hf
  · have hf := ff hf c26
    refine lv_aload_n (pc := 29) hx hb dX8_spread_29 rfl (lv_at hl 0 rfl) ?_
    refine va_get (D := g.1) (ci := 8) (v := .ref (g.2.2.2 8 35)) (C := RX8) (T := TX8) (N := 47) (pc := 30) hx hb hts (fun _ h => List.mem_cons_of_mem _ (List.mem_append_right _ h)) hown hK hP 0 rfl rfl 35 (by decide) (hts _ q_X8_spread_0) (fun _ h9 => h9) rfl dX8_spread_30 ?_
    refine lv_iload_n (pc := 33) hx hb dX8_spread_33 rfl (lv_at hl 3 rfl) ?_
    obtain ⟨b34, hf⟩ := gdE hf
    refine va_iald (D := g.1) (tys := tyl g) (f := (S8.2.2 35)) (pc := 34) hx hb hK hP 24 0 rfl rfl (inbV b34) dX8_spread_34 ?_
    refine lv_aload_n (pc := 35) hx hb dX8_spread_35 rfl (lv_at hl 0 rfl) ?_
    refine va_get (D := g.1) (ci := 8) (v := .ref (g.2.2.2 8 35)) (C := RX8) (T := TX8) (N := 47) (pc := 36) hx hb hts (fun _ h => List.mem_cons_of_mem _ (List.mem_append_right _ h)) hown hK hP 0 rfl rfl 35 (by decide) (hts _ q_X8_spread_0) (fun _ h9 => h9) rfl dX8_spread_36 ?_
    refine lv_iload (pc := 39) hx hb dX8_spread_39 (lv_at hl 4 rfl) ?_
    obtain ⟨b41, hf⟩ := gdE hf
    refine va_iald (D := g.1) (tys := tyl g) (f := (S8.2.2 35)) (pc := 41) hx hb hK hP 24 0 rfl rfl (inbV b41) dX8_spread_41 ?_
    refine lv_icmp_ne (tgt := 84) (pc := 42) hx hb dX8_spread_42 (by decide) (fun c42 => ?_) (fun c42 => ?_)
    · have hf := ff hf c42
      exact w_X8_spread_84 C k7 H7 k20 H20 H locs S8 ls x1 x2 x3 x4 hP hD hS (lv_sub hl [0, 1, 2, 3, 4] rfl) hf
    · have hf := ft hf c42
      refine lv_aload_n (pc := 45) hx hb dX8_spread_45 rfl (lv_at hl 0 rfl) ?_
      refine va_get (D := g.1) (ci := 8) (v := .ref (g.2.2.2 8 36)) (C := RX8) (T := TX8) (N := 47) (pc := 46) hx hb hts (fun _ h => List.mem_cons_of_mem _ (List.mem_append_right _ h)) hown hK hP 0 rfl rfl 36 (by decide) (hts _ q_X8_spread_3) (fun _ h9 => h9) rfl dX8_spread_46 ?_
      refine lv_iload_n (pc := 49) hx hb dX8_spread_49 rfl (lv_at hl 3 rfl) ?_
      obtain ⟨b50, hf⟩ := gdE hf
      refine va_iald (D := g.1) (tys := tyl g) (f := (S8.2.2 36)) (pc := 50) hx hb hK hP 25 0 rfl rfl (inbV b50) dX8_spread_50 ?_
      refine lv_aload_n (pc := 51) hx hb dX8_spread_51 rfl (lv_at hl 0 rfl) ?_
      refine va_get (D := g.1) (ci := 8) (v := .ref (g.2.2.2 8 36)) (C := RX8) (T := TX8) (N := 47) (pc := 52) hx hb hts (fun _ h => List.mem_cons_of_mem _ (List.mem_append_right _ h)) hown hK hP 0 rfl rfl 36 (by decide) (hts _ q_X8_spread_3) (fun _ h9 => h9) rfl dX8_spread_52 ?_
      refine lv_iload (pc := 55) hx hb dX8_spread_55 (lv_at hl 4 rfl) ?_
      obtain ⟨b57, hf⟩ := gdE hf
      refine va_iald (D := g.1) (tys := tyl g) (f := (S8.2.2 36)) (pc := 57) hx hb hK hP 25 0 rfl rfl (inbV b57) dX8_spread_57 ?_
      refine lv_icmp_ne (tgt := 84) (pc := 58) hx hb dX8_spread_58 (by decide) (fun c58 => ?_) (fun c58 => ?_)
      · have hf := ff hf c58
        exact w_X8_spread_84 C k7 H7 k20 H20 H locs S8 ls x1 x2 x3 x4 hP hD hS (lv_sub hl [0, 1, 2, 3, 4] rfl) hf
      · have hf := ft hf c58
        refine lv_aload_n (pc := 61) hx hb dX8_spread_61 rfl (lv_at hl 0 rfl) ?_
        refine va_get (D := g.1) (ci := 8) (v := .ref (g.2.2.2 8 38)) (C := RX8) (T := TX8) (N := 47) (pc := 62) hx hb hts (fun _ h => List.mem_cons_of_mem _ (List.mem_append_right _ h)) hown hK hP 0 rfl rfl 38 (by decide) (hts _ q_X8_spread_4) (fun _ h9 => h9) rfl dX8_spread_62 ?_
        refine lv_iload_n (pc := 65) hx hb dX8_spread_65 rfl (lv_at hl 3 rfl) ?_
        obtain ⟨b66, hf⟩ := gdE hf
        refine va_zald (D := g.1) (tys := tyl g) (f := (S8.2.2 38)) (pc := 66) hx hb hK hP 27 2 rfl rfl (inbV b66) dX8_spread_66 ?_
        refine lv_if_ne (tgt := 84) (pc := 67) hx hb dX8_spread_67 (by decide) (fun c67 => ?_) (fun c67 => ?_)
        · have hf := ff hf c67
          exact w_X8_spread_84 C k7 H7 k20 H20 H locs S8 ls x1 x2 x3 x4 hP hD hS (lv_sub hl [0, 1, 2, 3, 4] rfl) hf
        · have hf := ft hf c67
          refine lv_aload_n (pc := 70) hx hb dX8_spread_70 rfl (lv_at hl 0 rfl) ?_
          refine va_get (D := g.1) (ci := 8) (v := .ref (g.2.2.2 8 38)) (C := RX8) (T := TX8) (N := 47) (pc := 71) hx hb hts (fun _ h => List.mem_cons_of_mem _ (List.mem_append_right _ h)) hown hK hP 0 rfl rfl 38 (by decide) (hts _ q_X8_spread_4) (fun _ h9 => h9) rfl dX8_spread_71 ?_
          refine lv_iload (pc := 74) hx hb dX8_spread_74 (lv_at hl 4 rfl) ?_
          obtain ⟨b76, hf⟩ := gdE hf
          refine va_zald (D := g.1) (tys := tyl g) (f := (S8.2.2 38)) (pc := 76) hx hb hK hP 27 2 rfl rfl (inbV b76) dX8_spread_76 ?_
          refine lv_if_ne (tgt := 84) (pc := 77) hx hb dX8_spread_77 (by decide) (fun c77 => ?_) (fun c77 => ?_)
          · have hf := ff hf c77
            exact w_X8_spread_84 C k7 H7 k20 H20 H locs S8 ls x1 x2 x3 x4 hP hD hS (lv_sub hl [0, 1, 2, 3, 4] rfl) hf
          · have hf := ft hf c77
            refine lv_iconst (v := 1) (pc := 80) hx hb dX8_spread_80 (by decide) ?_
            refine lv_goto (tgt := 85) (pc := 81) hx hb dX8_spread_81 (by decide) ?_
            exact w_X8_spread_85 C k7 H7 k20 H20 H locs S8 ls x1 x2 x3 x4 1 hP hD hS (lv_sub hl [0, 1, 2, 3, 4] rfl) hf
set_option maxHeartbeats 4000000 in
set_option maxRecDepth 100000 in
theorem w_X8_spread_20 {p : Program} {l : Launch} {e : Env} {s : State} {m : MethodId} {args : Array Value} {below : List Frame} {meth : Method} {c : Code} {g : En} {A : Nat → Prop} {N : Nat} {res : Int32 × St} (C : cxw g A cX8_spread 7 (some .int) wsX8_spread RX8 p s m args meth c) (k7 : St → Int32 → Int32 → Int32 → Option (Int32 × St)) (H7 : ∀ (H : Heap) (locs : List Loc) (S8 : St) (ls : Array Slot) (x1 : Int32) (x2 : Int32) (x3 : Int32), va_P g.1 vwCl (wd_8 g S8) H → va_D A (wd_8 g S8) → va_S A s.heap H locs → lv_has ls 7 [(0, .ref (g.2.2.1 8)), (1, .int x1), (2, .int x2), (3, .int x3)] → k7 S8 x1 x2 x3 = some res → W p l e (headSpec wsX8_spread { frames := 1, cells := 0, slots := 0, locals := 22 }).room s m args below meth c H locs 0 0 (MQ below (rwQi g (wd_8 g (res.2)) A (res.1)) args s 0 0 A) (F0 m 7 ls [])) : ∀ (n : Nat), ∀ (H : Heap) (locs : List Loc) (S8 : St) (ls : Array Slot) (x1 : Int32) (x2 : Int32) (x3 : Int32) (x4 : Int32), va_P g.1 vwCl (wd_8 g S8) H → va_D A (wd_8 g S8) → va_S A s.heap H locs → lv_has ls 7 [(0, .ref (g.2.2.1 8)), (1, .int x1), (2, .int x2), (3, .int x3), (4, .int x4)] → f_X8_spread_20 N  k7 n S8 x1 x2 x3 x4 = some res → W p l e (headSpec wsX8_spread { frames := 1, cells := 0, slots := 0, locals := 22 }).room s m args below meth c H locs 0 0 (MQ below (rwQi g (wd_8 g (res.2)) A (res.1)) args s 0 0 A) (F0 m 20 ls []) := by
  intro n
  induction n with
  | zero =>
    intro H locs S8 ls x1 x2 x3 x4 hP hD hS hl hf
    have hf : (none : Option (Int32 × St)) = some res := hf
    cases hf
  | succ n ih =>
    intro H locs S8 ls x1 x2 x3 x4 hP hD hS hl hf
    exact w_X8_spread_20_b C k7 H7 (fun y0 y1 y2 y3 y4 => f_X8_spread_20 N  k7 n y0 y1 y2 y3 y4) ih H locs S8 ls x1 x2 x3 x4 hP hD hS hl hf
set_option maxHeartbeats 4000000 in
set_option maxRecDepth 100000 in
theorem w_X8_spread_7_b {p : Program} {l : Launch} {e : Env} {s : State} {m : MethodId} {args : Array Value} {below : List Frame} {meth : Method} {c : Code} {g : En} {A : Nat → Prop} {N : Nat} {res : Int32 × St} (C : cxw g A cX8_spread 7 (some .int) wsX8_spread RX8 p s m args meth c) (k7 : St → Int32 → Int32 → Int32 → Option (Int32 × St)) (H7 : ∀ (H : Heap) (locs : List Loc) (S8 : St) (ls : Array Slot) (x1 : Int32) (x2 : Int32) (x3 : Int32), va_P g.1 vwCl (wd_8 g S8) H → va_D A (wd_8 g S8) → va_S A s.heap H locs → lv_has ls 7 [(0, .ref (g.2.2.1 8)), (1, .int x1), (2, .int x2), (3, .int x3)] → k7 S8 x1 x2 x3 = some res → W p l e (headSpec wsX8_spread { frames := 1, cells := 0, slots := 0, locals := 22 }).room s m args below meth c H locs 0 0 (MQ below (rwQi g (wd_8 g (res.2)) A (res.1)) args s 0 0 A) (F0 m 7 ls [])) : ∀ (H : Heap) (locs : List Loc) (S8 : St) (ls : Array Slot) (x1 : Int32) (x2 : Int32) (x3 : Int32), va_P g.1 vwCl (wd_8 g S8) H → va_D A (wd_8 g S8) → va_S A s.heap H locs → lv_has ls 7 [(0, .ref (g.2.2.1 8)), (1, .int x1), (2, .int x2), (3, .int x3)] → f_X8_spread_7_b N   k7 S8 x1 x2 x3 = some res → W p l e (headSpec wsX8_spread { frames := 1, cells := 0, slots := 0, locals := 22 }).room s m args below meth c H locs 0 0 (MQ below (rwQi g (wd_8 g (res.2)) A (res.1)) args s 0 0 A) (F0 m 7 ls []) := by
  intro H locs S8 ls x1 x2 x3 hP hD hS hl hf
  obtain ⟨⟨hx, hb, hr, hml, hown, hts, hlk⟩, hK, hA⟩ := id C
  unfold f_X8_spread_7_b at hf
  refine lv_iload_n (pc := 7) hx hb dX8_spread_7 rfl (lv_at hl 3 rfl) ?_
  refine lv_aload_n (pc := 8) hx hb dX8_spread_8 rfl (lv_at hl 0 rfl) ?_
  refine va_get (D := g.1) (ci := 8) (v := .int (S8.1 34)) (C := RX8) (T := TX8) (N := 47) (pc := 9) hx hb hts (fun _ h => List.mem_cons_of_mem _ (List.mem_append_right _ h)) hown hK hP 0 rfl rfl 34 (by decide) (hts _ q_X8_spread_2) (fun _ h9 => h9) rfl dX8_spread_9 ?_
  refine lv_icmp_ge (tgt := 167) (pc := 12) hx hb dX8_spread_12 (by decide) (fun c12 => ?_) (fun c12 => ?_)
  · have hf := ft hf c12
    refine lv_iload_n (pc := 167) hx hb dX8_spread_167 rfl (lv_at hl 1 rfl) ?_
    refine lv_bipush (v := (-9)) (pc := 168) hx hb dX8_spread_168 (by decide) ?_
    refine lv_icmp_ne (tgt := 178) (pc := 170) hx hb dX8_spread_170 (by decide) (fun c170 => ?_) (fun c170 => ?_)
    · have hf := ff hf c170
      refine lv_aload_n (pc := 178) hx hb dX8_spread_178 rfl (lv_at hl 0 rfl) ?_
      refine lv_iload_n (pc := 179) hx hb dX8_spread_179 rfl (lv_at hl 2 rfl) ?_
      refine lv_iload_n (pc := 180) hx hb dX8_spread_180 rfl (lv_at hl 1 rfl) ?_
      obtain ⟨r181, e181, hf⟩ := bdE hf
      refine kuI (g := g) (A := A) (W0 := (wd_8 g S8)) (w1 := (wd_8 g (r181.2))) (pc := 181) (As := [.int x2, .int x1]) (rest := []) ⟨hx, hb, hml, hown, hts⟩ hK hA hP hD hS (c_X8_tells l g N H.size S8 x2 x1 r181 e181) (cwV 2 hts gX8_spread_X8_tells rfl rfl rfl h_X8_tells ⟨Nat.le_of_ble_eq_true rfl, Nat.le_of_ble_eq_true rfl⟩) rfl rfl rfl hl.1 rfl (Nat.le_of_ble_eq_true rfl) dX8_spread_181 ⟨Nat.zero_le _, Nat.zero_le _⟩ (fun H locs hP hD hS => ?_)
      have hf := Option.some.inj hf
      subst hf
      exact W.iret (v := (r181.1)) hx hb hr (fun t ht hW => ⟨⟨_, (), rfl, rfl, by rw [ht]; exact hP, va_K.moved hW.alike hK, hD⟩, hS.F ht⟩) hS.2.2 dX8_spread_184
    · have hf := ft hf c170
      refine lv_bipush (v := (-9)) (pc := 173) hx hb dX8_spread_173 (by decide) ?_
      refine lv_goto (tgt := 184) (pc := 175) hx hb dX8_spread_175 (by decide) ?_
      have hf := Option.some.inj hf
      subst hf
      exact W.iret (v := (-9)) hx hb hr (fun t ht hW => ⟨⟨_, (), rfl, rfl, by rw [ht]; exact hP, va_K.moved hW.alike hK, hD⟩, hS.F ht⟩) hS.2.2 dX8_spread_184
  · have hf := ff hf c12
    refine lv_iload_n (pc := 15) hx hb dX8_spread_15 rfl (lv_at hl 3 rfl) ?_
    refine lv_iconst (v := 1) (pc := 16) hx hb dX8_spread_16 (by decide) ?_
    refine lv_iadd (pc := 17) hx hb dX8_spread_17 ?_
    refine lv_istore (lv' := [(4, .int (x3 + 1)), (0, .ref (g.2.2.1 8)), (1, .int x1), (2, .int x2), (3, .int x3)]) (pc := 18) hx hb dX8_spread_18 hl (by decide) rfl (fun ls hl => ?_)
    exact w_X8_spread_20 C k7 H7 N H locs S8 ls x1 x2 x3 (x3 + 1) hP hD hS (lv_sub hl [1, 2, 3, 4, 0] rfl) hf
set_option maxHeartbeats 4000000 in
set_option maxRecDepth 100000 in
theorem w_X8_spread_7 {p : Program} {l : Launch} {e : Env} {s : State} {m : MethodId} {args : Array Value} {below : List Frame} {meth : Method} {c : Code} {g : En} {A : Nat → Prop} {N : Nat} {res : Int32 × St} (C : cxw g A cX8_spread 7 (some .int) wsX8_spread RX8 p s m args meth c) : ∀ (n : Nat), ∀ (H : Heap) (locs : List Loc) (S8 : St) (ls : Array Slot) (x1 : Int32) (x2 : Int32) (x3 : Int32), va_P g.1 vwCl (wd_8 g S8) H → va_D A (wd_8 g S8) → va_S A s.heap H locs → lv_has ls 7 [(0, .ref (g.2.2.1 8)), (1, .int x1), (2, .int x2), (3, .int x3)] → f_X8_spread_7 N   n S8 x1 x2 x3 = some res → W p l e (headSpec wsX8_spread { frames := 1, cells := 0, slots := 0, locals := 22 }).room s m args below meth c H locs 0 0 (MQ below (rwQi g (wd_8 g (res.2)) A (res.1)) args s 0 0 A) (F0 m 7 ls []) := by
  intro n
  induction n with
  | zero =>
    intro H locs S8 ls x1 x2 x3 hP hD hS hl hf
    have hf : (none : Option (Int32 × St)) = some res := hf
    cases hf
  | succ n ih =>
    intro H locs S8 ls x1 x2 x3 hP hD hS hl hf
    exact w_X8_spread_7_b C  (fun y0 y1 y2 y3 => f_X8_spread_7 N   n y0 y1 y2 y3) ih H locs S8 ls x1 x2 x3 hP hD hS hl hf
set_option maxHeartbeats 4000000 in
set_option maxRecDepth 100000 in
theorem c_X8_spread (l : Launch) (g : En) (N : Nat) (sz : Nat) (S8 : St) (res : Int32 × St) (hf : f_X8_spread N S8 = some res) : Met l yX8_spread wsX8_spread { frames := 1, cells := 0, slots := 0, locals := 22 } (rwP g (wd_8 g S8) sz [.ref (g.2.2.1 8)]) (rwQi g (wd_8 g (res.2)) (va_A (wd_8 g S8) sz) (res.1)) 0 0 (va_A (wd_8 g S8) sz) := by
  refine Met.ofW (cc := cX8_spread) (maxL := 7) (ret := (some .int)) (by decide) rfl ?_
  intro p e s m args below meth c s₁ B hml hv
  obtain ⟨rfl, hsz, hP, hK, hD0⟩ := hv
  have hx := B.exec
  have hb := B.bytes
  have hr := B.returns
  have hts := atoms_spec (ws := wsX8_spread) B.pre
  have hown : s.vm.findClass RX8 = some m.cls := findClass_of_methodNamed B.named
  have hlk := B.notSynchronized
  subst hsz
  have hD := hD0.self (sz := s.heap.size)
  generalize hAe : va_A (wd_8 g S8) s.heap.size = A at hD ⊢
  have hA : ∀ q : Nat, s.heap.size ≤ q → A q := fun q h => by rw [← hAe]; exact Or.inr h
  have hS : va_S A s.heap s.heap [] := va_S.rf
  have C : cxw g A cX8_spread 7 (some .int) wsX8_spread RX8 p s m ([.ref (g.2.2.1 8)] : List Value).toArray meth c := ⟨⟨hx, hb, hr, hml, hown, hts, hlk⟩, hK, hA⟩
  have hl := lv_entry [.ref (g.2.2.1 8)] (n := 7) (Nat.le_of_ble_eq_true rfl)
  rw [lg_entry_eq]
  generalize (lg_sl [.ref (g.2.2.1 8)] ++ List.replicate (7 - (lg_sl [.ref (g.2.2.1 8)]).length) Slot.unset).toArray = ls at hl ⊢
  have hl : lv_has ls 7 [(0, .ref (g.2.2.1 8))] := hl
  unfold f_X8_spread at hf
  suffices K9 : ∀ (H : Heap) (locs : List Loc), va_P g.1 vwCl (wd_8 g S8) H → va_D A (wd_8 g S8) → va_S A s.heap H locs → (f_X8_spread_7 N   N S8 (-9) 0 0) = some res → W p l e (headSpec wsX8_spread { frames := 1, cells := 0, slots := 0, locals := 22 }).room s m ([.ref (g.2.2.1 8)] : List Value).toArray below meth c H locs 0 0 (MQ below (rwQi g (wd_8 g (res.2)) A (res.1)) ([.ref (g.2.2.1 8)] : List Value).toArray s 0 0 A) (F0 m 0 ls []) from K9 s.heap [] hP hD hS hf
  clear hP hD hS hf
  intro H locs hP hD hS hf
  refine lv_bipush (v := (-9)) (pc := 0) hx hb dX8_spread_0 (by decide) ?_
  refine lv_istore_n (lv' := [(1, .int (-9)), (0, .ref (g.2.2.1 8))]) (pc := 2) hx hb dX8_spread_2 rfl hl (by decide) rfl (fun ls hl => ?_)
  refine lv_iconst (v := 0) (pc := 3) hx hb dX8_spread_3 (by decide) ?_
  refine lv_istore_n (lv' := [(2, .int 0), (1, .int (-9)), (0, .ref (g.2.2.1 8))]) (pc := 4) hx hb dX8_spread_4 rfl hl (by decide) rfl (fun ls hl => ?_)
  refine lv_iconst (v := 0) (pc := 5) hx hb dX8_spread_5 (by decide) ?_
  refine lv_istore_n (lv' := [(3, .int 0), (2, .int 0), (1, .int (-9)), (0, .ref (g.2.2.1 8))]) (pc := 6) hx hb dX8_spread_6 rfl hl (by decide) rfl (fun ls hl => ?_)
  exact w_X8_spread_7 C  N H locs S8 ls (-9) 0 0 hP hD hS (lv_sub hl [3, 2, 1, 0] rfl) hf
theorem q_X8_sold_0 : (.fieldLink RX8 135 "PictureCourtModel" "today" "I" : Cond) ∈ wsX8_sold := by decide +kernel
theorem q_X8_sold_1 : (.constant RX8 236 1000000 : Cond) ∈ wsX8_sold := by decide +kernel
theorem q_X8_sold_2 : (.fieldLink RX8 119 "PictureCourtModel" "soldOn" "I" : Cond) ∈ wsX8_sold := by decide +kernel
theorem q_X8_sold_3 : (.fieldLink RX8 237 "PictureCourtModel" "soldFor" "I" : Cond) ∈ wsX8_sold := by decide +kernel
theorem q_X8_sold_4 : (.fieldLink RX8 240 "PictureCourtModel" "soldAs" "I" : Cond) ∈ wsX8_sold := by decide +kernel
theorem h_X8_sold : yX8_sold.cls = RX8 ∧ yX8_sold.cls ≠ "java/lang/invoke/MethodHandle" ∧ yX8_sold.cls ≠ "java/lang/invoke/VarHandle" ∧ (parseMethodDescriptor yX8_sold.desc).map (fun d => d.parameters.length) = some 3 := by decide +kernel
set_option maxHeartbeats 4000000 in
set_option maxRecDepth 100000 in
theorem c_X8_sold (l : Launch) (g : En) (N : Nat) (sz : Nat) (S8 : St) (x1 : Int32) (x2 : Int32) (x3 : Int32) (res : Int32 × St) (hf : f_X8_sold N S8 x1 x2 x3 = some res) : Met l yX8_sold wsX8_sold { frames := 2, cells := 0, slots := 0, locals := 42 } (rwP g (wd_8 g S8) sz [.ref (g.2.2.1 8), .int x1, .int x2, .int x3]) (rwQi g (wd_8 g (res.2)) (va_A (wd_8 g S8) sz) (res.1)) 0 0 (va_A (wd_8 g S8) sz) := by
  refine Met.ofW (cc := cX8_sold) (maxL := 4) (ret := (some .int)) (by decide) rfl ?_
  intro p e s m args below meth c s₁ B hml hv
  obtain ⟨rfl, hsz, hP, hK, hD0⟩ := hv
  have hx := B.exec
  have hb := B.bytes
  have hr := B.returns
  have hts := atoms_spec (ws := wsX8_sold) B.pre
  have hown : s.vm.findClass RX8 = some m.cls := findClass_of_methodNamed B.named
  have hlk := B.notSynchronized
  subst hsz
  have hD := hD0.self (sz := s.heap.size)
  generalize hAe : va_A (wd_8 g S8) s.heap.size = A at hD ⊢
  have hA : ∀ q : Nat, s.heap.size ≤ q → A q := fun q h => by rw [← hAe]; exact Or.inr h
  have hS : va_S A s.heap s.heap [] := va_S.rf
  have C : cxw g A cX8_sold 4 (some .int) wsX8_sold RX8 p s m ([.ref (g.2.2.1 8), .int x1, .int x2, .int x3] : List Value).toArray meth c := ⟨⟨hx, hb, hr, hml, hown, hts, hlk⟩, hK, hA⟩
  have hl := lv_entry [.ref (g.2.2.1 8), .int x1, .int x2, .int x3] (n := 4) (Nat.le_of_ble_eq_true rfl)
  rw [lg_entry_eq]
  generalize (lg_sl [.ref (g.2.2.1 8), .int x1, .int x2, .int x3] ++ List.replicate (4 - (lg_sl [.ref (g.2.2.1 8), .int x1, .int x2, .int x3]).length) Slot.unset).toArray = ls at hl ⊢
  have hl : lv_has ls 4 [(0, .ref (g.2.2.1 8)), (1, .int x1), (2, .int x2), (3, .int x3)] := hl
  unfold f_X8_sold at hf
  suffices K9 : ∀ (H : Heap) (locs : List Loc), va_P g.1 vwCl (wd_8 g S8) H → va_D A (wd_8 g S8) → va_S A s.heap H locs → ((f_X8_in N x1 0 (S8.1 5)).bind (fun r6 => (if r6 = 0 then some ((-1), S8) else ((f_X8_in N x2 1 1000000).bind (fun r16 => (if r16 = 0 then some ((-1), S8) else ((f_X8_isHand N x3).bind (fun r23 => (if r23 = 0 then some ((-1), S8) else some (1, (sI (sI (sI S8 39 x1) 40 x2) 41 x3))))))))))) = some res → W p l e (headSpec wsX8_sold { frames := 2, cells := 0, slots := 0, locals := 42 }).room s m ([.ref (g.2.2.1 8), .int x1, .int x2, .int x3] : List Value).toArray below meth c H locs 0 0 (MQ below (rwQi g (wd_8 g (res.2)) A (res.1)) ([.ref (g.2.2.1 8), .int x1, .int x2, .int x3] : List Value).toArray s 0 0 A) (F0 m 0 ls []) from K9 s.heap [] hP hD hS hf
  clear hP hD hS hf
  intro H locs hP hD hS hf
  refine lv_iload_n (pc := 0) hx hb dX8_sold_0 rfl (lv_at hl 1 rfl) ?_
  refine lv_iconst (v := 0) (pc := 1) hx hb dX8_sold_1 (by decide) ?_
  refine lv_aload_n (pc := 2) hx hb dX8_sold_2 rfl (lv_at hl 0 rfl) ?_
  refine va_get (D := g.1) (ci := 8) (v := .int (S8.1 5)) (C := RX8) (T := TX8) (N := 47) (pc := 3) hx hb hts (fun _ h => List.mem_cons_of_mem _ (List.mem_append_right _ h)) hown hK hP 0 rfl rfl 5 (by decide) (hts _ q_X8_sold_0) (fun _ h9 => h9) rfl dX8_sold_3 ?_
  obtain ⟨r6, e6, hf⟩ := bdE hf
  refine ksI (pc := 6) (As := [.int x1, .int 0, .int (S8.1 5)]) (rest := []) ⟨hx, hb, hml, hown, hts⟩ (c_X8_in l N x1 0 (S8.1 5) r6 e6) (va_cwS 3 hts gX8_sold_X8_in rfl rfl rfl h_X8_in ⟨Nat.le_of_ble_eq_true rfl, Nat.le_of_ble_eq_true rfl⟩) rfl hl.1 rfl (Nat.le_of_ble_eq_true rfl) dX8_sold_6 ⟨Nat.zero_le _, Nat.zero_le _⟩ ?_
  refine lv_if_eq (tgt := 29) (pc := 9) hx hb dX8_sold_9 (by decide) (fun c9 => ?_) (fun c9 => ?_)
  · have hf := ft hf c9
    refine lv_iconst (v := (-1)) (pc := 29) hx hb dX8_sold_29 (by decide) ?_
    have hf := Option.some.inj hf
    subst hf
    exact W.iret (v := (-1)) hx hb hr (fun t ht hW => ⟨⟨_, (), rfl, rfl, by rw [ht]; exact hP, va_K.moved hW.alike hK, hD⟩, hS.F ht⟩) hS.2.2 dX8_sold_30
  · have hf := ff hf c9
    refine lv_iload_n (pc := 12) hx hb dX8_sold_12 rfl (lv_at hl 2 rfl) ?_
    refine lv_iconst (v := 1) (pc := 13) hx hb dX8_sold_13 (by decide) ?_
    refine lv_ldc (v := 1000000) (pc := 14) hx hb hown (hts _ q_X8_sold_1) dX8_sold_14 ?_
    obtain ⟨r16, e16, hf⟩ := bdE hf
    refine ksI (pc := 16) (As := [.int x2, .int 1, .int 1000000]) (rest := []) ⟨hx, hb, hml, hown, hts⟩ (c_X8_in l N x2 1 1000000 r16 e16) (va_cwS 3 hts gX8_sold_X8_in rfl rfl rfl h_X8_in ⟨Nat.le_of_ble_eq_true rfl, Nat.le_of_ble_eq_true rfl⟩) rfl hl.1 rfl (Nat.le_of_ble_eq_true rfl) dX8_sold_16 ⟨Nat.zero_le _, Nat.zero_le _⟩ ?_
    refine lv_if_eq (tgt := 29) (pc := 19) hx hb dX8_sold_19 (by decide) (fun c19 => ?_) (fun c19 => ?_)
    · have hf := ft hf c19
      refine lv_iconst (v := (-1)) (pc := 29) hx hb dX8_sold_29 (by decide) ?_
      have hf := Option.some.inj hf
      subst hf
      exact W.iret (v := (-1)) hx hb hr (fun t ht hW => ⟨⟨_, (), rfl, rfl, by rw [ht]; exact hP, va_K.moved hW.alike hK, hD⟩, hS.F ht⟩) hS.2.2 dX8_sold_30
    · have hf := ff hf c19
      refine lv_iload_n (pc := 22) hx hb dX8_sold_22 rfl (lv_at hl 3 rfl) ?_
      obtain ⟨r23, e23, hf⟩ := bdE hf
      refine ksI (pc := 23) (As := [.int x3]) (rest := []) ⟨hx, hb, hml, hown, hts⟩ (c_X8_isHand l N x3 r23 e23) (va_cwS 1 hts gX8_sold_X8_isHand rfl rfl rfl h_X8_isHand ⟨Nat.le_of_ble_eq_true rfl, Nat.le_of_ble_eq_true rfl⟩) rfl hl.1 rfl (Nat.le_of_ble_eq_true rfl) dX8_sold_23 ⟨Nat.zero_le _, Nat.zero_le _⟩ ?_
      refine lv_if_ne (tgt := 31) (pc := 26) hx hb dX8_sold_26 (by decide) (fun c26 => ?_) (fun c26 => ?_)
      · have hf := ff hf c26
        refine lv_aload_n (pc := 31) hx hb dX8_sold_31 rfl (lv_at hl 0 rfl) ?_
        refine lv_iload_n (pc := 32) hx hb dX8_sold_32 rfl (lv_at hl 1 rfl) ?_
        refine va_put (D := g.1) (ci := 8) (v := .int x1) (ty := .int) (C := RX8) (T := TX8) (N := 47) (pc := 33) hx hb hts (fun _ h => List.mem_cons_of_mem _ (List.mem_append_right _ h)) tyX8 tyX8_ok nmX8 hown hK hP hD hS 0 rfl rfl 39 (by decide) (hts _ q_X8_sold_2) (fun _ h9 => h9) rfl rfl rfl rfl (Nat.le_of_ble_eq_true rfl) dX8_sold_33 (fun H locs hP hD hS => ?_)
        have hP := u_8_8_39P S8 x1 hP
        have hD := u_8_8_39D S8 x1 hD
        refine lv_aload_n (pc := 36) hx hb dX8_sold_36 rfl (lv_at hl 0 rfl) ?_
        refine lv_iload_n (pc := 37) hx hb dX8_sold_37 rfl (lv_at hl 2 rfl) ?_
        refine va_put (D := g.1) (ci := 8) (v := .int x2) (ty := .int) (C := RX8) (T := TX8) (N := 47) (pc := 38) hx hb hts (fun _ h => List.mem_cons_of_mem _ (List.mem_append_right _ h)) tyX8 tyX8_ok nmX8 hown hK hP hD hS 0 rfl rfl 40 (by decide) (hts _ q_X8_sold_3) (fun _ h9 => h9) rfl rfl rfl rfl (Nat.le_of_ble_eq_true rfl) dX8_sold_38 (fun H locs hP hD hS => ?_)
        have hP := u_8_8_40P (sI S8 39 x1) x2 hP
        have hD := u_8_8_40D (sI S8 39 x1) x2 hD
        refine lv_aload_n (pc := 41) hx hb dX8_sold_41 rfl (lv_at hl 0 rfl) ?_
        refine lv_iload_n (pc := 42) hx hb dX8_sold_42 rfl (lv_at hl 3 rfl) ?_
        refine va_put (D := g.1) (ci := 8) (v := .int x3) (ty := .int) (C := RX8) (T := TX8) (N := 47) (pc := 43) hx hb hts (fun _ h => List.mem_cons_of_mem _ (List.mem_append_right _ h)) tyX8 tyX8_ok nmX8 hown hK hP hD hS 0 rfl rfl 41 (by decide) (hts _ q_X8_sold_4) (fun _ h9 => h9) rfl rfl rfl rfl (Nat.le_of_ble_eq_true rfl) dX8_sold_43 (fun H locs hP hD hS => ?_)
        have hP := u_8_8_41P (sI (sI S8 39 x1) 40 x2) x3 hP
        have hD := u_8_8_41D (sI (sI S8 39 x1) 40 x2) x3 hD
        refine lv_iconst (v := 1) (pc := 46) hx hb dX8_sold_46 (by decide) ?_
        have hf := Option.some.inj hf
        subst hf
        exact W.iret (v := 1) hx hb hr (fun t ht hW => ⟨⟨_, (), rfl, rfl, by rw [ht]; exact hP, va_K.moved hW.alike hK, hD⟩, hS.F ht⟩) hS.2.2 dX8_sold_47
      · have hf := ft hf c26
        refine lv_iconst (v := (-1)) (pc := 29) hx hb dX8_sold_29 (by decide) ?_
        have hf := Option.some.inj hf
        subst hf
        exact W.iret (v := (-1)) hx hb hr (fun t ht hW => ⟨⟨_, (), rfl, rfl, by rw [ht]; exact hP, va_K.moved hW.alike hK, hD⟩, hS.F ht⟩) hS.2.2 dX8_sold_30
theorem q_X8_law_0 : (.fieldLink RX8 243 "PictureCourtModel" "laws" "I" : Cond) ∈ wsX8_law := by decide +kernel
theorem q_X8_law_1 : (.fieldLink RX8 93 "PictureCourtModel" "lawDay" "[I" : Cond) ∈ wsX8_law := by decide +kernel
theorem q_X8_law_2 : (.fieldLink RX8 96 "PictureCourtModel" "lawWithin" "[I" : Cond) ∈ wsX8_law := by decide +kernel
theorem q_X8_law_3 : (.fieldLink RX8 99 "PictureCourtModel" "lawBelow" "[I" : Cond) ∈ wsX8_law := by decide +kernel
theorem q_X8_law_4 : (.fieldLink RX8 102 "PictureCourtModel" "lawRate" "[I" : Cond) ∈ wsX8_law := by decide +kernel
theorem h_X8_law : yX8_law.cls = RX8 ∧ yX8_law.cls ≠ "java/lang/invoke/MethodHandle" ∧ yX8_law.cls ≠ "java/lang/invoke/VarHandle" ∧ (parseMethodDescriptor yX8_law.desc).map (fun d => d.parameters.length) = some 4 := by decide +kernel
set_option maxHeartbeats 4000000 in
set_option maxRecDepth 100000 in
theorem c_X8_law (l : Launch) (g : En) (N : Nat) (sz : Nat) (S8 : St) (x1 : Int32) (x2 : Int32) (x3 : Int32) (x4 : Int32) (res : Int32 × St) (hf : f_X8_law N S8 x1 x2 x3 x4 = some res) : Met l yX8_law wsX8_law { frames := 2, cells := 0, slots := 0, locals := 42 } (rwP g (wd_8 g S8) sz [.ref (g.2.2.1 8), .int x1, .int x2, .int x3, .int x4]) (rwQi g (wd_8 g (res.2)) (va_A (wd_8 g S8) sz) (res.1)) 0 0 (va_A (wd_8 g S8) sz) := by
  refine Met.ofW (cc := cX8_law) (maxL := 5) (ret := (some .int)) (by decide) rfl ?_
  intro p e s m args below meth c s₁ B hml hv
  obtain ⟨rfl, hsz, hP, hK, hD0⟩ := hv
  have hx := B.exec
  have hb := B.bytes
  have hr := B.returns
  have hts := atoms_spec (ws := wsX8_law) B.pre
  have hown : s.vm.findClass RX8 = some m.cls := findClass_of_methodNamed B.named
  have hlk := B.notSynchronized
  subst hsz
  have hD := hD0.self (sz := s.heap.size)
  generalize hAe : va_A (wd_8 g S8) s.heap.size = A at hD ⊢
  have hA : ∀ q : Nat, s.heap.size ≤ q → A q := fun q h => by rw [← hAe]; exact Or.inr h
  have hS : va_S A s.heap s.heap [] := va_S.rf
  have C : cxw g A cX8_law 5 (some .int) wsX8_law RX8 p s m ([.ref (g.2.2.1 8), .int x1, .int x2, .int x3, .int x4] : List Value).toArray meth c := ⟨⟨hx, hb, hr, hml, hown, hts, hlk⟩, hK, hA⟩
  have hl := lv_entry [.ref (g.2.2.1 8), .int x1, .int x2, .int x3, .int x4] (n := 5) (Nat.le_of_ble_eq_true rfl)
  rw [lg_entry_eq]
  generalize (lg_sl [.ref (g.2.2.1 8), .int x1, .int x2, .int x3, .int x4] ++ List.replicate (5 - (lg_sl [.ref (g.2.2.1 8), .int x1, .int x2, .int x3, .int x4]).length) Slot.unset).toArray = ls at hl ⊢
  have hl : lv_has ls 5 [(0, .ref (g.2.2.1 8)), (1, .int x1), (2, .int x2), (3, .int x3), (4, .int x4)] := hl
  unfold f_X8_law at hf
  suffices K9 : ∀ (H : Heap) (locs : List Loc), va_P g.1 vwCl (wd_8 g S8) H → va_D A (wd_8 g S8) → va_S A s.heap H locs → ((f_X8_isDay N x1).bind (fun r1 => (if r1 = 0 then some ((-1), S8) else ((f_X8_isDay N x2).bind (fun r8 => (if r8 = 0 then some ((-1), S8) else ((f_X8_in N x3 0 100).bind (fun r18 => (if r18 = 0 then some ((-1), S8) else ((f_X8_in N x4 0 100).bind (fun r29 => (if r29 = 0 then some ((-1), S8) else (if (S8.1 42) = 8 then some ((-2), S8) else (if inb (S8.1 42) 8 = true then (if inb (S8.1 42) 8 = true then (if inb (S8.1 42) 8 = true then (if inb (S8.1 42) 8 = true then some ((((S8.1 42) + 1) - 1), (sI (sA (sA (sA (sA S8 43 (upd (S8.2.2 43) (Int32.toNatClampNeg (S8.1 42)) x1)) 44 (upd (S8.2.2 44) (Int32.toNatClampNeg (S8.1 42)) x2)) 45 (upd (S8.2.2 45) (Int32.toNatClampNeg (S8.1 42)) x3)) 46 (upd (S8.2.2 46) (Int32.toNatClampNeg (S8.1 42)) x4)) 42 ((S8.1 42) + 1))) else none) else none) else none) else none)))))))))))))) = some res → W p l e (headSpec wsX8_law { frames := 2, cells := 0, slots := 0, locals := 42 }).room s m ([.ref (g.2.2.1 8), .int x1, .int x2, .int x3, .int x4] : List Value).toArray below meth c H locs 0 0 (MQ below (rwQi g (wd_8 g (res.2)) A (res.1)) ([.ref (g.2.2.1 8), .int x1, .int x2, .int x3, .int x4] : List Value).toArray s 0 0 A) (F0 m 0 ls []) from K9 s.heap [] hP hD hS hf
  clear hP hD hS hf
  intro H locs hP hD hS hf
  refine lv_iload_n (pc := 0) hx hb dX8_law_0 rfl (lv_at hl 1 rfl) ?_
  obtain ⟨r1, e1, hf⟩ := bdE hf
  refine ksI (pc := 1) (As := [.int x1]) (rest := []) ⟨hx, hb, hml, hown, hts⟩ (c_X8_isDay l N x1 r1 e1) (va_cwS 1 hts gX8_law_X8_isDay rfl rfl rfl h_X8_isDay ⟨Nat.le_of_ble_eq_true rfl, Nat.le_of_ble_eq_true rfl⟩) rfl hl.1 rfl (Nat.le_of_ble_eq_true rfl) dX8_law_1 ⟨Nat.zero_le _, Nat.zero_le _⟩ ?_
  refine lv_if_eq (tgt := 35) (pc := 4) hx hb dX8_law_4 (by decide) (fun c4 => ?_) (fun c4 => ?_)
  · have hf := ft hf c4
    refine lv_iconst (v := (-1)) (pc := 35) hx hb dX8_law_35 (by decide) ?_
    have hf := Option.some.inj hf
    subst hf
    exact W.iret (v := (-1)) hx hb hr (fun t ht hW => ⟨⟨_, (), rfl, rfl, by rw [ht]; exact hP, va_K.moved hW.alike hK, hD⟩, hS.F ht⟩) hS.2.2 dX8_law_36
  · have hf := ff hf c4
    refine lv_iload_n (pc := 7) hx hb dX8_law_7 rfl (lv_at hl 2 rfl) ?_
    obtain ⟨r8, e8, hf⟩ := bdE hf
    refine ksI (pc := 8) (As := [.int x2]) (rest := []) ⟨hx, hb, hml, hown, hts⟩ (c_X8_isDay l N x2 r8 e8) (va_cwS 1 hts gX8_law_X8_isDay rfl rfl rfl h_X8_isDay ⟨Nat.le_of_ble_eq_true rfl, Nat.le_of_ble_eq_true rfl⟩) rfl hl.1 rfl (Nat.le_of_ble_eq_true rfl) dX8_law_8 ⟨Nat.zero_le _, Nat.zero_le _⟩ ?_
    refine lv_if_eq (tgt := 35) (pc := 11) hx hb dX8_law_11 (by decide) (fun c11 => ?_) (fun c11 => ?_)
    · have hf := ft hf c11
      refine lv_iconst (v := (-1)) (pc := 35) hx hb dX8_law_35 (by decide) ?_
      have hf := Option.some.inj hf
      subst hf
      exact W.iret (v := (-1)) hx hb hr (fun t ht hW => ⟨⟨_, (), rfl, rfl, by rw [ht]; exact hP, va_K.moved hW.alike hK, hD⟩, hS.F ht⟩) hS.2.2 dX8_law_36
    · have hf := ff hf c11
      refine lv_iload_n (pc := 14) hx hb dX8_law_14 rfl (lv_at hl 3 rfl) ?_
      refine lv_iconst (v := 0) (pc := 15) hx hb dX8_law_15 (by decide) ?_
      refine lv_bipush (v := 100) (pc := 16) hx hb dX8_law_16 (by decide) ?_
      obtain ⟨r18, e18, hf⟩ := bdE hf
      refine ksI (pc := 18) (As := [.int x3, .int 0, .int 100]) (rest := []) ⟨hx, hb, hml, hown, hts⟩ (c_X8_in l N x3 0 100 r18 e18) (va_cwS 3 hts gX8_law_X8_in rfl rfl rfl h_X8_in ⟨Nat.le_of_ble_eq_true rfl, Nat.le_of_ble_eq_true rfl⟩) rfl hl.1 rfl (Nat.le_of_ble_eq_true rfl) dX8_law_18 ⟨Nat.zero_le _, Nat.zero_le _⟩ ?_
      refine lv_if_eq (tgt := 35) (pc := 21) hx hb dX8_law_21 (by decide) (fun c21 => ?_) (fun c21 => ?_)
      · have hf := ft hf c21
        refine lv_iconst (v := (-1)) (pc := 35) hx hb dX8_law_35 (by decide) ?_
        have hf := Option.some.inj hf
        subst hf
        exact W.iret (v := (-1)) hx hb hr (fun t ht hW => ⟨⟨_, (), rfl, rfl, by rw [ht]; exact hP, va_K.moved hW.alike hK, hD⟩, hS.F ht⟩) hS.2.2 dX8_law_36
      · have hf := ff hf c21
        refine lv_iload (pc := 24) hx hb dX8_law_24 (lv_at hl 4 rfl) ?_
        refine lv_iconst (v := 0) (pc := 26) hx hb dX8_law_26 (by decide) ?_
        refine lv_bipush (v := 100) (pc := 27) hx hb dX8_law_27 (by decide) ?_
        obtain ⟨r29, e29, hf⟩ := bdE hf
        refine ksI (pc := 29) (As := [.int x4, .int 0, .int 100]) (rest := []) ⟨hx, hb, hml, hown, hts⟩ (c_X8_in l N x4 0 100 r29 e29) (va_cwS 3 hts gX8_law_X8_in rfl rfl rfl h_X8_in ⟨Nat.le_of_ble_eq_true rfl, Nat.le_of_ble_eq_true rfl⟩) rfl hl.1 rfl (Nat.le_of_ble_eq_true rfl) dX8_law_29 ⟨Nat.zero_le _, Nat.zero_le _⟩ ?_
        refine lv_if_ne (tgt := 37) (pc := 32) hx hb dX8_law_32 (by decide) (fun c32 => ?_) (fun c32 => ?_)
        · have hf := ff hf c32
          refine lv_aload_n (pc := 37) hx hb dX8_law_37 rfl (lv_at hl 0 rfl) ?_
          refine va_get (D := g.1) (ci := 8) (v := .int (S8.1 42)) (C := RX8) (T := TX8) (N := 47) (pc := 38) hx hb hts (fun _ h => List.mem_cons_of_mem _ (List.mem_append_right _ h)) hown hK hP 0 rfl rfl 42 (by decide) (hts _ q_X8_law_0) (fun _ h9 => h9) rfl dX8_law_38 ?_
          refine lv_bipush (v := 8) (pc := 41) hx hb dX8_law_41 (by decide) ?_
          refine lv_icmp_ne (tgt := 49) (pc := 43) hx hb dX8_law_43 (by decide) (fun c43 => ?_) (fun c43 => ?_)
          · have hf := ff hf c43
            refine lv_aload_n (pc := 49) hx hb dX8_law_49 rfl (lv_at hl 0 rfl) ?_
            refine va_get (D := g.1) (ci := 8) (v := .ref (g.2.2.2 8 43)) (C := RX8) (T := TX8) (N := 47) (pc := 50) hx hb hts (fun _ h => List.mem_cons_of_mem _ (List.mem_append_right _ h)) hown hK hP 0 rfl rfl 43 (by decide) (hts _ q_X8_law_1) (fun _ h9 => h9) rfl dX8_law_50 ?_
            refine lv_aload_n (pc := 53) hx hb dX8_law_53 rfl (lv_at hl 0 rfl) ?_
            refine va_get (D := g.1) (ci := 8) (v := .int (S8.1 42)) (C := RX8) (T := TX8) (N := 47) (pc := 54) hx hb hts (fun _ h => List.mem_cons_of_mem _ (List.mem_append_right _ h)) hown hK hP 0 rfl rfl 42 (by decide) (hts _ q_X8_law_0) (fun _ h9 => h9) rfl dX8_law_54 ?_
            refine lv_iload_n (pc := 57) hx hb dX8_law_57 rfl (lv_at hl 1 rfl) ?_
            obtain ⟨b58, hf⟩ := gdE hf
            refine va_iast (D := g.1) (tys := tyl g) (f := (S8.2.2 43)) (pc := 58) hx hb hK hP hD hS 28 0 rfl rfl (inbV b58) dX8_law_58 (fun H locs hP hD hS => ?_)
            have hP := u_8_8_43P S8 (upd (S8.2.2 43) (Int32.toNatClampNeg (S8.1 42)) x1) hP
            have hD := u_8_8_43D S8 (upd (S8.2.2 43) (Int32.toNatClampNeg (S8.1 42)) x1) hD
            refine lv_aload_n (pc := 59) hx hb dX8_law_59 rfl (lv_at hl 0 rfl) ?_
            refine va_get (D := g.1) (ci := 8) (v := .ref (g.2.2.2 8 44)) (C := RX8) (T := TX8) (N := 47) (pc := 60) hx hb hts (fun _ h => List.mem_cons_of_mem _ (List.mem_append_right _ h)) hown hK hP 0 rfl rfl 44 (by decide) (hts _ q_X8_law_2) (fun _ h9 => h9) rfl dX8_law_60 ?_
            refine lv_aload_n (pc := 63) hx hb dX8_law_63 rfl (lv_at hl 0 rfl) ?_
            refine va_get (D := g.1) (ci := 8) (v := .int (S8.1 42)) (C := RX8) (T := TX8) (N := 47) (pc := 64) hx hb hts (fun _ h => List.mem_cons_of_mem _ (List.mem_append_right _ h)) hown hK hP 0 rfl rfl 42 (by decide) (hts _ q_X8_law_0) (fun _ h9 => h9) rfl dX8_law_64 ?_
            refine lv_iload_n (pc := 67) hx hb dX8_law_67 rfl (lv_at hl 2 rfl) ?_
            obtain ⟨b68, hf⟩ := gdE hf
            refine va_iast (D := g.1) (tys := tyl g) (f := (S8.2.2 44)) (pc := 68) hx hb hK hP hD hS 29 0 rfl rfl (inbV b68) dX8_law_68 (fun H locs hP hD hS => ?_)
            have hP := u_8_8_44P (sA S8 43 (upd (S8.2.2 43) (Int32.toNatClampNeg (S8.1 42)) x1)) (upd (S8.2.2 44) (Int32.toNatClampNeg (S8.1 42)) x2) hP
            have hD := u_8_8_44D (sA S8 43 (upd (S8.2.2 43) (Int32.toNatClampNeg (S8.1 42)) x1)) (upd (S8.2.2 44) (Int32.toNatClampNeg (S8.1 42)) x2) hD
            refine lv_aload_n (pc := 69) hx hb dX8_law_69 rfl (lv_at hl 0 rfl) ?_
            refine va_get (D := g.1) (ci := 8) (v := .ref (g.2.2.2 8 45)) (C := RX8) (T := TX8) (N := 47) (pc := 70) hx hb hts (fun _ h => List.mem_cons_of_mem _ (List.mem_append_right _ h)) hown hK hP 0 rfl rfl 45 (by decide) (hts _ q_X8_law_3) (fun _ h9 => h9) rfl dX8_law_70 ?_
            refine lv_aload_n (pc := 73) hx hb dX8_law_73 rfl (lv_at hl 0 rfl) ?_
            refine va_get (D := g.1) (ci := 8) (v := .int (S8.1 42)) (C := RX8) (T := TX8) (N := 47) (pc := 74) hx hb hts (fun _ h => List.mem_cons_of_mem _ (List.mem_append_right _ h)) hown hK hP 0 rfl rfl 42 (by decide) (hts _ q_X8_law_0) (fun _ h9 => h9) rfl dX8_law_74 ?_
            refine lv_iload_n (pc := 77) hx hb dX8_law_77 rfl (lv_at hl 3 rfl) ?_
            obtain ⟨b78, hf⟩ := gdE hf
            refine va_iast (D := g.1) (tys := tyl g) (f := (S8.2.2 45)) (pc := 78) hx hb hK hP hD hS 30 0 rfl rfl (inbV b78) dX8_law_78 (fun H locs hP hD hS => ?_)
            have hP := u_8_8_45P (sA (sA S8 43 (upd (S8.2.2 43) (Int32.toNatClampNeg (S8.1 42)) x1)) 44 (upd (S8.2.2 44) (Int32.toNatClampNeg (S8.1 42)) x2)) (upd (S8.2.2 45) (Int32.toNatClampNeg (S8.1 42)) x3) hP
            have hD := u_8_8_45D (sA (sA S8 43 (upd (S8.2.2 43) (Int32.toNatClampNeg (S8.1 42)) x1)) 44 (upd (S8.2.2 44) (Int32.toNatClampNeg (S8.1 42)) x2)) (upd (S8.2.2 45) (Int32.toNatClampNeg (S8.1 42)) x3) hD
            refine lv_aload_n (pc := 79) hx hb dX8_law_79 rfl (lv_at hl 0 rfl) ?_
            refine va_get (D := g.1) (ci := 8) (v := .ref (g.2.2.2 8 46)) (C := RX8) (T := TX8) (N := 47) (pc := 80) hx hb hts (fun _ h => List.mem_cons_of_mem _ (List.mem_append_right _ h)) hown hK hP 0 rfl rfl 46 (by decide) (hts _ q_X8_law_4) (fun _ h9 => h9) rfl dX8_law_80 ?_
            refine lv_aload_n (pc := 83) hx hb dX8_law_83 rfl (lv_at hl 0 rfl) ?_
            refine va_get (D := g.1) (ci := 8) (v := .int (S8.1 42)) (C := RX8) (T := TX8) (N := 47) (pc := 84) hx hb hts (fun _ h => List.mem_cons_of_mem _ (List.mem_append_right _ h)) hown hK hP 0 rfl rfl 42 (by decide) (hts _ q_X8_law_0) (fun _ h9 => h9) rfl dX8_law_84 ?_
            refine lv_iload (pc := 87) hx hb dX8_law_87 (lv_at hl 4 rfl) ?_
            obtain ⟨b89, hf⟩ := gdE hf
            refine va_iast (D := g.1) (tys := tyl g) (f := (S8.2.2 46)) (pc := 89) hx hb hK hP hD hS 31 0 rfl rfl (inbV b89) dX8_law_89 (fun H locs hP hD hS => ?_)
            have hP := u_8_8_46P (sA (sA (sA S8 43 (upd (S8.2.2 43) (Int32.toNatClampNeg (S8.1 42)) x1)) 44 (upd (S8.2.2 44) (Int32.toNatClampNeg (S8.1 42)) x2)) 45 (upd (S8.2.2 45) (Int32.toNatClampNeg (S8.1 42)) x3)) (upd (S8.2.2 46) (Int32.toNatClampNeg (S8.1 42)) x4) hP
            have hD := u_8_8_46D (sA (sA (sA S8 43 (upd (S8.2.2 43) (Int32.toNatClampNeg (S8.1 42)) x1)) 44 (upd (S8.2.2 44) (Int32.toNatClampNeg (S8.1 42)) x2)) 45 (upd (S8.2.2 45) (Int32.toNatClampNeg (S8.1 42)) x3)) (upd (S8.2.2 46) (Int32.toNatClampNeg (S8.1 42)) x4) hD
            refine lv_aload_n (pc := 90) hx hb dX8_law_90 rfl (lv_at hl 0 rfl) ?_
            refine lv_dup (pc := 91) hx hb dX8_law_91 rfl ?_
            refine va_get (D := g.1) (ci := 8) (v := .int (S8.1 42)) (C := RX8) (T := TX8) (N := 47) (pc := 92) hx hb hts (fun _ h => List.mem_cons_of_mem _ (List.mem_append_right _ h)) hown hK hP 0 rfl rfl 42 (by decide) (hts _ q_X8_law_0) (fun _ h9 => h9) rfl dX8_law_92 ?_
            refine lv_iconst (v := 1) (pc := 95) hx hb dX8_law_95 (by decide) ?_
            refine lv_iadd (pc := 96) hx hb dX8_law_96 ?_
            refine va_put (D := g.1) (ci := 8) (v := .int ((S8.1 42) + 1)) (ty := .int) (C := RX8) (T := TX8) (N := 47) (pc := 97) hx hb hts (fun _ h => List.mem_cons_of_mem _ (List.mem_append_right _ h)) tyX8 tyX8_ok nmX8 hown hK hP hD hS 0 rfl rfl 42 (by decide) (hts _ q_X8_law_0) (fun _ h9 => h9) rfl rfl rfl rfl (Nat.le_of_ble_eq_true rfl) dX8_law_97 (fun H locs hP hD hS => ?_)
            have hP := u_8_8_42P (sA (sA (sA (sA S8 43 (upd (S8.2.2 43) (Int32.toNatClampNeg (S8.1 42)) x1)) 44 (upd (S8.2.2 44) (Int32.toNatClampNeg (S8.1 42)) x2)) 45 (upd (S8.2.2 45) (Int32.toNatClampNeg (S8.1 42)) x3)) 46 (upd (S8.2.2 46) (Int32.toNatClampNeg (S8.1 42)) x4)) ((S8.1 42) + 1) hP
            have hD := u_8_8_42D (sA (sA (sA (sA S8 43 (upd (S8.2.2 43) (Int32.toNatClampNeg (S8.1 42)) x1)) 44 (upd (S8.2.2 44) (Int32.toNatClampNeg (S8.1 42)) x2)) 45 (upd (S8.2.2 45) (Int32.toNatClampNeg (S8.1 42)) x3)) 46 (upd (S8.2.2 46) (Int32.toNatClampNeg (S8.1 42)) x4)) ((S8.1 42) + 1) hD
            refine lv_aload_n (pc := 100) hx hb dX8_law_100 rfl (lv_at hl 0 rfl) ?_
            refine va_get (D := g.1) (ci := 8) (v := .int ((S8.1 42) + 1)) (C := RX8) (T := TX8) (N := 47) (pc := 101) hx hb hts (fun _ h => List.mem_cons_of_mem _ (List.mem_append_right _ h)) hown hK hP 0 rfl rfl 42 (by decide) (hts _ q_X8_law_0) (fun _ h9 => h9) rfl dX8_law_101 ?_
            refine lv_iconst (v := 1) (pc := 104) hx hb dX8_law_104 (by decide) ?_
            refine lv_isub (pc := 105) hx hb dX8_law_105 ?_
            have hf := Option.some.inj hf
            subst hf
            exact W.iret (v := (((S8.1 42) + 1) - 1)) hx hb hr (fun t ht hW => ⟨⟨_, (), rfl, rfl, by rw [ht]; exact hP, va_K.moved hW.alike hK, hD⟩, hS.F ht⟩) hS.2.2 dX8_law_106
          · have hf := ft hf c43
            refine lv_bipush (v := (-2)) (pc := 46) hx hb dX8_law_46 (by decide) ?_
            have hf := Option.some.inj hf
            subst hf
            exact W.iret (v := (-2)) hx hb hr (fun t ht hW => ⟨⟨_, (), rfl, rfl, by rw [ht]; exact hP, va_K.moved hW.alike hK, hD⟩, hS.F ht⟩) hS.2.2 dX8_law_48
        · have hf := ft hf c32
          refine lv_iconst (v := (-1)) (pc := 35) hx hb dX8_law_35 (by decide) ?_
          have hf := Option.some.inj hf
          subst hf
          exact W.iret (v := (-1)) hx hb hr (fun t ht hW => ⟨⟨_, (), rfl, rfl, by rw [ht]; exact hP, va_K.moved hW.alike hK, hD⟩, hS.F ht⟩) hS.2.2 dX8_law_36
theorem q_X8_claim_0 : (.fieldLink RX8 135 "PictureCourtModel" "today" "I" : Cond) ∈ wsX8_claim := by decide +kernel
theorem q_X8_claim_1 : (.fieldLink RX8 119 "PictureCourtModel" "soldOn" "I" : Cond) ∈ wsX8_claim := by decide +kernel
theorem q_X8_claim_2 : (.fieldLink RX8 96 "PictureCourtModel" "lawWithin" "[I" : Cond) ∈ wsX8_claim := by decide +kernel
theorem q_X8_claim_3 : (.fieldLink RX8 240 "PictureCourtModel" "soldAs" "I" : Cond) ∈ wsX8_claim := by decide +kernel
theorem q_X8_claim_4 : (.constantLong RX8 246 100 : Cond) ∈ wsX8_claim := by decide +kernel
theorem q_X8_claim_5 : (.fieldLink RX8 99 "PictureCourtModel" "lawBelow" "[I" : Cond) ∈ wsX8_claim := by decide +kernel
theorem q_X8_claim_6 : (.fieldLink RX8 237 "PictureCourtModel" "soldFor" "I" : Cond) ∈ wsX8_claim := by decide +kernel
theorem q_X8_claim_7 : (.fieldLink RX8 102 "PictureCourtModel" "lawRate" "[I" : Cond) ∈ wsX8_claim := by decide +kernel
theorem q_X8_claim_8 : (.constantLong RX8 248 36500 : Cond) ∈ wsX8_claim := by decide +kernel
theorem q_X8_claim_9 : (.fieldLink RX8 243 "PictureCourtModel" "laws" "I" : Cond) ∈ wsX8_claim := by decide +kernel
theorem q_X8_claim_10 : (.fieldLink RX8 93 "PictureCourtModel" "lawDay" "[I" : Cond) ∈ wsX8_claim := by decide +kernel
theorem h_X8_claim : yX8_claim.cls = RX8 ∧ yX8_claim.cls ≠ "java/lang/invoke/MethodHandle" ∧ yX8_claim.cls ≠ "java/lang/invoke/VarHandle" ∧ (parseMethodDescriptor yX8_claim.desc).map (fun d => d.parameters.length) = some 0 := by decide +kernel
set_option maxHeartbeats 4000000 in
set_option maxRecDepth 100000 in
theorem w_X8_claim_61 {p : Program} {l : Launch} {e : Env} {s : State} {m : MethodId} {args : Array Value} {below : List Frame} {meth : Method} {c : Code} {g : En} {A : Nat → Prop} {N : Nat} {res : Int32 × St} (C : cxw g A cX8_claim 5 (some .int) wsX8_claim RX8 p s m args meth c) (k5 : St → Int32 → Int32 → Option (Int32 × St)) (H5 : ∀ (H : Heap) (locs : List Loc) (S8 : St) (ls : Array Slot) (x1 : Int32) (x2 : Int32), va_P g.1 vwCl (wd_8 g S8) H → va_D A (wd_8 g S8) → va_S A s.heap H locs → lv_has ls 5 [(0, .ref (g.2.2.1 8)), (1, .int x1), (2, .int x2)] → k5 S8 x1 x2 = some res → W p l e (headSpec wsX8_claim { frames := 2, cells := 0, slots := 0, locals := 45 }).room s m args below meth c H locs 0 0 (MQ below (rwQi g (wd_8 g (res.2)) A (res.1)) args s 0 0 A) (F0 m 5 ls [])) : ∀ (H : Heap) (locs : List Loc) (S8 : St) (ls : Array Slot) (x2 : Int32) (t0 : Int32), va_P g.1 vwCl (wd_8 g S8) H → va_D A (wd_8 g S8) → va_S A s.heap H locs → lv_has ls 5 [(0, .ref (g.2.2.1 8)), (2, .int x2)] → f_X8_claim_61 N  k5 S8 x2 t0 = some res → W p l e (headSpec wsX8_claim { frames := 2, cells := 0, slots := 0, locals := 45 }).room s m args below meth c H locs 0 0 (MQ below (rwQi g (wd_8 g (res.2)) A (res.1)) args s 0 0 A) (F0 m 61 ls [.int t0]) := by
  intro H locs S8 ls x2 t0 hP hD hS hl hf
  obtain ⟨⟨hx, hb, hr, hml, hown, hts, hlk⟩, hK, hA⟩ := id C
  unfold f_X8_claim_61 at hf
  refine lv_istore_n (lv' := [(1, .int t0), (0, .ref (g.2.2.1 8)), (2, .int x2)]) (pc := 61) hx hb dX8_claim_61 rfl hl (by decide) rfl (fun ls hl => ?_)
  refine lv_iinc (v := (x2 + 1)) (lv' := [(2, .int (x2 + 1)), (1, .int t0), (0, .ref (g.2.2.1 8))]) (pc := 62) hx hb dX8_claim_62 hl (k := 2) rfl rfl (by decide) rfl (fun ls hl => ?_)
  refine lv_goto (tgt := 5) (pc := 65) hx hb dX8_claim_65 (by decide) ?_
  exact H5 H locs S8 ls t0 (x2 + 1) hP hD hS (lv_sub hl [2, 1, 0] rfl) hf
set_option maxHeartbeats 4000000 in
set_option maxRecDepth 100000 in
theorem w_X8_claim_56 {p : Program} {l : Launch} {e : Env} {s : State} {m : MethodId} {args : Array Value} {below : List Frame} {meth : Method} {c : Code} {g : En} {A : Nat → Prop} {N : Nat} {res : Int32 × St} (C : cxw g A cX8_claim 5 (some .int) wsX8_claim RX8 p s m args meth c) (k5 : St → Int32 → Int32 → Option (Int32 × St)) (H5 : ∀ (H : Heap) (locs : List Loc) (S8 : St) (ls : Array Slot) (x1 : Int32) (x2 : Int32), va_P g.1 vwCl (wd_8 g S8) H → va_D A (wd_8 g S8) → va_S A s.heap H locs → lv_has ls 5 [(0, .ref (g.2.2.1 8)), (1, .int x1), (2, .int x2)] → k5 S8 x1 x2 = some res → W p l e (headSpec wsX8_claim { frames := 2, cells := 0, slots := 0, locals := 45 }).room s m args below meth c H locs 0 0 (MQ below (rwQi g (wd_8 g (res.2)) A (res.1)) args s 0 0 A) (F0 m 5 ls [])) : ∀ (H : Heap) (locs : List Loc) (S8 : St) (ls : Array Slot) (x2 : Int32), va_P g.1 vwCl (wd_8 g S8) H → va_D A (wd_8 g S8) → va_S A s.heap H locs → lv_has ls 5 [(0, .ref (g.2.2.1 8)), (2, .int x2)] → f_X8_claim_56 N  k5 S8 x2 = some res → W p l e (headSpec wsX8_claim { frames := 2, cells := 0, slots := 0, locals := 45 }).room s m args below meth c H locs 0 0 (MQ below (rwQi g (wd_8 g (res.2)) A (res.1)) args s 0 0 A) (F0 m 56 ls []) := by
  intro H locs S8 ls x2 hP hD hS hl hf
  obtain ⟨⟨hx, hb, hr, hml, hown, hts, hlk⟩, hK, hA⟩ := id C
  unfold f_X8_claim_56 at hf
  refine lv_iload_n (pc := 56) hx hb dX8_claim_56 rfl (lv_at hl 1 rfl) ?_
  refine lv_goto (tgt := 61) (pc := 57) hx hb dX8_claim_57 (by decide) ?_
  exact w_X8_claim_61 C k5 H5 H locs S8 ls x2 x2 hP hD hS (lv_sub hl [0, 1] rfl) hf
set_option maxHeartbeats 4000000 in
set_option maxRecDepth 100000 in
theorem w_X8_claim_60 {p : Program} {l : Launch} {e : Env} {s : State} {m : MethodId} {args : Array Value} {below : List Frame} {meth : Method} {c : Code} {g : En} {A : Nat → Prop} {N : Nat} {res : Int32 × St} (C : cxw g A cX8_claim 5 (some .int) wsX8_claim RX8 p s m args meth c) (k5 : St → Int32 → Int32 → Option (Int32 × St)) (H5 : ∀ (H : Heap) (locs : List Loc) (S8 : St) (ls : Array Slot) (x1 : Int32) (x2 : Int32), va_P g.1 vwCl (wd_8 g S8) H → va_D A (wd_8 g S8) → va_S A s.heap H locs → lv_has ls 5 [(0, .ref (g.2.2.1 8)), (1, .int x1), (2, .int x2)] → k5 S8 x1 x2 = some res → W p l e (headSpec wsX8_claim { frames := 2, cells := 0, slots := 0, locals := 45 }).room s m args below meth c H locs 0 0 (MQ below (rwQi g (wd_8 g (res.2)) A (res.1)) args s 0 0 A) (F0 m 5 ls [])) : ∀ (H : Heap) (locs : List Loc) (S8 : St) (ls : Array Slot) (x1 : Int32) (x2 : Int32), va_P g.1 vwCl (wd_8 g S8) H → va_D A (wd_8 g S8) → va_S A s.heap H locs → lv_has ls 5 [(0, .ref (g.2.2.1 8)), (1, .int x1), (2, .int x2)] → f_X8_claim_60 N  k5 S8 x1 x2 = some res → W p l e (headSpec wsX8_claim { frames := 2, cells := 0, slots := 0, locals := 45 }).room s m args below meth c H locs 0 0 (MQ below (rwQi g (wd_8 g (res.2)) A (res.1)) args s 0 0 A) (F0 m 60 ls []) := by
  intro H locs S8 ls x1 x2 hP hD hS hl hf
  obtain ⟨⟨hx, hb, hr, hml, hown, hts, hlk⟩, hK, hA⟩ := id C
  unfold f_X8_claim_60 at hf
  refine lv_iload_n (pc := 60) hx hb dX8_claim_60 rfl (lv_at hl 1 rfl) ?_
  exact w_X8_claim_61 C k5 H5 H locs S8 ls x2 x1 hP hD hS (lv_sub hl [0, 2] rfl) hf
set_option maxHeartbeats 4000000 in
set_option maxRecDepth 100000 in
theorem w_X8_claim_68 {p : Program} {l : Launch} {e : Env} {s : State} {m : MethodId} {args : Array Value} {below : List Frame} {meth : Method} {c : Code} {g : En} {A : Nat → Prop} {N : Nat} {res : Int32 × St} (C : cxw g A cX8_claim 5 (some .int) wsX8_claim RX8 p s m args meth c) : ∀ (H : Heap) (locs : List Loc) (S8 : St) (ls : Array Slot) (x1 : Int32), va_P g.1 vwCl (wd_8 g S8) H → va_D A (wd_8 g S8) → va_S A s.heap H locs → lv_has ls 5 [(0, .ref (g.2.2.1 8)), (1, .int x1)] → f_X8_claim_68 N   S8 x1 = some res → W p l e (headSpec wsX8_claim { frames := 2, cells := 0, slots := 0, locals := 45 }).room s m args below meth c H locs 0 0 (MQ below (rwQi g (wd_8 g (res.2)) A (res.1)) args s 0 0 A) (F0 m 68 ls []) := by
  intro H locs S8 ls x1 hP hD hS hl hf
  obtain ⟨⟨hx, hb, hr, hml, hown, hts, hlk⟩, hK, hA⟩ := id C
  unfold f_X8_claim_68 at hf
  refine lv_iload_n (pc := 68) hx hb dX8_claim_68 rfl (lv_at hl 1 rfl) ?_
  refine lv_bipush (v := (-9)) (pc := 69) hx hb dX8_claim_69 (by decide) ?_
  refine lv_icmp_ne (tgt := 77) (pc := 71) hx hb dX8_claim_71 (by decide) (fun c71 => ?_) (fun c71 => ?_)
  · have hf := ff hf c71
    refine lv_aload_n (pc := 77) hx hb dX8_claim_77 rfl (lv_at hl 0 rfl) ?_
    obtain ⟨r78, e78, hf⟩ := bdE hf
    refine krL (g := g) (wc := (wd_8 g S8)) (pc := 78) (As := []) (rest := []) ⟨hx, hb, hml, hown, hts⟩ (c_X8_allScores l g N S8 r78 e78) (cwV 0 hts gX8_claim_X8_allScores rfl rfl rfl h_X8_allScores ⟨Nat.le_of_ble_eq_true rfl, Nat.le_of_ble_eq_true rfl⟩) hK hP rfl rfl rfl hl.1 rfl (Nat.le_of_ble_eq_true rfl) dX8_claim_78 ⟨Nat.zero_le _, Nat.zero_le _⟩ ?_
    refine lv_lconst (v := 0) (pc := 81) hx hb dX8_claim_81 (by decide) ?_
    refine W.lcmp (pc := 82) hx hb dX8_claim_82 ?_
    refine lv_if_ne (tgt := 92) (pc := 83) hx hb dX8_claim_83 (by decide) (fun c83 => ?_) (fun c83 => ?_)
    · have hf := ff hf c83
      refine lv_aload_n (pc := 92) hx hb dX8_claim_92 rfl (lv_at hl 0 rfl) ?_
      refine va_get (D := g.1) (ci := 8) (v := .int (S8.1 5)) (C := RX8) (T := TX8) (N := 47) (pc := 93) hx hb hts (fun _ h => List.mem_cons_of_mem _ (List.mem_append_right _ h)) hown hK hP 0 rfl rfl 5 (by decide) (hts _ q_X8_claim_0) (fun _ h9 => h9) rfl dX8_claim_93 ?_
      refine lv_aload_n (pc := 96) hx hb dX8_claim_96 rfl (lv_at hl 0 rfl) ?_
      refine va_get (D := g.1) (ci := 8) (v := .int (S8.1 39)) (C := RX8) (T := TX8) (N := 47) (pc := 97) hx hb hts (fun _ h => List.mem_cons_of_mem _ (List.mem_append_right _ h)) hown hK hP 0 rfl rfl 39 (by decide) (hts _ q_X8_claim_1) (fun _ h9 => h9) rfl dX8_claim_97 ?_
      refine lv_isub (pc := 100) hx hb dX8_claim_100 ?_
      refine lv_istore_n (lv' := [(2, .int ((S8.1 5) - (S8.1 39))), (0, .ref (g.2.2.1 8)), (1, .int x1)]) (pc := 101) hx hb dX8_claim_101 rfl hl (by decide) rfl (fun ls hl => ?_)
      refine lv_iload_n (pc := 102) hx hb dX8_claim_102 rfl (lv_at hl 0 rfl) ?_
      refine lv_aload_n (pc := 103) hx hb dX8_claim_103 rfl (lv_at hl 1 rfl) ?_
      refine va_get (D := g.1) (ci := 8) (v := .ref (g.2.2.2 8 44)) (C := RX8) (T := TX8) (N := 47) (pc := 104) hx hb hts (fun _ h => List.mem_cons_of_mem _ (List.mem_append_right _ h)) hown hK hP 0 rfl rfl 44 (by decide) (hts _ q_X8_claim_2) (fun _ h9 => h9) rfl dX8_claim_104 ?_
      refine lv_iload_n (pc := 107) hx hb dX8_claim_107 rfl (lv_at hl 2 rfl) ?_
      obtain ⟨b108, hf⟩ := gdE hf
      refine va_iald (D := g.1) (tys := tyl g) (f := (S8.2.2 44)) (pc := 108) hx hb hK hP 29 0 rfl rfl (inbV b108) dX8_claim_108 ?_
      refine lv_icmp_le (tgt := 114) (pc := 109) hx hb dX8_claim_109 (by decide) (fun c109 => ?_) (fun c109 => ?_)
      · have hf := ft hf c109
        refine lv_aload_n (pc := 114) hx hb dX8_claim_114 rfl (lv_at hl 1 rfl) ?_
        refine lv_aload_n (pc := 115) hx hb dX8_claim_115 rfl (lv_at hl 1 rfl) ?_
        refine va_get (D := g.1) (ci := 8) (v := .int (S8.1 41)) (C := RX8) (T := TX8) (N := 47) (pc := 116) hx hb hts (fun _ h => List.mem_cons_of_mem _ (List.mem_append_right _ h)) hown hK hP 0 rfl rfl 41 (by decide) (hts _ q_X8_claim_3) (fun _ h9 => h9) rfl dX8_claim_116 ?_
        obtain ⟨r119, e119, hf⟩ := bdE hf
        refine krL (g := g) (wc := (wd_8 g S8)) (pc := 119) (As := [.int (S8.1 41)]) (rest := []) ⟨hx, hb, hml, hown, hts⟩ (c_X8_scoreOf l g N S8 (S8.1 41) r119 e119) (cwV 1 hts gX8_claim_X8_scoreOf rfl rfl rfl h_X8_scoreOf ⟨Nat.le_of_ble_eq_true rfl, Nat.le_of_ble_eq_true rfl⟩) hK hP rfl rfl rfl hl.1 rfl (Nat.le_of_ble_eq_true rfl) dX8_claim_119 ⟨Nat.zero_le _, Nat.zero_le _⟩ ?_
        refine lv_ldc2 (v := 100) (pc := 122) hx hb hown (hts _ q_X8_claim_4) dX8_claim_122 ?_
        refine lv_lmul (pc := 125) hx hb dX8_claim_125 ?_
        refine lv_aload_n (pc := 126) hx hb dX8_claim_126 rfl (lv_at hl 1 rfl) ?_
        refine va_get (D := g.1) (ci := 8) (v := .ref (g.2.2.2 8 45)) (C := RX8) (T := TX8) (N := 47) (pc := 127) hx hb hts (fun _ h => List.mem_cons_of_mem _ (List.mem_append_right _ h)) hown hK hP 0 rfl rfl 45 (by decide) (hts _ q_X8_claim_5) (fun _ h9 => h9) rfl dX8_claim_127 ?_
        refine lv_iload_n (pc := 130) hx hb dX8_claim_130 rfl (lv_at hl 2 rfl) ?_
        obtain ⟨b131, hf⟩ := gdE hf
        refine va_iald (D := g.1) (tys := tyl g) (f := (S8.2.2 45)) (pc := 131) hx hb hK hP 30 0 rfl rfl (inbV b131) dX8_claim_131 ?_
        refine lv_i2l (pc := 132) hx hb dX8_claim_132 rfl ?_
        refine lv_aload_n (pc := 133) hx hb dX8_claim_133 rfl (lv_at hl 1 rfl) ?_
        obtain ⟨r134, e134, hf⟩ := bdE hf
        refine krL (g := g) (wc := (wd_8 g S8)) (pc := 134) (As := []) (rest := [.long (Int32.toInt64 ((S8.2.2 45) (Int32.toNatClampNeg x1))), .long (r119 * 100)]) ⟨hx, hb, hml, hown, hts⟩ (c_X8_allScores l g N S8 r134 e134) (cwV 0 hts gX8_claim_X8_allScores rfl rfl rfl h_X8_allScores ⟨Nat.le_of_ble_eq_true rfl, Nat.le_of_ble_eq_true rfl⟩) hK hP rfl rfl rfl hl.1 rfl (Nat.le_of_ble_eq_true rfl) dX8_claim_134 ⟨Nat.zero_le _, Nat.zero_le _⟩ ?_
        refine lv_lmul (pc := 137) hx hb dX8_claim_137 ?_
        refine W.lcmp (pc := 138) hx hb dX8_claim_138 ?_
        refine lv_if_lt (tgt := 144) (pc := 139) hx hb dX8_claim_139 (by decide) (fun c139 => ?_) (fun c139 => ?_)
        · have hf := ft hf c139
          refine lv_aload_n (pc := 144) hx hb dX8_claim_144 rfl (lv_at hl 1 rfl) ?_
          refine va_get (D := g.1) (ci := 8) (v := .int (S8.1 40)) (C := RX8) (T := TX8) (N := 47) (pc := 145) hx hb hts (fun _ h => List.mem_cons_of_mem _ (List.mem_append_right _ h)) hown hK hP 0 rfl rfl 40 (by decide) (hts _ q_X8_claim_6) (fun _ h9 => h9) rfl dX8_claim_145 ?_
          refine lv_i2l (pc := 148) hx hb dX8_claim_148 rfl ?_
          refine lv_aload_n (pc := 149) hx hb dX8_claim_149 rfl (lv_at hl 1 rfl) ?_
          refine va_get (D := g.1) (ci := 8) (v := .ref (g.2.2.2 8 46)) (C := RX8) (T := TX8) (N := 47) (pc := 150) hx hb hts (fun _ h => List.mem_cons_of_mem _ (List.mem_append_right _ h)) hown hK hP 0 rfl rfl 46 (by decide) (hts _ q_X8_claim_7) (fun _ h9 => h9) rfl dX8_claim_150 ?_
          refine lv_iload_n (pc := 153) hx hb dX8_claim_153 rfl (lv_at hl 2 rfl) ?_
          obtain ⟨b154, hf⟩ := gdE hf
          refine va_iald (D := g.1) (tys := tyl g) (f := (S8.2.2 46)) (pc := 154) hx hb hK hP 31 0 rfl rfl (inbV b154) dX8_claim_154 ?_
          refine lv_i2l (pc := 155) hx hb dX8_claim_155 rfl ?_
          refine lv_lmul (pc := 156) hx hb dX8_claim_156 ?_
          refine lv_iload_n (pc := 157) hx hb dX8_claim_157 rfl (lv_at hl 0 rfl) ?_
          refine lv_i2l (pc := 158) hx hb dX8_claim_158 rfl ?_
          refine lv_lmul (pc := 159) hx hb dX8_claim_159 ?_
          refine lv_ldc2 (v := 36500) (pc := 160) hx hb hown (hts _ q_X8_claim_8) dX8_claim_160 ?_
          obtain ⟨z163, hf⟩ := nzE hf
          refine lv_ldiv (pc := 163) hx hb dX8_claim_163 z163 ?_
          refine lv_lstore_n (lv' := [(3, .long ((((Int32.toInt64 (S8.1 40)) * (Int32.toInt64 ((S8.2.2 46) (Int32.toNatClampNeg x1)))) * (Int32.toInt64 ((S8.1 5) - (S8.1 39)))) / 36500)), (2, .int ((S8.1 5) - (S8.1 39))), (0, .ref (g.2.2.1 8)), (1, .int x1)]) (pc := 164) hx hb dX8_claim_164 rfl hl (by decide) rfl (fun ls hl => ?_)
          refine lv_aload_n (pc := 165) hx hb dX8_claim_165 rfl (lv_at hl 2 rfl) ?_
          refine lv_aload_n (pc := 166) hx hb dX8_claim_166 rfl (lv_at hl 2 rfl) ?_
          refine va_get (D := g.1) (ci := 8) (v := .int (S8.1 40)) (C := RX8) (T := TX8) (N := 47) (pc := 167) hx hb hts (fun _ h => List.mem_cons_of_mem _ (List.mem_append_right _ h)) hown hK hP 0 rfl rfl 40 (by decide) (hts _ q_X8_claim_6) (fun _ h9 => h9) rfl dX8_claim_167 ?_
          refine lv_i2l (pc := 170) hx hb dX8_claim_170 rfl ?_
          refine lv_lload_n (pc := 171) hx hb dX8_claim_171 rfl (lv_at hl 0 rfl) ?_
          refine lv_ladd (pc := 172) hx hb dX8_claim_172 ?_
          refine lv_l2i (pc := 173) hx hb dX8_claim_173 rfl ?_
          refine lv_iconst (v := 1) (pc := 174) hx hb dX8_claim_174 (by decide) ?_
          obtain ⟨r175, e175, hf⟩ := bdE hf
          refine kuI (g := g) (A := A) (W0 := (wd_8 g S8)) (w1 := (wd_8 g (r175.2))) (pc := 175) (As := [.int (Int64.toInt32 ((Int32.toInt64 (S8.1 40)) + ((((Int32.toInt64 (S8.1 40)) * (Int32.toInt64 ((S8.2.2 46) (Int32.toNatClampNeg x1)))) * (Int32.toInt64 ((S8.1 5) - (S8.1 39)))) / 36500))), .int 1]) (rest := []) ⟨hx, hb, hml, hown, hts⟩ hK hA hP hD hS (c_X8_tells l g N H.size S8 (Int64.toInt32 ((Int32.toInt64 (S8.1 40)) + ((((Int32.toInt64 (S8.1 40)) * (Int32.toInt64 ((S8.2.2 46) (Int32.toNatClampNeg x1)))) * (Int32.toInt64 ((S8.1 5) - (S8.1 39)))) / 36500))) 1 r175 e175) (cwV 2 hts gX8_claim_X8_tells rfl rfl rfl h_X8_tells ⟨Nat.le_of_ble_eq_true rfl, Nat.le_of_ble_eq_true rfl⟩) rfl rfl rfl hl.1 rfl (Nat.le_of_ble_eq_true rfl) dX8_claim_175 ⟨Nat.zero_le _, Nat.zero_le _⟩ (fun H locs hP hD hS => ?_)
          have hf := Option.some.inj hf
          subst hf
          exact W.iret (v := (r175.1)) hx hb hr (fun t ht hW => ⟨⟨_, (), rfl, rfl, by rw [ht]; exact hP, va_K.moved hW.alike hK, hD⟩, hS.F ht⟩) hS.2.2 dX8_claim_178
        · have hf := ff hf c139
          refine lv_iconst (v := 3) (pc := 142) hx hb dX8_claim_142 (by decide) ?_
          have hf := Option.some.inj hf
          subst hf
          exact W.iret (v := 3) hx hb hr (fun t ht hW => ⟨⟨_, (), rfl, rfl, by rw [ht]; exact hP, va_K.moved hW.alike hK, hD⟩, hS.F ht⟩) hS.2.2 dX8_claim_143
      · have hf := ff hf c109
        refine lv_iconst (v := 2) (pc := 112) hx hb dX8_claim_112 (by decide) ?_
        have hf := Option.some.inj hf
        subst hf
        exact W.iret (v := 2) hx hb hr (fun t ht hW => ⟨⟨_, (), rfl, rfl, by rw [ht]; exact hP, va_K.moved hW.alike hK, hD⟩, hS.F ht⟩) hS.2.2 dX8_claim_113
    · have hf := ft hf c83
      refine lv_aload_n (pc := 86) hx hb dX8_claim_86 rfl (lv_at hl 0 rfl) ?_
      refine lv_iconst (v := 4) (pc := 87) hx hb dX8_claim_87 (by decide) ?_
      obtain ⟨r88, e88, hf⟩ := bdE hf
      refine kuI (g := g) (A := A) (W0 := (wd_8 g S8)) (w1 := (wd_8 g (r88.2))) (pc := 88) (As := [.int 4]) (rest := []) ⟨hx, hb, hml, hown, hts⟩ hK hA hP hD hS (c_X8_meets l g N H.size S8 4 r88 e88) (cwV 1 hts gX8_claim_X8_meets rfl rfl rfl h_X8_meets ⟨Nat.le_of_ble_eq_true rfl, Nat.le_of_ble_eq_true rfl⟩) rfl rfl rfl hl.1 rfl (Nat.le_of_ble_eq_true rfl) dX8_claim_88 ⟨Nat.zero_le _, Nat.zero_le _⟩ (fun H locs hP hD hS => ?_)
      have hf := Option.some.inj hf
      subst hf
      exact W.iret (v := (r88.1)) hx hb hr (fun t ht hW => ⟨⟨_, (), rfl, rfl, by rw [ht]; exact hP, va_K.moved hW.alike hK, hD⟩, hS.F ht⟩) hS.2.2 dX8_claim_91
  · have hf := ft hf c71
    refine lv_bipush (v := (-4)) (pc := 74) hx hb dX8_claim_74 (by decide) ?_
    have hf := Option.some.inj hf
    subst hf
    exact W.iret (v := (-4)) hx hb hr (fun t ht hW => ⟨⟨_, (), rfl, rfl, by rw [ht]; exact hP, va_K.moved hW.alike hK, hD⟩, hS.F ht⟩) hS.2.2 dX8_claim_76
set_option maxHeartbeats 4000000 in
set_option maxRecDepth 100000 in
theorem w_X8_claim_5_b {p : Program} {l : Launch} {e : Env} {s : State} {m : MethodId} {args : Array Value} {below : List Frame} {meth : Method} {c : Code} {g : En} {A : Nat → Prop} {N : Nat} {res : Int32 × St} (C : cxw g A cX8_claim 5 (some .int) wsX8_claim RX8 p s m args meth c) (k5 : St → Int32 → Int32 → Option (Int32 × St)) (H5 : ∀ (H : Heap) (locs : List Loc) (S8 : St) (ls : Array Slot) (x1 : Int32) (x2 : Int32), va_P g.1 vwCl (wd_8 g S8) H → va_D A (wd_8 g S8) → va_S A s.heap H locs → lv_has ls 5 [(0, .ref (g.2.2.1 8)), (1, .int x1), (2, .int x2)] → k5 S8 x1 x2 = some res → W p l e (headSpec wsX8_claim { frames := 2, cells := 0, slots := 0, locals := 45 }).room s m args below meth c H locs 0 0 (MQ below (rwQi g (wd_8 g (res.2)) A (res.1)) args s 0 0 A) (F0 m 5 ls [])) : ∀ (H : Heap) (locs : List Loc) (S8 : St) (ls : Array Slot) (x1 : Int32) (x2 : Int32), va_P g.1 vwCl (wd_8 g S8) H → va_D A (wd_8 g S8) → va_S A s.heap H locs → lv_has ls 5 [(0, .ref (g.2.2.1 8)), (1, .int x1), (2, .int x2)] → f_X8_claim_5_b N   k5 S8 x1 x2 = some res → W p l e (headSpec wsX8_claim { frames := 2, cells := 0, slots := 0, locals := 45 }).room s m args below meth c H locs 0 0 (MQ below (rwQi g (wd_8 g (res.2)) A (res.1)) args s 0 0 A) (F0 m 5 ls []) := by
  intro H locs S8 ls x1 x2 hP hD hS hl hf
  obtain ⟨⟨hx, hb, hr, hml, hown, hts, hlk⟩, hK, hA⟩ := id C
  unfold f_X8_claim_5_b at hf
  refine lv_iload_n (pc := 5) hx hb dX8_claim_5 rfl (lv_at hl 2 rfl) ?_
  refine lv_aload_n (pc := 6) hx hb dX8_claim_6 rfl (lv_at hl 0 rfl) ?_
  refine va_get (D := g.1) (ci := 8) (v := .int (S8.1 42)) (C := RX8) (T := TX8) (N := 47) (pc := 7) hx hb hts (fun _ h => List.mem_cons_of_mem _ (List.mem_append_right _ h)) hown hK hP 0 rfl rfl 42 (by decide) (hts _ q_X8_claim_9) (fun _ h9 => h9) rfl dX8_claim_7 ?_
  refine lv_icmp_ge (tgt := 68) (pc := 10) hx hb dX8_claim_10 (by decide) (fun c10 => ?_) (fun c10 => ?_)
  · have hf := ft hf c10
    exact w_X8_claim_68 C  H locs S8 ls x1 hP hD hS (lv_sub hl [0, 1] rfl) hf
  · have hf := ff hf c10
    refine lv_aload_n (pc := 13) hx hb dX8_claim_13 rfl (lv_at hl 0 rfl) ?_
    refine va_get (D := g.1) (ci := 8) (v := .int (S8.1 39)) (C := RX8) (T := TX8) (N := 47) (pc := 14) hx hb hts (fun _ h => List.mem_cons_of_mem _ (List.mem_append_right _ h)) hown hK hP 0 rfl rfl 39 (by decide) (hts _ q_X8_claim_1) (fun _ h9 => h9) rfl dX8_claim_14 ?_
    refine lv_bipush (v := (-9)) (pc := 17) hx hb dX8_claim_17 (by decide) ?_
    refine lv_icmp_eq (tgt := 68) (pc := 19) hx hb dX8_claim_19 (by decide) (fun c19 => ?_) (fun c19 => ?_)
    · have hf := ft hf c19
      exact w_X8_claim_68 C  H locs S8 ls x1 hP hD hS (lv_sub hl [0, 1] rfl) hf
    · have hf := ff hf c19
      refine lv_aload_n (pc := 22) hx hb dX8_claim_22 rfl (lv_at hl 0 rfl) ?_
      refine va_get (D := g.1) (ci := 8) (v := .ref (g.2.2.2 8 43)) (C := RX8) (T := TX8) (N := 47) (pc := 23) hx hb hts (fun _ h => List.mem_cons_of_mem _ (List.mem_append_right _ h)) hown hK hP 0 rfl rfl 43 (by decide) (hts _ q_X8_claim_10) (fun _ h9 => h9) rfl dX8_claim_23 ?_
      refine lv_iload_n (pc := 26) hx hb dX8_claim_26 rfl (lv_at hl 2 rfl) ?_
      obtain ⟨b27, hf⟩ := gdE hf
      refine va_iald (D := g.1) (tys := tyl g) (f := (S8.2.2 43)) (pc := 27) hx hb hK hP 28 0 rfl rfl (inbV b27) dX8_claim_27 ?_
      refine lv_aload_n (pc := 28) hx hb dX8_claim_28 rfl (lv_at hl 0 rfl) ?_
      refine va_get (D := g.1) (ci := 8) (v := .int (S8.1 39)) (C := RX8) (T := TX8) (N := 47) (pc := 29) hx hb hts (fun _ h => List.mem_cons_of_mem _ (List.mem_append_right _ h)) hown hK hP 0 rfl rfl 39 (by decide) (hts _ q_X8_claim_1) (fun _ h9 => h9) rfl dX8_claim_29 ?_
      refine lv_icmp_gt (tgt := 60) (pc := 32) hx hb dX8_claim_32 (by decide) (fun c32 => ?_) (fun c32 => ?_)
      · have hf := ft hf c32
        exact w_X8_claim_60 C k5 H5 H locs S8 ls x1 x2 hP hD hS (lv_sub hl [0, 1, 2] rfl) hf
      · have hf := ff hf c32
        refine lv_iload_n (pc := 35) hx hb dX8_claim_35 rfl (lv_at hl 1 rfl) ?_
        refine lv_bipush (v := (-9)) (pc := 36) hx hb dX8_claim_36 (by decide) ?_
        refine lv_icmp_eq (tgt := 56) (pc := 38) hx hb dX8_claim_38 (by decide) (fun c38 => ?_) (fun c38 => ?_)
        · have hf := ft hf c38
          exact w_X8_claim_56 C k5 H5 H locs S8 ls x2 hP hD hS (lv_sub hl [0, 2] rfl) hf
        · have hf := ff hf c38
          refine lv_aload_n (pc := 41) hx hb dX8_claim_41 rfl (lv_at hl 0 rfl) ?_
          refine va_get (D := g.1) (ci := 8) (v := .ref (g.2.2.2 8 43)) (C := RX8) (T := TX8) (N := 47) (pc := 42) hx hb hts (fun _ h => List.mem_cons_of_mem _ (List.mem_append_right _ h)) hown hK hP 0 rfl rfl 43 (by decide) (hts _ q_X8_claim_10) (fun _ h9 => h9) rfl dX8_claim_42 ?_
          refine lv_iload_n (pc := 45) hx hb dX8_claim_45 rfl (lv_at hl 2 rfl) ?_
          obtain ⟨b46, hf⟩ := gdE hf
          refine va_iald (D := g.1) (tys := tyl g) (f := (S8.2.2 43)) (pc := 46) hx hb hK hP 28 0 rfl rfl (inbV b46) dX8_claim_46 ?_
          refine lv_aload_n (pc := 47) hx hb dX8_claim_47 rfl (lv_at hl 0 rfl) ?_
          refine va_get (D := g.1) (ci := 8) (v := .ref (g.2.2.2 8 43)) (C := RX8) (T := TX8) (N := 47) (pc := 48) hx hb hts (fun _ h => List.mem_cons_of_mem _ (List.mem_append_right _ h)) hown hK hP 0 rfl rfl 43 (by decide) (hts _ q_X8_claim_10) (fun _ h9 => h9) rfl dX8_claim_48 ?_
          refine lv_iload_n (pc := 51) hx hb dX8_claim_51 rfl (lv_at hl 1 rfl) ?_
          obtain ⟨b52, hf⟩ := gdE hf
          refine va_iald (D := g.1) (tys := tyl g) (f := (S8.2.2 43)) (pc := 52) hx hb hK hP 28 0 rfl rfl (inbV b52) dX8_claim_52 ?_
          refine lv_icmp_lt (tgt := 60) (pc := 53) hx hb dX8_claim_53 (by decide) (fun c53 => ?_) (fun c53 => ?_)
          · have hf := ft hf c53
            exact w_X8_claim_60 C k5 H5 H locs S8 ls x1 x2 hP hD hS (lv_sub hl [0, 1, 2] rfl) hf
          · have hf := ff hf c53
            exact w_X8_claim_56 C k5 H5 H locs S8 ls x2 hP hD hS (lv_sub hl [0, 2] rfl) hf
set_option maxHeartbeats 4000000 in
set_option maxRecDepth 100000 in
theorem w_X8_claim_5 {p : Program} {l : Launch} {e : Env} {s : State} {m : MethodId} {args : Array Value} {below : List Frame} {meth : Method} {c : Code} {g : En} {A : Nat → Prop} {N : Nat} {res : Int32 × St} (C : cxw g A cX8_claim 5 (some .int) wsX8_claim RX8 p s m args meth c) : ∀ (n : Nat), ∀ (H : Heap) (locs : List Loc) (S8 : St) (ls : Array Slot) (x1 : Int32) (x2 : Int32), va_P g.1 vwCl (wd_8 g S8) H → va_D A (wd_8 g S8) → va_S A s.heap H locs → lv_has ls 5 [(0, .ref (g.2.2.1 8)), (1, .int x1), (2, .int x2)] → f_X8_claim_5 N   n S8 x1 x2 = some res → W p l e (headSpec wsX8_claim { frames := 2, cells := 0, slots := 0, locals := 45 }).room s m args below meth c H locs 0 0 (MQ below (rwQi g (wd_8 g (res.2)) A (res.1)) args s 0 0 A) (F0 m 5 ls []) := by
  intro n
  induction n with
  | zero =>
    intro H locs S8 ls x1 x2 hP hD hS hl hf
    have hf : (none : Option (Int32 × St)) = some res := hf
    cases hf
  | succ n ih =>
    intro H locs S8 ls x1 x2 hP hD hS hl hf
    exact w_X8_claim_5_b C  (fun y0 y1 y2 => f_X8_claim_5 N   n y0 y1 y2) ih H locs S8 ls x1 x2 hP hD hS hl hf
set_option maxHeartbeats 4000000 in
set_option maxRecDepth 100000 in
theorem c_X8_claim (l : Launch) (g : En) (N : Nat) (sz : Nat) (S8 : St) (res : Int32 × St) (hf : f_X8_claim N S8 = some res) : Met l yX8_claim wsX8_claim { frames := 2, cells := 0, slots := 0, locals := 45 } (rwP g (wd_8 g S8) sz [.ref (g.2.2.1 8)]) (rwQi g (wd_8 g (res.2)) (va_A (wd_8 g S8) sz) (res.1)) 0 0 (va_A (wd_8 g S8) sz) := by
  refine Met.ofW (cc := cX8_claim) (maxL := 5) (ret := (some .int)) (by decide) rfl ?_
  intro p e s m args below meth c s₁ B hml hv
  obtain ⟨rfl, hsz, hP, hK, hD0⟩ := hv
  have hx := B.exec
  have hb := B.bytes
  have hr := B.returns
  have hts := atoms_spec (ws := wsX8_claim) B.pre
  have hown : s.vm.findClass RX8 = some m.cls := findClass_of_methodNamed B.named
  have hlk := B.notSynchronized
  subst hsz
  have hD := hD0.self (sz := s.heap.size)
  generalize hAe : va_A (wd_8 g S8) s.heap.size = A at hD ⊢
  have hA : ∀ q : Nat, s.heap.size ≤ q → A q := fun q h => by rw [← hAe]; exact Or.inr h
  have hS : va_S A s.heap s.heap [] := va_S.rf
  have C : cxw g A cX8_claim 5 (some .int) wsX8_claim RX8 p s m ([.ref (g.2.2.1 8)] : List Value).toArray meth c := ⟨⟨hx, hb, hr, hml, hown, hts, hlk⟩, hK, hA⟩
  have hl := lv_entry [.ref (g.2.2.1 8)] (n := 5) (Nat.le_of_ble_eq_true rfl)
  rw [lg_entry_eq]
  generalize (lg_sl [.ref (g.2.2.1 8)] ++ List.replicate (5 - (lg_sl [.ref (g.2.2.1 8)]).length) Slot.unset).toArray = ls at hl ⊢
  have hl : lv_has ls 5 [(0, .ref (g.2.2.1 8))] := hl
  unfold f_X8_claim at hf
  suffices K9 : ∀ (H : Heap) (locs : List Loc), va_P g.1 vwCl (wd_8 g S8) H → va_D A (wd_8 g S8) → va_S A s.heap H locs → (f_X8_claim_5 N   N S8 (-9) 0) = some res → W p l e (headSpec wsX8_claim { frames := 2, cells := 0, slots := 0, locals := 45 }).room s m ([.ref (g.2.2.1 8)] : List Value).toArray below meth c H locs 0 0 (MQ below (rwQi g (wd_8 g (res.2)) A (res.1)) ([.ref (g.2.2.1 8)] : List Value).toArray s 0 0 A) (F0 m 0 ls []) from K9 s.heap [] hP hD hS hf
  clear hP hD hS hf
  intro H locs hP hD hS hf
  refine lv_bipush (v := (-9)) (pc := 0) hx hb dX8_claim_0 (by decide) ?_
  refine lv_istore_n (lv' := [(1, .int (-9)), (0, .ref (g.2.2.1 8))]) (pc := 2) hx hb dX8_claim_2 rfl hl (by decide) rfl (fun ls hl => ?_)
  refine lv_iconst (v := 0) (pc := 3) hx hb dX8_claim_3 (by decide) ?_
  refine lv_istore_n (lv' := [(2, .int 0), (1, .int (-9)), (0, .ref (g.2.2.1 8))]) (pc := 4) hx hb dX8_claim_4 rfl hl (by decide) rfl (fun ls hl => ?_)
  exact w_X8_claim_5 C  N H locs S8 ls (-9) 0 hP hD hS (lv_sub hl [2, 1, 0] rfl) hf
theorem q_X8_tellsCount_0 : (.fieldLink RX8 198 "PictureCourtModel" "tests" "I" : Cond) ∈ wsX8_tellsCount := by decide +kernel
theorem q_X8_tellsCount_1 : (.fieldLink RX8 68 "PictureCourtModel" "testOut" "[I" : Cond) ∈ wsX8_tellsCount := by decide +kernel
theorem q_X8_tellsCount_2 : (.fieldLink RX8 167 "PictureCourtModel" "proofs" "I" : Cond) ∈ wsX8_tellsCount := by decide +kernel
theorem q_X8_tellsCount_3 : (.fieldLink RX8 35 "PictureCourtModel" "struckOn" "[I" : Cond) ∈ wsX8_tellsCount := by decide +kernel
theorem q_X8_tellsCount_4 : (.fieldLink RX8 135 "PictureCourtModel" "today" "I" : Cond) ∈ wsX8_tellsCount := by decide +kernel
theorem q_X8_tellsCount_5 : (.fieldLink RX8 230 "PictureCourtModel" "owners" "I" : Cond) ∈ wsX8_tellsCount := by decide +kernel
theorem q_X8_tellsCount_6 : (.fieldLink RX8 233 "PictureCourtModel" "opinions" "I" : Cond) ∈ wsX8_tellsCount := by decide +kernel
theorem q_X8_tellsCount_7 : (.fieldLink RX8 243 "PictureCourtModel" "laws" "I" : Cond) ∈ wsX8_tellsCount := by decide +kernel
theorem h_X8_tellsCount : yX8_tellsCount.cls = RX8 ∧ yX8_tellsCount.cls ≠ "java/lang/invoke/MethodHandle" ∧ yX8_tellsCount.cls ≠ "java/lang/invoke/VarHandle" ∧ (parseMethodDescriptor yX8_tellsCount.desc).map (fun d => d.parameters.length) = some 1 := by decide +kernel
set_option maxHeartbeats 4000000 in
set_option maxRecDepth 100000 in
theorem w_X8_tellsCount_123 {p : Program} {l : Launch} {e : Env} {s : State} {m : MethodId} {args : Array Value} {below : List Frame} {meth : Method} {c : Code} {g : En} {N : Nat} {S8 : St} {res : Int32} (C : cxr g (wd_8 g S8) cX8_tellsCount 4 (some .int) wsX8_tellsCount RX8 p s m args meth c) (k98 : Int32 → Int32 → Option (Int32)) (H98 : ∀ (ls : Array Slot) (x2 : Int32) (x3 : Int32), lv_has ls 4 [(0, .ref (g.2.2.1 8)), (2, .int x2), (3, .int x3)] → k98 x2 x3 = some res → W p l e (headSpec wsX8_tellsCount { frames := 0, cells := 0, slots := 0, locals := 0 }).room s m args below meth c s.heap [] 0 0 (MQ below (vp_Si (fun r => r = res)) args s 0 0 (fun _ => False)) (F0 m 98 ls [])) : ∀ (ls : Array Slot) (x3 : Int32) (t0 : Int32) (t1 : Int32), lv_has ls 4 [(0, .ref (g.2.2.1 8)), (3, .int x3)] → f_X8_tellsCount_123 N S8 k98 x3 t0 t1 = some res → W p l e (headSpec wsX8_tellsCount { frames := 0, cells := 0, slots := 0, locals := 0 }).room s m args below meth c s.heap [] 0 0 (MQ below (vp_Si (fun r => r = res)) args s 0 0 (fun _ => False)) (F0 m 123 ls [.int t0, .int t1]) := by
  intro ls x3 t0 t1 hl hf
  obtain ⟨⟨hx, hb, hr, hml, hown, hts, hlk⟩, hK, hP⟩ := id C
  unfold f_X8_tellsCount_123 at hf
  refine lv_iadd (pc := 123) hx hb dX8_tellsCount_123 ?_
  refine lv_istore_n (lv' := [(2, .int (t1 + t0)), (0, .ref (g.2.2.1 8)), (3, .int x3)]) (pc := 124) hx hb dX8_tellsCount_124 rfl hl (by decide) rfl (fun ls hl => ?_)
  refine lv_iinc (v := (x3 + 1)) (lv' := [(3, .int (x3 + 1)), (2, .int (t1 + t0)), (0, .ref (g.2.2.1 8))]) (pc := 125) hx hb dX8_tellsCount_125 hl (k := 2) rfl rfl (by decide) rfl (fun ls hl => ?_)
  refine lv_goto (tgt := 98) (pc := 128) hx hb dX8_tellsCount_128 (by decide) ?_
  exact H98 ls (t1 + t0) (x3 + 1) (lv_sub hl [2, 1, 0] rfl) hf
set_option maxHeartbeats 4000000 in
set_option maxRecDepth 100000 in
theorem w_X8_tellsCount_98_b {p : Program} {l : Launch} {e : Env} {s : State} {m : MethodId} {args : Array Value} {below : List Frame} {meth : Method} {c : Code} {g : En} {N : Nat} {S8 : St} {res : Int32} (C : cxr g (wd_8 g S8) cX8_tellsCount 4 (some .int) wsX8_tellsCount RX8 p s m args meth c) (k98 : Int32 → Int32 → Option (Int32)) (H98 : ∀ (ls : Array Slot) (x2 : Int32) (x3 : Int32), lv_has ls 4 [(0, .ref (g.2.2.1 8)), (2, .int x2), (3, .int x3)] → k98 x2 x3 = some res → W p l e (headSpec wsX8_tellsCount { frames := 0, cells := 0, slots := 0, locals := 0 }).room s m args below meth c s.heap [] 0 0 (MQ below (vp_Si (fun r => r = res)) args s 0 0 (fun _ => False)) (F0 m 98 ls [])) : ∀ (ls : Array Slot) (x2 : Int32) (x3 : Int32), lv_has ls 4 [(0, .ref (g.2.2.1 8)), (2, .int x2), (3, .int x3)] → f_X8_tellsCount_98_b N S8  k98 x2 x3 = some res → W p l e (headSpec wsX8_tellsCount { frames := 0, cells := 0, slots := 0, locals := 0 }).room s m args below meth c s.heap [] 0 0 (MQ below (vp_Si (fun r => r = res)) args s 0 0 (fun _ => False)) (F0 m 98 ls []) := by
  intro ls x2 x3 hl hf
  obtain ⟨⟨hx, hb, hr, hml, hown, hts, hlk⟩, hK, hP⟩ := id C
  unfold f_X8_tellsCount_98_b at hf
  refine lv_iload_n (pc := 98) hx hb dX8_tellsCount_98 rfl (lv_at hl 2 rfl) ?_
  refine lv_aload_n (pc := 99) hx hb dX8_tellsCount_99 rfl (lv_at hl 0 rfl) ?_
  refine va_get (D := g.1) (ci := 8) (v := .int (S8.1 24)) (C := RX8) (T := TX8) (N := 47) (pc := 100) hx hb hts (fun _ h => List.mem_cons_of_mem _ (List.mem_append_right _ h)) hown hK hP 0 rfl rfl 24 (by decide) (hts _ q_X8_tellsCount_0) (fun _ h9 => h9) rfl dX8_tellsCount_100 ?_
  refine lv_icmp_ge (tgt := 131) (pc := 103) hx hb dX8_tellsCount_103 (by decide) (fun c103 => ?_) (fun c103 => ?_)
  · have hf := ft hf c103
    refine lv_iload_n (pc := 131) hx hb dX8_tellsCount_131 rfl (lv_at hl 1 rfl) ?_
    have hf := Option.some.inj hf
    subst hf
    exact W.iret (v := x2) hx hb hr (fun t ht hW => ⟨_, rfl, rfl, ht⟩) (fun _ h => by cases h) dX8_tellsCount_132
  · have hf := ff hf c103
    refine lv_iload_n (pc := 106) hx hb dX8_tellsCount_106 rfl (lv_at hl 1 rfl) ?_
    refine lv_aload_n (pc := 107) hx hb dX8_tellsCount_107 rfl (lv_at hl 0 rfl) ?_
    refine va_get (D := g.1) (ci := 8) (v := .ref (g.2.2.2 8 29)) (C := RX8) (T := TX8) (N := 47) (pc := 108) hx hb hts (fun _ h => List.mem_cons_of_mem _ (List.mem_append_right _ h)) hown hK hP 0 rfl rfl 29 (by decide) (hts _ q_X8_tellsCount_1) (fun _ h9 => h9) rfl dX8_tellsCount_108 ?_
    refine lv_iload_n (pc := 111) hx hb dX8_tellsCount_111 rfl (lv_at hl 2 rfl) ?_
    obtain ⟨b112, hf⟩ := gdE hf
    refine va_iald (D := g.1) (tys := tyl g) (f := (S8.2.2 29)) (pc := 112) hx hb hK hP 20 0 rfl rfl (inbV b112) dX8_tellsCount_112 ?_
    refine lv_bipush (v := (-9)) (pc := 113) hx hb dX8_tellsCount_113 (by decide) ?_
    refine lv_icmp_ne (tgt := 122) (pc := 115) hx hb dX8_tellsCount_115 (by decide) (fun c115 => ?_) (fun c115 => ?_)
    · have hf := ff hf c115
      refine lv_iconst (v := 1) (pc := 122) hx hb dX8_tellsCount_122 (by decide) ?_
      exact w_X8_tellsCount_123 C k98 H98 ls x3 1 x2 (lv_sub hl [0, 2] rfl) hf
    · have hf := ft hf c115
      refine lv_iconst (v := 0) (pc := 118) hx hb dX8_tellsCount_118 (by decide) ?_
      refine lv_goto (tgt := 123) (pc := 119) hx hb dX8_tellsCount_119 (by decide) ?_
      exact w_X8_tellsCount_123 C k98 H98 ls x3 0 x2 (lv_sub hl [0, 2] rfl) hf
set_option maxHeartbeats 4000000 in
set_option maxRecDepth 100000 in
theorem w_X8_tellsCount_98 {p : Program} {l : Launch} {e : Env} {s : State} {m : MethodId} {args : Array Value} {below : List Frame} {meth : Method} {c : Code} {g : En} {N : Nat} {S8 : St} {res : Int32} (C : cxr g (wd_8 g S8) cX8_tellsCount 4 (some .int) wsX8_tellsCount RX8 p s m args meth c) : ∀ (n : Nat), ∀ (ls : Array Slot) (x2 : Int32) (x3 : Int32), lv_has ls 4 [(0, .ref (g.2.2.1 8)), (2, .int x2), (3, .int x3)] → f_X8_tellsCount_98 N S8  n x2 x3 = some res → W p l e (headSpec wsX8_tellsCount { frames := 0, cells := 0, slots := 0, locals := 0 }).room s m args below meth c s.heap [] 0 0 (MQ below (vp_Si (fun r => r = res)) args s 0 0 (fun _ => False)) (F0 m 98 ls []) := by
  intro n
  induction n with
  | zero =>
    intro ls x2 x3 hl hf
    have hf : (none : Option (Int32)) = some res := hf
    cases hf
  | succ n ih =>
    intro ls x2 x3 hl hf
    exact w_X8_tellsCount_98_b C  (fun y0 y1 => f_X8_tellsCount_98 N S8  n y0 y1) ih ls x2 x3 hl hf
set_option maxHeartbeats 4000000 in
set_option maxRecDepth 100000 in
theorem w_X8_tellsCount_81 {p : Program} {l : Launch} {e : Env} {s : State} {m : MethodId} {args : Array Value} {below : List Frame} {meth : Method} {c : Code} {g : En} {N : Nat} {S8 : St} {res : Int32} (C : cxr g (wd_8 g S8) cX8_tellsCount 4 (some .int) wsX8_tellsCount RX8 p s m args meth c) (k56 : Int32 → Int32 → Option (Int32)) (H56 : ∀ (ls : Array Slot) (x2 : Int32) (x3 : Int32), lv_has ls 4 [(0, .ref (g.2.2.1 8)), (2, .int x2), (3, .int x3)] → k56 x2 x3 = some res → W p l e (headSpec wsX8_tellsCount { frames := 0, cells := 0, slots := 0, locals := 0 }).room s m args below meth c s.heap [] 0 0 (MQ below (vp_Si (fun r => r = res)) args s 0 0 (fun _ => False)) (F0 m 56 ls [])) : ∀ (ls : Array Slot) (x3 : Int32) (t0 : Int32) (t1 : Int32), lv_has ls 4 [(0, .ref (g.2.2.1 8)), (3, .int x3)] → f_X8_tellsCount_81 N S8 k56 x3 t0 t1 = some res → W p l e (headSpec wsX8_tellsCount { frames := 0, cells := 0, slots := 0, locals := 0 }).room s m args below meth c s.heap [] 0 0 (MQ below (vp_Si (fun r => r = res)) args s 0 0 (fun _ => False)) (F0 m 81 ls [.int t0, .int t1]) := by
  intro ls x3 t0 t1 hl hf
  obtain ⟨⟨hx, hb, hr, hml, hown, hts, hlk⟩, hK, hP⟩ := id C
  unfold f_X8_tellsCount_81 at hf
  refine lv_iadd (pc := 81) hx hb dX8_tellsCount_81 ?_
  refine lv_istore_n (lv' := [(2, .int (t1 + t0)), (0, .ref (g.2.2.1 8)), (3, .int x3)]) (pc := 82) hx hb dX8_tellsCount_82 rfl hl (by decide) rfl (fun ls hl => ?_)
  refine lv_iinc (v := (x3 + 1)) (lv' := [(3, .int (x3 + 1)), (2, .int (t1 + t0)), (0, .ref (g.2.2.1 8))]) (pc := 83) hx hb dX8_tellsCount_83 hl (k := 2) rfl rfl (by decide) rfl (fun ls hl => ?_)
  refine lv_goto (tgt := 56) (pc := 86) hx hb dX8_tellsCount_86 (by decide) ?_
  exact H56 ls (t1 + t0) (x3 + 1) (lv_sub hl [2, 1, 0] rfl) hf
set_option maxHeartbeats 4000000 in
set_option maxRecDepth 100000 in
theorem w_X8_tellsCount_56_b {p : Program} {l : Launch} {e : Env} {s : State} {m : MethodId} {args : Array Value} {below : List Frame} {meth : Method} {c : Code} {g : En} {N : Nat} {S8 : St} {res : Int32} (C : cxr g (wd_8 g S8) cX8_tellsCount 4 (some .int) wsX8_tellsCount RX8 p s m args meth c) (k56 : Int32 → Int32 → Option (Int32)) (H56 : ∀ (ls : Array Slot) (x2 : Int32) (x3 : Int32), lv_has ls 4 [(0, .ref (g.2.2.1 8)), (2, .int x2), (3, .int x3)] → k56 x2 x3 = some res → W p l e (headSpec wsX8_tellsCount { frames := 0, cells := 0, slots := 0, locals := 0 }).room s m args below meth c s.heap [] 0 0 (MQ below (vp_Si (fun r => r = res)) args s 0 0 (fun _ => False)) (F0 m 56 ls [])) : ∀ (ls : Array Slot) (x2 : Int32) (x3 : Int32), lv_has ls 4 [(0, .ref (g.2.2.1 8)), (2, .int x2), (3, .int x3)] → f_X8_tellsCount_56_b N S8  k56 x2 x3 = some res → W p l e (headSpec wsX8_tellsCount { frames := 0, cells := 0, slots := 0, locals := 0 }).room s m args below meth c s.heap [] 0 0 (MQ below (vp_Si (fun r => r = res)) args s 0 0 (fun _ => False)) (F0 m 56 ls []) := by
  intro ls x2 x3 hl hf
  obtain ⟨⟨hx, hb, hr, hml, hown, hts, hlk⟩, hK, hP⟩ := id C
  unfold f_X8_tellsCount_56_b at hf
  refine lv_iload_n (pc := 56) hx hb dX8_tellsCount_56 rfl (lv_at hl 2 rfl) ?_
  refine lv_aload_n (pc := 57) hx hb dX8_tellsCount_57 rfl (lv_at hl 0 rfl) ?_
  refine va_get (D := g.1) (ci := 8) (v := .int (S8.1 13)) (C := RX8) (T := TX8) (N := 47) (pc := 58) hx hb hts (fun _ h => List.mem_cons_of_mem _ (List.mem_append_right _ h)) hown hK hP 0 rfl rfl 13 (by decide) (hts _ q_X8_tellsCount_2) (fun _ h9 => h9) rfl dX8_tellsCount_58 ?_
  refine lv_icmp_ge (tgt := 89) (pc := 61) hx hb dX8_tellsCount_61 (by decide) (fun c61 => ?_) (fun c61 => ?_)
  · have hf := ft hf c61
    refine lv_iload_n (pc := 89) hx hb dX8_tellsCount_89 rfl (lv_at hl 1 rfl) ?_
    have hf := Option.some.inj hf
    subst hf
    exact W.iret (v := x2) hx hb hr (fun t ht hW => ⟨_, rfl, rfl, ht⟩) (fun _ h => by cases h) dX8_tellsCount_90
  · have hf := ff hf c61
    refine lv_iload_n (pc := 64) hx hb dX8_tellsCount_64 rfl (lv_at hl 1 rfl) ?_
    refine lv_aload_n (pc := 65) hx hb dX8_tellsCount_65 rfl (lv_at hl 0 rfl) ?_
    refine va_get (D := g.1) (ci := 8) (v := .ref (g.2.2.2 8 17)) (C := RX8) (T := TX8) (N := 47) (pc := 66) hx hb hts (fun _ h => List.mem_cons_of_mem _ (List.mem_append_right _ h)) hown hK hP 0 rfl rfl 17 (by decide) (hts _ q_X8_tellsCount_3) (fun _ h9 => h9) rfl dX8_tellsCount_66 ?_
    refine lv_iload_n (pc := 69) hx hb dX8_tellsCount_69 rfl (lv_at hl 2 rfl) ?_
    obtain ⟨b70, hf⟩ := gdE hf
    refine va_iald (D := g.1) (tys := tyl g) (f := (S8.2.2 17)) (pc := 70) hx hb hK hP 9 0 rfl rfl (inbV b70) dX8_tellsCount_70 ?_
    refine lv_bipush (v := (-9)) (pc := 71) hx hb dX8_tellsCount_71 (by decide) ?_
    refine lv_icmp_ne (tgt := 80) (pc := 73) hx hb dX8_tellsCount_73 (by decide) (fun c73 => ?_) (fun c73 => ?_)
    · have hf := ff hf c73
      refine lv_iconst (v := 0) (pc := 80) hx hb dX8_tellsCount_80 (by decide) ?_
      exact w_X8_tellsCount_81 C k56 H56 ls x3 0 x2 (lv_sub hl [0, 2] rfl) hf
    · have hf := ft hf c73
      refine lv_iconst (v := 1) (pc := 76) hx hb dX8_tellsCount_76 (by decide) ?_
      refine lv_goto (tgt := 81) (pc := 77) hx hb dX8_tellsCount_77 (by decide) ?_
      exact w_X8_tellsCount_81 C k56 H56 ls x3 1 x2 (lv_sub hl [0, 2] rfl) hf
set_option maxHeartbeats 4000000 in
set_option maxRecDepth 100000 in
theorem w_X8_tellsCount_56 {p : Program} {l : Launch} {e : Env} {s : State} {m : MethodId} {args : Array Value} {below : List Frame} {meth : Method} {c : Code} {g : En} {N : Nat} {S8 : St} {res : Int32} (C : cxr g (wd_8 g S8) cX8_tellsCount 4 (some .int) wsX8_tellsCount RX8 p s m args meth c) : ∀ (n : Nat), ∀ (ls : Array Slot) (x2 : Int32) (x3 : Int32), lv_has ls 4 [(0, .ref (g.2.2.1 8)), (2, .int x2), (3, .int x3)] → f_X8_tellsCount_56 N S8  n x2 x3 = some res → W p l e (headSpec wsX8_tellsCount { frames := 0, cells := 0, slots := 0, locals := 0 }).room s m args below meth c s.heap [] 0 0 (MQ below (vp_Si (fun r => r = res)) args s 0 0 (fun _ => False)) (F0 m 56 ls []) := by
  intro n
  induction n with
  | zero =>
    intro ls x2 x3 hl hf
    have hf : (none : Option (Int32)) = some res := hf
    cases hf
  | succ n ih =>
    intro ls x2 x3 hl hf
    exact w_X8_tellsCount_56_b C  (fun y0 y1 => f_X8_tellsCount_56 N S8  n y0 y1) ih ls x2 x3 hl hf
set_option maxHeartbeats 4000000 in
set_option maxRecDepth 100000 in
theorem c_X8_tellsCount (l : Launch) (g : En) (N : Nat) (S8 : St) (x1 : Int32) (res : Int32) (hf : f_X8_tellsCount N S8 x1 = some res) : Met l yX8_tellsCount wsX8_tellsCount { frames := 0, cells := 0, slots := 0, locals := 0 } (roP g (wd_8 g S8) [.ref (g.2.2.1 8), .int x1]) (vp_Si (fun r => r = res)) 0 0 (fun _ => False) := by
  refine Met.ofW (cc := cX8_tellsCount) (maxL := 4) (ret := (some .int)) (by decide) rfl ?_
  intro p e s m args below meth c s₁ B hml hv
  obtain ⟨rfl, hP, hK⟩ := hv
  have hx := B.exec
  have hb := B.bytes
  have hr := B.returns
  have hts := atoms_spec (ws := wsX8_tellsCount) B.pre
  have hown : s.vm.findClass RX8 = some m.cls := findClass_of_methodNamed B.named
  have hlk := B.notSynchronized
  have C : cxr g (wd_8 g S8) cX8_tellsCount 4 (some .int) wsX8_tellsCount RX8 p s m ([.ref (g.2.2.1 8), .int x1] : List Value).toArray meth c := ⟨⟨hx, hb, hr, hml, hown, hts, hlk⟩, hK, hP⟩
  have hl := lv_entry [.ref (g.2.2.1 8), .int x1] (n := 4) (Nat.le_of_ble_eq_true rfl)
  rw [lg_entry_eq]
  generalize (lg_sl [.ref (g.2.2.1 8), .int x1] ++ List.replicate (4 - (lg_sl [.ref (g.2.2.1 8), .int x1]).length) Slot.unset).toArray = ls at hl ⊢
  have hl : lv_has ls 4 [(0, .ref (g.2.2.1 8)), (1, .int x1)] := hl
  unfold f_X8_tellsCount at hf
  refine lv_iconst (v := 0) (pc := 0) hx hb dX8_tellsCount_0 (by decide) ?_
  refine lv_istore_n (lv' := [(2, .int 0), (0, .ref (g.2.2.1 8)), (1, .int x1)]) (pc := 1) hx hb dX8_tellsCount_1 rfl hl (by decide) rfl (fun ls hl => ?_)
  refine lv_iload_n (pc := 2) hx hb dX8_tellsCount_2 rfl (lv_at hl 2 rfl) ?_
  by_cases c3_0 : x1 = 0
  · have hf := ft hf c3_0
    refine lv_tableIn (tgt := 44) (pc := 3) hx hb dX8_tellsCount_3 (by rw [c3_0]; decide) (by rw [c3_0]; decide) (by rw [c3_0]; rfl) (by decide) ?_
    refine lv_aload_n (pc := 44) hx hb dX8_tellsCount_44 rfl (lv_at hl 1 rfl) ?_
    refine va_get (D := g.1) (ci := 8) (v := .int (S8.1 5)) (C := RX8) (T := TX8) (N := 47) (pc := 45) hx hb hts (fun _ h => List.mem_cons_of_mem _ (List.mem_append_right _ h)) hown hK hP 0 rfl rfl 5 (by decide) (hts _ q_X8_tellsCount_4) (fun _ h9 => h9) rfl dX8_tellsCount_45 ?_
    have hf := Option.some.inj hf
    subst hf
    exact W.iret (v := (S8.1 5)) hx hb hr (fun t ht hW => ⟨_, rfl, rfl, ht⟩) (fun _ h => by cases h) dX8_tellsCount_48
  · have hf := ff hf c3_0
    by_cases c3_1 : x1 = 1
    · have hf := ft hf c3_1
      refine lv_tableIn (tgt := 49) (pc := 3) hx hb dX8_tellsCount_3 (by rw [c3_1]; decide) (by rw [c3_1]; decide) (by rw [c3_1]; rfl) (by decide) ?_
      refine lv_aload_n (pc := 49) hx hb dX8_tellsCount_49 rfl (lv_at hl 1 rfl) ?_
      refine va_get (D := g.1) (ci := 8) (v := .int (S8.1 13)) (C := RX8) (T := TX8) (N := 47) (pc := 50) hx hb hts (fun _ h => List.mem_cons_of_mem _ (List.mem_append_right _ h)) hown hK hP 0 rfl rfl 13 (by decide) (hts _ q_X8_tellsCount_2) (fun _ h9 => h9) rfl dX8_tellsCount_50 ?_
      have hf := Option.some.inj hf
      subst hf
      exact W.iret (v := (S8.1 13)) hx hb hr (fun t ht hW => ⟨_, rfl, rfl, ht⟩) (fun _ h => by cases h) dX8_tellsCount_53
    · have hf := ff hf c3_1
      by_cases c3_2 : x1 = 2
      · have hf := ft hf c3_2
        refine lv_tableIn (tgt := 54) (pc := 3) hx hb dX8_tellsCount_3 (by rw [c3_2]; decide) (by rw [c3_2]; decide) (by rw [c3_2]; rfl) (by decide) ?_
        refine lv_iconst (v := 0) (pc := 54) hx hb dX8_tellsCount_54 (by decide) ?_
        refine lv_istore_n (lv' := [(3, .int 0), (2, .int 0), (0, .ref (g.2.2.1 8)), (1, .int x1)]) (pc := 55) hx hb dX8_tellsCount_55 rfl hl (by decide) rfl (fun ls hl => ?_)
        exact w_X8_tellsCount_56 C  N ls 0 0 (lv_sub hl [2, 1, 0] rfl) hf
      · have hf := ff hf c3_2
        by_cases c3_3 : x1 = 3
        · have hf := ft hf c3_3
          refine lv_tableIn (tgt := 91) (pc := 3) hx hb dX8_tellsCount_3 (by rw [c3_3]; decide) (by rw [c3_3]; decide) (by rw [c3_3]; rfl) (by decide) ?_
          refine lv_aload_n (pc := 91) hx hb dX8_tellsCount_91 rfl (lv_at hl 1 rfl) ?_
          refine va_get (D := g.1) (ci := 8) (v := .int (S8.1 24)) (C := RX8) (T := TX8) (N := 47) (pc := 92) hx hb hts (fun _ h => List.mem_cons_of_mem _ (List.mem_append_right _ h)) hown hK hP 0 rfl rfl 24 (by decide) (hts _ q_X8_tellsCount_0) (fun _ h9 => h9) rfl dX8_tellsCount_92 ?_
          have hf := Option.some.inj hf
          subst hf
          exact W.iret (v := (S8.1 24)) hx hb hr (fun t ht hW => ⟨_, rfl, rfl, ht⟩) (fun _ h => by cases h) dX8_tellsCount_95
        · have hf := ff hf c3_3
          by_cases c3_4 : x1 = 4
          · have hf := ft hf c3_4
            refine lv_tableIn (tgt := 96) (pc := 3) hx hb dX8_tellsCount_3 (by rw [c3_4]; decide) (by rw [c3_4]; decide) (by rw [c3_4]; rfl) (by decide) ?_
            refine lv_iconst (v := 0) (pc := 96) hx hb dX8_tellsCount_96 (by decide) ?_
            refine lv_istore_n (lv' := [(3, .int 0), (2, .int 0), (0, .ref (g.2.2.1 8)), (1, .int x1)]) (pc := 97) hx hb dX8_tellsCount_97 rfl hl (by decide) rfl (fun ls hl => ?_)
            exact w_X8_tellsCount_98 C  N ls 0 0 (lv_sub hl [2, 1, 0] rfl) hf
          · have hf := ff hf c3_4
            by_cases c3_5 : x1 = 5
            · have hf := ft hf c3_5
              refine lv_tableIn (tgt := 133) (pc := 3) hx hb dX8_tellsCount_3 (by rw [c3_5]; decide) (by rw [c3_5]; decide) (by rw [c3_5]; rfl) (by decide) ?_
              refine lv_aload_n (pc := 133) hx hb dX8_tellsCount_133 rfl (lv_at hl 1 rfl) ?_
              refine va_get (D := g.1) (ci := 8) (v := .int (S8.1 31)) (C := RX8) (T := TX8) (N := 47) (pc := 134) hx hb hts (fun _ h => List.mem_cons_of_mem _ (List.mem_append_right _ h)) hown hK hP 0 rfl rfl 31 (by decide) (hts _ q_X8_tellsCount_5) (fun _ h9 => h9) rfl dX8_tellsCount_134 ?_
              have hf := Option.some.inj hf
              subst hf
              exact W.iret (v := (S8.1 31)) hx hb hr (fun t ht hW => ⟨_, rfl, rfl, ht⟩) (fun _ h => by cases h) dX8_tellsCount_137
            · have hf := ff hf c3_5
              by_cases c3_6 : x1 = 6
              · have hf := ft hf c3_6
                refine lv_tableIn (tgt := 138) (pc := 3) hx hb dX8_tellsCount_3 (by rw [c3_6]; decide) (by rw [c3_6]; decide) (by rw [c3_6]; rfl) (by decide) ?_
                refine lv_aload_n (pc := 138) hx hb dX8_tellsCount_138 rfl (lv_at hl 1 rfl) ?_
                refine va_get (D := g.1) (ci := 8) (v := .int (S8.1 34)) (C := RX8) (T := TX8) (N := 47) (pc := 139) hx hb hts (fun _ h => List.mem_cons_of_mem _ (List.mem_append_right _ h)) hown hK hP 0 rfl rfl 34 (by decide) (hts _ q_X8_tellsCount_6) (fun _ h9 => h9) rfl dX8_tellsCount_139 ?_
                have hf := Option.some.inj hf
                subst hf
                exact W.iret (v := (S8.1 34)) hx hb hr (fun t ht hW => ⟨_, rfl, rfl, ht⟩) (fun _ h => by cases h) dX8_tellsCount_142
              · have hf := ff hf c3_6
                refine lv_tableOut (tgt := 143) (pc := 3) hx hb dX8_tellsCount_3 (swO (fun z h1 h2 => by rcases (show z = 0 ∨ z = 1 ∨ z = 2 ∨ z = 3 ∨ z = 4 ∨ z = 5 ∨ z = 6 by omega) with rfl | rfl | rfl | rfl | rfl | rfl | rfl <;> first | exact swN c3_0 rfl | exact swN c3_1 rfl | exact swN c3_2 rfl | exact swN c3_3 rfl | exact swN c3_4 rfl | exact swN c3_5 rfl | exact swN c3_6 rfl)) (by decide) ?_
                refine lv_aload_n (pc := 143) hx hb dX8_tellsCount_143 rfl (lv_at hl 1 rfl) ?_
                refine va_get (D := g.1) (ci := 8) (v := .int (S8.1 42)) (C := RX8) (T := TX8) (N := 47) (pc := 144) hx hb hts (fun _ h => List.mem_cons_of_mem _ (List.mem_append_right _ h)) hown hK hP 0 rfl rfl 42 (by decide) (hts _ q_X8_tellsCount_7) (fun _ h9 => h9) rfl dX8_tellsCount_144 ?_
                have hf := Option.some.inj hf
                subst hf
                exact W.iret (v := (S8.1 42)) hx hb hr (fun t ht hW => ⟨_, rfl, rfl, ht⟩) (fun _ h => by cases h) dX8_tellsCount_147
theorem h_X8_count : yX8_count.cls = RX8 ∧ yX8_count.cls ≠ "java/lang/invoke/MethodHandle" ∧ yX8_count.cls ≠ "java/lang/invoke/VarHandle" ∧ (parseMethodDescriptor yX8_count.desc).map (fun d => d.parameters.length) = some 1 := by decide +kernel
set_option maxHeartbeats 4000000 in
set_option maxRecDepth 100000 in
theorem c_X8_count (l : Launch) (g : En) (N : Nat) (S8 : St) (x1 : Int32) (res : Int32) (hf : f_X8_count N S8 x1 = some res) : Met l yX8_count wsX8_count { frames := 1, cells := 0, slots := 0, locals := 23 } (roP g (wd_8 g S8) [.ref (g.2.2.1 8), .int x1]) (vp_Si (fun r => r = res)) 0 0 (fun _ => False) := by
  refine Met.ofW (cc := cX8_count) (maxL := 2) (ret := (some .int)) (by decide) rfl ?_
  intro p e s m args below meth c s₁ B hml hv
  obtain ⟨rfl, hP, hK⟩ := hv
  have hx := B.exec
  have hb := B.bytes
  have hr := B.returns
  have hts := atoms_spec (ws := wsX8_count) B.pre
  have hown : s.vm.findClass RX8 = some m.cls := findClass_of_methodNamed B.named
  have hlk := B.notSynchronized
  have C : cxr g (wd_8 g S8) cX8_count 2 (some .int) wsX8_count RX8 p s m ([.ref (g.2.2.1 8), .int x1] : List Value).toArray meth c := ⟨⟨hx, hb, hr, hml, hown, hts, hlk⟩, hK, hP⟩
  have hl := lv_entry [.ref (g.2.2.1 8), .int x1] (n := 2) (Nat.le_of_ble_eq_true rfl)
  rw [lg_entry_eq]
  generalize (lg_sl [.ref (g.2.2.1 8), .int x1] ++ List.replicate (2 - (lg_sl [.ref (g.2.2.1 8), .int x1]).length) Slot.unset).toArray = ls at hl ⊢
  have hl : lv_has ls 2 [(0, .ref (g.2.2.1 8)), (1, .int x1)] := hl
  unfold f_X8_count at hf
  refine lv_iload_n (pc := 0) hx hb dX8_count_0 rfl (lv_at hl 1 rfl) ?_
  refine lv_iconst (v := 0) (pc := 1) hx hb dX8_count_1 (by decide) ?_
  refine lv_bipush (v := 7) (pc := 2) hx hb dX8_count_2 (by decide) ?_
  obtain ⟨r4, e4, hf⟩ := bdE hf
  refine ksI (pc := 4) (As := [.int x1, .int 0, .int 7]) (rest := []) ⟨hx, hb, hml, hown, hts⟩ (c_X8_in l N x1 0 7 r4 e4) (va_cwS 3 hts gX8_count_X8_in rfl rfl rfl h_X8_in ⟨Nat.le_of_ble_eq_true rfl, Nat.le_of_ble_eq_true rfl⟩) rfl hl.1 rfl (Nat.le_of_ble_eq_true rfl) dX8_count_4 ⟨Nat.zero_le _, Nat.zero_le _⟩ ?_
  refine lv_if_eq (tgt := 18) (pc := 7) hx hb dX8_count_7 (by decide) (fun c7 => ?_) (fun c7 => ?_)
  · have hf := ft hf c7
    refine lv_iconst (v := (-1)) (pc := 18) hx hb dX8_count_18 (by decide) ?_
    have hf := Option.some.inj hf
    subst hf
    exact W.iret (v := (-1)) hx hb hr (fun t ht hW => ⟨_, rfl, rfl, ht⟩) (fun _ h => by cases h) dX8_count_19
  · have hf := ff hf c7
    refine lv_aload_n (pc := 10) hx hb dX8_count_10 rfl (lv_at hl 0 rfl) ?_
    refine lv_iload_n (pc := 11) hx hb dX8_count_11 rfl (lv_at hl 1 rfl) ?_
    obtain ⟨r12, e12, hf⟩ := bdE hf
    refine krI (g := g) (wc := (wd_8 g S8)) (pc := 12) (As := [.int x1]) (rest := []) ⟨hx, hb, hml, hown, hts⟩ (c_X8_tellsCount l g N S8 x1 r12 e12) (cwV 1 hts gX8_count_X8_tellsCount rfl rfl rfl h_X8_tellsCount ⟨Nat.le_of_ble_eq_true rfl, Nat.le_of_ble_eq_true rfl⟩) hK hP rfl rfl rfl hl.1 rfl (Nat.le_of_ble_eq_true rfl) dX8_count_12 ⟨Nat.zero_le _, Nat.zero_le _⟩ ?_
    refine lv_goto (tgt := 19) (pc := 15) hx hb dX8_count_15 (by decide) ?_
    have hf := Option.some.inj hf
    subst hf
    exact W.iret (v := r12) hx hb hr (fun t ht hW => ⟨_, rfl, rfl, ht⟩) (fun _ h => by cases h) dX8_count_19
theorem q_X8_digest_0 : (.constantLong RX8 255 31 : Cond) ∈ wsX8_digest := by decide +kernel
theorem q_X8_digest_1 : (.fieldLink RX8 68 "PictureCourtModel" "testOut" "[I" : Cond) ∈ wsX8_digest := by decide +kernel
theorem q_X8_digest_2 : (.fieldLink RX8 65 "PictureCourtModel" "testOften" "[I" : Cond) ∈ wsX8_digest := by decide +kernel
theorem q_X8_digest_3 : (.fieldLink RX8 13 "PictureCourtModel" "sizes" "[I" : Cond) ∈ wsX8_digest := by decide +kernel
theorem q_X8_digest_4 : (.fieldLink RX8 16 "PictureCourtModel" "rows" "[B" : Cond) ∈ wsX8_digest := by decide +kernel
theorem q_X8_digest_5 : (.fieldLink RX8 23 "PictureCourtModel" "paints" "[I" : Cond) ∈ wsX8_digest := by decide +kernel
theorem q_X8_digest_6 : (.fieldLink RX8 198 "PictureCourtModel" "tests" "I" : Cond) ∈ wsX8_digest := by decide +kernel
theorem q_X8_digest_7 : (.fieldLink RX8 56 "PictureCourtModel" "testCost" "[I" : Cond) ∈ wsX8_digest := by decide +kernel
theorem q_X8_digest_8 : (.fieldLink RX8 59 "PictureCourtModel" "testWound" "[I" : Cond) ∈ wsX8_digest := by decide +kernel
theorem q_X8_digest_9 : (.fieldLink RX8 62 "PictureCourtModel" "testGroup" "[I" : Cond) ∈ wsX8_digest := by decide +kernel
theorem q_X8_digest_10 : (.fieldLink RX8 53 "PictureCourtModel" "hands" "[I" : Cond) ∈ wsX8_digest := by decide +kernel
theorem q_X8_digest_11 : (.fieldLink RX8 167 "PictureCourtModel" "proofs" "I" : Cond) ∈ wsX8_digest := by decide +kernel
theorem q_X8_digest_12 : (.constantLong RX8 253 17 : Cond) ∈ wsX8_digest := by decide +kernel
theorem h_X8_digest : yX8_digest.cls = RX8 ∧ yX8_digest.cls ≠ "java/lang/invoke/MethodHandle" ∧ yX8_digest.cls ≠ "java/lang/invoke/VarHandle" ∧ (parseMethodDescriptor yX8_digest.desc).map (fun d => d.parameters.length) = some 0 := by decide +kernel
set_option maxHeartbeats 4000000 in
set_option maxRecDepth 100000 in
theorem w_X8_digest_44_b {p : Program} {l : Launch} {e : Env} {s : State} {m : MethodId} {args : Array Value} {below : List Frame} {meth : Method} {c : Code} {g : En} {N : Nat} {S8 : St} {res : Int64} (C : cxr g (wd_8 g S8) cX8_digest 5 (some .long) wsX8_digest RX8 p s m args meth c) (k33 : Int64 → Int32 → Option (Int64)) (H33 : ∀ (ls : Array Slot) (x1 : Int64) (x3 : Int32), lv_has ls 5 [(0, .ref (g.2.2.1 8)), (1, .long x1), (3, .int x3)] → k33 x1 x3 = some res → W p l e (headSpec wsX8_digest { frames := 5, cells := 0, slots := 0, locals := 119 }).room s m args below meth c s.heap [] 0 0 (MQ below (vp_Sl (fun r => r = res)) args s 0 0 (fun _ => False)) (F0 m 33 ls [])) (k44 : Int64 → Int32 → Int32 → Option (Int64)) (H44 : ∀ (ls : Array Slot) (x1 : Int64) (x3 : Int32) (x4 : Int32), lv_has ls 5 [(0, .ref (g.2.2.1 8)), (1, .long x1), (3, .int x3), (4, .int x4)] → k44 x1 x3 x4 = some res → W p l e (headSpec wsX8_digest { frames := 5, cells := 0, slots := 0, locals := 119 }).room s m args below meth c s.heap [] 0 0 (MQ below (vp_Sl (fun r => r = res)) args s 0 0 (fun _ => False)) (F0 m 44 ls [])) : ∀ (ls : Array Slot) (x1 : Int64) (x3 : Int32) (x4 : Int32), lv_has ls 5 [(0, .ref (g.2.2.1 8)), (1, .long x1), (3, .int x3), (4, .int x4)] → f_X8_digest_44_b N S8 k33 k44 x1 x3 x4 = some res → W p l e (headSpec wsX8_digest { frames := 5, cells := 0, slots := 0, locals := 119 }).room s m args below meth c s.heap [] 0 0 (MQ below (vp_Sl (fun r => r = res)) args s 0 0 (fun _ => False)) (F0 m 44 ls []) := by
  intro ls x1 x3 x4 hl hf
  obtain ⟨⟨hx, hb, hr, hml, hown, hts, hlk⟩, hK, hP⟩ := id C
  unfold f_X8_digest_44_b at hf
  refine lv_iload (pc := 44) hx hb dX8_digest_44 (lv_at hl 3 rfl) ?_
  refine lv_bipush (v := 6) (pc := 46) hx hb dX8_digest_46 (by decide) ?_
  refine lv_icmp_ge (tgt := 72) (pc := 48) hx hb dX8_digest_48 (by decide) (fun c48 => ?_) (fun c48 => ?_)
  · have hf := ft hf c48
    refine lv_iinc (v := (x3 + 1)) (lv' := [(3, .int (x3 + 1)), (0, .ref (g.2.2.1 8)), (1, .long x1), (4, .int x4)]) (pc := 72) hx hb dX8_digest_72 hl (k := 2) rfl rfl (by decide) rfl (fun ls hl => ?_)
    refine lv_goto (tgt := 33) (pc := 75) hx hb dX8_digest_75 (by decide) ?_
    exact H33 ls x1 (x3 + 1) (lv_sub hl [1, 2, 0] rfl) hf
  · have hf := ff hf c48
    refine lv_ldc2 (v := 31) (pc := 51) hx hb hown (hts _ q_X8_digest_0) dX8_digest_51 ?_
    refine lv_lload_n (pc := 54) hx hb dX8_digest_54 rfl (lv_at hl 1 rfl) ?_
    refine lv_lmul (pc := 55) hx hb dX8_digest_55 ?_
    refine lv_aload_n (pc := 56) hx hb dX8_digest_56 rfl (lv_at hl 0 rfl) ?_
    refine lv_iload_n (pc := 57) hx hb dX8_digest_57 rfl (lv_at hl 2 rfl) ?_
    refine lv_iload (pc := 58) hx hb dX8_digest_58 (lv_at hl 3 rfl) ?_
    obtain ⟨r60, e60, hf⟩ := bdE hf
    refine krI (g := g) (wc := (wd_8 g S8)) (pc := 60) (As := [.int x3, .int x4]) (rest := [.long (31 * x1)]) ⟨hx, hb, hml, hown, hts⟩ (c_X8_toldOf l g N S8 x3 x4 r60 e60) (cwV 2 hts gX8_digest_X8_toldOf rfl rfl rfl h_X8_toldOf ⟨Nat.le_of_ble_eq_true rfl, Nat.le_of_ble_eq_true rfl⟩) hK hP rfl rfl rfl hl.1 rfl (Nat.le_of_ble_eq_true rfl) dX8_digest_60 ⟨Nat.zero_le _, Nat.zero_le _⟩ ?_
    refine lv_i2l (pc := 63) hx hb dX8_digest_63 rfl ?_
    refine lv_ladd (pc := 64) hx hb dX8_digest_64 ?_
    refine lv_lstore_n (lv' := [(1, .long ((31 * x1) + (Int32.toInt64 r60))), (0, .ref (g.2.2.1 8)), (3, .int x3), (4, .int x4)]) (pc := 65) hx hb dX8_digest_65 rfl hl (by decide) rfl (fun ls hl => ?_)
    refine lv_iinc (v := (x4 + 1)) (lv' := [(4, .int (x4 + 1)), (1, .long ((31 * x1) + (Int32.toInt64 r60))), (0, .ref (g.2.2.1 8)), (3, .int x3)]) (pc := 66) hx hb dX8_digest_66 hl (k := 3) rfl rfl (by decide) rfl (fun ls hl => ?_)
    refine lv_goto (tgt := 44) (pc := 69) hx hb dX8_digest_69 (by decide) ?_
    exact H44 ls ((31 * x1) + (Int32.toInt64 r60)) x3 (x4 + 1) (lv_sub hl [2, 1, 3, 0] rfl) hf
set_option maxHeartbeats 4000000 in
set_option maxRecDepth 100000 in
theorem w_X8_digest_44 {p : Program} {l : Launch} {e : Env} {s : State} {m : MethodId} {args : Array Value} {below : List Frame} {meth : Method} {c : Code} {g : En} {N : Nat} {S8 : St} {res : Int64} (C : cxr g (wd_8 g S8) cX8_digest 5 (some .long) wsX8_digest RX8 p s m args meth c) (k33 : Int64 → Int32 → Option (Int64)) (H33 : ∀ (ls : Array Slot) (x1 : Int64) (x3 : Int32), lv_has ls 5 [(0, .ref (g.2.2.1 8)), (1, .long x1), (3, .int x3)] → k33 x1 x3 = some res → W p l e (headSpec wsX8_digest { frames := 5, cells := 0, slots := 0, locals := 119 }).room s m args below meth c s.heap [] 0 0 (MQ below (vp_Sl (fun r => r = res)) args s 0 0 (fun _ => False)) (F0 m 33 ls [])) : ∀ (n : Nat), ∀ (ls : Array Slot) (x1 : Int64) (x3 : Int32) (x4 : Int32), lv_has ls 5 [(0, .ref (g.2.2.1 8)), (1, .long x1), (3, .int x3), (4, .int x4)] → f_X8_digest_44 N S8 k33 n x1 x3 x4 = some res → W p l e (headSpec wsX8_digest { frames := 5, cells := 0, slots := 0, locals := 119 }).room s m args below meth c s.heap [] 0 0 (MQ below (vp_Sl (fun r => r = res)) args s 0 0 (fun _ => False)) (F0 m 44 ls []) := by
  intro n
  induction n with
  | zero =>
    intro ls x1 x3 x4 hl hf
    have hf : (none : Option (Int64)) = some res := hf
    cases hf
  | succ n ih =>
    intro ls x1 x3 x4 hl hf
    exact w_X8_digest_44_b C k33 H33 (fun y0 y1 y2 => f_X8_digest_44 N S8 k33 n y0 y1 y2) ih ls x1 x3 x4 hl hf
set_option maxHeartbeats 4000000 in
set_option maxRecDepth 100000 in
theorem w_X8_digest_156_b {p : Program} {l : Launch} {e : Env} {s : State} {m : MethodId} {args : Array Value} {below : List Frame} {meth : Method} {c : Code} {g : En} {N : Nat} {S8 : St} {res : Int64} (C : cxr g (wd_8 g S8) cX8_digest 5 (some .long) wsX8_digest RX8 p s m args meth c) (k107 : Int64 → Int32 → Option (Int64)) (H107 : ∀ (ls : Array Slot) (x1 : Int64) (x3 : Int32), lv_has ls 5 [(0, .ref (g.2.2.1 8)), (1, .long x1), (3, .int x3)] → k107 x1 x3 = some res → W p l e (headSpec wsX8_digest { frames := 5, cells := 0, slots := 0, locals := 119 }).room s m args below meth c s.heap [] 0 0 (MQ below (vp_Sl (fun r => r = res)) args s 0 0 (fun _ => False)) (F0 m 107 ls [])) (k156 : Int64 → Int32 → Int32 → Option (Int64)) (H156 : ∀ (ls : Array Slot) (x1 : Int64) (x3 : Int32) (x4 : Int32), lv_has ls 5 [(0, .ref (g.2.2.1 8)), (1, .long x1), (3, .int x3), (4, .int x4)] → k156 x1 x3 x4 = some res → W p l e (headSpec wsX8_digest { frames := 5, cells := 0, slots := 0, locals := 119 }).room s m args below meth c s.heap [] 0 0 (MQ below (vp_Sl (fun r => r = res)) args s 0 0 (fun _ => False)) (F0 m 156 ls [])) : ∀ (ls : Array Slot) (x1 : Int64) (x3 : Int32) (x4 : Int32), lv_has ls 5 [(0, .ref (g.2.2.1 8)), (1, .long x1), (3, .int x3), (4, .int x4)] → f_X8_digest_156_b N S8 k107 k156 x1 x3 x4 = some res → W p l e (headSpec wsX8_digest { frames := 5, cells := 0, slots := 0, locals := 119 }).room s m args below meth c s.heap [] 0 0 (MQ below (vp_Sl (fun r => r = res)) args s 0 0 (fun _ => False)) (F0 m 156 ls []) := by
  intro ls x1 x3 x4 hl hf
  obtain ⟨⟨hx, hb, hr, hml, hown, hts, hlk⟩, hK, hP⟩ := id C
  unfold f_X8_digest_156_b at hf
  refine lv_iload (pc := 156) hx hb dX8_digest_156 (lv_at hl 3 rfl) ?_
  refine lv_iconst (v := 4) (pc := 158) hx hb dX8_digest_158 (by decide) ?_
  refine lv_icmp_ge (tgt := 187) (pc := 159) hx hb dX8_digest_159 (by decide) (fun c159 => ?_) (fun c159 => ?_)
  · have hf := ft hf c159
    refine lv_ldc2 (v := 31) (pc := 187) hx hb hown (hts _ q_X8_digest_0) dX8_digest_187 ?_
    refine lv_lload_n (pc := 190) hx hb dX8_digest_190 rfl (lv_at hl 1 rfl) ?_
    refine lv_lmul (pc := 191) hx hb dX8_digest_191 ?_
    refine lv_aload_n (pc := 192) hx hb dX8_digest_192 rfl (lv_at hl 0 rfl) ?_
    refine va_get (D := g.1) (ci := 8) (v := .ref (g.2.2.2 8 29)) (C := RX8) (T := TX8) (N := 47) (pc := 193) hx hb hts (fun _ h => List.mem_cons_of_mem _ (List.mem_append_right _ h)) hown hK hP 0 rfl rfl 29 (by decide) (hts _ q_X8_digest_1) (fun _ h9 => h9) rfl dX8_digest_193 ?_
    refine lv_iload_n (pc := 196) hx hb dX8_digest_196 rfl (lv_at hl 2 rfl) ?_
    obtain ⟨b197, hf⟩ := gdE hf
    refine va_iald (D := g.1) (tys := tyl g) (f := (S8.2.2 29)) (pc := 197) hx hb hK hP 20 0 rfl rfl (inbV b197) dX8_digest_197 ?_
    refine lv_i2l (pc := 198) hx hb dX8_digest_198 rfl ?_
    refine lv_ladd (pc := 199) hx hb dX8_digest_199 ?_
    refine lv_lstore_n (lv' := [(1, .long ((31 * x1) + (Int32.toInt64 ((S8.2.2 29) (Int32.toNatClampNeg x3))))), (0, .ref (g.2.2.1 8)), (3, .int x3), (4, .int x4)]) (pc := 200) hx hb dX8_digest_200 rfl hl (by decide) rfl (fun ls hl => ?_)
    refine lv_iinc (v := (x3 + 1)) (lv' := [(3, .int (x3 + 1)), (1, .long ((31 * x1) + (Int32.toInt64 ((S8.2.2 29) (Int32.toNatClampNeg x3))))), (0, .ref (g.2.2.1 8)), (4, .int x4)]) (pc := 201) hx hb dX8_digest_201 hl (k := 2) rfl rfl (by decide) rfl (fun ls hl => ?_)
    refine lv_goto (tgt := 107) (pc := 204) hx hb dX8_digest_204 (by decide) ?_
    exact H107 ls ((31 * x1) + (Int32.toInt64 ((S8.2.2 29) (Int32.toNatClampNeg x3)))) (x3 + 1) (lv_sub hl [2, 1, 0] rfl) hf
  · have hf := ff hf c159
    refine lv_ldc2 (v := 31) (pc := 162) hx hb hown (hts _ q_X8_digest_0) dX8_digest_162 ?_
    refine lv_lload_n (pc := 165) hx hb dX8_digest_165 rfl (lv_at hl 1 rfl) ?_
    refine lv_lmul (pc := 166) hx hb dX8_digest_166 ?_
    refine lv_aload_n (pc := 167) hx hb dX8_digest_167 rfl (lv_at hl 0 rfl) ?_
    refine va_get (D := g.1) (ci := 8) (v := .ref (g.2.2.2 8 28)) (C := RX8) (T := TX8) (N := 47) (pc := 168) hx hb hts (fun _ h => List.mem_cons_of_mem _ (List.mem_append_right _ h)) hown hK hP 0 rfl rfl 28 (by decide) (hts _ q_X8_digest_2) (fun _ h9 => h9) rfl dX8_digest_168 ?_
    refine lv_iconst (v := 4) (pc := 171) hx hb dX8_digest_171 (by decide) ?_
    refine lv_iload_n (pc := 172) hx hb dX8_digest_172 rfl (lv_at hl 2 rfl) ?_
    refine lv_imul (pc := 173) hx hb dX8_digest_173 ?_
    refine lv_iload (pc := 174) hx hb dX8_digest_174 (lv_at hl 3 rfl) ?_
    refine lv_iadd (pc := 176) hx hb dX8_digest_176 ?_
    obtain ⟨b177, hf⟩ := gdE hf
    refine va_iald (D := g.1) (tys := tyl g) (f := (S8.2.2 28)) (pc := 177) hx hb hK hP 19 0 rfl rfl (inbV b177) dX8_digest_177 ?_
    refine lv_i2l (pc := 178) hx hb dX8_digest_178 rfl ?_
    refine lv_ladd (pc := 179) hx hb dX8_digest_179 ?_
    refine lv_lstore_n (lv' := [(1, .long ((31 * x1) + (Int32.toInt64 ((S8.2.2 28) (Int32.toNatClampNeg ((4 * x3) + x4)))))), (0, .ref (g.2.2.1 8)), (3, .int x3), (4, .int x4)]) (pc := 180) hx hb dX8_digest_180 rfl hl (by decide) rfl (fun ls hl => ?_)
    refine lv_iinc (v := (x4 + 1)) (lv' := [(4, .int (x4 + 1)), (1, .long ((31 * x1) + (Int32.toInt64 ((S8.2.2 28) (Int32.toNatClampNeg ((4 * x3) + x4)))))), (0, .ref (g.2.2.1 8)), (3, .int x3)]) (pc := 181) hx hb dX8_digest_181 hl (k := 3) rfl rfl (by decide) rfl (fun ls hl => ?_)
    refine lv_goto (tgt := 156) (pc := 184) hx hb dX8_digest_184 (by decide) ?_
    exact H156 ls ((31 * x1) + (Int32.toInt64 ((S8.2.2 28) (Int32.toNatClampNeg ((4 * x3) + x4))))) x3 (x4 + 1) (lv_sub hl [2, 1, 3, 0] rfl) hf
set_option maxHeartbeats 4000000 in
set_option maxRecDepth 100000 in
theorem w_X8_digest_156 {p : Program} {l : Launch} {e : Env} {s : State} {m : MethodId} {args : Array Value} {below : List Frame} {meth : Method} {c : Code} {g : En} {N : Nat} {S8 : St} {res : Int64} (C : cxr g (wd_8 g S8) cX8_digest 5 (some .long) wsX8_digest RX8 p s m args meth c) (k107 : Int64 → Int32 → Option (Int64)) (H107 : ∀ (ls : Array Slot) (x1 : Int64) (x3 : Int32), lv_has ls 5 [(0, .ref (g.2.2.1 8)), (1, .long x1), (3, .int x3)] → k107 x1 x3 = some res → W p l e (headSpec wsX8_digest { frames := 5, cells := 0, slots := 0, locals := 119 }).room s m args below meth c s.heap [] 0 0 (MQ below (vp_Sl (fun r => r = res)) args s 0 0 (fun _ => False)) (F0 m 107 ls [])) : ∀ (n : Nat), ∀ (ls : Array Slot) (x1 : Int64) (x3 : Int32) (x4 : Int32), lv_has ls 5 [(0, .ref (g.2.2.1 8)), (1, .long x1), (3, .int x3), (4, .int x4)] → f_X8_digest_156 N S8 k107 n x1 x3 x4 = some res → W p l e (headSpec wsX8_digest { frames := 5, cells := 0, slots := 0, locals := 119 }).room s m args below meth c s.heap [] 0 0 (MQ below (vp_Sl (fun r => r = res)) args s 0 0 (fun _ => False)) (F0 m 156 ls []) := by
  intro n
  induction n with
  | zero =>
    intro ls x1 x3 x4 hl hf
    have hf : (none : Option (Int64)) = some res := hf
    cases hf
  | succ n ih =>
    intro ls x1 x3 x4 hl hf
    exact w_X8_digest_156_b C k107 H107 (fun y0 y1 y2 => f_X8_digest_156 N S8 k107 n y0 y1 y2) ih ls x1 x3 x4 hl hf
set_option maxHeartbeats 4000000 in
set_option maxRecDepth 100000 in
theorem w_X8_digest_260_b {p : Program} {l : Launch} {e : Env} {s : State} {m : MethodId} {args : Array Value} {below : List Frame} {meth : Method} {c : Code} {g : En} {N : Nat} {S8 : St} {res : Int64} (C : cxr g (wd_8 g S8) cX8_digest 5 (some .long) wsX8_digest RX8 p s m args meth c) (k237 : Int64 → Int32 → Option (Int64)) (H237 : ∀ (ls : Array Slot) (x1 : Int64) (x3 : Int32), lv_has ls 5 [(0, .ref (g.2.2.1 8)), (1, .long x1), (3, .int x3)] → k237 x1 x3 = some res → W p l e (headSpec wsX8_digest { frames := 5, cells := 0, slots := 0, locals := 119 }).room s m args below meth c s.heap [] 0 0 (MQ below (vp_Sl (fun r => r = res)) args s 0 0 (fun _ => False)) (F0 m 237 ls [])) (k260 : Int64 → Int32 → Int32 → Option (Int64)) (H260 : ∀ (ls : Array Slot) (x1 : Int64) (x3 : Int32) (x4 : Int32), lv_has ls 5 [(0, .ref (g.2.2.1 8)), (1, .long x1), (3, .int x3), (4, .int x4)] → k260 x1 x3 x4 = some res → W p l e (headSpec wsX8_digest { frames := 5, cells := 0, slots := 0, locals := 119 }).room s m args below meth c s.heap [] 0 0 (MQ below (vp_Sl (fun r => r = res)) args s 0 0 (fun _ => False)) (F0 m 260 ls [])) : ∀ (ls : Array Slot) (x1 : Int64) (x3 : Int32) (x4 : Int32), lv_has ls 5 [(0, .ref (g.2.2.1 8)), (1, .long x1), (3, .int x3), (4, .int x4)] → f_X8_digest_260_b N S8 k237 k260 x1 x3 x4 = some res → W p l e (headSpec wsX8_digest { frames := 5, cells := 0, slots := 0, locals := 119 }).room s m args below meth c s.heap [] 0 0 (MQ below (vp_Sl (fun r => r = res)) args s 0 0 (fun _ => False)) (F0 m 260 ls []) := by
  intro ls x1 x3 x4 hl hf
  obtain ⟨⟨hx, hb, hr, hml, hown, hts, hlk⟩, hK, hP⟩ := id C
  unfold f_X8_digest_260_b at hf
  refine lv_iload (pc := 260) hx hb dX8_digest_260 (lv_at hl 3 rfl) ?_
  refine lv_aload_n (pc := 262) hx hb dX8_digest_262 rfl (lv_at hl 0 rfl) ?_
  refine va_get (D := g.1) (ci := 8) (v := .ref (g.2.2.2 8 6)) (C := RX8) (T := TX8) (N := 47) (pc := 263) hx hb hts (fun _ h => List.mem_cons_of_mem _ (List.mem_append_right _ h)) hown hK hP 0 rfl rfl 6 (by decide) (hts _ q_X8_digest_3) (fun _ h9 => h9) rfl dX8_digest_263 ?_
  refine lv_iload_n (pc := 266) hx hb dX8_digest_266 rfl (lv_at hl 2 rfl) ?_
  obtain ⟨b267, hf⟩ := gdE hf
  refine va_iald (D := g.1) (tys := tyl g) (f := (S8.2.2 6)) (pc := 267) hx hb hK hP 2 0 rfl rfl (inbV b267) dX8_digest_267 ?_
  refine lv_icmp_ge (tgt := 297) (pc := 268) hx hb dX8_digest_268 (by decide) (fun c268 => ?_) (fun c268 => ?_)
  · have hf := ft hf c268
    refine lv_iinc (v := (x3 + 1)) (lv' := [(3, .int (x3 + 1)), (0, .ref (g.2.2.1 8)), (1, .long x1), (4, .int x4)]) (pc := 297) hx hb dX8_digest_297 hl (k := 2) rfl rfl (by decide) rfl (fun ls hl => ?_)
    refine lv_goto (tgt := 237) (pc := 300) hx hb dX8_digest_300 (by decide) ?_
    exact H237 ls x1 (x3 + 1) (lv_sub hl [1, 2, 0] rfl) hf
  · have hf := ff hf c268
    refine lv_ldc2 (v := 31) (pc := 271) hx hb hown (hts _ q_X8_digest_0) dX8_digest_271 ?_
    refine lv_lload_n (pc := 274) hx hb dX8_digest_274 rfl (lv_at hl 1 rfl) ?_
    refine lv_lmul (pc := 275) hx hb dX8_digest_275 ?_
    refine lv_aload_n (pc := 276) hx hb dX8_digest_276 rfl (lv_at hl 0 rfl) ?_
    refine va_get (D := g.1) (ci := 8) (v := .ref (g.2.2.2 8 7)) (C := RX8) (T := TX8) (N := 47) (pc := 277) hx hb hts (fun _ h => List.mem_cons_of_mem _ (List.mem_append_right _ h)) hown hK hP 0 rfl rfl 7 (by decide) (hts _ q_X8_digest_4) (fun _ h9 => h9) rfl dX8_digest_277 ?_
    refine lv_bipush (v := 40) (pc := 280) hx hb dX8_digest_280 (by decide) ?_
    refine lv_iload_n (pc := 282) hx hb dX8_digest_282 rfl (lv_at hl 2 rfl) ?_
    refine lv_imul (pc := 283) hx hb dX8_digest_283 ?_
    refine lv_iload (pc := 284) hx hb dX8_digest_284 (lv_at hl 3 rfl) ?_
    refine lv_iadd (pc := 286) hx hb dX8_digest_286 ?_
    obtain ⟨b287, hf⟩ := gdE hf
    refine va_bald (D := g.1) (tys := tyl g) (f := (S8.2.2 7)) (pc := 287) hx hb hK hP 3 1 rfl rfl (inbV b287) dX8_digest_287 ?_
    refine lv_i2l (pc := 288) hx hb dX8_digest_288 rfl ?_
    refine lv_ladd (pc := 289) hx hb dX8_digest_289 ?_
    refine lv_lstore_n (lv' := [(1, .long ((31 * x1) + (Int32.toInt64 ((S8.2.2 7) (Int32.toNatClampNeg ((40 * x3) + x4)))))), (0, .ref (g.2.2.1 8)), (3, .int x3), (4, .int x4)]) (pc := 290) hx hb dX8_digest_290 rfl hl (by decide) rfl (fun ls hl => ?_)
    refine lv_iinc (v := (x4 + 1)) (lv' := [(4, .int (x4 + 1)), (1, .long ((31 * x1) + (Int32.toInt64 ((S8.2.2 7) (Int32.toNatClampNeg ((40 * x3) + x4)))))), (0, .ref (g.2.2.1 8)), (3, .int x3)]) (pc := 291) hx hb dX8_digest_291 hl (k := 3) rfl rfl (by decide) rfl (fun ls hl => ?_)
    refine lv_goto (tgt := 260) (pc := 294) hx hb dX8_digest_294 (by decide) ?_
    exact H260 ls ((31 * x1) + (Int32.toInt64 ((S8.2.2 7) (Int32.toNatClampNeg ((40 * x3) + x4))))) x3 (x4 + 1) (lv_sub hl [2, 1, 3, 0] rfl) hf
set_option maxHeartbeats 4000000 in
set_option maxRecDepth 100000 in
theorem w_X8_digest_260 {p : Program} {l : Launch} {e : Env} {s : State} {m : MethodId} {args : Array Value} {below : List Frame} {meth : Method} {c : Code} {g : En} {N : Nat} {S8 : St} {res : Int64} (C : cxr g (wd_8 g S8) cX8_digest 5 (some .long) wsX8_digest RX8 p s m args meth c) (k237 : Int64 → Int32 → Option (Int64)) (H237 : ∀ (ls : Array Slot) (x1 : Int64) (x3 : Int32), lv_has ls 5 [(0, .ref (g.2.2.1 8)), (1, .long x1), (3, .int x3)] → k237 x1 x3 = some res → W p l e (headSpec wsX8_digest { frames := 5, cells := 0, slots := 0, locals := 119 }).room s m args below meth c s.heap [] 0 0 (MQ below (vp_Sl (fun r => r = res)) args s 0 0 (fun _ => False)) (F0 m 237 ls [])) : ∀ (n : Nat), ∀ (ls : Array Slot) (x1 : Int64) (x3 : Int32) (x4 : Int32), lv_has ls 5 [(0, .ref (g.2.2.1 8)), (1, .long x1), (3, .int x3), (4, .int x4)] → f_X8_digest_260 N S8 k237 n x1 x3 x4 = some res → W p l e (headSpec wsX8_digest { frames := 5, cells := 0, slots := 0, locals := 119 }).room s m args below meth c s.heap [] 0 0 (MQ below (vp_Sl (fun r => r = res)) args s 0 0 (fun _ => False)) (F0 m 260 ls []) := by
  intro n
  induction n with
  | zero =>
    intro ls x1 x3 x4 hl hf
    have hf : (none : Option (Int64)) = some res := hf
    cases hf
  | succ n ih =>
    intro ls x1 x3 x4 hl hf
    exact w_X8_digest_260_b C k237 H237 (fun y0 y1 y2 => f_X8_digest_260 N S8 k237 n y0 y1 y2) ih ls x1 x3 x4 hl hf
set_option maxHeartbeats 4000000 in
set_option maxRecDepth 100000 in
theorem w_X8_digest_237_b {p : Program} {l : Launch} {e : Env} {s : State} {m : MethodId} {args : Array Value} {below : List Frame} {meth : Method} {c : Code} {g : En} {N : Nat} {S8 : St} {res : Int64} (C : cxr g (wd_8 g S8) cX8_digest 5 (some .long) wsX8_digest RX8 p s m args meth c) (k237 : Int64 → Int32 → Option (Int64)) (H237 : ∀ (ls : Array Slot) (x1 : Int64) (x3 : Int32), lv_has ls 5 [(0, .ref (g.2.2.1 8)), (1, .long x1), (3, .int x3)] → k237 x1 x3 = some res → W p l e (headSpec wsX8_digest { frames := 5, cells := 0, slots := 0, locals := 119 }).room s m args below meth c s.heap [] 0 0 (MQ below (vp_Sl (fun r => r = res)) args s 0 0 (fun _ => False)) (F0 m 237 ls [])) : ∀ (ls : Array Slot) (x1 : Int64) (x3 : Int32), lv_has ls 5 [(0, .ref (g.2.2.1 8)), (1, .long x1), (3, .int x3)] → f_X8_digest_237_b N S8  k237 x1 x3 = some res → W p l e (headSpec wsX8_digest { frames := 5, cells := 0, slots := 0, locals := 119 }).room s m args below meth c s.heap [] 0 0 (MQ below (vp_Sl (fun r => r = res)) args s 0 0 (fun _ => False)) (F0 m 237 ls []) := by
  intro ls x1 x3 hl hf
  obtain ⟨⟨hx, hb, hr, hml, hown, hts, hlk⟩, hK, hP⟩ := id C
  unfold f_X8_digest_237_b at hf
  refine lv_iload_n (pc := 237) hx hb dX8_digest_237 rfl (lv_at hl 2 rfl) ?_
  refine lv_bipush (v := 6) (pc := 238) hx hb dX8_digest_238 (by decide) ?_
  refine lv_icmp_ge (tgt := 303) (pc := 240) hx hb dX8_digest_240 (by decide) (fun c240 => ?_) (fun c240 => ?_)
  · have hf := ft hf c240
    refine lv_lload_n (pc := 303) hx hb dX8_digest_303 rfl (lv_at hl 1 rfl) ?_
    have hf := Option.some.inj hf
    subst hf
    exact W.lret (v := x1) hx hb hr (fun t ht hW => ⟨_, rfl, rfl, ht⟩) (fun _ h => by cases h) dX8_digest_304
  · have hf := ff hf c240
    refine lv_ldc2 (v := 31) (pc := 243) hx hb hown (hts _ q_X8_digest_0) dX8_digest_243 ?_
    refine lv_lload_n (pc := 246) hx hb dX8_digest_246 rfl (lv_at hl 1 rfl) ?_
    refine lv_lmul (pc := 247) hx hb dX8_digest_247 ?_
    refine lv_aload_n (pc := 248) hx hb dX8_digest_248 rfl (lv_at hl 0 rfl) ?_
    refine va_get (D := g.1) (ci := 8) (v := .ref (g.2.2.2 8 6)) (C := RX8) (T := TX8) (N := 47) (pc := 249) hx hb hts (fun _ h => List.mem_cons_of_mem _ (List.mem_append_right _ h)) hown hK hP 0 rfl rfl 6 (by decide) (hts _ q_X8_digest_3) (fun _ h9 => h9) rfl dX8_digest_249 ?_
    refine lv_iload_n (pc := 252) hx hb dX8_digest_252 rfl (lv_at hl 2 rfl) ?_
    obtain ⟨b253, hf⟩ := gdE hf
    refine va_iald (D := g.1) (tys := tyl g) (f := (S8.2.2 6)) (pc := 253) hx hb hK hP 2 0 rfl rfl (inbV b253) dX8_digest_253 ?_
    refine lv_i2l (pc := 254) hx hb dX8_digest_254 rfl ?_
    refine lv_ladd (pc := 255) hx hb dX8_digest_255 ?_
    refine lv_lstore_n (lv' := [(1, .long ((31 * x1) + (Int32.toInt64 ((S8.2.2 6) (Int32.toNatClampNeg x3))))), (0, .ref (g.2.2.1 8)), (3, .int x3)]) (pc := 256) hx hb dX8_digest_256 rfl hl (by decide) rfl (fun ls hl => ?_)
    refine lv_iconst (v := 0) (pc := 257) hx hb dX8_digest_257 (by decide) ?_
    refine lv_istore (lv' := [(4, .int 0), (1, .long ((31 * x1) + (Int32.toInt64 ((S8.2.2 6) (Int32.toNatClampNeg x3))))), (0, .ref (g.2.2.1 8)), (3, .int x3)]) (pc := 258) hx hb dX8_digest_258 hl (by decide) rfl (fun ls hl => ?_)
    exact w_X8_digest_260 C k237 H237 N ls ((31 * x1) + (Int32.toInt64 ((S8.2.2 6) (Int32.toNatClampNeg x3)))) x3 0 (lv_sub hl [2, 1, 3, 0] rfl) hf
set_option maxHeartbeats 4000000 in
set_option maxRecDepth 100000 in
theorem w_X8_digest_237 {p : Program} {l : Launch} {e : Env} {s : State} {m : MethodId} {args : Array Value} {below : List Frame} {meth : Method} {c : Code} {g : En} {N : Nat} {S8 : St} {res : Int64} (C : cxr g (wd_8 g S8) cX8_digest 5 (some .long) wsX8_digest RX8 p s m args meth c) : ∀ (n : Nat), ∀ (ls : Array Slot) (x1 : Int64) (x3 : Int32), lv_has ls 5 [(0, .ref (g.2.2.1 8)), (1, .long x1), (3, .int x3)] → f_X8_digest_237 N S8  n x1 x3 = some res → W p l e (headSpec wsX8_digest { frames := 5, cells := 0, slots := 0, locals := 119 }).room s m args below meth c s.heap [] 0 0 (MQ below (vp_Sl (fun r => r = res)) args s 0 0 (fun _ => False)) (F0 m 237 ls []) := by
  intro n
  induction n with
  | zero =>
    intro ls x1 x3 hl hf
    have hf : (none : Option (Int64)) = some res := hf
    cases hf
  | succ n ih =>
    intro ls x1 x3 hl hf
    exact w_X8_digest_237_b C  (fun y0 y1 => f_X8_digest_237 N S8  n y0 y1) ih ls x1 x3 hl hf
set_option maxHeartbeats 4000000 in
set_option maxRecDepth 100000 in
theorem w_X8_digest_209_b {p : Program} {l : Launch} {e : Env} {s : State} {m : MethodId} {args : Array Value} {below : List Frame} {meth : Method} {c : Code} {g : En} {N : Nat} {S8 : St} {res : Int64} (C : cxr g (wd_8 g S8) cX8_digest 5 (some .long) wsX8_digest RX8 p s m args meth c) (k209 : Int64 → Int32 → Option (Int64)) (H209 : ∀ (ls : Array Slot) (x1 : Int64) (x3 : Int32), lv_has ls 5 [(0, .ref (g.2.2.1 8)), (1, .long x1), (3, .int x3)] → k209 x1 x3 = some res → W p l e (headSpec wsX8_digest { frames := 5, cells := 0, slots := 0, locals := 119 }).room s m args below meth c s.heap [] 0 0 (MQ below (vp_Sl (fun r => r = res)) args s 0 0 (fun _ => False)) (F0 m 209 ls [])) : ∀ (ls : Array Slot) (x1 : Int64) (x3 : Int32), lv_has ls 5 [(0, .ref (g.2.2.1 8)), (1, .long x1), (3, .int x3)] → f_X8_digest_209_b N S8  k209 x1 x3 = some res → W p l e (headSpec wsX8_digest { frames := 5, cells := 0, slots := 0, locals := 119 }).room s m args below meth c s.heap [] 0 0 (MQ below (vp_Sl (fun r => r = res)) args s 0 0 (fun _ => False)) (F0 m 209 ls []) := by
  intro ls x1 x3 hl hf
  obtain ⟨⟨hx, hb, hr, hml, hown, hts, hlk⟩, hK, hP⟩ := id C
  unfold f_X8_digest_209_b at hf
  refine lv_iload_n (pc := 209) hx hb dX8_digest_209 rfl (lv_at hl 2 rfl) ?_
  refine lv_bipush (v := 10) (pc := 210) hx hb dX8_digest_210 (by decide) ?_
  refine lv_icmp_ge (tgt := 235) (pc := 212) hx hb dX8_digest_212 (by decide) (fun c212 => ?_) (fun c212 => ?_)
  · have hf := ft hf c212
    refine lv_iconst (v := 0) (pc := 235) hx hb dX8_digest_235 (by decide) ?_
    refine lv_istore_n (lv' := [(3, .int 0), (0, .ref (g.2.2.1 8)), (1, .long x1)]) (pc := 236) hx hb dX8_digest_236 rfl hl (by decide) rfl (fun ls hl => ?_)
    exact w_X8_digest_237 C  N ls x1 0 (lv_sub hl [1, 2, 0] rfl) hf
  · have hf := ff hf c212
    refine lv_ldc2 (v := 31) (pc := 215) hx hb hown (hts _ q_X8_digest_0) dX8_digest_215 ?_
    refine lv_lload_n (pc := 218) hx hb dX8_digest_218 rfl (lv_at hl 1 rfl) ?_
    refine lv_lmul (pc := 219) hx hb dX8_digest_219 ?_
    refine lv_aload_n (pc := 220) hx hb dX8_digest_220 rfl (lv_at hl 0 rfl) ?_
    refine va_get (D := g.1) (ci := 8) (v := .ref (g.2.2.2 8 9)) (C := RX8) (T := TX8) (N := 47) (pc := 221) hx hb hts (fun _ h => List.mem_cons_of_mem _ (List.mem_append_right _ h)) hown hK hP 0 rfl rfl 9 (by decide) (hts _ q_X8_digest_5) (fun _ h9 => h9) rfl dX8_digest_221 ?_
    refine lv_iload_n (pc := 224) hx hb dX8_digest_224 rfl (lv_at hl 2 rfl) ?_
    obtain ⟨b225, hf⟩ := gdE hf
    refine va_iald (D := g.1) (tys := tyl g) (f := (S8.2.2 9)) (pc := 225) hx hb hK hP 5 0 rfl rfl (inbV b225) dX8_digest_225 ?_
    refine lv_i2l (pc := 226) hx hb dX8_digest_226 rfl ?_
    refine lv_ladd (pc := 227) hx hb dX8_digest_227 ?_
    refine lv_lstore_n (lv' := [(1, .long ((31 * x1) + (Int32.toInt64 ((S8.2.2 9) (Int32.toNatClampNeg x3))))), (0, .ref (g.2.2.1 8)), (3, .int x3)]) (pc := 228) hx hb dX8_digest_228 rfl hl (by decide) rfl (fun ls hl => ?_)
    refine lv_iinc (v := (x3 + 1)) (lv' := [(3, .int (x3 + 1)), (1, .long ((31 * x1) + (Int32.toInt64 ((S8.2.2 9) (Int32.toNatClampNeg x3))))), (0, .ref (g.2.2.1 8))]) (pc := 229) hx hb dX8_digest_229 hl (k := 2) rfl rfl (by decide) rfl (fun ls hl => ?_)
    refine lv_goto (tgt := 209) (pc := 232) hx hb dX8_digest_232 (by decide) ?_
    exact H209 ls ((31 * x1) + (Int32.toInt64 ((S8.2.2 9) (Int32.toNatClampNeg x3)))) (x3 + 1) (lv_sub hl [2, 1, 0] rfl) hf
set_option maxHeartbeats 4000000 in
set_option maxRecDepth 100000 in
theorem w_X8_digest_209 {p : Program} {l : Launch} {e : Env} {s : State} {m : MethodId} {args : Array Value} {below : List Frame} {meth : Method} {c : Code} {g : En} {N : Nat} {S8 : St} {res : Int64} (C : cxr g (wd_8 g S8) cX8_digest 5 (some .long) wsX8_digest RX8 p s m args meth c) : ∀ (n : Nat), ∀ (ls : Array Slot) (x1 : Int64) (x3 : Int32), lv_has ls 5 [(0, .ref (g.2.2.1 8)), (1, .long x1), (3, .int x3)] → f_X8_digest_209 N S8  n x1 x3 = some res → W p l e (headSpec wsX8_digest { frames := 5, cells := 0, slots := 0, locals := 119 }).room s m args below meth c s.heap [] 0 0 (MQ below (vp_Sl (fun r => r = res)) args s 0 0 (fun _ => False)) (F0 m 209 ls []) := by
  intro n
  induction n with
  | zero =>
    intro ls x1 x3 hl hf
    have hf : (none : Option (Int64)) = some res := hf
    cases hf
  | succ n ih =>
    intro ls x1 x3 hl hf
    exact w_X8_digest_209_b C  (fun y0 y1 => f_X8_digest_209 N S8  n y0 y1) ih ls x1 x3 hl hf
set_option maxHeartbeats 4000000 in
set_option maxRecDepth 100000 in
theorem w_X8_digest_107_b {p : Program} {l : Launch} {e : Env} {s : State} {m : MethodId} {args : Array Value} {below : List Frame} {meth : Method} {c : Code} {g : En} {N : Nat} {S8 : St} {res : Int64} (C : cxr g (wd_8 g S8) cX8_digest 5 (some .long) wsX8_digest RX8 p s m args meth c) (k107 : Int64 → Int32 → Option (Int64)) (H107 : ∀ (ls : Array Slot) (x1 : Int64) (x3 : Int32), lv_has ls 5 [(0, .ref (g.2.2.1 8)), (1, .long x1), (3, .int x3)] → k107 x1 x3 = some res → W p l e (headSpec wsX8_digest { frames := 5, cells := 0, slots := 0, locals := 119 }).room s m args below meth c s.heap [] 0 0 (MQ below (vp_Sl (fun r => r = res)) args s 0 0 (fun _ => False)) (F0 m 107 ls [])) : ∀ (ls : Array Slot) (x1 : Int64) (x3 : Int32), lv_has ls 5 [(0, .ref (g.2.2.1 8)), (1, .long x1), (3, .int x3)] → f_X8_digest_107_b N S8  k107 x1 x3 = some res → W p l e (headSpec wsX8_digest { frames := 5, cells := 0, slots := 0, locals := 119 }).room s m args below meth c s.heap [] 0 0 (MQ below (vp_Sl (fun r => r = res)) args s 0 0 (fun _ => False)) (F0 m 107 ls []) := by
  intro ls x1 x3 hl hf
  obtain ⟨⟨hx, hb, hr, hml, hown, hts, hlk⟩, hK, hP⟩ := id C
  unfold f_X8_digest_107_b at hf
  refine lv_iload_n (pc := 107) hx hb dX8_digest_107 rfl (lv_at hl 2 rfl) ?_
  refine lv_aload_n (pc := 108) hx hb dX8_digest_108 rfl (lv_at hl 0 rfl) ?_
  refine va_get (D := g.1) (ci := 8) (v := .int (S8.1 24)) (C := RX8) (T := TX8) (N := 47) (pc := 109) hx hb hts (fun _ h => List.mem_cons_of_mem _ (List.mem_append_right _ h)) hown hK hP 0 rfl rfl 24 (by decide) (hts _ q_X8_digest_6) (fun _ h9 => h9) rfl dX8_digest_109 ?_
  refine lv_icmp_ge (tgt := 207) (pc := 112) hx hb dX8_digest_112 (by decide) (fun c112 => ?_) (fun c112 => ?_)
  · have hf := ft hf c112
    refine lv_iconst (v := 0) (pc := 207) hx hb dX8_digest_207 (by decide) ?_
    refine lv_istore_n (lv' := [(3, .int 0), (0, .ref (g.2.2.1 8)), (1, .long x1)]) (pc := 208) hx hb dX8_digest_208 rfl hl (by decide) rfl (fun ls hl => ?_)
    exact w_X8_digest_209 C  N ls x1 0 (lv_sub hl [1, 2, 0] rfl) hf
  · have hf := ff hf c112
    refine lv_ldc2 (v := 31) (pc := 115) hx hb hown (hts _ q_X8_digest_0) dX8_digest_115 ?_
    refine lv_ldc2 (v := 31) (pc := 118) hx hb hown (hts _ q_X8_digest_0) dX8_digest_118 ?_
    refine lv_ldc2 (v := 31) (pc := 121) hx hb hown (hts _ q_X8_digest_0) dX8_digest_121 ?_
    refine lv_lload_n (pc := 124) hx hb dX8_digest_124 rfl (lv_at hl 1 rfl) ?_
    refine lv_lmul (pc := 125) hx hb dX8_digest_125 ?_
    refine lv_aload_n (pc := 126) hx hb dX8_digest_126 rfl (lv_at hl 0 rfl) ?_
    refine va_get (D := g.1) (ci := 8) (v := .ref (g.2.2.2 8 25)) (C := RX8) (T := TX8) (N := 47) (pc := 127) hx hb hts (fun _ h => List.mem_cons_of_mem _ (List.mem_append_right _ h)) hown hK hP 0 rfl rfl 25 (by decide) (hts _ q_X8_digest_7) (fun _ h9 => h9) rfl dX8_digest_127 ?_
    refine lv_iload_n (pc := 130) hx hb dX8_digest_130 rfl (lv_at hl 2 rfl) ?_
    obtain ⟨b131, hf⟩ := gdE hf
    refine va_iald (D := g.1) (tys := tyl g) (f := (S8.2.2 25)) (pc := 131) hx hb hK hP 16 0 rfl rfl (inbV b131) dX8_digest_131 ?_
    refine lv_i2l (pc := 132) hx hb dX8_digest_132 rfl ?_
    refine lv_ladd (pc := 133) hx hb dX8_digest_133 ?_
    refine lv_lmul (pc := 134) hx hb dX8_digest_134 ?_
    refine lv_aload_n (pc := 135) hx hb dX8_digest_135 rfl (lv_at hl 0 rfl) ?_
    refine va_get (D := g.1) (ci := 8) (v := .ref (g.2.2.2 8 26)) (C := RX8) (T := TX8) (N := 47) (pc := 136) hx hb hts (fun _ h => List.mem_cons_of_mem _ (List.mem_append_right _ h)) hown hK hP 0 rfl rfl 26 (by decide) (hts _ q_X8_digest_8) (fun _ h9 => h9) rfl dX8_digest_136 ?_
    refine lv_iload_n (pc := 139) hx hb dX8_digest_139 rfl (lv_at hl 2 rfl) ?_
    obtain ⟨b140, hf⟩ := gdE hf
    refine va_iald (D := g.1) (tys := tyl g) (f := (S8.2.2 26)) (pc := 140) hx hb hK hP 17 0 rfl rfl (inbV b140) dX8_digest_140 ?_
    refine lv_i2l (pc := 141) hx hb dX8_digest_141 rfl ?_
    refine lv_ladd (pc := 142) hx hb dX8_digest_142 ?_
    refine lv_lmul (pc := 143) hx hb dX8_digest_143 ?_
    refine lv_aload_n (pc := 144) hx hb dX8_digest_144 rfl (lv_at hl 0 rfl) ?_
    refine va_get (D := g.1) (ci := 8) (v := .ref (g.2.2.2 8 27)) (C := RX8) (T := TX8) (N := 47) (pc := 145) hx hb hts (fun _ h => List.mem_cons_of_mem _ (List.mem_append_right _ h)) hown hK hP 0 rfl rfl 27 (by decide) (hts _ q_X8_digest_9) (fun _ h9 => h9) rfl dX8_digest_145 ?_
    refine lv_iload_n (pc := 148) hx hb dX8_digest_148 rfl (lv_at hl 2 rfl) ?_
    obtain ⟨b149, hf⟩ := gdE hf
    refine va_iald (D := g.1) (tys := tyl g) (f := (S8.2.2 27)) (pc := 149) hx hb hK hP 18 0 rfl rfl (inbV b149) dX8_digest_149 ?_
    refine lv_i2l (pc := 150) hx hb dX8_digest_150 rfl ?_
    refine lv_ladd (pc := 151) hx hb dX8_digest_151 ?_
    refine lv_lstore_n (lv' := [(1, .long ((31 * ((31 * ((31 * x1) + (Int32.toInt64 ((S8.2.2 25) (Int32.toNatClampNeg x3))))) + (Int32.toInt64 ((S8.2.2 26) (Int32.toNatClampNeg x3))))) + (Int32.toInt64 ((S8.2.2 27) (Int32.toNatClampNeg x3))))), (0, .ref (g.2.2.1 8)), (3, .int x3)]) (pc := 152) hx hb dX8_digest_152 rfl hl (by decide) rfl (fun ls hl => ?_)
    refine lv_iconst (v := 0) (pc := 153) hx hb dX8_digest_153 (by decide) ?_
    refine lv_istore (lv' := [(4, .int 0), (1, .long ((31 * ((31 * ((31 * x1) + (Int32.toInt64 ((S8.2.2 25) (Int32.toNatClampNeg x3))))) + (Int32.toInt64 ((S8.2.2 26) (Int32.toNatClampNeg x3))))) + (Int32.toInt64 ((S8.2.2 27) (Int32.toNatClampNeg x3))))), (0, .ref (g.2.2.1 8)), (3, .int x3)]) (pc := 154) hx hb dX8_digest_154 hl (by decide) rfl (fun ls hl => ?_)
    exact w_X8_digest_156 C k107 H107 N ls ((31 * ((31 * ((31 * x1) + (Int32.toInt64 ((S8.2.2 25) (Int32.toNatClampNeg x3))))) + (Int32.toInt64 ((S8.2.2 26) (Int32.toNatClampNeg x3))))) + (Int32.toInt64 ((S8.2.2 27) (Int32.toNatClampNeg x3)))) x3 0 (lv_sub hl [2, 1, 3, 0] rfl) hf
set_option maxHeartbeats 4000000 in
set_option maxRecDepth 100000 in
theorem w_X8_digest_107 {p : Program} {l : Launch} {e : Env} {s : State} {m : MethodId} {args : Array Value} {below : List Frame} {meth : Method} {c : Code} {g : En} {N : Nat} {S8 : St} {res : Int64} (C : cxr g (wd_8 g S8) cX8_digest 5 (some .long) wsX8_digest RX8 p s m args meth c) : ∀ (n : Nat), ∀ (ls : Array Slot) (x1 : Int64) (x3 : Int32), lv_has ls 5 [(0, .ref (g.2.2.1 8)), (1, .long x1), (3, .int x3)] → f_X8_digest_107 N S8  n x1 x3 = some res → W p l e (headSpec wsX8_digest { frames := 5, cells := 0, slots := 0, locals := 119 }).room s m args below meth c s.heap [] 0 0 (MQ below (vp_Sl (fun r => r = res)) args s 0 0 (fun _ => False)) (F0 m 107 ls []) := by
  intro n
  induction n with
  | zero =>
    intro ls x1 x3 hl hf
    have hf : (none : Option (Int64)) = some res := hf
    cases hf
  | succ n ih =>
    intro ls x1 x3 hl hf
    exact w_X8_digest_107_b C  (fun y0 y1 => f_X8_digest_107 N S8  n y0 y1) ih ls x1 x3 hl hf
set_option maxHeartbeats 4000000 in
set_option maxRecDepth 100000 in
theorem w_X8_digest_80_b {p : Program} {l : Launch} {e : Env} {s : State} {m : MethodId} {args : Array Value} {below : List Frame} {meth : Method} {c : Code} {g : En} {N : Nat} {S8 : St} {res : Int64} (C : cxr g (wd_8 g S8) cX8_digest 5 (some .long) wsX8_digest RX8 p s m args meth c) (k80 : Int64 → Int32 → Option (Int64)) (H80 : ∀ (ls : Array Slot) (x1 : Int64) (x3 : Int32), lv_has ls 5 [(0, .ref (g.2.2.1 8)), (1, .long x1), (3, .int x3)] → k80 x1 x3 = some res → W p l e (headSpec wsX8_digest { frames := 5, cells := 0, slots := 0, locals := 119 }).room s m args below meth c s.heap [] 0 0 (MQ below (vp_Sl (fun r => r = res)) args s 0 0 (fun _ => False)) (F0 m 80 ls [])) : ∀ (ls : Array Slot) (x1 : Int64) (x3 : Int32), lv_has ls 5 [(0, .ref (g.2.2.1 8)), (1, .long x1), (3, .int x3)] → f_X8_digest_80_b N S8  k80 x1 x3 = some res → W p l e (headSpec wsX8_digest { frames := 5, cells := 0, slots := 0, locals := 119 }).room s m args below meth c s.heap [] 0 0 (MQ below (vp_Sl (fun r => r = res)) args s 0 0 (fun _ => False)) (F0 m 80 ls []) := by
  intro ls x1 x3 hl hf
  obtain ⟨⟨hx, hb, hr, hml, hown, hts, hlk⟩, hK, hP⟩ := id C
  unfold f_X8_digest_80_b at hf
  refine lv_iload_n (pc := 80) hx hb dX8_digest_80 rfl (lv_at hl 2 rfl) ?_
  refine lv_iconst (v := 4) (pc := 81) hx hb dX8_digest_81 (by decide) ?_
  refine lv_icmp_ge (tgt := 105) (pc := 82) hx hb dX8_digest_82 (by decide) (fun c82 => ?_) (fun c82 => ?_)
  · have hf := ft hf c82
    refine lv_iconst (v := 0) (pc := 105) hx hb dX8_digest_105 (by decide) ?_
    refine lv_istore_n (lv' := [(3, .int 0), (0, .ref (g.2.2.1 8)), (1, .long x1)]) (pc := 106) hx hb dX8_digest_106 rfl hl (by decide) rfl (fun ls hl => ?_)
    exact w_X8_digest_107 C  N ls x1 0 (lv_sub hl [1, 2, 0] rfl) hf
  · have hf := ff hf c82
    refine lv_ldc2 (v := 31) (pc := 85) hx hb hown (hts _ q_X8_digest_0) dX8_digest_85 ?_
    refine lv_lload_n (pc := 88) hx hb dX8_digest_88 rfl (lv_at hl 1 rfl) ?_
    refine lv_lmul (pc := 89) hx hb dX8_digest_89 ?_
    refine lv_aload_n (pc := 90) hx hb dX8_digest_90 rfl (lv_at hl 0 rfl) ?_
    refine va_get (D := g.1) (ci := 8) (v := .ref (g.2.2.2 8 23)) (C := RX8) (T := TX8) (N := 47) (pc := 91) hx hb hts (fun _ h => List.mem_cons_of_mem _ (List.mem_append_right _ h)) hown hK hP 0 rfl rfl 23 (by decide) (hts _ q_X8_digest_10) (fun _ h9 => h9) rfl dX8_digest_91 ?_
    refine lv_iload_n (pc := 94) hx hb dX8_digest_94 rfl (lv_at hl 2 rfl) ?_
    obtain ⟨b95, hf⟩ := gdE hf
    refine va_iald (D := g.1) (tys := tyl g) (f := (S8.2.2 23)) (pc := 95) hx hb hK hP 15 0 rfl rfl (inbV b95) dX8_digest_95 ?_
    refine lv_i2l (pc := 96) hx hb dX8_digest_96 rfl ?_
    refine lv_ladd (pc := 97) hx hb dX8_digest_97 ?_
    refine lv_lstore_n (lv' := [(1, .long ((31 * x1) + (Int32.toInt64 ((S8.2.2 23) (Int32.toNatClampNeg x3))))), (0, .ref (g.2.2.1 8)), (3, .int x3)]) (pc := 98) hx hb dX8_digest_98 rfl hl (by decide) rfl (fun ls hl => ?_)
    refine lv_iinc (v := (x3 + 1)) (lv' := [(3, .int (x3 + 1)), (1, .long ((31 * x1) + (Int32.toInt64 ((S8.2.2 23) (Int32.toNatClampNeg x3))))), (0, .ref (g.2.2.1 8))]) (pc := 99) hx hb dX8_digest_99 hl (k := 2) rfl rfl (by decide) rfl (fun ls hl => ?_)
    refine lv_goto (tgt := 80) (pc := 102) hx hb dX8_digest_102 (by decide) ?_
    exact H80 ls ((31 * x1) + (Int32.toInt64 ((S8.2.2 23) (Int32.toNatClampNeg x3)))) (x3 + 1) (lv_sub hl [2, 1, 0] rfl) hf
set_option maxHeartbeats 4000000 in
set_option maxRecDepth 100000 in
theorem w_X8_digest_80 {p : Program} {l : Launch} {e : Env} {s : State} {m : MethodId} {args : Array Value} {below : List Frame} {meth : Method} {c : Code} {g : En} {N : Nat} {S8 : St} {res : Int64} (C : cxr g (wd_8 g S8) cX8_digest 5 (some .long) wsX8_digest RX8 p s m args meth c) : ∀ (n : Nat), ∀ (ls : Array Slot) (x1 : Int64) (x3 : Int32), lv_has ls 5 [(0, .ref (g.2.2.1 8)), (1, .long x1), (3, .int x3)] → f_X8_digest_80 N S8  n x1 x3 = some res → W p l e (headSpec wsX8_digest { frames := 5, cells := 0, slots := 0, locals := 119 }).room s m args below meth c s.heap [] 0 0 (MQ below (vp_Sl (fun r => r = res)) args s 0 0 (fun _ => False)) (F0 m 80 ls []) := by
  intro n
  induction n with
  | zero =>
    intro ls x1 x3 hl hf
    have hf : (none : Option (Int64)) = some res := hf
    cases hf
  | succ n ih =>
    intro ls x1 x3 hl hf
    exact w_X8_digest_80_b C  (fun y0 y1 => f_X8_digest_80 N S8  n y0 y1) ih ls x1 x3 hl hf
set_option maxHeartbeats 4000000 in
set_option maxRecDepth 100000 in
theorem w_X8_digest_33_b {p : Program} {l : Launch} {e : Env} {s : State} {m : MethodId} {args : Array Value} {below : List Frame} {meth : Method} {c : Code} {g : En} {N : Nat} {S8 : St} {res : Int64} (C : cxr g (wd_8 g S8) cX8_digest 5 (some .long) wsX8_digest RX8 p s m args meth c) (k33 : Int64 → Int32 → Option (Int64)) (H33 : ∀ (ls : Array Slot) (x1 : Int64) (x3 : Int32), lv_has ls 5 [(0, .ref (g.2.2.1 8)), (1, .long x1), (3, .int x3)] → k33 x1 x3 = some res → W p l e (headSpec wsX8_digest { frames := 5, cells := 0, slots := 0, locals := 119 }).room s m args below meth c s.heap [] 0 0 (MQ below (vp_Sl (fun r => r = res)) args s 0 0 (fun _ => False)) (F0 m 33 ls [])) : ∀ (ls : Array Slot) (x1 : Int64) (x3 : Int32), lv_has ls 5 [(0, .ref (g.2.2.1 8)), (1, .long x1), (3, .int x3)] → f_X8_digest_33_b N S8  k33 x1 x3 = some res → W p l e (headSpec wsX8_digest { frames := 5, cells := 0, slots := 0, locals := 119 }).room s m args below meth c s.heap [] 0 0 (MQ below (vp_Sl (fun r => r = res)) args s 0 0 (fun _ => False)) (F0 m 33 ls []) := by
  intro ls x1 x3 hl hf
  obtain ⟨⟨hx, hb, hr, hml, hown, hts, hlk⟩, hK, hP⟩ := id C
  unfold f_X8_digest_33_b at hf
  refine lv_iload_n (pc := 33) hx hb dX8_digest_33 rfl (lv_at hl 2 rfl) ?_
  refine lv_aload_n (pc := 34) hx hb dX8_digest_34 rfl (lv_at hl 0 rfl) ?_
  refine va_get (D := g.1) (ci := 8) (v := .int (S8.1 13)) (C := RX8) (T := TX8) (N := 47) (pc := 35) hx hb hts (fun _ h => List.mem_cons_of_mem _ (List.mem_append_right _ h)) hown hK hP 0 rfl rfl 13 (by decide) (hts _ q_X8_digest_11) (fun _ h9 => h9) rfl dX8_digest_35 ?_
  refine lv_icmp_ge (tgt := 78) (pc := 38) hx hb dX8_digest_38 (by decide) (fun c38 => ?_) (fun c38 => ?_)
  · have hf := ft hf c38
    refine lv_iconst (v := 0) (pc := 78) hx hb dX8_digest_78 (by decide) ?_
    refine lv_istore_n (lv' := [(3, .int 0), (0, .ref (g.2.2.1 8)), (1, .long x1)]) (pc := 79) hx hb dX8_digest_79 rfl hl (by decide) rfl (fun ls hl => ?_)
    exact w_X8_digest_80 C  N ls x1 0 (lv_sub hl [1, 2, 0] rfl) hf
  · have hf := ff hf c38
    refine lv_iconst (v := 0) (pc := 41) hx hb dX8_digest_41 (by decide) ?_
    refine lv_istore (lv' := [(4, .int 0), (0, .ref (g.2.2.1 8)), (1, .long x1), (3, .int x3)]) (pc := 42) hx hb dX8_digest_42 hl (by decide) rfl (fun ls hl => ?_)
    exact w_X8_digest_44 C k33 H33 N ls x1 x3 0 (lv_sub hl [1, 2, 3, 0] rfl) hf
set_option maxHeartbeats 4000000 in
set_option maxRecDepth 100000 in
theorem w_X8_digest_33 {p : Program} {l : Launch} {e : Env} {s : State} {m : MethodId} {args : Array Value} {below : List Frame} {meth : Method} {c : Code} {g : En} {N : Nat} {S8 : St} {res : Int64} (C : cxr g (wd_8 g S8) cX8_digest 5 (some .long) wsX8_digest RX8 p s m args meth c) : ∀ (n : Nat), ∀ (ls : Array Slot) (x1 : Int64) (x3 : Int32), lv_has ls 5 [(0, .ref (g.2.2.1 8)), (1, .long x1), (3, .int x3)] → f_X8_digest_33 N S8  n x1 x3 = some res → W p l e (headSpec wsX8_digest { frames := 5, cells := 0, slots := 0, locals := 119 }).room s m args below meth c s.heap [] 0 0 (MQ below (vp_Sl (fun r => r = res)) args s 0 0 (fun _ => False)) (F0 m 33 ls []) := by
  intro n
  induction n with
  | zero =>
    intro ls x1 x3 hl hf
    have hf : (none : Option (Int64)) = some res := hf
    cases hf
  | succ n ih =>
    intro ls x1 x3 hl hf
    exact w_X8_digest_33_b C  (fun y0 y1 => f_X8_digest_33 N S8  n y0 y1) ih ls x1 x3 hl hf
set_option maxHeartbeats 4000000 in
set_option maxRecDepth 100000 in
theorem w_X8_digest_6_b {p : Program} {l : Launch} {e : Env} {s : State} {m : MethodId} {args : Array Value} {below : List Frame} {meth : Method} {c : Code} {g : En} {N : Nat} {S8 : St} {res : Int64} (C : cxr g (wd_8 g S8) cX8_digest 5 (some .long) wsX8_digest RX8 p s m args meth c) (k6 : Int64 → Int32 → Option (Int64)) (H6 : ∀ (ls : Array Slot) (x1 : Int64) (x3 : Int32), lv_has ls 5 [(0, .ref (g.2.2.1 8)), (1, .long x1), (3, .int x3)] → k6 x1 x3 = some res → W p l e (headSpec wsX8_digest { frames := 5, cells := 0, slots := 0, locals := 119 }).room s m args below meth c s.heap [] 0 0 (MQ below (vp_Sl (fun r => r = res)) args s 0 0 (fun _ => False)) (F0 m 6 ls [])) : ∀ (ls : Array Slot) (x1 : Int64) (x3 : Int32), lv_has ls 5 [(0, .ref (g.2.2.1 8)), (1, .long x1), (3, .int x3)] → f_X8_digest_6_b N S8  k6 x1 x3 = some res → W p l e (headSpec wsX8_digest { frames := 5, cells := 0, slots := 0, locals := 119 }).room s m args below meth c s.heap [] 0 0 (MQ below (vp_Sl (fun r => r = res)) args s 0 0 (fun _ => False)) (F0 m 6 ls []) := by
  intro ls x1 x3 hl hf
  obtain ⟨⟨hx, hb, hr, hml, hown, hts, hlk⟩, hK, hP⟩ := id C
  unfold f_X8_digest_6_b at hf
  refine lv_iload_n (pc := 6) hx hb dX8_digest_6 rfl (lv_at hl 2 rfl) ?_
  refine lv_bipush (v := 8) (pc := 7) hx hb dX8_digest_7 (by decide) ?_
  refine lv_icmp_ge (tgt := 31) (pc := 9) hx hb dX8_digest_9 (by decide) (fun c9 => ?_) (fun c9 => ?_)
  · have hf := ft hf c9
    refine lv_iconst (v := 0) (pc := 31) hx hb dX8_digest_31 (by decide) ?_
    refine lv_istore_n (lv' := [(3, .int 0), (0, .ref (g.2.2.1 8)), (1, .long x1)]) (pc := 32) hx hb dX8_digest_32 rfl hl (by decide) rfl (fun ls hl => ?_)
    exact w_X8_digest_33 C  N ls x1 0 (lv_sub hl [1, 2, 0] rfl) hf
  · have hf := ff hf c9
    refine lv_ldc2 (v := 31) (pc := 12) hx hb hown (hts _ q_X8_digest_0) dX8_digest_12 ?_
    refine lv_lload_n (pc := 15) hx hb dX8_digest_15 rfl (lv_at hl 1 rfl) ?_
    refine lv_lmul (pc := 16) hx hb dX8_digest_16 ?_
    refine lv_aload_n (pc := 17) hx hb dX8_digest_17 rfl (lv_at hl 0 rfl) ?_
    refine lv_iload_n (pc := 18) hx hb dX8_digest_18 rfl (lv_at hl 2 rfl) ?_
    obtain ⟨r19, e19, hf⟩ := bdE hf
    refine krI (g := g) (wc := (wd_8 g S8)) (pc := 19) (As := [.int x3]) (rest := [.long (31 * x1)]) ⟨hx, hb, hml, hown, hts⟩ (c_X8_tellsCount l g N S8 x3 r19 e19) (cwV 1 hts gX8_digest_X8_tellsCount rfl rfl rfl h_X8_tellsCount ⟨Nat.le_of_ble_eq_true rfl, Nat.le_of_ble_eq_true rfl⟩) hK hP rfl rfl rfl hl.1 rfl (Nat.le_of_ble_eq_true rfl) dX8_digest_19 ⟨Nat.zero_le _, Nat.zero_le _⟩ ?_
    refine lv_i2l (pc := 22) hx hb dX8_digest_22 rfl ?_
    refine lv_ladd (pc := 23) hx hb dX8_digest_23 ?_
    refine lv_lstore_n (lv' := [(1, .long ((31 * x1) + (Int32.toInt64 r19))), (0, .ref (g.2.2.1 8)), (3, .int x3)]) (pc := 24) hx hb dX8_digest_24 rfl hl (by decide) rfl (fun ls hl => ?_)
    refine lv_iinc (v := (x3 + 1)) (lv' := [(3, .int (x3 + 1)), (1, .long ((31 * x1) + (Int32.toInt64 r19))), (0, .ref (g.2.2.1 8))]) (pc := 25) hx hb dX8_digest_25 hl (k := 2) rfl rfl (by decide) rfl (fun ls hl => ?_)
    refine lv_goto (tgt := 6) (pc := 28) hx hb dX8_digest_28 (by decide) ?_
    exact H6 ls ((31 * x1) + (Int32.toInt64 r19)) (x3 + 1) (lv_sub hl [2, 1, 0] rfl) hf
set_option maxHeartbeats 4000000 in
set_option maxRecDepth 100000 in
theorem w_X8_digest_6 {p : Program} {l : Launch} {e : Env} {s : State} {m : MethodId} {args : Array Value} {below : List Frame} {meth : Method} {c : Code} {g : En} {N : Nat} {S8 : St} {res : Int64} (C : cxr g (wd_8 g S8) cX8_digest 5 (some .long) wsX8_digest RX8 p s m args meth c) : ∀ (n : Nat), ∀ (ls : Array Slot) (x1 : Int64) (x3 : Int32), lv_has ls 5 [(0, .ref (g.2.2.1 8)), (1, .long x1), (3, .int x3)] → f_X8_digest_6 N S8  n x1 x3 = some res → W p l e (headSpec wsX8_digest { frames := 5, cells := 0, slots := 0, locals := 119 }).room s m args below meth c s.heap [] 0 0 (MQ below (vp_Sl (fun r => r = res)) args s 0 0 (fun _ => False)) (F0 m 6 ls []) := by
  intro n
  induction n with
  | zero =>
    intro ls x1 x3 hl hf
    have hf : (none : Option (Int64)) = some res := hf
    cases hf
  | succ n ih =>
    intro ls x1 x3 hl hf
    exact w_X8_digest_6_b C  (fun y0 y1 => f_X8_digest_6 N S8  n y0 y1) ih ls x1 x3 hl hf
set_option maxHeartbeats 4000000 in
set_option maxRecDepth 100000 in
theorem c_X8_digest (l : Launch) (g : En) (N : Nat) (S8 : St) (res : Int64) (hf : f_X8_digest N S8 = some res) : Met l yX8_digest wsX8_digest { frames := 5, cells := 0, slots := 0, locals := 119 } (roP g (wd_8 g S8) [.ref (g.2.2.1 8)]) (vp_Sl (fun r => r = res)) 0 0 (fun _ => False) := by
  refine Met.ofW (cc := cX8_digest) (maxL := 5) (ret := (some .long)) (by decide) rfl ?_
  intro p e s m args below meth c s₁ B hml hv
  obtain ⟨rfl, hP, hK⟩ := hv
  have hx := B.exec
  have hb := B.bytes
  have hr := B.returns
  have hts := atoms_spec (ws := wsX8_digest) B.pre
  have hown : s.vm.findClass RX8 = some m.cls := findClass_of_methodNamed B.named
  have hlk := B.notSynchronized
  have C : cxr g (wd_8 g S8) cX8_digest 5 (some .long) wsX8_digest RX8 p s m ([.ref (g.2.2.1 8)] : List Value).toArray meth c := ⟨⟨hx, hb, hr, hml, hown, hts, hlk⟩, hK, hP⟩
  have hl := lv_entry [.ref (g.2.2.1 8)] (n := 5) (Nat.le_of_ble_eq_true rfl)
  rw [lg_entry_eq]
  generalize (lg_sl [.ref (g.2.2.1 8)] ++ List.replicate (5 - (lg_sl [.ref (g.2.2.1 8)]).length) Slot.unset).toArray = ls at hl ⊢
  have hl : lv_has ls 5 [(0, .ref (g.2.2.1 8))] := hl
  unfold f_X8_digest at hf
  refine lv_ldc2 (v := 17) (pc := 0) hx hb hown (hts _ q_X8_digest_12) dX8_digest_0 ?_
  refine lv_lstore_n (lv' := [(1, .long 17), (0, .ref (g.2.2.1 8))]) (pc := 3) hx hb dX8_digest_3 rfl hl (by decide) rfl (fun ls hl => ?_)
  refine lv_iconst (v := 0) (pc := 4) hx hb dX8_digest_4 (by decide) ?_
  refine lv_istore_n (lv' := [(3, .int 0), (1, .long 17), (0, .ref (g.2.2.1 8))]) (pc := 5) hx hb dX8_digest_5 rfl hl (by decide) rfl (fun ls hl => ?_)
  exact w_X8_digest_6 C  N ls 17 0 (lv_sub hl [2, 1, 0] rfl) hf
