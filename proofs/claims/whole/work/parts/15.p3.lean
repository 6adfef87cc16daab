theorem q_X3_isFull_0 : (.fieldLink RX3 25 "PictureCourt$Opinions" "size" "I" : Cond) ∈ wsX3_isFull := by decide +kernel
theorem h_X3_isFull : yX3_isFull.cls = RX3 ∧ yX3_isFull.cls ≠ "java/lang/invoke/MethodHandle" ∧ yX3_isFull.cls ≠ "java/lang/invoke/VarHandle" ∧ (parseMethodDescriptor yX3_isFull.desc).map (fun d => d.parameters.length) = some 0 := by decide +kernel
set_option maxHeartbeats 4000000 in
set_option maxRecDepth 100000 in
theorem c_X3_isFull (l : Launch) (g : En) (N : Nat) (S3 : St) (res : Int32) (hf : f_X3_isFull N S3 = some res) : Met l yX3_isFull wsX3_isFull { frames := 0, cells := 0, slots := 0, locals := 0 } (roP g (wd_3 g S3) [.ref (g.2.2.1 3)]) (vp_Si (fun r => r = res)) 0 0 (fun _ => False) := by
  refine Met.ofW (cc := cX3_isFull) (maxL := 1) (ret := (some .boolean)) (by decide) rfl ?_
  intro p e s m args below meth c s₁ B hml hv
  obtain ⟨rfl, hP, hK⟩ := hv
  have hx := B.exec
  have hb := B.bytes
  have hr := B.returns
  have hts := atoms_spec (ws := wsX3_isFull) B.pre
  have hown : s.vm.findClass RX3 = some m.cls := findClass_of_methodNamed B.named
  have hlk := B.notSynchronized
  have C : cxr g (wd_3 g S3) cX3_isFull 1 (some .boolean) wsX3_isFull RX3 p s m ([.ref (g.2.2.1 3)] : List Value).toArray meth c := ⟨⟨hx, hb, hr, hml, hown, hts, hlk⟩, hK, hP⟩
  have hl := lv_entry [.ref (g.2.2.1 3)] (n := 1) (Nat.le_of_ble_eq_true rfl)
  rw [lg_entry_eq]
  generalize (lg_sl [.ref (g.2.2.1 3)] ++ List.replicate (1 - (lg_sl [.ref (g.2.2.1 3)]).length) Slot.unset).toArray = ls at hl ⊢
  have hl : lv_has ls 1 [(0, .ref (g.2.2.1 3))] := hl
  unfold f_X3_isFull at hf
  refine lv_aload_n (pc := 0) hx hb dX3_isFull_0 rfl (lv_at hl 0 rfl) ?_
  refine va_get (D := g.1) (ci := 3) (v := .int (S3.1 4)) (C := RX3) (T := TX3) (N := 7) (pc := 1) hx hb hts (fun _ h => List.mem_cons_of_mem _ (List.mem_append_right _ h)) hown hK hP 0 rfl rfl 4 (by decide) (hts _ q_X3_isFull_0) (fun _ h9 => h9) rfl dX3_isFull_1 ?_
  refine lv_bipush (v := 30) (pc := 4) hx hb dX3_isFull_4 (by decide) ?_
  refine lv_icmp_lt (tgt := 13) (pc := 6) hx hb dX3_isFull_6 (by decide) (fun c6 => ?_) (fun c6 => ?_)
  · have hf := ft hf c6
    refine lv_iconst (v := 0) (pc := 13) hx hb dX3_isFull_13 (by decide) ?_
    have hf := Option.some.inj hf
    subst hf
    exact W.zret (v := 0) hx hb hr rfl (fun t ht hW => ⟨_, rfl, rfl, ht⟩) (fun _ h => by cases h) dX3_isFull_14
  · have hf := ff hf c6
    refine lv_iconst (v := 1) (pc := 9) hx hb dX3_isFull_9 (by decide) ?_
    refine lv_goto (tgt := 14) (pc := 10) hx hb dX3_isFull_10 (by decide) ?_
    have hf := Option.some.inj hf
    subst hf
    exact W.zret (v := 1) hx hb hr rfl (fun t ht hW => ⟨_, rfl, rfl, ht⟩) (fun _ h => by cases h) dX3_isFull_14
theorem q_X3_add_0 : (.fieldLink RX3 9 "PictureCourt$Opinions" "experts" "[I" : Cond) ∈ wsX3_add := by decide +kernel
theorem q_X3_add_1 : (.fieldLink RX3 25 "PictureCourt$Opinions" "size" "I" : Cond) ∈ wsX3_add := by decide +kernel
theorem q_X3_add_2 : (.fieldLink RX3 15 "PictureCourt$Opinions" "hands" "[I" : Cond) ∈ wsX3_add := by decide +kernel
theorem q_X3_add_3 : (.fieldLink RX3 18 "PictureCourt$Opinions" "sures" "[I" : Cond) ∈ wsX3_add := by decide +kernel
theorem q_X3_add_4 : (.fieldLink RX3 21 "PictureCourt$Opinions" "knews" "[Z" : Cond) ∈ wsX3_add := by decide +kernel
theorem h_X3_add : yX3_add.cls = RX3 ∧ yX3_add.cls ≠ "java/lang/invoke/MethodHandle" ∧ yX3_add.cls ≠ "java/lang/invoke/VarHandle" ∧ (parseMethodDescriptor yX3_add.desc).map (fun d => d.parameters.length) = some 4 := by decide +kernel
set_option maxHeartbeats 4000000 in
set_option maxRecDepth 100000 in
theorem c_X3_add (l : Launch) (g : En) (N : Nat) (sz : Nat) (S3 : St) (x1 : Int32) (x2 : Int32) (x3 : Int32) (x4 : Int32) (res : Int32 × St) (hf : f_X3_add N S3 x1 x2 x3 x4 = some res) : Met l yX3_add wsX3_add { frames := 0, cells := 0, slots := 0, locals := 0 } (rwP g (wd_3 g S3) sz [.ref (g.2.2.1 3), .int x1, .int x2, .int x3, .int x4]) (rwQi g (wd_3 g (res.2)) (va_A (wd_3 g S3) sz) (res.1)) 0 0 (va_A (wd_3 g S3) sz) := by
  refine Met.ofW (cc := cX3_add) (maxL := 5) (ret := (some .int)) (by decide) rfl ?_
  intro p e s m args below meth c s₁ B hml hv
  obtain ⟨rfl, hsz, hP, hK, hD0⟩ := hv
  have hx := B.exec
  have hb := B.bytes
  have hr := B.returns
  have hts := atoms_spec (ws := wsX3_add) B.pre
  have hown : s.vm.findClass RX3 = some m.cls := findClass_of_methodNamed B.named
  have hlk := B.notSynchronized
  subst hsz
  have hD := hD0.self (sz := s.heap.size)
  generalize hAe : va_A (wd_3 g S3) s.heap.size = A at hD ⊢
  have hA : ∀ q : Nat, s.heap.size ≤ q → A q := fun q h => by rw [← hAe]; exact Or.inr h
  have hS : va_S A s.heap s.heap [] := va_S.rf
  have C : cxw g A cX3_add 5 (some .int) wsX3_add RX3 p s m ([.ref (g.2.2.1 3), .int x1, .int x2, .int x3, .int x4] : List Value).toArray meth c := ⟨⟨hx, hb, hr, hml, hown, hts, hlk⟩, hK, hA⟩
  have hl := lv_entry [.ref (g.2.2.1 3), .int x1, .int x2, .int x3, .int x4] (n := 5) (Nat.le_of_ble_eq_true rfl)
  rw [lg_entry_eq]
  generalize (lg_sl [.ref (g.2.2.1 3), .int x1, .int x2, .int x3, .int x4] ++ List.replicate (5 - (lg_sl [.ref (g.2.2.1 3), .int x1, .int x2, .int x3, .int x4]).length) Slot.unset).toArray = ls at hl ⊢
  have hl : lv_has ls 5 [(0, .ref (g.2.2.1 3)), (1, .int x1), (2, .int x2), (3, .int x3), (4, .int x4)] := hl
  unfold f_X3_add at hf
  suffices K9 : ∀ (H : Heap) (locs : List Loc), va_P g.1 vwCl (wd_3 g S3) H → va_D A (wd_3 g S3) → va_S A s.heap H locs → (if inb (S3.1 4) 30 = true then (if inb (S3.1 4) 30 = true then (if inb (S3.1 4) 30 = true then (if inb (S3.1 4) 30 = true then some (((S3.1 4) + 1), (sI (sA (sA (sA (sA S3 0 (upd (S3.2.2 0) (Int32.toNatClampNeg (S3.1 4)) x1)) 1 (upd (S3.2.2 1) (Int32.toNatClampNeg (S3.1 4)) x2)) 2 (upd (S3.2.2 2) (Int32.toNatClampNeg (S3.1 4)) x3)) 3 (upd (S3.2.2 3) (Int32.toNatClampNeg (S3.1 4)) (vp_nar .boolean x4))) 4 ((S3.1 4) + 1))) else none) else none) else none) else none) = some res → W p l e (headSpec wsX3_add { frames := 0, cells := 0, slots := 0, locals := 0 }).room s m ([.ref (g.2.2.1 3), .int x1, .int x2, .int x3, .int x4] : List Value).toArray below meth c H locs 0 0 (MQ below (rwQi g (wd_3 g (res.2)) A (res.1)) ([.ref (g.2.2.1 3), .int x1, .int x2, .int x3, .int x4] : List Value).toArray s 0 0 A) (F0 m 0 ls []) from K9 s.heap [] hP hD hS hf
  clear hP hD hS hf
  intro H locs hP hD hS hf
  refine lv_aload_n (pc := 0) hx hb dX3_add_0 rfl (lv_at hl 0 rfl) ?_
  refine va_get (D := g.1) (ci := 3) (v := .ref (g.2.2.2 3 0)) (C := RX3) (T := TX3) (N := 7) (pc := 1) hx hb hts (fun _ h => List.mem_cons_of_mem _ (List.mem_append_right _ h)) hown hK hP 0 rfl rfl 0 (by decide) (hts _ q_X3_add_0) (fun _ h9 => h9) rfl dX3_add_1 ?_
  refine lv_aload_n (pc := 4) hx hb dX3_add_4 rfl (lv_at hl 0 rfl) ?_
  refine va_get (D := g.1) (ci := 3) (v := .int (S3.1 4)) (C := RX3) (T := TX3) (N := 7) (pc := 5) hx hb hts (fun _ h => List.mem_cons_of_mem _ (List.mem_append_right _ h)) hown hK hP 0 rfl rfl 4 (by decide) (hts _ q_X3_add_1) (fun _ h9 => h9) rfl dX3_add_5 ?_
  refine lv_iload_n (pc := 8) hx hb dX3_add_8 rfl (lv_at hl 1 rfl) ?_
  obtain ⟨b9, hf⟩ := gdE hf
  refine va_iast (D := g.1) (tys := tyl g) (f := (S3.2.2 0)) (pc := 9) hx hb hK hP hD hS 1 0 rfl rfl (inbV b9) dX3_add_9 (fun H locs hP hD hS => ?_)
  have hP := u_3_3_0P S3 (upd (S3.2.2 0) (Int32.toNatClampNeg (S3.1 4)) x1) hP
  have hD := u_3_3_0D S3 (upd (S3.2.2 0) (Int32.toNatClampNeg (S3.1 4)) x1) hD
  refine lv_aload_n (pc := 10) hx hb dX3_add_10 rfl (lv_at hl 0 rfl) ?_
  refine va_get (D := g.1) (ci := 3) (v := .ref (g.2.2.2 3 1)) (C := RX3) (T := TX3) (N := 7) (pc := 11) hx hb hts (fun _ h => List.mem_cons_of_mem _ (List.mem_append_right _ h)) hown hK hP 0 rfl rfl 1 (by decide) (hts _ q_X3_add_2) (fun _ h9 => h9) rfl dX3_add_11 ?_
  refine lv_aload_n (pc := 14) hx hb dX3_add_14 rfl (lv_at hl 0 rfl) ?_
  refine va_get (D := g.1) (ci := 3) (v := .int (S3.1 4)) (C := RX3) (T := TX3) (N := 7) (pc := 15) hx hb hts (fun _ h => List.mem_cons_of_mem _ (List.mem_append_right _ h)) hown hK hP 0 rfl rfl 4 (by decide) (hts _ q_X3_add_1) (fun _ h9 => h9) rfl dX3_add_15 ?_
  refine lv_iload_n (pc := 18) hx hb dX3_add_18 rfl (lv_at hl 2 rfl) ?_
  obtain ⟨b19, hf⟩ := gdE hf
  refine va_iast (D := g.1) (tys := tyl g) (f := (S3.2.2 1)) (pc := 19) hx hb hK hP hD hS 2 0 rfl rfl (inbV b19) dX3_add_19 (fun H locs hP hD hS => ?_)
  have hP := u_3_3_1P (sA S3 0 (upd (S3.2.2 0) (Int32.toNatClampNeg (S3.1 4)) x1)) (upd (S3.2.2 1) (Int32.toNatClampNeg (S3.1 4)) x2) hP
  have hD := u_3_3_1D (sA S3 0 (upd (S3.2.2 0) (Int32.toNatClampNeg (S3.1 4)) x1)) (upd (S3.2.2 1) (Int32.toNatClampNeg (S3.1 4)) x2) hD
  refine lv_aload_n (pc := 20) hx hb dX3_add_20 rfl (lv_at hl 0 rfl) ?_
  refine va_get (D := g.1) (ci := 3) (v := .ref (g.2.2.2 3 2)) (C := RX3) (T := TX3) (N := 7) (pc := 21) hx hb hts (fun _ h => List.mem_cons_of_mem _ (List.mem_append_right _ h)) hown hK hP 0 rfl rfl 2 (by decide) (hts _ q_X3_add_3) (fun _ h9 => h9) rfl dX3_add_21 ?_
  refine lv_aload_n (pc := 24) hx hb dX3_add_24 rfl (lv_at hl 0 rfl) ?_
  refine va_get (D := g.1) (ci := 3) (v := .int (S3.1 4)) (C := RX3) (T := TX3) (N := 7) (pc := 25) hx hb hts (fun _ h => List.mem_cons_of_mem _ (List.mem_append_right _ h)) hown hK hP 0 rfl rfl 4 (by decide) (hts _ q_X3_add_1) (fun _ h9 => h9) rfl dX3_add_25 ?_
  refine lv_iload_n (pc := 28) hx hb dX3_add_28 rfl (lv_at hl 3 rfl) ?_
  obtain ⟨b29, hf⟩ := gdE hf
  refine va_iast (D := g.1) (tys := tyl g) (f := (S3.2.2 2)) (pc := 29) hx hb hK hP hD hS 3 0 rfl rfl (inbV b29) dX3_add_29 (fun H locs hP hD hS => ?_)
  have hP := u_3_3_2P (sA (sA S3 0 (upd (S3.2.2 0) (Int32.toNatClampNeg (S3.1 4)) x1)) 1 (upd (S3.2.2 1) (Int32.toNatClampNeg (S3.1 4)) x2)) (upd (S3.2.2 2) (Int32.toNatClampNeg (S3.1 4)) x3) hP
  have hD := u_3_3_2D (sA (sA S3 0 (upd (S3.2.2 0) (Int32.toNatClampNeg (S3.1 4)) x1)) 1 (upd (S3.2.2 1) (Int32.toNatClampNeg (S3.1 4)) x2)) (upd (S3.2.2 2) (Int32.toNatClampNeg (S3.1 4)) x3) hD
  refine lv_aload_n (pc := 30) hx hb dX3_add_30 rfl (lv_at hl 0 rfl) ?_
  refine va_get (D := g.1) (ci := 3) (v := .ref (g.2.2.2 3 3)) (C := RX3) (T := TX3) (N := 7) (pc := 31) hx hb hts (fun _ h => List.mem_cons_of_mem _ (List.mem_append_right _ h)) hown hK hP 0 rfl rfl 3 (by decide) (hts _ q_X3_add_4) (fun _ h9 => h9) rfl dX3_add_31 ?_
  refine lv_aload_n (pc := 34) hx hb dX3_add_34 rfl (lv_at hl 0 rfl) ?_
  refine va_get (D := g.1) (ci := 3) (v := .int (S3.1 4)) (C := RX3) (T := TX3) (N := 7) (pc := 35) hx hb hts (fun _ h => List.mem_cons_of_mem _ (List.mem_append_right _ h)) hown hK hP 0 rfl rfl 4 (by decide) (hts _ q_X3_add_1) (fun _ h9 => h9) rfl dX3_add_35 ?_
  refine lv_iload (pc := 38) hx hb dX3_add_38 (lv_at hl 4 rfl) ?_
  obtain ⟨b40, hf⟩ := gdE hf
  refine va_zast (D := g.1) (tys := tyl g) (f := (S3.2.2 3)) (pc := 40) hx hb hK hP hD hS 4 2 rfl rfl (inbV b40) dX3_add_40 (fun H locs hP hD hS => ?_)
  have hP := u_3_3_3P (sA (sA (sA S3 0 (upd (S3.2.2 0) (Int32.toNatClampNeg (S3.1 4)) x1)) 1 (upd (S3.2.2 1) (Int32.toNatClampNeg (S3.1 4)) x2)) 2 (upd (S3.2.2 2) (Int32.toNatClampNeg (S3.1 4)) x3)) (upd (S3.2.2 3) (Int32.toNatClampNeg (S3.1 4)) (vp_nar .boolean x4)) hP
  have hD := u_3_3_3D (sA (sA (sA S3 0 (upd (S3.2.2 0) (Int32.toNatClampNeg (S3.1 4)) x1)) 1 (upd (S3.2.2 1) (Int32.toNatClampNeg (S3.1 4)) x2)) 2 (upd (S3.2.2 2) (Int32.toNatClampNeg (S3.1 4)) x3)) (upd (S3.2.2 3) (Int32.toNatClampNeg (S3.1 4)) (vp_nar .boolean x4)) hD
  refine lv_aload_n (pc := 41) hx hb dX3_add_41 rfl (lv_at hl 0 rfl) ?_
  refine lv_dup (pc := 42) hx hb dX3_add_42 rfl ?_
  refine va_get (D := g.1) (ci := 3) (v := .int (S3.1 4)) (C := RX3) (T := TX3) (N := 7) (pc := 43) hx hb hts (fun _ h => List.mem_cons_of_mem _ (List.mem_append_right _ h)) hown hK hP 0 rfl rfl 4 (by decide) (hts _ q_X3_add_1) (fun _ h9 => h9) rfl dX3_add_43 ?_
  refine lv_iconst (v := 1) (pc := 46) hx hb dX3_add_46 (by decide) ?_
  refine lv_iadd (pc := 47) hx hb dX3_add_47 ?_
  refine va_put (D := g.1) (ci := 3) (v := .int ((S3.1 4) + 1)) (ty := .int) (C := RX3) (T := TX3) (N := 7) (pc := 48) hx hb hts (fun _ h => List.mem_cons_of_mem _ (List.mem_append_right _ h)) tyX3 tyX3_ok nmX3 hown hK hP hD hS 0 rfl rfl 4 (by decide) (hts _ q_X3_add_1) (fun _ h9 => h9) rfl rfl rfl rfl (Nat.le_of_ble_eq_true rfl) dX3_add_48 (fun H locs hP hD hS => ?_)
  have hP := u_3_3_4P (sA (sA (sA (sA S3 0 (upd (S3.2.2 0) (Int32.toNatClampNeg (S3.1 4)) x1)) 1 (upd (S3.2.2 1) (Int32.toNatClampNeg (S3.1 4)) x2)) 2 (upd (S3.2.2 2) (Int32.toNatClampNeg (S3.1 4)) x3)) 3 (upd (S3.2.2 3) (Int32.toNatClampNeg (S3.1 4)) (vp_nar .boolean x4))) ((S3.1 4) + 1) hP
  have hD := u_3_3_4D (sA (sA (sA (sA S3 0 (upd (S3.2.2 0) (Int32.toNatClampNeg (S3.1 4)) x1)) 1 (upd (S3.2.2 1) (Int32.toNatClampNeg (S3.1 4)) x2)) 2 (upd (S3.2.2 2) (Int32.toNatClampNeg (S3.1 4)) x3)) 3 (upd (S3.2.2 3) (Int32.toNatClampNeg (S3.1 4)) (vp_nar .boolean x4))) ((S3.1 4) + 1) hD
  refine lv_aload_n (pc := 51) hx hb dX3_add_51 rfl (lv_at hl 0 rfl) ?_
  refine va_get (D := g.1) (ci := 3) (v := .int ((S3.1 4) + 1)) (C := RX3) (T := TX3) (N := 7) (pc := 52) hx hb hts (fun _ h => List.mem_cons_of_mem _ (List.mem_append_right _ h)) hown hK hP 0 rfl rfl 4 (by decide) (hts _ q_X3_add_1) (fun _ h9 => h9) rfl dX3_add_52 ?_
  have hf := Option.some.inj hf
  subst hf
  exact W.iret (v := ((S3.1 4) + 1)) hx hb hr (fun t ht hW => ⟨⟨_, (), rfl, rfl, by rw [ht]; exact hP, va_K.moved hW.alike hK, hD⟩, hS.F ht⟩) hS.2.2 dX3_add_55
theorem q_X3_howMany_0 : (.fieldLink RX3 25 "PictureCourt$Opinions" "size" "I" : Cond) ∈ wsX3_howMany := by decide +kernel
theorem q_X3_howMany_1 : (.fieldLink RX3 15 "PictureCourt$Opinions" "hands" "[I" : Cond) ∈ wsX3_howMany := by decide +kernel
theorem q_X3_howMany_2 : (.fieldLink RX3 21 "PictureCourt$Opinions" "knews" "[Z" : Cond) ∈ wsX3_howMany := by decide +kernel
theorem h_X3_howMany : yX3_howMany.cls = RX3 ∧ yX3_howMany.cls ≠ "java/lang/invoke/MethodHandle" ∧ yX3_howMany.cls ≠ "java/lang/invoke/VarHandle" ∧ (parseMethodDescriptor yX3_howMany.desc).map (fun d => d.parameters.length) = some 2 := by decide +kernel
set_option maxHeartbeats 4000000 in
set_option maxRecDepth 100000 in
theorem w_X3_howMany_39 {p : Program} {l : Launch} {e : Env} {s : State} {m : MethodId} {args : Array Value} {below : List Frame} {meth : Method} {c : Code} {g : En} {N : Nat} {S3 : St} {res : Int32} (C : cxr g (wd_3 g S3) cX3_howMany 5 (some .int) wsX3_howMany RX3 p s m args meth c) (k5 : Int32 → Int32 → Int32 → Int32 → Option (Int32)) (H5 : ∀ (ls : Array Slot) (x1 : Int32) (x2 : Int32) (x3 : Int32) (x4 : Int32), lv_has ls 5 [(0, .ref (g.2.2.1 3)), (1, .int x1), (2, .int x2), (3, .int x3), (4, .int x4)] → k5 x1 x2 x3 x4 = some res → W p l e (headSpec wsX3_howMany { frames := 0, cells := 0, slots := 0, locals := 0 }).room s m args below meth c s.heap [] 0 0 (MQ below (vp_Si (fun r => r = res)) args s 0 0 (fun _ => False)) (F0 m 5 ls [])) : ∀ (ls : Array Slot) (x1 : Int32) (x2 : Int32) (x3 : Int32) (x4 : Int32), lv_has ls 5 [(0, .ref (g.2.2.1 3)), (1, .int x1), (2, .int x2), (3, .int x3), (4, .int x4)] → f_X3_howMany_39 N S3 k5 x1 x2 x3 x4 = some res → W p l e (headSpec wsX3_howMany { frames := 0, cells := 0, slots := 0, locals := 0 }).room s m args below meth c s.heap [] 0 0 (MQ below (vp_Si (fun r => r = res)) args s 0 0 (fun _ => False)) (F0 m 39 ls []) := by
  intro ls x1 x2 x3 x4 hl hf
  obtain ⟨⟨hx, hb, hr, hml, hown, hts, hlk⟩, hK, hP⟩ := id C
  unfold f_X3_howMany_39 at hf
  refine lv_iinc (v := (x4 + 1)) (lv' := [(4, .int (x4 + 1)), (0, .ref (g.2.2.1 3)), (1, .int x1), (2, .int x2), (3, .int x3)]) (pc := 39) hx hb dX3_howMany_39 hl (k := 4) rfl rfl (by decide) rfl (fun ls hl => ?_)
  refine lv_goto (tgt := 5) (pc := 42) hx hb dX3_howMany_42 (by decide) ?_
  exact H5 ls x1 x2 x3 (x4 + 1) (lv_sub hl [1, 2, 3, 4, 0] rfl) hf
set_option maxHeartbeats 4000000 in
set_option maxRecDepth 100000 in
theorem w_X3_howMany_5_b {p : Program} {l : Launch} {e : Env} {s : State} {m : MethodId} {args : Array Value} {below : List Frame} {meth : Method} {c : Code} {g : En} {N : Nat} {S3 : St} {res : Int32} (C : cxr g (wd_3 g S3) cX3_howMany 5 (some .int) wsX3_howMany RX3 p s m args meth c) (k5 : Int32 → Int32 → Int32 → Int32 → Option (Int32)) (H5 : ∀ (ls : Array Slot) (x1 : Int32) (x2 : Int32) (x3 : Int32) (x4 : Int32), lv_has ls 5 [(0, .ref (g.2.2.1 3)), (1, .int x1), (2, .int x2), (3, .int x3), (4, .int x4)] → k5 x1 x2 x3 x4 = some res → W p l e (headSpec wsX3_howMany { frames := 0, cells := 0, slots := 0, locals := 0 }).room s m args below meth c s.heap [] 0 0 (MQ below (vp_Si (fun r => r = res)) args s 0 0 (fun _ => False)) (F0 m 5 ls [])) : ∀ (ls : Array Slot) (x1 : Int32) (x2 : Int32) (x3 : Int32) (x4 : Int32), lv_has ls 5 [(0, .ref (g.2.2.1 3)), (1, .int x1), (2, .int x2), (3, .int x3), (4, .int x4)] → f_X3_howMany_5_b N S3  k5 x1 x2 x3 x4 = some res → W p l e (headSpec wsX3_howMany { frames := 0, cells := 0, slots := 0, locals := 0 }).room s m args below meth c s.heap [] 0 0 (MQ below (vp_Si (fun r => r = res)) args s 0 0 (fun _ => False)) (F0 m 5 ls []) := by
  intro ls x1 x2 x3 x4 hl hf
  obtain ⟨⟨hx, hb, hr, hml, hown, hts, hlk⟩, hK, hP⟩ := id C
  unfold f_X3_howMany_5_b at hf
  refine lv_iload (pc := 5) hx hb dX3_howMany_5 (lv_at hl 4 rfl) ?_
  refine lv_aload_n (pc := 7) hx hb dX3_howMany_7 rfl (lv_at hl 0 rfl) ?_
  refine va_get (D := g.1) (ci := 3) (v := .int (S3.1 4)) (C := RX3) (T := TX3) (N := 7) (pc := 8) hx hb hts (fun _ h => List.mem_cons_of_mem _ (List.mem_append_right _ h)) hown hK hP 0 rfl rfl 4 (by decide) (hts _ q_X3_howMany_0) (fun _ h9 => h9) rfl dX3_howMany_8 ?_
  refine lv_icmp_ge (tgt := 45) (pc := 11) hx hb dX3_howMany_11 (by decide) (fun c11 => ?_) (fun c11 => ?_)
  · have hf := ft hf c11
    refine lv_iload_n (pc := 45) hx hb dX3_howMany_45 rfl (lv_at hl 3 rfl) ?_
    have hf := Option.some.inj hf
    subst hf
    exact W.iret (v := x3) hx hb hr (fun t ht hW => ⟨_, rfl, rfl, ht⟩) (fun _ h => by cases h) dX3_howMany_46
  · have hf := ff hf c11
    refine lv_aload_n (pc := 14) hx hb dX3_howMany_14 rfl (lv_at hl 0 rfl) ?_
    refine va_get (D := g.1) (ci := 3) (v := .ref (g.2.2.2 3 1)) (C := RX3) (T := TX3) (N := 7) (pc := 15) hx hb hts (fun _ h => List.mem_cons_of_mem _ (List.mem_append_right _ h)) hown hK hP 0 rfl rfl 1 (by decide) (hts _ q_X3_howMany_1) (fun _ h9 => h9) rfl dX3_howMany_15 ?_
    refine lv_iload (pc := 18) hx hb dX3_howMany_18 (lv_at hl 4 rfl) ?_
    obtain ⟨b20, hf⟩ := gdE hf
    refine va_iald (D := g.1) (tys := tyl g) (f := (S3.2.2 1)) (pc := 20) hx hb hK hP 2 0 rfl rfl (inbV b20) dX3_howMany_20 ?_
    refine lv_iload_n (pc := 21) hx hb dX3_howMany_21 rfl (lv_at hl 1 rfl) ?_
    refine lv_icmp_ne (tgt := 39) (pc := 22) hx hb dX3_howMany_22 (by decide) (fun c22 => ?_) (fun c22 => ?_)
    · have hf := ff hf c22
      exact w_X3_howMany_39 C k5 H5 ls x1 x2 x3 x4 (lv_sub hl [0, 1, 2, 3, 4] rfl) hf
    · have hf := ft hf c22
      refine lv_aload_n (pc := 25) hx hb dX3_howMany_25 rfl (lv_at hl 0 rfl) ?_
      refine va_get (D := g.1) (ci := 3) (v := .ref (g.2.2.2 3 3)) (C := RX3) (T := TX3) (N := 7) (pc := 26) hx hb hts (fun _ h => List.mem_cons_of_mem _ (List.mem_append_right _ h)) hown hK hP 0 rfl rfl 3 (by decide) (hts _ q_X3_howMany_2) (fun _ h9 => h9) rfl dX3_howMany_26 ?_
      refine lv_iload (pc := 29) hx hb dX3_howMany_29 (lv_at hl 4 rfl) ?_
      obtain ⟨b31, hf⟩ := gdE hf
      refine va_zald (D := g.1) (tys := tyl g) (f := (S3.2.2 3)) (pc := 31) hx hb hK hP 4 2 rfl rfl (inbV b31) dX3_howMany_31 ?_
      refine lv_iload_n (pc := 32) hx hb dX3_howMany_32 rfl (lv_at hl 2 rfl) ?_
      refine lv_icmp_ne (tgt := 39) (pc := 33) hx hb dX3_howMany_33 (by decide) (fun c33 => ?_) (fun c33 => ?_)
      · have hf := ff hf c33
        exact w_X3_howMany_39 C k5 H5 ls x1 x2 x3 x4 (lv_sub hl [0, 1, 2, 3, 4] rfl) hf
      · have hf := ft hf c33
        refine lv_iinc (v := (x3 + 1)) (lv' := [(3, .int (x3 + 1)), (0, .ref (g.2.2.1 3)), (1, .int x1), (2, .int x2), (4, .int x4)]) (pc := 36) hx hb dX3_howMany_36 hl (k := 3) rfl rfl (by decide) rfl (fun ls hl => ?_)
        exact w_X3_howMany_39 C k5 H5 ls x1 x2 (x3 + 1) x4 (lv_sub hl [1, 2, 3, 0, 4] rfl) hf
set_option maxHeartbeats 4000000 in
set_option maxRecDepth 100000 in
theorem w_X3_howMany_5 {p : Program} {l : Launch} {e : Env} {s : State} {m : MethodId} {args : Array Value} {below : List Frame} {meth : Method} {c : Code} {g : En} {N : Nat} {S3 : St} {res : Int32} (C : cxr g (wd_3 g S3) cX3_howMany 5 (some .int) wsX3_howMany RX3 p s m args meth c) : ∀ (n : Nat), ∀ (ls : Array Slot) (x1 : Int32) (x2 : Int32) (x3 : Int32) (x4 : Int32), lv_has ls 5 [(0, .ref (g.2.2.1 3)), (1, .int x1), (2, .int x2), (3, .int x3), (4, .int x4)] → f_X3_howMany_5 N S3  n x1 x2 x3 x4 = some res → W p l e (headSpec wsX3_howMany { frames := 0, cells := 0, slots := 0, locals := 0 }).room s m args below meth c s.heap [] 0 0 (MQ below (vp_Si (fun r => r = res)) args s 0 0 (fun _ => False)) (F0 m 5 ls []) := by
  intro n
  induction n with
  | zero =>
    intro ls x1 x2 x3 x4 hl hf
    have hf : (none : Option (Int32)) = some res := hf
    cases hf
  | succ n ih =>
    intro ls x1 x2 x3 x4 hl hf
    exact w_X3_howMany_5_b C  (fun y0 y1 y2 y3 => f_X3_howMany_5 N S3  n y0 y1 y2 y3) ih ls x1 x2 x3 x4 hl hf
set_option maxHeartbeats 4000000 in
set_option maxRecDepth 100000 in
theorem c_X3_howMany (l : Launch) (g : En) (N : Nat) (S3 : St) (x1 : Int32) (x2 : Int32) (res : Int32) (hf : f_X3_howMany N S3 x1 x2 = some res) : Met l yX3_howMany wsX3_howMany { frames := 0, cells := 0, slots := 0, locals := 0 } (roP g (wd_3 g S3) [.ref (g.2.2.1 3), .int x1, .int x2]) (vp_Si (fun r => r = res)) 0 0 (fun _ => False) := by
  refine Met.ofW (cc := cX3_howMany) (maxL := 5) (ret := (some .int)) (by decide) rfl ?_
  intro p e s m args below meth c s₁ B hml hv
  obtain ⟨rfl, hP, hK⟩ := hv
  have hx := B.exec
  have hb := B.bytes
  have hr := B.returns
  have hts := atoms_spec (ws := wsX3_howMany) B.pre
  have hown : s.vm.findClass RX3 = some m.cls := findClass_of_methodNamed B.named
  have hlk := B.notSynchronized
  have C : cxr g (wd_3 g S3) cX3_howMany 5 (some .int) wsX3_howMany RX3 p s m ([.ref (g.2.2.1 3), .int x1, .int x2] : List Value).toArray meth c := ⟨⟨hx, hb, hr, hml, hown, hts, hlk⟩, hK, hP⟩
  have hl := lv_entry [.ref (g.2.2.1 3), .int x1, .int x2] (n := 5) (Nat.le_of_ble_eq_true rfl)
  rw [lg_entry_eq]
  generalize (lg_sl [.ref (g.2.2.1 3), .int x1, .int x2] ++ List.replicate (5 - (lg_sl [.ref (g.2.2.1 3), .int x1, .int x2]).length) Slot.unset).toArray = ls at hl ⊢
  have hl : lv_has ls 5 [(0, .ref (g.2.2.1 3)), (1, .int x1), (2, .int x2)] := hl
  unfold f_X3_howMany at hf
  refine lv_iconst (v := 0) (pc := 0) hx hb dX3_howMany_0 (by decide) ?_
  refine lv_istore_n (lv' := [(3, .int 0), (0, .ref (g.2.2.1 3)), (1, .int x1), (2, .int x2)]) (pc := 1) hx hb dX3_howMany_1 rfl hl (by decide) rfl (fun ls hl => ?_)
  refine lv_iconst (v := 0) (pc := 2) hx hb dX3_howMany_2 (by decide) ?_
  refine lv_istore (lv' := [(4, .int 0), (3, .int 0), (0, .ref (g.2.2.1 3)), (1, .int x1), (2, .int x2)]) (pc := 3) hx hb dX3_howMany_3 hl (by decide) rfl (fun ls hl => ?_)
  exact w_X3_howMany_5 C  N ls x1 x2 0 0 (lv_sub hl [2, 3, 4, 1, 0] rfl) hf
theorem q_X3_sumOf_0 : (.fieldLink RX3 25 "PictureCourt$Opinions" "size" "I" : Cond) ∈ wsX3_sumOf := by decide +kernel
theorem q_X3_sumOf_1 : (.fieldLink RX3 15 "PictureCourt$Opinions" "hands" "[I" : Cond) ∈ wsX3_sumOf := by decide +kernel
theorem q_X3_sumOf_2 : (.fieldLink RX3 21 "PictureCourt$Opinions" "knews" "[Z" : Cond) ∈ wsX3_sumOf := by decide +kernel
theorem q_X3_sumOf_3 : (.fieldLink RX3 18 "PictureCourt$Opinions" "sures" "[I" : Cond) ∈ wsX3_sumOf := by decide +kernel
theorem h_X3_sumOf : yX3_sumOf.cls = RX3 ∧ yX3_sumOf.cls ≠ "java/lang/invoke/MethodHandle" ∧ yX3_sumOf.cls ≠ "java/lang/invoke/VarHandle" ∧ (parseMethodDescriptor yX3_sumOf.desc).map (fun d => d.parameters.length) = some 2 := by decide +kernel
set_option maxHeartbeats 4000000 in
set_option maxRecDepth 100000 in
theorem w_X3_sumOf_46 {p : Program} {l : Launch} {e : Env} {s : State} {m : MethodId} {args : Array Value} {below : List Frame} {meth : Method} {c : Code} {g : En} {N : Nat} {S3 : St} {res : Int32} (C : cxr g (wd_3 g S3) cX3_sumOf 5 (some .int) wsX3_sumOf RX3 p s m args meth c) (k5 : Int32 → Int32 → Int32 → Int32 → Option (Int32)) (H5 : ∀ (ls : Array Slot) (x1 : Int32) (x2 : Int32) (x3 : Int32) (x4 : Int32), lv_has ls 5 [(0, .ref (g.2.2.1 3)), (1, .int x1), (2, .int x2), (3, .int x3), (4, .int x4)] → k5 x1 x2 x3 x4 = some res → W p l e (headSpec wsX3_sumOf { frames := 0, cells := 0, slots := 0, locals := 0 }).room s m args below meth c s.heap [] 0 0 (MQ below (vp_Si (fun r => r = res)) args s 0 0 (fun _ => False)) (F0 m 5 ls [])) : ∀ (ls : Array Slot) (x1 : Int32) (x2 : Int32) (x3 : Int32) (x4 : Int32), lv_has ls 5 [(0, .ref (g.2.2.1 3)), (1, .int x1), (2, .int x2), (3, .int x3), (4, .int x4)] → f_X3_sumOf_46 N S3 k5 x1 x2 x3 x4 = some res → W p l e (headSpec wsX3_sumOf { frames := 0, cells := 0, slots := 0, locals := 0 }).room s m args below meth c s.heap [] 0 0 (MQ below (vp_Si (fun r => r = res)) args s 0 0 (fun _ => False)) (F0 m 46 ls []) := by
  intro ls x1 x2 x3 x4 hl hf
  obtain ⟨⟨hx, hb, hr, hml, hown, hts, hlk⟩, hK, hP⟩ := id C
  unfold f_X3_sumOf_46 at hf
  refine lv_iinc (v := (x4 + 1)) (lv' := [(4, .int (x4 + 1)), (0, .ref (g.2.2.1 3)), (1, .int x1), (2, .int x2), (3, .int x3)]) (pc := 46) hx hb dX3_sumOf_46 hl (k := 4) rfl rfl (by decide) rfl (fun ls hl => ?_)
  refine lv_goto (tgt := 5) (pc := 49) hx hb dX3_sumOf_49 (by decide) ?_
  exact H5 ls x1 x2 x3 (x4 + 1) (lv_sub hl [1, 2, 3, 4, 0] rfl) hf
set_option maxHeartbeats 4000000 in
set_option maxRecDepth 100000 in
theorem w_X3_sumOf_5_b {p : Program} {l : Launch} {e : Env} {s : State} {m : MethodId} {args : Array Value} {below : List Frame} {meth : Method} {c : Code} {g : En} {N : Nat} {S3 : St} {res : Int32} (C : cxr g (wd_3 g S3) cX3_sumOf 5 (some .int) wsX3_sumOf RX3 p s m args meth c) (k5 : Int32 → Int32 → Int32 → Int32 → Option (Int32)) (H5 : ∀ (ls : Array Slot) (x1 : Int32) (x2 : Int32) (x3 : Int32) (x4 : Int32), lv_has ls 5 [(0, .ref (g.2.2.1 3)), (1, .int x1), (2, .int x2), (3, .int x3), (4, .int x4)] → k5 x1 x2 x3 x4 = some res → W p l e (headSpec wsX3_sumOf { frames := 0, cells := 0, slots := 0, locals := 0 }).room s m args below meth c s.heap [] 0 0 (MQ below (vp_Si (fun r => r = res)) args s 0 0 (fun _ => False)) (F0 m 5 ls [])) : ∀ (ls : Array Slot) (x1 : Int32) (x2 : Int32) (x3 : Int32) (x4 : Int32), lv_has ls 5 [(0, .ref (g.2.2.1 3)), (1, .int x1), (2, .int x2), (3, .int x3), (4, .int x4)] → f_X3_sumOf_5_b N S3  k5 x1 x2 x3 x4 = some res → W p l e (headSpec wsX3_sumOf { frames := 0, cells := 0, slots := 0, locals := 0 }).room s m args below meth c s.heap [] 0 0 (MQ below (vp_Si (fun r => r = res)) args s 0 0 (fun _ => False)) (F0 m 5 ls []) := by
  intro ls x1 x2 x3 x4 hl hf
  obtain ⟨⟨hx, hb, hr, hml, hown, hts, hlk⟩, hK, hP⟩ := id C
  unfold f_X3_sumOf_5_b at hf
  refine lv_iload (pc := 5) hx hb dX3_sumOf_5 (lv_at hl 4 rfl) ?_
  refine lv_aload_n (pc := 7) hx hb dX3_sumOf_7 rfl (lv_at hl 0 rfl) ?_
  refine va_get (D := g.1) (ci := 3) (v := .int (S3.1 4)) (C := RX3) (T := TX3) (N := 7) (pc := 8) hx hb hts (fun _ h => List.mem_cons_of_mem _ (List.mem_append_right _ h)) hown hK hP 0 rfl rfl 4 (by decide) (hts _ q_X3_sumOf_0) (fun _ h9 => h9) rfl dX3_sumOf_8 ?_
  refine lv_icmp_ge (tgt := 52) (pc := 11) hx hb dX3_sumOf_11 (by decide) (fun c11 => ?_) (fun c11 => ?_)
  · have hf := ft hf c11
    refine lv_iload_n (pc := 52) hx hb dX3_sumOf_52 rfl (lv_at hl 3 rfl) ?_
    have hf := Option.some.inj hf
    subst hf
    exact W.iret (v := x3) hx hb hr (fun t ht hW => ⟨_, rfl, rfl, ht⟩) (fun _ h => by cases h) dX3_sumOf_53
  · have hf := ff hf c11
    refine lv_aload_n (pc := 14) hx hb dX3_sumOf_14 rfl (lv_at hl 0 rfl) ?_
    refine va_get (D := g.1) (ci := 3) (v := .ref (g.2.2.2 3 1)) (C := RX3) (T := TX3) (N := 7) (pc := 15) hx hb hts (fun _ h => List.mem_cons_of_mem _ (List.mem_append_right _ h)) hown hK hP 0 rfl rfl 1 (by decide) (hts _ q_X3_sumOf_1) (fun _ h9 => h9) rfl dX3_sumOf_15 ?_
    refine lv_iload (pc := 18) hx hb dX3_sumOf_18 (lv_at hl 4 rfl) ?_
    obtain ⟨b20, hf⟩ := gdE hf
    refine va_iald (D := g.1) (tys := tyl g) (f := (S3.2.2 1)) (pc := 20) hx hb hK hP 2 0 rfl rfl (inbV b20) dX3_sumOf_20 ?_
    refine lv_iload_n (pc := 21) hx hb dX3_sumOf_21 rfl (lv_at hl 1 rfl) ?_
    refine lv_icmp_ne (tgt := 46) (pc := 22) hx hb dX3_sumOf_22 (by decide) (fun c22 => ?_) (fun c22 => ?_)
    · have hf := ff hf c22
      exact w_X3_sumOf_46 C k5 H5 ls x1 x2 x3 x4 (lv_sub hl [0, 1, 2, 3, 4] rfl) hf
    · have hf := ft hf c22
      refine lv_aload_n (pc := 25) hx hb dX3_sumOf_25 rfl (lv_at hl 0 rfl) ?_
      refine va_get (D := g.1) (ci := 3) (v := .ref (g.2.2.2 3 3)) (C := RX3) (T := TX3) (N := 7) (pc := 26) hx hb hts (fun _ h => List.mem_cons_of_mem _ (List.mem_append_right _ h)) hown hK hP 0 rfl rfl 3 (by decide) (hts _ q_X3_sumOf_2) (fun _ h9 => h9) rfl dX3_sumOf_26 ?_
      refine lv_iload (pc := 29) hx hb dX3_sumOf_29 (lv_at hl 4 rfl) ?_
      obtain ⟨b31, hf⟩ := gdE hf
      refine va_zald (D := g.1) (tys := tyl g) (f := (S3.2.2 3)) (pc := 31) hx hb hK hP 4 2 rfl rfl (inbV b31) dX3_sumOf_31 ?_
      refine lv_iload_n (pc := 32) hx hb dX3_sumOf_32 rfl (lv_at hl 2 rfl) ?_
      refine lv_icmp_ne (tgt := 46) (pc := 33) hx hb dX3_sumOf_33 (by decide) (fun c33 => ?_) (fun c33 => ?_)
      · have hf := ff hf c33
        exact w_X3_sumOf_46 C k5 H5 ls x1 x2 x3 x4 (lv_sub hl [0, 1, 2, 3, 4] rfl) hf
      · have hf := ft hf c33
        refine lv_iload_n (pc := 36) hx hb dX3_sumOf_36 rfl (lv_at hl 3 rfl) ?_
        refine lv_aload_n (pc := 37) hx hb dX3_sumOf_37 rfl (lv_at hl 0 rfl) ?_
        refine va_get (D := g.1) (ci := 3) (v := .ref (g.2.2.2 3 2)) (C := RX3) (T := TX3) (N := 7) (pc := 38) hx hb hts (fun _ h => List.mem_cons_of_mem _ (List.mem_append_right _ h)) hown hK hP 0 rfl rfl 2 (by decide) (hts _ q_X3_sumOf_3) (fun _ h9 => h9) rfl dX3_sumOf_38 ?_
        refine lv_iload (pc := 41) hx hb dX3_sumOf_41 (lv_at hl 4 rfl) ?_
        obtain ⟨b43, hf⟩ := gdE hf
        refine va_iald (D := g.1) (tys := tyl g) (f := (S3.2.2 2)) (pc := 43) hx hb hK hP 3 0 rfl rfl (inbV b43) dX3_sumOf_43 ?_
        refine lv_iadd (pc := 44) hx hb dX3_sumOf_44 ?_
        refine lv_istore_n (lv' := [(3, .int (x3 + ((S3.2.2 2) (Int32.toNatClampNeg x4)))), (0, .ref (g.2.2.1 3)), (1, .int x1), (2, .int x2), (4, .int x4)]) (pc := 45) hx hb dX3_sumOf_45 rfl hl (by decide) rfl (fun ls hl => ?_)
        exact w_X3_sumOf_46 C k5 H5 ls x1 x2 (x3 + ((S3.2.2 2) (Int32.toNatClampNeg x4))) x4 (lv_sub hl [1, 2, 3, 0, 4] rfl) hf
set_option maxHeartbeats 4000000 in
set_option maxRecDepth 100000 in
theorem w_X3_sumOf_5 {p : Program} {l : Launch} {e : Env} {s : State} {m : MethodId} {args : Array Value} {below : List Frame} {meth : Method} {c : Code} {g : En} {N : Nat} {S3 : St} {res : Int32} (C : cxr g (wd_3 g S3) cX3_sumOf 5 (some .int) wsX3_sumOf RX3 p s m args meth c) : ∀ (n : Nat), ∀ (ls : Array Slot) (x1 : Int32) (x2 : Int32) (x3 : Int32) (x4 : Int32), lv_has ls 5 [(0, .ref (g.2.2.1 3)), (1, .int x1), (2, .int x2), (3, .int x3), (4, .int x4)] → f_X3_sumOf_5 N S3  n x1 x2 x3 x4 = some res → W p l e (headSpec wsX3_sumOf { frames := 0, cells := 0, slots := 0, locals := 0 }).room s m args below meth c s.heap [] 0 0 (MQ below (vp_Si (fun r => r = res)) args s 0 0 (fun _ => False)) (F0 m 5 ls []) := by
  intro n
  induction n with
  | zero =>
    intro ls x1 x2 x3 x4 hl hf
    have hf : (none : Option (Int32)) = some res := hf
    cases hf
  | succ n ih =>
    intro ls x1 x2 x3 x4 hl hf
    exact w_X3_sumOf_5_b C  (fun y0 y1 y2 y3 => f_X3_sumOf_5 N S3  n y0 y1 y2 y3) ih ls x1 x2 x3 x4 hl hf
set_option maxHeartbeats 4000000 in
set_option maxRecDepth 100000 in
theorem c_X3_sumOf (l : Launch) (g : En) (N : Nat) (S3 : St) (x1 : Int32) (x2 : Int32) (res : Int32) (hf : f_X3_sumOf N S3 x1 x2 = some res) : Met l yX3_sumOf wsX3_sumOf { frames := 0, cells := 0, slots := 0, locals := 0 } (roP g (wd_3 g S3) [.ref (g.2.2.1 3), .int x1, .int x2]) (vp_Si (fun r => r = res)) 0 0 (fun _ => False) := by
  refine Met.ofW (cc := cX3_sumOf) (maxL := 5) (ret := (some .int)) (by decide) rfl ?_
  intro p e s m args below meth c s₁ B hml hv
  obtain ⟨rfl, hP, hK⟩ := hv
  have hx := B.exec
  have hb := B.bytes
  have hr := B.returns
  have hts := atoms_spec (ws := wsX3_sumOf) B.pre
  have hown : s.vm.findClass RX3 = some m.cls := findClass_of_methodNamed B.named
  have hlk := B.notSynchronized
  have C : cxr g (wd_3 g S3) cX3_sumOf 5 (some .int) wsX3_sumOf RX3 p s m ([.ref (g.2.2.1 3), .int x1, .int x2] : List Value).toArray meth c := ⟨⟨hx, hb, hr, hml, hown, hts, hlk⟩, hK, hP⟩
  have hl := lv_entry [.ref (g.2.2.1 3), .int x1, .int x2] (n := 5) (Nat.le_of_ble_eq_true rfl)
  rw [lg_entry_eq]
  generalize (lg_sl [.ref (g.2.2.1 3), .int x1, .int x2] ++ List.replicate (5 - (lg_sl [.ref (g.2.2.1 3), .int x1, .int x2]).length) Slot.unset).toArray = ls at hl ⊢
  have hl : lv_has ls 5 [(0, .ref (g.2.2.1 3)), (1, .int x1), (2, .int x2)] := hl
  unfold f_X3_sumOf at hf
  refine lv_iconst (v := 0) (pc := 0) hx hb dX3_sumOf_0 (by decide) ?_
  refine lv_istore_n (lv' := [(3, .int 0), (0, .ref (g.2.2.1 3)), (1, .int x1), (2, .int x2)]) (pc := 1) hx hb dX3_sumOf_1 rfl hl (by decide) rfl (fun ls hl => ?_)
  refine lv_iconst (v := 0) (pc := 2) hx hb dX3_sumOf_2 (by decide) ?_
  refine lv_istore (lv' := [(4, .int 0), (3, .int 0), (0, .ref (g.2.2.1 3)), (1, .int x1), (2, .int x2)]) (pc := 3) hx hb dX3_sumOf_3 hl (by decide) rfl (fun ls hl => ?_)
  exact w_X3_sumOf_5 C  N ls x1 x2 0 0 (lv_sub hl [2, 3, 4, 1, 0] rfl) hf
theorem q_X3_areComparable_0 : (.fieldLink RX3 21 "PictureCourt$Opinions" "knews" "[Z" : Cond) ∈ wsX3_areComparable := by decide +kernel
theorem q_X3_areComparable_1 : (.fieldLink RX3 9 "PictureCourt$Opinions" "experts" "[I" : Cond) ∈ wsX3_areComparable := by decide +kernel
theorem q_X3_areComparable_2 : (.fieldLink RX3 15 "PictureCourt$Opinions" "hands" "[I" : Cond) ∈ wsX3_areComparable := by decide +kernel
theorem h_X3_areComparable : yX3_areComparable.cls = RX3 ∧ yX3_areComparable.cls ≠ "java/lang/invoke/MethodHandle" ∧ yX3_areComparable.cls ≠ "java/lang/invoke/VarHandle" ∧ (parseMethodDescriptor yX3_areComparable.desc).map (fun d => d.parameters.length) = some 2 := by decide +kernel
set_option maxHeartbeats 4000000 in
set_option maxRecDepth 100000 in
theorem c_X3_areComparable (l : Launch) (g : En) (N : Nat) (S3 : St) (x1 : Int32) (x2 : Int32) (res : Int32) (hf : f_X3_areComparable N S3 x1 x2 = some res) : Met l yX3_areComparable wsX3_areComparable { frames := 0, cells := 0, slots := 0, locals := 0 } (roP g (wd_3 g S3) [.ref (g.2.2.1 3), .int x1, .int x2]) (vp_Si (fun r => r = res)) 0 0 (fun _ => False) := by
  refine Met.ofW (cc := cX3_areComparable) (maxL := 3) (ret := (some .boolean)) (by decide) rfl ?_
  intro p e s m args below meth c s₁ B hml hv
  obtain ⟨rfl, hP, hK⟩ := hv
  have hx := B.exec
  have hb := B.bytes
  have hr := B.returns
  have hts := atoms_spec (ws := wsX3_areComparable) B.pre
  have hown : s.vm.findClass RX3 = some m.cls := findClass_of_methodNamed B.named
  have hlk := B.notSynchronized
  have C : cxr g (wd_3 g S3) cX3_areComparable 3 (some .boolean) wsX3_areComparable RX3 p s m ([.ref (g.2.2.1 3), .int x1, .int x2] : List Value).toArray meth c := ⟨⟨hx, hb, hr, hml, hown, hts, hlk⟩, hK, hP⟩
  have hl := lv_entry [.ref (g.2.2.1 3), .int x1, .int x2] (n := 3) (Nat.le_of_ble_eq_true rfl)
  rw [lg_entry_eq]
  generalize (lg_sl [.ref (g.2.2.1 3), .int x1, .int x2] ++ List.replicate (3 - (lg_sl [.ref (g.2.2.1 3), .int x1, .int x2]).length) Slot.unset).toArray = ls at hl ⊢
  have hl : lv_has ls 3 [(0, .ref (g.2.2.1 3)), (1, .int x1), (2, .int x2)] := hl
  unfold f_X3_areComparable at hf
  refine lv_aload_n (pc := 0) hx hb dX3_areComparable_0 rfl (lv_at hl 0 rfl) ?_
  refine va_get (D := g.1) (ci := 3) (v := .ref (g.2.2.2 3 3)) (C := RX3) (T := TX3) (N := 7) (pc := 1) hx hb hts (fun _ h => List.mem_cons_of_mem _ (List.mem_append_right _ h)) hown hK hP 0 rfl rfl 3 (by decide) (hts _ q_X3_areComparable_0) (fun _ h9 => h9) rfl dX3_areComparable_1 ?_
  refine lv_iload_n (pc := 4) hx hb dX3_areComparable_4 rfl (lv_at hl 1 rfl) ?_
  obtain ⟨b5, hf⟩ := gdE hf
  refine va_zald (D := g.1) (tys := tyl g) (f := (S3.2.2 3)) (pc := 5) hx hb hK hP 4 2 rfl rfl (inbV b5) dX3_areComparable_5 ?_
  refine lv_if_ne (tgt := 52) (pc := 6) hx hb dX3_areComparable_6 (by decide) (fun c6 => ?_) (fun c6 => ?_)
  · have hf := ff hf c6
    refine lv_iconst (v := 0) (pc := 52) hx hb dX3_areComparable_52 (by decide) ?_
    have hf := Option.some.inj hf
    subst hf
    exact W.zret (v := 0) hx hb hr rfl (fun t ht hW => ⟨_, rfl, rfl, ht⟩) (fun _ h => by cases h) dX3_areComparable_53
  · have hf := ft hf c6
    refine lv_aload_n (pc := 9) hx hb dX3_areComparable_9 rfl (lv_at hl 0 rfl) ?_
    refine va_get (D := g.1) (ci := 3) (v := .ref (g.2.2.2 3 3)) (C := RX3) (T := TX3) (N := 7) (pc := 10) hx hb hts (fun _ h => List.mem_cons_of_mem _ (List.mem_append_right _ h)) hown hK hP 0 rfl rfl 3 (by decide) (hts _ q_X3_areComparable_0) (fun _ h9 => h9) rfl dX3_areComparable_10 ?_
    refine lv_iload_n (pc := 13) hx hb dX3_areComparable_13 rfl (lv_at hl 2 rfl) ?_
    obtain ⟨b14, hf⟩ := gdE hf
    refine va_zald (D := g.1) (tys := tyl g) (f := (S3.2.2 3)) (pc := 14) hx hb hK hP 4 2 rfl rfl (inbV b14) dX3_areComparable_14 ?_
    refine lv_if_ne (tgt := 52) (pc := 15) hx hb dX3_areComparable_15 (by decide) (fun c15 => ?_) (fun c15 => ?_)
    · have hf := ff hf c15
      refine lv_iconst (v := 0) (pc := 52) hx hb dX3_areComparable_52 (by decide) ?_
      have hf := Option.some.inj hf
      subst hf
      exact W.zret (v := 0) hx hb hr rfl (fun t ht hW => ⟨_, rfl, rfl, ht⟩) (fun _ h => by cases h) dX3_areComparable_53
    · have hf := ft hf c15
      refine lv_aload_n (pc := 18) hx hb dX3_areComparable_18 rfl (lv_at hl 0 rfl) ?_
      refine va_get (D := g.1) (ci := 3) (v := .ref (g.2.2.2 3 0)) (C := RX3) (T := TX3) (N := 7) (pc := 19) hx hb hts (fun _ h => List.mem_cons_of_mem _ (List.mem_append_right _ h)) hown hK hP 0 rfl rfl 0 (by decide) (hts _ q_X3_areComparable_1) (fun _ h9 => h9) rfl dX3_areComparable_19 ?_
      refine lv_iload_n (pc := 22) hx hb dX3_areComparable_22 rfl (lv_at hl 1 rfl) ?_
      obtain ⟨b23, hf⟩ := gdE hf
      refine va_iald (D := g.1) (tys := tyl g) (f := (S3.2.2 0)) (pc := 23) hx hb hK hP 1 0 rfl rfl (inbV b23) dX3_areComparable_23 ?_
      refine lv_aload_n (pc := 24) hx hb dX3_areComparable_24 rfl (lv_at hl 0 rfl) ?_
      refine va_get (D := g.1) (ci := 3) (v := .ref (g.2.2.2 3 0)) (C := RX3) (T := TX3) (N := 7) (pc := 25) hx hb hts (fun _ h => List.mem_cons_of_mem _ (List.mem_append_right _ h)) hown hK hP 0 rfl rfl 0 (by decide) (hts _ q_X3_areComparable_1) (fun _ h9 => h9) rfl dX3_areComparable_25 ?_
      refine lv_iload_n (pc := 28) hx hb dX3_areComparable_28 rfl (lv_at hl 2 rfl) ?_
      obtain ⟨b29, hf⟩ := gdE hf
      refine va_iald (D := g.1) (tys := tyl g) (f := (S3.2.2 0)) (pc := 29) hx hb hK hP 1 0 rfl rfl (inbV b29) dX3_areComparable_29 ?_
      refine lv_icmp_ne (tgt := 52) (pc := 30) hx hb dX3_areComparable_30 (by decide) (fun c30 => ?_) (fun c30 => ?_)
      · have hf := ff hf c30
        refine lv_iconst (v := 0) (pc := 52) hx hb dX3_areComparable_52 (by decide) ?_
        have hf := Option.some.inj hf
        subst hf
        exact W.zret (v := 0) hx hb hr rfl (fun t ht hW => ⟨_, rfl, rfl, ht⟩) (fun _ h => by cases h) dX3_areComparable_53
      · have hf := ft hf c30
        refine lv_aload_n (pc := 33) hx hb dX3_areComparable_33 rfl (lv_at hl 0 rfl) ?_
        refine va_get (D := g.1) (ci := 3) (v := .ref (g.2.2.2 3 1)) (C := RX3) (T := TX3) (N := 7) (pc := 34) hx hb hts (fun _ h => List.mem_cons_of_mem _ (List.mem_append_right _ h)) hown hK hP 0 rfl rfl 1 (by decide) (hts _ q_X3_areComparable_2) (fun _ h9 => h9) rfl dX3_areComparable_34 ?_
        refine lv_iload_n (pc := 37) hx hb dX3_areComparable_37 rfl (lv_at hl 1 rfl) ?_
        obtain ⟨b38, hf⟩ := gdE hf
        refine va_iald (D := g.1) (tys := tyl g) (f := (S3.2.2 1)) (pc := 38) hx hb hK hP 2 0 rfl rfl (inbV b38) dX3_areComparable_38 ?_
        refine lv_aload_n (pc := 39) hx hb dX3_areComparable_39 rfl (lv_at hl 0 rfl) ?_
        refine va_get (D := g.1) (ci := 3) (v := .ref (g.2.2.2 3 1)) (C := RX3) (T := TX3) (N := 7) (pc := 40) hx hb hts (fun _ h => List.mem_cons_of_mem _ (List.mem_append_right _ h)) hown hK hP 0 rfl rfl 1 (by decide) (hts _ q_X3_areComparable_2) (fun _ h9 => h9) rfl dX3_areComparable_40 ?_
        refine lv_iload_n (pc := 43) hx hb dX3_areComparable_43 rfl (lv_at hl 2 rfl) ?_
        obtain ⟨b44, hf⟩ := gdE hf
        refine va_iald (D := g.1) (tys := tyl g) (f := (S3.2.2 1)) (pc := 44) hx hb hK hP 2 0 rfl rfl (inbV b44) dX3_areComparable_44 ?_
        refine lv_icmp_ne (tgt := 52) (pc := 45) hx hb dX3_areComparable_45 (by decide) (fun c45 => ?_) (fun c45 => ?_)
        · have hf := ff hf c45
          refine lv_iconst (v := 0) (pc := 52) hx hb dX3_areComparable_52 (by decide) ?_
          have hf := Option.some.inj hf
          subst hf
          exact W.zret (v := 0) hx hb hr rfl (fun t ht hW => ⟨_, rfl, rfl, ht⟩) (fun _ h => by cases h) dX3_areComparable_53
        · have hf := ft hf c45
          refine lv_iconst (v := 1) (pc := 48) hx hb dX3_areComparable_48 (by decide) ?_
          refine lv_goto (tgt := 53) (pc := 49) hx hb dX3_areComparable_49 (by decide) ?_
          have hf := Option.some.inj hf
          subst hf
          exact W.zret (v := 1) hx hb hr rfl (fun t ht hW => ⟨_, rfl, rfl, ht⟩) (fun _ h => by cases h) dX3_areComparable_53
theorem q_X3_weighPair_0 : (.fieldLink RX3 29 "PictureCourt$Opinions" "widest" "I" : Cond) ∈ wsX3_weighPair := by decide +kernel
theorem q_X3_weighPair_1 : (.fieldLink RX3 32 "PictureCourt$Opinions" "widestExpert" "I" : Cond) ∈ wsX3_weighPair := by decide +kernel
theorem h_X3_weighPair : yX3_weighPair.cls = RX3 ∧ yX3_weighPair.cls ≠ "java/lang/invoke/MethodHandle" ∧ yX3_weighPair.cls ≠ "java/lang/invoke/VarHandle" ∧ (parseMethodDescriptor yX3_weighPair.desc).map (fun d => d.parameters.length) = some 2 := by decide +kernel
set_option maxHeartbeats 4000000 in
set_option maxRecDepth 100000 in
theorem w_X3_weighPair_24 {p : Program} {l : Launch} {e : Env} {s : State} {m : MethodId} {args : Array Value} {below : List Frame} {meth : Method} {c : Code} {g : En} {A : Nat → Prop} {N : Nat} {res : St} (C : cxw g A cX3_weighPair 3 none wsX3_weighPair RX3 p s m args meth c) : ∀ (H : Heap) (locs : List Loc) (S3 : St) (ls : Array Slot) (x1 : Int32) (x2 : Int32), va_P g.1 vwCl (wd_3 g S3) H → va_D A (wd_3 g S3) → va_S A s.heap H locs → lv_has ls 3 [(0, .ref (g.2.2.1 3)), (1, .int x1), (2, .int x2)] → f_X3_weighPair_24 N   S3 x1 x2 = some res → W p l e (headSpec wsX3_weighPair { frames := 0, cells := 0, slots := 0, locals := 0 }).room s m args below meth c H locs 0 0 (MQ below (rwQv g (wd_3 g res) A) args s 0 0 A) (F0 m 24 ls []) := by
  intro H locs S3 ls x1 x2 hP hD hS hl hf
  obtain ⟨⟨hx, hb, hr, hml, hown, hts, hlk⟩, hK, hA⟩ := id C
  unfold f_X3_weighPair_24 at hf
  refine lv_aload_n (pc := 24) hx hb dX3_weighPair_24 rfl (lv_at hl 0 rfl) ?_
  refine lv_iload_n (pc := 25) hx hb dX3_weighPair_25 rfl (lv_at hl 2 rfl) ?_
  refine va_put (D := g.1) (ci := 3) (v := .int x2) (ty := .int) (C := RX3) (T := TX3) (N := 7) (pc := 26) hx hb hts (fun _ h => List.mem_cons_of_mem _ (List.mem_append_right _ h)) tyX3 tyX3_ok nmX3 hown hK hP hD hS 0 rfl rfl 5 (by decide) (hts _ q_X3_weighPair_0) (fun _ h9 => h9) rfl rfl rfl rfl (Nat.le_of_ble_eq_true rfl) dX3_weighPair_26 (fun H locs hP hD hS => ?_)
  have hP := u_3_3_5P S3 x2 hP
  have hD := u_3_3_5D S3 x2 hD
  refine lv_aload_n (pc := 29) hx hb dX3_weighPair_29 rfl (lv_at hl 0 rfl) ?_
  refine lv_iload_n (pc := 30) hx hb dX3_weighPair_30 rfl (lv_at hl 1 rfl) ?_
  refine va_put (D := g.1) (ci := 3) (v := .int x1) (ty := .int) (C := RX3) (T := TX3) (N := 7) (pc := 31) hx hb hts (fun _ h => List.mem_cons_of_mem _ (List.mem_append_right _ h)) tyX3 tyX3_ok nmX3 hown hK hP hD hS 0 rfl rfl 6 (by decide) (hts _ q_X3_weighPair_1) (fun _ h9 => h9) rfl rfl rfl rfl (Nat.le_of_ble_eq_true rfl) dX3_weighPair_31 (fun H locs hP hD hS => ?_)
  have hP := u_3_3_6P (sI S3 5 x2) x1 hP
  have hD := u_3_3_6D (sI S3 5 x2) x1 hD
  have hf := Option.some.inj hf
  subst hf
  exact W.vret hx hb hr (fun t ht hW => ⟨⟨(), rfl, trivial, by rw [ht]; exact hP, va_K.moved hW.alike hK, hD⟩, hS.F ht⟩) hS.2.2 dX3_weighPair_34
set_option maxHeartbeats 4000000 in
set_option maxRecDepth 100000 in
theorem c_X3_weighPair (l : Launch) (g : En) (N : Nat) (sz : Nat) (S3 : St) (x1 : Int32) (x2 : Int32) (res : St) (hf : f_X3_weighPair N S3 x1 x2 = some res) : Met l yX3_weighPair wsX3_weighPair { frames := 0, cells := 0, slots := 0, locals := 0 } (rwP g (wd_3 g S3) sz [.ref (g.2.2.1 3), .int x1, .int x2]) (rwQv g (wd_3 g res) (va_A (wd_3 g S3) sz)) 0 0 (va_A (wd_3 g S3) sz) := by
  refine Met.ofW (cc := cX3_weighPair) (maxL := 3) (ret := none) (by decide) rfl ?_
  intro p e s m args below meth c s₁ B hml hv
  obtain ⟨rfl, hsz, hP, hK, hD0⟩ := hv
  have hx := B.exec
  have hb := B.bytes
  have hr := B.returns
  have hts := atoms_spec (ws := wsX3_weighPair) B.pre
  have hown : s.vm.findClass RX3 = some m.cls := findClass_of_methodNamed B.named
  have hlk := B.notSynchronized
  subst hsz
  have hD := hD0.self (sz := s.heap.size)
  generalize hAe : va_A (wd_3 g S3) s.heap.size = A at hD ⊢
  have hA : ∀ q : Nat, s.heap.size ≤ q → A q := fun q h => by rw [← hAe]; exact Or.inr h
  have hS : va_S A s.heap s.heap [] := va_S.rf
  have C : cxw g A cX3_weighPair 3 none wsX3_weighPair RX3 p s m ([.ref (g.2.2.1 3), .int x1, .int x2] : List Value).toArray meth c := ⟨⟨hx, hb, hr, hml, hown, hts, hlk⟩, hK, hA⟩
  have hl := lv_entry [.ref (g.2.2.1 3), .int x1, .int x2] (n := 3) (Nat.le_of_ble_eq_true rfl)
  rw [lg_entry_eq]
  generalize (lg_sl [.ref (g.2.2.1 3), .int x1, .int x2] ++ List.replicate (3 - (lg_sl [.ref (g.2.2.1 3), .int x1, .int x2]).length) Slot.unset).toArray = ls at hl ⊢
  have hl : lv_has ls 3 [(0, .ref (g.2.2.1 3)), (1, .int x1), (2, .int x2)] := hl
  unfold f_X3_weighPair at hf
  suffices K9 : ∀ (H : Heap) (locs : List Loc), va_P g.1 vwCl (wd_3 g S3) H → va_D A (wd_3 g S3) → va_S A s.heap H locs → (if (S3.1 5) < x2 then (f_X3_weighPair_24 N   S3 x1 x2) else (if x2 = (S3.1 5) then (if (S3.1 6) ≤ x1 then some (S3) else (f_X3_weighPair_24 N   S3 x1 x2)) else some (S3))) = some res → W p l e (headSpec wsX3_weighPair { frames := 0, cells := 0, slots := 0, locals := 0 }).room s m ([.ref (g.2.2.1 3), .int x1, .int x2] : List Value).toArray below meth c H locs 0 0 (MQ below (rwQv g (wd_3 g res) A) ([.ref (g.2.2.1 3), .int x1, .int x2] : List Value).toArray s 0 0 A) (F0 m 0 ls []) from K9 s.heap [] hP hD hS hf
  clear hP hD hS hf
  intro H locs hP hD hS hf
  refine lv_iload_n (pc := 0) hx hb dX3_weighPair_0 rfl (lv_at hl 2 rfl) ?_
  refine lv_aload_n (pc := 1) hx hb dX3_weighPair_1 rfl (lv_at hl 0 rfl) ?_
  refine va_get (D := g.1) (ci := 3) (v := .int (S3.1 5)) (C := RX3) (T := TX3) (N := 7) (pc := 2) hx hb hts (fun _ h => List.mem_cons_of_mem _ (List.mem_append_right _ h)) hown hK hP 0 rfl rfl 5 (by decide) (hts _ q_X3_weighPair_0) (fun _ h9 => h9) rfl dX3_weighPair_2 ?_
  refine lv_icmp_gt (tgt := 24) (pc := 5) hx hb dX3_weighPair_5 (by decide) (fun c5 => ?_) (fun c5 => ?_)
  · have hf := ft hf c5
    exact w_X3_weighPair_24 C  H locs S3 ls x1 x2 hP hD hS (lv_sub hl [0, 1, 2] rfl) hf
  · have hf := ff hf c5
    refine lv_iload_n (pc := 8) hx hb dX3_weighPair_8 rfl (lv_at hl 2 rfl) ?_
    refine lv_aload_n (pc := 9) hx hb dX3_weighPair_9 rfl (lv_at hl 0 rfl) ?_
    refine va_get (D := g.1) (ci := 3) (v := .int (S3.1 5)) (C := RX3) (T := TX3) (N := 7) (pc := 10) hx hb hts (fun _ h => List.mem_cons_of_mem _ (List.mem_append_right _ h)) hown hK hP 0 rfl rfl 5 (by decide) (hts _ q_X3_weighPair_0) (fun _ h9 => h9) rfl dX3_weighPair_10 ?_
    refine lv_icmp_ne (tgt := 34) (pc := 13) hx hb dX3_weighPair_13 (by decide) (fun c13 => ?_) (fun c13 => ?_)
    · have hf := ff hf c13
      have hf := Option.some.inj hf
      subst hf
      exact W.vret hx hb hr (fun t ht hW => ⟨⟨(), rfl, trivial, by rw [ht]; exact hP, va_K.moved hW.alike hK, hD⟩, hS.F ht⟩) hS.2.2 dX3_weighPair_34
    · have hf := ft hf c13
      refine lv_iload_n (pc := 16) hx hb dX3_weighPair_16 rfl (lv_at hl 1 rfl) ?_
      refine lv_aload_n (pc := 17) hx hb dX3_weighPair_17 rfl (lv_at hl 0 rfl) ?_
      refine va_get (D := g.1) (ci := 3) (v := .int (S3.1 6)) (C := RX3) (T := TX3) (N := 7) (pc := 18) hx hb hts (fun _ h => List.mem_cons_of_mem _ (List.mem_append_right _ h)) hown hK hP 0 rfl rfl 6 (by decide) (hts _ q_X3_weighPair_1) (fun _ h9 => h9) rfl dX3_weighPair_18 ?_
      refine lv_icmp_ge (tgt := 34) (pc := 21) hx hb dX3_weighPair_21 (by decide) (fun c21 => ?_) (fun c21 => ?_)
      · have hf := ft hf c21
        have hf := Option.some.inj hf
        subst hf
        exact W.vret hx hb hr (fun t ht hW => ⟨⟨(), rfl, trivial, by rw [ht]; exact hP, va_K.moved hW.alike hK, hD⟩, hS.F ht⟩) hS.2.2 dX3_weighPair_34
      · have hf := ff hf c21
        exact w_X3_weighPair_24 C  H locs S3 ls x1 x2 hP hD hS (lv_sub hl [0, 1, 2] rfl) hf
theorem q_X3_findSpread_0 : (.fieldLink RX3 25 "PictureCourt$Opinions" "size" "I" : Cond) ∈ wsX3_findSpread := by decide +kernel
theorem q_X3_findSpread_1 : (.fieldLink RX3 9 "PictureCourt$Opinions" "experts" "[I" : Cond) ∈ wsX3_findSpread := by decide +kernel
theorem q_X3_findSpread_2 : (.fieldLink RX3 18 "PictureCourt$Opinions" "sures" "[I" : Cond) ∈ wsX3_findSpread := by decide +kernel
theorem q_X3_findSpread_3 : (.methodLink RX3 39 Lib.Math.abs.name : Cond) ∈ wsX3_findSpread := by decide +kernel
theorem q_X3_findSpread_4 : (.static Lib.Math.abs.name : Cond) ∈ wsX3_findSpread := by decide +kernel
theorem q_X3_findSpread_5 : (.initialized "java/lang/Math" : Cond) ∈ wsX3_findSpread := by decide +kernel
theorem q_X3_findSpread_6 : (.code Lib.Math.abs.name Lib.Math.abs.code 1 (some .int) : Cond) ∈ wsX3_findSpread := by decide +kernel
theorem q_X3_findSpread_7 : (.fieldLink RX3 29 "PictureCourt$Opinions" "widest" "I" : Cond) ∈ wsX3_findSpread := by decide +kernel
theorem q_X3_findSpread_8 : (.fieldLink RX3 32 "PictureCourt$Opinions" "widestExpert" "I" : Cond) ∈ wsX3_findSpread := by decide +kernel
theorem h_X3_findSpread : yX3_findSpread.cls = RX3 ∧ yX3_findSpread.cls ≠ "java/lang/invoke/MethodHandle" ∧ yX3_findSpread.cls ≠ "java/lang/invoke/VarHandle" ∧ (parseMethodDescriptor yX3_findSpread.desc).map (fun d => d.parameters.length) = some 0 := by decide +kernel
set_option maxHeartbeats 4000000 in
set_option maxRecDepth 100000 in
theorem w_X3_findSpread_69 {p : Program} {l : Launch} {e : Env} {s : State} {m : MethodId} {args : Array Value} {below : List Frame} {meth : Method} {c : Code} {g : En} {A : Nat → Prop} {N : Nat} {res : St} (C : cxw g A cX3_findSpread 3 none wsX3_findSpread RX3 p s m args meth c) (k14 : St → Int32 → Option (St)) (H14 : ∀ (H : Heap) (locs : List Loc) (S3 : St) (ls : Array Slot) (x1 : Int32), va_P g.1 vwCl (wd_3 g S3) H → va_D A (wd_3 g S3) → va_S A s.heap H locs → lv_has ls 3 [(0, .ref (g.2.2.1 3)), (1, .int x1)] → k14 S3 x1 = some res → W p l e (headSpec wsX3_findSpread { frames := 1, cells := 0, slots := 0, locals := 24 }).room s m args below meth c H locs 0 0 (MQ below (rwQv g (wd_3 g res) A) args s 0 0 A) (F0 m 14 ls [])) (k26 : St → Int32 → Int32 → Option (St)) (H26 : ∀ (H : Heap) (locs : List Loc) (S3 : St) (ls : Array Slot) (x1 : Int32) (x2 : Int32), va_P g.1 vwCl (wd_3 g S3) H → va_D A (wd_3 g S3) → va_S A s.heap H locs → lv_has ls 3 [(0, .ref (g.2.2.1 3)), (1, .int x1), (2, .int x2)] → k26 S3 x1 x2 = some res → W p l e (headSpec wsX3_findSpread { frames := 1, cells := 0, slots := 0, locals := 24 }).room s m args below meth c H locs 0 0 (MQ below (rwQv g (wd_3 g res) A) args s 0 0 A) (F0 m 26 ls [])) : ∀ (H : Heap) (locs : List Loc) (S3 : St) (ls : Array Slot) (x1 : Int32) (x2 : Int32), va_P g.1 vwCl (wd_3 g S3) H → va_D A (wd_3 g S3) → va_S A s.heap H locs → lv_has ls 3 [(0, .ref (g.2.2.1 3)), (1, .int x1), (2, .int x2)] → f_X3_findSpread_69 N  k14 k26 S3 x1 x2 = some res → W p l e (headSpec wsX3_findSpread { frames := 1, cells := 0, slots := 0, locals := 24 }).room s m args below meth c H locs 0 0 (MQ below (rwQv g (wd_3 g res) A) args s 0 0 A) (F0 m 69 ls []) := by
  intro H locs S3 ls x1 x2 hP hD hS hl hf
  obtain ⟨⟨hx, hb, hr, hml, hown, hts, hlk⟩, hK, hA⟩ := id C
  unfold f_X3_findSpread_69 at hf
  refine lv_iinc (v := (x2 + 1)) (lv' := [(2, .int (x2 + 1)), (0, .ref (g.2.2.1 3)), (1, .int x1)]) (pc := 69) hx hb dX3_findSpread_69 hl (k := 2) rfl rfl (by decide) rfl (fun ls hl => ?_)
  refine lv_goto (tgt := 26) (pc := 72) hx hb dX3_findSpread_72 (by decide) ?_
  exact H26 H locs S3 ls x1 (x2 + 1) hP hD hS (lv_sub hl [1, 2, 0] rfl) hf
set_option maxHeartbeats 4000000 in
set_option maxRecDepth 100000 in
theorem w_X3_findSpread_26_b {p : Program} {l : Launch} {e : Env} {s : State} {m : MethodId} {args : Array Value} {below : List Frame} {meth : Method} {c : Code} {g : En} {A : Nat → Prop} {N : Nat} {res : St} (C : cxw g A cX3_findSpread 3 none wsX3_findSpread RX3 p s m args meth c) (k14 : St → Int32 → Option (St)) (H14 : ∀ (H : Heap) (locs : List Loc) (S3 : St) (ls : Array Slot) (x1 : Int32), va_P g.1 vwCl (wd_3 g S3) H → va_D A (wd_3 g S3) → va_S A s.heap H locs → lv_has ls 3 [(0, .ref (g.2.2.1 3)), (1, .int x1)] → k14 S3 x1 = some res → W p l e (headSpec wsX3_findSpread { frames := 1, cells := 0, slots := 0, locals := 24 }).room s m args below meth c H locs 0 0 (MQ below (rwQv g (wd_3 g res) A) args s 0 0 A) (F0 m 14 ls [])) (k26 : St → Int32 → Int32 → Option (St)) (H26 : ∀ (H : Heap) (locs : List Loc) (S3 : St) (ls : Array Slot) (x1 : Int32) (x2 : Int32), va_P g.1 vwCl (wd_3 g S3) H → va_D A (wd_3 g S3) → va_S A s.heap H locs → lv_has ls 3 [(0, .ref (g.2.2.1 3)), (1, .int x1), (2, .int x2)] → k26 S3 x1 x2 = some res → W p l e (headSpec wsX3_findSpread { frames := 1, cells := 0, slots := 0, locals := 24 }).room s m args below meth c H locs 0 0 (MQ below (rwQv g (wd_3 g res) A) args s 0 0 A) (F0 m 26 ls [])) : ∀ (H : Heap) (locs : List Loc) (S3 : St) (ls : Array Slot) (x1 : Int32) (x2 : Int32), va_P g.1 vwCl (wd_3 g S3) H → va_D A (wd_3 g S3) → va_S A s.heap H locs → lv_has ls 3 [(0, .ref (g.2.2.1 3)), (1, .int x1), (2, .int x2)] → f_X3_findSpread_26_b N  k14 k26 S3 x1 x2 = some res → W p l e (headSpec wsX3_findSpread { frames := 1, cells := 0, slots := 0, locals := 24 }).room s m args below meth c H locs 0 0 (MQ below (rwQv g (wd_3 g res) A) args s 0 0 A) (F0 m 26 ls []) := by
  intro H locs S3 ls x1 x2 hP hD hS hl hf
  obtain ⟨⟨hx, hb, hr, hml, hown, hts, hlk⟩, hK, hA⟩ := id C
  unfold f_X3_findSpread_26_b at hf
  refine lv_iload_n (pc := 26) hx hb dX3_findSpread_26 rfl (lv_at hl 2 rfl) ?_
  refine lv_aload_n (pc := 27) hx hb dX3_findSpread_27 rfl (lv_at hl 0 rfl) ?_
  refine va_get (D := g.1) (ci := 3) (v := .int (S3.1 4)) (C := RX3) (T := TX3) (N := 7) (pc := 28) hx hb hts (fun _ h => List.mem_cons_of_mem _ (List.mem_append_right _ h)) hown hK hP 0 rfl rfl 4 (by decide) (hts _ q_X3_findSpread_0) (fun _ h9 => h9) rfl dX3_findSpread_28 ?_
  refine lv_icmp_ge (tgt := 75) (pc := 31) hx hb dX3_findSpread_31 (by decide) (fun c31 => ?_) (fun c31 => ?_)
  · have hf := ft hf c31
    refine lv_iinc (v := (x1 + 1)) (lv' := [(1, .int (x1 + 1)), (0, .ref (g.2.2.1 3)), (2, .int x2)]) (pc := 75) hx hb dX3_findSpread_75 hl (k := 1) rfl rfl (by decide) rfl (fun ls hl => ?_)
    refine lv_goto (tgt := 14) (pc := 78) hx hb dX3_findSpread_78 (by decide) ?_
    exact H14 H locs S3 ls (x1 + 1) hP hD hS (lv_sub hl [1, 0] rfl) hf
  · have hf := ff hf c31
    refine lv_aload_n (pc := 34) hx hb dX3_findSpread_34 rfl (lv_at hl 0 rfl) ?_
    refine lv_iload_n (pc := 35) hx hb dX3_findSpread_35 rfl (lv_at hl 1 rfl) ?_
    refine lv_iload_n (pc := 36) hx hb dX3_findSpread_36 rfl (lv_at hl 2 rfl) ?_
    obtain ⟨r37, e37, hf⟩ := bdE hf
    refine krI (g := g) (wc := (wd_3 g S3)) (pc := 37) (As := [.int x1, .int x2]) (rest := []) ⟨hx, hb, hml, hown, hts⟩ (c_X3_areComparable l g N S3 x1 x2 r37 e37) (cwV 2 hts gX3_findSpread_X3_areComparable rfl rfl rfl h_X3_areComparable ⟨Nat.le_of_ble_eq_true rfl, Nat.le_of_ble_eq_true rfl⟩) hK hP rfl rfl rfl hl.1 rfl (Nat.le_of_ble_eq_true rfl) dX3_findSpread_37 ⟨Nat.zero_le _, Nat.zero_le _⟩ ?_
    refine lv_if_eq (tgt := 69) (pc := 40) hx hb dX3_findSpread_40 (by decide) (fun c40 => ?_) (fun c40 => ?_)
    · have hf := ft hf c40
      exact w_X3_findSpread_69 C k14 H14 k26 H26 H locs S3 ls x1 x2 hP hD hS (lv_sub hl [0, 1, 2] rfl) hf
    · have hf := ff hf c40
      refine lv_aload_n (pc := 43) hx hb dX3_findSpread_43 rfl (lv_at hl 0 rfl) ?_
      refine lv_aload_n (pc := 44) hx hb dX3_findSpread_44 rfl (lv_at hl 0 rfl) ?_
      refine va_get (D := g.1) (ci := 3) (v := .ref (g.2.2.2 3 0)) (C := RX3) (T := TX3) (N := 7) (pc := 45) hx hb hts (fun _ h => List.mem_cons_of_mem _ (List.mem_append_right _ h)) hown hK hP 0 rfl rfl 0 (by decide) (hts _ q_X3_findSpread_1) (fun _ h9 => h9) rfl dX3_findSpread_45 ?_
      refine lv_iload_n (pc := 48) hx hb dX3_findSpread_48 rfl (lv_at hl 1 rfl) ?_
      obtain ⟨b49, hf⟩ := gdE hf
      refine va_iald (D := g.1) (tys := tyl g) (f := (S3.2.2 0)) (pc := 49) hx hb hK hP 1 0 rfl rfl (inbV b49) dX3_findSpread_49 ?_
      refine lv_aload_n (pc := 50) hx hb dX3_findSpread_50 rfl (lv_at hl 0 rfl) ?_
      refine va_get (D := g.1) (ci := 3) (v := .ref (g.2.2.2 3 2)) (C := RX3) (T := TX3) (N := 7) (pc := 51) hx hb hts (fun _ h => List.mem_cons_of_mem _ (List.mem_append_right _ h)) hown hK hP 0 rfl rfl 2 (by decide) (hts _ q_X3_findSpread_2) (fun _ h9 => h9) rfl dX3_findSpread_51 ?_
      refine lv_iload_n (pc := 54) hx hb dX3_findSpread_54 rfl (lv_at hl 1 rfl) ?_
      obtain ⟨b55, hf⟩ := gdE hf
      refine va_iald (D := g.1) (tys := tyl g) (f := (S3.2.2 2)) (pc := 55) hx hb hK hP 3 0 rfl rfl (inbV b55) dX3_findSpread_55 ?_
      refine lv_aload_n (pc := 56) hx hb dX3_findSpread_56 rfl (lv_at hl 0 rfl) ?_
      refine va_get (D := g.1) (ci := 3) (v := .ref (g.2.2.2 3 2)) (C := RX3) (T := TX3) (N := 7) (pc := 57) hx hb hts (fun _ h => List.mem_cons_of_mem _ (List.mem_append_right _ h)) hown hK hP 0 rfl rfl 2 (by decide) (hts _ q_X3_findSpread_2) (fun _ h9 => h9) rfl dX3_findSpread_57 ?_
      refine lv_iload_n (pc := 60) hx hb dX3_findSpread_60 rfl (lv_at hl 2 rfl) ?_
      obtain ⟨b61, hf⟩ := gdE hf
      refine va_iald (D := g.1) (tys := tyl g) (f := (S3.2.2 2)) (pc := 61) hx hb hK hP 3 0 rfl rfl (inbV b61) dX3_findSpread_61 ?_
      refine lv_isub (pc := 62) hx hb dX3_findSpread_62 ?_
      refine va_mabs (pc := 63) hx hb (hml.trans hl.1.symm) hown (hts _ q_X3_findSpread_3) (hts _ q_X3_findSpread_4) (hts _ q_X3_findSpread_5) (hts _ q_X3_findSpread_6) (Nat.le_of_ble_eq_true rfl) (Nat.le_of_ble_eq_true rfl) (Nat.zero_le _) (Nat.zero_le _) dX3_findSpread_63 ?_
      obtain ⟨r66, e66, hf⟩ := bdE hf
      refine kuV (g := g) (A := A) (W0 := (wd_3 g S3)) (w1 := (wd_3 g r66)) (pc := 66) (As := [.int ((S3.2.2 0) (Int32.toNatClampNeg x1)), .int (if 0 ≤ (((S3.2.2 2) (Int32.toNatClampNeg x1)) - ((S3.2.2 2) (Int32.toNatClampNeg x2))) then (((S3.2.2 2) (Int32.toNatClampNeg x1)) - ((S3.2.2 2) (Int32.toNatClampNeg x2))) else 0 - (((S3.2.2 2) (Int32.toNatClampNeg x1)) - ((S3.2.2 2) (Int32.toNatClampNeg x2))))]) (rest := []) ⟨hx, hb, hml, hown, hts⟩ hK hA hP hD hS (c_X3_weighPair l g N H.size S3 ((S3.2.2 0) (Int32.toNatClampNeg x1)) (if 0 ≤ (((S3.2.2 2) (Int32.toNatClampNeg x1)) - ((S3.2.2 2) (Int32.toNatClampNeg x2))) then (((S3.2.2 2) (Int32.toNatClampNeg x1)) - ((S3.2.2 2) (Int32.toNatClampNeg x2))) else 0 - (((S3.2.2 2) (Int32.toNatClampNeg x1)) - ((S3.2.2 2) (Int32.toNatClampNeg x2)))) r66 e66) (cwV 2 hts gX3_findSpread_X3_weighPair rfl rfl rfl h_X3_weighPair ⟨Nat.le_of_ble_eq_true rfl, Nat.le_of_ble_eq_true rfl⟩) rfl rfl rfl hl.1 rfl (Nat.le_of_ble_eq_true rfl) dX3_findSpread_66 ⟨Nat.zero_le _, Nat.zero_le _⟩ (fun H locs hP hD hS => ?_)
      exact w_X3_findSpread_69 C k14 H14 k26 H26 H locs r66 ls x1 x2 hP hD hS (lv_sub hl [0, 1, 2] rfl) hf
set_option maxHeartbeats 4000000 in
set_option maxRecDepth 100000 in
theorem w_X3_findSpread_26 {p : Program} {l : Launch} {e : Env} {s : State} {m : MethodId} {args : Array Value} {below : List Frame} {meth : Method} {c : Code} {g : En} {A : Nat → Prop} {N : Nat} {res : St} (C : cxw g A cX3_findSpread 3 none wsX3_findSpread RX3 p s m args meth c) (k14 : St → Int32 → Option (St)) (H14 : ∀ (H : Heap) (locs : List Loc) (S3 : St) (ls : Array Slot) (x1 : Int32), va_P g.1 vwCl (wd_3 g S3) H → va_D A (wd_3 g S3) → va_S A s.heap H locs → lv_has ls 3 [(0, .ref (g.2.2.1 3)), (1, .int x1)] → k14 S3 x1 = some res → W p l e (headSpec wsX3_findSpread { frames := 1, cells := 0, slots := 0, locals := 24 }).room s m args below meth c H locs 0 0 (MQ below (rwQv g (wd_3 g res) A) args s 0 0 A) (F0 m 14 ls [])) : ∀ (n : Nat), ∀ (H : Heap) (locs : List Loc) (S3 : St) (ls : Array Slot) (x1 : Int32) (x2 : Int32), va_P g.1 vwCl (wd_3 g S3) H → va_D A (wd_3 g S3) → va_S A s.heap H locs → lv_has ls 3 [(0, .ref (g.2.2.1 3)), (1, .int x1), (2, .int x2)] → f_X3_findSpread_26 N  k14 n S3 x1 x2 = some res → W p l e (headSpec wsX3_findSpread { frames := 1, cells := 0, slots := 0, locals := 24 }).room s m args below meth c H locs 0 0 (MQ below (rwQv g (wd_3 g res) A) args s 0 0 A) (F0 m 26 ls []) := by
  intro n
  induction n with
  | zero =>
    intro H locs S3 ls x1 x2 hP hD hS hl hf
    have hf : (none : Option (St)) = some res := hf
    cases hf
  | succ n ih =>
    intro H locs S3 ls x1 x2 hP hD hS hl hf
    exact w_X3_findSpread_26_b C k14 H14 (fun y0 y1 y2 => f_X3_findSpread_26 N  k14 n y0 y1 y2) ih H locs S3 ls x1 x2 hP hD hS hl hf
set_option maxHeartbeats 4000000 in
set_option maxRecDepth 100000 in
theorem w_X3_findSpread_14_b {p : Program} {l : Launch} {e : Env} {s : State} {m : MethodId} {args : Array Value} {below : List Frame} {meth : Method} {c : Code} {g : En} {A : Nat → Prop} {N : Nat} {res : St} (C : cxw g A cX3_findSpread 3 none wsX3_findSpread RX3 p s m args meth c) (k14 : St → Int32 → Option (St)) (H14 : ∀ (H : Heap) (locs : List Loc) (S3 : St) (ls : Array Slot) (x1 : Int32), va_P g.1 vwCl (wd_3 g S3) H → va_D A (wd_3 g S3) → va_S A s.heap H locs → lv_has ls 3 [(0, .ref (g.2.2.1 3)), (1, .int x1)] → k14 S3 x1 = some res → W p l e (headSpec wsX3_findSpread { frames := 1, cells := 0, slots := 0, locals := 24 }).room s m args below meth c H locs 0 0 (MQ below (rwQv g (wd_3 g res) A) args s 0 0 A) (F0 m 14 ls [])) : ∀ (H : Heap) (locs : List Loc) (S3 : St) (ls : Array Slot) (x1 : Int32), va_P g.1 vwCl (wd_3 g S3) H → va_D A (wd_3 g S3) → va_S A s.heap H locs → lv_has ls 3 [(0, .ref (g.2.2.1 3)), (1, .int x1)] → f_X3_findSpread_14_b N   k14 S3 x1 = some res → W p l e (headSpec wsX3_findSpread { frames := 1, cells := 0, slots := 0, locals := 24 }).room s m args below meth c H locs 0 0 (MQ below (rwQv g (wd_3 g res) A) args s 0 0 A) (F0 m 14 ls []) := by
  intro H locs S3 ls x1 hP hD hS hl hf
  obtain ⟨⟨hx, hb, hr, hml, hown, hts, hlk⟩, hK, hA⟩ := id C
  unfold f_X3_findSpread_14_b at hf
  refine lv_iload_n (pc := 14) hx hb dX3_findSpread_14 rfl (lv_at hl 1 rfl) ?_
  refine lv_aload_n (pc := 15) hx hb dX3_findSpread_15 rfl (lv_at hl 0 rfl) ?_
  refine va_get (D := g.1) (ci := 3) (v := .int (S3.1 4)) (C := RX3) (T := TX3) (N := 7) (pc := 16) hx hb hts (fun _ h => List.mem_cons_of_mem _ (List.mem_append_right _ h)) hown hK hP 0 rfl rfl 4 (by decide) (hts _ q_X3_findSpread_0) (fun _ h9 => h9) rfl dX3_findSpread_16 ?_
  refine lv_icmp_ge (tgt := 81) (pc := 19) hx hb dX3_findSpread_19 (by decide) (fun c19 => ?_) (fun c19 => ?_)
  · have hf := ft hf c19
    have hf := Option.some.inj hf
    subst hf
    exact W.vret hx hb hr (fun t ht hW => ⟨⟨(), rfl, trivial, by rw [ht]; exact hP, va_K.moved hW.alike hK, hD⟩, hS.F ht⟩) hS.2.2 dX3_findSpread_81
  · have hf := ff hf c19
    refine lv_iload_n (pc := 22) hx hb dX3_findSpread_22 rfl (lv_at hl 1 rfl) ?_
    refine lv_iconst (v := 1) (pc := 23) hx hb dX3_findSpread_23 (by decide) ?_
    refine lv_iadd (pc := 24) hx hb dX3_findSpread_24 ?_
    refine lv_istore_n (lv' := [(2, .int (x1 + 1)), (0, .ref (g.2.2.1 3)), (1, .int x1)]) (pc := 25) hx hb dX3_findSpread_25 rfl hl (by decide) rfl (fun ls hl => ?_)
    exact w_X3_findSpread_26 C k14 H14 N H locs S3 ls x1 (x1 + 1) hP hD hS (lv_sub hl [1, 2, 0] rfl) hf
set_option maxHeartbeats 4000000 in
set_option maxRecDepth 100000 in
theorem w_X3_findSpread_14 {p : Program} {l : Launch} {e : Env} {s : State} {m : MethodId} {args : Array Value} {below : List Frame} {meth : Method} {c : Code} {g : En} {A : Nat → Prop} {N : Nat} {res : St} (C : cxw g A cX3_findSpread 3 none wsX3_findSpread RX3 p s m args meth c) : ∀ (n : Nat), ∀ (H : Heap) (locs : List Loc) (S3 : St) (ls : Array Slot) (x1 : Int32), va_P g.1 vwCl (wd_3 g S3) H → va_D A (wd_3 g S3) → va_S A s.heap H locs → lv_has ls 3 [(0, .ref (g.2.2.1 3)), (1, .int x1)] → f_X3_findSpread_14 N   n S3 x1 = some res → W p l e (headSpec wsX3_findSpread { frames := 1, cells := 0, slots := 0, locals := 24 }).room s m args below meth c H locs 0 0 (MQ below (rwQv g (wd_3 g res) A) args s 0 0 A) (F0 m 14 ls []) := by
  intro n
  induction n with
  | zero =>
    intro H locs S3 ls x1 hP hD hS hl hf
    have hf : (none : Option (St)) = some res := hf
    cases hf
  | succ n ih =>
    intro H locs S3 ls x1 hP hD hS hl hf
    exact w_X3_findSpread_14_b C  (fun y0 y1 => f_X3_findSpread_14 N   n y0 y1) ih H locs S3 ls x1 hP hD hS hl hf
set_option maxHeartbeats 4000000 in
set_option maxRecDepth 100000 in
theorem c_X3_findSpread (l : Launch) (g : En) (N : Nat) (sz : Nat) (S3 : St) (res : St) (hf : f_X3_findSpread N S3 = some res) : Met l yX3_findSpread wsX3_findSpread { frames := 1, cells := 0, slots := 0, locals := 24 } (rwP g (wd_3 g S3) sz [.ref (g.2.2.1 3)]) (rwQv g (wd_3 g res) (va_A (wd_3 g S3) sz)) 0 0 (va_A (wd_3 g S3) sz) := by
  refine Met.ofW (cc := cX3_findSpread) (maxL := 3) (ret := none) (by decide) rfl ?_
  intro p e s m args below meth c s₁ B hml hv
  obtain ⟨rfl, hsz, hP, hK, hD0⟩ := hv
  have hx := B.exec
  have hb := B.bytes
  have hr := B.returns
  have hts := atoms_spec (ws := wsX3_findSpread) B.pre
  have hown : s.vm.findClass RX3 = some m.cls := findClass_of_methodNamed B.named
  have hlk := B.notSynchronized
  subst hsz
  have hD := hD0.self (sz := s.heap.size)
  generalize hAe : va_A (wd_3 g S3) s.heap.size = A at hD ⊢
  have hA : ∀ q : Nat, s.heap.size ≤ q → A q := fun q h => by rw [← hAe]; exact Or.inr h
  have hS : va_S A s.heap s.heap [] := va_S.rf
  have C : cxw g A cX3_findSpread 3 none wsX3_findSpread RX3 p s m ([.ref (g.2.2.1 3)] : List Value).toArray meth c := ⟨⟨hx, hb, hr, hml, hown, hts, hlk⟩, hK, hA⟩
  have hl := lv_entry [.ref (g.2.2.1 3)] (n := 3) (Nat.le_of_ble_eq_true rfl)
  rw [lg_entry_eq]
  generalize (lg_sl [.ref (g.2.2.1 3)] ++ List.replicate (3 - (lg_sl [.ref (g.2.2.1 3)]).length) Slot.unset).toArray = ls at hl ⊢
  have hl : lv_has ls 3 [(0, .ref (g.2.2.1 3))] := hl
  unfold f_X3_findSpread at hf
  suffices K9 : ∀ (H : Heap) (locs : List Loc), va_P g.1 vwCl (wd_3 g S3) H → va_D A (wd_3 g S3) → va_S A s.heap H locs → (f_X3_findSpread_14 N   N (sI (sI S3 5 (-9)) 6 (-9)) 0) = some res → W p l e (headSpec wsX3_findSpread { frames := 1, cells := 0, slots := 0, locals := 24 }).room s m ([.ref (g.2.2.1 3)] : List Value).toArray below meth c H locs 0 0 (MQ below (rwQv g (wd_3 g res) A) ([.ref (g.2.2.1 3)] : List Value).toArray s 0 0 A) (F0 m 0 ls []) from K9 s.heap [] hP hD hS hf
  clear hP hD hS hf
  intro H locs hP hD hS hf
  refine lv_aload_n (pc := 0) hx hb dX3_findSpread_0 rfl (lv_at hl 0 rfl) ?_
  refine lv_bipush (v := (-9)) (pc := 1) hx hb dX3_findSpread_1 (by decide) ?_
  refine va_put (D := g.1) (ci := 3) (v := .int (-9)) (ty := .int) (C := RX3) (T := TX3) (N := 7) (pc := 3) hx hb hts (fun _ h => List.mem_cons_of_mem _ (List.mem_append_right _ h)) tyX3 tyX3_ok nmX3 hown hK hP hD hS 0 rfl rfl 5 (by decide) (hts _ q_X3_findSpread_7) (fun _ h9 => h9) rfl rfl rfl rfl (Nat.le_of_ble_eq_true rfl) dX3_findSpread_3 (fun H locs hP hD hS => ?_)
  have hP := u_3_3_5P S3 (-9) hP
  have hD := u_3_3_5D S3 (-9) hD
  refine lv_aload_n (pc := 6) hx hb dX3_findSpread_6 rfl (lv_at hl 0 rfl) ?_
  refine lv_bipush (v := (-9)) (pc := 7) hx hb dX3_findSpread_7 (by decide) ?_
  refine va_put (D := g.1) (ci := 3) (v := .int (-9)) (ty := .int) (C := RX3) (T := TX3) (N := 7) (pc := 9) hx hb hts (fun _ h => List.mem_cons_of_mem _ (List.mem_append_right _ h)) tyX3 tyX3_ok nmX3 hown hK hP hD hS 0 rfl rfl 6 (by decide) (hts _ q_X3_findSpread_8) (fun _ h9 => h9) rfl rfl rfl rfl (Nat.le_of_ble_eq_true rfl) dX3_findSpread_9 (fun H locs hP hD hS => ?_)
  have hP := u_3_3_6P (sI S3 5 (-9)) (-9) hP
  have hD := u_3_3_6D (sI S3 5 (-9)) (-9) hD
  refine lv_iconst (v := 0) (pc := 12) hx hb dX3_findSpread_12 (by decide) ?_
  refine lv_istore_n (lv' := [(1, .int 0), (0, .ref (g.2.2.1 3))]) (pc := 13) hx hb dX3_findSpread_13 rfl hl (by decide) rfl (fun ls hl => ?_)
  exact w_X3_findSpread_14 C  N H locs (sI (sI S3 5 (-9)) 6 (-9)) ls 0 hP hD hS (lv_sub hl [1, 0] rfl) hf
