theorem q_X2_swapWeight_0 : (.fieldLink RX2 9 "PictureCourt$Odds" "handWeights" "[I" : Cond) ∈ wsX2_swapWeight := by decide +kernel
theorem h_X2_swapWeight : yX2_swapWeight.cls = RX2 ∧ yX2_swapWeight.cls ≠ "java/lang/invoke/MethodHandle" ∧ yX2_swapWeight.cls ≠ "java/lang/invoke/VarHandle" ∧ (parseMethodDescriptor yX2_swapWeight.desc).map (fun d => d.parameters.length) = some 2 := by decide +kernel
set_option maxHeartbeats 4000000 in
set_option maxRecDepth 100000 in
theorem c_X2_swapWeight (l : Launch) (g : En) (N : Nat) (sz : Nat) (S2 : St) (x1 : Int32) (x2 : Int32) (res : Int32 × St) (hf : f_X2_swapWeight N S2 x1 x2 = some res) : Met l yX2_swapWeight wsX2_swapWeight { frames := 0, cells := 0, slots := 0, locals := 0 } (rwP g (wd_2 g S2) sz [.ref (g.2.2.1 2), .int x1, .int x2]) (rwQi g (wd_2 g (res.2)) (va_A (wd_2 g S2) sz) (res.1)) 0 0 (va_A (wd_2 g S2) sz) := by
  refine Met.ofW (cc := cX2_swapWeight) (maxL := 4) (ret := (some .int)) (by decide) rfl ?_
  intro p e s m args below meth c s₁ B hml hv
  obtain ⟨rfl, hsz, hP, hK, hD0⟩ := hv
  have hx := B.exec
  have hb := B.bytes
  have hr := B.returns
  have hts := atoms_spec (ws := wsX2_swapWeight) B.pre
  have hown : s.vm.findClass RX2 = some m.cls := findClass_of_methodNamed B.named
  have hlk := B.notSynchronized
  subst hsz
  have hD := hD0.self (sz := s.heap.size)
  generalize hAe : va_A (wd_2 g S2) s.heap.size = A at hD ⊢
  have hA : ∀ q : Nat, s.heap.size ≤ q → A q := fun q h => by rw [← hAe]; exact Or.inr h
  have hS : va_S A s.heap s.heap [] := va_S.rf
  have C : cxw g A cX2_swapWeight 4 (some .int) wsX2_swapWeight RX2 p s m ([.ref (g.2.2.1 2), .int x1, .int x2] : List Value).toArray meth c := ⟨⟨hx, hb, hr, hml, hown, hts, hlk⟩, hK, hA⟩
  have hl := lv_entry [.ref (g.2.2.1 2), .int x1, .int x2] (n := 4) (Nat.le_of_ble_eq_true rfl)
  rw [lg_entry_eq]
  generalize (lg_sl [.ref (g.2.2.1 2), .int x1, .int x2] ++ List.replicate (4 - (lg_sl [.ref (g.2.2.1 2), .int x1, .int x2]).length) Slot.unset).toArray = ls at hl ⊢
  have hl : lv_has ls 4 [(0, .ref (g.2.2.1 2)), (1, .int x1), (2, .int x2)] := hl
  unfold f_X2_swapWeight at hf
  suffices K9 : ∀ (H : Heap) (locs : List Loc), va_P g.1 vwCl (wd_2 g S2) H → va_D A (wd_2 g S2) → va_S A s.heap H locs → (if inb x1 4 = true then (if inb x1 4 = true then some (((S2.2.2 0) (Int32.toNatClampNeg x1)), (sA S2 0 (upd (S2.2.2 0) (Int32.toNatClampNeg x1) x2))) else none) else none) = some res → W p l e (headSpec wsX2_swapWeight { frames := 0, cells := 0, slots := 0, locals := 0 }).room s m ([.ref (g.2.2.1 2), .int x1, .int x2] : List Value).toArray below meth c H locs 0 0 (MQ below (rwQi g (wd_2 g (res.2)) A (res.1)) ([.ref (g.2.2.1 2), .int x1, .int x2] : List Value).toArray s 0 0 A) (F0 m 0 ls []) from K9 s.heap [] hP hD hS hf
  clear hP hD hS hf
  intro H locs hP hD hS hf
  refine lv_aload_n (pc := 0) hx hb dX2_swapWeight_0 rfl (lv_at hl 0 rfl) ?_
  refine va_get (D := g.1) (ci := 2) (v := .ref (g.2.2.2 2 0)) (C := RX2) (T := TX2) (N := 10) (pc := 1) hx hb hts (fun _ h => List.mem_cons_of_mem _ (List.mem_append_right _ h)) hown hK hP 0 rfl rfl 0 (by decide) (hts _ q_X2_swapWeight_0) (fun _ h9 => h9) rfl dX2_swapWeight_1 ?_
  refine lv_iload_n (pc := 4) hx hb dX2_swapWeight_4 rfl (lv_at hl 1 rfl) ?_
  obtain ⟨b5, hf⟩ := gdE hf
  refine va_iald (D := g.1) (tys := tyl g) (f := (S2.2.2 0)) (pc := 5) hx hb hK hP 1 0 rfl rfl (inbV b5) dX2_swapWeight_5 ?_
  refine lv_istore_n (lv' := [(3, .int ((S2.2.2 0) (Int32.toNatClampNeg x1))), (0, .ref (g.2.2.1 2)), (1, .int x1), (2, .int x2)]) (pc := 6) hx hb dX2_swapWeight_6 rfl hl (by decide) rfl (fun ls hl => ?_)
  refine lv_aload_n (pc := 7) hx hb dX2_swapWeight_7 rfl (lv_at hl 1 rfl) ?_
  refine va_get (D := g.1) (ci := 2) (v := .ref (g.2.2.2 2 0)) (C := RX2) (T := TX2) (N := 10) (pc := 8) hx hb hts (fun _ h => List.mem_cons_of_mem _ (List.mem_append_right _ h)) hown hK hP 0 rfl rfl 0 (by decide) (hts _ q_X2_swapWeight_0) (fun _ h9 => h9) rfl dX2_swapWeight_8 ?_
  refine lv_iload_n (pc := 11) hx hb dX2_swapWeight_11 rfl (lv_at hl 2 rfl) ?_
  refine lv_iload_n (pc := 12) hx hb dX2_swapWeight_12 rfl (lv_at hl 3 rfl) ?_
  obtain ⟨b13, hf⟩ := gdE hf
  refine va_iast (D := g.1) (tys := tyl g) (f := (S2.2.2 0)) (pc := 13) hx hb hK hP hD hS 1 0 rfl rfl (inbV b13) dX2_swapWeight_13 (fun H locs hP hD hS => ?_)
  have hP := u_2_2_0P S2 (upd (S2.2.2 0) (Int32.toNatClampNeg x1) x2) hP
  have hD := u_2_2_0D S2 (upd (S2.2.2 0) (Int32.toNatClampNeg x1) x2) hD
  refine lv_iload_n (pc := 14) hx hb dX2_swapWeight_14 rfl (lv_at hl 0 rfl) ?_
  have hf := Option.some.inj hf
  subst hf
  exact W.iret (v := ((S2.2.2 0) (Int32.toNatClampNeg x1))) hx hb hr (fun t ht hW => ⟨⟨_, (), rfl, rfl, by rw [ht]; exact hP, va_K.moved hW.alike hK, hD⟩, hS.F ht⟩) hS.2.2 dX2_swapWeight_15
theorem q_X2_isFull_0 : (.fieldLink RX2 37 "PictureCourt$Odds" "size" "I" : Cond) ∈ wsX2_isFull := by decide +kernel
theorem h_X2_isFull : yX2_isFull.cls = RX2 ∧ yX2_isFull.cls ≠ "java/lang/invoke/MethodHandle" ∧ yX2_isFull.cls ≠ "java/lang/invoke/VarHandle" ∧ (parseMethodDescriptor yX2_isFull.desc).map (fun d => d.parameters.length) = some 0 := by decide +kernel
set_option maxHeartbeats 4000000 in
set_option maxRecDepth 100000 in
theorem c_X2_isFull (l : Launch) (g : En) (N : Nat) (S2 : St) (res : Int32) (hf : f_X2_isFull N S2 = some res) : Met l yX2_isFull wsX2_isFull { frames := 0, cells := 0, slots := 0, locals := 0 } (roP g (wd_2 g S2) [.ref (g.2.2.1 2)]) (vp_Si (fun r => r = res)) 0 0 (fun _ => False) := by
  refine Met.ofW (cc := cX2_isFull) (maxL := 1) (ret := (some .boolean)) (by decide) rfl ?_
  intro p e s m args below meth c s₁ B hml hv
  obtain ⟨rfl, hP, hK⟩ := hv
  have hx := B.exec
  have hb := B.bytes
  have hr := B.returns
  have hts := atoms_spec (ws := wsX2_isFull) B.pre
  have hown : s.vm.findClass RX2 = some m.cls := findClass_of_methodNamed B.named
  have hlk := B.notSynchronized
  have C : cxr g (wd_2 g S2) cX2_isFull 1 (some .boolean) wsX2_isFull RX2 p s m ([.ref (g.2.2.1 2)] : List Value).toArray meth c := ⟨⟨hx, hb, hr, hml, hown, hts, hlk⟩, hK, hP⟩
  have hl := lv_entry [.ref (g.2.2.1 2)] (n := 1) (Nat.le_of_ble_eq_true rfl)
  rw [lg_entry_eq]
  generalize (lg_sl [.ref (g.2.2.1 2)] ++ List.replicate (1 - (lg_sl [.ref (g.2.2.1 2)]).length) Slot.unset).toArray = ls at hl ⊢
  have hl : lv_has ls 1 [(0, .ref (g.2.2.1 2))] := hl
  unfold f_X2_isFull at hf
  refine lv_aload_n (pc := 0) hx hb dX2_isFull_0 rfl (lv_at hl 0 rfl) ?_
  refine va_get (D := g.1) (ci := 2) (v := .int (S2.1 8)) (C := RX2) (T := TX2) (N := 10) (pc := 1) hx hb hts (fun _ h => List.mem_cons_of_mem _ (List.mem_append_right _ h)) hown hK hP 0 rfl rfl 8 (by decide) (hts _ q_X2_isFull_0) (fun _ h9 => h9) rfl dX2_isFull_1 ?_
  refine lv_bipush (v := 10) (pc := 4) hx hb dX2_isFull_4 (by decide) ?_
  refine lv_icmp_lt (tgt := 13) (pc := 6) hx hb dX2_isFull_6 (by decide) (fun c6 => ?_) (fun c6 => ?_)
  · have hf := ft hf c6
    refine lv_iconst (v := 0) (pc := 13) hx hb dX2_isFull_13 (by decide) ?_
    have hf := Option.some.inj hf
    subst hf
    exact W.zret (v := 0) hx hb hr rfl (fun t ht hW => ⟨_, rfl, rfl, ht⟩) (fun _ h => by cases h) dX2_isFull_14
  · have hf := ff hf c6
    refine lv_iconst (v := 1) (pc := 9) hx hb dX2_isFull_9 (by decide) ?_
    refine lv_goto (tgt := 14) (pc := 10) hx hb dX2_isFull_10 (by decide) ?_
    have hf := Option.some.inj hf
    subst hf
    exact W.zret (v := 1) hx hb hr rfl (fun t ht hW => ⟨_, rfl, rfl, ht⟩) (fun _ h => by cases h) dX2_isFull_14
theorem q_X2_add_0 : (.fieldLink RX2 37 "PictureCourt$Odds" "size" "I" : Cond) ∈ wsX2_add := by decide +kernel
theorem q_X2_add_1 : (.fieldLink RX2 24 "PictureCourt$Odds" "oftens" "[I" : Cond) ∈ wsX2_add := by decide +kernel
theorem q_X2_add_2 : (.fieldLink RX2 15 "PictureCourt$Odds" "costs" "[I" : Cond) ∈ wsX2_add := by decide +kernel
theorem q_X2_add_3 : (.fieldLink RX2 18 "PictureCourt$Odds" "wounds" "[I" : Cond) ∈ wsX2_add := by decide +kernel
theorem q_X2_add_4 : (.fieldLink RX2 21 "PictureCourt$Odds" "groups" "[I" : Cond) ∈ wsX2_add := by decide +kernel
theorem q_X2_add_5 : (.fieldLink RX2 27 "PictureCourt$Odds" "results" "[I" : Cond) ∈ wsX2_add := by decide +kernel
theorem h_X2_add : yX2_add.cls = RX2 ∧ yX2_add.cls ≠ "java/lang/invoke/MethodHandle" ∧ yX2_add.cls ≠ "java/lang/invoke/VarHandle" ∧ (parseMethodDescriptor yX2_add.desc).map (fun d => d.parameters.length) = some 3 := by decide +kernel
set_option maxHeartbeats 4000000 in
set_option maxRecDepth 100000 in
theorem w_X2_add_44_b {p : Program} {l : Launch} {e : Env} {s : State} {m : MethodId} {args : Array Value} {below : List Frame} {meth : Method} {c : Code} {g : En} {A : Nat → Prop} {N : Nat} {res : Int32 × St} (C : cxw g A cX2_add 5 (some .int) wsX2_add RX2 p s m args meth c) (k44 : St → Int32 → Option (Int32 × St)) (H44 : ∀ (H : Heap) (locs : List Loc) (S2 : St) (ls : Array Slot) (x4 : Int32), va_P g.1 vwCl (wd_2 g S2) H → va_D A (wd_2 g S2) → va_S A s.heap H locs → lv_has ls 5 [(0, .ref (g.2.2.1 2)), (4, .int x4)] → k44 S2 x4 = some res → W p l e (headSpec wsX2_add { frames := 0, cells := 0, slots := 0, locals := 0 }).room s m args below meth c H locs 0 0 (MQ below (rwQi g (wd_2 g (res.2)) A (res.1)) args s 0 0 A) (F0 m 44 ls [])) : ∀ (H : Heap) (locs : List Loc) (S2 : St) (ls : Array Slot) (x4 : Int32), va_P g.1 vwCl (wd_2 g S2) H → va_D A (wd_2 g S2) → va_S A s.heap H locs → lv_has ls 5 [(0, .ref (g.2.2.1 2)), (4, .int x4)] → f_X2_add_44_b N   k44 S2 x4 = some res → W p l e (headSpec wsX2_add { frames := 0, cells := 0, slots := 0, locals := 0 }).room s m args below meth c H locs 0 0 (MQ below (rwQi g (wd_2 g (res.2)) A (res.1)) args s 0 0 A) (F0 m 44 ls []) := by
  intro H locs S2 ls x4 hP hD hS hl hf
  obtain ⟨⟨hx, hb, hr, hml, hown, hts, hlk⟩, hK, hA⟩ := id C
  unfold f_X2_add_44_b at hf
  refine lv_iload (pc := 44) hx hb dX2_add_44 (lv_at hl 1 rfl) ?_
  refine lv_iconst (v := 4) (pc := 46) hx hb dX2_add_46 (by decide) ?_
  refine lv_icmp_ge (tgt := 72) (pc := 47) hx hb dX2_add_47 (by decide) (fun c47 => ?_) (fun c47 => ?_)
  · have hf := ft hf c47
    refine lv_aload_n (pc := 72) hx hb dX2_add_72 rfl (lv_at hl 0 rfl) ?_
    refine lv_dup (pc := 73) hx hb dX2_add_73 rfl ?_
    refine va_get (D := g.1) (ci := 2) (v := .int (S2.1 8)) (C := RX2) (T := TX2) (N := 10) (pc := 74) hx hb hts (fun _ h => List.mem_cons_of_mem _ (List.mem_append_right _ h)) hown hK hP 0 rfl rfl 8 (by decide) (hts _ q_X2_add_0) (fun _ h9 => h9) rfl dX2_add_74 ?_
    refine lv_iconst (v := 1) (pc := 77) hx hb dX2_add_77 (by decide) ?_
    refine lv_iadd (pc := 78) hx hb dX2_add_78 ?_
    refine va_put (D := g.1) (ci := 2) (v := .int ((S2.1 8) + 1)) (ty := .int) (C := RX2) (T := TX2) (N := 10) (pc := 79) hx hb hts (fun _ h => List.mem_cons_of_mem _ (List.mem_append_right _ h)) tyX2 tyX2_ok nmX2 hown hK hP hD hS 0 rfl rfl 8 (by decide) (hts _ q_X2_add_0) (fun _ h9 => h9) rfl rfl rfl rfl (Nat.le_of_ble_eq_true rfl) dX2_add_79 (fun H locs hP hD hS => ?_)
    have hP := u_2_2_8P S2 ((S2.1 8) + 1) hP
    have hD := u_2_2_8D S2 ((S2.1 8) + 1) hD
    refine lv_aload_n (pc := 82) hx hb dX2_add_82 rfl (lv_at hl 0 rfl) ?_
    refine va_get (D := g.1) (ci := 2) (v := .int ((S2.1 8) + 1)) (C := RX2) (T := TX2) (N := 10) (pc := 83) hx hb hts (fun _ h => List.mem_cons_of_mem _ (List.mem_append_right _ h)) hown hK hP 0 rfl rfl 8 (by decide) (hts _ q_X2_add_0) (fun _ h9 => h9) rfl dX2_add_83 ?_
    refine lv_iconst (v := 1) (pc := 86) hx hb dX2_add_86 (by decide) ?_
    refine lv_isub (pc := 87) hx hb dX2_add_87 ?_
    have hf := Option.some.inj hf
    subst hf
    exact W.iret (v := (((S2.1 8) + 1) - 1)) hx hb hr (fun t ht hW => ⟨⟨_, (), rfl, rfl, by rw [ht]; exact hP, va_K.moved hW.alike hK, hD⟩, hS.F ht⟩) hS.2.2 dX2_add_88
  · have hf := ff hf c47
    refine lv_aload_n (pc := 50) hx hb dX2_add_50 rfl (lv_at hl 0 rfl) ?_
    refine va_get (D := g.1) (ci := 2) (v := .ref (g.2.2.2 2 4)) (C := RX2) (T := TX2) (N := 10) (pc := 51) hx hb hts (fun _ h => List.mem_cons_of_mem _ (List.mem_append_right _ h)) hown hK hP 0 rfl rfl 4 (by decide) (hts _ q_X2_add_1) (fun _ h9 => h9) rfl dX2_add_51 ?_
    refine lv_aload_n (pc := 54) hx hb dX2_add_54 rfl (lv_at hl 0 rfl) ?_
    refine va_get (D := g.1) (ci := 2) (v := .int (S2.1 8)) (C := RX2) (T := TX2) (N := 10) (pc := 55) hx hb hts (fun _ h => List.mem_cons_of_mem _ (List.mem_append_right _ h)) hown hK hP 0 rfl rfl 8 (by decide) (hts _ q_X2_add_0) (fun _ h9 => h9) rfl dX2_add_55 ?_
    refine lv_iconst (v := 4) (pc := 58) hx hb dX2_add_58 (by decide) ?_
    refine lv_imul (pc := 59) hx hb dX2_add_59 ?_
    refine lv_iload (pc := 60) hx hb dX2_add_60 (lv_at hl 1 rfl) ?_
    refine lv_iadd (pc := 62) hx hb dX2_add_62 ?_
    refine lv_bipush (v := 8) (pc := 63) hx hb dX2_add_63 (by decide) ?_
    obtain ⟨b65, hf⟩ := gdE hf
    refine va_iast (D := g.1) (tys := tyl g) (f := (S2.2.2 4)) (pc := 65) hx hb hK hP hD hS 5 0 rfl rfl (inbV b65) dX2_add_65 (fun H locs hP hD hS => ?_)
    have hP := u_2_2_4P S2 (upd (S2.2.2 4) (Int32.toNatClampNeg (((S2.1 8) * 4) + x4)) 8) hP
    have hD := u_2_2_4D S2 (upd (S2.2.2 4) (Int32.toNatClampNeg (((S2.1 8) * 4) + x4)) 8) hD
    refine lv_iinc (v := (x4 + 1)) (lv' := [(4, .int (x4 + 1)), (0, .ref (g.2.2.1 2))]) (pc := 66) hx hb dX2_add_66 hl (k := 1) rfl rfl (by decide) rfl (fun ls hl => ?_)
    refine lv_goto (tgt := 44) (pc := 69) hx hb dX2_add_69 (by decide) ?_
    exact H44 H locs (sA S2 4 (upd (S2.2.2 4) (Int32.toNatClampNeg (((S2.1 8) * 4) + x4)) 8)) ls (x4 + 1) hP hD hS (lv_sub hl [1, 0] rfl) hf
set_option maxHeartbeats 4000000 in
set_option maxRecDepth 100000 in
theorem w_X2_add_44 {p : Program} {l : Launch} {e : Env} {s : State} {m : MethodId} {args : Array Value} {below : List Frame} {meth : Method} {c : Code} {g : En} {A : Nat → Prop} {N : Nat} {res : Int32 × St} (C : cxw g A cX2_add 5 (some .int) wsX2_add RX2 p s m args meth c) : ∀ (n : Nat), ∀ (H : Heap) (locs : List Loc) (S2 : St) (ls : Array Slot) (x4 : Int32), va_P g.1 vwCl (wd_2 g S2) H → va_D A (wd_2 g S2) → va_S A s.heap H locs → lv_has ls 5 [(0, .ref (g.2.2.1 2)), (4, .int x4)] → f_X2_add_44 N   n S2 x4 = some res → W p l e (headSpec wsX2_add { frames := 0, cells := 0, slots := 0, locals := 0 }).room s m args below meth c H locs 0 0 (MQ below (rwQi g (wd_2 g (res.2)) A (res.1)) args s 0 0 A) (F0 m 44 ls []) := by
  intro n
  induction n with
  | zero =>
    intro H locs S2 ls x4 hP hD hS hl hf
    have hf : (none : Option (Int32 × St)) = some res := hf
    cases hf
  | succ n ih =>
    intro H locs S2 ls x4 hP hD hS hl hf
    exact w_X2_add_44_b C  (fun y0 y1 => f_X2_add_44 N   n y0 y1) ih H locs S2 ls x4 hP hD hS hl hf
set_option maxHeartbeats 4000000 in
set_option maxRecDepth 100000 in
theorem c_X2_add (l : Launch) (g : En) (N : Nat) (sz : Nat) (S2 : St) (x1 : Int32) (x2 : Int32) (x3 : Int32) (res : Int32 × St) (hf : f_X2_add N S2 x1 x2 x3 = some res) : Met l yX2_add wsX2_add { frames := 0, cells := 0, slots := 0, locals := 0 } (rwP g (wd_2 g S2) sz [.ref (g.2.2.1 2), .int x1, .int x2, .int x3]) (rwQi g (wd_2 g (res.2)) (va_A (wd_2 g S2) sz) (res.1)) 0 0 (va_A (wd_2 g S2) sz) := by
  refine Met.ofW (cc := cX2_add) (maxL := 5) (ret := (some .int)) (by decide) rfl ?_
  intro p e s m args below meth c s₁ B hml hv
  obtain ⟨rfl, hsz, hP, hK, hD0⟩ := hv
  have hx := B.exec
  have hb := B.bytes
  have hr := B.returns
  have hts := atoms_spec (ws := wsX2_add) B.pre
  have hown : s.vm.findClass RX2 = some m.cls := findClass_of_methodNamed B.named
  have hlk := B.notSynchronized
  subst hsz
  have hD := hD0.self (sz := s.heap.size)
  generalize hAe : va_A (wd_2 g S2) s.heap.size = A at hD ⊢
  have hA : ∀ q : Nat, s.heap.size ≤ q → A q := fun q h => by rw [← hAe]; exact Or.inr h
  have hS : va_S A s.heap s.heap [] := va_S.rf
  have C : cxw g A cX2_add 5 (some .int) wsX2_add RX2 p s m ([.ref (g.2.2.1 2), .int x1, .int x2, .int x3] : List Value).toArray meth c := ⟨⟨hx, hb, hr, hml, hown, hts, hlk⟩, hK, hA⟩
  have hl := lv_entry [.ref (g.2.2.1 2), .int x1, .int x2, .int x3] (n := 5) (Nat.le_of_ble_eq_true rfl)
  rw [lg_entry_eq]
  generalize (lg_sl [.ref (g.2.2.1 2), .int x1, .int x2, .int x3] ++ List.replicate (5 - (lg_sl [.ref (g.2.2.1 2), .int x1, .int x2, .int x3]).length) Slot.unset).toArray = ls at hl ⊢
  have hl : lv_has ls 5 [(0, .ref (g.2.2.1 2)), (1, .int x1), (2, .int x2), (3, .int x3)] := hl
  unfold f_X2_add at hf
  suffices K9 : ∀ (H : Heap) (locs : List Loc), va_P g.1 vwCl (wd_2 g S2) H → va_D A (wd_2 g S2) → va_S A s.heap H locs → (if inb (S2.1 8) 10 = true then (if inb (S2.1 8) 10 = true then (if inb (S2.1 8) 10 = true then (if inb (S2.1 8) 10 = true then (f_X2_add_44 N   N (sA (sA (sA (sA S2 1 (upd (S2.2.2 1) (Int32.toNatClampNeg (S2.1 8)) x1)) 2 (upd (S2.2.2 2) (Int32.toNatClampNeg (S2.1 8)) x2)) 3 (upd (S2.2.2 3) (Int32.toNatClampNeg (S2.1 8)) x3)) 5 (upd (S2.2.2 5) (Int32.toNatClampNeg (S2.1 8)) (-9))) 0) else none) else none) else none) else none) = some res → W p l e (headSpec wsX2_add { frames := 0, cells := 0, slots := 0, locals := 0 }).room s m ([.ref (g.2.2.1 2), .int x1, .int x2, .int x3] : List Value).toArray below meth c H locs 0 0 (MQ below (rwQi g (wd_2 g (res.2)) A (res.1)) ([.ref (g.2.2.1 2), .int x1, .int x2, .int x3] : List Value).toArray s 0 0 A) (F0 m 0 ls []) from K9 s.heap [] hP hD hS hf
  clear hP hD hS hf
  intro H locs hP hD hS hf
  refine lv_aload_n (pc := 0) hx hb dX2_add_0 rfl (lv_at hl 0 rfl) ?_
  refine va_get (D := g.1) (ci := 2) (v := .ref (g.2.2.2 2 1)) (C := RX2) (T := TX2) (N := 10) (pc := 1) hx hb hts (fun _ h => List.mem_cons_of_mem _ (List.mem_append_right _ h)) hown hK hP 0 rfl rfl 1 (by decide) (hts _ q_X2_add_2) (fun _ h9 => h9) rfl dX2_add_1 ?_
  refine lv_aload_n (pc := 4) hx hb dX2_add_4 rfl (lv_at hl 0 rfl) ?_
  refine va_get (D := g.1) (ci := 2) (v := .int (S2.1 8)) (C := RX2) (T := TX2) (N := 10) (pc := 5) hx hb hts (fun _ h => List.mem_cons_of_mem _ (List.mem_append_right _ h)) hown hK hP 0 rfl rfl 8 (by decide) (hts _ q_X2_add_0) (fun _ h9 => h9) rfl dX2_add_5 ?_
  refine lv_iload_n (pc := 8) hx hb dX2_add_8 rfl (lv_at hl 1 rfl) ?_
  obtain ⟨b9, hf⟩ := gdE hf
  refine va_iast (D := g.1) (tys := tyl g) (f := (S2.2.2 1)) (pc := 9) hx hb hK hP hD hS 2 0 rfl rfl (inbV b9) dX2_add_9 (fun H locs hP hD hS => ?_)
  have hP := u_2_2_1P S2 (upd (S2.2.2 1) (Int32.toNatClampNeg (S2.1 8)) x1) hP
  have hD := u_2_2_1D S2 (upd (S2.2.2 1) (Int32.toNatClampNeg (S2.1 8)) x1) hD
  refine lv_aload_n (pc := 10) hx hb dX2_add_10 rfl (lv_at hl 0 rfl) ?_
  refine va_get (D := g.1) (ci := 2) (v := .ref (g.2.2.2 2 2)) (C := RX2) (T := TX2) (N := 10) (pc := 11) hx hb hts (fun _ h => List.mem_cons_of_mem _ (List.mem_append_right _ h)) hown hK hP 0 rfl rfl 2 (by decide) (hts _ q_X2_add_3) (fun _ h9 => h9) rfl dX2_add_11 ?_
  refine lv_aload_n (pc := 14) hx hb dX2_add_14 rfl (lv_at hl 0 rfl) ?_
  refine va_get (D := g.1) (ci := 2) (v := .int (S2.1 8)) (C := RX2) (T := TX2) (N := 10) (pc := 15) hx hb hts (fun _ h => List.mem_cons_of_mem _ (List.mem_append_right _ h)) hown hK hP 0 rfl rfl 8 (by decide) (hts _ q_X2_add_0) (fun _ h9 => h9) rfl dX2_add_15 ?_
  refine lv_iload_n (pc := 18) hx hb dX2_add_18 rfl (lv_at hl 2 rfl) ?_
  obtain ⟨b19, hf⟩ := gdE hf
  refine va_iast (D := g.1) (tys := tyl g) (f := (S2.2.2 2)) (pc := 19) hx hb hK hP hD hS 3 0 rfl rfl (inbV b19) dX2_add_19 (fun H locs hP hD hS => ?_)
  have hP := u_2_2_2P (sA S2 1 (upd (S2.2.2 1) (Int32.toNatClampNeg (S2.1 8)) x1)) (upd (S2.2.2 2) (Int32.toNatClampNeg (S2.1 8)) x2) hP
  have hD := u_2_2_2D (sA S2 1 (upd (S2.2.2 1) (Int32.toNatClampNeg (S2.1 8)) x1)) (upd (S2.2.2 2) (Int32.toNatClampNeg (S2.1 8)) x2) hD
  refine lv_aload_n (pc := 20) hx hb dX2_add_20 rfl (lv_at hl 0 rfl) ?_
  refine va_get (D := g.1) (ci := 2) (v := .ref (g.2.2.2 2 3)) (C := RX2) (T := TX2) (N := 10) (pc := 21) hx hb hts (fun _ h => List.mem_cons_of_mem _ (List.mem_append_right _ h)) hown hK hP 0 rfl rfl 3 (by decide) (hts _ q_X2_add_4) (fun _ h9 => h9) rfl dX2_add_21 ?_
  refine lv_aload_n (pc := 24) hx hb dX2_add_24 rfl (lv_at hl 0 rfl) ?_
  refine va_get (D := g.1) (ci := 2) (v := .int (S2.1 8)) (C := RX2) (T := TX2) (N := 10) (pc := 25) hx hb hts (fun _ h => List.mem_cons_of_mem _ (List.mem_append_right _ h)) hown hK hP 0 rfl rfl 8 (by decide) (hts _ q_X2_add_0) (fun _ h9 => h9) rfl dX2_add_25 ?_
  refine lv_iload_n (pc := 28) hx hb dX2_add_28 rfl (lv_at hl 3 rfl) ?_
  obtain ⟨b29, hf⟩ := gdE hf
  refine va_iast (D := g.1) (tys := tyl g) (f := (S2.2.2 3)) (pc := 29) hx hb hK hP hD hS 4 0 rfl rfl (inbV b29) dX2_add_29 (fun H locs hP hD hS => ?_)
  have hP := u_2_2_3P (sA (sA S2 1 (upd (S2.2.2 1) (Int32.toNatClampNeg (S2.1 8)) x1)) 2 (upd (S2.2.2 2) (Int32.toNatClampNeg (S2.1 8)) x2)) (upd (S2.2.2 3) (Int32.toNatClampNeg (S2.1 8)) x3) hP
  have hD := u_2_2_3D (sA (sA S2 1 (upd (S2.2.2 1) (Int32.toNatClampNeg (S2.1 8)) x1)) 2 (upd (S2.2.2 2) (Int32.toNatClampNeg (S2.1 8)) x2)) (upd (S2.2.2 3) (Int32.toNatClampNeg (S2.1 8)) x3) hD
  refine lv_aload_n (pc := 30) hx hb dX2_add_30 rfl (lv_at hl 0 rfl) ?_
  refine va_get (D := g.1) (ci := 2) (v := .ref (g.2.2.2 2 5)) (C := RX2) (T := TX2) (N := 10) (pc := 31) hx hb hts (fun _ h => List.mem_cons_of_mem _ (List.mem_append_right _ h)) hown hK hP 0 rfl rfl 5 (by decide) (hts _ q_X2_add_5) (fun _ h9 => h9) rfl dX2_add_31 ?_
  refine lv_aload_n (pc := 34) hx hb dX2_add_34 rfl (lv_at hl 0 rfl) ?_
  refine va_get (D := g.1) (ci := 2) (v := .int (S2.1 8)) (C := RX2) (T := TX2) (N := 10) (pc := 35) hx hb hts (fun _ h => List.mem_cons_of_mem _ (List.mem_append_right _ h)) hown hK hP 0 rfl rfl 8 (by decide) (hts _ q_X2_add_0) (fun _ h9 => h9) rfl dX2_add_35 ?_
  refine lv_bipush (v := (-9)) (pc := 38) hx hb dX2_add_38 (by decide) ?_
  obtain ⟨b40, hf⟩ := gdE hf
  refine va_iast (D := g.1) (tys := tyl g) (f := (S2.2.2 5)) (pc := 40) hx hb hK hP hD hS 6 0 rfl rfl (inbV b40) dX2_add_40 (fun H locs hP hD hS => ?_)
  have hP := u_2_2_5P (sA (sA (sA S2 1 (upd (S2.2.2 1) (Int32.toNatClampNeg (S2.1 8)) x1)) 2 (upd (S2.2.2 2) (Int32.toNatClampNeg (S2.1 8)) x2)) 3 (upd (S2.2.2 3) (Int32.toNatClampNeg (S2.1 8)) x3)) (upd (S2.2.2 5) (Int32.toNatClampNeg (S2.1 8)) (-9)) hP
  have hD := u_2_2_5D (sA (sA (sA S2 1 (upd (S2.2.2 1) (Int32.toNatClampNeg (S2.1 8)) x1)) 2 (upd (S2.2.2 2) (Int32.toNatClampNeg (S2.1 8)) x2)) 3 (upd (S2.2.2 3) (Int32.toNatClampNeg (S2.1 8)) x3)) (upd (S2.2.2 5) (Int32.toNatClampNeg (S2.1 8)) (-9)) hD
  refine lv_iconst (v := 0) (pc := 41) hx hb dX2_add_41 (by decide) ?_
  refine lv_istore (lv' := [(4, .int 0), (0, .ref (g.2.2.1 2)), (1, .int x1), (2, .int x2), (3, .int x3)]) (pc := 42) hx hb dX2_add_42 hl (by decide) rfl (fun ls hl => ?_)
  exact w_X2_add_44 C  N H locs (sA (sA (sA (sA S2 1 (upd (S2.2.2 1) (Int32.toNatClampNeg (S2.1 8)) x1)) 2 (upd (S2.2.2 2) (Int32.toNatClampNeg (S2.1 8)) x2)) 3 (upd (S2.2.2 3) (Int32.toNatClampNeg (S2.1 8)) x3)) 5 (upd (S2.2.2 5) (Int32.toNatClampNeg (S2.1 8)) (-9))) ls 0 hP hD hS (lv_sub hl [1, 0] rfl) hf
theorem q_X2_has_0 : (.fieldLink RX2 37 "PictureCourt$Odds" "size" "I" : Cond) ∈ wsX2_has := by decide +kernel
theorem h_X2_has : yX2_has.cls = RX2 ∧ yX2_has.cls ≠ "java/lang/invoke/MethodHandle" ∧ yX2_has.cls ≠ "java/lang/invoke/VarHandle" ∧ (parseMethodDescriptor yX2_has.desc).map (fun d => d.parameters.length) = some 1 := by decide +kernel
set_option maxHeartbeats 4000000 in
set_option maxRecDepth 100000 in
theorem c_X2_has (l : Launch) (g : En) (N : Nat) (S2 : St) (x1 : Int32) (res : Int32) (hf : f_X2_has N S2 x1 = some res) : Met l yX2_has wsX2_has { frames := 0, cells := 0, slots := 0, locals := 0 } (roP g (wd_2 g S2) [.ref (g.2.2.1 2), .int x1]) (vp_Si (fun r => r = res)) 0 0 (fun _ => False) := by
  refine Met.ofW (cc := cX2_has) (maxL := 2) (ret := (some .boolean)) (by decide) rfl ?_
  intro p e s m args below meth c s₁ B hml hv
  obtain ⟨rfl, hP, hK⟩ := hv
  have hx := B.exec
  have hb := B.bytes
  have hr := B.returns
  have hts := atoms_spec (ws := wsX2_has) B.pre
  have hown : s.vm.findClass RX2 = some m.cls := findClass_of_methodNamed B.named
  have hlk := B.notSynchronized
  have C : cxr g (wd_2 g S2) cX2_has 2 (some .boolean) wsX2_has RX2 p s m ([.ref (g.2.2.1 2), .int x1] : List Value).toArray meth c := ⟨⟨hx, hb, hr, hml, hown, hts, hlk⟩, hK, hP⟩
  have hl := lv_entry [.ref (g.2.2.1 2), .int x1] (n := 2) (Nat.le_of_ble_eq_true rfl)
  rw [lg_entry_eq]
  generalize (lg_sl [.ref (g.2.2.1 2), .int x1] ++ List.replicate (2 - (lg_sl [.ref (g.2.2.1 2), .int x1]).length) Slot.unset).toArray = ls at hl ⊢
  have hl : lv_has ls 2 [(0, .ref (g.2.2.1 2)), (1, .int x1)] := hl
  unfold f_X2_has at hf
  refine lv_iload_n (pc := 0) hx hb dX2_has_0 rfl (lv_at hl 1 rfl) ?_
  refine lv_if_lt (tgt := 16) (pc := 1) hx hb dX2_has_1 (by decide) (fun c1 => ?_) (fun c1 => ?_)
  · have hf := ft hf c1
    refine lv_iconst (v := 0) (pc := 16) hx hb dX2_has_16 (by decide) ?_
    have hf := Option.some.inj hf
    subst hf
    exact W.zret (v := 0) hx hb hr rfl (fun t ht hW => ⟨_, rfl, rfl, ht⟩) (fun _ h => by cases h) dX2_has_17
  · have hf := ff hf c1
    refine lv_iload_n (pc := 4) hx hb dX2_has_4 rfl (lv_at hl 1 rfl) ?_
    refine lv_aload_n (pc := 5) hx hb dX2_has_5 rfl (lv_at hl 0 rfl) ?_
    refine va_get (D := g.1) (ci := 2) (v := .int (S2.1 8)) (C := RX2) (T := TX2) (N := 10) (pc := 6) hx hb hts (fun _ h => List.mem_cons_of_mem _ (List.mem_append_right _ h)) hown hK hP 0 rfl rfl 8 (by decide) (hts _ q_X2_has_0) (fun _ h9 => h9) rfl dX2_has_6 ?_
    refine lv_icmp_ge (tgt := 16) (pc := 9) hx hb dX2_has_9 (by decide) (fun c9 => ?_) (fun c9 => ?_)
    · have hf := ft hf c9
      refine lv_iconst (v := 0) (pc := 16) hx hb dX2_has_16 (by decide) ?_
      have hf := Option.some.inj hf
      subst hf
      exact W.zret (v := 0) hx hb hr rfl (fun t ht hW => ⟨_, rfl, rfl, ht⟩) (fun _ h => by cases h) dX2_has_17
    · have hf := ff hf c9
      refine lv_iconst (v := 1) (pc := 12) hx hb dX2_has_12 (by decide) ?_
      refine lv_goto (tgt := 17) (pc := 13) hx hb dX2_has_13 (by decide) ?_
      have hf := Option.some.inj hf
      subst hf
      exact W.zret (v := 1) hx hb hr rfl (fun t ht hW => ⟨_, rfl, rfl, ht⟩) (fun _ h => by cases h) dX2_has_17
theorem q_X2_isDone_0 : (.fieldLink RX2 27 "PictureCourt$Odds" "results" "[I" : Cond) ∈ wsX2_isDone := by decide +kernel
theorem h_X2_isDone : yX2_isDone.cls = RX2 ∧ yX2_isDone.cls ≠ "java/lang/invoke/MethodHandle" ∧ yX2_isDone.cls ≠ "java/lang/invoke/VarHandle" ∧ (parseMethodDescriptor yX2_isDone.desc).map (fun d => d.parameters.length) = some 1 := by decide +kernel
set_option maxHeartbeats 4000000 in
set_option maxRecDepth 100000 in
theorem c_X2_isDone (l : Launch) (g : En) (N : Nat) (S2 : St) (x1 : Int32) (res : Int32) (hf : f_X2_isDone N S2 x1 = some res) : Met l yX2_isDone wsX2_isDone { frames := 0, cells := 0, slots := 0, locals := 0 } (roP g (wd_2 g S2) [.ref (g.2.2.1 2), .int x1]) (vp_Si (fun r => r = res)) 0 0 (fun _ => False) := by
  refine Met.ofW (cc := cX2_isDone) (maxL := 2) (ret := (some .boolean)) (by decide) rfl ?_
  intro p e s m args below meth c s₁ B hml hv
  obtain ⟨rfl, hP, hK⟩ := hv
  have hx := B.exec
  have hb := B.bytes
  have hr := B.returns
  have hts := atoms_spec (ws := wsX2_isDone) B.pre
  have hown : s.vm.findClass RX2 = some m.cls := findClass_of_methodNamed B.named
  have hlk := B.notSynchronized
  have C : cxr g (wd_2 g S2) cX2_isDone 2 (some .boolean) wsX2_isDone RX2 p s m ([.ref (g.2.2.1 2), .int x1] : List Value).toArray meth c := ⟨⟨hx, hb, hr, hml, hown, hts, hlk⟩, hK, hP⟩
  have hl := lv_entry [.ref (g.2.2.1 2), .int x1] (n := 2) (Nat.le_of_ble_eq_true rfl)
  rw [lg_entry_eq]
  generalize (lg_sl [.ref (g.2.2.1 2), .int x1] ++ List.replicate (2 - (lg_sl [.ref (g.2.2.1 2), .int x1]).length) Slot.unset).toArray = ls at hl ⊢
  have hl : lv_has ls 2 [(0, .ref (g.2.2.1 2)), (1, .int x1)] := hl
  unfold f_X2_isDone at hf
  refine lv_aload_n (pc := 0) hx hb dX2_isDone_0 rfl (lv_at hl 0 rfl) ?_
  refine va_get (D := g.1) (ci := 2) (v := .ref (g.2.2.2 2 5)) (C := RX2) (T := TX2) (N := 10) (pc := 1) hx hb hts (fun _ h => List.mem_cons_of_mem _ (List.mem_append_right _ h)) hown hK hP 0 rfl rfl 5 (by decide) (hts _ q_X2_isDone_0) (fun _ h9 => h9) rfl dX2_isDone_1 ?_
  refine lv_iload_n (pc := 4) hx hb dX2_isDone_4 rfl (lv_at hl 1 rfl) ?_
  obtain ⟨b5, hf⟩ := gdE hf
  refine va_iald (D := g.1) (tys := tyl g) (f := (S2.2.2 5)) (pc := 5) hx hb hK hP 6 0 rfl rfl (inbV b5) dX2_isDone_5 ?_
  refine lv_bipush (v := (-9)) (pc := 6) hx hb dX2_isDone_6 (by decide) ?_
  refine lv_icmp_eq (tgt := 15) (pc := 8) hx hb dX2_isDone_8 (by decide) (fun c8 => ?_) (fun c8 => ?_)
  · have hf := ft hf c8
    refine lv_iconst (v := 0) (pc := 15) hx hb dX2_isDone_15 (by decide) ?_
    have hf := Option.some.inj hf
    subst hf
    exact W.zret (v := 0) hx hb hr rfl (fun t ht hW => ⟨_, rfl, rfl, ht⟩) (fun _ h => by cases h) dX2_isDone_16
  · have hf := ff hf c8
    refine lv_iconst (v := 1) (pc := 11) hx hb dX2_isDone_11 (by decide) ?_
    refine lv_goto (tgt := 16) (pc := 12) hx hb dX2_isDone_12 (by decide) ?_
    have hf := Option.some.inj hf
    subst hf
    exact W.zret (v := 1) hx hb hr rfl (fun t ht hW => ⟨_, rfl, rfl, ht⟩) (fun _ h => by cases h) dX2_isDone_16
theorem q_X2_swapOften_0 : (.fieldLink RX2 24 "PictureCourt$Odds" "oftens" "[I" : Cond) ∈ wsX2_swapOften := by decide +kernel
theorem h_X2_swapOften : yX2_swapOften.cls = RX2 ∧ yX2_swapOften.cls ≠ "java/lang/invoke/MethodHandle" ∧ yX2_swapOften.cls ≠ "java/lang/invoke/VarHandle" ∧ (parseMethodDescriptor yX2_swapOften.desc).map (fun d => d.parameters.length) = some 3 := by decide +kernel
set_option maxHeartbeats 4000000 in
set_option maxRecDepth 100000 in
theorem c_X2_swapOften (l : Launch) (g : En) (N : Nat) (sz : Nat) (S2 : St) (x1 : Int32) (x2 : Int32) (x3 : Int32) (res : Int32 × St) (hf : f_X2_swapOften N S2 x1 x2 x3 = some res) : Met l yX2_swapOften wsX2_swapOften { frames := 0, cells := 0, slots := 0, locals := 0 } (rwP g (wd_2 g S2) sz [.ref (g.2.2.1 2), .int x1, .int x2, .int x3]) (rwQi g (wd_2 g (res.2)) (va_A (wd_2 g S2) sz) (res.1)) 0 0 (va_A (wd_2 g S2) sz) := by
  refine Met.ofW (cc := cX2_swapOften) (maxL := 5) (ret := (some .int)) (by decide) rfl ?_
  intro p e s m args below meth c s₁ B hml hv
  obtain ⟨rfl, hsz, hP, hK, hD0⟩ := hv
  have hx := B.exec
  have hb := B.bytes
  have hr := B.returns
  have hts := atoms_spec (ws := wsX2_swapOften) B.pre
  have hown : s.vm.findClass RX2 = some m.cls := findClass_of_methodNamed B.named
  have hlk := B.notSynchronized
  subst hsz
  have hD := hD0.self (sz := s.heap.size)
  generalize hAe : va_A (wd_2 g S2) s.heap.size = A at hD ⊢
  have hA : ∀ q : Nat, s.heap.size ≤ q → A q := fun q h => by rw [← hAe]; exact Or.inr h
  have hS : va_S A s.heap s.heap [] := va_S.rf
  have C : cxw g A cX2_swapOften 5 (some .int) wsX2_swapOften RX2 p s m ([.ref (g.2.2.1 2), .int x1, .int x2, .int x3] : List Value).toArray meth c := ⟨⟨hx, hb, hr, hml, hown, hts, hlk⟩, hK, hA⟩
  have hl := lv_entry [.ref (g.2.2.1 2), .int x1, .int x2, .int x3] (n := 5) (Nat.le_of_ble_eq_true rfl)
  rw [lg_entry_eq]
  generalize (lg_sl [.ref (g.2.2.1 2), .int x1, .int x2, .int x3] ++ List.replicate (5 - (lg_sl [.ref (g.2.2.1 2), .int x1, .int x2, .int x3]).length) Slot.unset).toArray = ls at hl ⊢
  have hl : lv_has ls 5 [(0, .ref (g.2.2.1 2)), (1, .int x1), (2, .int x2), (3, .int x3)] := hl
  unfold f_X2_swapOften at hf
  suffices K9 : ∀ (H : Heap) (locs : List Loc), va_P g.1 vwCl (wd_2 g S2) H → va_D A (wd_2 g S2) → va_S A s.heap H locs → (if inb ((x1 * 4) + x2) 40 = true then (if inb ((x1 * 4) + x2) 40 = true then some (((S2.2.2 4) (Int32.toNatClampNeg ((x1 * 4) + x2))), (sA S2 4 (upd (S2.2.2 4) (Int32.toNatClampNeg ((x1 * 4) + x2)) x3))) else none) else none) = some res → W p l e (headSpec wsX2_swapOften { frames := 0, cells := 0, slots := 0, locals := 0 }).room s m ([.ref (g.2.2.1 2), .int x1, .int x2, .int x3] : List Value).toArray below meth c H locs 0 0 (MQ below (rwQi g (wd_2 g (res.2)) A (res.1)) ([.ref (g.2.2.1 2), .int x1, .int x2, .int x3] : List Value).toArray s 0 0 A) (F0 m 0 ls []) from K9 s.heap [] hP hD hS hf
  clear hP hD hS hf
  intro H locs hP hD hS hf
  refine lv_aload_n (pc := 0) hx hb dX2_swapOften_0 rfl (lv_at hl 0 rfl) ?_
  refine va_get (D := g.1) (ci := 2) (v := .ref (g.2.2.2 2 4)) (C := RX2) (T := TX2) (N := 10) (pc := 1) hx hb hts (fun _ h => List.mem_cons_of_mem _ (List.mem_append_right _ h)) hown hK hP 0 rfl rfl 4 (by decide) (hts _ q_X2_swapOften_0) (fun _ h9 => h9) rfl dX2_swapOften_1 ?_
  refine lv_iload_n (pc := 4) hx hb dX2_swapOften_4 rfl (lv_at hl 1 rfl) ?_
  refine lv_iconst (v := 4) (pc := 5) hx hb dX2_swapOften_5 (by decide) ?_
  refine lv_imul (pc := 6) hx hb dX2_swapOften_6 ?_
  refine lv_iload_n (pc := 7) hx hb dX2_swapOften_7 rfl (lv_at hl 2 rfl) ?_
  refine lv_iadd (pc := 8) hx hb dX2_swapOften_8 ?_
  obtain ⟨b9, hf⟩ := gdE hf
  refine va_iald (D := g.1) (tys := tyl g) (f := (S2.2.2 4)) (pc := 9) hx hb hK hP 5 0 rfl rfl (inbV b9) dX2_swapOften_9 ?_
  refine lv_istore (lv' := [(4, .int ((S2.2.2 4) (Int32.toNatClampNeg ((x1 * 4) + x2)))), (0, .ref (g.2.2.1 2)), (1, .int x1), (2, .int x2), (3, .int x3)]) (pc := 10) hx hb dX2_swapOften_10 hl (by decide) rfl (fun ls hl => ?_)
  refine lv_aload_n (pc := 12) hx hb dX2_swapOften_12 rfl (lv_at hl 1 rfl) ?_
  refine va_get (D := g.1) (ci := 2) (v := .ref (g.2.2.2 2 4)) (C := RX2) (T := TX2) (N := 10) (pc := 13) hx hb hts (fun _ h => List.mem_cons_of_mem _ (List.mem_append_right _ h)) hown hK hP 0 rfl rfl 4 (by decide) (hts _ q_X2_swapOften_0) (fun _ h9 => h9) rfl dX2_swapOften_13 ?_
  refine lv_iload_n (pc := 16) hx hb dX2_swapOften_16 rfl (lv_at hl 2 rfl) ?_
  refine lv_iconst (v := 4) (pc := 17) hx hb dX2_swapOften_17 (by decide) ?_
  refine lv_imul (pc := 18) hx hb dX2_swapOften_18 ?_
  refine lv_iload_n (pc := 19) hx hb dX2_swapOften_19 rfl (lv_at hl 3 rfl) ?_
  refine lv_iadd (pc := 20) hx hb dX2_swapOften_20 ?_
  refine lv_iload_n (pc := 21) hx hb dX2_swapOften_21 rfl (lv_at hl 4 rfl) ?_
  obtain ⟨b22, hf⟩ := gdE hf
  refine va_iast (D := g.1) (tys := tyl g) (f := (S2.2.2 4)) (pc := 22) hx hb hK hP hD hS 5 0 rfl rfl (inbV b22) dX2_swapOften_22 (fun H locs hP hD hS => ?_)
  have hP := u_2_2_4P S2 (upd (S2.2.2 4) (Int32.toNatClampNeg ((x1 * 4) + x2)) x3) hP
  have hD := u_2_2_4D S2 (upd (S2.2.2 4) (Int32.toNatClampNeg ((x1 * 4) + x2)) x3) hD
  refine lv_iload (pc := 23) hx hb dX2_swapOften_23 (lv_at hl 0 rfl) ?_
  have hf := Option.some.inj hf
  subst hf
  exact W.iret (v := ((S2.2.2 4) (Int32.toNatClampNeg ((x1 * 4) + x2)))) hx hb hr (fun t ht hW => ⟨⟨_, (), rfl, rfl, by rw [ht]; exact hP, va_K.moved hW.alike hK, hD⟩, hS.F ht⟩) hS.2.2 dX2_swapOften_25
theorem q_X2_isGroupDone_0 : (.fieldLink RX2 21 "PictureCourt$Odds" "groups" "[I" : Cond) ∈ wsX2_isGroupDone := by decide +kernel
theorem q_X2_isGroupDone_1 : (.fieldLink RX2 34 "PictureCourt$Odds" "groupsDone" "[Z" : Cond) ∈ wsX2_isGroupDone := by decide +kernel
theorem h_X2_isGroupDone : yX2_isGroupDone.cls = RX2 ∧ yX2_isGroupDone.cls ≠ "java/lang/invoke/MethodHandle" ∧ yX2_isGroupDone.cls ≠ "java/lang/invoke/VarHandle" ∧ (parseMethodDescriptor yX2_isGroupDone.desc).map (fun d => d.parameters.length) = some 1 := by decide +kernel
set_option maxHeartbeats 4000000 in
set_option maxRecDepth 100000 in
theorem c_X2_isGroupDone (l : Launch) (g : En) (N : Nat) (S2 : St) (x1 : Int32) (res : Int32) (hf : f_X2_isGroupDone N S2 x1 = some res) : Met l yX2_isGroupDone wsX2_isGroupDone { frames := 0, cells := 0, slots := 0, locals := 0 } (roP g (wd_2 g S2) [.ref (g.2.2.1 2), .int x1]) (vp_Si (fun r => r = res)) 0 0 (fun _ => False) := by
  refine Met.ofW (cc := cX2_isGroupDone) (maxL := 2) (ret := (some .boolean)) (by decide) rfl ?_
  intro p e s m args below meth c s₁ B hml hv
  obtain ⟨rfl, hP, hK⟩ := hv
  have hx := B.exec
  have hb := B.bytes
  have hr := B.returns
  have hts := atoms_spec (ws := wsX2_isGroupDone) B.pre
  have hown : s.vm.findClass RX2 = some m.cls := findClass_of_methodNamed B.named
  have hlk := B.notSynchronized
  have C : cxr g (wd_2 g S2) cX2_isGroupDone 2 (some .boolean) wsX2_isGroupDone RX2 p s m ([.ref (g.2.2.1 2), .int x1] : List Value).toArray meth c := ⟨⟨hx, hb, hr, hml, hown, hts, hlk⟩, hK, hP⟩
  have hl := lv_entry [.ref (g.2.2.1 2), .int x1] (n := 2) (Nat.le_of_ble_eq_true rfl)
  rw [lg_entry_eq]
  generalize (lg_sl [.ref (g.2.2.1 2), .int x1] ++ List.replicate (2 - (lg_sl [.ref (g.2.2.1 2), .int x1]).length) Slot.unset).toArray = ls at hl ⊢
  have hl : lv_has ls 2 [(0, .ref (g.2.2.1 2)), (1, .int x1)] := hl
  unfold f_X2_isGroupDone at hf
  refine lv_aload_n (pc := 0) hx hb dX2_isGroupDone_0 rfl (lv_at hl 0 rfl) ?_
  refine va_get (D := g.1) (ci := 2) (v := .ref (g.2.2.2 2 3)) (C := RX2) (T := TX2) (N := 10) (pc := 1) hx hb hts (fun _ h => List.mem_cons_of_mem _ (List.mem_append_right _ h)) hown hK hP 0 rfl rfl 3 (by decide) (hts _ q_X2_isGroupDone_0) (fun _ h9 => h9) rfl dX2_isGroupDone_1 ?_
  refine lv_iload_n (pc := 4) hx hb dX2_isGroupDone_4 rfl (lv_at hl 1 rfl) ?_
  obtain ⟨b5, hf⟩ := gdE hf
  refine va_iald (D := g.1) (tys := tyl g) (f := (S2.2.2 3)) (pc := 5) hx hb hK hP 4 0 rfl rfl (inbV b5) dX2_isGroupDone_5 ?_
  refine lv_bipush (v := (-9)) (pc := 6) hx hb dX2_isGroupDone_6 (by decide) ?_
  refine lv_icmp_eq (tgt := 29) (pc := 8) hx hb dX2_isGroupDone_8 (by decide) (fun c8 => ?_) (fun c8 => ?_)
  · have hf := ft hf c8
    refine lv_iconst (v := 0) (pc := 29) hx hb dX2_isGroupDone_29 (by decide) ?_
    have hf := Option.some.inj hf
    subst hf
    exact W.zret (v := 0) hx hb hr rfl (fun t ht hW => ⟨_, rfl, rfl, ht⟩) (fun _ h => by cases h) dX2_isGroupDone_30
  · have hf := ff hf c8
    refine lv_aload_n (pc := 11) hx hb dX2_isGroupDone_11 rfl (lv_at hl 0 rfl) ?_
    refine va_get (D := g.1) (ci := 2) (v := .ref (g.2.2.2 2 7)) (C := RX2) (T := TX2) (N := 10) (pc := 12) hx hb hts (fun _ h => List.mem_cons_of_mem _ (List.mem_append_right _ h)) hown hK hP 0 rfl rfl 7 (by decide) (hts _ q_X2_isGroupDone_1) (fun _ h9 => h9) rfl dX2_isGroupDone_12 ?_
    refine lv_aload_n (pc := 15) hx hb dX2_isGroupDone_15 rfl (lv_at hl 0 rfl) ?_
    refine va_get (D := g.1) (ci := 2) (v := .ref (g.2.2.2 2 3)) (C := RX2) (T := TX2) (N := 10) (pc := 16) hx hb hts (fun _ h => List.mem_cons_of_mem _ (List.mem_append_right _ h)) hown hK hP 0 rfl rfl 3 (by decide) (hts _ q_X2_isGroupDone_0) (fun _ h9 => h9) rfl dX2_isGroupDone_16 ?_
    refine lv_iload_n (pc := 19) hx hb dX2_isGroupDone_19 rfl (lv_at hl 1 rfl) ?_
    obtain ⟨b20, hf⟩ := gdE hf
    refine va_iald (D := g.1) (tys := tyl g) (f := (S2.2.2 3)) (pc := 20) hx hb hK hP 4 0 rfl rfl (inbV b20) dX2_isGroupDone_20 ?_
    obtain ⟨b21, hf⟩ := gdE hf
    refine va_zald (D := g.1) (tys := tyl g) (f := (S2.2.2 7)) (pc := 21) hx hb hK hP 8 2 rfl rfl (inbV b21) dX2_isGroupDone_21 ?_
    refine lv_if_eq (tgt := 29) (pc := 22) hx hb dX2_isGroupDone_22 (by decide) (fun c22 => ?_) (fun c22 => ?_)
    · have hf := ft hf c22
      refine lv_iconst (v := 0) (pc := 29) hx hb dX2_isGroupDone_29 (by decide) ?_
      have hf := Option.some.inj hf
      subst hf
      exact W.zret (v := 0) hx hb hr rfl (fun t ht hW => ⟨_, rfl, rfl, ht⟩) (fun _ h => by cases h) dX2_isGroupDone_30
    · have hf := ff hf c22
      refine lv_iconst (v := 1) (pc := 25) hx hb dX2_isGroupDone_25 (by decide) ?_
      refine lv_goto (tgt := 30) (pc := 26) hx hb dX2_isGroupDone_26 (by decide) ?_
      have hf := Option.some.inj hf
      subst hf
      exact W.zret (v := 1) hx hb hr rfl (fun t ht hW => ⟨_, rfl, rfl, ht⟩) (fun _ h => by cases h) dX2_isGroupDone_30
theorem q_X2_finish_0 : (.fieldLink RX2 41 "PictureCourt$Odds" "finished" "I" : Cond) ∈ wsX2_finish := by decide +kernel
theorem q_X2_finish_1 : (.fieldLink RX2 30 "PictureCourt$Odds" "counts" "[Z" : Cond) ∈ wsX2_finish := by decide +kernel
theorem q_X2_finish_2 : (.fieldLink RX2 21 "PictureCourt$Odds" "groups" "[I" : Cond) ∈ wsX2_finish := by decide +kernel
theorem q_X2_finish_3 : (.fieldLink RX2 34 "PictureCourt$Odds" "groupsDone" "[Z" : Cond) ∈ wsX2_finish := by decide +kernel
theorem q_X2_finish_4 : (.fieldLink RX2 27 "PictureCourt$Odds" "results" "[I" : Cond) ∈ wsX2_finish := by decide +kernel
theorem h_X2_finish : yX2_finish.cls = RX2 ∧ yX2_finish.cls ≠ "java/lang/invoke/MethodHandle" ∧ yX2_finish.cls ≠ "java/lang/invoke/VarHandle" ∧ (parseMethodDescriptor yX2_finish.desc).map (fun d => d.parameters.length) = some 2 := by decide +kernel
set_option maxHeartbeats 4000000 in
set_option maxRecDepth 100000 in
theorem w_X2_finish_57 {p : Program} {l : Launch} {e : Env} {s : State} {m : MethodId} {args : Array Value} {below : List Frame} {meth : Method} {c : Code} {g : En} {A : Nat → Prop} {N : Nat} {res : Int32 × St} (C : cxw g A cX2_finish 3 (some .boolean) wsX2_finish RX2 p s m args meth c) : ∀ (H : Heap) (locs : List Loc) (S2 : St) (ls : Array Slot) (x1 : Int32), va_P g.1 vwCl (wd_2 g S2) H → va_D A (wd_2 g S2) → va_S A s.heap H locs → lv_has ls 3 [(0, .ref (g.2.2.1 2)), (1, .int x1)] → f_X2_finish_57 N   S2 x1 = some res → W p l e (headSpec wsX2_finish { frames := 1, cells := 0, slots := 0, locals := 21 }).room s m args below meth c H locs 0 0 (MQ below (rwQi g (wd_2 g (res.2)) A (res.1)) args s 0 0 A) (F0 m 57 ls []) := by
  intro H locs S2 ls x1 hP hD hS hl hf
  obtain ⟨⟨hx, hb, hr, hml, hown, hts, hlk⟩, hK, hA⟩ := id C
  unfold f_X2_finish_57 at hf
  refine lv_aload_n (pc := 57) hx hb dX2_finish_57 rfl (lv_at hl 0 rfl) ?_
  refine lv_dup (pc := 58) hx hb dX2_finish_58 rfl ?_
  refine va_get (D := g.1) (ci := 2) (v := .int (S2.1 9)) (C := RX2) (T := TX2) (N := 10) (pc := 59) hx hb hts (fun _ h => List.mem_cons_of_mem _ (List.mem_append_right _ h)) hown hK hP 0 rfl rfl 9 (by decide) (hts _ q_X2_finish_0) (fun _ h9 => h9) rfl dX2_finish_59 ?_
  refine lv_iconst (v := 1) (pc := 62) hx hb dX2_finish_62 (by decide) ?_
  refine lv_iadd (pc := 63) hx hb dX2_finish_63 ?_
  refine va_put (D := g.1) (ci := 2) (v := .int ((S2.1 9) + 1)) (ty := .int) (C := RX2) (T := TX2) (N := 10) (pc := 64) hx hb hts (fun _ h => List.mem_cons_of_mem _ (List.mem_append_right _ h)) tyX2 tyX2_ok nmX2 hown hK hP hD hS 0 rfl rfl 9 (by decide) (hts _ q_X2_finish_0) (fun _ h9 => h9) rfl rfl rfl rfl (Nat.le_of_ble_eq_true rfl) dX2_finish_64 (fun H locs hP hD hS => ?_)
  have hP := u_2_2_9P S2 ((S2.1 9) + 1) hP
  have hD := u_2_2_9D S2 ((S2.1 9) + 1) hD
  refine lv_aload_n (pc := 67) hx hb dX2_finish_67 rfl (lv_at hl 0 rfl) ?_
  refine va_get (D := g.1) (ci := 2) (v := .ref (g.2.2.2 2 6)) (C := RX2) (T := TX2) (N := 10) (pc := 68) hx hb hts (fun _ h => List.mem_cons_of_mem _ (List.mem_append_right _ h)) hown hK hP 0 rfl rfl 6 (by decide) (hts _ q_X2_finish_1) (fun _ h9 => h9) rfl dX2_finish_68 ?_
  refine lv_iload_n (pc := 71) hx hb dX2_finish_71 rfl (lv_at hl 1 rfl) ?_
  obtain ⟨b72, hf⟩ := gdE hf
  refine va_zald (D := g.1) (tys := tyl g) (f := (S2.2.2 6)) (pc := 72) hx hb hK hP 7 2 rfl rfl (inbV b72) dX2_finish_72 ?_
  obtain ⟨b73, hf⟩ := gdE hf
  have hf := Option.some.inj hf
  subst hf
  exact W.zret (v := ((S2.2.2 6) (Int32.toNatClampNeg x1))) hx hb hr (z01V b73) (fun t ht hW => ⟨⟨_, (), rfl, rfl, by rw [ht]; exact hP, va_K.moved hW.alike hK, hD⟩, hS.F ht⟩) hS.2.2 dX2_finish_73
set_option maxHeartbeats 4000000 in
set_option maxRecDepth 100000 in
theorem w_X2_finish_33 {p : Program} {l : Launch} {e : Env} {s : State} {m : MethodId} {args : Array Value} {below : List Frame} {meth : Method} {c : Code} {g : En} {A : Nat → Prop} {N : Nat} {res : Int32 × St} (C : cxw g A cX2_finish 3 (some .boolean) wsX2_finish RX2 p s m args meth c) : ∀ (H : Heap) (locs : List Loc) (S2 : St) (ls : Array Slot) (x1 : Int32) (t0 : Int32) (t1 : Int32), va_P g.1 vwCl (wd_2 g S2) H → va_D A (wd_2 g S2) → va_S A s.heap H locs → lv_has ls 3 [(0, .ref (g.2.2.1 2)), (1, .int x1)] → f_X2_finish_33 N   S2 x1 t0 t1 = some res → W p l e (headSpec wsX2_finish { frames := 1, cells := 0, slots := 0, locals := 21 }).room s m args below meth c H locs 0 0 (MQ below (rwQi g (wd_2 g (res.2)) A (res.1)) args s 0 0 A) (F0 m 33 ls [.int t0, .int t1, .ref (g.2.2.2 2 5)]) := by
  intro H locs S2 ls x1 t0 t1 hP hD hS hl hf
  obtain ⟨⟨hx, hb, hr, hml, hown, hts, hlk⟩, hK, hA⟩ := id C
  unfold f_X2_finish_33 at hf
  obtain ⟨b33, hf⟩ := gdE hf
  refine va_iast (D := g.1) (tys := tyl g) (f := (S2.2.2 5)) (pc := 33) hx hb hK hP hD hS 6 0 rfl rfl (inbV b33) dX2_finish_33 (fun H locs hP hD hS => ?_)
  have hP := u_2_2_5P S2 (upd (S2.2.2 5) (Int32.toNatClampNeg t1) t0) hP
  have hD := u_2_2_5D S2 (upd (S2.2.2 5) (Int32.toNatClampNeg t1) t0) hD
  refine lv_aload_n (pc := 34) hx hb dX2_finish_34 rfl (lv_at hl 0 rfl) ?_
  refine va_get (D := g.1) (ci := 2) (v := .ref (g.2.2.2 2 3)) (C := RX2) (T := TX2) (N := 10) (pc := 35) hx hb hts (fun _ h => List.mem_cons_of_mem _ (List.mem_append_right _ h)) hown hK hP 0 rfl rfl 3 (by decide) (hts _ q_X2_finish_2) (fun _ h9 => h9) rfl dX2_finish_35 ?_
  refine lv_iload_n (pc := 38) hx hb dX2_finish_38 rfl (lv_at hl 1 rfl) ?_
  obtain ⟨b39, hf⟩ := gdE hf
  refine va_iald (D := g.1) (tys := tyl g) (f := (S2.2.2 3)) (pc := 39) hx hb hK hP 4 0 rfl rfl (inbV b39) dX2_finish_39 ?_
  refine lv_bipush (v := (-9)) (pc := 40) hx hb dX2_finish_40 (by decide) ?_
  refine lv_icmp_eq (tgt := 57) (pc := 42) hx hb dX2_finish_42 (by decide) (fun c42 => ?_) (fun c42 => ?_)
  · have hf := ft hf c42
    exact w_X2_finish_57 C  H locs (sA S2 5 (upd (S2.2.2 5) (Int32.toNatClampNeg t1) t0)) ls x1 hP hD hS (lv_sub hl [0, 1] rfl) hf
  · have hf := ff hf c42
    refine lv_aload_n (pc := 45) hx hb dX2_finish_45 rfl (lv_at hl 0 rfl) ?_
    refine va_get (D := g.1) (ci := 2) (v := .ref (g.2.2.2 2 7)) (C := RX2) (T := TX2) (N := 10) (pc := 46) hx hb hts (fun _ h => List.mem_cons_of_mem _ (List.mem_append_right _ h)) hown hK hP 0 rfl rfl 7 (by decide) (hts _ q_X2_finish_3) (fun _ h9 => h9) rfl dX2_finish_46 ?_
    refine lv_aload_n (pc := 49) hx hb dX2_finish_49 rfl (lv_at hl 0 rfl) ?_
    refine va_get (D := g.1) (ci := 2) (v := .ref (g.2.2.2 2 3)) (C := RX2) (T := TX2) (N := 10) (pc := 50) hx hb hts (fun _ h => List.mem_cons_of_mem _ (List.mem_append_right _ h)) hown hK hP 0 rfl rfl 3 (by decide) (hts _ q_X2_finish_2) (fun _ h9 => h9) rfl dX2_finish_50 ?_
    refine lv_iload_n (pc := 53) hx hb dX2_finish_53 rfl (lv_at hl 1 rfl) ?_
    obtain ⟨b54, hf⟩ := gdE hf
    refine va_iald (D := g.1) (tys := tyl g) (f := (S2.2.2 3)) (pc := 54) hx hb hK hP 4 0 rfl rfl (inbV b54) dX2_finish_54 ?_
    refine lv_iconst (v := 1) (pc := 55) hx hb dX2_finish_55 (by decide) ?_
    refine lv_topi (fun v56 ev56 => ?_)
    obtain ⟨b56, hf⟩ := gdE hf
    refine va_zast (D := g.1) (tys := tyl g) (f := (S2.2.2 7)) (pc := 56) hx hb hK hP hD hS 8 2 rfl rfl (inbV b56) dX2_finish_56 (fun H locs hP hD hS => ?_)
    have hP := u_2_2_7P (sA S2 5 (upd (S2.2.2 5) (Int32.toNatClampNeg t1) t0)) (upd (S2.2.2 7) (Int32.toNatClampNeg ((S2.2.2 3) (Int32.toNatClampNeg x1))) (vp_nar .boolean v56)) hP
    have hD := u_2_2_7D (sA S2 5 (upd (S2.2.2 5) (Int32.toNatClampNeg t1) t0)) (upd (S2.2.2 7) (Int32.toNatClampNeg ((S2.2.2 3) (Int32.toNatClampNeg x1))) (vp_nar .boolean v56)) hD
    subst ev56
    exact w_X2_finish_57 C  H locs (sA (sA S2 5 (upd (S2.2.2 5) (Int32.toNatClampNeg t1) t0)) 7 (upd (S2.2.2 7) (Int32.toNatClampNeg ((S2.2.2 3) (Int32.toNatClampNeg x1))) (vp_nar .boolean 1))) ls x1 hP hD hS (lv_sub hl [0, 1] rfl) hf
set_option maxHeartbeats 4000000 in
set_option maxRecDepth 100000 in
theorem w_X2_finish_18 {p : Program} {l : Launch} {e : Env} {s : State} {m : MethodId} {args : Array Value} {below : List Frame} {meth : Method} {c : Code} {g : En} {A : Nat → Prop} {N : Nat} {res : Int32 × St} (C : cxw g A cX2_finish 3 (some .boolean) wsX2_finish RX2 p s m args meth c) : ∀ (H : Heap) (locs : List Loc) (S2 : St) (ls : Array Slot) (x1 : Int32) (x2 : Int32) (t0 : Int32) (t1 : Int32), va_P g.1 vwCl (wd_2 g S2) H → va_D A (wd_2 g S2) → va_S A s.heap H locs → lv_has ls 3 [(0, .ref (g.2.2.1 2)), (1, .int x1), (2, .int x2)] → f_X2_finish_18 N   S2 x1 x2 t0 t1 = some res → W p l e (headSpec wsX2_finish { frames := 1, cells := 0, slots := 0, locals := 21 }).room s m args below meth c H locs 0 0 (MQ below (rwQi g (wd_2 g (res.2)) A (res.1)) args s 0 0 A) (F0 m 18 ls [.int t0, .int t1, .ref (g.2.2.2 2 6)]) := by
  intro H locs S2 ls x1 x2 t0 t1 hP hD hS hl hf
  obtain ⟨⟨hx, hb, hr, hml, hown, hts, hlk⟩, hK, hA⟩ := id C
  unfold f_X2_finish_18 at hf
  obtain ⟨b18, hf⟩ := gdE hf
  refine va_zast (D := g.1) (tys := tyl g) (f := (S2.2.2 6)) (pc := 18) hx hb hK hP hD hS 7 2 rfl rfl (inbV b18) dX2_finish_18 (fun H locs hP hD hS => ?_)
  have hP := u_2_2_6P S2 (upd (S2.2.2 6) (Int32.toNatClampNeg t1) (vp_nar .boolean t0)) hP
  have hD := u_2_2_6D S2 (upd (S2.2.2 6) (Int32.toNatClampNeg t1) (vp_nar .boolean t0)) hD
  refine lv_aload_n (pc := 19) hx hb dX2_finish_19 rfl (lv_at hl 0 rfl) ?_
  refine va_get (D := g.1) (ci := 2) (v := .ref (g.2.2.2 2 5)) (C := RX2) (T := TX2) (N := 10) (pc := 20) hx hb hts (fun _ h => List.mem_cons_of_mem _ (List.mem_append_right _ h)) hown hK hP 0 rfl rfl 5 (by decide) (hts _ q_X2_finish_4) (fun _ h9 => h9) rfl dX2_finish_20 ?_
  refine lv_iload_n (pc := 23) hx hb dX2_finish_23 rfl (lv_at hl 1 rfl) ?_
  refine lv_iload_n (pc := 24) hx hb dX2_finish_24 rfl (lv_at hl 2 rfl) ?_
  refine lv_if_eq (tgt := 32) (pc := 25) hx hb dX2_finish_25 (by decide) (fun c25 => ?_) (fun c25 => ?_)
  · have hf := ft hf c25
    refine lv_iconst (v := 0) (pc := 32) hx hb dX2_finish_32 (by decide) ?_
    exact w_X2_finish_33 C  H locs (sA S2 6 (upd (S2.2.2 6) (Int32.toNatClampNeg t1) (vp_nar .boolean t0))) ls x1 0 x1 hP hD hS (lv_sub hl [0, 1] rfl) hf
  · have hf := ff hf c25
    refine lv_iconst (v := 1) (pc := 28) hx hb dX2_finish_28 (by decide) ?_
    refine lv_goto (tgt := 33) (pc := 29) hx hb dX2_finish_29 (by decide) ?_
    exact w_X2_finish_33 C  H locs (sA S2 6 (upd (S2.2.2 6) (Int32.toNatClampNeg t1) (vp_nar .boolean t0))) ls x1 1 x1 hP hD hS (lv_sub hl [0, 1] rfl) hf
set_option maxHeartbeats 4000000 in
set_option maxRecDepth 100000 in
theorem c_X2_finish (l : Launch) (g : En) (N : Nat) (sz : Nat) (S2 : St) (x1 : Int32) (x2 : Int32) (res : Int32 × St) (hf : f_X2_finish N S2 x1 x2 = some res) : Met l yX2_finish wsX2_finish { frames := 1, cells := 0, slots := 0, locals := 21 } (rwP g (wd_2 g S2) sz [.ref (g.2.2.1 2), .int x1, .int x2]) (rwQi g (wd_2 g (res.2)) (va_A (wd_2 g S2) sz) (res.1)) 0 0 (va_A (wd_2 g S2) sz) := by
  refine Met.ofW (cc := cX2_finish) (maxL := 3) (ret := (some .boolean)) (by decide) rfl ?_
  intro p e s m args below meth c s₁ B hml hv
  obtain ⟨rfl, hsz, hP, hK, hD0⟩ := hv
  have hx := B.exec
  have hb := B.bytes
  have hr := B.returns
  have hts := atoms_spec (ws := wsX2_finish) B.pre
  have hown : s.vm.findClass RX2 = some m.cls := findClass_of_methodNamed B.named
  have hlk := B.notSynchronized
  subst hsz
  have hD := hD0.self (sz := s.heap.size)
  generalize hAe : va_A (wd_2 g S2) s.heap.size = A at hD ⊢
  have hA : ∀ q : Nat, s.heap.size ≤ q → A q := fun q h => by rw [← hAe]; exact Or.inr h
  have hS : va_S A s.heap s.heap [] := va_S.rf
  have C : cxw g A cX2_finish 3 (some .boolean) wsX2_finish RX2 p s m ([.ref (g.2.2.1 2), .int x1, .int x2] : List Value).toArray meth c := ⟨⟨hx, hb, hr, hml, hown, hts, hlk⟩, hK, hA⟩
  have hl := lv_entry [.ref (g.2.2.1 2), .int x1, .int x2] (n := 3) (Nat.le_of_ble_eq_true rfl)
  rw [lg_entry_eq]
  generalize (lg_sl [.ref (g.2.2.1 2), .int x1, .int x2] ++ List.replicate (3 - (lg_sl [.ref (g.2.2.1 2), .int x1, .int x2]).length) Slot.unset).toArray = ls at hl ⊢
  have hl : lv_has ls 3 [(0, .ref (g.2.2.1 2)), (1, .int x1), (2, .int x2)] := hl
  unfold f_X2_finish at hf
  suffices K9 : ∀ (H : Heap) (locs : List Loc), va_P g.1 vwCl (wd_2 g S2) H → va_D A (wd_2 g S2) → va_S A s.heap H locs → ((f_X2_isGroupDone N S2 x1).bind (fun r7 => (if r7 = 0 then (f_X2_finish_18 N   S2 x1 x2 1 x1) else (f_X2_finish_18 N   S2 x1 x2 0 x1)))) = some res → W p l e (headSpec wsX2_finish { frames := 1, cells := 0, slots := 0, locals := 21 }).room s m ([.ref (g.2.2.1 2), .int x1, .int x2] : List Value).toArray below meth c H locs 0 0 (MQ below (rwQi g (wd_2 g (res.2)) A (res.1)) ([.ref (g.2.2.1 2), .int x1, .int x2] : List Value).toArray s 0 0 A) (F0 m 0 ls []) from K9 s.heap [] hP hD hS hf
  clear hP hD hS hf
  intro H locs hP hD hS hf
  refine lv_aload_n (pc := 0) hx hb dX2_finish_0 rfl (lv_at hl 0 rfl) ?_
  refine va_get (D := g.1) (ci := 2) (v := .ref (g.2.2.2 2 6)) (C := RX2) (T := TX2) (N := 10) (pc := 1) hx hb hts (fun _ h => List.mem_cons_of_mem _ (List.mem_append_right _ h)) hown hK hP 0 rfl rfl 6 (by decide) (hts _ q_X2_finish_1) (fun _ h9 => h9) rfl dX2_finish_1 ?_
  refine lv_iload_n (pc := 4) hx hb dX2_finish_4 rfl (lv_at hl 1 rfl) ?_
  refine lv_aload_n (pc := 5) hx hb dX2_finish_5 rfl (lv_at hl 0 rfl) ?_
  refine lv_iload_n (pc := 6) hx hb dX2_finish_6 rfl (lv_at hl 1 rfl) ?_
  obtain ⟨r7, e7, hf⟩ := bdE hf
  refine krI (g := g) (wc := (wd_2 g S2)) (pc := 7) (As := [.int x1]) (rest := [.int x1, .ref (g.2.2.2 2 6)]) ⟨hx, hb, hml, hown, hts⟩ (c_X2_isGroupDone l g N S2 x1 r7 e7) (cwV 1 hts gX2_finish_X2_isGroupDone rfl rfl rfl h_X2_isGroupDone ⟨Nat.le_of_ble_eq_true rfl, Nat.le_of_ble_eq_true rfl⟩) hK hP rfl rfl rfl hl.1 rfl (Nat.le_of_ble_eq_true rfl) dX2_finish_7 ⟨Nat.zero_le _, Nat.zero_le _⟩ ?_
  refine lv_if_ne (tgt := 17) (pc := 10) hx hb dX2_finish_10 (by decide) (fun c10 => ?_) (fun c10 => ?_)
  · have hf := ff hf c10
    refine lv_iconst (v := 0) (pc := 17) hx hb dX2_finish_17 (by decide) ?_
    exact w_X2_finish_18 C  H locs S2 ls x1 x2 0 x1 hP hD hS (lv_sub hl [0, 1, 2] rfl) hf
  · have hf := ft hf c10
    refine lv_iconst (v := 1) (pc := 13) hx hb dX2_finish_13 (by decide) ?_
    refine lv_goto (tgt := 18) (pc := 14) hx hb dX2_finish_14 (by decide) ?_
    exact w_X2_finish_18 C  H locs S2 ls x1 x2 1 x1 hP hD hS (lv_sub hl [0, 1, 2] rfl) hf
theorem q_X2_score_0 : (.fieldLink RX2 37 "PictureCourt$Odds" "size" "I" : Cond) ∈ wsX2_score := by decide +kernel
theorem q_X2_score_1 : (.fieldLink RX2 30 "PictureCourt$Odds" "counts" "[Z" : Cond) ∈ wsX2_score := by decide +kernel
theorem q_X2_score_2 : (.fieldLink RX2 24 "PictureCourt$Odds" "oftens" "[I" : Cond) ∈ wsX2_score := by decide +kernel
theorem q_X2_score_3 : (.fieldLink RX2 27 "PictureCourt$Odds" "results" "[I" : Cond) ∈ wsX2_score := by decide +kernel
theorem q_X2_score_4 : (.fieldLink RX2 9 "PictureCourt$Odds" "handWeights" "[I" : Cond) ∈ wsX2_score := by decide +kernel
theorem h_X2_score : yX2_score.cls = RX2 ∧ yX2_score.cls ≠ "java/lang/invoke/MethodHandle" ∧ yX2_score.cls ≠ "java/lang/invoke/VarHandle" ∧ (parseMethodDescriptor yX2_score.desc).map (fun d => d.parameters.length) = some 1 := by decide +kernel
set_option maxHeartbeats 4000000 in
set_option maxRecDepth 100000 in
theorem w_X2_score_69 {p : Program} {l : Launch} {e : Env} {s : State} {m : MethodId} {args : Array Value} {below : List Frame} {meth : Method} {c : Code} {g : En} {N : Nat} {S2 : St} {res : Int64} (C : cxr g (wd_2 g S2) cX2_score 6 (some .long) wsX2_score RX2 p s m args meth c) (k11 : Int32 → Int64 → Int32 → Option (Int64)) (H11 : ∀ (ls : Array Slot) (x1 : Int32) (x2 : Int64) (x4 : Int32), lv_has ls 6 [(0, .ref (g.2.2.1 2)), (1, .int x1), (2, .long x2), (4, .int x4)] → k11 x1 x2 x4 = some res → W p l e (headSpec wsX2_score { frames := 0, cells := 0, slots := 0, locals := 0 }).room s m args below meth c s.heap [] 0 0 (MQ below (vp_Sl (fun r => r = res)) args s 0 0 (fun _ => False)) (F0 m 11 ls [])) : ∀ (ls : Array Slot) (x1 : Int32) (x2 : Int64) (x4 : Int32), lv_has ls 6 [(0, .ref (g.2.2.1 2)), (1, .int x1), (2, .long x2), (4, .int x4)] → f_X2_score_69 N S2 k11 x1 x2 x4 = some res → W p l e (headSpec wsX2_score { frames := 0, cells := 0, slots := 0, locals := 0 }).room s m args below meth c s.heap [] 0 0 (MQ below (vp_Sl (fun r => r = res)) args s 0 0 (fun _ => False)) (F0 m 69 ls []) := by
  intro ls x1 x2 x4 hl hf
  obtain ⟨⟨hx, hb, hr, hml, hown, hts, hlk⟩, hK, hP⟩ := id C
  unfold f_X2_score_69 at hf
  refine lv_iinc (v := (x4 + 1)) (lv' := [(4, .int (x4 + 1)), (0, .ref (g.2.2.1 2)), (1, .int x1), (2, .long x2)]) (pc := 69) hx hb dX2_score_69 hl (k := 3) rfl rfl (by decide) rfl (fun ls hl => ?_)
  refine lv_goto (tgt := 11) (pc := 72) hx hb dX2_score_72 (by decide) ?_
  exact H11 ls x1 x2 (x4 + 1) (lv_sub hl [1, 2, 3, 0] rfl) hf
set_option maxHeartbeats 4000000 in
set_option maxRecDepth 100000 in
theorem w_X2_score_67 {p : Program} {l : Launch} {e : Env} {s : State} {m : MethodId} {args : Array Value} {below : List Frame} {meth : Method} {c : Code} {g : En} {N : Nat} {S2 : St} {res : Int64} (C : cxr g (wd_2 g S2) cX2_score 6 (some .long) wsX2_score RX2 p s m args meth c) (k11 : Int32 → Int64 → Int32 → Option (Int64)) (H11 : ∀ (ls : Array Slot) (x1 : Int32) (x2 : Int64) (x4 : Int32), lv_has ls 6 [(0, .ref (g.2.2.1 2)), (1, .int x1), (2, .long x2), (4, .int x4)] → k11 x1 x2 x4 = some res → W p l e (headSpec wsX2_score { frames := 0, cells := 0, slots := 0, locals := 0 }).room s m args below meth c s.heap [] 0 0 (MQ below (vp_Sl (fun r => r = res)) args s 0 0 (fun _ => False)) (F0 m 11 ls [])) : ∀ (ls : Array Slot) (x1 : Int32) (x4 : Int32) (t0 : Int64) (t1 : Int64), lv_has ls 6 [(0, .ref (g.2.2.1 2)), (1, .int x1), (4, .int x4)] → f_X2_score_67 N S2 k11 x1 x4 t0 t1 = some res → W p l e (headSpec wsX2_score { frames := 0, cells := 0, slots := 0, locals := 0 }).room s m args below meth c s.heap [] 0 0 (MQ below (vp_Sl (fun r => r = res)) args s 0 0 (fun _ => False)) (F0 m 67 ls [.long t0, .long t1]) := by
  intro ls x1 x4 t0 t1 hl hf
  obtain ⟨⟨hx, hb, hr, hml, hown, hts, hlk⟩, hK, hP⟩ := id C
  unfold f_X2_score_67 at hf
  refine lv_lmul (pc := 67) hx hb dX2_score_67 ?_
  refine lv_lstore_n (lv' := [(2, .long (t1 * t0)), (0, .ref (g.2.2.1 2)), (1, .int x1), (4, .int x4)]) (pc := 68) hx hb dX2_score_68 rfl hl (by decide) rfl (fun ls hl => ?_)
  exact w_X2_score_69 C k11 H11 ls x1 (t1 * t0) x4 (lv_sub hl [1, 2, 0, 3] rfl) hf
set_option maxHeartbeats 4000000 in
set_option maxRecDepth 100000 in
theorem w_X2_score_11_b {p : Program} {l : Launch} {e : Env} {s : State} {m : MethodId} {args : Array Value} {below : List Frame} {meth : Method} {c : Code} {g : En} {N : Nat} {S2 : St} {res : Int64} (C : cxr g (wd_2 g S2) cX2_score 6 (some .long) wsX2_score RX2 p s m args meth c) (k11 : Int32 → Int64 → Int32 → Option (Int64)) (H11 : ∀ (ls : Array Slot) (x1 : Int32) (x2 : Int64) (x4 : Int32), lv_has ls 6 [(0, .ref (g.2.2.1 2)), (1, .int x1), (2, .long x2), (4, .int x4)] → k11 x1 x2 x4 = some res → W p l e (headSpec wsX2_score { frames := 0, cells := 0, slots := 0, locals := 0 }).room s m args below meth c s.heap [] 0 0 (MQ below (vp_Sl (fun r => r = res)) args s 0 0 (fun _ => False)) (F0 m 11 ls [])) : ∀ (ls : Array Slot) (x1 : Int32) (x2 : Int64) (x4 : Int32), lv_has ls 6 [(0, .ref (g.2.2.1 2)), (1, .int x1), (2, .long x2), (4, .int x4)] → f_X2_score_11_b N S2  k11 x1 x2 x4 = some res → W p l e (headSpec wsX2_score { frames := 0, cells := 0, slots := 0, locals := 0 }).room s m args below meth c s.heap [] 0 0 (MQ below (vp_Sl (fun r => r = res)) args s 0 0 (fun _ => False)) (F0 m 11 ls []) := by
  intro ls x1 x2 x4 hl hf
  obtain ⟨⟨hx, hb, hr, hml, hown, hts, hlk⟩, hK, hP⟩ := id C
  unfold f_X2_score_11_b at hf
  refine lv_iload (pc := 11) hx hb dX2_score_11 (lv_at hl 3 rfl) ?_
  refine lv_aload_n (pc := 13) hx hb dX2_score_13 rfl (lv_at hl 0 rfl) ?_
  refine va_get (D := g.1) (ci := 2) (v := .int (S2.1 8)) (C := RX2) (T := TX2) (N := 10) (pc := 14) hx hb hts (fun _ h => List.mem_cons_of_mem _ (List.mem_append_right _ h)) hown hK hP 0 rfl rfl 8 (by decide) (hts _ q_X2_score_0) (fun _ h9 => h9) rfl dX2_score_14 ?_
  refine lv_icmp_ge (tgt := 75) (pc := 17) hx hb dX2_score_17 (by decide) (fun c17 => ?_) (fun c17 => ?_)
  · have hf := ft hf c17
    refine lv_lload_n (pc := 75) hx hb dX2_score_75 rfl (lv_at hl 2 rfl) ?_
    have hf := Option.some.inj hf
    subst hf
    exact W.lret (v := x2) hx hb hr (fun t ht hW => ⟨_, rfl, rfl, ht⟩) (fun _ h => by cases h) dX2_score_76
  · have hf := ff hf c17
    refine lv_aload_n (pc := 20) hx hb dX2_score_20 rfl (lv_at hl 0 rfl) ?_
    refine va_get (D := g.1) (ci := 2) (v := .ref (g.2.2.2 2 6)) (C := RX2) (T := TX2) (N := 10) (pc := 21) hx hb hts (fun _ h => List.mem_cons_of_mem _ (List.mem_append_right _ h)) hown hK hP 0 rfl rfl 6 (by decide) (hts _ q_X2_score_1) (fun _ h9 => h9) rfl dX2_score_21 ?_
    refine lv_iload (pc := 24) hx hb dX2_score_24 (lv_at hl 3 rfl) ?_
    obtain ⟨b26, hf⟩ := gdE hf
    refine va_zald (D := g.1) (tys := tyl g) (f := (S2.2.2 6)) (pc := 26) hx hb hK hP 7 2 rfl rfl (inbV b26) dX2_score_26 ?_
    refine lv_if_eq (tgt := 69) (pc := 27) hx hb dX2_score_27 (by decide) (fun c27 => ?_) (fun c27 => ?_)
    · have hf := ft hf c27
      exact w_X2_score_69 C k11 H11 ls x1 x2 x4 (lv_sub hl [0, 1, 2, 3] rfl) hf
    · have hf := ff hf c27
      refine lv_aload_n (pc := 30) hx hb dX2_score_30 rfl (lv_at hl 0 rfl) ?_
      refine va_get (D := g.1) (ci := 2) (v := .ref (g.2.2.2 2 4)) (C := RX2) (T := TX2) (N := 10) (pc := 31) hx hb hts (fun _ h => List.mem_cons_of_mem _ (List.mem_append_right _ h)) hown hK hP 0 rfl rfl 4 (by decide) (hts _ q_X2_score_2) (fun _ h9 => h9) rfl dX2_score_31 ?_
      refine lv_iload (pc := 34) hx hb dX2_score_34 (lv_at hl 3 rfl) ?_
      refine lv_iconst (v := 4) (pc := 36) hx hb dX2_score_36 (by decide) ?_
      refine lv_imul (pc := 37) hx hb dX2_score_37 ?_
      refine lv_iload_n (pc := 38) hx hb dX2_score_38 rfl (lv_at hl 1 rfl) ?_
      refine lv_iadd (pc := 39) hx hb dX2_score_39 ?_
      obtain ⟨b40, hf⟩ := gdE hf
      refine va_iald (D := g.1) (tys := tyl g) (f := (S2.2.2 4)) (pc := 40) hx hb hK hP 5 0 rfl rfl (inbV b40) dX2_score_40 ?_
      refine lv_istore (lv' := [(5, .int ((S2.2.2 4) (Int32.toNatClampNeg ((x4 * 4) + x1)))), (0, .ref (g.2.2.1 2)), (1, .int x1), (2, .long x2), (4, .int x4)]) (pc := 41) hx hb dX2_score_41 hl (by decide) rfl (fun ls hl => ?_)
      refine lv_lload_n (pc := 43) hx hb dX2_score_43 rfl (lv_at hl 3 rfl) ?_
      refine lv_aload_n (pc := 44) hx hb dX2_score_44 rfl (lv_at hl 1 rfl) ?_
      refine va_get (D := g.1) (ci := 2) (v := .ref (g.2.2.2 2 5)) (C := RX2) (T := TX2) (N := 10) (pc := 45) hx hb hts (fun _ h => List.mem_cons_of_mem _ (List.mem_append_right _ h)) hown hK hP 0 rfl rfl 5 (by decide) (hts _ q_X2_score_3) (fun _ h9 => h9) rfl dX2_score_45 ?_
      refine lv_iload (pc := 48) hx hb dX2_score_48 (lv_at hl 4 rfl) ?_
      obtain ⟨b50, hf⟩ := gdE hf
      refine va_iald (D := g.1) (tys := tyl g) (f := (S2.2.2 5)) (pc := 50) hx hb hK hP 6 0 rfl rfl (inbV b50) dX2_score_50 ?_
      refine lv_iconst (v := 1) (pc := 51) hx hb dX2_score_51 (by decide) ?_
      refine lv_icmp_ne (tgt := 61) (pc := 52) hx hb dX2_score_52 (by decide) (fun c52 => ?_) (fun c52 => ?_)
      · have hf := ff hf c52
        refine lv_bipush (v := 16) (pc := 61) hx hb dX2_score_61 (by decide) ?_
        refine lv_iload (pc := 63) hx hb dX2_score_63 (lv_at hl 0 rfl) ?_
        refine lv_isub (pc := 65) hx hb dX2_score_65 ?_
        refine lv_i2l (pc := 66) hx hb dX2_score_66 rfl ?_
        exact w_X2_score_67 C k11 H11 ls x1 x4 (Int32.toInt64 (16 - ((S2.2.2 4) (Int32.toNatClampNeg ((x4 * 4) + x1))))) x2 (lv_sub hl [1, 2, 4] rfl) hf
      · have hf := ft hf c52
        refine lv_iload (pc := 55) hx hb dX2_score_55 (lv_at hl 0 rfl) ?_
        refine lv_i2l (pc := 57) hx hb dX2_score_57 rfl ?_
        refine lv_goto (tgt := 67) (pc := 58) hx hb dX2_score_58 (by decide) ?_
        exact w_X2_score_67 C k11 H11 ls x1 x4 (Int32.toInt64 ((S2.2.2 4) (Int32.toNatClampNeg ((x4 * 4) + x1)))) x2 (lv_sub hl [1, 2, 4] rfl) hf
set_option maxHeartbeats 4000000 in
set_option maxRecDepth 100000 in
theorem w_X2_score_11 {p : Program} {l : Launch} {e : Env} {s : State} {m : MethodId} {args : Array Value} {below : List Frame} {meth : Method} {c : Code} {g : En} {N : Nat} {S2 : St} {res : Int64} (C : cxr g (wd_2 g S2) cX2_score 6 (some .long) wsX2_score RX2 p s m args meth c) : ∀ (n : Nat), ∀ (ls : Array Slot) (x1 : Int32) (x2 : Int64) (x4 : Int32), lv_has ls 6 [(0, .ref (g.2.2.1 2)), (1, .int x1), (2, .long x2), (4, .int x4)] → f_X2_score_11 N S2  n x1 x2 x4 = some res → W p l e (headSpec wsX2_score { frames := 0, cells := 0, slots := 0, locals := 0 }).room s m args below meth c s.heap [] 0 0 (MQ below (vp_Sl (fun r => r = res)) args s 0 0 (fun _ => False)) (F0 m 11 ls []) := by
  intro n
  induction n with
  | zero =>
    intro ls x1 x2 x4 hl hf
    have hf : (none : Option (Int64)) = some res := hf
    cases hf
  | succ n ih =>
    intro ls x1 x2 x4 hl hf
    exact w_X2_score_11_b C  (fun y0 y1 y2 => f_X2_score_11 N S2  n y0 y1 y2) ih ls x1 x2 x4 hl hf
set_option maxHeartbeats 4000000 in
set_option maxRecDepth 100000 in
theorem c_X2_score (l : Launch) (g : En) (N : Nat) (S2 : St) (x1 : Int32) (res : Int64) (hf : f_X2_score N S2 x1 = some res) : Met l yX2_score wsX2_score { frames := 0, cells := 0, slots := 0, locals := 0 } (roP g (wd_2 g S2) [.ref (g.2.2.1 2), .int x1]) (vp_Sl (fun r => r = res)) 0 0 (fun _ => False) := by
  refine Met.ofW (cc := cX2_score) (maxL := 6) (ret := (some .long)) (by decide) rfl ?_
  intro p e s m args below meth c s₁ B hml hv
  obtain ⟨rfl, hP, hK⟩ := hv
  have hx := B.exec
  have hb := B.bytes
  have hr := B.returns
  have hts := atoms_spec (ws := wsX2_score) B.pre
  have hown : s.vm.findClass RX2 = some m.cls := findClass_of_methodNamed B.named
  have hlk := B.notSynchronized
  have C : cxr g (wd_2 g S2) cX2_score 6 (some .long) wsX2_score RX2 p s m ([.ref (g.2.2.1 2), .int x1] : List Value).toArray meth c := ⟨⟨hx, hb, hr, hml, hown, hts, hlk⟩, hK, hP⟩
  have hl := lv_entry [.ref (g.2.2.1 2), .int x1] (n := 6) (Nat.le_of_ble_eq_true rfl)
  rw [lg_entry_eq]
  generalize (lg_sl [.ref (g.2.2.1 2), .int x1] ++ List.replicate (6 - (lg_sl [.ref (g.2.2.1 2), .int x1]).length) Slot.unset).toArray = ls at hl ⊢
  have hl : lv_has ls 6 [(0, .ref (g.2.2.1 2)), (1, .int x1)] := hl
  unfold f_X2_score at hf
  refine lv_aload_n (pc := 0) hx hb dX2_score_0 rfl (lv_at hl 0 rfl) ?_
  refine va_get (D := g.1) (ci := 2) (v := .ref (g.2.2.2 2 0)) (C := RX2) (T := TX2) (N := 10) (pc := 1) hx hb hts (fun _ h => List.mem_cons_of_mem _ (List.mem_append_right _ h)) hown hK hP 0 rfl rfl 0 (by decide) (hts _ q_X2_score_4) (fun _ h9 => h9) rfl dX2_score_1 ?_
  refine lv_iload_n (pc := 4) hx hb dX2_score_4 rfl (lv_at hl 1 rfl) ?_
  obtain ⟨b5, hf⟩ := gdE hf
  refine va_iald (D := g.1) (tys := tyl g) (f := (S2.2.2 0)) (pc := 5) hx hb hK hP 1 0 rfl rfl (inbV b5) dX2_score_5 ?_
  refine lv_i2l (pc := 6) hx hb dX2_score_6 rfl ?_
  refine lv_lstore_n (lv' := [(2, .long (Int32.toInt64 ((S2.2.2 0) (Int32.toNatClampNeg x1)))), (0, .ref (g.2.2.1 2)), (1, .int x1)]) (pc := 7) hx hb dX2_score_7 rfl hl (by decide) rfl (fun ls hl => ?_)
  refine lv_iconst (v := 0) (pc := 8) hx hb dX2_score_8 (by decide) ?_
  refine lv_istore (lv' := [(4, .int 0), (2, .long (Int32.toInt64 ((S2.2.2 0) (Int32.toNatClampNeg x1)))), (0, .ref (g.2.2.1 2)), (1, .int x1)]) (pc := 9) hx hb dX2_score_9 hl (by decide) rfl (fun ls hl => ?_)
  exact w_X2_score_11 C  N ls x1 (Int32.toInt64 ((S2.2.2 0) (Int32.toNatClampNeg x1))) 0 (lv_sub hl [2, 3, 1, 0] rfl) hf
theorem h_X2_scoreOfAll : yX2_scoreOfAll.cls = RX2 ∧ yX2_scoreOfAll.cls ≠ "java/lang/invoke/MethodHandle" ∧ yX2_scoreOfAll.cls ≠ "java/lang/invoke/VarHandle" ∧ (parseMethodDescriptor yX2_scoreOfAll.desc).map (fun d => d.parameters.length) = some 0 := by decide +kernel
set_option maxHeartbeats 4000000 in
set_option maxRecDepth 100000 in
theorem w_X2_scoreOfAll_4_b {p : Program} {l : Launch} {e : Env} {s : State} {m : MethodId} {args : Array Value} {below : List Frame} {meth : Method} {c : Code} {g : En} {N : Nat} {S2 : St} {res : Int64} (C : cxr g (wd_2 g S2) cX2_scoreOfAll 4 (some .long) wsX2_scoreOfAll RX2 p s m args meth c) (k4 : Int64 → Int32 → Option (Int64)) (H4 : ∀ (ls : Array Slot) (x1 : Int64) (x3 : Int32), lv_has ls 4 [(0, .ref (g.2.2.1 2)), (1, .long x1), (3, .int x3)] → k4 x1 x3 = some res → W p l e (headSpec wsX2_scoreOfAll { frames := 1, cells := 0, slots := 0, locals := 25 }).room s m args below meth c s.heap [] 0 0 (MQ below (vp_Sl (fun r => r = res)) args s 0 0 (fun _ => False)) (F0 m 4 ls [])) : ∀ (ls : Array Slot) (x1 : Int64) (x3 : Int32), lv_has ls 4 [(0, .ref (g.2.2.1 2)), (1, .long x1), (3, .int x3)] → f_X2_scoreOfAll_4_b N S2  k4 x1 x3 = some res → W p l e (headSpec wsX2_scoreOfAll { frames := 1, cells := 0, slots := 0, locals := 25 }).room s m args below meth c s.heap [] 0 0 (MQ below (vp_Sl (fun r => r = res)) args s 0 0 (fun _ => False)) (F0 m 4 ls []) := by
  intro ls x1 x3 hl hf
  obtain ⟨⟨hx, hb, hr, hml, hown, hts, hlk⟩, hK, hP⟩ := id C
  unfold f_X2_scoreOfAll_4_b at hf
  refine lv_iload_n (pc := 4) hx hb dX2_scoreOfAll_4 rfl (lv_at hl 2 rfl) ?_
  refine lv_iconst (v := 4) (pc := 5) hx hb dX2_scoreOfAll_5 (by decide) ?_
  refine lv_icmp_ge (tgt := 23) (pc := 6) hx hb dX2_scoreOfAll_6 (by decide) (fun c6 => ?_) (fun c6 => ?_)
  · have hf := ft hf c6
    refine lv_lload_n (pc := 23) hx hb dX2_scoreOfAll_23 rfl (lv_at hl 1 rfl) ?_
    have hf := Option.some.inj hf
    subst hf
    exact W.lret (v := x1) hx hb hr (fun t ht hW => ⟨_, rfl, rfl, ht⟩) (fun _ h => by cases h) dX2_scoreOfAll_24
  · have hf := ff hf c6
    refine lv_lload_n (pc := 9) hx hb dX2_scoreOfAll_9 rfl (lv_at hl 1 rfl) ?_
    refine lv_aload_n (pc := 10) hx hb dX2_scoreOfAll_10 rfl (lv_at hl 0 rfl) ?_
    refine lv_iload_n (pc := 11) hx hb dX2_scoreOfAll_11 rfl (lv_at hl 2 rfl) ?_
    obtain ⟨r12, e12, hf⟩ := bdE hf
    refine krL (g := g) (wc := (wd_2 g S2)) (pc := 12) (As := [.int x3]) (rest := [.long x1]) ⟨hx, hb, hml, hown, hts⟩ (c_X2_score l g N S2 x3 r12 e12) (cwV 1 hts gX2_scoreOfAll_X2_score rfl rfl rfl h_X2_score ⟨Nat.le_of_ble_eq_true rfl, Nat.le_of_ble_eq_true rfl⟩) hK hP rfl rfl rfl hl.1 rfl (Nat.le_of_ble_eq_true rfl) dX2_scoreOfAll_12 ⟨Nat.zero_le _, Nat.zero_le _⟩ ?_
    refine lv_ladd (pc := 15) hx hb dX2_scoreOfAll_15 ?_
    refine lv_lstore_n (lv' := [(1, .long (x1 + r12)), (0, .ref (g.2.2.1 2)), (3, .int x3)]) (pc := 16) hx hb dX2_scoreOfAll_16 rfl hl (by decide) rfl (fun ls hl => ?_)
    refine lv_iinc (v := (x3 + 1)) (lv' := [(3, .int (x3 + 1)), (1, .long (x1 + r12)), (0, .ref (g.2.2.1 2))]) (pc := 17) hx hb dX2_scoreOfAll_17 hl (k := 2) rfl rfl (by decide) rfl (fun ls hl => ?_)
    refine lv_goto (tgt := 4) (pc := 20) hx hb dX2_scoreOfAll_20 (by decide) ?_
    exact H4 ls (x1 + r12) (x3 + 1) (lv_sub hl [2, 1, 0] rfl) hf
set_option maxHeartbeats 4000000 in
set_option maxRecDepth 100000 in
theorem w_X2_scoreOfAll_4 {p : Program} {l : Launch} {e : Env} {s : State} {m : MethodId} {args : Array Value} {below : List Frame} {meth : Method} {c : Code} {g : En} {N : Nat} {S2 : St} {res : Int64} (C : cxr g (wd_2 g S2) cX2_scoreOfAll 4 (some .long) wsX2_scoreOfAll RX2 p s m args meth c) : ∀ (n : Nat), ∀ (ls : Array Slot) (x1 : Int64) (x3 : Int32), lv_has ls 4 [(0, .ref (g.2.2.1 2)), (1, .long x1), (3, .int x3)] → f_X2_scoreOfAll_4 N S2  n x1 x3 = some res → W p l e (headSpec wsX2_scoreOfAll { frames := 1, cells := 0, slots := 0, locals := 25 }).room s m args below meth c s.heap [] 0 0 (MQ below (vp_Sl (fun r => r = res)) args s 0 0 (fun _ => False)) (F0 m 4 ls []) := by
  intro n
  induction n with
  | zero =>
    intro ls x1 x3 hl hf
    have hf : (none : Option (Int64)) = some res := hf
    cases hf
  | succ n ih =>
    intro ls x1 x3 hl hf
    exact w_X2_scoreOfAll_4_b C  (fun y0 y1 => f_X2_scoreOfAll_4 N S2  n y0 y1) ih ls x1 x3 hl hf
set_option maxHeartbeats 4000000 in
set_option maxRecDepth 100000 in
theorem c_X2_scoreOfAll (l : Launch) (g : En) (N : Nat) (S2 : St) (res : Int64) (hf : f_X2_scoreOfAll N S2 = some res) : Met l yX2_scoreOfAll wsX2_scoreOfAll { frames := 1, cells := 0, slots := 0, locals := 25 } (roP g (wd_2 g S2) [.ref (g.2.2.1 2)]) (vp_Sl (fun r => r = res)) 0 0 (fun _ => False) := by
  refine Met.ofW (cc := cX2_scoreOfAll) (maxL := 4) (ret := (some .long)) (by decide) rfl ?_
  intro p e s m args below meth c s₁ B hml hv
  obtain ⟨rfl, hP, hK⟩ := hv
  have hx := B.exec
  have hb := B.bytes
  have hr := B.returns
  have hts := atoms_spec (ws := wsX2_scoreOfAll) B.pre
  have hown : s.vm.findClass RX2 = some m.cls := findClass_of_methodNamed B.named
  have hlk := B.notSynchronized
  have C : cxr g (wd_2 g S2) cX2_scoreOfAll 4 (some .long) wsX2_scoreOfAll RX2 p s m ([.ref (g.2.2.1 2)] : List Value).toArray meth c := ⟨⟨hx, hb, hr, hml, hown, hts, hlk⟩, hK, hP⟩
  have hl := lv_entry [.ref (g.2.2.1 2)] (n := 4) (Nat.le_of_ble_eq_true rfl)
  rw [lg_entry_eq]
  generalize (lg_sl [.ref (g.2.2.1 2)] ++ List.replicate (4 - (lg_sl [.ref (g.2.2.1 2)]).length) Slot.unset).toArray = ls at hl ⊢
  have hl : lv_has ls 4 [(0, .ref (g.2.2.1 2))] := hl
  unfold f_X2_scoreOfAll at hf
  refine lv_lconst (v := 0) (pc := 0) hx hb dX2_scoreOfAll_0 (by decide) ?_
  refine lv_lstore_n (lv' := [(1, .long 0), (0, .ref (g.2.2.1 2))]) (pc := 1) hx hb dX2_scoreOfAll_1 rfl hl (by decide) rfl (fun ls hl => ?_)
  refine lv_iconst (v := 0) (pc := 2) hx hb dX2_scoreOfAll_2 (by decide) ?_
  refine lv_istore_n (lv' := [(3, .int 0), (1, .long 0), (0, .ref (g.2.2.1 2))]) (pc := 3) hx hb dX2_scoreOfAll_3 rfl hl (by decide) rfl (fun ls hl => ?_)
  exact w_X2_scoreOfAll_4 C  N ls 0 0 (lv_sub hl [2, 1, 0] rfl) hf
theorem h_X2_likeliest : yX2_likeliest.cls = RX2 ∧ yX2_likeliest.cls ≠ "java/lang/invoke/MethodHandle" ∧ yX2_likeliest.cls ≠ "java/lang/invoke/VarHandle" ∧ (parseMethodDescriptor yX2_likeliest.desc).map (fun d => d.parameters.length) = some 0 := by decide +kernel
set_option maxHeartbeats 4000000 in
set_option maxRecDepth 100000 in
theorem w_X2_likeliest_25 {p : Program} {l : Launch} {e : Env} {s : State} {m : MethodId} {args : Array Value} {below : List Frame} {meth : Method} {c : Code} {g : En} {N : Nat} {S2 : St} {res : Int32} (C : cxr g (wd_2 g S2) cX2_likeliest 3 (some .int) wsX2_likeliest RX2 p s m args meth c) (k4 : Int32 → Int32 → Option (Int32)) (H4 : ∀ (ls : Array Slot) (x1 : Int32) (x2 : Int32), lv_has ls 3 [(0, .ref (g.2.2.1 2)), (1, .int x1), (2, .int x2)] → k4 x1 x2 = some res → W p l e (headSpec wsX2_likeliest { frames := 1, cells := 0, slots := 0, locals := 25 }).room s m args below meth c s.heap [] 0 0 (MQ below (vp_Si (fun r => r = res)) args s 0 0 (fun _ => False)) (F0 m 4 ls [])) : ∀ (ls : Array Slot) (x1 : Int32) (x2 : Int32), lv_has ls 3 [(0, .ref (g.2.2.1 2)), (1, .int x1), (2, .int x2)] → f_X2_likeliest_25 N S2 k4 x1 x2 = some res → W p l e (headSpec wsX2_likeliest { frames := 1, cells := 0, slots := 0, locals := 25 }).room s m args below meth c s.heap [] 0 0 (MQ below (vp_Si (fun r => r = res)) args s 0 0 (fun _ => False)) (F0 m 25 ls []) := by
  intro ls x1 x2 hl hf
  obtain ⟨⟨hx, hb, hr, hml, hown, hts, hlk⟩, hK, hP⟩ := id C
  unfold f_X2_likeliest_25 at hf
  refine lv_iinc (v := (x2 + 1)) (lv' := [(2, .int (x2 + 1)), (0, .ref (g.2.2.1 2)), (1, .int x1)]) (pc := 25) hx hb dX2_likeliest_25 hl (k := 2) rfl rfl (by decide) rfl (fun ls hl => ?_)
  refine lv_goto (tgt := 4) (pc := 28) hx hb dX2_likeliest_28 (by decide) ?_
  exact H4 ls x1 (x2 + 1) (lv_sub hl [1, 2, 0] rfl) hf
set_option maxHeartbeats 4000000 in
set_option maxRecDepth 100000 in
theorem w_X2_likeliest_4_b {p : Program} {l : Launch} {e : Env} {s : State} {m : MethodId} {args : Array Value} {below : List Frame} {meth : Method} {c : Code} {g : En} {N : Nat} {S2 : St} {res : Int32} (C : cxr g (wd_2 g S2) cX2_likeliest 3 (some .int) wsX2_likeliest RX2 p s m args meth c) (k4 : Int32 → Int32 → Option (Int32)) (H4 : ∀ (ls : Array Slot) (x1 : Int32) (x2 : Int32), lv_has ls 3 [(0, .ref (g.2.2.1 2)), (1, .int x1), (2, .int x2)] → k4 x1 x2 = some res → W p l e (headSpec wsX2_likeliest { frames := 1, cells := 0, slots := 0, locals := 25 }).room s m args below meth c s.heap [] 0 0 (MQ below (vp_Si (fun r => r = res)) args s 0 0 (fun _ => False)) (F0 m 4 ls [])) : ∀ (ls : Array Slot) (x1 : Int32) (x2 : Int32), lv_has ls 3 [(0, .ref (g.2.2.1 2)), (1, .int x1), (2, .int x2)] → f_X2_likeliest_4_b N S2  k4 x1 x2 = some res → W p l e (headSpec wsX2_likeliest { frames := 1, cells := 0, slots := 0, locals := 25 }).room s m args below meth c s.heap [] 0 0 (MQ below (vp_Si (fun r => r = res)) args s 0 0 (fun _ => False)) (F0 m 4 ls []) := by
  intro ls x1 x2 hl hf
  obtain ⟨⟨hx, hb, hr, hml, hown, hts, hlk⟩, hK, hP⟩ := id C
  unfold f_X2_likeliest_4_b at hf
  refine lv_iload_n (pc := 4) hx hb dX2_likeliest_4 rfl (lv_at hl 2 rfl) ?_
  refine lv_iconst (v := 4) (pc := 5) hx hb dX2_likeliest_5 (by decide) ?_
  refine lv_icmp_ge (tgt := 31) (pc := 6) hx hb dX2_likeliest_6 (by decide) (fun c6 => ?_) (fun c6 => ?_)
  · have hf := ft hf c6
    refine lv_iload_n (pc := 31) hx hb dX2_likeliest_31 rfl (lv_at hl 1 rfl) ?_
    have hf := Option.some.inj hf
    subst hf
    exact W.iret (v := x1) hx hb hr (fun t ht hW => ⟨_, rfl, rfl, ht⟩) (fun _ h => by cases h) dX2_likeliest_32
  · have hf := ff hf c6
    refine lv_aload_n (pc := 9) hx hb dX2_likeliest_9 rfl (lv_at hl 0 rfl) ?_
    refine lv_iload_n (pc := 10) hx hb dX2_likeliest_10 rfl (lv_at hl 2 rfl) ?_
    obtain ⟨r11, e11, hf⟩ := bdE hf
    refine krL (g := g) (wc := (wd_2 g S2)) (pc := 11) (As := [.int x2]) (rest := []) ⟨hx, hb, hml, hown, hts⟩ (c_X2_score l g N S2 x2 r11 e11) (cwV 1 hts gX2_likeliest_X2_score rfl rfl rfl h_X2_score ⟨Nat.le_of_ble_eq_true rfl, Nat.le_of_ble_eq_true rfl⟩) hK hP rfl rfl rfl hl.1 rfl (Nat.le_of_ble_eq_true rfl) dX2_likeliest_11 ⟨Nat.zero_le _, Nat.zero_le _⟩ ?_
    refine lv_aload_n (pc := 14) hx hb dX2_likeliest_14 rfl (lv_at hl 0 rfl) ?_
    refine lv_iload_n (pc := 15) hx hb dX2_likeliest_15 rfl (lv_at hl 1 rfl) ?_
    obtain ⟨r16, e16, hf⟩ := bdE hf
    refine krL (g := g) (wc := (wd_2 g S2)) (pc := 16) (As := [.int x1]) (rest := [.long r11]) ⟨hx, hb, hml, hown, hts⟩ (c_X2_score l g N S2 x1 r16 e16) (cwV 1 hts gX2_likeliest_X2_score rfl rfl rfl h_X2_score ⟨Nat.le_of_ble_eq_true rfl, Nat.le_of_ble_eq_true rfl⟩) hK hP rfl rfl rfl hl.1 rfl (Nat.le_of_ble_eq_true rfl) dX2_likeliest_16 ⟨Nat.zero_le _, Nat.zero_le _⟩ ?_
    refine W.lcmp (pc := 19) hx hb dX2_likeliest_19 ?_
    refine lv_if_le (tgt := 25) (pc := 20) hx hb dX2_likeliest_20 (by decide) (fun c20 => ?_) (fun c20 => ?_)
    · have hf := ft hf c20
      exact w_X2_likeliest_25 C k4 H4 ls x1 x2 (lv_sub hl [0, 1, 2] rfl) hf
    · have hf := ff hf c20
      refine lv_iload_n (pc := 23) hx hb dX2_likeliest_23 rfl (lv_at hl 2 rfl) ?_
      refine lv_istore_n (lv' := [(1, .int x2), (0, .ref (g.2.2.1 2)), (2, .int x2)]) (pc := 24) hx hb dX2_likeliest_24 rfl hl (by decide) rfl (fun ls hl => ?_)
      exact w_X2_likeliest_25 C k4 H4 ls x2 x2 (lv_sub hl [1, 0, 2] rfl) hf
set_option maxHeartbeats 4000000 in
set_option maxRecDepth 100000 in
theorem w_X2_likeliest_4 {p : Program} {l : Launch} {e : Env} {s : State} {m : MethodId} {args : Array Value} {below : List Frame} {meth : Method} {c : Code} {g : En} {N : Nat} {S2 : St} {res : Int32} (C : cxr g (wd_2 g S2) cX2_likeliest 3 (some .int) wsX2_likeliest RX2 p s m args meth c) : ∀ (n : Nat), ∀ (ls : Array Slot) (x1 : Int32) (x2 : Int32), lv_has ls 3 [(0, .ref (g.2.2.1 2)), (1, .int x1), (2, .int x2)] → f_X2_likeliest_4 N S2  n x1 x2 = some res → W p l e (headSpec wsX2_likeliest { frames := 1, cells := 0, slots := 0, locals := 25 }).room s m args below meth c s.heap [] 0 0 (MQ below (vp_Si (fun r => r = res)) args s 0 0 (fun _ => False)) (F0 m 4 ls []) := by
  intro n
  induction n with
  | zero =>
    intro ls x1 x2 hl hf
    have hf : (none : Option (Int32)) = some res := hf
    cases hf
  | succ n ih =>
    intro ls x1 x2 hl hf
    exact w_X2_likeliest_4_b C  (fun y0 y1 => f_X2_likeliest_4 N S2  n y0 y1) ih ls x1 x2 hl hf
set_option maxHeartbeats 4000000 in
set_option maxRecDepth 100000 in
theorem c_X2_likeliest (l : Launch) (g : En) (N : Nat) (S2 : St) (res : Int32) (hf : f_X2_likeliest N S2 = some res) : Met l yX2_likeliest wsX2_likeliest { frames := 1, cells := 0, slots := 0, locals := 25 } (roP g (wd_2 g S2) [.ref (g.2.2.1 2)]) (vp_Si (fun r => r = res)) 0 0 (fun _ => False) := by
  refine Met.ofW (cc := cX2_likeliest) (maxL := 3) (ret := (some .int)) (by decide) rfl ?_
  intro p e s m args below meth c s₁ B hml hv
  obtain ⟨rfl, hP, hK⟩ := hv
  have hx := B.exec
  have hb := B.bytes
  have hr := B.returns
  have hts := atoms_spec (ws := wsX2_likeliest) B.pre
  have hown : s.vm.findClass RX2 = some m.cls := findClass_of_methodNamed B.named
  have hlk := B.notSynchronized
  have C : cxr g (wd_2 g S2) cX2_likeliest 3 (some .int) wsX2_likeliest RX2 p s m ([.ref (g.2.2.1 2)] : List Value).toArray meth c := ⟨⟨hx, hb, hr, hml, hown, hts, hlk⟩, hK, hP⟩
  have hl := lv_entry [.ref (g.2.2.1 2)] (n := 3) (Nat.le_of_ble_eq_true rfl)
  rw [lg_entry_eq]
  generalize (lg_sl [.ref (g.2.2.1 2)] ++ List.replicate (3 - (lg_sl [.ref (g.2.2.1 2)]).length) Slot.unset).toArray = ls at hl ⊢
  have hl : lv_has ls 3 [(0, .ref (g.2.2.1 2))] := hl
  unfold f_X2_likeliest at hf
  refine lv_iconst (v := 0) (pc := 0) hx hb dX2_likeliest_0 (by decide) ?_
  refine lv_istore_n (lv' := [(1, .int 0), (0, .ref (g.2.2.1 2))]) (pc := 1) hx hb dX2_likeliest_1 rfl hl (by decide) rfl (fun ls hl => ?_)
  refine lv_iconst (v := 1) (pc := 2) hx hb dX2_likeliest_2 (by decide) ?_
  refine lv_istore_n (lv' := [(2, .int 1), (1, .int 0), (0, .ref (g.2.2.1 2))]) (pc := 3) hx hb dX2_likeliest_3 rfl hl (by decide) rfl (fun ls hl => ?_)
  exact w_X2_likeliest_4 C  N ls 0 1 (lv_sub hl [2, 1, 0] rfl) hf
theorem h_X2_isOpen : yX2_isOpen.cls = RX2 ∧ yX2_isOpen.cls ≠ "java/lang/invoke/MethodHandle" ∧ yX2_isOpen.cls ≠ "java/lang/invoke/VarHandle" ∧ (parseMethodDescriptor yX2_isOpen.desc).map (fun d => d.parameters.length) = some 1 := by decide +kernel
set_option maxHeartbeats 4000000 in
set_option maxRecDepth 100000 in
theorem c_X2_isOpen (l : Launch) (g : En) (N : Nat) (S2 : St) (x1 : Int32) (res : Int32) (hf : f_X2_isOpen N S2 x1 = some res) : Met l yX2_isOpen wsX2_isOpen { frames := 1, cells := 0, slots := 0, locals := 21 } (roP g (wd_2 g S2) [.ref (g.2.2.1 2), .int x1]) (vp_Si (fun r => r = res)) 0 0 (fun _ => False) := by
  refine Met.ofW (cc := cX2_isOpen) (maxL := 2) (ret := (some .boolean)) (by decide) rfl ?_
  intro p e s m args below meth c s₁ B hml hv
  obtain ⟨rfl, hP, hK⟩ := hv
  have hx := B.exec
  have hb := B.bytes
  have hr := B.returns
  have hts := atoms_spec (ws := wsX2_isOpen) B.pre
  have hown : s.vm.findClass RX2 = some m.cls := findClass_of_methodNamed B.named
  have hlk := B.notSynchronized
  have C : cxr g (wd_2 g S2) cX2_isOpen 2 (some .boolean) wsX2_isOpen RX2 p s m ([.ref (g.2.2.1 2), .int x1] : List Value).toArray meth c := ⟨⟨hx, hb, hr, hml, hown, hts, hlk⟩, hK, hP⟩
  have hl := lv_entry [.ref (g.2.2.1 2), .int x1] (n := 2) (Nat.le_of_ble_eq_true rfl)
  rw [lg_entry_eq]
  generalize (lg_sl [.ref (g.2.2.1 2), .int x1] ++ List.replicate (2 - (lg_sl [.ref (g.2.2.1 2), .int x1]).length) Slot.unset).toArray = ls at hl ⊢
  have hl : lv_has ls 2 [(0, .ref (g.2.2.1 2)), (1, .int x1)] := hl
  unfold f_X2_isOpen at hf
  refine lv_aload_n (pc := 0) hx hb dX2_isOpen_0 rfl (lv_at hl 0 rfl) ?_
  refine lv_iload_n (pc := 1) hx hb dX2_isOpen_1 rfl (lv_at hl 1 rfl) ?_
  obtain ⟨r2, e2, hf⟩ := bdE hf
  refine krI (g := g) (wc := (wd_2 g S2)) (pc := 2) (As := [.int x1]) (rest := []) ⟨hx, hb, hml, hown, hts⟩ (c_X2_isDone l g N S2 x1 r2 e2) (cwV 1 hts gX2_isOpen_X2_isDone rfl rfl rfl h_X2_isDone ⟨Nat.le_of_ble_eq_true rfl, Nat.le_of_ble_eq_true rfl⟩) hK hP rfl rfl rfl hl.1 rfl (Nat.le_of_ble_eq_true rfl) dX2_isOpen_2 ⟨Nat.zero_le _, Nat.zero_le _⟩ ?_
  refine lv_if_ne (tgt := 20) (pc := 5) hx hb dX2_isOpen_5 (by decide) (fun c5 => ?_) (fun c5 => ?_)
  · have hf := ff hf c5
    refine lv_iconst (v := 0) (pc := 20) hx hb dX2_isOpen_20 (by decide) ?_
    have hf := Option.some.inj hf
    subst hf
    exact W.zret (v := 0) hx hb hr rfl (fun t ht hW => ⟨_, rfl, rfl, ht⟩) (fun _ h => by cases h) dX2_isOpen_21
  · have hf := ft hf c5
    refine lv_aload_n (pc := 8) hx hb dX2_isOpen_8 rfl (lv_at hl 0 rfl) ?_
    refine lv_iload_n (pc := 9) hx hb dX2_isOpen_9 rfl (lv_at hl 1 rfl) ?_
    obtain ⟨r10, e10, hf⟩ := bdE hf
    refine krI (g := g) (wc := (wd_2 g S2)) (pc := 10) (As := [.int x1]) (rest := []) ⟨hx, hb, hml, hown, hts⟩ (c_X2_isGroupDone l g N S2 x1 r10 e10) (cwV 1 hts gX2_isOpen_X2_isGroupDone rfl rfl rfl h_X2_isGroupDone ⟨Nat.le_of_ble_eq_true rfl, Nat.le_of_ble_eq_true rfl⟩) hK hP rfl rfl rfl hl.1 rfl (Nat.le_of_ble_eq_true rfl) dX2_isOpen_10 ⟨Nat.zero_le _, Nat.zero_le _⟩ ?_
    refine lv_if_ne (tgt := 20) (pc := 13) hx hb dX2_isOpen_13 (by decide) (fun c13 => ?_) (fun c13 => ?_)
    · have hf := ff hf c13
      refine lv_iconst (v := 0) (pc := 20) hx hb dX2_isOpen_20 (by decide) ?_
      have hf := Option.some.inj hf
      subst hf
      exact W.zret (v := 0) hx hb hr rfl (fun t ht hW => ⟨_, rfl, rfl, ht⟩) (fun _ h => by cases h) dX2_isOpen_21
    · have hf := ft hf c13
      refine lv_iconst (v := 1) (pc := 16) hx hb dX2_isOpen_16 (by decide) ?_
      refine lv_goto (tgt := 21) (pc := 17) hx hb dX2_isOpen_17 (by decide) ?_
      have hf := Option.some.inj hf
      subst hf
      exact W.zret (v := 1) hx hb hr rfl (fun t ht hW => ⟨_, rfl, rfl, ht⟩) (fun _ h => by cases h) dX2_isOpen_21
theorem q_X2_gainOf_0 : (.fieldLink RX2 24 "PictureCourt$Odds" "oftens" "[I" : Cond) ∈ wsX2_gainOf := by decide +kernel
theorem q_X2_gainOf_1 : (.methodLink RX2 55 Lib.MathLoose.max_long.x : Cond) ∈ wsX2_gainOf := by decide +kernel
theorem q_X2_gainOf_2 : (.static Lib.MathLoose.max_long.x : Cond) ∈ wsX2_gainOf := by decide +kernel
theorem q_X2_gainOf_3 : (.initialized "java/lang/Math" : Cond) ∈ wsX2_gainOf := by decide +kernel
theorem q_X2_gainOf_4 : (.code Lib.MathLoose.max_long.x Lib.MathLoose.max_long.code 4 (some .long) : Cond) ∈ wsX2_gainOf := by decide +kernel
theorem q_X2_gainOf_5 : (.constantLong RX2 61 16 : Cond) ∈ wsX2_gainOf := by decide +kernel
theorem h_X2_gainOf : yX2_gainOf.cls = RX2 ∧ yX2_gainOf.cls ≠ "java/lang/invoke/MethodHandle" ∧ yX2_gainOf.cls ≠ "java/lang/invoke/VarHandle" ∧ (parseMethodDescriptor yX2_gainOf.desc).map (fun d => d.parameters.length) = some 1 := by decide +kernel
set_option maxHeartbeats 4000000 in
set_option maxRecDepth 100000 in
theorem w_X2_gainOf_11_b {p : Program} {l : Launch} {e : Env} {s : State} {m : MethodId} {args : Array Value} {below : List Frame} {meth : Method} {c : Code} {g : En} {N : Nat} {S2 : St} {res : Int64} (C : cxr g (wd_2 g S2) cX2_gainOf 12 (some .long) wsX2_gainOf RX2 p s m args meth c) (k11 : Int32 → Int64 → Int64 → Int64 → Int32 → Option (Int64)) (H11 : ∀ (ls : Array Slot) (x1 : Int32) (x2 : Int64) (x4 : Int64) (x6 : Int64) (x8 : Int32), lv_has ls 12 [(0, .ref (g.2.2.1 2)), (1, .int x1), (2, .long x2), (4, .long x4), (6, .long x6), (8, .int x8)] → k11 x1 x2 x4 x6 x8 = some res → W p l e (headSpec wsX2_gainOf { frames := 1, cells := 0, slots := 0, locals := 25 }).room s m args below meth c s.heap [] 0 0 (MQ below (vp_Sl (fun r => r = res)) args s 0 0 (fun _ => False)) (F0 m 11 ls [])) : ∀ (ls : Array Slot) (x1 : Int32) (x2 : Int64) (x4 : Int64) (x6 : Int64) (x8 : Int32), lv_has ls 12 [(0, .ref (g.2.2.1 2)), (1, .int x1), (2, .long x2), (4, .long x4), (6, .long x6), (8, .int x8)] → f_X2_gainOf_11_b N S2  k11 x1 x2 x4 x6 x8 = some res → W p l e (headSpec wsX2_gainOf { frames := 1, cells := 0, slots := 0, locals := 25 }).room s m args below meth c s.heap [] 0 0 (MQ below (vp_Sl (fun r => r = res)) args s 0 0 (fun _ => False)) (F0 m 11 ls []) := by
  intro ls x1 x2 x4 x6 x8 hl hf
  obtain ⟨⟨hx, hb, hr, hml, hown, hts, hlk⟩, hK, hP⟩ := id C
  unfold f_X2_gainOf_11_b at hf
  refine lv_iload (pc := 11) hx hb dX2_gainOf_11 (lv_at hl 5 rfl) ?_
  refine lv_iconst (v := 4) (pc := 13) hx hb dX2_gainOf_13 (by decide) ?_
  refine lv_icmp_ge (tgt := 84) (pc := 14) hx hb dX2_gainOf_14 (by decide) (fun c14 => ?_) (fun c14 => ?_)
  · have hf := ft hf c14
    refine lv_lload_n (pc := 84) hx hb dX2_gainOf_84 rfl (lv_at hl 2 rfl) ?_
    refine lv_lload (pc := 85) hx hb dX2_gainOf_85 (lv_at hl 3 rfl) ?_
    refine lv_ladd (pc := 87) hx hb dX2_gainOf_87 ?_
    refine lv_lload (pc := 88) hx hb dX2_gainOf_88 (lv_at hl 4 rfl) ?_
    refine lv_lsub (pc := 90) hx hb dX2_gainOf_90 ?_
    have hf := Option.some.inj hf
    subst hf
    exact W.lret (v := ((x2 + x4) - x6)) hx hb hr (fun t ht hW => ⟨_, rfl, rfl, ht⟩) (fun _ h => by cases h) dX2_gainOf_91
  · have hf := ff hf c14
    refine lv_aload_n (pc := 17) hx hb dX2_gainOf_17 rfl (lv_at hl 0 rfl) ?_
    refine lv_iload (pc := 18) hx hb dX2_gainOf_18 (lv_at hl 5 rfl) ?_
    obtain ⟨r20, e20, hf⟩ := bdE hf
    refine krL (g := g) (wc := (wd_2 g S2)) (pc := 20) (As := [.int x8]) (rest := []) ⟨hx, hb, hml, hown, hts⟩ (c_X2_score l g N S2 x8 r20 e20) (cwV 1 hts gX2_gainOf_X2_score rfl rfl rfl h_X2_score ⟨Nat.le_of_ble_eq_true rfl, Nat.le_of_ble_eq_true rfl⟩) hK hP rfl rfl rfl hl.1 rfl (Nat.le_of_ble_eq_true rfl) dX2_gainOf_20 ⟨Nat.zero_le _, Nat.zero_le _⟩ ?_
    refine lv_lstore (lv' := [(9, .long r20), (0, .ref (g.2.2.1 2)), (1, .int x1), (2, .long x2), (4, .long x4), (6, .long x6), (8, .int x8)]) (pc := 23) hx hb dX2_gainOf_23 hl (by decide) rfl (fun ls hl => ?_)
    refine lv_aload_n (pc := 25) hx hb dX2_gainOf_25 rfl (lv_at hl 1 rfl) ?_
    refine va_get (D := g.1) (ci := 2) (v := .ref (g.2.2.2 2 4)) (C := RX2) (T := TX2) (N := 10) (pc := 26) hx hb hts (fun _ h => List.mem_cons_of_mem _ (List.mem_append_right _ h)) hown hK hP 0 rfl rfl 4 (by decide) (hts _ q_X2_gainOf_0) (fun _ h9 => h9) rfl dX2_gainOf_26 ?_
    refine lv_iload_n (pc := 29) hx hb dX2_gainOf_29 rfl (lv_at hl 2 rfl) ?_
    refine lv_iconst (v := 4) (pc := 30) hx hb dX2_gainOf_30 (by decide) ?_
    refine lv_imul (pc := 31) hx hb dX2_gainOf_31 ?_
    refine lv_iload (pc := 32) hx hb dX2_gainOf_32 (lv_at hl 6 rfl) ?_
    refine lv_iadd (pc := 34) hx hb dX2_gainOf_34 ?_
    obtain ⟨b35, hf⟩ := gdE hf
    refine va_iald (D := g.1) (tys := tyl g) (f := (S2.2.2 4)) (pc := 35) hx hb hK hP 5 0 rfl rfl (inbV b35) dX2_gainOf_35 ?_
    refine lv_istore (lv' := [(11, .int ((S2.2.2 4) (Int32.toNatClampNeg ((x1 * 4) + x8)))), (9, .long r20), (0, .ref (g.2.2.1 2)), (1, .int x1), (2, .long x2), (4, .long x4), (6, .long x6), (8, .int x8)]) (pc := 36) hx hb dX2_gainOf_36 hl (by decide) rfl (fun ls hl => ?_)
    refine lv_lload_n (pc := 38) hx hb dX2_gainOf_38 rfl (lv_at hl 4 rfl) ?_
    refine lv_lload (pc := 39) hx hb dX2_gainOf_39 (lv_at hl 1 rfl) ?_
    refine lv_iload (pc := 41) hx hb dX2_gainOf_41 (lv_at hl 0 rfl) ?_
    refine lv_i2l (pc := 43) hx hb dX2_gainOf_43 rfl ?_
    refine lv_lmul (pc := 44) hx hb dX2_gainOf_44 ?_
    refine va_mmax_long (pc := 45) hx hb (hml.trans hl.1.symm) hown (hts _ q_X2_gainOf_1) (hts _ q_X2_gainOf_2) (hts _ q_X2_gainOf_3) (hts _ q_X2_gainOf_4) (Nat.le_of_ble_eq_true rfl) (Nat.le_of_ble_eq_true rfl) (Nat.zero_le _) (Nat.zero_le _) dX2_gainOf_45 ?_
    refine lv_lstore_n (lv' := [(2, .long (if (r20 * (Int32.toInt64 ((S2.2.2 4) (Int32.toNatClampNeg ((x1 * 4) + x8))))) < x2 then x2 else (r20 * (Int32.toInt64 ((S2.2.2 4) (Int32.toNatClampNeg ((x1 * 4) + x8))))))), (11, .int ((S2.2.2 4) (Int32.toNatClampNeg ((x1 * 4) + x8)))), (9, .long r20), (0, .ref (g.2.2.1 2)), (1, .int x1), (4, .long x4), (6, .long x6), (8, .int x8)]) (pc := 48) hx hb dX2_gainOf_48 rfl hl (by decide) rfl (fun ls hl => ?_)
    refine lv_lload (pc := 49) hx hb dX2_gainOf_49 (lv_at hl 5 rfl) ?_
    refine lv_lload (pc := 51) hx hb dX2_gainOf_51 (lv_at hl 2 rfl) ?_
    refine lv_bipush (v := 16) (pc := 53) hx hb dX2_gainOf_53 (by decide) ?_
    refine lv_iload (pc := 55) hx hb dX2_gainOf_55 (lv_at hl 1 rfl) ?_
    refine lv_isub (pc := 57) hx hb dX2_gainOf_57 ?_
    refine lv_i2l (pc := 58) hx hb dX2_gainOf_58 rfl ?_
    refine lv_lmul (pc := 59) hx hb dX2_gainOf_59 ?_
    refine va_mmax_long (pc := 60) hx hb (hml.trans hl.1.symm) hown (hts _ q_X2_gainOf_1) (hts _ q_X2_gainOf_2) (hts _ q_X2_gainOf_3) (hts _ q_X2_gainOf_4) (Nat.le_of_ble_eq_true rfl) (Nat.le_of_ble_eq_true rfl) (Nat.zero_le _) (Nat.zero_le _) dX2_gainOf_60 ?_
    refine lv_lstore (lv' := [(4, .long (if (r20 * (Int32.toInt64 (16 - ((S2.2.2 4) (Int32.toNatClampNeg ((x1 * 4) + x8)))))) < x4 then x4 else (r20 * (Int32.toInt64 (16 - ((S2.2.2 4) (Int32.toNatClampNeg ((x1 * 4) + x8)))))))), (2, .long (if (r20 * (Int32.toInt64 ((S2.2.2 4) (Int32.toNatClampNeg ((x1 * 4) + x8))))) < x2 then x2 else (r20 * (Int32.toInt64 ((S2.2.2 4) (Int32.toNatClampNeg ((x1 * 4) + x8))))))), (11, .int ((S2.2.2 4) (Int32.toNatClampNeg ((x1 * 4) + x8)))), (9, .long r20), (0, .ref (g.2.2.1 2)), (1, .int x1), (6, .long x6), (8, .int x8)]) (pc := 63) hx hb dX2_gainOf_63 hl (by decide) rfl (fun ls hl => ?_)
    refine lv_lload (pc := 65) hx hb dX2_gainOf_65 (lv_at hl 6 rfl) ?_
    refine lv_lload (pc := 67) hx hb dX2_gainOf_67 (lv_at hl 3 rfl) ?_
    refine lv_ldc2 (v := 16) (pc := 69) hx hb hown (hts _ q_X2_gainOf_5) dX2_gainOf_69 ?_
    refine lv_lmul (pc := 72) hx hb dX2_gainOf_72 ?_
    refine va_mmax_long (pc := 73) hx hb (hml.trans hl.1.symm) hown (hts _ q_X2_gainOf_1) (hts _ q_X2_gainOf_2) (hts _ q_X2_gainOf_3) (hts _ q_X2_gainOf_4) (Nat.le_of_ble_eq_true rfl) (Nat.le_of_ble_eq_true rfl) (Nat.zero_le _) (Nat.zero_le _) dX2_gainOf_73 ?_
    refine lv_lstore (lv' := [(6, .long (if (r20 * 16) < x6 then x6 else (r20 * 16))), (4, .long (if (r20 * (Int32.toInt64 (16 - ((S2.2.2 4) (Int32.toNatClampNeg ((x1 * 4) + x8)))))) < x4 then x4 else (r20 * (Int32.toInt64 (16 - ((S2.2.2 4) (Int32.toNatClampNeg ((x1 * 4) + x8)))))))), (2, .long (if (r20 * (Int32.toInt64 ((S2.2.2 4) (Int32.toNatClampNeg ((x1 * 4) + x8))))) < x2 then x2 else (r20 * (Int32.toInt64 ((S2.2.2 4) (Int32.toNatClampNeg ((x1 * 4) + x8))))))), (11, .int ((S2.2.2 4) (Int32.toNatClampNeg ((x1 * 4) + x8)))), (9, .long r20), (0, .ref (g.2.2.1 2)), (1, .int x1), (8, .int x8)]) (pc := 76) hx hb dX2_gainOf_76 hl (by decide) rfl (fun ls hl => ?_)
    refine lv_iinc (v := (x8 + 1)) (lv' := [(8, .int (x8 + 1)), (6, .long (if (r20 * 16) < x6 then x6 else (r20 * 16))), (4, .long (if (r20 * (Int32.toInt64 (16 - ((S2.2.2 4) (Int32.toNatClampNeg ((x1 * 4) + x8)))))) < x4 then x4 else (r20 * (Int32.toInt64 (16 - ((S2.2.2 4) (Int32.toNatClampNeg ((x1 * 4) + x8)))))))), (2, .long (if (r20 * (Int32.toInt64 ((S2.2.2 4) (Int32.toNatClampNeg ((x1 * 4) + x8))))) < x2 then x2 else (r20 * (Int32.toInt64 ((S2.2.2 4) (Int32.toNatClampNeg ((x1 * 4) + x8))))))), (11, .int ((S2.2.2 4) (Int32.toNatClampNeg ((x1 * 4) + x8)))), (9, .long r20), (0, .ref (g.2.2.1 2)), (1, .int x1)]) (pc := 78) hx hb dX2_gainOf_78 hl (k := 7) rfl rfl (by decide) rfl (fun ls hl => ?_)
    refine lv_goto (tgt := 11) (pc := 81) hx hb dX2_gainOf_81 (by decide) ?_
    exact H11 ls x1 (if (r20 * (Int32.toInt64 ((S2.2.2 4) (Int32.toNatClampNeg ((x1 * 4) + x8))))) < x2 then x2 else (r20 * (Int32.toInt64 ((S2.2.2 4) (Int32.toNatClampNeg ((x1 * 4) + x8)))))) (if (r20 * (Int32.toInt64 (16 - ((S2.2.2 4) (Int32.toNatClampNeg ((x1 * 4) + x8)))))) < x4 then x4 else (r20 * (Int32.toInt64 (16 - ((S2.2.2 4) (Int32.toNatClampNeg ((x1 * 4) + x8))))))) (if (r20 * 16) < x6 then x6 else (r20 * 16)) (x8 + 1) (lv_sub hl [6, 7, 3, 2, 1, 0] rfl) hf
set_option maxHeartbeats 4000000 in
set_option maxRecDepth 100000 in
theorem w_X2_gainOf_11 {p : Program} {l : Launch} {e : Env} {s : State} {m : MethodId} {args : Array Value} {below : List Frame} {meth : Method} {c : Code} {g : En} {N : Nat} {S2 : St} {res : Int64} (C : cxr g (wd_2 g S2) cX2_gainOf 12 (some .long) wsX2_gainOf RX2 p s m args meth c) : ∀ (n : Nat), ∀ (ls : Array Slot) (x1 : Int32) (x2 : Int64) (x4 : Int64) (x6 : Int64) (x8 : Int32), lv_has ls 12 [(0, .ref (g.2.2.1 2)), (1, .int x1), (2, .long x2), (4, .long x4), (6, .long x6), (8, .int x8)] → f_X2_gainOf_11 N S2  n x1 x2 x4 x6 x8 = some res → W p l e (headSpec wsX2_gainOf { frames := 1, cells := 0, slots := 0, locals := 25 }).room s m args below meth c s.heap [] 0 0 (MQ below (vp_Sl (fun r => r = res)) args s 0 0 (fun _ => False)) (F0 m 11 ls []) := by
  intro n
  induction n with
  | zero =>
    intro ls x1 x2 x4 x6 x8 hl hf
    have hf : (none : Option (Int64)) = some res := hf
    cases hf
  | succ n ih =>
    intro ls x1 x2 x4 x6 x8 hl hf
    exact w_X2_gainOf_11_b C  (fun y0 y1 y2 y3 y4 => f_X2_gainOf_11 N S2  n y0 y1 y2 y3 y4) ih ls x1 x2 x4 x6 x8 hl hf
set_option maxHeartbeats 4000000 in
set_option maxRecDepth 100000 in
theorem c_X2_gainOf (l : Launch) (g : En) (N : Nat) (S2 : St) (x1 : Int32) (res : Int64) (hf : f_X2_gainOf N S2 x1 = some res) : Met l yX2_gainOf wsX2_gainOf { frames := 1, cells := 0, slots := 0, locals := 25 } (roP g (wd_2 g S2) [.ref (g.2.2.1 2), .int x1]) (vp_Sl (fun r => r = res)) 0 0 (fun _ => False) := by
  refine Met.ofW (cc := cX2_gainOf) (maxL := 12) (ret := (some .long)) (by decide) rfl ?_
  intro p e s m args below meth c s₁ B hml hv
  obtain ⟨rfl, hP, hK⟩ := hv
  have hx := B.exec
  have hb := B.bytes
  have hr := B.returns
  have hts := atoms_spec (ws := wsX2_gainOf) B.pre
  have hown : s.vm.findClass RX2 = some m.cls := findClass_of_methodNamed B.named
  have hlk := B.notSynchronized
  have C : cxr g (wd_2 g S2) cX2_gainOf 12 (some .long) wsX2_gainOf RX2 p s m ([.ref (g.2.2.1 2), .int x1] : List Value).toArray meth c := ⟨⟨hx, hb, hr, hml, hown, hts, hlk⟩, hK, hP⟩
  have hl := lv_entry [.ref (g.2.2.1 2), .int x1] (n := 12) (Nat.le_of_ble_eq_true rfl)
  rw [lg_entry_eq]
  generalize (lg_sl [.ref (g.2.2.1 2), .int x1] ++ List.replicate (12 - (lg_sl [.ref (g.2.2.1 2), .int x1]).length) Slot.unset).toArray = ls at hl ⊢
  have hl : lv_has ls 12 [(0, .ref (g.2.2.1 2)), (1, .int x1)] := hl
  unfold f_X2_gainOf at hf
  refine lv_lconst (v := 0) (pc := 0) hx hb dX2_gainOf_0 (by decide) ?_
  refine lv_lstore_n (lv' := [(2, .long 0), (0, .ref (g.2.2.1 2)), (1, .int x1)]) (pc := 1) hx hb dX2_gainOf_1 rfl hl (by decide) rfl (fun ls hl => ?_)
  refine lv_lconst (v := 0) (pc := 2) hx hb dX2_gainOf_2 (by decide) ?_
  refine lv_lstore (lv' := [(4, .long 0), (2, .long 0), (0, .ref (g.2.2.1 2)), (1, .int x1)]) (pc := 3) hx hb dX2_gainOf_3 hl (by decide) rfl (fun ls hl => ?_)
  refine lv_lconst (v := 0) (pc := 5) hx hb dX2_gainOf_5 (by decide) ?_
  refine lv_lstore (lv' := [(6, .long 0), (4, .long 0), (2, .long 0), (0, .ref (g.2.2.1 2)), (1, .int x1)]) (pc := 6) hx hb dX2_gainOf_6 hl (by decide) rfl (fun ls hl => ?_)
  refine lv_iconst (v := 0) (pc := 8) hx hb dX2_gainOf_8 (by decide) ?_
  refine lv_istore (lv' := [(8, .int 0), (6, .long 0), (4, .long 0), (2, .long 0), (0, .ref (g.2.2.1 2)), (1, .int x1)]) (pc := 9) hx hb dX2_gainOf_9 hl (by decide) rfl (fun ls hl => ?_)
  exact w_X2_gainOf_11 C  N ls x1 0 0 0 0 (lv_sub hl [4, 5, 3, 2, 1, 0] rfl) hf
theorem q_X2_best_0 : (.fieldLink RX2 37 "PictureCourt$Odds" "size" "I" : Cond) ∈ wsX2_best := by decide +kernel
theorem q_X2_best_1 : (.fieldLink RX2 15 "PictureCourt$Odds" "costs" "[I" : Cond) ∈ wsX2_best := by decide +kernel
theorem q_X2_best_2 : (.fieldLink RX2 18 "PictureCourt$Odds" "wounds" "[I" : Cond) ∈ wsX2_best := by decide +kernel
theorem h_X2_best : yX2_best.cls = RX2 ∧ yX2_best.cls ≠ "java/lang/invoke/MethodHandle" ∧ yX2_best.cls ≠ "java/lang/invoke/VarHandle" ∧ (parseMethodDescriptor yX2_best.desc).map (fun d => d.parameters.length) = some 2 := by decide +kernel
set_option maxHeartbeats 4000000 in
set_option maxRecDepth 100000 in
theorem w_X2_best_102 {p : Program} {l : Launch} {e : Env} {s : State} {m : MethodId} {args : Array Value} {below : List Frame} {meth : Method} {c : Code} {g : En} {N : Nat} {S2 : St} {res : Int32} (C : cxr g (wd_2 g S2) cX2_best 9 (some .int) wsX2_best RX2 p s m args meth c) (k9 : Int32 → Int32 → Int32 → Int64 → Int32 → Option (Int32)) (H9 : ∀ (ls : Array Slot) (x1 : Int32) (x2 : Int32) (x3 : Int32) (x4 : Int64) (x6 : Int32), lv_has ls 9 [(0, .ref (g.2.2.1 2)), (1, .int x1), (2, .int x2), (3, .int x3), (4, .long x4), (6, .int x6)] → k9 x1 x2 x3 x4 x6 = some res → W p l e (headSpec wsX2_best { frames := 2, cells := 0, slots := 0, locals := 56 }).room s m args below meth c s.heap [] 0 0 (MQ below (vp_Si (fun r => r = res)) args s 0 0 (fun _ => False)) (F0 m 9 ls [])) : ∀ (ls : Array Slot) (x1 : Int32) (x2 : Int32) (x3 : Int32) (x4 : Int64) (x6 : Int32), lv_has ls 9 [(0, .ref (g.2.2.1 2)), (1, .int x1), (2, .int x2), (3, .int x3), (4, .long x4), (6, .int x6)] → f_X2_best_102 N S2 k9 x1 x2 x3 x4 x6 = some res → W p l e (headSpec wsX2_best { frames := 2, cells := 0, slots := 0, locals := 56 }).room s m args below meth c s.heap [] 0 0 (MQ below (vp_Si (fun r => r = res)) args s 0 0 (fun _ => False)) (F0 m 102 ls []) := by
  intro ls x1 x2 x3 x4 x6 hl hf
  obtain ⟨⟨hx, hb, hr, hml, hown, hts, hlk⟩, hK, hP⟩ := id C
  unfold f_X2_best_102 at hf
  refine lv_iinc (v := (x6 + 1)) (lv' := [(6, .int (x6 + 1)), (0, .ref (g.2.2.1 2)), (1, .int x1), (2, .int x2), (3, .int x3), (4, .long x4)]) (pc := 102) hx hb dX2_best_102 hl (k := 5) rfl rfl (by decide) rfl (fun ls hl => ?_)
  refine lv_goto (tgt := 9) (pc := 105) hx hb dX2_best_105 (by decide) ?_
  exact H9 ls x1 x2 x3 x4 (x6 + 1) (lv_sub hl [1, 2, 3, 4, 5, 0] rfl) hf
set_option maxHeartbeats 4000000 in
set_option maxRecDepth 100000 in
theorem w_X2_best_95 {p : Program} {l : Launch} {e : Env} {s : State} {m : MethodId} {args : Array Value} {below : List Frame} {meth : Method} {c : Code} {g : En} {N : Nat} {S2 : St} {res : Int32} (C : cxr g (wd_2 g S2) cX2_best 9 (some .int) wsX2_best RX2 p s m args meth c) (k9 : Int32 → Int32 → Int32 → Int64 → Int32 → Option (Int32)) (H9 : ∀ (ls : Array Slot) (x1 : Int32) (x2 : Int32) (x3 : Int32) (x4 : Int64) (x6 : Int32), lv_has ls 9 [(0, .ref (g.2.2.1 2)), (1, .int x1), (2, .int x2), (3, .int x3), (4, .long x4), (6, .int x6)] → k9 x1 x2 x3 x4 x6 = some res → W p l e (headSpec wsX2_best { frames := 2, cells := 0, slots := 0, locals := 56 }).room s m args below meth c s.heap [] 0 0 (MQ below (vp_Si (fun r => r = res)) args s 0 0 (fun _ => False)) (F0 m 9 ls [])) : ∀ (ls : Array Slot) (x1 : Int32) (x2 : Int32) (x6 : Int32) (x7 : Int64), lv_has ls 9 [(0, .ref (g.2.2.1 2)), (1, .int x1), (2, .int x2), (6, .int x6), (7, .long x7)] → f_X2_best_95 N S2 k9 x1 x2 x6 x7 = some res → W p l e (headSpec wsX2_best { frames := 2, cells := 0, slots := 0, locals := 56 }).room s m args below meth c s.heap [] 0 0 (MQ below (vp_Si (fun r => r = res)) args s 0 0 (fun _ => False)) (F0 m 95 ls []) := by
  intro ls x1 x2 x6 x7 hl hf
  obtain ⟨⟨hx, hb, hr, hml, hown, hts, hlk⟩, hK, hP⟩ := id C
  unfold f_X2_best_95 at hf
  refine lv_iload (pc := 95) hx hb dX2_best_95 (lv_at hl 3 rfl) ?_
  refine lv_istore_n (lv' := [(3, .int x6), (0, .ref (g.2.2.1 2)), (1, .int x1), (2, .int x2), (6, .int x6), (7, .long x7)]) (pc := 97) hx hb dX2_best_97 rfl hl (by decide) rfl (fun ls hl => ?_)
  refine lv_lload (pc := 98) hx hb dX2_best_98 (lv_at hl 5 rfl) ?_
  refine lv_lstore (lv' := [(4, .long x7), (3, .int x6), (0, .ref (g.2.2.1 2)), (1, .int x1), (2, .int x2), (6, .int x6), (7, .long x7)]) (pc := 100) hx hb dX2_best_100 hl (by decide) rfl (fun ls hl => ?_)
  exact w_X2_best_102 C k9 H9 ls x1 x2 x6 x7 x6 (lv_sub hl [2, 3, 4, 1, 0, 5] rfl) hf
set_option maxHeartbeats 4000000 in
set_option maxRecDepth 100000 in
theorem w_X2_best_9_b {p : Program} {l : Launch} {e : Env} {s : State} {m : MethodId} {args : Array Value} {below : List Frame} {meth : Method} {c : Code} {g : En} {N : Nat} {S2 : St} {res : Int32} (C : cxr g (wd_2 g S2) cX2_best 9 (some .int) wsX2_best RX2 p s m args meth c) (k9 : Int32 → Int32 → Int32 → Int64 → Int32 → Option (Int32)) (H9 : ∀ (ls : Array Slot) (x1 : Int32) (x2 : Int32) (x3 : Int32) (x4 : Int64) (x6 : Int32), lv_has ls 9 [(0, .ref (g.2.2.1 2)), (1, .int x1), (2, .int x2), (3, .int x3), (4, .long x4), (6, .int x6)] → k9 x1 x2 x3 x4 x6 = some res → W p l e (headSpec wsX2_best { frames := 2, cells := 0, slots := 0, locals := 56 }).room s m args below meth c s.heap [] 0 0 (MQ below (vp_Si (fun r => r = res)) args s 0 0 (fun _ => False)) (F0 m 9 ls [])) : ∀ (ls : Array Slot) (x1 : Int32) (x2 : Int32) (x3 : Int32) (x4 : Int64) (x6 : Int32), lv_has ls 9 [(0, .ref (g.2.2.1 2)), (1, .int x1), (2, .int x2), (3, .int x3), (4, .long x4), (6, .int x6)] → f_X2_best_9_b N S2  k9 x1 x2 x3 x4 x6 = some res → W p l e (headSpec wsX2_best { frames := 2, cells := 0, slots := 0, locals := 56 }).room s m args below meth c s.heap [] 0 0 (MQ below (vp_Si (fun r => r = res)) args s 0 0 (fun _ => False)) (F0 m 9 ls []) := by
  intro ls x1 x2 x3 x4 x6 hl hf
  obtain ⟨⟨hx, hb, hr, hml, hown, hts, hlk⟩, hK, hP⟩ := id C
  unfold f_X2_best_9_b at hf
  refine lv_iload (pc := 9) hx hb dX2_best_9 (lv_at hl 5 rfl) ?_
  refine lv_aload_n (pc := 11) hx hb dX2_best_11 rfl (lv_at hl 0 rfl) ?_
  refine va_get (D := g.1) (ci := 2) (v := .int (S2.1 8)) (C := RX2) (T := TX2) (N := 10) (pc := 12) hx hb hts (fun _ h => List.mem_cons_of_mem _ (List.mem_append_right _ h)) hown hK hP 0 rfl rfl 8 (by decide) (hts _ q_X2_best_0) (fun _ h9 => h9) rfl dX2_best_12 ?_
  refine lv_icmp_ge (tgt := 108) (pc := 15) hx hb dX2_best_15 (by decide) (fun c15 => ?_) (fun c15 => ?_)
  · have hf := ft hf c15
    refine lv_iload_n (pc := 108) hx hb dX2_best_108 rfl (lv_at hl 3 rfl) ?_
    have hf := Option.some.inj hf
    subst hf
    exact W.iret (v := x3) hx hb hr (fun t ht hW => ⟨_, rfl, rfl, ht⟩) (fun _ h => by cases h) dX2_best_109
  · have hf := ff hf c15
    refine lv_aload_n (pc := 18) hx hb dX2_best_18 rfl (lv_at hl 0 rfl) ?_
    refine lv_iload (pc := 19) hx hb dX2_best_19 (lv_at hl 5 rfl) ?_
    obtain ⟨r21, e21, hf⟩ := bdE hf
    refine krI (g := g) (wc := (wd_2 g S2)) (pc := 21) (As := [.int x6]) (rest := []) ⟨hx, hb, hml, hown, hts⟩ (c_X2_isOpen l g N S2 x6 r21 e21) (cwV 1 hts gX2_best_X2_isOpen rfl rfl rfl h_X2_isOpen ⟨Nat.le_of_ble_eq_true rfl, Nat.le_of_ble_eq_true rfl⟩) hK hP rfl rfl rfl hl.1 rfl (Nat.le_of_ble_eq_true rfl) dX2_best_21 ⟨Nat.zero_le _, Nat.zero_le _⟩ ?_
    refine lv_if_eq (tgt := 102) (pc := 24) hx hb dX2_best_24 (by decide) (fun c24 => ?_) (fun c24 => ?_)
    · have hf := ft hf c24
      exact w_X2_best_102 C k9 H9 ls x1 x2 x3 x4 x6 (lv_sub hl [0, 1, 2, 3, 4, 5] rfl) hf
    · have hf := ff hf c24
      refine lv_aload_n (pc := 27) hx hb dX2_best_27 rfl (lv_at hl 0 rfl) ?_
      refine va_get (D := g.1) (ci := 2) (v := .ref (g.2.2.2 2 1)) (C := RX2) (T := TX2) (N := 10) (pc := 28) hx hb hts (fun _ h => List.mem_cons_of_mem _ (List.mem_append_right _ h)) hown hK hP 0 rfl rfl 1 (by decide) (hts _ q_X2_best_1) (fun _ h9 => h9) rfl dX2_best_28 ?_
      refine lv_iload (pc := 31) hx hb dX2_best_31 (lv_at hl 5 rfl) ?_
      obtain ⟨b33, hf⟩ := gdE hf
      refine va_iald (D := g.1) (tys := tyl g) (f := (S2.2.2 1)) (pc := 33) hx hb hK hP 2 0 rfl rfl (inbV b33) dX2_best_33 ?_
      refine lv_iload_n (pc := 34) hx hb dX2_best_34 rfl (lv_at hl 1 rfl) ?_
      refine lv_icmp_gt (tgt := 102) (pc := 35) hx hb dX2_best_35 (by decide) (fun c35 => ?_) (fun c35 => ?_)
      · have hf := ft hf c35
        exact w_X2_best_102 C k9 H9 ls x1 x2 x3 x4 x6 (lv_sub hl [0, 1, 2, 3, 4, 5] rfl) hf
      · have hf := ff hf c35
        refine lv_aload_n (pc := 38) hx hb dX2_best_38 rfl (lv_at hl 0 rfl) ?_
        refine va_get (D := g.1) (ci := 2) (v := .ref (g.2.2.2 2 2)) (C := RX2) (T := TX2) (N := 10) (pc := 39) hx hb hts (fun _ h => List.mem_cons_of_mem _ (List.mem_append_right _ h)) hown hK hP 0 rfl rfl 2 (by decide) (hts _ q_X2_best_2) (fun _ h9 => h9) rfl dX2_best_39 ?_
        refine lv_iload (pc := 42) hx hb dX2_best_42 (lv_at hl 5 rfl) ?_
        obtain ⟨b44, hf⟩ := gdE hf
        refine va_iald (D := g.1) (tys := tyl g) (f := (S2.2.2 2)) (pc := 44) hx hb hK hP 3 0 rfl rfl (inbV b44) dX2_best_44 ?_
        refine lv_iload_n (pc := 45) hx hb dX2_best_45 rfl (lv_at hl 2 rfl) ?_
        refine lv_icmp_gt (tgt := 102) (pc := 46) hx hb dX2_best_46 (by decide) (fun c46 => ?_) (fun c46 => ?_)
        · have hf := ft hf c46
          exact w_X2_best_102 C k9 H9 ls x1 x2 x3 x4 x6 (lv_sub hl [0, 1, 2, 3, 4, 5] rfl) hf
        · have hf := ff hf c46
          refine lv_aload_n (pc := 49) hx hb dX2_best_49 rfl (lv_at hl 0 rfl) ?_
          refine lv_iload (pc := 50) hx hb dX2_best_50 (lv_at hl 5 rfl) ?_
          obtain ⟨r52, e52, hf⟩ := bdE hf
          refine krL (g := g) (wc := (wd_2 g S2)) (pc := 52) (As := [.int x6]) (rest := []) ⟨hx, hb, hml, hown, hts⟩ (c_X2_gainOf l g N S2 x6 r52 e52) (cwV 1 hts gX2_best_X2_gainOf rfl rfl rfl h_X2_gainOf ⟨Nat.le_of_ble_eq_true rfl, Nat.le_of_ble_eq_true rfl⟩) hK hP rfl rfl rfl hl.1 rfl (Nat.le_of_ble_eq_true rfl) dX2_best_52 ⟨Nat.zero_le _, Nat.zero_le _⟩ ?_
          refine lv_lstore (lv' := [(7, .long r52), (0, .ref (g.2.2.1 2)), (1, .int x1), (2, .int x2), (3, .int x3), (4, .long x4), (6, .int x6)]) (pc := 55) hx hb dX2_best_55 hl (by decide) rfl (fun ls hl => ?_)
          refine lv_iload_n (pc := 57) hx hb dX2_best_57 rfl (lv_at hl 4 rfl) ?_
          refine lv_bipush (v := (-9)) (pc := 58) hx hb dX2_best_58 (by decide) ?_
          refine lv_icmp_eq (tgt := 95) (pc := 60) hx hb dX2_best_60 (by decide) (fun c60 => ?_) (fun c60 => ?_)
          · have hf := ft hf c60
            exact w_X2_best_95 C k9 H9 ls x1 x2 x6 r52 (lv_sub hl [1, 2, 3, 6, 0] rfl) hf
          · have hf := ff hf c60
            refine lv_lload (pc := 63) hx hb dX2_best_63 (lv_at hl 0 rfl) ?_
            refine lv_lload (pc := 65) hx hb dX2_best_65 (lv_at hl 5 rfl) ?_
            refine W.lcmp (pc := 67) hx hb dX2_best_67 ?_
            refine lv_if_gt (tgt := 95) (pc := 68) hx hb dX2_best_68 (by decide) (fun c68 => ?_) (fun c68 => ?_)
            · have hf := ft hf c68
              exact w_X2_best_95 C k9 H9 ls x1 x2 x6 r52 (lv_sub hl [1, 2, 3, 6, 0] rfl) hf
            · have hf := ff hf c68
              refine lv_lload (pc := 71) hx hb dX2_best_71 (lv_at hl 0 rfl) ?_
              refine lv_lload (pc := 73) hx hb dX2_best_73 (lv_at hl 5 rfl) ?_
              refine W.lcmp (pc := 75) hx hb dX2_best_75 ?_
              refine lv_if_ne (tgt := 102) (pc := 76) hx hb dX2_best_76 (by decide) (fun c76 => ?_) (fun c76 => ?_)
              · have hf := ff hf c76
                exact w_X2_best_102 C k9 H9 ls x1 x2 x3 x4 x6 (lv_sub hl [1, 2, 3, 4, 5, 6] rfl) hf
              · have hf := ft hf c76
                refine lv_aload_n (pc := 79) hx hb dX2_best_79 rfl (lv_at hl 1 rfl) ?_
                refine va_get (D := g.1) (ci := 2) (v := .ref (g.2.2.2 2 1)) (C := RX2) (T := TX2) (N := 10) (pc := 80) hx hb hts (fun _ h => List.mem_cons_of_mem _ (List.mem_append_right _ h)) hown hK hP 0 rfl rfl 1 (by decide) (hts _ q_X2_best_1) (fun _ h9 => h9) rfl dX2_best_80 ?_
                refine lv_iload (pc := 83) hx hb dX2_best_83 (lv_at hl 6 rfl) ?_
                obtain ⟨b85, hf⟩ := gdE hf
                refine va_iald (D := g.1) (tys := tyl g) (f := (S2.2.2 1)) (pc := 85) hx hb hK hP 2 0 rfl rfl (inbV b85) dX2_best_85 ?_
                refine lv_aload_n (pc := 86) hx hb dX2_best_86 rfl (lv_at hl 1 rfl) ?_
                refine va_get (D := g.1) (ci := 2) (v := .ref (g.2.2.2 2 1)) (C := RX2) (T := TX2) (N := 10) (pc := 87) hx hb hts (fun _ h => List.mem_cons_of_mem _ (List.mem_append_right _ h)) hown hK hP 0 rfl rfl 1 (by decide) (hts _ q_X2_best_1) (fun _ h9 => h9) rfl dX2_best_87 ?_
                refine lv_iload_n (pc := 90) hx hb dX2_best_90 rfl (lv_at hl 4 rfl) ?_
                obtain ⟨b91, hf⟩ := gdE hf
                refine va_iald (D := g.1) (tys := tyl g) (f := (S2.2.2 1)) (pc := 91) hx hb hK hP 2 0 rfl rfl (inbV b91) dX2_best_91 ?_
                refine lv_icmp_ge (tgt := 102) (pc := 92) hx hb dX2_best_92 (by decide) (fun c92 => ?_) (fun c92 => ?_)
                · have hf := ft hf c92
                  exact w_X2_best_102 C k9 H9 ls x1 x2 x3 x4 x6 (lv_sub hl [1, 2, 3, 4, 5, 6] rfl) hf
                · have hf := ff hf c92
                  exact w_X2_best_95 C k9 H9 ls x1 x2 x6 r52 (lv_sub hl [1, 2, 3, 6, 0] rfl) hf
set_option maxHeartbeats 4000000 in
set_option maxRecDepth 100000 in
theorem w_X2_best_9 {p : Program} {l : Launch} {e : Env} {s : State} {m : MethodId} {args : Array Value} {below : List Frame} {meth : Method} {c : Code} {g : En} {N : Nat} {S2 : St} {res : Int32} (C : cxr g (wd_2 g S2) cX2_best 9 (some .int) wsX2_best RX2 p s m args meth c) : ∀ (n : Nat), ∀ (ls : Array Slot) (x1 : Int32) (x2 : Int32) (x3 : Int32) (x4 : Int64) (x6 : Int32), lv_has ls 9 [(0, .ref (g.2.2.1 2)), (1, .int x1), (2, .int x2), (3, .int x3), (4, .long x4), (6, .int x6)] → f_X2_best_9 N S2  n x1 x2 x3 x4 x6 = some res → W p l e (headSpec wsX2_best { frames := 2, cells := 0, slots := 0, locals := 56 }).room s m args below meth c s.heap [] 0 0 (MQ below (vp_Si (fun r => r = res)) args s 0 0 (fun _ => False)) (F0 m 9 ls []) := by
  intro n
  induction n with
  | zero =>
    intro ls x1 x2 x3 x4 x6 hl hf
    have hf : (none : Option (Int32)) = some res := hf
    cases hf
  | succ n ih =>
    intro ls x1 x2 x3 x4 x6 hl hf
    exact w_X2_best_9_b C  (fun y0 y1 y2 y3 y4 => f_X2_best_9 N S2  n y0 y1 y2 y3 y4) ih ls x1 x2 x3 x4 x6 hl hf
set_option maxHeartbeats 4000000 in
set_option maxRecDepth 100000 in
theorem c_X2_best (l : Launch) (g : En) (N : Nat) (S2 : St) (x1 : Int32) (x2 : Int32) (res : Int32) (hf : f_X2_best N S2 x1 x2 = some res) : Met l yX2_best wsX2_best { frames := 2, cells := 0, slots := 0, locals := 56 } (roP g (wd_2 g S2) [.ref (g.2.2.1 2), .int x1, .int x2]) (vp_Si (fun r => r = res)) 0 0 (fun _ => False) := by
  refine Met.ofW (cc := cX2_best) (maxL := 9) (ret := (some .int)) (by decide) rfl ?_
  intro p e s m args below meth c s₁ B hml hv
  obtain ⟨rfl, hP, hK⟩ := hv
  have hx := B.exec
  have hb := B.bytes
  have hr := B.returns
  have hts := atoms_spec (ws := wsX2_best) B.pre
  have hown : s.vm.findClass RX2 = some m.cls := findClass_of_methodNamed B.named
  have hlk := B.notSynchronized
  have C : cxr g (wd_2 g S2) cX2_best 9 (some .int) wsX2_best RX2 p s m ([.ref (g.2.2.1 2), .int x1, .int x2] : List Value).toArray meth c := ⟨⟨hx, hb, hr, hml, hown, hts, hlk⟩, hK, hP⟩
  have hl := lv_entry [.ref (g.2.2.1 2), .int x1, .int x2] (n := 9) (Nat.le_of_ble_eq_true rfl)
  rw [lg_entry_eq]
  generalize (lg_sl [.ref (g.2.2.1 2), .int x1, .int x2] ++ List.replicate (9 - (lg_sl [.ref (g.2.2.1 2), .int x1, .int x2]).length) Slot.unset).toArray = ls at hl ⊢
  have hl : lv_has ls 9 [(0, .ref (g.2.2.1 2)), (1, .int x1), (2, .int x2)] := hl
  unfold f_X2_best at hf
  refine lv_bipush (v := (-9)) (pc := 0) hx hb dX2_best_0 (by decide) ?_
  refine lv_istore_n (lv' := [(3, .int (-9)), (0, .ref (g.2.2.1 2)), (1, .int x1), (2, .int x2)]) (pc := 2) hx hb dX2_best_2 rfl hl (by decide) rfl (fun ls hl => ?_)
  refine lv_lconst (v := 0) (pc := 3) hx hb dX2_best_3 (by decide) ?_
  refine lv_lstore (lv' := [(4, .long 0), (3, .int (-9)), (0, .ref (g.2.2.1 2)), (1, .int x1), (2, .int x2)]) (pc := 4) hx hb dX2_best_4 hl (by decide) rfl (fun ls hl => ?_)
  refine lv_iconst (v := 0) (pc := 6) hx hb dX2_best_6 (by decide) ?_
  refine lv_istore (lv' := [(6, .int 0), (4, .long 0), (3, .int (-9)), (0, .ref (g.2.2.1 2)), (1, .int x1), (2, .int x2)]) (pc := 7) hx hb dX2_best_7 hl (by decide) rfl (fun ls hl => ?_)
  exact w_X2_best_9 C  N ls x1 x2 (-9) 0 0 (lv_sub hl [3, 4, 5, 2, 1, 0] rfl) hf
theorem q_X2_mixInto_0 : (.constantLong RX2 69 31 : Cond) ∈ wsX2_mixInto := by decide +kernel
theorem q_X2_mixInto_1 : (.fieldLink RX2 27 "PictureCourt$Odds" "results" "[I" : Cond) ∈ wsX2_mixInto := by decide +kernel
theorem q_X2_mixInto_2 : (.fieldLink RX2 24 "PictureCourt$Odds" "oftens" "[I" : Cond) ∈ wsX2_mixInto := by decide +kernel
theorem q_X2_mixInto_3 : (.fieldLink RX2 37 "PictureCourt$Odds" "size" "I" : Cond) ∈ wsX2_mixInto := by decide +kernel
theorem q_X2_mixInto_4 : (.fieldLink RX2 15 "PictureCourt$Odds" "costs" "[I" : Cond) ∈ wsX2_mixInto := by decide +kernel
theorem q_X2_mixInto_5 : (.fieldLink RX2 18 "PictureCourt$Odds" "wounds" "[I" : Cond) ∈ wsX2_mixInto := by decide +kernel
theorem q_X2_mixInto_6 : (.fieldLink RX2 21 "PictureCourt$Odds" "groups" "[I" : Cond) ∈ wsX2_mixInto := by decide +kernel
theorem q_X2_mixInto_7 : (.fieldLink RX2 9 "PictureCourt$Odds" "handWeights" "[I" : Cond) ∈ wsX2_mixInto := by decide +kernel
theorem h_X2_mixInto : yX2_mixInto.cls = RX2 ∧ yX2_mixInto.cls ≠ "java/lang/invoke/MethodHandle" ∧ yX2_mixInto.cls ≠ "java/lang/invoke/VarHandle" ∧ (parseMethodDescriptor yX2_mixInto.desc).map (fun d => d.parameters.length) = some 1 := by decide +kernel
set_option maxHeartbeats 4000000 in
set_option maxRecDepth 100000 in
theorem w_X2_mixInto_82_b {p : Program} {l : Launch} {e : Env} {s : State} {m : MethodId} {args : Array Value} {below : List Frame} {meth : Method} {c : Code} {g : En} {N : Nat} {S2 : St} {res : Int64} (C : cxr g (wd_2 g S2) cX2_mixInto 5 (some .long) wsX2_mixInto RX2 p s m args meth c) (k29 : Int64 → Int32 → Option (Int64)) (H29 : ∀ (ls : Array Slot) (x1 : Int64) (x3 : Int32), lv_has ls 5 [(0, .ref (g.2.2.1 2)), (1, .long x1), (3, .int x3)] → k29 x1 x3 = some res → W p l e (headSpec wsX2_mixInto { frames := 0, cells := 0, slots := 0, locals := 0 }).room s m args below meth c s.heap [] 0 0 (MQ below (vp_Sl (fun r => r = res)) args s 0 0 (fun _ => False)) (F0 m 29 ls [])) (k82 : Int64 → Int32 → Int32 → Option (Int64)) (H82 : ∀ (ls : Array Slot) (x1 : Int64) (x3 : Int32) (x4 : Int32), lv_has ls 5 [(0, .ref (g.2.2.1 2)), (1, .long x1), (3, .int x3), (4, .int x4)] → k82 x1 x3 x4 = some res → W p l e (headSpec wsX2_mixInto { frames := 0, cells := 0, slots := 0, locals := 0 }).room s m args below meth c s.heap [] 0 0 (MQ below (vp_Sl (fun r => r = res)) args s 0 0 (fun _ => False)) (F0 m 82 ls [])) : ∀ (ls : Array Slot) (x1 : Int64) (x3 : Int32) (x4 : Int32), lv_has ls 5 [(0, .ref (g.2.2.1 2)), (1, .long x1), (3, .int x3), (4, .int x4)] → f_X2_mixInto_82_b N S2 k29 k82 x1 x3 x4 = some res → W p l e (headSpec wsX2_mixInto { frames := 0, cells := 0, slots := 0, locals := 0 }).room s m args below meth c s.heap [] 0 0 (MQ below (vp_Sl (fun r => r = res)) args s 0 0 (fun _ => False)) (F0 m 82 ls []) := by
  intro ls x1 x3 x4 hl hf
  obtain ⟨⟨hx, hb, hr, hml, hown, hts, hlk⟩, hK, hP⟩ := id C
  unfold f_X2_mixInto_82_b at hf
  refine lv_iload (pc := 82) hx hb dX2_mixInto_82 (lv_at hl 3 rfl) ?_
  refine lv_iconst (v := 4) (pc := 84) hx hb dX2_mixInto_84 (by decide) ?_
  refine lv_icmp_ge (tgt := 113) (pc := 85) hx hb dX2_mixInto_85 (by decide) (fun c85 => ?_) (fun c85 => ?_)
  · have hf := ft hf c85
    refine lv_ldc2 (v := 31) (pc := 113) hx hb hown (hts _ q_X2_mixInto_0) dX2_mixInto_113 ?_
    refine lv_lload_n (pc := 116) hx hb dX2_mixInto_116 rfl (lv_at hl 1 rfl) ?_
    refine lv_lmul (pc := 117) hx hb dX2_mixInto_117 ?_
    refine lv_aload_n (pc := 118) hx hb dX2_mixInto_118 rfl (lv_at hl 0 rfl) ?_
    refine va_get (D := g.1) (ci := 2) (v := .ref (g.2.2.2 2 5)) (C := RX2) (T := TX2) (N := 10) (pc := 119) hx hb hts (fun _ h => List.mem_cons_of_mem _ (List.mem_append_right _ h)) hown hK hP 0 rfl rfl 5 (by decide) (hts _ q_X2_mixInto_1) (fun _ h9 => h9) rfl dX2_mixInto_119 ?_
    refine lv_iload_n (pc := 122) hx hb dX2_mixInto_122 rfl (lv_at hl 2 rfl) ?_
    obtain ⟨b123, hf⟩ := gdE hf
    refine va_iald (D := g.1) (tys := tyl g) (f := (S2.2.2 5)) (pc := 123) hx hb hK hP 6 0 rfl rfl (inbV b123) dX2_mixInto_123 ?_
    refine lv_i2l (pc := 124) hx hb dX2_mixInto_124 rfl ?_
    refine lv_ladd (pc := 125) hx hb dX2_mixInto_125 ?_
    refine lv_lstore_n (lv' := [(1, .long ((31 * x1) + (Int32.toInt64 ((S2.2.2 5) (Int32.toNatClampNeg x3))))), (0, .ref (g.2.2.1 2)), (3, .int x3), (4, .int x4)]) (pc := 126) hx hb dX2_mixInto_126 rfl hl (by decide) rfl (fun ls hl => ?_)
    refine lv_iinc (v := (x3 + 1)) (lv' := [(3, .int (x3 + 1)), (1, .long ((31 * x1) + (Int32.toInt64 ((S2.2.2 5) (Int32.toNatClampNeg x3))))), (0, .ref (g.2.2.1 2)), (4, .int x4)]) (pc := 127) hx hb dX2_mixInto_127 hl (k := 2) rfl rfl (by decide) rfl (fun ls hl => ?_)
    refine lv_goto (tgt := 29) (pc := 130) hx hb dX2_mixInto_130 (by decide) ?_
    exact H29 ls ((31 * x1) + (Int32.toInt64 ((S2.2.2 5) (Int32.toNatClampNeg x3)))) (x3 + 1) (lv_sub hl [2, 1, 0] rfl) hf
  · have hf := ff hf c85
    refine lv_ldc2 (v := 31) (pc := 88) hx hb hown (hts _ q_X2_mixInto_0) dX2_mixInto_88 ?_
    refine lv_lload_n (pc := 91) hx hb dX2_mixInto_91 rfl (lv_at hl 1 rfl) ?_
    refine lv_lmul (pc := 92) hx hb dX2_mixInto_92 ?_
    refine lv_aload_n (pc := 93) hx hb dX2_mixInto_93 rfl (lv_at hl 0 rfl) ?_
    refine va_get (D := g.1) (ci := 2) (v := .ref (g.2.2.2 2 4)) (C := RX2) (T := TX2) (N := 10) (pc := 94) hx hb hts (fun _ h => List.mem_cons_of_mem _ (List.mem_append_right _ h)) hown hK hP 0 rfl rfl 4 (by decide) (hts _ q_X2_mixInto_2) (fun _ h9 => h9) rfl dX2_mixInto_94 ?_
    refine lv_iload_n (pc := 97) hx hb dX2_mixInto_97 rfl (lv_at hl 2 rfl) ?_
    refine lv_iconst (v := 4) (pc := 98) hx hb dX2_mixInto_98 (by decide) ?_
    refine lv_imul (pc := 99) hx hb dX2_mixInto_99 ?_
    refine lv_iload (pc := 100) hx hb dX2_mixInto_100 (lv_at hl 3 rfl) ?_
    refine lv_iadd (pc := 102) hx hb dX2_mixInto_102 ?_
    obtain ⟨b103, hf⟩ := gdE hf
    refine va_iald (D := g.1) (tys := tyl g) (f := (S2.2.2 4)) (pc := 103) hx hb hK hP 5 0 rfl rfl (inbV b103) dX2_mixInto_103 ?_
    refine lv_i2l (pc := 104) hx hb dX2_mixInto_104 rfl ?_
    refine lv_ladd (pc := 105) hx hb dX2_mixInto_105 ?_
    refine lv_lstore_n (lv' := [(1, .long ((31 * x1) + (Int32.toInt64 ((S2.2.2 4) (Int32.toNatClampNeg ((x3 * 4) + x4)))))), (0, .ref (g.2.2.1 2)), (3, .int x3), (4, .int x4)]) (pc := 106) hx hb dX2_mixInto_106 rfl hl (by decide) rfl (fun ls hl => ?_)
    refine lv_iinc (v := (x4 + 1)) (lv' := [(4, .int (x4 + 1)), (1, .long ((31 * x1) + (Int32.toInt64 ((S2.2.2 4) (Int32.toNatClampNeg ((x3 * 4) + x4)))))), (0, .ref (g.2.2.1 2)), (3, .int x3)]) (pc := 107) hx hb dX2_mixInto_107 hl (k := 3) rfl rfl (by decide) rfl (fun ls hl => ?_)
    refine lv_goto (tgt := 82) (pc := 110) hx hb dX2_mixInto_110 (by decide) ?_
    exact H82 ls ((31 * x1) + (Int32.toInt64 ((S2.2.2 4) (Int32.toNatClampNeg ((x3 * 4) + x4))))) x3 (x4 + 1) (lv_sub hl [2, 1, 3, 0] rfl) hf
set_option maxHeartbeats 4000000 in
set_option maxRecDepth 100000 in
theorem w_X2_mixInto_82 {p : Program} {l : Launch} {e : Env} {s : State} {m : MethodId} {args : Array Value} {below : List Frame} {meth : Method} {c : Code} {g : En} {N : Nat} {S2 : St} {res : Int64} (C : cxr g (wd_2 g S2) cX2_mixInto 5 (some .long) wsX2_mixInto RX2 p s m args meth c) (k29 : Int64 → Int32 → Option (Int64)) (H29 : ∀ (ls : Array Slot) (x1 : Int64) (x3 : Int32), lv_has ls 5 [(0, .ref (g.2.2.1 2)), (1, .long x1), (3, .int x3)] → k29 x1 x3 = some res → W p l e (headSpec wsX2_mixInto { frames := 0, cells := 0, slots := 0, locals := 0 }).room s m args below meth c s.heap [] 0 0 (MQ below (vp_Sl (fun r => r = res)) args s 0 0 (fun _ => False)) (F0 m 29 ls [])) : ∀ (n : Nat), ∀ (ls : Array Slot) (x1 : Int64) (x3 : Int32) (x4 : Int32), lv_has ls 5 [(0, .ref (g.2.2.1 2)), (1, .long x1), (3, .int x3), (4, .int x4)] → f_X2_mixInto_82 N S2 k29 n x1 x3 x4 = some res → W p l e (headSpec wsX2_mixInto { frames := 0, cells := 0, slots := 0, locals := 0 }).room s m args below meth c s.heap [] 0 0 (MQ below (vp_Sl (fun r => r = res)) args s 0 0 (fun _ => False)) (F0 m 82 ls []) := by
  intro n
  induction n with
  | zero =>
    intro ls x1 x3 x4 hl hf
    have hf : (none : Option (Int64)) = some res := hf
    cases hf
  | succ n ih =>
    intro ls x1 x3 x4 hl hf
    exact w_X2_mixInto_82_b C k29 H29 (fun y0 y1 y2 => f_X2_mixInto_82 N S2 k29 n y0 y1 y2) ih ls x1 x3 x4 hl hf
set_option maxHeartbeats 4000000 in
set_option maxRecDepth 100000 in
theorem w_X2_mixInto_29_b {p : Program} {l : Launch} {e : Env} {s : State} {m : MethodId} {args : Array Value} {below : List Frame} {meth : Method} {c : Code} {g : En} {N : Nat} {S2 : St} {res : Int64} (C : cxr g (wd_2 g S2) cX2_mixInto 5 (some .long) wsX2_mixInto RX2 p s m args meth c) (k29 : Int64 → Int32 → Option (Int64)) (H29 : ∀ (ls : Array Slot) (x1 : Int64) (x3 : Int32), lv_has ls 5 [(0, .ref (g.2.2.1 2)), (1, .long x1), (3, .int x3)] → k29 x1 x3 = some res → W p l e (headSpec wsX2_mixInto { frames := 0, cells := 0, slots := 0, locals := 0 }).room s m args below meth c s.heap [] 0 0 (MQ below (vp_Sl (fun r => r = res)) args s 0 0 (fun _ => False)) (F0 m 29 ls [])) : ∀ (ls : Array Slot) (x1 : Int64) (x3 : Int32), lv_has ls 5 [(0, .ref (g.2.2.1 2)), (1, .long x1), (3, .int x3)] → f_X2_mixInto_29_b N S2  k29 x1 x3 = some res → W p l e (headSpec wsX2_mixInto { frames := 0, cells := 0, slots := 0, locals := 0 }).room s m args below meth c s.heap [] 0 0 (MQ below (vp_Sl (fun r => r = res)) args s 0 0 (fun _ => False)) (F0 m 29 ls []) := by
  intro ls x1 x3 hl hf
  obtain ⟨⟨hx, hb, hr, hml, hown, hts, hlk⟩, hK, hP⟩ := id C
  unfold f_X2_mixInto_29_b at hf
  refine lv_iload_n (pc := 29) hx hb dX2_mixInto_29 rfl (lv_at hl 2 rfl) ?_
  refine lv_aload_n (pc := 30) hx hb dX2_mixInto_30 rfl (lv_at hl 0 rfl) ?_
  refine va_get (D := g.1) (ci := 2) (v := .int (S2.1 8)) (C := RX2) (T := TX2) (N := 10) (pc := 31) hx hb hts (fun _ h => List.mem_cons_of_mem _ (List.mem_append_right _ h)) hown hK hP 0 rfl rfl 8 (by decide) (hts _ q_X2_mixInto_3) (fun _ h9 => h9) rfl dX2_mixInto_31 ?_
  refine lv_icmp_ge (tgt := 133) (pc := 34) hx hb dX2_mixInto_34 (by decide) (fun c34 => ?_) (fun c34 => ?_)
  · have hf := ft hf c34
    refine lv_lload_n (pc := 133) hx hb dX2_mixInto_133 rfl (lv_at hl 1 rfl) ?_
    have hf := Option.some.inj hf
    subst hf
    exact W.lret (v := x1) hx hb hr (fun t ht hW => ⟨_, rfl, rfl, ht⟩) (fun _ h => by cases h) dX2_mixInto_134
  · have hf := ff hf c34
    refine lv_ldc2 (v := 31) (pc := 37) hx hb hown (hts _ q_X2_mixInto_0) dX2_mixInto_37 ?_
    refine lv_lload_n (pc := 40) hx hb dX2_mixInto_40 rfl (lv_at hl 1 rfl) ?_
    refine lv_lmul (pc := 41) hx hb dX2_mixInto_41 ?_
    refine lv_aload_n (pc := 42) hx hb dX2_mixInto_42 rfl (lv_at hl 0 rfl) ?_
    refine va_get (D := g.1) (ci := 2) (v := .ref (g.2.2.2 2 1)) (C := RX2) (T := TX2) (N := 10) (pc := 43) hx hb hts (fun _ h => List.mem_cons_of_mem _ (List.mem_append_right _ h)) hown hK hP 0 rfl rfl 1 (by decide) (hts _ q_X2_mixInto_4) (fun _ h9 => h9) rfl dX2_mixInto_43 ?_
    refine lv_iload_n (pc := 46) hx hb dX2_mixInto_46 rfl (lv_at hl 2 rfl) ?_
    obtain ⟨b47, hf⟩ := gdE hf
    refine va_iald (D := g.1) (tys := tyl g) (f := (S2.2.2 1)) (pc := 47) hx hb hK hP 2 0 rfl rfl (inbV b47) dX2_mixInto_47 ?_
    refine lv_i2l (pc := 48) hx hb dX2_mixInto_48 rfl ?_
    refine lv_ladd (pc := 49) hx hb dX2_mixInto_49 ?_
    refine lv_lstore_n (lv' := [(1, .long ((31 * x1) + (Int32.toInt64 ((S2.2.2 1) (Int32.toNatClampNeg x3))))), (0, .ref (g.2.2.1 2)), (3, .int x3)]) (pc := 50) hx hb dX2_mixInto_50 rfl hl (by decide) rfl (fun ls hl => ?_)
    refine lv_ldc2 (v := 31) (pc := 51) hx hb hown (hts _ q_X2_mixInto_0) dX2_mixInto_51 ?_
    refine lv_lload_n (pc := 54) hx hb dX2_mixInto_54 rfl (lv_at hl 0 rfl) ?_
    refine lv_lmul (pc := 55) hx hb dX2_mixInto_55 ?_
    refine lv_aload_n (pc := 56) hx hb dX2_mixInto_56 rfl (lv_at hl 1 rfl) ?_
    refine va_get (D := g.1) (ci := 2) (v := .ref (g.2.2.2 2 2)) (C := RX2) (T := TX2) (N := 10) (pc := 57) hx hb hts (fun _ h => List.mem_cons_of_mem _ (List.mem_append_right _ h)) hown hK hP 0 rfl rfl 2 (by decide) (hts _ q_X2_mixInto_5) (fun _ h9 => h9) rfl dX2_mixInto_57 ?_
    refine lv_iload_n (pc := 60) hx hb dX2_mixInto_60 rfl (lv_at hl 2 rfl) ?_
    obtain ⟨b61, hf⟩ := gdE hf
    refine va_iald (D := g.1) (tys := tyl g) (f := (S2.2.2 2)) (pc := 61) hx hb hK hP 3 0 rfl rfl (inbV b61) dX2_mixInto_61 ?_
    refine lv_i2l (pc := 62) hx hb dX2_mixInto_62 rfl ?_
    refine lv_ladd (pc := 63) hx hb dX2_mixInto_63 ?_
    refine lv_lstore_n (lv' := [(1, .long ((31 * ((31 * x1) + (Int32.toInt64 ((S2.2.2 1) (Int32.toNatClampNeg x3))))) + (Int32.toInt64 ((S2.2.2 2) (Int32.toNatClampNeg x3))))), (0, .ref (g.2.2.1 2)), (3, .int x3)]) (pc := 64) hx hb dX2_mixInto_64 rfl hl (by decide) rfl (fun ls hl => ?_)
    refine lv_ldc2 (v := 31) (pc := 65) hx hb hown (hts _ q_X2_mixInto_0) dX2_mixInto_65 ?_
    refine lv_lload_n (pc := 68) hx hb dX2_mixInto_68 rfl (lv_at hl 0 rfl) ?_
    refine lv_lmul (pc := 69) hx hb dX2_mixInto_69 ?_
    refine lv_aload_n (pc := 70) hx hb dX2_mixInto_70 rfl (lv_at hl 1 rfl) ?_
    refine va_get (D := g.1) (ci := 2) (v := .ref (g.2.2.2 2 3)) (C := RX2) (T := TX2) (N := 10) (pc := 71) hx hb hts (fun _ h => List.mem_cons_of_mem _ (List.mem_append_right _ h)) hown hK hP 0 rfl rfl 3 (by decide) (hts _ q_X2_mixInto_6) (fun _ h9 => h9) rfl dX2_mixInto_71 ?_
    refine lv_iload_n (pc := 74) hx hb dX2_mixInto_74 rfl (lv_at hl 2 rfl) ?_
    obtain ⟨b75, hf⟩ := gdE hf
    refine va_iald (D := g.1) (tys := tyl g) (f := (S2.2.2 3)) (pc := 75) hx hb hK hP 4 0 rfl rfl (inbV b75) dX2_mixInto_75 ?_
    refine lv_i2l (pc := 76) hx hb dX2_mixInto_76 rfl ?_
    refine lv_ladd (pc := 77) hx hb dX2_mixInto_77 ?_
    refine lv_lstore_n (lv' := [(1, .long ((31 * ((31 * ((31 * x1) + (Int32.toInt64 ((S2.2.2 1) (Int32.toNatClampNeg x3))))) + (Int32.toInt64 ((S2.2.2 2) (Int32.toNatClampNeg x3))))) + (Int32.toInt64 ((S2.2.2 3) (Int32.toNatClampNeg x3))))), (0, .ref (g.2.2.1 2)), (3, .int x3)]) (pc := 78) hx hb dX2_mixInto_78 rfl hl (by decide) rfl (fun ls hl => ?_)
    refine lv_iconst (v := 0) (pc := 79) hx hb dX2_mixInto_79 (by decide) ?_
    refine lv_istore (lv' := [(4, .int 0), (1, .long ((31 * ((31 * ((31 * x1) + (Int32.toInt64 ((S2.2.2 1) (Int32.toNatClampNeg x3))))) + (Int32.toInt64 ((S2.2.2 2) (Int32.toNatClampNeg x3))))) + (Int32.toInt64 ((S2.2.2 3) (Int32.toNatClampNeg x3))))), (0, .ref (g.2.2.1 2)), (3, .int x3)]) (pc := 80) hx hb dX2_mixInto_80 hl (by decide) rfl (fun ls hl => ?_)
    exact w_X2_mixInto_82 C k29 H29 N ls ((31 * ((31 * ((31 * x1) + (Int32.toInt64 ((S2.2.2 1) (Int32.toNatClampNeg x3))))) + (Int32.toInt64 ((S2.2.2 2) (Int32.toNatClampNeg x3))))) + (Int32.toInt64 ((S2.2.2 3) (Int32.toNatClampNeg x3)))) x3 0 (lv_sub hl [2, 1, 3, 0] rfl) hf
set_option maxHeartbeats 4000000 in
set_option maxRecDepth 100000 in
theorem w_X2_mixInto_29 {p : Program} {l : Launch} {e : Env} {s : State} {m : MethodId} {args : Array Value} {below : List Frame} {meth : Method} {c : Code} {g : En} {N : Nat} {S2 : St} {res : Int64} (C : cxr g (wd_2 g S2) cX2_mixInto 5 (some .long) wsX2_mixInto RX2 p s m args meth c) : ∀ (n : Nat), ∀ (ls : Array Slot) (x1 : Int64) (x3 : Int32), lv_has ls 5 [(0, .ref (g.2.2.1 2)), (1, .long x1), (3, .int x3)] → f_X2_mixInto_29 N S2  n x1 x3 = some res → W p l e (headSpec wsX2_mixInto { frames := 0, cells := 0, slots := 0, locals := 0 }).room s m args below meth c s.heap [] 0 0 (MQ below (vp_Sl (fun r => r = res)) args s 0 0 (fun _ => False)) (F0 m 29 ls []) := by
  intro n
  induction n with
  | zero =>
    intro ls x1 x3 hl hf
    have hf : (none : Option (Int64)) = some res := hf
    cases hf
  | succ n ih =>
    intro ls x1 x3 hl hf
    exact w_X2_mixInto_29_b C  (fun y0 y1 => f_X2_mixInto_29 N S2  n y0 y1) ih ls x1 x3 hl hf
set_option maxHeartbeats 4000000 in
set_option maxRecDepth 100000 in
theorem w_X2_mixInto_2_b {p : Program} {l : Launch} {e : Env} {s : State} {m : MethodId} {args : Array Value} {below : List Frame} {meth : Method} {c : Code} {g : En} {N : Nat} {S2 : St} {res : Int64} (C : cxr g (wd_2 g S2) cX2_mixInto 5 (some .long) wsX2_mixInto RX2 p s m args meth c) (k2 : Int64 → Int32 → Option (Int64)) (H2 : ∀ (ls : Array Slot) (x1 : Int64) (x3 : Int32), lv_has ls 5 [(0, .ref (g.2.2.1 2)), (1, .long x1), (3, .int x3)] → k2 x1 x3 = some res → W p l e (headSpec wsX2_mixInto { frames := 0, cells := 0, slots := 0, locals := 0 }).room s m args below meth c s.heap [] 0 0 (MQ below (vp_Sl (fun r => r = res)) args s 0 0 (fun _ => False)) (F0 m 2 ls [])) : ∀ (ls : Array Slot) (x1 : Int64) (x3 : Int32), lv_has ls 5 [(0, .ref (g.2.2.1 2)), (1, .long x1), (3, .int x3)] → f_X2_mixInto_2_b N S2  k2 x1 x3 = some res → W p l e (headSpec wsX2_mixInto { frames := 0, cells := 0, slots := 0, locals := 0 }).room s m args below meth c s.heap [] 0 0 (MQ below (vp_Sl (fun r => r = res)) args s 0 0 (fun _ => False)) (F0 m 2 ls []) := by
  intro ls x1 x3 hl hf
  obtain ⟨⟨hx, hb, hr, hml, hown, hts, hlk⟩, hK, hP⟩ := id C
  unfold f_X2_mixInto_2_b at hf
  refine lv_iload_n (pc := 2) hx hb dX2_mixInto_2 rfl (lv_at hl 2 rfl) ?_
  refine lv_iconst (v := 4) (pc := 3) hx hb dX2_mixInto_3 (by decide) ?_
  refine lv_icmp_ge (tgt := 27) (pc := 4) hx hb dX2_mixInto_4 (by decide) (fun c4 => ?_) (fun c4 => ?_)
  · have hf := ft hf c4
    refine lv_iconst (v := 0) (pc := 27) hx hb dX2_mixInto_27 (by decide) ?_
    refine lv_istore_n (lv' := [(3, .int 0), (0, .ref (g.2.2.1 2)), (1, .long x1)]) (pc := 28) hx hb dX2_mixInto_28 rfl hl (by decide) rfl (fun ls hl => ?_)
    exact w_X2_mixInto_29 C  N ls x1 0 (lv_sub hl [1, 2, 0] rfl) hf
  · have hf := ff hf c4
    refine lv_ldc2 (v := 31) (pc := 7) hx hb hown (hts _ q_X2_mixInto_0) dX2_mixInto_7 ?_
    refine lv_lload_n (pc := 10) hx hb dX2_mixInto_10 rfl (lv_at hl 1 rfl) ?_
    refine lv_lmul (pc := 11) hx hb dX2_mixInto_11 ?_
    refine lv_aload_n (pc := 12) hx hb dX2_mixInto_12 rfl (lv_at hl 0 rfl) ?_
    refine va_get (D := g.1) (ci := 2) (v := .ref (g.2.2.2 2 0)) (C := RX2) (T := TX2) (N := 10) (pc := 13) hx hb hts (fun _ h => List.mem_cons_of_mem _ (List.mem_append_right _ h)) hown hK hP 0 rfl rfl 0 (by decide) (hts _ q_X2_mixInto_7) (fun _ h9 => h9) rfl dX2_mixInto_13 ?_
    refine lv_iload_n (pc := 16) hx hb dX2_mixInto_16 rfl (lv_at hl 2 rfl) ?_
    obtain ⟨b17, hf⟩ := gdE hf
    refine va_iald (D := g.1) (tys := tyl g) (f := (S2.2.2 0)) (pc := 17) hx hb hK hP 1 0 rfl rfl (inbV b17) dX2_mixInto_17 ?_
    refine lv_i2l (pc := 18) hx hb dX2_mixInto_18 rfl ?_
    refine lv_ladd (pc := 19) hx hb dX2_mixInto_19 ?_
    refine lv_lstore_n (lv' := [(1, .long ((31 * x1) + (Int32.toInt64 ((S2.2.2 0) (Int32.toNatClampNeg x3))))), (0, .ref (g.2.2.1 2)), (3, .int x3)]) (pc := 20) hx hb dX2_mixInto_20 rfl hl (by decide) rfl (fun ls hl => ?_)
    refine lv_iinc (v := (x3 + 1)) (lv' := [(3, .int (x3 + 1)), (1, .long ((31 * x1) + (Int32.toInt64 ((S2.2.2 0) (Int32.toNatClampNeg x3))))), (0, .ref (g.2.2.1 2))]) (pc := 21) hx hb dX2_mixInto_21 hl (k := 2) rfl rfl (by decide) rfl (fun ls hl => ?_)
    refine lv_goto (tgt := 2) (pc := 24) hx hb dX2_mixInto_24 (by decide) ?_
    exact H2 ls ((31 * x1) + (Int32.toInt64 ((S2.2.2 0) (Int32.toNatClampNeg x3)))) (x3 + 1) (lv_sub hl [2, 1, 0] rfl) hf
set_option maxHeartbeats 4000000 in
set_option maxRecDepth 100000 in
theorem w_X2_mixInto_2 {p : Program} {l : Launch} {e : Env} {s : State} {m : MethodId} {args : Array Value} {below : List Frame} {meth : Method} {c : Code} {g : En} {N : Nat} {S2 : St} {res : Int64} (C : cxr g (wd_2 g S2) cX2_mixInto 5 (some .long) wsX2_mixInto RX2 p s m args meth c) : ∀ (n : Nat), ∀ (ls : Array Slot) (x1 : Int64) (x3 : Int32), lv_has ls 5 [(0, .ref (g.2.2.1 2)), (1, .long x1), (3, .int x3)] → f_X2_mixInto_2 N S2  n x1 x3 = some res → W p l e (headSpec wsX2_mixInto { frames := 0, cells := 0, slots := 0, locals := 0 }).room s m args below meth c s.heap [] 0 0 (MQ below (vp_Sl (fun r => r = res)) args s 0 0 (fun _ => False)) (F0 m 2 ls []) := by
  intro n
  induction n with
  | zero =>
    intro ls x1 x3 hl hf
    have hf : (none : Option (Int64)) = some res := hf
    cases hf
  | succ n ih =>
    intro ls x1 x3 hl hf
    exact w_X2_mixInto_2_b C  (fun y0 y1 => f_X2_mixInto_2 N S2  n y0 y1) ih ls x1 x3 hl hf
set_option maxHeartbeats 4000000 in
set_option maxRecDepth 100000 in
theorem c_X2_mixInto (l : Launch) (g : En) (N : Nat) (S2 : St) (x1 : Int64) (res : Int64) (hf : f_X2_mixInto N S2 x1 = some res) : Met l yX2_mixInto wsX2_mixInto { frames := 0, cells := 0, slots := 0, locals := 0 } (roP g (wd_2 g S2) [.ref (g.2.2.1 2), .long x1]) (vp_Sl (fun r => r = res)) 0 0 (fun _ => False) := by
  refine Met.ofW (cc := cX2_mixInto) (maxL := 5) (ret := (some .long)) (by decide) rfl ?_
  intro p e s m args below meth c s₁ B hml hv
  obtain ⟨rfl, hP, hK⟩ := hv
  have hx := B.exec
  have hb := B.bytes
  have hr := B.returns
  have hts := atoms_spec (ws := wsX2_mixInto) B.pre
  have hown : s.vm.findClass RX2 = some m.cls := findClass_of_methodNamed B.named
  have hlk := B.notSynchronized
  have C : cxr g (wd_2 g S2) cX2_mixInto 5 (some .long) wsX2_mixInto RX2 p s m ([.ref (g.2.2.1 2), .long x1] : List Value).toArray meth c := ⟨⟨hx, hb, hr, hml, hown, hts, hlk⟩, hK, hP⟩
  have hl := lv_entry [.ref (g.2.2.1 2), .long x1] (n := 5) (Nat.le_of_ble_eq_true rfl)
  rw [lg_entry_eq]
  generalize (lg_sl [.ref (g.2.2.1 2), .long x1] ++ List.replicate (5 - (lg_sl [.ref (g.2.2.1 2), .long x1]).length) Slot.unset).toArray = ls at hl ⊢
  have hl : lv_has ls 5 [(0, .ref (g.2.2.1 2)), (1, .long x1)] := hl
  unfold f_X2_mixInto at hf
  refine lv_iconst (v := 0) (pc := 0) hx hb dX2_mixInto_0 (by decide) ?_
  refine lv_istore_n (lv' := [(3, .int 0), (0, .ref (g.2.2.1 2)), (1, .long x1)]) (pc := 1) hx hb dX2_mixInto_1 rfl hl (by decide) rfl (fun ls hl => ?_)
  exact w_X2_mixInto_2 C  N ls x1 0 (lv_sub hl [1, 2, 0] rfl) hf
