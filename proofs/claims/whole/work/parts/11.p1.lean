theorem q_X1_add_0 : (.fieldLink RX1 9 "PictureCourt$Known" "numbers" "[I" : Cond) ∈ wsX1_add := by decide +kernel
theorem q_X1_add_1 : (.fieldLink RX1 24 "PictureCourt$Known" "size" "I" : Cond) ∈ wsX1_add := by decide +kernel
theorem q_X1_add_2 : (.fieldLink RX1 15 "PictureCourt$Known" "froms" "[I" : Cond) ∈ wsX1_add := by decide +kernel
theorem q_X1_add_3 : (.fieldLink RX1 18 "PictureCourt$Known" "tos" "[I" : Cond) ∈ wsX1_add := by decide +kernel
theorem q_X1_add_4 : (.fieldLink RX1 21 "PictureCourt$Known" "weights" "[I" : Cond) ∈ wsX1_add := by decide +kernel
theorem h_X1_add : yX1_add.cls = RX1 ∧ yX1_add.cls ≠ "java/lang/invoke/MethodHandle" ∧ yX1_add.cls ≠ "java/lang/invoke/VarHandle" ∧ (parseMethodDescriptor yX1_add.desc).map (fun d => d.parameters.length) = some 4 := by decide +kernel
set_option maxHeartbeats 4000000 in
set_option maxRecDepth 100000 in
theorem c_X1_add (l : Launch) (g : En) (N : Nat) (sz : Nat) (S1 : St) (x1 : Int32) (x2 : Int32) (x3 : Int32) (x4 : Int32) (res : St) (hf : f_X1_add N S1 x1 x2 x3 x4 = some res) : Met l yX1_add wsX1_add { frames := 0, cells := 0, slots := 0, locals := 0 } (rwP g (wd_1 g S1) sz [.ref (g.2.2.1 1), .int x1, .int x2, .int x3, .int x4]) (rwQv g (wd_1 g res) (va_A (wd_1 g S1) sz)) 0 0 (va_A (wd_1 g S1) sz) := by
  refine Met.ofW (cc := cX1_add) (maxL := 5) (ret := none) (by decide) rfl ?_
  intro p e s m args below meth c s₁ B hml hv
  obtain ⟨rfl, hsz, hP, hK, hD0⟩ := hv
  have hx := B.exec
  have hb := B.bytes
  have hr := B.returns
  have hts := atoms_spec (ws := wsX1_add) B.pre
  have hown : s.vm.findClass RX1 = some m.cls := findClass_of_methodNamed B.named
  have hlk := B.notSynchronized
  subst hsz
  have hD := hD0.self (sz := s.heap.size)
  generalize hAe : va_A (wd_1 g S1) s.heap.size = A at hD ⊢
  have hA : ∀ q : Nat, s.heap.size ≤ q → A q := fun q h => by rw [← hAe]; exact Or.inr h
  have hS : va_S A s.heap s.heap [] := va_S.rf
  have C : cxw g A cX1_add 5 none wsX1_add RX1 p s m ([.ref (g.2.2.1 1), .int x1, .int x2, .int x3, .int x4] : List Value).toArray meth c := ⟨⟨hx, hb, hr, hml, hown, hts, hlk⟩, hK, hA⟩
  have hl := lv_entry [.ref (g.2.2.1 1), .int x1, .int x2, .int x3, .int x4] (n := 5) (Nat.le_of_ble_eq_true rfl)
  rw [lg_entry_eq]
  generalize (lg_sl [.ref (g.2.2.1 1), .int x1, .int x2, .int x3, .int x4] ++ List.replicate (5 - (lg_sl [.ref (g.2.2.1 1), .int x1, .int x2, .int x3, .int x4]).length) Slot.unset).toArray = ls at hl ⊢
  have hl : lv_has ls 5 [(0, .ref (g.2.2.1 1)), (1, .int x1), (2, .int x2), (3, .int x3), (4, .int x4)] := hl
  unfold f_X1_add at hf
  suffices K9 : ∀ (H : Heap) (locs : List Loc), va_P g.1 vwCl (wd_1 g S1) H → va_D A (wd_1 g S1) → va_S A s.heap H locs → (if inb (S1.1 4) 24 = true then (if inb (S1.1 4) 24 = true then (if inb (S1.1 4) 24 = true then (if inb (S1.1 4) 24 = true then some ((sI (sA (sA (sA (sA S1 0 (upd (S1.2.2 0) (Int32.toNatClampNeg (S1.1 4)) x1)) 1 (upd (S1.2.2 1) (Int32.toNatClampNeg (S1.1 4)) x2)) 2 (upd (S1.2.2 2) (Int32.toNatClampNeg (S1.1 4)) x3)) 3 (upd (S1.2.2 3) (Int32.toNatClampNeg (S1.1 4)) x4)) 4 ((S1.1 4) + 1))) else none) else none) else none) else none) = some res → W p l e (headSpec wsX1_add { frames := 0, cells := 0, slots := 0, locals := 0 }).room s m ([.ref (g.2.2.1 1), .int x1, .int x2, .int x3, .int x4] : List Value).toArray below meth c H locs 0 0 (MQ below (rwQv g (wd_1 g res) A) ([.ref (g.2.2.1 1), .int x1, .int x2, .int x3, .int x4] : List Value).toArray s 0 0 A) (F0 m 0 ls []) from K9 s.heap [] hP hD hS hf
  clear hP hD hS hf
  intro H locs hP hD hS hf
  refine lv_aload_n (pc := 0) hx hb dX1_add_0 rfl (lv_at hl 0 rfl) ?_
  refine va_get (D := g.1) (ci := 1) (v := .ref (g.2.2.2 1 0)) (C := RX1) (T := TX1) (N := 5) (pc := 1) hx hb hts (fun _ h => List.mem_cons_of_mem _ (List.mem_append_right _ h)) hown hK hP 0 rfl rfl 0 (by decide) (hts _ q_X1_add_0) (fun _ h9 => h9) rfl dX1_add_1 ?_
  refine lv_aload_n (pc := 4) hx hb dX1_add_4 rfl (lv_at hl 0 rfl) ?_
  refine va_get (D := g.1) (ci := 1) (v := .int (S1.1 4)) (C := RX1) (T := TX1) (N := 5) (pc := 5) hx hb hts (fun _ h => List.mem_cons_of_mem _ (List.mem_append_right _ h)) hown hK hP 0 rfl rfl 4 (by decide) (hts _ q_X1_add_1) (fun _ h9 => h9) rfl dX1_add_5 ?_
  refine lv_iload_n (pc := 8) hx hb dX1_add_8 rfl (lv_at hl 1 rfl) ?_
  obtain ⟨b9, hf⟩ := gdE hf
  refine va_iast (D := g.1) (tys := tyl g) (f := (S1.2.2 0)) (pc := 9) hx hb hK hP hD hS 1 0 rfl rfl (inbV b9) dX1_add_9 (fun H locs hP hD hS => ?_)
  have hP := u_1_1_0P S1 (upd (S1.2.2 0) (Int32.toNatClampNeg (S1.1 4)) x1) hP
  have hD := u_1_1_0D S1 (upd (S1.2.2 0) (Int32.toNatClampNeg (S1.1 4)) x1) hD
  refine lv_aload_n (pc := 10) hx hb dX1_add_10 rfl (lv_at hl 0 rfl) ?_
  refine va_get (D := g.1) (ci := 1) (v := .ref (g.2.2.2 1 1)) (C := RX1) (T := TX1) (N := 5) (pc := 11) hx hb hts (fun _ h => List.mem_cons_of_mem _ (List.mem_append_right _ h)) hown hK hP 0 rfl rfl 1 (by decide) (hts _ q_X1_add_2) (fun _ h9 => h9) rfl dX1_add_11 ?_
  refine lv_aload_n (pc := 14) hx hb dX1_add_14 rfl (lv_at hl 0 rfl) ?_
  refine va_get (D := g.1) (ci := 1) (v := .int (S1.1 4)) (C := RX1) (T := TX1) (N := 5) (pc := 15) hx hb hts (fun _ h => List.mem_cons_of_mem _ (List.mem_append_right _ h)) hown hK hP 0 rfl rfl 4 (by decide) (hts _ q_X1_add_1) (fun _ h9 => h9) rfl dX1_add_15 ?_
  refine lv_iload_n (pc := 18) hx hb dX1_add_18 rfl (lv_at hl 2 rfl) ?_
  obtain ⟨b19, hf⟩ := gdE hf
  refine va_iast (D := g.1) (tys := tyl g) (f := (S1.2.2 1)) (pc := 19) hx hb hK hP hD hS 2 0 rfl rfl (inbV b19) dX1_add_19 (fun H locs hP hD hS => ?_)
  have hP := u_1_1_1P (sA S1 0 (upd (S1.2.2 0) (Int32.toNatClampNeg (S1.1 4)) x1)) (upd (S1.2.2 1) (Int32.toNatClampNeg (S1.1 4)) x2) hP
  have hD := u_1_1_1D (sA S1 0 (upd (S1.2.2 0) (Int32.toNatClampNeg (S1.1 4)) x1)) (upd (S1.2.2 1) (Int32.toNatClampNeg (S1.1 4)) x2) hD
  refine lv_aload_n (pc := 20) hx hb dX1_add_20 rfl (lv_at hl 0 rfl) ?_
  refine va_get (D := g.1) (ci := 1) (v := .ref (g.2.2.2 1 2)) (C := RX1) (T := TX1) (N := 5) (pc := 21) hx hb hts (fun _ h => List.mem_cons_of_mem _ (List.mem_append_right _ h)) hown hK hP 0 rfl rfl 2 (by decide) (hts _ q_X1_add_3) (fun _ h9 => h9) rfl dX1_add_21 ?_
  refine lv_aload_n (pc := 24) hx hb dX1_add_24 rfl (lv_at hl 0 rfl) ?_
  refine va_get (D := g.1) (ci := 1) (v := .int (S1.1 4)) (C := RX1) (T := TX1) (N := 5) (pc := 25) hx hb hts (fun _ h => List.mem_cons_of_mem _ (List.mem_append_right _ h)) hown hK hP 0 rfl rfl 4 (by decide) (hts _ q_X1_add_1) (fun _ h9 => h9) rfl dX1_add_25 ?_
  refine lv_iload_n (pc := 28) hx hb dX1_add_28 rfl (lv_at hl 3 rfl) ?_
  obtain ⟨b29, hf⟩ := gdE hf
  refine va_iast (D := g.1) (tys := tyl g) (f := (S1.2.2 2)) (pc := 29) hx hb hK hP hD hS 3 0 rfl rfl (inbV b29) dX1_add_29 (fun H locs hP hD hS => ?_)
  have hP := u_1_1_2P (sA (sA S1 0 (upd (S1.2.2 0) (Int32.toNatClampNeg (S1.1 4)) x1)) 1 (upd (S1.2.2 1) (Int32.toNatClampNeg (S1.1 4)) x2)) (upd (S1.2.2 2) (Int32.toNatClampNeg (S1.1 4)) x3) hP
  have hD := u_1_1_2D (sA (sA S1 0 (upd (S1.2.2 0) (Int32.toNatClampNeg (S1.1 4)) x1)) 1 (upd (S1.2.2 1) (Int32.toNatClampNeg (S1.1 4)) x2)) (upd (S1.2.2 2) (Int32.toNatClampNeg (S1.1 4)) x3) hD
  refine lv_aload_n (pc := 30) hx hb dX1_add_30 rfl (lv_at hl 0 rfl) ?_
  refine va_get (D := g.1) (ci := 1) (v := .ref (g.2.2.2 1 3)) (C := RX1) (T := TX1) (N := 5) (pc := 31) hx hb hts (fun _ h => List.mem_cons_of_mem _ (List.mem_append_right _ h)) hown hK hP 0 rfl rfl 3 (by decide) (hts _ q_X1_add_4) (fun _ h9 => h9) rfl dX1_add_31 ?_
  refine lv_aload_n (pc := 34) hx hb dX1_add_34 rfl (lv_at hl 0 rfl) ?_
  refine va_get (D := g.1) (ci := 1) (v := .int (S1.1 4)) (C := RX1) (T := TX1) (N := 5) (pc := 35) hx hb hts (fun _ h => List.mem_cons_of_mem _ (List.mem_append_right _ h)) hown hK hP 0 rfl rfl 4 (by decide) (hts _ q_X1_add_1) (fun _ h9 => h9) rfl dX1_add_35 ?_
  refine lv_iload (pc := 38) hx hb dX1_add_38 (lv_at hl 4 rfl) ?_
  obtain ⟨b40, hf⟩ := gdE hf
  refine va_iast (D := g.1) (tys := tyl g) (f := (S1.2.2 3)) (pc := 40) hx hb hK hP hD hS 4 0 rfl rfl (inbV b40) dX1_add_40 (fun H locs hP hD hS => ?_)
  have hP := u_1_1_3P (sA (sA (sA S1 0 (upd (S1.2.2 0) (Int32.toNatClampNeg (S1.1 4)) x1)) 1 (upd (S1.2.2 1) (Int32.toNatClampNeg (S1.1 4)) x2)) 2 (upd (S1.2.2 2) (Int32.toNatClampNeg (S1.1 4)) x3)) (upd (S1.2.2 3) (Int32.toNatClampNeg (S1.1 4)) x4) hP
  have hD := u_1_1_3D (sA (sA (sA S1 0 (upd (S1.2.2 0) (Int32.toNatClampNeg (S1.1 4)) x1)) 1 (upd (S1.2.2 1) (Int32.toNatClampNeg (S1.1 4)) x2)) 2 (upd (S1.2.2 2) (Int32.toNatClampNeg (S1.1 4)) x3)) (upd (S1.2.2 3) (Int32.toNatClampNeg (S1.1 4)) x4) hD
  refine lv_aload_n (pc := 41) hx hb dX1_add_41 rfl (lv_at hl 0 rfl) ?_
  refine lv_dup (pc := 42) hx hb dX1_add_42 rfl ?_
  refine va_get (D := g.1) (ci := 1) (v := .int (S1.1 4)) (C := RX1) (T := TX1) (N := 5) (pc := 43) hx hb hts (fun _ h => List.mem_cons_of_mem _ (List.mem_append_right _ h)) hown hK hP 0 rfl rfl 4 (by decide) (hts _ q_X1_add_1) (fun _ h9 => h9) rfl dX1_add_43 ?_
  refine lv_iconst (v := 1) (pc := 46) hx hb dX1_add_46 (by decide) ?_
  refine lv_iadd (pc := 47) hx hb dX1_add_47 ?_
  refine va_put (D := g.1) (ci := 1) (v := .int ((S1.1 4) + 1)) (ty := .int) (C := RX1) (T := TX1) (N := 5) (pc := 48) hx hb hts (fun _ h => List.mem_cons_of_mem _ (List.mem_append_right _ h)) tyX1 tyX1_ok nmX1 hown hK hP hD hS 0 rfl rfl 4 (by decide) (hts _ q_X1_add_1) (fun _ h9 => h9) rfl rfl rfl rfl (Nat.le_of_ble_eq_true rfl) dX1_add_48 (fun H locs hP hD hS => ?_)
  have hP := u_1_1_4P (sA (sA (sA (sA S1 0 (upd (S1.2.2 0) (Int32.toNatClampNeg (S1.1 4)) x1)) 1 (upd (S1.2.2 1) (Int32.toNatClampNeg (S1.1 4)) x2)) 2 (upd (S1.2.2 2) (Int32.toNatClampNeg (S1.1 4)) x3)) 3 (upd (S1.2.2 3) (Int32.toNatClampNeg (S1.1 4)) x4)) ((S1.1 4) + 1) hP
  have hD := u_1_1_4D (sA (sA (sA (sA S1 0 (upd (S1.2.2 0) (Int32.toNatClampNeg (S1.1 4)) x1)) 1 (upd (S1.2.2 1) (Int32.toNatClampNeg (S1.1 4)) x2)) 2 (upd (S1.2.2 2) (Int32.toNatClampNeg (S1.1 4)) x3)) 3 (upd (S1.2.2 3) (Int32.toNatClampNeg (S1.1 4)) x4)) ((S1.1 4) + 1) hD
  have hf := Option.some.inj hf
  subst hf
  exact W.vret hx hb hr (fun t ht hW => ⟨⟨(), rfl, trivial, by rw [ht]; exact hP, va_K.moved hW.alike hK, hD⟩, hS.F ht⟩) hS.2.2 dX1_add_51
theorem q_X1_firstCommonYear_0 : (.fieldLink RX1 24 "PictureCourt$Known" "size" "I" : Cond) ∈ wsX1_firstCommonYear := by decide +kernel
theorem q_X1_firstCommonYear_1 : (.fieldLink RX1 15 "PictureCourt$Known" "froms" "[I" : Cond) ∈ wsX1_firstCommonYear := by decide +kernel
theorem q_X1_firstCommonYear_2 : (.methodLink RX1 28 Lib.Math.max.name : Cond) ∈ wsX1_firstCommonYear := by decide +kernel
theorem q_X1_firstCommonYear_3 : (.static Lib.Math.max.name : Cond) ∈ wsX1_firstCommonYear := by decide +kernel
theorem q_X1_firstCommonYear_4 : (.initialized "java/lang/Math" : Cond) ∈ wsX1_firstCommonYear := by decide +kernel
theorem q_X1_firstCommonYear_5 : (.code Lib.Math.max.name Lib.Math.max.code 2 (some .int) : Cond) ∈ wsX1_firstCommonYear := by decide +kernel
theorem h_X1_firstCommonYear : yX1_firstCommonYear.cls = RX1 ∧ yX1_firstCommonYear.cls ≠ "java/lang/invoke/MethodHandle" ∧ yX1_firstCommonYear.cls ≠ "java/lang/invoke/VarHandle" ∧ (parseMethodDescriptor yX1_firstCommonYear.desc).map (fun d => d.parameters.length) = some 0 := by decide +kernel
set_option maxHeartbeats 4000000 in
set_option maxRecDepth 100000 in
theorem w_X1_firstCommonYear_6_b {p : Program} {l : Launch} {e : Env} {s : State} {m : MethodId} {args : Array Value} {below : List Frame} {meth : Method} {c : Code} {g : En} {N : Nat} {S1 : St} {res : Int32} (C : cxr g (wd_1 g S1) cX1_firstCommonYear 3 (some .int) wsX1_firstCommonYear RX1 p s m args meth c) (k6 : Int32 → Int32 → Option (Int32)) (H6 : ∀ (ls : Array Slot) (x1 : Int32) (x2 : Int32), lv_has ls 3 [(0, .ref (g.2.2.1 1)), (1, .int x1), (2, .int x2)] → k6 x1 x2 = some res → W p l e (headSpec wsX1_firstCommonYear { frames := 1, cells := 0, slots := 0, locals := 24 }).room s m args below meth c s.heap [] 0 0 (MQ below (vp_Si (fun r => r = res)) args s 0 0 (fun _ => False)) (F0 m 6 ls [])) : ∀ (ls : Array Slot) (x1 : Int32) (x2 : Int32), lv_has ls 3 [(0, .ref (g.2.2.1 1)), (1, .int x1), (2, .int x2)] → f_X1_firstCommonYear_6_b N S1  k6 x1 x2 = some res → W p l e (headSpec wsX1_firstCommonYear { frames := 1, cells := 0, slots := 0, locals := 24 }).room s m args below meth c s.heap [] 0 0 (MQ below (vp_Si (fun r => r = res)) args s 0 0 (fun _ => False)) (F0 m 6 ls []) := by
  intro ls x1 x2 hl hf
  obtain ⟨⟨hx, hb, hr, hml, hown, hts, hlk⟩, hK, hP⟩ := id C
  unfold f_X1_firstCommonYear_6_b at hf
  refine lv_iload_n (pc := 6) hx hb dX1_firstCommonYear_6 rfl (lv_at hl 2 rfl) ?_
  refine lv_aload_n (pc := 7) hx hb dX1_firstCommonYear_7 rfl (lv_at hl 0 rfl) ?_
  refine va_get (D := g.1) (ci := 1) (v := .int (S1.1 4)) (C := RX1) (T := TX1) (N := 5) (pc := 8) hx hb hts (fun _ h => List.mem_cons_of_mem _ (List.mem_append_right _ h)) hown hK hP 0 rfl rfl 4 (by decide) (hts _ q_X1_firstCommonYear_0) (fun _ h9 => h9) rfl dX1_firstCommonYear_8 ?_
  refine lv_icmp_ge (tgt := 31) (pc := 11) hx hb dX1_firstCommonYear_11 (by decide) (fun c11 => ?_) (fun c11 => ?_)
  · have hf := ft hf c11
    refine lv_iload_n (pc := 31) hx hb dX1_firstCommonYear_31 rfl (lv_at hl 1 rfl) ?_
    have hf := Option.some.inj hf
    subst hf
    exact W.iret (v := x1) hx hb hr (fun t ht hW => ⟨_, rfl, rfl, ht⟩) (fun _ h => by cases h) dX1_firstCommonYear_32
  · have hf := ff hf c11
    refine lv_iload_n (pc := 14) hx hb dX1_firstCommonYear_14 rfl (lv_at hl 1 rfl) ?_
    refine lv_aload_n (pc := 15) hx hb dX1_firstCommonYear_15 rfl (lv_at hl 0 rfl) ?_
    refine va_get (D := g.1) (ci := 1) (v := .ref (g.2.2.2 1 1)) (C := RX1) (T := TX1) (N := 5) (pc := 16) hx hb hts (fun _ h => List.mem_cons_of_mem _ (List.mem_append_right _ h)) hown hK hP 0 rfl rfl 1 (by decide) (hts _ q_X1_firstCommonYear_1) (fun _ h9 => h9) rfl dX1_firstCommonYear_16 ?_
    refine lv_iload_n (pc := 19) hx hb dX1_firstCommonYear_19 rfl (lv_at hl 2 rfl) ?_
    obtain ⟨b20, hf⟩ := gdE hf
    refine va_iald (D := g.1) (tys := tyl g) (f := (S1.2.2 1)) (pc := 20) hx hb hK hP 2 0 rfl rfl (inbV b20) dX1_firstCommonYear_20 ?_
    refine va_mmax (pc := 21) hx hb (hml.trans hl.1.symm) hown (hts _ q_X1_firstCommonYear_2) (hts _ q_X1_firstCommonYear_3) (hts _ q_X1_firstCommonYear_4) (hts _ q_X1_firstCommonYear_5) (Nat.le_of_ble_eq_true rfl) (Nat.le_of_ble_eq_true rfl) (Nat.zero_le _) (Nat.zero_le _) dX1_firstCommonYear_21 ?_
    refine lv_istore_n (lv' := [(1, .int (if x1 < ((S1.2.2 1) (Int32.toNatClampNeg x2)) then ((S1.2.2 1) (Int32.toNatClampNeg x2)) else x1)), (0, .ref (g.2.2.1 1)), (2, .int x2)]) (pc := 24) hx hb dX1_firstCommonYear_24 rfl hl (by decide) rfl (fun ls hl => ?_)
    refine lv_iinc (v := (x2 + 1)) (lv' := [(2, .int (x2 + 1)), (1, .int (if x1 < ((S1.2.2 1) (Int32.toNatClampNeg x2)) then ((S1.2.2 1) (Int32.toNatClampNeg x2)) else x1)), (0, .ref (g.2.2.1 1))]) (pc := 25) hx hb dX1_firstCommonYear_25 hl (k := 2) rfl rfl (by decide) rfl (fun ls hl => ?_)
    refine lv_goto (tgt := 6) (pc := 28) hx hb dX1_firstCommonYear_28 (by decide) ?_
    exact H6 ls (if x1 < ((S1.2.2 1) (Int32.toNatClampNeg x2)) then ((S1.2.2 1) (Int32.toNatClampNeg x2)) else x1) (x2 + 1) (lv_sub hl [2, 1, 0] rfl) hf
set_option maxHeartbeats 4000000 in
set_option maxRecDepth 100000 in
theorem w_X1_firstCommonYear_6 {p : Program} {l : Launch} {e : Env} {s : State} {m : MethodId} {args : Array Value} {below : List Frame} {meth : Method} {c : Code} {g : En} {N : Nat} {S1 : St} {res : Int32} (C : cxr g (wd_1 g S1) cX1_firstCommonYear 3 (some .int) wsX1_firstCommonYear RX1 p s m args meth c) : ∀ (n : Nat), ∀ (ls : Array Slot) (x1 : Int32) (x2 : Int32), lv_has ls 3 [(0, .ref (g.2.2.1 1)), (1, .int x1), (2, .int x2)] → f_X1_firstCommonYear_6 N S1  n x1 x2 = some res → W p l e (headSpec wsX1_firstCommonYear { frames := 1, cells := 0, slots := 0, locals := 24 }).room s m args below meth c s.heap [] 0 0 (MQ below (vp_Si (fun r => r = res)) args s 0 0 (fun _ => False)) (F0 m 6 ls []) := by
  intro n
  induction n with
  | zero =>
    intro ls x1 x2 hl hf
    have hf : (none : Option (Int32)) = some res := hf
    cases hf
  | succ n ih =>
    intro ls x1 x2 hl hf
    exact w_X1_firstCommonYear_6_b C  (fun y0 y1 => f_X1_firstCommonYear_6 N S1  n y0 y1) ih ls x1 x2 hl hf
set_option maxHeartbeats 4000000 in
set_option maxRecDepth 100000 in
theorem c_X1_firstCommonYear (l : Launch) (g : En) (N : Nat) (S1 : St) (res : Int32) (hf : f_X1_firstCommonYear N S1 = some res) : Met l yX1_firstCommonYear wsX1_firstCommonYear { frames := 1, cells := 0, slots := 0, locals := 24 } (roP g (wd_1 g S1) [.ref (g.2.2.1 1)]) (vp_Si (fun r => r = res)) 0 0 (fun _ => False) := by
  refine Met.ofW (cc := cX1_firstCommonYear) (maxL := 3) (ret := (some .int)) (by decide) rfl ?_
  intro p e s m args below meth c s₁ B hml hv
  obtain ⟨rfl, hP, hK⟩ := hv
  have hx := B.exec
  have hb := B.bytes
  have hr := B.returns
  have hts := atoms_spec (ws := wsX1_firstCommonYear) B.pre
  have hown : s.vm.findClass RX1 = some m.cls := findClass_of_methodNamed B.named
  have hlk := B.notSynchronized
  have C : cxr g (wd_1 g S1) cX1_firstCommonYear 3 (some .int) wsX1_firstCommonYear RX1 p s m ([.ref (g.2.2.1 1)] : List Value).toArray meth c := ⟨⟨hx, hb, hr, hml, hown, hts, hlk⟩, hK, hP⟩
  have hl := lv_entry [.ref (g.2.2.1 1)] (n := 3) (Nat.le_of_ble_eq_true rfl)
  rw [lg_entry_eq]
  generalize (lg_sl [.ref (g.2.2.1 1)] ++ List.replicate (3 - (lg_sl [.ref (g.2.2.1 1)]).length) Slot.unset).toArray = ls at hl ⊢
  have hl : lv_has ls 3 [(0, .ref (g.2.2.1 1))] := hl
  unfold f_X1_firstCommonYear at hf
  refine lv_sipush (v := 1000) (pc := 0) hx hb dX1_firstCommonYear_0 (by decide) ?_
  refine lv_istore_n (lv' := [(1, .int 1000), (0, .ref (g.2.2.1 1))]) (pc := 3) hx hb dX1_firstCommonYear_3 rfl hl (by decide) rfl (fun ls hl => ?_)
  refine lv_iconst (v := 0) (pc := 4) hx hb dX1_firstCommonYear_4 (by decide) ?_
  refine lv_istore_n (lv' := [(2, .int 0), (1, .int 1000), (0, .ref (g.2.2.1 1))]) (pc := 5) hx hb dX1_firstCommonYear_5 rfl hl (by decide) rfl (fun ls hl => ?_)
  exact w_X1_firstCommonYear_6 C  N ls 1000 0 (lv_sub hl [2, 1, 0] rfl) hf
theorem q_X1_lastCommonYear_0 : (.fieldLink RX1 24 "PictureCourt$Known" "size" "I" : Cond) ∈ wsX1_lastCommonYear := by decide +kernel
theorem q_X1_lastCommonYear_1 : (.fieldLink RX1 18 "PictureCourt$Known" "tos" "[I" : Cond) ∈ wsX1_lastCommonYear := by decide +kernel
theorem q_X1_lastCommonYear_2 : (.methodLink RX1 34 Lib.Math.min.name : Cond) ∈ wsX1_lastCommonYear := by decide +kernel
theorem q_X1_lastCommonYear_3 : (.static Lib.Math.min.name : Cond) ∈ wsX1_lastCommonYear := by decide +kernel
theorem q_X1_lastCommonYear_4 : (.initialized "java/lang/Math" : Cond) ∈ wsX1_lastCommonYear := by decide +kernel
theorem q_X1_lastCommonYear_5 : (.code Lib.Math.min.name Lib.Math.min.code 2 (some .int) : Cond) ∈ wsX1_lastCommonYear := by decide +kernel
theorem h_X1_lastCommonYear : yX1_lastCommonYear.cls = RX1 ∧ yX1_lastCommonYear.cls ≠ "java/lang/invoke/MethodHandle" ∧ yX1_lastCommonYear.cls ≠ "java/lang/invoke/VarHandle" ∧ (parseMethodDescriptor yX1_lastCommonYear.desc).map (fun d => d.parameters.length) = some 0 := by decide +kernel
set_option maxHeartbeats 4000000 in
set_option maxRecDepth 100000 in
theorem w_X1_lastCommonYear_6_b {p : Program} {l : Launch} {e : Env} {s : State} {m : MethodId} {args : Array Value} {below : List Frame} {meth : Method} {c : Code} {g : En} {N : Nat} {S1 : St} {res : Int32} (C : cxr g (wd_1 g S1) cX1_lastCommonYear 3 (some .int) wsX1_lastCommonYear RX1 p s m args meth c) (k6 : Int32 → Int32 → Option (Int32)) (H6 : ∀ (ls : Array Slot) (x1 : Int32) (x2 : Int32), lv_has ls 3 [(0, .ref (g.2.2.1 1)), (1, .int x1), (2, .int x2)] → k6 x1 x2 = some res → W p l e (headSpec wsX1_lastCommonYear { frames := 1, cells := 0, slots := 0, locals := 24 }).room s m args below meth c s.heap [] 0 0 (MQ below (vp_Si (fun r => r = res)) args s 0 0 (fun _ => False)) (F0 m 6 ls [])) : ∀ (ls : Array Slot) (x1 : Int32) (x2 : Int32), lv_has ls 3 [(0, .ref (g.2.2.1 1)), (1, .int x1), (2, .int x2)] → f_X1_lastCommonYear_6_b N S1  k6 x1 x2 = some res → W p l e (headSpec wsX1_lastCommonYear { frames := 1, cells := 0, slots := 0, locals := 24 }).room s m args below meth c s.heap [] 0 0 (MQ below (vp_Si (fun r => r = res)) args s 0 0 (fun _ => False)) (F0 m 6 ls []) := by
  intro ls x1 x2 hl hf
  obtain ⟨⟨hx, hb, hr, hml, hown, hts, hlk⟩, hK, hP⟩ := id C
  unfold f_X1_lastCommonYear_6_b at hf
  refine lv_iload_n (pc := 6) hx hb dX1_lastCommonYear_6 rfl (lv_at hl 2 rfl) ?_
  refine lv_aload_n (pc := 7) hx hb dX1_lastCommonYear_7 rfl (lv_at hl 0 rfl) ?_
  refine va_get (D := g.1) (ci := 1) (v := .int (S1.1 4)) (C := RX1) (T := TX1) (N := 5) (pc := 8) hx hb hts (fun _ h => List.mem_cons_of_mem _ (List.mem_append_right _ h)) hown hK hP 0 rfl rfl 4 (by decide) (hts _ q_X1_lastCommonYear_0) (fun _ h9 => h9) rfl dX1_lastCommonYear_8 ?_
  refine lv_icmp_ge (tgt := 31) (pc := 11) hx hb dX1_lastCommonYear_11 (by decide) (fun c11 => ?_) (fun c11 => ?_)
  · have hf := ft hf c11
    refine lv_iload_n (pc := 31) hx hb dX1_lastCommonYear_31 rfl (lv_at hl 1 rfl) ?_
    have hf := Option.some.inj hf
    subst hf
    exact W.iret (v := x1) hx hb hr (fun t ht hW => ⟨_, rfl, rfl, ht⟩) (fun _ h => by cases h) dX1_lastCommonYear_32
  · have hf := ff hf c11
    refine lv_iload_n (pc := 14) hx hb dX1_lastCommonYear_14 rfl (lv_at hl 1 rfl) ?_
    refine lv_aload_n (pc := 15) hx hb dX1_lastCommonYear_15 rfl (lv_at hl 0 rfl) ?_
    refine va_get (D := g.1) (ci := 1) (v := .ref (g.2.2.2 1 2)) (C := RX1) (T := TX1) (N := 5) (pc := 16) hx hb hts (fun _ h => List.mem_cons_of_mem _ (List.mem_append_right _ h)) hown hK hP 0 rfl rfl 2 (by decide) (hts _ q_X1_lastCommonYear_1) (fun _ h9 => h9) rfl dX1_lastCommonYear_16 ?_
    refine lv_iload_n (pc := 19) hx hb dX1_lastCommonYear_19 rfl (lv_at hl 2 rfl) ?_
    obtain ⟨b20, hf⟩ := gdE hf
    refine va_iald (D := g.1) (tys := tyl g) (f := (S1.2.2 2)) (pc := 20) hx hb hK hP 3 0 rfl rfl (inbV b20) dX1_lastCommonYear_20 ?_
    refine va_mmin (pc := 21) hx hb (hml.trans hl.1.symm) hown (hts _ q_X1_lastCommonYear_2) (hts _ q_X1_lastCommonYear_3) (hts _ q_X1_lastCommonYear_4) (hts _ q_X1_lastCommonYear_5) (Nat.le_of_ble_eq_true rfl) (Nat.le_of_ble_eq_true rfl) (Nat.zero_le _) (Nat.zero_le _) dX1_lastCommonYear_21 ?_
    refine lv_istore_n (lv' := [(1, .int (if ((S1.2.2 2) (Int32.toNatClampNeg x2)) < x1 then ((S1.2.2 2) (Int32.toNatClampNeg x2)) else x1)), (0, .ref (g.2.2.1 1)), (2, .int x2)]) (pc := 24) hx hb dX1_lastCommonYear_24 rfl hl (by decide) rfl (fun ls hl => ?_)
    refine lv_iinc (v := (x2 + 1)) (lv' := [(2, .int (x2 + 1)), (1, .int (if ((S1.2.2 2) (Int32.toNatClampNeg x2)) < x1 then ((S1.2.2 2) (Int32.toNatClampNeg x2)) else x1)), (0, .ref (g.2.2.1 1))]) (pc := 25) hx hb dX1_lastCommonYear_25 hl (k := 2) rfl rfl (by decide) rfl (fun ls hl => ?_)
    refine lv_goto (tgt := 6) (pc := 28) hx hb dX1_lastCommonYear_28 (by decide) ?_
    exact H6 ls (if ((S1.2.2 2) (Int32.toNatClampNeg x2)) < x1 then ((S1.2.2 2) (Int32.toNatClampNeg x2)) else x1) (x2 + 1) (lv_sub hl [2, 1, 0] rfl) hf
set_option maxHeartbeats 4000000 in
set_option maxRecDepth 100000 in
theorem w_X1_lastCommonYear_6 {p : Program} {l : Launch} {e : Env} {s : State} {m : MethodId} {args : Array Value} {below : List Frame} {meth : Method} {c : Code} {g : En} {N : Nat} {S1 : St} {res : Int32} (C : cxr g (wd_1 g S1) cX1_lastCommonYear 3 (some .int) wsX1_lastCommonYear RX1 p s m args meth c) : ∀ (n : Nat), ∀ (ls : Array Slot) (x1 : Int32) (x2 : Int32), lv_has ls 3 [(0, .ref (g.2.2.1 1)), (1, .int x1), (2, .int x2)] → f_X1_lastCommonYear_6 N S1  n x1 x2 = some res → W p l e (headSpec wsX1_lastCommonYear { frames := 1, cells := 0, slots := 0, locals := 24 }).room s m args below meth c s.heap [] 0 0 (MQ below (vp_Si (fun r => r = res)) args s 0 0 (fun _ => False)) (F0 m 6 ls []) := by
  intro n
  induction n with
  | zero =>
    intro ls x1 x2 hl hf
    have hf : (none : Option (Int32)) = some res := hf
    cases hf
  | succ n ih =>
    intro ls x1 x2 hl hf
    exact w_X1_lastCommonYear_6_b C  (fun y0 y1 => f_X1_lastCommonYear_6 N S1  n y0 y1) ih ls x1 x2 hl hf
set_option maxHeartbeats 4000000 in
set_option maxRecDepth 100000 in
theorem c_X1_lastCommonYear (l : Launch) (g : En) (N : Nat) (S1 : St) (res : Int32) (hf : f_X1_lastCommonYear N S1 = some res) : Met l yX1_lastCommonYear wsX1_lastCommonYear { frames := 1, cells := 0, slots := 0, locals := 24 } (roP g (wd_1 g S1) [.ref (g.2.2.1 1)]) (vp_Si (fun r => r = res)) 0 0 (fun _ => False) := by
  refine Met.ofW (cc := cX1_lastCommonYear) (maxL := 3) (ret := (some .int)) (by decide) rfl ?_
  intro p e s m args below meth c s₁ B hml hv
  obtain ⟨rfl, hP, hK⟩ := hv
  have hx := B.exec
  have hb := B.bytes
  have hr := B.returns
  have hts := atoms_spec (ws := wsX1_lastCommonYear) B.pre
  have hown : s.vm.findClass RX1 = some m.cls := findClass_of_methodNamed B.named
  have hlk := B.notSynchronized
  have C : cxr g (wd_1 g S1) cX1_lastCommonYear 3 (some .int) wsX1_lastCommonYear RX1 p s m ([.ref (g.2.2.1 1)] : List Value).toArray meth c := ⟨⟨hx, hb, hr, hml, hown, hts, hlk⟩, hK, hP⟩
  have hl := lv_entry [.ref (g.2.2.1 1)] (n := 3) (Nat.le_of_ble_eq_true rfl)
  rw [lg_entry_eq]
  generalize (lg_sl [.ref (g.2.2.1 1)] ++ List.replicate (3 - (lg_sl [.ref (g.2.2.1 1)]).length) Slot.unset).toArray = ls at hl ⊢
  have hl : lv_has ls 3 [(0, .ref (g.2.2.1 1))] := hl
  unfold f_X1_lastCommonYear at hf
  refine lv_sipush (v := 2100) (pc := 0) hx hb dX1_lastCommonYear_0 (by decide) ?_
  refine lv_istore_n (lv' := [(1, .int 2100), (0, .ref (g.2.2.1 1))]) (pc := 3) hx hb dX1_lastCommonYear_3 rfl hl (by decide) rfl (fun ls hl => ?_)
  refine lv_iconst (v := 0) (pc := 4) hx hb dX1_lastCommonYear_4 (by decide) ?_
  refine lv_istore_n (lv' := [(2, .int 0), (1, .int 2100), (0, .ref (g.2.2.1 1))]) (pc := 5) hx hb dX1_lastCommonYear_5 rfl hl (by decide) rfl (fun ls hl => ?_)
  exact w_X1_lastCommonYear_6 C  N ls 2100 0 (lv_sub hl [2, 1, 0] rfl) hf
theorem q_X1_opponentAfter_0 : (.fieldLink RX1 24 "PictureCourt$Known" "size" "I" : Cond) ∈ wsX1_opponentAfter := by decide +kernel
theorem q_X1_opponentAfter_1 : (.fieldLink RX1 15 "PictureCourt$Known" "froms" "[I" : Cond) ∈ wsX1_opponentAfter := by decide +kernel
theorem q_X1_opponentAfter_2 : (.fieldLink RX1 18 "PictureCourt$Known" "tos" "[I" : Cond) ∈ wsX1_opponentAfter := by decide +kernel
theorem h_X1_opponentAfter : yX1_opponentAfter.cls = RX1 ∧ yX1_opponentAfter.cls ≠ "java/lang/invoke/MethodHandle" ∧ yX1_opponentAfter.cls ≠ "java/lang/invoke/VarHandle" ∧ (parseMethodDescriptor yX1_opponentAfter.desc).map (fun d => d.parameters.length) = some 1 := by decide +kernel
set_option maxHeartbeats 4000000 in
set_option maxRecDepth 100000 in
theorem w_X1_opponentAfter_4_b {p : Program} {l : Launch} {e : Env} {s : State} {m : MethodId} {args : Array Value} {below : List Frame} {meth : Method} {c : Code} {g : En} {N : Nat} {S1 : St} {res : Int32} (C : cxr g (wd_1 g S1) cX1_opponentAfter 3 (some .int) wsX1_opponentAfter RX1 p s m args meth c) (k4 : Int32 → Int32 → Option (Int32)) (H4 : ∀ (ls : Array Slot) (x1 : Int32) (x2 : Int32), lv_has ls 3 [(0, .ref (g.2.2.1 1)), (1, .int x1), (2, .int x2)] → k4 x1 x2 = some res → W p l e (headSpec wsX1_opponentAfter { frames := 0, cells := 0, slots := 0, locals := 0 }).room s m args below meth c s.heap [] 0 0 (MQ below (vp_Si (fun r => r = res)) args s 0 0 (fun _ => False)) (F0 m 4 ls [])) : ∀ (ls : Array Slot) (x1 : Int32) (x2 : Int32), lv_has ls 3 [(0, .ref (g.2.2.1 1)), (1, .int x1), (2, .int x2)] → f_X1_opponentAfter_4_b N S1  k4 x1 x2 = some res → W p l e (headSpec wsX1_opponentAfter { frames := 0, cells := 0, slots := 0, locals := 0 }).room s m args below meth c s.heap [] 0 0 (MQ below (vp_Si (fun r => r = res)) args s 0 0 (fun _ => False)) (F0 m 4 ls []) := by
  intro ls x1 x2 hl hf
  obtain ⟨⟨hx, hb, hr, hml, hown, hts, hlk⟩, hK, hP⟩ := id C
  unfold f_X1_opponentAfter_4_b at hf
  refine lv_iload_n (pc := 4) hx hb dX1_opponentAfter_4 rfl (lv_at hl 2 rfl) ?_
  refine lv_aload_n (pc := 5) hx hb dX1_opponentAfter_5 rfl (lv_at hl 0 rfl) ?_
  refine va_get (D := g.1) (ci := 1) (v := .int (S1.1 4)) (C := RX1) (T := TX1) (N := 5) (pc := 6) hx hb hts (fun _ h => List.mem_cons_of_mem _ (List.mem_append_right _ h)) hown hK hP 0 rfl rfl 4 (by decide) (hts _ q_X1_opponentAfter_0) (fun _ h9 => h9) rfl dX1_opponentAfter_6 ?_
  refine lv_icmp_ge (tgt := 50) (pc := 9) hx hb dX1_opponentAfter_9 (by decide) (fun c9 => ?_) (fun c9 => ?_)
  · have hf := ft hf c9
    refine lv_bipush (v := (-9)) (pc := 50) hx hb dX1_opponentAfter_50 (by decide) ?_
    have hf := Option.some.inj hf
    subst hf
    exact W.iret (v := (-9)) hx hb hr (fun t ht hW => ⟨_, rfl, rfl, ht⟩) (fun _ h => by cases h) dX1_opponentAfter_52
  · have hf := ff hf c9
    refine lv_aload_n (pc := 12) hx hb dX1_opponentAfter_12 rfl (lv_at hl 0 rfl) ?_
    refine va_get (D := g.1) (ci := 1) (v := .ref (g.2.2.2 1 1)) (C := RX1) (T := TX1) (N := 5) (pc := 13) hx hb hts (fun _ h => List.mem_cons_of_mem _ (List.mem_append_right _ h)) hown hK hP 0 rfl rfl 1 (by decide) (hts _ q_X1_opponentAfter_1) (fun _ h9 => h9) rfl dX1_opponentAfter_13 ?_
    refine lv_iload_n (pc := 16) hx hb dX1_opponentAfter_16 rfl (lv_at hl 2 rfl) ?_
    obtain ⟨b17, hf⟩ := gdE hf
    refine va_iald (D := g.1) (tys := tyl g) (f := (S1.2.2 1)) (pc := 17) hx hb hK hP 2 0 rfl rfl (inbV b17) dX1_opponentAfter_17 ?_
    refine lv_aload_n (pc := 18) hx hb dX1_opponentAfter_18 rfl (lv_at hl 0 rfl) ?_
    refine va_get (D := g.1) (ci := 1) (v := .ref (g.2.2.2 1 2)) (C := RX1) (T := TX1) (N := 5) (pc := 19) hx hb hts (fun _ h => List.mem_cons_of_mem _ (List.mem_append_right _ h)) hown hK hP 0 rfl rfl 2 (by decide) (hts _ q_X1_opponentAfter_2) (fun _ h9 => h9) rfl dX1_opponentAfter_19 ?_
    refine lv_iload_n (pc := 22) hx hb dX1_opponentAfter_22 rfl (lv_at hl 1 rfl) ?_
    obtain ⟨b23, hf⟩ := gdE hf
    refine va_iald (D := g.1) (tys := tyl g) (f := (S1.2.2 2)) (pc := 23) hx hb hK hP 3 0 rfl rfl (inbV b23) dX1_opponentAfter_23 ?_
    refine lv_icmp_gt (tgt := 42) (pc := 24) hx hb dX1_opponentAfter_24 (by decide) (fun c24 => ?_) (fun c24 => ?_)
    · have hf := ft hf c24
      refine lv_iload_n (pc := 42) hx hb dX1_opponentAfter_42 rfl (lv_at hl 2 rfl) ?_
      have hf := Option.some.inj hf
      subst hf
      exact W.iret (v := x2) hx hb hr (fun t ht hW => ⟨_, rfl, rfl, ht⟩) (fun _ h => by cases h) dX1_opponentAfter_43
    · have hf := ff hf c24
      refine lv_aload_n (pc := 27) hx hb dX1_opponentAfter_27 rfl (lv_at hl 0 rfl) ?_
      refine va_get (D := g.1) (ci := 1) (v := .ref (g.2.2.2 1 1)) (C := RX1) (T := TX1) (N := 5) (pc := 28) hx hb hts (fun _ h => List.mem_cons_of_mem _ (List.mem_append_right _ h)) hown hK hP 0 rfl rfl 1 (by decide) (hts _ q_X1_opponentAfter_1) (fun _ h9 => h9) rfl dX1_opponentAfter_28 ?_
      refine lv_iload_n (pc := 31) hx hb dX1_opponentAfter_31 rfl (lv_at hl 1 rfl) ?_
      obtain ⟨b32, hf⟩ := gdE hf
      refine va_iald (D := g.1) (tys := tyl g) (f := (S1.2.2 1)) (pc := 32) hx hb hK hP 2 0 rfl rfl (inbV b32) dX1_opponentAfter_32 ?_
      refine lv_aload_n (pc := 33) hx hb dX1_opponentAfter_33 rfl (lv_at hl 0 rfl) ?_
      refine va_get (D := g.1) (ci := 1) (v := .ref (g.2.2.2 1 2)) (C := RX1) (T := TX1) (N := 5) (pc := 34) hx hb hts (fun _ h => List.mem_cons_of_mem _ (List.mem_append_right _ h)) hown hK hP 0 rfl rfl 2 (by decide) (hts _ q_X1_opponentAfter_2) (fun _ h9 => h9) rfl dX1_opponentAfter_34 ?_
      refine lv_iload_n (pc := 37) hx hb dX1_opponentAfter_37 rfl (lv_at hl 2 rfl) ?_
      obtain ⟨b38, hf⟩ := gdE hf
      refine va_iald (D := g.1) (tys := tyl g) (f := (S1.2.2 2)) (pc := 38) hx hb hK hP 3 0 rfl rfl (inbV b38) dX1_opponentAfter_38 ?_
      refine lv_icmp_le (tgt := 44) (pc := 39) hx hb dX1_opponentAfter_39 (by decide) (fun c39 => ?_) (fun c39 => ?_)
      · have hf := ft hf c39
        refine lv_iinc (v := (x2 + 1)) (lv' := [(2, .int (x2 + 1)), (0, .ref (g.2.2.1 1)), (1, .int x1)]) (pc := 44) hx hb dX1_opponentAfter_44 hl (k := 2) rfl rfl (by decide) rfl (fun ls hl => ?_)
        refine lv_goto (tgt := 4) (pc := 47) hx hb dX1_opponentAfter_47 (by decide) ?_
        exact H4 ls x1 (x2 + 1) (lv_sub hl [1, 2, 0] rfl) hf
      · have hf := ff hf c39
        refine lv_iload_n (pc := 42) hx hb dX1_opponentAfter_42 rfl (lv_at hl 2 rfl) ?_
        have hf := Option.some.inj hf
        subst hf
        exact W.iret (v := x2) hx hb hr (fun t ht hW => ⟨_, rfl, rfl, ht⟩) (fun _ h => by cases h) dX1_opponentAfter_43
set_option maxHeartbeats 4000000 in
set_option maxRecDepth 100000 in
theorem w_X1_opponentAfter_4 {p : Program} {l : Launch} {e : Env} {s : State} {m : MethodId} {args : Array Value} {below : List Frame} {meth : Method} {c : Code} {g : En} {N : Nat} {S1 : St} {res : Int32} (C : cxr g (wd_1 g S1) cX1_opponentAfter 3 (some .int) wsX1_opponentAfter RX1 p s m args meth c) : ∀ (n : Nat), ∀ (ls : Array Slot) (x1 : Int32) (x2 : Int32), lv_has ls 3 [(0, .ref (g.2.2.1 1)), (1, .int x1), (2, .int x2)] → f_X1_opponentAfter_4 N S1  n x1 x2 = some res → W p l e (headSpec wsX1_opponentAfter { frames := 0, cells := 0, slots := 0, locals := 0 }).room s m args below meth c s.heap [] 0 0 (MQ below (vp_Si (fun r => r = res)) args s 0 0 (fun _ => False)) (F0 m 4 ls []) := by
  intro n
  induction n with
  | zero =>
    intro ls x1 x2 hl hf
    have hf : (none : Option (Int32)) = some res := hf
    cases hf
  | succ n ih =>
    intro ls x1 x2 hl hf
    exact w_X1_opponentAfter_4_b C  (fun y0 y1 => f_X1_opponentAfter_4 N S1  n y0 y1) ih ls x1 x2 hl hf
set_option maxHeartbeats 4000000 in
set_option maxRecDepth 100000 in
theorem c_X1_opponentAfter (l : Launch) (g : En) (N : Nat) (S1 : St) (x1 : Int32) (res : Int32) (hf : f_X1_opponentAfter N S1 x1 = some res) : Met l yX1_opponentAfter wsX1_opponentAfter { frames := 0, cells := 0, slots := 0, locals := 0 } (roP g (wd_1 g S1) [.ref (g.2.2.1 1), .int x1]) (vp_Si (fun r => r = res)) 0 0 (fun _ => False) := by
  refine Met.ofW (cc := cX1_opponentAfter) (maxL := 3) (ret := (some .int)) (by decide) rfl ?_
  intro p e s m args below meth c s₁ B hml hv
  obtain ⟨rfl, hP, hK⟩ := hv
  have hx := B.exec
  have hb := B.bytes
  have hr := B.returns
  have hts := atoms_spec (ws := wsX1_opponentAfter) B.pre
  have hown : s.vm.findClass RX1 = some m.cls := findClass_of_methodNamed B.named
  have hlk := B.notSynchronized
  have C : cxr g (wd_1 g S1) cX1_opponentAfter 3 (some .int) wsX1_opponentAfter RX1 p s m ([.ref (g.2.2.1 1), .int x1] : List Value).toArray meth c := ⟨⟨hx, hb, hr, hml, hown, hts, hlk⟩, hK, hP⟩
  have hl := lv_entry [.ref (g.2.2.1 1), .int x1] (n := 3) (Nat.le_of_ble_eq_true rfl)
  rw [lg_entry_eq]
  generalize (lg_sl [.ref (g.2.2.1 1), .int x1] ++ List.replicate (3 - (lg_sl [.ref (g.2.2.1 1), .int x1]).length) Slot.unset).toArray = ls at hl ⊢
  have hl : lv_has ls 3 [(0, .ref (g.2.2.1 1)), (1, .int x1)] := hl
  unfold f_X1_opponentAfter at hf
  refine lv_iload_n (pc := 0) hx hb dX1_opponentAfter_0 rfl (lv_at hl 1 rfl) ?_
  refine lv_iconst (v := 1) (pc := 1) hx hb dX1_opponentAfter_1 (by decide) ?_
  refine lv_iadd (pc := 2) hx hb dX1_opponentAfter_2 ?_
  refine lv_istore_n (lv' := [(2, .int (x1 + 1)), (0, .ref (g.2.2.1 1)), (1, .int x1)]) (pc := 3) hx hb dX1_opponentAfter_3 rfl hl (by decide) rfl (fun ls hl => ?_)
  exact w_X1_opponentAfter_4 C  N ls x1 (x1 + 1) (lv_sub hl [1, 2, 0] rfl) hf
theorem q_X1_holds_0 : (.fieldLink RX1 15 "PictureCourt$Known" "froms" "[I" : Cond) ∈ wsX1_holds := by decide +kernel
theorem q_X1_holds_1 : (.fieldLink RX1 18 "PictureCourt$Known" "tos" "[I" : Cond) ∈ wsX1_holds := by decide +kernel
theorem h_X1_holds : yX1_holds.cls = RX1 ∧ yX1_holds.cls ≠ "java/lang/invoke/MethodHandle" ∧ yX1_holds.cls ≠ "java/lang/invoke/VarHandle" ∧ (parseMethodDescriptor yX1_holds.desc).map (fun d => d.parameters.length) = some 2 := by decide +kernel
set_option maxHeartbeats 4000000 in
set_option maxRecDepth 100000 in
theorem c_X1_holds (l : Launch) (g : En) (N : Nat) (S1 : St) (x1 : Int32) (x2 : Int32) (res : Int32) (hf : f_X1_holds N S1 x1 x2 = some res) : Met l yX1_holds wsX1_holds { frames := 0, cells := 0, slots := 0, locals := 0 } (roP g (wd_1 g S1) [.ref (g.2.2.1 1), .int x1, .int x2]) (vp_Si (fun r => r = res)) 0 0 (fun _ => False) := by
  refine Met.ofW (cc := cX1_holds) (maxL := 3) (ret := (some .boolean)) (by decide) rfl ?_
  intro p e s m args below meth c s₁ B hml hv
  obtain ⟨rfl, hP, hK⟩ := hv
  have hx := B.exec
  have hb := B.bytes
  have hr := B.returns
  have hts := atoms_spec (ws := wsX1_holds) B.pre
  have hown : s.vm.findClass RX1 = some m.cls := findClass_of_methodNamed B.named
  have hlk := B.notSynchronized
  have C : cxr g (wd_1 g S1) cX1_holds 3 (some .boolean) wsX1_holds RX1 p s m ([.ref (g.2.2.1 1), .int x1, .int x2] : List Value).toArray meth c := ⟨⟨hx, hb, hr, hml, hown, hts, hlk⟩, hK, hP⟩
  have hl := lv_entry [.ref (g.2.2.1 1), .int x1, .int x2] (n := 3) (Nat.le_of_ble_eq_true rfl)
  rw [lg_entry_eq]
  generalize (lg_sl [.ref (g.2.2.1 1), .int x1, .int x2] ++ List.replicate (3 - (lg_sl [.ref (g.2.2.1 1), .int x1, .int x2]).length) Slot.unset).toArray = ls at hl ⊢
  have hl : lv_has ls 3 [(0, .ref (g.2.2.1 1)), (1, .int x1), (2, .int x2)] := hl
  unfold f_X1_holds at hf
  refine lv_aload_n (pc := 0) hx hb dX1_holds_0 rfl (lv_at hl 0 rfl) ?_
  refine va_get (D := g.1) (ci := 1) (v := .ref (g.2.2.2 1 1)) (C := RX1) (T := TX1) (N := 5) (pc := 1) hx hb hts (fun _ h => List.mem_cons_of_mem _ (List.mem_append_right _ h)) hown hK hP 0 rfl rfl 1 (by decide) (hts _ q_X1_holds_0) (fun _ h9 => h9) rfl dX1_holds_1 ?_
  refine lv_iload_n (pc := 4) hx hb dX1_holds_4 rfl (lv_at hl 1 rfl) ?_
  obtain ⟨b5, hf⟩ := gdE hf
  refine va_iald (D := g.1) (tys := tyl g) (f := (S1.2.2 1)) (pc := 5) hx hb hK hP 2 0 rfl rfl (inbV b5) dX1_holds_5 ?_
  refine lv_iload_n (pc := 6) hx hb dX1_holds_6 rfl (lv_at hl 2 rfl) ?_
  refine lv_icmp_gt (tgt := 24) (pc := 7) hx hb dX1_holds_7 (by decide) (fun c7 => ?_) (fun c7 => ?_)
  · have hf := ft hf c7
    refine lv_iconst (v := 0) (pc := 24) hx hb dX1_holds_24 (by decide) ?_
    have hf := Option.some.inj hf
    subst hf
    exact W.zret (v := 0) hx hb hr rfl (fun t ht hW => ⟨_, rfl, rfl, ht⟩) (fun _ h => by cases h) dX1_holds_25
  · have hf := ff hf c7
    refine lv_iload_n (pc := 10) hx hb dX1_holds_10 rfl (lv_at hl 2 rfl) ?_
    refine lv_aload_n (pc := 11) hx hb dX1_holds_11 rfl (lv_at hl 0 rfl) ?_
    refine va_get (D := g.1) (ci := 1) (v := .ref (g.2.2.2 1 2)) (C := RX1) (T := TX1) (N := 5) (pc := 12) hx hb hts (fun _ h => List.mem_cons_of_mem _ (List.mem_append_right _ h)) hown hK hP 0 rfl rfl 2 (by decide) (hts _ q_X1_holds_1) (fun _ h9 => h9) rfl dX1_holds_12 ?_
    refine lv_iload_n (pc := 15) hx hb dX1_holds_15 rfl (lv_at hl 1 rfl) ?_
    obtain ⟨b16, hf⟩ := gdE hf
    refine va_iald (D := g.1) (tys := tyl g) (f := (S1.2.2 2)) (pc := 16) hx hb hK hP 3 0 rfl rfl (inbV b16) dX1_holds_16 ?_
    refine lv_icmp_gt (tgt := 24) (pc := 17) hx hb dX1_holds_17 (by decide) (fun c17 => ?_) (fun c17 => ?_)
    · have hf := ft hf c17
      refine lv_iconst (v := 0) (pc := 24) hx hb dX1_holds_24 (by decide) ?_
      have hf := Option.some.inj hf
      subst hf
      exact W.zret (v := 0) hx hb hr rfl (fun t ht hW => ⟨_, rfl, rfl, ht⟩) (fun _ h => by cases h) dX1_holds_25
    · have hf := ff hf c17
      refine lv_iconst (v := 1) (pc := 20) hx hb dX1_holds_20 (by decide) ?_
      refine lv_goto (tgt := 25) (pc := 21) hx hb dX1_holds_21 (by decide) ?_
      have hf := Option.some.inj hf
      subst hf
      exact W.zret (v := 1) hx hb hr rfl (fun t ht hW => ⟨_, rfl, rfl, ht⟩) (fun _ h => by cases h) dX1_holds_25
theorem q_X1_weightOn_0 : (.fieldLink RX1 24 "PictureCourt$Known" "size" "I" : Cond) ∈ wsX1_weightOn := by decide +kernel
theorem q_X1_weightOn_1 : (.fieldLink RX1 21 "PictureCourt$Known" "weights" "[I" : Cond) ∈ wsX1_weightOn := by decide +kernel
theorem h_X1_weightOn : yX1_weightOn.cls = RX1 ∧ yX1_weightOn.cls ≠ "java/lang/invoke/MethodHandle" ∧ yX1_weightOn.cls ≠ "java/lang/invoke/VarHandle" ∧ (parseMethodDescriptor yX1_weightOn.desc).map (fun d => d.parameters.length) = some 1 := by decide +kernel
set_option maxHeartbeats 4000000 in
set_option maxRecDepth 100000 in
theorem w_X1_weightOn_30 {p : Program} {l : Launch} {e : Env} {s : State} {m : MethodId} {args : Array Value} {below : List Frame} {meth : Method} {c : Code} {g : En} {N : Nat} {S1 : St} {res : Int32} (C : cxr g (wd_1 g S1) cX1_weightOn 4 (some .int) wsX1_weightOn RX1 p s m args meth c) (k4 : Int32 → Int32 → Int32 → Option (Int32)) (H4 : ∀ (ls : Array Slot) (x1 : Int32) (x2 : Int32) (x3 : Int32), lv_has ls 4 [(0, .ref (g.2.2.1 1)), (1, .int x1), (2, .int x2), (3, .int x3)] → k4 x1 x2 x3 = some res → W p l e (headSpec wsX1_weightOn { frames := 1, cells := 0, slots := 0, locals := 22 }).room s m args below meth c s.heap [] 0 0 (MQ below (vp_Si (fun r => r = res)) args s 0 0 (fun _ => False)) (F0 m 4 ls [])) : ∀ (ls : Array Slot) (x1 : Int32) (x2 : Int32) (x3 : Int32), lv_has ls 4 [(0, .ref (g.2.2.1 1)), (1, .int x1), (2, .int x2), (3, .int x3)] → f_X1_weightOn_30 N S1 k4 x1 x2 x3 = some res → W p l e (headSpec wsX1_weightOn { frames := 1, cells := 0, slots := 0, locals := 22 }).room s m args below meth c s.heap [] 0 0 (MQ below (vp_Si (fun r => r = res)) args s 0 0 (fun _ => False)) (F0 m 30 ls []) := by
  intro ls x1 x2 x3 hl hf
  obtain ⟨⟨hx, hb, hr, hml, hown, hts, hlk⟩, hK, hP⟩ := id C
  unfold f_X1_weightOn_30 at hf
  refine lv_iinc (v := (x3 + 1)) (lv' := [(3, .int (x3 + 1)), (0, .ref (g.2.2.1 1)), (1, .int x1), (2, .int x2)]) (pc := 30) hx hb dX1_weightOn_30 hl (k := 3) rfl rfl (by decide) rfl (fun ls hl => ?_)
  refine lv_goto (tgt := 4) (pc := 33) hx hb dX1_weightOn_33 (by decide) ?_
  exact H4 ls x1 x2 (x3 + 1) (lv_sub hl [1, 2, 3, 0] rfl) hf
set_option maxHeartbeats 4000000 in
set_option maxRecDepth 100000 in
theorem w_X1_weightOn_4_b {p : Program} {l : Launch} {e : Env} {s : State} {m : MethodId} {args : Array Value} {below : List Frame} {meth : Method} {c : Code} {g : En} {N : Nat} {S1 : St} {res : Int32} (C : cxr g (wd_1 g S1) cX1_weightOn 4 (some .int) wsX1_weightOn RX1 p s m args meth c) (k4 : Int32 → Int32 → Int32 → Option (Int32)) (H4 : ∀ (ls : Array Slot) (x1 : Int32) (x2 : Int32) (x3 : Int32), lv_has ls 4 [(0, .ref (g.2.2.1 1)), (1, .int x1), (2, .int x2), (3, .int x3)] → k4 x1 x2 x3 = some res → W p l e (headSpec wsX1_weightOn { frames := 1, cells := 0, slots := 0, locals := 22 }).room s m args below meth c s.heap [] 0 0 (MQ below (vp_Si (fun r => r = res)) args s 0 0 (fun _ => False)) (F0 m 4 ls [])) : ∀ (ls : Array Slot) (x1 : Int32) (x2 : Int32) (x3 : Int32), lv_has ls 4 [(0, .ref (g.2.2.1 1)), (1, .int x1), (2, .int x2), (3, .int x3)] → f_X1_weightOn_4_b N S1  k4 x1 x2 x3 = some res → W p l e (headSpec wsX1_weightOn { frames := 1, cells := 0, slots := 0, locals := 22 }).room s m args below meth c s.heap [] 0 0 (MQ below (vp_Si (fun r => r = res)) args s 0 0 (fun _ => False)) (F0 m 4 ls []) := by
  intro ls x1 x2 x3 hl hf
  obtain ⟨⟨hx, hb, hr, hml, hown, hts, hlk⟩, hK, hP⟩ := id C
  unfold f_X1_weightOn_4_b at hf
  refine lv_iload_n (pc := 4) hx hb dX1_weightOn_4 rfl (lv_at hl 3 rfl) ?_
  refine lv_aload_n (pc := 5) hx hb dX1_weightOn_5 rfl (lv_at hl 0 rfl) ?_
  refine va_get (D := g.1) (ci := 1) (v := .int (S1.1 4)) (C := RX1) (T := TX1) (N := 5) (pc := 6) hx hb hts (fun _ h => List.mem_cons_of_mem _ (List.mem_append_right _ h)) hown hK hP 0 rfl rfl 4 (by decide) (hts _ q_X1_weightOn_0) (fun _ h9 => h9) rfl dX1_weightOn_6 ?_
  refine lv_icmp_ge (tgt := 36) (pc := 9) hx hb dX1_weightOn_9 (by decide) (fun c9 => ?_) (fun c9 => ?_)
  · have hf := ft hf c9
    refine lv_iload_n (pc := 36) hx hb dX1_weightOn_36 rfl (lv_at hl 2 rfl) ?_
    have hf := Option.some.inj hf
    subst hf
    exact W.iret (v := x2) hx hb hr (fun t ht hW => ⟨_, rfl, rfl, ht⟩) (fun _ h => by cases h) dX1_weightOn_37
  · have hf := ff hf c9
    refine lv_aload_n (pc := 12) hx hb dX1_weightOn_12 rfl (lv_at hl 0 rfl) ?_
    refine lv_iload_n (pc := 13) hx hb dX1_weightOn_13 rfl (lv_at hl 3 rfl) ?_
    refine lv_iload_n (pc := 14) hx hb dX1_weightOn_14 rfl (lv_at hl 1 rfl) ?_
    obtain ⟨r15, e15, hf⟩ := bdE hf
    refine krI (g := g) (wc := (wd_1 g S1)) (pc := 15) (As := [.int x3, .int x1]) (rest := []) ⟨hx, hb, hml, hown, hts⟩ (c_X1_holds l g N S1 x3 x1 r15 e15) (cwV 2 hts gX1_weightOn_X1_holds rfl rfl rfl h_X1_holds ⟨Nat.le_of_ble_eq_true rfl, Nat.le_of_ble_eq_true rfl⟩) hK hP rfl rfl rfl hl.1 rfl (Nat.le_of_ble_eq_true rfl) dX1_weightOn_15 ⟨Nat.zero_le _, Nat.zero_le _⟩ ?_
    refine lv_if_eq (tgt := 30) (pc := 18) hx hb dX1_weightOn_18 (by decide) (fun c18 => ?_) (fun c18 => ?_)
    · have hf := ft hf c18
      exact w_X1_weightOn_30 C k4 H4 ls x1 x2 x3 (lv_sub hl [0, 1, 2, 3] rfl) hf
    · have hf := ff hf c18
      refine lv_iload_n (pc := 21) hx hb dX1_weightOn_21 rfl (lv_at hl 2 rfl) ?_
      refine lv_aload_n (pc := 22) hx hb dX1_weightOn_22 rfl (lv_at hl 0 rfl) ?_
      refine va_get (D := g.1) (ci := 1) (v := .ref (g.2.2.2 1 3)) (C := RX1) (T := TX1) (N := 5) (pc := 23) hx hb hts (fun _ h => List.mem_cons_of_mem _ (List.mem_append_right _ h)) hown hK hP 0 rfl rfl 3 (by decide) (hts _ q_X1_weightOn_1) (fun _ h9 => h9) rfl dX1_weightOn_23 ?_
      refine lv_iload_n (pc := 26) hx hb dX1_weightOn_26 rfl (lv_at hl 3 rfl) ?_
      obtain ⟨b27, hf⟩ := gdE hf
      refine va_iald (D := g.1) (tys := tyl g) (f := (S1.2.2 3)) (pc := 27) hx hb hK hP 4 0 rfl rfl (inbV b27) dX1_weightOn_27 ?_
      refine lv_iadd (pc := 28) hx hb dX1_weightOn_28 ?_
      refine lv_istore_n (lv' := [(2, .int (x2 + ((S1.2.2 3) (Int32.toNatClampNeg x3)))), (0, .ref (g.2.2.1 1)), (1, .int x1), (3, .int x3)]) (pc := 29) hx hb dX1_weightOn_29 rfl hl (by decide) rfl (fun ls hl => ?_)
      exact w_X1_weightOn_30 C k4 H4 ls x1 (x2 + ((S1.2.2 3) (Int32.toNatClampNeg x3))) x3 (lv_sub hl [1, 2, 0, 3] rfl) hf
set_option maxHeartbeats 4000000 in
set_option maxRecDepth 100000 in
theorem w_X1_weightOn_4 {p : Program} {l : Launch} {e : Env} {s : State} {m : MethodId} {args : Array Value} {below : List Frame} {meth : Method} {c : Code} {g : En} {N : Nat} {S1 : St} {res : Int32} (C : cxr g (wd_1 g S1) cX1_weightOn 4 (some .int) wsX1_weightOn RX1 p s m args meth c) : ∀ (n : Nat), ∀ (ls : Array Slot) (x1 : Int32) (x2 : Int32) (x3 : Int32), lv_has ls 4 [(0, .ref (g.2.2.1 1)), (1, .int x1), (2, .int x2), (3, .int x3)] → f_X1_weightOn_4 N S1  n x1 x2 x3 = some res → W p l e (headSpec wsX1_weightOn { frames := 1, cells := 0, slots := 0, locals := 22 }).room s m args below meth c s.heap [] 0 0 (MQ below (vp_Si (fun r => r = res)) args s 0 0 (fun _ => False)) (F0 m 4 ls []) := by
  intro n
  induction n with
  | zero =>
    intro ls x1 x2 x3 hl hf
    have hf : (none : Option (Int32)) = some res := hf
    cases hf
  | succ n ih =>
    intro ls x1 x2 x3 hl hf
    exact w_X1_weightOn_4_b C  (fun y0 y1 y2 => f_X1_weightOn_4 N S1  n y0 y1 y2) ih ls x1 x2 x3 hl hf
set_option maxHeartbeats 4000000 in
set_option maxRecDepth 100000 in
theorem c_X1_weightOn (l : Launch) (g : En) (N : Nat) (S1 : St) (x1 : Int32) (res : Int32) (hf : f_X1_weightOn N S1 x1 = some res) : Met l yX1_weightOn wsX1_weightOn { frames := 1, cells := 0, slots := 0, locals := 22 } (roP g (wd_1 g S1) [.ref (g.2.2.1 1), .int x1]) (vp_Si (fun r => r = res)) 0 0 (fun _ => False) := by
  refine Met.ofW (cc := cX1_weightOn) (maxL := 4) (ret := (some .int)) (by decide) rfl ?_
  intro p e s m args below meth c s₁ B hml hv
  obtain ⟨rfl, hP, hK⟩ := hv
  have hx := B.exec
  have hb := B.bytes
  have hr := B.returns
  have hts := atoms_spec (ws := wsX1_weightOn) B.pre
  have hown : s.vm.findClass RX1 = some m.cls := findClass_of_methodNamed B.named
  have hlk := B.notSynchronized
  have C : cxr g (wd_1 g S1) cX1_weightOn 4 (some .int) wsX1_weightOn RX1 p s m ([.ref (g.2.2.1 1), .int x1] : List Value).toArray meth c := ⟨⟨hx, hb, hr, hml, hown, hts, hlk⟩, hK, hP⟩
  have hl := lv_entry [.ref (g.2.2.1 1), .int x1] (n := 4) (Nat.le_of_ble_eq_true rfl)
  rw [lg_entry_eq]
  generalize (lg_sl [.ref (g.2.2.1 1), .int x1] ++ List.replicate (4 - (lg_sl [.ref (g.2.2.1 1), .int x1]).length) Slot.unset).toArray = ls at hl ⊢
  have hl : lv_has ls 4 [(0, .ref (g.2.2.1 1)), (1, .int x1)] := hl
  unfold f_X1_weightOn at hf
  refine lv_iconst (v := 0) (pc := 0) hx hb dX1_weightOn_0 (by decide) ?_
  refine lv_istore_n (lv' := [(2, .int 0), (0, .ref (g.2.2.1 1)), (1, .int x1)]) (pc := 1) hx hb dX1_weightOn_1 rfl hl (by decide) rfl (fun ls hl => ?_)
  refine lv_iconst (v := 0) (pc := 2) hx hb dX1_weightOn_2 (by decide) ?_
  refine lv_istore_n (lv' := [(3, .int 0), (2, .int 0), (0, .ref (g.2.2.1 1)), (1, .int x1)]) (pc := 3) hx hb dX1_weightOn_3 rfl hl (by decide) rfl (fun ls hl => ?_)
  exact w_X1_weightOn_4 C  N ls x1 0 0 (lv_sub hl [2, 3, 1, 0] rfl) hf
theorem q_X1_heaviestYear_0 : (.fieldLink RX1 15 "PictureCourt$Known" "froms" "[I" : Cond) ∈ wsX1_heaviestYear := by decide +kernel
theorem q_X1_heaviestYear_1 : (.fieldLink RX1 24 "PictureCourt$Known" "size" "I" : Cond) ∈ wsX1_heaviestYear := by decide +kernel
theorem h_X1_heaviestYear : yX1_heaviestYear.cls = RX1 ∧ yX1_heaviestYear.cls ≠ "java/lang/invoke/MethodHandle" ∧ yX1_heaviestYear.cls ≠ "java/lang/invoke/VarHandle" ∧ (parseMethodDescriptor yX1_heaviestYear.desc).map (fun d => d.parameters.length) = some 0 := by decide +kernel
set_option maxHeartbeats 4000000 in
set_option maxRecDepth 100000 in
theorem w_X1_heaviestYear_66 {p : Program} {l : Launch} {e : Env} {s : State} {m : MethodId} {args : Array Value} {below : List Frame} {meth : Method} {c : Code} {g : En} {N : Nat} {S1 : St} {res : Int32} (C : cxr g (wd_1 g S1) cX1_heaviestYear 5 (some .int) wsX1_heaviestYear RX1 p s m args meth c) (k14 : Int32 → Int32 → Int32 → Option (Int32)) (H14 : ∀ (ls : Array Slot) (x1 : Int32) (x2 : Int32) (x3 : Int32), lv_has ls 5 [(0, .ref (g.2.2.1 1)), (1, .int x1), (2, .int x2), (3, .int x3)] → k14 x1 x2 x3 = some res → W p l e (headSpec wsX1_heaviestYear { frames := 2, cells := 0, slots := 0, locals := 45 }).room s m args below meth c s.heap [] 0 0 (MQ below (vp_Si (fun r => r = res)) args s 0 0 (fun _ => False)) (F0 m 14 ls [])) : ∀ (ls : Array Slot) (x1 : Int32) (x2 : Int32) (x3 : Int32), lv_has ls 5 [(0, .ref (g.2.2.1 1)), (1, .int x1), (2, .int x2), (3, .int x3)] → f_X1_heaviestYear_66 N S1 k14 x1 x2 x3 = some res → W p l e (headSpec wsX1_heaviestYear { frames := 2, cells := 0, slots := 0, locals := 45 }).room s m args below meth c s.heap [] 0 0 (MQ below (vp_Si (fun r => r = res)) args s 0 0 (fun _ => False)) (F0 m 66 ls []) := by
  intro ls x1 x2 x3 hl hf
  obtain ⟨⟨hx, hb, hr, hml, hown, hts, hlk⟩, hK, hP⟩ := id C
  unfold f_X1_heaviestYear_66 at hf
  refine lv_iinc (v := (x3 + 1)) (lv' := [(3, .int (x3 + 1)), (0, .ref (g.2.2.1 1)), (1, .int x1), (2, .int x2)]) (pc := 66) hx hb dX1_heaviestYear_66 hl (k := 3) rfl rfl (by decide) rfl (fun ls hl => ?_)
  refine lv_goto (tgt := 14) (pc := 69) hx hb dX1_heaviestYear_69 (by decide) ?_
  exact H14 ls x1 x2 (x3 + 1) (lv_sub hl [1, 2, 3, 0] rfl) hf
set_option maxHeartbeats 4000000 in
set_option maxRecDepth 100000 in
theorem w_X1_heaviestYear_56 {p : Program} {l : Launch} {e : Env} {s : State} {m : MethodId} {args : Array Value} {below : List Frame} {meth : Method} {c : Code} {g : En} {N : Nat} {S1 : St} {res : Int32} (C : cxr g (wd_1 g S1) cX1_heaviestYear 5 (some .int) wsX1_heaviestYear RX1 p s m args meth c) (k14 : Int32 → Int32 → Int32 → Option (Int32)) (H14 : ∀ (ls : Array Slot) (x1 : Int32) (x2 : Int32) (x3 : Int32), lv_has ls 5 [(0, .ref (g.2.2.1 1)), (1, .int x1), (2, .int x2), (3, .int x3)] → k14 x1 x2 x3 = some res → W p l e (headSpec wsX1_heaviestYear { frames := 2, cells := 0, slots := 0, locals := 45 }).room s m args below meth c s.heap [] 0 0 (MQ below (vp_Si (fun r => r = res)) args s 0 0 (fun _ => False)) (F0 m 14 ls [])) : ∀ (ls : Array Slot) (x3 : Int32) (x4 : Int32), lv_has ls 5 [(0, .ref (g.2.2.1 1)), (3, .int x3), (4, .int x4)] → f_X1_heaviestYear_56 N S1 k14 x3 x4 = some res → W p l e (headSpec wsX1_heaviestYear { frames := 2, cells := 0, slots := 0, locals := 45 }).room s m args below meth c s.heap [] 0 0 (MQ below (vp_Si (fun r => r = res)) args s 0 0 (fun _ => False)) (F0 m 56 ls []) := by
  intro ls x3 x4 hl hf
  obtain ⟨⟨hx, hb, hr, hml, hown, hts, hlk⟩, hK, hP⟩ := id C
  unfold f_X1_heaviestYear_56 at hf
  refine lv_aload_n (pc := 56) hx hb dX1_heaviestYear_56 rfl (lv_at hl 0 rfl) ?_
  refine va_get (D := g.1) (ci := 1) (v := .ref (g.2.2.2 1 1)) (C := RX1) (T := TX1) (N := 5) (pc := 57) hx hb hts (fun _ h => List.mem_cons_of_mem _ (List.mem_append_right _ h)) hown hK hP 0 rfl rfl 1 (by decide) (hts _ q_X1_heaviestYear_0) (fun _ h9 => h9) rfl dX1_heaviestYear_57 ?_
  refine lv_iload_n (pc := 60) hx hb dX1_heaviestYear_60 rfl (lv_at hl 1 rfl) ?_
  obtain ⟨b61, hf⟩ := gdE hf
  refine va_iald (D := g.1) (tys := tyl g) (f := (S1.2.2 1)) (pc := 61) hx hb hK hP 2 0 rfl rfl (inbV b61) dX1_heaviestYear_61 ?_
  refine lv_istore_n (lv' := [(1, .int ((S1.2.2 1) (Int32.toNatClampNeg x3))), (0, .ref (g.2.2.1 1)), (3, .int x3), (4, .int x4)]) (pc := 62) hx hb dX1_heaviestYear_62 rfl hl (by decide) rfl (fun ls hl => ?_)
  refine lv_iload (pc := 63) hx hb dX1_heaviestYear_63 (lv_at hl 3 rfl) ?_
  refine lv_istore_n (lv' := [(2, .int x4), (1, .int ((S1.2.2 1) (Int32.toNatClampNeg x3))), (0, .ref (g.2.2.1 1)), (3, .int x3), (4, .int x4)]) (pc := 65) hx hb dX1_heaviestYear_65 rfl hl (by decide) rfl (fun ls hl => ?_)
  exact w_X1_heaviestYear_66 C k14 H14 ls ((S1.2.2 1) (Int32.toNatClampNeg x3)) x4 x3 (lv_sub hl [2, 1, 0, 3] rfl) hf
set_option maxHeartbeats 4000000 in
set_option maxRecDepth 100000 in
theorem w_X1_heaviestYear_14_b {p : Program} {l : Launch} {e : Env} {s : State} {m : MethodId} {args : Array Value} {below : List Frame} {meth : Method} {c : Code} {g : En} {N : Nat} {S1 : St} {res : Int32} (C : cxr g (wd_1 g S1) cX1_heaviestYear 5 (some .int) wsX1_heaviestYear RX1 p s m args meth c) (k14 : Int32 → Int32 → Int32 → Option (Int32)) (H14 : ∀ (ls : Array Slot) (x1 : Int32) (x2 : Int32) (x3 : Int32), lv_has ls 5 [(0, .ref (g.2.2.1 1)), (1, .int x1), (2, .int x2), (3, .int x3)] → k14 x1 x2 x3 = some res → W p l e (headSpec wsX1_heaviestYear { frames := 2, cells := 0, slots := 0, locals := 45 }).room s m args below meth c s.heap [] 0 0 (MQ below (vp_Si (fun r => r = res)) args s 0 0 (fun _ => False)) (F0 m 14 ls [])) : ∀ (ls : Array Slot) (x1 : Int32) (x2 : Int32) (x3 : Int32), lv_has ls 5 [(0, .ref (g.2.2.1 1)), (1, .int x1), (2, .int x2), (3, .int x3)] → f_X1_heaviestYear_14_b N S1  k14 x1 x2 x3 = some res → W p l e (headSpec wsX1_heaviestYear { frames := 2, cells := 0, slots := 0, locals := 45 }).room s m args below meth c s.heap [] 0 0 (MQ below (vp_Si (fun r => r = res)) args s 0 0 (fun _ => False)) (F0 m 14 ls []) := by
  intro ls x1 x2 x3 hl hf
  obtain ⟨⟨hx, hb, hr, hml, hown, hts, hlk⟩, hK, hP⟩ := id C
  unfold f_X1_heaviestYear_14_b at hf
  refine lv_iload_n (pc := 14) hx hb dX1_heaviestYear_14 rfl (lv_at hl 3 rfl) ?_
  refine lv_aload_n (pc := 15) hx hb dX1_heaviestYear_15 rfl (lv_at hl 0 rfl) ?_
  refine va_get (D := g.1) (ci := 1) (v := .int (S1.1 4)) (C := RX1) (T := TX1) (N := 5) (pc := 16) hx hb hts (fun _ h => List.mem_cons_of_mem _ (List.mem_append_right _ h)) hown hK hP 0 rfl rfl 4 (by decide) (hts _ q_X1_heaviestYear_1) (fun _ h9 => h9) rfl dX1_heaviestYear_16 ?_
  refine lv_icmp_ge (tgt := 72) (pc := 19) hx hb dX1_heaviestYear_19 (by decide) (fun c19 => ?_) (fun c19 => ?_)
  · have hf := ft hf c19
    refine lv_iload_n (pc := 72) hx hb dX1_heaviestYear_72 rfl (lv_at hl 1 rfl) ?_
    have hf := Option.some.inj hf
    subst hf
    exact W.iret (v := x1) hx hb hr (fun t ht hW => ⟨_, rfl, rfl, ht⟩) (fun _ h => by cases h) dX1_heaviestYear_73
  · have hf := ff hf c19
    refine lv_aload_n (pc := 22) hx hb dX1_heaviestYear_22 rfl (lv_at hl 0 rfl) ?_
    refine lv_aload_n (pc := 23) hx hb dX1_heaviestYear_23 rfl (lv_at hl 0 rfl) ?_
    refine va_get (D := g.1) (ci := 1) (v := .ref (g.2.2.2 1 1)) (C := RX1) (T := TX1) (N := 5) (pc := 24) hx hb hts (fun _ h => List.mem_cons_of_mem _ (List.mem_append_right _ h)) hown hK hP 0 rfl rfl 1 (by decide) (hts _ q_X1_heaviestYear_0) (fun _ h9 => h9) rfl dX1_heaviestYear_24 ?_
    refine lv_iload_n (pc := 27) hx hb dX1_heaviestYear_27 rfl (lv_at hl 3 rfl) ?_
    obtain ⟨b28, hf⟩ := gdE hf
    refine va_iald (D := g.1) (tys := tyl g) (f := (S1.2.2 1)) (pc := 28) hx hb hK hP 2 0 rfl rfl (inbV b28) dX1_heaviestYear_28 ?_
    obtain ⟨r29, e29, hf⟩ := bdE hf
    refine krI (g := g) (wc := (wd_1 g S1)) (pc := 29) (As := [.int ((S1.2.2 1) (Int32.toNatClampNeg x3))]) (rest := []) ⟨hx, hb, hml, hown, hts⟩ (c_X1_weightOn l g N S1 ((S1.2.2 1) (Int32.toNatClampNeg x3)) r29 e29) (cwV 1 hts gX1_heaviestYear_X1_weightOn rfl rfl rfl h_X1_weightOn ⟨Nat.le_of_ble_eq_true rfl, Nat.le_of_ble_eq_true rfl⟩) hK hP rfl rfl rfl hl.1 rfl (Nat.le_of_ble_eq_true rfl) dX1_heaviestYear_29 ⟨Nat.zero_le _, Nat.zero_le _⟩ ?_
    refine lv_istore (lv' := [(4, .int r29), (0, .ref (g.2.2.1 1)), (1, .int x1), (2, .int x2), (3, .int x3)]) (pc := 32) hx hb dX1_heaviestYear_32 hl (by decide) rfl (fun ls hl => ?_)
    refine lv_iload (pc := 34) hx hb dX1_heaviestYear_34 (lv_at hl 0 rfl) ?_
    refine lv_iload_n (pc := 36) hx hb dX1_heaviestYear_36 rfl (lv_at hl 3 rfl) ?_
    refine lv_icmp_gt (tgt := 56) (pc := 37) hx hb dX1_heaviestYear_37 (by decide) (fun c37 => ?_) (fun c37 => ?_)
    · have hf := ft hf c37
      exact w_X1_heaviestYear_56 C k14 H14 ls x3 r29 (lv_sub hl [1, 4, 0] rfl) hf
    · have hf := ff hf c37
      refine lv_iload (pc := 40) hx hb dX1_heaviestYear_40 (lv_at hl 0 rfl) ?_
      refine lv_iload_n (pc := 42) hx hb dX1_heaviestYear_42 rfl (lv_at hl 3 rfl) ?_
      refine lv_icmp_ne (tgt := 66) (pc := 43) hx hb dX1_heaviestYear_43 (by decide) (fun c43 => ?_) (fun c43 => ?_)
      · have hf := ff hf c43
        exact w_X1_heaviestYear_66 C k14 H14 ls x1 x2 x3 (lv_sub hl [1, 2, 3, 4] rfl) hf
      · have hf := ft hf c43
        refine lv_aload_n (pc := 46) hx hb dX1_heaviestYear_46 rfl (lv_at hl 1 rfl) ?_
        refine va_get (D := g.1) (ci := 1) (v := .ref (g.2.2.2 1 1)) (C := RX1) (T := TX1) (N := 5) (pc := 47) hx hb hts (fun _ h => List.mem_cons_of_mem _ (List.mem_append_right _ h)) hown hK hP 0 rfl rfl 1 (by decide) (hts _ q_X1_heaviestYear_0) (fun _ h9 => h9) rfl dX1_heaviestYear_47 ?_
        refine lv_iload_n (pc := 50) hx hb dX1_heaviestYear_50 rfl (lv_at hl 4 rfl) ?_
        obtain ⟨b51, hf⟩ := gdE hf
        refine va_iald (D := g.1) (tys := tyl g) (f := (S1.2.2 1)) (pc := 51) hx hb hK hP 2 0 rfl rfl (inbV b51) dX1_heaviestYear_51 ?_
        refine lv_iload_n (pc := 52) hx hb dX1_heaviestYear_52 rfl (lv_at hl 2 rfl) ?_
        refine lv_icmp_ge (tgt := 66) (pc := 53) hx hb dX1_heaviestYear_53 (by decide) (fun c53 => ?_) (fun c53 => ?_)
        · have hf := ft hf c53
          exact w_X1_heaviestYear_66 C k14 H14 ls x1 x2 x3 (lv_sub hl [1, 2, 3, 4] rfl) hf
        · have hf := ff hf c53
          exact w_X1_heaviestYear_56 C k14 H14 ls x3 r29 (lv_sub hl [1, 4, 0] rfl) hf
set_option maxHeartbeats 4000000 in
set_option maxRecDepth 100000 in
theorem w_X1_heaviestYear_14 {p : Program} {l : Launch} {e : Env} {s : State} {m : MethodId} {args : Array Value} {below : List Frame} {meth : Method} {c : Code} {g : En} {N : Nat} {S1 : St} {res : Int32} (C : cxr g (wd_1 g S1) cX1_heaviestYear 5 (some .int) wsX1_heaviestYear RX1 p s m args meth c) : ∀ (n : Nat), ∀ (ls : Array Slot) (x1 : Int32) (x2 : Int32) (x3 : Int32), lv_has ls 5 [(0, .ref (g.2.2.1 1)), (1, .int x1), (2, .int x2), (3, .int x3)] → f_X1_heaviestYear_14 N S1  n x1 x2 x3 = some res → W p l e (headSpec wsX1_heaviestYear { frames := 2, cells := 0, slots := 0, locals := 45 }).room s m args below meth c s.heap [] 0 0 (MQ below (vp_Si (fun r => r = res)) args s 0 0 (fun _ => False)) (F0 m 14 ls []) := by
  intro n
  induction n with
  | zero =>
    intro ls x1 x2 x3 hl hf
    have hf : (none : Option (Int32)) = some res := hf
    cases hf
  | succ n ih =>
    intro ls x1 x2 x3 hl hf
    exact w_X1_heaviestYear_14_b C  (fun y0 y1 y2 => f_X1_heaviestYear_14 N S1  n y0 y1 y2) ih ls x1 x2 x3 hl hf
set_option maxHeartbeats 4000000 in
set_option maxRecDepth 100000 in
theorem c_X1_heaviestYear (l : Launch) (g : En) (N : Nat) (S1 : St) (res : Int32) (hf : f_X1_heaviestYear N S1 = some res) : Met l yX1_heaviestYear wsX1_heaviestYear { frames := 2, cells := 0, slots := 0, locals := 45 } (roP g (wd_1 g S1) [.ref (g.2.2.1 1)]) (vp_Si (fun r => r = res)) 0 0 (fun _ => False) := by
  refine Met.ofW (cc := cX1_heaviestYear) (maxL := 5) (ret := (some .int)) (by decide) rfl ?_
  intro p e s m args below meth c s₁ B hml hv
  obtain ⟨rfl, hP, hK⟩ := hv
  have hx := B.exec
  have hb := B.bytes
  have hr := B.returns
  have hts := atoms_spec (ws := wsX1_heaviestYear) B.pre
  have hown : s.vm.findClass RX1 = some m.cls := findClass_of_methodNamed B.named
  have hlk := B.notSynchronized
  have C : cxr g (wd_1 g S1) cX1_heaviestYear 5 (some .int) wsX1_heaviestYear RX1 p s m ([.ref (g.2.2.1 1)] : List Value).toArray meth c := ⟨⟨hx, hb, hr, hml, hown, hts, hlk⟩, hK, hP⟩
  have hl := lv_entry [.ref (g.2.2.1 1)] (n := 5) (Nat.le_of_ble_eq_true rfl)
  rw [lg_entry_eq]
  generalize (lg_sl [.ref (g.2.2.1 1)] ++ List.replicate (5 - (lg_sl [.ref (g.2.2.1 1)]).length) Slot.unset).toArray = ls at hl ⊢
  have hl : lv_has ls 5 [(0, .ref (g.2.2.1 1))] := hl
  unfold f_X1_heaviestYear at hf
  refine lv_sipush (v := 1000) (pc := 0) hx hb dX1_heaviestYear_0 (by decide) ?_
  refine lv_istore_n (lv' := [(1, .int 1000), (0, .ref (g.2.2.1 1))]) (pc := 3) hx hb dX1_heaviestYear_3 rfl hl (by decide) rfl (fun ls hl => ?_)
  refine lv_aload_n (pc := 4) hx hb dX1_heaviestYear_4 rfl (lv_at hl 1 rfl) ?_
  refine lv_sipush (v := 1000) (pc := 5) hx hb dX1_heaviestYear_5 (by decide) ?_
  obtain ⟨r8, e8, hf⟩ := bdE hf
  refine krI (g := g) (wc := (wd_1 g S1)) (pc := 8) (As := [.int 1000]) (rest := []) ⟨hx, hb, hml, hown, hts⟩ (c_X1_weightOn l g N S1 1000 r8 e8) (cwV 1 hts gX1_heaviestYear_X1_weightOn rfl rfl rfl h_X1_weightOn ⟨Nat.le_of_ble_eq_true rfl, Nat.le_of_ble_eq_true rfl⟩) hK hP rfl rfl rfl hl.1 rfl (Nat.le_of_ble_eq_true rfl) dX1_heaviestYear_8 ⟨Nat.zero_le _, Nat.zero_le _⟩ ?_
  refine lv_istore_n (lv' := [(2, .int r8), (1, .int 1000), (0, .ref (g.2.2.1 1))]) (pc := 11) hx hb dX1_heaviestYear_11 rfl hl (by decide) rfl (fun ls hl => ?_)
  refine lv_iconst (v := 0) (pc := 12) hx hb dX1_heaviestYear_12 (by decide) ?_
  refine lv_istore_n (lv' := [(3, .int 0), (2, .int r8), (1, .int 1000), (0, .ref (g.2.2.1 1))]) (pc := 13) hx hb dX1_heaviestYear_13 rfl hl (by decide) rfl (fun ls hl => ?_)
  exact w_X1_heaviestYear_14 C  N ls 1000 r8 0 (lv_sub hl [3, 2, 1, 0] rfl) hf
theorem q_X1_setWithout_0 : (.fieldLink RX1 24 "PictureCourt$Known" "size" "I" : Cond) ∈ wsX1_setWithout := by decide +kernel
theorem q_X1_setWithout_1 : (.fieldLink RX1 9 "PictureCourt$Known" "numbers" "[I" : Cond) ∈ wsX1_setWithout := by decide +kernel
theorem h_X1_setWithout : yX1_setWithout.cls = RX1 ∧ yX1_setWithout.cls ≠ "java/lang/invoke/MethodHandle" ∧ yX1_setWithout.cls ≠ "java/lang/invoke/VarHandle" ∧ (parseMethodDescriptor yX1_setWithout.desc).map (fun d => d.parameters.length) = some 1 := by decide +kernel
set_option maxHeartbeats 4000000 in
set_option maxRecDepth 100000 in
theorem w_X1_setWithout_32 {p : Program} {l : Launch} {e : Env} {s : State} {m : MethodId} {args : Array Value} {below : List Frame} {meth : Method} {c : Code} {g : En} {N : Nat} {S1 : St} {res : Int32} (C : cxr g (wd_1 g S1) cX1_setWithout 4 (some .int) wsX1_setWithout RX1 p s m args meth c) (k4 : Int32 → Int32 → Int32 → Option (Int32)) (H4 : ∀ (ls : Array Slot) (x1 : Int32) (x2 : Int32) (x3 : Int32), lv_has ls 4 [(0, .ref (g.2.2.1 1)), (1, .int x1), (2, .int x2), (3, .int x3)] → k4 x1 x2 x3 = some res → W p l e (headSpec wsX1_setWithout { frames := 1, cells := 0, slots := 0, locals := 22 }).room s m args below meth c s.heap [] 0 0 (MQ below (vp_Si (fun r => r = res)) args s 0 0 (fun _ => False)) (F0 m 4 ls [])) : ∀ (ls : Array Slot) (x1 : Int32) (x2 : Int32) (x3 : Int32), lv_has ls 4 [(0, .ref (g.2.2.1 1)), (1, .int x1), (2, .int x2), (3, .int x3)] → f_X1_setWithout_32 N S1 k4 x1 x2 x3 = some res → W p l e (headSpec wsX1_setWithout { frames := 1, cells := 0, slots := 0, locals := 22 }).room s m args below meth c s.heap [] 0 0 (MQ below (vp_Si (fun r => r = res)) args s 0 0 (fun _ => False)) (F0 m 32 ls []) := by
  intro ls x1 x2 x3 hl hf
  obtain ⟨⟨hx, hb, hr, hml, hown, hts, hlk⟩, hK, hP⟩ := id C
  unfold f_X1_setWithout_32 at hf
  refine lv_iinc (v := (x3 + 1)) (lv' := [(3, .int (x3 + 1)), (0, .ref (g.2.2.1 1)), (1, .int x1), (2, .int x2)]) (pc := 32) hx hb dX1_setWithout_32 hl (k := 3) rfl rfl (by decide) rfl (fun ls hl => ?_)
  refine lv_goto (tgt := 4) (pc := 35) hx hb dX1_setWithout_35 (by decide) ?_
  exact H4 ls x1 x2 (x3 + 1) (lv_sub hl [1, 2, 3, 0] rfl) hf
set_option maxHeartbeats 4000000 in
set_option maxRecDepth 100000 in
theorem w_X1_setWithout_4_b {p : Program} {l : Launch} {e : Env} {s : State} {m : MethodId} {args : Array Value} {below : List Frame} {meth : Method} {c : Code} {g : En} {N : Nat} {S1 : St} {res : Int32} (C : cxr g (wd_1 g S1) cX1_setWithout 4 (some .int) wsX1_setWithout RX1 p s m args meth c) (k4 : Int32 → Int32 → Int32 → Option (Int32)) (H4 : ∀ (ls : Array Slot) (x1 : Int32) (x2 : Int32) (x3 : Int32), lv_has ls 4 [(0, .ref (g.2.2.1 1)), (1, .int x1), (2, .int x2), (3, .int x3)] → k4 x1 x2 x3 = some res → W p l e (headSpec wsX1_setWithout { frames := 1, cells := 0, slots := 0, locals := 22 }).room s m args below meth c s.heap [] 0 0 (MQ below (vp_Si (fun r => r = res)) args s 0 0 (fun _ => False)) (F0 m 4 ls [])) : ∀ (ls : Array Slot) (x1 : Int32) (x2 : Int32) (x3 : Int32), lv_has ls 4 [(0, .ref (g.2.2.1 1)), (1, .int x1), (2, .int x2), (3, .int x3)] → f_X1_setWithout_4_b N S1  k4 x1 x2 x3 = some res → W p l e (headSpec wsX1_setWithout { frames := 1, cells := 0, slots := 0, locals := 22 }).room s m args below meth c s.heap [] 0 0 (MQ below (vp_Si (fun r => r = res)) args s 0 0 (fun _ => False)) (F0 m 4 ls []) := by
  intro ls x1 x2 x3 hl hf
  obtain ⟨⟨hx, hb, hr, hml, hown, hts, hlk⟩, hK, hP⟩ := id C
  unfold f_X1_setWithout_4_b at hf
  refine lv_iload_n (pc := 4) hx hb dX1_setWithout_4 rfl (lv_at hl 3 rfl) ?_
  refine lv_aload_n (pc := 5) hx hb dX1_setWithout_5 rfl (lv_at hl 0 rfl) ?_
  refine va_get (D := g.1) (ci := 1) (v := .int (S1.1 4)) (C := RX1) (T := TX1) (N := 5) (pc := 6) hx hb hts (fun _ h => List.mem_cons_of_mem _ (List.mem_append_right _ h)) hown hK hP 0 rfl rfl 4 (by decide) (hts _ q_X1_setWithout_0) (fun _ h9 => h9) rfl dX1_setWithout_6 ?_
  refine lv_icmp_ge (tgt := 38) (pc := 9) hx hb dX1_setWithout_9 (by decide) (fun c9 => ?_) (fun c9 => ?_)
  · have hf := ft hf c9
    refine lv_iload_n (pc := 38) hx hb dX1_setWithout_38 rfl (lv_at hl 2 rfl) ?_
    have hf := Option.some.inj hf
    subst hf
    exact W.iret (v := x2) hx hb hr (fun t ht hW => ⟨_, rfl, rfl, ht⟩) (fun _ h => by cases h) dX1_setWithout_39
  · have hf := ff hf c9
    refine lv_aload_n (pc := 12) hx hb dX1_setWithout_12 rfl (lv_at hl 0 rfl) ?_
    refine lv_iload_n (pc := 13) hx hb dX1_setWithout_13 rfl (lv_at hl 3 rfl) ?_
    refine lv_iload_n (pc := 14) hx hb dX1_setWithout_14 rfl (lv_at hl 1 rfl) ?_
    obtain ⟨r15, e15, hf⟩ := bdE hf
    refine krI (g := g) (wc := (wd_1 g S1)) (pc := 15) (As := [.int x3, .int x1]) (rest := []) ⟨hx, hb, hml, hown, hts⟩ (c_X1_holds l g N S1 x3 x1 r15 e15) (cwV 2 hts gX1_setWithout_X1_holds rfl rfl rfl h_X1_holds ⟨Nat.le_of_ble_eq_true rfl, Nat.le_of_ble_eq_true rfl⟩) hK hP rfl rfl rfl hl.1 rfl (Nat.le_of_ble_eq_true rfl) dX1_setWithout_15 ⟨Nat.zero_le _, Nat.zero_le _⟩ ?_
    refine lv_if_ne (tgt := 32) (pc := 18) hx hb dX1_setWithout_18 (by decide) (fun c18 => ?_) (fun c18 => ?_)
    · have hf := ff hf c18
      exact w_X1_setWithout_32 C k4 H4 ls x1 x2 x3 (lv_sub hl [0, 1, 2, 3] rfl) hf
    · have hf := ft hf c18
      refine lv_iload_n (pc := 21) hx hb dX1_setWithout_21 rfl (lv_at hl 2 rfl) ?_
      refine lv_iconst (v := 1) (pc := 22) hx hb dX1_setWithout_22 (by decide) ?_
      refine lv_aload_n (pc := 23) hx hb dX1_setWithout_23 rfl (lv_at hl 0 rfl) ?_
      refine va_get (D := g.1) (ci := 1) (v := .ref (g.2.2.2 1 0)) (C := RX1) (T := TX1) (N := 5) (pc := 24) hx hb hts (fun _ h => List.mem_cons_of_mem _ (List.mem_append_right _ h)) hown hK hP 0 rfl rfl 0 (by decide) (hts _ q_X1_setWithout_1) (fun _ h9 => h9) rfl dX1_setWithout_24 ?_
      refine lv_iload_n (pc := 27) hx hb dX1_setWithout_27 rfl (lv_at hl 3 rfl) ?_
      obtain ⟨b28, hf⟩ := gdE hf
      refine va_iald (D := g.1) (tys := tyl g) (f := (S1.2.2 0)) (pc := 28) hx hb hK hP 1 0 rfl rfl (inbV b28) dX1_setWithout_28 ?_
      refine lv_ishl (pc := 29) hx hb dX1_setWithout_29 ?_
      refine lv_ior (pc := 30) hx hb dX1_setWithout_30 ?_
      refine lv_istore_n (lv' := [(2, .int (x2 ||| (1 <<< (((S1.2.2 0) (Int32.toNatClampNeg x3)) &&& 31)))), (0, .ref (g.2.2.1 1)), (1, .int x1), (3, .int x3)]) (pc := 31) hx hb dX1_setWithout_31 rfl hl (by decide) rfl (fun ls hl => ?_)
      exact w_X1_setWithout_32 C k4 H4 ls x1 (x2 ||| (1 <<< (((S1.2.2 0) (Int32.toNatClampNeg x3)) &&& 31))) x3 (lv_sub hl [1, 2, 0, 3] rfl) hf
set_option maxHeartbeats 4000000 in
set_option maxRecDepth 100000 in
theorem w_X1_setWithout_4 {p : Program} {l : Launch} {e : Env} {s : State} {m : MethodId} {args : Array Value} {below : List Frame} {meth : Method} {c : Code} {g : En} {N : Nat} {S1 : St} {res : Int32} (C : cxr g (wd_1 g S1) cX1_setWithout 4 (some .int) wsX1_setWithout RX1 p s m args meth c) : ∀ (n : Nat), ∀ (ls : Array Slot) (x1 : Int32) (x2 : Int32) (x3 : Int32), lv_has ls 4 [(0, .ref (g.2.2.1 1)), (1, .int x1), (2, .int x2), (3, .int x3)] → f_X1_setWithout_4 N S1  n x1 x2 x3 = some res → W p l e (headSpec wsX1_setWithout { frames := 1, cells := 0, slots := 0, locals := 22 }).room s m args below meth c s.heap [] 0 0 (MQ below (vp_Si (fun r => r = res)) args s 0 0 (fun _ => False)) (F0 m 4 ls []) := by
  intro n
  induction n with
  | zero =>
    intro ls x1 x2 x3 hl hf
    have hf : (none : Option (Int32)) = some res := hf
    cases hf
  | succ n ih =>
    intro ls x1 x2 x3 hl hf
    exact w_X1_setWithout_4_b C  (fun y0 y1 y2 => f_X1_setWithout_4 N S1  n y0 y1 y2) ih ls x1 x2 x3 hl hf
set_option maxHeartbeats 4000000 in
set_option maxRecDepth 100000 in
theorem c_X1_setWithout (l : Launch) (g : En) (N : Nat) (S1 : St) (x1 : Int32) (res : Int32) (hf : f_X1_setWithout N S1 x1 = some res) : Met l yX1_setWithout wsX1_setWithout { frames := 1, cells := 0, slots := 0, locals := 22 } (roP g (wd_1 g S1) [.ref (g.2.2.1 1), .int x1]) (vp_Si (fun r => r = res)) 0 0 (fun _ => False) := by
  refine Met.ofW (cc := cX1_setWithout) (maxL := 4) (ret := (some .int)) (by decide) rfl ?_
  intro p e s m args below meth c s₁ B hml hv
  obtain ⟨rfl, hP, hK⟩ := hv
  have hx := B.exec
  have hb := B.bytes
  have hr := B.returns
  have hts := atoms_spec (ws := wsX1_setWithout) B.pre
  have hown : s.vm.findClass RX1 = some m.cls := findClass_of_methodNamed B.named
  have hlk := B.notSynchronized
  have C : cxr g (wd_1 g S1) cX1_setWithout 4 (some .int) wsX1_setWithout RX1 p s m ([.ref (g.2.2.1 1), .int x1] : List Value).toArray meth c := ⟨⟨hx, hb, hr, hml, hown, hts, hlk⟩, hK, hP⟩
  have hl := lv_entry [.ref (g.2.2.1 1), .int x1] (n := 4) (Nat.le_of_ble_eq_true rfl)
  rw [lg_entry_eq]
  generalize (lg_sl [.ref (g.2.2.1 1), .int x1] ++ List.replicate (4 - (lg_sl [.ref (g.2.2.1 1), .int x1]).length) Slot.unset).toArray = ls at hl ⊢
  have hl : lv_has ls 4 [(0, .ref (g.2.2.1 1)), (1, .int x1)] := hl
  unfold f_X1_setWithout at hf
  refine lv_iconst (v := 0) (pc := 0) hx hb dX1_setWithout_0 (by decide) ?_
  refine lv_istore_n (lv' := [(2, .int 0), (0, .ref (g.2.2.1 1)), (1, .int x1)]) (pc := 1) hx hb dX1_setWithout_1 rfl hl (by decide) rfl (fun ls hl => ?_)
  refine lv_iconst (v := 0) (pc := 2) hx hb dX1_setWithout_2 (by decide) ?_
  refine lv_istore_n (lv' := [(3, .int 0), (2, .int 0), (0, .ref (g.2.2.1 1)), (1, .int x1)]) (pc := 3) hx hb dX1_setWithout_3 rfl hl (by decide) rfl (fun ls hl => ?_)
  exact w_X1_setWithout_4 C  N ls x1 0 0 (lv_sub hl [2, 3, 1, 0] rfl) hf
theorem q_X1_weightOfAll_0 : (.fieldLink RX1 24 "PictureCourt$Known" "size" "I" : Cond) ∈ wsX1_weightOfAll := by decide +kernel
theorem q_X1_weightOfAll_1 : (.fieldLink RX1 21 "PictureCourt$Known" "weights" "[I" : Cond) ∈ wsX1_weightOfAll := by decide +kernel
theorem h_X1_weightOfAll : yX1_weightOfAll.cls = RX1 ∧ yX1_weightOfAll.cls ≠ "java/lang/invoke/MethodHandle" ∧ yX1_weightOfAll.cls ≠ "java/lang/invoke/VarHandle" ∧ (parseMethodDescriptor yX1_weightOfAll.desc).map (fun d => d.parameters.length) = some 0 := by decide +kernel
set_option maxHeartbeats 4000000 in
set_option maxRecDepth 100000 in
theorem w_X1_weightOfAll_4_b {p : Program} {l : Launch} {e : Env} {s : State} {m : MethodId} {args : Array Value} {below : List Frame} {meth : Method} {c : Code} {g : En} {N : Nat} {S1 : St} {res : Int32} (C : cxr g (wd_1 g S1) cX1_weightOfAll 3 (some .int) wsX1_weightOfAll RX1 p s m args meth c) (k4 : Int32 → Int32 → Option (Int32)) (H4 : ∀ (ls : Array Slot) (x1 : Int32) (x2 : Int32), lv_has ls 3 [(0, .ref (g.2.2.1 1)), (1, .int x1), (2, .int x2)] → k4 x1 x2 = some res → W p l e (headSpec wsX1_weightOfAll { frames := 0, cells := 0, slots := 0, locals := 0 }).room s m args below meth c s.heap [] 0 0 (MQ below (vp_Si (fun r => r = res)) args s 0 0 (fun _ => False)) (F0 m 4 ls [])) : ∀ (ls : Array Slot) (x1 : Int32) (x2 : Int32), lv_has ls 3 [(0, .ref (g.2.2.1 1)), (1, .int x1), (2, .int x2)] → f_X1_weightOfAll_4_b N S1  k4 x1 x2 = some res → W p l e (headSpec wsX1_weightOfAll { frames := 0, cells := 0, slots := 0, locals := 0 }).room s m args below meth c s.heap [] 0 0 (MQ below (vp_Si (fun r => r = res)) args s 0 0 (fun _ => False)) (F0 m 4 ls []) := by
  intro ls x1 x2 hl hf
  obtain ⟨⟨hx, hb, hr, hml, hown, hts, hlk⟩, hK, hP⟩ := id C
  unfold f_X1_weightOfAll_4_b at hf
  refine lv_iload_n (pc := 4) hx hb dX1_weightOfAll_4 rfl (lv_at hl 2 rfl) ?_
  refine lv_aload_n (pc := 5) hx hb dX1_weightOfAll_5 rfl (lv_at hl 0 rfl) ?_
  refine va_get (D := g.1) (ci := 1) (v := .int (S1.1 4)) (C := RX1) (T := TX1) (N := 5) (pc := 6) hx hb hts (fun _ h => List.mem_cons_of_mem _ (List.mem_append_right _ h)) hown hK hP 0 rfl rfl 4 (by decide) (hts _ q_X1_weightOfAll_0) (fun _ h9 => h9) rfl dX1_weightOfAll_6 ?_
  refine lv_icmp_ge (tgt := 27) (pc := 9) hx hb dX1_weightOfAll_9 (by decide) (fun c9 => ?_) (fun c9 => ?_)
  · have hf := ft hf c9
    refine lv_iload_n (pc := 27) hx hb dX1_weightOfAll_27 rfl (lv_at hl 1 rfl) ?_
    have hf := Option.some.inj hf
    subst hf
    exact W.iret (v := x1) hx hb hr (fun t ht hW => ⟨_, rfl, rfl, ht⟩) (fun _ h => by cases h) dX1_weightOfAll_28
  · have hf := ff hf c9
    refine lv_iload_n (pc := 12) hx hb dX1_weightOfAll_12 rfl (lv_at hl 1 rfl) ?_
    refine lv_aload_n (pc := 13) hx hb dX1_weightOfAll_13 rfl (lv_at hl 0 rfl) ?_
    refine va_get (D := g.1) (ci := 1) (v := .ref (g.2.2.2 1 3)) (C := RX1) (T := TX1) (N := 5) (pc := 14) hx hb hts (fun _ h => List.mem_cons_of_mem _ (List.mem_append_right _ h)) hown hK hP 0 rfl rfl 3 (by decide) (hts _ q_X1_weightOfAll_1) (fun _ h9 => h9) rfl dX1_weightOfAll_14 ?_
    refine lv_iload_n (pc := 17) hx hb dX1_weightOfAll_17 rfl (lv_at hl 2 rfl) ?_
    obtain ⟨b18, hf⟩ := gdE hf
    refine va_iald (D := g.1) (tys := tyl g) (f := (S1.2.2 3)) (pc := 18) hx hb hK hP 4 0 rfl rfl (inbV b18) dX1_weightOfAll_18 ?_
    refine lv_iadd (pc := 19) hx hb dX1_weightOfAll_19 ?_
    refine lv_istore_n (lv' := [(1, .int (x1 + ((S1.2.2 3) (Int32.toNatClampNeg x2)))), (0, .ref (g.2.2.1 1)), (2, .int x2)]) (pc := 20) hx hb dX1_weightOfAll_20 rfl hl (by decide) rfl (fun ls hl => ?_)
    refine lv_iinc (v := (x2 + 1)) (lv' := [(2, .int (x2 + 1)), (1, .int (x1 + ((S1.2.2 3) (Int32.toNatClampNeg x2)))), (0, .ref (g.2.2.1 1))]) (pc := 21) hx hb dX1_weightOfAll_21 hl (k := 2) rfl rfl (by decide) rfl (fun ls hl => ?_)
    refine lv_goto (tgt := 4) (pc := 24) hx hb dX1_weightOfAll_24 (by decide) ?_
    exact H4 ls (x1 + ((S1.2.2 3) (Int32.toNatClampNeg x2))) (x2 + 1) (lv_sub hl [2, 1, 0] rfl) hf
set_option maxHeartbeats 4000000 in
set_option maxRecDepth 100000 in
theorem w_X1_weightOfAll_4 {p : Program} {l : Launch} {e : Env} {s : State} {m : MethodId} {args : Array Value} {below : List Frame} {meth : Method} {c : Code} {g : En} {N : Nat} {S1 : St} {res : Int32} (C : cxr g (wd_1 g S1) cX1_weightOfAll 3 (some .int) wsX1_weightOfAll RX1 p s m args meth c) : ∀ (n : Nat), ∀ (ls : Array Slot) (x1 : Int32) (x2 : Int32), lv_has ls 3 [(0, .ref (g.2.2.1 1)), (1, .int x1), (2, .int x2)] → f_X1_weightOfAll_4 N S1  n x1 x2 = some res → W p l e (headSpec wsX1_weightOfAll { frames := 0, cells := 0, slots := 0, locals := 0 }).room s m args below meth c s.heap [] 0 0 (MQ below (vp_Si (fun r => r = res)) args s 0 0 (fun _ => False)) (F0 m 4 ls []) := by
  intro n
  induction n with
  | zero =>
    intro ls x1 x2 hl hf
    have hf : (none : Option (Int32)) = some res := hf
    cases hf
  | succ n ih =>
    intro ls x1 x2 hl hf
    exact w_X1_weightOfAll_4_b C  (fun y0 y1 => f_X1_weightOfAll_4 N S1  n y0 y1) ih ls x1 x2 hl hf
set_option maxHeartbeats 4000000 in
set_option maxRecDepth 100000 in
theorem c_X1_weightOfAll (l : Launch) (g : En) (N : Nat) (S1 : St) (res : Int32) (hf : f_X1_weightOfAll N S1 = some res) : Met l yX1_weightOfAll wsX1_weightOfAll { frames := 0, cells := 0, slots := 0, locals := 0 } (roP g (wd_1 g S1) [.ref (g.2.2.1 1)]) (vp_Si (fun r => r = res)) 0 0 (fun _ => False) := by
  refine Met.ofW (cc := cX1_weightOfAll) (maxL := 3) (ret := (some .int)) (by decide) rfl ?_
  intro p e s m args below meth c s₁ B hml hv
  obtain ⟨rfl, hP, hK⟩ := hv
  have hx := B.exec
  have hb := B.bytes
  have hr := B.returns
  have hts := atoms_spec (ws := wsX1_weightOfAll) B.pre
  have hown : s.vm.findClass RX1 = some m.cls := findClass_of_methodNamed B.named
  have hlk := B.notSynchronized
  have C : cxr g (wd_1 g S1) cX1_weightOfAll 3 (some .int) wsX1_weightOfAll RX1 p s m ([.ref (g.2.2.1 1)] : List Value).toArray meth c := ⟨⟨hx, hb, hr, hml, hown, hts, hlk⟩, hK, hP⟩
  have hl := lv_entry [.ref (g.2.2.1 1)] (n := 3) (Nat.le_of_ble_eq_true rfl)
  rw [lg_entry_eq]
  generalize (lg_sl [.ref (g.2.2.1 1)] ++ List.replicate (3 - (lg_sl [.ref (g.2.2.1 1)]).length) Slot.unset).toArray = ls at hl ⊢
  have hl : lv_has ls 3 [(0, .ref (g.2.2.1 1))] := hl
  unfold f_X1_weightOfAll at hf
  refine lv_iconst (v := 0) (pc := 0) hx hb dX1_weightOfAll_0 (by decide) ?_
  refine lv_istore_n (lv' := [(1, .int 0), (0, .ref (g.2.2.1 1))]) (pc := 1) hx hb dX1_weightOfAll_1 rfl hl (by decide) rfl (fun ls hl => ?_)
  refine lv_iconst (v := 0) (pc := 2) hx hb dX1_weightOfAll_2 (by decide) ?_
  refine lv_istore_n (lv' := [(2, .int 0), (1, .int 0), (0, .ref (g.2.2.1 1))]) (pc := 3) hx hb dX1_weightOfAll_3 rfl hl (by decide) rfl (fun ls hl => ?_)
  exact w_X1_weightOfAll_4 C  N ls 0 0 (lv_sub hl [2, 1, 0] rfl) hf
