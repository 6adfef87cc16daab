theorem q_X4_isFull_0 : (.fieldLink RX4 18 "PictureCourt$Owners" "size" "I" : Cond) ∈ wsX4_isFull := by decide +kernel
theorem h_X4_isFull : yX4_isFull.cls = RX4 ∧ yX4_isFull.cls ≠ "java/lang/invoke/MethodHandle" ∧ yX4_isFull.cls ≠ "java/lang/invoke/VarHandle" ∧ (parseMethodDescriptor yX4_isFull.desc).map (fun d => d.parameters.length) = some 0 := by decide +kernel
set_option maxHeartbeats 4000000 in
set_option maxRecDepth 100000 in
theorem c_X4_isFull (l : Launch) (g : En) (N : Nat) (S4 : St) (res : Int32) (hf : f_X4_isFull N S4 = some res) : Met l yX4_isFull wsX4_isFull { frames := 0, cells := 0, slots := 0, locals := 0 } (roP g (wd_4 g S4) [.ref (g.2.2.1 4)]) (vp_Si (fun r => r = res)) 0 0 (fun _ => False) := by
  refine Met.ofW (cc := cX4_isFull) (maxL := 1) (ret := (some .boolean)) (by decide) rfl ?_
  intro p e s m args below meth c s₁ B hml hv
  obtain ⟨rfl, hP, hK⟩ := hv
  have hx := B.exec
  have hb := B.bytes
  have hr := B.returns
  have hts := atoms_spec (ws := wsX4_isFull) B.pre
  have hown : s.vm.findClass RX4 = some m.cls := findClass_of_methodNamed B.named
  have hlk := B.notSynchronized
  have C : cxr g (wd_4 g S4) cX4_isFull 1 (some .boolean) wsX4_isFull RX4 p s m ([.ref (g.2.2.1 4)] : List Value).toArray meth c := ⟨⟨hx, hb, hr, hml, hown, hts, hlk⟩, hK, hP⟩
  have hl := lv_entry [.ref (g.2.2.1 4)] (n := 1) (Nat.le_of_ble_eq_true rfl)
  rw [lg_entry_eq]
  generalize (lg_sl [.ref (g.2.2.1 4)] ++ List.replicate (1 - (lg_sl [.ref (g.2.2.1 4)]).length) Slot.unset).toArray = ls at hl ⊢
  have hl : lv_has ls 1 [(0, .ref (g.2.2.1 4))] := hl
  unfold f_X4_isFull at hf
  refine lv_aload_n (pc := 0) hx hb dX4_isFull_0 rfl (lv_at hl 0 rfl) ?_
  refine va_get (D := g.1) (ci := 4) (v := .int (S4.1 2)) (C := RX4) (T := TX4) (N := 5) (pc := 1) hx hb hts (fun _ h => List.mem_cons_of_mem _ (List.mem_append_right _ h)) hown hK hP 0 rfl rfl 2 (by decide) (hts _ q_X4_isFull_0) (fun _ h9 => h9) rfl dX4_isFull_1 ?_
  refine lv_bipush (v := 20) (pc := 4) hx hb dX4_isFull_4 (by decide) ?_
  refine lv_icmp_lt (tgt := 13) (pc := 6) hx hb dX4_isFull_6 (by decide) (fun c6 => ?_) (fun c6 => ?_)
  · have hf := ft hf c6
    refine lv_iconst (v := 0) (pc := 13) hx hb dX4_isFull_13 (by decide) ?_
    have hf := Option.some.inj hf
    subst hf
    exact W.zret (v := 0) hx hb hr rfl (fun t ht hW => ⟨_, rfl, rfl, ht⟩) (fun _ h => by cases h) dX4_isFull_14
  · have hf := ff hf c6
    refine lv_iconst (v := 1) (pc := 9) hx hb dX4_isFull_9 (by decide) ?_
    refine lv_goto (tgt := 14) (pc := 10) hx hb dX4_isFull_10 (by decide) ?_
    have hf := Option.some.inj hf
    subst hf
    exact W.zret (v := 1) hx hb hr rfl (fun t ht hW => ⟨_, rfl, rfl, ht⟩) (fun _ h => by cases h) dX4_isFull_14
theorem q_X4_add_0 : (.fieldLink RX4 9 "PictureCourt$Owners" "froms" "[I" : Cond) ∈ wsX4_add := by decide +kernel
theorem q_X4_add_1 : (.fieldLink RX4 15 "PictureCourt$Owners" "tos" "[I" : Cond) ∈ wsX4_add := by decide +kernel
theorem q_X4_add_2 : (.fieldLink RX4 18 "PictureCourt$Owners" "size" "I" : Cond) ∈ wsX4_add := by decide +kernel
theorem h_X4_add : yX4_add.cls = RX4 ∧ yX4_add.cls ≠ "java/lang/invoke/MethodHandle" ∧ yX4_add.cls ≠ "java/lang/invoke/VarHandle" ∧ (parseMethodDescriptor yX4_add.desc).map (fun d => d.parameters.length) = some 2 := by decide +kernel
set_option maxHeartbeats 4000000 in
set_option maxRecDepth 100000 in
theorem w_X4_add_55 {p : Program} {l : Launch} {e : Env} {s : State} {m : MethodId} {args : Array Value} {below : List Frame} {meth : Method} {c : Code} {g : En} {A : Nat → Prop} {N : Nat} {res : Int32 × St} (C : cxw g A cX4_add 4 (some .int) wsX4_add RX4 p s m args meth c) : ∀ (H : Heap) (locs : List Loc) (S4 : St) (ls : Array Slot) (x1 : Int32) (x2 : Int32) (x3 : Int32), va_P g.1 vwCl (wd_4 g S4) H → va_D A (wd_4 g S4) → va_S A s.heap H locs → lv_has ls 4 [(0, .ref (g.2.2.1 4)), (1, .int x1), (2, .int x2), (3, .int x3)] → f_X4_add_55 N   S4 x1 x2 x3 = some res → W p l e (headSpec wsX4_add { frames := 0, cells := 0, slots := 0, locals := 0 }).room s m args below meth c H locs 0 0 (MQ below (rwQi g (wd_4 g (res.2)) A (res.1)) args s 0 0 A) (F0 m 55 ls []) := by
  intro H locs S4 ls x1 x2 x3 hP hD hS hl hf
  obtain ⟨⟨hx, hb, hr, hml, hown, hts, hlk⟩, hK, hA⟩ := id C
  unfold f_X4_add_55 at hf
  refine lv_aload_n (pc := 55) hx hb dX4_add_55 rfl (lv_at hl 0 rfl) ?_
  refine va_get (D := g.1) (ci := 4) (v := .ref (g.2.2.2 4 0)) (C := RX4) (T := TX4) (N := 5) (pc := 56) hx hb hts (fun _ h => List.mem_cons_of_mem _ (List.mem_append_right _ h)) hown hK hP 0 rfl rfl 0 (by decide) (hts _ q_X4_add_0) (fun _ h9 => h9) rfl dX4_add_56 ?_
  refine lv_iload_n (pc := 59) hx hb dX4_add_59 rfl (lv_at hl 3 rfl) ?_
  refine lv_iload_n (pc := 60) hx hb dX4_add_60 rfl (lv_at hl 1 rfl) ?_
  obtain ⟨b61, hf⟩ := gdE hf
  refine va_iast (D := g.1) (tys := tyl g) (f := (S4.2.2 0)) (pc := 61) hx hb hK hP hD hS 1 0 rfl rfl (inbV b61) dX4_add_61 (fun H locs hP hD hS => ?_)
  have hP := u_4_4_0P S4 (upd (S4.2.2 0) (Int32.toNatClampNeg x3) x1) hP
  have hD := u_4_4_0D S4 (upd (S4.2.2 0) (Int32.toNatClampNeg x3) x1) hD
  refine lv_aload_n (pc := 62) hx hb dX4_add_62 rfl (lv_at hl 0 rfl) ?_
  refine va_get (D := g.1) (ci := 4) (v := .ref (g.2.2.2 4 1)) (C := RX4) (T := TX4) (N := 5) (pc := 63) hx hb hts (fun _ h => List.mem_cons_of_mem _ (List.mem_append_right _ h)) hown hK hP 0 rfl rfl 1 (by decide) (hts _ q_X4_add_1) (fun _ h9 => h9) rfl dX4_add_63 ?_
  refine lv_iload_n (pc := 66) hx hb dX4_add_66 rfl (lv_at hl 3 rfl) ?_
  refine lv_iload_n (pc := 67) hx hb dX4_add_67 rfl (lv_at hl 2 rfl) ?_
  obtain ⟨b68, hf⟩ := gdE hf
  refine va_iast (D := g.1) (tys := tyl g) (f := (S4.2.2 1)) (pc := 68) hx hb hK hP hD hS 2 0 rfl rfl (inbV b68) dX4_add_68 (fun H locs hP hD hS => ?_)
  have hP := u_4_4_1P (sA S4 0 (upd (S4.2.2 0) (Int32.toNatClampNeg x3) x1)) (upd (S4.2.2 1) (Int32.toNatClampNeg x3) x2) hP
  have hD := u_4_4_1D (sA S4 0 (upd (S4.2.2 0) (Int32.toNatClampNeg x3) x1)) (upd (S4.2.2 1) (Int32.toNatClampNeg x3) x2) hD
  refine lv_aload_n (pc := 69) hx hb dX4_add_69 rfl (lv_at hl 0 rfl) ?_
  refine lv_dup (pc := 70) hx hb dX4_add_70 rfl ?_
  refine va_get (D := g.1) (ci := 4) (v := .int (S4.1 2)) (C := RX4) (T := TX4) (N := 5) (pc := 71) hx hb hts (fun _ h => List.mem_cons_of_mem _ (List.mem_append_right _ h)) hown hK hP 0 rfl rfl 2 (by decide) (hts _ q_X4_add_2) (fun _ h9 => h9) rfl dX4_add_71 ?_
  refine lv_iconst (v := 1) (pc := 74) hx hb dX4_add_74 (by decide) ?_
  refine lv_iadd (pc := 75) hx hb dX4_add_75 ?_
  refine va_put (D := g.1) (ci := 4) (v := .int ((S4.1 2) + 1)) (ty := .int) (C := RX4) (T := TX4) (N := 5) (pc := 76) hx hb hts (fun _ h => List.mem_cons_of_mem _ (List.mem_append_right _ h)) tyX4 tyX4_ok nmX4 hown hK hP hD hS 0 rfl rfl 2 (by decide) (hts _ q_X4_add_2) (fun _ h9 => h9) rfl rfl rfl rfl (Nat.le_of_ble_eq_true rfl) dX4_add_76 (fun H locs hP hD hS => ?_)
  have hP := u_4_4_2P (sA (sA S4 0 (upd (S4.2.2 0) (Int32.toNatClampNeg x3) x1)) 1 (upd (S4.2.2 1) (Int32.toNatClampNeg x3) x2)) ((S4.1 2) + 1) hP
  have hD := u_4_4_2D (sA (sA S4 0 (upd (S4.2.2 0) (Int32.toNatClampNeg x3) x1)) 1 (upd (S4.2.2 1) (Int32.toNatClampNeg x3) x2)) ((S4.1 2) + 1) hD
  refine lv_aload_n (pc := 79) hx hb dX4_add_79 rfl (lv_at hl 0 rfl) ?_
  refine va_get (D := g.1) (ci := 4) (v := .int ((S4.1 2) + 1)) (C := RX4) (T := TX4) (N := 5) (pc := 80) hx hb hts (fun _ h => List.mem_cons_of_mem _ (List.mem_append_right _ h)) hown hK hP 0 rfl rfl 2 (by decide) (hts _ q_X4_add_2) (fun _ h9 => h9) rfl dX4_add_80 ?_
  have hf := Option.some.inj hf
  subst hf
  exact W.iret (v := ((S4.1 2) + 1)) hx hb hr (fun t ht hW => ⟨⟨_, (), rfl, rfl, by rw [ht]; exact hP, va_K.moved hW.alike hK, hD⟩, hS.F ht⟩) hS.2.2 dX4_add_83
set_option maxHeartbeats 4000000 in
set_option maxRecDepth 100000 in
theorem w_X4_add_5_b {p : Program} {l : Launch} {e : Env} {s : State} {m : MethodId} {args : Array Value} {below : List Frame} {meth : Method} {c : Code} {g : En} {A : Nat → Prop} {N : Nat} {res : Int32 × St} (C : cxw g A cX4_add 4 (some .int) wsX4_add RX4 p s m args meth c) (k5 : St → Int32 → Int32 → Int32 → Option (Int32 × St)) (H5 : ∀ (H : Heap) (locs : List Loc) (S4 : St) (ls : Array Slot) (x1 : Int32) (x2 : Int32) (x3 : Int32), va_P g.1 vwCl (wd_4 g S4) H → va_D A (wd_4 g S4) → va_S A s.heap H locs → lv_has ls 4 [(0, .ref (g.2.2.1 4)), (1, .int x1), (2, .int x2), (3, .int x3)] → k5 S4 x1 x2 x3 = some res → W p l e (headSpec wsX4_add { frames := 0, cells := 0, slots := 0, locals := 0 }).room s m args below meth c H locs 0 0 (MQ below (rwQi g (wd_4 g (res.2)) A (res.1)) args s 0 0 A) (F0 m 5 ls [])) : ∀ (H : Heap) (locs : List Loc) (S4 : St) (ls : Array Slot) (x1 : Int32) (x2 : Int32) (x3 : Int32), va_P g.1 vwCl (wd_4 g S4) H → va_D A (wd_4 g S4) → va_S A s.heap H locs → lv_has ls 4 [(0, .ref (g.2.2.1 4)), (1, .int x1), (2, .int x2), (3, .int x3)] → f_X4_add_5_b N   k5 S4 x1 x2 x3 = some res → W p l e (headSpec wsX4_add { frames := 0, cells := 0, slots := 0, locals := 0 }).room s m args below meth c H locs 0 0 (MQ below (rwQi g (wd_4 g (res.2)) A (res.1)) args s 0 0 A) (F0 m 5 ls []) := by
  intro H locs S4 ls x1 x2 x3 hP hD hS hl hf
  obtain ⟨⟨hx, hb, hr, hml, hown, hts, hlk⟩, hK, hA⟩ := id C
  unfold f_X4_add_5_b at hf
  refine lv_iload_n (pc := 5) hx hb dX4_add_5 rfl (lv_at hl 3 rfl) ?_
  refine lv_if_le (tgt := 55) (pc := 6) hx hb dX4_add_6 (by decide) (fun c6 => ?_) (fun c6 => ?_)
  · have hf := ft hf c6
    exact w_X4_add_55 C  H locs S4 ls x1 x2 x3 hP hD hS (lv_sub hl [0, 1, 2, 3] rfl) hf
  · have hf := ff hf c6
    refine lv_aload_n (pc := 9) hx hb dX4_add_9 rfl (lv_at hl 0 rfl) ?_
    refine va_get (D := g.1) (ci := 4) (v := .ref (g.2.2.2 4 0)) (C := RX4) (T := TX4) (N := 5) (pc := 10) hx hb hts (fun _ h => List.mem_cons_of_mem _ (List.mem_append_right _ h)) hown hK hP 0 rfl rfl 0 (by decide) (hts _ q_X4_add_0) (fun _ h9 => h9) rfl dX4_add_10 ?_
    refine lv_iload_n (pc := 13) hx hb dX4_add_13 rfl (lv_at hl 3 rfl) ?_
    refine lv_iconst (v := 1) (pc := 14) hx hb dX4_add_14 (by decide) ?_
    refine lv_isub (pc := 15) hx hb dX4_add_15 ?_
    obtain ⟨b16, hf⟩ := gdE hf
    refine va_iald (D := g.1) (tys := tyl g) (f := (S4.2.2 0)) (pc := 16) hx hb hK hP 1 0 rfl rfl (inbV b16) dX4_add_16 ?_
    refine lv_iload_n (pc := 17) hx hb dX4_add_17 rfl (lv_at hl 1 rfl) ?_
    refine lv_icmp_le (tgt := 55) (pc := 18) hx hb dX4_add_18 (by decide) (fun c18 => ?_) (fun c18 => ?_)
    · have hf := ft hf c18
      exact w_X4_add_55 C  H locs S4 ls x1 x2 x3 hP hD hS (lv_sub hl [0, 1, 2, 3] rfl) hf
    · have hf := ff hf c18
      refine lv_aload_n (pc := 21) hx hb dX4_add_21 rfl (lv_at hl 0 rfl) ?_
      refine va_get (D := g.1) (ci := 4) (v := .ref (g.2.2.2 4 0)) (C := RX4) (T := TX4) (N := 5) (pc := 22) hx hb hts (fun _ h => List.mem_cons_of_mem _ (List.mem_append_right _ h)) hown hK hP 0 rfl rfl 0 (by decide) (hts _ q_X4_add_0) (fun _ h9 => h9) rfl dX4_add_22 ?_
      refine lv_iload_n (pc := 25) hx hb dX4_add_25 rfl (lv_at hl 3 rfl) ?_
      refine lv_aload_n (pc := 26) hx hb dX4_add_26 rfl (lv_at hl 0 rfl) ?_
      refine va_get (D := g.1) (ci := 4) (v := .ref (g.2.2.2 4 0)) (C := RX4) (T := TX4) (N := 5) (pc := 27) hx hb hts (fun _ h => List.mem_cons_of_mem _ (List.mem_append_right _ h)) hown hK hP 0 rfl rfl 0 (by decide) (hts _ q_X4_add_0) (fun _ h9 => h9) rfl dX4_add_27 ?_
      refine lv_iload_n (pc := 30) hx hb dX4_add_30 rfl (lv_at hl 3 rfl) ?_
      refine lv_iconst (v := 1) (pc := 31) hx hb dX4_add_31 (by decide) ?_
      refine lv_isub (pc := 32) hx hb dX4_add_32 ?_
      obtain ⟨b33, hf⟩ := gdE hf
      refine va_iald (D := g.1) (tys := tyl g) (f := (S4.2.2 0)) (pc := 33) hx hb hK hP 1 0 rfl rfl (inbV b33) dX4_add_33 ?_
      obtain ⟨b34, hf⟩ := gdE hf
      refine va_iast (D := g.1) (tys := tyl g) (f := (S4.2.2 0)) (pc := 34) hx hb hK hP hD hS 1 0 rfl rfl (inbV b34) dX4_add_34 (fun H locs hP hD hS => ?_)
      have hP := u_4_4_0P S4 (upd (S4.2.2 0) (Int32.toNatClampNeg x3) ((S4.2.2 0) (Int32.toNatClampNeg (x3 - 1)))) hP
      have hD := u_4_4_0D S4 (upd (S4.2.2 0) (Int32.toNatClampNeg x3) ((S4.2.2 0) (Int32.toNatClampNeg (x3 - 1)))) hD
      refine lv_aload_n (pc := 35) hx hb dX4_add_35 rfl (lv_at hl 0 rfl) ?_
      refine va_get (D := g.1) (ci := 4) (v := .ref (g.2.2.2 4 1)) (C := RX4) (T := TX4) (N := 5) (pc := 36) hx hb hts (fun _ h => List.mem_cons_of_mem _ (List.mem_append_right _ h)) hown hK hP 0 rfl rfl 1 (by decide) (hts _ q_X4_add_1) (fun _ h9 => h9) rfl dX4_add_36 ?_
      refine lv_iload_n (pc := 39) hx hb dX4_add_39 rfl (lv_at hl 3 rfl) ?_
      refine lv_aload_n (pc := 40) hx hb dX4_add_40 rfl (lv_at hl 0 rfl) ?_
      refine va_get (D := g.1) (ci := 4) (v := .ref (g.2.2.2 4 1)) (C := RX4) (T := TX4) (N := 5) (pc := 41) hx hb hts (fun _ h => List.mem_cons_of_mem _ (List.mem_append_right _ h)) hown hK hP 0 rfl rfl 1 (by decide) (hts _ q_X4_add_1) (fun _ h9 => h9) rfl dX4_add_41 ?_
      refine lv_iload_n (pc := 44) hx hb dX4_add_44 rfl (lv_at hl 3 rfl) ?_
      refine lv_iconst (v := 1) (pc := 45) hx hb dX4_add_45 (by decide) ?_
      refine lv_isub (pc := 46) hx hb dX4_add_46 ?_
      obtain ⟨b47, hf⟩ := gdE hf
      refine va_iald (D := g.1) (tys := tyl g) (f := (S4.2.2 1)) (pc := 47) hx hb hK hP 2 0 rfl rfl (inbV b47) dX4_add_47 ?_
      obtain ⟨b48, hf⟩ := gdE hf
      refine va_iast (D := g.1) (tys := tyl g) (f := (S4.2.2 1)) (pc := 48) hx hb hK hP hD hS 2 0 rfl rfl (inbV b48) dX4_add_48 (fun H locs hP hD hS => ?_)
      have hP := u_4_4_1P (sA S4 0 (upd (S4.2.2 0) (Int32.toNatClampNeg x3) ((S4.2.2 0) (Int32.toNatClampNeg (x3 - 1))))) (upd (S4.2.2 1) (Int32.toNatClampNeg x3) ((S4.2.2 1) (Int32.toNatClampNeg (x3 - 1)))) hP
      have hD := u_4_4_1D (sA S4 0 (upd (S4.2.2 0) (Int32.toNatClampNeg x3) ((S4.2.2 0) (Int32.toNatClampNeg (x3 - 1))))) (upd (S4.2.2 1) (Int32.toNatClampNeg x3) ((S4.2.2 1) (Int32.toNatClampNeg (x3 - 1)))) hD
      refine lv_iinc (v := (x3 + (-1))) (lv' := [(3, .int (x3 + (-1))), (0, .ref (g.2.2.1 4)), (1, .int x1), (2, .int x2)]) (pc := 49) hx hb dX4_add_49 hl (k := 3) rfl rfl (by decide) rfl (fun ls hl => ?_)
      refine lv_goto (tgt := 5) (pc := 52) hx hb dX4_add_52 (by decide) ?_
      exact H5 H locs (sA (sA S4 0 (upd (S4.2.2 0) (Int32.toNatClampNeg x3) ((S4.2.2 0) (Int32.toNatClampNeg (x3 - 1))))) 1 (upd (S4.2.2 1) (Int32.toNatClampNeg x3) ((S4.2.2 1) (Int32.toNatClampNeg (x3 - 1))))) ls x1 x2 (x3 + (-1)) hP hD hS (lv_sub hl [1, 2, 3, 0] rfl) hf
set_option maxHeartbeats 4000000 in
set_option maxRecDepth 100000 in
theorem w_X4_add_5 {p : Program} {l : Launch} {e : Env} {s : State} {m : MethodId} {args : Array Value} {below : List Frame} {meth : Method} {c : Code} {g : En} {A : Nat → Prop} {N : Nat} {res : Int32 × St} (C : cxw g A cX4_add 4 (some .int) wsX4_add RX4 p s m args meth c) : ∀ (n : Nat), ∀ (H : Heap) (locs : List Loc) (S4 : St) (ls : Array Slot) (x1 : Int32) (x2 : Int32) (x3 : Int32), va_P g.1 vwCl (wd_4 g S4) H → va_D A (wd_4 g S4) → va_S A s.heap H locs → lv_has ls 4 [(0, .ref (g.2.2.1 4)), (1, .int x1), (2, .int x2), (3, .int x3)] → f_X4_add_5 N   n S4 x1 x2 x3 = some res → W p l e (headSpec wsX4_add { frames := 0, cells := 0, slots := 0, locals := 0 }).room s m args below meth c H locs 0 0 (MQ below (rwQi g (wd_4 g (res.2)) A (res.1)) args s 0 0 A) (F0 m 5 ls []) := by
  intro n
  induction n with
  | zero =>
    intro H locs S4 ls x1 x2 x3 hP hD hS hl hf
    have hf : (none : Option (Int32 × St)) = some res := hf
    cases hf
  | succ n ih =>
    intro H locs S4 ls x1 x2 x3 hP hD hS hl hf
    exact w_X4_add_5_b C  (fun y0 y1 y2 y3 => f_X4_add_5 N   n y0 y1 y2 y3) ih H locs S4 ls x1 x2 x3 hP hD hS hl hf
set_option maxHeartbeats 4000000 in
set_option maxRecDepth 100000 in
theorem c_X4_add (l : Launch) (g : En) (N : Nat) (sz : Nat) (S4 : St) (x1 : Int32) (x2 : Int32) (res : Int32 × St) (hf : f_X4_add N S4 x1 x2 = some res) : Met l yX4_add wsX4_add { frames := 0, cells := 0, slots := 0, locals := 0 } (rwP g (wd_4 g S4) sz [.ref (g.2.2.1 4), .int x1, .int x2]) (rwQi g (wd_4 g (res.2)) (va_A (wd_4 g S4) sz) (res.1)) 0 0 (va_A (wd_4 g S4) sz) := by
  refine Met.ofW (cc := cX4_add) (maxL := 4) (ret := (some .int)) (by decide) rfl ?_
  intro p e s m args below meth c s₁ B hml hv
  obtain ⟨rfl, hsz, hP, hK, hD0⟩ := hv
  have hx := B.exec
  have hb := B.bytes
  have hr := B.returns
  have hts := atoms_spec (ws := wsX4_add) B.pre
  have hown : s.vm.findClass RX4 = some m.cls := findClass_of_methodNamed B.named
  have hlk := B.notSynchronized
  subst hsz
  have hD := hD0.self (sz := s.heap.size)
  generalize hAe : va_A (wd_4 g S4) s.heap.size = A at hD ⊢
  have hA : ∀ q : Nat, s.heap.size ≤ q → A q := fun q h => by rw [← hAe]; exact Or.inr h
  have hS : va_S A s.heap s.heap [] := va_S.rf
  have C : cxw g A cX4_add 4 (some .int) wsX4_add RX4 p s m ([.ref (g.2.2.1 4), .int x1, .int x2] : List Value).toArray meth c := ⟨⟨hx, hb, hr, hml, hown, hts, hlk⟩, hK, hA⟩
  have hl := lv_entry [.ref (g.2.2.1 4), .int x1, .int x2] (n := 4) (Nat.le_of_ble_eq_true rfl)
  rw [lg_entry_eq]
  generalize (lg_sl [.ref (g.2.2.1 4), .int x1, .int x2] ++ List.replicate (4 - (lg_sl [.ref (g.2.2.1 4), .int x1, .int x2]).length) Slot.unset).toArray = ls at hl ⊢
  have hl : lv_has ls 4 [(0, .ref (g.2.2.1 4)), (1, .int x1), (2, .int x2)] := hl
  unfold f_X4_add at hf
  suffices K9 : ∀ (H : Heap) (locs : List Loc), va_P g.1 vwCl (wd_4 g S4) H → va_D A (wd_4 g S4) → va_S A s.heap H locs → (f_X4_add_5 N   N S4 x1 x2 (S4.1 2)) = some res → W p l e (headSpec wsX4_add { frames := 0, cells := 0, slots := 0, locals := 0 }).room s m ([.ref (g.2.2.1 4), .int x1, .int x2] : List Value).toArray below meth c H locs 0 0 (MQ below (rwQi g (wd_4 g (res.2)) A (res.1)) ([.ref (g.2.2.1 4), .int x1, .int x2] : List Value).toArray s 0 0 A) (F0 m 0 ls []) from K9 s.heap [] hP hD hS hf
  clear hP hD hS hf
  intro H locs hP hD hS hf
  refine lv_aload_n (pc := 0) hx hb dX4_add_0 rfl (lv_at hl 0 rfl) ?_
  refine va_get (D := g.1) (ci := 4) (v := .int (S4.1 2)) (C := RX4) (T := TX4) (N := 5) (pc := 1) hx hb hts (fun _ h => List.mem_cons_of_mem _ (List.mem_append_right _ h)) hown hK hP 0 rfl rfl 2 (by decide) (hts _ q_X4_add_2) (fun _ h9 => h9) rfl dX4_add_1 ?_
  refine lv_istore_n (lv' := [(3, .int (S4.1 2)), (0, .ref (g.2.2.1 4)), (1, .int x1), (2, .int x2)]) (pc := 4) hx hb dX4_add_4 rfl hl (by decide) rfl (fun ls hl => ?_)
  exact w_X4_add_5 C  N H locs S4 ls x1 x2 (S4.1 2) hP hD hS (lv_sub hl [1, 2, 3, 0] rfl) hf
theorem q_X4_addGap_0 : (.fieldLink RX4 22 "PictureCourt$Owners" "gapYears" "I" : Cond) ∈ wsX4_addGap := by decide +kernel
theorem q_X4_addGap_1 : (.fieldLink RX4 25 "PictureCourt$Owners" "longestGap" "I" : Cond) ∈ wsX4_addGap := by decide +kernel
theorem q_X4_addGap_2 : (.methodLink RX4 38 Lib.Math.max.name : Cond) ∈ wsX4_addGap := by decide +kernel
theorem q_X4_addGap_3 : (.static Lib.Math.max.name : Cond) ∈ wsX4_addGap := by decide +kernel
theorem q_X4_addGap_4 : (.initialized "java/lang/Math" : Cond) ∈ wsX4_addGap := by decide +kernel
theorem q_X4_addGap_5 : (.code Lib.Math.max.name Lib.Math.max.code 2 (some .int) : Cond) ∈ wsX4_addGap := by decide +kernel
theorem h_X4_addGap : yX4_addGap.cls = RX4 ∧ yX4_addGap.cls ≠ "java/lang/invoke/MethodHandle" ∧ yX4_addGap.cls ≠ "java/lang/invoke/VarHandle" ∧ (parseMethodDescriptor yX4_addGap.desc).map (fun d => d.parameters.length) = some 1 := by decide +kernel
set_option maxHeartbeats 4000000 in
set_option maxRecDepth 100000 in
theorem c_X4_addGap (l : Launch) (g : En) (N : Nat) (sz : Nat) (S4 : St) (x1 : Int32) (res : St) (hf : f_X4_addGap N S4 x1 = some res) : Met l yX4_addGap wsX4_addGap { frames := 1, cells := 0, slots := 0, locals := 24 } (rwP g (wd_4 g S4) sz [.ref (g.2.2.1 4), .int x1]) (rwQv g (wd_4 g res) (va_A (wd_4 g S4) sz)) 0 0 (va_A (wd_4 g S4) sz) := by
  refine Met.ofW (cc := cX4_addGap) (maxL := 2) (ret := none) (by decide) rfl ?_
  intro p e s m args below meth c s₁ B hml hv
  obtain ⟨rfl, hsz, hP, hK, hD0⟩ := hv
  have hx := B.exec
  have hb := B.bytes
  have hr := B.returns
  have hts := atoms_spec (ws := wsX4_addGap) B.pre
  have hown : s.vm.findClass RX4 = some m.cls := findClass_of_methodNamed B.named
  have hlk := B.notSynchronized
  subst hsz
  have hD := hD0.self (sz := s.heap.size)
  generalize hAe : va_A (wd_4 g S4) s.heap.size = A at hD ⊢
  have hA : ∀ q : Nat, s.heap.size ≤ q → A q := fun q h => by rw [← hAe]; exact Or.inr h
  have hS : va_S A s.heap s.heap [] := va_S.rf
  have C : cxw g A cX4_addGap 2 none wsX4_addGap RX4 p s m ([.ref (g.2.2.1 4), .int x1] : List Value).toArray meth c := ⟨⟨hx, hb, hr, hml, hown, hts, hlk⟩, hK, hA⟩
  have hl := lv_entry [.ref (g.2.2.1 4), .int x1] (n := 2) (Nat.le_of_ble_eq_true rfl)
  rw [lg_entry_eq]
  generalize (lg_sl [.ref (g.2.2.1 4), .int x1] ++ List.replicate (2 - (lg_sl [.ref (g.2.2.1 4), .int x1]).length) Slot.unset).toArray = ls at hl ⊢
  have hl : lv_has ls 2 [(0, .ref (g.2.2.1 4)), (1, .int x1)] := hl
  unfold f_X4_addGap at hf
  suffices K9 : ∀ (H : Heap) (locs : List Loc), va_P g.1 vwCl (wd_4 g S4) H → va_D A (wd_4 g S4) → va_S A s.heap H locs → (if x1 ≤ 0 then some (S4) else some ((sI (sI S4 3 ((S4.1 3) + x1)) 4 (if (S4.1 4) < x1 then x1 else (S4.1 4))))) = some res → W p l e (headSpec wsX4_addGap { frames := 1, cells := 0, slots := 0, locals := 24 }).room s m ([.ref (g.2.2.1 4), .int x1] : List Value).toArray below meth c H locs 0 0 (MQ below (rwQv g (wd_4 g res) A) ([.ref (g.2.2.1 4), .int x1] : List Value).toArray s 0 0 A) (F0 m 0 ls []) from K9 s.heap [] hP hD hS hf
  clear hP hD hS hf
  intro H locs hP hD hS hf
  refine lv_iload_n (pc := 0) hx hb dX4_addGap_0 rfl (lv_at hl 1 rfl) ?_
  refine lv_if_le (tgt := 26) (pc := 1) hx hb dX4_addGap_1 (by decide) (fun c1 => ?_) (fun c1 => ?_)
  · have hf := ft hf c1
    have hf := Option.some.inj hf
    subst hf
    exact W.vret hx hb hr (fun t ht hW => ⟨⟨(), rfl, trivial, by rw [ht]; exact hP, va_K.moved hW.alike hK, hD⟩, hS.F ht⟩) hS.2.2 dX4_addGap_26
  · have hf := ff hf c1
    refine lv_aload_n (pc := 4) hx hb dX4_addGap_4 rfl (lv_at hl 0 rfl) ?_
    refine lv_dup (pc := 5) hx hb dX4_addGap_5 rfl ?_
    refine va_get (D := g.1) (ci := 4) (v := .int (S4.1 3)) (C := RX4) (T := TX4) (N := 5) (pc := 6) hx hb hts (fun _ h => List.mem_cons_of_mem _ (List.mem_append_right _ h)) hown hK hP 0 rfl rfl 3 (by decide) (hts _ q_X4_addGap_0) (fun _ h9 => h9) rfl dX4_addGap_6 ?_
    refine lv_iload_n (pc := 9) hx hb dX4_addGap_9 rfl (lv_at hl 1 rfl) ?_
    refine lv_iadd (pc := 10) hx hb dX4_addGap_10 ?_
    refine va_put (D := g.1) (ci := 4) (v := .int ((S4.1 3) + x1)) (ty := .int) (C := RX4) (T := TX4) (N := 5) (pc := 11) hx hb hts (fun _ h => List.mem_cons_of_mem _ (List.mem_append_right _ h)) tyX4 tyX4_ok nmX4 hown hK hP hD hS 0 rfl rfl 3 (by decide) (hts _ q_X4_addGap_0) (fun _ h9 => h9) rfl rfl rfl rfl (Nat.le_of_ble_eq_true rfl) dX4_addGap_11 (fun H locs hP hD hS => ?_)
    have hP := u_4_4_3P S4 ((S4.1 3) + x1) hP
    have hD := u_4_4_3D S4 ((S4.1 3) + x1) hD
    refine lv_aload_n (pc := 14) hx hb dX4_addGap_14 rfl (lv_at hl 0 rfl) ?_
    refine lv_aload_n (pc := 15) hx hb dX4_addGap_15 rfl (lv_at hl 0 rfl) ?_
    refine va_get (D := g.1) (ci := 4) (v := .int (S4.1 4)) (C := RX4) (T := TX4) (N := 5) (pc := 16) hx hb hts (fun _ h => List.mem_cons_of_mem _ (List.mem_append_right _ h)) hown hK hP 0 rfl rfl 4 (by decide) (hts _ q_X4_addGap_1) (fun _ h9 => h9) rfl dX4_addGap_16 ?_
    refine lv_iload_n (pc := 19) hx hb dX4_addGap_19 rfl (lv_at hl 1 rfl) ?_
    refine va_mmax (pc := 20) hx hb (hml.trans hl.1.symm) hown (hts _ q_X4_addGap_2) (hts _ q_X4_addGap_3) (hts _ q_X4_addGap_4) (hts _ q_X4_addGap_5) (Nat.le_of_ble_eq_true rfl) (Nat.le_of_ble_eq_true rfl) (Nat.zero_le _) (Nat.zero_le _) dX4_addGap_20 ?_
    refine va_put (D := g.1) (ci := 4) (v := .int (if (S4.1 4) < x1 then x1 else (S4.1 4))) (ty := .int) (C := RX4) (T := TX4) (N := 5) (pc := 23) hx hb hts (fun _ h => List.mem_cons_of_mem _ (List.mem_append_right _ h)) tyX4 tyX4_ok nmX4 hown hK hP hD hS 0 rfl rfl 4 (by decide) (hts _ q_X4_addGap_1) (fun _ h9 => h9) rfl rfl rfl rfl (Nat.le_of_ble_eq_true rfl) dX4_addGap_23 (fun H locs hP hD hS => ?_)
    have hP := u_4_4_4P (sI S4 3 ((S4.1 3) + x1)) (if (S4.1 4) < x1 then x1 else (S4.1 4)) hP
    have hD := u_4_4_4D (sI S4 3 ((S4.1 3) + x1)) (if (S4.1 4) < x1 then x1 else (S4.1 4)) hD
    have hf := Option.some.inj hf
    subst hf
    exact W.vret hx hb hr (fun t ht hW => ⟨⟨(), rfl, trivial, by rw [ht]; exact hP, va_K.moved hW.alike hK, hD⟩, hS.F ht⟩) hS.2.2 dX4_addGap_26
theorem q_X4_findGaps_0 : (.fieldLink RX4 18 "PictureCourt$Owners" "size" "I" : Cond) ∈ wsX4_findGaps := by decide +kernel
theorem q_X4_findGaps_1 : (.fieldLink RX4 9 "PictureCourt$Owners" "froms" "[I" : Cond) ∈ wsX4_findGaps := by decide +kernel
theorem q_X4_findGaps_2 : (.methodLink RX4 28 Lib.Math.min.name : Cond) ∈ wsX4_findGaps := by decide +kernel
theorem q_X4_findGaps_3 : (.static Lib.Math.min.name : Cond) ∈ wsX4_findGaps := by decide +kernel
theorem q_X4_findGaps_4 : (.initialized "java/lang/Math" : Cond) ∈ wsX4_findGaps := by decide +kernel
theorem q_X4_findGaps_5 : (.code Lib.Math.min.name Lib.Math.min.code 2 (some .int) : Cond) ∈ wsX4_findGaps := by decide +kernel
theorem q_X4_findGaps_6 : (.fieldLink RX4 15 "PictureCourt$Owners" "tos" "[I" : Cond) ∈ wsX4_findGaps := by decide +kernel
theorem q_X4_findGaps_7 : (.methodLink RX4 38 Lib.Math.max.name : Cond) ∈ wsX4_findGaps := by decide +kernel
theorem q_X4_findGaps_8 : (.static Lib.Math.max.name : Cond) ∈ wsX4_findGaps := by decide +kernel
theorem q_X4_findGaps_9 : (.code Lib.Math.max.name Lib.Math.max.code 2 (some .int) : Cond) ∈ wsX4_findGaps := by decide +kernel
theorem q_X4_findGaps_10 : (.fieldLink RX4 22 "PictureCourt$Owners" "gapYears" "I" : Cond) ∈ wsX4_findGaps := by decide +kernel
theorem q_X4_findGaps_11 : (.fieldLink RX4 25 "PictureCourt$Owners" "longestGap" "I" : Cond) ∈ wsX4_findGaps := by decide +kernel
theorem h_X4_findGaps : yX4_findGaps.cls = RX4 ∧ yX4_findGaps.cls ≠ "java/lang/invoke/MethodHandle" ∧ yX4_findGaps.cls ≠ "java/lang/invoke/VarHandle" ∧ (parseMethodDescriptor yX4_findGaps.desc).map (fun d => d.parameters.length) = some 2 := by decide +kernel
set_option maxHeartbeats 4000000 in
set_option maxRecDepth 100000 in
theorem w_X4_findGaps_15_b {p : Program} {l : Launch} {e : Env} {s : State} {m : MethodId} {args : Array Value} {below : List Frame} {meth : Method} {c : Code} {g : En} {A : Nat → Prop} {N : Nat} {res : St} (C : cxw g A cX4_findGaps 5 none wsX4_findGaps RX4 p s m args meth c) (k15 : St → Int32 → Int32 → Int32 → Option (St)) (H15 : ∀ (H : Heap) (locs : List Loc) (S4 : St) (ls : Array Slot) (x2 : Int32) (x3 : Int32) (x4 : Int32), va_P g.1 vwCl (wd_4 g S4) H → va_D A (wd_4 g S4) → va_S A s.heap H locs → lv_has ls 5 [(0, .ref (g.2.2.1 4)), (2, .int x2), (3, .int x3), (4, .int x4)] → k15 S4 x2 x3 x4 = some res → W p l e (headSpec wsX4_findGaps { frames := 2, cells := 0, slots := 0, locals := 45 }).room s m args below meth c H locs 0 0 (MQ below (rwQv g (wd_4 g res) A) args s 0 0 A) (F0 m 15 ls [])) : ∀ (H : Heap) (locs : List Loc) (S4 : St) (ls : Array Slot) (x2 : Int32) (x3 : Int32) (x4 : Int32), va_P g.1 vwCl (wd_4 g S4) H → va_D A (wd_4 g S4) → va_S A s.heap H locs → lv_has ls 5 [(0, .ref (g.2.2.1 4)), (2, .int x2), (3, .int x3), (4, .int x4)] → f_X4_findGaps_15_b N   k15 S4 x2 x3 x4 = some res → W p l e (headSpec wsX4_findGaps { frames := 2, cells := 0, slots := 0, locals := 45 }).room s m args below meth c H locs 0 0 (MQ below (rwQv g (wd_4 g res) A) args s 0 0 A) (F0 m 15 ls []) := by
  intro H locs S4 ls x2 x3 x4 hP hD hS hl hf
  obtain ⟨⟨hx, hb, hr, hml, hown, hts, hlk⟩, hK, hA⟩ := id C
  unfold f_X4_findGaps_15_b at hf
  refine lv_iload (pc := 15) hx hb dX4_findGaps_15 (lv_at hl 3 rfl) ?_
  refine lv_aload_n (pc := 17) hx hb dX4_findGaps_17 rfl (lv_at hl 0 rfl) ?_
  refine va_get (D := g.1) (ci := 4) (v := .int (S4.1 2)) (C := RX4) (T := TX4) (N := 5) (pc := 18) hx hb hts (fun _ h => List.mem_cons_of_mem _ (List.mem_append_right _ h)) hown hK hP 0 rfl rfl 2 (by decide) (hts _ q_X4_findGaps_0) (fun _ h9 => h9) rfl dX4_findGaps_18 ?_
  refine lv_icmp_ge (tgt := 63) (pc := 21) hx hb dX4_findGaps_21 (by decide) (fun c21 => ?_) (fun c21 => ?_)
  · have hf := ft hf c21
    refine lv_aload_n (pc := 63) hx hb dX4_findGaps_63 rfl (lv_at hl 0 rfl) ?_
    refine lv_iload_n (pc := 64) hx hb dX4_findGaps_64 rfl (lv_at hl 1 rfl) ?_
    refine lv_iconst (v := 1) (pc := 65) hx hb dX4_findGaps_65 (by decide) ?_
    refine lv_iadd (pc := 66) hx hb dX4_findGaps_66 ?_
    refine lv_iload_n (pc := 67) hx hb dX4_findGaps_67 rfl (lv_at hl 2 rfl) ?_
    refine lv_isub (pc := 68) hx hb dX4_findGaps_68 ?_
    obtain ⟨r69, e69, hf⟩ := bdE hf
    refine kuV (g := g) (A := A) (W0 := (wd_4 g S4)) (w1 := (wd_4 g r69)) (pc := 69) (As := [.int ((x2 + 1) - x3)]) (rest := []) ⟨hx, hb, hml, hown, hts⟩ hK hA hP hD hS (c_X4_addGap l g N H.size S4 ((x2 + 1) - x3) r69 e69) (cwV 1 hts gX4_findGaps_X4_addGap rfl rfl rfl h_X4_addGap ⟨Nat.le_of_ble_eq_true rfl, Nat.le_of_ble_eq_true rfl⟩) rfl rfl rfl hl.1 rfl (Nat.le_of_ble_eq_true rfl) dX4_findGaps_69 ⟨Nat.zero_le _, Nat.zero_le _⟩ (fun H locs hP hD hS => ?_)
    have hf := Option.some.inj hf
    subst hf
    exact W.vret hx hb hr (fun t ht hW => ⟨⟨(), rfl, trivial, by rw [ht]; exact hP, va_K.moved hW.alike hK, hD⟩, hS.F ht⟩) hS.2.2 dX4_findGaps_72
  · have hf := ff hf c21
    refine lv_aload_n (pc := 24) hx hb dX4_findGaps_24 rfl (lv_at hl 0 rfl) ?_
    refine lv_aload_n (pc := 25) hx hb dX4_findGaps_25 rfl (lv_at hl 0 rfl) ?_
    refine va_get (D := g.1) (ci := 4) (v := .ref (g.2.2.2 4 0)) (C := RX4) (T := TX4) (N := 5) (pc := 26) hx hb hts (fun _ h => List.mem_cons_of_mem _ (List.mem_append_right _ h)) hown hK hP 0 rfl rfl 0 (by decide) (hts _ q_X4_findGaps_1) (fun _ h9 => h9) rfl dX4_findGaps_26 ?_
    refine lv_iload (pc := 29) hx hb dX4_findGaps_29 (lv_at hl 3 rfl) ?_
    obtain ⟨b31, hf⟩ := gdE hf
    refine va_iald (D := g.1) (tys := tyl g) (f := (S4.2.2 0)) (pc := 31) hx hb hK hP 1 0 rfl rfl (inbV b31) dX4_findGaps_31 ?_
    refine lv_iload_n (pc := 32) hx hb dX4_findGaps_32 rfl (lv_at hl 1 rfl) ?_
    refine lv_iconst (v := 1) (pc := 33) hx hb dX4_findGaps_33 (by decide) ?_
    refine lv_iadd (pc := 34) hx hb dX4_findGaps_34 ?_
    refine va_mmin (pc := 35) hx hb (hml.trans hl.1.symm) hown (hts _ q_X4_findGaps_2) (hts _ q_X4_findGaps_3) (hts _ q_X4_findGaps_4) (hts _ q_X4_findGaps_5) (Nat.le_of_ble_eq_true rfl) (Nat.le_of_ble_eq_true rfl) (Nat.zero_le _) (Nat.zero_le _) dX4_findGaps_35 ?_
    refine lv_iload_n (pc := 38) hx hb dX4_findGaps_38 rfl (lv_at hl 2 rfl) ?_
    refine lv_isub (pc := 39) hx hb dX4_findGaps_39 ?_
    obtain ⟨r40, e40, hf⟩ := bdE hf
    refine kuV (g := g) (A := A) (W0 := (wd_4 g S4)) (w1 := (wd_4 g r40)) (pc := 40) (As := [.int ((if (x2 + 1) < ((S4.2.2 0) (Int32.toNatClampNeg x4)) then (x2 + 1) else ((S4.2.2 0) (Int32.toNatClampNeg x4))) - x3)]) (rest := []) ⟨hx, hb, hml, hown, hts⟩ hK hA hP hD hS (c_X4_addGap l g N H.size S4 ((if (x2 + 1) < ((S4.2.2 0) (Int32.toNatClampNeg x4)) then (x2 + 1) else ((S4.2.2 0) (Int32.toNatClampNeg x4))) - x3) r40 e40) (cwV 1 hts gX4_findGaps_X4_addGap rfl rfl rfl h_X4_addGap ⟨Nat.le_of_ble_eq_true rfl, Nat.le_of_ble_eq_true rfl⟩) rfl rfl rfl hl.1 rfl (Nat.le_of_ble_eq_true rfl) dX4_findGaps_40 ⟨Nat.zero_le _, Nat.zero_le _⟩ (fun H locs hP hD hS => ?_)
    refine lv_iload_n (pc := 43) hx hb dX4_findGaps_43 rfl (lv_at hl 2 rfl) ?_
    refine lv_aload_n (pc := 44) hx hb dX4_findGaps_44 rfl (lv_at hl 0 rfl) ?_
    refine va_get (D := g.1) (ci := 4) (v := .ref (g.2.2.2 4 1)) (C := RX4) (T := TX4) (N := 5) (pc := 45) hx hb hts (fun _ h => List.mem_cons_of_mem _ (List.mem_append_right _ h)) hown hK hP 0 rfl rfl 1 (by decide) (hts _ q_X4_findGaps_6) (fun _ h9 => h9) rfl dX4_findGaps_45 ?_
    refine lv_iload (pc := 48) hx hb dX4_findGaps_48 (lv_at hl 3 rfl) ?_
    obtain ⟨b50, hf⟩ := gdE hf
    refine va_iald (D := g.1) (tys := tyl g) (f := (r40.2.2 1)) (pc := 50) hx hb hK hP 2 0 rfl rfl (inbV b50) dX4_findGaps_50 ?_
    refine lv_iconst (v := 1) (pc := 51) hx hb dX4_findGaps_51 (by decide) ?_
    refine lv_iadd (pc := 52) hx hb dX4_findGaps_52 ?_
    refine va_mmax (pc := 53) hx hb (hml.trans hl.1.symm) hown (hts _ q_X4_findGaps_7) (hts _ q_X4_findGaps_8) (hts _ q_X4_findGaps_4) (hts _ q_X4_findGaps_9) (Nat.le_of_ble_eq_true rfl) (Nat.le_of_ble_eq_true rfl) (Nat.zero_le _) (Nat.zero_le _) dX4_findGaps_53 ?_
    refine lv_istore_n (lv' := [(3, .int (if x3 < (((r40.2.2 1) (Int32.toNatClampNeg x4)) + 1) then (((r40.2.2 1) (Int32.toNatClampNeg x4)) + 1) else x3)), (0, .ref (g.2.2.1 4)), (2, .int x2), (4, .int x4)]) (pc := 56) hx hb dX4_findGaps_56 rfl hl (by decide) rfl (fun ls hl => ?_)
    refine lv_iinc (v := (x4 + 1)) (lv' := [(4, .int (x4 + 1)), (3, .int (if x3 < (((r40.2.2 1) (Int32.toNatClampNeg x4)) + 1) then (((r40.2.2 1) (Int32.toNatClampNeg x4)) + 1) else x3)), (0, .ref (g.2.2.1 4)), (2, .int x2)]) (pc := 57) hx hb dX4_findGaps_57 hl (k := 3) rfl rfl (by decide) rfl (fun ls hl => ?_)
    refine lv_goto (tgt := 15) (pc := 60) hx hb dX4_findGaps_60 (by decide) ?_
    exact H15 H locs r40 ls x2 (if x3 < (((r40.2.2 1) (Int32.toNatClampNeg x4)) + 1) then (((r40.2.2 1) (Int32.toNatClampNeg x4)) + 1) else x3) (x4 + 1) hP hD hS (lv_sub hl [2, 3, 1, 0] rfl) hf
set_option maxHeartbeats 4000000 in
set_option maxRecDepth 100000 in
theorem w_X4_findGaps_15 {p : Program} {l : Launch} {e : Env} {s : State} {m : MethodId} {args : Array Value} {below : List Frame} {meth : Method} {c : Code} {g : En} {A : Nat → Prop} {N : Nat} {res : St} (C : cxw g A cX4_findGaps 5 none wsX4_findGaps RX4 p s m args meth c) : ∀ (n : Nat), ∀ (H : Heap) (locs : List Loc) (S4 : St) (ls : Array Slot) (x2 : Int32) (x3 : Int32) (x4 : Int32), va_P g.1 vwCl (wd_4 g S4) H → va_D A (wd_4 g S4) → va_S A s.heap H locs → lv_has ls 5 [(0, .ref (g.2.2.1 4)), (2, .int x2), (3, .int x3), (4, .int x4)] → f_X4_findGaps_15 N   n S4 x2 x3 x4 = some res → W p l e (headSpec wsX4_findGaps { frames := 2, cells := 0, slots := 0, locals := 45 }).room s m args below meth c H locs 0 0 (MQ below (rwQv g (wd_4 g res) A) args s 0 0 A) (F0 m 15 ls []) := by
  intro n
  induction n with
  | zero =>
    intro H locs S4 ls x2 x3 x4 hP hD hS hl hf
    have hf : (none : Option (St)) = some res := hf
    cases hf
  | succ n ih =>
    intro H locs S4 ls x2 x3 x4 hP hD hS hl hf
    exact w_X4_findGaps_15_b C  (fun y0 y1 y2 y3 => f_X4_findGaps_15 N   n y0 y1 y2 y3) ih H locs S4 ls x2 x3 x4 hP hD hS hl hf
set_option maxHeartbeats 4000000 in
set_option maxRecDepth 100000 in
theorem c_X4_findGaps (l : Launch) (g : En) (N : Nat) (sz : Nat) (S4 : St) (x1 : Int32) (x2 : Int32) (res : St) (hf : f_X4_findGaps N S4 x1 x2 = some res) : Met l yX4_findGaps wsX4_findGaps { frames := 2, cells := 0, slots := 0, locals := 45 } (rwP g (wd_4 g S4) sz [.ref (g.2.2.1 4), .int x1, .int x2]) (rwQv g (wd_4 g res) (va_A (wd_4 g S4) sz)) 0 0 (va_A (wd_4 g S4) sz) := by
  refine Met.ofW (cc := cX4_findGaps) (maxL := 5) (ret := none) (by decide) rfl ?_
  intro p e s m args below meth c s₁ B hml hv
  obtain ⟨rfl, hsz, hP, hK, hD0⟩ := hv
  have hx := B.exec
  have hb := B.bytes
  have hr := B.returns
  have hts := atoms_spec (ws := wsX4_findGaps) B.pre
  have hown : s.vm.findClass RX4 = some m.cls := findClass_of_methodNamed B.named
  have hlk := B.notSynchronized
  subst hsz
  have hD := hD0.self (sz := s.heap.size)
  generalize hAe : va_A (wd_4 g S4) s.heap.size = A at hD ⊢
  have hA : ∀ q : Nat, s.heap.size ≤ q → A q := fun q h => by rw [← hAe]; exact Or.inr h
  have hS : va_S A s.heap s.heap [] := va_S.rf
  have C : cxw g A cX4_findGaps 5 none wsX4_findGaps RX4 p s m ([.ref (g.2.2.1 4), .int x1, .int x2] : List Value).toArray meth c := ⟨⟨hx, hb, hr, hml, hown, hts, hlk⟩, hK, hA⟩
  have hl := lv_entry [.ref (g.2.2.1 4), .int x1, .int x2] (n := 5) (Nat.le_of_ble_eq_true rfl)
  rw [lg_entry_eq]
  generalize (lg_sl [.ref (g.2.2.1 4), .int x1, .int x2] ++ List.replicate (5 - (lg_sl [.ref (g.2.2.1 4), .int x1, .int x2]).length) Slot.unset).toArray = ls at hl ⊢
  have hl : lv_has ls 5 [(0, .ref (g.2.2.1 4)), (1, .int x1), (2, .int x2)] := hl
  unfold f_X4_findGaps at hf
  suffices K9 : ∀ (H : Heap) (locs : List Loc), va_P g.1 vwCl (wd_4 g S4) H → va_D A (wd_4 g S4) → va_S A s.heap H locs → (f_X4_findGaps_15 N   N (sI (sI S4 3 0) 4 0) x2 x1 0) = some res → W p l e (headSpec wsX4_findGaps { frames := 2, cells := 0, slots := 0, locals := 45 }).room s m ([.ref (g.2.2.1 4), .int x1, .int x2] : List Value).toArray below meth c H locs 0 0 (MQ below (rwQv g (wd_4 g res) A) ([.ref (g.2.2.1 4), .int x1, .int x2] : List Value).toArray s 0 0 A) (F0 m 0 ls []) from K9 s.heap [] hP hD hS hf
  clear hP hD hS hf
  intro H locs hP hD hS hf
  refine lv_aload_n (pc := 0) hx hb dX4_findGaps_0 rfl (lv_at hl 0 rfl) ?_
  refine lv_iconst (v := 0) (pc := 1) hx hb dX4_findGaps_1 (by decide) ?_
  refine va_put (D := g.1) (ci := 4) (v := .int 0) (ty := .int) (C := RX4) (T := TX4) (N := 5) (pc := 2) hx hb hts (fun _ h => List.mem_cons_of_mem _ (List.mem_append_right _ h)) tyX4 tyX4_ok nmX4 hown hK hP hD hS 0 rfl rfl 3 (by decide) (hts _ q_X4_findGaps_10) (fun _ h9 => h9) rfl rfl rfl rfl (Nat.le_of_ble_eq_true rfl) dX4_findGaps_2 (fun H locs hP hD hS => ?_)
  have hP := u_4_4_3P S4 0 hP
  have hD := u_4_4_3D S4 0 hD
  refine lv_aload_n (pc := 5) hx hb dX4_findGaps_5 rfl (lv_at hl 0 rfl) ?_
  refine lv_iconst (v := 0) (pc := 6) hx hb dX4_findGaps_6 (by decide) ?_
  refine va_put (D := g.1) (ci := 4) (v := .int 0) (ty := .int) (C := RX4) (T := TX4) (N := 5) (pc := 7) hx hb hts (fun _ h => List.mem_cons_of_mem _ (List.mem_append_right _ h)) tyX4 tyX4_ok nmX4 hown hK hP hD hS 0 rfl rfl 4 (by decide) (hts _ q_X4_findGaps_11) (fun _ h9 => h9) rfl rfl rfl rfl (Nat.le_of_ble_eq_true rfl) dX4_findGaps_7 (fun H locs hP hD hS => ?_)
  have hP := u_4_4_4P (sI S4 3 0) 0 hP
  have hD := u_4_4_4D (sI S4 3 0) 0 hD
  refine lv_iload_n (pc := 10) hx hb dX4_findGaps_10 rfl (lv_at hl 1 rfl) ?_
  refine lv_istore_n (lv' := [(3, .int x1), (0, .ref (g.2.2.1 4)), (1, .int x1), (2, .int x2)]) (pc := 11) hx hb dX4_findGaps_11 rfl hl (by decide) rfl (fun ls hl => ?_)
  refine lv_iconst (v := 0) (pc := 12) hx hb dX4_findGaps_12 (by decide) ?_
  refine lv_istore (lv' := [(4, .int 0), (3, .int x1), (0, .ref (g.2.2.1 4)), (1, .int x1), (2, .int x2)]) (pc := 13) hx hb dX4_findGaps_13 hl (by decide) rfl (fun ls hl => ?_)
  exact w_X4_findGaps_15 C  N H locs (sI (sI S4 3 0) 4 0) ls x2 x1 0 hP hD hS (lv_sub hl [2, 4, 1, 0] rfl) hf
