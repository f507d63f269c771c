/-! the two constructors -/
def INX (D : va_G) (c h : Nat) (fs : List Value) (sz : Nat) : State → Prop := fun U => U.heap.size = sz ∧ va_P D vwCl [(h, .inr (c, fs))] U.heap ∧ va_K D vwCl [] U ∧ va_D (fun _ => True) [(h, .inr (c, fs))]
theorem INX.blind {D : va_G} {c h sz : Nat} {fs : List Value} {av : List Value} : FrameBlind (va_Pc av (INX D c h fs sz)) := fun b U g mk q => ⟨q.1, q.2.1, q.2.2.1, va_K.moved (u := U) (U := U.calling g mk b) (Vm.Alike.refl U.vm) q.2.2.2.1, q.2.2.2.2⟩
theorem INX.pre {D : va_G} {c h : Nat} {fs : List Value} {av : List Value} {s : State} {H : Heap} {A : Nat → Prop} (hK : va_K D vwCl [] s) (hP : va_P D vwCl [(h, .inr (c, fs))] H) (hD : va_D A [(h, .inr (c, fs))]) : ∀ U : State, U.heap = H → s.WarmedH U.vm → va_Pc av (INX D c h fs H.size) av.toArray U := fun U hU hW => ⟨rfl, by rw [hU], by rw [hU]; exact hP, va_K.moved hW.alike hK, hD.weaken (fun _ _ _ _ => trivial)⟩
abbrev f2_0 : List Value := [.null, .null, .int 0, .int 0, .int 0, .int 0, .int 0]
abbrev f3_0 : List Value := [.int 0, .int 0, .null, .null, .int 0, .int 0, .int 0, .int 0, .int 0, .long 0, .long 0, .int 0, .int 0]
abbrev z0I : Nat → Int32 := fun _ => 0
abbrev z0J : Nat → Int64 := fun _ => 0
theorem kS_X2_init : yX2_init.cls ≠ "java/lang/invoke/MethodHandle" ∧ yX2_init.cls ≠ "java/lang/invoke/VarHandle" ∧ (parseMethodDescriptor yX2_init.desc).map (fun d => d.parameters.length) = some 0 := by decide +kernel
theorem kS_X3_init : yX3_init.cls ≠ "java/lang/invoke/MethodHandle" ∧ yX3_init.cls ≠ "java/lang/invoke/VarHandle" ∧ (parseMethodDescriptor yX3_init.desc).map (fun d => d.parameters.length) = some 0 := by decide +kernel
set_option maxHeartbeats 4000000 in
set_option maxRecDepth 100000 in
theorem c_X2_init (l : Launch) (D : va_G) (h : Nat) (sz : Nat) : Met l yX2_init wsX2_init ({ frames := 1, cells := 2, slots := 16, locals := 12 } : Room) (va_Pc [.ref h] (INX D 1 h f2_0 sz)) (va_Qv (fun _ : Unit => True) (fun _ t => ∃ (q1 q2 : Nat) (cA cB : ClassId), va_K D vwCl (tRS cA cB) t ∧ va_P D vwCl (cRS h q1 q2 cA cB z0I z0J 1023 0 false 0 false) t.heap ∧ va_D (va_A [(h, .inr (1, f2_0))] sz) (cRS h q1 q2 cA cB z0I z0J 1023 0 false 0 false)) (va_A [(h, .inr (1, f2_0))] sz)) 2 16 (va_A [(h, .inr (1, f2_0))] sz) := by
  refine Met.ofW (cc := cX2_init) (maxL := 1) (ret := none) (by decide) rfl ?_
  intro p e s m args below meth c s₁ B hml hv
  obtain ⟨rfl, hsz, hP, hK, hD0⟩ := hv
  have hx := B.exec
  have hb := B.bytes
  have hr := B.returns
  have hts := atoms_spec (ws := wsX2_init) B.pre
  have hown : s.vm.findClass RX2 = some m.cls := findClass_of_methodNamed B.named
  have hlocks := B.notSynchronized
  have hin : meth.name = "<init>" := (name_of_methodNamed B.named B.method).1
  have in_X2 : ∀ w ∈ wsX20, w ∈ wsX2_init := by decide +kernel
  have w_1 := hts (.methodLink RX2 3 objectInit) (by decide +kernel)
  have w_2 := hts (.instanceMethod objectInit) (by decide +kernel)
  have w_3 := hts (.code objectInit ⟨#[0xb1]⟩ 1 none) (by decide +kernel)
  have w_4 := hts (.fieldLink RX2 9 "RealSteps" "tops" "[I") (by decide +kernel)
  have w_5 := hts (.fieldLink RX2 13 "RealSteps" "fractions" "[J") (by decide +kernel)
  have w_6 := hts (.fieldLink RX2 17 "RealSteps" "controlWord" "I") (by decide +kernel)
  have w_7 := hts (.fieldLink RX2 21 "RealSteps" "toldBits" "I") (by decide +kernel)
  have w_8 := hts (.fieldLink RX2 24 "RealSteps" "answered" "Z") (by decide +kernel)
  have w_9 := hts (.fieldLink RX2 28 "RealSteps" "quotientBits" "I") (by decide +kernel)
  have w_10 := hts (.fieldLink RX2 31 "RealSteps" "partial" "Z") (by decide +kernel)
  have w_11 := hts (.arrayClass .int) (by decide +kernel)
  have w_12 := hts (.arrayClass .long) (by decide +kernel)
  subst hsz
  have hD := hD0.self (sz := s.heap.size)
  generalize hAe : va_A [(h, .inr (1, f2_0))] s.heap.size = A at hD ⊢
  have hA : ∀ q : Nat, s.heap.size ≤ q → A q := fun q h => by rw [← hAe]; exact Or.inr h
  have hS : va_S A s.heap s.heap [] := va_S.rf
  have hl := lv_entry ([.ref h]) (n := 1) (Nat.le_of_ble_eq_true rfl)
  rw [lg_entry_eq]
  generalize (lg_sl ([.ref h]) ++ List.replicate (1 - (lg_sl ([.ref h])).length) Slot.unset).toArray = ls at hl ⊢
  have hl : lv_has ls 1 [(0, .ref h)] := hl
  refine lv_aload_n hx hb dX2_init_0 rfl (lv_at hl 0 rfl) ?_
  refine W.objInit hx hb hown w_1 w_2 w_3 rfl (by rw [hml]; exact hl.1) rfl dX2_init_1 (Nat.le_of_ble_eq_true rfl) (Nat.le_of_ble_eq_true rfl) ?_
  refine W.eq (g2 := F0 m 4 ls []) rfl ?_
  refine lv_aload_n hx hb dX2_init_4 rfl (lv_at hl 0 rfl) ?_
  refine lv_bipush (v := 8) hx hb dX2_init_5 (by decide) ?_
  refine va_newa (atype := .int) (ty := .int) (N' := 8) (a0 := (8, .inl z0I)) hx hb w_11 rfl hK hP hD hS hA (fun _ => rfl) (by decide) (by decide) (by decide) (Nat.le_of_ble_eq_true rfl) (Nat.le_of_ble_eq_true rfl) dX2_init_7 (fun q1 cA H hK hP hD hS => ?_)
  refine va_putF (v := .ref q1) (ty := tyX2 0) (C := RX2) (T := TX2) (N := 7) hx hb hts in_X2 tyX2 tyX2_ok nmX2 hown hK hP hD hS 0 rfl rfl 0 (by decide) w_4 (fun _ h9 => h9) rfl hin rfl (tyX2_ok 0 (by decide)) rfl rfl (Nat.le_of_ble_eq_true rfl) dX2_init_9 (fun H locs hP hD hS => ?_)
  refine lv_aload_n hx hb dX2_init_12 rfl (lv_at hl 0 rfl) ?_
  refine lv_bipush (v := 8) hx hb dX2_init_13 (by decide) ?_
  refine va_newa (atype := .long) (ty := .long) (N' := 8) (a0 := (8, .inr (.inl z0J))) hx hb w_12 rfl hK hP hD hS hA (fun _ => rfl) (by decide) (by decide) (by decide) (Nat.le_of_ble_eq_true rfl) (Nat.le_of_ble_eq_true rfl) dX2_init_15 (fun q2 cB H hK hP hD hS => ?_)
  refine va_putF (v := .ref q2) (ty := tyX2 1) (C := RX2) (T := TX2) (N := 7) hx hb hts in_X2 tyX2 tyX2_ok nmX2 hown hK hP hD hS 0 rfl rfl 1 (by decide) w_5 (fun _ h9 => h9) rfl hin rfl (tyX2_ok 1 (by decide)) rfl rfl (Nat.le_of_ble_eq_true rfl) dX2_init_17 (fun H locs hP hD hS => ?_)
  have hK : va_K D vwCl (tRS cA cB) s := hK
  have hP : va_P D vwCl (cRS h q1 q2 cA cB z0I z0J 0 0 false 0 false) H := hP
  have hD : va_D A (cRS h q1 q2 cA cB z0I z0J 0 0 false 0 false) := hD
  refine lv_aload_n hx hb dX2_init_20 rfl (lv_at hl 0 rfl) ?_
  refine lv_sipush (v := 1023) hx hb dX2_init_21 (by decide) ?_
  refine va_put (v := .int 1023) (ty := .int) (C := RX2) (T := TX2) (N := 7) hx hb hts in_X2 tyX2 tyX2_ok nmX2 hown hK hP hD hS 0 rfl rfl 2 (by decide) w_6 (fun _ h9 => h9) rfl (tyX2_ok 2 (by decide)) rfl rfl (Nat.le_of_ble_eq_true rfl) dX2_init_24 (fun H locs hP hD hS => ?_)
  refine lv_aload_n hx hb dX2_init_27 rfl (lv_at hl 0 rfl) ?_
  refine lv_iconst (v := 0) hx hb dX2_init_28 (by decide) ?_
  refine va_put (v := .int 0) (ty := .int) (C := RX2) (T := TX2) (N := 7) hx hb hts in_X2 tyX2 tyX2_ok nmX2 hown hK hP hD hS 0 rfl rfl 3 (by decide) w_7 (fun _ h9 => h9) rfl (tyX2_ok 3 (by decide)) rfl rfl (Nat.le_of_ble_eq_true rfl) dX2_init_29 (fun H locs hP hD hS => ?_)
  refine lv_aload_n hx hb dX2_init_32 rfl (lv_at hl 0 rfl) ?_
  refine lv_iconst (v := 0) hx hb dX2_init_33 (by decide) ?_
  refine va_put (v := .int 0) (ty := .boolean) (C := RX2) (T := TX2) (N := 7) hx hb hts in_X2 tyX2 tyX2_ok nmX2 hown hK hP hD hS 0 rfl rfl 4 (by decide) w_8 (fun _ h9 => h9) rfl (tyX2_ok 4 (by decide)) rfl rfl (Nat.le_of_ble_eq_true rfl) dX2_init_34 (fun H locs hP hD hS => ?_)
  refine lv_aload_n hx hb dX2_init_37 rfl (lv_at hl 0 rfl) ?_
  refine lv_iconst (v := 0) hx hb dX2_init_38 (by decide) ?_
  refine va_put (v := .int 0) (ty := .int) (C := RX2) (T := TX2) (N := 7) hx hb hts in_X2 tyX2 tyX2_ok nmX2 hown hK hP hD hS 0 rfl rfl 5 (by decide) w_9 (fun _ h9 => h9) rfl (tyX2_ok 5 (by decide)) rfl rfl (Nat.le_of_ble_eq_true rfl) dX2_init_39 (fun H locs hP hD hS => ?_)
  refine lv_aload_n hx hb dX2_init_42 rfl (lv_at hl 0 rfl) ?_
  refine lv_iconst (v := 0) hx hb dX2_init_43 (by decide) ?_
  refine va_put (v := .int 0) (ty := .boolean) (C := RX2) (T := TX2) (N := 7) hx hb hts in_X2 tyX2 tyX2_ok nmX2 hown hK hP hD hS 0 rfl rfl 6 (by decide) w_10 (fun _ h9 => h9) rfl (tyX2_ok 6 (by decide)) rfl rfl (Nat.le_of_ble_eq_true rfl) dX2_init_44 (fun H locs hP hD hS => ?_)
  have hP : va_P D vwCl (cRS h q1 q2 cA cB z0I z0J 1023 0 false 0 false) H := hP
  have hD : va_D A (cRS h q1 q2 cA cB z0I z0J 1023 0 false 0 false) := hD
  exact W.vret hx hb hr (fun t9 ht hW => ⟨⟨(), rfl, trivial, ⟨q1, q2, cA, cB, va_K.moved hW.alike hK, by rw [ht]; exact hP, hD⟩⟩, hS.F ht⟩) hS.2.2 dX2_init_47
set_option maxHeartbeats 4000000 in
set_option maxRecDepth 100000 in
theorem c_X3_init (l : Launch) (D : va_G) (h : Nat) (sz : Nat) : Met l yX3_init wsX3_init ({ frames := 1, cells := 2, slots := 16, locals := 12 } : Room) (va_Pc [.ref h] (INX D 2 h f3_0 sz)) (va_Qv (fun _ : Unit => True) (fun _ t => ∃ (q1 q2 : Nat) (cA cB : ClassId), va_K D vwCl (tRS cA cB) t ∧ va_P D vwCl (cMd h q1 q2 cA cB 0 1023 z0I z0J 0 false 0 false 0 0 0 0 false) t.heap ∧ va_D (va_A [(h, .inr (2, f3_0))] sz) (cMd h q1 q2 cA cB 0 1023 z0I z0J 0 false 0 false 0 0 0 0 false)) (va_A [(h, .inr (2, f3_0))] sz)) 2 16 (va_A [(h, .inr (2, f3_0))] sz) := by
  refine Met.ofW (cc := cX3_init) (maxL := 1) (ret := none) (by decide) rfl ?_
  intro p e s m args below meth c s₁ B hml hv
  obtain ⟨rfl, hsz, hP, hK, hD0⟩ := hv
  have hx := B.exec
  have hb := B.bytes
  have hr := B.returns
  have hts := atoms_spec (ws := wsX3_init) B.pre
  have hown : s.vm.findClass RX3 = some m.cls := findClass_of_methodNamed B.named
  have hlocks := B.notSynchronized
  have hin : meth.name = "<init>" := (name_of_methodNamed B.named B.method).1
  have in_X3 : ∀ w ∈ wsX30, w ∈ wsX3_init := by decide +kernel
  have w_1 := hts (.methodLink RX3 1 objectInit) (by decide +kernel)
  have w_2 := hts (.instanceMethod objectInit) (by decide +kernel)
  have w_3 := hts (.code objectInit ⟨#[0xb1]⟩ 1 none) (by decide +kernel)
  have w_4 := hts (.fieldLink RX3 7 "RealStepsModel" "control" "I") (by decide +kernel)
  have w_5 := hts (.fieldLink RX3 13 "RealStepsModel" "top" "[I") (by decide +kernel)
  have w_6 := hts (.fieldLink RX3 17 "RealStepsModel" "fraction" "[J") (by decide +kernel)
  have w_11 := hts (.arrayClass .int) (by decide +kernel)
  have w_12 := hts (.arrayClass .long) (by decide +kernel)
  subst hsz
  have hD := hD0.self (sz := s.heap.size)
  generalize hAe : va_A [(h, .inr (2, f3_0))] s.heap.size = A at hD ⊢
  have hA : ∀ q : Nat, s.heap.size ≤ q → A q := fun q h => by rw [← hAe]; exact Or.inr h
  have hS : va_S A s.heap s.heap [] := va_S.rf
  have hl := lv_entry ([.ref h]) (n := 1) (Nat.le_of_ble_eq_true rfl)
  rw [lg_entry_eq]
  generalize (lg_sl ([.ref h]) ++ List.replicate (1 - (lg_sl ([.ref h])).length) Slot.unset).toArray = ls at hl ⊢
  have hl : lv_has ls 1 [(0, .ref h)] := hl
  refine lv_aload_n hx hb dX3_init_0 rfl (lv_at hl 0 rfl) ?_
  refine W.objInit hx hb hown w_1 w_2 w_3 rfl (by rw [hml]; exact hl.1) rfl dX3_init_1 (Nat.le_of_ble_eq_true rfl) (Nat.le_of_ble_eq_true rfl) ?_
  refine W.eq (g2 := F0 m 4 ls []) rfl ?_
  refine lv_aload_n hx hb dX3_init_4 rfl (lv_at hl 0 rfl) ?_
  refine lv_sipush (v := 1023) hx hb dX3_init_5 (by decide) ?_
  refine va_put (v := .int 1023) (ty := .int) (C := RX3) (T := TX3) (N := 13) hx hb hts in_X3 tyX3 tyX3_ok nmX3 hown hK hP hD hS 0 rfl rfl 1 (by decide) w_4 (fun _ h9 => h9) rfl (tyX3_ok 1 (by decide)) rfl rfl (Nat.le_of_ble_eq_true rfl) dX3_init_8 (fun H locs hP hD hS => ?_)
  refine lv_aload_n hx hb dX3_init_11 rfl (lv_at hl 0 rfl) ?_
  refine lv_bipush (v := 8) hx hb dX3_init_12 (by decide) ?_
  refine va_newa (atype := .int) (ty := .int) (N' := 8) (a0 := (8, .inl z0I)) hx hb w_11 rfl hK hP hD hS hA (fun _ => rfl) (by decide) (by decide) (by decide) (Nat.le_of_ble_eq_true rfl) (Nat.le_of_ble_eq_true rfl) dX3_init_14 (fun q1 cA H hK hP hD hS => ?_)
  refine va_putF (v := .ref q1) (ty := tyX3 2) (C := RX3) (T := TX3) (N := 13) hx hb hts in_X3 tyX3 tyX3_ok nmX3 hown hK hP hD hS 0 rfl rfl 2 (by decide) w_5 (fun _ h9 => h9) rfl hin rfl (tyX3_ok 2 (by decide)) rfl rfl (Nat.le_of_ble_eq_true rfl) dX3_init_16 (fun H locs hP hD hS => ?_)
  refine lv_aload_n hx hb dX3_init_19 rfl (lv_at hl 0 rfl) ?_
  refine lv_bipush (v := 8) hx hb dX3_init_20 (by decide) ?_
  refine va_newa (atype := .long) (ty := .long) (N' := 8) (a0 := (8, .inr (.inl z0J))) hx hb w_12 rfl hK hP hD hS hA (fun _ => rfl) (by decide) (by decide) (by decide) (Nat.le_of_ble_eq_true rfl) (Nat.le_of_ble_eq_true rfl) dX3_init_22 (fun q2 cB H hK hP hD hS => ?_)
  refine va_putF (v := .ref q2) (ty := tyX3 3) (C := RX3) (T := TX3) (N := 13) hx hb hts in_X3 tyX3 tyX3_ok nmX3 hown hK hP hD hS 0 rfl rfl 3 (by decide) w_6 (fun _ h9 => h9) rfl hin rfl (tyX3_ok 3 (by decide)) rfl rfl (Nat.le_of_ble_eq_true rfl) dX3_init_24 (fun H locs hP hD hS => ?_)
  have hK : va_K D vwCl (tRS cA cB) s := hK
  have hP : va_P D vwCl (cMd h q1 q2 cA cB 0 1023 z0I z0J 0 false 0 false 0 0 0 0 false) H := hP
  have hD : va_D A (cMd h q1 q2 cA cB 0 1023 z0I z0J 0 false 0 false 0 0 0 0 false) := hD
  exact W.vret hx hb hr (fun t9 ht hW => ⟨⟨(), rfl, trivial, ⟨q1, q2, cA, cB, va_K.moved hW.alike hK, by rw [ht]; exact hP, hD⟩⟩, hS.F ht⟩) hS.2.2 dX3_init_27
